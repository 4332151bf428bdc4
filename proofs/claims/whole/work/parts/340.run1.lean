/-! the run: numbers modulo m as Nats -/
def sm (A B m : Nat) : Nat := (((A : Int) - (B : Int)) % (m : Int)).toNat
theorem sm_lt (A B : Nat) {m : Nat} (h : 1 ≤ m) : sm A B m < m := by
  unfold sm
  have h1 := Int.emod_lt_of_pos ((A : Int) - (B : Int)) (show (0 : Int) < (m : Int) by omega)
  have h2 := Int.emod_nonneg ((A : Int) - (B : Int)) (show (m : Int) ≠ 0 by omega)
  omega
theorem sm_cong {A B A' B' m : Nat} (h : ((A : Int) - B) % m = ((A' : Int) - B') % m) : sm A B m = sm A' B' m := by
  unfold sm
  rw [h]
theorem sm_modl (A B m : Nat) : sm (A % m) B m = sm A B m := by
  apply sm_cong
  rw [Int.sub_emod, Int.natCast_emod, Int.emod_emod, ← Int.sub_emod]
theorem nI_subneg {a b : Nat} (h : a ≤ b) : nI a - nI b = -(nI (b - a)) := by
  have e : nI b = nI a + nI (b - a) := by rw [nI_add]; congr 1; omega
  rw [e, Int32.sub_eq_add_neg, Int32.neg_add, Int32.sub_eq_add_neg, ← Int32.add_assoc, Int32.add_right_neg, Int32.zero_add]
theorem neg_toInt {e : Nat} (h : e < 2 ^ 31) : (-(nI e)).toInt = -(e : Int) := by
  rw [Int32.toInt_neg, nI_toInt h]
  apply Int.bmod_eq_of_le
  · omega
  · omega
theorem neg_div {e m : Nat} (he : e < 2 ^ 31) (h1 : 1 ≤ m) (h2 : m < 2 ^ 31) : -(nI e) / nI m = -(nI (e / m)) := by
  apply Int32.toInt_inj.mp
  have hle : e / m ≤ e := Nat.div_le_self e m
  rw [Int32.toInt_div_of_ne_right _ _ (fun q => by
    have := congrArg Int32.toInt q
    rw [nI_toInt h2] at this
    have h3 : (-1 : Int32).toInt = -1 := by decide
    rw [h3] at this
    omega), neg_toInt he, neg_toInt (by omega), nI_toInt h2, Int.neg_tdiv, ← Int.ofNat_tdiv]
theorem md_sub {a b m : Nat} (ha : a < 2 ^ 30) (hb : b < 2 ^ 30) (h1 : 1 ≤ m) (h2 : m < 2 ^ 30) : md (nI a - nI b) (nI m) = nI (sm a b m) := by
  rcases Nat.lt_or_ge a b with q | q
  · obtain ⟨e, he⟩ : ∃ e, e = b - a := ⟨_, rfl⟩
    have hm : e % m < m := Nat.mod_lt e (by omega)
    have hd : e / m * m + e % m = e := Nat.div_add_mod' e m
    have hr : nI a - nI b - (nI a - nI b) / nI m * nI m = -(nI (e % m)) := by
      rw [nI_subneg (by omega), ← he, neg_div (by omega) h1 (by omega), Int32.neg_mul, nI_mul, Int32.sub_eq_add_neg, Int32.neg_neg, Int32.add_comm, ← Int32.sub_eq_add_neg, nI_subneg (by omega)]
      congr 2
      omega
    have hsm : sm a b m = if e % m = 0 then 0 else m - e % m := by
      unfold sm
      have e1 : ((a : Int) - (b : Int)) = -(e : Int) := by omega
      have e3 : (-(e : Int)) = ((m : Int) - ((e % m : Nat) : Int)) + (m : Int) * (-((e / m : Nat) : Int) - 1) := by
        have e4 : ((e / m * m + e % m : Nat) : Int) = (e : Int) := by rw [hd]
        rw [Int.mul_sub, Int.mul_neg, Int.mul_one]
        have e5 : ((e / m * m + e % m : Nat) : Int) = (m : Int) * ((e / m : Nat) : Int) + ((e % m : Nat) : Int) := by rw [Int.natCast_add, Int.natCast_mul, Int.mul_comm]
        omega
      rw [e1, e3, Int.add_mul_emod_self_left]
      by_cases z : e % m = 0
      · rw [if_pos z, z]
        simp
      · rw [if_neg z, Int.emod_eq_of_lt (by omega) (by omega)]
        omega
    unfold md
    rw [hr, hsm]
    by_cases z : e % m = 0
    · rw [if_pos z, z, if_pos (by decide)]
      rfl
    · rw [if_neg z, if_neg]
      · rw [Int32.add_comm, ← Int32.sub_eq_add_neg, pk_sub (by omega)]
      · intro h
        have := Int32.le_iff_toInt_le.mp h
        rw [neg_toInt (by omega)] at this
        have z0 : (0 : Int32).toInt = 0 := by decide
        rw [z0] at this
        omega
  · rw [pk_sub q, md_nI (by omega) h1 (by omega)]
    congr 1
    unfold sm
    have e : ((a : Int) - (b : Int)) = ((a - b : Nat) : Int) := by omega
    rw [e, ← Int.natCast_emod]
    rfl
