/-! a number's digits as a curve -/
def dgI (q : Nat) : Nat → Nat → List Int
  | 0, _ => []
  | c + 1, v => ((v % q : Nat) : Int) :: dgI q c (v / q)
theorem dgI_s (q c v : Nat) : dgI q (c + 1) v = ((v % q : Nat) : Int) :: dgI q c (v / q) := rfl
theorem dgI_len (q : Nat) : ∀ c v : Nat, (dgI q c v).length = c := by
  intro c
  induction c with
  | zero => intro v; rfl
  | succ c ih => intro v; rw [dgI_s, List.length_cons, ih]
def psub : List Int → List Int → List Int
  | a :: l, b :: r => (a - b) :: psub l r
  | _, _ => []
theorem psub_len : ∀ (l r : List Int), l.length = r.length → (psub l r).length = l.length := by
  intro l
  induction l with
  | nil => intro r _; cases r <;> rfl
  | cons a l ih =>
    intro r h
    cases r with
    | nil => exact absurd h (by simp)
    | cons b r =>
      show ((a - b) :: psub l r).length = _
      rw [List.length_cons, List.length_cons, ih r (by simpa using h)]
theorem psub_ev (x : Int) : ∀ (l r : List Int), l.length = r.length → pev (psub l r) x = pev l x - pev r x := by
  intro l
  induction l with
  | nil =>
    intro r h
    have : r = [] := List.length_eq_zero_iff.mp h.symm
    rw [this]
    simp [psub, pev]
  | cons a l ih =>
    intro r h
    cases r with
    | nil => exact absurd h (by simp)
    | cons b r =>
      show pev ((a - b) :: psub l r) x = _
      rw [pev_c, pev_c, pev_c, ih r (by simpa using h), Int.mul_sub]
      omega
theorem dg_eq {q : Nat} (hq : 1 ≤ q) : ∀ (c v u : Nat), v < q ^ c → u < q ^ c → (∀ e ∈ psub (dgI q c v) (dgI q c u), (q : Int) ∣ e) → v = u := by
  intro c
  induction c with
  | zero =>
    intro v u hv hu _
    rw [Nat.pow_zero] at hv hu
    omega
  | succ c ih =>
    intro v u hv hu h
    rw [dgI_s, dgI_s] at h
    have h0 : (q : Int) ∣ ((v % q : Nat) : Int) - ((u % q : Nat) : Int) := h _ (List.mem_cons_self ..)
    have hr := ih (v / q) (u / q) (Nat.div_lt_of_lt_mul (by rw [Nat.pow_succ, Nat.mul_comm] at hv; exact hv)) (Nat.div_lt_of_lt_mul (by rw [Nat.pow_succ, Nat.mul_comm] at hu; exact hu)) (fun e he => h e (List.mem_cons_of_mem _ he))
    have b1 := Nat.mod_lt v (show 0 < q by omega)
    have b2 := Nat.mod_lt u (show 0 < q by omega)
    have hm : v % q = u % q := by
      obtain ⟨t, ht⟩ := h0
      have ht0 : t = 0 := by
        rcases Int.lt_trichotomy t 0 with z | z | z
        · have : (q : Int) * t ≤ (q : Int) * (-1) := Int.mul_le_mul_of_nonneg_left (by omega) (by omega)
          omega
        · exact z
        · have : (q : Int) * 1 ≤ (q : Int) * t := Int.mul_le_mul_of_nonneg_left (by omega) (by omega)
          omega
      rw [ht0, Int.mul_zero] at ht
      omega
    rw [← Nat.div_add_mod v q, ← Nat.div_add_mod u q, hr, hm]
theorem dg_of {q : Nat} (hq : 1 ≤ q) : ∀ p : List Int, ∃ v : Nat, v < q ^ p.length ∧ ∀ x : Int, (q : Int) ∣ pev (dgI q p.length v) x - pev p x := by
  intro p
  induction p with
  | nil => exact ⟨0, by simp, fun x => by simp [dgI, pev]⟩
  | cons a l ih =>
    obtain ⟨v, hv, he⟩ := ih
    have h0 := Int.emod_nonneg a (show (q : Int) ≠ 0 by omega)
    have h1 := Int.emod_lt_of_pos a (show (0 : Int) < q by omega)
    obtain ⟨r, hr⟩ : ∃ r : Nat, (r : Int) = a % q := ⟨(a % q).toNat, by omega⟩
    have hrq : r < q := by omega
    refine ⟨r + q * v, ?_, ?_⟩
    · rw [List.length_cons, Nat.pow_succ]
      have : q * (v + 1) ≤ q * q ^ l.length := Nat.mul_le_mul_left q hv
      rw [Nat.mul_add, Nat.mul_one, Nat.mul_comm q (q ^ l.length)] at this
      omega
    · intro x
      rw [List.length_cons, dgI_s, Nat.add_mul_mod_self_left, Nat.mod_eq_of_lt hrq, Nat.add_mul_div_left _ _ (by omega), Nat.div_eq_of_lt hrq, Nat.zero_add, pev_c, pev_c, hr]
      obtain ⟨t, ht⟩ := he x
      have hd : a = q * (a / q) + a % q := (Int.mul_ediv_add_emod a q).symm
      refine ⟨x * t - a / q, ?_⟩
      generalize pev (dgI q l.length v) x = A at *
      generalize pev l x = B at *
      generalize a % (q : Int) = m at *
      generalize a / (q : Int) = d at *
      have e : A = B + q * t := by omega
      rw [e, hd]
      grind
/-- the reference's way to a height: powers kept small -/
def evR (q x : Nat) : Nat → Nat → Nat → Nat
  | 0, _, _ => 0
  | c + 1, v, p => v % q * p + evR q x c (v / q) (p * x % q)
theorem evR_s (q x c v p : Nat) : evR q x (c + 1) v p = v % q * p + evR q x c (v / q) (p * x % q) := rfl
theorem evR_ev {q : Nat} (hq : 1 ≤ q) (x : Nat) : ∀ c v p : Nat, (q : Int) ∣ (evR q x c v p : Int) - (p : Int) * pev (dgI q c v) x := by
  intro c
  induction c with
  | zero => intro v p; simp [evR, dgI, pev]
  | succ c ih =>
    intro v p
    rw [evR_s, dgI_s, pev_c]
    obtain ⟨t, ht⟩ := ih (v / q) (p * x % q)
    have hd : p * x = q * (p * x / q) + p * x % q := (Nat.div_add_mod (p * x) q).symm
    have hd2 : (p : Int) * (x : Int) = (q : Int) * ((p * x / q : Nat) : Int) + ((p * x % q : Nat) : Int) := by
      rw [← Int.natCast_mul, ← Int.natCast_mul, ← Int.natCast_add, ← hd]
    refine ⟨t - ((p * x / q : Nat) : Int) * pev (dgI q c (v / q)) x, ?_⟩
    rw [Int.natCast_add, Int.natCast_mul]
    generalize pev (dgI q c (v / q)) x = A at *
    generalize ((p * x / q : Nat) : Int) = e at *
    generalize ((p * x % q : Nat) : Int) = m at *
    generalize (evR q x c (v / q) (p * x % q) : Int) = E at *
    generalize ((v % q : Nat) : Int) = r at *
    grind
theorem evR_b {q x : Nat} (hq : 1 ≤ q) (hq2 : q ≤ 13) : ∀ c v p : Nat, p < 13 → evR q x c v p ≤ 144 * c := by
  intro c
  induction c with
  | zero => intro v p _; exact Nat.le_refl _
  | succ c ih =>
    intro v p hp
    rw [evR_s]
    have h1 := Nat.mod_lt v (show 0 < q by omega)
    have h2 := Nat.mod_lt (p * x) (show 0 < q by omega)
    have h3 := ih (v / q) (p * x % q) (by omega)
    have h4 : v % q * p ≤ 12 * 12 := Nat.mul_le_mul (by omega) (by omega)
    omega
