def padd : List Int → List Int → List Int
  | a :: l, b :: r => (a + b) :: padd l r
  | _, _ => []
theorem padd_len : ∀ (l r : List Int), l.length = r.length → (padd l r).length = l.length := by
  intro l
  induction l with
  | nil => intro r _; cases r <;> rfl
  | cons a l ih =>
    intro r h
    cases r with
    | nil => exact absurd h (by simp)
    | cons b r =>
      show ((a + b) :: padd l r).length = _
      rw [List.length_cons, List.length_cons, ih r (by simpa using h)]
theorem padd_ev (x : Int) : ∀ (l r : List Int), l.length = r.length → pev (padd l r) x = pev l x + pev r x := by
  intro l
  induction l with
  | nil =>
    intro r h
    have : r = [] := List.length_eq_zero_iff.mp h.symm
    rw [this]
    simp [padd, pev]
  | cons a l ih =>
    intro r h
    cases r with
    | nil => exact absurd h (by simp)
    | cons b r =>
      show pev ((a + b) :: padd l r) x = _
      rw [pev_c, pev_c, pev_c, ih r (by simpa using h), Int.mul_add]
      omega
def pscale (s : Int) (l : List Int) : List Int := l.map (fun c => s * c)
theorem pscale_len (s : Int) (l : List Int) : (pscale s l).length = l.length := List.length_map ..
theorem pscale_ev (s x : Int) : ∀ l : List Int, pev (pscale s l) x = s * pev l x := by
  intro l
  induction l with
  | nil => simp [pscale, pev]
  | cons c l ih =>
    show s * c + x * pev (pscale s l) x = _
    rw [ih, pev_c]
    grind
theorem pzero_ev (x : Int) : ∀ d : Nat, pev (List.replicate d 0) x = 0 := by
  intro d
  induction d with
  | zero => rfl
  | succ d ih =>
    rw [List.replicate_succ, pev_c, ih]
    simp
def PS (q n : Nat) (B : Nat → Bool) (y : Nat → Nat) (d : Nat) : Nat → List Int
  | 0 => List.replicate d 0
  | i + 1 => if B i = false then PS q n B y d i else padd (PS q n B y d i) (pscale (ivN q (lqB q B i n) : Int) (PL B (y i) i n))
theorem PS_s (q n : Nat) (B : Nat → Bool) (y : Nat → Nat) (d i : Nat) : PS q n B y d (i + 1) = if B i = false then PS q n B y d i else padd (PS q n B y d i) (pscale (ivN q (lqB q B i n) : Int) (PL B (y i) i n)) := rfl
theorem PL_d {n : Nat} (B : Nat → Bool) (y0 : Nat) {i : Nat} (hi : i < n) (hb : B i = true) : (PL B y0 i n).length = cB B n := by
  rw [PL_len, ← cB_del hb n hi]
  omega
theorem PS_len {q n : Nat} (B : Nat → Bool) (y : Nat → Nat) : ∀ k : Nat, k ≤ n → (PS q n B y (cB B n) k).length = cB B n := by
  intro k
  induction k with
  | zero => intro _; exact List.length_replicate
  | succ k ih =>
    intro hk
    rw [PS_s]
    by_cases b : B k = false
    · rw [if_pos b]; exact ih (by omega)
    · have bt : B k = true := by simpa using b
      rw [if_neg b, padd_len _ _ (by rw [ih (by omega), pscale_len, PL_d B (y k) (by omega) bt]), ih (by omega)]
theorem PS_ev {q n : Nat} (hq : 1 ≤ q) (x : Nat) (B : Nat → Bool) (y : Nat → Nat) : ∀ k : Nat, k ≤ n → (q : Int) ∣ (lqS q n x B y k : Int) - pev (PS q n B y (cB B n) k) x := by
  intro k
  induction k with
  | zero =>
    intro _
    show (q : Int) ∣ ((0 : Nat) : Int) - pev (List.replicate (cB B n) 0) x
    rw [pzero_ev]
    exact ⟨0, by simp⟩
  | succ k ih =>
    intro hk
    have ih := ih (by omega)
    rw [PS_s, lqS_s]
    by_cases b : B k = false
    · rw [if_pos b, if_pos b]; exact ih
    · have bt : B k = true := by simpa using b
      rw [if_neg b, if_neg b, padd_ev _ _ _ (by rw [PS_len B y k (by omega), pscale_len, PL_d B (y k) (by omega) bt]), pscale_ev]
      obtain ⟨t, ht⟩ := ih
      obtain ⟨s, hs⟩ := PL_ev hq x B (y k) k n
      rw [Int.natCast_add, Int.natCast_mul]
      refine ⟨t + s * (ivN q (lqB q B k n) : Int), ?_⟩
      generalize (ivN q (lqB q B k n) : Int) = I at *
      generalize (lqA q x B (y k) k n : Int) = A at *
      generalize (lqS q n x B y k : Int) = S at *
      generalize pev (PL B (y k) k n) x = P at *
      generalize pev (PS q n B y (cB B n) k) x = R at *
      have e1 : S = R + q * t := by omega
      have e2 : A = P + q * s := by omega
      rw [e1, e2]
      grind
/-- at the base's own hands the curve has the heights -/
theorem lag_at {q n : Nat} (hq : q = 5 ∨ q = 7 ∨ q = 11 ∨ q = 13) (hn : n ≤ 6) (hnq : n < q) (B : Nat → Bool) (y : Nat → Nat) {h : Nat} (hh : h < n) (hb : B h = true) (hy : y h < q) : hgt q n B y (h + 1) = y h := by
  have h1 : 1 ≤ q := by omega
  have key : ∀ k : Nat, k ≤ n → (q : Int) ∣ (lqS q n (h + 1) B y k : Int) - (if h < k then (y h : Int) else 0) := by
    intro k
    induction k with
    | zero => intro _; exact ⟨0, by simp [lqS]⟩
    | succ k ih =>
      intro hk
      have ih := ih (by omega)
      rw [lqS_s]
      by_cases e : k = h
      · subst e
        rw [if_neg (show ¬ k < k by omega)] at ih
        rw [if_neg (by rw [hb]; decide), if_pos (show k < k + 1 by omega)]
        obtain ⟨t, ht⟩ := ih
        obtain ⟨s, hs⟩ := lq_same h1 B (y k) k n
        obtain ⟨hiv, _⟩ := iv_q hq (lqB_lt (show 2 ≤ q by omega) B k n)
        have hiv1 : ivN q (lqB q B k n) * lqB q B k n % q = 1 := hiv.resolve_left (lqB_ne hq B (by omega) (by omega) n hn (by omega))
        have hd := Nat.div_add_mod (ivN q (lqB q B k n) * lqB q B k n) q
        rw [hiv1] at hd
        have hd2 : (q : Int) * ((ivN q (lqB q B k n) * lqB q B k n / q : Nat) : Int) + 1 = (ivN q (lqB q B k n) : Int) * (lqB q B k n : Int) := by
          rw [← Int.natCast_mul, ← Int.natCast_mul]
          have : ((1 : Nat) : Int) = 1 := rfl
          rw [← this, ← Int.natCast_add, hd]
        rw [Int.natCast_add, Int.natCast_mul]
        refine ⟨t + s * (ivN q (lqB q B k n) : Int) + (y k : Int) * ((ivN q (lqB q B k n) * lqB q B k n / q : Nat) : Int), ?_⟩
        generalize ((ivN q (lqB q B k n) * lqB q B k n / q : Nat) : Int) = u at *
        generalize (ivN q (lqB q B k n) : Int) = I at *
        generalize (lqB q B k n : Int) = L at *
        generalize (lqA q (k + 1) B (y k) k n : Int) = A at *
        generalize (lqS q n (k + 1) B y k : Int) = S at *
        have e1 : S = q * t := by omega
        have e2 : A = (y k : Int) * L + q * s := by omega
        rw [e1, e2]
        grind
      · have ei : (if h < k + 1 then (y h : Int) else 0) = if h < k then (y h : Int) else 0 := ifc ⟨fun z => by omega, fun z => by omega⟩
        rw [ei]
        by_cases b : B k = false
        · rw [if_pos b]; exact ih
        · rw [if_neg b, lq_zero B hb (fun z => e z.symm) n hh, Nat.zero_mul, Nat.add_zero]
          exact ih
  have hk := key n (Nat.le_refl n)
  rw [if_pos hh] at hk
  unfold hgt
  obtain ⟨t, ht⟩ := hk
  have e : ((lqS q n (h + 1) B y n % q : Nat) : Int) = (y h : Int) := by
    rw [Int.natCast_emod, show (lqS q n (h + 1) B y n : Int) = (y h : Int) + q * t by omega, Int.add_mul_emod_self_left, Int.emod_eq_of_lt (by omega) (by omega)]
  exact Int.ofNat.inj e
/-- the reference's height -/
def rgt (q c Y x : Nat) : Nat := evR q x c Y 1 % q
theorem dvd_mod_eq {q a b : Nat} (h : (q : Int) ∣ (a : Int) - (b : Int)) : a % q = b % q := by
  obtain ⟨t, ht⟩ := h
  have e : ((a % q : Nat) : Int) = ((b % q : Nat) : Int) := by
    rw [Int.natCast_emod, Int.natCast_emod, show (a : Int) = (b : Int) + q * t by omega, Int.add_mul_emod_self_left]
  exact Int.ofNat.inj e
/-- the curve through a base is one of the reference's -/
theorem lag_of {q n : Nat} (hq : 1 ≤ q) (B : Nat → Bool) (y : Nat → Nat) : ∃ Y : Nat, Y < q ^ cB B n ∧ ∀ x : Nat, hgt q n B y x = rgt q (cB B n) Y x := by
  have hl := PS_len (q := q) (n := n) B y n (Nat.le_refl n)
  obtain ⟨Y, hY, he⟩ := dg_of hq (PS q n B y (cB B n) n)
  rw [hl] at hY he
  refine ⟨Y, hY, fun x => ?_⟩
  unfold hgt rgt
  apply dvd_mod_eq
  obtain ⟨a, ha⟩ := he x
  obtain ⟨b, hb⟩ := evR_ev hq x (cB B n) Y 1
  obtain ⟨c, hc⟩ := PS_ev hq x B y n (Nat.le_refl n)
  rw [show ((1 : Nat) : Int) = 1 from rfl, Int.one_mul] at hb
  refine ⟨c - a - b, ?_⟩
  rw [Int.mul_sub, Int.mul_sub]
  omega
/-- two curves that meet at more hands than their degree are one -/
theorem rgt_inj {q : Nat} (hq : q = 5 ∨ q = 7 ∨ q = 11 ∨ q = 13) {c Y Z : Nat} (hY : Y < q ^ c) (hZ : Z < q ^ c) (g : Nat → Bool) (hc : c ≤ cB g 6) (hg : ∀ i, i < 6 → g i = true → i < q) (he : ∀ i, i < 6 → g i = true → rgt q c Y (i + 1) = rgt q c Z (i + 1)) : Y = Z := by
  have h1 : 1 ≤ q := by omega
  refine dg_eq h1 c Y Z hY hZ ?_
  refine van hq c _ g (by rw [psub_len _ _ (by rw [dgI_len, dgI_len]), dgI_len]) hc hg ?_
  intro i hi gi
  rw [psub_ev _ _ _ (by rw [dgI_len, dgI_len])]
  obtain ⟨a, ha⟩ := evR_ev h1 (i + 1) c Y 1
  obtain ⟨b, hb⟩ := evR_ev h1 (i + 1) c Z 1
  have hr := he i hi gi
  unfold rgt at hr
  have d1 := Nat.div_add_mod (evR q (i + 1) c Y 1) q
  have d2 := Nat.div_add_mod (evR q (i + 1) c Z 1) q
  rw [hr] at d1
  rw [show ((1 : Nat) : Int) = 1 from rfl, Int.one_mul, Int.natCast_add, show ((1 : Nat) : Int) = 1 from rfl] at ha hb
  refine ⟨b - a + ((evR q (i + 1) c Y 1 / q : Nat) : Int) - ((evR q (i + 1) c Z 1 / q : Nat) : Int), ?_⟩
  rw [Int.mul_sub, Int.mul_add, Int.mul_sub, ← Int.natCast_mul, ← Int.natCast_mul]
  omega
theorem rgt_0 {q : Nat} (hq : 1 ≤ q) (c Y : Nat) : rgt q (c + 1) Y 0 = Y % q := by
  have key : ∀ c v : Nat, evR q 0 c v 0 = 0 := by
    intro c
    induction c with
    | zero => intro v; rfl
    | succ c ih =>
      intro v
      rw [evR_s, Nat.mul_zero, Nat.mul_zero, Nat.zero_mod, ih]
  unfold rgt
  rw [evR_s, Nat.mul_zero, Nat.zero_mod, key, Nat.mul_one, Nat.add_zero, Nat.mod_mod]
