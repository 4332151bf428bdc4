/-! the class's way to a height: the curve through a base -/
def lqA (q x : Nat) (B : Nat → Bool) (y0 i : Nat) : Nat → Nat
  | 0 => y0
  | k + 1 => if k = i then lqA q x B y0 i k else if B k = false then lqA q x B y0 i k else sm (lqA q x B y0 i k * x) (lqA q x B y0 i k * (k + 1)) q
def lqB (q : Nat) (B : Nat → Bool) (i : Nat) : Nat → Nat
  | 0 => 1
  | k + 1 => if k = i then lqB q B i k else if B k = false then lqB q B i k else sm (lqB q B i k * i) (lqB q B i k * k) q
def ivL (q v : Nat) : Nat → Nat → Nat
  | 0, _ => 0
  | j + 1, r => if r * v % q = 1 then r else ivL q v j (r + 1)
def ivN (q v : Nat) : Nat := ivL q v (q - 1) 1
def lqS (q n x : Nat) (B : Nat → Bool) (y : Nat → Nat) : Nat → Nat
  | 0 => 0
  | i + 1 => if B i = false then lqS q n x B y i else lqS q n x B y i + lqA q x B (y i) i n * ivN q (lqB q B i n)
def hgt (q n : Nat) (B : Nat → Bool) (y : Nat → Nat) (x : Nat) : Nat := lqS q n x B y n % q
theorem lqA_s (q x : Nat) (B : Nat → Bool) (y0 i k : Nat) : lqA q x B y0 i (k + 1) = if k = i then lqA q x B y0 i k else if B k = false then lqA q x B y0 i k else sm (lqA q x B y0 i k * x) (lqA q x B y0 i k * (k + 1)) q := rfl
theorem lqB_s (q : Nat) (B : Nat → Bool) (i k : Nat) : lqB q B i (k + 1) = if k = i then lqB q B i k else if B k = false then lqB q B i k else sm (lqB q B i k * i) (lqB q B i k * k) q := rfl
theorem lqS_s (q n x : Nat) (B : Nat → Bool) (y : Nat → Nat) (i : Nat) : lqS q n x B y (i + 1) = if B i = false then lqS q n x B y i else lqS q n x B y i + lqA q x B (y i) i n * ivN q (lqB q B i n) := rfl
theorem lqA_lt {q : Nat} (hq : 1 ≤ q) (x : Nat) (B : Nat → Bool) {y0 : Nat} (hy : y0 < q) (i : Nat) : ∀ k : Nat, lqA q x B y0 i k < q := by
  intro k
  induction k with
  | zero => exact hy
  | succ k ih =>
    rw [lqA_s]
    by_cases e : k = i
    · rw [if_pos e]; exact ih
    · rw [if_neg e]
      by_cases b : B k = false
      · rw [if_pos b]; exact ih
      · rw [if_neg b]; exact sm_lt _ _ hq
theorem lqB_lt {q : Nat} (hq : 2 ≤ q) (B : Nat → Bool) (i : Nat) : ∀ k : Nat, lqB q B i k < q := by
  intro k
  induction k with
  | zero => exact hq
  | succ k ih =>
    rw [lqB_s]
    by_cases e : k = i
    · rw [if_pos e]; exact ih
    · rw [if_neg e]
      by_cases b : B k = false
      · rw [if_pos b]; exact ih
      · rw [if_neg b]; exact sm_lt _ _ (by omega)
theorem iv5 : ∀ v : Nat, v < 5 → (v = 0 ∨ ivN 5 v * v % 5 = 1) ∧ ivN 5 v < 5 := by decide
theorem iv7 : ∀ v : Nat, v < 7 → (v = 0 ∨ ivN 7 v * v % 7 = 1) ∧ ivN 7 v < 7 := by decide
theorem iv11 : ∀ v : Nat, v < 11 → (v = 0 ∨ ivN 11 v * v % 11 = 1) ∧ ivN 11 v < 11 := by decide
theorem iv13 : ∀ v : Nat, v < 13 → (v = 0 ∨ ivN 13 v * v % 13 = 1) ∧ ivN 13 v < 13 := by decide
theorem iv_q {q : Nat} (hq : q = 5 ∨ q = 7 ∨ q = 11 ∨ q = 13) {v : Nat} (hv : v < q) : (v = 0 ∨ ivN q v * v % q = 1) ∧ ivN q v < q := by
  rcases hq with rfl | rfl | rfl | rfl
  · exact iv5 v hv
  · exact iv7 v hv
  · exact iv11 v hv
  · exact iv13 v hv
theorem nz5 : ∀ b : Nat, b < 5 → ∀ i : Nat, i < 5 → ∀ k : Nat, k < 5 → (b = 0 ∨ i = k ∨ ¬ sm (b * i) (b * k) 5 = 0) := by decide +kernel
theorem nz7 : ∀ b : Nat, b < 7 → ∀ i : Nat, i < 6 → ∀ k : Nat, k < 6 → (b = 0 ∨ i = k ∨ ¬ sm (b * i) (b * k) 7 = 0) := by decide +kernel
theorem nz11 : ∀ b : Nat, b < 11 → ∀ i : Nat, i < 6 → ∀ k : Nat, k < 6 → (b = 0 ∨ i = k ∨ ¬ sm (b * i) (b * k) 11 = 0) := by decide +kernel
theorem nz13 : ∀ b : Nat, b < 13 → ∀ i : Nat, i < 6 → ∀ k : Nat, k < 6 → (b = 0 ∨ i = k ∨ ¬ sm (b * i) (b * k) 13 = 0) := by decide +kernel
theorem nz_q {q : Nat} (hq : q = 5 ∨ q = 7 ∨ q = 11 ∨ q = 13) {b i k : Nat} (hb : b < q) (hb0 : b ≠ 0) (hi : i < 6) (hk : k < 6) (hi2 : i < q) (hk2 : k < q) (h : i ≠ k) : sm (b * i) (b * k) q ≠ 0 := by
  rcases hq with rfl | rfl | rfl | rfl
  · rcases nz5 b hb i hi2 k hk2 with z | z | z
    · exact absurd z hb0
    · exact absurd z h
    · exact z
  · rcases nz7 b hb i hi k hk with z | z | z
    · exact absurd z hb0
    · exact absurd z h
    · exact z
  · rcases nz11 b hb i hi k hk with z | z | z
    · exact absurd z hb0
    · exact absurd z h
    · exact z
  · rcases nz13 b hb i hi k hk with z | z | z
    · exact absurd z hb0
    · exact absurd z h
    · exact z
theorem lqB_ne {q : Nat} (hq : q = 5 ∨ q = 7 ∨ q = 11 ∨ q = 13) (B : Nat → Bool) {i : Nat} (hi : i < 6) (hi2 : i < q) : ∀ k : Nat, k ≤ 6 → k ≤ q → lqB q B i k ≠ 0 := by
  intro k
  induction k with
  | zero => intro _ _; exact Nat.one_ne_zero
  | succ k ih =>
    intro h1 h2
    have h := ih (by omega) (by omega)
    rw [lqB_s]
    by_cases e : k = i
    · rw [if_pos e]; exact h
    · rw [if_neg e]
      by_cases b : B k = false
      · rw [if_pos b]; exact h
      · rw [if_neg b]
        exact nz_q hq (lqB_lt (by omega) B i k) h hi (by omega) hi2 (by omega) (fun z => e z.symm)
theorem sm_dvd (a b : Nat) {q : Nat} (hq : 1 ≤ q) : (q : Int) ∣ (sm a b q : Int) - ((a : Int) - (b : Int)) := by
  have h0 := Int.emod_nonneg ((a : Int) - (b : Int)) (show (q : Int) ≠ 0 by omega)
  have e : (sm a b q : Int) = ((a : Int) - (b : Int)) % (q : Int) := by unfold sm; omega
  rw [e]
  refine ⟨-(((a : Int) - b) / q), ?_⟩
  have := Int.mul_ediv_add_emod ((a : Int) - b) q
  rw [Int.mul_neg]
  omega
/-! the same curve as a list -/
def mulL (a : Int) : Int → List Int → List Int
  | cr, [] => [cr]
  | cr, c :: l => (cr - a * c) :: mulL a c l
theorem mulL_len (a : Int) : ∀ (l : List Int) (cr : Int), (mulL a cr l).length = l.length + 1 := by
  intro l
  induction l with
  | nil => intro cr; rfl
  | cons c l ih =>
    intro cr
    show ((cr - a * c) :: mulL a c l).length = _
    rw [List.length_cons, ih, List.length_cons]
theorem mulL_ev (a x : Int) : ∀ (l : List Int) (cr : Int), pev (mulL a cr l) x = cr + (x - a) * pev l x := by
  intro l
  induction l with
  | nil => intro cr; simp [mulL, pev]
  | cons c l ih =>
    intro cr
    show pev ((cr - a * c) :: mulL a c l) x = _
    rw [pev_c, pev_c, ih]
    generalize pev l x = P
    grind
def PL (B : Nat → Bool) (y0 i : Nat) : Nat → List Int
  | 0 => [(y0 : Int)]
  | k + 1 => if k = i then PL B y0 i k else if B k = false then PL B y0 i k else mulL ((k : Int) + 1) 0 (PL B y0 i k)
theorem PL_s (B : Nat → Bool) (y0 i k : Nat) : PL B y0 i (k + 1) = if k = i then PL B y0 i k else if B k = false then PL B y0 i k else mulL ((k : Int) + 1) 0 (PL B y0 i k) := rfl
theorem PL_len (B : Nat → Bool) (y0 i : Nat) : ∀ k : Nat, (PL B y0 i k).length = 1 + cB (fun j => B j && decide (j ≠ i)) k := by
  intro k
  induction k with
  | zero => rfl
  | succ k ih =>
    rw [PL_s, cB_s]
    by_cases e : k = i
    · rw [if_pos e, ih, if_neg (by simp [e])]
      rfl
    · rw [if_neg e]
      by_cases b : B k = false
      · rw [if_pos b, ih, if_neg (by simp [b])]
        rfl
      · rw [if_neg b, mulL_len, ih, if_pos (by simp [e]; simpa using b)]
        omega
theorem PL_ev {q : Nat} (hq : 1 ≤ q) (x : Nat) (B : Nat → Bool) (y0 i : Nat) : ∀ k : Nat, (q : Int) ∣ (lqA q x B y0 i k : Int) - pev (PL B y0 i k) x := by
  intro k
  induction k with
  | zero => exact ⟨0, by simp [lqA, PL, pev]⟩
  | succ k ih =>
    rw [PL_s, lqA_s]
    by_cases e : k = i
    · rw [if_pos e, if_pos e]; exact ih
    · rw [if_neg e, if_neg e]
      by_cases b : B k = false
      · rw [if_pos b, if_pos b]; exact ih
      · rw [if_neg b, if_neg b, mulL_ev]
        obtain ⟨s, hs⟩ := sm_dvd (lqA q x B y0 i k * x) (lqA q x B y0 i k * (k + 1)) hq
        obtain ⟨t, ht⟩ := ih
        rw [Int.natCast_mul, Int.natCast_mul, Int.natCast_add] at hs
        refine ⟨s + t * ((x : Int) - ((k : Int) + 1)), ?_⟩
        generalize (sm (lqA q x B y0 i k * x) (lqA q x B y0 i k * (k + 1)) q : Int) = M at *
        generalize (lqA q x B y0 i k : Int) = A at *
        generalize pev (PL B y0 i k) x = P at *
        have e1 : M = A * x - A * (k + 1) + q * s := by
          have : ((1 : Nat) : Int) = 1 := rfl
          rw [this] at hs
          omega
        have e2 : A = P + q * t := by omega
        rw [e1, e2]
        grind
theorem lq_zero {q : Nat} (B : Nat → Bool) {y0 i h : Nat} (hb : B h = true) (hi : h ≠ i) : ∀ k : Nat, h < k → lqA q (h + 1) B y0 i k = 0 := by
  intro k
  induction k with
  | zero => intro z; omega
  | succ k ih =>
    intro z
    have zz : ∀ a : Nat, sm a a q = 0 := by
      intro a
      unfold sm
      rw [Int.sub_self, Int.zero_emod]
      rfl
    rw [lqA_s]
    by_cases e : k = h
    · subst e
      rw [if_neg hi, if_neg (by rw [hb]; decide), zz]
    · have h0 := ih (by omega)
      rw [h0]
      by_cases e2 : k = i
      · rw [if_pos e2]
      · rw [if_neg e2, Nat.zero_mul, Nat.zero_mul, zz]
        by_cases b : B k = false
        · rw [if_pos b]
        · rw [if_neg b]
theorem lq_same {q : Nat} (hq : 1 ≤ q) (B : Nat → Bool) (y0 h : Nat) : ∀ k : Nat, (q : Int) ∣ (lqA q (h + 1) B y0 h k : Int) - (y0 : Int) * (lqB q B h k : Int) := by
  intro k
  induction k with
  | zero => exact ⟨0, by simp [lqA, lqB]⟩
  | succ k ih =>
    rw [lqA_s, lqB_s]
    by_cases e : k = h
    · rw [if_pos e, if_pos e]; exact ih
    · rw [if_neg e, if_neg e]
      by_cases b : B k = false
      · rw [if_pos b, if_pos b]; exact ih
      · rw [if_neg b, if_neg b]
        obtain ⟨s, hs⟩ := sm_dvd (lqA q (h + 1) B y0 h k * (h + 1)) (lqA q (h + 1) B y0 h k * (k + 1)) hq
        obtain ⟨s2, hs2⟩ := sm_dvd (lqB q B h k * h) (lqB q B h k * k) hq
        obtain ⟨t, ht⟩ := ih
        rw [Int.natCast_mul, Int.natCast_mul, Int.natCast_add, Int.natCast_add, show ((1 : Nat) : Int) = 1 from rfl] at hs
        rw [Int.natCast_mul, Int.natCast_mul] at hs2
        refine ⟨s + t * ((h : Int) - (k : Int)) - y0 * s2, ?_⟩
        generalize (sm (lqA q (h + 1) B y0 h k * (h + 1)) (lqA q (h + 1) B y0 h k * (k + 1)) q : Int) = M at *
        generalize (sm (lqB q B h k * h) (lqB q B h k * k) q : Int) = M2 at *
        generalize (lqA q (h + 1) B y0 h k : Int) = A at *
        generalize (lqB q B h k : Int) = L at *
        have e1 : M = A * (h + 1) - A * (k + 1) + q * s := by omega
        have e2 : M2 = L * h - L * k + q * s2 := by omega
        have e3 : A = y0 * L + q * t := by omega
        rw [e1, e2, e3]
        grind
