/-! sets of hands: counted, and as numbers -/
def cB (g : Nat → Bool) : Nat → Nat
  | 0 => 0
  | k + 1 => cB g k + (if g k = true then 1 else 0)
def enM (g : Nat → Bool) : Nat → Nat
  | 0 => 0
  | k + 1 => enM g k + (if g k = true then 2 ^ k else 0)
theorem cB_s (g : Nat → Bool) (k : Nat) : cB g (k + 1) = cB g k + (if g k = true then 1 else 0) := rfl
theorem enM_s (g : Nat → Bool) (k : Nat) : enM g (k + 1) = enM g k + (if g k = true then 2 ^ k else 0) := rfl
theorem cB_congr {g h : Nat → Bool} : ∀ k : Nat, (∀ i, i < k → g i = h i) → cB g k = cB h k := by
  intro k
  induction k with
  | zero => intro _; rfl
  | succ k ih =>
    intro e
    rw [cB_s, cB_s, ih (fun i hi => e i (by omega)), e k (by omega)]
theorem enM_congr {g h : Nat → Bool} : ∀ k : Nat, (∀ i, i < k → g i = h i) → enM g k = enM h k := by
  intro k
  induction k with
  | zero => intro _; rfl
  | succ k ih =>
    intro e
    rw [enM_s, enM_s, ih (fun i hi => e i (by omega)), e k (by omega)]
theorem cB_le {g h : Nat → Bool} : ∀ k : Nat, (∀ i, i < k → g i = true → h i = true) → cB g k ≤ cB h k := by
  intro k
  induction k with
  | zero => intro _; exact Nat.le_refl _
  | succ k ih =>
    intro e
    have h1 := ih (fun i hi => e i (by omega))
    rw [cB_s, cB_s]
    by_cases q : g k = true
    · rw [if_pos q, if_pos (e k (by omega) q)]; omega
    · rw [if_neg q]; omega
theorem enM_le {g h : Nat → Bool} : ∀ k : Nat, (∀ i, i < k → g i = true → h i = true) → enM g k ≤ enM h k := by
  intro k
  induction k with
  | zero => intro _; exact Nat.le_refl _
  | succ k ih =>
    intro e
    have h1 := ih (fun i hi => e i (by omega))
    rw [enM_s, enM_s]
    by_cases q : g k = true
    · rw [if_pos q, if_pos (e k (by omega) q)]; omega
    · rw [if_neg q]; omega
theorem cB_stop {g : Nat → Bool} {n : Nat} : ∀ k : Nat, n ≤ k → (∀ i, n ≤ i → i < k → g i = false) → cB g k = cB g n := by
  intro k
  induction k with
  | zero => intro h _; rw [show n = 0 by omega]
  | succ k ih =>
    intro h e
    by_cases q : n = k + 1
    · rw [q]
    · rw [cB_s, ih (by omega) (fun i h1 h2 => e i h1 (by omega)), if_neg (by rw [e k (by omega) (by omega)]; decide)]
      rfl
theorem cB_ie {a b s : Nat → Bool} : ∀ k : Nat, (∀ i, i < k → a i = true → s i = true) → (∀ i, i < k → b i = true → s i = true) → cB a k + cB b k ≤ cB s k + cB (fun i => a i && b i) k := by
  intro k
  induction k with
  | zero => intro _ _; exact Nat.le_refl _
  | succ k ih =>
    intro ha hb
    have h1 := ih (fun i hi => ha i (by omega)) (fun i hi => hb i (by omega))
    rw [cB_s, cB_s, cB_s, cB_s]
    have ha' := ha k (by omega)
    have hb' := hb k (by omega)
    generalize a k = A at *
    generalize b k = B at *
    generalize s k = S at *
    cases A <;> cases B <;> cases S <;> simp_all <;> omega
theorem cB_pick {g : Nat → Bool} : ∀ (k d : Nat), d ≤ cB g k → ∃ h : Nat → Bool, (∀ i, h i = true → g i = true ∧ i < k) ∧ cB h k = d := by
  intro k
  induction k with
  | zero =>
    intro d hd
    refine ⟨fun _ => false, fun i hi => absurd (show false = true from hi) (by decide), ?_⟩
    have : d = 0 := Nat.le_zero.mp hd
    rw [this]
    rfl
  | succ k ih =>
    intro d hd
    by_cases q : d ≤ cB g k
    · obtain ⟨h, h1, h2⟩ := ih d q
      refine ⟨h, fun i hi => ⟨(h1 i hi).1, by have := (h1 i hi).2; omega⟩, ?_⟩
      rw [cB_s, h2, if_neg (fun z => by have := (h1 k z).2; omega)]
      rfl
    · refine ⟨fun i => g i && decide (i < k + 1), fun i hi => ?_, ?_⟩
      · have e : (g i && decide (i < k + 1)) = true := hi
        rw [Bool.and_eq_true, decide_eq_true_eq] at e
        exact e
      · rw [cB_congr (h := g) (k + 1) (fun i hi => by show (g i && decide (i < k + 1)) = g i; rw [decide_eq_true hi, Bool.and_true])]
        rw [cB_s] at hd ⊢
        by_cases z : g k = true
        · rw [if_pos z] at hd ⊢; omega
        · rw [if_neg z] at hd ⊢; omega
theorem cB_one {g : Nat → Bool} : ∀ k : Nat, 1 ≤ cB g k → ∃ i, i < k ∧ g i = true := by
  intro k
  induction k with
  | zero => intro h; exact absurd (show 1 ≤ 0 from h) (by decide)
  | succ k ih =>
    intro h
    by_cases z : g k = true
    · exact ⟨k, by omega, z⟩
    · rw [cB_s, if_neg z] at h
      obtain ⟨i, hi, e⟩ := ih h
      exact ⟨i, by omega, e⟩
theorem cB_del {g : Nat → Bool} {a : Nat} (ha : g a = true) : ∀ k : Nat, a < k → cB (fun i => g i && decide (i ≠ a)) k + 1 = cB g k := by
  intro k
  induction k with
  | zero => intro h; omega
  | succ k ih =>
    intro h
    rw [cB_s, cB_s]
    by_cases q : a = k
    · subst q
      rw [if_pos ha, if_neg (by simp), cB_congr (h := g) a (fun i hi => by show (g i && decide (i ≠ a)) = g i; rw [decide_eq_true (by omega), Bool.and_true])]
    · have hi := ih (by omega)
      have e : (g k && decide (k ≠ a)) = g k := by rw [decide_eq_true (show k ≠ a from fun z => q z.symm), Bool.and_true]
      rw [e]
      omega
theorem enM_lt (g : Nat → Bool) : ∀ k : Nat, enM g k < 2 ^ k := by
  intro k
  induction k with
  | zero => exact Nat.one_pos
  | succ k ih =>
    rw [enM_s, Nat.pow_succ]
    by_cases q : g k = true
    · rw [if_pos q]; omega
    · rw [if_neg q]; omega
theorem bitsA : ∀ c : Nat, c < 6 → ∀ M : Nat, M < 64 → M < 2 ^ c → M.testBit c = false ∧ (M + 2 ^ c).testBit c = true := by decide
theorem bitsB0 : ∀ c : Nat, c < 6 → ∀ M : Nat, M < 32 → M < 2 ^ c → ∀ j : Nat, j < 6 → (j = c ∨ (M + 2 ^ c).testBit j = M.testBit j) := by decide +kernel
theorem bitsB (c : Nat) (hc : c < 6) (M : Nat) (hM : M < 32) (h : M < 2 ^ c) (j : Nat) (hj : j < 6) (hn : j ≠ c) : (M + 2 ^ c).testBit j = M.testBit j := (bitsB0 c hc M hM h j hj).resolve_left hn
theorem enM_bit (g : Nat → Bool) : ∀ k : Nat, k ≤ 6 → ∀ i : Nat, i < 6 → (enM g k).testBit i = (decide (i < k) && g i) := by
  intro k
  induction k with
  | zero =>
    intro _ i _
    rw [decide_eq_false (Nat.not_lt_zero i), Bool.false_and]
    exact Nat.zero_testBit i
  | succ k ih =>
    intro hk i hi
    have hlt := enM_lt g k
    have hp : 2 ^ k ≤ 2 ^ 5 := Nat.pow_le_pow_right (by decide) (by omega)
    have h32 : (2 : Nat) ^ 5 = 32 := rfl
    have ihi := ih (by omega) i hi
    rw [enM_s]
    by_cases q : g k = true
    · rw [if_pos q]
      by_cases e : i = k
      · subst e
        rw [(bitsA i hi (enM g i) (by omega) hlt).2, decide_eq_true (by omega), q]
        rfl
      · rw [bitsB k (by omega) (enM g k) (by omega) hlt i hi e, ihi]
        congr 1
        exact decide_eq_decide.mpr ⟨fun z => by omega, fun z => by omega⟩
    · rw [if_neg q, Nat.add_zero, ihi]
      by_cases e : i = k
      · subst e
        have qf : g i = false := by simpa using q
        rw [qf, Bool.and_false, Bool.and_false]
      · congr 1
        exact decide_eq_decide.mpr ⟨fun z => by omega, fun z => by omega⟩
theorem enM_of : ∀ M : Nat, M < 64 → enM (fun i => M.testBit i) 6 = M := by decide +kernel
theorem bc_eq : ∀ M : Nat, M < 64 → bits8 (nI M) 8 = nI (cB (fun i => M.testBit i) 6) := by decide +kernel
theorem msk_in : ∀ S : Nat, S < 64 → ∀ i : Nat, i < 6 → (((nI S >>> (nI i &&& 31)) &&& (1 : Int32)) = (1 : Int32) ↔ S.testBit i = true) := by decide +kernel
theorem msk_out : ∀ S : Nat, S < 64 → ∀ i : Nat, i < 6 → (((nI S >>> (nI i &&& 31)) &&& (1 : Int32)) = (0 : Int32) ↔ S.testBit i = false) := by decide +kernel
theorem msk_or : ∀ c : Nat, c < 6 → ∀ M : Nat, M < 32 → M < 2 ^ c → nI M ||| ((1 : Int32) <<< (nI c &&& 31)) = nI (M + 2 ^ c) := by decide +kernel
theorem msk_sub : ∀ B : Nat, B < 64 → ∀ S : Nat, S < 64 → ((nI B &&& (nI S ^^^ (-1 : Int32))) = 0 ↔ ∀ i : Nat, i < 6 → B.testBit i = true → S.testBit i = true) := by decide +kernel
