/-! curves as lists of numbers -/
def pev : List Int → Int → Int
  | [], _ => 0
  | a :: l, x => a + x * pev l x
def quo (a : Int) : List Int → List Int
  | [] => []
  | [_] => []
  | _ :: c :: l => pev (c :: l) a :: quo a (c :: l)
theorem pev_c (a : Int) (l : List Int) (x : Int) : pev (a :: l) x = a + x * pev l x := rfl
theorem quo_c (a c c' : Int) (l : List Int) : quo a (c :: c' :: l) = pev (c' :: l) a :: quo a (c' :: l) := rfl
theorem quo_len (a : Int) : ∀ p : List Int, (quo a p).length = p.length - 1 := by
  intro p
  induction p with
  | nil => rfl
  | cons c l ih =>
    cases l with
    | nil => rfl
    | cons c' l =>
      rw [quo_c, List.length_cons, ih]
      rfl
theorem quo_ev (a x : Int) : ∀ p : List Int, pev p x = (x - a) * pev (quo a p) x + pev p a := by
  intro p
  induction p with
  | nil => simp [pev, quo]
  | cons c l ih =>
    cases l with
    | nil => simp [pev, quo]
    | cons c' l =>
      rw [quo_c, pev_c c (c' :: l) x, pev_c c (c' :: l) a, pev_c (pev (c' :: l) a) _ x, ih]
      generalize pev (c' :: l) a = V
      generalize pev (quo a (c' :: l)) x = Q
      grind
theorem coef0 (q a : Int) : ∀ p : List Int, (∀ b ∈ quo a p, q ∣ b) → q ∣ pev p a → ∀ c ∈ p, q ∣ c := by
  intro p
  induction p with
  | nil => intro _ _ c hc; exact absurd hc (List.not_mem_nil)
  | cons c l ih =>
    cases l with
    | nil =>
      intro _ h e he
      have : e = c := by simpa using he
      rw [this]
      have e2 : pev [c] a = c := by simp [pev]
      rw [e2] at h
      exact h
    | cons c' l =>
      intro hq h e he
      rw [quo_c] at hq
      have h0 : q ∣ pev (c' :: l) a := hq _ (by simp)
      have hr := ih (fun b hb => hq b (by simp [hb])) h0
      rcases List.mem_cons.mp he with z | z
      · rw [z]
        rw [pev_c] at h
        have h1 : q ∣ a * pev (c' :: l) a := Int.dvd_trans h0 (Int.dvd_mul_left _ _)
        have := Int.dvd_sub h h1
        rwa [Int.add_sub_cancel] at this
      · exact hr e z
theorem inv5 : ∀ i : Nat, i < 6 → ∀ a : Nat, a < 6 → (5 ≤ i ∨ 5 ≤ a ∨ i = a ∨ ∃ r : Nat, r < 13 ∧ ((r : Int) * ((i : Int) - (a : Int)) - 1) % 5 = 0) := by decide
theorem inv7 : ∀ i : Nat, i < 6 → ∀ a : Nat, a < 6 → (7 ≤ i ∨ 7 ≤ a ∨ i = a ∨ ∃ r : Nat, r < 13 ∧ ((r : Int) * ((i : Int) - (a : Int)) - 1) % 7 = 0) := by decide
theorem inv11 : ∀ i : Nat, i < 6 → ∀ a : Nat, a < 6 → (11 ≤ i ∨ 11 ≤ a ∨ i = a ∨ ∃ r : Nat, r < 13 ∧ ((r : Int) * ((i : Int) - (a : Int)) - 1) % 11 = 0) := by decide
theorem inv13 : ∀ i : Nat, i < 6 → ∀ a : Nat, a < 6 → (13 ≤ i ∨ 13 ≤ a ∨ i = a ∨ ∃ r : Nat, r < 13 ∧ ((r : Int) * ((i : Int) - (a : Int)) - 1) % 13 = 0) := by decide
theorem inv_q {q : Nat} (hq : q = 5 ∨ q = 7 ∨ q = 11 ∨ q = 13) {i a : Nat} (hi : i < 6) (ha : a < 6) (hi2 : i < q) (ha2 : a < q) (h : i ≠ a) : ∃ r : Int, (q : Int) ∣ r * ((i : Int) - (a : Int)) - 1 := by
  rcases hq with rfl | rfl | rfl | rfl
  · rcases inv5 i hi a ha with z | z | z | ⟨r, _, z⟩
    · omega
    · omega
    · exact absurd z h
    · exact ⟨r, Int.dvd_of_emod_eq_zero z⟩
  · rcases inv7 i hi a ha with z | z | z | ⟨r, _, z⟩
    · omega
    · omega
    · exact absurd z h
    · exact ⟨r, Int.dvd_of_emod_eq_zero z⟩
  · rcases inv11 i hi a ha with z | z | z | ⟨r, _, z⟩
    · omega
    · omega
    · exact absurd z h
    · exact ⟨r, Int.dvd_of_emod_eq_zero z⟩
  · rcases inv13 i hi a ha with z | z | z | ⟨r, _, z⟩
    · omega
    · omega
    · exact absurd z h
    · exact ⟨r, Int.dvd_of_emod_eq_zero z⟩
/-- a curve that is nought at more hands than its degree is nought -/
theorem van {q : Nat} (hq : q = 5 ∨ q = 7 ∨ q = 11 ∨ q = 13) : ∀ (d : Nat) (p : List Int) (g : Nat → Bool), p.length = d → d ≤ cB g 6 → (∀ i, i < 6 → g i = true → i < q) → (∀ i, i < 6 → g i = true → (q : Int) ∣ pev p ((i : Int) + 1)) → ∀ c ∈ p, (q : Int) ∣ c := by
  intro d
  induction d with
  | zero =>
    intro p g hp _ _ _ c hc
    have : p = [] := List.length_eq_zero_iff.mp hp
    rw [this] at hc
    exact absurd hc (List.not_mem_nil)
  | succ d ih =>
    intro p g hp hd hg hv
    obtain ⟨a, ha, ga⟩ := cB_one (g := g) 6 (by omega)
    have hdel := cB_del ga 6 ha
    have hva := hv a ha ga
    have hquo : ∀ b ∈ quo ((a : Int) + 1) p, (q : Int) ∣ b := by
      refine ih (quo ((a : Int) + 1) p) (fun i => g i && decide (i ≠ a)) (by rw [quo_len]; omega) (by omega) ?_ ?_
      · intro i hi h
        have e : (g i && decide (i ≠ a)) = true := h
        rw [Bool.and_eq_true] at e
        exact hg i hi e.1
      · intro i hi h
        have e : (g i && decide (i ≠ a)) = true := h
        rw [Bool.and_eq_true, decide_eq_true_eq] at e
        have hvi := hv i hi e.1
        rw [quo_ev ((a : Int) + 1)] at hvi
        have h1 := Int.dvd_sub hvi hva
        rw [Int.add_sub_cancel, show (i : Int) + 1 - ((a : Int) + 1) = (i : Int) - a by omega] at h1
        obtain ⟨r, hr⟩ := inv_q hq hi ha (hg i hi e.1) (hg a ha ga) e.2
        generalize pev (quo ((a : Int) + 1) p) ((i : Int) + 1) = E at h1 ⊢
        have h2 : (q : Int) ∣ (r * ((i : Int) - a) - 1) * E := Int.dvd_trans hr (Int.dvd_mul_right _ _)
        have h3 : (q : Int) ∣ r * (((i : Int) - a) * E) := Int.dvd_trans h1 (Int.dvd_mul_left _ _)
        have h4 := Int.dvd_sub h3 h2
        rw [show r * (((i : Int) - a) * E) - (r * ((i : Int) - a) - 1) * E = E by grind] at h4
        exact h4
    exact coef0 (q : Int) ((a : Int) + 1) p hquo hva
