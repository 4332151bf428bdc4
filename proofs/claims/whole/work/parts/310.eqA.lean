/-! the plain calls -/
theorem grd {α : Type} {P : Prop} {i : Decidable P} {A B : Option α} : (some (@ite Int32 P i 0 1)).bind (fun z => if z = 0 then A else B) = @ite (Option α) P i A B := by
  by_cases h : P
  · rw [if_pos h, if_pos h]; rfl
  · rw [if_neg h, if_neg h]; rfl
theorem grdz {P : Prop} {i : Decidable P} : (some (@ite Int32 P i 0 1)).bind (fun z => if z &&& 1 = z then some z else none) = some (@ite Int32 P i 0 1) := by
  by_cases h : P
  · rw [if_pos h]; rfl
  · rw [if_neg h]; rfl
theorem isHand9 (N : Nat) (x : Int32) : f_X9_isHand N x = some (if x < 0 ∨ 2 < x then 0 else 1) := by
  unfold f_X9_isHand
  rw [within_eq]
  exact grdz
theorem isHand10 (N : Nat) (x : Int32) : f_X10_isHand N x = some (if x < 0 ∨ 2 < x then 0 else 1) := by
  unfold f_X10_isHand
  rw [in10 N x 0 2 (by decide) (by decide)]
  exact grdz
theorem nI_subl {n : Nat} (h : 1 ≤ n) : nI n - 1 = nI (n - 1) := by
  obtain ⟨k, rfl⟩ : ∃ k, n = k + 1 := ⟨n - 1, by omega⟩
  exact nI_pred k
theorem isItem10 (N : Nat) (n : Nat) (h1 : 1 ≤ n) (h2 : n < 2 ^ 31) (x : Int32) : f_X10_isItem N (nI n) x = some (if x < 0 ∨ nI n ≤ x then 0 else 1) := by
  unfold f_X10_isItem
  rw [in10 N x 0 (nI n - 1) (by decide) rfl, grdz, nI_subl h1]
  congr 1
  apply ifc
  constructor
  · rintro (h | h)
    · exact Or.inl h
    · rcases Int32.lt_or_le x 0 with g | g
      · exact Or.inl g
      · obtain ⟨j, hj, e⟩ := nI_of (Int32.not_lt.mpr g)
        subst e
        refine Or.inr (nI_le ?_ hj)
        have := (nI_ltI (by omega) hj).mp h
        omega
  · rintro (h | h)
    · exact Or.inl h
    · rcases Int32.lt_or_le x 0 with g | g
      · exact Or.inl g
      · obtain ⟨j, hj, e⟩ := nI_of (Int32.not_lt.mpr g)
        subst e
        refine Or.inr (nI_lt ?_ hj)
        have := (nI_leI h2 hj).mp h
        omega
theorem has2 (N : Nat) (n x : Int32) : f_X2_has N n x = some (if x < 0 ∨ n ≤ x then 0 else 1) := by
  unfold f_X2_has
  by_cases h1 : x < 0
  · rw [if_pos h1, if_pos (Or.inl h1)]
  · rw [if_neg h1]
    by_cases h2 : n ≤ x
    · rw [if_pos h2, if_pos (Or.inr h2)]
    · rw [if_neg h2, if_neg (fun h => h.elim h1 h2)]
/-- an index that passed 'has' -/
theorem item_nI {n : Nat} {x : Int32} (hn : n < 2 ^ 31) (h : ¬ (x < 0 ∨ nI n ≤ x)) : ∃ k : Nat, k < n ∧ x = nI k := by
  obtain ⟨j, hj, e⟩ := nI_of (fun g => h (Or.inl g))
  subst e
  refine ⟨j, ?_, rfl⟩
  rcases Nat.lt_or_ge j n with q | q
  · exact q
  · exact absurd (Or.inr (nI_le q hj)) h
theorem eq_modulus : St_modulus := by
  intro N cm rm x1 hN hM
  obtain ⟨rfl, n, h1, h2, h3⟩ := hM
  unfold f_X9_modulus f_X10_modulus
  rw [within_eq, in10 N x1 2 16 (by decide) (by decide)]
  simp only [grd]
  by_cases h : x1 < 2 ∨ 16 < x1
  · exact ⟨_, _, if_pos h, if_pos h, rfl, rfl, n, h1, h2, h3⟩
  · refine ⟨_, _, if_neg h, if_neg h, rfl, rfl, ?_⟩
    obtain ⟨j, a, b, e⟩ := bnd (x := x1) 2 16 (by decide) (by decide) h
    exact ⟨j, a, b, e⟩
theorem eq_lot : St_lot := by
  intro N cl rl x1 x2 hN hL
  unfold f_X9_lot f_X10_lot
  simp only [within_eq, in10 N x1 0 39 (a := 0) (b := 39) (by decide) (by decide), in10 N x2 0 15 (a := 0) (b := 15) (by decide) (by decide), grd]
  by_cases h : x1 < 0 ∨ 39 < x1
  · exact ⟨_, _, if_pos h, if_pos h, rfl, hL⟩
  · rw [if_neg h, if_neg h]
    by_cases g : x2 < 0 ∨ 15 < x2
    · exact ⟨_, _, if_pos g, if_pos g, rfl, hL⟩
    · rw [if_neg g, if_neg g]
      obtain ⟨k, _, hk, rfl⟩ := bnd (x := x1) 0 39 (by decide) (by decide) h
      obtain ⟨v, _, hv, rfl⟩ := bnd (x := x2) 0 15 (by decide) (by decide) g
      rw [swap_nI N cl (nI v) (show k < 40 by omega) (by decide), if_pos (gin_nI (show k < 40 by omega) (by decide)), if_pos (gin_nI (show k < 40 by omega) (by decide)), nI_clamp (by omega)]
      refine ⟨_, _, rfl, rfl, (hL k (by omega)).1, ?_⟩
      intro j hj
      show upd cl k (nI v) j = upd rl k (nI v) j ∧ ∃ n : Nat, n ≤ 15 ∧ upd rl k (nI v) j = nI n
      unfold upd
      by_cases e : j = k
      · rw [if_pos e, if_pos e]; exact ⟨rfl, v, hv, rfl⟩
      · rw [if_neg e, if_neg e]; exact hL j hj
theorem eq_trade : St_trade := by
  intro N cl rl x1 x2 hN hL
  unfold f_X9_trade f_X10_trade
  simp only [within_eq, in10 N x1 0 2 (a := 0) (b := 2) (by decide) (by decide), in10 N x2 0 999 (a := 0) (b := 999) (by decide) (by decide), grd]
  by_cases h : x1 < 0 ∨ 2 < x1
  · exact ⟨_, _, if_pos h, if_pos h, rfl, hL⟩
  · rw [if_neg h, if_neg h]
    by_cases g : x2 < 0 ∨ 999 < x2
    · exact ⟨_, _, if_pos g, if_pos g, rfl, hL⟩
    · rw [if_neg g, if_neg g]
      obtain ⟨k, _, hk, rfl⟩ := bnd (x := x1) 0 2 (by decide) (by decide) h
      obtain ⟨v, _, hv, rfl⟩ := bnd (x := x2) 0 999 (by decide) (by decide) g
      rw [swap_nI N cl (nI v) (show k < 3 by omega) (by decide), if_pos (gin_nI (show k < 3 by omega) (by decide)), if_pos (gin_nI (show k < 3 by omega) (by decide)), nI_clamp (by omega)]
      refine ⟨_, _, rfl, rfl, (hL k (by omega)).1, ?_⟩
      intro j hj
      show upd cl k (nI v) j = upd rl k (nI v) j ∧ ∃ n : Nat, n ≤ 999 ∧ upd rl k (nI v) j = nI n
      unfold upd
      by_cases e : j = k
      · rw [if_pos e, if_pos e]; exact ⟨rfl, v, hv, rfl⟩
      · rw [if_neg e, if_neg e]; exact hL j hj
theorem eq_clear : St_clear := by
  intro N cl cb rt rb hN hT
  obtain ⟨rfl, rfl, h, hb⟩ := hT
  exact ⟨_, _, rfl, rfl, rfl, rfl, rfl, ⟨0, by decide, rfl⟩, hb⟩
theorem eq_trace : St_trace := by
  intro N a b hN hZ
  exact ⟨_, _, rfl, rfl, hZ⟩
theorem eq_honest : St_honest := by
  intro N cc cl rc li lh lb hN hY
  obtain ⟨rfl, c, hc, e, hb, hs⟩ := hY
  unfold f_X9_honest f_X10_honest f_X6_forgetLies
  rw [wipe_eq N 48 cl (by unfold NB at hN; omega) (by decide)]
  refine ⟨_, _, rfl, rfl, rfl, rfl, 0, by decide, rfl, fun k h => absurd h (Nat.not_lt_zero k), ?_⟩
  intro i h hi hh
  show fillR cl 0 48 (3 * i + h) = 0
  unfold fillR
  rw [if_pos (by omega)]
theorem countOf_loop (N : Nat) (w : Nat → Int32) (c : Int32) (n : Nat) (hn : n ≤ 16) : ∀ (m k fuel : Nat), k + m = n → m < fuel → f_X10_countOf_4 N (nI n) w c fuel (nI (cntW w c k)) (nI k) = some (nI (cntW w c n)) := by
  intro m
  induction m with
  | zero =>
    intro k fuel hk hf
    obtain ⟨f, rfl⟩ : ∃ f, fuel = f + 1 := ⟨fuel - 1, by omega⟩
    show s_X10_countOf_4 N (nI n) w c (f_X10_countOf_4 N (nI n) w c f) _ _ = _
    unfold s_X10_countOf_4
    have e : k = n := by omega
    subst e
    rw [if_pos (Int32.le_refl _)]
  | succ m ih =>
    intro k fuel hk hf
    obtain ⟨f, rfl⟩ : ∃ f, fuel = f + 1 := ⟨fuel - 1, by omega⟩
    show s_X10_countOf_4 N (nI n) w c (f_X10_countOf_4 N (nI n) w c f) _ _ = _
    unfold s_X10_countOf_4
    rw [if_neg (nI_ge (show k < n by omega) (by omega)), if_pos (gin_nI (show k < 32 by omega) (by decide)), nI_clamp (by omega), show nI k + 1 = nI (k + 1) from nI_1 k]
    have hi := ih (k + 1) f (by omega) (by omega)
    by_cases h : w k = c
    · rw [if_pos h]
      have e : nI (cntW w c k) + 1 = nI (cntW w c (k + 1)) := by
        rw [nI_1]; show _ = nI (cntW w c k + if w k = c then 1 else 0); rw [if_pos h]
      rw [e]; exact hi
    · rw [if_neg h]
      have e : nI (cntW w c k) + 0 = nI (cntW w c (k + 1)) := by
        show _ = nI (cntW w c k + if w k = c then 1 else 0); rw [if_neg h]; exact Int32.add_zero _
      rw [e]; exact hi
theorem countOf_eq (N : Nat) (hN : NB ≤ N) (w : Nat → Int32) (c : Int32) (n : Nat) (hn : n ≤ 16) : f_X10_countOf N (nI n) w c = some (nI (cntW w c n)) :=
  countOf_loop N w c n hn n 0 N (by omega) (by unfold NB at hN; omega)
theorem lotsTaken_eq (N : Nat) (hN : NB ≤ N) (w : Nat → Int32) (n : Nat) (hn : n ≤ 16) : f_X10_lotsTaken N (nI n) w = some (2 * nI (cntW w 0 n) + 8 * nI (cntW w 4 n)) := by
  unfold f_X10_lotsTaken
  rw [countOf_eq N hN w 0 n hn, countOf_eq N hN w 4 n hn]
  rfl
theorem eq_count : St_count := by
  intro N a1 a2 a3 a4 a5 a6 a7 a8 a9 b1 b2 b3 b4 b5 b6 b7 b8 b9 d1 d2 d3 d4 d5 d6 d7 d8 d9 e1 e2 e3 e4 x1 hN hT hP hY hO
  obtain ⟨rfl, _⟩ := hT
  obtain ⟨n, p1, p2, rfl, rfl, _, rfl, rfl, _⟩ := hP
  obtain ⟨rfl, _⟩ := hY
  obtain ⟨rfl, rfl, _⟩ := hO
  unfold f_X9_count f_X10_count
  rw [countOf_eq N hN _ 0 n p2, countOf_eq N hN _ 4 n p2, lotsTaken_eq N hN _ n p2]
  unfold f_X2_lotsTaken
  by_cases h0 : x1 = 0
  · simp only [if_pos h0]; exact ⟨_, _, rfl, rfl, rfl⟩
  simp only [if_neg h0]
  by_cases h1 : x1 = 1
  · simp only [if_pos h1]; exact ⟨_, _, rfl, rfl, rfl⟩
  simp only [if_neg h1]
  by_cases h2 : x1 = 2
  · simp only [if_pos h2]; exact ⟨_, _, rfl, rfl, rfl⟩
  simp only [if_neg h2]
  by_cases h3 : x1 = 3
  · simp only [if_pos h3]; exact ⟨_, _, rfl, rfl, rfl⟩
  simp only [if_neg h3]
  by_cases h4 : x1 = 4
  · simp only [if_pos h4]; exact ⟨_, _, rfl, rfl, rfl⟩
  simp only [if_neg h4]
  by_cases h5 : x1 = 5
  · simp only [if_pos h5]; exact ⟨_, _, rfl, rfl, rfl⟩
  simp only [if_neg h5]
  by_cases h6 : x1 = 6
  · simp only [if_pos h6]; exact ⟨_, _, rfl, rfl, rfl⟩
  simp only [if_neg h6]
  by_cases h7 : x1 = 7
  · simp only [if_pos h7]; exact ⟨_, _, rfl, rfl, rfl⟩
  simp only [if_neg h7]
  exact ⟨_, _, rfl, rfl, rfl⟩
theorem eq_input : St_input := by
  intro N a1 a2 a3 a4 ci b1 w b3 b4 b5 b6 ri x1 x2 x3 hN hP hI
  obtain ⟨n, p1, p2, rfl, rfl, _, rfl, _, p3, _⟩ := hP
  unfold f_X9_input f_X10_input
  rw [countOf_eq N hN w 0 n p2]
  generalize hc : cntW w 0 n = c at p3
  show ∃ zc zr, _ ∧ ((f_X10_in N x1.toInt64 0 (nI c - 1).toInt64).bind _) = _ ∧ _
  simp only [within_eq, in10 N x1 0 (nI c - 1) (a := 0) (b := (nI c - 1).toInt64) (by decide) rfl, in10 N x2 0 1 (a := 0) (b := 1) (by decide) (by decide), in10 N x3 0 15 (a := 0) (b := 15) (by decide) (by decide), grd]
  by_cases h : x1 < 0 ∨ nI c - 1 < x1
  · exact ⟨_, _, if_pos h, if_pos h, rfl, hI⟩
  · rw [if_neg h, if_neg h]
    by_cases g : x2 < 0 ∨ 1 < x2
    · exact ⟨_, _, if_pos g, if_pos g, rfl, hI⟩
    · rw [if_neg g, if_neg g]
      by_cases u : x3 < 0 ∨ 15 < x3
      · exact ⟨_, _, if_pos u, if_pos u, rfl, hI⟩
      · rw [if_neg u, if_neg u]
        have hc1 : 1 ≤ c := by
          rcases Nat.eq_zero_or_pos c with e | e
          · exfalso
            subst e
            apply h
            rcases Int32.lt_or_le x1 0 with q | q
            · exact Or.inl q
            · exact Or.inr (Int32.lt_of_lt_of_le (by decide) q)
          · exact e
        rw [nI_subl hc1] at h
        obtain ⟨k, _, hk, rfl⟩ := bnd (x := x1) 0 (c - 1) (by omega) (by omega) h
        obtain ⟨r, _, hr, rfl⟩ := bnd (x := x2) 0 1 (by decide) (by decide) g
        obtain ⟨v, _, hv, rfl⟩ := bnd (x := x3) 0 15 (by decide) (by decide) u
        rw [show (4 : Int32) = nI 4 from rfl, nI_mul, nI_mul, nI_add, nI_add, Nat.mul_comm r 4]
        rw [swap_nI N ci (nI v) (show 4 * r + k < 8 by omega) (by decide), if_pos (gin_nI (show 4 * r + k < 8 by omega) (by decide)), if_pos (gin_nI (show 4 * r + k < 8 by omega) (by decide)), nI_clamp (by omega)]
        refine ⟨_, _, rfl, rfl, (hI _ (by omega)).1, ?_⟩
        intro j hj
        show upd ci (4 * r + k) (nI v) j = upd ri (4 * r + k) (nI v) j ∧ ∃ n : Nat, n ≤ 15 ∧ upd ri (4 * r + k) (nI v) j = nI n
        unfold upd
        by_cases e : j = 4 * r + k
        · rw [if_pos e, if_pos e]; exact ⟨rfl, v, hv, rfl⟩
        · rw [if_neg e, if_neg e]; exact hI j hj
