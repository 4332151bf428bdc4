/-! words, digits, tokens -/
theorem sp_no (N : Nat) {e q : Nat} (hq : q ≤ e) (he : e ≤ 300) (rb : Nat → Int32) {x1 : Nat} (hx : x1 < 2 ^ 31) (h : e - q ≠ x1) (x2 x3 x4 : Int32) : f_X10_isSpelled N (nI e) (nI q) rb (nI x1) x2 x3 x4 = some 0 := by
  unfold f_X10_isSpelled
  rw [nI_pksub hq, if_neg (fun z => h ((nI_eq (by omega) hx).mp z))]
theorem sp_2 (N : Nat) {q : Nat} (hq : q + 2 ≤ 300) (rb : Nat → Int32) {b0 b1 : Nat} (e0 : rb q = nI b0) (e1 : rb (q + 1) = nI b1) (l0 : b0 < 256) (l1 : b1 < 256) (x4 : Int32) : f_X10_isSpelled N (nI (q + 2)) (nI q) rb 2 105 110 x4 = some (if b0 = 105 ∧ b1 = 110 then 1 else 0) := by
  unfold f_X10_isSpelled
  rw [nI_pksub (show q ≤ q + 2 by omega), show q + 2 - q = 2 by omega, if_pos (show nI 2 = 2 from rfl), if_pos (gin_nI (show q < 300 by omega) (by decide)), nI_clamp (by omega), nI_1, if_pos (gin_nI (show q + 1 < 300 by omega) (by decide)), nI_clamp (by omega), if_pos (show (2 : Int32) < 3 by decide), e0, e1]
  by_cases c0 : b0 = 105
  · rw [if_pos (show nI b0 = 105 by rw [c0]; rfl)]
    by_cases c1 : b1 = 110
    · rw [if_pos (show nI b1 = 110 by rw [c1]; rfl), if_pos ⟨c0, c1⟩]
    · rw [if_neg (show ¬ nI b1 = 110 from fun z => c1 ((nI_eq (b := 110) (by omega) (by decide)).mp z)), if_neg (fun z => c1 z.2)]
  · rw [if_neg (show ¬ nI b0 = 105 from fun z => c0 ((nI_eq (b := 105) (by omega) (by decide)).mp z)), if_neg (fun z => c0 z.1)]
theorem sp_3 (N : Nat) {q : Nat} (hq : q + 3 ≤ 300) (rb : Nat → Int32) {b0 b1 b2 x y z : Nat} (e0 : rb q = nI b0) (e1 : rb (q + 1) = nI b1) (e2 : rb (q + 2) = nI b2) (l0 : b0 < 256) (l1 : b1 < 256) (l2 : b2 < 256) (lx : x < 256) (ly : y < 256) (lz : z < 256) : f_X10_isSpelled N (nI (q + 3)) (nI q) rb 3 (nI x) (nI y) (nI z) = some (if b0 = x ∧ b1 = y ∧ b2 = z then 1 else 0) := by
  unfold f_X10_isSpelled
  rw [nI_pksub (show q ≤ q + 3 by omega), show q + 3 - q = 3 by omega, if_pos (show nI 3 = 3 from rfl), if_pos (gin_nI (show q < 300 by omega) (by decide)), nI_clamp (by omega), nI_1, if_pos (gin_nI (show q + 1 < 300 by omega) (by decide)), nI_clamp (by omega), if_neg (show ¬ (3 : Int32) < 3 by decide), show nI q + 2 = nI (q + 2) from nI_add q 2, if_pos (gin_nI (show q + 2 < 300 by omega) (by decide)), nI_clamp (by omega), e0, e1, e2]
  by_cases c0 : b0 = x
  · rw [if_pos (show nI b0 = nI x by rw [c0])]
    by_cases c1 : b1 = y
    · rw [if_pos (show nI b1 = nI y by rw [c1])]
      by_cases c2 : b2 = z
      · rw [if_pos (show nI b2 = nI z by rw [c2]), if_pos ⟨c0, c1, c2⟩]
      · rw [if_neg (fun w => c2 ((nI_eq (by omega) (by omega)).mp w)), if_neg (fun w => c2 w.2.2)]
    · rw [if_neg (fun w => c1 ((nI_eq (by omega) (by omega)).mp w)), if_neg (fun w => c1 w.2.1)]
  · rw [if_neg (fun w => c0 ((nI_eq (by omega) (by omega)).mp w)), if_neg (fun w => c0 w.1)]
theorem what_no (N : Nat) {P : Nat} (hP : P < 2 ^ 31) (h1 : P ≠ 26990) (h2 : P ≠ 6382692) (h3 : P ≠ 6516590) (h4 : P ≠ 7173484) (h5 : P ≠ 7304564) (h6 : P ≠ 7566690) : f_X3_whatOf N (nI P) = some (-1) := by
  unfold f_X3_whatOf
  rw [if_neg (show ¬ nI P = 26990 from fun z => h1 ((nI_eq (b := 26990) hP (by decide)).mp z)), if_neg (show ¬ nI P = 6382692 from fun z => h2 ((nI_eq (b := 6382692) hP (by decide)).mp z)), if_neg (show ¬ nI P = 6516590 from fun z => h3 ((nI_eq (b := 6516590) hP (by decide)).mp z)), if_neg (show ¬ nI P = 7173484 from fun z => h4 ((nI_eq (b := 7173484) hP (by decide)).mp z)), if_neg (show ¬ nI P = 7304564 from fun z => h5 ((nI_eq (b := 7304564) hP (by decide)).mp z)), if_neg (show ¬ nI P = 7566690 from fun z => h6 ((nI_eq (b := 7566690) hP (by decide)).mp z))]
theorem pk_hi (rb : Nat → Int32) (q : Nat) : ∀ l : Nat, 4 ≤ l → pkN rb q l = 0 := by
  intro l hl
  obtain ⟨k, rfl⟩ : ∃ k, l = k + 1 := ⟨l - 1, by omega⟩
  rw [pkN_s, if_neg (by omega)]
theorem word_both (N : Nat) {rb : Nat → Int32} (hb : ∀ j, -128 ≤ (rb j).toInt ∧ (rb j).toInt ≤ 127) {n q e : Nat} (hn : n ≤ 300) (he : 1 ≤ e) (hqe : q + e ≤ n) (hs : ∀ i, i < e → 97 ≤ bvN rb (q + i) ∧ bvN rb (q + i) ≤ 122) :
    ∃ zc zr : Int32, f_X3_whatOf N (nI (pkN rb q e)) = some zc ∧ f_X10_word N (nI (q + e)) (nI q) rb = some zr ∧ ((zc = -1 ∧ zr = -9) ∨ ∃ c : Nat, c ≤ 5 ∧ zc = nI c ∧ zr = nI c) := by
  have raw : ∀ i, i < e → rb (q + i) = nI (bvN rb (q + i)) := by
    intro i hi
    have h1 := (bv_eq (hb (q + i))).2.2
    have h2 := hs i hi
    exact h1.resolve_left (by omega)
  have hno2 : e ≠ 2 → ∀ x2 x3 x4, f_X10_isSpelled N (nI (q + e)) (nI q) rb 2 x2 x3 x4 = some 0 := fun h x2 x3 x4 => sp_no N (x1 := 2) (by omega) (by omega) rb (by decide) (by omega) x2 x3 x4
  have hno3 : e ≠ 3 → ∀ x2 x3 x4, f_X10_isSpelled N (nI (q + e)) (nI q) rb 3 x2 x3 x4 = some 0 := fun h x2 x3 x4 => sp_no N (x1 := 3) (by omega) (by omega) rb (by decide) (by omega) x2 x3 x4
  unfold f_X10_word f_X10_word_21 f_X10_word_41 f_X10_word_61 f_X10_word_81 f_X10_word_101
  rcases (show e = 1 ∨ e = 2 ∨ e = 3 ∨ 4 ≤ e by omega) with z | z | z | z
  · subst z
    have hp := pkN_b rb hb q
    refine ⟨-1, -9, what_no N (by omega) (by omega) (by omega) (by omega) (by omega) (by omega) (by omega), ?_, Or.inl ⟨rfl, rfl⟩⟩
    simp only [hno2 (by decide), hno3 (by decide), Option.bind_some, if_true]
  · subst z
    have hp := pkN_b rb hb q
    have r0 := raw 0 (by decide)
    have r1 := raw 1 (by decide)
    have l0 := (bv_eq (hb (q + 0))).2.1
    have l1 := (bv_eq (hb (q + 1))).2.1
    have p2 : pkN rb q 2 = (0 * 256 + bvN rb (q + 0)) * 256 + bvN rb (q + 1) := rfl
    rw [Nat.add_zero] at r0 l0 p2
    rw [sp_2 N (by omega) rb r0 r1 l0 l1, Option.bind_some]
    simp only [hno3 (by decide), Option.bind_some, if_true]
    by_cases c : bvN rb q = 105 ∧ bvN rb (q + 1) = 110
    · rw [if_pos c]
      refine ⟨0, 0, ?_, rfl, Or.inr ⟨0, by decide, rfl, rfl⟩⟩
      rw [show pkN rb q 2 = 26990 by omega]
      rfl
    · rw [if_neg c, if_pos rfl]
      refine ⟨-1, -9, what_no N (by omega) (by omega) (by omega) (by omega) (by omega) (by omega) (by omega), rfl, Or.inl ⟨rfl, rfl⟩⟩
  · subst z
    have hp := pkN_b rb hb q
    have s0 := hs 0 (by decide)
    have s1 := hs 1 (by decide)
    have s2 := hs 2 (by decide)
    have r0 := raw 0 (by decide)
    have r1 := raw 1 (by decide)
    have r2 := raw 2 (by decide)
    have l0 := (bv_eq (hb (q + 0))).2.1
    have l1 := (bv_eq (hb (q + 1))).2.1
    have l2 := (bv_eq (hb (q + 2))).2.1
    have p3 : pkN rb q 3 = ((0 * 256 + bvN rb (q + 0)) * 256 + bvN rb (q + 1)) * 256 + bvN rb (q + 2) := rfl
    rw [Nat.add_zero] at r0 l0 p3 s0
    have sp : ∀ x y z : Nat, x < 256 → y < 256 → z < 256 → f_X10_isSpelled N (nI (q + 3)) (nI q) rb 3 (nI x) (nI y) (nI z) = some (if bvN rb q = x ∧ bvN rb (q + 1) = y ∧ bvN rb (q + 2) = z then 1 else 0) := fun x y z hx hy hz => sp_3 N (by omega) rb r0 r1 r2 l0 l1 l2 hx hy hz
    have spA : f_X10_isSpelled N (nI (q + 3)) (nI q) rb 3 99 111 110 = _ := sp 99 111 110 (by decide) (by decide) (by decide)
    have spB : f_X10_isSpelled N (nI (q + 3)) (nI q) rb 3 97 100 100 = _ := sp 97 100 100 (by decide) (by decide) (by decide)
    have spC : f_X10_isSpelled N (nI (q + 3)) (nI q) rb 3 115 117 98 = _ := sp 115 117 98 (by decide) (by decide) (by decide)
    have spD : f_X10_isSpelled N (nI (q + 3)) (nI q) rb 3 109 117 108 = _ := sp 109 117 108 (by decide) (by decide) (by decide)
    have spE : f_X10_isSpelled N (nI (q + 3)) (nI q) rb 3 111 117 116 = _ := sp 111 117 116 (by decide) (by decide) (by decide)
    rw [hno2 (by decide), Option.bind_some, if_pos rfl, spA, spB, spC, spD, spE]
    simp only [Option.bind_some]
    generalize bvN rb q = b0 at *
    generalize bvN rb (q + 1) = b1 at *
    generalize bvN rb (q + 2) = b2 at *
    generalize pkN rb q 3 = P at *
    by_cases cA : b0 = 99 ∧ b1 = 111 ∧ b2 = 110
    · obtain ⟨rfl, rfl, rfl⟩ := cA
      refine ⟨1, 1, ?_, by decide, Or.inr ⟨1, by decide, rfl, rfl⟩⟩
      rw [show P = 6516590 by omega]; rfl
    by_cases cB : b0 = 97 ∧ b1 = 100 ∧ b2 = 100
    · obtain ⟨rfl, rfl, rfl⟩ := cB
      refine ⟨2, 2, ?_, by decide, Or.inr ⟨2, by decide, rfl, rfl⟩⟩
      rw [show P = 6382692 by omega]; rfl
    by_cases cC : b0 = 115 ∧ b1 = 117 ∧ b2 = 98
    · obtain ⟨rfl, rfl, rfl⟩ := cC
      refine ⟨3, 3, ?_, by decide, Or.inr ⟨3, by decide, rfl, rfl⟩⟩
      rw [show P = 7566690 by omega]; rfl
    by_cases cD : b0 = 109 ∧ b1 = 117 ∧ b2 = 108
    · obtain ⟨rfl, rfl, rfl⟩ := cD
      refine ⟨4, 4, ?_, by decide, Or.inr ⟨4, by decide, rfl, rfl⟩⟩
      rw [show P = 7173484 by omega]; rfl
    by_cases cE : b0 = 111 ∧ b1 = 117 ∧ b2 = 116
    · obtain ⟨rfl, rfl, rfl⟩ := cE
      refine ⟨5, 5, ?_, by decide, Or.inr ⟨5, by decide, rfl, rfl⟩⟩
      rw [show P = 7304564 by omega]; rfl
    rw [if_neg cA, if_pos rfl, if_neg cB, if_pos rfl, if_neg cC, if_pos rfl, if_neg cD, if_pos rfl, if_neg cE, if_pos rfl]
    exact ⟨-1, -9, what_no N (by omega) (by omega) (by omega) (by omega) (by omega) (by omega) (by omega), rfl, Or.inl ⟨rfl, rfl⟩⟩
  · have hp := pk_hi rb q e z
    refine ⟨-1, -9, ?_, ?_, Or.inl ⟨rfl, rfl⟩⟩
    · rw [hp]; exact what_no N (by decide) (by decide) (by decide) (by decide) (by decide) (by decide) (by decide)
    · simp only [hno2 (by omega), hno3 (by omega), Option.bind_some, if_true]
def dcN (rb : Nat → Int32) (q : Nat) : Nat → Nat
  | 0 => 0
  | l + 1 => if l < 2 then dcN rb q l * 10 + bvN rb (q + l) - 48 else dcN rb q l
def drN (rb : Nat → Int32) (q : Nat) : Nat → Nat
  | 0 => 0
  | l + 1 => if drN rb q l ≤ 99 then 10 * drN rb q l + bvN rb (q + l) - 48 else drN rb q l
theorem dcN_s (rb : Nat → Int32) (q l : Nat) : dcN rb q (l + 1) = if l < 2 then dcN rb q l * 10 + bvN rb (q + l) - 48 else dcN rb q l := rfl
theorem drN_s (rb : Nat → Int32) (q l : Nat) : drN rb q (l + 1) = if drN rb q l ≤ 99 then 10 * drN rb q l + bvN rb (q + l) - 48 else drN rb q l := rfl
theorem dcN_b (rb : Nat → Int32) (q : Nat) : ∀ l : Nat, (∀ i, i < l → 48 ≤ bvN rb (q + i) ∧ bvN rb (q + i) ≤ 57) → dcN rb q l ≤ 99 ∧ (l ≤ 1 → dcN rb q l ≤ 9) := by
  intro l
  induction l with
  | zero => intro _; exact ⟨Nat.zero_le _, fun _ => Nat.zero_le _⟩
  | succ l ih =>
    intro h
    have hi := ih (fun i hi => h i (by omega))
    have hl := h l (by omega)
    rw [dcN_s]
    by_cases c : l < 2
    · rw [if_pos c]
      have h0 : l = 0 → dcN rb q l = 0 := fun z => by rw [z]; rfl
      have h9 := hi.2 (by omega)
      refine ⟨by omega, fun z => ?_⟩
      have := h0 (by omega)
      omega
    · rw [if_neg c]; exact ⟨hi.1, fun z => by omega⟩
theorem drN_b (rb : Nat → Int32) (q : Nat) : ∀ l : Nat, (∀ i, i < l → 48 ≤ bvN rb (q + i) ∧ bvN rb (q + i) ≤ 57) → drN rb q l ≤ 999 := by
  intro l
  induction l with
  | zero => intro _; exact Nat.zero_le _
  | succ l ih =>
    intro h
    have hi := ih (fun i hi => h i (by omega))
    have hl := h l (by omega)
    rw [drN_s]
    by_cases c : drN rb q l ≤ 99
    · rw [if_pos c]; omega
    · rw [if_neg c]; exact hi
theorem drN_hi (rb : Nat → Int32) (q : Nat) (h0 : 49 ≤ bvN rb (q + 0)) : ∀ l : Nat, 3 ≤ l → (∀ i, i < l → 48 ≤ bvN rb (q + i) ∧ bvN rb (q + i) ≤ 57) → 99 < drN rb q l := by
  intro l
  induction l with
  | zero => intro h; omega
  | succ l ih =>
    intro hl h
    by_cases c : l = 2
    · subst c
      have b0 := h 0 (by omega)
      have b1 := h 1 (by omega)
      have b2 := h 2 (by omega)
      have e1 : drN rb q 1 = 10 * 0 + bvN rb (q + 0) - 48 := rfl
      have e2 : drN rb q 2 = if drN rb q 1 ≤ 99 then 10 * drN rb q 1 + bvN rb (q + 1) - 48 else drN rb q 1 := rfl
      rw [if_pos (by omega)] at e2
      have e3 : drN rb q 3 = if drN rb q 2 ≤ 99 then 10 * drN rb q 2 + bvN rb (q + 2) - 48 else drN rb q 2 := rfl
      rw [if_pos (by omega)] at e3
      show 99 < drN rb q 3
      omega
    · have := ih (by omega) (fun i hi => h i (by omega))
      rw [drN_s, if_neg (by omega)]
      exact this
theorem dig_both (N : Nat) {rb : Nat → Int32} (hb : ∀ j, -128 ≤ (rb j).toInt ∧ (rb j).toInt ≤ 127) {n q : Nat} (hn : n ≤ 300) : ∀ (j l fuel fu2 : Nat), q + l + j = n → j < fuel → j < fu2 → (∀ i, i < l → 48 ≤ bvN rb (q + i) ∧ bvN rb (q + i) ≤ 57) →
    ∃ e, l ≤ e ∧ q + e ≤ n ∧ (∀ i, i < e → 48 ≤ bvN rb (q + i) ∧ bvN rb (q + i) ≤ 57) ∧ (e = l → q + l = n ∨ ¬ (48 ≤ bvN rb (q + l) ∧ bvN rb (q + l) ≤ 57)) ∧ (∀ k z, f_X3_readDigits_19 N (nI q) (nI n) rb fuel (nI (q + l)) k (nI (dcN rb q l)) z = f_X3_readDigits_93 N (nI q) (nI n) rb (nI (q + e)) k (nI (dcN rb q e)) z) ∧ ∀ st so y1, f_X10_next_139 N (nI n) rb fu2 (nI (q + l)) st so (nI (drN rb q l)) y1 = f_X10_next_204 N (nI n) rb (nI (q + e)) st so (nI (drN rb q e)) y1 := by
  intro j
  induction j with
  | zero =>
    intro l fuel fu2 hp hf hf2 hs
    obtain ⟨f, rfl⟩ : ∃ f, fuel = f + 1 := ⟨fuel - 1, by omega⟩
    obtain ⟨g, rfl⟩ : ∃ g, fu2 = g + 1 := ⟨fu2 - 1, by omega⟩
    have e : n = q + l := by omega
    subst e
    refine ⟨l, Nat.le_refl _, by omega, hs, fun _ => Or.inl rfl, ?_, ?_⟩
    · intro k z
      rw [u_X3_readDigits_19]
      unfold s_X3_readDigits_19
      rw [if_pos (Int32.le_refl _)]
    · intro st so y1
      rw [u_X10_next_139]
      unfold s_X10_next_139
      rw [here_end, Option.bind_some, (neg10 N).2, Option.bind_some, if_pos rfl]
  | succ j ih =>
    intro l fuel fu2 hp hf hf2 hs
    obtain ⟨f, rfl⟩ : ∃ f, fuel = f + 1 := ⟨fuel - 1, by omega⟩
    obtain ⟨g, rfl⟩ : ∃ g, fu2 = g + 1 := ⟨fu2 - 1, by omega⟩
    have hpn : q + l < n := by omega
    have hbl := (bv_eq (hb (q + l))).2.1
    by_cases c : 48 ≤ bvN rb (q + l) ∧ bvN rb (q + l) ≤ 57
    · have hdb := dcN_b rb q l hs
      have hrb := drN_b rb q l hs
      obtain ⟨e, h1, h2, h3, _, h4, h5⟩ := ih (l + 1) f g (by omega) (by omega) (by omega) (by
        intro i hi
        by_cases z : i = l
        · rw [z]; exact c
        · exact hs i (by omega))
      refine ⟨e, by omega, h2, h3, fun z => by omega, ?_, ?_⟩
      · intro k z
        rw [u_X3_readDigits_19]
        unfold s_X3_readDigits_19
        rw [if_neg (nI_ge hpn (by omega)), byte_lt N hb hn hpn, Option.bind_some, digit9 N (by omega), Option.bind_some, if_pos c, if_neg (by decide), nI_pksub (show q ≤ q + l by omega), show q + l - q = l by omega, Option.bind_some]
        unfold f_X3_readDigits_80
        rw [nI_1]
        refine Eq.trans ?_ (h4 k z)
        rw [dcN_s]
        rcases Nat.lt_or_ge l 2 with y | y
        · rw [if_neg (show ¬ (2 : Int32) ≤ nI l from nI_ge (b := 2) y (by decide)), if_pos y, show nI (dcN rb q l) * 10 = nI (dcN rb q l * 10) from nI_mul _ 10, nI_add, show nI (dcN rb q l * 10 + bvN rb (q + l)) - 48 = nI (dcN rb q l * 10 + bvN rb (q + l) - 48) from nI_pksub (b := 48) (by omega)]
          rfl
        · rw [if_pos (show (2 : Int32) ≤ nI l from nI_le (a := 2) y (by omega)), if_neg (show ¬ l < 2 by omega)]
          rfl
      · intro st so y1
        rw [u_X10_next_139]
        unfold s_X10_next_139
        rw [here_lt N hb hn hpn, Option.bind_some, digit10 N (by omega), Option.bind_some, if_pos c, if_neg (by decide), Option.bind_some]
        unfold f_X10_next_188
        rw [nI_1]
        refine Eq.trans ?_ (h5 st so y1)
        rw [drN_s]
        rcases Nat.lt_or_ge 99 (drN rb q l) with y | y
        · rw [if_neg (show ¬ nI (drN rb q l) ≤ 99 from nI_ge (a := 99) y (by omega)), if_neg (show ¬ drN rb q l ≤ 99 by omega)]
          rfl
        · rw [if_pos (show nI (drN rb q l) ≤ 99 from nI_le (b := 99) y (by decide)), if_pos y, show (10 : Int32) * nI (drN rb q l) = nI (10 * drN rb q l) from nI_mul 10 _, nI_add, show nI (10 * drN rb q l + bvN rb (q + l)) - 48 = nI (10 * drN rb q l + bvN rb (q + l) - 48) from nI_pksub (b := 48) (by omega)]
          rfl
    · refine ⟨l, Nat.le_refl _, by omega, hs, fun _ => Or.inr c, ?_, ?_⟩
      · intro k z
        rw [u_X3_readDigits_19]
        unfold s_X3_readDigits_19
        rw [if_neg (nI_ge hpn (by omega)), byte_lt N hb hn hpn, Option.bind_some, digit9 N (by omega), Option.bind_some, if_neg c, if_pos rfl]
      · intro st so y1
        rw [u_X10_next_139]
        unfold s_X10_next_139
        rw [here_lt N hb hn hpn, Option.bind_some, digit10 N (by omega), Option.bind_some, if_neg c, if_pos rfl]
