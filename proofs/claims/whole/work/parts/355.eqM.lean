/-! rows of the other inputs, one after another -/
theorem clear_loop (N : Nat) {n m : Nat} (hn : n ≤ 16) {w d cc : Nat → Int32} (hcells : ∀ k : Nat, k < n → cc (6 * k) = w k ∧ cc (6 * k + 4) = d k) (x1 : Int32) (c0 : cntW w 0 n ≤ 4) (inp : Nat → Nat) : ∀ (j k fuel : Nat) (tr : Nat → Int32), k + j = n → j < fuel → (∀ i, i < cntW w 0 n → tr i = nI (if (mkN w d x1 n).testBit i = true ∧ i < cntW w 0 k then 0 else inp i % m)) →
    ∃ tr', (∀ i, i < cntW w 0 n → tr' i = nI (if (mkN w d x1 n).testBit i = true ∧ i < cntW w 0 n then 0 else inp i % m)) ∧ f_X4_clearOthers_5 N (nI n) cc x1 fuel tr (nI (cntW w 0 k)) (nI k) = some tr' := by
  intro j
  induction j with
  | zero =>
    intro k fuel tr hk hf h
    obtain ⟨f, rfl⟩ : ∃ f, fuel = f + 1 := ⟨fuel - 1, by omega⟩
    have e : k = n := by omega
    rw [e] at h ⊢
    rw [u_X4_clearOthers_5]
    unfold s_X4_clearOthers_5
    rw [if_pos (Int32.le_refl _)]
    exact ⟨tr, h, rfl⟩
  | succ j ih =>
    intro k fuel tr hk hf h
    obtain ⟨f, rfl⟩ : ∃ f, fuel = f + 1 := ⟨fuel - 1, by omega⟩
    obtain ⟨q0, q4⟩ := hcells k (by omega)
    have mc := cnt_mono w 0 n (k + 1) (by omega)
    have ms := cntW_s w 0 k
    rw [u_X4_clearOthers_5]
    unfold s_X4_clearOthers_5
    rw [if_neg (nI_ge (show k < n by omega) (by omega)), show f_X2_cell N cc (nI k) 0 = some (cc (6 * k)) from cell2 N cc (show k < 16 by omega) (show 0 < 6 by decide), show f_X2_cell N cc (nI k) 4 = some (cc (6 * k + 4)) from cell2 N cc (show k < 16 by omega) (show 4 < 6 by decide), q0, q4]
    simp only [Option.bind_some]
    rw [nI_1, nI_1]
    by_cases w0 : w k = 0
    · rw [if_pos w0] at ms
      have hb := mk_bit w d x1 n c0 k (by omega) w0
      rw [if_pos w0, ← ms]
      by_cases e : d k = x1
      · rw [decide_eq_false (fun z => z e)] at hb
        rw [if_pos e]
        refine ih (k + 1) f tr (by omega) (by omega) ?_
        intro i hi
        rw [h i hi]
        by_cases q : i = cntW w 0 k
        · subst q
          rw [if_neg (fun z => by rw [hb] at z; exact absurd z.1 (by decide)), if_neg (fun z => by rw [hb] at z; exact absurd z.1 (by decide))]
        · congr 1
          exact ifc ⟨fun z => ⟨z.1, by omega⟩, fun z => ⟨z.1, by omega⟩⟩
      · rw [decide_eq_true e] at hb
        rw [if_neg e, put_nI N tr _ (show cntW w 0 k < 4 by omega) (by decide)]
        simp only [Option.bind_some]
        refine ih (k + 1) f _ (by omega) (by omega) ?_
        intro i hi
        by_cases q : i = cntW w 0 k
        · subst q
          rw [pk_us, if_pos ⟨hb, by omega⟩]
          rfl
        · rw [pk_un q, h i hi]
          congr 1
          exact ifc ⟨fun z => ⟨z.1, by omega⟩, fun z => ⟨z.1, by omega⟩⟩
    · rw [if_neg w0] at ms
      rw [if_neg w0, show nI (cntW w 0 k) = nI (cntW w 0 (k + 1)) by rw [ms]; rfl]
      refine ih (k + 1) f tr (by omega) (by omega) ?_
      rw [ms]
      exact h
theorem succ_div1 {x m : Nat} (h1 : 1 ≤ m) (h : (x + 1) % m = 0) : (x + 1) / m = x / m + 1 := by
  rw [Nat.succ_div, if_pos (Nat.dvd_of_mod_eq_zero h)]
theorem succ_div0 {x m : Nat} (h : ¬ (x + 1) % m = 0) : (x + 1) / m = x / m := by
  rw [Nat.succ_div, if_neg (fun z => h (Nat.mod_eq_zero_of_dvd z)), Nat.add_zero]
theorem turn_loop (N : Nat) {n m : Nat} (hn : n ≤ 16) (h1 : 1 ≤ m) (h2 : m ≤ 16) {w d cc : Nat → Int32} (hcells : ∀ k : Nat, k < n → cc (6 * k) = w k ∧ cc (6 * k + 4) = d k) (x1 : Int32) (c0 : cntW w 0 n ≤ 4) (inp : Nat → Nat) (W : Nat) : ∀ (j k fuel : Nat) (tr : Nat → Int32), k + j = n → j < fuel → dvN m (mkN w d x1 n) (W + 1) (cntW w 0 k) = dvN m (mkN w d x1 n) W (cntW w 0 k) + 1 → (∀ i, i < cntW w 0 n → tr i = nI (if (mkN w d x1 n).testBit i = true then (if i < cntW w 0 k then dvN m (mkN w d x1 n) (W + 1) i % m else dvN m (mkN w d x1 n) W i % m) else inp i % m)) →
    ∃ tr', (∀ i, i < cntW w 0 n → tr' i = nI (if (mkN w d x1 n).testBit i = true then dvN m (mkN w d x1 n) (W + 1) i % m else inp i % m)) ∧ f_X4_turnOthers_5 N (nI m) (nI n) cc x1 fuel tr (nI (cntW w 0 k)) (nI k) = some tr' := by
  intro j
  induction j with
  | zero =>
    intro k fuel tr hk hf _ h
    obtain ⟨f, rfl⟩ : ∃ f, fuel = f + 1 := ⟨fuel - 1, by omega⟩
    have e : k = n := by omega
    rw [e] at h ⊢
    rw [u_X4_turnOthers_5]
    unfold s_X4_turnOthers_5
    rw [if_pos (Int32.le_refl _)]
    refine ⟨tr, fun i hi => ?_, rfl⟩
    rw [h i hi, if_pos hi]
  | succ j ih =>
    intro k fuel tr hk hf hc h
    obtain ⟨f, rfl⟩ : ∃ f, fuel = f + 1 := ⟨fuel - 1, by omega⟩
    obtain ⟨q0, q4⟩ := hcells k (by omega)
    have mc := cnt_mono w 0 n (k + 1) (by omega)
    have ms := cntW_s w 0 k
    rw [u_X4_turnOthers_5]
    unfold s_X4_turnOthers_5
    rw [if_neg (nI_ge (show k < n by omega) (by omega)), show f_X2_cell N cc (nI k) 0 = some (cc (6 * k)) from cell2 N cc (show k < 16 by omega) (show 0 < 6 by decide), show f_X2_cell N cc (nI k) 4 = some (cc (6 * k + 4)) from cell2 N cc (show k < 16 by omega) (show 4 < 6 by decide), q0, q4]
    simp only [Option.bind_some]
    rw [show nI k + 1 = nI (k + 1) from nI_1 k, show nI (cntW w 0 k) + 1 = nI (cntW w 0 k + 1) from nI_1 _]
    by_cases w0 : w k = 0
    · rw [if_pos w0] at ms
      have hb := mk_bit w d x1 n c0 k (by omega) w0
      have ds : ∀ V, dvN m (mkN w d x1 n) V (cntW w 0 k + 1) = if (mkN w d x1 n).testBit (cntW w 0 k) = true then dvN m (mkN w d x1 n) V (cntW w 0 k) / m else dvN m (mkN w d x1 n) V (cntW w 0 k) := fun V => rfl
      rw [if_pos w0, ← ms]
      by_cases e : d k = x1
      · rw [decide_eq_false (fun z => z e)] at hb
        rw [if_pos e]
        refine ih (k + 1) f tr (by omega) (by omega) ?_ ?_
        · rw [ms, ds, ds, hb, if_neg (by decide), if_neg (by decide)]
          exact hc
        · intro i hi
          rw [h i hi]
          by_cases q : i = cntW w 0 k
          · subst q
            rw [if_neg (fun z => by rw [hb] at z; exact absurd z (by decide)), if_neg (fun z => by rw [hb] at z; exact absurd z (by decide))]
          · congr 1
            by_cases q2 : (mkN w d x1 n).testBit i = true
            · rw [if_pos q2, if_pos q2]
              exact ifc ⟨fun z => by omega, fun z => by omega⟩
            · rw [if_neg q2, if_neg q2]
      · rw [decide_eq_true e] at hb
        have hi0 := h (cntW w 0 k) (by omega)
        rw [if_pos hb, if_neg (by omega)] at hi0
        have hm1 : dvN m (mkN w d x1 n) W (cntW w 0 k) % m < m := Nat.mod_lt _ (by omega)
        rw [if_neg e, at_nI N tr (show cntW w 0 k < 4 by omega) (by decide), hi0]
        simp only [Option.bind_some]
        rw [nI_1, mod9 N _ h1 (by omega), md_nI (by omega) h1 (by omega), Nat.mod_add_mod]
        simp only [Option.bind_some]
        rw [put_nI N tr _ (show cntW w 0 k < 4 by omega) (by decide)]
        simp only [Option.bind_some]
        have hm2 : (dvN m (mkN w d x1 n) W (cntW w 0 k) + 1) % m < m := Nat.mod_lt _ (by omega)
        by_cases z : (dvN m (mkN w d x1 n) W (cntW w 0 k) + 1) % m = 0
        · rw [if_pos (by rw [z]; rfl)]
          refine ih (k + 1) f _ (by omega) (by omega) ?_ ?_
          · rw [ms, ds, ds, if_pos hb, if_pos hb, hc]
            exact succ_div1 h1 z
          · intro i hi
            by_cases q : i = cntW w 0 k
            · subst q
              rw [pk_us, if_pos hb, if_pos (by omega), hc]
            · rw [pk_un q, h i hi]
              congr 1
              by_cases q2 : (mkN w d x1 n).testBit i = true
              · rw [if_pos q2, if_pos q2]
                exact ifc ⟨fun z => by omega, fun z => by omega⟩
              · rw [if_neg q2, if_neg q2]
        · rw [if_neg (nI_ne0 (by omega) (by omega))]
          refine ⟨_, fun i hi => ?_, rfl⟩
          by_cases q : i = cntW w 0 k
          · subst q
            rw [pk_us, if_pos hb, hc]
          · rw [pk_un q, h i hi]
            congr 1
            by_cases q2 : (mkN w d x1 n).testBit i = true
            · rw [if_pos q2, if_pos q2]
              by_cases q3 : i < cntW w 0 k
              · rw [if_pos q3]
              · rw [if_neg q3]
                have hs := dv_same m (mkN w d x1 n) W (W + 1) (a := cntW w 0 k + 1) (by rw [ds, ds, if_pos hb, if_pos hb, hc]; exact succ_div0 z) (i - (cntW w 0 k + 1))
                rw [show cntW w 0 k + 1 + (i - (cntW w 0 k + 1)) = i by omega] at hs
                rw [hs]
            · rw [if_neg q2, if_neg q2]
    · rw [if_neg w0] at ms
      rw [if_neg w0, show nI (cntW w 0 k) = nI (cntW w 0 (k + 1)) by rw [ms]; rfl]
      refine ih (k + 1) f tr (by omega) (by omega) ?_ ?_
      · rw [ms]; exact hc
      · rw [ms]; exact h
theorem t160_loop (N : Nat) {n m M W c : Nat} (h1 : 1 ≤ m) (h2 : m ≤ 16) (hM : M < 16) (hW : W ≤ 4096) (hc : c ≤ 4) (w t a b d rins : Nat → Int32) (x1 x2 : Int32) (r : (Nat → Int32) → (Nat → Int32) → Int32 → Int32 → Int32 → Int32 → Int32 → Int32 → Option O_X10_tells) (inp : Nat → Nat) (pl : Nat → Int32) (y6 y7 y8 y9 : Int32) : ∀ (j k fuel : Nat) (gv : Nat → Int32), k + j = c → j < fuel → (∀ i, i < c → gv i = nI (if M.testBit i = true ∧ i < k then dvN m M W i % m else (gv i).toNatClampNeg)) → (∀ i, i < c → M.testBit i = false → gv i = nI (inp i)) →
    ∃ gv', (∀ i, i < c → gv' i = nI (if M.testBit i = true then dvN m M W i % m else inp i)) ∧ f_X10_tells_160 N (nI n) (nI m) w t a b d rins x1 x2 r fuel pl gv (nI M) (nI c) y6 y7 y8 y9 (nI (dvN m M W k)) (nI k) = f_X10_tells_206 N (nI n) (nI m) w t a b d rins x1 x2 r pl gv' (nI M) (nI c) y6 y7 y8 y9 := by
  intro j
  induction j with
  | zero =>
    intro k fuel gv hk hf h ho
    obtain ⟨f, rfl⟩ : ∃ f, fuel = f + 1 := ⟨fuel - 1, by omega⟩
    have e : k = c := by omega
    subst e
    rw [u_X10_tells_160]
    unfold s_X10_tells_160
    rw [if_pos (Int32.le_refl _)]
    refine ⟨gv, fun i hi => ?_, rfl⟩
    by_cases q : M.testBit i = true
    · have := h i hi
      rw [if_pos ⟨q, hi⟩] at this
      rw [if_pos q]; exact this
    · rw [if_neg q]
      exact ho i hi (by simpa using q)
  | succ j ih =>
    intro k fuel gv hk hf h ho
    obtain ⟨f, rfl⟩ : ∃ f, fuel = f + 1 := ⟨fuel - 1, by omega⟩
    have hle := dv_le m M W k
    have ds : dvN m M W (k + 1) = if M.testBit k = true then dvN m M W k / m else dvN m M W k := rfl
    rw [u_X10_tells_160]
    unfold s_X10_tells_160
    rw [if_neg (nI_ge (show k < c by omega) (by omega)), nI_1]
    by_cases q : M.testBit k = true
    · rw [if_pos q] at ds
      rw [if_pos ((bit_I M hM k (by omega)).mpr q), if_neg (nI_ne0 (by omega) (by omega)), if_pos (gin_nI (show k < 4 by omega) (by decide)), if_neg (nI_ne0 (by omega) (by omega)), nI_clamp (by omega), pk_rem (by omega) (by omega) (by omega), pk_div (by omega) (by omega) (by omega), ← ds]
      refine ih (k + 1) f _ (by omega) (by omega) ?_ ?_
      · intro i hi
        by_cases e : i = k
        · subst e
          rw [pk_us, if_pos ⟨q, by omega⟩]
        · rw [pk_un e]
          have hh := h i hi
          by_cases g : M.testBit i = true ∧ i < k
          · rw [if_pos g] at hh
            rw [if_pos ⟨g.1, by omega⟩]; exact hh
          · rw [if_neg g] at hh
            rw [if_neg (fun z => g ⟨z.1, by omega⟩)]; exact hh
      · intro i hi g
        rw [pk_un (fun e => by rw [e, q] at g; exact absurd g (by decide))]
        exact ho i hi g
    · rw [if_neg q] at ds
      rw [if_neg (fun z => q ((bit_I M hM k (by omega)).mp z)), ← ds]
      refine ih (k + 1) f gv (by omega) (by omega) ?_ ho
      intro i hi
      have hh := h i hi
      by_cases g : M.testBit i = true ∧ i < k
      · rw [if_pos g] at hh
        rw [if_pos ⟨g.1, by omega⟩]; exact hh
      · rw [if_neg g] at hh
        rw [if_neg (fun z => g ⟨z.1, by
          have : i ≠ k := fun e => q (e ▸ z.1)
          omega⟩)]
        exact hh
