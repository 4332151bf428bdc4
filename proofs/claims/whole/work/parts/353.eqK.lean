/-! plain ends: both answer alike from inputs that are alike modulo m -/
theorem at_any (N : Nat) (v : Nat → Int32) {n : Nat} (hn : n < 2 ^ 31) (i : Int32) : ∃ z, f_X9_at N v n i = some z := by
  by_cases h : i < 0
  · exact ⟨0, at_neg N v n h⟩
  · by_cases h2 : Int32.ofNat n ≤ i
    · refine ⟨0, ?_⟩
      unfold f_X9_at
      rw [if_neg h, if_pos h2]
    · obtain ⟨k, hk, e⟩ := item_nI hn (fun z => z.elim h h2)
      rw [e]
      exact ⟨_, at_nI N v hk hn⟩
def agP (t : Nat → Int32) (k : Nat) (pC pR : Nat → Int32) : Prop := ∀ j : Nat, j < k → ∃ v : Nat, v < 16 ∧ pC (tnN t j) = nI v ∧ pR (tnN t j) = nI v
theorem plain_loop (N : Nat) {n : Nat} (hn : n ≤ 16) {w t a b d cc : Nat → Int32} (hok : okP n w t a b d) (hcells : ∀ k : Nat, k < n → cc (6 * k) = w k ∧ cc (6 * k + 1) = t k ∧ cc (6 * k + 2) = a k ∧ cc (6 * k + 3) = b k ∧ cc (6 * k + 4) = d k) {m : Nat} (h1 : 1 ≤ m) (h2 : m ≤ 16) (tr gv : Nat → Int32) (hin : ∀ i, i < cntW w 0 n → ∃ x y : Nat, x < 16 ∧ y < 16 ∧ tr i = nI x ∧ gv i = nI y ∧ x % m = y % m) (c0 : cntW w 0 n ≤ 4) :
    ∀ (j k fuel : Nat) (pC pR : Nat → Int32), k + j + 1 = n → j < fuel → agP t k pC pR →
    ∃ (v : Nat) (qC qR : Nat → Int32), f_X4_plainEnd_4 N (nI m) tr (nI n) cc fuel pC (nI (cntW w 0 k)) (nI k) = some (nI v, qC) ∧ f_X10_plainEnd_6 N (nI n) (nI m) w t a b d gv fuel pR (nI (cntW w 0 k)) (nI k) = some (nI v, qR) := by
  intro j
  induction j with
  | zero =>
    intro k fuel pC pR hk hf ha
    obtain ⟨f, rfl⟩ : ∃ f, fuel = f + 1 := ⟨fuel - 1, by omega⟩
    have hkn : k < n := by omega
    obtain ⟨q0, q1, q2, q3, q4⟩ := hcells k hkn
    obtain ⟨_, hw5, _, _, _, _, h5, _⟩ := hok k hkn
    have w5 : w k = 5 := hw5.mpr (by omega)
    obtain ⟨i, hi, ei⟩ := h5 w5
    obtain ⟨et, bt⟩ := tn_eq hok hkn
    obtain ⟨v, hv, eC, eR⟩ := ha i hi
    have etn : tnN t k = tnN t i := by unfold tnN; rw [ei]
    obtain ⟨za, ea⟩ := at_any N pC (show 16 < 2 ^ 31 by decide) (a k)
    obtain ⟨zb, eb⟩ := at_any N pC (show 16 < 2 ^ 31 by decide) (b k)
    refine ⟨v, pC, pR, ?_, ?_⟩
    · rw [u_X4_plainEnd_4]
      unfold s_X4_plainEnd_4 f_X4_plainEnd_141
      rw [if_neg (nI_ge hkn (by omega)), show f_X2_cell N cc (nI k) 2 = some (cc (6 * k + 2)) from cell2 N cc (show k < 16 by omega) (show 2 < 6 by decide), show f_X2_cell N cc (nI k) 3 = some (cc (6 * k + 3)) from cell2 N cc (show k < 16 by omega) (show 3 < 6 by decide), show f_X2_cell N cc (nI k) 0 = some (cc (6 * k)) from cell2 N cc (show k < 16 by omega) (show 0 < 6 by decide), show f_X2_cell N cc (nI k) 1 = some (cc (6 * k + 1)) from cell2 N cc (show k < 16 by omega) (show 1 < 6 by decide), q0, q1, q2, q3]
      simp only [Option.bind_some, ea, eb]
      rw [w5, if_neg (by decide), if_neg (by decide), if_neg (by decide), if_neg (by decide), if_neg (by decide), et, at_nI N pC bt (by decide), etn, eC]
      rfl
    · rw [u_X10_plainEnd_6]
      unfold s_X10_plainEnd_6 f_X10_plainEnd_74
      rw [if_neg (nI_ge hkn (by omega))]
      simp only [gin_nI (show k < 32 by omega) (show 32 < 2 ^ 31 by decide), if_true, nI_clamp (show k < 2 ^ 31 by omega)]
      rw [w5, if_neg (by decide), if_neg (by decide), if_pos rfl, et, if_pos (gin_nI bt (by decide)), nI_clamp (by omega), etn, eR]
  | succ j ih =>
    intro k fuel pC pR hk hf ha
    obtain ⟨f, rfl⟩ : ∃ f, fuel = f + 1 := ⟨fuel - 1, by omega⟩
    have hkn : k < n := by omega
    have hk2 : k + 1 < n := by omega
    obtain ⟨q0, q1, q2, q3, q4⟩ := hcells k hkn
    obtain ⟨⟨c, hc, ew⟩, hw5, _, _, hd1, hab, _, _⟩ := hok k hkn
    have n5 : ¬ w k = 5 := ok_w5 hok hk2
    obtain ⟨et, bt⟩ := tn_eq hok hkn
    have mk0 := cntW_s w 0 k
    have mc0 := cnt_mono w 0 n (k + 1) (by omega)
    -- what is put
    have put : ∀ (v z : Nat), v < 16 → z = cntW w 0 (k + 1) → ∃ (v' : Nat) (qC qR : Nat → Int32), f_X4_plainEnd_4 N (nI m) tr (nI n) cc f (upd pC (tnN t k) (nI v)) (nI z) (nI (k + 1)) = some (nI v', qC) ∧ f_X10_plainEnd_6 N (nI n) (nI m) w t a b d gv f (upd pR (tnN t k) (nI v)) (nI z) (nI (k + 1)) = some (nI v', qR) := by
      intro v z hv hz
      subst hz
      refine ih (k + 1) f _ _ (by omega) (by omega) ?_
      intro i hi
      by_cases e : i = k
      · subst e
        exact ⟨v, hv, pk_us, pk_us⟩
      · have hne : tnN t i ≠ tnN t k := ok_tn hok (show i < k by omega) hk2
        rw [pk_un hne, pk_un hne]
        exact ha i (by omega)
    have cls : ∀ (y6 : Int32) (v : Nat) (y2 : Int32), md y6 (nI m) = nI v → f_X4_plainEnd_155 N (nI m) tr (nI n) cc (f_X4_plainEnd_4 N (nI m) tr (nI n) cc f) pC y2 (nI k) y6 = f_X4_plainEnd_4 N (nI m) tr (nI n) cc f (upd pC (tnN t k) (nI v)) y2 (nI (k + 1)) := by
      intro y6 v y2 e
      unfold f_X4_plainEnd_155
      rw [show f_X2_cell N cc (nI k) 1 = some (cc (6 * k + 1)) from cell2 N cc (show k < 16 by omega) (show 1 < 6 by decide), q1, mod9 N _ h1 (by omega), e]
      simp only [Option.bind_some]
      rw [et, put_nI N pC _ bt (by decide)]
      simp only [Option.bind_some]
      rw [nI_1]
    have rfr : ∀ (v : Nat) (y1 : Int32), f_X10_plainEnd_158 N (nI n) (nI m) w t a b d gv (f_X10_plainEnd_6 N (nI n) (nI m) w t a b d gv f) pR y1 (nI v) (nI k) = f_X10_plainEnd_6 N (nI n) (nI m) w t a b d gv f (upd pR (tnN t k) (nI v)) y1 (nI (k + 1)) := by
      intro v y1
      unfold f_X10_plainEnd_158
      rw [if_pos (gin_nI (show k < 32 by omega) (by decide)), nI_clamp (show k < 2 ^ 31 by omega), et, if_pos (gin_nI bt (by decide)), nI_clamp (by omega), nI_1]
    obtain ⟨za, ea⟩ := at_any N pC (show 16 < 2 ^ 31 by decide) (a k)
    obtain ⟨zb, eb⟩ := at_any N pC (show 16 < 2 ^ 31 by decide) (b k)
    rw [u_X4_plainEnd_4, u_X10_plainEnd_6]
    unfold s_X4_plainEnd_4 s_X10_plainEnd_6
    rw [if_neg (nI_ge hkn (by omega)), if_neg (nI_ge hkn (by omega)), show f_X2_cell N cc (nI k) 2 = some (cc (6 * k + 2)) from cell2 N cc (show k < 16 by omega) (show 2 < 6 by decide), show f_X2_cell N cc (nI k) 3 = some (cc (6 * k + 3)) from cell2 N cc (show k < 16 by omega) (show 3 < 6 by decide), show f_X2_cell N cc (nI k) 0 = some (cc (6 * k)) from cell2 N cc (show k < 16 by omega) (show 0 < 6 by decide), show f_X2_cell N cc (nI k) 4 = some (cc (6 * k + 4)) from cell2 N cc (show k < 16 by omega) (show 4 < 6 by decide), q0, q2, q3, q4]
    simp only [Option.bind_some, ea, eb, gin_nI (show k < 32 by omega) (show 32 < 2 ^ 31 by decide), if_true, nI_clamp (show k < 2 ^ 31 by omega)]
    have hmm : ∀ z, z % m < 16 := fun z => Nat.lt_of_lt_of_le (Nat.mod_lt z (by omega)) h2
    by_cases w0 : w k = 0
    · rw [if_pos w0, if_pos w0]
      rw [if_pos w0] at mk0
      obtain ⟨x, y, hx, hy, ex, ey, exy⟩ := hin (cntW w 0 k) (by omega)
      rw [at_nI N tr (show cntW w 0 k < 4 by omega) (by decide), ex, if_pos (gin_nI (show cntW w 0 k < 4 by omega) (by decide)), nI_clamp (by omega), ey, mod10 N _ h1 (by omega), md_nI (by omega) h1 (by omega)]
      simp only [Option.bind_some]
      rw [cls _ (x % m) _ (md_nI (by omega) h1 (by omega)), ← exy, rfr, nI_1]
      exact put _ _ (hmm _) (by omega)
    rw [if_neg w0, if_neg w0]
    rw [if_neg w0] at mk0
    by_cases w1 : w k = 1
    · rw [if_pos w1, if_pos w1]
      obtain ⟨dn, hdn, ed⟩ := hd1 w1
      rw [ed, mod10 N _ h1 (by omega), md_nI (by omega) h1 (by omega)]
      simp only [Option.bind_some]
      rw [cls _ (dn % m) _ (md_nI (by omega) h1 (by omega)), rfr]
      exact put _ _ (hmm _) (by omega)
    rw [if_neg w1, if_neg w1, if_neg n5]
    have w234 : w k = 2 ∨ w k = 3 ∨ w k = 4 := by
      rw [ew] at w0 w1 n5 ⊢
      match c, hc with
      | 0, _ => exact absurd rfl w0
      | 1, _ => exact absurd rfl w1
      | 2, _ => exact Or.inl rfl
      | 3, _ => exact Or.inr (Or.inl rfl)
      | 4, _ => exact Or.inr (Or.inr rfl)
      | 5, _ => exact absurd rfl n5
    obtain ⟨⟨ia, hia, eia⟩, ⟨ib, hib, eib⟩⟩ := hab w234
    obtain ⟨eta, bta⟩ := tn_eq hok (show ia < n by omega)
    obtain ⟨etb, btb⟩ := tn_eq hok (show ib < n by omega)
    obtain ⟨va, hva, eCa, eRa⟩ := ha ia hia
    obtain ⟨vb, hvb, eCb, eRb⟩ := ha ib hib
    rw [eia, eta, at_nI N pC bta (by decide), eCa] at ea
    rw [eib, etb, at_nI N pC btb (by decide), eCb] at eb
    have eza : za = nI va := by injection ea with h; exact h.symm
    have ezb : zb = nI vb := by injection eb with h; exact h.symm
    subst eza ezb
    rw [eia, eib, eta, etb, if_pos (gin_nI bta (by decide)), if_pos (gin_nI btb (by decide)), nI_clamp (by omega), nI_clamp (by omega), eRa, eRb]
    have fin : ∀ (x : Int32) (v : Nat), md x (nI m) = nI v → f_X10_plainEnd_154 N (nI n) (nI m) w t a b d gv (f_X10_plainEnd_6 N (nI n) (nI m) w t a b d gv f) pR (nI (cntW w 0 k)) (nI k) x = f_X10_plainEnd_6 N (nI n) (nI m) w t a b d gv f (upd pR (tnN t k) (nI v)) (nI (cntW w 0 k)) (nI (k + 1)) := by
      intro x v e
      unfold f_X10_plainEnd_154
      rw [mod10 N _ h1 (by omega), e]
      simp only [Option.bind_some]
      rw [rfr]
    have hvv : va * vb ≤ 16 * 16 := Nat.mul_le_mul (by omega) (by omega)
    by_cases w2 : w k = 2
    · rw [if_pos w2, if_pos w2, nI_add]
      rw [cls _ _ _ (md_nI (by omega) h1 (by omega)), fin _ _ (md_nI (by omega) h1 (by omega))]
      exact put _ _ (hmm _) (by omega)
    rw [if_neg w2, if_neg w2]
    by_cases w3 : w k = 3
    · rw [if_pos w3, if_pos w3]
      rw [cls _ _ _ (md_sub (by omega) (by omega) h1 (by omega)), fin _ _ (md_sub (by omega) (by omega) h1 (by omega))]
      exact put _ _ (Nat.lt_of_lt_of_le (sm_lt _ _ h1) h2) (by omega)
    rw [if_neg w3, if_neg w3]
    have w4 : w k = 4 := by
      rcases w234 with q | q | q
      · exact absurd q w2
      · exact absurd q w3
      · exact q
    rw [if_pos w4, nI_mul]
    rw [cls _ _ _ (md_nI (by omega) h1 (by omega)), fin _ _ (md_nI (by omega) h1 (by omega))]
    exact put _ _ (hmm _) (by omega)
theorem plain_both (N : Nat) (hN : NB ≤ N) {n : Nat} (hn1 : 1 ≤ n) (hn : n ≤ 16) {w t a b d cc : Nat → Int32} (hok : okP n w t a b d) (hcells : ∀ k : Nat, k < n → cc (6 * k) = w k ∧ cc (6 * k + 1) = t k ∧ cc (6 * k + 2) = a k ∧ cc (6 * k + 3) = b k ∧ cc (6 * k + 4) = d k) {m : Nat} (h1 : 1 ≤ m) (h2 : m ≤ 16) (tr gv : Nat → Int32) (hin : ∀ i, i < cntW w 0 n → ∃ x y : Nat, x < 16 ∧ y < 16 ∧ tr i = nI x ∧ gv i = nI y ∧ x % m = y % m) (c0 : cntW w 0 n ≤ 4) (pC pR : Nat → Int32) :
    ∃ (v : Nat) (qC qR : Nat → Int32), f_X4_plainEnd N (nI m) tr (nI n) cc pC = some (nI v, qC) ∧ f_X10_plainEnd N (nI n) (nI m) w t a b d gv pR = some (nI v, qR) := by
  unfold f_X4_plainEnd f_X10_plainEnd
  exact plain_loop N hn hok hcells h1 h2 tr gv hin c0 (n - 1) 0 N pC pR (by omega) (by unfold NB at hN; omega) (fun j hj => absurd hj (Nat.not_lt_zero j))
