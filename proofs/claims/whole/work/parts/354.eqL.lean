/-! what the end tells: ways, masks, digits -/
theorem ways_loop (N : Nat) {m c : Nat} (h1 : 1 ≤ m) (h2 : m ≤ 16) (hc : c ≤ 40) : ∀ (j k fuel : Nat), k + j = c → j < fuel → m ^ k ≤ 65536 →
    ∃ y : Nat, y ≤ 65536 ∧ (y ≤ 4096 → y = m ^ c) ∧ f_X9_waysOf_4 N (nI m) (nI c) fuel (nI (m ^ k)) (nI k) = some (nI y) ∧ f_X10_power_4 N (nI m) (nI c) fuel (nI (m ^ k)) (nI k) = (if nI y ≤ 4096 then some (nI y) else some 4097) := by
  intro j
  induction j with
  | zero =>
    intro k fuel hk hf hy
    obtain ⟨f, rfl⟩ : ∃ f, fuel = f + 1 := ⟨fuel - 1, by omega⟩
    have e : k = c := by omega
    subst e
    refine ⟨m ^ k, hy, fun _ => rfl, ?_, ?_⟩
    · rw [u_X9_waysOf_4]
      unfold s_X9_waysOf_4
      rw [if_pos (Int32.le_refl _)]
    · rw [u_X10_power_4]
      unfold s_X10_power_4 f_X10_power_29
      rw [if_pos (Int32.le_refl _)]
  | succ j ih =>
    intro k fuel hk hf hy
    obtain ⟨f, rfl⟩ : ∃ f, fuel = f + 1 := ⟨fuel - 1, by omega⟩
    rw [u_X9_waysOf_4, u_X10_power_4]
    unfold s_X9_waysOf_4 s_X10_power_4 f_X10_power_29
    rw [if_neg (nI_ge (show k < c by omega) (by omega)), if_neg (nI_ge (show k < c by omega) (by omega))]
    rcases Nat.lt_or_ge 4096 (m ^ k) with q | q
    · rw [if_pos (show (4096 : Int32) < nI (m ^ k) from nI_lt (a := 4096) q (by omega)), if_pos (show (4096 : Int32) < nI (m ^ k) from nI_lt (a := 4096) q (by omega))]
      exact ⟨m ^ k, hy, fun z => absurd z (by omega), rfl, rfl⟩
    · rw [if_neg (show ¬ (4096 : Int32) < nI (m ^ k) from nI_nlt (a := 4096) q (by decide)), if_neg (show ¬ (4096 : Int32) < nI (m ^ k) from nI_nlt (a := 4096) q (by decide)), nI_mul, nI_1, ← Nat.pow_succ]
      refine ih (k + 1) f (by omega) (by omega) ?_
      rw [Nat.pow_succ]
      have : m ^ k * m ≤ 4096 * 16 := Nat.mul_le_mul q h2
      omega
theorem ways_both (N : Nat) (hN : NB ≤ N) {m c : Nat} (h1 : 1 ≤ m) (h2 : m ≤ 16) (hc : c ≤ 40) : ∃ y : Nat, y ≤ 65536 ∧ (y ≤ 4096 → y = m ^ c) ∧ f_X9_waysOf N (nI m) (nI c) = some (nI y) ∧ f_X10_power N (nI m) (nI c) = (if nI y ≤ 4096 then some (nI y) else some 4097) := by
  unfold f_X9_waysOf f_X10_power
  exact ways_loop N h1 h2 hc c 0 N (by omega) (by unfold NB at hN; omega) (by rw [Nat.pow_zero]; decide)
/-- inputs of hand x, inputs of others, and the others as bits -/
def owN (w d : Nat → Int32) (x : Int32) : Nat → Nat
  | 0 => 0
  | k + 1 => owN w d x k + (if w k = 0 ∧ d k = x then 1 else 0)
def ohN (w d : Nat → Int32) (x : Int32) : Nat → Nat
  | 0 => 0
  | k + 1 => ohN w d x k + (if w k = 0 ∧ ¬ d k = x then 1 else 0)
def mkN (w d : Nat → Int32) (x : Int32) : Nat → Nat
  | 0 => 0
  | k + 1 => mkN w d x k + (if w k = 0 ∧ ¬ d k = x then 2 ^ cntW w 0 k else 0)
theorem ow_oh (w d : Nat → Int32) (x : Int32) : ∀ k : Nat, owN w d x k + ohN w d x k = cntW w 0 k := by
  intro k
  induction k with
  | zero => rfl
  | succ k ih =>
    rw [cntW_s]
    unfold owN ohN
    by_cases w0 : w k = 0
    · by_cases e : d k = x
      · rw [if_pos ⟨w0, e⟩, if_neg (fun z => z.2 e), if_pos w0]; omega
      · rw [if_neg (fun z => e z.2), if_pos ⟨w0, e⟩, if_pos w0]; omega
    · rw [if_neg (fun z => w0 z.1), if_neg (fun z => w0 z.1), if_neg w0]; omega
theorem mk_lt (w d : Nat → Int32) (x : Int32) : ∀ k : Nat, mkN w d x k < 2 ^ cntW w 0 k := by
  intro k
  induction k with
  | zero => exact Nat.one_pos
  | succ k ih =>
    rw [cntW_s]
    unfold mkN
    by_cases w0 : w k = 0
    · rw [if_pos w0, Nat.pow_succ]
      by_cases e : d k = x
      · rw [if_neg (fun z => z.2 e)]; omega
      · rw [if_pos ⟨w0, e⟩]; omega
    · rw [if_neg (fun z => w0 z.1), if_neg w0]; exact ih
theorem bit_lo1 : ∀ c : Nat, c < 4 → ∀ M : Nat, M < 16 → M < 2 ^ c → M.testBit c = false ∧ (M + 2 ^ c).testBit c = true := by decide
theorem bit_lo2 : ∀ c : Nat, c < 4 → ∀ M : Nat, M < 16 → M < 2 ^ c → ∀ j : Nat, j < 4 → j < c → (M + 2 ^ c).testBit j = M.testBit j := by decide
theorem mkN_s (w d : Nat → Int32) (x : Int32) (k : Nat) : mkN w d x (k + 1) = mkN w d x k + (if w k = 0 ∧ ¬ d k = x then 2 ^ cntW w 0 k else 0) := rfl
theorem ohN_s (w d : Nat → Int32) (x : Int32) (k : Nat) : ohN w d x (k + 1) = ohN w d x k + (if w k = 0 ∧ ¬ d k = x then 1 else 0) := rfl
theorem bit_or : ∀ c : Nat, c < 4 → ∀ M : Nat, M < 16 → M < 2 ^ c → nI M ||| ((1 : Int32) <<< (nI c &&& 31)) = nI (M + 2 ^ c) := by decide
theorem bit_I : ∀ M : Nat, M < 16 → ∀ i : Nat, i < 4 → (((nI M >>> (nI i &&& 31)) &&& (1 : Int32)) = (1 : Int32) ↔ M.testBit i = true) := by decide
theorem pow_le16 {c : Nat} (h : c ≤ 4) : 2 ^ c ≤ 16 := by
  have := Nat.pow_le_pow_right (show 0 < 2 by decide) h
  exact this
theorem mk_bit (w d : Nat → Int32) (x : Int32) : ∀ n : Nat, cntW w 0 n ≤ 4 → ∀ k : Nat, k < n → w k = 0 → (mkN w d x n).testBit (cntW w 0 k) = decide (¬ d k = x) := by
  intro n
  induction n with
  | zero => intro _ k hk; exact absurd hk (Nat.not_lt_zero k)
  | succ n ih =>
    intro hc k hk w0
    have hs := cntW_s w 0 n
    by_cases wn : w n = 0
    · rw [if_pos wn] at hs
      have hlt := mk_lt w d x n
      have h16 := pow_le16 (show cntW w 0 n ≤ 4 by omega)
      obtain ⟨b1, b2⟩ := bit_lo1 (cntW w 0 n) (by omega) (mkN w d x n) (by omega) hlt
      have b3 := bit_lo2 (cntW w 0 n) (by omega) (mkN w d x n) (by omega) hlt
      rw [mkN_s]
      by_cases e : k = n
      · subst e
        by_cases g : d k = x
        · rw [if_neg (fun z => z.2 g), Nat.add_zero, b1, decide_eq_false (fun z => z g)]
        · rw [if_pos ⟨w0, g⟩, b2, decide_eq_true g]
      · have hm := cnt_mono w 0 n (k + 1) (by omega)
        have hks := cntW_s w 0 k
        rw [if_pos w0] at hks
        have hi := ih (by omega) k (by omega) w0
        by_cases g : d n = x
        · rw [if_neg (fun z => z.2 g), Nat.add_zero]; exact hi
        · rw [if_pos ⟨wn, g⟩, b3 _ (by omega) (by omega)]; exact hi
    · rw [if_neg wn] at hs
      rw [mkN_s, if_neg (fun z => wn z.1), Nat.add_zero]
      have e : k ≠ n := fun z => wn (z ▸ w0)
      exact ih (by omega) k (by omega) w0
/-- the digits of a way -/
def dvN (m M W : Nat) : Nat → Nat
  | 0 => W
  | i + 1 => if M.testBit i = true then dvN m M W i / m else dvN m M W i
theorem dv_le (m M W : Nat) : ∀ i : Nat, dvN m M W i ≤ W := by
  intro i
  induction i with
  | zero => exact Nat.le_refl W
  | succ i ih =>
    unfold dvN
    by_cases h : M.testBit i = true
    · rw [if_pos h]; exact Nat.le_trans (Nat.div_le_self _ _) ih
    · rw [if_neg h]; exact ih
theorem dv_same (m M W V : Nat) {a : Nat} (h : dvN m M V a = dvN m M W a) : ∀ j : Nat, dvN m M V (a + j) = dvN m M W (a + j) := by
  intro j
  induction j with
  | zero => exact h
  | succ j ih =>
    show (if M.testBit (a + j) = true then dvN m M V (a + j) / m else dvN m M V (a + j)) = (if M.testBit (a + j) = true then dvN m M W (a + j) / m else dvN m M W (a + j))
    rw [ih]
theorem inp_of (N : Nat) {n : Nat} (hn : n ≤ 16) {w d cc : Nat → Int32} (hcells : ∀ k : Nat, k < n → cc (6 * k) = w k ∧ cc (6 * k + 4) = d k) (x : Int32) : ∀ (j k fuel : Nat), k + j = n → j < fuel → f_X2_inputsOf_4 N (nI n) cc x fuel (nI (owN w d x k)) (nI k) = some (nI (owN w d x n)) := by
  intro j
  induction j with
  | zero =>
    intro k fuel hk hf
    obtain ⟨f, rfl⟩ : ∃ f, fuel = f + 1 := ⟨fuel - 1, by omega⟩
    have e : k = n := by omega
    subst e
    rw [u_X2_inputsOf_4]
    unfold s_X2_inputsOf_4
    rw [if_pos (Int32.le_refl _)]
  | succ j ih =>
    intro k fuel hk hf
    obtain ⟨f, rfl⟩ : ∃ f, fuel = f + 1 := ⟨fuel - 1, by omega⟩
    obtain ⟨q0, q4⟩ := hcells k (by omega)
    have hi := ih (k + 1) f (by omega) (by omega)
    rw [show owN w d x (k + 1) = owN w d x k + (if w k = 0 ∧ d k = x then 1 else 0) from rfl] at hi
    rw [u_X2_inputsOf_4]
    unfold s_X2_inputsOf_4
    rw [if_neg (nI_ge (show k < n by omega) (by omega)), show f_X2_cell N cc (nI k) 0 = some (cc (6 * k)) from cell2 N cc (show k < 16 by omega) (show 0 < 6 by decide), show f_X2_cell N cc (nI k) 4 = some (cc (6 * k + 4)) from cell2 N cc (show k < 16 by omega) (show 4 < 6 by decide), q0, q4]
    simp only [Option.bind_some]
    rw [nI_1, nI_1]
    by_cases w0 : w k = 0
    · rw [if_pos w0]
      by_cases e : d k = x
      · rw [if_pos e]
        rw [if_pos ⟨w0, e⟩] at hi
        exact hi
      · rw [if_neg e]
        rw [if_neg (fun z => e z.2)] at hi
        exact hi
    · rw [if_neg w0]
      rw [if_neg (fun z => w0 z.1)] at hi
      exact hi
theorem t30_loop (N : Nat) {n m : Nat} (hn : n ≤ 16) {w t a b d rins : Nat → Int32} (x1 x2 : Int32) (c0 : cntW w 0 n ≤ 4) (pl : Nat → Int32) : ∀ (j k fuel : Nat) (gv : Nat → Int32), k + j = n → j < fuel → (∀ i, i < cntW w 0 k → gv i = rins i) →
    ∃ gv', (∀ i, i < cntW w 0 n → gv' i = rins i) ∧ f_X10_tells_30 N (nI n) (nI m) w t a b d rins x1 x2 fuel pl gv (nI (mkN w d x1 k)) (nI (ohN w d x1 k)) (nI (cntW w 0 k)) (nI k) = f_X10_tells_115 N (nI n) (nI m) w t a b d rins x1 x2 pl gv' (nI (mkN w d x1 n)) (nI (ohN w d x1 n)) (nI (cntW w 0 n)) := by
  intro j
  induction j with
  | zero =>
    intro k fuel gv hk hf hg
    obtain ⟨f, rfl⟩ : ∃ f, fuel = f + 1 := ⟨fuel - 1, by omega⟩
    have e : k = n := by omega
    subst e
    rw [u_X10_tells_30]
    unfold s_X10_tells_30
    rw [if_pos (Int32.le_refl _)]
    exact ⟨gv, hg, rfl⟩
  | succ j ih =>
    intro k fuel gv hk hf hg
    obtain ⟨f, rfl⟩ : ∃ f, fuel = f + 1 := ⟨fuel - 1, by omega⟩
    have mc := cnt_mono w 0 n (k + 1) (by omega)
    have ms := cntW_s w 0 k
    have hlt := mk_lt w d x1 k
    rw [u_X10_tells_30]
    unfold s_X10_tells_30 f_X10_tells_83
    rw [if_neg (nI_ge (show k < n by omega) (by omega))]
    simp only [gin_nI (show k < 32 by omega) (show 32 < 2 ^ 31 by decide), if_true, nI_clamp (show k < 2 ^ 31 by omega)]
    by_cases w0 : w k = 0
    · rw [if_pos w0] at ms
      have h16 := pow_le16 (show cntW w 0 k ≤ 4 by omega)
      have hg2 : ∀ i, i < cntW w 0 (k + 1) → upd gv (cntW w 0 k) (rins (cntW w 0 k)) i = rins i := by
        intro i hi
        by_cases q : i = cntW w 0 k
        · rw [q, pk_us]
        · rw [pk_un q]; exact hg i (by omega)
      rw [if_pos w0, if_pos (gin_nI (show cntW w 0 k < 8 by omega) (by decide)), if_pos (gin_nI (show cntW w 0 k < 4 by omega) (by decide)), nI_clamp (show cntW w 0 k < 2 ^ 31 by omega), bit_or (cntW w 0 k) (by omega) (mkN w d x1 k) (by omega) hlt, nI_1, nI_1, nI_1, Int32.add_zero, Int32.or_zero]
      obtain ⟨gv', hg', e'⟩ := ih (k + 1) f _ (by omega) (by omega) hg2
      refine ⟨gv', hg', ?_⟩
      rw [← e', ms, mkN_s, ohN_s]
      by_cases g : d k = x1
      · rw [if_pos g, if_pos g, if_neg (fun z => z.2 g), if_neg (fun z => z.2 g)]
        rfl
      · rw [if_neg g, if_neg g, if_pos ⟨w0, g⟩, if_pos ⟨w0, g⟩]
    · rw [if_neg w0] at ms
      rw [if_neg w0, nI_1]
      obtain ⟨gv', hg', e'⟩ := ih (k + 1) f gv (by omega) (by omega) (fun i hi => hg i (by omega))
      refine ⟨gv', hg', ?_⟩
      rw [← e', ms, mkN_s, ohN_s]
      rw [if_neg (fun z => w0 z.1), if_neg (fun z => w0 z.1)]
      rfl
