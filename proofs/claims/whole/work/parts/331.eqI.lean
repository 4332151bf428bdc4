/-! the least price -/
theorem c2_ {k c : Nat} (N : Nat) (v : Nat → Int32) (hk : k < 16) (x : Int32) (ex : x = nI c) (hc : c < 6) : f_X2_cell N v (nI k) x = some (v (6 * k + c)) := by rw [ex]; exact cell2 N v hk hc
theorem rw_loop (N : Nat) {n : Nat} (hn : n ≤ 16) {w t a b d cc : Nat → Int32} (h : okP n w t a b d) (hcells : ∀ k : Nat, k < n → cc (6 * k) = w k ∧ cc (6 * k + 1) = t k ∧ cc (6 * k + 2) = a k ∧ cc (6 * k + 3) = b k) (talk : Int32) : ∀ (m k fuel : Nat) (RD : Nat → Int32), k + m = n → 1 ≤ m → m < fuel → agD w t a b talk k RD →
    ∃ RD', f_X8_roundsWith_5 N (nI n) cc talk fuel RD (nI (cntW w 4 k)) (nI k) = some (dpD w t a b talk (n - 1), RD') := by
  intro m
  induction m with
  | zero => intro k fuel RD _ h1; omega
  | succ m ih =>
    intro k fuel RD hk _ hf ha
    obtain ⟨f, rfl⟩ : ∃ f, fuel = f + 1 := ⟨fuel - 1, by omega⟩
    have hkn : k < n := by omega
    obtain ⟨q0, q1, q2, q3⟩ := hcells k hkn
    obtain ⟨⟨c, hc, ew⟩, _, ⟨ct, hct, et⟩, _, _, hab, h5, _⟩ := h k hkn
    rw [u_X8_roundsWith_5]
    unfold s_X8_roundsWith_5
    rw [if_neg (nI_ge hkn (by omega)), c2_ (c := 0) N cc (show k < 16 by omega) 0 rfl (by decide), c2_ (c := 1) N cc (show k < 16 by omega) 1 rfl (by decide), c2_ (c := 2) N cc (show k < 16 by omega) 2 rfl (by decide), c2_ (c := 3) N cc (show k < 16 by omega) 3 rfl (by decide), Nat.add_zero, q0, q1, q2, q3]
    simp only [Option.bind_some]
    by_cases w5 : w k = 5
    · rw [if_pos w5]
      unfold f_X8_roundsWith_38
      obtain ⟨j, hj, ej⟩ := h5 w5
      have e : k + 1 = n := (h k hkn).2.1.mp w5
      have ek : n - 1 = k := by omega
      rw [ek]
      have e1 : dpD w t a b talk k = RD (t k).toNatClampNeg + 1 := by
        unfold dpD dpI
        rw [if_pos w5, ej, ha j hj]
      rw [e1, et, at_nI N RD hct (by decide), nI_clamp (by omega)]
      exact ⟨_, rfl⟩
    · rw [if_neg w5]
      have hk2 : k + 1 < n := by
        rcases Nat.lt_or_ge (k + 1) n with q | q
        · exact q
        · exact absurd ((h k hkn).2.1.mpr (by omega)) w5
      have tail : ∀ x : Int32, dpD w t a b talk k = x + (if w k = 4 then (if (talk >>> (nI (cntW w 4 k) &&& 31)) &&& 1 = 1 then 2 else 1) else 0) → ∃ RD', f_X8_roundsWith_97 N (nI n) cc talk (f_X8_roundsWith_5 N (nI n) cc talk f) RD (nI (cntW w 4 k)) (nI k) (w k) (t k) x = some (dpD w t a b talk (n - 1), RD') := by
        intro x ex
        have fin : f_X8_roundsWith_125 N (nI n) cc talk (f_X8_roundsWith_5 N (nI n) cc talk f) RD (nI (cntW w 4 (k + 1))) (nI k) (t k) (dpD w t a b talk k) = f_X8_roundsWith_5 N (nI n) cc talk f (upd RD (t k).toNatClampNeg (dpD w t a b talk k)) (nI (cntW w 4 (k + 1))) (nI (k + 1)) := by
          unfold f_X8_roundsWith_125
          rw [et, put_nI N RD _ hct (by decide), nI_clamp (by omega), show nI k + 1 = nI (k + 1) from nI_1 k]
          rfl
        have hi := ih (k + 1) f _ (by omega) (by omega) (by omega) (agD_s h talk hk2 ha)
        rw [← fin] at hi
        unfold f_X8_roundsWith_97 f_X8_roundsWith_119
        rw [ex, cntW_s] at hi
        by_cases w4 : w k = 4
        · simp only [if_pos w4] at hi ⊢
          rw [show nI (cntW w 4 k) + 1 = nI (cntW w 4 k + 1) from nI_1 _]
          by_cases tb : (talk >>> (nI (cntW w 4 k) &&& 31)) &&& 1 = 1
          · simp only [if_pos tb] at hi ⊢; exact hi
          · simp only [if_neg tb] at hi ⊢; exact hi
        · simp only [if_neg w4] at hi ⊢
          rw [Nat.add_zero, Int32.add_zero] at hi
          exact hi
      have n4 : ∀ v : Int32, w k = v → v ≠ 4 → (if w k = 4 then (if (talk >>> (nI (cntW w 4 k) &&& 31)) &&& 1 = 1 then (2 : Int32) else 1) else 0) = 0 := fun v e hv => if_neg (fun q => hv (e.symm.trans q))
      by_cases w0 : w k = 0
      · rw [if_pos w0]
        apply tail
        unfold dpD dpI
        rw [if_neg w5, if_neg (by rw [w0]; decide), n4 0 w0 (by decide)]
        rfl
      · rw [if_neg w0]
        by_cases w1 : w k = 1
        · rw [if_pos w1]
          apply tail
          unfold dpD dpI
          rw [if_neg w5, if_neg (by rw [w1]; decide), n4 1 w1 (by decide)]
          rfl
        · rw [if_neg w1]
          have hw : w k = 2 ∨ w k = 3 ∨ w k = 4 := by
            rw [ew] at w0 w1 w5 ⊢
            match c, hc with
            | 0, _ => exact absurd rfl w0
            | 1, _ => exact absurd rfl w1
            | 2, _ => exact Or.inl rfl
            | 3, _ => exact Or.inr (Or.inl rfl)
            | 4, _ => exact Or.inr (Or.inr rfl)
            | 5, _ => exact absurd rfl w5
          have h1w : 1 < w k := by rcases hw with e | e | e <;> rw [e] <;> decide
          obtain ⟨⟨j1, hj1, e1⟩, j2, hj2, e2⟩ := hab hw
          obtain ⟨c1, hc1, et1⟩ := ok_t h (show j1 < n by omega)
          obtain ⟨c2, hc2, et2⟩ := ok_t h (show j2 < n by omega)
          have la : RD (a k).toNatClampNeg = dpL w t a b talk k (a k).toNatClampNeg := by rw [e1]; exact ha j1 hj1
          have lb : RD (b k).toNatClampNeg = dpL w t a b talk k (b k).toNatClampNeg := by rw [e2]; exact ha j2 hj2
          have fa : f_X9_at N RD 16 (a k) = some (RD (a k).toNatClampNeg) := by rw [e1, et1, at_nI N RD hc1 (by decide), nI_clamp (by omega)]
          have fb : f_X9_at N RD 16 (b k) = some (RD (b k).toNatClampNeg) := by rw [e2, et2, at_nI N RD hc2 (by decide), nI_clamp (by omega)]
          rw [fa, fb]
          simp only [Option.bind_some]
          apply tail
          unfold dpD dpI
          rw [if_neg w5, if_pos h1w, ← la, ← lb]
          congr 1
          by_cases q : RD (b k).toNatClampNeg < RD (a k).toNatClampNeg
          · rw [if_pos q, if_neg (Int32.not_lt.mpr (Int32.le_of_lt q))]
          · rw [if_neg q]
            by_cases q2 : RD (a k).toNatClampNeg < RD (b k).toNatClampNeg
            · rw [if_pos q2]
            · rw [if_neg q2]
              exact Int32.le_antisymm (Int32.not_lt.mp q2) (Int32.not_lt.mp q)
theorem rw_eq (N : Nat) (hN : NB ≤ N) {n : Nat} (h1 : 1 ≤ n) (hn : n ≤ 16) {w t a b d cc : Nat → Int32} (h : okP n w t a b d) (hcells : ∀ k : Nat, k < n → cc (6 * k) = w k ∧ cc (6 * k + 1) = t k ∧ cc (6 * k + 2) = a k ∧ cc (6 * k + 3) = b k) (talk : Int32) (RD : Nat → Int32) :
    ∃ RD', f_X8_roundsWith N (nI n) cc talk RD = some (dpD w t a b talk (n - 1), RD') :=
  rw_loop N hn h hcells talk n 0 N RD (by omega) h1 (by unfold NB at hN; omega) (fun j hj => absurd hj (Nat.not_lt_zero j))
def prc (p : Nat → Int32) (c : Nat) (s : Int32) : Int32 := (nI c - bits8 s 8) * (p 0 + p 1) + bits8 s 8 * p 2
theorem price8 (N : Nat) (cp rp : Nat → Int32) (hR : R_R cp rp) (c : Nat) {s : Nat} (hs : s < 16) : f_X8_priceOf N cp (nI c) (nI s) = some (prc rp c (nI s)) := by
  unfold f_X8_priceOf
  rw [bitC N (show s < 64 by omega), show f_X9_at N cp 3 0 = some (cp 0) from at_nI N cp (k := 0) (by decide) (by decide), show f_X9_at N cp 3 1 = some (cp 1) from at_nI N cp (k := 1) (by decide) (by decide), show f_X9_at N cp 3 2 = some (cp 2) from at_nI N cp (k := 2) (by decide) (by decide), (hR 0 (by decide)).1, (hR 1 (by decide)).1, (hR 2 (by decide)).1]
  rfl
theorem pow2_c {c : Nat} (hc : c ≤ 4) : ((1 : Int32) <<< (nI c &&& 31)) = nI (2 ^ c) := by
  match c, hc with
  | 0, _ => decide
  | 1, _ => decide
  | 2, _ => decide
  | 3, _ => decide
  | 4, _ => decide
def okB (rp : Nat → Int32) (c : Nat) (B BP : Int32) : Prop := B = -9 ∨ (BP = prc rp c B ∧ ∃ s : Nat, s < 16 ∧ B = nI s)
theorem least_loop (N : Nat) (hN : NB ≤ N) {n : Nat} (h1 : 1 ≤ n) (hn : n ≤ 16) {w t a b d cc : Nat → Int32} (h : okP n w t a b d) (hcells : ∀ k : Nat, k < n → cc (6 * k) = w k ∧ cc (6 * k + 1) = t k ∧ cc (6 * k + 2) = a k ∧ cc (6 * k + 3) = b k) (cp rp : Nat → Int32) (hR : R_R cp rp) (c : Nat) (hc : c ≤ 4) (x1 x2 : Int32) :
    ∀ (m s fuel fuel' : Nat) (RD LD DP : Nat → Int32) (best bp : Int32), s + m = 2 ^ c → m < fuel → m < fuel' → okB rp c best bp →
    ∃ B BP RD' LD' DP', okB rp c B BP ∧ f_X8_cheapestSet_9 N cp (nI n) (nI c) cc x1 fuel RD best bp (nI s) = some (B, RD') ∧ f_X10_least_40 N (nI n) w t a b rp x1 x2 fuel' LD DP (nI c) best bp (nI s) = f_X10_least_133 N (nI n) w t a b rp x1 x2 LD' DP' B BP := by
  have hp : 2 ^ c ≤ 16 := by
    match c, hc with
    | 0, _ => decide
    | 1, _ => decide
    | 2, _ => decide
    | 3, _ => decide
    | 4, _ => decide
  intro m
  induction m with
  | zero =>
    intro s fuel fuel' RD LD DP best bp hs hf hf' hb
    obtain ⟨f, rfl⟩ : ∃ f, fuel = f + 1 := ⟨fuel - 1, by omega⟩
    obtain ⟨f', rfl⟩ : ∃ f, fuel' = f + 1 := ⟨fuel' - 1, by omega⟩
    rw [u_X8_cheapestSet_9, u_X10_least_40]
    unfold s_X8_cheapestSet_9 s_X10_least_40
    rw [pow2_c hc, if_pos (nI_le (by omega) (by omega)), if_pos (nI_le (by omega) (by omega))]
    exact ⟨best, bp, RD, LD, DP, hb, rfl, rfl⟩
  | succ m ih =>
    intro s fuel fuel' RD LD DP best bp hs hf hf' hb
    obtain ⟨f, rfl⟩ : ∃ f, fuel = f + 1 := ⟨fuel - 1, by omega⟩
    obtain ⟨f', rfl⟩ : ∃ f, fuel' = f + 1 := ⟨fuel' - 1, by omega⟩
    rw [u_X8_cheapestSet_9, u_X10_least_40]
    unfold s_X8_cheapestSet_9 s_X10_least_40
    rw [pow2_c hc, if_neg (nI_ge (show s < 2 ^ c by omega) (by omega)), if_neg (nI_ge (show s < 2 ^ c by omega) (by omega))]
    obtain ⟨RD2, er⟩ := rw_eq N hN h1 hn h hcells (nI s) RD
    obtain ⟨LD2, DP2, ef, hd⟩ := fd_eq N hN hn h (nI s) LD DP
    rw [er, ef, bits10 N hN, price8 N cp rp hR c (show s < 16 by omega)]
    simp only [Option.bind_some, show gin (2 : Int32) 3 = true from rfl, show gin (1 : Int32) 3 = true from rfl, show gin (0 : Int32) 3 = true from rfl, if_true]
    unfold f_X10_least_90 f_X10_least_119 f_X8_cheapestSet_59
    have eg : nI n - 1 = nI (n - 1) := nI_subl h1
    rw [eg, if_pos (gin_nI (show n - 1 < 16 by omega) (by decide)), nI_clamp (by omega), hd (n - 1) (by omega), show nI s + 1 = nI (s + 1) from nI_1 s]
    have ep : bits8 (nI s) 8 * rp (2 : Int32).toNatClampNeg + (nI c - bits8 (nI s) 8) * (rp (0 : Int32).toNatClampNeg + rp (1 : Int32).toNatClampNeg) = prc rp c (nI s) := by
      unfold prc
      rw [Int32.add_comm]
      rfl
    rw [ep]
    by_cases q : dpD w t a b (nI s) (n - 1) ≤ x1
    · rw [if_pos q, if_neg (Int32.not_lt.mpr q)]
      by_cases qb : best = -9
      · simp only [if_pos qb]
        exact ih (s + 1) f f' _ _ _ _ _ (by omega) (by omega) (by omega) (Or.inr ⟨rfl, s, by omega, rfl⟩)
      · simp only [if_neg qb]
        by_cases ql : bp ≤ prc rp c (nI s)
        · simp only [if_pos ql]
          exact ih (s + 1) f f' _ _ _ _ _ (by omega) (by omega) (by omega) hb
        · simp only [if_neg ql]
          exact ih (s + 1) f f' _ _ _ _ _ (by omega) (by omega) (by omega) (Or.inr ⟨rfl, s, by omega, rfl⟩)
    · rw [if_neg q, if_pos (Int32.not_le.mp q)]
      exact ih (s + 1) f f' _ _ _ _ _ (by omega) (by omega) (by omega) hb
theorem eq_least : St_least := by
  intro N a1 a2 a3 cc cp rd ri w t a b dd LD DP rp x1 x2 hN hP hR
  obtain ⟨n, p1, p2, rfl, rfl, hok, _, rfl, _, hm, hcells⟩ := hP
  unfold f_X9_least f_X10_least
  rw [within_eq, in10 N x1 0 99 (by decide) (by decide), within_eq, in10 N x2 0 1 (by decide) (by decide), countOf_eq N hN w 4 n p2]
  simp only [grd, Option.bind_some]
  by_cases g : x1 < 0 ∨ 99 < x1
  · simp only [if_pos g]; exact ⟨_, _, rfl, rfl, rfl⟩
  simp only [if_neg g]
  by_cases u : x2 < 0 ∨ 1 < x2
  · simp only [if_pos u]; exact ⟨_, _, rfl, rfl, rfl⟩
  simp only [if_neg u]
  obtain ⟨B, BP, RD', LD', DP', hB, e1, e2⟩ := least_loop N hN p1 p2 hok (fun k hk => ⟨(hcells k hk).1, (hcells k hk).2.1, (hcells k hk).2.2.1, (hcells k hk).2.2.2.1⟩) cp rp hR (cntW w 4 n) hm x1 x2 (2 ^ cntW w 4 n) 0 N N rd LD DP (-9) 0 (by omega) (by
    have hp : 2 ^ cntW w 4 n ≤ 2 ^ 4 := Nat.pow_le_pow_right (by decide) hm
    unfold NB at hN
    omega) (by
    have hp : 2 ^ cntW w 4 n ≤ 2 ^ 4 := Nat.pow_le_pow_right (by decide) hm
    unfold NB at hN
    omega) (Or.inl rfl)
  unfold f_X8_cheapestSet
  rw [show f_X8_cheapestSet_9 N cp (nI n) (nI (cntW w 4 n)) cc x1 N rd (-9) 0 0 = _ from e1, show f_X10_least_40 N (nI n) w t a b rp x1 x2 N LD DP (nI (cntW w 4 n)) (-9) 0 0 = _ from e2]
  unfold f_X10_least_133
  simp only [Option.bind_some]
  by_cases qb : B = -9
  · simp only [if_pos qb]; exact ⟨_, _, rfl, rfl, rfl⟩
  simp only [if_neg qb]
  by_cases q1 : x2 = 1
  · simp only [if_pos q1]; exact ⟨_, _, rfl, rfl, rfl⟩
  simp only [if_neg q1]
  rcases hB with e | ⟨e, s, hs, es⟩
  · exact absurd e qb
  · rw [es, price8 N cp rp hR _ hs]
    refine ⟨_, _, rfl, rfl, ?_⟩
    show prc rp (cntW w 4 n) (nI s) = BP
    rw [e, es]
