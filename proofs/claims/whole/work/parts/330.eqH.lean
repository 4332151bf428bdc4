/-! depths: letters' depths found again and again, and kept -/
def agD (w t a b : Nat → Int32) (talk : Int32) (k : Nat) (LD : Nat → Int32) : Prop := ∀ j : Nat, j < k → LD (t j).toNatClampNeg = dpL w t a b talk k (t j).toNatClampNeg
theorem ok_w5 {n : Nat} {w t a b d : Nat → Int32} (h : okP n w t a b d) {k : Nat} (hk : k + 1 < n) : ¬ w k = 5 := fun e => by
  have := (h k (by omega)).2.1.mp e
  omega
theorem ok_t {n : Nat} {w t a b d : Nat → Int32} (h : okP n w t a b d) {k : Nat} (hk : k < n) : ∃ c : Nat, c < 16 ∧ t k = nI c := (h k hk).2.2.1
theorem ok_tn {n : Nat} {w t a b d : Nat → Int32} (h : okP n w t a b d) {j k : Nat} (hj : j < k) (hk : k + 1 < n) : (t j).toNatClampNeg ≠ (t k).toNatClampNeg := by
  obtain ⟨c, hc, e⟩ := ok_t h (show j < n by omega)
  obtain ⟨c', hc', e'⟩ := ok_t h (show k < n by omega)
  have hne := (h k (by omega)).2.2.2.2.2.2.2 (ok_w5 h hk) j hj
  rw [e, e', nI_clamp (by omega), nI_clamp (by omega)]
  intro q
  apply hne
  rw [e, e', q]
theorem agD_s {n : Nat} {w t a b d : Nat → Int32} (h : okP n w t a b d) (talk : Int32) {k : Nat} (hk : k + 1 < n) {LD : Nat → Int32} (ha : agD w t a b talk k LD) : agD w t a b talk (k + 1) (upd LD (t k).toNatClampNeg (dpD w t a b talk k)) := by
  intro j hj
  show _ = (if w k = 5 then dpL w t a b talk k else upd (dpL w t a b talk k) (t k).toNatClampNeg (dpI w t a b talk (dpL w t a b talk k) (cntW w 4 k) k)) (t j).toNatClampNeg
  rw [if_neg (ok_w5 h hk)]
  by_cases e : j = k
  · subst e
    rw [pk_us, pk_us]
    rfl
  · rw [pk_un (ok_tn h (show j < k by omega) hk), pk_un (ok_tn h (show j < k by omega) hk)]
    exact ha j (by omega)
theorem dp_max (x y : Int32) : (if x ≤ y then y else x) = (if y < x then x else y) := by
  by_cases h : x ≤ y
  · rw [if_pos h, if_neg (Int32.not_lt.mpr h)]
  · rw [if_neg h, if_pos (Int32.not_le.mp h)]
theorem cntW_s (w : Nat → Int32) (c : Int32) (k : Nat) : cntW w c (k + 1) = cntW w c k + (if w k = c then 1 else 0) := rfl
/-- one item of findDeep: its depth comes to the tail -/
theorem fd_item (N : Nat) {n : Nat} (hn : n ≤ 16) {w t a b d : Nat → Int32} (h : okP n w t a b d) (talk : Int32) (r : (Nat → Int32) → (Nat → Int32) → Int32 → Int32 → Option O_X10_findDeep) {k : Nat} (hk : k < n) {LD DP : Nat → Int32} (ha : agD w t a b talk k LD) :
    s_X10_findDeep_4 N (nI n) w t a b talk r LD DP (nI (cntW w 4 k)) (nI k) = f_X10_findDeep_127 N (nI n) w t a b talk r LD DP (nI (cntW w 4 (k + 1))) (nI k) (dpD w t a b talk k) := by
  have g32 : gin (nI k) 32 = true := gin_nI (show k < 32 by omega) (by decide)
  obtain ⟨⟨c, hc, ew⟩, _, ⟨ct, hct, et⟩, _, _, hab, h5, _⟩ := h k hk
  unfold s_X10_findDeep_4
  rw [if_neg (nI_ge hk (by omega))]
  simp only [g32, if_true, nI_clamp (show k < 2 ^ 31 by omega)]
  have gt : gin (t k) 16 = true := by rw [et]; exact gin_nI hct (by decide)
  by_cases w5 : w k = 5
  · rw [if_pos w5]
    simp only [gt, if_true]
    obtain ⟨j, hj, ej⟩ := h5 w5
    have e1 : dpD w t a b talk k = LD (t k).toNatClampNeg + 1 := by
      unfold dpD dpI
      rw [if_pos w5, ej, ha j hj]
    rw [e1, cntW_s, if_neg (show ¬ w k = 4 from fun e => absurd (w5.symm.trans e) (by decide)), Nat.add_zero]
  · rw [if_neg w5]
    by_cases w1 : w k ≤ 1
    · rw [if_pos w1]
      have e1 : dpD w t a b talk k = 0 := by
        unfold dpD dpI
        rw [if_neg w5, if_neg (Int32.not_lt.mpr w1)]
      rw [e1, cntW_s, if_neg (show ¬ w k = 4 from fun e => by rw [e] at w1; exact absurd w1 (by decide)), Nat.add_zero]
    · rw [if_neg w1]
      have hw : w k = 2 ∨ w k = 3 ∨ w k = 4 := by
        rw [ew] at w1 w5 ⊢
        match c, hc with
        | 0, _ => exact absurd (by decide) w1
        | 1, _ => exact absurd (by decide) w1
        | 2, _ => exact Or.inl rfl
        | 3, _ => exact Or.inr (Or.inl rfl)
        | 4, _ => exact Or.inr (Or.inr rfl)
        | 5, _ => exact absurd rfl w5
      obtain ⟨⟨j1, hj1, e1⟩, j2, hj2, e2⟩ := hab hw
      obtain ⟨c1, hc1, et1⟩ := ok_t h (show j1 < n by omega)
      obtain ⟨c2, hc2, et2⟩ := ok_t h (show j2 < n by omega)
      have ga : gin (a k) 16 = true := by rw [e1, et1]; exact gin_nI hc1 (by decide)
      have gb : gin (b k) 16 = true := by rw [e2, et2]; exact gin_nI hc2 (by decide)
      simp only [ga, gb, if_true]
      have la : LD (a k).toNatClampNeg = dpL w t a b talk k (a k).toNatClampNeg := by rw [e1]; exact ha j1 hj1
      have lb : LD (b k).toNatClampNeg = dpL w t a b talk k (b k).toNatClampNeg := by rw [e2]; exact ha j2 hj2
      rw [la, lb]
      have tail : ∀ x : Int32, x = (if dpL w t a b talk k (b k).toNatClampNeg < dpL w t a b talk k (a k).toNatClampNeg then dpL w t a b talk k (a k).toNatClampNeg else dpL w t a b talk k (b k).toNatClampNeg) → f_X10_findDeep_93 N (nI n) w t a b talk r LD DP (nI (cntW w 4 k)) (nI k) x = f_X10_findDeep_127 N (nI n) w t a b talk r LD DP (nI (cntW w 4 (k + 1))) (nI k) (dpD w t a b talk k) := by
        intro x ex
        unfold f_X10_findDeep_93 f_X10_findDeep_121
        simp only [g32, if_true, nI_clamp (show k < 2 ^ 31 by omega)]
        have ed : dpD w t a b talk k = x + (if w k = 4 then (if (talk >>> (nI (cntW w 4 k) &&& 31)) &&& 1 = 1 then 2 else 1) else 0) := by
          unfold dpD dpI
          rw [if_neg w5, if_pos (Int32.not_le.mp w1), ← ex]
        rw [ed, cntW_s]
        by_cases w4 : w k = 4
        · simp only [if_pos w4]
          rw [show nI (cntW w 4 k) + 1 = nI (cntW w 4 k + 1) from nI_1 _]
          by_cases tb : (talk >>> (nI (cntW w 4 k) &&& 31)) &&& 1 = 1
          · simp only [if_pos tb]
          · simp only [if_neg tb]
        · simp only [if_neg w4]
          rw [Nat.add_zero, Int32.add_zero]
      by_cases q : dpL w t a b talk k (a k).toNatClampNeg ≤ dpL w t a b talk k (b k).toNatClampNeg
      · rw [if_pos q]
        exact tail _ (by rw [← dp_max, if_pos q])
      · rw [if_neg q]
        exact tail _ (by rw [← dp_max, if_neg q])
theorem fd_loop (N : Nat) {n : Nat} (hn : n ≤ 16) {w t a b d : Nat → Int32} (h : okP n w t a b d) (talk : Int32) : ∀ (m k fuel : Nat) (LD DP : Nat → Int32), k + m = n → m < fuel → agD w t a b talk k LD → (∀ j, j < k → DP j = dpD w t a b talk j) →
    ∃ LD' DP', f_X10_findDeep_4 N (nI n) w t a b talk fuel LD DP (nI (cntW w 4 k)) (nI k) = some (LD', DP') ∧ ∀ j, j < n → DP' j = dpD w t a b talk j := by
  intro m
  induction m with
  | zero =>
    intro k fuel LD DP hk hf _ hd
    obtain ⟨f, rfl⟩ : ∃ f, fuel = f + 1 := ⟨fuel - 1, by omega⟩
    have e : k = n := by omega
    subst e
    rw [u_X10_findDeep_4]
    unfold s_X10_findDeep_4
    rw [if_pos (Int32.le_refl _)]
    exact ⟨LD, DP, rfl, hd⟩
  | succ m ih =>
    intro k fuel LD DP hk hf ha hd
    obtain ⟨f, rfl⟩ : ∃ f, fuel = f + 1 := ⟨fuel - 1, by omega⟩
    rw [u_X10_findDeep_4, fd_item N hn h talk _ (show k < n by omega) ha]
    obtain ⟨ct, hct, et⟩ := ok_t h (show k < n by omega)
    have gt : gin (t k) 16 = true := by rw [et]; exact gin_nI hct (by decide)
    unfold f_X10_findDeep_127 f_X10_findDeep_171
    simp only [gin_nI (show k < 32 by omega) (show 32 < 2 ^ 31 by decide), gin_nI (show k < 16 by omega) (show 16 < 2 ^ 31 by decide), if_true, nI_clamp (show k < 2 ^ 31 by omega), gt]
    rw [show nI k + 1 = nI (k + 1) from nI_1 k]
    have hd2 : ∀ j, j < k + 1 → upd DP k (dpD w t a b talk k) j = dpD w t a b talk j := by
      intro j hj
      by_cases e : j = k
      · subst e; rw [pk_us]
      · rw [pk_un e]; exact hd j (by omega)
    by_cases w5 : w k = 5
    · rw [if_pos w5]
      have e : k + 1 = n := (h k (by omega)).2.1.mp w5
      have em : m = 0 := by omega
      subst em
      obtain ⟨f2, rfl⟩ : ∃ f2, f = f2 + 1 := ⟨f - 1, by omega⟩
      rw [u_X10_findDeep_4]
      unfold s_X10_findDeep_4
      rw [e, if_pos (Int32.le_refl _)]
      rw [e] at hd2
      exact ⟨_, _, rfl, hd2⟩
    · rw [if_neg w5]
      have hk2 : k + 1 < n := by
        rcases Nat.lt_or_ge (k + 1) n with q | q
        · exact q
        · exact absurd ((h k (by omega)).2.1.mpr (by omega)) w5
      exact ih (k + 1) f _ _ (by omega) (by omega) (agD_s h talk hk2 ha) hd2
theorem fd_eq (N : Nat) (hN : NB ≤ N) {n : Nat} (hn : n ≤ 16) {w t a b d : Nat → Int32} (h : okP n w t a b d) (talk : Int32) (LD DP : Nat → Int32) : ∃ LD' DP', f_X10_findDeep N (nI n) w t a b talk LD DP = some (LD', DP') ∧ ∀ j, j < n → DP' j = dpD w t a b talk j :=
  fd_loop N hn h talk n 0 N LD DP (by omega) (by unfold NB at hN; omega) (fun j hj => absurd hj (Nat.not_lt_zero j)) (fun j hj => absurd hj (Nat.not_lt_zero j))
theorem eq_item : St_item := by
  intro N a1 a2 a3 cc ri w t a b dd LD DP x1 x2 hN hP
  obtain ⟨n, p1, p2, rfl, rfl, hok, _, _, _, _, hcells⟩ := hP
  unfold f_X9_item f_X10_item
  rw [has2, isItem10 N n p1 (by omega), within_eq]
  simp only [grd]
  by_cases g : x1 < 0 ∨ nI n ≤ x1
  · simp only [if_pos g]; exact ⟨_, _, rfl, rfl, rfl⟩
  simp only [if_neg g]
  obtain ⟨k, hk, rfl⟩ := item_nI (show n < 2 ^ 31 by omega) g
  obtain ⟨q0, q1, q2, q3, q4, q5⟩ := hcells k hk
  have hg : gin (nI k) 32 = true := gin_nI (show k < 32 by omega) (by decide)
  simp only [hg, if_true, nI_clamp (show k < 2 ^ 31 by omega)]
  by_cases u : x2 < 0 ∨ 5 < x2
  · have n0 : ¬ x2 = 0 := fun e => by rw [e] at u; exact absurd u (by decide)
    have n1 : ¬ x2 = 1 := fun e => by rw [e] at u; exact absurd u (by decide)
    have n2 : ¬ x2 = 2 := fun e => by rw [e] at u; exact absurd u (by decide)
    have n3 : ¬ x2 = 3 := fun e => by rw [e] at u; exact absurd u (by decide)
    have n4 : ¬ x2 = 4 := fun e => by rw [e] at u; exact absurd u (by decide)
    have n5 : ¬ x2 = 5 := fun e => by rw [e] at u; exact absurd u (by decide)
    simp only [if_pos u, if_neg n0, if_neg n1, if_neg n2, if_neg n3, if_neg n4, if_neg n5]
    exact ⟨_, _, rfl, rfl, rfl⟩
  simp only [if_neg u]
  obtain ⟨c, _, hc, rfl⟩ := bnd (x := x2) 0 5 (by decide) (by decide) u
  rw [cell2 N cc (show k < 16 by omega) (show c < 6 by omega)]
  match c, hc with
  | 0, _ => exact ⟨_, _, rfl, rfl, q0⟩
  | 1, _ => exact ⟨_, _, rfl, rfl, q1⟩
  | 2, _ => exact ⟨_, _, rfl, rfl, q2⟩
  | 3, _ => exact ⟨_, _, rfl, rfl, q3⟩
  | 4, _ => exact ⟨_, _, rfl, rfl, q4⟩
  | 5, _ =>
    obtain ⟨LD', DP', e, hd⟩ := fd_eq N hN p2 hok 0 LD DP
    rw [e]
    simp only [Option.bind_some, gin_nI (show k < 16 by omega) (show 16 < 2 ^ 31 by decide), if_true]
    exact ⟨_, _, rfl, rfl, q5.trans (hd k hk).symm⟩
