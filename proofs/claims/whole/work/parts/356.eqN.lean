/-! what the end tells: both count alike -/
theorem tells_lock (N : Nat) (hN : NB ≤ N) {n : Nat} (hn1 : 1 ≤ n) (hn : n ≤ 16) {w t a b d cc : Nat → Int32} (hok : okP n w t a b d) (hcells : ∀ k : Nat, k < n → cc (6 * k) = w k ∧ cc (6 * k + 1) = t k ∧ cc (6 * k + 2) = a k ∧ cc (6 * k + 3) = b k ∧ cc (6 * k + 4) = d k) {m : Nat} (h1 : 1 ≤ m) (h2 : m ≤ 16) (c0 : cntW w 0 n ≤ 4) (ins rins : Nat → Int32) (x1 x2 : Int32) (inp : Nat → Nat) (hinp : ∀ i, i < 4 → inp i < 16) {ways : Nat} (hways : ways ≤ 4096) (v0 : Nat) :
    ∀ (j W fuel s : Nat) (tr gv pC pR : Nat → Int32), W + j = ways → j < fuel → (∀ i, i < cntW w 0 n → tr i = nI (if (mkN w d x1 n).testBit i = true then dvN m (mkN w d x1 n) W i % m else inp i % m)) → (∀ i, i < cntW w 0 n → (∃ x : Nat, x < 16 ∧ gv i = nI x) ∧ ((mkN w d x1 n).testBit i = false → gv i = nI (inp i))) →
    ∃ (s' : Nat) (tr' gv' pC' pR' : Nat → Int32), f_X4_sameEnds_64 N (nI m) (nI n) cc ins x1 (nI ways) fuel (nI m) tr pC (nI v0) (nI s) (nI W) = some (nI s', nI m, tr', pC') ∧ f_X10_tells_146 N (nI n) (nI m) w t a b d rins x1 x2 fuel pR gv (nI (mkN w d x1 n)) (nI (cntW w 0 n)) (nI ways) (nI v0) (nI s) (nI W) = (if x2 = 0 then some (nI s', pR', gv') else some (nI ways, pR', gv')) := by
  have hM : (mkN w d x1 n) < 16 := Nat.lt_of_lt_of_le (mk_lt w d x1 n) (pow_le16 c0)
  intro j
  induction j with
  | zero =>
    intro W fuel s tr gv pC pR hW hf ht hg
    obtain ⟨f, rfl⟩ : ∃ f, fuel = f + 1 := ⟨fuel - 1, by omega⟩
    have e : W = ways := by omega
    subst e
    rw [u_X4_sameEnds_64, u_X10_tells_146]
    unfold s_X4_sameEnds_64 s_X10_tells_146 f_X10_tells_231
    rw [if_pos (Int32.le_refl _), if_pos (Int32.le_refl _)]
    exact ⟨s, tr, gv, pC, pR, rfl, rfl⟩
  | succ j ih =>
    intro W fuel s tr gv pC pR hW hf ht hg
    obtain ⟨f, rfl⟩ : ∃ f, fuel = f + 1 := ⟨fuel - 1, by omega⟩
    have hmm : ∀ z, z % m < 16 := fun z => Nat.lt_of_lt_of_le (Nat.mod_lt z (by omega)) h2
    obtain ⟨gv', hg', e160⟩ := t160_loop N (n := n) (W := W) h1 h2 hM (by omega) c0 w t a b d rins x1 x2 (f_X10_tells_146 N (nI n) (nI m) w t a b d rins x1 x2 f) inp pR (nI ways) (nI v0) (nI s) (nI W) (cntW w 0 n) 0 N gv (by omega) (by unfold NB at hN; omega) (by
      intro i hi
      obtain ⟨⟨x, hx, ex⟩, _⟩ := hg i hi
      rw [if_neg (fun z => absurd z.2 (Nat.not_lt_zero i)), ex, nI_clamp (by omega)]) (fun i hi q => (hg i hi).2 q)
    obtain ⟨v, qC, qR, eC, eR⟩ := plain_both N hN hn1 hn hok hcells h1 h2 tr gv' (by
      intro i hi
      rw [ht i hi, hg' i hi]
      by_cases q : (mkN w d x1 n).testBit i = true
      · rw [if_pos q, if_pos q]
        exact ⟨_, _, hmm _, hmm _, rfl, rfl, rfl⟩
      · rw [if_neg q, if_neg q]
        exact ⟨_, _, hmm _, hinp i (by omega), rfl, rfl, Nat.mod_mod _ _⟩) c0 pC pR
    obtain ⟨tr', ht', eT⟩ := turn_loop N hn h1 h2 (fun k hk => ⟨(hcells k hk).1, (hcells k hk).2.2.2.2⟩) x1 c0 inp W n 0 N tr (by omega) (by unfold NB at hN; omega) rfl (by
      intro i hi
      rw [ht i hi]
      by_cases q : (mkN w d x1 n).testBit i = true
      · rw [if_pos q, if_pos q, if_neg (show ¬ i < cntW w 0 0 from Nat.not_lt_zero i)]
      · rw [if_neg q, if_neg q])
    have hgn : ∀ i, i < cntW w 0 n → (∃ x : Nat, x < 16 ∧ gv' i = nI x) ∧ ((mkN w d x1 n).testBit i = false → gv' i = nI (inp i)) := by
      intro i hi
      rw [hg' i hi]
      by_cases q : (mkN w d x1 n).testBit i = true
      · rw [if_pos q]
        exact ⟨⟨_, hmm _, rfl⟩, fun z => by rw [q] at z; exact absurd z (by decide)⟩
      · rw [if_neg q]
        exact ⟨⟨_, hinp i (by omega), rfl⟩, fun _ => rfl⟩
    rw [u_X4_sameEnds_64, u_X10_tells_146]
    unfold s_X4_sameEnds_64 s_X10_tells_146
    rw [if_neg (nI_ge (show W < ways by omega) (by omega)), if_neg (nI_ge (show W < ways by omega) (by omega)), eC]
    rw [show f_X10_tells_160 _ _ _ _ _ _ _ _ _ _ _ (f_X10_tells_146 N (nI n) (nI m) w t a b d rins x1 x2 f) N pR gv (nI (mkN w d x1 n)) (nI (cntW w 0 n)) (nI ways) (nI v0) (nI s) (nI W) (nI W) 0 = _ from e160]
    unfold f_X10_tells_206 f_X4_sameEnds_86
    rw [eR]
    simp only [Option.bind_some]
    rw [show f_X4_turnOthers N (nI m) (nI n) cc x1 tr = some tr' from eT]
    simp only [Option.bind_some]
    rw [nI_1, nI_1, Int32.add_zero]
    by_cases q : nI v = nI v0
    · rw [if_pos q, if_pos q]
      exact ih (W + 1) f (s + 1) tr' gv' qC qR (by omega) (by omega) ht' hgn
    · rw [if_neg q, if_neg q]
      exact ih (W + 1) f s tr' gv' qC qR (by omega) (by omega) ht' hgn
theorem s11_loop (N : Nat) {n m ways : Nat} (h1 : 1 ≤ m) (h2 : m ≤ 16) (cc ins : Nat → Int32) (x1 : Int32) (inp : Nat → Nat) (hin : ∀ i, i < 4 → ins i = nI (inp i) ∧ inp i < 16) (pl : Nat → Int32) : ∀ (j k fuel : Nat) (tr : Nat → Int32), k + j = 4 → j < fuel → (∀ i, i < k → tr i = nI (inp i % m)) →
    ∃ tr', (∀ i, i < 4 → tr' i = nI (inp i % m)) ∧ f_X4_sameEnds_11 N (nI m) (nI n) cc ins x1 (nI ways) fuel (nI m) tr pl (nI k) = f_X4_sameEnds_39 N (nI m) (nI n) cc ins x1 (nI ways) (nI m) tr' pl := by
  intro j
  induction j with
  | zero =>
    intro k fuel tr hk hf h
    obtain ⟨f, rfl⟩ : ∃ f, fuel = f + 1 := ⟨fuel - 1, by omega⟩
    have e : k = 4 := by omega
    subst e
    rw [u_X4_sameEnds_11]
    unfold s_X4_sameEnds_11
    rw [if_pos (by decide)]
    exact ⟨tr, h, rfl⟩
  | succ j ih =>
    intro k fuel tr hk hf h
    obtain ⟨f, rfl⟩ : ∃ f, fuel = f + 1 := ⟨fuel - 1, by omega⟩
    obtain ⟨ei, bi⟩ := hin k (by omega)
    rw [u_X4_sameEnds_11]
    unfold s_X4_sameEnds_11 f_X6_inputIn
    rw [if_neg (show ¬ (4 : Int32) ≤ nI k from nI_ge (b := 4) (by omega) (by decide)), show (0 : Int32) * 4 + nI k = nI k by rw [show (0 : Int32) * 4 = 0 from rfl, Int32.zero_add], at_nI N ins (show k < 8 by omega) (by decide), ei]
    simp only [Option.bind_some]
    rw [mod9 N _ h1 (by omega), md_nI (by omega) h1 (by omega)]
    simp only [Option.bind_some]
    rw [put_nI N tr _ (show k < 4 by omega) (by decide)]
    simp only [Option.bind_some]
    rw [nI_1]
    refine ih (k + 1) f _ (by omega) (by omega) ?_
    intro i hi
    by_cases q : i = k
    · subst q; rw [pk_us]
    · rw [pk_un q]; exact h i (by omega)
theorem eq_tells : St_tells := by
  intro N cm ci cin cmu cc ins vm tr pC ri rm w t a b d rins pR gv x1 x2 hN hP hM hI
  obtain ⟨n, p1, p2, rfl, rfl, hok, rfl, _, c0, c4, hcells⟩ := hP
  obtain ⟨rfl, m, m1, m2, rfl⟩ := hM
  have hc5 : ∀ k : Nat, k < n → cc (6 * k) = w k ∧ cc (6 * k + 1) = t k ∧ cc (6 * k + 2) = a k ∧ cc (6 * k + 3) = b k ∧ cc (6 * k + 4) = d k := fun k hk => ⟨(hcells k hk).1, (hcells k hk).2.1, (hcells k hk).2.2.1, (hcells k hk).2.2.2.1, (hcells k hk).2.2.2.2.1⟩
  have hc2 : ∀ k : Nat, k < n → cc (6 * k) = w k ∧ cc (6 * k + 4) = d k := fun k hk => ⟨(hcells k hk).1, (hcells k hk).2.2.2.2.1⟩
  have hin : ∀ i, i < 4 → ins i = nI (rins i).toNatClampNeg ∧ (rins i).toNatClampNeg < 16 := by
    intro i hi
    obtain ⟨e1, x, hx, e⟩ := hI i (by omega)
    rw [e1, e, nI_clamp (by omega)]
    exact ⟨rfl, by omega⟩
  unfold f_X9_tells f_X10_tells
  rw [isHand9, isHand10, within_eq, in10 N x2 0 1 (by decide) (by decide)]
  simp only [grd]
  by_cases q : x1 < 0 ∨ 2 < x1
  · simp only [if_pos q]; exact ⟨_, _, rfl, rfl, rfl⟩
  simp only [if_neg q]
  by_cases q2 : x2 < 0 ∨ 1 < x2
  · simp only [if_pos q2]; exact ⟨_, _, rfl, rfl, rfl⟩
  simp only [if_neg q2]
  obtain ⟨xx, _, hxx, rfl⟩ := bnd (x := x2) 0 1 (by decide) (by decide) q2
  have eio : f_X2_inputsOf N (nI n) cc x1 = some (nI (owN w d x1 n)) := inp_of N p2 hc2 x1 n 0 N (by omega) (by unfold NB at hN; omega)
  obtain ⟨gv1, hg1, e30⟩ := t30_loop N (m := m) (t := t) (a := a) (b := b) (d := d) (rins := rins) p2 x1 (nI xx) c0 pR n 0 N gv (by omega) (by unfold NB at hN; omega) (fun i hi => absurd hi (Nat.not_lt_zero i))
  rw [show f_X10_tells_30 N (nI n) (nI m) w t a b d rins x1 (nI xx) N pR gv 0 0 0 0 = _ from e30]
  have how := ow_oh w d x1 n
  rw [eio]
  simp only [Option.bind_some]
  rw [show nI (cntW w 0 n) - nI (owN w d x1 n) = nI (ohN w d x1 n) by rw [pk_sub (by omega)]; congr 1; omega]
  obtain ⟨ways, hw1, _, ew1, ew2⟩ := ways_both N hN (m := m) (c := ohN w d x1 n) (by omega) m2 (by omega)
  unfold f_X10_tells_115
  rw [ew1, ew2]
  simp only [Option.bind_some]
  rcases Nat.lt_or_ge 4096 ways with g | g
  · rw [if_neg (show ¬ nI ways ≤ 4096 from nI_ge (a := 4096) g (by omega)), if_neg (show ¬ nI ways ≤ 4096 from nI_ge (a := 4096) g (by omega))]
    simp only [Option.bind_some]
    rw [if_neg (by decide)]
    exact ⟨_, _, rfl, rfl, rfl⟩
  rw [if_pos (show nI ways ≤ 4096 from nI_le (b := 4096) g (by decide)), if_pos (show nI ways ≤ 4096 from nI_le (b := 4096) g (by decide))]
  simp only [Option.bind_some]
  rw [if_pos (show nI ways ≤ 4096 from nI_le (b := 4096) g (by decide))]
  have hmm : ∀ z, z % m < 16 := fun z => Nat.lt_of_lt_of_le (Nat.mod_lt z (by omega)) m2
  have hgin : ∀ i, i < cntW w 0 n → gv1 i = nI (rins i).toNatClampNeg := by
    intro i hi
    rw [hg1 i hi]
    exact (hI i (by omega)).1.symm.trans (hin i (by omega)).1
  obtain ⟨tr1, ht1, e11⟩ := s11_loop N (n := n) (ways := ways) (show 1 ≤ m by omega) m2 cc ins x1 (fun i => (rins i).toNatClampNeg) hin pC 4 0 N tr (by omega) (by unfold NB at hN; omega) (fun i hi => absurd hi (Nat.not_lt_zero i))
  obtain ⟨v0, qC, qR, eC, eR⟩ := plain_both N hN p1 p2 hok hc5 (show 1 ≤ m by omega) m2 tr1 gv1 (by
    intro i hi
    rw [ht1 i (by omega), hgin i hi]
    exact ⟨_, _, hmm _, (hin i (by omega)).2, rfl, rfl, Nat.mod_mod _ _⟩) c0 pC pR
  obtain ⟨tr2, ht2, eCl⟩ := clear_loop N (m := m) p2 hc2 x1 c0 (fun i => (rins i).toNatClampNeg) n 0 N tr1 (by omega) (by unfold NB at hN; omega) (by
    intro i hi
    rw [if_neg (fun z => absurd z.2 (Nat.not_lt_zero i))]
    exact ht1 i (by omega))
  rw [eR]
  simp only [Option.bind_some]
  have dv0 : ∀ i, dvN m (mkN w d x1 n) 0 i = 0 := fun i => Nat.le_zero.mp (dv_le m _ 0 i)
  obtain ⟨s', tr', gv', pC', pR', eS, eT⟩ := tells_lock N hN p1 p2 hok hc5 (show 1 ≤ m by omega) m2 c0 ins rins x1 (nI xx) (fun i => (rins i).toNatClampNeg) (fun i hi => (hin i hi).2) g v0 ways 0 N 0 tr2 gv1 qC qR (by omega) (by unfold NB at hN; omega) (by
    intro i hi
    rw [ht2 i hi]
    congr 1
    by_cases z : (mkN w d x1 n).testBit i = true
    · rw [if_pos ⟨z, hi⟩, if_pos z, dv0, Nat.zero_mod]
    · rw [if_neg (fun y => z y.1), if_neg z]) (by
    intro i hi
    rw [hgin i hi]
    exact ⟨⟨_, (hin i (by omega)).2, rfl⟩, fun _ => rfl⟩)
  rw [show f_X10_tells_146 N (nI n) (nI m) w t a b d rins x1 (nI xx) N qR gv1 (nI (mkN w d x1 n)) (nI (cntW w 0 n)) (nI ways) (nI v0) 0 0 = _ from eT]
  by_cases z : xx = 1
  · subst z
    rw [if_pos (show nI 1 = 1 from rfl), if_neg (show ¬ nI 1 = 0 by decide)]
    exact ⟨_, _, rfl, rfl, rfl⟩
  · have z0 : xx = 0 := by omega
    subst z0
    rw [if_neg (show ¬ nI 0 = 1 by decide), if_pos (show nI 0 = 0 from rfl)]
    have eSE : f_X4_sameEnds N (nI m) (nI n) cc ins x1 (nI ways) vm tr pC = some (nI s', nI m, tr', pC') := by
      unfold f_X4_sameEnds
      rw [show f_X4_sameEnds_11 N (nI m) (nI n) cc ins x1 (nI ways) N (nI m) tr pC 0 = _ from e11]
      unfold f_X4_sameEnds_39
      rw [eC]
      simp only [Option.bind_some]
      rw [show f_X4_clearOthers N (nI n) cc x1 tr1 = some tr2 from eCl]
      simp only [Option.bind_some]
      exact eS
    rw [eSE]
    exact ⟨_, _, rfl, rfl, rfl⟩
