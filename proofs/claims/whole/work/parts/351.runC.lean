/-! both runs, from the told lots -/
theorem goT (N : Nat) (hN : NB ≤ N) {n : Nat} (hn1 : 1 ≤ n) (hn : n ≤ 16) {w t a b d cc : Nat → Int32} (hok : okP n w t a b d) (hcells : ∀ k : Nat, k < n → cc (6 * k) = w k ∧ cc (6 * k + 1) = t k ∧ cc (6 * k + 2) = a k ∧ cc (6 * k + 3) = b k ∧ cc (6 * k + 4) = d k) {m : Nat} (h1 : 1 ≤ m) (h2 : m ≤ 16) (lots lies inputs : Nat → Int32) (lt inp : Nat → Nat) (lf : Nat → Nat → Nat) (hlt : ∀ i, i < 40 → lots i = nI (lt i) ∧ lt i < 16) (hlf : ∀ k h, k < n → h < 3 → lies (3 * k + h) = nI (lf k h) ∧ lf k h < 1000) (row : Nat) (hrow : row < 2) (hinp : ∀ i, i < 4 → inputs (4 * row + i) = nI (inp i) ∧ inp i < 16) (hd : Nat) (hhd : hd < 3) (c0 : cntW w 0 n ≤ 4) (c4 : cntW w 4 n ≤ 4) (vs vn vh vm nl ni : Int32) (S sh sy T va : Nat → Int32) :
    ∃ S' sh' sy' T' va', agS m n w t a b d lt inp lf n S' ∧ (∀ h, h < 3 → sh' h = nI (vN m w t a b d lt inp lf (n - 1) h)) ∧ vA (lsN m w t a b d lt inp lf hd n) va' ∧
      f_X4_go__T_T N (nI m) (nI n) cc inputs lots lies (nI hd) (nI row) vs vn vh vm nl ni S sh sy T va = some (nI (lsN m w t a b d lt inp lf hd n).length, numI m (lsN m w t a b d lt inp lf hd n), nI hd, nI m, nI (posN w n), nI (cntW w 0 n), S', sh', sy', T', va') := by
  unfold f_X4_go__T_T
  have ee : (if ((96 : Int32) - 6) + 1 < nI n * 6 then ((96 : Int32) - 6) + 1 else nI n * 6) = nI (endN n) := by
    rw [show (6 : Int32) = nI 6 from rfl, nI_mul, show (96 : Int32) - nI 6 + 1 = nI 91 from rfl, Nat.mul_comm n 6]
    unfold endN
    by_cases q : 91 < 6 * n
    · rw [if_pos (nI_lt q (by omega)), if_pos q]
    · rw [if_neg (nI_nlt (by omega) (by omega)), if_neg q]
  rw [ee]
  exact go_loop N hN hn hok hcells h1 h2 lots lies inputs lt inp lf hlt hlf row hrow hinp hd hhd c0 c4 n 0 N S sh sy T va (by omega) (by unfold NB at hN; omega) (Or.inl (by omega)) (fun j hj => absurd hj (Nat.not_lt_zero j)) (fun i hi => absurd hi (Nat.not_lt_zero i))
theorem runT (N : Nat) (hN : NB ≤ N) {n : Nat} (hn1 : 1 ≤ n) (hn : n ≤ 16) {w t a b d : Nat → Int32} (hok : okP n w t a b d) {m : Nat} (h1 : 1 ≤ m) (h2 : m ≤ 16) (rc ly : Int32) (dr inputs li lh lb : Nat → Int32) (lt inp : Nat → Nat) (lf : Nat → Nat → Nat) (hlt : ∀ i, i < posN w n → dr i = nI (lt i) ∧ lt i < 16) (hlie : ∀ k h, k < n → h < 3 → lf k h < 1000 ∧ (ly = 0 ∧ lf k h = 0 ∨ ¬ ly = 0 ∧ f_X10_lieOf N rc li lh lb (nI k) (nI h) = some (nI (lf k h)))) (row : Nat) (hrow : row < 2) (hinp : ∀ i, i < 4 → inputs (4 * row + i) = nI (inp i) ∧ inp i < 16) (hd : Nat) (hhd : hd < 3) (c0 : cntW w 0 n ≤ 4) (c4 : cntW w 4 n ≤ 4) (e vs : Int32) (P ip sn sh T : Nat → Int32) :
    ∃ P2 ip2 sn2 sh2 T2, (∀ i, i < n → ∀ h, h < 3 → ip2 (3 * i + h) = nI (vN m w t a b d lt inp lf i h)) ∧ vA (lsN m w t a b d lt inp lf hd n) sn2 ∧
      f_X10_run N (nI n) (nI m) rc w t a b d inputs li lh lb dr (nI row) ly (nI hd) e vs P ip sn sh T = some (nI ((vN m w t a b d lt inp lf (n - 1) 0 + vN m w t a b d lt inp lf (n - 1) 1 + vN m w t a b d lt inp lf (n - 1) 2) % m), nI (lsN m w t a b d lt inp lf hd n).length, P2, ip2, sn2, sh2, T2) := by
  unfold f_X10_run
  exact run_loop N hN hn hok h1 h2 rc ly dr inputs li lh lb lt inp lf hlt hlie row hrow hinp hd hhd c0 c4 n 0 N e P ip sn sh T (by omega) (by unfold NB at hN; omega) (Or.inl (by omega)) (fun j hj => absurd hj (Nat.not_lt_zero j)) (fun i hi => absurd hi (Nat.not_lt_zero i)) (fun i hi => absurd hi (Nat.not_lt_zero i))
theorem told_loop (N : Nat) (ri rm rc x1 : Int32) (w t a b d inp10 lot li lh lb : Nat → Int32) (e vs : Int32) (P ip sn sh T : Nat → Int32) : ∀ (j k fuel : Nat) (dr : Nat → Int32), k + j = 40 → j < fuel → (∀ i, i < k → dr i = lot i) →
    ∃ dr', (∀ i, i < 40 → dr' i = lot i) ∧ f_X10_runAsTold_2 N ri rm rc w t a b d inp10 lot li lh lb x1 fuel e vs P ip dr sn sh T (nI k) = f_X10_runAsTold_26 N ri rm rc w t a b d inp10 lot li lh lb x1 e vs P ip dr' sn sh T := by
  intro j
  induction j with
  | zero =>
    intro k fuel dr hk hf h
    obtain ⟨f, rfl⟩ : ∃ f, fuel = f + 1 := ⟨fuel - 1, by omega⟩
    have ek : k = 40 := by omega
    subst ek
    rw [u_X10_runAsTold_2]
    unfold s_X10_runAsTold_2
    rw [if_pos (by decide)]
    exact ⟨dr, h, rfl⟩
  | succ j ih =>
    intro k fuel dr hk hf h
    obtain ⟨f, rfl⟩ : ∃ f, fuel = f + 1 := ⟨fuel - 1, by omega⟩
    rw [u_X10_runAsTold_2]
    unfold s_X10_runAsTold_2
    rw [if_neg (show ¬ (40 : Int32) ≤ nI k from nI_ge (b := 40) (by omega) (by decide)), if_pos (gin_nI (show k < 40 by omega) (by decide)), if_pos (gin_nI (show k < 40 by omega) (by decide)), nI_clamp (by omega), nI_1]
    refine ih (k + 1) f _ (by omega) (by omega) ?_
    intro i hi
    by_cases q : i = k
    · subst q; rw [pk_us]
    · rw [pk_un q]; exact h i (by omega)
theorem both (N : Nat) (hN : NB ≤ N) {cm ci cin cmu clc ri rm rlc : Int32} {cc ins lots lies w t a b d rins rlot li lh lb : Nat → Int32} (hP : R_P ci cin cmu cc ri w t a b d) (hM : R_M cm rm) (hI : R_I ins rins) (hL : R_L lots rlot) (hY : R_Y clc lies rlc li lh lb) {hd : Nat} (hhd : hd < 3) :
    ∃ (n m : Nat) (L : List Nat) (V : Nat → Nat → Nat), ri = nI n ∧ 1 ≤ n ∧ n ≤ 16 ∧ 1 ≤ m ∧ m ≤ 16 ∧ L.length ≤ 51 ∧ (∀ i h, V i h < m) ∧
      ∀ (vs vn vh vm nl ni : Int32) (S sh sy T va : Nat → Int32) (e vs2 : Int32) (P ip dr sn sh2 T2 : Nat → Int32), ∃ p' ni' vn' S' sh' sy' T' va' P2 ip2 dr2 sn2 sh3 T3,
        f_X4_go N cm ci cc ins lots lies (nI hd) vs vn vh vm nl ni S sh sy T va = some (nI L.length, vn', nI hd, nI m, p', ni', S', sh', sy', T', va') ∧
        f_X10_runAsTold N ri rm rlc w t a b d rins rlot li lh lb (nI hd) e vs2 P ip dr sn sh2 T2 = some (nI ((V (n - 1) 0 + V (n - 1) 1 + V (n - 1) 2) % m), nI L.length, P2, ip2, dr2, sn2, sh3, T3) ∧
        vA L va' ∧ vA L sn2 ∧ (∀ h, h < 3 → sh' h = nI (V (n - 1) h)) ∧ (∀ j, j + 1 < n → ∀ h, h < 3 → S' (3 * tnN t j + h) = nI (V j h)) ∧ (∀ j, j < n → ∀ h, h < 3 → ip2 (3 * j + h) = nI (V j h)) := by
  obtain ⟨n, p1, p2, rfl, rfl, hok, _, _, c0, c4, hcells⟩ := hP
  obtain ⟨rfl, m, m1, m2, rfl⟩ := hM
  obtain ⟨rfl, c, hc, rfl, hb, hs⟩ := hY
  have hlt : ∀ i, i < 40 → rlot i = nI (rlot i).toNatClampNeg ∧ (rlot i).toNatClampNeg < 16 := by
    intro i hi
    obtain ⟨_, x, hx, e⟩ := hL i hi
    rw [e, nI_clamp (by omega)]
    exact ⟨rfl, by omega⟩
  have hlt2 : ∀ i, i < 40 → lots i = nI (rlot i).toNatClampNeg ∧ (rlot i).toNatClampNeg < 16 := by
    intro i hi
    rw [(hL i hi).1]
    exact hlt i hi
  have hin : ∀ i, i < 4 → rins (4 * 0 + i) = nI (rins i).toNatClampNeg ∧ (rins i).toNatClampNeg < 16 := by
    intro i hi
    obtain ⟨_, x, hx, e⟩ := hI i (by omega)
    rw [show 4 * 0 + i = i by omega, e, nI_clamp (by omega)]
    exact ⟨rfl, by omega⟩
  have hin2 : ∀ i, i < 4 → ins (4 * 0 + i) = nI (rins i).toNatClampNeg ∧ (rins i).toNatClampNeg < 16 := by
    intro i hi
    rw [show 4 * 0 + i = i by omega, (hI i (by omega)).1]
    have := hin i hi
    rw [show 4 * 0 + i = i by omega] at this
    exact this
  have hlf0 : ∀ k h, k < n → h < 3 → lieS li lh lb (nI k) (nI h) c = nI (lies (3 * k + h)).toNatClampNeg ∧ (lies (3 * k + h)).toNatClampNeg < 1000 := by
    intro k h hk hh
    obtain ⟨s, hs1, hs2⟩ := lieS_b li lh lb (nI k) (nI h) c hb
    rw [hs k h (by omega) hh, hs2, nI_clamp (by omega)]
    exact ⟨rfl, by omega⟩
  have hlf : ∀ k h, k < n → h < 3 → lies (3 * k + h) = nI (lies (3 * k + h)).toNatClampNeg ∧ (lies (3 * k + h)).toNatClampNeg < 1000 := by
    intro k h hk hh
    obtain ⟨e, bb⟩ := hlf0 k h hk hh
    exact ⟨by rw [← e]; exact hs k h (by omega) hh, bb⟩
  have hlie : ∀ k h, k < n → h < 3 → (lies (3 * k + h)).toNatClampNeg < 1000 ∧ ((1 : Int32) = 0 ∧ (lies (3 * k + h)).toNatClampNeg = 0 ∨ ¬ (1 : Int32) = 0 ∧ f_X10_lieOf N (nI c) li lh lb (nI k) (nI h) = some (nI (lies (3 * k + h)).toNatClampNeg)) := by
    intro k h hk hh
    obtain ⟨e, bb⟩ := hlf0 k h hk hh
    refine ⟨bb, Or.inr ⟨by decide, ?_⟩⟩
    rw [lieOf_eq N hN li lh lb c hc, e]
  refine ⟨n, m, lsN m w t a b d (fun i => (rlot i).toNatClampNeg) (fun i => (rins i).toNatClampNeg) (fun k h => (lies (3 * k + h)).toNatClampNeg) hd n, vN m w t a b d (fun i => (rlot i).toNatClampNeg) (fun i => (rins i).toNatClampNeg) (fun k h => (lies (3 * k + h)).toNatClampNeg), rfl, p1, p2, by omega, m2, ?_, ?_, ?_⟩
  · have := ls_len hok m (fun i => (rlot i).toNatClampNeg) (fun i => (rins i).toNatClampNeg) (fun k h => (lies (3 * k + h)).toNatClampNeg) hd n (Nat.le_refl n)
    rw [if_pos rfl] at this
    omega
  · intro i h
    exact vN_lt _ _ _ _ _ _ _ _ _ _ _ (by omega)
  · intro vs vn vh vm nl ni S sh sy T va e vs2 P ip dr sn sh2 T2
    obtain ⟨S', sh', sy', T', va', g1, g2, g3, g4⟩ := goT N hN p1 p2 hok (fun k hk => ⟨(hcells k hk).1, (hcells k hk).2.1, (hcells k hk).2.2.1, (hcells k hk).2.2.2.1, (hcells k hk).2.2.2.2.1⟩) (show 1 ≤ m by omega) m2 lots lies ins (fun i => (rlot i).toNatClampNeg) (fun i => (rins i).toNatClampNeg) (fun k h => (lies (3 * k + h)).toNatClampNeg) hlt2 hlf 0 (by decide) hin2 hd hhd c0 c4 vs vn vh vm nl ni S sh sy T va
    obtain ⟨dr', hdr, et⟩ := told_loop N (nI n) (nI m) (nI c) (nI hd) w t a b d rins rlot li lh lb e vs2 P ip sn sh2 T2 40 0 N dr (by omega) (by unfold NB at hN; omega) (fun i hi => absurd hi (Nat.not_lt_zero i))
    obtain ⟨P2, ip2, sn2, sh3, T3, q1, q2, q3⟩ := runT N hN p1 p2 hok (show 1 ≤ m by omega) m2 (nI c) 1 dr' rins li lh lb (fun i => (rlot i).toNatClampNeg) (fun i => (rins i).toNatClampNeg) (fun k h => (lies (3 * k + h)).toNatClampNeg) (fun i hi => by have h40 : i < 40 := (by unfold posN at hi; omega); rw [hdr i h40]; exact hlt i h40) hlie 0 (by decide) hin hd hhd c0 c4 e vs2 P ip sn sh2 T2
    refine ⟨nI (posN w n), nI (cntW w 0 n), numI m (lsN m w t a b d (fun i => (rlot i).toNatClampNeg) (fun i => (rins i).toNatClampNeg) (fun k h => (lies (3 * k + h)).toNatClampNeg) hd n), S', sh', sy', T', va', P2, ip2, dr', sn2, sh3, T3, ?_, ?_, g3, q2, g2, fun j hj h hh => g1 j (by omega) hj h hh, q1⟩
    · unfold f_X4_go
      rw [show f_X4_go__T_T N (nI m) (nI n) cc ins lots lies (nI hd) 0 vs vn vh vm nl ni S sh sy T va = _ from g4]
      rfl
    · refine Eq.trans et ?_
      unfold f_X10_runAsTold_26
      rw [show f_X10_run N (nI n) (nI m) (nI c) w t a b d rins li lh lb dr' 0 1 (nI hd) e vs2 P ip sn sh2 T2 = _ from q3]
      rfl
theorem eq_end : St_end := by
  intro N clc cm ci cin cmu cc ins lots lies vs vn vh vm nl ni S sh sy T va ri rm rlc e vs2 w t a b d rins rlot li lh lb P ip dr sn sh2 T2 hN hP hM hI hL hY
  obtain ⟨n, m, L, V, rfl, p1, p2, h1, h2, hl, hV, hall⟩ := both N hN hP hM hI hL hY (hd := 0) (by decide)
  obtain ⟨p', ni', vn', S', sh', sy', T', va', P2, ip2, dr2, sn2, sh3, T3, g1, g2, g3, g4, g5, g6, g7⟩ := hall vs vn vh vm nl ni S sh sy T va e vs2 P ip dr sn sh2 T2
  have b0 := hV (n - 1) 0
  have b1 := hV (n - 1) 1
  have b2 := hV (n - 1) 2
  unfold f_X9_end f_X10_end
  rw [show f_X4_go N cm ci cc ins lots lies 0 vs vn vh vm nl ni S sh sy T va = _ from g1, show f_X10_runAsTold N (nI n) rm rlc w t a b d rins rlot li lh lb 0 e vs2 P ip dr sn sh2 T2 = _ from g2]
  simp only [Option.bind_some]
  unfold f_X4_endShown
  rw [show f_X9_at N sh' 3 0 = some (sh' 0) from at_nI N sh' (show 0 < 3 by decide) (by decide), show f_X9_at N sh' 3 1 = some (sh' 1) from at_nI N sh' (show 1 < 3 by decide) (by decide), show f_X9_at N sh' 3 2 = some (sh' 2) from at_nI N sh' (show 2 < 3 by decide) (by decide), g5 0 (by decide), g5 1 (by decide), g5 2 (by decide)]
  simp only [Option.bind_some]
  rw [nI_add, nI_add, mod9 N _ h1 (by omega), md_nI (by omega) h1 (by omega)]
  exact ⟨_, _, rfl, rfl, rfl⟩
theorem eq_share : St_share := by
  intro N clc cm ci cin cmu cc ins lots lies vs vn vh vm nl ni S sh sy T va ri rm rlc e vs2 w t a b d rins rlot li lh lb P ip dr sn sh2 T2 x1 x2 hN hP hM hI hL hY
  obtain ⟨n, m, L, V, eri, p1, p2, h1, h2, hl, hV, hall⟩ := both N hN hP hM hI hL hY (hd := 0) (by decide)
  obtain ⟨p', ni', vn', S', sh', sy', T', va', P2, ip2, dr2, sn2, sh3, T3, g1, g2, g3, g4, g5, g6, g7⟩ := hall vs vn vh vm nl ni S sh sy T va e vs2 P ip dr sn sh2 T2
  obtain ⟨n', _, _, ec, er, hok, _, _, _, _, hcells⟩ := hP
  have hnn : n' = n := (nI_eq (by omega) (by omega)).mp (er.symm.trans eri)
  subst hnn
  subst ec
  subst er
  unfold f_X9_share f_X10_share
  rw [has2, isItem10 N n' p1 (by omega), isHand9, isHand10]
  simp only [grd]
  by_cases q : x1 < 0 ∨ nI n' ≤ x1
  · simp only [if_pos q]; exact ⟨_, _, rfl, rfl, rfl⟩
  simp only [if_neg q]
  by_cases q2 : x2 < 0 ∨ 2 < x2
  · simp only [if_pos q2]; exact ⟨_, _, rfl, rfl, rfl⟩
  simp only [if_neg q2]
  obtain ⟨k, hk, rfl⟩ := item_nI (show n' < 2 ^ 31 by omega) q
  obtain ⟨hh, _, hhh, rfl⟩ := bnd (x := x2) 0 2 (by decide) (by decide) q2
  obtain ⟨c1, c2, _⟩ := hcells k hk
  rw [show f_X4_go N cm (nI n') cc ins lots lies 0 vs vn vh vm nl ni S sh sy T va = _ from g1, show f_X10_runAsTold N (nI n') rm rlc w t a b d rins rlot li lh lb 0 e vs2 P ip dr sn sh2 T2 = _ from g2]
  simp only [Option.bind_some]
  rw [show f_X2_cell N cc (nI k) 0 = some (cc (6 * k + 0)) from cell2 N cc (show k < 16 by omega) (show 0 < 6 by decide), show f_X2_cell N cc (nI k) 1 = some (cc (6 * k + 1)) from cell2 N cc (show k < 16 by omega) (show 1 < 6 by decide), Nat.add_zero, c1, c2]
  rw [show (3 : Int32) * nI k + nI hh = nI (3 * k + hh) by rw [show (3 : Int32) = nI 3 from rfl, nI_mul, nI_add], if_pos (g48 (show k < 16 by omega) (show hh < 3 by omega)), nI_clamp (by omega), g7 k hk hh (by omega)]
  simp only [Option.bind_some]
  by_cases w5 : w k = 5
  · rw [if_pos w5, at_nI N sh' (show hh < 3 by omega) (by decide), g5 hh (by omega), show n' - 1 = k by have := ((hok k hk).2.1).mp w5; omega]
    exact ⟨_, _, rfl, rfl, rfl⟩
  · rw [if_neg w5]
    have hk2 : k + 1 < n' := by
      rcases Nat.lt_or_ge (k + 1) n' with g | g
      · exact g
      · exact absurd ((hok k hk).2.1.mpr (by omega)) w5
    obtain ⟨et, bt⟩ := tn_eq hok hk
    unfold f_X4_shareOf
    rw [show t k * 3 = nI (3 * tnN t k) from c3_mul _ _ et, nI_add, at_nI N S' (show 3 * tnN t k + hh < 48 by omega) (by decide), g6 k hk2 hh (by omega)]
    exact ⟨_, _, rfl, rfl, rfl⟩
theorem eq_seen : St_seen := by
  intro N clc cm ci cin cmu cc ins lots lies vs vn vh vm nl ni S sh sy T va ri rm rlc e vs2 w t a b d rins rlot li lh lb P ip dr sn sh2 T2 x1 x2 hN hP hM hI hL hY
  unfold f_X9_seen f_X10_seen
  rw [isHand9, isHand10]
  simp only [grd]
  by_cases q : x1 < 0 ∨ 2 < x1
  · simp only [if_pos q]; exact ⟨_, _, rfl, rfl, rfl⟩
  simp only [if_neg q]
  obtain ⟨hd, _, hhd, rfl⟩ := bnd (x := x1) 0 2 (by decide) (by decide) q
  by_cases q2 : (-1 : Int32) ≤ x2
  · simp only [if_pos q2]
    obtain ⟨n, m, L, V, rfl, p1, p2, h1, h2, hl, hV, hall⟩ := both N hN hP hM hI hL hY (hd := hd) (by omega)
    obtain ⟨p', ni', vn', S', sh', sy', T', va', P2, ip2, dr2, sn2, sh3, T3, g1, g2, g3, g4, g5, g6, g7⟩ := hall vs vn vh vm nl ni S sh sy T va e vs2 P ip dr sn sh2 T2
    rw [g1, g2]
    simp only [Option.bind_some]
    by_cases q3 : x2 = -1
    · rw [if_pos q3, if_neg (by rw [q3]; decide)]
      exact ⟨_, _, rfl, rfl, rfl⟩
    · have q4 : ¬ x2 < 0 := by
        intro z
        have z1 := Int32.lt_iff_toInt_lt.mp z
        have z2 := Int32.le_iff_toInt_le.mp q2
        have z3 : (0 : Int32).toInt = 0 := by decide
        have z4 : (-1 : Int32).toInt = -1 := by decide
        rw [z3] at z1
        rw [z4] at z2
        exact q3 (Int32.toInt_inj.mp (by rw [z4]; omega))
      rw [if_neg q3, if_pos (Int32.not_lt.mp q4)]
      by_cases q5 : nI L.length ≤ x2
      · rw [if_pos q5, if_pos q5]
        exact ⟨_, _, rfl, rfl, rfl⟩
      · rw [if_neg q5, if_neg q5]
        obtain ⟨k, hk, rfl⟩ := item_nI (n := L.length) (x := x2) (by omega) (fun z => z.elim q4 q5)
        rw [at_nI N va' (show k < 51 by omega) (by decide), if_pos (gin_nI (show k < 80 by omega) (by decide)), nI_clamp (by omega), g3 k hk, g4 k hk]
        exact ⟨_, _, rfl, rfl, rfl⟩
  · simp only [if_neg q2]; exact ⟨_, _, rfl, rfl, rfl⟩
