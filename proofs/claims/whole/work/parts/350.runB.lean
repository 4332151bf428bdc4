theorem set3_ip {m : Nat} {w t a b d : Nat → Int32} {lt inp : Nat → Nat} {lf : Nat → Nat → Nat} {k : Nat} {ip : Nat → Int32} (hip : ∀ i, i < k → ∀ h, h < 3 → ip (3 * i + h) = nI (vN m w t a b d lt inp lf i h)) {v0 v1 v2 : Int32} (e0 : v0 = nI (vN m w t a b d lt inp lf k 0)) (e1 : v1 = nI (vN m w t a b d lt inp lf k 1)) (e2 : v2 = nI (vN m w t a b d lt inp lf k 2)) : ∀ i, i < k + 1 → ∀ h, h < 3 → set3 ip k v0 v1 v2 (3 * i + h) = nI (vN m w t a b d lt inp lf i h) := by
  intro i hi h hh
  by_cases e : i = k
  · subst e
    match h, hh with
    | 0, _ => rw [← e0]; exact set3_0 _ _ _ _ _
    | 1, _ => rw [← e1]; exact set3_1 _ _ _ _ _
    | 2, _ => rw [← e2]; exact set3_2 _ _ _ _ _
  · rw [set3_ne ip e _ _ _ hh]
    exact hip i (by omega) h hh
theorem run_loop (N : Nat) (hN : NB ≤ N) {n : Nat} (hn : n ≤ 16) {w t a b d : Nat → Int32} (hok : okP n w t a b d) {m : Nat} (h1 : 1 ≤ m) (h2 : m ≤ 16) (rc ly : Int32) (dr inputs li lh lb : Nat → Int32) (lt inp : Nat → Nat) (lf : Nat → Nat → Nat) (hlt : ∀ i, i < posN w n → dr i = nI (lt i) ∧ lt i < 16) (hlie : ∀ k h, k < n → h < 3 → lf k h < 1000 ∧ (ly = 0 ∧ lf k h = 0 ∨ ¬ ly = 0 ∧ f_X10_lieOf N rc li lh lb (nI k) (nI h) = some (nI (lf k h)))) (row : Nat) (hrow : row < 2) (hinp : ∀ i, i < 4 → inputs (4 * row + i) = nI (inp i) ∧ inp i < 16) (hd : Nat) (hhd : hd < 3) (c0 : cntW w 0 n ≤ 4) (c4 : cntW w 4 n ≤ 4) :
    ∀ (j k fuel : Nat) (e : Int32) (P ip sn sh T : Nat → Int32), k + j = n → j < fuel → (k < n ∨ e = nI ((vN m w t a b d lt inp lf (n - 1) 0 + vN m w t a b d lt inp lf (n - 1) 1 + vN m w t a b d lt inp lf (n - 1) 2) % m)) → agS m n w t a b d lt inp lf k P → (∀ i, i < k → ∀ h, h < 3 → ip (3 * i + h) = nI (vN m w t a b d lt inp lf i h)) → vA (lsN m w t a b d lt inp lf hd k) sn →
    ∃ P2 ip2 sn2 sh2 T2, (∀ i, i < n → ∀ h, h < 3 → ip2 (3 * i + h) = nI (vN m w t a b d lt inp lf i h)) ∧ vA (lsN m w t a b d lt inp lf hd n) sn2 ∧
      f_X10_run_14 N (nI n) (nI m) rc w t a b d inputs li lh lb dr (nI row) ly (nI hd) fuel e (nI (lsN m w t a b d lt inp lf hd k).length) P ip sn sh T (nI (posN w k)) (nI (cntW w 0 k)) (nI k) = some (nI ((vN m w t a b d lt inp lf (n - 1) 0 + vN m w t a b d lt inp lf (n - 1) 1 + vN m w t a b d lt inp lf (n - 1) 2) % m), nI (lsN m w t a b d lt inp lf hd n).length, P2, ip2, sn2, sh2, T2) := by
  intro j
  induction j with
  | zero =>
    intro k fuel e P ip sn sh T hk hf he ha hip hv
    obtain ⟨f, rfl⟩ : ∃ f, fuel = f + 1 := ⟨fuel - 1, by omega⟩
    have ek : k = n := by omega
    subst ek
    rw [u_X10_run_14]
    unfold s_X10_run_14
    rw [if_pos (Int32.le_refl _), he.resolve_left (by omega)]
    exact ⟨P, ip, sn, sh, T, hip, hv, rfl⟩
  | succ j ih =>
    intro k fuel e P ip sn sh T hk hf _ ha hip hv
    obtain ⟨f, rfl⟩ : ∃ f, fuel = f + 1 := ⟨fuel - 1, by omega⟩
    have hkn : k < n := by omega
    have hk16 : k < 16 := by omega
    obtain ⟨⟨c, hc, ew⟩, hw5, _, hd0, hd1, hab, h5, _⟩ := hok k hkn
    obtain ⟨et, bt⟩ := tn_eq hok hkn
    have hllen := ls_len hok m lt inp lf hd k (by omega)
    rw [if_neg (show ¬ k = n by omega)] at hllen
    have mc0 := cnt_mono w 0 n (k + 1) (by omega)
    have mc4 := cnt_mono w 4 n (k + 1) (by omega)
    have mk0 := cntW_s w 0 k
    have mk4 := cntW_s w 4 k
    rw [u_X10_run_14]
    unfold s_X10_run_14
    rw [if_neg (nI_ge (show k < n by omega) (by omega))]
    simp only [gin_nI (show k < 32 by omega) (show 32 < 2 ^ 31 by decide), if_true, nI_clamp (show k < 2 ^ 31 by omega)]
    rw [show (3 : Int32) * t k = nI (3 * tnN t k) by rw [Int32.mul_comm]; exact c3_mul _ _ et]
    have tail : ∀ (e' : Int32) (P' ip' sn' sh' T' : Nat → Int32) (L' : List Nat) (p' c' : Nat), L' = lsN m w t a b d lt inp lf hd (k + 1) → p' = posN w (k + 1) → c' = cntW w 0 (k + 1) → (k + 1 < n ∨ e' = nI ((vN m w t a b d lt inp lf (n - 1) 0 + vN m w t a b d lt inp lf (n - 1) 1 + vN m w t a b d lt inp lf (n - 1) 2) % m)) → agS m n w t a b d lt inp lf (k + 1) P' → (∀ i, i < k + 1 → ∀ h, h < 3 → ip' (3 * i + h) = nI (vN m w t a b d lt inp lf i h)) → vA L' sn' →
        ∃ P2 ip2 sn2 sh2 T2, (∀ i, i < n → ∀ h, h < 3 → ip2 (3 * i + h) = nI (vN m w t a b d lt inp lf i h)) ∧ vA (lsN m w t a b d lt inp lf hd n) sn2 ∧
        f_X10_run_14 N (nI n) (nI m) rc w t a b d inputs li lh lb dr (nI row) ly (nI hd) f e' (nI L'.length) P' ip' sn' sh' T' (nI p') (nI c') (nI (k + 1)) = some (nI ((vN m w t a b d lt inp lf (n - 1) 0 + vN m w t a b d lt inp lf (n - 1) 1 + vN m w t a b d lt inp lf (n - 1) 2) % m), nI (lsN m w t a b d lt inp lf hd n).length, P2, ip2, sn2, sh2, T2) := by
      intro e' P' ip' sn' sh' T' L' p' c' eL ep ec he hag hip hva
      subst eL ep ec
      exact ih (k + 1) f e' P' ip' sn' sh' T' (by omega) (by omega) he hag hip hva
    have hlsq : lsN m w t a b d lt inp lf hd (k + 1) = lsN m w t a b d lt inp lf hd k ++ sqN m w t a b d lt inp lf hd k := rfl
    have hk2 : ¬ w k = 5 → k + 1 < n := fun q => by
      rcases Nat.lt_or_ge (k + 1) n with g | g
      · exact g
      · exact absurd (hw5.mpr (by omega)) q
    have npos : posN w (k + 1) = posN w k + 2 * (if w k = 0 then 1 else 0) + 8 * (if w k = 4 then 1 else 0) := by
      unfold posN
      rw [mk0, mk4]
      omega
    by_cases w0 : w k = 0
    · have n4 : ¬ w k = 4 := fun e => absurd (w0.symm.trans e) (by decide)
      have n5 : ¬ w k = 5 := fun e => absurd (w0.symm.trans e) (by decide)
      rw [if_pos w0]
      rw [if_pos w0] at mk0 npos
      rw [if_neg n4] at mk4 npos
      have v0 : vN m w t a b d lt inp lf k 0 = lt (posN w k) % m := by unfold vN valN inV; rw [if_pos w0, if_pos rfl]
      have v1 : vN m w t a b d lt inp lf k 1 = lt (posN w k + 1) % m := by unfold vN valN inV; rw [if_pos w0, if_neg (by decide), if_pos rfl]
      have v2 : vN m w t a b d lt inp lf k 2 = sm (inp (cntW w 0 k)) (lt (posN w k) % m + lt (posN w k + 1) % m) m := by unfold vN valN inV; rw [if_pos w0, if_neg (by decide), if_neg (by decide)]
      have b0 := vN_lt m w t a b d lt inp lf k 0 h1
      have b1 := vN_lt m w t a b d lt inp lf k 1 h1
      have hp40 : posN w k + 1 < 40 := by unfold posN; omega
      have hpq : posN w k + 1 < posN w n := by unfold posN; omega
      obtain ⟨el0, bl0⟩ := hlt (posN w k) (by omega)
      obtain ⟨el1, bl1⟩ := hlt (posN w k + 1) hpq
      obtain ⟨ei, bi⟩ := hinp (cntW w 0 k) (by omega)
      rw [if_pos (gin_nI (show posN w k < 40 by omega) (by decide)), nI_clamp (show posN w k < 2 ^ 31 by omega), el0, mod10 N _ h1 (by omega), md_nI (by omega) h1 (by omega), ← v0]
      simp only [Option.bind_some]
      rw [show nI (posN w k) + 1 = nI (posN w k + 1) from nI_1 _, show nI (3 * tnN t k) + 1 = nI (3 * tnN t k + 1) from nI_1 _, show nI (3 * tnN t k) + 2 = nI (3 * tnN t k + 2) from nI_add _ 2, if_pos (g480 bt), if_pos (gin_nI hp40 (by decide)), nI_clamp (show posN w k + 1 < 2 ^ 31 by omega), el1, mod10 N _ h1 (by omega), md_nI (by omega) h1 (by omega), ← v1]
      simp only [Option.bind_some]
      rw [if_pos (g48 bt (by decide)), show (4 : Int32) * nI row + nI (cntW w 0 k) = nI (4 * row + cntW w 0 k) by rw [show (4 : Int32) = nI 4 from rfl, nI_mul, nI_add], if_pos (gin_nI (show 4 * row + cntW w 0 k < 8 by omega) (by decide)), if_pos (g480 bt), if_pos (g48 bt (by decide)), nI_clamp (show 4 * row + cntW w 0 k < 2 ^ 31 by omega), nI_clamp (show 3 * tnN t k < 2 ^ 31 by omega), nI_clamp (show 3 * tnN t k + 1 < 2 ^ 31 by omega), pk_us, pk_un (show 3 * tnN t k ≠ 3 * tnN t k + 1 by omega), pk_us, ei, Int32.sub_sub, nI_add, mod10 N _ h1 (by omega), md_sub (by omega) (by omega) h1 (by omega)]
      rw [← v0, ← v1] at v2
      rw [← v2]
      simp only [Option.bind_some]
      rw [if_pos (g48 bt (by decide)), nI_clamp (show 3 * tnN t k + 2 < 2 ^ 31 by omega), show nI (posN w k) + 2 = nI (posN w k + 2) from nI_add _ 2, show nI (cntW w 0 k) + 1 = nI (cntW w 0 k + 1) from nI_1 _]
      obtain ⟨sn1, hv1, e1⟩ := r157_eq N hN (n := n) (m := m) (row := row) rc ly w t a b d inputs li lh lb dr hk16 hhd bt (f_X10_run_14 N (nI n) (nI m) rc w t a b d inputs li lh lb dr (nI row) ly (nI hd) f) e hv (by omega) (set3 P (tnN t k) (nI (vN m w t a b d lt inp lf k 0)) (nI (vN m w t a b d lt inp lf k 1)) (nI (vN m w t a b d lt inp lf k 2))) ip sh T (nI (posN w k + 2)) (nI (cntW w 0 k + 1)) (set3_0 _ _ _ _ _) (set3_1 _ _ _ _ _) (set3_2 _ _ _ _ _)
      have e2 := e1.trans (r489_eq N hN rc ly w t a b d inputs li lh lb dr hk16 bt n5 (f_X10_run_14 N (nI n) (nI m) rc w t a b d inputs li lh lb dr (nI row) ly (nI hd) f) e _ _ _ _ _ _ _ _)
      rw [set3_0, set3_1, set3_2] at e2
      have hv2 : vA (lsN m w t a b d lt inp lf hd (k + 1)) sn1 := by
        rw [hlsq, show sqN m w t a b d lt inp lf hd k = seenIn (decide (d k = nI hd)) hd (vN m w t a b d lt inp lf k 0) (vN m w t a b d lt inp lf k 1) (vN m w t a b d lt inp lf k 2) by
          unfold sqN vN valN
          rw [if_pos w0, if_pos w0, if_pos w0, if_pos w0]]
        exact hv1
      obtain ⟨P2, ip2, sn2, sh2, T2, g1, g2, g3⟩ := tail e _ _ sn1 sh T _ (posN w k + 2) (cntW w 0 k + 1) rfl (by omega) (by omega) (Or.inl (hk2 n5)) (agS_s hok m lt inp lf (hk2 n5) ha) (set3_ip hip rfl rfl rfl) hv2
      refine ⟨P2, ip2, sn2, sh2, T2, g1, g2, ?_⟩
      refine Eq.trans e2 ?_
      rw [show (lsN m w t a b d lt inp lf hd k ++ seenIn (decide (d k = nI hd)) hd (vN m w t a b d lt inp lf k 0) (vN m w t a b d lt inp lf k 1) (vN m w t a b d lt inp lf k 2)) = lsN m w t a b d lt inp lf hd (k + 1) by
        rw [hlsq]
        congr 1
        unfold sqN vN valN
        rw [if_pos w0, if_pos w0, if_pos w0, if_pos w0]]
      exact g3
    rw [if_neg w0]
    rw [if_neg w0] at mk0 npos
    by_cases w1 : w k = 1
    · have n4 : ¬ w k = 4 := fun e => absurd (w1.symm.trans e) (by decide)
      have n5 : ¬ w k = 5 := fun e => absurd (w1.symm.trans e) (by decide)
      rw [if_pos w1]
      rw [if_neg n4] at mk4 npos
      obtain ⟨dn, hdn, ed⟩ := hd1 w1
      have etd : tnN d k = dn := by unfold tnN; rw [ed, nI_clamp (by omega)]
      have v0 : vN m w t a b d lt inp lf k 0 = dn % m := by unfold vN valN; rw [if_neg w0, if_pos w1, if_pos rfl, etd]
      have v1 : vN m w t a b d lt inp lf k 1 = 0 := by unfold vN valN; rw [if_neg w0, if_pos w1, if_neg (by decide)]
      have v2 : vN m w t a b d lt inp lf k 2 = 0 := by unfold vN valN; rw [if_neg w0, if_pos w1, if_neg (by decide)]
      rw [ed, mod10 N _ h1 (by omega), md_nI (by omega) h1 (by omega), ← v0]
      simp only [Option.bind_some]
      rw [show nI (3 * tnN t k) + 1 = nI (3 * tnN t k + 1) from nI_1 _, show nI (3 * tnN t k) + 2 = nI (3 * tnN t k + 2) from nI_add _ 2, if_pos (g480 bt), if_pos (g48 bt (by decide)), if_pos (g48 bt (by decide)), nI_clamp (show 3 * tnN t k < 2 ^ 31 by omega), nI_clamp (show 3 * tnN t k + 1 < 2 ^ 31 by omega), nI_clamp (show 3 * tnN t k + 2 < 2 ^ 31 by omega)]
      have e2 := r489_eq N hN (n := n) (m := m) (row := row) (hd := hd) rc ly w t a b d inputs li lh lb dr hk16 bt n5 (f_X10_run_14 N (nI n) (nI m) rc w t a b d inputs li lh lb dr (nI row) ly (nI hd) f) e (nI (lsN m w t a b d lt inp lf hd k).length) (set3 P (tnN t k) (nI (vN m w t a b d lt inp lf k 0)) (nI (vN m w t a b d lt inp lf k 1)) (nI (vN m w t a b d lt inp lf k 2))) ip sn sh T (nI (posN w k)) (nI (cntW w 0 k))
      rw [set3_0, set3_1, set3_2] at e2
      have hsq : sqN m w t a b d lt inp lf hd k = [] := by unfold sqN; rw [if_neg w0, if_neg n4, if_neg n5]
      have hls : lsN m w t a b d lt inp lf hd (k + 1) = lsN m w t a b d lt inp lf hd k := by rw [hlsq, hsq, List.append_nil]
      obtain ⟨P2, ip2, sn2, sh2, T2, g1, g2, g3⟩ := tail e _ _ sn sh T _ (posN w k) (cntW w 0 k) hls.symm (by omega) (by omega) (Or.inl (hk2 n5)) (agS_s hok m lt inp lf (hk2 n5) ha) (set3_ip hip rfl rfl rfl) hv
      refine ⟨P2, ip2, sn2, sh2, T2, g1, g2, ?_⟩
      rw [v1, v2] at e2
      rw [v1, v2] at g3
      exact Eq.trans e2 g3
    rw [if_neg w1]
    have two : (w k = 2 ∨ w k = 3) → ∃ P2 ip2 sn2 sh2 T2, (∀ i, i < n → ∀ h, h < 3 → ip2 (3 * i + h) = nI (vN m w t a b d lt inp lf i h)) ∧ vA (lsN m w t a b d lt inp lf hd n) sn2 ∧
        f_X10_run_280 N (nI n) (nI m) rc w t a b d inputs li lh lb dr (nI row) ly (nI hd) (f_X10_run_14 N (nI n) (nI m) rc w t a b d inputs li lh lb dr (nI row) ly (nI hd) f) N e (nI (lsN m w t a b d lt inp lf hd k).length) P ip sn sh T (nI (posN w k)) (nI (cntW w 0 k)) (nI k) (nI (3 * tnN t k)) ((3 : Int32) * a k) ((3 : Int32) * b k) 0 = some (nI ((vN m w t a b d lt inp lf (n - 1) 0 + vN m w t a b d lt inp lf (n - 1) 1 + vN m w t a b d lt inp lf (n - 1) 2) % m), nI (lsN m w t a b d lt inp lf hd n).length, P2, ip2, sn2, sh2, T2) := by
      intro w23
      have n4 : ¬ w k = 4 := fun e => by
        rcases w23 with q | q
        · exact absurd (q.symm.trans e) (by decide)
        · exact absurd (q.symm.trans e) (by decide)
      have n5 : ¬ w k = 5 := fun e => by
        rcases w23 with q | q
        · exact absurd (q.symm.trans e) (by decide)
        · exact absurd (q.symm.trans e) (by decide)
      rw [if_neg n4] at mk4 npos
      obtain ⟨ua, ub⟩ := hab (by
        rcases w23 with q | q
        · exact Or.inl q
        · exact Or.inr (Or.inl q))
      obtain ⟨ba, ea, na, fa⟩ := agS_use hok h1 h2 lt inp lf hkn ha ua
      obtain ⟨bb, eb, nb, fb⟩ := agS_use hok h1 h2 lt inp lf hkn ha ub
      rw [show (3 : Int32) * a k = nI (3 * (a k).toNatClampNeg) by rw [Int32.mul_comm]; exact c3_mul _ _ ea, show (3 : Int32) * b k = nI (3 * (b k).toNatClampNeg) by rw [Int32.mul_comm]; exact c3_mul _ _ eb]
      have e1 := r280_eq N hN (n := n) (row := row) (hd := hd) rc ly w t a b d inputs li lh lb dr hk16 h1 h2 bt ba bb (na (hk2 n5)) (nb (hk2 n5)) (f_X10_run_14 N (nI n) (nI m) rc w t a b d inputs li lh lb dr (nI row) ly (nI hd) f) e (nI (lsN m w t a b d lt inp lf hd k).length) P ip sn sh T (nI (posN w k)) (nI (cntW w 0 k)) _ _ (vN m w t a b d lt inp lf k) fa fb (by
        intro h hh
        rcases w23 with q | q
        · refine Or.inl ⟨q, ?_⟩
          unfold vN valN
          rw [if_neg w0, if_neg w1, if_pos q]
          rfl
        · refine Or.inr ⟨q, ?_⟩
          unfold vN valN
          rw [if_neg w0, if_neg w1, if_neg (fun z => absurd (q.symm.trans z) (by decide)), if_pos q]
          rfl)
      have e2 := e1.trans (r489_eq N hN rc ly w t a b d inputs li lh lb dr hk16 bt n5 (f_X10_run_14 N (nI n) (nI m) rc w t a b d inputs li lh lb dr (nI row) ly (nI hd) f) e _ _ _ _ _ _ _ _)
      rw [set3_0, set3_1, set3_2] at e2
      have hsq : sqN m w t a b d lt inp lf hd k = [] := by unfold sqN; rw [if_neg w0, if_neg n4, if_neg n5]
      have hls : lsN m w t a b d lt inp lf hd (k + 1) = lsN m w t a b d lt inp lf hd k := by rw [hlsq, hsq, List.append_nil]
      obtain ⟨P2, ip2, sn2, sh2, T2, g1, g2, g3⟩ := tail e _ _ sn sh T _ (posN w k) (cntW w 0 k) hls.symm (by omega) (by omega) (Or.inl (hk2 n5)) (agS_s hok m lt inp lf (hk2 n5) ha) (set3_ip hip rfl rfl rfl) hv
      exact ⟨P2, ip2, sn2, sh2, T2, g1, g2, Eq.trans e2 g3⟩
    by_cases w2 : w k = 2
    · rw [if_pos w2]
      exact two (Or.inl w2)
    rw [if_neg w2]
    by_cases w3 : w k = 3
    · rw [if_pos w3]
      exact two (Or.inr w3)
    rw [if_neg w3]
    by_cases w4 : w k = 4
    · have n5 : ¬ w k = 5 := fun e => absurd (w4.symm.trans e) (by decide)
      rw [if_pos w4]
      rw [if_pos w4] at mk4 npos
      obtain ⟨ua, ub⟩ := hab (Or.inr (Or.inr w4))
      obtain ⟨ba, ea, na, fa⟩ := agS_use hok h1 h2 lt inp lf hkn ha ua
      obtain ⟨bb, eb, nb, fb⟩ := agS_use hok h1 h2 lt inp lf hkn ha ub
      have hp40 : posN w k + 8 ≤ 40 := by unfold posN; omega
      have hpq : posN w k + 8 ≤ posN w n := by unfold posN; omega
      obtain ⟨sn1, sh1, T1, hv1, e1⟩ := rmul_eq N hN h1 h2 hk16 hhd dr lt hlt hpq hp40 rc ly t a b li lh lb et bt ea eb ba bb P (fun h => prtN m w t a b d lt inp lf k (3 * tnN a k + h)) (fun h => prtN m w t a b d lt inp lf k (3 * tnN b k + h)) (lf k) fa fb (fun h hh => hlie k h hkn hh) hv (by omega) sh T _ rfl
      rw [e1]
      simp only [Option.bind_some]
      have vv : ∀ h, mvN m (sxN m (fun h => prtN m w t a b d lt inp lf k (3 * tnN a k + h)) (lf k) (trp m lt (posN w k))) (syN m (fun h => prtN m w t a b d lt inp lf k (3 * tnN b k + h)) (trp m lt (posN w k))) (trp m lt (posN w k)) h = vN m w t a b d lt inp lf k h := by
        intro h
        unfold vN valN
        rw [if_neg w0, if_neg w1, if_neg w2, if_neg w3, if_pos w4]
      rw [vv 0, vv 1, vv 2, show nI (posN w k) + 8 = nI (posN w k + 8) from nI_add _ 8]
      have e2 := r489_eq N hN (n := n) (m := m) (row := row) (hd := hd) rc ly w t a b d inputs li lh lb dr hk16 bt n5 (f_X10_run_14 N (nI n) (nI m) rc w t a b d inputs li lh lb dr (nI row) ly (nI hd) f) e (nI (lsN m w t a b d lt inp lf hd (k + 1)).length) (set3 P (tnN t k) (nI (vN m w t a b d lt inp lf k 0)) (nI (vN m w t a b d lt inp lf k 1)) (nI (vN m w t a b d lt inp lf k 2))) ip sn1 sh1 T1 (nI (posN w k + 8)) (nI (cntW w 0 k))
      rw [set3_0, set3_1, set3_2] at e2
      have hls : lsN m w t a b d lt inp lf hd k ++ [trp m lt (posN w k) hd] ++ [trp m lt (posN w k) (hd + 3)] ++ [trp m lt (posN w k) (hd + 6)] ++ [sxN m (fun h => prtN m w t a b d lt inp lf k (3 * tnN a k + h)) (lf k) (trp m lt (posN w k)) 0] ++ [sxN m (fun h => prtN m w t a b d lt inp lf k (3 * tnN a k + h)) (lf k) (trp m lt (posN w k)) 1] ++ [sxN m (fun h => prtN m w t a b d lt inp lf k (3 * tnN a k + h)) (lf k) (trp m lt (posN w k)) 2] ++ [syN m (fun h => prtN m w t a b d lt inp lf k (3 * tnN b k + h)) (trp m lt (posN w k)) 0] ++ [syN m (fun h => prtN m w t a b d lt inp lf k (3 * tnN b k + h)) (trp m lt (posN w k)) 1] ++ [syN m (fun h => prtN m w t a b d lt inp lf k (3 * tnN b k + h)) (trp m lt (posN w k)) 2] = lsN m w t a b d lt inp lf hd (k + 1) := by
        rw [hlsq]
        unfold sqN
        rw [if_neg w0, if_pos w4]
        simp only [List.append_assoc]
      rw [hls] at hv1 ⊢
      obtain ⟨P2, ip2, sn2, sh2, T2, g1, g2, g3⟩ := tail e _ _ sn1 sh1 T1 _ (posN w k + 8) (cntW w 0 k) rfl (by omega) (by omega) (Or.inl (hk2 n5)) (agS_s hok m lt inp lf (hk2 n5) ha) (set3_ip hip rfl rfl rfl) hv1
      exact ⟨P2, ip2, sn2, sh2, T2, g1, g2, Eq.trans e2 g3⟩
    rw [if_neg w4]
    rw [if_neg w4] at mk4 npos
    have w5 : w k = 5 := by
      rw [ew] at w0 w1 w2 w3 w4 ⊢
      match c, hc with
      | 0, _ => exact absurd rfl w0
      | 1, _ => exact absurd rfl w1
      | 2, _ => exact absurd rfl w2
      | 3, _ => exact absurd rfl w3
      | 4, _ => exact absurd rfl w4
      | 5, _ => rfl
    have ekn : k + 1 = n := hw5.mp w5
    have ek1 : n - 1 = k := by omega
    obtain ⟨bt5, et5, _, ft⟩ := agS_use hok h1 h2 lt inp lf hkn ha (h5 w5)
    obtain ⟨sn1, hv1, e1⟩ := r390_eq N hN (n := n) (row := row) (hd := hd) rc ly w t a b d inputs li lh lb dr hk16 h1 h2 bt (fun h => prtN m w t a b d lt inp lf k (3 * tnN t k + h)) (lf k) (fun h hh => hlie k h hkn hh) (f_X10_run_14 N (nI n) (nI m) rc w t a b d inputs li lh lb dr (nI row) ly (nI hd) f) hv (by omega) P ip sh T ft (nI (posN w k)) (nI (cntW w 0 k))
    have vv : ∀ h, ovN m (fun h => prtN m w t a b d lt inp lf k (3 * tnN t k + h)) (lf k) h = vN m w t a b d lt inp lf k h := by
      intro h
      unfold vN valN
      rw [if_neg w0, if_neg w1, if_neg w2, if_neg w3, if_neg w4]
    rw [vv 0, vv 1, vv 2] at hv1 e1
    have hls : lsN m w t a b d lt inp lf hd k ++ [vN m w t a b d lt inp lf k 0] ++ [vN m w t a b d lt inp lf k 1] ++ [vN m w t a b d lt inp lf k 2] = lsN m w t a b d lt inp lf hd (k + 1) := by
      rw [hlsq]
      unfold sqN
      rw [if_neg w0, if_neg w4, if_pos w5]
      simp only [List.append_assoc]
    rw [hls] at hv1 e1
    have e2 := e1.trans (r489_5 N hN rc ly w t a b d inputs li lh lb dr hk16 w5 (f_X10_run_14 N (nI n) (nI m) rc w t a b d inputs li lh lb dr (nI row) ly (nI hd) f) _ _ _ _ _ _ _ _ _ _)
    obtain ⟨P2, ip2, sn2, sh2, T2, g1, g2, g3⟩ := tail (nI ((vN m w t a b d lt inp lf k 0 + vN m w t a b d lt inp lf k 1 + vN m w t a b d lt inp lf k 2) % m)) P _ sn1 sh T _ (posN w k) (cntW w 0 k) rfl (by omega) (by omega) (Or.inr (by rw [ek1])) (fun j2 hj2 hj3 h hh => ha j2 (by omega) hj3 h hh) (set3_ip hip rfl rfl rfl) hv1
    exact ⟨P2, ip2, sn2, sh2, T2, g1, g2, Eq.trans e2 g3⟩
