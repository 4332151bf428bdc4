/-! the class goes through a program -/
def endN (n : Nat) : Nat := if 91 < 6 * n then 91 else 6 * n
theorem c3_mul (x : Int32) (c : Nat) (e : x = nI c) : x * 3 = nI (3 * c) := by
  rw [e, show (3 : Int32) = nI 3 from rfl, nI_mul, Nat.mul_comm]
theorem set3_vN {m : Nat} {w t a b d : Nat → Int32} {lt inp : Nat → Nat} {lf : Nat → Nat → Nat} {k : Nat} {S : Nat → Int32} {v0 v1 v2 : Int32} (e0 : v0 = nI (vN m w t a b d lt inp lf k 0)) (e1 : v1 = nI (vN m w t a b d lt inp lf k 1)) (e2 : v2 = nI (vN m w t a b d lt inp lf k 2)) :
    set3 S (tnN t k) v0 v1 v2 = set3 S (tnN t k) (nI (vN m w t a b d lt inp lf k 0)) (nI (vN m w t a b d lt inp lf k 1)) (nI (vN m w t a b d lt inp lf k 2)) := by rw [e0, e1, e2]
theorem go_loop (N : Nat) (hN : NB ≤ N) {n : Nat} (hn : n ≤ 16) {w t a b d cc : Nat → Int32} (hok : okP n w t a b d) (hcells : ∀ k : Nat, k < n → cc (6 * k) = w k ∧ cc (6 * k + 1) = t k ∧ cc (6 * k + 2) = a k ∧ cc (6 * k + 3) = b k ∧ cc (6 * k + 4) = d k) {m : Nat} (h1 : 1 ≤ m) (h2 : m ≤ 16) (lots lies inputs : Nat → Int32) (lt inp : Nat → Nat) (lf : Nat → Nat → Nat) (hlt : ∀ i, i < 40 → lots i = nI (lt i) ∧ lt i < 16) (hlf : ∀ k h, k < n → h < 3 → lies (3 * k + h) = nI (lf k h) ∧ lf k h < 1000) (row : Nat) (hrow : row < 2) (hinp : ∀ i, i < 4 → inputs (4 * row + i) = nI (inp i) ∧ inp i < 16) (hd : Nat) (hhd : hd < 3) (c0 : cntW w 0 n ≤ 4) (c4 : cntW w 4 n ≤ 4) :
    ∀ (j k fuel : Nat) (S sh sy T va : Nat → Int32), k + j = n → j < fuel → (k < n ∨ ∀ h, h < 3 → sh h = nI (vN m w t a b d lt inp lf (n - 1) h)) → agS m n w t a b d lt inp lf k S → vA (lsN m w t a b d lt inp lf hd k) va →
    ∃ S' sh' sy' T' va', agS m n w t a b d lt inp lf n S' ∧ (∀ h, h < 3 → sh' h = nI (vN m w t a b d lt inp lf (n - 1) h)) ∧ vA (lsN m w t a b d lt inp lf hd n) va' ∧
      f_X4_go__T_T_71 N (nI m) (nI n) cc inputs lots lies (nI hd) (nI row) fuel (nI (lsN m w t a b d lt inp lf hd k).length) (numI m (lsN m w t a b d lt inp lf hd k)) (nI hd) (nI m) (nI (posN w k)) (nI (cntW w 0 k)) S sh sy T va (nI (endN n)) (nI (3 * k)) (nI (6 * k)) = some (nI (lsN m w t a b d lt inp lf hd n).length, numI m (lsN m w t a b d lt inp lf hd n), nI hd, nI m, nI (posN w n), nI (cntW w 0 n), S', sh', sy', T', va') := by
  have hend : endN n ≤ 6 * n ∧ (n ≤ 15 → endN n = 6 * n) ∧ (n = 16 → endN n = 91) := by
    unfold endN
    by_cases q : 91 < 6 * n
    · rw [if_pos q]; omega
    · rw [if_neg q]; omega
  intro j
  induction j with
  | zero =>
    intro k fuel S sh sy T va hk hf hsh ha hv
    obtain ⟨f, rfl⟩ : ∃ f, fuel = f + 1 := ⟨fuel - 1, by omega⟩
    have e : k = n := by omega
    subst e
    rw [u_X4_go__T_T_71]
    unfold s_X4_go__T_T_71
    rw [if_pos (nI_le (by omega) (by omega))]
    exact ⟨S, sh, sy, T, va, ha, hsh.resolve_left (by omega), hv, rfl⟩
  | succ j ih =>
    intro k fuel S sh sy T va hk hf _ ha hv
    obtain ⟨f, rfl⟩ : ∃ f, fuel = f + 1 := ⟨fuel - 1, by omega⟩
    have hkn : k < n := by omega
    obtain ⟨q0, q1, q2, q3, q4⟩ := hcells k hkn
    obtain ⟨⟨c, hc, ew⟩, hw5, _, hd0, hd1, hab, h5, _⟩ := hok k hkn
    obtain ⟨et, bt⟩ := tn_eq hok hkn
    have hllen := ls_len hok m lt inp lf hd k (by omega)
    rw [if_neg (show ¬ k = n by omega)] at hllen
    have hllen2 := ls_len hok m lt inp lf hd (k + 1) (by omega)
    have mc0 := cnt_mono w 0 n (k + 1) (by omega)
    have mc4 := cnt_mono w 4 n (k + 1) (by omega)
    have mk0 := cntW_s w 0 k
    have mk4 := cntW_s w 4 k
    rw [u_X4_go__T_T_71]
    unfold s_X4_go__T_T_71
    rw [if_neg (nI_ge (show 6 * k < endN n by omega) (by omega))]
    rw [show (4 : Int32) = nI 4 from rfl, show (3 : Int32) = nI 3 from rfl, show (2 : Int32) = nI 2 from rfl, show (1 : Int32) = nI 1 from rfl, show (6 : Int32) = nI 6 from rfl]
    simp only [nI_add, Int32.add_zero, gin_nI (show 6 * k < 96 by omega) (show 96 < 2 ^ 31 by decide), gin_nI (show 6 * k + 1 < 96 by omega) (show 96 < 2 ^ 31 by decide), gin_nI (show 6 * k + 2 < 96 by omega) (show 96 < 2 ^ 31 by decide), gin_nI (show 6 * k + 3 < 96 by omega) (show 96 < 2 ^ 31 by decide), gin_nI (show 6 * k + 4 < 96 by omega) (show 96 < 2 ^ 31 by decide), if_true, nI_clamp (show 6 * k < 2 ^ 31 by omega), nI_clamp (show 6 * k + 1 < 2 ^ 31 by omega), nI_clamp (show 6 * k + 2 < 2 ^ 31 by omega), nI_clamp (show 6 * k + 3 < 2 ^ 31 by omega), nI_clamp (show 6 * k + 4 < 2 ^ 31 by omega), q0, q1, q2, q3, q4]
    rw [show t k * nI 3 = nI (3 * tnN t k) from c3_mul _ _ et]
    have tail : ∀ (S' sh' sy' T' va' : Nat → Int32) (L' : List Nat) (p' c' : Nat), L' = lsN m w t a b d lt inp lf hd (k + 1) → p' = posN w (k + 1) → c' = cntW w 0 (k + 1) → (k + 1 < n ∨ ∀ h, h < 3 → sh' h = nI (vN m w t a b d lt inp lf (n - 1) h)) → agS m n w t a b d lt inp lf (k + 1) S' → vA L' va' →
        ∃ S2 sh2 sy2 T2 va2, agS m n w t a b d lt inp lf n S2 ∧ (∀ h, h < 3 → sh2 h = nI (vN m w t a b d lt inp lf (n - 1) h)) ∧ vA (lsN m w t a b d lt inp lf hd n) va2 ∧
        f_X4_go__T_T_71 N (nI m) (nI n) cc inputs lots lies (nI hd) (nI row) f (nI L'.length) (numI m L') (nI hd) (nI m) (nI p') (nI c') S' sh' sy' T' va' (nI (endN n)) (nI (3 * k + 3)) (nI (6 * k + 6)) = some (nI (lsN m w t a b d lt inp lf hd n).length, numI m (lsN m w t a b d lt inp lf hd n), nI hd, nI m, nI (posN w n), nI (cntW w 0 n), S2, sh2, sy2, T2, va2) := by
      intro S' sh' sy' T' va' L' p' c' eL ep ec hs hag hva
      subst eL ep ec
      exact ih (k + 1) f S' sh' sy' T' va' (by omega) (by omega) hs hag hva
    have hlsq : lsN m w t a b d lt inp lf hd (k + 1) = lsN m w t a b d lt inp lf hd k ++ sqN m w t a b d lt inp lf hd k := rfl
    have hk2 : ¬ w k = 5 → k + 1 < n := fun q => by
      rcases Nat.lt_or_ge (k + 1) n with g | g
      · exact g
      · exact absurd (hw5.mpr (by omega)) q
    have npos : posN w (k + 1) = posN w k + 2 * (if w k = 0 then 1 else 0) + 8 * (if w k = 4 then 1 else 0) := by
      unfold posN
      rw [mk0, mk4]
      omega
    by_cases w0 : w k = 0
    · have w0' : w k = 0 := w0
      have n4 : ¬ w k = 4 := fun e => absurd (w0'.symm.trans e) (by decide)
      have n5 : ¬ w k = 5 := fun e => absurd (w0'.symm.trans e) (by decide)
      rw [if_pos w0]
      rw [if_pos w0'] at mk0 npos
      rw [if_neg n4] at mk4 npos
      have v0 : vN m w t a b d lt inp lf k 0 = lt (posN w k) % m := by unfold vN valN inV; rw [if_pos w0', if_pos rfl]
      have v1 : vN m w t a b d lt inp lf k 1 = lt (posN w k + 1) % m := by unfold vN valN inV; rw [if_pos w0', if_neg (by decide), if_pos rfl]
      have v2 : vN m w t a b d lt inp lf k 2 = sm (inp (cntW w 0 k)) (lt (posN w k) % m + lt (posN w k + 1) % m) m := by unfold vN valN inV; rw [if_pos w0', if_neg (by decide), if_neg (by decide)]
      have hp40 : posN w k + 1 < 40 := by unfold posN; omega
      obtain ⟨el0, bl0⟩ := hlt (posN w k) (by omega)
      obtain ⟨el1, bl1⟩ := hlt (posN w k + 1) hp40
      obtain ⟨ei, bi⟩ := hinp (cntW w 0 k) (by omega)
      have einp : f_X6_inputIn N (nI m) inputs (nI row) (nI (cntW w 0 k)) = some (nI (inp (cntW w 0 k) % m)) := by
        unfold f_X6_inputIn
        rw [show (4 : Int32) = nI 4 from rfl, nI_mul, nI_add, Nat.mul_comm row 4, at_nI N inputs (show 4 * row + cntW w 0 k < 8 by omega) (by decide), ei]
        simp only [Option.bind_some]
        rw [mod9 N _ h1 (by omega), md_nI (by omega) h1 (by omega)]
        rfl
      have bm : inp (cntW w 0 k) % m < 16 := Nat.lt_of_le_of_lt (Nat.mod_le _ _) bi
      have body : ∀ own : Int32, decide (¬ own = 0) = decide (d k = nI hd) → ∃ S2 sh2 sy2 T2 va2, agS m n w t a b d lt inp lf n S2 ∧ (∀ h, h < 3 → sh2 h = nI (vN m w t a b d lt inp lf (n - 1) h)) ∧ vA (lsN m w t a b d lt inp lf hd n) va2 ∧
          f_X4_go__T_T_171 N (nI m) (nI n) cc inputs lots lies (nI hd) (nI row) (f_X4_go__T_T_71 N (nI m) (nI n) cc inputs lots lies (nI hd) (nI row) f) (nI (lsN m w t a b d lt inp lf hd k).length) (numI m (lsN m w t a b d lt inp lf hd k)) (nI hd) (nI m) (nI (posN w k)) (nI (cntW w 0 k)) S sh sy T va (nI (endN n)) (nI (3 * k)) (nI (6 * k)) (nI (3 * tnN t k)) own = some (nI (lsN m w t a b d lt inp lf hd n).length, numI m (lsN m w t a b d lt inp lf hd n), nI hd, nI m, nI (posN w n), nI (cntW w 0 n), S2, sh2, sy2, T2, va2) := by
        intro own hown
        obtain ⟨va1, hv1, e1⟩ := cut_eq N hN h1 h2 bt hhd bm lots hp40 el0 el1 bl0 bl1 own hv (by omega) (nI (cntW w 0 k)) S
        unfold f_X4_go__T_T_171
        rw [einp]
        simp only [Option.bind_some]
        rw [e1]
        simp only [Option.bind_some]
        rw [sm_modl, hown] at hv1 ⊢
        rw [show nI (3 * k) + 3 = nI (3 * k + 3) from nI_add _ 3, show nI (6 * k) + 6 = nI (6 * k + 6) from nI_add _ 6, nI_1, ← v2, ← v0, ← v1]
        rw [← v2, ← v0, ← v1] at hv1
        refine tail _ sh sy T va1 _ _ _ ?_ (by omega) (by omega) (Or.inl (hk2 n5)) (agS_s hok m lt inp lf (hk2 n5) ha) hv1
        rw [hlsq]
        congr 1
        unfold sqN
        rw [if_pos w0', v0, v1, v2]
        unfold inV
        simp
      by_cases od : d k = nI hd
      · rw [if_pos od]; exact body _ (by rw [decide_eq_true od]; decide)
      · rw [if_neg od]; exact body _ (by rw [decide_eq_false od]; decide)
    rw [if_neg w0]
    have w0' : ¬ w k = 0 := w0
    rw [if_neg w0'] at mk0 npos
    by_cases w1 : w k = nI 1
    · have w1' : w k = 1 := w1
      have n4 : ¬ w k = 4 := fun e => absurd (w1'.symm.trans e) (by decide)
      have n5 : ¬ w k = 5 := fun e => absurd (w1'.symm.trans e) (by decide)
      rw [if_pos w1]
      rw [if_neg n4] at mk4 npos
      obtain ⟨dn, hdn, ed⟩ := hd1 w1'
      have etd : tnN d k = dn := by unfold tnN; rw [ed, nI_clamp (by omega)]
      rw [fix_eq N h1 (by omega) bt (d k) S, ed, md_nI (by omega) h1 (by omega)]
      simp only [Option.bind_some]
      have v0 : vN m w t a b d lt inp lf k 0 = dn % m := by unfold vN valN; rw [if_neg w0', if_pos w1', if_pos rfl, etd]
      have v1 : vN m w t a b d lt inp lf k 1 = 0 := by unfold vN valN; rw [if_neg w0', if_pos w1', if_neg (by decide)]
      have v2 : vN m w t a b d lt inp lf k 2 = 0 := by unfold vN valN; rw [if_neg w0', if_pos w1', if_neg (by decide)]
      rw [set3_vN (by rw [v0]) (by rw [v1]; rfl) (by rw [v2]; rfl)]
      refine tail _ sh sy T va _ _ _ ?_ (by omega) (by omega) (Or.inl (hk2 n5)) (agS_s hok m lt inp lf (hk2 n5) ha) hv
      rw [hlsq, show sqN m w t a b d lt inp lf hd k = [] by unfold sqN; rw [if_neg w0', if_neg n4, if_neg n5], List.append_nil]
    rw [if_neg w1]
    have w1' : ¬ w k = 1 := w1
    by_cases w2 : w k = nI 2
    · have w2' : w k = 2 := w2
      have n4 : ¬ w k = 4 := fun e => absurd (w2'.symm.trans e) (by decide)
      have n5 : ¬ w k = 5 := fun e => absurd (w2'.symm.trans e) (by decide)
      rw [if_pos w2]
      rw [if_neg n4] at mk4 npos
      obtain ⟨ua, ub⟩ := hab (Or.inl w2')
      obtain ⟨ba, ea, na, fa⟩ := agS_use hok h1 h2 lt inp lf hkn ha ua
      obtain ⟨bb, eb, nb, fb⟩ := agS_use hok h1 h2 lt inp lf hkn ha ub
      rw [show a k * nI 3 = nI (3 * (a k).toNatClampNeg) from c3_mul _ _ ea, show b k * nI 3 = nI (3 * (b k).toNatClampNeg) from c3_mul _ _ eb, join_eq N hN h1 (by omega) bt ba bb (na (hk2 n5)) (nb (hk2 n5)) _ S]
      simp only [Option.bind_some]
      have vv : ∀ h, h < 3 → md (S (3 * (a k).toNatClampNeg + h) + nI 1 * S (3 * (b k).toNatClampNeg + h)) (nI m) = nI (vN m w t a b d lt inp lf k h) := by
        intro h hh
        rw [(fa h hh).1, (fb h hh).1, nI_mul, Nat.one_mul, nI_add, md_nI (by have := (fa h hh).2; have := (fb h hh).2; omega) h1 (by omega)]
        unfold vN valN
        rw [if_neg w0', if_neg w1', if_pos w2']
        rfl
      rw [set3_vN (show md (S (3 * (a k).toNatClampNeg) + nI 1 * S (3 * (b k).toNatClampNeg)) (nI m) = _ from vv 0 (by decide)) (vv 1 (by decide)) (vv 2 (by decide))]
      refine tail _ sh sy T va _ _ _ ?_ (by omega) (by omega) (Or.inl (hk2 n5)) (agS_s hok m lt inp lf (hk2 n5) ha) hv
      rw [hlsq, show sqN m w t a b d lt inp lf hd k = [] by unfold sqN; rw [if_neg w0', if_neg n4, if_neg n5], List.append_nil]
    rw [if_neg w2]
    have w2' : ¬ w k = 2 := w2
    by_cases w3 : w k = nI 3
    · have w3' : w k = 3 := w3
      have n4 : ¬ w k = 4 := fun e => absurd (w3'.symm.trans e) (by decide)
      have n5 : ¬ w k = 5 := fun e => absurd (w3'.symm.trans e) (by decide)
      rw [if_pos w3]
      rw [if_neg n4] at mk4 npos
      obtain ⟨ua, ub⟩ := hab (Or.inr (Or.inl w3'))
      obtain ⟨ba, ea, na, fa⟩ := agS_use hok h1 h2 lt inp lf hkn ha ua
      obtain ⟨bb, eb, nb, fb⟩ := agS_use hok h1 h2 lt inp lf hkn ha ub
      rw [show a k * nI 3 = nI (3 * (a k).toNatClampNeg) from c3_mul _ _ ea, show b k * nI 3 = nI (3 * (b k).toNatClampNeg) from c3_mul _ _ eb, join_eq N hN h1 (by omega) bt ba bb (na (hk2 n5)) (nb (hk2 n5)) _ S]
      simp only [Option.bind_some]
      have vv : ∀ h, h < 3 → md (S (3 * (a k).toNatClampNeg + h) + (-nI 1) * S (3 * (b k).toNatClampNeg + h)) (nI m) = nI (vN m w t a b d lt inp lf k h) := by
        intro h hh
        have b1 := (fa h hh).2
        have b2 := (fb h hh).2
        rw [(fa h hh).1, (fb h hh).1, Int32.neg_mul, nI_mul, Nat.one_mul, ← Int32.sub_eq_add_neg, md_sub (by omega) (by omega) h1 (by omega)]
        unfold vN valN
        rw [if_neg w0', if_neg w1', if_neg w2', if_pos w3']
        rfl
      rw [set3_vN (show md (S (3 * (a k).toNatClampNeg) + (-nI 1) * S (3 * (b k).toNatClampNeg)) (nI m) = _ from vv 0 (by decide)) (vv 1 (by decide)) (vv 2 (by decide))]
      refine tail _ sh sy T va _ _ _ ?_ (by omega) (by omega) (Or.inl (hk2 n5)) (agS_s hok m lt inp lf (hk2 n5) ha) hv
      rw [hlsq, show sqN m w t a b d lt inp lf hd k = [] by unfold sqN; rw [if_neg w0', if_neg n4, if_neg n5], List.append_nil]
    rw [if_neg w3]
    have w3' : ¬ w k = 3 := w3
    by_cases w4 : w k = nI 4
    · have w4' : w k = 4 := w4
      have n5 : ¬ w k = 5 := fun e => absurd (w4'.symm.trans e) (by decide)
      rw [if_pos w4]
      rw [if_pos w4'] at mk4 npos
      obtain ⟨ua, ub⟩ := hab (Or.inr (Or.inr w4'))
      obtain ⟨ba, ea, na, fa⟩ := agS_use hok h1 h2 lt inp lf hkn ha ua
      obtain ⟨bb, eb, nb, fb⟩ := agS_use hok h1 h2 lt inp lf hkn ha ub
      have hp40 : posN w k + 8 ≤ 40 := by unfold posN; omega
      obtain ⟨T1, hT1, eT⟩ := draw_eq N hN h1 h2 lots lt hlt hp40 T
      rw [show a k * nI 3 = nI (3 * (a k).toNatClampNeg) from c3_mul _ _ ea, show b k * nI 3 = nI (3 * (b k).toNatClampNeg) from c3_mul _ _ eb, eT]
      simp only [Option.bind_some]
      have hT2 : ∀ i, i < 9 → T1 i = nI (trp m lt (posN w k) i) ∧ trp m lt (posN w k) i < 16 := fun i hi => ⟨hT1 i hi, by have := trp_lt m lt (posN w k) i h1; omega⟩
      obtain ⟨va1, hv1, e1⟩ := slt_eq N hN h1 h2 ba bb (show k < 16 by omega) hhd S T1 lies (fun h => prtN m w t a b d lt inp lf k (3 * tnN a k + h)) (fun h => prtN m w t a b d lt inp lf k (3 * tnN b k + h)) (trp m lt (posN w k)) (lf k) fa fb hT2 (fun h hh => hlf k h hkn hh) sh sy hv (by omega)
      rw [e1]
      simp only [Option.bind_some]
      have bsx : ∀ i, sxN m (fun h => prtN m w t a b d lt inp lf k (3 * tnN a k + h)) (lf k) (trp m lt (posN w k)) i < 16 := fun i => Nat.lt_of_lt_of_le (sm_lt _ _ h1) h2
      have bsy : ∀ i, syN m (fun h => prtN m w t a b d lt inp lf k (3 * tnN b k + h)) (trp m lt (posN w k)) i < 16 := fun i => Nat.lt_of_lt_of_le (sm_lt _ _ h1) h2
      rw [mul_eq N hN h1 h2 bt _ _ T1 (sxN m (fun h => prtN m w t a b d lt inp lf k (3 * tnN a k + h)) (lf k) (trp m lt (posN w k))) (syN m (fun h => prtN m w t a b d lt inp lf k (3 * tnN b k + h)) (trp m lt (posN w k))) (trp m lt (posN w k)) hT2 (fun i hi => ⟨by
        match i, hi with
        | 0, _ => rfl
        | 1, _ => rfl
        | 2, _ => rfl, bsx i⟩) (fun i hi => ⟨by
        match i, hi with
        | 0, _ => rfl
        | 1, _ => rfl
        | 2, _ => rfl, bsy i⟩) S]
      simp only [Option.bind_some]
      have vv : ∀ h, mvN m (sxN m (fun h => prtN m w t a b d lt inp lf k (3 * tnN a k + h)) (lf k) (trp m lt (posN w k))) (syN m (fun h => prtN m w t a b d lt inp lf k (3 * tnN b k + h)) (trp m lt (posN w k))) (trp m lt (posN w k)) h = vN m w t a b d lt inp lf k h := by
        intro h
        unfold vN valN
        rw [if_neg w0', if_neg w1', if_neg w2', if_neg w3', if_pos w4']
      rw [vv 0, vv 1, vv 2]
      refine tail _ _ _ T1 va1 _ _ _ ?_ (by omega) (by omega) (Or.inl (hk2 n5)) (agS_s hok m lt inp lf (hk2 n5) ha) hv1
      rw [hlsq]
      unfold sqN
      rw [if_neg w0', if_pos w4']
      simp only [List.append_assoc]
    rw [if_neg w4]
    have w4' : ¬ w k = 4 := w4
    rw [if_neg w4'] at mk4 npos
    have w5 : w k = 5 := by
      rw [ew] at w0' w1' w2' w3' w4' ⊢
      match c, hc with
      | 0, _ => exact absurd rfl w0'
      | 1, _ => exact absurd rfl w1'
      | 2, _ => exact absurd rfl w2'
      | 3, _ => exact absurd rfl w3'
      | 4, _ => exact absurd rfl w4'
      | 5, _ => rfl
    have ekn : k + 1 = n := hw5.mp w5
    have ek1 : n - 1 = k := by omega
    obtain ⟨bt5, et5, _, ft⟩ := agS_use hok h1 h2 lt inp lf hkn ha (h5 w5)
    obtain ⟨va1, hv1, e1⟩ := all_eq N hN h1 h2 bt (show k < 16 by omega) S lies (fun h => prtN m w t a b d lt inp lf k (3 * tnN t k + h)) (lf k) ft (fun h hh => hlf k h hkn hh) sh hv (by omega)
    rw [e1]
    simp only [Option.bind_some]
    have vv : ∀ h, ovN m (fun h => prtN m w t a b d lt inp lf k (3 * tnN t k + h)) (lf k) h = vN m w t a b d lt inp lf k h := by
      intro h
      unfold vN valN
      rw [if_neg w0', if_neg w1', if_neg w2', if_neg w3', if_neg w4']
    rw [vv 0, vv 1, vv 2] at hv1 ⊢
    refine tail S _ sy T va1 _ _ _ ?_ (by omega) (by omega) (Or.inr ?_) ?_ hv1
    · rw [hlsq]
      unfold sqN
      rw [if_neg w0', if_neg w4', if_pos w5]
      simp only [List.append_assoc]
    · intro h hh
      rw [ek1]
      match h, hh with
      | 0, _ => rfl
      | 1, _ => rfl
      | 2, _ => rfl
    · intro j2 hj2 hj3 h hh
      exact ha j2 (by omega) hj3 h hh
