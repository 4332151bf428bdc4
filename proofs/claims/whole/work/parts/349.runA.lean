/-! the reference goes through a program -/
theorem r489_s (N : Nat) {n m row hd k : Nat} (rc ly : Int32) (w t a b d inputs li lh lb dr : Nat → Int32) (hk : k < 16) {ct : Nat} (hct : ct < 16) (n5 : ¬ w k = 5) (r14 : Int32 → Int32 → (Nat → Int32) → (Nat → Int32) → (Nat → Int32) → (Nat → Int32) → (Nat → Int32) → Int32 → Int32 → Int32 → Option O_X10_run) (r : Int32 → Int32 → (Nat → Int32) → (Nat → Int32) → (Nat → Int32) → (Nat → Int32) → (Nat → Int32) → Int32 → Int32 → Int32 → Int32 → Int32 → Option O_X10_run) (e vs : Int32) (P ip sn sh T : Nat → Int32) (y4 y5 : Int32) {j : Nat} (hj : j < 3) :
    s_X10_run_489 N (nI n) (nI m) rc w t a b d inputs li lh lb dr (nI row) ly (nI hd) r14 r e vs P ip sn sh T y4 y5 (nI k) (nI (3 * ct)) (nI j) = r e vs P (upd ip (3 * k + j) (P (3 * ct + j))) sn sh T y4 y5 (nI k) (nI (3 * ct)) (nI (j + 1)) := by
  unfold s_X10_run_489
  rw [if_neg (show ¬ (3 : Int32) ≤ nI j from nI_ge (b := 3) hj (by decide)), if_pos (gin_nI (show k < 32 by omega) (by decide)), nI_clamp (show k < 2 ^ 31 by omega), if_neg n5, show (3 : Int32) = nI 3 from rfl, nI_mul, nI_add, nI_add, if_pos (g48 hct hj), if_pos (g48 hk hj), nI_clamp (by omega), nI_clamp (by omega), nI_1]
theorem r489_eq (N : Nat) (hN : NB ≤ N) {n m row hd k : Nat} (rc ly : Int32) (w t a b d inputs li lh lb dr : Nat → Int32) (hk : k < 16) {ct : Nat} (hct : ct < 16) (n5 : ¬ w k = 5) (r14 : Int32 → Int32 → (Nat → Int32) → (Nat → Int32) → (Nat → Int32) → (Nat → Int32) → (Nat → Int32) → Int32 → Int32 → Int32 → Option O_X10_run) (e vs : Int32) (P ip sn sh T : Nat → Int32) (y4 y5 : Int32) :
    f_X10_run_489 N (nI n) (nI m) rc w t a b d inputs li lh lb dr (nI row) ly (nI hd) r14 N e vs P ip sn sh T y4 y5 (nI k) (nI (3 * ct)) 0 = r14 e vs P (set3 ip k (P (3 * ct)) (P (3 * ct + 1)) (P (3 * ct + 2))) sn sh T y4 y5 (nI (k + 1)) := by
  obtain ⟨f, hf⟩ : ∃ f, N = f + 4 := ⟨N - 4, by unfold NB at hN; omega⟩
  have key : ∀ fuel, f_X10_run_489 N (nI n) (nI m) rc w t a b d inputs li lh lb dr (nI row) ly (nI hd) r14 (fuel + 4) e vs P ip sn sh T y4 y5 (nI k) (nI (3 * ct)) (nI 0) = r14 e vs P (set3 ip k (P (3 * ct)) (P (3 * ct + 1)) (P (3 * ct + 2))) sn sh T y4 y5 (nI (k + 1)) := by
    intro fuel
    rw [u_X10_run_489, r489_s N rc ly w t a b d inputs li lh lb dr hk hct n5 r14 _ e vs P ip sn sh T y4 y5 (by decide), u_X10_run_489, r489_s N rc ly w t a b d inputs li lh lb dr hk hct n5 r14 _ e vs P _ sn sh T y4 y5 (by decide), u_X10_run_489, r489_s N rc ly w t a b d inputs li lh lb dr hk hct n5 r14 _ e vs P _ sn sh T y4 y5 (by decide), u_X10_run_489]
    unfold s_X10_run_489
    rw [if_pos (by decide), nI_1]
    rfl
  have h := key f
  rw [← hf] at h
  exact h
theorem r489_5 (N : Nat) (hN : NB ≤ N) {n m row hd k : Nat} (rc ly : Int32) (w t a b d inputs li lh lb dr : Nat → Int32) (hk : k < 16) (w5 : w k = 5) (r14 : Int32 → Int32 → (Nat → Int32) → (Nat → Int32) → (Nat → Int32) → (Nat → Int32) → (Nat → Int32) → Int32 → Int32 → Int32 → Option O_X10_run) (e vs : Int32) (P ip sn sh T : Nat → Int32) (y4 y5 y7 : Int32) :
    f_X10_run_489 N (nI n) (nI m) rc w t a b d inputs li lh lb dr (nI row) ly (nI hd) r14 N e vs P ip sn sh T y4 y5 (nI k) y7 0 = r14 e vs P ip sn sh T y4 y5 (nI (k + 1)) := by
  obtain ⟨f, hf⟩ : ∃ f, N = f + 1 := ⟨N - 1, by unfold NB at hN; omega⟩
  have key : ∀ fuel, f_X10_run_489 N (nI n) (nI m) rc w t a b d inputs li lh lb dr (nI row) ly (nI hd) r14 (fuel + 1) e vs P ip sn sh T y4 y5 (nI k) y7 0 = r14 e vs P ip sn sh T y4 y5 (nI (k + 1)) := by
    intro fuel
    rw [u_X10_run_489]
    unfold s_X10_run_489
    rw [if_neg (by decide), if_pos (gin_nI (show k < 32 by omega) (by decide)), nI_clamp (show k < 2 ^ 31 by omega), if_pos w5, nI_1]
  have h := key f
  rw [← hf] at h
  exact h
theorem r157_s (N : Nat) {n m row hd k : Nat} (rc ly : Int32) (w t a b d inputs li lh lb dr : Nat → Int32) (hk : k < 16) (hhd : hd < 3) {ct s : Nat} (hct : ct < 16) (r14 : Int32 → Int32 → (Nat → Int32) → (Nat → Int32) → (Nat → Int32) → (Nat → Int32) → (Nat → Int32) → Int32 → Int32 → Int32 → Option O_X10_run) (r : Int32 → Int32 → (Nat → Int32) → (Nat → Int32) → (Nat → Int32) → (Nat → Int32) → (Nat → Int32) → Int32 → Int32 → Int32 → Int32 → Int32 → Option O_X10_run) (e : Int32) {L : List Nat} {sn : Nat → Int32} (hv : vA L sn) (hl : L.length < 80) (P ip sh T : Nat → Int32) (y4 y5 : Int32) {j : Nat} (hj : j < 3) (es : P (3 * ct + j) = nI s) :
    ∃ sn', vA (L ++ opt1 (decide (d k = nI hd) || decide (j = hd)) s) sn' ∧ s_X10_run_157 N (nI n) (nI m) rc w t a b d inputs li lh lb dr (nI row) ly (nI hd) r14 r e (nI L.length) P ip sn sh T y4 y5 (nI k) (nI (3 * ct)) (nI j) = r e (nI (L ++ opt1 (decide (d k = nI hd) || decide (j = hd)) s).length) P ip sn' sh T y4 y5 (nI k) (nI (3 * ct)) (nI (j + 1)) := by
  unfold s_X10_run_157 f_X10_run_180
  rw [if_neg (show ¬ (3 : Int32) ≤ nI j from nI_ge (b := 3) hj (by decide)), if_pos (gin_nI (show k < 32 by omega) (by decide)), nI_clamp (show k < 2 ^ 31 by omega), nI_add, if_pos (g48 hct hj), nI_clamp (by omega), es, see_eq N hl, nI_1]
  simp only [Option.bind_some]
  have ej : nI j = nI hd ↔ j = hd := nI_eq (by omega) (by omega)
  by_cases q : d k = nI hd ∨ j = hd
  · rw [show opt1 (decide (d k = nI hd) || decide (j = hd)) s = [s] by unfold opt1; rw [if_pos (by simpa using q)]]
    refine ⟨_, vA_push hv s, ?_⟩
    by_cases o : d k = nI hd
    · rw [if_pos o]
    · rw [if_neg o, if_pos (ej.mpr (q.resolve_left o))]
  · rw [show opt1 (decide (d k = nI hd) || decide (j = hd)) s = [] by unfold opt1; rw [if_neg (by simpa using q)], List.append_nil]
    refine ⟨sn, hv, ?_⟩
    rw [if_neg (fun h => q (Or.inl h)), if_neg (fun h => q (Or.inr (ej.mp h)))]
theorem r157_eq (N : Nat) (hN : NB ≤ N) {n m row hd k : Nat} (rc ly : Int32) (w t a b d inputs li lh lb dr : Nat → Int32) (hk : k < 16) (hhd : hd < 3) {ct s0 s1 s2 : Nat} (hct : ct < 16) (r14 : Int32 → Int32 → (Nat → Int32) → (Nat → Int32) → (Nat → Int32) → (Nat → Int32) → (Nat → Int32) → Int32 → Int32 → Int32 → Option O_X10_run) (e : Int32) {L : List Nat} {sn : Nat → Int32} (hv : vA L sn) (hl : L.length + 3 ≤ 80) (P ip sh T : Nat → Int32) (y4 y5 : Int32) (e0 : P (3 * ct + 0) = nI s0) (e1 : P (3 * ct + 1) = nI s1) (e2 : P (3 * ct + 2) = nI s2) :
    ∃ sn', vA (L ++ seenIn (decide (d k = nI hd)) hd s0 s1 s2) sn' ∧ f_X10_run_157 N (nI n) (nI m) rc w t a b d inputs li lh lb dr (nI row) ly (nI hd) r14 N e (nI L.length) P ip sn sh T y4 y5 (nI k) (nI (3 * ct)) 0 = f_X10_run_489 N (nI n) (nI m) rc w t a b d inputs li lh lb dr (nI row) ly (nI hd) r14 N e (nI (L ++ seenIn (decide (d k = nI hd)) hd s0 s1 s2).length) P ip sn' sh T y4 y5 (nI k) (nI (3 * ct)) 0 := by
  obtain ⟨f, hf⟩ : ∃ f, N = f + 4 := ⟨N - 4, by unfold NB at hN; omega⟩
  have q0 := opt1_len (decide (d k = nI hd) || decide (0 = hd)) s0
  have q1 := opt1_len (decide (d k = nI hd) || decide (1 = hd)) s1
  have key : ∀ fuel, ∃ sn', vA (L ++ seenIn (decide (d k = nI hd)) hd s0 s1 s2) sn' ∧ f_X10_run_157 N (nI n) (nI m) rc w t a b d inputs li lh lb dr (nI row) ly (nI hd) r14 (fuel + 4) e (nI L.length) P ip sn sh T y4 y5 (nI k) (nI (3 * ct)) (nI 0) = f_X10_run_489 N (nI n) (nI m) rc w t a b d inputs li lh lb dr (nI row) ly (nI hd) r14 N e (nI (L ++ seenIn (decide (d k = nI hd)) hd s0 s1 s2).length) P ip sn' sh T y4 y5 (nI k) (nI (3 * ct)) 0 := by
    intro fuel
    obtain ⟨va1, hv1, ev1⟩ := r157_s N (n := n) (m := m) (row := row) rc ly w t a b d inputs li lh lb dr hk hhd hct r14 (f_X10_run_157 N (nI n) (nI m) rc w t a b d inputs li lh lb dr (nI row) ly (nI hd) r14 (fuel + 3)) e hv (by omega) P ip sh T y4 y5 (j := 0) (by decide) e0
    obtain ⟨va2, hv2, ev2⟩ := r157_s N (n := n) (m := m) (row := row) rc ly w t a b d inputs li lh lb dr hk hhd hct r14 (f_X10_run_157 N (nI n) (nI m) rc w t a b d inputs li lh lb dr (nI row) ly (nI hd) r14 (fuel + 2)) e hv1 (by rw [List.length_append]; omega) P ip sh T y4 y5 (j := 1) (by decide) e1
    obtain ⟨va3, hv3, ev3⟩ := r157_s N (n := n) (m := m) (row := row) rc ly w t a b d inputs li lh lb dr hk hhd hct r14 (f_X10_run_157 N (nI n) (nI m) rc w t a b d inputs li lh lb dr (nI row) ly (nI hd) r14 (fuel + 1)) e hv2 (by rw [List.length_append, List.length_append]; omega) P ip sh T y4 y5 (j := 2) (by decide) e2
    have eL : L ++ opt1 (decide (d k = nI hd) || decide (0 = hd)) s0 ++ opt1 (decide (d k = nI hd) || decide (1 = hd)) s1 ++ opt1 (decide (d k = nI hd) || decide (2 = hd)) s2 = L ++ seenIn (decide (d k = nI hd)) hd s0 s1 s2 := by
      unfold seenIn
      rw [List.append_assoc, List.append_assoc, List.append_assoc]
    refine ⟨va3, eL ▸ hv3, ?_⟩
    rw [u_X10_run_157, ev1, u_X10_run_157, ev2, u_X10_run_157, ev3, u_X10_run_157]
    unfold s_X10_run_157
    rw [if_pos (by decide), eL]
  have h := key f
  rw [← hf] at h
  exact h
theorem r280_s (N : Nat) {n m row hd k : Nat} (rc ly : Int32) (w t a b d inputs li lh lb dr : Nat → Int32) (hk : k < 16) (h1 : 1 ≤ m) (h2 : m ≤ 16) {ct ca cb x y v : Nat} (hct : ct < 16) (hca : ca < 16) (hcb : cb < 16) (bx : x < 16) (bY : y < 16) (r14 : Int32 → Int32 → (Nat → Int32) → (Nat → Int32) → (Nat → Int32) → (Nat → Int32) → (Nat → Int32) → Int32 → Int32 → Int32 → Option O_X10_run) (r : Int32 → Int32 → (Nat → Int32) → (Nat → Int32) → (Nat → Int32) → (Nat → Int32) → (Nat → Int32) → Int32 → Int32 → Int32 → Int32 → Int32 → Int32 → Int32 → Option O_X10_run) (e vs : Int32) (P ip sn sh T : Nat → Int32) (y4 y5 : Int32) {j : Nat} (hj : j < 3) (ex : P (3 * ca + j) = nI x) (ey : P (3 * cb + j) = nI y) (hv : (w k = 2 ∧ v = (x + y) % m) ∨ (w k = 3 ∧ v = sm x y m)) :
    s_X10_run_280 N (nI n) (nI m) rc w t a b d inputs li lh lb dr (nI row) ly (nI hd) r14 r e vs P ip sn sh T y4 y5 (nI k) (nI (3 * ct)) (nI (3 * ca)) (nI (3 * cb)) (nI j) = r e vs (upd P (3 * ct + j) (nI v)) ip sn sh T y4 y5 (nI k) (nI (3 * ct)) (nI (3 * ca)) (nI (3 * cb)) (nI (j + 1)) := by
  unfold s_X10_run_280 f_X10_run_341
  rw [if_neg (show ¬ (3 : Int32) ≤ nI j from nI_ge (b := 3) hj (by decide)), nI_add, nI_add, nI_add, if_pos (g48 hca hj), if_pos (gin_nI (show k < 32 by omega) (by decide)), nI_clamp (show k < 2 ^ 31 by omega), if_pos (g48 hcb hj), if_pos (g48 hcb hj), nI_clamp (show 3 * ca + j < 2 ^ 31 by omega), nI_clamp (show 3 * cb + j < 2 ^ 31 by omega), ex, ey, nI_1]
  simp only [g48 hct hj, if_true, nI_clamp (show 3 * ct + j < 2 ^ 31 by omega)]
  rcases hv with ⟨w2, hv⟩ | ⟨w3, hv⟩
  · rw [if_pos w2, nI_add, mod10 N _ h1 (by omega), md_nI (by omega) h1 (by omega), hv]
    rfl
  · rw [if_neg (fun q => absurd (w3.symm.trans q) (by decide)), ← Int32.sub_eq_add_neg, mod10 N _ h1 (by omega), md_sub (by omega) (by omega) h1 (by omega), hv]
    rfl
theorem r280_eq (N : Nat) (hN : NB ≤ N) {n m row hd k : Nat} (rc ly : Int32) (w t a b d inputs li lh lb dr : Nat → Int32) (hk : k < 16) (h1 : 1 ≤ m) (h2 : m ≤ 16) {ct ca cb : Nat} (hct : ct < 16) (hca : ca < 16) (hcb : cb < 16) (na : ca ≠ ct) (nb : cb ≠ ct) (r14 : Int32 → Int32 → (Nat → Int32) → (Nat → Int32) → (Nat → Int32) → (Nat → Int32) → (Nat → Int32) → Int32 → Int32 → Int32 → Option O_X10_run) (e vs : Int32) (P ip sn sh T : Nat → Int32) (y4 y5 : Int32) (x y v : Nat → Nat) (hx : ∀ h, h < 3 → P (3 * ca + h) = nI (x h) ∧ x h < 16) (hy : ∀ h, h < 3 → P (3 * cb + h) = nI (y h) ∧ y h < 16) (hv : ∀ h, h < 3 → (w k = 2 ∧ v h = (x h + y h) % m) ∨ (w k = 3 ∧ v h = sm (x h) (y h) m)) :
    f_X10_run_280 N (nI n) (nI m) rc w t a b d inputs li lh lb dr (nI row) ly (nI hd) r14 N e vs P ip sn sh T y4 y5 (nI k) (nI (3 * ct)) (nI (3 * ca)) (nI (3 * cb)) 0 = f_X10_run_489 N (nI n) (nI m) rc w t a b d inputs li lh lb dr (nI row) ly (nI hd) r14 N e vs (set3 P ct (nI (v 0)) (nI (v 1)) (nI (v 2))) ip sn sh T y4 y5 (nI k) (nI (3 * ct)) 0 := by
  obtain ⟨f, hf⟩ : ∃ f, N = f + 4 := ⟨N - 4, by unfold NB at hN; omega⟩
  have key : ∀ fuel, f_X10_run_280 N (nI n) (nI m) rc w t a b d inputs li lh lb dr (nI row) ly (nI hd) r14 (fuel + 4) e vs P ip sn sh T y4 y5 (nI k) (nI (3 * ct)) (nI (3 * ca)) (nI (3 * cb)) (nI 0) = f_X10_run_489 N (nI n) (nI m) rc w t a b d inputs li lh lb dr (nI row) ly (nI hd) r14 N e vs (set3 P ct (nI (v 0)) (nI (v 1)) (nI (v 2))) ip sn sh T y4 y5 (nI k) (nI (3 * ct)) 0 := by
    intro fuel
    rw [u_X10_run_280, r280_s N rc ly w t a b d inputs li lh lb dr hk h1 h2 hct hca hcb (hx 0 (by decide)).2 (hy 0 (by decide)).2 r14 _ e vs P ip sn sh T y4 y5 (by decide) (hx 0 (by decide)).1 (hy 0 (by decide)).1 (hv 0 (by decide)), u_X10_run_280, r280_s N rc ly w t a b d inputs li lh lb dr hk h1 h2 hct hca hcb (hx 1 (by decide)).2 (hy 1 (by decide)).2 r14 _ e vs _ ip sn sh T y4 y5 (by decide) (by rw [pk_un (by omega)]; exact (hx 1 (by decide)).1) (by rw [pk_un (by omega)]; exact (hy 1 (by decide)).1) (hv 1 (by decide)), u_X10_run_280, r280_s N rc ly w t a b d inputs li lh lb dr hk h1 h2 hct hca hcb (hx 2 (by decide)).2 (hy 2 (by decide)).2 r14 _ e vs _ ip sn sh T y4 y5 (by decide) (by rw [pk_un (by omega), pk_un (by omega)]; exact (hx 2 (by decide)).1) (by rw [pk_un (by omega), pk_un (by omega)]; exact (hy 2 (by decide)).1) (hv 2 (by decide)), u_X10_run_280]
    unfold s_X10_run_280
    rw [if_pos (by decide)]
    rfl
  have h := key f
  rw [← hf] at h
  exact h
theorem r390_s (N : Nat) {n m row hd k : Nat} (rc ly : Int32) (w t a b d inputs li lh lb dr : Nat → Int32) (hk : k < 16) (h1 : 1 ≤ m) (h2 : m ≤ 16) {ct E : Nat} (hct : ct < 16) (hE : E < 16) (x lf : Nat → Nat) (hlie : ∀ h, h < 3 → lf h < 1000 ∧ (ly = 0 ∧ lf h = 0 ∨ ¬ ly = 0 ∧ f_X10_lieOf N rc li lh lb (nI k) (nI h) = some (nI (lf h)))) (r14 : Int32 → Int32 → (Nat → Int32) → (Nat → Int32) → (Nat → Int32) → (Nat → Int32) → (Nat → Int32) → Int32 → Int32 → Int32 → Option O_X10_run) (r : Int32 → Int32 → (Nat → Int32) → (Nat → Int32) → (Nat → Int32) → (Nat → Int32) → (Nat → Int32) → Int32 → Int32 → Int32 → Int32 → Int32 → Option O_X10_run) {L : List Nat} (sn : Nat → Int32) (hl : L.length < 80) (P ip sh T : Nat → Int32) (hx : ∀ h, h < 3 → P (3 * ct + h) = nI (x h) ∧ x h < 16) (y4 y5 : Int32) {j : Nat} (hj : j < 3) :
    s_X10_run_390 N (nI n) (nI m) rc w t a b d inputs li lh lb dr (nI row) ly (nI hd) r14 r (nI E) (nI L.length) P ip sn sh T y4 y5 (nI k) (nI (3 * ct)) (nI j) = r (nI ((E + ovN m x lf j) % m)) (nI (L ++ [ovN m x lf j]).length) P (upd ip (3 * k + j) (nI (ovN m x lf j))) (upd sn L.length (nI (ovN m x lf j))) sh T y4 y5 (nI k) (nI (3 * ct)) (nI (j + 1)) := by
  obtain ⟨ex, bx⟩ := hx j hj
  obtain ⟨bl, hl2⟩ := hlie j hj
  have bo : ovN m x lf j < 16 := Nat.lt_of_lt_of_le (Nat.mod_lt _ (by omega)) h2
  have body : f_X10_run_434 N (nI n) (nI m) rc w t a b d inputs li lh lb dr (nI row) ly (nI hd) r14 r (nI E) (nI L.length) P ip sn sh T y4 y5 (nI k) (nI (3 * ct)) (nI j) (nI (3 * k + j)) (nI (x j)) (nI (lf j)) = r (nI ((E + ovN m x lf j) % m)) (nI (L ++ [ovN m x lf j]).length) P (upd ip (3 * k + j) (nI (ovN m x lf j))) (upd sn L.length (nI (ovN m x lf j))) sh T y4 y5 (nI k) (nI (3 * ct)) (nI (j + 1)) := by
    unfold f_X10_run_434
    rw [nI_add, mod10 N _ h1 (by omega), md_nI (by omega) h1 (by omega)]
    simp only [Option.bind_some]
    rw [if_pos (g48 hk hj), show (3 : Int32) * nI k + nI j = nI (3 * k + j) by rw [show (3 : Int32) = nI 3 from rfl, nI_mul, nI_add], if_pos (g48 hk hj)]
    simp only [g48 hk hj, if_true, nI_clamp (show 3 * k + j < 2 ^ 31 by omega)]
    rw [pk_us]
    show (f_X10_mod N (nI m) (nI E + nI (ovN m x lf j))).bind _ = _
    rw [nI_add, mod10 N _ h1 (by omega), md_nI (by omega) h1 (by omega)]
    simp only [Option.bind_some]
    show (f_X10_see N (nI (ovN m x lf j)) (nI L.length) sn).bind _ = _
    rw [see_eq N hl]
    simp only [Option.bind_some]
    rw [nI_1]
    rfl
  unfold s_X10_run_390
  rw [if_neg (show ¬ (3 : Int32) ≤ nI j from nI_ge (b := 3) hj (by decide)), show (3 : Int32) * nI k + nI j = nI (3 * k + j) by rw [show (3 : Int32) = nI 3 from rfl, nI_mul, nI_add], nI_add, if_pos (g48 hct hj), nI_clamp (by omega), ex]
  rcases hl2 with ⟨z, zl⟩ | ⟨z, zl⟩
  · rw [if_pos z]
    rw [zl] at body
    exact body
  · rw [if_neg z, zl]
    exact body
theorem r390_eq (N : Nat) (hN : NB ≤ N) {n m row hd k : Nat} (rc ly : Int32) (w t a b d inputs li lh lb dr : Nat → Int32) (hk : k < 16) (h1 : 1 ≤ m) (h2 : m ≤ 16) {ct : Nat} (hct : ct < 16) (x lf : Nat → Nat) (hlie : ∀ h, h < 3 → lf h < 1000 ∧ (ly = 0 ∧ lf h = 0 ∨ ¬ ly = 0 ∧ f_X10_lieOf N rc li lh lb (nI k) (nI h) = some (nI (lf h)))) (r14 : Int32 → Int32 → (Nat → Int32) → (Nat → Int32) → (Nat → Int32) → (Nat → Int32) → (Nat → Int32) → Int32 → Int32 → Int32 → Option O_X10_run) {L : List Nat} {sn : Nat → Int32} (hv : vA L sn) (hl : L.length + 3 ≤ 80) (P ip sh T : Nat → Int32) (hx : ∀ h, h < 3 → P (3 * ct + h) = nI (x h) ∧ x h < 16) (y4 y5 : Int32) :
    ∃ sn', vA (L ++ [ovN m x lf 0] ++ [ovN m x lf 1] ++ [ovN m x lf 2]) sn' ∧ f_X10_run_390 N (nI n) (nI m) rc w t a b d inputs li lh lb dr (nI row) ly (nI hd) r14 N 0 (nI L.length) P ip sn sh T y4 y5 (nI k) (nI (3 * ct)) 0 = f_X10_run_489 N (nI n) (nI m) rc w t a b d inputs li lh lb dr (nI row) ly (nI hd) r14 N (nI ((ovN m x lf 0 + ovN m x lf 1 + ovN m x lf 2) % m)) (nI (L ++ [ovN m x lf 0] ++ [ovN m x lf 1] ++ [ovN m x lf 2]).length) P (set3 ip k (nI (ovN m x lf 0)) (nI (ovN m x lf 1)) (nI (ovN m x lf 2))) sn' sh T y4 y5 (nI k) (nI (3 * ct)) 0 := by
  obtain ⟨f, hf⟩ : ∃ f, N = f + 4 := ⟨N - 4, by unfold NB at hN; omega⟩
  have v1 := vA_push hv (ovN m x lf 0)
  have v2 := vA_push v1 (ovN m x lf 1)
  have v3 := vA_push v2 (ovN m x lf 2)
  refine ⟨_, v3, ?_⟩
  have le1 : (L ++ [ovN m x lf 0]).length < 80 := by simp; omega
  have le2 : (L ++ [ovN m x lf 0] ++ [ovN m x lf 1]).length < 80 := by simp; omega
  have hmm : ∀ z, z % m < 16 := fun z => Nat.lt_of_lt_of_le (Nat.mod_lt z (by omega)) h2
  have key : ∀ fuel, f_X10_run_390 N (nI n) (nI m) rc w t a b d inputs li lh lb dr (nI row) ly (nI hd) r14 (fuel + 4) (nI 0) (nI L.length) P ip sn sh T y4 y5 (nI k) (nI (3 * ct)) (nI 0) = f_X10_run_489 N (nI n) (nI m) rc w t a b d inputs li lh lb dr (nI row) ly (nI hd) r14 N (nI ((((0 + ovN m x lf 0) % m + ovN m x lf 1) % m + ovN m x lf 2) % m)) (nI (L ++ [ovN m x lf 0] ++ [ovN m x lf 1] ++ [ovN m x lf 2]).length) P (set3 ip k (nI (ovN m x lf 0)) (nI (ovN m x lf 1)) (nI (ovN m x lf 2))) (upd (upd (upd sn L.length (nI (ovN m x lf 0))) (L ++ [ovN m x lf 0]).length (nI (ovN m x lf 1))) (L ++ [ovN m x lf 0] ++ [ovN m x lf 1]).length (nI (ovN m x lf 2))) sh T y4 y5 (nI k) (nI (3 * ct)) 0 := by
    intro fuel
    rw [u_X10_run_390, r390_s N rc ly w t a b d inputs li lh lb dr hk h1 h2 hct (by decide) x lf hlie r14 _ sn (by omega) P ip sh T hx y4 y5 (by decide), u_X10_run_390, r390_s N rc ly w t a b d inputs li lh lb dr hk h1 h2 hct (hmm _) x lf hlie r14 _ _ le1 P _ sh T hx y4 y5 (by decide), u_X10_run_390, r390_s N rc ly w t a b d inputs li lh lb dr hk h1 h2 hct (hmm _) x lf hlie r14 _ _ le2 P _ sh T hx y4 y5 (by decide), u_X10_run_390]
    unfold s_X10_run_390
    rw [if_pos (by decide)]
    rfl
  have eD : (((0 + ovN m x lf 0) % m + ovN m x lf 1) % m + ovN m x lf 2) % m = (ovN m x lf 0 + ovN m x lf 1 + ovN m x lf 2) % m := by simp [Nat.add_mod]
  have h := key f
  rw [← hf, eD] at h
  exact h
