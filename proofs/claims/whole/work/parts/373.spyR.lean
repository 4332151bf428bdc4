/-! the reference's rows -/
theorem take_s {L : List Nat} {k : Nat} (h : k < L.length) : L.take (k + 1) = L.take k ++ [L.getD k 0] := by
  rw [List.take_succ, List.getElem?_eq_getElem h, List.getD_eq_getElem?_getD, List.getElem?_eq_getElem h]
  rfl
theorem getD_lt {L : List Nat} {m : Nat} (h1 : 1 ≤ m) (h : ∀ x ∈ L, x < m) (k : Nat) : L.getD k 0 < m := by
  rw [List.getD_eq_getElem?_getD]
  rcases Nat.lt_or_ge k L.length with z | z
  · rw [List.getElem?_eq_getElem z]
    exact h _ (List.getElem_mem z)
  · rw [List.getElem?_eq_none z]
    exact h1
theorem fr71_loop (N : Nat) {n m row hd many : Nat} (h1 : 1 ≤ m) (h2 : m ≤ 16) (rc : Int32) (w t a b d rin li lh lb : Nat → Int32) (r9 : Int32 → Int32 → (Nat → Int32) → (Nat → Int32) → (Nat → Int32) → (Nat → Int32) → (Nat → Int32) → (Nat → Int32) → (Nat → Int64) → Int32 → Int32 → Option O_X10_findRows) (e : Int32) (P ip dr sn sh T : Nat → Int32) (r : Nat → Int64) (y4 y5 : Int32) {L : List Nat} (hv : vA L sn) (hl : L.length ≤ 51) (hL : ∀ x ∈ L, x < m) : ∀ (j k fuel : Nat), k + j = L.length → j < fuel →
    f_X10_findRows_71 N (nI n) (nI m) rc w t a b d rin li lh lb (nI row) (nI hd) (nI many) r9 fuel e (nI L.length) P ip dr sn sh T r y4 y5 (lI (numN m (L.take k))) (nI k) = f_X10_findRows_105 N (nI n) (nI m) rc w t a b d rin li lh lb (nI row) (nI hd) (nI many) r9 e (nI L.length) P ip dr sn sh T r y4 y5 (lI (numN m L)) := by
  intro j
  induction j with
  | zero =>
    intro k fuel hk hf
    obtain ⟨f, rfl⟩ : ∃ f, fuel = f + 1 := ⟨fuel - 1, by omega⟩
    have e : k = L.length := by omega
    subst e
    rw [u_X10_findRows_71]
    unfold s_X10_findRows_71
    rw [if_pos (Int32.le_refl _), List.take_length]
  | succ j ih =>
    intro k fuel hk hf
    obtain ⟨f, rfl⟩ : ∃ f, fuel = f + 1 := ⟨fuel - 1, by omega⟩
    have hg := getD_lt h1 hL k
    rw [u_X10_findRows_71]
    unfold s_X10_findRows_71
    rw [if_neg (nI_ge (show k < L.length by omega) (by omega)), if_pos (gin_nI (show k < 80 by omega) (by decide)), nI_clamp (by omega), hv k (by omega), nI_long (show m < 2 ^ 31 by omega), nI_long (show L.getD k 0 < 2 ^ 31 by omega), lI_mul, lI_add, ← numN_push, ← take_s (show k < L.length by omega), nI_1]
    exact ih (k + 1) f (by omega) (by omega)
theorem fr22_loop (N : Nat) {n m row hd many p way : Nat} (h1 : 1 ≤ m) (h2 : m ≤ 16) (hp : p ≤ 40) (hw : way < 4096) (rc : Int32) (w t a b d rin li lh lb : Nat → Int32) (r9 : Int32 → Int32 → (Nat → Int32) → (Nat → Int32) → (Nat → Int32) → (Nat → Int32) → (Nat → Int32) → (Nat → Int32) → (Nat → Int64) → Int32 → Int32 → Option O_X10_findRows) (e vs : Int32) (P ip sn sh T : Nat → Int32) (r : Nat → Int64) (y5 : Int32) : ∀ (j k fuel : Nat) (dr : Nat → Int32), k + j = p → j < fuel → (∀ i, i < k → dr i = nI (dgN m way i)) →
    ∃ dr' : Nat → Int32, (∀ i, i < p → dr' i = nI (dgN m way i)) ∧ f_X10_findRows_22 N (nI n) (nI m) rc w t a b d rin li lh lb (nI row) (nI hd) (nI many) r9 fuel e vs P ip dr sn sh T r (nI p) y5 (nI (way / m ^ k)) (nI k) = f_X10_findRows_58 N (nI n) (nI m) rc w t a b d rin li lh lb (nI row) (nI hd) (nI many) r9 e vs P ip dr' sn sh T r (nI p) y5 := by
  intro j
  induction j with
  | zero =>
    intro k fuel dr hk hf h
    obtain ⟨f, rfl⟩ : ∃ f, fuel = f + 1 := ⟨fuel - 1, by omega⟩
    have e : k = p := by omega
    subst e
    refine ⟨dr, h, ?_⟩
    rw [u_X10_findRows_22]
    unfold s_X10_findRows_22
    rw [if_pos (Int32.le_refl _)]
  | succ j ih =>
    intro k fuel dr hk hf h
    obtain ⟨f, rfl⟩ : ∃ f, fuel = f + 1 := ⟨fuel - 1, by omega⟩
    have hle : way / m ^ k ≤ way := Nat.div_le_self _ _
    have m0 : ¬ nI m = 0 := nI_ne0 (by omega) (by omega)
    rw [u_X10_findRows_22]
    unfold s_X10_findRows_22
    rw [if_neg (nI_ge (show k < p by omega) (by omega)), if_neg m0, if_pos (gin_nI (show k < 40 by omega) (by decide)), if_neg m0, nI_clamp (by omega), pk_rem (by omega) (by omega) (by omega), pk_div (by omega) (by omega) (by omega), nI_1, Nat.div_div_eq_div_mul, ← Nat.pow_succ]
    refine ih (k + 1) f _ (by omega) (by omega) ?_
    intro i hi
    by_cases z : i = k
    · rw [z, pk_us]; rfl
    · rw [pk_un z]; exact h i (by omega)
theorem fr9_loop (N : Nat) (hN : NB ≤ N) {n : Nat} (hn1 : 1 ≤ n) (hn : n ≤ 16) {w t a b d : Nat → Int32} (hok : okP n w t a b d) {m : Nat} (h1 : 2 ≤ m) (h2 : m ≤ 16) (rc : Int32) (rin li lh lb : Nat → Int32) (inp : Nat → Nat) (row : Nat) (hrow : row < 2) (hinp : ∀ i, i < 4 → rin (4 * row + i) = nI (inp i) ∧ inp i < 16) (hd : Nat) (hhd : hd < 3) (c0 : cntW w 0 n ≤ 4) (c4 : cntW w 4 n ≤ 4) {many : Nat} (hmany : many ≤ 4096) : ∀ (j way fuel : Nat) (e vs : Int32) (P ip dr sn sh T : Nat → Int32) (r : Nat → Int64), way + j = many → j < fuel → (∀ u, u < way → r (4096 * row + u) = lI ((kyN m w t a b d inp hd n) u)) →
    ∃ (e' vs' : Int32) (P' ip' dr' sn' sh' T' : Nat → Int32) (r' : Nat → Int64), (∀ u, u < many → r' (4096 * row + u) = lI ((kyN m w t a b d inp hd n) u)) ∧ (∀ u, u < 4096 * row ∨ 4096 * row + many ≤ u → r' u = r u) ∧
      f_X10_findRows_9 N (nI n) (nI m) rc w t a b d rin li lh lb (nI row) (nI hd) (nI many) fuel e vs P ip dr sn sh T r (nI (posN w n)) (nI way) = f_X10_findRows_126 N (nI n) (nI m) rc w t a b d rin li lh lb (nI row) (nI hd) (nI many) e' vs' P' ip' dr' sn' sh' T' r' := by
  intro j
  induction j with
  | zero =>
    intro way fuel e vs P ip dr sn sh T r hk hf h
    obtain ⟨f, rfl⟩ : ∃ f, fuel = f + 1 := ⟨fuel - 1, by omega⟩
    have ee : way = many := by omega
    subst ee
    refine ⟨e, vs, P, ip, dr, sn, sh, T, r, h, fun u _ => rfl, ?_⟩
    rw [u_X10_findRows_9]
    unfold s_X10_findRows_9
    rw [if_pos (Int32.le_refl _)]
  | succ j ih =>
    intro way fuel e vs P ip dr sn sh T r hk hf h
    obtain ⟨f, rfl⟩ : ∃ f, fuel = f + 1 := ⟨fuel - 1, by omega⟩
    have hp40 : posN w n ≤ 40 := by unfold posN; omega
    rw [u_X10_findRows_9]
    unfold s_X10_findRows_9
    rw [if_neg (nI_ge (show way < many by omega) (by omega))]
    obtain ⟨dr1, hdr, e1⟩ := fr22_loop N (n := n) (row := row) (hd := hd) (many := many) (way := way) (show 1 ≤ m by omega) h2 hp40 (by omega) rc w t a b d rin li lh lb (f_X10_findRows_9 N (nI n) (nI m) rc w t a b d rin li lh lb (nI row) (nI hd) (nI many) f) e vs P ip sn sh T r (nI way) (posN w n) 0 N dr (by omega) (by unfold NB at hN; omega) (fun i hi => absurd hi (Nat.not_lt_zero i))
    rw [Nat.pow_zero, Nat.div_one] at e1
    obtain ⟨P2, ip2, sn2, sh2, T2, _, q2, q3⟩ := runT N hN hn1 hn hok (show 1 ≤ m by omega) h2 rc 0 dr1 rin li lh lb (dgN m way) inp (fun _ _ => 0) (fun i hi => ⟨hdr i hi, dgN_lt (by omega) h2 way i⟩) (fun k h _ _ => ⟨by decide, Or.inl ⟨rfl, rfl⟩⟩) row hrow hinp hd hhd c0 c4 e vs P ip sn sh T
    have hll := ls_len hok m (dgN m way) inp (fun _ _ => 0) hd n (Nat.le_refl n)
    rw [if_pos rfl] at hll
    have e2 := fr71_loop N (n := n) (row := row) (hd := hd) (many := many) (show 1 ≤ m by omega) h2 rc w t a b d rin li lh lb (f_X10_findRows_9 N (nI n) (nI m) rc w t a b d rin li lh lb (nI row) (nI hd) (nI many) f) (nI ((vN m w t a b d (dgN m way) inp (fun _ _ => 0) (n - 1) 0 + vN m w t a b d (dgN m way) inp (fun _ _ => 0) (n - 1) 1 + vN m w t a b d (dgN m way) inp (fun _ _ => 0) (n - 1) 2) % m)) P2 ip2 dr1 sn2 sh2 T2 r (nI (posN w n)) (nI way) q2 (by omega) (ls_lt m w t a b d (dgN m way) inp (fun _ _ => 0) hd (by omega) n) _ 0 N (Nat.zero_add _) (by unfold NB at hN; omega)
    rw [List.take_zero] at e2
    obtain ⟨e', vs', P', ip', dr', sn', sh', T', r', g1, g2, g3⟩ := ih (way + 1) f (nI ((vN m w t a b d (dgN m way) inp (fun _ _ => 0) (n - 1) 0 + vN m w t a b d (dgN m way) inp (fun _ _ => 0) (n - 1) 1 + vN m w t a b d (dgN m way) inp (fun _ _ => 0) (n - 1) 2) % m)) (nI (lsN m w t a b d (dgN m way) inp (fun _ _ => 0) hd n).length) P2 ip2 dr1 sn2 sh2 T2 (vp_updL r (4096 * row + way) (lI ((kyN m w t a b d inp hd n) way))) (by omega) (by omega) (by
      intro u hu
      by_cases z : u = way
      · rw [z, pk_uLs]
      · rw [pk_uLn (by omega)]; exact h u (by omega))
    refine ⟨e', vs', P', ip', dr', sn', sh', T', r', g1, fun u hu => (g2 u hu).trans (pk_uLn (by omega)), ?_⟩
    refine Eq.trans e1 ?_
    unfold f_X10_findRows_58
    rw [q3, Option.bind_some]
    refine Eq.trans e2 ?_
    unfold f_X10_findRows_105
    rw [show (4096 : Int32) * nI row = nI (4096 * row) from nI_mul 4096 row, nI_add, if_pos (gin_nI (show 4096 * row + way < 8192 by omega) (by decide)), nI_clamp (by omega), nI_1]
    exact g3
theorem rows_eq (N : Nat) (hN : NB ≤ N) {n : Nat} (hn1 : 1 ≤ n) (hn : n ≤ 16) {w t a b d : Nat → Int32} (hok : okP n w t a b d) {m : Nat} (h1 : 2 ≤ m) (h2 : m ≤ 16) (rc : Int32) (rin li lh lb : Nat → Int32) (inp : Nat → Nat) (row : Nat) (hrow : row < 2) (hinp : ∀ i, i < 4 → rin (4 * row + i) = nI (inp i) ∧ inp i < 16) (hd : Nat) (hhd : hd < 3) (c0 : cntW w 0 n ≤ 4) (c4 : cntW w 4 n ≤ 4) {many : Nat} (hmany : many ≤ 4096) (hp : m ^ posN w n ≤ 4096) (e vs : Int32) (P ip dr sn sh T : Nat → Int32) (r : Nat → Int64) :
    ∃ (e' vs' : Int32) (P' ip' dr' sn' sh' T' : Nat → Int32) (r' : Nat → Int64) (f : Nat → Nat), (∀ u, u < many → r' (4096 * row + u) = lI (f u)) ∧ (∀ u, u < many → f u < 2 ^ 62) ∧ (∀ u, u < 4096 * row ∨ 4096 * row + many ≤ u → r' u = r u) ∧ (∀ v, cF f v many = cF (kyN m w t a b d inp hd n) v many) ∧ srt f many ∧
      f_X10_findRows N (nI n) (nI m) rc w t a b d rin li lh lb (nI row) (nI hd) (nI many) e vs P ip dr sn sh T r = some (e', vs', P', ip', dr', sn', sh', T', r') := by
  obtain ⟨e', vs', P', ip', dr', sn', sh', T', r', g1, g2, g3⟩ := fr9_loop N hN hn1 hn hok h1 h2 rc rin li lh lb inp row hrow hinp hd hhd c0 c4 hmany many 0 N e vs P ip dr sn sh T r (by omega) (by unfold NB at hN; omega) (fun i hi => absurd hi (Nat.not_lt_zero i))
  obtain ⟨r2, f2, q1, q2, q3, q4, q5, q6⟩ := order_eq N hN (off := 4096 * row) (n := many) (by omega) hmany r' (kyN m w t a b d inp hd n) g1 (fun u hu => by
    have := num_lt hok h1 h2 c0 c4 hp (dgN m u) inp (fun _ _ => 0) hd
    unfold kyN
    omega)
  refine ⟨e', vs', P', ip', dr', sn', sh', T', r2, f2, q1, q2, fun u hu => (q3 u hu).trans (g2 u hu), q4, q5, ?_⟩
  unfold f_X10_findRows
  rw [lotsTaken_eq N hN w n hn, Option.bind_some, show (2 : Int32) * nI (cntW w 0 n) + 8 * nI (cntW w 4 n) = nI (posN w n) by rw [show (2 : Int32) = nI 2 from rfl, show (8 : Int32) = nI 8 from rfl, nI_mul, nI_mul, nI_add]; rfl]
  refine Eq.trans g3 ?_
  unfold f_X10_findRows_126
  rw [show (4096 : Int32) * nI row = nI (4096 * row) from nI_mul 4096 row, q6]
  rfl
theorem spy61_loop (N : Nat) {n m many : Nat} (hmany : many ≤ 4096) (rc : Int32) (w t a b d rin li lh lb : Nat → Int32) (x1 x2 : Int32) (e vs : Int32) (P ip dr sn sh T : Nat → Int32) (r : Nat → Int64) (f0 f1 : Nat → Nat) (hf0 : ∀ u, u < many → r u = lI (f0 u) ∧ f0 u < 2 ^ 62) (hf1 : ∀ u, u < many → r (4096 + u) = lI (f1 u) ∧ f1 u < 2 ^ 62) (hs : srt f0 many) : ∀ (j k fuel : Nat) (q : Bool), k + j = many → j < fuel → (q = true ↔ ∀ i, i < k → f0 i = f1 i) →
    ∃ q' : Bool, (q' = true ↔ ∀ i, i < many → f0 i = f1 i) ∧ f_X10_spy_61 N (nI n) (nI m) rc w t a b d rin li lh lb x1 x2 fuel e vs P ip dr sn sh T r (nI many) (nI (dF f0 k)) (if q = true then 1 else 0) (nI k) = f_X10_spy_142 N (nI n) (nI m) rc w t a b d rin li lh lb x1 x2 e vs P ip dr sn sh T r (nI (dF f0 many)) (if q' = true then 1 else 0) := by
  intro j
  induction j with
  | zero =>
    intro k fuel q hk hf hq
    obtain ⟨f, rfl⟩ : ∃ f, fuel = f + 1 := ⟨fuel - 1, by omega⟩
    have ee : k = many := by omega
    subst ee
    refine ⟨q, hq, ?_⟩
    rw [u_X10_spy_61]
    unfold s_X10_spy_61
    rw [if_pos (Int32.le_refl _)]
  | succ j ih =>
    intro k fuel q hk hf hq
    obtain ⟨f, rfl⟩ : ∃ f, fuel = f + 1 := ⟨fuel - 1, by omega⟩
    have hkm : k < many := by omega
    obtain ⟨a0, b0⟩ := hf0 k hkm
    obtain ⟨a1, b1⟩ := hf1 k hkm
    have step : ∀ t1 : Nat, dF f0 (k + 1) = dF f0 k + t1 → ∃ q' : Bool, (q' = true ↔ ∀ i, i < many → f0 i = f1 i) ∧ f_X10_spy_99 N (nI n) (nI m) rc w t a b d rin li lh lb x1 x2 (f_X10_spy_61 N (nI n) (nI m) rc w t a b d rin li lh lb x1 x2 f) e vs P ip dr sn sh T r (nI many) (if q = true then 1 else 0) (nI k) (nI (dF f0 k)) (nI t1) = f_X10_spy_142 N (nI n) (nI m) rc w t a b d rin li lh lb x1 x2 e vs P ip dr sn sh T r (nI (dF f0 many)) (if q' = true then 1 else 0) := by
      intro t1 ht
      unfold f_X10_spy_99
      rw [nI_add, ← ht, nI_1]
      by_cases z : q = true
      · rw [if_pos z, if_neg (by decide), if_pos (gin_nI (show k < 8192 by omega) (by decide)), show (4096 : Int32) + nI k = nI (4096 + k) from nI_add 4096 k, if_pos (gin_nI (show 4096 + k < 8192 by omega) (by decide)), nI_clamp (by omega), nI_clamp (by omega), a0, a1]
        by_cases c : f0 k = f1 k
        · rw [if_pos ((lI_cmp0 b0 b1).mpr c)]
          refine ih (k + 1) f true (by omega) (by omega) ⟨fun _ i hi => ?_, fun _ => rfl⟩
          by_cases y : i = k
          · rw [y]; exact c
          · exact (hq.mp z) i (by omega)
        · rw [if_neg (fun y => c ((lI_cmp0 b0 b1).mp y))]
          refine ih (k + 1) f false (by omega) (by omega) ⟨fun y => absurd y (by decide), fun y => absurd (y k (by omega)) c⟩
      · rw [if_neg z, if_pos rfl]
        refine ih (k + 1) f false (by omega) (by omega) ⟨fun y => absurd y (by decide), fun y => absurd (hq.mpr (fun i hi => y i (by omega))) z⟩
    rw [u_X10_spy_61]
    unfold s_X10_spy_61
    rw [if_neg (nI_ge hkm (by omega))]
    by_cases k0 : k = 0
    · rw [if_pos (show nI k = 0 by rw [k0]; rfl)]
      exact step 1 (by rw [k0]; rfl)
    · obtain ⟨k1, rfl⟩ : ∃ k1, k = k1 + 1 := ⟨k - 1, by omega⟩
      obtain ⟨a2, b2⟩ := hf0 k1 (by omega)
      rw [if_neg (nI_ne0 (by omega) (by omega)), if_pos (gin_nI (show k1 + 1 < 8192 by omega) (by decide)), show nI (k1 + 1) - 1 = nI k1 from nI_pred k1, if_pos (gin_nI (show k1 < 8192 by omega) (by decide)), nI_clamp (by omega), nI_clamp (by omega), a0, a2]
      by_cases c : f0 (k1 + 1) = f0 k1
      · rw [if_pos ((lI_cmp0 b0 b2).mpr c)]
        exact step 0 (by rw [dF_s, if_neg (fun y => (srt_new hs hkm).mp y c)])
      · rw [if_neg (fun y => c ((lI_cmp0 b0 b2).mp y))]
        exact step 1 (by rw [dF_s, if_pos ((srt_new hs hkm).mpr c)])
