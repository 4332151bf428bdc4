/-! the reference's product -/
theorem rm3_loop (N : Nat) {m p k hd Q : Nat} (h1 : 1 ≤ m) (h2 : m ≤ 16) (dr : Nat → Int32) (lt : Nat → Nat) (hlt : ∀ i, i < Q → dr i = nI (lt i) ∧ lt i < 16) (hpq : p + 8 ≤ Q) (hp : p + 8 ≤ 40) (rc ly : Int32) (t a b li lh lb : Nat → Int32) (vs : Int32) (P sn sh : Nat → Int32) : ∀ (j i fuel : Nat) (T : Nat → Int32), i + j = 8 → j < fuel → (∀ x, x < i → T x = nI (tr8 m lt p x)) →
    ∃ T', (∀ x, x < 8 → T' x = nI (tr8 m lt p x)) ∧ f_X10_multiply_3 N (nI m) rc t a b li lh lb dr (nI k) (nI p) ly (nI hd) fuel vs P sn sh T (nI i) = f_X10_multiply_36 N (nI m) rc t a b li lh lb dr (nI k) (nI p) ly (nI hd) vs P sn sh T' := by
  intro j
  induction j with
  | zero =>
    intro i fuel T hi hf hT
    obtain ⟨f, rfl⟩ : ∃ f, fuel = f + 1 := ⟨fuel - 1, by omega⟩
    have e : i = 8 := by omega
    subst e
    rw [u_X10_multiply_3]
    unfold s_X10_multiply_3
    rw [if_pos (by decide)]
    exact ⟨T, hT, rfl⟩
  | succ j ih =>
    intro i fuel T hi hf hT
    obtain ⟨f, rfl⟩ : ∃ f, fuel = f + 1 := ⟨fuel - 1, by omega⟩
    rw [u_X10_multiply_3]
    unfold s_X10_multiply_3
    obtain ⟨el, hl⟩ := hlt (p + i) (by omega)
    rw [if_neg (show ¬ (8 : Int32) ≤ nI i from nI_ge (b := 8) (by omega) (by decide)), nI_add, if_pos (gin_nI (by omega) (by decide)), nI_clamp (by omega), el, mod10 N _ h1 (by omega), md_nI (by omega) h1 (by omega)]
    simp only [Option.bind_some]
    rw [if_pos (gin_nI (by omega) (by decide)), nI_clamp (by omega), nI_1]
    refine ih (i + 1) f _ (by omega) (by omega) ?_
    intro x hx
    by_cases e : x = i
    · subst e; rw [pk_us]; rfl
    · rw [pk_un e]; exact hT x (by omega)
theorem rm121_s (N : Nat) {m p k hd ca cb D E : Nat} (h1 : 1 ≤ m) (h2 : m ≤ 16) (hk : k < 16) (dr : Nat → Int32) (rc ly : Int32) (t a b li lh lb : Nat → Int32) (ea : a k = nI ca) (eb : b k = nI cb) (hca : ca < 16) (hcb : cb < 16) (P T : Nat → Int32) (x y tr lf : Nat → Nat) (hx : ∀ h, h < 3 → P (3 * ca + h) = nI (x h) ∧ x h < 16) (hy : ∀ h, h < 3 → P (3 * cb + h) = nI (y h) ∧ y h < 16) (hT : ∀ i, i < 9 → T i = nI (tr i) ∧ tr i < 16) (hlie : ∀ h, h < 3 → lf h < 1000 ∧ (ly = 0 ∧ lf h = 0 ∨ ¬ ly = 0 ∧ f_X10_lieOf N rc li lh lb (nI k) (nI h) = some (nI (lf h)))) (hD : D < 16) (hE : E < 16)
    (r : Int32 → (Nat → Int32) → (Nat → Int32) → (Nat → Int32) → (Nat → Int32) → Int32 → Int32 → Int32 → Option O_X10_multiply) (vs : Int32) (sn sh : Nat → Int32) {j : Nat} (hj : j < 3) :
    s_X10_multiply_121 N (nI m) rc t a b li lh lb dr (nI k) (nI p) ly (nI hd) r vs P sn sh T (nI D) (nI E) (nI j) = r vs P sn (upd (upd sh j (nI (sxN m x lf tr j))) (3 + j) (nI (syN m y tr j))) T (nI ((D + sxN m x lf tr j) % m)) (nI ((E + syN m y tr j) % m)) (nI (j + 1)) := by
  obtain ⟨ex, bx⟩ := hx j hj
  obtain ⟨ey, bY⟩ := hy j hj
  obtain ⟨et, bt⟩ := hT j (by omega)
  obtain ⟨et3, bt3⟩ := hT (3 + j) (by omega)
  obtain ⟨bl, hl⟩ := hlie j hj
  have bsx : sxN m x lf tr j < 16 := Nat.lt_of_lt_of_le (sm_lt _ _ h1) h2
  have bsy : syN m y tr j < 16 := Nat.lt_of_lt_of_le (sm_lt _ _ h1) h2
  have body : f_X10_multiply_173 N (nI m) rc t a b li lh lb dr (nI k) (nI p) ly (nI hd) r vs P sn sh T (nI D) (nI E) (nI j) (nI j) (nI (x j) - nI (tr j)) (nI (lf j)) = r vs P sn (upd (upd sh j (nI (sxN m x lf tr j))) (3 + j) (nI (syN m y tr j))) T (nI ((D + sxN m x lf tr j) % m)) (nI ((E + syN m y tr j) % m)) (nI (j + 1)) := by
    unfold f_X10_multiply_173
    rw [i32_sal, nI_add, mod10 N _ h1 (by omega), md_sub (by omega) (by omega) h1 (by omega)]
    simp only [Option.bind_some]
    rw [if_pos (gin_nI (show j < 6 by omega) (by decide)), if_pos (gin_nI (show k < 32 by omega) (by decide)), nI_clamp (show k < 2 ^ 31 by omega), eb, show (3 : Int32) = nI 3 from rfl, nI_mul, nI_add, nI_add, if_pos (g48 hcb hj), if_pos (gin_nI (show 3 + j < 9 by omega) (by decide)), nI_clamp (show 3 * cb + j < 2 ^ 31 by omega), nI_clamp (show 3 + j < 2 ^ 31 by omega), ey, et3, mod10 N _ h1 (by omega), md_sub (by omega) (by omega) h1 (by omega)]
    simp only [Option.bind_some]
    rw [if_pos (gin_nI (show 3 + j < 6 by omega) (by decide)), if_pos (gin_nI (show j < 6 by omega) (by decide)), nI_clamp (show j < 2 ^ 31 by omega), pk_un (show j ≠ 3 + j by omega), pk_us, pk_us]
    show (f_X10_mod N (nI m) (nI D + nI (sxN m x lf tr j))).bind _ = _
    rw [nI_add, mod10 N _ h1 (by omega), md_nI (by omega) h1 (by omega)]
    simp only [Option.bind_some]
    rw [if_pos (gin_nI (show 3 + j < 6 by omega) (by decide))]
    show (f_X10_mod N (nI m) (nI E + nI (syN m y tr j))).bind _ = _
    rw [nI_add, mod10 N _ h1 (by omega), md_nI (by omega) h1 (by omega)]
    simp only [Option.bind_some]
    rw [nI_1]
    rfl
  unfold s_X10_multiply_121
  rw [if_neg (show ¬ (3 : Int32) ≤ nI j from nI_ge (b := 3) hj (by decide)), if_pos (gin_nI (show k < 32 by omega) (by decide)), nI_clamp (show k < 2 ^ 31 by omega), ea, show (3 : Int32) = nI 3 from rfl, nI_mul, nI_add, if_pos (g48 hca hj), if_pos (gin_nI (show j < 9 by omega) (by decide)), nI_clamp (show 3 * ca + j < 2 ^ 31 by omega), nI_clamp (show j < 2 ^ 31 by omega), ex, et]
  rcases hl with ⟨z, zl⟩ | ⟨z, zl⟩
  · rw [if_pos z]
    rw [zl] at body
    exact body
  · rw [if_neg z, zl]
    exact body
theorem rm325_s (N : Nat) {m p k hd ct D E : Nat} (h1 : 1 ≤ m) (h2 : m ≤ 16) (hk : k < 16) (dr : Nat → Int32) (rc ly : Int32) (t a b li lh lb : Nat → Int32) (ect : t k = nI ct) (hct : ct < 16) (T : Nat → Int32) (tr : Nat → Nat) (hT : ∀ i, i < 9 → T i = nI (tr i) ∧ tr i < 16) (hD : D < 16) (hE : E < 16)
    (r : Int32 → (Nat → Int32) → (Nat → Int32) → (Nat → Int32) → (Nat → Int32) → Int32 → Int32 → Int32 → Option O_X10_multiply) (vs : Int32) (P sn sh : Nat → Int32) {j : Nat} (hj : j < 3) :
    s_X10_multiply_325 N (nI m) rc t a b li lh lb dr (nI k) (nI p) ly (nI hd) r vs P sn sh T (nI D) (nI E) (nI j) = r vs (upd P (3 * ct + j) (nI ((tr (6 + j) + D * tr (3 + j) + E * tr j + (if j = 0 then D * E else 0)) % m))) sn sh T (nI D) (nI E) (nI (j + 1)) := by
  obtain ⟨e0, b0⟩ := hT j (by omega)
  obtain ⟨e3, b3⟩ := hT (3 + j) (by omega)
  obtain ⟨e6, b6⟩ := hT (6 + j) (by omega)
  have m1 : D * tr (3 + j) ≤ 16 * 16 := Nat.mul_le_mul (by omega) (by omega)
  have m2 : E * tr j ≤ 16 * 16 := Nat.mul_le_mul (by omega) (by omega)
  have m3 : D * E ≤ 16 * 16 := Nat.mul_le_mul (by omega) (by omega)
  have body : ∀ x : Nat, x ≤ 256 → f_X10_multiply_395 N (nI m) rc t a b li lh lb dr (nI k) (nI p) ly (nI hd) r vs P sn sh T (nI D) (nI E) (nI j) (nI (3 * ct + j)) (nI (tr (6 + j) + D * tr (3 + j) + E * tr j)) (nI x) = r vs (upd P (3 * ct + j) (nI ((tr (6 + j) + D * tr (3 + j) + E * tr j + x) % m))) sn sh T (nI D) (nI E) (nI (j + 1)) := by
    intro x hx
    unfold f_X10_multiply_395
    rw [nI_add, mod10 N _ h1 (by omega), md_nI (by omega) h1 (by omega)]
    simp only [Option.bind_some]
    rw [if_pos (g48 hct hj), nI_clamp (by omega), nI_1]
  unfold s_X10_multiply_325
  rw [if_neg (show ¬ (3 : Int32) ≤ nI j from nI_ge (b := 3) hj (by decide)), if_pos (gin_nI (show k < 32 by omega) (by decide)), nI_clamp (show k < 2 ^ 31 by omega), ect, show (3 : Int32) = nI 3 from rfl, show (6 : Int32) = nI 6 from rfl, nI_mul, nI_add, nI_add, nI_add, if_pos (gin_nI (show 6 + j < 9 by omega) (by decide)), if_pos (gin_nI (show 3 + j < 9 by omega) (by decide)), if_pos (gin_nI (show j < 9 by omega) (by decide)), nI_clamp (show 6 + j < 2 ^ 31 by omega), nI_clamp (show 3 + j < 2 ^ 31 by omega), nI_clamp (show j < 2 ^ 31 by omega), e0, e3, e6, nI_mul, nI_mul, nI_add, nI_add, nI_mul]
  by_cases z : j = 0
  · rw [if_pos (by rw [z]; rfl), if_pos z]
    exact body _ (by omega)
  · rw [if_neg (show ¬ nI j = 0 from fun q => z ((nI_eq (b := 0) (by omega) (by decide)).mp q)), if_neg z]
    exact body 0 (by omega)
theorem mvN_red (m : Nat) (sx sy tr : Nat → Nat) (h : Nat) : (tr (6 + h) + (sx 0 + sx 1 + sx 2) % m * tr (3 + h) + (sy 0 + sy 1 + sy 2) % m * tr h + (if h = 0 then (sx 0 + sx 1 + sx 2) % m * ((sy 0 + sy 1 + sy 2) % m) else 0)) % m = mvN m sx sy tr h := by
  unfold mvN
  generalize sx 0 + sx 1 + sx 2 = D
  generalize sy 0 + sy 1 + sy 2 = E
  by_cases z : h = 0
  · rw [if_pos z, if_pos z]
    simp [Nat.add_mod, Nat.mul_mod]
  · rw [if_neg z, if_neg z]
    simp [Nat.add_mod, Nat.mul_mod]
theorem rm257_eq (N : Nat) (hN : NB ≤ N) {m p k hd ct D E : Nat} (h1 : 1 ≤ m) (h2 : m ≤ 16) (hk : k < 16) (hhd : hd < 3) (dr : Nat → Int32) (rc ly : Int32) (t a b li lh lb : Nat → Int32) (ect : t k = nI ct) (hct : ct < 16) (T : Nat → Int32) (tr : Nat → Nat) (hT : ∀ i, i < 9 → T i = nI (tr i) ∧ tr i < 16) (hD : D < 16) (hE : E < 16) (P sh : Nat → Int32) (s : Nat → Nat) (hs : ∀ i, i < 6 → sh i = nI (s i)) {L : List Nat} {sn : Nat → Int32} (hv : vA L sn) (hl : L.length + 9 ≤ 80) :
    ∃ sn', vA (L ++ [tr hd] ++ [tr (hd + 3)] ++ [tr (hd + 6)] ++ [s 0] ++ [s 1] ++ [s 2] ++ [s 3] ++ [s 4] ++ [s 5]) sn' ∧
      f_X10_multiply_257 N (nI m) rc t a b li lh lb dr (nI k) (nI p) ly (nI hd) (nI L.length) P sn sh T (nI D) (nI E) = some (nI (L ++ [tr hd] ++ [tr (hd + 3)] ++ [tr (hd + 6)] ++ [s 0] ++ [s 1] ++ [s 2] ++ [s 3] ++ [s 4] ++ [s 5]).length, set3 P ct (nI ((tr (6 + 0) + D * tr (3 + 0) + E * tr 0 + (if 0 = 0 then D * E else 0)) % m)) (nI ((tr (6 + 1) + D * tr (3 + 1) + E * tr 1 + (if 1 = 0 then D * E else 0)) % m)) (nI ((tr (6 + 2) + D * tr (3 + 2) + E * tr 2 + (if 2 = 0 then D * E else 0)) % m)), sn', sh, T) := by
  obtain ⟨f, hf⟩ : ∃ f, N = f + 7 := ⟨N - 7, by unfold NB at hN; omega⟩
  have hT0 := (hT hd (by omega)).1
  have hT1 := (hT (hd + 3) (by omega)).1
  have hT2 := (hT (hd + 6) (by omega)).1
  have v1 := vA_push hv (tr hd)
  have v2 := vA_push v1 (tr (hd + 3))
  have v3 := vA_push v2 (tr (hd + 6))
  have v4 := vA_push v3 (s 0)
  have v5 := vA_push v4 (s 1)
  have v6 := vA_push v5 (s 2)
  have v7 := vA_push v6 (s 3)
  have v8 := vA_push v7 (s 4)
  have v9 := vA_push v8 (s 5)
  have le1 : (L ++ [tr hd]).length < 80 := by simp; omega
  have le2 : (L ++ [tr hd] ++ [tr (hd + 3)]).length < 80 := by simp; omega
  have le3 : (L ++ [tr hd] ++ [tr (hd + 3)] ++ [tr (hd + 6)]).length < 80 := by simp; omega
  have le4 : (L ++ [tr hd] ++ [tr (hd + 3)] ++ [tr (hd + 6)] ++ [s 0]).length < 80 := by simp; omega
  have le5 : (L ++ [tr hd] ++ [tr (hd + 3)] ++ [tr (hd + 6)] ++ [s 0] ++ [s 1]).length < 80 := by simp; omega
  have le6 : (L ++ [tr hd] ++ [tr (hd + 3)] ++ [tr (hd + 6)] ++ [s 0] ++ [s 1] ++ [s 2]).length < 80 := by simp; omega
  have le7 : (L ++ [tr hd] ++ [tr (hd + 3)] ++ [tr (hd + 6)] ++ [s 0] ++ [s 1] ++ [s 2] ++ [s 3]).length < 80 := by simp; omega
  have le8 : (L ++ [tr hd] ++ [tr (hd + 3)] ++ [tr (hd + 6)] ++ [s 0] ++ [s 1] ++ [s 2] ++ [s 3] ++ [s 4]).length < 80 := by simp; omega
  refine ⟨_, v9, ?_⟩
  have s2 : ∀ (r : Int32 → (Nat → Int32) → (Nat → Int32) → (Nat → Int32) → (Nat → Int32) → Int32 → Int32 → Int32 → Option O_X10_multiply) (L : List Nat) (va : Nat → Int32) (i : Nat), i < 6 → L.length < 80 → s_X10_multiply_298 N (nI m) rc t a b li lh lb dr (nI k) (nI p) ly (nI hd) r (nI L.length) P va sh T (nI D) (nI E) (nI i) = r (nI (L ++ [s i]).length) P (upd va L.length (nI (s i))) sh T (nI D) (nI E) (nI (i + 1)) := by
    intro r L va i hi hl
    unfold s_X10_multiply_298
    rw [if_neg (show ¬ (6 : Int32) ≤ nI i from nI_ge (b := 6) hi (by decide)), if_pos (gin_nI hi (by decide)), nI_clamp (by omega), hs i hi, see_eq N hl]
    simp only [Option.bind_some]
    rw [nI_1]
  have k2 : ∀ fuel va, f_X10_multiply_298 N (nI m) rc t a b li lh lb dr (nI k) (nI p) ly (nI hd) (fuel + 7) (nI (L ++ [tr hd] ++ [tr (hd + 3)] ++ [tr (hd + 6)]).length) P va sh T (nI D) (nI E) (nI 0) = f_X10_multiply_325 N (nI m) rc t a b li lh lb dr (nI k) (nI p) ly (nI hd) N (nI (L ++ [tr hd] ++ [tr (hd + 3)] ++ [tr (hd + 6)] ++ [s 0] ++ [s 1] ++ [s 2] ++ [s 3] ++ [s 4] ++ [s 5]).length) P (upd (upd (upd (upd (upd (upd va (L ++ [tr hd] ++ [tr (hd + 3)] ++ [tr (hd + 6)]).length (nI (s 0))) (L ++ [tr hd] ++ [tr (hd + 3)] ++ [tr (hd + 6)] ++ [s 0]).length (nI (s 1))) (L ++ [tr hd] ++ [tr (hd + 3)] ++ [tr (hd + 6)] ++ [s 0] ++ [s 1]).length (nI (s 2))) (L ++ [tr hd] ++ [tr (hd + 3)] ++ [tr (hd + 6)] ++ [s 0] ++ [s 1] ++ [s 2]).length (nI (s 3))) (L ++ [tr hd] ++ [tr (hd + 3)] ++ [tr (hd + 6)] ++ [s 0] ++ [s 1] ++ [s 2] ++ [s 3]).length (nI (s 4))) (L ++ [tr hd] ++ [tr (hd + 3)] ++ [tr (hd + 6)] ++ [s 0] ++ [s 1] ++ [s 2] ++ [s 3] ++ [s 4]).length (nI (s 5))) sh T (nI D) (nI E) (nI 0) := by
    intro fuel va
    rw [u_X10_multiply_298, s2 _ _ _ 0 (by decide) le3, u_X10_multiply_298, s2 _ _ _ 1 (by decide) le4, u_X10_multiply_298, s2 _ _ _ 2 (by decide) le5, u_X10_multiply_298, s2 _ _ _ 3 (by decide) le6, u_X10_multiply_298, s2 _ _ _ 4 (by decide) le7, u_X10_multiply_298, s2 _ _ _ 5 (by decide) le8, u_X10_multiply_298]
    unfold s_X10_multiply_298
    rw [if_pos (by decide)]
    rfl
  have k3 : ∀ fuel vs va, f_X10_multiply_325 N (nI m) rc t a b li lh lb dr (nI k) (nI p) ly (nI hd) (fuel + 4) vs P va sh T (nI D) (nI E) (nI 0) = some (vs, set3 P ct (nI ((tr (6 + 0) + D * tr (3 + 0) + E * tr 0 + (if 0 = 0 then D * E else 0)) % m)) (nI ((tr (6 + 1) + D * tr (3 + 1) + E * tr 1 + (if 1 = 0 then D * E else 0)) % m)) (nI ((tr (6 + 2) + D * tr (3 + 2) + E * tr 2 + (if 2 = 0 then D * E else 0)) % m)), va, sh, T) := by
    intro fuel vs va
    rw [u_X10_multiply_325, rm325_s N h1 h2 hk dr rc ly t a b li lh lb ect hct T tr hT hD hE _ _ _ _ _ (by decide), u_X10_multiply_325, rm325_s N h1 h2 hk dr rc ly t a b li lh lb ect hct T tr hT hD hE _ _ _ _ _ (by decide), u_X10_multiply_325, rm325_s N h1 h2 hk dr rc ly t a b li lh lb ect hct T tr hT hD hE _ _ _ _ _ (by decide), u_X10_multiply_325]
    unfold s_X10_multiply_325
    rw [if_pos (by decide)]
    rfl
  unfold f_X10_multiply_257
  rw [show (3 : Int32) + nI hd = nI (hd + 3) by rw [show (3 : Int32) = nI 3 from rfl, nI_add, Nat.add_comm], show (6 : Int32) + nI hd = nI (hd + 6) by rw [show (6 : Int32) = nI 6 from rfl, nI_add, Nat.add_comm]]
  rw [if_pos (gin_nI (show hd < 9 by omega) (by decide)), nI_clamp (show hd < 2 ^ 31 by omega), hT0, see_eq N (show L.length < 80 by omega)]
  simp only [Option.bind_some]
  rw [if_pos (gin_nI (show hd + 3 < 9 by omega) (by decide)), nI_clamp (show hd + 3 < 2 ^ 31 by omega), hT1, see_eq N le1]
  simp only [Option.bind_some]
  rw [if_pos (gin_nI (show hd + 6 < 9 by omega) (by decide)), nI_clamp (show hd + 6 < 2 ^ 31 by omega), hT2, see_eq N le2]
  simp only [Option.bind_some]
  have e2 := k2 f (upd (upd (upd sn L.length (nI (tr hd))) (L ++ [tr hd]).length (nI (tr (hd + 3)))) (L ++ [tr hd] ++ [tr (hd + 3)]).length (nI (tr (hd + 6))))
  rw [← hf] at e2
  refine e2.trans ?_
  have e3 := k3 (f + 3)
  rw [show f + 3 + 4 = N by omega] at e3
  exact e3 _ _
theorem rmul_eq (N : Nat) (hN : NB ≤ N) {m p k hd ct ca cb Q : Nat} (h1 : 1 ≤ m) (h2 : m ≤ 16) (hk : k < 16) (hhd : hd < 3) (dr : Nat → Int32) (lt : Nat → Nat) (hlt : ∀ i, i < Q → dr i = nI (lt i) ∧ lt i < 16) (hpq : p + 8 ≤ Q) (hp : p + 8 ≤ 40) (rc ly : Int32) (t a b li lh lb : Nat → Int32) (ect : t k = nI ct) (hct : ct < 16) (ea : a k = nI ca) (eb : b k = nI cb) (hca : ca < 16) (hcb : cb < 16) (P : Nat → Int32) (x y lf : Nat → Nat) (hx : ∀ h, h < 3 → P (3 * ca + h) = nI (x h) ∧ x h < 16) (hy : ∀ h, h < 3 → P (3 * cb + h) = nI (y h) ∧ y h < 16) (hlie : ∀ h, h < 3 → lf h < 1000 ∧ (ly = 0 ∧ lf h = 0 ∨ ¬ ly = 0 ∧ f_X10_lieOf N rc li lh lb (nI k) (nI h) = some (nI (lf h)))) {L : List Nat} {sn : Nat → Int32} (hv : vA L sn) (hl : L.length + 9 ≤ 80) (sh T : Nat → Int32) (tr : Nat → Nat) (htr : tr = trp m lt p) :
    ∃ sn' sh' T', vA (L ++ [tr hd] ++ [tr (hd + 3)] ++ [tr (hd + 6)] ++ [sxN m x lf tr 0] ++ [sxN m x lf tr 1] ++ [sxN m x lf tr 2] ++ [syN m y tr 0] ++ [syN m y tr 1] ++ [syN m y tr 2]) sn' ∧
      f_X10_multiply N (nI m) rc t a b li lh lb dr (nI k) (nI p) ly (nI hd) (nI L.length) P sn sh T = some (nI (L ++ [tr hd] ++ [tr (hd + 3)] ++ [tr (hd + 6)] ++ [sxN m x lf tr 0] ++ [sxN m x lf tr 1] ++ [sxN m x lf tr 2] ++ [syN m y tr 0] ++ [syN m y tr 1] ++ [syN m y tr 2]).length, set3 P ct (nI (mvN m (sxN m x lf tr) (syN m y tr) tr 0)) (nI (mvN m (sxN m x lf tr) (syN m y tr) tr 1)) (nI (mvN m (sxN m x lf tr) (syN m y tr) tr 2)), sn', sh', T') := by
  obtain ⟨T1, hT1, e1⟩ := rm3_loop N (k := k) (hd := hd) h1 h2 dr lt hlt hpq hp rc ly t a b li lh lb (nI L.length) P sn sh 8 0 N T (by omega) (by unfold NB at hN; omega) (fun i hi => absurd hi (Nat.not_lt_zero i))
  have hb8 : ∀ i, tr8 m lt p i < 16 := fun i => by
    have := Nat.mod_lt (lt (p + i)) (show 0 < m by omega)
    unfold tr8
    omega
  have b0 := hb8 0
  have b1 := hb8 1
  have b2 := hb8 2
  have b3 := hb8 3
  have b4 := hb8 4
  have b5 := hb8 5
  have b6 := hb8 6
  have b7 := hb8 7
  have hm : (tr8 m lt p 0 + tr8 m lt p 1 + tr8 m lt p 2) * (tr8 m lt p 3 + tr8 m lt p 4 + tr8 m lt p 5) ≤ 48 * 48 := Nat.mul_le_mul (by omega) (by omega)
  unfold f_X10_multiply
  rw [show f_X10_multiply_3 _ _ _ _ _ _ _ _ _ _ _ _ _ _ _ (nI L.length) P sn sh T 0 = _ from e1]
  unfold f_X10_multiply_36 f_X10_multiply_58 f_X10_multiply_80
  simp only [show gin (0 : Int32) 9 = true from rfl, show gin (1 : Int32) 9 = true from rfl, show gin (2 : Int32) 9 = true from rfl, show gin (3 : Int32) 9 = true from rfl, show gin (4 : Int32) 9 = true from rfl, show gin (5 : Int32) 9 = true from rfl, show gin (6 : Int32) 9 = true from rfl, show gin (7 : Int32) 9 = true from rfl, show gin (8 : Int32) 9 = true from rfl, if_true, show (0 : Int32).toNatClampNeg = 0 from rfl, show (1 : Int32).toNatClampNeg = 1 from rfl, show (2 : Int32).toNatClampNeg = 2 from rfl, show (3 : Int32).toNatClampNeg = 3 from rfl, show (4 : Int32).toNatClampNeg = 4 from rfl, show (5 : Int32).toNatClampNeg = 5 from rfl, show (6 : Int32).toNatClampNeg = 6 from rfl, show (7 : Int32).toNatClampNeg = 7 from rfl, show (8 : Int32).toNatClampNeg = 8 from rfl]
  rw [hT1 0 (by decide), hT1 1 (by decide), hT1 2 (by decide), hT1 3 (by decide), hT1 4 (by decide), hT1 5 (by decide), hT1 6 (by decide), hT1 7 (by decide)]
  rw [nI_add, nI_add, nI_add, nI_add, nI_mul, Int32.sub_sub, nI_add, mod10 N _ h1 (by omega), md_sub (by omega) (by omega) h1 (by omega)]
  simp only [Option.bind_some]
  generalize hT2 : upd T1 8 (nI (sm ((tr8 m lt p 0 + tr8 m lt p 1 + tr8 m lt p 2) * (tr8 m lt p 3 + tr8 m lt p 4 + tr8 m lt p 5)) (tr8 m lt p 6 + tr8 m lt p 7) m)) = T2
  have hT : ∀ i, i < 9 → T2 i = nI (tr i) ∧ tr i < 16 := by
    intro i hi
    rw [htr]
    refine ⟨?_, by have := trp_lt m lt p i h1; omega⟩
    rw [← hT2]
    unfold trp
    by_cases e : i = 8
    · subst e
      rw [pk_us, if_neg (by decide)]
    · rw [pk_un e, if_pos (by omega)]
      exact hT1 i (by omega)
  have bsx : ∀ j, sxN m x lf tr j < m := fun j => sm_lt _ _ h1
  have bsy : ∀ j, syN m y tr j < m := fun j => sm_lt _ _ h1
  obtain ⟨f, hf⟩ : ∃ f, N = f + 4 := ⟨N - 4, by unfold NB at hN; omega⟩
  have hmm : ∀ z, z % m < 16 := fun z => Nat.lt_of_lt_of_le (Nat.mod_lt z (by omega)) h2
  have k1 : ∀ fuel, f_X10_multiply_121 N (nI m) rc t a b li lh lb dr (nI k) (nI p) ly (nI hd) (fuel + 4) (nI L.length) P sn sh T2 (nI 0) (nI 0) (nI 0) = f_X10_multiply_257 N (nI m) rc t a b li lh lb dr (nI k) (nI p) ly (nI hd) (nI L.length) P sn (upd (upd (upd (upd (upd (upd sh 0 (nI (sxN m x lf tr 0))) (3 + 0) (nI (syN m y tr 0))) 1 (nI (sxN m x lf tr 1))) (3 + 1) (nI (syN m y tr 1))) 2 (nI (sxN m x lf tr 2))) (3 + 2) (nI (syN m y tr 2))) T2 (nI ((((0 + sxN m x lf tr 0) % m + sxN m x lf tr 1) % m + sxN m x lf tr 2) % m)) (nI ((((0 + syN m y tr 0) % m + syN m y tr 1) % m + syN m y tr 2) % m)) := by
    intro fuel
    rw [u_X10_multiply_121, rm121_s N h1 h2 hk dr rc ly t a b li lh lb ea eb hca hcb P T2 x y tr lf hx hy hT hlie (by decide) (by decide) _ _ _ _ (by decide), u_X10_multiply_121, rm121_s N h1 h2 hk dr rc ly t a b li lh lb ea eb hca hcb P T2 x y tr lf hx hy hT hlie (hmm _) (hmm _) _ _ _ _ (by decide), u_X10_multiply_121, rm121_s N h1 h2 hk dr rc ly t a b li lh lb ea eb hca hcb P T2 x y tr lf hx hy hT hlie (hmm _) (hmm _) _ _ _ _ (by decide), u_X10_multiply_121]
    unfold s_X10_multiply_121
    rw [if_pos (by decide)]
  have e2 := k1 f
  rw [← hf] at e2
  have eD : (((0 + sxN m x lf tr 0) % m + sxN m x lf tr 1) % m + sxN m x lf tr 2) % m = (sxN m x lf tr 0 + sxN m x lf tr 1 + sxN m x lf tr 2) % m := by simp [Nat.add_mod]
  have eE : (((0 + syN m y tr 0) % m + syN m y tr 1) % m + syN m y tr 2) % m = (syN m y tr 0 + syN m y tr 1 + syN m y tr 2) % m := by simp [Nat.add_mod]
  rw [eD, eE] at e2
  generalize hsh : upd (upd (upd (upd (upd (upd sh 0 (nI (sxN m x lf tr 0))) (3 + 0) (nI (syN m y tr 0))) 1 (nI (sxN m x lf tr 1))) (3 + 1) (nI (syN m y tr 1))) 2 (nI (sxN m x lf tr 2))) (3 + 2) (nI (syN m y tr 2)) = sh2 at e2
  obtain ⟨sn', hv', e3⟩ := rm257_eq N hN (p := p) h1 h2 hk hhd dr rc ly t a b li lh lb ect hct T2 tr hT (hmm (sxN m x lf tr 0 + sxN m x lf tr 1 + sxN m x lf tr 2)) (hmm (syN m y tr 0 + syN m y tr 1 + syN m y tr 2)) P sh2 (fun i => if i < 3 then sxN m x lf tr i else syN m y tr (i - 3)) (by
    intro i hi
    rw [← hsh]
    match i, hi with
    | 0, _ => rfl
    | 1, _ => rfl
    | 2, _ => rfl
    | 3, _ => rfl
    | 4, _ => rfl
    | 5, _ => rfl) hv hl
  rw [mvN_red, mvN_red, mvN_red] at e3
  refine ⟨sn', sh2, T2, hv', ?_⟩
  exact e2.trans e3
