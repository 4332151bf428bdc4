/-! triples -/
/-- the triple's numbers: eight lots and the ninth -/
def tr8 (m : Nat) (lt : Nat → Nat) (p i : Nat) : Nat := lt (p + i) % m
def trp (m : Nat) (lt : Nat → Nat) (p i : Nat) : Nat :=
  if i < 8 then tr8 m lt p i else sm ((tr8 m lt p 0 + tr8 m lt p 1 + tr8 m lt p 2) * (tr8 m lt p 3 + tr8 m lt p 4 + tr8 m lt p 5)) (tr8 m lt p 6 + tr8 m lt p 7) m
theorem trp_lt (m : Nat) (lt : Nat → Nat) (p i : Nat) (h1 : 1 ≤ m) : trp m lt p i < m := by
  unfold trp tr8
  by_cases h : i < 8
  · rw [if_pos h]; exact Nat.mod_lt _ (by omega)
  · rw [if_neg h]; exact sm_lt _ _ h1
theorem draw_loop (N : Nat) {m p : Nat} (h1 : 1 ≤ m) (h2 : m ≤ 16) (lots : Nat → Int32) (lt : Nat → Nat) (hlt : ∀ i, i < 40 → lots i = nI (lt i) ∧ lt i < 16) (hp : p + 8 ≤ 40) : ∀ (j k fuel : Nat) (T : Nat → Int32), k + j = 8 → j < fuel → (∀ i, i < k → T i = nI (tr8 m lt p i)) →
    ∃ T', (∀ i, i < 8 → T' i = nI (tr8 m lt p i)) ∧ f_X4_drawTriple_2 N (nI m) lots 40 fuel (nI (p + k)) T (nI k) = f_X4_drawTriple_27 N (nI m) lots 40 (nI (p + 8)) T' := by
  intro j
  induction j with
  | zero =>
    intro k fuel T hk hf hT
    obtain ⟨f, rfl⟩ : ∃ f, fuel = f + 1 := ⟨fuel - 1, by omega⟩
    have e : k = 8 := by omega
    subst e
    rw [u_X4_drawTriple_2]
    unfold s_X4_drawTriple_2
    rw [if_pos (by decide)]
    exact ⟨T, hT, rfl⟩
  | succ j ih =>
    intro k fuel T hk hf hT
    obtain ⟨f, rfl⟩ : ∃ f, fuel = f + 1 := ⟨fuel - 1, by omega⟩
    rw [u_X4_drawTriple_2]
    unfold s_X4_drawTriple_2
    obtain ⟨el, hl⟩ := hlt (p + k) (by omega)
    rw [if_neg (show ¬ (8 : Int32) ≤ nI k from nI_ge (b := 8) (by omega) (by decide)), drawLot_eq N h1 (by omega) lots (show p + k < 40 by omega) el hl]
    simp only [Option.bind_some]
    rw [put_nI N T _ (show k < 9 by omega) (by decide), nI_1]
    simp only [Option.bind_some]
    refine ih (k + 1) f _ (by omega) (by omega) ?_
    intro i hi
    by_cases e : i = k
    · subst e; rw [pk_us]; rfl
    · rw [pk_un e]; exact hT i (by omega)
theorem draw_eq (N : Nat) (hN : NB ≤ N) {m p : Nat} (h1 : 1 ≤ m) (h2 : m ≤ 16) (lots : Nat → Int32) (lt : Nat → Nat) (hlt : ∀ i, i < 40 → lots i = nI (lt i) ∧ lt i < 16) (hp : p + 8 ≤ 40) (T : Nat → Int32) :
    ∃ T', (∀ i, i < 9 → T' i = nI (trp m lt p i)) ∧ f_X4_drawTriple N (nI m) lots 40 (nI p) T = some (nI (p + 8), T') := by
  obtain ⟨T1, hT1, e1⟩ := draw_loop N h1 h2 lots lt hlt hp 8 0 N T (by omega) (by unfold NB at hN; omega) (fun i hi => absurd hi (Nat.not_lt_zero i))
  unfold f_X4_drawTriple
  rw [show f_X4_drawTriple_2 N (nI m) lots 40 N (nI p) T 0 = _ from e1]
  unfold f_X4_drawTriple_27 f_X4_drawTriple_48 f_X4_drawTriple_69
  simp only [show gin (0 : Int32) 9 = true from rfl, show gin (1 : Int32) 9 = true from rfl, show gin (2 : Int32) 9 = true from rfl, show gin (3 : Int32) 9 = true from rfl, show gin (4 : Int32) 9 = true from rfl, show gin (5 : Int32) 9 = true from rfl, show gin (6 : Int32) 9 = true from rfl, show gin (7 : Int32) 9 = true from rfl, show gin (8 : Int32) 9 = true from rfl, if_true, show (0 : Int32).toNatClampNeg = 0 from rfl, show (1 : Int32).toNatClampNeg = 1 from rfl, show (2 : Int32).toNatClampNeg = 2 from rfl, show (3 : Int32).toNatClampNeg = 3 from rfl, show (4 : Int32).toNatClampNeg = 4 from rfl, show (5 : Int32).toNatClampNeg = 5 from rfl, show (6 : Int32).toNatClampNeg = 6 from rfl, show (7 : Int32).toNatClampNeg = 7 from rfl, show (8 : Int32).toNatClampNeg = 8 from rfl]
  rw [hT1 0 (by decide), hT1 1 (by decide), hT1 2 (by decide), hT1 3 (by decide), hT1 4 (by decide), hT1 5 (by decide), hT1 6 (by decide), hT1 7 (by decide)]
  have b : ∀ i, tr8 m lt p i < 16 := fun i => by
    have := Nat.mod_lt (lt (p + i)) (show 0 < m by omega)
    unfold tr8
    omega
  have b0 := b 0
  have b1 := b 1
  have b2 := b 2
  have b3 := b 3
  have b4 := b 4
  have b5 := b 5
  have b6 := b 6
  have b7 := b 7
  have hm : (tr8 m lt p 0 + tr8 m lt p 1 + tr8 m lt p 2) * (tr8 m lt p 3 + tr8 m lt p 4 + tr8 m lt p 5) ≤ 48 * 48 := Nat.mul_le_mul (by omega) (by omega)
  rw [nI_add, nI_add, nI_add, nI_add, nI_mul, Int32.sub_sub, nI_add, md_sub' N h1 h2 (by omega) (by omega)]
  simp only [Option.bind_some]
  refine ⟨_, ?_, rfl⟩
  intro i hi
  unfold trp
  by_cases e : i = 8
  · subst e
    rw [pk_us, if_neg (by decide)]
  · rw [pk_un e, if_pos (by omega)]
    exact hT1 i (by omega)
/-- the shown numbers of x and of y -/
def sxN (m : Nat) (x lf tr : Nat → Nat) (h : Nat) : Nat := sm (x h + lf h) (tr h) m
def syN (m : Nat) (y tr : Nat → Nat) (h : Nat) : Nat := sm (y h) (tr (3 + h)) m
theorem i32_sal (a b c : Int32) : a - b + c = a + c - b := by
  rw [Int32.sub_eq_add_neg, Int32.sub_eq_add_neg, Int32.add_assoc, Int32.add_assoc, Int32.add_comm (-b) c]
theorem slt_s (N : Nat) {m c1 c2 k hd : Nat} (h1 : 1 ≤ m) (h2 : m ≤ 16) (hc1 : c1 < 16) (hc2 : c2 < 16) (hk : k < 16) (S T lies : Nat → Int32) (x y tr lf : Nat → Nat) (hx : ∀ h, h < 3 → S (3 * c1 + h) = nI (x h) ∧ x h < 16) (hy : ∀ h, h < 3 → S (3 * c2 + h) = nI (y h) ∧ y h < 16) (hT : ∀ i, i < 9 → T i = nI (tr i) ∧ tr i < 16) (hlf : ∀ h, h < 3 → lies (3 * k + h) = nI (lf h) ∧ lf h < 1000)
    (r : Int32 → Int32 → (Nat → Int32) → (Nat → Int32) → (Nat → Int32) → Int32 → Option O_X4_showLessTriple) (vs vn : Int32) (sh sy va : Nat → Int32) {j : Nat} (hj : j < 3) :
    s_X4_showLessTriple_20 N (nI hd) (nI m) S T lies 48 (nI (3 * c1)) (nI (3 * c2)) (nI (3 * k)) r vs vn sh sy va (nI j) = r vs vn (upd sh j (nI (sxN m x lf tr j))) (upd sy j (nI (syN m y tr j))) va (nI (j + 1)) := by
  obtain ⟨ex, bx⟩ := hx j hj
  obtain ⟨ey, bY⟩ := hy j hj
  obtain ⟨et, bt⟩ := hT j (by omega)
  obtain ⟨et3, bt3⟩ := hT (3 + j) (by omega)
  obtain ⟨el, bl⟩ := hlf j hj
  unfold s_X4_showLessTriple_20
  rw [if_neg (show ¬ (3 : Int32) ≤ nI j from nI_ge (b := 3) hj (by decide)), nI_add, nI_add, nI_add, show (3 : Int32) + nI j = nI (3 + j) from nI_add 3 j]
  simp only [g48 hc1 hj, g48 hc2 hj, gin_nI (show j < 9 by omega) (show 9 < 2 ^ 31 by decide), gin_nI (show 3 + j < 9 by omega) (show 9 < 2 ^ 31 by decide), gin_nI hj (show 3 < 2 ^ 31 by decide), if_true, nI_clamp (show 3 * c1 + j < 2 ^ 31 by omega), nI_clamp (show 3 * c2 + j < 2 ^ 31 by omega), nI_clamp (show j < 2 ^ 31 by omega), nI_clamp (show 3 + j < 2 ^ 31 by omega)]
  rw [at_nI N lies (show 3 * k + j < 48 by omega) (by decide), ex, ey, et, et3, el]
  simp only [Option.bind_some]
  rw [i32_sal, nI_add, md_sub' N h1 h2 (by omega) (by omega), md_sub' N h1 h2 (by omega) (by omega), nI_1]
  rfl
/-- three and three and three looked at -/
theorem slt_eq (N : Nat) (hN : NB ≤ N) {m c1 c2 k hd : Nat} (h1 : 1 ≤ m) (h2 : m ≤ 16) (hc1 : c1 < 16) (hc2 : c2 < 16) (hk : k < 16) (hhd : hd < 3) (S T lies : Nat → Int32) (x y tr lf : Nat → Nat) (hx : ∀ h, h < 3 → S (3 * c1 + h) = nI (x h) ∧ x h < 16) (hy : ∀ h, h < 3 → S (3 * c2 + h) = nI (y h) ∧ y h < 16) (hT : ∀ i, i < 9 → T i = nI (tr i) ∧ tr i < 16) (hlf : ∀ h, h < 3 → lies (3 * k + h) = nI (lf h) ∧ lf h < 1000)
    {L : List Nat} (sh sy : Nat → Int32) {va : Nat → Int32} (hv : vA L va) (hl : L.length + 9 ≤ 51) :
    ∃ va', vA (L ++ [tr hd] ++ [tr (hd + 3)] ++ [tr (hd + 6)] ++ [sxN m x lf tr 0] ++ [sxN m x lf tr 1] ++ [sxN m x lf tr 2] ++ [syN m y tr 0] ++ [syN m y tr 1] ++ [syN m y tr 2]) va' ∧
      f_X4_showLessTriple N (nI hd) (nI m) S T lies 48 (nI (3 * c1)) (nI (3 * c2)) (nI (3 * k)) (nI L.length) (numI m L) sh sy va = some (nI (L ++ [tr hd] ++ [tr (hd + 3)] ++ [tr (hd + 6)] ++ [sxN m x lf tr 0] ++ [sxN m x lf tr 1] ++ [sxN m x lf tr 2] ++ [syN m y tr 0] ++ [syN m y tr 1] ++ [syN m y tr 2]).length, numI m (L ++ [tr hd] ++ [tr (hd + 3)] ++ [tr (hd + 6)] ++ [sxN m x lf tr 0] ++ [sxN m x lf tr 1] ++ [sxN m x lf tr 2] ++ [syN m y tr 0] ++ [syN m y tr 1] ++ [syN m y tr 2]), upd (upd (upd sh 0 (nI (sxN m x lf tr 0))) 1 (nI (sxN m x lf tr 1))) 2 (nI (sxN m x lf tr 2)), upd (upd (upd sy 0 (nI (syN m y tr 0))) 1 (nI (syN m y tr 1))) 2 (nI (syN m y tr 2)), va') := by
  obtain ⟨f, hf⟩ : ∃ f, N = f + 4 := ⟨N - 4, by unfold NB at hN; omega⟩
  unfold f_X4_showLessTriple
  rw [isPlace_eq N hc1, isPlace_eq N hc2]
  simp only [Option.bind_some, show ¬ (1 : Int32) = 0 by decide, if_false]
  generalize ha0 : sxN m x lf tr 0 = a0
  generalize ha1 : sxN m x lf tr 1 = a1
  generalize ha2 : sxN m x lf tr 2 = a2
  generalize hb0 : syN m y tr 0 = b0
  generalize hb1 : syN m y tr 1 = b1
  generalize hb2 : syN m y tr 2 = b2
  -- the first loop
  have l1 : ∀ fuel vs vn, f_X4_showLessTriple_20 N (nI hd) (nI m) S T lies 48 (nI (3 * c1)) (nI (3 * c2)) (nI (3 * k)) (fuel + 4) vs vn sh sy va (nI 0) = f_X4_showLessTriple_112 N (nI hd) (nI m) S T lies 48 (nI (3 * c1)) (nI (3 * c2)) (nI (3 * k)) N vs vn (upd (upd (upd sh 0 (nI a0)) 1 (nI a1)) 2 (nI a2)) (upd (upd (upd sy 0 (nI b0)) 1 (nI b1)) 2 (nI b2)) va (nI hd) := by
    intro fuel vs vn
    rw [u_X4_showLessTriple_20, slt_s N h1 h2 hc1 hc2 hk S T lies x y tr lf hx hy hT hlf _ _ _ _ _ _ (by decide), u_X4_showLessTriple_20, slt_s N h1 h2 hc1 hc2 hk S T lies x y tr lf hx hy hT hlf _ _ _ _ _ _ (by decide), u_X4_showLessTriple_20, slt_s N h1 h2 hc1 hc2 hk S T lies x y tr lf hx hy hT hlf _ _ _ _ _ _ (by decide), u_X4_showLessTriple_20]
    unfold s_X4_showLessTriple_20
    rw [if_pos (by decide), ha0, ha1, ha2, hb0, hb1, hb2]
  generalize hsh : upd (upd (upd sh 0 (nI a0)) 1 (nI a1)) 2 (nI a2) = sh' at *
  generalize hsy : upd (upd (upd sy 0 (nI b0)) 1 (nI b1)) 2 (nI b2) = sy' at *
  have es0 : sh' 0 = nI a0 := by rw [← hsh]; rfl
  have es1 : sh' 1 = nI a1 := by rw [← hsh]; rfl
  have es2 : sh' 2 = nI a2 := by rw [← hsh]; rfl
  have ey0 : sy' 0 = nI b0 := by rw [← hsy]; rfl
  have ey1 : sy' 1 = nI b1 := by rw [← hsy]; rfl
  have ey2 : sy' 2 = nI b2 := by rw [← hsy]; rfl
  have hT0 := (hT hd (by omega)).1
  have hT1 := (hT (hd + 3) (by omega)).1
  have hT2 := (hT (hd + 6) (by omega)).1
  -- one look at the triple
  have s2 : ∀ (r : Int32 → Int32 → (Nat → Int32) → (Nat → Int32) → (Nat → Int32) → Int32 → Option O_X4_showLessTriple) (L : List Nat) (va : Nat → Int32) (i : Nat), i < 9 → vA L va → L.length < 51 → s_X4_showLessTriple_112 N (nI hd) (nI m) S T lies 48 (nI (3 * c1)) (nI (3 * c2)) (nI (3 * k)) r (nI L.length) (numI m L) sh' sy' va (nI i) = r (nI (L ++ [tr i]).length) (numI m (L ++ [tr i])) sh' sy' (upd va L.length (nI (tr i))) (nI (i + 3)) := by
    intro r L va i hi hv hl
    unfold s_X4_showLessTriple_112
    rw [if_neg (show ¬ (9 : Int32) ≤ nI i from nI_ge (b := 9) hi (by decide)), at_nI N T hi (by decide), (hT i hi).1]
    simp only [Option.bind_some]
    rw [look_eq N hv hl]
    simp only [Option.bind_some]
    rw [show nI i + 3 = nI (i + 3) from nI_add i 3]
  have s3 : ∀ (r : Int32 → Int32 → (Nat → Int32) → (Nat → Int32) → (Nat → Int32) → Int32 → Option O_X4_showLessTriple) (L : List Nat) (va : Nat → Int32) (i a : Nat), i < 3 → sh' i = nI a → vA L va → L.length < 51 → s_X4_showLessTriple_144 N (nI hd) (nI m) S T lies 48 (nI (3 * c1)) (nI (3 * c2)) (nI (3 * k)) r (nI L.length) (numI m L) sh' sy' va (nI i) = r (nI (L ++ [a]).length) (numI m (L ++ [a])) sh' sy' (upd va L.length (nI a)) (nI (i + 1)) := by
    intro r L va i a hi ea hv hl
    unfold s_X4_showLessTriple_144
    rw [if_neg (show ¬ (3 : Int32) ≤ nI i from nI_ge (b := 3) hi (by decide)), if_pos (gin_nI hi (by decide)), nI_clamp (by omega), ea, look_eq N hv hl]
    simp only [Option.bind_some]
    rw [nI_1]
  have s4 : ∀ (r : Int32 → Int32 → (Nat → Int32) → (Nat → Int32) → (Nat → Int32) → Int32 → Option O_X4_showLessTriple) (L : List Nat) (va : Nat → Int32) (i a : Nat), i < 3 → sy' i = nI a → vA L va → L.length < 51 → s_X4_showLessTriple_170 N (nI hd) (nI m) S T lies 48 (nI (3 * c1)) (nI (3 * c2)) (nI (3 * k)) r (nI L.length) (numI m L) sh' sy' va (nI i) = r (nI (L ++ [a]).length) (numI m (L ++ [a])) sh' sy' (upd va L.length (nI a)) (nI (i + 1)) := by
    intro r L va i a hi ea hv hl
    unfold s_X4_showLessTriple_170
    rw [if_neg (show ¬ (3 : Int32) ≤ nI i from nI_ge (b := 3) hi (by decide)), if_pos (gin_nI hi (by decide)), nI_clamp (by omega), ea, look_eq N hv hl]
    simp only [Option.bind_some]
    rw [nI_1]
  have v1 := vA_push hv (tr hd)
  have v2 := vA_push v1 (tr (hd + 3))
  have v3 := vA_push v2 (tr (hd + 6))
  have v4 := vA_push v3 a0
  have v5 := vA_push v4 a1
  have v6 := vA_push v5 a2
  have v7 := vA_push v6 b0
  have v8 := vA_push v7 b1
  have v9 := vA_push v8 b2
  refine ⟨_, v9, ?_⟩
  have e1 := l1 f (nI L.length) (numI m L)
  rw [← hf] at e1
  rw [show f_X4_showLessTriple_20 N (nI hd) (nI m) S T lies 48 (nI (3 * c1)) (nI (3 * c2)) (nI (3 * k)) N (nI L.length) (numI m L) sh sy va 0 = _ from e1]
  have le1 : (L ++ [tr hd]).length < 51 := by simp; omega
  have le2 : (L ++ [tr hd] ++ [tr (hd + 3)]).length < 51 := by simp; omega
  have le3 : (L ++ [tr hd] ++ [tr (hd + 3)] ++ [tr (hd + 6)]).length < 51 := by simp; omega
  have le4 : (L ++ [tr hd] ++ [tr (hd + 3)] ++ [tr (hd + 6)] ++ [a0]).length < 51 := by simp; omega
  have le5 : (L ++ [tr hd] ++ [tr (hd + 3)] ++ [tr (hd + 6)] ++ [a0] ++ [a1]).length < 51 := by simp; omega
  have le6 : (L ++ [tr hd] ++ [tr (hd + 3)] ++ [tr (hd + 6)] ++ [a0] ++ [a1] ++ [a2]).length < 51 := by simp; omega
  have le7 : (L ++ [tr hd] ++ [tr (hd + 3)] ++ [tr (hd + 6)] ++ [a0] ++ [a1] ++ [a2] ++ [b0]).length < 51 := by simp; omega
  have le8 : (L ++ [tr hd] ++ [tr (hd + 3)] ++ [tr (hd + 6)] ++ [a0] ++ [a1] ++ [a2] ++ [b0] ++ [b1]).length < 51 := by simp; omega
  have k2 : ∀ fuel, f_X4_showLessTriple_112 N (nI hd) (nI m) S T lies 48 (nI (3 * c1)) (nI (3 * c2)) (nI (3 * k)) (fuel + 4) (nI L.length) (numI m L) sh' sy' va (nI hd) = f_X4_showLessTriple_144 N (nI hd) (nI m) S T lies 48 (nI (3 * c1)) (nI (3 * c2)) (nI (3 * k)) N (nI (L ++ [tr hd] ++ [tr (hd + 3)] ++ [tr (hd + 6)]).length) (numI m (L ++ [tr hd] ++ [tr (hd + 3)] ++ [tr (hd + 6)])) sh' sy' (upd (upd (upd va L.length (nI (tr hd))) (L ++ [tr hd]).length (nI (tr (hd + 3)))) (L ++ [tr hd] ++ [tr (hd + 3)]).length (nI (tr (hd + 6)))) (nI 0) := by
    intro fuel
    rw [u_X4_showLessTriple_112, s2 _ L va hd (by omega) hv (by omega), u_X4_showLessTriple_112, s2 _ _ _ (hd + 3) (by omega) v1 le1, u_X4_showLessTriple_112, s2 _ _ _ (hd + 3 + 3) (by omega) v2 le2, u_X4_showLessTriple_112]
    unfold s_X4_showLessTriple_112
    rw [if_pos (show (9 : Int32) ≤ nI (hd + 3 + 3 + 3) from nI_le (a := 9) (by omega) (by omega))]
    rfl
  have k3 : ∀ fuel va0, vA (L ++ [tr hd] ++ [tr (hd + 3)] ++ [tr (hd + 6)]) va0 → f_X4_showLessTriple_144 N (nI hd) (nI m) S T lies 48 (nI (3 * c1)) (nI (3 * c2)) (nI (3 * k)) (fuel + 4) (nI (L ++ [tr hd] ++ [tr (hd + 3)] ++ [tr (hd + 6)]).length) (numI m (L ++ [tr hd] ++ [tr (hd + 3)] ++ [tr (hd + 6)])) sh' sy' va0 (nI 0) = f_X4_showLessTriple_170 N (nI hd) (nI m) S T lies 48 (nI (3 * c1)) (nI (3 * c2)) (nI (3 * k)) N (nI (L ++ [tr hd] ++ [tr (hd + 3)] ++ [tr (hd + 6)] ++ [a0] ++ [a1] ++ [a2]).length) (numI m (L ++ [tr hd] ++ [tr (hd + 3)] ++ [tr (hd + 6)] ++ [a0] ++ [a1] ++ [a2])) sh' sy' (upd (upd (upd va0 (L ++ [tr hd] ++ [tr (hd + 3)] ++ [tr (hd + 6)]).length (nI a0)) (L ++ [tr hd] ++ [tr (hd + 3)] ++ [tr (hd + 6)] ++ [a0]).length (nI a1)) (L ++ [tr hd] ++ [tr (hd + 3)] ++ [tr (hd + 6)] ++ [a0] ++ [a1]).length (nI a2)) (nI 0) := by
    intro fuel va0 hv0
    have w1 := vA_push hv0 a0
    have w2 := vA_push w1 a1
    rw [u_X4_showLessTriple_144, s3 _ _ va0 0 a0 (by decide) es0 hv0 le3, u_X4_showLessTriple_144, s3 _ _ _ 1 a1 (by decide) es1 w1 le4, u_X4_showLessTriple_144, s3 _ _ _ 2 a2 (by decide) es2 w2 le5, u_X4_showLessTriple_144]
    unfold s_X4_showLessTriple_144
    rw [if_pos (by decide)]
    rfl
  have k4 : ∀ fuel va0, vA (L ++ [tr hd] ++ [tr (hd + 3)] ++ [tr (hd + 6)] ++ [a0] ++ [a1] ++ [a2]) va0 → f_X4_showLessTriple_170 N (nI hd) (nI m) S T lies 48 (nI (3 * c1)) (nI (3 * c2)) (nI (3 * k)) (fuel + 4) (nI (L ++ [tr hd] ++ [tr (hd + 3)] ++ [tr (hd + 6)] ++ [a0] ++ [a1] ++ [a2]).length) (numI m (L ++ [tr hd] ++ [tr (hd + 3)] ++ [tr (hd + 6)] ++ [a0] ++ [a1] ++ [a2])) sh' sy' va0 (nI 0) = some (nI (L ++ [tr hd] ++ [tr (hd + 3)] ++ [tr (hd + 6)] ++ [a0] ++ [a1] ++ [a2] ++ [b0] ++ [b1] ++ [b2]).length, numI m (L ++ [tr hd] ++ [tr (hd + 3)] ++ [tr (hd + 6)] ++ [a0] ++ [a1] ++ [a2] ++ [b0] ++ [b1] ++ [b2]), sh', sy', upd (upd (upd va0 (L ++ [tr hd] ++ [tr (hd + 3)] ++ [tr (hd + 6)] ++ [a0] ++ [a1] ++ [a2]).length (nI b0)) (L ++ [tr hd] ++ [tr (hd + 3)] ++ [tr (hd + 6)] ++ [a0] ++ [a1] ++ [a2] ++ [b0]).length (nI b1)) (L ++ [tr hd] ++ [tr (hd + 3)] ++ [tr (hd + 6)] ++ [a0] ++ [a1] ++ [a2] ++ [b0] ++ [b1]).length (nI b2)) := by
    intro fuel va0 hv0
    have w1 := vA_push hv0 b0
    have w2 := vA_push w1 b1
    rw [u_X4_showLessTriple_170, s4 _ _ va0 0 b0 (by decide) ey0 hv0 le6, u_X4_showLessTriple_170, s4 _ _ _ 1 b1 (by decide) ey1 w1 le7, u_X4_showLessTriple_170, s4 _ _ _ 2 b2 (by decide) ey2 w2 le8, u_X4_showLessTriple_170]
    unfold s_X4_showLessTriple_170
    rw [if_pos (by decide)]
  have e2 := k2 f
  have e3 := k3 f _ v3
  have e4 := k4 f _ v6
  rw [← hf] at e2 e3 e4
  rw [e2, e3, e4]
