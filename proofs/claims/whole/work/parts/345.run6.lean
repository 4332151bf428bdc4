/-! the class: products, and what is shown at the end -/
def mvN (m : Nat) (sx sy tr : Nat → Nat) (h : Nat) : Nat := (tr (6 + h) + (sx 0 + sx 1 + sx 2) * tr (3 + h) + (sy 0 + sy 1 + sy 2) * tr h + (if h = 0 then (sx 0 + sx 1 + sx 2) * (sy 0 + sy 1 + sy 2) else 0)) % m
theorem mul_s (N : Nat) {m c D E ex : Nat} (h1 : 1 ≤ m) (h2 : m ≤ 16) (hc : c < 16) (hD : D ≤ 48) (hE : E ≤ 48) (hex : ex ≤ 48 * 48) (sh sy T : Nat → Int32) (tr : Nat → Nat) (hT : ∀ i, i < 9 → T i = nI (tr i) ∧ tr i < 16) (r : (Nat → Int32) → Int32 → Int32 → Int32 → Int32 → Option O_X4_multiply) (S : Nat → Int32) {j : Nat} (hj : j < 3) :
    s_X4_multiply_59 N (nI m) sh sy T (nI (3 * c)) r S (nI D) (nI E) (nI ex) (nI j) = r (upd S (3 * c + j) (nI ((tr (6 + j) + D * tr (3 + j) + E * tr j + ex) % m))) (nI D) (nI E) 0 (nI (j + 1)) := by
  obtain ⟨e0, b0⟩ := hT j (by omega)
  obtain ⟨e3, b3⟩ := hT (3 + j) (by omega)
  obtain ⟨e6, b6⟩ := hT (6 + j) (by omega)
  have m1 : D * tr (3 + j) ≤ 48 * 16 := Nat.mul_le_mul hD (by omega)
  have m2 : E * tr j ≤ 48 * 16 := Nat.mul_le_mul hE (by omega)
  unfold s_X4_multiply_59 f_X4_multiply_99
  rw [if_neg (show ¬ (3 : Int32) ≤ nI j from nI_ge (b := 3) hj (by decide)), show (6 : Int32) + nI j = nI (6 + j) from nI_add 6 j, show (3 : Int32) + nI j = nI (3 + j) from nI_add 3 j, nI_add]
  simp only [gin_nI (show 6 + j < 9 by omega) (show 9 < 2 ^ 31 by decide), gin_nI (show 3 + j < 9 by omega) (show 9 < 2 ^ 31 by decide), gin_nI (show j < 9 by omega) (show 9 < 2 ^ 31 by decide), g48 hc hj, if_true, nI_clamp (show 6 + j < 2 ^ 31 by omega), nI_clamp (show 3 + j < 2 ^ 31 by omega), nI_clamp (show j < 2 ^ 31 by omega), nI_clamp (show 3 * c + j < 2 ^ 31 by omega)]
  rw [e0, e3, e6, nI_mul, nI_mul, nI_add, nI_add, nI_add, mod9 N _ h1 (by omega), md_nI (by omega) h1 (by omega)]
  simp only [Option.bind_some]
  rw [nI_1]
theorem mul_eq (N : Nat) (hN : NB ≤ N) {m c : Nat} (h1 : 1 ≤ m) (h2 : m ≤ 16) (hc : c < 16) (sh sy T : Nat → Int32) (sx sY tr : Nat → Nat) (hT : ∀ i, i < 9 → T i = nI (tr i) ∧ tr i < 16) (hsh : ∀ i, i < 3 → sh i = nI (sx i) ∧ sx i < 16) (hsy : ∀ i, i < 3 → sy i = nI (sY i) ∧ sY i < 16) (S : Nat → Int32) :
    f_X4_multiply N (nI m) sh sy T (nI (3 * c)) S = some (set3 S c (nI (mvN m sx sY tr 0)) (nI (mvN m sx sY tr 1)) (nI (mvN m sx sY tr 2))) := by
  obtain ⟨f, hf⟩ : ∃ f, N = f + 4 := ⟨N - 4, by unfold NB at hN; omega⟩
  obtain ⟨x0, y0⟩ := hsh 0 (by decide)
  obtain ⟨x1, y1⟩ := hsh 1 (by decide)
  obtain ⟨x2, y2⟩ := hsh 2 (by decide)
  obtain ⟨u0, w0⟩ := hsy 0 (by decide)
  obtain ⟨u1, w1⟩ := hsy 1 (by decide)
  obtain ⟨u2, w2⟩ := hsy 2 (by decide)
  have hDE : (sx 0 + sx 1 + sx 2) * (sY 0 + sY 1 + sY 2) ≤ 48 * 48 := Nat.mul_le_mul (by omega) (by omega)
  unfold f_X4_multiply f_X4_multiply_30 f_X4_multiply_51
  rw [isPlace_eq N hc]
  simp only [Option.bind_some, show ¬ (1 : Int32) = 0 by decide, if_false, show gin (0 : Int32) 3 = true from rfl, show gin (1 : Int32) 3 = true from rfl, show gin (2 : Int32) 3 = true from rfl, if_true, show (0 : Int32).toNatClampNeg = 0 from rfl, show (1 : Int32).toNatClampNeg = 1 from rfl, show (2 : Int32).toNatClampNeg = 2 from rfl]
  rw [x0, x1, x2, u0, u1, u2, nI_add, nI_add, nI_add, nI_add, nI_mul]
  have key : ∀ fuel, f_X4_multiply_59 N (nI m) sh sy T (nI (3 * c)) (fuel + 4) S (nI (sx 0 + sx 1 + sx 2)) (nI (sY 0 + sY 1 + sY 2)) (nI ((sx 0 + sx 1 + sx 2) * (sY 0 + sY 1 + sY 2))) (nI 0) = some (set3 S c (nI (mvN m sx sY tr 0)) (nI (mvN m sx sY tr 1)) (nI (mvN m sx sY tr 2))) := by
    intro fuel
    rw [u_X4_multiply_59, mul_s N h1 h2 hc (by omega) (by omega) hDE sh sy T tr hT _ S (by decide), u_X4_multiply_59, show (0 : Int32) = nI 0 from rfl, mul_s N h1 h2 hc (by omega) (by omega) (by omega) sh sy T tr hT _ _ (by decide), u_X4_multiply_59, show (0 : Int32) = nI 0 from rfl, mul_s N h1 h2 hc (by omega) (by omega) (by omega) sh sy T tr hT _ _ (by decide), u_X4_multiply_59]
    unfold s_X4_multiply_59
    rw [if_pos (by decide)]
    rfl
  have hk := key f
  rw [← hf] at hk
  exact hk
def ovN (m : Nat) (x lf : Nat → Nat) (h : Nat) : Nat := (x h + lf h) % m
theorem all_s (N : Nat) {m c k : Nat} (h1 : 1 ≤ m) (h2 : m ≤ 16) (hc : c < 16) (hk : k < 16) (S lies : Nat → Int32) (x lf : Nat → Nat) (hx : ∀ h, h < 3 → S (3 * c + h) = nI (x h) ∧ x h < 16) (hlf : ∀ h, h < 3 → lies (3 * k + h) = nI (lf h) ∧ lf h < 1000) (r : Int32 → Int32 → (Nat → Int32) → (Nat → Int32) → Int32 → Option O_X4_showAll) {L : List Nat} (sh : Nat → Int32) {va : Nat → Int32} (hv : vA L va) (hl : L.length < 51) {j : Nat} (hj : j < 3) :
    s_X4_showAll_12 N (nI m) S lies 48 (nI (3 * c)) (nI (3 * k)) r (nI L.length) (numI m L) sh va (nI j) = r (nI (L ++ [ovN m x lf j]).length) (numI m (L ++ [ovN m x lf j])) (upd sh j (nI (ovN m x lf j))) (upd va L.length (nI (ovN m x lf j))) (nI (j + 1)) := by
  obtain ⟨ex, bx⟩ := hx j hj
  obtain ⟨el, bl⟩ := hlf j hj
  unfold s_X4_showAll_12
  rw [if_neg (show ¬ (3 : Int32) ≤ nI j from nI_ge (b := 3) hj (by decide)), nI_add, nI_add]
  simp only [g48 hc hj, gin_nI hj (show 3 < 2 ^ 31 by decide), if_true, nI_clamp (show 3 * c + j < 2 ^ 31 by omega), nI_clamp (show j < 2 ^ 31 by omega)]
  rw [at_nI N lies (show 3 * k + j < 48 by omega) (by decide), ex, el]
  simp only [Option.bind_some]
  rw [nI_add, mod9 N _ h1 (by omega), md_nI (by omega) h1 (by omega)]
  simp only [Option.bind_some]
  rw [pk_us, look_eq N hv hl]
  simp only [Option.bind_some]
  rw [nI_1]
  rfl
theorem all_eq (N : Nat) (hN : NB ≤ N) {m c k : Nat} (h1 : 1 ≤ m) (h2 : m ≤ 16) (hc : c < 16) (hk : k < 16) (S lies : Nat → Int32) (x lf : Nat → Nat) (hx : ∀ h, h < 3 → S (3 * c + h) = nI (x h) ∧ x h < 16) (hlf : ∀ h, h < 3 → lies (3 * k + h) = nI (lf h) ∧ lf h < 1000) {L : List Nat} (sh : Nat → Int32) {va : Nat → Int32} (hv : vA L va) (hl : L.length + 3 ≤ 51) :
    ∃ va', vA (L ++ [ovN m x lf 0] ++ [ovN m x lf 1] ++ [ovN m x lf 2]) va' ∧ f_X4_showAll N (nI m) S lies 48 (nI (3 * c)) (nI (3 * k)) (nI L.length) (numI m L) sh va = some (nI (L ++ [ovN m x lf 0] ++ [ovN m x lf 1] ++ [ovN m x lf 2]).length, numI m (L ++ [ovN m x lf 0] ++ [ovN m x lf 1] ++ [ovN m x lf 2]), upd (upd (upd sh 0 (nI (ovN m x lf 0))) 1 (nI (ovN m x lf 1))) 2 (nI (ovN m x lf 2)), va') := by
  obtain ⟨f, hf⟩ : ∃ f, N = f + 4 := ⟨N - 4, by unfold NB at hN; omega⟩
  have v1 := vA_push hv (ovN m x lf 0)
  have v2 := vA_push v1 (ovN m x lf 1)
  have v3 := vA_push v2 (ovN m x lf 2)
  refine ⟨_, v3, ?_⟩
  unfold f_X4_showAll
  rw [isPlace_eq N hc]
  simp only [Option.bind_some, show ¬ (1 : Int32) = 0 by decide, if_false]
  have le1 : (L ++ [ovN m x lf 0]).length < 51 := by simp; omega
  have le2 : (L ++ [ovN m x lf 0] ++ [ovN m x lf 1]).length < 51 := by simp; omega
  have key : ∀ fuel, f_X4_showAll_12 N (nI m) S lies 48 (nI (3 * c)) (nI (3 * k)) (fuel + 4) (nI L.length) (numI m L) sh va (nI 0) = some (nI (L ++ [ovN m x lf 0] ++ [ovN m x lf 1] ++ [ovN m x lf 2]).length, numI m (L ++ [ovN m x lf 0] ++ [ovN m x lf 1] ++ [ovN m x lf 2]), upd (upd (upd sh 0 (nI (ovN m x lf 0))) 1 (nI (ovN m x lf 1))) 2 (nI (ovN m x lf 2)), upd (upd (upd va L.length (nI (ovN m x lf 0))) (L ++ [ovN m x lf 0]).length (nI (ovN m x lf 1))) (L ++ [ovN m x lf 0] ++ [ovN m x lf 1]).length (nI (ovN m x lf 2))) := by
    intro fuel
    rw [u_X4_showAll_12, all_s N h1 h2 hc hk S lies x lf hx hlf _ sh hv (by omega) (by decide), u_X4_showAll_12, all_s N h1 h2 hc hk S lies x lf hx hlf _ _ v1 le1 (by decide), u_X4_showAll_12, all_s N h1 h2 hc hk S lies x lf hx hlf _ _ v2 le2 (by decide), u_X4_showAll_12]
    unfold s_X4_showAll_12
    rw [if_pos (by decide)]
  have hk2 := key f
  rw [← hf] at hk2
  exact hk2
