/-! three places of a letter; what is seen -/
def set3 (S : Nat → Int32) (c : Nat) (v0 v1 v2 : Int32) : Nat → Int32 := upd (upd (upd S (3 * c) v0) (3 * c + 1) v1) (3 * c + 2) v2
theorem set3_0 (S : Nat → Int32) (c : Nat) (v0 v1 v2 : Int32) : set3 S c v0 v1 v2 (3 * c) = v0 := by
  unfold set3
  rw [pk_un (by omega), pk_un (by omega), pk_us]
theorem set3_1 (S : Nat → Int32) (c : Nat) (v0 v1 v2 : Int32) : set3 S c v0 v1 v2 (3 * c + 1) = v1 := by
  unfold set3
  rw [pk_un (by omega), pk_us]
theorem set3_2 (S : Nat → Int32) (c : Nat) (v0 v1 v2 : Int32) : set3 S c v0 v1 v2 (3 * c + 2) = v2 := by
  unfold set3
  rw [pk_us]
theorem set3_ne (S : Nat → Int32) {c c' : Nat} (h : c' ≠ c) (v0 v1 v2 : Int32) {j : Nat} (hj : j < 3) : set3 S c v0 v1 v2 (3 * c' + j) = S (3 * c' + j) := by
  unfold set3
  rw [pk_un (by omega), pk_un (by omega), pk_un (by omega)]
theorem isPlace_eq (N : Nat) {c : Nat} (hc : c < 16) : f_X4_isPlace N (nI (3 * c)) = some 1 := by
  unfold f_X4_isPlace
  rw [if_neg (nI_pos (by omega)), if_neg (show ¬ (48 : Int32) - 3 < nI (3 * c) from nI_nlt (b := 3 * c) (a := 45) (by omega) (by decide))]
theorem g48 {c j : Nat} (hc : c < 16) (hj : j < 3) : gin (nI (3 * c + j)) 48 = true := gin_nI (by omega) (by decide)
theorem g480 {c : Nat} (hc : c < 16) : gin (nI (3 * c)) 48 = true := gin_nI (by omega) (by decide)
theorem fix_eq (N : Nat) {m c : Nat} (h1 : 1 ≤ m) (h2 : m < 2 ^ 30) (hc : c < 16) (x : Int32) (S : Nat → Int32) : f_X4_fix N (nI m) (nI (3 * c)) x S = some (set3 S c (md x (nI m)) 0 0) := by
  unfold f_X4_fix
  rw [isPlace_eq N hc, mod9 N x h1 (by omega)]
  simp only [Option.bind_some, show ¬ (1 : Int32) = 0 by decide, if_false]
  rw [show (1 : Int32) = nI 1 from rfl, show (2 : Int32) = nI 2 from rfl, nI_add, nI_add, if_pos (g480 hc), if_pos (g48 hc (by decide)), if_pos (g48 hc (by decide)), nI_clamp (by omega), nI_clamp (by omega), nI_clamp (by omega)]
  rfl
theorem join_s (N : Nat) {m c c1 c2 : Nat} (h1 : 1 ≤ m) (h2 : m < 2 ^ 30) (hc : c < 16) (hc1 : c1 < 16) (hc2 : c2 < 16) (sg : Int32) (r : (Nat → Int32) → Int32 → Option O_X4_join) (S : Nat → Int32) {j : Nat} (hj : j < 3) :
    s_X4_join_28 N (nI m) (nI (3 * c)) (nI (3 * c1)) (nI (3 * c2)) sg r S (nI j) = r (upd S (3 * c + j) (md (S (3 * c1 + j) + sg * S (3 * c2 + j)) (nI m))) (nI (j + 1)) := by
  unfold s_X4_join_28
  rw [if_neg (show ¬ (3 : Int32) ≤ nI j from nI_ge (b := 3) hj (by decide)), nI_add, nI_add, nI_add, if_pos (g48 hc1 hj), if_pos (g48 hc2 hj), nI_clamp (by omega), nI_clamp (by omega), mod9 N _ h1 (by omega)]
  simp only [Option.bind_some]
  rw [if_pos (g48 hc hj), nI_clamp (by omega), nI_1]
theorem join_eq (N : Nat) (hN : NB ≤ N) {m c c1 c2 : Nat} (h1 : 1 ≤ m) (h2 : m < 2 ^ 30) (hc : c < 16) (hc1 : c1 < 16) (hc2 : c2 < 16) (n1 : c1 ≠ c) (n2 : c2 ≠ c) (sg : Int32) (S : Nat → Int32) :
    f_X4_join N (nI m) (nI (3 * c)) (nI (3 * c1)) (nI (3 * c2)) sg S = some (set3 S c (md (S (3 * c1) + sg * S (3 * c2)) (nI m)) (md (S (3 * c1 + 1) + sg * S (3 * c2 + 1)) (nI m)) (md (S (3 * c1 + 2) + sg * S (3 * c2 + 2)) (nI m))) := by
  unfold f_X4_join
  rw [isPlace_eq N hc, isPlace_eq N hc1, isPlace_eq N hc2]
  simp only [Option.bind_some, show ¬ (1 : Int32) = 0 by decide, if_false]
  have key : ∀ fuel : Nat, f_X4_join_28 N (nI m) (nI (3 * c)) (nI (3 * c1)) (nI (3 * c2)) sg (fuel + 4) S (nI 0) = some (set3 S c (md (S (3 * c1) + sg * S (3 * c2)) (nI m)) (md (S (3 * c1 + 1) + sg * S (3 * c2 + 1)) (nI m)) (md (S (3 * c1 + 2) + sg * S (3 * c2 + 2)) (nI m))) := by
    intro fuel
    rw [u_X4_join_28, join_s N h1 h2 hc hc1 hc2 sg _ S (by decide), u_X4_join_28, join_s N h1 h2 hc hc1 hc2 sg _ _ (by decide), u_X4_join_28, join_s N h1 h2 hc hc1 hc2 sg _ _ (by decide), u_X4_join_28]
    unfold s_X4_join_28
    rw [if_pos (by decide)]
    rw [pk_un (show 3 * c1 + 1 ≠ 3 * c + 0 by omega), pk_un (show 3 * c2 + 1 ≠ 3 * c + 0 by omega), pk_un (show 3 * c1 + 2 ≠ 3 * c + 1 by omega), pk_un (show 3 * c2 + 2 ≠ 3 * c + 1 by omega), pk_un (show 3 * c1 + 2 ≠ 3 * c + 0 by omega), pk_un (show 3 * c2 + 2 ≠ 3 * c + 0 by omega)]
    rfl
  obtain ⟨f, rfl⟩ : ∃ f, N = f + 4 := ⟨N - 4, by unfold NB at hN; omega⟩
  exact key f
/-- what is seen, in order: a row holds the list -/
def vA (L : List Nat) (va : Nat → Int32) : Prop := ∀ i : Nat, i < L.length → va i = nI (L.getD i 0)
theorem vA_push {L : List Nat} {va : Nat → Int32} (h : vA L va) (x : Nat) : vA (L ++ [x]) (upd va L.length (nI x)) := by
  intro i hi
  rw [List.length_append] at hi
  by_cases e : i = L.length
  · subst e
    rw [pk_us, List.getD_eq_getElem?_getD, List.getElem?_append_right (Nat.le_refl _)]
    simp
  · have hl : i < L.length := by
      have : i < L.length + 1 := hi
      omega
    rw [pk_un e, h i hl, List.getD_eq_getElem?_getD, List.getD_eq_getElem?_getD, List.getElem?_append_left hl]
def numI (m : Nat) (L : List Nat) : Int32 := L.foldl (fun acc x => acc * nI m + nI x) 0
theorem numI_push (m : Nat) (L : List Nat) (x : Nat) : numI m (L ++ [x]) = numI m L * nI m + nI x := by
  unfold numI
  rw [List.foldl_append]
  rfl
theorem look_eq (N : Nat) {m : Nat} {L : List Nat} {va : Nat → Int32} (h : vA L va) (hl : L.length < 51) (x : Nat) : f_X4_look N (nI m) (nI x) (nI L.length) (numI m L) va = some (nI (L ++ [x]).length, numI m (L ++ [x]), upd va L.length (nI x)) := by
  unfold f_X4_look
  rw [put_nI N va (nI x) hl (by decide)]
  simp only [Option.bind_some]
  rw [nI_1, numI_push, List.length_append]
  rfl
theorem see_eq (N : Nat) {L : List Nat} {va : Nat → Int32} (hl : L.length < 80) (x : Nat) : f_X10_see N (nI x) (nI L.length) va = some (nI (L ++ [x]).length, upd va L.length (nI x)) := by
  unfold f_X10_see
  rw [if_pos (gin_nI hl (by decide)), nI_1, nI_clamp (by omega), List.length_append]
  rfl
theorem lieOf_loop (N : Nat) (li lh lb : Nat → Int32) (c : Nat) (hc : c ≤ 6) (i h : Int32) : ∀ (j k fuel : Nat), k + j = c → j < fuel → f_X10_lieOf_5 N (nI c) li lh lb i h fuel (lieS li lh lb i h k) (nI k) = some (lieS li lh lb i h c) := by
  intro j
  induction j with
  | zero =>
    intro k fuel hk hf
    obtain ⟨f, rfl⟩ : ∃ f, fuel = f + 1 := ⟨fuel - 1, by omega⟩
    have e : k = c := by omega
    subst e
    rw [u_X10_lieOf_5]
    unfold s_X10_lieOf_5
    rw [if_pos (Int32.le_refl _)]
  | succ j ih =>
    intro k fuel hk hf
    obtain ⟨f, rfl⟩ : ∃ f, fuel = f + 1 := ⟨fuel - 1, by omega⟩
    rw [u_X10_lieOf_5]
    unfold s_X10_lieOf_5
    rw [if_neg (nI_ge (show k < c by omega) (by omega))]
    simp only [gin_nI (show k < 6 by omega) (show 6 < 2 ^ 31 by decide), if_true, nI_clamp (show k < 2 ^ 31 by omega)]
    rw [show nI k + 1 = nI (k + 1) from nI_1 k]
    have hi := ih (k + 1) f (by omega) (by omega)
    rw [show lieS li lh lb i h (k + 1) = lieS li lh lb i h k + (if li k = i ∧ lh k = h then lb k else 0) from rfl] at hi
    by_cases a : li k = i
    · by_cases b : lh k = h
      · rw [if_pos ⟨a, b⟩] at hi
        rw [if_pos a, if_pos b]; exact hi
      · rw [if_neg (fun q => b q.2)] at hi
        rw [if_pos a, if_neg b]; exact hi
    · rw [if_neg (fun q => a q.1)] at hi
      rw [if_neg a]; exact hi
theorem lieOf_eq (N : Nat) (hN : NB ≤ N) (li lh lb : Nat → Int32) (c : Nat) (hc : c ≤ 6) (i h : Int32) : f_X10_lieOf N (nI c) li lh lb i h = some (lieS li lh lb i h c) := lieOf_loop N li lh lb c hc i h c 0 N (by omega) (by unfold NB at hN; omega)
/-- a sum of lies is small -/
theorem lieS_b (li lh lb : Nat → Int32) (i h : Int32) : ∀ c : Nat, (∀ k, k < c → ∃ v : Nat, 1 ≤ v ∧ v ≤ 15 ∧ lb k = nI v) → ∃ s : Nat, s ≤ 15 * c ∧ lieS li lh lb i h c = nI s := by
  intro c
  induction c with
  | zero => intro _; exact ⟨0, by omega, rfl⟩
  | succ c ih =>
    intro hb
    obtain ⟨s, hs, e⟩ := ih (fun k hk => hb k (by omega))
    obtain ⟨v, _, hv, ev⟩ := hb c (by omega)
    show ∃ s', s' ≤ 15 * (c + 1) ∧ lieS li lh lb i h c + (if li c = i ∧ lh c = h then lb c else 0) = nI s'
    rw [e]
    by_cases q : li c = i ∧ lh c = h
    · rw [if_pos q, ev, nI_add]; exact ⟨s + v, by omega, rfl⟩
    · rw [if_neg q]; exact ⟨s, by omega, Int32.add_zero _⟩
