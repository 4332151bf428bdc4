/-! the class's steps of a run -/
def opt1 (b : Bool) (x : Nat) : List Nat := if b = true then [x] else []
theorem opt1_len (b : Bool) (x : Nat) : (opt1 b x).length ≤ 1 := by
  unfold opt1
  by_cases h : b = true
  · rw [if_pos h]; exact Nat.le_refl 1
  · rw [if_neg h]; exact Nat.zero_le 1
theorem cut_s (N : Nat) {m c hd s : Nat} (hc : c < 16) (lots : Nat → Int32) (n4 : Nat) (own inp : Int32) (r : Int32 → Int32 → Int32 → Int32 → (Nat → Int32) → (Nat → Int32) → Int32 → Option O_X4_cut) {L : List Nat} {va : Nat → Int32} (hv : vA L va) (hl : L.length < 51) (p ni : Int32) (S : Nat → Int32) {j : Nat} (hj : j < 3) (hhd : hd < 3) (es : S (3 * c + j) = nI s) :
    ∃ va', vA (L ++ opt1 (decide (¬ own = 0 ∨ j = hd)) s) va' ∧ s_X4_cut_78 N (nI hd) (nI m) lots n4 (nI (3 * c)) own inp r (nI L.length) (numI m L) p ni S va (nI j) = r (nI (L ++ opt1 (decide (¬ own = 0 ∨ j = hd)) s).length) (numI m (L ++ opt1 (decide (¬ own = 0 ∨ j = hd)) s)) p ni S va' (nI (j + 1)) := by
  unfold s_X4_cut_78 f_X4_cut_97
  rw [if_neg (show ¬ (3 : Int32) ≤ nI j from nI_ge (b := 3) hj (by decide)), nI_add, if_pos (g48 hc hj), nI_clamp (by omega), es, look_eq N hv hl s, nI_1]
  simp only [Option.bind_some]
  have ej : nI j = nI hd ↔ j = hd := nI_eq (by omega) (by omega)
  by_cases q : ¬ own = 0 ∨ j = hd
  · rw [show opt1 (decide (¬ own = 0 ∨ j = hd)) s = [s] by unfold opt1; rw [if_pos (decide_eq_true q)]]
    refine ⟨_, vA_push hv s, ?_⟩
    by_cases o : own = 0
    · rw [if_pos o, if_pos (ej.mpr (q.resolve_left (fun h => h o)))]
    · rw [if_neg o]
  · rw [show opt1 (decide (¬ own = 0 ∨ j = hd)) s = [] by unfold opt1; rw [if_neg (by simp [q])], List.append_nil]
    refine ⟨va, hv, ?_⟩
    rw [if_pos (Classical.byContradiction (fun h => q (Or.inl h))), if_neg (fun h => q (Or.inr (ej.mp h)))]
def seenIn (own : Bool) (hd s0 s1 s2 : Nat) : List Nat := opt1 (own || decide (0 = hd)) s0 ++ opt1 (own || decide (1 = hd)) s1 ++ opt1 (own || decide (2 = hd)) s2
theorem drawLot_eq (N : Nat) {m p l : Nat} (h1 : 1 ≤ m) (h2 : m < 2 ^ 30) (lots : Nat → Int32) (hp : p < 40) (el : lots p = nI l) (hl : l < 16) : f_X4_drawLot N (nI m) lots 40 (nI p) = some (nI (l % m), nI (p + 1)) := by
  unfold f_X4_drawLot
  rw [at_nI N lots hp (by decide), el]
  simp only [Option.bind_some]
  rw [mod9 N _ h1 (by omega), md_nI (by omega) h1 (by omega), nI_1]
  rfl
theorem md_sub' (N : Nat) {a b m : Nat} (h1 : 1 ≤ m) (h2 : m ≤ 16) (ha : a < 2 ^ 30) (hb : b < 2 ^ 30) : f_X9_mod N (nI a - nI b) (nI m) = some (nI (sm a b m)) := by
  rw [mod9 N _ h1 (by omega), md_sub ha hb h1 (by omega)]
theorem cut_eq (N : Nat) (hN : NB ≤ N) {m c hd x l0 l1 p : Nat} (h1 : 1 ≤ m) (h2 : m ≤ 16) (hc : c < 16) (hhd : hd < 3) (hx : x < 16) (lots : Nat → Int32) (hp : p + 1 < 40) (e0 : lots p = nI l0) (e1 : lots (p + 1) = nI l1) (hl0 : l0 < 16) (hl1 : l1 < 16) (own : Int32) {L : List Nat} {va : Nat → Int32} (hv : vA L va) (hl : L.length + 3 ≤ 51) (ni : Int32) (S : Nat → Int32) :
    ∃ va', vA (L ++ seenIn (decide (¬ own = 0)) hd (l0 % m) (l1 % m) (sm x (l0 % m + l1 % m) m)) va' ∧ f_X4_cut N (nI hd) (nI m) lots 40 (nI (3 * c)) own (nI x) (nI L.length) (numI m L) (nI p) ni S va = some (nI (L ++ seenIn (decide (¬ own = 0)) hd (l0 % m) (l1 % m) (sm x (l0 % m + l1 % m) m)).length, numI m (L ++ seenIn (decide (¬ own = 0)) hd (l0 % m) (l1 % m) (sm x (l0 % m + l1 % m) m)), nI (p + 2), ni + 1, set3 S c (nI (l0 % m)) (nI (l1 % m)) (nI (sm x (l0 % m + l1 % m) m)), va') := by
  have k0 : l0 % m < m := Nat.mod_lt _ (by omega)
  have k1 : l1 % m < m := Nat.mod_lt _ (by omega)
  generalize hs0 : l0 % m = s0 at *
  generalize hs1 : l1 % m = s1 at *
  generalize hs2 : sm x (s0 + s1) m = s2 at *
  unfold f_X4_cut
  rw [drawLot_eq N h1 (by omega) lots (show p < 40 by omega) e0 hl0, hs0]
  simp only [Option.bind_some]
  rw [drawLot_eq N h1 (by omega) lots hp e1 hl1, hs1, isPlace_eq N hc]
  simp only [Option.bind_some, show ¬ (1 : Int32) = 0 by decide, if_false]
  rw [show nI (3 * c) + 1 = nI (3 * c + 1) from nI_1 _, show nI (3 * c) + 2 = nI (3 * c + 2) from nI_add (3 * c) 2, if_pos (g480 hc), if_pos (g48 hc (by decide)), Int32.sub_sub, nI_add, md_sub' N h1 h2 (show x < 2 ^ 30 by omega) (show s0 + s1 < 2 ^ 30 by omega), hs2]
  simp only [Option.bind_some]
  rw [if_pos (g48 hc (by decide)), nI_clamp (by omega), nI_clamp (by omega), nI_clamp (by omega)]
  show ∃ va', _ ∧ f_X4_cut_78 N (nI hd) (nI m) lots 40 (nI (3 * c)) own (nI x) N (nI L.length) (numI m L) (nI (p + 1 + 1)) (ni + 1) (set3 S c (nI s0) (nI s1) (nI s2)) va (nI 0) = _
  obtain ⟨f, hf⟩ : ∃ f, N = f + 4 := ⟨N - 4, by unfold NB at hN; omega⟩
  have key : ∀ fuel : Nat, ∃ va', vA (L ++ seenIn (decide (¬ own = 0)) hd s0 s1 s2) va' ∧ f_X4_cut_78 N (nI hd) (nI m) lots 40 (nI (3 * c)) own (nI x) (fuel + 4) (nI L.length) (numI m L) (nI (p + 1 + 1)) (ni + 1) (set3 S c (nI s0) (nI s1) (nI s2)) va (nI 0) = some (nI (L ++ seenIn (decide (¬ own = 0)) hd s0 s1 s2).length, numI m (L ++ seenIn (decide (¬ own = 0)) hd s0 s1 s2), nI (p + 2), ni + 1, set3 S c (nI s0) (nI s1) (nI s2), va') := by
    intro fuel
    have q0 := opt1_len (decide (¬ own = 0 ∨ 0 = hd)) s0
    have q1 := opt1_len (decide (¬ own = 0 ∨ 1 = hd)) s1
    obtain ⟨va1, hv1, ev1⟩ := cut_s N (m := m) (hd := hd) hc lots 40 own (nI x) (f_X4_cut_78 N (nI hd) (nI m) lots 40 (nI (3 * c)) own (nI x) (fuel + 3)) hv (by omega) (nI (p + 1 + 1)) (ni + 1) (set3 S c (nI s0) (nI s1) (nI s2)) (j := 0) (by decide) hhd (set3_0 S c _ _ _)
    obtain ⟨va2, hv2, ev2⟩ := cut_s N (m := m) (hd := hd) hc lots 40 own (nI x) (f_X4_cut_78 N (nI hd) (nI m) lots 40 (nI (3 * c)) own (nI x) (fuel + 2)) hv1 (by rw [List.length_append]; omega) (nI (p + 1 + 1)) (ni + 1) (set3 S c (nI s0) (nI s1) (nI s2)) (j := 1) (by decide) hhd (set3_1 S c _ _ _)
    obtain ⟨va3, hv3, ev3⟩ := cut_s N (m := m) (hd := hd) hc lots 40 own (nI x) (f_X4_cut_78 N (nI hd) (nI m) lots 40 (nI (3 * c)) own (nI x) (fuel + 1)) hv2 (by rw [List.length_append, List.length_append]; omega) (nI (p + 1 + 1)) (ni + 1) (set3 S c (nI s0) (nI s1) (nI s2)) (j := 2) (by decide) hhd (set3_2 S c _ _ _)
    have eL : L ++ opt1 (decide (¬ own = 0 ∨ 0 = hd)) s0 ++ opt1 (decide (¬ own = 0 ∨ 1 = hd)) s1 ++ opt1 (decide (¬ own = 0 ∨ 2 = hd)) s2 = L ++ seenIn (decide (¬ own = 0)) hd s0 s1 s2 := by
      unfold seenIn
      rw [Bool.decide_or, Bool.decide_or, Bool.decide_or, List.append_assoc, List.append_assoc, List.append_assoc]
    refine ⟨va3, eL ▸ hv3, ?_⟩
    rw [u_X4_cut_78, ev1, u_X4_cut_78, ev2, u_X4_cut_78, ev3, u_X4_cut_78]
    unfold s_X4_cut_78
    rw [if_pos (by decide), eL]
  have hk := key f
  rw [← hf] at hk
  exact hk
