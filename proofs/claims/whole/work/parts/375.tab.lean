/-! the class's table -/
theorem ushr19 (x : Int32) : ∃ h : Nat, h < 8192 ∧ gushr x 19 = nI h := by
  refine ⟨(x.toBitVec >>> 19).toNat, ?_, ?_⟩
  · rw [BitVec.toNat_ushiftRight, Nat.shiftRight_eq_div_pow]
    have := x.toBitVec.isLt
    omega
  · apply Int32.toBitVec_inj.mp
    show x.toBitVec >>> 19 = BitVec.ofNat 32 (x.toBitVec >>> 19).toNat
    rw [BitVec.ofNat_toNat, BitVec.setWidth_eq]
theorem nI_and13 {a : Nat} (h : a < 2 ^ 31) : nI a &&& (8191 : Int32) = nI (a % 8192) := by
  apply Int32.toBitVec_inj.mp
  show (BitVec.ofNat 32 a) &&& (BitVec.ofNat 32 8191) = BitVec.ofNat 32 (a % 8192)
  apply BitVec.eq_of_toNat_eq
  rw [BitVec.toNat_and, BitVec.toNat_ofNat, BitVec.toNat_ofNat, BitVec.toNat_ofNat, Nat.mod_eq_of_lt (show a < 2 ^ 32 by omega), Nat.mod_eq_of_lt (show a % 8192 < 2 ^ 32 by omega), show 8191 % 2 ^ 32 = 2 ^ 13 - 1 from rfl, Nat.and_two_pow_sub_one_eq_mod]
def hsh (k : Nat) : Nat := (gushr (nI k * (-1640531535 : Int32)) 19).toNatClampNeg
theorem hsh_eq (k : Nat) : gushr (nI k * (-1640531535 : Int32)) 19 = nI (hsh k) ∧ hsh k < 8192 := by
  obtain ⟨h, hl, e⟩ := ushr19 (nI k * (-1640531535 : Int32))
  unfold hsh
  rw [e, nI_clamp (by omega)]
  exact ⟨rfl, hl⟩
def prb (k t : Nat) : Nat := (hsh k + t) % 8192
theorem prb_lt (k t : Nat) : prb k t < 8192 := Nat.mod_lt _ (by decide)
theorem prb_inj {k t u : Nat} (ht : t < 8192) (hu : u < 8192) (h : prb k t = prb k u) : t = u := by
  unfold prb at h
  omega
theorem prb_hit (k : Nat) {s : Nat} (hs : s < 8192) : ∃ t, t < 8192 ∧ prb k t = s := by
  have h := (hsh_eq k).2
  unfold prb
  rcases Nat.lt_or_ge s (hsh k) with z | z
  · exact ⟨s + 8192 - hsh k, by omega, by omega⟩
  · exact ⟨s - hsh k, by omega, by omega⟩
theorem slotAt_nI (N : Nat) (sl : Nat → Int64) {s : Nat} (h : s < 8192) : f_X5_slotAt N sl (nI s) = some (sl s) := by
  unfold f_X5_slotAt
  rw [if_neg (nI_pos (by omega)), if_neg (show ¬ (8192 : Int32) ≤ nI s from nI_ge (b := 8192) h (by decide)), if_pos (gin_nI h (by decide)), nI_clamp (by omega)]
theorem putSlot_nI (N : Nat) (sl : Nat → Int64) (x : Int64) {s : Nat} (h : s < 8192) : f_X5_putSlot N (nI s) x sl = some (vp_updL sl s x) := by
  unfold f_X5_putSlot
  rw [if_neg (nI_pos (by omega)), if_neg (show ¬ (8192 : Int32) ≤ nI s from nI_ge (b := 8192) h (by decide)), if_pos (gin_nI h (by decide)), nI_clamp (by omega)]
theorem slotOf_loop (N : Nat) (sl : Nat → Int64) (k : Nat) {t0 : Nat} (ht0 : t0 < 8192) (hstop : sl (prb k t0) = 0 ∨ glushr (sl (prb k t0)) 13 = (nI k).toInt64) : ∀ (j t fuel : Nat), t + j = t0 → j < fuel → (∀ u, t ≤ u → u < t0 → ¬ sl (prb k u) = 0 ∧ ¬ glushr (sl (prb k u)) 13 = (nI k).toInt64) →
    f_X5_slotOf_10 N sl (nI k) fuel (nI (prb k t)) (nI t) = some (nI (prb k t0)) := by
  intro j
  induction j with
  | zero =>
    intro t fuel ht hf h
    obtain ⟨f, rfl⟩ : ∃ f, fuel = f + 1 := ⟨fuel - 1, by omega⟩
    have e : t = t0 := by omega
    subst e
    rw [u_X5_slotOf_10]
    unfold s_X5_slotOf_10
    rw [if_neg (show ¬ (8192 : Int32) ≤ nI t from nI_ge (b := 8192) ht0 (by decide)), slotAt_nI N sl (prb_lt k t), Option.bind_some]
    by_cases c : sl (prb k t) = 0
    · rw [if_pos ((lg_cmp_eq _ _).mpr c)]
    · rw [if_neg (fun z => c ((lg_cmp_eq _ _).mp z)), if_pos ((lg_cmp_eq _ _).mpr (hstop.resolve_left c))]
  | succ j ih =>
    intro t fuel ht hf h
    obtain ⟨f, rfl⟩ : ∃ f, fuel = f + 1 := ⟨fuel - 1, by omega⟩
    obtain ⟨c1, c2⟩ := h t (by omega) (by omega)
    have hpl := prb_lt k t
    rw [u_X5_slotOf_10]
    unfold s_X5_slotOf_10
    rw [if_neg (show ¬ (8192 : Int32) ≤ nI t from nI_ge (b := 8192) (by omega) (by decide)), slotAt_nI N sl (prb_lt k t), Option.bind_some, if_neg (fun z => c1 ((lg_cmp_eq _ _).mp z)), if_neg (fun z => c2 ((lg_cmp_eq _ _).mp z)), nI_1 (prb k t), nI_and13 (by omega), nI_1, show (prb k t + 1) % 8192 = prb k (t + 1) by unfold prb; omega]
    exact ih (t + 1) f (by omega) (by omega) (fun u h1 h2 => h u (by omega) h2)
theorem slotOf_eq (N : Nat) (hN : NB ≤ N) (sl : Nat → Int64) (k : Nat) {t0 : Nat} (ht0 : t0 < 8192) (hstop : sl (prb k t0) = 0 ∨ glushr (sl (prb k t0)) 13 = (nI k).toInt64) (h : ∀ u, u < t0 → ¬ sl (prb k u) = 0 ∧ ¬ glushr (sl (prb k u)) 13 = (nI k).toInt64) : f_X5_slotOf N sl (nI k) = some (nI (prb k t0)) := by
  unfold f_X5_slotOf
  have e := slotOf_loop N sl k ht0 hstop t0 0 N (by omega) (by unfold NB at hN; omega) (fun u _ hu => h u hu)
  rw [(hsh_eq k).1]
  have hl := (hsh_eq k).2
  rw [show prb k 0 = hsh k by unfold prb; omega] at e
  exact e
theorem leastP {P : Nat → Prop} : ∀ n : Nat, (∃ t, t < n ∧ P t) → ∃ t, t < n ∧ P t ∧ ∀ u, u < t → ¬ P u := by
  intro n
  induction n with
  | zero => rintro ⟨t, ht, _⟩; exact absurd ht (Nat.not_lt_zero t)
  | succ n ih =>
    rintro ⟨t, ht, hp⟩
    by_cases z : ∃ t, t < n ∧ P t
    · obtain ⟨s, h1, h2, h3⟩ := ih z
      exact ⟨s, by omega, h2, h3⟩
    · have e : t = n := by
        rcases Nat.lt_or_ge t n with q | q
        · exact absurd ⟨t, q, hp⟩ z
        · omega
      exact ⟨t, ht, hp, fun u hu hpu => z ⟨u, by omega, hpu⟩⟩
/-- the table holds how often each key came -/
def TB (sl : Nat → Int64) (ins : Nat → Prop) (c : Nat → Nat) : Prop :=
  (∀ s, s < 8192 → sl s = 0 ∨ ∃ k, ins k ∧ sl s = lI (k * 8192 + c k)) ∧
  (∀ k, ins k → 1 ≤ k ∧ k ≤ 134217728 ∧ c k < 8192) ∧
  (∀ k, ins k → ∃ t, t < 8192 ∧ sl (prb k t) = lI (k * 8192 + c k) ∧ ∀ u, u < t → ¬ sl (prb k u) = 0) ∧
  (∀ s s' k, s < 8192 → s' < 8192 → ins k → sl s = lI (k * 8192 + c k) → sl s' = lI (k * 8192 + c k) → s = s')
theorem TB_key {sl : Nat → Int64} {ins : Nat → Prop} {c : Nat → Nat} (h : TB sl ins c) {s k : Nat} (hs : s < 8192) (h0 : ¬ sl s = 0) (hk : k ≤ 134217728) (hu : glushr (sl s) 13 = (nI k).toInt64) : ins k ∧ sl s = lI (k * 8192 + c k) := by
  obtain ⟨k', hi, e⟩ := (h.1 s hs).resolve_left h0
  obtain ⟨b1, b2, b3⟩ := h.2.1 k' hi
  rw [e, lI_ushr (by omega), nI_long (by omega), lI_eq (by omega) (by omega)] at hu
  have : k' = k := by omega
  subst this
  exact ⟨hi, e⟩
theorem TB_find (N : Nat) (hN : NB ≤ N) {sl : Nat → Int64} {ins : Nat → Prop} {c : Nat → Nat} (h : TB sl ins c) {k : Nat} (hi : ins k) :
    ∃ t, t < 8192 ∧ sl (prb k t) = lI (k * 8192 + c k) ∧ f_X5_slotOf N sl (nI k) = some (nI (prb k t)) := by
  obtain ⟨b1, b2, b3⟩ := h.2.1 k hi
  obtain ⟨t, ht, e, hp⟩ := h.2.2.1 k hi
  refine ⟨t, ht, e, slotOf_eq N hN sl k ht (Or.inr ?_) (fun u hu => ⟨hp u hu, fun z => ?_⟩)⟩
  · rw [e, lI_ushr (by omega), nI_long (by omega), show (k * 8192 + c k) / 8192 = k by omega]
  · obtain ⟨_, e2⟩ := TB_key h (prb_lt k u) (hp u hu) b2 z
    have := prb_inj (by omega) ht (h.2.2.2 _ _ k (prb_lt k u) (prb_lt k t) hi e2 e)
    omega
theorem TB_free (N : Nat) (hN : NB ≤ N) {sl : Nat → Int64} {ins : Nat → Prop} {c : Nat → Nat} (h : TB sl ins c) {k : Nat} (hk : k ≤ 134217728) (hi : ¬ ins k) (hz : ∃ s, s < 8192 ∧ sl s = 0) :
    ∃ t, t < 8192 ∧ sl (prb k t) = 0 ∧ (∀ u, u < t → ¬ sl (prb k u) = 0) ∧ f_X5_slotOf N sl (nI k) = some (nI (prb k t)) := by
  obtain ⟨s, hs, e⟩ := hz
  obtain ⟨t1, ht1, e1⟩ := prb_hit k hs
  obtain ⟨t, ht, e2, hp⟩ := leastP (P := fun t => sl (prb k t) = 0) 8192 ⟨t1, ht1, by rw [e1]; exact e⟩
  exact ⟨t, ht, e2, hp, slotOf_eq N hN sl k ht (Or.inl e2) (fun u hu => ⟨hp u hu, fun z => hi (TB_key h (prb_lt k u) (hp u hu) hk z).1⟩)⟩
theorem lI_ne0 {a : Nat} (h : 1 ≤ a) (hb : a < 2 ^ 62) : ¬ lI a = 0 := fun z => by
  have := (lI_eq (b := 0) hb (by decide)).mp z
  omega
theorem TB_new {sl : Nat → Int64} {ins ins' : Nat → Prop} {c c' : Nat → Nat} (h : TB sl ins c) {k t : Nat} (h1 : 1 ≤ k) (hk : k ≤ 134217728) (hi : ¬ ins k) (ht : t < 8192) (e0 : sl (prb k t) = 0) (hp : ∀ u, u < t → ¬ sl (prb k u) = 0) (hins : ∀ j, ins' j ↔ ins j ∨ j = k) (hc : ∀ j, j ≠ k → c' j = c j) (hck : c' k < 8192) :
    TB (vp_updL sl (prb k t) (lI (k * 8192 + c' k))) ins' c' := by
  obtain ⟨g1, g2, g3, g4⟩ := h
  have hne : ∀ j, ins j → j ≠ k := fun j hj z => hi (z ▸ hj)
  refine ⟨?_, ?_, ?_, ?_⟩
  · intro s hs
    by_cases z : s = prb k t
    · rw [z, pk_uLs]
      exact Or.inr ⟨k, (hins k).mpr (Or.inr rfl), rfl⟩
    · rw [pk_uLn z]
      rcases g1 s hs with q | ⟨j, q1, q2⟩
      · exact Or.inl q
      · exact Or.inr ⟨j, (hins j).mpr (Or.inl q1), by rw [q2, hc j (hne j q1)]⟩
  · intro j hj
    rcases (hins j).mp hj with q | q
    · rw [hc j (hne j q)]; exact g2 j q
    · subst q; exact ⟨h1, hk, hck⟩
  · intro j hj
    rcases (hins j).mp hj with q | q
    · obtain ⟨t', a1, a2, a3⟩ := g3 j q
      have nz : ∀ u, ¬ sl (prb j u) = 0 → prb j u ≠ prb k t := fun u hu z => hu (by rw [z]; exact e0)
      have hb := g2 j q
      refine ⟨t', a1, ?_, fun u hu => ?_⟩
      · rw [pk_uLn (nz t' (by rw [a2]; exact lI_ne0 (by omega) (by omega))), a2, hc j (hne j q)]
      · rw [pk_uLn (nz u (a3 u hu))]; exact a3 u hu
    · subst q
      refine ⟨t, ht, pk_uLs, fun u hu => ?_⟩
      rw [pk_uLn (fun z => by have := prb_inj (by omega) ht z; omega)]
      exact hp u hu
  · intro s s' j hs hs' hj q1 q2
    have key : ∀ x, x < 8192 → vp_updL sl (prb k t) (lI (k * 8192 + c' k)) x = lI (j * 8192 + c' j) → (j = k → x = prb k t) ∧ (j ≠ k → x ≠ prb k t ∧ sl x = lI (j * 8192 + c j)) := by
      intro x hx e
      refine ⟨fun z => ?_, fun z => ?_⟩
      · subst z
        by_cases y : x = prb j t
        · exact y
        · rw [pk_uLn y] at e
          have h0 : ¬ sl x = 0 := by rw [e]; exact lI_ne0 (by omega) (by omega)
          obtain ⟨j', w1, w2⟩ := (g1 x hx).resolve_left h0
          obtain ⟨b1, b2, b3⟩ := g2 j' w1
          rw [w2, lI_eq (by omega) (by omega)] at e
          exact absurd (show j' = j by omega) (hne j' w1)
      · have hij : ins j := ((hins j).mp hj).resolve_right z
        have hb := g2 j hij
        by_cases y : x = prb k t
        · rw [y, pk_uLs, hc j z, lI_eq (by omega) (by omega)] at e
          omega
        · rw [pk_uLn y, hc j z] at e
          exact ⟨y, e⟩
    by_cases z : j = k
    · rw [(key s hs q1).1 z, (key s' hs' q2).1 z]
    · exact g4 s s' j hs hs' (((hins j).mp hj).resolve_right z) ((key s hs q1).2 z).2 ((key s' hs' q2).2 z).2
theorem TB_old {sl : Nat → Int64} {ins ins' : Nat → Prop} {c c' : Nat → Nat} (h : TB sl ins c) {k t : Nat} (hi : ins k) (e0 : sl (prb k t) = lI (k * 8192 + c k)) (hins : ∀ j, ins' j ↔ ins j) (hc : ∀ j, j ≠ k → c' j = c j) (hck : c' k < 8192) :
    TB (vp_updL sl (prb k t) (lI (k * 8192 + c' k))) ins' c' := by
  obtain ⟨g1, g2, g3, g4⟩ := h
  obtain ⟨k1, k2, k3⟩ := g2 k hi
  have only : ∀ s, s < 8192 → s ≠ prb k t → ∀ j, ins j → sl s = lI (j * 8192 + c j) → j ≠ k := by
    intro s hs hn j hj e z
    subst z
    exact hn (g4 _ _ j hs (prb_lt _ _) hj e e0)
  refine ⟨?_, ?_, ?_, ?_⟩
  · intro s hs
    by_cases z : s = prb k t
    · rw [z, pk_uLs]
      exact Or.inr ⟨k, (hins k).mpr hi, rfl⟩
    · rw [pk_uLn z]
      rcases g1 s hs with q | ⟨j, q1, q2⟩
      · exact Or.inl q
      · exact Or.inr ⟨j, (hins j).mpr q1, by rw [q2, hc j (only s hs z j q1 q2)]⟩
  · intro j hj
    have q := (hins j).mp hj
    by_cases z : j = k
    · rw [z]; exact ⟨k1, k2, hck⟩
    · rw [hc j z]; exact g2 j q
  · intro j hj
    have q := (hins j).mp hj
    obtain ⟨t', a1, a2, a3⟩ := g3 j q
    have hnz : ∀ u, ¬ sl (prb j u) = 0 → ¬ vp_updL sl (prb k t) (lI (k * 8192 + c' k)) (prb j u) = 0 := by
      intro u hu
      by_cases y : prb j u = prb k t
      · rw [y, pk_uLs]; exact lI_ne0 (by omega) (by omega)
      · rw [pk_uLn y]; exact hu
    refine ⟨t', a1, ?_, fun u hu => hnz u (a3 u hu)⟩
    by_cases z : j = k
    · subst z
      rw [g4 _ _ j (prb_lt _ _) (prb_lt _ _) hi a2 e0, pk_uLs]
    · have y : prb j t' ≠ prb k t := fun y => by
        rw [y, e0] at a2
        obtain ⟨b1, b2, b3⟩ := g2 j q
        rw [lI_eq (by omega) (by omega)] at a2
        omega
      rw [pk_uLn y, a2, hc j z]
  · intro s s' j hs hs' hj q1 q2
    have q := (hins j).mp hj
    obtain ⟨b1, b2, b3⟩ := g2 j q
    have cj : c' j < 8192 := by
      by_cases z : j = k
      · rw [z]; exact hck
      · rw [hc j z]; exact b3
    have key : ∀ x, x < 8192 → vp_updL sl (prb k t) (lI (k * 8192 + c' k)) x = lI (j * 8192 + c' j) → (j = k → x = prb k t) ∧ (j ≠ k → sl x = lI (j * 8192 + c j)) := by
      intro x hx e
      by_cases y : x = prb k t
      · rw [y, pk_uLs, lI_eq (by omega) (by omega)] at e
        have : j = k := by omega
        exact ⟨fun _ => y, fun z => absurd this z⟩
      · rw [pk_uLn y] at e
        have h0 : ¬ sl x = 0 := by rw [e]; exact lI_ne0 (by omega) (by omega)
        obtain ⟨j', w1, w2⟩ := (g1 x hx).resolve_left h0
        obtain ⟨d1, d2, d3⟩ := g2 j' w1
        have hne := only x hx y j' w1 w2
        rw [w2, lI_eq (by omega) (by omega)] at e
        have ej : j' = j := by omega
        subst ej
        exact ⟨fun z => absurd z hne, fun _ => w2⟩
    by_cases z : j = k
    · rw [(key s hs q1).1 z, (key s' hs' q2).1 z]
    · exact g4 s s' j hs hs' q ((key s hs q1).2 z) ((key s' hs' q2).2 z)
theorem nz_upd (sl : Nat → Int64) (p : Nat) (x : Int64) : ∀ n : Nat, cB (fun s => decide (¬ vp_updL sl p x s = 0)) n ≤ cB (fun s => decide (¬ sl s = 0)) n + (if p < n then 1 else 0) := by
  intro n
  induction n with
  | zero => exact Nat.zero_le _
  | succ n ih =>
    rw [cB_s, cB_s]
    by_cases e : n = p
    · subst e
      rw [if_pos (show n < n + 1 by omega)]
      rw [if_neg (show ¬ n < n by omega)] at ih
      have : (if decide (¬ vp_updL sl n x n = 0) = true then 1 else 0) ≤ 1 := by split <;> omega
      omega
    · rw [pk_uLn e]
      have : (if p < n then 1 else 0) ≤ (if p < n + 1 then 1 else 0) := by split <;> split <;> omega
      omega
theorem zero_slot {sl : Nat → Int64} (h : cB (fun s => decide (¬ sl s = 0)) 8192 < 8192) : ∃ s, s < 8192 ∧ sl s = 0 := by
  by_cases z : ∃ s, s < 8192 ∧ sl s = 0
  · exact z
  · exfalso
    have h2 : cB (fun s => decide (¬ sl s = 0)) 8192 = 8192 := cB_full 8192 (fun s hs => decide_eq_true (p := ¬ sl s = 0) (fun q => z ⟨s, hs, q⟩))
    omega
