/-! an item joins the draft -/
theorem bitI {bm c : Nat} (hb : bm < 65536) (hc : c < 16) : ((nI bm >>> (nI c &&& 31)) &&& (1 : Int32)) = if bm.testBit c = true then 1 else 0 := by
  have key : ∀ c : Nat, (BitVec.ofNat 32 bm).sshiftRight c &&& 1#32 = if bm.testBit c = true then 1#32 else 0#32 := by
    intro c
    have hm : (BitVec.ofNat 32 bm).msb = false := by
      rw [BitVec.msb_eq_false_iff_two_mul_lt, BitVec.toNat_ofNat, Nat.mod_eq_of_lt (by omega)]
      omega
    rw [BitVec.sshiftRight_eq_of_msb_false hm]
    apply BitVec.eq_of_toNat_eq
    rw [BitVec.toNat_and, BitVec.toNat_ushiftRight, BitVec.toNat_ofNat, Nat.mod_eq_of_lt (show bm < 2 ^ 32 by omega), Nat.shiftRight_eq_div_pow, show (1#32).toNat = 1 from rfl, Nat.and_one_is_mod, Nat.testBit_eq_decide_div_mod_eq]
    have h2 := Nat.mod_two_eq_zero_or_one (bm / 2 ^ c)
    rcases h2 with h | h
    · rw [h, if_neg (by decide)]; rfl
    · rw [h, if_pos (by decide)]; rfl
  apply Int32.toBitVec_inj.mp
  have e : ∀ p : Prop, ∀ i : Decidable p, (@ite Int32 p i 1 0).toBitVec = @ite (BitVec 32) p i 1#32 0#32 := by
    intro p i
    by_cases h : p
    · rw [if_pos h, if_pos h]; rfl
    · rw [if_neg h, if_neg h]; rfl
  rw [e, ← key c]
  rcases (show c = 0 ∨ c = 1 ∨ c = 2 ∨ c = 3 ∨ c = 4 ∨ c = 5 ∨ c = 6 ∨ c = 7 ∨ c = 8 ∨ c = 9 ∨ c = 10 ∨ c = 11 ∨ c = 12 ∨ c = 13 ∨ c = 14 ∨ c = 15 by omega) with rfl | rfl | rfl | rfl | rfl | rfl | rfl | rfl | rfl | rfl | rfl | rfl | rfl | rfl | rfl | rfl <;> rfl
theorem oneS : ∀ c : Nat, c < 16 → (1 : Int32) <<< (nI c &&& 31) = nI (2 ^ c) := by decide
theorem orB {bm c : Nat} (hb : bm < 65536) (hc : c < 16) : nI bm ||| ((1 : Int32) <<< (nI c &&& 31)) = nI (bm ||| 2 ^ c) ∧ bm ||| 2 ^ c < 65536 := by
  have h2 : 2 ^ c < 2 ^ 16 := Nat.pow_lt_pow_right (by decide) hc
  refine ⟨?_, Nat.or_lt_two_pow (show bm < 2 ^ 16 from hb) h2⟩
  rw [oneS c hc, nI_or (by omega) (by omega)]
theorem orBit (bm c i : Nat) : (bm ||| 2 ^ c).testBit i = true ↔ bm.testBit i = true ∨ i = c := by
  rw [Nat.testBit_or, Nat.testBit_two_pow, Bool.or_eq_true, decide_eq_true_eq]
  exact ⟨fun h => h.imp id (fun z => z.symm), fun h => h.imp id (fun z => z.symm)⟩
def agr (k : Nat) (W T A B W' T' A' B' : Nat → Int32) : Prop := ∀ i, i < k → W i = W' i ∧ T i = T' i ∧ A i = A' i ∧ B i = B' i
theorem cnt_agr {W W' : Nat → Int32} (c : Int32) : ∀ k : Nat, (∀ i, i < k → W i = W' i) → cntW W c k = cntW W' c k := by
  intro k
  induction k with
  | zero => intro _; rfl
  | succ k ih =>
    intro h
    rw [cntW_s, cntW_s, ih (fun i hi => h i (by omega)), h k (by omega)]
theorem dpI_agr {W T A B W' T' A' B' : Nat → Int32} (tk : Int32) (L : Nat → Int32) (nth k : Nat) (hw : W k = W' k) (ht : T k = T' k) (ha : A k = A' k) (hb : B k = B' k) : dpI W T A B tk L nth k = dpI W' T' A' B' tk L nth k := by
  unfold dpI
  rw [hw, ht, ha, hb]
theorem dpL_s (W T A B : Nat → Int32) (tk : Int32) (k : Nat) : dpL W T A B tk (k + 1) = if W k = 5 then dpL W T A B tk k else upd (dpL W T A B tk k) (T k).toNatClampNeg (dpI W T A B tk (dpL W T A B tk k) (cntW W 4 k) k) := rfl
theorem dpL_agr {W T A B W' T' A' B' : Nat → Int32} (tk : Int32) : ∀ k : Nat, agr k W T A B W' T' A' B' → dpL W T A B tk k = dpL W' T' A' B' tk k := by
  intro k
  induction k with
  | zero => intro _; rfl
  | succ k ih =>
    intro h
    obtain ⟨hw, ht, ha, hb⟩ := h k (by omega)
    rw [dpL_s, dpL_s, ih (fun i hi => h i (by omega)), cnt_agr 4 k (fun i hi => (h i (by omega)).1), dpI_agr tk _ _ k hw ht ha hb, hw, ht]
theorem dpD_agr {W T A B W' T' A' B' : Nat → Int32} (tk : Int32) {k : Nat} (h : agr (k + 1) W T A B W' T' A' B') : dpD W T A B tk k = dpD W' T' A' B' tk k := by
  obtain ⟨hw, ht, ha, hb⟩ := h k (by omega)
  unfold dpD
  rw [dpL_agr tk k (fun i hi => h i (by omega)), cnt_agr 4 k (fun i hi => (h i (by omega)).1), dpI_agr tk _ _ k hw ht ha hb]
def okQ (k : Nat) (W T A B D : Nat → Int32) : Prop := ∀ i, i < k → (∃ c : Nat, c ≤ 4 ∧ W i = nI c) ∧ (∃ c : Nat, c < 16 ∧ T i = nI c) ∧ (W i = 0 → ∃ c : Nat, c ≤ 2 ∧ D i = nI c) ∧ (W i = 1 → ∃ c : Nat, c ≤ 15 ∧ D i = nI c) ∧ (W i = 2 ∨ W i = 3 ∨ W i = 4 → (∃ j, j < i ∧ A i = T j) ∧ ∃ j, j < i ∧ B i = T j) ∧ ∀ j, j < i → T j ≠ T i
def clR (k : Nat) (cc : Nat → Int32) (W T A B D : Nat → Int32) : Prop := ∀ i, i < k → cc (6 * i) = W i ∧ cc (6 * i + 1) = T i ∧ cc (6 * i + 2) = A i ∧ cc (6 * i + 3) = B i ∧ cc (6 * i + 4) = D i ∧ cc (6 * i + 5) = dpD W T A B 0 i
def DR (k bm : Nat) (cc dp : Nat → Int32) (W T A B D : Nat → Int32) : Prop := bm < 65536 ∧ (∀ c, c < 16 → (bm.testBit c = true ↔ ∃ j, j < k ∧ T j = nI c)) ∧ okQ k W T A B D ∧ clR k cc W T A B D ∧ ∀ c, c < 16 → bm.testBit c = true → dp c = dpL W T A B 0 k c
def c6 (cc : Nat → Int32) (k : Nat) (w t x3 x4 x5 x6 : Int32) : Nat → Int32 := upd (upd (upd (upd (upd (upd cc (6 * k) w) (6 * k + 1) t) (6 * k + 2) x3) (6 * k + 3) x4) (6 * k + 4) x5) (6 * k + 5) x6
theorem c6_old {cc : Nat → Int32} {k : Nat} {w t x3 x4 x5 x6 : Int32} {j : Nat} (h : j < 6 * k) : c6 cc k w t x3 x4 x5 x6 j = cc j := by
  unfold c6
  rw [pk_un (by omega), pk_un (by omega), pk_un (by omega), pk_un (by omega), pk_un (by omega), pk_un (by omega)]
theorem c6_new {cc : Nat → Int32} {k : Nat} {w t x3 x4 x5 x6 : Int32} : c6 cc k w t x3 x4 x5 x6 (6 * k) = w ∧ c6 cc k w t x3 x4 x5 x6 (6 * k + 1) = t ∧ c6 cc k w t x3 x4 x5 x6 (6 * k + 2) = x3 ∧ c6 cc k w t x3 x4 x5 x6 (6 * k + 3) = x4 ∧ c6 cc k w t x3 x4 x5 x6 (6 * k + 4) = x5 ∧ c6 cc k w t x3 x4 x5 x6 (6 * k + 5) = x6 := by
  unfold c6
  refine ⟨?_, ?_, ?_, ?_, ?_, pk_us⟩
  · rw [pk_un (by omega), pk_un (by omega), pk_un (by omega), pk_un (by omega), pk_un (by omega), pk_us]
  · rw [pk_un (by omega), pk_un (by omega), pk_un (by omega), pk_un (by omega), pk_us]
  · rw [pk_un (by omega), pk_un (by omega), pk_un (by omega), pk_us]
  · rw [pk_un (by omega), pk_un (by omega), pk_us]
  · rw [pk_un (by omega), pk_us]
theorem agr_upd (k : Nat) (W T A B : Nat → Int32) (w t x3 x4 : Int32) {i : Nat} (hi : i ≤ k) : agr i W T A B (upd W k w) (upd T k t) (upd A k x3) (upd B k x4) := fun j hj => ⟨(pk_un (by omega)).symm, (pk_un (by omega)).symm, (pk_un (by omega)).symm, (pk_un (by omega)).symm⟩
theorem clR_s {k : Nat} {cc W T A B D : Nat → Int32} {w t x3 x4 x5 x6 : Int32} (h : clR k cc W T A B D) (h6 : x6 = dpD (upd W k w) (upd T k t) (upd A k x3) (upd B k x4) 0 k) : clR (k + 1) (c6 cc k w t x3 x4 x5 x6) (upd W k w) (upd T k t) (upd A k x3) (upd B k x4) (upd D k x5) := by
  intro i hi
  by_cases e : i = k
  · subst e
    obtain ⟨n0, n1, n2, n3, n4, n5⟩ := c6_new (cc := cc) (k := i) (w := w) (t := t) (x3 := x3) (x4 := x4) (x5 := x5) (x6 := x6)
    rw [n0, n1, n2, n3, n4, n5, pk_us, pk_us, pk_us, pk_us, pk_us]
    exact ⟨rfl, rfl, rfl, rfl, rfl, h6⟩
  · obtain ⟨o0, o1, o2, o3, o4, o5⟩ := h i (by omega)
    rw [c6_old (by omega), c6_old (by omega), c6_old (by omega), c6_old (by omega), c6_old (by omega), c6_old (by omega), o0, o1, o2, o3, o4, o5, ← dpD_agr 0 (agr_upd k W T A B w t x3 x4 (show i + 1 ≤ k by omega)), pk_un e, pk_un e, pk_un e, pk_un e, pk_un e]
    exact ⟨rfl, rfl, rfl, rfl, rfl, rfl⟩
theorem put6 (N : Nat) {k : Nat} (hk : k < 16) (cc : Nat → Int32) (w t x3 x4 x5 x6 : Int32) {α : Type} (F : (Nat → Int32) → Option α) :
    (f_X9_put N 96 ((nI k * 6) + 0) w cc).bind (fun z1 => (f_X9_put N 96 ((nI k * 6) + 1) t z1).bind (fun z2 => (f_X9_put N 96 ((nI k * 6) + 2) x3 z2).bind (fun z3 => (f_X9_put N 96 ((nI k * 6) + 3) x4 z3).bind (fun z4 => (f_X9_put N 96 ((nI k * 6) + 4) x5 z4).bind (fun z5 => (f_X9_put N 96 ((nI k * 6) + 5) x6 z5).bind F))))) = F (c6 cc k w t x3 x4 x5 x6) := by
  have e : ∀ r : Nat, nI k * 6 + nI r = nI (6 * k + r) := by
    intro r
    rw [show (6 : Int32) = nI 6 from rfl, nI_mul, nI_add, Nat.mul_comm]
  rw [show nI k * 6 + 0 = nI (6 * k) from e 0, show nI k * 6 + 1 = nI (6 * k + 1) from e 1, show nI k * 6 + 2 = nI (6 * k + 2) from e 2, show nI k * 6 + 3 = nI (6 * k + 3) from e 3, show nI k * 6 + 4 = nI (6 * k + 4) from e 4, show nI k * 6 + 5 = nI (6 * k + 5) from e 5]
  rw [put_nI N cc w (show 6 * k < 96 by omega) (by decide), Option.bind_some, put_nI N _ t (show 6 * k + 1 < 96 by omega) (by decide), Option.bind_some, put_nI N _ x3 (show 6 * k + 2 < 96 by omega) (by decide), Option.bind_some, put_nI N _ x4 (show 6 * k + 3 < 96 by omega) (by decide), Option.bind_some, put_nI N _ x5 (show 6 * k + 4 < 96 by omega) (by decide), Option.bind_some, put_nI N _ x6 (show 6 * k + 5 < 96 by omega) (by decide), Option.bind_some]
  rfl
theorem max_c (x y : Int32) : (if x < y then y else x) = if y < x then x else y := by
  rcases Int32.lt_or_le x y with h | h
  · rw [if_pos h, if_neg (fun g => by
      have h1 := Int32.lt_iff_toInt_lt.mp h
      have h2 := Int32.lt_iff_toInt_lt.mp g
      omega)]
  · by_cases g : y < x
    · rw [if_pos g, if_neg (fun z => by
        have h1 := Int32.lt_iff_toInt_lt.mp z
        have h2 := Int32.lt_iff_toInt_lt.mp g
        omega)]
    · have : x = y := by
        apply Int32.toInt_inj.mp
        have h1 := Int32.le_iff_toInt_le.mp h
        have h2 : ¬ y.toInt < x.toInt := fun z => g (Int32.lt_iff_toInt_lt.mpr z)
        omega
      rw [this]
/-- what kind of item may be taken -/
def okV (bm c : Nat) (x3 x4 x5 : Int32) : Prop := (c = 0 ∧ x3 = -9 ∧ x4 = -9 ∧ ∃ v : Nat, v ≤ 2 ∧ x5 = nI v) ∨ (c = 1 ∧ x3 = -9 ∧ x4 = -9 ∧ ∃ v : Nat, v ≤ 15 ∧ x5 = nI v) ∨ (2 ≤ c ∧ c ≤ 4 ∧ (∃ u : Nat, u < 16 ∧ bm.testBit u = true ∧ x3 = nI u) ∧ (∃ u : Nat, u < 16 ∧ bm.testBit u = true ∧ x4 = nI u) ∧ x5 = -9)
theorem take_dp (N : Nat) {k bm c c1 : Nat} {cc dp W T A B D : Nat → Int32} {x3 x4 x5 : Int32} (h : DR k bm cc dp W T A B D) (hc : c ≤ 4) (hv : okV bm c x3 x4 x5) (w t : Int32) (hw : w = nI c) (ht : t = nI c1) : f_X2_depthOf N dp w t x3 x4 = some (dpD (upd W k w) (upd T k t) (upd A k x3) (upd B k x4) 0 k) := by
  obtain ⟨hb, hbits, hok, hcl, hdp⟩ := h
  subst hw ht
  have z0 : ∀ s : Nat, (((0 : Int32) >>> (nI s &&& 31)) &&& 1) = 0 := by
    intro s
    rw [Int32.zero_shiftRight]
    rfl
  unfold f_X2_depthOf dpD dpI
  rw [pk_us, pk_us, pk_us, pk_us, ← dpL_agr 0 k (agr_upd k W T A B (nI c) (nI c1) x3 x4 (Nat.le_refl k))]
  rcases hv with ⟨rfl, _⟩ | ⟨rfl, _⟩ | ⟨h2, h4, ⟨u, hu, bu, rfl⟩, ⟨v, hv, bv, rfl⟩, _⟩
  · rfl
  · rfl
  · rw [at_nI N dp hu (by decide), at_nI N dp hv (by decide), nI_clamp (show u < 2 ^ 31 by omega), nI_clamp (show v < 2 ^ 31 by omega), hdp u hu bu, hdp v hv bv]
    simp only [Option.bind_some, z0]
    rcases (show c = 2 ∨ c = 3 ∨ c = 4 by omega) with rfl | rfl | rfl
    · rw [if_pos (show nI 2 = 2 from rfl), if_neg (show ¬ nI 2 = 5 by decide), if_pos (show 1 < nI 2 by decide), if_neg (show ¬ nI 2 = 4 by decide), Int32.add_zero, max_c]
    · rw [if_neg (show ¬ nI 3 = 2 by decide), if_pos (show nI 3 = 3 from rfl), if_neg (show ¬ nI 3 = 5 by decide), if_pos (show 1 < nI 3 by decide), if_neg (show ¬ nI 3 = 4 by decide), Int32.add_zero, max_c]
    · rw [if_neg (show ¬ nI 4 = 2 by decide), if_neg (show ¬ nI 4 = 3 by decide), if_pos (show nI 4 = 4 from rfl), if_neg (show ¬ nI 4 = 5 by decide), if_pos (show 1 < nI 4 by decide), if_pos (show nI 4 = 4 from rfl), if_neg (show ¬ (0 : Int32) = 1 by decide), max_c]
theorem take_in (N : Nat) {k bm c c1 : Nat} {cc dp W T A B D : Nat → Int32} {x3 x4 x5 : Int32} (h : DR k bm cc dp W T A B D) (hk : k < 16) (hc : c ≤ 4) (hc1 : c1 < 16) (hnew : bm.testBit c1 = false) (hv : okV bm c x3 x4 x5) (w t : Int32) (hw : w = nI c) (ht : t = nI c1) (i4 m4 : Nat) :
    ∃ cc' dp' : Nat → Int32, f_X2_take N w t x3 x4 x5 (nI bm) (nI k) (nI i4) (nI m4) cc dp = some (nI (bm ||| 2 ^ c1), nI (k + 1), nI (i4 + (if c = 0 then 1 else 0)), nI (m4 + (if c = 4 then 1 else 0)), cc', dp') ∧ DR (k + 1) (bm ||| 2 ^ c1) cc' dp' (upd W k w) (upd T k t) (upd A k x3) (upd B k x4) (upd D k x5) := by
  have hdp := take_dp N h hc hv w t hw ht
  obtain ⟨hb, hbits, hok, hcl, hdps⟩ := h
  obtain ⟨or1, or2⟩ := orB hb hc1
  have hw5 : ¬ w = 5 := fun z => by
    rw [hw] at z
    have := (nI_eq (b := 5) (by omega) (by decide)).mp z
    omega
  refine ⟨c6 cc k w t x3 x4 x5 (dpD (upd W k w) (upd T k t) (upd A k x3) (upd B k x4) 0 k), upd dp c1 (dpD (upd W k w) (upd T k t) (upd A k x3) (upd B k x4) 0 k), ?_, or2, ?_, ?_, clR_s hcl rfl, ?_⟩
  · unfold f_X2_take
    have hput : ∀ x, f_X9_put N 16 t x dp = some (upd dp c1 x) := fun x => by rw [ht]; exact put_nI N dp x hc1 (by decide)
    rw [hdp, Option.bind_some, put6 N hk, if_neg hw5, hput, Option.bind_some]
    unfold f_X2_take_110 f_X2_take_146
    rw [show nI bm ||| ((1 : Int32) <<< (t &&& 31)) = nI (bm ||| 2 ^ c1) by rw [ht]; exact or1, nI_1 k]
    subst hw
    by_cases e0 : c = 0
    · subst e0
      rw [if_pos (show nI 0 = 0 from rfl), if_neg (show ¬ nI 0 = 4 by decide), nI_1]
      rfl
    · rw [if_neg (show ¬ nI c = 0 from nI_ne0 (by omega) (by omega)), if_neg e0]
      by_cases e4 : c = 4
      · subst e4
        rw [if_pos (show nI 4 = 4 from rfl), nI_1]
        rfl
      · rw [if_neg (show ¬ nI c = 4 from fun z => e4 ((nI_eq (b := 4) (by omega) (by decide)).mp z)), if_neg e4]
        rfl
  · intro u hu
    rw [orBit]
    constructor
    · rintro (z | z)
      · obtain ⟨j, hj, e⟩ := (hbits u hu).mp z
        exact ⟨j, by omega, by rw [pk_un (by omega)]; exact e⟩
      · exact ⟨k, by omega, by rw [pk_us, ht, z]⟩
    · rintro ⟨j, hj, e⟩
      by_cases z : j = k
      · rw [z, pk_us, ht] at e
        exact Or.inr ((nI_eq (by omega) (by omega)).mp e).symm
      · rw [pk_un z] at e
        exact Or.inl ((hbits u hu).mpr ⟨j, by omega, e⟩)
  · intro i hi
    by_cases e : i = k
    · subst e
      rw [pk_us, pk_us, pk_us, pk_us, pk_us]
      subst hw ht
      have hbit : ∀ u : Nat, u < 16 → bm.testBit u = true → ∃ j, j < i ∧ nI u = upd T i (nI c1) j := by
        intro u hu bu
        obtain ⟨j, hj, ej⟩ := (hbits u hu).mp bu
        exact ⟨j, hj, by rw [pk_un (by omega)]; exact ej.symm⟩
      refine ⟨⟨c, hc, rfl⟩, ⟨c1, hc1, rfl⟩, ?_, ?_, ?_, ?_⟩
      · intro z
        have zc : c = 0 := (nI_eq (b := 0) (by omega) (by decide)).mp z
        rcases hv with ⟨_, _, _, q⟩ | ⟨q, _⟩ | ⟨q, _⟩
        · exact q
        · omega
        · omega
      · intro z
        have zc : c = 1 := (nI_eq (b := 1) (by omega) (by decide)).mp z
        rcases hv with ⟨q, _⟩ | ⟨_, _, _, q⟩ | ⟨q, _⟩
        · omega
        · exact q
        · omega
      · intro z
        have zc : 2 ≤ c := by
          rcases z with z | z | z
          · have := (nI_eq (b := 2) (by omega) (by decide)).mp z; omega
          · have := (nI_eq (b := 3) (by omega) (by decide)).mp z; omega
          · have := (nI_eq (b := 4) (by omega) (by decide)).mp z; omega
        rcases hv with ⟨q, _⟩ | ⟨q, _⟩ | ⟨_, _, ⟨u, hu, bu, rfl⟩, ⟨v, hv, bv, rfl⟩, _⟩
        · omega
        · omega
        · exact ⟨hbit u hu bu, hbit v hv bv⟩
      · intro j hj
        rw [pk_un (by omega)]
        intro z
        have := (hbits c1 hc1).mpr ⟨j, hj, z⟩
        rw [hnew] at this
        exact absurd this (by decide)
    · obtain ⟨o1, o2, o3, o4, o5, o6⟩ := hok i (by omega)
      rw [pk_un e, pk_un e, pk_un e, pk_un e, pk_un e]
      refine ⟨o1, o2, o3, o4, ?_, ?_⟩
      · intro z
        obtain ⟨⟨j, hj, ej⟩, ⟨l, hl, el⟩⟩ := o5 z
        exact ⟨⟨j, hj, by rw [pk_un (by omega)]; exact ej⟩, ⟨l, hl, by rw [pk_un (by omega)]; exact el⟩⟩
      · intro j hj
        rw [pk_un (by omega)]
        exact o6 j hj
  · intro u hu hbu
    rw [dpL_s, pk_us, if_neg hw5, pk_us, show t.toNatClampNeg = c1 by rw [ht, nI_clamp (by omega)]]
    by_cases z : u = c1
    · rw [z, pk_us, pk_us]
      rfl
    · rw [pk_un z, pk_un z, ← dpL_agr 0 k (agr_upd k W T A B w t x3 x4 (Nat.le_refl k))]
      exact hdps u hu (((orBit bm c1 u).mp hbu).resolve_right z)
/-- the last item -/
theorem take_out (N : Nat) {k bm c1 : Nat} {cc dp W T A B D : Nat → Int32} (h : DR k bm cc dp W T A B D) (hk : k < 16) (hc1 : c1 < 16) (hold : bm.testBit c1 = true) (t x3 x4 x5 : Int32) (ht : t = nI c1) (i4 m4 : Nat) (w : Int32) (hw : w = 5) :
    ∃ cc' dp' : Nat → Int32, ∃ bc' : Int32, f_X2_take N w t x3 x4 x5 (nI bm) (nI k) (nI i4) (nI m4) cc dp = some (bc', nI (k + 1), nI i4, nI m4, cc', dp') ∧ okP (k + 1) (upd W k w) (upd T k t) (upd A k x3) (upd B k x4) (upd D k x5) ∧ clR (k + 1) cc' (upd W k w) (upd T k t) (upd A k x3) (upd B k x4) (upd D k x5) ∧ cntW (upd W k w) 0 (k + 1) = cntW W 0 k ∧ cntW (upd W k w) 4 (k + 1) = cntW W 4 k := by
  obtain ⟨hb, hbits, hok, hcl, hdps⟩ := h
  obtain ⟨j0, hj0, ej0⟩ := (hbits c1 hc1).mp hold
  have hcn : ∀ c : Int32, ¬ (5 : Int32) = c → cntW (upd W k w) c (k + 1) = cntW W c k := by
    intro c hc
    rw [cntW_s, pk_us, hw, if_neg hc, Nat.add_zero]
    exact cnt_agr c k (fun i hi => pk_un (by omega))
  refine ⟨c6 cc k w t x3 x4 x5 (dpD (upd W k w) (upd T k t) (upd A k x3) (upd B k x4) 0 k), dp, nI (bm ||| 2 ^ c1), ?_, ?_, clR_s hcl rfl, hcn 0 (by decide), hcn 4 (by decide)⟩
  · have hdp : f_X2_depthOf N dp w t x3 x4 = some (dpD (upd W k w) (upd T k t) (upd A k x3) (upd B k x4) 0 k) := by
      unfold f_X2_depthOf dpD dpI
      rw [pk_us, pk_us, ← dpL_agr 0 k (agr_upd k W T A B w t x3 x4 (Nat.le_refl k))]
      subst hw ht
      rw [if_neg (by decide), if_neg (by decide), if_neg (by decide), if_pos rfl, if_pos rfl, at_nI N dp hc1 (by decide), Option.bind_some, hdps c1 hc1 hold, nI_clamp (by omega)]
    unfold f_X2_take
    rw [hdp, Option.bind_some, put6 N hk, if_pos hw]
    unfold f_X2_take_110 f_X2_take_146
    rw [show nI bm ||| ((1 : Int32) <<< (t &&& 31)) = nI (bm ||| 2 ^ c1) by rw [ht]; exact (orB hb hc1).1, nI_1 k]
    subst hw
    rw [if_neg (by decide), if_neg (by decide)]
  · intro i hi
    by_cases e : i = k
    · subst e
      rw [pk_us, pk_us, pk_us, pk_us, pk_us]
      subst hw ht
      refine ⟨⟨5, by decide, rfl⟩, ⟨fun _ => rfl, fun _ => rfl⟩, ⟨c1, hc1, rfl⟩, fun z => absurd z (by decide), fun z => absurd z (by decide), fun z => absurd z (by decide), ?_, fun z => absurd rfl z⟩
      intro _
      exact ⟨j0, hj0, by rw [pk_un (by omega)]; exact ej0.symm⟩
    · obtain ⟨⟨c, hc, ec⟩, o2, o3, o4, o5, o6⟩ := hok i (by omega)
      rw [pk_un e, pk_un e, pk_un e, pk_un e, pk_un e]
      have n5 : ¬ W i = 5 := fun z => by
        rw [ec] at z
        have := (nI_eq (b := 5) (by omega) (by decide)).mp z
        omega
      refine ⟨⟨c, by omega, ec⟩, ⟨fun z => absurd z n5, fun z => by omega⟩, o2, o3, o4, ?_, fun z => absurd z n5, ?_⟩
      · intro z
        obtain ⟨⟨j, hj, ej⟩, ⟨l, hl, el⟩⟩ := o5 z
        exact ⟨⟨j, hj, by rw [pk_un (by omega)]; exact ej⟩, ⟨l, hl, by rw [pk_un (by omega)]; exact el⟩⟩
      · intro _ j hj
        rw [pk_un (by omega)]
        exact o6 j hj
