/-! open and product -/
theorem op_both (N : Nat) (hN : NB ≤ N) {q n : Nat} (hq : q = 5 ∨ q = 7 ∨ q = 11 ∨ q = 13) (hn : n ≤ 6) (hnq : n < q) {hs hr : Nat → Int32} {y : Nat → Nat} (hhs : ∀ i, i < n → hs i = nI (y i) ∧ y i < q) (hhr : ∀ i, i < n → hr i = nI (y i) ∧ y i < q) {S D : Nat} (hS : S < 2 ^ n) (hD : D ≤ 4) (x3 : Int32) :
    ∃ z : Int32, f_X0_opened N (nI q) (nI n) hs (nI S) (nI D) x3 = some z ∧ f_X10_opened N (nI q) (nI n) hr (nI S) (nI D) x3 = some z := by
  have hS64 : S < 64 := Nat.lt_of_lt_of_le hS (two_le hn)
  obtain ⟨Y0, r, g1, g2, g3, gP, gN⟩ := op10_eq N hN hq hn hnq hhr hS64 hD x3
  obtain ⟨best, bb, b1, b2, hK, e⟩ := op9_loop N hN hq hn hnq hhs hS64 hD x3 S 1 N 0 0 (by omega) (by omega) (by unfold NB at hN; omega) (by omega) (by omega) (Or.inl ⟨rfl, fun B hB hl => absurd hB.2.1 (by omega)⟩)
  obtain ⟨o1, o2⟩ := om3 hq hn hnq hS (fun i hi => (hhs i hi).2) hK g1 g2 g3
  have cms := cB_max (tbM S) 6
  have cmb := cB_max (tbM best) 6
  have run : f_X0_opened N (nI q) (nI n) hs (nI S) (nI D) x3 = if cB (tbM S) 6 + D < 2 * cB (tbM best) 6 then (if x3 = 0 then some (nI (hgt q n (tbM bb) y 0)) else some (nI S &&& (nI best ^^^ (-1 : Int32)))) else some (-9 : Int32) := by
    unfold f_X0_opened
    refine Eq.trans e ?_
    unfold f_X0_opened_74
    rw [bc64 N b1, Option.bind_some, bc64 N hS64, Option.bind_some]
    by_cases c : cB (tbM S) 6 + D < 2 * cB (tbM best) 6
    · rw [if_pos ((cmpA _ (by omega) D (by omega) _ (by omega)).mpr c), if_pos c]
      by_cases z : x3 = 0
      · rw [if_pos z, if_pos z, show f_X0_heightAt N (nI q) (nI n) hs 0 (nI bb) = _ from height_eq N hN hq hn hnq hhs (x := 0) (by omega) b2]
        rfl
      · rw [if_neg z, if_neg z]
    · rw [if_neg (fun z => c ((cmpA _ (by omega) D (by omega) _ (by omega)).mp z)), if_neg c]
  by_cases c : cB (tbM S) 6 + D < 2 * cB (tbM best) 6
  · obtain ⟨p1, p2⟩ := o2 c
    rw [run, if_pos c, gP (o1.mp c), ← p1, ← p2]
    by_cases z : x3 = 0
    · rw [if_pos z, if_pos z]; exact ⟨_, rfl, rfl⟩
    · rw [if_neg z, if_neg z]; exact ⟨_, rfl, rfl⟩
  · rw [run, if_neg c, gN (fun z => c (o1.mpr z))]
    exact ⟨_, rfl, rfl⟩
theorem tp_loop (N : Nat) {q n : Nat} (hq : q = 5 ∨ q = 7 ∨ q = 11 ∨ q = 13) (hn : n ≤ 6) (hnq : n < q) {y : Nat → Nat} (s c1 c2 : Int32) (bd : Nat → Int32) (hp : ∀ k, k < n → f_X0_bentPoint N (nI q) s c1 c2 bd (nI k) = some (nI (y k))) : ∀ (j k fuel : Nat) (v : Nat → Int32), k + j = n → j < fuel → (∀ i, i < k → v i = nI (y i)) →
    ∃ v' : Nat → Int32, (∀ i, i < n → v' i = nI (y i)) ∧ f_X0_takePoints_2 N (nI q) (nI n) s c1 c2 bd fuel v (nI k) = some v' := by
  intro j
  induction j with
  | zero =>
    intro k fuel v hk hf h
    obtain ⟨f, rfl⟩ : ∃ f, fuel = f + 1 := ⟨fuel - 1, by omega⟩
    have e : k = n := by omega
    subst e
    refine ⟨v, h, ?_⟩
    rw [u_X0_takePoints_2]
    unfold s_X0_takePoints_2
    rw [if_pos (Int32.le_refl _)]
  | succ j ih =>
    intro k fuel v hk hf h
    obtain ⟨f, rfl⟩ : ∃ f, fuel = f + 1 := ⟨fuel - 1, by omega⟩
    rw [u_X0_takePoints_2]
    unfold s_X0_takePoints_2
    rw [if_neg (nI_ge (show k < n by omega) (by omega)), hp k (by omega), Option.bind_some, put_nI N v _ (show k < 6 by omega) (by decide), Option.bind_some, nI_1]
    refine ih (k + 1) f _ (by omega) (by omega) ?_
    intro i hi
    by_cases e : i = k
    · rw [e, pk_us]
    · rw [pk_un e]; exact h i (by omega)
theorem ts_loop (N : Nat) {q n : Nat} (hq : q = 5 ∨ q = 7 ∨ q = 11 ∨ q = 13) (hn : n ≤ 6) (hnq : n < q) {y : Nat → Nat} (hy : ∀ k, k < n → y k < q) (s c1 c2 : Int32) (bd : Nat → Int32) (hp : ∀ k, k < n → f_X0_bentPoint N (nI q) s c1 c2 bd (nI k) = some (nI (y k))) : ∀ (j k fuel : Nat) (v : Nat → Int32), k + j = n → j < fuel → (∀ i, i < k → v i = nI (y i * y i % q)) →
    ∃ v' : Nat → Int32, (∀ i, i < n → v' i = nI (y i * y i % q)) ∧ f_X0_takeSquares_2 N (nI q) (nI n) s c1 c2 bd fuel v (nI k) = some v' := by
  intro j
  induction j with
  | zero =>
    intro k fuel v hk hf h
    obtain ⟨f, rfl⟩ : ∃ f, fuel = f + 1 := ⟨fuel - 1, by omega⟩
    have e : k = n := by omega
    subst e
    refine ⟨v, h, ?_⟩
    rw [u_X0_takeSquares_2]
    unfold s_X0_takeSquares_2
    rw [if_pos (Int32.le_refl _)]
  | succ j ih =>
    intro k fuel v hk hf h
    obtain ⟨f, rfl⟩ : ∃ f, fuel = f + 1 := ⟨fuel - 1, by omega⟩
    have hyk := hy k (by omega)
    have m1 : y k * y k ≤ 13 * 13 := Nat.mul_le_mul (by omega) (by omega)
    rw [u_X0_takeSquares_2]
    unfold s_X0_takeSquares_2
    rw [if_neg (nI_ge (show k < n by omega) (by omega)), hp k (by omega), Option.bind_some, Option.bind_some, nI_mul, mod9 N _ (by omega) (by omega), Option.bind_some, md_nI (by omega) (by omega) (by omega), put_nI N v _ (show k < 6 by omega) (by decide), Option.bind_some, nI_1]
    refine ih (k + 1) f _ (by omega) (by omega) ?_
    intro i hi
    by_cases e : i = k
    · rw [e, pk_us]
    · rw [pk_un e]; exact h i (by omega)
theorem o22_loop (N : Nat) {q n : Nat} (hq : q = 5 ∨ q = 7 ∨ q = 11 ∨ q = 13) (hn : n ≤ 6) (hnq : n < q) {y : Nat → Nat} (dg : Int32) (num bd : Nat → Int32) (x1 x2 : Int32) (hp : ∀ k, k < n → f_X10_pointOf N (nI q) num bd (nI k) = some (nI (y k))) : ∀ (j k fuel : Nat) (v : Nat → Int32), k + j = n → j < fuel → (∀ i, i < k → v i = nI (y i)) →
    ∃ v' : Nat → Int32, (∀ i, i < n → v' i = nI (y i)) ∧ f_X10_open_22 N (nI q) dg (nI n) num bd x1 x2 fuel v (nI k) = f_X10_open_47 N (nI q) dg (nI n) num bd x1 x2 v' := by
  intro j
  induction j with
  | zero =>
    intro k fuel v hk hf h
    obtain ⟨f, rfl⟩ : ∃ f, fuel = f + 1 := ⟨fuel - 1, by omega⟩
    have e : k = n := by omega
    subst e
    refine ⟨v, h, ?_⟩
    rw [u_X10_open_22]
    unfold s_X10_open_22
    rw [if_pos (Int32.le_refl _)]
  | succ j ih =>
    intro k fuel v hk hf h
    obtain ⟨f, rfl⟩ : ∃ f, fuel = f + 1 := ⟨fuel - 1, by omega⟩
    rw [u_X10_open_22]
    unfold s_X10_open_22
    rw [if_neg (nI_ge (show k < n by omega) (by omega)), hp k (by omega), Option.bind_some, if_pos (gin_nI (show k < 6 by omega) (by decide)), nI_clamp (by omega), nI_1]
    refine ih (k + 1) f _ (by omega) (by omega) ?_
    intro i hi
    by_cases e : i = k
    · rw [e, pk_us]
    · rw [pk_un e]; exact h i (by omega)
theorem p38_loop (N : Nat) {q n : Nat} (hq : q = 5 ∨ q = 7 ∨ q = 11 ∨ q = 13) (hn : n ≤ 6) (hnq : n < q) {y : Nat → Nat} (hy : ∀ k, k < n → y k < q) (dg : Int32) (num bd : Nat → Int32) (x1 x2 : Int32) (hp : ∀ k, k < n → f_X10_pointOf N (nI q) num bd (nI k) = some (nI (y k))) : ∀ (j k fuel : Nat) (v : Nat → Int32), k + j = n → j < fuel → (∀ i, i < k → v i = nI (y i * y i % q)) →
    ∃ v' : Nat → Int32, (∀ i, i < n → v' i = nI (y i * y i % q)) ∧ f_X10_product_38 N (nI q) dg (nI n) num bd x1 x2 fuel v (nI k) = f_X10_product_74 N (nI q) dg (nI n) num bd x1 x2 v' := by
  intro j
  induction j with
  | zero =>
    intro k fuel v hk hf h
    obtain ⟨f, rfl⟩ : ∃ f, fuel = f + 1 := ⟨fuel - 1, by omega⟩
    have e : k = n := by omega
    subst e
    refine ⟨v, h, ?_⟩
    rw [u_X10_product_38]
    unfold s_X10_product_38
    rw [if_pos (Int32.le_refl _)]
  | succ j ih =>
    intro k fuel v hk hf h
    obtain ⟨f, rfl⟩ : ∃ f, fuel = f + 1 := ⟨fuel - 1, by omega⟩
    have hyk := hy k (by omega)
    have m1 : y k * y k ≤ 13 * 13 := Nat.mul_le_mul (by omega) (by omega)
    rw [u_X10_product_38]
    unfold s_X10_product_38
    rw [if_neg (nI_ge (show k < n by omega) (by omega)), hp k (by omega), Option.bind_some, Option.bind_some, if_neg (nI_ne0 (by omega) (by omega)), if_pos (gin_nI (show k < 6 by omega) (by decide)), nI_clamp (by omega), nI_mul, pk_rem (by omega) (by omega) (by omega), nI_1]
    refine ih (k + 1) f _ (by omega) (by omega) ?_
    intro i hi
    by_cases e : i = k
    · rw [e, pk_us]
    · rw [pk_un e]; exact h i (by omega)
theorem allm : ∀ n : Nat, n < 7 → n < 3 ∨ ((1 : Int32) <<< (nI n &&& 31)) - 1 = nI (2 ^ n - 1) := by decide
theorem hasSet0 (N : Nat) {n : Nat} (h1 : 3 ≤ n) (h2 : n ≤ 6) (x : Int32) : f_X0_hasSet N (nI n) x = some (if x < 0 ∨ nI (2 ^ n - 1) < x then 0 else 1) := by
  unfold f_X0_hasSet
  rw [within_eq, grdz, (allm n (by omega)).resolve_left (by omega)]
theorem isSet10 (N : Nat) {n : Nat} (h1 : 3 ≤ n) (h2 : n ≤ 6) (x : Int32) : f_X10_isSet N (nI n) x = some (if x < 0 ∨ nI (2 ^ n - 1) < x then 0 else 1) := by
  unfold f_X10_isSet
  rw [in10 N x 0 _ (by decide) rfl, grdz, (allm n (by omega)).resolve_left (by omega)]
theorem eq_open : St_open := by
  intro N cp cd cn cs c1 c2 cb hs rp rd rn num rb sp x1 x2 hN hC
  obtain ⟨rfl, rfl, rfl, rfl, rfl, rfl, hb, q, d, n, rfl, hq, rfl, hd, rfl, hn1, hn2, hnq, hnum, hrb⟩ := hC
  unfold f_X9_open f_X10_open
  rw [hasSet0 N hn1 hn2, isSet10 N hn1 hn2, within_eq, in10 N x2 0 1 (by decide) (by decide)]
  simp only [grd]
  by_cases h : x1 < 0 ∨ nI (2 ^ n - 1) < x1
  · rw [if_pos h, if_pos h]; exact ⟨_, _, rfl, rfl, rfl⟩
  · rw [if_neg h, if_neg h]
    by_cases g : x2 < 0 ∨ 1 < x2
    · rw [if_pos g, if_pos g]; exact ⟨_, _, rfl, rfl, rfl⟩
    · rw [if_neg g, if_neg g]
      have h2n := two_le hn2
      have h2p : 0 < 2 ^ n := Nat.two_pow_pos n
      obtain ⟨S, _, hS, rfl⟩ := bnd (x := x1) 0 (2 ^ n - 1) (by omega) (by omega) h
      obtain ⟨a0, l0, e0⟩ := hnum 0 (by decide)
      obtain ⟨a1, l1, e1⟩ := hnum 1 (by decide)
      obtain ⟨a2, l2, e2⟩ := hnum 2 (by decide)
      have p9 : ∀ k, k < n → f_X0_bentPoint N (nI q) (num 0) (num 1) (num 2) cb (nI k) = some (nI (ptN a0 a1 a2 (k + 1) (rb k).toNatClampNeg q)) := by
        intro k hk
        obtain ⟨e, le, ee⟩ := hrb k (by omega)
        rw [ee, nI_clamp (by omega), e0, e1, e2]
        exact pt9 N hq l0 l1 l2 (show k < 6 by omega) le cb ((hb k (by omega)).trans ee)
      have p10 : ∀ k, k < n → f_X10_pointOf N (nI q) num rb (nI k) = some (nI (ptN a0 a1 a2 (k + 1) (rb k).toNatClampNeg q)) := by
        intro k hk
        obtain ⟨e, le, ee⟩ := hrb k (by omega)
        rw [pt10 N hq l0 l1 l2 (show k < 6 by omega) le num rb e0 e1 e2 ee, ee, nI_clamp (by omega)]
      have hy : ∀ k, k < n → ptN a0 a1 a2 (k + 1) (rb k).toNatClampNeg q < q := fun k _ => Nat.mod_lt _ (by omega)
      obtain ⟨v9, hv9, r9⟩ := tp_loop N hq hn2 hnq (y := fun k => ptN a0 a1 a2 (k + 1) (rb k).toNatClampNeg q) _ _ _ cb p9 n 0 N hs (by omega) (by unfold NB at hN; omega) (fun i hi => absurd hi (by omega))
      obtain ⟨v10, hv10, r10⟩ := o22_loop N hq hn2 hnq (y := fun k => ptN a0 a1 a2 (k + 1) (rb k).toNatClampNeg q) (nI d) num rb (nI S) x2 p10 n 0 N sp (by omega) (by unfold NB at hN; omega) (fun i hi => absurd hi (by omega))
      obtain ⟨z, z1, z2⟩ := op_both N hN hq hn2 hnq (fun i hi => ⟨hv9 i hi, hy i hi⟩) (fun i hi => ⟨hv10 i hi, hy i hi⟩) (show S < 2 ^ n by omega) (show d ≤ 4 by omega) x2
      unfold f_X0_takePoints
      rw [show f_X0_takePoints_2 N (nI q) (nI n) (num 0) (num 1) (num 2) cb N hs 0 = _ from r9, show f_X10_open_22 N (nI q) (nI d) (nI n) num rb (nI S) x2 N sp 0 = _ from r10, Option.bind_some, z1, Option.bind_some]
      unfold f_X10_open_47
      rw [z2]
      exact ⟨_, _, rfl, rfl, rfl⟩
theorem eq_product : St_product := by
  intro N cp cd cn cs c1 c2 cb hs rp rd rn num rb sp x1 x2 hN hC
  obtain ⟨rfl, rfl, rfl, rfl, rfl, rfl, hb, q, d, n, rfl, hq, rfl, hd, rfl, hn1, hn2, hnq, hnum, hrb⟩ := hC
  unfold f_X9_product f_X10_product
  rw [hasSet0 N hn1 hn2, isSet10 N hn1 hn2, within_eq, in10 N x2 0 1 (by decide) (by decide)]
  simp only [grd]
  by_cases h : x1 < 0 ∨ nI (2 ^ n - 1) < x1
  · rw [if_pos h, if_pos h]; exact ⟨_, _, rfl, rfl, rfl⟩
  · rw [if_neg h, if_neg h]
    by_cases g : x2 < 0 ∨ 1 < x2
    · rw [if_pos g, if_pos g]; exact ⟨_, _, rfl, rfl, rfl⟩
    · rw [if_neg g, if_neg g]
      have h2n := two_le hn2
      have h2p : 0 < 2 ^ n := Nat.two_pow_pos n
      obtain ⟨S, _, hS, rfl⟩ := bnd (x := x1) 0 (2 ^ n - 1) (by omega) (by omega) h
      rw [bc64 N (show S < 64 by omega), bits10c N hN (show S < 64 by omega), Option.bind_some, Option.bind_some, show (2 : Int32) * nI d = nI (2 * d) from nI_mul 2 d]
      show ∃ (zc : O_X9_product) (zr : O_X10_product), (if nI (2 * d) < nI (cB (tbM S) 6) then _ else _) = some zc ∧ (if nI (2 * d) < nI (cB (tbM S) 6) then _ else _) = some zr ∧ zc.1 = zr.1
      by_cases l : nI (2 * d) < nI (cB (tbM S) 6)
      · rw [if_pos l, if_pos l]
        obtain ⟨a0, l0, e0⟩ := hnum 0 (by decide)
        obtain ⟨a1, l1, e1⟩ := hnum 1 (by decide)
        obtain ⟨a2, l2, e2⟩ := hnum 2 (by decide)
        have p9 : ∀ k, k < n → f_X0_bentPoint N (nI q) (num 0) (num 1) (num 2) cb (nI k) = some (nI (ptN a0 a1 a2 (k + 1) (rb k).toNatClampNeg q)) := by
          intro k hk
          obtain ⟨e, le, ee⟩ := hrb k (by omega)
          rw [ee, nI_clamp (by omega), e0, e1, e2]
          exact pt9 N hq l0 l1 l2 (show k < 6 by omega) le cb ((hb k (by omega)).trans ee)
        have p10 : ∀ k, k < n → f_X10_pointOf N (nI q) num rb (nI k) = some (nI (ptN a0 a1 a2 (k + 1) (rb k).toNatClampNeg q)) := by
          intro k hk
          obtain ⟨e, le, ee⟩ := hrb k (by omega)
          rw [pt10 N hq l0 l1 l2 (show k < 6 by omega) le num rb e0 e1 e2 ee, ee, nI_clamp (by omega)]
        have hy : ∀ k, k < n → ptN a0 a1 a2 (k + 1) (rb k).toNatClampNeg q < q := fun k _ => Nat.mod_lt _ (by omega)
        have hy2 : ∀ k, k < n → ptN a0 a1 a2 (k + 1) (rb k).toNatClampNeg q * ptN a0 a1 a2 (k + 1) (rb k).toNatClampNeg q % q < q := fun k _ => Nat.mod_lt _ (by omega)
        obtain ⟨v9, hv9, r9⟩ := ts_loop N hq hn2 hnq (y := fun k => ptN a0 a1 a2 (k + 1) (rb k).toNatClampNeg q) hy _ _ _ cb p9 n 0 N hs (by omega) (by unfold NB at hN; omega) (fun i hi => absurd hi (by omega))
        obtain ⟨v10, hv10, r10⟩ := p38_loop N hq hn2 hnq (y := fun k => ptN a0 a1 a2 (k + 1) (rb k).toNatClampNeg q) hy (nI d) num rb (nI S) x2 p10 n 0 N sp (by omega) (by unfold NB at hN; omega) (fun i hi => absurd hi (by omega))
        obtain ⟨z, z1, z2⟩ := op_both N hN hq hn2 hnq (fun i hi => ⟨hv9 i hi, hy2 i hi⟩) (fun i hi => ⟨hv10 i hi, hy2 i hi⟩) (show S < 2 ^ n by omega) (show 2 * d ≤ 4 by omega) x2
        unfold f_X0_takeSquares
        rw [show f_X0_takeSquares_2 N (nI q) (nI n) (num 0) (num 1) (num 2) cb N hs 0 = _ from r9, show f_X10_product_38 N (nI q) (nI d) (nI n) num rb (nI S) x2 N sp 0 = _ from r10, Option.bind_some, z1, Option.bind_some]
        unfold f_X10_product_74
        rw [show (2 : Int32) * nI d = nI (2 * d) from nI_mul 2 d, z2]
        exact ⟨_, _, rfl, rfl, rfl⟩
      · rw [if_neg l, if_neg l]; exact ⟨_, _, rfl, rfl, rfl⟩
