theorem cell2 (N : Nat) (v : Nat → Int32) {k c : Nat} (hk : k < 16) (hc : c < 6) : f_X2_cell N v (nI k) (nI c) = some (v (6 * k + c)) := by
  unfold f_X2_cell
  rw [show (6 : Int32) = nI 6 from rfl, nI_mul, nI_add, Nat.mul_comm k 6, at_nI N v (show 6 * k + c < 96 by omega) (by decide)]
  rfl
theorem tr2 (t : Int64) (a b c : Int64) (h : a + b = c) : t + a + b = t + c := by rw [Int64.add_assoc, h]
theorem eq_weight : St_weight := by
  intro N tr cm a1 a2 a3 cc cp cd cn cs c1 c2 cb rtr ri rm rp rd rn w t a b dd num rb x1 x2 hN hP hM hC hZ
  obtain ⟨n, p1, p2, rfl, rfl, hok, _, _, _, _, hcells⟩ := hP
  obtain ⟨rfl, m, m1, m2, rfl⟩ := hM
  obtain ⟨_, rfl, _⟩ := hC
  have hZ : tr = rtr := hZ
  subst hZ
  have hold : ∃ (zc : O_X9_weight) (zr : O_X10_weight), some ((-1 : Int32), tr) = some zc ∧ some ((-1 : Int32), tr) = some zr ∧ zc.1 = zr.1 ∧ R_Z zc.2 zr.2 := ⟨_, _, rfl, rfl, rfl, rfl⟩
  unfold f_X9_weight f_X10_weight
  rw [within_eq, in10 N x1 0 5 (by decide) (by decide), has2, isItem10 N n p1 (by omega)]
  simp only [grd]
  by_cases h : x1 < 0 ∨ 5 < x1
  · simp only [if_pos h]; exact hold
  simp only [if_neg h]
  by_cases g : x2 < 0 ∨ nI n ≤ x2
  · simp only [if_pos g]; exact hold
  simp only [if_neg g]
  obtain ⟨k, hk, rfl⟩ := item_nI (show n < 2 ^ 31 by omega) g
  obtain ⟨q0, _, _, _, q4, _⟩ := hcells k hk
  have hg : gin (nI k) 32 = true := gin_nI (show k < 32 by omega) (by decide)
  unfold f_X9_sumWeight f_X9_curveWeight f_X9_bitWeight f_X9_sealedWeight f_X9_openedWeight f_X2_lotsOf f_X2_seenOf f_X9_sumWeight f_X9_curveWeight f_X2_lotsOf f_X9_shareWeight f_X10_weight_52 f_X10_weight_118 f_X10_weight_180
  rw [show (0 : Int32) = nI 0 from rfl, cell2 N cc (show k < 16 by omega) (show 0 < 6 by decide), show f_X2_cell N cc (nI k) 4 = some (cc (6 * k + 4)) from cell2 N cc (show k < 16 by omega) (show 4 < 6 by decide), Nat.add_zero, q0, q4]
  simp only [hg, if_true, nI_clamp (show k < 2 ^ 31 by omega), Option.bind_some, show nI 0 = 0 from rfl]
  have fin : ∀ (A B : Int32) (X Y : Int64), A = B → X = Y → ∃ (zc : O_X9_weight) (zr : O_X10_weight), some (A, X) = some zc ∧ some (B, Y) = some zr ∧ zc.1 = zr.1 ∧ R_Z zc.2 zr.2 := fun A B X Y e1 e2 => ⟨_, _, rfl, rfl, e1, e2⟩
  have t1 : tr + 10 + 1 = tr + 11 := tr2 tr 10 1 11 (by decide)
  have t2 : tr + 100 + 1 = tr + 101 := tr2 tr 100 1 101 (by decide)
  have t3 : tr + 1000 + 10 + 1 = tr + 1011 := by rw [tr2 tr 1000 10 1010 (by decide), tr2 tr 1010 1 1011 (by decide)]
  have t4 : tr + 10000 + 100 + 1 = tr + 10101 := by rw [tr2 tr 10000 100 10100 (by decide), tr2 tr 10100 1 10101 (by decide)]
  have t5 : tr + 100000 + 1 = tr + 100001 := tr2 tr 100000 1 100001 (by decide)
  by_cases w0 : w k = 0
  · have w4 : ¬ w k = 4 := fun e => absurd (w0.symm.trans e) (by decide)
    by_cases td : dd k = 0
    · simp only [if_pos w0, if_neg w4, if_pos td, Option.bind_some]
      by_cases x0 : x1 = 0
      · simp only [if_pos x0]; exact fin _ _ _ _ rfl rfl
      by_cases x_1 : x1 = 1
      · simp only [if_neg x0, if_pos x_1]; exact fin _ _ _ _ rfl t1
      by_cases x_2 : x1 = 2
      · simp only [if_neg x0, if_neg x_1, if_pos x_2]; exact fin _ _ _ _ rfl t2
      by_cases x_3 : x1 = 3
      · simp only [if_neg x0, if_neg x_1, if_neg x_2, if_pos x_3]; exact fin _ _ _ _ rfl t3
      by_cases x_4 : x1 = 4
      · simp only [if_neg x0, if_neg x_1, if_neg x_2, if_neg x_3, if_pos x_4]; exact fin _ _ _ _ rfl t4
      simp only [if_neg x0, if_neg x_1, if_neg x_2, if_neg x_3, if_neg x_4]; exact fin _ _ _ _ rfl t5
    · simp only [if_pos w0, if_neg w4, if_neg td, Option.bind_some]
      by_cases x0 : x1 = 0
      · simp only [if_pos x0]; exact fin _ _ _ _ rfl rfl
      by_cases x_1 : x1 = 1
      · simp only [if_neg x0, if_pos x_1]; exact fin _ _ _ _ rfl t1
      by_cases x_2 : x1 = 2
      · simp only [if_neg x0, if_neg x_1, if_pos x_2]; exact fin _ _ _ _ rfl t2
      by_cases x_3 : x1 = 3
      · simp only [if_neg x0, if_neg x_1, if_neg x_2, if_pos x_3]; exact fin _ _ _ _ rfl t3
      by_cases x_4 : x1 = 4
      · simp only [if_neg x0, if_neg x_1, if_neg x_2, if_neg x_3, if_pos x_4]; exact fin _ _ _ _ rfl t4
      simp only [if_neg x0, if_neg x_1, if_neg x_2, if_neg x_3, if_neg x_4]; exact fin _ _ _ _ rfl t5
  by_cases w4 : w k = 4
  · simp only [if_neg w0, if_pos w4, Option.bind_some]
    by_cases x0 : x1 = 0
    · simp only [if_pos x0]; exact fin _ _ _ _ rfl rfl
    by_cases x_1 : x1 = 1
    · simp only [if_neg x0, if_pos x_1]; exact fin _ _ _ _ rfl t1
    by_cases x_2 : x1 = 2
    · simp only [if_neg x0, if_neg x_1, if_pos x_2]; exact fin _ _ _ _ rfl t2
    by_cases x_3 : x1 = 3
    · simp only [if_neg x0, if_neg x_1, if_neg x_2, if_pos x_3]; exact fin _ _ _ _ rfl t3
    by_cases x_4 : x1 = 4
    · simp only [if_neg x0, if_neg x_1, if_neg x_2, if_neg x_3, if_pos x_4]; exact fin _ _ _ _ rfl t4
    simp only [if_neg x0, if_neg x_1, if_neg x_2, if_neg x_3, if_neg x_4]; exact fin _ _ _ _ rfl t5
  by_cases w5 : w k = 5
  · simp only [if_neg w0, if_neg w4, if_pos w5, Option.bind_some]
    by_cases x0 : x1 = 0
    · simp only [if_pos x0]; exact fin _ _ _ _ rfl rfl
    by_cases x_1 : x1 = 1
    · simp only [if_neg x0, if_pos x_1]; exact fin _ _ _ _ rfl t1
    by_cases x_2 : x1 = 2
    · simp only [if_neg x0, if_neg x_1, if_pos x_2]; exact fin _ _ _ _ rfl t2
    by_cases x_3 : x1 = 3
    · simp only [if_neg x0, if_neg x_1, if_neg x_2, if_pos x_3]; exact fin _ _ _ _ rfl t3
    by_cases x_4 : x1 = 4
    · simp only [if_neg x0, if_neg x_1, if_neg x_2, if_neg x_3, if_pos x_4]; exact fin _ _ _ _ rfl t4
    simp only [if_neg x0, if_neg x_1, if_neg x_2, if_neg x_3, if_neg x_4]; exact fin _ _ _ _ rfl t5
  simp only [if_neg w0, if_neg w4, if_neg w5, Option.bind_some]
  by_cases x0 : x1 = 0
  · simp only [if_pos x0]; exact fin _ _ _ _ rfl rfl
  by_cases x_1 : x1 = 1
  · simp only [if_neg x0, if_pos x_1]; exact fin _ _ _ _ rfl t1
  by_cases x_2 : x1 = 2
  · simp only [if_neg x0, if_neg x_1, if_pos x_2]; exact fin _ _ _ _ rfl t2
  by_cases x_3 : x1 = 3
  · simp only [if_neg x0, if_neg x_1, if_neg x_2, if_pos x_3]; exact fin _ _ _ _ rfl t3
  by_cases x_4 : x1 = 4
  · simp only [if_neg x0, if_neg x_1, if_neg x_2, if_neg x_3, if_pos x_4]; exact fin _ _ _ _ rfl t4
  simp only [if_neg x0, if_neg x_1, if_neg x_2, if_neg x_3, if_neg x_4]; exact fin _ _ _ _ rfl t5
theorem lieS_up (li lh lb : Nat → Int32) (c : Nat) (a b v i h : Int32) : ∀ k : Nat, k ≤ c → lieS (upd li c a) (upd lh c b) (upd lb c v) i h k = lieS li lh lb i h k := by
  intro k
  induction k with
  | zero => intro _; rfl
  | succ k ih =>
    intro hk
    show lieS (upd li c a) (upd lh c b) (upd lb c v) i h k + (if upd li c a k = i ∧ upd lh c b k = h then upd lb c v k else 0) = lieS li lh lb i h k + (if li k = i ∧ lh k = h then lb k else 0)
    rw [ih (by omega), pk_un (by omega), pk_un (by omega), pk_un (by omega)]
theorem eq_lie : St_lie := by
  intro N cc a1 a2 a3 cells cl ri rc w t a b dd li lh lb x1 x2 x3 hN hP hY
  obtain ⟨n, p1, p2, rfl, rfl, hok, _, _, _, _, hcells⟩ := hP
  obtain ⟨rfl, c, hc, rfl, hb, hs⟩ := hY
  have hold : ∀ z : Int32, ∃ (zc : O_X9_lie) (zr : O_X10_lie), some (z, nI c, cl) = some zc ∧ some (z, nI c, li, lh, lb) = some zr ∧ zc.1 = zr.1 ∧ R_Y zc.2.1 zc.2.2 zr.2.1 zr.2.2.1 zr.2.2.2.1 zr.2.2.2.2 := fun z => ⟨_, _, rfl, rfl, rfl, rfl, c, hc, rfl, hb, hs⟩
  unfold f_X9_lie f_X10_lie f_X9_lie_61 f_X10_lie_28
  rw [has2, isItem10 N n p1 (by omega), isHand9, isHand10, within_eq, in10 N x3 1 15 (by decide) (by decide)]
  simp only [grd]
  by_cases g : x1 < 0 ∨ nI n ≤ x1
  · simp only [if_pos g]; exact hold _
  simp only [if_neg g]
  obtain ⟨k, hk, rfl⟩ := item_nI (show n < 2 ^ 31 by omega) g
  obtain ⟨q0, _⟩ := hcells k hk
  have hg : gin (nI k) 32 = true := gin_nI (show k < 32 by omega) (by decide)
  rw [show f_X2_cell N cells (nI k) 0 = some (cells (6 * k + 0)) from cell2 N cells (show k < 16 by omega) (show 0 < 6 by decide), Nat.add_zero, q0]
  simp only [hg, if_true, nI_clamp (show k < 2 ^ 31 by omega), Option.bind_some]
  have last : ∃ (zc : O_X9_lie) (zr : O_X10_lie), (if x2 < 0 ∨ 2 < x2 then some ((-1 : Int32), nI c, cl) else if x3 < 1 ∨ 15 < x3 then some ((-1 : Int32), nI c, cl) else if nI c < 6 then (f_X6_addLie N (nI k) x2 x3 (nI c) cl).bind fun z_83 => some (z_83.1, z_83.1, z_83.2) else some ((-3 : Int32), nI c, cl)) = some zc ∧
      (if x2 < 0 ∨ 2 < x2 then some ((-1 : Int32), nI c, li, lh, lb) else if x3 < 1 ∨ 15 < x3 then some ((-1 : Int32), nI c, li, lh, lb) else if nI c = 6 then some ((-3 : Int32), nI c, li, lh, lb) else if gin (nI c) 6 = true then if gin (nI c) 6 = true then if gin (nI c) 6 = true then some (nI c + 1, nI c + 1, upd li (nI c).toNatClampNeg (nI k), upd lh (nI c).toNatClampNeg x2, upd lb (nI c).toNatClampNeg x3) else none else none else none) = some zr ∧ zc.1 = zr.1 ∧ R_Y zc.2.1 zc.2.2 zr.2.1 zr.2.2.1 zr.2.2.2.1 zr.2.2.2.2 := by
    by_cases h2 : x2 < 0 ∨ 2 < x2
    · simp only [if_pos h2]; exact hold _
    simp only [if_neg h2]
    by_cases h3 : x3 < 1 ∨ 15 < x3
    · simp only [if_pos h3]; exact hold _
    simp only [if_neg h3]
    obtain ⟨hd, _, hhd, rfl⟩ := bnd (x := x2) 0 2 (by decide) (by decide) h2
    obtain ⟨v, hv1, hv2, rfl⟩ := bnd (x := x3) 1 15 (by decide) (by decide) h3
    rcases Nat.lt_or_ge c 6 with q | q
    · rw [if_pos (show nI c < 6 from nI_lt (b := 6) q (by decide)), if_neg (show ¬ nI c = 6 from fun e => by have := (nI_eq (b := 6) (by omega) (by decide)).mp e; omega)]
      simp only [gin_nI q (show 6 < 2 ^ 31 by decide), if_true, nI_clamp (show c < 2 ^ 31 by omega)]
      unfold f_X6_addLie
      rw [show (3 : Int32) = nI 3 from rfl, nI_mul, nI_add, at_nI N cl (show k * 3 + hd < 48 by omega) (by decide)]
      simp only [Option.bind_some]
      rw [put_nI N cl _ (show k * 3 + hd < 48 by omega) (by decide)]
      simp only [Option.bind_some]
      rw [show nI c + 1 = nI (c + 1) from nI_1 c]
      refine ⟨_, _, rfl, rfl, rfl, rfl, c + 1, by omega, rfl, ?_, ?_⟩
      · intro j hj
        show ∃ v', 1 ≤ v' ∧ v' ≤ 15 ∧ upd lb c (nI v) j = nI v'
        by_cases e : j = c
        · rw [e, pk_us]; exact ⟨v, hv1, hv2, rfl⟩
        · rw [pk_un e]; exact hb j (by omega)
      · intro i h hi hh
        show upd cl (k * 3 + hd) (cl (k * 3 + hd) + nI v) (3 * i + h) = lieS (upd li c (nI k)) (upd lh c (nI hd)) (upd lb c (nI v)) (nI i) (nI h) c + (if upd li c (nI k) c = nI i ∧ upd lh c (nI hd) c = nI h then upd lb c (nI v) c else 0)
        rw [lieS_up li lh lb c _ _ _ _ _ c (Nat.le_refl c), pk_us, pk_us, pk_us, ← hs i h hi hh]
        by_cases e : 3 * i + h = k * 3 + hd
        · have e1 : i = k := by omega
          have e2 : h = hd := by omega
          subst e1 e2
          rw [e, pk_us, if_pos ⟨rfl, rfl⟩]
        · rw [pk_un e, if_neg]
          · exact (Int32.add_zero _).symm
          · rintro ⟨e1, e2⟩
            have e1' := (nI_eq (by omega) (by omega)).mp e1
            have e2' := (nI_eq (by omega) (by omega)).mp e2
            omega
    · have e : c = 6 := by omega
      subst e
      exact hold _
  by_cases w4 : w k = 4
  · simp only [if_pos w4]; exact last
  by_cases w5 : w k = 5
  · simp only [if_neg w4, if_pos w5]; exact last
  simp only [if_neg w4, if_neg w5, ite_self]
  exact hold _
