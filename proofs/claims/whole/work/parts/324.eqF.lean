/-! field: two loops of zeros -/
theorem field_l2 (N : Nat) (x1 x2 p d n mo ta : Int32) (num v : Nat → Int32) (y : Int32) : ∀ (m k fuel : Nat), k + m = 6 → m < fuel → f_X10_field_188 N x1 x2 fuel p d n mo ta num (fillR v 0 k) y (nI k) = some (y, p, d, n, 0, 0, num, fillR v 0 6) := by
  intro m
  induction m with
  | zero =>
    intro k fuel hk hf
    obtain ⟨f, rfl⟩ : ∃ f, fuel = f + 1 := ⟨fuel - 1, by omega⟩
    have e : k = 6 := by omega
    subst e
    rw [u_X10_field_188]
    unfold s_X10_field_188
    rw [if_pos (by decide)]
    rfl
  | succ m ih =>
    intro k fuel hk hf
    obtain ⟨f, rfl⟩ : ∃ f, fuel = f + 1 := ⟨fuel - 1, by omega⟩
    rw [u_X10_field_188]
    unfold s_X10_field_188
    rw [if_neg (show ¬ (6 : Int32) ≤ nI k from nI_ge (b := 6) (by omega) (by decide)), if_pos (gin_nI (show k < 6 by omega) (by decide)), nI_clamp (by omega), nI_1, fillR_s]
    exact ih (k + 1) f (by omega) (by omega)
theorem field_l1 (N : Nat) (hN : NB ≤ N) (x1 x2 p d n mo ta : Int32) (num v : Nat → Int32) (y : Int32) : ∀ (m k fuel : Nat), k + m = 3 → m < fuel → f_X10_field_165 N x1 x2 fuel p d n mo ta (fillR num 0 k) v y (nI k) = some (y, p, d, n, 0, 0, fillR num 0 3, fillR v 0 6) := by
  intro m
  induction m with
  | zero =>
    intro k fuel hk hf
    obtain ⟨f, rfl⟩ : ∃ f, fuel = f + 1 := ⟨fuel - 1, by omega⟩
    have e : k = 3 := by omega
    subst e
    rw [u_X10_field_165]
    unfold s_X10_field_165
    rw [if_pos (by decide)]
    have h := field_l2 N x1 x2 p d n mo ta (fillR num 0 3) v y 6 0 N (by omega) (by unfold NB at hN; omega)
    rw [fillR_0] at h
    exact h
  | succ m ih =>
    intro k fuel hk hf
    obtain ⟨f, rfl⟩ : ∃ f, fuel = f + 1 := ⟨fuel - 1, by omega⟩
    rw [u_X10_field_165]
    unfold s_X10_field_165
    rw [if_neg (show ¬ (3 : Int32) ≤ nI k from nI_ge (b := 3) (by omega) (by decide)), if_pos (gin_nI (show k < 3 by omega) (by decide)), nI_clamp (by omega), nI_1, fillR_s]
    exact ih (k + 1) f (by omega) (by omega)
theorem field_ll (N : Nat) (hN : NB ≤ N) (x1 x2 p d n mo ta : Int32) (num v : Nat → Int32) (y : Int32) : f_X10_field_165 N x1 x2 N p d n mo ta num v y 0 = some (y, p, d, n, 0, 0, fillR num 0 3, fillR v 0 6) := by
  have h := field_l1 N hN x1 x2 p d n mo ta num v y 3 0 N (by omega) (by unfold NB at hN; omega)
  rw [fillR_0] at h
  exact h
theorem field_R (q d n : Nat) (hq : q = 5 ∨ q = 7 ∨ q = 11 ∨ q = 13) (hd : d ≤ 2) (hn1 : 3 ≤ n) (hn2 : n ≤ 6) (hnq : n < q) (cb num rb fr th tm : Nat → Int32) :
    R_C (nI q) (nI d) (nI n) 0 0 0 (fillR cb 0 6) (nI q) (nI d) (nI n) (fillR num 0 3) (fillR rb 0 6) ∧ R_O (nI d) (nI n) 0 0 0 0 0 fr 0 th tm := by
  constructor
  · refine ⟨rfl, rfl, rfl, rfl, rfl, rfl, ?_, q, d, n, rfl, hq, rfl, hd, rfl, hn1, hn2, hnq, ?_, ?_⟩
    · intro j hj
      unfold fillR
      rw [if_pos hj, if_pos hj]
    · intro j hj
      unfold fillR
      rw [if_pos hj]
      exact ⟨0, by omega, rfl⟩
    · intro j hj
      unfold fillR
      rw [if_pos hj]
      exact ⟨0, by omega, rfl⟩
  · refine ⟨rfl, rfl, d, n, 0, 0, rfl, hd, rfl, hn1, hn2, rfl, by decide, rfl, by decide, fun k h => absurd h (Nat.not_lt_zero k), rfl, Or.inr ⟨rfl, ?_⟩⟩
    rintro ⟨u, hu, h⟩
    have e : u = 0 := Nat.le_zero.mp hu
    subst e
    rw [show rpM fr th tm 0 0 = 0 from rfl, show bits8 0 8 = nI 0 by decide] at h
    exact nI_nlt (Nat.zero_le d) (by omega) h
theorem eq_field : St_field := by
  intro N cp cd cn cs c1 c2 cb now taken hands out rp rd rn month rtaken num rb fr th tm x1 x2 hN hC hO
  obtain ⟨rfl, rfl, rfl, rfl, rfl, rfl, hb, q, d, n, rfl, hq, rfl, hd, rfl, hn1, hn2, hnq, hnum, hrb⟩ := hC
  obtain ⟨rfl, rfl, ho⟩ := hO
  have hold : ∃ (zc : O_X9_field) (zr : O_X10_field), some ((-1 : Int32), nI q, nI d, nI n, num 0, num 1, num 2, cb, now, taken, hands, out) = some zc ∧ some ((-1 : Int32), nI q, nI d, nI n, now, taken, num, rb) = some zr ∧ zc.1 = zr.1 ∧ R_C zc.2.1 zc.2.2.1 zc.2.2.2.1 zc.2.2.2.2.1 zc.2.2.2.2.2.1 zc.2.2.2.2.2.2.1 zc.2.2.2.2.2.2.2.1 zr.2.1 zr.2.2.1 zr.2.2.2.1 zr.2.2.2.2.2.2.1 zr.2.2.2.2.2.2.2 ∧ R_O zc.2.2.1 zc.2.2.2.1 zc.2.2.2.2.2.2.2.2.1 zc.2.2.2.2.2.2.2.2.2.1 zc.2.2.2.2.2.2.2.2.2.2.1 zc.2.2.2.2.2.2.2.2.2.2.2 zr.2.2.2.2.1 fr zr.2.2.2.2.2.1 th tm :=
    ⟨_, _, rfl, rfl, rfl, ⟨rfl, rfl, rfl, rfl, rfl, rfl, hb, q, d, n, rfl, hq, rfl, hd, rfl, hn1, hn2, hnq, hnum, hrb⟩, ⟨rfl, rfl, ho⟩⟩
  have hnew : ∀ (w : Int32) (q d n : Nat), (q = 5 ∨ q = 7 ∨ q = 11 ∨ q = 13) → d ≤ 2 → 3 ≤ n → n ≤ 6 → n < q → ∃ (zc : O_X9_field) (zr : O_X10_field), some (w, nI q, nI d, nI n, (0 : Int32), (0 : Int32), (0 : Int32), fillR cb 0 6, (0 : Int32), (0 : Int32), (0 : Int32), (0 : Int32)) = some zc ∧ some (w, nI q, nI d, nI n, (0 : Int32), (0 : Int32), fillR num 0 3, fillR rb 0 6) = some zr ∧ zc.1 = zr.1 ∧ R_C zc.2.1 zc.2.2.1 zc.2.2.2.1 zc.2.2.2.2.1 zc.2.2.2.2.2.1 zc.2.2.2.2.2.2.1 zc.2.2.2.2.2.2.2.1 zr.2.1 zr.2.2.1 zr.2.2.2.1 zr.2.2.2.2.2.2.1 zr.2.2.2.2.2.2.2 ∧ R_O zc.2.2.1 zc.2.2.2.1 zc.2.2.2.2.2.2.2.2.1 zc.2.2.2.2.2.2.2.2.2.1 zc.2.2.2.2.2.2.2.2.2.2.1 zc.2.2.2.2.2.2.2.2.2.2.2 zr.2.2.2.2.1 fr zr.2.2.2.2.2.1 th tm := fun w q d n a b c e f =>
    ⟨_, _, rfl, rfl, rfl, (field_R q d n a b c e f cb num rb fr th tm).1, (field_R q d n a b c e f cb num rb fr th tm).2⟩
  unfold f_X9_field f_X10_field f_X0_mayBecome f_X0_mayBecome_64 f_X1_beginAnew f_X0_become f_X0_become_27 f_X0_become_58 f_X0_draw f_X10_field_75 f_X10_field_76 f_X10_field_110 f_X10_field_125 f_X10_field_142 f_X10_field_159
  rw [wipe_eq N 6 cb (by unfold NB at hN; omega) (by decide)]
  simp only [within_eq, in10 N x2 0 2 (a := 0) (b := 2) (by decide) (by decide), in10 N x2 3 6 (a := 3) (b := 6) (by decide) (by decide), grd, grdz, Option.bind_some, field_ll N hN]
  by_cases e0 : x1 = 0
  · subst e0
    simp only [show ¬ ((0 : Int32) < 0 ∨ (2 : Int32) < 0) by decide, show ¬ (0 : Int32) = 1 by decide, show ¬ (0 : Int32) = 2 by decide, if_true, if_false]
    unfold f_X10_isPrime
    have main : ∀ q2 : Nat, (q2 = 5 ∨ q2 = 7 ∨ q2 = 11 ∨ q2 = 13) → x2 = nI q2 → ∃ (zc : O_X9_field) (zr : O_X10_field), ((if x2 ≤ nI n then some (0 : Int32) else some 1).bind fun z_15 => if z_15 = 0 then some ((-1 : Int32), nI q, nI d, nI n, num 0, num 1, num 2, cb, now, taken, hands, out) else some (nI q, x2, nI d, nI n, (0 : Int32), (0 : Int32), (0 : Int32), fillR cb 0 6, (0 : Int32), (0 : Int32), (0 : Int32), (0 : Int32))) = some zc ∧ (if x2 ≤ nI n then some ((-1 : Int32), nI q, nI d, nI n, now, taken, num, rb) else some (nI q, x2, nI d, nI n, (0 : Int32), (0 : Int32), fillR num 0 3, fillR rb 0 6)) = some zr ∧ zc.1 = zr.1 ∧ R_C zc.2.1 zc.2.2.1 zc.2.2.2.1 zc.2.2.2.2.1 zc.2.2.2.2.2.1 zc.2.2.2.2.2.2.1 zc.2.2.2.2.2.2.2.1 zr.2.1 zr.2.2.1 zr.2.2.2.1 zr.2.2.2.2.2.2.1 zr.2.2.2.2.2.2.2 ∧ R_O zc.2.2.1 zc.2.2.2.1 zc.2.2.2.2.2.2.2.2.1 zc.2.2.2.2.2.2.2.2.2.1 zc.2.2.2.2.2.2.2.2.2.2.1 zc.2.2.2.2.2.2.2.2.2.2.2 zr.2.2.2.2.1 fr zr.2.2.2.2.2.1 th tm := by
      intro q2 hq2 e
      subst e
      by_cases g : nI q2 ≤ nI n
      · simp only [if_pos g, Option.bind_some, if_true]; exact hold
      · simp only [if_neg g, Option.bind_some, show ¬ (1 : Int32) = 0 by decide, if_false]
        refine hnew (nI q) q2 d n hq2 hd hn1 hn2 ?_
        rcases Nat.lt_or_ge n q2 with h | h
        · exact h
        · exact absurd (nI_le h (by omega)) g
    by_cases p5 : x2 = 5
    · simp only [if_pos p5, Option.bind_some, show ¬ (1 : Int32) = 0 by decide, if_false, if_true]; exact main 5 (by omega) p5
    by_cases p7 : x2 = 7
    · simp only [if_neg p5, if_pos p7, Option.bind_some, show ¬ (1 : Int32) = 0 by decide, if_false, if_true]; exact main 7 (by omega) p7
    by_cases p11 : x2 = 11
    · simp only [if_neg p5, if_neg p7, if_pos p11, Option.bind_some, show ¬ (1 : Int32) = 0 by decide, if_false, if_true]; exact main 11 (by omega) p11
    by_cases p13 : x2 = 13
    · simp only [if_neg p5, if_neg p7, if_neg p11, if_pos p13, Option.bind_some, show ¬ (1 : Int32) = 0 by decide, if_false, if_true]; exact main 13 (by omega) p13
    simp only [if_neg p5, if_neg p7, if_neg p11, if_neg p13, Option.bind_some, if_true]
    exact hold
  by_cases e1 : x1 = 1
  · subst e1
    simp only [show ¬ ((1 : Int32) < 0 ∨ (2 : Int32) < 1) by decide, show ¬ (1 : Int32) = 0 by decide, show ¬ (1 : Int32) = 2 by decide, if_true, if_false, Option.bind_some]
    by_cases g : x2 < 0 ∨ 2 < x2
    · simp only [if_pos g, if_true, Option.bind_some]; exact hold
    · simp only [if_neg g, show ¬ (1 : Int32) = 0 by decide, if_false, Option.bind_some]
      obtain ⟨d2, _, hd2, rfl⟩ := bnd (x := x2) 0 2 (by decide) (by decide) g
      exact hnew (nI d) q d2 n hq hd2 hn1 hn2 hnq
  by_cases e2 : x1 = 2
  · subst e2
    simp only [show ¬ ((2 : Int32) < 0 ∨ (2 : Int32) < 2) by decide, show ¬ (2 : Int32) = 0 by decide, show ¬ (2 : Int32) = 1 by decide, if_true, if_false, Option.bind_some]
    by_cases g : x2 < 3 ∨ 6 < x2
    · simp only [if_pos g, if_true, Option.bind_some]; exact hold
    · simp only [if_neg g, show ¬ (1 : Int32) = 0 by decide, if_false, Option.bind_some]
      obtain ⟨n2, hn3, hn4, rfl⟩ := bnd (x := x2) 3 6 (by decide) (by decide) g
      by_cases w : nI q ≤ nI n2
      · simp only [if_pos w, if_true, Option.bind_some]; exact hold
      · simp only [if_neg w, show ¬ (1 : Int32) = 0 by decide, if_false, Option.bind_some]
        refine hnew (nI n) q d n2 hq hd hn3 hn4 ?_
        rcases Nat.lt_or_ge n2 q with h | h
        · exact h
        · exact absurd (nI_le h (by omega)) w
  have hx : x1 < 0 ∨ 2 < x1 := by
    rcases Int32.lt_or_le x1 0 with g | g
    · exact Or.inl g
    · rcases Int32.lt_or_le 2 x1 with g2 | g2
      · exact Or.inr g2
      · exfalso
        obtain ⟨j, _, hj, rfl⟩ := bnd (x := x1) 0 2 (by decide) (by decide) (fun h => h.elim (fun a => absurd a (Int32.not_lt.mpr g)) (fun a => absurd a (Int32.not_lt.mpr g2)))
        match j, hj with
        | 0, _ => exact e0 rfl
        | 1, _ => exact e1 rfl
        | 2, _ => exact e2 rfl
  simp only [if_pos hx, if_neg e0, if_neg e1, if_neg e2, if_true]
  exact hold
