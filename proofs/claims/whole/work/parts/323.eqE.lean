/-! remainders; the curve's plain calls -/
def md (v m : Int32) : Int32 := if 0 ≤ v - v / m * m then v - v / m * m else v - v / m * m + m
theorem mod9 (N : Nat) (v : Int32) {q : Nat} (h1 : 1 ≤ q) (h2 : q < 2 ^ 31) : f_X9_mod N v (nI q) = some (md v (nI q)) := by
  unfold f_X9_mod md
  rw [if_pos (show (1 : Int32) ≤ nI q from nI_le (a := 1) h1 h2), if_neg (nI_ne0 (by omega) h2)]
  by_cases h : 0 ≤ v - v / nI q * nI q
  · rw [if_pos h, if_pos h]
  · rw [if_neg h, if_neg h]
theorem mod10 (N : Nat) (v : Int32) {q : Nat} (h1 : 1 ≤ q) (h2 : q < 2 ^ 31) : f_X10_mod N (nI q) v = some (md v (nI q)) := by
  unfold f_X10_mod md
  rw [if_neg (nI_ne0 (by omega) h2)]
  by_cases h : 0 ≤ v - v / nI q * nI q
  · rw [if_pos h, if_pos h]
  · rw [if_neg h, if_neg h]
theorem md_nI {a q : Nat} (ha : a < 2 ^ 31) (h1 : 1 ≤ q) (h2 : q < 2 ^ 31) : md (nI a) (nI q) = nI (a % q) := by
  unfold md
  have hlt : a % q < q := Nat.mod_lt a (by omega)
  rw [pk_rem ha (by omega) h2, if_pos (nI_pos' (by omega))]
/-- a curve's point, bent: as a number -/
def ptN (a b c x e q : Nat) : Nat := (a + b * x + c * x * x + e) % q
theorem pt9 (N : Nat) {q a b c h e : Nat} (hq : q = 5 ∨ q = 7 ∨ q = 11 ∨ q = 13) (ha : a < q) (hb : b < q) (hc : c < q) (hh : h < 6) (he : e < q) (v : Nat → Int32) (ev : v h = nI e) :
    f_X0_bentPoint N (nI q) (nI a) (nI b) (nI c) v (nI h) = some (nI (ptN a b c (h + 1) e q)) := by
  unfold f_X0_bentPoint
  rw [at_nI N v (show h < 6 from hh) (by decide), ev]
  simp only [Option.bind_some]
  rw [show nI h + 1 = nI (h + 1) from nI_1 h, nI_mul, nI_mul, nI_mul, nI_add, nI_add, nI_add]
  have hb1 : b * (h + 1) ≤ 13 * 6 := Nat.mul_le_mul (by omega) (by omega)
  have hc1 : c * (h + 1) ≤ 13 * 6 := Nat.mul_le_mul (by omega) (by omega)
  have hc2 : c * (h + 1) * (h + 1) ≤ 78 * 6 := Nat.mul_le_mul hc1 (by omega)
  rw [mod9 N _ (show 1 ≤ q by omega) (by omega), md_nI (by omega) (by omega) (by omega)]
  rfl
theorem pt10 (N : Nat) {q a b c h e : Nat} (hq : q = 5 ∨ q = 7 ∨ q = 11 ∨ q = 13) (ha : a < q) (hb : b < q) (hc : c < q) (hh : h < 6) (he : e < q) (num v : Nat → Int32) (e0 : num 0 = nI a) (e1 : num 1 = nI b) (e2 : num 2 = nI c) (ev : v h = nI e) :
    f_X10_pointOf N (nI q) num v (nI h) = some (nI (ptN a b c (h + 1) e q)) := by
  unfold f_X10_pointOf
  rw [if_pos (by decide), if_pos (by decide), if_pos (by decide), if_pos (gin_nI (show h < 6 from hh) (by decide)), if_neg (nI_ne0 (by omega) (by omega))]
  rw [show (0 : Int32).toNatClampNeg = 0 from rfl, show (1 : Int32).toNatClampNeg = 1 from rfl, show (2 : Int32).toNatClampNeg = 2 from rfl, nI_clamp (by omega), e0, e1, e2, ev]
  rw [show nI h + 1 = nI (h + 1) from nI_1 h, nI_mul, nI_mul, nI_mul, nI_add, nI_add, nI_add]
  have hb1 : b * (h + 1) ≤ 13 * 6 := Nat.mul_le_mul (by omega) (by omega)
  have hc1 : c * (h + 1) ≤ 13 * 6 := Nat.mul_le_mul (by omega) (by omega)
  have hc2 : c * (h + 1) * (h + 1) ≤ 78 * 6 := Nat.mul_le_mul hc1 (by omega)
  rw [pk_rem (by omega) (by omega) (by omega)]
  rfl
theorem eq_point : St_point := by
  intro N cp cd cn cs c1 c2 cb rp rd rn num rb x1 hN hC
  obtain ⟨rfl, rfl, rfl, rfl, rfl, rfl, hb, q, d, n, rfl, hq, rfl, hd, rfl, hn1, hn2, hnq, hnum, hrb⟩ := hC
  unfold f_X9_point f_X10_point
  rw [hasHand0 N n (by omega), isPoint10 N n (by omega) (by omega)]
  simp only [grd]
  by_cases h : x1 < 0 ∨ nI (n - 1) < x1
  · exact ⟨_, _, if_pos h, if_pos h, rfl⟩
  · rw [if_neg h, if_neg h]
    obtain ⟨k, _, hk, rfl⟩ := bnd (x := x1) 0 (n - 1) (by omega) (by omega) h
    obtain ⟨a0, l0, e0⟩ := hnum 0 (by decide)
    obtain ⟨a1, l1, e1⟩ := hnum 1 (by decide)
    obtain ⟨a2, l2, e2⟩ := hnum 2 (by decide)
    obtain ⟨e, le, ee⟩ := hrb k (by omega)
    rw [e0, e1, e2, pt9 N hq l0 l1 l2 (show k < 6 by omega) le cb ((hb k (by omega)).trans ee), pt10 N hq l0 l1 l2 (show k < 6 by omega) le num rb e0 e1 e2 ee]
    exact ⟨_, _, rfl, rfl, rfl⟩
theorem eq_bend : St_bend := by
  intro N cp cd cn cs c1 c2 cb rp rd rn num rb x1 x2 hN hC
  obtain ⟨rfl, rfl, rfl, rfl, rfl, rfl, hb, q, d, n, rfl, hq, rfl, hd, rfl, hn1, hn2, hnq, hnum, hrb⟩ := hC
  unfold f_X9_bend f_X10_bend
  rw [hasHand0 N n (by omega), isPoint10 N n (by omega) (by omega), isNumber0 N q (by omega), in10 N x2 0 (nI q - 1) (by decide) rfl, nI_subl (show 1 ≤ q by omega)]
  simp only [grd]
  have hold : ∀ z1 z2 : Int32, z1 = z2 → ∃ (zc : O_X9_bend) (zr : O_X10_bend), some (z1, cb) = some zc ∧ some (z2, rb) = some zr ∧ zc.1 = zr.1 ∧ R_C (nI q) (nI d) (nI n) (num 0) (num 1) (num 2) zc.2 (nI q) (nI d) (nI n) num zr.2 := fun z1 z2 e =>
    ⟨_, _, rfl, rfl, e, rfl, rfl, rfl, rfl, rfl, rfl, hb, q, d, n, rfl, hq, rfl, hd, rfl, hn1, hn2, hnq, hnum, hrb⟩
  by_cases h : x1 < 0 ∨ nI (n - 1) < x1
  · rw [if_pos h, if_pos h]; exact hold _ _ rfl
  · rw [if_neg h, if_neg h]
    by_cases g : x2 < 0 ∨ nI (q - 1) < x2
    · rw [if_pos g, if_pos g]; exact hold _ _ rfl
    · rw [if_neg g, if_neg g]
      obtain ⟨k, _, hk, rfl⟩ := bnd (x := x1) 0 (n - 1) (by omega) (by omega) h
      obtain ⟨v, _, hv, rfl⟩ := bnd (x := x2) 0 (q - 1) (by omega) (by omega) g
      rw [swap_nI N cb (nI v) (show k < 6 by omega) (by decide), if_pos (gin_nI (show k < 6 by omega) (by decide)), if_pos (gin_nI (show k < 6 by omega) (by decide)), nI_clamp (by omega)]
      refine ⟨_, _, rfl, rfl, hb k (by omega), rfl, rfl, rfl, rfl, rfl, rfl, ?_, q, d, n, rfl, hq, rfl, hd, rfl, hn1, hn2, hnq, hnum, ?_⟩
      · intro j hj
        show upd cb k (nI v) j = upd rb k (nI v) j
        by_cases e : j = k
        · rw [e, pk_us, pk_us]
        · rw [pk_un e, pk_un e]; exact hb j hj
      · intro j hj
        show ∃ a, a < q ∧ upd rb k (nI v) j = nI a
        by_cases e : j = k
        · rw [e, pk_us]; exact ⟨v, by omega, rfl⟩
        · rw [pk_un e]; exact hrb j hj
/-- six places filled with 0, one after the other -/
theorem curve_loop (N : Nat) (p d n x1 x2 x3 : Int32) (num v : Nat → Int32) : ∀ (m k fuel : Nat), k + m = 6 → m < fuel → f_X10_curve_97 N p d n x1 x2 x3 fuel num (fillR v 0 k) (nI k) = some (n, num, fillR v 0 6) := by
  intro m
  induction m with
  | zero =>
    intro k fuel hk hf
    obtain ⟨f, rfl⟩ : ∃ f, fuel = f + 1 := ⟨fuel - 1, by omega⟩
    have e : k = 6 := by omega
    subst e
    rw [u_X10_curve_97]
    unfold s_X10_curve_97
    rw [if_pos (by decide)]
  | succ m ih =>
    intro k fuel hk hf
    obtain ⟨f, rfl⟩ : ∃ f, fuel = f + 1 := ⟨fuel - 1, by omega⟩
    rw [u_X10_curve_97]
    unfold s_X10_curve_97
    rw [if_neg (show ¬ (6 : Int32) ≤ nI k from nI_ge (b := 6) (by omega) (by decide)), if_pos (gin_nI (show k < 6 by omega) (by decide)), nI_clamp (by omega), nI_1, fillR_s]
    exact ih (k + 1) f (by omega) (by omega)
theorem curve_end (N : Nat) (hN : NB ≤ N) (p d n x1 x2 x3 : Int32) (num v : Nat → Int32) : f_X10_curve_97 N p d n x1 x2 x3 N num v 0 = some (n, num, fillR v 0 6) := by
  have h := curve_loop N p d n x1 x2 x3 num v 6 0 N (by omega) (by unfold NB at hN; omega)
  rw [fillR_0] at h
  exact h
theorem eq_curve : St_curve := by
  intro N cp cd cn cs c1 c2 cb rp rd rn num rb x1 x2 x3 hN hC
  obtain ⟨rfl, rfl, rfl, rfl, rfl, rfl, hb, q, d, n, rfl, hq, rfl, hd, rfl, hn1, hn2, hnq, hnum, hrb⟩ := hC
  have hold : ∃ (zc : O_X9_curve) (zr : O_X10_curve), some ((-1 : Int32), num 0, num 1, num 2, cb) = some zc ∧ some ((-1 : Int32), num, rb) = some zr ∧ zc.1 = zr.1 ∧ R_C (nI q) (nI d) (nI n) zc.2.1 zc.2.2.1 zc.2.2.2.1 zc.2.2.2.2 (nI q) (nI d) (nI n) zr.2.1 zr.2.2 :=
    ⟨_, _, rfl, rfl, rfl, rfl, rfl, rfl, rfl, rfl, rfl, hb, q, d, n, rfl, hq, rfl, hd, rfl, hn1, hn2, hnq, hnum, hrb⟩
  unfold f_X9_curve f_X10_curve f_X9_curve_50 f_X9_curve_67 f_X10_curve_37 f_X10_curve_65 f_X0_draw
  rw [isNumber0 N q (by omega), isNumber0 N q (by omega), isNumber0 N q (by omega), wipe_eq N 6 cb (by unfold NB at hN; omega) (by decide)]
  simp only [in10 N x1 0 (nI q - 1) (a := 0) (b := (nI q - 1).toInt64) (by decide) rfl, in10 N x2 0 (nI q - 1) (a := 0) (b := (nI q - 1).toInt64) (by decide) rfl, in10 N x3 0 (nI q - 1) (a := 0) (b := (nI q - 1).toInt64) (by decide) rfl, in10 N x2 0 0 (a := 0) (b := 0) (by decide) (by decide), in10 N x3 0 0 (a := 0) (b := 0) (by decide) (by decide), grd, curve_end N hN, Option.bind_some]
  rw [nI_subl (show 1 ≤ q by omega)]
  simp only [show gin (0 : Int32) 3 = true from rfl, show gin (1 : Int32) 3 = true from rfl, show gin (2 : Int32) 3 = true from rfl, if_true]
  have z0 : ∀ x : Int32, (x < 0 ∨ 0 < x) ↔ ¬ x = 0 := fun x => ⟨fun h e => by subst e; exact absurd h (by decide), fun h => by
    rcases Int32.lt_or_le x 0 with g | g
    · exact Or.inl g
    · exact Or.inr (Int32.lt_of_le_of_ne g (fun e => h e.symm))⟩
  have zq : ∀ x : Int32, x = 0 → ¬ (x < 0 ∨ nI (q - 1) < x) := fun x e g => by
    subst e
    rcases g with g | g
    · exact absurd g (by decide)
    · exact nI_pos (show q - 1 < 2 ^ 31 by omega) g
  have hnew : ∀ (P1 : ¬ (x1 < 0 ∨ nI (q - 1) < x1)) (P2 : ¬ (x2 < 0 ∨ nI (q - 1) < x2)) (P3 : ¬ (x3 < 0 ∨ nI (q - 1) < x3)), ∃ (zc : O_X9_curve) (zr : O_X10_curve), some (nI n, x1, x2, x3, fillR cb 0 6) = some zc ∧ some (nI n, upd (upd (upd num (0 : Int32).toNatClampNeg x1) (1 : Int32).toNatClampNeg x2) (2 : Int32).toNatClampNeg x3, fillR rb 0 6) = some zr ∧ zc.1 = zr.1 ∧ R_C (nI q) (nI d) (nI n) zc.2.1 zc.2.2.1 zc.2.2.2.1 zc.2.2.2.2 (nI q) (nI d) (nI n) zr.2.1 zr.2.2 := by
    intro h1 h2 h3
    obtain ⟨a1, _, l1, rfl⟩ := bnd (x := x1) 0 (q - 1) (by omega) (by omega) h1
    obtain ⟨a2, _, l2, rfl⟩ := bnd (x := x2) 0 (q - 1) (by omega) (by omega) h2
    obtain ⟨a3, _, l3, rfl⟩ := bnd (x := x3) 0 (q - 1) (by omega) (by omega) h3
    refine ⟨_, _, rfl, rfl, rfl, rfl, rfl, rfl, rfl, rfl, rfl, ?_, q, d, n, rfl, hq, rfl, hd, rfl, hn1, hn2, hnq, ?_, ?_⟩
    · intro j hj
      show fillR cb 0 6 j = fillR rb 0 6 j
      unfold fillR
      rw [if_pos hj, if_pos hj]
    · intro j hj
      match j, hj with
      | 0, _ => exact ⟨a1, by omega, rfl⟩
      | 1, _ => exact ⟨a2, by omega, rfl⟩
      | 2, _ => exact ⟨a3, by omega, rfl⟩
    · intro j hj
      show ∃ a, a < q ∧ fillR rb 0 6 j = nI a
      unfold fillR
      rw [if_pos hj]
      exact ⟨0, by omega, rfl⟩
  have hd3 : d = 0 ∨ d = 1 ∨ d = 2 := by omega
  simp only [z0]
  by_cases P1 : x1 < 0 ∨ nI (q - 1) < x1
  · simp only [if_pos P1]; exact hold
  by_cases P2 : x2 < 0 ∨ nI (q - 1) < x2
  · have E2 : ¬ x2 = 0 := fun e => zq x2 e P2
    rcases hd3 with rfl | rfl | rfl
    · simp only [if_neg (show ¬ (1 : Int32) ≤ nI 0 by decide), if_neg (show ¬ (2 : Int32) ≤ nI 0 by decide), if_pos (show nI 0 ≤ (0 : Int32) by decide), if_pos (show nI 0 ≤ (1 : Int32) by decide), if_neg P1, if_pos P2, if_neg E2, if_pos E2]
      exact hold
    · simp only [if_pos (show (1 : Int32) ≤ nI 1 by decide), if_neg (show ¬ (2 : Int32) ≤ nI 1 by decide), if_neg (show ¬ nI 1 ≤ (0 : Int32) by decide), if_pos (show nI 1 ≤ (1 : Int32) by decide), if_neg P1, if_pos P2, if_neg E2, if_pos E2]
      exact hold
    · simp only [if_pos (show (1 : Int32) ≤ nI 2 by decide), if_pos (show (2 : Int32) ≤ nI 2 by decide), if_neg (show ¬ nI 2 ≤ (0 : Int32) by decide), if_neg (show ¬ nI 2 ≤ (1 : Int32) by decide), if_neg P1, if_pos P2, if_neg E2, if_pos E2]
      exact hold
  by_cases P3 : x3 < 0 ∨ nI (q - 1) < x3
  · have E3 : ¬ x3 = 0 := fun e => zq x3 e P3
    by_cases E2 : x2 = 0
    · have nE2 : ¬ ¬ x2 = 0 := fun h => h E2
      rcases hd3 with rfl | rfl | rfl
      · simp only [if_neg (show ¬ (1 : Int32) ≤ nI 0 by decide), if_neg (show ¬ (2 : Int32) ≤ nI 0 by decide), if_pos (show nI 0 ≤ (0 : Int32) by decide), if_pos (show nI 0 ≤ (1 : Int32) by decide), if_neg P1, if_neg P2, if_pos P3, if_pos E2, if_neg nE2, if_neg E3, if_pos E3]
        exact hold
      · simp only [if_pos (show (1 : Int32) ≤ nI 1 by decide), if_neg (show ¬ (2 : Int32) ≤ nI 1 by decide), if_neg (show ¬ nI 1 ≤ (0 : Int32) by decide), if_pos (show nI 1 ≤ (1 : Int32) by decide), if_neg P1, if_neg P2, if_pos P3, if_pos E2, if_neg nE2, if_neg E3, if_pos E3]
        exact hold
      · simp only [if_pos (show (1 : Int32) ≤ nI 2 by decide), if_pos (show (2 : Int32) ≤ nI 2 by decide), if_neg (show ¬ nI 2 ≤ (0 : Int32) by decide), if_neg (show ¬ nI 2 ≤ (1 : Int32) by decide), if_neg P1, if_neg P2, if_pos P3, if_pos E2, if_neg nE2, if_neg E3, if_pos E3]
        exact hold
    · rcases hd3 with rfl | rfl | rfl
      · simp only [if_neg (show ¬ (1 : Int32) ≤ nI 0 by decide), if_neg (show ¬ (2 : Int32) ≤ nI 0 by decide), if_pos (show nI 0 ≤ (0 : Int32) by decide), if_pos (show nI 0 ≤ (1 : Int32) by decide), if_neg P1, if_neg P2, if_pos P3, if_neg E2, if_pos E2, if_neg E3, if_pos E3]
        exact hold
      · simp only [if_pos (show (1 : Int32) ≤ nI 1 by decide), if_neg (show ¬ (2 : Int32) ≤ nI 1 by decide), if_neg (show ¬ nI 1 ≤ (0 : Int32) by decide), if_pos (show nI 1 ≤ (1 : Int32) by decide), if_neg P1, if_neg P2, if_pos P3, if_neg E2, if_pos E2, if_neg E3, if_pos E3]
        exact hold
      · simp only [if_pos (show (1 : Int32) ≤ nI 2 by decide), if_pos (show (2 : Int32) ≤ nI 2 by decide), if_neg (show ¬ nI 2 ≤ (0 : Int32) by decide), if_neg (show ¬ nI 2 ≤ (1 : Int32) by decide), if_neg P1, if_neg P2, if_pos P3, if_neg E2, if_pos E2, if_neg E3, if_pos E3]
        exact hold
  by_cases E2 : x2 = 0
  · have nE2 : ¬ ¬ x2 = 0 := fun h => h E2
    by_cases E3 : x3 = 0
    · have nE3 : ¬ ¬ x3 = 0 := fun h => h E3
      rcases hd3 with rfl | rfl | rfl
      · simp only [if_neg (show ¬ (1 : Int32) ≤ nI 0 by decide), if_neg (show ¬ (2 : Int32) ≤ nI 0 by decide), if_pos (show nI 0 ≤ (0 : Int32) by decide), if_pos (show nI 0 ≤ (1 : Int32) by decide), if_neg P1, if_neg P2, if_neg P3, if_pos E2, if_neg nE2, if_pos E3, if_neg nE3]
        first | exact hold | exact hnew P1 P2 P3
      · simp only [if_pos (show (1 : Int32) ≤ nI 1 by decide), if_neg (show ¬ (2 : Int32) ≤ nI 1 by decide), if_neg (show ¬ nI 1 ≤ (0 : Int32) by decide), if_pos (show nI 1 ≤ (1 : Int32) by decide), if_neg P1, if_neg P2, if_neg P3, if_pos E2, if_neg nE2, if_pos E3, if_neg nE3]
        first | exact hold | exact hnew P1 P2 P3
      · simp only [if_pos (show (1 : Int32) ≤ nI 2 by decide), if_pos (show (2 : Int32) ≤ nI 2 by decide), if_neg (show ¬ nI 2 ≤ (0 : Int32) by decide), if_neg (show ¬ nI 2 ≤ (1 : Int32) by decide), if_neg P1, if_neg P2, if_neg P3, if_pos E2, if_neg nE2, if_pos E3, if_neg nE3]
        first | exact hold | exact hnew P1 P2 P3
    · rcases hd3 with rfl | rfl | rfl
      · simp only [if_neg (show ¬ (1 : Int32) ≤ nI 0 by decide), if_neg (show ¬ (2 : Int32) ≤ nI 0 by decide), if_pos (show nI 0 ≤ (0 : Int32) by decide), if_pos (show nI 0 ≤ (1 : Int32) by decide), if_neg P1, if_neg P2, if_neg P3, if_pos E2, if_neg nE2, if_neg E3, if_pos E3]
        first | exact hold | exact hnew P1 P2 P3
      · simp only [if_pos (show (1 : Int32) ≤ nI 1 by decide), if_neg (show ¬ (2 : Int32) ≤ nI 1 by decide), if_neg (show ¬ nI 1 ≤ (0 : Int32) by decide), if_pos (show nI 1 ≤ (1 : Int32) by decide), if_neg P1, if_neg P2, if_neg P3, if_pos E2, if_neg nE2, if_neg E3, if_pos E3]
        first | exact hold | exact hnew P1 P2 P3
      · simp only [if_pos (show (1 : Int32) ≤ nI 2 by decide), if_pos (show (2 : Int32) ≤ nI 2 by decide), if_neg (show ¬ nI 2 ≤ (0 : Int32) by decide), if_neg (show ¬ nI 2 ≤ (1 : Int32) by decide), if_neg P1, if_neg P2, if_neg P3, if_pos E2, if_neg nE2, if_neg E3, if_pos E3]
        first | exact hold | exact hnew P1 P2 P3
  · skip
    by_cases E3 : x3 = 0
    · have nE3 : ¬ ¬ x3 = 0 := fun h => h E3
      rcases hd3 with rfl | rfl | rfl
      · simp only [if_neg (show ¬ (1 : Int32) ≤ nI 0 by decide), if_neg (show ¬ (2 : Int32) ≤ nI 0 by decide), if_pos (show nI 0 ≤ (0 : Int32) by decide), if_pos (show nI 0 ≤ (1 : Int32) by decide), if_neg P1, if_neg P2, if_neg P3, if_neg E2, if_pos E2, if_pos E3, if_neg nE3]
        first | exact hold | exact hnew P1 P2 P3
      · simp only [if_pos (show (1 : Int32) ≤ nI 1 by decide), if_neg (show ¬ (2 : Int32) ≤ nI 1 by decide), if_neg (show ¬ nI 1 ≤ (0 : Int32) by decide), if_pos (show nI 1 ≤ (1 : Int32) by decide), if_neg P1, if_neg P2, if_neg P3, if_neg E2, if_pos E2, if_pos E3, if_neg nE3]
        first | exact hold | exact hnew P1 P2 P3
      · simp only [if_pos (show (1 : Int32) ≤ nI 2 by decide), if_pos (show (2 : Int32) ≤ nI 2 by decide), if_neg (show ¬ nI 2 ≤ (0 : Int32) by decide), if_neg (show ¬ nI 2 ≤ (1 : Int32) by decide), if_neg P1, if_neg P2, if_neg P3, if_neg E2, if_pos E2, if_pos E3, if_neg nE3]
        first | exact hold | exact hnew P1 P2 P3
    · rcases hd3 with rfl | rfl | rfl
      · simp only [if_neg (show ¬ (1 : Int32) ≤ nI 0 by decide), if_neg (show ¬ (2 : Int32) ≤ nI 0 by decide), if_pos (show nI 0 ≤ (0 : Int32) by decide), if_pos (show nI 0 ≤ (1 : Int32) by decide), if_neg P1, if_neg P2, if_neg P3, if_neg E2, if_pos E2, if_neg E3, if_pos E3]
        first | exact hold | exact hnew P1 P2 P3
      · simp only [if_pos (show (1 : Int32) ≤ nI 1 by decide), if_neg (show ¬ (2 : Int32) ≤ nI 1 by decide), if_neg (show ¬ nI 1 ≤ (0 : Int32) by decide), if_pos (show nI 1 ≤ (1 : Int32) by decide), if_neg P1, if_neg P2, if_neg P3, if_neg E2, if_pos E2, if_neg E3, if_pos E3]
        first | exact hold | exact hnew P1 P2 P3
      · simp only [if_pos (show (1 : Int32) ≤ nI 2 by decide), if_pos (show (2 : Int32) ≤ nI 2 by decide), if_neg (show ¬ nI 2 ≤ (0 : Int32) by decide), if_neg (show ¬ nI 2 ≤ (1 : Int32) by decide), if_neg P1, if_neg P2, if_neg P3, if_neg E2, if_pos E2, if_neg E3, if_pos E3]
        first | exact hold | exact hnew P1 P2 P3
