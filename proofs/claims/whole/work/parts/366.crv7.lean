/-! the class opens -/
theorem inv_loop (N : Nat) {q v : Nat} (h1 : 2 ≤ q) (h2 : q ≤ 13) (hv : v < q) : ∀ (j r fuel : Nat), r + j = q → j < fuel → f_X0_inverse_2 N (nI q) (nI v) fuel (nI r) = some (nI (ivL q v j r)) := by
  intro j
  induction j with
  | zero =>
    intro r fuel hr hf
    obtain ⟨f, rfl⟩ : ∃ f, fuel = f + 1 := ⟨fuel - 1, by omega⟩
    have e : r = q := by omega
    subst e
    rw [u_X0_inverse_2]
    unfold s_X0_inverse_2
    rw [if_pos (Int32.le_refl _)]
    rfl
  | succ j ih =>
    intro r fuel hr hf
    obtain ⟨f, rfl⟩ : ∃ f, fuel = f + 1 := ⟨fuel - 1, by omega⟩
    have hm : r * v ≤ 13 * 13 := Nat.mul_le_mul (by omega) (by omega)
    have hl : r * v % q < q := Nat.mod_lt _ (by omega)
    rw [u_X0_inverse_2]
    unfold s_X0_inverse_2
    rw [if_neg (nI_ge (show r < q by omega) (by omega)), nI_mul, mod9 N _ (by omega) (by omega), md_nI (by omega) (by omega) (by omega)]
    simp only [Option.bind_some]
    show _ = some (nI (if r * v % q = 1 then r else ivL q v j (r + 1)))
    by_cases z : r * v % q = 1
    · rw [if_pos (by rw [z]; rfl), if_pos z]
    · rw [if_neg (show ¬ nI (r * v % q) = 1 from fun e => z ((nI_eq (b := 1) (by omega) (by decide)).mp e)), if_neg z, nI_1]
      exact ih (r + 1) f (by omega) (by omega)
theorem inv_eq (N : Nat) (hN : NB ≤ N) {q v : Nat} (h1 : 2 ≤ q) (h2 : q ≤ 13) (hv : v < q) : f_X0_inverse N (nI q) (nI v) = some (nI (ivN q v)) := by
  unfold f_X0_inverse ivN
  exact inv_loop N h1 h2 hv (q - 1) 1 N (by omega) (by unfold NB at hN; omega)
theorem h43_loop (N : Nat) {q n : Nat} (hq : q = 5 ∨ q = 7 ∨ q = 11 ∨ q = 13) (hn : n ≤ 6) (hnq : n < q) (hs : Nat → Int32) {x B i y0 : Nat} (hx : x ≤ 7) (hB : B < 64) (hi : i < n) (hy0 : y0 < q) (r : Int32 → Int32 → Option O_X0_heightAt) (y3 : Int32) : ∀ (j k fuel : Nat), k + j = n → j < fuel → f_X0_heightAt_43 N (nI q) (nI n) hs (nI x) (nI B) r fuel y3 (nI i) (nI (lqA q x (tbM B) y0 i k)) (nI (lqB q (tbM B) i k)) (nI k) = f_X0_heightAt_112 N (nI q) (nI n) hs (nI x) (nI B) r y3 (nI i) (nI (lqA q x (tbM B) y0 i n)) (nI (lqB q (tbM B) i n)) := by
  intro j
  induction j with
  | zero =>
    intro k fuel hk hf
    obtain ⟨f, rfl⟩ : ∃ f, fuel = f + 1 := ⟨fuel - 1, by omega⟩
    have e : k = n := by omega
    subst e
    rw [u_X0_heightAt_43]
    unfold s_X0_heightAt_43
    rw [if_pos (Int32.le_refl _)]
  | succ j ih =>
    intro k fuel hk hf
    obtain ⟨f, rfl⟩ : ∃ f, fuel = f + 1 := ⟨fuel - 1, by omega⟩
    have hr := ih (k + 1) f (by omega) (by omega)
    rw [lqA_s, lqB_s] at hr
    have bA := lqA_lt (show 1 ≤ q by omega) x (tbM B) hy0 i k
    have bB := lqB_lt (show 2 ≤ q by omega) (tbM B) i k
    rw [u_X0_heightAt_43]
    unfold s_X0_heightAt_43
    rw [if_neg (nI_ge (show k < n by omega) (by omega)), nI_1]
    by_cases e : k = i
    · rw [if_pos e, if_pos e] at hr
      rw [if_pos (by rw [e])]
      exact hr
    · rw [if_neg e, if_neg e] at hr
      rw [if_neg (fun z => e ((nI_eq (by omega) (by omega)).mp z))]
      by_cases b : B.testBit k = false
      · rw [if_pos (show tbM B k = false from b), if_pos (show tbM B k = false from b)] at hr
        rw [if_pos ((msk_out B hB k (by omega)).mpr b)]
        exact hr
      · rw [if_neg (show ¬ tbM B k = false from b), if_neg (show ¬ tbM B k = false from b)] at hr
        generalize lqA q x (tbM B) y0 i k = A at *
        generalize lqB q (tbM B) i k = L at *
        have m1 : A * x ≤ 13 * 7 := Nat.mul_le_mul (by omega) hx
        have m2 : A * (k + 1) ≤ 13 * 7 := Nat.mul_le_mul (by omega) (by omega)
        have m3 : L * i ≤ 13 * 7 := Nat.mul_le_mul (by omega) (by omega)
        have m4 : L * k ≤ 13 * 7 := Nat.mul_le_mul (by omega) (by omega)
        rw [if_neg (fun z => b ((msk_out B hB k (by omega)).mp z)), Int32.sub_sub, nI_1, Int32.mul_sub, nI_mul, nI_mul, mod9 N _ (by omega) (by omega), md_sub (by omega) (by omega) (by omega) (by omega)]
        simp only [Option.bind_some]
        rw [Int32.mul_sub, nI_mul, nI_mul, mod9 N _ (by omega) (by omega), md_sub (by omega) (by omega) (by omega) (by omega)]
        simp only [Option.bind_some]
        exact hr
theorem lqS_b {q n : Nat} (hq : q = 5 ∨ q = 7 ∨ q = 11 ∨ q = 13) (hn : n ≤ 6) (hnq : n < q) {y : Nat → Nat} (hy : ∀ i, i < n → y i < q) (x : Nat) (B : Nat → Bool) : ∀ k : Nat, k ≤ n → lqS q n x B y k ≤ 169 * k := by
  intro k
  induction k with
  | zero => intro _; exact Nat.le_refl _
  | succ k ih =>
    intro hk
    have h := ih (by omega)
    rw [lqS_s]
    by_cases b : B k = false
    · rw [if_pos b]; omega
    · rw [if_neg b]
      have b1 := lqA_lt (show 1 ≤ q by omega) x B (hy k (by omega)) k n
      have b2 := (iv_q hq (lqB_lt (show 2 ≤ q by omega) B k n)).2
      have b3 : lqA q x B (y k) k n * ivN q (lqB q B k n) ≤ 13 * 13 := Nat.mul_le_mul (by omega) (by omega)
      omega
theorem h5_loop (N : Nat) (hN : NB ≤ N) {q n : Nat} (hq : q = 5 ∨ q = 7 ∨ q = 11 ∨ q = 13) (hn : n ≤ 6) (hnq : n < q) {hs : Nat → Int32} {y : Nat → Nat} (hhs : ∀ i, i < n → hs i = nI (y i) ∧ y i < q) {x B : Nat} (hx : x ≤ 7) (hB : B < 64) : ∀ (j k fuel : Nat), k + j = n → j < fuel → f_X0_heightAt_5 N (nI q) (nI n) hs (nI x) (nI B) fuel (nI (lqS q n x (tbM B) y k)) (nI k) = some (nI (hgt q n (tbM B) y x)) := by
  intro j
  induction j with
  | zero =>
    intro k fuel hk hf
    obtain ⟨f, rfl⟩ : ∃ f, fuel = f + 1 := ⟨fuel - 1, by omega⟩
    have e : k = n := by omega
    subst e
    have hb := lqS_b hq hn hnq (fun i hi => (hhs i hi).2) x (tbM B) k (Nat.le_refl k)
    rw [u_X0_heightAt_5]
    unfold s_X0_heightAt_5 f_X0_heightAt_130
    rw [if_pos (Int32.le_refl _), mod9 N _ (by omega) (by omega), md_nI (by omega) (by omega) (by omega)]
    rfl
  | succ j ih =>
    intro k fuel hk hf
    obtain ⟨f, rfl⟩ : ∃ f, fuel = f + 1 := ⟨fuel - 1, by omega⟩
    have hr := ih (k + 1) f (by omega) (by omega)
    rw [lqS_s] at hr
    obtain ⟨ey, by_⟩ := hhs k (by omega)
    rw [u_X0_heightAt_5]
    unfold s_X0_heightAt_5
    rw [if_neg (nI_ge (show k < n by omega) (by omega)), nI_1]
    by_cases b : B.testBit k = false
    · rw [if_pos (show tbM B k = false from b)] at hr
      rw [if_pos ((msk_out B hB k (by omega)).mpr b)]
      exact hr
    · rw [if_neg (show ¬ tbM B k = false from b)] at hr
      rw [if_neg (fun z => b ((msk_out B hB k (by omega)).mp z)), at_nI N hs (show k < 6 by omega) (by decide), ey]
      simp only [Option.bind_some]
      refine Eq.trans (h43_loop N hq hn hnq hs (x := x) (B := B) (i := k) (y0 := y k) hx hB (by omega) by_ _ _ n 0 N (by omega) (by unfold NB at hN; omega)) ?_
      unfold f_X0_heightAt_112
      rw [inv_eq N hN (by omega) (by omega) (lqB_lt (show 2 ≤ q by omega) (tbM B) k n)]
      simp only [Option.bind_some]
      rw [nI_mul, nI_add, nI_1]
      exact hr
theorem height_eq (N : Nat) (hN : NB ≤ N) {q n : Nat} (hq : q = 5 ∨ q = 7 ∨ q = 11 ∨ q = 13) (hn : n ≤ 6) (hnq : n < q) {hs : Nat → Int32} {y : Nat → Nat} (hhs : ∀ i, i < n → hs i = nI (y i) ∧ y i < q) {x B : Nat} (hx : x ≤ 7) (hB : B < 64) : f_X0_heightAt N (nI q) (nI n) hs (nI x) (nI B) = some (nI (hgt q n (tbM B) y x)) := by
  unfold f_X0_heightAt
  exact h5_loop N hN hq hn hnq hhs hx hB n 0 N (by omega) (by unfold NB at hN; omega)
theorem agree_loop (N : Nat) (hN : NB ≤ N) {q n : Nat} (hq : q = 5 ∨ q = 7 ∨ q = 11 ∨ q = 13) (hn : n ≤ 6) (hnq : n < q) {hs : Nat → Int32} {y : Nat → Nat} (hhs : ∀ i, i < n → hs i = nI (y i) ∧ y i < q) {S B : Nat} (hS : S < 64) (hB : B < 64) : ∀ (j k fuel : Nat), k + j = n → j < fuel → f_X0_agreeing_5 N (nI q) (nI n) hs (nI S) (nI B) fuel (nI (enM (agC q n S y B) k)) (nI k) = some (nI (enM (agC q n S y B) n)) := by
  intro j
  induction j with
  | zero =>
    intro k fuel hk hf
    obtain ⟨f, rfl⟩ : ∃ f, fuel = f + 1 := ⟨fuel - 1, by omega⟩
    have e : k = n := by omega
    subst e
    rw [u_X0_agreeing_5]
    unfold s_X0_agreeing_5
    rw [if_pos (Int32.le_refl _)]
  | succ j ih =>
    intro k fuel hk hf
    obtain ⟨f, rfl⟩ : ∃ f, fuel = f + 1 := ⟨fuel - 1, by omega⟩
    have hr := ih (k + 1) f (by omega) (by omega)
    rw [enM_s] at hr
    have hlt := enM_lt (agC q n S y B) k
    have hp : 2 ^ k ≤ 2 ^ 5 := Nat.pow_le_pow_right (by decide) (by omega)
    have h32 : (2 : Nat) ^ 5 = 32 := rfl
    obtain ⟨ey, by_⟩ := hhs k (by omega)
    have bh : hgt q n (tbM B) y (k + 1) < q := Nat.mod_lt _ (by omega)
    rw [u_X0_agreeing_5]
    unfold s_X0_agreeing_5
    rw [if_neg (nI_ge (show k < n by omega) (by omega)), nI_1]
    by_cases s : S.testBit k = true
    · rw [if_pos ((msk_in S hS k (by omega)).mpr s), height_eq N hN hq hn hnq hhs (by omega) hB, at_nI N hs (show k < 6 by omega) (by decide), ey]
      simp only [Option.bind_some]
      by_cases e : hgt q n (tbM B) y (k + 1) = y k
      · rw [if_pos (show agC q n S y B k = true by show (S.testBit k && decide _) = true; rw [s, decide_eq_true e]; rfl)] at hr
        rw [if_pos (by rw [e]), msk_or k (by omega) _ (by omega) hlt]
        exact hr
      · rw [if_neg (show ¬ agC q n S y B k = true by show ¬ (S.testBit k && decide _) = true; rw [s, decide_eq_false e]; decide), Nat.add_zero] at hr
        rw [if_neg (fun z => e ((nI_eq (by omega) (by omega)).mp z))]
        exact hr
    · have sf : S.testBit k = false := by simpa using s
      rw [if_neg (show ¬ agC q n S y B k = true by show ¬ (S.testBit k && decide _) = true; rw [sf, Bool.false_and]; decide), Nat.add_zero] at hr
      rw [if_neg (fun z => s ((msk_in S hS k (by omega)).mp z))]
      exact hr
theorem agree_eq (N : Nat) (hN : NB ≤ N) {q n : Nat} (hq : q = 5 ∨ q = 7 ∨ q = 11 ∨ q = 13) (hn : n ≤ 6) (hnq : n < q) {hs : Nat → Int32} {y : Nat → Nat} (hhs : ∀ i, i < n → hs i = nI (y i) ∧ y i < q) {S B : Nat} (hS : S < 64) (hB : B < 64) : f_X0_agreeing N (nI q) (nI n) hs (nI S) (nI B) = some (nI (enM (agC q n S y B) n)) := by
  unfold f_X0_agreeing
  exact agree_loop N hN hq hn hnq hhs hS hB n 0 N (by omega) (by unfold NB at hN; omega)
theorem cB_max (g : Nat → Bool) : ∀ k : Nat, cB g k ≤ k := by
  intro k
  induction k with
  | zero => exact Nat.le_refl _
  | succ k ih =>
    rw [cB_s]
    by_cases z : g k = true
    · rw [if_pos z]; omega
    · rw [if_neg z]; omega
theorem bc64 (N : Nat) {M : Nat} (h : M < 64) : f_J6_bitCount_0f7a4 N (nI M) = some (nI (cB (tbM M) 6)) := by
  rw [bitC N h, bc_eq M h]
  rfl
theorem zB : cB (tbM 0) 6 = 0 := by decide
/-- the class's best base -/
theorem op9_loop (N : Nat) (hN : NB ≤ N) {q n : Nat} (hq : q = 5 ∨ q = 7 ∨ q = 11 ∨ q = 13) (hn : n ≤ 6) (hnq : n < q) {hs : Nat → Int32} {y : Nat → Nat} (hhs : ∀ i, i < n → hs i = nI (y i) ∧ y i < q) {S D : Nat} (hS : S < 64) (hD : D ≤ 4) (x3 : Int32) : ∀ (j K fuel best bb : Nat), K + j = S + 1 → 1 ≤ K → j < fuel → best < 64 → bb < 64 → ((best = 0 ∧ ∀ B, okBs D S B → B < K → cB (agC q n S y B) n = 0) ∨ (okBs D S bb ∧ best = enM (agC q n S y bb) n ∧ ∀ B, okBs D S B → B < K → cB (agC q n S y B) n ≤ cB (agC q n S y bb) n)) →
    ∃ best' bb' : Nat, best' < 64 ∧ bb' < 64 ∧ ((best' = 0 ∧ ∀ B, okBs D S B → cB (agC q n S y B) n = 0) ∨ (okBs D S bb' ∧ best' = enM (agC q n S y bb') n ∧ ∀ B, okBs D S B → cB (agC q n S y B) n ≤ cB (agC q n S y bb') n)) ∧ f_X0_opened_9 N (nI q) (nI n) hs (nI S) (nI D) x3 fuel (nI best) (nI bb) (nI K) = f_X0_opened_74 N (nI q) (nI n) hs (nI S) (nI D) x3 (nI best') (nI bb') := by
  intro j
  induction j with
  | zero =>
    intro K fuel best bb hK h1 hf b1 b2 h
    obtain ⟨f, rfl⟩ : ∃ f, fuel = f + 1 := ⟨fuel - 1, by omega⟩
    refine ⟨best, bb, b1, b2, ?_, ?_⟩
    · rcases h with ⟨e, h⟩ | ⟨e1, e2, h⟩
      · exact Or.inl ⟨e, fun B hB => h B hB (by have := hB.2.2.1; omega)⟩
      · exact Or.inr ⟨e1, e2, fun B hB => h B hB (by have := hB.2.2.1; omega)⟩
    · rw [u_X0_opened_9]
      unfold s_X0_opened_9
      rw [if_pos (nI_lt (show S < K by omega) (by omega))]
  | succ j ih =>
    intro K fuel best bb hK h1 hf b1 b2 h
    obtain ⟨f, rfl⟩ : ∃ f, fuel = f + 1 := ⟨fuel - 1, by omega⟩
    have hK64 : K < 64 := by omega
    rw [u_X0_opened_9]
    unfold s_X0_opened_9
    rw [if_neg (nI_nlt (show K ≤ S by omega) (by omega)), show nI K + 1 = nI (K + 1) from nI_1 K]
    have skip : (¬ okBs D S K) → ((best = 0 ∧ ∀ B, okBs D S B → B < K + 1 → cB (agC q n S y B) n = 0) ∨ (okBs D S bb ∧ best = enM (agC q n S y bb) n ∧ ∀ B, okBs D S B → B < K + 1 → cB (agC q n S y B) n ≤ cB (agC q n S y bb) n)) := by
      intro hno
      rcases h with ⟨e, h⟩ | ⟨e1, e2, h⟩
      · exact Or.inl ⟨e, fun B hB hl => h B hB (by
          have : B ≠ K := fun z => hno (z ▸ hB)
          omega)⟩
      · exact Or.inr ⟨e1, e2, fun B hB hl => h B hB (by
          have : B ≠ K := fun z => hno (z ▸ hB)
          omega)⟩
    by_cases s : (nI K &&& (nI S ^^^ (-1 : Int32))) = 0
    · rw [if_pos s, bc64 N hK64]
      simp only [Option.bind_some]
      have c6 := cB_max (tbM K) 6
      rw [show nI D + 1 = nI (D + 1) from nI_1 D]
      by_cases c : cB (tbM K) 6 = D + 1
      · have hok : okBs D S K := ⟨hK64, h1, by omega, (msk_sub K hK64 S hS).mp s, c⟩
        have henl := enM_lt (agC q n S y K) n
        have hen64 : enM (agC q n S y K) n < 64 := Nat.lt_of_lt_of_le henl (two_le hn)
        clear henl
        rw [if_pos (show nI (cB (tbM K) 6) = nI (D + 1) from congrArg nI c), agree_eq N hN hq hn hnq hhs hS hK64, Option.bind_some, bc64 N hen64, Option.bind_some, bc64 N b1, Option.bind_some, cB_en _ hn]
        have cm := cB_max (tbM best) 6
        have cm2 := cB_max (agC q n S y K) n
        have hbest : (best = 0 ∧ cB (tbM best) 6 = 0 ∧ ∀ B, okBs D S B → B < K → cB (agC q n S y B) n = 0) ∨ (okBs D S bb ∧ best = enM (agC q n S y bb) n ∧ cB (tbM best) 6 = cB (agC q n S y bb) n ∧ ∀ B, okBs D S B → B < K → cB (agC q n S y B) n ≤ cB (agC q n S y bb) n) := by
          rcases h with ⟨e, h⟩ | ⟨e1, e2, h⟩
          · exact Or.inl ⟨e, by rw [e, zB], h⟩
          · exact Or.inr ⟨e1, e2, by rw [e2, cB_en _ hn], h⟩
        rcases Nat.lt_or_ge (cB (tbM best) 6) (cB (agC q n S y K) n) with g | g
        · rw [if_neg (nI_ge g (by omega))]
          refine ih (K + 1) f _ K (by omega) (by omega) (by omega) hen64 hK64 (Or.inr ⟨hok, rfl, fun B hB hl => ?_⟩)
          by_cases e : B = K
          · rw [e]; exact Nat.le_refl _
          · rcases hbest with ⟨_, _, h⟩ | ⟨_, _, h2, h⟩
            · have := h B hB (by omega)
              omega
            · have := h B hB (by omega)
              omega
        · rw [if_pos (nI_le g (by omega))]
          refine ih (K + 1) f best bb (by omega) (by omega) (by omega) b1 b2 ?_
          rcases hbest with ⟨e, h2, h⟩ | ⟨e1, e2, h2, h⟩
          · refine Or.inl ⟨e, fun B hB hl => ?_⟩
            by_cases z : B = K
            · rw [z]; omega
            · exact h B hB (by omega)
          · refine Or.inr ⟨e1, e2, fun B hB hl => ?_⟩
            by_cases z : B = K
            · rw [z]; omega
            · exact h B hB (by omega)
      · rw [if_neg (fun z => c ((nI_eq (by omega) (by omega)).mp z))]
        exact ih (K + 1) f best bb (by omega) (by omega) (by omega) b1 b2 (skip (fun z => c z.2.2.2.2))
    · rw [if_neg s]
      exact ih (K + 1) f best bb (by omega) (by omega) (by omega) b1 b2 (skip (fun z => s ((msk_sub K hK64 S hS).mpr z.2.2.2.1)))
