/-! the reference opens -/
theorem r90_loop (N : Nat) {q n : Nat} (hq : q = 5 ∨ q = 7 ∨ q = 11 ∨ q = 13) (hn : n ≤ 6) (hnq : n < q) (hs : Nat → Int32) {S D h : Nat} (hD : D ≤ 4) (hh : h < 6) (x3 : Int32) (r42 : Int32 → Int32 → Int32 → Int32 → Int32 → Int32 → Option O_X10_opened) (r58 : Int32 → Int32 → Int32 → Int32 → Int32 → Int32 → Int32 → Int32 → Int32 → Option O_X10_opened) (y4 y5 y6 y7 y8 y9 y10 y11 : Int32) : ∀ (j k fuel v p acc : Nat), k + j = D + 1 → j < fuel → v < 2 ^ 20 → p < q → acc + 144 * j ≤ 1000 →
    f_X10_opened_90 N (nI q) (nI n) hs (nI S) (nI D) x3 r42 r58 fuel y4 y5 y6 y7 y8 y9 y10 y11 (nI h) (nI v) (nI p) (nI acc) (nI k) = f_X10_opened_140 N (nI q) (nI n) hs (nI S) (nI D) x3 r42 r58 y4 y5 y6 y7 y8 y9 y10 y11 (nI h) (nI (acc + evR q (h + 1) j v p)) := by
  intro j
  induction j with
  | zero =>
    intro k fuel v p acc hk hf hv hp ha
    obtain ⟨f, rfl⟩ : ∃ f, fuel = f + 1 := ⟨fuel - 1, by omega⟩
    rw [u_X10_opened_90]
    unfold s_X10_opened_90
    rw [if_pos (nI_lt (show D < k by omega) (by omega))]
    rfl
  | succ j ih =>
    intro k fuel v p acc hk hf hv hp ha
    obtain ⟨f, rfl⟩ : ∃ f, fuel = f + 1 := ⟨fuel - 1, by omega⟩
    have m1 : p * (h + 1) ≤ 13 * 6 := Nat.mul_le_mul (by omega) (by omega)
    have l1 : v % q < q := Nat.mod_lt _ (by omega)
    have l2 : p * (h + 1) % q < q := Nat.mod_lt _ (by omega)
    have m2 : v % q * p ≤ 12 * 12 := Nat.mul_le_mul (by omega) (by omega)
    have l3 : v / q ≤ v := Nat.div_le_self _ _
    have q0 : ¬ nI q = 0 := nI_ne0 (by omega) (by omega)
    rw [u_X10_opened_90]
    unfold s_X10_opened_90
    rw [if_neg (nI_nlt (show k ≤ D by omega) (by omega)), if_neg q0, if_neg q0, if_neg q0, nI_1 h, nI_1 k, nI_mul, pk_rem (show p * (h + 1) < 2 ^ 31 by omega) (by omega) (by omega), pk_rem (show v < 2 ^ 31 by omega) (by omega) (by omega), pk_div (show v < 2 ^ 31 by omega) (by omega) (by omega), nI_mul, nI_add]
    refine Eq.trans (ih (k + 1) f (v / q) (p * (h + 1) % q) (acc + v % q * p) (by omega) (by omega) (by omega) l2 (by omega)) ?_
    rw [evR_s, Nat.add_assoc]
theorem pw20 {q D : Nat} (hq : q = 5 ∨ q = 7 ∨ q = 11 ∨ q = 13) (hD : D ≤ 4) : q ^ (D + 1) ≤ 371293 := by
  have h1 : q ^ (D + 1) ≤ 13 ^ (D + 1) := Nat.pow_le_pow_left (by omega) _
  have h2 : 13 ^ (D + 1) ≤ 13 ^ 5 := Nat.pow_le_pow_right (by decide) (by omega)
  have h3 : (13 : Nat) ^ 5 = 371293 := by decide
  omega
theorem r58_loop (N : Nat) (hN : NB ≤ N) {q n : Nat} (hq : q = 5 ∨ q = 7 ∨ q = 11 ∨ q = 13) (hn : n ≤ 6) (hnq : n < q) {hs : Nat → Int32} {y : Nat → Nat} (hhs : ∀ i, i < n → hs i = nI (y i) ∧ y i < q) {S D : Nat} (hS : S < 64) (hD : D ≤ 4) {Y : Nat} (hY : Y < 371293) (x3 : Int32) (r42 : Int32 → Int32 → Int32 → Int32 → Int32 → Int32 → Option O_X10_opened) (y4 y5 y6 y7 y8 : Int32) : ∀ (j k fuel : Nat), k + j = n → j < fuel →
    f_X10_opened_58 N (nI q) (nI n) hs (nI S) (nI D) x3 r42 fuel y4 y5 y6 y7 y8 (nI Y) (nI (enM (agR q n D S y Y) k)) (nI (cB (agR q n D S y Y) k)) (nI k) = f_X10_opened_175 N (nI q) (nI n) hs (nI S) (nI D) x3 r42 y4 y5 y6 y7 y8 (nI Y) (nI (enM (agR q n D S y Y) n)) (nI (cB (agR q n D S y Y) n)) := by
  intro j
  induction j with
  | zero =>
    intro k fuel hk hf
    obtain ⟨f, rfl⟩ : ∃ f, fuel = f + 1 := ⟨fuel - 1, by omega⟩
    have e : k = n := by omega
    subst e
    rw [u_X10_opened_58]
    unfold s_X10_opened_58
    rw [if_pos (Int32.le_refl _)]
  | succ j ih =>
    intro k fuel hk hf
    obtain ⟨f, rfl⟩ : ∃ f, fuel = f + 1 := ⟨fuel - 1, by omega⟩
    have hr := ih (k + 1) f (by omega) (by omega)
    rw [enM_s, cB_s] at hr
    have hlt := enM_lt (agR q n D S y Y) k
    have hp : 2 ^ k ≤ 2 ^ 5 := Nat.pow_le_pow_right (by decide) (by omega)
    have h32 : (2 : Nat) ^ 5 = 32 := rfl
    obtain ⟨ey, by_⟩ := hhs k (by omega)
    have bh : rgt q (D + 1) Y (k + 1) < q := Nat.mod_lt _ (by omega)
    have be := evR_b (q := q) (x := k + 1) (by omega) (by omega) (D + 1) Y 1 (by omega)
    rw [u_X10_opened_58]
    unfold s_X10_opened_58
    rw [if_neg (nI_ge (show k < n by omega) (by omega)), show nI k + 1 = nI (k + 1) from nI_1 k]
    by_cases s : S.testBit k = true
    · rw [if_pos ((msk_in S hS k (by omega)).mpr s)]
      refine Eq.trans (r90_loop N hq hn hnq hs hD (show k < 6 by omega) x3 r42 _ y4 y5 y6 y7 y8 (nI Y) _ _ (D + 1) 0 N Y 1 0 (by omega) (by unfold NB at hN; omega) (by omega) (by omega) (by omega)) ?_
      unfold f_X10_opened_140
      rw [Nat.zero_add, if_neg (nI_ne0 (by omega) (by omega)), if_pos (gin_nI (show k < 6 by omega) (by decide)), nI_clamp (by omega), ey, pk_rem (by omega) (by omega) (by omega), show nI k + 1 = nI (k + 1) from nI_1 k]
      by_cases e : rgt q (D + 1) Y (k + 1) = y k
      · have ea : (agR q n D S y Y) k = true := by show (S.testBit k && decide _) = true; rw [s, decide_eq_true e]; rfl
        rw [if_pos ea, if_pos ea] at hr
        rw [if_pos (show nI (evR q (k + 1) (D + 1) Y 1 % q) = nI (y k) from congrArg nI e), msk_or k (by omega) _ (by omega) hlt, nI_1]
        exact hr
      · have ea : ¬ (agR q n D S y Y) k = true := by show ¬ (S.testBit k && decide _) = true; rw [s, decide_eq_false e]; decide
        rw [if_neg ea, if_neg ea, Nat.add_zero, Nat.add_zero] at hr
        rw [if_neg (show ¬ nI (evR q (k + 1) (D + 1) Y 1 % q) = nI (y k) from fun z => e ((nI_eq (a := rgt q (D + 1) Y (k + 1)) (by omega) (by omega)).mp z))]
        exact hr
    · have sf : S.testBit k = false := by simpa using s
      have ea : ¬ (agR q n D S y Y) k = true := by show ¬ (S.testBit k && decide _) = true; rw [sf, Bool.false_and]; decide
      rw [if_neg ea, if_neg ea, Nat.add_zero, Nat.add_zero] at hr
      rw [if_neg (fun z => s ((msk_in S hS k (by omega)).mp z))]
      exact hr
/-- the reference's best curve among the first Z -/
def bst (q n D S : Nat) (y : Nat → Nat) (Z b c Y0 : Nat) : Prop := Y0 < Z ∧ cB (agR q n D S y Y0) n = b ∧ (∀ Y, Y < Z → cB (agR q n D S y Y) n ≤ b) ∧ c ≤ Z ∧ 1 ≤ c ∧ (c = 1 ↔ ∀ Y, Y < Z → cB (agR q n D S y Y) n = b → Y = Y0)
theorem r42_loop (N : Nat) (hN : NB ≤ N) {q n : Nat} (hq : q = 5 ∨ q = 7 ∨ q = 11 ∨ q = 13) (hn : n ≤ 6) (hnq : n < q) {hs : Nat → Int32} {y : Nat → Nat} (hhs : ∀ i, i < n → hs i = nI (y i) ∧ y i < q) {S D T : Nat} (hS : S < 64) (hD : D ≤ 4) (hT : T ≤ 371293) (x3 : Int32) : ∀ (j Z fuel b c Y0 : Nat), Z + j = T → j < fuel → bst q n D S y Z b c Y0 →
    ∃ b' c' Y0' : Nat, bst q n D S y T b' c' Y0' ∧ f_X10_opened_42 N (nI q) (nI n) hs (nI S) (nI D) x3 fuel (nI T) (nI b) (nI c) (nI (Y0 % q)) (nI (enM (agR q n D S y Y0) n)) (nI Z) = f_X10_opened_225 N (nI q) (nI n) hs (nI S) (nI D) x3 (nI b') (nI c') (nI (Y0' % q)) (nI (enM (agR q n D S y Y0') n)) := by
  intro j
  induction j with
  | zero =>
    intro Z fuel b c Y0 hZ hf h
    obtain ⟨f, rfl⟩ : ∃ f, fuel = f + 1 := ⟨fuel - 1, by omega⟩
    have e : Z = T := by omega
    subst e
    refine ⟨b, c, Y0, h, ?_⟩
    rw [u_X10_opened_42]
    unfold s_X10_opened_42
    rw [if_pos (Int32.le_refl _)]
  | succ j ih =>
    intro Z fuel b c Y0 hZ hf h
    obtain ⟨f, rfl⟩ : ∃ f, fuel = f + 1 := ⟨fuel - 1, by omega⟩
    obtain ⟨h1, h2, h3, h4, h5, h6⟩ := h
    have cm := cB_max (agR q n D S y Z) n
    have cm0 := cB_max (agR q n D S y Y0) n
    have hb6 : b ≤ 6 := by omega
    rw [u_X10_opened_42]
    unfold s_X10_opened_42
    rw [if_neg (nI_ge (show Z < T by omega) (by omega)), show f_X10_opened_58 N (nI q) (nI n) hs (nI S) (nI D) x3 (f_X10_opened_42 N (nI q) (nI n) hs (nI S) (nI D) x3 f) N (nI T) (nI b) (nI c) (nI (Y0 % q)) (nI (enM (agR q n D S y Y0) n)) (nI Z) 0 0 0 = _ from r58_loop N hN hq hn hnq hhs hS hD (Y := Z) (by omega) x3 _ _ _ _ _ _ n 0 N (by omega) (by unfold NB at hN; omega)]
    unfold f_X10_opened_175
    rcases Nat.lt_or_ge b (cB (agR q n D S y Z) n) with g | g
    · rw [if_neg (nI_ge g (by omega)), if_neg (nI_ne0 (by omega) (by omega)), pk_rem (by omega) (by omega) (by omega)]
      unfold f_X10_opened_202
      rw [if_pos rfl, show nI Z + 1 = nI (Z + 1) from nI_1 Z]
      refine ih (Z + 1) f (cB (agR q n D S y Z) n) 1 Z (by omega) (by omega) ⟨by omega, rfl, ?_, by omega, by omega, ?_⟩
      · intro Y hY
        by_cases e : Y = Z
        · rw [e]; exact Nat.le_refl _
        · have := h3 Y (by omega)
          omega
      · refine ⟨fun _ Y hY hc => ?_, fun _ => rfl⟩
        by_cases e : Y = Z
        · exact e
        · have := h3 Y (by omega)
          omega
    · rw [if_pos (nI_le g (by omega))]
      unfold f_X10_opened_202
      rw [show nI Z + 1 = nI (Z + 1) from nI_1 Z]
      have h3' : ∀ Y, Y < Z + 1 → cB (agR q n D S y Y) n ≤ b := by
        intro Y hY
        by_cases e : Y = Z
        · rw [e]; exact g
        · exact h3 Y (by omega)
      by_cases e : cB (agR q n D S y Z) n = b
      · rw [if_pos (show nI (cB (agR q n D S y Z) n) = nI b from congrArg nI e), show nI c + 1 = nI (c + 1) from nI_1 c]
        refine ih (Z + 1) f b (c + 1) Y0 (by omega) (by omega) ⟨by omega, h2, h3', by omega, by omega, ?_⟩
        refine ⟨fun z => by omega, fun z => ?_⟩
        have := z Z (by omega) e
        omega
      · rw [if_neg (fun z => e ((nI_eq (by omega) (by omega)).mp z)), show nI c + 0 = nI c from Int32.add_zero _]
        refine ih (Z + 1) f b c Y0 (by omega) (by omega) ⟨by omega, h2, h3', by omega, by omega, ?_⟩
        rw [h6]
        refine ⟨fun z Y hY hc => ?_, fun z Y hY hc => z Y (by omega) hc⟩
        by_cases eY : Y = Z
        · rw [eY] at hc
          exact absurd hc e
        · exact z Y (by omega) hc
theorem r6_loop (N : Nat) {q n : Nat} (hq : q = 5 ∨ q = 7 ∨ q = 11 ∨ q = 13) (hn : n ≤ 6) (hnq : n < q) (hs : Nat → Int32) {S D : Nat} (hD : D ≤ 4) (x3 : Int32) : ∀ (j k fuel : Nat), k + j = D + 1 → j < fuel → f_X10_opened_6 N (nI q) (nI n) hs (nI S) (nI D) x3 fuel (nI (q ^ k)) (nI k) = f_X10_opened_27 N (nI q) (nI n) hs (nI S) (nI D) x3 (nI (q ^ (D + 1))) := by
  intro j
  induction j with
  | zero =>
    intro k fuel hk hf
    obtain ⟨f, rfl⟩ : ∃ f, fuel = f + 1 := ⟨fuel - 1, by omega⟩
    have e : k = D + 1 := by omega
    subst e
    rw [u_X10_opened_6]
    unfold s_X10_opened_6
    rw [if_pos (nI_lt (show D < D + 1 by omega) (by omega))]
  | succ j ih =>
    intro k fuel hk hf
    obtain ⟨f, rfl⟩ : ∃ f, fuel = f + 1 := ⟨fuel - 1, by omega⟩
    rw [u_X10_opened_6]
    unfold s_X10_opened_6
    rw [if_neg (nI_nlt (show k ≤ D by omega) (by omega)), nI_mul, ← Nat.pow_succ, nI_1]
    exact ih (k + 1) f (by omega) (by omega)
theorem cmpA : ∀ s : Nat, s < 7 → ∀ D : Nat, D < 5 → ∀ m : Nat, m < 7 → ((nI s - nI D) < ((2 : Int32) * (nI m - nI D)) ↔ s + D < 2 * m) := by decide +kernel
theorem cmpB : ∀ s : Nat, s < 7 → ∀ D : Nat, D < 5 → ∀ m : Nat, m < 7 → (((2 : Int32) * (nI m - nI D)) ≤ (nI s - nI D) ↔ ¬ s + D < 2 * m) := by decide +kernel
theorem bits10c (N : Nat) (hN : NB ≤ N) {S : Nat} (hS : S < 64) : f_X10_bitsIn N (nI S) = some (nI (cB (tbM S) 6)) := by
  rw [bits10 N hN, bc_eq S hS]
  rfl
theorem op10_eq (N : Nat) (hN : NB ≤ N) {q n : Nat} (hq : q = 5 ∨ q = 7 ∨ q = 11 ∨ q = 13) (hn : n ≤ 6) (hnq : n < q) {hs : Nat → Int32} {y : Nat → Nat} (hhs : ∀ i, i < n → hs i = nI (y i) ∧ y i < q) {S D : Nat} (hS : S < 64) (hD : D ≤ 4) (x3 : Int32) :
    ∃ Y0 r : Nat, Y0 < q ^ (D + 1) ∧ cB (agR q n D S y Y0) n = r ∧ (∀ Y, Y < q ^ (D + 1) → cB (agR q n D S y Y) n ≤ r) ∧
      ((cB (tbM S) 6 + D < 2 * r ∧ ∀ Y, Y < q ^ (D + 1) → cB (agR q n D S y Y) n = r → Y = Y0) → f_X10_opened N (nI q) (nI n) hs (nI S) (nI D) x3 = some (if x3 = 0 then nI (Y0 % q) else (nI S &&& (nI (enM (agR q n D S y Y0) n) ^^^ (-1 : Int32))))) ∧
      (¬ (cB (tbM S) 6 + D < 2 * r ∧ ∀ Y, Y < q ^ (D + 1) → cB (agR q n D S y Y) n = r → Y = Y0) → f_X10_opened N (nI q) (nI n) hs (nI S) (nI D) x3 = some (-9 : Int32)) := by
  have hT := pw20 hq hD
  have hT0 : 1 ≤ q ^ (D + 1) := Nat.one_le_pow _ _ (by omega)
  have hfirst : ∃ f : Nat, N = f + 1 ∧ 371293 < f := ⟨N - 1, by unfold NB at hN; omega, by unfold NB at hN; omega⟩
  obtain ⟨f, ef, hf⟩ := hfirst
  have cm := cB_max (agR q n D S y 0) n
  obtain ⟨b, c, Y0, ⟨g1, g2, g3, g4, g5, g6⟩, hg⟩ := r42_loop N hN hq hn hnq hhs hS hD hT x3 (q ^ (D + 1) - 1) 1 f (cB (agR q n D S y 0) n) 1 0 (by omega) (by omega) ⟨by omega, rfl, fun Y hY => by rw [show Y = 0 by omega]; exact Nat.le_refl _, by omega, by omega, ⟨fun _ Y hY _ => by omega, fun _ => rfl⟩⟩
  have hrun : f_X10_opened N (nI q) (nI n) hs (nI S) (nI D) x3 = f_X10_opened_225 N (nI q) (nI n) hs (nI S) (nI D) x3 (nI b) (nI c) (nI (Y0 % q)) (nI (enM (agR q n D S y Y0) n)) := by
    unfold f_X10_opened
    rw [show f_X10_opened_6 N (nI q) (nI n) hs (nI S) (nI D) x3 N 1 0 = _ from r6_loop N hq hn hnq hs hD x3 (D + 1) 0 N (by omega) (by unfold NB at hN; omega)]
    unfold f_X10_opened_27
    refine Eq.trans ?_ hg
    have e1 : f_X10_opened_42 N (nI q) (nI n) hs (nI S) (nI D) x3 N = f_X10_opened_42 N (nI q) (nI n) hs (nI S) (nI D) x3 (f + 1) := congrArg _ ef
    rw [e1, u_X10_opened_42]
    unfold s_X10_opened_42
    rw [if_neg (show ¬ nI (q ^ (D + 1)) ≤ 0 from nI_ge (a := 0) (by omega) (by omega)), show f_X10_opened_58 N (nI q) (nI n) hs (nI S) (nI D) x3 (f_X10_opened_42 N (nI q) (nI n) hs (nI S) (nI D) x3 f) N (nI (q ^ (D + 1))) (-1 : Int32) 0 0 0 0 0 0 0 = _ from r58_loop N hN hq hn hnq hhs hS hD (Y := 0) (by omega) x3 _ _ _ _ _ _ n 0 N (by omega) (by unfold NB at hN; omega)]
    unfold f_X10_opened_175
    rw [if_neg (show ¬ nI (cB (agR q n D S y 0) n) ≤ (-1 : Int32) from by
      have := nI_pos' (n := cB (agR q n D S y 0) n) (by omega)
      intro z
      exact absurd (Int32.le_trans this z) (by decide)), if_neg (nI_ne0 (by omega) (by omega)), pk_rem (by omega) (by omega) (by omega)]
    unfold f_X10_opened_202
    rw [if_pos rfl]
    rfl
  have cmb := cB_max (agR q n D S y Y0) n
  have cms := cB_max (tbM S) 6
  refine ⟨Y0, b, g1, g2, g3, fun h => ?_, fun h => ?_⟩
  · rw [hrun]
    unfold f_X10_opened_225
    rw [if_pos (show nI c = 1 from congrArg nI (g6.mpr h.2)), bits10c N hN hS, Option.bind_some, if_neg (show ¬ (2 : Int32) * (nI b - nI D) ≤ nI (cB (tbM S) 6) - nI D from fun z => (cmpB _ (by omega) D (by omega) b (by omega)).mp z h.1)]
    unfold f_X10_opened_251
    rw [if_neg (by decide)]
    by_cases z : x3 = 0
    · rw [if_pos z, if_pos z]
    · rw [if_neg z, if_neg z]
  · rw [hrun]
    unfold f_X10_opened_225
    by_cases hc : c = 1
    · have hl : ¬ cB (tbM S) 6 + D < 2 * b := fun z => h ⟨z, g6.mp hc⟩
      rw [if_pos (show nI c = 1 from congrArg nI hc), bits10c N hN hS, Option.bind_some, if_pos (show (2 : Int32) * (nI b - nI D) ≤ nI (cB (tbM S) 6) - nI D from (cmpB _ (by omega) D (by omega) b (by omega)).mpr hl)]
      rfl
    · rw [if_neg (show ¬ nI c = 1 from fun z => hc ((nI_eq (b := 1) (by omega) (by decide)).mp z))]
      rfl
