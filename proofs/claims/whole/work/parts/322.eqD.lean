/-! known: months replayed -/
theorem known_in (N : Nat) (deg : Int32) (m t : Nat) (fr th tm : Nat → Int32) (x1 : Int32) (r : Int32 → Int32 → Int32 → Option O_X10_known) (know : Int32) (u : Nat) (h0 : Int32) (ht : t ≤ 30) : ∀ (j k fuel : Nat), k + j = t → j < fuel →
    f_X10_known_53 N deg (nI m) (nI t) fr th tm x1 r fuel (rpH th tm (nI u) k h0) know (nI u) (nI k) = f_X10_known_96 N deg (nI m) (nI t) fr th tm x1 r (rpH th tm (nI u) t h0) know (nI u) := by
  intro j
  induction j with
  | zero =>
    intro k fuel hk hf
    obtain ⟨f, rfl⟩ : ∃ f, fuel = f + 1 := ⟨fuel - 1, by omega⟩
    have e : k = t := by omega
    subst e
    rw [u_X10_known_53]
    unfold s_X10_known_53
    rw [if_pos (Int32.le_refl _)]
  | succ j ih =>
    intro k fuel hk hf
    obtain ⟨f, rfl⟩ : ∃ f, fuel = f + 1 := ⟨fuel - 1, by omega⟩
    rw [u_X10_known_53]
    unfold s_X10_known_53
    rw [if_neg (nI_ge (show k < t by omega) (by omega)), if_pos (gin_nI (show k < 30 by omega) (by decide)), nI_clamp (by omega), show nI k + 1 = nI (k + 1) from nI_1 k]
    have hi := ih (k + 1) f (by omega) (by omega)
    have er : rpH th tm (nI u) (k + 1) h0 = if tm k = nI u then rpH th tm (nI u) k h0 ||| ((1 : Int32) <<< (th k &&& 31)) else rpH th tm (nI u) k h0 := rfl
    by_cases q : tm k = nI u
    · rw [if_pos q, if_pos (gin_nI (show k < 30 by omega) (by decide))]
      rw [er, if_pos q] at hi
      exact hi
    · rw [if_neg q]
      rw [er, if_neg q] at hi
      rw [Int32.or_zero]
      exact hi
theorem rpK_dec (d : Int32) (fr th tm : Nat → Int32) (t m : Nat) : rpK d fr th tm t (m + 1) ↔ (rpK d fr th tm t m ∨ d < bits8 (rpM fr th tm t (m + 1)) 8) := by
  constructor
  · rintro ⟨u, hu, q⟩
    rcases Nat.lt_or_ge u (m + 1) with g | g
    · exact Or.inl ⟨u, by omega, q⟩
    · have e : u = m + 1 := by omega
      subst e
      exact Or.inr q
  · rintro (⟨u, hu, q⟩ | q)
    · exact ⟨u, by omega, q⟩
    · exact ⟨m + 1, Nat.le_refl _, q⟩
/-- the state at the head of the months' loop: months below u are through -/
def kSt (d : Int32) (fr th tm : Nat → Int32) (t : Nat) (u : Nat) (h know : Int32) : Prop :=
  (u = 0 ∧ h = 0 ∧ know = 0) ∨ ∃ v : Nat, u = v + 1 ∧ h = rpM fr th tm t v ∧ ((know = 1 ∧ rpK d fr th tm t v) ∨ (know = 0 ∧ ¬ rpK d fr th tm t v))
theorem known_out (N : Nat) (hN : NB ≤ N) (deg : Int32) (m t : Nat) (hm : m ≤ 29) (fr th tm : Nat → Int32) (x1 : Int32) (ht : t ≤ 30) : ∀ (j u fuel : Nat) (h know : Int32), u + j = m + 1 → j < fuel → kSt deg fr th tm t u h know →
    ∃ k2 : Int32, ((k2 = 1 ∧ rpK deg fr th tm t m) ∨ (k2 = 0 ∧ ¬ rpK deg fr th tm t m)) ∧ f_X10_known_19 N deg (nI m) (nI t) fr th tm x1 fuel h know (nI u) = f_X10_known_123 N deg (nI m) (nI t) fr th tm x1 (rpM fr th tm t m) k2 := by
  intro j
  induction j with
  | zero =>
    intro u fuel h know hu hf hs
    obtain ⟨f, rfl⟩ : ∃ f, fuel = f + 1 := ⟨fuel - 1, by omega⟩
    have e : u = m + 1 := by omega
    subst e
    rw [u_X10_known_19]
    unfold s_X10_known_19
    rw [if_pos (nI_lt (show m < m + 1 by omega) (by omega))]
    rcases hs with ⟨e, _⟩ | ⟨v, e, rfl, hk⟩
    · omega
    · have e2 : v = m := by omega
      subst e2
      exact ⟨know, hk, rfl⟩
  | succ j ih =>
    intro u fuel h know hu hf hs
    obtain ⟨f, rfl⟩ : ∃ f, fuel = f + 1 := ⟨fuel - 1, by omega⟩
    rw [u_X10_known_19]
    unfold s_X10_known_19
    rw [if_neg (nI_nlt (show u ≤ m by omega) (by omega))]
    have hfin : ∀ h0 : Int32, rpH th tm (nI u) t h0 = rpM fr th tm t u → (know = 0 ∨ know = 1) → (know = 1 ↔ ∃ v, u = v + 1 ∧ rpK deg fr th tm t v) →
        ∃ k2 : Int32, ((k2 = 1 ∧ rpK deg fr th tm t m) ∨ (k2 = 0 ∧ ¬ rpK deg fr th tm t m)) ∧ f_X10_known_53 N deg (nI m) (nI t) fr th tm x1 (f_X10_known_19 N deg (nI m) (nI t) fr th tm x1 f) N h0 know (nI u) 0 = f_X10_known_123 N deg (nI m) (nI t) fr th tm x1 (rpM fr th tm t m) k2 := by
      intro h0 e0 k01 kiff
      have hl := known_in N deg m t fr th tm x1 (f_X10_known_19 N deg (nI m) (nI t) fr th tm x1 f) know u h0 ht t 0 N (by omega) (by unfold NB at hN; omega)
      rw [show rpH th tm (nI u) 0 h0 = h0 from rfl, e0] at hl
      rw [show (0 : Int32) = nI 0 from rfl, hl]
      unfold f_X10_known_96
      rw [show nI u + 1 = nI (u + 1) from nI_1 u]
      have hK : rpK deg fr th tm t u ↔ ((∃ v, u = v + 1 ∧ rpK deg fr th tm t v) ∨ deg < bits8 (rpM fr th tm t u) 8) := by
        cases u with
        | zero =>
          constructor
          · rintro ⟨w, hw, q⟩
            have e : w = 0 := by omega
            subst e
            exact Or.inr q
          · rintro (⟨v, e, _⟩ | q)
            · omega
            · exact ⟨0, Nat.le_refl 0, q⟩
        | succ u =>
          rw [rpK_dec]
          constructor
          · rintro (q | q)
            · exact Or.inl ⟨u, rfl, q⟩
            · exact Or.inr q
          · rintro (⟨v, e, q⟩ | q)
            · have e2 : v = u := by omega
              subst e2
              exact Or.inl q
            · exact Or.inr q
      rcases k01 with rfl | rfl
      · rw [if_pos rfl, bits10 N hN]
        simp only [Option.bind_some]
        by_cases w : bits8 (rpM fr th tm t u) 8 ≤ deg
        · rw [if_pos w]
          refine ih (u + 1) f _ _ (by omega) (by omega) (Or.inr ⟨u, rfl, rfl, Or.inr ⟨rfl, ?_⟩⟩)
          rw [hK]
          rintro (q | q)
          · exact absurd (kiff.mpr q) (by decide)
          · exact absurd w (Int32.not_le.mpr q)
        · rw [if_neg w]
          exact ih (u + 1) f _ _ (by omega) (by omega) (Or.inr ⟨u, rfl, rfl, Or.inl ⟨rfl, hK.mpr (Or.inr (Int32.not_le.mp w))⟩⟩)
      · rw [if_neg (by decide)]
        exact ih (u + 1) f _ _ (by omega) (by omega) (Or.inr ⟨u, rfl, rfl, Or.inl ⟨rfl, hK.mpr (Or.inl (kiff.mp rfl))⟩⟩)
    rcases hs with ⟨rfl, rfl, rfl⟩ | ⟨v, rfl, rfl, hk⟩
    · rw [if_pos (by decide)]
      exact hfin 0 rfl (Or.inl rfl) ⟨fun e => absurd e (by decide), fun ⟨v, e, _⟩ => by omega⟩
    · rw [if_neg (nI_nle (show 0 < v + 1 by omega) (by omega)), if_pos (gin_nI (show v + 1 < 30 by omega) (by decide)), nI_clamp (by omega)]
      have k01 : know = 0 ∨ know = 1 := by
        rcases hk with ⟨e, _⟩ | ⟨e, _⟩
        · exact Or.inr e
        · exact Or.inl e
      have kiff : know = 1 ↔ ∃ v', v + 1 = v' + 1 ∧ rpK deg fr th tm t v' := by
        constructor
        · intro e
          rcases hk with ⟨_, q⟩ | ⟨e2, _⟩
          · exact ⟨v, rfl, q⟩
          · rw [e] at e2; exact absurd e2 (by decide)
        · rintro ⟨v', e, q⟩
          have e2 : v' = v := by omega
          subst e2
          rcases hk with ⟨e3, _⟩ | ⟨_, q2⟩
          · exact e3
          · exact absurd q q2
      by_cases w : fr (v + 1) = 1
      · rw [if_pos w]
        refine hfin 0 ?_ k01 kiff
        show _ = rpH th tm (nI (v + 1)) t (if fr (v + 1) = 1 then 0 else rpM fr th tm t v)
        rw [if_pos w]
      · rw [if_neg w]
        refine hfin _ ?_ k01 kiff
        show _ = rpH th tm (nI (v + 1)) t (if fr (v + 1) = 1 then 0 else rpM fr th tm t v)
        rw [if_neg w]
theorem eq_known : St_known := by
  intro N cp cd cn cs c1 c2 cb now taken hands out rp rd rn month rtaken num rb fr th tm x1 hN hC hO
  obtain ⟨_, rfl, _, _⟩ := hC
  obtain ⟨rfl, rfl, d, n, m, t, hd0, hd, _, hn1, hn2, rfl, hm, rfl, ht, hk, rfl, ho⟩ := hO
  unfold f_X9_known f_X10_known
  rw [within_eq, in10 N x1 0 1 (by decide) (by decide)]
  simp only [grd]
  by_cases h : x1 < 0 ∨ 1 < x1
  · exact ⟨_, _, if_pos h, if_pos h, rfl⟩
  · rw [if_neg h, if_neg h]
    obtain ⟨k2, hk2, e2⟩ := known_out N hN cd m t hm fr th tm x1 ht (m + 1) 0 N 0 0 (by omega) (by unfold NB at hN; omega) (Or.inl ⟨rfl, rfl, rfl⟩)
    rw [show (0 : Int32) = nI 0 from rfl] at e2
    rw [show f_X10_known_19 N cd (nI m) (nI t) fr th tm x1 N 0 0 0 = _ from e2]
    have ek : k2 = out := by
      rcases hk2 with ⟨a, b⟩ | ⟨a, b⟩ <;> rcases ho with ⟨a', b'⟩ | ⟨a', b'⟩
      · rw [a, a']
      · exact absurd b b'
      · exact absurd b' b
      · rw [a, a']
    subst ek
    unfold f_X10_known_123 f_X1_safeHands
    obtain ⟨b, hb, eb⟩ := rpM_b fr th tm t (fun k hk3 => by obtain ⟨⟨a, h1, h2⟩, _⟩ := hk k hk3; exact ⟨a, by omega, h2⟩) m
    rw [eb, bitC N hb, bits10 N hN]
    simp only [Option.bind_some]
    by_cases g : x1 = 0
    · simp only [if_pos g]
      by_cases w : k2 = 0
      · simp only [if_pos w]; exact ⟨_, _, rfl, rfl, rfl⟩
      · simp only [if_neg w]; exact ⟨_, _, rfl, rfl, rfl⟩
    · simp only [if_neg g]
      by_cases w : k2 = 0
      · simp only [if_pos w, Option.bind_some]; exact ⟨_, _, rfl, rfl, rfl⟩
      · simp only [if_neg w, Option.bind_some]; exact ⟨_, _, rfl, rfl, rfl⟩
