theorem isPoint10 (N : Nat) (n : Nat) (h1 : 1 ≤ n) (h2 : n < 2 ^ 31) (x : Int32) : f_X10_isPoint N (nI n) x = some (if x < 0 ∨ nI (n - 1) < x then 0 else 1) := by
  unfold f_X10_isPoint
  rw [in10 N x 0 (nI n - 1) (by decide) rfl, grdz, nI_subl h1]
theorem hasHand0 (N : Nat) (n : Nat) (h1 : 1 ≤ n) (x : Int32) : f_X0_hasHand N (nI n) x = some (if x < 0 ∨ nI (n - 1) < x then 0 else 1) := by
  unfold f_X0_hasHand
  rw [within_eq, grdz, nI_subl h1]
theorem isNumber0 (N : Nat) (q : Nat) (h1 : 1 ≤ q) (x : Int32) : f_X0_isNumber N (nI q) x = some (if x < 0 ∨ nI (q - 1) < x then 0 else 1) := by
  unfold f_X0_isNumber
  rw [within_eq, grdz, nI_subl h1]
theorem eq_steal : St_steal := by
  intro N cp cd cn cs c1 c2 cb now taken hands out rp rd rn month rtaken num rb fr th tm x1 hN hC hO
  obtain ⟨_, _, rfl, _, _, _, _, q, d', n', _, _, _, _, en, _⟩ := hC
  obtain ⟨rfl, rfl, d, n, m, t, rfl, hd, hn0, hn1, hn2, rfl, hm, rfl, ht, hk, rfl, ho⟩ := hO
  subst hn0
  unfold f_X9_steal f_X10_steal
  rw [hasHand0 N n (by omega), isPoint10 N n (by omega) (by omega)]
  simp only [grd]
  by_cases h : x1 < 0 ∨ nI (n - 1) < x1
  · refine ⟨_, _, if_pos h, if_pos h, rfl, rfl, rfl, d, n, m, t, rfl, hd, rfl, hn1, hn2, rfl, hm, rfl, ht, hk, rfl, ho⟩
  · rw [if_neg h, if_neg h]
    obtain ⟨a, _, ha, rfl⟩ := bnd (x := x1) 0 (n - 1) (by omega) (by omega) h
    rcases Nat.lt_or_ge t 30 with g | g
    · rw [if_pos (show nI t < 30 from nI_lt (b := 30) g (by decide)), if_neg (show ¬ nI t = 30 from fun e => by have := (nI_eq (b := 30) (by omega) (by decide)).mp e; omega), if_pos (gin_nI (show t < 30 by omega) (by decide)), if_pos (gin_nI (show t < 30 by omega) (by decide)), nI_clamp (by omega), nI_1]
      obtain ⟨b, hb, eb⟩ := rpM_b fr th tm t (fun k hk2 => by obtain ⟨⟨a, h1, h2⟩, _⟩ := hk k hk2; exact ⟨a, by omega, h2⟩) m
      obtain ⟨b2, hb2, eb2⟩ := or_bit hb (show a < 6 by omega)
      unfold f_X1_losePoint
      rw [eb, eb2, bitC N hb2]
      have hst : rpM fr (upd th t (nI a)) (upd tm t (nI m)) (t + 1) m = nI b2 := by rw [rpM_stl fr th tm t (nI a) m (by omega), eb, eb2]
      have hkk : ∀ k, k < t + 1 → (∃ a', a' < n ∧ upd th t (nI a) k = nI a') ∧ ∃ u, u ≤ m ∧ upd tm t (nI m) k = nI u := by
        intro k hk2
        rcases Nat.lt_or_ge k t with g2 | g2
        · rw [pk_un (by omega), pk_un (by omega)]; exact hk k g2
        · have e : k = t := by omega
          subst e
          rw [pk_us, pk_us]
          exact ⟨⟨a, by omega, rfl⟩, m, Nat.le_refl m, rfl⟩
      have hKn : rpK (nI d) fr (upd th t (nI a)) (upd tm t (nI m)) (t + 1) m ↔ (rpK (nI d) fr th tm t m ∨ nI d < bits8 (nI b2) 8) := by
        constructor
        · rintro ⟨u, hu, q⟩
          rcases Nat.lt_or_ge u m with g2 | g2
          · rw [rpM_st fr th tm t (nI a) m (by omega) u g2] at q
            exact Or.inl ⟨u, hu, q⟩
          · have e : u = m := by omega
            subst e
            rw [hst] at q
            exact Or.inr q
        · rintro (⟨u, hu, q⟩ | q)
          · rcases Nat.lt_or_ge u m with g2 | g2
            · exact ⟨u, hu, by rw [rpM_st fr th tm t (nI a) m (by omega) u g2]; exact q⟩
            · have e : u = m := by omega
              subst e
              refine ⟨u, hu, ?_⟩
              rw [hst]
              rw [eb] at q
              have mono : ∀ (b : Fin 64) (a : Fin 6) (c : Fin 64), (nI b.val ||| ((1 : Int32) <<< (nI a.val &&& 31))) = nI c.val → bits8 (nI b.val) 8 ≤ bits8 (nI c.val) 8 := by decide +kernel
              exact Int32.lt_of_lt_of_le q (mono ⟨b, hb⟩ ⟨a, by omega⟩ ⟨b2, hb2⟩ eb2)
          · exact ⟨m, Nat.le_refl m, by rw [hst]; exact q⟩
      have hRO : ∀ out' : Int32, ((out' = 1 ∧ (rpK (nI d) fr th tm t m ∨ nI d < bits8 (nI b2) 8)) ∨ (out' = 0 ∧ ¬ (rpK (nI d) fr th tm t m ∨ nI d < bits8 (nI b2) 8))) → R_O (nI d) (nI n) (nI m) (nI (t + 1)) (nI b2) out' (nI m) fr (nI (t + 1)) (upd th t (nI a)) (upd tm t (nI m)) := by
        intro out' ho'
        refine ⟨rfl, rfl, d, n, m, t + 1, rfl, hd, rfl, hn1, hn2, rfl, hm, rfl, by omega, hkk, hst.symm, ?_⟩
        rcases ho' with ⟨e, q⟩ | ⟨e, q⟩
        · exact Or.inl ⟨e, hKn.mpr q⟩
        · exact Or.inr ⟨e, fun w => q (hKn.mp w)⟩
      simp only [Option.bind_some]
      rw [show nI t + 1 = nI (t + 1) from nI_1 t]
      by_cases w : bits8 (nI b2) 8 ≤ nI d
      · simp only [if_pos w, Option.bind_some]
        refine ⟨_, _, rfl, rfl, rfl, ?_⟩
        apply hRO
        rcases ho with ⟨e, q⟩ | ⟨e, q⟩
        · exact Or.inl ⟨e, Or.inl q⟩
        · exact Or.inr ⟨e, fun x => x.elim q (fun y => absurd w (Int32.not_le.mpr y))⟩
      · simp only [if_neg w, Option.bind_some]
        refine ⟨_, _, rfl, rfl, rfl, ?_⟩
        exact hRO _ (Or.inl ⟨rfl, Or.inr (Int32.not_le.mp w)⟩)
    · have e : t = 30 := by omega
      subst e
      exact ⟨_, _, rfl, rfl, rfl, rfl, rfl, d, n, m, 30, rfl, hd, rfl, hn1, hn2, rfl, hm, rfl, ht, hk, rfl, ho⟩
