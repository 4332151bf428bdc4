/-! bits of small sets; months; curves -/
theorem bitC (N : Nat) {k : Nat} (h : k < 64) : f_J6_bitCount_0f7a4 N (nI k) = some (bits8 (nI k) 8) := by
  have h2 : ∀ k : Fin 64, f_J6_bitCount_0f7a4 0 (nI k.val) = some (bits8 (nI k.val) 8) := by decide +kernel
  exact h2 ⟨k, h⟩
theorem bits_loop (N : Nat) (x : Int32) : ∀ (m k fuel : Nat), k + m = 8 → m < fuel → f_X10_bitsIn_4 N x fuel (bits8 x k) (nI k) = some (bits8 x 8) := by
  intro m
  induction m with
  | zero =>
    intro k fuel hk hf
    obtain ⟨f, rfl⟩ : ∃ f, fuel = f + 1 := ⟨fuel - 1, by omega⟩
    have e : k = 8 := by omega
    subst e
    rw [u_X10_bitsIn_4]
    unfold s_X10_bitsIn_4
    rw [if_pos (by decide)]
  | succ m ih =>
    intro k fuel hk hf
    obtain ⟨f, rfl⟩ : ∃ f, fuel = f + 1 := ⟨fuel - 1, by omega⟩
    rw [u_X10_bitsIn_4]
    unfold s_X10_bitsIn_4
    rw [if_neg (show ¬ (8 : Int32) ≤ nI k from nI_ge (b := 8) (by omega) (by decide)), nI_1]
    exact ih (k + 1) f (by omega) (by omega)
theorem bits10 (N : Nat) (hN : NB ≤ N) (x : Int32) : f_X10_bitsIn N x = some (bits8 x 8) := bits_loop N x 8 0 N (by omega) (by unfold NB at hN; omega)
theorem or_bit {a h : Nat} (ha : a < 64) (hh : h < 6) : ∃ b : Nat, b < 64 ∧ (nI a ||| ((1 : Int32) <<< (nI h &&& 31))) = nI b := by
  have h2 : ∀ (a : Fin 64) (h : Fin 6), (nI a.val ||| ((1 : Int32) <<< (nI h.val &&& 31))) = nI (a.val ||| 2 ^ h.val) ∧ (a.val ||| 2 ^ h.val) < 64 := by decide +kernel
  have := h2 ⟨a, ha⟩ ⟨h, hh⟩
  exact ⟨_, this.2, this.1⟩
theorem rpH_b (th tm : Nat → Int32) (u : Int32) : ∀ (t : Nat), (∀ k, k < t → ∃ a : Nat, a < 6 ∧ th k = nI a) → ∀ b : Nat, b < 64 → ∃ c : Nat, c < 64 ∧ rpH th tm u t (nI b) = nI c := by
  intro t
  induction t with
  | zero => intro _ b hb; exact ⟨b, hb, rfl⟩
  | succ t ih =>
    intro h b hb
    obtain ⟨c, hc, e⟩ := ih (fun k hk => h k (by omega)) b hb
    obtain ⟨a, ha, ea⟩ := h t (by omega)
    show ∃ c, c < 64 ∧ (if tm t = u then rpH th tm u t (nI b) ||| ((1 : Int32) <<< (th t &&& 31)) else rpH th tm u t (nI b)) = nI c
    rw [e, ea]
    by_cases q : tm t = u
    · rw [if_pos q]; exact or_bit hc ha
    · rw [if_neg q]; exact ⟨c, hc, rfl⟩
theorem rpM_b (fr th tm : Nat → Int32) (t : Nat) (h : ∀ k, k < t → ∃ a : Nat, a < 6 ∧ th k = nI a) : ∀ m : Nat, ∃ c : Nat, c < 64 ∧ rpM fr th tm t m = nI c := by
  intro m
  induction m with
  | zero => exact rpH_b th tm (nI 0) t h 0 (by decide)
  | succ m ih =>
    obtain ⟨c, hc, e⟩ := ih
    show ∃ c, c < 64 ∧ rpH th tm (nI (m + 1)) t (if fr (m + 1) = 1 then 0 else rpM fr th tm t m) = nI c
    by_cases q : fr (m + 1) = 1
    · rw [if_pos q]; exact rpH_b th tm _ t h 0 (by decide)
    · rw [if_neg q, e]; exact rpH_b th tm _ t h c hc
/-- what was stolen later than month u leaves it as it was -/
theorem rpH_up (th tm : Nat → Int32) (u : Int32) (t : Nat) (a b : Int32) (hb : b ≠ u) : ∀ (k : Nat), k ≤ t → ∀ h : Int32, rpH (upd th t a) (upd tm t b) u k h = rpH th tm u k h := by
  intro k
  induction k with
  | zero => intro _ h; rfl
  | succ k ih =>
    intro hk h
    show (if upd tm t b k = u then rpH (upd th t a) (upd tm t b) u k h ||| ((1 : Int32) <<< (upd th t a k &&& 31)) else rpH (upd th t a) (upd tm t b) u k h) = _
    rw [ih (by omega) h, pk_un (by omega), pk_un (by omega)]
    rfl
theorem rpH_upl (th tm : Nat → Int32) (u : Int32) (t : Nat) (a b : Int32) : ∀ (k : Nat), k ≤ t → ∀ h : Int32, rpH (upd th t a) (upd tm t b) u k h = rpH th tm u k h := by
  intro k
  induction k with
  | zero => intro _ h; rfl
  | succ k ih =>
    intro hk h
    show (if upd tm t b k = u then rpH (upd th t a) (upd tm t b) u k h ||| ((1 : Int32) <<< (upd th t a k &&& 31)) else rpH (upd th t a) (upd tm t b) u k h) = _
    rw [ih (by omega) h, pk_un (by omega), pk_un (by omega)]
    rfl
theorem rpH_st (th tm : Nat → Int32) (u : Int32) (t : Nat) (a b : Int32) (h : Int32) : rpH (upd th t a) (upd tm t b) u (t + 1) h = if b = u then rpH th tm u t h ||| ((1 : Int32) <<< (a &&& 31)) else rpH th tm u t h := by
  show (if upd tm t b t = u then rpH (upd th t a) (upd tm t b) u t h ||| ((1 : Int32) <<< (upd th t a t &&& 31)) else rpH (upd th t a) (upd tm t b) u t h) = _
  rw [rpH_upl th tm u t a b t (Nat.le_refl t) h, pk_us, pk_us]
/-- months before the last one see nothing of a theft in the last one -/
theorem rpM_st (fr th tm : Nat → Int32) (t : Nat) (a : Int32) (m : Nat) (hm : m < 2 ^ 31) : ∀ u : Nat, u < m → rpM fr (upd th t a) (upd tm t (nI m)) (t + 1) u = rpM fr th tm t u := by
  intro u
  induction u with
  | zero =>
    intro hu
    show rpH _ _ (nI 0) (t + 1) 0 = rpH th tm (nI 0) t 0
    rw [rpH_st, if_neg (fun e => by have := (nI_eq hm (by omega)).mp e; omega)]
  | succ u ih =>
    intro hu
    show rpH _ _ (nI (u + 1)) (t + 1) (if fr (u + 1) = 1 then 0 else rpM fr (upd th t a) (upd tm t (nI m)) (t + 1) u) = rpH th tm (nI (u + 1)) t (if fr (u + 1) = 1 then 0 else rpM fr th tm t u)
    rw [rpH_st, if_neg (fun e => by have := (nI_eq hm (by omega)).mp e; omega), ih (by omega)]
theorem rpM_stl (fr th tm : Nat → Int32) (t : Nat) (a : Int32) (m : Nat) (hm : m < 2 ^ 31) : rpM fr (upd th t a) (upd tm t (nI m)) (t + 1) m = rpM fr th tm t m ||| ((1 : Int32) <<< (a &&& 31)) := by
  cases m with
  | zero =>
    show rpH _ _ (nI 0) (t + 1) 0 = rpH th tm (nI 0) t 0 ||| _
    rw [rpH_st, if_pos rfl]
  | succ m =>
    show rpH _ _ (nI (m + 1)) (t + 1) (if fr (m + 1) = 1 then 0 else rpM fr (upd th t a) (upd tm t (nI (m + 1))) (t + 1) m) = rpH th tm (nI (m + 1)) t (if fr (m + 1) = 1 then 0 else rpM fr th tm t m) ||| _
    rw [rpH_st, if_pos rfl, rpM_st fr th tm t a (m + 1) hm m (by omega)]
/-- no theft yet in month u -/
theorem rpH_none (th tm : Nat → Int32) (u : Int32) : ∀ (t : Nat), (∀ k, k < t → tm k ≠ u) → ∀ h : Int32, rpH th tm u t h = h := by
  intro t
  induction t with
  | zero => intro _ h; rfl
  | succ t ih =>
    intro hh h
    show (if tm t = u then _ else _) = h
    rw [if_neg (hh t (by omega))]
    exact ih (fun k hk => hh k (by omega)) h
theorem rpM_fr (fr fr' th tm : Nat → Int32) (t : Nat) : ∀ m : Nat, (∀ u, u ≤ m → fr' u = fr u) → rpM fr' th tm t m = rpM fr th tm t m := by
  intro m
  induction m with
  | zero => intro _; rfl
  | succ m ih =>
    intro h
    show rpH th tm (nI (m + 1)) t (if fr' (m + 1) = 1 then 0 else rpM fr' th tm t m) = rpH th tm (nI (m + 1)) t (if fr (m + 1) = 1 then 0 else rpM fr th tm t m)
    rw [ih (fun u hu => h u (by omega)), h (m + 1) (Nat.le_refl _)]
theorem eq_month : St_month := by
  intro N deg pts now taken hands out month rtaken fr th tm x1 hN hO
  obtain ⟨rfl, rfl, d, n, m, t, rfl, hd, rfl, hn1, hn2, rfl, hm, rfl, ht, hk, rfl, ho⟩ := hO
  unfold f_X9_month f_X10_month
  rw [within_eq, in10 N x1 0 1 (by decide) (by decide), grd, grd]
  by_cases h : x1 < 0 ∨ 1 < x1
  · refine ⟨_, _, if_pos h, if_pos h, rfl, rfl, rfl, d, n, m, t, rfl, hd, rfl, hn1, hn2, rfl, hm, rfl, ht, hk, rfl, ho⟩
  · rw [if_neg h, if_neg h]
    obtain ⟨v, _, hv, rfl⟩ := bnd (x := x1) 0 1 (by decide) (by decide) h
    rcases Nat.lt_or_ge m 29 with g | g
    · rw [if_pos (show nI m < 29 from nI_lt (b := 29) g (by decide)), if_neg (show ¬ nI m = 29 from fun e => by have := (nI_eq (b := 29) (by omega) (by decide)).mp e; omega), nI_1, if_pos (gin_nI (show m + 1 < 30 by omega) (by decide)), nI_clamp (by omega)]
      have hv2 : v = 0 ∨ v = 1 := by omega
      have hnew : ∀ k, k < t → tm k ≠ nI (m + 1) := fun k hk2 e => by
        obtain ⟨_, u, hu, eu⟩ := hk k hk2
        rw [eu] at e
        have := (nI_eq (by omega) (by omega)).mp e
        omega
      have hfr : ∀ u, u ≤ m → rpM (upd fr (m + 1) (nI v)) th tm t u = rpM fr th tm t u := fun u hu => rpM_fr fr _ th tm t u (fun w hw => pk_un (by omega))
      have hlast : rpM (upd fr (m + 1) (nI v)) th tm t (m + 1) = if v = 1 then 0 else rpM fr th tm t m := by
        show rpH th tm (nI (m + 1)) t (if upd fr (m + 1) (nI v) (m + 1) = 1 then 0 else rpM (upd fr (m + 1) (nI v)) th tm t m) = _
        rw [rpH_none th tm _ t hnew, pk_us, hfr m (Nat.le_refl m)]
        rcases hv2 with rfl | rfl
        · rfl
        · rfl
      have hKn : rpK (nI d) (upd fr (m + 1) (nI v)) th tm t (m + 1) ↔ rpK (nI d) fr th tm t m := by
        constructor
        · rintro ⟨u, hu, q⟩
          rcases Nat.lt_or_ge u (m + 1) with hu2 | hu2
          · exact ⟨u, by omega, by rw [hfr u (by omega)] at q; exact q⟩
          · have e : u = m + 1 := by omega
            subst e
            rw [hlast] at q
            rcases hv2 with rfl | rfl
            · exact ⟨m, Nat.le_refl m, q⟩
            · exfalso
              rw [if_pos rfl, show bits8 0 8 = nI 0 by decide] at q
              exact nI_nlt (Nat.zero_le d) (by omega) q
        · rintro ⟨u, hu, q⟩
          exact ⟨u, by omega, by rw [hfr u hu]; exact q⟩
      have hRO : ∀ hands : Int32, hands = (if v = 1 then 0 else rpM fr th tm t m) → R_O (nI d) (nI n) (nI (m + 1)) (nI t) hands out (nI (m + 1)) (upd fr (m + 1) (nI v)) (nI t) th tm := by
        intro hands eh
        refine ⟨rfl, rfl, d, n, m + 1, t, rfl, hd, rfl, hn1, hn2, rfl, by omega, rfl, ht, ?_, by rw [eh, hlast], ?_⟩
        · intro k hk2
          obtain ⟨q1, u, hu, eu⟩ := hk k hk2
          exact ⟨q1, u, by omega, eu⟩
        · rcases ho with ⟨e, q⟩ | ⟨e, q⟩
          · exact Or.inl ⟨e, hKn.mpr q⟩
          · exact Or.inr ⟨e, fun w => q (hKn.mp w)⟩
      rcases hv2 with rfl | rfl
      · refine ⟨_, _, rfl, rfl, nI_1 m, ?_⟩
        have e1 : nI m + 1 = nI (m + 1) := nI_1 m
        show R_O _ _ (nI m + 1) _ _ _ _ _ _ _ _
        rw [e1]
        exact hRO _ rfl
      · refine ⟨_, _, rfl, rfl, nI_1 m, ?_⟩
        have e1 : nI m + 1 = nI (m + 1) := nI_1 m
        show R_O _ _ (nI m + 1) _ _ _ _ _ _ _ _
        rw [e1]
        exact hRO _ rfl
    · have e : m = 29 := by omega
      subst e
      exact ⟨_, _, rfl, rfl, rfl, rfl, rfl, d, n, 29, t, rfl, hd, rfl, hn1, hn2, rfl, hm, rfl, ht, hk, rfl, ho⟩
