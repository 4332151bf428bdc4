/-! spy -/
theorem second_loop (N : Nat) (hN : NB ≤ N) {n : Nat} (hn1 : 1 ≤ n) (hn : n ≤ 16) {w t a b d cc : Nat → Int32} (hok : okP n w t a b d) (hcells : ∀ k : Nat, k < n → cc (6 * k) = w k ∧ cc (6 * k + 1) = t k ∧ cc (6 * k + 2) = a k ∧ cc (6 * k + 3) = b k ∧ cc (6 * k + 4) = d k) {m : Nat} (h1 : 2 ≤ m) (h2 : m ≤ 16) (ins : Nat → Int32) (i0 i1 : Nat → Nat) (hinp : ∀ i, i < 4 → ins (4 * 1 + i) = nI (i1 i) ∧ i1 i < 16) (hd : Nat) (hhd : hd < 3) (c0 : cntW w 0 n ≤ 4) (c4 : cntW w 4 n ≤ 4) {many : Nat} (hmany : many ≤ 4096) (em : many = m ^ posN w n) : ∀ (j way fuel : Nat) (sl : Nat → Int64) (lots : Nat → Int32) (vs vn vh vm nl ni : Int32) (S sh sy T va : Nat → Int32), way + j = many → j < fuel → (∀ v, cF (fun u => kyN m w t a b d i1 hd n u + 1) v way ≤ cF (fun u => kyN m w t a b d i0 hd n u + 1) v many) → TB sl (fun k => 0 < cF (fun u => kyN m w t a b d i0 hd n u + 1) k many) (fun k => cF (fun u => kyN m w t a b d i0 hd n u + 1) k many - cF (fun u => kyN m w t a b d i1 hd n u + 1) k way) → cB (fun s => decide (¬ sl s = 0)) 8192 ≤ many + way → (∀ u, u < posN w n → lots u = nI (dgN m way u)) → (∀ u, posN w n ≤ u → u < 40 → lots u = 0) →
    ∃ (z : Int32) (o : (Nat → Int64) × (Nat → Int32) × Int32 × Int32 × Int32 × Int32 × Int32 × Int32 × (Nat → Int32) × (Nat → Int32) × (Nat → Int32) × (Nat → Int32) × (Nat → Int32)), ((z = 0 ∧ ∀ v, cF (fun u => kyN m w t a b d i1 hd n u + 1) v many = cF (fun u => kyN m w t a b d i0 hd n u + 1) v many) ∨ (z = 1 ∧ ¬ ∀ v, cF (fun u => kyN m w t a b d i1 hd n u + 1) v many = cF (fun u => kyN m w t a b d i0 hd n u + 1) v many)) ∧
      f_X5_secondRowDiffers_10 N (nI m) (nI n) (nI (cntW w 0 n)) (nI (cntW w 4 n)) cc ins (nI hd) (nI many) fuel sl lots vs vn vh vm nl ni S sh sy T va (nI way) = some (z, o) := by
  have hb0 : ∀ (i : Nat → Nat) (u : Nat), kyN m w t a b d i hd n u < 134217728 := fun i u => num_lt hok h1 h2 c0 c4 (show m ^ posN w n ≤ 4096 by omega) (dgN m u) i (fun _ _ => 0) hd
  intro j
  induction j with
  | zero =>
    intro way fuel sl lots vs vn vh vm nl ni S sh sy T va hj hf hle hT hc ha hz
    obtain ⟨f, rfl⟩ : ∃ f, fuel = f + 1 := ⟨fuel - 1, by omega⟩
    have e : way = many := by omega
    subst e
    refine ⟨0, (sl, lots, vs, vn, vh, vm, nl, ni, S, sh, sy, T, va), Or.inl ⟨rfl, ?_⟩, ?_⟩
    · exact cF_all (B := 134217729) (fun i _ => by have := hb0 i0 i; show kyN m w t a b d i0 hd n i + 1 < _; omega) (fun i _ => by have := hb0 i1 i; show kyN m w t a b d i1 hd n i + 1 < _; omega) hle
    · rw [u_X5_secondRowDiffers_10]
      unfold s_X5_secondRowDiffers_10
      rw [if_pos (Int32.le_refl _)]
  | succ j ih =>
    intro way fuel sl lots vs vn vh vm nl ni S sh sy T va hj hf hle hT hc ha hz
    obtain ⟨f, rfl⟩ : ∃ f, fuel = f + 1 := ⟨fuel - 1, by omega⟩
    obtain ⟨vs1, vh1, vm1, nl1, ni1, S1, sh1, sy1, T1, va1, eg⟩ := go_way N hN hn1 hn hok hcells h1 h2 ins i1 1 (by decide) hinp hd hhd c0 c4 hmany em (show way < many by omega) lots ha hz vs vn vh vm nl ni S sh sy T va
    have hkb := hb0 i1 way
    obtain ⟨lots2, a2, z2, et⟩ := tl_eq N hN (w := w) (n := n) h1 h2 c0 c4 way lots ha hz
    have hcw : cF (fun u => kyN m w t a b d i0 hd n u + 1) (kyN m w t a b d i1 hd n way + 1) many ≤ many := cF_le _ _ _
    have hs1 : ∀ v, cF (fun u => kyN m w t a b d i1 hd n u + 1) v (way + 1) = cF (fun u => kyN m w t a b d i1 hd n u + 1) v way + (if (kyN m w t a b d i1 hd n way + 1) = v then 1 else 0) := fun v => rfl
    have hmono := cF_mono (fun u => kyN m w t a b d i1 hd n u + 1) (kyN m w t a b d i1 hd n way + 1) (k := way + 1) many (by omega)
    rw [hs1, if_pos rfl] at hmono
    rw [u_X5_secondRowDiffers_10]
    unfold s_X5_secondRowDiffers_10
    rw [if_neg (nI_ge (show way < many by omega) (by omega)), show f_X4_go__N N (nI m) (nI n) cc ins lots 40 (nI hd) 1 vs vn vh vm nl ni S sh sy T va = _ from eg, Option.bind_some]
    unfold f_X5_keyOf
    rw [Option.bind_some, show nI (kyN m w t a b d i1 hd n way) + 1 = nI (kyN m w t a b d i1 hd n way + 1) from nI_1 _]
    by_cases hi : 0 < cF (fun u => kyN m w t a b d i0 hd n u + 1) (kyN m w t a b d i1 hd n way + 1) many
    · obtain ⟨t0, ht0, es, ef⟩ := TB_find N hN hT hi
      rw [ef, Option.bind_some, slotAt_nI N sl (prb_lt _ _), Option.bind_some, es, lI_and (by omega), show ((kyN m w t a b d i1 hd n way + 1) * 8192 + (cF (fun u => kyN m w t a b d i0 hd n u + 1) (kyN m w t a b d i1 hd n way + 1) many - cF (fun u => kyN m w t a b d i1 hd n u + 1) (kyN m w t a b d i1 hd n way + 1) way)) % 8192 = cF (fun u => kyN m w t a b d i0 hd n u + 1) (kyN m w t a b d i1 hd n way + 1) many - cF (fun u => kyN m w t a b d i1 hd n u + 1) (kyN m w t a b d i1 hd n way + 1) way by omega]
      by_cases hs : cF (fun u => kyN m w t a b d i0 hd n u + 1) (kyN m w t a b d i1 hd n way + 1) many - cF (fun u => kyN m w t a b d i1 hd n u + 1) (kyN m w t a b d i1 hd n way + 1) way = 0
      · rw [if_pos ((lg_cmp_eq _ _).mpr (by rw [hs]; rfl))]
        refine ⟨1, _, Or.inr ⟨rfl, fun y => ?_⟩, rfl⟩
        have := y (kyN m w t a b d i1 hd n way + 1)
        omega
      · rw [if_neg (fun y => lI_ne0 (by omega) (by omega) ((lg_cmp_eq _ _).mp y)), lI_sub1 (by omega)]
        have hT' := TB_old (ins' := fun k => 0 < cF (fun u => kyN m w t a b d i0 hd n u + 1) k many) (c' := fun k => cF (fun u => kyN m w t a b d i0 hd n u + 1) k many - cF (fun u => kyN m w t a b d i1 hd n u + 1) k (way + 1)) hT hi es (fun v => Iff.rfl) (by
          intro v hv
          show cF (fun u => kyN m w t a b d i0 hd n u + 1) v many - cF (fun u => kyN m w t a b d i1 hd n u + 1) v (way + 1) = cF (fun u => kyN m w t a b d i0 hd n u + 1) v many - cF (fun u => kyN m w t a b d i1 hd n u + 1) v way
          rw [hs1 v, if_neg (fun y => hv y.symm), Nat.add_zero]) (by
          show cF (fun u => kyN m w t a b d i0 hd n u + 1) (kyN m w t a b d i1 hd n way + 1) many - cF (fun u => kyN m w t a b d i1 hd n u + 1) (kyN m w t a b d i1 hd n way + 1) (way + 1) < 8192
          omega)
        have hc' := nz_upd sl (prb (kyN m w t a b d i1 hd n way + 1) t0) (lI ((kyN m w t a b d i1 hd n way + 1) * 8192 + (cF (fun u => kyN m w t a b d i0 hd n u + 1) (kyN m w t a b d i1 hd n way + 1) many - cF (fun u => kyN m w t a b d i1 hd n u + 1) (kyN m w t a b d i1 hd n way + 1) (way + 1)))) 8192
        rw [if_pos (prb_lt _ _)] at hc'
        obtain ⟨z, o, p1, p2⟩ := ih (way + 1) f _ lots2 vs1 (nI (kyN m w t a b d i1 hd n way)) vh1 vm1 nl1 ni1 S1 sh1 sy1 T1 va1 (by omega) (by omega) (by
          intro v
          rw [hs1 v]
          by_cases y : (kyN m w t a b d i1 hd n way + 1) = v
          · rw [if_pos y, ← y]; omega
          · rw [if_neg y, Nat.add_zero]; exact hle v) hT' (by omega) a2 z2
        refine ⟨z, o, p1, ?_⟩
        rw [putSlot_nI N sl _ (prb_lt _ _), Option.bind_some, et, Option.bind_some, nI_1]
        refine Eq.trans ?_ p2
        rw [hs1, if_pos rfl, show (kyN m w t a b d i1 hd n way + 1) * 8192 + (cF (fun u => kyN m w t a b d i0 hd n u + 1) (kyN m w t a b d i1 hd n way + 1) many - cF (fun u => kyN m w t a b d i1 hd n u + 1) (kyN m w t a b d i1 hd n way + 1) way) - 1 = (kyN m w t a b d i1 hd n way + 1) * 8192 + (cF (fun u => kyN m w t a b d i0 hd n u + 1) (kyN m w t a b d i1 hd n way + 1) many - (cF (fun u => kyN m w t a b d i1 hd n u + 1) (kyN m w t a b d i1 hd n way + 1) way + 1)) by omega]
    · obtain ⟨t0, ht0, es, hp, ef⟩ := TB_free N hN hT (show (kyN m w t a b d i1 hd n way + 1) ≤ 134217728 by omega) hi (zero_slot (by omega))
      rw [ef, Option.bind_some, slotAt_nI N sl (prb_lt _ _), Option.bind_some, es, if_pos (show lg_cmp ((0 : Int64) &&& (8191 : Int64)) (0 : Int64) = 0 from by decide)]
      refine ⟨1, _, Or.inr ⟨rfl, fun y => ?_⟩, rfl⟩
      have := y (kyN m w t a b d i1 hd n way + 1)
      omega
theorem fillL_loop (N : Nat) : ∀ (j k fuel : Nat) (v : Nat → Int64), k + j = 8192 → j < fuel → (∀ s, s < k → v s = 0) → ∃ v' : Nat → Int64, (∀ s, s < 8192 → v' s = 0) ∧ f_J7_fill_d0a16_6 N 8192 (0 : Int64) fuel v (nI k) (nI 8192) = some v' := by
  intro j
  induction j with
  | zero =>
    intro k fuel v hk hf h
    obtain ⟨f, rfl⟩ : ∃ f, fuel = f + 1 := ⟨fuel - 1, by omega⟩
    have e : k = 8192 := by omega
    subst e
    refine ⟨v, h, ?_⟩
    rw [u_J7_fill_d0a16_6]
    unfold s_J7_fill_d0a16_6
    rw [if_pos (Int32.le_refl _)]
  | succ j ih =>
    intro k fuel v hk hf h
    obtain ⟨f, rfl⟩ : ∃ f, fuel = f + 1 := ⟨fuel - 1, by omega⟩
    rw [u_J7_fill_d0a16_6]
    unfold s_J7_fill_d0a16_6
    rw [if_neg (nI_ge (show k < 8192 by omega) (by decide)), if_pos (gin_nI (show k < 8192 by omega) (by decide)), nI_clamp (by omega), nI_1]
    refine ih (k + 1) f _ (by omega) (by omega) ?_
    intro s hs
    by_cases z : s = k
    · rw [z, pk_uLs]
    · rw [pk_uLn z]; exact h s (by omega)
theorem watch_eq (N : Nat) (hN : NB ≤ N) {n : Nat} (hn1 : 1 ≤ n) (hn : n ≤ 16) {w t a b d cc : Nat → Int32} (hok : okP n w t a b d) (hcells : ∀ k : Nat, k < n → cc (6 * k) = w k ∧ cc (6 * k + 1) = t k ∧ cc (6 * k + 2) = a k ∧ cc (6 * k + 3) = b k ∧ cc (6 * k + 4) = d k) {m : Nat} (h1 : 2 ≤ m) (h2 : m ≤ 16) (ins : Nat → Int32) (i0 : Nat → Nat) (hinp : ∀ i, i < 4 → ins (4 * 0 + i) = nI (i0 i) ∧ i0 i < 16) (hd : Nat) (hhd : hd < 3) (c0 : cntW w 0 n ≤ 4) (c4 : cntW w 4 n ≤ 4) {many : Nat} (hmany : many ≤ 4096) (em : many = m ^ posN w n) (un : Int32) (sl : Nat → Int64) (lots : Nat → Int32) (vs vn vh vm nl ni : Int32) (S sh sy T va : Nat → Int32) :
    ∃ (sl' : Nat → Int64) (lots' : Nat → Int32) (vs' vn' vh' vm' nl' ni' : Int32) (S' sh' sy' T' va' : Nat → Int32), TB sl' (fun k => 0 < cF (fun u => kyN m w t a b d i0 hd n u + 1) k many) (fun k => cF (fun u => kyN m w t a b d i0 hd n u + 1) k many) ∧ cB (fun s => decide (¬ sl' s = 0)) 8192 ≤ many ∧
      f_X5_watchFirstRow N (nI m) (nI n) (nI (cntW w 0 n)) (nI (cntW w 4 n)) cc ins (nI hd) (nI many) un sl lots vs vn vh vm nl ni S sh sy T va = some (nI (dF (fun u => kyN m w t a b d i0 hd n u + 1) many), sl', lots', vs', vn', vh', vm', nl', ni', S', sh', sy', T', va') := by
  obtain ⟨v', hv', ef⟩ := fillL_loop N 8192 0 N sl (by omega) (by unfold NB at hN; omega) (fun s hs => absurd hs (Nat.not_lt_zero s))
  have hcz : ∀ k, cF (fun u => kyN m w t a b d i0 hd n u + 1) k 0 = 0 := fun k => rfl
  obtain ⟨sl', lots', vs', vn', vh', vm', nl', ni', S', sh', sy', T', va', p1, p2, p3⟩ := watch_loop N hN hn1 hn hok hcells h1 h2 ins i0 hinp hd hhd c0 c4 hmany em many 0 N v' (fillR lots 0 40) vs vn vh vm nl ni S sh sy T va (by omega) (by unfold NB at hN; omega)
    ⟨fun s hs => Or.inl (hv' s hs), fun k hk => absurd hk (by show ¬ 0 < cF (fun u => kyN m w t a b d i0 hd n u + 1) k 0; rw [hcz]; omega), fun k hk => absurd hk (by show ¬ 0 < cF (fun u => kyN m w t a b d i0 hd n u + 1) k 0; rw [hcz]; omega), fun s s' k _ _ hk => absurd hk (by show ¬ 0 < cF (fun u => kyN m w t a b d i0 hd n u + 1) k 0; rw [hcz]; omega)⟩
    (by rw [cB_zero 8192 (fun s hs => decide_eq_false (p := ¬ v' s = 0) (fun y => y (hv' s hs)))]; omega)
    (fun u hu => by
      have h40 : u < 40 := by unfold posN at hu; omega
      unfold fillR dgN
      rw [if_pos h40, Nat.zero_div, Nat.zero_mod]
      rfl)
    (fun u _ hu => by unfold fillR; rw [if_pos hu])
  refine ⟨sl', lots', vs', vn', vh', vm', nl', ni', S', sh', sy', T', va', p1, p2, ?_⟩
  unfold f_X5_watchFirstRow f_J7_fill_d0a16
  rw [show f_J7_fill_d0a16_6 N 8192 (0 : Int64) N sl 0 (Int32.ofNat 8192) = _ from ef, Option.bind_some, wipe_eq N 40 lots (by unfold NB at hN; omega) (by decide), Option.bind_some]
  exact p3
theorem second_eq (N : Nat) (hN : NB ≤ N) {n : Nat} (hn1 : 1 ≤ n) (hn : n ≤ 16) {w t a b d cc : Nat → Int32} (hok : okP n w t a b d) (hcells : ∀ k : Nat, k < n → cc (6 * k) = w k ∧ cc (6 * k + 1) = t k ∧ cc (6 * k + 2) = a k ∧ cc (6 * k + 3) = b k ∧ cc (6 * k + 4) = d k) {m : Nat} (h1 : 2 ≤ m) (h2 : m ≤ 16) (ins : Nat → Int32) (i0 i1 : Nat → Nat) (hinp : ∀ i, i < 4 → ins (4 * 1 + i) = nI (i1 i) ∧ i1 i < 16) (hd : Nat) (hhd : hd < 3) (c0 : cntW w 0 n ≤ 4) (c4 : cntW w 4 n ≤ 4) {many : Nat} (hmany : many ≤ 4096) (em : many = m ^ posN w n) (sl : Nat → Int64) (hT : TB sl (fun k => 0 < cF (fun u => kyN m w t a b d i0 hd n u + 1) k many) (fun k => cF (fun u => kyN m w t a b d i0 hd n u + 1) k many)) (hc : cB (fun s => decide (¬ sl s = 0)) 8192 ≤ many) (lots : Nat → Int32) (vs vn vh vm nl ni : Int32) (S sh sy T va : Nat → Int32) :
    ∃ (z : Int32) (o : (Nat → Int64) × (Nat → Int32) × Int32 × Int32 × Int32 × Int32 × Int32 × Int32 × (Nat → Int32) × (Nat → Int32) × (Nat → Int32) × (Nat → Int32) × (Nat → Int32)), ((z = 0 ∧ ∀ v, cF (fun u => kyN m w t a b d i1 hd n u + 1) v many = cF (fun u => kyN m w t a b d i0 hd n u + 1) v many) ∨ (z = 1 ∧ ¬ ∀ v, cF (fun u => kyN m w t a b d i1 hd n u + 1) v many = cF (fun u => kyN m w t a b d i0 hd n u + 1) v many)) ∧
      f_X5_secondRowDiffers N (nI m) (nI n) (nI (cntW w 0 n)) (nI (cntW w 4 n)) cc ins (nI hd) (nI many) sl lots vs vn vh vm nl ni S sh sy T va = some (z, o) := by
  obtain ⟨z, o, p1, p2⟩ := second_loop N hN hn1 hn hok hcells h1 h2 ins i0 i1 hinp hd hhd c0 c4 hmany em many 0 N sl (fillR lots 0 40) vs vn vh vm nl ni S sh sy T va (by omega) (by unfold NB at hN; omega) (fun v => Nat.zero_le _) hT (by omega)
    (fun u hu => by
      have h40 : u < 40 := by unfold posN at hu; omega
      unfold fillR dgN
      rw [if_pos h40, Nat.zero_div, Nat.zero_mod]
      rfl)
    (fun u _ hu => by unfold fillR; rw [if_pos hu])
  refine ⟨z, o, p1, ?_⟩
  unfold f_X5_secondRowDiffers
  rw [wipe_eq N 40 lots (by unfold NB at hN; omega) (by decide), Option.bind_some]
  exact p2
theorem inputIn_nI (N : Nat) {m row i x : Nat} (h1 : 1 ≤ m) (h2 : m ≤ 16) (hrow : row < 2) (hi : i < 4) (ins : Nat → Int32) (e : ins (4 * row + i) = nI x) (hx : x < 16) : f_X6_inputIn N (nI m) ins (nI row) (nI i) = some (nI (x % m)) := by
  unfold f_X6_inputIn
  rw [show nI row * 4 + nI i = nI (4 * row + i) by rw [show (4 : Int32) = nI 4 from rfl, nI_mul, nI_add, Nat.mul_comm], at_nI N ins (show 4 * row + i < 8 by omega) (by decide), Option.bind_some, e, mod9 N _ h1 (by omega), Option.bind_some, md_nI (by omega) h1 (by omega)]
theorem alike_loop (N : Nat) {m c : Nat} (h1 : 1 ≤ m) (h2 : m ≤ 16) (hc : c ≤ 4) (ins : Nat → Int32) (i0 i1 : Nat → Nat) (hi0 : ∀ i, i < 4 → ins (4 * 0 + i) = nI (i0 i) ∧ i0 i < 16) (hi1 : ∀ i, i < 4 → ins (4 * 1 + i) = nI (i1 i) ∧ i1 i < 16) : ∀ (j i fuel : Nat), i + j = c → j < fuel → (∀ u, u < i → i0 u % m = i1 u % m) →
    ∃ z : Int32, (z = 0 ∨ (z = 1 ∧ ∀ u, u < c → i0 u % m = i1 u % m)) ∧ f_X6_rowsAreAlike_2 N (nI m) (nI c) ins fuel (nI i) = some z := by
  intro j
  induction j with
  | zero =>
    intro i fuel hi hf h
    obtain ⟨f, rfl⟩ : ∃ f, fuel = f + 1 := ⟨fuel - 1, by omega⟩
    have e : i = c := by omega
    subst e
    refine ⟨1, Or.inr ⟨rfl, h⟩, ?_⟩
    rw [u_X6_rowsAreAlike_2]
    unfold s_X6_rowsAreAlike_2
    rw [if_pos (Int32.le_refl _)]
  | succ j ih =>
    intro i fuel hi hf h
    obtain ⟨f, rfl⟩ : ∃ f, fuel = f + 1 := ⟨fuel - 1, by omega⟩
    obtain ⟨e0, b0⟩ := hi0 i (by omega)
    obtain ⟨e1, b1⟩ := hi1 i (by omega)
    have l0 := Nat.mod_lt (i0 i) (show 0 < m by omega)
    have l1 := Nat.mod_lt (i1 i) (show 0 < m by omega)
    rw [u_X6_rowsAreAlike_2]
    unfold s_X6_rowsAreAlike_2
    rw [if_neg (nI_ge (show i < c by omega) (by omega)), show f_X6_inputIn N (nI m) ins 0 (nI i) = _ from inputIn_nI N h1 h2 (row := 0) (by decide) (by omega) ins e0 b0, Option.bind_some, show f_X6_inputIn N (nI m) ins 1 (nI i) = _ from inputIn_nI N h1 h2 (row := 1) (by decide) (by omega) ins e1 b1, Option.bind_some]
    by_cases z : i0 i % m = i1 i % m
    · rw [if_pos (by rw [z]), nI_1]
      refine ih (i + 1) f (by omega) (by omega) ?_
      intro u hu
      by_cases y : u = i
      · rw [y]; exact z
      · exact h u (by omega)
    · rw [if_neg (fun y => z ((nI_eq (by omega) (by omega)).mp y))]
      exact ⟨0, Or.inl rfl, rfl⟩
theorem cF_shift (K : Nat → Nat) (v : Nat) : ∀ n : Nat, cF (fun u => K u + 1) (v + 1) n = cF K v n := by
  intro n
  induction n with
  | zero => rfl
  | succ n ih =>
    rw [cF_s, cF_s, ih]
    by_cases e : K n = v
    · rw [if_pos e, if_pos (show K n + 1 = v + 1 by omega)]
    · rw [if_neg e, if_neg (show ¬ K n + 1 = v + 1 by omega)]
theorem cF_shift0 (K : Nat → Nat) : ∀ n : Nat, cF (fun u => K u + 1) 0 n = 0 := by
  intro n
  induction n with
  | zero => rfl
  | succ n ih => rw [cF_s, ih, if_neg (by omega)]
theorem dF_shift (K : Nat → Nat) : ∀ n : Nat, dF (fun u => K u + 1) n = dF K n := by
  intro n
  induction n with
  | zero => rfl
  | succ n ih => rw [dF_s, dF_s, ih, cF_shift]
theorem eq_spy : St_spy := by
  intro N cm ci cin cmu cc ins vs vn vh vm nl ni S sh sy T va un sl lots ri rm rc e vs2 w t a b d rin li lh lb P ip dr sn sh2 T2 rows x1 x2 hN hP hM hI
  obtain ⟨n, p1, p2, rfl, rfl, hok, rfl, rfl, c0, c4, hcells⟩ := hP
  obtain ⟨rfl, m, m1, m2, rfl⟩ := hM
  have hp40 : posN w n ≤ 40 := by unfold posN; omega
  obtain ⟨y, y1, y2, y3, y4⟩ := ways_both N hN (show 1 ≤ m by omega) m2 hp40
  have ep : (2 : Int32) * nI (cntW w 0 n) + 8 * nI (cntW w 4 n) = nI (posN w n) := by rw [show (2 : Int32) = nI 2 from rfl, show (8 : Int32) = nI 8 from rfl, nI_mul, nI_mul, nI_add]; rfl
  have hcl : ∀ k : Nat, k < n → cc (6 * k) = w k ∧ cc (6 * k + 1) = t k ∧ cc (6 * k + 2) = a k ∧ cc (6 * k + 3) = b k ∧ cc (6 * k + 4) = d k := fun k hk => ⟨(hcells k hk).1, (hcells k hk).2.1, (hcells k hk).2.2.1, (hcells k hk).2.2.2.1, (hcells k hk).2.2.2.2.1⟩
  unfold f_X9_spy f_X10_spy f_X2_lotsTaken
  rw [isHand9, isHand10, within_eq, in10 N x2 0 1 (by decide) (by decide), lotsTaken_eq N hN w n p2, ep]
  simp only [grd]
  by_cases q : x1 < 0 ∨ 2 < x1
  · rw [if_pos q, if_pos q]; exact ⟨_, _, rfl, rfl, rfl⟩
  rw [if_neg q, if_neg q]
  by_cases q2 : x2 < 0 ∨ 1 < x2
  · rw [if_pos q2, if_pos q2]; exact ⟨_, _, rfl, rfl, rfl⟩
  rw [if_neg q2, if_neg q2, Option.bind_some, Option.bind_some, y3, y4, Option.bind_some]
  obtain ⟨hd, _, hhd, rfl⟩ := bnd (x := x1) 0 2 (by decide) (by decide) q
  rcases Nat.lt_or_ge 4096 y with g | g
  · have g1 : ¬ nI y ≤ 4096 := nI_ge (a := 4096) g (by omega)
    rw [if_neg g1, if_neg g1, Option.bind_some, if_neg (by decide)]
    exact ⟨_, _, rfl, rfl, rfl⟩
  have g1 : nI y ≤ 4096 := nI_le (b := 4096) g (by decide)
  rw [if_pos g1, if_pos g1, Option.bind_some, if_pos g1]
  have em := y2 g
  have hin : ∀ row, row < 2 → ∀ i, i < 4 → rin (4 * row + i) = nI (rin (4 * row + i)).toNatClampNeg ∧ (rin (4 * row + i)).toNatClampNeg < 16 := by
    intro row hr i hi
    obtain ⟨_, x, hx, ex⟩ := hI (4 * row + i) (by omega)
    rw [ex, nI_clamp (by omega)]
    exact ⟨rfl, by omega⟩
  have hin2 : ∀ row, row < 2 → ∀ i, i < 4 → ins (4 * row + i) = nI (rin (4 * row + i)).toNatClampNeg ∧ (rin (4 * row + i)).toNatClampNeg < 16 := by
    intro row hr i hi
    rw [(hI (4 * row + i) (by omega)).1]
    exact hin row hr i hi
  have hb0 : ∀ (i : Nat → Nat) (u : Nat), kyN m w t a b d i hd n u < 134217728 := fun i u => num_lt hok m1 m2 c0 c4 (show m ^ posN w n ≤ 4096 by omega) (dgN m u) i (fun _ _ => 0) hd
  obtain ⟨e1, vs1, P1, ip1, dr1, sn1, sh1, T1, r1, f0, a1, a2, a3, a4, a5, a6⟩ := rows_eq N hN p1 p2 hok m1 m2 rc rin li lh lb (fun i => (rin (4 * 0 + i)).toNatClampNeg) 0 (by decide) (hin 0 (by decide)) hd (by omega) c0 c4 g (by omega) e vs2 P ip dr sn sh2 T2 rows
  obtain ⟨e3, vs3, P3, ip3, dr3, sn3, sh3, T3, r3, f1, b1, b2, b3, b4, b5, b6⟩ := rows_eq N hN p1 p2 hok m1 m2 rc rin li lh lb (fun i => (rin (4 * 1 + i)).toNatClampNeg) 1 (by decide) (hin 1 (by decide)) hd (by omega) c0 c4 g (by omega) e1 vs1 P1 ip1 dr1 sn1 sh1 T1 r1
  obtain ⟨sm', hsm, es⟩ := spy61_loop N (n := n) (m := m) g rc w t a b d rin li lh lb (nI hd) x2 e3 vs3 P3 ip3 dr3 sn3 sh3 T3 r3 f0 f1 (fun u hu => ⟨by
      rw [b3 u (Or.inl (by omega))]
      have := a1 u hu
      rw [Nat.mul_zero, Nat.zero_add] at this
      exact this, a2 u hu⟩) (fun u hu => ⟨by
      have := b1 u hu
      rw [Nat.mul_one] at this
      exact this, b2 u hu⟩) a5 y 0 N true (by omega) (by unfold NB at hN; omega) ⟨fun _ i hi => absurd hi (Nat.not_lt_zero i), fun _ => rfl⟩
  rw [show f_X10_findRows N (nI n) (nI m) rc w t a b d rin li lh lb 0 (nI hd) (nI y) e vs2 P ip dr sn sh2 T2 rows = _ from a6, Option.bind_some, show f_X10_findRows N (nI n) (nI m) rc w t a b d rin li lh lb 1 (nI hd) (nI y) e1 vs1 P1 ip1 dr1 sn1 sh1 T1 r1 = _ from b6, Option.bind_some, show f_X10_spy_61 N (nI n) (nI m) rc w t a b d rin li lh lb (nI hd) x2 N e3 vs3 P3 ip3 dr3 sn3 sh3 T3 r3 (nI y) 0 1 0 = _ from es]
  have hsame : (∀ i, i < y → f0 i = f1 i) ↔ ∀ v, cF (kyN m w t a b d (fun i => (rin (4 * 1 + i)).toNatClampNeg) hd n) v y = cF (kyN m w t a b d (fun i => (rin (4 * 0 + i)).toNatClampNeg) hd n) v y := by
    constructor
    · intro h v
      rw [← a4 v, ← b4 v]
      exact cF_congr v y (fun i hi => (h i hi).symm)
    · intro h i hi
      refine srt_eq a5 b5 (fun v => ?_) hi
      rw [a4 v, b4 v, h v]
  have hsh : (∀ v, cF (fun u => kyN m w t a b d (fun i => (rin (4 * 1 + i)).toNatClampNeg) hd n u + 1) v y = cF (fun u => kyN m w t a b d (fun i => (rin (4 * 0 + i)).toNatClampNeg) hd n u + 1) v y) ↔ ∀ v, cF (kyN m w t a b d (fun i => (rin (4 * 1 + i)).toNatClampNeg) hd n) v y = cF (kyN m w t a b d (fun i => (rin (4 * 0 + i)).toNatClampNeg) hd n) v y := by
    constructor
    · intro h v
      have := h (v + 1)
      rw [cF_shift, cF_shift] at this
      exact this
    · intro h v
      cases v with
      | zero => rw [cF_shift0, cF_shift0]
      | succ v => rw [cF_shift, cF_shift]; exact h v
  have hdd : dF (fun u => kyN m w t a b d (fun i => (rin (4 * 0 + i)).toNatClampNeg) hd n u + 1) y = dF f0 y := by
    rw [dF_shift]
    exact dF_perm (B := 2 ^ 62) (fun u _ => by have := hb0 (fun i => (rin (4 * 0 + i)).toNatClampNeg) u; omega) a2 (fun v => (a4 v).symm)
  obtain ⟨sl5, lots5, vs5, vn5, vh5, vm5, nl5, ni5, S5, sh5, sy5, T5, va5, t1, t2, t3⟩ := watch_eq N hN p1 p2 hok hcl m1 m2 ins (fun i => (rin (4 * 0 + i)).toNatClampNeg) (hin2 0 (by decide)) hd (by omega) c0 c4 g em un sl lots vs vn vh vm nl ni S sh sy T va
  obtain ⟨z, o, s1, s2⟩ := second_eq N hN p1 p2 hok hcl m1 m2 ins (fun i => (rin (4 * 0 + i)).toNatClampNeg) (fun i => (rin (4 * 1 + i)).toNatClampNeg) (hin2 1 (by decide)) hd (by omega) c0 c4 g em sl5 t1 t2 lots5 vs5 vn5 vh5 vm5 nl5 ni5 S5 sh5 sy5 T5 va5
  unfold f_X10_spy_142
  have body : ∃ (zc : O_X9_spy) (zr : O_X10_spy), f_X9_spy_65 N (nI m) (nI n) (nI (cntW w 0 n)) (nI (cntW w 4 n)) cc ins (nI hd) x2 vs vn vh vm nl ni S sh sy T va un sl lots (nI y) = some zc ∧ (if x2 = (1 : Int32) then (some (nI (dF f0 y), e3, vs3, P3, ip3, dr3, sn3, sh3, T3, r3)) else (if (if sm' = true then (1 : Int32) else 0) = 0 then (some ((1 : Int32), e3, vs3, P3, ip3, dr3, sn3, sh3, T3, r3)) else (some ((0 : Int32), e3, vs3, P3, ip3, dr3, sn3, sh3, T3, r3)))) = some zr ∧ zc.1 = zr.1 := by
    unfold f_X9_spy_65
    rw [t3, Option.bind_some]
    by_cases o1 : x2 = 1
    · rw [if_pos o1, if_pos o1]
      exact ⟨_, _, rfl, rfl, congrArg nI hdd⟩
    · rw [if_neg o1, if_neg o1]
      rw [show f_X5_secondRowDiffers N (nI m) (nI n) (nI (cntW w 0 n)) (nI (cntW w 4 n)) cc ins (nI hd) (nI y) _ _ _ _ _ _ _ _ _ _ _ _ _ = _ from s2, Option.bind_some]
      rcases s1 with ⟨z1, z2⟩ | ⟨z1, z2⟩
      · subst z1
        have hs : sm' = true := hsm.mpr (hsame.mpr (hsh.mp z2))
        rw [if_pos rfl, if_pos hs, if_neg (by decide)]
        exact ⟨_, _, rfl, rfl, rfl⟩
      · subst z1
        have hs : ¬ sm' = true := fun h => z2 (hsh.mpr (hsame.mp (hsm.mp h)))
        rw [if_neg (show ¬ (1 : Int32) = 0 by decide), if_neg hs, if_pos rfl]
        exact ⟨_, _, rfl, rfl, rfl⟩
  by_cases o0 : x2 = 0
  · rw [if_pos o0]
    unfold f_X6_rowsAreAlike
    obtain ⟨za, hza, eza⟩ := alike_loop N (show 1 ≤ m by omega) m2 c0 ins (fun i => (rin (4 * 0 + i)).toNatClampNeg) (fun i => (rin (4 * 1 + i)).toNatClampNeg) (hin2 0 (by decide)) (hin2 1 (by decide)) (cntW w 0 n) 0 N (by omega) (by unfold NB at hN; omega) (fun u hu => absurd hu (Nat.not_lt_zero u))
    rw [show f_X6_rowsAreAlike_2 N (nI m) (nI (cntW w 0 n)) ins N 0 = _ from eza, Option.bind_some]
    rcases hza with h0 | ⟨h0, hal⟩
    · rw [if_pos h0]
      exact body
    · subst h0
      have hs : sm' = true := hsm.mpr (hsame.mpr (fun v => cF_congr v y (fun i _ => by
        unfold kyN
        rw [ls_al m w t a b d (dgN m i) (fun _ _ => 0) hd (fun u hu => (hal u hu).symm) n (Nat.le_refl n)])))
      rw [if_neg (by decide), if_neg (show ¬ x2 = 1 from fun h => absurd (o0.symm.trans h) (by decide)), if_pos hs, if_neg (by decide)]
      exact ⟨_, _, rfl, rfl, rfl⟩
  · rw [if_neg o0]
    exact body
