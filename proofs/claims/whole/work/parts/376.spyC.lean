/-! the class's spy -/
theorem tl_loop (N : Nat) {m p : Nat} (h1 : 2 ≤ m) (h2 : m ≤ 16) (hp : p ≤ 40) (way : Nat) (ci cm : Int32) : ∀ (j i fuel : Nat) (lots : Nat → Int32), i + j = p → j < fuel → (way + 1) % m ^ i = 0 → (∀ u, u < i → lots u = nI (dgN m (way + 1) u)) → (∀ u, i ≤ u → u < p → lots u = nI (dgN m way u)) → (∀ u, p ≤ u → u < 40 → lots u = 0) →
    ∃ lots' : Nat → Int32, (∀ u, u < p → lots' u = nI (dgN m (way + 1) u)) ∧ (∀ u, p ≤ u → u < 40 → lots' u = 0) ∧ f_X5_turnLots_10 N (nI m) ci cm fuel lots (nI p) (nI i) = some lots' := by
  intro j
  induction j with
  | zero =>
    intro i fuel lots hi hf hc ha hb hz
    obtain ⟨f, rfl⟩ : ∃ f, fuel = f + 1 := ⟨fuel - 1, by omega⟩
    have e : i = p := by omega
    subst e
    refine ⟨lots, ha, hz, ?_⟩
    rw [u_X5_turnLots_10]
    unfold s_X5_turnLots_10
    rw [if_pos (Int32.le_refl _)]
  | succ j ih =>
    intro i fuel lots hi hf hc ha hb hz
    obtain ⟨f, rfl⟩ : ∃ f, fuel = f + 1 := ⟨fuel - 1, by omega⟩
    have hdl := dgN_lt (show 1 ≤ m by omega) h2 way i
    have hm : 0 < m ^ i := Nat.pow_pos (by omega)
    have hd1 : dgN m (way + 1) i = (dgN m way i + 1) % m := by
      unfold dgN
      rw [succ_div1 hm hc, Nat.mod_add_mod]
    have hlt : dgN m (way + 1) i < m := Nat.mod_lt _ (by omega)
    have hs := Nat.mod_pow_succ (x := way + 1) (b := m) (k := i)
    rw [hc, Nat.zero_add] at hs
    rw [u_X5_turnLots_10]
    unfold s_X5_turnLots_10
    rw [if_neg (nI_ge (show i < p by omega) (by omega)), at_nI N lots (show i < 40 by omega) (by decide), Option.bind_some, hb i (by omega) (by omega), nI_1 (dgN m way i), mod9 N _ (by omega) (by omega), Option.bind_some, md_nI (by omega) (by omega) (by omega), ← hd1, put_nI N lots _ (show i < 40 by omega) (by decide), Option.bind_some]
    have hout : ∀ u, p ≤ u → u < 40 → upd lots i (nI (dgN m (way + 1) i)) u = 0 := fun u h3 h4 => by rw [pk_un (by omega)]; exact hz u h3 h4
    by_cases z : dgN m (way + 1) i = 0
    · rw [if_pos (show nI (dgN m (way + 1) i) = 0 by rw [z]; rfl), nI_1]
      refine ih (i + 1) f _ (by omega) (by omega) ?_ ?_ ?_ hout
      · rw [hs, show (way + 1) / m ^ i % m = 0 from z, Nat.mul_zero]
      · intro u hu
        by_cases y : u = i
        · rw [y, pk_us]
        · rw [pk_un y]; exact ha u (by omega)
      · intro u h3 h4
        rw [pk_un (by omega)]; exact hb u (by omega) h4
    · rw [if_neg (show ¬ nI (dgN m (way + 1) i) = 0 from nI_ne0 (by omega) (by omega))]
      refine ⟨_, ?_, hout, rfl⟩
      intro u hu
      by_cases y : u = i
      · rw [y, pk_us]
      · rw [pk_un y]
        rcases Nat.lt_or_ge u i with q | q
        · exact ha u q
        · rw [hb u q hu]
          unfold dgN
          rw [succ_div0 (x := way) (m := m ^ u) (fun c => by
            apply z
            have hdv : m ^ (i + 1) ∣ m ^ u := Nat.pow_dvd_pow m (by omega)
            have h0 : (way + 1) % m ^ (i + 1) = 0 := Nat.mod_eq_zero_of_dvd (Nat.dvd_trans hdv (Nat.dvd_of_mod_eq_zero c))
            rw [h0] at hs
            rcases Nat.eq_zero_or_pos ((way + 1) / m ^ i % m) with r | r
            · exact r
            · have := Nat.mul_pos hm r
              omega)]
theorem tl_eq (N : Nat) (hN : NB ≤ N) {m : Nat} {w : Nat → Int32} {n : Nat} (h1 : 2 ≤ m) (h2 : m ≤ 16) (c0 : cntW w 0 n ≤ 4) (c4 : cntW w 4 n ≤ 4) (way : Nat) (lots : Nat → Int32) (ha : ∀ u, u < posN w n → lots u = nI (dgN m way u)) (hz : ∀ u, posN w n ≤ u → u < 40 → lots u = 0) :
    ∃ lots' : Nat → Int32, (∀ u, u < posN w n → lots' u = nI (dgN m (way + 1) u)) ∧ (∀ u, posN w n ≤ u → u < 40 → lots' u = 0) ∧ f_X5_turnLots N (nI m) (nI (cntW w 0 n)) (nI (cntW w 4 n)) lots = some lots' := by
  have hp : posN w n ≤ 40 := by unfold posN; omega
  obtain ⟨lots', q1, q2, q3⟩ := tl_loop N h1 h2 hp way (nI (cntW w 0 n)) (nI (cntW w 4 n)) (posN w n) 0 N lots (by omega) (by unfold NB at hN; omega) (by rw [Nat.pow_zero]; exact Nat.mod_one _) (fun u hu => absurd hu (Nat.not_lt_zero u)) (fun u _ hu => ha u hu) hz
  refine ⟨lots', q1, q2, ?_⟩
  unfold f_X5_turnLots f_X2_lotsTaken
  rw [Option.bind_some, show (2 : Int32) * nI (cntW w 0 n) + 8 * nI (cntW w 4 n) = nI (posN w n) by rw [show (2 : Int32) = nI 2 from rfl, show (8 : Int32) = nI 8 from rfl, nI_mul, nI_mul, nI_add]; rfl]
  exact q3
/-- one run on a way -/
theorem go_way (N : Nat) (hN : NB ≤ N) {n : Nat} (hn1 : 1 ≤ n) (hn : n ≤ 16) {w t a b d cc : Nat → Int32} (hok : okP n w t a b d) (hcells : ∀ k : Nat, k < n → cc (6 * k) = w k ∧ cc (6 * k + 1) = t k ∧ cc (6 * k + 2) = a k ∧ cc (6 * k + 3) = b k ∧ cc (6 * k + 4) = d k) {m : Nat} (h1 : 2 ≤ m) (h2 : m ≤ 16) (ins : Nat → Int32) (inp : Nat → Nat) (row : Nat) (hrow : row < 2) (hinp : ∀ i, i < 4 → ins (4 * row + i) = nI (inp i) ∧ inp i < 16) (hd : Nat) (hhd : hd < 3) (c0 : cntW w 0 n ≤ 4) (c4 : cntW w 4 n ≤ 4) {many : Nat} (hmany : many ≤ 4096) (em : many = m ^ posN w n) {way : Nat} (hway : way < many) (lots : Nat → Int32) (ha : ∀ u, u < posN w n → lots u = nI (dgN m way u)) (hz : ∀ u, posN w n ≤ u → u < 40 → lots u = 0) (vs vn vh vm nl ni : Int32) (S sh sy T va : Nat → Int32) :
    ∃ (vs' vh' vm' nl' ni' : Int32) (S' sh' sy' T' va' : Nat → Int32), f_X4_go__N N (nI m) (nI n) cc ins lots 40 (nI hd) (nI row) vs vn vh vm nl ni S sh sy T va = some (vs', nI (kyN m w t a b d inp hd n way), vh', vm', nl', ni', S', sh', sy', T', va') := by
  have hl : ∀ i, i < 40 → lots i = nI (dgN m way i) ∧ dgN m way i < 16 := by
    intro i hi
    refine ⟨?_, dgN_lt (by omega) h2 way i⟩
    rcases Nat.lt_or_ge i (posN w n) with z | z
    · exact ha i z
    · rw [hz i z hi]
      have : way < m ^ i := Nat.lt_of_lt_of_le (by omega) (Nat.pow_le_pow_right (show 0 < m by omega) z)
      unfold dgN
      rw [Nat.div_eq_of_lt this, Nat.zero_mod]
      rfl
  obtain ⟨S', sh', sy', T', va', g1, g2, g3, g4⟩ := goT N hN hn1 hn hok hcells (show 1 ≤ m by omega) h2 lots (fun _ => 0) ins (dgN m way) inp (fun _ _ => 0) hl (fun k h _ _ => ⟨rfl, by decide⟩) row hrow hinp hd hhd c0 c4 vs vn vh vm nl ni S sh sy T va
  refine ⟨nI (lsN m w t a b d (dgN m way) inp (fun _ _ => 0) hd n).length, nI hd, nI m, nI (posN w n), nI (cntW w 0 n), S', sh', sy', T', va', ?_⟩
  rw [goN, g4, numI_nI]
  rfl
theorem watch_loop (N : Nat) (hN : NB ≤ N) {n : Nat} (hn1 : 1 ≤ n) (hn : n ≤ 16) {w t a b d cc : Nat → Int32} (hok : okP n w t a b d) (hcells : ∀ k : Nat, k < n → cc (6 * k) = w k ∧ cc (6 * k + 1) = t k ∧ cc (6 * k + 2) = a k ∧ cc (6 * k + 3) = b k ∧ cc (6 * k + 4) = d k) {m : Nat} (h1 : 2 ≤ m) (h2 : m ≤ 16) (ins : Nat → Int32) (inp : Nat → Nat) (hinp : ∀ i, i < 4 → ins (4 * 0 + i) = nI (inp i) ∧ inp i < 16) (hd : Nat) (hhd : hd < 3) (c0 : cntW w 0 n ≤ 4) (c4 : cntW w 4 n ≤ 4) {many : Nat} (hmany : many ≤ 4096) (em : many = m ^ posN w n) : ∀ (j way fuel : Nat) (sl : Nat → Int64) (lots : Nat → Int32) (vs vn vh vm nl ni : Int32) (S sh sy T va : Nat → Int32), way + j = many → j < fuel → TB sl (fun k => 0 < cF (fun u => kyN m w t a b d inp hd n u + 1) k way) (fun k => cF (fun u => kyN m w t a b d inp hd n u + 1) k way) → cB (fun s => decide (¬ sl s = 0)) 8192 ≤ way → (∀ u, u < posN w n → lots u = nI (dgN m way u)) → (∀ u, posN w n ≤ u → u < 40 → lots u = 0) →
    ∃ (sl' : Nat → Int64) (lots' : Nat → Int32) (vs' vn' vh' vm' nl' ni' : Int32) (S' sh' sy' T' va' : Nat → Int32), TB sl' (fun k => 0 < cF (fun u => kyN m w t a b d inp hd n u + 1) k many) (fun k => cF (fun u => kyN m w t a b d inp hd n u + 1) k many) ∧ cB (fun s => decide (¬ sl' s = 0)) 8192 ≤ many ∧
      f_X5_watchFirstRow_23 N (nI m) (nI n) (nI (cntW w 0 n)) (nI (cntW w 4 n)) cc ins (nI hd) (nI many) fuel (nI (dF (fun u => kyN m w t a b d inp hd n u + 1) way)) sl lots vs vn vh vm nl ni S sh sy T va (nI way) = some (nI (dF (fun u => kyN m w t a b d inp hd n u + 1) many), sl', lots', vs', vn', vh', vm', nl', ni', S', sh', sy', T', va') := by
  intro j
  induction j with
  | zero =>
    intro way fuel sl lots vs vn vh vm nl ni S sh sy T va hj hf hT hc ha hz
    obtain ⟨f, rfl⟩ : ∃ f, fuel = f + 1 := ⟨fuel - 1, by omega⟩
    have e : way = many := by omega
    subst e
    refine ⟨sl, lots, vs, vn, vh, vm, nl, ni, S, sh, sy, T, va, hT, hc, ?_⟩
    rw [u_X5_watchFirstRow_23]
    unfold s_X5_watchFirstRow_23
    rw [if_pos (Int32.le_refl _)]
  | succ j ih =>
    intro way fuel sl lots vs vn vh vm nl ni S sh sy T va hj hf hT hc ha hz
    obtain ⟨f, rfl⟩ : ∃ f, fuel = f + 1 := ⟨fuel - 1, by omega⟩
    obtain ⟨vs1, vh1, vm1, nl1, ni1, S1, sh1, sy1, T1, va1, eg⟩ := go_way N hN hn1 hn hok hcells h1 h2 ins inp 0 (by decide) hinp hd hhd c0 c4 hmany em (show way < many by omega) lots ha hz vs vn vh vm nl ni S sh sy T va
    have hkb := num_lt hok h1 h2 c0 c4 (show m ^ posN w n ≤ 4096 by omega) (dgN m way) inp (fun _ _ => 0) hd
    have hkb2 : kyN m w t a b d inp hd n way < 134217728 := hkb
    obtain ⟨lots2, a2, z2, et⟩ := tl_eq N hN (w := w) (n := n) h1 h2 c0 c4 way lots ha hz
    have hcw : cF (fun u => kyN m w t a b d inp hd n u + 1) (kyN m w t a b d inp hd n way + 1) way ≤ way := cF_le _ _ _
    have hs1 : ∀ v, cF (fun u => kyN m w t a b d inp hd n u + 1) v (way + 1) = cF (fun u => kyN m w t a b d inp hd n u + 1) v way + (if kyN m w t a b d inp hd n way + 1 = v then 1 else 0) := fun v => rfl
    rw [u_X5_watchFirstRow_23]
    unfold s_X5_watchFirstRow_23
    rw [if_neg (nI_ge (show way < many by omega) (by omega)), show f_X4_go__N N (nI m) (nI n) cc ins lots 40 (nI hd) 0 vs vn vh vm nl ni S sh sy T va = _ from eg, Option.bind_some]
    unfold f_X5_keyOf
    rw [Option.bind_some, show nI (kyN m w t a b d inp hd n way) + 1 = nI (kyN m w t a b d inp hd n way + 1) from nI_1 _]
    by_cases hi : 0 < cF (fun u => kyN m w t a b d inp hd n u + 1) (kyN m w t a b d inp hd n way + 1) way
    · obtain ⟨t0, ht0, es, ef⟩ := TB_find N hN hT hi
      have hT' := TB_old (ins' := fun k => 0 < cF (fun u => kyN m w t a b d inp hd n u + 1) k (way + 1)) (c' := fun k => cF (fun u => kyN m w t a b d inp hd n u + 1) k (way + 1)) hT hi es (by
        intro v
        show 0 < cF (fun u => kyN m w t a b d inp hd n u + 1) v (way + 1) ↔ 0 < cF (fun u => kyN m w t a b d inp hd n u + 1) v way
        rw [hs1 v]
        by_cases y : kyN m w t a b d inp hd n way + 1 = v
        · rw [if_pos y]
          rw [y] at hi
          omega
        · rw [if_neg y, Nat.add_zero]) (by
        intro v hv
        show cF (fun u => kyN m w t a b d inp hd n u + 1) v (way + 1) = cF (fun u => kyN m w t a b d inp hd n u + 1) v way
        rw [hs1 v, if_neg (fun y => hv y.symm), Nat.add_zero]) (by
        show cF (fun u => kyN m w t a b d inp hd n u + 1) (kyN m w t a b d inp hd n way + 1) (way + 1) < 8192
        rw [hs1, if_pos rfl]
        omega)
      have hc' := nz_upd sl (prb (kyN m w t a b d inp hd n way + 1) t0) (lI ((kyN m w t a b d inp hd n way + 1) * 8192 + cF (fun u => kyN m w t a b d inp hd n u + 1) (kyN m w t a b d inp hd n way + 1) (way + 1))) 8192
      rw [if_pos (prb_lt _ _)] at hc'
      obtain ⟨sl', lots', vs', vn', vh', vm', nl', ni', S', sh', sy', T', va', p1, p2, p3⟩ := ih (way + 1) f _ lots2 vs1 (nI (kyN m w t a b d inp hd n way)) vh1 vm1 nl1 ni1 S1 sh1 sy1 T1 va1 (by omega) (by omega) hT' (by omega) a2 z2
      refine ⟨sl', lots', vs', vn', vh', vm', nl', ni', S', sh', sy', T', va', p1, p2, ?_⟩
      rw [ef, Option.bind_some, slotAt_nI N sl (prb_lt _ _), Option.bind_some, es, if_neg (fun y => lI_ne0 (by omega) (by omega) ((lg_cmp_eq _ _).mp y))]
      unfold f_X5_watchFirstRow_89
      rw [show (1 : Int64) = lI 1 from rfl, lI_add, putSlot_nI N sl _ (prb_lt _ _), Option.bind_some, et, Option.bind_some, nI_1]
      refine Eq.trans ?_ p3
      rw [dF_s, if_neg (by show ¬ cF (fun u => kyN m w t a b d inp hd n u + 1) (kyN m w t a b d inp hd n way + 1) way = 0; omega), hs1, if_pos rfl, Nat.add_assoc]
      rfl
    · obtain ⟨t0, ht0, es, hp, ef⟩ := TB_free N hN hT (show kyN m w t a b d inp hd n way + 1 ≤ 134217728 by omega) hi (zero_slot (by omega))
      have hT' := TB_new (ins' := fun k => 0 < cF (fun u => kyN m w t a b d inp hd n u + 1) k (way + 1)) (c' := fun k => cF (fun u => kyN m w t a b d inp hd n u + 1) k (way + 1)) hT (by omega) (by omega) hi ht0 es hp (by
        intro v
        show 0 < cF (fun u => kyN m w t a b d inp hd n u + 1) v (way + 1) ↔ 0 < cF (fun u => kyN m w t a b d inp hd n u + 1) v way ∨ v = kyN m w t a b d inp hd n way + 1
        rw [hs1 v]
        by_cases y : kyN m w t a b d inp hd n way + 1 = v
        · rw [if_pos y]
          exact ⟨fun _ => Or.inr y.symm, fun _ => by omega⟩
        · rw [if_neg y, Nat.add_zero]
          exact ⟨fun q => Or.inl q, fun q => q.resolve_right (fun x => y x.symm)⟩) (by
        intro v hv
        show cF (fun u => kyN m w t a b d inp hd n u + 1) v (way + 1) = cF (fun u => kyN m w t a b d inp hd n u + 1) v way
        rw [hs1 v, if_neg (fun y => hv y.symm), Nat.add_zero]) (by
        show cF (fun u => kyN m w t a b d inp hd n u + 1) (kyN m w t a b d inp hd n way + 1) (way + 1) < 8192
        rw [hs1, if_pos rfl]
        omega)
      have hc' := nz_upd sl (prb (kyN m w t a b d inp hd n way + 1) t0) (lI ((kyN m w t a b d inp hd n way + 1) * 8192 + cF (fun u => kyN m w t a b d inp hd n u + 1) (kyN m w t a b d inp hd n way + 1) (way + 1))) 8192
      rw [if_pos (prb_lt _ _)] at hc'
      obtain ⟨sl', lots', vs', vn', vh', vm', nl', ni', S', sh', sy', T', va', p1, p2, p3⟩ := ih (way + 1) f _ lots2 vs1 (nI (kyN m w t a b d inp hd n way)) vh1 vm1 nl1 ni1 S1 sh1 sy1 T1 va1 (by omega) (by omega) hT' (by omega) a2 z2
      refine ⟨sl', lots', vs', vn', vh', vm', nl', ni', S', sh', sy', T', va', p1, p2, ?_⟩
      rw [ef, Option.bind_some, slotAt_nI N sl (prb_lt _ _), Option.bind_some, es, if_pos ((lg_cmp_eq _ _).mpr rfl)]
      unfold f_X5_watchFirstRow_89
      rw [nI_long (by omega), lI_shl (by omega), show (1 : Int64) = lI 1 from rfl, lI_add, putSlot_nI N sl _ (prb_lt _ _), Option.bind_some, et, Option.bind_some, nI_1, nI_1]
      refine Eq.trans ?_ p3
      rw [dF_s, if_pos (by show cF (fun u => kyN m w t a b d inp hd n u + 1) (kyN m w t a b d inp hd n way + 1) way = 0; omega), hs1, if_pos rfl, show cF (fun u => kyN m w t a b d inp hd n u + 1) (kyN m w t a b d inp hd n way + 1) way = 0 by omega, Nat.zero_add]
