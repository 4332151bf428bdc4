/-! an item whole -/
theorem isB {c : Nat} (hc : c ≤ 5) : (if decide (c = 5) = true then (1 : Int32) else 0) = if nI c = 5 then 1 else 0 := by
  rcases (show c = 0 ∨ c = 1 ∨ c = 2 ∨ c = 3 ∨ c = 4 ∨ c = 5 by omega) with rfl | rfl | rfl | rfl | rfl | rfl <;> rfl
theorem letB (N : Nat) (hN : NB ≤ N) {rb : Nat → Int32} (hb : ∀ j, -128 ≤ (rb j).toInt ∧ (rb j).toInt ≤ 127) {n : Nat} (hn : n ≤ 300) {k bm : Nat} (hk : k < 16) {cc dp W T A B D : Nat → Int32} (hD : DR k bm cc dp W T A B D) (c0 : cntW W 0 k ≤ 4) (c4 : cntW W 4 k ≤ 4) (f : Nat) (items lies : Int32) {what0 to0 one0 two0 told0 : Nat → Int32} (input : Nat → Int32) {p nx st : Nat} {kd vc vr : Int32} (tk : tkR N n rb p nx st kd vc vr) (s0 k0 v0 : Int32) {what to one two told : Nat → Int32} (hbl : blw what what0 ∧ blw to to0 ∧ blw one one0 ∧ blw two two0 ∧ blw told told0) {c : Nat} (hc : c ≤ 5) (h15 : c ≠ 5 → k < 15) (h0 : c = 0 → cntW W 0 k < 4) (h4 : c = 4 → cntW W 4 k < 4) (e1 : shA what = upd W k (nI c)) (e2 : shA to = T) (e3 : shA one = upd A k (-9)) (e4 : shA two = upd B k (-9)) (e5 : shA told = upd D k (-9)) :
    Out N n rb k f items lies what0 to0 one0 two0 told0 input ((f_X3_step N (nI n) rb (nI p) s0 k0 v0).bind (fun z_30 => if z_30.2.2.1 = (2 : Int32) then ((f_X2_hasBecome N (nI bm) z_30.2.2.2).bind (fun z_51 => if nI c = (5 : Int32) then (f_X3_readItem_64 N (nI n) rb z_30.1 z_30.2.1 z_30.2.2.1 z_30.2.2.2 (nI bm) (nI k) (nI (cntW W 0 k)) (nI (cntW W 4 k)) cc dp (nI c) z_30.2.2.2 z_51 (1 : Int32)) else (f_X3_readItem_64 N (nI n) rb z_30.1 z_30.2.1 z_30.2.2.1 z_30.2.2.2 (nI bm) (nI k) (nI (cntW W 0 k)) (nI (cntW W 4 k)) cc dp (nI c) z_30.2.2.2 z_51 (0 : Int32)))) else (some ((-1 : Int32), z_30.1, z_30.2.1, z_30.2.2.1, z_30.2.2.2, nI bm, nI k, nI (cntW W 0 k), nI (cntW W 4 k), cc, dp))))
      (f_X10_program_168 N rb (f_X10_program_29 N rb (f + 1)) (nI n) items (nI nx) (nI st) kd vr (-9) (nI bm) lies what to one two told input (nI k) (nI (cntW W 0 k)) (nI (cntW W 4 k)) (nI c) (nI (16 + k)) (if nI c = (5 : Int32) then 1 else 0)) := by
  have hbm := hD.1
  have hg : gin (nI (16 + k)) 32 = true := gin_nI (show 16 + k < 32 by omega) (by decide)
  have hcl : (nI (16 + k)).toNatClampNeg = 16 + k := nI_clamp (by omega)
  have tk3 := tk.2.2.1
  have tk4 := tk.2.2.2.1
  have hto : ∀ x, shA (upd to (16 + k) x) = upd T k x := fun x => by rw [sh_upd, e2]
  rw [tk.1, Option.bind_some]
  unfold f_X10_program_168
  rcases let_case tk s0 k0 v0 bm (decide (c = 5)) with ⟨q, c1, hc1, eu1, eu2, bu⟩ | bad
  · obtain ⟨nx2, st2, kd2, vc2, vr2, tt⟩ := tok_both N hN hb hn tk3
    have hl := let_1 tt (nI st) hbm hc1 (decide (c = 5)) bu
    rw [isB hc] at hl
    rw [if_pos q, eu1, become_I N hbm hc1, Option.bind_some, eu2, q, hl, Option.bind_some, if_pos hg, hcl]
    have hbl' := fun x => (⟨hbl.1, blw_upd hbl.2.1 k x, hbl.2.2⟩ : blw what what0 ∧ blw (upd to (16 + k) x) to0 ∧ blw one one0 ∧ blw two two0 ∧ blw told told0)
    by_cases c5 : c = 5
    · subst c5
      have hold : bm.testBit c1 = true := bu
      rw [if_pos (show nI 5 = 5 from rfl), if_pos hold]
      unfold f_X3_readItem_64
      rw [if_pos rfl, if_neg (show ¬ nI 5 = 0 by decide), if_neg (show ¬ nI 5 = 1 by decide), if_pos (show nI 5 = 5 from rfl), if_neg (show ¬ nI 5 = 0 by decide), if_neg (show ¬ nI 5 = 1 by decide), if_pos (show nI 5 = 5 from rfl)]
      exact stopOut N hN hb hn hk hD c0 c4 f items lies input tt _ _ _ (hbl' _) hc1 hold e1 (hto _) e3 e4 e5
    · have hnew : bm.testBit c1 = false := by rw [bu]; exact decide_eq_false c5
      have n5 : ¬ nI c = 5 := fun z => c5 ((nI_eq (b := 5) (by omega) (by decide)).mp z)
      rw [if_neg n5, if_neg (show ¬ bm.testBit c1 = true by rw [hnew]; decide)]
      unfold f_X3_readItem_64
      rw [if_pos rfl]
      by_cases z0 : c = 0
      · subst z0
        rw [if_pos (show nI 0 = 0 from rfl), if_pos (show nI 0 = 0 from rfl)]
        unfold f_X3_readItem_90
        rw [if_pos (show nI 0 = 0 from rfl)]
        exact numB N hN hb hn hk hD c0 c4 f items lies input tt _ _ _ (hbl' _) (c := 0) (most := 2) (by decide) (h15 c5) rfl hc1 hnew h0 e1 (hto _) e3 e4 e5
      · rw [if_neg (show ¬ nI c = 0 from nI_ne0 (by omega) (by omega)), if_neg (show ¬ nI c = 0 from nI_ne0 (by omega) (by omega))]
        by_cases z1 : c = 1
        · subst z1
          rw [if_pos (show nI 1 = 1 from rfl), if_pos (show nI 1 = 1 from rfl)]
          unfold f_X3_readItem_90
          rw [if_neg (show ¬ nI 1 = 0 by decide)]
          exact numB N hN hb hn hk hD c0 c4 f items lies input tt _ _ _ (hbl' _) (c := 1) (most := 15) (by decide) (h15 c5) rfl hc1 hnew h0 e1 (hto _) e3 e4 e5
        · have n1 : ¬ nI c = 1 := fun z => z1 ((nI_eq (b := 1) (by omega) (by decide)).mp z)
          rw [if_neg n1, if_neg n1, if_neg n5, if_neg n5]
          have ht := twoB N hN hb hn hk hD c0 c4 f items lies input tt (nI st) 2 (nI c1) (hbl' (nI c1)) (c := c) (c1 := c1) (by omega) (by omega) (h15 c5) hc1 hnew h4 e1 (hto _) e3 e4 e5
          rw [hcl] at ht
          exact ht
  · have hl := let_0 N (nI n) rb (nI nx) (nI st) kd vr hbm (decide (c = 5)) (bad.imp id (fun ⟨x, hx, _, ex, bx⟩ => ⟨x, hx, ex, bx⟩))
    rw [isB hc] at hl
    have hclass : (if kd = (2 : Int32) then ((f_X2_hasBecome N (nI bm) vc).bind (fun z_51 => if nI c = (5 : Int32) then (f_X3_readItem_64 N (nI n) rb (nI nx) (nI st) kd vc (nI bm) (nI k) (nI (cntW W 0 k)) (nI (cntW W 4 k)) cc dp (nI c) vc z_51 (1 : Int32)) else (f_X3_readItem_64 N (nI n) rb (nI nx) (nI st) kd vc (nI bm) (nI k) (nI (cntW W 0 k)) (nI (cntW W 4 k)) cc dp (nI c) vc z_51 (0 : Int32)))) else (some ((-1 : Int32), nI nx, nI st, kd, vc, nI bm, nI k, nI (cntW W 0 k), nI (cntW W 4 k), cc, dp))) = some ((-1 : Int32), nI nx, nI st, kd, vc, nI bm, nI k, nI (cntW W 0 k), nI (cntW W 4 k), cc, dp) := by
      by_cases q : kd = 2
      · obtain ⟨u, hu, eu, _, bu⟩ := bad.resolve_left (fun z => z q)
        rw [if_pos q, eu, become_I N hbm hu, Option.bind_some]
        unfold f_X3_readItem_64
        by_cases c5 : c = 5
        · have hb5 : ¬ bm.testBit u = true := by rw [decide_eq_true c5] at bu; exact bu
          rw [if_pos (show nI c = 5 by rw [c5]; rfl), if_neg hb5, if_neg (by decide)]
        · have hb5 : bm.testBit u = true := by
            rw [decide_eq_false c5] at bu
            simpa using bu
          rw [if_neg (show ¬ nI c = 5 from fun z => c5 ((nI_eq (b := 5) (by omega) (by decide)).mp z)), if_pos hb5, if_neg (by decide)]
      · rw [if_neg q]
    refine Or.inl ⟨st, tk4, ⟨_, _, _, _, _, _, _, 0, _, _, hclass, rfl⟩, ?_⟩
    have hs : st ≤ 300 := by omega
    have hbl' : blw what what0 ∧ blw (upd to (16 + k) vr) to0 ∧ blw one one0 ∧ blw two two0 ∧ blw told told0 := ⟨hbl.1, blw_upd hbl.2.1 k vr, hbl.2.2⟩
    rw [hl, Option.bind_some, if_pos hg, hcl]
    by_cases z0 : nI c = 0
    · rw [if_pos z0]
      exact flt193 N hk items lies input hbl' hs _ _ _ _ _ _ _ _ _ _
    · rw [if_neg z0]
      by_cases z1 : nI c = 1
      · rw [if_pos z1]
        exact flt193 N hk items lies input hbl' hs _ _ _ _ _ _ _ _ _ _
      · rw [if_neg z1]
        by_cases z5 : nI c = 5
        · rw [if_pos z5]
          exact flt268 N (k := k) items lies input hbl' hs _ _ _ _ _ _ _ _ _ _
        · rw [if_neg z5]
          simp only []
          rw [let_f N (nI n) (nI bm) rb 1 (nI nx) (nI st) kd vr hs, Option.bind_some, if_pos hg]
          simp only []
          rw [let_f N (nI n) (nI bm) rb 1 (nI nx) (nI st) kd vr hs, Option.bind_some, if_pos hg]
          exact flt268 N (k := k) items lies input ⟨hbl'.1, hbl'.2.1, blw_upd hbl'.2.2.1 k vr, blw_upd hbl'.2.2.2.1 k vr, hbl'.2.2.2.2⟩ hs _ _ _ _ _ _ _ _ _ _
theorem wordB (N : Nat) (hN : NB ≤ N) {rb : Nat → Int32} (hb : ∀ j, -128 ≤ (rb j).toInt ∧ (rb j).toInt ≤ 127) {n : Nat} (hn : n ≤ 300) {k bm : Nat} (hk : k < 16) {cc dp W T A B D : Nat → Int32} (hD : DR k bm cc dp W T A B D) (c0 : cntW W 0 k ≤ 4) (c4 : cntW W 4 k ≤ 4) (f : Nat) (items lies : Int32) {what0 to0 one0 two0 told0 : Nat → Int32} (input : Nat → Int32) {p nx st : Nat} {kd vc vr : Int32} (tk : tkR N n rb p nx st kd vc vr) (s0 k0 v0 : Int32) {what to one two told : Nat → Int32} (hbl : blw what what0 ∧ blw to to0 ∧ blw one one0 ∧ blw two two0 ∧ blw told told0) (e1 : shA what = W) (e2 : shA to = T) (e3 : shA one = A) (e4 : shA two = B) (e5 : shA told = D) :
    Out N n rb k f items lies what0 to0 one0 two0 told0 input (f_X3_readItem N (nI n) rb (nI p) s0 k0 v0 (nI bm) (nI k) (nI (cntW W 0 k)) (nI (cntW W 4 k)) cc dp) (s_X10_program_29 N rb (f_X10_program_29 N rb (f + 1)) (nI n) items (nI nx) (nI st) kd vr (-9) (nI bm) lies what to one two told input (nI k) (nI (cntW W 0 k)) (nI (cntW W 4 k)) 0) := by
  have tk3 := tk.2.2.1
  have tk4 := tk.2.2.2.1
  have bad : RF n items lies what0 to0 one0 two0 told0 input st (f_X10_program_95 N rb (f_X10_program_29 N rb (f + 1)) (nI n) items (nI nx) (nI st) kd vr (-9) (nI bm) lies what to one two told input (nI k) (nI (cntW W 0 k)) (nI (cntW W 4 k)) 0 0) := by
    unfold f_X10_program_95
    rw [due_0, Option.bind_some, if_neg (nine_ne (show st ≤ 300 by omega))]
    exact ⟨nI nx, nI st, kd, vr, nI st, nI bm, what, to, one, two, told, hbl, ff29 N n f rb items (nI nx) (nI st) kd vr st (by omega) (nI bm) lies what to one two told input _ _ _ _⟩
  unfold f_X3_readItem s_X10_program_29
  rw [tk.1, Option.bind_some, if_pos rfl, if_pos rfl]
  by_cases q : kd = 1
  · have hv : ∃ v : Nat, v ≤ 5 ∧ vc = nI v ∧ vr = nI v := by
      rcases tk.2.2.2.2 with z | z | z | ⟨_, z⟩ | ⟨z, _⟩ | ⟨z, _⟩
      · rw [q] at z; exact absurd z (by decide)
      · rw [q] at z; exact absurd z (by decide)
      · rw [q] at z; exact absurd z (by decide)
      · exact z
      · rw [q] at z; exact absurd z (by decide)
      · rw [q] at z; exact absurd z (by decide)
    obtain ⟨c, hc, rfl, rfl⟩ := hv
    have fault : ∀ (z : Int32), z = 0 → Out N n rb k f items lies what0 to0 one0 two0 told0 input (if z = (0 : Int32) then (some ((-1 : Int32), nI nx, nI st, kd, nI c, nI bm, nI k, nI (cntW W 0 k), nI (cntW W 4 k), cc, dp)) else none) (f_X10_program_94 N rb (f_X10_program_29 N rb (f + 1)) (nI n) items (nI nx) (nI st) kd (nI c) (-9) (nI bm) lies what to one two told input (nI k) (nI (cntW W 0 k)) (nI (cntW W 4 k)) 0) := by
      intro z hz
      rw [if_pos hz]
      exact Or.inl ⟨st, tk4, ⟨_, _, _, _, _, _, _, 0, _, _, rfl, rfl⟩, bad⟩
    obtain ⟨nx2, st2, kd2, vc2, vr2, tt⟩ := tok_both N hN hb hn tk3
    have go : (c ≠ 5 → k < 15) → (c = 0 → cntW W 0 k < 4) → (c = 4 → cntW W 4 k < 4) → Out N n rb k f items lies what0 to0 one0 two0 told0 input ((f_X3_step N (nI n) rb (nI nx) (nI st) kd (nI c)).bind (fun z_30 => if z_30.2.2.1 = (2 : Int32) then ((f_X2_hasBecome N (nI bm) z_30.2.2.2).bind (fun z_51 => if nI c = (5 : Int32) then (f_X3_readItem_64 N (nI n) rb z_30.1 z_30.2.1 z_30.2.2.1 z_30.2.2.2 (nI bm) (nI k) (nI (cntW W 0 k)) (nI (cntW W 4 k)) cc dp (nI c) z_30.2.2.2 z_51 (1 : Int32)) else (f_X3_readItem_64 N (nI n) rb z_30.1 z_30.2.1 z_30.2.2.1 z_30.2.2.2 (nI bm) (nI k) (nI (cntW W 0 k)) (nI (cntW W 4 k)) cc dp (nI c) z_30.2.2.2 z_51 (0 : Int32)))) else (some ((-1 : Int32), z_30.1, z_30.2.1, z_30.2.2.1, z_30.2.2.2, nI bm, nI k, nI (cntW W 0 k), nI (cntW W 4 k), cc, dp)))) (f_X10_program_95 N rb (f_X10_program_29 N rb (f + 1)) (nI n) items (nI nx) (nI st) kd (nI c) (-9) (nI bm) lies what to one two told input (nI k) (nI (cntW W 0 k)) (nI (cntW W 4 k)) 0 1) := by
      intro h15 h0 h4
      have hg : gin (nI (16 + k)) 32 = true := gin_nI (show 16 + k < 32 by omega) (by decide)
      have hcl : (nI (16 + k)).toNatClampNeg = 16 + k := nI_clamp (by omega)
      have hb5 := letB N hN hb hn hk hD c0 c4 f items lies input (what0 := what0) (to0 := to0) (one0 := one0) (two0 := two0) (told0 := told0) tt (nI st) kd (nI c) ⟨blw_upd hbl.1 k (nI c), hbl.2.1, blw_upd hbl.2.2.1 k (-9), blw_upd hbl.2.2.2.1 k (-9), blw_upd hbl.2.2.2.2 k (-9)⟩ hc h15 h0 h4 (by rw [sh_upd, e1]) e2 (by rw [sh_upd, e3]) (by rw [sh_upd, e4]) (by rw [sh_upd, e5])
      unfold f_X10_program_95
      rw [due_1 tt, Option.bind_some, if_pos rfl, show (16 : Int32) + nI k = nI (16 + k) from nI_add 16 k, if_pos hg, if_pos hg, if_pos hg, if_pos hg, hcl]
      by_cases c5 : nI c = 5
      · rw [if_pos c5] at hb5 ⊢
        simp only [if_pos c5] at hb5 ⊢
        exact hb5
      · simp only [if_neg c5] at hb5 ⊢
        exact hb5
    rw [if_pos q, if_pos q]
    unfold f_X3_mayBegin
    have one1 : ¬ (1 : Int32) = 0 := by decide
    have r77 : ¬ c = 4 → f_X10_program_77 N rb (f_X10_program_29 N rb (f + 1)) (nI n) items (nI nx) (nI st) kd (nI c) (-9) (nI bm) lies what to one two told input (nI k) (nI (cntW W 0 k)) (nI (cntW W 4 k)) 0 = f_X10_program_95 N rb (f_X10_program_29 N rb (f + 1)) (nI n) items (nI nx) (nI st) kd (nI c) (-9) (nI bm) lies what to one two told input (nI k) (nI (cntW W 0 k)) (nI (cntW W 4 k)) 0 1 := by
      intro z
      unfold f_X10_program_77
      rw [if_neg (show ¬ nI c = 4 from fun y => z ((nI_eq (b := 4) (by omega) (by decide)).mp y))]
    have r65 : ¬ c = 0 → f_X10_program_65 N rb (f_X10_program_29 N rb (f + 1)) (nI n) items (nI nx) (nI st) kd (nI c) (-9) (nI bm) lies what to one two told input (nI k) (nI (cntW W 0 k)) (nI (cntW W 4 k)) 0 = f_X10_program_77 N rb (f_X10_program_29 N rb (f + 1)) (nI n) items (nI nx) (nI st) kd (nI c) (-9) (nI bm) lies what to one two told input (nI k) (nI (cntW W 0 k)) (nI (cntW W 4 k)) 0 := by
      intro z
      unfold f_X10_program_65
      rw [if_neg (show ¬ nI c = 0 from nI_ne0 (by omega) (by omega))]
    by_cases c5 : c = 5
    · rw [if_pos (show nI c = 5 by rw [c5]; rfl), if_pos (show nI c = 5 by rw [c5]; rfl), Option.bind_some, if_neg one1, r65 (by omega), r77 (by omega)]
      exact go (fun z => absurd c5 z) (fun z => by omega) (fun z => by omega)
    have n5 : ¬ nI c = 5 := fun z => c5 ((nI_eq (b := 5) (by omega) (by decide)).mp z)
    rw [if_neg n5, if_neg n5]
    rcases Nat.lt_or_ge k 15 with hk15 | hk15
    · rw [if_pos (show nI k < 15 from nI_lt (b := 15) hk15 (by decide)), if_neg (show ¬ (15 : Int32) ≤ nI k from nI_ge (b := 15) hk15 (by decide))]
      by_cases z0 : c = 0
      · have ec : nI c = 0 := by rw [z0]; rfl
        rw [if_pos ec]
        unfold f_X10_program_65
        rw [if_pos ec]
        rcases Nat.lt_or_ge (cntW W 0 k) 4 with g | g
        · rw [if_neg (show ¬ (4 : Int32) ≤ nI (cntW W 0 k) from nI_ge (b := 4) g (by decide)), if_neg (show ¬ (4 : Int32) ≤ nI (cntW W 0 k) from nI_ge (b := 4) g (by decide)), Option.bind_some, if_neg one1, r77 (by omega)]
          exact go (fun _ => hk15) (fun _ => g) (fun z => by omega)
        · rw [if_pos (show (4 : Int32) ≤ nI (cntW W 0 k) from nI_le (a := 4) g (by omega)), if_pos (show (4 : Int32) ≤ nI (cntW W 0 k) from nI_le (a := 4) g (by omega)), Option.bind_some, if_pos rfl]
          exact fault 0 rfl
      · rw [if_neg (show ¬ nI c = 0 from nI_ne0 (by omega) (by omega)), r65 z0]
        by_cases z4 : c = 4
        · have ec : nI c = 4 := by rw [z4]; rfl
          rw [if_pos ec]
          unfold f_X10_program_77
          rw [if_pos ec]
          rcases Nat.lt_or_ge (cntW W 4 k) 4 with g | g
          · rw [if_neg (show ¬ (4 : Int32) ≤ nI (cntW W 4 k) from nI_ge (b := 4) g (by decide)), if_neg (show ¬ (4 : Int32) ≤ nI (cntW W 4 k) from nI_ge (b := 4) g (by decide)), Option.bind_some, if_neg one1]
            exact go (fun _ => hk15) (fun z => by omega) (fun _ => g)
          · rw [if_pos (show (4 : Int32) ≤ nI (cntW W 4 k) from nI_le (a := 4) g (by omega)), if_pos (show (4 : Int32) ≤ nI (cntW W 4 k) from nI_le (a := 4) g (by omega)), Option.bind_some, if_pos rfl]
            exact fault 0 rfl
        · rw [if_neg (show ¬ nI c = 4 from fun y => z4 ((nI_eq (b := 4) (by omega) (by decide)).mp y)), Option.bind_some, if_neg one1, r77 z4]
          exact go (fun _ => hk15) (fun z => absurd z z0) (fun z => absurd z z4)
    · rw [if_neg (show ¬ nI k < 15 from nI_nlt (b := 15) hk15 (by omega)), if_pos (show (15 : Int32) ≤ nI k from nI_le (a := 15) hk15 (by omega)), Option.bind_some, if_pos rfl]
      exact fault 0 rfl
  · rw [if_neg q, if_neg q]
    exact Or.inl ⟨st, tk4, ⟨_, _, _, _, _, _, _, 0, _, _, rfl, rfl⟩, bad⟩
