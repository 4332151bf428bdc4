abbrev O_X9_at : Type := Int32
def f_X9_at (N : Nat) (v_a0 : Nat → Int32) (n_a0 : Nat) (x1 : Int32) : Option O_X9_at :=
  if x1 < 0 then (some ((0 : Int32))) else (if (Int32.ofNat n_a0) ≤ x1 then (some ((0 : Int32))) else (if gin x1 n_a0 = true then some ((v_a0 x1.toNatClampNeg)) else none))
set_option maxHeartbeats 4000000 in
set_option maxRecDepth 100000 in
theorem t_X9_at (l : Launch) (dC : Nat → ClassId) (dI : Nat → Nat → Nat) (h_a0 : Nat) (k_a0 : ClassId) (n_a0 : Nat) (v_a0 : Nat → Int32) (sz : Nat) (x1 : Int32) (N : Nat) (out : O_X9_at) (hF : f_X9_at N v_a0 n_a0 x1 = some out) : gMi l yX9_at wsX9_at ({ frames := 0, cells := 0, slots := 0, locals := 0 } : Room) [.ref h_a0, .int x1] (dC, dI) [(h_a0, .inl (k_a0, n_a0, .inl v_a0))] [(k_a0, .int)] sz [(h_a0, .inl (k_a0, n_a0, .inl v_a0))] out := by
  refine gEi (cc := cX9_at) (maxL := 2) (by decide) rfl (Nat.le_of_ble_eq_true rfl) ?_
  intro p e s m args below meth c Q A ls CF hK hN hA hret hP hD hS hl
  have hx := CF.1
  have hb := CF.2.1
  have hml := CF.2.2.1
  have hown : s.vm.findClass RX9 = some m.cls := CF.2.2.2.1
  have hts := CF.2.2.2.2
  have hl : lv_has ls 2 [(0, .ref h_a0), (1, .int x1)] := hl
  unfold f_X9_at at hF
  refine lv_aload_n hx hb dX9_at_0 rfl (lv_at hl 0 rfl) ?_
  refine lv_ifnull hx hb dX9_at_1 ?_
  refine lv_iload_n hx hb dX9_at_4 rfl (lv_at hl 1 rfl) ?_
  refine lv_if_lt (tgt := 20) hx hb dX9_at_5 (by decide) (fun c_5 => ?_) (fun c_5 => ?_)
  · have hF := gi_t c_5 hF
    refine lv_iconst (v := (0 : Int32)) hx hb dX9_at_20 (by decide) ?_
    have hF := Option.some.inj hF
    subst hF
    exact hret _ _ _ _ dX9_at_21 hP hD hS
  · have hF := gi_f c_5 hF
    refine lv_iload_n hx hb dX9_at_8 rfl (lv_at hl 1 rfl) ?_
    refine lv_aload_n hx hb dX9_at_9 rfl (lv_at hl 0 rfl) ?_
    refine va_alen (v := (Int32.ofNat n_a0)) hx hb hK hP 0 0 rfl rfl rfl dX9_at_10 ?_
    refine lv_icmp_ge (tgt := 20) hx hb dX9_at_11 (by decide) (fun c_11 => ?_) (fun c_11 => ?_)
    · have hF := gi_t c_11 hF
      refine lv_iconst (v := (0 : Int32)) hx hb dX9_at_20 (by decide) ?_
      have hF := Option.some.inj hF
      subst hF
      exact hret _ _ _ _ dX9_at_21 hP hD hS
    · have hF := gi_f c_11 hF
      refine lv_aload_n hx hb dX9_at_14 rfl (lv_at hl 0 rfl) ?_
      refine lv_iload_n hx hb dX9_at_15 rfl (lv_at hl 1 rfl) ?_
      obtain ⟨hi_16, hF⟩ := gi_in hF
      refine va_iald hx hb hK hP 0 0 rfl rfl hi_16 dX9_at_16 ?_
      refine lv_goto (tgt := 21) hx hb dX9_at_17 (by decide) ?_
      have hF := Option.some.inj hF
      subst hF
      exact hret _ _ _ _ dX9_at_21 hP hD hS
abbrev O_X9_put : Type := (Nat → Int32)
def f_X9_put (N : Nat) (n_a0 : Nat) (x1 : Int32) (x2 : Int32) (v_a0 : Nat → Int32) : Option O_X9_put :=
  if x1 < 0 then (some (v_a0)) else (if (Int32.ofNat n_a0) ≤ x1 then (some (v_a0)) else (if gin x1 n_a0 = true then some ((upd v_a0 x1.toNatClampNeg x2)) else none))
set_option maxHeartbeats 4000000 in
set_option maxRecDepth 100000 in
theorem t_X9_put (l : Launch) (dC : Nat → ClassId) (dI : Nat → Nat → Nat) (h_a0 : Nat) (k_a0 : ClassId) (n_a0 : Nat) (v_a0 : Nat → Int32) (sz : Nat) (x1 : Int32) (x2 : Int32) (N : Nat) (out : O_X9_put) (hF : f_X9_put N n_a0 x1 x2 v_a0 = some out) : gMv l yX9_put wsX9_put ({ frames := 0, cells := 0, slots := 0, locals := 0 } : Room) [.ref h_a0, .int x1, .int x2] (dC, dI) [(h_a0, .inl (k_a0, n_a0, .inl v_a0))] [(k_a0, .int)] sz [(h_a0, .inl (k_a0, n_a0, .inl out))] := by
  refine gEv (cc := cX9_put) (maxL := 3) (by decide) rfl (Nat.le_of_ble_eq_true rfl) ?_
  intro p e s m args below meth c Q A ls CF hK hN hA hret hP hD hS hl
  have hx := CF.1
  have hb := CF.2.1
  have hml := CF.2.2.1
  have hown : s.vm.findClass RX9 = some m.cls := CF.2.2.2.1
  have hts := CF.2.2.2.2
  have hl : lv_has ls 3 [(0, .ref h_a0), (1, .int x1), (2, .int x2)] := hl
  unfold f_X9_put at hF
  refine lv_aload_n hx hb dX9_put_0 rfl (lv_at hl 0 rfl) ?_
  refine lv_ifnull hx hb dX9_put_1 ?_
  refine lv_iload_n hx hb dX9_put_4 rfl (lv_at hl 1 rfl) ?_
  refine lv_if_lt (tgt := 18) hx hb dX9_put_5 (by decide) (fun c_5 => ?_) (fun c_5 => ?_)
  · have hF := gi_t c_5 hF
    have hF := Option.some.inj hF
    subst hF
    exact hret _ _ _ _ dX9_put_18 hP hD hS
  · have hF := gi_f c_5 hF
    refine lv_iload_n hx hb dX9_put_8 rfl (lv_at hl 1 rfl) ?_
    refine lv_aload_n hx hb dX9_put_9 rfl (lv_at hl 0 rfl) ?_
    refine va_alen (v := (Int32.ofNat n_a0)) hx hb hK hP 0 0 rfl rfl rfl dX9_put_10 ?_
    refine lv_icmp_ge (tgt := 18) hx hb dX9_put_11 (by decide) (fun c_11 => ?_) (fun c_11 => ?_)
    · have hF := gi_t c_11 hF
      have hF := Option.some.inj hF
      subst hF
      exact hret _ _ _ _ dX9_put_18 hP hD hS
    · have hF := gi_f c_11 hF
      refine lv_aload_n hx hb dX9_put_14 rfl (lv_at hl 0 rfl) ?_
      refine lv_iload_n hx hb dX9_put_15 rfl (lv_at hl 1 rfl) ?_
      refine lv_iload_n hx hb dX9_put_16 rfl (lv_at hl 2 rfl) ?_
      obtain ⟨hi_17, hF⟩ := gi_in hF
      refine va_iast hx hb hK hP hD hS 0 0 rfl rfl hi_17 dX9_put_17 (fun H locs hP hD hS => ?_)
      have hP : va_P (dC, dI) vwCl [(h_a0, .inl (k_a0, n_a0, .inl (upd v_a0 x1.toNatClampNeg x2)))] H := hP
      have hD : va_D A [(h_a0, .inl (k_a0, n_a0, .inl (upd v_a0 x1.toNatClampNeg x2)))] := hD
      have hF := Option.some.inj hF
      subst hF
      exact hret _ _ _ _ dX9_put_18 hP hD hS
abbrev O_X9_mod : Type := Int32
def f_X9_mod (N : Nat) (x0 : Int32) (x1 : Int32) : Option O_X9_mod :=
  if (1 : Int32) ≤ x1 then (if x1 = 0 then none else if 0 ≤ (x0 - x0 / x1 * x1) then (some ((x0 - x0 / x1 * x1))) else (some (((x0 - x0 / x1 * x1) + x1)))) else (some ((0 : Int32)))
set_option maxHeartbeats 4000000 in
set_option maxRecDepth 100000 in
theorem t_X9_mod (l : Launch) (dC : Nat → ClassId) (dI : Nat → Nat → Nat) (sz : Nat) (x0 : Int32) (x1 : Int32) (N : Nat) (out : O_X9_mod) (hF : f_X9_mod N x0 x1 = some out) : gMi l yX9_mod wsX9_mod ({ frames := 0, cells := 0, slots := 0, locals := 0 } : Room) [.int x0, .int x1] (dC, dI) [] [] sz [] out := by
  refine gEi (cc := cX9_mod) (maxL := 3) (by decide) rfl (Nat.le_of_ble_eq_true rfl) ?_
  intro p e s m args below meth c Q A ls CF hK hN hA hret hP hD hS hl
  have hx := CF.1
  have hb := CF.2.1
  have hml := CF.2.2.1
  have hown : s.vm.findClass RX9 = some m.cls := CF.2.2.2.1
  have hts := CF.2.2.2.2
  have hl : lv_has ls 3 [(0, .int x0), (1, .int x1)] := hl
  unfold f_X9_mod at hF
  refine lv_iload_n hx hb dX9_mod_0 rfl (lv_at hl 1 rfl) ?_
  refine lv_iconst (v := (1 : Int32)) hx hb dX9_mod_1 (by decide) ?_
  refine lv_icmp_ge (tgt := 7) hx hb dX9_mod_2 (by decide) (fun c_2 => ?_) (fun c_2 => ?_)
  · have hF := gi_t c_2 hF
    refine lv_iload_n hx hb dX9_mod_7 rfl (lv_at hl 0 rfl) ?_
    refine lv_iload_n hx hb dX9_mod_8 rfl (lv_at hl 1 rfl) ?_
    obtain ⟨hn_9, hF⟩ := gi_nz hF
    refine lv_irem hx hb dX9_mod_9 hn_9 ?_
    refine lv_istore_n (lv' := [(2, .int (x0 - x0 / x1 * x1)), (0, .int x0), (1, .int x1)]) hx hb dX9_mod_10 rfl hl (by decide) rfl (fun ls hl => ?_)
    refine lv_iload_n hx hb dX9_mod_11 rfl (lv_at hl 0 rfl) ?_
    refine lv_if_ge (tgt := 21) hx hb dX9_mod_12 (by decide) (fun c_12 => ?_) (fun c_12 => ?_)
    · have hF := gi_t c_12 hF
      refine lv_iload_n hx hb dX9_mod_21 rfl (lv_at hl 0 rfl) ?_
      have hF := Option.some.inj hF
      subst hF
      exact hret _ _ _ _ dX9_mod_22 hP hD hS
    · have hF := gi_f c_12 hF
      refine lv_iload_n hx hb dX9_mod_15 rfl (lv_at hl 0 rfl) ?_
      refine lv_iload_n hx hb dX9_mod_16 rfl (lv_at hl 2 rfl) ?_
      refine lv_iadd hx hb dX9_mod_17 ?_
      refine lv_goto (tgt := 22) hx hb dX9_mod_18 (by decide) ?_
      have hF := Option.some.inj hF
      subst hF
      exact hret _ _ _ _ dX9_mod_22 hP hD hS
  · have hF := gi_f c_2 hF
    refine lv_iconst (v := (0 : Int32)) hx hb dX9_mod_5 (by decide) ?_
    have hF := Option.some.inj hF
    subst hF
    exact hret _ _ _ _ dX9_mod_6 hP hD hS
abbrev O_X9_within : Type := Int32
def f_X9_within (N : Nat) (x0 : Int32) (x1 : Int32) (x2 : Int32) : Option O_X9_within :=
  if x0 < x1 then (some ((0 : Int32))) else (if x2 < x0 then (some ((0 : Int32))) else (some ((1 : Int32))))
set_option maxHeartbeats 4000000 in
set_option maxRecDepth 100000 in
theorem t_X9_within (l : Launch) (dC : Nat → ClassId) (dI : Nat → Nat → Nat) (sz : Nat) (x0 : Int32) (x1 : Int32) (x2 : Int32) (N : Nat) (out : O_X9_within) (hF : f_X9_within N x0 x1 x2 = some out) : gMi l yX9_within wsX9_within ({ frames := 0, cells := 0, slots := 0, locals := 0 } : Room) [.int x0, .int x1, .int x2] (dC, dI) [] [] sz [] out := by
  refine gEz (cc := cX9_within) (maxL := 3) (by decide) rfl (Nat.le_of_ble_eq_true rfl) ?_
  intro p e s m args below meth c Q A ls CF hK hN hA hret hP hD hS hl
  have hx := CF.1
  have hb := CF.2.1
  have hml := CF.2.2.1
  have hown : s.vm.findClass RX9 = some m.cls := CF.2.2.2.1
  have hts := CF.2.2.2.2
  have hl : lv_has ls 3 [(0, .int x0), (1, .int x1), (2, .int x2)] := hl
  unfold f_X9_within at hF
  refine lv_iload_n hx hb dX9_within_0 rfl (lv_at hl 0 rfl) ?_
  refine lv_iload_n hx hb dX9_within_1 rfl (lv_at hl 1 rfl) ?_
  refine lv_icmp_lt (tgt := 14) hx hb dX9_within_2 (by decide) (fun c_2 => ?_) (fun c_2 => ?_)
  · have hF := gi_t c_2 hF
    refine lv_iconst (v := (0 : Int32)) hx hb dX9_within_14 (by decide) ?_
    have hF := Option.some.inj hF
    subst hF
    exact hret (show (0 : Int32) &&& 1 = (0 : Int32) by decide) _ _ _ _ dX9_within_15 hP hD hS
  · have hF := gi_f c_2 hF
    refine lv_iload_n hx hb dX9_within_5 rfl (lv_at hl 0 rfl) ?_
    refine lv_iload_n hx hb dX9_within_6 rfl (lv_at hl 2 rfl) ?_
    refine lv_icmp_gt (tgt := 14) hx hb dX9_within_7 (by decide) (fun c_7 => ?_) (fun c_7 => ?_)
    · have hF := gi_t c_7 hF
      refine lv_iconst (v := (0 : Int32)) hx hb dX9_within_14 (by decide) ?_
      have hF := Option.some.inj hF
      subst hF
      exact hret (show (0 : Int32) &&& 1 = (0 : Int32) by decide) _ _ _ _ dX9_within_15 hP hD hS
    · have hF := gi_f c_7 hF
      refine lv_iconst (v := (1 : Int32)) hx hb dX9_within_10 (by decide) ?_
      refine lv_goto (tgt := 15) hx hb dX9_within_11 (by decide) ?_
      have hF := Option.some.inj hF
      subst hF
      exact hret (show (1 : Int32) &&& 1 = (1 : Int32) by decide) _ _ _ _ dX9_within_15 hP hD hS
abbrev O_J6_bitCount_0f7a4 : Type := Int32
def f_J6_bitCount_0f7a4_41 (N : Nat) (y0 : Int32) : Option O_J6_bitCount_0f7a4 :=
  some (((y0 + (gushr y0 (16 : Int32))) &&& (63 : Int32)))
def f_J6_bitCount_0f7a4_24 (N : Nat) (y0 : Int32) : Option O_J6_bitCount_0f7a4 :=
  f_J6_bitCount_0f7a4_41 N (((y0 + (gushr y0 (4 : Int32))) &&& (252645135 : Int32)) + (gushr ((y0 + (gushr y0 (4 : Int32))) &&& (252645135 : Int32)) (8 : Int32)))
def f_J6_bitCount_0f7a4 (N : Nat) (x0 : Int32) : Option O_J6_bitCount_0f7a4 :=
  f_J6_bitCount_0f7a4_24 N (((x0 - ((gushr x0 (1 : Int32)) &&& (1431655765 : Int32))) &&& (858993459 : Int32)) + ((gushr (x0 - ((gushr x0 (1 : Int32)) &&& (1431655765 : Int32))) (2 : Int32)) &&& (858993459 : Int32)))
set_option maxHeartbeats 4000000 in
set_option maxRecDepth 100000 in
theorem t_J6_bitCount_0f7a4 (l : Launch) (dC : Nat → ClassId) (dI : Nat → Nat → Nat) (sz : Nat) (x0 : Int32) (N : Nat) (out : O_J6_bitCount_0f7a4) (hF : f_J6_bitCount_0f7a4 N x0 = some out) : gMi l yJ6_bitCount_0f7a4 wsJ6_bitCount_0f7a4 ({ frames := 0, cells := 0, slots := 0, locals := 0 } : Room) [.int x0] (dC, dI) [] [] sz [] out := by
  refine gEi (cc := cJ6_bitCount_0f7a4) (maxL := 1) (by decide) rfl (Nat.le_of_ble_eq_true rfl) ?_
  intro p e s m args below meth c Q A ls CF hK hN hA hret hP hD hS hl
  have hx := CF.1
  have hb := CF.2.1
  have hml := CF.2.2.1
  have hown : s.vm.findClass RJ6 = some m.cls := CF.2.2.2.1
  have hts := CF.2.2.2.2
  have hl : lv_has ls 1 [(0, .int x0)] := hl
  have hC265 : (Cond.constant RJ6 265 (1431655765)).before args s = true := hts (.constant RJ6 265 (1431655765)) (List.mem_of_getElem? (i := 1) rfl)
  have hC266 : (Cond.constant RJ6 266 (858993459)).before args s = true := hts (.constant RJ6 266 (858993459)) (List.mem_of_getElem? (i := 2) rfl)
  have hC267 : (Cond.constant RJ6 267 (252645135)).before args s = true := hts (.constant RJ6 267 (252645135)) (List.mem_of_getElem? (i := 3) rfl)
  have k_41 : ∀ (y0 : Int32) (H : Heap) (locs : List Loc) (ls : Array Slot), f_J6_bitCount_0f7a4_41 N y0 = some out → va_P (dC, dI) vwCl [] H → va_D A [] → va_S A s.heap H locs → lv_has ls 1 [(0, .int y0)] → W p l e ({ frames := 0, cells := 0, slots := 0, locals := 0 } : Room) s m args below meth c H locs 0 0 Q (F0 m 41 ls []) := by
    intro y0 H locs ls hF hP hD hS hl
    unfold f_J6_bitCount_0f7a4_41 at hF
    refine lv_iload_n hx hb dJ6_bitCount_0f7a4_41 rfl (lv_at hl 0 rfl) ?_
    refine lv_iload_n hx hb dJ6_bitCount_0f7a4_42 rfl (lv_at hl 0 rfl) ?_
    refine lv_bipush (v := (16 : Int32)) hx hb dJ6_bitCount_0f7a4_43 (by decide) ?_
    refine lv_iushr (v := (gushr y0 (16 : Int32))) hx hb dJ6_bitCount_0f7a4_45 rfl ?_
    refine lv_iadd hx hb dJ6_bitCount_0f7a4_46 ?_
    refine lv_istore_n (lv' := [(0, .int (y0 + (gushr y0 (16 : Int32))))]) hx hb dJ6_bitCount_0f7a4_47 rfl hl (by decide) rfl (fun ls hl => ?_)
    refine lv_iload_n hx hb dJ6_bitCount_0f7a4_48 rfl (lv_at hl 0 rfl) ?_
    refine lv_bipush (v := (63 : Int32)) hx hb dJ6_bitCount_0f7a4_49 (by decide) ?_
    refine lv_iand hx hb dJ6_bitCount_0f7a4_51 ?_
    have hF := Option.some.inj hF
    subst hF
    exact hret _ _ _ _ dJ6_bitCount_0f7a4_52 hP hD hS
  have k_24 : ∀ (y0 : Int32) (H : Heap) (locs : List Loc) (ls : Array Slot), f_J6_bitCount_0f7a4_24 N y0 = some out → va_P (dC, dI) vwCl [] H → va_D A [] → va_S A s.heap H locs → lv_has ls 1 [(0, .int y0)] → W p l e ({ frames := 0, cells := 0, slots := 0, locals := 0 } : Room) s m args below meth c H locs 0 0 Q (F0 m 24 ls []) := by
    intro y0 H locs ls hF hP hD hS hl
    unfold f_J6_bitCount_0f7a4_24 at hF
    refine lv_iload_n hx hb dJ6_bitCount_0f7a4_24 rfl (lv_at hl 0 rfl) ?_
    refine lv_iload_n hx hb dJ6_bitCount_0f7a4_25 rfl (lv_at hl 0 rfl) ?_
    refine lv_iconst (v := (4 : Int32)) hx hb dJ6_bitCount_0f7a4_26 (by decide) ?_
    refine lv_iushr (v := (gushr y0 (4 : Int32))) hx hb dJ6_bitCount_0f7a4_27 rfl ?_
    refine lv_iadd hx hb dJ6_bitCount_0f7a4_28 ?_
    refine lv_ldcw (v := (252645135 : Int32)) hx hb hown hC267 dJ6_bitCount_0f7a4_29 ?_
    refine lv_iand hx hb dJ6_bitCount_0f7a4_32 ?_
    refine lv_istore_n (lv' := [(0, .int ((y0 + (gushr y0 (4 : Int32))) &&& (252645135 : Int32)))]) hx hb dJ6_bitCount_0f7a4_33 rfl hl (by decide) rfl (fun ls hl => ?_)
    refine lv_iload_n hx hb dJ6_bitCount_0f7a4_34 rfl (lv_at hl 0 rfl) ?_
    refine lv_iload_n hx hb dJ6_bitCount_0f7a4_35 rfl (lv_at hl 0 rfl) ?_
    refine lv_bipush (v := (8 : Int32)) hx hb dJ6_bitCount_0f7a4_36 (by decide) ?_
    refine lv_iushr (v := (gushr ((y0 + (gushr y0 (4 : Int32))) &&& (252645135 : Int32)) (8 : Int32))) hx hb dJ6_bitCount_0f7a4_38 rfl ?_
    refine lv_iadd hx hb dJ6_bitCount_0f7a4_39 ?_
    refine lv_istore_n (lv' := [(0, .int (((y0 + (gushr y0 (4 : Int32))) &&& (252645135 : Int32)) + (gushr ((y0 + (gushr y0 (4 : Int32))) &&& (252645135 : Int32)) (8 : Int32))))]) hx hb dJ6_bitCount_0f7a4_40 rfl hl (by decide) rfl (fun ls hl => ?_)
    exact k_41 (((y0 + (gushr y0 (4 : Int32))) &&& (252645135 : Int32)) + (gushr ((y0 + (gushr y0 (4 : Int32))) &&& (252645135 : Int32)) (8 : Int32))) _ _ _ hF hP hD hS hl
  unfold f_J6_bitCount_0f7a4 at hF
  refine lv_iload_n hx hb dJ6_bitCount_0f7a4_0 rfl (lv_at hl 0 rfl) ?_
  refine lv_iload_n hx hb dJ6_bitCount_0f7a4_1 rfl (lv_at hl 0 rfl) ?_
  refine lv_iconst (v := (1 : Int32)) hx hb dJ6_bitCount_0f7a4_2 (by decide) ?_
  refine lv_iushr (v := (gushr x0 (1 : Int32))) hx hb dJ6_bitCount_0f7a4_3 rfl ?_
  refine lv_ldcw (v := (1431655765 : Int32)) hx hb hown hC265 dJ6_bitCount_0f7a4_4 ?_
  refine lv_iand hx hb dJ6_bitCount_0f7a4_7 ?_
  refine lv_isub hx hb dJ6_bitCount_0f7a4_8 ?_
  refine lv_istore_n (lv' := [(0, .int (x0 - ((gushr x0 (1 : Int32)) &&& (1431655765 : Int32))))]) hx hb dJ6_bitCount_0f7a4_9 rfl hl (by decide) rfl (fun ls hl => ?_)
  refine lv_iload_n hx hb dJ6_bitCount_0f7a4_10 rfl (lv_at hl 0 rfl) ?_
  refine lv_ldcw (v := (858993459 : Int32)) hx hb hown hC266 dJ6_bitCount_0f7a4_11 ?_
  refine lv_iand hx hb dJ6_bitCount_0f7a4_14 ?_
  refine lv_iload_n hx hb dJ6_bitCount_0f7a4_15 rfl (lv_at hl 0 rfl) ?_
  refine lv_iconst (v := (2 : Int32)) hx hb dJ6_bitCount_0f7a4_16 (by decide) ?_
  refine lv_iushr (v := (gushr (x0 - ((gushr x0 (1 : Int32)) &&& (1431655765 : Int32))) (2 : Int32))) hx hb dJ6_bitCount_0f7a4_17 rfl ?_
  refine lv_ldcw (v := (858993459 : Int32)) hx hb hown hC266 dJ6_bitCount_0f7a4_18 ?_
  refine lv_iand hx hb dJ6_bitCount_0f7a4_21 ?_
  refine lv_iadd hx hb dJ6_bitCount_0f7a4_22 ?_
  refine lv_istore_n (lv' := [(0, .int (((x0 - ((gushr x0 (1 : Int32)) &&& (1431655765 : Int32))) &&& (858993459 : Int32)) + ((gushr (x0 - ((gushr x0 (1 : Int32)) &&& (1431655765 : Int32))) (2 : Int32)) &&& (858993459 : Int32))))]) hx hb dJ6_bitCount_0f7a4_23 rfl hl (by decide) rfl (fun ls hl => ?_)
  exact k_24 (((x0 - ((gushr x0 (1 : Int32)) &&& (1431655765 : Int32))) &&& (858993459 : Int32)) + ((gushr (x0 - ((gushr x0 (1 : Int32)) &&& (1431655765 : Int32))) (2 : Int32)) &&& (858993459 : Int32))) _ _ _ hF hP hD hS hl
abbrev O_J7_fill_53178 : Type := (Nat → Int32)
def s_J7_fill_53178_5 (N : Nat) (n_a0 : Nat) (x1 : Int32) (r_5 : (Nat → Int32) → Int32 → Int32 → Option O_J7_fill_53178) (v_a0 : Nat → Int32) (y2 : Int32) (y3 : Int32) : Option O_J7_fill_53178 :=
  if y3 ≤ y2 then (some (v_a0)) else (if gin y2 n_a0 = true then r_5 (upd v_a0 y2.toNatClampNeg x1) (y2 + 1) y3 else none)
def f_J7_fill_53178_5 (N : Nat) (n_a0 : Nat) (x1 : Int32) (n : Nat) : (Nat → Int32) → Int32 → Int32 → Option O_J7_fill_53178 := lpg (fun _ _ _ => none) (s_J7_fill_53178_5 N n_a0 x1) n
def f_J7_fill_53178 (N : Nat) (n_a0 : Nat) (x1 : Int32) (v_a0 : Nat → Int32) : Option O_J7_fill_53178 :=
  f_J7_fill_53178_5 N n_a0 x1 N v_a0 (0 : Int32) (Int32.ofNat n_a0)
set_option maxHeartbeats 4000000 in
set_option maxRecDepth 100000 in
theorem t_J7_fill_53178 (l : Launch) (dC : Nat → ClassId) (dI : Nat → Nat → Nat) (h_a0 : Nat) (k_a0 : ClassId) (n_a0 : Nat) (v_a0 : Nat → Int32) (sz : Nat) (x1 : Int32) (N : Nat) (out : O_J7_fill_53178) (hF : f_J7_fill_53178 N n_a0 x1 v_a0 = some out) : gMv l yJ7_fill_53178 wsJ7_fill_53178 ({ frames := 0, cells := 0, slots := 0, locals := 0 } : Room) [.ref h_a0, .int x1] (dC, dI) [(h_a0, .inl (k_a0, n_a0, .inl v_a0))] [(k_a0, .int)] sz [(h_a0, .inl (k_a0, n_a0, .inl out))] := by
  refine gEv (cc := cJ7_fill_53178) (maxL := 4) (by decide) rfl (Nat.le_of_ble_eq_true rfl) ?_
  intro p e s m args below meth c Q A ls CF hK hN hA hret hP hD hS hl
  have hx := CF.1
  have hb := CF.2.1
  have hml := CF.2.2.1
  have hown : s.vm.findClass RJ7 = some m.cls := CF.2.2.2.1
  have hts := CF.2.2.2.2
  have hl : lv_has ls 4 [(0, .ref h_a0), (1, .int x1)] := hl
  have k_5 : ∀ (n : Nat) (v_a0 : Nat → Int32) (y2 : Int32) (y3 : Int32) (H : Heap) (locs : List Loc) (ls : Array Slot), f_J7_fill_53178_5 N n_a0 x1 n v_a0 y2 y3 = some out → va_P (dC, dI) vwCl [(h_a0, .inl (k_a0, n_a0, .inl v_a0))] H → va_D A [(h_a0, .inl (k_a0, n_a0, .inl v_a0))] → va_S A s.heap H locs → lv_has ls 4 [(0, .ref h_a0), (1, .int x1), (2, .int y2), (3, .int y3)] → W p l e ({ frames := 0, cells := 0, slots := 0, locals := 0 } : Room) s m args below meth c H locs 0 0 Q (F0 m 5 ls []) := by
    intro n
    induction n with
    | zero =>
      intro v_a0 y2 y3 H locs ls hF
      have hF : (none : Option O_J7_fill_53178) = some out := hF
      cases hF
    | succ n ih =>
      intro v_a0 y2 y3 H locs ls hF hP hD hS hl
      have hF : s_J7_fill_53178_5 N n_a0 x1 (f_J7_fill_53178_5 N n_a0 x1 n) v_a0 y2 y3 = some out := hF
      generalize f_J7_fill_53178_5 N n_a0 x1 n = r_5 at hF ih
      have g_5 : ∀ (v_a0 : Nat → Int32) (y2 : Int32) (y3 : Int32) (H : Heap) (locs : List Loc) (ls : Array Slot), r_5 v_a0 y2 y3 = some out → va_P (dC, dI) vwCl [(h_a0, .inl (k_a0, n_a0, .inl v_a0))] H → va_D A [(h_a0, .inl (k_a0, n_a0, .inl v_a0))] → va_S A s.heap H locs → lv_has ls 4 [(0, .ref h_a0), (1, .int x1), (2, .int y2), (3, .int y3)] → W p l e ({ frames := 0, cells := 0, slots := 0, locals := 0 } : Room) s m args below meth c H locs 0 0 Q (F0 m 5 ls []) := ih
      clear ih
      unfold s_J7_fill_53178_5 at hF
      refine lv_iload_n hx hb dJ7_fill_53178_5 rfl (lv_at hl 2 rfl) ?_
      refine lv_iload_n hx hb dJ7_fill_53178_6 rfl (lv_at hl 3 rfl) ?_
      refine lv_icmp_ge (tgt := 20) hx hb dJ7_fill_53178_7 (by decide) (fun c_7 => ?_) (fun c_7 => ?_)
      · have hF := gi_t c_7 hF
        have hF := Option.some.inj hF
        subst hF
        exact hret _ _ _ _ dJ7_fill_53178_20 hP hD hS
      · have hF := gi_f c_7 hF
        refine lv_aload_n hx hb dJ7_fill_53178_10 rfl (lv_at hl 0 rfl) ?_
        refine lv_iload_n hx hb dJ7_fill_53178_11 rfl (lv_at hl 2 rfl) ?_
        refine lv_iload_n hx hb dJ7_fill_53178_12 rfl (lv_at hl 1 rfl) ?_
        obtain ⟨hi_13, hF⟩ := gi_in hF
        refine va_iast hx hb hK hP hD hS 0 0 rfl rfl hi_13 dJ7_fill_53178_13 (fun H locs hP hD hS => ?_)
        have hP : va_P (dC, dI) vwCl [(h_a0, .inl (k_a0, n_a0, .inl (upd v_a0 y2.toNatClampNeg x1)))] H := hP
        have hD : va_D A [(h_a0, .inl (k_a0, n_a0, .inl (upd v_a0 y2.toNatClampNeg x1)))] := hD
        refine lv_iinc (v := (y2 + 1)) (lv' := [(2, .int (y2 + 1)), (0, .ref h_a0), (1, .int x1), (3, .int y3)]) hx hb dJ7_fill_53178_14 hl (k := 2) rfl rfl (by decide) rfl (fun ls hl => ?_)
        refine lv_goto (tgt := 5) hx hb dJ7_fill_53178_17 (by decide) ?_
        exact g_5 (upd v_a0 y2.toNatClampNeg x1) (y2 + 1) y3 _ _ _ hF hP hD hS (lv_sub hl [1, 2, 0, 3] rfl)
  unfold f_J7_fill_53178 at hF
  refine lv_iconst (v := (0 : Int32)) hx hb dJ7_fill_53178_0 (by decide) ?_
  refine lv_istore_n (lv' := [(2, .int (0 : Int32)), (0, .ref h_a0), (1, .int x1)]) hx hb dJ7_fill_53178_1 rfl hl (by decide) rfl (fun ls hl => ?_)
  refine lv_aload_n hx hb dJ7_fill_53178_2 rfl (lv_at hl 1 rfl) ?_
  refine va_alen (v := (Int32.ofNat n_a0)) hx hb hK hP 0 0 rfl rfl rfl dJ7_fill_53178_3 ?_
  refine lv_istore_n (lv' := [(3, .int (Int32.ofNat n_a0)), (2, .int (0 : Int32)), (0, .ref h_a0), (1, .int x1)]) hx hb dJ7_fill_53178_4 rfl hl (by decide) rfl (fun ls hl => ?_)
  exact k_5 N v_a0 (0 : Int32) (Int32.ofNat n_a0) _ _ _ hF hP hD hS (lv_sub hl [2, 3, 1, 0] rfl)
abbrev O_J7_fill_d0a16 : Type := (Nat → Int64)
def s_J7_fill_d0a16_6 (N : Nat) (n_a0 : Nat) (x1 : Int64) (r_6 : (Nat → Int64) → Int32 → Int32 → Option O_J7_fill_d0a16) (v_a0 : Nat → Int64) (y3 : Int32) (y4 : Int32) : Option O_J7_fill_d0a16 :=
  if y4 ≤ y3 then (some (v_a0)) else (if gin y3 n_a0 = true then r_6 (vp_updL v_a0 y3.toNatClampNeg x1) (y3 + 1) y4 else none)
def f_J7_fill_d0a16_6 (N : Nat) (n_a0 : Nat) (x1 : Int64) (n : Nat) : (Nat → Int64) → Int32 → Int32 → Option O_J7_fill_d0a16 := lpg (fun _ _ _ => none) (s_J7_fill_d0a16_6 N n_a0 x1) n
def f_J7_fill_d0a16 (N : Nat) (n_a0 : Nat) (x1 : Int64) (v_a0 : Nat → Int64) : Option O_J7_fill_d0a16 :=
  f_J7_fill_d0a16_6 N n_a0 x1 N v_a0 (0 : Int32) (Int32.ofNat n_a0)
set_option maxHeartbeats 4000000 in
set_option maxRecDepth 100000 in
theorem t_J7_fill_d0a16 (l : Launch) (dC : Nat → ClassId) (dI : Nat → Nat → Nat) (h_a0 : Nat) (k_a0 : ClassId) (n_a0 : Nat) (v_a0 : Nat → Int64) (sz : Nat) (x1 : Int64) (N : Nat) (out : O_J7_fill_d0a16) (hF : f_J7_fill_d0a16 N n_a0 x1 v_a0 = some out) : gMv l yJ7_fill_d0a16 wsJ7_fill_d0a16 ({ frames := 0, cells := 0, slots := 0, locals := 0 } : Room) [.ref h_a0, .long x1] (dC, dI) [(h_a0, .inl (k_a0, n_a0, .inr (.inl v_a0)))] [(k_a0, .long)] sz [(h_a0, .inl (k_a0, n_a0, .inr (.inl out)))] := by
  refine gEv (cc := cJ7_fill_d0a16) (maxL := 5) (by decide) rfl (Nat.le_of_ble_eq_true rfl) ?_
  intro p e s m args below meth c Q A ls CF hK hN hA hret hP hD hS hl
  have hx := CF.1
  have hb := CF.2.1
  have hml := CF.2.2.1
  have hown : s.vm.findClass RJ7 = some m.cls := CF.2.2.2.1
  have hts := CF.2.2.2.2
  have hl : lv_has ls 5 [(0, .ref h_a0), (1, .long x1)] := hl
  have k_6 : ∀ (n : Nat) (v_a0 : Nat → Int64) (y3 : Int32) (y4 : Int32) (H : Heap) (locs : List Loc) (ls : Array Slot), f_J7_fill_d0a16_6 N n_a0 x1 n v_a0 y3 y4 = some out → va_P (dC, dI) vwCl [(h_a0, .inl (k_a0, n_a0, .inr (.inl v_a0)))] H → va_D A [(h_a0, .inl (k_a0, n_a0, .inr (.inl v_a0)))] → va_S A s.heap H locs → lv_has ls 5 [(0, .ref h_a0), (1, .long x1), (3, .int y3), (4, .int y4)] → W p l e ({ frames := 0, cells := 0, slots := 0, locals := 0 } : Room) s m args below meth c H locs 0 0 Q (F0 m 6 ls []) := by
    intro n
    induction n with
    | zero =>
      intro v_a0 y3 y4 H locs ls hF
      have hF : (none : Option O_J7_fill_d0a16) = some out := hF
      cases hF
    | succ n ih =>
      intro v_a0 y3 y4 H locs ls hF hP hD hS hl
      have hF : s_J7_fill_d0a16_6 N n_a0 x1 (f_J7_fill_d0a16_6 N n_a0 x1 n) v_a0 y3 y4 = some out := hF
      generalize f_J7_fill_d0a16_6 N n_a0 x1 n = r_6 at hF ih
      have g_6 : ∀ (v_a0 : Nat → Int64) (y3 : Int32) (y4 : Int32) (H : Heap) (locs : List Loc) (ls : Array Slot), r_6 v_a0 y3 y4 = some out → va_P (dC, dI) vwCl [(h_a0, .inl (k_a0, n_a0, .inr (.inl v_a0)))] H → va_D A [(h_a0, .inl (k_a0, n_a0, .inr (.inl v_a0)))] → va_S A s.heap H locs → lv_has ls 5 [(0, .ref h_a0), (1, .long x1), (3, .int y3), (4, .int y4)] → W p l e ({ frames := 0, cells := 0, slots := 0, locals := 0 } : Room) s m args below meth c H locs 0 0 Q (F0 m 6 ls []) := ih
      clear ih
      unfold s_J7_fill_d0a16_6 at hF
      refine lv_iload_n hx hb dJ7_fill_d0a16_6 rfl (lv_at hl 2 rfl) ?_
      refine lv_iload hx hb dJ7_fill_d0a16_7 (lv_at hl 3 rfl) ?_
      refine lv_icmp_ge (tgt := 22) hx hb dJ7_fill_d0a16_9 (by decide) (fun c_9 => ?_) (fun c_9 => ?_)
      · have hF := gi_t c_9 hF
        have hF := Option.some.inj hF
        subst hF
        exact hret _ _ _ _ dJ7_fill_d0a16_22 hP hD hS
      · have hF := gi_f c_9 hF
        refine lv_aload_n hx hb dJ7_fill_d0a16_12 rfl (lv_at hl 0 rfl) ?_
        refine lv_iload_n hx hb dJ7_fill_d0a16_13 rfl (lv_at hl 2 rfl) ?_
        refine lv_lload_n hx hb dJ7_fill_d0a16_14 rfl (lv_at hl 1 rfl) ?_
        obtain ⟨hi_15, hF⟩ := gi_in hF
        refine va_last hx hb hK hP hD hS 0 0 rfl rfl hi_15 dJ7_fill_d0a16_15 (fun H locs hP hD hS => ?_)
        have hP : va_P (dC, dI) vwCl [(h_a0, .inl (k_a0, n_a0, .inr (.inl (vp_updL v_a0 y3.toNatClampNeg x1))))] H := hP
        have hD : va_D A [(h_a0, .inl (k_a0, n_a0, .inr (.inl (vp_updL v_a0 y3.toNatClampNeg x1))))] := hD
        refine lv_iinc (v := (y3 + 1)) (lv' := [(3, .int (y3 + 1)), (0, .ref h_a0), (1, .long x1), (4, .int y4)]) hx hb dJ7_fill_d0a16_16 hl (k := 2) rfl rfl (by decide) rfl (fun ls hl => ?_)
        refine lv_goto (tgt := 6) hx hb dJ7_fill_d0a16_19 (by decide) ?_
        exact g_6 (vp_updL v_a0 y3.toNatClampNeg x1) (y3 + 1) y4 _ _ _ hF hP hD hS (lv_sub hl [1, 2, 0, 3] rfl)
  unfold f_J7_fill_d0a16 at hF
  refine lv_iconst (v := (0 : Int32)) hx hb dJ7_fill_d0a16_0 (by decide) ?_
  refine lv_istore_n (lv' := [(3, .int (0 : Int32)), (0, .ref h_a0), (1, .long x1)]) hx hb dJ7_fill_d0a16_1 rfl hl (by decide) rfl (fun ls hl => ?_)
  refine lv_aload_n hx hb dJ7_fill_d0a16_2 rfl (lv_at hl 1 rfl) ?_
  refine va_alen (v := (Int32.ofNat n_a0)) hx hb hK hP 0 0 rfl rfl rfl dJ7_fill_d0a16_3 ?_
  refine lv_istore (lv' := [(4, .int (Int32.ofNat n_a0)), (3, .int (0 : Int32)), (0, .ref h_a0), (1, .long x1)]) hx hb dJ7_fill_d0a16_4 hl (by decide) rfl (fun ls hl => ?_)
  exact k_6 N v_a0 (0 : Int32) (Int32.ofNat n_a0) _ _ _ hF hP hD hS (lv_sub hl [2, 3, 1, 0] rfl)
abbrev O_X9_swap : Type := Int32 × (Nat → Int32)
def f_X9_swap (N : Nat) (n_a0 : Nat) (x1 : Int32) (x2 : Int32) (v_a0 : Nat → Int32) : Option O_X9_swap :=
  (f_X9_at N v_a0 n_a0 x1).bind (fun z_2 => (f_X9_put N n_a0 x1 x2 v_a0).bind (fun z_9 => some (z_2, z_9)))
set_option maxHeartbeats 4000000 in
set_option maxRecDepth 100000 in
theorem t_X9_swap (l : Launch) (dC : Nat → ClassId) (dI : Nat → Nat → Nat) (h_a0 : Nat) (k_a0 : ClassId) (n_a0 : Nat) (v_a0 : Nat → Int32) (sz : Nat) (x1 : Int32) (x2 : Int32) (N : Nat) (out : O_X9_swap) (hF : f_X9_swap N n_a0 x1 x2 v_a0 = some out) : gMi l yX9_swap wsX9_swap ({ frames := 1, cells := 0, slots := 0, locals := 22 } : Room) [.ref h_a0, .int x1, .int x2] (dC, dI) [(h_a0, .inl (k_a0, n_a0, .inl v_a0))] [(k_a0, .int)] sz [(h_a0, .inl (k_a0, n_a0, .inl out.2))] out.1 := by
  refine gEi (cc := cX9_swap) (maxL := 4) (by decide) rfl (Nat.le_of_ble_eq_true rfl) ?_
  intro p e s m args below meth c Q A ls CF hK hN hA hret hP hD hS hl
  have hx := CF.1
  have hb := CF.2.1
  have hml := CF.2.2.1
  have hown : s.vm.findClass RX9 = some m.cls := CF.2.2.2.1
  have hts := CF.2.2.2.2
  have hl : lv_has ls 4 [(0, .ref h_a0), (1, .int x1), (2, .int x2)] := hl
  have cw145 : CallB ({ frames := 1, cells := 0, slots := 0, locals := 22 } : Room) s args RX9 145 yX9_at cX9_at 2 (some .int) wsX9_at ({ frames := 0, cells := 0, slots := 0, locals := 0 } : Room) 0 0 2 ∧ (Cond.static yX9_at).before args s = true := va_cwS 2 hts gX9_swap_X9_at rfl rfl rfl (by decide +kernel) ⟨Nat.le_of_ble_eq_true rfl, Nat.le_of_ble_eq_true rfl⟩
  have cw308 : CallB ({ frames := 1, cells := 0, slots := 0, locals := 22 } : Room) s args RX9 308 yX9_put cX9_put 3 none wsX9_put ({ frames := 0, cells := 0, slots := 0, locals := 0 } : Room) 0 0 3 ∧ (Cond.static yX9_put).before args s = true := va_cwS 3 hts gX9_swap_X9_put rfl rfl rfl (by decide +kernel) ⟨Nat.le_of_ble_eq_true rfl, Nat.le_of_ble_eq_true rfl⟩
  unfold f_X9_swap at hF
  refine lv_aload_n hx hb dX9_swap_0 rfl (lv_at hl 0 rfl) ?_
  refine lv_iload_n hx hb dX9_swap_1 rfl (lv_at hl 1 rfl) ?_
  obtain ⟨z_2, hz_2, hF⟩ := gi_bind hF
  refine gRi (wc := [(h_a0, .inl (k_a0, n_a0, .inl v_a0))]) (wr := []) (w1 := [(h_a0, .inl (k_a0, n_a0, .inl v_a0))]) hP hD hS hA [0] [] rfl rfl (by decide) (by decide) (va_runS (As := [.ref h_a0, .int x1]) (rest := []) CF (t_X9_at l dC dI h_a0 k_a0 n_a0 v_a0 s.heap.size x1 N z_2 hz_2) cw145 (gPS hP hD hK hN [0] [0] (by decide) rfl rfl) rfl rfl hl.1 rfl (lv_room (Nat.le_of_ble_eq_true rfl)) dX9_swap_2 ⟨Nat.zero_le _, Nat.zero_le _⟩) (fun H locs hP hD hS => ?_)
  have hP : va_P (dC, dI) vwCl [(h_a0, .inl (k_a0, n_a0, .inl v_a0))] H := hP
  have hD : va_D A [(h_a0, .inl (k_a0, n_a0, .inl v_a0))] := hD
  refine lv_istore_n (lv' := [(3, .int z_2), (0, .ref h_a0), (1, .int x1), (2, .int x2)]) hx hb dX9_swap_5 rfl hl (by decide) rfl (fun ls hl => ?_)
  refine lv_aload_n hx hb dX9_swap_6 rfl (lv_at hl 1 rfl) ?_
  refine lv_iload_n hx hb dX9_swap_7 rfl (lv_at hl 2 rfl) ?_
  refine lv_iload_n hx hb dX9_swap_8 rfl (lv_at hl 3 rfl) ?_
  obtain ⟨z_9, hz_9, hF⟩ := gi_bind hF
  refine gRv (wc := [(h_a0, .inl (k_a0, n_a0, .inl v_a0))]) (wr := []) (w1 := [(h_a0, .inl (k_a0, n_a0, .inl z_9))]) hP hD hS hA [0] [] rfl rfl (by decide) (by decide) (va_runS (As := [.ref h_a0, .int x1, .int x2]) (rest := []) CF (t_X9_put l dC dI h_a0 k_a0 n_a0 v_a0 H.size x1 x2 N z_9 hz_9) cw308 (gPS hP hD hK hN [0] [0] (by decide) rfl rfl) rfl rfl hl.1 rfl (lv_room (Nat.le_of_ble_eq_true rfl)) dX9_swap_9 ⟨Nat.zero_le _, Nat.zero_le _⟩) (fun H locs hP hD hS => ?_)
  have hP : va_P (dC, dI) vwCl [(h_a0, .inl (k_a0, n_a0, .inl z_9))] H := hP
  have hD : va_D A [(h_a0, .inl (k_a0, n_a0, .inl z_9))] := hD
  refine lv_iload_n hx hb dX9_swap_12 rfl (lv_at hl 0 rfl) ?_
  have hF := Option.some.inj hF
  subst hF
  exact hret _ _ _ _ dX9_swap_13 hP hD hS
abbrev O_X9_wipe : Type := (Nat → Int32)
def f_X9_wipe (N : Nat) (n_a0 : Nat) (v_a0 : Nat → Int32) : Option O_X9_wipe :=
  (f_J7_fill_53178 N n_a0 (0 : Int32) v_a0).bind (fun z_6 => some (z_6))
set_option maxHeartbeats 4000000 in
set_option maxRecDepth 100000 in
theorem t_X9_wipe (l : Launch) (dC : Nat → ClassId) (dI : Nat → Nat → Nat) (h_a0 : Nat) (k_a0 : ClassId) (n_a0 : Nat) (v_a0 : Nat → Int32) (sz : Nat) (N : Nat) (out : O_X9_wipe) (hF : f_X9_wipe N n_a0 v_a0 = some out) : gMv l yX9_wipe wsX9_wipe ({ frames := 1, cells := 0, slots := 0, locals := 23 } : Room) [.ref h_a0] (dC, dI) [(h_a0, .inl (k_a0, n_a0, .inl v_a0))] [(k_a0, .int)] sz [(h_a0, .inl (k_a0, n_a0, .inl out))] := by
  refine gEv (cc := cX9_wipe) (maxL := 1) (by decide) rfl (Nat.le_of_ble_eq_true rfl) ?_
  intro p e s m args below meth c Q A ls CF hK hN hA hret hP hD hS hl
  have hx := CF.1
  have hb := CF.2.1
  have hml := CF.2.2.1
  have hown : s.vm.findClass RX9 = some m.cls := CF.2.2.2.1
  have hts := CF.2.2.2.2
  have hl : lv_has ls 1 [(0, .ref h_a0)] := hl
  have cw312 : CallB ({ frames := 1, cells := 0, slots := 0, locals := 23 } : Room) s args RX9 312 yJ7_fill_53178 cJ7_fill_53178 4 none wsJ7_fill_53178 ({ frames := 0, cells := 0, slots := 0, locals := 0 } : Room) 0 0 2 ∧ (Cond.static yJ7_fill_53178).before args s = true := va_cwS 2 hts gX9_wipe_J7_fill_53178 rfl rfl rfl (by decide +kernel) ⟨Nat.le_of_ble_eq_true rfl, Nat.le_of_ble_eq_true rfl⟩
  unfold f_X9_wipe at hF
  refine lv_aload_n hx hb dX9_wipe_0 rfl (lv_at hl 0 rfl) ?_
  refine lv_ifnull hx hb dX9_wipe_1 ?_
  refine lv_aload_n hx hb dX9_wipe_4 rfl (lv_at hl 0 rfl) ?_
  refine lv_iconst (v := (0 : Int32)) hx hb dX9_wipe_5 (by decide) ?_
  obtain ⟨z_6, hz_6, hF⟩ := gi_bind hF
  refine gRv (wc := [(h_a0, .inl (k_a0, n_a0, .inl v_a0))]) (wr := []) (w1 := [(h_a0, .inl (k_a0, n_a0, .inl z_6))]) hP hD hS hA [0] [] rfl rfl (by decide) (by decide) (va_runS (As := [.ref h_a0, .int (0 : Int32)]) (rest := []) CF (t_J7_fill_53178 l dC dI h_a0 k_a0 n_a0 v_a0 s.heap.size (0 : Int32) N z_6 hz_6) cw312 (gPS hP hD hK hN [0] [0] (by decide) rfl rfl) rfl rfl hl.1 rfl (lv_room (Nat.le_of_ble_eq_true rfl)) dX9_wipe_6 ⟨Nat.zero_le _, Nat.zero_le _⟩) (fun H locs hP hD hS => ?_)
  have hP : va_P (dC, dI) vwCl [(h_a0, .inl (k_a0, n_a0, .inl z_6))] H := hP
  have hD : va_D A [(h_a0, .inl (k_a0, n_a0, .inl z_6))] := hD
  have hF := Option.some.inj hF
  subst hF
  exact hret _ _ _ _ dX9_wipe_9 hP hD hS
abbrev O_X9_isHand : Type := Int32
def f_X9_isHand (N : Nat) (x0 : Int32) : Option O_X9_isHand :=
  (f_X9_within N x0 (0 : Int32) (2 : Int32)).bind (fun z_3 => if z_3 &&& 1 = z_3 then some (z_3) else none)
set_option maxHeartbeats 4000000 in
set_option maxRecDepth 100000 in
theorem t_X9_isHand (l : Launch) (dC : Nat → ClassId) (dI : Nat → Nat → Nat) (sz : Nat) (x0 : Int32) (N : Nat) (out : O_X9_isHand) (hF : f_X9_isHand N x0 = some out) : gMi l yX9_isHand wsX9_isHand ({ frames := 1, cells := 0, slots := 0, locals := 22 } : Room) [.int x0] (dC, dI) [] [] sz [] out := by
  refine gEz (cc := cX9_isHand) (maxL := 1) (by decide) rfl (Nat.le_of_ble_eq_true rfl) ?_
  intro p e s m args below meth c Q A ls CF hK hN hA hret hP hD hS hl
  have hx := CF.1
  have hb := CF.2.1
  have hml := CF.2.2.1
  have hown : s.vm.findClass RX9 = some m.cls := CF.2.2.2.1
  have hts := CF.2.2.2.2
  have hl : lv_has ls 1 [(0, .int x0)] := hl
  have cw97 : CallB ({ frames := 1, cells := 0, slots := 0, locals := 22 } : Room) s args RX9 97 yX9_within cX9_within 3 (some .boolean) wsX9_within ({ frames := 0, cells := 0, slots := 0, locals := 0 } : Room) 0 0 3 ∧ (Cond.static yX9_within).before args s = true := va_cwS 3 hts gX9_isHand_X9_within rfl rfl rfl (by decide +kernel) ⟨Nat.le_of_ble_eq_true rfl, Nat.le_of_ble_eq_true rfl⟩
  unfold f_X9_isHand at hF
  refine lv_iload_n hx hb dX9_isHand_0 rfl (lv_at hl 0 rfl) ?_
  refine lv_iconst (v := (0 : Int32)) hx hb dX9_isHand_1 (by decide) ?_
  refine lv_iconst (v := (2 : Int32)) hx hb dX9_isHand_2 (by decide) ?_
  obtain ⟨z_3, hz_3, hF⟩ := gi_bind hF
  refine gRi (wc := []) (wr := []) (w1 := []) hP hD hS hA [] [] rfl rfl (by decide) (by decide) (va_runS (As := [.int x0, .int (0 : Int32), .int (2 : Int32)]) (rest := []) CF (t_X9_within l dC dI s.heap.size x0 (0 : Int32) (2 : Int32) N z_3 hz_3) cw97 (gPS hP hD hK hN [] [] (by decide) rfl rfl) rfl rfl hl.1 rfl (lv_room (Nat.le_of_ble_eq_true rfl)) dX9_isHand_3 ⟨Nat.zero_le _, Nat.zero_le _⟩) (fun H locs hP hD hS => ?_)
  obtain ⟨hz, hF⟩ := gi_bool hF
  have hF := Option.some.inj hF
  subst hF
  exact hret hz _ _ _ _ dX9_isHand_6 hP hD hS
abbrev O_X9_waysOf : Type := Int32
def s_X9_waysOf_4 (N : Nat) (x0 : Int32) (x1 : Int32) (r_4 : Int32 → Int32 → Option O_X9_waysOf) (y2 : Int32) (y3 : Int32) : Option O_X9_waysOf :=
  if x1 ≤ y3 then (some (y2)) else (if (4096 : Int32) < y2 then (some (y2)) else (r_4 (y2 * x0) (y3 + 1)))
def f_X9_waysOf_4 (N : Nat) (x0 : Int32) (x1 : Int32) (n : Nat) : Int32 → Int32 → Option O_X9_waysOf := lpg (fun _ _ => none) (s_X9_waysOf_4 N x0 x1) n
def f_X9_waysOf (N : Nat) (x0 : Int32) (x1 : Int32) : Option O_X9_waysOf :=
  f_X9_waysOf_4 N x0 x1 N (1 : Int32) (0 : Int32)
set_option maxHeartbeats 4000000 in
set_option maxRecDepth 100000 in
theorem t_X9_waysOf (l : Launch) (dC : Nat → ClassId) (dI : Nat → Nat → Nat) (sz : Nat) (x0 : Int32) (x1 : Int32) (N : Nat) (out : O_X9_waysOf) (hF : f_X9_waysOf N x0 x1 = some out) : gMi l yX9_waysOf wsX9_waysOf ({ frames := 0, cells := 0, slots := 0, locals := 0 } : Room) [.int x0, .int x1] (dC, dI) [] [] sz [] out := by
  refine gEi (cc := cX9_waysOf) (maxL := 4) (by decide) rfl (Nat.le_of_ble_eq_true rfl) ?_
  intro p e s m args below meth c Q A ls CF hK hN hA hret hP hD hS hl
  have hx := CF.1
  have hb := CF.2.1
  have hml := CF.2.2.1
  have hown : s.vm.findClass RX9 = some m.cls := CF.2.2.2.1
  have hts := CF.2.2.2.2
  have hl : lv_has ls 4 [(0, .int x0), (1, .int x1)] := hl
  have k_4 : ∀ (n : Nat) (y2 : Int32) (y3 : Int32) (H : Heap) (locs : List Loc) (ls : Array Slot), f_X9_waysOf_4 N x0 x1 n y2 y3 = some out → va_P (dC, dI) vwCl [] H → va_D A [] → va_S A s.heap H locs → lv_has ls 4 [(0, .int x0), (1, .int x1), (2, .int y2), (3, .int y3)] → W p l e ({ frames := 0, cells := 0, slots := 0, locals := 0 } : Room) s m args below meth c H locs 0 0 Q (F0 m 4 ls []) := by
    intro n
    induction n with
    | zero =>
      intro y2 y3 H locs ls hF
      have hF : (none : Option O_X9_waysOf) = some out := hF
      cases hF
    | succ n ih =>
      intro y2 y3 H locs ls hF hP hD hS hl
      have hF : s_X9_waysOf_4 N x0 x1 (f_X9_waysOf_4 N x0 x1 n) y2 y3 = some out := hF
      generalize f_X9_waysOf_4 N x0 x1 n = r_4 at hF ih
      have g_4 : ∀ (y2 : Int32) (y3 : Int32) (H : Heap) (locs : List Loc) (ls : Array Slot), r_4 y2 y3 = some out → va_P (dC, dI) vwCl [] H → va_D A [] → va_S A s.heap H locs → lv_has ls 4 [(0, .int x0), (1, .int x1), (2, .int y2), (3, .int y3)] → W p l e ({ frames := 0, cells := 0, slots := 0, locals := 0 } : Room) s m args below meth c H locs 0 0 Q (F0 m 4 ls []) := ih
      clear ih
      unfold s_X9_waysOf_4 at hF
      refine lv_iload_n hx hb dX9_waysOf_4 rfl (lv_at hl 3 rfl) ?_
      refine lv_iload_n hx hb dX9_waysOf_5 rfl (lv_at hl 1 rfl) ?_
      refine lv_icmp_ge (tgt := 26) hx hb dX9_waysOf_6 (by decide) (fun c_6 => ?_) (fun c_6 => ?_)
      · have hF := gi_t c_6 hF
        refine lv_iload_n hx hb dX9_waysOf_26 rfl (lv_at hl 2 rfl) ?_
        have hF := Option.some.inj hF
        subst hF
        exact hret _ _ _ _ dX9_waysOf_27 hP hD hS
      · have hF := gi_f c_6 hF
        refine lv_iload_n hx hb dX9_waysOf_9 rfl (lv_at hl 2 rfl) ?_
        refine lv_sipush (v := (4096 : Int32)) hx hb dX9_waysOf_10 (by decide) ?_
        refine lv_icmp_gt (tgt := 26) hx hb dX9_waysOf_13 (by decide) (fun c_13 => ?_) (fun c_13 => ?_)
        · have hF := gi_t c_13 hF
          refine lv_iload_n hx hb dX9_waysOf_26 rfl (lv_at hl 2 rfl) ?_
          have hF := Option.some.inj hF
          subst hF
          exact hret _ _ _ _ dX9_waysOf_27 hP hD hS
        · have hF := gi_f c_13 hF
          refine lv_iload_n hx hb dX9_waysOf_16 rfl (lv_at hl 2 rfl) ?_
          refine lv_iload_n hx hb dX9_waysOf_17 rfl (lv_at hl 0 rfl) ?_
          refine lv_imul hx hb dX9_waysOf_18 ?_
          refine lv_istore_n (lv' := [(2, .int (y2 * x0)), (0, .int x0), (1, .int x1), (3, .int y3)]) hx hb dX9_waysOf_19 rfl hl (by decide) rfl (fun ls hl => ?_)
          refine lv_iinc (v := (y3 + 1)) (lv' := [(3, .int (y3 + 1)), (2, .int (y2 * x0)), (0, .int x0), (1, .int x1)]) hx hb dX9_waysOf_20 hl (k := 3) rfl rfl (by decide) rfl (fun ls hl => ?_)
          refine lv_goto (tgt := 4) hx hb dX9_waysOf_23 (by decide) ?_
          exact g_4 (y2 * x0) (y3 + 1) _ _ _ hF hP hD hS (lv_sub hl [2, 3, 1, 0] rfl)
  unfold f_X9_waysOf at hF
  refine lv_iconst (v := (1 : Int32)) hx hb dX9_waysOf_0 (by decide) ?_
  refine lv_istore_n (lv' := [(2, .int (1 : Int32)), (0, .int x0), (1, .int x1)]) hx hb dX9_waysOf_1 rfl hl (by decide) rfl (fun ls hl => ?_)
  refine lv_iconst (v := (0 : Int32)) hx hb dX9_waysOf_2 (by decide) ?_
  refine lv_istore_n (lv' := [(3, .int (0 : Int32)), (2, .int (1 : Int32)), (0, .int x0), (1, .int x1)]) hx hb dX9_waysOf_3 rfl hl (by decide) rfl (fun ls hl => ?_)
  exact k_4 N (1 : Int32) (0 : Int32) _ _ _ hF hP hD hS (lv_sub hl [2, 3, 1, 0] rfl)
