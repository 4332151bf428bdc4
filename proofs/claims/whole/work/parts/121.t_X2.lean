abbrev O_X2_has : Type := Int32
def f_X2_has (N : Nat) (v_items : Int32) (x1 : Int32) : Option O_X2_has :=
  if x1 < 0 then (some ((0 : Int32))) else (if v_items ≤ x1 then (some ((0 : Int32))) else (some ((1 : Int32))))
set_option maxHeartbeats 4000000 in
set_option maxRecDepth 100000 in
theorem t_X2_has (l : Launch) (dC : Nat → ClassId) (dI : Nat → Nat → Nat) (h_this : Nat) (h_cells : Nat) (h_depths : Nat) (v_became : Int32) (v_items : Int32) (v_inputs : Int32) (v_muls : Int32) (sz : Nat) (x1 : Int32) (N : Nat) (out : O_X2_has) (hF : f_X2_has N v_items x1 = some out) : gMi l yX2_has wsX2_has ({ frames := 0, cells := 0, slots := 0, locals := 0 } : Room) [.ref h_this, .int x1] (dC, dI) [(h_this, .inr (2, [.ref h_cells, .ref h_depths, .int v_became, .int v_items, .int v_inputs, .int v_muls]))] [] sz [(h_this, .inr (2, [.ref h_cells, .ref h_depths, .int v_became, .int v_items, .int v_inputs, .int v_muls]))] out := by
  refine gEz (cc := cX2_has) (maxL := 2) (by decide) rfl (Nat.le_of_ble_eq_true rfl) ?_
  intro p e s m args below meth c Q A ls CF hK hN hA hret hP hD hS hl
  have hx := CF.1
  have hb := CF.2.1
  have hml := CF.2.2.1
  have hown : s.vm.findClass RX2 = some m.cls := CF.2.2.2.1
  have hts := CF.2.2.2.2
  have hl : lv_has ls 2 [(0, .ref h_this), (1, .int x1)] := hl
  have in_X2 : ∀ w ∈ wsX20, w ∈ wsX2_has := fun w h => List.mem_cons_of_mem _ (List.mem_append_right _ h)
  have hL18 : (Cond.fieldLink RX2 18 "DustSums$Program" "items" "I").before args s = true := hts (.fieldLink RX2 18 "DustSums$Program" "items" "I") (List.mem_of_getElem? (i := 1) rfl)
  unfold f_X2_has at hF
  refine lv_iload_n hx hb dX2_has_0 rfl (lv_at hl 1 rfl) ?_
  refine lv_if_lt (tgt := 16) hx hb dX2_has_1 (by decide) (fun c_1 => ?_) (fun c_1 => ?_)
  · have hF := gi_t c_1 hF
    refine lv_iconst (v := (0 : Int32)) hx hb dX2_has_16 (by decide) ?_
    have hF := Option.some.inj hF
    subst hF
    exact hret (show (0 : Int32) &&& 1 = (0 : Int32) by decide) _ _ _ _ dX2_has_17 hP hD hS
  · have hF := gi_f c_1 hF
    refine lv_iload_n hx hb dX2_has_4 rfl (lv_at hl 1 rfl) ?_
    refine lv_aload_n hx hb dX2_has_5 rfl (lv_at hl 0 rfl) ?_
    refine va_get (D := (dC, dI)) (ci := 2) (v := .int v_items) (C := RX2) (T := TX2) (N := 6) hx hb hts in_X2 hown hK hP 0 rfl rfl 3 (by decide) hL18 (fun _ h9 => h9) rfl dX2_has_6 ?_
    refine lv_icmp_ge (tgt := 16) hx hb dX2_has_9 (by decide) (fun c_9 => ?_) (fun c_9 => ?_)
    · have hF := gi_t c_9 hF
      refine lv_iconst (v := (0 : Int32)) hx hb dX2_has_16 (by decide) ?_
      have hF := Option.some.inj hF
      subst hF
      exact hret (show (0 : Int32) &&& 1 = (0 : Int32) by decide) _ _ _ _ dX2_has_17 hP hD hS
    · have hF := gi_f c_9 hF
      refine lv_iconst (v := (1 : Int32)) hx hb dX2_has_12 (by decide) ?_
      refine lv_goto (tgt := 17) hx hb dX2_has_13 (by decide) ?_
      have hF := Option.some.inj hF
      subst hF
      exact hret (show (1 : Int32) &&& 1 = (1 : Int32) by decide) _ _ _ _ dX2_has_17 hP hD hS
abbrev O_X2_cell : Type := Int32
def f_X2_cell (N : Nat) (v_cells : Nat → Int32) (x1 : Int32) (x2 : Int32) : Option O_X2_cell :=
  (f_X9_at N v_cells 96 ((x1 * (6 : Int32)) + x2)).bind (fun z_10 => some (z_10))
set_option maxHeartbeats 4000000 in
set_option maxRecDepth 100000 in
theorem t_X2_cell (l : Launch) (dC : Nat → ClassId) (dI : Nat → Nat → Nat) (h_this : Nat) (h_cells : Nat) (h_depths : Nat) (v_became : Int32) (v_items : Int32) (v_inputs : Int32) (v_muls : Int32) (k_cells : ClassId) (v_cells : Nat → Int32) (sz : Nat) (x1 : Int32) (x2 : Int32) (N : Nat) (out : O_X2_cell) (hF : f_X2_cell N v_cells x1 x2 = some out) : gMi l yX2_cell wsX2_cell ({ frames := 1, cells := 0, slots := 0, locals := 21 } : Room) [.ref h_this, .int x1, .int x2] (dC, dI) [(h_this, .inr (2, [.ref h_cells, .ref h_depths, .int v_became, .int v_items, .int v_inputs, .int v_muls])), (h_cells, .inl (k_cells, 96, .inl v_cells))] [(k_cells, .int)] sz [(h_this, .inr (2, [.ref h_cells, .ref h_depths, .int v_became, .int v_items, .int v_inputs, .int v_muls])), (h_cells, .inl (k_cells, 96, .inl v_cells))] out := by
  refine gEi (cc := cX2_cell) (maxL := 3) (by decide) rfl (Nat.le_of_ble_eq_true rfl) ?_
  intro p e s m args below meth c Q A ls CF hK hN hA hret hP hD hS hl
  have hx := CF.1
  have hb := CF.2.1
  have hml := CF.2.2.1
  have hown : s.vm.findClass RX2 = some m.cls := CF.2.2.2.1
  have hts := CF.2.2.2.2
  have hl : lv_has ls 3 [(0, .ref h_this), (1, .int x1), (2, .int x2)] := hl
  have in_X2 : ∀ w ∈ wsX20, w ∈ wsX2_cell := fun w h => List.mem_cons_of_mem _ (List.mem_append_right _ h)
  have hL9 : (Cond.fieldLink RX2 9 "DustSums$Program" "cells" "[I").before args s = true := hts (.fieldLink RX2 9 "DustSums$Program" "cells" "[I") (List.mem_of_getElem? (i := 1) rfl)
  have nm22 : va_Nw (.methodLinkNest RX2 22 yX9_at "DustSums") s := hN.2 (RX2, 22, yX9_at, "DustSums") (by decide +kernel)
  have cw22 : va_CN ({ frames := 1, cells := 0, slots := 0, locals := 21 } : Room) s args RX2 22 yX9_at "DustSums" cX9_at 2 (some .int) wsX9_at ({ frames := 0, cells := 0, slots := 0, locals := 0 } : Room) 0 0 2 ∧ (Cond.static yX9_at).before args s = true ∧ True := ⟨va_cnB 2 hts gX2_cell_X9_at_n22 rfl rfl rfl nm22 (hts (.initialized RX9) (List.mem_of_getElem? (i := 3) rfl)) (by decide +kernel) ⟨Nat.le_of_ble_eq_true rfl, Nat.le_of_ble_eq_true rfl⟩, hts (.static yX9_at) (List.mem_of_getElem? (i := 2) rfl), trivial⟩
  unfold f_X2_cell at hF
  refine lv_aload_n hx hb dX2_cell_0 rfl (lv_at hl 0 rfl) ?_
  refine va_get (D := (dC, dI)) (ci := 2) (v := .ref h_cells) (C := RX2) (T := TX2) (N := 6) hx hb hts in_X2 hown hK hP 0 rfl rfl 0 (by decide) hL9 (fun _ h9 => h9) rfl dX2_cell_1 ?_
  refine lv_iload_n hx hb dX2_cell_4 rfl (lv_at hl 1 rfl) ?_
  refine lv_bipush (v := (6 : Int32)) hx hb dX2_cell_5 (by decide) ?_
  refine lv_imul hx hb dX2_cell_7 ?_
  refine lv_iload_n hx hb dX2_cell_8 rfl (lv_at hl 2 rfl) ?_
  refine lv_iadd hx hb dX2_cell_9 ?_
  obtain ⟨z_10, hz_10, hF⟩ := gi_bind hF
  refine gRi (wc := [(h_cells, .inl (k_cells, 96, .inl v_cells))]) (wr := [(h_this, .inr (2, [.ref h_cells, .ref h_depths, .int v_became, .int v_items, .int v_inputs, .int v_muls]))]) (w1 := [(h_cells, .inl (k_cells, 96, .inl v_cells))]) hP hD hS hA [1] [0] rfl rfl (by decide) (by decide) (va_runSN (As := [.ref h_cells, .int ((x1 * (6 : Int32)) + x2)]) (rest := []) CF (t_X9_at l dC dI h_cells k_cells 96 v_cells s.heap.size ((x1 * (6 : Int32)) + x2) N z_10 hz_10) cw22 (gPS hP hD hK hN [1] [0] (by decide) rfl rfl) rfl rfl hl.1 rfl (lv_room (Nat.le_of_ble_eq_true rfl)) dX2_cell_10 ⟨Nat.zero_le _, Nat.zero_le _⟩) (fun H locs hP hD hS => ?_)
  have hP : va_P (dC, dI) vwCl [(h_this, .inr (2, [.ref h_cells, .ref h_depths, .int v_became, .int v_items, .int v_inputs, .int v_muls])), (h_cells, .inl (k_cells, 96, .inl v_cells))] H := hP
  have hD : va_D A [(h_this, .inr (2, [.ref h_cells, .ref h_depths, .int v_became, .int v_items, .int v_inputs, .int v_muls])), (h_cells, .inl (k_cells, 96, .inl v_cells))] := hD
  have hF := Option.some.inj hF
  subst hF
  exact hret _ _ _ _ dX2_cell_13 hP hD hS
abbrev O_X2_hasBecome : Type := Int32
def f_X2_hasBecome (N : Nat) (v_became : Int32) (x1 : Int32) : Option O_X2_hasBecome :=
  if ((v_became >>> (x1 &&& 31)) &&& (1 : Int32)) = (1 : Int32) then (some ((1 : Int32))) else (some ((0 : Int32)))
set_option maxHeartbeats 4000000 in
set_option maxRecDepth 100000 in
theorem t_X2_hasBecome (l : Launch) (dC : Nat → ClassId) (dI : Nat → Nat → Nat) (h_this : Nat) (h_cells : Nat) (h_depths : Nat) (v_became : Int32) (v_items : Int32) (v_inputs : Int32) (v_muls : Int32) (sz : Nat) (x1 : Int32) (N : Nat) (out : O_X2_hasBecome) (hF : f_X2_hasBecome N v_became x1 = some out) : gMi l yX2_hasBecome wsX2_hasBecome ({ frames := 0, cells := 0, slots := 0, locals := 0 } : Room) [.ref h_this, .int x1] (dC, dI) [(h_this, .inr (2, [.ref h_cells, .ref h_depths, .int v_became, .int v_items, .int v_inputs, .int v_muls]))] [] sz [(h_this, .inr (2, [.ref h_cells, .ref h_depths, .int v_became, .int v_items, .int v_inputs, .int v_muls]))] out := by
  refine gEz (cc := cX2_hasBecome) (maxL := 2) (by decide) rfl (Nat.le_of_ble_eq_true rfl) ?_
  intro p e s m args below meth c Q A ls CF hK hN hA hret hP hD hS hl
  have hx := CF.1
  have hb := CF.2.1
  have hml := CF.2.2.1
  have hown : s.vm.findClass RX2 = some m.cls := CF.2.2.2.1
  have hts := CF.2.2.2.2
  have hl : lv_has ls 2 [(0, .ref h_this), (1, .int x1)] := hl
  have in_X2 : ∀ w ∈ wsX20, w ∈ wsX2_hasBecome := fun w h => List.mem_cons_of_mem _ (List.mem_append_right _ h)
  have hL26 : (Cond.fieldLink RX2 26 "DustSums$Program" "became" "I").before args s = true := hts (.fieldLink RX2 26 "DustSums$Program" "became" "I") (List.mem_of_getElem? (i := 1) rfl)
  unfold f_X2_hasBecome at hF
  refine lv_aload_n hx hb dX2_hasBecome_0 rfl (lv_at hl 0 rfl) ?_
  refine va_get (D := (dC, dI)) (ci := 2) (v := .int v_became) (C := RX2) (T := TX2) (N := 6) hx hb hts in_X2 hown hK hP 0 rfl rfl 2 (by decide) hL26 (fun _ h9 => h9) rfl dX2_hasBecome_1 ?_
  refine lv_iload_n hx hb dX2_hasBecome_4 rfl (lv_at hl 1 rfl) ?_
  refine lv_ishr hx hb dX2_hasBecome_5 ?_
  refine lv_iconst (v := (1 : Int32)) hx hb dX2_hasBecome_6 (by decide) ?_
  refine lv_iand hx hb dX2_hasBecome_7 ?_
  refine lv_iconst (v := (1 : Int32)) hx hb dX2_hasBecome_8 (by decide) ?_
  refine lv_icmp_ne (tgt := 16) hx hb dX2_hasBecome_9 (by decide) (fun c_9 => ?_) (fun c_9 => ?_)
  · have hF := gi_f c_9 hF
    refine lv_iconst (v := (0 : Int32)) hx hb dX2_hasBecome_16 (by decide) ?_
    have hF := Option.some.inj hF
    subst hF
    exact hret (show (0 : Int32) &&& 1 = (0 : Int32) by decide) _ _ _ _ dX2_hasBecome_17 hP hD hS
  · have hF := gi_t c_9 hF
    refine lv_iconst (v := (1 : Int32)) hx hb dX2_hasBecome_12 (by decide) ?_
    refine lv_goto (tgt := 17) hx hb dX2_hasBecome_13 (by decide) ?_
    have hF := Option.some.inj hF
    subst hF
    exact hret (show (1 : Int32) &&& 1 = (1 : Int32) by decide) _ _ _ _ dX2_hasBecome_17 hP hD hS
abbrev O_X2_lotsTaken : Type := Int32
def f_X2_lotsTaken (N : Nat) (v_inputs : Int32) (v_muls : Int32) : Option O_X2_lotsTaken :=
  some ((((2 : Int32) * v_inputs) + ((8 : Int32) * v_muls)))
set_option maxHeartbeats 4000000 in
set_option maxRecDepth 100000 in
theorem t_X2_lotsTaken (l : Launch) (dC : Nat → ClassId) (dI : Nat → Nat → Nat) (h_this : Nat) (h_cells : Nat) (h_depths : Nat) (v_became : Int32) (v_items : Int32) (v_inputs : Int32) (v_muls : Int32) (sz : Nat) (N : Nat) (out : O_X2_lotsTaken) (hF : f_X2_lotsTaken N v_inputs v_muls = some out) : gMi l yX2_lotsTaken wsX2_lotsTaken ({ frames := 0, cells := 0, slots := 0, locals := 0 } : Room) [.ref h_this] (dC, dI) [(h_this, .inr (2, [.ref h_cells, .ref h_depths, .int v_became, .int v_items, .int v_inputs, .int v_muls]))] [] sz [(h_this, .inr (2, [.ref h_cells, .ref h_depths, .int v_became, .int v_items, .int v_inputs, .int v_muls]))] out := by
  refine gEi (cc := cX2_lotsTaken) (maxL := 1) (by decide) rfl (Nat.le_of_ble_eq_true rfl) ?_
  intro p e s m args below meth c Q A ls CF hK hN hA hret hP hD hS hl
  have hx := CF.1
  have hb := CF.2.1
  have hml := CF.2.2.1
  have hown : s.vm.findClass RX2 = some m.cls := CF.2.2.2.1
  have hts := CF.2.2.2.2
  have hl : lv_has ls 1 [(0, .ref h_this)] := hl
  have in_X2 : ∀ w ∈ wsX20, w ∈ wsX2_lotsTaken := fun w h => List.mem_cons_of_mem _ (List.mem_append_right _ h)
  have hL29 : (Cond.fieldLink RX2 29 "DustSums$Program" "inputs" "I").before args s = true := hts (.fieldLink RX2 29 "DustSums$Program" "inputs" "I") (List.mem_of_getElem? (i := 1) rfl)
  have hL32 : (Cond.fieldLink RX2 32 "DustSums$Program" "muls" "I").before args s = true := hts (.fieldLink RX2 32 "DustSums$Program" "muls" "I") (List.mem_of_getElem? (i := 2) rfl)
  unfold f_X2_lotsTaken at hF
  refine lv_iconst (v := (2 : Int32)) hx hb dX2_lotsTaken_0 (by decide) ?_
  refine lv_aload_n hx hb dX2_lotsTaken_1 rfl (lv_at hl 0 rfl) ?_
  refine va_get (D := (dC, dI)) (ci := 2) (v := .int v_inputs) (C := RX2) (T := TX2) (N := 6) hx hb hts in_X2 hown hK hP 0 rfl rfl 4 (by decide) hL29 (fun _ h9 => h9) rfl dX2_lotsTaken_2 ?_
  refine lv_imul hx hb dX2_lotsTaken_5 ?_
  refine lv_bipush (v := (8 : Int32)) hx hb dX2_lotsTaken_6 (by decide) ?_
  refine lv_aload_n hx hb dX2_lotsTaken_8 rfl (lv_at hl 0 rfl) ?_
  refine va_get (D := (dC, dI)) (ci := 2) (v := .int v_muls) (C := RX2) (T := TX2) (N := 6) hx hb hts in_X2 hown hK hP 0 rfl rfl 5 (by decide) hL32 (fun _ h9 => h9) rfl dX2_lotsTaken_9 ?_
  refine lv_imul hx hb dX2_lotsTaken_12 ?_
  refine lv_iadd hx hb dX2_lotsTaken_13 ?_
  have hF := Option.some.inj hF
  subst hF
  exact hret _ _ _ _ dX2_lotsTaken_14 hP hD hS
abbrev O_X2_lotsOf : Type := Int32
def f_X2_lotsOf (N : Nat) (v_cells : Nat → Int32) (x1 : Int32) : Option O_X2_lotsOf :=
  (f_X2_cell N v_cells x1 (0 : Int32)).bind (fun z_3 => if z_3 = 0 then (some ((2 : Int32))) else (if z_3 = (4 : Int32) then (some ((8 : Int32))) else (some ((0 : Int32)))))
set_option maxHeartbeats 4000000 in
set_option maxRecDepth 100000 in
theorem t_X2_lotsOf (l : Launch) (dC : Nat → ClassId) (dI : Nat → Nat → Nat) (h_this : Nat) (h_cells : Nat) (h_depths : Nat) (v_became : Int32) (v_items : Int32) (v_inputs : Int32) (v_muls : Int32) (k_cells : ClassId) (v_cells : Nat → Int32) (sz : Nat) (x1 : Int32) (N : Nat) (out : O_X2_lotsOf) (hF : f_X2_lotsOf N v_cells x1 = some out) : gMi l yX2_lotsOf wsX2_lotsOf ({ frames := 2, cells := 0, slots := 0, locals := 43 } : Room) [.ref h_this, .int x1] (dC, dI) [(h_this, .inr (2, [.ref h_cells, .ref h_depths, .int v_became, .int v_items, .int v_inputs, .int v_muls])), (h_cells, .inl (k_cells, 96, .inl v_cells))] [(k_cells, .int)] sz [(h_this, .inr (2, [.ref h_cells, .ref h_depths, .int v_became, .int v_items, .int v_inputs, .int v_muls])), (h_cells, .inl (k_cells, 96, .inl v_cells))] out := by
  refine gEi (cc := cX2_lotsOf) (maxL := 3) (by decide) rfl (Nat.le_of_ble_eq_true rfl) ?_
  intro p e s m args below meth c Q A ls CF hK hN hA hret hP hD hS hl
  have hx := CF.1
  have hb := CF.2.1
  have hml := CF.2.2.1
  have hown : s.vm.findClass RX2 = some m.cls := CF.2.2.2.1
  have hts := CF.2.2.2.2
  have hl : lv_has ls 3 [(0, .ref h_this), (1, .int x1)] := hl
  have cw35 : CallW ({ frames := 2, cells := 0, slots := 0, locals := 43 } : Room) s args RX2 RX2 35 yX2_cell cX2_cell 3 (some .int) wsX2_cell ({ frames := 1, cells := 0, slots := 0, locals := 21 } : Room) 0 0 2 := cwV 2 hts gX2_lotsOf_X2_cell rfl rfl rfl (by decide +kernel) ⟨Nat.le_of_ble_eq_true rfl, Nat.le_of_ble_eq_true rfl⟩
  unfold f_X2_lotsOf at hF
  refine lv_aload_n hx hb dX2_lotsOf_0 rfl (lv_at hl 0 rfl) ?_
  refine lv_iload_n hx hb dX2_lotsOf_1 rfl (lv_at hl 1 rfl) ?_
  refine lv_iconst (v := (0 : Int32)) hx hb dX2_lotsOf_2 (by decide) ?_
  obtain ⟨z_3, hz_3, hF⟩ := gi_bind hF
  refine gRi (wc := [(h_this, .inr (2, [.ref h_cells, .ref h_depths, .int v_became, .int v_items, .int v_inputs, .int v_muls])), (h_cells, .inl (k_cells, 96, .inl v_cells))]) (wr := []) (w1 := [(h_this, .inr (2, [.ref h_cells, .ref h_depths, .int v_became, .int v_items, .int v_inputs, .int v_muls])), (h_cells, .inl (k_cells, 96, .inl v_cells))]) hP hD hS hA [0, 1] [] rfl rfl (by decide) (by decide) (va_runV (As := [.int x1, .int (0 : Int32)]) (rest := []) CF (t_X2_cell l dC dI h_this h_cells h_depths v_became v_items v_inputs v_muls k_cells v_cells s.heap.size x1 (0 : Int32) N z_3 hz_3) cw35 (gPV (ci := 2) hP hD hK hN [0, 1] [0] (by decide) rfl rfl (q0 := 0) rfl rfl) rfl rfl hl.1 rfl (lv_room (Nat.le_of_ble_eq_true rfl)) dX2_lotsOf_3 ⟨Nat.zero_le _, Nat.zero_le _⟩) (fun H locs hP hD hS => ?_)
  have hP : va_P (dC, dI) vwCl [(h_this, .inr (2, [.ref h_cells, .ref h_depths, .int v_became, .int v_items, .int v_inputs, .int v_muls])), (h_cells, .inl (k_cells, 96, .inl v_cells))] H := hP
  have hD : va_D A [(h_this, .inr (2, [.ref h_cells, .ref h_depths, .int v_became, .int v_items, .int v_inputs, .int v_muls])), (h_cells, .inl (k_cells, 96, .inl v_cells))] := hD
  refine lv_istore_n (lv' := [(2, .int z_3), (0, .ref h_this), (1, .int x1)]) hx hb dX2_lotsOf_6 rfl hl (by decide) rfl (fun ls hl => ?_)
  refine lv_iload_n hx hb dX2_lotsOf_7 rfl (lv_at hl 0 rfl) ?_
  refine lv_if_ne (tgt := 15) hx hb dX2_lotsOf_8 (by decide) (fun c_8 => ?_) (fun c_8 => ?_)
  · have hF := gi_f c_8 hF
    refine lv_iload_n hx hb dX2_lotsOf_15 rfl (lv_at hl 0 rfl) ?_
    refine lv_iconst (v := (4 : Int32)) hx hb dX2_lotsOf_16 (by decide) ?_
    refine lv_icmp_ne (tgt := 25) hx hb dX2_lotsOf_17 (by decide) (fun c_17 => ?_) (fun c_17 => ?_)
    · have hF := gi_f c_17 hF
      refine lv_iconst (v := (0 : Int32)) hx hb dX2_lotsOf_25 (by decide) ?_
      have hF := Option.some.inj hF
      subst hF
      exact hret _ _ _ _ dX2_lotsOf_26 hP hD hS
    · have hF := gi_t c_17 hF
      refine lv_bipush (v := (8 : Int32)) hx hb dX2_lotsOf_20 (by decide) ?_
      refine lv_goto (tgt := 26) hx hb dX2_lotsOf_22 (by decide) ?_
      have hF := Option.some.inj hF
      subst hF
      exact hret _ _ _ _ dX2_lotsOf_26 hP hD hS
  · have hF := gi_t c_8 hF
    refine lv_iconst (v := (2 : Int32)) hx hb dX2_lotsOf_11 (by decide) ?_
    refine lv_goto (tgt := 26) hx hb dX2_lotsOf_12 (by decide) ?_
    have hF := Option.some.inj hF
    subst hF
    exact hret _ _ _ _ dX2_lotsOf_26 hP hD hS
abbrev O_X2_seenOf : Type := Int32
def f_X2_seenOf (N : Nat) (v_cells : Nat → Int32) (x1 : Int32) (x2 : Int32) : Option O_X2_seenOf :=
  (f_X2_cell N v_cells x1 (0 : Int32)).bind (fun z_3 => if z_3 = (0 : Int32) then ((f_X2_cell N v_cells x1 (4 : Int32)).bind (fun z_43 => if z_43 = x2 then (some ((3 : Int32))) else (some ((1 : Int32))))) else (if z_3 = (4 : Int32) then (some ((9 : Int32))) else (if z_3 = (5 : Int32) then (some ((3 : Int32))) else (some ((0 : Int32))))))
set_option maxHeartbeats 4000000 in
set_option maxRecDepth 100000 in
theorem t_X2_seenOf (l : Launch) (dC : Nat → ClassId) (dI : Nat → Nat → Nat) (h_this : Nat) (h_cells : Nat) (h_depths : Nat) (v_became : Int32) (v_items : Int32) (v_inputs : Int32) (v_muls : Int32) (k_cells : ClassId) (v_cells : Nat → Int32) (sz : Nat) (x1 : Int32) (x2 : Int32) (N : Nat) (out : O_X2_seenOf) (hF : f_X2_seenOf N v_cells x1 x2 = some out) : gMi l yX2_seenOf wsX2_seenOf ({ frames := 2, cells := 0, slots := 0, locals := 43 } : Room) [.ref h_this, .int x1, .int x2] (dC, dI) [(h_this, .inr (2, [.ref h_cells, .ref h_depths, .int v_became, .int v_items, .int v_inputs, .int v_muls])), (h_cells, .inl (k_cells, 96, .inl v_cells))] [(k_cells, .int)] sz [(h_this, .inr (2, [.ref h_cells, .ref h_depths, .int v_became, .int v_items, .int v_inputs, .int v_muls])), (h_cells, .inl (k_cells, 96, .inl v_cells))] out := by
  refine gEi (cc := cX2_seenOf) (maxL := 3) (by decide) rfl (Nat.le_of_ble_eq_true rfl) ?_
  intro p e s m args below meth c Q A ls CF hK hN hA hret hP hD hS hl
  have hx := CF.1
  have hb := CF.2.1
  have hml := CF.2.2.1
  have hown : s.vm.findClass RX2 = some m.cls := CF.2.2.2.1
  have hts := CF.2.2.2.2
  have hl : lv_has ls 3 [(0, .ref h_this), (1, .int x1), (2, .int x2)] := hl
  have cw35 : CallW ({ frames := 2, cells := 0, slots := 0, locals := 43 } : Room) s args RX2 RX2 35 yX2_cell cX2_cell 3 (some .int) wsX2_cell ({ frames := 1, cells := 0, slots := 0, locals := 21 } : Room) 0 0 2 := cwV 2 hts gX2_seenOf_X2_cell rfl rfl rfl (by decide +kernel) ⟨Nat.le_of_ble_eq_true rfl, Nat.le_of_ble_eq_true rfl⟩
  unfold f_X2_seenOf at hF
  refine lv_aload_n hx hb dX2_seenOf_0 rfl (lv_at hl 0 rfl) ?_
  refine lv_iload_n hx hb dX2_seenOf_1 rfl (lv_at hl 1 rfl) ?_
  refine lv_iconst (v := (0 : Int32)) hx hb dX2_seenOf_2 (by decide) ?_
  obtain ⟨z_3, hz_3, hF⟩ := gi_bind hF
  refine gRi (wc := [(h_this, .inr (2, [.ref h_cells, .ref h_depths, .int v_became, .int v_items, .int v_inputs, .int v_muls])), (h_cells, .inl (k_cells, 96, .inl v_cells))]) (wr := []) (w1 := [(h_this, .inr (2, [.ref h_cells, .ref h_depths, .int v_became, .int v_items, .int v_inputs, .int v_muls])), (h_cells, .inl (k_cells, 96, .inl v_cells))]) hP hD hS hA [0, 1] [] rfl rfl (by decide) (by decide) (va_runV (As := [.int x1, .int (0 : Int32)]) (rest := []) CF (t_X2_cell l dC dI h_this h_cells h_depths v_became v_items v_inputs v_muls k_cells v_cells s.heap.size x1 (0 : Int32) N z_3 hz_3) cw35 (gPV (ci := 2) hP hD hK hN [0, 1] [0] (by decide) rfl rfl (q0 := 0) rfl rfl) rfl rfl hl.1 rfl (lv_room (Nat.le_of_ble_eq_true rfl)) dX2_seenOf_3 ⟨Nat.zero_le _, Nat.zero_le _⟩) (fun H locs hP hD hS => ?_)
  have hP : va_P (dC, dI) vwCl [(h_this, .inr (2, [.ref h_cells, .ref h_depths, .int v_became, .int v_items, .int v_inputs, .int v_muls])), (h_cells, .inl (k_cells, 96, .inl v_cells))] H := hP
  have hD : va_D A [(h_this, .inr (2, [.ref h_cells, .ref h_depths, .int v_became, .int v_items, .int v_inputs, .int v_muls])), (h_cells, .inl (k_cells, 96, .inl v_cells))] := hD
  by_cases c_6_0 : z_3 = (0 : Int32)
  · have hF := gi_t c_6_0 hF
    refine lv_lookup (tgt := 40) hx hb dX2_seenOf_6 (by decide +kernel) (by rw [c_6_0] <;> rfl) (by decide) ?_
    refine lv_aload_n hx hb dX2_seenOf_40 rfl (lv_at hl 0 rfl) ?_
    refine lv_iload_n hx hb dX2_seenOf_41 rfl (lv_at hl 1 rfl) ?_
    refine lv_iconst (v := (4 : Int32)) hx hb dX2_seenOf_42 (by decide) ?_
    obtain ⟨z_43, hz_43, hF⟩ := gi_bind hF
    refine gRi (wc := [(h_this, .inr (2, [.ref h_cells, .ref h_depths, .int v_became, .int v_items, .int v_inputs, .int v_muls])), (h_cells, .inl (k_cells, 96, .inl v_cells))]) (wr := []) (w1 := [(h_this, .inr (2, [.ref h_cells, .ref h_depths, .int v_became, .int v_items, .int v_inputs, .int v_muls])), (h_cells, .inl (k_cells, 96, .inl v_cells))]) hP hD hS hA [0, 1] [] rfl rfl (by decide) (by decide) (va_runV (As := [.int x1, .int (4 : Int32)]) (rest := []) CF (t_X2_cell l dC dI h_this h_cells h_depths v_became v_items v_inputs v_muls k_cells v_cells H.size x1 (4 : Int32) N z_43 hz_43) cw35 (gPV (ci := 2) hP hD hK hN [0, 1] [0] (by decide) rfl rfl (q0 := 0) rfl rfl) rfl rfl hl.1 rfl (lv_room (Nat.le_of_ble_eq_true rfl)) dX2_seenOf_43 ⟨Nat.zero_le _, Nat.zero_le _⟩) (fun H locs hP hD hS => ?_)
    have hP : va_P (dC, dI) vwCl [(h_this, .inr (2, [.ref h_cells, .ref h_depths, .int v_became, .int v_items, .int v_inputs, .int v_muls])), (h_cells, .inl (k_cells, 96, .inl v_cells))] H := hP
    have hD : va_D A [(h_this, .inr (2, [.ref h_cells, .ref h_depths, .int v_became, .int v_items, .int v_inputs, .int v_muls])), (h_cells, .inl (k_cells, 96, .inl v_cells))] := hD
    refine lv_iload_n hx hb dX2_seenOf_46 rfl (lv_at hl 2 rfl) ?_
    refine lv_icmp_ne (tgt := 54) hx hb dX2_seenOf_47 (by decide) (fun c_47 => ?_) (fun c_47 => ?_)
    · have hF := gi_f c_47 hF
      refine lv_iconst (v := (1 : Int32)) hx hb dX2_seenOf_54 (by decide) ?_
      have hF := Option.some.inj hF
      subst hF
      exact hret _ _ _ _ dX2_seenOf_55 hP hD hS
    · have hF := gi_t c_47 hF
      refine lv_iconst (v := (3 : Int32)) hx hb dX2_seenOf_50 (by decide) ?_
      refine lv_goto (tgt := 55) hx hb dX2_seenOf_51 (by decide) ?_
      have hF := Option.some.inj hF
      subst hF
      exact hret _ _ _ _ dX2_seenOf_55 hP hD hS
  · have hF := gi_f c_6_0 hF
    by_cases c_6_4 : z_3 = (4 : Int32)
    · have hF := gi_t c_6_4 hF
      refine lv_lookup (tgt := 56) hx hb dX2_seenOf_6 (by decide +kernel) (by rw [c_6_4] <;> rfl) (by decide) ?_
      refine lv_bipush (v := (9 : Int32)) hx hb dX2_seenOf_56 (by decide) ?_
      have hF := Option.some.inj hF
      subst hF
      exact hret _ _ _ _ dX2_seenOf_58 hP hD hS
    · have hF := gi_f c_6_4 hF
      by_cases c_6_5 : z_3 = (5 : Int32)
      · have hF := gi_t c_6_5 hF
        refine lv_lookup (tgt := 59) hx hb dX2_seenOf_6 (by decide +kernel) (by rw [c_6_5] <;> rfl) (by decide) ?_
        refine lv_iconst (v := (3 : Int32)) hx hb dX2_seenOf_59 (by decide) ?_
        have hF := Option.some.inj hF
        subst hF
        exact hret _ _ _ _ dX2_seenOf_60 hP hD hS
      · have hF := gi_f c_6_5 hF
        have ic_6_0 : (z_3).toInt ≠ 0 := fun hh => c_6_0 (Int32.toInt_inj.mp (hh.trans (by decide)))
        have ic_6_4 : (z_3).toInt ≠ 4 := fun hh => c_6_4 (Int32.toInt_inj.mp (hh.trans (by decide)))
        have ic_6_5 : (z_3).toInt ≠ 5 := fun hh => c_6_5 (Int32.toInt_inj.mp (hh.trans (by decide)))
        refine lv_lookup (off := 55) (tgt := 61) hx hb dX2_seenOf_6 (by decide +kernel) (by simp [Op.lookupswitch.offset, Ne.symm ic_6_0, Ne.symm ic_6_4, Ne.symm ic_6_5]) (by decide) ?_
        refine lv_iconst (v := (0 : Int32)) hx hb dX2_seenOf_61 (by decide) ?_
        have hF := Option.some.inj hF
        subst hF
        exact hret _ _ _ _ dX2_seenOf_62 hP hD hS
abbrev O_X2_inputsOf : Type := Int32
def s_X2_inputsOf_4 (N : Nat) (v_items : Int32) (v_cells : Nat → Int32) (x1 : Int32) (r_4 : Int32 → Int32 → Option O_X2_inputsOf) (y2 : Int32) (y3 : Int32) : Option O_X2_inputsOf :=
  if v_items ≤ y3 then (some (y2)) else ((f_X2_cell N v_cells y3 (0 : Int32)).bind (fun z_15 => if z_15 = 0 then ((f_X2_cell N v_cells y3 (4 : Int32)).bind (fun z_24 => if z_24 = x1 then (r_4 (y2 + 1) (y3 + 1)) else (r_4 y2 (y3 + 1)))) else (r_4 y2 (y3 + 1))))
def f_X2_inputsOf_4 (N : Nat) (v_items : Int32) (v_cells : Nat → Int32) (x1 : Int32) (n : Nat) : Int32 → Int32 → Option O_X2_inputsOf := lpg (fun _ _ => none) (s_X2_inputsOf_4 N v_items v_cells x1) n
def f_X2_inputsOf (N : Nat) (v_items : Int32) (v_cells : Nat → Int32) (x1 : Int32) : Option O_X2_inputsOf :=
  f_X2_inputsOf_4 N v_items v_cells x1 N (0 : Int32) (0 : Int32)
set_option maxHeartbeats 4000000 in
set_option maxRecDepth 100000 in
theorem t_X2_inputsOf (l : Launch) (dC : Nat → ClassId) (dI : Nat → Nat → Nat) (h_this : Nat) (h_cells : Nat) (h_depths : Nat) (v_became : Int32) (v_items : Int32) (v_inputs : Int32) (v_muls : Int32) (k_cells : ClassId) (v_cells : Nat → Int32) (sz : Nat) (x1 : Int32) (N : Nat) (out : O_X2_inputsOf) (hF : f_X2_inputsOf N v_items v_cells x1 = some out) : gMi l yX2_inputsOf wsX2_inputsOf ({ frames := 2, cells := 0, slots := 0, locals := 43 } : Room) [.ref h_this, .int x1] (dC, dI) [(h_this, .inr (2, [.ref h_cells, .ref h_depths, .int v_became, .int v_items, .int v_inputs, .int v_muls])), (h_cells, .inl (k_cells, 96, .inl v_cells))] [(k_cells, .int)] sz [(h_this, .inr (2, [.ref h_cells, .ref h_depths, .int v_became, .int v_items, .int v_inputs, .int v_muls])), (h_cells, .inl (k_cells, 96, .inl v_cells))] out := by
  refine gEi (cc := cX2_inputsOf) (maxL := 4) (by decide) rfl (Nat.le_of_ble_eq_true rfl) ?_
  intro p e s m args below meth c Q A ls CF hK hN hA hret hP hD hS hl
  have hx := CF.1
  have hb := CF.2.1
  have hml := CF.2.2.1
  have hown : s.vm.findClass RX2 = some m.cls := CF.2.2.2.1
  have hts := CF.2.2.2.2
  have hl : lv_has ls 4 [(0, .ref h_this), (1, .int x1)] := hl
  have in_X2 : ∀ w ∈ wsX20, w ∈ wsX2_inputsOf := fun w h => List.mem_cons_of_mem _ (List.mem_append_right _ h)
  have hL18 : (Cond.fieldLink RX2 18 "DustSums$Program" "items" "I").before args s = true := hts (.fieldLink RX2 18 "DustSums$Program" "items" "I") (List.mem_of_getElem? (i := 1) rfl)
  have cw35 : CallW ({ frames := 2, cells := 0, slots := 0, locals := 43 } : Room) s args RX2 RX2 35 yX2_cell cX2_cell 3 (some .int) wsX2_cell ({ frames := 1, cells := 0, slots := 0, locals := 21 } : Room) 0 0 2 := cwV 2 hts gX2_inputsOf_X2_cell rfl rfl rfl (by decide +kernel) ⟨Nat.le_of_ble_eq_true rfl, Nat.le_of_ble_eq_true rfl⟩
  have k_4 : ∀ (n : Nat) (y2 : Int32) (y3 : Int32) (H : Heap) (locs : List Loc) (ls : Array Slot), f_X2_inputsOf_4 N v_items v_cells x1 n y2 y3 = some out → va_P (dC, dI) vwCl [(h_this, .inr (2, [.ref h_cells, .ref h_depths, .int v_became, .int v_items, .int v_inputs, .int v_muls])), (h_cells, .inl (k_cells, 96, .inl v_cells))] H → va_D A [(h_this, .inr (2, [.ref h_cells, .ref h_depths, .int v_became, .int v_items, .int v_inputs, .int v_muls])), (h_cells, .inl (k_cells, 96, .inl v_cells))] → va_S A s.heap H locs → lv_has ls 4 [(0, .ref h_this), (1, .int x1), (2, .int y2), (3, .int y3)] → W p l e ({ frames := 2, cells := 0, slots := 0, locals := 43 } : Room) s m args below meth c H locs 0 0 Q (F0 m 4 ls []) := by
    intro n
    induction n with
    | zero =>
      intro y2 y3 H locs ls hF
      have hF : (none : Option O_X2_inputsOf) = some out := hF
      cases hF
    | succ n ih =>
      intro y2 y3 H locs ls hF hP hD hS hl
      have hF : s_X2_inputsOf_4 N v_items v_cells x1 (f_X2_inputsOf_4 N v_items v_cells x1 n) y2 y3 = some out := hF
      generalize f_X2_inputsOf_4 N v_items v_cells x1 n = r_4 at hF ih
      have g_4 : ∀ (y2 : Int32) (y3 : Int32) (H : Heap) (locs : List Loc) (ls : Array Slot), r_4 y2 y3 = some out → va_P (dC, dI) vwCl [(h_this, .inr (2, [.ref h_cells, .ref h_depths, .int v_became, .int v_items, .int v_inputs, .int v_muls])), (h_cells, .inl (k_cells, 96, .inl v_cells))] H → va_D A [(h_this, .inr (2, [.ref h_cells, .ref h_depths, .int v_became, .int v_items, .int v_inputs, .int v_muls])), (h_cells, .inl (k_cells, 96, .inl v_cells))] → va_S A s.heap H locs → lv_has ls 4 [(0, .ref h_this), (1, .int x1), (2, .int y2), (3, .int y3)] → W p l e ({ frames := 2, cells := 0, slots := 0, locals := 43 } : Room) s m args below meth c H locs 0 0 Q (F0 m 4 ls []) := ih
      clear ih
      unfold s_X2_inputsOf_4 at hF
      refine lv_iload_n hx hb dX2_inputsOf_4 rfl (lv_at hl 3 rfl) ?_
      refine lv_aload_n hx hb dX2_inputsOf_5 rfl (lv_at hl 0 rfl) ?_
      refine va_get (D := (dC, dI)) (ci := 2) (v := .int v_items) (C := RX2) (T := TX2) (N := 6) hx hb hts in_X2 hown hK hP 0 rfl rfl 3 (by decide) hL18 (fun _ h9 => h9) rfl dX2_inputsOf_6 ?_
      refine lv_icmp_ge (tgt := 40) hx hb dX2_inputsOf_9 (by decide) (fun c_9 => ?_) (fun c_9 => ?_)
      · have hF := gi_t c_9 hF
        refine lv_iload_n hx hb dX2_inputsOf_40 rfl (lv_at hl 2 rfl) ?_
        have hF := Option.some.inj hF
        subst hF
        exact hret _ _ _ _ dX2_inputsOf_41 hP hD hS
      · have hF := gi_f c_9 hF
        refine lv_aload_n hx hb dX2_inputsOf_12 rfl (lv_at hl 0 rfl) ?_
        refine lv_iload_n hx hb dX2_inputsOf_13 rfl (lv_at hl 3 rfl) ?_
        refine lv_iconst (v := (0 : Int32)) hx hb dX2_inputsOf_14 (by decide) ?_
        obtain ⟨z_15, hz_15, hF⟩ := gi_bind hF
        refine gRi (wc := [(h_this, .inr (2, [.ref h_cells, .ref h_depths, .int v_became, .int v_items, .int v_inputs, .int v_muls])), (h_cells, .inl (k_cells, 96, .inl v_cells))]) (wr := []) (w1 := [(h_this, .inr (2, [.ref h_cells, .ref h_depths, .int v_became, .int v_items, .int v_inputs, .int v_muls])), (h_cells, .inl (k_cells, 96, .inl v_cells))]) hP hD hS hA [0, 1] [] rfl rfl (by decide) (by decide) (va_runV (As := [.int y3, .int (0 : Int32)]) (rest := []) CF (t_X2_cell l dC dI h_this h_cells h_depths v_became v_items v_inputs v_muls k_cells v_cells H.size y3 (0 : Int32) N z_15 hz_15) cw35 (gPV (ci := 2) hP hD hK hN [0, 1] [0] (by decide) rfl rfl (q0 := 0) rfl rfl) rfl rfl hl.1 rfl (lv_room (Nat.le_of_ble_eq_true rfl)) dX2_inputsOf_15 ⟨Nat.zero_le _, Nat.zero_le _⟩) (fun H locs hP hD hS => ?_)
        have hP : va_P (dC, dI) vwCl [(h_this, .inr (2, [.ref h_cells, .ref h_depths, .int v_became, .int v_items, .int v_inputs, .int v_muls])), (h_cells, .inl (k_cells, 96, .inl v_cells))] H := hP
        have hD : va_D A [(h_this, .inr (2, [.ref h_cells, .ref h_depths, .int v_became, .int v_items, .int v_inputs, .int v_muls])), (h_cells, .inl (k_cells, 96, .inl v_cells))] := hD
        refine lv_if_ne (tgt := 34) hx hb dX2_inputsOf_18 (by decide) (fun c_18 => ?_) (fun c_18 => ?_)
        · have hF := gi_f c_18 hF
          refine lv_iinc (v := (y3 + 1)) (lv' := [(3, .int (y3 + 1)), (0, .ref h_this), (1, .int x1), (2, .int y2)]) hx hb dX2_inputsOf_34 hl (k := 3) rfl rfl (by decide) rfl (fun ls hl => ?_)
          refine lv_goto (tgt := 4) hx hb dX2_inputsOf_37 (by decide) ?_
          exact g_4 y2 (y3 + 1) _ _ _ hF hP hD hS (lv_sub hl [1, 2, 3, 0] rfl)
        · have hF := gi_t c_18 hF
          refine lv_aload_n hx hb dX2_inputsOf_21 rfl (lv_at hl 0 rfl) ?_
          refine lv_iload_n hx hb dX2_inputsOf_22 rfl (lv_at hl 3 rfl) ?_
          refine lv_iconst (v := (4 : Int32)) hx hb dX2_inputsOf_23 (by decide) ?_
          obtain ⟨z_24, hz_24, hF⟩ := gi_bind hF
          refine gRi (wc := [(h_this, .inr (2, [.ref h_cells, .ref h_depths, .int v_became, .int v_items, .int v_inputs, .int v_muls])), (h_cells, .inl (k_cells, 96, .inl v_cells))]) (wr := []) (w1 := [(h_this, .inr (2, [.ref h_cells, .ref h_depths, .int v_became, .int v_items, .int v_inputs, .int v_muls])), (h_cells, .inl (k_cells, 96, .inl v_cells))]) hP hD hS hA [0, 1] [] rfl rfl (by decide) (by decide) (va_runV (As := [.int y3, .int (4 : Int32)]) (rest := []) CF (t_X2_cell l dC dI h_this h_cells h_depths v_became v_items v_inputs v_muls k_cells v_cells H.size y3 (4 : Int32) N z_24 hz_24) cw35 (gPV (ci := 2) hP hD hK hN [0, 1] [0] (by decide) rfl rfl (q0 := 0) rfl rfl) rfl rfl hl.1 rfl (lv_room (Nat.le_of_ble_eq_true rfl)) dX2_inputsOf_24 ⟨Nat.zero_le _, Nat.zero_le _⟩) (fun H locs hP hD hS => ?_)
          have hP : va_P (dC, dI) vwCl [(h_this, .inr (2, [.ref h_cells, .ref h_depths, .int v_became, .int v_items, .int v_inputs, .int v_muls])), (h_cells, .inl (k_cells, 96, .inl v_cells))] H := hP
          have hD : va_D A [(h_this, .inr (2, [.ref h_cells, .ref h_depths, .int v_became, .int v_items, .int v_inputs, .int v_muls])), (h_cells, .inl (k_cells, 96, .inl v_cells))] := hD
          refine lv_iload_n hx hb dX2_inputsOf_27 rfl (lv_at hl 1 rfl) ?_
          refine lv_icmp_ne (tgt := 34) hx hb dX2_inputsOf_28 (by decide) (fun c_28 => ?_) (fun c_28 => ?_)
          · have hF := gi_f c_28 hF
            refine lv_iinc (v := (y3 + 1)) (lv' := [(3, .int (y3 + 1)), (0, .ref h_this), (1, .int x1), (2, .int y2)]) hx hb dX2_inputsOf_34 hl (k := 3) rfl rfl (by decide) rfl (fun ls hl => ?_)
            refine lv_goto (tgt := 4) hx hb dX2_inputsOf_37 (by decide) ?_
            exact g_4 y2 (y3 + 1) _ _ _ hF hP hD hS (lv_sub hl [1, 2, 3, 0] rfl)
          · have hF := gi_t c_28 hF
            refine lv_iinc (v := (y2 + 1)) (lv' := [(2, .int (y2 + 1)), (0, .ref h_this), (1, .int x1), (3, .int y3)]) hx hb dX2_inputsOf_31 hl (k := 2) rfl rfl (by decide) rfl (fun ls hl => ?_)
            refine lv_iinc (v := (y3 + 1)) (lv' := [(3, .int (y3 + 1)), (2, .int (y2 + 1)), (0, .ref h_this), (1, .int x1)]) hx hb dX2_inputsOf_34 hl (k := 3) rfl rfl (by decide) rfl (fun ls hl => ?_)
            refine lv_goto (tgt := 4) hx hb dX2_inputsOf_37 (by decide) ?_
            exact g_4 (y2 + 1) (y3 + 1) _ _ _ hF hP hD hS (lv_sub hl [2, 3, 1, 0] rfl)
  unfold f_X2_inputsOf at hF
  refine lv_iconst (v := (0 : Int32)) hx hb dX2_inputsOf_0 (by decide) ?_
  refine lv_istore_n (lv' := [(2, .int (0 : Int32)), (0, .ref h_this), (1, .int x1)]) hx hb dX2_inputsOf_1 rfl hl (by decide) rfl (fun ls hl => ?_)
  refine lv_iconst (v := (0 : Int32)) hx hb dX2_inputsOf_2 (by decide) ?_
  refine lv_istore_n (lv' := [(3, .int (0 : Int32)), (2, .int (0 : Int32)), (0, .ref h_this), (1, .int x1)]) hx hb dX2_inputsOf_3 rfl hl (by decide) rfl (fun ls hl => ?_)
  exact k_4 N (0 : Int32) (0 : Int32) _ _ _ hF hP hD hS (lv_sub hl [2, 3, 1, 0] rfl)
abbrev O_X2_empty : Type := Int32 × Int32 × Int32 × Int32
def f_X2_empty (N : Nat) (v_became : Int32) (v_items : Int32) (v_inputs : Int32) (v_muls : Int32) : Option O_X2_empty :=
  some ((0 : Int32), (0 : Int32), (0 : Int32), (0 : Int32))
set_option maxHeartbeats 4000000 in
set_option maxRecDepth 100000 in
theorem t_X2_empty (l : Launch) (dC : Nat → ClassId) (dI : Nat → Nat → Nat) (h_this : Nat) (h_cells : Nat) (h_depths : Nat) (v_became : Int32) (v_items : Int32) (v_inputs : Int32) (v_muls : Int32) (sz : Nat) (N : Nat) (out : O_X2_empty) (hF : f_X2_empty N v_became v_items v_inputs v_muls = some out) : gMv l yX2_empty wsX2_empty ({ frames := 0, cells := 0, slots := 0, locals := 0 } : Room) [.ref h_this] (dC, dI) [(h_this, .inr (2, [.ref h_cells, .ref h_depths, .int v_became, .int v_items, .int v_inputs, .int v_muls]))] [] sz [(h_this, .inr (2, [.ref h_cells, .ref h_depths, .int out.1, .int out.2.1, .int out.2.2.1, .int out.2.2.2]))] := by
  refine gEv (cc := cX2_empty) (maxL := 1) (by decide) rfl (Nat.le_of_ble_eq_true rfl) ?_
  intro p e s m args below meth c Q A ls CF hK hN hA hret hP hD hS hl
  have hx := CF.1
  have hb := CF.2.1
  have hml := CF.2.2.1
  have hown : s.vm.findClass RX2 = some m.cls := CF.2.2.2.1
  have hts := CF.2.2.2.2
  have hl : lv_has ls 1 [(0, .ref h_this)] := hl
  have in_X2 : ∀ w ∈ wsX20, w ∈ wsX2_empty := fun w h => List.mem_cons_of_mem _ (List.mem_append_right _ h)
  have hL26 : (Cond.fieldLink RX2 26 "DustSums$Program" "became" "I").before args s = true := hts (.fieldLink RX2 26 "DustSums$Program" "became" "I") (List.mem_of_getElem? (i := 1) rfl)
  have hL18 : (Cond.fieldLink RX2 18 "DustSums$Program" "items" "I").before args s = true := hts (.fieldLink RX2 18 "DustSums$Program" "items" "I") (List.mem_of_getElem? (i := 2) rfl)
  have hL29 : (Cond.fieldLink RX2 29 "DustSums$Program" "inputs" "I").before args s = true := hts (.fieldLink RX2 29 "DustSums$Program" "inputs" "I") (List.mem_of_getElem? (i := 3) rfl)
  have hL32 : (Cond.fieldLink RX2 32 "DustSums$Program" "muls" "I").before args s = true := hts (.fieldLink RX2 32 "DustSums$Program" "muls" "I") (List.mem_of_getElem? (i := 4) rfl)
  unfold f_X2_empty at hF
  refine lv_aload_n hx hb dX2_empty_0 rfl (lv_at hl 0 rfl) ?_
  refine lv_iconst (v := (0 : Int32)) hx hb dX2_empty_1 (by decide) ?_
  refine va_put (D := (dC, dI)) (ci := 2) (v := .int (0 : Int32)) (ty := .int) (C := RX2) (T := TX2) (N := 6) hx hb hts in_X2 tyX2 tyX2_ok nmX2 hown hK hP hD hS 0 rfl rfl 2 (by decide) hL26 (fun _ h9 => h9) rfl (by decide +kernel) rfl rfl (Nat.le_of_ble_eq_true rfl) dX2_empty_2 (fun H locs hP hD hS => ?_)
  have hP : va_P (dC, dI) vwCl [(h_this, .inr (2, [.ref h_cells, .ref h_depths, .int (0 : Int32), .int v_items, .int v_inputs, .int v_muls]))] H := hP
  have hD : va_D A [(h_this, .inr (2, [.ref h_cells, .ref h_depths, .int (0 : Int32), .int v_items, .int v_inputs, .int v_muls]))] := hD
  refine lv_aload_n hx hb dX2_empty_5 rfl (lv_at hl 0 rfl) ?_
  refine lv_iconst (v := (0 : Int32)) hx hb dX2_empty_6 (by decide) ?_
  refine va_put (D := (dC, dI)) (ci := 2) (v := .int (0 : Int32)) (ty := .int) (C := RX2) (T := TX2) (N := 6) hx hb hts in_X2 tyX2 tyX2_ok nmX2 hown hK hP hD hS 0 rfl rfl 3 (by decide) hL18 (fun _ h9 => h9) rfl (by decide +kernel) rfl rfl (Nat.le_of_ble_eq_true rfl) dX2_empty_7 (fun H locs hP hD hS => ?_)
  have hP : va_P (dC, dI) vwCl [(h_this, .inr (2, [.ref h_cells, .ref h_depths, .int (0 : Int32), .int (0 : Int32), .int v_inputs, .int v_muls]))] H := hP
  have hD : va_D A [(h_this, .inr (2, [.ref h_cells, .ref h_depths, .int (0 : Int32), .int (0 : Int32), .int v_inputs, .int v_muls]))] := hD
  refine lv_aload_n hx hb dX2_empty_10 rfl (lv_at hl 0 rfl) ?_
  refine lv_iconst (v := (0 : Int32)) hx hb dX2_empty_11 (by decide) ?_
  refine va_put (D := (dC, dI)) (ci := 2) (v := .int (0 : Int32)) (ty := .int) (C := RX2) (T := TX2) (N := 6) hx hb hts in_X2 tyX2 tyX2_ok nmX2 hown hK hP hD hS 0 rfl rfl 4 (by decide) hL29 (fun _ h9 => h9) rfl (by decide +kernel) rfl rfl (Nat.le_of_ble_eq_true rfl) dX2_empty_12 (fun H locs hP hD hS => ?_)
  have hP : va_P (dC, dI) vwCl [(h_this, .inr (2, [.ref h_cells, .ref h_depths, .int (0 : Int32), .int (0 : Int32), .int (0 : Int32), .int v_muls]))] H := hP
  have hD : va_D A [(h_this, .inr (2, [.ref h_cells, .ref h_depths, .int (0 : Int32), .int (0 : Int32), .int (0 : Int32), .int v_muls]))] := hD
  refine lv_aload_n hx hb dX2_empty_15 rfl (lv_at hl 0 rfl) ?_
  refine lv_iconst (v := (0 : Int32)) hx hb dX2_empty_16 (by decide) ?_
  refine va_put (D := (dC, dI)) (ci := 2) (v := .int (0 : Int32)) (ty := .int) (C := RX2) (T := TX2) (N := 6) hx hb hts in_X2 tyX2 tyX2_ok nmX2 hown hK hP hD hS 0 rfl rfl 5 (by decide) hL32 (fun _ h9 => h9) rfl (by decide +kernel) rfl rfl (Nat.le_of_ble_eq_true rfl) dX2_empty_17 (fun H locs hP hD hS => ?_)
  have hP : va_P (dC, dI) vwCl [(h_this, .inr (2, [.ref h_cells, .ref h_depths, .int (0 : Int32), .int (0 : Int32), .int (0 : Int32), .int (0 : Int32)]))] H := hP
  have hD : va_D A [(h_this, .inr (2, [.ref h_cells, .ref h_depths, .int (0 : Int32), .int (0 : Int32), .int (0 : Int32), .int (0 : Int32)]))] := hD
  have hF := Option.some.inj hF
  subst hF
  exact hret _ _ _ _ dX2_empty_20 hP hD hS
abbrev O_X2_depthOf : Type := Int32
def f_X2_depthOf (N : Nat) (v_depths : Nat → Int32) (x1 : Int32) (x2 : Int32) (x3 : Int32) (x4 : Int32) : Option O_X2_depthOf :=
  if x1 = (2 : Int32) then ((f_X9_at N v_depths 16 x3).bind (fun z_37 => (f_X9_at N v_depths 16 x4).bind (fun z_46 => some ((if z_37 < z_46 then z_46 else z_37))))) else (if x1 = (3 : Int32) then ((f_X9_at N v_depths 16 x3).bind (fun z_37 => (f_X9_at N v_depths 16 x4).bind (fun z_46 => some ((if z_37 < z_46 then z_46 else z_37))))) else (if x1 = (4 : Int32) then ((f_X9_at N v_depths 16 x3).bind (fun z_58 => (f_X9_at N v_depths 16 x4).bind (fun z_67 => some (((if z_58 < z_67 then z_67 else z_58) + (1 : Int32)))))) else (if x1 = (5 : Int32) then ((f_X9_at N v_depths 16 x2).bind (fun z_81 => some ((z_81 + (1 : Int32))))) else (some ((0 : Int32))))))
set_option maxHeartbeats 4000000 in
set_option maxRecDepth 100000 in
theorem t_X2_depthOf (l : Launch) (dC : Nat → ClassId) (dI : Nat → Nat → Nat) (h_this : Nat) (h_cells : Nat) (h_depths : Nat) (v_became : Int32) (v_items : Int32) (v_inputs : Int32) (v_muls : Int32) (k_depths : ClassId) (v_depths : Nat → Int32) (sz : Nat) (x1 : Int32) (x2 : Int32) (x3 : Int32) (x4 : Int32) (N : Nat) (out : O_X2_depthOf) (hF : f_X2_depthOf N v_depths x1 x2 x3 x4 = some out) : gMi l yX2_depthOf wsX2_depthOf ({ frames := 1, cells := 0, slots := 0, locals := 21 } : Room) [.ref h_this, .int x1, .int x2, .int x3, .int x4] (dC, dI) [(h_this, .inr (2, [.ref h_cells, .ref h_depths, .int v_became, .int v_items, .int v_inputs, .int v_muls])), (h_depths, .inl (k_depths, 16, .inl v_depths))] [(k_depths, .int)] sz [(h_this, .inr (2, [.ref h_cells, .ref h_depths, .int v_became, .int v_items, .int v_inputs, .int v_muls])), (h_depths, .inl (k_depths, 16, .inl v_depths))] out := by
  refine gEi (cc := cX2_depthOf) (maxL := 5) (by decide) rfl (Nat.le_of_ble_eq_true rfl) ?_
  intro p e s m args below meth c Q A ls CF hK hN hA hret hP hD hS hl
  have hx := CF.1
  have hb := CF.2.1
  have hml := CF.2.2.1
  have hown : s.vm.findClass RX2 = some m.cls := CF.2.2.2.1
  have hts := CF.2.2.2.2
  have hl : lv_has ls 5 [(0, .ref h_this), (1, .int x1), (2, .int x2), (3, .int x3), (4, .int x4)] := hl
  have in_X2 : ∀ w ∈ wsX20, w ∈ wsX2_depthOf := fun w h => List.mem_cons_of_mem _ (List.mem_append_right _ h)
  have hL15 : (Cond.fieldLink RX2 15 "DustSums$Program" "depths" "[I").before args s = true := hts (.fieldLink RX2 15 "DustSums$Program" "depths" "[I") (List.mem_of_getElem? (i := 1) rfl)
  have nm22 : va_Nw (.methodLinkNest RX2 22 yX9_at "DustSums") s := hN.2 (RX2, 22, yX9_at, "DustSums") (by decide +kernel)
  have cw22 : va_CN ({ frames := 1, cells := 0, slots := 0, locals := 21 } : Room) s args RX2 22 yX9_at "DustSums" cX9_at 2 (some .int) wsX9_at ({ frames := 0, cells := 0, slots := 0, locals := 0 } : Room) 0 0 2 ∧ (Cond.static yX9_at).before args s = true ∧ True := ⟨va_cnB 2 hts gX2_depthOf_X9_at_n22 rfl rfl rfl nm22 (hts (.initialized RX9) (List.mem_of_getElem? (i := 7) rfl)) (by decide +kernel) ⟨Nat.le_of_ble_eq_true rfl, Nat.le_of_ble_eq_true rfl⟩, hts (.static yX9_at) (List.mem_of_getElem? (i := 6) rfl), trivial⟩
  have mm47 : (Cond.methodLink RX2 47 Lib.Math.max.name).before args s = true := hts (.methodLink RX2 47 Lib.Math.max.name) (List.mem_of_getElem? (i := 2) rfl)
  have msmax : (Cond.static Lib.Math.max.name).before args s = true := hts (.static Lib.Math.max.name) (List.mem_of_getElem? (i := 3) rfl)
  have mi : (Cond.initialized "java/lang/Math").before args s = true := hts (.initialized "java/lang/Math") (List.mem_of_getElem? (i := 4) rfl)
  have mcmax : (Cond.code Lib.Math.max.name Lib.Math.max.code 2 (some .int)).before args s = true := hts (.code Lib.Math.max.name Lib.Math.max.code 2 (some .int)) (List.mem_of_getElem? (i := 5) rfl)
  unfold f_X2_depthOf at hF
  refine lv_iload_n hx hb dX2_depthOf_0 rfl (lv_at hl 1 rfl) ?_
  by_cases c_1_2 : x1 = (2 : Int32)
  · have hF := gi_t c_1_2 hF
    refine lv_tableIn (tgt := 32) hx hb dX2_depthOf_1 (by rw [c_1_2] <;> decide) (by rw [c_1_2] <;> decide) (by rw [c_1_2] <;> rfl) (by decide) ?_
    refine lv_aload_n hx hb dX2_depthOf_32 rfl (lv_at hl 0 rfl) ?_
    refine va_get (D := (dC, dI)) (ci := 2) (v := .ref h_depths) (C := RX2) (T := TX2) (N := 6) hx hb hts in_X2 hown hK hP 0 rfl rfl 1 (by decide) hL15 (fun _ h9 => h9) rfl dX2_depthOf_33 ?_
    refine lv_iload_n hx hb dX2_depthOf_36 rfl (lv_at hl 3 rfl) ?_
    obtain ⟨z_37, hz_37, hF⟩ := gi_bind hF
    refine gRi (wc := [(h_depths, .inl (k_depths, 16, .inl v_depths))]) (wr := [(h_this, .inr (2, [.ref h_cells, .ref h_depths, .int v_became, .int v_items, .int v_inputs, .int v_muls]))]) (w1 := [(h_depths, .inl (k_depths, 16, .inl v_depths))]) hP hD hS hA [1] [0] rfl rfl (by decide) (by decide) (va_runSN (As := [.ref h_depths, .int x3]) (rest := []) CF (t_X9_at l dC dI h_depths k_depths 16 v_depths s.heap.size x3 N z_37 hz_37) cw22 (gPS hP hD hK hN [1] [0] (by decide) rfl rfl) rfl rfl hl.1 rfl (lv_room (Nat.le_of_ble_eq_true rfl)) dX2_depthOf_37 ⟨Nat.zero_le _, Nat.zero_le _⟩) (fun H locs hP hD hS => ?_)
    have hP : va_P (dC, dI) vwCl [(h_this, .inr (2, [.ref h_cells, .ref h_depths, .int v_became, .int v_items, .int v_inputs, .int v_muls])), (h_depths, .inl (k_depths, 16, .inl v_depths))] H := hP
    have hD : va_D A [(h_this, .inr (2, [.ref h_cells, .ref h_depths, .int v_became, .int v_items, .int v_inputs, .int v_muls])), (h_depths, .inl (k_depths, 16, .inl v_depths))] := hD
    refine lv_aload_n hx hb dX2_depthOf_40 rfl (lv_at hl 0 rfl) ?_
    refine va_get (D := (dC, dI)) (ci := 2) (v := .ref h_depths) (C := RX2) (T := TX2) (N := 6) hx hb hts in_X2 hown hK hP 0 rfl rfl 1 (by decide) hL15 (fun _ h9 => h9) rfl dX2_depthOf_41 ?_
    refine lv_iload hx hb dX2_depthOf_44 (lv_at hl 4 rfl) ?_
    obtain ⟨z_46, hz_46, hF⟩ := gi_bind hF
    refine gRi (wc := [(h_depths, .inl (k_depths, 16, .inl v_depths))]) (wr := [(h_this, .inr (2, [.ref h_cells, .ref h_depths, .int v_became, .int v_items, .int v_inputs, .int v_muls]))]) (w1 := [(h_depths, .inl (k_depths, 16, .inl v_depths))]) hP hD hS hA [1] [0] rfl rfl (by decide) (by decide) (va_runSN (As := [.ref h_depths, .int x4]) (rest := [.int z_37]) CF (t_X9_at l dC dI h_depths k_depths 16 v_depths H.size x4 N z_46 hz_46) cw22 (gPS hP hD hK hN [1] [0] (by decide) rfl rfl) rfl rfl hl.1 rfl (lv_room (Nat.le_of_ble_eq_true rfl)) dX2_depthOf_46 ⟨Nat.zero_le _, Nat.zero_le _⟩) (fun H locs hP hD hS => ?_)
    have hP : va_P (dC, dI) vwCl [(h_this, .inr (2, [.ref h_cells, .ref h_depths, .int v_became, .int v_items, .int v_inputs, .int v_muls])), (h_depths, .inl (k_depths, 16, .inl v_depths))] H := hP
    have hD : va_D A [(h_this, .inr (2, [.ref h_cells, .ref h_depths, .int v_became, .int v_items, .int v_inputs, .int v_muls])), (h_depths, .inl (k_depths, 16, .inl v_depths))] := hD
    refine va_mmax hx hb (hml.trans hl.1.symm) hown mm47 msmax mi mcmax (by decide) (Nat.le_of_ble_eq_true rfl) (Nat.zero_le _) (Nat.zero_le _) dX2_depthOf_49 ?_
    have hF := Option.some.inj hF
    subst hF
    exact hret _ _ _ _ dX2_depthOf_52 hP hD hS
  · have hF := gi_f c_1_2 hF
    by_cases c_1_3 : x1 = (3 : Int32)
    · have hF := gi_t c_1_3 hF
      refine lv_tableIn (tgt := 32) hx hb dX2_depthOf_1 (by rw [c_1_3] <;> decide) (by rw [c_1_3] <;> decide) (by rw [c_1_3] <;> rfl) (by decide) ?_
      refine lv_aload_n hx hb dX2_depthOf_32 rfl (lv_at hl 0 rfl) ?_
      refine va_get (D := (dC, dI)) (ci := 2) (v := .ref h_depths) (C := RX2) (T := TX2) (N := 6) hx hb hts in_X2 hown hK hP 0 rfl rfl 1 (by decide) hL15 (fun _ h9 => h9) rfl dX2_depthOf_33 ?_
      refine lv_iload_n hx hb dX2_depthOf_36 rfl (lv_at hl 3 rfl) ?_
      obtain ⟨z_37, hz_37, hF⟩ := gi_bind hF
      refine gRi (wc := [(h_depths, .inl (k_depths, 16, .inl v_depths))]) (wr := [(h_this, .inr (2, [.ref h_cells, .ref h_depths, .int v_became, .int v_items, .int v_inputs, .int v_muls]))]) (w1 := [(h_depths, .inl (k_depths, 16, .inl v_depths))]) hP hD hS hA [1] [0] rfl rfl (by decide) (by decide) (va_runSN (As := [.ref h_depths, .int x3]) (rest := []) CF (t_X9_at l dC dI h_depths k_depths 16 v_depths s.heap.size x3 N z_37 hz_37) cw22 (gPS hP hD hK hN [1] [0] (by decide) rfl rfl) rfl rfl hl.1 rfl (lv_room (Nat.le_of_ble_eq_true rfl)) dX2_depthOf_37 ⟨Nat.zero_le _, Nat.zero_le _⟩) (fun H locs hP hD hS => ?_)
      have hP : va_P (dC, dI) vwCl [(h_this, .inr (2, [.ref h_cells, .ref h_depths, .int v_became, .int v_items, .int v_inputs, .int v_muls])), (h_depths, .inl (k_depths, 16, .inl v_depths))] H := hP
      have hD : va_D A [(h_this, .inr (2, [.ref h_cells, .ref h_depths, .int v_became, .int v_items, .int v_inputs, .int v_muls])), (h_depths, .inl (k_depths, 16, .inl v_depths))] := hD
      refine lv_aload_n hx hb dX2_depthOf_40 rfl (lv_at hl 0 rfl) ?_
      refine va_get (D := (dC, dI)) (ci := 2) (v := .ref h_depths) (C := RX2) (T := TX2) (N := 6) hx hb hts in_X2 hown hK hP 0 rfl rfl 1 (by decide) hL15 (fun _ h9 => h9) rfl dX2_depthOf_41 ?_
      refine lv_iload hx hb dX2_depthOf_44 (lv_at hl 4 rfl) ?_
      obtain ⟨z_46, hz_46, hF⟩ := gi_bind hF
      refine gRi (wc := [(h_depths, .inl (k_depths, 16, .inl v_depths))]) (wr := [(h_this, .inr (2, [.ref h_cells, .ref h_depths, .int v_became, .int v_items, .int v_inputs, .int v_muls]))]) (w1 := [(h_depths, .inl (k_depths, 16, .inl v_depths))]) hP hD hS hA [1] [0] rfl rfl (by decide) (by decide) (va_runSN (As := [.ref h_depths, .int x4]) (rest := [.int z_37]) CF (t_X9_at l dC dI h_depths k_depths 16 v_depths H.size x4 N z_46 hz_46) cw22 (gPS hP hD hK hN [1] [0] (by decide) rfl rfl) rfl rfl hl.1 rfl (lv_room (Nat.le_of_ble_eq_true rfl)) dX2_depthOf_46 ⟨Nat.zero_le _, Nat.zero_le _⟩) (fun H locs hP hD hS => ?_)
      have hP : va_P (dC, dI) vwCl [(h_this, .inr (2, [.ref h_cells, .ref h_depths, .int v_became, .int v_items, .int v_inputs, .int v_muls])), (h_depths, .inl (k_depths, 16, .inl v_depths))] H := hP
      have hD : va_D A [(h_this, .inr (2, [.ref h_cells, .ref h_depths, .int v_became, .int v_items, .int v_inputs, .int v_muls])), (h_depths, .inl (k_depths, 16, .inl v_depths))] := hD
      refine va_mmax hx hb (hml.trans hl.1.symm) hown mm47 msmax mi mcmax (by decide) (Nat.le_of_ble_eq_true rfl) (Nat.zero_le _) (Nat.zero_le _) dX2_depthOf_49 ?_
      have hF := Option.some.inj hF
      subst hF
      exact hret _ _ _ _ dX2_depthOf_52 hP hD hS
    · have hF := gi_f c_1_3 hF
      by_cases c_1_4 : x1 = (4 : Int32)
      · have hF := gi_t c_1_4 hF
        refine lv_tableIn (tgt := 53) hx hb dX2_depthOf_1 (by rw [c_1_4] <;> decide) (by rw [c_1_4] <;> decide) (by rw [c_1_4] <;> rfl) (by decide) ?_
        refine lv_aload_n hx hb dX2_depthOf_53 rfl (lv_at hl 0 rfl) ?_
        refine va_get (D := (dC, dI)) (ci := 2) (v := .ref h_depths) (C := RX2) (T := TX2) (N := 6) hx hb hts in_X2 hown hK hP 0 rfl rfl 1 (by decide) hL15 (fun _ h9 => h9) rfl dX2_depthOf_54 ?_
        refine lv_iload_n hx hb dX2_depthOf_57 rfl (lv_at hl 3 rfl) ?_
        obtain ⟨z_58, hz_58, hF⟩ := gi_bind hF
        refine gRi (wc := [(h_depths, .inl (k_depths, 16, .inl v_depths))]) (wr := [(h_this, .inr (2, [.ref h_cells, .ref h_depths, .int v_became, .int v_items, .int v_inputs, .int v_muls]))]) (w1 := [(h_depths, .inl (k_depths, 16, .inl v_depths))]) hP hD hS hA [1] [0] rfl rfl (by decide) (by decide) (va_runSN (As := [.ref h_depths, .int x3]) (rest := []) CF (t_X9_at l dC dI h_depths k_depths 16 v_depths s.heap.size x3 N z_58 hz_58) cw22 (gPS hP hD hK hN [1] [0] (by decide) rfl rfl) rfl rfl hl.1 rfl (lv_room (Nat.le_of_ble_eq_true rfl)) dX2_depthOf_58 ⟨Nat.zero_le _, Nat.zero_le _⟩) (fun H locs hP hD hS => ?_)
        have hP : va_P (dC, dI) vwCl [(h_this, .inr (2, [.ref h_cells, .ref h_depths, .int v_became, .int v_items, .int v_inputs, .int v_muls])), (h_depths, .inl (k_depths, 16, .inl v_depths))] H := hP
        have hD : va_D A [(h_this, .inr (2, [.ref h_cells, .ref h_depths, .int v_became, .int v_items, .int v_inputs, .int v_muls])), (h_depths, .inl (k_depths, 16, .inl v_depths))] := hD
        refine lv_aload_n hx hb dX2_depthOf_61 rfl (lv_at hl 0 rfl) ?_
        refine va_get (D := (dC, dI)) (ci := 2) (v := .ref h_depths) (C := RX2) (T := TX2) (N := 6) hx hb hts in_X2 hown hK hP 0 rfl rfl 1 (by decide) hL15 (fun _ h9 => h9) rfl dX2_depthOf_62 ?_
        refine lv_iload hx hb dX2_depthOf_65 (lv_at hl 4 rfl) ?_
        obtain ⟨z_67, hz_67, hF⟩ := gi_bind hF
        refine gRi (wc := [(h_depths, .inl (k_depths, 16, .inl v_depths))]) (wr := [(h_this, .inr (2, [.ref h_cells, .ref h_depths, .int v_became, .int v_items, .int v_inputs, .int v_muls]))]) (w1 := [(h_depths, .inl (k_depths, 16, .inl v_depths))]) hP hD hS hA [1] [0] rfl rfl (by decide) (by decide) (va_runSN (As := [.ref h_depths, .int x4]) (rest := [.int z_58]) CF (t_X9_at l dC dI h_depths k_depths 16 v_depths H.size x4 N z_67 hz_67) cw22 (gPS hP hD hK hN [1] [0] (by decide) rfl rfl) rfl rfl hl.1 rfl (lv_room (Nat.le_of_ble_eq_true rfl)) dX2_depthOf_67 ⟨Nat.zero_le _, Nat.zero_le _⟩) (fun H locs hP hD hS => ?_)
        have hP : va_P (dC, dI) vwCl [(h_this, .inr (2, [.ref h_cells, .ref h_depths, .int v_became, .int v_items, .int v_inputs, .int v_muls])), (h_depths, .inl (k_depths, 16, .inl v_depths))] H := hP
        have hD : va_D A [(h_this, .inr (2, [.ref h_cells, .ref h_depths, .int v_became, .int v_items, .int v_inputs, .int v_muls])), (h_depths, .inl (k_depths, 16, .inl v_depths))] := hD
        refine va_mmax hx hb (hml.trans hl.1.symm) hown mm47 msmax mi mcmax (by decide) (Nat.le_of_ble_eq_true rfl) (Nat.zero_le _) (Nat.zero_le _) dX2_depthOf_70 ?_
        refine lv_iconst (v := (1 : Int32)) hx hb dX2_depthOf_73 (by decide) ?_
        refine lv_iadd hx hb dX2_depthOf_74 ?_
        have hF := Option.some.inj hF
        subst hF
        exact hret _ _ _ _ dX2_depthOf_75 hP hD hS
      · have hF := gi_f c_1_4 hF
        by_cases c_1_5 : x1 = (5 : Int32)
        · have hF := gi_t c_1_5 hF
          refine lv_tableIn (tgt := 76) hx hb dX2_depthOf_1 (by rw [c_1_5] <;> decide) (by rw [c_1_5] <;> decide) (by rw [c_1_5] <;> rfl) (by decide) ?_
          refine lv_aload_n hx hb dX2_depthOf_76 rfl (lv_at hl 0 rfl) ?_
          refine va_get (D := (dC, dI)) (ci := 2) (v := .ref h_depths) (C := RX2) (T := TX2) (N := 6) hx hb hts in_X2 hown hK hP 0 rfl rfl 1 (by decide) hL15 (fun _ h9 => h9) rfl dX2_depthOf_77 ?_
          refine lv_iload_n hx hb dX2_depthOf_80 rfl (lv_at hl 2 rfl) ?_
          obtain ⟨z_81, hz_81, hF⟩ := gi_bind hF
          refine gRi (wc := [(h_depths, .inl (k_depths, 16, .inl v_depths))]) (wr := [(h_this, .inr (2, [.ref h_cells, .ref h_depths, .int v_became, .int v_items, .int v_inputs, .int v_muls]))]) (w1 := [(h_depths, .inl (k_depths, 16, .inl v_depths))]) hP hD hS hA [1] [0] rfl rfl (by decide) (by decide) (va_runSN (As := [.ref h_depths, .int x2]) (rest := []) CF (t_X9_at l dC dI h_depths k_depths 16 v_depths s.heap.size x2 N z_81 hz_81) cw22 (gPS hP hD hK hN [1] [0] (by decide) rfl rfl) rfl rfl hl.1 rfl (lv_room (Nat.le_of_ble_eq_true rfl)) dX2_depthOf_81 ⟨Nat.zero_le _, Nat.zero_le _⟩) (fun H locs hP hD hS => ?_)
          have hP : va_P (dC, dI) vwCl [(h_this, .inr (2, [.ref h_cells, .ref h_depths, .int v_became, .int v_items, .int v_inputs, .int v_muls])), (h_depths, .inl (k_depths, 16, .inl v_depths))] H := hP
          have hD : va_D A [(h_this, .inr (2, [.ref h_cells, .ref h_depths, .int v_became, .int v_items, .int v_inputs, .int v_muls])), (h_depths, .inl (k_depths, 16, .inl v_depths))] := hD
          refine lv_iconst (v := (1 : Int32)) hx hb dX2_depthOf_84 (by decide) ?_
          refine lv_iadd hx hb dX2_depthOf_85 ?_
          have hF := Option.some.inj hF
          subst hF
          exact hret _ _ _ _ dX2_depthOf_86 hP hD hS
        · have hF := gi_f c_1_5 hF
          have ic_1_2 : (x1).toInt ≠ 2 := fun hh => c_1_2 (Int32.toInt_inj.mp (hh.trans (by decide)))
          have ic_1_3 : (x1).toInt ≠ 3 := fun hh => c_1_3 (Int32.toInt_inj.mp (hh.trans (by decide)))
          have ic_1_4 : (x1).toInt ≠ 4 := fun hh => c_1_4 (Int32.toInt_inj.mp (hh.trans (by decide)))
          have ic_1_5 : (x1).toInt ≠ 5 := fun hh => c_1_5 (Int32.toInt_inj.mp (hh.trans (by decide)))
          refine lv_tableOut (tgt := 87) hx hb dX2_depthOf_1 (by omega) (by decide) ?_
          refine lv_iconst (v := (0 : Int32)) hx hb dX2_depthOf_87 (by decide) ?_
          have hF := Option.some.inj hF
          subst hF
          exact hret _ _ _ _ dX2_depthOf_88 hP hD hS
abbrev O_X2_take : Type := Int32 × Int32 × Int32 × Int32 × (Nat → Int32) × (Nat → Int32)
def f_X2_take_146 (N : Nat) (x1 : Int32) (x2 : Int32) (x3 : Int32) (x4 : Int32) (x5 : Int32) (v_became : Int32) (v_items : Int32) (v_inputs : Int32) (v_muls : Int32) (v_cells : Nat → Int32) (v_depths : Nat → Int32) : Option O_X2_take :=
  if x1 = (4 : Int32) then (some (v_became, v_items, v_inputs, (v_muls + (1 : Int32)), v_cells, v_depths)) else (some (v_became, v_items, v_inputs, v_muls, v_cells, v_depths))
def f_X2_take_110 (N : Nat) (x1 : Int32) (x2 : Int32) (x3 : Int32) (x4 : Int32) (x5 : Int32) (v_became : Int32) (v_items : Int32) (v_inputs : Int32) (v_muls : Int32) (v_cells : Nat → Int32) (v_depths : Nat → Int32) : Option O_X2_take :=
  if x1 = 0 then (f_X2_take_146 N x1 x2 x3 x4 x5 (v_became ||| ((1 : Int32) <<< (x2 &&& 31))) (v_items + (1 : Int32)) (v_inputs + (1 : Int32)) v_muls v_cells v_depths) else (f_X2_take_146 N x1 x2 x3 x4 x5 (v_became ||| ((1 : Int32) <<< (x2 &&& 31))) (v_items + (1 : Int32)) v_inputs v_muls v_cells v_depths)
def f_X2_take (N : Nat) (x1 : Int32) (x2 : Int32) (x3 : Int32) (x4 : Int32) (x5 : Int32) (v_became : Int32) (v_items : Int32) (v_inputs : Int32) (v_muls : Int32) (v_cells : Nat → Int32) (v_depths : Nat → Int32) : Option O_X2_take :=
  (f_X2_depthOf N v_depths x1 x2 x3 x4).bind (fun z_15 => (f_X9_put N 96 ((v_items * (6 : Int32)) + (0 : Int32)) x1 v_cells).bind (fun z_29 => (f_X9_put N 96 ((v_items * (6 : Int32)) + (1 : Int32)) x2 z_29).bind (fun z_41 => (f_X9_put N 96 ((v_items * (6 : Int32)) + (2 : Int32)) x3 z_41).bind (fun z_53 => (f_X9_put N 96 ((v_items * (6 : Int32)) + (3 : Int32)) x4 z_53).bind (fun z_66 => (f_X9_put N 96 ((v_items * (6 : Int32)) + (4 : Int32)) x5 z_66).bind (fun z_79 => (f_X9_put N 96 ((v_items * (6 : Int32)) + (5 : Int32)) z_15 z_79).bind (fun z_92 => if x1 = (5 : Int32) then (f_X2_take_110 N x1 x2 x3 x4 x5 v_became v_items v_inputs v_muls z_92 v_depths) else ((f_X9_put N 16 x2 z_15 v_depths).bind (fun z_107 => f_X2_take_110 N x1 x2 x3 x4 x5 v_became v_items v_inputs v_muls z_92 z_107)))))))))
set_option maxHeartbeats 4000000 in
set_option maxRecDepth 100000 in
theorem t_X2_take (l : Launch) (dC : Nat → ClassId) (dI : Nat → Nat → Nat) (h_this : Nat) (h_cells : Nat) (h_depths : Nat) (v_became : Int32) (v_items : Int32) (v_inputs : Int32) (v_muls : Int32) (k_cells : ClassId) (v_cells : Nat → Int32) (k_depths : ClassId) (v_depths : Nat → Int32) (sz : Nat) (x1 : Int32) (x2 : Int32) (x3 : Int32) (x4 : Int32) (x5 : Int32) (N : Nat) (out : O_X2_take) (hF : f_X2_take N x1 x2 x3 x4 x5 v_became v_items v_inputs v_muls v_cells v_depths = some out) : gMv l yX2_take wsX2_take ({ frames := 2, cells := 0, slots := 0, locals := 45 } : Room) [.ref h_this, .int x1, .int x2, .int x3, .int x4, .int x5] (dC, dI) [(h_this, .inr (2, [.ref h_cells, .ref h_depths, .int v_became, .int v_items, .int v_inputs, .int v_muls])), (h_cells, .inl (k_cells, 96, .inl v_cells)), (h_depths, .inl (k_depths, 16, .inl v_depths))] [(k_cells, .int), (k_depths, .int)] sz [(h_this, .inr (2, [.ref h_cells, .ref h_depths, .int out.1, .int out.2.1, .int out.2.2.1, .int out.2.2.2.1])), (h_cells, .inl (k_cells, 96, .inl out.2.2.2.2.1)), (h_depths, .inl (k_depths, 16, .inl out.2.2.2.2.2))] := by
  refine gEv (cc := cX2_take) (maxL := 8) (by decide) rfl (Nat.le_of_ble_eq_true rfl) ?_
  intro p e s m args below meth c Q A ls CF hK hN hA hret hP hD hS hl
  have hx := CF.1
  have hb := CF.2.1
  have hml := CF.2.2.1
  have hown : s.vm.findClass RX2 = some m.cls := CF.2.2.2.1
  have hts := CF.2.2.2.2
  have hl : lv_has ls 8 [(0, .ref h_this), (1, .int x1), (2, .int x2), (3, .int x3), (4, .int x4), (5, .int x5)] := hl
  have in_X2 : ∀ w ∈ wsX20, w ∈ wsX2_take := fun w h => List.mem_cons_of_mem _ (List.mem_append_right _ h)
  have hL18 : (Cond.fieldLink RX2 18 "DustSums$Program" "items" "I").before args s = true := hts (.fieldLink RX2 18 "DustSums$Program" "items" "I") (List.mem_of_getElem? (i := 1) rfl)
  have cw39 : CallW ({ frames := 2, cells := 0, slots := 0, locals := 45 } : Room) s args RX2 RX2 39 yX2_depthOf cX2_depthOf 5 (some .int) wsX2_depthOf ({ frames := 1, cells := 0, slots := 0, locals := 21 } : Room) 0 0 4 := cwV 4 hts gX2_take_X2_depthOf rfl rfl rfl (by decide +kernel) ⟨Nat.le_of_ble_eq_true rfl, Nat.le_of_ble_eq_true rfl⟩
  have hL9 : (Cond.fieldLink RX2 9 "DustSums$Program" "cells" "[I").before args s = true := hts (.fieldLink RX2 9 "DustSums$Program" "cells" "[I") (List.mem_of_getElem? (i := 2) rfl)
  have nm43 : va_Nw (.methodLinkNest RX2 43 yX9_put "DustSums") s := hN.2 (RX2, 43, yX9_put, "DustSums") (by decide +kernel)
  have cw43 : va_CN ({ frames := 2, cells := 0, slots := 0, locals := 45 } : Room) s args RX2 43 yX9_put "DustSums" cX9_put 3 none wsX9_put ({ frames := 0, cells := 0, slots := 0, locals := 0 } : Room) 0 0 3 ∧ (Cond.static yX9_put).before args s = true ∧ True := ⟨va_cnB 3 hts gX2_take_X9_put_n43 rfl rfl rfl nm43 (hts (.initialized RX9) (List.mem_of_getElem? (i := 17) rfl)) (by decide +kernel) ⟨Nat.le_of_ble_eq_true rfl, Nat.le_of_ble_eq_true rfl⟩, hts (.static yX9_put) (List.mem_of_getElem? (i := 19) rfl), trivial⟩
  have hL26 : (Cond.fieldLink RX2 26 "DustSums$Program" "became" "I").before args s = true := hts (.fieldLink RX2 26 "DustSums$Program" "became" "I") (List.mem_of_getElem? (i := 4) rfl)
  have hL32 : (Cond.fieldLink RX2 32 "DustSums$Program" "muls" "I").before args s = true := hts (.fieldLink RX2 32 "DustSums$Program" "muls" "I") (List.mem_of_getElem? (i := 6) rfl)
  have hL29 : (Cond.fieldLink RX2 29 "DustSums$Program" "inputs" "I").before args s = true := hts (.fieldLink RX2 29 "DustSums$Program" "inputs" "I") (List.mem_of_getElem? (i := 5) rfl)
  have hL15 : (Cond.fieldLink RX2 15 "DustSums$Program" "depths" "[I").before args s = true := hts (.fieldLink RX2 15 "DustSums$Program" "depths" "[I") (List.mem_of_getElem? (i := 3) rfl)
  have k_146 : ∀ (v_became : Int32) (v_items : Int32) (v_inputs : Int32) (v_muls : Int32) (v_cells : Nat → Int32) (v_depths : Nat → Int32) (H : Heap) (locs : List Loc) (ls : Array Slot), f_X2_take_146 N x1 x2 x3 x4 x5 v_became v_items v_inputs v_muls v_cells v_depths = some out → va_P (dC, dI) vwCl [(h_this, .inr (2, [.ref h_cells, .ref h_depths, .int v_became, .int v_items, .int v_inputs, .int v_muls])), (h_cells, .inl (k_cells, 96, .inl v_cells)), (h_depths, .inl (k_depths, 16, .inl v_depths))] H → va_D A [(h_this, .inr (2, [.ref h_cells, .ref h_depths, .int v_became, .int v_items, .int v_inputs, .int v_muls])), (h_cells, .inl (k_cells, 96, .inl v_cells)), (h_depths, .inl (k_depths, 16, .inl v_depths))] → va_S A s.heap H locs → lv_has ls 8 [(0, .ref h_this), (1, .int x1)] → W p l e ({ frames := 2, cells := 0, slots := 0, locals := 45 } : Room) s m args below meth c H locs 0 0 Q (F0 m 146 ls []) := by
    intro v_became v_items v_inputs v_muls v_cells v_depths H locs ls hF hP hD hS hl
    unfold f_X2_take_146 at hF
    refine lv_iload_n hx hb dX2_take_146 rfl (lv_at hl 1 rfl) ?_
    refine lv_iconst (v := (4 : Int32)) hx hb dX2_take_147 (by decide) ?_
    refine lv_icmp_ne (tgt := 161) hx hb dX2_take_148 (by decide) (fun c_148 => ?_) (fun c_148 => ?_)
    · have hF := gi_f c_148 hF
      have hF := Option.some.inj hF
      subst hF
      exact hret _ _ _ _ dX2_take_161 hP hD hS
    · have hF := gi_t c_148 hF
      refine lv_aload_n hx hb dX2_take_151 rfl (lv_at hl 0 rfl) ?_
      refine lv_dup hx hb dX2_take_152 rfl ?_
      refine va_get (D := (dC, dI)) (ci := 2) (v := .int v_muls) (C := RX2) (T := TX2) (N := 6) hx hb hts in_X2 hown hK hP 0 rfl rfl 5 (by decide) hL32 (fun _ h9 => h9) rfl dX2_take_153 ?_
      refine lv_iconst (v := (1 : Int32)) hx hb dX2_take_156 (by decide) ?_
      refine lv_iadd hx hb dX2_take_157 ?_
      refine va_put (D := (dC, dI)) (ci := 2) (v := .int (v_muls + (1 : Int32))) (ty := .int) (C := RX2) (T := TX2) (N := 6) hx hb hts in_X2 tyX2 tyX2_ok nmX2 hown hK hP hD hS 0 rfl rfl 5 (by decide) hL32 (fun _ h9 => h9) rfl (by decide +kernel) rfl rfl (Nat.le_of_ble_eq_true rfl) dX2_take_158 (fun H locs hP hD hS => ?_)
      have hP : va_P (dC, dI) vwCl [(h_this, .inr (2, [.ref h_cells, .ref h_depths, .int v_became, .int v_items, .int v_inputs, .int (v_muls + (1 : Int32))])), (h_cells, .inl (k_cells, 96, .inl v_cells)), (h_depths, .inl (k_depths, 16, .inl v_depths))] H := hP
      have hD : va_D A [(h_this, .inr (2, [.ref h_cells, .ref h_depths, .int v_became, .int v_items, .int v_inputs, .int (v_muls + (1 : Int32))])), (h_cells, .inl (k_cells, 96, .inl v_cells)), (h_depths, .inl (k_depths, 16, .inl v_depths))] := hD
      have hF := Option.some.inj hF
      subst hF
      exact hret _ _ _ _ dX2_take_161 hP hD hS
  have k_110 : ∀ (v_became : Int32) (v_items : Int32) (v_inputs : Int32) (v_muls : Int32) (v_cells : Nat → Int32) (v_depths : Nat → Int32) (H : Heap) (locs : List Loc) (ls : Array Slot), f_X2_take_110 N x1 x2 x3 x4 x5 v_became v_items v_inputs v_muls v_cells v_depths = some out → va_P (dC, dI) vwCl [(h_this, .inr (2, [.ref h_cells, .ref h_depths, .int v_became, .int v_items, .int v_inputs, .int v_muls])), (h_cells, .inl (k_cells, 96, .inl v_cells)), (h_depths, .inl (k_depths, 16, .inl v_depths))] H → va_D A [(h_this, .inr (2, [.ref h_cells, .ref h_depths, .int v_became, .int v_items, .int v_inputs, .int v_muls])), (h_cells, .inl (k_cells, 96, .inl v_cells)), (h_depths, .inl (k_depths, 16, .inl v_depths))] → va_S A s.heap H locs → lv_has ls 8 [(0, .ref h_this), (1, .int x1), (2, .int x2)] → W p l e ({ frames := 2, cells := 0, slots := 0, locals := 45 } : Room) s m args below meth c H locs 0 0 Q (F0 m 110 ls []) := by
    intro v_became v_items v_inputs v_muls v_cells v_depths H locs ls hF hP hD hS hl
    unfold f_X2_take_110 at hF
    refine lv_aload_n hx hb dX2_take_110 rfl (lv_at hl 0 rfl) ?_
    refine lv_dup hx hb dX2_take_111 rfl ?_
    refine va_get (D := (dC, dI)) (ci := 2) (v := .int v_became) (C := RX2) (T := TX2) (N := 6) hx hb hts in_X2 hown hK hP 0 rfl rfl 2 (by decide) hL26 (fun _ h9 => h9) rfl dX2_take_112 ?_
    refine lv_iconst (v := (1 : Int32)) hx hb dX2_take_115 (by decide) ?_
    refine lv_iload_n hx hb dX2_take_116 rfl (lv_at hl 2 rfl) ?_
    refine lv_ishl hx hb dX2_take_117 ?_
    refine lv_ior hx hb dX2_take_118 ?_
    refine va_put (D := (dC, dI)) (ci := 2) (v := .int (v_became ||| ((1 : Int32) <<< (x2 &&& 31)))) (ty := .int) (C := RX2) (T := TX2) (N := 6) hx hb hts in_X2 tyX2 tyX2_ok nmX2 hown hK hP hD hS 0 rfl rfl 2 (by decide) hL26 (fun _ h9 => h9) rfl (by decide +kernel) rfl rfl (Nat.le_of_ble_eq_true rfl) dX2_take_119 (fun H locs hP hD hS => ?_)
    have hP : va_P (dC, dI) vwCl [(h_this, .inr (2, [.ref h_cells, .ref h_depths, .int (v_became ||| ((1 : Int32) <<< (x2 &&& 31))), .int v_items, .int v_inputs, .int v_muls])), (h_cells, .inl (k_cells, 96, .inl v_cells)), (h_depths, .inl (k_depths, 16, .inl v_depths))] H := hP
    have hD : va_D A [(h_this, .inr (2, [.ref h_cells, .ref h_depths, .int (v_became ||| ((1 : Int32) <<< (x2 &&& 31))), .int v_items, .int v_inputs, .int v_muls])), (h_cells, .inl (k_cells, 96, .inl v_cells)), (h_depths, .inl (k_depths, 16, .inl v_depths))] := hD
    refine lv_aload_n hx hb dX2_take_122 rfl (lv_at hl 0 rfl) ?_
    refine lv_dup hx hb dX2_take_123 rfl ?_
    refine va_get (D := (dC, dI)) (ci := 2) (v := .int v_items) (C := RX2) (T := TX2) (N := 6) hx hb hts in_X2 hown hK hP 0 rfl rfl 3 (by decide) hL18 (fun _ h9 => h9) rfl dX2_take_124 ?_
    refine lv_iconst (v := (1 : Int32)) hx hb dX2_take_127 (by decide) ?_
    refine lv_iadd hx hb dX2_take_128 ?_
    refine va_put (D := (dC, dI)) (ci := 2) (v := .int (v_items + (1 : Int32))) (ty := .int) (C := RX2) (T := TX2) (N := 6) hx hb hts in_X2 tyX2 tyX2_ok nmX2 hown hK hP hD hS 0 rfl rfl 3 (by decide) hL18 (fun _ h9 => h9) rfl (by decide +kernel) rfl rfl (Nat.le_of_ble_eq_true rfl) dX2_take_129 (fun H locs hP hD hS => ?_)
    have hP : va_P (dC, dI) vwCl [(h_this, .inr (2, [.ref h_cells, .ref h_depths, .int (v_became ||| ((1 : Int32) <<< (x2 &&& 31))), .int (v_items + (1 : Int32)), .int v_inputs, .int v_muls])), (h_cells, .inl (k_cells, 96, .inl v_cells)), (h_depths, .inl (k_depths, 16, .inl v_depths))] H := hP
    have hD : va_D A [(h_this, .inr (2, [.ref h_cells, .ref h_depths, .int (v_became ||| ((1 : Int32) <<< (x2 &&& 31))), .int (v_items + (1 : Int32)), .int v_inputs, .int v_muls])), (h_cells, .inl (k_cells, 96, .inl v_cells)), (h_depths, .inl (k_depths, 16, .inl v_depths))] := hD
    refine lv_iload_n hx hb dX2_take_132 rfl (lv_at hl 1 rfl) ?_
    refine lv_if_ne (tgt := 146) hx hb dX2_take_133 (by decide) (fun c_133 => ?_) (fun c_133 => ?_)
    · have hF := gi_f c_133 hF
      exact k_146 (v_became ||| ((1 : Int32) <<< (x2 &&& 31))) (v_items + (1 : Int32)) v_inputs v_muls v_cells v_depths _ _ _ hF hP hD hS (lv_sub hl [0, 1] rfl)
    · have hF := gi_t c_133 hF
      refine lv_aload_n hx hb dX2_take_136 rfl (lv_at hl 0 rfl) ?_
      refine lv_dup hx hb dX2_take_137 rfl ?_
      refine va_get (D := (dC, dI)) (ci := 2) (v := .int v_inputs) (C := RX2) (T := TX2) (N := 6) hx hb hts in_X2 hown hK hP 0 rfl rfl 4 (by decide) hL29 (fun _ h9 => h9) rfl dX2_take_138 ?_
      refine lv_iconst (v := (1 : Int32)) hx hb dX2_take_141 (by decide) ?_
      refine lv_iadd hx hb dX2_take_142 ?_
      refine va_put (D := (dC, dI)) (ci := 2) (v := .int (v_inputs + (1 : Int32))) (ty := .int) (C := RX2) (T := TX2) (N := 6) hx hb hts in_X2 tyX2 tyX2_ok nmX2 hown hK hP hD hS 0 rfl rfl 4 (by decide) hL29 (fun _ h9 => h9) rfl (by decide +kernel) rfl rfl (Nat.le_of_ble_eq_true rfl) dX2_take_143 (fun H locs hP hD hS => ?_)
      have hP : va_P (dC, dI) vwCl [(h_this, .inr (2, [.ref h_cells, .ref h_depths, .int (v_became ||| ((1 : Int32) <<< (x2 &&& 31))), .int (v_items + (1 : Int32)), .int (v_inputs + (1 : Int32)), .int v_muls])), (h_cells, .inl (k_cells, 96, .inl v_cells)), (h_depths, .inl (k_depths, 16, .inl v_depths))] H := hP
      have hD : va_D A [(h_this, .inr (2, [.ref h_cells, .ref h_depths, .int (v_became ||| ((1 : Int32) <<< (x2 &&& 31))), .int (v_items + (1 : Int32)), .int (v_inputs + (1 : Int32)), .int v_muls])), (h_cells, .inl (k_cells, 96, .inl v_cells)), (h_depths, .inl (k_depths, 16, .inl v_depths))] := hD
      exact k_146 (v_became ||| ((1 : Int32) <<< (x2 &&& 31))) (v_items + (1 : Int32)) (v_inputs + (1 : Int32)) v_muls v_cells v_depths _ _ _ hF hP hD hS (lv_sub hl [0, 1] rfl)
  unfold f_X2_take at hF
  refine lv_aload_n hx hb dX2_take_0 rfl (lv_at hl 0 rfl) ?_
  refine va_get (D := (dC, dI)) (ci := 2) (v := .int v_items) (C := RX2) (T := TX2) (N := 6) hx hb hts in_X2 hown hK hP 0 rfl rfl 3 (by decide) hL18 (fun _ h9 => h9) rfl dX2_take_1 ?_
  refine lv_bipush (v := (6 : Int32)) hx hb dX2_take_4 (by decide) ?_
  refine lv_imul hx hb dX2_take_6 ?_
  refine lv_istore (lv' := [(6, .int (v_items * (6 : Int32))), (0, .ref h_this), (1, .int x1), (2, .int x2), (3, .int x3), (4, .int x4), (5, .int x5)]) hx hb dX2_take_7 hl (by decide) rfl (fun ls hl => ?_)
  refine lv_aload_n hx hb dX2_take_9 rfl (lv_at hl 1 rfl) ?_
  refine lv_iload_n hx hb dX2_take_10 rfl (lv_at hl 2 rfl) ?_
  refine lv_iload_n hx hb dX2_take_11 rfl (lv_at hl 3 rfl) ?_
  refine lv_iload_n hx hb dX2_take_12 rfl (lv_at hl 4 rfl) ?_
  refine lv_iload hx hb dX2_take_13 (lv_at hl 5 rfl) ?_
  obtain ⟨z_15, hz_15, hF⟩ := gi_bind hF
  refine gRi (wc := [(h_this, .inr (2, [.ref h_cells, .ref h_depths, .int v_became, .int v_items, .int v_inputs, .int v_muls])), (h_depths, .inl (k_depths, 16, .inl v_depths))]) (wr := [(h_cells, .inl (k_cells, 96, .inl v_cells))]) (w1 := [(h_this, .inr (2, [.ref h_cells, .ref h_depths, .int v_became, .int v_items, .int v_inputs, .int v_muls])), (h_depths, .inl (k_depths, 16, .inl v_depths))]) hP hD hS hA [0, 2] [1] rfl rfl (by decide) (by decide) (va_runV (As := [.int x1, .int x2, .int x3, .int x4]) (rest := []) CF (t_X2_depthOf l dC dI h_this h_cells h_depths v_became v_items v_inputs v_muls k_depths v_depths s.heap.size x1 x2 x3 x4 N z_15 hz_15) cw39 (gPV (ci := 2) hP hD hK hN [0, 2] [1] (by decide) rfl rfl (q0 := 0) rfl rfl) rfl rfl hl.1 rfl (lv_room (Nat.le_of_ble_eq_true rfl)) dX2_take_15 ⟨Nat.zero_le _, Nat.zero_le _⟩) (fun H locs hP hD hS => ?_)
  have hP : va_P (dC, dI) vwCl [(h_cells, .inl (k_cells, 96, .inl v_cells)), (h_this, .inr (2, [.ref h_cells, .ref h_depths, .int v_became, .int v_items, .int v_inputs, .int v_muls])), (h_depths, .inl (k_depths, 16, .inl v_depths))] H := hP
  have hD : va_D A [(h_cells, .inl (k_cells, 96, .inl v_cells)), (h_this, .inr (2, [.ref h_cells, .ref h_depths, .int v_became, .int v_items, .int v_inputs, .int v_muls])), (h_depths, .inl (k_depths, 16, .inl v_depths))] := hD
  refine lv_istore (lv' := [(7, .int z_15), (6, .int (v_items * (6 : Int32))), (0, .ref h_this), (1, .int x1), (2, .int x2), (3, .int x3), (4, .int x4), (5, .int x5)]) hx hb dX2_take_18 hl (by decide) rfl (fun ls hl => ?_)
  refine lv_aload_n hx hb dX2_take_20 rfl (lv_at hl 2 rfl) ?_
  refine va_get (D := (dC, dI)) (ci := 2) (v := .ref h_cells) (C := RX2) (T := TX2) (N := 6) hx hb hts in_X2 hown hK hP 1 rfl rfl 0 (by decide) hL9 (fun _ h9 => h9) rfl dX2_take_21 ?_
  refine lv_iload hx hb dX2_take_24 (lv_at hl 1 rfl) ?_
  refine lv_iconst (v := (0 : Int32)) hx hb dX2_take_26 (by decide) ?_
  refine lv_iadd hx hb dX2_take_27 ?_
  refine lv_iload_n hx hb dX2_take_28 rfl (lv_at hl 3 rfl) ?_
  obtain ⟨z_29, hz_29, hF⟩ := gi_bind hF
  refine gRv (wc := [(h_cells, .inl (k_cells, 96, .inl v_cells))]) (wr := [(h_this, .inr (2, [.ref h_cells, .ref h_depths, .int v_became, .int v_items, .int v_inputs, .int v_muls])), (h_depths, .inl (k_depths, 16, .inl v_depths))]) (w1 := [(h_cells, .inl (k_cells, 96, .inl z_29))]) hP hD hS hA [0] [1, 2] rfl rfl (by decide) (by decide) (va_runSN (As := [.ref h_cells, .int ((v_items * (6 : Int32)) + (0 : Int32)), .int x1]) (rest := []) CF (t_X9_put l dC dI h_cells k_cells 96 v_cells H.size ((v_items * (6 : Int32)) + (0 : Int32)) x1 N z_29 hz_29) cw43 (gPS hP hD hK hN [0] [0] (by decide) rfl rfl) rfl rfl hl.1 rfl (lv_room (Nat.le_of_ble_eq_true rfl)) dX2_take_29 ⟨Nat.zero_le _, Nat.zero_le _⟩) (fun H locs hP hD hS => ?_)
  have hP : va_P (dC, dI) vwCl [(h_this, .inr (2, [.ref h_cells, .ref h_depths, .int v_became, .int v_items, .int v_inputs, .int v_muls])), (h_depths, .inl (k_depths, 16, .inl v_depths)), (h_cells, .inl (k_cells, 96, .inl z_29))] H := hP
  have hD : va_D A [(h_this, .inr (2, [.ref h_cells, .ref h_depths, .int v_became, .int v_items, .int v_inputs, .int v_muls])), (h_depths, .inl (k_depths, 16, .inl v_depths)), (h_cells, .inl (k_cells, 96, .inl z_29))] := hD
  refine lv_aload_n hx hb dX2_take_32 rfl (lv_at hl 2 rfl) ?_
  refine va_get (D := (dC, dI)) (ci := 2) (v := .ref h_cells) (C := RX2) (T := TX2) (N := 6) hx hb hts in_X2 hown hK hP 0 rfl rfl 0 (by decide) hL9 (fun _ h9 => h9) rfl dX2_take_33 ?_
  refine lv_iload hx hb dX2_take_36 (lv_at hl 1 rfl) ?_
  refine lv_iconst (v := (1 : Int32)) hx hb dX2_take_38 (by decide) ?_
  refine lv_iadd hx hb dX2_take_39 ?_
  refine lv_iload_n hx hb dX2_take_40 rfl (lv_at hl 4 rfl) ?_
  obtain ⟨z_41, hz_41, hF⟩ := gi_bind hF
  refine gRv (wc := [(h_cells, .inl (k_cells, 96, .inl z_29))]) (wr := [(h_this, .inr (2, [.ref h_cells, .ref h_depths, .int v_became, .int v_items, .int v_inputs, .int v_muls])), (h_depths, .inl (k_depths, 16, .inl v_depths))]) (w1 := [(h_cells, .inl (k_cells, 96, .inl z_41))]) hP hD hS hA [2] [0, 1] rfl rfl (by decide) (by decide) (va_runSN (As := [.ref h_cells, .int ((v_items * (6 : Int32)) + (1 : Int32)), .int x2]) (rest := []) CF (t_X9_put l dC dI h_cells k_cells 96 z_29 H.size ((v_items * (6 : Int32)) + (1 : Int32)) x2 N z_41 hz_41) cw43 (gPS hP hD hK hN [2] [0] (by decide) rfl rfl) rfl rfl hl.1 rfl (lv_room (Nat.le_of_ble_eq_true rfl)) dX2_take_41 ⟨Nat.zero_le _, Nat.zero_le _⟩) (fun H locs hP hD hS => ?_)
  have hP : va_P (dC, dI) vwCl [(h_this, .inr (2, [.ref h_cells, .ref h_depths, .int v_became, .int v_items, .int v_inputs, .int v_muls])), (h_depths, .inl (k_depths, 16, .inl v_depths)), (h_cells, .inl (k_cells, 96, .inl z_41))] H := hP
  have hD : va_D A [(h_this, .inr (2, [.ref h_cells, .ref h_depths, .int v_became, .int v_items, .int v_inputs, .int v_muls])), (h_depths, .inl (k_depths, 16, .inl v_depths)), (h_cells, .inl (k_cells, 96, .inl z_41))] := hD
  refine lv_aload_n hx hb dX2_take_44 rfl (lv_at hl 2 rfl) ?_
  refine va_get (D := (dC, dI)) (ci := 2) (v := .ref h_cells) (C := RX2) (T := TX2) (N := 6) hx hb hts in_X2 hown hK hP 0 rfl rfl 0 (by decide) hL9 (fun _ h9 => h9) rfl dX2_take_45 ?_
  refine lv_iload hx hb dX2_take_48 (lv_at hl 1 rfl) ?_
  refine lv_iconst (v := (2 : Int32)) hx hb dX2_take_50 (by decide) ?_
  refine lv_iadd hx hb dX2_take_51 ?_
  refine lv_iload_n hx hb dX2_take_52 rfl (lv_at hl 5 rfl) ?_
  obtain ⟨z_53, hz_53, hF⟩ := gi_bind hF
  refine gRv (wc := [(h_cells, .inl (k_cells, 96, .inl z_41))]) (wr := [(h_this, .inr (2, [.ref h_cells, .ref h_depths, .int v_became, .int v_items, .int v_inputs, .int v_muls])), (h_depths, .inl (k_depths, 16, .inl v_depths))]) (w1 := [(h_cells, .inl (k_cells, 96, .inl z_53))]) hP hD hS hA [2] [0, 1] rfl rfl (by decide) (by decide) (va_runSN (As := [.ref h_cells, .int ((v_items * (6 : Int32)) + (2 : Int32)), .int x3]) (rest := []) CF (t_X9_put l dC dI h_cells k_cells 96 z_41 H.size ((v_items * (6 : Int32)) + (2 : Int32)) x3 N z_53 hz_53) cw43 (gPS hP hD hK hN [2] [0] (by decide) rfl rfl) rfl rfl hl.1 rfl (lv_room (Nat.le_of_ble_eq_true rfl)) dX2_take_53 ⟨Nat.zero_le _, Nat.zero_le _⟩) (fun H locs hP hD hS => ?_)
  have hP : va_P (dC, dI) vwCl [(h_this, .inr (2, [.ref h_cells, .ref h_depths, .int v_became, .int v_items, .int v_inputs, .int v_muls])), (h_depths, .inl (k_depths, 16, .inl v_depths)), (h_cells, .inl (k_cells, 96, .inl z_53))] H := hP
  have hD : va_D A [(h_this, .inr (2, [.ref h_cells, .ref h_depths, .int v_became, .int v_items, .int v_inputs, .int v_muls])), (h_depths, .inl (k_depths, 16, .inl v_depths)), (h_cells, .inl (k_cells, 96, .inl z_53))] := hD
  refine lv_aload_n hx hb dX2_take_56 rfl (lv_at hl 2 rfl) ?_
  refine va_get (D := (dC, dI)) (ci := 2) (v := .ref h_cells) (C := RX2) (T := TX2) (N := 6) hx hb hts in_X2 hown hK hP 0 rfl rfl 0 (by decide) hL9 (fun _ h9 => h9) rfl dX2_take_57 ?_
  refine lv_iload hx hb dX2_take_60 (lv_at hl 1 rfl) ?_
  refine lv_iconst (v := (3 : Int32)) hx hb dX2_take_62 (by decide) ?_
  refine lv_iadd hx hb dX2_take_63 ?_
  refine lv_iload hx hb dX2_take_64 (lv_at hl 6 rfl) ?_
  obtain ⟨z_66, hz_66, hF⟩ := gi_bind hF
  refine gRv (wc := [(h_cells, .inl (k_cells, 96, .inl z_53))]) (wr := [(h_this, .inr (2, [.ref h_cells, .ref h_depths, .int v_became, .int v_items, .int v_inputs, .int v_muls])), (h_depths, .inl (k_depths, 16, .inl v_depths))]) (w1 := [(h_cells, .inl (k_cells, 96, .inl z_66))]) hP hD hS hA [2] [0, 1] rfl rfl (by decide) (by decide) (va_runSN (As := [.ref h_cells, .int ((v_items * (6 : Int32)) + (3 : Int32)), .int x4]) (rest := []) CF (t_X9_put l dC dI h_cells k_cells 96 z_53 H.size ((v_items * (6 : Int32)) + (3 : Int32)) x4 N z_66 hz_66) cw43 (gPS hP hD hK hN [2] [0] (by decide) rfl rfl) rfl rfl hl.1 rfl (lv_room (Nat.le_of_ble_eq_true rfl)) dX2_take_66 ⟨Nat.zero_le _, Nat.zero_le _⟩) (fun H locs hP hD hS => ?_)
  have hP : va_P (dC, dI) vwCl [(h_this, .inr (2, [.ref h_cells, .ref h_depths, .int v_became, .int v_items, .int v_inputs, .int v_muls])), (h_depths, .inl (k_depths, 16, .inl v_depths)), (h_cells, .inl (k_cells, 96, .inl z_66))] H := hP
  have hD : va_D A [(h_this, .inr (2, [.ref h_cells, .ref h_depths, .int v_became, .int v_items, .int v_inputs, .int v_muls])), (h_depths, .inl (k_depths, 16, .inl v_depths)), (h_cells, .inl (k_cells, 96, .inl z_66))] := hD
  refine lv_aload_n hx hb dX2_take_69 rfl (lv_at hl 2 rfl) ?_
  refine va_get (D := (dC, dI)) (ci := 2) (v := .ref h_cells) (C := RX2) (T := TX2) (N := 6) hx hb hts in_X2 hown hK hP 0 rfl rfl 0 (by decide) hL9 (fun _ h9 => h9) rfl dX2_take_70 ?_
  refine lv_iload hx hb dX2_take_73 (lv_at hl 1 rfl) ?_
  refine lv_iconst (v := (4 : Int32)) hx hb dX2_take_75 (by decide) ?_
  refine lv_iadd hx hb dX2_take_76 ?_
  refine lv_iload hx hb dX2_take_77 (lv_at hl 7 rfl) ?_
  obtain ⟨z_79, hz_79, hF⟩ := gi_bind hF
  refine gRv (wc := [(h_cells, .inl (k_cells, 96, .inl z_66))]) (wr := [(h_this, .inr (2, [.ref h_cells, .ref h_depths, .int v_became, .int v_items, .int v_inputs, .int v_muls])), (h_depths, .inl (k_depths, 16, .inl v_depths))]) (w1 := [(h_cells, .inl (k_cells, 96, .inl z_79))]) hP hD hS hA [2] [0, 1] rfl rfl (by decide) (by decide) (va_runSN (As := [.ref h_cells, .int ((v_items * (6 : Int32)) + (4 : Int32)), .int x5]) (rest := []) CF (t_X9_put l dC dI h_cells k_cells 96 z_66 H.size ((v_items * (6 : Int32)) + (4 : Int32)) x5 N z_79 hz_79) cw43 (gPS hP hD hK hN [2] [0] (by decide) rfl rfl) rfl rfl hl.1 rfl (lv_room (Nat.le_of_ble_eq_true rfl)) dX2_take_79 ⟨Nat.zero_le _, Nat.zero_le _⟩) (fun H locs hP hD hS => ?_)
  have hP : va_P (dC, dI) vwCl [(h_this, .inr (2, [.ref h_cells, .ref h_depths, .int v_became, .int v_items, .int v_inputs, .int v_muls])), (h_depths, .inl (k_depths, 16, .inl v_depths)), (h_cells, .inl (k_cells, 96, .inl z_79))] H := hP
  have hD : va_D A [(h_this, .inr (2, [.ref h_cells, .ref h_depths, .int v_became, .int v_items, .int v_inputs, .int v_muls])), (h_depths, .inl (k_depths, 16, .inl v_depths)), (h_cells, .inl (k_cells, 96, .inl z_79))] := hD
  refine lv_aload_n hx hb dX2_take_82 rfl (lv_at hl 2 rfl) ?_
  refine va_get (D := (dC, dI)) (ci := 2) (v := .ref h_cells) (C := RX2) (T := TX2) (N := 6) hx hb hts in_X2 hown hK hP 0 rfl rfl 0 (by decide) hL9 (fun _ h9 => h9) rfl dX2_take_83 ?_
  refine lv_iload hx hb dX2_take_86 (lv_at hl 1 rfl) ?_
  refine lv_iconst (v := (5 : Int32)) hx hb dX2_take_88 (by decide) ?_
  refine lv_iadd hx hb dX2_take_89 ?_
  refine lv_iload hx hb dX2_take_90 (lv_at hl 0 rfl) ?_
  obtain ⟨z_92, hz_92, hF⟩ := gi_bind hF
  refine gRv (wc := [(h_cells, .inl (k_cells, 96, .inl z_79))]) (wr := [(h_this, .inr (2, [.ref h_cells, .ref h_depths, .int v_became, .int v_items, .int v_inputs, .int v_muls])), (h_depths, .inl (k_depths, 16, .inl v_depths))]) (w1 := [(h_cells, .inl (k_cells, 96, .inl z_92))]) hP hD hS hA [2] [0, 1] rfl rfl (by decide) (by decide) (va_runSN (As := [.ref h_cells, .int ((v_items * (6 : Int32)) + (5 : Int32)), .int z_15]) (rest := []) CF (t_X9_put l dC dI h_cells k_cells 96 z_79 H.size ((v_items * (6 : Int32)) + (5 : Int32)) z_15 N z_92 hz_92) cw43 (gPS hP hD hK hN [2] [0] (by decide) rfl rfl) rfl rfl hl.1 rfl (lv_room (Nat.le_of_ble_eq_true rfl)) dX2_take_92 ⟨Nat.zero_le _, Nat.zero_le _⟩) (fun H locs hP hD hS => ?_)
  have hP : va_P (dC, dI) vwCl [(h_this, .inr (2, [.ref h_cells, .ref h_depths, .int v_became, .int v_items, .int v_inputs, .int v_muls])), (h_depths, .inl (k_depths, 16, .inl v_depths)), (h_cells, .inl (k_cells, 96, .inl z_92))] H := hP
  have hD : va_D A [(h_this, .inr (2, [.ref h_cells, .ref h_depths, .int v_became, .int v_items, .int v_inputs, .int v_muls])), (h_depths, .inl (k_depths, 16, .inl v_depths)), (h_cells, .inl (k_cells, 96, .inl z_92))] := hD
  refine lv_iload_n hx hb dX2_take_95 rfl (lv_at hl 3 rfl) ?_
  refine lv_iconst (v := (5 : Int32)) hx hb dX2_take_96 (by decide) ?_
  refine lv_icmp_eq (tgt := 110) hx hb dX2_take_97 (by decide) (fun c_97 => ?_) (fun c_97 => ?_)
  · have hF := gi_t c_97 hF
    exact k_110 v_became v_items v_inputs v_muls z_92 v_depths _ _ _ hF (hP.sub [0, 2, 1] rfl) (hD.sub [0, 2, 1] (by decide) rfl) hS (lv_sub hl [2, 3, 4] rfl)
  · have hF := gi_f c_97 hF
    refine lv_aload_n hx hb dX2_take_100 rfl (lv_at hl 2 rfl) ?_
    refine va_get (D := (dC, dI)) (ci := 2) (v := .ref h_depths) (C := RX2) (T := TX2) (N := 6) hx hb hts in_X2 hown hK hP 0 rfl rfl 1 (by decide) hL15 (fun _ h9 => h9) rfl dX2_take_101 ?_
    refine lv_iload_n hx hb dX2_take_104 rfl (lv_at hl 4 rfl) ?_
    refine lv_iload hx hb dX2_take_105 (lv_at hl 0 rfl) ?_
    obtain ⟨z_107, hz_107, hF⟩ := gi_bind hF
    refine gRv (wc := [(h_depths, .inl (k_depths, 16, .inl v_depths))]) (wr := [(h_this, .inr (2, [.ref h_cells, .ref h_depths, .int v_became, .int v_items, .int v_inputs, .int v_muls])), (h_cells, .inl (k_cells, 96, .inl z_92))]) (w1 := [(h_depths, .inl (k_depths, 16, .inl z_107))]) hP hD hS hA [1] [0, 2] rfl rfl (by decide) (by decide) (va_runSN (As := [.ref h_depths, .int x2, .int z_15]) (rest := []) CF (t_X9_put l dC dI h_depths k_depths 16 v_depths H.size x2 z_15 N z_107 hz_107) cw43 (gPS hP hD hK hN [1] [1] (by decide) rfl rfl) rfl rfl hl.1 rfl (lv_room (Nat.le_of_ble_eq_true rfl)) dX2_take_107 ⟨Nat.zero_le _, Nat.zero_le _⟩) (fun H locs hP hD hS => ?_)
    have hP : va_P (dC, dI) vwCl [(h_this, .inr (2, [.ref h_cells, .ref h_depths, .int v_became, .int v_items, .int v_inputs, .int v_muls])), (h_cells, .inl (k_cells, 96, .inl z_92)), (h_depths, .inl (k_depths, 16, .inl z_107))] H := hP
    have hD : va_D A [(h_this, .inr (2, [.ref h_cells, .ref h_depths, .int v_became, .int v_items, .int v_inputs, .int v_muls])), (h_cells, .inl (k_cells, 96, .inl z_92)), (h_depths, .inl (k_depths, 16, .inl z_107))] := hD
    exact k_110 v_became v_items v_inputs v_muls z_92 z_107 _ _ _ hF hP hD hS (lv_sub hl [2, 3, 4] rfl)
abbrev O_X2_become : Type := Int32 × Int32 × Int32 × Int32 × (Nat → Int32) × (Nat → Int32)
def f_X2_become_62 (N : Nat) (v_a1_became : Int32) (v_a1_items : Int32) (v_a1_inputs : Int32) (v_a1_muls : Int32) (v_a1_cells : Nat → Int32) (v_a1_depths : Nat → Int32) (v_became : Int32) (v_items : Int32) (v_inputs : Int32) (v_muls : Int32) (v_cells : Nat → Int32) (v_depths : Nat → Int32) : Option O_X2_become :=
  some (v_a1_became, v_a1_items, v_a1_inputs, v_a1_muls, v_cells, v_depths)
def s_X2_become_33 (N : Nat) (v_a1_became : Int32) (v_a1_items : Int32) (v_a1_inputs : Int32) (v_a1_muls : Int32) (v_a1_cells : Nat → Int32) (v_a1_depths : Nat → Int32) (r_33 : Int32 → Int32 → Int32 → Int32 → (Nat → Int32) → (Nat → Int32) → Int32 → Option O_X2_become) (v_became : Int32) (v_items : Int32) (v_inputs : Int32) (v_muls : Int32) (v_cells : Nat → Int32) (v_depths : Nat → Int32) (y2 : Int32) : Option O_X2_become :=
  if (16 : Int32) ≤ y2 then (f_X2_become_62 N v_a1_became v_a1_items v_a1_inputs v_a1_muls v_a1_cells v_a1_depths v_became v_items v_inputs v_muls v_cells v_depths) else ((f_X9_at N v_a1_depths 16 y2).bind (fun z_52 => if gin y2 16 = true then r_33 v_became v_items v_inputs v_muls v_cells (upd v_depths y2.toNatClampNeg z_52) (y2 + 1) else none))
def f_X2_become_33 (N : Nat) (v_a1_became : Int32) (v_a1_items : Int32) (v_a1_inputs : Int32) (v_a1_muls : Int32) (v_a1_cells : Nat → Int32) (v_a1_depths : Nat → Int32) (n : Nat) : Int32 → Int32 → Int32 → Int32 → (Nat → Int32) → (Nat → Int32) → Int32 → Option O_X2_become := lpg (fun _ _ _ _ _ _ _ => none) (s_X2_become_33 N v_a1_became v_a1_items v_a1_inputs v_a1_muls v_a1_cells v_a1_depths) n
def s_X2_become_2 (N : Nat) (v_a1_became : Int32) (v_a1_items : Int32) (v_a1_inputs : Int32) (v_a1_muls : Int32) (v_a1_cells : Nat → Int32) (v_a1_depths : Nat → Int32) (r_2 : Int32 → Int32 → Int32 → Int32 → (Nat → Int32) → (Nat → Int32) → Int32 → Option O_X2_become) (v_became : Int32) (v_items : Int32) (v_inputs : Int32) (v_muls : Int32) (v_cells : Nat → Int32) (v_depths : Nat → Int32) (y2 : Int32) : Option O_X2_become :=
  if (96 : Int32) ≤ y2 then (f_X2_become_33 N v_a1_became v_a1_items v_a1_inputs v_a1_muls v_a1_cells v_a1_depths N v_became v_items v_inputs v_muls v_cells v_depths (0 : Int32)) else ((f_X9_at N v_a1_cells 96 y2).bind (fun z_21 => if gin y2 96 = true then r_2 v_became v_items v_inputs v_muls (upd v_cells y2.toNatClampNeg z_21) v_depths (y2 + 1) else none))
def f_X2_become_2 (N : Nat) (v_a1_became : Int32) (v_a1_items : Int32) (v_a1_inputs : Int32) (v_a1_muls : Int32) (v_a1_cells : Nat → Int32) (v_a1_depths : Nat → Int32) (n : Nat) : Int32 → Int32 → Int32 → Int32 → (Nat → Int32) → (Nat → Int32) → Int32 → Option O_X2_become := lpg (fun _ _ _ _ _ _ _ => none) (s_X2_become_2 N v_a1_became v_a1_items v_a1_inputs v_a1_muls v_a1_cells v_a1_depths) n
def f_X2_become (N : Nat) (v_a1_became : Int32) (v_a1_items : Int32) (v_a1_inputs : Int32) (v_a1_muls : Int32) (v_a1_cells : Nat → Int32) (v_a1_depths : Nat → Int32) (v_became : Int32) (v_items : Int32) (v_inputs : Int32) (v_muls : Int32) (v_cells : Nat → Int32) (v_depths : Nat → Int32) : Option O_X2_become :=
  f_X2_become_2 N v_a1_became v_a1_items v_a1_inputs v_a1_muls v_a1_cells v_a1_depths N v_became v_items v_inputs v_muls v_cells v_depths (0 : Int32)
set_option maxHeartbeats 4000000 in
set_option maxRecDepth 100000 in
theorem t_X2_become (l : Launch) (dC : Nat → ClassId) (dI : Nat → Nat → Nat) (h_this : Nat) (h_cells : Nat) (h_depths : Nat) (v_became : Int32) (v_items : Int32) (v_inputs : Int32) (v_muls : Int32) (k_cells : ClassId) (v_cells : Nat → Int32) (k_depths : ClassId) (v_depths : Nat → Int32) (h_a1 : Nat) (h_a1_cells : Nat) (h_a1_depths : Nat) (v_a1_became : Int32) (v_a1_items : Int32) (v_a1_inputs : Int32) (v_a1_muls : Int32) (k_a1_cells : ClassId) (v_a1_cells : Nat → Int32) (k_a1_depths : ClassId) (v_a1_depths : Nat → Int32) (sz : Nat) (N : Nat) (out : O_X2_become) (hF : f_X2_become N v_a1_became v_a1_items v_a1_inputs v_a1_muls v_a1_cells v_a1_depths v_became v_items v_inputs v_muls v_cells v_depths = some out) : gMv l yX2_become wsX2_become ({ frames := 1, cells := 0, slots := 0, locals := 21 } : Room) [.ref h_this, .ref h_a1] (dC, dI) [(h_this, .inr (2, [.ref h_cells, .ref h_depths, .int v_became, .int v_items, .int v_inputs, .int v_muls])), (h_cells, .inl (k_cells, 96, .inl v_cells)), (h_depths, .inl (k_depths, 16, .inl v_depths)), (h_a1, .inr (2, [.ref h_a1_cells, .ref h_a1_depths, .int v_a1_became, .int v_a1_items, .int v_a1_inputs, .int v_a1_muls])), (h_a1_cells, .inl (k_a1_cells, 96, .inl v_a1_cells)), (h_a1_depths, .inl (k_a1_depths, 16, .inl v_a1_depths))] [(k_cells, .int), (k_depths, .int), (k_a1_cells, .int), (k_a1_depths, .int)] sz [(h_this, .inr (2, [.ref h_cells, .ref h_depths, .int out.1, .int out.2.1, .int out.2.2.1, .int out.2.2.2.1])), (h_cells, .inl (k_cells, 96, .inl out.2.2.2.2.1)), (h_depths, .inl (k_depths, 16, .inl out.2.2.2.2.2)), (h_a1, .inr (2, [.ref h_a1_cells, .ref h_a1_depths, .int v_a1_became, .int v_a1_items, .int v_a1_inputs, .int v_a1_muls])), (h_a1_cells, .inl (k_a1_cells, 96, .inl v_a1_cells)), (h_a1_depths, .inl (k_a1_depths, 16, .inl v_a1_depths))] := by
  refine gEv (cc := cX2_become) (maxL := 3) (by decide) rfl (Nat.le_of_ble_eq_true rfl) ?_
  intro p e s m args below meth c Q A ls CF hK hN hA hret hP hD hS hl
  have hx := CF.1
  have hb := CF.2.1
  have hml := CF.2.2.1
  have hown : s.vm.findClass RX2 = some m.cls := CF.2.2.2.1
  have hts := CF.2.2.2.2
  have hl : lv_has ls 3 [(0, .ref h_this), (1, .ref h_a1)] := hl
  have in_X2 : ∀ w ∈ wsX20, w ∈ wsX2_become := fun w h => List.mem_cons_of_mem _ (List.mem_append_right _ h)
  have hL9 : (Cond.fieldLink RX2 9 "DustSums$Program" "cells" "[I").before args s = true := hts (.fieldLink RX2 9 "DustSums$Program" "cells" "[I") (List.mem_of_getElem? (i := 1) rfl)
  have hL15 : (Cond.fieldLink RX2 15 "DustSums$Program" "depths" "[I").before args s = true := hts (.fieldLink RX2 15 "DustSums$Program" "depths" "[I") (List.mem_of_getElem? (i := 2) rfl)
  have hL26 : (Cond.fieldLink RX2 26 "DustSums$Program" "became" "I").before args s = true := hts (.fieldLink RX2 26 "DustSums$Program" "became" "I") (List.mem_of_getElem? (i := 3) rfl)
  have hL18 : (Cond.fieldLink RX2 18 "DustSums$Program" "items" "I").before args s = true := hts (.fieldLink RX2 18 "DustSums$Program" "items" "I") (List.mem_of_getElem? (i := 4) rfl)
  have hL29 : (Cond.fieldLink RX2 29 "DustSums$Program" "inputs" "I").before args s = true := hts (.fieldLink RX2 29 "DustSums$Program" "inputs" "I") (List.mem_of_getElem? (i := 5) rfl)
  have hL32 : (Cond.fieldLink RX2 32 "DustSums$Program" "muls" "I").before args s = true := hts (.fieldLink RX2 32 "DustSums$Program" "muls" "I") (List.mem_of_getElem? (i := 6) rfl)
  have nm22 : va_Nw (.methodLinkNest RX2 22 yX9_at "DustSums") s := hN.2 (RX2, 22, yX9_at, "DustSums") (by decide +kernel)
  have cw22 : va_CN ({ frames := 1, cells := 0, slots := 0, locals := 21 } : Room) s args RX2 22 yX9_at "DustSums" cX9_at 2 (some .int) wsX9_at ({ frames := 0, cells := 0, slots := 0, locals := 0 } : Room) 0 0 2 ∧ (Cond.static yX9_at).before args s = true ∧ True := ⟨va_cnB 2 hts gX2_become_X9_at_n22 rfl rfl rfl nm22 (hts (.initialized RX9) (List.mem_of_getElem? (i := 8) rfl)) (by decide +kernel) ⟨Nat.le_of_ble_eq_true rfl, Nat.le_of_ble_eq_true rfl⟩, hts (.static yX9_at) (List.mem_of_getElem? (i := 7) rfl), trivial⟩
  have k_62 : ∀ (v_became : Int32) (v_items : Int32) (v_inputs : Int32) (v_muls : Int32) (v_cells : Nat → Int32) (v_depths : Nat → Int32) (H : Heap) (locs : List Loc) (ls : Array Slot), f_X2_become_62 N v_a1_became v_a1_items v_a1_inputs v_a1_muls v_a1_cells v_a1_depths v_became v_items v_inputs v_muls v_cells v_depths = some out → va_P (dC, dI) vwCl [(h_this, .inr (2, [.ref h_cells, .ref h_depths, .int v_became, .int v_items, .int v_inputs, .int v_muls])), (h_cells, .inl (k_cells, 96, .inl v_cells)), (h_depths, .inl (k_depths, 16, .inl v_depths)), (h_a1, .inr (2, [.ref h_a1_cells, .ref h_a1_depths, .int v_a1_became, .int v_a1_items, .int v_a1_inputs, .int v_a1_muls])), (h_a1_cells, .inl (k_a1_cells, 96, .inl v_a1_cells)), (h_a1_depths, .inl (k_a1_depths, 16, .inl v_a1_depths))] H → va_D A [(h_this, .inr (2, [.ref h_cells, .ref h_depths, .int v_became, .int v_items, .int v_inputs, .int v_muls])), (h_cells, .inl (k_cells, 96, .inl v_cells)), (h_depths, .inl (k_depths, 16, .inl v_depths)), (h_a1, .inr (2, [.ref h_a1_cells, .ref h_a1_depths, .int v_a1_became, .int v_a1_items, .int v_a1_inputs, .int v_a1_muls])), (h_a1_cells, .inl (k_a1_cells, 96, .inl v_a1_cells)), (h_a1_depths, .inl (k_a1_depths, 16, .inl v_a1_depths))] → va_S A s.heap H locs → lv_has ls 3 [(0, .ref h_this), (1, .ref h_a1)] → W p l e ({ frames := 1, cells := 0, slots := 0, locals := 21 } : Room) s m args below meth c H locs 0 0 Q (F0 m 62 ls []) := by
    intro v_became v_items v_inputs v_muls v_cells v_depths H locs ls hF hP hD hS hl
    unfold f_X2_become_62 at hF
    refine lv_aload_n hx hb dX2_become_62 rfl (lv_at hl 0 rfl) ?_
    refine lv_aload_n hx hb dX2_become_63 rfl (lv_at hl 1 rfl) ?_
    refine va_get (D := (dC, dI)) (ci := 2) (v := .int v_a1_became) (C := RX2) (T := TX2) (N := 6) hx hb hts in_X2 hown hK hP 3 rfl rfl 2 (by decide) hL26 (fun _ h9 => h9) rfl dX2_become_64 ?_
    refine va_put (D := (dC, dI)) (ci := 2) (v := .int v_a1_became) (ty := .int) (C := RX2) (T := TX2) (N := 6) hx hb hts in_X2 tyX2 tyX2_ok nmX2 hown hK hP hD hS 0 rfl rfl 2 (by decide) hL26 (fun _ h9 => h9) rfl (by decide +kernel) rfl rfl (Nat.le_of_ble_eq_true rfl) dX2_become_67 (fun H locs hP hD hS => ?_)
    have hP : va_P (dC, dI) vwCl [(h_this, .inr (2, [.ref h_cells, .ref h_depths, .int v_a1_became, .int v_items, .int v_inputs, .int v_muls])), (h_cells, .inl (k_cells, 96, .inl v_cells)), (h_depths, .inl (k_depths, 16, .inl v_depths)), (h_a1, .inr (2, [.ref h_a1_cells, .ref h_a1_depths, .int v_a1_became, .int v_a1_items, .int v_a1_inputs, .int v_a1_muls])), (h_a1_cells, .inl (k_a1_cells, 96, .inl v_a1_cells)), (h_a1_depths, .inl (k_a1_depths, 16, .inl v_a1_depths))] H := hP
    have hD : va_D A [(h_this, .inr (2, [.ref h_cells, .ref h_depths, .int v_a1_became, .int v_items, .int v_inputs, .int v_muls])), (h_cells, .inl (k_cells, 96, .inl v_cells)), (h_depths, .inl (k_depths, 16, .inl v_depths)), (h_a1, .inr (2, [.ref h_a1_cells, .ref h_a1_depths, .int v_a1_became, .int v_a1_items, .int v_a1_inputs, .int v_a1_muls])), (h_a1_cells, .inl (k_a1_cells, 96, .inl v_a1_cells)), (h_a1_depths, .inl (k_a1_depths, 16, .inl v_a1_depths))] := hD
    refine lv_aload_n hx hb dX2_become_70 rfl (lv_at hl 0 rfl) ?_
    refine lv_aload_n hx hb dX2_become_71 rfl (lv_at hl 1 rfl) ?_
    refine va_get (D := (dC, dI)) (ci := 2) (v := .int v_a1_items) (C := RX2) (T := TX2) (N := 6) hx hb hts in_X2 hown hK hP 3 rfl rfl 3 (by decide) hL18 (fun _ h9 => h9) rfl dX2_become_72 ?_
    refine va_put (D := (dC, dI)) (ci := 2) (v := .int v_a1_items) (ty := .int) (C := RX2) (T := TX2) (N := 6) hx hb hts in_X2 tyX2 tyX2_ok nmX2 hown hK hP hD hS 0 rfl rfl 3 (by decide) hL18 (fun _ h9 => h9) rfl (by decide +kernel) rfl rfl (Nat.le_of_ble_eq_true rfl) dX2_become_75 (fun H locs hP hD hS => ?_)
    have hP : va_P (dC, dI) vwCl [(h_this, .inr (2, [.ref h_cells, .ref h_depths, .int v_a1_became, .int v_a1_items, .int v_inputs, .int v_muls])), (h_cells, .inl (k_cells, 96, .inl v_cells)), (h_depths, .inl (k_depths, 16, .inl v_depths)), (h_a1, .inr (2, [.ref h_a1_cells, .ref h_a1_depths, .int v_a1_became, .int v_a1_items, .int v_a1_inputs, .int v_a1_muls])), (h_a1_cells, .inl (k_a1_cells, 96, .inl v_a1_cells)), (h_a1_depths, .inl (k_a1_depths, 16, .inl v_a1_depths))] H := hP
    have hD : va_D A [(h_this, .inr (2, [.ref h_cells, .ref h_depths, .int v_a1_became, .int v_a1_items, .int v_inputs, .int v_muls])), (h_cells, .inl (k_cells, 96, .inl v_cells)), (h_depths, .inl (k_depths, 16, .inl v_depths)), (h_a1, .inr (2, [.ref h_a1_cells, .ref h_a1_depths, .int v_a1_became, .int v_a1_items, .int v_a1_inputs, .int v_a1_muls])), (h_a1_cells, .inl (k_a1_cells, 96, .inl v_a1_cells)), (h_a1_depths, .inl (k_a1_depths, 16, .inl v_a1_depths))] := hD
    refine lv_aload_n hx hb dX2_become_78 rfl (lv_at hl 0 rfl) ?_
    refine lv_aload_n hx hb dX2_become_79 rfl (lv_at hl 1 rfl) ?_
    refine va_get (D := (dC, dI)) (ci := 2) (v := .int v_a1_inputs) (C := RX2) (T := TX2) (N := 6) hx hb hts in_X2 hown hK hP 3 rfl rfl 4 (by decide) hL29 (fun _ h9 => h9) rfl dX2_become_80 ?_
    refine va_put (D := (dC, dI)) (ci := 2) (v := .int v_a1_inputs) (ty := .int) (C := RX2) (T := TX2) (N := 6) hx hb hts in_X2 tyX2 tyX2_ok nmX2 hown hK hP hD hS 0 rfl rfl 4 (by decide) hL29 (fun _ h9 => h9) rfl (by decide +kernel) rfl rfl (Nat.le_of_ble_eq_true rfl) dX2_become_83 (fun H locs hP hD hS => ?_)
    have hP : va_P (dC, dI) vwCl [(h_this, .inr (2, [.ref h_cells, .ref h_depths, .int v_a1_became, .int v_a1_items, .int v_a1_inputs, .int v_muls])), (h_cells, .inl (k_cells, 96, .inl v_cells)), (h_depths, .inl (k_depths, 16, .inl v_depths)), (h_a1, .inr (2, [.ref h_a1_cells, .ref h_a1_depths, .int v_a1_became, .int v_a1_items, .int v_a1_inputs, .int v_a1_muls])), (h_a1_cells, .inl (k_a1_cells, 96, .inl v_a1_cells)), (h_a1_depths, .inl (k_a1_depths, 16, .inl v_a1_depths))] H := hP
    have hD : va_D A [(h_this, .inr (2, [.ref h_cells, .ref h_depths, .int v_a1_became, .int v_a1_items, .int v_a1_inputs, .int v_muls])), (h_cells, .inl (k_cells, 96, .inl v_cells)), (h_depths, .inl (k_depths, 16, .inl v_depths)), (h_a1, .inr (2, [.ref h_a1_cells, .ref h_a1_depths, .int v_a1_became, .int v_a1_items, .int v_a1_inputs, .int v_a1_muls])), (h_a1_cells, .inl (k_a1_cells, 96, .inl v_a1_cells)), (h_a1_depths, .inl (k_a1_depths, 16, .inl v_a1_depths))] := hD
    refine lv_aload_n hx hb dX2_become_86 rfl (lv_at hl 0 rfl) ?_
    refine lv_aload_n hx hb dX2_become_87 rfl (lv_at hl 1 rfl) ?_
    refine va_get (D := (dC, dI)) (ci := 2) (v := .int v_a1_muls) (C := RX2) (T := TX2) (N := 6) hx hb hts in_X2 hown hK hP 3 rfl rfl 5 (by decide) hL32 (fun _ h9 => h9) rfl dX2_become_88 ?_
    refine va_put (D := (dC, dI)) (ci := 2) (v := .int v_a1_muls) (ty := .int) (C := RX2) (T := TX2) (N := 6) hx hb hts in_X2 tyX2 tyX2_ok nmX2 hown hK hP hD hS 0 rfl rfl 5 (by decide) hL32 (fun _ h9 => h9) rfl (by decide +kernel) rfl rfl (Nat.le_of_ble_eq_true rfl) dX2_become_91 (fun H locs hP hD hS => ?_)
    have hP : va_P (dC, dI) vwCl [(h_this, .inr (2, [.ref h_cells, .ref h_depths, .int v_a1_became, .int v_a1_items, .int v_a1_inputs, .int v_a1_muls])), (h_cells, .inl (k_cells, 96, .inl v_cells)), (h_depths, .inl (k_depths, 16, .inl v_depths)), (h_a1, .inr (2, [.ref h_a1_cells, .ref h_a1_depths, .int v_a1_became, .int v_a1_items, .int v_a1_inputs, .int v_a1_muls])), (h_a1_cells, .inl (k_a1_cells, 96, .inl v_a1_cells)), (h_a1_depths, .inl (k_a1_depths, 16, .inl v_a1_depths))] H := hP
    have hD : va_D A [(h_this, .inr (2, [.ref h_cells, .ref h_depths, .int v_a1_became, .int v_a1_items, .int v_a1_inputs, .int v_a1_muls])), (h_cells, .inl (k_cells, 96, .inl v_cells)), (h_depths, .inl (k_depths, 16, .inl v_depths)), (h_a1, .inr (2, [.ref h_a1_cells, .ref h_a1_depths, .int v_a1_became, .int v_a1_items, .int v_a1_inputs, .int v_a1_muls])), (h_a1_cells, .inl (k_a1_cells, 96, .inl v_a1_cells)), (h_a1_depths, .inl (k_a1_depths, 16, .inl v_a1_depths))] := hD
    have hF := Option.some.inj hF
    subst hF
    exact hret _ _ _ _ dX2_become_94 hP hD hS
  have k_33 : ∀ (n : Nat) (v_became : Int32) (v_items : Int32) (v_inputs : Int32) (v_muls : Int32) (v_cells : Nat → Int32) (v_depths : Nat → Int32) (y2 : Int32) (H : Heap) (locs : List Loc) (ls : Array Slot), f_X2_become_33 N v_a1_became v_a1_items v_a1_inputs v_a1_muls v_a1_cells v_a1_depths n v_became v_items v_inputs v_muls v_cells v_depths y2 = some out → va_P (dC, dI) vwCl [(h_this, .inr (2, [.ref h_cells, .ref h_depths, .int v_became, .int v_items, .int v_inputs, .int v_muls])), (h_cells, .inl (k_cells, 96, .inl v_cells)), (h_depths, .inl (k_depths, 16, .inl v_depths)), (h_a1, .inr (2, [.ref h_a1_cells, .ref h_a1_depths, .int v_a1_became, .int v_a1_items, .int v_a1_inputs, .int v_a1_muls])), (h_a1_cells, .inl (k_a1_cells, 96, .inl v_a1_cells)), (h_a1_depths, .inl (k_a1_depths, 16, .inl v_a1_depths))] H → va_D A [(h_this, .inr (2, [.ref h_cells, .ref h_depths, .int v_became, .int v_items, .int v_inputs, .int v_muls])), (h_cells, .inl (k_cells, 96, .inl v_cells)), (h_depths, .inl (k_depths, 16, .inl v_depths)), (h_a1, .inr (2, [.ref h_a1_cells, .ref h_a1_depths, .int v_a1_became, .int v_a1_items, .int v_a1_inputs, .int v_a1_muls])), (h_a1_cells, .inl (k_a1_cells, 96, .inl v_a1_cells)), (h_a1_depths, .inl (k_a1_depths, 16, .inl v_a1_depths))] → va_S A s.heap H locs → lv_has ls 3 [(0, .ref h_this), (1, .ref h_a1), (2, .int y2)] → W p l e ({ frames := 1, cells := 0, slots := 0, locals := 21 } : Room) s m args below meth c H locs 0 0 Q (F0 m 33 ls []) := by
    intro n
    induction n with
    | zero =>
      intro v_became v_items v_inputs v_muls v_cells v_depths y2 H locs ls hF
      have hF : (none : Option O_X2_become) = some out := hF
      cases hF
    | succ n ih =>
      intro v_became v_items v_inputs v_muls v_cells v_depths y2 H locs ls hF hP hD hS hl
      have hF : s_X2_become_33 N v_a1_became v_a1_items v_a1_inputs v_a1_muls v_a1_cells v_a1_depths (f_X2_become_33 N v_a1_became v_a1_items v_a1_inputs v_a1_muls v_a1_cells v_a1_depths n) v_became v_items v_inputs v_muls v_cells v_depths y2 = some out := hF
      generalize f_X2_become_33 N v_a1_became v_a1_items v_a1_inputs v_a1_muls v_a1_cells v_a1_depths n = r_33 at hF ih
      have g_33 : ∀ (v_became : Int32) (v_items : Int32) (v_inputs : Int32) (v_muls : Int32) (v_cells : Nat → Int32) (v_depths : Nat → Int32) (y2 : Int32) (H : Heap) (locs : List Loc) (ls : Array Slot), r_33 v_became v_items v_inputs v_muls v_cells v_depths y2 = some out → va_P (dC, dI) vwCl [(h_this, .inr (2, [.ref h_cells, .ref h_depths, .int v_became, .int v_items, .int v_inputs, .int v_muls])), (h_cells, .inl (k_cells, 96, .inl v_cells)), (h_depths, .inl (k_depths, 16, .inl v_depths)), (h_a1, .inr (2, [.ref h_a1_cells, .ref h_a1_depths, .int v_a1_became, .int v_a1_items, .int v_a1_inputs, .int v_a1_muls])), (h_a1_cells, .inl (k_a1_cells, 96, .inl v_a1_cells)), (h_a1_depths, .inl (k_a1_depths, 16, .inl v_a1_depths))] H → va_D A [(h_this, .inr (2, [.ref h_cells, .ref h_depths, .int v_became, .int v_items, .int v_inputs, .int v_muls])), (h_cells, .inl (k_cells, 96, .inl v_cells)), (h_depths, .inl (k_depths, 16, .inl v_depths)), (h_a1, .inr (2, [.ref h_a1_cells, .ref h_a1_depths, .int v_a1_became, .int v_a1_items, .int v_a1_inputs, .int v_a1_muls])), (h_a1_cells, .inl (k_a1_cells, 96, .inl v_a1_cells)), (h_a1_depths, .inl (k_a1_depths, 16, .inl v_a1_depths))] → va_S A s.heap H locs → lv_has ls 3 [(0, .ref h_this), (1, .ref h_a1), (2, .int y2)] → W p l e ({ frames := 1, cells := 0, slots := 0, locals := 21 } : Room) s m args below meth c H locs 0 0 Q (F0 m 33 ls []) := ih
      clear ih
      unfold s_X2_become_33 at hF
      refine lv_iload_n hx hb dX2_become_33 rfl (lv_at hl 2 rfl) ?_
      refine lv_aload_n hx hb dX2_become_34 rfl (lv_at hl 0 rfl) ?_
      refine va_get (D := (dC, dI)) (ci := 2) (v := .ref h_depths) (C := RX2) (T := TX2) (N := 6) hx hb hts in_X2 hown hK hP 0 rfl rfl 1 (by decide) hL15 (fun _ h9 => h9) rfl dX2_become_35 ?_
      refine va_alen (v := (16 : Int32)) hx hb hK hP 2 1 rfl rfl rfl dX2_become_38 ?_
      refine lv_icmp_ge (tgt := 62) hx hb dX2_become_39 (by decide) (fun c_39 => ?_) (fun c_39 => ?_)
      · have hF := gi_t c_39 hF
        exact k_62 v_became v_items v_inputs v_muls v_cells v_depths _ _ _ hF hP hD hS (lv_sub hl [0, 1] rfl)
      · have hF := gi_f c_39 hF
        refine lv_aload_n hx hb dX2_become_42 rfl (lv_at hl 0 rfl) ?_
        refine va_get (D := (dC, dI)) (ci := 2) (v := .ref h_depths) (C := RX2) (T := TX2) (N := 6) hx hb hts in_X2 hown hK hP 0 rfl rfl 1 (by decide) hL15 (fun _ h9 => h9) rfl dX2_become_43 ?_
        refine lv_iload_n hx hb dX2_become_46 rfl (lv_at hl 2 rfl) ?_
        refine lv_aload_n hx hb dX2_become_47 rfl (lv_at hl 1 rfl) ?_
        refine va_get (D := (dC, dI)) (ci := 2) (v := .ref h_a1_depths) (C := RX2) (T := TX2) (N := 6) hx hb hts in_X2 hown hK hP 3 rfl rfl 1 (by decide) hL15 (fun _ h9 => h9) rfl dX2_become_48 ?_
        refine lv_iload_n hx hb dX2_become_51 rfl (lv_at hl 2 rfl) ?_
        obtain ⟨z_52, hz_52, hF⟩ := gi_bind hF
        refine gRi (wc := [(h_a1_depths, .inl (k_a1_depths, 16, .inl v_a1_depths))]) (wr := [(h_this, .inr (2, [.ref h_cells, .ref h_depths, .int v_became, .int v_items, .int v_inputs, .int v_muls])), (h_cells, .inl (k_cells, 96, .inl v_cells)), (h_depths, .inl (k_depths, 16, .inl v_depths)), (h_a1, .inr (2, [.ref h_a1_cells, .ref h_a1_depths, .int v_a1_became, .int v_a1_items, .int v_a1_inputs, .int v_a1_muls])), (h_a1_cells, .inl (k_a1_cells, 96, .inl v_a1_cells))]) (w1 := [(h_a1_depths, .inl (k_a1_depths, 16, .inl v_a1_depths))]) hP hD hS hA [5] [0, 1, 2, 3, 4] rfl rfl (by decide) (by decide) (va_runSN (As := [.ref h_a1_depths, .int y2]) (rest := [.int y2, .ref h_depths]) CF (t_X9_at l dC dI h_a1_depths k_a1_depths 16 v_a1_depths H.size y2 N z_52 hz_52) cw22 (gPS hP hD hK hN [5] [3] (by decide) rfl rfl) rfl rfl hl.1 rfl (lv_room (Nat.le_of_ble_eq_true rfl)) dX2_become_52 ⟨Nat.zero_le _, Nat.zero_le _⟩) (fun H locs hP hD hS => ?_)
        have hP : va_P (dC, dI) vwCl [(h_this, .inr (2, [.ref h_cells, .ref h_depths, .int v_became, .int v_items, .int v_inputs, .int v_muls])), (h_cells, .inl (k_cells, 96, .inl v_cells)), (h_depths, .inl (k_depths, 16, .inl v_depths)), (h_a1, .inr (2, [.ref h_a1_cells, .ref h_a1_depths, .int v_a1_became, .int v_a1_items, .int v_a1_inputs, .int v_a1_muls])), (h_a1_cells, .inl (k_a1_cells, 96, .inl v_a1_cells)), (h_a1_depths, .inl (k_a1_depths, 16, .inl v_a1_depths))] H := hP
        have hD : va_D A [(h_this, .inr (2, [.ref h_cells, .ref h_depths, .int v_became, .int v_items, .int v_inputs, .int v_muls])), (h_cells, .inl (k_cells, 96, .inl v_cells)), (h_depths, .inl (k_depths, 16, .inl v_depths)), (h_a1, .inr (2, [.ref h_a1_cells, .ref h_a1_depths, .int v_a1_became, .int v_a1_items, .int v_a1_inputs, .int v_a1_muls])), (h_a1_cells, .inl (k_a1_cells, 96, .inl v_a1_cells)), (h_a1_depths, .inl (k_a1_depths, 16, .inl v_a1_depths))] := hD
        obtain ⟨hi_55, hF⟩ := gi_in hF
        refine va_iast hx hb hK hP hD hS 2 1 rfl rfl hi_55 dX2_become_55 (fun H locs hP hD hS => ?_)
        have hP : va_P (dC, dI) vwCl [(h_this, .inr (2, [.ref h_cells, .ref h_depths, .int v_became, .int v_items, .int v_inputs, .int v_muls])), (h_cells, .inl (k_cells, 96, .inl v_cells)), (h_depths, .inl (k_depths, 16, .inl (upd v_depths y2.toNatClampNeg z_52))), (h_a1, .inr (2, [.ref h_a1_cells, .ref h_a1_depths, .int v_a1_became, .int v_a1_items, .int v_a1_inputs, .int v_a1_muls])), (h_a1_cells, .inl (k_a1_cells, 96, .inl v_a1_cells)), (h_a1_depths, .inl (k_a1_depths, 16, .inl v_a1_depths))] H := hP
        have hD : va_D A [(h_this, .inr (2, [.ref h_cells, .ref h_depths, .int v_became, .int v_items, .int v_inputs, .int v_muls])), (h_cells, .inl (k_cells, 96, .inl v_cells)), (h_depths, .inl (k_depths, 16, .inl (upd v_depths y2.toNatClampNeg z_52))), (h_a1, .inr (2, [.ref h_a1_cells, .ref h_a1_depths, .int v_a1_became, .int v_a1_items, .int v_a1_inputs, .int v_a1_muls])), (h_a1_cells, .inl (k_a1_cells, 96, .inl v_a1_cells)), (h_a1_depths, .inl (k_a1_depths, 16, .inl v_a1_depths))] := hD
        refine lv_iinc (v := (y2 + 1)) (lv' := [(2, .int (y2 + 1)), (0, .ref h_this), (1, .ref h_a1)]) hx hb dX2_become_56 hl (k := 2) rfl rfl (by decide) rfl (fun ls hl => ?_)
        refine lv_goto (tgt := 33) hx hb dX2_become_59 (by decide) ?_
        exact g_33 v_became v_items v_inputs v_muls v_cells (upd v_depths y2.toNatClampNeg z_52) (y2 + 1) _ _ _ hF hP hD hS (lv_sub hl [1, 2, 0] rfl)
  have k_2 : ∀ (n : Nat) (v_became : Int32) (v_items : Int32) (v_inputs : Int32) (v_muls : Int32) (v_cells : Nat → Int32) (v_depths : Nat → Int32) (y2 : Int32) (H : Heap) (locs : List Loc) (ls : Array Slot), f_X2_become_2 N v_a1_became v_a1_items v_a1_inputs v_a1_muls v_a1_cells v_a1_depths n v_became v_items v_inputs v_muls v_cells v_depths y2 = some out → va_P (dC, dI) vwCl [(h_this, .inr (2, [.ref h_cells, .ref h_depths, .int v_became, .int v_items, .int v_inputs, .int v_muls])), (h_cells, .inl (k_cells, 96, .inl v_cells)), (h_depths, .inl (k_depths, 16, .inl v_depths)), (h_a1, .inr (2, [.ref h_a1_cells, .ref h_a1_depths, .int v_a1_became, .int v_a1_items, .int v_a1_inputs, .int v_a1_muls])), (h_a1_cells, .inl (k_a1_cells, 96, .inl v_a1_cells)), (h_a1_depths, .inl (k_a1_depths, 16, .inl v_a1_depths))] H → va_D A [(h_this, .inr (2, [.ref h_cells, .ref h_depths, .int v_became, .int v_items, .int v_inputs, .int v_muls])), (h_cells, .inl (k_cells, 96, .inl v_cells)), (h_depths, .inl (k_depths, 16, .inl v_depths)), (h_a1, .inr (2, [.ref h_a1_cells, .ref h_a1_depths, .int v_a1_became, .int v_a1_items, .int v_a1_inputs, .int v_a1_muls])), (h_a1_cells, .inl (k_a1_cells, 96, .inl v_a1_cells)), (h_a1_depths, .inl (k_a1_depths, 16, .inl v_a1_depths))] → va_S A s.heap H locs → lv_has ls 3 [(0, .ref h_this), (1, .ref h_a1), (2, .int y2)] → W p l e ({ frames := 1, cells := 0, slots := 0, locals := 21 } : Room) s m args below meth c H locs 0 0 Q (F0 m 2 ls []) := by
    intro n
    induction n with
    | zero =>
      intro v_became v_items v_inputs v_muls v_cells v_depths y2 H locs ls hF
      have hF : (none : Option O_X2_become) = some out := hF
      cases hF
    | succ n ih =>
      intro v_became v_items v_inputs v_muls v_cells v_depths y2 H locs ls hF hP hD hS hl
      have hF : s_X2_become_2 N v_a1_became v_a1_items v_a1_inputs v_a1_muls v_a1_cells v_a1_depths (f_X2_become_2 N v_a1_became v_a1_items v_a1_inputs v_a1_muls v_a1_cells v_a1_depths n) v_became v_items v_inputs v_muls v_cells v_depths y2 = some out := hF
      generalize f_X2_become_2 N v_a1_became v_a1_items v_a1_inputs v_a1_muls v_a1_cells v_a1_depths n = r_2 at hF ih
      have g_2 : ∀ (v_became : Int32) (v_items : Int32) (v_inputs : Int32) (v_muls : Int32) (v_cells : Nat → Int32) (v_depths : Nat → Int32) (y2 : Int32) (H : Heap) (locs : List Loc) (ls : Array Slot), r_2 v_became v_items v_inputs v_muls v_cells v_depths y2 = some out → va_P (dC, dI) vwCl [(h_this, .inr (2, [.ref h_cells, .ref h_depths, .int v_became, .int v_items, .int v_inputs, .int v_muls])), (h_cells, .inl (k_cells, 96, .inl v_cells)), (h_depths, .inl (k_depths, 16, .inl v_depths)), (h_a1, .inr (2, [.ref h_a1_cells, .ref h_a1_depths, .int v_a1_became, .int v_a1_items, .int v_a1_inputs, .int v_a1_muls])), (h_a1_cells, .inl (k_a1_cells, 96, .inl v_a1_cells)), (h_a1_depths, .inl (k_a1_depths, 16, .inl v_a1_depths))] H → va_D A [(h_this, .inr (2, [.ref h_cells, .ref h_depths, .int v_became, .int v_items, .int v_inputs, .int v_muls])), (h_cells, .inl (k_cells, 96, .inl v_cells)), (h_depths, .inl (k_depths, 16, .inl v_depths)), (h_a1, .inr (2, [.ref h_a1_cells, .ref h_a1_depths, .int v_a1_became, .int v_a1_items, .int v_a1_inputs, .int v_a1_muls])), (h_a1_cells, .inl (k_a1_cells, 96, .inl v_a1_cells)), (h_a1_depths, .inl (k_a1_depths, 16, .inl v_a1_depths))] → va_S A s.heap H locs → lv_has ls 3 [(0, .ref h_this), (1, .ref h_a1), (2, .int y2)] → W p l e ({ frames := 1, cells := 0, slots := 0, locals := 21 } : Room) s m args below meth c H locs 0 0 Q (F0 m 2 ls []) := ih
      clear ih
      unfold s_X2_become_2 at hF
      refine lv_iload_n hx hb dX2_become_2 rfl (lv_at hl 2 rfl) ?_
      refine lv_aload_n hx hb dX2_become_3 rfl (lv_at hl 0 rfl) ?_
      refine va_get (D := (dC, dI)) (ci := 2) (v := .ref h_cells) (C := RX2) (T := TX2) (N := 6) hx hb hts in_X2 hown hK hP 0 rfl rfl 0 (by decide) hL9 (fun _ h9 => h9) rfl dX2_become_4 ?_
      refine va_alen (v := (96 : Int32)) hx hb hK hP 1 0 rfl rfl rfl dX2_become_7 ?_
      refine lv_icmp_ge (tgt := 31) hx hb dX2_become_8 (by decide) (fun c_8 => ?_) (fun c_8 => ?_)
      · have hF := gi_t c_8 hF
        refine lv_iconst (v := (0 : Int32)) hx hb dX2_become_31 (by decide) ?_
        refine lv_istore_n (lv' := [(2, .int (0 : Int32)), (0, .ref h_this), (1, .ref h_a1)]) hx hb dX2_become_32 rfl hl (by decide) rfl (fun ls hl => ?_)
        exact k_33 N v_became v_items v_inputs v_muls v_cells v_depths (0 : Int32) _ _ _ hF hP hD hS (lv_sub hl [1, 2, 0] rfl)
      · have hF := gi_f c_8 hF
        refine lv_aload_n hx hb dX2_become_11 rfl (lv_at hl 0 rfl) ?_
        refine va_get (D := (dC, dI)) (ci := 2) (v := .ref h_cells) (C := RX2) (T := TX2) (N := 6) hx hb hts in_X2 hown hK hP 0 rfl rfl 0 (by decide) hL9 (fun _ h9 => h9) rfl dX2_become_12 ?_
        refine lv_iload_n hx hb dX2_become_15 rfl (lv_at hl 2 rfl) ?_
        refine lv_aload_n hx hb dX2_become_16 rfl (lv_at hl 1 rfl) ?_
        refine va_get (D := (dC, dI)) (ci := 2) (v := .ref h_a1_cells) (C := RX2) (T := TX2) (N := 6) hx hb hts in_X2 hown hK hP 3 rfl rfl 0 (by decide) hL9 (fun _ h9 => h9) rfl dX2_become_17 ?_
        refine lv_iload_n hx hb dX2_become_20 rfl (lv_at hl 2 rfl) ?_
        obtain ⟨z_21, hz_21, hF⟩ := gi_bind hF
        refine gRi (wc := [(h_a1_cells, .inl (k_a1_cells, 96, .inl v_a1_cells))]) (wr := [(h_this, .inr (2, [.ref h_cells, .ref h_depths, .int v_became, .int v_items, .int v_inputs, .int v_muls])), (h_cells, .inl (k_cells, 96, .inl v_cells)), (h_depths, .inl (k_depths, 16, .inl v_depths)), (h_a1, .inr (2, [.ref h_a1_cells, .ref h_a1_depths, .int v_a1_became, .int v_a1_items, .int v_a1_inputs, .int v_a1_muls])), (h_a1_depths, .inl (k_a1_depths, 16, .inl v_a1_depths))]) (w1 := [(h_a1_cells, .inl (k_a1_cells, 96, .inl v_a1_cells))]) hP hD hS hA [4] [0, 1, 2, 3, 5] rfl rfl (by decide) (by decide) (va_runSN (As := [.ref h_a1_cells, .int y2]) (rest := [.int y2, .ref h_cells]) CF (t_X9_at l dC dI h_a1_cells k_a1_cells 96 v_a1_cells H.size y2 N z_21 hz_21) cw22 (gPS hP hD hK hN [4] [2] (by decide) rfl rfl) rfl rfl hl.1 rfl (lv_room (Nat.le_of_ble_eq_true rfl)) dX2_become_21 ⟨Nat.zero_le _, Nat.zero_le _⟩) (fun H locs hP hD hS => ?_)
        have hP : va_P (dC, dI) vwCl [(h_this, .inr (2, [.ref h_cells, .ref h_depths, .int v_became, .int v_items, .int v_inputs, .int v_muls])), (h_cells, .inl (k_cells, 96, .inl v_cells)), (h_depths, .inl (k_depths, 16, .inl v_depths)), (h_a1, .inr (2, [.ref h_a1_cells, .ref h_a1_depths, .int v_a1_became, .int v_a1_items, .int v_a1_inputs, .int v_a1_muls])), (h_a1_depths, .inl (k_a1_depths, 16, .inl v_a1_depths)), (h_a1_cells, .inl (k_a1_cells, 96, .inl v_a1_cells))] H := hP
        have hD : va_D A [(h_this, .inr (2, [.ref h_cells, .ref h_depths, .int v_became, .int v_items, .int v_inputs, .int v_muls])), (h_cells, .inl (k_cells, 96, .inl v_cells)), (h_depths, .inl (k_depths, 16, .inl v_depths)), (h_a1, .inr (2, [.ref h_a1_cells, .ref h_a1_depths, .int v_a1_became, .int v_a1_items, .int v_a1_inputs, .int v_a1_muls])), (h_a1_depths, .inl (k_a1_depths, 16, .inl v_a1_depths)), (h_a1_cells, .inl (k_a1_cells, 96, .inl v_a1_cells))] := hD
        obtain ⟨hi_24, hF⟩ := gi_in hF
        refine va_iast hx hb hK hP hD hS 1 0 rfl rfl hi_24 dX2_become_24 (fun H locs hP hD hS => ?_)
        have hP : va_P (dC, dI) vwCl [(h_this, .inr (2, [.ref h_cells, .ref h_depths, .int v_became, .int v_items, .int v_inputs, .int v_muls])), (h_cells, .inl (k_cells, 96, .inl (upd v_cells y2.toNatClampNeg z_21))), (h_depths, .inl (k_depths, 16, .inl v_depths)), (h_a1, .inr (2, [.ref h_a1_cells, .ref h_a1_depths, .int v_a1_became, .int v_a1_items, .int v_a1_inputs, .int v_a1_muls])), (h_a1_depths, .inl (k_a1_depths, 16, .inl v_a1_depths)), (h_a1_cells, .inl (k_a1_cells, 96, .inl v_a1_cells))] H := hP
        have hD : va_D A [(h_this, .inr (2, [.ref h_cells, .ref h_depths, .int v_became, .int v_items, .int v_inputs, .int v_muls])), (h_cells, .inl (k_cells, 96, .inl (upd v_cells y2.toNatClampNeg z_21))), (h_depths, .inl (k_depths, 16, .inl v_depths)), (h_a1, .inr (2, [.ref h_a1_cells, .ref h_a1_depths, .int v_a1_became, .int v_a1_items, .int v_a1_inputs, .int v_a1_muls])), (h_a1_depths, .inl (k_a1_depths, 16, .inl v_a1_depths)), (h_a1_cells, .inl (k_a1_cells, 96, .inl v_a1_cells))] := hD
        refine lv_iinc (v := (y2 + 1)) (lv' := [(2, .int (y2 + 1)), (0, .ref h_this), (1, .ref h_a1)]) hx hb dX2_become_25 hl (k := 2) rfl rfl (by decide) rfl (fun ls hl => ?_)
        refine lv_goto (tgt := 2) hx hb dX2_become_28 (by decide) ?_
        exact g_2 v_became v_items v_inputs v_muls (upd v_cells y2.toNatClampNeg z_21) v_depths (y2 + 1) _ _ _ hF (hP.sub [0, 1, 2, 3, 5, 4] rfl) (hD.sub [0, 1, 2, 3, 5, 4] (by decide) rfl) hS (lv_sub hl [1, 2, 0] rfl)
  unfold f_X2_become at hF
  refine lv_iconst (v := (0 : Int32)) hx hb dX2_become_0 (by decide) ?_
  refine lv_istore_n (lv' := [(2, .int (0 : Int32)), (0, .ref h_this), (1, .ref h_a1)]) hx hb dX2_become_1 rfl hl (by decide) rfl (fun ls hl => ?_)
  exact k_2 N v_became v_items v_inputs v_muls v_cells v_depths (0 : Int32) _ _ _ hF hP hD hS (lv_sub hl [1, 2, 0] rfl)
abbrev O_X8_priceOf : Type := Int32
def f_X8_priceOf (N : Nat) (v_prices : Nat → Int32) (x1 : Int32) (x2 : Int32) : Option O_X8_priceOf :=
  (f_J6_bitCount_0f7a4 N x2).bind (fun z_1 => (f_X9_at N v_prices 3 (0 : Int32)).bind (fun z_13 => (f_X9_at N v_prices 3 (1 : Int32)).bind (fun z_21 => (f_X9_at N v_prices 3 (2 : Int32)).bind (fun z_32 => some ((((x1 - z_1) * (z_13 + z_21)) + (z_1 * z_32)))))))
set_option maxHeartbeats 4000000 in
set_option maxRecDepth 100000 in
theorem t_X8_priceOf (l : Launch) (dC : Nat → ClassId) (dI : Nat → Nat → Nat) (h_this : Nat) (h_prices : Nat) (h_rounds : Nat) (k_prices : ClassId) (v_prices : Nat → Int32) (sz : Nat) (x1 : Int32) (x2 : Int32) (N : Nat) (out : O_X8_priceOf) (hF : f_X8_priceOf N v_prices x1 x2 = some out) : gMi l yX8_priceOf wsX8_priceOf ({ frames := 1, cells := 0, slots := 0, locals := 21 } : Room) [.ref h_this, .int x1, .int x2] (dC, dI) [(h_this, .inr (8, [.ref h_prices, .ref h_rounds])), (h_prices, .inl (k_prices, 3, .inl v_prices))] [(k_prices, .int)] sz [(h_this, .inr (8, [.ref h_prices, .ref h_rounds])), (h_prices, .inl (k_prices, 3, .inl v_prices))] out := by
  refine gEi (cc := cX8_priceOf) (maxL := 4) (by decide) rfl (Nat.le_of_ble_eq_true rfl) ?_
  intro p e s m args below meth c Q A ls CF hK hN hA hret hP hD hS hl
  have hx := CF.1
  have hb := CF.2.1
  have hml := CF.2.2.1
  have hown : s.vm.findClass RX8 = some m.cls := CF.2.2.2.1
  have hts := CF.2.2.2.2
  have hl : lv_has ls 4 [(0, .ref h_this), (1, .int x1), (2, .int x2)] := hl
  have cw18 : CallB ({ frames := 1, cells := 0, slots := 0, locals := 21 } : Room) s args RX8 18 yJ6_bitCount_0f7a4 cJ6_bitCount_0f7a4 1 (some .int) wsJ6_bitCount_0f7a4 ({ frames := 0, cells := 0, slots := 0, locals := 0 } : Room) 0 0 1 ∧ (Cond.static yJ6_bitCount_0f7a4).before args s = true := va_cwS 1 hts gX8_priceOf_J6_bitCount_0f7a4 rfl rfl rfl (by decide +kernel) ⟨Nat.le_of_ble_eq_true rfl, Nat.le_of_ble_eq_true rfl⟩
  have in_X8 : ∀ w ∈ wsX80, w ∈ wsX8_priceOf := fun w h => List.mem_cons_of_mem _ (List.mem_append_right _ h)
  have hL9 : (Cond.fieldLink RX8 9 "DustSums$Trades" "prices" "[I").before args s = true := hts (.fieldLink RX8 9 "DustSums$Trades" "prices" "[I") (List.mem_of_getElem? (i := 1) rfl)
  have nm24 : va_Nw (.methodLinkNest RX8 24 yX9_at "DustSums") s := hN.2 (RX8, 24, yX9_at, "DustSums") (by decide +kernel)
  have cw24 : va_CN ({ frames := 1, cells := 0, slots := 0, locals := 21 } : Room) s args RX8 24 yX9_at "DustSums" cX9_at 2 (some .int) wsX9_at ({ frames := 0, cells := 0, slots := 0, locals := 0 } : Room) 0 0 2 ∧ (Cond.static yX9_at).before args s = true ∧ True := ⟨va_cnB 2 hts gX8_priceOf_X9_at_n24 rfl rfl rfl nm24 (hts (.initialized RX9) (List.mem_of_getElem? (i := 10) rfl)) (by decide +kernel) ⟨Nat.le_of_ble_eq_true rfl, Nat.le_of_ble_eq_true rfl⟩, hts (.static yX9_at) (List.mem_of_getElem? (i := 9) rfl), trivial⟩
  unfold f_X8_priceOf at hF
  refine lv_iload_n hx hb dX8_priceOf_0 rfl (lv_at hl 2 rfl) ?_
  obtain ⟨z_1, hz_1, hF⟩ := gi_bind hF
  refine gRi (wc := []) (wr := [(h_this, .inr (8, [.ref h_prices, .ref h_rounds])), (h_prices, .inl (k_prices, 3, .inl v_prices))]) (w1 := []) hP hD hS hA [] [0, 1] rfl rfl (by decide) (by decide) (va_runS (As := [.int x2]) (rest := []) CF (t_J6_bitCount_0f7a4 l dC dI s.heap.size x2 N z_1 hz_1) cw18 (gPS hP hD hK hN [] [] (by decide) rfl rfl) rfl rfl hl.1 rfl (lv_room (Nat.le_of_ble_eq_true rfl)) dX8_priceOf_1 ⟨Nat.zero_le _, Nat.zero_le _⟩) (fun H locs hP hD hS => ?_)
  have hP : va_P (dC, dI) vwCl [(h_this, .inr (8, [.ref h_prices, .ref h_rounds])), (h_prices, .inl (k_prices, 3, .inl v_prices))] H := hP
  have hD : va_D A [(h_this, .inr (8, [.ref h_prices, .ref h_rounds])), (h_prices, .inl (k_prices, 3, .inl v_prices))] := hD
  refine lv_istore_n (lv' := [(3, .int z_1), (0, .ref h_this), (1, .int x1), (2, .int x2)]) hx hb dX8_priceOf_4 rfl hl (by decide) rfl (fun ls hl => ?_)
  refine lv_iload_n hx hb dX8_priceOf_5 rfl (lv_at hl 2 rfl) ?_
  refine lv_iload_n hx hb dX8_priceOf_6 rfl (lv_at hl 0 rfl) ?_
  refine lv_isub hx hb dX8_priceOf_7 ?_
  refine lv_aload_n hx hb dX8_priceOf_8 rfl (lv_at hl 1 rfl) ?_
  refine va_get (D := (dC, dI)) (ci := 8) (v := .ref h_prices) (C := RX8) (T := TX8) (N := 2) hx hb hts in_X8 hown hK hP 0 rfl rfl 0 (by decide) hL9 (fun _ h9 => h9) rfl dX8_priceOf_9 ?_
  refine lv_iconst (v := (0 : Int32)) hx hb dX8_priceOf_12 (by decide) ?_
  obtain ⟨z_13, hz_13, hF⟩ := gi_bind hF
  refine gRi (wc := [(h_prices, .inl (k_prices, 3, .inl v_prices))]) (wr := [(h_this, .inr (8, [.ref h_prices, .ref h_rounds]))]) (w1 := [(h_prices, .inl (k_prices, 3, .inl v_prices))]) hP hD hS hA [1] [0] rfl rfl (by decide) (by decide) (va_runSN (As := [.ref h_prices, .int (0 : Int32)]) (rest := [.int (x1 - z_1)]) CF (t_X9_at l dC dI h_prices k_prices 3 v_prices H.size (0 : Int32) N z_13 hz_13) cw24 (gPS hP hD hK hN [1] [0] (by decide) rfl rfl) rfl rfl hl.1 rfl (lv_room (Nat.le_of_ble_eq_true rfl)) dX8_priceOf_13 ⟨Nat.zero_le _, Nat.zero_le _⟩) (fun H locs hP hD hS => ?_)
  have hP : va_P (dC, dI) vwCl [(h_this, .inr (8, [.ref h_prices, .ref h_rounds])), (h_prices, .inl (k_prices, 3, .inl v_prices))] H := hP
  have hD : va_D A [(h_this, .inr (8, [.ref h_prices, .ref h_rounds])), (h_prices, .inl (k_prices, 3, .inl v_prices))] := hD
  refine lv_aload_n hx hb dX8_priceOf_16 rfl (lv_at hl 1 rfl) ?_
  refine va_get (D := (dC, dI)) (ci := 8) (v := .ref h_prices) (C := RX8) (T := TX8) (N := 2) hx hb hts in_X8 hown hK hP 0 rfl rfl 0 (by decide) hL9 (fun _ h9 => h9) rfl dX8_priceOf_17 ?_
  refine lv_iconst (v := (1 : Int32)) hx hb dX8_priceOf_20 (by decide) ?_
  obtain ⟨z_21, hz_21, hF⟩ := gi_bind hF
  refine gRi (wc := [(h_prices, .inl (k_prices, 3, .inl v_prices))]) (wr := [(h_this, .inr (8, [.ref h_prices, .ref h_rounds]))]) (w1 := [(h_prices, .inl (k_prices, 3, .inl v_prices))]) hP hD hS hA [1] [0] rfl rfl (by decide) (by decide) (va_runSN (As := [.ref h_prices, .int (1 : Int32)]) (rest := [.int z_13, .int (x1 - z_1)]) CF (t_X9_at l dC dI h_prices k_prices 3 v_prices H.size (1 : Int32) N z_21 hz_21) cw24 (gPS hP hD hK hN [1] [0] (by decide) rfl rfl) rfl rfl hl.1 rfl (lv_room (Nat.le_of_ble_eq_true rfl)) dX8_priceOf_21 ⟨Nat.zero_le _, Nat.zero_le _⟩) (fun H locs hP hD hS => ?_)
  have hP : va_P (dC, dI) vwCl [(h_this, .inr (8, [.ref h_prices, .ref h_rounds])), (h_prices, .inl (k_prices, 3, .inl v_prices))] H := hP
  have hD : va_D A [(h_this, .inr (8, [.ref h_prices, .ref h_rounds])), (h_prices, .inl (k_prices, 3, .inl v_prices))] := hD
  refine lv_iadd hx hb dX8_priceOf_24 ?_
  refine lv_imul hx hb dX8_priceOf_25 ?_
  refine lv_iload_n hx hb dX8_priceOf_26 rfl (lv_at hl 0 rfl) ?_
  refine lv_aload_n hx hb dX8_priceOf_27 rfl (lv_at hl 1 rfl) ?_
  refine va_get (D := (dC, dI)) (ci := 8) (v := .ref h_prices) (C := RX8) (T := TX8) (N := 2) hx hb hts in_X8 hown hK hP 0 rfl rfl 0 (by decide) hL9 (fun _ h9 => h9) rfl dX8_priceOf_28 ?_
  refine lv_iconst (v := (2 : Int32)) hx hb dX8_priceOf_31 (by decide) ?_
  obtain ⟨z_32, hz_32, hF⟩ := gi_bind hF
  refine gRi (wc := [(h_prices, .inl (k_prices, 3, .inl v_prices))]) (wr := [(h_this, .inr (8, [.ref h_prices, .ref h_rounds]))]) (w1 := [(h_prices, .inl (k_prices, 3, .inl v_prices))]) hP hD hS hA [1] [0] rfl rfl (by decide) (by decide) (va_runSN (As := [.ref h_prices, .int (2 : Int32)]) (rest := [.int z_1, .int ((x1 - z_1) * (z_13 + z_21))]) CF (t_X9_at l dC dI h_prices k_prices 3 v_prices H.size (2 : Int32) N z_32 hz_32) cw24 (gPS hP hD hK hN [1] [0] (by decide) rfl rfl) rfl rfl hl.1 rfl (lv_room (Nat.le_of_ble_eq_true rfl)) dX8_priceOf_32 ⟨Nat.zero_le _, Nat.zero_le _⟩) (fun H locs hP hD hS => ?_)
  have hP : va_P (dC, dI) vwCl [(h_this, .inr (8, [.ref h_prices, .ref h_rounds])), (h_prices, .inl (k_prices, 3, .inl v_prices))] H := hP
  have hD : va_D A [(h_this, .inr (8, [.ref h_prices, .ref h_rounds])), (h_prices, .inl (k_prices, 3, .inl v_prices))] := hD
  refine lv_imul hx hb dX8_priceOf_35 ?_
  refine lv_iadd hx hb dX8_priceOf_36 ?_
  have hF := Option.some.inj hF
  subst hF
  exact hret _ _ _ _ dX8_priceOf_37 hP hD hS
abbrev O_X8_roundsWith : Type := Int32 × (Nat → Int32)
def f_X8_roundsWith_125 (N : Nat) (v_a1_items : Int32) (v_a1_cells : Nat → Int32) (x2 : Int32) (r_5 : (Nat → Int32) → Int32 → Int32 → Option O_X8_roundsWith) (v_rounds : Nat → Int32) (y3 : Int32) (y4 : Int32) (y6 : Int32) (y7 : Int32) : Option O_X8_roundsWith :=
  (f_X9_put N 16 y6 y7 v_rounds).bind (fun z_133 => r_5 z_133 y3 (y4 + 1))
def f_X8_roundsWith_119 (N : Nat) (v_a1_items : Int32) (v_a1_cells : Nat → Int32) (x2 : Int32) (r_5 : (Nat → Int32) → Int32 → Int32 → Option O_X8_roundsWith) (v_rounds : Nat → Int32) (y3 : Int32) (y4 : Int32) (y6 : Int32) (t0 : Int32) (t1 : Int32) : Option O_X8_roundsWith :=
  f_X8_roundsWith_125 N v_a1_items v_a1_cells x2 r_5 v_rounds (y3 + 1) y4 y6 (t0 + t1)
def f_X8_roundsWith_97 (N : Nat) (v_a1_items : Int32) (v_a1_cells : Nat → Int32) (x2 : Int32) (r_5 : (Nat → Int32) → Int32 → Int32 → Option O_X8_roundsWith) (v_rounds : Nat → Int32) (y3 : Int32) (y4 : Int32) (y5 : Int32) (y6 : Int32) (y7 : Int32) : Option O_X8_roundsWith :=
  if y5 = (4 : Int32) then (if ((x2 >>> (y3 &&& 31)) &&& (1 : Int32)) = (1 : Int32) then (f_X8_roundsWith_119 N v_a1_items v_a1_cells x2 r_5 v_rounds y3 y4 y6 y7 (2 : Int32)) else (f_X8_roundsWith_119 N v_a1_items v_a1_cells x2 r_5 v_rounds y3 y4 y6 y7 (1 : Int32))) else (f_X8_roundsWith_125 N v_a1_items v_a1_cells x2 r_5 v_rounds y3 y4 y6 y7)
def f_X8_roundsWith_38 (N : Nat) (v_a1_items : Int32) (v_a1_cells : Nat → Int32) (x2 : Int32) (v_rounds : Nat → Int32) (y6 : Int32) : Option O_X8_roundsWith :=
  (f_X9_at N v_rounds 16 y6).bind (fun z_44 => some ((z_44 + (1 : Int32)), v_rounds))
def s_X8_roundsWith_5 (N : Nat) (v_a1_items : Int32) (v_a1_cells : Nat → Int32) (x2 : Int32) (r_5 : (Nat → Int32) → Int32 → Int32 → Option O_X8_roundsWith) (v_rounds : Nat → Int32) (y3 : Int32) (y4 : Int32) : Option O_X8_roundsWith :=
  if v_a1_items ≤ y4 then (some ((0 : Int32), v_rounds)) else ((f_X2_cell N v_a1_cells y4 (0 : Int32)).bind (fun z_18 => (f_X2_cell N v_a1_cells y4 (1 : Int32)).bind (fun z_27 => if z_18 = (5 : Int32) then (f_X8_roundsWith_38 N v_a1_items v_a1_cells x2 v_rounds z_27) else (if z_18 = 0 then (f_X8_roundsWith_97 N v_a1_items v_a1_cells x2 r_5 v_rounds y3 y4 z_18 z_27 (0 : Int32)) else (if z_18 = (1 : Int32) then (f_X8_roundsWith_97 N v_a1_items v_a1_cells x2 r_5 v_rounds y3 y4 z_18 z_27 (0 : Int32)) else ((f_X2_cell N v_a1_cells y4 (2 : Int32)).bind (fun z_72 => (f_X9_at N v_rounds 16 z_72).bind (fun z_75 => (f_X2_cell N v_a1_cells y4 (3 : Int32)).bind (fun z_86 => (f_X9_at N v_rounds 16 z_86).bind (fun z_89 => f_X8_roundsWith_97 N v_a1_items v_a1_cells x2 r_5 v_rounds y3 y4 z_18 z_27 (if z_75 < z_89 then z_89 else z_75)))))))))))
def f_X8_roundsWith_5 (N : Nat) (v_a1_items : Int32) (v_a1_cells : Nat → Int32) (x2 : Int32) (n : Nat) : (Nat → Int32) → Int32 → Int32 → Option O_X8_roundsWith := lpg (fun _ _ _ => none) (s_X8_roundsWith_5 N v_a1_items v_a1_cells x2) n
def f_X8_roundsWith (N : Nat) (v_a1_items : Int32) (v_a1_cells : Nat → Int32) (x2 : Int32) (v_rounds : Nat → Int32) : Option O_X8_roundsWith :=
  f_X8_roundsWith_5 N v_a1_items v_a1_cells x2 N v_rounds (0 : Int32) (0 : Int32)
set_option maxHeartbeats 4000000 in
set_option maxRecDepth 100000 in
theorem t_X8_roundsWith (l : Launch) (dC : Nat → ClassId) (dI : Nat → Nat → Nat) (h_this : Nat) (h_prices : Nat) (h_rounds : Nat) (k_rounds : ClassId) (v_rounds : Nat → Int32) (h_a1 : Nat) (h_a1_cells : Nat) (h_a1_depths : Nat) (v_a1_became : Int32) (v_a1_items : Int32) (v_a1_inputs : Int32) (v_a1_muls : Int32) (k_a1_cells : ClassId) (v_a1_cells : Nat → Int32) (sz : Nat) (x2 : Int32) (N : Nat) (out : O_X8_roundsWith) (hF : f_X8_roundsWith N v_a1_items v_a1_cells x2 v_rounds = some out) : gMi l yX8_roundsWith wsX8_roundsWith ({ frames := 2, cells := 0, slots := 0, locals := 43 } : Room) [.ref h_this, .ref h_a1, .int x2] (dC, dI) [(h_this, .inr (8, [.ref h_prices, .ref h_rounds])), (h_rounds, .inl (k_rounds, 16, .inl v_rounds)), (h_a1, .inr (2, [.ref h_a1_cells, .ref h_a1_depths, .int v_a1_became, .int v_a1_items, .int v_a1_inputs, .int v_a1_muls])), (h_a1_cells, .inl (k_a1_cells, 96, .inl v_a1_cells))] [(k_rounds, .int), (k_a1_cells, .int)] sz [(h_this, .inr (8, [.ref h_prices, .ref h_rounds])), (h_rounds, .inl (k_rounds, 16, .inl out.2)), (h_a1, .inr (2, [.ref h_a1_cells, .ref h_a1_depths, .int v_a1_became, .int v_a1_items, .int v_a1_inputs, .int v_a1_muls])), (h_a1_cells, .inl (k_a1_cells, 96, .inl v_a1_cells))] out.1 := by
  refine gEi (cc := cX8_roundsWith) (maxL := 8) (by decide) rfl (Nat.le_of_ble_eq_true rfl) ?_
  intro p e s m args below meth c Q A ls CF hK hN hA hret hP hD hS hl
  have hx := CF.1
  have hb := CF.2.1
  have hml := CF.2.2.1
  have hown : s.vm.findClass RX8 = some m.cls := CF.2.2.2.1
  have hts := CF.2.2.2.2
  have hl : lv_has ls 8 [(0, .ref h_this), (1, .ref h_a1), (2, .int x2)] := hl
  have in_X2 : ∀ w ∈ wsX20, w ∈ wsX8_roundsWith := fun w h => List.mem_cons_of_mem _ (List.mem_append_left _ (List.mem_append_right _ h))
  have hL42 : (Cond.fieldLinkNest RX8 42 "DustSums$Program" "items" "I" "DustSums").before args s = true := va_Nw.use rfl (hN.1 (RX8, 42, "DustSums$Program", "items", "I", "DustSums") (by decide +kernel))
  have cw45 : CallW ({ frames := 2, cells := 0, slots := 0, locals := 43 } : Room) s args RX8 RX2 45 yX2_cell cX2_cell 3 (some .int) wsX2_cell ({ frames := 1, cells := 0, slots := 0, locals := 21 } : Room) 0 0 2 := cwV 2 hts gX8_roundsWith_X2_cell rfl rfl rfl (by decide +kernel) ⟨Nat.le_of_ble_eq_true rfl, Nat.le_of_ble_eq_true rfl⟩
  have in_X8 : ∀ w ∈ wsX80, w ∈ wsX8_roundsWith := fun w h => List.mem_cons_of_mem _ (List.mem_append_right _ h)
  have hL15 : (Cond.fieldLink RX8 15 "DustSums$Trades" "rounds" "[I").before args s = true := hts (.fieldLink RX8 15 "DustSums$Trades" "rounds" "[I") (List.mem_of_getElem? (i := 1) rfl)
  have nm53 : va_Nw (.methodLinkNest RX8 53 yX9_put "DustSums") s := hN.2 (RX8, 53, yX9_put, "DustSums") (by decide +kernel)
  have cw53 : va_CN ({ frames := 2, cells := 0, slots := 0, locals := 43 } : Room) s args RX8 53 yX9_put "DustSums" cX9_put 3 none wsX9_put ({ frames := 0, cells := 0, slots := 0, locals := 0 } : Room) 0 0 3 ∧ (Cond.static yX9_put).before args s = true ∧ True := ⟨va_cnB 3 hts gX8_roundsWith_X9_put_n53 rfl rfl rfl nm53 (hts (.initialized RX9) (List.mem_of_getElem? (i := 13) rfl)) (by decide +kernel) ⟨Nat.le_of_ble_eq_true rfl, Nat.le_of_ble_eq_true rfl⟩, hts (.static yX9_put) (List.mem_of_getElem? (i := 15) rfl), trivial⟩
  have nm24 : va_Nw (.methodLinkNest RX8 24 yX9_at "DustSums") s := hN.2 (RX8, 24, yX9_at, "DustSums") (by decide +kernel)
  have cw24 : va_CN ({ frames := 2, cells := 0, slots := 0, locals := 43 } : Room) s args RX8 24 yX9_at "DustSums" cX9_at 2 (some .int) wsX9_at ({ frames := 0, cells := 0, slots := 0, locals := 0 } : Room) 0 0 2 ∧ (Cond.static yX9_at).before args s = true ∧ True := ⟨va_cnB 2 hts gX8_roundsWith_X9_at_n24 rfl rfl rfl nm24 (hts (.initialized RX9) (List.mem_of_getElem? (i := 13) rfl)) (by decide +kernel) ⟨Nat.le_of_ble_eq_true rfl, Nat.le_of_ble_eq_true rfl⟩, hts (.static yX9_at) (List.mem_of_getElem? (i := 12) rfl), trivial⟩
  have mm48 : (Cond.methodLink RX8 48 Lib.Math.max.name).before args s = true := hts (.methodLink RX8 48 Lib.Math.max.name) (List.mem_of_getElem? (i := 2) rfl)
  have msmax : (Cond.static Lib.Math.max.name).before args s = true := hts (.static Lib.Math.max.name) (List.mem_of_getElem? (i := 3) rfl)
  have mi : (Cond.initialized "java/lang/Math").before args s = true := hts (.initialized "java/lang/Math") (List.mem_of_getElem? (i := 4) rfl)
  have mcmax : (Cond.code Lib.Math.max.name Lib.Math.max.code 2 (some .int)).before args s = true := hts (.code Lib.Math.max.name Lib.Math.max.code 2 (some .int)) (List.mem_of_getElem? (i := 5) rfl)
  have k_125 : ∀ (r_5 : (Nat → Int32) → Int32 → Int32 → Option O_X8_roundsWith) (g_5 : ∀ (v_rounds : Nat → Int32) (y3 : Int32) (y4 : Int32) (H : Heap) (locs : List Loc) (ls : Array Slot), r_5 v_rounds y3 y4 = some out → va_P (dC, dI) vwCl [(h_this, .inr (8, [.ref h_prices, .ref h_rounds])), (h_rounds, .inl (k_rounds, 16, .inl v_rounds)), (h_a1, .inr (2, [.ref h_a1_cells, .ref h_a1_depths, .int v_a1_became, .int v_a1_items, .int v_a1_inputs, .int v_a1_muls])), (h_a1_cells, .inl (k_a1_cells, 96, .inl v_a1_cells))] H → va_D A [(h_this, .inr (8, [.ref h_prices, .ref h_rounds])), (h_rounds, .inl (k_rounds, 16, .inl v_rounds)), (h_a1, .inr (2, [.ref h_a1_cells, .ref h_a1_depths, .int v_a1_became, .int v_a1_items, .int v_a1_inputs, .int v_a1_muls])), (h_a1_cells, .inl (k_a1_cells, 96, .inl v_a1_cells))] → va_S A s.heap H locs → lv_has ls 8 [(0, .ref h_this), (1, .ref h_a1), (2, .int x2), (3, .int y3), (4, .int y4)] → W p l e ({ frames := 2, cells := 0, slots := 0, locals := 43 } : Room) s m args below meth c H locs 0 0 Q (F0 m 5 ls [])) (v_rounds : Nat → Int32) (y3 : Int32) (y4 : Int32) (y6 : Int32) (y7 : Int32) (H : Heap) (locs : List Loc) (ls : Array Slot), f_X8_roundsWith_125 N v_a1_items v_a1_cells x2 r_5 v_rounds y3 y4 y6 y7 = some out → va_P (dC, dI) vwCl [(h_this, .inr (8, [.ref h_prices, .ref h_rounds])), (h_rounds, .inl (k_rounds, 16, .inl v_rounds)), (h_a1, .inr (2, [.ref h_a1_cells, .ref h_a1_depths, .int v_a1_became, .int v_a1_items, .int v_a1_inputs, .int v_a1_muls])), (h_a1_cells, .inl (k_a1_cells, 96, .inl v_a1_cells))] H → va_D A [(h_this, .inr (8, [.ref h_prices, .ref h_rounds])), (h_rounds, .inl (k_rounds, 16, .inl v_rounds)), (h_a1, .inr (2, [.ref h_a1_cells, .ref h_a1_depths, .int v_a1_became, .int v_a1_items, .int v_a1_inputs, .int v_a1_muls])), (h_a1_cells, .inl (k_a1_cells, 96, .inl v_a1_cells))] → va_S A s.heap H locs → lv_has ls 8 [(0, .ref h_this), (1, .ref h_a1), (2, .int x2), (3, .int y3), (4, .int y4), (6, .int y6), (7, .int y7)] → W p l e ({ frames := 2, cells := 0, slots := 0, locals := 43 } : Room) s m args below meth c H locs 0 0 Q (F0 m 125 ls []) := by
    intro r_5 g_5 v_rounds y3 y4 y6 y7 H locs ls hF hP hD hS hl
    unfold f_X8_roundsWith_125 at hF
    refine lv_aload_n hx hb dX8_roundsWith_125 rfl (lv_at hl 0 rfl) ?_
    refine va_get (D := (dC, dI)) (ci := 8) (v := .ref h_rounds) (C := RX8) (T := TX8) (N := 2) hx hb hts in_X8 hown hK hP 0 rfl rfl 1 (by decide) hL15 (fun _ h9 => h9) rfl dX8_roundsWith_126 ?_
    refine lv_iload hx hb dX8_roundsWith_129 (lv_at hl 5 rfl) ?_
    refine lv_iload hx hb dX8_roundsWith_131 (lv_at hl 6 rfl) ?_
    obtain ⟨z_133, hz_133, hF⟩ := gi_bind hF
    refine gRv (wc := [(h_rounds, .inl (k_rounds, 16, .inl v_rounds))]) (wr := [(h_this, .inr (8, [.ref h_prices, .ref h_rounds])), (h_a1, .inr (2, [.ref h_a1_cells, .ref h_a1_depths, .int v_a1_became, .int v_a1_items, .int v_a1_inputs, .int v_a1_muls])), (h_a1_cells, .inl (k_a1_cells, 96, .inl v_a1_cells))]) (w1 := [(h_rounds, .inl (k_rounds, 16, .inl z_133))]) hP hD hS hA [1] [0, 2, 3] rfl rfl (by decide) (by decide) (va_runSN (As := [.ref h_rounds, .int y6, .int y7]) (rest := []) CF (t_X9_put l dC dI h_rounds k_rounds 16 v_rounds H.size y6 y7 N z_133 hz_133) cw53 (gPS hP hD hK hN [1] [0] (by decide) rfl rfl) rfl rfl hl.1 rfl (lv_room (Nat.le_of_ble_eq_true rfl)) dX8_roundsWith_133 ⟨Nat.zero_le _, Nat.zero_le _⟩) (fun H locs hP hD hS => ?_)
    have hP : va_P (dC, dI) vwCl [(h_this, .inr (8, [.ref h_prices, .ref h_rounds])), (h_a1, .inr (2, [.ref h_a1_cells, .ref h_a1_depths, .int v_a1_became, .int v_a1_items, .int v_a1_inputs, .int v_a1_muls])), (h_a1_cells, .inl (k_a1_cells, 96, .inl v_a1_cells)), (h_rounds, .inl (k_rounds, 16, .inl z_133))] H := hP
    have hD : va_D A [(h_this, .inr (8, [.ref h_prices, .ref h_rounds])), (h_a1, .inr (2, [.ref h_a1_cells, .ref h_a1_depths, .int v_a1_became, .int v_a1_items, .int v_a1_inputs, .int v_a1_muls])), (h_a1_cells, .inl (k_a1_cells, 96, .inl v_a1_cells)), (h_rounds, .inl (k_rounds, 16, .inl z_133))] := hD
    refine lv_iinc (v := (y4 + 1)) (lv' := [(4, .int (y4 + 1)), (0, .ref h_this), (1, .ref h_a1), (2, .int x2), (3, .int y3), (6, .int y6), (7, .int y7)]) hx hb dX8_roundsWith_136 hl (k := 4) rfl rfl (by decide) rfl (fun ls hl => ?_)
    refine lv_goto (tgt := 5) hx hb dX8_roundsWith_139 (by decide) ?_
    exact g_5 z_133 y3 (y4 + 1) _ _ _ hF (hP.sub [0, 3, 1, 2] rfl) (hD.sub [0, 3, 1, 2] (by decide) rfl) hS (lv_sub hl [1, 2, 3, 4, 0] rfl)
  have k_119 : ∀ (r_5 : (Nat → Int32) → Int32 → Int32 → Option O_X8_roundsWith) (g_5 : ∀ (v_rounds : Nat → Int32) (y3 : Int32) (y4 : Int32) (H : Heap) (locs : List Loc) (ls : Array Slot), r_5 v_rounds y3 y4 = some out → va_P (dC, dI) vwCl [(h_this, .inr (8, [.ref h_prices, .ref h_rounds])), (h_rounds, .inl (k_rounds, 16, .inl v_rounds)), (h_a1, .inr (2, [.ref h_a1_cells, .ref h_a1_depths, .int v_a1_became, .int v_a1_items, .int v_a1_inputs, .int v_a1_muls])), (h_a1_cells, .inl (k_a1_cells, 96, .inl v_a1_cells))] H → va_D A [(h_this, .inr (8, [.ref h_prices, .ref h_rounds])), (h_rounds, .inl (k_rounds, 16, .inl v_rounds)), (h_a1, .inr (2, [.ref h_a1_cells, .ref h_a1_depths, .int v_a1_became, .int v_a1_items, .int v_a1_inputs, .int v_a1_muls])), (h_a1_cells, .inl (k_a1_cells, 96, .inl v_a1_cells))] → va_S A s.heap H locs → lv_has ls 8 [(0, .ref h_this), (1, .ref h_a1), (2, .int x2), (3, .int y3), (4, .int y4)] → W p l e ({ frames := 2, cells := 0, slots := 0, locals := 43 } : Room) s m args below meth c H locs 0 0 Q (F0 m 5 ls [])) (v_rounds : Nat → Int32) (y3 : Int32) (y4 : Int32) (y6 : Int32) (t0 : Int32) (t1 : Int32) (H : Heap) (locs : List Loc) (ls : Array Slot), f_X8_roundsWith_119 N v_a1_items v_a1_cells x2 r_5 v_rounds y3 y4 y6 t0 t1 = some out → va_P (dC, dI) vwCl [(h_this, .inr (8, [.ref h_prices, .ref h_rounds])), (h_rounds, .inl (k_rounds, 16, .inl v_rounds)), (h_a1, .inr (2, [.ref h_a1_cells, .ref h_a1_depths, .int v_a1_became, .int v_a1_items, .int v_a1_inputs, .int v_a1_muls])), (h_a1_cells, .inl (k_a1_cells, 96, .inl v_a1_cells))] H → va_D A [(h_this, .inr (8, [.ref h_prices, .ref h_rounds])), (h_rounds, .inl (k_rounds, 16, .inl v_rounds)), (h_a1, .inr (2, [.ref h_a1_cells, .ref h_a1_depths, .int v_a1_became, .int v_a1_items, .int v_a1_inputs, .int v_a1_muls])), (h_a1_cells, .inl (k_a1_cells, 96, .inl v_a1_cells))] → va_S A s.heap H locs → lv_has ls 8 [(0, .ref h_this), (1, .ref h_a1), (2, .int x2), (3, .int y3), (4, .int y4), (6, .int y6)] → W p l e ({ frames := 2, cells := 0, slots := 0, locals := 43 } : Room) s m args below meth c H locs 0 0 Q (F0 m 119 ls [.int t1, .int t0]) := by
    intro r_5 g_5 v_rounds y3 y4 y6 t0 t1 H locs ls hF hP hD hS hl
    unfold f_X8_roundsWith_119 at hF
    refine lv_iadd hx hb dX8_roundsWith_119 ?_
    refine lv_istore (lv' := [(7, .int (t0 + t1)), (0, .ref h_this), (1, .ref h_a1), (2, .int x2), (3, .int y3), (4, .int y4), (6, .int y6)]) hx hb dX8_roundsWith_120 hl (by decide) rfl (fun ls hl => ?_)
    refine lv_iinc (v := (y3 + 1)) (lv' := [(3, .int (y3 + 1)), (7, .int (t0 + t1)), (0, .ref h_this), (1, .ref h_a1), (2, .int x2), (4, .int y4), (6, .int y6)]) hx hb dX8_roundsWith_122 hl (k := 4) rfl rfl (by decide) rfl (fun ls hl => ?_)
    exact k_125 r_5 g_5 v_rounds (y3 + 1) y4 y6 (t0 + t1) _ _ _ hF hP hD hS (lv_sub hl [2, 3, 4, 0, 5, 6, 1] rfl)
  have k_97 : ∀ (r_5 : (Nat → Int32) → Int32 → Int32 → Option O_X8_roundsWith) (g_5 : ∀ (v_rounds : Nat → Int32) (y3 : Int32) (y4 : Int32) (H : Heap) (locs : List Loc) (ls : Array Slot), r_5 v_rounds y3 y4 = some out → va_P (dC, dI) vwCl [(h_this, .inr (8, [.ref h_prices, .ref h_rounds])), (h_rounds, .inl (k_rounds, 16, .inl v_rounds)), (h_a1, .inr (2, [.ref h_a1_cells, .ref h_a1_depths, .int v_a1_became, .int v_a1_items, .int v_a1_inputs, .int v_a1_muls])), (h_a1_cells, .inl (k_a1_cells, 96, .inl v_a1_cells))] H → va_D A [(h_this, .inr (8, [.ref h_prices, .ref h_rounds])), (h_rounds, .inl (k_rounds, 16, .inl v_rounds)), (h_a1, .inr (2, [.ref h_a1_cells, .ref h_a1_depths, .int v_a1_became, .int v_a1_items, .int v_a1_inputs, .int v_a1_muls])), (h_a1_cells, .inl (k_a1_cells, 96, .inl v_a1_cells))] → va_S A s.heap H locs → lv_has ls 8 [(0, .ref h_this), (1, .ref h_a1), (2, .int x2), (3, .int y3), (4, .int y4)] → W p l e ({ frames := 2, cells := 0, slots := 0, locals := 43 } : Room) s m args below meth c H locs 0 0 Q (F0 m 5 ls [])) (v_rounds : Nat → Int32) (y3 : Int32) (y4 : Int32) (y5 : Int32) (y6 : Int32) (y7 : Int32) (H : Heap) (locs : List Loc) (ls : Array Slot), f_X8_roundsWith_97 N v_a1_items v_a1_cells x2 r_5 v_rounds y3 y4 y5 y6 y7 = some out → va_P (dC, dI) vwCl [(h_this, .inr (8, [.ref h_prices, .ref h_rounds])), (h_rounds, .inl (k_rounds, 16, .inl v_rounds)), (h_a1, .inr (2, [.ref h_a1_cells, .ref h_a1_depths, .int v_a1_became, .int v_a1_items, .int v_a1_inputs, .int v_a1_muls])), (h_a1_cells, .inl (k_a1_cells, 96, .inl v_a1_cells))] H → va_D A [(h_this, .inr (8, [.ref h_prices, .ref h_rounds])), (h_rounds, .inl (k_rounds, 16, .inl v_rounds)), (h_a1, .inr (2, [.ref h_a1_cells, .ref h_a1_depths, .int v_a1_became, .int v_a1_items, .int v_a1_inputs, .int v_a1_muls])), (h_a1_cells, .inl (k_a1_cells, 96, .inl v_a1_cells))] → va_S A s.heap H locs → lv_has ls 8 [(0, .ref h_this), (1, .ref h_a1), (2, .int x2), (3, .int y3), (4, .int y4), (5, .int y5), (6, .int y6), (7, .int y7)] → W p l e ({ frames := 2, cells := 0, slots := 0, locals := 43 } : Room) s m args below meth c H locs 0 0 Q (F0 m 97 ls []) := by
    intro r_5 g_5 v_rounds y3 y4 y5 y6 y7 H locs ls hF hP hD hS hl
    unfold f_X8_roundsWith_97 at hF
    refine lv_iload hx hb dX8_roundsWith_97 (lv_at hl 5 rfl) ?_
    refine lv_iconst (v := (4 : Int32)) hx hb dX8_roundsWith_99 (by decide) ?_
    refine lv_icmp_ne (tgt := 125) hx hb dX8_roundsWith_100 (by decide) (fun c_100 => ?_) (fun c_100 => ?_)
    · have hF := gi_f c_100 hF
      exact k_125 r_5 g_5 v_rounds y3 y4 y6 y7 _ _ _ hF hP hD hS (lv_sub hl [0, 1, 2, 3, 4, 6, 7] rfl)
    · have hF := gi_t c_100 hF
      refine lv_iload hx hb dX8_roundsWith_103 (lv_at hl 7 rfl) ?_
      refine lv_iload_n hx hb dX8_roundsWith_105 rfl (lv_at hl 2 rfl) ?_
      refine lv_iload_n hx hb dX8_roundsWith_106 rfl (lv_at hl 3 rfl) ?_
      refine lv_ishr hx hb dX8_roundsWith_107 ?_
      refine lv_iconst (v := (1 : Int32)) hx hb dX8_roundsWith_108 (by decide) ?_
      refine lv_iand hx hb dX8_roundsWith_109 ?_
      refine lv_iconst (v := (1 : Int32)) hx hb dX8_roundsWith_110 (by decide) ?_
      refine lv_icmp_ne (tgt := 118) hx hb dX8_roundsWith_111 (by decide) (fun c_111 => ?_) (fun c_111 => ?_)
      · have hF := gi_f c_111 hF
        refine lv_iconst (v := (1 : Int32)) hx hb dX8_roundsWith_118 (by decide) ?_
        exact k_119 r_5 g_5 v_rounds y3 y4 y6 y7 (1 : Int32) _ _ _ hF hP hD hS (lv_sub hl [0, 1, 2, 3, 4, 6] rfl)
      · have hF := gi_t c_111 hF
        refine lv_iconst (v := (2 : Int32)) hx hb dX8_roundsWith_114 (by decide) ?_
        refine lv_goto (tgt := 119) hx hb dX8_roundsWith_115 (by decide) ?_
        exact k_119 r_5 g_5 v_rounds y3 y4 y6 y7 (2 : Int32) _ _ _ hF hP hD hS (lv_sub hl [0, 1, 2, 3, 4, 6] rfl)
  have k_38 : ∀ (v_rounds : Nat → Int32) (y6 : Int32) (H : Heap) (locs : List Loc) (ls : Array Slot), f_X8_roundsWith_38 N v_a1_items v_a1_cells x2 v_rounds y6 = some out → va_P (dC, dI) vwCl [(h_this, .inr (8, [.ref h_prices, .ref h_rounds])), (h_rounds, .inl (k_rounds, 16, .inl v_rounds)), (h_a1, .inr (2, [.ref h_a1_cells, .ref h_a1_depths, .int v_a1_became, .int v_a1_items, .int v_a1_inputs, .int v_a1_muls])), (h_a1_cells, .inl (k_a1_cells, 96, .inl v_a1_cells))] H → va_D A [(h_this, .inr (8, [.ref h_prices, .ref h_rounds])), (h_rounds, .inl (k_rounds, 16, .inl v_rounds)), (h_a1, .inr (2, [.ref h_a1_cells, .ref h_a1_depths, .int v_a1_became, .int v_a1_items, .int v_a1_inputs, .int v_a1_muls])), (h_a1_cells, .inl (k_a1_cells, 96, .inl v_a1_cells))] → va_S A s.heap H locs → lv_has ls 8 [(0, .ref h_this), (6, .int y6)] → W p l e ({ frames := 2, cells := 0, slots := 0, locals := 43 } : Room) s m args below meth c H locs 0 0 Q (F0 m 38 ls []) := by
    intro v_rounds y6 H locs ls hF hP hD hS hl
    unfold f_X8_roundsWith_38 at hF
    refine lv_aload_n hx hb dX8_roundsWith_38 rfl (lv_at hl 0 rfl) ?_
    refine va_get (D := (dC, dI)) (ci := 8) (v := .ref h_rounds) (C := RX8) (T := TX8) (N := 2) hx hb hts in_X8 hown hK hP 0 rfl rfl 1 (by decide) hL15 (fun _ h9 => h9) rfl dX8_roundsWith_39 ?_
    refine lv_iload hx hb dX8_roundsWith_42 (lv_at hl 1 rfl) ?_
    obtain ⟨z_44, hz_44, hF⟩ := gi_bind hF
    refine gRi (wc := [(h_rounds, .inl (k_rounds, 16, .inl v_rounds))]) (wr := [(h_this, .inr (8, [.ref h_prices, .ref h_rounds])), (h_a1, .inr (2, [.ref h_a1_cells, .ref h_a1_depths, .int v_a1_became, .int v_a1_items, .int v_a1_inputs, .int v_a1_muls])), (h_a1_cells, .inl (k_a1_cells, 96, .inl v_a1_cells))]) (w1 := [(h_rounds, .inl (k_rounds, 16, .inl v_rounds))]) hP hD hS hA [1] [0, 2, 3] rfl rfl (by decide) (by decide) (va_runSN (As := [.ref h_rounds, .int y6]) (rest := []) CF (t_X9_at l dC dI h_rounds k_rounds 16 v_rounds H.size y6 N z_44 hz_44) cw24 (gPS hP hD hK hN [1] [0] (by decide) rfl rfl) rfl rfl hl.1 rfl (lv_room (Nat.le_of_ble_eq_true rfl)) dX8_roundsWith_44 ⟨Nat.zero_le _, Nat.zero_le _⟩) (fun H locs hP hD hS => ?_)
    have hP : va_P (dC, dI) vwCl [(h_this, .inr (8, [.ref h_prices, .ref h_rounds])), (h_a1, .inr (2, [.ref h_a1_cells, .ref h_a1_depths, .int v_a1_became, .int v_a1_items, .int v_a1_inputs, .int v_a1_muls])), (h_a1_cells, .inl (k_a1_cells, 96, .inl v_a1_cells)), (h_rounds, .inl (k_rounds, 16, .inl v_rounds))] H := hP
    have hD : va_D A [(h_this, .inr (8, [.ref h_prices, .ref h_rounds])), (h_a1, .inr (2, [.ref h_a1_cells, .ref h_a1_depths, .int v_a1_became, .int v_a1_items, .int v_a1_inputs, .int v_a1_muls])), (h_a1_cells, .inl (k_a1_cells, 96, .inl v_a1_cells)), (h_rounds, .inl (k_rounds, 16, .inl v_rounds))] := hD
    refine lv_iconst (v := (1 : Int32)) hx hb dX8_roundsWith_47 (by decide) ?_
    refine lv_iadd hx hb dX8_roundsWith_48 ?_
    have hF := Option.some.inj hF
    subst hF
    exact hret _ _ _ _ dX8_roundsWith_49 (hP.sub [0, 3, 1, 2] rfl) (hD.sub [0, 3, 1, 2] (by decide) rfl) hS
  have k_5 : ∀ (n : Nat) (v_rounds : Nat → Int32) (y3 : Int32) (y4 : Int32) (H : Heap) (locs : List Loc) (ls : Array Slot), f_X8_roundsWith_5 N v_a1_items v_a1_cells x2 n v_rounds y3 y4 = some out → va_P (dC, dI) vwCl [(h_this, .inr (8, [.ref h_prices, .ref h_rounds])), (h_rounds, .inl (k_rounds, 16, .inl v_rounds)), (h_a1, .inr (2, [.ref h_a1_cells, .ref h_a1_depths, .int v_a1_became, .int v_a1_items, .int v_a1_inputs, .int v_a1_muls])), (h_a1_cells, .inl (k_a1_cells, 96, .inl v_a1_cells))] H → va_D A [(h_this, .inr (8, [.ref h_prices, .ref h_rounds])), (h_rounds, .inl (k_rounds, 16, .inl v_rounds)), (h_a1, .inr (2, [.ref h_a1_cells, .ref h_a1_depths, .int v_a1_became, .int v_a1_items, .int v_a1_inputs, .int v_a1_muls])), (h_a1_cells, .inl (k_a1_cells, 96, .inl v_a1_cells))] → va_S A s.heap H locs → lv_has ls 8 [(0, .ref h_this), (1, .ref h_a1), (2, .int x2), (3, .int y3), (4, .int y4)] → W p l e ({ frames := 2, cells := 0, slots := 0, locals := 43 } : Room) s m args below meth c H locs 0 0 Q (F0 m 5 ls []) := by
    intro n
    induction n with
    | zero =>
      intro v_rounds y3 y4 H locs ls hF
      have hF : (none : Option O_X8_roundsWith) = some out := hF
      cases hF
    | succ n ih =>
      intro v_rounds y3 y4 H locs ls hF hP hD hS hl
      have hF : s_X8_roundsWith_5 N v_a1_items v_a1_cells x2 (f_X8_roundsWith_5 N v_a1_items v_a1_cells x2 n) v_rounds y3 y4 = some out := hF
      generalize f_X8_roundsWith_5 N v_a1_items v_a1_cells x2 n = r_5 at hF ih
      have g_5 : ∀ (v_rounds : Nat → Int32) (y3 : Int32) (y4 : Int32) (H : Heap) (locs : List Loc) (ls : Array Slot), r_5 v_rounds y3 y4 = some out → va_P (dC, dI) vwCl [(h_this, .inr (8, [.ref h_prices, .ref h_rounds])), (h_rounds, .inl (k_rounds, 16, .inl v_rounds)), (h_a1, .inr (2, [.ref h_a1_cells, .ref h_a1_depths, .int v_a1_became, .int v_a1_items, .int v_a1_inputs, .int v_a1_muls])), (h_a1_cells, .inl (k_a1_cells, 96, .inl v_a1_cells))] H → va_D A [(h_this, .inr (8, [.ref h_prices, .ref h_rounds])), (h_rounds, .inl (k_rounds, 16, .inl v_rounds)), (h_a1, .inr (2, [.ref h_a1_cells, .ref h_a1_depths, .int v_a1_became, .int v_a1_items, .int v_a1_inputs, .int v_a1_muls])), (h_a1_cells, .inl (k_a1_cells, 96, .inl v_a1_cells))] → va_S A s.heap H locs → lv_has ls 8 [(0, .ref h_this), (1, .ref h_a1), (2, .int x2), (3, .int y3), (4, .int y4)] → W p l e ({ frames := 2, cells := 0, slots := 0, locals := 43 } : Room) s m args below meth c H locs 0 0 Q (F0 m 5 ls []) := ih
      clear ih
      unfold s_X8_roundsWith_5 at hF
      refine lv_iload hx hb dX8_roundsWith_5 (lv_at hl 4 rfl) ?_
      refine lv_aload_n hx hb dX8_roundsWith_7 rfl (lv_at hl 1 rfl) ?_
      refine va_getN (D := (dC, dI)) (ci := 2) (v := .int v_a1_items) (C := RX2) (T := TX2) (N := 6) hx hb hts in_X2 hown hK hP 2 rfl rfl 3 (by decide) hL42 (fun _ h9 => h9) rfl dX8_roundsWith_8 ?_
      refine lv_icmp_ge (tgt := 142) hx hb dX8_roundsWith_11 (by decide) (fun c_11 => ?_) (fun c_11 => ?_)
      · have hF := gi_t c_11 hF
        refine lv_iconst (v := (0 : Int32)) hx hb dX8_roundsWith_142 (by decide) ?_
        have hF := Option.some.inj hF
        subst hF
        exact hret _ _ _ _ dX8_roundsWith_143 hP hD hS
      · have hF := gi_f c_11 hF
        refine lv_aload_n hx hb dX8_roundsWith_14 rfl (lv_at hl 1 rfl) ?_
        refine lv_iload hx hb dX8_roundsWith_15 (lv_at hl 4 rfl) ?_
        refine lv_iconst (v := (0 : Int32)) hx hb dX8_roundsWith_17 (by decide) ?_
        obtain ⟨z_18, hz_18, hF⟩ := gi_bind hF
        refine gRi (wc := [(h_a1, .inr (2, [.ref h_a1_cells, .ref h_a1_depths, .int v_a1_became, .int v_a1_items, .int v_a1_inputs, .int v_a1_muls])), (h_a1_cells, .inl (k_a1_cells, 96, .inl v_a1_cells))]) (wr := [(h_this, .inr (8, [.ref h_prices, .ref h_rounds])), (h_rounds, .inl (k_rounds, 16, .inl v_rounds))]) (w1 := [(h_a1, .inr (2, [.ref h_a1_cells, .ref h_a1_depths, .int v_a1_became, .int v_a1_items, .int v_a1_inputs, .int v_a1_muls])), (h_a1_cells, .inl (k_a1_cells, 96, .inl v_a1_cells))]) hP hD hS hA [2, 3] [0, 1] rfl rfl (by decide) (by decide) (va_runV (As := [.int y4, .int (0 : Int32)]) (rest := []) CF (t_X2_cell l dC dI h_a1 h_a1_cells h_a1_depths v_a1_became v_a1_items v_a1_inputs v_a1_muls k_a1_cells v_a1_cells H.size y4 (0 : Int32) N z_18 hz_18) cw45 (gPV (ci := 2) hP hD hK hN [2, 3] [1] (by decide) rfl rfl (q0 := 2) rfl rfl) rfl rfl hl.1 rfl (lv_room (Nat.le_of_ble_eq_true rfl)) dX8_roundsWith_18 ⟨Nat.zero_le _, Nat.zero_le _⟩) (fun H locs hP hD hS => ?_)
        have hP : va_P (dC, dI) vwCl [(h_this, .inr (8, [.ref h_prices, .ref h_rounds])), (h_rounds, .inl (k_rounds, 16, .inl v_rounds)), (h_a1, .inr (2, [.ref h_a1_cells, .ref h_a1_depths, .int v_a1_became, .int v_a1_items, .int v_a1_inputs, .int v_a1_muls])), (h_a1_cells, .inl (k_a1_cells, 96, .inl v_a1_cells))] H := hP
        have hD : va_D A [(h_this, .inr (8, [.ref h_prices, .ref h_rounds])), (h_rounds, .inl (k_rounds, 16, .inl v_rounds)), (h_a1, .inr (2, [.ref h_a1_cells, .ref h_a1_depths, .int v_a1_became, .int v_a1_items, .int v_a1_inputs, .int v_a1_muls])), (h_a1_cells, .inl (k_a1_cells, 96, .inl v_a1_cells))] := hD
        refine lv_istore (lv' := [(5, .int z_18), (0, .ref h_this), (1, .ref h_a1), (2, .int x2), (3, .int y3), (4, .int y4)]) hx hb dX8_roundsWith_21 hl (by decide) rfl (fun ls hl => ?_)
        refine lv_aload_n hx hb dX8_roundsWith_23 rfl (lv_at hl 2 rfl) ?_
        refine lv_iload hx hb dX8_roundsWith_24 (lv_at hl 5 rfl) ?_
        refine lv_iconst (v := (1 : Int32)) hx hb dX8_roundsWith_26 (by decide) ?_
        obtain ⟨z_27, hz_27, hF⟩ := gi_bind hF
        refine gRi (wc := [(h_a1, .inr (2, [.ref h_a1_cells, .ref h_a1_depths, .int v_a1_became, .int v_a1_items, .int v_a1_inputs, .int v_a1_muls])), (h_a1_cells, .inl (k_a1_cells, 96, .inl v_a1_cells))]) (wr := [(h_this, .inr (8, [.ref h_prices, .ref h_rounds])), (h_rounds, .inl (k_rounds, 16, .inl v_rounds))]) (w1 := [(h_a1, .inr (2, [.ref h_a1_cells, .ref h_a1_depths, .int v_a1_became, .int v_a1_items, .int v_a1_inputs, .int v_a1_muls])), (h_a1_cells, .inl (k_a1_cells, 96, .inl v_a1_cells))]) hP hD hS hA [2, 3] [0, 1] rfl rfl (by decide) (by decide) (va_runV (As := [.int y4, .int (1 : Int32)]) (rest := []) CF (t_X2_cell l dC dI h_a1 h_a1_cells h_a1_depths v_a1_became v_a1_items v_a1_inputs v_a1_muls k_a1_cells v_a1_cells H.size y4 (1 : Int32) N z_27 hz_27) cw45 (gPV (ci := 2) hP hD hK hN [2, 3] [1] (by decide) rfl rfl (q0 := 2) rfl rfl) rfl rfl hl.1 rfl (lv_room (Nat.le_of_ble_eq_true rfl)) dX8_roundsWith_27 ⟨Nat.zero_le _, Nat.zero_le _⟩) (fun H locs hP hD hS => ?_)
        have hP : va_P (dC, dI) vwCl [(h_this, .inr (8, [.ref h_prices, .ref h_rounds])), (h_rounds, .inl (k_rounds, 16, .inl v_rounds)), (h_a1, .inr (2, [.ref h_a1_cells, .ref h_a1_depths, .int v_a1_became, .int v_a1_items, .int v_a1_inputs, .int v_a1_muls])), (h_a1_cells, .inl (k_a1_cells, 96, .inl v_a1_cells))] H := hP
        have hD : va_D A [(h_this, .inr (8, [.ref h_prices, .ref h_rounds])), (h_rounds, .inl (k_rounds, 16, .inl v_rounds)), (h_a1, .inr (2, [.ref h_a1_cells, .ref h_a1_depths, .int v_a1_became, .int v_a1_items, .int v_a1_inputs, .int v_a1_muls])), (h_a1_cells, .inl (k_a1_cells, 96, .inl v_a1_cells))] := hD
        refine lv_istore (lv' := [(6, .int z_27), (5, .int z_18), (0, .ref h_this), (1, .ref h_a1), (2, .int x2), (3, .int y3), (4, .int y4)]) hx hb dX8_roundsWith_30 hl (by decide) rfl (fun ls hl => ?_)
        refine lv_iload hx hb dX8_roundsWith_32 (lv_at hl 1 rfl) ?_
        refine lv_iconst (v := (5 : Int32)) hx hb dX8_roundsWith_34 (by decide) ?_
        refine lv_icmp_ne (tgt := 50) hx hb dX8_roundsWith_35 (by decide) (fun c_35 => ?_) (fun c_35 => ?_)
        · have hF := gi_f c_35 hF
          refine lv_iconst (v := (0 : Int32)) hx hb dX8_roundsWith_50 (by decide) ?_
          refine lv_istore (lv' := [(7, .int (0 : Int32)), (6, .int z_27), (5, .int z_18), (0, .ref h_this), (1, .ref h_a1), (2, .int x2), (3, .int y3), (4, .int y4)]) hx hb dX8_roundsWith_51 hl (by decide) rfl (fun ls hl => ?_)
          refine lv_iload hx hb dX8_roundsWith_53 (lv_at hl 2 rfl) ?_
          refine lv_if_eq (tgt := 97) hx hb dX8_roundsWith_55 (by decide) (fun c_55 => ?_) (fun c_55 => ?_)
          · have hF := gi_t c_55 hF
            exact k_97 r_5 g_5 v_rounds y3 y4 z_18 z_27 (0 : Int32) _ _ _ hF hP hD hS (lv_sub hl [3, 4, 5, 6, 7, 2, 1, 0] rfl)
          · have hF := gi_f c_55 hF
            refine lv_iload hx hb dX8_roundsWith_58 (lv_at hl 2 rfl) ?_
            refine lv_iconst (v := (1 : Int32)) hx hb dX8_roundsWith_60 (by decide) ?_
            refine lv_icmp_eq (tgt := 97) hx hb dX8_roundsWith_61 (by decide) (fun c_61 => ?_) (fun c_61 => ?_)
            · have hF := gi_t c_61 hF
              exact k_97 r_5 g_5 v_rounds y3 y4 z_18 z_27 (0 : Int32) _ _ _ hF hP hD hS (lv_sub hl [3, 4, 5, 6, 7, 2, 1, 0] rfl)
            · have hF := gi_f c_61 hF
              refine lv_aload_n hx hb dX8_roundsWith_64 rfl (lv_at hl 3 rfl) ?_
              refine va_get (D := (dC, dI)) (ci := 8) (v := .ref h_rounds) (C := RX8) (T := TX8) (N := 2) hx hb hts in_X8 hown hK hP 0 rfl rfl 1 (by decide) hL15 (fun _ h9 => h9) rfl dX8_roundsWith_65 ?_
              refine lv_aload_n hx hb dX8_roundsWith_68 rfl (lv_at hl 4 rfl) ?_
              refine lv_iload hx hb dX8_roundsWith_69 (lv_at hl 7 rfl) ?_
              refine lv_iconst (v := (2 : Int32)) hx hb dX8_roundsWith_71 (by decide) ?_
              obtain ⟨z_72, hz_72, hF⟩ := gi_bind hF
              refine gRi (wc := [(h_a1, .inr (2, [.ref h_a1_cells, .ref h_a1_depths, .int v_a1_became, .int v_a1_items, .int v_a1_inputs, .int v_a1_muls])), (h_a1_cells, .inl (k_a1_cells, 96, .inl v_a1_cells))]) (wr := [(h_this, .inr (8, [.ref h_prices, .ref h_rounds])), (h_rounds, .inl (k_rounds, 16, .inl v_rounds))]) (w1 := [(h_a1, .inr (2, [.ref h_a1_cells, .ref h_a1_depths, .int v_a1_became, .int v_a1_items, .int v_a1_inputs, .int v_a1_muls])), (h_a1_cells, .inl (k_a1_cells, 96, .inl v_a1_cells))]) hP hD hS hA [2, 3] [0, 1] rfl rfl (by decide) (by decide) (va_runV (As := [.int y4, .int (2 : Int32)]) (rest := [.ref h_rounds]) CF (t_X2_cell l dC dI h_a1 h_a1_cells h_a1_depths v_a1_became v_a1_items v_a1_inputs v_a1_muls k_a1_cells v_a1_cells H.size y4 (2 : Int32) N z_72 hz_72) cw45 (gPV (ci := 2) hP hD hK hN [2, 3] [1] (by decide) rfl rfl (q0 := 2) rfl rfl) rfl rfl hl.1 rfl (lv_room (Nat.le_of_ble_eq_true rfl)) dX8_roundsWith_72 ⟨Nat.zero_le _, Nat.zero_le _⟩) (fun H locs hP hD hS => ?_)
              have hP : va_P (dC, dI) vwCl [(h_this, .inr (8, [.ref h_prices, .ref h_rounds])), (h_rounds, .inl (k_rounds, 16, .inl v_rounds)), (h_a1, .inr (2, [.ref h_a1_cells, .ref h_a1_depths, .int v_a1_became, .int v_a1_items, .int v_a1_inputs, .int v_a1_muls])), (h_a1_cells, .inl (k_a1_cells, 96, .inl v_a1_cells))] H := hP
              have hD : va_D A [(h_this, .inr (8, [.ref h_prices, .ref h_rounds])), (h_rounds, .inl (k_rounds, 16, .inl v_rounds)), (h_a1, .inr (2, [.ref h_a1_cells, .ref h_a1_depths, .int v_a1_became, .int v_a1_items, .int v_a1_inputs, .int v_a1_muls])), (h_a1_cells, .inl (k_a1_cells, 96, .inl v_a1_cells))] := hD
              obtain ⟨z_75, hz_75, hF⟩ := gi_bind hF
              refine gRi (wc := [(h_rounds, .inl (k_rounds, 16, .inl v_rounds))]) (wr := [(h_this, .inr (8, [.ref h_prices, .ref h_rounds])), (h_a1, .inr (2, [.ref h_a1_cells, .ref h_a1_depths, .int v_a1_became, .int v_a1_items, .int v_a1_inputs, .int v_a1_muls])), (h_a1_cells, .inl (k_a1_cells, 96, .inl v_a1_cells))]) (w1 := [(h_rounds, .inl (k_rounds, 16, .inl v_rounds))]) hP hD hS hA [1] [0, 2, 3] rfl rfl (by decide) (by decide) (va_runSN (As := [.ref h_rounds, .int z_72]) (rest := []) CF (t_X9_at l dC dI h_rounds k_rounds 16 v_rounds H.size z_72 N z_75 hz_75) cw24 (gPS hP hD hK hN [1] [0] (by decide) rfl rfl) rfl rfl hl.1 rfl (lv_room (Nat.le_of_ble_eq_true rfl)) dX8_roundsWith_75 ⟨Nat.zero_le _, Nat.zero_le _⟩) (fun H locs hP hD hS => ?_)
              have hP : va_P (dC, dI) vwCl [(h_this, .inr (8, [.ref h_prices, .ref h_rounds])), (h_a1, .inr (2, [.ref h_a1_cells, .ref h_a1_depths, .int v_a1_became, .int v_a1_items, .int v_a1_inputs, .int v_a1_muls])), (h_a1_cells, .inl (k_a1_cells, 96, .inl v_a1_cells)), (h_rounds, .inl (k_rounds, 16, .inl v_rounds))] H := hP
              have hD : va_D A [(h_this, .inr (8, [.ref h_prices, .ref h_rounds])), (h_a1, .inr (2, [.ref h_a1_cells, .ref h_a1_depths, .int v_a1_became, .int v_a1_items, .int v_a1_inputs, .int v_a1_muls])), (h_a1_cells, .inl (k_a1_cells, 96, .inl v_a1_cells)), (h_rounds, .inl (k_rounds, 16, .inl v_rounds))] := hD
              refine lv_aload_n hx hb dX8_roundsWith_78 rfl (lv_at hl 3 rfl) ?_
              refine va_get (D := (dC, dI)) (ci := 8) (v := .ref h_rounds) (C := RX8) (T := TX8) (N := 2) hx hb hts in_X8 hown hK hP 0 rfl rfl 1 (by decide) hL15 (fun _ h9 => h9) rfl dX8_roundsWith_79 ?_
              refine lv_aload_n hx hb dX8_roundsWith_82 rfl (lv_at hl 4 rfl) ?_
              refine lv_iload hx hb dX8_roundsWith_83 (lv_at hl 7 rfl) ?_
              refine lv_iconst (v := (3 : Int32)) hx hb dX8_roundsWith_85 (by decide) ?_
              obtain ⟨z_86, hz_86, hF⟩ := gi_bind hF
              refine gRi (wc := [(h_a1, .inr (2, [.ref h_a1_cells, .ref h_a1_depths, .int v_a1_became, .int v_a1_items, .int v_a1_inputs, .int v_a1_muls])), (h_a1_cells, .inl (k_a1_cells, 96, .inl v_a1_cells))]) (wr := [(h_this, .inr (8, [.ref h_prices, .ref h_rounds])), (h_rounds, .inl (k_rounds, 16, .inl v_rounds))]) (w1 := [(h_a1, .inr (2, [.ref h_a1_cells, .ref h_a1_depths, .int v_a1_became, .int v_a1_items, .int v_a1_inputs, .int v_a1_muls])), (h_a1_cells, .inl (k_a1_cells, 96, .inl v_a1_cells))]) hP hD hS hA [1, 2] [0, 3] rfl rfl (by decide) (by decide) (va_runV (As := [.int y4, .int (3 : Int32)]) (rest := [.ref h_rounds, .int z_75]) CF (t_X2_cell l dC dI h_a1 h_a1_cells h_a1_depths v_a1_became v_a1_items v_a1_inputs v_a1_muls k_a1_cells v_a1_cells H.size y4 (3 : Int32) N z_86 hz_86) cw45 (gPV (ci := 2) hP hD hK hN [1, 2] [1] (by decide) rfl rfl (q0 := 1) rfl rfl) rfl rfl hl.1 rfl (lv_room (Nat.le_of_ble_eq_true rfl)) dX8_roundsWith_86 ⟨Nat.zero_le _, Nat.zero_le _⟩) (fun H locs hP hD hS => ?_)
              have hP : va_P (dC, dI) vwCl [(h_this, .inr (8, [.ref h_prices, .ref h_rounds])), (h_rounds, .inl (k_rounds, 16, .inl v_rounds)), (h_a1, .inr (2, [.ref h_a1_cells, .ref h_a1_depths, .int v_a1_became, .int v_a1_items, .int v_a1_inputs, .int v_a1_muls])), (h_a1_cells, .inl (k_a1_cells, 96, .inl v_a1_cells))] H := hP
              have hD : va_D A [(h_this, .inr (8, [.ref h_prices, .ref h_rounds])), (h_rounds, .inl (k_rounds, 16, .inl v_rounds)), (h_a1, .inr (2, [.ref h_a1_cells, .ref h_a1_depths, .int v_a1_became, .int v_a1_items, .int v_a1_inputs, .int v_a1_muls])), (h_a1_cells, .inl (k_a1_cells, 96, .inl v_a1_cells))] := hD
              obtain ⟨z_89, hz_89, hF⟩ := gi_bind hF
              refine gRi (wc := [(h_rounds, .inl (k_rounds, 16, .inl v_rounds))]) (wr := [(h_this, .inr (8, [.ref h_prices, .ref h_rounds])), (h_a1, .inr (2, [.ref h_a1_cells, .ref h_a1_depths, .int v_a1_became, .int v_a1_items, .int v_a1_inputs, .int v_a1_muls])), (h_a1_cells, .inl (k_a1_cells, 96, .inl v_a1_cells))]) (w1 := [(h_rounds, .inl (k_rounds, 16, .inl v_rounds))]) hP hD hS hA [1] [0, 2, 3] rfl rfl (by decide) (by decide) (va_runSN (As := [.ref h_rounds, .int z_86]) (rest := [.int z_75]) CF (t_X9_at l dC dI h_rounds k_rounds 16 v_rounds H.size z_86 N z_89 hz_89) cw24 (gPS hP hD hK hN [1] [0] (by decide) rfl rfl) rfl rfl hl.1 rfl (lv_room (Nat.le_of_ble_eq_true rfl)) dX8_roundsWith_89 ⟨Nat.zero_le _, Nat.zero_le _⟩) (fun H locs hP hD hS => ?_)
              have hP : va_P (dC, dI) vwCl [(h_this, .inr (8, [.ref h_prices, .ref h_rounds])), (h_a1, .inr (2, [.ref h_a1_cells, .ref h_a1_depths, .int v_a1_became, .int v_a1_items, .int v_a1_inputs, .int v_a1_muls])), (h_a1_cells, .inl (k_a1_cells, 96, .inl v_a1_cells)), (h_rounds, .inl (k_rounds, 16, .inl v_rounds))] H := hP
              have hD : va_D A [(h_this, .inr (8, [.ref h_prices, .ref h_rounds])), (h_a1, .inr (2, [.ref h_a1_cells, .ref h_a1_depths, .int v_a1_became, .int v_a1_items, .int v_a1_inputs, .int v_a1_muls])), (h_a1_cells, .inl (k_a1_cells, 96, .inl v_a1_cells)), (h_rounds, .inl (k_rounds, 16, .inl v_rounds))] := hD
              refine va_mmax hx hb (hml.trans hl.1.symm) hown mm48 msmax mi mcmax (by decide) (Nat.le_of_ble_eq_true rfl) (Nat.zero_le _) (Nat.zero_le _) dX8_roundsWith_92 ?_
              refine lv_istore (lv' := [(7, .int (if z_75 < z_89 then z_89 else z_75)), (6, .int z_27), (5, .int z_18), (0, .ref h_this), (1, .ref h_a1), (2, .int x2), (3, .int y3), (4, .int y4)]) hx hb dX8_roundsWith_95 hl (by decide) rfl (fun ls hl => ?_)
              exact k_97 r_5 g_5 v_rounds y3 y4 z_18 z_27 (if z_75 < z_89 then z_89 else z_75) _ _ _ hF (hP.sub [0, 3, 1, 2] rfl) (hD.sub [0, 3, 1, 2] (by decide) rfl) hS (lv_sub hl [3, 4, 5, 6, 7, 2, 1, 0] rfl)
        · have hF := gi_t c_35 hF
          exact k_38 v_rounds z_27 _ _ _ hF hP hD hS (lv_sub hl [2, 0] rfl)
  unfold f_X8_roundsWith at hF
  refine lv_iconst (v := (0 : Int32)) hx hb dX8_roundsWith_0 (by decide) ?_
  refine lv_istore_n (lv' := [(3, .int (0 : Int32)), (0, .ref h_this), (1, .ref h_a1), (2, .int x2)]) hx hb dX8_roundsWith_1 rfl hl (by decide) rfl (fun ls hl => ?_)
  refine lv_iconst (v := (0 : Int32)) hx hb dX8_roundsWith_2 (by decide) ?_
  refine lv_istore (lv' := [(4, .int (0 : Int32)), (3, .int (0 : Int32)), (0, .ref h_this), (1, .ref h_a1), (2, .int x2)]) hx hb dX8_roundsWith_3 hl (by decide) rfl (fun ls hl => ?_)
  exact k_5 N v_rounds (0 : Int32) (0 : Int32) _ _ _ hF hP hD hS (lv_sub hl [2, 3, 4, 1, 0] rfl)
abbrev O_X8_cheapestSet : Type := Int32 × (Nat → Int32)
def f_X8_cheapestSet_59 (N : Nat) (v_prices : Nat → Int32) (v_a1_items : Int32) (v_a1_muls : Int32) (v_a1_cells : Nat → Int32) (x2 : Int32) (r_9 : (Nat → Int32) → Int32 → Int32 → Int32 → Option O_X8_cheapestSet) (v_rounds : Nat → Int32) (y5 : Int32) (y6 : Int32) : Option O_X8_cheapestSet :=
  r_9 v_rounds y5 y6 (y5 + 1)
def s_X8_cheapestSet_9 (N : Nat) (v_prices : Nat → Int32) (v_a1_items : Int32) (v_a1_muls : Int32) (v_a1_cells : Nat → Int32) (x2 : Int32) (r_9 : (Nat → Int32) → Int32 → Int32 → Int32 → Option O_X8_cheapestSet) (v_rounds : Nat → Int32) (y3 : Int32) (y4 : Int32) (y5 : Int32) : Option O_X8_cheapestSet :=
  if ((1 : Int32) <<< (v_a1_muls &&& 31)) ≤ y5 then (some (y3, v_rounds)) else ((f_X8_roundsWith N v_a1_items v_a1_cells y5 v_rounds).bind (fun z_24 => if z_24.1 ≤ x2 then ((f_X8_priceOf N v_prices v_a1_muls y5).bind (fun z_41 => if y3 = (-9 : Int32) then (f_X8_cheapestSet_59 N v_prices v_a1_items v_a1_muls v_a1_cells x2 r_9 z_24.2 y5 z_41) else (if y4 ≤ z_41 then (r_9 z_24.2 y3 y4 (y5 + 1)) else (f_X8_cheapestSet_59 N v_prices v_a1_items v_a1_muls v_a1_cells x2 r_9 z_24.2 y5 z_41)))) else (r_9 z_24.2 y3 y4 (y5 + 1))))
def f_X8_cheapestSet_9 (N : Nat) (v_prices : Nat → Int32) (v_a1_items : Int32) (v_a1_muls : Int32) (v_a1_cells : Nat → Int32) (x2 : Int32) (n : Nat) : (Nat → Int32) → Int32 → Int32 → Int32 → Option O_X8_cheapestSet := lpg (fun _ _ _ _ => none) (s_X8_cheapestSet_9 N v_prices v_a1_items v_a1_muls v_a1_cells x2) n
def f_X8_cheapestSet (N : Nat) (v_prices : Nat → Int32) (v_a1_items : Int32) (v_a1_muls : Int32) (v_a1_cells : Nat → Int32) (x2 : Int32) (v_rounds : Nat → Int32) : Option O_X8_cheapestSet :=
  f_X8_cheapestSet_9 N v_prices v_a1_items v_a1_muls v_a1_cells x2 N v_rounds (-9 : Int32) (0 : Int32) (0 : Int32)
set_option maxHeartbeats 4000000 in
set_option maxRecDepth 100000 in
theorem t_X8_cheapestSet (l : Launch) (dC : Nat → ClassId) (dI : Nat → Nat → Nat) (h_this : Nat) (h_prices : Nat) (h_rounds : Nat) (k_prices : ClassId) (v_prices : Nat → Int32) (k_rounds : ClassId) (v_rounds : Nat → Int32) (h_a1 : Nat) (h_a1_cells : Nat) (h_a1_depths : Nat) (v_a1_became : Int32) (v_a1_items : Int32) (v_a1_inputs : Int32) (v_a1_muls : Int32) (k_a1_cells : ClassId) (v_a1_cells : Nat → Int32) (sz : Nat) (x2 : Int32) (N : Nat) (out : O_X8_cheapestSet) (hF : f_X8_cheapestSet N v_prices v_a1_items v_a1_muls v_a1_cells x2 v_rounds = some out) : gMi l yX8_cheapestSet wsX8_cheapestSet ({ frames := 3, cells := 0, slots := 0, locals := 70 } : Room) [.ref h_this, .ref h_a1, .int x2] (dC, dI) [(h_this, .inr (8, [.ref h_prices, .ref h_rounds])), (h_prices, .inl (k_prices, 3, .inl v_prices)), (h_rounds, .inl (k_rounds, 16, .inl v_rounds)), (h_a1, .inr (2, [.ref h_a1_cells, .ref h_a1_depths, .int v_a1_became, .int v_a1_items, .int v_a1_inputs, .int v_a1_muls])), (h_a1_cells, .inl (k_a1_cells, 96, .inl v_a1_cells))] [(k_prices, .int), (k_rounds, .int), (k_a1_cells, .int)] sz [(h_this, .inr (8, [.ref h_prices, .ref h_rounds])), (h_prices, .inl (k_prices, 3, .inl v_prices)), (h_rounds, .inl (k_rounds, 16, .inl out.2)), (h_a1, .inr (2, [.ref h_a1_cells, .ref h_a1_depths, .int v_a1_became, .int v_a1_items, .int v_a1_inputs, .int v_a1_muls])), (h_a1_cells, .inl (k_a1_cells, 96, .inl v_a1_cells))] out.1 := by
  refine gEi (cc := cX8_cheapestSet) (maxL := 7) (by decide) rfl (Nat.le_of_ble_eq_true rfl) ?_
  intro p e s m args below meth c Q A ls CF hK hN hA hret hP hD hS hl
  have hx := CF.1
  have hb := CF.2.1
  have hml := CF.2.2.1
  have hown : s.vm.findClass RX8 = some m.cls := CF.2.2.2.1
  have hts := CF.2.2.2.2
  have hl : lv_has ls 7 [(0, .ref h_this), (1, .ref h_a1), (2, .int x2)] := hl
  have in_X2 : ∀ w ∈ wsX20, w ∈ wsX8_cheapestSet := fun w h => List.mem_cons_of_mem _ (List.mem_append_left _ (List.mem_append_right _ h))
  have hL28 : (Cond.fieldLinkNest RX8 28 "DustSums$Program" "muls" "I" "DustSums").before args s = true := va_Nw.use rfl (hN.1 (RX8, 28, "DustSums$Program", "muls", "I", "DustSums") (by decide +kernel))
  have cw34 : CallW ({ frames := 3, cells := 0, slots := 0, locals := 70 } : Room) s args RX8 RX8 34 yX8_roundsWith cX8_roundsWith 8 (some .int) wsX8_roundsWith ({ frames := 2, cells := 0, slots := 0, locals := 43 } : Room) 0 0 2 := cwV 2 hts gX8_cheapestSet_X8_roundsWith rfl rfl rfl (by decide +kernel) ⟨Nat.le_of_ble_eq_true rfl, Nat.le_of_ble_eq_true rfl⟩
  have cw38 : CallW ({ frames := 3, cells := 0, slots := 0, locals := 70 } : Room) s args RX8 RX8 38 yX8_priceOf cX8_priceOf 4 (some .int) wsX8_priceOf ({ frames := 1, cells := 0, slots := 0, locals := 21 } : Room) 0 0 2 := cwV 2 hts gX8_cheapestSet_X8_priceOf rfl rfl rfl (by decide +kernel) ⟨Nat.le_of_ble_eq_true rfl, Nat.le_of_ble_eq_true rfl⟩
  have k_59 : ∀ (r_9 : (Nat → Int32) → Int32 → Int32 → Int32 → Option O_X8_cheapestSet) (g_9 : ∀ (v_rounds : Nat → Int32) (y3 : Int32) (y4 : Int32) (y5 : Int32) (H : Heap) (locs : List Loc) (ls : Array Slot), r_9 v_rounds y3 y4 y5 = some out → va_P (dC, dI) vwCl [(h_this, .inr (8, [.ref h_prices, .ref h_rounds])), (h_prices, .inl (k_prices, 3, .inl v_prices)), (h_rounds, .inl (k_rounds, 16, .inl v_rounds)), (h_a1, .inr (2, [.ref h_a1_cells, .ref h_a1_depths, .int v_a1_became, .int v_a1_items, .int v_a1_inputs, .int v_a1_muls])), (h_a1_cells, .inl (k_a1_cells, 96, .inl v_a1_cells))] H → va_D A [(h_this, .inr (8, [.ref h_prices, .ref h_rounds])), (h_prices, .inl (k_prices, 3, .inl v_prices)), (h_rounds, .inl (k_rounds, 16, .inl v_rounds)), (h_a1, .inr (2, [.ref h_a1_cells, .ref h_a1_depths, .int v_a1_became, .int v_a1_items, .int v_a1_inputs, .int v_a1_muls])), (h_a1_cells, .inl (k_a1_cells, 96, .inl v_a1_cells))] → va_S A s.heap H locs → lv_has ls 7 [(0, .ref h_this), (1, .ref h_a1), (2, .int x2), (3, .int y3), (4, .int y4), (5, .int y5)] → W p l e ({ frames := 3, cells := 0, slots := 0, locals := 70 } : Room) s m args below meth c H locs 0 0 Q (F0 m 9 ls [])) (v_rounds : Nat → Int32) (y5 : Int32) (y6 : Int32) (H : Heap) (locs : List Loc) (ls : Array Slot), f_X8_cheapestSet_59 N v_prices v_a1_items v_a1_muls v_a1_cells x2 r_9 v_rounds y5 y6 = some out → va_P (dC, dI) vwCl [(h_this, .inr (8, [.ref h_prices, .ref h_rounds])), (h_prices, .inl (k_prices, 3, .inl v_prices)), (h_rounds, .inl (k_rounds, 16, .inl v_rounds)), (h_a1, .inr (2, [.ref h_a1_cells, .ref h_a1_depths, .int v_a1_became, .int v_a1_items, .int v_a1_inputs, .int v_a1_muls])), (h_a1_cells, .inl (k_a1_cells, 96, .inl v_a1_cells))] H → va_D A [(h_this, .inr (8, [.ref h_prices, .ref h_rounds])), (h_prices, .inl (k_prices, 3, .inl v_prices)), (h_rounds, .inl (k_rounds, 16, .inl v_rounds)), (h_a1, .inr (2, [.ref h_a1_cells, .ref h_a1_depths, .int v_a1_became, .int v_a1_items, .int v_a1_inputs, .int v_a1_muls])), (h_a1_cells, .inl (k_a1_cells, 96, .inl v_a1_cells))] → va_S A s.heap H locs → lv_has ls 7 [(0, .ref h_this), (1, .ref h_a1), (2, .int x2), (5, .int y5), (6, .int y6)] → W p l e ({ frames := 3, cells := 0, slots := 0, locals := 70 } : Room) s m args below meth c H locs 0 0 Q (F0 m 59 ls []) := by
    intro r_9 g_9 v_rounds y5 y6 H locs ls hF hP hD hS hl
    unfold f_X8_cheapestSet_59 at hF
    refine lv_iload hx hb dX8_cheapestSet_59 (lv_at hl 3 rfl) ?_
    refine lv_istore_n (lv' := [(3, .int y5), (0, .ref h_this), (1, .ref h_a1), (2, .int x2), (5, .int y5), (6, .int y6)]) hx hb dX8_cheapestSet_61 rfl hl (by decide) rfl (fun ls hl => ?_)
    refine lv_iload hx hb dX8_cheapestSet_62 (lv_at hl 5 rfl) ?_
    refine lv_istore (lv' := [(4, .int y6), (3, .int y5), (0, .ref h_this), (1, .ref h_a1), (2, .int x2), (5, .int y5), (6, .int y6)]) hx hb dX8_cheapestSet_64 hl (by decide) rfl (fun ls hl => ?_)
    refine lv_iinc (v := (y5 + 1)) (lv' := [(5, .int (y5 + 1)), (4, .int y6), (3, .int y5), (0, .ref h_this), (1, .ref h_a1), (2, .int x2), (6, .int y6)]) hx hb dX8_cheapestSet_66 hl (k := 5) rfl rfl (by decide) rfl (fun ls hl => ?_)
    refine lv_goto (tgt := 9) hx hb dX8_cheapestSet_69 (by decide) ?_
    exact g_9 v_rounds y5 y6 (y5 + 1) _ _ _ hF hP hD hS (lv_sub hl [3, 4, 5, 2, 1, 0] rfl)
  have k_9 : ∀ (n : Nat) (v_rounds : Nat → Int32) (y3 : Int32) (y4 : Int32) (y5 : Int32) (H : Heap) (locs : List Loc) (ls : Array Slot), f_X8_cheapestSet_9 N v_prices v_a1_items v_a1_muls v_a1_cells x2 n v_rounds y3 y4 y5 = some out → va_P (dC, dI) vwCl [(h_this, .inr (8, [.ref h_prices, .ref h_rounds])), (h_prices, .inl (k_prices, 3, .inl v_prices)), (h_rounds, .inl (k_rounds, 16, .inl v_rounds)), (h_a1, .inr (2, [.ref h_a1_cells, .ref h_a1_depths, .int v_a1_became, .int v_a1_items, .int v_a1_inputs, .int v_a1_muls])), (h_a1_cells, .inl (k_a1_cells, 96, .inl v_a1_cells))] H → va_D A [(h_this, .inr (8, [.ref h_prices, .ref h_rounds])), (h_prices, .inl (k_prices, 3, .inl v_prices)), (h_rounds, .inl (k_rounds, 16, .inl v_rounds)), (h_a1, .inr (2, [.ref h_a1_cells, .ref h_a1_depths, .int v_a1_became, .int v_a1_items, .int v_a1_inputs, .int v_a1_muls])), (h_a1_cells, .inl (k_a1_cells, 96, .inl v_a1_cells))] → va_S A s.heap H locs → lv_has ls 7 [(0, .ref h_this), (1, .ref h_a1), (2, .int x2), (3, .int y3), (4, .int y4), (5, .int y5)] → W p l e ({ frames := 3, cells := 0, slots := 0, locals := 70 } : Room) s m args below meth c H locs 0 0 Q (F0 m 9 ls []) := by
    intro n
    induction n with
    | zero =>
      intro v_rounds y3 y4 y5 H locs ls hF
      have hF : (none : Option O_X8_cheapestSet) = some out := hF
      cases hF
    | succ n ih =>
      intro v_rounds y3 y4 y5 H locs ls hF hP hD hS hl
      have hF : s_X8_cheapestSet_9 N v_prices v_a1_items v_a1_muls v_a1_cells x2 (f_X8_cheapestSet_9 N v_prices v_a1_items v_a1_muls v_a1_cells x2 n) v_rounds y3 y4 y5 = some out := hF
      generalize f_X8_cheapestSet_9 N v_prices v_a1_items v_a1_muls v_a1_cells x2 n = r_9 at hF ih
      have g_9 : ∀ (v_rounds : Nat → Int32) (y3 : Int32) (y4 : Int32) (y5 : Int32) (H : Heap) (locs : List Loc) (ls : Array Slot), r_9 v_rounds y3 y4 y5 = some out → va_P (dC, dI) vwCl [(h_this, .inr (8, [.ref h_prices, .ref h_rounds])), (h_prices, .inl (k_prices, 3, .inl v_prices)), (h_rounds, .inl (k_rounds, 16, .inl v_rounds)), (h_a1, .inr (2, [.ref h_a1_cells, .ref h_a1_depths, .int v_a1_became, .int v_a1_items, .int v_a1_inputs, .int v_a1_muls])), (h_a1_cells, .inl (k_a1_cells, 96, .inl v_a1_cells))] H → va_D A [(h_this, .inr (8, [.ref h_prices, .ref h_rounds])), (h_prices, .inl (k_prices, 3, .inl v_prices)), (h_rounds, .inl (k_rounds, 16, .inl v_rounds)), (h_a1, .inr (2, [.ref h_a1_cells, .ref h_a1_depths, .int v_a1_became, .int v_a1_items, .int v_a1_inputs, .int v_a1_muls])), (h_a1_cells, .inl (k_a1_cells, 96, .inl v_a1_cells))] → va_S A s.heap H locs → lv_has ls 7 [(0, .ref h_this), (1, .ref h_a1), (2, .int x2), (3, .int y3), (4, .int y4), (5, .int y5)] → W p l e ({ frames := 3, cells := 0, slots := 0, locals := 70 } : Room) s m args below meth c H locs 0 0 Q (F0 m 9 ls []) := ih
      clear ih
      unfold s_X8_cheapestSet_9 at hF
      refine lv_iload hx hb dX8_cheapestSet_9 (lv_at hl 5 rfl) ?_
      refine lv_iconst (v := (1 : Int32)) hx hb dX8_cheapestSet_11 (by decide) ?_
      refine lv_aload_n hx hb dX8_cheapestSet_12 rfl (lv_at hl 1 rfl) ?_
      refine va_getN (D := (dC, dI)) (ci := 2) (v := .int v_a1_muls) (C := RX2) (T := TX2) (N := 6) hx hb hts in_X2 hown hK hP 3 rfl rfl 5 (by decide) hL28 (fun _ h9 => h9) rfl dX8_cheapestSet_13 ?_
      refine lv_ishl hx hb dX8_cheapestSet_16 ?_
      refine lv_icmp_ge (tgt := 72) hx hb dX8_cheapestSet_17 (by decide) (fun c_17 => ?_) (fun c_17 => ?_)
      · have hF := gi_t c_17 hF
        refine lv_iload_n hx hb dX8_cheapestSet_72 rfl (lv_at hl 3 rfl) ?_
        have hF := Option.some.inj hF
        subst hF
        exact hret _ _ _ _ dX8_cheapestSet_73 hP hD hS
      · have hF := gi_f c_17 hF
        refine lv_aload_n hx hb dX8_cheapestSet_20 rfl (lv_at hl 0 rfl) ?_
        refine lv_aload_n hx hb dX8_cheapestSet_21 rfl (lv_at hl 1 rfl) ?_
        refine lv_iload hx hb dX8_cheapestSet_22 (lv_at hl 5 rfl) ?_
        obtain ⟨z_24, hz_24, hF⟩ := gi_bind hF
        refine gRi (wc := [(h_this, .inr (8, [.ref h_prices, .ref h_rounds])), (h_rounds, .inl (k_rounds, 16, .inl v_rounds)), (h_a1, .inr (2, [.ref h_a1_cells, .ref h_a1_depths, .int v_a1_became, .int v_a1_items, .int v_a1_inputs, .int v_a1_muls])), (h_a1_cells, .inl (k_a1_cells, 96, .inl v_a1_cells))]) (wr := [(h_prices, .inl (k_prices, 3, .inl v_prices))]) (w1 := [(h_this, .inr (8, [.ref h_prices, .ref h_rounds])), (h_rounds, .inl (k_rounds, 16, .inl z_24.2)), (h_a1, .inr (2, [.ref h_a1_cells, .ref h_a1_depths, .int v_a1_became, .int v_a1_items, .int v_a1_inputs, .int v_a1_muls])), (h_a1_cells, .inl (k_a1_cells, 96, .inl v_a1_cells))]) hP hD hS hA [0, 2, 3, 4] [1] rfl rfl (by decide) (by decide) (va_runV (As := [.ref h_a1, .int y5]) (rest := []) CF (t_X8_roundsWith l dC dI h_this h_prices h_rounds k_rounds v_rounds h_a1 h_a1_cells h_a1_depths v_a1_became v_a1_items v_a1_inputs v_a1_muls k_a1_cells v_a1_cells H.size y5 N z_24 hz_24) cw34 (gPV (ci := 8) hP hD hK hN [0, 2, 3, 4] [1, 2] (by decide) rfl rfl (q0 := 0) rfl rfl) rfl rfl hl.1 rfl (lv_room (Nat.le_of_ble_eq_true rfl)) dX8_cheapestSet_24 ⟨Nat.zero_le _, Nat.zero_le _⟩) (fun H locs hP hD hS => ?_)
        have hP : va_P (dC, dI) vwCl [(h_prices, .inl (k_prices, 3, .inl v_prices)), (h_this, .inr (8, [.ref h_prices, .ref h_rounds])), (h_rounds, .inl (k_rounds, 16, .inl z_24.2)), (h_a1, .inr (2, [.ref h_a1_cells, .ref h_a1_depths, .int v_a1_became, .int v_a1_items, .int v_a1_inputs, .int v_a1_muls])), (h_a1_cells, .inl (k_a1_cells, 96, .inl v_a1_cells))] H := hP
        have hD : va_D A [(h_prices, .inl (k_prices, 3, .inl v_prices)), (h_this, .inr (8, [.ref h_prices, .ref h_rounds])), (h_rounds, .inl (k_rounds, 16, .inl z_24.2)), (h_a1, .inr (2, [.ref h_a1_cells, .ref h_a1_depths, .int v_a1_became, .int v_a1_items, .int v_a1_inputs, .int v_a1_muls])), (h_a1_cells, .inl (k_a1_cells, 96, .inl v_a1_cells))] := hD
        refine lv_iload_n hx hb dX8_cheapestSet_27 rfl (lv_at hl 2 rfl) ?_
        refine lv_icmp_le (tgt := 34) hx hb dX8_cheapestSet_28 (by decide) (fun c_28 => ?_) (fun c_28 => ?_)
        · have hF := gi_t c_28 hF
          refine lv_aload_n hx hb dX8_cheapestSet_34 rfl (lv_at hl 0 rfl) ?_
          refine lv_aload_n hx hb dX8_cheapestSet_35 rfl (lv_at hl 1 rfl) ?_
          refine va_getN (D := (dC, dI)) (ci := 2) (v := .int v_a1_muls) (C := RX2) (T := TX2) (N := 6) hx hb hts in_X2 hown hK hP 3 rfl rfl 5 (by decide) hL28 (fun _ h9 => h9) rfl dX8_cheapestSet_36 ?_
          refine lv_iload hx hb dX8_cheapestSet_39 (lv_at hl 5 rfl) ?_
          obtain ⟨z_41, hz_41, hF⟩ := gi_bind hF
          refine gRi (wc := [(h_this, .inr (8, [.ref h_prices, .ref h_rounds])), (h_prices, .inl (k_prices, 3, .inl v_prices))]) (wr := [(h_rounds, .inl (k_rounds, 16, .inl z_24.2)), (h_a1, .inr (2, [.ref h_a1_cells, .ref h_a1_depths, .int v_a1_became, .int v_a1_items, .int v_a1_inputs, .int v_a1_muls])), (h_a1_cells, .inl (k_a1_cells, 96, .inl v_a1_cells))]) (w1 := [(h_this, .inr (8, [.ref h_prices, .ref h_rounds])), (h_prices, .inl (k_prices, 3, .inl v_prices))]) hP hD hS hA [1, 0] [2, 3, 4] rfl rfl (by decide) (by decide) (va_runV (As := [.int v_a1_muls, .int y5]) (rest := []) CF (t_X8_priceOf l dC dI h_this h_prices h_rounds k_prices v_prices H.size v_a1_muls y5 N z_41 hz_41) cw38 (gPV (ci := 8) hP hD hK hN [1, 0] [0] (by decide) rfl rfl (q0 := 1) rfl rfl) rfl rfl hl.1 rfl (lv_room (Nat.le_of_ble_eq_true rfl)) dX8_cheapestSet_41 ⟨Nat.zero_le _, Nat.zero_le _⟩) (fun H locs hP hD hS => ?_)
          have hP : va_P (dC, dI) vwCl [(h_rounds, .inl (k_rounds, 16, .inl z_24.2)), (h_a1, .inr (2, [.ref h_a1_cells, .ref h_a1_depths, .int v_a1_became, .int v_a1_items, .int v_a1_inputs, .int v_a1_muls])), (h_a1_cells, .inl (k_a1_cells, 96, .inl v_a1_cells)), (h_this, .inr (8, [.ref h_prices, .ref h_rounds])), (h_prices, .inl (k_prices, 3, .inl v_prices))] H := hP
          have hD : va_D A [(h_rounds, .inl (k_rounds, 16, .inl z_24.2)), (h_a1, .inr (2, [.ref h_a1_cells, .ref h_a1_depths, .int v_a1_became, .int v_a1_items, .int v_a1_inputs, .int v_a1_muls])), (h_a1_cells, .inl (k_a1_cells, 96, .inl v_a1_cells)), (h_this, .inr (8, [.ref h_prices, .ref h_rounds])), (h_prices, .inl (k_prices, 3, .inl v_prices))] := hD
          refine lv_istore (lv' := [(6, .int z_41), (0, .ref h_this), (1, .ref h_a1), (2, .int x2), (3, .int y3), (4, .int y4), (5, .int y5)]) hx hb dX8_cheapestSet_44 hl (by decide) rfl (fun ls hl => ?_)
          refine lv_iload_n hx hb dX8_cheapestSet_46 rfl (lv_at hl 4 rfl) ?_
          refine lv_bipush (v := (-9 : Int32)) hx hb dX8_cheapestSet_47 (by decide) ?_
          refine lv_icmp_eq (tgt := 59) hx hb dX8_cheapestSet_49 (by decide) (fun c_49 => ?_) (fun c_49 => ?_)
          · have hF := gi_t c_49 hF
            exact k_59 r_9 g_9 z_24.2 y5 z_41 _ _ _ hF (hP.sub [3, 4, 0, 1, 2] rfl) (hD.sub [3, 4, 0, 1, 2] (by decide) rfl) hS (lv_sub hl [1, 2, 3, 6, 0] rfl)
          · have hF := gi_f c_49 hF
            refine lv_iload hx hb dX8_cheapestSet_52 (lv_at hl 0 rfl) ?_
            refine lv_iload hx hb dX8_cheapestSet_54 (lv_at hl 5 rfl) ?_
            refine lv_icmp_ge (tgt := 66) hx hb dX8_cheapestSet_56 (by decide) (fun c_56 => ?_) (fun c_56 => ?_)
            · have hF := gi_t c_56 hF
              refine lv_iinc (v := (y5 + 1)) (lv' := [(5, .int (y5 + 1)), (6, .int z_41), (0, .ref h_this), (1, .ref h_a1), (2, .int x2), (3, .int y3), (4, .int y4)]) hx hb dX8_cheapestSet_66 hl (k := 6) rfl rfl (by decide) rfl (fun ls hl => ?_)
              refine lv_goto (tgt := 9) hx hb dX8_cheapestSet_69 (by decide) ?_
              exact g_9 z_24.2 y3 y4 (y5 + 1) _ _ _ hF (hP.sub [3, 4, 0, 1, 2] rfl) (hD.sub [3, 4, 0, 1, 2] (by decide) rfl) hS (lv_sub hl [2, 3, 4, 5, 6, 0] rfl)
            · have hF := gi_f c_56 hF
              exact k_59 r_9 g_9 z_24.2 y5 z_41 _ _ _ hF (hP.sub [3, 4, 0, 1, 2] rfl) (hD.sub [3, 4, 0, 1, 2] (by decide) rfl) hS (lv_sub hl [1, 2, 3, 6, 0] rfl)
        · have hF := gi_f c_28 hF
          refine lv_goto (tgt := 66) hx hb dX8_cheapestSet_31 (by decide) ?_
          refine lv_iinc (v := (y5 + 1)) (lv' := [(5, .int (y5 + 1)), (0, .ref h_this), (1, .ref h_a1), (2, .int x2), (3, .int y3), (4, .int y4)]) hx hb dX8_cheapestSet_66 hl (k := 5) rfl rfl (by decide) rfl (fun ls hl => ?_)
          refine lv_goto (tgt := 9) hx hb dX8_cheapestSet_69 (by decide) ?_
          exact g_9 z_24.2 y3 y4 (y5 + 1) _ _ _ hF (hP.sub [1, 0, 2, 3, 4] rfl) (hD.sub [1, 0, 2, 3, 4] (by decide) rfl) hS (lv_sub hl [1, 2, 3, 4, 5, 0] rfl)
  unfold f_X8_cheapestSet at hF
  refine lv_bipush (v := (-9 : Int32)) hx hb dX8_cheapestSet_0 (by decide) ?_
  refine lv_istore_n (lv' := [(3, .int (-9 : Int32)), (0, .ref h_this), (1, .ref h_a1), (2, .int x2)]) hx hb dX8_cheapestSet_2 rfl hl (by decide) rfl (fun ls hl => ?_)
  refine lv_iconst (v := (0 : Int32)) hx hb dX8_cheapestSet_3 (by decide) ?_
  refine lv_istore (lv' := [(4, .int (0 : Int32)), (3, .int (-9 : Int32)), (0, .ref h_this), (1, .ref h_a1), (2, .int x2)]) hx hb dX8_cheapestSet_4 hl (by decide) rfl (fun ls hl => ?_)
  refine lv_iconst (v := (0 : Int32)) hx hb dX8_cheapestSet_6 (by decide) ?_
  refine lv_istore (lv' := [(5, .int (0 : Int32)), (4, .int (0 : Int32)), (3, .int (-9 : Int32)), (0, .ref h_this), (1, .ref h_a1), (2, .int x2)]) hx hb dX8_cheapestSet_7 hl (by decide) rfl (fun ls hl => ?_)
  exact k_9 N v_rounds (-9 : Int32) (0 : Int32) (0 : Int32) _ _ _ hF hP hD hS (lv_sub hl [3, 4, 5, 2, 1, 0] rfl)
