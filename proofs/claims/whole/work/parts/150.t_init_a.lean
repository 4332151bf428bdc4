set_option maxHeartbeats 4000000 in
set_option maxRecDepth 100000 in
theorem t_X0_init (l : Launch) (dC : Nat → ClassId) (dI : Nat → Nat → Nat) (h_this : Nat) (sz : Nat) : Met l yX0_init wsX0_init ({ frames := 1, cells := 2, slots := 12, locals := 21 } : Room) (va_Pc [.ref h_this] (gP (dC, dI) [(h_this, .inr (0, [.null, .null, .int 0, .int 0, .int 0, .int 0, .int 0, .int 0]))] [] sz)) (va_Qv (fun _ : Unit => True) (fun _ t => ∃ (h_bends h_heights : Nat) (k_bends k_heights : ClassId), va_P (dC, dI) vwCl [(h_this, .inr (0, [.ref h_bends, .ref h_heights, .int (7 : Int32), .int (1 : Int32), .int (5 : Int32), .int 0, .int 0, .int 0])), (h_bends, .inl (k_bends, 6, .inl (fun _ => 0))), (h_heights, .inl (k_heights, 6, .inl (fun _ => 0)))] t.heap ∧ va_K (dC, dI) vwCl [(k_bends, .int), (k_heights, .int)] t ∧ va_D (va_A [(h_this, .inr (0, [.null, .null, .int 0, .int 0, .int 0, .int 0, .int 0, .int 0]))] sz) [(h_this, .inr (0, [.ref h_bends, .ref h_heights, .int (7 : Int32), .int (1 : Int32), .int (5 : Int32), .int 0, .int 0, .int 0])), (h_bends, .inl (k_bends, 6, .inl (fun _ => 0))), (h_heights, .inl (k_heights, 6, .inl (fun _ => 0)))]) (va_A [(h_this, .inr (0, [.null, .null, .int 0, .int 0, .int 0, .int 0, .int 0, .int 0]))] sz)) 2 12 (va_A [(h_this, .inr (0, [.null, .null, .int 0, .int 0, .int 0, .int 0, .int 0, .int 0]))] sz) := by
  refine Met.ofW (cc := cX0_init) (maxL := 1) (ret := none) (by decide) rfl ?_
  intro p e s m args below meth c s₁ B hml hv
  obtain ⟨hav, hsz, hP, hK, hD0, hN⟩ := hv
  have hx := B.exec
  have hb := B.bytes
  have hr := B.returns
  have hts := atoms_spec (ws := wsX0_init) B.pre
  have hown : s.vm.findClass RX0 = some m.cls := findClass_of_methodNamed B.named
  have hlocks := B.notSynchronized
  have hin : meth.name = "<init>" := (name_of_methodNamed B.named B.method).1
  subst hsz
  have hD := hD0.self (sz := s.heap.size)
  generalize hAe : va_A [(h_this, .inr (0, [.null, .null, .int 0, .int 0, .int 0, .int 0, .int 0, .int 0]))] s.heap.size = A at hD ⊢
  have hA : ∀ q : Nat, s.heap.size ≤ q → A q := fun q h => by rw [← hAe]; exact Or.inr h
  have hS : va_S A s.heap s.heap [] := va_S.rf
  have hP : va_P (dC, dI) vwCl [(h_this, .inr (0, [.null, .null, .int 0, .int 0, .int 0, .int 0, .int 0, .int 0]))] s.heap := hP
  have hE : entryFrame m args 1 = F0 m 0 ((lg_sl [.ref h_this] ++ List.replicate (1 - (lg_sl [.ref h_this]).length) Slot.unset).toArray) [] := by rw [hav]; exact lg_entry_eq m [.ref h_this] 1
  rw [hE]
  refine gRoom ({ frames := 1, cells := 2, slots := 12, locals := 21 } : Room) rfl ?_
  have hl := lv_entry [.ref h_this] (n := 1) (Nat.le_of_ble_eq_true rfl)
  generalize (lg_sl [.ref h_this] ++ List.replicate (1 - (lg_sl [.ref h_this]).length) Slot.unset).toArray = ls at hl ⊢
  have hl : lv_has ls 1 [(0, .ref h_this)] := hl
  have CF : CallFix p m c cX0_init 1 s args wsX0_init RX0 := ⟨hx, hb, hml, hown, hts⟩
  have in_X0 : ∀ w ∈ wsX00, w ∈ wsX0_init := fun w h => List.mem_cons_of_mem _ (List.mem_append_right _ h)
  have ac_int : (Cond.arrayClass .int).before args s = true := hts (.arrayClass .int) (List.mem_of_getElem? (i := 4) rfl)
  have hL11 : (Cond.fieldLink RX0 11 "DustSums$Curve" "bends" "[I").before args s = true := hts (.fieldLink RX0 11 "DustSums$Curve" "bends" "[I") (List.mem_of_getElem? (i := 5) rfl)
  have hL15 : (Cond.fieldLink RX0 15 "DustSums$Curve" "heights" "[I").before args s = true := hts (.fieldLink RX0 15 "DustSums$Curve" "heights" "[I") (List.mem_of_getElem? (i := 6) rfl)
  have hL18 : (Cond.fieldLink RX0 18 "DustSums$Curve" "prime" "I").before args s = true := hts (.fieldLink RX0 18 "DustSums$Curve" "prime" "I") (List.mem_of_getElem? (i := 7) rfl)
  have hL22 : (Cond.fieldLink RX0 22 "DustSums$Curve" "degree" "I").before args s = true := hts (.fieldLink RX0 22 "DustSums$Curve" "degree" "I") (List.mem_of_getElem? (i := 8) rfl)
  have hL25 : (Cond.fieldLink RX0 25 "DustSums$Curve" "points" "I").before args s = true := hts (.fieldLink RX0 25 "DustSums$Curve" "points" "I") (List.mem_of_getElem? (i := 9) rfl)
  refine lv_aload_n hx hb dX0_init_0 rfl (lv_at hl 0 rfl) ?_
  refine W.objInit hx hb hown (hts (.methodLink RX0 3 objectInit) (List.mem_of_getElem? (i := 1) rfl)) (hts (.instanceMethod objectInit) (List.mem_of_getElem? (i := 2) rfl)) (hts (.code objectInit ⟨#[0xb1]⟩ 1 none) (List.mem_of_getElem? (i := 3) rfl)) rfl (by rw [hml]; exact hl.1) rfl dX0_init_1 (Nat.le_of_ble_eq_true rfl) (Nat.le_of_ble_eq_true rfl) ?_
  refine W.eq (g2 := F0 m 4 ls []) rfl ?_
  refine lv_aload_n hx hb dX0_init_4 rfl (lv_at hl 0 rfl) ?_
  refine lv_bipush (v := (6 : Int32)) hx hb dX0_init_5 (by decide) ?_
  refine va_newa (atype := .int) (n := (6 : Int32)) (a0 := (6, .inl (fun _ => 0))) (N' := 6) (ty := .int) hx hb ac_int rfl hK hP hD hS hA (fun _ => rfl) (by decide) (by decide) (by decide) (Nat.le_of_ble_eq_true rfl) (Nat.le_of_ble_eq_true rfl) dX0_init_7 (fun h_bends k_bends H hK hP hD hS => ?_)
  have hK : va_K (dC, dI) vwCl [(k_bends, .int)] s := hK
  have hP : va_P (dC, dI) vwCl [(h_this, .inr (0, [.null, .null, .int 0, .int 0, .int 0, .int 0, .int 0, .int 0])), (h_bends, .inl (k_bends, 6, .inl (fun _ => 0)))] H := hP
  have hD : va_D A [(h_this, .inr (0, [.null, .null, .int 0, .int 0, .int 0, .int 0, .int 0, .int 0])), (h_bends, .inl (k_bends, 6, .inl (fun _ => 0)))] := hD
  refine W.widen (k := 1) (n := 6) (Nat.le_of_ble_eq_true rfl) (Nat.le_of_ble_eq_true rfl) ?_
  refine va_putF (D := (dC, dI)) (ci := 0) (v := .ref h_bends) (ty := .array .int) (C := RX0) (T := TX0) (N := 8) hx hb hts in_X0 tyX0 tyX0_ok nmX0 hown hK hP hD hS 0 rfl rfl 0 (by decide) hL11 (fun _ h9 => h9) rfl hin rfl (by decide +kernel) rfl rfl (Nat.le_of_ble_eq_true rfl) dX0_init_9 (fun H locs hP hD hS => ?_)
  have hP : va_P (dC, dI) vwCl [(h_this, .inr (0, [.ref h_bends, .null, .int 0, .int 0, .int 0, .int 0, .int 0, .int 0])), (h_bends, .inl (k_bends, 6, .inl (fun _ => 0)))] H := hP
  have hD : va_D A [(h_this, .inr (0, [.ref h_bends, .null, .int 0, .int 0, .int 0, .int 0, .int 0, .int 0])), (h_bends, .inl (k_bends, 6, .inl (fun _ => 0)))] := hD
  refine lv_aload_n hx hb dX0_init_12 rfl (lv_at hl 0 rfl) ?_
  refine lv_bipush (v := (6 : Int32)) hx hb dX0_init_13 (by decide) ?_
  refine va_newa (atype := .int) (n := (6 : Int32)) (a0 := (6, .inl (fun _ => 0))) (N' := 6) (ty := .int) hx hb ac_int rfl hK hP hD hS hA (fun _ => rfl) (by decide) (by decide) (by decide) (Nat.le_of_ble_eq_true rfl) (Nat.le_of_ble_eq_true rfl) dX0_init_15 (fun h_heights k_heights H hK hP hD hS => ?_)
  have hK : va_K (dC, dI) vwCl [(k_bends, .int), (k_heights, .int)] s := hK
  have hP : va_P (dC, dI) vwCl [(h_this, .inr (0, [.ref h_bends, .null, .int 0, .int 0, .int 0, .int 0, .int 0, .int 0])), (h_bends, .inl (k_bends, 6, .inl (fun _ => 0))), (h_heights, .inl (k_heights, 6, .inl (fun _ => 0)))] H := hP
  have hD : va_D A [(h_this, .inr (0, [.ref h_bends, .null, .int 0, .int 0, .int 0, .int 0, .int 0, .int 0])), (h_bends, .inl (k_bends, 6, .inl (fun _ => 0))), (h_heights, .inl (k_heights, 6, .inl (fun _ => 0)))] := hD
  refine W.widen (k := 2) (n := 12) (Nat.le_of_ble_eq_true rfl) (Nat.le_of_ble_eq_true rfl) ?_
  refine va_putF (D := (dC, dI)) (ci := 0) (v := .ref h_heights) (ty := .array .int) (C := RX0) (T := TX0) (N := 8) hx hb hts in_X0 tyX0 tyX0_ok nmX0 hown hK hP hD hS 0 rfl rfl 1 (by decide) hL15 (fun _ h9 => h9) rfl hin rfl (by decide +kernel) rfl rfl (Nat.le_of_ble_eq_true rfl) dX0_init_17 (fun H locs hP hD hS => ?_)
  have hP : va_P (dC, dI) vwCl [(h_this, .inr (0, [.ref h_bends, .ref h_heights, .int 0, .int 0, .int 0, .int 0, .int 0, .int 0])), (h_bends, .inl (k_bends, 6, .inl (fun _ => 0))), (h_heights, .inl (k_heights, 6, .inl (fun _ => 0)))] H := hP
  have hD : va_D A [(h_this, .inr (0, [.ref h_bends, .ref h_heights, .int 0, .int 0, .int 0, .int 0, .int 0, .int 0])), (h_bends, .inl (k_bends, 6, .inl (fun _ => 0))), (h_heights, .inl (k_heights, 6, .inl (fun _ => 0)))] := hD
  refine lv_aload_n hx hb dX0_init_20 rfl (lv_at hl 0 rfl) ?_
  refine lv_bipush (v := (7 : Int32)) hx hb dX0_init_21 (by decide) ?_
  refine va_put (D := (dC, dI)) (ci := 0) (v := .int (7 : Int32)) (ty := .int) (C := RX0) (T := TX0) (N := 8) hx hb hts in_X0 tyX0 tyX0_ok nmX0 hown hK hP hD hS 0 rfl rfl 2 (by decide) hL18 (fun _ h9 => h9) rfl (by decide +kernel) rfl rfl (Nat.le_of_ble_eq_true rfl) dX0_init_23 (fun H locs hP hD hS => ?_)
  have hP : va_P (dC, dI) vwCl [(h_this, .inr (0, [.ref h_bends, .ref h_heights, .int (7 : Int32), .int 0, .int 0, .int 0, .int 0, .int 0])), (h_bends, .inl (k_bends, 6, .inl (fun _ => 0))), (h_heights, .inl (k_heights, 6, .inl (fun _ => 0)))] H := hP
  have hD : va_D A [(h_this, .inr (0, [.ref h_bends, .ref h_heights, .int (7 : Int32), .int 0, .int 0, .int 0, .int 0, .int 0])), (h_bends, .inl (k_bends, 6, .inl (fun _ => 0))), (h_heights, .inl (k_heights, 6, .inl (fun _ => 0)))] := hD
  refine lv_aload_n hx hb dX0_init_26 rfl (lv_at hl 0 rfl) ?_
  refine lv_iconst (v := (1 : Int32)) hx hb dX0_init_27 (by decide) ?_
  refine va_put (D := (dC, dI)) (ci := 0) (v := .int (1 : Int32)) (ty := .int) (C := RX0) (T := TX0) (N := 8) hx hb hts in_X0 tyX0 tyX0_ok nmX0 hown hK hP hD hS 0 rfl rfl 3 (by decide) hL22 (fun _ h9 => h9) rfl (by decide +kernel) rfl rfl (Nat.le_of_ble_eq_true rfl) dX0_init_28 (fun H locs hP hD hS => ?_)
  have hP : va_P (dC, dI) vwCl [(h_this, .inr (0, [.ref h_bends, .ref h_heights, .int (7 : Int32), .int (1 : Int32), .int 0, .int 0, .int 0, .int 0])), (h_bends, .inl (k_bends, 6, .inl (fun _ => 0))), (h_heights, .inl (k_heights, 6, .inl (fun _ => 0)))] H := hP
  have hD : va_D A [(h_this, .inr (0, [.ref h_bends, .ref h_heights, .int (7 : Int32), .int (1 : Int32), .int 0, .int 0, .int 0, .int 0])), (h_bends, .inl (k_bends, 6, .inl (fun _ => 0))), (h_heights, .inl (k_heights, 6, .inl (fun _ => 0)))] := hD
  refine lv_aload_n hx hb dX0_init_31 rfl (lv_at hl 0 rfl) ?_
  refine lv_iconst (v := (5 : Int32)) hx hb dX0_init_32 (by decide) ?_
  refine va_put (D := (dC, dI)) (ci := 0) (v := .int (5 : Int32)) (ty := .int) (C := RX0) (T := TX0) (N := 8) hx hb hts in_X0 tyX0 tyX0_ok nmX0 hown hK hP hD hS 0 rfl rfl 4 (by decide) hL25 (fun _ h9 => h9) rfl (by decide +kernel) rfl rfl (Nat.le_of_ble_eq_true rfl) dX0_init_33 (fun H locs hP hD hS => ?_)
  have hP : va_P (dC, dI) vwCl [(h_this, .inr (0, [.ref h_bends, .ref h_heights, .int (7 : Int32), .int (1 : Int32), .int (5 : Int32), .int 0, .int 0, .int 0])), (h_bends, .inl (k_bends, 6, .inl (fun _ => 0))), (h_heights, .inl (k_heights, 6, .inl (fun _ => 0)))] H := hP
  have hD : va_D A [(h_this, .inr (0, [.ref h_bends, .ref h_heights, .int (7 : Int32), .int (1 : Int32), .int (5 : Int32), .int 0, .int 0, .int 0])), (h_bends, .inl (k_bends, 6, .inl (fun _ => 0))), (h_heights, .inl (k_heights, 6, .inl (fun _ => 0)))] := hD
  have hP9 := hP.sub (ws' := [(h_this, .inr (0, [.ref h_bends, .ref h_heights, .int (7 : Int32), .int (1 : Int32), .int (5 : Int32), .int 0, .int 0, .int 0])), (h_bends, .inl (k_bends, 6, .inl (fun _ => 0))), (h_heights, .inl (k_heights, 6, .inl (fun _ => 0)))]) [0, 1, 2] rfl
  have hD9 := hD.sub (ws' := [(h_this, .inr (0, [.ref h_bends, .ref h_heights, .int (7 : Int32), .int (1 : Int32), .int (5 : Int32), .int 0, .int 0, .int 0])), (h_bends, .inl (k_bends, 6, .inl (fun _ => 0))), (h_heights, .inl (k_heights, 6, .inl (fun _ => 0)))]) [0, 1, 2] (by decide) rfl
  have hK9 := hK.sub (tys' := [(k_bends, .int), (k_heights, .int)]) [0, 1] rfl
  exact W.vret hx hb hr (fun t ht hW => ⟨⟨(), rfl, trivial, h_bends, h_heights, k_bends, k_heights, by rw [ht]; exact hP9, va_K.moved hW.alike hK9, hD9⟩, hS.F ht⟩) hS.2.2 dX0_init_36
set_option maxHeartbeats 4000000 in
set_option maxRecDepth 100000 in
theorem t_X1_init (l : Launch) (dC : Nat → ClassId) (dI : Nat → Nat → Nat) (h_this : Nat) (sz : Nat) : Met l yX1_init wsX1_init ({ frames := 1, cells := 0, slots := 0, locals := 21 } : Room) (va_Pc [.ref h_this] (gP (dC, dI) [(h_this, .inr (1, [.int 0, .int 0, .int 0, .int 0]))] [] sz)) (va_Qv (fun _ : Unit => True) (fun _ t => va_P (dC, dI) vwCl [(h_this, .inr (1, [.int 0, .int 0, .int 0, .int 0]))] t.heap ∧ va_K (dC, dI) vwCl [] t ∧ va_D (va_A [(h_this, .inr (1, [.int 0, .int 0, .int 0, .int 0]))] sz) [(h_this, .inr (1, [.int 0, .int 0, .int 0, .int 0]))]) (va_A [(h_this, .inr (1, [.int 0, .int 0, .int 0, .int 0]))] sz)) 0 0 (va_A [(h_this, .inr (1, [.int 0, .int 0, .int 0, .int 0]))] sz) := by
  refine Met.ofW (cc := cX1_init) (maxL := 1) (ret := none) (by decide) rfl ?_
  intro p e s m args below meth c s₁ B hml hv
  obtain ⟨hav, hsz, hP, hK, hD0, hN⟩ := hv
  have hx := B.exec
  have hb := B.bytes
  have hr := B.returns
  have hts := atoms_spec (ws := wsX1_init) B.pre
  have hown : s.vm.findClass RX1 = some m.cls := findClass_of_methodNamed B.named
  have hlocks := B.notSynchronized
  have hin : meth.name = "<init>" := (name_of_methodNamed B.named B.method).1
  subst hsz
  have hD := hD0.self (sz := s.heap.size)
  generalize hAe : va_A [(h_this, .inr (1, [.int 0, .int 0, .int 0, .int 0]))] s.heap.size = A at hD ⊢
  have hA : ∀ q : Nat, s.heap.size ≤ q → A q := fun q h => by rw [← hAe]; exact Or.inr h
  have hS : va_S A s.heap s.heap [] := va_S.rf
  have hP : va_P (dC, dI) vwCl [(h_this, .inr (1, [.int 0, .int 0, .int 0, .int 0]))] s.heap := hP
  have hE : entryFrame m args 1 = F0 m 0 ((lg_sl [.ref h_this] ++ List.replicate (1 - (lg_sl [.ref h_this]).length) Slot.unset).toArray) [] := by rw [hav]; exact lg_entry_eq m [.ref h_this] 1
  rw [hE]
  refine gRoom ({ frames := 1, cells := 0, slots := 0, locals := 21 } : Room) rfl ?_
  have hl := lv_entry [.ref h_this] (n := 1) (Nat.le_of_ble_eq_true rfl)
  generalize (lg_sl [.ref h_this] ++ List.replicate (1 - (lg_sl [.ref h_this]).length) Slot.unset).toArray = ls at hl ⊢
  have hl : lv_has ls 1 [(0, .ref h_this)] := hl
  have CF : CallFix p m c cX1_init 1 s args wsX1_init RX1 := ⟨hx, hb, hml, hown, hts⟩
  refine lv_aload_n hx hb dX1_init_0 rfl (lv_at hl 0 rfl) ?_
  refine W.objInit hx hb hown (hts (.methodLink RX1 1 objectInit) (List.mem_of_getElem? (i := 1) rfl)) (hts (.instanceMethod objectInit) (List.mem_of_getElem? (i := 2) rfl)) (hts (.code objectInit ⟨#[0xb1]⟩ 1 none) (List.mem_of_getElem? (i := 3) rfl)) rfl (by rw [hml]; exact hl.1) rfl dX1_init_1 (Nat.le_of_ble_eq_true rfl) (Nat.le_of_ble_eq_true rfl) ?_
  refine W.eq (g2 := F0 m 4 ls []) rfl ?_
  have hP9 := hP.sub (ws' := [(h_this, .inr (1, [.int 0, .int 0, .int 0, .int 0]))]) [0] rfl
  have hD9 := hD.sub (ws' := [(h_this, .inr (1, [.int 0, .int 0, .int 0, .int 0]))]) [0] (by decide) rfl
  have hK9 := hK.sub (tys' := []) [] rfl
  exact W.vret hx hb hr (fun t ht hW => ⟨⟨(), rfl, trivial, by rw [ht]; exact hP9, va_K.moved hW.alike hK9, hD9⟩, hS.F ht⟩) hS.2.2 dX1_init_4
set_option maxHeartbeats 4000000 in
set_option maxRecDepth 100000 in
theorem t_X2_init (l : Launch) (dC : Nat → ClassId) (dI : Nat → Nat → Nat) (h_this : Nat) (sz : Nat) : Met l yX2_init wsX2_init ({ frames := 1, cells := 2, slots := 112, locals := 21 } : Room) (va_Pc [.ref h_this] (gP (dC, dI) [(h_this, .inr (2, [.null, .null, .int 0, .int 0, .int 0, .int 0]))] [] sz)) (va_Qv (fun _ : Unit => True) (fun _ t => ∃ (h_cells h_depths : Nat) (k_cells k_depths : ClassId), va_P (dC, dI) vwCl [(h_this, .inr (2, [.ref h_cells, .ref h_depths, .int 0, .int 0, .int 0, .int 0])), (h_cells, .inl (k_cells, 96, .inl (fun _ => 0))), (h_depths, .inl (k_depths, 16, .inl (fun _ => 0)))] t.heap ∧ va_K (dC, dI) vwCl [(k_cells, .int), (k_depths, .int)] t ∧ va_D (va_A [(h_this, .inr (2, [.null, .null, .int 0, .int 0, .int 0, .int 0]))] sz) [(h_this, .inr (2, [.ref h_cells, .ref h_depths, .int 0, .int 0, .int 0, .int 0])), (h_cells, .inl (k_cells, 96, .inl (fun _ => 0))), (h_depths, .inl (k_depths, 16, .inl (fun _ => 0)))]) (va_A [(h_this, .inr (2, [.null, .null, .int 0, .int 0, .int 0, .int 0]))] sz)) 2 112 (va_A [(h_this, .inr (2, [.null, .null, .int 0, .int 0, .int 0, .int 0]))] sz) := by
  refine Met.ofW (cc := cX2_init) (maxL := 1) (ret := none) (by decide) rfl ?_
  intro p e s m args below meth c s₁ B hml hv
  obtain ⟨hav, hsz, hP, hK, hD0, hN⟩ := hv
  have hx := B.exec
  have hb := B.bytes
  have hr := B.returns
  have hts := atoms_spec (ws := wsX2_init) B.pre
  have hown : s.vm.findClass RX2 = some m.cls := findClass_of_methodNamed B.named
  have hlocks := B.notSynchronized
  have hin : meth.name = "<init>" := (name_of_methodNamed B.named B.method).1
  subst hsz
  have hD := hD0.self (sz := s.heap.size)
  generalize hAe : va_A [(h_this, .inr (2, [.null, .null, .int 0, .int 0, .int 0, .int 0]))] s.heap.size = A at hD ⊢
  have hA : ∀ q : Nat, s.heap.size ≤ q → A q := fun q h => by rw [← hAe]; exact Or.inr h
  have hS : va_S A s.heap s.heap [] := va_S.rf
  have hP : va_P (dC, dI) vwCl [(h_this, .inr (2, [.null, .null, .int 0, .int 0, .int 0, .int 0]))] s.heap := hP
  have hE : entryFrame m args 1 = F0 m 0 ((lg_sl [.ref h_this] ++ List.replicate (1 - (lg_sl [.ref h_this]).length) Slot.unset).toArray) [] := by rw [hav]; exact lg_entry_eq m [.ref h_this] 1
  rw [hE]
  refine gRoom ({ frames := 1, cells := 2, slots := 112, locals := 21 } : Room) rfl ?_
  have hl := lv_entry [.ref h_this] (n := 1) (Nat.le_of_ble_eq_true rfl)
  generalize (lg_sl [.ref h_this] ++ List.replicate (1 - (lg_sl [.ref h_this]).length) Slot.unset).toArray = ls at hl ⊢
  have hl : lv_has ls 1 [(0, .ref h_this)] := hl
  have CF : CallFix p m c cX2_init 1 s args wsX2_init RX2 := ⟨hx, hb, hml, hown, hts⟩
  have in_X2 : ∀ w ∈ wsX20, w ∈ wsX2_init := fun w h => List.mem_cons_of_mem _ (List.mem_append_right _ h)
  have ac_int : (Cond.arrayClass .int).before args s = true := hts (.arrayClass .int) (List.mem_of_getElem? (i := 4) rfl)
  have hL9 : (Cond.fieldLink RX2 9 "DustSums$Program" "cells" "[I").before args s = true := hts (.fieldLink RX2 9 "DustSums$Program" "cells" "[I") (List.mem_of_getElem? (i := 5) rfl)
  have hL15 : (Cond.fieldLink RX2 15 "DustSums$Program" "depths" "[I").before args s = true := hts (.fieldLink RX2 15 "DustSums$Program" "depths" "[I") (List.mem_of_getElem? (i := 6) rfl)
  refine lv_aload_n hx hb dX2_init_0 rfl (lv_at hl 0 rfl) ?_
  refine W.objInit hx hb hown (hts (.methodLink RX2 3 objectInit) (List.mem_of_getElem? (i := 1) rfl)) (hts (.instanceMethod objectInit) (List.mem_of_getElem? (i := 2) rfl)) (hts (.code objectInit ⟨#[0xb1]⟩ 1 none) (List.mem_of_getElem? (i := 3) rfl)) rfl (by rw [hml]; exact hl.1) rfl dX2_init_1 (Nat.le_of_ble_eq_true rfl) (Nat.le_of_ble_eq_true rfl) ?_
  refine W.eq (g2 := F0 m 4 ls []) rfl ?_
  refine lv_aload_n hx hb dX2_init_4 rfl (lv_at hl 0 rfl) ?_
  refine lv_bipush (v := (96 : Int32)) hx hb dX2_init_5 (by decide) ?_
  refine va_newa (atype := .int) (n := (96 : Int32)) (a0 := (96, .inl (fun _ => 0))) (N' := 96) (ty := .int) hx hb ac_int rfl hK hP hD hS hA (fun _ => rfl) (by decide) (by decide) (by decide) (Nat.le_of_ble_eq_true rfl) (Nat.le_of_ble_eq_true rfl) dX2_init_7 (fun h_cells k_cells H hK hP hD hS => ?_)
  have hK : va_K (dC, dI) vwCl [(k_cells, .int)] s := hK
  have hP : va_P (dC, dI) vwCl [(h_this, .inr (2, [.null, .null, .int 0, .int 0, .int 0, .int 0])), (h_cells, .inl (k_cells, 96, .inl (fun _ => 0)))] H := hP
  have hD : va_D A [(h_this, .inr (2, [.null, .null, .int 0, .int 0, .int 0, .int 0])), (h_cells, .inl (k_cells, 96, .inl (fun _ => 0)))] := hD
  refine W.widen (k := 1) (n := 96) (Nat.le_of_ble_eq_true rfl) (Nat.le_of_ble_eq_true rfl) ?_
  refine va_putF (D := (dC, dI)) (ci := 2) (v := .ref h_cells) (ty := .array .int) (C := RX2) (T := TX2) (N := 6) hx hb hts in_X2 tyX2 tyX2_ok nmX2 hown hK hP hD hS 0 rfl rfl 0 (by decide) hL9 (fun _ h9 => h9) rfl hin rfl (by decide +kernel) rfl rfl (Nat.le_of_ble_eq_true rfl) dX2_init_9 (fun H locs hP hD hS => ?_)
  have hP : va_P (dC, dI) vwCl [(h_this, .inr (2, [.ref h_cells, .null, .int 0, .int 0, .int 0, .int 0])), (h_cells, .inl (k_cells, 96, .inl (fun _ => 0)))] H := hP
  have hD : va_D A [(h_this, .inr (2, [.ref h_cells, .null, .int 0, .int 0, .int 0, .int 0])), (h_cells, .inl (k_cells, 96, .inl (fun _ => 0)))] := hD
  refine lv_aload_n hx hb dX2_init_12 rfl (lv_at hl 0 rfl) ?_
  refine lv_bipush (v := (16 : Int32)) hx hb dX2_init_13 (by decide) ?_
  refine va_newa (atype := .int) (n := (16 : Int32)) (a0 := (16, .inl (fun _ => 0))) (N' := 16) (ty := .int) hx hb ac_int rfl hK hP hD hS hA (fun _ => rfl) (by decide) (by decide) (by decide) (Nat.le_of_ble_eq_true rfl) (Nat.le_of_ble_eq_true rfl) dX2_init_15 (fun h_depths k_depths H hK hP hD hS => ?_)
  have hK : va_K (dC, dI) vwCl [(k_cells, .int), (k_depths, .int)] s := hK
  have hP : va_P (dC, dI) vwCl [(h_this, .inr (2, [.ref h_cells, .null, .int 0, .int 0, .int 0, .int 0])), (h_cells, .inl (k_cells, 96, .inl (fun _ => 0))), (h_depths, .inl (k_depths, 16, .inl (fun _ => 0)))] H := hP
  have hD : va_D A [(h_this, .inr (2, [.ref h_cells, .null, .int 0, .int 0, .int 0, .int 0])), (h_cells, .inl (k_cells, 96, .inl (fun _ => 0))), (h_depths, .inl (k_depths, 16, .inl (fun _ => 0)))] := hD
  refine W.widen (k := 2) (n := 112) (Nat.le_of_ble_eq_true rfl) (Nat.le_of_ble_eq_true rfl) ?_
  refine va_putF (D := (dC, dI)) (ci := 2) (v := .ref h_depths) (ty := .array .int) (C := RX2) (T := TX2) (N := 6) hx hb hts in_X2 tyX2 tyX2_ok nmX2 hown hK hP hD hS 0 rfl rfl 1 (by decide) hL15 (fun _ h9 => h9) rfl hin rfl (by decide +kernel) rfl rfl (Nat.le_of_ble_eq_true rfl) dX2_init_17 (fun H locs hP hD hS => ?_)
  have hP : va_P (dC, dI) vwCl [(h_this, .inr (2, [.ref h_cells, .ref h_depths, .int 0, .int 0, .int 0, .int 0])), (h_cells, .inl (k_cells, 96, .inl (fun _ => 0))), (h_depths, .inl (k_depths, 16, .inl (fun _ => 0)))] H := hP
  have hD : va_D A [(h_this, .inr (2, [.ref h_cells, .ref h_depths, .int 0, .int 0, .int 0, .int 0])), (h_cells, .inl (k_cells, 96, .inl (fun _ => 0))), (h_depths, .inl (k_depths, 16, .inl (fun _ => 0)))] := hD
  have hP9 := hP.sub (ws' := [(h_this, .inr (2, [.ref h_cells, .ref h_depths, .int 0, .int 0, .int 0, .int 0])), (h_cells, .inl (k_cells, 96, .inl (fun _ => 0))), (h_depths, .inl (k_depths, 16, .inl (fun _ => 0)))]) [0, 1, 2] rfl
  have hD9 := hD.sub (ws' := [(h_this, .inr (2, [.ref h_cells, .ref h_depths, .int 0, .int 0, .int 0, .int 0])), (h_cells, .inl (k_cells, 96, .inl (fun _ => 0))), (h_depths, .inl (k_depths, 16, .inl (fun _ => 0)))]) [0, 1, 2] (by decide) rfl
  have hK9 := hK.sub (tys' := [(k_cells, .int), (k_depths, .int)]) [0, 1] rfl
  exact W.vret hx hb hr (fun t ht hW => ⟨⟨(), rfl, trivial, h_cells, h_depths, k_cells, k_depths, by rw [ht]; exact hP9, va_K.moved hW.alike hK9, hD9⟩, hS.F ht⟩) hS.2.2 dX2_init_20
