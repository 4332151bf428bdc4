set_option maxHeartbeats 4000000 in
set_option maxRecDepth 100000 in
theorem t_X5_init (l : Launch) (dC : Nat → ClassId) (dI : Nat → Nat → Nat) (h_this : Nat) (sz : Nat) : Met l yX5_init wsX5_init ({ frames := 1, cells := 2, slots := 8232, locals := 21 } : Room) (va_Pc [.ref h_this] (gP (dC, dI) [(h_this, .inr (5, [.null, .null, .int 0]))] [] sz)) (va_Qv (fun _ : Unit => True) (fun _ t => ∃ (h_slots h_lots : Nat) (k_slots k_lots : ClassId), va_P (dC, dI) vwCl [(h_this, .inr (5, [.ref h_slots, .ref h_lots, .int 0])), (h_slots, .inl (k_slots, 8192, .inr (.inl (fun _ => 0)))), (h_lots, .inl (k_lots, 40, .inl (fun _ => 0)))] t.heap ∧ va_K (dC, dI) vwCl [(k_slots, .long), (k_lots, .int)] t ∧ va_D (va_A [(h_this, .inr (5, [.null, .null, .int 0]))] sz) [(h_this, .inr (5, [.ref h_slots, .ref h_lots, .int 0])), (h_slots, .inl (k_slots, 8192, .inr (.inl (fun _ => 0)))), (h_lots, .inl (k_lots, 40, .inl (fun _ => 0)))]) (va_A [(h_this, .inr (5, [.null, .null, .int 0]))] sz)) 2 8232 (va_A [(h_this, .inr (5, [.null, .null, .int 0]))] sz) := by
  refine Met.ofW (cc := cX5_init) (maxL := 1) (ret := none) (by decide) rfl ?_
  intro p e s m args below meth c s₁ B hml hv
  obtain ⟨hav, hsz, hP, hK, hD0, hN⟩ := hv
  have hx := B.exec
  have hb := B.bytes
  have hr := B.returns
  have hts := atoms_spec (ws := wsX5_init) B.pre
  have hown : s.vm.findClass RX5 = some m.cls := findClass_of_methodNamed B.named
  have hlocks := B.notSynchronized
  have hin : meth.name = "<init>" := (name_of_methodNamed B.named B.method).1
  subst hsz
  have hD := hD0.self (sz := s.heap.size)
  generalize hAe : va_A [(h_this, .inr (5, [.null, .null, .int 0]))] s.heap.size = A at hD ⊢
  have hA : ∀ q : Nat, s.heap.size ≤ q → A q := fun q h => by rw [← hAe]; exact Or.inr h
  have hS : va_S A s.heap s.heap [] := va_S.rf
  have hP : va_P (dC, dI) vwCl [(h_this, .inr (5, [.null, .null, .int 0]))] s.heap := hP
  have hE : entryFrame m args 1 = F0 m 0 ((lg_sl [.ref h_this] ++ List.replicate (1 - (lg_sl [.ref h_this]).length) Slot.unset).toArray) [] := by rw [hav]; exact lg_entry_eq m [.ref h_this] 1
  rw [hE]
  refine gRoom ({ frames := 1, cells := 2, slots := 8232, locals := 21 } : Room) rfl ?_
  have hl := lv_entry [.ref h_this] (n := 1) (Nat.le_of_ble_eq_true rfl)
  generalize (lg_sl [.ref h_this] ++ List.replicate (1 - (lg_sl [.ref h_this]).length) Slot.unset).toArray = ls at hl ⊢
  have hl : lv_has ls 1 [(0, .ref h_this)] := hl
  have CF : CallFix p m c cX5_init 1 s args wsX5_init RX5 := ⟨hx, hb, hml, hown, hts⟩
  have in_X5 : ∀ w ∈ wsX50, w ∈ wsX5_init := fun w h => List.mem_cons_of_mem _ (List.mem_append_right _ h)
  have ac_long : (Cond.arrayClass .long).before args s = true := hts (.arrayClass .long) (List.mem_of_getElem? (i := 4) rfl)
  have hL11 : (Cond.fieldLink RX5 11 "DustSums$Spy" "slots" "[J").before args s = true := hts (.fieldLink RX5 11 "DustSums$Spy" "slots" "[J") (List.mem_of_getElem? (i := 5) rfl)
  have ac_int : (Cond.arrayClass .int).before args s = true := hts (.arrayClass .int) (List.mem_of_getElem? (i := 6) rfl)
  have hL15 : (Cond.fieldLink RX5 15 "DustSums$Spy" "lots" "[I").before args s = true := hts (.fieldLink RX5 15 "DustSums$Spy" "lots" "[I") (List.mem_of_getElem? (i := 7) rfl)
  refine lv_aload_n hx hb dX5_init_0 rfl (lv_at hl 0 rfl) ?_
  refine W.objInit hx hb hown (hts (.methodLink RX5 5 objectInit) (List.mem_of_getElem? (i := 1) rfl)) (hts (.instanceMethod objectInit) (List.mem_of_getElem? (i := 2) rfl)) (hts (.code objectInit ⟨#[0xb1]⟩ 1 none) (List.mem_of_getElem? (i := 3) rfl)) rfl (by rw [hml]; exact hl.1) rfl dX5_init_1 (Nat.le_of_ble_eq_true rfl) (Nat.le_of_ble_eq_true rfl) ?_
  refine W.eq (g2 := F0 m 4 ls []) rfl ?_
  refine lv_aload_n hx hb dX5_init_4 rfl (lv_at hl 0 rfl) ?_
  refine lv_sipush (v := (8192 : Int32)) hx hb dX5_init_5 (by decide) ?_
  refine va_newa (atype := .long) (n := (8192 : Int32)) (a0 := (8192, .inr (.inl (fun _ => 0)))) (N' := 8192) (ty := .long) hx hb ac_long rfl hK hP hD hS hA (fun _ => rfl) (by decide) (by decide) (by decide) (Nat.le_of_ble_eq_true rfl) (Nat.le_of_ble_eq_true rfl) dX5_init_8 (fun h_slots k_slots H hK hP hD hS => ?_)
  have hK : va_K (dC, dI) vwCl [(k_slots, .long)] s := hK
  have hP : va_P (dC, dI) vwCl [(h_this, .inr (5, [.null, .null, .int 0])), (h_slots, .inl (k_slots, 8192, .inr (.inl (fun _ => 0))))] H := hP
  have hD : va_D A [(h_this, .inr (5, [.null, .null, .int 0])), (h_slots, .inl (k_slots, 8192, .inr (.inl (fun _ => 0))))] := hD
  refine W.widen (k := 1) (n := 8192) (Nat.le_of_ble_eq_true rfl) (Nat.le_of_ble_eq_true rfl) ?_
  refine va_putF (D := (dC, dI)) (ci := 5) (v := .ref h_slots) (ty := .array .long) (C := RX5) (T := TX5) (N := 3) hx hb hts in_X5 tyX5 tyX5_ok nmX5 hown hK hP hD hS 0 rfl rfl 0 (by decide) hL11 (fun _ h9 => h9) rfl hin rfl (by decide +kernel) rfl rfl (Nat.le_of_ble_eq_true rfl) dX5_init_10 (fun H locs hP hD hS => ?_)
  have hP : va_P (dC, dI) vwCl [(h_this, .inr (5, [.ref h_slots, .null, .int 0])), (h_slots, .inl (k_slots, 8192, .inr (.inl (fun _ => 0))))] H := hP
  have hD : va_D A [(h_this, .inr (5, [.ref h_slots, .null, .int 0])), (h_slots, .inl (k_slots, 8192, .inr (.inl (fun _ => 0))))] := hD
  refine lv_aload_n hx hb dX5_init_13 rfl (lv_at hl 0 rfl) ?_
  refine lv_bipush (v := (40 : Int32)) hx hb dX5_init_14 (by decide) ?_
  refine va_newa (atype := .int) (n := (40 : Int32)) (a0 := (40, .inl (fun _ => 0))) (N' := 40) (ty := .int) hx hb ac_int rfl hK hP hD hS hA (fun _ => rfl) (by decide) (by decide) (by decide) (Nat.le_of_ble_eq_true rfl) (Nat.le_of_ble_eq_true rfl) dX5_init_16 (fun h_lots k_lots H hK hP hD hS => ?_)
  have hK : va_K (dC, dI) vwCl [(k_slots, .long), (k_lots, .int)] s := hK
  have hP : va_P (dC, dI) vwCl [(h_this, .inr (5, [.ref h_slots, .null, .int 0])), (h_slots, .inl (k_slots, 8192, .inr (.inl (fun _ => 0)))), (h_lots, .inl (k_lots, 40, .inl (fun _ => 0)))] H := hP
  have hD : va_D A [(h_this, .inr (5, [.ref h_slots, .null, .int 0])), (h_slots, .inl (k_slots, 8192, .inr (.inl (fun _ => 0)))), (h_lots, .inl (k_lots, 40, .inl (fun _ => 0)))] := hD
  refine W.widen (k := 2) (n := 8232) (Nat.le_of_ble_eq_true rfl) (Nat.le_of_ble_eq_true rfl) ?_
  refine va_putF (D := (dC, dI)) (ci := 5) (v := .ref h_lots) (ty := .array .int) (C := RX5) (T := TX5) (N := 3) hx hb hts in_X5 tyX5 tyX5_ok nmX5 hown hK hP hD hS 0 rfl rfl 1 (by decide) hL15 (fun _ h9 => h9) rfl hin rfl (by decide +kernel) rfl rfl (Nat.le_of_ble_eq_true rfl) dX5_init_18 (fun H locs hP hD hS => ?_)
  have hP : va_P (dC, dI) vwCl [(h_this, .inr (5, [.ref h_slots, .ref h_lots, .int 0])), (h_slots, .inl (k_slots, 8192, .inr (.inl (fun _ => 0)))), (h_lots, .inl (k_lots, 40, .inl (fun _ => 0)))] H := hP
  have hD : va_D A [(h_this, .inr (5, [.ref h_slots, .ref h_lots, .int 0])), (h_slots, .inl (k_slots, 8192, .inr (.inl (fun _ => 0)))), (h_lots, .inl (k_lots, 40, .inl (fun _ => 0)))] := hD
  have hP9 := hP.sub (ws' := [(h_this, .inr (5, [.ref h_slots, .ref h_lots, .int 0])), (h_slots, .inl (k_slots, 8192, .inr (.inl (fun _ => 0)))), (h_lots, .inl (k_lots, 40, .inl (fun _ => 0)))]) [0, 1, 2] rfl
  have hD9 := hD.sub (ws' := [(h_this, .inr (5, [.ref h_slots, .ref h_lots, .int 0])), (h_slots, .inl (k_slots, 8192, .inr (.inl (fun _ => 0)))), (h_lots, .inl (k_lots, 40, .inl (fun _ => 0)))]) [0, 1, 2] (by decide) rfl
  have hK9 := hK.sub (tys' := [(k_slots, .long), (k_lots, .int)]) [0, 1] rfl
  exact W.vret hx hb hr (fun t ht hW => ⟨⟨(), rfl, trivial, h_slots, h_lots, k_slots, k_lots, by rw [ht]; exact hP9, va_K.moved hW.alike hK9, hD9⟩, hS.F ht⟩) hS.2.2 dX5_init_21
