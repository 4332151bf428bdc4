set_option maxHeartbeats 4000000 in
set_option maxRecDepth 100000 in
theorem t_X8_init (l : Launch) (dC : Nat → ClassId) (dI : Nat → Nat → Nat) (h_this : Nat) (sz : Nat) : Met l yX8_init wsX8_init ({ frames := 1, cells := 2, slots := 19, locals := 21 } : Room) (va_Pc [.ref h_this] (gP (dC, dI) [(h_this, .inr (8, [.null, .null]))] [] sz)) (va_Qv (fun _ : Unit => True) (fun _ t => ∃ (h_prices h_rounds : Nat) (k_prices k_rounds : ClassId), va_P (dC, dI) vwCl [(h_this, .inr (8, [.ref h_prices, .ref h_rounds])), (h_prices, .inl (k_prices, 3, .inl (upd (upd (upd (fun _ => 0) (0 : Int32).toNatClampNeg (10 : Int32)) (1 : Int32).toNatClampNeg (4 : Int32)) (2 : Int32).toNatClampNeg (20 : Int32)))), (h_rounds, .inl (k_rounds, 16, .inl (fun _ => 0)))] t.heap ∧ va_K (dC, dI) vwCl [(k_prices, .int), (k_rounds, .int)] t ∧ va_D (va_A [(h_this, .inr (8, [.null, .null]))] sz) [(h_this, .inr (8, [.ref h_prices, .ref h_rounds])), (h_prices, .inl (k_prices, 3, .inl (upd (upd (upd (fun _ => 0) (0 : Int32).toNatClampNeg (10 : Int32)) (1 : Int32).toNatClampNeg (4 : Int32)) (2 : Int32).toNatClampNeg (20 : Int32)))), (h_rounds, .inl (k_rounds, 16, .inl (fun _ => 0)))]) (va_A [(h_this, .inr (8, [.null, .null]))] sz)) 2 19 (va_A [(h_this, .inr (8, [.null, .null]))] sz) := by
  refine Met.ofW (cc := cX8_init) (maxL := 1) (ret := none) (by decide) rfl ?_
  intro p e s m args below meth c s₁ B hml hv
  obtain ⟨hav, hsz, hP, hK, hD0, hN⟩ := hv
  have hx := B.exec
  have hb := B.bytes
  have hr := B.returns
  have hts := atoms_spec (ws := wsX8_init) B.pre
  have hown : s.vm.findClass RX8 = some m.cls := findClass_of_methodNamed B.named
  have hlocks := B.notSynchronized
  have hin : meth.name = "<init>" := (name_of_methodNamed B.named B.method).1
  subst hsz
  have hD := hD0.self (sz := s.heap.size)
  generalize hAe : va_A [(h_this, .inr (8, [.null, .null]))] s.heap.size = A at hD ⊢
  have hA : ∀ q : Nat, s.heap.size ≤ q → A q := fun q h => by rw [← hAe]; exact Or.inr h
  have hS : va_S A s.heap s.heap [] := va_S.rf
  have hP : va_P (dC, dI) vwCl [(h_this, .inr (8, [.null, .null]))] s.heap := hP
  have hE : entryFrame m args 1 = F0 m 0 ((lg_sl [.ref h_this] ++ List.replicate (1 - (lg_sl [.ref h_this]).length) Slot.unset).toArray) [] := by rw [hav]; exact lg_entry_eq m [.ref h_this] 1
  rw [hE]
  refine gRoom ({ frames := 1, cells := 2, slots := 19, locals := 21 } : Room) rfl ?_
  have hl := lv_entry [.ref h_this] (n := 1) (Nat.le_of_ble_eq_true rfl)
  generalize (lg_sl [.ref h_this] ++ List.replicate (1 - (lg_sl [.ref h_this]).length) Slot.unset).toArray = ls at hl ⊢
  have hl : lv_has ls 1 [(0, .ref h_this)] := hl
  have CF : CallFix p m c cX8_init 1 s args wsX8_init RX8 := ⟨hx, hb, hml, hown, hts⟩
  have in_X8 : ∀ w ∈ wsX80, w ∈ wsX8_init := fun w h => List.mem_cons_of_mem _ (List.mem_append_right _ h)
  have ac_int : (Cond.arrayClass .int).before args s = true := hts (.arrayClass .int) (List.mem_of_getElem? (i := 4) rfl)
  have hL9 : (Cond.fieldLink RX8 9 "DustSums$Trades" "prices" "[I").before args s = true := hts (.fieldLink RX8 9 "DustSums$Trades" "prices" "[I") (List.mem_of_getElem? (i := 5) rfl)
  have hL15 : (Cond.fieldLink RX8 15 "DustSums$Trades" "rounds" "[I").before args s = true := hts (.fieldLink RX8 15 "DustSums$Trades" "rounds" "[I") (List.mem_of_getElem? (i := 6) rfl)
  refine lv_aload_n hx hb dX8_init_0 rfl (lv_at hl 0 rfl) ?_
  refine W.objInit hx hb hown (hts (.methodLink RX8 3 objectInit) (List.mem_of_getElem? (i := 1) rfl)) (hts (.instanceMethod objectInit) (List.mem_of_getElem? (i := 2) rfl)) (hts (.code objectInit ⟨#[0xb1]⟩ 1 none) (List.mem_of_getElem? (i := 3) rfl)) rfl (by rw [hml]; exact hl.1) rfl dX8_init_1 (Nat.le_of_ble_eq_true rfl) (Nat.le_of_ble_eq_true rfl) ?_
  refine W.eq (g2 := F0 m 4 ls []) rfl ?_
  refine lv_aload_n hx hb dX8_init_4 rfl (lv_at hl 0 rfl) ?_
  refine lv_iconst (v := (3 : Int32)) hx hb dX8_init_5 (by decide) ?_
  refine va_newa (atype := .int) (n := (3 : Int32)) (a0 := (3, .inl (fun _ => 0))) (N' := 3) (ty := .int) hx hb ac_int rfl hK hP hD hS hA (fun _ => rfl) (by decide) (by decide) (by decide) (Nat.le_of_ble_eq_true rfl) (Nat.le_of_ble_eq_true rfl) dX8_init_6 (fun h_prices k_prices H hK hP hD hS => ?_)
  have hK : va_K (dC, dI) vwCl [(k_prices, .int)] s := hK
  have hP : va_P (dC, dI) vwCl [(h_this, .inr (8, [.null, .null])), (h_prices, .inl (k_prices, 3, .inl (fun _ => 0)))] H := hP
  have hD : va_D A [(h_this, .inr (8, [.null, .null])), (h_prices, .inl (k_prices, 3, .inl (fun _ => 0)))] := hD
  refine W.widen (k := 1) (n := 3) (Nat.le_of_ble_eq_true rfl) (Nat.le_of_ble_eq_true rfl) ?_
  refine lv_dup hx hb dX8_init_8 rfl ?_
  refine lv_iconst (v := (0 : Int32)) hx hb dX8_init_9 (by decide) ?_
  refine lv_bipush (v := (10 : Int32)) hx hb dX8_init_10 (by decide) ?_
  refine va_iast hx hb hK hP hD hS 1 0 rfl rfl (gin_in (by decide)) dX8_init_12 (fun H locs hP hD hS => ?_)
  have hP : va_P (dC, dI) vwCl [(h_this, .inr (8, [.null, .null])), (h_prices, .inl (k_prices, 3, .inl (upd (fun _ => 0) (0 : Int32).toNatClampNeg (10 : Int32))))] H := hP
  have hD : va_D A [(h_this, .inr (8, [.null, .null])), (h_prices, .inl (k_prices, 3, .inl (upd (fun _ => 0) (0 : Int32).toNatClampNeg (10 : Int32))))] := hD
  refine lv_dup hx hb dX8_init_13 rfl ?_
  refine lv_iconst (v := (1 : Int32)) hx hb dX8_init_14 (by decide) ?_
  refine lv_iconst (v := (4 : Int32)) hx hb dX8_init_15 (by decide) ?_
  refine va_iast hx hb hK hP hD hS 1 0 rfl rfl (gin_in (by decide)) dX8_init_16 (fun H locs hP hD hS => ?_)
  have hP : va_P (dC, dI) vwCl [(h_this, .inr (8, [.null, .null])), (h_prices, .inl (k_prices, 3, .inl (upd (upd (fun _ => 0) (0 : Int32).toNatClampNeg (10 : Int32)) (1 : Int32).toNatClampNeg (4 : Int32))))] H := hP
  have hD : va_D A [(h_this, .inr (8, [.null, .null])), (h_prices, .inl (k_prices, 3, .inl (upd (upd (fun _ => 0) (0 : Int32).toNatClampNeg (10 : Int32)) (1 : Int32).toNatClampNeg (4 : Int32))))] := hD
  refine lv_dup hx hb dX8_init_17 rfl ?_
  refine lv_iconst (v := (2 : Int32)) hx hb dX8_init_18 (by decide) ?_
  refine lv_bipush (v := (20 : Int32)) hx hb dX8_init_19 (by decide) ?_
  refine va_iast hx hb hK hP hD hS 1 0 rfl rfl (gin_in (by decide)) dX8_init_21 (fun H locs hP hD hS => ?_)
  have hP : va_P (dC, dI) vwCl [(h_this, .inr (8, [.null, .null])), (h_prices, .inl (k_prices, 3, .inl (upd (upd (upd (fun _ => 0) (0 : Int32).toNatClampNeg (10 : Int32)) (1 : Int32).toNatClampNeg (4 : Int32)) (2 : Int32).toNatClampNeg (20 : Int32))))] H := hP
  have hD : va_D A [(h_this, .inr (8, [.null, .null])), (h_prices, .inl (k_prices, 3, .inl (upd (upd (upd (fun _ => 0) (0 : Int32).toNatClampNeg (10 : Int32)) (1 : Int32).toNatClampNeg (4 : Int32)) (2 : Int32).toNatClampNeg (20 : Int32))))] := hD
  refine va_putF (D := (dC, dI)) (ci := 8) (v := .ref h_prices) (ty := .array .int) (C := RX8) (T := TX8) (N := 2) hx hb hts in_X8 tyX8 tyX8_ok nmX8 hown hK hP hD hS 0 rfl rfl 0 (by decide) hL9 (fun _ h9 => h9) rfl hin rfl (by decide +kernel) rfl rfl (Nat.le_of_ble_eq_true rfl) dX8_init_22 (fun H locs hP hD hS => ?_)
  have hP : va_P (dC, dI) vwCl [(h_this, .inr (8, [.ref h_prices, .null])), (h_prices, .inl (k_prices, 3, .inl (upd (upd (upd (fun _ => 0) (0 : Int32).toNatClampNeg (10 : Int32)) (1 : Int32).toNatClampNeg (4 : Int32)) (2 : Int32).toNatClampNeg (20 : Int32))))] H := hP
  have hD : va_D A [(h_this, .inr (8, [.ref h_prices, .null])), (h_prices, .inl (k_prices, 3, .inl (upd (upd (upd (fun _ => 0) (0 : Int32).toNatClampNeg (10 : Int32)) (1 : Int32).toNatClampNeg (4 : Int32)) (2 : Int32).toNatClampNeg (20 : Int32))))] := hD
  refine lv_aload_n hx hb dX8_init_25 rfl (lv_at hl 0 rfl) ?_
  refine lv_bipush (v := (16 : Int32)) hx hb dX8_init_26 (by decide) ?_
  refine va_newa (atype := .int) (n := (16 : Int32)) (a0 := (16, .inl (fun _ => 0))) (N' := 16) (ty := .int) hx hb ac_int rfl hK hP hD hS hA (fun _ => rfl) (by decide) (by decide) (by decide) (Nat.le_of_ble_eq_true rfl) (Nat.le_of_ble_eq_true rfl) dX8_init_28 (fun h_rounds k_rounds H hK hP hD hS => ?_)
  have hK : va_K (dC, dI) vwCl [(k_prices, .int), (k_rounds, .int)] s := hK
  have hP : va_P (dC, dI) vwCl [(h_this, .inr (8, [.ref h_prices, .null])), (h_prices, .inl (k_prices, 3, .inl (upd (upd (upd (fun _ => 0) (0 : Int32).toNatClampNeg (10 : Int32)) (1 : Int32).toNatClampNeg (4 : Int32)) (2 : Int32).toNatClampNeg (20 : Int32)))), (h_rounds, .inl (k_rounds, 16, .inl (fun _ => 0)))] H := hP
  have hD : va_D A [(h_this, .inr (8, [.ref h_prices, .null])), (h_prices, .inl (k_prices, 3, .inl (upd (upd (upd (fun _ => 0) (0 : Int32).toNatClampNeg (10 : Int32)) (1 : Int32).toNatClampNeg (4 : Int32)) (2 : Int32).toNatClampNeg (20 : Int32)))), (h_rounds, .inl (k_rounds, 16, .inl (fun _ => 0)))] := hD
  refine W.widen (k := 2) (n := 19) (Nat.le_of_ble_eq_true rfl) (Nat.le_of_ble_eq_true rfl) ?_
  refine va_putF (D := (dC, dI)) (ci := 8) (v := .ref h_rounds) (ty := .array .int) (C := RX8) (T := TX8) (N := 2) hx hb hts in_X8 tyX8 tyX8_ok nmX8 hown hK hP hD hS 0 rfl rfl 1 (by decide) hL15 (fun _ h9 => h9) rfl hin rfl (by decide +kernel) rfl rfl (Nat.le_of_ble_eq_true rfl) dX8_init_30 (fun H locs hP hD hS => ?_)
  have hP : va_P (dC, dI) vwCl [(h_this, .inr (8, [.ref h_prices, .ref h_rounds])), (h_prices, .inl (k_prices, 3, .inl (upd (upd (upd (fun _ => 0) (0 : Int32).toNatClampNeg (10 : Int32)) (1 : Int32).toNatClampNeg (4 : Int32)) (2 : Int32).toNatClampNeg (20 : Int32)))), (h_rounds, .inl (k_rounds, 16, .inl (fun _ => 0)))] H := hP
  have hD : va_D A [(h_this, .inr (8, [.ref h_prices, .ref h_rounds])), (h_prices, .inl (k_prices, 3, .inl (upd (upd (upd (fun _ => 0) (0 : Int32).toNatClampNeg (10 : Int32)) (1 : Int32).toNatClampNeg (4 : Int32)) (2 : Int32).toNatClampNeg (20 : Int32)))), (h_rounds, .inl (k_rounds, 16, .inl (fun _ => 0)))] := hD
  have hP9 := hP.sub (ws' := [(h_this, .inr (8, [.ref h_prices, .ref h_rounds])), (h_prices, .inl (k_prices, 3, .inl (upd (upd (upd (fun _ => 0) (0 : Int32).toNatClampNeg (10 : Int32)) (1 : Int32).toNatClampNeg (4 : Int32)) (2 : Int32).toNatClampNeg (20 : Int32)))), (h_rounds, .inl (k_rounds, 16, .inl (fun _ => 0)))]) [0, 1, 2] rfl
  have hD9 := hD.sub (ws' := [(h_this, .inr (8, [.ref h_prices, .ref h_rounds])), (h_prices, .inl (k_prices, 3, .inl (upd (upd (upd (fun _ => 0) (0 : Int32).toNatClampNeg (10 : Int32)) (1 : Int32).toNatClampNeg (4 : Int32)) (2 : Int32).toNatClampNeg (20 : Int32)))), (h_rounds, .inl (k_rounds, 16, .inl (fun _ => 0)))]) [0, 1, 2] (by decide) rfl
  have hK9 := hK.sub (tys' := [(k_prices, .int), (k_rounds, .int)]) [0, 1] rfl
  exact W.vret hx hb hr (fun t ht hW => ⟨⟨(), rfl, trivial, h_prices, h_rounds, k_prices, k_rounds, by rw [ht]; exact hP9, va_K.moved hW.alike hK9, hD9⟩, hS.F ht⟩) hS.2.2 dX8_init_33
