set_option maxHeartbeats 4000000 in
set_option maxRecDepth 100000 in
theorem t_X7_init (l : Launch) (dC : Nat → ClassId) (dI : Nat → Nat → Nat) (h_this : Nat) (sz : Nat) : Met l yX7_init wsX7_init ({ frames := 1, cells := 1, slots := 300, locals := 21 } : Room) (va_Pc [.ref h_this] (gP (dC, dI) [(h_this, .inr (7, [.null, .int 0]))] [] sz)) (va_Qv (fun _ : Unit => True) (fun _ t => ∃ (h_bytes : Nat) (k_bytes : ClassId), va_P (dC, dI) vwCl [(h_this, .inr (7, [.ref h_bytes, .int 0])), (h_bytes, .inl (k_bytes, 300, .inl (fun _ => 0)))] t.heap ∧ va_K (dC, dI) vwCl [(k_bytes, .byte)] t ∧ va_D (va_A [(h_this, .inr (7, [.null, .int 0]))] sz) [(h_this, .inr (7, [.ref h_bytes, .int 0])), (h_bytes, .inl (k_bytes, 300, .inl (fun _ => 0)))]) (va_A [(h_this, .inr (7, [.null, .int 0]))] sz)) 1 300 (va_A [(h_this, .inr (7, [.null, .int 0]))] sz) := by
  refine Met.ofW (cc := cX7_init) (maxL := 1) (ret := none) (by decide) rfl ?_
  intro p e s m args below meth c s₁ B hml hv
  obtain ⟨hav, hsz, hP, hK, hD0, hN⟩ := hv
  have hx := B.exec
  have hb := B.bytes
  have hr := B.returns
  have hts := atoms_spec (ws := wsX7_init) B.pre
  have hown : s.vm.findClass RX7 = some m.cls := findClass_of_methodNamed B.named
  have hlocks := B.notSynchronized
  have hin : meth.name = "<init>" := (name_of_methodNamed B.named B.method).1
  subst hsz
  have hD := hD0.self (sz := s.heap.size)
  generalize hAe : va_A [(h_this, .inr (7, [.null, .int 0]))] s.heap.size = A at hD ⊢
  have hA : ∀ q : Nat, s.heap.size ≤ q → A q := fun q h => by rw [← hAe]; exact Or.inr h
  have hS : va_S A s.heap s.heap [] := va_S.rf
  have hP : va_P (dC, dI) vwCl [(h_this, .inr (7, [.null, .int 0]))] s.heap := hP
  have hE : entryFrame m args 1 = F0 m 0 ((lg_sl [.ref h_this] ++ List.replicate (1 - (lg_sl [.ref h_this]).length) Slot.unset).toArray) [] := by rw [hav]; exact lg_entry_eq m [.ref h_this] 1
  rw [hE]
  refine gRoom ({ frames := 1, cells := 1, slots := 300, locals := 21 } : Room) rfl ?_
  have hl := lv_entry [.ref h_this] (n := 1) (Nat.le_of_ble_eq_true rfl)
  generalize (lg_sl [.ref h_this] ++ List.replicate (1 - (lg_sl [.ref h_this]).length) Slot.unset).toArray = ls at hl ⊢
  have hl : lv_has ls 1 [(0, .ref h_this)] := hl
  have CF : CallFix p m c cX7_init 1 s args wsX7_init RX7 := ⟨hx, hb, hml, hown, hts⟩
  have in_X7 : ∀ w ∈ wsX70, w ∈ wsX7_init := fun w h => List.mem_cons_of_mem _ (List.mem_append_right _ h)
  have ac_byte : (Cond.arrayClass .byte).before args s = true := hts (.arrayClass .byte) (List.mem_of_getElem? (i := 4) rfl)
  have hL9 : (Cond.fieldLink RX7 9 "DustSums$Text" "bytes" "[B").before args s = true := hts (.fieldLink RX7 9 "DustSums$Text" "bytes" "[B") (List.mem_of_getElem? (i := 5) rfl)
  refine lv_aload_n hx hb dX7_init_0 rfl (lv_at hl 0 rfl) ?_
  refine W.objInit hx hb hown (hts (.methodLink RX7 3 objectInit) (List.mem_of_getElem? (i := 1) rfl)) (hts (.instanceMethod objectInit) (List.mem_of_getElem? (i := 2) rfl)) (hts (.code objectInit ⟨#[0xb1]⟩ 1 none) (List.mem_of_getElem? (i := 3) rfl)) rfl (by rw [hml]; exact hl.1) rfl dX7_init_1 (Nat.le_of_ble_eq_true rfl) (Nat.le_of_ble_eq_true rfl) ?_
  refine W.eq (g2 := F0 m 4 ls []) rfl ?_
  refine lv_aload_n hx hb dX7_init_4 rfl (lv_at hl 0 rfl) ?_
  refine lv_sipush (v := (300 : Int32)) hx hb dX7_init_5 (by decide) ?_
  refine va_newa (atype := .byte) (n := (300 : Int32)) (a0 := (300, .inl (fun _ => 0))) (N' := 300) (ty := .byte) hx hb ac_byte rfl hK hP hD hS hA (fun _ => rfl) (by decide) (by decide) (by decide) (Nat.le_of_ble_eq_true rfl) (Nat.le_of_ble_eq_true rfl) dX7_init_8 (fun h_bytes k_bytes H hK hP hD hS => ?_)
  have hK : va_K (dC, dI) vwCl [(k_bytes, .byte)] s := hK
  have hP : va_P (dC, dI) vwCl [(h_this, .inr (7, [.null, .int 0])), (h_bytes, .inl (k_bytes, 300, .inl (fun _ => 0)))] H := hP
  have hD : va_D A [(h_this, .inr (7, [.null, .int 0])), (h_bytes, .inl (k_bytes, 300, .inl (fun _ => 0)))] := hD
  refine W.widen (k := 1) (n := 300) (Nat.le_of_ble_eq_true rfl) (Nat.le_of_ble_eq_true rfl) ?_
  refine va_putF (D := (dC, dI)) (ci := 7) (v := .ref h_bytes) (ty := .array .byte) (C := RX7) (T := TX7) (N := 2) hx hb hts in_X7 tyX7 tyX7_ok nmX7 hown hK hP hD hS 0 rfl rfl 0 (by decide) hL9 (fun _ h9 => h9) rfl hin rfl (by decide +kernel) rfl rfl (Nat.le_of_ble_eq_true rfl) dX7_init_10 (fun H locs hP hD hS => ?_)
  have hP : va_P (dC, dI) vwCl [(h_this, .inr (7, [.ref h_bytes, .int 0])), (h_bytes, .inl (k_bytes, 300, .inl (fun _ => 0)))] H := hP
  have hD : va_D A [(h_this, .inr (7, [.ref h_bytes, .int 0])), (h_bytes, .inl (k_bytes, 300, .inl (fun _ => 0)))] := hD
  have hP9 := hP.sub (ws' := [(h_this, .inr (7, [.ref h_bytes, .int 0])), (h_bytes, .inl (k_bytes, 300, .inl (fun _ => 0)))]) [0, 1] rfl
  have hD9 := hD.sub (ws' := [(h_this, .inr (7, [.ref h_bytes, .int 0])), (h_bytes, .inl (k_bytes, 300, .inl (fun _ => 0)))]) [0, 1] (by decide) rfl
  have hK9 := hK.sub (tys' := [(k_bytes, .byte)]) [0] rfl
  exact W.vret hx hb hr (fun t ht hW => ⟨⟨(), rfl, trivial, h_bytes, k_bytes, by rw [ht]; exact hP9, va_K.moved hW.alike hK9, hD9⟩, hS.F ht⟩) hS.2.2 dX7_init_13
