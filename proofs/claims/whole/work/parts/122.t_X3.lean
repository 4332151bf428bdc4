abbrev O_X3_isSmall : Type := Int32
def f_X3_isSmall (N : Nat) (x0 : Int32) : Option O_X3_isSmall :=
  (f_X9_within N x0 (97 : Int32) (122 : Int32)).bind (fun z_5 => if z_5 &&& 1 = z_5 then some (z_5) else none)
set_option maxHeartbeats 4000000 in
set_option maxRecDepth 100000 in
theorem t_X3_isSmall (l : Launch) (dC : Nat → ClassId) (dI : Nat → Nat → Nat) (sz : Nat) (x0 : Int32) (N : Nat) (out : O_X3_isSmall) (hF : f_X3_isSmall N x0 = some out) : gMi l yX3_isSmall wsX3_isSmall ({ frames := 1, cells := 0, slots := 0, locals := 22 } : Room) [.int x0] (dC, dI) [] [] sz [] out := by
  refine gEz (cc := cX3_isSmall) (maxL := 1) (by decide) rfl (Nat.le_of_ble_eq_true rfl) ?_
  intro p e s m args below meth c Q A ls CF hK hN hA hret hP hD hS hl
  have hx := CF.1
  have hb := CF.2.1
  have hml := CF.2.2.1
  have hown : s.vm.findClass RX3 = some m.cls := CF.2.2.2.1
  have hts := CF.2.2.2.2
  have hl : lv_has ls 1 [(0, .int x0)] := hl
  have nm90 : va_Nw (.methodLinkNest RX3 90 yX9_within "DustSums") s := hN.2 (RX3, 90, yX9_within, "DustSums") (by decide +kernel)
  have cw90 : va_CN ({ frames := 1, cells := 0, slots := 0, locals := 22 } : Room) s args RX3 90 yX9_within "DustSums" cX9_within 3 (some .boolean) wsX9_within ({ frames := 0, cells := 0, slots := 0, locals := 0 } : Room) 0 0 3 ∧ (Cond.static yX9_within).before args s = true ∧ True := ⟨va_cnB 3 hts gX3_isSmall_X9_within_n90 rfl rfl rfl nm90 (hts (.initialized RX9) (List.mem_of_getElem? (i := 2) rfl)) (by decide +kernel) ⟨Nat.le_of_ble_eq_true rfl, Nat.le_of_ble_eq_true rfl⟩, hts (.static yX9_within) (List.mem_of_getElem? (i := 1) rfl), trivial⟩
  unfold f_X3_isSmall at hF
  refine lv_iload_n hx hb dX3_isSmall_0 rfl (lv_at hl 0 rfl) ?_
  refine lv_bipush (v := (97 : Int32)) hx hb dX3_isSmall_1 (by decide) ?_
  refine lv_bipush (v := (122 : Int32)) hx hb dX3_isSmall_3 (by decide) ?_
  obtain ⟨z_5, hz_5, hF⟩ := gi_bind hF
  refine gRi (wc := []) (wr := []) (w1 := []) hP hD hS hA [] [] rfl rfl (by decide) (by decide) (va_runSN (As := [.int x0, .int (97 : Int32), .int (122 : Int32)]) (rest := []) CF (t_X9_within l dC dI s.heap.size x0 (97 : Int32) (122 : Int32) N z_5 hz_5) cw90 (gPS hP hD hK hN [] [] (by decide) rfl rfl) rfl rfl hl.1 rfl (lv_room (Nat.le_of_ble_eq_true rfl)) dX3_isSmall_5 ⟨Nat.zero_le _, Nat.zero_le _⟩) (fun H locs hP hD hS => ?_)
  obtain ⟨hz, hF⟩ := gi_bool hF
  have hF := Option.some.inj hF
  subst hF
  exact hret hz _ _ _ _ dX3_isSmall_8 hP hD hS
abbrev O_X3_whatOf : Type := Int32
def f_X3_whatOf (N : Nat) (x0 : Int32) : Option O_X3_whatOf :=
  if x0 = (26990 : Int32) then (some ((0 : Int32))) else (if x0 = (6382692 : Int32) then (some ((2 : Int32))) else (if x0 = (6516590 : Int32) then (some ((1 : Int32))) else (if x0 = (7173484 : Int32) then (some ((4 : Int32))) else (if x0 = (7304564 : Int32) then (some ((5 : Int32))) else (if x0 = (7566690 : Int32) then (some ((3 : Int32))) else (some ((-1 : Int32))))))))
set_option maxHeartbeats 4000000 in
set_option maxRecDepth 100000 in
theorem t_X3_whatOf (l : Launch) (dC : Nat → ClassId) (dI : Nat → Nat → Nat) (sz : Nat) (x0 : Int32) (N : Nat) (out : O_X3_whatOf) (hF : f_X3_whatOf N x0 = some out) : gMi l yX3_whatOf wsX3_whatOf ({ frames := 0, cells := 0, slots := 0, locals := 0 } : Room) [.int x0] (dC, dI) [] [] sz [] out := by
  refine gEi (cc := cX3_whatOf) (maxL := 1) (by decide) rfl (Nat.le_of_ble_eq_true rfl) ?_
  intro p e s m args below meth c Q A ls CF hK hN hA hret hP hD hS hl
  have hx := CF.1
  have hb := CF.2.1
  have hml := CF.2.2.1
  have hown : s.vm.findClass RX3 = some m.cls := CF.2.2.2.1
  have hts := CF.2.2.2.2
  have hl : lv_has ls 1 [(0, .int x0)] := hl
  unfold f_X3_whatOf at hF
  refine lv_iload_n hx hb dX3_whatOf_0 rfl (lv_at hl 0 rfl) ?_
  by_cases c_1_26990 : x0 = (26990 : Int32)
  · have hF := gi_t c_1_26990 hF
    refine lv_lookup (tgt := 60) hx hb dX3_whatOf_1 (by decide +kernel) (by rw [c_1_26990] <;> rfl) (by decide) ?_
    refine lv_iconst (v := (0 : Int32)) hx hb dX3_whatOf_60 (by decide) ?_
    have hF := Option.some.inj hF
    subst hF
    exact hret _ _ _ _ dX3_whatOf_61 hP hD hS
  · have hF := gi_f c_1_26990 hF
    by_cases c_1_6382692 : x0 = (6382692 : Int32)
    · have hF := gi_t c_1_6382692 hF
      refine lv_lookup (tgt := 64) hx hb dX3_whatOf_1 (by decide +kernel) (by rw [c_1_6382692] <;> rfl) (by decide) ?_
      refine lv_iconst (v := (2 : Int32)) hx hb dX3_whatOf_64 (by decide) ?_
      have hF := Option.some.inj hF
      subst hF
      exact hret _ _ _ _ dX3_whatOf_65 hP hD hS
    · have hF := gi_f c_1_6382692 hF
      by_cases c_1_6516590 : x0 = (6516590 : Int32)
      · have hF := gi_t c_1_6516590 hF
        refine lv_lookup (tgt := 62) hx hb dX3_whatOf_1 (by decide +kernel) (by rw [c_1_6516590] <;> rfl) (by decide) ?_
        refine lv_iconst (v := (1 : Int32)) hx hb dX3_whatOf_62 (by decide) ?_
        have hF := Option.some.inj hF
        subst hF
        exact hret _ _ _ _ dX3_whatOf_63 hP hD hS
      · have hF := gi_f c_1_6516590 hF
        by_cases c_1_7173484 : x0 = (7173484 : Int32)
        · have hF := gi_t c_1_7173484 hF
          refine lv_lookup (tgt := 68) hx hb dX3_whatOf_1 (by decide +kernel) (by rw [c_1_7173484] <;> rfl) (by decide) ?_
          refine lv_iconst (v := (4 : Int32)) hx hb dX3_whatOf_68 (by decide) ?_
          have hF := Option.some.inj hF
          subst hF
          exact hret _ _ _ _ dX3_whatOf_69 hP hD hS
        · have hF := gi_f c_1_7173484 hF
          by_cases c_1_7304564 : x0 = (7304564 : Int32)
          · have hF := gi_t c_1_7304564 hF
            refine lv_lookup (tgt := 70) hx hb dX3_whatOf_1 (by decide +kernel) (by rw [c_1_7304564] <;> rfl) (by decide) ?_
            refine lv_iconst (v := (5 : Int32)) hx hb dX3_whatOf_70 (by decide) ?_
            have hF := Option.some.inj hF
            subst hF
            exact hret _ _ _ _ dX3_whatOf_71 hP hD hS
          · have hF := gi_f c_1_7304564 hF
            by_cases c_1_7566690 : x0 = (7566690 : Int32)
            · have hF := gi_t c_1_7566690 hF
              refine lv_lookup (tgt := 66) hx hb dX3_whatOf_1 (by decide +kernel) (by rw [c_1_7566690] <;> rfl) (by decide) ?_
              refine lv_iconst (v := (3 : Int32)) hx hb dX3_whatOf_66 (by decide) ?_
              have hF := Option.some.inj hF
              subst hF
              exact hret _ _ _ _ dX3_whatOf_67 hP hD hS
            · have hF := gi_f c_1_7566690 hF
              have ic_1_26990 : (x0).toInt ≠ 26990 := fun hh => c_1_26990 (Int32.toInt_inj.mp (hh.trans (by decide)))
              have ic_1_6382692 : (x0).toInt ≠ 6382692 := fun hh => c_1_6382692 (Int32.toInt_inj.mp (hh.trans (by decide)))
              have ic_1_6516590 : (x0).toInt ≠ 6516590 := fun hh => c_1_6516590 (Int32.toInt_inj.mp (hh.trans (by decide)))
              have ic_1_7173484 : (x0).toInt ≠ 7173484 := fun hh => c_1_7173484 (Int32.toInt_inj.mp (hh.trans (by decide)))
              have ic_1_7304564 : (x0).toInt ≠ 7304564 := fun hh => c_1_7304564 (Int32.toInt_inj.mp (hh.trans (by decide)))
              have ic_1_7566690 : (x0).toInt ≠ 7566690 := fun hh => c_1_7566690 (Int32.toInt_inj.mp (hh.trans (by decide)))
              refine lv_lookup (off := 71) (tgt := 72) hx hb dX3_whatOf_1 (by decide +kernel) (by simp [Op.lookupswitch.offset, Ne.symm ic_1_26990, Ne.symm ic_1_6382692, Ne.symm ic_1_6516590, Ne.symm ic_1_7173484, Ne.symm ic_1_7304564, Ne.symm ic_1_7566690]) (by decide) ?_
              refine lv_iconst (v := (-1 : Int32)) hx hb dX3_whatOf_72 (by decide) ?_
              have hF := Option.some.inj hF
              subst hF
              exact hret _ _ _ _ dX3_whatOf_73 hP hD hS
abbrev O_X3_readWord : Type := Int32 × Int32 × Int32
def f_X3_readWord_92 (N : Nat) (v_start : Int32) (v_a1_length : Int32) (v_a1_bytes : Nat → Int32) (v_next : Int32) (v_kind : Int32) (v_value : Int32) (t1 : Int32) : Option O_X3_readWord :=
  some (v_next, t1, v_value)
def f_X3_readWord_71 (N : Nat) (v_start : Int32) (v_a1_length : Int32) (v_a1_bytes : Nat → Int32) (v_next : Int32) (v_kind : Int32) (v_value : Int32) (y2 : Int32) : Option O_X3_readWord :=
  (f_X3_whatOf N y2).bind (fun z_73 => if 0 ≤ z_73 then (f_X3_readWord_92 N v_start v_a1_length v_a1_bytes v_next v_kind z_73 (1 : Int32)) else (f_X3_readWord_92 N v_start v_a1_length v_a1_bytes v_next v_kind z_73 (5 : Int32)))
def f_X3_readWord_57 (N : Nat) (v_start : Int32) (v_a1_length : Int32) (v_a1_bytes : Nat → Int32) (r_2 : Int32 → Int32 → Int32 → Int32 → Option O_X3_readWord) (v_next : Int32) (v_kind : Int32) (v_value : Int32) (t0 : Int32) : Option O_X3_readWord :=
  r_2 (v_next + (1 : Int32)) v_kind v_value t0
def s_X3_readWord_2 (N : Nat) (v_start : Int32) (v_a1_length : Int32) (v_a1_bytes : Nat → Int32) (r_2 : Int32 → Int32 → Int32 → Int32 → Option O_X3_readWord) (v_next : Int32) (v_kind : Int32) (v_value : Int32) (y2 : Int32) : Option O_X3_readWord :=
  if v_a1_length ≤ v_next then (f_X3_readWord_71 N v_start v_a1_length v_a1_bytes v_next v_kind v_value y2) else ((f_X7_byteAt N v_a1_length v_a1_bytes v_next).bind (fun z_18 => (f_X3_isSmall N z_18).bind (fun z_21 => if z_21 = 0 then (f_X3_readWord_71 N v_start v_a1_length v_a1_bytes v_next v_kind v_value y2) else (if (3 : Int32) ≤ (v_next - v_start) then (f_X3_readWord_57 N v_start v_a1_length v_a1_bytes r_2 v_next v_kind v_value (0 : Int32)) else ((f_X7_byteAt N v_a1_length v_a1_bytes v_next).bind (fun z_49 => f_X3_readWord_57 N v_start v_a1_length v_a1_bytes r_2 v_next v_kind v_value ((y2 <<< ((8 : Int32) &&& 31)) ||| z_49)))))))
def f_X3_readWord_2 (N : Nat) (v_start : Int32) (v_a1_length : Int32) (v_a1_bytes : Nat → Int32) (n : Nat) : Int32 → Int32 → Int32 → Int32 → Option O_X3_readWord := lpg (fun _ _ _ _ => none) (s_X3_readWord_2 N v_start v_a1_length v_a1_bytes) n
def f_X3_readWord (N : Nat) (v_start : Int32) (v_a1_length : Int32) (v_a1_bytes : Nat → Int32) (v_next : Int32) (v_kind : Int32) (v_value : Int32) : Option O_X3_readWord :=
  f_X3_readWord_2 N v_start v_a1_length v_a1_bytes N v_next v_kind v_value (0 : Int32)
set_option maxHeartbeats 4000000 in
set_option maxRecDepth 100000 in
theorem t_X3_readWord (l : Launch) (dC : Nat → ClassId) (dI : Nat → Nat → Nat) (h_this : Nat) (h_draft : Nat) (v_next : Int32) (v_start : Int32) (v_kind : Int32) (v_value : Int32) (h_a1 : Nat) (h_a1_bytes : Nat) (v_a1_length : Int32) (k_a1_bytes : ClassId) (v_a1_bytes : Nat → Int32) (sz : Nat) (N : Nat) (out : O_X3_readWord) (hF : f_X3_readWord N v_start v_a1_length v_a1_bytes v_next v_kind v_value = some out) : gMv l yX3_readWord wsX3_readWord ({ frames := 2, cells := 0, slots := 0, locals := 42 } : Room) [.ref h_this, .ref h_a1] (dC, dI) [(h_this, .inr (3, [.ref h_draft, .int v_next, .int v_start, .int v_kind, .int v_value])), (h_a1, .inr (7, [.ref h_a1_bytes, .int v_a1_length])), (h_a1_bytes, .inl (k_a1_bytes, 300, .inl v_a1_bytes))] [(k_a1_bytes, .byte)] sz [(h_this, .inr (3, [.ref h_draft, .int out.1, .int v_start, .int out.2.1, .int out.2.2])), (h_a1, .inr (7, [.ref h_a1_bytes, .int v_a1_length])), (h_a1_bytes, .inl (k_a1_bytes, 300, .inl v_a1_bytes))] := by
  refine gEv (cc := cX3_readWord) (maxL := 3) (by decide) rfl (Nat.le_of_ble_eq_true rfl) ?_
  intro p e s m args below meth c Q A ls CF hK hN hA hret hP hD hS hl
  have hx := CF.1
  have hb := CF.2.1
  have hml := CF.2.2.1
  have hown : s.vm.findClass RX3 = some m.cls := CF.2.2.2.1
  have hts := CF.2.2.2.2
  have hl : lv_has ls 3 [(0, .ref h_this), (1, .ref h_a1)] := hl
  have in_X3 : ∀ w ∈ wsX30, w ∈ wsX3_readWord := fun w h => List.mem_cons_of_mem _ (List.mem_append_left _ (List.mem_append_right _ h))
  have hL21 : (Cond.fieldLink RX3 21 "DustSums$Reader" "next" "I").before args s = true := hts (.fieldLink RX3 21 "DustSums$Reader" "next" "I") (List.mem_of_getElem? (i := 1) rfl)
  have in_X7 : ∀ w ∈ wsX70, w ∈ wsX3_readWord := fun w h => List.mem_cons_of_mem _ (List.mem_append_right _ h)
  have hL69 : (Cond.fieldLinkNest RX3 69 "DustSums$Text" "length" "I" "DustSums").before args s = true := va_Nw.use rfl (hN.1 (RX3, 69, "DustSums$Text", "length", "I", "DustSums") (by decide +kernel))
  have cw94 : CallB ({ frames := 2, cells := 0, slots := 0, locals := 42 } : Room) s args RX3 94 yX3_whatOf cX3_whatOf 1 (some .int) wsX3_whatOf ({ frames := 0, cells := 0, slots := 0, locals := 0 } : Room) 0 0 1 ∧ (Cond.static yX3_whatOf).before args s = true := va_cwS 1 hts gX3_readWord_X3_whatOf rfl rfl rfl (by decide +kernel) ⟨Nat.le_of_ble_eq_true rfl, Nat.le_of_ble_eq_true rfl⟩
  have hL39 : (Cond.fieldLink RX3 39 "DustSums$Reader" "value" "I").before args s = true := hts (.fieldLink RX3 39 "DustSums$Reader" "value" "I") (List.mem_of_getElem? (i := 3) rfl)
  have hL36 : (Cond.fieldLink RX3 36 "DustSums$Reader" "kind" "I").before args s = true := hts (.fieldLink RX3 36 "DustSums$Reader" "kind" "I") (List.mem_of_getElem? (i := 4) rfl)
  have cw74 : CallW ({ frames := 2, cells := 0, slots := 0, locals := 42 } : Room) s args RX3 RX7 74 yX7_byteAt cX7_byteAt 2 (some .int) wsX7_byteAt ({ frames := 0, cells := 0, slots := 0, locals := 0 } : Room) 0 0 1 := cwV 1 hts gX3_readWord_X7_byteAt rfl rfl rfl (by decide +kernel) ⟨Nat.le_of_ble_eq_true rfl, Nat.le_of_ble_eq_true rfl⟩
  have cw78 : CallB ({ frames := 2, cells := 0, slots := 0, locals := 42 } : Room) s args RX3 78 yX3_isSmall cX3_isSmall 1 (some .boolean) wsX3_isSmall ({ frames := 1, cells := 0, slots := 0, locals := 22 } : Room) 0 0 1 ∧ (Cond.static yX3_isSmall).before args s = true := va_cwS 1 hts gX3_readWord_X3_isSmall rfl rfl rfl (by decide +kernel) ⟨Nat.le_of_ble_eq_true rfl, Nat.le_of_ble_eq_true rfl⟩
  have hL29 : (Cond.fieldLink RX3 29 "DustSums$Reader" "start" "I").before args s = true := hts (.fieldLink RX3 29 "DustSums$Reader" "start" "I") (List.mem_of_getElem? (i := 2) rfl)
  have k_92 : ∀ (v_next : Int32) (v_kind : Int32) (v_value : Int32) (t1 : Int32) (H : Heap) (locs : List Loc) (ls : Array Slot), f_X3_readWord_92 N v_start v_a1_length v_a1_bytes v_next v_kind v_value t1 = some out → va_P (dC, dI) vwCl [(h_this, .inr (3, [.ref h_draft, .int v_next, .int v_start, .int v_kind, .int v_value])), (h_a1, .inr (7, [.ref h_a1_bytes, .int v_a1_length])), (h_a1_bytes, .inl (k_a1_bytes, 300, .inl v_a1_bytes))] H → va_D A [(h_this, .inr (3, [.ref h_draft, .int v_next, .int v_start, .int v_kind, .int v_value])), (h_a1, .inr (7, [.ref h_a1_bytes, .int v_a1_length])), (h_a1_bytes, .inl (k_a1_bytes, 300, .inl v_a1_bytes))] → va_S A s.heap H locs → lv_has ls 3 [] → W p l e ({ frames := 2, cells := 0, slots := 0, locals := 42 } : Room) s m args below meth c H locs 0 0 Q (F0 m 92 ls [.int t1, .ref h_this]) := by
    intro v_next v_kind v_value t1 H locs ls hF hP hD hS hl
    unfold f_X3_readWord_92 at hF
    refine va_put (D := (dC, dI)) (ci := 3) (v := .int t1) (ty := .int) (C := RX3) (T := TX3) (N := 5) hx hb hts in_X3 tyX3 tyX3_ok nmX3 hown hK hP hD hS 0 rfl rfl 3 (by decide) hL36 (fun _ h9 => h9) rfl (by decide +kernel) rfl rfl (Nat.le_of_ble_eq_true rfl) dX3_readWord_92 (fun H locs hP hD hS => ?_)
    have hP : va_P (dC, dI) vwCl [(h_this, .inr (3, [.ref h_draft, .int v_next, .int v_start, .int t1, .int v_value])), (h_a1, .inr (7, [.ref h_a1_bytes, .int v_a1_length])), (h_a1_bytes, .inl (k_a1_bytes, 300, .inl v_a1_bytes))] H := hP
    have hD : va_D A [(h_this, .inr (3, [.ref h_draft, .int v_next, .int v_start, .int t1, .int v_value])), (h_a1, .inr (7, [.ref h_a1_bytes, .int v_a1_length])), (h_a1_bytes, .inl (k_a1_bytes, 300, .inl v_a1_bytes))] := hD
    have hF := Option.some.inj hF
    subst hF
    exact hret _ _ _ _ dX3_readWord_95 hP hD hS
  have k_71 : ∀ (v_next : Int32) (v_kind : Int32) (v_value : Int32) (y2 : Int32) (H : Heap) (locs : List Loc) (ls : Array Slot), f_X3_readWord_71 N v_start v_a1_length v_a1_bytes v_next v_kind v_value y2 = some out → va_P (dC, dI) vwCl [(h_this, .inr (3, [.ref h_draft, .int v_next, .int v_start, .int v_kind, .int v_value])), (h_a1, .inr (7, [.ref h_a1_bytes, .int v_a1_length])), (h_a1_bytes, .inl (k_a1_bytes, 300, .inl v_a1_bytes))] H → va_D A [(h_this, .inr (3, [.ref h_draft, .int v_next, .int v_start, .int v_kind, .int v_value])), (h_a1, .inr (7, [.ref h_a1_bytes, .int v_a1_length])), (h_a1_bytes, .inl (k_a1_bytes, 300, .inl v_a1_bytes))] → va_S A s.heap H locs → lv_has ls 3 [(0, .ref h_this), (2, .int y2)] → W p l e ({ frames := 2, cells := 0, slots := 0, locals := 42 } : Room) s m args below meth c H locs 0 0 Q (F0 m 71 ls []) := by
    intro v_next v_kind v_value y2 H locs ls hF hP hD hS hl
    unfold f_X3_readWord_71 at hF
    refine lv_aload_n hx hb dX3_readWord_71 rfl (lv_at hl 0 rfl) ?_
    refine lv_iload_n hx hb dX3_readWord_72 rfl (lv_at hl 1 rfl) ?_
    obtain ⟨z_73, hz_73, hF⟩ := gi_bind hF
    refine gRi (wc := []) (wr := [(h_this, .inr (3, [.ref h_draft, .int v_next, .int v_start, .int v_kind, .int v_value])), (h_a1, .inr (7, [.ref h_a1_bytes, .int v_a1_length])), (h_a1_bytes, .inl (k_a1_bytes, 300, .inl v_a1_bytes))]) (w1 := []) hP hD hS hA [] [0, 1, 2] rfl rfl (by decide) (by decide) (va_runS (As := [.int y2]) (rest := [.ref h_this]) CF (t_X3_whatOf l dC dI H.size y2 N z_73 hz_73) cw94 (gPS hP hD hK hN [] [] (by decide) rfl rfl) rfl rfl hl.1 rfl (lv_room (Nat.le_of_ble_eq_true rfl)) dX3_readWord_73 ⟨Nat.zero_le _, Nat.zero_le _⟩) (fun H locs hP hD hS => ?_)
    have hP : va_P (dC, dI) vwCl [(h_this, .inr (3, [.ref h_draft, .int v_next, .int v_start, .int v_kind, .int v_value])), (h_a1, .inr (7, [.ref h_a1_bytes, .int v_a1_length])), (h_a1_bytes, .inl (k_a1_bytes, 300, .inl v_a1_bytes))] H := hP
    have hD : va_D A [(h_this, .inr (3, [.ref h_draft, .int v_next, .int v_start, .int v_kind, .int v_value])), (h_a1, .inr (7, [.ref h_a1_bytes, .int v_a1_length])), (h_a1_bytes, .inl (k_a1_bytes, 300, .inl v_a1_bytes))] := hD
    refine va_put (D := (dC, dI)) (ci := 3) (v := .int z_73) (ty := .int) (C := RX3) (T := TX3) (N := 5) hx hb hts in_X3 tyX3 tyX3_ok nmX3 hown hK hP hD hS 0 rfl rfl 4 (by decide) hL39 (fun _ h9 => h9) rfl (by decide +kernel) rfl rfl (Nat.le_of_ble_eq_true rfl) dX3_readWord_76 (fun H locs hP hD hS => ?_)
    have hP : va_P (dC, dI) vwCl [(h_this, .inr (3, [.ref h_draft, .int v_next, .int v_start, .int v_kind, .int z_73])), (h_a1, .inr (7, [.ref h_a1_bytes, .int v_a1_length])), (h_a1_bytes, .inl (k_a1_bytes, 300, .inl v_a1_bytes))] H := hP
    have hD : va_D A [(h_this, .inr (3, [.ref h_draft, .int v_next, .int v_start, .int v_kind, .int z_73])), (h_a1, .inr (7, [.ref h_a1_bytes, .int v_a1_length])), (h_a1_bytes, .inl (k_a1_bytes, 300, .inl v_a1_bytes))] := hD
    refine lv_aload_n hx hb dX3_readWord_79 rfl (lv_at hl 0 rfl) ?_
    refine lv_aload_n hx hb dX3_readWord_80 rfl (lv_at hl 0 rfl) ?_
    refine va_get (D := (dC, dI)) (ci := 3) (v := .int z_73) (C := RX3) (T := TX3) (N := 5) hx hb hts in_X3 hown hK hP 0 rfl rfl 4 (by decide) hL39 (fun _ h9 => h9) rfl dX3_readWord_81 ?_
    refine lv_if_ge (tgt := 91) hx hb dX3_readWord_84 (by decide) (fun c_84 => ?_) (fun c_84 => ?_)
    · have hF := gi_t c_84 hF
      refine lv_iconst (v := (1 : Int32)) hx hb dX3_readWord_91 (by decide) ?_
      exact k_92 v_next v_kind z_73 (1 : Int32) _ _ _ hF hP hD hS (lv_sub hl [] rfl)
    · have hF := gi_f c_84 hF
      refine lv_iconst (v := (5 : Int32)) hx hb dX3_readWord_87 (by decide) ?_
      refine lv_goto (tgt := 92) hx hb dX3_readWord_88 (by decide) ?_
      exact k_92 v_next v_kind z_73 (5 : Int32) _ _ _ hF hP hD hS (lv_sub hl [] rfl)
  have k_57 : ∀ (r_2 : Int32 → Int32 → Int32 → Int32 → Option O_X3_readWord) (g_2 : ∀ (v_next : Int32) (v_kind : Int32) (v_value : Int32) (y2 : Int32) (H : Heap) (locs : List Loc) (ls : Array Slot), r_2 v_next v_kind v_value y2 = some out → va_P (dC, dI) vwCl [(h_this, .inr (3, [.ref h_draft, .int v_next, .int v_start, .int v_kind, .int v_value])), (h_a1, .inr (7, [.ref h_a1_bytes, .int v_a1_length])), (h_a1_bytes, .inl (k_a1_bytes, 300, .inl v_a1_bytes))] H → va_D A [(h_this, .inr (3, [.ref h_draft, .int v_next, .int v_start, .int v_kind, .int v_value])), (h_a1, .inr (7, [.ref h_a1_bytes, .int v_a1_length])), (h_a1_bytes, .inl (k_a1_bytes, 300, .inl v_a1_bytes))] → va_S A s.heap H locs → lv_has ls 3 [(0, .ref h_this), (1, .ref h_a1), (2, .int y2)] → W p l e ({ frames := 2, cells := 0, slots := 0, locals := 42 } : Room) s m args below meth c H locs 0 0 Q (F0 m 2 ls [])) (v_next : Int32) (v_kind : Int32) (v_value : Int32) (t0 : Int32) (H : Heap) (locs : List Loc) (ls : Array Slot), f_X3_readWord_57 N v_start v_a1_length v_a1_bytes r_2 v_next v_kind v_value t0 = some out → va_P (dC, dI) vwCl [(h_this, .inr (3, [.ref h_draft, .int v_next, .int v_start, .int v_kind, .int v_value])), (h_a1, .inr (7, [.ref h_a1_bytes, .int v_a1_length])), (h_a1_bytes, .inl (k_a1_bytes, 300, .inl v_a1_bytes))] H → va_D A [(h_this, .inr (3, [.ref h_draft, .int v_next, .int v_start, .int v_kind, .int v_value])), (h_a1, .inr (7, [.ref h_a1_bytes, .int v_a1_length])), (h_a1_bytes, .inl (k_a1_bytes, 300, .inl v_a1_bytes))] → va_S A s.heap H locs → lv_has ls 3 [(0, .ref h_this), (1, .ref h_a1)] → W p l e ({ frames := 2, cells := 0, slots := 0, locals := 42 } : Room) s m args below meth c H locs 0 0 Q (F0 m 57 ls [.int t0]) := by
    intro r_2 g_2 v_next v_kind v_value t0 H locs ls hF hP hD hS hl
    unfold f_X3_readWord_57 at hF
    refine lv_istore_n (lv' := [(2, .int t0), (0, .ref h_this), (1, .ref h_a1)]) hx hb dX3_readWord_57 rfl hl (by decide) rfl (fun ls hl => ?_)
    refine lv_aload_n hx hb dX3_readWord_58 rfl (lv_at hl 1 rfl) ?_
    refine lv_dup hx hb dX3_readWord_59 rfl ?_
    refine va_get (D := (dC, dI)) (ci := 3) (v := .int v_next) (C := RX3) (T := TX3) (N := 5) hx hb hts in_X3 hown hK hP 0 rfl rfl 1 (by decide) hL21 (fun _ h9 => h9) rfl dX3_readWord_60 ?_
    refine lv_iconst (v := (1 : Int32)) hx hb dX3_readWord_63 (by decide) ?_
    refine lv_iadd hx hb dX3_readWord_64 ?_
    refine va_put (D := (dC, dI)) (ci := 3) (v := .int (v_next + (1 : Int32))) (ty := .int) (C := RX3) (T := TX3) (N := 5) hx hb hts in_X3 tyX3 tyX3_ok nmX3 hown hK hP hD hS 0 rfl rfl 1 (by decide) hL21 (fun _ h9 => h9) rfl (by decide +kernel) rfl rfl (Nat.le_of_ble_eq_true rfl) dX3_readWord_65 (fun H locs hP hD hS => ?_)
    have hP : va_P (dC, dI) vwCl [(h_this, .inr (3, [.ref h_draft, .int (v_next + (1 : Int32)), .int v_start, .int v_kind, .int v_value])), (h_a1, .inr (7, [.ref h_a1_bytes, .int v_a1_length])), (h_a1_bytes, .inl (k_a1_bytes, 300, .inl v_a1_bytes))] H := hP
    have hD : va_D A [(h_this, .inr (3, [.ref h_draft, .int (v_next + (1 : Int32)), .int v_start, .int v_kind, .int v_value])), (h_a1, .inr (7, [.ref h_a1_bytes, .int v_a1_length])), (h_a1_bytes, .inl (k_a1_bytes, 300, .inl v_a1_bytes))] := hD
    refine lv_goto (tgt := 2) hx hb dX3_readWord_68 (by decide) ?_
    exact g_2 (v_next + (1 : Int32)) v_kind v_value t0 _ _ _ hF hP hD hS (lv_sub hl [1, 2, 0] rfl)
  have k_2 : ∀ (n : Nat) (v_next : Int32) (v_kind : Int32) (v_value : Int32) (y2 : Int32) (H : Heap) (locs : List Loc) (ls : Array Slot), f_X3_readWord_2 N v_start v_a1_length v_a1_bytes n v_next v_kind v_value y2 = some out → va_P (dC, dI) vwCl [(h_this, .inr (3, [.ref h_draft, .int v_next, .int v_start, .int v_kind, .int v_value])), (h_a1, .inr (7, [.ref h_a1_bytes, .int v_a1_length])), (h_a1_bytes, .inl (k_a1_bytes, 300, .inl v_a1_bytes))] H → va_D A [(h_this, .inr (3, [.ref h_draft, .int v_next, .int v_start, .int v_kind, .int v_value])), (h_a1, .inr (7, [.ref h_a1_bytes, .int v_a1_length])), (h_a1_bytes, .inl (k_a1_bytes, 300, .inl v_a1_bytes))] → va_S A s.heap H locs → lv_has ls 3 [(0, .ref h_this), (1, .ref h_a1), (2, .int y2)] → W p l e ({ frames := 2, cells := 0, slots := 0, locals := 42 } : Room) s m args below meth c H locs 0 0 Q (F0 m 2 ls []) := by
    intro n
    induction n with
    | zero =>
      intro v_next v_kind v_value y2 H locs ls hF
      have hF : (none : Option O_X3_readWord) = some out := hF
      cases hF
    | succ n ih =>
      intro v_next v_kind v_value y2 H locs ls hF hP hD hS hl
      have hF : s_X3_readWord_2 N v_start v_a1_length v_a1_bytes (f_X3_readWord_2 N v_start v_a1_length v_a1_bytes n) v_next v_kind v_value y2 = some out := hF
      generalize f_X3_readWord_2 N v_start v_a1_length v_a1_bytes n = r_2 at hF ih
      have g_2 : ∀ (v_next : Int32) (v_kind : Int32) (v_value : Int32) (y2 : Int32) (H : Heap) (locs : List Loc) (ls : Array Slot), r_2 v_next v_kind v_value y2 = some out → va_P (dC, dI) vwCl [(h_this, .inr (3, [.ref h_draft, .int v_next, .int v_start, .int v_kind, .int v_value])), (h_a1, .inr (7, [.ref h_a1_bytes, .int v_a1_length])), (h_a1_bytes, .inl (k_a1_bytes, 300, .inl v_a1_bytes))] H → va_D A [(h_this, .inr (3, [.ref h_draft, .int v_next, .int v_start, .int v_kind, .int v_value])), (h_a1, .inr (7, [.ref h_a1_bytes, .int v_a1_length])), (h_a1_bytes, .inl (k_a1_bytes, 300, .inl v_a1_bytes))] → va_S A s.heap H locs → lv_has ls 3 [(0, .ref h_this), (1, .ref h_a1), (2, .int y2)] → W p l e ({ frames := 2, cells := 0, slots := 0, locals := 42 } : Room) s m args below meth c H locs 0 0 Q (F0 m 2 ls []) := ih
      clear ih
      unfold s_X3_readWord_2 at hF
      refine lv_aload_n hx hb dX3_readWord_2 rfl (lv_at hl 0 rfl) ?_
      refine va_get (D := (dC, dI)) (ci := 3) (v := .int v_next) (C := RX3) (T := TX3) (N := 5) hx hb hts in_X3 hown hK hP 0 rfl rfl 1 (by decide) hL21 (fun _ h9 => h9) rfl dX3_readWord_3 ?_
      refine lv_aload_n hx hb dX3_readWord_6 rfl (lv_at hl 1 rfl) ?_
      refine va_getN (D := (dC, dI)) (ci := 7) (v := .int v_a1_length) (C := RX7) (T := TX7) (N := 2) hx hb hts in_X7 hown hK hP 1 rfl rfl 1 (by decide) hL69 (fun _ h9 => h9) rfl dX3_readWord_7 ?_
      refine lv_icmp_ge (tgt := 71) hx hb dX3_readWord_10 (by decide) (fun c_10 => ?_) (fun c_10 => ?_)
      · have hF := gi_t c_10 hF
        exact k_71 v_next v_kind v_value y2 _ _ _ hF hP hD hS (lv_sub hl [0, 2] rfl)
      · have hF := gi_f c_10 hF
        refine lv_aload_n hx hb dX3_readWord_13 rfl (lv_at hl 1 rfl) ?_
        refine lv_aload_n hx hb dX3_readWord_14 rfl (lv_at hl 0 rfl) ?_
        refine va_get (D := (dC, dI)) (ci := 3) (v := .int v_next) (C := RX3) (T := TX3) (N := 5) hx hb hts in_X3 hown hK hP 0 rfl rfl 1 (by decide) hL21 (fun _ h9 => h9) rfl dX3_readWord_15 ?_
        obtain ⟨z_18, hz_18, hF⟩ := gi_bind hF
        refine gRi (wc := [(h_a1, .inr (7, [.ref h_a1_bytes, .int v_a1_length])), (h_a1_bytes, .inl (k_a1_bytes, 300, .inl v_a1_bytes))]) (wr := [(h_this, .inr (3, [.ref h_draft, .int v_next, .int v_start, .int v_kind, .int v_value]))]) (w1 := [(h_a1, .inr (7, [.ref h_a1_bytes, .int v_a1_length])), (h_a1_bytes, .inl (k_a1_bytes, 300, .inl v_a1_bytes))]) hP hD hS hA [1, 2] [0] rfl rfl (by decide) (by decide) (va_runV (As := [.int v_next]) (rest := []) CF (t_X7_byteAt l dC dI h_a1 h_a1_bytes v_a1_length k_a1_bytes v_a1_bytes H.size v_next N z_18 hz_18) cw74 (gPV (ci := 7) hP hD hK hN [1, 2] [0] (by decide) rfl rfl (q0 := 1) rfl rfl) rfl rfl hl.1 rfl (lv_room (Nat.le_of_ble_eq_true rfl)) dX3_readWord_18 ⟨Nat.zero_le _, Nat.zero_le _⟩) (fun H locs hP hD hS => ?_)
        have hP : va_P (dC, dI) vwCl [(h_this, .inr (3, [.ref h_draft, .int v_next, .int v_start, .int v_kind, .int v_value])), (h_a1, .inr (7, [.ref h_a1_bytes, .int v_a1_length])), (h_a1_bytes, .inl (k_a1_bytes, 300, .inl v_a1_bytes))] H := hP
        have hD : va_D A [(h_this, .inr (3, [.ref h_draft, .int v_next, .int v_start, .int v_kind, .int v_value])), (h_a1, .inr (7, [.ref h_a1_bytes, .int v_a1_length])), (h_a1_bytes, .inl (k_a1_bytes, 300, .inl v_a1_bytes))] := hD
        obtain ⟨z_21, hz_21, hF⟩ := gi_bind hF
        refine gRi (wc := []) (wr := [(h_this, .inr (3, [.ref h_draft, .int v_next, .int v_start, .int v_kind, .int v_value])), (h_a1, .inr (7, [.ref h_a1_bytes, .int v_a1_length])), (h_a1_bytes, .inl (k_a1_bytes, 300, .inl v_a1_bytes))]) (w1 := []) hP hD hS hA [] [0, 1, 2] rfl rfl (by decide) (by decide) (va_runS (As := [.int z_18]) (rest := []) CF (t_X3_isSmall l dC dI H.size z_18 N z_21 hz_21) cw78 (gPS hP hD hK hN [] [] (by decide) rfl rfl) rfl rfl hl.1 rfl (lv_room (Nat.le_of_ble_eq_true rfl)) dX3_readWord_21 ⟨Nat.zero_le _, Nat.zero_le _⟩) (fun H locs hP hD hS => ?_)
        have hP : va_P (dC, dI) vwCl [(h_this, .inr (3, [.ref h_draft, .int v_next, .int v_start, .int v_kind, .int v_value])), (h_a1, .inr (7, [.ref h_a1_bytes, .int v_a1_length])), (h_a1_bytes, .inl (k_a1_bytes, 300, .inl v_a1_bytes))] H := hP
        have hD : va_D A [(h_this, .inr (3, [.ref h_draft, .int v_next, .int v_start, .int v_kind, .int v_value])), (h_a1, .inr (7, [.ref h_a1_bytes, .int v_a1_length])), (h_a1_bytes, .inl (k_a1_bytes, 300, .inl v_a1_bytes))] := hD
        refine lv_if_eq (tgt := 71) hx hb dX3_readWord_24 (by decide) (fun c_24 => ?_) (fun c_24 => ?_)
        · have hF := gi_t c_24 hF
          exact k_71 v_next v_kind v_value y2 _ _ _ hF hP hD hS (lv_sub hl [0, 2] rfl)
        · have hF := gi_f c_24 hF
          refine lv_aload_n hx hb dX3_readWord_27 rfl (lv_at hl 0 rfl) ?_
          refine va_get (D := (dC, dI)) (ci := 3) (v := .int v_next) (C := RX3) (T := TX3) (N := 5) hx hb hts in_X3 hown hK hP 0 rfl rfl 1 (by decide) hL21 (fun _ h9 => h9) rfl dX3_readWord_28 ?_
          refine lv_aload_n hx hb dX3_readWord_31 rfl (lv_at hl 0 rfl) ?_
          refine va_get (D := (dC, dI)) (ci := 3) (v := .int v_start) (C := RX3) (T := TX3) (N := 5) hx hb hts in_X3 hown hK hP 0 rfl rfl 2 (by decide) hL29 (fun _ h9 => h9) rfl dX3_readWord_32 ?_
          refine lv_isub hx hb dX3_readWord_35 ?_
          refine lv_iconst (v := (3 : Int32)) hx hb dX3_readWord_36 (by decide) ?_
          refine lv_icmp_ge (tgt := 56) hx hb dX3_readWord_37 (by decide) (fun c_37 => ?_) (fun c_37 => ?_)
          · have hF := gi_t c_37 hF
            refine lv_iconst (v := (0 : Int32)) hx hb dX3_readWord_56 (by decide) ?_
            exact k_57 r_2 g_2 v_next v_kind v_value (0 : Int32) _ _ _ hF hP hD hS (lv_sub hl [0, 1] rfl)
          · have hF := gi_f c_37 hF
            refine lv_iload_n hx hb dX3_readWord_40 rfl (lv_at hl 2 rfl) ?_
            refine lv_bipush (v := (8 : Int32)) hx hb dX3_readWord_41 (by decide) ?_
            refine lv_ishl hx hb dX3_readWord_43 ?_
            refine lv_aload_n hx hb dX3_readWord_44 rfl (lv_at hl 1 rfl) ?_
            refine lv_aload_n hx hb dX3_readWord_45 rfl (lv_at hl 0 rfl) ?_
            refine va_get (D := (dC, dI)) (ci := 3) (v := .int v_next) (C := RX3) (T := TX3) (N := 5) hx hb hts in_X3 hown hK hP 0 rfl rfl 1 (by decide) hL21 (fun _ h9 => h9) rfl dX3_readWord_46 ?_
            obtain ⟨z_49, hz_49, hF⟩ := gi_bind hF
            refine gRi (wc := [(h_a1, .inr (7, [.ref h_a1_bytes, .int v_a1_length])), (h_a1_bytes, .inl (k_a1_bytes, 300, .inl v_a1_bytes))]) (wr := [(h_this, .inr (3, [.ref h_draft, .int v_next, .int v_start, .int v_kind, .int v_value]))]) (w1 := [(h_a1, .inr (7, [.ref h_a1_bytes, .int v_a1_length])), (h_a1_bytes, .inl (k_a1_bytes, 300, .inl v_a1_bytes))]) hP hD hS hA [1, 2] [0] rfl rfl (by decide) (by decide) (va_runV (As := [.int v_next]) (rest := [.int (y2 <<< ((8 : Int32) &&& 31))]) CF (t_X7_byteAt l dC dI h_a1 h_a1_bytes v_a1_length k_a1_bytes v_a1_bytes H.size v_next N z_49 hz_49) cw74 (gPV (ci := 7) hP hD hK hN [1, 2] [0] (by decide) rfl rfl (q0 := 1) rfl rfl) rfl rfl hl.1 rfl (lv_room (Nat.le_of_ble_eq_true rfl)) dX3_readWord_49 ⟨Nat.zero_le _, Nat.zero_le _⟩) (fun H locs hP hD hS => ?_)
            have hP : va_P (dC, dI) vwCl [(h_this, .inr (3, [.ref h_draft, .int v_next, .int v_start, .int v_kind, .int v_value])), (h_a1, .inr (7, [.ref h_a1_bytes, .int v_a1_length])), (h_a1_bytes, .inl (k_a1_bytes, 300, .inl v_a1_bytes))] H := hP
            have hD : va_D A [(h_this, .inr (3, [.ref h_draft, .int v_next, .int v_start, .int v_kind, .int v_value])), (h_a1, .inr (7, [.ref h_a1_bytes, .int v_a1_length])), (h_a1_bytes, .inl (k_a1_bytes, 300, .inl v_a1_bytes))] := hD
            refine lv_ior hx hb dX3_readWord_52 ?_
            refine lv_goto (tgt := 57) hx hb dX3_readWord_53 (by decide) ?_
            exact k_57 r_2 g_2 v_next v_kind v_value ((y2 <<< ((8 : Int32) &&& 31)) ||| z_49) _ _ _ hF hP hD hS (lv_sub hl [0, 1] rfl)
  unfold f_X3_readWord at hF
  refine lv_iconst (v := (0 : Int32)) hx hb dX3_readWord_0 (by decide) ?_
  refine lv_istore_n (lv' := [(2, .int (0 : Int32)), (0, .ref h_this), (1, .ref h_a1)]) hx hb dX3_readWord_1 rfl hl (by decide) rfl (fun ls hl => ?_)
  exact k_2 N v_next v_kind v_value (0 : Int32) _ _ _ hF hP hD hS (lv_sub hl [1, 2, 0] rfl)
abbrev O_X3_isDigit : Type := Int32
def f_X3_isDigit (N : Nat) (x0 : Int32) : Option O_X3_isDigit :=
  (f_X9_within N x0 (48 : Int32) (57 : Int32)).bind (fun z_5 => if z_5 &&& 1 = z_5 then some (z_5) else none)
set_option maxHeartbeats 4000000 in
set_option maxRecDepth 100000 in
theorem t_X3_isDigit (l : Launch) (dC : Nat → ClassId) (dI : Nat → Nat → Nat) (sz : Nat) (x0 : Int32) (N : Nat) (out : O_X3_isDigit) (hF : f_X3_isDigit N x0 = some out) : gMi l yX3_isDigit wsX3_isDigit ({ frames := 1, cells := 0, slots := 0, locals := 22 } : Room) [.int x0] (dC, dI) [] [] sz [] out := by
  refine gEz (cc := cX3_isDigit) (maxL := 1) (by decide) rfl (Nat.le_of_ble_eq_true rfl) ?_
  intro p e s m args below meth c Q A ls CF hK hN hA hret hP hD hS hl
  have hx := CF.1
  have hb := CF.2.1
  have hml := CF.2.2.1
  have hown : s.vm.findClass RX3 = some m.cls := CF.2.2.2.1
  have hts := CF.2.2.2.2
  have hl : lv_has ls 1 [(0, .int x0)] := hl
  have nm90 : va_Nw (.methodLinkNest RX3 90 yX9_within "DustSums") s := hN.2 (RX3, 90, yX9_within, "DustSums") (by decide +kernel)
  have cw90 : va_CN ({ frames := 1, cells := 0, slots := 0, locals := 22 } : Room) s args RX3 90 yX9_within "DustSums" cX9_within 3 (some .boolean) wsX9_within ({ frames := 0, cells := 0, slots := 0, locals := 0 } : Room) 0 0 3 ∧ (Cond.static yX9_within).before args s = true ∧ True := ⟨va_cnB 3 hts gX3_isDigit_X9_within_n90 rfl rfl rfl nm90 (hts (.initialized RX9) (List.mem_of_getElem? (i := 2) rfl)) (by decide +kernel) ⟨Nat.le_of_ble_eq_true rfl, Nat.le_of_ble_eq_true rfl⟩, hts (.static yX9_within) (List.mem_of_getElem? (i := 1) rfl), trivial⟩
  unfold f_X3_isDigit at hF
  refine lv_iload_n hx hb dX3_isDigit_0 rfl (lv_at hl 0 rfl) ?_
  refine lv_bipush (v := (48 : Int32)) hx hb dX3_isDigit_1 (by decide) ?_
  refine lv_bipush (v := (57 : Int32)) hx hb dX3_isDigit_3 (by decide) ?_
  obtain ⟨z_5, hz_5, hF⟩ := gi_bind hF
  refine gRi (wc := []) (wr := []) (w1 := []) hP hD hS hA [] [] rfl rfl (by decide) (by decide) (va_runSN (As := [.int x0, .int (48 : Int32), .int (57 : Int32)]) (rest := []) CF (t_X9_within l dC dI s.heap.size x0 (48 : Int32) (57 : Int32) N z_5 hz_5) cw90 (gPS hP hD hK hN [] [] (by decide) rfl rfl) rfl rfl hl.1 rfl (lv_room (Nat.le_of_ble_eq_true rfl)) dX3_isDigit_5 ⟨Nat.zero_le _, Nat.zero_le _⟩) (fun H locs hP hD hS => ?_)
  obtain ⟨hz, hF⟩ := gi_bool hF
  have hF := Option.some.inj hF
  subst hF
  exact hret hz _ _ _ _ dX3_isDigit_8 hP hD hS
abbrev O_X3_readDigits : Type := Int32 × Int32 × Int32
def f_X3_readDigits_123 (N : Nat) (v_start : Int32) (v_a1_length : Int32) (v_a1_bytes : Nat → Int32) (v_next : Int32) (v_kind : Int32) (v_value : Int32) (t1 : Int32) : Option O_X3_readDigits :=
  some (v_next, t1, v_value)
def f_X3_readDigits_122 (N : Nat) (v_start : Int32) (v_a1_length : Int32) (v_a1_bytes : Nat → Int32) (v_next : Int32) (v_kind : Int32) (v_value : Int32) : Option O_X3_readDigits :=
  f_X3_readDigits_123 N v_start v_a1_length v_a1_bytes v_next v_kind v_value (3 : Int32)
def f_X3_readDigits_93 (N : Nat) (v_start : Int32) (v_a1_length : Int32) (v_a1_bytes : Nat → Int32) (v_next : Int32) (v_kind : Int32) (v_value : Int32) (y2 : Int32) : Option O_X3_readDigits :=
  if (2 : Int32) < (v_next - v_start) then (f_X3_readDigits_123 N v_start v_a1_length v_a1_bytes v_next v_kind v_value (5 : Int32)) else (if (v_next - v_start) = (2 : Int32) then (if y2 = 0 then (f_X3_readDigits_122 N v_start v_a1_length v_a1_bytes v_next v_kind v_value) else (f_X3_readDigits_123 N v_start v_a1_length v_a1_bytes v_next v_kind v_value (5 : Int32))) else (f_X3_readDigits_122 N v_start v_a1_length v_a1_bytes v_next v_kind v_value))
def f_X3_readDigits_80 (N : Nat) (v_start : Int32) (v_a1_length : Int32) (v_a1_bytes : Nat → Int32) (r_19 : Int32 → Int32 → Int32 → Int32 → Option O_X3_readDigits) (v_next : Int32) (v_kind : Int32) (v_value : Int32) (y2 : Int32) : Option O_X3_readDigits :=
  r_19 (v_next + (1 : Int32)) v_kind v_value y2
def s_X3_readDigits_19 (N : Nat) (v_start : Int32) (v_a1_length : Int32) (v_a1_bytes : Nat → Int32) (r_19 : Int32 → Int32 → Int32 → Int32 → Option O_X3_readDigits) (v_next : Int32) (v_kind : Int32) (v_value : Int32) (y2 : Int32) : Option O_X3_readDigits :=
  if v_a1_length ≤ v_next then (f_X3_readDigits_93 N v_start v_a1_length v_a1_bytes v_next v_kind v_value y2) else ((f_X7_byteAt N v_a1_length v_a1_bytes v_next).bind (fun z_35 => (f_X3_isDigit N z_35).bind (fun z_38 => if z_38 = 0 then (f_X3_readDigits_93 N v_start v_a1_length v_a1_bytes v_next v_kind v_value y2) else (if (2 : Int32) ≤ (v_next - v_start) then (f_X3_readDigits_80 N v_start v_a1_length v_a1_bytes r_19 v_next v_kind v_value y2) else ((f_X7_byteAt N v_a1_length v_a1_bytes v_next).bind (fun z_70 => f_X3_readDigits_80 N v_start v_a1_length v_a1_bytes r_19 v_next v_kind (((v_value * (10 : Int32)) + z_70) - (48 : Int32)) y2))))))
def f_X3_readDigits_19 (N : Nat) (v_start : Int32) (v_a1_length : Int32) (v_a1_bytes : Nat → Int32) (n : Nat) : Int32 → Int32 → Int32 → Int32 → Option O_X3_readDigits := lpg (fun _ _ _ _ => none) (s_X3_readDigits_19 N v_start v_a1_length v_a1_bytes) n
def f_X3_readDigits (N : Nat) (v_start : Int32) (v_a1_length : Int32) (v_a1_bytes : Nat → Int32) (v_next : Int32) (v_kind : Int32) (v_value : Int32) : Option O_X3_readDigits :=
  (f_X7_byteAt N v_a1_length v_a1_bytes v_start).bind (fun z_5 => if z_5 = (48 : Int32) then (f_X3_readDigits_19 N v_start v_a1_length v_a1_bytes N v_next v_kind v_value (1 : Int32)) else (f_X3_readDigits_19 N v_start v_a1_length v_a1_bytes N v_next v_kind v_value (0 : Int32)))
set_option maxHeartbeats 4000000 in
set_option maxRecDepth 100000 in
theorem t_X3_readDigits (l : Launch) (dC : Nat → ClassId) (dI : Nat → Nat → Nat) (h_this : Nat) (h_draft : Nat) (v_next : Int32) (v_start : Int32) (v_kind : Int32) (v_value : Int32) (h_a1 : Nat) (h_a1_bytes : Nat) (v_a1_length : Int32) (k_a1_bytes : ClassId) (v_a1_bytes : Nat → Int32) (sz : Nat) (N : Nat) (out : O_X3_readDigits) (hF : f_X3_readDigits N v_start v_a1_length v_a1_bytes v_next v_kind v_value = some out) : gMv l yX3_readDigits wsX3_readDigits ({ frames := 2, cells := 0, slots := 0, locals := 42 } : Room) [.ref h_this, .ref h_a1] (dC, dI) [(h_this, .inr (3, [.ref h_draft, .int v_next, .int v_start, .int v_kind, .int v_value])), (h_a1, .inr (7, [.ref h_a1_bytes, .int v_a1_length])), (h_a1_bytes, .inl (k_a1_bytes, 300, .inl v_a1_bytes))] [(k_a1_bytes, .byte)] sz [(h_this, .inr (3, [.ref h_draft, .int out.1, .int v_start, .int out.2.1, .int out.2.2])), (h_a1, .inr (7, [.ref h_a1_bytes, .int v_a1_length])), (h_a1_bytes, .inl (k_a1_bytes, 300, .inl v_a1_bytes))] := by
  refine gEv (cc := cX3_readDigits) (maxL := 4) (by decide) rfl (Nat.le_of_ble_eq_true rfl) ?_
  intro p e s m args below meth c Q A ls CF hK hN hA hret hP hD hS hl
  have hx := CF.1
  have hb := CF.2.1
  have hml := CF.2.2.1
  have hown : s.vm.findClass RX3 = some m.cls := CF.2.2.2.1
  have hts := CF.2.2.2.2
  have hl : lv_has ls 4 [(0, .ref h_this), (1, .ref h_a1)] := hl
  have in_X3 : ∀ w ∈ wsX30, w ∈ wsX3_readDigits := fun w h => List.mem_cons_of_mem _ (List.mem_append_left _ (List.mem_append_right _ h))
  have hL29 : (Cond.fieldLink RX3 29 "DustSums$Reader" "start" "I").before args s = true := hts (.fieldLink RX3 29 "DustSums$Reader" "start" "I") (List.mem_of_getElem? (i := 1) rfl)
  have cw74 : CallW ({ frames := 2, cells := 0, slots := 0, locals := 42 } : Room) s args RX3 RX7 74 yX7_byteAt cX7_byteAt 2 (some .int) wsX7_byteAt ({ frames := 0, cells := 0, slots := 0, locals := 0 } : Room) 0 0 1 := cwV 1 hts gX3_readDigits_X7_byteAt rfl rfl rfl (by decide +kernel) ⟨Nat.le_of_ble_eq_true rfl, Nat.le_of_ble_eq_true rfl⟩
  have hL21 : (Cond.fieldLink RX3 21 "DustSums$Reader" "next" "I").before args s = true := hts (.fieldLink RX3 21 "DustSums$Reader" "next" "I") (List.mem_of_getElem? (i := 2) rfl)
  have in_X7 : ∀ w ∈ wsX70, w ∈ wsX3_readDigits := fun w h => List.mem_cons_of_mem _ (List.mem_append_right _ h)
  have hL69 : (Cond.fieldLinkNest RX3 69 "DustSums$Text" "length" "I" "DustSums").before args s = true := va_Nw.use rfl (hN.1 (RX3, 69, "DustSums$Text", "length", "I", "DustSums") (by decide +kernel))
  have hL36 : (Cond.fieldLink RX3 36 "DustSums$Reader" "kind" "I").before args s = true := hts (.fieldLink RX3 36 "DustSums$Reader" "kind" "I") (List.mem_of_getElem? (i := 4) rfl)
  have cw84 : CallB ({ frames := 2, cells := 0, slots := 0, locals := 42 } : Room) s args RX3 84 yX3_isDigit cX3_isDigit 1 (some .boolean) wsX3_isDigit ({ frames := 1, cells := 0, slots := 0, locals := 22 } : Room) 0 0 1 ∧ (Cond.static yX3_isDigit).before args s = true := va_cwS 1 hts gX3_readDigits_X3_isDigit rfl rfl rfl (by decide +kernel) ⟨Nat.le_of_ble_eq_true rfl, Nat.le_of_ble_eq_true rfl⟩
  have hL39 : (Cond.fieldLink RX3 39 "DustSums$Reader" "value" "I").before args s = true := hts (.fieldLink RX3 39 "DustSums$Reader" "value" "I") (List.mem_of_getElem? (i := 3) rfl)
  have k_123 : ∀ (v_next : Int32) (v_kind : Int32) (v_value : Int32) (t1 : Int32) (H : Heap) (locs : List Loc) (ls : Array Slot), f_X3_readDigits_123 N v_start v_a1_length v_a1_bytes v_next v_kind v_value t1 = some out → va_P (dC, dI) vwCl [(h_this, .inr (3, [.ref h_draft, .int v_next, .int v_start, .int v_kind, .int v_value])), (h_a1, .inr (7, [.ref h_a1_bytes, .int v_a1_length])), (h_a1_bytes, .inl (k_a1_bytes, 300, .inl v_a1_bytes))] H → va_D A [(h_this, .inr (3, [.ref h_draft, .int v_next, .int v_start, .int v_kind, .int v_value])), (h_a1, .inr (7, [.ref h_a1_bytes, .int v_a1_length])), (h_a1_bytes, .inl (k_a1_bytes, 300, .inl v_a1_bytes))] → va_S A s.heap H locs → lv_has ls 4 [] → W p l e ({ frames := 2, cells := 0, slots := 0, locals := 42 } : Room) s m args below meth c H locs 0 0 Q (F0 m 123 ls [.int t1, .ref h_this]) := by
    intro v_next v_kind v_value t1 H locs ls hF hP hD hS hl
    unfold f_X3_readDigits_123 at hF
    refine va_put (D := (dC, dI)) (ci := 3) (v := .int t1) (ty := .int) (C := RX3) (T := TX3) (N := 5) hx hb hts in_X3 tyX3 tyX3_ok nmX3 hown hK hP hD hS 0 rfl rfl 3 (by decide) hL36 (fun _ h9 => h9) rfl (by decide +kernel) rfl rfl (Nat.le_of_ble_eq_true rfl) dX3_readDigits_123 (fun H locs hP hD hS => ?_)
    have hP : va_P (dC, dI) vwCl [(h_this, .inr (3, [.ref h_draft, .int v_next, .int v_start, .int t1, .int v_value])), (h_a1, .inr (7, [.ref h_a1_bytes, .int v_a1_length])), (h_a1_bytes, .inl (k_a1_bytes, 300, .inl v_a1_bytes))] H := hP
    have hD : va_D A [(h_this, .inr (3, [.ref h_draft, .int v_next, .int v_start, .int t1, .int v_value])), (h_a1, .inr (7, [.ref h_a1_bytes, .int v_a1_length])), (h_a1_bytes, .inl (k_a1_bytes, 300, .inl v_a1_bytes))] := hD
    have hF := Option.some.inj hF
    subst hF
    exact hret _ _ _ _ dX3_readDigits_126 hP hD hS
  have k_122 : ∀ (v_next : Int32) (v_kind : Int32) (v_value : Int32) (H : Heap) (locs : List Loc) (ls : Array Slot), f_X3_readDigits_122 N v_start v_a1_length v_a1_bytes v_next v_kind v_value = some out → va_P (dC, dI) vwCl [(h_this, .inr (3, [.ref h_draft, .int v_next, .int v_start, .int v_kind, .int v_value])), (h_a1, .inr (7, [.ref h_a1_bytes, .int v_a1_length])), (h_a1_bytes, .inl (k_a1_bytes, 300, .inl v_a1_bytes))] H → va_D A [(h_this, .inr (3, [.ref h_draft, .int v_next, .int v_start, .int v_kind, .int v_value])), (h_a1, .inr (7, [.ref h_a1_bytes, .int v_a1_length])), (h_a1_bytes, .inl (k_a1_bytes, 300, .inl v_a1_bytes))] → va_S A s.heap H locs → lv_has ls 4 [] → W p l e ({ frames := 2, cells := 0, slots := 0, locals := 42 } : Room) s m args below meth c H locs 0 0 Q (F0 m 122 ls [.ref h_this]) := by
    intro v_next v_kind v_value H locs ls hF hP hD hS hl
    unfold f_X3_readDigits_122 at hF
    refine lv_iconst (v := (3 : Int32)) hx hb dX3_readDigits_122 (by decide) ?_
    exact k_123 v_next v_kind v_value (3 : Int32) _ _ _ hF hP hD hS hl
  have k_93 : ∀ (v_next : Int32) (v_kind : Int32) (v_value : Int32) (y2 : Int32) (H : Heap) (locs : List Loc) (ls : Array Slot), f_X3_readDigits_93 N v_start v_a1_length v_a1_bytes v_next v_kind v_value y2 = some out → va_P (dC, dI) vwCl [(h_this, .inr (3, [.ref h_draft, .int v_next, .int v_start, .int v_kind, .int v_value])), (h_a1, .inr (7, [.ref h_a1_bytes, .int v_a1_length])), (h_a1_bytes, .inl (k_a1_bytes, 300, .inl v_a1_bytes))] H → va_D A [(h_this, .inr (3, [.ref h_draft, .int v_next, .int v_start, .int v_kind, .int v_value])), (h_a1, .inr (7, [.ref h_a1_bytes, .int v_a1_length])), (h_a1_bytes, .inl (k_a1_bytes, 300, .inl v_a1_bytes))] → va_S A s.heap H locs → lv_has ls 4 [(0, .ref h_this), (2, .int y2)] → W p l e ({ frames := 2, cells := 0, slots := 0, locals := 42 } : Room) s m args below meth c H locs 0 0 Q (F0 m 93 ls []) := by
    intro v_next v_kind v_value y2 H locs ls hF hP hD hS hl
    unfold f_X3_readDigits_93 at hF
    refine lv_aload_n hx hb dX3_readDigits_93 rfl (lv_at hl 0 rfl) ?_
    refine va_get (D := (dC, dI)) (ci := 3) (v := .int v_next) (C := RX3) (T := TX3) (N := 5) hx hb hts in_X3 hown hK hP 0 rfl rfl 1 (by decide) hL21 (fun _ h9 => h9) rfl dX3_readDigits_94 ?_
    refine lv_aload_n hx hb dX3_readDigits_97 rfl (lv_at hl 0 rfl) ?_
    refine va_get (D := (dC, dI)) (ci := 3) (v := .int v_start) (C := RX3) (T := TX3) (N := 5) hx hb hts in_X3 hown hK hP 0 rfl rfl 2 (by decide) hL29 (fun _ h9 => h9) rfl dX3_readDigits_98 ?_
    refine lv_isub hx hb dX3_readDigits_101 ?_
    refine lv_istore_n (lv' := [(3, .int (v_next - v_start)), (0, .ref h_this), (2, .int y2)]) hx hb dX3_readDigits_102 rfl hl (by decide) rfl (fun ls hl => ?_)
    refine lv_aload_n hx hb dX3_readDigits_103 rfl (lv_at hl 1 rfl) ?_
    refine lv_iload_n hx hb dX3_readDigits_104 rfl (lv_at hl 0 rfl) ?_
    refine lv_iconst (v := (2 : Int32)) hx hb dX3_readDigits_105 (by decide) ?_
    refine lv_icmp_gt (tgt := 118) hx hb dX3_readDigits_106 (by decide) (fun c_106 => ?_) (fun c_106 => ?_)
    · have hF := gi_t c_106 hF
      refine lv_iconst (v := (5 : Int32)) hx hb dX3_readDigits_118 (by decide) ?_
      refine lv_goto (tgt := 123) hx hb dX3_readDigits_119 (by decide) ?_
      exact k_123 v_next v_kind v_value (5 : Int32) _ _ _ hF hP hD hS (lv_sub hl [] rfl)
    · have hF := gi_f c_106 hF
      refine lv_iload_n hx hb dX3_readDigits_109 rfl (lv_at hl 0 rfl) ?_
      refine lv_iconst (v := (2 : Int32)) hx hb dX3_readDigits_110 (by decide) ?_
      refine lv_icmp_ne (tgt := 122) hx hb dX3_readDigits_111 (by decide) (fun c_111 => ?_) (fun c_111 => ?_)
      · have hF := gi_f c_111 hF
        exact k_122 v_next v_kind v_value _ _ _ hF hP hD hS (lv_sub hl [] rfl)
      · have hF := gi_t c_111 hF
        refine lv_iload_n hx hb dX3_readDigits_114 rfl (lv_at hl 2 rfl) ?_
        refine lv_if_eq (tgt := 122) hx hb dX3_readDigits_115 (by decide) (fun c_115 => ?_) (fun c_115 => ?_)
        · have hF := gi_t c_115 hF
          exact k_122 v_next v_kind v_value _ _ _ hF hP hD hS (lv_sub hl [] rfl)
        · have hF := gi_f c_115 hF
          refine lv_iconst (v := (5 : Int32)) hx hb dX3_readDigits_118 (by decide) ?_
          refine lv_goto (tgt := 123) hx hb dX3_readDigits_119 (by decide) ?_
          exact k_123 v_next v_kind v_value (5 : Int32) _ _ _ hF hP hD hS (lv_sub hl [] rfl)
  have k_80 : ∀ (r_19 : Int32 → Int32 → Int32 → Int32 → Option O_X3_readDigits) (g_19 : ∀ (v_next : Int32) (v_kind : Int32) (v_value : Int32) (y2 : Int32) (H : Heap) (locs : List Loc) (ls : Array Slot), r_19 v_next v_kind v_value y2 = some out → va_P (dC, dI) vwCl [(h_this, .inr (3, [.ref h_draft, .int v_next, .int v_start, .int v_kind, .int v_value])), (h_a1, .inr (7, [.ref h_a1_bytes, .int v_a1_length])), (h_a1_bytes, .inl (k_a1_bytes, 300, .inl v_a1_bytes))] H → va_D A [(h_this, .inr (3, [.ref h_draft, .int v_next, .int v_start, .int v_kind, .int v_value])), (h_a1, .inr (7, [.ref h_a1_bytes, .int v_a1_length])), (h_a1_bytes, .inl (k_a1_bytes, 300, .inl v_a1_bytes))] → va_S A s.heap H locs → lv_has ls 4 [(0, .ref h_this), (1, .ref h_a1), (2, .int y2)] → W p l e ({ frames := 2, cells := 0, slots := 0, locals := 42 } : Room) s m args below meth c H locs 0 0 Q (F0 m 19 ls [])) (v_next : Int32) (v_kind : Int32) (v_value : Int32) (y2 : Int32) (H : Heap) (locs : List Loc) (ls : Array Slot), f_X3_readDigits_80 N v_start v_a1_length v_a1_bytes r_19 v_next v_kind v_value y2 = some out → va_P (dC, dI) vwCl [(h_this, .inr (3, [.ref h_draft, .int v_next, .int v_start, .int v_kind, .int v_value])), (h_a1, .inr (7, [.ref h_a1_bytes, .int v_a1_length])), (h_a1_bytes, .inl (k_a1_bytes, 300, .inl v_a1_bytes))] H → va_D A [(h_this, .inr (3, [.ref h_draft, .int v_next, .int v_start, .int v_kind, .int v_value])), (h_a1, .inr (7, [.ref h_a1_bytes, .int v_a1_length])), (h_a1_bytes, .inl (k_a1_bytes, 300, .inl v_a1_bytes))] → va_S A s.heap H locs → lv_has ls 4 [(0, .ref h_this), (1, .ref h_a1), (2, .int y2)] → W p l e ({ frames := 2, cells := 0, slots := 0, locals := 42 } : Room) s m args below meth c H locs 0 0 Q (F0 m 80 ls []) := by
    intro r_19 g_19 v_next v_kind v_value y2 H locs ls hF hP hD hS hl
    unfold f_X3_readDigits_80 at hF
    refine lv_aload_n hx hb dX3_readDigits_80 rfl (lv_at hl 0 rfl) ?_
    refine lv_dup hx hb dX3_readDigits_81 rfl ?_
    refine va_get (D := (dC, dI)) (ci := 3) (v := .int v_next) (C := RX3) (T := TX3) (N := 5) hx hb hts in_X3 hown hK hP 0 rfl rfl 1 (by decide) hL21 (fun _ h9 => h9) rfl dX3_readDigits_82 ?_
    refine lv_iconst (v := (1 : Int32)) hx hb dX3_readDigits_85 (by decide) ?_
    refine lv_iadd hx hb dX3_readDigits_86 ?_
    refine va_put (D := (dC, dI)) (ci := 3) (v := .int (v_next + (1 : Int32))) (ty := .int) (C := RX3) (T := TX3) (N := 5) hx hb hts in_X3 tyX3 tyX3_ok nmX3 hown hK hP hD hS 0 rfl rfl 1 (by decide) hL21 (fun _ h9 => h9) rfl (by decide +kernel) rfl rfl (Nat.le_of_ble_eq_true rfl) dX3_readDigits_87 (fun H locs hP hD hS => ?_)
    have hP : va_P (dC, dI) vwCl [(h_this, .inr (3, [.ref h_draft, .int (v_next + (1 : Int32)), .int v_start, .int v_kind, .int v_value])), (h_a1, .inr (7, [.ref h_a1_bytes, .int v_a1_length])), (h_a1_bytes, .inl (k_a1_bytes, 300, .inl v_a1_bytes))] H := hP
    have hD : va_D A [(h_this, .inr (3, [.ref h_draft, .int (v_next + (1 : Int32)), .int v_start, .int v_kind, .int v_value])), (h_a1, .inr (7, [.ref h_a1_bytes, .int v_a1_length])), (h_a1_bytes, .inl (k_a1_bytes, 300, .inl v_a1_bytes))] := hD
    refine lv_goto (tgt := 19) hx hb dX3_readDigits_90 (by decide) ?_
    exact g_19 (v_next + (1 : Int32)) v_kind v_value y2 _ _ _ hF hP hD hS hl
  have k_19 : ∀ (n : Nat) (v_next : Int32) (v_kind : Int32) (v_value : Int32) (y2 : Int32) (H : Heap) (locs : List Loc) (ls : Array Slot), f_X3_readDigits_19 N v_start v_a1_length v_a1_bytes n v_next v_kind v_value y2 = some out → va_P (dC, dI) vwCl [(h_this, .inr (3, [.ref h_draft, .int v_next, .int v_start, .int v_kind, .int v_value])), (h_a1, .inr (7, [.ref h_a1_bytes, .int v_a1_length])), (h_a1_bytes, .inl (k_a1_bytes, 300, .inl v_a1_bytes))] H → va_D A [(h_this, .inr (3, [.ref h_draft, .int v_next, .int v_start, .int v_kind, .int v_value])), (h_a1, .inr (7, [.ref h_a1_bytes, .int v_a1_length])), (h_a1_bytes, .inl (k_a1_bytes, 300, .inl v_a1_bytes))] → va_S A s.heap H locs → lv_has ls 4 [(0, .ref h_this), (1, .ref h_a1), (2, .int y2)] → W p l e ({ frames := 2, cells := 0, slots := 0, locals := 42 } : Room) s m args below meth c H locs 0 0 Q (F0 m 19 ls []) := by
    intro n
    induction n with
    | zero =>
      intro v_next v_kind v_value y2 H locs ls hF
      have hF : (none : Option O_X3_readDigits) = some out := hF
      cases hF
    | succ n ih =>
      intro v_next v_kind v_value y2 H locs ls hF hP hD hS hl
      have hF : s_X3_readDigits_19 N v_start v_a1_length v_a1_bytes (f_X3_readDigits_19 N v_start v_a1_length v_a1_bytes n) v_next v_kind v_value y2 = some out := hF
      generalize f_X3_readDigits_19 N v_start v_a1_length v_a1_bytes n = r_19 at hF ih
      have g_19 : ∀ (v_next : Int32) (v_kind : Int32) (v_value : Int32) (y2 : Int32) (H : Heap) (locs : List Loc) (ls : Array Slot), r_19 v_next v_kind v_value y2 = some out → va_P (dC, dI) vwCl [(h_this, .inr (3, [.ref h_draft, .int v_next, .int v_start, .int v_kind, .int v_value])), (h_a1, .inr (7, [.ref h_a1_bytes, .int v_a1_length])), (h_a1_bytes, .inl (k_a1_bytes, 300, .inl v_a1_bytes))] H → va_D A [(h_this, .inr (3, [.ref h_draft, .int v_next, .int v_start, .int v_kind, .int v_value])), (h_a1, .inr (7, [.ref h_a1_bytes, .int v_a1_length])), (h_a1_bytes, .inl (k_a1_bytes, 300, .inl v_a1_bytes))] → va_S A s.heap H locs → lv_has ls 4 [(0, .ref h_this), (1, .ref h_a1), (2, .int y2)] → W p l e ({ frames := 2, cells := 0, slots := 0, locals := 42 } : Room) s m args below meth c H locs 0 0 Q (F0 m 19 ls []) := ih
      clear ih
      unfold s_X3_readDigits_19 at hF
      refine lv_aload_n hx hb dX3_readDigits_19 rfl (lv_at hl 0 rfl) ?_
      refine va_get (D := (dC, dI)) (ci := 3) (v := .int v_next) (C := RX3) (T := TX3) (N := 5) hx hb hts in_X3 hown hK hP 0 rfl rfl 1 (by decide) hL21 (fun _ h9 => h9) rfl dX3_readDigits_20 ?_
      refine lv_aload_n hx hb dX3_readDigits_23 rfl (lv_at hl 1 rfl) ?_
      refine va_getN (D := (dC, dI)) (ci := 7) (v := .int v_a1_length) (C := RX7) (T := TX7) (N := 2) hx hb hts in_X7 hown hK hP 1 rfl rfl 1 (by decide) hL69 (fun _ h9 => h9) rfl dX3_readDigits_24 ?_
      refine lv_icmp_ge (tgt := 93) hx hb dX3_readDigits_27 (by decide) (fun c_27 => ?_) (fun c_27 => ?_)
      · have hF := gi_t c_27 hF
        exact k_93 v_next v_kind v_value y2 _ _ _ hF hP hD hS (lv_sub hl [0, 2] rfl)
      · have hF := gi_f c_27 hF
        refine lv_aload_n hx hb dX3_readDigits_30 rfl (lv_at hl 1 rfl) ?_
        refine lv_aload_n hx hb dX3_readDigits_31 rfl (lv_at hl 0 rfl) ?_
        refine va_get (D := (dC, dI)) (ci := 3) (v := .int v_next) (C := RX3) (T := TX3) (N := 5) hx hb hts in_X3 hown hK hP 0 rfl rfl 1 (by decide) hL21 (fun _ h9 => h9) rfl dX3_readDigits_32 ?_
        obtain ⟨z_35, hz_35, hF⟩ := gi_bind hF
        refine gRi (wc := [(h_a1, .inr (7, [.ref h_a1_bytes, .int v_a1_length])), (h_a1_bytes, .inl (k_a1_bytes, 300, .inl v_a1_bytes))]) (wr := [(h_this, .inr (3, [.ref h_draft, .int v_next, .int v_start, .int v_kind, .int v_value]))]) (w1 := [(h_a1, .inr (7, [.ref h_a1_bytes, .int v_a1_length])), (h_a1_bytes, .inl (k_a1_bytes, 300, .inl v_a1_bytes))]) hP hD hS hA [1, 2] [0] rfl rfl (by decide) (by decide) (va_runV (As := [.int v_next]) (rest := []) CF (t_X7_byteAt l dC dI h_a1 h_a1_bytes v_a1_length k_a1_bytes v_a1_bytes H.size v_next N z_35 hz_35) cw74 (gPV (ci := 7) hP hD hK hN [1, 2] [0] (by decide) rfl rfl (q0 := 1) rfl rfl) rfl rfl hl.1 rfl (lv_room (Nat.le_of_ble_eq_true rfl)) dX3_readDigits_35 ⟨Nat.zero_le _, Nat.zero_le _⟩) (fun H locs hP hD hS => ?_)
        have hP : va_P (dC, dI) vwCl [(h_this, .inr (3, [.ref h_draft, .int v_next, .int v_start, .int v_kind, .int v_value])), (h_a1, .inr (7, [.ref h_a1_bytes, .int v_a1_length])), (h_a1_bytes, .inl (k_a1_bytes, 300, .inl v_a1_bytes))] H := hP
        have hD : va_D A [(h_this, .inr (3, [.ref h_draft, .int v_next, .int v_start, .int v_kind, .int v_value])), (h_a1, .inr (7, [.ref h_a1_bytes, .int v_a1_length])), (h_a1_bytes, .inl (k_a1_bytes, 300, .inl v_a1_bytes))] := hD
        obtain ⟨z_38, hz_38, hF⟩ := gi_bind hF
        refine gRi (wc := []) (wr := [(h_this, .inr (3, [.ref h_draft, .int v_next, .int v_start, .int v_kind, .int v_value])), (h_a1, .inr (7, [.ref h_a1_bytes, .int v_a1_length])), (h_a1_bytes, .inl (k_a1_bytes, 300, .inl v_a1_bytes))]) (w1 := []) hP hD hS hA [] [0, 1, 2] rfl rfl (by decide) (by decide) (va_runS (As := [.int z_35]) (rest := []) CF (t_X3_isDigit l dC dI H.size z_35 N z_38 hz_38) cw84 (gPS hP hD hK hN [] [] (by decide) rfl rfl) rfl rfl hl.1 rfl (lv_room (Nat.le_of_ble_eq_true rfl)) dX3_readDigits_38 ⟨Nat.zero_le _, Nat.zero_le _⟩) (fun H locs hP hD hS => ?_)
        have hP : va_P (dC, dI) vwCl [(h_this, .inr (3, [.ref h_draft, .int v_next, .int v_start, .int v_kind, .int v_value])), (h_a1, .inr (7, [.ref h_a1_bytes, .int v_a1_length])), (h_a1_bytes, .inl (k_a1_bytes, 300, .inl v_a1_bytes))] H := hP
        have hD : va_D A [(h_this, .inr (3, [.ref h_draft, .int v_next, .int v_start, .int v_kind, .int v_value])), (h_a1, .inr (7, [.ref h_a1_bytes, .int v_a1_length])), (h_a1_bytes, .inl (k_a1_bytes, 300, .inl v_a1_bytes))] := hD
        refine lv_if_eq (tgt := 93) hx hb dX3_readDigits_41 (by decide) (fun c_41 => ?_) (fun c_41 => ?_)
        · have hF := gi_t c_41 hF
          exact k_93 v_next v_kind v_value y2 _ _ _ hF hP hD hS (lv_sub hl [0, 2] rfl)
        · have hF := gi_f c_41 hF
          refine lv_aload_n hx hb dX3_readDigits_44 rfl (lv_at hl 0 rfl) ?_
          refine va_get (D := (dC, dI)) (ci := 3) (v := .int v_next) (C := RX3) (T := TX3) (N := 5) hx hb hts in_X3 hown hK hP 0 rfl rfl 1 (by decide) hL21 (fun _ h9 => h9) rfl dX3_readDigits_45 ?_
          refine lv_aload_n hx hb dX3_readDigits_48 rfl (lv_at hl 0 rfl) ?_
          refine va_get (D := (dC, dI)) (ci := 3) (v := .int v_start) (C := RX3) (T := TX3) (N := 5) hx hb hts in_X3 hown hK hP 0 rfl rfl 2 (by decide) hL29 (fun _ h9 => h9) rfl dX3_readDigits_49 ?_
          refine lv_isub hx hb dX3_readDigits_52 ?_
          refine lv_iconst (v := (2 : Int32)) hx hb dX3_readDigits_53 (by decide) ?_
          refine lv_icmp_ge (tgt := 80) hx hb dX3_readDigits_54 (by decide) (fun c_54 => ?_) (fun c_54 => ?_)
          · have hF := gi_t c_54 hF
            exact k_80 r_19 g_19 v_next v_kind v_value y2 _ _ _ hF hP hD hS hl
          · have hF := gi_f c_54 hF
            refine lv_aload_n hx hb dX3_readDigits_57 rfl (lv_at hl 0 rfl) ?_
            refine lv_aload_n hx hb dX3_readDigits_58 rfl (lv_at hl 0 rfl) ?_
            refine va_get (D := (dC, dI)) (ci := 3) (v := .int v_value) (C := RX3) (T := TX3) (N := 5) hx hb hts in_X3 hown hK hP 0 rfl rfl 4 (by decide) hL39 (fun _ h9 => h9) rfl dX3_readDigits_59 ?_
            refine lv_bipush (v := (10 : Int32)) hx hb dX3_readDigits_62 (by decide) ?_
            refine lv_imul hx hb dX3_readDigits_64 ?_
            refine lv_aload_n hx hb dX3_readDigits_65 rfl (lv_at hl 1 rfl) ?_
            refine lv_aload_n hx hb dX3_readDigits_66 rfl (lv_at hl 0 rfl) ?_
            refine va_get (D := (dC, dI)) (ci := 3) (v := .int v_next) (C := RX3) (T := TX3) (N := 5) hx hb hts in_X3 hown hK hP 0 rfl rfl 1 (by decide) hL21 (fun _ h9 => h9) rfl dX3_readDigits_67 ?_
            obtain ⟨z_70, hz_70, hF⟩ := gi_bind hF
            refine gRi (wc := [(h_a1, .inr (7, [.ref h_a1_bytes, .int v_a1_length])), (h_a1_bytes, .inl (k_a1_bytes, 300, .inl v_a1_bytes))]) (wr := [(h_this, .inr (3, [.ref h_draft, .int v_next, .int v_start, .int v_kind, .int v_value]))]) (w1 := [(h_a1, .inr (7, [.ref h_a1_bytes, .int v_a1_length])), (h_a1_bytes, .inl (k_a1_bytes, 300, .inl v_a1_bytes))]) hP hD hS hA [1, 2] [0] rfl rfl (by decide) (by decide) (va_runV (As := [.int v_next]) (rest := [.int (v_value * (10 : Int32)), .ref h_this]) CF (t_X7_byteAt l dC dI h_a1 h_a1_bytes v_a1_length k_a1_bytes v_a1_bytes H.size v_next N z_70 hz_70) cw74 (gPV (ci := 7) hP hD hK hN [1, 2] [0] (by decide) rfl rfl (q0 := 1) rfl rfl) rfl rfl hl.1 rfl (lv_room (Nat.le_of_ble_eq_true rfl)) dX3_readDigits_70 ⟨Nat.zero_le _, Nat.zero_le _⟩) (fun H locs hP hD hS => ?_)
            have hP : va_P (dC, dI) vwCl [(h_this, .inr (3, [.ref h_draft, .int v_next, .int v_start, .int v_kind, .int v_value])), (h_a1, .inr (7, [.ref h_a1_bytes, .int v_a1_length])), (h_a1_bytes, .inl (k_a1_bytes, 300, .inl v_a1_bytes))] H := hP
            have hD : va_D A [(h_this, .inr (3, [.ref h_draft, .int v_next, .int v_start, .int v_kind, .int v_value])), (h_a1, .inr (7, [.ref h_a1_bytes, .int v_a1_length])), (h_a1_bytes, .inl (k_a1_bytes, 300, .inl v_a1_bytes))] := hD
            refine lv_iadd hx hb dX3_readDigits_73 ?_
            refine lv_bipush (v := (48 : Int32)) hx hb dX3_readDigits_74 (by decide) ?_
            refine lv_isub hx hb dX3_readDigits_76 ?_
            refine va_put (D := (dC, dI)) (ci := 3) (v := .int (((v_value * (10 : Int32)) + z_70) - (48 : Int32))) (ty := .int) (C := RX3) (T := TX3) (N := 5) hx hb hts in_X3 tyX3 tyX3_ok nmX3 hown hK hP hD hS 0 rfl rfl 4 (by decide) hL39 (fun _ h9 => h9) rfl (by decide +kernel) rfl rfl (Nat.le_of_ble_eq_true rfl) dX3_readDigits_77 (fun H locs hP hD hS => ?_)
            have hP : va_P (dC, dI) vwCl [(h_this, .inr (3, [.ref h_draft, .int v_next, .int v_start, .int v_kind, .int (((v_value * (10 : Int32)) + z_70) - (48 : Int32))])), (h_a1, .inr (7, [.ref h_a1_bytes, .int v_a1_length])), (h_a1_bytes, .inl (k_a1_bytes, 300, .inl v_a1_bytes))] H := hP
            have hD : va_D A [(h_this, .inr (3, [.ref h_draft, .int v_next, .int v_start, .int v_kind, .int (((v_value * (10 : Int32)) + z_70) - (48 : Int32))])), (h_a1, .inr (7, [.ref h_a1_bytes, .int v_a1_length])), (h_a1_bytes, .inl (k_a1_bytes, 300, .inl v_a1_bytes))] := hD
            exact k_80 r_19 g_19 v_next v_kind (((v_value * (10 : Int32)) + z_70) - (48 : Int32)) y2 _ _ _ hF hP hD hS hl
  unfold f_X3_readDigits at hF
  refine lv_aload_n hx hb dX3_readDigits_0 rfl (lv_at hl 1 rfl) ?_
  refine lv_aload_n hx hb dX3_readDigits_1 rfl (lv_at hl 0 rfl) ?_
  refine va_get (D := (dC, dI)) (ci := 3) (v := .int v_start) (C := RX3) (T := TX3) (N := 5) hx hb hts in_X3 hown hK hP 0 rfl rfl 2 (by decide) hL29 (fun _ h9 => h9) rfl dX3_readDigits_2 ?_
  obtain ⟨z_5, hz_5, hF⟩ := gi_bind hF
  refine gRi (wc := [(h_a1, .inr (7, [.ref h_a1_bytes, .int v_a1_length])), (h_a1_bytes, .inl (k_a1_bytes, 300, .inl v_a1_bytes))]) (wr := [(h_this, .inr (3, [.ref h_draft, .int v_next, .int v_start, .int v_kind, .int v_value]))]) (w1 := [(h_a1, .inr (7, [.ref h_a1_bytes, .int v_a1_length])), (h_a1_bytes, .inl (k_a1_bytes, 300, .inl v_a1_bytes))]) hP hD hS hA [1, 2] [0] rfl rfl (by decide) (by decide) (va_runV (As := [.int v_start]) (rest := []) CF (t_X7_byteAt l dC dI h_a1 h_a1_bytes v_a1_length k_a1_bytes v_a1_bytes s.heap.size v_start N z_5 hz_5) cw74 (gPV (ci := 7) hP hD hK hN [1, 2] [0] (by decide) rfl rfl (q0 := 1) rfl rfl) rfl rfl hl.1 rfl (lv_room (Nat.le_of_ble_eq_true rfl)) dX3_readDigits_5 ⟨Nat.zero_le _, Nat.zero_le _⟩) (fun H locs hP hD hS => ?_)
  have hP : va_P (dC, dI) vwCl [(h_this, .inr (3, [.ref h_draft, .int v_next, .int v_start, .int v_kind, .int v_value])), (h_a1, .inr (7, [.ref h_a1_bytes, .int v_a1_length])), (h_a1_bytes, .inl (k_a1_bytes, 300, .inl v_a1_bytes))] H := hP
  have hD : va_D A [(h_this, .inr (3, [.ref h_draft, .int v_next, .int v_start, .int v_kind, .int v_value])), (h_a1, .inr (7, [.ref h_a1_bytes, .int v_a1_length])), (h_a1_bytes, .inl (k_a1_bytes, 300, .inl v_a1_bytes))] := hD
  refine lv_bipush (v := (48 : Int32)) hx hb dX3_readDigits_8 (by decide) ?_
  refine lv_icmp_ne (tgt := 17) hx hb dX3_readDigits_10 (by decide) (fun c_10 => ?_) (fun c_10 => ?_)
  · have hF := gi_f c_10 hF
    refine lv_iconst (v := (0 : Int32)) hx hb dX3_readDigits_17 (by decide) ?_
    refine lv_istore_n (lv' := [(2, .int (0 : Int32)), (0, .ref h_this), (1, .ref h_a1)]) hx hb dX3_readDigits_18 rfl hl (by decide) rfl (fun ls hl => ?_)
    exact k_19 N v_next v_kind v_value (0 : Int32) _ _ _ hF hP hD hS (lv_sub hl [1, 2, 0] rfl)
  · have hF := gi_t c_10 hF
    refine lv_iconst (v := (1 : Int32)) hx hb dX3_readDigits_13 (by decide) ?_
    refine lv_goto (tgt := 18) hx hb dX3_readDigits_14 (by decide) ?_
    refine lv_istore_n (lv' := [(2, .int (1 : Int32)), (0, .ref h_this), (1, .ref h_a1)]) hx hb dX3_readDigits_18 rfl hl (by decide) rfl (fun ls hl => ?_)
    exact k_19 N v_next v_kind v_value (1 : Int32) _ _ _ hF hP hD hS (lv_sub hl [1, 2, 0] rfl)
abbrev O_X3_step : Type := Int32 × Int32 × Int32 × Int32
def f_X3_step_148 (N : Nat) (v_a1_length : Int32) (v_a1_bytes : Nat → Int32) (v_next : Int32) (v_start : Int32) (v_kind : Int32) (v_value : Int32) (t1 : Int32) : Option O_X3_step :=
  some (v_next, v_start, t1, v_value)
def f_X3_step_37 (N : Nat) (v_a1_length : Int32) (v_a1_bytes : Nat → Int32) (v_next : Int32) (v_start : Int32) (v_kind : Int32) (v_value : Int32) : Option O_X3_step :=
  (f_X7_byteAt N v_a1_length v_a1_bytes v_next).bind (fun z_55 => if 0 ≤ z_55 then ((f_X3_isSmall N z_55).bind (fun z_72 => if z_72 = 0 then ((f_X3_isDigit N z_55).bind (fun z_87 => if z_87 = 0 then (if z_55 = (59 : Int32) then (f_X3_step_148 N v_a1_length v_a1_bytes (v_next + (1 : Int32)) v_next v_kind (z_55 - (65 : Int32)) (4 : Int32)) else ((f_X9_within N (z_55 - (65 : Int32)) (0 : Int32) (15 : Int32)).bind (fun z_137 => if z_137 = 0 then (f_X3_step_148 N v_a1_length v_a1_bytes (v_next + (1 : Int32)) v_next v_kind (z_55 - (65 : Int32)) (5 : Int32)) else (f_X3_step_148 N v_a1_length v_a1_bytes (v_next + (1 : Int32)) v_next v_kind (z_55 - (65 : Int32)) (2 : Int32))))) else ((f_X3_readDigits N v_next v_a1_length v_a1_bytes v_next v_kind (0 : Int32)).bind (fun z_95 => some (z_95.1, v_next, z_95.2.1, z_95.2.2))))) else ((f_X3_readWord N v_next v_a1_length v_a1_bytes v_next v_kind (0 : Int32)).bind (fun z_80 => some (z_80.1, v_next, z_80.2.1, z_80.2.2))))) else (some (v_next, v_next, (0 : Int32), (0 : Int32))))
def s_X3_step_0 (N : Nat) (v_a1_length : Int32) (v_a1_bytes : Nat → Int32) (r_0 : Int32 → Int32 → Int32 → Int32 → Option O_X3_step) (v_next : Int32) (v_start : Int32) (v_kind : Int32) (v_value : Int32) : Option O_X3_step :=
  if v_a1_length ≤ v_next then (f_X3_step_37 N v_a1_length v_a1_bytes v_next v_start v_kind v_value) else ((f_X7_byteAt N v_a1_length v_a1_bytes v_next).bind (fun z_16 => if z_16 = (32 : Int32) then (r_0 (v_next + (1 : Int32)) v_start v_kind v_value) else (f_X3_step_37 N v_a1_length v_a1_bytes v_next v_start v_kind v_value)))
def f_X3_step_0 (N : Nat) (v_a1_length : Int32) (v_a1_bytes : Nat → Int32) (n : Nat) : Int32 → Int32 → Int32 → Int32 → Option O_X3_step := lpg (fun _ _ _ _ => none) (s_X3_step_0 N v_a1_length v_a1_bytes) n
def f_X3_step (N : Nat) (v_a1_length : Int32) (v_a1_bytes : Nat → Int32) (v_next : Int32) (v_start : Int32) (v_kind : Int32) (v_value : Int32) : Option O_X3_step :=
  f_X3_step_0 N v_a1_length v_a1_bytes N v_next v_start v_kind v_value
set_option maxHeartbeats 4000000 in
set_option maxRecDepth 100000 in
theorem t_X3_step (l : Launch) (dC : Nat → ClassId) (dI : Nat → Nat → Nat) (h_this : Nat) (h_draft : Nat) (v_next : Int32) (v_start : Int32) (v_kind : Int32) (v_value : Int32) (h_a1 : Nat) (h_a1_bytes : Nat) (v_a1_length : Int32) (k_a1_bytes : ClassId) (v_a1_bytes : Nat → Int32) (sz : Nat) (N : Nat) (out : O_X3_step) (hF : f_X3_step N v_a1_length v_a1_bytes v_next v_start v_kind v_value = some out) : gMv l yX3_step wsX3_step ({ frames := 3, cells := 0, slots := 0, locals := 65 } : Room) [.ref h_this, .ref h_a1] (dC, dI) [(h_this, .inr (3, [.ref h_draft, .int v_next, .int v_start, .int v_kind, .int v_value])), (h_a1, .inr (7, [.ref h_a1_bytes, .int v_a1_length])), (h_a1_bytes, .inl (k_a1_bytes, 300, .inl v_a1_bytes))] [(k_a1_bytes, .byte)] sz [(h_this, .inr (3, [.ref h_draft, .int out.1, .int out.2.1, .int out.2.2.1, .int out.2.2.2])), (h_a1, .inr (7, [.ref h_a1_bytes, .int v_a1_length])), (h_a1_bytes, .inl (k_a1_bytes, 300, .inl v_a1_bytes))] := by
  refine gEv (cc := cX3_step) (maxL := 3) (by decide) rfl (Nat.le_of_ble_eq_true rfl) ?_
  intro p e s m args below meth c Q A ls CF hK hN hA hret hP hD hS hl
  have hx := CF.1
  have hb := CF.2.1
  have hml := CF.2.2.1
  have hown : s.vm.findClass RX3 = some m.cls := CF.2.2.2.1
  have hts := CF.2.2.2.2
  have hl : lv_has ls 3 [(0, .ref h_this), (1, .ref h_a1)] := hl
  have in_X3 : ∀ w ∈ wsX30, w ∈ wsX3_step := fun w h => List.mem_cons_of_mem _ (List.mem_append_left _ (List.mem_append_right _ h))
  have hL21 : (Cond.fieldLink RX3 21 "DustSums$Reader" "next" "I").before args s = true := hts (.fieldLink RX3 21 "DustSums$Reader" "next" "I") (List.mem_of_getElem? (i := 1) rfl)
  have in_X7 : ∀ w ∈ wsX70, w ∈ wsX3_step := fun w h => List.mem_cons_of_mem _ (List.mem_append_right _ h)
  have hL69 : (Cond.fieldLinkNest RX3 69 "DustSums$Text" "length" "I" "DustSums").before args s = true := va_Nw.use rfl (hN.1 (RX3, 69, "DustSums$Text", "length", "I", "DustSums") (by decide +kernel))
  have hL29 : (Cond.fieldLink RX3 29 "DustSums$Reader" "start" "I").before args s = true := hts (.fieldLink RX3 29 "DustSums$Reader" "start" "I") (List.mem_of_getElem? (i := 2) rfl)
  have hL39 : (Cond.fieldLink RX3 39 "DustSums$Reader" "value" "I").before args s = true := hts (.fieldLink RX3 39 "DustSums$Reader" "value" "I") (List.mem_of_getElem? (i := 3) rfl)
  have cw74 : CallW ({ frames := 3, cells := 0, slots := 0, locals := 65 } : Room) s args RX3 RX7 74 yX7_byteAt cX7_byteAt 2 (some .int) wsX7_byteAt ({ frames := 0, cells := 0, slots := 0, locals := 0 } : Room) 0 0 1 := cwV 1 hts gX3_step_X7_byteAt rfl rfl rfl (by decide +kernel) ⟨Nat.le_of_ble_eq_true rfl, Nat.le_of_ble_eq_true rfl⟩
  have cw78 : CallB ({ frames := 3, cells := 0, slots := 0, locals := 65 } : Room) s args RX3 78 yX3_isSmall cX3_isSmall 1 (some .boolean) wsX3_isSmall ({ frames := 1, cells := 0, slots := 0, locals := 22 } : Room) 0 0 1 ∧ (Cond.static yX3_isSmall).before args s = true := va_cwS 1 hts gX3_step_X3_isSmall rfl rfl rfl (by decide +kernel) ⟨Nat.le_of_ble_eq_true rfl, Nat.le_of_ble_eq_true rfl⟩
  have cw84 : CallB ({ frames := 3, cells := 0, slots := 0, locals := 65 } : Room) s args RX3 84 yX3_isDigit cX3_isDigit 1 (some .boolean) wsX3_isDigit ({ frames := 1, cells := 0, slots := 0, locals := 22 } : Room) 0 0 1 ∧ (Cond.static yX3_isDigit).before args s = true := va_cwS 1 hts gX3_step_X3_isDigit rfl rfl rfl (by decide +kernel) ⟨Nat.le_of_ble_eq_true rfl, Nat.le_of_ble_eq_true rfl⟩
  have nm90 : va_Nw (.methodLinkNest RX3 90 yX9_within "DustSums") s := hN.2 (RX3, 90, yX9_within, "DustSums") (by decide +kernel)
  have cw90 : va_CN ({ frames := 3, cells := 0, slots := 0, locals := 65 } : Room) s args RX3 90 yX9_within "DustSums" cX9_within 3 (some .boolean) wsX9_within ({ frames := 0, cells := 0, slots := 0, locals := 0 } : Room) 0 0 3 ∧ (Cond.static yX9_within).before args s = true ∧ True := ⟨va_cnB 3 hts gX3_step_X9_within_n90 rfl rfl rfl nm90 (hts (.initialized RX9) (List.mem_of_getElem? (i := 17) rfl)) (by decide +kernel) ⟨Nat.le_of_ble_eq_true rfl, Nat.le_of_ble_eq_true rfl⟩, hts (.static yX9_within) (List.mem_of_getElem? (i := 16) rfl), trivial⟩
  have hL36 : (Cond.fieldLink RX3 36 "DustSums$Reader" "kind" "I").before args s = true := hts (.fieldLink RX3 36 "DustSums$Reader" "kind" "I") (List.mem_of_getElem? (i := 4) rfl)
  have cw87 : CallW ({ frames := 3, cells := 0, slots := 0, locals := 65 } : Room) s args RX3 RX3 87 yX3_readDigits cX3_readDigits 4 none wsX3_readDigits ({ frames := 2, cells := 0, slots := 0, locals := 42 } : Room) 0 0 1 := cwV 1 hts gX3_step_X3_readDigits rfl rfl rfl (by decide +kernel) ⟨Nat.le_of_ble_eq_true rfl, Nat.le_of_ble_eq_true rfl⟩
  have cw81 : CallW ({ frames := 3, cells := 0, slots := 0, locals := 65 } : Room) s args RX3 RX3 81 yX3_readWord cX3_readWord 3 none wsX3_readWord ({ frames := 2, cells := 0, slots := 0, locals := 42 } : Room) 0 0 1 := cwV 1 hts gX3_step_X3_readWord rfl rfl rfl (by decide +kernel) ⟨Nat.le_of_ble_eq_true rfl, Nat.le_of_ble_eq_true rfl⟩
  have k_148 : ∀ (v_next : Int32) (v_start : Int32) (v_kind : Int32) (v_value : Int32) (t1 : Int32) (H : Heap) (locs : List Loc) (ls : Array Slot), f_X3_step_148 N v_a1_length v_a1_bytes v_next v_start v_kind v_value t1 = some out → va_P (dC, dI) vwCl [(h_this, .inr (3, [.ref h_draft, .int v_next, .int v_start, .int v_kind, .int v_value])), (h_a1, .inr (7, [.ref h_a1_bytes, .int v_a1_length])), (h_a1_bytes, .inl (k_a1_bytes, 300, .inl v_a1_bytes))] H → va_D A [(h_this, .inr (3, [.ref h_draft, .int v_next, .int v_start, .int v_kind, .int v_value])), (h_a1, .inr (7, [.ref h_a1_bytes, .int v_a1_length])), (h_a1_bytes, .inl (k_a1_bytes, 300, .inl v_a1_bytes))] → va_S A s.heap H locs → lv_has ls 3 [] → W p l e ({ frames := 3, cells := 0, slots := 0, locals := 65 } : Room) s m args below meth c H locs 0 0 Q (F0 m 148 ls [.int t1, .ref h_this]) := by
    intro v_next v_start v_kind v_value t1 H locs ls hF hP hD hS hl
    unfold f_X3_step_148 at hF
    refine va_put (D := (dC, dI)) (ci := 3) (v := .int t1) (ty := .int) (C := RX3) (T := TX3) (N := 5) hx hb hts in_X3 tyX3 tyX3_ok nmX3 hown hK hP hD hS 0 rfl rfl 3 (by decide) hL36 (fun _ h9 => h9) rfl (by decide +kernel) rfl rfl (Nat.le_of_ble_eq_true rfl) dX3_step_148 (fun H locs hP hD hS => ?_)
    have hP : va_P (dC, dI) vwCl [(h_this, .inr (3, [.ref h_draft, .int v_next, .int v_start, .int t1, .int v_value])), (h_a1, .inr (7, [.ref h_a1_bytes, .int v_a1_length])), (h_a1_bytes, .inl (k_a1_bytes, 300, .inl v_a1_bytes))] H := hP
    have hD : va_D A [(h_this, .inr (3, [.ref h_draft, .int v_next, .int v_start, .int t1, .int v_value])), (h_a1, .inr (7, [.ref h_a1_bytes, .int v_a1_length])), (h_a1_bytes, .inl (k_a1_bytes, 300, .inl v_a1_bytes))] := hD
    have hF := Option.some.inj hF
    subst hF
    exact hret _ _ _ _ dX3_step_151 hP hD hS
  have k_37 : ∀ (v_next : Int32) (v_start : Int32) (v_kind : Int32) (v_value : Int32) (H : Heap) (locs : List Loc) (ls : Array Slot), f_X3_step_37 N v_a1_length v_a1_bytes v_next v_start v_kind v_value = some out → va_P (dC, dI) vwCl [(h_this, .inr (3, [.ref h_draft, .int v_next, .int v_start, .int v_kind, .int v_value])), (h_a1, .inr (7, [.ref h_a1_bytes, .int v_a1_length])), (h_a1_bytes, .inl (k_a1_bytes, 300, .inl v_a1_bytes))] H → va_D A [(h_this, .inr (3, [.ref h_draft, .int v_next, .int v_start, .int v_kind, .int v_value])), (h_a1, .inr (7, [.ref h_a1_bytes, .int v_a1_length])), (h_a1_bytes, .inl (k_a1_bytes, 300, .inl v_a1_bytes))] → va_S A s.heap H locs → lv_has ls 3 [(0, .ref h_this), (1, .ref h_a1)] → W p l e ({ frames := 3, cells := 0, slots := 0, locals := 65 } : Room) s m args below meth c H locs 0 0 Q (F0 m 37 ls []) := by
    intro v_next v_start v_kind v_value H locs ls hF hP hD hS hl
    unfold f_X3_step_37 at hF
    refine lv_aload_n hx hb dX3_step_37 rfl (lv_at hl 0 rfl) ?_
    refine lv_aload_n hx hb dX3_step_38 rfl (lv_at hl 0 rfl) ?_
    refine va_get (D := (dC, dI)) (ci := 3) (v := .int v_next) (C := RX3) (T := TX3) (N := 5) hx hb hts in_X3 hown hK hP 0 rfl rfl 1 (by decide) hL21 (fun _ h9 => h9) rfl dX3_step_39 ?_
    refine va_put (D := (dC, dI)) (ci := 3) (v := .int v_next) (ty := .int) (C := RX3) (T := TX3) (N := 5) hx hb hts in_X3 tyX3 tyX3_ok nmX3 hown hK hP hD hS 0 rfl rfl 2 (by decide) hL29 (fun _ h9 => h9) rfl (by decide +kernel) rfl rfl (Nat.le_of_ble_eq_true rfl) dX3_step_42 (fun H locs hP hD hS => ?_)
    have hP : va_P (dC, dI) vwCl [(h_this, .inr (3, [.ref h_draft, .int v_next, .int v_next, .int v_kind, .int v_value])), (h_a1, .inr (7, [.ref h_a1_bytes, .int v_a1_length])), (h_a1_bytes, .inl (k_a1_bytes, 300, .inl v_a1_bytes))] H := hP
    have hD : va_D A [(h_this, .inr (3, [.ref h_draft, .int v_next, .int v_next, .int v_kind, .int v_value])), (h_a1, .inr (7, [.ref h_a1_bytes, .int v_a1_length])), (h_a1_bytes, .inl (k_a1_bytes, 300, .inl v_a1_bytes))] := hD
    refine lv_aload_n hx hb dX3_step_45 rfl (lv_at hl 0 rfl) ?_
    refine lv_iconst (v := (0 : Int32)) hx hb dX3_step_46 (by decide) ?_
    refine va_put (D := (dC, dI)) (ci := 3) (v := .int (0 : Int32)) (ty := .int) (C := RX3) (T := TX3) (N := 5) hx hb hts in_X3 tyX3 tyX3_ok nmX3 hown hK hP hD hS 0 rfl rfl 4 (by decide) hL39 (fun _ h9 => h9) rfl (by decide +kernel) rfl rfl (Nat.le_of_ble_eq_true rfl) dX3_step_47 (fun H locs hP hD hS => ?_)
    have hP : va_P (dC, dI) vwCl [(h_this, .inr (3, [.ref h_draft, .int v_next, .int v_next, .int v_kind, .int (0 : Int32)])), (h_a1, .inr (7, [.ref h_a1_bytes, .int v_a1_length])), (h_a1_bytes, .inl (k_a1_bytes, 300, .inl v_a1_bytes))] H := hP
    have hD : va_D A [(h_this, .inr (3, [.ref h_draft, .int v_next, .int v_next, .int v_kind, .int (0 : Int32)])), (h_a1, .inr (7, [.ref h_a1_bytes, .int v_a1_length])), (h_a1_bytes, .inl (k_a1_bytes, 300, .inl v_a1_bytes))] := hD
    refine lv_aload_n hx hb dX3_step_50 rfl (lv_at hl 1 rfl) ?_
    refine lv_aload_n hx hb dX3_step_51 rfl (lv_at hl 0 rfl) ?_
    refine va_get (D := (dC, dI)) (ci := 3) (v := .int v_next) (C := RX3) (T := TX3) (N := 5) hx hb hts in_X3 hown hK hP 0 rfl rfl 1 (by decide) hL21 (fun _ h9 => h9) rfl dX3_step_52 ?_
    obtain ⟨z_55, hz_55, hF⟩ := gi_bind hF
    refine gRi (wc := [(h_a1, .inr (7, [.ref h_a1_bytes, .int v_a1_length])), (h_a1_bytes, .inl (k_a1_bytes, 300, .inl v_a1_bytes))]) (wr := [(h_this, .inr (3, [.ref h_draft, .int v_next, .int v_next, .int v_kind, .int (0 : Int32)]))]) (w1 := [(h_a1, .inr (7, [.ref h_a1_bytes, .int v_a1_length])), (h_a1_bytes, .inl (k_a1_bytes, 300, .inl v_a1_bytes))]) hP hD hS hA [1, 2] [0] rfl rfl (by decide) (by decide) (va_runV (As := [.int v_next]) (rest := []) CF (t_X7_byteAt l dC dI h_a1 h_a1_bytes v_a1_length k_a1_bytes v_a1_bytes H.size v_next N z_55 hz_55) cw74 (gPV (ci := 7) hP hD hK hN [1, 2] [0] (by decide) rfl rfl (q0 := 1) rfl rfl) rfl rfl hl.1 rfl (lv_room (Nat.le_of_ble_eq_true rfl)) dX3_step_55 ⟨Nat.zero_le _, Nat.zero_le _⟩) (fun H locs hP hD hS => ?_)
    have hP : va_P (dC, dI) vwCl [(h_this, .inr (3, [.ref h_draft, .int v_next, .int v_next, .int v_kind, .int (0 : Int32)])), (h_a1, .inr (7, [.ref h_a1_bytes, .int v_a1_length])), (h_a1_bytes, .inl (k_a1_bytes, 300, .inl v_a1_bytes))] H := hP
    have hD : va_D A [(h_this, .inr (3, [.ref h_draft, .int v_next, .int v_next, .int v_kind, .int (0 : Int32)])), (h_a1, .inr (7, [.ref h_a1_bytes, .int v_a1_length])), (h_a1_bytes, .inl (k_a1_bytes, 300, .inl v_a1_bytes))] := hD
    refine lv_istore_n (lv' := [(2, .int z_55), (0, .ref h_this), (1, .ref h_a1)]) hx hb dX3_step_58 rfl hl (by decide) rfl (fun ls hl => ?_)
    refine lv_iload_n hx hb dX3_step_59 rfl (lv_at hl 0 rfl) ?_
    refine lv_if_ge (tgt := 71) hx hb dX3_step_60 (by decide) (fun c_60 => ?_) (fun c_60 => ?_)
    · have hF := gi_t c_60 hF
      refine lv_iload_n hx hb dX3_step_71 rfl (lv_at hl 0 rfl) ?_
      obtain ⟨z_72, hz_72, hF⟩ := gi_bind hF
      refine gRi (wc := []) (wr := [(h_this, .inr (3, [.ref h_draft, .int v_next, .int v_next, .int v_kind, .int (0 : Int32)])), (h_a1, .inr (7, [.ref h_a1_bytes, .int v_a1_length])), (h_a1_bytes, .inl (k_a1_bytes, 300, .inl v_a1_bytes))]) (w1 := []) hP hD hS hA [] [0, 1, 2] rfl rfl (by decide) (by decide) (va_runS (As := [.int z_55]) (rest := []) CF (t_X3_isSmall l dC dI H.size z_55 N z_72 hz_72) cw78 (gPS hP hD hK hN [] [] (by decide) rfl rfl) rfl rfl hl.1 rfl (lv_room (Nat.le_of_ble_eq_true rfl)) dX3_step_72 ⟨Nat.zero_le _, Nat.zero_le _⟩) (fun H locs hP hD hS => ?_)
      have hP : va_P (dC, dI) vwCl [(h_this, .inr (3, [.ref h_draft, .int v_next, .int v_next, .int v_kind, .int (0 : Int32)])), (h_a1, .inr (7, [.ref h_a1_bytes, .int v_a1_length])), (h_a1_bytes, .inl (k_a1_bytes, 300, .inl v_a1_bytes))] H := hP
      have hD : va_D A [(h_this, .inr (3, [.ref h_draft, .int v_next, .int v_next, .int v_kind, .int (0 : Int32)])), (h_a1, .inr (7, [.ref h_a1_bytes, .int v_a1_length])), (h_a1_bytes, .inl (k_a1_bytes, 300, .inl v_a1_bytes))] := hD
      refine lv_if_eq (tgt := 86) hx hb dX3_step_75 (by decide) (fun c_75 => ?_) (fun c_75 => ?_)
      · have hF := gi_t c_75 hF
        refine lv_iload_n hx hb dX3_step_86 rfl (lv_at hl 0 rfl) ?_
        obtain ⟨z_87, hz_87, hF⟩ := gi_bind hF
        refine gRi (wc := []) (wr := [(h_this, .inr (3, [.ref h_draft, .int v_next, .int v_next, .int v_kind, .int (0 : Int32)])), (h_a1, .inr (7, [.ref h_a1_bytes, .int v_a1_length])), (h_a1_bytes, .inl (k_a1_bytes, 300, .inl v_a1_bytes))]) (w1 := []) hP hD hS hA [] [0, 1, 2] rfl rfl (by decide) (by decide) (va_runS (As := [.int z_55]) (rest := []) CF (t_X3_isDigit l dC dI H.size z_55 N z_87 hz_87) cw84 (gPS hP hD hK hN [] [] (by decide) rfl rfl) rfl rfl hl.1 rfl (lv_room (Nat.le_of_ble_eq_true rfl)) dX3_step_87 ⟨Nat.zero_le _, Nat.zero_le _⟩) (fun H locs hP hD hS => ?_)
        have hP : va_P (dC, dI) vwCl [(h_this, .inr (3, [.ref h_draft, .int v_next, .int v_next, .int v_kind, .int (0 : Int32)])), (h_a1, .inr (7, [.ref h_a1_bytes, .int v_a1_length])), (h_a1_bytes, .inl (k_a1_bytes, 300, .inl v_a1_bytes))] H := hP
        have hD : va_D A [(h_this, .inr (3, [.ref h_draft, .int v_next, .int v_next, .int v_kind, .int (0 : Int32)])), (h_a1, .inr (7, [.ref h_a1_bytes, .int v_a1_length])), (h_a1_bytes, .inl (k_a1_bytes, 300, .inl v_a1_bytes))] := hD
        refine lv_if_eq (tgt := 101) hx hb dX3_step_90 (by decide) (fun c_90 => ?_) (fun c_90 => ?_)
        · have hF := gi_t c_90 hF
          refine lv_aload_n hx hb dX3_step_101 rfl (lv_at hl 1 rfl) ?_
          refine lv_dup hx hb dX3_step_102 rfl ?_
          refine va_get (D := (dC, dI)) (ci := 3) (v := .int v_next) (C := RX3) (T := TX3) (N := 5) hx hb hts in_X3 hown hK hP 0 rfl rfl 1 (by decide) hL21 (fun _ h9 => h9) rfl dX3_step_103 ?_
          refine lv_iconst (v := (1 : Int32)) hx hb dX3_step_106 (by decide) ?_
          refine lv_iadd hx hb dX3_step_107 ?_
          refine va_put (D := (dC, dI)) (ci := 3) (v := .int (v_next + (1 : Int32))) (ty := .int) (C := RX3) (T := TX3) (N := 5) hx hb hts in_X3 tyX3 tyX3_ok nmX3 hown hK hP hD hS 0 rfl rfl 1 (by decide) hL21 (fun _ h9 => h9) rfl (by decide +kernel) rfl rfl (Nat.le_of_ble_eq_true rfl) dX3_step_108 (fun H locs hP hD hS => ?_)
          have hP : va_P (dC, dI) vwCl [(h_this, .inr (3, [.ref h_draft, .int (v_next + (1 : Int32)), .int v_next, .int v_kind, .int (0 : Int32)])), (h_a1, .inr (7, [.ref h_a1_bytes, .int v_a1_length])), (h_a1_bytes, .inl (k_a1_bytes, 300, .inl v_a1_bytes))] H := hP
          have hD : va_D A [(h_this, .inr (3, [.ref h_draft, .int (v_next + (1 : Int32)), .int v_next, .int v_kind, .int (0 : Int32)])), (h_a1, .inr (7, [.ref h_a1_bytes, .int v_a1_length])), (h_a1_bytes, .inl (k_a1_bytes, 300, .inl v_a1_bytes))] := hD
          refine lv_aload_n hx hb dX3_step_111 rfl (lv_at hl 1 rfl) ?_
          refine lv_iload_n hx hb dX3_step_112 rfl (lv_at hl 0 rfl) ?_
          refine lv_bipush (v := (65 : Int32)) hx hb dX3_step_113 (by decide) ?_
          refine lv_isub hx hb dX3_step_115 ?_
          refine va_put (D := (dC, dI)) (ci := 3) (v := .int (z_55 - (65 : Int32))) (ty := .int) (C := RX3) (T := TX3) (N := 5) hx hb hts in_X3 tyX3 tyX3_ok nmX3 hown hK hP hD hS 0 rfl rfl 4 (by decide) hL39 (fun _ h9 => h9) rfl (by decide +kernel) rfl rfl (Nat.le_of_ble_eq_true rfl) dX3_step_116 (fun H locs hP hD hS => ?_)
          have hP : va_P (dC, dI) vwCl [(h_this, .inr (3, [.ref h_draft, .int (v_next + (1 : Int32)), .int v_next, .int v_kind, .int (z_55 - (65 : Int32))])), (h_a1, .inr (7, [.ref h_a1_bytes, .int v_a1_length])), (h_a1_bytes, .inl (k_a1_bytes, 300, .inl v_a1_bytes))] H := hP
          have hD : va_D A [(h_this, .inr (3, [.ref h_draft, .int (v_next + (1 : Int32)), .int v_next, .int v_kind, .int (z_55 - (65 : Int32))])), (h_a1, .inr (7, [.ref h_a1_bytes, .int v_a1_length])), (h_a1_bytes, .inl (k_a1_bytes, 300, .inl v_a1_bytes))] := hD
          refine lv_aload_n hx hb dX3_step_119 rfl (lv_at hl 1 rfl) ?_
          refine lv_iload_n hx hb dX3_step_120 rfl (lv_at hl 0 rfl) ?_
          refine lv_bipush (v := (59 : Int32)) hx hb dX3_step_121 (by decide) ?_
          refine lv_icmp_ne (tgt := 130) hx hb dX3_step_123 (by decide) (fun c_123 => ?_) (fun c_123 => ?_)
          · have hF := gi_f c_123 hF
            refine lv_aload_n hx hb dX3_step_130 rfl (lv_at hl 1 rfl) ?_
            refine va_get (D := (dC, dI)) (ci := 3) (v := .int (z_55 - (65 : Int32))) (C := RX3) (T := TX3) (N := 5) hx hb hts in_X3 hown hK hP 0 rfl rfl 4 (by decide) hL39 (fun _ h9 => h9) rfl dX3_step_131 ?_
            refine lv_iconst (v := (0 : Int32)) hx hb dX3_step_134 (by decide) ?_
            refine lv_bipush (v := (15 : Int32)) hx hb dX3_step_135 (by decide) ?_
            obtain ⟨z_137, hz_137, hF⟩ := gi_bind hF
            refine gRi (wc := []) (wr := [(h_this, .inr (3, [.ref h_draft, .int (v_next + (1 : Int32)), .int v_next, .int v_kind, .int (z_55 - (65 : Int32))])), (h_a1, .inr (7, [.ref h_a1_bytes, .int v_a1_length])), (h_a1_bytes, .inl (k_a1_bytes, 300, .inl v_a1_bytes))]) (w1 := []) hP hD hS hA [] [0, 1, 2] rfl rfl (by decide) (by decide) (va_runSN (As := [.int (z_55 - (65 : Int32)), .int (0 : Int32), .int (15 : Int32)]) (rest := [.ref h_this]) CF (t_X9_within l dC dI H.size (z_55 - (65 : Int32)) (0 : Int32) (15 : Int32) N z_137 hz_137) cw90 (gPS hP hD hK hN [] [] (by decide) rfl rfl) rfl rfl hl.1 rfl (lv_room (Nat.le_of_ble_eq_true rfl)) dX3_step_137 ⟨Nat.zero_le _, Nat.zero_le _⟩) (fun H locs hP hD hS => ?_)
            have hP : va_P (dC, dI) vwCl [(h_this, .inr (3, [.ref h_draft, .int (v_next + (1 : Int32)), .int v_next, .int v_kind, .int (z_55 - (65 : Int32))])), (h_a1, .inr (7, [.ref h_a1_bytes, .int v_a1_length])), (h_a1_bytes, .inl (k_a1_bytes, 300, .inl v_a1_bytes))] H := hP
            have hD : va_D A [(h_this, .inr (3, [.ref h_draft, .int (v_next + (1 : Int32)), .int v_next, .int v_kind, .int (z_55 - (65 : Int32))])), (h_a1, .inr (7, [.ref h_a1_bytes, .int v_a1_length])), (h_a1_bytes, .inl (k_a1_bytes, 300, .inl v_a1_bytes))] := hD
            refine lv_if_eq (tgt := 147) hx hb dX3_step_140 (by decide) (fun c_140 => ?_) (fun c_140 => ?_)
            · have hF := gi_t c_140 hF
              refine lv_iconst (v := (5 : Int32)) hx hb dX3_step_147 (by decide) ?_
              exact k_148 (v_next + (1 : Int32)) v_next v_kind (z_55 - (65 : Int32)) (5 : Int32) _ _ _ hF hP hD hS (lv_sub hl [] rfl)
            · have hF := gi_f c_140 hF
              refine lv_iconst (v := (2 : Int32)) hx hb dX3_step_143 (by decide) ?_
              refine lv_goto (tgt := 148) hx hb dX3_step_144 (by decide) ?_
              exact k_148 (v_next + (1 : Int32)) v_next v_kind (z_55 - (65 : Int32)) (2 : Int32) _ _ _ hF hP hD hS (lv_sub hl [] rfl)
          · have hF := gi_t c_123 hF
            refine lv_iconst (v := (4 : Int32)) hx hb dX3_step_126 (by decide) ?_
            refine lv_goto (tgt := 148) hx hb dX3_step_127 (by decide) ?_
            exact k_148 (v_next + (1 : Int32)) v_next v_kind (z_55 - (65 : Int32)) (4 : Int32) _ _ _ hF hP hD hS (lv_sub hl [] rfl)
        · have hF := gi_f c_90 hF
          refine lv_aload_n hx hb dX3_step_93 rfl (lv_at hl 1 rfl) ?_
          refine lv_aload_n hx hb dX3_step_94 rfl (lv_at hl 2 rfl) ?_
          obtain ⟨z_95, hz_95, hF⟩ := gi_bind hF
          refine gRv (wc := [(h_this, .inr (3, [.ref h_draft, .int v_next, .int v_next, .int v_kind, .int (0 : Int32)])), (h_a1, .inr (7, [.ref h_a1_bytes, .int v_a1_length])), (h_a1_bytes, .inl (k_a1_bytes, 300, .inl v_a1_bytes))]) (wr := []) (w1 := [(h_this, .inr (3, [.ref h_draft, .int z_95.1, .int v_next, .int z_95.2.1, .int z_95.2.2])), (h_a1, .inr (7, [.ref h_a1_bytes, .int v_a1_length])), (h_a1_bytes, .inl (k_a1_bytes, 300, .inl v_a1_bytes))]) hP hD hS hA [0, 1, 2] [] rfl rfl (by decide) (by decide) (va_runV (As := [.ref h_a1]) (rest := []) CF (t_X3_readDigits l dC dI h_this h_draft v_next v_next v_kind (0 : Int32) h_a1 h_a1_bytes v_a1_length k_a1_bytes v_a1_bytes H.size  N z_95 hz_95) cw87 (gPV (ci := 3) hP hD hK hN [0, 1, 2] [0] (by decide) rfl rfl (q0 := 0) rfl rfl) rfl rfl hl.1 rfl (lv_room (Nat.le_of_ble_eq_true rfl)) dX3_step_95 ⟨Nat.zero_le _, Nat.zero_le _⟩) (fun H locs hP hD hS => ?_)
          have hP : va_P (dC, dI) vwCl [(h_this, .inr (3, [.ref h_draft, .int z_95.1, .int v_next, .int z_95.2.1, .int z_95.2.2])), (h_a1, .inr (7, [.ref h_a1_bytes, .int v_a1_length])), (h_a1_bytes, .inl (k_a1_bytes, 300, .inl v_a1_bytes))] H := hP
          have hD : va_D A [(h_this, .inr (3, [.ref h_draft, .int z_95.1, .int v_next, .int z_95.2.1, .int z_95.2.2])), (h_a1, .inr (7, [.ref h_a1_bytes, .int v_a1_length])), (h_a1_bytes, .inl (k_a1_bytes, 300, .inl v_a1_bytes))] := hD
          refine lv_goto (tgt := 151) hx hb dX3_step_98 (by decide) ?_
          have hF := Option.some.inj hF
          subst hF
          exact hret _ _ _ _ dX3_step_151 hP hD hS
      · have hF := gi_f c_75 hF
        refine lv_aload_n hx hb dX3_step_78 rfl (lv_at hl 1 rfl) ?_
        refine lv_aload_n hx hb dX3_step_79 rfl (lv_at hl 2 rfl) ?_
        obtain ⟨z_80, hz_80, hF⟩ := gi_bind hF
        refine gRv (wc := [(h_this, .inr (3, [.ref h_draft, .int v_next, .int v_next, .int v_kind, .int (0 : Int32)])), (h_a1, .inr (7, [.ref h_a1_bytes, .int v_a1_length])), (h_a1_bytes, .inl (k_a1_bytes, 300, .inl v_a1_bytes))]) (wr := []) (w1 := [(h_this, .inr (3, [.ref h_draft, .int z_80.1, .int v_next, .int z_80.2.1, .int z_80.2.2])), (h_a1, .inr (7, [.ref h_a1_bytes, .int v_a1_length])), (h_a1_bytes, .inl (k_a1_bytes, 300, .inl v_a1_bytes))]) hP hD hS hA [0, 1, 2] [] rfl rfl (by decide) (by decide) (va_runV (As := [.ref h_a1]) (rest := []) CF (t_X3_readWord l dC dI h_this h_draft v_next v_next v_kind (0 : Int32) h_a1 h_a1_bytes v_a1_length k_a1_bytes v_a1_bytes H.size  N z_80 hz_80) cw81 (gPV (ci := 3) hP hD hK hN [0, 1, 2] [0] (by decide) rfl rfl (q0 := 0) rfl rfl) rfl rfl hl.1 rfl (lv_room (Nat.le_of_ble_eq_true rfl)) dX3_step_80 ⟨Nat.zero_le _, Nat.zero_le _⟩) (fun H locs hP hD hS => ?_)
        have hP : va_P (dC, dI) vwCl [(h_this, .inr (3, [.ref h_draft, .int z_80.1, .int v_next, .int z_80.2.1, .int z_80.2.2])), (h_a1, .inr (7, [.ref h_a1_bytes, .int v_a1_length])), (h_a1_bytes, .inl (k_a1_bytes, 300, .inl v_a1_bytes))] H := hP
        have hD : va_D A [(h_this, .inr (3, [.ref h_draft, .int z_80.1, .int v_next, .int z_80.2.1, .int z_80.2.2])), (h_a1, .inr (7, [.ref h_a1_bytes, .int v_a1_length])), (h_a1_bytes, .inl (k_a1_bytes, 300, .inl v_a1_bytes))] := hD
        refine lv_goto (tgt := 151) hx hb dX3_step_83 (by decide) ?_
        have hF := Option.some.inj hF
        subst hF
        exact hret _ _ _ _ dX3_step_151 hP hD hS
    · have hF := gi_f c_60 hF
      refine lv_aload_n hx hb dX3_step_63 rfl (lv_at hl 1 rfl) ?_
      refine lv_iconst (v := (0 : Int32)) hx hb dX3_step_64 (by decide) ?_
      refine va_put (D := (dC, dI)) (ci := 3) (v := .int (0 : Int32)) (ty := .int) (C := RX3) (T := TX3) (N := 5) hx hb hts in_X3 tyX3 tyX3_ok nmX3 hown hK hP hD hS 0 rfl rfl 3 (by decide) hL36 (fun _ h9 => h9) rfl (by decide +kernel) rfl rfl (Nat.le_of_ble_eq_true rfl) dX3_step_65 (fun H locs hP hD hS => ?_)
      have hP : va_P (dC, dI) vwCl [(h_this, .inr (3, [.ref h_draft, .int v_next, .int v_next, .int (0 : Int32), .int (0 : Int32)])), (h_a1, .inr (7, [.ref h_a1_bytes, .int v_a1_length])), (h_a1_bytes, .inl (k_a1_bytes, 300, .inl v_a1_bytes))] H := hP
      have hD : va_D A [(h_this, .inr (3, [.ref h_draft, .int v_next, .int v_next, .int (0 : Int32), .int (0 : Int32)])), (h_a1, .inr (7, [.ref h_a1_bytes, .int v_a1_length])), (h_a1_bytes, .inl (k_a1_bytes, 300, .inl v_a1_bytes))] := hD
      refine lv_goto (tgt := 151) hx hb dX3_step_68 (by decide) ?_
      have hF := Option.some.inj hF
      subst hF
      exact hret _ _ _ _ dX3_step_151 hP hD hS
  have k_0 : ∀ (n : Nat) (v_next : Int32) (v_start : Int32) (v_kind : Int32) (v_value : Int32) (H : Heap) (locs : List Loc) (ls : Array Slot), f_X3_step_0 N v_a1_length v_a1_bytes n v_next v_start v_kind v_value = some out → va_P (dC, dI) vwCl [(h_this, .inr (3, [.ref h_draft, .int v_next, .int v_start, .int v_kind, .int v_value])), (h_a1, .inr (7, [.ref h_a1_bytes, .int v_a1_length])), (h_a1_bytes, .inl (k_a1_bytes, 300, .inl v_a1_bytes))] H → va_D A [(h_this, .inr (3, [.ref h_draft, .int v_next, .int v_start, .int v_kind, .int v_value])), (h_a1, .inr (7, [.ref h_a1_bytes, .int v_a1_length])), (h_a1_bytes, .inl (k_a1_bytes, 300, .inl v_a1_bytes))] → va_S A s.heap H locs → lv_has ls 3 [(0, .ref h_this), (1, .ref h_a1)] → W p l e ({ frames := 3, cells := 0, slots := 0, locals := 65 } : Room) s m args below meth c H locs 0 0 Q (F0 m 0 ls []) := by
    intro n
    induction n with
    | zero =>
      intro v_next v_start v_kind v_value H locs ls hF
      have hF : (none : Option O_X3_step) = some out := hF
      cases hF
    | succ n ih =>
      intro v_next v_start v_kind v_value H locs ls hF hP hD hS hl
      have hF : s_X3_step_0 N v_a1_length v_a1_bytes (f_X3_step_0 N v_a1_length v_a1_bytes n) v_next v_start v_kind v_value = some out := hF
      generalize f_X3_step_0 N v_a1_length v_a1_bytes n = r_0 at hF ih
      have g_0 : ∀ (v_next : Int32) (v_start : Int32) (v_kind : Int32) (v_value : Int32) (H : Heap) (locs : List Loc) (ls : Array Slot), r_0 v_next v_start v_kind v_value = some out → va_P (dC, dI) vwCl [(h_this, .inr (3, [.ref h_draft, .int v_next, .int v_start, .int v_kind, .int v_value])), (h_a1, .inr (7, [.ref h_a1_bytes, .int v_a1_length])), (h_a1_bytes, .inl (k_a1_bytes, 300, .inl v_a1_bytes))] H → va_D A [(h_this, .inr (3, [.ref h_draft, .int v_next, .int v_start, .int v_kind, .int v_value])), (h_a1, .inr (7, [.ref h_a1_bytes, .int v_a1_length])), (h_a1_bytes, .inl (k_a1_bytes, 300, .inl v_a1_bytes))] → va_S A s.heap H locs → lv_has ls 3 [(0, .ref h_this), (1, .ref h_a1)] → W p l e ({ frames := 3, cells := 0, slots := 0, locals := 65 } : Room) s m args below meth c H locs 0 0 Q (F0 m 0 ls []) := ih
      clear ih
      unfold s_X3_step_0 at hF
      refine lv_aload_n hx hb dX3_step_0 rfl (lv_at hl 0 rfl) ?_
      refine va_get (D := (dC, dI)) (ci := 3) (v := .int v_next) (C := RX3) (T := TX3) (N := 5) hx hb hts in_X3 hown hK hP 0 rfl rfl 1 (by decide) hL21 (fun _ h9 => h9) rfl dX3_step_1 ?_
      refine lv_aload_n hx hb dX3_step_4 rfl (lv_at hl 1 rfl) ?_
      refine va_getN (D := (dC, dI)) (ci := 7) (v := .int v_a1_length) (C := RX7) (T := TX7) (N := 2) hx hb hts in_X7 hown hK hP 1 rfl rfl 1 (by decide) hL69 (fun _ h9 => h9) rfl dX3_step_5 ?_
      refine lv_icmp_ge (tgt := 37) hx hb dX3_step_8 (by decide) (fun c_8 => ?_) (fun c_8 => ?_)
      · have hF := gi_t c_8 hF
        exact k_37 v_next v_start v_kind v_value _ _ _ hF hP hD hS hl
      · have hF := gi_f c_8 hF
        refine lv_aload_n hx hb dX3_step_11 rfl (lv_at hl 1 rfl) ?_
        refine lv_aload_n hx hb dX3_step_12 rfl (lv_at hl 0 rfl) ?_
        refine va_get (D := (dC, dI)) (ci := 3) (v := .int v_next) (C := RX3) (T := TX3) (N := 5) hx hb hts in_X3 hown hK hP 0 rfl rfl 1 (by decide) hL21 (fun _ h9 => h9) rfl dX3_step_13 ?_
        obtain ⟨z_16, hz_16, hF⟩ := gi_bind hF
        refine gRi (wc := [(h_a1, .inr (7, [.ref h_a1_bytes, .int v_a1_length])), (h_a1_bytes, .inl (k_a1_bytes, 300, .inl v_a1_bytes))]) (wr := [(h_this, .inr (3, [.ref h_draft, .int v_next, .int v_start, .int v_kind, .int v_value]))]) (w1 := [(h_a1, .inr (7, [.ref h_a1_bytes, .int v_a1_length])), (h_a1_bytes, .inl (k_a1_bytes, 300, .inl v_a1_bytes))]) hP hD hS hA [1, 2] [0] rfl rfl (by decide) (by decide) (va_runV (As := [.int v_next]) (rest := []) CF (t_X7_byteAt l dC dI h_a1 h_a1_bytes v_a1_length k_a1_bytes v_a1_bytes H.size v_next N z_16 hz_16) cw74 (gPV (ci := 7) hP hD hK hN [1, 2] [0] (by decide) rfl rfl (q0 := 1) rfl rfl) rfl rfl hl.1 rfl (lv_room (Nat.le_of_ble_eq_true rfl)) dX3_step_16 ⟨Nat.zero_le _, Nat.zero_le _⟩) (fun H locs hP hD hS => ?_)
        have hP : va_P (dC, dI) vwCl [(h_this, .inr (3, [.ref h_draft, .int v_next, .int v_start, .int v_kind, .int v_value])), (h_a1, .inr (7, [.ref h_a1_bytes, .int v_a1_length])), (h_a1_bytes, .inl (k_a1_bytes, 300, .inl v_a1_bytes))] H := hP
        have hD : va_D A [(h_this, .inr (3, [.ref h_draft, .int v_next, .int v_start, .int v_kind, .int v_value])), (h_a1, .inr (7, [.ref h_a1_bytes, .int v_a1_length])), (h_a1_bytes, .inl (k_a1_bytes, 300, .inl v_a1_bytes))] := hD
        refine lv_bipush (v := (32 : Int32)) hx hb dX3_step_19 (by decide) ?_
        refine lv_icmp_ne (tgt := 37) hx hb dX3_step_21 (by decide) (fun c_21 => ?_) (fun c_21 => ?_)
        · have hF := gi_f c_21 hF
          exact k_37 v_next v_start v_kind v_value _ _ _ hF hP hD hS hl
        · have hF := gi_t c_21 hF
          refine lv_aload_n hx hb dX3_step_24 rfl (lv_at hl 0 rfl) ?_
          refine lv_dup hx hb dX3_step_25 rfl ?_
          refine va_get (D := (dC, dI)) (ci := 3) (v := .int v_next) (C := RX3) (T := TX3) (N := 5) hx hb hts in_X3 hown hK hP 0 rfl rfl 1 (by decide) hL21 (fun _ h9 => h9) rfl dX3_step_26 ?_
          refine lv_iconst (v := (1 : Int32)) hx hb dX3_step_29 (by decide) ?_
          refine lv_iadd hx hb dX3_step_30 ?_
          refine va_put (D := (dC, dI)) (ci := 3) (v := .int (v_next + (1 : Int32))) (ty := .int) (C := RX3) (T := TX3) (N := 5) hx hb hts in_X3 tyX3 tyX3_ok nmX3 hown hK hP hD hS 0 rfl rfl 1 (by decide) hL21 (fun _ h9 => h9) rfl (by decide +kernel) rfl rfl (Nat.le_of_ble_eq_true rfl) dX3_step_31 (fun H locs hP hD hS => ?_)
          have hP : va_P (dC, dI) vwCl [(h_this, .inr (3, [.ref h_draft, .int (v_next + (1 : Int32)), .int v_start, .int v_kind, .int v_value])), (h_a1, .inr (7, [.ref h_a1_bytes, .int v_a1_length])), (h_a1_bytes, .inl (k_a1_bytes, 300, .inl v_a1_bytes))] H := hP
          have hD : va_D A [(h_this, .inr (3, [.ref h_draft, .int (v_next + (1 : Int32)), .int v_start, .int v_kind, .int v_value])), (h_a1, .inr (7, [.ref h_a1_bytes, .int v_a1_length])), (h_a1_bytes, .inl (k_a1_bytes, 300, .inl v_a1_bytes))] := hD
          refine lv_goto (tgt := 0) hx hb dX3_step_34 (by decide) ?_
          exact g_0 (v_next + (1 : Int32)) v_start v_kind v_value _ _ _ hF hP hD hS hl
  unfold f_X3_step at hF
  exact k_0 N v_next v_start v_kind v_value _ _ _ hF hP hD hS hl
abbrev O_X3_mayBegin : Type := Int32
def f_X3_mayBegin (N : Nat) (v_draft_items : Int32) (v_draft_inputs : Int32) (v_draft_muls : Int32) (x1 : Int32) : Option O_X3_mayBegin :=
  if x1 = (5 : Int32) then (some ((1 : Int32))) else (if v_draft_items < (15 : Int32) then (if x1 = 0 then (if (4 : Int32) ≤ v_draft_inputs then (some ((0 : Int32))) else (some ((1 : Int32)))) else (if x1 = (4 : Int32) then (if (4 : Int32) ≤ v_draft_muls then (some ((0 : Int32))) else (some ((1 : Int32)))) else (some ((1 : Int32))))) else (some ((0 : Int32))))
set_option maxHeartbeats 4000000 in
set_option maxRecDepth 100000 in
theorem t_X3_mayBegin (l : Launch) (dC : Nat → ClassId) (dI : Nat → Nat → Nat) (h_this : Nat) (h_draft : Nat) (v_next : Int32) (v_start : Int32) (v_kind : Int32) (v_value : Int32) (h_draft_cells : Nat) (h_draft_depths : Nat) (v_draft_became : Int32) (v_draft_items : Int32) (v_draft_inputs : Int32) (v_draft_muls : Int32) (sz : Nat) (x1 : Int32) (N : Nat) (out : O_X3_mayBegin) (hF : f_X3_mayBegin N v_draft_items v_draft_inputs v_draft_muls x1 = some out) : gMi l yX3_mayBegin wsX3_mayBegin ({ frames := 0, cells := 0, slots := 0, locals := 0 } : Room) [.ref h_this, .int x1] (dC, dI) [(h_this, .inr (3, [.ref h_draft, .int v_next, .int v_start, .int v_kind, .int v_value])), (h_draft, .inr (2, [.ref h_draft_cells, .ref h_draft_depths, .int v_draft_became, .int v_draft_items, .int v_draft_inputs, .int v_draft_muls]))] [] sz [(h_this, .inr (3, [.ref h_draft, .int v_next, .int v_start, .int v_kind, .int v_value])), (h_draft, .inr (2, [.ref h_draft_cells, .ref h_draft_depths, .int v_draft_became, .int v_draft_items, .int v_draft_inputs, .int v_draft_muls]))] out := by
  refine gEz (cc := cX3_mayBegin) (maxL := 2) (by decide) rfl (Nat.le_of_ble_eq_true rfl) ?_
  intro p e s m args below meth c Q A ls CF hK hN hA hret hP hD hS hl
  have hx := CF.1
  have hb := CF.2.1
  have hml := CF.2.2.1
  have hown : s.vm.findClass RX3 = some m.cls := CF.2.2.2.1
  have hts := CF.2.2.2.2
  have hl : lv_has ls 2 [(0, .ref h_this), (1, .int x1)] := hl
  have in_X3 : ∀ w ∈ wsX30, w ∈ wsX3_mayBegin := fun w h => List.mem_cons_of_mem _ (List.mem_append_left _ (List.mem_append_right _ h))
  have hL12 : (Cond.fieldLink RX3 12 "DustSums$Reader" "draft" "LDustSums$Program;").before args s = true := hts (.fieldLink RX3 12 "DustSums$Reader" "draft" "LDustSums$Program;") (List.mem_of_getElem? (i := 1) rfl)
  have in_X2 : ∀ w ∈ wsX20, w ∈ wsX3_mayBegin := fun w h => List.mem_cons_of_mem _ (List.mem_append_right _ h)
  have hL60 : (Cond.fieldLinkNest RX3 60 "DustSums$Program" "items" "I" "DustSums").before args s = true := va_Nw.use rfl (hN.1 (RX3, 60, "DustSums$Program", "items", "I", "DustSums") (by decide +kernel))
  have hL66 : (Cond.fieldLinkNest RX3 66 "DustSums$Program" "muls" "I" "DustSums").before args s = true := va_Nw.use rfl (hN.1 (RX3, 66, "DustSums$Program", "muls", "I", "DustSums") (by decide +kernel))
  have hL63 : (Cond.fieldLinkNest RX3 63 "DustSums$Program" "inputs" "I" "DustSums").before args s = true := va_Nw.use rfl (hN.1 (RX3, 63, "DustSums$Program", "inputs", "I", "DustSums") (by decide +kernel))
  unfold f_X3_mayBegin at hF
  refine lv_iload_n hx hb dX3_mayBegin_0 rfl (lv_at hl 1 rfl) ?_
  refine lv_iconst (v := (5 : Int32)) hx hb dX3_mayBegin_1 (by decide) ?_
  refine lv_icmp_ne (tgt := 7) hx hb dX3_mayBegin_2 (by decide) (fun c_2 => ?_) (fun c_2 => ?_)
  · have hF := gi_f c_2 hF
    refine lv_aload_n hx hb dX3_mayBegin_7 rfl (lv_at hl 0 rfl) ?_
    refine va_get (D := (dC, dI)) (ci := 3) (v := .ref h_draft) (C := RX3) (T := TX3) (N := 5) hx hb hts in_X3 hown hK hP 0 rfl rfl 0 (by decide) hL12 (fun _ h9 => h9) rfl dX3_mayBegin_8 ?_
    refine va_getN (D := (dC, dI)) (ci := 2) (v := .int v_draft_items) (C := RX2) (T := TX2) (N := 6) hx hb hts in_X2 hown hK hP 1 rfl rfl 3 (by decide) hL60 (fun _ h9 => h9) rfl dX3_mayBegin_11 ?_
    refine lv_bipush (v := (15 : Int32)) hx hb dX3_mayBegin_14 (by decide) ?_
    refine lv_icmp_lt (tgt := 21) hx hb dX3_mayBegin_16 (by decide) (fun c_16 => ?_) (fun c_16 => ?_)
    · have hF := gi_t c_16 hF
      refine lv_iload_n hx hb dX3_mayBegin_21 rfl (lv_at hl 1 rfl) ?_
      refine lv_if_ne (tgt := 42) hx hb dX3_mayBegin_22 (by decide) (fun c_22 => ?_) (fun c_22 => ?_)
      · have hF := gi_f c_22 hF
        refine lv_iload_n hx hb dX3_mayBegin_42 rfl (lv_at hl 1 rfl) ?_
        refine lv_iconst (v := (4 : Int32)) hx hb dX3_mayBegin_43 (by decide) ?_
        refine lv_icmp_ne (tgt := 58) hx hb dX3_mayBegin_44 (by decide) (fun c_44 => ?_) (fun c_44 => ?_)
        · have hF := gi_f c_44 hF
          refine lv_iconst (v := (1 : Int32)) hx hb dX3_mayBegin_58 (by decide) ?_
          refine lv_goto (tgt := 63) hx hb dX3_mayBegin_59 (by decide) ?_
          have hF := Option.some.inj hF
          subst hF
          exact hret (show (1 : Int32) &&& 1 = (1 : Int32) by decide) _ _ _ _ dX3_mayBegin_63 hP hD hS
        · have hF := gi_t c_44 hF
          refine lv_aload_n hx hb dX3_mayBegin_47 rfl (lv_at hl 0 rfl) ?_
          refine va_get (D := (dC, dI)) (ci := 3) (v := .ref h_draft) (C := RX3) (T := TX3) (N := 5) hx hb hts in_X3 hown hK hP 0 rfl rfl 0 (by decide) hL12 (fun _ h9 => h9) rfl dX3_mayBegin_48 ?_
          refine va_getN (D := (dC, dI)) (ci := 2) (v := .int v_draft_muls) (C := RX2) (T := TX2) (N := 6) hx hb hts in_X2 hown hK hP 1 rfl rfl 5 (by decide) hL66 (fun _ h9 => h9) rfl dX3_mayBegin_51 ?_
          refine lv_iconst (v := (4 : Int32)) hx hb dX3_mayBegin_54 (by decide) ?_
          refine lv_icmp_ge (tgt := 62) hx hb dX3_mayBegin_55 (by decide) (fun c_55 => ?_) (fun c_55 => ?_)
          · have hF := gi_t c_55 hF
            refine lv_iconst (v := (0 : Int32)) hx hb dX3_mayBegin_62 (by decide) ?_
            have hF := Option.some.inj hF
            subst hF
            exact hret (show (0 : Int32) &&& 1 = (0 : Int32) by decide) _ _ _ _ dX3_mayBegin_63 hP hD hS
          · have hF := gi_f c_55 hF
            refine lv_iconst (v := (1 : Int32)) hx hb dX3_mayBegin_58 (by decide) ?_
            refine lv_goto (tgt := 63) hx hb dX3_mayBegin_59 (by decide) ?_
            have hF := Option.some.inj hF
            subst hF
            exact hret (show (1 : Int32) &&& 1 = (1 : Int32) by decide) _ _ _ _ dX3_mayBegin_63 hP hD hS
      · have hF := gi_t c_22 hF
        refine lv_aload_n hx hb dX3_mayBegin_25 rfl (lv_at hl 0 rfl) ?_
        refine va_get (D := (dC, dI)) (ci := 3) (v := .ref h_draft) (C := RX3) (T := TX3) (N := 5) hx hb hts in_X3 hown hK hP 0 rfl rfl 0 (by decide) hL12 (fun _ h9 => h9) rfl dX3_mayBegin_26 ?_
        refine va_getN (D := (dC, dI)) (ci := 2) (v := .int v_draft_inputs) (C := RX2) (T := TX2) (N := 6) hx hb hts in_X2 hown hK hP 1 rfl rfl 4 (by decide) hL63 (fun _ h9 => h9) rfl dX3_mayBegin_29 ?_
        refine lv_iconst (v := (4 : Int32)) hx hb dX3_mayBegin_32 (by decide) ?_
        refine lv_icmp_ge (tgt := 40) hx hb dX3_mayBegin_33 (by decide) (fun c_33 => ?_) (fun c_33 => ?_)
        · have hF := gi_t c_33 hF
          refine lv_iconst (v := (0 : Int32)) hx hb dX3_mayBegin_40 (by decide) ?_
          have hF := Option.some.inj hF
          subst hF
          exact hret (show (0 : Int32) &&& 1 = (0 : Int32) by decide) _ _ _ _ dX3_mayBegin_41 hP hD hS
        · have hF := gi_f c_33 hF
          refine lv_iconst (v := (1 : Int32)) hx hb dX3_mayBegin_36 (by decide) ?_
          refine lv_goto (tgt := 41) hx hb dX3_mayBegin_37 (by decide) ?_
          have hF := Option.some.inj hF
          subst hF
          exact hret (show (1 : Int32) &&& 1 = (1 : Int32) by decide) _ _ _ _ dX3_mayBegin_41 hP hD hS
    · have hF := gi_f c_16 hF
      refine lv_iconst (v := (0 : Int32)) hx hb dX3_mayBegin_19 (by decide) ?_
      have hF := Option.some.inj hF
      subst hF
      exact hret (show (0 : Int32) &&& 1 = (0 : Int32) by decide) _ _ _ _ dX3_mayBegin_20 hP hD hS
  · have hF := gi_t c_2 hF
    refine lv_iconst (v := (1 : Int32)) hx hb dX3_mayBegin_5 (by decide) ?_
    have hF := Option.some.inj hF
    subst hF
    exact hret (show (1 : Int32) &&& 1 = (1 : Int32) by decide) _ _ _ _ dX3_mayBegin_6 hP hD hS
abbrev O_X3_readUsed : Type := Int32 × Int32 × Int32 × Int32 × Int32
def f_X3_readUsed (N : Nat) (v_draft_became : Int32) (v_a1_length : Int32) (v_a1_bytes : Nat → Int32) (v_next : Int32) (v_start : Int32) (v_kind : Int32) (v_value : Int32) : Option O_X3_readUsed :=
  (f_X3_step N v_a1_length v_a1_bytes v_next v_start v_kind v_value).bind (fun z_2 => if z_2.2.2.1 = (2 : Int32) then ((f_X2_hasBecome N v_draft_became z_2.2.2.2).bind (fun z_21 => if z_21 = 0 then (some ((-1 : Int32), z_2.1, z_2.2.1, z_2.2.2.1, z_2.2.2.2)) else (some (z_2.2.2.2, z_2.1, z_2.2.1, z_2.2.2.1, z_2.2.2.2)))) else (some ((-1 : Int32), z_2.1, z_2.2.1, z_2.2.2.1, z_2.2.2.2)))
set_option maxHeartbeats 4000000 in
set_option maxRecDepth 100000 in
theorem t_X3_readUsed (l : Launch) (dC : Nat → ClassId) (dI : Nat → Nat → Nat) (h_this : Nat) (h_draft : Nat) (v_next : Int32) (v_start : Int32) (v_kind : Int32) (v_value : Int32) (h_draft_cells : Nat) (h_draft_depths : Nat) (v_draft_became : Int32) (v_draft_items : Int32) (v_draft_inputs : Int32) (v_draft_muls : Int32) (h_a1 : Nat) (h_a1_bytes : Nat) (v_a1_length : Int32) (k_a1_bytes : ClassId) (v_a1_bytes : Nat → Int32) (sz : Nat) (N : Nat) (out : O_X3_readUsed) (hF : f_X3_readUsed N v_draft_became v_a1_length v_a1_bytes v_next v_start v_kind v_value = some out) : gMi l yX3_readUsed wsX3_readUsed ({ frames := 4, cells := 0, slots := 0, locals := 87 } : Room) [.ref h_this, .ref h_a1] (dC, dI) [(h_this, .inr (3, [.ref h_draft, .int v_next, .int v_start, .int v_kind, .int v_value])), (h_draft, .inr (2, [.ref h_draft_cells, .ref h_draft_depths, .int v_draft_became, .int v_draft_items, .int v_draft_inputs, .int v_draft_muls])), (h_a1, .inr (7, [.ref h_a1_bytes, .int v_a1_length])), (h_a1_bytes, .inl (k_a1_bytes, 300, .inl v_a1_bytes))] [(k_a1_bytes, .byte)] sz [(h_this, .inr (3, [.ref h_draft, .int out.2.1, .int out.2.2.1, .int out.2.2.2.1, .int out.2.2.2.2])), (h_draft, .inr (2, [.ref h_draft_cells, .ref h_draft_depths, .int v_draft_became, .int v_draft_items, .int v_draft_inputs, .int v_draft_muls])), (h_a1, .inr (7, [.ref h_a1_bytes, .int v_a1_length])), (h_a1_bytes, .inl (k_a1_bytes, 300, .inl v_a1_bytes))] out.1 := by
  refine gEi (cc := cX3_readUsed) (maxL := 2) (by decide) rfl (Nat.le_of_ble_eq_true rfl) ?_
  intro p e s m args below meth c Q A ls CF hK hN hA hret hP hD hS hl
  have hx := CF.1
  have hb := CF.2.1
  have hml := CF.2.2.1
  have hown : s.vm.findClass RX3 = some m.cls := CF.2.2.2.1
  have hts := CF.2.2.2.2
  have hl : lv_has ls 2 [(0, .ref h_this), (1, .ref h_a1)] := hl
  have cw32 : CallW ({ frames := 4, cells := 0, slots := 0, locals := 87 } : Room) s args RX3 RX3 32 yX3_step cX3_step 3 none wsX3_step ({ frames := 3, cells := 0, slots := 0, locals := 65 } : Room) 0 0 1 := cwV 1 hts gX3_readUsed_X3_step rfl rfl rfl (by decide +kernel) ⟨Nat.le_of_ble_eq_true rfl, Nat.le_of_ble_eq_true rfl⟩
  have in_X3 : ∀ w ∈ wsX30, w ∈ wsX3_readUsed := fun w h => List.mem_cons_of_mem _ (List.mem_append_left _ (List.mem_append_left _ (List.mem_append_right _ h)))
  have hL36 : (Cond.fieldLink RX3 36 "DustSums$Reader" "kind" "I").before args s = true := hts (.fieldLink RX3 36 "DustSums$Reader" "kind" "I") (List.mem_of_getElem? (i := 1) rfl)
  have hL12 : (Cond.fieldLink RX3 12 "DustSums$Reader" "draft" "LDustSums$Program;").before args s = true := hts (.fieldLink RX3 12 "DustSums$Reader" "draft" "LDustSums$Program;") (List.mem_of_getElem? (i := 2) rfl)
  have hL39 : (Cond.fieldLink RX3 39 "DustSums$Reader" "value" "I").before args s = true := hts (.fieldLink RX3 39 "DustSums$Reader" "value" "I") (List.mem_of_getElem? (i := 3) rfl)
  have cw46 : CallW ({ frames := 4, cells := 0, slots := 0, locals := 87 } : Room) s args RX3 RX2 46 yX2_hasBecome cX2_hasBecome 2 (some .boolean) wsX2_hasBecome ({ frames := 0, cells := 0, slots := 0, locals := 0 } : Room) 0 0 1 := cwV 1 hts gX3_readUsed_X2_hasBecome rfl rfl rfl (by decide +kernel) ⟨Nat.le_of_ble_eq_true rfl, Nat.le_of_ble_eq_true rfl⟩
  unfold f_X3_readUsed at hF
  refine lv_aload_n hx hb dX3_readUsed_0 rfl (lv_at hl 0 rfl) ?_
  refine lv_aload_n hx hb dX3_readUsed_1 rfl (lv_at hl 1 rfl) ?_
  obtain ⟨z_2, hz_2, hF⟩ := gi_bind hF
  refine gRv (wc := [(h_this, .inr (3, [.ref h_draft, .int v_next, .int v_start, .int v_kind, .int v_value])), (h_a1, .inr (7, [.ref h_a1_bytes, .int v_a1_length])), (h_a1_bytes, .inl (k_a1_bytes, 300, .inl v_a1_bytes))]) (wr := [(h_draft, .inr (2, [.ref h_draft_cells, .ref h_draft_depths, .int v_draft_became, .int v_draft_items, .int v_draft_inputs, .int v_draft_muls]))]) (w1 := [(h_this, .inr (3, [.ref h_draft, .int z_2.1, .int z_2.2.1, .int z_2.2.2.1, .int z_2.2.2.2])), (h_a1, .inr (7, [.ref h_a1_bytes, .int v_a1_length])), (h_a1_bytes, .inl (k_a1_bytes, 300, .inl v_a1_bytes))]) hP hD hS hA [0, 2, 3] [1] rfl rfl (by decide) (by decide) (va_runV (As := [.ref h_a1]) (rest := []) CF (t_X3_step l dC dI h_this h_draft v_next v_start v_kind v_value h_a1 h_a1_bytes v_a1_length k_a1_bytes v_a1_bytes s.heap.size  N z_2 hz_2) cw32 (gPV (ci := 3) hP hD hK hN [0, 2, 3] [0] (by decide) rfl rfl (q0 := 0) rfl rfl) rfl rfl hl.1 rfl (lv_room (Nat.le_of_ble_eq_true rfl)) dX3_readUsed_2 ⟨Nat.zero_le _, Nat.zero_le _⟩) (fun H locs hP hD hS => ?_)
  have hP : va_P (dC, dI) vwCl [(h_draft, .inr (2, [.ref h_draft_cells, .ref h_draft_depths, .int v_draft_became, .int v_draft_items, .int v_draft_inputs, .int v_draft_muls])), (h_this, .inr (3, [.ref h_draft, .int z_2.1, .int z_2.2.1, .int z_2.2.2.1, .int z_2.2.2.2])), (h_a1, .inr (7, [.ref h_a1_bytes, .int v_a1_length])), (h_a1_bytes, .inl (k_a1_bytes, 300, .inl v_a1_bytes))] H := hP
  have hD : va_D A [(h_draft, .inr (2, [.ref h_draft_cells, .ref h_draft_depths, .int v_draft_became, .int v_draft_items, .int v_draft_inputs, .int v_draft_muls])), (h_this, .inr (3, [.ref h_draft, .int z_2.1, .int z_2.2.1, .int z_2.2.2.1, .int z_2.2.2.2])), (h_a1, .inr (7, [.ref h_a1_bytes, .int v_a1_length])), (h_a1_bytes, .inl (k_a1_bytes, 300, .inl v_a1_bytes))] := hD
  refine lv_aload_n hx hb dX3_readUsed_5 rfl (lv_at hl 0 rfl) ?_
  refine va_get (D := (dC, dI)) (ci := 3) (v := .int z_2.2.2.1) (C := RX3) (T := TX3) (N := 5) hx hb hts in_X3 hown hK hP 1 rfl rfl 3 (by decide) hL36 (fun _ h9 => h9) rfl dX3_readUsed_6 ?_
  refine lv_iconst (v := (2 : Int32)) hx hb dX3_readUsed_9 (by decide) ?_
  refine lv_icmp_ne (tgt := 34) hx hb dX3_readUsed_10 (by decide) (fun c_10 => ?_) (fun c_10 => ?_)
  · have hF := gi_f c_10 hF
    refine lv_iconst (v := (-1 : Int32)) hx hb dX3_readUsed_34 (by decide) ?_
    have hF := Option.some.inj hF
    subst hF
    exact hret _ _ _ _ dX3_readUsed_35 (hP.sub [1, 0, 2, 3] rfl) (hD.sub [1, 0, 2, 3] (by decide) rfl) hS
  · have hF := gi_t c_10 hF
    refine lv_aload_n hx hb dX3_readUsed_13 rfl (lv_at hl 0 rfl) ?_
    refine va_get (D := (dC, dI)) (ci := 3) (v := .ref h_draft) (C := RX3) (T := TX3) (N := 5) hx hb hts in_X3 hown hK hP 1 rfl rfl 0 (by decide) hL12 (fun _ h9 => h9) rfl dX3_readUsed_14 ?_
    refine lv_aload_n hx hb dX3_readUsed_17 rfl (lv_at hl 0 rfl) ?_
    refine va_get (D := (dC, dI)) (ci := 3) (v := .int z_2.2.2.2) (C := RX3) (T := TX3) (N := 5) hx hb hts in_X3 hown hK hP 1 rfl rfl 4 (by decide) hL39 (fun _ h9 => h9) rfl dX3_readUsed_18 ?_
    obtain ⟨z_21, hz_21, hF⟩ := gi_bind hF
    refine gRi (wc := [(h_draft, .inr (2, [.ref h_draft_cells, .ref h_draft_depths, .int v_draft_became, .int v_draft_items, .int v_draft_inputs, .int v_draft_muls]))]) (wr := [(h_this, .inr (3, [.ref h_draft, .int z_2.1, .int z_2.2.1, .int z_2.2.2.1, .int z_2.2.2.2])), (h_a1, .inr (7, [.ref h_a1_bytes, .int v_a1_length])), (h_a1_bytes, .inl (k_a1_bytes, 300, .inl v_a1_bytes))]) (w1 := [(h_draft, .inr (2, [.ref h_draft_cells, .ref h_draft_depths, .int v_draft_became, .int v_draft_items, .int v_draft_inputs, .int v_draft_muls]))]) hP hD hS hA [0] [1, 2, 3] rfl rfl (by decide) (by decide) (va_runV (As := [.int z_2.2.2.2]) (rest := []) CF (t_X2_hasBecome l dC dI h_draft h_draft_cells h_draft_depths v_draft_became v_draft_items v_draft_inputs v_draft_muls H.size z_2.2.2.2 N z_21 hz_21) cw46 (gPV (ci := 2) hP hD hK hN [0] [] (by decide) rfl rfl (q0 := 0) rfl rfl) rfl rfl hl.1 rfl (lv_room (Nat.le_of_ble_eq_true rfl)) dX3_readUsed_21 ⟨Nat.zero_le _, Nat.zero_le _⟩) (fun H locs hP hD hS => ?_)
    have hP : va_P (dC, dI) vwCl [(h_this, .inr (3, [.ref h_draft, .int z_2.1, .int z_2.2.1, .int z_2.2.2.1, .int z_2.2.2.2])), (h_a1, .inr (7, [.ref h_a1_bytes, .int v_a1_length])), (h_a1_bytes, .inl (k_a1_bytes, 300, .inl v_a1_bytes)), (h_draft, .inr (2, [.ref h_draft_cells, .ref h_draft_depths, .int v_draft_became, .int v_draft_items, .int v_draft_inputs, .int v_draft_muls]))] H := hP
    have hD : va_D A [(h_this, .inr (3, [.ref h_draft, .int z_2.1, .int z_2.2.1, .int z_2.2.2.1, .int z_2.2.2.2])), (h_a1, .inr (7, [.ref h_a1_bytes, .int v_a1_length])), (h_a1_bytes, .inl (k_a1_bytes, 300, .inl v_a1_bytes)), (h_draft, .inr (2, [.ref h_draft_cells, .ref h_draft_depths, .int v_draft_became, .int v_draft_items, .int v_draft_inputs, .int v_draft_muls]))] := hD
    refine lv_if_eq (tgt := 34) hx hb dX3_readUsed_24 (by decide) (fun c_24 => ?_) (fun c_24 => ?_)
    · have hF := gi_t c_24 hF
      refine lv_iconst (v := (-1 : Int32)) hx hb dX3_readUsed_34 (by decide) ?_
      have hF := Option.some.inj hF
      subst hF
      exact hret _ _ _ _ dX3_readUsed_35 (hP.sub [0, 3, 1, 2] rfl) (hD.sub [0, 3, 1, 2] (by decide) rfl) hS
    · have hF := gi_f c_24 hF
      refine lv_aload_n hx hb dX3_readUsed_27 rfl (lv_at hl 0 rfl) ?_
      refine va_get (D := (dC, dI)) (ci := 3) (v := .int z_2.2.2.2) (C := RX3) (T := TX3) (N := 5) hx hb hts in_X3 hown hK hP 0 rfl rfl 4 (by decide) hL39 (fun _ h9 => h9) rfl dX3_readUsed_28 ?_
      refine lv_goto (tgt := 35) hx hb dX3_readUsed_31 (by decide) ?_
      have hF := Option.some.inj hF
      subst hF
      exact hret _ _ _ _ dX3_readUsed_35 (hP.sub [0, 3, 1, 2] rfl) (hD.sub [0, 3, 1, 2] (by decide) rfl) hS
abbrev O_X3_readNumber : Type := Int32 × Int32 × Int32 × Int32 × Int32
def f_X3_readNumber (N : Nat) (v_a1_length : Int32) (v_a1_bytes : Nat → Int32) (x2 : Int32) (v_next : Int32) (v_start : Int32) (v_kind : Int32) (v_value : Int32) : Option O_X3_readNumber :=
  (f_X3_step N v_a1_length v_a1_bytes v_next v_start v_kind v_value).bind (fun z_2 => if z_2.2.2.1 = (3 : Int32) then (if x2 < z_2.2.2.2 then (some ((-1 : Int32), z_2.1, z_2.2.1, z_2.2.2.1, z_2.2.2.2)) else (some (z_2.2.2.2, z_2.1, z_2.2.1, z_2.2.2.1, z_2.2.2.2))) else (some ((-1 : Int32), z_2.1, z_2.2.1, z_2.2.2.1, z_2.2.2.2)))
set_option maxHeartbeats 4000000 in
set_option maxRecDepth 100000 in
theorem t_X3_readNumber (l : Launch) (dC : Nat → ClassId) (dI : Nat → Nat → Nat) (h_this : Nat) (h_draft : Nat) (v_next : Int32) (v_start : Int32) (v_kind : Int32) (v_value : Int32) (h_a1 : Nat) (h_a1_bytes : Nat) (v_a1_length : Int32) (k_a1_bytes : ClassId) (v_a1_bytes : Nat → Int32) (sz : Nat) (x2 : Int32) (N : Nat) (out : O_X3_readNumber) (hF : f_X3_readNumber N v_a1_length v_a1_bytes x2 v_next v_start v_kind v_value = some out) : gMi l yX3_readNumber wsX3_readNumber ({ frames := 4, cells := 0, slots := 0, locals := 87 } : Room) [.ref h_this, .ref h_a1, .int x2] (dC, dI) [(h_this, .inr (3, [.ref h_draft, .int v_next, .int v_start, .int v_kind, .int v_value])), (h_a1, .inr (7, [.ref h_a1_bytes, .int v_a1_length])), (h_a1_bytes, .inl (k_a1_bytes, 300, .inl v_a1_bytes))] [(k_a1_bytes, .byte)] sz [(h_this, .inr (3, [.ref h_draft, .int out.2.1, .int out.2.2.1, .int out.2.2.2.1, .int out.2.2.2.2])), (h_a1, .inr (7, [.ref h_a1_bytes, .int v_a1_length])), (h_a1_bytes, .inl (k_a1_bytes, 300, .inl v_a1_bytes))] out.1 := by
  refine gEi (cc := cX3_readNumber) (maxL := 3) (by decide) rfl (Nat.le_of_ble_eq_true rfl) ?_
  intro p e s m args below meth c Q A ls CF hK hN hA hret hP hD hS hl
  have hx := CF.1
  have hb := CF.2.1
  have hml := CF.2.2.1
  have hown : s.vm.findClass RX3 = some m.cls := CF.2.2.2.1
  have hts := CF.2.2.2.2
  have hl : lv_has ls 3 [(0, .ref h_this), (1, .ref h_a1), (2, .int x2)] := hl
  have cw32 : CallW ({ frames := 4, cells := 0, slots := 0, locals := 87 } : Room) s args RX3 RX3 32 yX3_step cX3_step 3 none wsX3_step ({ frames := 3, cells := 0, slots := 0, locals := 65 } : Room) 0 0 1 := cwV 1 hts gX3_readNumber_X3_step rfl rfl rfl (by decide +kernel) ⟨Nat.le_of_ble_eq_true rfl, Nat.le_of_ble_eq_true rfl⟩
  have in_X3 : ∀ w ∈ wsX30, w ∈ wsX3_readNumber := fun w h => List.mem_cons_of_mem _ (List.mem_append_left _ (List.mem_append_right _ h))
  have hL36 : (Cond.fieldLink RX3 36 "DustSums$Reader" "kind" "I").before args s = true := hts (.fieldLink RX3 36 "DustSums$Reader" "kind" "I") (List.mem_of_getElem? (i := 1) rfl)
  have hL39 : (Cond.fieldLink RX3 39 "DustSums$Reader" "value" "I").before args s = true := hts (.fieldLink RX3 39 "DustSums$Reader" "value" "I") (List.mem_of_getElem? (i := 2) rfl)
  unfold f_X3_readNumber at hF
  refine lv_aload_n hx hb dX3_readNumber_0 rfl (lv_at hl 0 rfl) ?_
  refine lv_aload_n hx hb dX3_readNumber_1 rfl (lv_at hl 1 rfl) ?_
  obtain ⟨z_2, hz_2, hF⟩ := gi_bind hF
  refine gRv (wc := [(h_this, .inr (3, [.ref h_draft, .int v_next, .int v_start, .int v_kind, .int v_value])), (h_a1, .inr (7, [.ref h_a1_bytes, .int v_a1_length])), (h_a1_bytes, .inl (k_a1_bytes, 300, .inl v_a1_bytes))]) (wr := []) (w1 := [(h_this, .inr (3, [.ref h_draft, .int z_2.1, .int z_2.2.1, .int z_2.2.2.1, .int z_2.2.2.2])), (h_a1, .inr (7, [.ref h_a1_bytes, .int v_a1_length])), (h_a1_bytes, .inl (k_a1_bytes, 300, .inl v_a1_bytes))]) hP hD hS hA [0, 1, 2] [] rfl rfl (by decide) (by decide) (va_runV (As := [.ref h_a1]) (rest := []) CF (t_X3_step l dC dI h_this h_draft v_next v_start v_kind v_value h_a1 h_a1_bytes v_a1_length k_a1_bytes v_a1_bytes s.heap.size  N z_2 hz_2) cw32 (gPV (ci := 3) hP hD hK hN [0, 1, 2] [0] (by decide) rfl rfl (q0 := 0) rfl rfl) rfl rfl hl.1 rfl (lv_room (Nat.le_of_ble_eq_true rfl)) dX3_readNumber_2 ⟨Nat.zero_le _, Nat.zero_le _⟩) (fun H locs hP hD hS => ?_)
  have hP : va_P (dC, dI) vwCl [(h_this, .inr (3, [.ref h_draft, .int z_2.1, .int z_2.2.1, .int z_2.2.2.1, .int z_2.2.2.2])), (h_a1, .inr (7, [.ref h_a1_bytes, .int v_a1_length])), (h_a1_bytes, .inl (k_a1_bytes, 300, .inl v_a1_bytes))] H := hP
  have hD : va_D A [(h_this, .inr (3, [.ref h_draft, .int z_2.1, .int z_2.2.1, .int z_2.2.2.1, .int z_2.2.2.2])), (h_a1, .inr (7, [.ref h_a1_bytes, .int v_a1_length])), (h_a1_bytes, .inl (k_a1_bytes, 300, .inl v_a1_bytes))] := hD
  refine lv_aload_n hx hb dX3_readNumber_5 rfl (lv_at hl 0 rfl) ?_
  refine va_get (D := (dC, dI)) (ci := 3) (v := .int z_2.2.2.1) (C := RX3) (T := TX3) (N := 5) hx hb hts in_X3 hown hK hP 0 rfl rfl 3 (by decide) hL36 (fun _ h9 => h9) rfl dX3_readNumber_6 ?_
  refine lv_iconst (v := (3 : Int32)) hx hb dX3_readNumber_9 (by decide) ?_
  refine lv_icmp_ne (tgt := 28) hx hb dX3_readNumber_10 (by decide) (fun c_10 => ?_) (fun c_10 => ?_)
  · have hF := gi_f c_10 hF
    refine lv_iconst (v := (-1 : Int32)) hx hb dX3_readNumber_28 (by decide) ?_
    have hF := Option.some.inj hF
    subst hF
    exact hret _ _ _ _ dX3_readNumber_29 hP hD hS
  · have hF := gi_t c_10 hF
    refine lv_aload_n hx hb dX3_readNumber_13 rfl (lv_at hl 0 rfl) ?_
    refine va_get (D := (dC, dI)) (ci := 3) (v := .int z_2.2.2.2) (C := RX3) (T := TX3) (N := 5) hx hb hts in_X3 hown hK hP 0 rfl rfl 4 (by decide) hL39 (fun _ h9 => h9) rfl dX3_readNumber_14 ?_
    refine lv_iload_n hx hb dX3_readNumber_17 rfl (lv_at hl 2 rfl) ?_
    refine lv_icmp_gt (tgt := 28) hx hb dX3_readNumber_18 (by decide) (fun c_18 => ?_) (fun c_18 => ?_)
    · have hF := gi_t c_18 hF
      refine lv_iconst (v := (-1 : Int32)) hx hb dX3_readNumber_28 (by decide) ?_
      have hF := Option.some.inj hF
      subst hF
      exact hret _ _ _ _ dX3_readNumber_29 hP hD hS
    · have hF := gi_f c_18 hF
      refine lv_aload_n hx hb dX3_readNumber_21 rfl (lv_at hl 0 rfl) ?_
      refine va_get (D := (dC, dI)) (ci := 3) (v := .int z_2.2.2.2) (C := RX3) (T := TX3) (N := 5) hx hb hts in_X3 hown hK hP 0 rfl rfl 4 (by decide) hL39 (fun _ h9 => h9) rfl dX3_readNumber_22 ?_
      refine lv_goto (tgt := 29) hx hb dX3_readNumber_25 (by decide) ?_
      have hF := Option.some.inj hF
      subst hF
      exact hret _ _ _ _ dX3_readNumber_29 hP hD hS
abbrev O_X3_readItem : Type := Int32 × Int32 × Int32 × Int32 × Int32 × Int32 × Int32 × Int32 × Int32 × (Nat → Int32) × (Nat → Int32)
def f_X3_readItem_147 (N : Nat) (v_a1_length : Int32) (v_a1_bytes : Nat → Int32) (v_next : Int32) (v_start : Int32) (v_kind : Int32) (v_value : Int32) (v_draft_became : Int32) (v_draft_items : Int32) (v_draft_inputs : Int32) (v_draft_muls : Int32) (v_draft_cells : Nat → Int32) (v_draft_depths : Nat → Int32) (y2 : Int32) (y3 : Int32) (y4 : Int32) (y5 : Int32) (y6 : Int32) : Option O_X3_readItem :=
  (f_X3_step N v_a1_length v_a1_bytes v_next v_start v_kind v_value).bind (fun z_149 => if z_149.2.2.1 = (4 : Int32) then ((f_X2_take N y2 y3 y4 y5 y6 v_draft_became v_draft_items v_draft_inputs v_draft_muls v_draft_cells v_draft_depths).bind (fun z_174 => some (y2, z_149.1, z_149.2.1, z_149.2.2.1, z_149.2.2.2, z_174.1, z_174.2.1, z_174.2.2.1, z_174.2.2.2.1, z_174.2.2.2.2.1, z_174.2.2.2.2.2))) else (some ((-1 : Int32), z_149.1, z_149.2.1, z_149.2.2.1, z_149.2.2.2, v_draft_became, v_draft_items, v_draft_inputs, v_draft_muls, v_draft_cells, v_draft_depths)))
def f_X3_readItem_102 (N : Nat) (v_a1_length : Int32) (v_a1_bytes : Nat → Int32) (v_next : Int32) (v_start : Int32) (v_kind : Int32) (v_value : Int32) (v_draft_became : Int32) (v_draft_items : Int32) (v_draft_inputs : Int32) (v_draft_muls : Int32) (v_draft_cells : Nat → Int32) (v_draft_depths : Nat → Int32) (y2 : Int32) (y3 : Int32) (y4 : Int32) (y5 : Int32) (t2 : Int32) : Option O_X3_readItem :=
  (f_X3_readNumber N v_a1_length v_a1_bytes t2 v_next v_start v_kind v_value).bind (fun z_102 => if 0 ≤ z_102.1 then (f_X3_readItem_147 N v_a1_length v_a1_bytes z_102.2.1 z_102.2.2.1 z_102.2.2.2.1 z_102.2.2.2.2 v_draft_became v_draft_items v_draft_inputs v_draft_muls v_draft_cells v_draft_depths y2 y3 y4 y5 z_102.1) else (some ((-1 : Int32), z_102.2.1, z_102.2.2.1, z_102.2.2.2.1, z_102.2.2.2.2, v_draft_became, v_draft_items, v_draft_inputs, v_draft_muls, v_draft_cells, v_draft_depths)))
def f_X3_readItem_90 (N : Nat) (v_a1_length : Int32) (v_a1_bytes : Nat → Int32) (v_next : Int32) (v_start : Int32) (v_kind : Int32) (v_value : Int32) (v_draft_became : Int32) (v_draft_items : Int32) (v_draft_inputs : Int32) (v_draft_muls : Int32) (v_draft_cells : Nat → Int32) (v_draft_depths : Nat → Int32) (y2 : Int32) (y3 : Int32) (y4 : Int32) (y5 : Int32) : Option O_X3_readItem :=
  if y2 = 0 then (f_X3_readItem_102 N v_a1_length v_a1_bytes v_next v_start v_kind v_value v_draft_became v_draft_items v_draft_inputs v_draft_muls v_draft_cells v_draft_depths y2 y3 y4 y5 (2 : Int32)) else (f_X3_readItem_102 N v_a1_length v_a1_bytes v_next v_start v_kind v_value v_draft_became v_draft_items v_draft_inputs v_draft_muls v_draft_cells v_draft_depths y2 y3 y4 y5 (15 : Int32))
def f_X3_readItem_64 (N : Nat) (v_a1_length : Int32) (v_a1_bytes : Nat → Int32) (v_next : Int32) (v_start : Int32) (v_kind : Int32) (v_value : Int32) (v_draft_became : Int32) (v_draft_items : Int32) (v_draft_inputs : Int32) (v_draft_muls : Int32) (v_draft_cells : Nat → Int32) (v_draft_depths : Nat → Int32) (y2 : Int32) (y3 : Int32) (t0 : Int32) (t1 : Int32) : Option O_X3_readItem :=
  if t0 = t1 then (if y2 = 0 then (f_X3_readItem_90 N v_a1_length v_a1_bytes v_next v_start v_kind v_value v_draft_became v_draft_items v_draft_inputs v_draft_muls v_draft_cells v_draft_depths y2 y3 (-9 : Int32) (-9 : Int32)) else (if y2 = (1 : Int32) then (f_X3_readItem_90 N v_a1_length v_a1_bytes v_next v_start v_kind v_value v_draft_became v_draft_items v_draft_inputs v_draft_muls v_draft_cells v_draft_depths y2 y3 (-9 : Int32) (-9 : Int32)) else (if y2 = (5 : Int32) then (f_X3_readItem_147 N v_a1_length v_a1_bytes v_next v_start v_kind v_value v_draft_became v_draft_items v_draft_inputs v_draft_muls v_draft_cells v_draft_depths y2 y3 (-9 : Int32) (-9 : Int32) (-9 : Int32)) else ((f_X3_readUsed N v_draft_became v_a1_length v_a1_bytes v_next v_start v_kind v_value).bind (fun z_121 => if 0 ≤ z_121.1 then ((f_X3_readUsed N v_draft_became v_a1_length v_a1_bytes z_121.2.1 z_121.2.2.1 z_121.2.2.2.1 z_121.2.2.2.2).bind (fun z_135 => if 0 ≤ z_135.1 then (f_X3_readItem_147 N v_a1_length v_a1_bytes z_135.2.1 z_135.2.2.1 z_135.2.2.2.1 z_135.2.2.2.2 v_draft_became v_draft_items v_draft_inputs v_draft_muls v_draft_cells v_draft_depths y2 y3 z_121.1 z_135.1 (-9 : Int32)) else (some ((-1 : Int32), z_135.2.1, z_135.2.2.1, z_135.2.2.2.1, z_135.2.2.2.2, v_draft_became, v_draft_items, v_draft_inputs, v_draft_muls, v_draft_cells, v_draft_depths)))) else (some ((-1 : Int32), z_121.2.1, z_121.2.2.1, z_121.2.2.2.1, z_121.2.2.2.2, v_draft_became, v_draft_items, v_draft_inputs, v_draft_muls, v_draft_cells, v_draft_depths))))))) else (some ((-1 : Int32), v_next, v_start, v_kind, v_value, v_draft_became, v_draft_items, v_draft_inputs, v_draft_muls, v_draft_cells, v_draft_depths))
def f_X3_readItem (N : Nat) (v_a1_length : Int32) (v_a1_bytes : Nat → Int32) (v_next : Int32) (v_start : Int32) (v_kind : Int32) (v_value : Int32) (v_draft_became : Int32) (v_draft_items : Int32) (v_draft_inputs : Int32) (v_draft_muls : Int32) (v_draft_cells : Nat → Int32) (v_draft_depths : Nat → Int32) : Option O_X3_readItem :=
  (f_X3_step N v_a1_length v_a1_bytes v_next v_start v_kind v_value).bind (fun z_2 => if z_2.2.2.1 = (1 : Int32) then ((f_X3_mayBegin N v_draft_items v_draft_inputs v_draft_muls z_2.2.2.2).bind (fun z_20 => if z_20 = 0 then (some ((-1 : Int32), z_2.1, z_2.2.1, z_2.2.2.1, z_2.2.2.2, v_draft_became, v_draft_items, v_draft_inputs, v_draft_muls, v_draft_cells, v_draft_depths)) else ((f_X3_step N v_a1_length v_a1_bytes z_2.1 z_2.2.1 z_2.2.2.1 z_2.2.2.2).bind (fun z_30 => if z_30.2.2.1 = (2 : Int32) then ((f_X2_hasBecome N v_draft_became z_30.2.2.2).bind (fun z_51 => if z_2.2.2.2 = (5 : Int32) then (f_X3_readItem_64 N v_a1_length v_a1_bytes z_30.1 z_30.2.1 z_30.2.2.1 z_30.2.2.2 v_draft_became v_draft_items v_draft_inputs v_draft_muls v_draft_cells v_draft_depths z_2.2.2.2 z_30.2.2.2 z_51 (1 : Int32)) else (f_X3_readItem_64 N v_a1_length v_a1_bytes z_30.1 z_30.2.1 z_30.2.2.1 z_30.2.2.2 v_draft_became v_draft_items v_draft_inputs v_draft_muls v_draft_cells v_draft_depths z_2.2.2.2 z_30.2.2.2 z_51 (0 : Int32)))) else (some ((-1 : Int32), z_30.1, z_30.2.1, z_30.2.2.1, z_30.2.2.2, v_draft_became, v_draft_items, v_draft_inputs, v_draft_muls, v_draft_cells, v_draft_depths)))))) else (some ((-1 : Int32), z_2.1, z_2.2.1, z_2.2.2.1, z_2.2.2.2, v_draft_became, v_draft_items, v_draft_inputs, v_draft_muls, v_draft_cells, v_draft_depths)))
set_option maxHeartbeats 4000000 in
set_option maxRecDepth 100000 in
theorem t_X3_readItem (l : Launch) (dC : Nat → ClassId) (dI : Nat → Nat → Nat) (h_this : Nat) (h_draft : Nat) (v_next : Int32) (v_start : Int32) (v_kind : Int32) (v_value : Int32) (h_draft_cells : Nat) (h_draft_depths : Nat) (v_draft_became : Int32) (v_draft_items : Int32) (v_draft_inputs : Int32) (v_draft_muls : Int32) (k_draft_cells : ClassId) (v_draft_cells : Nat → Int32) (k_draft_depths : ClassId) (v_draft_depths : Nat → Int32) (h_a1 : Nat) (h_a1_bytes : Nat) (v_a1_length : Int32) (k_a1_bytes : ClassId) (v_a1_bytes : Nat → Int32) (sz : Nat) (N : Nat) (out : O_X3_readItem) (hF : f_X3_readItem N v_a1_length v_a1_bytes v_next v_start v_kind v_value v_draft_became v_draft_items v_draft_inputs v_draft_muls v_draft_cells v_draft_depths = some out) : gMi l yX3_readItem wsX3_readItem ({ frames := 5, cells := 0, slots := 0, locals := 109 } : Room) [.ref h_this, .ref h_a1] (dC, dI) [(h_this, .inr (3, [.ref h_draft, .int v_next, .int v_start, .int v_kind, .int v_value])), (h_draft, .inr (2, [.ref h_draft_cells, .ref h_draft_depths, .int v_draft_became, .int v_draft_items, .int v_draft_inputs, .int v_draft_muls])), (h_draft_cells, .inl (k_draft_cells, 96, .inl v_draft_cells)), (h_draft_depths, .inl (k_draft_depths, 16, .inl v_draft_depths)), (h_a1, .inr (7, [.ref h_a1_bytes, .int v_a1_length])), (h_a1_bytes, .inl (k_a1_bytes, 300, .inl v_a1_bytes))] [(k_draft_cells, .int), (k_draft_depths, .int), (k_a1_bytes, .byte)] sz [(h_this, .inr (3, [.ref h_draft, .int out.2.1, .int out.2.2.1, .int out.2.2.2.1, .int out.2.2.2.2.1])), (h_draft, .inr (2, [.ref h_draft_cells, .ref h_draft_depths, .int out.2.2.2.2.2.1, .int out.2.2.2.2.2.2.1, .int out.2.2.2.2.2.2.2.1, .int out.2.2.2.2.2.2.2.2.1])), (h_draft_cells, .inl (k_draft_cells, 96, .inl out.2.2.2.2.2.2.2.2.2.1)), (h_draft_depths, .inl (k_draft_depths, 16, .inl out.2.2.2.2.2.2.2.2.2.2)), (h_a1, .inr (7, [.ref h_a1_bytes, .int v_a1_length])), (h_a1_bytes, .inl (k_a1_bytes, 300, .inl v_a1_bytes))] out.1 := by
  refine gEi (cc := cX3_readItem) (maxL := 7) (by decide) rfl (Nat.le_of_ble_eq_true rfl) ?_
  intro p e s m args below meth c Q A ls CF hK hN hA hret hP hD hS hl
  have hx := CF.1
  have hb := CF.2.1
  have hml := CF.2.2.1
  have hown : s.vm.findClass RX3 = some m.cls := CF.2.2.2.1
  have hts := CF.2.2.2.2
  have hl : lv_has ls 7 [(0, .ref h_this), (1, .ref h_a1)] := hl
  have cw32 : CallW ({ frames := 5, cells := 0, slots := 0, locals := 109 } : Room) s args RX3 RX3 32 yX3_step cX3_step 3 none wsX3_step ({ frames := 3, cells := 0, slots := 0, locals := 65 } : Room) 0 0 1 := cwV 1 hts gX3_readItem_X3_step rfl rfl rfl (by decide +kernel) ⟨Nat.le_of_ble_eq_true rfl, Nat.le_of_ble_eq_true rfl⟩
  have in_X3 : ∀ w ∈ wsX30, w ∈ wsX3_readItem := fun w h => List.mem_cons_of_mem _ (List.mem_append_left _ (List.mem_append_left _ (List.mem_append_right _ h)))
  have hL39 : (Cond.fieldLink RX3 39 "DustSums$Reader" "value" "I").before args s = true := hts (.fieldLink RX3 39 "DustSums$Reader" "value" "I") (List.mem_of_getElem? (i := 1) rfl)
  have hL36 : (Cond.fieldLink RX3 36 "DustSums$Reader" "kind" "I").before args s = true := hts (.fieldLink RX3 36 "DustSums$Reader" "kind" "I") (List.mem_of_getElem? (i := 2) rfl)
  have cw42 : CallW ({ frames := 5, cells := 0, slots := 0, locals := 109 } : Room) s args RX3 RX3 42 yX3_mayBegin cX3_mayBegin 2 (some .boolean) wsX3_mayBegin ({ frames := 0, cells := 0, slots := 0, locals := 0 } : Room) 0 0 1 := cwV 1 hts gX3_readItem_X3_mayBegin rfl rfl rfl (by decide +kernel) ⟨Nat.le_of_ble_eq_true rfl, Nat.le_of_ble_eq_true rfl⟩
  have hL12 : (Cond.fieldLink RX3 12 "DustSums$Reader" "draft" "LDustSums$Program;").before args s = true := hts (.fieldLink RX3 12 "DustSums$Reader" "draft" "LDustSums$Program;") (List.mem_of_getElem? (i := 3) rfl)
  have cw46 : CallW ({ frames := 5, cells := 0, slots := 0, locals := 109 } : Room) s args RX3 RX2 46 yX2_hasBecome cX2_hasBecome 2 (some .boolean) wsX2_hasBecome ({ frames := 0, cells := 0, slots := 0, locals := 0 } : Room) 0 0 1 := cwV 1 hts gX3_readItem_X2_hasBecome rfl rfl rfl (by decide +kernel) ⟨Nat.le_of_ble_eq_true rfl, Nat.le_of_ble_eq_true rfl⟩
  have cw49 : CallW ({ frames := 5, cells := 0, slots := 0, locals := 109 } : Room) s args RX3 RX3 49 yX3_readNumber cX3_readNumber 3 (some .int) wsX3_readNumber ({ frames := 4, cells := 0, slots := 0, locals := 87 } : Room) 0 0 2 := cwV 2 hts gX3_readItem_X3_readNumber rfl rfl rfl (by decide +kernel) ⟨Nat.le_of_ble_eq_true rfl, Nat.le_of_ble_eq_true rfl⟩
  have cw56 : CallW ({ frames := 5, cells := 0, slots := 0, locals := 109 } : Room) s args RX3 RX2 56 yX2_take cX2_take 8 none wsX2_take ({ frames := 2, cells := 0, slots := 0, locals := 45 } : Room) 0 0 5 := cwV 5 hts gX3_readItem_X2_take rfl rfl rfl (by decide +kernel) ⟨Nat.le_of_ble_eq_true rfl, Nat.le_of_ble_eq_true rfl⟩
  have cw53 : CallW ({ frames := 5, cells := 0, slots := 0, locals := 109 } : Room) s args RX3 RX3 53 yX3_readUsed cX3_readUsed 2 (some .int) wsX3_readUsed ({ frames := 4, cells := 0, slots := 0, locals := 87 } : Room) 0 0 1 := cwV 1 hts gX3_readItem_X3_readUsed rfl rfl rfl (by decide +kernel) ⟨Nat.le_of_ble_eq_true rfl, Nat.le_of_ble_eq_true rfl⟩
  have k_147 : ∀ (v_next : Int32) (v_start : Int32) (v_kind : Int32) (v_value : Int32) (v_draft_became : Int32) (v_draft_items : Int32) (v_draft_inputs : Int32) (v_draft_muls : Int32) (v_draft_cells : Nat → Int32) (v_draft_depths : Nat → Int32) (y2 : Int32) (y3 : Int32) (y4 : Int32) (y5 : Int32) (y6 : Int32) (H : Heap) (locs : List Loc) (ls : Array Slot), f_X3_readItem_147 N v_a1_length v_a1_bytes v_next v_start v_kind v_value v_draft_became v_draft_items v_draft_inputs v_draft_muls v_draft_cells v_draft_depths y2 y3 y4 y5 y6 = some out → va_P (dC, dI) vwCl [(h_this, .inr (3, [.ref h_draft, .int v_next, .int v_start, .int v_kind, .int v_value])), (h_draft, .inr (2, [.ref h_draft_cells, .ref h_draft_depths, .int v_draft_became, .int v_draft_items, .int v_draft_inputs, .int v_draft_muls])), (h_draft_cells, .inl (k_draft_cells, 96, .inl v_draft_cells)), (h_draft_depths, .inl (k_draft_depths, 16, .inl v_draft_depths)), (h_a1, .inr (7, [.ref h_a1_bytes, .int v_a1_length])), (h_a1_bytes, .inl (k_a1_bytes, 300, .inl v_a1_bytes))] H → va_D A [(h_this, .inr (3, [.ref h_draft, .int v_next, .int v_start, .int v_kind, .int v_value])), (h_draft, .inr (2, [.ref h_draft_cells, .ref h_draft_depths, .int v_draft_became, .int v_draft_items, .int v_draft_inputs, .int v_draft_muls])), (h_draft_cells, .inl (k_draft_cells, 96, .inl v_draft_cells)), (h_draft_depths, .inl (k_draft_depths, 16, .inl v_draft_depths)), (h_a1, .inr (7, [.ref h_a1_bytes, .int v_a1_length])), (h_a1_bytes, .inl (k_a1_bytes, 300, .inl v_a1_bytes))] → va_S A s.heap H locs → lv_has ls 7 [(0, .ref h_this), (1, .ref h_a1), (2, .int y2), (3, .int y3), (4, .int y4), (5, .int y5), (6, .int y6)] → W p l e ({ frames := 5, cells := 0, slots := 0, locals := 109 } : Room) s m args below meth c H locs 0 0 Q (F0 m 147 ls []) := by
    intro v_next v_start v_kind v_value v_draft_became v_draft_items v_draft_inputs v_draft_muls v_draft_cells v_draft_depths y2 y3 y4 y5 y6 H locs ls hF hP hD hS hl
    unfold f_X3_readItem_147 at hF
    refine lv_aload_n hx hb dX3_readItem_147 rfl (lv_at hl 0 rfl) ?_
    refine lv_aload_n hx hb dX3_readItem_148 rfl (lv_at hl 1 rfl) ?_
    obtain ⟨z_149, hz_149, hF⟩ := gi_bind hF
    refine gRv (wc := [(h_this, .inr (3, [.ref h_draft, .int v_next, .int v_start, .int v_kind, .int v_value])), (h_a1, .inr (7, [.ref h_a1_bytes, .int v_a1_length])), (h_a1_bytes, .inl (k_a1_bytes, 300, .inl v_a1_bytes))]) (wr := [(h_draft, .inr (2, [.ref h_draft_cells, .ref h_draft_depths, .int v_draft_became, .int v_draft_items, .int v_draft_inputs, .int v_draft_muls])), (h_draft_cells, .inl (k_draft_cells, 96, .inl v_draft_cells)), (h_draft_depths, .inl (k_draft_depths, 16, .inl v_draft_depths))]) (w1 := [(h_this, .inr (3, [.ref h_draft, .int z_149.1, .int z_149.2.1, .int z_149.2.2.1, .int z_149.2.2.2])), (h_a1, .inr (7, [.ref h_a1_bytes, .int v_a1_length])), (h_a1_bytes, .inl (k_a1_bytes, 300, .inl v_a1_bytes))]) hP hD hS hA [0, 4, 5] [1, 2, 3] rfl rfl (by decide) (by decide) (va_runV (As := [.ref h_a1]) (rest := []) CF (t_X3_step l dC dI h_this h_draft v_next v_start v_kind v_value h_a1 h_a1_bytes v_a1_length k_a1_bytes v_a1_bytes H.size  N z_149 hz_149) cw32 (gPV (ci := 3) hP hD hK hN [0, 4, 5] [2] (by decide) rfl rfl (q0 := 0) rfl rfl) rfl rfl hl.1 rfl (lv_room (Nat.le_of_ble_eq_true rfl)) dX3_readItem_149 ⟨Nat.zero_le _, Nat.zero_le _⟩) (fun H locs hP hD hS => ?_)
    have hP : va_P (dC, dI) vwCl [(h_draft, .inr (2, [.ref h_draft_cells, .ref h_draft_depths, .int v_draft_became, .int v_draft_items, .int v_draft_inputs, .int v_draft_muls])), (h_draft_cells, .inl (k_draft_cells, 96, .inl v_draft_cells)), (h_draft_depths, .inl (k_draft_depths, 16, .inl v_draft_depths)), (h_this, .inr (3, [.ref h_draft, .int z_149.1, .int z_149.2.1, .int z_149.2.2.1, .int z_149.2.2.2])), (h_a1, .inr (7, [.ref h_a1_bytes, .int v_a1_length])), (h_a1_bytes, .inl (k_a1_bytes, 300, .inl v_a1_bytes))] H := hP
    have hD : va_D A [(h_draft, .inr (2, [.ref h_draft_cells, .ref h_draft_depths, .int v_draft_became, .int v_draft_items, .int v_draft_inputs, .int v_draft_muls])), (h_draft_cells, .inl (k_draft_cells, 96, .inl v_draft_cells)), (h_draft_depths, .inl (k_draft_depths, 16, .inl v_draft_depths)), (h_this, .inr (3, [.ref h_draft, .int z_149.1, .int z_149.2.1, .int z_149.2.2.1, .int z_149.2.2.2])), (h_a1, .inr (7, [.ref h_a1_bytes, .int v_a1_length])), (h_a1_bytes, .inl (k_a1_bytes, 300, .inl v_a1_bytes))] := hD
    refine lv_aload_n hx hb dX3_readItem_152 rfl (lv_at hl 0 rfl) ?_
    refine va_get (D := (dC, dI)) (ci := 3) (v := .int z_149.2.2.1) (C := RX3) (T := TX3) (N := 5) hx hb hts in_X3 hown hK hP 3 rfl rfl 3 (by decide) hL36 (fun _ h9 => h9) rfl dX3_readItem_153 ?_
    refine lv_iconst (v := (4 : Int32)) hx hb dX3_readItem_156 (by decide) ?_
    refine lv_icmp_eq (tgt := 162) hx hb dX3_readItem_157 (by decide) (fun c_157 => ?_) (fun c_157 => ?_)
    · have hF := gi_t c_157 hF
      refine lv_aload_n hx hb dX3_readItem_162 rfl (lv_at hl 0 rfl) ?_
      refine va_get (D := (dC, dI)) (ci := 3) (v := .ref h_draft) (C := RX3) (T := TX3) (N := 5) hx hb hts in_X3 hown hK hP 3 rfl rfl 0 (by decide) hL12 (fun _ h9 => h9) rfl dX3_readItem_163 ?_
      refine lv_iload_n hx hb dX3_readItem_166 rfl (lv_at hl 2 rfl) ?_
      refine lv_iload_n hx hb dX3_readItem_167 rfl (lv_at hl 3 rfl) ?_
      refine lv_iload hx hb dX3_readItem_168 (lv_at hl 4 rfl) ?_
      refine lv_iload hx hb dX3_readItem_170 (lv_at hl 5 rfl) ?_
      refine lv_iload hx hb dX3_readItem_172 (lv_at hl 6 rfl) ?_
      obtain ⟨z_174, hz_174, hF⟩ := gi_bind hF
      refine gRv (wc := [(h_draft, .inr (2, [.ref h_draft_cells, .ref h_draft_depths, .int v_draft_became, .int v_draft_items, .int v_draft_inputs, .int v_draft_muls])), (h_draft_cells, .inl (k_draft_cells, 96, .inl v_draft_cells)), (h_draft_depths, .inl (k_draft_depths, 16, .inl v_draft_depths))]) (wr := [(h_this, .inr (3, [.ref h_draft, .int z_149.1, .int z_149.2.1, .int z_149.2.2.1, .int z_149.2.2.2])), (h_a1, .inr (7, [.ref h_a1_bytes, .int v_a1_length])), (h_a1_bytes, .inl (k_a1_bytes, 300, .inl v_a1_bytes))]) (w1 := [(h_draft, .inr (2, [.ref h_draft_cells, .ref h_draft_depths, .int z_174.1, .int z_174.2.1, .int z_174.2.2.1, .int z_174.2.2.2.1])), (h_draft_cells, .inl (k_draft_cells, 96, .inl z_174.2.2.2.2.1)), (h_draft_depths, .inl (k_draft_depths, 16, .inl z_174.2.2.2.2.2))]) hP hD hS hA [0, 1, 2] [3, 4, 5] rfl rfl (by decide) (by decide) (va_runV (As := [.int y2, .int y3, .int y4, .int y5, .int y6]) (rest := []) CF (t_X2_take l dC dI h_draft h_draft_cells h_draft_depths v_draft_became v_draft_items v_draft_inputs v_draft_muls k_draft_cells v_draft_cells k_draft_depths v_draft_depths H.size y2 y3 y4 y5 y6 N z_174 hz_174) cw56 (gPV (ci := 2) hP hD hK hN [0, 1, 2] [0, 1] (by decide) rfl rfl (q0 := 0) rfl rfl) rfl rfl hl.1 rfl (lv_room (Nat.le_of_ble_eq_true rfl)) dX3_readItem_174 ⟨Nat.zero_le _, Nat.zero_le _⟩) (fun H locs hP hD hS => ?_)
      have hP : va_P (dC, dI) vwCl [(h_this, .inr (3, [.ref h_draft, .int z_149.1, .int z_149.2.1, .int z_149.2.2.1, .int z_149.2.2.2])), (h_a1, .inr (7, [.ref h_a1_bytes, .int v_a1_length])), (h_a1_bytes, .inl (k_a1_bytes, 300, .inl v_a1_bytes)), (h_draft, .inr (2, [.ref h_draft_cells, .ref h_draft_depths, .int z_174.1, .int z_174.2.1, .int z_174.2.2.1, .int z_174.2.2.2.1])), (h_draft_cells, .inl (k_draft_cells, 96, .inl z_174.2.2.2.2.1)), (h_draft_depths, .inl (k_draft_depths, 16, .inl z_174.2.2.2.2.2))] H := hP
      have hD : va_D A [(h_this, .inr (3, [.ref h_draft, .int z_149.1, .int z_149.2.1, .int z_149.2.2.1, .int z_149.2.2.2])), (h_a1, .inr (7, [.ref h_a1_bytes, .int v_a1_length])), (h_a1_bytes, .inl (k_a1_bytes, 300, .inl v_a1_bytes)), (h_draft, .inr (2, [.ref h_draft_cells, .ref h_draft_depths, .int z_174.1, .int z_174.2.1, .int z_174.2.2.1, .int z_174.2.2.2.1])), (h_draft_cells, .inl (k_draft_cells, 96, .inl z_174.2.2.2.2.1)), (h_draft_depths, .inl (k_draft_depths, 16, .inl z_174.2.2.2.2.2))] := hD
      refine lv_iload_n hx hb dX3_readItem_177 rfl (lv_at hl 2 rfl) ?_
      have hF := Option.some.inj hF
      subst hF
      exact hret _ _ _ _ dX3_readItem_178 (hP.sub [0, 3, 4, 5, 1, 2] rfl) (hD.sub [0, 3, 4, 5, 1, 2] (by decide) rfl) hS
    · have hF := gi_f c_157 hF
      refine lv_iconst (v := (-1 : Int32)) hx hb dX3_readItem_160 (by decide) ?_
      have hF := Option.some.inj hF
      subst hF
      exact hret _ _ _ _ dX3_readItem_161 (hP.sub [3, 0, 1, 2, 4, 5] rfl) (hD.sub [3, 0, 1, 2, 4, 5] (by decide) rfl) hS
  have k_102 : ∀ (v_next : Int32) (v_start : Int32) (v_kind : Int32) (v_value : Int32) (v_draft_became : Int32) (v_draft_items : Int32) (v_draft_inputs : Int32) (v_draft_muls : Int32) (v_draft_cells : Nat → Int32) (v_draft_depths : Nat → Int32) (y2 : Int32) (y3 : Int32) (y4 : Int32) (y5 : Int32) (t2 : Int32) (H : Heap) (locs : List Loc) (ls : Array Slot), f_X3_readItem_102 N v_a1_length v_a1_bytes v_next v_start v_kind v_value v_draft_became v_draft_items v_draft_inputs v_draft_muls v_draft_cells v_draft_depths y2 y3 y4 y5 t2 = some out → va_P (dC, dI) vwCl [(h_this, .inr (3, [.ref h_draft, .int v_next, .int v_start, .int v_kind, .int v_value])), (h_draft, .inr (2, [.ref h_draft_cells, .ref h_draft_depths, .int v_draft_became, .int v_draft_items, .int v_draft_inputs, .int v_draft_muls])), (h_draft_cells, .inl (k_draft_cells, 96, .inl v_draft_cells)), (h_draft_depths, .inl (k_draft_depths, 16, .inl v_draft_depths)), (h_a1, .inr (7, [.ref h_a1_bytes, .int v_a1_length])), (h_a1_bytes, .inl (k_a1_bytes, 300, .inl v_a1_bytes))] H → va_D A [(h_this, .inr (3, [.ref h_draft, .int v_next, .int v_start, .int v_kind, .int v_value])), (h_draft, .inr (2, [.ref h_draft_cells, .ref h_draft_depths, .int v_draft_became, .int v_draft_items, .int v_draft_inputs, .int v_draft_muls])), (h_draft_cells, .inl (k_draft_cells, 96, .inl v_draft_cells)), (h_draft_depths, .inl (k_draft_depths, 16, .inl v_draft_depths)), (h_a1, .inr (7, [.ref h_a1_bytes, .int v_a1_length])), (h_a1_bytes, .inl (k_a1_bytes, 300, .inl v_a1_bytes))] → va_S A s.heap H locs → lv_has ls 7 [(0, .ref h_this), (1, .ref h_a1), (2, .int y2), (3, .int y3), (4, .int y4), (5, .int y5)] → W p l e ({ frames := 5, cells := 0, slots := 0, locals := 109 } : Room) s m args below meth c H locs 0 0 Q (F0 m 102 ls [.int t2, .ref h_a1, .ref h_this]) := by
    intro v_next v_start v_kind v_value v_draft_became v_draft_items v_draft_inputs v_draft_muls v_draft_cells v_draft_depths y2 y3 y4 y5 t2 H locs ls hF hP hD hS hl
    unfold f_X3_readItem_102 at hF
    obtain ⟨z_102, hz_102, hF⟩ := gi_bind hF
    refine gRi (wc := [(h_this, .inr (3, [.ref h_draft, .int v_next, .int v_start, .int v_kind, .int v_value])), (h_a1, .inr (7, [.ref h_a1_bytes, .int v_a1_length])), (h_a1_bytes, .inl (k_a1_bytes, 300, .inl v_a1_bytes))]) (wr := [(h_draft, .inr (2, [.ref h_draft_cells, .ref h_draft_depths, .int v_draft_became, .int v_draft_items, .int v_draft_inputs, .int v_draft_muls])), (h_draft_cells, .inl (k_draft_cells, 96, .inl v_draft_cells)), (h_draft_depths, .inl (k_draft_depths, 16, .inl v_draft_depths))]) (w1 := [(h_this, .inr (3, [.ref h_draft, .int z_102.2.1, .int z_102.2.2.1, .int z_102.2.2.2.1, .int z_102.2.2.2.2])), (h_a1, .inr (7, [.ref h_a1_bytes, .int v_a1_length])), (h_a1_bytes, .inl (k_a1_bytes, 300, .inl v_a1_bytes))]) hP hD hS hA [0, 4, 5] [1, 2, 3] rfl rfl (by decide) (by decide) (va_runV (As := [.ref h_a1, .int t2]) (rest := []) CF (t_X3_readNumber l dC dI h_this h_draft v_next v_start v_kind v_value h_a1 h_a1_bytes v_a1_length k_a1_bytes v_a1_bytes H.size t2 N z_102 hz_102) cw49 (gPV (ci := 3) hP hD hK hN [0, 4, 5] [2] (by decide) rfl rfl (q0 := 0) rfl rfl) rfl rfl hl.1 rfl (lv_room (Nat.le_of_ble_eq_true rfl)) dX3_readItem_102 ⟨Nat.zero_le _, Nat.zero_le _⟩) (fun H locs hP hD hS => ?_)
    have hP : va_P (dC, dI) vwCl [(h_draft, .inr (2, [.ref h_draft_cells, .ref h_draft_depths, .int v_draft_became, .int v_draft_items, .int v_draft_inputs, .int v_draft_muls])), (h_draft_cells, .inl (k_draft_cells, 96, .inl v_draft_cells)), (h_draft_depths, .inl (k_draft_depths, 16, .inl v_draft_depths)), (h_this, .inr (3, [.ref h_draft, .int z_102.2.1, .int z_102.2.2.1, .int z_102.2.2.2.1, .int z_102.2.2.2.2])), (h_a1, .inr (7, [.ref h_a1_bytes, .int v_a1_length])), (h_a1_bytes, .inl (k_a1_bytes, 300, .inl v_a1_bytes))] H := hP
    have hD : va_D A [(h_draft, .inr (2, [.ref h_draft_cells, .ref h_draft_depths, .int v_draft_became, .int v_draft_items, .int v_draft_inputs, .int v_draft_muls])), (h_draft_cells, .inl (k_draft_cells, 96, .inl v_draft_cells)), (h_draft_depths, .inl (k_draft_depths, 16, .inl v_draft_depths)), (h_this, .inr (3, [.ref h_draft, .int z_102.2.1, .int z_102.2.2.1, .int z_102.2.2.2.1, .int z_102.2.2.2.2])), (h_a1, .inr (7, [.ref h_a1_bytes, .int v_a1_length])), (h_a1_bytes, .inl (k_a1_bytes, 300, .inl v_a1_bytes))] := hD
    refine lv_istore (lv' := [(6, .int z_102.1), (0, .ref h_this), (1, .ref h_a1), (2, .int y2), (3, .int y3), (4, .int y4), (5, .int y5)]) hx hb dX3_readItem_105 hl (by decide) rfl (fun ls hl => ?_)
    refine lv_iload hx hb dX3_readItem_107 (lv_at hl 0 rfl) ?_
    refine lv_if_ge (tgt := 147) hx hb dX3_readItem_109 (by decide) (fun c_109 => ?_) (fun c_109 => ?_)
    · have hF := gi_t c_109 hF
      exact k_147 z_102.2.1 z_102.2.2.1 z_102.2.2.2.1 z_102.2.2.2.2 v_draft_became v_draft_items v_draft_inputs v_draft_muls v_draft_cells v_draft_depths y2 y3 y4 y5 z_102.1 _ _ _ hF (hP.sub [3, 0, 1, 2, 4, 5] rfl) (hD.sub [3, 0, 1, 2, 4, 5] (by decide) rfl) hS (lv_sub hl [1, 2, 3, 4, 5, 6, 0] rfl)
    · have hF := gi_f c_109 hF
      refine lv_iconst (v := (-1 : Int32)) hx hb dX3_readItem_112 (by decide) ?_
      have hF := Option.some.inj hF
      subst hF
      exact hret _ _ _ _ dX3_readItem_113 (hP.sub [3, 0, 1, 2, 4, 5] rfl) (hD.sub [3, 0, 1, 2, 4, 5] (by decide) rfl) hS
  have k_90 : ∀ (v_next : Int32) (v_start : Int32) (v_kind : Int32) (v_value : Int32) (v_draft_became : Int32) (v_draft_items : Int32) (v_draft_inputs : Int32) (v_draft_muls : Int32) (v_draft_cells : Nat → Int32) (v_draft_depths : Nat → Int32) (y2 : Int32) (y3 : Int32) (y4 : Int32) (y5 : Int32) (H : Heap) (locs : List Loc) (ls : Array Slot), f_X3_readItem_90 N v_a1_length v_a1_bytes v_next v_start v_kind v_value v_draft_became v_draft_items v_draft_inputs v_draft_muls v_draft_cells v_draft_depths y2 y3 y4 y5 = some out → va_P (dC, dI) vwCl [(h_this, .inr (3, [.ref h_draft, .int v_next, .int v_start, .int v_kind, .int v_value])), (h_draft, .inr (2, [.ref h_draft_cells, .ref h_draft_depths, .int v_draft_became, .int v_draft_items, .int v_draft_inputs, .int v_draft_muls])), (h_draft_cells, .inl (k_draft_cells, 96, .inl v_draft_cells)), (h_draft_depths, .inl (k_draft_depths, 16, .inl v_draft_depths)), (h_a1, .inr (7, [.ref h_a1_bytes, .int v_a1_length])), (h_a1_bytes, .inl (k_a1_bytes, 300, .inl v_a1_bytes))] H → va_D A [(h_this, .inr (3, [.ref h_draft, .int v_next, .int v_start, .int v_kind, .int v_value])), (h_draft, .inr (2, [.ref h_draft_cells, .ref h_draft_depths, .int v_draft_became, .int v_draft_items, .int v_draft_inputs, .int v_draft_muls])), (h_draft_cells, .inl (k_draft_cells, 96, .inl v_draft_cells)), (h_draft_depths, .inl (k_draft_depths, 16, .inl v_draft_depths)), (h_a1, .inr (7, [.ref h_a1_bytes, .int v_a1_length])), (h_a1_bytes, .inl (k_a1_bytes, 300, .inl v_a1_bytes))] → va_S A s.heap H locs → lv_has ls 7 [(0, .ref h_this), (1, .ref h_a1), (2, .int y2), (3, .int y3), (4, .int y4), (5, .int y5)] → W p l e ({ frames := 5, cells := 0, slots := 0, locals := 109 } : Room) s m args below meth c H locs 0 0 Q (F0 m 90 ls []) := by
    intro v_next v_start v_kind v_value v_draft_became v_draft_items v_draft_inputs v_draft_muls v_draft_cells v_draft_depths y2 y3 y4 y5 H locs ls hF hP hD hS hl
    unfold f_X3_readItem_90 at hF
    refine lv_aload_n hx hb dX3_readItem_90 rfl (lv_at hl 0 rfl) ?_
    refine lv_aload_n hx hb dX3_readItem_91 rfl (lv_at hl 1 rfl) ?_
    refine lv_iload_n hx hb dX3_readItem_92 rfl (lv_at hl 2 rfl) ?_
    refine lv_if_ne (tgt := 100) hx hb dX3_readItem_93 (by decide) (fun c_93 => ?_) (fun c_93 => ?_)
    · have hF := gi_f c_93 hF
      refine lv_bipush (v := (15 : Int32)) hx hb dX3_readItem_100 (by decide) ?_
      exact k_102 v_next v_start v_kind v_value v_draft_became v_draft_items v_draft_inputs v_draft_muls v_draft_cells v_draft_depths y2 y3 y4 y5 (15 : Int32) _ _ _ hF hP hD hS hl
    · have hF := gi_t c_93 hF
      refine lv_iconst (v := (2 : Int32)) hx hb dX3_readItem_96 (by decide) ?_
      refine lv_goto (tgt := 102) hx hb dX3_readItem_97 (by decide) ?_
      exact k_102 v_next v_start v_kind v_value v_draft_became v_draft_items v_draft_inputs v_draft_muls v_draft_cells v_draft_depths y2 y3 y4 y5 (2 : Int32) _ _ _ hF hP hD hS hl
  have k_64 : ∀ (v_next : Int32) (v_start : Int32) (v_kind : Int32) (v_value : Int32) (v_draft_became : Int32) (v_draft_items : Int32) (v_draft_inputs : Int32) (v_draft_muls : Int32) (v_draft_cells : Nat → Int32) (v_draft_depths : Nat → Int32) (y2 : Int32) (y3 : Int32) (t0 : Int32) (t1 : Int32) (H : Heap) (locs : List Loc) (ls : Array Slot), f_X3_readItem_64 N v_a1_length v_a1_bytes v_next v_start v_kind v_value v_draft_became v_draft_items v_draft_inputs v_draft_muls v_draft_cells v_draft_depths y2 y3 t0 t1 = some out → va_P (dC, dI) vwCl [(h_this, .inr (3, [.ref h_draft, .int v_next, .int v_start, .int v_kind, .int v_value])), (h_draft, .inr (2, [.ref h_draft_cells, .ref h_draft_depths, .int v_draft_became, .int v_draft_items, .int v_draft_inputs, .int v_draft_muls])), (h_draft_cells, .inl (k_draft_cells, 96, .inl v_draft_cells)), (h_draft_depths, .inl (k_draft_depths, 16, .inl v_draft_depths)), (h_a1, .inr (7, [.ref h_a1_bytes, .int v_a1_length])), (h_a1_bytes, .inl (k_a1_bytes, 300, .inl v_a1_bytes))] H → va_D A [(h_this, .inr (3, [.ref h_draft, .int v_next, .int v_start, .int v_kind, .int v_value])), (h_draft, .inr (2, [.ref h_draft_cells, .ref h_draft_depths, .int v_draft_became, .int v_draft_items, .int v_draft_inputs, .int v_draft_muls])), (h_draft_cells, .inl (k_draft_cells, 96, .inl v_draft_cells)), (h_draft_depths, .inl (k_draft_depths, 16, .inl v_draft_depths)), (h_a1, .inr (7, [.ref h_a1_bytes, .int v_a1_length])), (h_a1_bytes, .inl (k_a1_bytes, 300, .inl v_a1_bytes))] → va_S A s.heap H locs → lv_has ls 7 [(0, .ref h_this), (1, .ref h_a1), (2, .int y2), (3, .int y3)] → W p l e ({ frames := 5, cells := 0, slots := 0, locals := 109 } : Room) s m args below meth c H locs 0 0 Q (F0 m 64 ls [.int t1, .int t0]) := by
    intro v_next v_start v_kind v_value v_draft_became v_draft_items v_draft_inputs v_draft_muls v_draft_cells v_draft_depths y2 y3 t0 t1 H locs ls hF hP hD hS hl
    unfold f_X3_readItem_64 at hF
    refine lv_icmp_eq (tgt := 69) hx hb dX3_readItem_64 (by decide) (fun c_64 => ?_) (fun c_64 => ?_)
    · have hF := gi_t c_64 hF
      refine lv_bipush (v := (-9 : Int32)) hx hb dX3_readItem_69 (by decide) ?_
      refine lv_istore (lv' := [(4, .int (-9 : Int32)), (0, .ref h_this), (1, .ref h_a1), (2, .int y2), (3, .int y3)]) hx hb dX3_readItem_71 hl (by decide) rfl (fun ls hl => ?_)
      refine lv_bipush (v := (-9 : Int32)) hx hb dX3_readItem_73 (by decide) ?_
      refine lv_istore (lv' := [(5, .int (-9 : Int32)), (4, .int (-9 : Int32)), (0, .ref h_this), (1, .ref h_a1), (2, .int y2), (3, .int y3)]) hx hb dX3_readItem_75 hl (by decide) rfl (fun ls hl => ?_)
      refine lv_bipush (v := (-9 : Int32)) hx hb dX3_readItem_77 (by decide) ?_
      refine lv_istore (lv' := [(6, .int (-9 : Int32)), (5, .int (-9 : Int32)), (4, .int (-9 : Int32)), (0, .ref h_this), (1, .ref h_a1), (2, .int y2), (3, .int y3)]) hx hb dX3_readItem_79 hl (by decide) rfl (fun ls hl => ?_)
      refine lv_iload_n hx hb dX3_readItem_81 rfl (lv_at hl 5 rfl) ?_
      refine lv_if_eq (tgt := 90) hx hb dX3_readItem_82 (by decide) (fun c_82 => ?_) (fun c_82 => ?_)
      · have hF := gi_t c_82 hF
        exact k_90 v_next v_start v_kind v_value v_draft_became v_draft_items v_draft_inputs v_draft_muls v_draft_cells v_draft_depths y2 y3 (-9 : Int32) (-9 : Int32) _ _ _ hF hP hD hS (lv_sub hl [3, 4, 5, 6, 2, 1] rfl)
      · have hF := gi_f c_82 hF
        refine lv_iload_n hx hb dX3_readItem_85 rfl (lv_at hl 5 rfl) ?_
        refine lv_iconst (v := (1 : Int32)) hx hb dX3_readItem_86 (by decide) ?_
        refine lv_icmp_ne (tgt := 114) hx hb dX3_readItem_87 (by decide) (fun c_87 => ?_) (fun c_87 => ?_)
        · have hF := gi_f c_87 hF
          refine lv_iload_n hx hb dX3_readItem_114 rfl (lv_at hl 5 rfl) ?_
          refine lv_iconst (v := (5 : Int32)) hx hb dX3_readItem_115 (by decide) ?_
          refine lv_icmp_eq (tgt := 147) hx hb dX3_readItem_116 (by decide) (fun c_116 => ?_) (fun c_116 => ?_)
          · have hF := gi_t c_116 hF
            exact k_147 v_next v_start v_kind v_value v_draft_became v_draft_items v_draft_inputs v_draft_muls v_draft_cells v_draft_depths y2 y3 (-9 : Int32) (-9 : Int32) (-9 : Int32) _ _ _ hF hP hD hS (lv_sub hl [3, 4, 5, 6, 2, 1, 0] rfl)
          · have hF := gi_f c_116 hF
            refine lv_aload_n hx hb dX3_readItem_119 rfl (lv_at hl 3 rfl) ?_
            refine lv_aload_n hx hb dX3_readItem_120 rfl (lv_at hl 4 rfl) ?_
            obtain ⟨z_121, hz_121, hF⟩ := gi_bind hF
            refine gRi (wc := [(h_this, .inr (3, [.ref h_draft, .int v_next, .int v_start, .int v_kind, .int v_value])), (h_draft, .inr (2, [.ref h_draft_cells, .ref h_draft_depths, .int v_draft_became, .int v_draft_items, .int v_draft_inputs, .int v_draft_muls])), (h_a1, .inr (7, [.ref h_a1_bytes, .int v_a1_length])), (h_a1_bytes, .inl (k_a1_bytes, 300, .inl v_a1_bytes))]) (wr := [(h_draft_cells, .inl (k_draft_cells, 96, .inl v_draft_cells)), (h_draft_depths, .inl (k_draft_depths, 16, .inl v_draft_depths))]) (w1 := [(h_this, .inr (3, [.ref h_draft, .int z_121.2.1, .int z_121.2.2.1, .int z_121.2.2.2.1, .int z_121.2.2.2.2])), (h_draft, .inr (2, [.ref h_draft_cells, .ref h_draft_depths, .int v_draft_became, .int v_draft_items, .int v_draft_inputs, .int v_draft_muls])), (h_a1, .inr (7, [.ref h_a1_bytes, .int v_a1_length])), (h_a1_bytes, .inl (k_a1_bytes, 300, .inl v_a1_bytes))]) hP hD hS hA [0, 1, 4, 5] [2, 3] rfl rfl (by decide) (by decide) (va_runV (As := [.ref h_a1]) (rest := []) CF (t_X3_readUsed l dC dI h_this h_draft v_next v_start v_kind v_value h_draft_cells h_draft_depths v_draft_became v_draft_items v_draft_inputs v_draft_muls h_a1 h_a1_bytes v_a1_length k_a1_bytes v_a1_bytes H.size  N z_121 hz_121) cw53 (gPV (ci := 3) hP hD hK hN [0, 1, 4, 5] [2] (by decide) rfl rfl (q0 := 0) rfl rfl) rfl rfl hl.1 rfl (lv_room (Nat.le_of_ble_eq_true rfl)) dX3_readItem_121 ⟨Nat.zero_le _, Nat.zero_le _⟩) (fun H locs hP hD hS => ?_)
            have hP : va_P (dC, dI) vwCl [(h_draft_cells, .inl (k_draft_cells, 96, .inl v_draft_cells)), (h_draft_depths, .inl (k_draft_depths, 16, .inl v_draft_depths)), (h_this, .inr (3, [.ref h_draft, .int z_121.2.1, .int z_121.2.2.1, .int z_121.2.2.2.1, .int z_121.2.2.2.2])), (h_draft, .inr (2, [.ref h_draft_cells, .ref h_draft_depths, .int v_draft_became, .int v_draft_items, .int v_draft_inputs, .int v_draft_muls])), (h_a1, .inr (7, [.ref h_a1_bytes, .int v_a1_length])), (h_a1_bytes, .inl (k_a1_bytes, 300, .inl v_a1_bytes))] H := hP
            have hD : va_D A [(h_draft_cells, .inl (k_draft_cells, 96, .inl v_draft_cells)), (h_draft_depths, .inl (k_draft_depths, 16, .inl v_draft_depths)), (h_this, .inr (3, [.ref h_draft, .int z_121.2.1, .int z_121.2.2.1, .int z_121.2.2.2.1, .int z_121.2.2.2.2])), (h_draft, .inr (2, [.ref h_draft_cells, .ref h_draft_depths, .int v_draft_became, .int v_draft_items, .int v_draft_inputs, .int v_draft_muls])), (h_a1, .inr (7, [.ref h_a1_bytes, .int v_a1_length])), (h_a1_bytes, .inl (k_a1_bytes, 300, .inl v_a1_bytes))] := hD
            refine lv_istore (lv' := [(4, .int z_121.1), (6, .int (-9 : Int32)), (5, .int (-9 : Int32)), (0, .ref h_this), (1, .ref h_a1), (2, .int y2), (3, .int y3)]) hx hb dX3_readItem_124 hl (by decide) rfl (fun ls hl => ?_)
            refine lv_iload hx hb dX3_readItem_126 (lv_at hl 0 rfl) ?_
            refine lv_if_ge (tgt := 133) hx hb dX3_readItem_128 (by decide) (fun c_128 => ?_) (fun c_128 => ?_)
            · have hF := gi_t c_128 hF
              refine lv_aload_n hx hb dX3_readItem_133 rfl (lv_at hl 3 rfl) ?_
              refine lv_aload_n hx hb dX3_readItem_134 rfl (lv_at hl 4 rfl) ?_
              obtain ⟨z_135, hz_135, hF⟩ := gi_bind hF
              refine gRi (wc := [(h_this, .inr (3, [.ref h_draft, .int z_121.2.1, .int z_121.2.2.1, .int z_121.2.2.2.1, .int z_121.2.2.2.2])), (h_draft, .inr (2, [.ref h_draft_cells, .ref h_draft_depths, .int v_draft_became, .int v_draft_items, .int v_draft_inputs, .int v_draft_muls])), (h_a1, .inr (7, [.ref h_a1_bytes, .int v_a1_length])), (h_a1_bytes, .inl (k_a1_bytes, 300, .inl v_a1_bytes))]) (wr := [(h_draft_cells, .inl (k_draft_cells, 96, .inl v_draft_cells)), (h_draft_depths, .inl (k_draft_depths, 16, .inl v_draft_depths))]) (w1 := [(h_this, .inr (3, [.ref h_draft, .int z_135.2.1, .int z_135.2.2.1, .int z_135.2.2.2.1, .int z_135.2.2.2.2])), (h_draft, .inr (2, [.ref h_draft_cells, .ref h_draft_depths, .int v_draft_became, .int v_draft_items, .int v_draft_inputs, .int v_draft_muls])), (h_a1, .inr (7, [.ref h_a1_bytes, .int v_a1_length])), (h_a1_bytes, .inl (k_a1_bytes, 300, .inl v_a1_bytes))]) hP hD hS hA [2, 3, 4, 5] [0, 1] rfl rfl (by decide) (by decide) (va_runV (As := [.ref h_a1]) (rest := []) CF (t_X3_readUsed l dC dI h_this h_draft z_121.2.1 z_121.2.2.1 z_121.2.2.2.1 z_121.2.2.2.2 h_draft_cells h_draft_depths v_draft_became v_draft_items v_draft_inputs v_draft_muls h_a1 h_a1_bytes v_a1_length k_a1_bytes v_a1_bytes H.size  N z_135 hz_135) cw53 (gPV (ci := 3) hP hD hK hN [2, 3, 4, 5] [2] (by decide) rfl rfl (q0 := 2) rfl rfl) rfl rfl hl.1 rfl (lv_room (Nat.le_of_ble_eq_true rfl)) dX3_readItem_135 ⟨Nat.zero_le _, Nat.zero_le _⟩) (fun H locs hP hD hS => ?_)
              have hP : va_P (dC, dI) vwCl [(h_draft_cells, .inl (k_draft_cells, 96, .inl v_draft_cells)), (h_draft_depths, .inl (k_draft_depths, 16, .inl v_draft_depths)), (h_this, .inr (3, [.ref h_draft, .int z_135.2.1, .int z_135.2.2.1, .int z_135.2.2.2.1, .int z_135.2.2.2.2])), (h_draft, .inr (2, [.ref h_draft_cells, .ref h_draft_depths, .int v_draft_became, .int v_draft_items, .int v_draft_inputs, .int v_draft_muls])), (h_a1, .inr (7, [.ref h_a1_bytes, .int v_a1_length])), (h_a1_bytes, .inl (k_a1_bytes, 300, .inl v_a1_bytes))] H := hP
              have hD : va_D A [(h_draft_cells, .inl (k_draft_cells, 96, .inl v_draft_cells)), (h_draft_depths, .inl (k_draft_depths, 16, .inl v_draft_depths)), (h_this, .inr (3, [.ref h_draft, .int z_135.2.1, .int z_135.2.2.1, .int z_135.2.2.2.1, .int z_135.2.2.2.2])), (h_draft, .inr (2, [.ref h_draft_cells, .ref h_draft_depths, .int v_draft_became, .int v_draft_items, .int v_draft_inputs, .int v_draft_muls])), (h_a1, .inr (7, [.ref h_a1_bytes, .int v_a1_length])), (h_a1_bytes, .inl (k_a1_bytes, 300, .inl v_a1_bytes))] := hD
              refine lv_istore (lv' := [(5, .int z_135.1), (4, .int z_121.1), (6, .int (-9 : Int32)), (0, .ref h_this), (1, .ref h_a1), (2, .int y2), (3, .int y3)]) hx hb dX3_readItem_138 hl (by decide) rfl (fun ls hl => ?_)
              refine lv_iload hx hb dX3_readItem_140 (lv_at hl 0 rfl) ?_
              refine lv_if_ge (tgt := 147) hx hb dX3_readItem_142 (by decide) (fun c_142 => ?_) (fun c_142 => ?_)
              · have hF := gi_t c_142 hF
                exact k_147 z_135.2.1 z_135.2.2.1 z_135.2.2.2.1 z_135.2.2.2.2 v_draft_became v_draft_items v_draft_inputs v_draft_muls v_draft_cells v_draft_depths y2 y3 z_121.1 z_135.1 (-9 : Int32) _ _ _ hF (hP.sub [2, 3, 0, 1, 4, 5] rfl) (hD.sub [2, 3, 0, 1, 4, 5] (by decide) rfl) hS (lv_sub hl [3, 4, 5, 6, 1, 0, 2] rfl)
              · have hF := gi_f c_142 hF
                refine lv_iconst (v := (-1 : Int32)) hx hb dX3_readItem_145 (by decide) ?_
                have hF := Option.some.inj hF
                subst hF
                exact hret _ _ _ _ dX3_readItem_146 (hP.sub [2, 3, 0, 1, 4, 5] rfl) (hD.sub [2, 3, 0, 1, 4, 5] (by decide) rfl) hS
            · have hF := gi_f c_128 hF
              refine lv_iconst (v := (-1 : Int32)) hx hb dX3_readItem_131 (by decide) ?_
              have hF := Option.some.inj hF
              subst hF
              exact hret _ _ _ _ dX3_readItem_132 (hP.sub [2, 3, 0, 1, 4, 5] rfl) (hD.sub [2, 3, 0, 1, 4, 5] (by decide) rfl) hS
        · have hF := gi_t c_87 hF
          exact k_90 v_next v_start v_kind v_value v_draft_became v_draft_items v_draft_inputs v_draft_muls v_draft_cells v_draft_depths y2 y3 (-9 : Int32) (-9 : Int32) _ _ _ hF hP hD hS (lv_sub hl [3, 4, 5, 6, 2, 1] rfl)
    · have hF := gi_f c_64 hF
      refine lv_iconst (v := (-1 : Int32)) hx hb dX3_readItem_67 (by decide) ?_
      have hF := Option.some.inj hF
      subst hF
      exact hret _ _ _ _ dX3_readItem_68 hP hD hS
  unfold f_X3_readItem at hF
  refine lv_aload_n hx hb dX3_readItem_0 rfl (lv_at hl 0 rfl) ?_
  refine lv_aload_n hx hb dX3_readItem_1 rfl (lv_at hl 1 rfl) ?_
  obtain ⟨z_2, hz_2, hF⟩ := gi_bind hF
  refine gRv (wc := [(h_this, .inr (3, [.ref h_draft, .int v_next, .int v_start, .int v_kind, .int v_value])), (h_a1, .inr (7, [.ref h_a1_bytes, .int v_a1_length])), (h_a1_bytes, .inl (k_a1_bytes, 300, .inl v_a1_bytes))]) (wr := [(h_draft, .inr (2, [.ref h_draft_cells, .ref h_draft_depths, .int v_draft_became, .int v_draft_items, .int v_draft_inputs, .int v_draft_muls])), (h_draft_cells, .inl (k_draft_cells, 96, .inl v_draft_cells)), (h_draft_depths, .inl (k_draft_depths, 16, .inl v_draft_depths))]) (w1 := [(h_this, .inr (3, [.ref h_draft, .int z_2.1, .int z_2.2.1, .int z_2.2.2.1, .int z_2.2.2.2])), (h_a1, .inr (7, [.ref h_a1_bytes, .int v_a1_length])), (h_a1_bytes, .inl (k_a1_bytes, 300, .inl v_a1_bytes))]) hP hD hS hA [0, 4, 5] [1, 2, 3] rfl rfl (by decide) (by decide) (va_runV (As := [.ref h_a1]) (rest := []) CF (t_X3_step l dC dI h_this h_draft v_next v_start v_kind v_value h_a1 h_a1_bytes v_a1_length k_a1_bytes v_a1_bytes s.heap.size  N z_2 hz_2) cw32 (gPV (ci := 3) hP hD hK hN [0, 4, 5] [2] (by decide) rfl rfl (q0 := 0) rfl rfl) rfl rfl hl.1 rfl (lv_room (Nat.le_of_ble_eq_true rfl)) dX3_readItem_2 ⟨Nat.zero_le _, Nat.zero_le _⟩) (fun H locs hP hD hS => ?_)
  have hP : va_P (dC, dI) vwCl [(h_draft, .inr (2, [.ref h_draft_cells, .ref h_draft_depths, .int v_draft_became, .int v_draft_items, .int v_draft_inputs, .int v_draft_muls])), (h_draft_cells, .inl (k_draft_cells, 96, .inl v_draft_cells)), (h_draft_depths, .inl (k_draft_depths, 16, .inl v_draft_depths)), (h_this, .inr (3, [.ref h_draft, .int z_2.1, .int z_2.2.1, .int z_2.2.2.1, .int z_2.2.2.2])), (h_a1, .inr (7, [.ref h_a1_bytes, .int v_a1_length])), (h_a1_bytes, .inl (k_a1_bytes, 300, .inl v_a1_bytes))] H := hP
  have hD : va_D A [(h_draft, .inr (2, [.ref h_draft_cells, .ref h_draft_depths, .int v_draft_became, .int v_draft_items, .int v_draft_inputs, .int v_draft_muls])), (h_draft_cells, .inl (k_draft_cells, 96, .inl v_draft_cells)), (h_draft_depths, .inl (k_draft_depths, 16, .inl v_draft_depths)), (h_this, .inr (3, [.ref h_draft, .int z_2.1, .int z_2.2.1, .int z_2.2.2.1, .int z_2.2.2.2])), (h_a1, .inr (7, [.ref h_a1_bytes, .int v_a1_length])), (h_a1_bytes, .inl (k_a1_bytes, 300, .inl v_a1_bytes))] := hD
  refine lv_aload_n hx hb dX3_readItem_5 rfl (lv_at hl 0 rfl) ?_
  refine va_get (D := (dC, dI)) (ci := 3) (v := .int z_2.2.2.2) (C := RX3) (T := TX3) (N := 5) hx hb hts in_X3 hown hK hP 3 rfl rfl 4 (by decide) hL39 (fun _ h9 => h9) rfl dX3_readItem_6 ?_
  refine lv_istore_n (lv' := [(2, .int z_2.2.2.2), (0, .ref h_this), (1, .ref h_a1)]) hx hb dX3_readItem_9 rfl hl (by decide) rfl (fun ls hl => ?_)
  refine lv_aload_n hx hb dX3_readItem_10 rfl (lv_at hl 1 rfl) ?_
  refine va_get (D := (dC, dI)) (ci := 3) (v := .int z_2.2.2.1) (C := RX3) (T := TX3) (N := 5) hx hb hts in_X3 hown hK hP 3 rfl rfl 3 (by decide) hL36 (fun _ h9 => h9) rfl dX3_readItem_11 ?_
  refine lv_iconst (v := (1 : Int32)) hx hb dX3_readItem_14 (by decide) ?_
  refine lv_icmp_ne (tgt := 26) hx hb dX3_readItem_15 (by decide) (fun c_15 => ?_) (fun c_15 => ?_)
  · have hF := gi_f c_15 hF
    refine lv_iconst (v := (-1 : Int32)) hx hb dX3_readItem_26 (by decide) ?_
    have hF := Option.some.inj hF
    subst hF
    exact hret _ _ _ _ dX3_readItem_27 (hP.sub [3, 0, 1, 2, 4, 5] rfl) (hD.sub [3, 0, 1, 2, 4, 5] (by decide) rfl) hS
  · have hF := gi_t c_15 hF
    refine lv_aload_n hx hb dX3_readItem_18 rfl (lv_at hl 1 rfl) ?_
    refine lv_iload_n hx hb dX3_readItem_19 rfl (lv_at hl 0 rfl) ?_
    obtain ⟨z_20, hz_20, hF⟩ := gi_bind hF
    refine gRi (wc := [(h_this, .inr (3, [.ref h_draft, .int z_2.1, .int z_2.2.1, .int z_2.2.2.1, .int z_2.2.2.2])), (h_draft, .inr (2, [.ref h_draft_cells, .ref h_draft_depths, .int v_draft_became, .int v_draft_items, .int v_draft_inputs, .int v_draft_muls]))]) (wr := [(h_draft_cells, .inl (k_draft_cells, 96, .inl v_draft_cells)), (h_draft_depths, .inl (k_draft_depths, 16, .inl v_draft_depths)), (h_a1, .inr (7, [.ref h_a1_bytes, .int v_a1_length])), (h_a1_bytes, .inl (k_a1_bytes, 300, .inl v_a1_bytes))]) (w1 := [(h_this, .inr (3, [.ref h_draft, .int z_2.1, .int z_2.2.1, .int z_2.2.2.1, .int z_2.2.2.2])), (h_draft, .inr (2, [.ref h_draft_cells, .ref h_draft_depths, .int v_draft_became, .int v_draft_items, .int v_draft_inputs, .int v_draft_muls]))]) hP hD hS hA [3, 0] [1, 2, 4, 5] rfl rfl (by decide) (by decide) (va_runV (As := [.int z_2.2.2.2]) (rest := []) CF (t_X3_mayBegin l dC dI h_this h_draft z_2.1 z_2.2.1 z_2.2.2.1 z_2.2.2.2 h_draft_cells h_draft_depths v_draft_became v_draft_items v_draft_inputs v_draft_muls H.size z_2.2.2.2 N z_20 hz_20) cw42 (gPV (ci := 3) hP hD hK hN [3, 0] [] (by decide) rfl rfl (q0 := 3) rfl rfl) rfl rfl hl.1 rfl (lv_room (Nat.le_of_ble_eq_true rfl)) dX3_readItem_20 ⟨Nat.zero_le _, Nat.zero_le _⟩) (fun H locs hP hD hS => ?_)
    have hP : va_P (dC, dI) vwCl [(h_draft_cells, .inl (k_draft_cells, 96, .inl v_draft_cells)), (h_draft_depths, .inl (k_draft_depths, 16, .inl v_draft_depths)), (h_a1, .inr (7, [.ref h_a1_bytes, .int v_a1_length])), (h_a1_bytes, .inl (k_a1_bytes, 300, .inl v_a1_bytes)), (h_this, .inr (3, [.ref h_draft, .int z_2.1, .int z_2.2.1, .int z_2.2.2.1, .int z_2.2.2.2])), (h_draft, .inr (2, [.ref h_draft_cells, .ref h_draft_depths, .int v_draft_became, .int v_draft_items, .int v_draft_inputs, .int v_draft_muls]))] H := hP
    have hD : va_D A [(h_draft_cells, .inl (k_draft_cells, 96, .inl v_draft_cells)), (h_draft_depths, .inl (k_draft_depths, 16, .inl v_draft_depths)), (h_a1, .inr (7, [.ref h_a1_bytes, .int v_a1_length])), (h_a1_bytes, .inl (k_a1_bytes, 300, .inl v_a1_bytes)), (h_this, .inr (3, [.ref h_draft, .int z_2.1, .int z_2.2.1, .int z_2.2.2.1, .int z_2.2.2.2])), (h_draft, .inr (2, [.ref h_draft_cells, .ref h_draft_depths, .int v_draft_became, .int v_draft_items, .int v_draft_inputs, .int v_draft_muls]))] := hD
    refine lv_if_ne (tgt := 28) hx hb dX3_readItem_23 (by decide) (fun c_23 => ?_) (fun c_23 => ?_)
    · have hF := gi_f c_23 hF
      refine lv_aload_n hx hb dX3_readItem_28 rfl (lv_at hl 1 rfl) ?_
      refine lv_aload_n hx hb dX3_readItem_29 rfl (lv_at hl 2 rfl) ?_
      obtain ⟨z_30, hz_30, hF⟩ := gi_bind hF
      refine gRv (wc := [(h_this, .inr (3, [.ref h_draft, .int z_2.1, .int z_2.2.1, .int z_2.2.2.1, .int z_2.2.2.2])), (h_a1, .inr (7, [.ref h_a1_bytes, .int v_a1_length])), (h_a1_bytes, .inl (k_a1_bytes, 300, .inl v_a1_bytes))]) (wr := [(h_draft_cells, .inl (k_draft_cells, 96, .inl v_draft_cells)), (h_draft_depths, .inl (k_draft_depths, 16, .inl v_draft_depths)), (h_draft, .inr (2, [.ref h_draft_cells, .ref h_draft_depths, .int v_draft_became, .int v_draft_items, .int v_draft_inputs, .int v_draft_muls]))]) (w1 := [(h_this, .inr (3, [.ref h_draft, .int z_30.1, .int z_30.2.1, .int z_30.2.2.1, .int z_30.2.2.2])), (h_a1, .inr (7, [.ref h_a1_bytes, .int v_a1_length])), (h_a1_bytes, .inl (k_a1_bytes, 300, .inl v_a1_bytes))]) hP hD hS hA [4, 2, 3] [0, 1, 5] rfl rfl (by decide) (by decide) (va_runV (As := [.ref h_a1]) (rest := []) CF (t_X3_step l dC dI h_this h_draft z_2.1 z_2.2.1 z_2.2.2.1 z_2.2.2.2 h_a1 h_a1_bytes v_a1_length k_a1_bytes v_a1_bytes H.size  N z_30 hz_30) cw32 (gPV (ci := 3) hP hD hK hN [4, 2, 3] [2] (by decide) rfl rfl (q0 := 4) rfl rfl) rfl rfl hl.1 rfl (lv_room (Nat.le_of_ble_eq_true rfl)) dX3_readItem_30 ⟨Nat.zero_le _, Nat.zero_le _⟩) (fun H locs hP hD hS => ?_)
      have hP : va_P (dC, dI) vwCl [(h_draft_cells, .inl (k_draft_cells, 96, .inl v_draft_cells)), (h_draft_depths, .inl (k_draft_depths, 16, .inl v_draft_depths)), (h_draft, .inr (2, [.ref h_draft_cells, .ref h_draft_depths, .int v_draft_became, .int v_draft_items, .int v_draft_inputs, .int v_draft_muls])), (h_this, .inr (3, [.ref h_draft, .int z_30.1, .int z_30.2.1, .int z_30.2.2.1, .int z_30.2.2.2])), (h_a1, .inr (7, [.ref h_a1_bytes, .int v_a1_length])), (h_a1_bytes, .inl (k_a1_bytes, 300, .inl v_a1_bytes))] H := hP
      have hD : va_D A [(h_draft_cells, .inl (k_draft_cells, 96, .inl v_draft_cells)), (h_draft_depths, .inl (k_draft_depths, 16, .inl v_draft_depths)), (h_draft, .inr (2, [.ref h_draft_cells, .ref h_draft_depths, .int v_draft_became, .int v_draft_items, .int v_draft_inputs, .int v_draft_muls])), (h_this, .inr (3, [.ref h_draft, .int z_30.1, .int z_30.2.1, .int z_30.2.2.1, .int z_30.2.2.2])), (h_a1, .inr (7, [.ref h_a1_bytes, .int v_a1_length])), (h_a1_bytes, .inl (k_a1_bytes, 300, .inl v_a1_bytes))] := hD
      refine lv_aload_n hx hb dX3_readItem_33 rfl (lv_at hl 1 rfl) ?_
      refine va_get (D := (dC, dI)) (ci := 3) (v := .int z_30.2.2.2) (C := RX3) (T := TX3) (N := 5) hx hb hts in_X3 hown hK hP 3 rfl rfl 4 (by decide) hL39 (fun _ h9 => h9) rfl dX3_readItem_34 ?_
      refine lv_istore_n (lv' := [(3, .int z_30.2.2.2), (2, .int z_2.2.2.2), (0, .ref h_this), (1, .ref h_a1)]) hx hb dX3_readItem_37 rfl hl (by decide) rfl (fun ls hl => ?_)
      refine lv_aload_n hx hb dX3_readItem_38 rfl (lv_at hl 2 rfl) ?_
      refine va_get (D := (dC, dI)) (ci := 3) (v := .int z_30.2.2.1) (C := RX3) (T := TX3) (N := 5) hx hb hts in_X3 hown hK hP 3 rfl rfl 3 (by decide) hL36 (fun _ h9 => h9) rfl dX3_readItem_39 ?_
      refine lv_iconst (v := (2 : Int32)) hx hb dX3_readItem_42 (by decide) ?_
      refine lv_icmp_ne (tgt := 67) hx hb dX3_readItem_43 (by decide) (fun c_43 => ?_) (fun c_43 => ?_)
      · have hF := gi_f c_43 hF
        refine lv_iconst (v := (-1 : Int32)) hx hb dX3_readItem_67 (by decide) ?_
        have hF := Option.some.inj hF
        subst hF
        exact hret _ _ _ _ dX3_readItem_68 (hP.sub [3, 2, 0, 1, 4, 5] rfl) (hD.sub [3, 2, 0, 1, 4, 5] (by decide) rfl) hS
      · have hF := gi_t c_43 hF
        refine lv_aload_n hx hb dX3_readItem_46 rfl (lv_at hl 2 rfl) ?_
        refine va_get (D := (dC, dI)) (ci := 3) (v := .ref h_draft) (C := RX3) (T := TX3) (N := 5) hx hb hts in_X3 hown hK hP 3 rfl rfl 0 (by decide) hL12 (fun _ h9 => h9) rfl dX3_readItem_47 ?_
        refine lv_iload_n hx hb dX3_readItem_50 rfl (lv_at hl 0 rfl) ?_
        obtain ⟨z_51, hz_51, hF⟩ := gi_bind hF
        refine gRi (wc := [(h_draft, .inr (2, [.ref h_draft_cells, .ref h_draft_depths, .int v_draft_became, .int v_draft_items, .int v_draft_inputs, .int v_draft_muls]))]) (wr := [(h_draft_cells, .inl (k_draft_cells, 96, .inl v_draft_cells)), (h_draft_depths, .inl (k_draft_depths, 16, .inl v_draft_depths)), (h_this, .inr (3, [.ref h_draft, .int z_30.1, .int z_30.2.1, .int z_30.2.2.1, .int z_30.2.2.2])), (h_a1, .inr (7, [.ref h_a1_bytes, .int v_a1_length])), (h_a1_bytes, .inl (k_a1_bytes, 300, .inl v_a1_bytes))]) (w1 := [(h_draft, .inr (2, [.ref h_draft_cells, .ref h_draft_depths, .int v_draft_became, .int v_draft_items, .int v_draft_inputs, .int v_draft_muls]))]) hP hD hS hA [2] [0, 1, 3, 4, 5] rfl rfl (by decide) (by decide) (va_runV (As := [.int z_30.2.2.2]) (rest := []) CF (t_X2_hasBecome l dC dI h_draft h_draft_cells h_draft_depths v_draft_became v_draft_items v_draft_inputs v_draft_muls H.size z_30.2.2.2 N z_51 hz_51) cw46 (gPV (ci := 2) hP hD hK hN [2] [] (by decide) rfl rfl (q0 := 2) rfl rfl) rfl rfl hl.1 rfl (lv_room (Nat.le_of_ble_eq_true rfl)) dX3_readItem_51 ⟨Nat.zero_le _, Nat.zero_le _⟩) (fun H locs hP hD hS => ?_)
        have hP : va_P (dC, dI) vwCl [(h_draft_cells, .inl (k_draft_cells, 96, .inl v_draft_cells)), (h_draft_depths, .inl (k_draft_depths, 16, .inl v_draft_depths)), (h_this, .inr (3, [.ref h_draft, .int z_30.1, .int z_30.2.1, .int z_30.2.2.1, .int z_30.2.2.2])), (h_a1, .inr (7, [.ref h_a1_bytes, .int v_a1_length])), (h_a1_bytes, .inl (k_a1_bytes, 300, .inl v_a1_bytes)), (h_draft, .inr (2, [.ref h_draft_cells, .ref h_draft_depths, .int v_draft_became, .int v_draft_items, .int v_draft_inputs, .int v_draft_muls]))] H := hP
        have hD : va_D A [(h_draft_cells, .inl (k_draft_cells, 96, .inl v_draft_cells)), (h_draft_depths, .inl (k_draft_depths, 16, .inl v_draft_depths)), (h_this, .inr (3, [.ref h_draft, .int z_30.1, .int z_30.2.1, .int z_30.2.2.1, .int z_30.2.2.2])), (h_a1, .inr (7, [.ref h_a1_bytes, .int v_a1_length])), (h_a1_bytes, .inl (k_a1_bytes, 300, .inl v_a1_bytes)), (h_draft, .inr (2, [.ref h_draft_cells, .ref h_draft_depths, .int v_draft_became, .int v_draft_items, .int v_draft_inputs, .int v_draft_muls]))] := hD
        refine lv_iload_n hx hb dX3_readItem_54 rfl (lv_at hl 1 rfl) ?_
        refine lv_iconst (v := (5 : Int32)) hx hb dX3_readItem_55 (by decide) ?_
        refine lv_icmp_ne (tgt := 63) hx hb dX3_readItem_56 (by decide) (fun c_56 => ?_) (fun c_56 => ?_)
        · have hF := gi_f c_56 hF
          refine lv_iconst (v := (0 : Int32)) hx hb dX3_readItem_63 (by decide) ?_
          exact k_64 z_30.1 z_30.2.1 z_30.2.2.1 z_30.2.2.2 v_draft_became v_draft_items v_draft_inputs v_draft_muls v_draft_cells v_draft_depths z_2.2.2.2 z_30.2.2.2 z_51 (0 : Int32) _ _ _ hF (hP.sub [2, 5, 0, 1, 3, 4] rfl) (hD.sub [2, 5, 0, 1, 3, 4] (by decide) rfl) hS (lv_sub hl [2, 3, 1, 0] rfl)
        · have hF := gi_t c_56 hF
          refine lv_iconst (v := (1 : Int32)) hx hb dX3_readItem_59 (by decide) ?_
          refine lv_goto (tgt := 64) hx hb dX3_readItem_60 (by decide) ?_
          exact k_64 z_30.1 z_30.2.1 z_30.2.2.1 z_30.2.2.2 v_draft_became v_draft_items v_draft_inputs v_draft_muls v_draft_cells v_draft_depths z_2.2.2.2 z_30.2.2.2 z_51 (1 : Int32) _ _ _ hF (hP.sub [2, 5, 0, 1, 3, 4] rfl) (hD.sub [2, 5, 0, 1, 3, 4] (by decide) rfl) hS (lv_sub hl [2, 3, 1, 0] rfl)
    · have hF := gi_t c_23 hF
      refine lv_iconst (v := (-1 : Int32)) hx hb dX3_readItem_26 (by decide) ?_
      have hF := Option.some.inj hF
      subst hF
      exact hret _ _ _ _ dX3_readItem_27 (hP.sub [4, 5, 0, 1, 2, 3] rfl) (hD.sub [4, 5, 0, 1, 2, 3] (by decide) rfl) hS
abbrev O_X3_faultOf : Type := Int32 × Int32 × Int32 × Int32 × Int32 × Int32 × Int32 × Int32 × Int32 × (Nat → Int32) × (Nat → Int32)
def f_X3_faultOf_40 (N : Nat) (v_a1_length : Int32) (v_a1_bytes : Nat → Int32) (v_next : Int32) (v_start : Int32) (v_kind : Int32) (v_value : Int32) (v_draft_became : Int32) (v_draft_items : Int32) (v_draft_inputs : Int32) (v_draft_muls : Int32) (v_draft_cells : Nat → Int32) (v_draft_depths : Nat → Int32) : Option O_X3_faultOf :=
  (f_X3_step N v_a1_length v_a1_bytes v_next v_start v_kind v_value).bind (fun z_42 => if z_42.2.2.1 = 0 then (some ((-1 : Int32), z_42.1, z_42.2.1, z_42.2.2.1, z_42.2.2.2, v_draft_became, v_draft_items, v_draft_inputs, v_draft_muls, v_draft_cells, v_draft_depths)) else (some (z_42.2.1, z_42.1, z_42.2.1, z_42.2.2.1, z_42.2.2.2, v_draft_became, v_draft_items, v_draft_inputs, v_draft_muls, v_draft_cells, v_draft_depths)))
def s_X3_faultOf_14 (N : Nat) (v_a1_length : Int32) (v_a1_bytes : Nat → Int32) (r_14 : Int32 → Int32 → Int32 → Int32 → Int32 → Int32 → Int32 → Int32 → (Nat → Int32) → (Nat → Int32) → Int32 → Option O_X3_faultOf) (v_next : Int32) (v_start : Int32) (v_kind : Int32) (v_value : Int32) (v_draft_became : Int32) (v_draft_items : Int32) (v_draft_inputs : Int32) (v_draft_muls : Int32) (v_draft_cells : Nat → Int32) (v_draft_depths : Nat → Int32) (y2 : Int32) : Option O_X3_faultOf :=
  if (16 : Int32) ≤ y2 then (some (v_start, v_next, v_start, v_kind, v_value, v_draft_became, v_draft_items, v_draft_inputs, v_draft_muls, v_draft_cells, v_draft_depths)) else ((f_X3_readItem N v_a1_length v_a1_bytes v_next v_start v_kind v_value v_draft_became v_draft_items v_draft_inputs v_draft_muls v_draft_cells v_draft_depths).bind (fun z_22 => if 0 ≤ z_22.1 then (if z_22.1 = (5 : Int32) then (f_X3_faultOf_40 N v_a1_length v_a1_bytes z_22.2.1 z_22.2.2.1 z_22.2.2.2.1 z_22.2.2.2.2.1 z_22.2.2.2.2.2.1 z_22.2.2.2.2.2.2.1 z_22.2.2.2.2.2.2.2.1 z_22.2.2.2.2.2.2.2.2.1 z_22.2.2.2.2.2.2.2.2.2.1 z_22.2.2.2.2.2.2.2.2.2.2) else (r_14 z_22.2.1 z_22.2.2.1 z_22.2.2.2.1 z_22.2.2.2.2.1 z_22.2.2.2.2.2.1 z_22.2.2.2.2.2.2.1 z_22.2.2.2.2.2.2.2.1 z_22.2.2.2.2.2.2.2.2.1 z_22.2.2.2.2.2.2.2.2.2.1 z_22.2.2.2.2.2.2.2.2.2.2 (y2 + 1))) else (some (z_22.2.2.1, z_22.2.1, z_22.2.2.1, z_22.2.2.2.1, z_22.2.2.2.2.1, z_22.2.2.2.2.2.1, z_22.2.2.2.2.2.2.1, z_22.2.2.2.2.2.2.2.1, z_22.2.2.2.2.2.2.2.2.1, z_22.2.2.2.2.2.2.2.2.2.1, z_22.2.2.2.2.2.2.2.2.2.2))))
def f_X3_faultOf_14 (N : Nat) (v_a1_length : Int32) (v_a1_bytes : Nat → Int32) (n : Nat) : Int32 → Int32 → Int32 → Int32 → Int32 → Int32 → Int32 → Int32 → (Nat → Int32) → (Nat → Int32) → Int32 → Option O_X3_faultOf := lpg (fun _ _ _ _ _ _ _ _ _ _ _ => none) (s_X3_faultOf_14 N v_a1_length v_a1_bytes) n
def f_X3_faultOf (N : Nat) (v_a1_length : Int32) (v_a1_bytes : Nat → Int32) (v_next : Int32) (v_start : Int32) (v_kind : Int32) (v_value : Int32) (v_draft_became : Int32) (v_draft_items : Int32) (v_draft_inputs : Int32) (v_draft_muls : Int32) (v_draft_cells : Nat → Int32) (v_draft_depths : Nat → Int32) : Option O_X3_faultOf :=
  (f_X2_empty N v_draft_became v_draft_items v_draft_inputs v_draft_muls).bind (fun z_4 => f_X3_faultOf_14 N v_a1_length v_a1_bytes N (0 : Int32) v_start v_kind v_value z_4.1 z_4.2.1 z_4.2.2.1 z_4.2.2.2 v_draft_cells v_draft_depths (0 : Int32))
set_option maxHeartbeats 4000000 in
set_option maxRecDepth 100000 in
theorem t_X3_faultOf (l : Launch) (dC : Nat → ClassId) (dI : Nat → Nat → Nat) (h_this : Nat) (h_draft : Nat) (v_next : Int32) (v_start : Int32) (v_kind : Int32) (v_value : Int32) (h_draft_cells : Nat) (h_draft_depths : Nat) (v_draft_became : Int32) (v_draft_items : Int32) (v_draft_inputs : Int32) (v_draft_muls : Int32) (k_draft_cells : ClassId) (v_draft_cells : Nat → Int32) (k_draft_depths : ClassId) (v_draft_depths : Nat → Int32) (h_a1 : Nat) (h_a1_bytes : Nat) (v_a1_length : Int32) (k_a1_bytes : ClassId) (v_a1_bytes : Nat → Int32) (sz : Nat) (N : Nat) (out : O_X3_faultOf) (hF : f_X3_faultOf N v_a1_length v_a1_bytes v_next v_start v_kind v_value v_draft_became v_draft_items v_draft_inputs v_draft_muls v_draft_cells v_draft_depths = some out) : gMi l yX3_faultOf wsX3_faultOf ({ frames := 6, cells := 0, slots := 0, locals := 135 } : Room) [.ref h_this, .ref h_a1] (dC, dI) [(h_this, .inr (3, [.ref h_draft, .int v_next, .int v_start, .int v_kind, .int v_value])), (h_draft, .inr (2, [.ref h_draft_cells, .ref h_draft_depths, .int v_draft_became, .int v_draft_items, .int v_draft_inputs, .int v_draft_muls])), (h_draft_cells, .inl (k_draft_cells, 96, .inl v_draft_cells)), (h_draft_depths, .inl (k_draft_depths, 16, .inl v_draft_depths)), (h_a1, .inr (7, [.ref h_a1_bytes, .int v_a1_length])), (h_a1_bytes, .inl (k_a1_bytes, 300, .inl v_a1_bytes))] [(k_draft_cells, .int), (k_draft_depths, .int), (k_a1_bytes, .byte)] sz [(h_this, .inr (3, [.ref h_draft, .int out.2.1, .int out.2.2.1, .int out.2.2.2.1, .int out.2.2.2.2.1])), (h_draft, .inr (2, [.ref h_draft_cells, .ref h_draft_depths, .int out.2.2.2.2.2.1, .int out.2.2.2.2.2.2.1, .int out.2.2.2.2.2.2.2.1, .int out.2.2.2.2.2.2.2.2.1])), (h_draft_cells, .inl (k_draft_cells, 96, .inl out.2.2.2.2.2.2.2.2.2.1)), (h_draft_depths, .inl (k_draft_depths, 16, .inl out.2.2.2.2.2.2.2.2.2.2)), (h_a1, .inr (7, [.ref h_a1_bytes, .int v_a1_length])), (h_a1_bytes, .inl (k_a1_bytes, 300, .inl v_a1_bytes))] out.1 := by
  refine gEi (cc := cX3_faultOf) (maxL := 4) (by decide) rfl (Nat.le_of_ble_eq_true rfl) ?_
  intro p e s m args below meth c Q A ls CF hK hN hA hret hP hD hS hl
  have hx := CF.1
  have hb := CF.2.1
  have hml := CF.2.2.1
  have hown : s.vm.findClass RX3 = some m.cls := CF.2.2.2.1
  have hts := CF.2.2.2.2
  have hl : lv_has ls 4 [(0, .ref h_this), (1, .ref h_a1)] := hl
  have in_X3 : ∀ w ∈ wsX30, w ∈ wsX3_faultOf := fun w h => List.mem_cons_of_mem _ (List.mem_append_left _ (List.mem_append_left _ (List.mem_append_right _ h)))
  have hL12 : (Cond.fieldLink RX3 12 "DustSums$Reader" "draft" "LDustSums$Program;").before args s = true := hts (.fieldLink RX3 12 "DustSums$Reader" "draft" "LDustSums$Program;") (List.mem_of_getElem? (i := 1) rfl)
  have cw18 : CallW ({ frames := 6, cells := 0, slots := 0, locals := 135 } : Room) s args RX3 RX2 18 yX2_empty cX2_empty 1 none wsX2_empty ({ frames := 0, cells := 0, slots := 0, locals := 0 } : Room) 0 0 0 := cwV 0 hts gX3_faultOf_X2_empty rfl rfl rfl (by decide +kernel) ⟨Nat.le_of_ble_eq_true rfl, Nat.le_of_ble_eq_true rfl⟩
  have hL21 : (Cond.fieldLink RX3 21 "DustSums$Reader" "next" "I").before args s = true := hts (.fieldLink RX3 21 "DustSums$Reader" "next" "I") (List.mem_of_getElem? (i := 2) rfl)
  have hL29 : (Cond.fieldLink RX3 29 "DustSums$Reader" "start" "I").before args s = true := hts (.fieldLink RX3 29 "DustSums$Reader" "start" "I") (List.mem_of_getElem? (i := 3) rfl)
  have cw25 : CallW ({ frames := 6, cells := 0, slots := 0, locals := 135 } : Room) s args RX3 RX3 25 yX3_readItem cX3_readItem 7 (some .int) wsX3_readItem ({ frames := 5, cells := 0, slots := 0, locals := 109 } : Room) 0 0 1 := cwV 1 hts gX3_faultOf_X3_readItem rfl rfl rfl (by decide +kernel) ⟨Nat.le_of_ble_eq_true rfl, Nat.le_of_ble_eq_true rfl⟩
  have cw32 : CallW ({ frames := 6, cells := 0, slots := 0, locals := 135 } : Room) s args RX3 RX3 32 yX3_step cX3_step 3 none wsX3_step ({ frames := 3, cells := 0, slots := 0, locals := 65 } : Room) 0 0 1 := cwV 1 hts gX3_faultOf_X3_step rfl rfl rfl (by decide +kernel) ⟨Nat.le_of_ble_eq_true rfl, Nat.le_of_ble_eq_true rfl⟩
  have hL36 : (Cond.fieldLink RX3 36 "DustSums$Reader" "kind" "I").before args s = true := hts (.fieldLink RX3 36 "DustSums$Reader" "kind" "I") (List.mem_of_getElem? (i := 4) rfl)
  have k_40 : ∀ (v_next : Int32) (v_start : Int32) (v_kind : Int32) (v_value : Int32) (v_draft_became : Int32) (v_draft_items : Int32) (v_draft_inputs : Int32) (v_draft_muls : Int32) (v_draft_cells : Nat → Int32) (v_draft_depths : Nat → Int32) (H : Heap) (locs : List Loc) (ls : Array Slot), f_X3_faultOf_40 N v_a1_length v_a1_bytes v_next v_start v_kind v_value v_draft_became v_draft_items v_draft_inputs v_draft_muls v_draft_cells v_draft_depths = some out → va_P (dC, dI) vwCl [(h_this, .inr (3, [.ref h_draft, .int v_next, .int v_start, .int v_kind, .int v_value])), (h_draft, .inr (2, [.ref h_draft_cells, .ref h_draft_depths, .int v_draft_became, .int v_draft_items, .int v_draft_inputs, .int v_draft_muls])), (h_draft_cells, .inl (k_draft_cells, 96, .inl v_draft_cells)), (h_draft_depths, .inl (k_draft_depths, 16, .inl v_draft_depths)), (h_a1, .inr (7, [.ref h_a1_bytes, .int v_a1_length])), (h_a1_bytes, .inl (k_a1_bytes, 300, .inl v_a1_bytes))] H → va_D A [(h_this, .inr (3, [.ref h_draft, .int v_next, .int v_start, .int v_kind, .int v_value])), (h_draft, .inr (2, [.ref h_draft_cells, .ref h_draft_depths, .int v_draft_became, .int v_draft_items, .int v_draft_inputs, .int v_draft_muls])), (h_draft_cells, .inl (k_draft_cells, 96, .inl v_draft_cells)), (h_draft_depths, .inl (k_draft_depths, 16, .inl v_draft_depths)), (h_a1, .inr (7, [.ref h_a1_bytes, .int v_a1_length])), (h_a1_bytes, .inl (k_a1_bytes, 300, .inl v_a1_bytes))] → va_S A s.heap H locs → lv_has ls 4 [(0, .ref h_this), (1, .ref h_a1)] → W p l e ({ frames := 6, cells := 0, slots := 0, locals := 135 } : Room) s m args below meth c H locs 0 0 Q (F0 m 40 ls []) := by
    intro v_next v_start v_kind v_value v_draft_became v_draft_items v_draft_inputs v_draft_muls v_draft_cells v_draft_depths H locs ls hF hP hD hS hl
    unfold f_X3_faultOf_40 at hF
    refine lv_aload_n hx hb dX3_faultOf_40 rfl (lv_at hl 0 rfl) ?_
    refine lv_aload_n hx hb dX3_faultOf_41 rfl (lv_at hl 1 rfl) ?_
    obtain ⟨z_42, hz_42, hF⟩ := gi_bind hF
    refine gRv (wc := [(h_this, .inr (3, [.ref h_draft, .int v_next, .int v_start, .int v_kind, .int v_value])), (h_a1, .inr (7, [.ref h_a1_bytes, .int v_a1_length])), (h_a1_bytes, .inl (k_a1_bytes, 300, .inl v_a1_bytes))]) (wr := [(h_draft, .inr (2, [.ref h_draft_cells, .ref h_draft_depths, .int v_draft_became, .int v_draft_items, .int v_draft_inputs, .int v_draft_muls])), (h_draft_cells, .inl (k_draft_cells, 96, .inl v_draft_cells)), (h_draft_depths, .inl (k_draft_depths, 16, .inl v_draft_depths))]) (w1 := [(h_this, .inr (3, [.ref h_draft, .int z_42.1, .int z_42.2.1, .int z_42.2.2.1, .int z_42.2.2.2])), (h_a1, .inr (7, [.ref h_a1_bytes, .int v_a1_length])), (h_a1_bytes, .inl (k_a1_bytes, 300, .inl v_a1_bytes))]) hP hD hS hA [0, 4, 5] [1, 2, 3] rfl rfl (by decide) (by decide) (va_runV (As := [.ref h_a1]) (rest := []) CF (t_X3_step l dC dI h_this h_draft v_next v_start v_kind v_value h_a1 h_a1_bytes v_a1_length k_a1_bytes v_a1_bytes H.size  N z_42 hz_42) cw32 (gPV (ci := 3) hP hD hK hN [0, 4, 5] [2] (by decide) rfl rfl (q0 := 0) rfl rfl) rfl rfl hl.1 rfl (lv_room (Nat.le_of_ble_eq_true rfl)) dX3_faultOf_42 ⟨Nat.zero_le _, Nat.zero_le _⟩) (fun H locs hP hD hS => ?_)
    have hP : va_P (dC, dI) vwCl [(h_draft, .inr (2, [.ref h_draft_cells, .ref h_draft_depths, .int v_draft_became, .int v_draft_items, .int v_draft_inputs, .int v_draft_muls])), (h_draft_cells, .inl (k_draft_cells, 96, .inl v_draft_cells)), (h_draft_depths, .inl (k_draft_depths, 16, .inl v_draft_depths)), (h_this, .inr (3, [.ref h_draft, .int z_42.1, .int z_42.2.1, .int z_42.2.2.1, .int z_42.2.2.2])), (h_a1, .inr (7, [.ref h_a1_bytes, .int v_a1_length])), (h_a1_bytes, .inl (k_a1_bytes, 300, .inl v_a1_bytes))] H := hP
    have hD : va_D A [(h_draft, .inr (2, [.ref h_draft_cells, .ref h_draft_depths, .int v_draft_became, .int v_draft_items, .int v_draft_inputs, .int v_draft_muls])), (h_draft_cells, .inl (k_draft_cells, 96, .inl v_draft_cells)), (h_draft_depths, .inl (k_draft_depths, 16, .inl v_draft_depths)), (h_this, .inr (3, [.ref h_draft, .int z_42.1, .int z_42.2.1, .int z_42.2.2.1, .int z_42.2.2.2])), (h_a1, .inr (7, [.ref h_a1_bytes, .int v_a1_length])), (h_a1_bytes, .inl (k_a1_bytes, 300, .inl v_a1_bytes))] := hD
    refine lv_aload_n hx hb dX3_faultOf_45 rfl (lv_at hl 0 rfl) ?_
    refine va_get (D := (dC, dI)) (ci := 3) (v := .int z_42.2.2.1) (C := RX3) (T := TX3) (N := 5) hx hb hts in_X3 hown hK hP 3 rfl rfl 3 (by decide) hL36 (fun _ h9 => h9) rfl dX3_faultOf_46 ?_
    refine lv_if_ne (tgt := 56) hx hb dX3_faultOf_49 (by decide) (fun c_49 => ?_) (fun c_49 => ?_)
    · have hF := gi_f c_49 hF
      refine lv_aload_n hx hb dX3_faultOf_56 rfl (lv_at hl 0 rfl) ?_
      refine va_get (D := (dC, dI)) (ci := 3) (v := .int z_42.2.1) (C := RX3) (T := TX3) (N := 5) hx hb hts in_X3 hown hK hP 3 rfl rfl 2 (by decide) hL29 (fun _ h9 => h9) rfl dX3_faultOf_57 ?_
      have hF := Option.some.inj hF
      subst hF
      exact hret _ _ _ _ dX3_faultOf_60 (hP.sub [3, 0, 1, 2, 4, 5] rfl) (hD.sub [3, 0, 1, 2, 4, 5] (by decide) rfl) hS
    · have hF := gi_t c_49 hF
      refine lv_iconst (v := (-1 : Int32)) hx hb dX3_faultOf_52 (by decide) ?_
      refine lv_goto (tgt := 60) hx hb dX3_faultOf_53 (by decide) ?_
      have hF := Option.some.inj hF
      subst hF
      exact hret _ _ _ _ dX3_faultOf_60 (hP.sub [3, 0, 1, 2, 4, 5] rfl) (hD.sub [3, 0, 1, 2, 4, 5] (by decide) rfl) hS
  have k_14 : ∀ (n : Nat) (v_next : Int32) (v_start : Int32) (v_kind : Int32) (v_value : Int32) (v_draft_became : Int32) (v_draft_items : Int32) (v_draft_inputs : Int32) (v_draft_muls : Int32) (v_draft_cells : Nat → Int32) (v_draft_depths : Nat → Int32) (y2 : Int32) (H : Heap) (locs : List Loc) (ls : Array Slot), f_X3_faultOf_14 N v_a1_length v_a1_bytes n v_next v_start v_kind v_value v_draft_became v_draft_items v_draft_inputs v_draft_muls v_draft_cells v_draft_depths y2 = some out → va_P (dC, dI) vwCl [(h_this, .inr (3, [.ref h_draft, .int v_next, .int v_start, .int v_kind, .int v_value])), (h_draft, .inr (2, [.ref h_draft_cells, .ref h_draft_depths, .int v_draft_became, .int v_draft_items, .int v_draft_inputs, .int v_draft_muls])), (h_draft_cells, .inl (k_draft_cells, 96, .inl v_draft_cells)), (h_draft_depths, .inl (k_draft_depths, 16, .inl v_draft_depths)), (h_a1, .inr (7, [.ref h_a1_bytes, .int v_a1_length])), (h_a1_bytes, .inl (k_a1_bytes, 300, .inl v_a1_bytes))] H → va_D A [(h_this, .inr (3, [.ref h_draft, .int v_next, .int v_start, .int v_kind, .int v_value])), (h_draft, .inr (2, [.ref h_draft_cells, .ref h_draft_depths, .int v_draft_became, .int v_draft_items, .int v_draft_inputs, .int v_draft_muls])), (h_draft_cells, .inl (k_draft_cells, 96, .inl v_draft_cells)), (h_draft_depths, .inl (k_draft_depths, 16, .inl v_draft_depths)), (h_a1, .inr (7, [.ref h_a1_bytes, .int v_a1_length])), (h_a1_bytes, .inl (k_a1_bytes, 300, .inl v_a1_bytes))] → va_S A s.heap H locs → lv_has ls 4 [(0, .ref h_this), (1, .ref h_a1), (2, .int y2)] → W p l e ({ frames := 6, cells := 0, slots := 0, locals := 135 } : Room) s m args below meth c H locs 0 0 Q (F0 m 14 ls []) := by
    intro n
    induction n with
    | zero =>
      intro v_next v_start v_kind v_value v_draft_became v_draft_items v_draft_inputs v_draft_muls v_draft_cells v_draft_depths y2 H locs ls hF
      have hF : (none : Option O_X3_faultOf) = some out := hF
      cases hF
    | succ n ih =>
      intro v_next v_start v_kind v_value v_draft_became v_draft_items v_draft_inputs v_draft_muls v_draft_cells v_draft_depths y2 H locs ls hF hP hD hS hl
      have hF : s_X3_faultOf_14 N v_a1_length v_a1_bytes (f_X3_faultOf_14 N v_a1_length v_a1_bytes n) v_next v_start v_kind v_value v_draft_became v_draft_items v_draft_inputs v_draft_muls v_draft_cells v_draft_depths y2 = some out := hF
      generalize f_X3_faultOf_14 N v_a1_length v_a1_bytes n = r_14 at hF ih
      have g_14 : ∀ (v_next : Int32) (v_start : Int32) (v_kind : Int32) (v_value : Int32) (v_draft_became : Int32) (v_draft_items : Int32) (v_draft_inputs : Int32) (v_draft_muls : Int32) (v_draft_cells : Nat → Int32) (v_draft_depths : Nat → Int32) (y2 : Int32) (H : Heap) (locs : List Loc) (ls : Array Slot), r_14 v_next v_start v_kind v_value v_draft_became v_draft_items v_draft_inputs v_draft_muls v_draft_cells v_draft_depths y2 = some out → va_P (dC, dI) vwCl [(h_this, .inr (3, [.ref h_draft, .int v_next, .int v_start, .int v_kind, .int v_value])), (h_draft, .inr (2, [.ref h_draft_cells, .ref h_draft_depths, .int v_draft_became, .int v_draft_items, .int v_draft_inputs, .int v_draft_muls])), (h_draft_cells, .inl (k_draft_cells, 96, .inl v_draft_cells)), (h_draft_depths, .inl (k_draft_depths, 16, .inl v_draft_depths)), (h_a1, .inr (7, [.ref h_a1_bytes, .int v_a1_length])), (h_a1_bytes, .inl (k_a1_bytes, 300, .inl v_a1_bytes))] H → va_D A [(h_this, .inr (3, [.ref h_draft, .int v_next, .int v_start, .int v_kind, .int v_value])), (h_draft, .inr (2, [.ref h_draft_cells, .ref h_draft_depths, .int v_draft_became, .int v_draft_items, .int v_draft_inputs, .int v_draft_muls])), (h_draft_cells, .inl (k_draft_cells, 96, .inl v_draft_cells)), (h_draft_depths, .inl (k_draft_depths, 16, .inl v_draft_depths)), (h_a1, .inr (7, [.ref h_a1_bytes, .int v_a1_length])), (h_a1_bytes, .inl (k_a1_bytes, 300, .inl v_a1_bytes))] → va_S A s.heap H locs → lv_has ls 4 [(0, .ref h_this), (1, .ref h_a1), (2, .int y2)] → W p l e ({ frames := 6, cells := 0, slots := 0, locals := 135 } : Room) s m args below meth c H locs 0 0 Q (F0 m 14 ls []) := ih
      clear ih
      unfold s_X3_faultOf_14 at hF
      refine lv_iload_n hx hb dX3_faultOf_14 rfl (lv_at hl 2 rfl) ?_
      refine lv_bipush (v := (16 : Int32)) hx hb dX3_faultOf_15 (by decide) ?_
      refine lv_icmp_ge (tgt := 67) hx hb dX3_faultOf_17 (by decide) (fun c_17 => ?_) (fun c_17 => ?_)
      · have hF := gi_t c_17 hF
        refine lv_aload_n hx hb dX3_faultOf_67 rfl (lv_at hl 0 rfl) ?_
        refine va_get (D := (dC, dI)) (ci := 3) (v := .int v_start) (C := RX3) (T := TX3) (N := 5) hx hb hts in_X3 hown hK hP 0 rfl rfl 2 (by decide) hL29 (fun _ h9 => h9) rfl dX3_faultOf_68 ?_
        have hF := Option.some.inj hF
        subst hF
        exact hret _ _ _ _ dX3_faultOf_71 hP hD hS
      · have hF := gi_f c_17 hF
        refine lv_aload_n hx hb dX3_faultOf_20 rfl (lv_at hl 0 rfl) ?_
        refine lv_aload_n hx hb dX3_faultOf_21 rfl (lv_at hl 1 rfl) ?_
        obtain ⟨z_22, hz_22, hF⟩ := gi_bind hF
        refine gRi (wc := [(h_this, .inr (3, [.ref h_draft, .int v_next, .int v_start, .int v_kind, .int v_value])), (h_draft, .inr (2, [.ref h_draft_cells, .ref h_draft_depths, .int v_draft_became, .int v_draft_items, .int v_draft_inputs, .int v_draft_muls])), (h_draft_cells, .inl (k_draft_cells, 96, .inl v_draft_cells)), (h_draft_depths, .inl (k_draft_depths, 16, .inl v_draft_depths)), (h_a1, .inr (7, [.ref h_a1_bytes, .int v_a1_length])), (h_a1_bytes, .inl (k_a1_bytes, 300, .inl v_a1_bytes))]) (wr := []) (w1 := [(h_this, .inr (3, [.ref h_draft, .int z_22.2.1, .int z_22.2.2.1, .int z_22.2.2.2.1, .int z_22.2.2.2.2.1])), (h_draft, .inr (2, [.ref h_draft_cells, .ref h_draft_depths, .int z_22.2.2.2.2.2.1, .int z_22.2.2.2.2.2.2.1, .int z_22.2.2.2.2.2.2.2.1, .int z_22.2.2.2.2.2.2.2.2.1])), (h_draft_cells, .inl (k_draft_cells, 96, .inl z_22.2.2.2.2.2.2.2.2.2.1)), (h_draft_depths, .inl (k_draft_depths, 16, .inl z_22.2.2.2.2.2.2.2.2.2.2)), (h_a1, .inr (7, [.ref h_a1_bytes, .int v_a1_length])), (h_a1_bytes, .inl (k_a1_bytes, 300, .inl v_a1_bytes))]) hP hD hS hA [0, 1, 2, 3, 4, 5] [] rfl rfl (by decide) (by decide) (va_runV (As := [.ref h_a1]) (rest := []) CF (t_X3_readItem l dC dI h_this h_draft v_next v_start v_kind v_value h_draft_cells h_draft_depths v_draft_became v_draft_items v_draft_inputs v_draft_muls k_draft_cells v_draft_cells k_draft_depths v_draft_depths h_a1 h_a1_bytes v_a1_length k_a1_bytes v_a1_bytes H.size  N z_22 hz_22) cw25 (gPV (ci := 3) hP hD hK hN [0, 1, 2, 3, 4, 5] [0, 1, 2] (by decide) rfl rfl (q0 := 0) rfl rfl) rfl rfl hl.1 rfl (lv_room (Nat.le_of_ble_eq_true rfl)) dX3_faultOf_22 ⟨Nat.zero_le _, Nat.zero_le _⟩) (fun H locs hP hD hS => ?_)
        have hP : va_P (dC, dI) vwCl [(h_this, .inr (3, [.ref h_draft, .int z_22.2.1, .int z_22.2.2.1, .int z_22.2.2.2.1, .int z_22.2.2.2.2.1])), (h_draft, .inr (2, [.ref h_draft_cells, .ref h_draft_depths, .int z_22.2.2.2.2.2.1, .int z_22.2.2.2.2.2.2.1, .int z_22.2.2.2.2.2.2.2.1, .int z_22.2.2.2.2.2.2.2.2.1])), (h_draft_cells, .inl (k_draft_cells, 96, .inl z_22.2.2.2.2.2.2.2.2.2.1)), (h_draft_depths, .inl (k_draft_depths, 16, .inl z_22.2.2.2.2.2.2.2.2.2.2)), (h_a1, .inr (7, [.ref h_a1_bytes, .int v_a1_length])), (h_a1_bytes, .inl (k_a1_bytes, 300, .inl v_a1_bytes))] H := hP
        have hD : va_D A [(h_this, .inr (3, [.ref h_draft, .int z_22.2.1, .int z_22.2.2.1, .int z_22.2.2.2.1, .int z_22.2.2.2.2.1])), (h_draft, .inr (2, [.ref h_draft_cells, .ref h_draft_depths, .int z_22.2.2.2.2.2.1, .int z_22.2.2.2.2.2.2.1, .int z_22.2.2.2.2.2.2.2.1, .int z_22.2.2.2.2.2.2.2.2.1])), (h_draft_cells, .inl (k_draft_cells, 96, .inl z_22.2.2.2.2.2.2.2.2.2.1)), (h_draft_depths, .inl (k_draft_depths, 16, .inl z_22.2.2.2.2.2.2.2.2.2.2)), (h_a1, .inr (7, [.ref h_a1_bytes, .int v_a1_length])), (h_a1_bytes, .inl (k_a1_bytes, 300, .inl v_a1_bytes))] := hD
        refine lv_istore_n (lv' := [(3, .int z_22.1), (0, .ref h_this), (1, .ref h_a1), (2, .int y2)]) hx hb dX3_faultOf_25 rfl hl (by decide) rfl (fun ls hl => ?_)
        refine lv_iload_n hx hb dX3_faultOf_26 rfl (lv_at hl 0 rfl) ?_
        refine lv_if_ge (tgt := 35) hx hb dX3_faultOf_27 (by decide) (fun c_27 => ?_) (fun c_27 => ?_)
        · have hF := gi_t c_27 hF
          refine lv_iload_n hx hb dX3_faultOf_35 rfl (lv_at hl 0 rfl) ?_
          refine lv_iconst (v := (5 : Int32)) hx hb dX3_faultOf_36 (by decide) ?_
          refine lv_icmp_ne (tgt := 61) hx hb dX3_faultOf_37 (by decide) (fun c_37 => ?_) (fun c_37 => ?_)
          · have hF := gi_f c_37 hF
            refine lv_iinc (v := (y2 + 1)) (lv' := [(2, .int (y2 + 1)), (3, .int z_22.1), (0, .ref h_this), (1, .ref h_a1)]) hx hb dX3_faultOf_61 hl (k := 3) rfl rfl (by decide) rfl (fun ls hl => ?_)
            refine lv_goto (tgt := 14) hx hb dX3_faultOf_64 (by decide) ?_
            exact g_14 z_22.2.1 z_22.2.2.1 z_22.2.2.2.1 z_22.2.2.2.2.1 z_22.2.2.2.2.2.1 z_22.2.2.2.2.2.2.1 z_22.2.2.2.2.2.2.2.1 z_22.2.2.2.2.2.2.2.2.1 z_22.2.2.2.2.2.2.2.2.2.1 z_22.2.2.2.2.2.2.2.2.2.2 (y2 + 1) _ _ _ hF hP hD hS (lv_sub hl [2, 3, 0] rfl)
          · have hF := gi_t c_37 hF
            exact k_40 z_22.2.1 z_22.2.2.1 z_22.2.2.2.1 z_22.2.2.2.2.1 z_22.2.2.2.2.2.1 z_22.2.2.2.2.2.2.1 z_22.2.2.2.2.2.2.2.1 z_22.2.2.2.2.2.2.2.2.1 z_22.2.2.2.2.2.2.2.2.2.1 z_22.2.2.2.2.2.2.2.2.2.2 _ _ _ hF hP hD hS (lv_sub hl [1, 2] rfl)
        · have hF := gi_f c_27 hF
          refine lv_aload_n hx hb dX3_faultOf_30 rfl (lv_at hl 1 rfl) ?_
          refine va_get (D := (dC, dI)) (ci := 3) (v := .int z_22.2.2.1) (C := RX3) (T := TX3) (N := 5) hx hb hts in_X3 hown hK hP 0 rfl rfl 2 (by decide) hL29 (fun _ h9 => h9) rfl dX3_faultOf_31 ?_
          have hF := Option.some.inj hF
          subst hF
          exact hret _ _ _ _ dX3_faultOf_34 hP hD hS
  unfold f_X3_faultOf at hF
  refine lv_aload_n hx hb dX3_faultOf_0 rfl (lv_at hl 0 rfl) ?_
  refine va_get (D := (dC, dI)) (ci := 3) (v := .ref h_draft) (C := RX3) (T := TX3) (N := 5) hx hb hts in_X3 hown hK hP 0 rfl rfl 0 (by decide) hL12 (fun _ h9 => h9) rfl dX3_faultOf_1 ?_
  obtain ⟨z_4, hz_4, hF⟩ := gi_bind hF
  refine gRv (wc := [(h_draft, .inr (2, [.ref h_draft_cells, .ref h_draft_depths, .int v_draft_became, .int v_draft_items, .int v_draft_inputs, .int v_draft_muls]))]) (wr := [(h_this, .inr (3, [.ref h_draft, .int v_next, .int v_start, .int v_kind, .int v_value])), (h_draft_cells, .inl (k_draft_cells, 96, .inl v_draft_cells)), (h_draft_depths, .inl (k_draft_depths, 16, .inl v_draft_depths)), (h_a1, .inr (7, [.ref h_a1_bytes, .int v_a1_length])), (h_a1_bytes, .inl (k_a1_bytes, 300, .inl v_a1_bytes))]) (w1 := [(h_draft, .inr (2, [.ref h_draft_cells, .ref h_draft_depths, .int z_4.1, .int z_4.2.1, .int z_4.2.2.1, .int z_4.2.2.2]))]) hP hD hS hA [1] [0, 2, 3, 4, 5] rfl rfl (by decide) (by decide) (va_runV (As := []) (rest := []) CF (t_X2_empty l dC dI h_draft h_draft_cells h_draft_depths v_draft_became v_draft_items v_draft_inputs v_draft_muls s.heap.size  N z_4 hz_4) cw18 (gPV (ci := 2) hP hD hK hN [1] [] (by decide) rfl rfl (q0 := 1) rfl rfl) rfl rfl hl.1 rfl (lv_room (Nat.le_of_ble_eq_true rfl)) dX3_faultOf_4 ⟨Nat.zero_le _, Nat.zero_le _⟩) (fun H locs hP hD hS => ?_)
  have hP : va_P (dC, dI) vwCl [(h_this, .inr (3, [.ref h_draft, .int v_next, .int v_start, .int v_kind, .int v_value])), (h_draft_cells, .inl (k_draft_cells, 96, .inl v_draft_cells)), (h_draft_depths, .inl (k_draft_depths, 16, .inl v_draft_depths)), (h_a1, .inr (7, [.ref h_a1_bytes, .int v_a1_length])), (h_a1_bytes, .inl (k_a1_bytes, 300, .inl v_a1_bytes)), (h_draft, .inr (2, [.ref h_draft_cells, .ref h_draft_depths, .int z_4.1, .int z_4.2.1, .int z_4.2.2.1, .int z_4.2.2.2]))] H := hP
  have hD : va_D A [(h_this, .inr (3, [.ref h_draft, .int v_next, .int v_start, .int v_kind, .int v_value])), (h_draft_cells, .inl (k_draft_cells, 96, .inl v_draft_cells)), (h_draft_depths, .inl (k_draft_depths, 16, .inl v_draft_depths)), (h_a1, .inr (7, [.ref h_a1_bytes, .int v_a1_length])), (h_a1_bytes, .inl (k_a1_bytes, 300, .inl v_a1_bytes)), (h_draft, .inr (2, [.ref h_draft_cells, .ref h_draft_depths, .int z_4.1, .int z_4.2.1, .int z_4.2.2.1, .int z_4.2.2.2]))] := hD
  refine lv_aload_n hx hb dX3_faultOf_7 rfl (lv_at hl 0 rfl) ?_
  refine lv_iconst (v := (0 : Int32)) hx hb dX3_faultOf_8 (by decide) ?_
  refine va_put (D := (dC, dI)) (ci := 3) (v := .int (0 : Int32)) (ty := .int) (C := RX3) (T := TX3) (N := 5) hx hb hts in_X3 tyX3 tyX3_ok nmX3 hown hK hP hD hS 0 rfl rfl 1 (by decide) hL21 (fun _ h9 => h9) rfl (by decide +kernel) rfl rfl (Nat.le_of_ble_eq_true rfl) dX3_faultOf_9 (fun H locs hP hD hS => ?_)
  have hP : va_P (dC, dI) vwCl [(h_this, .inr (3, [.ref h_draft, .int (0 : Int32), .int v_start, .int v_kind, .int v_value])), (h_draft_cells, .inl (k_draft_cells, 96, .inl v_draft_cells)), (h_draft_depths, .inl (k_draft_depths, 16, .inl v_draft_depths)), (h_a1, .inr (7, [.ref h_a1_bytes, .int v_a1_length])), (h_a1_bytes, .inl (k_a1_bytes, 300, .inl v_a1_bytes)), (h_draft, .inr (2, [.ref h_draft_cells, .ref h_draft_depths, .int z_4.1, .int z_4.2.1, .int z_4.2.2.1, .int z_4.2.2.2]))] H := hP
  have hD : va_D A [(h_this, .inr (3, [.ref h_draft, .int (0 : Int32), .int v_start, .int v_kind, .int v_value])), (h_draft_cells, .inl (k_draft_cells, 96, .inl v_draft_cells)), (h_draft_depths, .inl (k_draft_depths, 16, .inl v_draft_depths)), (h_a1, .inr (7, [.ref h_a1_bytes, .int v_a1_length])), (h_a1_bytes, .inl (k_a1_bytes, 300, .inl v_a1_bytes)), (h_draft, .inr (2, [.ref h_draft_cells, .ref h_draft_depths, .int z_4.1, .int z_4.2.1, .int z_4.2.2.1, .int z_4.2.2.2]))] := hD
  refine lv_iconst (v := (0 : Int32)) hx hb dX3_faultOf_12 (by decide) ?_
  refine lv_istore_n (lv' := [(2, .int (0 : Int32)), (0, .ref h_this), (1, .ref h_a1)]) hx hb dX3_faultOf_13 rfl hl (by decide) rfl (fun ls hl => ?_)
  exact k_14 N (0 : Int32) v_start v_kind v_value z_4.1 z_4.2.1 z_4.2.2.1 z_4.2.2.2 v_draft_cells v_draft_depths (0 : Int32) _ _ _ hF (hP.sub [0, 5, 1, 2, 3, 4] rfl) (hD.sub [0, 5, 1, 2, 3, 4] (by decide) rfl) hS (lv_sub hl [1, 2, 0] rfl)
