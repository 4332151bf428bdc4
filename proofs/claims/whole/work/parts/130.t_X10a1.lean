abbrev O_X10_in : Type := Int32
def f_X10_in (N : Nat) (x0 : Int64) (x2 : Int64) (x4 : Int64) : Option O_X10_in :=
  if (lg_cmp x0 x2) < 0 then (some ((0 : Int32))) else (if 0 < (lg_cmp x0 x4) then (some ((0 : Int32))) else (some ((1 : Int32))))
set_option maxHeartbeats 4000000 in
set_option maxRecDepth 100000 in
theorem t_X10_in (l : Launch) (dC : Nat → ClassId) (dI : Nat → Nat → Nat) (sz : Nat) (x0 : Int64) (x2 : Int64) (x4 : Int64) (N : Nat) (out : O_X10_in) (hF : f_X10_in N x0 x2 x4 = some out) : gMi l yX10_in wsX10_in ({ frames := 0, cells := 0, slots := 0, locals := 0 } : Room) [.long x0, .long x2, .long x4] (dC, dI) [] [] sz [] out := by
  refine gEz (cc := cX10_in) (maxL := 6) (by decide) rfl (Nat.le_of_ble_eq_true rfl) ?_
  intro p e s m args below meth c Q A ls CF hK hN hA hret hP hD hS hl
  have hx := CF.1
  have hb := CF.2.1
  have hml := CF.2.2.1
  have hown : s.vm.findClass RX10 = some m.cls := CF.2.2.2.1
  have hts := CF.2.2.2.2
  have hl : lv_has ls 6 [(0, .long x0), (2, .long x2), (4, .long x4)] := hl
  unfold f_X10_in at hF
  refine lv_lload_n hx hb dX10_in_0 rfl (lv_at hl 0 rfl) ?_
  refine lv_lload_n hx hb dX10_in_1 rfl (lv_at hl 1 rfl) ?_
  refine W.lcmp hx hb dX10_in_2 ?_
  refine lv_if_lt (tgt := 17) hx hb dX10_in_3 (by decide) (fun c_3 => ?_) (fun c_3 => ?_)
  · have hF := gi_t c_3 hF
    refine lv_iconst (v := (0 : Int32)) hx hb dX10_in_17 (by decide) ?_
    have hF := Option.some.inj hF
    subst hF
    exact hret (show (0 : Int32) &&& 1 = (0 : Int32) by decide) _ _ _ _ dX10_in_18 hP hD hS
  · have hF := gi_f c_3 hF
    refine lv_lload_n hx hb dX10_in_6 rfl (lv_at hl 0 rfl) ?_
    refine lv_lload hx hb dX10_in_7 (lv_at hl 2 rfl) ?_
    refine W.lcmp hx hb dX10_in_9 ?_
    refine lv_if_gt (tgt := 17) hx hb dX10_in_10 (by decide) (fun c_10 => ?_) (fun c_10 => ?_)
    · have hF := gi_t c_10 hF
      refine lv_iconst (v := (0 : Int32)) hx hb dX10_in_17 (by decide) ?_
      have hF := Option.some.inj hF
      subst hF
      exact hret (show (0 : Int32) &&& 1 = (0 : Int32) by decide) _ _ _ _ dX10_in_18 hP hD hS
    · have hF := gi_f c_10 hF
      refine lv_iconst (v := (1 : Int32)) hx hb dX10_in_13 (by decide) ?_
      refine lv_goto (tgt := 18) hx hb dX10_in_14 (by decide) ?_
      have hF := Option.some.inj hF
      subst hF
      exact hret (show (1 : Int32) &&& 1 = (1 : Int32) by decide) _ _ _ _ dX10_in_18 hP hD hS
abbrev O_X10_type : Type := Int32 × Int32 × (Nat → Int32)
def s_X10_type_34 (N : Nat) (x1 : Int64) (x3 : Int32) (r_34 : Int32 → (Nat → Int32) → Int32 → Option O_X10_type) (v_typed : Int32) (v_text : Nat → Int32) (y4 : Int32) : Option O_X10_type :=
  if y4 < 0 then (some (v_typed, v_typed, v_text)) else (if gin v_typed 300 = true then r_34 (v_typed + (1 : Int32)) (upd v_text v_typed.toNatClampNeg (vp_nar .byte (((((glshr x1 ((8 : Int32) * y4)) &&& (255 : Int64))).toInt32).toInt8.toInt32))) (y4 + (-1)) else none)
def f_X10_type_34 (N : Nat) (x1 : Int64) (x3 : Int32) (n : Nat) : Int32 → (Nat → Int32) → Int32 → Option O_X10_type := lpg (fun _ _ _ => none) (s_X10_type_34 N x1 x3) n
def f_X10_type (N : Nat) (x1 : Int64) (x3 : Int32) (v_typed : Int32) (v_text : Nat → Int32) : Option O_X10_type :=
  (f_X10_in N ((x3).toInt64) (1 : Int64) (8 : Int64)).bind (fun z_6 => if z_6 = 0 then (some ((-1 : Int32), v_typed, v_text)) else (if (v_typed + x3) ≤ (300 : Int32) then (f_X10_type_34 N x1 x3 N v_typed v_text (x3 - (1 : Int32))) else (some ((-3 : Int32), v_typed, v_text))))
set_option maxHeartbeats 4000000 in
set_option maxRecDepth 100000 in
theorem t_X10_type (l : Launch) (dC : Nat → ClassId) (dI : Nat → Nat → Nat) (h_this : Nat) (v_trace : Int64) (h_text : Nat) (v_typed : Int32) (v_items : Int32) (h_what : Nat) (h_to : Nat) (h_one : Nat) (h_two : Nat) (h_told : Nat) (v_at : Int32) (v_start : Int32) (v_sort : Int32) (v_value : Int32) (v_fault : Int32) (v_became : Int32) (h_letterDeep : Nat) (h_deep : Nat) (v_modulus : Int32) (h_input : Nat) (h_lot : Nat) (v_lies : Int32) (h_lieItem : Nat) (h_lieHand : Nat) (h_lieBy : Nat) (h_part : Nat) (h_itemPart : Nat) (h_drawn : Nat) (v_ended : Int32) (h_seen : Nat) (v_sees : Int32) (h_shown : Nat) (h_triple : Nat) (h_rows : Nat) (h_plain : Nat) (h_given : Nat) (h_price : Nat) (v_prime : Int32) (v_degree : Int32) (v_points : Int32) (h_number : Nat) (h_bent : Nat) (v_month : Int32) (h_isFresh : Nat) (v_taken : Int32) (h_takenHand : Nat) (h_takenMonth : Nat) (h_shownPoint : Nat) (k_text : ClassId) (v_text : Nat → Int32) (sz : Nat) (x1 : Int64) (x3 : Int32) (N : Nat) (out : O_X10_type) (hF : f_X10_type N x1 x3 v_typed v_text = some out) : gMi l yX10_type wsX10_type ({ frames := 1, cells := 0, slots := 0, locals := 25 } : Room) [.ref h_this, .long x1, .int x3] (dC, dI) [(h_this, .inr (10, (.long v_trace :: .ref h_text :: .int v_typed :: .int v_items :: .ref h_what :: .ref h_to :: .ref h_one :: .ref h_two :: .ref h_told :: .int v_at :: .int v_start :: .int v_sort :: .int v_value :: .int v_fault :: .int v_became :: .ref h_letterDeep :: .ref h_deep :: .int v_modulus :: .ref h_input :: .ref h_lot :: .int v_lies :: .ref h_lieItem :: .ref h_lieHand :: .ref h_lieBy :: .ref h_part :: .ref h_itemPart :: .ref h_drawn :: .int v_ended :: .ref h_seen :: .int v_sees :: .ref h_shown :: .ref h_triple :: .ref h_rows :: .ref h_plain :: .ref h_given :: .ref h_price :: .int v_prime :: .int v_degree :: .int v_points :: .ref h_number :: .ref h_bent :: .int v_month :: .ref h_isFresh :: .int v_taken :: .ref h_takenHand :: .ref h_takenMonth :: .ref h_shownPoint :: []))), (h_text, .inl (k_text, 300, .inl v_text))] [(k_text, .byte)] sz [(h_this, .inr (10, (.long v_trace :: .ref h_text :: .int out.2.1 :: .int v_items :: .ref h_what :: .ref h_to :: .ref h_one :: .ref h_two :: .ref h_told :: .int v_at :: .int v_start :: .int v_sort :: .int v_value :: .int v_fault :: .int v_became :: .ref h_letterDeep :: .ref h_deep :: .int v_modulus :: .ref h_input :: .ref h_lot :: .int v_lies :: .ref h_lieItem :: .ref h_lieHand :: .ref h_lieBy :: .ref h_part :: .ref h_itemPart :: .ref h_drawn :: .int v_ended :: .ref h_seen :: .int v_sees :: .ref h_shown :: .ref h_triple :: .ref h_rows :: .ref h_plain :: .ref h_given :: .ref h_price :: .int v_prime :: .int v_degree :: .int v_points :: .ref h_number :: .ref h_bent :: .int v_month :: .ref h_isFresh :: .int v_taken :: .ref h_takenHand :: .ref h_takenMonth :: .ref h_shownPoint :: []))), (h_text, .inl (k_text, 300, .inl out.2.2))] out.1 := by
  refine gEi (cc := cX10_type) (maxL := 5) (by decide) rfl (Nat.le_of_ble_eq_true rfl) ?_
  intro p e s m args below meth c Q A ls CF hK hN hA hret hP hD hS hl
  have hx := CF.1
  have hb := CF.2.1
  have hml := CF.2.2.1
  have hown : s.vm.findClass RX10 = some m.cls := CF.2.2.2.1
  have hts := CF.2.2.2.2
  have hl : lv_has ls 5 [(0, .ref h_this), (1, .long x1), (3, .int x3)] := hl
  have hC115 : (Cond.constantLong RX10 115 (8)).before args s = true := hts (.constantLong RX10 115 (8)) (List.mem_of_getElem? (i := 1) rfl)
  have cw117 : CallB ({ frames := 1, cells := 0, slots := 0, locals := 25 } : Room) s args RX10 117 yX10_in cX10_in 6 (some .boolean) wsX10_in ({ frames := 0, cells := 0, slots := 0, locals := 0 } : Room) 0 0 3 ∧ (Cond.static yX10_in).before args s = true := va_cwS 3 hts gX10_type_X10_in rfl rfl rfl (by decide +kernel) ⟨Nat.le_of_ble_eq_true rfl, Nat.le_of_ble_eq_true rfl⟩
  have in_X10 : ∀ w ∈ wsX100, w ∈ wsX10_type := fun w h => List.mem_cons_of_mem _ (List.mem_append_right _ h)
  have hL121 : (Cond.fieldLink RX10 121 "DustSumsModel" "typed" "I").before args s = true := hts (.fieldLink RX10 121 "DustSumsModel" "typed" "I") (List.mem_of_getElem? (i := 2) rfl)
  have hL7 : (Cond.fieldLink RX10 7 "DustSumsModel" "text" "[B").before args s = true := hts (.fieldLink RX10 7 "DustSumsModel" "text" "[B") (List.mem_of_getElem? (i := 3) rfl)
  have hC124 : (Cond.constantLong RX10 124 (255)).before args s = true := hts (.constantLong RX10 124 (255)) (List.mem_of_getElem? (i := 4) rfl)
  have k_34 : ∀ (n : Nat) (v_typed : Int32) (v_text : Nat → Int32) (y4 : Int32) (H : Heap) (locs : List Loc) (ls : Array Slot), f_X10_type_34 N x1 x3 n v_typed v_text y4 = some out → va_P (dC, dI) vwCl [(h_this, .inr (10, (.long v_trace :: .ref h_text :: .int v_typed :: .int v_items :: .ref h_what :: .ref h_to :: .ref h_one :: .ref h_two :: .ref h_told :: .int v_at :: .int v_start :: .int v_sort :: .int v_value :: .int v_fault :: .int v_became :: .ref h_letterDeep :: .ref h_deep :: .int v_modulus :: .ref h_input :: .ref h_lot :: .int v_lies :: .ref h_lieItem :: .ref h_lieHand :: .ref h_lieBy :: .ref h_part :: .ref h_itemPart :: .ref h_drawn :: .int v_ended :: .ref h_seen :: .int v_sees :: .ref h_shown :: .ref h_triple :: .ref h_rows :: .ref h_plain :: .ref h_given :: .ref h_price :: .int v_prime :: .int v_degree :: .int v_points :: .ref h_number :: .ref h_bent :: .int v_month :: .ref h_isFresh :: .int v_taken :: .ref h_takenHand :: .ref h_takenMonth :: .ref h_shownPoint :: []))), (h_text, .inl (k_text, 300, .inl v_text))] H → va_D A [(h_this, .inr (10, (.long v_trace :: .ref h_text :: .int v_typed :: .int v_items :: .ref h_what :: .ref h_to :: .ref h_one :: .ref h_two :: .ref h_told :: .int v_at :: .int v_start :: .int v_sort :: .int v_value :: .int v_fault :: .int v_became :: .ref h_letterDeep :: .ref h_deep :: .int v_modulus :: .ref h_input :: .ref h_lot :: .int v_lies :: .ref h_lieItem :: .ref h_lieHand :: .ref h_lieBy :: .ref h_part :: .ref h_itemPart :: .ref h_drawn :: .int v_ended :: .ref h_seen :: .int v_sees :: .ref h_shown :: .ref h_triple :: .ref h_rows :: .ref h_plain :: .ref h_given :: .ref h_price :: .int v_prime :: .int v_degree :: .int v_points :: .ref h_number :: .ref h_bent :: .int v_month :: .ref h_isFresh :: .int v_taken :: .ref h_takenHand :: .ref h_takenMonth :: .ref h_shownPoint :: []))), (h_text, .inl (k_text, 300, .inl v_text))] → va_S A s.heap H locs → lv_has ls 5 [(0, .ref h_this), (1, .long x1), (4, .int y4)] → W p l e ({ frames := 1, cells := 0, slots := 0, locals := 25 } : Room) s m args below meth c H locs 0 0 Q (F0 m 34 ls []) := by
    intro n
    induction n with
    | zero =>
      intro v_typed v_text y4 H locs ls hF
      have hF : (none : Option O_X10_type) = some out := hF
      cases hF
    | succ n ih =>
      intro v_typed v_text y4 H locs ls hF hP hD hS hl
      have hF : s_X10_type_34 N x1 x3 (f_X10_type_34 N x1 x3 n) v_typed v_text y4 = some out := hF
      generalize f_X10_type_34 N x1 x3 n = r_34 at hF ih
      have g_34 : ∀ (v_typed : Int32) (v_text : Nat → Int32) (y4 : Int32) (H : Heap) (locs : List Loc) (ls : Array Slot), r_34 v_typed v_text y4 = some out → va_P (dC, dI) vwCl [(h_this, .inr (10, (.long v_trace :: .ref h_text :: .int v_typed :: .int v_items :: .ref h_what :: .ref h_to :: .ref h_one :: .ref h_two :: .ref h_told :: .int v_at :: .int v_start :: .int v_sort :: .int v_value :: .int v_fault :: .int v_became :: .ref h_letterDeep :: .ref h_deep :: .int v_modulus :: .ref h_input :: .ref h_lot :: .int v_lies :: .ref h_lieItem :: .ref h_lieHand :: .ref h_lieBy :: .ref h_part :: .ref h_itemPart :: .ref h_drawn :: .int v_ended :: .ref h_seen :: .int v_sees :: .ref h_shown :: .ref h_triple :: .ref h_rows :: .ref h_plain :: .ref h_given :: .ref h_price :: .int v_prime :: .int v_degree :: .int v_points :: .ref h_number :: .ref h_bent :: .int v_month :: .ref h_isFresh :: .int v_taken :: .ref h_takenHand :: .ref h_takenMonth :: .ref h_shownPoint :: []))), (h_text, .inl (k_text, 300, .inl v_text))] H → va_D A [(h_this, .inr (10, (.long v_trace :: .ref h_text :: .int v_typed :: .int v_items :: .ref h_what :: .ref h_to :: .ref h_one :: .ref h_two :: .ref h_told :: .int v_at :: .int v_start :: .int v_sort :: .int v_value :: .int v_fault :: .int v_became :: .ref h_letterDeep :: .ref h_deep :: .int v_modulus :: .ref h_input :: .ref h_lot :: .int v_lies :: .ref h_lieItem :: .ref h_lieHand :: .ref h_lieBy :: .ref h_part :: .ref h_itemPart :: .ref h_drawn :: .int v_ended :: .ref h_seen :: .int v_sees :: .ref h_shown :: .ref h_triple :: .ref h_rows :: .ref h_plain :: .ref h_given :: .ref h_price :: .int v_prime :: .int v_degree :: .int v_points :: .ref h_number :: .ref h_bent :: .int v_month :: .ref h_isFresh :: .int v_taken :: .ref h_takenHand :: .ref h_takenMonth :: .ref h_shownPoint :: []))), (h_text, .inl (k_text, 300, .inl v_text))] → va_S A s.heap H locs → lv_has ls 5 [(0, .ref h_this), (1, .long x1), (4, .int y4)] → W p l e ({ frames := 1, cells := 0, slots := 0, locals := 25 } : Room) s m args below meth c H locs 0 0 Q (F0 m 34 ls []) := ih
      clear ih
      unfold s_X10_type_34 at hF
      refine lv_iload hx hb dX10_type_34 (lv_at hl 2 rfl) ?_
      refine lv_if_lt (tgt := 77) hx hb dX10_type_36 (by decide) (fun c_36 => ?_) (fun c_36 => ?_)
      · have hF := gi_t c_36 hF
        refine lv_aload_n hx hb dX10_type_77 rfl (lv_at hl 0 rfl) ?_
        refine va_get (D := (dC, dI)) (ci := 10) (v := .int v_typed) (C := RX10) (T := TX10) (N := 47) hx hb hts in_X10 hown hK hP 0 rfl rfl 2 (by decide) hL121 (fun _ h9 => h9) rfl dX10_type_78 ?_
        have hF := Option.some.inj hF
        subst hF
        exact hret _ _ _ _ dX10_type_81 hP hD hS
      · have hF := gi_f c_36 hF
        refine lv_aload_n hx hb dX10_type_39 rfl (lv_at hl 0 rfl) ?_
        refine va_get (D := (dC, dI)) (ci := 10) (v := .ref h_text) (C := RX10) (T := TX10) (N := 47) hx hb hts in_X10 hown hK hP 0 rfl rfl 1 (by decide) hL7 (fun _ h9 => h9) rfl dX10_type_40 ?_
        refine lv_aload_n hx hb dX10_type_43 rfl (lv_at hl 0 rfl) ?_
        refine va_get (D := (dC, dI)) (ci := 10) (v := .int v_typed) (C := RX10) (T := TX10) (N := 47) hx hb hts in_X10 hown hK hP 0 rfl rfl 2 (by decide) hL121 (fun _ h9 => h9) rfl dX10_type_44 ?_
        refine lv_lload_n hx hb dX10_type_47 rfl (lv_at hl 1 rfl) ?_
        refine lv_bipush (v := (8 : Int32)) hx hb dX10_type_48 (by decide) ?_
        refine lv_iload hx hb dX10_type_50 (lv_at hl 2 rfl) ?_
        refine lv_imul hx hb dX10_type_52 ?_
        refine lv_lshr (v := (glshr x1 ((8 : Int32) * y4))) hx hb dX10_type_53 rfl ?_
        refine lv_ldc2 (v := (255 : Int64)) hx hb hown hC124 dX10_type_54 ?_
        refine lv_land hx hb dX10_type_57 ?_
        refine lv_l2i (v := (((glshr x1 ((8 : Int32) * y4)) &&& (255 : Int64))).toInt32) hx hb dX10_type_58 rfl ?_
        refine lv_i2b (v := ((((glshr x1 ((8 : Int32) * y4)) &&& (255 : Int64))).toInt32).toInt8.toInt32) hx hb dX10_type_59 rfl ?_
        obtain ⟨hi_60, hF⟩ := gi_in hF
        refine va_bast hx hb hK hP hD hS 1 0 rfl rfl hi_60 dX10_type_60 (fun H locs hP hD hS => ?_)
        have hP : va_P (dC, dI) vwCl [(h_this, .inr (10, (.long v_trace :: .ref h_text :: .int v_typed :: .int v_items :: .ref h_what :: .ref h_to :: .ref h_one :: .ref h_two :: .ref h_told :: .int v_at :: .int v_start :: .int v_sort :: .int v_value :: .int v_fault :: .int v_became :: .ref h_letterDeep :: .ref h_deep :: .int v_modulus :: .ref h_input :: .ref h_lot :: .int v_lies :: .ref h_lieItem :: .ref h_lieHand :: .ref h_lieBy :: .ref h_part :: .ref h_itemPart :: .ref h_drawn :: .int v_ended :: .ref h_seen :: .int v_sees :: .ref h_shown :: .ref h_triple :: .ref h_rows :: .ref h_plain :: .ref h_given :: .ref h_price :: .int v_prime :: .int v_degree :: .int v_points :: .ref h_number :: .ref h_bent :: .int v_month :: .ref h_isFresh :: .int v_taken :: .ref h_takenHand :: .ref h_takenMonth :: .ref h_shownPoint :: []))), (h_text, .inl (k_text, 300, .inl (upd v_text v_typed.toNatClampNeg (vp_nar .byte (((((glshr x1 ((8 : Int32) * y4)) &&& (255 : Int64))).toInt32).toInt8.toInt32)))))] H := hP
        have hD : va_D A [(h_this, .inr (10, (.long v_trace :: .ref h_text :: .int v_typed :: .int v_items :: .ref h_what :: .ref h_to :: .ref h_one :: .ref h_two :: .ref h_told :: .int v_at :: .int v_start :: .int v_sort :: .int v_value :: .int v_fault :: .int v_became :: .ref h_letterDeep :: .ref h_deep :: .int v_modulus :: .ref h_input :: .ref h_lot :: .int v_lies :: .ref h_lieItem :: .ref h_lieHand :: .ref h_lieBy :: .ref h_part :: .ref h_itemPart :: .ref h_drawn :: .int v_ended :: .ref h_seen :: .int v_sees :: .ref h_shown :: .ref h_triple :: .ref h_rows :: .ref h_plain :: .ref h_given :: .ref h_price :: .int v_prime :: .int v_degree :: .int v_points :: .ref h_number :: .ref h_bent :: .int v_month :: .ref h_isFresh :: .int v_taken :: .ref h_takenHand :: .ref h_takenMonth :: .ref h_shownPoint :: []))), (h_text, .inl (k_text, 300, .inl (upd v_text v_typed.toNatClampNeg (vp_nar .byte (((((glshr x1 ((8 : Int32) * y4)) &&& (255 : Int64))).toInt32).toInt8.toInt32)))))] := hD
        refine lv_aload_n hx hb dX10_type_61 rfl (lv_at hl 0 rfl) ?_
        refine lv_dup hx hb dX10_type_62 rfl ?_
        refine va_get (D := (dC, dI)) (ci := 10) (v := .int v_typed) (C := RX10) (T := TX10) (N := 47) hx hb hts in_X10 hown hK hP 0 rfl rfl 2 (by decide) hL121 (fun _ h9 => h9) rfl dX10_type_63 ?_
        refine lv_iconst (v := (1 : Int32)) hx hb dX10_type_66 (by decide) ?_
        refine lv_iadd hx hb dX10_type_67 ?_
        refine va_put (D := (dC, dI)) (ci := 10) (v := .int (v_typed + (1 : Int32))) (ty := .int) (C := RX10) (T := TX10) (N := 47) hx hb hts in_X10 tyX10 tyX10_ok nmX10 hown hK hP hD hS 0 rfl rfl 2 (by decide) hL121 (fun _ h9 => h9) rfl (by decide +kernel) rfl rfl (Nat.le_of_ble_eq_true rfl) dX10_type_68 (fun H locs hP hD hS => ?_)
        have hP : va_P (dC, dI) vwCl [(h_this, .inr (10, (.long v_trace :: .ref h_text :: .int (v_typed + (1 : Int32)) :: .int v_items :: .ref h_what :: .ref h_to :: .ref h_one :: .ref h_two :: .ref h_told :: .int v_at :: .int v_start :: .int v_sort :: .int v_value :: .int v_fault :: .int v_became :: .ref h_letterDeep :: .ref h_deep :: .int v_modulus :: .ref h_input :: .ref h_lot :: .int v_lies :: .ref h_lieItem :: .ref h_lieHand :: .ref h_lieBy :: .ref h_part :: .ref h_itemPart :: .ref h_drawn :: .int v_ended :: .ref h_seen :: .int v_sees :: .ref h_shown :: .ref h_triple :: .ref h_rows :: .ref h_plain :: .ref h_given :: .ref h_price :: .int v_prime :: .int v_degree :: .int v_points :: .ref h_number :: .ref h_bent :: .int v_month :: .ref h_isFresh :: .int v_taken :: .ref h_takenHand :: .ref h_takenMonth :: .ref h_shownPoint :: []))), (h_text, .inl (k_text, 300, .inl (upd v_text v_typed.toNatClampNeg (vp_nar .byte (((((glshr x1 ((8 : Int32) * y4)) &&& (255 : Int64))).toInt32).toInt8.toInt32)))))] H := hP
        have hD : va_D A [(h_this, .inr (10, (.long v_trace :: .ref h_text :: .int (v_typed + (1 : Int32)) :: .int v_items :: .ref h_what :: .ref h_to :: .ref h_one :: .ref h_two :: .ref h_told :: .int v_at :: .int v_start :: .int v_sort :: .int v_value :: .int v_fault :: .int v_became :: .ref h_letterDeep :: .ref h_deep :: .int v_modulus :: .ref h_input :: .ref h_lot :: .int v_lies :: .ref h_lieItem :: .ref h_lieHand :: .ref h_lieBy :: .ref h_part :: .ref h_itemPart :: .ref h_drawn :: .int v_ended :: .ref h_seen :: .int v_sees :: .ref h_shown :: .ref h_triple :: .ref h_rows :: .ref h_plain :: .ref h_given :: .ref h_price :: .int v_prime :: .int v_degree :: .int v_points :: .ref h_number :: .ref h_bent :: .int v_month :: .ref h_isFresh :: .int v_taken :: .ref h_takenHand :: .ref h_takenMonth :: .ref h_shownPoint :: []))), (h_text, .inl (k_text, 300, .inl (upd v_text v_typed.toNatClampNeg (vp_nar .byte (((((glshr x1 ((8 : Int32) * y4)) &&& (255 : Int64))).toInt32).toInt8.toInt32)))))] := hD
        refine lv_iinc (v := (y4 + (-1))) (lv' := [(4, .int (y4 + (-1))), (0, .ref h_this), (1, .long x1)]) hx hb dX10_type_71 hl (k := 2) rfl rfl (by decide) rfl (fun ls hl => ?_)
        refine lv_goto (tgt := 34) hx hb dX10_type_74 (by decide) ?_
        exact g_34 (v_typed + (1 : Int32)) (upd v_text v_typed.toNatClampNeg (vp_nar .byte (((((glshr x1 ((8 : Int32) * y4)) &&& (255 : Int64))).toInt32).toInt8.toInt32))) (y4 + (-1)) _ _ _ hF hP hD hS (lv_sub hl [1, 2, 0] rfl)
  unfold f_X10_type at hF
  refine lv_iload_n hx hb dX10_type_0 rfl (lv_at hl 2 rfl) ?_
  refine lv_i2l (v := (x3).toInt64) hx hb dX10_type_1 rfl ?_
  refine lv_lconst (v := (1 : Int64)) hx hb dX10_type_2 (by decide) ?_
  refine lv_ldc2 (v := (8 : Int64)) hx hb hown hC115 dX10_type_3 ?_
  obtain ⟨z_6, hz_6, hF⟩ := gi_bind hF
  refine gRi (wc := []) (wr := [(h_this, .inr (10, (.long v_trace :: .ref h_text :: .int v_typed :: .int v_items :: .ref h_what :: .ref h_to :: .ref h_one :: .ref h_two :: .ref h_told :: .int v_at :: .int v_start :: .int v_sort :: .int v_value :: .int v_fault :: .int v_became :: .ref h_letterDeep :: .ref h_deep :: .int v_modulus :: .ref h_input :: .ref h_lot :: .int v_lies :: .ref h_lieItem :: .ref h_lieHand :: .ref h_lieBy :: .ref h_part :: .ref h_itemPart :: .ref h_drawn :: .int v_ended :: .ref h_seen :: .int v_sees :: .ref h_shown :: .ref h_triple :: .ref h_rows :: .ref h_plain :: .ref h_given :: .ref h_price :: .int v_prime :: .int v_degree :: .int v_points :: .ref h_number :: .ref h_bent :: .int v_month :: .ref h_isFresh :: .int v_taken :: .ref h_takenHand :: .ref h_takenMonth :: .ref h_shownPoint :: []))), (h_text, .inl (k_text, 300, .inl v_text))]) (w1 := []) hP hD hS hA [] [0, 1] rfl rfl (by decide) (by decide) (va_runS (As := [.long (x3).toInt64, .long (1 : Int64), .long (8 : Int64)]) (rest := []) CF (t_X10_in l dC dI s.heap.size ((x3).toInt64) (1 : Int64) (8 : Int64) N z_6 hz_6) cw117 (gPS hP hD hK hN [] [] (by decide) rfl rfl) rfl rfl hl.1 rfl (lv_room (Nat.le_of_ble_eq_true rfl)) dX10_type_6 ⟨Nat.zero_le _, Nat.zero_le _⟩) (fun H locs hP hD hS => ?_)
  have hP : va_P (dC, dI) vwCl [(h_this, .inr (10, (.long v_trace :: .ref h_text :: .int v_typed :: .int v_items :: .ref h_what :: .ref h_to :: .ref h_one :: .ref h_two :: .ref h_told :: .int v_at :: .int v_start :: .int v_sort :: .int v_value :: .int v_fault :: .int v_became :: .ref h_letterDeep :: .ref h_deep :: .int v_modulus :: .ref h_input :: .ref h_lot :: .int v_lies :: .ref h_lieItem :: .ref h_lieHand :: .ref h_lieBy :: .ref h_part :: .ref h_itemPart :: .ref h_drawn :: .int v_ended :: .ref h_seen :: .int v_sees :: .ref h_shown :: .ref h_triple :: .ref h_rows :: .ref h_plain :: .ref h_given :: .ref h_price :: .int v_prime :: .int v_degree :: .int v_points :: .ref h_number :: .ref h_bent :: .int v_month :: .ref h_isFresh :: .int v_taken :: .ref h_takenHand :: .ref h_takenMonth :: .ref h_shownPoint :: []))), (h_text, .inl (k_text, 300, .inl v_text))] H := hP
  have hD : va_D A [(h_this, .inr (10, (.long v_trace :: .ref h_text :: .int v_typed :: .int v_items :: .ref h_what :: .ref h_to :: .ref h_one :: .ref h_two :: .ref h_told :: .int v_at :: .int v_start :: .int v_sort :: .int v_value :: .int v_fault :: .int v_became :: .ref h_letterDeep :: .ref h_deep :: .int v_modulus :: .ref h_input :: .ref h_lot :: .int v_lies :: .ref h_lieItem :: .ref h_lieHand :: .ref h_lieBy :: .ref h_part :: .ref h_itemPart :: .ref h_drawn :: .int v_ended :: .ref h_seen :: .int v_sees :: .ref h_shown :: .ref h_triple :: .ref h_rows :: .ref h_plain :: .ref h_given :: .ref h_price :: .int v_prime :: .int v_degree :: .int v_points :: .ref h_number :: .ref h_bent :: .int v_month :: .ref h_isFresh :: .int v_taken :: .ref h_takenHand :: .ref h_takenMonth :: .ref h_shownPoint :: []))), (h_text, .inl (k_text, 300, .inl v_text))] := hD
  refine lv_if_ne (tgt := 14) hx hb dX10_type_9 (by decide) (fun c_9 => ?_) (fun c_9 => ?_)
  · have hF := gi_f c_9 hF
    refine lv_aload_n hx hb dX10_type_14 rfl (lv_at hl 0 rfl) ?_
    refine va_get (D := (dC, dI)) (ci := 10) (v := .int v_typed) (C := RX10) (T := TX10) (N := 47) hx hb hts in_X10 hown hK hP 0 rfl rfl 2 (by decide) hL121 (fun _ h9 => h9) rfl dX10_type_15 ?_
    refine lv_iload_n hx hb dX10_type_18 rfl (lv_at hl 2 rfl) ?_
    refine lv_iadd hx hb dX10_type_19 ?_
    refine lv_sipush (v := (300 : Int32)) hx hb dX10_type_20 (by decide) ?_
    refine lv_icmp_le (tgt := 29) hx hb dX10_type_23 (by decide) (fun c_23 => ?_) (fun c_23 => ?_)
    · have hF := gi_t c_23 hF
      refine lv_iload_n hx hb dX10_type_29 rfl (lv_at hl 2 rfl) ?_
      refine lv_iconst (v := (1 : Int32)) hx hb dX10_type_30 (by decide) ?_
      refine lv_isub hx hb dX10_type_31 ?_
      refine lv_istore (lv' := [(4, .int (x3 - (1 : Int32))), (0, .ref h_this), (1, .long x1), (3, .int x3)]) hx hb dX10_type_32 hl (by decide) rfl (fun ls hl => ?_)
      exact k_34 N v_typed v_text (x3 - (1 : Int32)) _ _ _ hF hP hD hS (lv_sub hl [1, 2, 0] rfl)
    · have hF := gi_f c_23 hF
      refine lv_bipush (v := (-3 : Int32)) hx hb dX10_type_26 (by decide) ?_
      have hF := Option.some.inj hF
      subst hF
      exact hret _ _ _ _ dX10_type_28 hP hD hS
  · have hF := gi_t c_9 hF
    refine lv_iconst (v := (-1 : Int32)) hx hb dX10_type_12 (by decide) ?_
    have hF := Option.some.inj hF
    subst hF
    exact hret _ _ _ _ dX10_type_13 hP hD hS
abbrev O_X10_clear : Type := Int32 × Int32
def f_X10_clear (N : Nat) (v_typed : Int32) : Option O_X10_clear :=
  some (v_typed, (0 : Int32))
set_option maxHeartbeats 4000000 in
set_option maxRecDepth 100000 in
theorem t_X10_clear (l : Launch) (dC : Nat → ClassId) (dI : Nat → Nat → Nat) (h_this : Nat) (v_trace : Int64) (h_text : Nat) (v_typed : Int32) (v_items : Int32) (h_what : Nat) (h_to : Nat) (h_one : Nat) (h_two : Nat) (h_told : Nat) (v_at : Int32) (v_start : Int32) (v_sort : Int32) (v_value : Int32) (v_fault : Int32) (v_became : Int32) (h_letterDeep : Nat) (h_deep : Nat) (v_modulus : Int32) (h_input : Nat) (h_lot : Nat) (v_lies : Int32) (h_lieItem : Nat) (h_lieHand : Nat) (h_lieBy : Nat) (h_part : Nat) (h_itemPart : Nat) (h_drawn : Nat) (v_ended : Int32) (h_seen : Nat) (v_sees : Int32) (h_shown : Nat) (h_triple : Nat) (h_rows : Nat) (h_plain : Nat) (h_given : Nat) (h_price : Nat) (v_prime : Int32) (v_degree : Int32) (v_points : Int32) (h_number : Nat) (h_bent : Nat) (v_month : Int32) (h_isFresh : Nat) (v_taken : Int32) (h_takenHand : Nat) (h_takenMonth : Nat) (h_shownPoint : Nat) (sz : Nat) (N : Nat) (out : O_X10_clear) (hF : f_X10_clear N v_typed = some out) : gMi l yX10_clear wsX10_clear ({ frames := 0, cells := 0, slots := 0, locals := 0 } : Room) [.ref h_this] (dC, dI) [(h_this, .inr (10, (.long v_trace :: .ref h_text :: .int v_typed :: .int v_items :: .ref h_what :: .ref h_to :: .ref h_one :: .ref h_two :: .ref h_told :: .int v_at :: .int v_start :: .int v_sort :: .int v_value :: .int v_fault :: .int v_became :: .ref h_letterDeep :: .ref h_deep :: .int v_modulus :: .ref h_input :: .ref h_lot :: .int v_lies :: .ref h_lieItem :: .ref h_lieHand :: .ref h_lieBy :: .ref h_part :: .ref h_itemPart :: .ref h_drawn :: .int v_ended :: .ref h_seen :: .int v_sees :: .ref h_shown :: .ref h_triple :: .ref h_rows :: .ref h_plain :: .ref h_given :: .ref h_price :: .int v_prime :: .int v_degree :: .int v_points :: .ref h_number :: .ref h_bent :: .int v_month :: .ref h_isFresh :: .int v_taken :: .ref h_takenHand :: .ref h_takenMonth :: .ref h_shownPoint :: [])))] [] sz [(h_this, .inr (10, (.long v_trace :: .ref h_text :: .int out.2 :: .int v_items :: .ref h_what :: .ref h_to :: .ref h_one :: .ref h_two :: .ref h_told :: .int v_at :: .int v_start :: .int v_sort :: .int v_value :: .int v_fault :: .int v_became :: .ref h_letterDeep :: .ref h_deep :: .int v_modulus :: .ref h_input :: .ref h_lot :: .int v_lies :: .ref h_lieItem :: .ref h_lieHand :: .ref h_lieBy :: .ref h_part :: .ref h_itemPart :: .ref h_drawn :: .int v_ended :: .ref h_seen :: .int v_sees :: .ref h_shown :: .ref h_triple :: .ref h_rows :: .ref h_plain :: .ref h_given :: .ref h_price :: .int v_prime :: .int v_degree :: .int v_points :: .ref h_number :: .ref h_bent :: .int v_month :: .ref h_isFresh :: .int v_taken :: .ref h_takenHand :: .ref h_takenMonth :: .ref h_shownPoint :: [])))] out.1 := by
  refine gEi (cc := cX10_clear) (maxL := 2) (by decide) rfl (Nat.le_of_ble_eq_true rfl) ?_
  intro p e s m args below meth c Q A ls CF hK hN hA hret hP hD hS hl
  have hx := CF.1
  have hb := CF.2.1
  have hml := CF.2.2.1
  have hown : s.vm.findClass RX10 = some m.cls := CF.2.2.2.1
  have hts := CF.2.2.2.2
  have hl : lv_has ls 2 [(0, .ref h_this)] := hl
  have in_X10 : ∀ w ∈ wsX100, w ∈ wsX10_clear := fun w h => List.mem_cons_of_mem _ (List.mem_append_right _ h)
  have hL121 : (Cond.fieldLink RX10 121 "DustSumsModel" "typed" "I").before args s = true := hts (.fieldLink RX10 121 "DustSumsModel" "typed" "I") (List.mem_of_getElem? (i := 1) rfl)
  unfold f_X10_clear at hF
  refine lv_aload_n hx hb dX10_clear_0 rfl (lv_at hl 0 rfl) ?_
  refine va_get (D := (dC, dI)) (ci := 10) (v := .int v_typed) (C := RX10) (T := TX10) (N := 47) hx hb hts in_X10 hown hK hP 0 rfl rfl 2 (by decide) hL121 (fun _ h9 => h9) rfl dX10_clear_1 ?_
  refine lv_istore_n (lv' := [(1, .int v_typed), (0, .ref h_this)]) hx hb dX10_clear_4 rfl hl (by decide) rfl (fun ls hl => ?_)
  refine lv_aload_n hx hb dX10_clear_5 rfl (lv_at hl 1 rfl) ?_
  refine lv_iconst (v := (0 : Int32)) hx hb dX10_clear_6 (by decide) ?_
  refine va_put (D := (dC, dI)) (ci := 10) (v := .int (0 : Int32)) (ty := .int) (C := RX10) (T := TX10) (N := 47) hx hb hts in_X10 tyX10 tyX10_ok nmX10 hown hK hP hD hS 0 rfl rfl 2 (by decide) hL121 (fun _ h9 => h9) rfl (by decide +kernel) rfl rfl (Nat.le_of_ble_eq_true rfl) dX10_clear_7 (fun H locs hP hD hS => ?_)
  have hP : va_P (dC, dI) vwCl [(h_this, .inr (10, (.long v_trace :: .ref h_text :: .int (0 : Int32) :: .int v_items :: .ref h_what :: .ref h_to :: .ref h_one :: .ref h_two :: .ref h_told :: .int v_at :: .int v_start :: .int v_sort :: .int v_value :: .int v_fault :: .int v_became :: .ref h_letterDeep :: .ref h_deep :: .int v_modulus :: .ref h_input :: .ref h_lot :: .int v_lies :: .ref h_lieItem :: .ref h_lieHand :: .ref h_lieBy :: .ref h_part :: .ref h_itemPart :: .ref h_drawn :: .int v_ended :: .ref h_seen :: .int v_sees :: .ref h_shown :: .ref h_triple :: .ref h_rows :: .ref h_plain :: .ref h_given :: .ref h_price :: .int v_prime :: .int v_degree :: .int v_points :: .ref h_number :: .ref h_bent :: .int v_month :: .ref h_isFresh :: .int v_taken :: .ref h_takenHand :: .ref h_takenMonth :: .ref h_shownPoint :: [])))] H := hP
  have hD : va_D A [(h_this, .inr (10, (.long v_trace :: .ref h_text :: .int (0 : Int32) :: .int v_items :: .ref h_what :: .ref h_to :: .ref h_one :: .ref h_two :: .ref h_told :: .int v_at :: .int v_start :: .int v_sort :: .int v_value :: .int v_fault :: .int v_became :: .ref h_letterDeep :: .ref h_deep :: .int v_modulus :: .ref h_input :: .ref h_lot :: .int v_lies :: .ref h_lieItem :: .ref h_lieHand :: .ref h_lieBy :: .ref h_part :: .ref h_itemPart :: .ref h_drawn :: .int v_ended :: .ref h_seen :: .int v_sees :: .ref h_shown :: .ref h_triple :: .ref h_rows :: .ref h_plain :: .ref h_given :: .ref h_price :: .int v_prime :: .int v_degree :: .int v_points :: .ref h_number :: .ref h_bent :: .int v_month :: .ref h_isFresh :: .int v_taken :: .ref h_takenHand :: .ref h_takenMonth :: .ref h_shownPoint :: [])))] := hD
  refine lv_iload_n hx hb dX10_clear_10 rfl (lv_at hl 0 rfl) ?_
  have hF := Option.some.inj hF
  subst hF
  exact hret _ _ _ _ dX10_clear_11 hP hD hS
abbrev O_X10_here : Type := Int32
def f_X10_here (N : Nat) (v_typed : Int32) (v_at : Int32) (v_text : Nat → Int32) : Option O_X10_here :=
  if v_typed ≤ v_at then (some ((-1 : Int32))) else (if gin v_at 300 = true then some (((v_text v_at.toNatClampNeg) &&& (255 : Int32))) else none)
set_option maxHeartbeats 4000000 in
set_option maxRecDepth 100000 in
theorem t_X10_here (l : Launch) (dC : Nat → ClassId) (dI : Nat → Nat → Nat) (h_this : Nat) (v_trace : Int64) (h_text : Nat) (v_typed : Int32) (v_items : Int32) (h_what : Nat) (h_to : Nat) (h_one : Nat) (h_two : Nat) (h_told : Nat) (v_at : Int32) (v_start : Int32) (v_sort : Int32) (v_value : Int32) (v_fault : Int32) (v_became : Int32) (h_letterDeep : Nat) (h_deep : Nat) (v_modulus : Int32) (h_input : Nat) (h_lot : Nat) (v_lies : Int32) (h_lieItem : Nat) (h_lieHand : Nat) (h_lieBy : Nat) (h_part : Nat) (h_itemPart : Nat) (h_drawn : Nat) (v_ended : Int32) (h_seen : Nat) (v_sees : Int32) (h_shown : Nat) (h_triple : Nat) (h_rows : Nat) (h_plain : Nat) (h_given : Nat) (h_price : Nat) (v_prime : Int32) (v_degree : Int32) (v_points : Int32) (h_number : Nat) (h_bent : Nat) (v_month : Int32) (h_isFresh : Nat) (v_taken : Int32) (h_takenHand : Nat) (h_takenMonth : Nat) (h_shownPoint : Nat) (k_text : ClassId) (v_text : Nat → Int32) (sz : Nat) (N : Nat) (out : O_X10_here) (hF : f_X10_here N v_typed v_at v_text = some out) : gMi l yX10_here wsX10_here ({ frames := 0, cells := 0, slots := 0, locals := 0 } : Room) [.ref h_this] (dC, dI) [(h_this, .inr (10, (.long v_trace :: .ref h_text :: .int v_typed :: .int v_items :: .ref h_what :: .ref h_to :: .ref h_one :: .ref h_two :: .ref h_told :: .int v_at :: .int v_start :: .int v_sort :: .int v_value :: .int v_fault :: .int v_became :: .ref h_letterDeep :: .ref h_deep :: .int v_modulus :: .ref h_input :: .ref h_lot :: .int v_lies :: .ref h_lieItem :: .ref h_lieHand :: .ref h_lieBy :: .ref h_part :: .ref h_itemPart :: .ref h_drawn :: .int v_ended :: .ref h_seen :: .int v_sees :: .ref h_shown :: .ref h_triple :: .ref h_rows :: .ref h_plain :: .ref h_given :: .ref h_price :: .int v_prime :: .int v_degree :: .int v_points :: .ref h_number :: .ref h_bent :: .int v_month :: .ref h_isFresh :: .int v_taken :: .ref h_takenHand :: .ref h_takenMonth :: .ref h_shownPoint :: []))), (h_text, .inl (k_text, 300, .inl v_text))] [(k_text, .byte)] sz [(h_this, .inr (10, (.long v_trace :: .ref h_text :: .int v_typed :: .int v_items :: .ref h_what :: .ref h_to :: .ref h_one :: .ref h_two :: .ref h_told :: .int v_at :: .int v_start :: .int v_sort :: .int v_value :: .int v_fault :: .int v_became :: .ref h_letterDeep :: .ref h_deep :: .int v_modulus :: .ref h_input :: .ref h_lot :: .int v_lies :: .ref h_lieItem :: .ref h_lieHand :: .ref h_lieBy :: .ref h_part :: .ref h_itemPart :: .ref h_drawn :: .int v_ended :: .ref h_seen :: .int v_sees :: .ref h_shown :: .ref h_triple :: .ref h_rows :: .ref h_plain :: .ref h_given :: .ref h_price :: .int v_prime :: .int v_degree :: .int v_points :: .ref h_number :: .ref h_bent :: .int v_month :: .ref h_isFresh :: .int v_taken :: .ref h_takenHand :: .ref h_takenMonth :: .ref h_shownPoint :: []))), (h_text, .inl (k_text, 300, .inl v_text))] out := by
  refine gEi (cc := cX10_here) (maxL := 1) (by decide) rfl (Nat.le_of_ble_eq_true rfl) ?_
  intro p e s m args below meth c Q A ls CF hK hN hA hret hP hD hS hl
  have hx := CF.1
  have hb := CF.2.1
  have hml := CF.2.2.1
  have hown : s.vm.findClass RX10 = some m.cls := CF.2.2.2.1
  have hts := CF.2.2.2.2
  have hl : lv_has ls 1 [(0, .ref h_this)] := hl
  have in_X10 : ∀ w ∈ wsX100, w ∈ wsX10_here := fun w h => List.mem_cons_of_mem _ (List.mem_append_right _ h)
  have hL126 : (Cond.fieldLink RX10 126 "DustSumsModel" "at" "I").before args s = true := hts (.fieldLink RX10 126 "DustSumsModel" "at" "I") (List.mem_of_getElem? (i := 1) rfl)
  have hL121 : (Cond.fieldLink RX10 121 "DustSumsModel" "typed" "I").before args s = true := hts (.fieldLink RX10 121 "DustSumsModel" "typed" "I") (List.mem_of_getElem? (i := 2) rfl)
  have hL7 : (Cond.fieldLink RX10 7 "DustSumsModel" "text" "[B").before args s = true := hts (.fieldLink RX10 7 "DustSumsModel" "text" "[B") (List.mem_of_getElem? (i := 3) rfl)
  unfold f_X10_here at hF
  refine lv_aload_n hx hb dX10_here_0 rfl (lv_at hl 0 rfl) ?_
  refine va_get (D := (dC, dI)) (ci := 10) (v := .int v_at) (C := RX10) (T := TX10) (N := 47) hx hb hts in_X10 hown hK hP 0 rfl rfl 9 (by decide) hL126 (fun _ h9 => h9) rfl dX10_here_1 ?_
  refine lv_aload_n hx hb dX10_here_4 rfl (lv_at hl 0 rfl) ?_
  refine va_get (D := (dC, dI)) (ci := 10) (v := .int v_typed) (C := RX10) (T := TX10) (N := 47) hx hb hts in_X10 hown hK hP 0 rfl rfl 2 (by decide) hL121 (fun _ h9 => h9) rfl dX10_here_5 ?_
  refine lv_icmp_ge (tgt := 27) hx hb dX10_here_8 (by decide) (fun c_8 => ?_) (fun c_8 => ?_)
  · have hF := gi_t c_8 hF
    refine lv_iconst (v := (-1 : Int32)) hx hb dX10_here_27 (by decide) ?_
    have hF := Option.some.inj hF
    subst hF
    exact hret _ _ _ _ dX10_here_28 hP hD hS
  · have hF := gi_f c_8 hF
    refine lv_aload_n hx hb dX10_here_11 rfl (lv_at hl 0 rfl) ?_
    refine va_get (D := (dC, dI)) (ci := 10) (v := .ref h_text) (C := RX10) (T := TX10) (N := 47) hx hb hts in_X10 hown hK hP 0 rfl rfl 1 (by decide) hL7 (fun _ h9 => h9) rfl dX10_here_12 ?_
    refine lv_aload_n hx hb dX10_here_15 rfl (lv_at hl 0 rfl) ?_
    refine va_get (D := (dC, dI)) (ci := 10) (v := .int v_at) (C := RX10) (T := TX10) (N := 47) hx hb hts in_X10 hown hK hP 0 rfl rfl 9 (by decide) hL126 (fun _ h9 => h9) rfl dX10_here_16 ?_
    obtain ⟨hi_19, hF⟩ := gi_in hF
    refine va_bald hx hb hK hP 1 0 rfl rfl hi_19 dX10_here_19 ?_
    refine lv_sipush (v := (255 : Int32)) hx hb dX10_here_20 (by decide) ?_
    refine lv_iand hx hb dX10_here_23 ?_
    refine lv_goto (tgt := 28) hx hb dX10_here_24 (by decide) ?_
    have hF := Option.some.inj hF
    subst hF
    exact hret _ _ _ _ dX10_here_28 hP hD hS
abbrev O_X10_isSpelled : Type := Int32
def f_X10_isSpelled (N : Nat) (v_at : Int32) (v_start : Int32) (v_text : Nat → Int32) (x1 : Int32) (x2 : Int32) (x3 : Int32) (x4 : Int32) : Option O_X10_isSpelled :=
  if (v_at - v_start) = x1 then (if gin v_start 300 = true then if (v_text v_start.toNatClampNeg) = x2 then (if gin (v_start + (1 : Int32)) 300 = true then if (v_text (v_start + (1 : Int32)).toNatClampNeg) = x3 then (if x1 < (3 : Int32) then (some ((1 : Int32))) else (if gin (v_start + (2 : Int32)) 300 = true then if (v_text (v_start + (2 : Int32)).toNatClampNeg) = x4 then (some ((1 : Int32))) else (some ((0 : Int32))) else none)) else (some ((0 : Int32))) else none) else (some ((0 : Int32))) else none) else (some ((0 : Int32)))
set_option maxHeartbeats 4000000 in
set_option maxRecDepth 100000 in
theorem t_X10_isSpelled (l : Launch) (dC : Nat → ClassId) (dI : Nat → Nat → Nat) (h_this : Nat) (v_trace : Int64) (h_text : Nat) (v_typed : Int32) (v_items : Int32) (h_what : Nat) (h_to : Nat) (h_one : Nat) (h_two : Nat) (h_told : Nat) (v_at : Int32) (v_start : Int32) (v_sort : Int32) (v_value : Int32) (v_fault : Int32) (v_became : Int32) (h_letterDeep : Nat) (h_deep : Nat) (v_modulus : Int32) (h_input : Nat) (h_lot : Nat) (v_lies : Int32) (h_lieItem : Nat) (h_lieHand : Nat) (h_lieBy : Nat) (h_part : Nat) (h_itemPart : Nat) (h_drawn : Nat) (v_ended : Int32) (h_seen : Nat) (v_sees : Int32) (h_shown : Nat) (h_triple : Nat) (h_rows : Nat) (h_plain : Nat) (h_given : Nat) (h_price : Nat) (v_prime : Int32) (v_degree : Int32) (v_points : Int32) (h_number : Nat) (h_bent : Nat) (v_month : Int32) (h_isFresh : Nat) (v_taken : Int32) (h_takenHand : Nat) (h_takenMonth : Nat) (h_shownPoint : Nat) (k_text : ClassId) (v_text : Nat → Int32) (sz : Nat) (x1 : Int32) (x2 : Int32) (x3 : Int32) (x4 : Int32) (N : Nat) (out : O_X10_isSpelled) (hF : f_X10_isSpelled N v_at v_start v_text x1 x2 x3 x4 = some out) : gMi l yX10_isSpelled wsX10_isSpelled ({ frames := 0, cells := 0, slots := 0, locals := 0 } : Room) [.ref h_this, .int x1, .int x2, .int x3, .int x4] (dC, dI) [(h_this, .inr (10, (.long v_trace :: .ref h_text :: .int v_typed :: .int v_items :: .ref h_what :: .ref h_to :: .ref h_one :: .ref h_two :: .ref h_told :: .int v_at :: .int v_start :: .int v_sort :: .int v_value :: .int v_fault :: .int v_became :: .ref h_letterDeep :: .ref h_deep :: .int v_modulus :: .ref h_input :: .ref h_lot :: .int v_lies :: .ref h_lieItem :: .ref h_lieHand :: .ref h_lieBy :: .ref h_part :: .ref h_itemPart :: .ref h_drawn :: .int v_ended :: .ref h_seen :: .int v_sees :: .ref h_shown :: .ref h_triple :: .ref h_rows :: .ref h_plain :: .ref h_given :: .ref h_price :: .int v_prime :: .int v_degree :: .int v_points :: .ref h_number :: .ref h_bent :: .int v_month :: .ref h_isFresh :: .int v_taken :: .ref h_takenHand :: .ref h_takenMonth :: .ref h_shownPoint :: []))), (h_text, .inl (k_text, 300, .inl v_text))] [(k_text, .byte)] sz [(h_this, .inr (10, (.long v_trace :: .ref h_text :: .int v_typed :: .int v_items :: .ref h_what :: .ref h_to :: .ref h_one :: .ref h_two :: .ref h_told :: .int v_at :: .int v_start :: .int v_sort :: .int v_value :: .int v_fault :: .int v_became :: .ref h_letterDeep :: .ref h_deep :: .int v_modulus :: .ref h_input :: .ref h_lot :: .int v_lies :: .ref h_lieItem :: .ref h_lieHand :: .ref h_lieBy :: .ref h_part :: .ref h_itemPart :: .ref h_drawn :: .int v_ended :: .ref h_seen :: .int v_sees :: .ref h_shown :: .ref h_triple :: .ref h_rows :: .ref h_plain :: .ref h_given :: .ref h_price :: .int v_prime :: .int v_degree :: .int v_points :: .ref h_number :: .ref h_bent :: .int v_month :: .ref h_isFresh :: .int v_taken :: .ref h_takenHand :: .ref h_takenMonth :: .ref h_shownPoint :: []))), (h_text, .inl (k_text, 300, .inl v_text))] out := by
  refine gEz (cc := cX10_isSpelled) (maxL := 5) (by decide) rfl (Nat.le_of_ble_eq_true rfl) ?_
  intro p e s m args below meth c Q A ls CF hK hN hA hret hP hD hS hl
  have hx := CF.1
  have hb := CF.2.1
  have hml := CF.2.2.1
  have hown : s.vm.findClass RX10 = some m.cls := CF.2.2.2.1
  have hts := CF.2.2.2.2
  have hl : lv_has ls 5 [(0, .ref h_this), (1, .int x1), (2, .int x2), (3, .int x3), (4, .int x4)] := hl
  have in_X10 : ∀ w ∈ wsX100, w ∈ wsX10_isSpelled := fun w h => List.mem_cons_of_mem _ (List.mem_append_right _ h)
  have hL126 : (Cond.fieldLink RX10 126 "DustSumsModel" "at" "I").before args s = true := hts (.fieldLink RX10 126 "DustSumsModel" "at" "I") (List.mem_of_getElem? (i := 1) rfl)
  have hL129 : (Cond.fieldLink RX10 129 "DustSumsModel" "start" "I").before args s = true := hts (.fieldLink RX10 129 "DustSumsModel" "start" "I") (List.mem_of_getElem? (i := 2) rfl)
  have hL7 : (Cond.fieldLink RX10 7 "DustSumsModel" "text" "[B").before args s = true := hts (.fieldLink RX10 7 "DustSumsModel" "text" "[B") (List.mem_of_getElem? (i := 3) rfl)
  unfold f_X10_isSpelled at hF
  refine lv_aload_n hx hb dX10_isSpelled_0 rfl (lv_at hl 0 rfl) ?_
  refine va_get (D := (dC, dI)) (ci := 10) (v := .int v_at) (C := RX10) (T := TX10) (N := 47) hx hb hts in_X10 hown hK hP 0 rfl rfl 9 (by decide) hL126 (fun _ h9 => h9) rfl dX10_isSpelled_1 ?_
  refine lv_aload_n hx hb dX10_isSpelled_4 rfl (lv_at hl 0 rfl) ?_
  refine va_get (D := (dC, dI)) (ci := 10) (v := .int v_start) (C := RX10) (T := TX10) (N := 47) hx hb hts in_X10 hown hK hP 0 rfl rfl 10 (by decide) hL129 (fun _ h9 => h9) rfl dX10_isSpelled_5 ?_
  refine lv_isub hx hb dX10_isSpelled_8 ?_
  refine lv_iload_n hx hb dX10_isSpelled_9 rfl (lv_at hl 1 rfl) ?_
  refine lv_icmp_ne (tgt := 66) hx hb dX10_isSpelled_10 (by decide) (fun c_10 => ?_) (fun c_10 => ?_)
  · have hF := gi_f c_10 hF
    refine lv_iconst (v := (0 : Int32)) hx hb dX10_isSpelled_66 (by decide) ?_
    have hF := Option.some.inj hF
    subst hF
    exact hret (show (0 : Int32) &&& 1 = (0 : Int32) by decide) _ _ _ _ dX10_isSpelled_67 hP hD hS
  · have hF := gi_t c_10 hF
    refine lv_aload_n hx hb dX10_isSpelled_13 rfl (lv_at hl 0 rfl) ?_
    refine va_get (D := (dC, dI)) (ci := 10) (v := .ref h_text) (C := RX10) (T := TX10) (N := 47) hx hb hts in_X10 hown hK hP 0 rfl rfl 1 (by decide) hL7 (fun _ h9 => h9) rfl dX10_isSpelled_14 ?_
    refine lv_aload_n hx hb dX10_isSpelled_17 rfl (lv_at hl 0 rfl) ?_
    refine va_get (D := (dC, dI)) (ci := 10) (v := .int v_start) (C := RX10) (T := TX10) (N := 47) hx hb hts in_X10 hown hK hP 0 rfl rfl 10 (by decide) hL129 (fun _ h9 => h9) rfl dX10_isSpelled_18 ?_
    obtain ⟨hi_21, hF⟩ := gi_in hF
    refine va_bald hx hb hK hP 1 0 rfl rfl hi_21 dX10_isSpelled_21 ?_
    refine lv_iload_n hx hb dX10_isSpelled_22 rfl (lv_at hl 2 rfl) ?_
    refine lv_icmp_ne (tgt := 66) hx hb dX10_isSpelled_23 (by decide) (fun c_23 => ?_) (fun c_23 => ?_)
    · have hF := gi_f c_23 hF
      refine lv_iconst (v := (0 : Int32)) hx hb dX10_isSpelled_66 (by decide) ?_
      have hF := Option.some.inj hF
      subst hF
      exact hret (show (0 : Int32) &&& 1 = (0 : Int32) by decide) _ _ _ _ dX10_isSpelled_67 hP hD hS
    · have hF := gi_t c_23 hF
      refine lv_aload_n hx hb dX10_isSpelled_26 rfl (lv_at hl 0 rfl) ?_
      refine va_get (D := (dC, dI)) (ci := 10) (v := .ref h_text) (C := RX10) (T := TX10) (N := 47) hx hb hts in_X10 hown hK hP 0 rfl rfl 1 (by decide) hL7 (fun _ h9 => h9) rfl dX10_isSpelled_27 ?_
      refine lv_aload_n hx hb dX10_isSpelled_30 rfl (lv_at hl 0 rfl) ?_
      refine va_get (D := (dC, dI)) (ci := 10) (v := .int v_start) (C := RX10) (T := TX10) (N := 47) hx hb hts in_X10 hown hK hP 0 rfl rfl 10 (by decide) hL129 (fun _ h9 => h9) rfl dX10_isSpelled_31 ?_
      refine lv_iconst (v := (1 : Int32)) hx hb dX10_isSpelled_34 (by decide) ?_
      refine lv_iadd hx hb dX10_isSpelled_35 ?_
      obtain ⟨hi_36, hF⟩ := gi_in hF
      refine va_bald hx hb hK hP 1 0 rfl rfl hi_36 dX10_isSpelled_36 ?_
      refine lv_iload_n hx hb dX10_isSpelled_37 rfl (lv_at hl 3 rfl) ?_
      refine lv_icmp_ne (tgt := 66) hx hb dX10_isSpelled_38 (by decide) (fun c_38 => ?_) (fun c_38 => ?_)
      · have hF := gi_f c_38 hF
        refine lv_iconst (v := (0 : Int32)) hx hb dX10_isSpelled_66 (by decide) ?_
        have hF := Option.some.inj hF
        subst hF
        exact hret (show (0 : Int32) &&& 1 = (0 : Int32) by decide) _ _ _ _ dX10_isSpelled_67 hP hD hS
      · have hF := gi_t c_38 hF
        refine lv_iload_n hx hb dX10_isSpelled_41 rfl (lv_at hl 1 rfl) ?_
        refine lv_iconst (v := (3 : Int32)) hx hb dX10_isSpelled_42 (by decide) ?_
        refine lv_icmp_lt (tgt := 62) hx hb dX10_isSpelled_43 (by decide) (fun c_43 => ?_) (fun c_43 => ?_)
        · have hF := gi_t c_43 hF
          refine lv_iconst (v := (1 : Int32)) hx hb dX10_isSpelled_62 (by decide) ?_
          refine lv_goto (tgt := 67) hx hb dX10_isSpelled_63 (by decide) ?_
          have hF := Option.some.inj hF
          subst hF
          exact hret (show (1 : Int32) &&& 1 = (1 : Int32) by decide) _ _ _ _ dX10_isSpelled_67 hP hD hS
        · have hF := gi_f c_43 hF
          refine lv_aload_n hx hb dX10_isSpelled_46 rfl (lv_at hl 0 rfl) ?_
          refine va_get (D := (dC, dI)) (ci := 10) (v := .ref h_text) (C := RX10) (T := TX10) (N := 47) hx hb hts in_X10 hown hK hP 0 rfl rfl 1 (by decide) hL7 (fun _ h9 => h9) rfl dX10_isSpelled_47 ?_
          refine lv_aload_n hx hb dX10_isSpelled_50 rfl (lv_at hl 0 rfl) ?_
          refine va_get (D := (dC, dI)) (ci := 10) (v := .int v_start) (C := RX10) (T := TX10) (N := 47) hx hb hts in_X10 hown hK hP 0 rfl rfl 10 (by decide) hL129 (fun _ h9 => h9) rfl dX10_isSpelled_51 ?_
          refine lv_iconst (v := (2 : Int32)) hx hb dX10_isSpelled_54 (by decide) ?_
          refine lv_iadd hx hb dX10_isSpelled_55 ?_
          obtain ⟨hi_56, hF⟩ := gi_in hF
          refine va_bald hx hb hK hP 1 0 rfl rfl hi_56 dX10_isSpelled_56 ?_
          refine lv_iload hx hb dX10_isSpelled_57 (lv_at hl 4 rfl) ?_
          refine lv_icmp_ne (tgt := 66) hx hb dX10_isSpelled_59 (by decide) (fun c_59 => ?_) (fun c_59 => ?_)
          · have hF := gi_f c_59 hF
            refine lv_iconst (v := (0 : Int32)) hx hb dX10_isSpelled_66 (by decide) ?_
            have hF := Option.some.inj hF
            subst hF
            exact hret (show (0 : Int32) &&& 1 = (0 : Int32) by decide) _ _ _ _ dX10_isSpelled_67 hP hD hS
          · have hF := gi_t c_59 hF
            refine lv_iconst (v := (1 : Int32)) hx hb dX10_isSpelled_62 (by decide) ?_
            refine lv_goto (tgt := 67) hx hb dX10_isSpelled_63 (by decide) ?_
            have hF := Option.some.inj hF
            subst hF
            exact hret (show (1 : Int32) &&& 1 = (1 : Int32) by decide) _ _ _ _ dX10_isSpelled_67 hP hD hS
