abbrev O_X4_isPlace : Type := Int32
def f_X4_isPlace (N : Nat) (x1 : Int32) : Option O_X4_isPlace :=
  if x1 < 0 then (some ((0 : Int32))) else (if ((48 : Int32) - (3 : Int32)) < x1 then (some ((0 : Int32))) else (some ((1 : Int32))))
set_option maxHeartbeats 4000000 in
set_option maxRecDepth 100000 in
theorem t_X4_isPlace (l : Launch) (dC : Nat → ClassId) (dI : Nat → Nat → Nat) (h_this : Nat) (h_shares : Nat) (h_shown : Nat) (h_shownOfY : Nat) (h_triple : Nat) (h_view : Nat) (h_trial : Nat) (h_plain : Nat) (v_views : Int32) (v_viewAsNumber : Int32) (v_hand : Int32) (v_modulus : Int32) (v_nextLot : Int32) (v_nextInput : Int32) (k_shares : ClassId) (v_shares : Nat → Int32) (sz : Nat) (x1 : Int32) (N : Nat) (out : O_X4_isPlace) (hF : f_X4_isPlace N x1 = some out) : gMi l yX4_isPlace wsX4_isPlace ({ frames := 0, cells := 0, slots := 0, locals := 0 } : Room) [.ref h_this, .int x1] (dC, dI) [(h_this, .inr (4, [.ref h_shares, .ref h_shown, .ref h_shownOfY, .ref h_triple, .ref h_view, .ref h_trial, .ref h_plain, .int v_views, .int v_viewAsNumber, .int v_hand, .int v_modulus, .int v_nextLot, .int v_nextInput])), (h_shares, .inl (k_shares, 48, .inl v_shares))] [(k_shares, .int)] sz [(h_this, .inr (4, [.ref h_shares, .ref h_shown, .ref h_shownOfY, .ref h_triple, .ref h_view, .ref h_trial, .ref h_plain, .int v_views, .int v_viewAsNumber, .int v_hand, .int v_modulus, .int v_nextLot, .int v_nextInput])), (h_shares, .inl (k_shares, 48, .inl v_shares))] out := by
  refine gEz (cc := cX4_isPlace) (maxL := 2) (by decide) rfl (Nat.le_of_ble_eq_true rfl) ?_
  intro p e s m args below meth c Q A ls CF hK hN hA hret hP hD hS hl
  have hx := CF.1
  have hb := CF.2.1
  have hml := CF.2.2.1
  have hown : s.vm.findClass RX4 = some m.cls := CF.2.2.2.1
  have hts := CF.2.2.2.2
  have hl : lv_has ls 2 [(0, .ref h_this), (1, .int x1)] := hl
  have in_X4 : ∀ w ∈ wsX40, w ∈ wsX4_isPlace := fun w h => List.mem_cons_of_mem _ (List.mem_append_right _ h)
  have hL9 : (Cond.fieldLink RX4 9 "DustSums$Run" "shares" "[I").before args s = true := hts (.fieldLink RX4 9 "DustSums$Run" "shares" "[I") (List.mem_of_getElem? (i := 1) rfl)
  unfold f_X4_isPlace at hF
  refine lv_iload_n hx hb dX4_isPlace_0 rfl (lv_at hl 1 rfl) ?_
  refine lv_if_lt (tgt := 19) hx hb dX4_isPlace_1 (by decide) (fun c_1 => ?_) (fun c_1 => ?_)
  · have hF := gi_t c_1 hF
    refine lv_iconst (v := (0 : Int32)) hx hb dX4_isPlace_19 (by decide) ?_
    have hF := Option.some.inj hF
    subst hF
    exact hret (show (0 : Int32) &&& 1 = (0 : Int32) by decide) _ _ _ _ dX4_isPlace_20 hP hD hS
  · have hF := gi_f c_1 hF
    refine lv_iload_n hx hb dX4_isPlace_4 rfl (lv_at hl 1 rfl) ?_
    refine lv_aload_n hx hb dX4_isPlace_5 rfl (lv_at hl 0 rfl) ?_
    refine va_get (D := (dC, dI)) (ci := 4) (v := .ref h_shares) (C := RX4) (T := TX4) (N := 13) hx hb hts in_X4 hown hK hP 0 rfl rfl 0 (by decide) hL9 (fun _ h9 => h9) rfl dX4_isPlace_6 ?_
    refine va_alen (v := (48 : Int32)) hx hb hK hP 1 0 rfl rfl rfl dX4_isPlace_9 ?_
    refine lv_iconst (v := (3 : Int32)) hx hb dX4_isPlace_10 (by decide) ?_
    refine lv_isub hx hb dX4_isPlace_11 ?_
    refine lv_icmp_gt (tgt := 19) hx hb dX4_isPlace_12 (by decide) (fun c_12 => ?_) (fun c_12 => ?_)
    · have hF := gi_t c_12 hF
      refine lv_iconst (v := (0 : Int32)) hx hb dX4_isPlace_19 (by decide) ?_
      have hF := Option.some.inj hF
      subst hF
      exact hret (show (0 : Int32) &&& 1 = (0 : Int32) by decide) _ _ _ _ dX4_isPlace_20 hP hD hS
    · have hF := gi_f c_12 hF
      refine lv_iconst (v := (1 : Int32)) hx hb dX4_isPlace_15 (by decide) ?_
      refine lv_goto (tgt := 20) hx hb dX4_isPlace_16 (by decide) ?_
      have hF := Option.some.inj hF
      subst hF
      exact hret (show (1 : Int32) &&& 1 = (1 : Int32) by decide) _ _ _ _ dX4_isPlace_20 hP hD hS
abbrev O_X4_look : Type := Int32 × Int32 × (Nat → Int32)
def f_X4_look (N : Nat) (v_modulus : Int32) (x1 : Int32) (v_views : Int32) (v_viewAsNumber : Int32) (v_view : Nat → Int32) : Option O_X4_look :=
  (f_X9_put N 51 v_views x1 v_view).bind (fun z_24 => some ((v_views + (1 : Int32)), ((v_viewAsNumber * v_modulus) + x1), z_24))
set_option maxHeartbeats 4000000 in
set_option maxRecDepth 100000 in
theorem t_X4_look (l : Launch) (dC : Nat → ClassId) (dI : Nat → Nat → Nat) (h_this : Nat) (h_shares : Nat) (h_shown : Nat) (h_shownOfY : Nat) (h_triple : Nat) (h_view : Nat) (h_trial : Nat) (h_plain : Nat) (v_views : Int32) (v_viewAsNumber : Int32) (v_hand : Int32) (v_modulus : Int32) (v_nextLot : Int32) (v_nextInput : Int32) (k_view : ClassId) (v_view : Nat → Int32) (sz : Nat) (x1 : Int32) (N : Nat) (out : O_X4_look) (hF : f_X4_look N v_modulus x1 v_views v_viewAsNumber v_view = some out) : gMv l yX4_look wsX4_look ({ frames := 1, cells := 0, slots := 0, locals := 22 } : Room) [.ref h_this, .int x1] (dC, dI) [(h_this, .inr (4, [.ref h_shares, .ref h_shown, .ref h_shownOfY, .ref h_triple, .ref h_view, .ref h_trial, .ref h_plain, .int v_views, .int v_viewAsNumber, .int v_hand, .int v_modulus, .int v_nextLot, .int v_nextInput])), (h_view, .inl (k_view, 51, .inl v_view))] [(k_view, .int)] sz [(h_this, .inr (4, [.ref h_shares, .ref h_shown, .ref h_shownOfY, .ref h_triple, .ref h_view, .ref h_trial, .ref h_plain, .int out.1, .int out.2.1, .int v_hand, .int v_modulus, .int v_nextLot, .int v_nextInput])), (h_view, .inl (k_view, 51, .inl out.2.2))] := by
  refine gEv (cc := cX4_look) (maxL := 2) (by decide) rfl (Nat.le_of_ble_eq_true rfl) ?_
  intro p e s m args below meth c Q A ls CF hK hN hA hret hP hD hS hl
  have hx := CF.1
  have hb := CF.2.1
  have hml := CF.2.2.1
  have hown : s.vm.findClass RX4 = some m.cls := CF.2.2.2.1
  have hts := CF.2.2.2.2
  have hl : lv_has ls 2 [(0, .ref h_this), (1, .int x1)] := hl
  have in_X4 : ∀ w ∈ wsX40, w ∈ wsX4_look := fun w h => List.mem_cons_of_mem _ (List.mem_append_right _ h)
  have hL56 : (Cond.fieldLink RX4 56 "DustSums$Run" "viewAsNumber" "I").before args s = true := hts (.fieldLink RX4 56 "DustSums$Run" "viewAsNumber" "I") (List.mem_of_getElem? (i := 1) rfl)
  have hL52 : (Cond.fieldLink RX4 52 "DustSums$Run" "modulus" "I").before args s = true := hts (.fieldLink RX4 52 "DustSums$Run" "modulus" "I") (List.mem_of_getElem? (i := 2) rfl)
  have hL24 : (Cond.fieldLink RX4 24 "DustSums$Run" "view" "[I").before args s = true := hts (.fieldLink RX4 24 "DustSums$Run" "view" "[I") (List.mem_of_getElem? (i := 3) rfl)
  have hL53 : (Cond.fieldLink RX4 53 "DustSums$Run" "views" "I").before args s = true := hts (.fieldLink RX4 53 "DustSums$Run" "views" "I") (List.mem_of_getElem? (i := 4) rfl)
  have nm121 : va_Nw (.methodLinkNest RX4 121 yX9_put "DustSums") s := hN.2 (RX4, 121, yX9_put, "DustSums") (by decide +kernel)
  have cw121 : va_CN ({ frames := 1, cells := 0, slots := 0, locals := 22 } : Room) s args RX4 121 yX9_put "DustSums" cX9_put 3 none wsX9_put ({ frames := 0, cells := 0, slots := 0, locals := 0 } : Room) 0 0 3 ∧ (Cond.static yX9_put).before args s = true ∧ True := ⟨va_cnB 3 hts gX4_look_X9_put_n121 rfl rfl rfl nm121 (hts (.initialized RX9) (List.mem_of_getElem? (i := 6) rfl)) (by decide +kernel) ⟨Nat.le_of_ble_eq_true rfl, Nat.le_of_ble_eq_true rfl⟩, hts (.static yX9_put) (List.mem_of_getElem? (i := 5) rfl), trivial⟩
  unfold f_X4_look at hF
  refine lv_aload_n hx hb dX4_look_0 rfl (lv_at hl 0 rfl) ?_
  refine lv_aload_n hx hb dX4_look_1 rfl (lv_at hl 0 rfl) ?_
  refine va_get (D := (dC, dI)) (ci := 4) (v := .int v_viewAsNumber) (C := RX4) (T := TX4) (N := 13) hx hb hts in_X4 hown hK hP 0 rfl rfl 8 (by decide) hL56 (fun _ h9 => h9) rfl dX4_look_2 ?_
  refine lv_aload_n hx hb dX4_look_5 rfl (lv_at hl 0 rfl) ?_
  refine va_get (D := (dC, dI)) (ci := 4) (v := .int v_modulus) (C := RX4) (T := TX4) (N := 13) hx hb hts in_X4 hown hK hP 0 rfl rfl 10 (by decide) hL52 (fun _ h9 => h9) rfl dX4_look_6 ?_
  refine lv_imul hx hb dX4_look_9 ?_
  refine lv_iload_n hx hb dX4_look_10 rfl (lv_at hl 1 rfl) ?_
  refine lv_iadd hx hb dX4_look_11 ?_
  refine va_put (D := (dC, dI)) (ci := 4) (v := .int ((v_viewAsNumber * v_modulus) + x1)) (ty := .int) (C := RX4) (T := TX4) (N := 13) hx hb hts in_X4 tyX4 tyX4_ok nmX4 hown hK hP hD hS 0 rfl rfl 8 (by decide) hL56 (fun _ h9 => h9) rfl (by decide +kernel) rfl rfl (Nat.le_of_ble_eq_true rfl) dX4_look_12 (fun H locs hP hD hS => ?_)
  have hP : va_P (dC, dI) vwCl [(h_this, .inr (4, [.ref h_shares, .ref h_shown, .ref h_shownOfY, .ref h_triple, .ref h_view, .ref h_trial, .ref h_plain, .int v_views, .int ((v_viewAsNumber * v_modulus) + x1), .int v_hand, .int v_modulus, .int v_nextLot, .int v_nextInput])), (h_view, .inl (k_view, 51, .inl v_view))] H := hP
  have hD : va_D A [(h_this, .inr (4, [.ref h_shares, .ref h_shown, .ref h_shownOfY, .ref h_triple, .ref h_view, .ref h_trial, .ref h_plain, .int v_views, .int ((v_viewAsNumber * v_modulus) + x1), .int v_hand, .int v_modulus, .int v_nextLot, .int v_nextInput])), (h_view, .inl (k_view, 51, .inl v_view))] := hD
  refine lv_aload_n hx hb dX4_look_15 rfl (lv_at hl 0 rfl) ?_
  refine va_get (D := (dC, dI)) (ci := 4) (v := .ref h_view) (C := RX4) (T := TX4) (N := 13) hx hb hts in_X4 hown hK hP 0 rfl rfl 4 (by decide) hL24 (fun _ h9 => h9) rfl dX4_look_16 ?_
  refine lv_aload_n hx hb dX4_look_19 rfl (lv_at hl 0 rfl) ?_
  refine va_get (D := (dC, dI)) (ci := 4) (v := .int v_views) (C := RX4) (T := TX4) (N := 13) hx hb hts in_X4 hown hK hP 0 rfl rfl 7 (by decide) hL53 (fun _ h9 => h9) rfl dX4_look_20 ?_
  refine lv_iload_n hx hb dX4_look_23 rfl (lv_at hl 1 rfl) ?_
  obtain ⟨z_24, hz_24, hF⟩ := gi_bind hF
  refine gRv (wc := [(h_view, .inl (k_view, 51, .inl v_view))]) (wr := [(h_this, .inr (4, [.ref h_shares, .ref h_shown, .ref h_shownOfY, .ref h_triple, .ref h_view, .ref h_trial, .ref h_plain, .int v_views, .int ((v_viewAsNumber * v_modulus) + x1), .int v_hand, .int v_modulus, .int v_nextLot, .int v_nextInput]))]) (w1 := [(h_view, .inl (k_view, 51, .inl z_24))]) hP hD hS hA [1] [0] rfl rfl (by decide) (by decide) (va_runSN (As := [.ref h_view, .int v_views, .int x1]) (rest := []) CF (t_X9_put l dC dI h_view k_view 51 v_view H.size v_views x1 N z_24 hz_24) cw121 (gPS hP hD hK hN [1] [0] (by decide) rfl rfl) rfl rfl hl.1 rfl (lv_room (Nat.le_of_ble_eq_true rfl)) dX4_look_24 ⟨Nat.zero_le _, Nat.zero_le _⟩) (fun H locs hP hD hS => ?_)
  have hP : va_P (dC, dI) vwCl [(h_this, .inr (4, [.ref h_shares, .ref h_shown, .ref h_shownOfY, .ref h_triple, .ref h_view, .ref h_trial, .ref h_plain, .int v_views, .int ((v_viewAsNumber * v_modulus) + x1), .int v_hand, .int v_modulus, .int v_nextLot, .int v_nextInput])), (h_view, .inl (k_view, 51, .inl z_24))] H := hP
  have hD : va_D A [(h_this, .inr (4, [.ref h_shares, .ref h_shown, .ref h_shownOfY, .ref h_triple, .ref h_view, .ref h_trial, .ref h_plain, .int v_views, .int ((v_viewAsNumber * v_modulus) + x1), .int v_hand, .int v_modulus, .int v_nextLot, .int v_nextInput])), (h_view, .inl (k_view, 51, .inl z_24))] := hD
  refine lv_aload_n hx hb dX4_look_27 rfl (lv_at hl 0 rfl) ?_
  refine lv_dup hx hb dX4_look_28 rfl ?_
  refine va_get (D := (dC, dI)) (ci := 4) (v := .int v_views) (C := RX4) (T := TX4) (N := 13) hx hb hts in_X4 hown hK hP 0 rfl rfl 7 (by decide) hL53 (fun _ h9 => h9) rfl dX4_look_29 ?_
  refine lv_iconst (v := (1 : Int32)) hx hb dX4_look_32 (by decide) ?_
  refine lv_iadd hx hb dX4_look_33 ?_
  refine va_put (D := (dC, dI)) (ci := 4) (v := .int (v_views + (1 : Int32))) (ty := .int) (C := RX4) (T := TX4) (N := 13) hx hb hts in_X4 tyX4 tyX4_ok nmX4 hown hK hP hD hS 0 rfl rfl 7 (by decide) hL53 (fun _ h9 => h9) rfl (by decide +kernel) rfl rfl (Nat.le_of_ble_eq_true rfl) dX4_look_34 (fun H locs hP hD hS => ?_)
  have hP : va_P (dC, dI) vwCl [(h_this, .inr (4, [.ref h_shares, .ref h_shown, .ref h_shownOfY, .ref h_triple, .ref h_view, .ref h_trial, .ref h_plain, .int (v_views + (1 : Int32)), .int ((v_viewAsNumber * v_modulus) + x1), .int v_hand, .int v_modulus, .int v_nextLot, .int v_nextInput])), (h_view, .inl (k_view, 51, .inl z_24))] H := hP
  have hD : va_D A [(h_this, .inr (4, [.ref h_shares, .ref h_shown, .ref h_shownOfY, .ref h_triple, .ref h_view, .ref h_trial, .ref h_plain, .int (v_views + (1 : Int32)), .int ((v_viewAsNumber * v_modulus) + x1), .int v_hand, .int v_modulus, .int v_nextLot, .int v_nextInput])), (h_view, .inl (k_view, 51, .inl z_24))] := hD
  have hF := Option.some.inj hF
  subst hF
  exact hret _ _ _ _ dX4_look_37 hP hD hS
abbrev O_X4_drawLot : Type := Int32 × Int32
def f_X4_drawLot (N : Nat) (v_modulus : Int32) (v_a1 : Nat → Int32) (n_a1 : Nat) (v_nextLot : Int32) : Option O_X4_drawLot :=
  (f_X9_at N v_a1 n_a1 v_nextLot).bind (fun z_5 => (f_X9_mod N z_5 v_modulus).bind (fun z_12 => some (z_12, (v_nextLot + (1 : Int32)))))
set_option maxHeartbeats 4000000 in
set_option maxRecDepth 100000 in
theorem t_X4_drawLot (l : Launch) (dC : Nat → ClassId) (dI : Nat → Nat → Nat) (h_this : Nat) (h_shares : Nat) (h_shown : Nat) (h_shownOfY : Nat) (h_triple : Nat) (h_view : Nat) (h_trial : Nat) (h_plain : Nat) (v_views : Int32) (v_viewAsNumber : Int32) (v_hand : Int32) (v_modulus : Int32) (v_nextLot : Int32) (v_nextInput : Int32) (h_a1 : Nat) (k_a1 : ClassId) (n_a1 : Nat) (v_a1 : Nat → Int32) (sz : Nat) (N : Nat) (out : O_X4_drawLot) (hF : f_X4_drawLot N v_modulus v_a1 n_a1 v_nextLot = some out) : gMi l yX4_drawLot wsX4_drawLot ({ frames := 1, cells := 0, slots := 0, locals := 22 } : Room) [.ref h_this, .ref h_a1] (dC, dI) [(h_this, .inr (4, [.ref h_shares, .ref h_shown, .ref h_shownOfY, .ref h_triple, .ref h_view, .ref h_trial, .ref h_plain, .int v_views, .int v_viewAsNumber, .int v_hand, .int v_modulus, .int v_nextLot, .int v_nextInput])), (h_a1, .inl (k_a1, n_a1, .inl v_a1))] [(k_a1, .int)] sz [(h_this, .inr (4, [.ref h_shares, .ref h_shown, .ref h_shownOfY, .ref h_triple, .ref h_view, .ref h_trial, .ref h_plain, .int v_views, .int v_viewAsNumber, .int v_hand, .int v_modulus, .int out.2, .int v_nextInput])), (h_a1, .inl (k_a1, n_a1, .inl v_a1))] out.1 := by
  refine gEi (cc := cX4_drawLot) (maxL := 3) (by decide) rfl (Nat.le_of_ble_eq_true rfl) ?_
  intro p e s m args below meth c Q A ls CF hK hN hA hret hP hD hS hl
  have hx := CF.1
  have hb := CF.2.1
  have hml := CF.2.2.1
  have hown : s.vm.findClass RX4 = some m.cls := CF.2.2.2.1
  have hts := CF.2.2.2.2
  have hl : lv_has ls 3 [(0, .ref h_this), (1, .ref h_a1)] := hl
  have in_X4 : ∀ w ∈ wsX40, w ∈ wsX4_drawLot := fun w h => List.mem_cons_of_mem _ (List.mem_append_right _ h)
  have hL59 : (Cond.fieldLink RX4 59 "DustSums$Run" "nextLot" "I").before args s = true := hts (.fieldLink RX4 59 "DustSums$Run" "nextLot" "I") (List.mem_of_getElem? (i := 1) rfl)
  have nm114 : va_Nw (.methodLinkNest RX4 114 yX9_at "DustSums") s := hN.2 (RX4, 114, yX9_at, "DustSums") (by decide +kernel)
  have cw114 : va_CN ({ frames := 1, cells := 0, slots := 0, locals := 22 } : Room) s args RX4 114 yX9_at "DustSums" cX9_at 2 (some .int) wsX9_at ({ frames := 0, cells := 0, slots := 0, locals := 0 } : Room) 0 0 2 ∧ (Cond.static yX9_at).before args s = true ∧ True := ⟨va_cnB 2 hts gX4_drawLot_X9_at_n114 rfl rfl rfl nm114 (hts (.initialized RX9) (List.mem_of_getElem? (i := 4) rfl)) (by decide +kernel) ⟨Nat.le_of_ble_eq_true rfl, Nat.le_of_ble_eq_true rfl⟩, hts (.static yX9_at) (List.mem_of_getElem? (i := 3) rfl), trivial⟩
  have hL52 : (Cond.fieldLink RX4 52 "DustSums$Run" "modulus" "I").before args s = true := hts (.fieldLink RX4 52 "DustSums$Run" "modulus" "I") (List.mem_of_getElem? (i := 2) rfl)
  have nm118 : va_Nw (.methodLinkNest RX4 118 yX9_mod "DustSums") s := hN.2 (RX4, 118, yX9_mod, "DustSums") (by decide +kernel)
  have cw118 : va_CN ({ frames := 1, cells := 0, slots := 0, locals := 22 } : Room) s args RX4 118 yX9_mod "DustSums" cX9_mod 3 (some .int) wsX9_mod ({ frames := 0, cells := 0, slots := 0, locals := 0 } : Room) 0 0 2 ∧ (Cond.static yX9_mod).before args s = true ∧ True := ⟨va_cnB 2 hts gX4_drawLot_X9_mod_n118 rfl rfl rfl nm118 (hts (.initialized RX9) (List.mem_of_getElem? (i := 4) rfl)) (by decide +kernel) ⟨Nat.le_of_ble_eq_true rfl, Nat.le_of_ble_eq_true rfl⟩, hts (.static yX9_mod) (List.mem_of_getElem? (i := 6) rfl), trivial⟩
  unfold f_X4_drawLot at hF
  refine lv_aload_n hx hb dX4_drawLot_0 rfl (lv_at hl 1 rfl) ?_
  refine lv_aload_n hx hb dX4_drawLot_1 rfl (lv_at hl 0 rfl) ?_
  refine va_get (D := (dC, dI)) (ci := 4) (v := .int v_nextLot) (C := RX4) (T := TX4) (N := 13) hx hb hts in_X4 hown hK hP 0 rfl rfl 11 (by decide) hL59 (fun _ h9 => h9) rfl dX4_drawLot_2 ?_
  obtain ⟨z_5, hz_5, hF⟩ := gi_bind hF
  refine gRi (wc := [(h_a1, .inl (k_a1, n_a1, .inl v_a1))]) (wr := [(h_this, .inr (4, [.ref h_shares, .ref h_shown, .ref h_shownOfY, .ref h_triple, .ref h_view, .ref h_trial, .ref h_plain, .int v_views, .int v_viewAsNumber, .int v_hand, .int v_modulus, .int v_nextLot, .int v_nextInput]))]) (w1 := [(h_a1, .inl (k_a1, n_a1, .inl v_a1))]) hP hD hS hA [1] [0] rfl rfl (by decide) (by decide) (va_runSN (As := [.ref h_a1, .int v_nextLot]) (rest := []) CF (t_X9_at l dC dI h_a1 k_a1 n_a1 v_a1 s.heap.size v_nextLot N z_5 hz_5) cw114 (gPS hP hD hK hN [1] [0] (by decide) rfl rfl) rfl rfl hl.1 rfl (lv_room (Nat.le_of_ble_eq_true rfl)) dX4_drawLot_5 ⟨Nat.zero_le _, Nat.zero_le _⟩) (fun H locs hP hD hS => ?_)
  have hP : va_P (dC, dI) vwCl [(h_this, .inr (4, [.ref h_shares, .ref h_shown, .ref h_shownOfY, .ref h_triple, .ref h_view, .ref h_trial, .ref h_plain, .int v_views, .int v_viewAsNumber, .int v_hand, .int v_modulus, .int v_nextLot, .int v_nextInput])), (h_a1, .inl (k_a1, n_a1, .inl v_a1))] H := hP
  have hD : va_D A [(h_this, .inr (4, [.ref h_shares, .ref h_shown, .ref h_shownOfY, .ref h_triple, .ref h_view, .ref h_trial, .ref h_plain, .int v_views, .int v_viewAsNumber, .int v_hand, .int v_modulus, .int v_nextLot, .int v_nextInput])), (h_a1, .inl (k_a1, n_a1, .inl v_a1))] := hD
  refine lv_aload_n hx hb dX4_drawLot_8 rfl (lv_at hl 0 rfl) ?_
  refine va_get (D := (dC, dI)) (ci := 4) (v := .int v_modulus) (C := RX4) (T := TX4) (N := 13) hx hb hts in_X4 hown hK hP 0 rfl rfl 10 (by decide) hL52 (fun _ h9 => h9) rfl dX4_drawLot_9 ?_
  obtain ⟨z_12, hz_12, hF⟩ := gi_bind hF
  refine gRi (wc := []) (wr := [(h_this, .inr (4, [.ref h_shares, .ref h_shown, .ref h_shownOfY, .ref h_triple, .ref h_view, .ref h_trial, .ref h_plain, .int v_views, .int v_viewAsNumber, .int v_hand, .int v_modulus, .int v_nextLot, .int v_nextInput])), (h_a1, .inl (k_a1, n_a1, .inl v_a1))]) (w1 := []) hP hD hS hA [] [0, 1] rfl rfl (by decide) (by decide) (va_runSN (As := [.int z_5, .int v_modulus]) (rest := []) CF (t_X9_mod l dC dI H.size z_5 v_modulus N z_12 hz_12) cw118 (gPS hP hD hK hN [] [] (by decide) rfl rfl) rfl rfl hl.1 rfl (lv_room (Nat.le_of_ble_eq_true rfl)) dX4_drawLot_12 ⟨Nat.zero_le _, Nat.zero_le _⟩) (fun H locs hP hD hS => ?_)
  have hP : va_P (dC, dI) vwCl [(h_this, .inr (4, [.ref h_shares, .ref h_shown, .ref h_shownOfY, .ref h_triple, .ref h_view, .ref h_trial, .ref h_plain, .int v_views, .int v_viewAsNumber, .int v_hand, .int v_modulus, .int v_nextLot, .int v_nextInput])), (h_a1, .inl (k_a1, n_a1, .inl v_a1))] H := hP
  have hD : va_D A [(h_this, .inr (4, [.ref h_shares, .ref h_shown, .ref h_shownOfY, .ref h_triple, .ref h_view, .ref h_trial, .ref h_plain, .int v_views, .int v_viewAsNumber, .int v_hand, .int v_modulus, .int v_nextLot, .int v_nextInput])), (h_a1, .inl (k_a1, n_a1, .inl v_a1))] := hD
  refine lv_istore_n (lv' := [(2, .int z_12), (0, .ref h_this), (1, .ref h_a1)]) hx hb dX4_drawLot_15 rfl hl (by decide) rfl (fun ls hl => ?_)
  refine lv_aload_n hx hb dX4_drawLot_16 rfl (lv_at hl 1 rfl) ?_
  refine lv_dup hx hb dX4_drawLot_17 rfl ?_
  refine va_get (D := (dC, dI)) (ci := 4) (v := .int v_nextLot) (C := RX4) (T := TX4) (N := 13) hx hb hts in_X4 hown hK hP 0 rfl rfl 11 (by decide) hL59 (fun _ h9 => h9) rfl dX4_drawLot_18 ?_
  refine lv_iconst (v := (1 : Int32)) hx hb dX4_drawLot_21 (by decide) ?_
  refine lv_iadd hx hb dX4_drawLot_22 ?_
  refine va_put (D := (dC, dI)) (ci := 4) (v := .int (v_nextLot + (1 : Int32))) (ty := .int) (C := RX4) (T := TX4) (N := 13) hx hb hts in_X4 tyX4 tyX4_ok nmX4 hown hK hP hD hS 0 rfl rfl 11 (by decide) hL59 (fun _ h9 => h9) rfl (by decide +kernel) rfl rfl (Nat.le_of_ble_eq_true rfl) dX4_drawLot_23 (fun H locs hP hD hS => ?_)
  have hP : va_P (dC, dI) vwCl [(h_this, .inr (4, [.ref h_shares, .ref h_shown, .ref h_shownOfY, .ref h_triple, .ref h_view, .ref h_trial, .ref h_plain, .int v_views, .int v_viewAsNumber, .int v_hand, .int v_modulus, .int (v_nextLot + (1 : Int32)), .int v_nextInput])), (h_a1, .inl (k_a1, n_a1, .inl v_a1))] H := hP
  have hD : va_D A [(h_this, .inr (4, [.ref h_shares, .ref h_shown, .ref h_shownOfY, .ref h_triple, .ref h_view, .ref h_trial, .ref h_plain, .int v_views, .int v_viewAsNumber, .int v_hand, .int v_modulus, .int (v_nextLot + (1 : Int32)), .int v_nextInput])), (h_a1, .inl (k_a1, n_a1, .inl v_a1))] := hD
  refine lv_iload_n hx hb dX4_drawLot_26 rfl (lv_at hl 0 rfl) ?_
  have hF := Option.some.inj hF
  subst hF
  exact hret _ _ _ _ dX4_drawLot_27 hP hD hS
abbrev O_X4_cut : Type := Int32 × Int32 × Int32 × Int32 × (Nat → Int32) × (Nat → Int32)
def f_X4_cut_97 (N : Nat) (v_hand : Int32) (v_modulus : Int32) (v_a4 : Nat → Int32) (n_a4 : Nat) (x1 : Int32) (x2 : Int32) (x3 : Int32) (r_78 : Int32 → Int32 → Int32 → Int32 → (Nat → Int32) → (Nat → Int32) → Int32 → Option O_X4_cut) (v_views : Int32) (v_viewAsNumber : Int32) (v_nextLot : Int32) (v_nextInput : Int32) (v_shares : Nat → Int32) (v_view : Nat → Int32) (y7 : Int32) : Option O_X4_cut :=
  if gin (x1 + y7) 48 = true then (f_X4_look N v_modulus (v_shares (x1 + y7).toNatClampNeg) v_views v_viewAsNumber v_view).bind (fun z_107 => r_78 z_107.1 z_107.2.1 v_nextLot v_nextInput v_shares z_107.2.2 (y7 + 1)) else none
def s_X4_cut_78 (N : Nat) (v_hand : Int32) (v_modulus : Int32) (v_a4 : Nat → Int32) (n_a4 : Nat) (x1 : Int32) (x2 : Int32) (x3 : Int32) (r_78 : Int32 → Int32 → Int32 → Int32 → (Nat → Int32) → (Nat → Int32) → Int32 → Option O_X4_cut) (v_views : Int32) (v_viewAsNumber : Int32) (v_nextLot : Int32) (v_nextInput : Int32) (v_shares : Nat → Int32) (v_view : Nat → Int32) (y7 : Int32) : Option O_X4_cut :=
  if (3 : Int32) ≤ y7 then (some (v_views, v_viewAsNumber, v_nextLot, v_nextInput, v_shares, v_view)) else (if x2 = 0 then (if y7 = v_hand then (f_X4_cut_97 N v_hand v_modulus v_a4 n_a4 x1 x2 x3 r_78 v_views v_viewAsNumber v_nextLot v_nextInput v_shares v_view y7) else (r_78 v_views v_viewAsNumber v_nextLot v_nextInput v_shares v_view (y7 + 1))) else (f_X4_cut_97 N v_hand v_modulus v_a4 n_a4 x1 x2 x3 r_78 v_views v_viewAsNumber v_nextLot v_nextInput v_shares v_view y7))
def f_X4_cut_78 (N : Nat) (v_hand : Int32) (v_modulus : Int32) (v_a4 : Nat → Int32) (n_a4 : Nat) (x1 : Int32) (x2 : Int32) (x3 : Int32) (n : Nat) : Int32 → Int32 → Int32 → Int32 → (Nat → Int32) → (Nat → Int32) → Int32 → Option O_X4_cut := lpg (fun _ _ _ _ _ _ _ => none) (s_X4_cut_78 N v_hand v_modulus v_a4 n_a4 x1 x2 x3) n
def f_X4_cut (N : Nat) (v_hand : Int32) (v_modulus : Int32) (v_a4 : Nat → Int32) (n_a4 : Nat) (x1 : Int32) (x2 : Int32) (x3 : Int32) (v_views : Int32) (v_viewAsNumber : Int32) (v_nextLot : Int32) (v_nextInput : Int32) (v_shares : Nat → Int32) (v_view : Nat → Int32) : Option O_X4_cut :=
  (f_X4_drawLot N v_modulus v_a4 n_a4 v_nextLot).bind (fun z_13 => (f_X4_drawLot N v_modulus v_a4 n_a4 z_13.2).bind (fun z_21 => (f_X4_isPlace N x1).bind (fun z_28 => if z_28 = 0 then (some (v_views, v_viewAsNumber, z_21.2, (v_nextInput + (1 : Int32)), v_shares, v_view)) else (if gin x1 48 = true then if gin (x1 + (1 : Int32)) 48 = true then (f_X9_mod N ((x3 - z_13.1) - z_21.1) v_modulus).bind (fun z_71 => if gin (x1 + (2 : Int32)) 48 = true then f_X4_cut_78 N v_hand v_modulus v_a4 n_a4 x1 x2 x3 N v_views v_viewAsNumber z_21.2 (v_nextInput + (1 : Int32)) (upd (upd (upd v_shares x1.toNatClampNeg z_13.1) (x1 + (1 : Int32)).toNatClampNeg z_21.1) (x1 + (2 : Int32)).toNatClampNeg z_71) v_view (0 : Int32) else none) else none else none))))
set_option maxHeartbeats 4000000 in
set_option maxRecDepth 100000 in
theorem t_X4_cut (l : Launch) (dC : Nat → ClassId) (dI : Nat → Nat → Nat) (h_this : Nat) (h_shares : Nat) (h_shown : Nat) (h_shownOfY : Nat) (h_triple : Nat) (h_view : Nat) (h_trial : Nat) (h_plain : Nat) (v_views : Int32) (v_viewAsNumber : Int32) (v_hand : Int32) (v_modulus : Int32) (v_nextLot : Int32) (v_nextInput : Int32) (k_shares : ClassId) (v_shares : Nat → Int32) (k_view : ClassId) (v_view : Nat → Int32) (h_a4 : Nat) (k_a4 : ClassId) (n_a4 : Nat) (v_a4 : Nat → Int32) (sz : Nat) (x1 : Int32) (x2 : Int32) (x3 : Int32) (N : Nat) (out : O_X4_cut) (hF : f_X4_cut N v_hand v_modulus v_a4 n_a4 x1 x2 x3 v_views v_viewAsNumber v_nextLot v_nextInput v_shares v_view = some out) : gMv l yX4_cut wsX4_cut ({ frames := 2, cells := 0, slots := 0, locals := 44 } : Room) [.ref h_this, .int x1, .int x2, .int x3, .ref h_a4] (dC, dI) [(h_this, .inr (4, [.ref h_shares, .ref h_shown, .ref h_shownOfY, .ref h_triple, .ref h_view, .ref h_trial, .ref h_plain, .int v_views, .int v_viewAsNumber, .int v_hand, .int v_modulus, .int v_nextLot, .int v_nextInput])), (h_shares, .inl (k_shares, 48, .inl v_shares)), (h_view, .inl (k_view, 51, .inl v_view)), (h_a4, .inl (k_a4, n_a4, .inl v_a4))] [(k_shares, .int), (k_view, .int), (k_a4, .int)] sz [(h_this, .inr (4, [.ref h_shares, .ref h_shown, .ref h_shownOfY, .ref h_triple, .ref h_view, .ref h_trial, .ref h_plain, .int out.1, .int out.2.1, .int v_hand, .int v_modulus, .int out.2.2.1, .int out.2.2.2.1])), (h_shares, .inl (k_shares, 48, .inl out.2.2.2.2.1)), (h_view, .inl (k_view, 51, .inl out.2.2.2.2.2)), (h_a4, .inl (k_a4, n_a4, .inl v_a4))] := by
  refine gEv (cc := cX4_cut) (maxL := 8) (by decide) rfl (Nat.le_of_ble_eq_true rfl) ?_
  intro p e s m args below meth c Q A ls CF hK hN hA hret hP hD hS hl
  have hx := CF.1
  have hb := CF.2.1
  have hml := CF.2.2.1
  have hown : s.vm.findClass RX4 = some m.cls := CF.2.2.2.1
  have hts := CF.2.2.2.2
  have hl : lv_has ls 8 [(0, .ref h_this), (1, .int x1), (2, .int x2), (3, .int x3), (4, .ref h_a4)] := hl
  have in_X4 : ∀ w ∈ wsX40, w ∈ wsX4_cut := fun w h => List.mem_cons_of_mem _ (List.mem_append_right _ h)
  have hL62 : (Cond.fieldLink RX4 62 "DustSums$Run" "nextInput" "I").before args s = true := hts (.fieldLink RX4 62 "DustSums$Run" "nextInput" "I") (List.mem_of_getElem? (i := 1) rfl)
  have cw125 : CallW ({ frames := 2, cells := 0, slots := 0, locals := 44 } : Room) s args RX4 RX4 125 yX4_drawLot cX4_drawLot 3 (some .int) wsX4_drawLot ({ frames := 1, cells := 0, slots := 0, locals := 22 } : Room) 0 0 1 := cwV 1 hts gX4_cut_X4_drawLot rfl rfl rfl (by decide +kernel) ⟨Nat.le_of_ble_eq_true rfl, Nat.le_of_ble_eq_true rfl⟩
  have cw129 : CallW ({ frames := 2, cells := 0, slots := 0, locals := 44 } : Room) s args RX4 RX4 129 yX4_isPlace cX4_isPlace 2 (some .boolean) wsX4_isPlace ({ frames := 0, cells := 0, slots := 0, locals := 0 } : Room) 0 0 1 := cwV 1 hts gX4_cut_X4_isPlace rfl rfl rfl (by decide +kernel) ⟨Nat.le_of_ble_eq_true rfl, Nat.le_of_ble_eq_true rfl⟩
  have hL9 : (Cond.fieldLink RX4 9 "DustSums$Run" "shares" "[I").before args s = true := hts (.fieldLink RX4 9 "DustSums$Run" "shares" "[I") (List.mem_of_getElem? (i := 2) rfl)
  have hL52 : (Cond.fieldLink RX4 52 "DustSums$Run" "modulus" "I").before args s = true := hts (.fieldLink RX4 52 "DustSums$Run" "modulus" "I") (List.mem_of_getElem? (i := 3) rfl)
  have nm118 : va_Nw (.methodLinkNest RX4 118 yX9_mod "DustSums") s := hN.2 (RX4, 118, yX9_mod, "DustSums") (by decide +kernel)
  have cw118 : va_CN ({ frames := 2, cells := 0, slots := 0, locals := 44 } : Room) s args RX4 118 yX9_mod "DustSums" cX9_mod 3 (some .int) wsX9_mod ({ frames := 0, cells := 0, slots := 0, locals := 0 } : Room) 0 0 2 ∧ (Cond.static yX9_mod).before args s = true ∧ True := ⟨va_cnB 2 hts gX4_cut_X9_mod_n118 rfl rfl rfl nm118 (hts (.initialized RX9) (List.mem_of_getElem? (i := 12) rfl)) (by decide +kernel) ⟨Nat.le_of_ble_eq_true rfl, Nat.le_of_ble_eq_true rfl⟩, hts (.static yX9_mod) (List.mem_of_getElem? (i := 14) rfl), trivial⟩
  have cw133 : CallW ({ frames := 2, cells := 0, slots := 0, locals := 44 } : Room) s args RX4 RX4 133 yX4_look cX4_look 2 none wsX4_look ({ frames := 1, cells := 0, slots := 0, locals := 22 } : Room) 0 0 1 := cwV 1 hts gX4_cut_X4_look rfl rfl rfl (by decide +kernel) ⟨Nat.le_of_ble_eq_true rfl, Nat.le_of_ble_eq_true rfl⟩
  have hL45 : (Cond.fieldLink RX4 45 "DustSums$Run" "hand" "I").before args s = true := hts (.fieldLink RX4 45 "DustSums$Run" "hand" "I") (List.mem_of_getElem? (i := 4) rfl)
  have k_97 : ∀ (r_78 : Int32 → Int32 → Int32 → Int32 → (Nat → Int32) → (Nat → Int32) → Int32 → Option O_X4_cut) (g_78 : ∀ (v_views : Int32) (v_viewAsNumber : Int32) (v_nextLot : Int32) (v_nextInput : Int32) (v_shares : Nat → Int32) (v_view : Nat → Int32) (y7 : Int32) (H : Heap) (locs : List Loc) (ls : Array Slot), r_78 v_views v_viewAsNumber v_nextLot v_nextInput v_shares v_view y7 = some out → va_P (dC, dI) vwCl [(h_this, .inr (4, [.ref h_shares, .ref h_shown, .ref h_shownOfY, .ref h_triple, .ref h_view, .ref h_trial, .ref h_plain, .int v_views, .int v_viewAsNumber, .int v_hand, .int v_modulus, .int v_nextLot, .int v_nextInput])), (h_shares, .inl (k_shares, 48, .inl v_shares)), (h_view, .inl (k_view, 51, .inl v_view)), (h_a4, .inl (k_a4, n_a4, .inl v_a4))] H → va_D A [(h_this, .inr (4, [.ref h_shares, .ref h_shown, .ref h_shownOfY, .ref h_triple, .ref h_view, .ref h_trial, .ref h_plain, .int v_views, .int v_viewAsNumber, .int v_hand, .int v_modulus, .int v_nextLot, .int v_nextInput])), (h_shares, .inl (k_shares, 48, .inl v_shares)), (h_view, .inl (k_view, 51, .inl v_view)), (h_a4, .inl (k_a4, n_a4, .inl v_a4))] → va_S A s.heap H locs → lv_has ls 8 [(0, .ref h_this), (1, .int x1), (2, .int x2), (7, .int y7)] → W p l e ({ frames := 2, cells := 0, slots := 0, locals := 44 } : Room) s m args below meth c H locs 0 0 Q (F0 m 78 ls [])) (v_views : Int32) (v_viewAsNumber : Int32) (v_nextLot : Int32) (v_nextInput : Int32) (v_shares : Nat → Int32) (v_view : Nat → Int32) (y7 : Int32) (H : Heap) (locs : List Loc) (ls : Array Slot), f_X4_cut_97 N v_hand v_modulus v_a4 n_a4 x1 x2 x3 r_78 v_views v_viewAsNumber v_nextLot v_nextInput v_shares v_view y7 = some out → va_P (dC, dI) vwCl [(h_this, .inr (4, [.ref h_shares, .ref h_shown, .ref h_shownOfY, .ref h_triple, .ref h_view, .ref h_trial, .ref h_plain, .int v_views, .int v_viewAsNumber, .int v_hand, .int v_modulus, .int v_nextLot, .int v_nextInput])), (h_shares, .inl (k_shares, 48, .inl v_shares)), (h_view, .inl (k_view, 51, .inl v_view)), (h_a4, .inl (k_a4, n_a4, .inl v_a4))] H → va_D A [(h_this, .inr (4, [.ref h_shares, .ref h_shown, .ref h_shownOfY, .ref h_triple, .ref h_view, .ref h_trial, .ref h_plain, .int v_views, .int v_viewAsNumber, .int v_hand, .int v_modulus, .int v_nextLot, .int v_nextInput])), (h_shares, .inl (k_shares, 48, .inl v_shares)), (h_view, .inl (k_view, 51, .inl v_view)), (h_a4, .inl (k_a4, n_a4, .inl v_a4))] → va_S A s.heap H locs → lv_has ls 8 [(0, .ref h_this), (1, .int x1), (2, .int x2), (7, .int y7)] → W p l e ({ frames := 2, cells := 0, slots := 0, locals := 44 } : Room) s m args below meth c H locs 0 0 Q (F0 m 97 ls []) := by
    intro r_78 g_78 v_views v_viewAsNumber v_nextLot v_nextInput v_shares v_view y7 H locs ls hF hP hD hS hl
    unfold f_X4_cut_97 at hF
    refine lv_aload_n hx hb dX4_cut_97 rfl (lv_at hl 0 rfl) ?_
    refine lv_aload_n hx hb dX4_cut_98 rfl (lv_at hl 0 rfl) ?_
    refine va_get (D := (dC, dI)) (ci := 4) (v := .ref h_shares) (C := RX4) (T := TX4) (N := 13) hx hb hts in_X4 hown hK hP 0 rfl rfl 0 (by decide) hL9 (fun _ h9 => h9) rfl dX4_cut_99 ?_
    refine lv_iload_n hx hb dX4_cut_102 rfl (lv_at hl 1 rfl) ?_
    refine lv_iload hx hb dX4_cut_103 (lv_at hl 3 rfl) ?_
    refine lv_iadd hx hb dX4_cut_105 ?_
    obtain ⟨hi_106, hF⟩ := gi_in hF
    refine va_iald hx hb hK hP 1 0 rfl rfl hi_106 dX4_cut_106 ?_
    obtain ⟨z_107, hz_107, hF⟩ := gi_bind hF
    refine gRv (wc := [(h_this, .inr (4, [.ref h_shares, .ref h_shown, .ref h_shownOfY, .ref h_triple, .ref h_view, .ref h_trial, .ref h_plain, .int v_views, .int v_viewAsNumber, .int v_hand, .int v_modulus, .int v_nextLot, .int v_nextInput])), (h_view, .inl (k_view, 51, .inl v_view))]) (wr := [(h_shares, .inl (k_shares, 48, .inl v_shares)), (h_a4, .inl (k_a4, n_a4, .inl v_a4))]) (w1 := [(h_this, .inr (4, [.ref h_shares, .ref h_shown, .ref h_shownOfY, .ref h_triple, .ref h_view, .ref h_trial, .ref h_plain, .int z_107.1, .int z_107.2.1, .int v_hand, .int v_modulus, .int v_nextLot, .int v_nextInput])), (h_view, .inl (k_view, 51, .inl z_107.2.2))]) hP hD hS hA [0, 2] [1, 3] rfl rfl (by decide) (by decide) (va_runV (As := [.int (v_shares (x1 + y7).toNatClampNeg)]) (rest := []) CF (t_X4_look l dC dI h_this h_shares h_shown h_shownOfY h_triple h_view h_trial h_plain v_views v_viewAsNumber v_hand v_modulus v_nextLot v_nextInput k_view v_view H.size (v_shares (x1 + y7).toNatClampNeg) N z_107 hz_107) cw133 (gPV (ci := 4) hP hD hK hN [0, 2] [1] (by decide) rfl rfl (q0 := 0) rfl rfl) rfl rfl hl.1 rfl (lv_room (Nat.le_of_ble_eq_true rfl)) dX4_cut_107 ⟨Nat.zero_le _, Nat.zero_le _⟩) (fun H locs hP hD hS => ?_)
    have hP : va_P (dC, dI) vwCl [(h_shares, .inl (k_shares, 48, .inl v_shares)), (h_a4, .inl (k_a4, n_a4, .inl v_a4)), (h_this, .inr (4, [.ref h_shares, .ref h_shown, .ref h_shownOfY, .ref h_triple, .ref h_view, .ref h_trial, .ref h_plain, .int z_107.1, .int z_107.2.1, .int v_hand, .int v_modulus, .int v_nextLot, .int v_nextInput])), (h_view, .inl (k_view, 51, .inl z_107.2.2))] H := hP
    have hD : va_D A [(h_shares, .inl (k_shares, 48, .inl v_shares)), (h_a4, .inl (k_a4, n_a4, .inl v_a4)), (h_this, .inr (4, [.ref h_shares, .ref h_shown, .ref h_shownOfY, .ref h_triple, .ref h_view, .ref h_trial, .ref h_plain, .int z_107.1, .int z_107.2.1, .int v_hand, .int v_modulus, .int v_nextLot, .int v_nextInput])), (h_view, .inl (k_view, 51, .inl z_107.2.2))] := hD
    refine lv_iinc (v := (y7 + 1)) (lv' := [(7, .int (y7 + 1)), (0, .ref h_this), (1, .int x1), (2, .int x2)]) hx hb dX4_cut_110 hl (k := 3) rfl rfl (by decide) rfl (fun ls hl => ?_)
    refine lv_goto (tgt := 78) hx hb dX4_cut_113 (by decide) ?_
    exact g_78 z_107.1 z_107.2.1 v_nextLot v_nextInput v_shares z_107.2.2 (y7 + 1) _ _ _ hF (hP.sub [2, 0, 3, 1] rfl) (hD.sub [2, 0, 3, 1] (by decide) rfl) hS (lv_sub hl [1, 2, 3, 0] rfl)
  have k_78 : ∀ (n : Nat) (v_views : Int32) (v_viewAsNumber : Int32) (v_nextLot : Int32) (v_nextInput : Int32) (v_shares : Nat → Int32) (v_view : Nat → Int32) (y7 : Int32) (H : Heap) (locs : List Loc) (ls : Array Slot), f_X4_cut_78 N v_hand v_modulus v_a4 n_a4 x1 x2 x3 n v_views v_viewAsNumber v_nextLot v_nextInput v_shares v_view y7 = some out → va_P (dC, dI) vwCl [(h_this, .inr (4, [.ref h_shares, .ref h_shown, .ref h_shownOfY, .ref h_triple, .ref h_view, .ref h_trial, .ref h_plain, .int v_views, .int v_viewAsNumber, .int v_hand, .int v_modulus, .int v_nextLot, .int v_nextInput])), (h_shares, .inl (k_shares, 48, .inl v_shares)), (h_view, .inl (k_view, 51, .inl v_view)), (h_a4, .inl (k_a4, n_a4, .inl v_a4))] H → va_D A [(h_this, .inr (4, [.ref h_shares, .ref h_shown, .ref h_shownOfY, .ref h_triple, .ref h_view, .ref h_trial, .ref h_plain, .int v_views, .int v_viewAsNumber, .int v_hand, .int v_modulus, .int v_nextLot, .int v_nextInput])), (h_shares, .inl (k_shares, 48, .inl v_shares)), (h_view, .inl (k_view, 51, .inl v_view)), (h_a4, .inl (k_a4, n_a4, .inl v_a4))] → va_S A s.heap H locs → lv_has ls 8 [(0, .ref h_this), (1, .int x1), (2, .int x2), (7, .int y7)] → W p l e ({ frames := 2, cells := 0, slots := 0, locals := 44 } : Room) s m args below meth c H locs 0 0 Q (F0 m 78 ls []) := by
    intro n
    induction n with
    | zero =>
      intro v_views v_viewAsNumber v_nextLot v_nextInput v_shares v_view y7 H locs ls hF
      have hF : (none : Option O_X4_cut) = some out := hF
      cases hF
    | succ n ih =>
      intro v_views v_viewAsNumber v_nextLot v_nextInput v_shares v_view y7 H locs ls hF hP hD hS hl
      have hF : s_X4_cut_78 N v_hand v_modulus v_a4 n_a4 x1 x2 x3 (f_X4_cut_78 N v_hand v_modulus v_a4 n_a4 x1 x2 x3 n) v_views v_viewAsNumber v_nextLot v_nextInput v_shares v_view y7 = some out := hF
      generalize f_X4_cut_78 N v_hand v_modulus v_a4 n_a4 x1 x2 x3 n = r_78 at hF ih
      have g_78 : ∀ (v_views : Int32) (v_viewAsNumber : Int32) (v_nextLot : Int32) (v_nextInput : Int32) (v_shares : Nat → Int32) (v_view : Nat → Int32) (y7 : Int32) (H : Heap) (locs : List Loc) (ls : Array Slot), r_78 v_views v_viewAsNumber v_nextLot v_nextInput v_shares v_view y7 = some out → va_P (dC, dI) vwCl [(h_this, .inr (4, [.ref h_shares, .ref h_shown, .ref h_shownOfY, .ref h_triple, .ref h_view, .ref h_trial, .ref h_plain, .int v_views, .int v_viewAsNumber, .int v_hand, .int v_modulus, .int v_nextLot, .int v_nextInput])), (h_shares, .inl (k_shares, 48, .inl v_shares)), (h_view, .inl (k_view, 51, .inl v_view)), (h_a4, .inl (k_a4, n_a4, .inl v_a4))] H → va_D A [(h_this, .inr (4, [.ref h_shares, .ref h_shown, .ref h_shownOfY, .ref h_triple, .ref h_view, .ref h_trial, .ref h_plain, .int v_views, .int v_viewAsNumber, .int v_hand, .int v_modulus, .int v_nextLot, .int v_nextInput])), (h_shares, .inl (k_shares, 48, .inl v_shares)), (h_view, .inl (k_view, 51, .inl v_view)), (h_a4, .inl (k_a4, n_a4, .inl v_a4))] → va_S A s.heap H locs → lv_has ls 8 [(0, .ref h_this), (1, .int x1), (2, .int x2), (7, .int y7)] → W p l e ({ frames := 2, cells := 0, slots := 0, locals := 44 } : Room) s m args below meth c H locs 0 0 Q (F0 m 78 ls []) := ih
      clear ih
      unfold s_X4_cut_78 at hF
      refine lv_iload hx hb dX4_cut_78 (lv_at hl 3 rfl) ?_
      refine lv_iconst (v := (3 : Int32)) hx hb dX4_cut_80 (by decide) ?_
      refine lv_icmp_ge (tgt := 116) hx hb dX4_cut_81 (by decide) (fun c_81 => ?_) (fun c_81 => ?_)
      · have hF := gi_t c_81 hF
        have hF := Option.some.inj hF
        subst hF
        exact hret _ _ _ _ dX4_cut_116 hP hD hS
      · have hF := gi_f c_81 hF
        refine lv_iload_n hx hb dX4_cut_84 rfl (lv_at hl 2 rfl) ?_
        refine lv_if_ne (tgt := 97) hx hb dX4_cut_85 (by decide) (fun c_85 => ?_) (fun c_85 => ?_)
        · have hF := gi_f c_85 hF
          exact k_97 r_78 g_78 v_views v_viewAsNumber v_nextLot v_nextInput v_shares v_view y7 _ _ _ hF hP hD hS hl
        · have hF := gi_t c_85 hF
          refine lv_iload hx hb dX4_cut_88 (lv_at hl 3 rfl) ?_
          refine lv_aload_n hx hb dX4_cut_90 rfl (lv_at hl 0 rfl) ?_
          refine va_get (D := (dC, dI)) (ci := 4) (v := .int v_hand) (C := RX4) (T := TX4) (N := 13) hx hb hts in_X4 hown hK hP 0 rfl rfl 9 (by decide) hL45 (fun _ h9 => h9) rfl dX4_cut_91 ?_
          refine lv_icmp_ne (tgt := 110) hx hb dX4_cut_94 (by decide) (fun c_94 => ?_) (fun c_94 => ?_)
          · have hF := gi_f c_94 hF
            refine lv_iinc (v := (y7 + 1)) (lv' := [(7, .int (y7 + 1)), (0, .ref h_this), (1, .int x1), (2, .int x2)]) hx hb dX4_cut_110 hl (k := 3) rfl rfl (by decide) rfl (fun ls hl => ?_)
            refine lv_goto (tgt := 78) hx hb dX4_cut_113 (by decide) ?_
            exact g_78 v_views v_viewAsNumber v_nextLot v_nextInput v_shares v_view (y7 + 1) _ _ _ hF hP hD hS (lv_sub hl [1, 2, 3, 0] rfl)
          · have hF := gi_t c_94 hF
            exact k_97 r_78 g_78 v_views v_viewAsNumber v_nextLot v_nextInput v_shares v_view y7 _ _ _ hF hP hD hS hl
  unfold f_X4_cut at hF
  refine lv_aload_n hx hb dX4_cut_0 rfl (lv_at hl 0 rfl) ?_
  refine lv_dup hx hb dX4_cut_1 rfl ?_
  refine va_get (D := (dC, dI)) (ci := 4) (v := .int v_nextInput) (C := RX4) (T := TX4) (N := 13) hx hb hts in_X4 hown hK hP 0 rfl rfl 12 (by decide) hL62 (fun _ h9 => h9) rfl dX4_cut_2 ?_
  refine lv_iconst (v := (1 : Int32)) hx hb dX4_cut_5 (by decide) ?_
  refine lv_iadd hx hb dX4_cut_6 ?_
  refine va_put (D := (dC, dI)) (ci := 4) (v := .int (v_nextInput + (1 : Int32))) (ty := .int) (C := RX4) (T := TX4) (N := 13) hx hb hts in_X4 tyX4 tyX4_ok nmX4 hown hK hP hD hS 0 rfl rfl 12 (by decide) hL62 (fun _ h9 => h9) rfl (by decide +kernel) rfl rfl (Nat.le_of_ble_eq_true rfl) dX4_cut_7 (fun H locs hP hD hS => ?_)
  have hP : va_P (dC, dI) vwCl [(h_this, .inr (4, [.ref h_shares, .ref h_shown, .ref h_shownOfY, .ref h_triple, .ref h_view, .ref h_trial, .ref h_plain, .int v_views, .int v_viewAsNumber, .int v_hand, .int v_modulus, .int v_nextLot, .int (v_nextInput + (1 : Int32))])), (h_shares, .inl (k_shares, 48, .inl v_shares)), (h_view, .inl (k_view, 51, .inl v_view)), (h_a4, .inl (k_a4, n_a4, .inl v_a4))] H := hP
  have hD : va_D A [(h_this, .inr (4, [.ref h_shares, .ref h_shown, .ref h_shownOfY, .ref h_triple, .ref h_view, .ref h_trial, .ref h_plain, .int v_views, .int v_viewAsNumber, .int v_hand, .int v_modulus, .int v_nextLot, .int (v_nextInput + (1 : Int32))])), (h_shares, .inl (k_shares, 48, .inl v_shares)), (h_view, .inl (k_view, 51, .inl v_view)), (h_a4, .inl (k_a4, n_a4, .inl v_a4))] := hD
  refine lv_aload_n hx hb dX4_cut_10 rfl (lv_at hl 0 rfl) ?_
  refine lv_aload hx hb dX4_cut_11 (lv_at hl 4 rfl) ?_
  obtain ⟨z_13, hz_13, hF⟩ := gi_bind hF
  refine gRi (wc := [(h_this, .inr (4, [.ref h_shares, .ref h_shown, .ref h_shownOfY, .ref h_triple, .ref h_view, .ref h_trial, .ref h_plain, .int v_views, .int v_viewAsNumber, .int v_hand, .int v_modulus, .int v_nextLot, .int (v_nextInput + (1 : Int32))])), (h_a4, .inl (k_a4, n_a4, .inl v_a4))]) (wr := [(h_shares, .inl (k_shares, 48, .inl v_shares)), (h_view, .inl (k_view, 51, .inl v_view))]) (w1 := [(h_this, .inr (4, [.ref h_shares, .ref h_shown, .ref h_shownOfY, .ref h_triple, .ref h_view, .ref h_trial, .ref h_plain, .int v_views, .int v_viewAsNumber, .int v_hand, .int v_modulus, .int z_13.2, .int (v_nextInput + (1 : Int32))])), (h_a4, .inl (k_a4, n_a4, .inl v_a4))]) hP hD hS hA [0, 3] [1, 2] rfl rfl (by decide) (by decide) (va_runV (As := [.ref h_a4]) (rest := []) CF (t_X4_drawLot l dC dI h_this h_shares h_shown h_shownOfY h_triple h_view h_trial h_plain v_views v_viewAsNumber v_hand v_modulus v_nextLot (v_nextInput + (1 : Int32)) h_a4 k_a4 n_a4 v_a4 H.size  N z_13 hz_13) cw125 (gPV (ci := 4) hP hD hK hN [0, 3] [2] (by decide) rfl rfl (q0 := 0) rfl rfl) rfl rfl hl.1 rfl (lv_room (Nat.le_of_ble_eq_true rfl)) dX4_cut_13 ⟨Nat.zero_le _, Nat.zero_le _⟩) (fun H locs hP hD hS => ?_)
  have hP : va_P (dC, dI) vwCl [(h_shares, .inl (k_shares, 48, .inl v_shares)), (h_view, .inl (k_view, 51, .inl v_view)), (h_this, .inr (4, [.ref h_shares, .ref h_shown, .ref h_shownOfY, .ref h_triple, .ref h_view, .ref h_trial, .ref h_plain, .int v_views, .int v_viewAsNumber, .int v_hand, .int v_modulus, .int z_13.2, .int (v_nextInput + (1 : Int32))])), (h_a4, .inl (k_a4, n_a4, .inl v_a4))] H := hP
  have hD : va_D A [(h_shares, .inl (k_shares, 48, .inl v_shares)), (h_view, .inl (k_view, 51, .inl v_view)), (h_this, .inr (4, [.ref h_shares, .ref h_shown, .ref h_shownOfY, .ref h_triple, .ref h_view, .ref h_trial, .ref h_plain, .int v_views, .int v_viewAsNumber, .int v_hand, .int v_modulus, .int z_13.2, .int (v_nextInput + (1 : Int32))])), (h_a4, .inl (k_a4, n_a4, .inl v_a4))] := hD
  refine lv_istore (lv' := [(5, .int z_13.1), (0, .ref h_this), (1, .int x1), (2, .int x2), (3, .int x3), (4, .ref h_a4)]) hx hb dX4_cut_16 hl (by decide) rfl (fun ls hl => ?_)
  refine lv_aload_n hx hb dX4_cut_18 rfl (lv_at hl 1 rfl) ?_
  refine lv_aload hx hb dX4_cut_19 (lv_at hl 5 rfl) ?_
  obtain ⟨z_21, hz_21, hF⟩ := gi_bind hF
  refine gRi (wc := [(h_this, .inr (4, [.ref h_shares, .ref h_shown, .ref h_shownOfY, .ref h_triple, .ref h_view, .ref h_trial, .ref h_plain, .int v_views, .int v_viewAsNumber, .int v_hand, .int v_modulus, .int z_13.2, .int (v_nextInput + (1 : Int32))])), (h_a4, .inl (k_a4, n_a4, .inl v_a4))]) (wr := [(h_shares, .inl (k_shares, 48, .inl v_shares)), (h_view, .inl (k_view, 51, .inl v_view))]) (w1 := [(h_this, .inr (4, [.ref h_shares, .ref h_shown, .ref h_shownOfY, .ref h_triple, .ref h_view, .ref h_trial, .ref h_plain, .int v_views, .int v_viewAsNumber, .int v_hand, .int v_modulus, .int z_21.2, .int (v_nextInput + (1 : Int32))])), (h_a4, .inl (k_a4, n_a4, .inl v_a4))]) hP hD hS hA [2, 3] [0, 1] rfl rfl (by decide) (by decide) (va_runV (As := [.ref h_a4]) (rest := []) CF (t_X4_drawLot l dC dI h_this h_shares h_shown h_shownOfY h_triple h_view h_trial h_plain v_views v_viewAsNumber v_hand v_modulus z_13.2 (v_nextInput + (1 : Int32)) h_a4 k_a4 n_a4 v_a4 H.size  N z_21 hz_21) cw125 (gPV (ci := 4) hP hD hK hN [2, 3] [2] (by decide) rfl rfl (q0 := 2) rfl rfl) rfl rfl hl.1 rfl (lv_room (Nat.le_of_ble_eq_true rfl)) dX4_cut_21 ⟨Nat.zero_le _, Nat.zero_le _⟩) (fun H locs hP hD hS => ?_)
  have hP : va_P (dC, dI) vwCl [(h_shares, .inl (k_shares, 48, .inl v_shares)), (h_view, .inl (k_view, 51, .inl v_view)), (h_this, .inr (4, [.ref h_shares, .ref h_shown, .ref h_shownOfY, .ref h_triple, .ref h_view, .ref h_trial, .ref h_plain, .int v_views, .int v_viewAsNumber, .int v_hand, .int v_modulus, .int z_21.2, .int (v_nextInput + (1 : Int32))])), (h_a4, .inl (k_a4, n_a4, .inl v_a4))] H := hP
  have hD : va_D A [(h_shares, .inl (k_shares, 48, .inl v_shares)), (h_view, .inl (k_view, 51, .inl v_view)), (h_this, .inr (4, [.ref h_shares, .ref h_shown, .ref h_shownOfY, .ref h_triple, .ref h_view, .ref h_trial, .ref h_plain, .int v_views, .int v_viewAsNumber, .int v_hand, .int v_modulus, .int z_21.2, .int (v_nextInput + (1 : Int32))])), (h_a4, .inl (k_a4, n_a4, .inl v_a4))] := hD
  refine lv_istore (lv' := [(6, .int z_21.1), (5, .int z_13.1), (0, .ref h_this), (1, .int x1), (2, .int x2), (3, .int x3), (4, .ref h_a4)]) hx hb dX4_cut_24 hl (by decide) rfl (fun ls hl => ?_)
  refine lv_aload_n hx hb dX4_cut_26 rfl (lv_at hl 2 rfl) ?_
  refine lv_iload_n hx hb dX4_cut_27 rfl (lv_at hl 3 rfl) ?_
  obtain ⟨z_28, hz_28, hF⟩ := gi_bind hF
  refine gRi (wc := [(h_this, .inr (4, [.ref h_shares, .ref h_shown, .ref h_shownOfY, .ref h_triple, .ref h_view, .ref h_trial, .ref h_plain, .int v_views, .int v_viewAsNumber, .int v_hand, .int v_modulus, .int z_21.2, .int (v_nextInput + (1 : Int32))])), (h_shares, .inl (k_shares, 48, .inl v_shares))]) (wr := [(h_view, .inl (k_view, 51, .inl v_view)), (h_a4, .inl (k_a4, n_a4, .inl v_a4))]) (w1 := [(h_this, .inr (4, [.ref h_shares, .ref h_shown, .ref h_shownOfY, .ref h_triple, .ref h_view, .ref h_trial, .ref h_plain, .int v_views, .int v_viewAsNumber, .int v_hand, .int v_modulus, .int z_21.2, .int (v_nextInput + (1 : Int32))])), (h_shares, .inl (k_shares, 48, .inl v_shares))]) hP hD hS hA [2, 0] [1, 3] rfl rfl (by decide) (by decide) (va_runV (As := [.int x1]) (rest := []) CF (t_X4_isPlace l dC dI h_this h_shares h_shown h_shownOfY h_triple h_view h_trial h_plain v_views v_viewAsNumber v_hand v_modulus z_21.2 (v_nextInput + (1 : Int32)) k_shares v_shares H.size x1 N z_28 hz_28) cw129 (gPV (ci := 4) hP hD hK hN [2, 0] [0] (by decide) rfl rfl (q0 := 2) rfl rfl) rfl rfl hl.1 rfl (lv_room (Nat.le_of_ble_eq_true rfl)) dX4_cut_28 ⟨Nat.zero_le _, Nat.zero_le _⟩) (fun H locs hP hD hS => ?_)
  have hP : va_P (dC, dI) vwCl [(h_view, .inl (k_view, 51, .inl v_view)), (h_a4, .inl (k_a4, n_a4, .inl v_a4)), (h_this, .inr (4, [.ref h_shares, .ref h_shown, .ref h_shownOfY, .ref h_triple, .ref h_view, .ref h_trial, .ref h_plain, .int v_views, .int v_viewAsNumber, .int v_hand, .int v_modulus, .int z_21.2, .int (v_nextInput + (1 : Int32))])), (h_shares, .inl (k_shares, 48, .inl v_shares))] H := hP
  have hD : va_D A [(h_view, .inl (k_view, 51, .inl v_view)), (h_a4, .inl (k_a4, n_a4, .inl v_a4)), (h_this, .inr (4, [.ref h_shares, .ref h_shown, .ref h_shownOfY, .ref h_triple, .ref h_view, .ref h_trial, .ref h_plain, .int v_views, .int v_viewAsNumber, .int v_hand, .int v_modulus, .int z_21.2, .int (v_nextInput + (1 : Int32))])), (h_shares, .inl (k_shares, 48, .inl v_shares))] := hD
  refine lv_if_ne (tgt := 35) hx hb dX4_cut_31 (by decide) (fun c_31 => ?_) (fun c_31 => ?_)
  · have hF := gi_f c_31 hF
    refine lv_aload_n hx hb dX4_cut_35 rfl (lv_at hl 2 rfl) ?_
    refine va_get (D := (dC, dI)) (ci := 4) (v := .ref h_shares) (C := RX4) (T := TX4) (N := 13) hx hb hts in_X4 hown hK hP 2 rfl rfl 0 (by decide) hL9 (fun _ h9 => h9) rfl dX4_cut_36 ?_
    refine lv_iload_n hx hb dX4_cut_39 rfl (lv_at hl 3 rfl) ?_
    refine lv_iload hx hb dX4_cut_40 (lv_at hl 1 rfl) ?_
    obtain ⟨hi_42, hF⟩ := gi_in hF
    refine va_iast hx hb hK hP hD hS 3 0 rfl rfl hi_42 dX4_cut_42 (fun H locs hP hD hS => ?_)
    have hP : va_P (dC, dI) vwCl [(h_view, .inl (k_view, 51, .inl v_view)), (h_a4, .inl (k_a4, n_a4, .inl v_a4)), (h_this, .inr (4, [.ref h_shares, .ref h_shown, .ref h_shownOfY, .ref h_triple, .ref h_view, .ref h_trial, .ref h_plain, .int v_views, .int v_viewAsNumber, .int v_hand, .int v_modulus, .int z_21.2, .int (v_nextInput + (1 : Int32))])), (h_shares, .inl (k_shares, 48, .inl (upd v_shares x1.toNatClampNeg z_13.1)))] H := hP
    have hD : va_D A [(h_view, .inl (k_view, 51, .inl v_view)), (h_a4, .inl (k_a4, n_a4, .inl v_a4)), (h_this, .inr (4, [.ref h_shares, .ref h_shown, .ref h_shownOfY, .ref h_triple, .ref h_view, .ref h_trial, .ref h_plain, .int v_views, .int v_viewAsNumber, .int v_hand, .int v_modulus, .int z_21.2, .int (v_nextInput + (1 : Int32))])), (h_shares, .inl (k_shares, 48, .inl (upd v_shares x1.toNatClampNeg z_13.1)))] := hD
    refine lv_aload_n hx hb dX4_cut_43 rfl (lv_at hl 2 rfl) ?_
    refine va_get (D := (dC, dI)) (ci := 4) (v := .ref h_shares) (C := RX4) (T := TX4) (N := 13) hx hb hts in_X4 hown hK hP 2 rfl rfl 0 (by decide) hL9 (fun _ h9 => h9) rfl dX4_cut_44 ?_
    refine lv_iload_n hx hb dX4_cut_47 rfl (lv_at hl 3 rfl) ?_
    refine lv_iconst (v := (1 : Int32)) hx hb dX4_cut_48 (by decide) ?_
    refine lv_iadd hx hb dX4_cut_49 ?_
    refine lv_iload hx hb dX4_cut_50 (lv_at hl 0 rfl) ?_
    obtain ⟨hi_52, hF⟩ := gi_in hF
    refine va_iast hx hb hK hP hD hS 3 0 rfl rfl hi_52 dX4_cut_52 (fun H locs hP hD hS => ?_)
    have hP : va_P (dC, dI) vwCl [(h_view, .inl (k_view, 51, .inl v_view)), (h_a4, .inl (k_a4, n_a4, .inl v_a4)), (h_this, .inr (4, [.ref h_shares, .ref h_shown, .ref h_shownOfY, .ref h_triple, .ref h_view, .ref h_trial, .ref h_plain, .int v_views, .int v_viewAsNumber, .int v_hand, .int v_modulus, .int z_21.2, .int (v_nextInput + (1 : Int32))])), (h_shares, .inl (k_shares, 48, .inl (upd (upd v_shares x1.toNatClampNeg z_13.1) (x1 + (1 : Int32)).toNatClampNeg z_21.1)))] H := hP
    have hD : va_D A [(h_view, .inl (k_view, 51, .inl v_view)), (h_a4, .inl (k_a4, n_a4, .inl v_a4)), (h_this, .inr (4, [.ref h_shares, .ref h_shown, .ref h_shownOfY, .ref h_triple, .ref h_view, .ref h_trial, .ref h_plain, .int v_views, .int v_viewAsNumber, .int v_hand, .int v_modulus, .int z_21.2, .int (v_nextInput + (1 : Int32))])), (h_shares, .inl (k_shares, 48, .inl (upd (upd v_shares x1.toNatClampNeg z_13.1) (x1 + (1 : Int32)).toNatClampNeg z_21.1)))] := hD
    refine lv_aload_n hx hb dX4_cut_53 rfl (lv_at hl 2 rfl) ?_
    refine va_get (D := (dC, dI)) (ci := 4) (v := .ref h_shares) (C := RX4) (T := TX4) (N := 13) hx hb hts in_X4 hown hK hP 2 rfl rfl 0 (by decide) hL9 (fun _ h9 => h9) rfl dX4_cut_54 ?_
    refine lv_iload_n hx hb dX4_cut_57 rfl (lv_at hl 3 rfl) ?_
    refine lv_iconst (v := (2 : Int32)) hx hb dX4_cut_58 (by decide) ?_
    refine lv_iadd hx hb dX4_cut_59 ?_
    refine lv_iload_n hx hb dX4_cut_60 rfl (lv_at hl 5 rfl) ?_
    refine lv_iload hx hb dX4_cut_61 (lv_at hl 1 rfl) ?_
    refine lv_isub hx hb dX4_cut_63 ?_
    refine lv_iload hx hb dX4_cut_64 (lv_at hl 0 rfl) ?_
    refine lv_isub hx hb dX4_cut_66 ?_
    refine lv_aload_n hx hb dX4_cut_67 rfl (lv_at hl 2 rfl) ?_
    refine va_get (D := (dC, dI)) (ci := 4) (v := .int v_modulus) (C := RX4) (T := TX4) (N := 13) hx hb hts in_X4 hown hK hP 2 rfl rfl 10 (by decide) hL52 (fun _ h9 => h9) rfl dX4_cut_68 ?_
    obtain ⟨z_71, hz_71, hF⟩ := gi_bind hF
    refine gRi (wc := []) (wr := [(h_view, .inl (k_view, 51, .inl v_view)), (h_a4, .inl (k_a4, n_a4, .inl v_a4)), (h_this, .inr (4, [.ref h_shares, .ref h_shown, .ref h_shownOfY, .ref h_triple, .ref h_view, .ref h_trial, .ref h_plain, .int v_views, .int v_viewAsNumber, .int v_hand, .int v_modulus, .int z_21.2, .int (v_nextInput + (1 : Int32))])), (h_shares, .inl (k_shares, 48, .inl (upd (upd v_shares x1.toNatClampNeg z_13.1) (x1 + (1 : Int32)).toNatClampNeg z_21.1)))]) (w1 := []) hP hD hS hA [] [0, 1, 2, 3] rfl rfl (by decide) (by decide) (va_runSN (As := [.int ((x3 - z_13.1) - z_21.1), .int v_modulus]) (rest := [.int (x1 + (2 : Int32)), .ref h_shares]) CF (t_X9_mod l dC dI H.size ((x3 - z_13.1) - z_21.1) v_modulus N z_71 hz_71) cw118 (gPS hP hD hK hN [] [] (by decide) rfl rfl) rfl rfl hl.1 rfl (lv_room (Nat.le_of_ble_eq_true rfl)) dX4_cut_71 ⟨Nat.zero_le _, Nat.zero_le _⟩) (fun H locs hP hD hS => ?_)
    have hP : va_P (dC, dI) vwCl [(h_view, .inl (k_view, 51, .inl v_view)), (h_a4, .inl (k_a4, n_a4, .inl v_a4)), (h_this, .inr (4, [.ref h_shares, .ref h_shown, .ref h_shownOfY, .ref h_triple, .ref h_view, .ref h_trial, .ref h_plain, .int v_views, .int v_viewAsNumber, .int v_hand, .int v_modulus, .int z_21.2, .int (v_nextInput + (1 : Int32))])), (h_shares, .inl (k_shares, 48, .inl (upd (upd v_shares x1.toNatClampNeg z_13.1) (x1 + (1 : Int32)).toNatClampNeg z_21.1)))] H := hP
    have hD : va_D A [(h_view, .inl (k_view, 51, .inl v_view)), (h_a4, .inl (k_a4, n_a4, .inl v_a4)), (h_this, .inr (4, [.ref h_shares, .ref h_shown, .ref h_shownOfY, .ref h_triple, .ref h_view, .ref h_trial, .ref h_plain, .int v_views, .int v_viewAsNumber, .int v_hand, .int v_modulus, .int z_21.2, .int (v_nextInput + (1 : Int32))])), (h_shares, .inl (k_shares, 48, .inl (upd (upd v_shares x1.toNatClampNeg z_13.1) (x1 + (1 : Int32)).toNatClampNeg z_21.1)))] := hD
    obtain ⟨hi_74, hF⟩ := gi_in hF
    refine va_iast hx hb hK hP hD hS 3 0 rfl rfl hi_74 dX4_cut_74 (fun H locs hP hD hS => ?_)
    have hP : va_P (dC, dI) vwCl [(h_view, .inl (k_view, 51, .inl v_view)), (h_a4, .inl (k_a4, n_a4, .inl v_a4)), (h_this, .inr (4, [.ref h_shares, .ref h_shown, .ref h_shownOfY, .ref h_triple, .ref h_view, .ref h_trial, .ref h_plain, .int v_views, .int v_viewAsNumber, .int v_hand, .int v_modulus, .int z_21.2, .int (v_nextInput + (1 : Int32))])), (h_shares, .inl (k_shares, 48, .inl (upd (upd (upd v_shares x1.toNatClampNeg z_13.1) (x1 + (1 : Int32)).toNatClampNeg z_21.1) (x1 + (2 : Int32)).toNatClampNeg z_71)))] H := hP
    have hD : va_D A [(h_view, .inl (k_view, 51, .inl v_view)), (h_a4, .inl (k_a4, n_a4, .inl v_a4)), (h_this, .inr (4, [.ref h_shares, .ref h_shown, .ref h_shownOfY, .ref h_triple, .ref h_view, .ref h_trial, .ref h_plain, .int v_views, .int v_viewAsNumber, .int v_hand, .int v_modulus, .int z_21.2, .int (v_nextInput + (1 : Int32))])), (h_shares, .inl (k_shares, 48, .inl (upd (upd (upd v_shares x1.toNatClampNeg z_13.1) (x1 + (1 : Int32)).toNatClampNeg z_21.1) (x1 + (2 : Int32)).toNatClampNeg z_71)))] := hD
    refine lv_iconst (v := (0 : Int32)) hx hb dX4_cut_75 (by decide) ?_
    refine lv_istore (lv' := [(7, .int (0 : Int32)), (6, .int z_21.1), (5, .int z_13.1), (0, .ref h_this), (1, .int x1), (2, .int x2), (3, .int x3), (4, .ref h_a4)]) hx hb dX4_cut_76 hl (by decide) rfl (fun ls hl => ?_)
    exact k_78 N v_views v_viewAsNumber z_21.2 (v_nextInput + (1 : Int32)) (upd (upd (upd v_shares x1.toNatClampNeg z_13.1) (x1 + (1 : Int32)).toNatClampNeg z_21.1) (x1 + (2 : Int32)).toNatClampNeg z_71) v_view (0 : Int32) _ _ _ hF (hP.sub [2, 3, 0, 1] rfl) (hD.sub [2, 3, 0, 1] (by decide) rfl) hS (lv_sub hl [3, 4, 5, 0] rfl)
  · have hF := gi_t c_31 hF
    have hF := Option.some.inj hF
    subst hF
    exact hret _ _ _ _ dX4_cut_34 (hP.sub [2, 3, 0, 1] rfl) (hD.sub [2, 3, 0, 1] (by decide) rfl) hS
abbrev O_X4_fix : Type := (Nat → Int32)
def f_X4_fix (N : Nat) (v_modulus : Int32) (x1 : Int32) (x2 : Int32) (v_shares : Nat → Int32) : Option O_X4_fix :=
  (f_X4_isPlace N x1).bind (fun z_2 => if z_2 = 0 then (some (v_shares)) else ((f_X9_mod N x2 v_modulus).bind (fun z_19 => if gin x1 48 = true then if gin (x1 + (1 : Int32)) 48 = true then if gin (x1 + (2 : Int32)) 48 = true then some ((upd (upd (upd v_shares x1.toNatClampNeg z_19) (x1 + (1 : Int32)).toNatClampNeg (0 : Int32)) (x1 + (2 : Int32)).toNatClampNeg (0 : Int32))) else none else none else none)))
set_option maxHeartbeats 4000000 in
set_option maxRecDepth 100000 in
theorem t_X4_fix (l : Launch) (dC : Nat → ClassId) (dI : Nat → Nat → Nat) (h_this : Nat) (h_shares : Nat) (h_shown : Nat) (h_shownOfY : Nat) (h_triple : Nat) (h_view : Nat) (h_trial : Nat) (h_plain : Nat) (v_views : Int32) (v_viewAsNumber : Int32) (v_hand : Int32) (v_modulus : Int32) (v_nextLot : Int32) (v_nextInput : Int32) (k_shares : ClassId) (v_shares : Nat → Int32) (sz : Nat) (x1 : Int32) (x2 : Int32) (N : Nat) (out : O_X4_fix) (hF : f_X4_fix N v_modulus x1 x2 v_shares = some out) : gMv l yX4_fix wsX4_fix ({ frames := 1, cells := 0, slots := 0, locals := 22 } : Room) [.ref h_this, .int x1, .int x2] (dC, dI) [(h_this, .inr (4, [.ref h_shares, .ref h_shown, .ref h_shownOfY, .ref h_triple, .ref h_view, .ref h_trial, .ref h_plain, .int v_views, .int v_viewAsNumber, .int v_hand, .int v_modulus, .int v_nextLot, .int v_nextInput])), (h_shares, .inl (k_shares, 48, .inl v_shares))] [(k_shares, .int)] sz [(h_this, .inr (4, [.ref h_shares, .ref h_shown, .ref h_shownOfY, .ref h_triple, .ref h_view, .ref h_trial, .ref h_plain, .int v_views, .int v_viewAsNumber, .int v_hand, .int v_modulus, .int v_nextLot, .int v_nextInput])), (h_shares, .inl (k_shares, 48, .inl out))] := by
  refine gEv (cc := cX4_fix) (maxL := 3) (by decide) rfl (Nat.le_of_ble_eq_true rfl) ?_
  intro p e s m args below meth c Q A ls CF hK hN hA hret hP hD hS hl
  have hx := CF.1
  have hb := CF.2.1
  have hml := CF.2.2.1
  have hown : s.vm.findClass RX4 = some m.cls := CF.2.2.2.1
  have hts := CF.2.2.2.2
  have hl : lv_has ls 3 [(0, .ref h_this), (1, .int x1), (2, .int x2)] := hl
  have cw129 : CallW ({ frames := 1, cells := 0, slots := 0, locals := 22 } : Room) s args RX4 RX4 129 yX4_isPlace cX4_isPlace 2 (some .boolean) wsX4_isPlace ({ frames := 0, cells := 0, slots := 0, locals := 0 } : Room) 0 0 1 := cwV 1 hts gX4_fix_X4_isPlace rfl rfl rfl (by decide +kernel) ⟨Nat.le_of_ble_eq_true rfl, Nat.le_of_ble_eq_true rfl⟩
  have in_X4 : ∀ w ∈ wsX40, w ∈ wsX4_fix := fun w h => List.mem_cons_of_mem _ (List.mem_append_right _ h)
  have hL9 : (Cond.fieldLink RX4 9 "DustSums$Run" "shares" "[I").before args s = true := hts (.fieldLink RX4 9 "DustSums$Run" "shares" "[I") (List.mem_of_getElem? (i := 1) rfl)
  have hL52 : (Cond.fieldLink RX4 52 "DustSums$Run" "modulus" "I").before args s = true := hts (.fieldLink RX4 52 "DustSums$Run" "modulus" "I") (List.mem_of_getElem? (i := 2) rfl)
  have nm118 : va_Nw (.methodLinkNest RX4 118 yX9_mod "DustSums") s := hN.2 (RX4, 118, yX9_mod, "DustSums") (by decide +kernel)
  have cw118 : va_CN ({ frames := 1, cells := 0, slots := 0, locals := 22 } : Room) s args RX4 118 yX9_mod "DustSums" cX9_mod 3 (some .int) wsX9_mod ({ frames := 0, cells := 0, slots := 0, locals := 0 } : Room) 0 0 2 ∧ (Cond.static yX9_mod).before args s = true ∧ True := ⟨va_cnB 2 hts gX4_fix_X9_mod_n118 rfl rfl rfl nm118 (hts (.initialized RX9) (List.mem_of_getElem? (i := 9) rfl)) (by decide +kernel) ⟨Nat.le_of_ble_eq_true rfl, Nat.le_of_ble_eq_true rfl⟩, hts (.static yX9_mod) (List.mem_of_getElem? (i := 8) rfl), trivial⟩
  unfold f_X4_fix at hF
  refine lv_aload_n hx hb dX4_fix_0 rfl (lv_at hl 0 rfl) ?_
  refine lv_iload_n hx hb dX4_fix_1 rfl (lv_at hl 1 rfl) ?_
  obtain ⟨z_2, hz_2, hF⟩ := gi_bind hF
  refine gRi (wc := [(h_this, .inr (4, [.ref h_shares, .ref h_shown, .ref h_shownOfY, .ref h_triple, .ref h_view, .ref h_trial, .ref h_plain, .int v_views, .int v_viewAsNumber, .int v_hand, .int v_modulus, .int v_nextLot, .int v_nextInput])), (h_shares, .inl (k_shares, 48, .inl v_shares))]) (wr := []) (w1 := [(h_this, .inr (4, [.ref h_shares, .ref h_shown, .ref h_shownOfY, .ref h_triple, .ref h_view, .ref h_trial, .ref h_plain, .int v_views, .int v_viewAsNumber, .int v_hand, .int v_modulus, .int v_nextLot, .int v_nextInput])), (h_shares, .inl (k_shares, 48, .inl v_shares))]) hP hD hS hA [0, 1] [] rfl rfl (by decide) (by decide) (va_runV (As := [.int x1]) (rest := []) CF (t_X4_isPlace l dC dI h_this h_shares h_shown h_shownOfY h_triple h_view h_trial h_plain v_views v_viewAsNumber v_hand v_modulus v_nextLot v_nextInput k_shares v_shares s.heap.size x1 N z_2 hz_2) cw129 (gPV (ci := 4) hP hD hK hN [0, 1] [0] (by decide) rfl rfl (q0 := 0) rfl rfl) rfl rfl hl.1 rfl (lv_room (Nat.le_of_ble_eq_true rfl)) dX4_fix_2 ⟨Nat.zero_le _, Nat.zero_le _⟩) (fun H locs hP hD hS => ?_)
  have hP : va_P (dC, dI) vwCl [(h_this, .inr (4, [.ref h_shares, .ref h_shown, .ref h_shownOfY, .ref h_triple, .ref h_view, .ref h_trial, .ref h_plain, .int v_views, .int v_viewAsNumber, .int v_hand, .int v_modulus, .int v_nextLot, .int v_nextInput])), (h_shares, .inl (k_shares, 48, .inl v_shares))] H := hP
  have hD : va_D A [(h_this, .inr (4, [.ref h_shares, .ref h_shown, .ref h_shownOfY, .ref h_triple, .ref h_view, .ref h_trial, .ref h_plain, .int v_views, .int v_viewAsNumber, .int v_hand, .int v_modulus, .int v_nextLot, .int v_nextInput])), (h_shares, .inl (k_shares, 48, .inl v_shares))] := hD
  refine lv_if_ne (tgt := 9) hx hb dX4_fix_5 (by decide) (fun c_5 => ?_) (fun c_5 => ?_)
  · have hF := gi_f c_5 hF
    refine lv_aload_n hx hb dX4_fix_9 rfl (lv_at hl 0 rfl) ?_
    refine va_get (D := (dC, dI)) (ci := 4) (v := .ref h_shares) (C := RX4) (T := TX4) (N := 13) hx hb hts in_X4 hown hK hP 0 rfl rfl 0 (by decide) hL9 (fun _ h9 => h9) rfl dX4_fix_10 ?_
    refine lv_iload_n hx hb dX4_fix_13 rfl (lv_at hl 1 rfl) ?_
    refine lv_iload_n hx hb dX4_fix_14 rfl (lv_at hl 2 rfl) ?_
    refine lv_aload_n hx hb dX4_fix_15 rfl (lv_at hl 0 rfl) ?_
    refine va_get (D := (dC, dI)) (ci := 4) (v := .int v_modulus) (C := RX4) (T := TX4) (N := 13) hx hb hts in_X4 hown hK hP 0 rfl rfl 10 (by decide) hL52 (fun _ h9 => h9) rfl dX4_fix_16 ?_
    obtain ⟨z_19, hz_19, hF⟩ := gi_bind hF
    refine gRi (wc := []) (wr := [(h_this, .inr (4, [.ref h_shares, .ref h_shown, .ref h_shownOfY, .ref h_triple, .ref h_view, .ref h_trial, .ref h_plain, .int v_views, .int v_viewAsNumber, .int v_hand, .int v_modulus, .int v_nextLot, .int v_nextInput])), (h_shares, .inl (k_shares, 48, .inl v_shares))]) (w1 := []) hP hD hS hA [] [0, 1] rfl rfl (by decide) (by decide) (va_runSN (As := [.int x2, .int v_modulus]) (rest := [.int x1, .ref h_shares]) CF (t_X9_mod l dC dI H.size x2 v_modulus N z_19 hz_19) cw118 (gPS hP hD hK hN [] [] (by decide) rfl rfl) rfl rfl hl.1 rfl (lv_room (Nat.le_of_ble_eq_true rfl)) dX4_fix_19 ⟨Nat.zero_le _, Nat.zero_le _⟩) (fun H locs hP hD hS => ?_)
    have hP : va_P (dC, dI) vwCl [(h_this, .inr (4, [.ref h_shares, .ref h_shown, .ref h_shownOfY, .ref h_triple, .ref h_view, .ref h_trial, .ref h_plain, .int v_views, .int v_viewAsNumber, .int v_hand, .int v_modulus, .int v_nextLot, .int v_nextInput])), (h_shares, .inl (k_shares, 48, .inl v_shares))] H := hP
    have hD : va_D A [(h_this, .inr (4, [.ref h_shares, .ref h_shown, .ref h_shownOfY, .ref h_triple, .ref h_view, .ref h_trial, .ref h_plain, .int v_views, .int v_viewAsNumber, .int v_hand, .int v_modulus, .int v_nextLot, .int v_nextInput])), (h_shares, .inl (k_shares, 48, .inl v_shares))] := hD
    obtain ⟨hi_22, hF⟩ := gi_in hF
    refine va_iast hx hb hK hP hD hS 1 0 rfl rfl hi_22 dX4_fix_22 (fun H locs hP hD hS => ?_)
    have hP : va_P (dC, dI) vwCl [(h_this, .inr (4, [.ref h_shares, .ref h_shown, .ref h_shownOfY, .ref h_triple, .ref h_view, .ref h_trial, .ref h_plain, .int v_views, .int v_viewAsNumber, .int v_hand, .int v_modulus, .int v_nextLot, .int v_nextInput])), (h_shares, .inl (k_shares, 48, .inl (upd v_shares x1.toNatClampNeg z_19)))] H := hP
    have hD : va_D A [(h_this, .inr (4, [.ref h_shares, .ref h_shown, .ref h_shownOfY, .ref h_triple, .ref h_view, .ref h_trial, .ref h_plain, .int v_views, .int v_viewAsNumber, .int v_hand, .int v_modulus, .int v_nextLot, .int v_nextInput])), (h_shares, .inl (k_shares, 48, .inl (upd v_shares x1.toNatClampNeg z_19)))] := hD
    refine lv_aload_n hx hb dX4_fix_23 rfl (lv_at hl 0 rfl) ?_
    refine va_get (D := (dC, dI)) (ci := 4) (v := .ref h_shares) (C := RX4) (T := TX4) (N := 13) hx hb hts in_X4 hown hK hP 0 rfl rfl 0 (by decide) hL9 (fun _ h9 => h9) rfl dX4_fix_24 ?_
    refine lv_iload_n hx hb dX4_fix_27 rfl (lv_at hl 1 rfl) ?_
    refine lv_iconst (v := (1 : Int32)) hx hb dX4_fix_28 (by decide) ?_
    refine lv_iadd hx hb dX4_fix_29 ?_
    refine lv_iconst (v := (0 : Int32)) hx hb dX4_fix_30 (by decide) ?_
    obtain ⟨hi_31, hF⟩ := gi_in hF
    refine va_iast hx hb hK hP hD hS 1 0 rfl rfl hi_31 dX4_fix_31 (fun H locs hP hD hS => ?_)
    have hP : va_P (dC, dI) vwCl [(h_this, .inr (4, [.ref h_shares, .ref h_shown, .ref h_shownOfY, .ref h_triple, .ref h_view, .ref h_trial, .ref h_plain, .int v_views, .int v_viewAsNumber, .int v_hand, .int v_modulus, .int v_nextLot, .int v_nextInput])), (h_shares, .inl (k_shares, 48, .inl (upd (upd v_shares x1.toNatClampNeg z_19) (x1 + (1 : Int32)).toNatClampNeg (0 : Int32))))] H := hP
    have hD : va_D A [(h_this, .inr (4, [.ref h_shares, .ref h_shown, .ref h_shownOfY, .ref h_triple, .ref h_view, .ref h_trial, .ref h_plain, .int v_views, .int v_viewAsNumber, .int v_hand, .int v_modulus, .int v_nextLot, .int v_nextInput])), (h_shares, .inl (k_shares, 48, .inl (upd (upd v_shares x1.toNatClampNeg z_19) (x1 + (1 : Int32)).toNatClampNeg (0 : Int32))))] := hD
    refine lv_aload_n hx hb dX4_fix_32 rfl (lv_at hl 0 rfl) ?_
    refine va_get (D := (dC, dI)) (ci := 4) (v := .ref h_shares) (C := RX4) (T := TX4) (N := 13) hx hb hts in_X4 hown hK hP 0 rfl rfl 0 (by decide) hL9 (fun _ h9 => h9) rfl dX4_fix_33 ?_
    refine lv_iload_n hx hb dX4_fix_36 rfl (lv_at hl 1 rfl) ?_
    refine lv_iconst (v := (2 : Int32)) hx hb dX4_fix_37 (by decide) ?_
    refine lv_iadd hx hb dX4_fix_38 ?_
    refine lv_iconst (v := (0 : Int32)) hx hb dX4_fix_39 (by decide) ?_
    obtain ⟨hi_40, hF⟩ := gi_in hF
    refine va_iast hx hb hK hP hD hS 1 0 rfl rfl hi_40 dX4_fix_40 (fun H locs hP hD hS => ?_)
    have hP : va_P (dC, dI) vwCl [(h_this, .inr (4, [.ref h_shares, .ref h_shown, .ref h_shownOfY, .ref h_triple, .ref h_view, .ref h_trial, .ref h_plain, .int v_views, .int v_viewAsNumber, .int v_hand, .int v_modulus, .int v_nextLot, .int v_nextInput])), (h_shares, .inl (k_shares, 48, .inl (upd (upd (upd v_shares x1.toNatClampNeg z_19) (x1 + (1 : Int32)).toNatClampNeg (0 : Int32)) (x1 + (2 : Int32)).toNatClampNeg (0 : Int32))))] H := hP
    have hD : va_D A [(h_this, .inr (4, [.ref h_shares, .ref h_shown, .ref h_shownOfY, .ref h_triple, .ref h_view, .ref h_trial, .ref h_plain, .int v_views, .int v_viewAsNumber, .int v_hand, .int v_modulus, .int v_nextLot, .int v_nextInput])), (h_shares, .inl (k_shares, 48, .inl (upd (upd (upd v_shares x1.toNatClampNeg z_19) (x1 + (1 : Int32)).toNatClampNeg (0 : Int32)) (x1 + (2 : Int32)).toNatClampNeg (0 : Int32))))] := hD
    have hF := Option.some.inj hF
    subst hF
    exact hret _ _ _ _ dX4_fix_41 hP hD hS
  · have hF := gi_t c_5 hF
    have hF := Option.some.inj hF
    subst hF
    exact hret _ _ _ _ dX4_fix_8 hP hD hS
abbrev O_X4_join : Type := (Nat → Int32)
def s_X4_join_28 (N : Nat) (v_modulus : Int32) (x1 : Int32) (x2 : Int32) (x3 : Int32) (x4 : Int32) (r_28 : (Nat → Int32) → Int32 → Option O_X4_join) (v_shares : Nat → Int32) (y5 : Int32) : Option O_X4_join :=
  if (3 : Int32) ≤ y5 then (some (v_shares)) else (if gin (x2 + y5) 48 = true then if gin (x3 + y5) 48 = true then (f_X9_mod N ((v_shares (x2 + y5).toNatClampNeg) + (x4 * (v_shares (x3 + y5).toNatClampNeg))) v_modulus).bind (fun z_68 => if gin (x1 + y5) 48 = true then r_28 (upd v_shares (x1 + y5).toNatClampNeg z_68) (y5 + 1) else none) else none else none)
def f_X4_join_28 (N : Nat) (v_modulus : Int32) (x1 : Int32) (x2 : Int32) (x3 : Int32) (x4 : Int32) (n : Nat) : (Nat → Int32) → Int32 → Option O_X4_join := lpg (fun _ _ => none) (s_X4_join_28 N v_modulus x1 x2 x3 x4) n
def f_X4_join (N : Nat) (v_modulus : Int32) (x1 : Int32) (x2 : Int32) (x3 : Int32) (x4 : Int32) (v_shares : Nat → Int32) : Option O_X4_join :=
  (f_X4_isPlace N x1).bind (fun z_2 => if z_2 = 0 then (some (v_shares)) else ((f_X4_isPlace N x2).bind (fun z_10 => if z_10 = 0 then (some (v_shares)) else ((f_X4_isPlace N x3).bind (fun z_18 => if z_18 = 0 then (some (v_shares)) else (f_X4_join_28 N v_modulus x1 x2 x3 x4 N v_shares (0 : Int32)))))))
set_option maxHeartbeats 4000000 in
set_option maxRecDepth 100000 in
theorem t_X4_join (l : Launch) (dC : Nat → ClassId) (dI : Nat → Nat → Nat) (h_this : Nat) (h_shares : Nat) (h_shown : Nat) (h_shownOfY : Nat) (h_triple : Nat) (h_view : Nat) (h_trial : Nat) (h_plain : Nat) (v_views : Int32) (v_viewAsNumber : Int32) (v_hand : Int32) (v_modulus : Int32) (v_nextLot : Int32) (v_nextInput : Int32) (k_shares : ClassId) (v_shares : Nat → Int32) (sz : Nat) (x1 : Int32) (x2 : Int32) (x3 : Int32) (x4 : Int32) (N : Nat) (out : O_X4_join) (hF : f_X4_join N v_modulus x1 x2 x3 x4 v_shares = some out) : gMv l yX4_join wsX4_join ({ frames := 1, cells := 0, slots := 0, locals := 22 } : Room) [.ref h_this, .int x1, .int x2, .int x3, .int x4] (dC, dI) [(h_this, .inr (4, [.ref h_shares, .ref h_shown, .ref h_shownOfY, .ref h_triple, .ref h_view, .ref h_trial, .ref h_plain, .int v_views, .int v_viewAsNumber, .int v_hand, .int v_modulus, .int v_nextLot, .int v_nextInput])), (h_shares, .inl (k_shares, 48, .inl v_shares))] [(k_shares, .int)] sz [(h_this, .inr (4, [.ref h_shares, .ref h_shown, .ref h_shownOfY, .ref h_triple, .ref h_view, .ref h_trial, .ref h_plain, .int v_views, .int v_viewAsNumber, .int v_hand, .int v_modulus, .int v_nextLot, .int v_nextInput])), (h_shares, .inl (k_shares, 48, .inl out))] := by
  refine gEv (cc := cX4_join) (maxL := 6) (by decide) rfl (Nat.le_of_ble_eq_true rfl) ?_
  intro p e s m args below meth c Q A ls CF hK hN hA hret hP hD hS hl
  have hx := CF.1
  have hb := CF.2.1
  have hml := CF.2.2.1
  have hown : s.vm.findClass RX4 = some m.cls := CF.2.2.2.1
  have hts := CF.2.2.2.2
  have hl : lv_has ls 6 [(0, .ref h_this), (1, .int x1), (2, .int x2), (3, .int x3), (4, .int x4)] := hl
  have cw129 : CallW ({ frames := 1, cells := 0, slots := 0, locals := 22 } : Room) s args RX4 RX4 129 yX4_isPlace cX4_isPlace 2 (some .boolean) wsX4_isPlace ({ frames := 0, cells := 0, slots := 0, locals := 0 } : Room) 0 0 1 := cwV 1 hts gX4_join_X4_isPlace rfl rfl rfl (by decide +kernel) ⟨Nat.le_of_ble_eq_true rfl, Nat.le_of_ble_eq_true rfl⟩
  have in_X4 : ∀ w ∈ wsX40, w ∈ wsX4_join := fun w h => List.mem_cons_of_mem _ (List.mem_append_right _ h)
  have hL9 : (Cond.fieldLink RX4 9 "DustSums$Run" "shares" "[I").before args s = true := hts (.fieldLink RX4 9 "DustSums$Run" "shares" "[I") (List.mem_of_getElem? (i := 1) rfl)
  have hL52 : (Cond.fieldLink RX4 52 "DustSums$Run" "modulus" "I").before args s = true := hts (.fieldLink RX4 52 "DustSums$Run" "modulus" "I") (List.mem_of_getElem? (i := 2) rfl)
  have nm118 : va_Nw (.methodLinkNest RX4 118 yX9_mod "DustSums") s := hN.2 (RX4, 118, yX9_mod, "DustSums") (by decide +kernel)
  have cw118 : va_CN ({ frames := 1, cells := 0, slots := 0, locals := 22 } : Room) s args RX4 118 yX9_mod "DustSums" cX9_mod 3 (some .int) wsX9_mod ({ frames := 0, cells := 0, slots := 0, locals := 0 } : Room) 0 0 2 ∧ (Cond.static yX9_mod).before args s = true ∧ True := ⟨va_cnB 2 hts gX4_join_X9_mod_n118 rfl rfl rfl nm118 (hts (.initialized RX9) (List.mem_of_getElem? (i := 9) rfl)) (by decide +kernel) ⟨Nat.le_of_ble_eq_true rfl, Nat.le_of_ble_eq_true rfl⟩, hts (.static yX9_mod) (List.mem_of_getElem? (i := 8) rfl), trivial⟩
  have k_28 : ∀ (n : Nat) (v_shares : Nat → Int32) (y5 : Int32) (H : Heap) (locs : List Loc) (ls : Array Slot), f_X4_join_28 N v_modulus x1 x2 x3 x4 n v_shares y5 = some out → va_P (dC, dI) vwCl [(h_this, .inr (4, [.ref h_shares, .ref h_shown, .ref h_shownOfY, .ref h_triple, .ref h_view, .ref h_trial, .ref h_plain, .int v_views, .int v_viewAsNumber, .int v_hand, .int v_modulus, .int v_nextLot, .int v_nextInput])), (h_shares, .inl (k_shares, 48, .inl v_shares))] H → va_D A [(h_this, .inr (4, [.ref h_shares, .ref h_shown, .ref h_shownOfY, .ref h_triple, .ref h_view, .ref h_trial, .ref h_plain, .int v_views, .int v_viewAsNumber, .int v_hand, .int v_modulus, .int v_nextLot, .int v_nextInput])), (h_shares, .inl (k_shares, 48, .inl v_shares))] → va_S A s.heap H locs → lv_has ls 6 [(0, .ref h_this), (1, .int x1), (2, .int x2), (3, .int x3), (4, .int x4), (5, .int y5)] → W p l e ({ frames := 1, cells := 0, slots := 0, locals := 22 } : Room) s m args below meth c H locs 0 0 Q (F0 m 28 ls []) := by
    intro n
    induction n with
    | zero =>
      intro v_shares y5 H locs ls hF
      have hF : (none : Option O_X4_join) = some out := hF
      cases hF
    | succ n ih =>
      intro v_shares y5 H locs ls hF hP hD hS hl
      have hF : s_X4_join_28 N v_modulus x1 x2 x3 x4 (f_X4_join_28 N v_modulus x1 x2 x3 x4 n) v_shares y5 = some out := hF
      generalize f_X4_join_28 N v_modulus x1 x2 x3 x4 n = r_28 at hF ih
      have g_28 : ∀ (v_shares : Nat → Int32) (y5 : Int32) (H : Heap) (locs : List Loc) (ls : Array Slot), r_28 v_shares y5 = some out → va_P (dC, dI) vwCl [(h_this, .inr (4, [.ref h_shares, .ref h_shown, .ref h_shownOfY, .ref h_triple, .ref h_view, .ref h_trial, .ref h_plain, .int v_views, .int v_viewAsNumber, .int v_hand, .int v_modulus, .int v_nextLot, .int v_nextInput])), (h_shares, .inl (k_shares, 48, .inl v_shares))] H → va_D A [(h_this, .inr (4, [.ref h_shares, .ref h_shown, .ref h_shownOfY, .ref h_triple, .ref h_view, .ref h_trial, .ref h_plain, .int v_views, .int v_viewAsNumber, .int v_hand, .int v_modulus, .int v_nextLot, .int v_nextInput])), (h_shares, .inl (k_shares, 48, .inl v_shares))] → va_S A s.heap H locs → lv_has ls 6 [(0, .ref h_this), (1, .int x1), (2, .int x2), (3, .int x3), (4, .int x4), (5, .int y5)] → W p l e ({ frames := 1, cells := 0, slots := 0, locals := 22 } : Room) s m args below meth c H locs 0 0 Q (F0 m 28 ls []) := ih
      clear ih
      unfold s_X4_join_28 at hF
      refine lv_iload hx hb dX4_join_28 (lv_at hl 5 rfl) ?_
      refine lv_iconst (v := (3 : Int32)) hx hb dX4_join_30 (by decide) ?_
      refine lv_icmp_ge (tgt := 78) hx hb dX4_join_31 (by decide) (fun c_31 => ?_) (fun c_31 => ?_)
      · have hF := gi_t c_31 hF
        have hF := Option.some.inj hF
        subst hF
        exact hret _ _ _ _ dX4_join_78 hP hD hS
      · have hF := gi_f c_31 hF
        refine lv_aload_n hx hb dX4_join_34 rfl (lv_at hl 0 rfl) ?_
        refine va_get (D := (dC, dI)) (ci := 4) (v := .ref h_shares) (C := RX4) (T := TX4) (N := 13) hx hb hts in_X4 hown hK hP 0 rfl rfl 0 (by decide) hL9 (fun _ h9 => h9) rfl dX4_join_35 ?_
        refine lv_iload_n hx hb dX4_join_38 rfl (lv_at hl 1 rfl) ?_
        refine lv_iload hx hb dX4_join_39 (lv_at hl 5 rfl) ?_
        refine lv_iadd hx hb dX4_join_41 ?_
        refine lv_aload_n hx hb dX4_join_42 rfl (lv_at hl 0 rfl) ?_
        refine va_get (D := (dC, dI)) (ci := 4) (v := .ref h_shares) (C := RX4) (T := TX4) (N := 13) hx hb hts in_X4 hown hK hP 0 rfl rfl 0 (by decide) hL9 (fun _ h9 => h9) rfl dX4_join_43 ?_
        refine lv_iload_n hx hb dX4_join_46 rfl (lv_at hl 2 rfl) ?_
        refine lv_iload hx hb dX4_join_47 (lv_at hl 5 rfl) ?_
        refine lv_iadd hx hb dX4_join_49 ?_
        obtain ⟨hi_50, hF⟩ := gi_in hF
        refine va_iald hx hb hK hP 1 0 rfl rfl hi_50 dX4_join_50 ?_
        refine lv_iload hx hb dX4_join_51 (lv_at hl 4 rfl) ?_
        refine lv_aload_n hx hb dX4_join_53 rfl (lv_at hl 0 rfl) ?_
        refine va_get (D := (dC, dI)) (ci := 4) (v := .ref h_shares) (C := RX4) (T := TX4) (N := 13) hx hb hts in_X4 hown hK hP 0 rfl rfl 0 (by decide) hL9 (fun _ h9 => h9) rfl dX4_join_54 ?_
        refine lv_iload_n hx hb dX4_join_57 rfl (lv_at hl 3 rfl) ?_
        refine lv_iload hx hb dX4_join_58 (lv_at hl 5 rfl) ?_
        refine lv_iadd hx hb dX4_join_60 ?_
        obtain ⟨hi_61, hF⟩ := gi_in hF
        refine va_iald hx hb hK hP 1 0 rfl rfl hi_61 dX4_join_61 ?_
        refine lv_imul hx hb dX4_join_62 ?_
        refine lv_iadd hx hb dX4_join_63 ?_
        refine lv_aload_n hx hb dX4_join_64 rfl (lv_at hl 0 rfl) ?_
        refine va_get (D := (dC, dI)) (ci := 4) (v := .int v_modulus) (C := RX4) (T := TX4) (N := 13) hx hb hts in_X4 hown hK hP 0 rfl rfl 10 (by decide) hL52 (fun _ h9 => h9) rfl dX4_join_65 ?_
        obtain ⟨z_68, hz_68, hF⟩ := gi_bind hF
        refine gRi (wc := []) (wr := [(h_this, .inr (4, [.ref h_shares, .ref h_shown, .ref h_shownOfY, .ref h_triple, .ref h_view, .ref h_trial, .ref h_plain, .int v_views, .int v_viewAsNumber, .int v_hand, .int v_modulus, .int v_nextLot, .int v_nextInput])), (h_shares, .inl (k_shares, 48, .inl v_shares))]) (w1 := []) hP hD hS hA [] [0, 1] rfl rfl (by decide) (by decide) (va_runSN (As := [.int ((v_shares (x2 + y5).toNatClampNeg) + (x4 * (v_shares (x3 + y5).toNatClampNeg))), .int v_modulus]) (rest := [.int (x1 + y5), .ref h_shares]) CF (t_X9_mod l dC dI H.size ((v_shares (x2 + y5).toNatClampNeg) + (x4 * (v_shares (x3 + y5).toNatClampNeg))) v_modulus N z_68 hz_68) cw118 (gPS hP hD hK hN [] [] (by decide) rfl rfl) rfl rfl hl.1 rfl (lv_room (Nat.le_of_ble_eq_true rfl)) dX4_join_68 ⟨Nat.zero_le _, Nat.zero_le _⟩) (fun H locs hP hD hS => ?_)
        have hP : va_P (dC, dI) vwCl [(h_this, .inr (4, [.ref h_shares, .ref h_shown, .ref h_shownOfY, .ref h_triple, .ref h_view, .ref h_trial, .ref h_plain, .int v_views, .int v_viewAsNumber, .int v_hand, .int v_modulus, .int v_nextLot, .int v_nextInput])), (h_shares, .inl (k_shares, 48, .inl v_shares))] H := hP
        have hD : va_D A [(h_this, .inr (4, [.ref h_shares, .ref h_shown, .ref h_shownOfY, .ref h_triple, .ref h_view, .ref h_trial, .ref h_plain, .int v_views, .int v_viewAsNumber, .int v_hand, .int v_modulus, .int v_nextLot, .int v_nextInput])), (h_shares, .inl (k_shares, 48, .inl v_shares))] := hD
        obtain ⟨hi_71, hF⟩ := gi_in hF
        refine va_iast hx hb hK hP hD hS 1 0 rfl rfl hi_71 dX4_join_71 (fun H locs hP hD hS => ?_)
        have hP : va_P (dC, dI) vwCl [(h_this, .inr (4, [.ref h_shares, .ref h_shown, .ref h_shownOfY, .ref h_triple, .ref h_view, .ref h_trial, .ref h_plain, .int v_views, .int v_viewAsNumber, .int v_hand, .int v_modulus, .int v_nextLot, .int v_nextInput])), (h_shares, .inl (k_shares, 48, .inl (upd v_shares (x1 + y5).toNatClampNeg z_68)))] H := hP
        have hD : va_D A [(h_this, .inr (4, [.ref h_shares, .ref h_shown, .ref h_shownOfY, .ref h_triple, .ref h_view, .ref h_trial, .ref h_plain, .int v_views, .int v_viewAsNumber, .int v_hand, .int v_modulus, .int v_nextLot, .int v_nextInput])), (h_shares, .inl (k_shares, 48, .inl (upd v_shares (x1 + y5).toNatClampNeg z_68)))] := hD
        refine lv_iinc (v := (y5 + 1)) (lv' := [(5, .int (y5 + 1)), (0, .ref h_this), (1, .int x1), (2, .int x2), (3, .int x3), (4, .int x4)]) hx hb dX4_join_72 hl (k := 5) rfl rfl (by decide) rfl (fun ls hl => ?_)
        refine lv_goto (tgt := 28) hx hb dX4_join_75 (by decide) ?_
        exact g_28 (upd v_shares (x1 + y5).toNatClampNeg z_68) (y5 + 1) _ _ _ hF hP hD hS (lv_sub hl [1, 2, 3, 4, 5, 0] rfl)
  unfold f_X4_join at hF
  refine lv_aload_n hx hb dX4_join_0 rfl (lv_at hl 0 rfl) ?_
  refine lv_iload_n hx hb dX4_join_1 rfl (lv_at hl 1 rfl) ?_
  obtain ⟨z_2, hz_2, hF⟩ := gi_bind hF
  refine gRi (wc := [(h_this, .inr (4, [.ref h_shares, .ref h_shown, .ref h_shownOfY, .ref h_triple, .ref h_view, .ref h_trial, .ref h_plain, .int v_views, .int v_viewAsNumber, .int v_hand, .int v_modulus, .int v_nextLot, .int v_nextInput])), (h_shares, .inl (k_shares, 48, .inl v_shares))]) (wr := []) (w1 := [(h_this, .inr (4, [.ref h_shares, .ref h_shown, .ref h_shownOfY, .ref h_triple, .ref h_view, .ref h_trial, .ref h_plain, .int v_views, .int v_viewAsNumber, .int v_hand, .int v_modulus, .int v_nextLot, .int v_nextInput])), (h_shares, .inl (k_shares, 48, .inl v_shares))]) hP hD hS hA [0, 1] [] rfl rfl (by decide) (by decide) (va_runV (As := [.int x1]) (rest := []) CF (t_X4_isPlace l dC dI h_this h_shares h_shown h_shownOfY h_triple h_view h_trial h_plain v_views v_viewAsNumber v_hand v_modulus v_nextLot v_nextInput k_shares v_shares s.heap.size x1 N z_2 hz_2) cw129 (gPV (ci := 4) hP hD hK hN [0, 1] [0] (by decide) rfl rfl (q0 := 0) rfl rfl) rfl rfl hl.1 rfl (lv_room (Nat.le_of_ble_eq_true rfl)) dX4_join_2 ⟨Nat.zero_le _, Nat.zero_le _⟩) (fun H locs hP hD hS => ?_)
  have hP : va_P (dC, dI) vwCl [(h_this, .inr (4, [.ref h_shares, .ref h_shown, .ref h_shownOfY, .ref h_triple, .ref h_view, .ref h_trial, .ref h_plain, .int v_views, .int v_viewAsNumber, .int v_hand, .int v_modulus, .int v_nextLot, .int v_nextInput])), (h_shares, .inl (k_shares, 48, .inl v_shares))] H := hP
  have hD : va_D A [(h_this, .inr (4, [.ref h_shares, .ref h_shown, .ref h_shownOfY, .ref h_triple, .ref h_view, .ref h_trial, .ref h_plain, .int v_views, .int v_viewAsNumber, .int v_hand, .int v_modulus, .int v_nextLot, .int v_nextInput])), (h_shares, .inl (k_shares, 48, .inl v_shares))] := hD
  refine lv_if_eq (tgt := 24) hx hb dX4_join_5 (by decide) (fun c_5 => ?_) (fun c_5 => ?_)
  · have hF := gi_t c_5 hF
    have hF := Option.some.inj hF
    subst hF
    exact hret _ _ _ _ dX4_join_24 hP hD hS
  · have hF := gi_f c_5 hF
    refine lv_aload_n hx hb dX4_join_8 rfl (lv_at hl 0 rfl) ?_
    refine lv_iload_n hx hb dX4_join_9 rfl (lv_at hl 2 rfl) ?_
    obtain ⟨z_10, hz_10, hF⟩ := gi_bind hF
    refine gRi (wc := [(h_this, .inr (4, [.ref h_shares, .ref h_shown, .ref h_shownOfY, .ref h_triple, .ref h_view, .ref h_trial, .ref h_plain, .int v_views, .int v_viewAsNumber, .int v_hand, .int v_modulus, .int v_nextLot, .int v_nextInput])), (h_shares, .inl (k_shares, 48, .inl v_shares))]) (wr := []) (w1 := [(h_this, .inr (4, [.ref h_shares, .ref h_shown, .ref h_shownOfY, .ref h_triple, .ref h_view, .ref h_trial, .ref h_plain, .int v_views, .int v_viewAsNumber, .int v_hand, .int v_modulus, .int v_nextLot, .int v_nextInput])), (h_shares, .inl (k_shares, 48, .inl v_shares))]) hP hD hS hA [0, 1] [] rfl rfl (by decide) (by decide) (va_runV (As := [.int x2]) (rest := []) CF (t_X4_isPlace l dC dI h_this h_shares h_shown h_shownOfY h_triple h_view h_trial h_plain v_views v_viewAsNumber v_hand v_modulus v_nextLot v_nextInput k_shares v_shares H.size x2 N z_10 hz_10) cw129 (gPV (ci := 4) hP hD hK hN [0, 1] [0] (by decide) rfl rfl (q0 := 0) rfl rfl) rfl rfl hl.1 rfl (lv_room (Nat.le_of_ble_eq_true rfl)) dX4_join_10 ⟨Nat.zero_le _, Nat.zero_le _⟩) (fun H locs hP hD hS => ?_)
    have hP : va_P (dC, dI) vwCl [(h_this, .inr (4, [.ref h_shares, .ref h_shown, .ref h_shownOfY, .ref h_triple, .ref h_view, .ref h_trial, .ref h_plain, .int v_views, .int v_viewAsNumber, .int v_hand, .int v_modulus, .int v_nextLot, .int v_nextInput])), (h_shares, .inl (k_shares, 48, .inl v_shares))] H := hP
    have hD : va_D A [(h_this, .inr (4, [.ref h_shares, .ref h_shown, .ref h_shownOfY, .ref h_triple, .ref h_view, .ref h_trial, .ref h_plain, .int v_views, .int v_viewAsNumber, .int v_hand, .int v_modulus, .int v_nextLot, .int v_nextInput])), (h_shares, .inl (k_shares, 48, .inl v_shares))] := hD
    refine lv_if_eq (tgt := 24) hx hb dX4_join_13 (by decide) (fun c_13 => ?_) (fun c_13 => ?_)
    · have hF := gi_t c_13 hF
      have hF := Option.some.inj hF
      subst hF
      exact hret _ _ _ _ dX4_join_24 hP hD hS
    · have hF := gi_f c_13 hF
      refine lv_aload_n hx hb dX4_join_16 rfl (lv_at hl 0 rfl) ?_
      refine lv_iload_n hx hb dX4_join_17 rfl (lv_at hl 3 rfl) ?_
      obtain ⟨z_18, hz_18, hF⟩ := gi_bind hF
      refine gRi (wc := [(h_this, .inr (4, [.ref h_shares, .ref h_shown, .ref h_shownOfY, .ref h_triple, .ref h_view, .ref h_trial, .ref h_plain, .int v_views, .int v_viewAsNumber, .int v_hand, .int v_modulus, .int v_nextLot, .int v_nextInput])), (h_shares, .inl (k_shares, 48, .inl v_shares))]) (wr := []) (w1 := [(h_this, .inr (4, [.ref h_shares, .ref h_shown, .ref h_shownOfY, .ref h_triple, .ref h_view, .ref h_trial, .ref h_plain, .int v_views, .int v_viewAsNumber, .int v_hand, .int v_modulus, .int v_nextLot, .int v_nextInput])), (h_shares, .inl (k_shares, 48, .inl v_shares))]) hP hD hS hA [0, 1] [] rfl rfl (by decide) (by decide) (va_runV (As := [.int x3]) (rest := []) CF (t_X4_isPlace l dC dI h_this h_shares h_shown h_shownOfY h_triple h_view h_trial h_plain v_views v_viewAsNumber v_hand v_modulus v_nextLot v_nextInput k_shares v_shares H.size x3 N z_18 hz_18) cw129 (gPV (ci := 4) hP hD hK hN [0, 1] [0] (by decide) rfl rfl (q0 := 0) rfl rfl) rfl rfl hl.1 rfl (lv_room (Nat.le_of_ble_eq_true rfl)) dX4_join_18 ⟨Nat.zero_le _, Nat.zero_le _⟩) (fun H locs hP hD hS => ?_)
      have hP : va_P (dC, dI) vwCl [(h_this, .inr (4, [.ref h_shares, .ref h_shown, .ref h_shownOfY, .ref h_triple, .ref h_view, .ref h_trial, .ref h_plain, .int v_views, .int v_viewAsNumber, .int v_hand, .int v_modulus, .int v_nextLot, .int v_nextInput])), (h_shares, .inl (k_shares, 48, .inl v_shares))] H := hP
      have hD : va_D A [(h_this, .inr (4, [.ref h_shares, .ref h_shown, .ref h_shownOfY, .ref h_triple, .ref h_view, .ref h_trial, .ref h_plain, .int v_views, .int v_viewAsNumber, .int v_hand, .int v_modulus, .int v_nextLot, .int v_nextInput])), (h_shares, .inl (k_shares, 48, .inl v_shares))] := hD
      refine lv_if_ne (tgt := 25) hx hb dX4_join_21 (by decide) (fun c_21 => ?_) (fun c_21 => ?_)
      · have hF := gi_f c_21 hF
        refine lv_iconst (v := (0 : Int32)) hx hb dX4_join_25 (by decide) ?_
        refine lv_istore (lv' := [(5, .int (0 : Int32)), (0, .ref h_this), (1, .int x1), (2, .int x2), (3, .int x3), (4, .int x4)]) hx hb dX4_join_26 hl (by decide) rfl (fun ls hl => ?_)
        exact k_28 N v_shares (0 : Int32) _ _ _ hF hP hD hS (lv_sub hl [1, 2, 3, 4, 5, 0] rfl)
      · have hF := gi_t c_21 hF
        have hF := Option.some.inj hF
        subst hF
        exact hret _ _ _ _ dX4_join_24 hP hD hS
abbrev O_X4_drawTriple : Type := Int32 × (Nat → Int32)
def f_X4_drawTriple_69 (N : Nat) (v_modulus : Int32) (v_a1 : Nat → Int32) (n_a1 : Nat) (v_nextLot : Int32) (v_triple : Nat → Int32) (y2 : Int32) (y3 : Int32) : Option O_X4_drawTriple :=
  if gin (6 : Int32) 9 = true then if gin (7 : Int32) 9 = true then (f_X9_mod N (((y2 * y3) - (v_triple (6 : Int32).toNatClampNeg)) - (v_triple (7 : Int32).toNatClampNeg)) v_modulus).bind (fun z_98 => if gin (8 : Int32) 9 = true then some (v_nextLot, (upd v_triple (8 : Int32).toNatClampNeg z_98)) else none) else none else none
def f_X4_drawTriple_48 (N : Nat) (v_modulus : Int32) (v_a1 : Nat → Int32) (n_a1 : Nat) (v_nextLot : Int32) (v_triple : Nat → Int32) (y2 : Int32) : Option O_X4_drawTriple :=
  if gin (3 : Int32) 9 = true then if gin (4 : Int32) 9 = true then if gin (5 : Int32) 9 = true then f_X4_drawTriple_69 N v_modulus v_a1 n_a1 v_nextLot v_triple y2 (((v_triple (3 : Int32).toNatClampNeg) + (v_triple (4 : Int32).toNatClampNeg)) + (v_triple (5 : Int32).toNatClampNeg)) else none else none else none
def f_X4_drawTriple_27 (N : Nat) (v_modulus : Int32) (v_a1 : Nat → Int32) (n_a1 : Nat) (v_nextLot : Int32) (v_triple : Nat → Int32) : Option O_X4_drawTriple :=
  if gin (0 : Int32) 9 = true then if gin (1 : Int32) 9 = true then if gin (2 : Int32) 9 = true then f_X4_drawTriple_48 N v_modulus v_a1 n_a1 v_nextLot v_triple (((v_triple (0 : Int32).toNatClampNeg) + (v_triple (1 : Int32).toNatClampNeg)) + (v_triple (2 : Int32).toNatClampNeg)) else none else none else none
def s_X4_drawTriple_2 (N : Nat) (v_modulus : Int32) (v_a1 : Nat → Int32) (n_a1 : Nat) (r_2 : Int32 → (Nat → Int32) → Int32 → Option O_X4_drawTriple) (v_nextLot : Int32) (v_triple : Nat → Int32) (y2 : Int32) : Option O_X4_drawTriple :=
  if (8 : Int32) ≤ y2 then (f_X4_drawTriple_27 N v_modulus v_a1 n_a1 v_nextLot v_triple) else ((f_X4_drawLot N v_modulus v_a1 n_a1 v_nextLot).bind (fun z_15 => (f_X9_put N 9 y2 z_15.1 v_triple).bind (fun z_18 => r_2 z_15.2 z_18 (y2 + 1))))
def f_X4_drawTriple_2 (N : Nat) (v_modulus : Int32) (v_a1 : Nat → Int32) (n_a1 : Nat) (n : Nat) : Int32 → (Nat → Int32) → Int32 → Option O_X4_drawTriple := lpg (fun _ _ _ => none) (s_X4_drawTriple_2 N v_modulus v_a1 n_a1) n
def f_X4_drawTriple (N : Nat) (v_modulus : Int32) (v_a1 : Nat → Int32) (n_a1 : Nat) (v_nextLot : Int32) (v_triple : Nat → Int32) : Option O_X4_drawTriple :=
  f_X4_drawTriple_2 N v_modulus v_a1 n_a1 N v_nextLot v_triple (0 : Int32)
set_option maxHeartbeats 4000000 in
set_option maxRecDepth 100000 in
theorem t_X4_drawTriple (l : Launch) (dC : Nat → ClassId) (dI : Nat → Nat → Nat) (h_this : Nat) (h_shares : Nat) (h_shown : Nat) (h_shownOfY : Nat) (h_triple : Nat) (h_view : Nat) (h_trial : Nat) (h_plain : Nat) (v_views : Int32) (v_viewAsNumber : Int32) (v_hand : Int32) (v_modulus : Int32) (v_nextLot : Int32) (v_nextInput : Int32) (k_triple : ClassId) (v_triple : Nat → Int32) (h_a1 : Nat) (k_a1 : ClassId) (n_a1 : Nat) (v_a1 : Nat → Int32) (sz : Nat) (N : Nat) (out : O_X4_drawTriple) (hF : f_X4_drawTriple N v_modulus v_a1 n_a1 v_nextLot v_triple = some out) : gMv l yX4_drawTriple wsX4_drawTriple ({ frames := 2, cells := 0, slots := 0, locals := 44 } : Room) [.ref h_this, .ref h_a1] (dC, dI) [(h_this, .inr (4, [.ref h_shares, .ref h_shown, .ref h_shownOfY, .ref h_triple, .ref h_view, .ref h_trial, .ref h_plain, .int v_views, .int v_viewAsNumber, .int v_hand, .int v_modulus, .int v_nextLot, .int v_nextInput])), (h_triple, .inl (k_triple, 9, .inl v_triple)), (h_a1, .inl (k_a1, n_a1, .inl v_a1))] [(k_triple, .int), (k_a1, .int)] sz [(h_this, .inr (4, [.ref h_shares, .ref h_shown, .ref h_shownOfY, .ref h_triple, .ref h_view, .ref h_trial, .ref h_plain, .int v_views, .int v_viewAsNumber, .int v_hand, .int v_modulus, .int out.1, .int v_nextInput])), (h_triple, .inl (k_triple, 9, .inl out.2)), (h_a1, .inl (k_a1, n_a1, .inl v_a1))] := by
  refine gEv (cc := cX4_drawTriple) (maxL := 4) (by decide) rfl (Nat.le_of_ble_eq_true rfl) ?_
  intro p e s m args below meth c Q A ls CF hK hN hA hret hP hD hS hl
  have hx := CF.1
  have hb := CF.2.1
  have hml := CF.2.2.1
  have hown : s.vm.findClass RX4 = some m.cls := CF.2.2.2.1
  have hts := CF.2.2.2.2
  have hl : lv_has ls 4 [(0, .ref h_this), (1, .ref h_a1)] := hl
  have in_X4 : ∀ w ∈ wsX40, w ∈ wsX4_drawTriple := fun w h => List.mem_cons_of_mem _ (List.mem_append_right _ h)
  have hL21 : (Cond.fieldLink RX4 21 "DustSums$Run" "triple" "[I").before args s = true := hts (.fieldLink RX4 21 "DustSums$Run" "triple" "[I") (List.mem_of_getElem? (i := 1) rfl)
  have hL52 : (Cond.fieldLink RX4 52 "DustSums$Run" "modulus" "I").before args s = true := hts (.fieldLink RX4 52 "DustSums$Run" "modulus" "I") (List.mem_of_getElem? (i := 2) rfl)
  have nm118 : va_Nw (.methodLinkNest RX4 118 yX9_mod "DustSums") s := hN.2 (RX4, 118, yX9_mod, "DustSums") (by decide +kernel)
  have cw118 : va_CN ({ frames := 2, cells := 0, slots := 0, locals := 44 } : Room) s args RX4 118 yX9_mod "DustSums" cX9_mod 3 (some .int) wsX9_mod ({ frames := 0, cells := 0, slots := 0, locals := 0 } : Room) 0 0 2 ∧ (Cond.static yX9_mod).before args s = true ∧ True := ⟨va_cnB 2 hts gX4_drawTriple_X9_mod_n118 rfl rfl rfl nm118 (hts (.initialized RX9) (List.mem_of_getElem? (i := 10) rfl)) (by decide +kernel) ⟨Nat.le_of_ble_eq_true rfl, Nat.le_of_ble_eq_true rfl⟩, hts (.static yX9_mod) (List.mem_of_getElem? (i := 12) rfl), trivial⟩
  have cw125 : CallW ({ frames := 2, cells := 0, slots := 0, locals := 44 } : Room) s args RX4 RX4 125 yX4_drawLot cX4_drawLot 3 (some .int) wsX4_drawLot ({ frames := 1, cells := 0, slots := 0, locals := 22 } : Room) 0 0 1 := cwV 1 hts gX4_drawTriple_X4_drawLot rfl rfl rfl (by decide +kernel) ⟨Nat.le_of_ble_eq_true rfl, Nat.le_of_ble_eq_true rfl⟩
  have nm121 : va_Nw (.methodLinkNest RX4 121 yX9_put "DustSums") s := hN.2 (RX4, 121, yX9_put, "DustSums") (by decide +kernel)
  have cw121 : va_CN ({ frames := 2, cells := 0, slots := 0, locals := 44 } : Room) s args RX4 121 yX9_put "DustSums" cX9_put 3 none wsX9_put ({ frames := 0, cells := 0, slots := 0, locals := 0 } : Room) 0 0 3 ∧ (Cond.static yX9_put).before args s = true ∧ True := ⟨va_cnB 3 hts gX4_drawTriple_X9_put_n121 rfl rfl rfl nm121 (hts (.initialized RX9) (List.mem_of_getElem? (i := 10) rfl)) (by decide +kernel) ⟨Nat.le_of_ble_eq_true rfl, Nat.le_of_ble_eq_true rfl⟩, hts (.static yX9_put) (List.mem_of_getElem? (i := 14) rfl), trivial⟩
  have k_69 : ∀ (v_nextLot : Int32) (v_triple : Nat → Int32) (y2 : Int32) (y3 : Int32) (H : Heap) (locs : List Loc) (ls : Array Slot), f_X4_drawTriple_69 N v_modulus v_a1 n_a1 v_nextLot v_triple y2 y3 = some out → va_P (dC, dI) vwCl [(h_this, .inr (4, [.ref h_shares, .ref h_shown, .ref h_shownOfY, .ref h_triple, .ref h_view, .ref h_trial, .ref h_plain, .int v_views, .int v_viewAsNumber, .int v_hand, .int v_modulus, .int v_nextLot, .int v_nextInput])), (h_triple, .inl (k_triple, 9, .inl v_triple)), (h_a1, .inl (k_a1, n_a1, .inl v_a1))] H → va_D A [(h_this, .inr (4, [.ref h_shares, .ref h_shown, .ref h_shownOfY, .ref h_triple, .ref h_view, .ref h_trial, .ref h_plain, .int v_views, .int v_viewAsNumber, .int v_hand, .int v_modulus, .int v_nextLot, .int v_nextInput])), (h_triple, .inl (k_triple, 9, .inl v_triple)), (h_a1, .inl (k_a1, n_a1, .inl v_a1))] → va_S A s.heap H locs → lv_has ls 4 [(0, .ref h_this), (2, .int y2), (3, .int y3)] → W p l e ({ frames := 2, cells := 0, slots := 0, locals := 44 } : Room) s m args below meth c H locs 0 0 Q (F0 m 69 ls []) := by
    intro v_nextLot v_triple y2 y3 H locs ls hF hP hD hS hl
    unfold f_X4_drawTriple_69 at hF
    refine lv_aload_n hx hb dX4_drawTriple_69 rfl (lv_at hl 0 rfl) ?_
    refine va_get (D := (dC, dI)) (ci := 4) (v := .ref h_triple) (C := RX4) (T := TX4) (N := 13) hx hb hts in_X4 hown hK hP 0 rfl rfl 3 (by decide) hL21 (fun _ h9 => h9) rfl dX4_drawTriple_70 ?_
    refine lv_bipush (v := (8 : Int32)) hx hb dX4_drawTriple_73 (by decide) ?_
    refine lv_iload_n hx hb dX4_drawTriple_75 rfl (lv_at hl 1 rfl) ?_
    refine lv_iload_n hx hb dX4_drawTriple_76 rfl (lv_at hl 2 rfl) ?_
    refine lv_imul hx hb dX4_drawTriple_77 ?_
    refine lv_aload_n hx hb dX4_drawTriple_78 rfl (lv_at hl 0 rfl) ?_
    refine va_get (D := (dC, dI)) (ci := 4) (v := .ref h_triple) (C := RX4) (T := TX4) (N := 13) hx hb hts in_X4 hown hK hP 0 rfl rfl 3 (by decide) hL21 (fun _ h9 => h9) rfl dX4_drawTriple_79 ?_
    refine lv_bipush (v := (6 : Int32)) hx hb dX4_drawTriple_82 (by decide) ?_
    obtain ⟨hi_84, hF⟩ := gi_in hF
    refine va_iald hx hb hK hP 1 0 rfl rfl hi_84 dX4_drawTriple_84 ?_
    refine lv_isub hx hb dX4_drawTriple_85 ?_
    refine lv_aload_n hx hb dX4_drawTriple_86 rfl (lv_at hl 0 rfl) ?_
    refine va_get (D := (dC, dI)) (ci := 4) (v := .ref h_triple) (C := RX4) (T := TX4) (N := 13) hx hb hts in_X4 hown hK hP 0 rfl rfl 3 (by decide) hL21 (fun _ h9 => h9) rfl dX4_drawTriple_87 ?_
    refine lv_bipush (v := (7 : Int32)) hx hb dX4_drawTriple_90 (by decide) ?_
    obtain ⟨hi_92, hF⟩ := gi_in hF
    refine va_iald hx hb hK hP 1 0 rfl rfl hi_92 dX4_drawTriple_92 ?_
    refine lv_isub hx hb dX4_drawTriple_93 ?_
    refine lv_aload_n hx hb dX4_drawTriple_94 rfl (lv_at hl 0 rfl) ?_
    refine va_get (D := (dC, dI)) (ci := 4) (v := .int v_modulus) (C := RX4) (T := TX4) (N := 13) hx hb hts in_X4 hown hK hP 0 rfl rfl 10 (by decide) hL52 (fun _ h9 => h9) rfl dX4_drawTriple_95 ?_
    obtain ⟨z_98, hz_98, hF⟩ := gi_bind hF
    refine gRi (wc := []) (wr := [(h_this, .inr (4, [.ref h_shares, .ref h_shown, .ref h_shownOfY, .ref h_triple, .ref h_view, .ref h_trial, .ref h_plain, .int v_views, .int v_viewAsNumber, .int v_hand, .int v_modulus, .int v_nextLot, .int v_nextInput])), (h_triple, .inl (k_triple, 9, .inl v_triple)), (h_a1, .inl (k_a1, n_a1, .inl v_a1))]) (w1 := []) hP hD hS hA [] [0, 1, 2] rfl rfl (by decide) (by decide) (va_runSN (As := [.int (((y2 * y3) - (v_triple (6 : Int32).toNatClampNeg)) - (v_triple (7 : Int32).toNatClampNeg)), .int v_modulus]) (rest := [.int (8 : Int32), .ref h_triple]) CF (t_X9_mod l dC dI H.size (((y2 * y3) - (v_triple (6 : Int32).toNatClampNeg)) - (v_triple (7 : Int32).toNatClampNeg)) v_modulus N z_98 hz_98) cw118 (gPS hP hD hK hN [] [] (by decide) rfl rfl) rfl rfl hl.1 rfl (lv_room (Nat.le_of_ble_eq_true rfl)) dX4_drawTriple_98 ⟨Nat.zero_le _, Nat.zero_le _⟩) (fun H locs hP hD hS => ?_)
    have hP : va_P (dC, dI) vwCl [(h_this, .inr (4, [.ref h_shares, .ref h_shown, .ref h_shownOfY, .ref h_triple, .ref h_view, .ref h_trial, .ref h_plain, .int v_views, .int v_viewAsNumber, .int v_hand, .int v_modulus, .int v_nextLot, .int v_nextInput])), (h_triple, .inl (k_triple, 9, .inl v_triple)), (h_a1, .inl (k_a1, n_a1, .inl v_a1))] H := hP
    have hD : va_D A [(h_this, .inr (4, [.ref h_shares, .ref h_shown, .ref h_shownOfY, .ref h_triple, .ref h_view, .ref h_trial, .ref h_plain, .int v_views, .int v_viewAsNumber, .int v_hand, .int v_modulus, .int v_nextLot, .int v_nextInput])), (h_triple, .inl (k_triple, 9, .inl v_triple)), (h_a1, .inl (k_a1, n_a1, .inl v_a1))] := hD
    obtain ⟨hi_101, hF⟩ := gi_in hF
    refine va_iast hx hb hK hP hD hS 1 0 rfl rfl hi_101 dX4_drawTriple_101 (fun H locs hP hD hS => ?_)
    have hP : va_P (dC, dI) vwCl [(h_this, .inr (4, [.ref h_shares, .ref h_shown, .ref h_shownOfY, .ref h_triple, .ref h_view, .ref h_trial, .ref h_plain, .int v_views, .int v_viewAsNumber, .int v_hand, .int v_modulus, .int v_nextLot, .int v_nextInput])), (h_triple, .inl (k_triple, 9, .inl (upd v_triple (8 : Int32).toNatClampNeg z_98))), (h_a1, .inl (k_a1, n_a1, .inl v_a1))] H := hP
    have hD : va_D A [(h_this, .inr (4, [.ref h_shares, .ref h_shown, .ref h_shownOfY, .ref h_triple, .ref h_view, .ref h_trial, .ref h_plain, .int v_views, .int v_viewAsNumber, .int v_hand, .int v_modulus, .int v_nextLot, .int v_nextInput])), (h_triple, .inl (k_triple, 9, .inl (upd v_triple (8 : Int32).toNatClampNeg z_98))), (h_a1, .inl (k_a1, n_a1, .inl v_a1))] := hD
    have hF := Option.some.inj hF
    subst hF
    exact hret _ _ _ _ dX4_drawTriple_102 hP hD hS
  have k_48 : ∀ (v_nextLot : Int32) (v_triple : Nat → Int32) (y2 : Int32) (H : Heap) (locs : List Loc) (ls : Array Slot), f_X4_drawTriple_48 N v_modulus v_a1 n_a1 v_nextLot v_triple y2 = some out → va_P (dC, dI) vwCl [(h_this, .inr (4, [.ref h_shares, .ref h_shown, .ref h_shownOfY, .ref h_triple, .ref h_view, .ref h_trial, .ref h_plain, .int v_views, .int v_viewAsNumber, .int v_hand, .int v_modulus, .int v_nextLot, .int v_nextInput])), (h_triple, .inl (k_triple, 9, .inl v_triple)), (h_a1, .inl (k_a1, n_a1, .inl v_a1))] H → va_D A [(h_this, .inr (4, [.ref h_shares, .ref h_shown, .ref h_shownOfY, .ref h_triple, .ref h_view, .ref h_trial, .ref h_plain, .int v_views, .int v_viewAsNumber, .int v_hand, .int v_modulus, .int v_nextLot, .int v_nextInput])), (h_triple, .inl (k_triple, 9, .inl v_triple)), (h_a1, .inl (k_a1, n_a1, .inl v_a1))] → va_S A s.heap H locs → lv_has ls 4 [(0, .ref h_this), (2, .int y2)] → W p l e ({ frames := 2, cells := 0, slots := 0, locals := 44 } : Room) s m args below meth c H locs 0 0 Q (F0 m 48 ls []) := by
    intro v_nextLot v_triple y2 H locs ls hF hP hD hS hl
    unfold f_X4_drawTriple_48 at hF
    refine lv_aload_n hx hb dX4_drawTriple_48 rfl (lv_at hl 0 rfl) ?_
    refine va_get (D := (dC, dI)) (ci := 4) (v := .ref h_triple) (C := RX4) (T := TX4) (N := 13) hx hb hts in_X4 hown hK hP 0 rfl rfl 3 (by decide) hL21 (fun _ h9 => h9) rfl dX4_drawTriple_49 ?_
    refine lv_iconst (v := (3 : Int32)) hx hb dX4_drawTriple_52 (by decide) ?_
    obtain ⟨hi_53, hF⟩ := gi_in hF
    refine va_iald hx hb hK hP 1 0 rfl rfl hi_53 dX4_drawTriple_53 ?_
    refine lv_aload_n hx hb dX4_drawTriple_54 rfl (lv_at hl 0 rfl) ?_
    refine va_get (D := (dC, dI)) (ci := 4) (v := .ref h_triple) (C := RX4) (T := TX4) (N := 13) hx hb hts in_X4 hown hK hP 0 rfl rfl 3 (by decide) hL21 (fun _ h9 => h9) rfl dX4_drawTriple_55 ?_
    refine lv_iconst (v := (4 : Int32)) hx hb dX4_drawTriple_58 (by decide) ?_
    obtain ⟨hi_59, hF⟩ := gi_in hF
    refine va_iald hx hb hK hP 1 0 rfl rfl hi_59 dX4_drawTriple_59 ?_
    refine lv_iadd hx hb dX4_drawTriple_60 ?_
    refine lv_aload_n hx hb dX4_drawTriple_61 rfl (lv_at hl 0 rfl) ?_
    refine va_get (D := (dC, dI)) (ci := 4) (v := .ref h_triple) (C := RX4) (T := TX4) (N := 13) hx hb hts in_X4 hown hK hP 0 rfl rfl 3 (by decide) hL21 (fun _ h9 => h9) rfl dX4_drawTriple_62 ?_
    refine lv_iconst (v := (5 : Int32)) hx hb dX4_drawTriple_65 (by decide) ?_
    obtain ⟨hi_66, hF⟩ := gi_in hF
    refine va_iald hx hb hK hP 1 0 rfl rfl hi_66 dX4_drawTriple_66 ?_
    refine lv_iadd hx hb dX4_drawTriple_67 ?_
    refine lv_istore_n (lv' := [(3, .int (((v_triple (3 : Int32).toNatClampNeg) + (v_triple (4 : Int32).toNatClampNeg)) + (v_triple (5 : Int32).toNatClampNeg))), (0, .ref h_this), (2, .int y2)]) hx hb dX4_drawTriple_68 rfl hl (by decide) rfl (fun ls hl => ?_)
    exact k_69 v_nextLot v_triple y2 (((v_triple (3 : Int32).toNatClampNeg) + (v_triple (4 : Int32).toNatClampNeg)) + (v_triple (5 : Int32).toNatClampNeg)) _ _ _ hF hP hD hS (lv_sub hl [1, 2, 0] rfl)
  have k_27 : ∀ (v_nextLot : Int32) (v_triple : Nat → Int32) (H : Heap) (locs : List Loc) (ls : Array Slot), f_X4_drawTriple_27 N v_modulus v_a1 n_a1 v_nextLot v_triple = some out → va_P (dC, dI) vwCl [(h_this, .inr (4, [.ref h_shares, .ref h_shown, .ref h_shownOfY, .ref h_triple, .ref h_view, .ref h_trial, .ref h_plain, .int v_views, .int v_viewAsNumber, .int v_hand, .int v_modulus, .int v_nextLot, .int v_nextInput])), (h_triple, .inl (k_triple, 9, .inl v_triple)), (h_a1, .inl (k_a1, n_a1, .inl v_a1))] H → va_D A [(h_this, .inr (4, [.ref h_shares, .ref h_shown, .ref h_shownOfY, .ref h_triple, .ref h_view, .ref h_trial, .ref h_plain, .int v_views, .int v_viewAsNumber, .int v_hand, .int v_modulus, .int v_nextLot, .int v_nextInput])), (h_triple, .inl (k_triple, 9, .inl v_triple)), (h_a1, .inl (k_a1, n_a1, .inl v_a1))] → va_S A s.heap H locs → lv_has ls 4 [(0, .ref h_this)] → W p l e ({ frames := 2, cells := 0, slots := 0, locals := 44 } : Room) s m args below meth c H locs 0 0 Q (F0 m 27 ls []) := by
    intro v_nextLot v_triple H locs ls hF hP hD hS hl
    unfold f_X4_drawTriple_27 at hF
    refine lv_aload_n hx hb dX4_drawTriple_27 rfl (lv_at hl 0 rfl) ?_
    refine va_get (D := (dC, dI)) (ci := 4) (v := .ref h_triple) (C := RX4) (T := TX4) (N := 13) hx hb hts in_X4 hown hK hP 0 rfl rfl 3 (by decide) hL21 (fun _ h9 => h9) rfl dX4_drawTriple_28 ?_
    refine lv_iconst (v := (0 : Int32)) hx hb dX4_drawTriple_31 (by decide) ?_
    obtain ⟨hi_32, hF⟩ := gi_in hF
    refine va_iald hx hb hK hP 1 0 rfl rfl hi_32 dX4_drawTriple_32 ?_
    refine lv_aload_n hx hb dX4_drawTriple_33 rfl (lv_at hl 0 rfl) ?_
    refine va_get (D := (dC, dI)) (ci := 4) (v := .ref h_triple) (C := RX4) (T := TX4) (N := 13) hx hb hts in_X4 hown hK hP 0 rfl rfl 3 (by decide) hL21 (fun _ h9 => h9) rfl dX4_drawTriple_34 ?_
    refine lv_iconst (v := (1 : Int32)) hx hb dX4_drawTriple_37 (by decide) ?_
    obtain ⟨hi_38, hF⟩ := gi_in hF
    refine va_iald hx hb hK hP 1 0 rfl rfl hi_38 dX4_drawTriple_38 ?_
    refine lv_iadd hx hb dX4_drawTriple_39 ?_
    refine lv_aload_n hx hb dX4_drawTriple_40 rfl (lv_at hl 0 rfl) ?_
    refine va_get (D := (dC, dI)) (ci := 4) (v := .ref h_triple) (C := RX4) (T := TX4) (N := 13) hx hb hts in_X4 hown hK hP 0 rfl rfl 3 (by decide) hL21 (fun _ h9 => h9) rfl dX4_drawTriple_41 ?_
    refine lv_iconst (v := (2 : Int32)) hx hb dX4_drawTriple_44 (by decide) ?_
    obtain ⟨hi_45, hF⟩ := gi_in hF
    refine va_iald hx hb hK hP 1 0 rfl rfl hi_45 dX4_drawTriple_45 ?_
    refine lv_iadd hx hb dX4_drawTriple_46 ?_
    refine lv_istore_n (lv' := [(2, .int (((v_triple (0 : Int32).toNatClampNeg) + (v_triple (1 : Int32).toNatClampNeg)) + (v_triple (2 : Int32).toNatClampNeg))), (0, .ref h_this)]) hx hb dX4_drawTriple_47 rfl hl (by decide) rfl (fun ls hl => ?_)
    exact k_48 v_nextLot v_triple (((v_triple (0 : Int32).toNatClampNeg) + (v_triple (1 : Int32).toNatClampNeg)) + (v_triple (2 : Int32).toNatClampNeg)) _ _ _ hF hP hD hS (lv_sub hl [1, 0] rfl)
  have k_2 : ∀ (n : Nat) (v_nextLot : Int32) (v_triple : Nat → Int32) (y2 : Int32) (H : Heap) (locs : List Loc) (ls : Array Slot), f_X4_drawTriple_2 N v_modulus v_a1 n_a1 n v_nextLot v_triple y2 = some out → va_P (dC, dI) vwCl [(h_this, .inr (4, [.ref h_shares, .ref h_shown, .ref h_shownOfY, .ref h_triple, .ref h_view, .ref h_trial, .ref h_plain, .int v_views, .int v_viewAsNumber, .int v_hand, .int v_modulus, .int v_nextLot, .int v_nextInput])), (h_triple, .inl (k_triple, 9, .inl v_triple)), (h_a1, .inl (k_a1, n_a1, .inl v_a1))] H → va_D A [(h_this, .inr (4, [.ref h_shares, .ref h_shown, .ref h_shownOfY, .ref h_triple, .ref h_view, .ref h_trial, .ref h_plain, .int v_views, .int v_viewAsNumber, .int v_hand, .int v_modulus, .int v_nextLot, .int v_nextInput])), (h_triple, .inl (k_triple, 9, .inl v_triple)), (h_a1, .inl (k_a1, n_a1, .inl v_a1))] → va_S A s.heap H locs → lv_has ls 4 [(0, .ref h_this), (1, .ref h_a1), (2, .int y2)] → W p l e ({ frames := 2, cells := 0, slots := 0, locals := 44 } : Room) s m args below meth c H locs 0 0 Q (F0 m 2 ls []) := by
    intro n
    induction n with
    | zero =>
      intro v_nextLot v_triple y2 H locs ls hF
      have hF : (none : Option O_X4_drawTriple) = some out := hF
      cases hF
    | succ n ih =>
      intro v_nextLot v_triple y2 H locs ls hF hP hD hS hl
      have hF : s_X4_drawTriple_2 N v_modulus v_a1 n_a1 (f_X4_drawTriple_2 N v_modulus v_a1 n_a1 n) v_nextLot v_triple y2 = some out := hF
      generalize f_X4_drawTriple_2 N v_modulus v_a1 n_a1 n = r_2 at hF ih
      have g_2 : ∀ (v_nextLot : Int32) (v_triple : Nat → Int32) (y2 : Int32) (H : Heap) (locs : List Loc) (ls : Array Slot), r_2 v_nextLot v_triple y2 = some out → va_P (dC, dI) vwCl [(h_this, .inr (4, [.ref h_shares, .ref h_shown, .ref h_shownOfY, .ref h_triple, .ref h_view, .ref h_trial, .ref h_plain, .int v_views, .int v_viewAsNumber, .int v_hand, .int v_modulus, .int v_nextLot, .int v_nextInput])), (h_triple, .inl (k_triple, 9, .inl v_triple)), (h_a1, .inl (k_a1, n_a1, .inl v_a1))] H → va_D A [(h_this, .inr (4, [.ref h_shares, .ref h_shown, .ref h_shownOfY, .ref h_triple, .ref h_view, .ref h_trial, .ref h_plain, .int v_views, .int v_viewAsNumber, .int v_hand, .int v_modulus, .int v_nextLot, .int v_nextInput])), (h_triple, .inl (k_triple, 9, .inl v_triple)), (h_a1, .inl (k_a1, n_a1, .inl v_a1))] → va_S A s.heap H locs → lv_has ls 4 [(0, .ref h_this), (1, .ref h_a1), (2, .int y2)] → W p l e ({ frames := 2, cells := 0, slots := 0, locals := 44 } : Room) s m args below meth c H locs 0 0 Q (F0 m 2 ls []) := ih
      clear ih
      unfold s_X4_drawTriple_2 at hF
      refine lv_iload_n hx hb dX4_drawTriple_2 rfl (lv_at hl 2 rfl) ?_
      refine lv_bipush (v := (8 : Int32)) hx hb dX4_drawTriple_3 (by decide) ?_
      refine lv_icmp_ge (tgt := 27) hx hb dX4_drawTriple_5 (by decide) (fun c_5 => ?_) (fun c_5 => ?_)
      · have hF := gi_t c_5 hF
        exact k_27 v_nextLot v_triple _ _ _ hF hP hD hS (lv_sub hl [0] rfl)
      · have hF := gi_f c_5 hF
        refine lv_aload_n hx hb dX4_drawTriple_8 rfl (lv_at hl 0 rfl) ?_
        refine va_get (D := (dC, dI)) (ci := 4) (v := .ref h_triple) (C := RX4) (T := TX4) (N := 13) hx hb hts in_X4 hown hK hP 0 rfl rfl 3 (by decide) hL21 (fun _ h9 => h9) rfl dX4_drawTriple_9 ?_
        refine lv_iload_n hx hb dX4_drawTriple_12 rfl (lv_at hl 2 rfl) ?_
        refine lv_aload_n hx hb dX4_drawTriple_13 rfl (lv_at hl 0 rfl) ?_
        refine lv_aload_n hx hb dX4_drawTriple_14 rfl (lv_at hl 1 rfl) ?_
        obtain ⟨z_15, hz_15, hF⟩ := gi_bind hF
        refine gRi (wc := [(h_this, .inr (4, [.ref h_shares, .ref h_shown, .ref h_shownOfY, .ref h_triple, .ref h_view, .ref h_trial, .ref h_plain, .int v_views, .int v_viewAsNumber, .int v_hand, .int v_modulus, .int v_nextLot, .int v_nextInput])), (h_a1, .inl (k_a1, n_a1, .inl v_a1))]) (wr := [(h_triple, .inl (k_triple, 9, .inl v_triple))]) (w1 := [(h_this, .inr (4, [.ref h_shares, .ref h_shown, .ref h_shownOfY, .ref h_triple, .ref h_view, .ref h_trial, .ref h_plain, .int v_views, .int v_viewAsNumber, .int v_hand, .int v_modulus, .int z_15.2, .int v_nextInput])), (h_a1, .inl (k_a1, n_a1, .inl v_a1))]) hP hD hS hA [0, 2] [1] rfl rfl (by decide) (by decide) (va_runV (As := [.ref h_a1]) (rest := [.int y2, .ref h_triple]) CF (t_X4_drawLot l dC dI h_this h_shares h_shown h_shownOfY h_triple h_view h_trial h_plain v_views v_viewAsNumber v_hand v_modulus v_nextLot v_nextInput h_a1 k_a1 n_a1 v_a1 H.size  N z_15 hz_15) cw125 (gPV (ci := 4) hP hD hK hN [0, 2] [1] (by decide) rfl rfl (q0 := 0) rfl rfl) rfl rfl hl.1 rfl (lv_room (Nat.le_of_ble_eq_true rfl)) dX4_drawTriple_15 ⟨Nat.zero_le _, Nat.zero_le _⟩) (fun H locs hP hD hS => ?_)
        have hP : va_P (dC, dI) vwCl [(h_triple, .inl (k_triple, 9, .inl v_triple)), (h_this, .inr (4, [.ref h_shares, .ref h_shown, .ref h_shownOfY, .ref h_triple, .ref h_view, .ref h_trial, .ref h_plain, .int v_views, .int v_viewAsNumber, .int v_hand, .int v_modulus, .int z_15.2, .int v_nextInput])), (h_a1, .inl (k_a1, n_a1, .inl v_a1))] H := hP
        have hD : va_D A [(h_triple, .inl (k_triple, 9, .inl v_triple)), (h_this, .inr (4, [.ref h_shares, .ref h_shown, .ref h_shownOfY, .ref h_triple, .ref h_view, .ref h_trial, .ref h_plain, .int v_views, .int v_viewAsNumber, .int v_hand, .int v_modulus, .int z_15.2, .int v_nextInput])), (h_a1, .inl (k_a1, n_a1, .inl v_a1))] := hD
        obtain ⟨z_18, hz_18, hF⟩ := gi_bind hF
        refine gRv (wc := [(h_triple, .inl (k_triple, 9, .inl v_triple))]) (wr := [(h_this, .inr (4, [.ref h_shares, .ref h_shown, .ref h_shownOfY, .ref h_triple, .ref h_view, .ref h_trial, .ref h_plain, .int v_views, .int v_viewAsNumber, .int v_hand, .int v_modulus, .int z_15.2, .int v_nextInput])), (h_a1, .inl (k_a1, n_a1, .inl v_a1))]) (w1 := [(h_triple, .inl (k_triple, 9, .inl z_18))]) hP hD hS hA [0] [1, 2] rfl rfl (by decide) (by decide) (va_runSN (As := [.ref h_triple, .int y2, .int z_15.1]) (rest := []) CF (t_X9_put l dC dI h_triple k_triple 9 v_triple H.size y2 z_15.1 N z_18 hz_18) cw121 (gPS hP hD hK hN [0] [0] (by decide) rfl rfl) rfl rfl hl.1 rfl (lv_room (Nat.le_of_ble_eq_true rfl)) dX4_drawTriple_18 ⟨Nat.zero_le _, Nat.zero_le _⟩) (fun H locs hP hD hS => ?_)
        have hP : va_P (dC, dI) vwCl [(h_this, .inr (4, [.ref h_shares, .ref h_shown, .ref h_shownOfY, .ref h_triple, .ref h_view, .ref h_trial, .ref h_plain, .int v_views, .int v_viewAsNumber, .int v_hand, .int v_modulus, .int z_15.2, .int v_nextInput])), (h_a1, .inl (k_a1, n_a1, .inl v_a1)), (h_triple, .inl (k_triple, 9, .inl z_18))] H := hP
        have hD : va_D A [(h_this, .inr (4, [.ref h_shares, .ref h_shown, .ref h_shownOfY, .ref h_triple, .ref h_view, .ref h_trial, .ref h_plain, .int v_views, .int v_viewAsNumber, .int v_hand, .int v_modulus, .int z_15.2, .int v_nextInput])), (h_a1, .inl (k_a1, n_a1, .inl v_a1)), (h_triple, .inl (k_triple, 9, .inl z_18))] := hD
        refine lv_iinc (v := (y2 + 1)) (lv' := [(2, .int (y2 + 1)), (0, .ref h_this), (1, .ref h_a1)]) hx hb dX4_drawTriple_21 hl (k := 2) rfl rfl (by decide) rfl (fun ls hl => ?_)
        refine lv_goto (tgt := 2) hx hb dX4_drawTriple_24 (by decide) ?_
        exact g_2 z_15.2 z_18 (y2 + 1) _ _ _ hF (hP.sub [0, 2, 1] rfl) (hD.sub [0, 2, 1] (by decide) rfl) hS (lv_sub hl [1, 2, 0] rfl)
  unfold f_X4_drawTriple at hF
  refine lv_iconst (v := (0 : Int32)) hx hb dX4_drawTriple_0 (by decide) ?_
  refine lv_istore_n (lv' := [(2, .int (0 : Int32)), (0, .ref h_this), (1, .ref h_a1)]) hx hb dX4_drawTriple_1 rfl hl (by decide) rfl (fun ls hl => ?_)
  exact k_2 N v_nextLot v_triple (0 : Int32) _ _ _ hF hP hD hS (lv_sub hl [1, 2, 0] rfl)
abbrev O_X4_multiply : Type := (Nat → Int32)
def f_X4_multiply_99 (N : Nat) (v_modulus : Int32) (v_shown : Nat → Int32) (v_shownOfY : Nat → Int32) (v_triple : Nat → Int32) (x1 : Int32) (r_59 : (Nat → Int32) → Int32 → Int32 → Int32 → Int32 → Option O_X4_multiply) (v_shares : Nat → Int32) (y2 : Int32) (y3 : Int32) (y4 : Int32) (y5 : Int32) (y6 : Int32) : Option O_X4_multiply :=
  (f_X9_mod N (y6 + y4) v_modulus).bind (fun z_116 => if gin (x1 + y5) 48 = true then r_59 (upd v_shares (x1 + y5).toNatClampNeg z_116) y2 y3 (0 : Int32) (y5 + 1) else none)
def s_X4_multiply_59 (N : Nat) (v_modulus : Int32) (v_shown : Nat → Int32) (v_shownOfY : Nat → Int32) (v_triple : Nat → Int32) (x1 : Int32) (r_59 : (Nat → Int32) → Int32 → Int32 → Int32 → Int32 → Option O_X4_multiply) (v_shares : Nat → Int32) (y2 : Int32) (y3 : Int32) (y4 : Int32) (y5 : Int32) : Option O_X4_multiply :=
  if (3 : Int32) ≤ y5 then (some (v_shares)) else (if gin ((6 : Int32) + y5) 9 = true then if gin ((3 : Int32) + y5) 9 = true then if gin y5 9 = true then f_X4_multiply_99 N v_modulus v_shown v_shownOfY v_triple x1 r_59 v_shares y2 y3 y4 y5 (((v_triple ((6 : Int32) + y5).toNatClampNeg) + (y2 * (v_triple ((3 : Int32) + y5).toNatClampNeg))) + (y3 * (v_triple y5.toNatClampNeg))) else none else none else none)
def f_X4_multiply_59 (N : Nat) (v_modulus : Int32) (v_shown : Nat → Int32) (v_shownOfY : Nat → Int32) (v_triple : Nat → Int32) (x1 : Int32) (n : Nat) : (Nat → Int32) → Int32 → Int32 → Int32 → Int32 → Option O_X4_multiply := lpg (fun _ _ _ _ _ => none) (s_X4_multiply_59 N v_modulus v_shown v_shownOfY v_triple x1) n
def f_X4_multiply_51 (N : Nat) (v_modulus : Int32) (v_shown : Nat → Int32) (v_shownOfY : Nat → Int32) (v_triple : Nat → Int32) (x1 : Int32) (v_shares : Nat → Int32) (y2 : Int32) (y3 : Int32) : Option O_X4_multiply :=
  f_X4_multiply_59 N v_modulus v_shown v_shownOfY v_triple x1 N v_shares y2 y3 (y2 * y3) (0 : Int32)
def f_X4_multiply_30 (N : Nat) (v_modulus : Int32) (v_shown : Nat → Int32) (v_shownOfY : Nat → Int32) (v_triple : Nat → Int32) (x1 : Int32) (v_shares : Nat → Int32) (y2 : Int32) : Option O_X4_multiply :=
  if gin (0 : Int32) 3 = true then if gin (1 : Int32) 3 = true then if gin (2 : Int32) 3 = true then f_X4_multiply_51 N v_modulus v_shown v_shownOfY v_triple x1 v_shares y2 (((v_shownOfY (0 : Int32).toNatClampNeg) + (v_shownOfY (1 : Int32).toNatClampNeg)) + (v_shownOfY (2 : Int32).toNatClampNeg)) else none else none else none
def f_X4_multiply (N : Nat) (v_modulus : Int32) (v_shown : Nat → Int32) (v_shownOfY : Nat → Int32) (v_triple : Nat → Int32) (x1 : Int32) (v_shares : Nat → Int32) : Option O_X4_multiply :=
  (f_X4_isPlace N x1).bind (fun z_2 => if z_2 = 0 then (some (v_shares)) else (if gin (0 : Int32) 3 = true then if gin (1 : Int32) 3 = true then if gin (2 : Int32) 3 = true then f_X4_multiply_30 N v_modulus v_shown v_shownOfY v_triple x1 v_shares (((v_shown (0 : Int32).toNatClampNeg) + (v_shown (1 : Int32).toNatClampNeg)) + (v_shown (2 : Int32).toNatClampNeg)) else none else none else none))
set_option maxHeartbeats 4000000 in
set_option maxRecDepth 100000 in
theorem t_X4_multiply (l : Launch) (dC : Nat → ClassId) (dI : Nat → Nat → Nat) (h_this : Nat) (h_shares : Nat) (h_shown : Nat) (h_shownOfY : Nat) (h_triple : Nat) (h_view : Nat) (h_trial : Nat) (h_plain : Nat) (v_views : Int32) (v_viewAsNumber : Int32) (v_hand : Int32) (v_modulus : Int32) (v_nextLot : Int32) (v_nextInput : Int32) (k_shares : ClassId) (v_shares : Nat → Int32) (k_shown : ClassId) (v_shown : Nat → Int32) (k_shownOfY : ClassId) (v_shownOfY : Nat → Int32) (k_triple : ClassId) (v_triple : Nat → Int32) (sz : Nat) (x1 : Int32) (N : Nat) (out : O_X4_multiply) (hF : f_X4_multiply N v_modulus v_shown v_shownOfY v_triple x1 v_shares = some out) : gMv l yX4_multiply wsX4_multiply ({ frames := 1, cells := 0, slots := 0, locals := 22 } : Room) [.ref h_this, .int x1] (dC, dI) [(h_this, .inr (4, [.ref h_shares, .ref h_shown, .ref h_shownOfY, .ref h_triple, .ref h_view, .ref h_trial, .ref h_plain, .int v_views, .int v_viewAsNumber, .int v_hand, .int v_modulus, .int v_nextLot, .int v_nextInput])), (h_shares, .inl (k_shares, 48, .inl v_shares)), (h_shown, .inl (k_shown, 3, .inl v_shown)), (h_shownOfY, .inl (k_shownOfY, 3, .inl v_shownOfY)), (h_triple, .inl (k_triple, 9, .inl v_triple))] [(k_shares, .int), (k_shown, .int), (k_shownOfY, .int), (k_triple, .int)] sz [(h_this, .inr (4, [.ref h_shares, .ref h_shown, .ref h_shownOfY, .ref h_triple, .ref h_view, .ref h_trial, .ref h_plain, .int v_views, .int v_viewAsNumber, .int v_hand, .int v_modulus, .int v_nextLot, .int v_nextInput])), (h_shares, .inl (k_shares, 48, .inl out)), (h_shown, .inl (k_shown, 3, .inl v_shown)), (h_shownOfY, .inl (k_shownOfY, 3, .inl v_shownOfY)), (h_triple, .inl (k_triple, 9, .inl v_triple))] := by
  refine gEv (cc := cX4_multiply) (maxL := 7) (by decide) rfl (Nat.le_of_ble_eq_true rfl) ?_
  intro p e s m args below meth c Q A ls CF hK hN hA hret hP hD hS hl
  have hx := CF.1
  have hb := CF.2.1
  have hml := CF.2.2.1
  have hown : s.vm.findClass RX4 = some m.cls := CF.2.2.2.1
  have hts := CF.2.2.2.2
  have hl : lv_has ls 7 [(0, .ref h_this), (1, .int x1)] := hl
  have cw129 : CallW ({ frames := 1, cells := 0, slots := 0, locals := 22 } : Room) s args RX4 RX4 129 yX4_isPlace cX4_isPlace 2 (some .boolean) wsX4_isPlace ({ frames := 0, cells := 0, slots := 0, locals := 0 } : Room) 0 0 1 := cwV 1 hts gX4_multiply_X4_isPlace rfl rfl rfl (by decide +kernel) ⟨Nat.le_of_ble_eq_true rfl, Nat.le_of_ble_eq_true rfl⟩
  have in_X4 : ∀ w ∈ wsX40, w ∈ wsX4_multiply := fun w h => List.mem_cons_of_mem _ (List.mem_append_right _ h)
  have hL15 : (Cond.fieldLink RX4 15 "DustSums$Run" "shown" "[I").before args s = true := hts (.fieldLink RX4 15 "DustSums$Run" "shown" "[I") (List.mem_of_getElem? (i := 1) rfl)
  have hL18 : (Cond.fieldLink RX4 18 "DustSums$Run" "shownOfY" "[I").before args s = true := hts (.fieldLink RX4 18 "DustSums$Run" "shownOfY" "[I") (List.mem_of_getElem? (i := 2) rfl)
  have hL21 : (Cond.fieldLink RX4 21 "DustSums$Run" "triple" "[I").before args s = true := hts (.fieldLink RX4 21 "DustSums$Run" "triple" "[I") (List.mem_of_getElem? (i := 3) rfl)
  have hL9 : (Cond.fieldLink RX4 9 "DustSums$Run" "shares" "[I").before args s = true := hts (.fieldLink RX4 9 "DustSums$Run" "shares" "[I") (List.mem_of_getElem? (i := 4) rfl)
  have hL52 : (Cond.fieldLink RX4 52 "DustSums$Run" "modulus" "I").before args s = true := hts (.fieldLink RX4 52 "DustSums$Run" "modulus" "I") (List.mem_of_getElem? (i := 5) rfl)
  have nm118 : va_Nw (.methodLinkNest RX4 118 yX9_mod "DustSums") s := hN.2 (RX4, 118, yX9_mod, "DustSums") (by decide +kernel)
  have cw118 : va_CN ({ frames := 1, cells := 0, slots := 0, locals := 22 } : Room) s args RX4 118 yX9_mod "DustSums" cX9_mod 3 (some .int) wsX9_mod ({ frames := 0, cells := 0, slots := 0, locals := 0 } : Room) 0 0 2 ∧ (Cond.static yX9_mod).before args s = true ∧ True := ⟨va_cnB 2 hts gX4_multiply_X9_mod_n118 rfl rfl rfl nm118 (hts (.initialized RX9) (List.mem_of_getElem? (i := 12) rfl)) (by decide +kernel) ⟨Nat.le_of_ble_eq_true rfl, Nat.le_of_ble_eq_true rfl⟩, hts (.static yX9_mod) (List.mem_of_getElem? (i := 11) rfl), trivial⟩
  have k_99 : ∀ (r_59 : (Nat → Int32) → Int32 → Int32 → Int32 → Int32 → Option O_X4_multiply) (g_59 : ∀ (v_shares : Nat → Int32) (y2 : Int32) (y3 : Int32) (y4 : Int32) (y5 : Int32) (H : Heap) (locs : List Loc) (ls : Array Slot), r_59 v_shares y2 y3 y4 y5 = some out → va_P (dC, dI) vwCl [(h_this, .inr (4, [.ref h_shares, .ref h_shown, .ref h_shownOfY, .ref h_triple, .ref h_view, .ref h_trial, .ref h_plain, .int v_views, .int v_viewAsNumber, .int v_hand, .int v_modulus, .int v_nextLot, .int v_nextInput])), (h_shares, .inl (k_shares, 48, .inl v_shares)), (h_shown, .inl (k_shown, 3, .inl v_shown)), (h_shownOfY, .inl (k_shownOfY, 3, .inl v_shownOfY)), (h_triple, .inl (k_triple, 9, .inl v_triple))] H → va_D A [(h_this, .inr (4, [.ref h_shares, .ref h_shown, .ref h_shownOfY, .ref h_triple, .ref h_view, .ref h_trial, .ref h_plain, .int v_views, .int v_viewAsNumber, .int v_hand, .int v_modulus, .int v_nextLot, .int v_nextInput])), (h_shares, .inl (k_shares, 48, .inl v_shares)), (h_shown, .inl (k_shown, 3, .inl v_shown)), (h_shownOfY, .inl (k_shownOfY, 3, .inl v_shownOfY)), (h_triple, .inl (k_triple, 9, .inl v_triple))] → va_S A s.heap H locs → lv_has ls 7 [(0, .ref h_this), (1, .int x1), (2, .int y2), (3, .int y3), (4, .int y4), (5, .int y5)] → W p l e ({ frames := 1, cells := 0, slots := 0, locals := 22 } : Room) s m args below meth c H locs 0 0 Q (F0 m 59 ls [])) (v_shares : Nat → Int32) (y2 : Int32) (y3 : Int32) (y4 : Int32) (y5 : Int32) (y6 : Int32) (H : Heap) (locs : List Loc) (ls : Array Slot), f_X4_multiply_99 N v_modulus v_shown v_shownOfY v_triple x1 r_59 v_shares y2 y3 y4 y5 y6 = some out → va_P (dC, dI) vwCl [(h_this, .inr (4, [.ref h_shares, .ref h_shown, .ref h_shownOfY, .ref h_triple, .ref h_view, .ref h_trial, .ref h_plain, .int v_views, .int v_viewAsNumber, .int v_hand, .int v_modulus, .int v_nextLot, .int v_nextInput])), (h_shares, .inl (k_shares, 48, .inl v_shares)), (h_shown, .inl (k_shown, 3, .inl v_shown)), (h_shownOfY, .inl (k_shownOfY, 3, .inl v_shownOfY)), (h_triple, .inl (k_triple, 9, .inl v_triple))] H → va_D A [(h_this, .inr (4, [.ref h_shares, .ref h_shown, .ref h_shownOfY, .ref h_triple, .ref h_view, .ref h_trial, .ref h_plain, .int v_views, .int v_viewAsNumber, .int v_hand, .int v_modulus, .int v_nextLot, .int v_nextInput])), (h_shares, .inl (k_shares, 48, .inl v_shares)), (h_shown, .inl (k_shown, 3, .inl v_shown)), (h_shownOfY, .inl (k_shownOfY, 3, .inl v_shownOfY)), (h_triple, .inl (k_triple, 9, .inl v_triple))] → va_S A s.heap H locs → lv_has ls 7 [(0, .ref h_this), (1, .int x1), (2, .int y2), (3, .int y3), (4, .int y4), (5, .int y5), (6, .int y6)] → W p l e ({ frames := 1, cells := 0, slots := 0, locals := 22 } : Room) s m args below meth c H locs 0 0 Q (F0 m 99 ls []) := by
    intro r_59 g_59 v_shares y2 y3 y4 y5 y6 H locs ls hF hP hD hS hl
    unfold f_X4_multiply_99 at hF
    refine lv_aload_n hx hb dX4_multiply_99 rfl (lv_at hl 0 rfl) ?_
    refine va_get (D := (dC, dI)) (ci := 4) (v := .ref h_shares) (C := RX4) (T := TX4) (N := 13) hx hb hts in_X4 hown hK hP 0 rfl rfl 0 (by decide) hL9 (fun _ h9 => h9) rfl dX4_multiply_100 ?_
    refine lv_iload_n hx hb dX4_multiply_103 rfl (lv_at hl 1 rfl) ?_
    refine lv_iload hx hb dX4_multiply_104 (lv_at hl 5 rfl) ?_
    refine lv_iadd hx hb dX4_multiply_106 ?_
    refine lv_iload hx hb dX4_multiply_107 (lv_at hl 6 rfl) ?_
    refine lv_iload hx hb dX4_multiply_109 (lv_at hl 4 rfl) ?_
    refine lv_iadd hx hb dX4_multiply_111 ?_
    refine lv_aload_n hx hb dX4_multiply_112 rfl (lv_at hl 0 rfl) ?_
    refine va_get (D := (dC, dI)) (ci := 4) (v := .int v_modulus) (C := RX4) (T := TX4) (N := 13) hx hb hts in_X4 hown hK hP 0 rfl rfl 10 (by decide) hL52 (fun _ h9 => h9) rfl dX4_multiply_113 ?_
    obtain ⟨z_116, hz_116, hF⟩ := gi_bind hF
    refine gRi (wc := []) (wr := [(h_this, .inr (4, [.ref h_shares, .ref h_shown, .ref h_shownOfY, .ref h_triple, .ref h_view, .ref h_trial, .ref h_plain, .int v_views, .int v_viewAsNumber, .int v_hand, .int v_modulus, .int v_nextLot, .int v_nextInput])), (h_shares, .inl (k_shares, 48, .inl v_shares)), (h_shown, .inl (k_shown, 3, .inl v_shown)), (h_shownOfY, .inl (k_shownOfY, 3, .inl v_shownOfY)), (h_triple, .inl (k_triple, 9, .inl v_triple))]) (w1 := []) hP hD hS hA [] [0, 1, 2, 3, 4] rfl rfl (by decide) (by decide) (va_runSN (As := [.int (y6 + y4), .int v_modulus]) (rest := [.int (x1 + y5), .ref h_shares]) CF (t_X9_mod l dC dI H.size (y6 + y4) v_modulus N z_116 hz_116) cw118 (gPS hP hD hK hN [] [] (by decide) rfl rfl) rfl rfl hl.1 rfl (lv_room (Nat.le_of_ble_eq_true rfl)) dX4_multiply_116 ⟨Nat.zero_le _, Nat.zero_le _⟩) (fun H locs hP hD hS => ?_)
    have hP : va_P (dC, dI) vwCl [(h_this, .inr (4, [.ref h_shares, .ref h_shown, .ref h_shownOfY, .ref h_triple, .ref h_view, .ref h_trial, .ref h_plain, .int v_views, .int v_viewAsNumber, .int v_hand, .int v_modulus, .int v_nextLot, .int v_nextInput])), (h_shares, .inl (k_shares, 48, .inl v_shares)), (h_shown, .inl (k_shown, 3, .inl v_shown)), (h_shownOfY, .inl (k_shownOfY, 3, .inl v_shownOfY)), (h_triple, .inl (k_triple, 9, .inl v_triple))] H := hP
    have hD : va_D A [(h_this, .inr (4, [.ref h_shares, .ref h_shown, .ref h_shownOfY, .ref h_triple, .ref h_view, .ref h_trial, .ref h_plain, .int v_views, .int v_viewAsNumber, .int v_hand, .int v_modulus, .int v_nextLot, .int v_nextInput])), (h_shares, .inl (k_shares, 48, .inl v_shares)), (h_shown, .inl (k_shown, 3, .inl v_shown)), (h_shownOfY, .inl (k_shownOfY, 3, .inl v_shownOfY)), (h_triple, .inl (k_triple, 9, .inl v_triple))] := hD
    obtain ⟨hi_119, hF⟩ := gi_in hF
    refine va_iast hx hb hK hP hD hS 1 0 rfl rfl hi_119 dX4_multiply_119 (fun H locs hP hD hS => ?_)
    have hP : va_P (dC, dI) vwCl [(h_this, .inr (4, [.ref h_shares, .ref h_shown, .ref h_shownOfY, .ref h_triple, .ref h_view, .ref h_trial, .ref h_plain, .int v_views, .int v_viewAsNumber, .int v_hand, .int v_modulus, .int v_nextLot, .int v_nextInput])), (h_shares, .inl (k_shares, 48, .inl (upd v_shares (x1 + y5).toNatClampNeg z_116))), (h_shown, .inl (k_shown, 3, .inl v_shown)), (h_shownOfY, .inl (k_shownOfY, 3, .inl v_shownOfY)), (h_triple, .inl (k_triple, 9, .inl v_triple))] H := hP
    have hD : va_D A [(h_this, .inr (4, [.ref h_shares, .ref h_shown, .ref h_shownOfY, .ref h_triple, .ref h_view, .ref h_trial, .ref h_plain, .int v_views, .int v_viewAsNumber, .int v_hand, .int v_modulus, .int v_nextLot, .int v_nextInput])), (h_shares, .inl (k_shares, 48, .inl (upd v_shares (x1 + y5).toNatClampNeg z_116))), (h_shown, .inl (k_shown, 3, .inl v_shown)), (h_shownOfY, .inl (k_shownOfY, 3, .inl v_shownOfY)), (h_triple, .inl (k_triple, 9, .inl v_triple))] := hD
    refine lv_iconst (v := (0 : Int32)) hx hb dX4_multiply_120 (by decide) ?_
    refine lv_istore (lv' := [(4, .int (0 : Int32)), (0, .ref h_this), (1, .int x1), (2, .int y2), (3, .int y3), (5, .int y5), (6, .int y6)]) hx hb dX4_multiply_121 hl (by decide) rfl (fun ls hl => ?_)
    refine lv_iinc (v := (y5 + 1)) (lv' := [(5, .int (y5 + 1)), (4, .int (0 : Int32)), (0, .ref h_this), (1, .int x1), (2, .int y2), (3, .int y3), (6, .int y6)]) hx hb dX4_multiply_123 hl (k := 5) rfl rfl (by decide) rfl (fun ls hl => ?_)
    refine lv_goto (tgt := 59) hx hb dX4_multiply_126 (by decide) ?_
    exact g_59 (upd v_shares (x1 + y5).toNatClampNeg z_116) y2 y3 (0 : Int32) (y5 + 1) _ _ _ hF hP hD hS (lv_sub hl [2, 3, 4, 5, 1, 0] rfl)
  have k_59 : ∀ (n : Nat) (v_shares : Nat → Int32) (y2 : Int32) (y3 : Int32) (y4 : Int32) (y5 : Int32) (H : Heap) (locs : List Loc) (ls : Array Slot), f_X4_multiply_59 N v_modulus v_shown v_shownOfY v_triple x1 n v_shares y2 y3 y4 y5 = some out → va_P (dC, dI) vwCl [(h_this, .inr (4, [.ref h_shares, .ref h_shown, .ref h_shownOfY, .ref h_triple, .ref h_view, .ref h_trial, .ref h_plain, .int v_views, .int v_viewAsNumber, .int v_hand, .int v_modulus, .int v_nextLot, .int v_nextInput])), (h_shares, .inl (k_shares, 48, .inl v_shares)), (h_shown, .inl (k_shown, 3, .inl v_shown)), (h_shownOfY, .inl (k_shownOfY, 3, .inl v_shownOfY)), (h_triple, .inl (k_triple, 9, .inl v_triple))] H → va_D A [(h_this, .inr (4, [.ref h_shares, .ref h_shown, .ref h_shownOfY, .ref h_triple, .ref h_view, .ref h_trial, .ref h_plain, .int v_views, .int v_viewAsNumber, .int v_hand, .int v_modulus, .int v_nextLot, .int v_nextInput])), (h_shares, .inl (k_shares, 48, .inl v_shares)), (h_shown, .inl (k_shown, 3, .inl v_shown)), (h_shownOfY, .inl (k_shownOfY, 3, .inl v_shownOfY)), (h_triple, .inl (k_triple, 9, .inl v_triple))] → va_S A s.heap H locs → lv_has ls 7 [(0, .ref h_this), (1, .int x1), (2, .int y2), (3, .int y3), (4, .int y4), (5, .int y5)] → W p l e ({ frames := 1, cells := 0, slots := 0, locals := 22 } : Room) s m args below meth c H locs 0 0 Q (F0 m 59 ls []) := by
    intro n
    induction n with
    | zero =>
      intro v_shares y2 y3 y4 y5 H locs ls hF
      have hF : (none : Option O_X4_multiply) = some out := hF
      cases hF
    | succ n ih =>
      intro v_shares y2 y3 y4 y5 H locs ls hF hP hD hS hl
      have hF : s_X4_multiply_59 N v_modulus v_shown v_shownOfY v_triple x1 (f_X4_multiply_59 N v_modulus v_shown v_shownOfY v_triple x1 n) v_shares y2 y3 y4 y5 = some out := hF
      generalize f_X4_multiply_59 N v_modulus v_shown v_shownOfY v_triple x1 n = r_59 at hF ih
      have g_59 : ∀ (v_shares : Nat → Int32) (y2 : Int32) (y3 : Int32) (y4 : Int32) (y5 : Int32) (H : Heap) (locs : List Loc) (ls : Array Slot), r_59 v_shares y2 y3 y4 y5 = some out → va_P (dC, dI) vwCl [(h_this, .inr (4, [.ref h_shares, .ref h_shown, .ref h_shownOfY, .ref h_triple, .ref h_view, .ref h_trial, .ref h_plain, .int v_views, .int v_viewAsNumber, .int v_hand, .int v_modulus, .int v_nextLot, .int v_nextInput])), (h_shares, .inl (k_shares, 48, .inl v_shares)), (h_shown, .inl (k_shown, 3, .inl v_shown)), (h_shownOfY, .inl (k_shownOfY, 3, .inl v_shownOfY)), (h_triple, .inl (k_triple, 9, .inl v_triple))] H → va_D A [(h_this, .inr (4, [.ref h_shares, .ref h_shown, .ref h_shownOfY, .ref h_triple, .ref h_view, .ref h_trial, .ref h_plain, .int v_views, .int v_viewAsNumber, .int v_hand, .int v_modulus, .int v_nextLot, .int v_nextInput])), (h_shares, .inl (k_shares, 48, .inl v_shares)), (h_shown, .inl (k_shown, 3, .inl v_shown)), (h_shownOfY, .inl (k_shownOfY, 3, .inl v_shownOfY)), (h_triple, .inl (k_triple, 9, .inl v_triple))] → va_S A s.heap H locs → lv_has ls 7 [(0, .ref h_this), (1, .int x1), (2, .int y2), (3, .int y3), (4, .int y4), (5, .int y5)] → W p l e ({ frames := 1, cells := 0, slots := 0, locals := 22 } : Room) s m args below meth c H locs 0 0 Q (F0 m 59 ls []) := ih
      clear ih
      unfold s_X4_multiply_59 at hF
      refine lv_iload hx hb dX4_multiply_59 (lv_at hl 5 rfl) ?_
      refine lv_iconst (v := (3 : Int32)) hx hb dX4_multiply_61 (by decide) ?_
      refine lv_icmp_ge (tgt := 129) hx hb dX4_multiply_62 (by decide) (fun c_62 => ?_) (fun c_62 => ?_)
      · have hF := gi_t c_62 hF
        have hF := Option.some.inj hF
        subst hF
        exact hret _ _ _ _ dX4_multiply_129 hP hD hS
      · have hF := gi_f c_62 hF
        refine lv_aload_n hx hb dX4_multiply_65 rfl (lv_at hl 0 rfl) ?_
        refine va_get (D := (dC, dI)) (ci := 4) (v := .ref h_triple) (C := RX4) (T := TX4) (N := 13) hx hb hts in_X4 hown hK hP 0 rfl rfl 3 (by decide) hL21 (fun _ h9 => h9) rfl dX4_multiply_66 ?_
        refine lv_bipush (v := (6 : Int32)) hx hb dX4_multiply_69 (by decide) ?_
        refine lv_iload hx hb dX4_multiply_71 (lv_at hl 5 rfl) ?_
        refine lv_iadd hx hb dX4_multiply_73 ?_
        obtain ⟨hi_74, hF⟩ := gi_in hF
        refine va_iald hx hb hK hP 4 3 rfl rfl hi_74 dX4_multiply_74 ?_
        refine lv_iload_n hx hb dX4_multiply_75 rfl (lv_at hl 2 rfl) ?_
        refine lv_aload_n hx hb dX4_multiply_76 rfl (lv_at hl 0 rfl) ?_
        refine va_get (D := (dC, dI)) (ci := 4) (v := .ref h_triple) (C := RX4) (T := TX4) (N := 13) hx hb hts in_X4 hown hK hP 0 rfl rfl 3 (by decide) hL21 (fun _ h9 => h9) rfl dX4_multiply_77 ?_
        refine lv_iconst (v := (3 : Int32)) hx hb dX4_multiply_80 (by decide) ?_
        refine lv_iload hx hb dX4_multiply_81 (lv_at hl 5 rfl) ?_
        refine lv_iadd hx hb dX4_multiply_83 ?_
        obtain ⟨hi_84, hF⟩ := gi_in hF
        refine va_iald hx hb hK hP 4 3 rfl rfl hi_84 dX4_multiply_84 ?_
        refine lv_imul hx hb dX4_multiply_85 ?_
        refine lv_iadd hx hb dX4_multiply_86 ?_
        refine lv_iload_n hx hb dX4_multiply_87 rfl (lv_at hl 3 rfl) ?_
        refine lv_aload_n hx hb dX4_multiply_88 rfl (lv_at hl 0 rfl) ?_
        refine va_get (D := (dC, dI)) (ci := 4) (v := .ref h_triple) (C := RX4) (T := TX4) (N := 13) hx hb hts in_X4 hown hK hP 0 rfl rfl 3 (by decide) hL21 (fun _ h9 => h9) rfl dX4_multiply_89 ?_
        refine lv_iload hx hb dX4_multiply_92 (lv_at hl 5 rfl) ?_
        obtain ⟨hi_94, hF⟩ := gi_in hF
        refine va_iald hx hb hK hP 4 3 rfl rfl hi_94 dX4_multiply_94 ?_
        refine lv_imul hx hb dX4_multiply_95 ?_
        refine lv_iadd hx hb dX4_multiply_96 ?_
        refine lv_istore (lv' := [(6, .int (((v_triple ((6 : Int32) + y5).toNatClampNeg) + (y2 * (v_triple ((3 : Int32) + y5).toNatClampNeg))) + (y3 * (v_triple y5.toNatClampNeg)))), (0, .ref h_this), (1, .int x1), (2, .int y2), (3, .int y3), (4, .int y4), (5, .int y5)]) hx hb dX4_multiply_97 hl (by decide) rfl (fun ls hl => ?_)
        exact k_99 r_59 g_59 v_shares y2 y3 y4 y5 (((v_triple ((6 : Int32) + y5).toNatClampNeg) + (y2 * (v_triple ((3 : Int32) + y5).toNatClampNeg))) + (y3 * (v_triple y5.toNatClampNeg))) _ _ _ hF hP hD hS (lv_sub hl [1, 2, 3, 4, 5, 6, 0] rfl)
  have k_51 : ∀ (v_shares : Nat → Int32) (y2 : Int32) (y3 : Int32) (H : Heap) (locs : List Loc) (ls : Array Slot), f_X4_multiply_51 N v_modulus v_shown v_shownOfY v_triple x1 v_shares y2 y3 = some out → va_P (dC, dI) vwCl [(h_this, .inr (4, [.ref h_shares, .ref h_shown, .ref h_shownOfY, .ref h_triple, .ref h_view, .ref h_trial, .ref h_plain, .int v_views, .int v_viewAsNumber, .int v_hand, .int v_modulus, .int v_nextLot, .int v_nextInput])), (h_shares, .inl (k_shares, 48, .inl v_shares)), (h_shown, .inl (k_shown, 3, .inl v_shown)), (h_shownOfY, .inl (k_shownOfY, 3, .inl v_shownOfY)), (h_triple, .inl (k_triple, 9, .inl v_triple))] H → va_D A [(h_this, .inr (4, [.ref h_shares, .ref h_shown, .ref h_shownOfY, .ref h_triple, .ref h_view, .ref h_trial, .ref h_plain, .int v_views, .int v_viewAsNumber, .int v_hand, .int v_modulus, .int v_nextLot, .int v_nextInput])), (h_shares, .inl (k_shares, 48, .inl v_shares)), (h_shown, .inl (k_shown, 3, .inl v_shown)), (h_shownOfY, .inl (k_shownOfY, 3, .inl v_shownOfY)), (h_triple, .inl (k_triple, 9, .inl v_triple))] → va_S A s.heap H locs → lv_has ls 7 [(0, .ref h_this), (1, .int x1), (2, .int y2), (3, .int y3)] → W p l e ({ frames := 1, cells := 0, slots := 0, locals := 22 } : Room) s m args below meth c H locs 0 0 Q (F0 m 51 ls []) := by
    intro v_shares y2 y3 H locs ls hF hP hD hS hl
    unfold f_X4_multiply_51 at hF
    refine lv_iload_n hx hb dX4_multiply_51 rfl (lv_at hl 2 rfl) ?_
    refine lv_iload_n hx hb dX4_multiply_52 rfl (lv_at hl 3 rfl) ?_
    refine lv_imul hx hb dX4_multiply_53 ?_
    refine lv_istore (lv' := [(4, .int (y2 * y3)), (0, .ref h_this), (1, .int x1), (2, .int y2), (3, .int y3)]) hx hb dX4_multiply_54 hl (by decide) rfl (fun ls hl => ?_)
    refine lv_iconst (v := (0 : Int32)) hx hb dX4_multiply_56 (by decide) ?_
    refine lv_istore (lv' := [(5, .int (0 : Int32)), (4, .int (y2 * y3)), (0, .ref h_this), (1, .int x1), (2, .int y2), (3, .int y3)]) hx hb dX4_multiply_57 hl (by decide) rfl (fun ls hl => ?_)
    exact k_59 N v_shares y2 y3 (y2 * y3) (0 : Int32) _ _ _ hF hP hD hS (lv_sub hl [2, 3, 4, 5, 1, 0] rfl)
  have k_30 : ∀ (v_shares : Nat → Int32) (y2 : Int32) (H : Heap) (locs : List Loc) (ls : Array Slot), f_X4_multiply_30 N v_modulus v_shown v_shownOfY v_triple x1 v_shares y2 = some out → va_P (dC, dI) vwCl [(h_this, .inr (4, [.ref h_shares, .ref h_shown, .ref h_shownOfY, .ref h_triple, .ref h_view, .ref h_trial, .ref h_plain, .int v_views, .int v_viewAsNumber, .int v_hand, .int v_modulus, .int v_nextLot, .int v_nextInput])), (h_shares, .inl (k_shares, 48, .inl v_shares)), (h_shown, .inl (k_shown, 3, .inl v_shown)), (h_shownOfY, .inl (k_shownOfY, 3, .inl v_shownOfY)), (h_triple, .inl (k_triple, 9, .inl v_triple))] H → va_D A [(h_this, .inr (4, [.ref h_shares, .ref h_shown, .ref h_shownOfY, .ref h_triple, .ref h_view, .ref h_trial, .ref h_plain, .int v_views, .int v_viewAsNumber, .int v_hand, .int v_modulus, .int v_nextLot, .int v_nextInput])), (h_shares, .inl (k_shares, 48, .inl v_shares)), (h_shown, .inl (k_shown, 3, .inl v_shown)), (h_shownOfY, .inl (k_shownOfY, 3, .inl v_shownOfY)), (h_triple, .inl (k_triple, 9, .inl v_triple))] → va_S A s.heap H locs → lv_has ls 7 [(0, .ref h_this), (1, .int x1), (2, .int y2)] → W p l e ({ frames := 1, cells := 0, slots := 0, locals := 22 } : Room) s m args below meth c H locs 0 0 Q (F0 m 30 ls []) := by
    intro v_shares y2 H locs ls hF hP hD hS hl
    unfold f_X4_multiply_30 at hF
    refine lv_aload_n hx hb dX4_multiply_30 rfl (lv_at hl 0 rfl) ?_
    refine va_get (D := (dC, dI)) (ci := 4) (v := .ref h_shownOfY) (C := RX4) (T := TX4) (N := 13) hx hb hts in_X4 hown hK hP 0 rfl rfl 2 (by decide) hL18 (fun _ h9 => h9) rfl dX4_multiply_31 ?_
    refine lv_iconst (v := (0 : Int32)) hx hb dX4_multiply_34 (by decide) ?_
    obtain ⟨hi_35, hF⟩ := gi_in hF
    refine va_iald hx hb hK hP 3 2 rfl rfl hi_35 dX4_multiply_35 ?_
    refine lv_aload_n hx hb dX4_multiply_36 rfl (lv_at hl 0 rfl) ?_
    refine va_get (D := (dC, dI)) (ci := 4) (v := .ref h_shownOfY) (C := RX4) (T := TX4) (N := 13) hx hb hts in_X4 hown hK hP 0 rfl rfl 2 (by decide) hL18 (fun _ h9 => h9) rfl dX4_multiply_37 ?_
    refine lv_iconst (v := (1 : Int32)) hx hb dX4_multiply_40 (by decide) ?_
    obtain ⟨hi_41, hF⟩ := gi_in hF
    refine va_iald hx hb hK hP 3 2 rfl rfl hi_41 dX4_multiply_41 ?_
    refine lv_iadd hx hb dX4_multiply_42 ?_
    refine lv_aload_n hx hb dX4_multiply_43 rfl (lv_at hl 0 rfl) ?_
    refine va_get (D := (dC, dI)) (ci := 4) (v := .ref h_shownOfY) (C := RX4) (T := TX4) (N := 13) hx hb hts in_X4 hown hK hP 0 rfl rfl 2 (by decide) hL18 (fun _ h9 => h9) rfl dX4_multiply_44 ?_
    refine lv_iconst (v := (2 : Int32)) hx hb dX4_multiply_47 (by decide) ?_
    obtain ⟨hi_48, hF⟩ := gi_in hF
    refine va_iald hx hb hK hP 3 2 rfl rfl hi_48 dX4_multiply_48 ?_
    refine lv_iadd hx hb dX4_multiply_49 ?_
    refine lv_istore_n (lv' := [(3, .int (((v_shownOfY (0 : Int32).toNatClampNeg) + (v_shownOfY (1 : Int32).toNatClampNeg)) + (v_shownOfY (2 : Int32).toNatClampNeg))), (0, .ref h_this), (1, .int x1), (2, .int y2)]) hx hb dX4_multiply_50 rfl hl (by decide) rfl (fun ls hl => ?_)
    exact k_51 v_shares y2 (((v_shownOfY (0 : Int32).toNatClampNeg) + (v_shownOfY (1 : Int32).toNatClampNeg)) + (v_shownOfY (2 : Int32).toNatClampNeg)) _ _ _ hF hP hD hS (lv_sub hl [1, 2, 3, 0] rfl)
  unfold f_X4_multiply at hF
  refine lv_aload_n hx hb dX4_multiply_0 rfl (lv_at hl 0 rfl) ?_
  refine lv_iload_n hx hb dX4_multiply_1 rfl (lv_at hl 1 rfl) ?_
  obtain ⟨z_2, hz_2, hF⟩ := gi_bind hF
  refine gRi (wc := [(h_this, .inr (4, [.ref h_shares, .ref h_shown, .ref h_shownOfY, .ref h_triple, .ref h_view, .ref h_trial, .ref h_plain, .int v_views, .int v_viewAsNumber, .int v_hand, .int v_modulus, .int v_nextLot, .int v_nextInput])), (h_shares, .inl (k_shares, 48, .inl v_shares))]) (wr := [(h_shown, .inl (k_shown, 3, .inl v_shown)), (h_shownOfY, .inl (k_shownOfY, 3, .inl v_shownOfY)), (h_triple, .inl (k_triple, 9, .inl v_triple))]) (w1 := [(h_this, .inr (4, [.ref h_shares, .ref h_shown, .ref h_shownOfY, .ref h_triple, .ref h_view, .ref h_trial, .ref h_plain, .int v_views, .int v_viewAsNumber, .int v_hand, .int v_modulus, .int v_nextLot, .int v_nextInput])), (h_shares, .inl (k_shares, 48, .inl v_shares))]) hP hD hS hA [0, 1] [2, 3, 4] rfl rfl (by decide) (by decide) (va_runV (As := [.int x1]) (rest := []) CF (t_X4_isPlace l dC dI h_this h_shares h_shown h_shownOfY h_triple h_view h_trial h_plain v_views v_viewAsNumber v_hand v_modulus v_nextLot v_nextInput k_shares v_shares s.heap.size x1 N z_2 hz_2) cw129 (gPV (ci := 4) hP hD hK hN [0, 1] [0] (by decide) rfl rfl (q0 := 0) rfl rfl) rfl rfl hl.1 rfl (lv_room (Nat.le_of_ble_eq_true rfl)) dX4_multiply_2 ⟨Nat.zero_le _, Nat.zero_le _⟩) (fun H locs hP hD hS => ?_)
  have hP : va_P (dC, dI) vwCl [(h_shown, .inl (k_shown, 3, .inl v_shown)), (h_shownOfY, .inl (k_shownOfY, 3, .inl v_shownOfY)), (h_triple, .inl (k_triple, 9, .inl v_triple)), (h_this, .inr (4, [.ref h_shares, .ref h_shown, .ref h_shownOfY, .ref h_triple, .ref h_view, .ref h_trial, .ref h_plain, .int v_views, .int v_viewAsNumber, .int v_hand, .int v_modulus, .int v_nextLot, .int v_nextInput])), (h_shares, .inl (k_shares, 48, .inl v_shares))] H := hP
  have hD : va_D A [(h_shown, .inl (k_shown, 3, .inl v_shown)), (h_shownOfY, .inl (k_shownOfY, 3, .inl v_shownOfY)), (h_triple, .inl (k_triple, 9, .inl v_triple)), (h_this, .inr (4, [.ref h_shares, .ref h_shown, .ref h_shownOfY, .ref h_triple, .ref h_view, .ref h_trial, .ref h_plain, .int v_views, .int v_viewAsNumber, .int v_hand, .int v_modulus, .int v_nextLot, .int v_nextInput])), (h_shares, .inl (k_shares, 48, .inl v_shares))] := hD
  refine lv_if_ne (tgt := 9) hx hb dX4_multiply_5 (by decide) (fun c_5 => ?_) (fun c_5 => ?_)
  · have hF := gi_f c_5 hF
    refine lv_aload_n hx hb dX4_multiply_9 rfl (lv_at hl 0 rfl) ?_
    refine va_get (D := (dC, dI)) (ci := 4) (v := .ref h_shown) (C := RX4) (T := TX4) (N := 13) hx hb hts in_X4 hown hK hP 3 rfl rfl 1 (by decide) hL15 (fun _ h9 => h9) rfl dX4_multiply_10 ?_
    refine lv_iconst (v := (0 : Int32)) hx hb dX4_multiply_13 (by decide) ?_
    obtain ⟨hi_14, hF⟩ := gi_in hF
    refine va_iald hx hb hK hP 0 1 rfl rfl hi_14 dX4_multiply_14 ?_
    refine lv_aload_n hx hb dX4_multiply_15 rfl (lv_at hl 0 rfl) ?_
    refine va_get (D := (dC, dI)) (ci := 4) (v := .ref h_shown) (C := RX4) (T := TX4) (N := 13) hx hb hts in_X4 hown hK hP 3 rfl rfl 1 (by decide) hL15 (fun _ h9 => h9) rfl dX4_multiply_16 ?_
    refine lv_iconst (v := (1 : Int32)) hx hb dX4_multiply_19 (by decide) ?_
    obtain ⟨hi_20, hF⟩ := gi_in hF
    refine va_iald hx hb hK hP 0 1 rfl rfl hi_20 dX4_multiply_20 ?_
    refine lv_iadd hx hb dX4_multiply_21 ?_
    refine lv_aload_n hx hb dX4_multiply_22 rfl (lv_at hl 0 rfl) ?_
    refine va_get (D := (dC, dI)) (ci := 4) (v := .ref h_shown) (C := RX4) (T := TX4) (N := 13) hx hb hts in_X4 hown hK hP 3 rfl rfl 1 (by decide) hL15 (fun _ h9 => h9) rfl dX4_multiply_23 ?_
    refine lv_iconst (v := (2 : Int32)) hx hb dX4_multiply_26 (by decide) ?_
    obtain ⟨hi_27, hF⟩ := gi_in hF
    refine va_iald hx hb hK hP 0 1 rfl rfl hi_27 dX4_multiply_27 ?_
    refine lv_iadd hx hb dX4_multiply_28 ?_
    refine lv_istore_n (lv' := [(2, .int (((v_shown (0 : Int32).toNatClampNeg) + (v_shown (1 : Int32).toNatClampNeg)) + (v_shown (2 : Int32).toNatClampNeg))), (0, .ref h_this), (1, .int x1)]) hx hb dX4_multiply_29 rfl hl (by decide) rfl (fun ls hl => ?_)
    exact k_30 v_shares (((v_shown (0 : Int32).toNatClampNeg) + (v_shown (1 : Int32).toNatClampNeg)) + (v_shown (2 : Int32).toNatClampNeg)) _ _ _ hF (hP.sub [3, 4, 0, 1, 2] rfl) (hD.sub [3, 4, 0, 1, 2] (by decide) rfl) hS (lv_sub hl [1, 2, 0] rfl)
  · have hF := gi_t c_5 hF
    have hF := Option.some.inj hF
    subst hF
    exact hret _ _ _ _ dX4_multiply_8 (hP.sub [3, 4, 0, 1, 2] rfl) (hD.sub [3, 4, 0, 1, 2] (by decide) rfl) hS
abbrev O_X4_endShown : Type := Int32
def f_X4_endShown (N : Nat) (v_modulus : Int32) (v_shown : Nat → Int32) : Option O_X4_endShown :=
  (f_X9_at N v_shown 3 (0 : Int32)).bind (fun z_5 => (f_X9_at N v_shown 3 (1 : Int32)).bind (fun z_13 => (f_X9_at N v_shown 3 (2 : Int32)).bind (fun z_22 => (f_X9_mod N ((z_5 + z_13) + z_22) v_modulus).bind (fun z_30 => some (z_30)))))
set_option maxHeartbeats 4000000 in
set_option maxRecDepth 100000 in
theorem t_X4_endShown (l : Launch) (dC : Nat → ClassId) (dI : Nat → Nat → Nat) (h_this : Nat) (h_shares : Nat) (h_shown : Nat) (h_shownOfY : Nat) (h_triple : Nat) (h_view : Nat) (h_trial : Nat) (h_plain : Nat) (v_views : Int32) (v_viewAsNumber : Int32) (v_hand : Int32) (v_modulus : Int32) (v_nextLot : Int32) (v_nextInput : Int32) (k_shown : ClassId) (v_shown : Nat → Int32) (sz : Nat) (N : Nat) (out : O_X4_endShown) (hF : f_X4_endShown N v_modulus v_shown = some out) : gMi l yX4_endShown wsX4_endShown ({ frames := 1, cells := 0, slots := 0, locals := 22 } : Room) [.ref h_this] (dC, dI) [(h_this, .inr (4, [.ref h_shares, .ref h_shown, .ref h_shownOfY, .ref h_triple, .ref h_view, .ref h_trial, .ref h_plain, .int v_views, .int v_viewAsNumber, .int v_hand, .int v_modulus, .int v_nextLot, .int v_nextInput])), (h_shown, .inl (k_shown, 3, .inl v_shown))] [(k_shown, .int)] sz [(h_this, .inr (4, [.ref h_shares, .ref h_shown, .ref h_shownOfY, .ref h_triple, .ref h_view, .ref h_trial, .ref h_plain, .int v_views, .int v_viewAsNumber, .int v_hand, .int v_modulus, .int v_nextLot, .int v_nextInput])), (h_shown, .inl (k_shown, 3, .inl v_shown))] out := by
  refine gEi (cc := cX4_endShown) (maxL := 1) (by decide) rfl (Nat.le_of_ble_eq_true rfl) ?_
  intro p e s m args below meth c Q A ls CF hK hN hA hret hP hD hS hl
  have hx := CF.1
  have hb := CF.2.1
  have hml := CF.2.2.1
  have hown : s.vm.findClass RX4 = some m.cls := CF.2.2.2.1
  have hts := CF.2.2.2.2
  have hl : lv_has ls 1 [(0, .ref h_this)] := hl
  have in_X4 : ∀ w ∈ wsX40, w ∈ wsX4_endShown := fun w h => List.mem_cons_of_mem _ (List.mem_append_right _ h)
  have hL15 : (Cond.fieldLink RX4 15 "DustSums$Run" "shown" "[I").before args s = true := hts (.fieldLink RX4 15 "DustSums$Run" "shown" "[I") (List.mem_of_getElem? (i := 1) rfl)
  have nm114 : va_Nw (.methodLinkNest RX4 114 yX9_at "DustSums") s := hN.2 (RX4, 114, yX9_at, "DustSums") (by decide +kernel)
  have cw114 : va_CN ({ frames := 1, cells := 0, slots := 0, locals := 22 } : Room) s args RX4 114 yX9_at "DustSums" cX9_at 2 (some .int) wsX9_at ({ frames := 0, cells := 0, slots := 0, locals := 0 } : Room) 0 0 2 ∧ (Cond.static yX9_at).before args s = true ∧ True := ⟨va_cnB 2 hts gX4_endShown_X9_at_n114 rfl rfl rfl nm114 (hts (.initialized RX9) (List.mem_of_getElem? (i := 4) rfl)) (by decide +kernel) ⟨Nat.le_of_ble_eq_true rfl, Nat.le_of_ble_eq_true rfl⟩, hts (.static yX9_at) (List.mem_of_getElem? (i := 3) rfl), trivial⟩
  have hL52 : (Cond.fieldLink RX4 52 "DustSums$Run" "modulus" "I").before args s = true := hts (.fieldLink RX4 52 "DustSums$Run" "modulus" "I") (List.mem_of_getElem? (i := 2) rfl)
  have nm118 : va_Nw (.methodLinkNest RX4 118 yX9_mod "DustSums") s := hN.2 (RX4, 118, yX9_mod, "DustSums") (by decide +kernel)
  have cw118 : va_CN ({ frames := 1, cells := 0, slots := 0, locals := 22 } : Room) s args RX4 118 yX9_mod "DustSums" cX9_mod 3 (some .int) wsX9_mod ({ frames := 0, cells := 0, slots := 0, locals := 0 } : Room) 0 0 2 ∧ (Cond.static yX9_mod).before args s = true ∧ True := ⟨va_cnB 2 hts gX4_endShown_X9_mod_n118 rfl rfl rfl nm118 (hts (.initialized RX9) (List.mem_of_getElem? (i := 4) rfl)) (by decide +kernel) ⟨Nat.le_of_ble_eq_true rfl, Nat.le_of_ble_eq_true rfl⟩, hts (.static yX9_mod) (List.mem_of_getElem? (i := 6) rfl), trivial⟩
  unfold f_X4_endShown at hF
  refine lv_aload_n hx hb dX4_endShown_0 rfl (lv_at hl 0 rfl) ?_
  refine va_get (D := (dC, dI)) (ci := 4) (v := .ref h_shown) (C := RX4) (T := TX4) (N := 13) hx hb hts in_X4 hown hK hP 0 rfl rfl 1 (by decide) hL15 (fun _ h9 => h9) rfl dX4_endShown_1 ?_
  refine lv_iconst (v := (0 : Int32)) hx hb dX4_endShown_4 (by decide) ?_
  obtain ⟨z_5, hz_5, hF⟩ := gi_bind hF
  refine gRi (wc := [(h_shown, .inl (k_shown, 3, .inl v_shown))]) (wr := [(h_this, .inr (4, [.ref h_shares, .ref h_shown, .ref h_shownOfY, .ref h_triple, .ref h_view, .ref h_trial, .ref h_plain, .int v_views, .int v_viewAsNumber, .int v_hand, .int v_modulus, .int v_nextLot, .int v_nextInput]))]) (w1 := [(h_shown, .inl (k_shown, 3, .inl v_shown))]) hP hD hS hA [1] [0] rfl rfl (by decide) (by decide) (va_runSN (As := [.ref h_shown, .int (0 : Int32)]) (rest := []) CF (t_X9_at l dC dI h_shown k_shown 3 v_shown s.heap.size (0 : Int32) N z_5 hz_5) cw114 (gPS hP hD hK hN [1] [0] (by decide) rfl rfl) rfl rfl hl.1 rfl (lv_room (Nat.le_of_ble_eq_true rfl)) dX4_endShown_5 ⟨Nat.zero_le _, Nat.zero_le _⟩) (fun H locs hP hD hS => ?_)
  have hP : va_P (dC, dI) vwCl [(h_this, .inr (4, [.ref h_shares, .ref h_shown, .ref h_shownOfY, .ref h_triple, .ref h_view, .ref h_trial, .ref h_plain, .int v_views, .int v_viewAsNumber, .int v_hand, .int v_modulus, .int v_nextLot, .int v_nextInput])), (h_shown, .inl (k_shown, 3, .inl v_shown))] H := hP
  have hD : va_D A [(h_this, .inr (4, [.ref h_shares, .ref h_shown, .ref h_shownOfY, .ref h_triple, .ref h_view, .ref h_trial, .ref h_plain, .int v_views, .int v_viewAsNumber, .int v_hand, .int v_modulus, .int v_nextLot, .int v_nextInput])), (h_shown, .inl (k_shown, 3, .inl v_shown))] := hD
  refine lv_aload_n hx hb dX4_endShown_8 rfl (lv_at hl 0 rfl) ?_
  refine va_get (D := (dC, dI)) (ci := 4) (v := .ref h_shown) (C := RX4) (T := TX4) (N := 13) hx hb hts in_X4 hown hK hP 0 rfl rfl 1 (by decide) hL15 (fun _ h9 => h9) rfl dX4_endShown_9 ?_
  refine lv_iconst (v := (1 : Int32)) hx hb dX4_endShown_12 (by decide) ?_
  obtain ⟨z_13, hz_13, hF⟩ := gi_bind hF
  refine gRi (wc := [(h_shown, .inl (k_shown, 3, .inl v_shown))]) (wr := [(h_this, .inr (4, [.ref h_shares, .ref h_shown, .ref h_shownOfY, .ref h_triple, .ref h_view, .ref h_trial, .ref h_plain, .int v_views, .int v_viewAsNumber, .int v_hand, .int v_modulus, .int v_nextLot, .int v_nextInput]))]) (w1 := [(h_shown, .inl (k_shown, 3, .inl v_shown))]) hP hD hS hA [1] [0] rfl rfl (by decide) (by decide) (va_runSN (As := [.ref h_shown, .int (1 : Int32)]) (rest := [.int z_5]) CF (t_X9_at l dC dI h_shown k_shown 3 v_shown H.size (1 : Int32) N z_13 hz_13) cw114 (gPS hP hD hK hN [1] [0] (by decide) rfl rfl) rfl rfl hl.1 rfl (lv_room (Nat.le_of_ble_eq_true rfl)) dX4_endShown_13 ⟨Nat.zero_le _, Nat.zero_le _⟩) (fun H locs hP hD hS => ?_)
  have hP : va_P (dC, dI) vwCl [(h_this, .inr (4, [.ref h_shares, .ref h_shown, .ref h_shownOfY, .ref h_triple, .ref h_view, .ref h_trial, .ref h_plain, .int v_views, .int v_viewAsNumber, .int v_hand, .int v_modulus, .int v_nextLot, .int v_nextInput])), (h_shown, .inl (k_shown, 3, .inl v_shown))] H := hP
  have hD : va_D A [(h_this, .inr (4, [.ref h_shares, .ref h_shown, .ref h_shownOfY, .ref h_triple, .ref h_view, .ref h_trial, .ref h_plain, .int v_views, .int v_viewAsNumber, .int v_hand, .int v_modulus, .int v_nextLot, .int v_nextInput])), (h_shown, .inl (k_shown, 3, .inl v_shown))] := hD
  refine lv_iadd hx hb dX4_endShown_16 ?_
  refine lv_aload_n hx hb dX4_endShown_17 rfl (lv_at hl 0 rfl) ?_
  refine va_get (D := (dC, dI)) (ci := 4) (v := .ref h_shown) (C := RX4) (T := TX4) (N := 13) hx hb hts in_X4 hown hK hP 0 rfl rfl 1 (by decide) hL15 (fun _ h9 => h9) rfl dX4_endShown_18 ?_
  refine lv_iconst (v := (2 : Int32)) hx hb dX4_endShown_21 (by decide) ?_
  obtain ⟨z_22, hz_22, hF⟩ := gi_bind hF
  refine gRi (wc := [(h_shown, .inl (k_shown, 3, .inl v_shown))]) (wr := [(h_this, .inr (4, [.ref h_shares, .ref h_shown, .ref h_shownOfY, .ref h_triple, .ref h_view, .ref h_trial, .ref h_plain, .int v_views, .int v_viewAsNumber, .int v_hand, .int v_modulus, .int v_nextLot, .int v_nextInput]))]) (w1 := [(h_shown, .inl (k_shown, 3, .inl v_shown))]) hP hD hS hA [1] [0] rfl rfl (by decide) (by decide) (va_runSN (As := [.ref h_shown, .int (2 : Int32)]) (rest := [.int (z_5 + z_13)]) CF (t_X9_at l dC dI h_shown k_shown 3 v_shown H.size (2 : Int32) N z_22 hz_22) cw114 (gPS hP hD hK hN [1] [0] (by decide) rfl rfl) rfl rfl hl.1 rfl (lv_room (Nat.le_of_ble_eq_true rfl)) dX4_endShown_22 ⟨Nat.zero_le _, Nat.zero_le _⟩) (fun H locs hP hD hS => ?_)
  have hP : va_P (dC, dI) vwCl [(h_this, .inr (4, [.ref h_shares, .ref h_shown, .ref h_shownOfY, .ref h_triple, .ref h_view, .ref h_trial, .ref h_plain, .int v_views, .int v_viewAsNumber, .int v_hand, .int v_modulus, .int v_nextLot, .int v_nextInput])), (h_shown, .inl (k_shown, 3, .inl v_shown))] H := hP
  have hD : va_D A [(h_this, .inr (4, [.ref h_shares, .ref h_shown, .ref h_shownOfY, .ref h_triple, .ref h_view, .ref h_trial, .ref h_plain, .int v_views, .int v_viewAsNumber, .int v_hand, .int v_modulus, .int v_nextLot, .int v_nextInput])), (h_shown, .inl (k_shown, 3, .inl v_shown))] := hD
  refine lv_iadd hx hb dX4_endShown_25 ?_
  refine lv_aload_n hx hb dX4_endShown_26 rfl (lv_at hl 0 rfl) ?_
  refine va_get (D := (dC, dI)) (ci := 4) (v := .int v_modulus) (C := RX4) (T := TX4) (N := 13) hx hb hts in_X4 hown hK hP 0 rfl rfl 10 (by decide) hL52 (fun _ h9 => h9) rfl dX4_endShown_27 ?_
  obtain ⟨z_30, hz_30, hF⟩ := gi_bind hF
  refine gRi (wc := []) (wr := [(h_this, .inr (4, [.ref h_shares, .ref h_shown, .ref h_shownOfY, .ref h_triple, .ref h_view, .ref h_trial, .ref h_plain, .int v_views, .int v_viewAsNumber, .int v_hand, .int v_modulus, .int v_nextLot, .int v_nextInput])), (h_shown, .inl (k_shown, 3, .inl v_shown))]) (w1 := []) hP hD hS hA [] [0, 1] rfl rfl (by decide) (by decide) (va_runSN (As := [.int ((z_5 + z_13) + z_22), .int v_modulus]) (rest := []) CF (t_X9_mod l dC dI H.size ((z_5 + z_13) + z_22) v_modulus N z_30 hz_30) cw118 (gPS hP hD hK hN [] [] (by decide) rfl rfl) rfl rfl hl.1 rfl (lv_room (Nat.le_of_ble_eq_true rfl)) dX4_endShown_30 ⟨Nat.zero_le _, Nat.zero_le _⟩) (fun H locs hP hD hS => ?_)
  have hP : va_P (dC, dI) vwCl [(h_this, .inr (4, [.ref h_shares, .ref h_shown, .ref h_shownOfY, .ref h_triple, .ref h_view, .ref h_trial, .ref h_plain, .int v_views, .int v_viewAsNumber, .int v_hand, .int v_modulus, .int v_nextLot, .int v_nextInput])), (h_shown, .inl (k_shown, 3, .inl v_shown))] H := hP
  have hD : va_D A [(h_this, .inr (4, [.ref h_shares, .ref h_shown, .ref h_shownOfY, .ref h_triple, .ref h_view, .ref h_trial, .ref h_plain, .int v_views, .int v_viewAsNumber, .int v_hand, .int v_modulus, .int v_nextLot, .int v_nextInput])), (h_shown, .inl (k_shown, 3, .inl v_shown))] := hD
  have hF := Option.some.inj hF
  subst hF
  exact hret _ _ _ _ dX4_endShown_33 hP hD hS
abbrev O_X4_shareOf : Type := Int32
def f_X4_shareOf (N : Nat) (v_shares : Nat → Int32) (x1 : Int32) (x2 : Int32) : Option O_X4_shareOf :=
  (f_X9_at N v_shares 48 ((x1 * (3 : Int32)) + x2)).bind (fun z_9 => some (z_9))
set_option maxHeartbeats 4000000 in
set_option maxRecDepth 100000 in
theorem t_X4_shareOf (l : Launch) (dC : Nat → ClassId) (dI : Nat → Nat → Nat) (h_this : Nat) (h_shares : Nat) (h_shown : Nat) (h_shownOfY : Nat) (h_triple : Nat) (h_view : Nat) (h_trial : Nat) (h_plain : Nat) (v_views : Int32) (v_viewAsNumber : Int32) (v_hand : Int32) (v_modulus : Int32) (v_nextLot : Int32) (v_nextInput : Int32) (k_shares : ClassId) (v_shares : Nat → Int32) (sz : Nat) (x1 : Int32) (x2 : Int32) (N : Nat) (out : O_X4_shareOf) (hF : f_X4_shareOf N v_shares x1 x2 = some out) : gMi l yX4_shareOf wsX4_shareOf ({ frames := 1, cells := 0, slots := 0, locals := 21 } : Room) [.ref h_this, .int x1, .int x2] (dC, dI) [(h_this, .inr (4, [.ref h_shares, .ref h_shown, .ref h_shownOfY, .ref h_triple, .ref h_view, .ref h_trial, .ref h_plain, .int v_views, .int v_viewAsNumber, .int v_hand, .int v_modulus, .int v_nextLot, .int v_nextInput])), (h_shares, .inl (k_shares, 48, .inl v_shares))] [(k_shares, .int)] sz [(h_this, .inr (4, [.ref h_shares, .ref h_shown, .ref h_shownOfY, .ref h_triple, .ref h_view, .ref h_trial, .ref h_plain, .int v_views, .int v_viewAsNumber, .int v_hand, .int v_modulus, .int v_nextLot, .int v_nextInput])), (h_shares, .inl (k_shares, 48, .inl v_shares))] out := by
  refine gEi (cc := cX4_shareOf) (maxL := 3) (by decide) rfl (Nat.le_of_ble_eq_true rfl) ?_
  intro p e s m args below meth c Q A ls CF hK hN hA hret hP hD hS hl
  have hx := CF.1
  have hb := CF.2.1
  have hml := CF.2.2.1
  have hown : s.vm.findClass RX4 = some m.cls := CF.2.2.2.1
  have hts := CF.2.2.2.2
  have hl : lv_has ls 3 [(0, .ref h_this), (1, .int x1), (2, .int x2)] := hl
  have in_X4 : ∀ w ∈ wsX40, w ∈ wsX4_shareOf := fun w h => List.mem_cons_of_mem _ (List.mem_append_right _ h)
  have hL9 : (Cond.fieldLink RX4 9 "DustSums$Run" "shares" "[I").before args s = true := hts (.fieldLink RX4 9 "DustSums$Run" "shares" "[I") (List.mem_of_getElem? (i := 1) rfl)
  have nm114 : va_Nw (.methodLinkNest RX4 114 yX9_at "DustSums") s := hN.2 (RX4, 114, yX9_at, "DustSums") (by decide +kernel)
  have cw114 : va_CN ({ frames := 1, cells := 0, slots := 0, locals := 21 } : Room) s args RX4 114 yX9_at "DustSums" cX9_at 2 (some .int) wsX9_at ({ frames := 0, cells := 0, slots := 0, locals := 0 } : Room) 0 0 2 ∧ (Cond.static yX9_at).before args s = true ∧ True := ⟨va_cnB 2 hts gX4_shareOf_X9_at_n114 rfl rfl rfl nm114 (hts (.initialized RX9) (List.mem_of_getElem? (i := 3) rfl)) (by decide +kernel) ⟨Nat.le_of_ble_eq_true rfl, Nat.le_of_ble_eq_true rfl⟩, hts (.static yX9_at) (List.mem_of_getElem? (i := 2) rfl), trivial⟩
  unfold f_X4_shareOf at hF
  refine lv_aload_n hx hb dX4_shareOf_0 rfl (lv_at hl 0 rfl) ?_
  refine va_get (D := (dC, dI)) (ci := 4) (v := .ref h_shares) (C := RX4) (T := TX4) (N := 13) hx hb hts in_X4 hown hK hP 0 rfl rfl 0 (by decide) hL9 (fun _ h9 => h9) rfl dX4_shareOf_1 ?_
  refine lv_iload_n hx hb dX4_shareOf_4 rfl (lv_at hl 1 rfl) ?_
  refine lv_iconst (v := (3 : Int32)) hx hb dX4_shareOf_5 (by decide) ?_
  refine lv_imul hx hb dX4_shareOf_6 ?_
  refine lv_iload_n hx hb dX4_shareOf_7 rfl (lv_at hl 2 rfl) ?_
  refine lv_iadd hx hb dX4_shareOf_8 ?_
  obtain ⟨z_9, hz_9, hF⟩ := gi_bind hF
  refine gRi (wc := [(h_shares, .inl (k_shares, 48, .inl v_shares))]) (wr := [(h_this, .inr (4, [.ref h_shares, .ref h_shown, .ref h_shownOfY, .ref h_triple, .ref h_view, .ref h_trial, .ref h_plain, .int v_views, .int v_viewAsNumber, .int v_hand, .int v_modulus, .int v_nextLot, .int v_nextInput]))]) (w1 := [(h_shares, .inl (k_shares, 48, .inl v_shares))]) hP hD hS hA [1] [0] rfl rfl (by decide) (by decide) (va_runSN (As := [.ref h_shares, .int ((x1 * (3 : Int32)) + x2)]) (rest := []) CF (t_X9_at l dC dI h_shares k_shares 48 v_shares s.heap.size ((x1 * (3 : Int32)) + x2) N z_9 hz_9) cw114 (gPS hP hD hK hN [1] [0] (by decide) rfl rfl) rfl rfl hl.1 rfl (lv_room (Nat.le_of_ble_eq_true rfl)) dX4_shareOf_9 ⟨Nat.zero_le _, Nat.zero_le _⟩) (fun H locs hP hD hS => ?_)
  have hP : va_P (dC, dI) vwCl [(h_this, .inr (4, [.ref h_shares, .ref h_shown, .ref h_shownOfY, .ref h_triple, .ref h_view, .ref h_trial, .ref h_plain, .int v_views, .int v_viewAsNumber, .int v_hand, .int v_modulus, .int v_nextLot, .int v_nextInput])), (h_shares, .inl (k_shares, 48, .inl v_shares))] H := hP
  have hD : va_D A [(h_this, .inr (4, [.ref h_shares, .ref h_shown, .ref h_shownOfY, .ref h_triple, .ref h_view, .ref h_trial, .ref h_plain, .int v_views, .int v_viewAsNumber, .int v_hand, .int v_modulus, .int v_nextLot, .int v_nextInput])), (h_shares, .inl (k_shares, 48, .inl v_shares))] := hD
  have hF := Option.some.inj hF
  subst hF
  exact hret _ _ _ _ dX4_shareOf_12 hP hD hS
abbrev O_X6_inputIn : Type := Int32
def f_X6_inputIn (N : Nat) (v_modulus : Int32) (v_inputs : Nat → Int32) (x1 : Int32) (x2 : Int32) : Option O_X6_inputIn :=
  (f_X9_at N v_inputs 8 ((x1 * (4 : Int32)) + x2)).bind (fun z_9 => (f_X9_mod N z_9 v_modulus).bind (fun z_16 => some (z_16)))
set_option maxHeartbeats 4000000 in
set_option maxRecDepth 100000 in
theorem t_X6_inputIn (l : Launch) (dC : Nat → ClassId) (dI : Nat → Nat → Nat) (h_this : Nat) (h_program : Nat) (h_inputs : Nat) (h_lots : Nat) (h_lies : Nat) (v_lieCount : Int32) (v_modulus : Int32) (k_inputs : ClassId) (v_inputs : Nat → Int32) (sz : Nat) (x1 : Int32) (x2 : Int32) (N : Nat) (out : O_X6_inputIn) (hF : f_X6_inputIn N v_modulus v_inputs x1 x2 = some out) : gMi l yX6_inputIn wsX6_inputIn ({ frames := 1, cells := 0, slots := 0, locals := 22 } : Room) [.ref h_this, .int x1, .int x2] (dC, dI) [(h_this, .inr (6, [.ref h_program, .ref h_inputs, .ref h_lots, .ref h_lies, .int v_lieCount, .int v_modulus])), (h_inputs, .inl (k_inputs, 8, .inl v_inputs))] [(k_inputs, .int)] sz [(h_this, .inr (6, [.ref h_program, .ref h_inputs, .ref h_lots, .ref h_lies, .int v_lieCount, .int v_modulus])), (h_inputs, .inl (k_inputs, 8, .inl v_inputs))] out := by
  refine gEi (cc := cX6_inputIn) (maxL := 3) (by decide) rfl (Nat.le_of_ble_eq_true rfl) ?_
  intro p e s m args below meth c Q A ls CF hK hN hA hret hP hD hS hl
  have hx := CF.1
  have hb := CF.2.1
  have hml := CF.2.2.1
  have hown : s.vm.findClass RX6 = some m.cls := CF.2.2.2.1
  have hts := CF.2.2.2.2
  have hl : lv_has ls 3 [(0, .ref h_this), (1, .int x1), (2, .int x2)] := hl
  have in_X6 : ∀ w ∈ wsX60, w ∈ wsX6_inputIn := fun w h => List.mem_cons_of_mem _ (List.mem_append_right _ h)
  have hL18 : (Cond.fieldLink RX6 18 "DustSums$Task" "inputs" "[I").before args s = true := hts (.fieldLink RX6 18 "DustSums$Task" "inputs" "[I") (List.mem_of_getElem? (i := 1) rfl)
  have nm47 : va_Nw (.methodLinkNest RX6 47 yX9_at "DustSums") s := hN.2 (RX6, 47, yX9_at, "DustSums") (by decide +kernel)
  have cw47 : va_CN ({ frames := 1, cells := 0, slots := 0, locals := 22 } : Room) s args RX6 47 yX9_at "DustSums" cX9_at 2 (some .int) wsX9_at ({ frames := 0, cells := 0, slots := 0, locals := 0 } : Room) 0 0 2 ∧ (Cond.static yX9_at).before args s = true ∧ True := ⟨va_cnB 2 hts gX6_inputIn_X9_at_n47 rfl rfl rfl nm47 (hts (.initialized RX9) (List.mem_of_getElem? (i := 4) rfl)) (by decide +kernel) ⟨Nat.le_of_ble_eq_true rfl, Nat.le_of_ble_eq_true rfl⟩, hts (.static yX9_at) (List.mem_of_getElem? (i := 3) rfl), trivial⟩
  have hL28 : (Cond.fieldLink RX6 28 "DustSums$Task" "modulus" "I").before args s = true := hts (.fieldLink RX6 28 "DustSums$Task" "modulus" "I") (List.mem_of_getElem? (i := 2) rfl)
  have nm58 : va_Nw (.methodLinkNest RX6 58 yX9_mod "DustSums") s := hN.2 (RX6, 58, yX9_mod, "DustSums") (by decide +kernel)
  have cw58 : va_CN ({ frames := 1, cells := 0, slots := 0, locals := 22 } : Room) s args RX6 58 yX9_mod "DustSums" cX9_mod 3 (some .int) wsX9_mod ({ frames := 0, cells := 0, slots := 0, locals := 0 } : Room) 0 0 2 ∧ (Cond.static yX9_mod).before args s = true ∧ True := ⟨va_cnB 2 hts gX6_inputIn_X9_mod_n58 rfl rfl rfl nm58 (hts (.initialized RX9) (List.mem_of_getElem? (i := 4) rfl)) (by decide +kernel) ⟨Nat.le_of_ble_eq_true rfl, Nat.le_of_ble_eq_true rfl⟩, hts (.static yX9_mod) (List.mem_of_getElem? (i := 6) rfl), trivial⟩
  unfold f_X6_inputIn at hF
  refine lv_aload_n hx hb dX6_inputIn_0 rfl (lv_at hl 0 rfl) ?_
  refine va_get (D := (dC, dI)) (ci := 6) (v := .ref h_inputs) (C := RX6) (T := TX6) (N := 6) hx hb hts in_X6 hown hK hP 0 rfl rfl 1 (by decide) hL18 (fun _ h9 => h9) rfl dX6_inputIn_1 ?_
  refine lv_iload_n hx hb dX6_inputIn_4 rfl (lv_at hl 1 rfl) ?_
  refine lv_iconst (v := (4 : Int32)) hx hb dX6_inputIn_5 (by decide) ?_
  refine lv_imul hx hb dX6_inputIn_6 ?_
  refine lv_iload_n hx hb dX6_inputIn_7 rfl (lv_at hl 2 rfl) ?_
  refine lv_iadd hx hb dX6_inputIn_8 ?_
  obtain ⟨z_9, hz_9, hF⟩ := gi_bind hF
  refine gRi (wc := [(h_inputs, .inl (k_inputs, 8, .inl v_inputs))]) (wr := [(h_this, .inr (6, [.ref h_program, .ref h_inputs, .ref h_lots, .ref h_lies, .int v_lieCount, .int v_modulus]))]) (w1 := [(h_inputs, .inl (k_inputs, 8, .inl v_inputs))]) hP hD hS hA [1] [0] rfl rfl (by decide) (by decide) (va_runSN (As := [.ref h_inputs, .int ((x1 * (4 : Int32)) + x2)]) (rest := []) CF (t_X9_at l dC dI h_inputs k_inputs 8 v_inputs s.heap.size ((x1 * (4 : Int32)) + x2) N z_9 hz_9) cw47 (gPS hP hD hK hN [1] [0] (by decide) rfl rfl) rfl rfl hl.1 rfl (lv_room (Nat.le_of_ble_eq_true rfl)) dX6_inputIn_9 ⟨Nat.zero_le _, Nat.zero_le _⟩) (fun H locs hP hD hS => ?_)
  have hP : va_P (dC, dI) vwCl [(h_this, .inr (6, [.ref h_program, .ref h_inputs, .ref h_lots, .ref h_lies, .int v_lieCount, .int v_modulus])), (h_inputs, .inl (k_inputs, 8, .inl v_inputs))] H := hP
  have hD : va_D A [(h_this, .inr (6, [.ref h_program, .ref h_inputs, .ref h_lots, .ref h_lies, .int v_lieCount, .int v_modulus])), (h_inputs, .inl (k_inputs, 8, .inl v_inputs))] := hD
  refine lv_aload_n hx hb dX6_inputIn_12 rfl (lv_at hl 0 rfl) ?_
  refine va_get (D := (dC, dI)) (ci := 6) (v := .int v_modulus) (C := RX6) (T := TX6) (N := 6) hx hb hts in_X6 hown hK hP 0 rfl rfl 5 (by decide) hL28 (fun _ h9 => h9) rfl dX6_inputIn_13 ?_
  obtain ⟨z_16, hz_16, hF⟩ := gi_bind hF
  refine gRi (wc := []) (wr := [(h_this, .inr (6, [.ref h_program, .ref h_inputs, .ref h_lots, .ref h_lies, .int v_lieCount, .int v_modulus])), (h_inputs, .inl (k_inputs, 8, .inl v_inputs))]) (w1 := []) hP hD hS hA [] [0, 1] rfl rfl (by decide) (by decide) (va_runSN (As := [.int z_9, .int v_modulus]) (rest := []) CF (t_X9_mod l dC dI H.size z_9 v_modulus N z_16 hz_16) cw58 (gPS hP hD hK hN [] [] (by decide) rfl rfl) rfl rfl hl.1 rfl (lv_room (Nat.le_of_ble_eq_true rfl)) dX6_inputIn_16 ⟨Nat.zero_le _, Nat.zero_le _⟩) (fun H locs hP hD hS => ?_)
  have hP : va_P (dC, dI) vwCl [(h_this, .inr (6, [.ref h_program, .ref h_inputs, .ref h_lots, .ref h_lies, .int v_lieCount, .int v_modulus])), (h_inputs, .inl (k_inputs, 8, .inl v_inputs))] H := hP
  have hD : va_D A [(h_this, .inr (6, [.ref h_program, .ref h_inputs, .ref h_lots, .ref h_lies, .int v_lieCount, .int v_modulus])), (h_inputs, .inl (k_inputs, 8, .inl v_inputs))] := hD
  have hF := Option.some.inj hF
  subst hF
  exact hret _ _ _ _ dX6_inputIn_19 hP hD hS
abbrev O_X6_rowsAreAlike : Type := Int32
def s_X6_rowsAreAlike_2 (N : Nat) (v_modulus : Int32) (v_program_inputs : Int32) (v_inputs : Nat → Int32) (r_2 : Int32 → Option O_X6_rowsAreAlike) (y1 : Int32) : Option O_X6_rowsAreAlike :=
  if v_program_inputs ≤ y1 then (some ((1 : Int32))) else ((f_X6_inputIn N v_modulus v_inputs (0 : Int32) y1).bind (fun z_16 => (f_X6_inputIn N v_modulus v_inputs (1 : Int32) y1).bind (fun z_22 => if z_16 = z_22 then (r_2 (y1 + 1)) else (some ((0 : Int32))))))
def f_X6_rowsAreAlike_2 (N : Nat) (v_modulus : Int32) (v_program_inputs : Int32) (v_inputs : Nat → Int32) (n : Nat) : Int32 → Option O_X6_rowsAreAlike := lpg (fun _ => none) (s_X6_rowsAreAlike_2 N v_modulus v_program_inputs v_inputs) n
def f_X6_rowsAreAlike (N : Nat) (v_modulus : Int32) (v_program_inputs : Int32) (v_inputs : Nat → Int32) : Option O_X6_rowsAreAlike :=
  f_X6_rowsAreAlike_2 N v_modulus v_program_inputs v_inputs N (0 : Int32)
set_option maxHeartbeats 4000000 in
set_option maxRecDepth 100000 in
theorem t_X6_rowsAreAlike (l : Launch) (dC : Nat → ClassId) (dI : Nat → Nat → Nat) (h_this : Nat) (h_program : Nat) (h_inputs : Nat) (h_lots : Nat) (h_lies : Nat) (v_lieCount : Int32) (v_modulus : Int32) (h_program_cells : Nat) (h_program_depths : Nat) (v_program_became : Int32) (v_program_items : Int32) (v_program_inputs : Int32) (v_program_muls : Int32) (k_inputs : ClassId) (v_inputs : Nat → Int32) (sz : Nat) (N : Nat) (out : O_X6_rowsAreAlike) (hF : f_X6_rowsAreAlike N v_modulus v_program_inputs v_inputs = some out) : gMi l yX6_rowsAreAlike wsX6_rowsAreAlike ({ frames := 2, cells := 0, slots := 0, locals := 44 } : Room) [.ref h_this] (dC, dI) [(h_this, .inr (6, [.ref h_program, .ref h_inputs, .ref h_lots, .ref h_lies, .int v_lieCount, .int v_modulus])), (h_program, .inr (2, [.ref h_program_cells, .ref h_program_depths, .int v_program_became, .int v_program_items, .int v_program_inputs, .int v_program_muls])), (h_inputs, .inl (k_inputs, 8, .inl v_inputs))] [(k_inputs, .int)] sz [(h_this, .inr (6, [.ref h_program, .ref h_inputs, .ref h_lots, .ref h_lies, .int v_lieCount, .int v_modulus])), (h_program, .inr (2, [.ref h_program_cells, .ref h_program_depths, .int v_program_became, .int v_program_items, .int v_program_inputs, .int v_program_muls])), (h_inputs, .inl (k_inputs, 8, .inl v_inputs))] out := by
  refine gEz (cc := cX6_rowsAreAlike) (maxL := 2) (by decide) rfl (Nat.le_of_ble_eq_true rfl) ?_
  intro p e s m args below meth c Q A ls CF hK hN hA hret hP hD hS hl
  have hx := CF.1
  have hb := CF.2.1
  have hml := CF.2.2.1
  have hown : s.vm.findClass RX6 = some m.cls := CF.2.2.2.1
  have hts := CF.2.2.2.2
  have hl : lv_has ls 2 [(0, .ref h_this)] := hl
  have in_X6 : ∀ w ∈ wsX60, w ∈ wsX6_rowsAreAlike := fun w h => List.mem_cons_of_mem _ (List.mem_append_left _ (List.mem_append_right _ h))
  have hL12 : (Cond.fieldLink RX6 12 "DustSums$Task" "program" "LDustSums$Program;").before args s = true := hts (.fieldLink RX6 12 "DustSums$Task" "program" "LDustSums$Program;") (List.mem_of_getElem? (i := 1) rfl)
  have in_X2 : ∀ w ∈ wsX20, w ∈ wsX6_rowsAreAlike := fun w h => List.mem_cons_of_mem _ (List.mem_append_right _ h)
  have hL62 : (Cond.fieldLinkNest RX6 62 "DustSums$Program" "inputs" "I" "DustSums").before args s = true := va_Nw.use rfl (hN.1 (RX6, 62, "DustSums$Program", "inputs", "I", "DustSums") (by decide +kernel))
  have cw64 : CallW ({ frames := 2, cells := 0, slots := 0, locals := 44 } : Room) s args RX6 RX6 64 yX6_inputIn cX6_inputIn 3 (some .int) wsX6_inputIn ({ frames := 1, cells := 0, slots := 0, locals := 22 } : Room) 0 0 2 := cwV 2 hts gX6_rowsAreAlike_X6_inputIn rfl rfl rfl (by decide +kernel) ⟨Nat.le_of_ble_eq_true rfl, Nat.le_of_ble_eq_true rfl⟩
  have k_2 : ∀ (n : Nat) (y1 : Int32) (H : Heap) (locs : List Loc) (ls : Array Slot), f_X6_rowsAreAlike_2 N v_modulus v_program_inputs v_inputs n y1 = some out → va_P (dC, dI) vwCl [(h_this, .inr (6, [.ref h_program, .ref h_inputs, .ref h_lots, .ref h_lies, .int v_lieCount, .int v_modulus])), (h_program, .inr (2, [.ref h_program_cells, .ref h_program_depths, .int v_program_became, .int v_program_items, .int v_program_inputs, .int v_program_muls])), (h_inputs, .inl (k_inputs, 8, .inl v_inputs))] H → va_D A [(h_this, .inr (6, [.ref h_program, .ref h_inputs, .ref h_lots, .ref h_lies, .int v_lieCount, .int v_modulus])), (h_program, .inr (2, [.ref h_program_cells, .ref h_program_depths, .int v_program_became, .int v_program_items, .int v_program_inputs, .int v_program_muls])), (h_inputs, .inl (k_inputs, 8, .inl v_inputs))] → va_S A s.heap H locs → lv_has ls 2 [(0, .ref h_this), (1, .int y1)] → W p l e ({ frames := 2, cells := 0, slots := 0, locals := 44 } : Room) s m args below meth c H locs 0 0 Q (F0 m 2 ls []) := by
    intro n
    induction n with
    | zero =>
      intro y1 H locs ls hF
      have hF : (none : Option O_X6_rowsAreAlike) = some out := hF
      cases hF
    | succ n ih =>
      intro y1 H locs ls hF hP hD hS hl
      have hF : s_X6_rowsAreAlike_2 N v_modulus v_program_inputs v_inputs (f_X6_rowsAreAlike_2 N v_modulus v_program_inputs v_inputs n) y1 = some out := hF
      generalize f_X6_rowsAreAlike_2 N v_modulus v_program_inputs v_inputs n = r_2 at hF ih
      have g_2 : ∀ (y1 : Int32) (H : Heap) (locs : List Loc) (ls : Array Slot), r_2 y1 = some out → va_P (dC, dI) vwCl [(h_this, .inr (6, [.ref h_program, .ref h_inputs, .ref h_lots, .ref h_lies, .int v_lieCount, .int v_modulus])), (h_program, .inr (2, [.ref h_program_cells, .ref h_program_depths, .int v_program_became, .int v_program_items, .int v_program_inputs, .int v_program_muls])), (h_inputs, .inl (k_inputs, 8, .inl v_inputs))] H → va_D A [(h_this, .inr (6, [.ref h_program, .ref h_inputs, .ref h_lots, .ref h_lies, .int v_lieCount, .int v_modulus])), (h_program, .inr (2, [.ref h_program_cells, .ref h_program_depths, .int v_program_became, .int v_program_items, .int v_program_inputs, .int v_program_muls])), (h_inputs, .inl (k_inputs, 8, .inl v_inputs))] → va_S A s.heap H locs → lv_has ls 2 [(0, .ref h_this), (1, .int y1)] → W p l e ({ frames := 2, cells := 0, slots := 0, locals := 44 } : Room) s m args below meth c H locs 0 0 Q (F0 m 2 ls []) := ih
      clear ih
      unfold s_X6_rowsAreAlike_2 at hF
      refine lv_iload_n hx hb dX6_rowsAreAlike_2 rfl (lv_at hl 1 rfl) ?_
      refine lv_aload_n hx hb dX6_rowsAreAlike_3 rfl (lv_at hl 0 rfl) ?_
      refine va_get (D := (dC, dI)) (ci := 6) (v := .ref h_program) (C := RX6) (T := TX6) (N := 6) hx hb hts in_X6 hown hK hP 0 rfl rfl 0 (by decide) hL12 (fun _ h9 => h9) rfl dX6_rowsAreAlike_4 ?_
      refine va_getN (D := (dC, dI)) (ci := 2) (v := .int v_program_inputs) (C := RX2) (T := TX2) (N := 6) hx hb hts in_X2 hown hK hP 1 rfl rfl 4 (by decide) hL62 (fun _ h9 => h9) rfl dX6_rowsAreAlike_7 ?_
      refine lv_icmp_ge (tgt := 36) hx hb dX6_rowsAreAlike_10 (by decide) (fun c_10 => ?_) (fun c_10 => ?_)
      · have hF := gi_t c_10 hF
        refine lv_iconst (v := (1 : Int32)) hx hb dX6_rowsAreAlike_36 (by decide) ?_
        have hF := Option.some.inj hF
        subst hF
        exact hret (show (1 : Int32) &&& 1 = (1 : Int32) by decide) _ _ _ _ dX6_rowsAreAlike_37 hP hD hS
      · have hF := gi_f c_10 hF
        refine lv_aload_n hx hb dX6_rowsAreAlike_13 rfl (lv_at hl 0 rfl) ?_
        refine lv_iconst (v := (0 : Int32)) hx hb dX6_rowsAreAlike_14 (by decide) ?_
        refine lv_iload_n hx hb dX6_rowsAreAlike_15 rfl (lv_at hl 1 rfl) ?_
        obtain ⟨z_16, hz_16, hF⟩ := gi_bind hF
        refine gRi (wc := [(h_this, .inr (6, [.ref h_program, .ref h_inputs, .ref h_lots, .ref h_lies, .int v_lieCount, .int v_modulus])), (h_inputs, .inl (k_inputs, 8, .inl v_inputs))]) (wr := [(h_program, .inr (2, [.ref h_program_cells, .ref h_program_depths, .int v_program_became, .int v_program_items, .int v_program_inputs, .int v_program_muls]))]) (w1 := [(h_this, .inr (6, [.ref h_program, .ref h_inputs, .ref h_lots, .ref h_lies, .int v_lieCount, .int v_modulus])), (h_inputs, .inl (k_inputs, 8, .inl v_inputs))]) hP hD hS hA [0, 2] [1] rfl rfl (by decide) (by decide) (va_runV (As := [.int (0 : Int32), .int y1]) (rest := []) CF (t_X6_inputIn l dC dI h_this h_program h_inputs h_lots h_lies v_lieCount v_modulus k_inputs v_inputs H.size (0 : Int32) y1 N z_16 hz_16) cw64 (gPV (ci := 6) hP hD hK hN [0, 2] [0] (by decide) rfl rfl (q0 := 0) rfl rfl) rfl rfl hl.1 rfl (lv_room (Nat.le_of_ble_eq_true rfl)) dX6_rowsAreAlike_16 ⟨Nat.zero_le _, Nat.zero_le _⟩) (fun H locs hP hD hS => ?_)
        have hP : va_P (dC, dI) vwCl [(h_program, .inr (2, [.ref h_program_cells, .ref h_program_depths, .int v_program_became, .int v_program_items, .int v_program_inputs, .int v_program_muls])), (h_this, .inr (6, [.ref h_program, .ref h_inputs, .ref h_lots, .ref h_lies, .int v_lieCount, .int v_modulus])), (h_inputs, .inl (k_inputs, 8, .inl v_inputs))] H := hP
        have hD : va_D A [(h_program, .inr (2, [.ref h_program_cells, .ref h_program_depths, .int v_program_became, .int v_program_items, .int v_program_inputs, .int v_program_muls])), (h_this, .inr (6, [.ref h_program, .ref h_inputs, .ref h_lots, .ref h_lies, .int v_lieCount, .int v_modulus])), (h_inputs, .inl (k_inputs, 8, .inl v_inputs))] := hD
        refine lv_aload_n hx hb dX6_rowsAreAlike_19 rfl (lv_at hl 0 rfl) ?_
        refine lv_iconst (v := (1 : Int32)) hx hb dX6_rowsAreAlike_20 (by decide) ?_
        refine lv_iload_n hx hb dX6_rowsAreAlike_21 rfl (lv_at hl 1 rfl) ?_
        obtain ⟨z_22, hz_22, hF⟩ := gi_bind hF
        refine gRi (wc := [(h_this, .inr (6, [.ref h_program, .ref h_inputs, .ref h_lots, .ref h_lies, .int v_lieCount, .int v_modulus])), (h_inputs, .inl (k_inputs, 8, .inl v_inputs))]) (wr := [(h_program, .inr (2, [.ref h_program_cells, .ref h_program_depths, .int v_program_became, .int v_program_items, .int v_program_inputs, .int v_program_muls]))]) (w1 := [(h_this, .inr (6, [.ref h_program, .ref h_inputs, .ref h_lots, .ref h_lies, .int v_lieCount, .int v_modulus])), (h_inputs, .inl (k_inputs, 8, .inl v_inputs))]) hP hD hS hA [1, 2] [0] rfl rfl (by decide) (by decide) (va_runV (As := [.int (1 : Int32), .int y1]) (rest := [.int z_16]) CF (t_X6_inputIn l dC dI h_this h_program h_inputs h_lots h_lies v_lieCount v_modulus k_inputs v_inputs H.size (1 : Int32) y1 N z_22 hz_22) cw64 (gPV (ci := 6) hP hD hK hN [1, 2] [0] (by decide) rfl rfl (q0 := 1) rfl rfl) rfl rfl hl.1 rfl (lv_room (Nat.le_of_ble_eq_true rfl)) dX6_rowsAreAlike_22 ⟨Nat.zero_le _, Nat.zero_le _⟩) (fun H locs hP hD hS => ?_)
        have hP : va_P (dC, dI) vwCl [(h_program, .inr (2, [.ref h_program_cells, .ref h_program_depths, .int v_program_became, .int v_program_items, .int v_program_inputs, .int v_program_muls])), (h_this, .inr (6, [.ref h_program, .ref h_inputs, .ref h_lots, .ref h_lies, .int v_lieCount, .int v_modulus])), (h_inputs, .inl (k_inputs, 8, .inl v_inputs))] H := hP
        have hD : va_D A [(h_program, .inr (2, [.ref h_program_cells, .ref h_program_depths, .int v_program_became, .int v_program_items, .int v_program_inputs, .int v_program_muls])), (h_this, .inr (6, [.ref h_program, .ref h_inputs, .ref h_lots, .ref h_lies, .int v_lieCount, .int v_modulus])), (h_inputs, .inl (k_inputs, 8, .inl v_inputs))] := hD
        refine lv_icmp_eq (tgt := 30) hx hb dX6_rowsAreAlike_25 (by decide) (fun c_25 => ?_) (fun c_25 => ?_)
        · have hF := gi_t c_25 hF
          refine lv_iinc (v := (y1 + 1)) (lv' := [(1, .int (y1 + 1)), (0, .ref h_this)]) hx hb dX6_rowsAreAlike_30 hl (k := 1) rfl rfl (by decide) rfl (fun ls hl => ?_)
          refine lv_goto (tgt := 2) hx hb dX6_rowsAreAlike_33 (by decide) ?_
          exact g_2 (y1 + 1) _ _ _ hF (hP.sub [1, 0, 2] rfl) (hD.sub [1, 0, 2] (by decide) rfl) hS (lv_sub hl [1, 0] rfl)
        · have hF := gi_f c_25 hF
          refine lv_iconst (v := (0 : Int32)) hx hb dX6_rowsAreAlike_28 (by decide) ?_
          have hF := Option.some.inj hF
          subst hF
          exact hret (show (0 : Int32) &&& 1 = (0 : Int32) by decide) _ _ _ _ dX6_rowsAreAlike_29 (hP.sub [1, 0, 2] rfl) (hD.sub [1, 0, 2] (by decide) rfl) hS
  unfold f_X6_rowsAreAlike at hF
  refine lv_iconst (v := (0 : Int32)) hx hb dX6_rowsAreAlike_0 (by decide) ?_
  refine lv_istore_n (lv' := [(1, .int (0 : Int32)), (0, .ref h_this)]) hx hb dX6_rowsAreAlike_1 rfl hl (by decide) rfl (fun ls hl => ?_)
  exact k_2 N (0 : Int32) _ _ _ hF hP hD hS (lv_sub hl [1, 0] rfl)
abbrev O_X6_addLie : Type := Int32 × (Nat → Int32)
def f_X6_addLie (N : Nat) (x1 : Int32) (x2 : Int32) (x3 : Int32) (v_lieCount : Int32) (v_lies : Nat → Int32) : Option O_X6_addLie :=
  (f_X9_at N v_lies 48 ((x1 * (3 : Int32)) + x2)).bind (fun z_19 => (f_X9_put N 48 ((x1 * (3 : Int32)) + x2) (z_19 + x3) v_lies).bind (fun z_24 => some ((v_lieCount + (1 : Int32)), z_24)))
set_option maxHeartbeats 4000000 in
set_option maxRecDepth 100000 in
theorem t_X6_addLie (l : Launch) (dC : Nat → ClassId) (dI : Nat → Nat → Nat) (h_this : Nat) (h_program : Nat) (h_inputs : Nat) (h_lots : Nat) (h_lies : Nat) (v_lieCount : Int32) (v_modulus : Int32) (k_lies : ClassId) (v_lies : Nat → Int32) (sz : Nat) (x1 : Int32) (x2 : Int32) (x3 : Int32) (N : Nat) (out : O_X6_addLie) (hF : f_X6_addLie N x1 x2 x3 v_lieCount v_lies = some out) : gMv l yX6_addLie wsX6_addLie ({ frames := 1, cells := 0, slots := 0, locals := 22 } : Room) [.ref h_this, .int x1, .int x2, .int x3] (dC, dI) [(h_this, .inr (6, [.ref h_program, .ref h_inputs, .ref h_lots, .ref h_lies, .int v_lieCount, .int v_modulus])), (h_lies, .inl (k_lies, 48, .inl v_lies))] [(k_lies, .int)] sz [(h_this, .inr (6, [.ref h_program, .ref h_inputs, .ref h_lots, .ref h_lies, .int out.1, .int v_modulus])), (h_lies, .inl (k_lies, 48, .inl out.2))] := by
  refine gEv (cc := cX6_addLie) (maxL := 5) (by decide) rfl (Nat.le_of_ble_eq_true rfl) ?_
  intro p e s m args below meth c Q A ls CF hK hN hA hret hP hD hS hl
  have hx := CF.1
  have hb := CF.2.1
  have hml := CF.2.2.1
  have hown : s.vm.findClass RX6 = some m.cls := CF.2.2.2.1
  have hts := CF.2.2.2.2
  have hl : lv_has ls 5 [(0, .ref h_this), (1, .int x1), (2, .int x2), (3, .int x3)] := hl
  have in_X6 : ∀ w ∈ wsX60, w ∈ wsX6_addLie := fun w h => List.mem_cons_of_mem _ (List.mem_append_right _ h)
  have hL25 : (Cond.fieldLink RX6 25 "DustSums$Task" "lies" "[I").before args s = true := hts (.fieldLink RX6 25 "DustSums$Task" "lies" "[I") (List.mem_of_getElem? (i := 1) rfl)
  have nm47 : va_Nw (.methodLinkNest RX6 47 yX9_at "DustSums") s := hN.2 (RX6, 47, yX9_at, "DustSums") (by decide +kernel)
  have cw47 : va_CN ({ frames := 1, cells := 0, slots := 0, locals := 22 } : Room) s args RX6 47 yX9_at "DustSums" cX9_at 2 (some .int) wsX9_at ({ frames := 0, cells := 0, slots := 0, locals := 0 } : Room) 0 0 2 ∧ (Cond.static yX9_at).before args s = true ∧ True := ⟨va_cnB 2 hts gX6_addLie_X9_at_n47 rfl rfl rfl nm47 (hts (.initialized RX9) (List.mem_of_getElem? (i := 4) rfl)) (by decide +kernel) ⟨Nat.le_of_ble_eq_true rfl, Nat.le_of_ble_eq_true rfl⟩, hts (.static yX9_at) (List.mem_of_getElem? (i := 3) rfl), trivial⟩
  have nm51 : va_Nw (.methodLinkNest RX6 51 yX9_put "DustSums") s := hN.2 (RX6, 51, yX9_put, "DustSums") (by decide +kernel)
  have cw51 : va_CN ({ frames := 1, cells := 0, slots := 0, locals := 22 } : Room) s args RX6 51 yX9_put "DustSums" cX9_put 3 none wsX9_put ({ frames := 0, cells := 0, slots := 0, locals := 0 } : Room) 0 0 3 ∧ (Cond.static yX9_put).before args s = true ∧ True := ⟨va_cnB 3 hts gX6_addLie_X9_put_n51 rfl rfl rfl nm51 (hts (.initialized RX9) (List.mem_of_getElem? (i := 4) rfl)) (by decide +kernel) ⟨Nat.le_of_ble_eq_true rfl, Nat.le_of_ble_eq_true rfl⟩, hts (.static yX9_put) (List.mem_of_getElem? (i := 6) rfl), trivial⟩
  have hL55 : (Cond.fieldLink RX6 55 "DustSums$Task" "lieCount" "I").before args s = true := hts (.fieldLink RX6 55 "DustSums$Task" "lieCount" "I") (List.mem_of_getElem? (i := 2) rfl)
  unfold f_X6_addLie at hF
  refine lv_iload_n hx hb dX6_addLie_0 rfl (lv_at hl 1 rfl) ?_
  refine lv_iconst (v := (3 : Int32)) hx hb dX6_addLie_1 (by decide) ?_
  refine lv_imul hx hb dX6_addLie_2 ?_
  refine lv_iload_n hx hb dX6_addLie_3 rfl (lv_at hl 2 rfl) ?_
  refine lv_iadd hx hb dX6_addLie_4 ?_
  refine lv_istore (lv' := [(4, .int ((x1 * (3 : Int32)) + x2)), (0, .ref h_this), (1, .int x1), (2, .int x2), (3, .int x3)]) hx hb dX6_addLie_5 hl (by decide) rfl (fun ls hl => ?_)
  refine lv_aload_n hx hb dX6_addLie_7 rfl (lv_at hl 1 rfl) ?_
  refine va_get (D := (dC, dI)) (ci := 6) (v := .ref h_lies) (C := RX6) (T := TX6) (N := 6) hx hb hts in_X6 hown hK hP 0 rfl rfl 3 (by decide) hL25 (fun _ h9 => h9) rfl dX6_addLie_8 ?_
  refine lv_iload hx hb dX6_addLie_11 (lv_at hl 0 rfl) ?_
  refine lv_aload_n hx hb dX6_addLie_13 rfl (lv_at hl 1 rfl) ?_
  refine va_get (D := (dC, dI)) (ci := 6) (v := .ref h_lies) (C := RX6) (T := TX6) (N := 6) hx hb hts in_X6 hown hK hP 0 rfl rfl 3 (by decide) hL25 (fun _ h9 => h9) rfl dX6_addLie_14 ?_
  refine lv_iload hx hb dX6_addLie_17 (lv_at hl 0 rfl) ?_
  obtain ⟨z_19, hz_19, hF⟩ := gi_bind hF
  refine gRi (wc := [(h_lies, .inl (k_lies, 48, .inl v_lies))]) (wr := [(h_this, .inr (6, [.ref h_program, .ref h_inputs, .ref h_lots, .ref h_lies, .int v_lieCount, .int v_modulus]))]) (w1 := [(h_lies, .inl (k_lies, 48, .inl v_lies))]) hP hD hS hA [1] [0] rfl rfl (by decide) (by decide) (va_runSN (As := [.ref h_lies, .int ((x1 * (3 : Int32)) + x2)]) (rest := [.int ((x1 * (3 : Int32)) + x2), .ref h_lies]) CF (t_X9_at l dC dI h_lies k_lies 48 v_lies s.heap.size ((x1 * (3 : Int32)) + x2) N z_19 hz_19) cw47 (gPS hP hD hK hN [1] [0] (by decide) rfl rfl) rfl rfl hl.1 rfl (lv_room (Nat.le_of_ble_eq_true rfl)) dX6_addLie_19 ⟨Nat.zero_le _, Nat.zero_le _⟩) (fun H locs hP hD hS => ?_)
  have hP : va_P (dC, dI) vwCl [(h_this, .inr (6, [.ref h_program, .ref h_inputs, .ref h_lots, .ref h_lies, .int v_lieCount, .int v_modulus])), (h_lies, .inl (k_lies, 48, .inl v_lies))] H := hP
  have hD : va_D A [(h_this, .inr (6, [.ref h_program, .ref h_inputs, .ref h_lots, .ref h_lies, .int v_lieCount, .int v_modulus])), (h_lies, .inl (k_lies, 48, .inl v_lies))] := hD
  refine lv_iload_n hx hb dX6_addLie_22 rfl (lv_at hl 4 rfl) ?_
  refine lv_iadd hx hb dX6_addLie_23 ?_
  obtain ⟨z_24, hz_24, hF⟩ := gi_bind hF
  refine gRv (wc := [(h_lies, .inl (k_lies, 48, .inl v_lies))]) (wr := [(h_this, .inr (6, [.ref h_program, .ref h_inputs, .ref h_lots, .ref h_lies, .int v_lieCount, .int v_modulus]))]) (w1 := [(h_lies, .inl (k_lies, 48, .inl z_24))]) hP hD hS hA [1] [0] rfl rfl (by decide) (by decide) (va_runSN (As := [.ref h_lies, .int ((x1 * (3 : Int32)) + x2), .int (z_19 + x3)]) (rest := []) CF (t_X9_put l dC dI h_lies k_lies 48 v_lies H.size ((x1 * (3 : Int32)) + x2) (z_19 + x3) N z_24 hz_24) cw51 (gPS hP hD hK hN [1] [0] (by decide) rfl rfl) rfl rfl hl.1 rfl (lv_room (Nat.le_of_ble_eq_true rfl)) dX6_addLie_24 ⟨Nat.zero_le _, Nat.zero_le _⟩) (fun H locs hP hD hS => ?_)
  have hP : va_P (dC, dI) vwCl [(h_this, .inr (6, [.ref h_program, .ref h_inputs, .ref h_lots, .ref h_lies, .int v_lieCount, .int v_modulus])), (h_lies, .inl (k_lies, 48, .inl z_24))] H := hP
  have hD : va_D A [(h_this, .inr (6, [.ref h_program, .ref h_inputs, .ref h_lots, .ref h_lies, .int v_lieCount, .int v_modulus])), (h_lies, .inl (k_lies, 48, .inl z_24))] := hD
  refine lv_aload_n hx hb dX6_addLie_27 rfl (lv_at hl 1 rfl) ?_
  refine lv_dup hx hb dX6_addLie_28 rfl ?_
  refine va_get (D := (dC, dI)) (ci := 6) (v := .int v_lieCount) (C := RX6) (T := TX6) (N := 6) hx hb hts in_X6 hown hK hP 0 rfl rfl 4 (by decide) hL55 (fun _ h9 => h9) rfl dX6_addLie_29 ?_
  refine lv_iconst (v := (1 : Int32)) hx hb dX6_addLie_32 (by decide) ?_
  refine lv_iadd hx hb dX6_addLie_33 ?_
  refine va_put (D := (dC, dI)) (ci := 6) (v := .int (v_lieCount + (1 : Int32))) (ty := .int) (C := RX6) (T := TX6) (N := 6) hx hb hts in_X6 tyX6 tyX6_ok nmX6 hown hK hP hD hS 0 rfl rfl 4 (by decide) hL55 (fun _ h9 => h9) rfl (by decide +kernel) rfl rfl (Nat.le_of_ble_eq_true rfl) dX6_addLie_34 (fun H locs hP hD hS => ?_)
  have hP : va_P (dC, dI) vwCl [(h_this, .inr (6, [.ref h_program, .ref h_inputs, .ref h_lots, .ref h_lies, .int (v_lieCount + (1 : Int32)), .int v_modulus])), (h_lies, .inl (k_lies, 48, .inl z_24))] H := hP
  have hD : va_D A [(h_this, .inr (6, [.ref h_program, .ref h_inputs, .ref h_lots, .ref h_lies, .int (v_lieCount + (1 : Int32)), .int v_modulus])), (h_lies, .inl (k_lies, 48, .inl z_24))] := hD
  have hF := Option.some.inj hF
  subst hF
  exact hret _ _ _ _ dX6_addLie_37 hP hD hS
abbrev O_X6_forgetLies : Type := Int32 × (Nat → Int32)
def f_X6_forgetLies (N : Nat) (v_lieCount : Int32) (v_lies : Nat → Int32) : Option O_X6_forgetLies :=
  (f_X9_wipe N 48 v_lies).bind (fun z_4 => some ((0 : Int32), z_4))
set_option maxHeartbeats 4000000 in
set_option maxRecDepth 100000 in
theorem t_X6_forgetLies (l : Launch) (dC : Nat → ClassId) (dI : Nat → Nat → Nat) (h_this : Nat) (h_program : Nat) (h_inputs : Nat) (h_lots : Nat) (h_lies : Nat) (v_lieCount : Int32) (v_modulus : Int32) (k_lies : ClassId) (v_lies : Nat → Int32) (sz : Nat) (N : Nat) (out : O_X6_forgetLies) (hF : f_X6_forgetLies N v_lieCount v_lies = some out) : gMv l yX6_forgetLies wsX6_forgetLies ({ frames := 2, cells := 0, slots := 0, locals := 43 } : Room) [.ref h_this] (dC, dI) [(h_this, .inr (6, [.ref h_program, .ref h_inputs, .ref h_lots, .ref h_lies, .int v_lieCount, .int v_modulus])), (h_lies, .inl (k_lies, 48, .inl v_lies))] [(k_lies, .int)] sz [(h_this, .inr (6, [.ref h_program, .ref h_inputs, .ref h_lots, .ref h_lies, .int out.1, .int v_modulus])), (h_lies, .inl (k_lies, 48, .inl out.2))] := by
  refine gEv (cc := cX6_forgetLies) (maxL := 1) (by decide) rfl (Nat.le_of_ble_eq_true rfl) ?_
  intro p e s m args below meth c Q A ls CF hK hN hA hret hP hD hS hl
  have hx := CF.1
  have hb := CF.2.1
  have hml := CF.2.2.1
  have hown : s.vm.findClass RX6 = some m.cls := CF.2.2.2.1
  have hts := CF.2.2.2.2
  have hl : lv_has ls 1 [(0, .ref h_this)] := hl
  have in_X6 : ∀ w ∈ wsX60, w ∈ wsX6_forgetLies := fun w h => List.mem_cons_of_mem _ (List.mem_append_right _ h)
  have hL25 : (Cond.fieldLink RX6 25 "DustSums$Task" "lies" "[I").before args s = true := hts (.fieldLink RX6 25 "DustSums$Task" "lies" "[I") (List.mem_of_getElem? (i := 1) rfl)
  have nm40 : va_Nw (.methodLinkNest RX6 40 yX9_wipe "DustSums") s := hN.2 (RX6, 40, yX9_wipe, "DustSums") (by decide +kernel)
  have cw40 : va_CN ({ frames := 2, cells := 0, slots := 0, locals := 43 } : Room) s args RX6 40 yX9_wipe "DustSums" cX9_wipe 1 none wsX9_wipe ({ frames := 1, cells := 0, slots := 0, locals := 23 } : Room) 0 0 1 ∧ (Cond.static yX9_wipe).before args s = true ∧ True := ⟨va_cnB 1 hts gX6_forgetLies_X9_wipe_n40 rfl rfl rfl nm40 (hts (.initialized RX9) (List.mem_of_getElem? (i := 4) rfl)) (by decide +kernel) ⟨Nat.le_of_ble_eq_true rfl, Nat.le_of_ble_eq_true rfl⟩, hts (.static yX9_wipe) (List.mem_of_getElem? (i := 3) rfl), trivial⟩
  have hL55 : (Cond.fieldLink RX6 55 "DustSums$Task" "lieCount" "I").before args s = true := hts (.fieldLink RX6 55 "DustSums$Task" "lieCount" "I") (List.mem_of_getElem? (i := 2) rfl)
  unfold f_X6_forgetLies at hF
  refine lv_aload_n hx hb dX6_forgetLies_0 rfl (lv_at hl 0 rfl) ?_
  refine va_get (D := (dC, dI)) (ci := 6) (v := .ref h_lies) (C := RX6) (T := TX6) (N := 6) hx hb hts in_X6 hown hK hP 0 rfl rfl 3 (by decide) hL25 (fun _ h9 => h9) rfl dX6_forgetLies_1 ?_
  obtain ⟨z_4, hz_4, hF⟩ := gi_bind hF
  refine gRv (wc := [(h_lies, .inl (k_lies, 48, .inl v_lies))]) (wr := [(h_this, .inr (6, [.ref h_program, .ref h_inputs, .ref h_lots, .ref h_lies, .int v_lieCount, .int v_modulus]))]) (w1 := [(h_lies, .inl (k_lies, 48, .inl z_4))]) hP hD hS hA [1] [0] rfl rfl (by decide) (by decide) (va_runSN (As := [.ref h_lies]) (rest := []) CF (t_X9_wipe l dC dI h_lies k_lies 48 v_lies s.heap.size  N z_4 hz_4) cw40 (gPS hP hD hK hN [1] [0] (by decide) rfl rfl) rfl rfl hl.1 rfl (lv_room (Nat.le_of_ble_eq_true rfl)) dX6_forgetLies_4 ⟨Nat.zero_le _, Nat.zero_le _⟩) (fun H locs hP hD hS => ?_)
  have hP : va_P (dC, dI) vwCl [(h_this, .inr (6, [.ref h_program, .ref h_inputs, .ref h_lots, .ref h_lies, .int v_lieCount, .int v_modulus])), (h_lies, .inl (k_lies, 48, .inl z_4))] H := hP
  have hD : va_D A [(h_this, .inr (6, [.ref h_program, .ref h_inputs, .ref h_lots, .ref h_lies, .int v_lieCount, .int v_modulus])), (h_lies, .inl (k_lies, 48, .inl z_4))] := hD
  refine lv_aload_n hx hb dX6_forgetLies_7 rfl (lv_at hl 0 rfl) ?_
  refine lv_iconst (v := (0 : Int32)) hx hb dX6_forgetLies_8 (by decide) ?_
  refine va_put (D := (dC, dI)) (ci := 6) (v := .int (0 : Int32)) (ty := .int) (C := RX6) (T := TX6) (N := 6) hx hb hts in_X6 tyX6 tyX6_ok nmX6 hown hK hP hD hS 0 rfl rfl 4 (by decide) hL55 (fun _ h9 => h9) rfl (by decide +kernel) rfl rfl (Nat.le_of_ble_eq_true rfl) dX6_forgetLies_9 (fun H locs hP hD hS => ?_)
  have hP : va_P (dC, dI) vwCl [(h_this, .inr (6, [.ref h_program, .ref h_inputs, .ref h_lots, .ref h_lies, .int (0 : Int32), .int v_modulus])), (h_lies, .inl (k_lies, 48, .inl z_4))] H := hP
  have hD : va_D A [(h_this, .inr (6, [.ref h_program, .ref h_inputs, .ref h_lots, .ref h_lies, .int (0 : Int32), .int v_modulus])), (h_lies, .inl (k_lies, 48, .inl z_4))] := hD
  have hF := Option.some.inj hF
  subst hF
  exact hret _ _ _ _ dX6_forgetLies_12 hP hD hS
abbrev O_X6_begin : Type := Int32 × Int32 × Int32 × Int32 × Int32 × (Nat → Int32) × (Nat → Int32) × (Nat → Int32) × (Nat → Int32)
def f_X6_begin (N : Nat) (v_a1_became : Int32) (v_a1_items : Int32) (v_a1_inputs : Int32) (v_a1_muls : Int32) (v_a1_cells : Nat → Int32) (v_a1_depths : Nat → Int32) (v_lieCount : Int32) (v_program_became : Int32) (v_program_items : Int32) (v_program_inputs : Int32) (v_program_muls : Int32) (v_program_cells : Nat → Int32) (v_program_depths : Nat → Int32) (v_inputs : Nat → Int32) (v_lies : Nat → Int32) : Option O_X6_begin :=
  (f_X2_become N v_a1_became v_a1_items v_a1_inputs v_a1_muls v_a1_cells v_a1_depths v_program_became v_program_items v_program_inputs v_program_muls v_program_cells v_program_depths).bind (fun z_5 => (f_X9_wipe N 8 v_inputs).bind (fun z_12 => (f_X6_forgetLies N v_lieCount v_lies).bind (fun z_16 => some (z_16.1, z_5.1, z_5.2.1, z_5.2.2.1, z_5.2.2.2.1, z_5.2.2.2.2.1, z_5.2.2.2.2.2, z_12, z_16.2))))
set_option maxHeartbeats 4000000 in
set_option maxRecDepth 100000 in
theorem t_X6_begin (l : Launch) (dC : Nat → ClassId) (dI : Nat → Nat → Nat) (h_this : Nat) (h_program : Nat) (h_inputs : Nat) (h_lots : Nat) (h_lies : Nat) (v_lieCount : Int32) (v_modulus : Int32) (h_program_cells : Nat) (h_program_depths : Nat) (v_program_became : Int32) (v_program_items : Int32) (v_program_inputs : Int32) (v_program_muls : Int32) (k_program_cells : ClassId) (v_program_cells : Nat → Int32) (k_program_depths : ClassId) (v_program_depths : Nat → Int32) (k_inputs : ClassId) (v_inputs : Nat → Int32) (k_lies : ClassId) (v_lies : Nat → Int32) (h_a1 : Nat) (h_a1_cells : Nat) (h_a1_depths : Nat) (v_a1_became : Int32) (v_a1_items : Int32) (v_a1_inputs : Int32) (v_a1_muls : Int32) (k_a1_cells : ClassId) (v_a1_cells : Nat → Int32) (k_a1_depths : ClassId) (v_a1_depths : Nat → Int32) (sz : Nat) (N : Nat) (out : O_X6_begin) (hF : f_X6_begin N v_a1_became v_a1_items v_a1_inputs v_a1_muls v_a1_cells v_a1_depths v_lieCount v_program_became v_program_items v_program_inputs v_program_muls v_program_cells v_program_depths v_inputs v_lies = some out) : gMv l yX6_begin wsX6_begin ({ frames := 3, cells := 0, slots := 0, locals := 63 } : Room) [.ref h_this, .ref h_a1] (dC, dI) [(h_this, .inr (6, [.ref h_program, .ref h_inputs, .ref h_lots, .ref h_lies, .int v_lieCount, .int v_modulus])), (h_program, .inr (2, [.ref h_program_cells, .ref h_program_depths, .int v_program_became, .int v_program_items, .int v_program_inputs, .int v_program_muls])), (h_program_cells, .inl (k_program_cells, 96, .inl v_program_cells)), (h_program_depths, .inl (k_program_depths, 16, .inl v_program_depths)), (h_inputs, .inl (k_inputs, 8, .inl v_inputs)), (h_lies, .inl (k_lies, 48, .inl v_lies)), (h_a1, .inr (2, [.ref h_a1_cells, .ref h_a1_depths, .int v_a1_became, .int v_a1_items, .int v_a1_inputs, .int v_a1_muls])), (h_a1_cells, .inl (k_a1_cells, 96, .inl v_a1_cells)), (h_a1_depths, .inl (k_a1_depths, 16, .inl v_a1_depths))] [(k_program_cells, .int), (k_program_depths, .int), (k_inputs, .int), (k_lies, .int), (k_a1_cells, .int), (k_a1_depths, .int)] sz [(h_this, .inr (6, [.ref h_program, .ref h_inputs, .ref h_lots, .ref h_lies, .int out.1, .int v_modulus])), (h_program, .inr (2, [.ref h_program_cells, .ref h_program_depths, .int out.2.1, .int out.2.2.1, .int out.2.2.2.1, .int out.2.2.2.2.1])), (h_program_cells, .inl (k_program_cells, 96, .inl out.2.2.2.2.2.1)), (h_program_depths, .inl (k_program_depths, 16, .inl out.2.2.2.2.2.2.1)), (h_inputs, .inl (k_inputs, 8, .inl out.2.2.2.2.2.2.2.1)), (h_lies, .inl (k_lies, 48, .inl out.2.2.2.2.2.2.2.2)), (h_a1, .inr (2, [.ref h_a1_cells, .ref h_a1_depths, .int v_a1_became, .int v_a1_items, .int v_a1_inputs, .int v_a1_muls])), (h_a1_cells, .inl (k_a1_cells, 96, .inl v_a1_cells)), (h_a1_depths, .inl (k_a1_depths, 16, .inl v_a1_depths))] := by
  refine gEv (cc := cX6_begin) (maxL := 2) (by decide) rfl (Nat.le_of_ble_eq_true rfl) ?_
  intro p e s m args below meth c Q A ls CF hK hN hA hret hP hD hS hl
  have hx := CF.1
  have hb := CF.2.1
  have hml := CF.2.2.1
  have hown : s.vm.findClass RX6 = some m.cls := CF.2.2.2.1
  have hts := CF.2.2.2.2
  have hl : lv_has ls 2 [(0, .ref h_this), (1, .ref h_a1)] := hl
  have in_X6 : ∀ w ∈ wsX60, w ∈ wsX6_begin := fun w h => List.mem_cons_of_mem _ (List.mem_append_left _ (List.mem_append_right _ h))
  have hL12 : (Cond.fieldLink RX6 12 "DustSums$Task" "program" "LDustSums$Program;").before args s = true := hts (.fieldLink RX6 12 "DustSums$Task" "program" "LDustSums$Program;") (List.mem_of_getElem? (i := 1) rfl)
  have cw36 : CallW ({ frames := 3, cells := 0, slots := 0, locals := 63 } : Room) s args RX6 RX2 36 yX2_become cX2_become 3 none wsX2_become ({ frames := 1, cells := 0, slots := 0, locals := 21 } : Room) 0 0 1 := cwV 1 hts gX6_begin_X2_become rfl rfl rfl (by decide +kernel) ⟨Nat.le_of_ble_eq_true rfl, Nat.le_of_ble_eq_true rfl⟩
  have hL18 : (Cond.fieldLink RX6 18 "DustSums$Task" "inputs" "[I").before args s = true := hts (.fieldLink RX6 18 "DustSums$Task" "inputs" "[I") (List.mem_of_getElem? (i := 2) rfl)
  have nm40 : va_Nw (.methodLinkNest RX6 40 yX9_wipe "DustSums") s := hN.2 (RX6, 40, yX9_wipe, "DustSums") (by decide +kernel)
  have cw40 : va_CN ({ frames := 3, cells := 0, slots := 0, locals := 63 } : Room) s args RX6 40 yX9_wipe "DustSums" cX9_wipe 1 none wsX9_wipe ({ frames := 1, cells := 0, slots := 0, locals := 23 } : Room) 0 0 1 ∧ (Cond.static yX9_wipe).before args s = true ∧ True := ⟨va_cnB 1 hts gX6_begin_X9_wipe_n40 rfl rfl rfl nm40 (hts (.initialized RX9) (List.mem_of_getElem? (i := 15) rfl)) (by decide +kernel) ⟨Nat.le_of_ble_eq_true rfl, Nat.le_of_ble_eq_true rfl⟩, hts (.static yX9_wipe) (List.mem_of_getElem? (i := 17) rfl), trivial⟩
  have cw44 : CallW ({ frames := 3, cells := 0, slots := 0, locals := 63 } : Room) s args RX6 RX6 44 yX6_forgetLies cX6_forgetLies 1 none wsX6_forgetLies ({ frames := 2, cells := 0, slots := 0, locals := 43 } : Room) 0 0 0 := cwV 0 hts gX6_begin_X6_forgetLies rfl rfl rfl (by decide +kernel) ⟨Nat.le_of_ble_eq_true rfl, Nat.le_of_ble_eq_true rfl⟩
  unfold f_X6_begin at hF
  refine lv_aload_n hx hb dX6_begin_0 rfl (lv_at hl 0 rfl) ?_
  refine va_get (D := (dC, dI)) (ci := 6) (v := .ref h_program) (C := RX6) (T := TX6) (N := 6) hx hb hts in_X6 hown hK hP 0 rfl rfl 0 (by decide) hL12 (fun _ h9 => h9) rfl dX6_begin_1 ?_
  refine lv_aload_n hx hb dX6_begin_4 rfl (lv_at hl 1 rfl) ?_
  obtain ⟨z_5, hz_5, hF⟩ := gi_bind hF
  refine gRv (wc := [(h_program, .inr (2, [.ref h_program_cells, .ref h_program_depths, .int v_program_became, .int v_program_items, .int v_program_inputs, .int v_program_muls])), (h_program_cells, .inl (k_program_cells, 96, .inl v_program_cells)), (h_program_depths, .inl (k_program_depths, 16, .inl v_program_depths)), (h_a1, .inr (2, [.ref h_a1_cells, .ref h_a1_depths, .int v_a1_became, .int v_a1_items, .int v_a1_inputs, .int v_a1_muls])), (h_a1_cells, .inl (k_a1_cells, 96, .inl v_a1_cells)), (h_a1_depths, .inl (k_a1_depths, 16, .inl v_a1_depths))]) (wr := [(h_this, .inr (6, [.ref h_program, .ref h_inputs, .ref h_lots, .ref h_lies, .int v_lieCount, .int v_modulus])), (h_inputs, .inl (k_inputs, 8, .inl v_inputs)), (h_lies, .inl (k_lies, 48, .inl v_lies))]) (w1 := [(h_program, .inr (2, [.ref h_program_cells, .ref h_program_depths, .int z_5.1, .int z_5.2.1, .int z_5.2.2.1, .int z_5.2.2.2.1])), (h_program_cells, .inl (k_program_cells, 96, .inl z_5.2.2.2.2.1)), (h_program_depths, .inl (k_program_depths, 16, .inl z_5.2.2.2.2.2)), (h_a1, .inr (2, [.ref h_a1_cells, .ref h_a1_depths, .int v_a1_became, .int v_a1_items, .int v_a1_inputs, .int v_a1_muls])), (h_a1_cells, .inl (k_a1_cells, 96, .inl v_a1_cells)), (h_a1_depths, .inl (k_a1_depths, 16, .inl v_a1_depths))]) hP hD hS hA [1, 2, 3, 6, 7, 8] [0, 4, 5] rfl rfl (by decide) (by decide) (va_runV (As := [.ref h_a1]) (rest := []) CF (t_X2_become l dC dI h_program h_program_cells h_program_depths v_program_became v_program_items v_program_inputs v_program_muls k_program_cells v_program_cells k_program_depths v_program_depths h_a1 h_a1_cells h_a1_depths v_a1_became v_a1_items v_a1_inputs v_a1_muls k_a1_cells v_a1_cells k_a1_depths v_a1_depths s.heap.size  N z_5 hz_5) cw36 (gPV (ci := 2) hP hD hK hN [1, 2, 3, 6, 7, 8] [0, 1, 4, 5] (by decide) rfl rfl (q0 := 1) rfl rfl) rfl rfl hl.1 rfl (lv_room (Nat.le_of_ble_eq_true rfl)) dX6_begin_5 ⟨Nat.zero_le _, Nat.zero_le _⟩) (fun H locs hP hD hS => ?_)
  have hP : va_P (dC, dI) vwCl [(h_this, .inr (6, [.ref h_program, .ref h_inputs, .ref h_lots, .ref h_lies, .int v_lieCount, .int v_modulus])), (h_inputs, .inl (k_inputs, 8, .inl v_inputs)), (h_lies, .inl (k_lies, 48, .inl v_lies)), (h_program, .inr (2, [.ref h_program_cells, .ref h_program_depths, .int z_5.1, .int z_5.2.1, .int z_5.2.2.1, .int z_5.2.2.2.1])), (h_program_cells, .inl (k_program_cells, 96, .inl z_5.2.2.2.2.1)), (h_program_depths, .inl (k_program_depths, 16, .inl z_5.2.2.2.2.2)), (h_a1, .inr (2, [.ref h_a1_cells, .ref h_a1_depths, .int v_a1_became, .int v_a1_items, .int v_a1_inputs, .int v_a1_muls])), (h_a1_cells, .inl (k_a1_cells, 96, .inl v_a1_cells)), (h_a1_depths, .inl (k_a1_depths, 16, .inl v_a1_depths))] H := hP
  have hD : va_D A [(h_this, .inr (6, [.ref h_program, .ref h_inputs, .ref h_lots, .ref h_lies, .int v_lieCount, .int v_modulus])), (h_inputs, .inl (k_inputs, 8, .inl v_inputs)), (h_lies, .inl (k_lies, 48, .inl v_lies)), (h_program, .inr (2, [.ref h_program_cells, .ref h_program_depths, .int z_5.1, .int z_5.2.1, .int z_5.2.2.1, .int z_5.2.2.2.1])), (h_program_cells, .inl (k_program_cells, 96, .inl z_5.2.2.2.2.1)), (h_program_depths, .inl (k_program_depths, 16, .inl z_5.2.2.2.2.2)), (h_a1, .inr (2, [.ref h_a1_cells, .ref h_a1_depths, .int v_a1_became, .int v_a1_items, .int v_a1_inputs, .int v_a1_muls])), (h_a1_cells, .inl (k_a1_cells, 96, .inl v_a1_cells)), (h_a1_depths, .inl (k_a1_depths, 16, .inl v_a1_depths))] := hD
  refine lv_aload_n hx hb dX6_begin_8 rfl (lv_at hl 0 rfl) ?_
  refine va_get (D := (dC, dI)) (ci := 6) (v := .ref h_inputs) (C := RX6) (T := TX6) (N := 6) hx hb hts in_X6 hown hK hP 0 rfl rfl 1 (by decide) hL18 (fun _ h9 => h9) rfl dX6_begin_9 ?_
  obtain ⟨z_12, hz_12, hF⟩ := gi_bind hF
  refine gRv (wc := [(h_inputs, .inl (k_inputs, 8, .inl v_inputs))]) (wr := [(h_this, .inr (6, [.ref h_program, .ref h_inputs, .ref h_lots, .ref h_lies, .int v_lieCount, .int v_modulus])), (h_lies, .inl (k_lies, 48, .inl v_lies)), (h_program, .inr (2, [.ref h_program_cells, .ref h_program_depths, .int z_5.1, .int z_5.2.1, .int z_5.2.2.1, .int z_5.2.2.2.1])), (h_program_cells, .inl (k_program_cells, 96, .inl z_5.2.2.2.2.1)), (h_program_depths, .inl (k_program_depths, 16, .inl z_5.2.2.2.2.2)), (h_a1, .inr (2, [.ref h_a1_cells, .ref h_a1_depths, .int v_a1_became, .int v_a1_items, .int v_a1_inputs, .int v_a1_muls])), (h_a1_cells, .inl (k_a1_cells, 96, .inl v_a1_cells)), (h_a1_depths, .inl (k_a1_depths, 16, .inl v_a1_depths))]) (w1 := [(h_inputs, .inl (k_inputs, 8, .inl z_12))]) hP hD hS hA [1] [0, 2, 3, 4, 5, 6, 7, 8] rfl rfl (by decide) (by decide) (va_runSN (As := [.ref h_inputs]) (rest := []) CF (t_X9_wipe l dC dI h_inputs k_inputs 8 v_inputs H.size  N z_12 hz_12) cw40 (gPS hP hD hK hN [1] [2] (by decide) rfl rfl) rfl rfl hl.1 rfl (lv_room (Nat.le_of_ble_eq_true rfl)) dX6_begin_12 ⟨Nat.zero_le _, Nat.zero_le _⟩) (fun H locs hP hD hS => ?_)
  have hP : va_P (dC, dI) vwCl [(h_this, .inr (6, [.ref h_program, .ref h_inputs, .ref h_lots, .ref h_lies, .int v_lieCount, .int v_modulus])), (h_lies, .inl (k_lies, 48, .inl v_lies)), (h_program, .inr (2, [.ref h_program_cells, .ref h_program_depths, .int z_5.1, .int z_5.2.1, .int z_5.2.2.1, .int z_5.2.2.2.1])), (h_program_cells, .inl (k_program_cells, 96, .inl z_5.2.2.2.2.1)), (h_program_depths, .inl (k_program_depths, 16, .inl z_5.2.2.2.2.2)), (h_a1, .inr (2, [.ref h_a1_cells, .ref h_a1_depths, .int v_a1_became, .int v_a1_items, .int v_a1_inputs, .int v_a1_muls])), (h_a1_cells, .inl (k_a1_cells, 96, .inl v_a1_cells)), (h_a1_depths, .inl (k_a1_depths, 16, .inl v_a1_depths)), (h_inputs, .inl (k_inputs, 8, .inl z_12))] H := hP
  have hD : va_D A [(h_this, .inr (6, [.ref h_program, .ref h_inputs, .ref h_lots, .ref h_lies, .int v_lieCount, .int v_modulus])), (h_lies, .inl (k_lies, 48, .inl v_lies)), (h_program, .inr (2, [.ref h_program_cells, .ref h_program_depths, .int z_5.1, .int z_5.2.1, .int z_5.2.2.1, .int z_5.2.2.2.1])), (h_program_cells, .inl (k_program_cells, 96, .inl z_5.2.2.2.2.1)), (h_program_depths, .inl (k_program_depths, 16, .inl z_5.2.2.2.2.2)), (h_a1, .inr (2, [.ref h_a1_cells, .ref h_a1_depths, .int v_a1_became, .int v_a1_items, .int v_a1_inputs, .int v_a1_muls])), (h_a1_cells, .inl (k_a1_cells, 96, .inl v_a1_cells)), (h_a1_depths, .inl (k_a1_depths, 16, .inl v_a1_depths)), (h_inputs, .inl (k_inputs, 8, .inl z_12))] := hD
  refine lv_aload_n hx hb dX6_begin_15 rfl (lv_at hl 0 rfl) ?_
  obtain ⟨z_16, hz_16, hF⟩ := gi_bind hF
  refine gRv (wc := [(h_this, .inr (6, [.ref h_program, .ref h_inputs, .ref h_lots, .ref h_lies, .int v_lieCount, .int v_modulus])), (h_lies, .inl (k_lies, 48, .inl v_lies))]) (wr := [(h_program, .inr (2, [.ref h_program_cells, .ref h_program_depths, .int z_5.1, .int z_5.2.1, .int z_5.2.2.1, .int z_5.2.2.2.1])), (h_program_cells, .inl (k_program_cells, 96, .inl z_5.2.2.2.2.1)), (h_program_depths, .inl (k_program_depths, 16, .inl z_5.2.2.2.2.2)), (h_a1, .inr (2, [.ref h_a1_cells, .ref h_a1_depths, .int v_a1_became, .int v_a1_items, .int v_a1_inputs, .int v_a1_muls])), (h_a1_cells, .inl (k_a1_cells, 96, .inl v_a1_cells)), (h_a1_depths, .inl (k_a1_depths, 16, .inl v_a1_depths)), (h_inputs, .inl (k_inputs, 8, .inl z_12))]) (w1 := [(h_this, .inr (6, [.ref h_program, .ref h_inputs, .ref h_lots, .ref h_lies, .int z_16.1, .int v_modulus])), (h_lies, .inl (k_lies, 48, .inl z_16.2))]) hP hD hS hA [0, 1] [2, 3, 4, 5, 6, 7, 8] rfl rfl (by decide) (by decide) (va_runV (As := []) (rest := []) CF (t_X6_forgetLies l dC dI h_this h_program h_inputs h_lots h_lies v_lieCount v_modulus k_lies v_lies H.size  N z_16 hz_16) cw44 (gPV (ci := 6) hP hD hK hN [0, 1] [3] (by decide) rfl rfl (q0 := 0) rfl rfl) rfl rfl hl.1 rfl (lv_room (Nat.le_of_ble_eq_true rfl)) dX6_begin_16 ⟨Nat.zero_le _, Nat.zero_le _⟩) (fun H locs hP hD hS => ?_)
  have hP : va_P (dC, dI) vwCl [(h_program, .inr (2, [.ref h_program_cells, .ref h_program_depths, .int z_5.1, .int z_5.2.1, .int z_5.2.2.1, .int z_5.2.2.2.1])), (h_program_cells, .inl (k_program_cells, 96, .inl z_5.2.2.2.2.1)), (h_program_depths, .inl (k_program_depths, 16, .inl z_5.2.2.2.2.2)), (h_a1, .inr (2, [.ref h_a1_cells, .ref h_a1_depths, .int v_a1_became, .int v_a1_items, .int v_a1_inputs, .int v_a1_muls])), (h_a1_cells, .inl (k_a1_cells, 96, .inl v_a1_cells)), (h_a1_depths, .inl (k_a1_depths, 16, .inl v_a1_depths)), (h_inputs, .inl (k_inputs, 8, .inl z_12)), (h_this, .inr (6, [.ref h_program, .ref h_inputs, .ref h_lots, .ref h_lies, .int z_16.1, .int v_modulus])), (h_lies, .inl (k_lies, 48, .inl z_16.2))] H := hP
  have hD : va_D A [(h_program, .inr (2, [.ref h_program_cells, .ref h_program_depths, .int z_5.1, .int z_5.2.1, .int z_5.2.2.1, .int z_5.2.2.2.1])), (h_program_cells, .inl (k_program_cells, 96, .inl z_5.2.2.2.2.1)), (h_program_depths, .inl (k_program_depths, 16, .inl z_5.2.2.2.2.2)), (h_a1, .inr (2, [.ref h_a1_cells, .ref h_a1_depths, .int v_a1_became, .int v_a1_items, .int v_a1_inputs, .int v_a1_muls])), (h_a1_cells, .inl (k_a1_cells, 96, .inl v_a1_cells)), (h_a1_depths, .inl (k_a1_depths, 16, .inl v_a1_depths)), (h_inputs, .inl (k_inputs, 8, .inl z_12)), (h_this, .inr (6, [.ref h_program, .ref h_inputs, .ref h_lots, .ref h_lies, .int z_16.1, .int v_modulus])), (h_lies, .inl (k_lies, 48, .inl z_16.2))] := hD
  have hF := Option.some.inj hF
  subst hF
  exact hret _ _ _ _ dX6_begin_19 (hP.sub [7, 0, 1, 2, 6, 8, 3, 4, 5] rfl) (hD.sub [7, 0, 1, 2, 6, 8, 3, 4, 5] (by decide) rfl) hS
abbrev O_X4_plainEnd : Type := Int32 × (Nat → Int32)
def f_X4_plainEnd_155 (N : Nat) (v_modulus : Int32) (v_trial : Nat → Int32) (v_a1_items : Int32) (v_a1_cells : Nat → Int32) (r_4 : (Nat → Int32) → Int32 → Int32 → Option O_X4_plainEnd) (v_plain : Nat → Int32) (y2 : Int32) (y3 : Int32) (y6 : Int32) : Option O_X4_plainEnd :=
  (f_X2_cell N v_a1_cells y3 (1 : Int32)).bind (fun z_162 => (f_X9_mod N y6 v_modulus).bind (fun z_171 => (f_X9_put N 16 z_162 z_171 v_plain).bind (fun z_174 => r_4 z_174 y2 (y3 + 1))))
def f_X4_plainEnd_141 (N : Nat) (v_modulus : Int32) (v_trial : Nat → Int32) (v_a1_items : Int32) (v_a1_cells : Nat → Int32) (v_plain : Nat → Int32) (y3 : Int32) : Option O_X4_plainEnd :=
  (f_X2_cell N v_a1_cells y3 (1 : Int32)).bind (fun z_148 => (f_X9_at N v_plain 16 z_148).bind (fun z_151 => some (z_151, v_plain)))
def s_X4_plainEnd_4 (N : Nat) (v_modulus : Int32) (v_trial : Nat → Int32) (v_a1_items : Int32) (v_a1_cells : Nat → Int32) (r_4 : (Nat → Int32) → Int32 → Int32 → Option O_X4_plainEnd) (v_plain : Nat → Int32) (y2 : Int32) (y3 : Int32) : Option O_X4_plainEnd :=
  if v_a1_items ≤ y3 then (some ((0 : Int32), v_plain)) else ((f_X2_cell N v_a1_cells y3 (2 : Int32)).bind (fun z_19 => (f_X9_at N v_plain 16 z_19).bind (fun z_22 => (f_X2_cell N v_a1_cells y3 (3 : Int32)).bind (fun z_34 => (f_X9_at N v_plain 16 z_34).bind (fun z_37 => (f_X2_cell N v_a1_cells y3 (0 : Int32)).bind (fun z_48 => if z_48 = (0 : Int32) then ((f_X9_at N v_trial 4 y2).bind (fun z_89 => f_X4_plainEnd_155 N v_modulus v_trial v_a1_items v_a1_cells r_4 v_plain (y2 + 1) y3 z_89)) else (if z_48 = (1 : Int32) then ((f_X2_cell N v_a1_cells y3 (4 : Int32)).bind (fun z_103 => f_X4_plainEnd_155 N v_modulus v_trial v_a1_items v_a1_cells r_4 v_plain y2 y3 z_103)) else (if z_48 = (2 : Int32) then (f_X4_plainEnd_155 N v_modulus v_trial v_a1_items v_a1_cells r_4 v_plain y2 y3 (z_22 + z_37)) else (if z_48 = (3 : Int32) then (f_X4_plainEnd_155 N v_modulus v_trial v_a1_items v_a1_cells r_4 v_plain y2 y3 (z_22 - z_37)) else (if z_48 = (4 : Int32) then (f_X4_plainEnd_155 N v_modulus v_trial v_a1_items v_a1_cells r_4 v_plain y2 y3 (z_22 * z_37)) else (f_X4_plainEnd_141 N v_modulus v_trial v_a1_items v_a1_cells v_plain y3)))))))))))
def f_X4_plainEnd_4 (N : Nat) (v_modulus : Int32) (v_trial : Nat → Int32) (v_a1_items : Int32) (v_a1_cells : Nat → Int32) (n : Nat) : (Nat → Int32) → Int32 → Int32 → Option O_X4_plainEnd := lpg (fun _ _ _ => none) (s_X4_plainEnd_4 N v_modulus v_trial v_a1_items v_a1_cells) n
def f_X4_plainEnd (N : Nat) (v_modulus : Int32) (v_trial : Nat → Int32) (v_a1_items : Int32) (v_a1_cells : Nat → Int32) (v_plain : Nat → Int32) : Option O_X4_plainEnd :=
  f_X4_plainEnd_4 N v_modulus v_trial v_a1_items v_a1_cells N v_plain (0 : Int32) (0 : Int32)
set_option maxHeartbeats 4000000 in
set_option maxRecDepth 100000 in
theorem t_X4_plainEnd (l : Launch) (dC : Nat → ClassId) (dI : Nat → Nat → Nat) (h_this : Nat) (h_shares : Nat) (h_shown : Nat) (h_shownOfY : Nat) (h_triple : Nat) (h_view : Nat) (h_trial : Nat) (h_plain : Nat) (v_views : Int32) (v_viewAsNumber : Int32) (v_hand : Int32) (v_modulus : Int32) (v_nextLot : Int32) (v_nextInput : Int32) (k_trial : ClassId) (v_trial : Nat → Int32) (k_plain : ClassId) (v_plain : Nat → Int32) (h_a1 : Nat) (h_a1_cells : Nat) (h_a1_depths : Nat) (v_a1_became : Int32) (v_a1_items : Int32) (v_a1_inputs : Int32) (v_a1_muls : Int32) (k_a1_cells : ClassId) (v_a1_cells : Nat → Int32) (sz : Nat) (N : Nat) (out : O_X4_plainEnd) (hF : f_X4_plainEnd N v_modulus v_trial v_a1_items v_a1_cells v_plain = some out) : gMi l yX4_plainEnd wsX4_plainEnd ({ frames := 2, cells := 0, slots := 0, locals := 43 } : Room) [.ref h_this, .ref h_a1] (dC, dI) [(h_this, .inr (4, [.ref h_shares, .ref h_shown, .ref h_shownOfY, .ref h_triple, .ref h_view, .ref h_trial, .ref h_plain, .int v_views, .int v_viewAsNumber, .int v_hand, .int v_modulus, .int v_nextLot, .int v_nextInput])), (h_trial, .inl (k_trial, 4, .inl v_trial)), (h_plain, .inl (k_plain, 16, .inl v_plain)), (h_a1, .inr (2, [.ref h_a1_cells, .ref h_a1_depths, .int v_a1_became, .int v_a1_items, .int v_a1_inputs, .int v_a1_muls])), (h_a1_cells, .inl (k_a1_cells, 96, .inl v_a1_cells))] [(k_trial, .int), (k_plain, .int), (k_a1_cells, .int)] sz [(h_this, .inr (4, [.ref h_shares, .ref h_shown, .ref h_shownOfY, .ref h_triple, .ref h_view, .ref h_trial, .ref h_plain, .int v_views, .int v_viewAsNumber, .int v_hand, .int v_modulus, .int v_nextLot, .int v_nextInput])), (h_trial, .inl (k_trial, 4, .inl v_trial)), (h_plain, .inl (k_plain, 16, .inl out.2)), (h_a1, .inr (2, [.ref h_a1_cells, .ref h_a1_depths, .int v_a1_became, .int v_a1_items, .int v_a1_inputs, .int v_a1_muls])), (h_a1_cells, .inl (k_a1_cells, 96, .inl v_a1_cells))] out.1 := by
  refine gEi (cc := cX4_plainEnd) (maxL := 7) (by decide) rfl (Nat.le_of_ble_eq_true rfl) ?_
  intro p e s m args below meth c Q A ls CF hK hN hA hret hP hD hS hl
  have hx := CF.1
  have hb := CF.2.1
  have hml := CF.2.2.1
  have hown : s.vm.findClass RX4 = some m.cls := CF.2.2.2.1
  have hts := CF.2.2.2.2
  have hl : lv_has ls 7 [(0, .ref h_this), (1, .ref h_a1)] := hl
  have in_X2 : ∀ w ∈ wsX20, w ∈ wsX4_plainEnd := fun w h => List.mem_cons_of_mem _ (List.mem_append_left _ (List.mem_append_right _ h))
  have hL74 : (Cond.fieldLinkNest RX4 74 "DustSums$Program" "items" "I" "DustSums").before args s = true := va_Nw.use rfl (hN.1 (RX4, 74, "DustSums$Program", "items", "I", "DustSums") (by decide +kernel))
  have in_X4 : ∀ w ∈ wsX40, w ∈ wsX4_plainEnd := fun w h => List.mem_cons_of_mem _ (List.mem_append_right _ h)
  have hL30 : (Cond.fieldLink RX4 30 "DustSums$Run" "plain" "[I").before args s = true := hts (.fieldLink RX4 30 "DustSums$Run" "plain" "[I") (List.mem_of_getElem? (i := 1) rfl)
  have cw147 : CallW ({ frames := 2, cells := 0, slots := 0, locals := 43 } : Room) s args RX4 RX2 147 yX2_cell cX2_cell 3 (some .int) wsX2_cell ({ frames := 1, cells := 0, slots := 0, locals := 21 } : Room) 0 0 2 := cwV 2 hts gX4_plainEnd_X2_cell rfl rfl rfl (by decide +kernel) ⟨Nat.le_of_ble_eq_true rfl, Nat.le_of_ble_eq_true rfl⟩
  have nm114 : va_Nw (.methodLinkNest RX4 114 yX9_at "DustSums") s := hN.2 (RX4, 114, yX9_at, "DustSums") (by decide +kernel)
  have cw114 : va_CN ({ frames := 2, cells := 0, slots := 0, locals := 43 } : Room) s args RX4 114 yX9_at "DustSums" cX9_at 2 (some .int) wsX9_at ({ frames := 0, cells := 0, slots := 0, locals := 0 } : Room) 0 0 2 ∧ (Cond.static yX9_at).before args s = true ∧ True := ⟨va_cnB 2 hts gX4_plainEnd_X9_at_n114 rfl rfl rfl nm114 (hts (.initialized RX9) (List.mem_of_getElem? (i := 11) rfl)) (by decide +kernel) ⟨Nat.le_of_ble_eq_true rfl, Nat.le_of_ble_eq_true rfl⟩, hts (.static yX9_at) (List.mem_of_getElem? (i := 10) rfl), trivial⟩
  have hL27 : (Cond.fieldLink RX4 27 "DustSums$Run" "trial" "[I").before args s = true := hts (.fieldLink RX4 27 "DustSums$Run" "trial" "[I") (List.mem_of_getElem? (i := 2) rfl)
  have hL52 : (Cond.fieldLink RX4 52 "DustSums$Run" "modulus" "I").before args s = true := hts (.fieldLink RX4 52 "DustSums$Run" "modulus" "I") (List.mem_of_getElem? (i := 3) rfl)
  have nm118 : va_Nw (.methodLinkNest RX4 118 yX9_mod "DustSums") s := hN.2 (RX4, 118, yX9_mod, "DustSums") (by decide +kernel)
  have cw118 : va_CN ({ frames := 2, cells := 0, slots := 0, locals := 43 } : Room) s args RX4 118 yX9_mod "DustSums" cX9_mod 3 (some .int) wsX9_mod ({ frames := 0, cells := 0, slots := 0, locals := 0 } : Room) 0 0 2 ∧ (Cond.static yX9_mod).before args s = true ∧ True := ⟨va_cnB 2 hts gX4_plainEnd_X9_mod_n118 rfl rfl rfl nm118 (hts (.initialized RX9) (List.mem_of_getElem? (i := 11) rfl)) (by decide +kernel) ⟨Nat.le_of_ble_eq_true rfl, Nat.le_of_ble_eq_true rfl⟩, hts (.static yX9_mod) (List.mem_of_getElem? (i := 13) rfl), trivial⟩
  have nm121 : va_Nw (.methodLinkNest RX4 121 yX9_put "DustSums") s := hN.2 (RX4, 121, yX9_put, "DustSums") (by decide +kernel)
  have cw121 : va_CN ({ frames := 2, cells := 0, slots := 0, locals := 43 } : Room) s args RX4 121 yX9_put "DustSums" cX9_put 3 none wsX9_put ({ frames := 0, cells := 0, slots := 0, locals := 0 } : Room) 0 0 3 ∧ (Cond.static yX9_put).before args s = true ∧ True := ⟨va_cnB 3 hts gX4_plainEnd_X9_put_n121 rfl rfl rfl nm121 (hts (.initialized RX9) (List.mem_of_getElem? (i := 11) rfl)) (by decide +kernel) ⟨Nat.le_of_ble_eq_true rfl, Nat.le_of_ble_eq_true rfl⟩, hts (.static yX9_put) (List.mem_of_getElem? (i := 15) rfl), trivial⟩
  have k_155 : ∀ (r_4 : (Nat → Int32) → Int32 → Int32 → Option O_X4_plainEnd) (g_4 : ∀ (v_plain : Nat → Int32) (y2 : Int32) (y3 : Int32) (H : Heap) (locs : List Loc) (ls : Array Slot), r_4 v_plain y2 y3 = some out → va_P (dC, dI) vwCl [(h_this, .inr (4, [.ref h_shares, .ref h_shown, .ref h_shownOfY, .ref h_triple, .ref h_view, .ref h_trial, .ref h_plain, .int v_views, .int v_viewAsNumber, .int v_hand, .int v_modulus, .int v_nextLot, .int v_nextInput])), (h_trial, .inl (k_trial, 4, .inl v_trial)), (h_plain, .inl (k_plain, 16, .inl v_plain)), (h_a1, .inr (2, [.ref h_a1_cells, .ref h_a1_depths, .int v_a1_became, .int v_a1_items, .int v_a1_inputs, .int v_a1_muls])), (h_a1_cells, .inl (k_a1_cells, 96, .inl v_a1_cells))] H → va_D A [(h_this, .inr (4, [.ref h_shares, .ref h_shown, .ref h_shownOfY, .ref h_triple, .ref h_view, .ref h_trial, .ref h_plain, .int v_views, .int v_viewAsNumber, .int v_hand, .int v_modulus, .int v_nextLot, .int v_nextInput])), (h_trial, .inl (k_trial, 4, .inl v_trial)), (h_plain, .inl (k_plain, 16, .inl v_plain)), (h_a1, .inr (2, [.ref h_a1_cells, .ref h_a1_depths, .int v_a1_became, .int v_a1_items, .int v_a1_inputs, .int v_a1_muls])), (h_a1_cells, .inl (k_a1_cells, 96, .inl v_a1_cells))] → va_S A s.heap H locs → lv_has ls 7 [(0, .ref h_this), (1, .ref h_a1), (2, .int y2), (3, .int y3)] → W p l e ({ frames := 2, cells := 0, slots := 0, locals := 43 } : Room) s m args below meth c H locs 0 0 Q (F0 m 4 ls [])) (v_plain : Nat → Int32) (y2 : Int32) (y3 : Int32) (y6 : Int32) (H : Heap) (locs : List Loc) (ls : Array Slot), f_X4_plainEnd_155 N v_modulus v_trial v_a1_items v_a1_cells r_4 v_plain y2 y3 y6 = some out → va_P (dC, dI) vwCl [(h_this, .inr (4, [.ref h_shares, .ref h_shown, .ref h_shownOfY, .ref h_triple, .ref h_view, .ref h_trial, .ref h_plain, .int v_views, .int v_viewAsNumber, .int v_hand, .int v_modulus, .int v_nextLot, .int v_nextInput])), (h_trial, .inl (k_trial, 4, .inl v_trial)), (h_plain, .inl (k_plain, 16, .inl v_plain)), (h_a1, .inr (2, [.ref h_a1_cells, .ref h_a1_depths, .int v_a1_became, .int v_a1_items, .int v_a1_inputs, .int v_a1_muls])), (h_a1_cells, .inl (k_a1_cells, 96, .inl v_a1_cells))] H → va_D A [(h_this, .inr (4, [.ref h_shares, .ref h_shown, .ref h_shownOfY, .ref h_triple, .ref h_view, .ref h_trial, .ref h_plain, .int v_views, .int v_viewAsNumber, .int v_hand, .int v_modulus, .int v_nextLot, .int v_nextInput])), (h_trial, .inl (k_trial, 4, .inl v_trial)), (h_plain, .inl (k_plain, 16, .inl v_plain)), (h_a1, .inr (2, [.ref h_a1_cells, .ref h_a1_depths, .int v_a1_became, .int v_a1_items, .int v_a1_inputs, .int v_a1_muls])), (h_a1_cells, .inl (k_a1_cells, 96, .inl v_a1_cells))] → va_S A s.heap H locs → lv_has ls 7 [(0, .ref h_this), (1, .ref h_a1), (2, .int y2), (3, .int y3), (6, .int y6)] → W p l e ({ frames := 2, cells := 0, slots := 0, locals := 43 } : Room) s m args below meth c H locs 0 0 Q (F0 m 155 ls []) := by
    intro r_4 g_4 v_plain y2 y3 y6 H locs ls hF hP hD hS hl
    unfold f_X4_plainEnd_155 at hF
    refine lv_aload_n hx hb dX4_plainEnd_155 rfl (lv_at hl 0 rfl) ?_
    refine va_get (D := (dC, dI)) (ci := 4) (v := .ref h_plain) (C := RX4) (T := TX4) (N := 13) hx hb hts in_X4 hown hK hP 0 rfl rfl 6 (by decide) hL30 (fun _ h9 => h9) rfl dX4_plainEnd_156 ?_
    refine lv_aload_n hx hb dX4_plainEnd_159 rfl (lv_at hl 1 rfl) ?_
    refine lv_iload_n hx hb dX4_plainEnd_160 rfl (lv_at hl 3 rfl) ?_
    refine lv_iconst (v := (1 : Int32)) hx hb dX4_plainEnd_161 (by decide) ?_
    obtain ⟨z_162, hz_162, hF⟩ := gi_bind hF
    refine gRi (wc := [(h_a1, .inr (2, [.ref h_a1_cells, .ref h_a1_depths, .int v_a1_became, .int v_a1_items, .int v_a1_inputs, .int v_a1_muls])), (h_a1_cells, .inl (k_a1_cells, 96, .inl v_a1_cells))]) (wr := [(h_this, .inr (4, [.ref h_shares, .ref h_shown, .ref h_shownOfY, .ref h_triple, .ref h_view, .ref h_trial, .ref h_plain, .int v_views, .int v_viewAsNumber, .int v_hand, .int v_modulus, .int v_nextLot, .int v_nextInput])), (h_trial, .inl (k_trial, 4, .inl v_trial)), (h_plain, .inl (k_plain, 16, .inl v_plain))]) (w1 := [(h_a1, .inr (2, [.ref h_a1_cells, .ref h_a1_depths, .int v_a1_became, .int v_a1_items, .int v_a1_inputs, .int v_a1_muls])), (h_a1_cells, .inl (k_a1_cells, 96, .inl v_a1_cells))]) hP hD hS hA [3, 4] [0, 1, 2] rfl rfl (by decide) (by decide) (va_runV (As := [.int y3, .int (1 : Int32)]) (rest := [.ref h_plain]) CF (t_X2_cell l dC dI h_a1 h_a1_cells h_a1_depths v_a1_became v_a1_items v_a1_inputs v_a1_muls k_a1_cells v_a1_cells H.size y3 (1 : Int32) N z_162 hz_162) cw147 (gPV (ci := 2) hP hD hK hN [3, 4] [2] (by decide) rfl rfl (q0 := 3) rfl rfl) rfl rfl hl.1 rfl (lv_room (Nat.le_of_ble_eq_true rfl)) dX4_plainEnd_162 ⟨Nat.zero_le _, Nat.zero_le _⟩) (fun H locs hP hD hS => ?_)
    have hP : va_P (dC, dI) vwCl [(h_this, .inr (4, [.ref h_shares, .ref h_shown, .ref h_shownOfY, .ref h_triple, .ref h_view, .ref h_trial, .ref h_plain, .int v_views, .int v_viewAsNumber, .int v_hand, .int v_modulus, .int v_nextLot, .int v_nextInput])), (h_trial, .inl (k_trial, 4, .inl v_trial)), (h_plain, .inl (k_plain, 16, .inl v_plain)), (h_a1, .inr (2, [.ref h_a1_cells, .ref h_a1_depths, .int v_a1_became, .int v_a1_items, .int v_a1_inputs, .int v_a1_muls])), (h_a1_cells, .inl (k_a1_cells, 96, .inl v_a1_cells))] H := hP
    have hD : va_D A [(h_this, .inr (4, [.ref h_shares, .ref h_shown, .ref h_shownOfY, .ref h_triple, .ref h_view, .ref h_trial, .ref h_plain, .int v_views, .int v_viewAsNumber, .int v_hand, .int v_modulus, .int v_nextLot, .int v_nextInput])), (h_trial, .inl (k_trial, 4, .inl v_trial)), (h_plain, .inl (k_plain, 16, .inl v_plain)), (h_a1, .inr (2, [.ref h_a1_cells, .ref h_a1_depths, .int v_a1_became, .int v_a1_items, .int v_a1_inputs, .int v_a1_muls])), (h_a1_cells, .inl (k_a1_cells, 96, .inl v_a1_cells))] := hD
    refine lv_iload hx hb dX4_plainEnd_165 (lv_at hl 4 rfl) ?_
    refine lv_aload_n hx hb dX4_plainEnd_167 rfl (lv_at hl 0 rfl) ?_
    refine va_get (D := (dC, dI)) (ci := 4) (v := .int v_modulus) (C := RX4) (T := TX4) (N := 13) hx hb hts in_X4 hown hK hP 0 rfl rfl 10 (by decide) hL52 (fun _ h9 => h9) rfl dX4_plainEnd_168 ?_
    obtain ⟨z_171, hz_171, hF⟩ := gi_bind hF
    refine gRi (wc := []) (wr := [(h_this, .inr (4, [.ref h_shares, .ref h_shown, .ref h_shownOfY, .ref h_triple, .ref h_view, .ref h_trial, .ref h_plain, .int v_views, .int v_viewAsNumber, .int v_hand, .int v_modulus, .int v_nextLot, .int v_nextInput])), (h_trial, .inl (k_trial, 4, .inl v_trial)), (h_plain, .inl (k_plain, 16, .inl v_plain)), (h_a1, .inr (2, [.ref h_a1_cells, .ref h_a1_depths, .int v_a1_became, .int v_a1_items, .int v_a1_inputs, .int v_a1_muls])), (h_a1_cells, .inl (k_a1_cells, 96, .inl v_a1_cells))]) (w1 := []) hP hD hS hA [] [0, 1, 2, 3, 4] rfl rfl (by decide) (by decide) (va_runSN (As := [.int y6, .int v_modulus]) (rest := [.int z_162, .ref h_plain]) CF (t_X9_mod l dC dI H.size y6 v_modulus N z_171 hz_171) cw118 (gPS hP hD hK hN [] [] (by decide) rfl rfl) rfl rfl hl.1 rfl (lv_room (Nat.le_of_ble_eq_true rfl)) dX4_plainEnd_171 ⟨Nat.zero_le _, Nat.zero_le _⟩) (fun H locs hP hD hS => ?_)
    have hP : va_P (dC, dI) vwCl [(h_this, .inr (4, [.ref h_shares, .ref h_shown, .ref h_shownOfY, .ref h_triple, .ref h_view, .ref h_trial, .ref h_plain, .int v_views, .int v_viewAsNumber, .int v_hand, .int v_modulus, .int v_nextLot, .int v_nextInput])), (h_trial, .inl (k_trial, 4, .inl v_trial)), (h_plain, .inl (k_plain, 16, .inl v_plain)), (h_a1, .inr (2, [.ref h_a1_cells, .ref h_a1_depths, .int v_a1_became, .int v_a1_items, .int v_a1_inputs, .int v_a1_muls])), (h_a1_cells, .inl (k_a1_cells, 96, .inl v_a1_cells))] H := hP
    have hD : va_D A [(h_this, .inr (4, [.ref h_shares, .ref h_shown, .ref h_shownOfY, .ref h_triple, .ref h_view, .ref h_trial, .ref h_plain, .int v_views, .int v_viewAsNumber, .int v_hand, .int v_modulus, .int v_nextLot, .int v_nextInput])), (h_trial, .inl (k_trial, 4, .inl v_trial)), (h_plain, .inl (k_plain, 16, .inl v_plain)), (h_a1, .inr (2, [.ref h_a1_cells, .ref h_a1_depths, .int v_a1_became, .int v_a1_items, .int v_a1_inputs, .int v_a1_muls])), (h_a1_cells, .inl (k_a1_cells, 96, .inl v_a1_cells))] := hD
    obtain ⟨z_174, hz_174, hF⟩ := gi_bind hF
    refine gRv (wc := [(h_plain, .inl (k_plain, 16, .inl v_plain))]) (wr := [(h_this, .inr (4, [.ref h_shares, .ref h_shown, .ref h_shownOfY, .ref h_triple, .ref h_view, .ref h_trial, .ref h_plain, .int v_views, .int v_viewAsNumber, .int v_hand, .int v_modulus, .int v_nextLot, .int v_nextInput])), (h_trial, .inl (k_trial, 4, .inl v_trial)), (h_a1, .inr (2, [.ref h_a1_cells, .ref h_a1_depths, .int v_a1_became, .int v_a1_items, .int v_a1_inputs, .int v_a1_muls])), (h_a1_cells, .inl (k_a1_cells, 96, .inl v_a1_cells))]) (w1 := [(h_plain, .inl (k_plain, 16, .inl z_174))]) hP hD hS hA [2] [0, 1, 3, 4] rfl rfl (by decide) (by decide) (va_runSN (As := [.ref h_plain, .int z_162, .int z_171]) (rest := []) CF (t_X9_put l dC dI h_plain k_plain 16 v_plain H.size z_162 z_171 N z_174 hz_174) cw121 (gPS hP hD hK hN [2] [1] (by decide) rfl rfl) rfl rfl hl.1 rfl (lv_room (Nat.le_of_ble_eq_true rfl)) dX4_plainEnd_174 ⟨Nat.zero_le _, Nat.zero_le _⟩) (fun H locs hP hD hS => ?_)
    have hP : va_P (dC, dI) vwCl [(h_this, .inr (4, [.ref h_shares, .ref h_shown, .ref h_shownOfY, .ref h_triple, .ref h_view, .ref h_trial, .ref h_plain, .int v_views, .int v_viewAsNumber, .int v_hand, .int v_modulus, .int v_nextLot, .int v_nextInput])), (h_trial, .inl (k_trial, 4, .inl v_trial)), (h_a1, .inr (2, [.ref h_a1_cells, .ref h_a1_depths, .int v_a1_became, .int v_a1_items, .int v_a1_inputs, .int v_a1_muls])), (h_a1_cells, .inl (k_a1_cells, 96, .inl v_a1_cells)), (h_plain, .inl (k_plain, 16, .inl z_174))] H := hP
    have hD : va_D A [(h_this, .inr (4, [.ref h_shares, .ref h_shown, .ref h_shownOfY, .ref h_triple, .ref h_view, .ref h_trial, .ref h_plain, .int v_views, .int v_viewAsNumber, .int v_hand, .int v_modulus, .int v_nextLot, .int v_nextInput])), (h_trial, .inl (k_trial, 4, .inl v_trial)), (h_a1, .inr (2, [.ref h_a1_cells, .ref h_a1_depths, .int v_a1_became, .int v_a1_items, .int v_a1_inputs, .int v_a1_muls])), (h_a1_cells, .inl (k_a1_cells, 96, .inl v_a1_cells)), (h_plain, .inl (k_plain, 16, .inl z_174))] := hD
    refine lv_iinc (v := (y3 + 1)) (lv' := [(3, .int (y3 + 1)), (0, .ref h_this), (1, .ref h_a1), (2, .int y2), (6, .int y6)]) hx hb dX4_plainEnd_177 hl (k := 3) rfl rfl (by decide) rfl (fun ls hl => ?_)
    refine lv_goto (tgt := 4) hx hb dX4_plainEnd_180 (by decide) ?_
    exact g_4 z_174 y2 (y3 + 1) _ _ _ hF (hP.sub [0, 1, 4, 2, 3] rfl) (hD.sub [0, 1, 4, 2, 3] (by decide) rfl) hS (lv_sub hl [1, 2, 3, 0] rfl)
  have k_141 : ∀ (v_plain : Nat → Int32) (y3 : Int32) (H : Heap) (locs : List Loc) (ls : Array Slot), f_X4_plainEnd_141 N v_modulus v_trial v_a1_items v_a1_cells v_plain y3 = some out → va_P (dC, dI) vwCl [(h_this, .inr (4, [.ref h_shares, .ref h_shown, .ref h_shownOfY, .ref h_triple, .ref h_view, .ref h_trial, .ref h_plain, .int v_views, .int v_viewAsNumber, .int v_hand, .int v_modulus, .int v_nextLot, .int v_nextInput])), (h_trial, .inl (k_trial, 4, .inl v_trial)), (h_plain, .inl (k_plain, 16, .inl v_plain)), (h_a1, .inr (2, [.ref h_a1_cells, .ref h_a1_depths, .int v_a1_became, .int v_a1_items, .int v_a1_inputs, .int v_a1_muls])), (h_a1_cells, .inl (k_a1_cells, 96, .inl v_a1_cells))] H → va_D A [(h_this, .inr (4, [.ref h_shares, .ref h_shown, .ref h_shownOfY, .ref h_triple, .ref h_view, .ref h_trial, .ref h_plain, .int v_views, .int v_viewAsNumber, .int v_hand, .int v_modulus, .int v_nextLot, .int v_nextInput])), (h_trial, .inl (k_trial, 4, .inl v_trial)), (h_plain, .inl (k_plain, 16, .inl v_plain)), (h_a1, .inr (2, [.ref h_a1_cells, .ref h_a1_depths, .int v_a1_became, .int v_a1_items, .int v_a1_inputs, .int v_a1_muls])), (h_a1_cells, .inl (k_a1_cells, 96, .inl v_a1_cells))] → va_S A s.heap H locs → lv_has ls 7 [(0, .ref h_this), (1, .ref h_a1), (3, .int y3)] → W p l e ({ frames := 2, cells := 0, slots := 0, locals := 43 } : Room) s m args below meth c H locs 0 0 Q (F0 m 141 ls []) := by
    intro v_plain y3 H locs ls hF hP hD hS hl
    unfold f_X4_plainEnd_141 at hF
    refine lv_aload_n hx hb dX4_plainEnd_141 rfl (lv_at hl 0 rfl) ?_
    refine va_get (D := (dC, dI)) (ci := 4) (v := .ref h_plain) (C := RX4) (T := TX4) (N := 13) hx hb hts in_X4 hown hK hP 0 rfl rfl 6 (by decide) hL30 (fun _ h9 => h9) rfl dX4_plainEnd_142 ?_
    refine lv_aload_n hx hb dX4_plainEnd_145 rfl (lv_at hl 1 rfl) ?_
    refine lv_iload_n hx hb dX4_plainEnd_146 rfl (lv_at hl 2 rfl) ?_
    refine lv_iconst (v := (1 : Int32)) hx hb dX4_plainEnd_147 (by decide) ?_
    obtain ⟨z_148, hz_148, hF⟩ := gi_bind hF
    refine gRi (wc := [(h_a1, .inr (2, [.ref h_a1_cells, .ref h_a1_depths, .int v_a1_became, .int v_a1_items, .int v_a1_inputs, .int v_a1_muls])), (h_a1_cells, .inl (k_a1_cells, 96, .inl v_a1_cells))]) (wr := [(h_this, .inr (4, [.ref h_shares, .ref h_shown, .ref h_shownOfY, .ref h_triple, .ref h_view, .ref h_trial, .ref h_plain, .int v_views, .int v_viewAsNumber, .int v_hand, .int v_modulus, .int v_nextLot, .int v_nextInput])), (h_trial, .inl (k_trial, 4, .inl v_trial)), (h_plain, .inl (k_plain, 16, .inl v_plain))]) (w1 := [(h_a1, .inr (2, [.ref h_a1_cells, .ref h_a1_depths, .int v_a1_became, .int v_a1_items, .int v_a1_inputs, .int v_a1_muls])), (h_a1_cells, .inl (k_a1_cells, 96, .inl v_a1_cells))]) hP hD hS hA [3, 4] [0, 1, 2] rfl rfl (by decide) (by decide) (va_runV (As := [.int y3, .int (1 : Int32)]) (rest := [.ref h_plain]) CF (t_X2_cell l dC dI h_a1 h_a1_cells h_a1_depths v_a1_became v_a1_items v_a1_inputs v_a1_muls k_a1_cells v_a1_cells H.size y3 (1 : Int32) N z_148 hz_148) cw147 (gPV (ci := 2) hP hD hK hN [3, 4] [2] (by decide) rfl rfl (q0 := 3) rfl rfl) rfl rfl hl.1 rfl (lv_room (Nat.le_of_ble_eq_true rfl)) dX4_plainEnd_148 ⟨Nat.zero_le _, Nat.zero_le _⟩) (fun H locs hP hD hS => ?_)
    have hP : va_P (dC, dI) vwCl [(h_this, .inr (4, [.ref h_shares, .ref h_shown, .ref h_shownOfY, .ref h_triple, .ref h_view, .ref h_trial, .ref h_plain, .int v_views, .int v_viewAsNumber, .int v_hand, .int v_modulus, .int v_nextLot, .int v_nextInput])), (h_trial, .inl (k_trial, 4, .inl v_trial)), (h_plain, .inl (k_plain, 16, .inl v_plain)), (h_a1, .inr (2, [.ref h_a1_cells, .ref h_a1_depths, .int v_a1_became, .int v_a1_items, .int v_a1_inputs, .int v_a1_muls])), (h_a1_cells, .inl (k_a1_cells, 96, .inl v_a1_cells))] H := hP
    have hD : va_D A [(h_this, .inr (4, [.ref h_shares, .ref h_shown, .ref h_shownOfY, .ref h_triple, .ref h_view, .ref h_trial, .ref h_plain, .int v_views, .int v_viewAsNumber, .int v_hand, .int v_modulus, .int v_nextLot, .int v_nextInput])), (h_trial, .inl (k_trial, 4, .inl v_trial)), (h_plain, .inl (k_plain, 16, .inl v_plain)), (h_a1, .inr (2, [.ref h_a1_cells, .ref h_a1_depths, .int v_a1_became, .int v_a1_items, .int v_a1_inputs, .int v_a1_muls])), (h_a1_cells, .inl (k_a1_cells, 96, .inl v_a1_cells))] := hD
    obtain ⟨z_151, hz_151, hF⟩ := gi_bind hF
    refine gRi (wc := [(h_plain, .inl (k_plain, 16, .inl v_plain))]) (wr := [(h_this, .inr (4, [.ref h_shares, .ref h_shown, .ref h_shownOfY, .ref h_triple, .ref h_view, .ref h_trial, .ref h_plain, .int v_views, .int v_viewAsNumber, .int v_hand, .int v_modulus, .int v_nextLot, .int v_nextInput])), (h_trial, .inl (k_trial, 4, .inl v_trial)), (h_a1, .inr (2, [.ref h_a1_cells, .ref h_a1_depths, .int v_a1_became, .int v_a1_items, .int v_a1_inputs, .int v_a1_muls])), (h_a1_cells, .inl (k_a1_cells, 96, .inl v_a1_cells))]) (w1 := [(h_plain, .inl (k_plain, 16, .inl v_plain))]) hP hD hS hA [2] [0, 1, 3, 4] rfl rfl (by decide) (by decide) (va_runSN (As := [.ref h_plain, .int z_148]) (rest := []) CF (t_X9_at l dC dI h_plain k_plain 16 v_plain H.size z_148 N z_151 hz_151) cw114 (gPS hP hD hK hN [2] [1] (by decide) rfl rfl) rfl rfl hl.1 rfl (lv_room (Nat.le_of_ble_eq_true rfl)) dX4_plainEnd_151 ⟨Nat.zero_le _, Nat.zero_le _⟩) (fun H locs hP hD hS => ?_)
    have hP : va_P (dC, dI) vwCl [(h_this, .inr (4, [.ref h_shares, .ref h_shown, .ref h_shownOfY, .ref h_triple, .ref h_view, .ref h_trial, .ref h_plain, .int v_views, .int v_viewAsNumber, .int v_hand, .int v_modulus, .int v_nextLot, .int v_nextInput])), (h_trial, .inl (k_trial, 4, .inl v_trial)), (h_a1, .inr (2, [.ref h_a1_cells, .ref h_a1_depths, .int v_a1_became, .int v_a1_items, .int v_a1_inputs, .int v_a1_muls])), (h_a1_cells, .inl (k_a1_cells, 96, .inl v_a1_cells)), (h_plain, .inl (k_plain, 16, .inl v_plain))] H := hP
    have hD : va_D A [(h_this, .inr (4, [.ref h_shares, .ref h_shown, .ref h_shownOfY, .ref h_triple, .ref h_view, .ref h_trial, .ref h_plain, .int v_views, .int v_viewAsNumber, .int v_hand, .int v_modulus, .int v_nextLot, .int v_nextInput])), (h_trial, .inl (k_trial, 4, .inl v_trial)), (h_a1, .inr (2, [.ref h_a1_cells, .ref h_a1_depths, .int v_a1_became, .int v_a1_items, .int v_a1_inputs, .int v_a1_muls])), (h_a1_cells, .inl (k_a1_cells, 96, .inl v_a1_cells)), (h_plain, .inl (k_plain, 16, .inl v_plain))] := hD
    have hF := Option.some.inj hF
    subst hF
    exact hret _ _ _ _ dX4_plainEnd_154 (hP.sub [0, 1, 4, 2, 3] rfl) (hD.sub [0, 1, 4, 2, 3] (by decide) rfl) hS
  have k_4 : ∀ (n : Nat) (v_plain : Nat → Int32) (y2 : Int32) (y3 : Int32) (H : Heap) (locs : List Loc) (ls : Array Slot), f_X4_plainEnd_4 N v_modulus v_trial v_a1_items v_a1_cells n v_plain y2 y3 = some out → va_P (dC, dI) vwCl [(h_this, .inr (4, [.ref h_shares, .ref h_shown, .ref h_shownOfY, .ref h_triple, .ref h_view, .ref h_trial, .ref h_plain, .int v_views, .int v_viewAsNumber, .int v_hand, .int v_modulus, .int v_nextLot, .int v_nextInput])), (h_trial, .inl (k_trial, 4, .inl v_trial)), (h_plain, .inl (k_plain, 16, .inl v_plain)), (h_a1, .inr (2, [.ref h_a1_cells, .ref h_a1_depths, .int v_a1_became, .int v_a1_items, .int v_a1_inputs, .int v_a1_muls])), (h_a1_cells, .inl (k_a1_cells, 96, .inl v_a1_cells))] H → va_D A [(h_this, .inr (4, [.ref h_shares, .ref h_shown, .ref h_shownOfY, .ref h_triple, .ref h_view, .ref h_trial, .ref h_plain, .int v_views, .int v_viewAsNumber, .int v_hand, .int v_modulus, .int v_nextLot, .int v_nextInput])), (h_trial, .inl (k_trial, 4, .inl v_trial)), (h_plain, .inl (k_plain, 16, .inl v_plain)), (h_a1, .inr (2, [.ref h_a1_cells, .ref h_a1_depths, .int v_a1_became, .int v_a1_items, .int v_a1_inputs, .int v_a1_muls])), (h_a1_cells, .inl (k_a1_cells, 96, .inl v_a1_cells))] → va_S A s.heap H locs → lv_has ls 7 [(0, .ref h_this), (1, .ref h_a1), (2, .int y2), (3, .int y3)] → W p l e ({ frames := 2, cells := 0, slots := 0, locals := 43 } : Room) s m args below meth c H locs 0 0 Q (F0 m 4 ls []) := by
    intro n
    induction n with
    | zero =>
      intro v_plain y2 y3 H locs ls hF
      have hF : (none : Option O_X4_plainEnd) = some out := hF
      cases hF
    | succ n ih =>
      intro v_plain y2 y3 H locs ls hF hP hD hS hl
      have hF : s_X4_plainEnd_4 N v_modulus v_trial v_a1_items v_a1_cells (f_X4_plainEnd_4 N v_modulus v_trial v_a1_items v_a1_cells n) v_plain y2 y3 = some out := hF
      generalize f_X4_plainEnd_4 N v_modulus v_trial v_a1_items v_a1_cells n = r_4 at hF ih
      have g_4 : ∀ (v_plain : Nat → Int32) (y2 : Int32) (y3 : Int32) (H : Heap) (locs : List Loc) (ls : Array Slot), r_4 v_plain y2 y3 = some out → va_P (dC, dI) vwCl [(h_this, .inr (4, [.ref h_shares, .ref h_shown, .ref h_shownOfY, .ref h_triple, .ref h_view, .ref h_trial, .ref h_plain, .int v_views, .int v_viewAsNumber, .int v_hand, .int v_modulus, .int v_nextLot, .int v_nextInput])), (h_trial, .inl (k_trial, 4, .inl v_trial)), (h_plain, .inl (k_plain, 16, .inl v_plain)), (h_a1, .inr (2, [.ref h_a1_cells, .ref h_a1_depths, .int v_a1_became, .int v_a1_items, .int v_a1_inputs, .int v_a1_muls])), (h_a1_cells, .inl (k_a1_cells, 96, .inl v_a1_cells))] H → va_D A [(h_this, .inr (4, [.ref h_shares, .ref h_shown, .ref h_shownOfY, .ref h_triple, .ref h_view, .ref h_trial, .ref h_plain, .int v_views, .int v_viewAsNumber, .int v_hand, .int v_modulus, .int v_nextLot, .int v_nextInput])), (h_trial, .inl (k_trial, 4, .inl v_trial)), (h_plain, .inl (k_plain, 16, .inl v_plain)), (h_a1, .inr (2, [.ref h_a1_cells, .ref h_a1_depths, .int v_a1_became, .int v_a1_items, .int v_a1_inputs, .int v_a1_muls])), (h_a1_cells, .inl (k_a1_cells, 96, .inl v_a1_cells))] → va_S A s.heap H locs → lv_has ls 7 [(0, .ref h_this), (1, .ref h_a1), (2, .int y2), (3, .int y3)] → W p l e ({ frames := 2, cells := 0, slots := 0, locals := 43 } : Room) s m args below meth c H locs 0 0 Q (F0 m 4 ls []) := ih
      clear ih
      unfold s_X4_plainEnd_4 at hF
      refine lv_iload_n hx hb dX4_plainEnd_4 rfl (lv_at hl 3 rfl) ?_
      refine lv_aload_n hx hb dX4_plainEnd_5 rfl (lv_at hl 1 rfl) ?_
      refine va_getN (D := (dC, dI)) (ci := 2) (v := .int v_a1_items) (C := RX2) (T := TX2) (N := 6) hx hb hts in_X2 hown hK hP 3 rfl rfl 3 (by decide) hL74 (fun _ h9 => h9) rfl dX4_plainEnd_6 ?_
      refine lv_icmp_ge (tgt := 183) hx hb dX4_plainEnd_9 (by decide) (fun c_9 => ?_) (fun c_9 => ?_)
      · have hF := gi_t c_9 hF
        refine lv_iconst (v := (0 : Int32)) hx hb dX4_plainEnd_183 (by decide) ?_
        have hF := Option.some.inj hF
        subst hF
        exact hret _ _ _ _ dX4_plainEnd_184 hP hD hS
      · have hF := gi_f c_9 hF
        refine lv_aload_n hx hb dX4_plainEnd_12 rfl (lv_at hl 0 rfl) ?_
        refine va_get (D := (dC, dI)) (ci := 4) (v := .ref h_plain) (C := RX4) (T := TX4) (N := 13) hx hb hts in_X4 hown hK hP 0 rfl rfl 6 (by decide) hL30 (fun _ h9 => h9) rfl dX4_plainEnd_13 ?_
        refine lv_aload_n hx hb dX4_plainEnd_16 rfl (lv_at hl 1 rfl) ?_
        refine lv_iload_n hx hb dX4_plainEnd_17 rfl (lv_at hl 3 rfl) ?_
        refine lv_iconst (v := (2 : Int32)) hx hb dX4_plainEnd_18 (by decide) ?_
        obtain ⟨z_19, hz_19, hF⟩ := gi_bind hF
        refine gRi (wc := [(h_a1, .inr (2, [.ref h_a1_cells, .ref h_a1_depths, .int v_a1_became, .int v_a1_items, .int v_a1_inputs, .int v_a1_muls])), (h_a1_cells, .inl (k_a1_cells, 96, .inl v_a1_cells))]) (wr := [(h_this, .inr (4, [.ref h_shares, .ref h_shown, .ref h_shownOfY, .ref h_triple, .ref h_view, .ref h_trial, .ref h_plain, .int v_views, .int v_viewAsNumber, .int v_hand, .int v_modulus, .int v_nextLot, .int v_nextInput])), (h_trial, .inl (k_trial, 4, .inl v_trial)), (h_plain, .inl (k_plain, 16, .inl v_plain))]) (w1 := [(h_a1, .inr (2, [.ref h_a1_cells, .ref h_a1_depths, .int v_a1_became, .int v_a1_items, .int v_a1_inputs, .int v_a1_muls])), (h_a1_cells, .inl (k_a1_cells, 96, .inl v_a1_cells))]) hP hD hS hA [3, 4] [0, 1, 2] rfl rfl (by decide) (by decide) (va_runV (As := [.int y3, .int (2 : Int32)]) (rest := [.ref h_plain]) CF (t_X2_cell l dC dI h_a1 h_a1_cells h_a1_depths v_a1_became v_a1_items v_a1_inputs v_a1_muls k_a1_cells v_a1_cells H.size y3 (2 : Int32) N z_19 hz_19) cw147 (gPV (ci := 2) hP hD hK hN [3, 4] [2] (by decide) rfl rfl (q0 := 3) rfl rfl) rfl rfl hl.1 rfl (lv_room (Nat.le_of_ble_eq_true rfl)) dX4_plainEnd_19 ⟨Nat.zero_le _, Nat.zero_le _⟩) (fun H locs hP hD hS => ?_)
        have hP : va_P (dC, dI) vwCl [(h_this, .inr (4, [.ref h_shares, .ref h_shown, .ref h_shownOfY, .ref h_triple, .ref h_view, .ref h_trial, .ref h_plain, .int v_views, .int v_viewAsNumber, .int v_hand, .int v_modulus, .int v_nextLot, .int v_nextInput])), (h_trial, .inl (k_trial, 4, .inl v_trial)), (h_plain, .inl (k_plain, 16, .inl v_plain)), (h_a1, .inr (2, [.ref h_a1_cells, .ref h_a1_depths, .int v_a1_became, .int v_a1_items, .int v_a1_inputs, .int v_a1_muls])), (h_a1_cells, .inl (k_a1_cells, 96, .inl v_a1_cells))] H := hP
        have hD : va_D A [(h_this, .inr (4, [.ref h_shares, .ref h_shown, .ref h_shownOfY, .ref h_triple, .ref h_view, .ref h_trial, .ref h_plain, .int v_views, .int v_viewAsNumber, .int v_hand, .int v_modulus, .int v_nextLot, .int v_nextInput])), (h_trial, .inl (k_trial, 4, .inl v_trial)), (h_plain, .inl (k_plain, 16, .inl v_plain)), (h_a1, .inr (2, [.ref h_a1_cells, .ref h_a1_depths, .int v_a1_became, .int v_a1_items, .int v_a1_inputs, .int v_a1_muls])), (h_a1_cells, .inl (k_a1_cells, 96, .inl v_a1_cells))] := hD
        obtain ⟨z_22, hz_22, hF⟩ := gi_bind hF
        refine gRi (wc := [(h_plain, .inl (k_plain, 16, .inl v_plain))]) (wr := [(h_this, .inr (4, [.ref h_shares, .ref h_shown, .ref h_shownOfY, .ref h_triple, .ref h_view, .ref h_trial, .ref h_plain, .int v_views, .int v_viewAsNumber, .int v_hand, .int v_modulus, .int v_nextLot, .int v_nextInput])), (h_trial, .inl (k_trial, 4, .inl v_trial)), (h_a1, .inr (2, [.ref h_a1_cells, .ref h_a1_depths, .int v_a1_became, .int v_a1_items, .int v_a1_inputs, .int v_a1_muls])), (h_a1_cells, .inl (k_a1_cells, 96, .inl v_a1_cells))]) (w1 := [(h_plain, .inl (k_plain, 16, .inl v_plain))]) hP hD hS hA [2] [0, 1, 3, 4] rfl rfl (by decide) (by decide) (va_runSN (As := [.ref h_plain, .int z_19]) (rest := []) CF (t_X9_at l dC dI h_plain k_plain 16 v_plain H.size z_19 N z_22 hz_22) cw114 (gPS hP hD hK hN [2] [1] (by decide) rfl rfl) rfl rfl hl.1 rfl (lv_room (Nat.le_of_ble_eq_true rfl)) dX4_plainEnd_22 ⟨Nat.zero_le _, Nat.zero_le _⟩) (fun H locs hP hD hS => ?_)
        have hP : va_P (dC, dI) vwCl [(h_this, .inr (4, [.ref h_shares, .ref h_shown, .ref h_shownOfY, .ref h_triple, .ref h_view, .ref h_trial, .ref h_plain, .int v_views, .int v_viewAsNumber, .int v_hand, .int v_modulus, .int v_nextLot, .int v_nextInput])), (h_trial, .inl (k_trial, 4, .inl v_trial)), (h_a1, .inr (2, [.ref h_a1_cells, .ref h_a1_depths, .int v_a1_became, .int v_a1_items, .int v_a1_inputs, .int v_a1_muls])), (h_a1_cells, .inl (k_a1_cells, 96, .inl v_a1_cells)), (h_plain, .inl (k_plain, 16, .inl v_plain))] H := hP
        have hD : va_D A [(h_this, .inr (4, [.ref h_shares, .ref h_shown, .ref h_shownOfY, .ref h_triple, .ref h_view, .ref h_trial, .ref h_plain, .int v_views, .int v_viewAsNumber, .int v_hand, .int v_modulus, .int v_nextLot, .int v_nextInput])), (h_trial, .inl (k_trial, 4, .inl v_trial)), (h_a1, .inr (2, [.ref h_a1_cells, .ref h_a1_depths, .int v_a1_became, .int v_a1_items, .int v_a1_inputs, .int v_a1_muls])), (h_a1_cells, .inl (k_a1_cells, 96, .inl v_a1_cells)), (h_plain, .inl (k_plain, 16, .inl v_plain))] := hD
        refine lv_istore (lv' := [(4, .int z_22), (0, .ref h_this), (1, .ref h_a1), (2, .int y2), (3, .int y3)]) hx hb dX4_plainEnd_25 hl (by decide) rfl (fun ls hl => ?_)
        refine lv_aload_n hx hb dX4_plainEnd_27 rfl (lv_at hl 1 rfl) ?_
        refine va_get (D := (dC, dI)) (ci := 4) (v := .ref h_plain) (C := RX4) (T := TX4) (N := 13) hx hb hts in_X4 hown hK hP 0 rfl rfl 6 (by decide) hL30 (fun _ h9 => h9) rfl dX4_plainEnd_28 ?_
        refine lv_aload_n hx hb dX4_plainEnd_31 rfl (lv_at hl 2 rfl) ?_
        refine lv_iload_n hx hb dX4_plainEnd_32 rfl (lv_at hl 4 rfl) ?_
        refine lv_iconst (v := (3 : Int32)) hx hb dX4_plainEnd_33 (by decide) ?_
        obtain ⟨z_34, hz_34, hF⟩ := gi_bind hF
        refine gRi (wc := [(h_a1, .inr (2, [.ref h_a1_cells, .ref h_a1_depths, .int v_a1_became, .int v_a1_items, .int v_a1_inputs, .int v_a1_muls])), (h_a1_cells, .inl (k_a1_cells, 96, .inl v_a1_cells))]) (wr := [(h_this, .inr (4, [.ref h_shares, .ref h_shown, .ref h_shownOfY, .ref h_triple, .ref h_view, .ref h_trial, .ref h_plain, .int v_views, .int v_viewAsNumber, .int v_hand, .int v_modulus, .int v_nextLot, .int v_nextInput])), (h_trial, .inl (k_trial, 4, .inl v_trial)), (h_plain, .inl (k_plain, 16, .inl v_plain))]) (w1 := [(h_a1, .inr (2, [.ref h_a1_cells, .ref h_a1_depths, .int v_a1_became, .int v_a1_items, .int v_a1_inputs, .int v_a1_muls])), (h_a1_cells, .inl (k_a1_cells, 96, .inl v_a1_cells))]) hP hD hS hA [2, 3] [0, 1, 4] rfl rfl (by decide) (by decide) (va_runV (As := [.int y3, .int (3 : Int32)]) (rest := [.ref h_plain]) CF (t_X2_cell l dC dI h_a1 h_a1_cells h_a1_depths v_a1_became v_a1_items v_a1_inputs v_a1_muls k_a1_cells v_a1_cells H.size y3 (3 : Int32) N z_34 hz_34) cw147 (gPV (ci := 2) hP hD hK hN [2, 3] [2] (by decide) rfl rfl (q0 := 2) rfl rfl) rfl rfl hl.1 rfl (lv_room (Nat.le_of_ble_eq_true rfl)) dX4_plainEnd_34 ⟨Nat.zero_le _, Nat.zero_le _⟩) (fun H locs hP hD hS => ?_)
        have hP : va_P (dC, dI) vwCl [(h_this, .inr (4, [.ref h_shares, .ref h_shown, .ref h_shownOfY, .ref h_triple, .ref h_view, .ref h_trial, .ref h_plain, .int v_views, .int v_viewAsNumber, .int v_hand, .int v_modulus, .int v_nextLot, .int v_nextInput])), (h_trial, .inl (k_trial, 4, .inl v_trial)), (h_plain, .inl (k_plain, 16, .inl v_plain)), (h_a1, .inr (2, [.ref h_a1_cells, .ref h_a1_depths, .int v_a1_became, .int v_a1_items, .int v_a1_inputs, .int v_a1_muls])), (h_a1_cells, .inl (k_a1_cells, 96, .inl v_a1_cells))] H := hP
        have hD : va_D A [(h_this, .inr (4, [.ref h_shares, .ref h_shown, .ref h_shownOfY, .ref h_triple, .ref h_view, .ref h_trial, .ref h_plain, .int v_views, .int v_viewAsNumber, .int v_hand, .int v_modulus, .int v_nextLot, .int v_nextInput])), (h_trial, .inl (k_trial, 4, .inl v_trial)), (h_plain, .inl (k_plain, 16, .inl v_plain)), (h_a1, .inr (2, [.ref h_a1_cells, .ref h_a1_depths, .int v_a1_became, .int v_a1_items, .int v_a1_inputs, .int v_a1_muls])), (h_a1_cells, .inl (k_a1_cells, 96, .inl v_a1_cells))] := hD
        obtain ⟨z_37, hz_37, hF⟩ := gi_bind hF
        refine gRi (wc := [(h_plain, .inl (k_plain, 16, .inl v_plain))]) (wr := [(h_this, .inr (4, [.ref h_shares, .ref h_shown, .ref h_shownOfY, .ref h_triple, .ref h_view, .ref h_trial, .ref h_plain, .int v_views, .int v_viewAsNumber, .int v_hand, .int v_modulus, .int v_nextLot, .int v_nextInput])), (h_trial, .inl (k_trial, 4, .inl v_trial)), (h_a1, .inr (2, [.ref h_a1_cells, .ref h_a1_depths, .int v_a1_became, .int v_a1_items, .int v_a1_inputs, .int v_a1_muls])), (h_a1_cells, .inl (k_a1_cells, 96, .inl v_a1_cells))]) (w1 := [(h_plain, .inl (k_plain, 16, .inl v_plain))]) hP hD hS hA [2] [0, 1, 3, 4] rfl rfl (by decide) (by decide) (va_runSN (As := [.ref h_plain, .int z_34]) (rest := []) CF (t_X9_at l dC dI h_plain k_plain 16 v_plain H.size z_34 N z_37 hz_37) cw114 (gPS hP hD hK hN [2] [1] (by decide) rfl rfl) rfl rfl hl.1 rfl (lv_room (Nat.le_of_ble_eq_true rfl)) dX4_plainEnd_37 ⟨Nat.zero_le _, Nat.zero_le _⟩) (fun H locs hP hD hS => ?_)
        have hP : va_P (dC, dI) vwCl [(h_this, .inr (4, [.ref h_shares, .ref h_shown, .ref h_shownOfY, .ref h_triple, .ref h_view, .ref h_trial, .ref h_plain, .int v_views, .int v_viewAsNumber, .int v_hand, .int v_modulus, .int v_nextLot, .int v_nextInput])), (h_trial, .inl (k_trial, 4, .inl v_trial)), (h_a1, .inr (2, [.ref h_a1_cells, .ref h_a1_depths, .int v_a1_became, .int v_a1_items, .int v_a1_inputs, .int v_a1_muls])), (h_a1_cells, .inl (k_a1_cells, 96, .inl v_a1_cells)), (h_plain, .inl (k_plain, 16, .inl v_plain))] H := hP
        have hD : va_D A [(h_this, .inr (4, [.ref h_shares, .ref h_shown, .ref h_shownOfY, .ref h_triple, .ref h_view, .ref h_trial, .ref h_plain, .int v_views, .int v_viewAsNumber, .int v_hand, .int v_modulus, .int v_nextLot, .int v_nextInput])), (h_trial, .inl (k_trial, 4, .inl v_trial)), (h_a1, .inr (2, [.ref h_a1_cells, .ref h_a1_depths, .int v_a1_became, .int v_a1_items, .int v_a1_inputs, .int v_a1_muls])), (h_a1_cells, .inl (k_a1_cells, 96, .inl v_a1_cells)), (h_plain, .inl (k_plain, 16, .inl v_plain))] := hD
        refine lv_istore (lv' := [(5, .int z_37), (4, .int z_22), (0, .ref h_this), (1, .ref h_a1), (2, .int y2), (3, .int y3)]) hx hb dX4_plainEnd_40 hl (by decide) rfl (fun ls hl => ?_)
        refine lv_iconst (v := (0 : Int32)) hx hb dX4_plainEnd_42 (by decide) ?_
        refine lv_istore (lv' := [(6, .int (0 : Int32)), (5, .int z_37), (4, .int z_22), (0, .ref h_this), (1, .ref h_a1), (2, .int y2), (3, .int y3)]) hx hb dX4_plainEnd_43 hl (by decide) rfl (fun ls hl => ?_)
        refine lv_aload_n hx hb dX4_plainEnd_45 rfl (lv_at hl 4 rfl) ?_
        refine lv_iload_n hx hb dX4_plainEnd_46 rfl (lv_at hl 6 rfl) ?_
        refine lv_iconst (v := (0 : Int32)) hx hb dX4_plainEnd_47 (by decide) ?_
        obtain ⟨z_48, hz_48, hF⟩ := gi_bind hF
        refine gRi (wc := [(h_a1, .inr (2, [.ref h_a1_cells, .ref h_a1_depths, .int v_a1_became, .int v_a1_items, .int v_a1_inputs, .int v_a1_muls])), (h_a1_cells, .inl (k_a1_cells, 96, .inl v_a1_cells))]) (wr := [(h_this, .inr (4, [.ref h_shares, .ref h_shown, .ref h_shownOfY, .ref h_triple, .ref h_view, .ref h_trial, .ref h_plain, .int v_views, .int v_viewAsNumber, .int v_hand, .int v_modulus, .int v_nextLot, .int v_nextInput])), (h_trial, .inl (k_trial, 4, .inl v_trial)), (h_plain, .inl (k_plain, 16, .inl v_plain))]) (w1 := [(h_a1, .inr (2, [.ref h_a1_cells, .ref h_a1_depths, .int v_a1_became, .int v_a1_items, .int v_a1_inputs, .int v_a1_muls])), (h_a1_cells, .inl (k_a1_cells, 96, .inl v_a1_cells))]) hP hD hS hA [2, 3] [0, 1, 4] rfl rfl (by decide) (by decide) (va_runV (As := [.int y3, .int (0 : Int32)]) (rest := []) CF (t_X2_cell l dC dI h_a1 h_a1_cells h_a1_depths v_a1_became v_a1_items v_a1_inputs v_a1_muls k_a1_cells v_a1_cells H.size y3 (0 : Int32) N z_48 hz_48) cw147 (gPV (ci := 2) hP hD hK hN [2, 3] [2] (by decide) rfl rfl (q0 := 2) rfl rfl) rfl rfl hl.1 rfl (lv_room (Nat.le_of_ble_eq_true rfl)) dX4_plainEnd_48 ⟨Nat.zero_le _, Nat.zero_le _⟩) (fun H locs hP hD hS => ?_)
        have hP : va_P (dC, dI) vwCl [(h_this, .inr (4, [.ref h_shares, .ref h_shown, .ref h_shownOfY, .ref h_triple, .ref h_view, .ref h_trial, .ref h_plain, .int v_views, .int v_viewAsNumber, .int v_hand, .int v_modulus, .int v_nextLot, .int v_nextInput])), (h_trial, .inl (k_trial, 4, .inl v_trial)), (h_plain, .inl (k_plain, 16, .inl v_plain)), (h_a1, .inr (2, [.ref h_a1_cells, .ref h_a1_depths, .int v_a1_became, .int v_a1_items, .int v_a1_inputs, .int v_a1_muls])), (h_a1_cells, .inl (k_a1_cells, 96, .inl v_a1_cells))] H := hP
        have hD : va_D A [(h_this, .inr (4, [.ref h_shares, .ref h_shown, .ref h_shownOfY, .ref h_triple, .ref h_view, .ref h_trial, .ref h_plain, .int v_views, .int v_viewAsNumber, .int v_hand, .int v_modulus, .int v_nextLot, .int v_nextInput])), (h_trial, .inl (k_trial, 4, .inl v_trial)), (h_plain, .inl (k_plain, 16, .inl v_plain)), (h_a1, .inr (2, [.ref h_a1_cells, .ref h_a1_depths, .int v_a1_became, .int v_a1_items, .int v_a1_inputs, .int v_a1_muls])), (h_a1_cells, .inl (k_a1_cells, 96, .inl v_a1_cells))] := hD
        by_cases c_51_0 : z_48 = (0 : Int32)
        · have hF := gi_t c_51_0 hF
          refine lv_tableIn (tgt := 84) hx hb dX4_plainEnd_51 (by rw [c_51_0] <;> decide) (by rw [c_51_0] <;> decide) (by rw [c_51_0] <;> rfl) (by decide) ?_
          refine lv_aload_n hx hb dX4_plainEnd_84 rfl (lv_at hl 3 rfl) ?_
          refine va_get (D := (dC, dI)) (ci := 4) (v := .ref h_trial) (C := RX4) (T := TX4) (N := 13) hx hb hts in_X4 hown hK hP 0 rfl rfl 5 (by decide) hL27 (fun _ h9 => h9) rfl dX4_plainEnd_85 ?_
          refine lv_iload_n hx hb dX4_plainEnd_88 rfl (lv_at hl 5 rfl) ?_
          obtain ⟨z_89, hz_89, hF⟩ := gi_bind hF
          refine gRi (wc := [(h_trial, .inl (k_trial, 4, .inl v_trial))]) (wr := [(h_this, .inr (4, [.ref h_shares, .ref h_shown, .ref h_shownOfY, .ref h_triple, .ref h_view, .ref h_trial, .ref h_plain, .int v_views, .int v_viewAsNumber, .int v_hand, .int v_modulus, .int v_nextLot, .int v_nextInput])), (h_plain, .inl (k_plain, 16, .inl v_plain)), (h_a1, .inr (2, [.ref h_a1_cells, .ref h_a1_depths, .int v_a1_became, .int v_a1_items, .int v_a1_inputs, .int v_a1_muls])), (h_a1_cells, .inl (k_a1_cells, 96, .inl v_a1_cells))]) (w1 := [(h_trial, .inl (k_trial, 4, .inl v_trial))]) hP hD hS hA [1] [0, 2, 3, 4] rfl rfl (by decide) (by decide) (va_runSN (As := [.ref h_trial, .int y2]) (rest := []) CF (t_X9_at l dC dI h_trial k_trial 4 v_trial H.size y2 N z_89 hz_89) cw114 (gPS hP hD hK hN [1] [0] (by decide) rfl rfl) rfl rfl hl.1 rfl (lv_room (Nat.le_of_ble_eq_true rfl)) dX4_plainEnd_89 ⟨Nat.zero_le _, Nat.zero_le _⟩) (fun H locs hP hD hS => ?_)
          have hP : va_P (dC, dI) vwCl [(h_this, .inr (4, [.ref h_shares, .ref h_shown, .ref h_shownOfY, .ref h_triple, .ref h_view, .ref h_trial, .ref h_plain, .int v_views, .int v_viewAsNumber, .int v_hand, .int v_modulus, .int v_nextLot, .int v_nextInput])), (h_plain, .inl (k_plain, 16, .inl v_plain)), (h_a1, .inr (2, [.ref h_a1_cells, .ref h_a1_depths, .int v_a1_became, .int v_a1_items, .int v_a1_inputs, .int v_a1_muls])), (h_a1_cells, .inl (k_a1_cells, 96, .inl v_a1_cells)), (h_trial, .inl (k_trial, 4, .inl v_trial))] H := hP
          have hD : va_D A [(h_this, .inr (4, [.ref h_shares, .ref h_shown, .ref h_shownOfY, .ref h_triple, .ref h_view, .ref h_trial, .ref h_plain, .int v_views, .int v_viewAsNumber, .int v_hand, .int v_modulus, .int v_nextLot, .int v_nextInput])), (h_plain, .inl (k_plain, 16, .inl v_plain)), (h_a1, .inr (2, [.ref h_a1_cells, .ref h_a1_depths, .int v_a1_became, .int v_a1_items, .int v_a1_inputs, .int v_a1_muls])), (h_a1_cells, .inl (k_a1_cells, 96, .inl v_a1_cells)), (h_trial, .inl (k_trial, 4, .inl v_trial))] := hD
          refine lv_istore (lv' := [(6, .int z_89), (5, .int z_37), (4, .int z_22), (0, .ref h_this), (1, .ref h_a1), (2, .int y2), (3, .int y3)]) hx hb dX4_plainEnd_92 hl (by decide) rfl (fun ls hl => ?_)
          refine lv_iinc (v := (y2 + 1)) (lv' := [(2, .int (y2 + 1)), (6, .int z_89), (5, .int z_37), (4, .int z_22), (0, .ref h_this), (1, .ref h_a1), (3, .int y3)]) hx hb dX4_plainEnd_94 hl (k := 5) rfl rfl (by decide) rfl (fun ls hl => ?_)
          refine lv_goto (tgt := 155) hx hb dX4_plainEnd_97 (by decide) ?_
          exact k_155 r_4 g_4 v_plain (y2 + 1) y3 z_89 _ _ _ hF (hP.sub [0, 4, 1, 2, 3] rfl) (hD.sub [0, 4, 1, 2, 3] (by decide) rfl) hS (lv_sub hl [4, 5, 0, 6, 1] rfl)
        · have hF := gi_f c_51_0 hF
          by_cases c_51_1 : z_48 = (1 : Int32)
          · have hF := gi_t c_51_1 hF
            refine lv_tableIn (tgt := 100) hx hb dX4_plainEnd_51 (by rw [c_51_1] <;> decide) (by rw [c_51_1] <;> decide) (by rw [c_51_1] <;> rfl) (by decide) ?_
            refine lv_aload_n hx hb dX4_plainEnd_100 rfl (lv_at hl 4 rfl) ?_
            refine lv_iload_n hx hb dX4_plainEnd_101 rfl (lv_at hl 6 rfl) ?_
            refine lv_iconst (v := (4 : Int32)) hx hb dX4_plainEnd_102 (by decide) ?_
            obtain ⟨z_103, hz_103, hF⟩ := gi_bind hF
            refine gRi (wc := [(h_a1, .inr (2, [.ref h_a1_cells, .ref h_a1_depths, .int v_a1_became, .int v_a1_items, .int v_a1_inputs, .int v_a1_muls])), (h_a1_cells, .inl (k_a1_cells, 96, .inl v_a1_cells))]) (wr := [(h_this, .inr (4, [.ref h_shares, .ref h_shown, .ref h_shownOfY, .ref h_triple, .ref h_view, .ref h_trial, .ref h_plain, .int v_views, .int v_viewAsNumber, .int v_hand, .int v_modulus, .int v_nextLot, .int v_nextInput])), (h_trial, .inl (k_trial, 4, .inl v_trial)), (h_plain, .inl (k_plain, 16, .inl v_plain))]) (w1 := [(h_a1, .inr (2, [.ref h_a1_cells, .ref h_a1_depths, .int v_a1_became, .int v_a1_items, .int v_a1_inputs, .int v_a1_muls])), (h_a1_cells, .inl (k_a1_cells, 96, .inl v_a1_cells))]) hP hD hS hA [3, 4] [0, 1, 2] rfl rfl (by decide) (by decide) (va_runV (As := [.int y3, .int (4 : Int32)]) (rest := []) CF (t_X2_cell l dC dI h_a1 h_a1_cells h_a1_depths v_a1_became v_a1_items v_a1_inputs v_a1_muls k_a1_cells v_a1_cells H.size y3 (4 : Int32) N z_103 hz_103) cw147 (gPV (ci := 2) hP hD hK hN [3, 4] [2] (by decide) rfl rfl (q0 := 3) rfl rfl) rfl rfl hl.1 rfl (lv_room (Nat.le_of_ble_eq_true rfl)) dX4_plainEnd_103 ⟨Nat.zero_le _, Nat.zero_le _⟩) (fun H locs hP hD hS => ?_)
            have hP : va_P (dC, dI) vwCl [(h_this, .inr (4, [.ref h_shares, .ref h_shown, .ref h_shownOfY, .ref h_triple, .ref h_view, .ref h_trial, .ref h_plain, .int v_views, .int v_viewAsNumber, .int v_hand, .int v_modulus, .int v_nextLot, .int v_nextInput])), (h_trial, .inl (k_trial, 4, .inl v_trial)), (h_plain, .inl (k_plain, 16, .inl v_plain)), (h_a1, .inr (2, [.ref h_a1_cells, .ref h_a1_depths, .int v_a1_became, .int v_a1_items, .int v_a1_inputs, .int v_a1_muls])), (h_a1_cells, .inl (k_a1_cells, 96, .inl v_a1_cells))] H := hP
            have hD : va_D A [(h_this, .inr (4, [.ref h_shares, .ref h_shown, .ref h_shownOfY, .ref h_triple, .ref h_view, .ref h_trial, .ref h_plain, .int v_views, .int v_viewAsNumber, .int v_hand, .int v_modulus, .int v_nextLot, .int v_nextInput])), (h_trial, .inl (k_trial, 4, .inl v_trial)), (h_plain, .inl (k_plain, 16, .inl v_plain)), (h_a1, .inr (2, [.ref h_a1_cells, .ref h_a1_depths, .int v_a1_became, .int v_a1_items, .int v_a1_inputs, .int v_a1_muls])), (h_a1_cells, .inl (k_a1_cells, 96, .inl v_a1_cells))] := hD
            refine lv_istore (lv' := [(6, .int z_103), (5, .int z_37), (4, .int z_22), (0, .ref h_this), (1, .ref h_a1), (2, .int y2), (3, .int y3)]) hx hb dX4_plainEnd_106 hl (by decide) rfl (fun ls hl => ?_)
            refine lv_goto (tgt := 155) hx hb dX4_plainEnd_108 (by decide) ?_
            exact k_155 r_4 g_4 v_plain y2 y3 z_103 _ _ _ hF hP hD hS (lv_sub hl [3, 4, 5, 6, 0] rfl)
          · have hF := gi_f c_51_1 hF
            by_cases c_51_2 : z_48 = (2 : Int32)
            · have hF := gi_t c_51_2 hF
              refine lv_tableIn (tgt := 111) hx hb dX4_plainEnd_51 (by rw [c_51_2] <;> decide) (by rw [c_51_2] <;> decide) (by rw [c_51_2] <;> rfl) (by decide) ?_
              refine lv_iload hx hb dX4_plainEnd_111 (lv_at hl 2 rfl) ?_
              refine lv_iload hx hb dX4_plainEnd_113 (lv_at hl 1 rfl) ?_
              refine lv_iadd hx hb dX4_plainEnd_115 ?_
              refine lv_istore (lv' := [(6, .int (z_22 + z_37)), (5, .int z_37), (4, .int z_22), (0, .ref h_this), (1, .ref h_a1), (2, .int y2), (3, .int y3)]) hx hb dX4_plainEnd_116 hl (by decide) rfl (fun ls hl => ?_)
              refine lv_goto (tgt := 155) hx hb dX4_plainEnd_118 (by decide) ?_
              exact k_155 r_4 g_4 v_plain y2 y3 (z_22 + z_37) _ _ _ hF hP hD hS (lv_sub hl [3, 4, 5, 6, 0] rfl)
            · have hF := gi_f c_51_2 hF
              by_cases c_51_3 : z_48 = (3 : Int32)
              · have hF := gi_t c_51_3 hF
                refine lv_tableIn (tgt := 121) hx hb dX4_plainEnd_51 (by rw [c_51_3] <;> decide) (by rw [c_51_3] <;> decide) (by rw [c_51_3] <;> rfl) (by decide) ?_
                refine lv_iload hx hb dX4_plainEnd_121 (lv_at hl 2 rfl) ?_
                refine lv_iload hx hb dX4_plainEnd_123 (lv_at hl 1 rfl) ?_
                refine lv_isub hx hb dX4_plainEnd_125 ?_
                refine lv_istore (lv' := [(6, .int (z_22 - z_37)), (5, .int z_37), (4, .int z_22), (0, .ref h_this), (1, .ref h_a1), (2, .int y2), (3, .int y3)]) hx hb dX4_plainEnd_126 hl (by decide) rfl (fun ls hl => ?_)
                refine lv_goto (tgt := 155) hx hb dX4_plainEnd_128 (by decide) ?_
                exact k_155 r_4 g_4 v_plain y2 y3 (z_22 - z_37) _ _ _ hF hP hD hS (lv_sub hl [3, 4, 5, 6, 0] rfl)
              · have hF := gi_f c_51_3 hF
                by_cases c_51_4 : z_48 = (4 : Int32)
                · have hF := gi_t c_51_4 hF
                  refine lv_tableIn (tgt := 131) hx hb dX4_plainEnd_51 (by rw [c_51_4] <;> decide) (by rw [c_51_4] <;> decide) (by rw [c_51_4] <;> rfl) (by decide) ?_
                  refine lv_iload hx hb dX4_plainEnd_131 (lv_at hl 2 rfl) ?_
                  refine lv_iload hx hb dX4_plainEnd_133 (lv_at hl 1 rfl) ?_
                  refine lv_imul hx hb dX4_plainEnd_135 ?_
                  refine lv_istore (lv' := [(6, .int (z_22 * z_37)), (5, .int z_37), (4, .int z_22), (0, .ref h_this), (1, .ref h_a1), (2, .int y2), (3, .int y3)]) hx hb dX4_plainEnd_136 hl (by decide) rfl (fun ls hl => ?_)
                  refine lv_goto (tgt := 155) hx hb dX4_plainEnd_138 (by decide) ?_
                  exact k_155 r_4 g_4 v_plain y2 y3 (z_22 * z_37) _ _ _ hF hP hD hS (lv_sub hl [3, 4, 5, 6, 0] rfl)
                · have hF := gi_f c_51_4 hF
                  have ic_51_0 : (z_48).toInt ≠ 0 := fun hh => c_51_0 (Int32.toInt_inj.mp (hh.trans (by decide)))
                  have ic_51_1 : (z_48).toInt ≠ 1 := fun hh => c_51_1 (Int32.toInt_inj.mp (hh.trans (by decide)))
                  have ic_51_2 : (z_48).toInt ≠ 2 := fun hh => c_51_2 (Int32.toInt_inj.mp (hh.trans (by decide)))
                  have ic_51_3 : (z_48).toInt ≠ 3 := fun hh => c_51_3 (Int32.toInt_inj.mp (hh.trans (by decide)))
                  have ic_51_4 : (z_48).toInt ≠ 4 := fun hh => c_51_4 (Int32.toInt_inj.mp (hh.trans (by decide)))
                  refine lv_tableOut (tgt := 141) hx hb dX4_plainEnd_51 (by omega) (by decide) ?_
                  exact k_141 v_plain y3 _ _ _ hF hP hD hS (lv_sub hl [3, 4, 6] rfl)
  unfold f_X4_plainEnd at hF
  refine lv_iconst (v := (0 : Int32)) hx hb dX4_plainEnd_0 (by decide) ?_
  refine lv_istore_n (lv' := [(2, .int (0 : Int32)), (0, .ref h_this), (1, .ref h_a1)]) hx hb dX4_plainEnd_1 rfl hl (by decide) rfl (fun ls hl => ?_)
  refine lv_iconst (v := (0 : Int32)) hx hb dX4_plainEnd_2 (by decide) ?_
  refine lv_istore_n (lv' := [(3, .int (0 : Int32)), (2, .int (0 : Int32)), (0, .ref h_this), (1, .ref h_a1)]) hx hb dX4_plainEnd_3 rfl hl (by decide) rfl (fun ls hl => ?_)
  exact k_4 N v_plain (0 : Int32) (0 : Int32) _ _ _ hF hP hD hS (lv_sub hl [2, 3, 1, 0] rfl)
abbrev O_X4_clearOthers : Type := (Nat → Int32)
def s_X4_clearOthers_5 (N : Nat) (v_a1_items : Int32) (v_a1_cells : Nat → Int32) (x2 : Int32) (r_5 : (Nat → Int32) → Int32 → Int32 → Option O_X4_clearOthers) (v_trial : Nat → Int32) (y3 : Int32) (y4 : Int32) : Option O_X4_clearOthers :=
  if v_a1_items ≤ y4 then (some (v_trial)) else ((f_X2_cell N v_a1_cells y4 (0 : Int32)).bind (fun z_18 => if z_18 = 0 then ((f_X2_cell N v_a1_cells y4 (4 : Int32)).bind (fun z_31 => if z_31 = x2 then (r_5 v_trial (y3 + 1) (y4 + 1)) else ((f_X9_put N 4 y3 (0 : Int32) v_trial).bind (fun z_44 => r_5 z_44 (y3 + 1) (y4 + 1))))) else (r_5 v_trial y3 (y4 + 1))))
def f_X4_clearOthers_5 (N : Nat) (v_a1_items : Int32) (v_a1_cells : Nat → Int32) (x2 : Int32) (n : Nat) : (Nat → Int32) → Int32 → Int32 → Option O_X4_clearOthers := lpg (fun _ _ _ => none) (s_X4_clearOthers_5 N v_a1_items v_a1_cells x2) n
def f_X4_clearOthers (N : Nat) (v_a1_items : Int32) (v_a1_cells : Nat → Int32) (x2 : Int32) (v_trial : Nat → Int32) : Option O_X4_clearOthers :=
  f_X4_clearOthers_5 N v_a1_items v_a1_cells x2 N v_trial (0 : Int32) (0 : Int32)
set_option maxHeartbeats 4000000 in
set_option maxRecDepth 100000 in
theorem t_X4_clearOthers (l : Launch) (dC : Nat → ClassId) (dI : Nat → Nat → Nat) (h_this : Nat) (h_shares : Nat) (h_shown : Nat) (h_shownOfY : Nat) (h_triple : Nat) (h_view : Nat) (h_trial : Nat) (h_plain : Nat) (v_views : Int32) (v_viewAsNumber : Int32) (v_hand : Int32) (v_modulus : Int32) (v_nextLot : Int32) (v_nextInput : Int32) (k_trial : ClassId) (v_trial : Nat → Int32) (h_a1 : Nat) (h_a1_cells : Nat) (h_a1_depths : Nat) (v_a1_became : Int32) (v_a1_items : Int32) (v_a1_inputs : Int32) (v_a1_muls : Int32) (k_a1_cells : ClassId) (v_a1_cells : Nat → Int32) (sz : Nat) (x2 : Int32) (N : Nat) (out : O_X4_clearOthers) (hF : f_X4_clearOthers N v_a1_items v_a1_cells x2 v_trial = some out) : gMv l yX4_clearOthers wsX4_clearOthers ({ frames := 2, cells := 0, slots := 0, locals := 43 } : Room) [.ref h_this, .ref h_a1, .int x2] (dC, dI) [(h_this, .inr (4, [.ref h_shares, .ref h_shown, .ref h_shownOfY, .ref h_triple, .ref h_view, .ref h_trial, .ref h_plain, .int v_views, .int v_viewAsNumber, .int v_hand, .int v_modulus, .int v_nextLot, .int v_nextInput])), (h_trial, .inl (k_trial, 4, .inl v_trial)), (h_a1, .inr (2, [.ref h_a1_cells, .ref h_a1_depths, .int v_a1_became, .int v_a1_items, .int v_a1_inputs, .int v_a1_muls])), (h_a1_cells, .inl (k_a1_cells, 96, .inl v_a1_cells))] [(k_trial, .int), (k_a1_cells, .int)] sz [(h_this, .inr (4, [.ref h_shares, .ref h_shown, .ref h_shownOfY, .ref h_triple, .ref h_view, .ref h_trial, .ref h_plain, .int v_views, .int v_viewAsNumber, .int v_hand, .int v_modulus, .int v_nextLot, .int v_nextInput])), (h_trial, .inl (k_trial, 4, .inl out)), (h_a1, .inr (2, [.ref h_a1_cells, .ref h_a1_depths, .int v_a1_became, .int v_a1_items, .int v_a1_inputs, .int v_a1_muls])), (h_a1_cells, .inl (k_a1_cells, 96, .inl v_a1_cells))] := by
  refine gEv (cc := cX4_clearOthers) (maxL := 5) (by decide) rfl (Nat.le_of_ble_eq_true rfl) ?_
  intro p e s m args below meth c Q A ls CF hK hN hA hret hP hD hS hl
  have hx := CF.1
  have hb := CF.2.1
  have hml := CF.2.2.1
  have hown : s.vm.findClass RX4 = some m.cls := CF.2.2.2.1
  have hts := CF.2.2.2.2
  have hl : lv_has ls 5 [(0, .ref h_this), (1, .ref h_a1), (2, .int x2)] := hl
  have in_X2 : ∀ w ∈ wsX20, w ∈ wsX4_clearOthers := fun w h => List.mem_cons_of_mem _ (List.mem_append_left _ (List.mem_append_right _ h))
  have hL74 : (Cond.fieldLinkNest RX4 74 "DustSums$Program" "items" "I" "DustSums").before args s = true := va_Nw.use rfl (hN.1 (RX4, 74, "DustSums$Program", "items", "I", "DustSums") (by decide +kernel))
  have cw147 : CallW ({ frames := 2, cells := 0, slots := 0, locals := 43 } : Room) s args RX4 RX2 147 yX2_cell cX2_cell 3 (some .int) wsX2_cell ({ frames := 1, cells := 0, slots := 0, locals := 21 } : Room) 0 0 2 := cwV 2 hts gX4_clearOthers_X2_cell rfl rfl rfl (by decide +kernel) ⟨Nat.le_of_ble_eq_true rfl, Nat.le_of_ble_eq_true rfl⟩
  have in_X4 : ∀ w ∈ wsX40, w ∈ wsX4_clearOthers := fun w h => List.mem_cons_of_mem _ (List.mem_append_right _ h)
  have hL27 : (Cond.fieldLink RX4 27 "DustSums$Run" "trial" "[I").before args s = true := hts (.fieldLink RX4 27 "DustSums$Run" "trial" "[I") (List.mem_of_getElem? (i := 1) rfl)
  have nm121 : va_Nw (.methodLinkNest RX4 121 yX9_put "DustSums") s := hN.2 (RX4, 121, yX9_put, "DustSums") (by decide +kernel)
  have cw121 : va_CN ({ frames := 2, cells := 0, slots := 0, locals := 43 } : Room) s args RX4 121 yX9_put "DustSums" cX9_put 3 none wsX9_put ({ frames := 0, cells := 0, slots := 0, locals := 0 } : Room) 0 0 3 ∧ (Cond.static yX9_put).before args s = true ∧ True := ⟨va_cnB 3 hts gX4_clearOthers_X9_put_n121 rfl rfl rfl nm121 (hts (.initialized RX9) (List.mem_of_getElem? (i := 9) rfl)) (by decide +kernel) ⟨Nat.le_of_ble_eq_true rfl, Nat.le_of_ble_eq_true rfl⟩, hts (.static yX9_put) (List.mem_of_getElem? (i := 11) rfl), trivial⟩
  have k_5 : ∀ (n : Nat) (v_trial : Nat → Int32) (y3 : Int32) (y4 : Int32) (H : Heap) (locs : List Loc) (ls : Array Slot), f_X4_clearOthers_5 N v_a1_items v_a1_cells x2 n v_trial y3 y4 = some out → va_P (dC, dI) vwCl [(h_this, .inr (4, [.ref h_shares, .ref h_shown, .ref h_shownOfY, .ref h_triple, .ref h_view, .ref h_trial, .ref h_plain, .int v_views, .int v_viewAsNumber, .int v_hand, .int v_modulus, .int v_nextLot, .int v_nextInput])), (h_trial, .inl (k_trial, 4, .inl v_trial)), (h_a1, .inr (2, [.ref h_a1_cells, .ref h_a1_depths, .int v_a1_became, .int v_a1_items, .int v_a1_inputs, .int v_a1_muls])), (h_a1_cells, .inl (k_a1_cells, 96, .inl v_a1_cells))] H → va_D A [(h_this, .inr (4, [.ref h_shares, .ref h_shown, .ref h_shownOfY, .ref h_triple, .ref h_view, .ref h_trial, .ref h_plain, .int v_views, .int v_viewAsNumber, .int v_hand, .int v_modulus, .int v_nextLot, .int v_nextInput])), (h_trial, .inl (k_trial, 4, .inl v_trial)), (h_a1, .inr (2, [.ref h_a1_cells, .ref h_a1_depths, .int v_a1_became, .int v_a1_items, .int v_a1_inputs, .int v_a1_muls])), (h_a1_cells, .inl (k_a1_cells, 96, .inl v_a1_cells))] → va_S A s.heap H locs → lv_has ls 5 [(0, .ref h_this), (1, .ref h_a1), (2, .int x2), (3, .int y3), (4, .int y4)] → W p l e ({ frames := 2, cells := 0, slots := 0, locals := 43 } : Room) s m args below meth c H locs 0 0 Q (F0 m 5 ls []) := by
    intro n
    induction n with
    | zero =>
      intro v_trial y3 y4 H locs ls hF
      have hF : (none : Option O_X4_clearOthers) = some out := hF
      cases hF
    | succ n ih =>
      intro v_trial y3 y4 H locs ls hF hP hD hS hl
      have hF : s_X4_clearOthers_5 N v_a1_items v_a1_cells x2 (f_X4_clearOthers_5 N v_a1_items v_a1_cells x2 n) v_trial y3 y4 = some out := hF
      generalize f_X4_clearOthers_5 N v_a1_items v_a1_cells x2 n = r_5 at hF ih
      have g_5 : ∀ (v_trial : Nat → Int32) (y3 : Int32) (y4 : Int32) (H : Heap) (locs : List Loc) (ls : Array Slot), r_5 v_trial y3 y4 = some out → va_P (dC, dI) vwCl [(h_this, .inr (4, [.ref h_shares, .ref h_shown, .ref h_shownOfY, .ref h_triple, .ref h_view, .ref h_trial, .ref h_plain, .int v_views, .int v_viewAsNumber, .int v_hand, .int v_modulus, .int v_nextLot, .int v_nextInput])), (h_trial, .inl (k_trial, 4, .inl v_trial)), (h_a1, .inr (2, [.ref h_a1_cells, .ref h_a1_depths, .int v_a1_became, .int v_a1_items, .int v_a1_inputs, .int v_a1_muls])), (h_a1_cells, .inl (k_a1_cells, 96, .inl v_a1_cells))] H → va_D A [(h_this, .inr (4, [.ref h_shares, .ref h_shown, .ref h_shownOfY, .ref h_triple, .ref h_view, .ref h_trial, .ref h_plain, .int v_views, .int v_viewAsNumber, .int v_hand, .int v_modulus, .int v_nextLot, .int v_nextInput])), (h_trial, .inl (k_trial, 4, .inl v_trial)), (h_a1, .inr (2, [.ref h_a1_cells, .ref h_a1_depths, .int v_a1_became, .int v_a1_items, .int v_a1_inputs, .int v_a1_muls])), (h_a1_cells, .inl (k_a1_cells, 96, .inl v_a1_cells))] → va_S A s.heap H locs → lv_has ls 5 [(0, .ref h_this), (1, .ref h_a1), (2, .int x2), (3, .int y3), (4, .int y4)] → W p l e ({ frames := 2, cells := 0, slots := 0, locals := 43 } : Room) s m args below meth c H locs 0 0 Q (F0 m 5 ls []) := ih
      clear ih
      unfold s_X4_clearOthers_5 at hF
      refine lv_iload hx hb dX4_clearOthers_5 (lv_at hl 4 rfl) ?_
      refine lv_aload_n hx hb dX4_clearOthers_7 rfl (lv_at hl 1 rfl) ?_
      refine va_getN (D := (dC, dI)) (ci := 2) (v := .int v_a1_items) (C := RX2) (T := TX2) (N := 6) hx hb hts in_X2 hown hK hP 2 rfl rfl 3 (by decide) hL74 (fun _ h9 => h9) rfl dX4_clearOthers_8 ?_
      refine lv_icmp_ge (tgt := 56) hx hb dX4_clearOthers_11 (by decide) (fun c_11 => ?_) (fun c_11 => ?_)
      · have hF := gi_t c_11 hF
        have hF := Option.some.inj hF
        subst hF
        exact hret _ _ _ _ dX4_clearOthers_56 hP hD hS
      · have hF := gi_f c_11 hF
        refine lv_aload_n hx hb dX4_clearOthers_14 rfl (lv_at hl 1 rfl) ?_
        refine lv_iload hx hb dX4_clearOthers_15 (lv_at hl 4 rfl) ?_
        refine lv_iconst (v := (0 : Int32)) hx hb dX4_clearOthers_17 (by decide) ?_
        obtain ⟨z_18, hz_18, hF⟩ := gi_bind hF
        refine gRi (wc := [(h_a1, .inr (2, [.ref h_a1_cells, .ref h_a1_depths, .int v_a1_became, .int v_a1_items, .int v_a1_inputs, .int v_a1_muls])), (h_a1_cells, .inl (k_a1_cells, 96, .inl v_a1_cells))]) (wr := [(h_this, .inr (4, [.ref h_shares, .ref h_shown, .ref h_shownOfY, .ref h_triple, .ref h_view, .ref h_trial, .ref h_plain, .int v_views, .int v_viewAsNumber, .int v_hand, .int v_modulus, .int v_nextLot, .int v_nextInput])), (h_trial, .inl (k_trial, 4, .inl v_trial))]) (w1 := [(h_a1, .inr (2, [.ref h_a1_cells, .ref h_a1_depths, .int v_a1_became, .int v_a1_items, .int v_a1_inputs, .int v_a1_muls])), (h_a1_cells, .inl (k_a1_cells, 96, .inl v_a1_cells))]) hP hD hS hA [2, 3] [0, 1] rfl rfl (by decide) (by decide) (va_runV (As := [.int y4, .int (0 : Int32)]) (rest := []) CF (t_X2_cell l dC dI h_a1 h_a1_cells h_a1_depths v_a1_became v_a1_items v_a1_inputs v_a1_muls k_a1_cells v_a1_cells H.size y4 (0 : Int32) N z_18 hz_18) cw147 (gPV (ci := 2) hP hD hK hN [2, 3] [1] (by decide) rfl rfl (q0 := 2) rfl rfl) rfl rfl hl.1 rfl (lv_room (Nat.le_of_ble_eq_true rfl)) dX4_clearOthers_18 ⟨Nat.zero_le _, Nat.zero_le _⟩) (fun H locs hP hD hS => ?_)
        have hP : va_P (dC, dI) vwCl [(h_this, .inr (4, [.ref h_shares, .ref h_shown, .ref h_shownOfY, .ref h_triple, .ref h_view, .ref h_trial, .ref h_plain, .int v_views, .int v_viewAsNumber, .int v_hand, .int v_modulus, .int v_nextLot, .int v_nextInput])), (h_trial, .inl (k_trial, 4, .inl v_trial)), (h_a1, .inr (2, [.ref h_a1_cells, .ref h_a1_depths, .int v_a1_became, .int v_a1_items, .int v_a1_inputs, .int v_a1_muls])), (h_a1_cells, .inl (k_a1_cells, 96, .inl v_a1_cells))] H := hP
        have hD : va_D A [(h_this, .inr (4, [.ref h_shares, .ref h_shown, .ref h_shownOfY, .ref h_triple, .ref h_view, .ref h_trial, .ref h_plain, .int v_views, .int v_viewAsNumber, .int v_hand, .int v_modulus, .int v_nextLot, .int v_nextInput])), (h_trial, .inl (k_trial, 4, .inl v_trial)), (h_a1, .inr (2, [.ref h_a1_cells, .ref h_a1_depths, .int v_a1_became, .int v_a1_items, .int v_a1_inputs, .int v_a1_muls])), (h_a1_cells, .inl (k_a1_cells, 96, .inl v_a1_cells))] := hD
        refine lv_if_eq (tgt := 27) hx hb dX4_clearOthers_21 (by decide) (fun c_21 => ?_) (fun c_21 => ?_)
        · have hF := gi_t c_21 hF
          refine lv_aload_n hx hb dX4_clearOthers_27 rfl (lv_at hl 1 rfl) ?_
          refine lv_iload hx hb dX4_clearOthers_28 (lv_at hl 4 rfl) ?_
          refine lv_iconst (v := (4 : Int32)) hx hb dX4_clearOthers_30 (by decide) ?_
          obtain ⟨z_31, hz_31, hF⟩ := gi_bind hF
          refine gRi (wc := [(h_a1, .inr (2, [.ref h_a1_cells, .ref h_a1_depths, .int v_a1_became, .int v_a1_items, .int v_a1_inputs, .int v_a1_muls])), (h_a1_cells, .inl (k_a1_cells, 96, .inl v_a1_cells))]) (wr := [(h_this, .inr (4, [.ref h_shares, .ref h_shown, .ref h_shownOfY, .ref h_triple, .ref h_view, .ref h_trial, .ref h_plain, .int v_views, .int v_viewAsNumber, .int v_hand, .int v_modulus, .int v_nextLot, .int v_nextInput])), (h_trial, .inl (k_trial, 4, .inl v_trial))]) (w1 := [(h_a1, .inr (2, [.ref h_a1_cells, .ref h_a1_depths, .int v_a1_became, .int v_a1_items, .int v_a1_inputs, .int v_a1_muls])), (h_a1_cells, .inl (k_a1_cells, 96, .inl v_a1_cells))]) hP hD hS hA [2, 3] [0, 1] rfl rfl (by decide) (by decide) (va_runV (As := [.int y4, .int (4 : Int32)]) (rest := []) CF (t_X2_cell l dC dI h_a1 h_a1_cells h_a1_depths v_a1_became v_a1_items v_a1_inputs v_a1_muls k_a1_cells v_a1_cells H.size y4 (4 : Int32) N z_31 hz_31) cw147 (gPV (ci := 2) hP hD hK hN [2, 3] [1] (by decide) rfl rfl (q0 := 2) rfl rfl) rfl rfl hl.1 rfl (lv_room (Nat.le_of_ble_eq_true rfl)) dX4_clearOthers_31 ⟨Nat.zero_le _, Nat.zero_le _⟩) (fun H locs hP hD hS => ?_)
          have hP : va_P (dC, dI) vwCl [(h_this, .inr (4, [.ref h_shares, .ref h_shown, .ref h_shownOfY, .ref h_triple, .ref h_view, .ref h_trial, .ref h_plain, .int v_views, .int v_viewAsNumber, .int v_hand, .int v_modulus, .int v_nextLot, .int v_nextInput])), (h_trial, .inl (k_trial, 4, .inl v_trial)), (h_a1, .inr (2, [.ref h_a1_cells, .ref h_a1_depths, .int v_a1_became, .int v_a1_items, .int v_a1_inputs, .int v_a1_muls])), (h_a1_cells, .inl (k_a1_cells, 96, .inl v_a1_cells))] H := hP
          have hD : va_D A [(h_this, .inr (4, [.ref h_shares, .ref h_shown, .ref h_shownOfY, .ref h_triple, .ref h_view, .ref h_trial, .ref h_plain, .int v_views, .int v_viewAsNumber, .int v_hand, .int v_modulus, .int v_nextLot, .int v_nextInput])), (h_trial, .inl (k_trial, 4, .inl v_trial)), (h_a1, .inr (2, [.ref h_a1_cells, .ref h_a1_depths, .int v_a1_became, .int v_a1_items, .int v_a1_inputs, .int v_a1_muls])), (h_a1_cells, .inl (k_a1_cells, 96, .inl v_a1_cells))] := hD
          refine lv_iload_n hx hb dX4_clearOthers_34 rfl (lv_at hl 2 rfl) ?_
          refine lv_icmp_eq (tgt := 47) hx hb dX4_clearOthers_35 (by decide) (fun c_35 => ?_) (fun c_35 => ?_)
          · have hF := gi_t c_35 hF
            refine lv_iinc (v := (y3 + 1)) (lv' := [(3, .int (y3 + 1)), (0, .ref h_this), (1, .ref h_a1), (2, .int x2), (4, .int y4)]) hx hb dX4_clearOthers_47 hl (k := 3) rfl rfl (by decide) rfl (fun ls hl => ?_)
            refine lv_iinc (v := (y4 + 1)) (lv' := [(4, .int (y4 + 1)), (3, .int (y3 + 1)), (0, .ref h_this), (1, .ref h_a1), (2, .int x2)]) hx hb dX4_clearOthers_50 hl (k := 4) rfl rfl (by decide) rfl (fun ls hl => ?_)
            refine lv_goto (tgt := 5) hx hb dX4_clearOthers_53 (by decide) ?_
            exact g_5 v_trial (y3 + 1) (y4 + 1) _ _ _ hF hP hD hS (lv_sub hl [2, 3, 4, 1, 0] rfl)
          · have hF := gi_f c_35 hF
            refine lv_aload_n hx hb dX4_clearOthers_38 rfl (lv_at hl 0 rfl) ?_
            refine va_get (D := (dC, dI)) (ci := 4) (v := .ref h_trial) (C := RX4) (T := TX4) (N := 13) hx hb hts in_X4 hown hK hP 0 rfl rfl 5 (by decide) hL27 (fun _ h9 => h9) rfl dX4_clearOthers_39 ?_
            refine lv_iload_n hx hb dX4_clearOthers_42 rfl (lv_at hl 3 rfl) ?_
            refine lv_iconst (v := (0 : Int32)) hx hb dX4_clearOthers_43 (by decide) ?_
            obtain ⟨z_44, hz_44, hF⟩ := gi_bind hF
            refine gRv (wc := [(h_trial, .inl (k_trial, 4, .inl v_trial))]) (wr := [(h_this, .inr (4, [.ref h_shares, .ref h_shown, .ref h_shownOfY, .ref h_triple, .ref h_view, .ref h_trial, .ref h_plain, .int v_views, .int v_viewAsNumber, .int v_hand, .int v_modulus, .int v_nextLot, .int v_nextInput])), (h_a1, .inr (2, [.ref h_a1_cells, .ref h_a1_depths, .int v_a1_became, .int v_a1_items, .int v_a1_inputs, .int v_a1_muls])), (h_a1_cells, .inl (k_a1_cells, 96, .inl v_a1_cells))]) (w1 := [(h_trial, .inl (k_trial, 4, .inl z_44))]) hP hD hS hA [1] [0, 2, 3] rfl rfl (by decide) (by decide) (va_runSN (As := [.ref h_trial, .int y3, .int (0 : Int32)]) (rest := []) CF (t_X9_put l dC dI h_trial k_trial 4 v_trial H.size y3 (0 : Int32) N z_44 hz_44) cw121 (gPS hP hD hK hN [1] [0] (by decide) rfl rfl) rfl rfl hl.1 rfl (lv_room (Nat.le_of_ble_eq_true rfl)) dX4_clearOthers_44 ⟨Nat.zero_le _, Nat.zero_le _⟩) (fun H locs hP hD hS => ?_)
            have hP : va_P (dC, dI) vwCl [(h_this, .inr (4, [.ref h_shares, .ref h_shown, .ref h_shownOfY, .ref h_triple, .ref h_view, .ref h_trial, .ref h_plain, .int v_views, .int v_viewAsNumber, .int v_hand, .int v_modulus, .int v_nextLot, .int v_nextInput])), (h_a1, .inr (2, [.ref h_a1_cells, .ref h_a1_depths, .int v_a1_became, .int v_a1_items, .int v_a1_inputs, .int v_a1_muls])), (h_a1_cells, .inl (k_a1_cells, 96, .inl v_a1_cells)), (h_trial, .inl (k_trial, 4, .inl z_44))] H := hP
            have hD : va_D A [(h_this, .inr (4, [.ref h_shares, .ref h_shown, .ref h_shownOfY, .ref h_triple, .ref h_view, .ref h_trial, .ref h_plain, .int v_views, .int v_viewAsNumber, .int v_hand, .int v_modulus, .int v_nextLot, .int v_nextInput])), (h_a1, .inr (2, [.ref h_a1_cells, .ref h_a1_depths, .int v_a1_became, .int v_a1_items, .int v_a1_inputs, .int v_a1_muls])), (h_a1_cells, .inl (k_a1_cells, 96, .inl v_a1_cells)), (h_trial, .inl (k_trial, 4, .inl z_44))] := hD
            refine lv_iinc (v := (y3 + 1)) (lv' := [(3, .int (y3 + 1)), (0, .ref h_this), (1, .ref h_a1), (2, .int x2), (4, .int y4)]) hx hb dX4_clearOthers_47 hl (k := 3) rfl rfl (by decide) rfl (fun ls hl => ?_)
            refine lv_iinc (v := (y4 + 1)) (lv' := [(4, .int (y4 + 1)), (3, .int (y3 + 1)), (0, .ref h_this), (1, .ref h_a1), (2, .int x2)]) hx hb dX4_clearOthers_50 hl (k := 4) rfl rfl (by decide) rfl (fun ls hl => ?_)
            refine lv_goto (tgt := 5) hx hb dX4_clearOthers_53 (by decide) ?_
            exact g_5 z_44 (y3 + 1) (y4 + 1) _ _ _ hF (hP.sub [0, 3, 1, 2] rfl) (hD.sub [0, 3, 1, 2] (by decide) rfl) hS (lv_sub hl [2, 3, 4, 1, 0] rfl)
        · have hF := gi_f c_21 hF
          refine lv_goto (tgt := 50) hx hb dX4_clearOthers_24 (by decide) ?_
          refine lv_iinc (v := (y4 + 1)) (lv' := [(4, .int (y4 + 1)), (0, .ref h_this), (1, .ref h_a1), (2, .int x2), (3, .int y3)]) hx hb dX4_clearOthers_50 hl (k := 4) rfl rfl (by decide) rfl (fun ls hl => ?_)
          refine lv_goto (tgt := 5) hx hb dX4_clearOthers_53 (by decide) ?_
          exact g_5 v_trial y3 (y4 + 1) _ _ _ hF hP hD hS (lv_sub hl [1, 2, 3, 4, 0] rfl)
  unfold f_X4_clearOthers at hF
  refine lv_iconst (v := (0 : Int32)) hx hb dX4_clearOthers_0 (by decide) ?_
  refine lv_istore_n (lv' := [(3, .int (0 : Int32)), (0, .ref h_this), (1, .ref h_a1), (2, .int x2)]) hx hb dX4_clearOthers_1 rfl hl (by decide) rfl (fun ls hl => ?_)
  refine lv_iconst (v := (0 : Int32)) hx hb dX4_clearOthers_2 (by decide) ?_
  refine lv_istore (lv' := [(4, .int (0 : Int32)), (3, .int (0 : Int32)), (0, .ref h_this), (1, .ref h_a1), (2, .int x2)]) hx hb dX4_clearOthers_3 hl (by decide) rfl (fun ls hl => ?_)
  exact k_5 N v_trial (0 : Int32) (0 : Int32) _ _ _ hF hP hD hS (lv_sub hl [2, 3, 4, 1, 0] rfl)
abbrev O_X4_turnOthers : Type := (Nat → Int32)
def s_X4_turnOthers_5 (N : Nat) (v_modulus : Int32) (v_a1_items : Int32) (v_a1_cells : Nat → Int32) (x2 : Int32) (r_5 : (Nat → Int32) → Int32 → Int32 → Option O_X4_turnOthers) (v_trial : Nat → Int32) (y3 : Int32) (y4 : Int32) : Option O_X4_turnOthers :=
  if v_a1_items ≤ y4 then (some (v_trial)) else ((f_X2_cell N v_a1_cells y4 (0 : Int32)).bind (fun z_18 => if z_18 = 0 then ((f_X2_cell N v_a1_cells y4 (4 : Int32)).bind (fun z_31 => if z_31 = x2 then (r_5 v_trial (y3 + 1) (y4 + 1)) else ((f_X9_at N v_trial 4 y3).bind (fun z_43 => (f_X9_mod N (z_43 + (1 : Int32)) v_modulus).bind (fun z_52 => (f_X9_put N 4 y3 z_52 v_trial).bind (fun z_64 => if z_52 = 0 then (r_5 z_64 (y3 + 1) (y4 + 1)) else (some (z_64)))))))) else (r_5 v_trial y3 (y4 + 1))))
def f_X4_turnOthers_5 (N : Nat) (v_modulus : Int32) (v_a1_items : Int32) (v_a1_cells : Nat → Int32) (x2 : Int32) (n : Nat) : (Nat → Int32) → Int32 → Int32 → Option O_X4_turnOthers := lpg (fun _ _ _ => none) (s_X4_turnOthers_5 N v_modulus v_a1_items v_a1_cells x2) n
def f_X4_turnOthers (N : Nat) (v_modulus : Int32) (v_a1_items : Int32) (v_a1_cells : Nat → Int32) (x2 : Int32) (v_trial : Nat → Int32) : Option O_X4_turnOthers :=
  f_X4_turnOthers_5 N v_modulus v_a1_items v_a1_cells x2 N v_trial (0 : Int32) (0 : Int32)
set_option maxHeartbeats 4000000 in
set_option maxRecDepth 100000 in
theorem t_X4_turnOthers (l : Launch) (dC : Nat → ClassId) (dI : Nat → Nat → Nat) (h_this : Nat) (h_shares : Nat) (h_shown : Nat) (h_shownOfY : Nat) (h_triple : Nat) (h_view : Nat) (h_trial : Nat) (h_plain : Nat) (v_views : Int32) (v_viewAsNumber : Int32) (v_hand : Int32) (v_modulus : Int32) (v_nextLot : Int32) (v_nextInput : Int32) (k_trial : ClassId) (v_trial : Nat → Int32) (h_a1 : Nat) (h_a1_cells : Nat) (h_a1_depths : Nat) (v_a1_became : Int32) (v_a1_items : Int32) (v_a1_inputs : Int32) (v_a1_muls : Int32) (k_a1_cells : ClassId) (v_a1_cells : Nat → Int32) (sz : Nat) (x2 : Int32) (N : Nat) (out : O_X4_turnOthers) (hF : f_X4_turnOthers N v_modulus v_a1_items v_a1_cells x2 v_trial = some out) : gMv l yX4_turnOthers wsX4_turnOthers ({ frames := 2, cells := 0, slots := 0, locals := 43 } : Room) [.ref h_this, .ref h_a1, .int x2] (dC, dI) [(h_this, .inr (4, [.ref h_shares, .ref h_shown, .ref h_shownOfY, .ref h_triple, .ref h_view, .ref h_trial, .ref h_plain, .int v_views, .int v_viewAsNumber, .int v_hand, .int v_modulus, .int v_nextLot, .int v_nextInput])), (h_trial, .inl (k_trial, 4, .inl v_trial)), (h_a1, .inr (2, [.ref h_a1_cells, .ref h_a1_depths, .int v_a1_became, .int v_a1_items, .int v_a1_inputs, .int v_a1_muls])), (h_a1_cells, .inl (k_a1_cells, 96, .inl v_a1_cells))] [(k_trial, .int), (k_a1_cells, .int)] sz [(h_this, .inr (4, [.ref h_shares, .ref h_shown, .ref h_shownOfY, .ref h_triple, .ref h_view, .ref h_trial, .ref h_plain, .int v_views, .int v_viewAsNumber, .int v_hand, .int v_modulus, .int v_nextLot, .int v_nextInput])), (h_trial, .inl (k_trial, 4, .inl out)), (h_a1, .inr (2, [.ref h_a1_cells, .ref h_a1_depths, .int v_a1_became, .int v_a1_items, .int v_a1_inputs, .int v_a1_muls])), (h_a1_cells, .inl (k_a1_cells, 96, .inl v_a1_cells))] := by
  refine gEv (cc := cX4_turnOthers) (maxL := 6) (by decide) rfl (Nat.le_of_ble_eq_true rfl) ?_
  intro p e s m args below meth c Q A ls CF hK hN hA hret hP hD hS hl
  have hx := CF.1
  have hb := CF.2.1
  have hml := CF.2.2.1
  have hown : s.vm.findClass RX4 = some m.cls := CF.2.2.2.1
  have hts := CF.2.2.2.2
  have hl : lv_has ls 6 [(0, .ref h_this), (1, .ref h_a1), (2, .int x2)] := hl
  have in_X2 : ∀ w ∈ wsX20, w ∈ wsX4_turnOthers := fun w h => List.mem_cons_of_mem _ (List.mem_append_left _ (List.mem_append_right _ h))
  have hL74 : (Cond.fieldLinkNest RX4 74 "DustSums$Program" "items" "I" "DustSums").before args s = true := va_Nw.use rfl (hN.1 (RX4, 74, "DustSums$Program", "items", "I", "DustSums") (by decide +kernel))
  have cw147 : CallW ({ frames := 2, cells := 0, slots := 0, locals := 43 } : Room) s args RX4 RX2 147 yX2_cell cX2_cell 3 (some .int) wsX2_cell ({ frames := 1, cells := 0, slots := 0, locals := 21 } : Room) 0 0 2 := cwV 2 hts gX4_turnOthers_X2_cell rfl rfl rfl (by decide +kernel) ⟨Nat.le_of_ble_eq_true rfl, Nat.le_of_ble_eq_true rfl⟩
  have in_X4 : ∀ w ∈ wsX40, w ∈ wsX4_turnOthers := fun w h => List.mem_cons_of_mem _ (List.mem_append_right _ h)
  have hL27 : (Cond.fieldLink RX4 27 "DustSums$Run" "trial" "[I").before args s = true := hts (.fieldLink RX4 27 "DustSums$Run" "trial" "[I") (List.mem_of_getElem? (i := 1) rfl)
  have nm114 : va_Nw (.methodLinkNest RX4 114 yX9_at "DustSums") s := hN.2 (RX4, 114, yX9_at, "DustSums") (by decide +kernel)
  have cw114 : va_CN ({ frames := 2, cells := 0, slots := 0, locals := 43 } : Room) s args RX4 114 yX9_at "DustSums" cX9_at 2 (some .int) wsX9_at ({ frames := 0, cells := 0, slots := 0, locals := 0 } : Room) 0 0 2 ∧ (Cond.static yX9_at).before args s = true ∧ True := ⟨va_cnB 2 hts gX4_turnOthers_X9_at_n114 rfl rfl rfl nm114 (hts (.initialized RX9) (List.mem_of_getElem? (i := 10) rfl)) (by decide +kernel) ⟨Nat.le_of_ble_eq_true rfl, Nat.le_of_ble_eq_true rfl⟩, hts (.static yX9_at) (List.mem_of_getElem? (i := 9) rfl), trivial⟩
  have hL52 : (Cond.fieldLink RX4 52 "DustSums$Run" "modulus" "I").before args s = true := hts (.fieldLink RX4 52 "DustSums$Run" "modulus" "I") (List.mem_of_getElem? (i := 2) rfl)
  have nm118 : va_Nw (.methodLinkNest RX4 118 yX9_mod "DustSums") s := hN.2 (RX4, 118, yX9_mod, "DustSums") (by decide +kernel)
  have cw118 : va_CN ({ frames := 2, cells := 0, slots := 0, locals := 43 } : Room) s args RX4 118 yX9_mod "DustSums" cX9_mod 3 (some .int) wsX9_mod ({ frames := 0, cells := 0, slots := 0, locals := 0 } : Room) 0 0 2 ∧ (Cond.static yX9_mod).before args s = true ∧ True := ⟨va_cnB 2 hts gX4_turnOthers_X9_mod_n118 rfl rfl rfl nm118 (hts (.initialized RX9) (List.mem_of_getElem? (i := 10) rfl)) (by decide +kernel) ⟨Nat.le_of_ble_eq_true rfl, Nat.le_of_ble_eq_true rfl⟩, hts (.static yX9_mod) (List.mem_of_getElem? (i := 12) rfl), trivial⟩
  have nm121 : va_Nw (.methodLinkNest RX4 121 yX9_put "DustSums") s := hN.2 (RX4, 121, yX9_put, "DustSums") (by decide +kernel)
  have cw121 : va_CN ({ frames := 2, cells := 0, slots := 0, locals := 43 } : Room) s args RX4 121 yX9_put "DustSums" cX9_put 3 none wsX9_put ({ frames := 0, cells := 0, slots := 0, locals := 0 } : Room) 0 0 3 ∧ (Cond.static yX9_put).before args s = true ∧ True := ⟨va_cnB 3 hts gX4_turnOthers_X9_put_n121 rfl rfl rfl nm121 (hts (.initialized RX9) (List.mem_of_getElem? (i := 10) rfl)) (by decide +kernel) ⟨Nat.le_of_ble_eq_true rfl, Nat.le_of_ble_eq_true rfl⟩, hts (.static yX9_put) (List.mem_of_getElem? (i := 14) rfl), trivial⟩
  have k_5 : ∀ (n : Nat) (v_trial : Nat → Int32) (y3 : Int32) (y4 : Int32) (H : Heap) (locs : List Loc) (ls : Array Slot), f_X4_turnOthers_5 N v_modulus v_a1_items v_a1_cells x2 n v_trial y3 y4 = some out → va_P (dC, dI) vwCl [(h_this, .inr (4, [.ref h_shares, .ref h_shown, .ref h_shownOfY, .ref h_triple, .ref h_view, .ref h_trial, .ref h_plain, .int v_views, .int v_viewAsNumber, .int v_hand, .int v_modulus, .int v_nextLot, .int v_nextInput])), (h_trial, .inl (k_trial, 4, .inl v_trial)), (h_a1, .inr (2, [.ref h_a1_cells, .ref h_a1_depths, .int v_a1_became, .int v_a1_items, .int v_a1_inputs, .int v_a1_muls])), (h_a1_cells, .inl (k_a1_cells, 96, .inl v_a1_cells))] H → va_D A [(h_this, .inr (4, [.ref h_shares, .ref h_shown, .ref h_shownOfY, .ref h_triple, .ref h_view, .ref h_trial, .ref h_plain, .int v_views, .int v_viewAsNumber, .int v_hand, .int v_modulus, .int v_nextLot, .int v_nextInput])), (h_trial, .inl (k_trial, 4, .inl v_trial)), (h_a1, .inr (2, [.ref h_a1_cells, .ref h_a1_depths, .int v_a1_became, .int v_a1_items, .int v_a1_inputs, .int v_a1_muls])), (h_a1_cells, .inl (k_a1_cells, 96, .inl v_a1_cells))] → va_S A s.heap H locs → lv_has ls 6 [(0, .ref h_this), (1, .ref h_a1), (2, .int x2), (3, .int y3), (4, .int y4)] → W p l e ({ frames := 2, cells := 0, slots := 0, locals := 43 } : Room) s m args below meth c H locs 0 0 Q (F0 m 5 ls []) := by
    intro n
    induction n with
    | zero =>
      intro v_trial y3 y4 H locs ls hF
      have hF : (none : Option O_X4_turnOthers) = some out := hF
      cases hF
    | succ n ih =>
      intro v_trial y3 y4 H locs ls hF hP hD hS hl
      have hF : s_X4_turnOthers_5 N v_modulus v_a1_items v_a1_cells x2 (f_X4_turnOthers_5 N v_modulus v_a1_items v_a1_cells x2 n) v_trial y3 y4 = some out := hF
      generalize f_X4_turnOthers_5 N v_modulus v_a1_items v_a1_cells x2 n = r_5 at hF ih
      have g_5 : ∀ (v_trial : Nat → Int32) (y3 : Int32) (y4 : Int32) (H : Heap) (locs : List Loc) (ls : Array Slot), r_5 v_trial y3 y4 = some out → va_P (dC, dI) vwCl [(h_this, .inr (4, [.ref h_shares, .ref h_shown, .ref h_shownOfY, .ref h_triple, .ref h_view, .ref h_trial, .ref h_plain, .int v_views, .int v_viewAsNumber, .int v_hand, .int v_modulus, .int v_nextLot, .int v_nextInput])), (h_trial, .inl (k_trial, 4, .inl v_trial)), (h_a1, .inr (2, [.ref h_a1_cells, .ref h_a1_depths, .int v_a1_became, .int v_a1_items, .int v_a1_inputs, .int v_a1_muls])), (h_a1_cells, .inl (k_a1_cells, 96, .inl v_a1_cells))] H → va_D A [(h_this, .inr (4, [.ref h_shares, .ref h_shown, .ref h_shownOfY, .ref h_triple, .ref h_view, .ref h_trial, .ref h_plain, .int v_views, .int v_viewAsNumber, .int v_hand, .int v_modulus, .int v_nextLot, .int v_nextInput])), (h_trial, .inl (k_trial, 4, .inl v_trial)), (h_a1, .inr (2, [.ref h_a1_cells, .ref h_a1_depths, .int v_a1_became, .int v_a1_items, .int v_a1_inputs, .int v_a1_muls])), (h_a1_cells, .inl (k_a1_cells, 96, .inl v_a1_cells))] → va_S A s.heap H locs → lv_has ls 6 [(0, .ref h_this), (1, .ref h_a1), (2, .int x2), (3, .int y3), (4, .int y4)] → W p l e ({ frames := 2, cells := 0, slots := 0, locals := 43 } : Room) s m args below meth c H locs 0 0 Q (F0 m 5 ls []) := ih
      clear ih
      unfold s_X4_turnOthers_5 at hF
      refine lv_iload hx hb dX4_turnOthers_5 (lv_at hl 4 rfl) ?_
      refine lv_aload_n hx hb dX4_turnOthers_7 rfl (lv_at hl 1 rfl) ?_
      refine va_getN (D := (dC, dI)) (ci := 2) (v := .int v_a1_items) (C := RX2) (T := TX2) (N := 6) hx hb hts in_X2 hown hK hP 2 rfl rfl 3 (by decide) hL74 (fun _ h9 => h9) rfl dX4_turnOthers_8 ?_
      refine lv_icmp_ge (tgt := 82) hx hb dX4_turnOthers_11 (by decide) (fun c_11 => ?_) (fun c_11 => ?_)
      · have hF := gi_t c_11 hF
        have hF := Option.some.inj hF
        subst hF
        exact hret _ _ _ _ dX4_turnOthers_82 hP hD hS
      · have hF := gi_f c_11 hF
        refine lv_aload_n hx hb dX4_turnOthers_14 rfl (lv_at hl 1 rfl) ?_
        refine lv_iload hx hb dX4_turnOthers_15 (lv_at hl 4 rfl) ?_
        refine lv_iconst (v := (0 : Int32)) hx hb dX4_turnOthers_17 (by decide) ?_
        obtain ⟨z_18, hz_18, hF⟩ := gi_bind hF
        refine gRi (wc := [(h_a1, .inr (2, [.ref h_a1_cells, .ref h_a1_depths, .int v_a1_became, .int v_a1_items, .int v_a1_inputs, .int v_a1_muls])), (h_a1_cells, .inl (k_a1_cells, 96, .inl v_a1_cells))]) (wr := [(h_this, .inr (4, [.ref h_shares, .ref h_shown, .ref h_shownOfY, .ref h_triple, .ref h_view, .ref h_trial, .ref h_plain, .int v_views, .int v_viewAsNumber, .int v_hand, .int v_modulus, .int v_nextLot, .int v_nextInput])), (h_trial, .inl (k_trial, 4, .inl v_trial))]) (w1 := [(h_a1, .inr (2, [.ref h_a1_cells, .ref h_a1_depths, .int v_a1_became, .int v_a1_items, .int v_a1_inputs, .int v_a1_muls])), (h_a1_cells, .inl (k_a1_cells, 96, .inl v_a1_cells))]) hP hD hS hA [2, 3] [0, 1] rfl rfl (by decide) (by decide) (va_runV (As := [.int y4, .int (0 : Int32)]) (rest := []) CF (t_X2_cell l dC dI h_a1 h_a1_cells h_a1_depths v_a1_became v_a1_items v_a1_inputs v_a1_muls k_a1_cells v_a1_cells H.size y4 (0 : Int32) N z_18 hz_18) cw147 (gPV (ci := 2) hP hD hK hN [2, 3] [1] (by decide) rfl rfl (q0 := 2) rfl rfl) rfl rfl hl.1 rfl (lv_room (Nat.le_of_ble_eq_true rfl)) dX4_turnOthers_18 ⟨Nat.zero_le _, Nat.zero_le _⟩) (fun H locs hP hD hS => ?_)
        have hP : va_P (dC, dI) vwCl [(h_this, .inr (4, [.ref h_shares, .ref h_shown, .ref h_shownOfY, .ref h_triple, .ref h_view, .ref h_trial, .ref h_plain, .int v_views, .int v_viewAsNumber, .int v_hand, .int v_modulus, .int v_nextLot, .int v_nextInput])), (h_trial, .inl (k_trial, 4, .inl v_trial)), (h_a1, .inr (2, [.ref h_a1_cells, .ref h_a1_depths, .int v_a1_became, .int v_a1_items, .int v_a1_inputs, .int v_a1_muls])), (h_a1_cells, .inl (k_a1_cells, 96, .inl v_a1_cells))] H := hP
        have hD : va_D A [(h_this, .inr (4, [.ref h_shares, .ref h_shown, .ref h_shownOfY, .ref h_triple, .ref h_view, .ref h_trial, .ref h_plain, .int v_views, .int v_viewAsNumber, .int v_hand, .int v_modulus, .int v_nextLot, .int v_nextInput])), (h_trial, .inl (k_trial, 4, .inl v_trial)), (h_a1, .inr (2, [.ref h_a1_cells, .ref h_a1_depths, .int v_a1_became, .int v_a1_items, .int v_a1_inputs, .int v_a1_muls])), (h_a1_cells, .inl (k_a1_cells, 96, .inl v_a1_cells))] := hD
        refine lv_if_eq (tgt := 27) hx hb dX4_turnOthers_21 (by decide) (fun c_21 => ?_) (fun c_21 => ?_)
        · have hF := gi_t c_21 hF
          refine lv_aload_n hx hb dX4_turnOthers_27 rfl (lv_at hl 1 rfl) ?_
          refine lv_iload hx hb dX4_turnOthers_28 (lv_at hl 4 rfl) ?_
          refine lv_iconst (v := (4 : Int32)) hx hb dX4_turnOthers_30 (by decide) ?_
          obtain ⟨z_31, hz_31, hF⟩ := gi_bind hF
          refine gRi (wc := [(h_a1, .inr (2, [.ref h_a1_cells, .ref h_a1_depths, .int v_a1_became, .int v_a1_items, .int v_a1_inputs, .int v_a1_muls])), (h_a1_cells, .inl (k_a1_cells, 96, .inl v_a1_cells))]) (wr := [(h_this, .inr (4, [.ref h_shares, .ref h_shown, .ref h_shownOfY, .ref h_triple, .ref h_view, .ref h_trial, .ref h_plain, .int v_views, .int v_viewAsNumber, .int v_hand, .int v_modulus, .int v_nextLot, .int v_nextInput])), (h_trial, .inl (k_trial, 4, .inl v_trial))]) (w1 := [(h_a1, .inr (2, [.ref h_a1_cells, .ref h_a1_depths, .int v_a1_became, .int v_a1_items, .int v_a1_inputs, .int v_a1_muls])), (h_a1_cells, .inl (k_a1_cells, 96, .inl v_a1_cells))]) hP hD hS hA [2, 3] [0, 1] rfl rfl (by decide) (by decide) (va_runV (As := [.int y4, .int (4 : Int32)]) (rest := []) CF (t_X2_cell l dC dI h_a1 h_a1_cells h_a1_depths v_a1_became v_a1_items v_a1_inputs v_a1_muls k_a1_cells v_a1_cells H.size y4 (4 : Int32) N z_31 hz_31) cw147 (gPV (ci := 2) hP hD hK hN [2, 3] [1] (by decide) rfl rfl (q0 := 2) rfl rfl) rfl rfl hl.1 rfl (lv_room (Nat.le_of_ble_eq_true rfl)) dX4_turnOthers_31 ⟨Nat.zero_le _, Nat.zero_le _⟩) (fun H locs hP hD hS => ?_)
          have hP : va_P (dC, dI) vwCl [(h_this, .inr (4, [.ref h_shares, .ref h_shown, .ref h_shownOfY, .ref h_triple, .ref h_view, .ref h_trial, .ref h_plain, .int v_views, .int v_viewAsNumber, .int v_hand, .int v_modulus, .int v_nextLot, .int v_nextInput])), (h_trial, .inl (k_trial, 4, .inl v_trial)), (h_a1, .inr (2, [.ref h_a1_cells, .ref h_a1_depths, .int v_a1_became, .int v_a1_items, .int v_a1_inputs, .int v_a1_muls])), (h_a1_cells, .inl (k_a1_cells, 96, .inl v_a1_cells))] H := hP
          have hD : va_D A [(h_this, .inr (4, [.ref h_shares, .ref h_shown, .ref h_shownOfY, .ref h_triple, .ref h_view, .ref h_trial, .ref h_plain, .int v_views, .int v_viewAsNumber, .int v_hand, .int v_modulus, .int v_nextLot, .int v_nextInput])), (h_trial, .inl (k_trial, 4, .inl v_trial)), (h_a1, .inr (2, [.ref h_a1_cells, .ref h_a1_depths, .int v_a1_became, .int v_a1_items, .int v_a1_inputs, .int v_a1_muls])), (h_a1_cells, .inl (k_a1_cells, 96, .inl v_a1_cells))] := hD
          refine lv_iload_n hx hb dX4_turnOthers_34 rfl (lv_at hl 2 rfl) ?_
          refine lv_icmp_eq (tgt := 73) hx hb dX4_turnOthers_35 (by decide) (fun c_35 => ?_) (fun c_35 => ?_)
          · have hF := gi_t c_35 hF
            refine lv_iinc (v := (y3 + 1)) (lv' := [(3, .int (y3 + 1)), (0, .ref h_this), (1, .ref h_a1), (2, .int x2), (4, .int y4)]) hx hb dX4_turnOthers_73 hl (k := 3) rfl rfl (by decide) rfl (fun ls hl => ?_)
            refine lv_iinc (v := (y4 + 1)) (lv' := [(4, .int (y4 + 1)), (3, .int (y3 + 1)), (0, .ref h_this), (1, .ref h_a1), (2, .int x2)]) hx hb dX4_turnOthers_76 hl (k := 4) rfl rfl (by decide) rfl (fun ls hl => ?_)
            refine lv_goto (tgt := 5) hx hb dX4_turnOthers_79 (by decide) ?_
            exact g_5 v_trial (y3 + 1) (y4 + 1) _ _ _ hF hP hD hS (lv_sub hl [2, 3, 4, 1, 0] rfl)
          · have hF := gi_f c_35 hF
            refine lv_aload_n hx hb dX4_turnOthers_38 rfl (lv_at hl 0 rfl) ?_
            refine va_get (D := (dC, dI)) (ci := 4) (v := .ref h_trial) (C := RX4) (T := TX4) (N := 13) hx hb hts in_X4 hown hK hP 0 rfl rfl 5 (by decide) hL27 (fun _ h9 => h9) rfl dX4_turnOthers_39 ?_
            refine lv_iload_n hx hb dX4_turnOthers_42 rfl (lv_at hl 3 rfl) ?_
            obtain ⟨z_43, hz_43, hF⟩ := gi_bind hF
            refine gRi (wc := [(h_trial, .inl (k_trial, 4, .inl v_trial))]) (wr := [(h_this, .inr (4, [.ref h_shares, .ref h_shown, .ref h_shownOfY, .ref h_triple, .ref h_view, .ref h_trial, .ref h_plain, .int v_views, .int v_viewAsNumber, .int v_hand, .int v_modulus, .int v_nextLot, .int v_nextInput])), (h_a1, .inr (2, [.ref h_a1_cells, .ref h_a1_depths, .int v_a1_became, .int v_a1_items, .int v_a1_inputs, .int v_a1_muls])), (h_a1_cells, .inl (k_a1_cells, 96, .inl v_a1_cells))]) (w1 := [(h_trial, .inl (k_trial, 4, .inl v_trial))]) hP hD hS hA [1] [0, 2, 3] rfl rfl (by decide) (by decide) (va_runSN (As := [.ref h_trial, .int y3]) (rest := []) CF (t_X9_at l dC dI h_trial k_trial 4 v_trial H.size y3 N z_43 hz_43) cw114 (gPS hP hD hK hN [1] [0] (by decide) rfl rfl) rfl rfl hl.1 rfl (lv_room (Nat.le_of_ble_eq_true rfl)) dX4_turnOthers_43 ⟨Nat.zero_le _, Nat.zero_le _⟩) (fun H locs hP hD hS => ?_)
            have hP : va_P (dC, dI) vwCl [(h_this, .inr (4, [.ref h_shares, .ref h_shown, .ref h_shownOfY, .ref h_triple, .ref h_view, .ref h_trial, .ref h_plain, .int v_views, .int v_viewAsNumber, .int v_hand, .int v_modulus, .int v_nextLot, .int v_nextInput])), (h_a1, .inr (2, [.ref h_a1_cells, .ref h_a1_depths, .int v_a1_became, .int v_a1_items, .int v_a1_inputs, .int v_a1_muls])), (h_a1_cells, .inl (k_a1_cells, 96, .inl v_a1_cells)), (h_trial, .inl (k_trial, 4, .inl v_trial))] H := hP
            have hD : va_D A [(h_this, .inr (4, [.ref h_shares, .ref h_shown, .ref h_shownOfY, .ref h_triple, .ref h_view, .ref h_trial, .ref h_plain, .int v_views, .int v_viewAsNumber, .int v_hand, .int v_modulus, .int v_nextLot, .int v_nextInput])), (h_a1, .inr (2, [.ref h_a1_cells, .ref h_a1_depths, .int v_a1_became, .int v_a1_items, .int v_a1_inputs, .int v_a1_muls])), (h_a1_cells, .inl (k_a1_cells, 96, .inl v_a1_cells)), (h_trial, .inl (k_trial, 4, .inl v_trial))] := hD
            refine lv_iconst (v := (1 : Int32)) hx hb dX4_turnOthers_46 (by decide) ?_
            refine lv_iadd hx hb dX4_turnOthers_47 ?_
            refine lv_aload_n hx hb dX4_turnOthers_48 rfl (lv_at hl 0 rfl) ?_
            refine va_get (D := (dC, dI)) (ci := 4) (v := .int v_modulus) (C := RX4) (T := TX4) (N := 13) hx hb hts in_X4 hown hK hP 0 rfl rfl 10 (by decide) hL52 (fun _ h9 => h9) rfl dX4_turnOthers_49 ?_
            obtain ⟨z_52, hz_52, hF⟩ := gi_bind hF
            refine gRi (wc := []) (wr := [(h_this, .inr (4, [.ref h_shares, .ref h_shown, .ref h_shownOfY, .ref h_triple, .ref h_view, .ref h_trial, .ref h_plain, .int v_views, .int v_viewAsNumber, .int v_hand, .int v_modulus, .int v_nextLot, .int v_nextInput])), (h_a1, .inr (2, [.ref h_a1_cells, .ref h_a1_depths, .int v_a1_became, .int v_a1_items, .int v_a1_inputs, .int v_a1_muls])), (h_a1_cells, .inl (k_a1_cells, 96, .inl v_a1_cells)), (h_trial, .inl (k_trial, 4, .inl v_trial))]) (w1 := []) hP hD hS hA [] [0, 1, 2, 3] rfl rfl (by decide) (by decide) (va_runSN (As := [.int (z_43 + (1 : Int32)), .int v_modulus]) (rest := []) CF (t_X9_mod l dC dI H.size (z_43 + (1 : Int32)) v_modulus N z_52 hz_52) cw118 (gPS hP hD hK hN [] [] (by decide) rfl rfl) rfl rfl hl.1 rfl (lv_room (Nat.le_of_ble_eq_true rfl)) dX4_turnOthers_52 ⟨Nat.zero_le _, Nat.zero_le _⟩) (fun H locs hP hD hS => ?_)
            have hP : va_P (dC, dI) vwCl [(h_this, .inr (4, [.ref h_shares, .ref h_shown, .ref h_shownOfY, .ref h_triple, .ref h_view, .ref h_trial, .ref h_plain, .int v_views, .int v_viewAsNumber, .int v_hand, .int v_modulus, .int v_nextLot, .int v_nextInput])), (h_a1, .inr (2, [.ref h_a1_cells, .ref h_a1_depths, .int v_a1_became, .int v_a1_items, .int v_a1_inputs, .int v_a1_muls])), (h_a1_cells, .inl (k_a1_cells, 96, .inl v_a1_cells)), (h_trial, .inl (k_trial, 4, .inl v_trial))] H := hP
            have hD : va_D A [(h_this, .inr (4, [.ref h_shares, .ref h_shown, .ref h_shownOfY, .ref h_triple, .ref h_view, .ref h_trial, .ref h_plain, .int v_views, .int v_viewAsNumber, .int v_hand, .int v_modulus, .int v_nextLot, .int v_nextInput])), (h_a1, .inr (2, [.ref h_a1_cells, .ref h_a1_depths, .int v_a1_became, .int v_a1_items, .int v_a1_inputs, .int v_a1_muls])), (h_a1_cells, .inl (k_a1_cells, 96, .inl v_a1_cells)), (h_trial, .inl (k_trial, 4, .inl v_trial))] := hD
            refine lv_istore (lv' := [(5, .int z_52), (0, .ref h_this), (1, .ref h_a1), (2, .int x2), (3, .int y3), (4, .int y4)]) hx hb dX4_turnOthers_55 hl (by decide) rfl (fun ls hl => ?_)
            refine lv_aload_n hx hb dX4_turnOthers_57 rfl (lv_at hl 1 rfl) ?_
            refine va_get (D := (dC, dI)) (ci := 4) (v := .ref h_trial) (C := RX4) (T := TX4) (N := 13) hx hb hts in_X4 hown hK hP 0 rfl rfl 5 (by decide) hL27 (fun _ h9 => h9) rfl dX4_turnOthers_58 ?_
            refine lv_iload_n hx hb dX4_turnOthers_61 rfl (lv_at hl 4 rfl) ?_
            refine lv_iload hx hb dX4_turnOthers_62 (lv_at hl 0 rfl) ?_
            obtain ⟨z_64, hz_64, hF⟩ := gi_bind hF
            refine gRv (wc := [(h_trial, .inl (k_trial, 4, .inl v_trial))]) (wr := [(h_this, .inr (4, [.ref h_shares, .ref h_shown, .ref h_shownOfY, .ref h_triple, .ref h_view, .ref h_trial, .ref h_plain, .int v_views, .int v_viewAsNumber, .int v_hand, .int v_modulus, .int v_nextLot, .int v_nextInput])), (h_a1, .inr (2, [.ref h_a1_cells, .ref h_a1_depths, .int v_a1_became, .int v_a1_items, .int v_a1_inputs, .int v_a1_muls])), (h_a1_cells, .inl (k_a1_cells, 96, .inl v_a1_cells))]) (w1 := [(h_trial, .inl (k_trial, 4, .inl z_64))]) hP hD hS hA [3] [0, 1, 2] rfl rfl (by decide) (by decide) (va_runSN (As := [.ref h_trial, .int y3, .int z_52]) (rest := []) CF (t_X9_put l dC dI h_trial k_trial 4 v_trial H.size y3 z_52 N z_64 hz_64) cw121 (gPS hP hD hK hN [3] [0] (by decide) rfl rfl) rfl rfl hl.1 rfl (lv_room (Nat.le_of_ble_eq_true rfl)) dX4_turnOthers_64 ⟨Nat.zero_le _, Nat.zero_le _⟩) (fun H locs hP hD hS => ?_)
            have hP : va_P (dC, dI) vwCl [(h_this, .inr (4, [.ref h_shares, .ref h_shown, .ref h_shownOfY, .ref h_triple, .ref h_view, .ref h_trial, .ref h_plain, .int v_views, .int v_viewAsNumber, .int v_hand, .int v_modulus, .int v_nextLot, .int v_nextInput])), (h_a1, .inr (2, [.ref h_a1_cells, .ref h_a1_depths, .int v_a1_became, .int v_a1_items, .int v_a1_inputs, .int v_a1_muls])), (h_a1_cells, .inl (k_a1_cells, 96, .inl v_a1_cells)), (h_trial, .inl (k_trial, 4, .inl z_64))] H := hP
            have hD : va_D A [(h_this, .inr (4, [.ref h_shares, .ref h_shown, .ref h_shownOfY, .ref h_triple, .ref h_view, .ref h_trial, .ref h_plain, .int v_views, .int v_viewAsNumber, .int v_hand, .int v_modulus, .int v_nextLot, .int v_nextInput])), (h_a1, .inr (2, [.ref h_a1_cells, .ref h_a1_depths, .int v_a1_became, .int v_a1_items, .int v_a1_inputs, .int v_a1_muls])), (h_a1_cells, .inl (k_a1_cells, 96, .inl v_a1_cells)), (h_trial, .inl (k_trial, 4, .inl z_64))] := hD
            refine lv_iload hx hb dX4_turnOthers_67 (lv_at hl 0 rfl) ?_
            refine lv_if_eq (tgt := 73) hx hb dX4_turnOthers_69 (by decide) (fun c_69 => ?_) (fun c_69 => ?_)
            · have hF := gi_t c_69 hF
              refine lv_iinc (v := (y3 + 1)) (lv' := [(3, .int (y3 + 1)), (5, .int z_52), (0, .ref h_this), (1, .ref h_a1), (2, .int x2), (4, .int y4)]) hx hb dX4_turnOthers_73 hl (k := 4) rfl rfl (by decide) rfl (fun ls hl => ?_)
              refine lv_iinc (v := (y4 + 1)) (lv' := [(4, .int (y4 + 1)), (3, .int (y3 + 1)), (5, .int z_52), (0, .ref h_this), (1, .ref h_a1), (2, .int x2)]) hx hb dX4_turnOthers_76 hl (k := 5) rfl rfl (by decide) rfl (fun ls hl => ?_)
              refine lv_goto (tgt := 5) hx hb dX4_turnOthers_79 (by decide) ?_
              exact g_5 z_64 (y3 + 1) (y4 + 1) _ _ _ hF (hP.sub [0, 3, 1, 2] rfl) (hD.sub [0, 3, 1, 2] (by decide) rfl) hS (lv_sub hl [3, 4, 5, 1, 0] rfl)
            · have hF := gi_f c_69 hF
              have hF := Option.some.inj hF
              subst hF
              exact hret _ _ _ _ dX4_turnOthers_72 (hP.sub [0, 3, 1, 2] rfl) (hD.sub [0, 3, 1, 2] (by decide) rfl) hS
        · have hF := gi_f c_21 hF
          refine lv_goto (tgt := 76) hx hb dX4_turnOthers_24 (by decide) ?_
          refine lv_iinc (v := (y4 + 1)) (lv' := [(4, .int (y4 + 1)), (0, .ref h_this), (1, .ref h_a1), (2, .int x2), (3, .int y3)]) hx hb dX4_turnOthers_76 hl (k := 4) rfl rfl (by decide) rfl (fun ls hl => ?_)
          refine lv_goto (tgt := 5) hx hb dX4_turnOthers_79 (by decide) ?_
          exact g_5 v_trial y3 (y4 + 1) _ _ _ hF hP hD hS (lv_sub hl [1, 2, 3, 4, 0] rfl)
  unfold f_X4_turnOthers at hF
  refine lv_iconst (v := (0 : Int32)) hx hb dX4_turnOthers_0 (by decide) ?_
  refine lv_istore_n (lv' := [(3, .int (0 : Int32)), (0, .ref h_this), (1, .ref h_a1), (2, .int x2)]) hx hb dX4_turnOthers_1 rfl hl (by decide) rfl (fun ls hl => ?_)
  refine lv_iconst (v := (0 : Int32)) hx hb dX4_turnOthers_2 (by decide) ?_
  refine lv_istore (lv' := [(4, .int (0 : Int32)), (3, .int (0 : Int32)), (0, .ref h_this), (1, .ref h_a1), (2, .int x2)]) hx hb dX4_turnOthers_3 hl (by decide) rfl (fun ls hl => ?_)
  exact k_5 N v_trial (0 : Int32) (0 : Int32) _ _ _ hF hP hD hS (lv_sub hl [2, 3, 4, 1, 0] rfl)
