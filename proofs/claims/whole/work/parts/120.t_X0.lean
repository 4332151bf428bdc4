abbrev O_X0_mayBecome : Type := Int32
def f_X0_mayBecome_64 (N : Nat) (v_prime : Int32) (v_points : Int32) (x1 : Int32) (x2 : Int32) : Option O_X0_mayBecome :=
  if x2 ≤ v_points then (some ((0 : Int32))) else (some ((1 : Int32)))
def f_X0_mayBecome (N : Nat) (v_prime : Int32) (v_points : Int32) (x1 : Int32) (x2 : Int32) : Option O_X0_mayBecome :=
  if x1 = (1 : Int32) then ((f_X9_within N x2 (0 : Int32) (2 : Int32)).bind (fun z_8 => if z_8 &&& 1 = z_8 then some (z_8) else none)) else (if x1 = (2 : Int32) then ((f_X9_within N x2 (3 : Int32) (6 : Int32)).bind (fun z_21 => if z_21 = 0 then (some ((0 : Int32))) else (if v_prime ≤ x2 then (some ((0 : Int32))) else (some ((1 : Int32)))))) else (if x2 = (5 : Int32) then (f_X0_mayBecome_64 N v_prime v_points x1 x2 ) else (if x2 = (7 : Int32) then (f_X0_mayBecome_64 N v_prime v_points x1 x2 ) else (if x2 = (11 : Int32) then (f_X0_mayBecome_64 N v_prime v_points x1 x2 ) else (if x2 = (13 : Int32) then (f_X0_mayBecome_64 N v_prime v_points x1 x2 ) else (some ((0 : Int32))))))))
set_option maxHeartbeats 4000000 in
set_option maxRecDepth 100000 in
theorem t_X0_mayBecome (l : Launch) (dC : Nat → ClassId) (dI : Nat → Nat → Nat) (h_this : Nat) (h_bends : Nat) (h_heights : Nat) (v_prime : Int32) (v_degree : Int32) (v_points : Int32) (v_secret : Int32) (v_c1 : Int32) (v_c2 : Int32) (sz : Nat) (x1 : Int32) (x2 : Int32) (N : Nat) (out : O_X0_mayBecome) (hF : f_X0_mayBecome N v_prime v_points x1 x2 = some out) : gMi l yX0_mayBecome wsX0_mayBecome ({ frames := 1, cells := 0, slots := 0, locals := 22 } : Room) [.ref h_this, .int x1, .int x2] (dC, dI) [(h_this, .inr (0, [.ref h_bends, .ref h_heights, .int v_prime, .int v_degree, .int v_points, .int v_secret, .int v_c1, .int v_c2]))] [] sz [(h_this, .inr (0, [.ref h_bends, .ref h_heights, .int v_prime, .int v_degree, .int v_points, .int v_secret, .int v_c1, .int v_c2]))] out := by
  refine gEz (cc := cX0_mayBecome) (maxL := 3) (by decide) rfl (Nat.le_of_ble_eq_true rfl) ?_
  intro p e s m args below meth c Q A ls CF hK hN hA hret hP hD hS hl
  have hx := CF.1
  have hb := CF.2.1
  have hml := CF.2.2.1
  have hown : s.vm.findClass RX0 = some m.cls := CF.2.2.2.1
  have hts := CF.2.2.2.2
  have hl : lv_has ls 3 [(0, .ref h_this), (1, .int x1), (2, .int x2)] := hl
  have in_X0 : ∀ w ∈ wsX00, w ∈ wsX0_mayBecome := fun w h => List.mem_cons_of_mem _ (List.mem_append_right _ h)
  have hL25 : (Cond.fieldLink RX0 25 "DustSums$Curve" "points" "I").before args s = true := hts (.fieldLink RX0 25 "DustSums$Curve" "points" "I") (List.mem_of_getElem? (i := 2) rfl)
  have nm28 : va_Nw (.methodLinkNest RX0 28 yX9_within "DustSums") s := hN.2 (RX0, 28, yX9_within, "DustSums") (by decide +kernel)
  have cw28 : va_CN ({ frames := 1, cells := 0, slots := 0, locals := 22 } : Room) s args RX0 28 yX9_within "DustSums" cX9_within 3 (some .boolean) wsX9_within ({ frames := 0, cells := 0, slots := 0, locals := 0 } : Room) 0 0 3 ∧ (Cond.static yX9_within).before args s = true ∧ True := ⟨va_cnB 3 hts gX0_mayBecome_X9_within_n28 rfl rfl rfl nm28 (hts (.initialized RX9) (List.mem_of_getElem? (i := 4) rfl)) (by decide +kernel) ⟨Nat.le_of_ble_eq_true rfl, Nat.le_of_ble_eq_true rfl⟩, hts (.static yX9_within) (List.mem_of_getElem? (i := 3) rfl), trivial⟩
  have hL18 : (Cond.fieldLink RX0 18 "DustSums$Curve" "prime" "I").before args s = true := hts (.fieldLink RX0 18 "DustSums$Curve" "prime" "I") (List.mem_of_getElem? (i := 1) rfl)
  have k_64 : ∀ (H : Heap) (locs : List Loc) (ls : Array Slot), f_X0_mayBecome_64 N v_prime v_points x1 x2  = some out → va_P (dC, dI) vwCl [(h_this, .inr (0, [.ref h_bends, .ref h_heights, .int v_prime, .int v_degree, .int v_points, .int v_secret, .int v_c1, .int v_c2]))] H → va_D A [(h_this, .inr (0, [.ref h_bends, .ref h_heights, .int v_prime, .int v_degree, .int v_points, .int v_secret, .int v_c1, .int v_c2]))] → va_S A s.heap H locs → lv_has ls 3 [(0, .ref h_this), (2, .int x2)] → W p l e ({ frames := 1, cells := 0, slots := 0, locals := 22 } : Room) s m args below meth c H locs 0 0 Q (F0 m 64 ls []) := by
    intro  H locs ls hF hP hD hS hl
    unfold f_X0_mayBecome_64 at hF
    refine lv_aload_n hx hb dX0_mayBecome_64 rfl (lv_at hl 0 rfl) ?_
    refine va_get (D := (dC, dI)) (ci := 0) (v := .int v_points) (C := RX0) (T := TX0) (N := 8) hx hb hts in_X0 hown hK hP 0 rfl rfl 4 (by decide) hL25 (fun _ h9 => h9) rfl dX0_mayBecome_65 ?_
    refine lv_iload_n hx hb dX0_mayBecome_68 rfl (lv_at hl 1 rfl) ?_
    refine lv_icmp_ge (tgt := 76) hx hb dX0_mayBecome_69 (by decide) (fun c_69 => ?_) (fun c_69 => ?_)
    · have hF := gi_t c_69 hF
      refine lv_iconst (v := (0 : Int32)) hx hb dX0_mayBecome_76 (by decide) ?_
      have hF := Option.some.inj hF
      subst hF
      exact hret (show (0 : Int32) &&& 1 = (0 : Int32) by decide) _ _ _ _ dX0_mayBecome_77 hP hD hS
    · have hF := gi_f c_69 hF
      refine lv_iconst (v := (1 : Int32)) hx hb dX0_mayBecome_72 (by decide) ?_
      refine lv_goto (tgt := 77) hx hb dX0_mayBecome_73 (by decide) ?_
      have hF := Option.some.inj hF
      subst hF
      exact hret (show (1 : Int32) &&& 1 = (1 : Int32) by decide) _ _ _ _ dX0_mayBecome_77 hP hD hS
  unfold f_X0_mayBecome at hF
  refine lv_iload_n hx hb dX0_mayBecome_0 rfl (lv_at hl 1 rfl) ?_
  refine lv_iconst (v := (1 : Int32)) hx hb dX0_mayBecome_1 (by decide) ?_
  refine lv_icmp_ne (tgt := 12) hx hb dX0_mayBecome_2 (by decide) (fun c_2 => ?_) (fun c_2 => ?_)
  · have hF := gi_f c_2 hF
    refine lv_iload_n hx hb dX0_mayBecome_12 rfl (lv_at hl 1 rfl) ?_
    refine lv_iconst (v := (2 : Int32)) hx hb dX0_mayBecome_13 (by decide) ?_
    refine lv_icmp_ne (tgt := 41) hx hb dX0_mayBecome_14 (by decide) (fun c_14 => ?_) (fun c_14 => ?_)
    · have hF := gi_f c_14 hF
      refine lv_iload_n hx hb dX0_mayBecome_41 rfl (lv_at hl 2 rfl) ?_
      refine lv_iconst (v := (5 : Int32)) hx hb dX0_mayBecome_42 (by decide) ?_
      refine lv_icmp_eq (tgt := 64) hx hb dX0_mayBecome_43 (by decide) (fun c_43 => ?_) (fun c_43 => ?_)
      · have hF := gi_t c_43 hF
        exact k_64  _ _ _ hF hP hD hS (lv_sub hl [0, 2] rfl)
      · have hF := gi_f c_43 hF
        refine lv_iload_n hx hb dX0_mayBecome_46 rfl (lv_at hl 2 rfl) ?_
        refine lv_bipush (v := (7 : Int32)) hx hb dX0_mayBecome_47 (by decide) ?_
        refine lv_icmp_eq (tgt := 64) hx hb dX0_mayBecome_49 (by decide) (fun c_49 => ?_) (fun c_49 => ?_)
        · have hF := gi_t c_49 hF
          exact k_64  _ _ _ hF hP hD hS (lv_sub hl [0, 2] rfl)
        · have hF := gi_f c_49 hF
          refine lv_iload_n hx hb dX0_mayBecome_52 rfl (lv_at hl 2 rfl) ?_
          refine lv_bipush (v := (11 : Int32)) hx hb dX0_mayBecome_53 (by decide) ?_
          refine lv_icmp_eq (tgt := 64) hx hb dX0_mayBecome_55 (by decide) (fun c_55 => ?_) (fun c_55 => ?_)
          · have hF := gi_t c_55 hF
            exact k_64  _ _ _ hF hP hD hS (lv_sub hl [0, 2] rfl)
          · have hF := gi_f c_55 hF
            refine lv_iload_n hx hb dX0_mayBecome_58 rfl (lv_at hl 2 rfl) ?_
            refine lv_bipush (v := (13 : Int32)) hx hb dX0_mayBecome_59 (by decide) ?_
            refine lv_icmp_ne (tgt := 76) hx hb dX0_mayBecome_61 (by decide) (fun c_61 => ?_) (fun c_61 => ?_)
            · have hF := gi_f c_61 hF
              refine lv_iconst (v := (0 : Int32)) hx hb dX0_mayBecome_76 (by decide) ?_
              have hF := Option.some.inj hF
              subst hF
              exact hret (show (0 : Int32) &&& 1 = (0 : Int32) by decide) _ _ _ _ dX0_mayBecome_77 hP hD hS
            · have hF := gi_t c_61 hF
              exact k_64  _ _ _ hF hP hD hS (lv_sub hl [0, 2] rfl)
    · have hF := gi_t c_14 hF
      refine lv_iload_n hx hb dX0_mayBecome_17 rfl (lv_at hl 2 rfl) ?_
      refine lv_iconst (v := (3 : Int32)) hx hb dX0_mayBecome_18 (by decide) ?_
      refine lv_bipush (v := (6 : Int32)) hx hb dX0_mayBecome_19 (by decide) ?_
      obtain ⟨z_21, hz_21, hF⟩ := gi_bind hF
      refine gRi (wc := []) (wr := [(h_this, .inr (0, [.ref h_bends, .ref h_heights, .int v_prime, .int v_degree, .int v_points, .int v_secret, .int v_c1, .int v_c2]))]) (w1 := []) hP hD hS hA [] [0] rfl rfl (by decide) (by decide) (va_runSN (As := [.int x2, .int (3 : Int32), .int (6 : Int32)]) (rest := []) CF (t_X9_within l dC dI s.heap.size x2 (3 : Int32) (6 : Int32) N z_21 hz_21) cw28 (gPS hP hD hK hN [] [] (by decide) rfl rfl) rfl rfl hl.1 rfl (lv_room (Nat.le_of_ble_eq_true rfl)) dX0_mayBecome_21 ⟨Nat.zero_le _, Nat.zero_le _⟩) (fun H locs hP hD hS => ?_)
      have hP : va_P (dC, dI) vwCl [(h_this, .inr (0, [.ref h_bends, .ref h_heights, .int v_prime, .int v_degree, .int v_points, .int v_secret, .int v_c1, .int v_c2]))] H := hP
      have hD : va_D A [(h_this, .inr (0, [.ref h_bends, .ref h_heights, .int v_prime, .int v_degree, .int v_points, .int v_secret, .int v_c1, .int v_c2]))] := hD
      refine lv_if_eq (tgt := 39) hx hb dX0_mayBecome_24 (by decide) (fun c_24 => ?_) (fun c_24 => ?_)
      · have hF := gi_t c_24 hF
        refine lv_iconst (v := (0 : Int32)) hx hb dX0_mayBecome_39 (by decide) ?_
        have hF := Option.some.inj hF
        subst hF
        exact hret (show (0 : Int32) &&& 1 = (0 : Int32) by decide) _ _ _ _ dX0_mayBecome_40 hP hD hS
      · have hF := gi_f c_24 hF
        refine lv_iload_n hx hb dX0_mayBecome_27 rfl (lv_at hl 2 rfl) ?_
        refine lv_aload_n hx hb dX0_mayBecome_28 rfl (lv_at hl 0 rfl) ?_
        refine va_get (D := (dC, dI)) (ci := 0) (v := .int v_prime) (C := RX0) (T := TX0) (N := 8) hx hb hts in_X0 hown hK hP 0 rfl rfl 2 (by decide) hL18 (fun _ h9 => h9) rfl dX0_mayBecome_29 ?_
        refine lv_icmp_ge (tgt := 39) hx hb dX0_mayBecome_32 (by decide) (fun c_32 => ?_) (fun c_32 => ?_)
        · have hF := gi_t c_32 hF
          refine lv_iconst (v := (0 : Int32)) hx hb dX0_mayBecome_39 (by decide) ?_
          have hF := Option.some.inj hF
          subst hF
          exact hret (show (0 : Int32) &&& 1 = (0 : Int32) by decide) _ _ _ _ dX0_mayBecome_40 hP hD hS
        · have hF := gi_f c_32 hF
          refine lv_iconst (v := (1 : Int32)) hx hb dX0_mayBecome_35 (by decide) ?_
          refine lv_goto (tgt := 40) hx hb dX0_mayBecome_36 (by decide) ?_
          have hF := Option.some.inj hF
          subst hF
          exact hret (show (1 : Int32) &&& 1 = (1 : Int32) by decide) _ _ _ _ dX0_mayBecome_40 hP hD hS
  · have hF := gi_t c_2 hF
    refine lv_iload_n hx hb dX0_mayBecome_5 rfl (lv_at hl 2 rfl) ?_
    refine lv_iconst (v := (0 : Int32)) hx hb dX0_mayBecome_6 (by decide) ?_
    refine lv_iconst (v := (2 : Int32)) hx hb dX0_mayBecome_7 (by decide) ?_
    obtain ⟨z_8, hz_8, hF⟩ := gi_bind hF
    refine gRi (wc := []) (wr := [(h_this, .inr (0, [.ref h_bends, .ref h_heights, .int v_prime, .int v_degree, .int v_points, .int v_secret, .int v_c1, .int v_c2]))]) (w1 := []) hP hD hS hA [] [0] rfl rfl (by decide) (by decide) (va_runSN (As := [.int x2, .int (0 : Int32), .int (2 : Int32)]) (rest := []) CF (t_X9_within l dC dI s.heap.size x2 (0 : Int32) (2 : Int32) N z_8 hz_8) cw28 (gPS hP hD hK hN [] [] (by decide) rfl rfl) rfl rfl hl.1 rfl (lv_room (Nat.le_of_ble_eq_true rfl)) dX0_mayBecome_8 ⟨Nat.zero_le _, Nat.zero_le _⟩) (fun H locs hP hD hS => ?_)
    have hP : va_P (dC, dI) vwCl [(h_this, .inr (0, [.ref h_bends, .ref h_heights, .int v_prime, .int v_degree, .int v_points, .int v_secret, .int v_c1, .int v_c2]))] H := hP
    have hD : va_D A [(h_this, .inr (0, [.ref h_bends, .ref h_heights, .int v_prime, .int v_degree, .int v_points, .int v_secret, .int v_c1, .int v_c2]))] := hD
    obtain ⟨hz, hF⟩ := gi_bool hF
    have hF := Option.some.inj hF
    subst hF
    exact hret hz _ _ _ _ dX0_mayBecome_11 hP hD hS
abbrev O_X0_draw : Type := Int32 × Int32 × Int32 × (Nat → Int32)
def f_X0_draw (N : Nat) (x1 : Int32) (x2 : Int32) (x3 : Int32) (v_secret : Int32) (v_c1 : Int32) (v_c2 : Int32) (v_bends : Nat → Int32) : Option O_X0_draw :=
  (f_X9_wipe N 6 v_bends).bind (fun z_19 => some (x1, x2, x3, z_19))
set_option maxHeartbeats 4000000 in
set_option maxRecDepth 100000 in
theorem t_X0_draw (l : Launch) (dC : Nat → ClassId) (dI : Nat → Nat → Nat) (h_this : Nat) (h_bends : Nat) (h_heights : Nat) (v_prime : Int32) (v_degree : Int32) (v_points : Int32) (v_secret : Int32) (v_c1 : Int32) (v_c2 : Int32) (k_bends : ClassId) (v_bends : Nat → Int32) (sz : Nat) (x1 : Int32) (x2 : Int32) (x3 : Int32) (N : Nat) (out : O_X0_draw) (hF : f_X0_draw N x1 x2 x3 v_secret v_c1 v_c2 v_bends = some out) : gMv l yX0_draw wsX0_draw ({ frames := 2, cells := 0, slots := 0, locals := 43 } : Room) [.ref h_this, .int x1, .int x2, .int x3] (dC, dI) [(h_this, .inr (0, [.ref h_bends, .ref h_heights, .int v_prime, .int v_degree, .int v_points, .int v_secret, .int v_c1, .int v_c2])), (h_bends, .inl (k_bends, 6, .inl v_bends))] [(k_bends, .int)] sz [(h_this, .inr (0, [.ref h_bends, .ref h_heights, .int v_prime, .int v_degree, .int v_points, .int out.1, .int out.2.1, .int out.2.2.1])), (h_bends, .inl (k_bends, 6, .inl out.2.2.2))] := by
  refine gEv (cc := cX0_draw) (maxL := 4) (by decide) rfl (Nat.le_of_ble_eq_true rfl) ?_
  intro p e s m args below meth c Q A ls CF hK hN hA hret hP hD hS hl
  have hx := CF.1
  have hb := CF.2.1
  have hml := CF.2.2.1
  have hown : s.vm.findClass RX0 = some m.cls := CF.2.2.2.1
  have hts := CF.2.2.2.2
  have hl : lv_has ls 4 [(0, .ref h_this), (1, .int x1), (2, .int x2), (3, .int x3)] := hl
  have in_X0 : ∀ w ∈ wsX00, w ∈ wsX0_draw := fun w h => List.mem_cons_of_mem _ (List.mem_append_right _ h)
  have hL36 : (Cond.fieldLink RX0 36 "DustSums$Curve" "secret" "I").before args s = true := hts (.fieldLink RX0 36 "DustSums$Curve" "secret" "I") (List.mem_of_getElem? (i := 1) rfl)
  have hL39 : (Cond.fieldLink RX0 39 "DustSums$Curve" "c1" "I").before args s = true := hts (.fieldLink RX0 39 "DustSums$Curve" "c1" "I") (List.mem_of_getElem? (i := 2) rfl)
  have hL42 : (Cond.fieldLink RX0 42 "DustSums$Curve" "c2" "I").before args s = true := hts (.fieldLink RX0 42 "DustSums$Curve" "c2" "I") (List.mem_of_getElem? (i := 3) rfl)
  have hL11 : (Cond.fieldLink RX0 11 "DustSums$Curve" "bends" "[I").before args s = true := hts (.fieldLink RX0 11 "DustSums$Curve" "bends" "[I") (List.mem_of_getElem? (i := 4) rfl)
  have nm45 : va_Nw (.methodLinkNest RX0 45 yX9_wipe "DustSums") s := hN.2 (RX0, 45, yX9_wipe, "DustSums") (by decide +kernel)
  have cw45 : va_CN ({ frames := 2, cells := 0, slots := 0, locals := 43 } : Room) s args RX0 45 yX9_wipe "DustSums" cX9_wipe 1 none wsX9_wipe ({ frames := 1, cells := 0, slots := 0, locals := 23 } : Room) 0 0 1 ∧ (Cond.static yX9_wipe).before args s = true ∧ True := ⟨va_cnB 1 hts gX0_draw_X9_wipe_n45 rfl rfl rfl nm45 (hts (.initialized RX9) (List.mem_of_getElem? (i := 6) rfl)) (by decide +kernel) ⟨Nat.le_of_ble_eq_true rfl, Nat.le_of_ble_eq_true rfl⟩, hts (.static yX9_wipe) (List.mem_of_getElem? (i := 5) rfl), trivial⟩
  unfold f_X0_draw at hF
  refine lv_aload_n hx hb dX0_draw_0 rfl (lv_at hl 0 rfl) ?_
  refine lv_iload_n hx hb dX0_draw_1 rfl (lv_at hl 1 rfl) ?_
  refine va_put (D := (dC, dI)) (ci := 0) (v := .int x1) (ty := .int) (C := RX0) (T := TX0) (N := 8) hx hb hts in_X0 tyX0 tyX0_ok nmX0 hown hK hP hD hS 0 rfl rfl 5 (by decide) hL36 (fun _ h9 => h9) rfl (by decide +kernel) rfl rfl (Nat.le_of_ble_eq_true rfl) dX0_draw_2 (fun H locs hP hD hS => ?_)
  have hP : va_P (dC, dI) vwCl [(h_this, .inr (0, [.ref h_bends, .ref h_heights, .int v_prime, .int v_degree, .int v_points, .int x1, .int v_c1, .int v_c2])), (h_bends, .inl (k_bends, 6, .inl v_bends))] H := hP
  have hD : va_D A [(h_this, .inr (0, [.ref h_bends, .ref h_heights, .int v_prime, .int v_degree, .int v_points, .int x1, .int v_c1, .int v_c2])), (h_bends, .inl (k_bends, 6, .inl v_bends))] := hD
  refine lv_aload_n hx hb dX0_draw_5 rfl (lv_at hl 0 rfl) ?_
  refine lv_iload_n hx hb dX0_draw_6 rfl (lv_at hl 2 rfl) ?_
  refine va_put (D := (dC, dI)) (ci := 0) (v := .int x2) (ty := .int) (C := RX0) (T := TX0) (N := 8) hx hb hts in_X0 tyX0 tyX0_ok nmX0 hown hK hP hD hS 0 rfl rfl 6 (by decide) hL39 (fun _ h9 => h9) rfl (by decide +kernel) rfl rfl (Nat.le_of_ble_eq_true rfl) dX0_draw_7 (fun H locs hP hD hS => ?_)
  have hP : va_P (dC, dI) vwCl [(h_this, .inr (0, [.ref h_bends, .ref h_heights, .int v_prime, .int v_degree, .int v_points, .int x1, .int x2, .int v_c2])), (h_bends, .inl (k_bends, 6, .inl v_bends))] H := hP
  have hD : va_D A [(h_this, .inr (0, [.ref h_bends, .ref h_heights, .int v_prime, .int v_degree, .int v_points, .int x1, .int x2, .int v_c2])), (h_bends, .inl (k_bends, 6, .inl v_bends))] := hD
  refine lv_aload_n hx hb dX0_draw_10 rfl (lv_at hl 0 rfl) ?_
  refine lv_iload_n hx hb dX0_draw_11 rfl (lv_at hl 3 rfl) ?_
  refine va_put (D := (dC, dI)) (ci := 0) (v := .int x3) (ty := .int) (C := RX0) (T := TX0) (N := 8) hx hb hts in_X0 tyX0 tyX0_ok nmX0 hown hK hP hD hS 0 rfl rfl 7 (by decide) hL42 (fun _ h9 => h9) rfl (by decide +kernel) rfl rfl (Nat.le_of_ble_eq_true rfl) dX0_draw_12 (fun H locs hP hD hS => ?_)
  have hP : va_P (dC, dI) vwCl [(h_this, .inr (0, [.ref h_bends, .ref h_heights, .int v_prime, .int v_degree, .int v_points, .int x1, .int x2, .int x3])), (h_bends, .inl (k_bends, 6, .inl v_bends))] H := hP
  have hD : va_D A [(h_this, .inr (0, [.ref h_bends, .ref h_heights, .int v_prime, .int v_degree, .int v_points, .int x1, .int x2, .int x3])), (h_bends, .inl (k_bends, 6, .inl v_bends))] := hD
  refine lv_aload_n hx hb dX0_draw_15 rfl (lv_at hl 0 rfl) ?_
  refine va_get (D := (dC, dI)) (ci := 0) (v := .ref h_bends) (C := RX0) (T := TX0) (N := 8) hx hb hts in_X0 hown hK hP 0 rfl rfl 0 (by decide) hL11 (fun _ h9 => h9) rfl dX0_draw_16 ?_
  obtain ⟨z_19, hz_19, hF⟩ := gi_bind hF
  refine gRv (wc := [(h_bends, .inl (k_bends, 6, .inl v_bends))]) (wr := [(h_this, .inr (0, [.ref h_bends, .ref h_heights, .int v_prime, .int v_degree, .int v_points, .int x1, .int x2, .int x3]))]) (w1 := [(h_bends, .inl (k_bends, 6, .inl z_19))]) hP hD hS hA [1] [0] rfl rfl (by decide) (by decide) (va_runSN (As := [.ref h_bends]) (rest := []) CF (t_X9_wipe l dC dI h_bends k_bends 6 v_bends H.size  N z_19 hz_19) cw45 (gPS hP hD hK hN [1] [0] (by decide) rfl rfl) rfl rfl hl.1 rfl (lv_room (Nat.le_of_ble_eq_true rfl)) dX0_draw_19 ⟨Nat.zero_le _, Nat.zero_le _⟩) (fun H locs hP hD hS => ?_)
  have hP : va_P (dC, dI) vwCl [(h_this, .inr (0, [.ref h_bends, .ref h_heights, .int v_prime, .int v_degree, .int v_points, .int x1, .int x2, .int x3])), (h_bends, .inl (k_bends, 6, .inl z_19))] H := hP
  have hD : va_D A [(h_this, .inr (0, [.ref h_bends, .ref h_heights, .int v_prime, .int v_degree, .int v_points, .int x1, .int x2, .int x3])), (h_bends, .inl (k_bends, 6, .inl z_19))] := hD
  have hF := Option.some.inj hF
  subst hF
  exact hret _ _ _ _ dX0_draw_22 hP hD hS
abbrev O_X0_become : Type := Int32 × Int32 × Int32 × Int32 × Int32 × Int32 × Int32 × (Nat → Int32)
def f_X0_become_58 (N : Nat) (x1 : Int32) (x2 : Int32) (v_prime : Int32) (v_degree : Int32) (v_points : Int32) (v_secret : Int32) (v_c1 : Int32) (v_c2 : Int32) (v_bends : Nat → Int32) (y3 : Int32) : Option O_X0_become :=
  (f_X0_draw N (0 : Int32) (0 : Int32) (0 : Int32) v_secret v_c1 v_c2 v_bends).bind (fun z_62 => some (y3, v_prime, v_degree, v_points, z_62.1, z_62.2.1, z_62.2.2.1, z_62.2.2.2))
def f_X0_become_27 (N : Nat) (x1 : Int32) (x2 : Int32) (v_prime : Int32) (v_degree : Int32) (v_points : Int32) (v_secret : Int32) (v_c1 : Int32) (v_c2 : Int32) (v_bends : Nat → Int32) (t0 : Int32) : Option O_X0_become :=
  if x1 = 0 then (f_X0_become_58 N x1 x2 x2 v_degree v_points v_secret v_c1 v_c2 v_bends t0) else (if x1 = (1 : Int32) then (f_X0_become_58 N x1 x2 v_prime x2 v_points v_secret v_c1 v_c2 v_bends t0) else (f_X0_become_58 N x1 x2 v_prime v_degree x2 v_secret v_c1 v_c2 v_bends t0))
def f_X0_become (N : Nat) (x1 : Int32) (x2 : Int32) (v_prime : Int32) (v_degree : Int32) (v_points : Int32) (v_secret : Int32) (v_c1 : Int32) (v_c2 : Int32) (v_bends : Nat → Int32) : Option O_X0_become :=
  if x1 = 0 then (f_X0_become_27 N x1 x2 v_prime v_degree v_points v_secret v_c1 v_c2 v_bends v_prime) else (if x1 = (1 : Int32) then (f_X0_become_27 N x1 x2 v_prime v_degree v_points v_secret v_c1 v_c2 v_bends v_degree) else (f_X0_become_27 N x1 x2 v_prime v_degree v_points v_secret v_c1 v_c2 v_bends v_points))
set_option maxHeartbeats 4000000 in
set_option maxRecDepth 100000 in
theorem t_X0_become (l : Launch) (dC : Nat → ClassId) (dI : Nat → Nat → Nat) (h_this : Nat) (h_bends : Nat) (h_heights : Nat) (v_prime : Int32) (v_degree : Int32) (v_points : Int32) (v_secret : Int32) (v_c1 : Int32) (v_c2 : Int32) (k_bends : ClassId) (v_bends : Nat → Int32) (sz : Nat) (x1 : Int32) (x2 : Int32) (N : Nat) (out : O_X0_become) (hF : f_X0_become N x1 x2 v_prime v_degree v_points v_secret v_c1 v_c2 v_bends = some out) : gMi l yX0_become wsX0_become ({ frames := 3, cells := 0, slots := 0, locals := 66 } : Room) [.ref h_this, .int x1, .int x2] (dC, dI) [(h_this, .inr (0, [.ref h_bends, .ref h_heights, .int v_prime, .int v_degree, .int v_points, .int v_secret, .int v_c1, .int v_c2])), (h_bends, .inl (k_bends, 6, .inl v_bends))] [(k_bends, .int)] sz [(h_this, .inr (0, [.ref h_bends, .ref h_heights, .int out.2.1, .int out.2.2.1, .int out.2.2.2.1, .int out.2.2.2.2.1, .int out.2.2.2.2.2.1, .int out.2.2.2.2.2.2.1])), (h_bends, .inl (k_bends, 6, .inl out.2.2.2.2.2.2.2))] out.1 := by
  refine gEi (cc := cX0_become) (maxL := 4) (by decide) rfl (Nat.le_of_ble_eq_true rfl) ?_
  intro p e s m args below meth c Q A ls CF hK hN hA hret hP hD hS hl
  have hx := CF.1
  have hb := CF.2.1
  have hml := CF.2.2.1
  have hown : s.vm.findClass RX0 = some m.cls := CF.2.2.2.1
  have hts := CF.2.2.2.2
  have hl : lv_has ls 4 [(0, .ref h_this), (1, .int x1), (2, .int x2)] := hl
  have in_X0 : ∀ w ∈ wsX00, w ∈ wsX0_become := fun w h => List.mem_cons_of_mem _ (List.mem_append_right _ h)
  have hL25 : (Cond.fieldLink RX0 25 "DustSums$Curve" "points" "I").before args s = true := hts (.fieldLink RX0 25 "DustSums$Curve" "points" "I") (List.mem_of_getElem? (i := 3) rfl)
  have cw32 : CallW ({ frames := 3, cells := 0, slots := 0, locals := 66 } : Room) s args RX0 RX0 32 yX0_draw cX0_draw 4 none wsX0_draw ({ frames := 2, cells := 0, slots := 0, locals := 43 } : Room) 0 0 3 := cwV 3 hts gX0_become_X0_draw rfl rfl rfl (by decide +kernel) ⟨Nat.le_of_ble_eq_true rfl, Nat.le_of_ble_eq_true rfl⟩
  have hL22 : (Cond.fieldLink RX0 22 "DustSums$Curve" "degree" "I").before args s = true := hts (.fieldLink RX0 22 "DustSums$Curve" "degree" "I") (List.mem_of_getElem? (i := 2) rfl)
  have hL18 : (Cond.fieldLink RX0 18 "DustSums$Curve" "prime" "I").before args s = true := hts (.fieldLink RX0 18 "DustSums$Curve" "prime" "I") (List.mem_of_getElem? (i := 1) rfl)
  have k_58 : ∀ (v_prime : Int32) (v_degree : Int32) (v_points : Int32) (v_secret : Int32) (v_c1 : Int32) (v_c2 : Int32) (v_bends : Nat → Int32) (y3 : Int32) (H : Heap) (locs : List Loc) (ls : Array Slot), f_X0_become_58 N x1 x2 v_prime v_degree v_points v_secret v_c1 v_c2 v_bends y3 = some out → va_P (dC, dI) vwCl [(h_this, .inr (0, [.ref h_bends, .ref h_heights, .int v_prime, .int v_degree, .int v_points, .int v_secret, .int v_c1, .int v_c2])), (h_bends, .inl (k_bends, 6, .inl v_bends))] H → va_D A [(h_this, .inr (0, [.ref h_bends, .ref h_heights, .int v_prime, .int v_degree, .int v_points, .int v_secret, .int v_c1, .int v_c2])), (h_bends, .inl (k_bends, 6, .inl v_bends))] → va_S A s.heap H locs → lv_has ls 4 [(0, .ref h_this), (3, .int y3)] → W p l e ({ frames := 3, cells := 0, slots := 0, locals := 66 } : Room) s m args below meth c H locs 0 0 Q (F0 m 58 ls []) := by
    intro v_prime v_degree v_points v_secret v_c1 v_c2 v_bends y3 H locs ls hF hP hD hS hl
    unfold f_X0_become_58 at hF
    refine lv_aload_n hx hb dX0_become_58 rfl (lv_at hl 0 rfl) ?_
    refine lv_iconst (v := (0 : Int32)) hx hb dX0_become_59 (by decide) ?_
    refine lv_iconst (v := (0 : Int32)) hx hb dX0_become_60 (by decide) ?_
    refine lv_iconst (v := (0 : Int32)) hx hb dX0_become_61 (by decide) ?_
    obtain ⟨z_62, hz_62, hF⟩ := gi_bind hF
    refine gRv (wc := [(h_this, .inr (0, [.ref h_bends, .ref h_heights, .int v_prime, .int v_degree, .int v_points, .int v_secret, .int v_c1, .int v_c2])), (h_bends, .inl (k_bends, 6, .inl v_bends))]) (wr := []) (w1 := [(h_this, .inr (0, [.ref h_bends, .ref h_heights, .int v_prime, .int v_degree, .int v_points, .int z_62.1, .int z_62.2.1, .int z_62.2.2.1])), (h_bends, .inl (k_bends, 6, .inl z_62.2.2.2))]) hP hD hS hA [0, 1] [] rfl rfl (by decide) (by decide) (va_runV (As := [.int (0 : Int32), .int (0 : Int32), .int (0 : Int32)]) (rest := []) CF (t_X0_draw l dC dI h_this h_bends h_heights v_prime v_degree v_points v_secret v_c1 v_c2 k_bends v_bends H.size (0 : Int32) (0 : Int32) (0 : Int32) N z_62 hz_62) cw32 (gPV (ci := 0) hP hD hK hN [0, 1] [0] (by decide) rfl rfl (q0 := 0) rfl rfl) rfl rfl hl.1 rfl (lv_room (Nat.le_of_ble_eq_true rfl)) dX0_become_62 ⟨Nat.zero_le _, Nat.zero_le _⟩) (fun H locs hP hD hS => ?_)
    have hP : va_P (dC, dI) vwCl [(h_this, .inr (0, [.ref h_bends, .ref h_heights, .int v_prime, .int v_degree, .int v_points, .int z_62.1, .int z_62.2.1, .int z_62.2.2.1])), (h_bends, .inl (k_bends, 6, .inl z_62.2.2.2))] H := hP
    have hD : va_D A [(h_this, .inr (0, [.ref h_bends, .ref h_heights, .int v_prime, .int v_degree, .int v_points, .int z_62.1, .int z_62.2.1, .int z_62.2.2.1])), (h_bends, .inl (k_bends, 6, .inl z_62.2.2.2))] := hD
    refine lv_iload_n hx hb dX0_become_65 rfl (lv_at hl 1 rfl) ?_
    have hF := Option.some.inj hF
    subst hF
    exact hret _ _ _ _ dX0_become_66 hP hD hS
  have k_27 : ∀ (v_prime : Int32) (v_degree : Int32) (v_points : Int32) (v_secret : Int32) (v_c1 : Int32) (v_c2 : Int32) (v_bends : Nat → Int32) (t0 : Int32) (H : Heap) (locs : List Loc) (ls : Array Slot), f_X0_become_27 N x1 x2 v_prime v_degree v_points v_secret v_c1 v_c2 v_bends t0 = some out → va_P (dC, dI) vwCl [(h_this, .inr (0, [.ref h_bends, .ref h_heights, .int v_prime, .int v_degree, .int v_points, .int v_secret, .int v_c1, .int v_c2])), (h_bends, .inl (k_bends, 6, .inl v_bends))] H → va_D A [(h_this, .inr (0, [.ref h_bends, .ref h_heights, .int v_prime, .int v_degree, .int v_points, .int v_secret, .int v_c1, .int v_c2])), (h_bends, .inl (k_bends, 6, .inl v_bends))] → va_S A s.heap H locs → lv_has ls 4 [(0, .ref h_this), (1, .int x1), (2, .int x2)] → W p l e ({ frames := 3, cells := 0, slots := 0, locals := 66 } : Room) s m args below meth c H locs 0 0 Q (F0 m 27 ls [.int t0]) := by
    intro v_prime v_degree v_points v_secret v_c1 v_c2 v_bends t0 H locs ls hF hP hD hS hl
    unfold f_X0_become_27 at hF
    refine lv_istore_n (lv' := [(3, .int t0), (0, .ref h_this), (1, .int x1), (2, .int x2)]) hx hb dX0_become_27 rfl hl (by decide) rfl (fun ls hl => ?_)
    refine lv_iload_n hx hb dX0_become_28 rfl (lv_at hl 2 rfl) ?_
    refine lv_if_ne (tgt := 40) hx hb dX0_become_29 (by decide) (fun c_29 => ?_) (fun c_29 => ?_)
    · have hF := gi_f c_29 hF
      refine lv_iload_n hx hb dX0_become_40 rfl (lv_at hl 2 rfl) ?_
      refine lv_iconst (v := (1 : Int32)) hx hb dX0_become_41 (by decide) ?_
      refine lv_icmp_ne (tgt := 53) hx hb dX0_become_42 (by decide) (fun c_42 => ?_) (fun c_42 => ?_)
      · have hF := gi_f c_42 hF
        refine lv_aload_n hx hb dX0_become_53 rfl (lv_at hl 1 rfl) ?_
        refine lv_iload_n hx hb dX0_become_54 rfl (lv_at hl 3 rfl) ?_
        refine va_put (D := (dC, dI)) (ci := 0) (v := .int x2) (ty := .int) (C := RX0) (T := TX0) (N := 8) hx hb hts in_X0 tyX0 tyX0_ok nmX0 hown hK hP hD hS 0 rfl rfl 4 (by decide) hL25 (fun _ h9 => h9) rfl (by decide +kernel) rfl rfl (Nat.le_of_ble_eq_true rfl) dX0_become_55 (fun H locs hP hD hS => ?_)
        have hP : va_P (dC, dI) vwCl [(h_this, .inr (0, [.ref h_bends, .ref h_heights, .int v_prime, .int v_degree, .int x2, .int v_secret, .int v_c1, .int v_c2])), (h_bends, .inl (k_bends, 6, .inl v_bends))] H := hP
        have hD : va_D A [(h_this, .inr (0, [.ref h_bends, .ref h_heights, .int v_prime, .int v_degree, .int x2, .int v_secret, .int v_c1, .int v_c2])), (h_bends, .inl (k_bends, 6, .inl v_bends))] := hD
        exact k_58 v_prime v_degree x2 v_secret v_c1 v_c2 v_bends t0 _ _ _ hF hP hD hS (lv_sub hl [1, 0] rfl)
      · have hF := gi_t c_42 hF
        refine lv_aload_n hx hb dX0_become_45 rfl (lv_at hl 1 rfl) ?_
        refine lv_iload_n hx hb dX0_become_46 rfl (lv_at hl 3 rfl) ?_
        refine va_put (D := (dC, dI)) (ci := 0) (v := .int x2) (ty := .int) (C := RX0) (T := TX0) (N := 8) hx hb hts in_X0 tyX0 tyX0_ok nmX0 hown hK hP hD hS 0 rfl rfl 3 (by decide) hL22 (fun _ h9 => h9) rfl (by decide +kernel) rfl rfl (Nat.le_of_ble_eq_true rfl) dX0_become_47 (fun H locs hP hD hS => ?_)
        have hP : va_P (dC, dI) vwCl [(h_this, .inr (0, [.ref h_bends, .ref h_heights, .int v_prime, .int x2, .int v_points, .int v_secret, .int v_c1, .int v_c2])), (h_bends, .inl (k_bends, 6, .inl v_bends))] H := hP
        have hD : va_D A [(h_this, .inr (0, [.ref h_bends, .ref h_heights, .int v_prime, .int x2, .int v_points, .int v_secret, .int v_c1, .int v_c2])), (h_bends, .inl (k_bends, 6, .inl v_bends))] := hD
        refine lv_goto (tgt := 58) hx hb dX0_become_50 (by decide) ?_
        exact k_58 v_prime x2 v_points v_secret v_c1 v_c2 v_bends t0 _ _ _ hF hP hD hS (lv_sub hl [1, 0] rfl)
    · have hF := gi_t c_29 hF
      refine lv_aload_n hx hb dX0_become_32 rfl (lv_at hl 1 rfl) ?_
      refine lv_iload_n hx hb dX0_become_33 rfl (lv_at hl 3 rfl) ?_
      refine va_put (D := (dC, dI)) (ci := 0) (v := .int x2) (ty := .int) (C := RX0) (T := TX0) (N := 8) hx hb hts in_X0 tyX0 tyX0_ok nmX0 hown hK hP hD hS 0 rfl rfl 2 (by decide) hL18 (fun _ h9 => h9) rfl (by decide +kernel) rfl rfl (Nat.le_of_ble_eq_true rfl) dX0_become_34 (fun H locs hP hD hS => ?_)
      have hP : va_P (dC, dI) vwCl [(h_this, .inr (0, [.ref h_bends, .ref h_heights, .int x2, .int v_degree, .int v_points, .int v_secret, .int v_c1, .int v_c2])), (h_bends, .inl (k_bends, 6, .inl v_bends))] H := hP
      have hD : va_D A [(h_this, .inr (0, [.ref h_bends, .ref h_heights, .int x2, .int v_degree, .int v_points, .int v_secret, .int v_c1, .int v_c2])), (h_bends, .inl (k_bends, 6, .inl v_bends))] := hD
      refine lv_goto (tgt := 58) hx hb dX0_become_37 (by decide) ?_
      exact k_58 x2 v_degree v_points v_secret v_c1 v_c2 v_bends t0 _ _ _ hF hP hD hS (lv_sub hl [1, 0] rfl)
  unfold f_X0_become at hF
  refine lv_iload_n hx hb dX0_become_0 rfl (lv_at hl 1 rfl) ?_
  refine lv_if_ne (tgt := 11) hx hb dX0_become_1 (by decide) (fun c_1 => ?_) (fun c_1 => ?_)
  · have hF := gi_f c_1 hF
    refine lv_iload_n hx hb dX0_become_11 rfl (lv_at hl 1 rfl) ?_
    refine lv_iconst (v := (1 : Int32)) hx hb dX0_become_12 (by decide) ?_
    refine lv_icmp_ne (tgt := 23) hx hb dX0_become_13 (by decide) (fun c_13 => ?_) (fun c_13 => ?_)
    · have hF := gi_f c_13 hF
      refine lv_aload_n hx hb dX0_become_23 rfl (lv_at hl 0 rfl) ?_
      refine va_get (D := (dC, dI)) (ci := 0) (v := .int v_points) (C := RX0) (T := TX0) (N := 8) hx hb hts in_X0 hown hK hP 0 rfl rfl 4 (by decide) hL25 (fun _ h9 => h9) rfl dX0_become_24 ?_
      exact k_27 v_prime v_degree v_points v_secret v_c1 v_c2 v_bends v_points _ _ _ hF hP hD hS hl
    · have hF := gi_t c_13 hF
      refine lv_aload_n hx hb dX0_become_16 rfl (lv_at hl 0 rfl) ?_
      refine va_get (D := (dC, dI)) (ci := 0) (v := .int v_degree) (C := RX0) (T := TX0) (N := 8) hx hb hts in_X0 hown hK hP 0 rfl rfl 3 (by decide) hL22 (fun _ h9 => h9) rfl dX0_become_17 ?_
      refine lv_goto (tgt := 27) hx hb dX0_become_20 (by decide) ?_
      exact k_27 v_prime v_degree v_points v_secret v_c1 v_c2 v_bends v_degree _ _ _ hF hP hD hS hl
  · have hF := gi_t c_1 hF
    refine lv_aload_n hx hb dX0_become_4 rfl (lv_at hl 0 rfl) ?_
    refine va_get (D := (dC, dI)) (ci := 0) (v := .int v_prime) (C := RX0) (T := TX0) (N := 8) hx hb hts in_X0 hown hK hP 0 rfl rfl 2 (by decide) hL18 (fun _ h9 => h9) rfl dX0_become_5 ?_
    refine lv_goto (tgt := 27) hx hb dX0_become_8 (by decide) ?_
    exact k_27 v_prime v_degree v_points v_secret v_c1 v_c2 v_bends v_prime _ _ _ hF hP hD hS hl
abbrev O_X0_isNumber : Type := Int32
def f_X0_isNumber (N : Nat) (v_prime : Int32) (x1 : Int32) : Option O_X0_isNumber :=
  (f_X9_within N x1 (0 : Int32) (v_prime - (1 : Int32))).bind (fun z_8 => if z_8 &&& 1 = z_8 then some (z_8) else none)
set_option maxHeartbeats 4000000 in
set_option maxRecDepth 100000 in
theorem t_X0_isNumber (l : Launch) (dC : Nat → ClassId) (dI : Nat → Nat → Nat) (h_this : Nat) (h_bends : Nat) (h_heights : Nat) (v_prime : Int32) (v_degree : Int32) (v_points : Int32) (v_secret : Int32) (v_c1 : Int32) (v_c2 : Int32) (sz : Nat) (x1 : Int32) (N : Nat) (out : O_X0_isNumber) (hF : f_X0_isNumber N v_prime x1 = some out) : gMi l yX0_isNumber wsX0_isNumber ({ frames := 1, cells := 0, slots := 0, locals := 22 } : Room) [.ref h_this, .int x1] (dC, dI) [(h_this, .inr (0, [.ref h_bends, .ref h_heights, .int v_prime, .int v_degree, .int v_points, .int v_secret, .int v_c1, .int v_c2]))] [] sz [(h_this, .inr (0, [.ref h_bends, .ref h_heights, .int v_prime, .int v_degree, .int v_points, .int v_secret, .int v_c1, .int v_c2]))] out := by
  refine gEz (cc := cX0_isNumber) (maxL := 2) (by decide) rfl (Nat.le_of_ble_eq_true rfl) ?_
  intro p e s m args below meth c Q A ls CF hK hN hA hret hP hD hS hl
  have hx := CF.1
  have hb := CF.2.1
  have hml := CF.2.2.1
  have hown : s.vm.findClass RX0 = some m.cls := CF.2.2.2.1
  have hts := CF.2.2.2.2
  have hl : lv_has ls 2 [(0, .ref h_this), (1, .int x1)] := hl
  have in_X0 : ∀ w ∈ wsX00, w ∈ wsX0_isNumber := fun w h => List.mem_cons_of_mem _ (List.mem_append_right _ h)
  have hL18 : (Cond.fieldLink RX0 18 "DustSums$Curve" "prime" "I").before args s = true := hts (.fieldLink RX0 18 "DustSums$Curve" "prime" "I") (List.mem_of_getElem? (i := 1) rfl)
  have nm28 : va_Nw (.methodLinkNest RX0 28 yX9_within "DustSums") s := hN.2 (RX0, 28, yX9_within, "DustSums") (by decide +kernel)
  have cw28 : va_CN ({ frames := 1, cells := 0, slots := 0, locals := 22 } : Room) s args RX0 28 yX9_within "DustSums" cX9_within 3 (some .boolean) wsX9_within ({ frames := 0, cells := 0, slots := 0, locals := 0 } : Room) 0 0 3 ∧ (Cond.static yX9_within).before args s = true ∧ True := ⟨va_cnB 3 hts gX0_isNumber_X9_within_n28 rfl rfl rfl nm28 (hts (.initialized RX9) (List.mem_of_getElem? (i := 3) rfl)) (by decide +kernel) ⟨Nat.le_of_ble_eq_true rfl, Nat.le_of_ble_eq_true rfl⟩, hts (.static yX9_within) (List.mem_of_getElem? (i := 2) rfl), trivial⟩
  unfold f_X0_isNumber at hF
  refine lv_iload_n hx hb dX0_isNumber_0 rfl (lv_at hl 1 rfl) ?_
  refine lv_iconst (v := (0 : Int32)) hx hb dX0_isNumber_1 (by decide) ?_
  refine lv_aload_n hx hb dX0_isNumber_2 rfl (lv_at hl 0 rfl) ?_
  refine va_get (D := (dC, dI)) (ci := 0) (v := .int v_prime) (C := RX0) (T := TX0) (N := 8) hx hb hts in_X0 hown hK hP 0 rfl rfl 2 (by decide) hL18 (fun _ h9 => h9) rfl dX0_isNumber_3 ?_
  refine lv_iconst (v := (1 : Int32)) hx hb dX0_isNumber_6 (by decide) ?_
  refine lv_isub hx hb dX0_isNumber_7 ?_
  obtain ⟨z_8, hz_8, hF⟩ := gi_bind hF
  refine gRi (wc := []) (wr := [(h_this, .inr (0, [.ref h_bends, .ref h_heights, .int v_prime, .int v_degree, .int v_points, .int v_secret, .int v_c1, .int v_c2]))]) (w1 := []) hP hD hS hA [] [0] rfl rfl (by decide) (by decide) (va_runSN (As := [.int x1, .int (0 : Int32), .int (v_prime - (1 : Int32))]) (rest := []) CF (t_X9_within l dC dI s.heap.size x1 (0 : Int32) (v_prime - (1 : Int32)) N z_8 hz_8) cw28 (gPS hP hD hK hN [] [] (by decide) rfl rfl) rfl rfl hl.1 rfl (lv_room (Nat.le_of_ble_eq_true rfl)) dX0_isNumber_8 ⟨Nat.zero_le _, Nat.zero_le _⟩) (fun H locs hP hD hS => ?_)
  have hP : va_P (dC, dI) vwCl [(h_this, .inr (0, [.ref h_bends, .ref h_heights, .int v_prime, .int v_degree, .int v_points, .int v_secret, .int v_c1, .int v_c2]))] H := hP
  have hD : va_D A [(h_this, .inr (0, [.ref h_bends, .ref h_heights, .int v_prime, .int v_degree, .int v_points, .int v_secret, .int v_c1, .int v_c2]))] := hD
  obtain ⟨hz, hF⟩ := gi_bool hF
  have hF := Option.some.inj hF
  subst hF
  exact hret hz _ _ _ _ dX0_isNumber_11 hP hD hS
abbrev O_X0_hasHand : Type := Int32
def f_X0_hasHand (N : Nat) (v_points : Int32) (x1 : Int32) : Option O_X0_hasHand :=
  (f_X9_within N x1 (0 : Int32) (v_points - (1 : Int32))).bind (fun z_8 => if z_8 &&& 1 = z_8 then some (z_8) else none)
set_option maxHeartbeats 4000000 in
set_option maxRecDepth 100000 in
theorem t_X0_hasHand (l : Launch) (dC : Nat → ClassId) (dI : Nat → Nat → Nat) (h_this : Nat) (h_bends : Nat) (h_heights : Nat) (v_prime : Int32) (v_degree : Int32) (v_points : Int32) (v_secret : Int32) (v_c1 : Int32) (v_c2 : Int32) (sz : Nat) (x1 : Int32) (N : Nat) (out : O_X0_hasHand) (hF : f_X0_hasHand N v_points x1 = some out) : gMi l yX0_hasHand wsX0_hasHand ({ frames := 1, cells := 0, slots := 0, locals := 22 } : Room) [.ref h_this, .int x1] (dC, dI) [(h_this, .inr (0, [.ref h_bends, .ref h_heights, .int v_prime, .int v_degree, .int v_points, .int v_secret, .int v_c1, .int v_c2]))] [] sz [(h_this, .inr (0, [.ref h_bends, .ref h_heights, .int v_prime, .int v_degree, .int v_points, .int v_secret, .int v_c1, .int v_c2]))] out := by
  refine gEz (cc := cX0_hasHand) (maxL := 2) (by decide) rfl (Nat.le_of_ble_eq_true rfl) ?_
  intro p e s m args below meth c Q A ls CF hK hN hA hret hP hD hS hl
  have hx := CF.1
  have hb := CF.2.1
  have hml := CF.2.2.1
  have hown : s.vm.findClass RX0 = some m.cls := CF.2.2.2.1
  have hts := CF.2.2.2.2
  have hl : lv_has ls 2 [(0, .ref h_this), (1, .int x1)] := hl
  have in_X0 : ∀ w ∈ wsX00, w ∈ wsX0_hasHand := fun w h => List.mem_cons_of_mem _ (List.mem_append_right _ h)
  have hL25 : (Cond.fieldLink RX0 25 "DustSums$Curve" "points" "I").before args s = true := hts (.fieldLink RX0 25 "DustSums$Curve" "points" "I") (List.mem_of_getElem? (i := 1) rfl)
  have nm28 : va_Nw (.methodLinkNest RX0 28 yX9_within "DustSums") s := hN.2 (RX0, 28, yX9_within, "DustSums") (by decide +kernel)
  have cw28 : va_CN ({ frames := 1, cells := 0, slots := 0, locals := 22 } : Room) s args RX0 28 yX9_within "DustSums" cX9_within 3 (some .boolean) wsX9_within ({ frames := 0, cells := 0, slots := 0, locals := 0 } : Room) 0 0 3 ∧ (Cond.static yX9_within).before args s = true ∧ True := ⟨va_cnB 3 hts gX0_hasHand_X9_within_n28 rfl rfl rfl nm28 (hts (.initialized RX9) (List.mem_of_getElem? (i := 3) rfl)) (by decide +kernel) ⟨Nat.le_of_ble_eq_true rfl, Nat.le_of_ble_eq_true rfl⟩, hts (.static yX9_within) (List.mem_of_getElem? (i := 2) rfl), trivial⟩
  unfold f_X0_hasHand at hF
  refine lv_iload_n hx hb dX0_hasHand_0 rfl (lv_at hl 1 rfl) ?_
  refine lv_iconst (v := (0 : Int32)) hx hb dX0_hasHand_1 (by decide) ?_
  refine lv_aload_n hx hb dX0_hasHand_2 rfl (lv_at hl 0 rfl) ?_
  refine va_get (D := (dC, dI)) (ci := 0) (v := .int v_points) (C := RX0) (T := TX0) (N := 8) hx hb hts in_X0 hown hK hP 0 rfl rfl 4 (by decide) hL25 (fun _ h9 => h9) rfl dX0_hasHand_3 ?_
  refine lv_iconst (v := (1 : Int32)) hx hb dX0_hasHand_6 (by decide) ?_
  refine lv_isub hx hb dX0_hasHand_7 ?_
  obtain ⟨z_8, hz_8, hF⟩ := gi_bind hF
  refine gRi (wc := []) (wr := [(h_this, .inr (0, [.ref h_bends, .ref h_heights, .int v_prime, .int v_degree, .int v_points, .int v_secret, .int v_c1, .int v_c2]))]) (w1 := []) hP hD hS hA [] [0] rfl rfl (by decide) (by decide) (va_runSN (As := [.int x1, .int (0 : Int32), .int (v_points - (1 : Int32))]) (rest := []) CF (t_X9_within l dC dI s.heap.size x1 (0 : Int32) (v_points - (1 : Int32)) N z_8 hz_8) cw28 (gPS hP hD hK hN [] [] (by decide) rfl rfl) rfl rfl hl.1 rfl (lv_room (Nat.le_of_ble_eq_true rfl)) dX0_hasHand_8 ⟨Nat.zero_le _, Nat.zero_le _⟩) (fun H locs hP hD hS => ?_)
  have hP : va_P (dC, dI) vwCl [(h_this, .inr (0, [.ref h_bends, .ref h_heights, .int v_prime, .int v_degree, .int v_points, .int v_secret, .int v_c1, .int v_c2]))] H := hP
  have hD : va_D A [(h_this, .inr (0, [.ref h_bends, .ref h_heights, .int v_prime, .int v_degree, .int v_points, .int v_secret, .int v_c1, .int v_c2]))] := hD
  obtain ⟨hz, hF⟩ := gi_bool hF
  have hF := Option.some.inj hF
  subst hF
  exact hret hz _ _ _ _ dX0_hasHand_11 hP hD hS
abbrev O_X0_hasSet : Type := Int32
def f_X0_hasSet (N : Nat) (v_points : Int32) (x1 : Int32) : Option O_X0_hasSet :=
  (f_X9_within N x1 (0 : Int32) (((1 : Int32) <<< (v_points &&& 31)) - (1 : Int32))).bind (fun z_10 => if z_10 &&& 1 = z_10 then some (z_10) else none)
set_option maxHeartbeats 4000000 in
set_option maxRecDepth 100000 in
theorem t_X0_hasSet (l : Launch) (dC : Nat → ClassId) (dI : Nat → Nat → Nat) (h_this : Nat) (h_bends : Nat) (h_heights : Nat) (v_prime : Int32) (v_degree : Int32) (v_points : Int32) (v_secret : Int32) (v_c1 : Int32) (v_c2 : Int32) (sz : Nat) (x1 : Int32) (N : Nat) (out : O_X0_hasSet) (hF : f_X0_hasSet N v_points x1 = some out) : gMi l yX0_hasSet wsX0_hasSet ({ frames := 1, cells := 0, slots := 0, locals := 22 } : Room) [.ref h_this, .int x1] (dC, dI) [(h_this, .inr (0, [.ref h_bends, .ref h_heights, .int v_prime, .int v_degree, .int v_points, .int v_secret, .int v_c1, .int v_c2]))] [] sz [(h_this, .inr (0, [.ref h_bends, .ref h_heights, .int v_prime, .int v_degree, .int v_points, .int v_secret, .int v_c1, .int v_c2]))] out := by
  refine gEz (cc := cX0_hasSet) (maxL := 2) (by decide) rfl (Nat.le_of_ble_eq_true rfl) ?_
  intro p e s m args below meth c Q A ls CF hK hN hA hret hP hD hS hl
  have hx := CF.1
  have hb := CF.2.1
  have hml := CF.2.2.1
  have hown : s.vm.findClass RX0 = some m.cls := CF.2.2.2.1
  have hts := CF.2.2.2.2
  have hl : lv_has ls 2 [(0, .ref h_this), (1, .int x1)] := hl
  have in_X0 : ∀ w ∈ wsX00, w ∈ wsX0_hasSet := fun w h => List.mem_cons_of_mem _ (List.mem_append_right _ h)
  have hL25 : (Cond.fieldLink RX0 25 "DustSums$Curve" "points" "I").before args s = true := hts (.fieldLink RX0 25 "DustSums$Curve" "points" "I") (List.mem_of_getElem? (i := 1) rfl)
  have nm28 : va_Nw (.methodLinkNest RX0 28 yX9_within "DustSums") s := hN.2 (RX0, 28, yX9_within, "DustSums") (by decide +kernel)
  have cw28 : va_CN ({ frames := 1, cells := 0, slots := 0, locals := 22 } : Room) s args RX0 28 yX9_within "DustSums" cX9_within 3 (some .boolean) wsX9_within ({ frames := 0, cells := 0, slots := 0, locals := 0 } : Room) 0 0 3 ∧ (Cond.static yX9_within).before args s = true ∧ True := ⟨va_cnB 3 hts gX0_hasSet_X9_within_n28 rfl rfl rfl nm28 (hts (.initialized RX9) (List.mem_of_getElem? (i := 3) rfl)) (by decide +kernel) ⟨Nat.le_of_ble_eq_true rfl, Nat.le_of_ble_eq_true rfl⟩, hts (.static yX9_within) (List.mem_of_getElem? (i := 2) rfl), trivial⟩
  unfold f_X0_hasSet at hF
  refine lv_iload_n hx hb dX0_hasSet_0 rfl (lv_at hl 1 rfl) ?_
  refine lv_iconst (v := (0 : Int32)) hx hb dX0_hasSet_1 (by decide) ?_
  refine lv_iconst (v := (1 : Int32)) hx hb dX0_hasSet_2 (by decide) ?_
  refine lv_aload_n hx hb dX0_hasSet_3 rfl (lv_at hl 0 rfl) ?_
  refine va_get (D := (dC, dI)) (ci := 0) (v := .int v_points) (C := RX0) (T := TX0) (N := 8) hx hb hts in_X0 hown hK hP 0 rfl rfl 4 (by decide) hL25 (fun _ h9 => h9) rfl dX0_hasSet_4 ?_
  refine lv_ishl hx hb dX0_hasSet_7 ?_
  refine lv_iconst (v := (1 : Int32)) hx hb dX0_hasSet_8 (by decide) ?_
  refine lv_isub hx hb dX0_hasSet_9 ?_
  obtain ⟨z_10, hz_10, hF⟩ := gi_bind hF
  refine gRi (wc := []) (wr := [(h_this, .inr (0, [.ref h_bends, .ref h_heights, .int v_prime, .int v_degree, .int v_points, .int v_secret, .int v_c1, .int v_c2]))]) (w1 := []) hP hD hS hA [] [0] rfl rfl (by decide) (by decide) (va_runSN (As := [.int x1, .int (0 : Int32), .int (((1 : Int32) <<< (v_points &&& 31)) - (1 : Int32))]) (rest := []) CF (t_X9_within l dC dI s.heap.size x1 (0 : Int32) (((1 : Int32) <<< (v_points &&& 31)) - (1 : Int32)) N z_10 hz_10) cw28 (gPS hP hD hK hN [] [] (by decide) rfl rfl) rfl rfl hl.1 rfl (lv_room (Nat.le_of_ble_eq_true rfl)) dX0_hasSet_10 ⟨Nat.zero_le _, Nat.zero_le _⟩) (fun H locs hP hD hS => ?_)
  have hP : va_P (dC, dI) vwCl [(h_this, .inr (0, [.ref h_bends, .ref h_heights, .int v_prime, .int v_degree, .int v_points, .int v_secret, .int v_c1, .int v_c2]))] H := hP
  have hD : va_D A [(h_this, .inr (0, [.ref h_bends, .ref h_heights, .int v_prime, .int v_degree, .int v_points, .int v_secret, .int v_c1, .int v_c2]))] := hD
  obtain ⟨hz, hF⟩ := gi_bool hF
  have hF := Option.some.inj hF
  subst hF
  exact hret hz _ _ _ _ dX0_hasSet_13 hP hD hS
abbrev O_X0_bentPoint : Type := Int32
def f_X0_bentPoint (N : Nat) (v_prime : Int32) (v_secret : Int32) (v_c1 : Int32) (v_c2 : Int32) (v_bends : Nat → Int32) (x1 : Int32) : Option O_X0_bentPoint :=
  (f_X9_at N v_bends 6 x1).bind (fun z_29 => (f_X9_mod N (((v_secret + (v_c1 * (x1 + (1 : Int32)))) + ((v_c2 * (x1 + (1 : Int32))) * (x1 + (1 : Int32)))) + z_29) v_prime).bind (fun z_37 => some (z_37)))
set_option maxHeartbeats 4000000 in
set_option maxRecDepth 100000 in
theorem t_X0_bentPoint (l : Launch) (dC : Nat → ClassId) (dI : Nat → Nat → Nat) (h_this : Nat) (h_bends : Nat) (h_heights : Nat) (v_prime : Int32) (v_degree : Int32) (v_points : Int32) (v_secret : Int32) (v_c1 : Int32) (v_c2 : Int32) (k_bends : ClassId) (v_bends : Nat → Int32) (sz : Nat) (x1 : Int32) (N : Nat) (out : O_X0_bentPoint) (hF : f_X0_bentPoint N v_prime v_secret v_c1 v_c2 v_bends x1 = some out) : gMi l yX0_bentPoint wsX0_bentPoint ({ frames := 1, cells := 0, slots := 0, locals := 22 } : Room) [.ref h_this, .int x1] (dC, dI) [(h_this, .inr (0, [.ref h_bends, .ref h_heights, .int v_prime, .int v_degree, .int v_points, .int v_secret, .int v_c1, .int v_c2])), (h_bends, .inl (k_bends, 6, .inl v_bends))] [(k_bends, .int)] sz [(h_this, .inr (0, [.ref h_bends, .ref h_heights, .int v_prime, .int v_degree, .int v_points, .int v_secret, .int v_c1, .int v_c2])), (h_bends, .inl (k_bends, 6, .inl v_bends))] out := by
  refine gEi (cc := cX0_bentPoint) (maxL := 3) (by decide) rfl (Nat.le_of_ble_eq_true rfl) ?_
  intro p e s m args below meth c Q A ls CF hK hN hA hret hP hD hS hl
  have hx := CF.1
  have hb := CF.2.1
  have hml := CF.2.2.1
  have hown : s.vm.findClass RX0 = some m.cls := CF.2.2.2.1
  have hts := CF.2.2.2.2
  have hl : lv_has ls 3 [(0, .ref h_this), (1, .int x1)] := hl
  have in_X0 : ∀ w ∈ wsX00, w ∈ wsX0_bentPoint := fun w h => List.mem_cons_of_mem _ (List.mem_append_right _ h)
  have hL36 : (Cond.fieldLink RX0 36 "DustSums$Curve" "secret" "I").before args s = true := hts (.fieldLink RX0 36 "DustSums$Curve" "secret" "I") (List.mem_of_getElem? (i := 1) rfl)
  have hL39 : (Cond.fieldLink RX0 39 "DustSums$Curve" "c1" "I").before args s = true := hts (.fieldLink RX0 39 "DustSums$Curve" "c1" "I") (List.mem_of_getElem? (i := 2) rfl)
  have hL42 : (Cond.fieldLink RX0 42 "DustSums$Curve" "c2" "I").before args s = true := hts (.fieldLink RX0 42 "DustSums$Curve" "c2" "I") (List.mem_of_getElem? (i := 3) rfl)
  have hL11 : (Cond.fieldLink RX0 11 "DustSums$Curve" "bends" "[I").before args s = true := hts (.fieldLink RX0 11 "DustSums$Curve" "bends" "[I") (List.mem_of_getElem? (i := 4) rfl)
  have nm49 : va_Nw (.methodLinkNest RX0 49 yX9_at "DustSums") s := hN.2 (RX0, 49, yX9_at, "DustSums") (by decide +kernel)
  have cw49 : va_CN ({ frames := 1, cells := 0, slots := 0, locals := 22 } : Room) s args RX0 49 yX9_at "DustSums" cX9_at 2 (some .int) wsX9_at ({ frames := 0, cells := 0, slots := 0, locals := 0 } : Room) 0 0 2 ∧ (Cond.static yX9_at).before args s = true ∧ True := ⟨va_cnB 2 hts gX0_bentPoint_X9_at_n49 rfl rfl rfl nm49 (hts (.initialized RX9) (List.mem_of_getElem? (i := 7) rfl)) (by decide +kernel) ⟨Nat.le_of_ble_eq_true rfl, Nat.le_of_ble_eq_true rfl⟩, hts (.static yX9_at) (List.mem_of_getElem? (i := 6) rfl), trivial⟩
  have hL18 : (Cond.fieldLink RX0 18 "DustSums$Curve" "prime" "I").before args s = true := hts (.fieldLink RX0 18 "DustSums$Curve" "prime" "I") (List.mem_of_getElem? (i := 5) rfl)
  have nm53 : va_Nw (.methodLinkNest RX0 53 yX9_mod "DustSums") s := hN.2 (RX0, 53, yX9_mod, "DustSums") (by decide +kernel)
  have cw53 : va_CN ({ frames := 1, cells := 0, slots := 0, locals := 22 } : Room) s args RX0 53 yX9_mod "DustSums" cX9_mod 3 (some .int) wsX9_mod ({ frames := 0, cells := 0, slots := 0, locals := 0 } : Room) 0 0 2 ∧ (Cond.static yX9_mod).before args s = true ∧ True := ⟨va_cnB 2 hts gX0_bentPoint_X9_mod_n53 rfl rfl rfl nm53 (hts (.initialized RX9) (List.mem_of_getElem? (i := 7) rfl)) (by decide +kernel) ⟨Nat.le_of_ble_eq_true rfl, Nat.le_of_ble_eq_true rfl⟩, hts (.static yX9_mod) (List.mem_of_getElem? (i := 9) rfl), trivial⟩
  unfold f_X0_bentPoint at hF
  refine lv_iload_n hx hb dX0_bentPoint_0 rfl (lv_at hl 1 rfl) ?_
  refine lv_iconst (v := (1 : Int32)) hx hb dX0_bentPoint_1 (by decide) ?_
  refine lv_iadd hx hb dX0_bentPoint_2 ?_
  refine lv_istore_n (lv' := [(2, .int (x1 + (1 : Int32))), (0, .ref h_this), (1, .int x1)]) hx hb dX0_bentPoint_3 rfl hl (by decide) rfl (fun ls hl => ?_)
  refine lv_aload_n hx hb dX0_bentPoint_4 rfl (lv_at hl 1 rfl) ?_
  refine va_get (D := (dC, dI)) (ci := 0) (v := .int v_secret) (C := RX0) (T := TX0) (N := 8) hx hb hts in_X0 hown hK hP 0 rfl rfl 5 (by decide) hL36 (fun _ h9 => h9) rfl dX0_bentPoint_5 ?_
  refine lv_aload_n hx hb dX0_bentPoint_8 rfl (lv_at hl 1 rfl) ?_
  refine va_get (D := (dC, dI)) (ci := 0) (v := .int v_c1) (C := RX0) (T := TX0) (N := 8) hx hb hts in_X0 hown hK hP 0 rfl rfl 6 (by decide) hL39 (fun _ h9 => h9) rfl dX0_bentPoint_9 ?_
  refine lv_iload_n hx hb dX0_bentPoint_12 rfl (lv_at hl 0 rfl) ?_
  refine lv_imul hx hb dX0_bentPoint_13 ?_
  refine lv_iadd hx hb dX0_bentPoint_14 ?_
  refine lv_aload_n hx hb dX0_bentPoint_15 rfl (lv_at hl 1 rfl) ?_
  refine va_get (D := (dC, dI)) (ci := 0) (v := .int v_c2) (C := RX0) (T := TX0) (N := 8) hx hb hts in_X0 hown hK hP 0 rfl rfl 7 (by decide) hL42 (fun _ h9 => h9) rfl dX0_bentPoint_16 ?_
  refine lv_iload_n hx hb dX0_bentPoint_19 rfl (lv_at hl 0 rfl) ?_
  refine lv_imul hx hb dX0_bentPoint_20 ?_
  refine lv_iload_n hx hb dX0_bentPoint_21 rfl (lv_at hl 0 rfl) ?_
  refine lv_imul hx hb dX0_bentPoint_22 ?_
  refine lv_iadd hx hb dX0_bentPoint_23 ?_
  refine lv_aload_n hx hb dX0_bentPoint_24 rfl (lv_at hl 1 rfl) ?_
  refine va_get (D := (dC, dI)) (ci := 0) (v := .ref h_bends) (C := RX0) (T := TX0) (N := 8) hx hb hts in_X0 hown hK hP 0 rfl rfl 0 (by decide) hL11 (fun _ h9 => h9) rfl dX0_bentPoint_25 ?_
  refine lv_iload_n hx hb dX0_bentPoint_28 rfl (lv_at hl 2 rfl) ?_
  obtain ⟨z_29, hz_29, hF⟩ := gi_bind hF
  refine gRi (wc := [(h_bends, .inl (k_bends, 6, .inl v_bends))]) (wr := [(h_this, .inr (0, [.ref h_bends, .ref h_heights, .int v_prime, .int v_degree, .int v_points, .int v_secret, .int v_c1, .int v_c2]))]) (w1 := [(h_bends, .inl (k_bends, 6, .inl v_bends))]) hP hD hS hA [1] [0] rfl rfl (by decide) (by decide) (va_runSN (As := [.ref h_bends, .int x1]) (rest := [.int ((v_secret + (v_c1 * (x1 + (1 : Int32)))) + ((v_c2 * (x1 + (1 : Int32))) * (x1 + (1 : Int32))))]) CF (t_X9_at l dC dI h_bends k_bends 6 v_bends s.heap.size x1 N z_29 hz_29) cw49 (gPS hP hD hK hN [1] [0] (by decide) rfl rfl) rfl rfl hl.1 rfl (lv_room (Nat.le_of_ble_eq_true rfl)) dX0_bentPoint_29 ⟨Nat.zero_le _, Nat.zero_le _⟩) (fun H locs hP hD hS => ?_)
  have hP : va_P (dC, dI) vwCl [(h_this, .inr (0, [.ref h_bends, .ref h_heights, .int v_prime, .int v_degree, .int v_points, .int v_secret, .int v_c1, .int v_c2])), (h_bends, .inl (k_bends, 6, .inl v_bends))] H := hP
  have hD : va_D A [(h_this, .inr (0, [.ref h_bends, .ref h_heights, .int v_prime, .int v_degree, .int v_points, .int v_secret, .int v_c1, .int v_c2])), (h_bends, .inl (k_bends, 6, .inl v_bends))] := hD
  refine lv_iadd hx hb dX0_bentPoint_32 ?_
  refine lv_aload_n hx hb dX0_bentPoint_33 rfl (lv_at hl 1 rfl) ?_
  refine va_get (D := (dC, dI)) (ci := 0) (v := .int v_prime) (C := RX0) (T := TX0) (N := 8) hx hb hts in_X0 hown hK hP 0 rfl rfl 2 (by decide) hL18 (fun _ h9 => h9) rfl dX0_bentPoint_34 ?_
  obtain ⟨z_37, hz_37, hF⟩ := gi_bind hF
  refine gRi (wc := []) (wr := [(h_this, .inr (0, [.ref h_bends, .ref h_heights, .int v_prime, .int v_degree, .int v_points, .int v_secret, .int v_c1, .int v_c2])), (h_bends, .inl (k_bends, 6, .inl v_bends))]) (w1 := []) hP hD hS hA [] [0, 1] rfl rfl (by decide) (by decide) (va_runSN (As := [.int (((v_secret + (v_c1 * (x1 + (1 : Int32)))) + ((v_c2 * (x1 + (1 : Int32))) * (x1 + (1 : Int32)))) + z_29), .int v_prime]) (rest := []) CF (t_X9_mod l dC dI H.size (((v_secret + (v_c1 * (x1 + (1 : Int32)))) + ((v_c2 * (x1 + (1 : Int32))) * (x1 + (1 : Int32)))) + z_29) v_prime N z_37 hz_37) cw53 (gPS hP hD hK hN [] [] (by decide) rfl rfl) rfl rfl hl.1 rfl (lv_room (Nat.le_of_ble_eq_true rfl)) dX0_bentPoint_37 ⟨Nat.zero_le _, Nat.zero_le _⟩) (fun H locs hP hD hS => ?_)
  have hP : va_P (dC, dI) vwCl [(h_this, .inr (0, [.ref h_bends, .ref h_heights, .int v_prime, .int v_degree, .int v_points, .int v_secret, .int v_c1, .int v_c2])), (h_bends, .inl (k_bends, 6, .inl v_bends))] H := hP
  have hD : va_D A [(h_this, .inr (0, [.ref h_bends, .ref h_heights, .int v_prime, .int v_degree, .int v_points, .int v_secret, .int v_c1, .int v_c2])), (h_bends, .inl (k_bends, 6, .inl v_bends))] := hD
  have hF := Option.some.inj hF
  subst hF
  exact hret _ _ _ _ dX0_bentPoint_40 hP hD hS
abbrev O_X0_takePoints : Type := (Nat → Int32)
def s_X0_takePoints_2 (N : Nat) (v_prime : Int32) (v_points : Int32) (v_secret : Int32) (v_c1 : Int32) (v_c2 : Int32) (v_bends : Nat → Int32) (r_2 : (Nat → Int32) → Int32 → Option O_X0_takePoints) (v_heights : Nat → Int32) (y1 : Int32) : Option O_X0_takePoints :=
  if v_points ≤ y1 then (some (v_heights)) else ((f_X0_bentPoint N v_prime v_secret v_c1 v_c2 v_bends y1).bind (fun z_17 => (f_X9_put N 6 y1 z_17 v_heights).bind (fun z_20 => r_2 z_20 (y1 + 1))))
def f_X0_takePoints_2 (N : Nat) (v_prime : Int32) (v_points : Int32) (v_secret : Int32) (v_c1 : Int32) (v_c2 : Int32) (v_bends : Nat → Int32) (n : Nat) : (Nat → Int32) → Int32 → Option O_X0_takePoints := lpg (fun _ _ => none) (s_X0_takePoints_2 N v_prime v_points v_secret v_c1 v_c2 v_bends) n
def f_X0_takePoints (N : Nat) (v_prime : Int32) (v_points : Int32) (v_secret : Int32) (v_c1 : Int32) (v_c2 : Int32) (v_bends : Nat → Int32) (v_heights : Nat → Int32) : Option O_X0_takePoints :=
  f_X0_takePoints_2 N v_prime v_points v_secret v_c1 v_c2 v_bends N v_heights (0 : Int32)
set_option maxHeartbeats 4000000 in
set_option maxRecDepth 100000 in
theorem t_X0_takePoints (l : Launch) (dC : Nat → ClassId) (dI : Nat → Nat → Nat) (h_this : Nat) (h_bends : Nat) (h_heights : Nat) (v_prime : Int32) (v_degree : Int32) (v_points : Int32) (v_secret : Int32) (v_c1 : Int32) (v_c2 : Int32) (k_bends : ClassId) (v_bends : Nat → Int32) (k_heights : ClassId) (v_heights : Nat → Int32) (sz : Nat) (N : Nat) (out : O_X0_takePoints) (hF : f_X0_takePoints N v_prime v_points v_secret v_c1 v_c2 v_bends v_heights = some out) : gMv l yX0_takePoints wsX0_takePoints ({ frames := 2, cells := 0, slots := 0, locals := 44 } : Room) [.ref h_this] (dC, dI) [(h_this, .inr (0, [.ref h_bends, .ref h_heights, .int v_prime, .int v_degree, .int v_points, .int v_secret, .int v_c1, .int v_c2])), (h_bends, .inl (k_bends, 6, .inl v_bends)), (h_heights, .inl (k_heights, 6, .inl v_heights))] [(k_bends, .int), (k_heights, .int)] sz [(h_this, .inr (0, [.ref h_bends, .ref h_heights, .int v_prime, .int v_degree, .int v_points, .int v_secret, .int v_c1, .int v_c2])), (h_bends, .inl (k_bends, 6, .inl v_bends)), (h_heights, .inl (k_heights, 6, .inl out))] := by
  refine gEv (cc := cX0_takePoints) (maxL := 2) (by decide) rfl (Nat.le_of_ble_eq_true rfl) ?_
  intro p e s m args below meth c Q A ls CF hK hN hA hret hP hD hS hl
  have hx := CF.1
  have hb := CF.2.1
  have hml := CF.2.2.1
  have hown : s.vm.findClass RX0 = some m.cls := CF.2.2.2.1
  have hts := CF.2.2.2.2
  have hl : lv_has ls 2 [(0, .ref h_this)] := hl
  have in_X0 : ∀ w ∈ wsX00, w ∈ wsX0_takePoints := fun w h => List.mem_cons_of_mem _ (List.mem_append_right _ h)
  have hL25 : (Cond.fieldLink RX0 25 "DustSums$Curve" "points" "I").before args s = true := hts (.fieldLink RX0 25 "DustSums$Curve" "points" "I") (List.mem_of_getElem? (i := 1) rfl)
  have hL15 : (Cond.fieldLink RX0 15 "DustSums$Curve" "heights" "[I").before args s = true := hts (.fieldLink RX0 15 "DustSums$Curve" "heights" "[I") (List.mem_of_getElem? (i := 2) rfl)
  have cw57 : CallW ({ frames := 2, cells := 0, slots := 0, locals := 44 } : Room) s args RX0 RX0 57 yX0_bentPoint cX0_bentPoint 3 (some .int) wsX0_bentPoint ({ frames := 1, cells := 0, slots := 0, locals := 22 } : Room) 0 0 1 := cwV 1 hts gX0_takePoints_X0_bentPoint rfl rfl rfl (by decide +kernel) ⟨Nat.le_of_ble_eq_true rfl, Nat.le_of_ble_eq_true rfl⟩
  have nm61 : va_Nw (.methodLinkNest RX0 61 yX9_put "DustSums") s := hN.2 (RX0, 61, yX9_put, "DustSums") (by decide +kernel)
  have cw61 : va_CN ({ frames := 2, cells := 0, slots := 0, locals := 44 } : Room) s args RX0 61 yX9_put "DustSums" cX9_put 3 none wsX9_put ({ frames := 0, cells := 0, slots := 0, locals := 0 } : Room) 0 0 3 ∧ (Cond.static yX9_put).before args s = true ∧ True := ⟨va_cnB 3 hts gX0_takePoints_X9_put_n61 rfl rfl rfl nm61 (hts (.initialized RX9) (List.mem_of_getElem? (i := 14) rfl)) (by decide +kernel) ⟨Nat.le_of_ble_eq_true rfl, Nat.le_of_ble_eq_true rfl⟩, hts (.static yX9_put) (List.mem_of_getElem? (i := 18) rfl), trivial⟩
  have k_2 : ∀ (n : Nat) (v_heights : Nat → Int32) (y1 : Int32) (H : Heap) (locs : List Loc) (ls : Array Slot), f_X0_takePoints_2 N v_prime v_points v_secret v_c1 v_c2 v_bends n v_heights y1 = some out → va_P (dC, dI) vwCl [(h_this, .inr (0, [.ref h_bends, .ref h_heights, .int v_prime, .int v_degree, .int v_points, .int v_secret, .int v_c1, .int v_c2])), (h_bends, .inl (k_bends, 6, .inl v_bends)), (h_heights, .inl (k_heights, 6, .inl v_heights))] H → va_D A [(h_this, .inr (0, [.ref h_bends, .ref h_heights, .int v_prime, .int v_degree, .int v_points, .int v_secret, .int v_c1, .int v_c2])), (h_bends, .inl (k_bends, 6, .inl v_bends)), (h_heights, .inl (k_heights, 6, .inl v_heights))] → va_S A s.heap H locs → lv_has ls 2 [(0, .ref h_this), (1, .int y1)] → W p l e ({ frames := 2, cells := 0, slots := 0, locals := 44 } : Room) s m args below meth c H locs 0 0 Q (F0 m 2 ls []) := by
    intro n
    induction n with
    | zero =>
      intro v_heights y1 H locs ls hF
      have hF : (none : Option O_X0_takePoints) = some out := hF
      cases hF
    | succ n ih =>
      intro v_heights y1 H locs ls hF hP hD hS hl
      have hF : s_X0_takePoints_2 N v_prime v_points v_secret v_c1 v_c2 v_bends (f_X0_takePoints_2 N v_prime v_points v_secret v_c1 v_c2 v_bends n) v_heights y1 = some out := hF
      generalize f_X0_takePoints_2 N v_prime v_points v_secret v_c1 v_c2 v_bends n = r_2 at hF ih
      have g_2 : ∀ (v_heights : Nat → Int32) (y1 : Int32) (H : Heap) (locs : List Loc) (ls : Array Slot), r_2 v_heights y1 = some out → va_P (dC, dI) vwCl [(h_this, .inr (0, [.ref h_bends, .ref h_heights, .int v_prime, .int v_degree, .int v_points, .int v_secret, .int v_c1, .int v_c2])), (h_bends, .inl (k_bends, 6, .inl v_bends)), (h_heights, .inl (k_heights, 6, .inl v_heights))] H → va_D A [(h_this, .inr (0, [.ref h_bends, .ref h_heights, .int v_prime, .int v_degree, .int v_points, .int v_secret, .int v_c1, .int v_c2])), (h_bends, .inl (k_bends, 6, .inl v_bends)), (h_heights, .inl (k_heights, 6, .inl v_heights))] → va_S A s.heap H locs → lv_has ls 2 [(0, .ref h_this), (1, .int y1)] → W p l e ({ frames := 2, cells := 0, slots := 0, locals := 44 } : Room) s m args below meth c H locs 0 0 Q (F0 m 2 ls []) := ih
      clear ih
      unfold s_X0_takePoints_2 at hF
      refine lv_iload_n hx hb dX0_takePoints_2 rfl (lv_at hl 1 rfl) ?_
      refine lv_aload_n hx hb dX0_takePoints_3 rfl (lv_at hl 0 rfl) ?_
      refine va_get (D := (dC, dI)) (ci := 0) (v := .int v_points) (C := RX0) (T := TX0) (N := 8) hx hb hts in_X0 hown hK hP 0 rfl rfl 4 (by decide) hL25 (fun _ h9 => h9) rfl dX0_takePoints_4 ?_
      refine lv_icmp_ge (tgt := 29) hx hb dX0_takePoints_7 (by decide) (fun c_7 => ?_) (fun c_7 => ?_)
      · have hF := gi_t c_7 hF
        have hF := Option.some.inj hF
        subst hF
        exact hret _ _ _ _ dX0_takePoints_29 hP hD hS
      · have hF := gi_f c_7 hF
        refine lv_aload_n hx hb dX0_takePoints_10 rfl (lv_at hl 0 rfl) ?_
        refine va_get (D := (dC, dI)) (ci := 0) (v := .ref h_heights) (C := RX0) (T := TX0) (N := 8) hx hb hts in_X0 hown hK hP 0 rfl rfl 1 (by decide) hL15 (fun _ h9 => h9) rfl dX0_takePoints_11 ?_
        refine lv_iload_n hx hb dX0_takePoints_14 rfl (lv_at hl 1 rfl) ?_
        refine lv_aload_n hx hb dX0_takePoints_15 rfl (lv_at hl 0 rfl) ?_
        refine lv_iload_n hx hb dX0_takePoints_16 rfl (lv_at hl 1 rfl) ?_
        obtain ⟨z_17, hz_17, hF⟩ := gi_bind hF
        refine gRi (wc := [(h_this, .inr (0, [.ref h_bends, .ref h_heights, .int v_prime, .int v_degree, .int v_points, .int v_secret, .int v_c1, .int v_c2])), (h_bends, .inl (k_bends, 6, .inl v_bends))]) (wr := [(h_heights, .inl (k_heights, 6, .inl v_heights))]) (w1 := [(h_this, .inr (0, [.ref h_bends, .ref h_heights, .int v_prime, .int v_degree, .int v_points, .int v_secret, .int v_c1, .int v_c2])), (h_bends, .inl (k_bends, 6, .inl v_bends))]) hP hD hS hA [0, 1] [2] rfl rfl (by decide) (by decide) (va_runV (As := [.int y1]) (rest := [.int y1, .ref h_heights]) CF (t_X0_bentPoint l dC dI h_this h_bends h_heights v_prime v_degree v_points v_secret v_c1 v_c2 k_bends v_bends H.size y1 N z_17 hz_17) cw57 (gPV (ci := 0) hP hD hK hN [0, 1] [0] (by decide) rfl rfl (q0 := 0) rfl rfl) rfl rfl hl.1 rfl (lv_room (Nat.le_of_ble_eq_true rfl)) dX0_takePoints_17 ⟨Nat.zero_le _, Nat.zero_le _⟩) (fun H locs hP hD hS => ?_)
        have hP : va_P (dC, dI) vwCl [(h_heights, .inl (k_heights, 6, .inl v_heights)), (h_this, .inr (0, [.ref h_bends, .ref h_heights, .int v_prime, .int v_degree, .int v_points, .int v_secret, .int v_c1, .int v_c2])), (h_bends, .inl (k_bends, 6, .inl v_bends))] H := hP
        have hD : va_D A [(h_heights, .inl (k_heights, 6, .inl v_heights)), (h_this, .inr (0, [.ref h_bends, .ref h_heights, .int v_prime, .int v_degree, .int v_points, .int v_secret, .int v_c1, .int v_c2])), (h_bends, .inl (k_bends, 6, .inl v_bends))] := hD
        obtain ⟨z_20, hz_20, hF⟩ := gi_bind hF
        refine gRv (wc := [(h_heights, .inl (k_heights, 6, .inl v_heights))]) (wr := [(h_this, .inr (0, [.ref h_bends, .ref h_heights, .int v_prime, .int v_degree, .int v_points, .int v_secret, .int v_c1, .int v_c2])), (h_bends, .inl (k_bends, 6, .inl v_bends))]) (w1 := [(h_heights, .inl (k_heights, 6, .inl z_20))]) hP hD hS hA [0] [1, 2] rfl rfl (by decide) (by decide) (va_runSN (As := [.ref h_heights, .int y1, .int z_17]) (rest := []) CF (t_X9_put l dC dI h_heights k_heights 6 v_heights H.size y1 z_17 N z_20 hz_20) cw61 (gPS hP hD hK hN [0] [1] (by decide) rfl rfl) rfl rfl hl.1 rfl (lv_room (Nat.le_of_ble_eq_true rfl)) dX0_takePoints_20 ⟨Nat.zero_le _, Nat.zero_le _⟩) (fun H locs hP hD hS => ?_)
        have hP : va_P (dC, dI) vwCl [(h_this, .inr (0, [.ref h_bends, .ref h_heights, .int v_prime, .int v_degree, .int v_points, .int v_secret, .int v_c1, .int v_c2])), (h_bends, .inl (k_bends, 6, .inl v_bends)), (h_heights, .inl (k_heights, 6, .inl z_20))] H := hP
        have hD : va_D A [(h_this, .inr (0, [.ref h_bends, .ref h_heights, .int v_prime, .int v_degree, .int v_points, .int v_secret, .int v_c1, .int v_c2])), (h_bends, .inl (k_bends, 6, .inl v_bends)), (h_heights, .inl (k_heights, 6, .inl z_20))] := hD
        refine lv_iinc (v := (y1 + 1)) (lv' := [(1, .int (y1 + 1)), (0, .ref h_this)]) hx hb dX0_takePoints_23 hl (k := 1) rfl rfl (by decide) rfl (fun ls hl => ?_)
        refine lv_goto (tgt := 2) hx hb dX0_takePoints_26 (by decide) ?_
        exact g_2 z_20 (y1 + 1) _ _ _ hF hP hD hS (lv_sub hl [1, 0] rfl)
  unfold f_X0_takePoints at hF
  refine lv_iconst (v := (0 : Int32)) hx hb dX0_takePoints_0 (by decide) ?_
  refine lv_istore_n (lv' := [(1, .int (0 : Int32)), (0, .ref h_this)]) hx hb dX0_takePoints_1 rfl hl (by decide) rfl (fun ls hl => ?_)
  exact k_2 N v_heights (0 : Int32) _ _ _ hF hP hD hS (lv_sub hl [1, 0] rfl)
abbrev O_X0_takeSquares : Type := (Nat → Int32)
def s_X0_takeSquares_2 (N : Nat) (v_prime : Int32) (v_points : Int32) (v_secret : Int32) (v_c1 : Int32) (v_c2 : Int32) (v_bends : Nat → Int32) (r_2 : (Nat → Int32) → Int32 → Option O_X0_takeSquares) (v_heights : Nat → Int32) (y1 : Int32) : Option O_X0_takeSquares :=
  if v_points ≤ y1 then (some (v_heights)) else ((f_X0_bentPoint N v_prime v_secret v_c1 v_c2 v_bends y1).bind (fun z_17 => (f_X0_bentPoint N v_prime v_secret v_c1 v_c2 v_bends y1).bind (fun z_22 => (f_X9_mod N (z_17 * z_22) v_prime).bind (fun z_30 => (f_X9_put N 6 y1 z_30 v_heights).bind (fun z_33 => r_2 z_33 (y1 + 1))))))
def f_X0_takeSquares_2 (N : Nat) (v_prime : Int32) (v_points : Int32) (v_secret : Int32) (v_c1 : Int32) (v_c2 : Int32) (v_bends : Nat → Int32) (n : Nat) : (Nat → Int32) → Int32 → Option O_X0_takeSquares := lpg (fun _ _ => none) (s_X0_takeSquares_2 N v_prime v_points v_secret v_c1 v_c2 v_bends) n
def f_X0_takeSquares (N : Nat) (v_prime : Int32) (v_points : Int32) (v_secret : Int32) (v_c1 : Int32) (v_c2 : Int32) (v_bends : Nat → Int32) (v_heights : Nat → Int32) : Option O_X0_takeSquares :=
  f_X0_takeSquares_2 N v_prime v_points v_secret v_c1 v_c2 v_bends N v_heights (0 : Int32)
set_option maxHeartbeats 4000000 in
set_option maxRecDepth 100000 in
theorem t_X0_takeSquares (l : Launch) (dC : Nat → ClassId) (dI : Nat → Nat → Nat) (h_this : Nat) (h_bends : Nat) (h_heights : Nat) (v_prime : Int32) (v_degree : Int32) (v_points : Int32) (v_secret : Int32) (v_c1 : Int32) (v_c2 : Int32) (k_bends : ClassId) (v_bends : Nat → Int32) (k_heights : ClassId) (v_heights : Nat → Int32) (sz : Nat) (N : Nat) (out : O_X0_takeSquares) (hF : f_X0_takeSquares N v_prime v_points v_secret v_c1 v_c2 v_bends v_heights = some out) : gMv l yX0_takeSquares wsX0_takeSquares ({ frames := 2, cells := 0, slots := 0, locals := 44 } : Room) [.ref h_this] (dC, dI) [(h_this, .inr (0, [.ref h_bends, .ref h_heights, .int v_prime, .int v_degree, .int v_points, .int v_secret, .int v_c1, .int v_c2])), (h_bends, .inl (k_bends, 6, .inl v_bends)), (h_heights, .inl (k_heights, 6, .inl v_heights))] [(k_bends, .int), (k_heights, .int)] sz [(h_this, .inr (0, [.ref h_bends, .ref h_heights, .int v_prime, .int v_degree, .int v_points, .int v_secret, .int v_c1, .int v_c2])), (h_bends, .inl (k_bends, 6, .inl v_bends)), (h_heights, .inl (k_heights, 6, .inl out))] := by
  refine gEv (cc := cX0_takeSquares) (maxL := 2) (by decide) rfl (Nat.le_of_ble_eq_true rfl) ?_
  intro p e s m args below meth c Q A ls CF hK hN hA hret hP hD hS hl
  have hx := CF.1
  have hb := CF.2.1
  have hml := CF.2.2.1
  have hown : s.vm.findClass RX0 = some m.cls := CF.2.2.2.1
  have hts := CF.2.2.2.2
  have hl : lv_has ls 2 [(0, .ref h_this)] := hl
  have in_X0 : ∀ w ∈ wsX00, w ∈ wsX0_takeSquares := fun w h => List.mem_cons_of_mem _ (List.mem_append_right _ h)
  have hL25 : (Cond.fieldLink RX0 25 "DustSums$Curve" "points" "I").before args s = true := hts (.fieldLink RX0 25 "DustSums$Curve" "points" "I") (List.mem_of_getElem? (i := 1) rfl)
  have hL15 : (Cond.fieldLink RX0 15 "DustSums$Curve" "heights" "[I").before args s = true := hts (.fieldLink RX0 15 "DustSums$Curve" "heights" "[I") (List.mem_of_getElem? (i := 2) rfl)
  have cw57 : CallW ({ frames := 2, cells := 0, slots := 0, locals := 44 } : Room) s args RX0 RX0 57 yX0_bentPoint cX0_bentPoint 3 (some .int) wsX0_bentPoint ({ frames := 1, cells := 0, slots := 0, locals := 22 } : Room) 0 0 1 := cwV 1 hts gX0_takeSquares_X0_bentPoint rfl rfl rfl (by decide +kernel) ⟨Nat.le_of_ble_eq_true rfl, Nat.le_of_ble_eq_true rfl⟩
  have hL18 : (Cond.fieldLink RX0 18 "DustSums$Curve" "prime" "I").before args s = true := hts (.fieldLink RX0 18 "DustSums$Curve" "prime" "I") (List.mem_of_getElem? (i := 3) rfl)
  have nm53 : va_Nw (.methodLinkNest RX0 53 yX9_mod "DustSums") s := hN.2 (RX0, 53, yX9_mod, "DustSums") (by decide +kernel)
  have cw53 : va_CN ({ frames := 2, cells := 0, slots := 0, locals := 44 } : Room) s args RX0 53 yX9_mod "DustSums" cX9_mod 3 (some .int) wsX9_mod ({ frames := 0, cells := 0, slots := 0, locals := 0 } : Room) 0 0 2 ∧ (Cond.static yX9_mod).before args s = true ∧ True := ⟨va_cnB 2 hts gX0_takeSquares_X9_mod_n53 rfl rfl rfl nm53 (hts (.initialized RX9) (List.mem_of_getElem? (i := 14) rfl)) (by decide +kernel) ⟨Nat.le_of_ble_eq_true rfl, Nat.le_of_ble_eq_true rfl⟩, hts (.static yX9_mod) (List.mem_of_getElem? (i := 16) rfl), trivial⟩
  have nm61 : va_Nw (.methodLinkNest RX0 61 yX9_put "DustSums") s := hN.2 (RX0, 61, yX9_put, "DustSums") (by decide +kernel)
  have cw61 : va_CN ({ frames := 2, cells := 0, slots := 0, locals := 44 } : Room) s args RX0 61 yX9_put "DustSums" cX9_put 3 none wsX9_put ({ frames := 0, cells := 0, slots := 0, locals := 0 } : Room) 0 0 3 ∧ (Cond.static yX9_put).before args s = true ∧ True := ⟨va_cnB 3 hts gX0_takeSquares_X9_put_n61 rfl rfl rfl nm61 (hts (.initialized RX9) (List.mem_of_getElem? (i := 14) rfl)) (by decide +kernel) ⟨Nat.le_of_ble_eq_true rfl, Nat.le_of_ble_eq_true rfl⟩, hts (.static yX9_put) (List.mem_of_getElem? (i := 18) rfl), trivial⟩
  have k_2 : ∀ (n : Nat) (v_heights : Nat → Int32) (y1 : Int32) (H : Heap) (locs : List Loc) (ls : Array Slot), f_X0_takeSquares_2 N v_prime v_points v_secret v_c1 v_c2 v_bends n v_heights y1 = some out → va_P (dC, dI) vwCl [(h_this, .inr (0, [.ref h_bends, .ref h_heights, .int v_prime, .int v_degree, .int v_points, .int v_secret, .int v_c1, .int v_c2])), (h_bends, .inl (k_bends, 6, .inl v_bends)), (h_heights, .inl (k_heights, 6, .inl v_heights))] H → va_D A [(h_this, .inr (0, [.ref h_bends, .ref h_heights, .int v_prime, .int v_degree, .int v_points, .int v_secret, .int v_c1, .int v_c2])), (h_bends, .inl (k_bends, 6, .inl v_bends)), (h_heights, .inl (k_heights, 6, .inl v_heights))] → va_S A s.heap H locs → lv_has ls 2 [(0, .ref h_this), (1, .int y1)] → W p l e ({ frames := 2, cells := 0, slots := 0, locals := 44 } : Room) s m args below meth c H locs 0 0 Q (F0 m 2 ls []) := by
    intro n
    induction n with
    | zero =>
      intro v_heights y1 H locs ls hF
      have hF : (none : Option O_X0_takeSquares) = some out := hF
      cases hF
    | succ n ih =>
      intro v_heights y1 H locs ls hF hP hD hS hl
      have hF : s_X0_takeSquares_2 N v_prime v_points v_secret v_c1 v_c2 v_bends (f_X0_takeSquares_2 N v_prime v_points v_secret v_c1 v_c2 v_bends n) v_heights y1 = some out := hF
      generalize f_X0_takeSquares_2 N v_prime v_points v_secret v_c1 v_c2 v_bends n = r_2 at hF ih
      have g_2 : ∀ (v_heights : Nat → Int32) (y1 : Int32) (H : Heap) (locs : List Loc) (ls : Array Slot), r_2 v_heights y1 = some out → va_P (dC, dI) vwCl [(h_this, .inr (0, [.ref h_bends, .ref h_heights, .int v_prime, .int v_degree, .int v_points, .int v_secret, .int v_c1, .int v_c2])), (h_bends, .inl (k_bends, 6, .inl v_bends)), (h_heights, .inl (k_heights, 6, .inl v_heights))] H → va_D A [(h_this, .inr (0, [.ref h_bends, .ref h_heights, .int v_prime, .int v_degree, .int v_points, .int v_secret, .int v_c1, .int v_c2])), (h_bends, .inl (k_bends, 6, .inl v_bends)), (h_heights, .inl (k_heights, 6, .inl v_heights))] → va_S A s.heap H locs → lv_has ls 2 [(0, .ref h_this), (1, .int y1)] → W p l e ({ frames := 2, cells := 0, slots := 0, locals := 44 } : Room) s m args below meth c H locs 0 0 Q (F0 m 2 ls []) := ih
      clear ih
      unfold s_X0_takeSquares_2 at hF
      refine lv_iload_n hx hb dX0_takeSquares_2 rfl (lv_at hl 1 rfl) ?_
      refine lv_aload_n hx hb dX0_takeSquares_3 rfl (lv_at hl 0 rfl) ?_
      refine va_get (D := (dC, dI)) (ci := 0) (v := .int v_points) (C := RX0) (T := TX0) (N := 8) hx hb hts in_X0 hown hK hP 0 rfl rfl 4 (by decide) hL25 (fun _ h9 => h9) rfl dX0_takeSquares_4 ?_
      refine lv_icmp_ge (tgt := 42) hx hb dX0_takeSquares_7 (by decide) (fun c_7 => ?_) (fun c_7 => ?_)
      · have hF := gi_t c_7 hF
        have hF := Option.some.inj hF
        subst hF
        exact hret _ _ _ _ dX0_takeSquares_42 hP hD hS
      · have hF := gi_f c_7 hF
        refine lv_aload_n hx hb dX0_takeSquares_10 rfl (lv_at hl 0 rfl) ?_
        refine va_get (D := (dC, dI)) (ci := 0) (v := .ref h_heights) (C := RX0) (T := TX0) (N := 8) hx hb hts in_X0 hown hK hP 0 rfl rfl 1 (by decide) hL15 (fun _ h9 => h9) rfl dX0_takeSquares_11 ?_
        refine lv_iload_n hx hb dX0_takeSquares_14 rfl (lv_at hl 1 rfl) ?_
        refine lv_aload_n hx hb dX0_takeSquares_15 rfl (lv_at hl 0 rfl) ?_
        refine lv_iload_n hx hb dX0_takeSquares_16 rfl (lv_at hl 1 rfl) ?_
        obtain ⟨z_17, hz_17, hF⟩ := gi_bind hF
        refine gRi (wc := [(h_this, .inr (0, [.ref h_bends, .ref h_heights, .int v_prime, .int v_degree, .int v_points, .int v_secret, .int v_c1, .int v_c2])), (h_bends, .inl (k_bends, 6, .inl v_bends))]) (wr := [(h_heights, .inl (k_heights, 6, .inl v_heights))]) (w1 := [(h_this, .inr (0, [.ref h_bends, .ref h_heights, .int v_prime, .int v_degree, .int v_points, .int v_secret, .int v_c1, .int v_c2])), (h_bends, .inl (k_bends, 6, .inl v_bends))]) hP hD hS hA [0, 1] [2] rfl rfl (by decide) (by decide) (va_runV (As := [.int y1]) (rest := [.int y1, .ref h_heights]) CF (t_X0_bentPoint l dC dI h_this h_bends h_heights v_prime v_degree v_points v_secret v_c1 v_c2 k_bends v_bends H.size y1 N z_17 hz_17) cw57 (gPV (ci := 0) hP hD hK hN [0, 1] [0] (by decide) rfl rfl (q0 := 0) rfl rfl) rfl rfl hl.1 rfl (lv_room (Nat.le_of_ble_eq_true rfl)) dX0_takeSquares_17 ⟨Nat.zero_le _, Nat.zero_le _⟩) (fun H locs hP hD hS => ?_)
        have hP : va_P (dC, dI) vwCl [(h_heights, .inl (k_heights, 6, .inl v_heights)), (h_this, .inr (0, [.ref h_bends, .ref h_heights, .int v_prime, .int v_degree, .int v_points, .int v_secret, .int v_c1, .int v_c2])), (h_bends, .inl (k_bends, 6, .inl v_bends))] H := hP
        have hD : va_D A [(h_heights, .inl (k_heights, 6, .inl v_heights)), (h_this, .inr (0, [.ref h_bends, .ref h_heights, .int v_prime, .int v_degree, .int v_points, .int v_secret, .int v_c1, .int v_c2])), (h_bends, .inl (k_bends, 6, .inl v_bends))] := hD
        refine lv_aload_n hx hb dX0_takeSquares_20 rfl (lv_at hl 0 rfl) ?_
        refine lv_iload_n hx hb dX0_takeSquares_21 rfl (lv_at hl 1 rfl) ?_
        obtain ⟨z_22, hz_22, hF⟩ := gi_bind hF
        refine gRi (wc := [(h_this, .inr (0, [.ref h_bends, .ref h_heights, .int v_prime, .int v_degree, .int v_points, .int v_secret, .int v_c1, .int v_c2])), (h_bends, .inl (k_bends, 6, .inl v_bends))]) (wr := [(h_heights, .inl (k_heights, 6, .inl v_heights))]) (w1 := [(h_this, .inr (0, [.ref h_bends, .ref h_heights, .int v_prime, .int v_degree, .int v_points, .int v_secret, .int v_c1, .int v_c2])), (h_bends, .inl (k_bends, 6, .inl v_bends))]) hP hD hS hA [1, 2] [0] rfl rfl (by decide) (by decide) (va_runV (As := [.int y1]) (rest := [.int z_17, .int y1, .ref h_heights]) CF (t_X0_bentPoint l dC dI h_this h_bends h_heights v_prime v_degree v_points v_secret v_c1 v_c2 k_bends v_bends H.size y1 N z_22 hz_22) cw57 (gPV (ci := 0) hP hD hK hN [1, 2] [0] (by decide) rfl rfl (q0 := 1) rfl rfl) rfl rfl hl.1 rfl (lv_room (Nat.le_of_ble_eq_true rfl)) dX0_takeSquares_22 ⟨Nat.zero_le _, Nat.zero_le _⟩) (fun H locs hP hD hS => ?_)
        have hP : va_P (dC, dI) vwCl [(h_heights, .inl (k_heights, 6, .inl v_heights)), (h_this, .inr (0, [.ref h_bends, .ref h_heights, .int v_prime, .int v_degree, .int v_points, .int v_secret, .int v_c1, .int v_c2])), (h_bends, .inl (k_bends, 6, .inl v_bends))] H := hP
        have hD : va_D A [(h_heights, .inl (k_heights, 6, .inl v_heights)), (h_this, .inr (0, [.ref h_bends, .ref h_heights, .int v_prime, .int v_degree, .int v_points, .int v_secret, .int v_c1, .int v_c2])), (h_bends, .inl (k_bends, 6, .inl v_bends))] := hD
        refine lv_imul hx hb dX0_takeSquares_25 ?_
        refine lv_aload_n hx hb dX0_takeSquares_26 rfl (lv_at hl 0 rfl) ?_
        refine va_get (D := (dC, dI)) (ci := 0) (v := .int v_prime) (C := RX0) (T := TX0) (N := 8) hx hb hts in_X0 hown hK hP 1 rfl rfl 2 (by decide) hL18 (fun _ h9 => h9) rfl dX0_takeSquares_27 ?_
        obtain ⟨z_30, hz_30, hF⟩ := gi_bind hF
        refine gRi (wc := []) (wr := [(h_heights, .inl (k_heights, 6, .inl v_heights)), (h_this, .inr (0, [.ref h_bends, .ref h_heights, .int v_prime, .int v_degree, .int v_points, .int v_secret, .int v_c1, .int v_c2])), (h_bends, .inl (k_bends, 6, .inl v_bends))]) (w1 := []) hP hD hS hA [] [0, 1, 2] rfl rfl (by decide) (by decide) (va_runSN (As := [.int (z_17 * z_22), .int v_prime]) (rest := [.int y1, .ref h_heights]) CF (t_X9_mod l dC dI H.size (z_17 * z_22) v_prime N z_30 hz_30) cw53 (gPS hP hD hK hN [] [] (by decide) rfl rfl) rfl rfl hl.1 rfl (lv_room (Nat.le_of_ble_eq_true rfl)) dX0_takeSquares_30 ⟨Nat.zero_le _, Nat.zero_le _⟩) (fun H locs hP hD hS => ?_)
        have hP : va_P (dC, dI) vwCl [(h_heights, .inl (k_heights, 6, .inl v_heights)), (h_this, .inr (0, [.ref h_bends, .ref h_heights, .int v_prime, .int v_degree, .int v_points, .int v_secret, .int v_c1, .int v_c2])), (h_bends, .inl (k_bends, 6, .inl v_bends))] H := hP
        have hD : va_D A [(h_heights, .inl (k_heights, 6, .inl v_heights)), (h_this, .inr (0, [.ref h_bends, .ref h_heights, .int v_prime, .int v_degree, .int v_points, .int v_secret, .int v_c1, .int v_c2])), (h_bends, .inl (k_bends, 6, .inl v_bends))] := hD
        obtain ⟨z_33, hz_33, hF⟩ := gi_bind hF
        refine gRv (wc := [(h_heights, .inl (k_heights, 6, .inl v_heights))]) (wr := [(h_this, .inr (0, [.ref h_bends, .ref h_heights, .int v_prime, .int v_degree, .int v_points, .int v_secret, .int v_c1, .int v_c2])), (h_bends, .inl (k_bends, 6, .inl v_bends))]) (w1 := [(h_heights, .inl (k_heights, 6, .inl z_33))]) hP hD hS hA [0] [1, 2] rfl rfl (by decide) (by decide) (va_runSN (As := [.ref h_heights, .int y1, .int z_30]) (rest := []) CF (t_X9_put l dC dI h_heights k_heights 6 v_heights H.size y1 z_30 N z_33 hz_33) cw61 (gPS hP hD hK hN [0] [1] (by decide) rfl rfl) rfl rfl hl.1 rfl (lv_room (Nat.le_of_ble_eq_true rfl)) dX0_takeSquares_33 ⟨Nat.zero_le _, Nat.zero_le _⟩) (fun H locs hP hD hS => ?_)
        have hP : va_P (dC, dI) vwCl [(h_this, .inr (0, [.ref h_bends, .ref h_heights, .int v_prime, .int v_degree, .int v_points, .int v_secret, .int v_c1, .int v_c2])), (h_bends, .inl (k_bends, 6, .inl v_bends)), (h_heights, .inl (k_heights, 6, .inl z_33))] H := hP
        have hD : va_D A [(h_this, .inr (0, [.ref h_bends, .ref h_heights, .int v_prime, .int v_degree, .int v_points, .int v_secret, .int v_c1, .int v_c2])), (h_bends, .inl (k_bends, 6, .inl v_bends)), (h_heights, .inl (k_heights, 6, .inl z_33))] := hD
        refine lv_iinc (v := (y1 + 1)) (lv' := [(1, .int (y1 + 1)), (0, .ref h_this)]) hx hb dX0_takeSquares_36 hl (k := 1) rfl rfl (by decide) rfl (fun ls hl => ?_)
        refine lv_goto (tgt := 2) hx hb dX0_takeSquares_39 (by decide) ?_
        exact g_2 z_33 (y1 + 1) _ _ _ hF hP hD hS (lv_sub hl [1, 0] rfl)
  unfold f_X0_takeSquares at hF
  refine lv_iconst (v := (0 : Int32)) hx hb dX0_takeSquares_0 (by decide) ?_
  refine lv_istore_n (lv' := [(1, .int (0 : Int32)), (0, .ref h_this)]) hx hb dX0_takeSquares_1 rfl hl (by decide) rfl (fun ls hl => ?_)
  exact k_2 N v_heights (0 : Int32) _ _ _ hF hP hD hS (lv_sub hl [1, 0] rfl)
abbrev O_X0_inverse : Type := Int32
def s_X0_inverse_2 (N : Nat) (v_prime : Int32) (x1 : Int32) (r_2 : Int32 → Option O_X0_inverse) (y2 : Int32) : Option O_X0_inverse :=
  if v_prime ≤ y2 then (some ((0 : Int32))) else ((f_X9_mod N (y2 * x1) v_prime).bind (fun z_17 => if z_17 = (1 : Int32) then (some (y2)) else (r_2 (y2 + 1))))
def f_X0_inverse_2 (N : Nat) (v_prime : Int32) (x1 : Int32) (n : Nat) : Int32 → Option O_X0_inverse := lpg (fun _ => none) (s_X0_inverse_2 N v_prime x1) n
def f_X0_inverse (N : Nat) (v_prime : Int32) (x1 : Int32) : Option O_X0_inverse :=
  f_X0_inverse_2 N v_prime x1 N (1 : Int32)
set_option maxHeartbeats 4000000 in
set_option maxRecDepth 100000 in
theorem t_X0_inverse (l : Launch) (dC : Nat → ClassId) (dI : Nat → Nat → Nat) (h_this : Nat) (h_bends : Nat) (h_heights : Nat) (v_prime : Int32) (v_degree : Int32) (v_points : Int32) (v_secret : Int32) (v_c1 : Int32) (v_c2 : Int32) (sz : Nat) (x1 : Int32) (N : Nat) (out : O_X0_inverse) (hF : f_X0_inverse N v_prime x1 = some out) : gMi l yX0_inverse wsX0_inverse ({ frames := 1, cells := 0, slots := 0, locals := 22 } : Room) [.ref h_this, .int x1] (dC, dI) [(h_this, .inr (0, [.ref h_bends, .ref h_heights, .int v_prime, .int v_degree, .int v_points, .int v_secret, .int v_c1, .int v_c2]))] [] sz [(h_this, .inr (0, [.ref h_bends, .ref h_heights, .int v_prime, .int v_degree, .int v_points, .int v_secret, .int v_c1, .int v_c2]))] out := by
  refine gEi (cc := cX0_inverse) (maxL := 3) (by decide) rfl (Nat.le_of_ble_eq_true rfl) ?_
  intro p e s m args below meth c Q A ls CF hK hN hA hret hP hD hS hl
  have hx := CF.1
  have hb := CF.2.1
  have hml := CF.2.2.1
  have hown : s.vm.findClass RX0 = some m.cls := CF.2.2.2.1
  have hts := CF.2.2.2.2
  have hl : lv_has ls 3 [(0, .ref h_this), (1, .int x1)] := hl
  have in_X0 : ∀ w ∈ wsX00, w ∈ wsX0_inverse := fun w h => List.mem_cons_of_mem _ (List.mem_append_right _ h)
  have hL18 : (Cond.fieldLink RX0 18 "DustSums$Curve" "prime" "I").before args s = true := hts (.fieldLink RX0 18 "DustSums$Curve" "prime" "I") (List.mem_of_getElem? (i := 1) rfl)
  have nm53 : va_Nw (.methodLinkNest RX0 53 yX9_mod "DustSums") s := hN.2 (RX0, 53, yX9_mod, "DustSums") (by decide +kernel)
  have cw53 : va_CN ({ frames := 1, cells := 0, slots := 0, locals := 22 } : Room) s args RX0 53 yX9_mod "DustSums" cX9_mod 3 (some .int) wsX9_mod ({ frames := 0, cells := 0, slots := 0, locals := 0 } : Room) 0 0 2 ∧ (Cond.static yX9_mod).before args s = true ∧ True := ⟨va_cnB 2 hts gX0_inverse_X9_mod_n53 rfl rfl rfl nm53 (hts (.initialized RX9) (List.mem_of_getElem? (i := 3) rfl)) (by decide +kernel) ⟨Nat.le_of_ble_eq_true rfl, Nat.le_of_ble_eq_true rfl⟩, hts (.static yX9_mod) (List.mem_of_getElem? (i := 2) rfl), trivial⟩
  have k_2 : ∀ (n : Nat) (y2 : Int32) (H : Heap) (locs : List Loc) (ls : Array Slot), f_X0_inverse_2 N v_prime x1 n y2 = some out → va_P (dC, dI) vwCl [(h_this, .inr (0, [.ref h_bends, .ref h_heights, .int v_prime, .int v_degree, .int v_points, .int v_secret, .int v_c1, .int v_c2]))] H → va_D A [(h_this, .inr (0, [.ref h_bends, .ref h_heights, .int v_prime, .int v_degree, .int v_points, .int v_secret, .int v_c1, .int v_c2]))] → va_S A s.heap H locs → lv_has ls 3 [(0, .ref h_this), (1, .int x1), (2, .int y2)] → W p l e ({ frames := 1, cells := 0, slots := 0, locals := 22 } : Room) s m args below meth c H locs 0 0 Q (F0 m 2 ls []) := by
    intro n
    induction n with
    | zero =>
      intro y2 H locs ls hF
      have hF : (none : Option O_X0_inverse) = some out := hF
      cases hF
    | succ n ih =>
      intro y2 H locs ls hF hP hD hS hl
      have hF : s_X0_inverse_2 N v_prime x1 (f_X0_inverse_2 N v_prime x1 n) y2 = some out := hF
      generalize f_X0_inverse_2 N v_prime x1 n = r_2 at hF ih
      have g_2 : ∀ (y2 : Int32) (H : Heap) (locs : List Loc) (ls : Array Slot), r_2 y2 = some out → va_P (dC, dI) vwCl [(h_this, .inr (0, [.ref h_bends, .ref h_heights, .int v_prime, .int v_degree, .int v_points, .int v_secret, .int v_c1, .int v_c2]))] H → va_D A [(h_this, .inr (0, [.ref h_bends, .ref h_heights, .int v_prime, .int v_degree, .int v_points, .int v_secret, .int v_c1, .int v_c2]))] → va_S A s.heap H locs → lv_has ls 3 [(0, .ref h_this), (1, .int x1), (2, .int y2)] → W p l e ({ frames := 1, cells := 0, slots := 0, locals := 22 } : Room) s m args below meth c H locs 0 0 Q (F0 m 2 ls []) := ih
      clear ih
      unfold s_X0_inverse_2 at hF
      refine lv_iload_n hx hb dX0_inverse_2 rfl (lv_at hl 2 rfl) ?_
      refine lv_aload_n hx hb dX0_inverse_3 rfl (lv_at hl 0 rfl) ?_
      refine va_get (D := (dC, dI)) (ci := 0) (v := .int v_prime) (C := RX0) (T := TX0) (N := 8) hx hb hts in_X0 hown hK hP 0 rfl rfl 2 (by decide) hL18 (fun _ h9 => h9) rfl dX0_inverse_4 ?_
      refine lv_icmp_ge (tgt := 32) hx hb dX0_inverse_7 (by decide) (fun c_7 => ?_) (fun c_7 => ?_)
      · have hF := gi_t c_7 hF
        refine lv_iconst (v := (0 : Int32)) hx hb dX0_inverse_32 (by decide) ?_
        have hF := Option.some.inj hF
        subst hF
        exact hret _ _ _ _ dX0_inverse_33 hP hD hS
      · have hF := gi_f c_7 hF
        refine lv_iload_n hx hb dX0_inverse_10 rfl (lv_at hl 2 rfl) ?_
        refine lv_iload_n hx hb dX0_inverse_11 rfl (lv_at hl 1 rfl) ?_
        refine lv_imul hx hb dX0_inverse_12 ?_
        refine lv_aload_n hx hb dX0_inverse_13 rfl (lv_at hl 0 rfl) ?_
        refine va_get (D := (dC, dI)) (ci := 0) (v := .int v_prime) (C := RX0) (T := TX0) (N := 8) hx hb hts in_X0 hown hK hP 0 rfl rfl 2 (by decide) hL18 (fun _ h9 => h9) rfl dX0_inverse_14 ?_
        obtain ⟨z_17, hz_17, hF⟩ := gi_bind hF
        refine gRi (wc := []) (wr := [(h_this, .inr (0, [.ref h_bends, .ref h_heights, .int v_prime, .int v_degree, .int v_points, .int v_secret, .int v_c1, .int v_c2]))]) (w1 := []) hP hD hS hA [] [0] rfl rfl (by decide) (by decide) (va_runSN (As := [.int (y2 * x1), .int v_prime]) (rest := []) CF (t_X9_mod l dC dI H.size (y2 * x1) v_prime N z_17 hz_17) cw53 (gPS hP hD hK hN [] [] (by decide) rfl rfl) rfl rfl hl.1 rfl (lv_room (Nat.le_of_ble_eq_true rfl)) dX0_inverse_17 ⟨Nat.zero_le _, Nat.zero_le _⟩) (fun H locs hP hD hS => ?_)
        have hP : va_P (dC, dI) vwCl [(h_this, .inr (0, [.ref h_bends, .ref h_heights, .int v_prime, .int v_degree, .int v_points, .int v_secret, .int v_c1, .int v_c2]))] H := hP
        have hD : va_D A [(h_this, .inr (0, [.ref h_bends, .ref h_heights, .int v_prime, .int v_degree, .int v_points, .int v_secret, .int v_c1, .int v_c2]))] := hD
        refine lv_iconst (v := (1 : Int32)) hx hb dX0_inverse_20 (by decide) ?_
        refine lv_icmp_ne (tgt := 26) hx hb dX0_inverse_21 (by decide) (fun c_21 => ?_) (fun c_21 => ?_)
        · have hF := gi_f c_21 hF
          refine lv_iinc (v := (y2 + 1)) (lv' := [(2, .int (y2 + 1)), (0, .ref h_this), (1, .int x1)]) hx hb dX0_inverse_26 hl (k := 2) rfl rfl (by decide) rfl (fun ls hl => ?_)
          refine lv_goto (tgt := 2) hx hb dX0_inverse_29 (by decide) ?_
          exact g_2 (y2 + 1) _ _ _ hF hP hD hS (lv_sub hl [1, 2, 0] rfl)
        · have hF := gi_t c_21 hF
          refine lv_iload_n hx hb dX0_inverse_24 rfl (lv_at hl 2 rfl) ?_
          have hF := Option.some.inj hF
          subst hF
          exact hret _ _ _ _ dX0_inverse_25 hP hD hS
  unfold f_X0_inverse at hF
  refine lv_iconst (v := (1 : Int32)) hx hb dX0_inverse_0 (by decide) ?_
  refine lv_istore_n (lv' := [(2, .int (1 : Int32)), (0, .ref h_this), (1, .int x1)]) hx hb dX0_inverse_1 rfl hl (by decide) rfl (fun ls hl => ?_)
  exact k_2 N (1 : Int32) _ _ _ hF hP hD hS (lv_sub hl [1, 2, 0] rfl)
abbrev O_X0_heightAt : Type := Int32
def f_X0_heightAt_130 (N : Nat) (v_prime : Int32) (v_points : Int32) (v_heights : Nat → Int32) (x1 : Int32) (x2 : Int32) (y3 : Int32) : Option O_X0_heightAt :=
  (f_X9_mod N y3 v_prime).bind (fun z_135 => some (z_135))
def f_X0_heightAt_112 (N : Nat) (v_prime : Int32) (v_points : Int32) (v_heights : Nat → Int32) (x1 : Int32) (x2 : Int32) (r_5 : Int32 → Int32 → Option O_X0_heightAt) (y3 : Int32) (y4 : Int32) (y5 : Int32) (y6 : Int32) : Option O_X0_heightAt :=
  (f_X0_inverse N v_prime y6).bind (fun z_118 => r_5 (y3 + (y5 * z_118)) (y4 + 1))
def s_X0_heightAt_43 (N : Nat) (v_prime : Int32) (v_points : Int32) (v_heights : Nat → Int32) (x1 : Int32) (x2 : Int32) (r_5 : Int32 → Int32 → Option O_X0_heightAt) (r_43 : Int32 → Int32 → Int32 → Int32 → Int32 → Option O_X0_heightAt) (y3 : Int32) (y4 : Int32) (y5 : Int32) (y6 : Int32) (y7 : Int32) : Option O_X0_heightAt :=
  if v_points ≤ y7 then (f_X0_heightAt_112 N v_prime v_points v_heights x1 x2 r_5 y3 y4 y5 y6) else (if y7 = y4 then (r_43 y3 y4 y5 y6 (y7 + 1)) else (if ((x2 >>> (y7 &&& 31)) &&& (1 : Int32)) = 0 then (r_43 y3 y4 y5 y6 (y7 + 1)) else ((f_X9_mod N (y5 * ((x1 - y7) - (1 : Int32))) v_prime).bind (fun z_84 => (f_X9_mod N (y6 * (y4 - y7)) v_prime).bind (fun z_101 => r_43 y3 y4 z_84 z_101 (y7 + 1))))))
def f_X0_heightAt_43 (N : Nat) (v_prime : Int32) (v_points : Int32) (v_heights : Nat → Int32) (x1 : Int32) (x2 : Int32) (r_5 : Int32 → Int32 → Option O_X0_heightAt) (n : Nat) : Int32 → Int32 → Int32 → Int32 → Int32 → Option O_X0_heightAt := lpg (fun _ _ _ _ _ => none) (s_X0_heightAt_43 N v_prime v_points v_heights x1 x2 r_5) n
def s_X0_heightAt_5 (N : Nat) (v_prime : Int32) (v_points : Int32) (v_heights : Nat → Int32) (x1 : Int32) (x2 : Int32) (r_5 : Int32 → Int32 → Option O_X0_heightAt) (y3 : Int32) (y4 : Int32) : Option O_X0_heightAt :=
  if v_points ≤ y4 then (f_X0_heightAt_130 N v_prime v_points v_heights x1 x2 y3) else (if ((x2 >>> (y4 &&& 31)) &&& (1 : Int32)) = 0 then (r_5 y3 (y4 + 1)) else ((f_X9_at N v_heights 6 y4).bind (fun z_32 => f_X0_heightAt_43 N v_prime v_points v_heights x1 x2 r_5 N y3 y4 z_32 (1 : Int32) (0 : Int32))))
def f_X0_heightAt_5 (N : Nat) (v_prime : Int32) (v_points : Int32) (v_heights : Nat → Int32) (x1 : Int32) (x2 : Int32) (n : Nat) : Int32 → Int32 → Option O_X0_heightAt := lpg (fun _ _ => none) (s_X0_heightAt_5 N v_prime v_points v_heights x1 x2) n
def f_X0_heightAt (N : Nat) (v_prime : Int32) (v_points : Int32) (v_heights : Nat → Int32) (x1 : Int32) (x2 : Int32) : Option O_X0_heightAt :=
  f_X0_heightAt_5 N v_prime v_points v_heights x1 x2 N (0 : Int32) (0 : Int32)
set_option maxHeartbeats 4000000 in
set_option maxRecDepth 100000 in
theorem t_X0_heightAt (l : Launch) (dC : Nat → ClassId) (dI : Nat → Nat → Nat) (h_this : Nat) (h_bends : Nat) (h_heights : Nat) (v_prime : Int32) (v_degree : Int32) (v_points : Int32) (v_secret : Int32) (v_c1 : Int32) (v_c2 : Int32) (k_heights : ClassId) (v_heights : Nat → Int32) (sz : Nat) (x1 : Int32) (x2 : Int32) (N : Nat) (out : O_X0_heightAt) (hF : f_X0_heightAt N v_prime v_points v_heights x1 x2 = some out) : gMi l yX0_heightAt wsX0_heightAt ({ frames := 2, cells := 0, slots := 0, locals := 44 } : Room) [.ref h_this, .int x1, .int x2] (dC, dI) [(h_this, .inr (0, [.ref h_bends, .ref h_heights, .int v_prime, .int v_degree, .int v_points, .int v_secret, .int v_c1, .int v_c2])), (h_heights, .inl (k_heights, 6, .inl v_heights))] [(k_heights, .int)] sz [(h_this, .inr (0, [.ref h_bends, .ref h_heights, .int v_prime, .int v_degree, .int v_points, .int v_secret, .int v_c1, .int v_c2])), (h_heights, .inl (k_heights, 6, .inl v_heights))] out := by
  refine gEi (cc := cX0_heightAt) (maxL := 8) (by decide) rfl (Nat.le_of_ble_eq_true rfl) ?_
  intro p e s m args below meth c Q A ls CF hK hN hA hret hP hD hS hl
  have hx := CF.1
  have hb := CF.2.1
  have hml := CF.2.2.1
  have hown : s.vm.findClass RX0 = some m.cls := CF.2.2.2.1
  have hts := CF.2.2.2.2
  have hl : lv_has ls 8 [(0, .ref h_this), (1, .int x1), (2, .int x2)] := hl
  have in_X0 : ∀ w ∈ wsX00, w ∈ wsX0_heightAt := fun w h => List.mem_cons_of_mem _ (List.mem_append_right _ h)
  have hL25 : (Cond.fieldLink RX0 25 "DustSums$Curve" "points" "I").before args s = true := hts (.fieldLink RX0 25 "DustSums$Curve" "points" "I") (List.mem_of_getElem? (i := 1) rfl)
  have hL18 : (Cond.fieldLink RX0 18 "DustSums$Curve" "prime" "I").before args s = true := hts (.fieldLink RX0 18 "DustSums$Curve" "prime" "I") (List.mem_of_getElem? (i := 3) rfl)
  have nm53 : va_Nw (.methodLinkNest RX0 53 yX9_mod "DustSums") s := hN.2 (RX0, 53, yX9_mod, "DustSums") (by decide +kernel)
  have cw53 : va_CN ({ frames := 2, cells := 0, slots := 0, locals := 44 } : Room) s args RX0 53 yX9_mod "DustSums" cX9_mod 3 (some .int) wsX9_mod ({ frames := 0, cells := 0, slots := 0, locals := 0 } : Room) 0 0 2 ∧ (Cond.static yX9_mod).before args s = true ∧ True := ⟨va_cnB 2 hts gX0_heightAt_X9_mod_n53 rfl rfl rfl nm53 (hts (.initialized RX9) (List.mem_of_getElem? (i := 5) rfl)) (by decide +kernel) ⟨Nat.le_of_ble_eq_true rfl, Nat.le_of_ble_eq_true rfl⟩, hts (.static yX9_mod) (List.mem_of_getElem? (i := 7) rfl), trivial⟩
  have hL15 : (Cond.fieldLink RX0 15 "DustSums$Curve" "heights" "[I").before args s = true := hts (.fieldLink RX0 15 "DustSums$Curve" "heights" "[I") (List.mem_of_getElem? (i := 2) rfl)
  have nm49 : va_Nw (.methodLinkNest RX0 49 yX9_at "DustSums") s := hN.2 (RX0, 49, yX9_at, "DustSums") (by decide +kernel)
  have cw49 : va_CN ({ frames := 2, cells := 0, slots := 0, locals := 44 } : Room) s args RX0 49 yX9_at "DustSums" cX9_at 2 (some .int) wsX9_at ({ frames := 0, cells := 0, slots := 0, locals := 0 } : Room) 0 0 2 ∧ (Cond.static yX9_at).before args s = true ∧ True := ⟨va_cnB 2 hts gX0_heightAt_X9_at_n49 rfl rfl rfl nm49 (hts (.initialized RX9) (List.mem_of_getElem? (i := 5) rfl)) (by decide +kernel) ⟨Nat.le_of_ble_eq_true rfl, Nat.le_of_ble_eq_true rfl⟩, hts (.static yX9_at) (List.mem_of_getElem? (i := 4) rfl), trivial⟩
  have cw76 : CallW ({ frames := 2, cells := 0, slots := 0, locals := 44 } : Room) s args RX0 RX0 76 yX0_inverse cX0_inverse 3 (some .int) wsX0_inverse ({ frames := 1, cells := 0, slots := 0, locals := 22 } : Room) 0 0 1 := cwV 1 hts gX0_heightAt_X0_inverse rfl rfl rfl (by decide +kernel) ⟨Nat.le_of_ble_eq_true rfl, Nat.le_of_ble_eq_true rfl⟩
  have k_130 : ∀ (y3 : Int32) (H : Heap) (locs : List Loc) (ls : Array Slot), f_X0_heightAt_130 N v_prime v_points v_heights x1 x2 y3 = some out → va_P (dC, dI) vwCl [(h_this, .inr (0, [.ref h_bends, .ref h_heights, .int v_prime, .int v_degree, .int v_points, .int v_secret, .int v_c1, .int v_c2])), (h_heights, .inl (k_heights, 6, .inl v_heights))] H → va_D A [(h_this, .inr (0, [.ref h_bends, .ref h_heights, .int v_prime, .int v_degree, .int v_points, .int v_secret, .int v_c1, .int v_c2])), (h_heights, .inl (k_heights, 6, .inl v_heights))] → va_S A s.heap H locs → lv_has ls 8 [(0, .ref h_this), (3, .int y3)] → W p l e ({ frames := 2, cells := 0, slots := 0, locals := 44 } : Room) s m args below meth c H locs 0 0 Q (F0 m 130 ls []) := by
    intro y3 H locs ls hF hP hD hS hl
    unfold f_X0_heightAt_130 at hF
    refine lv_iload_n hx hb dX0_heightAt_130 rfl (lv_at hl 1 rfl) ?_
    refine lv_aload_n hx hb dX0_heightAt_131 rfl (lv_at hl 0 rfl) ?_
    refine va_get (D := (dC, dI)) (ci := 0) (v := .int v_prime) (C := RX0) (T := TX0) (N := 8) hx hb hts in_X0 hown hK hP 0 rfl rfl 2 (by decide) hL18 (fun _ h9 => h9) rfl dX0_heightAt_132 ?_
    obtain ⟨z_135, hz_135, hF⟩ := gi_bind hF
    refine gRi (wc := []) (wr := [(h_this, .inr (0, [.ref h_bends, .ref h_heights, .int v_prime, .int v_degree, .int v_points, .int v_secret, .int v_c1, .int v_c2])), (h_heights, .inl (k_heights, 6, .inl v_heights))]) (w1 := []) hP hD hS hA [] [0, 1] rfl rfl (by decide) (by decide) (va_runSN (As := [.int y3, .int v_prime]) (rest := []) CF (t_X9_mod l dC dI H.size y3 v_prime N z_135 hz_135) cw53 (gPS hP hD hK hN [] [] (by decide) rfl rfl) rfl rfl hl.1 rfl (lv_room (Nat.le_of_ble_eq_true rfl)) dX0_heightAt_135 ⟨Nat.zero_le _, Nat.zero_le _⟩) (fun H locs hP hD hS => ?_)
    have hP : va_P (dC, dI) vwCl [(h_this, .inr (0, [.ref h_bends, .ref h_heights, .int v_prime, .int v_degree, .int v_points, .int v_secret, .int v_c1, .int v_c2])), (h_heights, .inl (k_heights, 6, .inl v_heights))] H := hP
    have hD : va_D A [(h_this, .inr (0, [.ref h_bends, .ref h_heights, .int v_prime, .int v_degree, .int v_points, .int v_secret, .int v_c1, .int v_c2])), (h_heights, .inl (k_heights, 6, .inl v_heights))] := hD
    have hF := Option.some.inj hF
    subst hF
    exact hret _ _ _ _ dX0_heightAt_138 hP hD hS
  have k_112 : ∀ (r_5 : Int32 → Int32 → Option O_X0_heightAt) (g_5 : ∀ (y3 : Int32) (y4 : Int32) (H : Heap) (locs : List Loc) (ls : Array Slot), r_5 y3 y4 = some out → va_P (dC, dI) vwCl [(h_this, .inr (0, [.ref h_bends, .ref h_heights, .int v_prime, .int v_degree, .int v_points, .int v_secret, .int v_c1, .int v_c2])), (h_heights, .inl (k_heights, 6, .inl v_heights))] H → va_D A [(h_this, .inr (0, [.ref h_bends, .ref h_heights, .int v_prime, .int v_degree, .int v_points, .int v_secret, .int v_c1, .int v_c2])), (h_heights, .inl (k_heights, 6, .inl v_heights))] → va_S A s.heap H locs → lv_has ls 8 [(0, .ref h_this), (1, .int x1), (2, .int x2), (3, .int y3), (4, .int y4)] → W p l e ({ frames := 2, cells := 0, slots := 0, locals := 44 } : Room) s m args below meth c H locs 0 0 Q (F0 m 5 ls [])) (y3 : Int32) (y4 : Int32) (y5 : Int32) (y6 : Int32) (H : Heap) (locs : List Loc) (ls : Array Slot), f_X0_heightAt_112 N v_prime v_points v_heights x1 x2 r_5 y3 y4 y5 y6 = some out → va_P (dC, dI) vwCl [(h_this, .inr (0, [.ref h_bends, .ref h_heights, .int v_prime, .int v_degree, .int v_points, .int v_secret, .int v_c1, .int v_c2])), (h_heights, .inl (k_heights, 6, .inl v_heights))] H → va_D A [(h_this, .inr (0, [.ref h_bends, .ref h_heights, .int v_prime, .int v_degree, .int v_points, .int v_secret, .int v_c1, .int v_c2])), (h_heights, .inl (k_heights, 6, .inl v_heights))] → va_S A s.heap H locs → lv_has ls 8 [(0, .ref h_this), (1, .int x1), (2, .int x2), (3, .int y3), (4, .int y4), (5, .int y5), (6, .int y6)] → W p l e ({ frames := 2, cells := 0, slots := 0, locals := 44 } : Room) s m args below meth c H locs 0 0 Q (F0 m 112 ls []) := by
    intro r_5 g_5 y3 y4 y5 y6 H locs ls hF hP hD hS hl
    unfold f_X0_heightAt_112 at hF
    refine lv_iload_n hx hb dX0_heightAt_112 rfl (lv_at hl 3 rfl) ?_
    refine lv_iload hx hb dX0_heightAt_113 (lv_at hl 5 rfl) ?_
    refine lv_aload_n hx hb dX0_heightAt_115 rfl (lv_at hl 0 rfl) ?_
    refine lv_iload hx hb dX0_heightAt_116 (lv_at hl 6 rfl) ?_
    obtain ⟨z_118, hz_118, hF⟩ := gi_bind hF
    refine gRi (wc := [(h_this, .inr (0, [.ref h_bends, .ref h_heights, .int v_prime, .int v_degree, .int v_points, .int v_secret, .int v_c1, .int v_c2]))]) (wr := [(h_heights, .inl (k_heights, 6, .inl v_heights))]) (w1 := [(h_this, .inr (0, [.ref h_bends, .ref h_heights, .int v_prime, .int v_degree, .int v_points, .int v_secret, .int v_c1, .int v_c2]))]) hP hD hS hA [0] [1] rfl rfl (by decide) (by decide) (va_runV (As := [.int y6]) (rest := [.int y5, .int y3]) CF (t_X0_inverse l dC dI h_this h_bends h_heights v_prime v_degree v_points v_secret v_c1 v_c2 H.size y6 N z_118 hz_118) cw76 (gPV (ci := 0) hP hD hK hN [0] [] (by decide) rfl rfl (q0 := 0) rfl rfl) rfl rfl hl.1 rfl (lv_room (Nat.le_of_ble_eq_true rfl)) dX0_heightAt_118 ⟨Nat.zero_le _, Nat.zero_le _⟩) (fun H locs hP hD hS => ?_)
    have hP : va_P (dC, dI) vwCl [(h_heights, .inl (k_heights, 6, .inl v_heights)), (h_this, .inr (0, [.ref h_bends, .ref h_heights, .int v_prime, .int v_degree, .int v_points, .int v_secret, .int v_c1, .int v_c2]))] H := hP
    have hD : va_D A [(h_heights, .inl (k_heights, 6, .inl v_heights)), (h_this, .inr (0, [.ref h_bends, .ref h_heights, .int v_prime, .int v_degree, .int v_points, .int v_secret, .int v_c1, .int v_c2]))] := hD
    refine lv_imul hx hb dX0_heightAt_121 ?_
    refine lv_iadd hx hb dX0_heightAt_122 ?_
    refine lv_istore_n (lv' := [(3, .int (y3 + (y5 * z_118))), (0, .ref h_this), (1, .int x1), (2, .int x2), (4, .int y4), (5, .int y5), (6, .int y6)]) hx hb dX0_heightAt_123 rfl hl (by decide) rfl (fun ls hl => ?_)
    refine lv_iinc (v := (y4 + 1)) (lv' := [(4, .int (y4 + 1)), (3, .int (y3 + (y5 * z_118))), (0, .ref h_this), (1, .int x1), (2, .int x2), (5, .int y5), (6, .int y6)]) hx hb dX0_heightAt_124 hl (k := 4) rfl rfl (by decide) rfl (fun ls hl => ?_)
    refine lv_goto (tgt := 5) hx hb dX0_heightAt_127 (by decide) ?_
    exact g_5 (y3 + (y5 * z_118)) (y4 + 1) _ _ _ hF (hP.sub [1, 0] rfl) (hD.sub [1, 0] (by decide) rfl) hS (lv_sub hl [2, 3, 4, 1, 0] rfl)
  have k_43 : ∀ (r_5 : Int32 → Int32 → Option O_X0_heightAt) (g_5 : ∀ (y3 : Int32) (y4 : Int32) (H : Heap) (locs : List Loc) (ls : Array Slot), r_5 y3 y4 = some out → va_P (dC, dI) vwCl [(h_this, .inr (0, [.ref h_bends, .ref h_heights, .int v_prime, .int v_degree, .int v_points, .int v_secret, .int v_c1, .int v_c2])), (h_heights, .inl (k_heights, 6, .inl v_heights))] H → va_D A [(h_this, .inr (0, [.ref h_bends, .ref h_heights, .int v_prime, .int v_degree, .int v_points, .int v_secret, .int v_c1, .int v_c2])), (h_heights, .inl (k_heights, 6, .inl v_heights))] → va_S A s.heap H locs → lv_has ls 8 [(0, .ref h_this), (1, .int x1), (2, .int x2), (3, .int y3), (4, .int y4)] → W p l e ({ frames := 2, cells := 0, slots := 0, locals := 44 } : Room) s m args below meth c H locs 0 0 Q (F0 m 5 ls [])) (n : Nat) (y3 : Int32) (y4 : Int32) (y5 : Int32) (y6 : Int32) (y7 : Int32) (H : Heap) (locs : List Loc) (ls : Array Slot), f_X0_heightAt_43 N v_prime v_points v_heights x1 x2 r_5 n y3 y4 y5 y6 y7 = some out → va_P (dC, dI) vwCl [(h_this, .inr (0, [.ref h_bends, .ref h_heights, .int v_prime, .int v_degree, .int v_points, .int v_secret, .int v_c1, .int v_c2])), (h_heights, .inl (k_heights, 6, .inl v_heights))] H → va_D A [(h_this, .inr (0, [.ref h_bends, .ref h_heights, .int v_prime, .int v_degree, .int v_points, .int v_secret, .int v_c1, .int v_c2])), (h_heights, .inl (k_heights, 6, .inl v_heights))] → va_S A s.heap H locs → lv_has ls 8 [(0, .ref h_this), (1, .int x1), (2, .int x2), (3, .int y3), (4, .int y4), (5, .int y5), (6, .int y6), (7, .int y7)] → W p l e ({ frames := 2, cells := 0, slots := 0, locals := 44 } : Room) s m args below meth c H locs 0 0 Q (F0 m 43 ls []) := by
    intro r_5 g_5 n
    induction n with
    | zero =>
      intro y3 y4 y5 y6 y7 H locs ls hF
      have hF : (none : Option O_X0_heightAt) = some out := hF
      cases hF
    | succ n ih =>
      intro y3 y4 y5 y6 y7 H locs ls hF hP hD hS hl
      have hF : s_X0_heightAt_43 N v_prime v_points v_heights x1 x2 r_5 (f_X0_heightAt_43 N v_prime v_points v_heights x1 x2 r_5 n) y3 y4 y5 y6 y7 = some out := hF
      generalize f_X0_heightAt_43 N v_prime v_points v_heights x1 x2 r_5 n = r_43 at hF ih
      have g_43 : ∀ (y3 : Int32) (y4 : Int32) (y5 : Int32) (y6 : Int32) (y7 : Int32) (H : Heap) (locs : List Loc) (ls : Array Slot), r_43 y3 y4 y5 y6 y7 = some out → va_P (dC, dI) vwCl [(h_this, .inr (0, [.ref h_bends, .ref h_heights, .int v_prime, .int v_degree, .int v_points, .int v_secret, .int v_c1, .int v_c2])), (h_heights, .inl (k_heights, 6, .inl v_heights))] H → va_D A [(h_this, .inr (0, [.ref h_bends, .ref h_heights, .int v_prime, .int v_degree, .int v_points, .int v_secret, .int v_c1, .int v_c2])), (h_heights, .inl (k_heights, 6, .inl v_heights))] → va_S A s.heap H locs → lv_has ls 8 [(0, .ref h_this), (1, .int x1), (2, .int x2), (3, .int y3), (4, .int y4), (5, .int y5), (6, .int y6), (7, .int y7)] → W p l e ({ frames := 2, cells := 0, slots := 0, locals := 44 } : Room) s m args below meth c H locs 0 0 Q (F0 m 43 ls []) := ih
      clear ih
      unfold s_X0_heightAt_43 at hF
      refine lv_iload hx hb dX0_heightAt_43 (lv_at hl 7 rfl) ?_
      refine lv_aload_n hx hb dX0_heightAt_45 rfl (lv_at hl 0 rfl) ?_
      refine va_get (D := (dC, dI)) (ci := 0) (v := .int v_points) (C := RX0) (T := TX0) (N := 8) hx hb hts in_X0 hown hK hP 0 rfl rfl 4 (by decide) hL25 (fun _ h9 => h9) rfl dX0_heightAt_46 ?_
      refine lv_icmp_ge (tgt := 112) hx hb dX0_heightAt_49 (by decide) (fun c_49 => ?_) (fun c_49 => ?_)
      · have hF := gi_t c_49 hF
        exact k_112 r_5 g_5 y3 y4 y5 y6 _ _ _ hF hP hD hS (lv_sub hl [0, 1, 2, 3, 4, 5, 6] rfl)
      · have hF := gi_f c_49 hF
        refine lv_iload hx hb dX0_heightAt_52 (lv_at hl 7 rfl) ?_
        refine lv_iload hx hb dX0_heightAt_54 (lv_at hl 4 rfl) ?_
        refine lv_icmp_eq (tgt := 106) hx hb dX0_heightAt_56 (by decide) (fun c_56 => ?_) (fun c_56 => ?_)
        · have hF := gi_t c_56 hF
          refine lv_iinc (v := (y7 + 1)) (lv' := [(7, .int (y7 + 1)), (0, .ref h_this), (1, .int x1), (2, .int x2), (3, .int y3), (4, .int y4), (5, .int y5), (6, .int y6)]) hx hb dX0_heightAt_106 hl (k := 7) rfl rfl (by decide) rfl (fun ls hl => ?_)
          refine lv_goto (tgt := 43) hx hb dX0_heightAt_109 (by decide) ?_
          exact g_43 y3 y4 y5 y6 (y7 + 1) _ _ _ hF hP hD hS (lv_sub hl [1, 2, 3, 4, 5, 6, 7, 0] rfl)
        · have hF := gi_f c_56 hF
          refine lv_iload_n hx hb dX0_heightAt_59 rfl (lv_at hl 2 rfl) ?_
          refine lv_iload hx hb dX0_heightAt_60 (lv_at hl 7 rfl) ?_
          refine lv_ishr hx hb dX0_heightAt_62 ?_
          refine lv_iconst (v := (1 : Int32)) hx hb dX0_heightAt_63 (by decide) ?_
          refine lv_iand hx hb dX0_heightAt_64 ?_
          refine lv_if_ne (tgt := 71) hx hb dX0_heightAt_65 (by decide) (fun c_65 => ?_) (fun c_65 => ?_)
          · have hF := gi_f c_65 hF
            refine lv_iload hx hb dX0_heightAt_71 (lv_at hl 5 rfl) ?_
            refine lv_iload_n hx hb dX0_heightAt_73 rfl (lv_at hl 1 rfl) ?_
            refine lv_iload hx hb dX0_heightAt_74 (lv_at hl 7 rfl) ?_
            refine lv_isub hx hb dX0_heightAt_76 ?_
            refine lv_iconst (v := (1 : Int32)) hx hb dX0_heightAt_77 (by decide) ?_
            refine lv_isub hx hb dX0_heightAt_78 ?_
            refine lv_imul hx hb dX0_heightAt_79 ?_
            refine lv_aload_n hx hb dX0_heightAt_80 rfl (lv_at hl 0 rfl) ?_
            refine va_get (D := (dC, dI)) (ci := 0) (v := .int v_prime) (C := RX0) (T := TX0) (N := 8) hx hb hts in_X0 hown hK hP 0 rfl rfl 2 (by decide) hL18 (fun _ h9 => h9) rfl dX0_heightAt_81 ?_
            obtain ⟨z_84, hz_84, hF⟩ := gi_bind hF
            refine gRi (wc := []) (wr := [(h_this, .inr (0, [.ref h_bends, .ref h_heights, .int v_prime, .int v_degree, .int v_points, .int v_secret, .int v_c1, .int v_c2])), (h_heights, .inl (k_heights, 6, .inl v_heights))]) (w1 := []) hP hD hS hA [] [0, 1] rfl rfl (by decide) (by decide) (va_runSN (As := [.int (y5 * ((x1 - y7) - (1 : Int32))), .int v_prime]) (rest := []) CF (t_X9_mod l dC dI H.size (y5 * ((x1 - y7) - (1 : Int32))) v_prime N z_84 hz_84) cw53 (gPS hP hD hK hN [] [] (by decide) rfl rfl) rfl rfl hl.1 rfl (lv_room (Nat.le_of_ble_eq_true rfl)) dX0_heightAt_84 ⟨Nat.zero_le _, Nat.zero_le _⟩) (fun H locs hP hD hS => ?_)
            have hP : va_P (dC, dI) vwCl [(h_this, .inr (0, [.ref h_bends, .ref h_heights, .int v_prime, .int v_degree, .int v_points, .int v_secret, .int v_c1, .int v_c2])), (h_heights, .inl (k_heights, 6, .inl v_heights))] H := hP
            have hD : va_D A [(h_this, .inr (0, [.ref h_bends, .ref h_heights, .int v_prime, .int v_degree, .int v_points, .int v_secret, .int v_c1, .int v_c2])), (h_heights, .inl (k_heights, 6, .inl v_heights))] := hD
            refine lv_istore (lv' := [(5, .int z_84), (0, .ref h_this), (1, .int x1), (2, .int x2), (3, .int y3), (4, .int y4), (6, .int y6), (7, .int y7)]) hx hb dX0_heightAt_87 hl (by decide) rfl (fun ls hl => ?_)
            refine lv_iload hx hb dX0_heightAt_89 (lv_at hl 6 rfl) ?_
            refine lv_iload hx hb dX0_heightAt_91 (lv_at hl 5 rfl) ?_
            refine lv_iload hx hb dX0_heightAt_93 (lv_at hl 7 rfl) ?_
            refine lv_isub hx hb dX0_heightAt_95 ?_
            refine lv_imul hx hb dX0_heightAt_96 ?_
            refine lv_aload_n hx hb dX0_heightAt_97 rfl (lv_at hl 1 rfl) ?_
            refine va_get (D := (dC, dI)) (ci := 0) (v := .int v_prime) (C := RX0) (T := TX0) (N := 8) hx hb hts in_X0 hown hK hP 0 rfl rfl 2 (by decide) hL18 (fun _ h9 => h9) rfl dX0_heightAt_98 ?_
            obtain ⟨z_101, hz_101, hF⟩ := gi_bind hF
            refine gRi (wc := []) (wr := [(h_this, .inr (0, [.ref h_bends, .ref h_heights, .int v_prime, .int v_degree, .int v_points, .int v_secret, .int v_c1, .int v_c2])), (h_heights, .inl (k_heights, 6, .inl v_heights))]) (w1 := []) hP hD hS hA [] [0, 1] rfl rfl (by decide) (by decide) (va_runSN (As := [.int (y6 * (y4 - y7)), .int v_prime]) (rest := []) CF (t_X9_mod l dC dI H.size (y6 * (y4 - y7)) v_prime N z_101 hz_101) cw53 (gPS hP hD hK hN [] [] (by decide) rfl rfl) rfl rfl hl.1 rfl (lv_room (Nat.le_of_ble_eq_true rfl)) dX0_heightAt_101 ⟨Nat.zero_le _, Nat.zero_le _⟩) (fun H locs hP hD hS => ?_)
            have hP : va_P (dC, dI) vwCl [(h_this, .inr (0, [.ref h_bends, .ref h_heights, .int v_prime, .int v_degree, .int v_points, .int v_secret, .int v_c1, .int v_c2])), (h_heights, .inl (k_heights, 6, .inl v_heights))] H := hP
            have hD : va_D A [(h_this, .inr (0, [.ref h_bends, .ref h_heights, .int v_prime, .int v_degree, .int v_points, .int v_secret, .int v_c1, .int v_c2])), (h_heights, .inl (k_heights, 6, .inl v_heights))] := hD
            refine lv_istore (lv' := [(6, .int z_101), (5, .int z_84), (0, .ref h_this), (1, .int x1), (2, .int x2), (3, .int y3), (4, .int y4), (7, .int y7)]) hx hb dX0_heightAt_104 hl (by decide) rfl (fun ls hl => ?_)
            refine lv_iinc (v := (y7 + 1)) (lv' := [(7, .int (y7 + 1)), (6, .int z_101), (5, .int z_84), (0, .ref h_this), (1, .int x1), (2, .int x2), (3, .int y3), (4, .int y4)]) hx hb dX0_heightAt_106 hl (k := 7) rfl rfl (by decide) rfl (fun ls hl => ?_)
            refine lv_goto (tgt := 43) hx hb dX0_heightAt_109 (by decide) ?_
            exact g_43 y3 y4 z_84 z_101 (y7 + 1) _ _ _ hF hP hD hS (lv_sub hl [3, 4, 5, 6, 7, 2, 1, 0] rfl)
          · have hF := gi_t c_65 hF
            refine lv_goto (tgt := 106) hx hb dX0_heightAt_68 (by decide) ?_
            refine lv_iinc (v := (y7 + 1)) (lv' := [(7, .int (y7 + 1)), (0, .ref h_this), (1, .int x1), (2, .int x2), (3, .int y3), (4, .int y4), (5, .int y5), (6, .int y6)]) hx hb dX0_heightAt_106 hl (k := 7) rfl rfl (by decide) rfl (fun ls hl => ?_)
            refine lv_goto (tgt := 43) hx hb dX0_heightAt_109 (by decide) ?_
            exact g_43 y3 y4 y5 y6 (y7 + 1) _ _ _ hF hP hD hS (lv_sub hl [1, 2, 3, 4, 5, 6, 7, 0] rfl)
  have k_5 : ∀ (n : Nat) (y3 : Int32) (y4 : Int32) (H : Heap) (locs : List Loc) (ls : Array Slot), f_X0_heightAt_5 N v_prime v_points v_heights x1 x2 n y3 y4 = some out → va_P (dC, dI) vwCl [(h_this, .inr (0, [.ref h_bends, .ref h_heights, .int v_prime, .int v_degree, .int v_points, .int v_secret, .int v_c1, .int v_c2])), (h_heights, .inl (k_heights, 6, .inl v_heights))] H → va_D A [(h_this, .inr (0, [.ref h_bends, .ref h_heights, .int v_prime, .int v_degree, .int v_points, .int v_secret, .int v_c1, .int v_c2])), (h_heights, .inl (k_heights, 6, .inl v_heights))] → va_S A s.heap H locs → lv_has ls 8 [(0, .ref h_this), (1, .int x1), (2, .int x2), (3, .int y3), (4, .int y4)] → W p l e ({ frames := 2, cells := 0, slots := 0, locals := 44 } : Room) s m args below meth c H locs 0 0 Q (F0 m 5 ls []) := by
    intro n
    induction n with
    | zero =>
      intro y3 y4 H locs ls hF
      have hF : (none : Option O_X0_heightAt) = some out := hF
      cases hF
    | succ n ih =>
      intro y3 y4 H locs ls hF hP hD hS hl
      have hF : s_X0_heightAt_5 N v_prime v_points v_heights x1 x2 (f_X0_heightAt_5 N v_prime v_points v_heights x1 x2 n) y3 y4 = some out := hF
      generalize f_X0_heightAt_5 N v_prime v_points v_heights x1 x2 n = r_5 at hF ih
      have g_5 : ∀ (y3 : Int32) (y4 : Int32) (H : Heap) (locs : List Loc) (ls : Array Slot), r_5 y3 y4 = some out → va_P (dC, dI) vwCl [(h_this, .inr (0, [.ref h_bends, .ref h_heights, .int v_prime, .int v_degree, .int v_points, .int v_secret, .int v_c1, .int v_c2])), (h_heights, .inl (k_heights, 6, .inl v_heights))] H → va_D A [(h_this, .inr (0, [.ref h_bends, .ref h_heights, .int v_prime, .int v_degree, .int v_points, .int v_secret, .int v_c1, .int v_c2])), (h_heights, .inl (k_heights, 6, .inl v_heights))] → va_S A s.heap H locs → lv_has ls 8 [(0, .ref h_this), (1, .int x1), (2, .int x2), (3, .int y3), (4, .int y4)] → W p l e ({ frames := 2, cells := 0, slots := 0, locals := 44 } : Room) s m args below meth c H locs 0 0 Q (F0 m 5 ls []) := ih
      clear ih
      unfold s_X0_heightAt_5 at hF
      refine lv_iload hx hb dX0_heightAt_5 (lv_at hl 4 rfl) ?_
      refine lv_aload_n hx hb dX0_heightAt_7 rfl (lv_at hl 0 rfl) ?_
      refine va_get (D := (dC, dI)) (ci := 0) (v := .int v_points) (C := RX0) (T := TX0) (N := 8) hx hb hts in_X0 hown hK hP 0 rfl rfl 4 (by decide) hL25 (fun _ h9 => h9) rfl dX0_heightAt_8 ?_
      refine lv_icmp_ge (tgt := 130) hx hb dX0_heightAt_11 (by decide) (fun c_11 => ?_) (fun c_11 => ?_)
      · have hF := gi_t c_11 hF
        exact k_130 y3 _ _ _ hF hP hD hS (lv_sub hl [0, 3] rfl)
      · have hF := gi_f c_11 hF
        refine lv_iload_n hx hb dX0_heightAt_14 rfl (lv_at hl 2 rfl) ?_
        refine lv_iload hx hb dX0_heightAt_15 (lv_at hl 4 rfl) ?_
        refine lv_ishr hx hb dX0_heightAt_17 ?_
        refine lv_iconst (v := (1 : Int32)) hx hb dX0_heightAt_18 (by decide) ?_
        refine lv_iand hx hb dX0_heightAt_19 ?_
        refine lv_if_ne (tgt := 26) hx hb dX0_heightAt_20 (by decide) (fun c_20 => ?_) (fun c_20 => ?_)
        · have hF := gi_f c_20 hF
          refine lv_aload_n hx hb dX0_heightAt_26 rfl (lv_at hl 0 rfl) ?_
          refine va_get (D := (dC, dI)) (ci := 0) (v := .ref h_heights) (C := RX0) (T := TX0) (N := 8) hx hb hts in_X0 hown hK hP 0 rfl rfl 1 (by decide) hL15 (fun _ h9 => h9) rfl dX0_heightAt_27 ?_
          refine lv_iload hx hb dX0_heightAt_30 (lv_at hl 4 rfl) ?_
          obtain ⟨z_32, hz_32, hF⟩ := gi_bind hF
          refine gRi (wc := [(h_heights, .inl (k_heights, 6, .inl v_heights))]) (wr := [(h_this, .inr (0, [.ref h_bends, .ref h_heights, .int v_prime, .int v_degree, .int v_points, .int v_secret, .int v_c1, .int v_c2]))]) (w1 := [(h_heights, .inl (k_heights, 6, .inl v_heights))]) hP hD hS hA [1] [0] rfl rfl (by decide) (by decide) (va_runSN (As := [.ref h_heights, .int y4]) (rest := []) CF (t_X9_at l dC dI h_heights k_heights 6 v_heights H.size y4 N z_32 hz_32) cw49 (gPS hP hD hK hN [1] [0] (by decide) rfl rfl) rfl rfl hl.1 rfl (lv_room (Nat.le_of_ble_eq_true rfl)) dX0_heightAt_32 ⟨Nat.zero_le _, Nat.zero_le _⟩) (fun H locs hP hD hS => ?_)
          have hP : va_P (dC, dI) vwCl [(h_this, .inr (0, [.ref h_bends, .ref h_heights, .int v_prime, .int v_degree, .int v_points, .int v_secret, .int v_c1, .int v_c2])), (h_heights, .inl (k_heights, 6, .inl v_heights))] H := hP
          have hD : va_D A [(h_this, .inr (0, [.ref h_bends, .ref h_heights, .int v_prime, .int v_degree, .int v_points, .int v_secret, .int v_c1, .int v_c2])), (h_heights, .inl (k_heights, 6, .inl v_heights))] := hD
          refine lv_istore (lv' := [(5, .int z_32), (0, .ref h_this), (1, .int x1), (2, .int x2), (3, .int y3), (4, .int y4)]) hx hb dX0_heightAt_35 hl (by decide) rfl (fun ls hl => ?_)
          refine lv_iconst (v := (1 : Int32)) hx hb dX0_heightAt_37 (by decide) ?_
          refine lv_istore (lv' := [(6, .int (1 : Int32)), (5, .int z_32), (0, .ref h_this), (1, .int x1), (2, .int x2), (3, .int y3), (4, .int y4)]) hx hb dX0_heightAt_38 hl (by decide) rfl (fun ls hl => ?_)
          refine lv_iconst (v := (0 : Int32)) hx hb dX0_heightAt_40 (by decide) ?_
          refine lv_istore (lv' := [(7, .int (0 : Int32)), (6, .int (1 : Int32)), (5, .int z_32), (0, .ref h_this), (1, .int x1), (2, .int x2), (3, .int y3), (4, .int y4)]) hx hb dX0_heightAt_41 hl (by decide) rfl (fun ls hl => ?_)
          exact k_43 r_5 g_5 N y3 y4 z_32 (1 : Int32) (0 : Int32) _ _ _ hF hP hD hS (lv_sub hl [3, 4, 5, 6, 7, 2, 1, 0] rfl)
        · have hF := gi_t c_20 hF
          refine lv_goto (tgt := 124) hx hb dX0_heightAt_23 (by decide) ?_
          refine lv_iinc (v := (y4 + 1)) (lv' := [(4, .int (y4 + 1)), (0, .ref h_this), (1, .int x1), (2, .int x2), (3, .int y3)]) hx hb dX0_heightAt_124 hl (k := 4) rfl rfl (by decide) rfl (fun ls hl => ?_)
          refine lv_goto (tgt := 5) hx hb dX0_heightAt_127 (by decide) ?_
          exact g_5 y3 (y4 + 1) _ _ _ hF hP hD hS (lv_sub hl [1, 2, 3, 4, 0] rfl)
  unfold f_X0_heightAt at hF
  refine lv_iconst (v := (0 : Int32)) hx hb dX0_heightAt_0 (by decide) ?_
  refine lv_istore_n (lv' := [(3, .int (0 : Int32)), (0, .ref h_this), (1, .int x1), (2, .int x2)]) hx hb dX0_heightAt_1 rfl hl (by decide) rfl (fun ls hl => ?_)
  refine lv_iconst (v := (0 : Int32)) hx hb dX0_heightAt_2 (by decide) ?_
  refine lv_istore (lv' := [(4, .int (0 : Int32)), (3, .int (0 : Int32)), (0, .ref h_this), (1, .int x1), (2, .int x2)]) hx hb dX0_heightAt_3 hl (by decide) rfl (fun ls hl => ?_)
  exact k_5 N (0 : Int32) (0 : Int32) _ _ _ hF hP hD hS (lv_sub hl [2, 3, 4, 1, 0] rfl)
abbrev O_X0_agreeing : Type := Int32
def s_X0_agreeing_5 (N : Nat) (v_prime : Int32) (v_points : Int32) (v_heights : Nat → Int32) (x1 : Int32) (x2 : Int32) (r_5 : Int32 → Int32 → Option O_X0_agreeing) (y3 : Int32) (y4 : Int32) : Option O_X0_agreeing :=
  if v_points ≤ y4 then (some (y3)) else (if ((x1 >>> (y4 &&& 31)) &&& (1 : Int32)) = (1 : Int32) then ((f_X0_heightAt N v_prime v_points v_heights (y4 + (1 : Int32)) x2).bind (fun z_30 => (f_X9_at N v_heights 6 y4).bind (fun z_39 => if z_30 = z_39 then (r_5 (y3 ||| ((1 : Int32) <<< (y4 &&& 31))) (y4 + 1)) else (r_5 y3 (y4 + 1))))) else (r_5 y3 (y4 + 1)))
def f_X0_agreeing_5 (N : Nat) (v_prime : Int32) (v_points : Int32) (v_heights : Nat → Int32) (x1 : Int32) (x2 : Int32) (n : Nat) : Int32 → Int32 → Option O_X0_agreeing := lpg (fun _ _ => none) (s_X0_agreeing_5 N v_prime v_points v_heights x1 x2) n
def f_X0_agreeing (N : Nat) (v_prime : Int32) (v_points : Int32) (v_heights : Nat → Int32) (x1 : Int32) (x2 : Int32) : Option O_X0_agreeing :=
  f_X0_agreeing_5 N v_prime v_points v_heights x1 x2 N (0 : Int32) (0 : Int32)
set_option maxHeartbeats 4000000 in
set_option maxRecDepth 100000 in
theorem t_X0_agreeing (l : Launch) (dC : Nat → ClassId) (dI : Nat → Nat → Nat) (h_this : Nat) (h_bends : Nat) (h_heights : Nat) (v_prime : Int32) (v_degree : Int32) (v_points : Int32) (v_secret : Int32) (v_c1 : Int32) (v_c2 : Int32) (k_heights : ClassId) (v_heights : Nat → Int32) (sz : Nat) (x1 : Int32) (x2 : Int32) (N : Nat) (out : O_X0_agreeing) (hF : f_X0_agreeing N v_prime v_points v_heights x1 x2 = some out) : gMi l yX0_agreeing wsX0_agreeing ({ frames := 3, cells := 0, slots := 0, locals := 71 } : Room) [.ref h_this, .int x1, .int x2] (dC, dI) [(h_this, .inr (0, [.ref h_bends, .ref h_heights, .int v_prime, .int v_degree, .int v_points, .int v_secret, .int v_c1, .int v_c2])), (h_heights, .inl (k_heights, 6, .inl v_heights))] [(k_heights, .int)] sz [(h_this, .inr (0, [.ref h_bends, .ref h_heights, .int v_prime, .int v_degree, .int v_points, .int v_secret, .int v_c1, .int v_c2])), (h_heights, .inl (k_heights, 6, .inl v_heights))] out := by
  refine gEi (cc := cX0_agreeing) (maxL := 5) (by decide) rfl (Nat.le_of_ble_eq_true rfl) ?_
  intro p e s m args below meth c Q A ls CF hK hN hA hret hP hD hS hl
  have hx := CF.1
  have hb := CF.2.1
  have hml := CF.2.2.1
  have hown : s.vm.findClass RX0 = some m.cls := CF.2.2.2.1
  have hts := CF.2.2.2.2
  have hl : lv_has ls 5 [(0, .ref h_this), (1, .int x1), (2, .int x2)] := hl
  have in_X0 : ∀ w ∈ wsX00, w ∈ wsX0_agreeing := fun w h => List.mem_cons_of_mem _ (List.mem_append_right _ h)
  have hL25 : (Cond.fieldLink RX0 25 "DustSums$Curve" "points" "I").before args s = true := hts (.fieldLink RX0 25 "DustSums$Curve" "points" "I") (List.mem_of_getElem? (i := 1) rfl)
  have cw73 : CallW ({ frames := 3, cells := 0, slots := 0, locals := 71 } : Room) s args RX0 RX0 73 yX0_heightAt cX0_heightAt 8 (some .int) wsX0_heightAt ({ frames := 2, cells := 0, slots := 0, locals := 44 } : Room) 0 0 2 := cwV 2 hts gX0_agreeing_X0_heightAt rfl rfl rfl (by decide +kernel) ⟨Nat.le_of_ble_eq_true rfl, Nat.le_of_ble_eq_true rfl⟩
  have hL15 : (Cond.fieldLink RX0 15 "DustSums$Curve" "heights" "[I").before args s = true := hts (.fieldLink RX0 15 "DustSums$Curve" "heights" "[I") (List.mem_of_getElem? (i := 2) rfl)
  have nm49 : va_Nw (.methodLinkNest RX0 49 yX9_at "DustSums") s := hN.2 (RX0, 49, yX9_at, "DustSums") (by decide +kernel)
  have cw49 : va_CN ({ frames := 3, cells := 0, slots := 0, locals := 71 } : Room) s args RX0 49 yX9_at "DustSums" cX9_at 2 (some .int) wsX9_at ({ frames := 0, cells := 0, slots := 0, locals := 0 } : Room) 0 0 2 ∧ (Cond.static yX9_at).before args s = true ∧ True := ⟨va_cnB 2 hts gX0_agreeing_X9_at_n49 rfl rfl rfl nm49 (hts (.initialized RX9) (List.mem_of_getElem? (i := 10) rfl)) (by decide +kernel) ⟨Nat.le_of_ble_eq_true rfl, Nat.le_of_ble_eq_true rfl⟩, hts (.static yX9_at) (List.mem_of_getElem? (i := 9) rfl), trivial⟩
  have k_5 : ∀ (n : Nat) (y3 : Int32) (y4 : Int32) (H : Heap) (locs : List Loc) (ls : Array Slot), f_X0_agreeing_5 N v_prime v_points v_heights x1 x2 n y3 y4 = some out → va_P (dC, dI) vwCl [(h_this, .inr (0, [.ref h_bends, .ref h_heights, .int v_prime, .int v_degree, .int v_points, .int v_secret, .int v_c1, .int v_c2])), (h_heights, .inl (k_heights, 6, .inl v_heights))] H → va_D A [(h_this, .inr (0, [.ref h_bends, .ref h_heights, .int v_prime, .int v_degree, .int v_points, .int v_secret, .int v_c1, .int v_c2])), (h_heights, .inl (k_heights, 6, .inl v_heights))] → va_S A s.heap H locs → lv_has ls 5 [(0, .ref h_this), (1, .int x1), (2, .int x2), (3, .int y3), (4, .int y4)] → W p l e ({ frames := 3, cells := 0, slots := 0, locals := 71 } : Room) s m args below meth c H locs 0 0 Q (F0 m 5 ls []) := by
    intro n
    induction n with
    | zero =>
      intro y3 y4 H locs ls hF
      have hF : (none : Option O_X0_agreeing) = some out := hF
      cases hF
    | succ n ih =>
      intro y3 y4 H locs ls hF hP hD hS hl
      have hF : s_X0_agreeing_5 N v_prime v_points v_heights x1 x2 (f_X0_agreeing_5 N v_prime v_points v_heights x1 x2 n) y3 y4 = some out := hF
      generalize f_X0_agreeing_5 N v_prime v_points v_heights x1 x2 n = r_5 at hF ih
      have g_5 : ∀ (y3 : Int32) (y4 : Int32) (H : Heap) (locs : List Loc) (ls : Array Slot), r_5 y3 y4 = some out → va_P (dC, dI) vwCl [(h_this, .inr (0, [.ref h_bends, .ref h_heights, .int v_prime, .int v_degree, .int v_points, .int v_secret, .int v_c1, .int v_c2])), (h_heights, .inl (k_heights, 6, .inl v_heights))] H → va_D A [(h_this, .inr (0, [.ref h_bends, .ref h_heights, .int v_prime, .int v_degree, .int v_points, .int v_secret, .int v_c1, .int v_c2])), (h_heights, .inl (k_heights, 6, .inl v_heights))] → va_S A s.heap H locs → lv_has ls 5 [(0, .ref h_this), (1, .int x1), (2, .int x2), (3, .int y3), (4, .int y4)] → W p l e ({ frames := 3, cells := 0, slots := 0, locals := 71 } : Room) s m args below meth c H locs 0 0 Q (F0 m 5 ls []) := ih
      clear ih
      unfold s_X0_agreeing_5 at hF
      refine lv_iload hx hb dX0_agreeing_5 (lv_at hl 4 rfl) ?_
      refine lv_aload_n hx hb dX0_agreeing_7 rfl (lv_at hl 0 rfl) ?_
      refine va_get (D := (dC, dI)) (ci := 0) (v := .int v_points) (C := RX0) (T := TX0) (N := 8) hx hb hts in_X0 hown hK hP 0 rfl rfl 4 (by decide) hL25 (fun _ h9 => h9) rfl dX0_agreeing_8 ?_
      refine lv_icmp_ge (tgt := 58) hx hb dX0_agreeing_11 (by decide) (fun c_11 => ?_) (fun c_11 => ?_)
      · have hF := gi_t c_11 hF
        refine lv_iload_n hx hb dX0_agreeing_58 rfl (lv_at hl 3 rfl) ?_
        have hF := Option.some.inj hF
        subst hF
        exact hret _ _ _ _ dX0_agreeing_59 hP hD hS
      · have hF := gi_f c_11 hF
        refine lv_iload_n hx hb dX0_agreeing_14 rfl (lv_at hl 1 rfl) ?_
        refine lv_iload hx hb dX0_agreeing_15 (lv_at hl 4 rfl) ?_
        refine lv_ishr hx hb dX0_agreeing_17 ?_
        refine lv_iconst (v := (1 : Int32)) hx hb dX0_agreeing_18 (by decide) ?_
        refine lv_iand hx hb dX0_agreeing_19 ?_
        refine lv_iconst (v := (1 : Int32)) hx hb dX0_agreeing_20 (by decide) ?_
        refine lv_icmp_ne (tgt := 52) hx hb dX0_agreeing_21 (by decide) (fun c_21 => ?_) (fun c_21 => ?_)
        · have hF := gi_f c_21 hF
          refine lv_iinc (v := (y4 + 1)) (lv' := [(4, .int (y4 + 1)), (0, .ref h_this), (1, .int x1), (2, .int x2), (3, .int y3)]) hx hb dX0_agreeing_52 hl (k := 4) rfl rfl (by decide) rfl (fun ls hl => ?_)
          refine lv_goto (tgt := 5) hx hb dX0_agreeing_55 (by decide) ?_
          exact g_5 y3 (y4 + 1) _ _ _ hF hP hD hS (lv_sub hl [1, 2, 3, 4, 0] rfl)
        · have hF := gi_t c_21 hF
          refine lv_aload_n hx hb dX0_agreeing_24 rfl (lv_at hl 0 rfl) ?_
          refine lv_iload hx hb dX0_agreeing_25 (lv_at hl 4 rfl) ?_
          refine lv_iconst (v := (1 : Int32)) hx hb dX0_agreeing_27 (by decide) ?_
          refine lv_iadd hx hb dX0_agreeing_28 ?_
          refine lv_iload_n hx hb dX0_agreeing_29 rfl (lv_at hl 2 rfl) ?_
          obtain ⟨z_30, hz_30, hF⟩ := gi_bind hF
          refine gRi (wc := [(h_this, .inr (0, [.ref h_bends, .ref h_heights, .int v_prime, .int v_degree, .int v_points, .int v_secret, .int v_c1, .int v_c2])), (h_heights, .inl (k_heights, 6, .inl v_heights))]) (wr := []) (w1 := [(h_this, .inr (0, [.ref h_bends, .ref h_heights, .int v_prime, .int v_degree, .int v_points, .int v_secret, .int v_c1, .int v_c2])), (h_heights, .inl (k_heights, 6, .inl v_heights))]) hP hD hS hA [0, 1] [] rfl rfl (by decide) (by decide) (va_runV (As := [.int (y4 + (1 : Int32)), .int x2]) (rest := []) CF (t_X0_heightAt l dC dI h_this h_bends h_heights v_prime v_degree v_points v_secret v_c1 v_c2 k_heights v_heights H.size (y4 + (1 : Int32)) x2 N z_30 hz_30) cw73 (gPV (ci := 0) hP hD hK hN [0, 1] [0] (by decide) rfl rfl (q0 := 0) rfl rfl) rfl rfl hl.1 rfl (lv_room (Nat.le_of_ble_eq_true rfl)) dX0_agreeing_30 ⟨Nat.zero_le _, Nat.zero_le _⟩) (fun H locs hP hD hS => ?_)
          have hP : va_P (dC, dI) vwCl [(h_this, .inr (0, [.ref h_bends, .ref h_heights, .int v_prime, .int v_degree, .int v_points, .int v_secret, .int v_c1, .int v_c2])), (h_heights, .inl (k_heights, 6, .inl v_heights))] H := hP
          have hD : va_D A [(h_this, .inr (0, [.ref h_bends, .ref h_heights, .int v_prime, .int v_degree, .int v_points, .int v_secret, .int v_c1, .int v_c2])), (h_heights, .inl (k_heights, 6, .inl v_heights))] := hD
          refine lv_aload_n hx hb dX0_agreeing_33 rfl (lv_at hl 0 rfl) ?_
          refine va_get (D := (dC, dI)) (ci := 0) (v := .ref h_heights) (C := RX0) (T := TX0) (N := 8) hx hb hts in_X0 hown hK hP 0 rfl rfl 1 (by decide) hL15 (fun _ h9 => h9) rfl dX0_agreeing_34 ?_
          refine lv_iload hx hb dX0_agreeing_37 (lv_at hl 4 rfl) ?_
          obtain ⟨z_39, hz_39, hF⟩ := gi_bind hF
          refine gRi (wc := [(h_heights, .inl (k_heights, 6, .inl v_heights))]) (wr := [(h_this, .inr (0, [.ref h_bends, .ref h_heights, .int v_prime, .int v_degree, .int v_points, .int v_secret, .int v_c1, .int v_c2]))]) (w1 := [(h_heights, .inl (k_heights, 6, .inl v_heights))]) hP hD hS hA [1] [0] rfl rfl (by decide) (by decide) (va_runSN (As := [.ref h_heights, .int y4]) (rest := [.int z_30]) CF (t_X9_at l dC dI h_heights k_heights 6 v_heights H.size y4 N z_39 hz_39) cw49 (gPS hP hD hK hN [1] [0] (by decide) rfl rfl) rfl rfl hl.1 rfl (lv_room (Nat.le_of_ble_eq_true rfl)) dX0_agreeing_39 ⟨Nat.zero_le _, Nat.zero_le _⟩) (fun H locs hP hD hS => ?_)
          have hP : va_P (dC, dI) vwCl [(h_this, .inr (0, [.ref h_bends, .ref h_heights, .int v_prime, .int v_degree, .int v_points, .int v_secret, .int v_c1, .int v_c2])), (h_heights, .inl (k_heights, 6, .inl v_heights))] H := hP
          have hD : va_D A [(h_this, .inr (0, [.ref h_bends, .ref h_heights, .int v_prime, .int v_degree, .int v_points, .int v_secret, .int v_c1, .int v_c2])), (h_heights, .inl (k_heights, 6, .inl v_heights))] := hD
          refine lv_icmp_ne (tgt := 52) hx hb dX0_agreeing_42 (by decide) (fun c_42 => ?_) (fun c_42 => ?_)
          · have hF := gi_f c_42 hF
            refine lv_iinc (v := (y4 + 1)) (lv' := [(4, .int (y4 + 1)), (0, .ref h_this), (1, .int x1), (2, .int x2), (3, .int y3)]) hx hb dX0_agreeing_52 hl (k := 4) rfl rfl (by decide) rfl (fun ls hl => ?_)
            refine lv_goto (tgt := 5) hx hb dX0_agreeing_55 (by decide) ?_
            exact g_5 y3 (y4 + 1) _ _ _ hF hP hD hS (lv_sub hl [1, 2, 3, 4, 0] rfl)
          · have hF := gi_t c_42 hF
            refine lv_iload_n hx hb dX0_agreeing_45 rfl (lv_at hl 3 rfl) ?_
            refine lv_iconst (v := (1 : Int32)) hx hb dX0_agreeing_46 (by decide) ?_
            refine lv_iload hx hb dX0_agreeing_47 (lv_at hl 4 rfl) ?_
            refine lv_ishl hx hb dX0_agreeing_49 ?_
            refine lv_ior hx hb dX0_agreeing_50 ?_
            refine lv_istore_n (lv' := [(3, .int (y3 ||| ((1 : Int32) <<< (y4 &&& 31)))), (0, .ref h_this), (1, .int x1), (2, .int x2), (4, .int y4)]) hx hb dX0_agreeing_51 rfl hl (by decide) rfl (fun ls hl => ?_)
            refine lv_iinc (v := (y4 + 1)) (lv' := [(4, .int (y4 + 1)), (3, .int (y3 ||| ((1 : Int32) <<< (y4 &&& 31)))), (0, .ref h_this), (1, .int x1), (2, .int x2)]) hx hb dX0_agreeing_52 hl (k := 4) rfl rfl (by decide) rfl (fun ls hl => ?_)
            refine lv_goto (tgt := 5) hx hb dX0_agreeing_55 (by decide) ?_
            exact g_5 (y3 ||| ((1 : Int32) <<< (y4 &&& 31))) (y4 + 1) _ _ _ hF hP hD hS (lv_sub hl [2, 3, 4, 1, 0] rfl)
  unfold f_X0_agreeing at hF
  refine lv_iconst (v := (0 : Int32)) hx hb dX0_agreeing_0 (by decide) ?_
  refine lv_istore_n (lv' := [(3, .int (0 : Int32)), (0, .ref h_this), (1, .int x1), (2, .int x2)]) hx hb dX0_agreeing_1 rfl hl (by decide) rfl (fun ls hl => ?_)
  refine lv_iconst (v := (0 : Int32)) hx hb dX0_agreeing_2 (by decide) ?_
  refine lv_istore (lv' := [(4, .int (0 : Int32)), (3, .int (0 : Int32)), (0, .ref h_this), (1, .int x1), (2, .int x2)]) hx hb dX0_agreeing_3 hl (by decide) rfl (fun ls hl => ?_)
  exact k_5 N (0 : Int32) (0 : Int32) _ _ _ hF hP hD hS (lv_sub hl [2, 3, 4, 1, 0] rfl)
abbrev O_X0_opened : Type := Int32
def f_X0_opened_74 (N : Nat) (v_prime : Int32) (v_points : Int32) (v_heights : Nat → Int32) (x1 : Int32) (x2 : Int32) (x3 : Int32) (y4 : Int32) (y5 : Int32) : Option O_X0_opened :=
  (f_J6_bitCount_0f7a4 N y4).bind (fun z_76 => (f_J6_bitCount_0f7a4 N x1).bind (fun z_82 => if (z_82 - x2) < ((2 : Int32) * (z_76 - x2)) then (if x3 = 0 then ((f_X0_heightAt N v_prime v_points v_heights (0 : Int32) y5).bind (fun z_111 => some (z_111))) else (some ((x1 &&& (y4 ^^^ (-1 : Int32)))))) else (some ((-9 : Int32)))))
def s_X0_opened_9 (N : Nat) (v_prime : Int32) (v_points : Int32) (v_heights : Nat → Int32) (x1 : Int32) (x2 : Int32) (x3 : Int32) (r_9 : Int32 → Int32 → Int32 → Option O_X0_opened) (y4 : Int32) (y5 : Int32) (y6 : Int32) : Option O_X0_opened :=
  if x1 < y6 then (f_X0_opened_74 N v_prime v_points v_heights x1 x2 x3 y4 y5) else (if (y6 &&& (x1 ^^^ (-1 : Int32))) = 0 then ((f_J6_bitCount_0f7a4 N y6).bind (fun z_26 => if z_26 = (x2 + (1 : Int32)) then ((f_X0_agreeing N v_prime v_points v_heights x1 y6).bind (fun z_42 => (f_J6_bitCount_0f7a4 N z_42).bind (fun z_49 => (f_J6_bitCount_0f7a4 N y4).bind (fun z_54 => if z_49 ≤ z_54 then (r_9 y4 y5 (y6 + 1)) else (r_9 z_42 y6 (y6 + 1)))))) else (r_9 y4 y5 (y6 + 1)))) else (r_9 y4 y5 (y6 + 1)))
def f_X0_opened_9 (N : Nat) (v_prime : Int32) (v_points : Int32) (v_heights : Nat → Int32) (x1 : Int32) (x2 : Int32) (x3 : Int32) (n : Nat) : Int32 → Int32 → Int32 → Option O_X0_opened := lpg (fun _ _ _ => none) (s_X0_opened_9 N v_prime v_points v_heights x1 x2 x3) n
def f_X0_opened (N : Nat) (v_prime : Int32) (v_points : Int32) (v_heights : Nat → Int32) (x1 : Int32) (x2 : Int32) (x3 : Int32) : Option O_X0_opened :=
  f_X0_opened_9 N v_prime v_points v_heights x1 x2 x3 N (0 : Int32) (0 : Int32) (1 : Int32)
set_option maxHeartbeats 4000000 in
set_option maxRecDepth 100000 in
theorem t_X0_opened (l : Launch) (dC : Nat → ClassId) (dI : Nat → Nat → Nat) (h_this : Nat) (h_bends : Nat) (h_heights : Nat) (v_prime : Int32) (v_degree : Int32) (v_points : Int32) (v_secret : Int32) (v_c1 : Int32) (v_c2 : Int32) (k_heights : ClassId) (v_heights : Nat → Int32) (sz : Nat) (x1 : Int32) (x2 : Int32) (x3 : Int32) (N : Nat) (out : O_X0_opened) (hF : f_X0_opened N v_prime v_points v_heights x1 x2 x3 = some out) : gMi l yX0_opened wsX0_opened ({ frames := 4, cells := 0, slots := 0, locals := 95 } : Room) [.ref h_this, .int x1, .int x2, .int x3] (dC, dI) [(h_this, .inr (0, [.ref h_bends, .ref h_heights, .int v_prime, .int v_degree, .int v_points, .int v_secret, .int v_c1, .int v_c2])), (h_heights, .inl (k_heights, 6, .inl v_heights))] [(k_heights, .int)] sz [(h_this, .inr (0, [.ref h_bends, .ref h_heights, .int v_prime, .int v_degree, .int v_points, .int v_secret, .int v_c1, .int v_c2])), (h_heights, .inl (k_heights, 6, .inl v_heights))] out := by
  refine gEi (cc := cX0_opened) (maxL := 8) (by decide) rfl (Nat.le_of_ble_eq_true rfl) ?_
  intro p e s m args below meth c Q A ls CF hK hN hA hret hP hD hS hl
  have hx := CF.1
  have hb := CF.2.1
  have hml := CF.2.2.1
  have hown : s.vm.findClass RX0 = some m.cls := CF.2.2.2.1
  have hts := CF.2.2.2.2
  have hl : lv_has ls 8 [(0, .ref h_this), (1, .int x1), (2, .int x2), (3, .int x3)] := hl
  have cw65 : CallB ({ frames := 4, cells := 0, slots := 0, locals := 95 } : Room) s args RX0 65 yJ6_bitCount_0f7a4 cJ6_bitCount_0f7a4 1 (some .int) wsJ6_bitCount_0f7a4 ({ frames := 0, cells := 0, slots := 0, locals := 0 } : Room) 0 0 1 ∧ (Cond.static yJ6_bitCount_0f7a4).before args s = true := va_cwS 1 hts gX0_opened_J6_bitCount_0f7a4 rfl rfl rfl (by decide +kernel) ⟨Nat.le_of_ble_eq_true rfl, Nat.le_of_ble_eq_true rfl⟩
  have cw73 : CallW ({ frames := 4, cells := 0, slots := 0, locals := 95 } : Room) s args RX0 RX0 73 yX0_heightAt cX0_heightAt 8 (some .int) wsX0_heightAt ({ frames := 2, cells := 0, slots := 0, locals := 44 } : Room) 0 0 2 := cwV 2 hts gX0_opened_X0_heightAt rfl rfl rfl (by decide +kernel) ⟨Nat.le_of_ble_eq_true rfl, Nat.le_of_ble_eq_true rfl⟩
  have cw70 : CallW ({ frames := 4, cells := 0, slots := 0, locals := 95 } : Room) s args RX0 RX0 70 yX0_agreeing cX0_agreeing 5 (some .int) wsX0_agreeing ({ frames := 3, cells := 0, slots := 0, locals := 71 } : Room) 0 0 2 := cwV 2 hts gX0_opened_X0_agreeing rfl rfl rfl (by decide +kernel) ⟨Nat.le_of_ble_eq_true rfl, Nat.le_of_ble_eq_true rfl⟩
  have k_74 : ∀ (y4 : Int32) (y5 : Int32) (H : Heap) (locs : List Loc) (ls : Array Slot), f_X0_opened_74 N v_prime v_points v_heights x1 x2 x3 y4 y5 = some out → va_P (dC, dI) vwCl [(h_this, .inr (0, [.ref h_bends, .ref h_heights, .int v_prime, .int v_degree, .int v_points, .int v_secret, .int v_c1, .int v_c2])), (h_heights, .inl (k_heights, 6, .inl v_heights))] H → va_D A [(h_this, .inr (0, [.ref h_bends, .ref h_heights, .int v_prime, .int v_degree, .int v_points, .int v_secret, .int v_c1, .int v_c2])), (h_heights, .inl (k_heights, 6, .inl v_heights))] → va_S A s.heap H locs → lv_has ls 8 [(0, .ref h_this), (1, .int x1), (2, .int x2), (3, .int x3), (4, .int y4), (5, .int y5)] → W p l e ({ frames := 4, cells := 0, slots := 0, locals := 95 } : Room) s m args below meth c H locs 0 0 Q (F0 m 74 ls []) := by
    intro y4 y5 H locs ls hF hP hD hS hl
    unfold f_X0_opened_74 at hF
    refine lv_iload hx hb dX0_opened_74 (lv_at hl 4 rfl) ?_
    obtain ⟨z_76, hz_76, hF⟩ := gi_bind hF
    refine gRi (wc := []) (wr := [(h_this, .inr (0, [.ref h_bends, .ref h_heights, .int v_prime, .int v_degree, .int v_points, .int v_secret, .int v_c1, .int v_c2])), (h_heights, .inl (k_heights, 6, .inl v_heights))]) (w1 := []) hP hD hS hA [] [0, 1] rfl rfl (by decide) (by decide) (va_runS (As := [.int y4]) (rest := []) CF (t_J6_bitCount_0f7a4 l dC dI H.size y4 N z_76 hz_76) cw65 (gPS hP hD hK hN [] [] (by decide) rfl rfl) rfl rfl hl.1 rfl (lv_room (Nat.le_of_ble_eq_true rfl)) dX0_opened_76 ⟨Nat.zero_le _, Nat.zero_le _⟩) (fun H locs hP hD hS => ?_)
    have hP : va_P (dC, dI) vwCl [(h_this, .inr (0, [.ref h_bends, .ref h_heights, .int v_prime, .int v_degree, .int v_points, .int v_secret, .int v_c1, .int v_c2])), (h_heights, .inl (k_heights, 6, .inl v_heights))] H := hP
    have hD : va_D A [(h_this, .inr (0, [.ref h_bends, .ref h_heights, .int v_prime, .int v_degree, .int v_points, .int v_secret, .int v_c1, .int v_c2])), (h_heights, .inl (k_heights, 6, .inl v_heights))] := hD
    refine lv_istore (lv' := [(6, .int z_76), (0, .ref h_this), (1, .int x1), (2, .int x2), (3, .int x3), (4, .int y4), (5, .int y5)]) hx hb dX0_opened_79 hl (by decide) rfl (fun ls hl => ?_)
    refine lv_iload_n hx hb dX0_opened_81 rfl (lv_at hl 2 rfl) ?_
    obtain ⟨z_82, hz_82, hF⟩ := gi_bind hF
    refine gRi (wc := []) (wr := [(h_this, .inr (0, [.ref h_bends, .ref h_heights, .int v_prime, .int v_degree, .int v_points, .int v_secret, .int v_c1, .int v_c2])), (h_heights, .inl (k_heights, 6, .inl v_heights))]) (w1 := []) hP hD hS hA [] [0, 1] rfl rfl (by decide) (by decide) (va_runS (As := [.int x1]) (rest := []) CF (t_J6_bitCount_0f7a4 l dC dI H.size x1 N z_82 hz_82) cw65 (gPS hP hD hK hN [] [] (by decide) rfl rfl) rfl rfl hl.1 rfl (lv_room (Nat.le_of_ble_eq_true rfl)) dX0_opened_82 ⟨Nat.zero_le _, Nat.zero_le _⟩) (fun H locs hP hD hS => ?_)
    have hP : va_P (dC, dI) vwCl [(h_this, .inr (0, [.ref h_bends, .ref h_heights, .int v_prime, .int v_degree, .int v_points, .int v_secret, .int v_c1, .int v_c2])), (h_heights, .inl (k_heights, 6, .inl v_heights))] H := hP
    have hD : va_D A [(h_this, .inr (0, [.ref h_bends, .ref h_heights, .int v_prime, .int v_degree, .int v_points, .int v_secret, .int v_c1, .int v_c2])), (h_heights, .inl (k_heights, 6, .inl v_heights))] := hD
    refine lv_istore (lv' := [(7, .int z_82), (6, .int z_76), (0, .ref h_this), (1, .int x1), (2, .int x2), (3, .int x3), (4, .int y4), (5, .int y5)]) hx hb dX0_opened_85 hl (by decide) rfl (fun ls hl => ?_)
    refine lv_iconst (v := (2 : Int32)) hx hb dX0_opened_87 (by decide) ?_
    refine lv_iload hx hb dX0_opened_88 (lv_at hl 1 rfl) ?_
    refine lv_iload_n hx hb dX0_opened_90 rfl (lv_at hl 4 rfl) ?_
    refine lv_isub hx hb dX0_opened_91 ?_
    refine lv_imul hx hb dX0_opened_92 ?_
    refine lv_iload hx hb dX0_opened_93 (lv_at hl 0 rfl) ?_
    refine lv_iload_n hx hb dX0_opened_95 rfl (lv_at hl 4 rfl) ?_
    refine lv_isub hx hb dX0_opened_96 ?_
    refine lv_icmp_gt (tgt := 103) hx hb dX0_opened_97 (by decide) (fun c_97 => ?_) (fun c_97 => ?_)
    · have hF := gi_t c_97 hF
      refine lv_iload_n hx hb dX0_opened_103 rfl (lv_at hl 5 rfl) ?_
      refine lv_if_ne (tgt := 117) hx hb dX0_opened_104 (by decide) (fun c_104 => ?_) (fun c_104 => ?_)
      · have hF := gi_f c_104 hF
        refine lv_iload_n hx hb dX0_opened_117 rfl (lv_at hl 3 rfl) ?_
        refine lv_iload hx hb dX0_opened_118 (lv_at hl 6 rfl) ?_
        refine lv_iconst (v := (-1 : Int32)) hx hb dX0_opened_120 (by decide) ?_
        refine lv_ixor hx hb dX0_opened_121 ?_
        refine lv_iand hx hb dX0_opened_122 ?_
        have hF := Option.some.inj hF
        subst hF
        exact hret _ _ _ _ dX0_opened_123 hP hD hS
      · have hF := gi_t c_104 hF
        refine lv_aload_n hx hb dX0_opened_107 rfl (lv_at hl 2 rfl) ?_
        refine lv_iconst (v := (0 : Int32)) hx hb dX0_opened_108 (by decide) ?_
        refine lv_iload hx hb dX0_opened_109 (lv_at hl 7 rfl) ?_
        obtain ⟨z_111, hz_111, hF⟩ := gi_bind hF
        refine gRi (wc := [(h_this, .inr (0, [.ref h_bends, .ref h_heights, .int v_prime, .int v_degree, .int v_points, .int v_secret, .int v_c1, .int v_c2])), (h_heights, .inl (k_heights, 6, .inl v_heights))]) (wr := []) (w1 := [(h_this, .inr (0, [.ref h_bends, .ref h_heights, .int v_prime, .int v_degree, .int v_points, .int v_secret, .int v_c1, .int v_c2])), (h_heights, .inl (k_heights, 6, .inl v_heights))]) hP hD hS hA [0, 1] [] rfl rfl (by decide) (by decide) (va_runV (As := [.int (0 : Int32), .int y5]) (rest := []) CF (t_X0_heightAt l dC dI h_this h_bends h_heights v_prime v_degree v_points v_secret v_c1 v_c2 k_heights v_heights H.size (0 : Int32) y5 N z_111 hz_111) cw73 (gPV (ci := 0) hP hD hK hN [0, 1] [0] (by decide) rfl rfl (q0 := 0) rfl rfl) rfl rfl hl.1 rfl (lv_room (Nat.le_of_ble_eq_true rfl)) dX0_opened_111 ⟨Nat.zero_le _, Nat.zero_le _⟩) (fun H locs hP hD hS => ?_)
        have hP : va_P (dC, dI) vwCl [(h_this, .inr (0, [.ref h_bends, .ref h_heights, .int v_prime, .int v_degree, .int v_points, .int v_secret, .int v_c1, .int v_c2])), (h_heights, .inl (k_heights, 6, .inl v_heights))] H := hP
        have hD : va_D A [(h_this, .inr (0, [.ref h_bends, .ref h_heights, .int v_prime, .int v_degree, .int v_points, .int v_secret, .int v_c1, .int v_c2])), (h_heights, .inl (k_heights, 6, .inl v_heights))] := hD
        refine lv_goto (tgt := 123) hx hb dX0_opened_114 (by decide) ?_
        have hF := Option.some.inj hF
        subst hF
        exact hret _ _ _ _ dX0_opened_123 hP hD hS
    · have hF := gi_f c_97 hF
      refine lv_bipush (v := (-9 : Int32)) hx hb dX0_opened_100 (by decide) ?_
      have hF := Option.some.inj hF
      subst hF
      exact hret _ _ _ _ dX0_opened_102 hP hD hS
  have k_9 : ∀ (n : Nat) (y4 : Int32) (y5 : Int32) (y6 : Int32) (H : Heap) (locs : List Loc) (ls : Array Slot), f_X0_opened_9 N v_prime v_points v_heights x1 x2 x3 n y4 y5 y6 = some out → va_P (dC, dI) vwCl [(h_this, .inr (0, [.ref h_bends, .ref h_heights, .int v_prime, .int v_degree, .int v_points, .int v_secret, .int v_c1, .int v_c2])), (h_heights, .inl (k_heights, 6, .inl v_heights))] H → va_D A [(h_this, .inr (0, [.ref h_bends, .ref h_heights, .int v_prime, .int v_degree, .int v_points, .int v_secret, .int v_c1, .int v_c2])), (h_heights, .inl (k_heights, 6, .inl v_heights))] → va_S A s.heap H locs → lv_has ls 8 [(0, .ref h_this), (1, .int x1), (2, .int x2), (3, .int x3), (4, .int y4), (5, .int y5), (6, .int y6)] → W p l e ({ frames := 4, cells := 0, slots := 0, locals := 95 } : Room) s m args below meth c H locs 0 0 Q (F0 m 9 ls []) := by
    intro n
    induction n with
    | zero =>
      intro y4 y5 y6 H locs ls hF
      have hF : (none : Option O_X0_opened) = some out := hF
      cases hF
    | succ n ih =>
      intro y4 y5 y6 H locs ls hF hP hD hS hl
      have hF : s_X0_opened_9 N v_prime v_points v_heights x1 x2 x3 (f_X0_opened_9 N v_prime v_points v_heights x1 x2 x3 n) y4 y5 y6 = some out := hF
      generalize f_X0_opened_9 N v_prime v_points v_heights x1 x2 x3 n = r_9 at hF ih
      have g_9 : ∀ (y4 : Int32) (y5 : Int32) (y6 : Int32) (H : Heap) (locs : List Loc) (ls : Array Slot), r_9 y4 y5 y6 = some out → va_P (dC, dI) vwCl [(h_this, .inr (0, [.ref h_bends, .ref h_heights, .int v_prime, .int v_degree, .int v_points, .int v_secret, .int v_c1, .int v_c2])), (h_heights, .inl (k_heights, 6, .inl v_heights))] H → va_D A [(h_this, .inr (0, [.ref h_bends, .ref h_heights, .int v_prime, .int v_degree, .int v_points, .int v_secret, .int v_c1, .int v_c2])), (h_heights, .inl (k_heights, 6, .inl v_heights))] → va_S A s.heap H locs → lv_has ls 8 [(0, .ref h_this), (1, .int x1), (2, .int x2), (3, .int x3), (4, .int y4), (5, .int y5), (6, .int y6)] → W p l e ({ frames := 4, cells := 0, slots := 0, locals := 95 } : Room) s m args below meth c H locs 0 0 Q (F0 m 9 ls []) := ih
      clear ih
      unfold s_X0_opened_9 at hF
      refine lv_iload hx hb dX0_opened_9 (lv_at hl 6 rfl) ?_
      refine lv_iload_n hx hb dX0_opened_11 rfl (lv_at hl 1 rfl) ?_
      refine lv_icmp_gt (tgt := 74) hx hb dX0_opened_12 (by decide) (fun c_12 => ?_) (fun c_12 => ?_)
      · have hF := gi_t c_12 hF
        exact k_74 y4 y5 _ _ _ hF hP hD hS (lv_sub hl [0, 1, 2, 3, 4, 5] rfl)
      · have hF := gi_f c_12 hF
        refine lv_iload hx hb dX0_opened_15 (lv_at hl 6 rfl) ?_
        refine lv_iload_n hx hb dX0_opened_17 rfl (lv_at hl 1 rfl) ?_
        refine lv_iconst (v := (-1 : Int32)) hx hb dX0_opened_18 (by decide) ?_
        refine lv_ixor hx hb dX0_opened_19 ?_
        refine lv_iand hx hb dX0_opened_20 ?_
        refine lv_if_ne (tgt := 68) hx hb dX0_opened_21 (by decide) (fun c_21 => ?_) (fun c_21 => ?_)
        · have hF := gi_f c_21 hF
          refine lv_iinc (v := (y6 + 1)) (lv' := [(6, .int (y6 + 1)), (0, .ref h_this), (1, .int x1), (2, .int x2), (3, .int x3), (4, .int y4), (5, .int y5)]) hx hb dX0_opened_68 hl (k := 6) rfl rfl (by decide) rfl (fun ls hl => ?_)
          refine lv_goto (tgt := 9) hx hb dX0_opened_71 (by decide) ?_
          exact g_9 y4 y5 (y6 + 1) _ _ _ hF hP hD hS (lv_sub hl [1, 2, 3, 4, 5, 6, 0] rfl)
        · have hF := gi_t c_21 hF
          refine lv_iload hx hb dX0_opened_24 (lv_at hl 6 rfl) ?_
          obtain ⟨z_26, hz_26, hF⟩ := gi_bind hF
          refine gRi (wc := []) (wr := [(h_this, .inr (0, [.ref h_bends, .ref h_heights, .int v_prime, .int v_degree, .int v_points, .int v_secret, .int v_c1, .int v_c2])), (h_heights, .inl (k_heights, 6, .inl v_heights))]) (w1 := []) hP hD hS hA [] [0, 1] rfl rfl (by decide) (by decide) (va_runS (As := [.int y6]) (rest := []) CF (t_J6_bitCount_0f7a4 l dC dI H.size y6 N z_26 hz_26) cw65 (gPS hP hD hK hN [] [] (by decide) rfl rfl) rfl rfl hl.1 rfl (lv_room (Nat.le_of_ble_eq_true rfl)) dX0_opened_26 ⟨Nat.zero_le _, Nat.zero_le _⟩) (fun H locs hP hD hS => ?_)
          have hP : va_P (dC, dI) vwCl [(h_this, .inr (0, [.ref h_bends, .ref h_heights, .int v_prime, .int v_degree, .int v_points, .int v_secret, .int v_c1, .int v_c2])), (h_heights, .inl (k_heights, 6, .inl v_heights))] H := hP
          have hD : va_D A [(h_this, .inr (0, [.ref h_bends, .ref h_heights, .int v_prime, .int v_degree, .int v_points, .int v_secret, .int v_c1, .int v_c2])), (h_heights, .inl (k_heights, 6, .inl v_heights))] := hD
          refine lv_iload_n hx hb dX0_opened_29 rfl (lv_at hl 2 rfl) ?_
          refine lv_iconst (v := (1 : Int32)) hx hb dX0_opened_30 (by decide) ?_
          refine lv_iadd hx hb dX0_opened_31 ?_
          refine lv_icmp_eq (tgt := 38) hx hb dX0_opened_32 (by decide) (fun c_32 => ?_) (fun c_32 => ?_)
          · have hF := gi_t c_32 hF
            refine lv_aload_n hx hb dX0_opened_38 rfl (lv_at hl 0 rfl) ?_
            refine lv_iload_n hx hb dX0_opened_39 rfl (lv_at hl 1 rfl) ?_
            refine lv_iload hx hb dX0_opened_40 (lv_at hl 6 rfl) ?_
            obtain ⟨z_42, hz_42, hF⟩ := gi_bind hF
            refine gRi (wc := [(h_this, .inr (0, [.ref h_bends, .ref h_heights, .int v_prime, .int v_degree, .int v_points, .int v_secret, .int v_c1, .int v_c2])), (h_heights, .inl (k_heights, 6, .inl v_heights))]) (wr := []) (w1 := [(h_this, .inr (0, [.ref h_bends, .ref h_heights, .int v_prime, .int v_degree, .int v_points, .int v_secret, .int v_c1, .int v_c2])), (h_heights, .inl (k_heights, 6, .inl v_heights))]) hP hD hS hA [0, 1] [] rfl rfl (by decide) (by decide) (va_runV (As := [.int x1, .int y6]) (rest := []) CF (t_X0_agreeing l dC dI h_this h_bends h_heights v_prime v_degree v_points v_secret v_c1 v_c2 k_heights v_heights H.size x1 y6 N z_42 hz_42) cw70 (gPV (ci := 0) hP hD hK hN [0, 1] [0] (by decide) rfl rfl (q0 := 0) rfl rfl) rfl rfl hl.1 rfl (lv_room (Nat.le_of_ble_eq_true rfl)) dX0_opened_42 ⟨Nat.zero_le _, Nat.zero_le _⟩) (fun H locs hP hD hS => ?_)
            have hP : va_P (dC, dI) vwCl [(h_this, .inr (0, [.ref h_bends, .ref h_heights, .int v_prime, .int v_degree, .int v_points, .int v_secret, .int v_c1, .int v_c2])), (h_heights, .inl (k_heights, 6, .inl v_heights))] H := hP
            have hD : va_D A [(h_this, .inr (0, [.ref h_bends, .ref h_heights, .int v_prime, .int v_degree, .int v_points, .int v_secret, .int v_c1, .int v_c2])), (h_heights, .inl (k_heights, 6, .inl v_heights))] := hD
            refine lv_istore (lv' := [(7, .int z_42), (0, .ref h_this), (1, .int x1), (2, .int x2), (3, .int x3), (4, .int y4), (5, .int y5), (6, .int y6)]) hx hb dX0_opened_45 hl (by decide) rfl (fun ls hl => ?_)
            refine lv_iload hx hb dX0_opened_47 (lv_at hl 0 rfl) ?_
            obtain ⟨z_49, hz_49, hF⟩ := gi_bind hF
            refine gRi (wc := []) (wr := [(h_this, .inr (0, [.ref h_bends, .ref h_heights, .int v_prime, .int v_degree, .int v_points, .int v_secret, .int v_c1, .int v_c2])), (h_heights, .inl (k_heights, 6, .inl v_heights))]) (w1 := []) hP hD hS hA [] [0, 1] rfl rfl (by decide) (by decide) (va_runS (As := [.int z_42]) (rest := []) CF (t_J6_bitCount_0f7a4 l dC dI H.size z_42 N z_49 hz_49) cw65 (gPS hP hD hK hN [] [] (by decide) rfl rfl) rfl rfl hl.1 rfl (lv_room (Nat.le_of_ble_eq_true rfl)) dX0_opened_49 ⟨Nat.zero_le _, Nat.zero_le _⟩) (fun H locs hP hD hS => ?_)
            have hP : va_P (dC, dI) vwCl [(h_this, .inr (0, [.ref h_bends, .ref h_heights, .int v_prime, .int v_degree, .int v_points, .int v_secret, .int v_c1, .int v_c2])), (h_heights, .inl (k_heights, 6, .inl v_heights))] H := hP
            have hD : va_D A [(h_this, .inr (0, [.ref h_bends, .ref h_heights, .int v_prime, .int v_degree, .int v_points, .int v_secret, .int v_c1, .int v_c2])), (h_heights, .inl (k_heights, 6, .inl v_heights))] := hD
            refine lv_iload hx hb dX0_opened_52 (lv_at hl 5 rfl) ?_
            obtain ⟨z_54, hz_54, hF⟩ := gi_bind hF
            refine gRi (wc := []) (wr := [(h_this, .inr (0, [.ref h_bends, .ref h_heights, .int v_prime, .int v_degree, .int v_points, .int v_secret, .int v_c1, .int v_c2])), (h_heights, .inl (k_heights, 6, .inl v_heights))]) (w1 := []) hP hD hS hA [] [0, 1] rfl rfl (by decide) (by decide) (va_runS (As := [.int y4]) (rest := [.int z_49]) CF (t_J6_bitCount_0f7a4 l dC dI H.size y4 N z_54 hz_54) cw65 (gPS hP hD hK hN [] [] (by decide) rfl rfl) rfl rfl hl.1 rfl (lv_room (Nat.le_of_ble_eq_true rfl)) dX0_opened_54 ⟨Nat.zero_le _, Nat.zero_le _⟩) (fun H locs hP hD hS => ?_)
            have hP : va_P (dC, dI) vwCl [(h_this, .inr (0, [.ref h_bends, .ref h_heights, .int v_prime, .int v_degree, .int v_points, .int v_secret, .int v_c1, .int v_c2])), (h_heights, .inl (k_heights, 6, .inl v_heights))] H := hP
            have hD : va_D A [(h_this, .inr (0, [.ref h_bends, .ref h_heights, .int v_prime, .int v_degree, .int v_points, .int v_secret, .int v_c1, .int v_c2])), (h_heights, .inl (k_heights, 6, .inl v_heights))] := hD
            refine lv_icmp_le (tgt := 68) hx hb dX0_opened_57 (by decide) (fun c_57 => ?_) (fun c_57 => ?_)
            · have hF := gi_t c_57 hF
              refine lv_iinc (v := (y6 + 1)) (lv' := [(6, .int (y6 + 1)), (7, .int z_42), (0, .ref h_this), (1, .int x1), (2, .int x2), (3, .int x3), (4, .int y4), (5, .int y5)]) hx hb dX0_opened_68 hl (k := 7) rfl rfl (by decide) rfl (fun ls hl => ?_)
              refine lv_goto (tgt := 9) hx hb dX0_opened_71 (by decide) ?_
              exact g_9 y4 y5 (y6 + 1) _ _ _ hF hP hD hS (lv_sub hl [2, 3, 4, 5, 6, 7, 0] rfl)
            · have hF := gi_f c_57 hF
              refine lv_iload hx hb dX0_opened_60 (lv_at hl 0 rfl) ?_
              refine lv_istore (lv' := [(4, .int z_42), (7, .int z_42), (0, .ref h_this), (1, .int x1), (2, .int x2), (3, .int x3), (5, .int y5), (6, .int y6)]) hx hb dX0_opened_62 hl (by decide) rfl (fun ls hl => ?_)
              refine lv_iload hx hb dX0_opened_64 (lv_at hl 7 rfl) ?_
              refine lv_istore (lv' := [(5, .int y6), (4, .int z_42), (7, .int z_42), (0, .ref h_this), (1, .int x1), (2, .int x2), (3, .int x3), (6, .int y6)]) hx hb dX0_opened_66 hl (by decide) rfl (fun ls hl => ?_)
              refine lv_iinc (v := (y6 + 1)) (lv' := [(6, .int (y6 + 1)), (5, .int y6), (4, .int z_42), (7, .int z_42), (0, .ref h_this), (1, .int x1), (2, .int x2), (3, .int x3)]) hx hb dX0_opened_68 hl (k := 7) rfl rfl (by decide) rfl (fun ls hl => ?_)
              refine lv_goto (tgt := 9) hx hb dX0_opened_71 (by decide) ?_
              exact g_9 z_42 y6 (y6 + 1) _ _ _ hF hP hD hS (lv_sub hl [4, 5, 6, 7, 2, 1, 0] rfl)
          · have hF := gi_f c_32 hF
            refine lv_goto (tgt := 68) hx hb dX0_opened_35 (by decide) ?_
            refine lv_iinc (v := (y6 + 1)) (lv' := [(6, .int (y6 + 1)), (0, .ref h_this), (1, .int x1), (2, .int x2), (3, .int x3), (4, .int y4), (5, .int y5)]) hx hb dX0_opened_68 hl (k := 6) rfl rfl (by decide) rfl (fun ls hl => ?_)
            refine lv_goto (tgt := 9) hx hb dX0_opened_71 (by decide) ?_
            exact g_9 y4 y5 (y6 + 1) _ _ _ hF hP hD hS (lv_sub hl [1, 2, 3, 4, 5, 6, 0] rfl)
  unfold f_X0_opened at hF
  refine lv_iconst (v := (0 : Int32)) hx hb dX0_opened_0 (by decide) ?_
  refine lv_istore (lv' := [(4, .int (0 : Int32)), (0, .ref h_this), (1, .int x1), (2, .int x2), (3, .int x3)]) hx hb dX0_opened_1 hl (by decide) rfl (fun ls hl => ?_)
  refine lv_iconst (v := (0 : Int32)) hx hb dX0_opened_3 (by decide) ?_
  refine lv_istore (lv' := [(5, .int (0 : Int32)), (4, .int (0 : Int32)), (0, .ref h_this), (1, .int x1), (2, .int x2), (3, .int x3)]) hx hb dX0_opened_4 hl (by decide) rfl (fun ls hl => ?_)
  refine lv_iconst (v := (1 : Int32)) hx hb dX0_opened_6 (by decide) ?_
  refine lv_istore (lv' := [(6, .int (1 : Int32)), (5, .int (0 : Int32)), (4, .int (0 : Int32)), (0, .ref h_this), (1, .int x1), (2, .int x2), (3, .int x3)]) hx hb dX0_opened_7 hl (by decide) rfl (fun ls hl => ?_)
  exact k_9 N (0 : Int32) (0 : Int32) (1 : Int32) _ _ _ hF hP hD hS (lv_sub hl [3, 4, 5, 6, 2, 1, 0] rfl)
abbrev O_X1_beginAnew : Type := Int32 × Int32 × Int32 × Int32
def f_X1_beginAnew (N : Nat) (v_now : Int32) (v_taken : Int32) (v_handsTaken : Int32) (v_secretIsOut : Int32) : Option O_X1_beginAnew :=
  some ((0 : Int32), (0 : Int32), (0 : Int32), (0 : Int32))
set_option maxHeartbeats 4000000 in
set_option maxRecDepth 100000 in
theorem t_X1_beginAnew (l : Launch) (dC : Nat → ClassId) (dI : Nat → Nat → Nat) (h_this : Nat) (v_now : Int32) (v_taken : Int32) (v_handsTaken : Int32) (v_secretIsOut : Int32) (sz : Nat) (N : Nat) (out : O_X1_beginAnew) (hF : f_X1_beginAnew N v_now v_taken v_handsTaken v_secretIsOut = some out) : gMv l yX1_beginAnew wsX1_beginAnew ({ frames := 0, cells := 0, slots := 0, locals := 0 } : Room) [.ref h_this] (dC, dI) [(h_this, .inr (1, [.int v_now, .int v_taken, .int v_handsTaken, .int v_secretIsOut]))] [] sz [(h_this, .inr (1, [.int out.1, .int out.2.1, .int out.2.2.1, .int out.2.2.2]))] := by
  refine gEv (cc := cX1_beginAnew) (maxL := 1) (by decide) rfl (Nat.le_of_ble_eq_true rfl) ?_
  intro p e s m args below meth c Q A ls CF hK hN hA hret hP hD hS hl
  have hx := CF.1
  have hb := CF.2.1
  have hml := CF.2.2.1
  have hown : s.vm.findClass RX1 = some m.cls := CF.2.2.2.1
  have hts := CF.2.2.2.2
  have hl : lv_has ls 1 [(0, .ref h_this)] := hl
  have in_X1 : ∀ w ∈ wsX10, w ∈ wsX1_beginAnew := fun w h => List.mem_cons_of_mem _ (List.mem_append_right _ h)
  have hL7 : (Cond.fieldLink RX1 7 "DustSums$Months" "now" "I").before args s = true := hts (.fieldLink RX1 7 "DustSums$Months" "now" "I") (List.mem_of_getElem? (i := 1) rfl)
  have hL13 : (Cond.fieldLink RX1 13 "DustSums$Months" "taken" "I").before args s = true := hts (.fieldLink RX1 13 "DustSums$Months" "taken" "I") (List.mem_of_getElem? (i := 2) rfl)
  have hL16 : (Cond.fieldLink RX1 16 "DustSums$Months" "handsTaken" "I").before args s = true := hts (.fieldLink RX1 16 "DustSums$Months" "handsTaken" "I") (List.mem_of_getElem? (i := 3) rfl)
  have hL19 : (Cond.fieldLink RX1 19 "DustSums$Months" "secretIsOut" "Z").before args s = true := hts (.fieldLink RX1 19 "DustSums$Months" "secretIsOut" "Z") (List.mem_of_getElem? (i := 4) rfl)
  unfold f_X1_beginAnew at hF
  refine lv_aload_n hx hb dX1_beginAnew_0 rfl (lv_at hl 0 rfl) ?_
  refine lv_iconst (v := (0 : Int32)) hx hb dX1_beginAnew_1 (by decide) ?_
  refine va_put (D := (dC, dI)) (ci := 1) (v := .int (0 : Int32)) (ty := .int) (C := RX1) (T := TX1) (N := 4) hx hb hts in_X1 tyX1 tyX1_ok nmX1 hown hK hP hD hS 0 rfl rfl 0 (by decide) hL7 (fun _ h9 => h9) rfl (by decide +kernel) rfl rfl (Nat.le_of_ble_eq_true rfl) dX1_beginAnew_2 (fun H locs hP hD hS => ?_)
  have hP : va_P (dC, dI) vwCl [(h_this, .inr (1, [.int (0 : Int32), .int v_taken, .int v_handsTaken, .int v_secretIsOut]))] H := hP
  have hD : va_D A [(h_this, .inr (1, [.int (0 : Int32), .int v_taken, .int v_handsTaken, .int v_secretIsOut]))] := hD
  refine lv_aload_n hx hb dX1_beginAnew_5 rfl (lv_at hl 0 rfl) ?_
  refine lv_iconst (v := (0 : Int32)) hx hb dX1_beginAnew_6 (by decide) ?_
  refine va_put (D := (dC, dI)) (ci := 1) (v := .int (0 : Int32)) (ty := .int) (C := RX1) (T := TX1) (N := 4) hx hb hts in_X1 tyX1 tyX1_ok nmX1 hown hK hP hD hS 0 rfl rfl 1 (by decide) hL13 (fun _ h9 => h9) rfl (by decide +kernel) rfl rfl (Nat.le_of_ble_eq_true rfl) dX1_beginAnew_7 (fun H locs hP hD hS => ?_)
  have hP : va_P (dC, dI) vwCl [(h_this, .inr (1, [.int (0 : Int32), .int (0 : Int32), .int v_handsTaken, .int v_secretIsOut]))] H := hP
  have hD : va_D A [(h_this, .inr (1, [.int (0 : Int32), .int (0 : Int32), .int v_handsTaken, .int v_secretIsOut]))] := hD
  refine lv_aload_n hx hb dX1_beginAnew_10 rfl (lv_at hl 0 rfl) ?_
  refine lv_iconst (v := (0 : Int32)) hx hb dX1_beginAnew_11 (by decide) ?_
  refine va_put (D := (dC, dI)) (ci := 1) (v := .int (0 : Int32)) (ty := .int) (C := RX1) (T := TX1) (N := 4) hx hb hts in_X1 tyX1 tyX1_ok nmX1 hown hK hP hD hS 0 rfl rfl 2 (by decide) hL16 (fun _ h9 => h9) rfl (by decide +kernel) rfl rfl (Nat.le_of_ble_eq_true rfl) dX1_beginAnew_12 (fun H locs hP hD hS => ?_)
  have hP : va_P (dC, dI) vwCl [(h_this, .inr (1, [.int (0 : Int32), .int (0 : Int32), .int (0 : Int32), .int v_secretIsOut]))] H := hP
  have hD : va_D A [(h_this, .inr (1, [.int (0 : Int32), .int (0 : Int32), .int (0 : Int32), .int v_secretIsOut]))] := hD
  refine lv_aload_n hx hb dX1_beginAnew_15 rfl (lv_at hl 0 rfl) ?_
  refine lv_iconst (v := (0 : Int32)) hx hb dX1_beginAnew_16 (by decide) ?_
  refine va_put (D := (dC, dI)) (ci := 1) (v := .int (0 : Int32)) (ty := .boolean) (C := RX1) (T := TX1) (N := 4) hx hb hts in_X1 tyX1 tyX1_ok nmX1 hown hK hP hD hS 0 rfl rfl 3 (by decide) hL19 (fun _ h9 => h9) rfl (by decide +kernel) rfl rfl (Nat.le_of_ble_eq_true rfl) dX1_beginAnew_17 (fun H locs hP hD hS => ?_)
  have hP : va_P (dC, dI) vwCl [(h_this, .inr (1, [.int (0 : Int32), .int (0 : Int32), .int (0 : Int32), .int (0 : Int32)]))] H := hP
  have hD : va_D A [(h_this, .inr (1, [.int (0 : Int32), .int (0 : Int32), .int (0 : Int32), .int (0 : Int32)]))] := hD
  have hF := Option.some.inj hF
  subst hF
  exact hret _ _ _ _ dX1_beginAnew_20 hP hD hS
abbrev O_X1_goOn : Type := Int32 × Int32
def f_X1_goOn (N : Nat) (x1 : Int32) (v_now : Int32) (v_handsTaken : Int32) : Option O_X1_goOn :=
  if x1 = 0 then (some ((v_now + (1 : Int32)), v_handsTaken)) else (some ((v_now + (1 : Int32)), (0 : Int32)))
set_option maxHeartbeats 4000000 in
set_option maxRecDepth 100000 in
theorem t_X1_goOn (l : Launch) (dC : Nat → ClassId) (dI : Nat → Nat → Nat) (h_this : Nat) (v_now : Int32) (v_taken : Int32) (v_handsTaken : Int32) (v_secretIsOut : Int32) (sz : Nat) (x1 : Int32) (N : Nat) (out : O_X1_goOn) (hF : f_X1_goOn N x1 v_now v_handsTaken = some out) : gMv l yX1_goOn wsX1_goOn ({ frames := 0, cells := 0, slots := 0, locals := 0 } : Room) [.ref h_this, .int x1] (dC, dI) [(h_this, .inr (1, [.int v_now, .int v_taken, .int v_handsTaken, .int v_secretIsOut]))] [] sz [(h_this, .inr (1, [.int out.1, .int v_taken, .int out.2, .int v_secretIsOut]))] := by
  refine gEv (cc := cX1_goOn) (maxL := 2) (by decide) rfl (Nat.le_of_ble_eq_true rfl) ?_
  intro p e s m args below meth c Q A ls CF hK hN hA hret hP hD hS hl
  have hx := CF.1
  have hb := CF.2.1
  have hml := CF.2.2.1
  have hown : s.vm.findClass RX1 = some m.cls := CF.2.2.2.1
  have hts := CF.2.2.2.2
  have hl : lv_has ls 2 [(0, .ref h_this), (1, .int x1)] := hl
  have in_X1 : ∀ w ∈ wsX10, w ∈ wsX1_goOn := fun w h => List.mem_cons_of_mem _ (List.mem_append_right _ h)
  have hL7 : (Cond.fieldLink RX1 7 "DustSums$Months" "now" "I").before args s = true := hts (.fieldLink RX1 7 "DustSums$Months" "now" "I") (List.mem_of_getElem? (i := 1) rfl)
  have hL16 : (Cond.fieldLink RX1 16 "DustSums$Months" "handsTaken" "I").before args s = true := hts (.fieldLink RX1 16 "DustSums$Months" "handsTaken" "I") (List.mem_of_getElem? (i := 2) rfl)
  unfold f_X1_goOn at hF
  refine lv_aload_n hx hb dX1_goOn_0 rfl (lv_at hl 0 rfl) ?_
  refine lv_dup hx hb dX1_goOn_1 rfl ?_
  refine va_get (D := (dC, dI)) (ci := 1) (v := .int v_now) (C := RX1) (T := TX1) (N := 4) hx hb hts in_X1 hown hK hP 0 rfl rfl 0 (by decide) hL7 (fun _ h9 => h9) rfl dX1_goOn_2 ?_
  refine lv_iconst (v := (1 : Int32)) hx hb dX1_goOn_5 (by decide) ?_
  refine lv_iadd hx hb dX1_goOn_6 ?_
  refine va_put (D := (dC, dI)) (ci := 1) (v := .int (v_now + (1 : Int32))) (ty := .int) (C := RX1) (T := TX1) (N := 4) hx hb hts in_X1 tyX1 tyX1_ok nmX1 hown hK hP hD hS 0 rfl rfl 0 (by decide) hL7 (fun _ h9 => h9) rfl (by decide +kernel) rfl rfl (Nat.le_of_ble_eq_true rfl) dX1_goOn_7 (fun H locs hP hD hS => ?_)
  have hP : va_P (dC, dI) vwCl [(h_this, .inr (1, [.int (v_now + (1 : Int32)), .int v_taken, .int v_handsTaken, .int v_secretIsOut]))] H := hP
  have hD : va_D A [(h_this, .inr (1, [.int (v_now + (1 : Int32)), .int v_taken, .int v_handsTaken, .int v_secretIsOut]))] := hD
  refine lv_iload_n hx hb dX1_goOn_10 rfl (lv_at hl 1 rfl) ?_
  refine lv_if_eq (tgt := 19) hx hb dX1_goOn_11 (by decide) (fun c_11 => ?_) (fun c_11 => ?_)
  · have hF := gi_t c_11 hF
    have hF := Option.some.inj hF
    subst hF
    exact hret _ _ _ _ dX1_goOn_19 hP hD hS
  · have hF := gi_f c_11 hF
    refine lv_aload_n hx hb dX1_goOn_14 rfl (lv_at hl 0 rfl) ?_
    refine lv_iconst (v := (0 : Int32)) hx hb dX1_goOn_15 (by decide) ?_
    refine va_put (D := (dC, dI)) (ci := 1) (v := .int (0 : Int32)) (ty := .int) (C := RX1) (T := TX1) (N := 4) hx hb hts in_X1 tyX1 tyX1_ok nmX1 hown hK hP hD hS 0 rfl rfl 2 (by decide) hL16 (fun _ h9 => h9) rfl (by decide +kernel) rfl rfl (Nat.le_of_ble_eq_true rfl) dX1_goOn_16 (fun H locs hP hD hS => ?_)
    have hP : va_P (dC, dI) vwCl [(h_this, .inr (1, [.int (v_now + (1 : Int32)), .int v_taken, .int (0 : Int32), .int v_secretIsOut]))] H := hP
    have hD : va_D A [(h_this, .inr (1, [.int (v_now + (1 : Int32)), .int v_taken, .int (0 : Int32), .int v_secretIsOut]))] := hD
    have hF := Option.some.inj hF
    subst hF
    exact hret _ _ _ _ dX1_goOn_19 hP hD hS
abbrev O_X1_losePoint : Type := Int32 × Int32 × Int32
def f_X1_losePoint (N : Nat) (x1 : Int32) (x2 : Int32) (v_taken : Int32) (v_handsTaken : Int32) (v_secretIsOut : Int32) : Option O_X1_losePoint :=
  (f_J6_bitCount_0f7a4 N (v_handsTaken ||| ((1 : Int32) <<< (x1 &&& 31)))).bind (fun z_26 => if z_26 ≤ x2 then (some ((v_taken + (1 : Int32)), (v_handsTaken ||| ((1 : Int32) <<< (x1 &&& 31))), v_secretIsOut)) else (some ((v_taken + (1 : Int32)), (v_handsTaken ||| ((1 : Int32) <<< (x1 &&& 31))), (1 : Int32))))
set_option maxHeartbeats 4000000 in
set_option maxRecDepth 100000 in
theorem t_X1_losePoint (l : Launch) (dC : Nat → ClassId) (dI : Nat → Nat → Nat) (h_this : Nat) (v_now : Int32) (v_taken : Int32) (v_handsTaken : Int32) (v_secretIsOut : Int32) (sz : Nat) (x1 : Int32) (x2 : Int32) (N : Nat) (out : O_X1_losePoint) (hF : f_X1_losePoint N x1 x2 v_taken v_handsTaken v_secretIsOut = some out) : gMv l yX1_losePoint wsX1_losePoint ({ frames := 1, cells := 0, slots := 0, locals := 20 } : Room) [.ref h_this, .int x1, .int x2] (dC, dI) [(h_this, .inr (1, [.int v_now, .int v_taken, .int v_handsTaken, .int v_secretIsOut]))] [] sz [(h_this, .inr (1, [.int v_now, .int out.1, .int out.2.1, .int out.2.2]))] := by
  refine gEv (cc := cX1_losePoint) (maxL := 3) (by decide) rfl (Nat.le_of_ble_eq_true rfl) ?_
  intro p e s m args below meth c Q A ls CF hK hN hA hret hP hD hS hl
  have hx := CF.1
  have hb := CF.2.1
  have hml := CF.2.2.1
  have hown : s.vm.findClass RX1 = some m.cls := CF.2.2.2.1
  have hts := CF.2.2.2.2
  have hl : lv_has ls 3 [(0, .ref h_this), (1, .int x1), (2, .int x2)] := hl
  have in_X1 : ∀ w ∈ wsX10, w ∈ wsX1_losePoint := fun w h => List.mem_cons_of_mem _ (List.mem_append_right _ h)
  have hL13 : (Cond.fieldLink RX1 13 "DustSums$Months" "taken" "I").before args s = true := hts (.fieldLink RX1 13 "DustSums$Months" "taken" "I") (List.mem_of_getElem? (i := 1) rfl)
  have hL16 : (Cond.fieldLink RX1 16 "DustSums$Months" "handsTaken" "I").before args s = true := hts (.fieldLink RX1 16 "DustSums$Months" "handsTaken" "I") (List.mem_of_getElem? (i := 2) rfl)
  have cw23 : CallB ({ frames := 1, cells := 0, slots := 0, locals := 20 } : Room) s args RX1 23 yJ6_bitCount_0f7a4 cJ6_bitCount_0f7a4 1 (some .int) wsJ6_bitCount_0f7a4 ({ frames := 0, cells := 0, slots := 0, locals := 0 } : Room) 0 0 1 ∧ (Cond.static yJ6_bitCount_0f7a4).before args s = true := va_cwS 1 hts gX1_losePoint_J6_bitCount_0f7a4 rfl rfl rfl (by decide +kernel) ⟨Nat.le_of_ble_eq_true rfl, Nat.le_of_ble_eq_true rfl⟩
  have hL19 : (Cond.fieldLink RX1 19 "DustSums$Months" "secretIsOut" "Z").before args s = true := hts (.fieldLink RX1 19 "DustSums$Months" "secretIsOut" "Z") (List.mem_of_getElem? (i := 3) rfl)
  unfold f_X1_losePoint at hF
  refine lv_aload_n hx hb dX1_losePoint_0 rfl (lv_at hl 0 rfl) ?_
  refine lv_dup hx hb dX1_losePoint_1 rfl ?_
  refine va_get (D := (dC, dI)) (ci := 1) (v := .int v_taken) (C := RX1) (T := TX1) (N := 4) hx hb hts in_X1 hown hK hP 0 rfl rfl 1 (by decide) hL13 (fun _ h9 => h9) rfl dX1_losePoint_2 ?_
  refine lv_iconst (v := (1 : Int32)) hx hb dX1_losePoint_5 (by decide) ?_
  refine lv_iadd hx hb dX1_losePoint_6 ?_
  refine va_put (D := (dC, dI)) (ci := 1) (v := .int (v_taken + (1 : Int32))) (ty := .int) (C := RX1) (T := TX1) (N := 4) hx hb hts in_X1 tyX1 tyX1_ok nmX1 hown hK hP hD hS 0 rfl rfl 1 (by decide) hL13 (fun _ h9 => h9) rfl (by decide +kernel) rfl rfl (Nat.le_of_ble_eq_true rfl) dX1_losePoint_7 (fun H locs hP hD hS => ?_)
  have hP : va_P (dC, dI) vwCl [(h_this, .inr (1, [.int v_now, .int (v_taken + (1 : Int32)), .int v_handsTaken, .int v_secretIsOut]))] H := hP
  have hD : va_D A [(h_this, .inr (1, [.int v_now, .int (v_taken + (1 : Int32)), .int v_handsTaken, .int v_secretIsOut]))] := hD
  refine lv_aload_n hx hb dX1_losePoint_10 rfl (lv_at hl 0 rfl) ?_
  refine lv_dup hx hb dX1_losePoint_11 rfl ?_
  refine va_get (D := (dC, dI)) (ci := 1) (v := .int v_handsTaken) (C := RX1) (T := TX1) (N := 4) hx hb hts in_X1 hown hK hP 0 rfl rfl 2 (by decide) hL16 (fun _ h9 => h9) rfl dX1_losePoint_12 ?_
  refine lv_iconst (v := (1 : Int32)) hx hb dX1_losePoint_15 (by decide) ?_
  refine lv_iload_n hx hb dX1_losePoint_16 rfl (lv_at hl 1 rfl) ?_
  refine lv_ishl hx hb dX1_losePoint_17 ?_
  refine lv_ior hx hb dX1_losePoint_18 ?_
  refine va_put (D := (dC, dI)) (ci := 1) (v := .int (v_handsTaken ||| ((1 : Int32) <<< (x1 &&& 31)))) (ty := .int) (C := RX1) (T := TX1) (N := 4) hx hb hts in_X1 tyX1 tyX1_ok nmX1 hown hK hP hD hS 0 rfl rfl 2 (by decide) hL16 (fun _ h9 => h9) rfl (by decide +kernel) rfl rfl (Nat.le_of_ble_eq_true rfl) dX1_losePoint_19 (fun H locs hP hD hS => ?_)
  have hP : va_P (dC, dI) vwCl [(h_this, .inr (1, [.int v_now, .int (v_taken + (1 : Int32)), .int (v_handsTaken ||| ((1 : Int32) <<< (x1 &&& 31))), .int v_secretIsOut]))] H := hP
  have hD : va_D A [(h_this, .inr (1, [.int v_now, .int (v_taken + (1 : Int32)), .int (v_handsTaken ||| ((1 : Int32) <<< (x1 &&& 31))), .int v_secretIsOut]))] := hD
  refine lv_aload_n hx hb dX1_losePoint_22 rfl (lv_at hl 0 rfl) ?_
  refine va_get (D := (dC, dI)) (ci := 1) (v := .int (v_handsTaken ||| ((1 : Int32) <<< (x1 &&& 31)))) (C := RX1) (T := TX1) (N := 4) hx hb hts in_X1 hown hK hP 0 rfl rfl 2 (by decide) hL16 (fun _ h9 => h9) rfl dX1_losePoint_23 ?_
  obtain ⟨z_26, hz_26, hF⟩ := gi_bind hF
  refine gRi (wc := []) (wr := [(h_this, .inr (1, [.int v_now, .int (v_taken + (1 : Int32)), .int (v_handsTaken ||| ((1 : Int32) <<< (x1 &&& 31))), .int v_secretIsOut]))]) (w1 := []) hP hD hS hA [] [0] rfl rfl (by decide) (by decide) (va_runS (As := [.int (v_handsTaken ||| ((1 : Int32) <<< (x1 &&& 31)))]) (rest := []) CF (t_J6_bitCount_0f7a4 l dC dI H.size (v_handsTaken ||| ((1 : Int32) <<< (x1 &&& 31))) N z_26 hz_26) cw23 (gPS hP hD hK hN [] [] (by decide) rfl rfl) rfl rfl hl.1 rfl (lv_room (Nat.le_of_ble_eq_true rfl)) dX1_losePoint_26 ⟨Nat.zero_le _, Nat.zero_le _⟩) (fun H locs hP hD hS => ?_)
  have hP : va_P (dC, dI) vwCl [(h_this, .inr (1, [.int v_now, .int (v_taken + (1 : Int32)), .int (v_handsTaken ||| ((1 : Int32) <<< (x1 &&& 31))), .int v_secretIsOut]))] H := hP
  have hD : va_D A [(h_this, .inr (1, [.int v_now, .int (v_taken + (1 : Int32)), .int (v_handsTaken ||| ((1 : Int32) <<< (x1 &&& 31))), .int v_secretIsOut]))] := hD
  refine lv_iload_n hx hb dX1_losePoint_29 rfl (lv_at hl 2 rfl) ?_
  refine lv_icmp_le (tgt := 38) hx hb dX1_losePoint_30 (by decide) (fun c_30 => ?_) (fun c_30 => ?_)
  · have hF := gi_t c_30 hF
    have hF := Option.some.inj hF
    subst hF
    exact hret _ _ _ _ dX1_losePoint_38 hP hD hS
  · have hF := gi_f c_30 hF
    refine lv_aload_n hx hb dX1_losePoint_33 rfl (lv_at hl 0 rfl) ?_
    refine lv_iconst (v := (1 : Int32)) hx hb dX1_losePoint_34 (by decide) ?_
    refine va_put (D := (dC, dI)) (ci := 1) (v := .int (1 : Int32)) (ty := .boolean) (C := RX1) (T := TX1) (N := 4) hx hb hts in_X1 tyX1 tyX1_ok nmX1 hown hK hP hD hS 0 rfl rfl 3 (by decide) hL19 (fun _ h9 => h9) rfl (by decide +kernel) rfl rfl (Nat.le_of_ble_eq_true rfl) dX1_losePoint_35 (fun H locs hP hD hS => ?_)
    have hP : va_P (dC, dI) vwCl [(h_this, .inr (1, [.int v_now, .int (v_taken + (1 : Int32)), .int (v_handsTaken ||| ((1 : Int32) <<< (x1 &&& 31))), .int (1 : Int32)]))] H := hP
    have hD : va_D A [(h_this, .inr (1, [.int v_now, .int (v_taken + (1 : Int32)), .int (v_handsTaken ||| ((1 : Int32) <<< (x1 &&& 31))), .int (1 : Int32)]))] := hD
    have hF := Option.some.inj hF
    subst hF
    exact hret _ _ _ _ dX1_losePoint_38 hP hD hS
abbrev O_X1_safeHands : Type := Int32
def f_X1_safeHands (N : Nat) (v_handsTaken : Int32) (v_secretIsOut : Int32) (x1 : Int32) : Option O_X1_safeHands :=
  if v_secretIsOut = 0 then ((f_J6_bitCount_0f7a4 N v_handsTaken).bind (fun z_16 => some ((x1 - z_16)))) else (some ((0 : Int32)))
set_option maxHeartbeats 4000000 in
set_option maxRecDepth 100000 in
theorem t_X1_safeHands (l : Launch) (dC : Nat → ClassId) (dI : Nat → Nat → Nat) (h_this : Nat) (v_now : Int32) (v_taken : Int32) (v_handsTaken : Int32) (v_secretIsOut : Int32) (sz : Nat) (x1 : Int32) (N : Nat) (out : O_X1_safeHands) (hF : f_X1_safeHands N v_handsTaken v_secretIsOut x1 = some out) : gMi l yX1_safeHands wsX1_safeHands ({ frames := 1, cells := 0, slots := 0, locals := 20 } : Room) [.ref h_this, .int x1] (dC, dI) [(h_this, .inr (1, [.int v_now, .int v_taken, .int v_handsTaken, .int v_secretIsOut]))] [] sz [(h_this, .inr (1, [.int v_now, .int v_taken, .int v_handsTaken, .int v_secretIsOut]))] out := by
  refine gEi (cc := cX1_safeHands) (maxL := 2) (by decide) rfl (Nat.le_of_ble_eq_true rfl) ?_
  intro p e s m args below meth c Q A ls CF hK hN hA hret hP hD hS hl
  have hx := CF.1
  have hb := CF.2.1
  have hml := CF.2.2.1
  have hown : s.vm.findClass RX1 = some m.cls := CF.2.2.2.1
  have hts := CF.2.2.2.2
  have hl : lv_has ls 2 [(0, .ref h_this), (1, .int x1)] := hl
  have in_X1 : ∀ w ∈ wsX10, w ∈ wsX1_safeHands := fun w h => List.mem_cons_of_mem _ (List.mem_append_right _ h)
  have hL19 : (Cond.fieldLink RX1 19 "DustSums$Months" "secretIsOut" "Z").before args s = true := hts (.fieldLink RX1 19 "DustSums$Months" "secretIsOut" "Z") (List.mem_of_getElem? (i := 1) rfl)
  have hL16 : (Cond.fieldLink RX1 16 "DustSums$Months" "handsTaken" "I").before args s = true := hts (.fieldLink RX1 16 "DustSums$Months" "handsTaken" "I") (List.mem_of_getElem? (i := 2) rfl)
  have cw23 : CallB ({ frames := 1, cells := 0, slots := 0, locals := 20 } : Room) s args RX1 23 yJ6_bitCount_0f7a4 cJ6_bitCount_0f7a4 1 (some .int) wsJ6_bitCount_0f7a4 ({ frames := 0, cells := 0, slots := 0, locals := 0 } : Room) 0 0 1 ∧ (Cond.static yJ6_bitCount_0f7a4).before args s = true := va_cwS 1 hts gX1_safeHands_J6_bitCount_0f7a4 rfl rfl rfl (by decide +kernel) ⟨Nat.le_of_ble_eq_true rfl, Nat.le_of_ble_eq_true rfl⟩
  unfold f_X1_safeHands at hF
  refine lv_aload_n hx hb dX1_safeHands_0 rfl (lv_at hl 0 rfl) ?_
  refine va_get (D := (dC, dI)) (ci := 1) (v := .int v_secretIsOut) (C := RX1) (T := TX1) (N := 4) hx hb hts in_X1 hown hK hP 0 rfl rfl 3 (by decide) hL19 (fun _ h9 => h9) rfl dX1_safeHands_1 ?_
  refine lv_if_eq (tgt := 11) hx hb dX1_safeHands_4 (by decide) (fun c_4 => ?_) (fun c_4 => ?_)
  · have hF := gi_t c_4 hF
    refine lv_iload_n hx hb dX1_safeHands_11 rfl (lv_at hl 1 rfl) ?_
    refine lv_aload_n hx hb dX1_safeHands_12 rfl (lv_at hl 0 rfl) ?_
    refine va_get (D := (dC, dI)) (ci := 1) (v := .int v_handsTaken) (C := RX1) (T := TX1) (N := 4) hx hb hts in_X1 hown hK hP 0 rfl rfl 2 (by decide) hL16 (fun _ h9 => h9) rfl dX1_safeHands_13 ?_
    obtain ⟨z_16, hz_16, hF⟩ := gi_bind hF
    refine gRi (wc := []) (wr := [(h_this, .inr (1, [.int v_now, .int v_taken, .int v_handsTaken, .int v_secretIsOut]))]) (w1 := []) hP hD hS hA [] [0] rfl rfl (by decide) (by decide) (va_runS (As := [.int v_handsTaken]) (rest := [.int x1]) CF (t_J6_bitCount_0f7a4 l dC dI s.heap.size v_handsTaken N z_16 hz_16) cw23 (gPS hP hD hK hN [] [] (by decide) rfl rfl) rfl rfl hl.1 rfl (lv_room (Nat.le_of_ble_eq_true rfl)) dX1_safeHands_16 ⟨Nat.zero_le _, Nat.zero_le _⟩) (fun H locs hP hD hS => ?_)
    have hP : va_P (dC, dI) vwCl [(h_this, .inr (1, [.int v_now, .int v_taken, .int v_handsTaken, .int v_secretIsOut]))] H := hP
    have hD : va_D A [(h_this, .inr (1, [.int v_now, .int v_taken, .int v_handsTaken, .int v_secretIsOut]))] := hD
    refine lv_isub hx hb dX1_safeHands_19 ?_
    have hF := Option.some.inj hF
    subst hF
    exact hret _ _ _ _ dX1_safeHands_20 hP hD hS
  · have hF := gi_f c_4 hF
    refine lv_iconst (v := (0 : Int32)) hx hb dX1_safeHands_7 (by decide) ?_
    refine lv_goto (tgt := 20) hx hb dX1_safeHands_8 (by decide) ?_
    have hF := Option.some.inj hF
    subst hF
    exact hret _ _ _ _ dX1_safeHands_20 hP hD hS
abbrev O_X7_take : Type := Int32 × (Nat → Int32)
def f_X7_take (N : Nat) (x1 : Int32) (v_length : Int32) (v_bytes : Nat → Int32) : Option O_X7_take :=
  if v_length < 0 then (some (v_length, v_bytes)) else (if v_length < (300 : Int32) then (if gin v_length 300 = true then some ((v_length + (1 : Int32)), (upd v_bytes v_length.toNatClampNeg (vp_nar .byte ((x1).toInt8.toInt32)))) else none) else (some (v_length, v_bytes)))
set_option maxHeartbeats 4000000 in
set_option maxRecDepth 100000 in
theorem t_X7_take (l : Launch) (dC : Nat → ClassId) (dI : Nat → Nat → Nat) (h_this : Nat) (h_bytes : Nat) (v_length : Int32) (k_bytes : ClassId) (v_bytes : Nat → Int32) (sz : Nat) (x1 : Int32) (N : Nat) (out : O_X7_take) (hF : f_X7_take N x1 v_length v_bytes = some out) : gMv l yX7_take wsX7_take ({ frames := 0, cells := 0, slots := 0, locals := 0 } : Room) [.ref h_this, .int x1] (dC, dI) [(h_this, .inr (7, [.ref h_bytes, .int v_length])), (h_bytes, .inl (k_bytes, 300, .inl v_bytes))] [(k_bytes, .byte)] sz [(h_this, .inr (7, [.ref h_bytes, .int out.1])), (h_bytes, .inl (k_bytes, 300, .inl out.2))] := by
  refine gEv (cc := cX7_take) (maxL := 2) (by decide) rfl (Nat.le_of_ble_eq_true rfl) ?_
  intro p e s m args below meth c Q A ls CF hK hN hA hret hP hD hS hl
  have hx := CF.1
  have hb := CF.2.1
  have hml := CF.2.2.1
  have hown : s.vm.findClass RX7 = some m.cls := CF.2.2.2.1
  have hts := CF.2.2.2.2
  have hl : lv_has ls 2 [(0, .ref h_this), (1, .int x1)] := hl
  have in_X7 : ∀ w ∈ wsX70, w ∈ wsX7_take := fun w h => List.mem_cons_of_mem _ (List.mem_append_right _ h)
  have hL15 : (Cond.fieldLink RX7 15 "DustSums$Text" "length" "I").before args s = true := hts (.fieldLink RX7 15 "DustSums$Text" "length" "I") (List.mem_of_getElem? (i := 1) rfl)
  have hL9 : (Cond.fieldLink RX7 9 "DustSums$Text" "bytes" "[B").before args s = true := hts (.fieldLink RX7 9 "DustSums$Text" "bytes" "[B") (List.mem_of_getElem? (i := 2) rfl)
  unfold f_X7_take at hF
  refine lv_aload_n hx hb dX7_take_0 rfl (lv_at hl 0 rfl) ?_
  refine va_get (D := (dC, dI)) (ci := 7) (v := .int v_length) (C := RX7) (T := TX7) (N := 2) hx hb hts in_X7 hown hK hP 0 rfl rfl 1 (by decide) hL15 (fun _ h9 => h9) rfl dX7_take_1 ?_
  refine lv_if_lt (tgt := 19) hx hb dX7_take_4 (by decide) (fun c_4 => ?_) (fun c_4 => ?_)
  · have hF := gi_t c_4 hF
    have hF := Option.some.inj hF
    subst hF
    exact hret _ _ _ _ dX7_take_19 hP hD hS
  · have hF := gi_f c_4 hF
    refine lv_aload_n hx hb dX7_take_7 rfl (lv_at hl 0 rfl) ?_
    refine va_get (D := (dC, dI)) (ci := 7) (v := .int v_length) (C := RX7) (T := TX7) (N := 2) hx hb hts in_X7 hown hK hP 0 rfl rfl 1 (by decide) hL15 (fun _ h9 => h9) rfl dX7_take_8 ?_
    refine lv_aload_n hx hb dX7_take_11 rfl (lv_at hl 0 rfl) ?_
    refine va_get (D := (dC, dI)) (ci := 7) (v := .ref h_bytes) (C := RX7) (T := TX7) (N := 2) hx hb hts in_X7 hown hK hP 0 rfl rfl 0 (by decide) hL9 (fun _ h9 => h9) rfl dX7_take_12 ?_
    refine va_alen (v := (300 : Int32)) hx hb hK hP 1 0 rfl rfl rfl dX7_take_15 ?_
    refine lv_icmp_lt (tgt := 20) hx hb dX7_take_16 (by decide) (fun c_16 => ?_) (fun c_16 => ?_)
    · have hF := gi_t c_16 hF
      refine lv_aload_n hx hb dX7_take_20 rfl (lv_at hl 0 rfl) ?_
      refine va_get (D := (dC, dI)) (ci := 7) (v := .ref h_bytes) (C := RX7) (T := TX7) (N := 2) hx hb hts in_X7 hown hK hP 0 rfl rfl 0 (by decide) hL9 (fun _ h9 => h9) rfl dX7_take_21 ?_
      refine lv_aload_n hx hb dX7_take_24 rfl (lv_at hl 0 rfl) ?_
      refine va_get (D := (dC, dI)) (ci := 7) (v := .int v_length) (C := RX7) (T := TX7) (N := 2) hx hb hts in_X7 hown hK hP 0 rfl rfl 1 (by decide) hL15 (fun _ h9 => h9) rfl dX7_take_25 ?_
      refine lv_iload_n hx hb dX7_take_28 rfl (lv_at hl 1 rfl) ?_
      refine lv_i2b (v := (x1).toInt8.toInt32) hx hb dX7_take_29 rfl ?_
      obtain ⟨hi_30, hF⟩ := gi_in hF
      refine va_bast hx hb hK hP hD hS 1 0 rfl rfl hi_30 dX7_take_30 (fun H locs hP hD hS => ?_)
      have hP : va_P (dC, dI) vwCl [(h_this, .inr (7, [.ref h_bytes, .int v_length])), (h_bytes, .inl (k_bytes, 300, .inl (upd v_bytes v_length.toNatClampNeg (vp_nar .byte ((x1).toInt8.toInt32)))))] H := hP
      have hD : va_D A [(h_this, .inr (7, [.ref h_bytes, .int v_length])), (h_bytes, .inl (k_bytes, 300, .inl (upd v_bytes v_length.toNatClampNeg (vp_nar .byte ((x1).toInt8.toInt32)))))] := hD
      refine lv_aload_n hx hb dX7_take_31 rfl (lv_at hl 0 rfl) ?_
      refine lv_dup hx hb dX7_take_32 rfl ?_
      refine va_get (D := (dC, dI)) (ci := 7) (v := .int v_length) (C := RX7) (T := TX7) (N := 2) hx hb hts in_X7 hown hK hP 0 rfl rfl 1 (by decide) hL15 (fun _ h9 => h9) rfl dX7_take_33 ?_
      refine lv_iconst (v := (1 : Int32)) hx hb dX7_take_36 (by decide) ?_
      refine lv_iadd hx hb dX7_take_37 ?_
      refine va_put (D := (dC, dI)) (ci := 7) (v := .int (v_length + (1 : Int32))) (ty := .int) (C := RX7) (T := TX7) (N := 2) hx hb hts in_X7 tyX7 tyX7_ok nmX7 hown hK hP hD hS 0 rfl rfl 1 (by decide) hL15 (fun _ h9 => h9) rfl (by decide +kernel) rfl rfl (Nat.le_of_ble_eq_true rfl) dX7_take_38 (fun H locs hP hD hS => ?_)
      have hP : va_P (dC, dI) vwCl [(h_this, .inr (7, [.ref h_bytes, .int (v_length + (1 : Int32))])), (h_bytes, .inl (k_bytes, 300, .inl (upd v_bytes v_length.toNatClampNeg (vp_nar .byte ((x1).toInt8.toInt32)))))] H := hP
      have hD : va_D A [(h_this, .inr (7, [.ref h_bytes, .int (v_length + (1 : Int32))])), (h_bytes, .inl (k_bytes, 300, .inl (upd v_bytes v_length.toNatClampNeg (vp_nar .byte ((x1).toInt8.toInt32)))))] := hD
      have hF := Option.some.inj hF
      subst hF
      exact hret _ _ _ _ dX7_take_41 hP hD hS
    · have hF := gi_f c_16 hF
      have hF := Option.some.inj hF
      subst hF
      exact hret _ _ _ _ dX7_take_19 hP hD hS
abbrev O_X7_byteAt : Type := Int32
def f_X7_byteAt (N : Nat) (v_length : Int32) (v_bytes : Nat → Int32) (x1 : Int32) : Option O_X7_byteAt :=
  if x1 < 0 then (some ((-1 : Int32))) else (if v_length ≤ x1 then (some ((-1 : Int32))) else (if x1 < (300 : Int32) then (if gin x1 300 = true then some (((v_bytes x1.toNatClampNeg) &&& (255 : Int32))) else none) else (some ((-1 : Int32)))))
set_option maxHeartbeats 4000000 in
set_option maxRecDepth 100000 in
theorem t_X7_byteAt (l : Launch) (dC : Nat → ClassId) (dI : Nat → Nat → Nat) (h_this : Nat) (h_bytes : Nat) (v_length : Int32) (k_bytes : ClassId) (v_bytes : Nat → Int32) (sz : Nat) (x1 : Int32) (N : Nat) (out : O_X7_byteAt) (hF : f_X7_byteAt N v_length v_bytes x1 = some out) : gMi l yX7_byteAt wsX7_byteAt ({ frames := 0, cells := 0, slots := 0, locals := 0 } : Room) [.ref h_this, .int x1] (dC, dI) [(h_this, .inr (7, [.ref h_bytes, .int v_length])), (h_bytes, .inl (k_bytes, 300, .inl v_bytes))] [(k_bytes, .byte)] sz [(h_this, .inr (7, [.ref h_bytes, .int v_length])), (h_bytes, .inl (k_bytes, 300, .inl v_bytes))] out := by
  refine gEi (cc := cX7_byteAt) (maxL := 2) (by decide) rfl (Nat.le_of_ble_eq_true rfl) ?_
  intro p e s m args below meth c Q A ls CF hK hN hA hret hP hD hS hl
  have hx := CF.1
  have hb := CF.2.1
  have hml := CF.2.2.1
  have hown : s.vm.findClass RX7 = some m.cls := CF.2.2.2.1
  have hts := CF.2.2.2.2
  have hl : lv_has ls 2 [(0, .ref h_this), (1, .int x1)] := hl
  have in_X7 : ∀ w ∈ wsX70, w ∈ wsX7_byteAt := fun w h => List.mem_cons_of_mem _ (List.mem_append_right _ h)
  have hL15 : (Cond.fieldLink RX7 15 "DustSums$Text" "length" "I").before args s = true := hts (.fieldLink RX7 15 "DustSums$Text" "length" "I") (List.mem_of_getElem? (i := 1) rfl)
  have hL9 : (Cond.fieldLink RX7 9 "DustSums$Text" "bytes" "[B").before args s = true := hts (.fieldLink RX7 9 "DustSums$Text" "bytes" "[B") (List.mem_of_getElem? (i := 2) rfl)
  unfold f_X7_byteAt at hF
  refine lv_iload_n hx hb dX7_byteAt_0 rfl (lv_at hl 1 rfl) ?_
  refine lv_if_lt (tgt := 21) hx hb dX7_byteAt_1 (by decide) (fun c_1 => ?_) (fun c_1 => ?_)
  · have hF := gi_t c_1 hF
    refine lv_iconst (v := (-1 : Int32)) hx hb dX7_byteAt_21 (by decide) ?_
    have hF := Option.some.inj hF
    subst hF
    exact hret _ _ _ _ dX7_byteAt_22 hP hD hS
  · have hF := gi_f c_1 hF
    refine lv_iload_n hx hb dX7_byteAt_4 rfl (lv_at hl 1 rfl) ?_
    refine lv_aload_n hx hb dX7_byteAt_5 rfl (lv_at hl 0 rfl) ?_
    refine va_get (D := (dC, dI)) (ci := 7) (v := .int v_length) (C := RX7) (T := TX7) (N := 2) hx hb hts in_X7 hown hK hP 0 rfl rfl 1 (by decide) hL15 (fun _ h9 => h9) rfl dX7_byteAt_6 ?_
    refine lv_icmp_ge (tgt := 21) hx hb dX7_byteAt_9 (by decide) (fun c_9 => ?_) (fun c_9 => ?_)
    · have hF := gi_t c_9 hF
      refine lv_iconst (v := (-1 : Int32)) hx hb dX7_byteAt_21 (by decide) ?_
      have hF := Option.some.inj hF
      subst hF
      exact hret _ _ _ _ dX7_byteAt_22 hP hD hS
    · have hF := gi_f c_9 hF
      refine lv_iload_n hx hb dX7_byteAt_12 rfl (lv_at hl 1 rfl) ?_
      refine lv_aload_n hx hb dX7_byteAt_13 rfl (lv_at hl 0 rfl) ?_
      refine va_get (D := (dC, dI)) (ci := 7) (v := .ref h_bytes) (C := RX7) (T := TX7) (N := 2) hx hb hts in_X7 hown hK hP 0 rfl rfl 0 (by decide) hL9 (fun _ h9 => h9) rfl dX7_byteAt_14 ?_
      refine va_alen (v := (300 : Int32)) hx hb hK hP 1 0 rfl rfl rfl dX7_byteAt_17 ?_
      refine lv_icmp_lt (tgt := 23) hx hb dX7_byteAt_18 (by decide) (fun c_18 => ?_) (fun c_18 => ?_)
      · have hF := gi_t c_18 hF
        refine lv_aload_n hx hb dX7_byteAt_23 rfl (lv_at hl 0 rfl) ?_
        refine va_get (D := (dC, dI)) (ci := 7) (v := .ref h_bytes) (C := RX7) (T := TX7) (N := 2) hx hb hts in_X7 hown hK hP 0 rfl rfl 0 (by decide) hL9 (fun _ h9 => h9) rfl dX7_byteAt_24 ?_
        refine lv_iload_n hx hb dX7_byteAt_27 rfl (lv_at hl 1 rfl) ?_
        obtain ⟨hi_28, hF⟩ := gi_in hF
        refine va_bald hx hb hK hP 1 0 rfl rfl hi_28 dX7_byteAt_28 ?_
        refine lv_sipush (v := (255 : Int32)) hx hb dX7_byteAt_29 (by decide) ?_
        refine lv_iand hx hb dX7_byteAt_32 ?_
        have hF := Option.some.inj hF
        subst hF
        exact hret _ _ _ _ dX7_byteAt_33 hP hD hS
      · have hF := gi_f c_18 hF
        refine lv_iconst (v := (-1 : Int32)) hx hb dX7_byteAt_21 (by decide) ?_
        have hF := Option.some.inj hF
        subst hF
        exact hret _ _ _ _ dX7_byteAt_22 hP hD hS
