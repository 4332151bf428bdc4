/-! program -/
/-- what comes of all items -/
def Fin (N n : Nat) (rb : Nat → Int32) (items lies : Int32) (what0 to0 one0 two0 told0 input : Nat → Int32) (cl : Option O_X3_faultOf) (rf : Option O_X10_program) : Prop :=
  (∃ s, s ≤ n ∧ (∃ (o : Int32 × Int32 × Int32 × Int32 × Int32 × Int32 × Int32 × Int32 × (Nat → Int32) × (Nat → Int32)), cl = some (nI s, o)) ∧ RF n items lies what0 to0 one0 two0 told0 input s rf) ∨
  (∃ (cnt : Nat) (a1 a2 a3 a4 a5 bc1 bc2 b1 b2 b3 : Int32) (cc' dp' what' to' one' two' told' : Nat → Int32), 1 ≤ cnt ∧ cnt ≤ 16 ∧ okP cnt (shA what') (shA to') (shA one') (shA two') (shA told') ∧ clR cnt cc' (shA what') (shA to') (shA one') (shA two') (shA told') ∧ cntW (shA what') 0 cnt ≤ 4 ∧ cntW (shA what') 4 cnt ≤ 4 ∧
    cl = some ((-1 : Int32), a1, a2, a3, a4, bc1, nI cnt, nI (cntW (shA what') 0 cnt), nI (cntW (shA what') 4 cnt), cc', dp') ∧
    rf = f_X10_program_401 N rb N (nI n) items a5 b1 b2 b3 (-9) bc2 lies what' to' one' two' told' input (nI cnt) 0)
theorem fin_out (N : Nat) (hN : NB ≤ N) {rb : Nat → Int32} (hb : ∀ j, -128 ≤ (rb j).toInt ∧ (rb j).toInt ≤ 127) {n k f : Nat} (hn : n ≤ 300) (hk : k < 16) (items lies : Int32) {what0 to0 one0 two0 told0 : Nat → Int32} (input : Nat → Int32) {cl : Option O_X3_readItem} {rf : Option O_X10_program} {F : (z_22 : O_X3_readItem) → Option O_X3_faultOf}
    (h : ∃ (p' nx st : Nat) (kd vc vr sC kC vC bc1 bc2 y2 y3 : Int32) (cc' dp' what' to' one' two' told' : Nat → Int32), p' ≤ n ∧ tkR N n rb p' nx st kd vc vr ∧ (blw what' what0 ∧ blw to' to0 ∧ blw one' one0 ∧ blw two' two0 ∧ blw told' told0) ∧ okP (k + 1) (shA what') (shA to') (shA one') (shA two') (shA told') ∧ clR (k + 1) cc' (shA what') (shA to') (shA one') (shA two') (shA told') ∧ cntW (shA what') 0 (k + 1) ≤ 4 ∧ cntW (shA what') 4 (k + 1) ≤ 4 ∧
    cl = some ((5 : Int32), nI p', sC, kC, vC, bc1, nI (k + 1), nI (cntW (shA what') 0 (k + 1)), nI (cntW (shA what') 4 (k + 1)), cc', dp') ∧
    rf = f_X10_program_29 N rb (f + 1) (nI n) items (nI nx) (nI st) kd vr (-9) bc2 lies what' to' one' two' told' input (nI (k + 1)) y2 y3 1) :
    Fin N n rb items lies what0 to0 one0 two0 told0 input (cl.bind (fun z_22 => if 0 ≤ z_22.1 then (if z_22.1 = (5 : Int32) then (f_X3_faultOf_40 N (nI n) rb z_22.2.1 z_22.2.2.1 z_22.2.2.2.1 z_22.2.2.2.2.1 z_22.2.2.2.2.2.1 z_22.2.2.2.2.2.2.1 z_22.2.2.2.2.2.2.2.1 z_22.2.2.2.2.2.2.2.2.1 z_22.2.2.2.2.2.2.2.2.2.1 z_22.2.2.2.2.2.2.2.2.2.2) else F z_22) else (some (z_22.2.2.1, z_22.2.1, z_22.2.2.1, z_22.2.2.2.1, z_22.2.2.2.2.1, z_22.2.2.2.2.2.1, z_22.2.2.2.2.2.2.1, z_22.2.2.2.2.2.2.2.1, z_22.2.2.2.2.2.2.2.2.1, z_22.2.2.2.2.2.2.2.2.2.1, z_22.2.2.2.2.2.2.2.2.2.2)))) rf := by
  obtain ⟨p', nx, st, kd, vc, vr, sC, kC, vC, bc1, bc2, y2, y3, cc', dp', what', to', one', two', told', q1, q2, q3, q4, q5, q6, q7, q8, q9⟩ := h
  rw [q8, q9, Option.bind_some, if_pos (show (0 : Int32) ≤ 5 by decide), if_pos rfl, u_X10_program_29]
  unfold f_X3_faultOf_40 s_X10_program_29
  rw [q2.1, Option.bind_some, if_pos (show (-9 : Int32) = -9 from rfl), if_neg (show ¬ (1 : Int32) = 0 by decide)]
  unfold f_X10_program_364 f_X10_program_377
  by_cases q : kd = 0
  · obtain ⟨nx2, st2, kd2, vc2, vr2, tt⟩ := tok_both N hN hb hn q2.2.2.1
    rw [if_pos q, if_pos q, due_1 tt, Option.bind_some, if_pos rfl]
    exact Or.inr ⟨k + 1, nI nx, nI st, kd, vc, nI nx2, bc1, bc2, nI st2, kd2, vr2, cc', dp', what', to', one', two', told', by omega, by omega, q4, q5, q6, q7, rfl, rfl⟩
  · rw [if_neg q, if_neg q, due_0, Option.bind_some, if_neg (nine_ne (show st ≤ 300 by have := q2.2.2.2.1; omega))]
    exact Or.inl ⟨st, q2.2.2.2.1, ⟨_, rfl⟩, ⟨nI nx, nI st, kd, vr, nI st, bc2, what', to', one', two', told', q3, rfl⟩⟩
theorem prog_loop (N : Nat) (hN : NB ≤ N) {rb : Nat → Int32} (hb : ∀ j, -128 ≤ (rb j).toInt ∧ (rb j).toInt ≤ 127) {n : Nat} (hn : n ≤ 300) (items lies : Int32) (what0 to0 one0 two0 told0 : Nat → Int32) (input : Nat → Int32) : ∀ (j k bm fC fR p nx st : Nat) (kd vc vr s0 k0 v0 : Int32) (cc dp what to one two told : Nat → Int32), k + j = 15 → j < fC → j + 1 < fR → p ≤ n → DR k bm cc dp (shA what) (shA to) (shA one) (shA two) (shA told) → cntW (shA what) 0 k ≤ 4 → cntW (shA what) 4 k ≤ 4 → tkR N n rb p nx st kd vc vr → (blw what what0 ∧ blw to to0 ∧ blw one one0 ∧ blw two two0 ∧ blw told told0) →
    Fin N n rb items lies what0 to0 one0 two0 told0 input (f_X3_faultOf_14 N (nI n) rb fC (nI p) s0 k0 v0 (nI bm) (nI k) (nI (cntW (shA what) 0 k)) (nI (cntW (shA what) 4 k)) cc dp (nI k)) (f_X10_program_29 N rb fR (nI n) items (nI nx) (nI st) kd vr (-9) (nI bm) lies what to one two told input (nI k) (nI (cntW (shA what) 0 k)) (nI (cntW (shA what) 4 k)) 0) := by
  intro j
  induction j with
  | zero =>
    intro k bm fC fR p nx st kd vc vr s0 k0 v0 cc dp what to one two told hk hf hf2 hp hD c0 c4 tk hbl
    obtain ⟨fc, rfl⟩ : ∃ fc, fC = fc + 1 := ⟨fC - 1, by omega⟩
    obtain ⟨fr, rfl⟩ : ∃ fr, fR = fr + 1 + 1 := ⟨fR - 2, by omega⟩
    have ho := wordB N hN hb hn (show k < 16 by omega) hD c0 c4 fr items lies input tk s0 k0 v0 hbl rfl rfl rfl rfl rfl
    rw [u_X3_faultOf_14, u_X10_program_29]
    unfold s_X3_faultOf_14
    rw [if_neg (show ¬ (16 : Int32) ≤ nI k from nI_ge (b := 16) (by omega) (by decide))]
    rcases ho with ⟨s, hs, ⟨_, _, _, _, _, _, _, _, _, _, ec, _⟩, er⟩ | ⟨c, p', nx2, st2, bm', kd2, vc2, vr2, sC, kC, vC, cc', dp', what', to', one', two', told', q1, q2, _⟩ | hout
    · rw [ec, Option.bind_some, if_neg (by show ¬ (0 : Int32) ≤ (-1 : Int32); decide)]
      exact Or.inl ⟨s, hs, ⟨_, rfl⟩, er⟩
    · omega
    · exact fin_out N hN hb hn (show k < 16 by omega) items lies input hout
  | succ j ih =>
    intro k bm fC fR p nx st kd vc vr s0 k0 v0 cc dp what to one two told hk hf hf2 hp hD c0 c4 tk hbl
    obtain ⟨fc, rfl⟩ : ∃ fc, fC = fc + 1 := ⟨fC - 1, by omega⟩
    obtain ⟨fr, rfl⟩ : ∃ fr, fR = fr + 1 + 1 := ⟨fR - 2, by omega⟩
    have ho := wordB N hN hb hn (show k < 16 by omega) hD c0 c4 fr items lies input tk s0 k0 v0 hbl rfl rfl rfl rfl rfl
    rw [u_X3_faultOf_14, u_X10_program_29]
    unfold s_X3_faultOf_14
    rw [if_neg (show ¬ (16 : Int32) ≤ nI k from nI_ge (b := 16) (by omega) (by decide))]
    rcases ho with ⟨s, hs, ⟨_, _, _, _, _, _, _, _, _, _, ec, _⟩, er⟩ | ⟨c, p', nx2, st2, bm', kd2, vc2, vr2, sC, kC, vC, cc', dp', what', to', one', two', told', q1, q2, q3, q4, q5, q6, q7, q8, q9, q10⟩ | hout
    · rw [ec, Option.bind_some, if_neg (by show ¬ (0 : Int32) ≤ (-1 : Int32); decide)]
      exact Or.inl ⟨s, hs, ⟨_, rfl⟩, er⟩
    · rw [q9, q10, Option.bind_some, if_pos (show (0 : Int32) ≤ nI c from nI_pos' (by omega)), if_neg (show ¬ nI c = 5 from fun z => by
        have := (nI_eq (b := 5) (by omega) (by decide)).mp z
        omega), nI_1]
      exact ih (k + 1) bm' fc (fr + 1) p' nx2 st2 kd2 vc2 vr2 sC kC vC cc' dp' what' to' one' two' told' (by omega) (by omega) (by omega) q3 q6 q7 q8 q4 q5
    · exact fin_out N hN hb hn (show k < 16 by omega) items lies input hout
