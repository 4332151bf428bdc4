/-! an item, read by both -/
theorem nine_ne {s : Nat} (hs : s ≤ 300) : ¬ nI s = (-9 : Int32) := fun z => by
  have h1 := nI_pos' (n := s) (by omega)
  rw [z] at h1
  exact absurd h1 (by decide)
theorem due_f (N : Nat) (typed : Int32) (rb : Nat → Int32) (x1 at_ st so va : Int32) {s : Nat} (hs : s ≤ 300) : f_X10_due N typed rb x1 at_ st so va (nI s) = some (va, at_, st, so, va, nI s) := by
  unfold f_X10_due
  rw [if_neg (nine_ne hs)]
theorem due_0 (N : Nat) (typed : Int32) (rb : Nat → Int32) (at_ st so va : Int32) : f_X10_due N typed rb 0 at_ st so va (-9) = some (va, at_, st, so, va, st) := by
  unfold f_X10_due
  rw [if_pos rfl, if_pos rfl]
theorem due_1 {N n : Nat} {rb : Nat → Int32} {p nx st : Nat} {kd vc vr : Int32} (h : tkR N n rb p nx st kd vc vr) (s so va : Int32) : f_X10_due N (nI n) rb 1 (nI p) s so va (-9) = some (va, nI nx, nI st, kd, vr, -9) := by
  unfold f_X10_due
  rw [if_pos rfl, if_neg (by decide), h.2.1, Option.bind_some]
theorem let_f (N : Nat) (typed bc : Int32) (rb : Nat → Int32) (x1 at_ st so va : Int32) {s : Nat} (hs : s ≤ 300) : f_X10_letter N typed bc rb x1 at_ st so va (nI s) = some (va, at_, st, so, va, nI s) := by
  unfold f_X10_letter f_X10_letter_29 f_X10_letter_36 f_X10_letter_37
  simp only [due_f N typed rb _ at_ st so va hs, Option.bind_some]
  repeat' split
  all_goals rfl
/-- a letter where none may stand, or another -/
theorem let_0 (N : Nat) (typed : Int32) (rb : Nat → Int32) (at_ st so va : Int32) {bm : Nat} (hb : bm < 65536) (is : Bool) (h : ¬ so = 2 ∨ ∃ c : Nat, c < 16 ∧ va = nI c ∧ bm.testBit c ≠ is) : f_X10_letter N typed (nI bm) rb (if is = true then 1 else 0) at_ st so va (-9) = some (va, at_, st, so, va, st) := by
  unfold f_X10_letter
  by_cases h2 : so = 2
  · obtain ⟨c, hc, rfl, hne⟩ := h.resolve_left (fun z => z h2)
    rw [if_pos h2, bitI hb hc]
    unfold f_X10_letter_29 f_X10_letter_36 f_X10_letter_37
    cases is with
    | true =>
      rw [if_pos rfl, if_neg (by decide), if_neg hne, if_neg (by decide), due_0]
      rfl
    | false =>
      have hz : bm.testBit c = true := by simpa using hne
      rw [if_pos (show (if false = true then (1 : Int32) else 0) = 0 from rfl), if_pos hz, if_neg (by decide), due_0]
      rfl
  · rw [if_neg h2]
    unfold f_X10_letter_36 f_X10_letter_37
    rw [due_0]
    rfl
theorem let_1 {N n : Nat} {rb : Nat → Int32} {p nx st : Nat} {kd vc vr : Int32} (h : tkR N n rb p nx st kd vc vr) (s : Int32) {bm c : Nat} (hb : bm < 65536) (hc : c < 16) (is : Bool) (he : bm.testBit c = is) : f_X10_letter N (nI n) (nI bm) rb (if is = true then 1 else 0) (nI p) s 2 (nI c) (-9) = some (nI c, nI nx, nI st, kd, vr, -9) := by
  unfold f_X10_letter
  rw [if_pos rfl, bitI hb hc]
  unfold f_X10_letter_29 f_X10_letter_37
  cases is with
  | true =>
    rw [if_pos rfl, if_neg (by decide), if_pos he, if_pos rfl, due_1 h]
    rfl
  | false =>
    rw [if_pos (show (if false = true then (1 : Int32) else 0) = 0 from rfl), if_neg (show ¬ bm.testBit c = true by rw [he]; decide), if_pos rfl, due_1 h]
    rfl
theorem ff29 (N n f : Nat) (rb : Nat → Int32) (items at_ st so va : Int32) (s : Nat) (hs : s ≤ 300) (bc lies : Int32) (what to one two told input : Nat → Int32) (y1 y2 y3 y4 : Int32) : f_X10_program_29 N rb (f + 1) (nI n) items at_ st so va (nI s) bc lies what to one two told input y1 y2 y3 y4 = some ((-10 : Int32) - nI s, nI n, items, at_, st, so, va, nI s, bc, lies, what, to, one, two, told, input) := by
  rw [u_X10_program_29]
  unfold s_X10_program_29 f_X10_program_364 f_X10_program_377
  simp only [if_neg (nine_ne hs), due_f N (nI n) rb _ at_ st so va hs, Option.bind_some]
  split <;> rfl
theorem ff314 (N n f : Nat) (rb : Nat → Int32) (items at_ st so va : Int32) (s : Nat) (hs : s ≤ 300) (bc lies : Int32) (what to one two told input : Nat → Int32) (y1 y2 y3 y6 t1 t2 : Int32) : f_X10_program_314 N rb (f_X10_program_29 N rb (f + 1)) (nI n) items at_ st so va (nI s) bc lies what to one two told input y1 y2 y3 y6 t1 t2 = some ((-10 : Int32) - nI s, nI n, items, at_, st, so, va, nI s, t1 ||| t2, lies, what, to, one, two, told, input) := by
  unfold f_X10_program_314 f_X10_program_329 f_X10_program_343
  simp only [ff29 N n f rb items at_ st so va s hs _ lies what to one two told input]
  repeat' split
  all_goals rfl
theorem ff268 (N n f : Nat) (rb : Nat → Int32) (items at_ st so va : Int32) (s : Nat) (hs : s ≤ 300) (bc lies : Int32) (what to one two told input : Nat → Int32) (y1 y2 y3 y6 y8 : Int32) : f_X10_program_268 N rb (f_X10_program_29 N rb (f + 1)) (nI n) items at_ st so va (nI s) bc lies what to one two told input y1 y2 y3 y6 y8 = some ((-10 : Int32) - nI s, nI n, items, at_, st, so, va, nI s, bc ||| 0, lies, what, to, one, two, told, input) := by
  unfold f_X10_program_268 f_X10_program_282
  simp only [due_f N (nI n) rb _ at_ st so va hs, Option.bind_some, if_neg (nine_ne hs), ff314 N n f rb items at_ st so va s hs _ lies what to one two told input]
  repeat' split
  all_goals rfl
theorem ff193 (N n f : Nat) (rb : Nat → Int32) (items at_ st so va : Int32) (s : Nat) (hs : s ≤ 300) (bc lies : Int32) (what to one two told input : Nat → Int32) {k : Nat} (hk : k < 16) (y1 y2 y3 y6 y8 : Int32) : f_X10_program_193 N rb (f_X10_program_29 N rb (f + 1)) (nI n) items at_ st so va (nI s) bc lies what to one two told input y1 y2 y3 y6 (nI (16 + k)) y8 = some ((-10 : Int32) - nI s, nI n, items, at_, st, so, va, nI s, bc ||| 0, lies, what, to, one, two, upd told (16 + k) va, input) := by
  unfold f_X10_program_193 f_X10_program_223 f_X10_program_230 f_X10_program_231
  simp only [due_f N (nI n) rb _ at_ st so va hs, Option.bind_some, if_pos (gin_nI (show 16 + k < 32 by omega) (by decide)), nI_clamp (show 16 + k < 2 ^ 31 by omega), ff268 N n f rb items at_ st so va s hs bc lies what to one two _ input]
  repeat' split
  all_goals rfl
def shA (v : Nat → Int32) : Nat → Int32 := fun i => v (16 + i)
theorem sh_upd (v : Nat → Int32) (k : Nat) (x : Int32) : shA (upd v (16 + k) x) = upd (shA v) k x := by
  funext i
  show upd v (16 + k) x (16 + i) = upd (shA v) k x i
  by_cases z : i = k
  · rw [z, pk_us, pk_us]
  · rw [pk_un z, pk_un (by omega)]
    rfl
theorem upd_upd (v : Nat → Int32) (k : Nat) (x y : Int32) : upd (upd v k x) k y = upd v k y := by
  funext i
  by_cases z : i = k
  · rw [z, pk_us, pk_us]
  · rw [pk_un z, pk_un z, pk_un z]
def blw (a b : Nat → Int32) : Prop := ∀ i, i < 16 → a i = b i
theorem blw_upd {a b : Nat → Int32} (h : blw a b) (k : Nat) (x : Int32) : blw (upd a (16 + k) x) b := fun i hi => by rw [pk_un (by omega)]; exact h i hi
/-- at fault, in the reference -/
def RF (n : Nat) (items lies : Int32) (what0 to0 one0 two0 told0 input : Nat → Int32) (s : Nat) (res : Option O_X10_program) : Prop :=
  ∃ (at' st' so' va' fa' bc' : Int32) (what' to' one' two' told' : Nat → Int32), (blw what' what0 ∧ blw to' to0 ∧ blw one' one0 ∧ blw two' two0 ∧ blw told' told0) ∧ res = some ((-10 : Int32) - nI s, nI n, items, at', st', so', va', fa', bc', lies, what', to', one', two', told', input)
/-- what comes of an item -/
def Out (N n : Nat) (rb : Nat → Int32) (k f : Nat) (items lies : Int32) (what0 to0 one0 two0 told0 input : Nat → Int32) (cl : Option O_X3_readItem) (rf : Option O_X10_program) : Prop :=
  (∃ s, s ≤ n ∧ (∃ (a b c d e g h i : Int32) (j l : Nat → Int32), cl = some ((-1 : Int32), a, nI s, b, c, d, e, g, h, j, l) ∧ i = 0) ∧ RF n items lies what0 to0 one0 two0 told0 input s rf) ∨
  (∃ (c p' nx st bm' : Nat) (kd vc vr sC kC vC : Int32) (cc' dp' what' to' one' two' told' : Nat → Int32), c ≤ 4 ∧ k < 15 ∧ p' ≤ n ∧ tkR N n rb p' nx st kd vc vr ∧ (blw what' what0 ∧ blw to' to0 ∧ blw one' one0 ∧ blw two' two0 ∧ blw told' told0) ∧ DR (k + 1) bm' cc' dp' (shA what') (shA to') (shA one') (shA two') (shA told') ∧ cntW (shA what') 0 (k + 1) ≤ 4 ∧ cntW (shA what') 4 (k + 1) ≤ 4 ∧
    cl = some (nI c, nI p', sC, kC, vC, nI bm', nI (k + 1), nI (cntW (shA what') 0 (k + 1)), nI (cntW (shA what') 4 (k + 1)), cc', dp') ∧
    rf = f_X10_program_29 N rb (f + 1) (nI n) items (nI nx) (nI st) kd vr (-9) (nI bm') lies what' to' one' two' told' input (nI (k + 1)) (nI (cntW (shA what') 0 (k + 1))) (nI (cntW (shA what') 4 (k + 1))) 0) ∨
  (∃ (p' nx st : Nat) (kd vc vr sC kC vC bc1 bc2 y2 y3 : Int32) (cc' dp' what' to' one' two' told' : Nat → Int32), p' ≤ n ∧ tkR N n rb p' nx st kd vc vr ∧ (blw what' what0 ∧ blw to' to0 ∧ blw one' one0 ∧ blw two' two0 ∧ blw told' told0) ∧ okP (k + 1) (shA what') (shA to') (shA one') (shA two') (shA told') ∧ clR (k + 1) cc' (shA what') (shA to') (shA one') (shA two') (shA told') ∧ cntW (shA what') 0 (k + 1) ≤ 4 ∧ cntW (shA what') 4 (k + 1) ≤ 4 ∧
    cl = some ((5 : Int32), nI p', sC, kC, vC, bc1, nI (k + 1), nI (cntW (shA what') 0 (k + 1)), nI (cntW (shA what') 4 (k + 1)), cc', dp') ∧
    rf = f_X10_program_29 N rb (f + 1) (nI n) items (nI nx) (nI st) kd vr (-9) bc2 lies what' to' one' two' told' input (nI (k + 1)) y2 y3 1)
/-- the stop behind an item -/
theorem stopIn (N : Nat) (hN : NB ≤ N) {rb : Nat → Int32} (hb : ∀ j, -128 ≤ (rb j).toInt ∧ (rb j).toInt ≤ 127) {n : Nat} (hn : n ≤ 300) {k bm : Nat} (hk : k < 16) {cc dp W T A B D : Nat → Int32} (hD : DR k bm cc dp W T A B D) (c0 : cntW W 0 k ≤ 4) (c4 : cntW W 4 k ≤ 4) (f : Nat) (items lies : Int32) {what0 to0 one0 two0 told0 : Nat → Int32} (input : Nat → Int32) {p nx st : Nat} {kd vc vr : Int32} (tk : tkR N n rb p nx st kd vc vr) (s0 k0 v0 : Int32) {what to one two told : Nat → Int32} (hbl : blw what what0 ∧ blw to to0 ∧ blw one one0 ∧ blw two two0 ∧ blw told told0) {c c1 : Nat} {x3 x4 x5 : Int32} (hc : c ≤ 4) (h15 : k < 15) (hc1 : c1 < 16) (hnew : bm.testBit c1 = false) (hv : okV bm c x3 x4 x5) (h0 : c = 0 → cntW W 0 k < 4) (h4 : c = 4 → cntW W 4 k < 4) (e1 : shA what = upd W k (nI c)) (e2 : shA to = upd T k (nI c1)) (e3 : shA one = upd A k x3) (e4 : shA two = upd B k x4) (e5 : shA told = upd D k x5) :
    Out N n rb k f items lies what0 to0 one0 two0 told0 input (f_X3_readItem_147 N (nI n) rb (nI p) s0 k0 v0 (nI bm) (nI k) (nI (cntW W 0 k)) (nI (cntW W 4 k)) cc dp (nI c) (nI c1) x3 x4 x5) (f_X10_program_268 N rb (f_X10_program_29 N rb (f + 1)) (nI n) items (nI nx) (nI st) kd vr (-9) (nI bm) lies what to one two told input (nI k) (nI (cntW W 0 k)) (nI (cntW W 4 k)) (nI c) (nI c1)) := by
  obtain ⟨tk1, tk2, tk3, tk4, tk5⟩ := tk
  unfold f_X3_readItem_147
  rw [tk1, Option.bind_some]
  by_cases q : kd = 4
  · subst q
    obtain ⟨nx2, st2, kd2, vc2, vr2, tt⟩ := tok_both N hN hb hn tk3
    obtain ⟨cc', dp', et, hD'⟩ := take_in N hD hk hc hc1 hnew hv (nI c) (nI c1) rfl rfl (cntW W 0 k) (cntW W 4 k)
    have n0 : cntW (shA what) 0 (k + 1) = cntW W 0 k + (if c = 0 then 1 else 0) := by
      rw [e1, cntW_s, pk_us, ← cnt_agr (W := W) 0 k (fun i hi => (pk_un (by omega)).symm)]
      by_cases z : c = 0
      · rw [if_pos z, if_pos (show nI c = 0 by rw [z]; rfl)]
      · rw [if_neg z, if_neg (nI_ne0 (by omega) (by omega))]
    have n4 : cntW (shA what) 4 (k + 1) = cntW W 4 k + (if c = 4 then 1 else 0) := by
      rw [e1, cntW_s, pk_us, ← cnt_agr (W := W) 4 k (fun i hi => (pk_un (by omega)).symm)]
      by_cases z : c = 4
      · rw [if_pos z, if_pos (show nI c = 4 by rw [z]; rfl)]
      · rw [if_neg z, if_neg (show ¬ nI c = 4 from fun y => z ((nI_eq (b := 4) (by omega) (by decide)).mp y))]
    rw [if_pos rfl, et, Option.bind_some]
    refine Or.inr (Or.inl ⟨c, nx, nx2, st2, bm ||| 2 ^ c1, kd2, vc2, vr2, nI st, 4, vc, cc', dp', what, to, one, two, told, hc, h15, tk3, tt, hbl, ?_, ?_, ?_, ?_, ?_⟩)
    · rw [e1, e2, e3, e4, e5]; exact hD'
    · rw [n0]
      by_cases z : c = 0
      · rw [if_pos z]; have := h0 z; omega
      · rw [if_neg z]; omega
    · rw [n4]
      by_cases z : c = 4
      · rw [if_pos z]; have := h4 z; omega
      · rw [if_neg z]; omega
    · rw [n0, n4]
    · have n5 : ¬ nI c = 5 := fun z => by
        have := (nI_eq (b := 5) (by omega) (by decide)).mp z
        omega
      unfold f_X10_program_268 f_X10_program_282
      rw [if_pos rfl, due_1 tt, Option.bind_some, if_neg n5, if_pos rfl]
      unfold f_X10_program_314 f_X10_program_329 f_X10_program_343
      rw [(orB hD.1 hc1).1, n0, n4, nI_1 k]
      by_cases z0 : c = 0
      · have z4 : ¬ c = 4 := by omega
        rw [if_pos (show nI c = 0 by rw [z0]; rfl), if_neg (show ¬ nI c = 4 from fun y => z4 ((nI_eq (b := 4) (by omega) (by decide)).mp y)), if_neg n5, if_pos z0, if_neg z4, nI_1 (cntW W 0 k), Int32.add_zero, Nat.add_zero] <;> rfl
      · rw [if_neg (show ¬ nI c = 0 from nI_ne0 (by omega) (by omega)), if_neg z0]
        by_cases z4 : c = 4
        · rw [if_pos (show nI c = 4 by rw [z4]; rfl), if_neg n5, if_pos z4, nI_1 (cntW W 4 k), Int32.add_zero, Nat.add_zero] <;> rfl
        · rw [if_neg (show ¬ nI c = 4 from fun y => z4 ((nI_eq (b := 4) (by omega) (by decide)).mp y)), if_neg n5, if_neg z4, Int32.add_zero, Int32.add_zero, Nat.add_zero, Nat.add_zero] <;> rfl
  · rw [if_neg q]
    refine Or.inl ⟨st, tk4, ⟨_, _, _, _, _, _, _, 0, _, _, rfl, rfl⟩, ?_⟩
    refine ⟨nI nx, nI st, kd, vr, nI st, nI bm ||| 0, what, to, one, two, told, hbl, ?_⟩
    unfold f_X10_program_268 f_X10_program_282
    rw [if_neg q, due_0, Option.bind_some]
    simp only [if_neg (nine_ne (show st ≤ 300 by omega)), ff314 N n f rb items (nI nx) (nI st) kd vr st (by omega) _ lies what to one two told input]
    split <;> rfl
theorem stopOut (N : Nat) (hN : NB ≤ N) {rb : Nat → Int32} (hb : ∀ j, -128 ≤ (rb j).toInt ∧ (rb j).toInt ≤ 127) {n : Nat} (hn : n ≤ 300) {k bm : Nat} (hk : k < 16) {cc dp W T A B D : Nat → Int32} (hD : DR k bm cc dp W T A B D) (c0 : cntW W 0 k ≤ 4) (c4 : cntW W 4 k ≤ 4) (f : Nat) (items lies : Int32) {what0 to0 one0 two0 told0 : Nat → Int32} (input : Nat → Int32) {p nx st : Nat} {kd vc vr : Int32} (tk : tkR N n rb p nx st kd vc vr) (s0 k0 v0 : Int32) {what to one two told : Nat → Int32} (hbl : blw what what0 ∧ blw to to0 ∧ blw one one0 ∧ blw two two0 ∧ blw told told0) {c1 : Nat} (hc1 : c1 < 16) (hold : bm.testBit c1 = true) (e1 : shA what = upd W k 5) (e2 : shA to = upd T k (nI c1)) (e3 : shA one = upd A k (-9)) (e4 : shA two = upd B k (-9)) (e5 : shA told = upd D k (-9)) :
    Out N n rb k f items lies what0 to0 one0 two0 told0 input (f_X3_readItem_147 N (nI n) rb (nI p) s0 k0 v0 (nI bm) (nI k) (nI (cntW W 0 k)) (nI (cntW W 4 k)) cc dp 5 (nI c1) (-9) (-9) (-9)) (f_X10_program_268 N rb (f_X10_program_29 N rb (f + 1)) (nI n) items (nI nx) (nI st) kd vr (-9) (nI bm) lies what to one two told input (nI k) (nI (cntW W 0 k)) (nI (cntW W 4 k)) 5 (nI c1)) := by
  obtain ⟨tk1, tk2, tk3, tk4, tk5⟩ := tk
  unfold f_X3_readItem_147
  rw [tk1, Option.bind_some]
  by_cases q : kd = 4
  · subst q
    obtain ⟨nx2, st2, kd2, vc2, vr2, tt⟩ := tok_both N hN hb hn tk3
    obtain ⟨cc', dp', bc', et, hok, hcl, n0, n4⟩ := take_out N hD hk hc1 hold (nI c1) (-9) (-9) (-9) rfl (cntW W 0 k) (cntW W 4 k) 5 rfl
    rw [if_pos rfl, et, Option.bind_some]
    refine Or.inr (Or.inr ⟨nx, nx2, st2, kd2, vc2, vr2, nI st, 4, vc, bc', nI bm ||| 0, nI (cntW W 0 k) + 0, nI (cntW W 4 k) + 0, cc', dp', what, to, one, two, told, tk3, tt, hbl, ?_, ?_, ?_, ?_, ?_, ?_⟩)
    · rw [e1, e2, e3, e4, e5]; exact hok
    · rw [e1, e2, e3, e4, e5]; exact hcl
    · rw [e1, n0]; exact c0
    · rw [e1, n4]; exact c4
    · rw [e1, n0, n4]
    · unfold f_X10_program_268 f_X10_program_282
      rw [if_pos rfl, due_1 tt, Option.bind_some, if_pos rfl]
      unfold f_X10_program_314 f_X10_program_329 f_X10_program_343
      rw [if_neg (by decide), if_neg (by decide), if_pos rfl, nI_1]
  · rw [if_neg q]
    refine Or.inl ⟨st, tk4, ⟨_, _, _, _, _, _, _, 0, _, _, rfl, rfl⟩, ?_⟩
    refine ⟨nI nx, nI st, kd, vr, nI st, nI bm ||| 0, what, to, one, two, told, hbl, ?_⟩
    unfold f_X10_program_268 f_X10_program_282
    rw [if_neg q, due_0, Option.bind_some]
    simp only [if_neg (nine_ne (show st ≤ 300 by omega)), ff314 N n f rb items (nI nx) (nI st) kd vr st (by omega) _ lies what to one two told input]
    split <;> rfl
