/-! program, to its end -/
def cpR (k : Nat) (v v1 : Nat → Int32) : Prop := (∀ i, i < k → v i = v1 (16 + i)) ∧ ∀ i, v (16 + i) = v1 (16 + i)
theorem cpR_s {k : Nat} (hk : k < 16) {v v1 : Nat → Int32} (h : cpR k v v1) : cpR (k + 1) (upd v k (v (16 + k))) v1 := by
  refine ⟨fun i hi => ?_, fun i => ?_⟩
  · by_cases z : i = k
    · rw [z, pk_us]; exact h.2 k
    · rw [pk_un z]; exact h.1 i (by omega)
  · rw [pk_un (by omega)]; exact h.2 i
theorem cp_loop (N : Nat) (rb : Nat → Int32) {cnt : Nat} (hc : cnt ≤ 16) (typed items at_ st so va fa bc lies : Int32) (input w1 t1 a1 b1 d1 : Nat → Int32) : ∀ (j k fuel : Nat) (what to one two told : Nat → Int32), k + j = cnt → j < fuel → cpR k what w1 → cpR k to t1 → cpR k one a1 → cpR k two b1 → cpR k told d1 →
    ∃ what' to' one' two' told' : Nat → Int32, cpR cnt what' w1 ∧ cpR cnt to' t1 ∧ cpR cnt one' a1 ∧ cpR cnt two' b1 ∧ cpR cnt told' d1 ∧ f_X10_program_401 N rb fuel typed items at_ st so va fa bc lies what to one two told input (nI cnt) (nI k) = f_X10_program_498 N rb typed items at_ st so va fa bc lies what' to' one' two' told' input (nI cnt) := by
  intro j
  induction j with
  | zero =>
    intro k fuel what to one two told hk hf h1 h2 h3 h4 h5
    obtain ⟨f, rfl⟩ : ∃ f, fuel = f + 1 := ⟨fuel - 1, by omega⟩
    have e : k = cnt := by omega
    subst e
    refine ⟨what, to, one, two, told, h1, h2, h3, h4, h5, ?_⟩
    rw [u_X10_program_401]
    unfold s_X10_program_401
    rw [if_pos (Int32.le_refl _)]
  | succ j ih =>
    intro k fuel what to one two told hk hf h1 h2 h3 h4 h5
    obtain ⟨f, rfl⟩ : ∃ f, fuel = f + 1 := ⟨fuel - 1, by omega⟩
    have g1 : gin (nI (16 + k)) 32 = true := gin_nI (show 16 + k < 32 by omega) (by decide)
    have g2 : gin (nI k) 32 = true := gin_nI (show k < 32 by omega) (by decide)
    rw [u_X10_program_401]
    unfold s_X10_program_401
    rw [if_neg (nI_ge (show k < cnt by omega) (by omega)), show (16 : Int32) + nI k = nI (16 + k) from nI_add 16 k, if_pos g1, if_pos g2, if_pos g1, if_pos g2, if_pos g1, if_pos g2, if_pos g1, if_pos g2, if_pos g1, if_pos g2, nI_clamp (show 16 + k < 2 ^ 31 by omega), nI_clamp (show k < 2 ^ 31 by omega), nI_1]
    exact ih (k + 1) f _ _ _ _ _ (by omega) (by omega) (cpR_s (by omega) h1) (cpR_s (by omega) h2) (cpR_s (by omega) h3) (cpR_s (by omega) h4) (cpR_s (by omega) h5)
theorem in0_loop (N : Nat) (rb : Nat → Int32) (typed items at_ st so va fa bc lies y1 : Int32) (what to one two told : Nat → Int32) : ∀ (j k fuel : Nat) (input : Nat → Int32), k + j = 8 → j < fuel → (∀ i, i < k → input i = 0) →
    ∃ input' : Nat → Int32, (∀ i, i < 8 → input' i = 0) ∧ f_X10_program_506 N rb fuel typed items at_ st so va fa bc lies what to one two told input y1 (nI k) = some (y1, (0 : Int32), items, at_, st, so, va, fa, bc, (0 : Int32), what, to, one, two, told, input') := by
  intro j
  induction j with
  | zero =>
    intro k fuel input hk hf h
    obtain ⟨f, rfl⟩ : ∃ f, fuel = f + 1 := ⟨fuel - 1, by omega⟩
    have e : k = 8 := by omega
    subst e
    refine ⟨input, h, ?_⟩
    rw [u_X10_program_506]
    unfold s_X10_program_506 f_X10_program_527
    rw [if_pos (by decide)]
  | succ j ih =>
    intro k fuel input hk hf h
    obtain ⟨f, rfl⟩ : ∃ f, fuel = f + 1 := ⟨fuel - 1, by omega⟩
    rw [u_X10_program_506]
    unfold s_X10_program_506
    rw [if_neg (show ¬ (8 : Int32) ≤ nI k from nI_ge (b := 8) (by omega) (by decide)), if_pos (gin_nI (show k < 8 by omega) (by decide)), nI_clamp (by omega), nI_1]
    refine ih (k + 1) f _ (by omega) (by omega) ?_
    intro i hi
    by_cases z : i = k
    · rw [z, pk_us]
    · rw [pk_un z]; exact h i (by omega)
theorem bec33 (N : Nat) (x1 x2 x3 x4 : Int32) (ac ad : Nat → Int32) (y1 y2 y3 y4 : Int32) (cc : Nat → Int32) : ∀ (j k fuel : Nat) (dp : Nat → Int32), k + j = 16 → j < fuel → ∃ dp', f_X2_become_33 N x1 x2 x3 x4 ac ad fuel y1 y2 y3 y4 cc dp (nI k) = some (x1, x2, x3, x4, cc, dp') := by
  intro j
  induction j with
  | zero =>
    intro k fuel dp hk hf
    obtain ⟨f, rfl⟩ : ∃ f, fuel = f + 1 := ⟨fuel - 1, by omega⟩
    have e : k = 16 := by omega
    subst e
    refine ⟨dp, ?_⟩
    rw [u_X2_become_33]
    unfold s_X2_become_33 f_X2_become_62
    rw [if_pos (by decide)]
  | succ j ih =>
    intro k fuel dp hk hf
    obtain ⟨f, rfl⟩ : ∃ f, fuel = f + 1 := ⟨fuel - 1, by omega⟩
    rw [u_X2_become_33]
    unfold s_X2_become_33
    rw [if_neg (show ¬ (16 : Int32) ≤ nI k from nI_ge (b := 16) (by omega) (by decide)), at_nI N ad (show k < 16 by omega) (by decide), Option.bind_some, if_pos (gin_nI (show k < 16 by omega) (by decide)), nI_1]
    exact ih (k + 1) f _ (by omega) (by omega)
theorem bec2 (N : Nat) (hN : NB ≤ N) (x1 x2 x3 x4 : Int32) (ac ad : Nat → Int32) (y1 y2 y3 y4 : Int32) (dp : Nat → Int32) : ∀ (j k fuel : Nat) (cc : Nat → Int32), k + j = 96 → j < fuel → (∀ i, i < k → cc i = ac i) → ∃ cc' dp', (∀ i, i < 96 → cc' i = ac i) ∧ f_X2_become_2 N x1 x2 x3 x4 ac ad fuel y1 y2 y3 y4 cc dp (nI k) = some (x1, x2, x3, x4, cc', dp') := by
  intro j
  induction j with
  | zero =>
    intro k fuel cc hk hf h
    obtain ⟨f, rfl⟩ : ∃ f, fuel = f + 1 := ⟨fuel - 1, by omega⟩
    have e : k = 96 := by omega
    subst e
    obtain ⟨dp', ed⟩ := bec33 N x1 x2 x3 x4 ac ad y1 y2 y3 y4 cc 16 0 N dp (by omega) (by unfold NB at hN; omega)
    refine ⟨cc, dp', h, ?_⟩
    rw [u_X2_become_2]
    unfold s_X2_become_2
    rw [if_pos (by decide)]
    exact ed
  | succ j ih =>
    intro k fuel cc hk hf h
    obtain ⟨f, rfl⟩ : ∃ f, fuel = f + 1 := ⟨fuel - 1, by omega⟩
    rw [u_X2_become_2]
    unfold s_X2_become_2
    rw [if_neg (show ¬ (96 : Int32) ≤ nI k from nI_ge (b := 96) (by omega) (by decide)), at_nI N ac (show k < 96 by omega) (by decide), Option.bind_some, if_pos (gin_nI (show k < 96 by omega) (by decide)), nI_clamp (by omega), nI_1]
    refine ih (k + 1) f _ (by omega) (by omega) ?_
    intro i hi
    by_cases z : i = k
    · rw [z, pk_us]
    · rw [pk_un z]; exact h i (by omega)
theorem okP_agr {n : Nat} {w t a b d w' t' a' b' d' : Nat → Int32} (h : okP n w t a b d) (e : ∀ i, i < n → w' i = w i ∧ t' i = t i ∧ a' i = a i ∧ b' i = b i ∧ d' i = d i) : okP n w' t' a' b' d' := by
  intro k hk
  obtain ⟨o1, o2, o3, o4, o5, o6, o7, o8⟩ := h k hk
  obtain ⟨e1, e2, e3, e4, e5⟩ := e k hk
  have et : ∀ j, j < k → t' j = t j := fun j hj => (e j (by omega)).2.1
  rw [e1, e2, e3, e4, e5]
  refine ⟨o1, o2, o3, o4, o5, ?_, ?_, ?_⟩
  · intro z
    obtain ⟨⟨j, hj, ej⟩, ⟨l, hl, el⟩⟩ := o6 z
    exact ⟨⟨j, hj, by rw [et j hj]; exact ej⟩, ⟨l, hl, by rw [et l hl]; exact el⟩⟩
  · intro z
    obtain ⟨j, hj, ej⟩ := o7 z
    exact ⟨j, hj, by rw [et j hj]; exact ej⟩
  · intro z j hj
    rw [et j hj]
    exact o8 z j hj
theorem DR_0 (cc dp W T A B D : Nat → Int32) : DR 0 0 cc dp W T A B D := by
  refine ⟨by decide, fun c hc => ⟨fun z => ?_, fun ⟨j, hj, _⟩ => absurd hj (Nat.not_lt_zero j)⟩, fun i hi => absurd hi (Nat.not_lt_zero i), fun i hi => absurd hi (Nat.not_lt_zero i), fun c hc z => ?_⟩
  · rw [Nat.zero_testBit] at z; exact absurd z (by decide)
  · rw [Nat.zero_testBit] at z; exact absurd z (by decide)
theorem eq_program : St_program := by
  intro N cl cb clc cbe ci cin cmu cc cdp cins clies rnx rst rkd rva dbe dit din dmu dcc ddp rt ri rat rs rso rv rfa rbe rlc rb what to one two told rins li lh lb hN hT hP hI hY
  obtain ⟨rfl, rfl, ⟨n, hn, rfl⟩, hb⟩ := hT
  obtain ⟨nx, st, kd, vc, vr, tk⟩ := tok_both N hN hb hn (Nat.zero_le n)
  have hfin := prog_loop N hN hb hn ri rlc what to one two told rins 15 0 0 N N 0 nx st kd vc vr rst rkd rva dcc ddp what to one two told (by omega) (by unfold NB at hN; omega) (by unfold NB at hN; omega) (Nat.zero_le n) (DR_0 _ _ _ _ _ _ _) (Nat.zero_le _) (Nat.zero_le _) tk ⟨fun _ _ => rfl, fun _ _ => rfl, fun _ _ => rfl, fun _ _ => rfl, fun _ _ => rfl⟩
  unfold f_X9_program f_X10_program f_X3_faultOf f_X2_empty
  rw [Option.bind_some, show f_X10_next N (nI n) cb 0 rs rso rv = _ from tk.2.1 rs rso rv, Option.bind_some]
  rcases hfin with ⟨s, hs, ⟨o, ec⟩, ⟨at', st', so', va', fa', bc', what', to', one', two', told', ⟨w1, w2, w3, w4, w5⟩, er⟩⟩ | ⟨cnt, a1, a2, a3, a4, a5, bc1, bc2, b1, b2, b3, cc', dp', what', to', one', two', told', q1, q2, q3, q4, q5, q6, ec, er⟩
  · rw [show f_X3_faultOf_14 N (nI n) cb N 0 rst rkd rva 0 0 0 0 dcc ddp 0 = _ from ec, Option.bind_some, if_neg (show ¬ nI s < 0 from nI_pos (by omega)), show f_X10_program_29 N cb N (nI n) ri (nI nx) (nI st) kd vr (-9) 0 rlc what to one two told rins 0 0 0 0 = _ from er]
    refine ⟨_, _, rfl, rfl, rfl, ⟨rfl, rfl, ⟨n, hn, rfl⟩, hb⟩, ?_, hI, hY⟩
    obtain ⟨m, p1, p2, p3, p4, p5, p6, p7, p8, p9, p10⟩ := hP
    have ag : ∀ i, i < m → what' i = what i ∧ to' i = to i ∧ one' i = one i ∧ two' i = two i ∧ told' i = told i := fun i hi => ⟨w1 i (by omega), w2 i (by omega), w3 i (by omega), w4 i (by omega), w5 i (by omega)⟩
    have cn : ∀ c : Int32, cntW what' c m = cntW what c m := fun c => cnt_agr c m (fun i hi => (ag i hi).1)
    refine ⟨m, p1, p2, p3, p4, okP_agr p5 ag, ?_, ?_, ?_, ?_, ?_⟩
    · rw [cn]; exact p6
    · rw [cn]; exact p7
    · rw [cn]; exact p8
    · rw [cn]; exact p9
    · intro k hk
      obtain ⟨x1, x2, x3, x4, x5, x6⟩ := p10 k hk
      obtain ⟨y1, y2, y3, y4, y5⟩ := ag k hk
      show cc (6 * k) = what' k ∧ cc (6 * k + 1) = to' k ∧ cc (6 * k + 2) = one' k ∧ cc (6 * k + 3) = two' k ∧ cc (6 * k + 4) = told' k ∧ cc (6 * k + 5) = dpD what' to' one' two' 0 k
      rw [y1, y2, y3, y4, y5, dpD_agr 0 (W := what') (W' := what) (T := to') (T' := to) (A := one') (A' := one) (B := two') (B' := two) (fun i hi => ⟨(ag i (by omega)).1, (ag i (by omega)).2.1, (ag i (by omega)).2.2.1, (ag i (by omega)).2.2.2.1⟩)]
      exact ⟨x1, x2, x3, x4, x5, x6⟩
  · obtain ⟨what2, to2, one2, two2, told2, r1, r2, r3, r4, r5, ecp⟩ := cp_loop N cb q2 (nI n) ri a5 b1 b2 b3 (-9) bc2 rlc rins what' to' one' two' told' cnt 0 N what' to' one' two' told' (by omega) (by unfold NB at hN; omega) ⟨fun i hi => absurd hi (Nat.not_lt_zero i), fun _ => rfl⟩ ⟨fun i hi => absurd hi (Nat.not_lt_zero i), fun _ => rfl⟩ ⟨fun i hi => absurd hi (Nat.not_lt_zero i), fun _ => rfl⟩ ⟨fun i hi => absurd hi (Nat.not_lt_zero i), fun _ => rfl⟩ ⟨fun i hi => absurd hi (Nat.not_lt_zero i), fun _ => rfl⟩
    obtain ⟨input2, hi2, ein⟩ := in0_loop N cb (nI n) (nI cnt) a5 b1 b2 b3 (-9) bc2 rlc (nI cnt) what2 to2 one2 two2 told2 8 0 N rins (by omega) (by unfold NB at hN; omega) (fun i hi => absurd hi (Nat.not_lt_zero i))
    obtain ⟨cc2, dp2, hcc2, ebe⟩ := bec2 N hN bc1 (nI cnt) (nI (cntW (shA what') 0 cnt)) (nI (cntW (shA what') 4 cnt)) cc' dp' cbe ci cin cmu cdp 96 0 N cc (by omega) (by unfold NB at hN; omega) (fun i hi => absurd hi (Nat.not_lt_zero i))
    rw [show f_X3_faultOf_14 N (nI n) cb N 0 rst rkd rva 0 0 0 0 dcc ddp 0 = _ from ec, Option.bind_some, if_pos (show (-1 : Int32) < 0 by decide), show f_X10_program_29 N cb N (nI n) ri (nI nx) (nI st) kd vr (-9) 0 rlc what to one two told rins 0 0 0 0 = _ from er, show f_X10_program_401 N cb N (nI n) ri a5 b1 b2 b3 (-9) bc2 rlc what' to' one' two' told' rins (nI cnt) 0 = _ from ecp]
    unfold f_X10_program_498 f_X6_begin f_X2_become f_X6_forgetLies
    rw [show f_X10_program_506 N cb N (nI n) (nI cnt) a5 b1 b2 b3 (-9) bc2 rlc what2 to2 one2 two2 told2 rins (nI cnt) 0 = _ from ein, show f_X2_become_2 N bc1 (nI cnt) (nI (cntW (shA what') 0 cnt)) (nI (cntW (shA what') 4 cnt)) cc' dp' N cbe ci cin cmu cc cdp 0 = _ from ebe, Option.bind_some, wipe_eq N 8 cins (by unfold NB at hN; omega) (by decide), Option.bind_some, wipe_eq N 48 clies (by unfold NB at hN; omega) (by decide), Option.bind_some, Option.bind_some, Option.bind_some]
    have ag : ∀ i, i < cnt → what2 i = shA what' i ∧ to2 i = shA to' i ∧ one2 i = shA one' i ∧ two2 i = shA two' i ∧ told2 i = shA told' i := fun i hi => ⟨r1.1 i hi, r2.1 i hi, r3.1 i hi, r4.1 i hi, r5.1 i hi⟩
    have cn : ∀ c : Int32, cntW what2 c cnt = cntW (shA what') c cnt := fun c => cnt_agr c cnt (fun i hi => (ag i hi).1)
    refine ⟨_, _, rfl, rfl, rfl, ⟨rfl, rfl, ⟨0, by decide, rfl⟩, hb⟩, ⟨cnt, q1, q2, rfl, rfl, okP_agr q3 ag, ?_, ?_, ?_, ?_, ?_⟩, ?_, ⟨rfl, 0, by decide, rfl, fun k h => absurd h (Nat.not_lt_zero k), ?_⟩⟩
    · rw [cn]
    · rw [cn]
    · rw [cn]; exact q5
    · rw [cn]; exact q6
    · intro k hk
      obtain ⟨x1, x2, x3, x4, x5, x6⟩ := q4 k hk
      obtain ⟨y1, y2, y3, y4, y5⟩ := ag k hk
      show cc2 (6 * k) = what2 k ∧ cc2 (6 * k + 1) = to2 k ∧ cc2 (6 * k + 2) = one2 k ∧ cc2 (6 * k + 3) = two2 k ∧ cc2 (6 * k + 4) = told2 k ∧ cc2 (6 * k + 5) = dpD what2 to2 one2 two2 0 k
      rw [y1, y2, y3, y4, y5, hcc2 _ (by omega), hcc2 _ (by omega), hcc2 _ (by omega), hcc2 _ (by omega), hcc2 _ (by omega), hcc2 _ (by omega), dpD_agr 0 (W := what2) (W' := shA what') (T := to2) (T' := shA to') (A := one2) (A' := shA one') (B := two2) (B' := shA two') (fun i hi => ⟨(ag i (by omega)).1, (ag i (by omega)).2.1, (ag i (by omega)).2.2.1, (ag i (by omega)).2.2.2.1⟩)]
      exact ⟨x1, x2, x3, x4, x5, x6⟩
    · intro j hj
      show fillR cins 0 8 j = input2 j ∧ ∃ v : Nat, v ≤ 15 ∧ input2 j = nI v
      unfold fillR
      rw [if_pos hj, hi2 j hj]
      exact ⟨rfl, 0, by decide, rfl⟩
    · intro i h hi hh
      show fillR clies 0 48 (3 * i + h) = 0
      unfold fillR
      rw [if_pos (by omega)]
