/-! letters, numbers, words of an item -/
theorem flt268 (N : Nat) {n k f : Nat} {rb : Nat → Int32} (items lies : Int32) {what0 to0 one0 two0 told0 : Nat → Int32} (input : Nat → Int32) {what to one two told : Nat → Int32} (hbl : blw what what0 ∧ blw to to0 ∧ blw one one0 ∧ blw two two0 ∧ blw told told0) {s : Nat} (hs : s ≤ 300) (at_ st so va bc y1 y2 y3 y6 y8 : Int32) : RF n items lies what0 to0 one0 two0 told0 input s (f_X10_program_268 N rb (f_X10_program_29 N rb (f + 1)) (nI n) items at_ st so va (nI s) bc lies what to one two told input y1 y2 y3 y6 y8) :=
  ⟨at_, st, so, va, nI s, bc ||| 0, what, to, one, two, told, hbl, ff268 N n f rb items at_ st so va s hs bc lies what to one two told input y1 y2 y3 y6 y8⟩
theorem flt193 (N : Nat) {n k f : Nat} {rb : Nat → Int32} (hk : k < 16) (items lies : Int32) {what0 to0 one0 two0 told0 : Nat → Int32} (input : Nat → Int32) {what to one two told : Nat → Int32} (hbl : blw what what0 ∧ blw to to0 ∧ blw one one0 ∧ blw two two0 ∧ blw told told0) {s : Nat} (hs : s ≤ 300) (at_ st so va bc y1 y2 y3 y6 y8 : Int32) : RF n items lies what0 to0 one0 two0 told0 input s (f_X10_program_193 N rb (f_X10_program_29 N rb (f + 1)) (nI n) items at_ st so va (nI s) bc lies what to one two told input y1 y2 y3 y6 (nI (16 + k)) y8) :=
  ⟨at_, st, so, va, nI s, bc ||| 0, what, to, one, two, upd told (16 + k) va, ⟨hbl.1, hbl.2.1, hbl.2.2.1, hbl.2.2.2.1, blw_upd hbl.2.2.2.2 k va⟩, ff193 N n f rb items at_ st so va s hs bc lies what to one two told input hk y1 y2 y3 y6 y8⟩
/-- a number -/
theorem numB (N : Nat) (hN : NB ≤ N) {rb : Nat → Int32} (hb : ∀ j, -128 ≤ (rb j).toInt ∧ (rb j).toInt ≤ 127) {n : Nat} (hn : n ≤ 300) {k bm : Nat} (hk : k < 16) {cc dp W T A B D : Nat → Int32} (hD : DR k bm cc dp W T A B D) (c0 : cntW W 0 k ≤ 4) (c4 : cntW W 4 k ≤ 4) (f : Nat) (items lies : Int32) {what0 to0 one0 two0 told0 : Nat → Int32} (input : Nat → Int32) {p nx st : Nat} {kd vc vr : Int32} (tk : tkR N n rb p nx st kd vc vr) (s0 k0 v0 : Int32) {what to one two told : Nat → Int32} (hbl : blw what what0 ∧ blw to to0 ∧ blw one one0 ∧ blw two two0 ∧ blw told told0) {c c1 most : Nat} (hc : c ≤ 1) (h15 : k < 15) (hm : most = if c = 0 then 2 else 15) (hc1 : c1 < 16) (hnew : bm.testBit c1 = false) (h0 : c = 0 → cntW W 0 k < 4) (e1 : shA what = upd W k (nI c)) (e2 : shA to = upd T k (nI c1)) (e3 : shA one = upd A k (-9)) (e4 : shA two = upd B k (-9)) (e5 : shA told = upd D k (-9)) :
    Out N n rb k f items lies what0 to0 one0 two0 told0 input (f_X3_readItem_102 N (nI n) rb (nI p) s0 k0 v0 (nI bm) (nI k) (nI (cntW W 0 k)) (nI (cntW W 4 k)) cc dp (nI c) (nI c1) (-9) (-9) (nI most)) (f_X10_program_193 N rb (f_X10_program_29 N rb (f + 1)) (nI n) items (nI nx) (nI st) kd vr (-9) (nI bm) lies what to one two told input (nI k) (nI (cntW W 0 k)) (nI (cntW W 4 k)) (nI c) (nI (16 + k)) (nI c1)) := by
  have tk' := tk
  obtain ⟨tk1, tk2, tk3, tk4, tk5⟩ := tk
  have hm15 : most ≤ 15 := by rw [hm]; split <;> omega
  unfold f_X3_readItem_102 f_X3_readNumber
  rw [tk1, Option.bind_some]
  have bad : (∀ y6 y8 : Int32, True) → RF n items lies what0 to0 one0 two0 told0 input st (f_X10_program_230 N rb (f_X10_program_29 N rb (f + 1)) (nI n) items (nI nx) (nI st) kd vr (-9) (nI bm) lies what to one two told input (nI k) (nI (cntW W 0 k)) (nI (cntW W 4 k)) (nI c) (nI c1) (nI (16 + k))) := by
    intro _
    unfold f_X10_program_230 f_X10_program_231
    rw [due_0, Option.bind_some, if_pos (gin_nI (show 16 + k < 32 by omega) (by decide)), nI_clamp (by omega)]
    exact flt268 N (k := k) items lies input ⟨hbl.1, hbl.2.1, hbl.2.2.1, hbl.2.2.2.1, blw_upd hbl.2.2.2.2 k vr⟩ (show st ≤ 300 by omega) _ _ _ _ _ _ _ _ _ _
  by_cases q : kd = 3
  · subst q
    have hv : ∃ v : Nat, v ≤ 99 ∧ vc = nI v ∧ vr = nI v := by
      rcases tk5 with z | z | z | ⟨z, _⟩ | ⟨z, _⟩ | ⟨_, z⟩
      · exact absurd z (by decide)
      · exact absurd z (by decide)
      · exact absurd z (by decide)
      · exact absurd z (by decide)
      · exact absurd z (by decide)
      · exact z
    obtain ⟨v, hv, rfl, rfl⟩ := hv
    have hmost : f_X10_program_193 N rb (f_X10_program_29 N rb (f + 1)) (nI n) items (nI nx) (nI st) 3 (nI v) (-9) (nI bm) lies what to one two told input (nI k) (nI (cntW W 0 k)) (nI (cntW W 4 k)) (nI c) (nI (16 + k)) (nI c1) = f_X10_program_223 N rb (f_X10_program_29 N rb (f + 1)) (nI n) items (nI nx) (nI st) 3 (nI v) (-9) (nI bm) lies what to one two told input (nI k) (nI (cntW W 0 k)) (nI (cntW W 4 k)) (nI c) (nI c1) (nI (16 + k)) (nI v) (nI most) := by
      unfold f_X10_program_193
      rw [if_pos rfl, hm]
      by_cases z : c = 0
      · rw [if_pos (show nI c = 0 by rw [z]; rfl), if_pos z]
        rfl
      · rw [if_neg (nI_ne0 (by omega) (by omega)), if_neg z]
        rfl
    rw [hmost, if_pos rfl]
    unfold f_X10_program_223
    rcases Nat.lt_or_ge most v with g | g
    · rw [if_pos (nI_lt g (by omega)), if_pos (nI_lt g (by omega)), Option.bind_some, if_neg (by show ¬ (0 : Int32) ≤ (-1 : Int32); decide)]
      exact Or.inl ⟨st, tk4, ⟨_, _, _, _, _, _, _, 0, _, _, rfl, rfl⟩, bad (fun _ _ => trivial)⟩
    · obtain ⟨nx2, st2, kd2, vc2, vr2, tt⟩ := tok_both N hN hb hn tk3
      rw [if_neg (nI_nlt g (by omega)), if_neg (nI_nlt g (by omega)), Option.bind_some, if_pos (show (0 : Int32) ≤ nI v from nI_pos' (by omega))]
      unfold f_X10_program_231
      rw [due_1 tt, Option.bind_some, if_pos (gin_nI (show 16 + k < 32 by omega) (by decide)), nI_clamp (by omega)]
      refine stopIn N hN hb hn hk hD c0 c4 f items lies input tt (nI st) 3 (nI v) ⟨hbl.1, hbl.2.1, hbl.2.2.1, hbl.2.2.2.1, blw_upd hbl.2.2.2.2 k (nI v)⟩ (by omega) h15 hc1 hnew ?_ h0 (fun z => by omega) e1 e2 e3 e4 (by rw [sh_upd, e5, upd_upd])
      rcases (show c = 0 ∨ c = 1 by omega) with z | z
      · rw [if_pos z] at hm
        exact Or.inl ⟨z, rfl, rfl, v, by omega, rfl⟩
      · rw [if_neg (by omega)] at hm
        exact Or.inr (Or.inl ⟨z, rfl, rfl, v, by omega, rfl⟩)
  · rw [if_neg q, Option.bind_some, if_neg (by show ¬ (0 : Int32) ≤ (-1 : Int32); decide)]
    refine Or.inl ⟨st, tk4, ⟨_, _, _, _, _, _, _, 0, _, _, rfl, rfl⟩, ?_⟩
    unfold f_X10_program_193
    rw [if_neg q]
    exact bad (fun _ _ => trivial)
/-- a token that is a letter, one that has become something or not, or else a fault -/
theorem let_case {N n : Nat} {rb : Nat → Int32} {p nx st : Nat} {kd vc vr : Int32} (tk : tkR N n rb p nx st kd vc vr) (s0 k0 v0 : Int32) (bm : Nat) (is : Bool) : (kd = 2 ∧ ∃ c : Nat, c < 16 ∧ vc = nI c ∧ vr = nI c ∧ bm.testBit c = is) ∨ (¬ kd = 2 ∨ ∃ c : Nat, c < 16 ∧ vc = nI c ∧ vr = nI c ∧ bm.testBit c ≠ is) := by
  by_cases q : kd = 2
  · have hv : ∃ v : Nat, v < 16 ∧ vc = nI v ∧ vr = nI v := by
      rcases tk.2.2.2.2 with z | z | z | ⟨z, _⟩ | ⟨_, z⟩ | ⟨z, _⟩
      · rw [q] at z; exact absurd z (by decide)
      · rw [q] at z; exact absurd z (by decide)
      · rw [q] at z; exact absurd z (by decide)
      · rw [q] at z; exact absurd z (by decide)
      · exact z
      · rw [q] at z; exact absurd z (by decide)
    obtain ⟨v, hv, e1, e2⟩ := hv
    by_cases g : bm.testBit v = is
    · exact Or.inl ⟨q, v, hv, e1, e2, g⟩
    · exact Or.inr (Or.inr ⟨v, hv, e1, e2, g⟩)
  · exact Or.inr (Or.inl q)
theorem become_I (N : Nat) {bm c : Nat} (hb : bm < 65536) (hc : c < 16) : f_X2_hasBecome N (nI bm) (nI c) = some (if bm.testBit c = true then 1 else 0) := by
  unfold f_X2_hasBecome
  rw [bitI hb hc]
  by_cases z : bm.testBit c = true
  · rw [if_pos z, if_pos rfl]
  · rw [if_neg z, if_neg (by decide)]
theorem used_1 {N n : Nat} {rb : Nat → Int32} {p nx st : Nat} {kd vc vr : Int32} (tk : tkR N n rb p nx st kd vc vr) (s0 k0 v0 : Int32) {bm c : Nat} (hb : bm < 65536) (hk : kd = 2) (hc : c < 16) (ev : vc = nI c) (h : bm.testBit c = true) : f_X3_readUsed N (nI bm) (nI n) rb (nI p) s0 k0 v0 = some (nI c, nI nx, nI st, kd, vc) := by
  unfold f_X3_readUsed
  rw [tk.1, Option.bind_some, if_pos hk, ev, become_I N hb hc, Option.bind_some, if_pos h, if_neg (by decide)]
theorem used_0 {N n : Nat} {rb : Nat → Int32} {p nx st : Nat} {kd vc vr : Int32} (tk : tkR N n rb p nx st kd vc vr) (s0 k0 v0 : Int32) {bm : Nat} (hb : bm < 65536) (h : ¬ kd = 2 ∨ ∃ c : Nat, c < 16 ∧ vc = nI c ∧ vr = nI c ∧ bm.testBit c ≠ true) : f_X3_readUsed N (nI bm) (nI n) rb (nI p) s0 k0 v0 = some ((-1 : Int32), nI nx, nI st, kd, vc) := by
  unfold f_X3_readUsed
  rw [tk.1, Option.bind_some]
  by_cases hk : kd = 2
  · obtain ⟨c, hc, ev, _, h1⟩ := h.resolve_left (fun z => z hk)
    rw [if_pos hk, ev, become_I N hb hc, Option.bind_some, if_neg h1, if_pos rfl]
  · rw [if_neg hk]
/-- two letters that were used before -/
theorem twoB (N : Nat) (hN : NB ≤ N) {rb : Nat → Int32} (hb : ∀ j, -128 ≤ (rb j).toInt ∧ (rb j).toInt ≤ 127) {n : Nat} (hn : n ≤ 300) {k bm : Nat} (hk : k < 16) {cc dp W T A B D : Nat → Int32} (hD : DR k bm cc dp W T A B D) (c0 : cntW W 0 k ≤ 4) (c4 : cntW W 4 k ≤ 4) (f : Nat) (items lies : Int32) {what0 to0 one0 two0 told0 : Nat → Int32} (input : Nat → Int32) {p nx st : Nat} {kd vc vr : Int32} (tk : tkR N n rb p nx st kd vc vr) (s0 k0 v0 : Int32) {what to one two told : Nat → Int32} (hbl : blw what what0 ∧ blw to to0 ∧ blw one one0 ∧ blw two two0 ∧ blw told told0) {c c1 : Nat} (h2 : 2 ≤ c) (hc : c ≤ 4) (h15 : k < 15) (hc1 : c1 < 16) (hnew : bm.testBit c1 = false) (h4 : c = 4 → cntW W 4 k < 4) (e1 : shA what = upd W k (nI c)) (e2 : shA to = upd T k (nI c1)) (e3 : shA one = upd A k (-9)) (e4 : shA two = upd B k (-9)) (e5 : shA told = upd D k (-9)) :
    Out N n rb k f items lies what0 to0 one0 two0 told0 input ((f_X3_readUsed N (nI bm) (nI n) rb (nI p) s0 k0 v0).bind (fun z_121 => if 0 ≤ z_121.1 then ((f_X3_readUsed N (nI bm) (nI n) rb z_121.2.1 z_121.2.2.1 z_121.2.2.2.1 z_121.2.2.2.2).bind (fun z_135 => if 0 ≤ z_135.1 then (f_X3_readItem_147 N (nI n) rb z_135.2.1 z_135.2.2.1 z_135.2.2.2.1 z_135.2.2.2.2 (nI bm) (nI k) (nI (cntW W 0 k)) (nI (cntW W 4 k)) cc dp (nI c) (nI c1) z_121.1 z_135.1 (-9 : Int32)) else (some ((-1 : Int32), z_135.2.1, z_135.2.2.1, z_135.2.2.2.1, z_135.2.2.2.2, nI bm, nI k, nI (cntW W 0 k), nI (cntW W 4 k), cc, dp)))) else (some ((-1 : Int32), z_121.2.1, z_121.2.2.1, z_121.2.2.2.1, z_121.2.2.2.2, nI bm, nI k, nI (cntW W 0 k), nI (cntW W 4 k), cc, dp))))
      ((f_X10_letter N (nI n) (nI bm) rb (1 : Int32) (nI nx) (nI st) kd vr (-9)).bind (fun z_252 => if gin (nI (16 + k)) 32 = true then (f_X10_letter N (nI n) (nI bm) rb (1 : Int32) z_252.2.1 z_252.2.2.1 z_252.2.2.2.1 z_252.2.2.2.2.1 z_252.2.2.2.2.2).bind (fun z_264 => if gin (nI (16 + k)) 32 = true then f_X10_program_268 N rb (f_X10_program_29 N rb (f + 1)) (nI n) items z_264.2.1 z_264.2.2.1 z_264.2.2.2.1 z_264.2.2.2.2.1 z_264.2.2.2.2.2 (nI bm) lies what to (upd one (nI (16 + k)).toNatClampNeg z_252.1) (upd two (nI (16 + k)).toNatClampNeg z_264.1) told input (nI k) (nI (cntW W 0 k)) (nI (cntW W 4 k)) (nI c) (nI c1) else none) else none)) := by
  have hbm := hD.1
  have hg : gin (nI (16 + k)) 32 = true := gin_nI (show 16 + k < 32 by omega) (by decide)
  have hcl : (nI (16 + k)).toNatClampNeg = 16 + k := nI_clamp (by omega)
  have tk3 := tk.2.2.1
  have tk4 := tk.2.2.2.1
  rcases let_case tk s0 k0 v0 bm true with ⟨q, u, hu, eu1, eu2, bu⟩ | bad
  · obtain ⟨nx2, st2, kd2, vc2, vr2, tt⟩ := tok_both N hN hb hn tk3
    have tt3 := tt.2.2.1
    have tt4 := tt.2.2.2.1
    rw [used_1 tk s0 k0 v0 hbm q hu eu1 bu, Option.bind_some, if_pos (show (0 : Int32) ≤ nI u from nI_pos' (by omega)), q, eu2, show f_X10_letter N (nI n) (nI bm) rb (1 : Int32) (nI nx) (nI st) 2 (nI u) (-9) = _ from let_1 tt (nI st) hbm hu true bu, Option.bind_some, if_pos hg, hcl]
    rcases let_case tt s0 k0 v0 bm true with ⟨q2, u2, hu2, ev1, ev2, bu2⟩ | bad2
    · obtain ⟨nx3, st3, kd3, vc3, vr3, t3⟩ := tok_both N hN hb hn tt3
      rw [used_1 tt _ _ _ hbm q2 hu2 ev1 bu2, Option.bind_some, if_pos (show (0 : Int32) ≤ nI u2 from nI_pos' (by omega))]
      simp only []
      rw [q2, ev2, show f_X10_letter N (nI n) (nI bm) rb (1 : Int32) (nI nx2) (nI st2) 2 (nI u2) (-9) = _ from let_1 t3 (nI st2) hbm hu2 true bu2, Option.bind_some, if_pos hg]
      exact stopIn N hN hb hn hk hD c0 c4 f items lies input t3 (nI st2) 2 vc2 ⟨hbl.1, hbl.2.1, blw_upd hbl.2.2.1 k (nI u), blw_upd hbl.2.2.2.1 k (nI u2), hbl.2.2.2.2⟩ hc h15 hc1 hnew (Or.inr (Or.inr ⟨h2, hc, ⟨u, hu, bu, rfl⟩, ⟨u2, hu2, bu2, rfl⟩, rfl⟩)) (fun z => by omega) h4 e1 e2 (by rw [sh_upd, e3, upd_upd]) (by rw [sh_upd, e4, upd_upd]) e5
    · rw [used_0 tt _ _ _ hbm bad2, Option.bind_some, if_neg (by show ¬ (0 : Int32) ≤ (-1 : Int32); decide)]
      refine Or.inl ⟨st2, tt4, ⟨_, _, _, _, _, _, _, 0, _, _, rfl, rfl⟩, ?_⟩
      simp only []
      rw [show f_X10_letter N (nI n) (nI bm) rb (1 : Int32) (nI nx2) (nI st2) kd2 vr2 (-9) = _ from let_0 N (nI n) rb (nI nx2) (nI st2) kd2 vr2 hbm true (bad2.imp id (fun ⟨x, hx, _, ex, bx⟩ => ⟨x, hx, ex, bx⟩)), Option.bind_some, if_pos hg]
      exact flt268 N (k := k) items lies input ⟨hbl.1, hbl.2.1, blw_upd hbl.2.2.1 k (nI u), blw_upd hbl.2.2.2.1 k vr2, hbl.2.2.2.2⟩ (show st2 ≤ 300 by omega) _ _ _ _ _ _ _ _ _ _
  · rw [used_0 tk _ _ _ hbm bad, Option.bind_some, if_neg (by show ¬ (0 : Int32) ≤ (-1 : Int32); decide)]
    refine Or.inl ⟨st, tk4, ⟨_, _, _, _, _, _, _, 0, _, _, rfl, rfl⟩, ?_⟩
    rw [show f_X10_letter N (nI n) (nI bm) rb (1 : Int32) (nI nx) (nI st) kd vr (-9) = _ from let_0 N (nI n) rb (nI nx) (nI st) kd vr hbm true (bad.imp id (fun ⟨x, hx, _, ex, bx⟩ => ⟨x, hx, ex, bx⟩)), Option.bind_some, if_pos hg, hcl]
    simp only []
    rw [let_f N (nI n) (nI bm) rb 1 (nI nx) (nI st) kd vr (show st ≤ 300 by omega), Option.bind_some, if_pos hg]
    exact flt268 N (k := k) items lies input ⟨hbl.1, hbl.2.1, blw_upd hbl.2.2.1 k vr, blw_upd hbl.2.2.2.1 k vr, hbl.2.2.2.2⟩ (show st ≤ 300 by omega) _ _ _ _ _ _ _ _ _ _
