/-! a token, read by both -/
def tkR (N n : Nat) (rb : Nat → Int32) (p nx st : Nat) (kd vc vr : Int32) : Prop :=
  (∀ s k v, f_X3_step N (nI n) rb (nI p) s k v = some (nI nx, nI st, kd, vc)) ∧ (∀ s k v, f_X10_next N (nI n) rb (nI p) s k v = some (nI nx, nI st, kd, vr)) ∧ nx ≤ n ∧ st ≤ n ∧ (kd = 5 ∨ kd = 0 ∨ kd = 4 ∨ (kd = 1 ∧ ∃ c : Nat, c ≤ 5 ∧ vc = nI c ∧ vr = nI c) ∨ (kd = 2 ∧ ∃ c : Nat, c < 16 ∧ vc = nI c ∧ vr = nI c) ∨ (kd = 3 ∧ ∃ c : Nat, c ≤ 99 ∧ vc = nI c ∧ vr = nI c))
theorem nI65 {b : Nat} (h : 65 ≤ b) : nI b - 65 = nI (b - 65) := nI_pksub (b := 65) h
theorem lt65 : ∀ b : Nat, b < 256 → 65 ≤ b ∨ nI b - 65 < 0 := by decide +kernel
theorem tok_both (N : Nat) (hN : NB ≤ N) {rb : Nat → Int32} (hb : ∀ j, -128 ≤ (rb j).toInt ∧ (rb j).toInt ≤ 127) {n p : Nat} (hn : n ≤ 300) (hp : p ≤ n) : ∃ (nx st : Nat) (kd vc vr : Int32), tkR N n rb p nx st kd vc vr := by
  obtain ⟨q, q1, q2, q3, q4⟩ := skip_both N hb hn (n - p) p N N (by omega) (by unfold NB at hN; omega) (by unfold NB at hN; omega)
  have main : ∃ (nx st : Nat) (kd vc vr : Int32), (∀ s k v, f_X3_step_37 N (nI n) rb (nI q) s k v = some (nI nx, nI st, kd, vc)) ∧ (∀ s k v, f_X10_next_22 N (nI n) rb (nI q) s k v = some (nI nx, nI st, kd, vr)) ∧ nx ≤ n ∧ st ≤ n ∧ (kd = 5 ∨ kd = 0 ∨ kd = 4 ∨ (kd = 1 ∧ ∃ c : Nat, c ≤ 5 ∧ vc = nI c ∧ vr = nI c) ∨ (kd = 2 ∧ ∃ c : Nat, c < 16 ∧ vc = nI c ∧ vr = nI c) ∨ (kd = 3 ∧ ∃ c : Nat, c ≤ 99 ∧ vc = nI c ∧ vr = nI c)) := by
    by_cases hq : q = n
    · subst hq
      refine ⟨q, q, 0, 0, 0, fun s k v => ?_, fun s k v => ?_, Nat.le_refl _, Nat.le_refl _, Or.inr (Or.inl rfl)⟩
      · unfold f_X3_step_37
        rw [byte_end N hn, Option.bind_some, if_neg (by decide)]
      · unfold f_X10_next_22
        rw [here_end, Option.bind_some, if_neg (by decide)]
    have hqn : q < n := by omega
    have hbl := (bv_eq (hb q)).2.1
    have hpos : (0 : Int32) ≤ nI (bvN rb q) := nI_pos' (by omega)
    by_cases cs : 97 ≤ bvN rb q ∧ bvN rb q ≤ 122
    · obtain ⟨e, e1, e2, e3, e4, e5⟩ := wrd_both N hb (n := n) (q := q) hn (n - q - 1) 1 (N - 1) (N - 1) (by omega) (by unfold NB at hN; omega) (by unfold NB at hN; omega) (fun i hi => by rw [show i = 0 by omega]; exact cs)
      obtain ⟨zc, zr, w1, w2, w3⟩ := word_both N hb hn e1 e2 e3
      obtain ⟨f, ef⟩ : ∃ f, N = f + 1 := ⟨N - 1, by unfold NB at hN; omega⟩
      have h9 : ∀ k, f_X3_readWord N (nI q) (nI n) rb (nI q) k 0 = f_X3_readWord_71 N (nI q) (nI n) rb (nI (q + e)) k 0 (nI (pkN rb q e)) := by
        intro k
        refine Eq.trans ?_ (e4 k 0)
        unfold f_X3_readWord
        rw [show f_X3_readWord_2 N (nI q) (nI n) rb N (nI q) k 0 0 = f_X3_readWord_2 N (nI q) (nI n) rb (N - 1 + 1) (nI q) k 0 0 by rw [show N - 1 + 1 = N by omega], u_X3_readWord_2]
        unfold s_X3_readWord_2
        rw [if_neg (nI_ge hqn (by omega)), byte_lt N hb hn hqn, Option.bind_some, small9 N (by omega), Option.bind_some, if_pos cs, if_neg (by decide), nI_pksub (Nat.le_refl q), Nat.sub_self, if_neg (by decide), Option.bind_some]
        unfold f_X3_readWord_57
        rw [nI_1, show (0 : Int32) = nI 0 from rfl, shl8 (by decide) hbl]
        rfl
      have h10 : ∀ so, f_X10_next_66 N (nI n) rb N (nI q) (nI q) so 0 = f_X10_next_96 N (nI n) rb (nI (q + e)) (nI q) so 0 := by
        intro so
        refine Eq.trans ?_ (e5 (nI q) so 0)
        rw [show f_X10_next_66 N (nI n) rb N (nI q) (nI q) so 0 = f_X10_next_66 N (nI n) rb (N - 1 + 1) (nI q) (nI q) so 0 by rw [show N - 1 + 1 = N by omega], u_X10_next_66]
        unfold s_X10_next_66
        rw [here_lt N hb hn hqn, Option.bind_some, small10 N (by omega), Option.bind_some, if_pos cs, if_neg (by decide), nI_1]
      rcases w3 with ⟨rfl, rfl⟩ | ⟨c, hc, rfl, rfl⟩
      · refine ⟨q + e, q, 5, -1, -9, fun s k v => ?_, fun s k v => ?_, e2, q2, Or.inl rfl⟩
        · unfold f_X3_step_37
          rw [byte_lt N hb hn hqn, Option.bind_some, if_pos hpos, small9 N (by omega), Option.bind_some, if_pos cs, if_neg (by decide), h9]
          unfold f_X3_readWord_71 f_X3_readWord_92
          rw [w1, Option.bind_some, if_neg (by decide)]
          rfl
        · unfold f_X10_next_22
          rw [here_lt N hb hn hqn, Option.bind_some, if_pos hpos, small10 N (by omega), Option.bind_some, if_pos cs, if_neg (by decide), h10]
          unfold f_X10_next_96 f_X10_next_119
          rw [w2, Option.bind_some, if_pos rfl]
      · refine ⟨q + e, q, 1, nI c, nI c, fun s k v => ?_, fun s k v => ?_, e2, q2, Or.inr (Or.inr (Or.inr (Or.inl ⟨rfl, c, hc, rfl, rfl⟩)))⟩
        · unfold f_X3_step_37
          rw [byte_lt N hb hn hqn, Option.bind_some, if_pos hpos, small9 N (by omega), Option.bind_some, if_pos cs, if_neg (by decide), h9]
          unfold f_X3_readWord_71 f_X3_readWord_92
          rw [w1, Option.bind_some, if_pos (nI_pos' (by omega))]
          rfl
        · unfold f_X10_next_22
          rw [here_lt N hb hn hqn, Option.bind_some, if_pos hpos, small10 N (by omega), Option.bind_some, if_pos cs, if_neg (by decide), h10]
          unfold f_X10_next_96 f_X10_next_119
          rw [w2, Option.bind_some, if_neg (fun z => by
            have h1 := nI_pos' (n := c) (by omega)
            rw [z] at h1
            exact absurd h1 (by decide))]
    by_cases cd : 48 ≤ bvN rb q ∧ bvN rb q ≤ 57
    · obtain ⟨e, e1, e2, e3, e6, e4, e5⟩ := dig_both N hb (n := n) (q := q) hn (n - q) 0 N N (by omega) (by unfold NB at hN; omega) (by unfold NB at hN; omega) (fun i hi => absurd hi (Nat.not_lt_zero i))
      have he1 : 1 ≤ e := by
        rcases Nat.eq_zero_or_pos e with z | z
        · rcases e6 z with y | y
          · omega
          · exact absurd cd y
        · exact z
      have h0 := e3 0 (by omega)
      rw [Nat.add_zero] at h0
      have d1 : dcN rb q 1 = bvN rb q - 48 := by show 0 * 10 + bvN rb (q + 0) - 48 = _; rw [Nat.add_zero]; omega
      have r1 : drN rb q 1 = bvN rb q - 48 := by show 10 * 0 + bvN rb (q + 0) - 48 = _; rw [Nat.add_zero]; omega
      have d2 : dcN rb q 2 = dcN rb q 1 * 10 + bvN rb (q + 1) - 48 := rfl
      have r2 : drN rb q 2 = 10 * drN rb q 1 + bvN rb (q + 1) - 48 := by rw [drN_s, if_pos (by omega)]
      have hdc := (dcN_b rb q e e3).1
      have hdr := drN_b rb q e e3
      have h9 : ∀ k, f_X3_readDigits N (nI q) (nI n) rb (nI q) k 0 = f_X3_readDigits_93 N (nI q) (nI n) rb (nI (q + e)) k (nI (dcN rb q e)) (if bvN rb q = 48 then 1 else 0) := by
        intro k
        unfold f_X3_readDigits
        rw [byte_lt N hb hn hqn, Option.bind_some]
        by_cases z : bvN rb q = 48
        · rw [if_pos (show nI (bvN rb q) = 48 by rw [z]; rfl), if_pos z]
          exact e4 k 1
        · rw [if_neg (show ¬ nI (bvN rb q) = 48 from fun y => z ((nI_eq (b := 48) (by omega) (by decide)).mp y)), if_neg z]
          exact e4 k 0
      have h10 : ∀ so, f_X10_next_139 N (nI n) rb N (nI q) (nI q) so 0 (nI (bvN rb q)) = f_X10_next_204 N (nI n) rb (nI (q + e)) (nI q) so (nI (drN rb q e)) (nI (bvN rb q)) := fun so => e5 (nI q) so (nI (bvN rb q))
      have dec : ((e = 1 ∨ (e = 2 ∧ bvN rb q ≠ 48)) ∧ dcN rb q e = drN rb q e ∧ drN rb q e ≤ 99) ∨ ((e ≠ 1 ∧ (e = 2 → bvN rb q = 48)) ∧ (bvN rb q = 48 ∨ 99 < drN rb q e)) := by
        rcases (show e = 1 ∨ e = 2 ∨ 3 ≤ e by omega) with z | z | z
        · subst z
          exact Or.inl ⟨Or.inl rfl, by omega, by omega⟩
        · subst z
          by_cases y : bvN rb q = 48
          · exact Or.inr ⟨⟨by omega, fun _ => y⟩, Or.inl y⟩
          · have h1 := e3 1 (by omega)
            exact Or.inl ⟨Or.inr ⟨rfl, y⟩, by omega, by omega⟩
        · refine Or.inr ⟨⟨by omega, fun y => by omega⟩, ?_⟩
          by_cases y : bvN rb q = 48
          · exact Or.inl y
          · exact Or.inr (drN_hi rb q (by rw [Nat.add_zero]; omega) e z e3)
      rcases dec with ⟨c1, c2, c3⟩ | ⟨⟨c1, c2⟩, c3⟩
      · refine ⟨q + e, q, 3, nI (drN rb q e), nI (drN rb q e), fun s k v => ?_, fun s k v => ?_, e2, q2, Or.inr (Or.inr (Or.inr (Or.inr (Or.inr ⟨rfl, _, c3, rfl, rfl⟩))))⟩
        · unfold f_X3_step_37
          rw [byte_lt N hb hn hqn, Option.bind_some, if_pos hpos, small9 N (by omega), Option.bind_some, if_neg cs, if_pos rfl, digit9 N (by omega), Option.bind_some, if_pos cd, if_neg (by decide), h9, c2]
          unfold f_X3_readDigits_93 f_X3_readDigits_122 f_X3_readDigits_123
          rw [nI_pksub (show q ≤ q + e by omega), show q + e - q = e by omega, if_neg (show ¬ (2 : Int32) < nI e from nI_nlt (a := 2) (by omega) (by decide))]
          rcases c1 with z | ⟨z, y⟩
          · rw [if_neg (show ¬ nI e = 2 by rw [z]; decide)]; rfl
          · rw [if_pos (show nI e = 2 by rw [z]; rfl), if_neg y, if_pos rfl]; rfl
        · unfold f_X10_next_22
          rw [here_lt N hb hn hqn, Option.bind_some, if_pos hpos, small10 N (by omega), Option.bind_some, if_neg cs, if_pos rfl, digit10 N (by omega), Option.bind_some, if_pos cd, if_neg (by decide), h10]
          unfold f_X10_next_204 f_X10_next_237 f_X10_next_238
          rw [if_neg (show ¬ (99 : Int32) < nI (drN rb q e) from nI_nlt (a := 99) c3 (by decide)), nI_pksub (show q ≤ q + e by omega), show q + e - q = e by omega]
          rcases c1 with z | ⟨z, y⟩
          · rw [if_pos (show nI e ≤ 1 by rw [z]; decide)]
            split <;> rfl
          · rw [if_neg (show ¬ nI (bvN rb q) = 48 from fun x => y ((nI_eq (b := 48) (by omega) (by decide)).mp x))]
      · refine ⟨q + e, q, 5, nI (dcN rb q e), nI (drN rb q e), fun s k v => ?_, fun s k v => ?_, e2, q2, Or.inl rfl⟩
        · unfold f_X3_step_37
          rw [byte_lt N hb hn hqn, Option.bind_some, if_pos hpos, small9 N (by omega), Option.bind_some, if_neg cs, if_pos rfl, digit9 N (by omega), Option.bind_some, if_pos cd, if_neg (by decide), h9]
          unfold f_X3_readDigits_93 f_X3_readDigits_122 f_X3_readDigits_123
          rw [nI_pksub (show q ≤ q + e by omega), show q + e - q = e by omega]
          by_cases z : e = 2
          · rw [if_neg (show ¬ (2 : Int32) < nI e by rw [z]; decide), if_pos (show nI e = 2 by rw [z]; rfl), if_pos (c2 z), if_neg (by decide)]; rfl
          · rw [if_pos (show (2 : Int32) < nI e from nI_lt (a := 2) (by omega) (by omega))]; rfl
        · unfold f_X10_next_22
          rw [here_lt N hb hn hqn, Option.bind_some, if_pos hpos, small10 N (by omega), Option.bind_some, if_neg cs, if_pos rfl, digit10 N (by omega), Option.bind_some, if_pos cd, if_neg (by decide), h10]
          unfold f_X10_next_204 f_X10_next_237 f_X10_next_238
          rw [nI_pksub (show q ≤ q + e by omega), show q + e - q = e by omega]
          by_cases z : 99 < drN rb q e
          · rw [if_pos (show (99 : Int32) < nI (drN rb q e) from nI_lt (a := 99) z (by omega))]
          · rw [if_neg (show ¬ (99 : Int32) < nI (drN rb q e) from nI_nlt (a := 99) (by omega) (by decide)), if_pos (show nI (bvN rb q) = 48 by rw [c3.resolve_right z]; rfl), if_neg (show ¬ nI e ≤ 1 from nI_ge (a := 1) (by omega) (by omega))]
    by_cases cl : 65 ≤ bvN rb q ∧ bvN rb q ≤ 80
    · refine ⟨q + 1, q, 2, nI (bvN rb q - 65), nI (bvN rb q - 65), fun s k v => ?_, fun s k v => ?_, by omega, q2, Or.inr (Or.inr (Or.inr (Or.inr (Or.inl ⟨rfl, _, by omega, rfl, rfl⟩))))⟩
      · unfold f_X3_step_37
        rw [byte_lt N hb hn hqn, Option.bind_some, if_pos hpos, small9 N (by omega), Option.bind_some, if_neg cs, if_pos rfl, digit9 N (by omega), Option.bind_some, if_neg cd, if_pos rfl, if_neg (show ¬ nI (bvN rb q) = 59 from fun x => by have := (nI_eq (b := 59) (by omega) (by decide)).mp x; omega), nI65 cl.1, within_eq, Option.bind_some, if_neg (show ¬ (nI (bvN rb q - 65) < 0 ∨ 15 < nI (bvN rb q - 65)) from fun x => x.elim (nI_pos (by omega)) (nI_nlt (a := 15) (by omega) (by decide))), if_neg (by decide), nI_1]
        rfl
      · unfold f_X10_next_22
        rw [here_lt N hb hn hqn, Option.bind_some, if_pos hpos, small10 N (by omega), Option.bind_some, if_neg cs, if_pos rfl, digit10 N (by omega), Option.bind_some, if_neg cd, if_pos rfl, letter10 N (by omega), Option.bind_some, if_pos cl, if_neg (by decide), nI65 cl.1, nI_1]
        rfl
    · by_cases ct : bvN rb q = 59
      · refine ⟨q + 1, q, 4, nI (bvN rb q) - 65, nI (bvN rb q) - 65, fun s k v => ?_, fun s k v => ?_, by omega, q2, Or.inr (Or.inr (Or.inl rfl))⟩
        · unfold f_X3_step_37
          rw [byte_lt N hb hn hqn, Option.bind_some, if_pos hpos, small9 N (by omega), Option.bind_some, if_neg cs, if_pos rfl, digit9 N (by omega), Option.bind_some, if_neg cd, if_pos rfl, if_pos (show nI (bvN rb q) = 59 by rw [ct]; rfl), nI_1]
          rfl
        · unfold f_X10_next_22
          rw [here_lt N hb hn hqn, Option.bind_some, if_pos hpos, small10 N (by omega), Option.bind_some, if_neg cs, if_pos rfl, digit10 N (by omega), Option.bind_some, if_neg cd, if_pos rfl, letter10 N (by omega), Option.bind_some, if_neg cl, if_pos rfl, if_pos (show nI (bvN rb q) = 59 by rw [ct]; rfl), nI_1]
          rfl
      · have ct' : ¬ nI (bvN rb q) = 59 := fun x => ct ((nI_eq (b := 59) (by omega) (by decide)).mp x)
        refine ⟨q + 1, q, 5, nI (bvN rb q) - 65, nI (bvN rb q) - 65, fun s k v => ?_, fun s k v => ?_, by omega, q2, Or.inl rfl⟩
        · unfold f_X3_step_37
          rw [byte_lt N hb hn hqn, Option.bind_some, if_pos hpos, small9 N (by omega), Option.bind_some, if_neg cs, if_pos rfl, digit9 N (by omega), Option.bind_some, if_neg cd, if_pos rfl, if_neg ct', within_eq, Option.bind_some, if_pos (show nI (bvN rb q) - 65 < 0 ∨ 15 < nI (bvN rb q) - 65 from by
            rcases Nat.lt_or_ge (bvN rb q) 65 with z | z
            · exact Or.inl ((lt65 (bvN rb q) (by omega)).resolve_left (by omega))
            · rw [nI65 z]
              exact Or.inr (nI_lt (a := 15) (by omega) (by omega))), if_pos rfl, nI_1]
          rfl
        · unfold f_X10_next_22
          rw [here_lt N hb hn hqn, Option.bind_some, if_pos hpos, small10 N (by omega), Option.bind_some, if_neg cs, if_pos rfl, digit10 N (by omega), Option.bind_some, if_neg cd, if_pos rfl, letter10 N (by omega), Option.bind_some, if_neg cl, if_pos rfl, if_neg ct', nI_1]
          rfl
  obtain ⟨nx, st, kd, vc, vr, m1, m2, m3, m4, m5⟩ := main
  refine ⟨nx, st, kd, vc, vr, fun s k v => ?_, fun s k v => ?_, m3, m4, m5⟩
  · unfold f_X3_step
    rw [q3]
    exact m1 s k v
  · unfold f_X10_next
    rw [q4]
    exact m2 s k v
