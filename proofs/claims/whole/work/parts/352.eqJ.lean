/-! typed bytes: shifted with or without sign, the low eight bits are the same -/
theorem byte_b (v : BitVec 64) (c : Nat) (hc : c ≤ 56) : ((v >>> c).setWidth 32 &&& 255#32).setWidth 8 = ((v.sshiftRight c &&& 255#64).setWidth 32).setWidth 8 := by
  apply BitVec.eq_of_getLsbD_eq
  intro i hi
  have h8 : i < 32 := by omega
  have h64 : i < 64 := by omega
  have h6 : c + i < 64 := by omega
  have e1 : (255#32).getLsbD i = true := by
    match i, hi with
    | 0, _ => rfl
    | 1, _ => rfl
    | 2, _ => rfl
    | 3, _ => rfl
    | 4, _ => rfl
    | 5, _ => rfl
    | 6, _ => rfl
    | 7, _ => rfl
  have e2 : (255#64).getLsbD i = true := by
    match i, hi with
    | 0, _ => rfl
    | 1, _ => rfl
    | 2, _ => rfl
    | 3, _ => rfl
    | 4, _ => rfl
    | 5, _ => rfl
    | 6, _ => rfl
    | 7, _ => rfl
  rw [BitVec.getLsbD_setWidth, BitVec.getLsbD_and, BitVec.getLsbD_setWidth, BitVec.getLsbD_ushiftRight, BitVec.getLsbD_setWidth, BitVec.getLsbD_setWidth, BitVec.getLsbD_and, BitVec.getLsbD_sshiftRight, e1, e2]
  simp [h8, hi, h6, h64]
theorem byte_eq (x : Int64) {k : Nat} (hk : k < 8) : ((glushr x ((8 : Int32) * nI k)).toInt32 &&& (255 : Int32)).toInt8 = ((glshr x ((8 : Int32) * nI k) &&& (255 : Int64)).toInt32).toInt8 := by
  apply Int8.toBitVec_inj.mp
  have key : ∀ c : Nat, c ≤ 56 → (((x.toBitVec >>> c).signExtend 32 &&& 255#32).signExtend 8) = (((x.toBitVec.sshiftRight c &&& 255#64).signExtend 32).signExtend 8) := by
    intro c hc
    rw [BitVec.signExtend_eq_setWidth_of_le _ (by decide), BitVec.signExtend_eq_setWidth_of_le _ (by decide), BitVec.signExtend_eq_setWidth_of_le _ (by decide), BitVec.signExtend_eq_setWidth_of_le _ (by decide)]
    exact byte_b _ _ hc
  match k, hk with
  | 0, _ => exact key 0 (by decide)
  | 1, _ => exact key 8 (by decide)
  | 2, _ => exact key 16 (by decide)
  | 3, _ => exact key 24 (by decide)
  | 4, _ => exact key 32 (by decide)
  | 5, _ => exact key 40 (by decide)
  | 6, _ => exact key 48 (by decide)
  | 7, _ => exact key 56 (by decide)
theorem byte_rg (z : Int8) : -128 ≤ (vp_nar .byte z.toInt32).toInt ∧ (vp_nar .byte z.toInt32).toInt ≤ 127 := by
  rw [vp_nar_byte, Int8.toInt_toInt32]
  have h1 := Int8.le_toInt z.toInt32.toInt8
  have h2 := Int8.toInt_lt z.toInt32.toInt8
  omega
theorem type_loop (N : Nat) (x1 : Int64) (x3 : Int32) : ∀ (j len fuel : Nat) (b : Nat → Int32), j ≤ 8 → len + j ≤ 300 → j < fuel → (∀ i : Nat, -128 ≤ (b i).toInt ∧ (b i).toInt ≤ 127) →
    ∃ b', (∀ i : Nat, -128 ≤ (b' i).toInt ∧ (b' i).toInt ≤ 127) ∧ f_X9_type_36 N x1 x3 fuel (nI len) b (nI j - 1) = some (nI (len + j), nI (len + j), b') ∧ f_X10_type_34 N x1 x3 fuel (nI len) b (nI j - 1) = some (nI (len + j), nI (len + j), b') := by
  intro j
  induction j with
  | zero =>
    intro len fuel b _ _ hf hb
    obtain ⟨f, rfl⟩ : ∃ f, fuel = f + 1 := ⟨fuel - 1, by omega⟩
    refine ⟨b, hb, ?_, ?_⟩
    · rw [u_X9_type_36]
      unfold s_X9_type_36
      rw [if_pos (by decide)]
      rfl
    · rw [u_X10_type_34]
      unfold s_X10_type_34
      rw [if_pos (by decide)]
      rfl
  | succ j ih =>
    intro len fuel b hj hl hf hb
    obtain ⟨f, rfl⟩ : ∃ f, fuel = f + 1 := ⟨fuel - 1, by omega⟩
    have ej : nI (j + 1) - 1 = nI j := by rw [show (1 : Int32) = nI 1 from rfl, pk_sub (by omega)]; rfl
    have en : nI j + (-1) = nI j - 1 := (Int32.sub_eq_add_neg _ _).symm
    obtain ⟨b', hb', e1, e2⟩ := ih (len + 1) f (upd b len (vp_nar .byte (((glushr x1 ((8 : Int32) * nI j)).toInt32 &&& (255 : Int32)).toInt8.toInt32))) (by omega) (by omega) (by omega) (by
      intro i
      by_cases q : i = len
      · subst q; rw [pk_us]; exact byte_rg _
      · rw [pk_un q]; exact hb i)
    refine ⟨b', hb', ?_, ?_⟩
    · rw [u_X9_type_36]
      unfold s_X9_type_36 f_X7_take
      rw [ej, if_neg (nI_pos (by omega)), if_neg (nI_pos (show len < 2 ^ 31 by omega)), if_pos (show nI len < 300 from nI_lt (b := 300) (by omega) (by decide)), if_pos (gin_nI (show len < 300 by omega) (by decide)), nI_clamp (by omega)]
      simp only [Option.bind_some]
      rw [en, nI_1, e1, show len + 1 + j = len + (j + 1) by omega]
    · rw [u_X10_type_34]
      unfold s_X10_type_34
      rw [ej, if_neg (nI_pos (by omega)), if_pos (gin_nI (show len < 300 by omega) (by decide)), nI_clamp (by omega), ← byte_eq x1 (show j < 8 by omega), en, nI_1, e2, show len + 1 + j = len + (j + 1) by omega]
theorem eq_type : St_type := by
  intro N cl cb rt rb x1 x3 hN hT
  obtain ⟨rfl, rfl, ⟨n, hn, rfl⟩, hb⟩ := hT
  have hold : ∀ z : Int32, ∃ (zc : O_X9_type) (zr : O_X10_type), some (z, nI n, cb) = some zc ∧ some (z, nI n, cb) = some zr ∧ zc.1 = zr.1 ∧ R_T zc.2.1 zc.2.2 zr.2.1 zr.2.2 := fun z => ⟨_, _, rfl, rfl, rfl, rfl, rfl, ⟨n, hn, rfl⟩, hb⟩
  unfold f_X9_type f_X10_type
  rw [in10 N x3 1 8 (by decide) (by decide)]
  simp only [grd]
  by_cases q : x3 < 1
  · rw [if_pos q, if_pos (Or.inl q)]
    exact hold _
  rw [if_neg q]
  by_cases q2 : x3 ≤ 8
  · rw [if_pos q2]
    have q3 : ¬ (x3 < 1 ∨ 8 < x3) := fun z => z.elim q (fun y => absurd q2 (Int32.not_le.mpr y))
    rw [if_neg q3]
    obtain ⟨c, hc1, hc2, rfl⟩ := bnd (x := x3) 1 8 (by decide) (by decide) q3
    rw [nI_add]
    rcases Nat.lt_or_ge 300 (n + c) with g | g
    · rw [if_neg (show ¬ nI (n + c) ≤ 300 from nI_ge (a := 300) g (by omega)), if_neg (show ¬ nI (n + c) ≤ 300 from nI_ge (a := 300) g (by omega))]
      exact hold _
    · rw [if_pos (show nI (n + c) ≤ 300 from nI_le (b := 300) g (by decide)), if_pos (show nI (n + c) ≤ 300 from nI_le (b := 300) g (by decide))]
      obtain ⟨b', hb', e1, e2⟩ := type_loop N x1 (nI c) c n N cb hc2 g (by unfold NB at hN; omega) hb
      rw [e1, e2]
      exact ⟨_, _, rfl, rfl, rfl, rfl, rfl, ⟨n + c, g, rfl⟩, hb'⟩
  · rw [if_neg q2, if_pos (Or.inr (Int32.not_le.mp q2))]
    exact hold _
