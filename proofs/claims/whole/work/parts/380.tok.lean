/-! bytes and tokens -/
theorem byt0 : ∀ k : Nat, k < 256 → (Int32.ofInt ((k : Int) - 128)) &&& (255 : Int32) = nI ((k + 128) % 256) ∧ (128 ≤ (k + 128) % 256 ∨ Int32.ofInt ((k : Int) - 128) = nI ((k + 128) % 256)) := by decide +kernel
def bvN (rb : Nat → Int32) (j : Nat) : Nat := (rb j &&& 255).toNatClampNeg
theorem bv_eq {rb : Nat → Int32} {j : Nat} (h : -128 ≤ (rb j).toInt ∧ (rb j).toInt ≤ 127) : rb j &&& 255 = nI (bvN rb j) ∧ bvN rb j < 256 ∧ (128 ≤ bvN rb j ∨ rb j = nI (bvN rb j)) := by
  obtain ⟨k, hk, e⟩ : ∃ k : Nat, k < 256 ∧ ((k : Int) - 128) = (rb j).toInt := ⟨((rb j).toInt + 128).toNat, by omega, by omega⟩
  obtain ⟨b1, b2⟩ := byt0 k hk
  rw [e, Int32.ofInt_toInt] at b1 b2
  have e2 : bvN rb j = (k + 128) % 256 := by
    unfold bvN
    rw [b1, nI_clamp (by omega)]
  rw [e2]
  exact ⟨b1, by omega, b2⟩
theorem here_lt (N : Nat) {rb : Nat → Int32} (hb : ∀ j, -128 ≤ (rb j).toInt ∧ (rb j).toInt ≤ 127) {n p : Nat} (hn : n ≤ 300) (h : p < n) : f_X10_here N (nI n) (nI p) rb = some (nI (bvN rb p)) := by
  unfold f_X10_here
  rw [if_neg (nI_ge h (by omega)), if_pos (gin_nI (show p < 300 by omega) (by decide)), nI_clamp (by omega), (bv_eq (hb p)).1]
theorem here_end (N : Nat) {rb : Nat → Int32} (n : Nat) : f_X10_here N (nI n) (nI n) rb = some (-1) := by
  unfold f_X10_here
  rw [if_pos (Int32.le_refl _)]
theorem byte_lt (N : Nat) {rb : Nat → Int32} (hb : ∀ j, -128 ≤ (rb j).toInt ∧ (rb j).toInt ≤ 127) {n p : Nat} (hn : n ≤ 300) (h : p < n) : f_X7_byteAt N (nI n) rb (nI p) = some (nI (bvN rb p)) := by
  unfold f_X7_byteAt
  rw [if_neg (nI_pos (by omega)), if_neg (nI_ge h (by omega)), if_pos (show nI p < 300 from nI_lt (b := 300) (by omega) (by decide)), if_pos (gin_nI (show p < 300 by omega) (by decide)), nI_clamp (by omega), (bv_eq (hb p)).1]
theorem byte_end (N : Nat) {rb : Nat → Int32} {n : Nat} (hn : n ≤ 300) : f_X7_byteAt N (nI n) rb (nI n) = some (-1) := by
  unfold f_X7_byteAt
  rw [if_neg (nI_pos (by omega)), if_pos (Int32.le_refl _)]
theorem rngN {b lo hi : Nat} (h1 : b < 2 ^ 31) (h2 : lo < 2 ^ 31) (h3 : hi < 2 ^ 31) : (if nI b < nI lo ∨ nI hi < nI b then (0 : Int32) else 1) = if lo ≤ b ∧ b ≤ hi then 1 else 0 := by
  by_cases c : lo ≤ b ∧ b ≤ hi
  · rw [if_pos c, if_neg (fun z => z.elim (nI_nlt c.1 h1) (nI_nlt c.2 h3))]
  · rw [if_neg c]
    refine if_pos ?_
    rcases Nat.lt_or_ge b lo with z | z
    · exact Or.inl (nI_lt z h2)
    · exact Or.inr (nI_lt (by omega) h1)
theorem grdz' {p : Prop} {i : Decidable p} : (some (@ite Int32 p i 1 0)).bind (fun z => if z &&& 1 = z then some z else none) = some (@ite Int32 p i 1 0) := by
  by_cases h : p
  · rw [if_pos h]; rfl
  · rw [if_neg h]; rfl
theorem small9 (N : Nat) {b : Nat} (h : b < 2 ^ 31) : f_X3_isSmall N (nI b) = some (if 97 ≤ b ∧ b ≤ 122 then 1 else 0) := by
  unfold f_X3_isSmall
  rw [within_eq, show (97 : Int32) = nI 97 from rfl, show (122 : Int32) = nI 122 from rfl, rngN h (by decide) (by decide), grdz']
theorem digit9 (N : Nat) {b : Nat} (h : b < 2 ^ 31) : f_X3_isDigit N (nI b) = some (if 48 ≤ b ∧ b ≤ 57 then 1 else 0) := by
  unfold f_X3_isDigit
  rw [within_eq, show (48 : Int32) = nI 48 from rfl, show (57 : Int32) = nI 57 from rfl, rngN h (by decide) (by decide), grdz']
theorem small10 (N : Nat) {b : Nat} (h : b < 2 ^ 31) : f_X10_in N (nI b).toInt64 97 122 = some (if 97 ≤ b ∧ b ≤ 122 then 1 else 0) := by
  rw [in10 N (nI b) (nI 97) (nI 122) (by decide) (by decide), rngN h (by decide) (by decide)]
theorem digit10 (N : Nat) {b : Nat} (h : b < 2 ^ 31) : f_X10_in N (nI b).toInt64 48 57 = some (if 48 ≤ b ∧ b ≤ 57 then 1 else 0) := by
  rw [in10 N (nI b) (nI 48) (nI 57) (by decide) (by decide), rngN h (by decide) (by decide)]
theorem letter10 (N : Nat) {b : Nat} (h : b < 2 ^ 31) : f_X10_in N (nI b).toInt64 65 80 = some (if 65 ≤ b ∧ b ≤ 80 then 1 else 0) := by
  rw [in10 N (nI b) (nI 65) (nI 80) (by decide) (by decide), rngN h (by decide) (by decide)]
theorem neg10 (N : Nat) : f_X10_in N (-1 : Int32).toInt64 97 122 = some 0 ∧ f_X10_in N (-1 : Int32).toInt64 48 57 = some 0 := by
  rw [in10 N (-1) 97 122 (by decide) (by decide), in10 N (-1) 48 57 (by decide) (by decide)]
  exact ⟨rfl, rfl⟩
theorem skip_both (N : Nat) {rb : Nat → Int32} (hb : ∀ j, -128 ≤ (rb j).toInt ∧ (rb j).toInt ≤ 127) {n : Nat} (hn : n ≤ 300) : ∀ (j p fuel fu2 : Nat), p + j = n → j < fuel → j < fu2 →
    ∃ q, p ≤ q ∧ q ≤ n ∧ (∀ s k v, f_X3_step_0 N (nI n) rb fuel (nI p) s k v = f_X3_step_37 N (nI n) rb (nI q) s k v) ∧ (∀ s k v, f_X10_next_0 N (nI n) rb fu2 (nI p) s k v = f_X10_next_22 N (nI n) rb (nI q) s k v) := by
  intro j
  induction j with
  | zero =>
    intro p fuel fu2 hp hf hf2
    obtain ⟨f, rfl⟩ : ∃ f, fuel = f + 1 := ⟨fuel - 1, by omega⟩
    obtain ⟨g, rfl⟩ : ∃ g, fu2 = g + 1 := ⟨fu2 - 1, by omega⟩
    have e : p = n := by omega
    subst e
    refine ⟨p, Nat.le_refl _, Nat.le_refl _, fun s k v => ?_, fun s k v => ?_⟩
    · rw [u_X3_step_0]
      unfold s_X3_step_0
      rw [if_pos (Int32.le_refl _)]
    · rw [u_X10_next_0]
      unfold s_X10_next_0
      rw [here_end, Option.bind_some, if_neg (by decide)]
  | succ j ih =>
    intro p fuel fu2 hp hf hf2
    obtain ⟨f, rfl⟩ : ∃ f, fuel = f + 1 := ⟨fuel - 1, by omega⟩
    obtain ⟨g, rfl⟩ : ∃ g, fu2 = g + 1 := ⟨fu2 - 1, by omega⟩
    have hpn : p < n := by omega
    have hbl := (bv_eq (hb p)).2.1
    by_cases c : bvN rb p = 32
    · obtain ⟨q, h1, h2, h3, h4⟩ := ih (p + 1) f g (by omega) (by omega) (by omega)
      refine ⟨q, by omega, h2, fun s k v => ?_, fun s k v => ?_⟩
      · rw [u_X3_step_0]
        unfold s_X3_step_0
        rw [if_neg (nI_ge hpn (by omega)), byte_lt N hb hn hpn, Option.bind_some, if_pos (show nI (bvN rb p) = 32 by rw [c]; rfl), nI_1]
        exact h3 s k v
      · rw [u_X10_next_0]
        unfold s_X10_next_0
        rw [here_lt N hb hn hpn, Option.bind_some, if_pos (show nI (bvN rb p) = 32 by rw [c]; rfl), nI_1]
        exact h4 s k v
    · have c' : ¬ nI (bvN rb p) = 32 := fun z => c ((nI_eq (b := 32) (by omega) (by decide)).mp z)
      refine ⟨p, Nat.le_refl _, by omega, fun s k v => ?_, fun s k v => ?_⟩
      · rw [u_X3_step_0]
        unfold s_X3_step_0
        rw [if_neg (nI_ge hpn (by omega)), byte_lt N hb hn hpn, Option.bind_some, if_neg c']
      · rw [u_X10_next_0]
        unfold s_X10_next_0
        rw [here_lt N hb hn hpn, Option.bind_some, if_neg c']
/-- the class's packed word -/
def pkN (rb : Nat → Int32) (q : Nat) : Nat → Nat
  | 0 => 0
  | l + 1 => if l < 3 then pkN rb q l * 256 + bvN rb (q + l) else 0
theorem pkN_s (rb : Nat → Int32) (q l : Nat) : pkN rb q (l + 1) = if l < 3 then pkN rb q l * 256 + bvN rb (q + l) else 0 := rfl
theorem nI_or {a b : Nat} (ha : a < 2 ^ 31) (hb : b < 2 ^ 31) : nI a ||| nI b = nI (a ||| b) := by
  apply Int32.toBitVec_inj.mp
  show (BitVec.ofNat 32 a) ||| (BitVec.ofNat 32 b) = BitVec.ofNat 32 (a ||| b)
  apply BitVec.eq_of_toNat_eq
  have := Nat.or_lt_two_pow ha hb
  rw [BitVec.toNat_or, BitVec.toNat_ofNat, BitVec.toNat_ofNat, BitVec.toNat_ofNat, Nat.mod_eq_of_lt (show a < 2 ^ 32 by omega), Nat.mod_eq_of_lt (show b < 2 ^ 32 by omega), Nat.mod_eq_of_lt (show a ||| b < 2 ^ 32 by omega)]
theorem shl8 {p b : Nat} (hp : p < 65536) (hb : b < 256) : (nI p <<< ((8 : Int32) &&& 31)) ||| nI b = nI (p * 256 + b) := by
  have e1 : nI p <<< ((8 : Int32) &&& 31) = nI (p * 256) := by
    apply Int32.toBitVec_inj.mp
    show (BitVec.ofNat 32 p) <<< 8 = BitVec.ofNat 32 (p * 256)
    apply BitVec.eq_of_toNat_eq
    rw [BitVec.toNat_shiftLeft, BitVec.toNat_ofNat, BitVec.toNat_ofNat, Nat.shiftLeft_eq, Nat.mod_eq_of_lt (show p < 2 ^ 32 by omega)]
  rw [e1, nI_or (by omega) (by omega)]
  have e2 := Nat.shiftLeft_add_eq_or_of_lt (i := 8) hb p
  rw [Nat.shiftLeft_eq] at e2
  rw [show p * 256 = p * 2 ^ 8 from rfl, ← e2]
theorem pkN_b (rb : Nat → Int32) (hb : ∀ j, -128 ≤ (rb j).toInt ∧ (rb j).toInt ≤ 127) (q : Nat) : pkN rb q 0 = 0 ∧ pkN rb q 1 < 256 ∧ pkN rb q 2 < 65536 ∧ pkN rb q 3 < 16777216 := by
  have b0 := (bv_eq (hb (q + 0))).2.1
  have b1 := (bv_eq (hb (q + 1))).2.1
  have b2 := (bv_eq (hb (q + 2))).2.1
  have p1 : pkN rb q 1 = 0 * 256 + bvN rb (q + 0) := rfl
  have p2 : pkN rb q 2 = pkN rb q 1 * 256 + bvN rb (q + 1) := rfl
  have p3 : pkN rb q 3 = pkN rb q 2 * 256 + bvN rb (q + 2) := rfl
  exact ⟨rfl, by omega, by omega, by omega⟩
theorem wrd_both (N : Nat) {rb : Nat → Int32} (hb : ∀ j, -128 ≤ (rb j).toInt ∧ (rb j).toInt ≤ 127) {n q : Nat} (hn : n ≤ 300) : ∀ (j l fuel fu2 : Nat), q + l + j = n → j < fuel → j < fu2 → (∀ i, i < l → 97 ≤ bvN rb (q + i) ∧ bvN rb (q + i) ≤ 122) →
    ∃ e, l ≤ e ∧ q + e ≤ n ∧ (∀ i, i < e → 97 ≤ bvN rb (q + i) ∧ bvN rb (q + i) ≤ 122) ∧ (∀ k v, f_X3_readWord_2 N (nI q) (nI n) rb fuel (nI (q + l)) k v (nI (pkN rb q l)) = f_X3_readWord_71 N (nI q) (nI n) rb (nI (q + e)) k v (nI (pkN rb q e))) ∧ ∀ st so va, f_X10_next_66 N (nI n) rb fu2 (nI (q + l)) st so va = f_X10_next_96 N (nI n) rb (nI (q + e)) st so va := by
  intro j
  induction j with
  | zero =>
    intro l fuel fu2 hp hf hf2 hs
    obtain ⟨f, rfl⟩ : ∃ f, fuel = f + 1 := ⟨fuel - 1, by omega⟩
    obtain ⟨g, rfl⟩ : ∃ g, fu2 = g + 1 := ⟨fu2 - 1, by omega⟩
    have e : n = q + l := by omega
    subst e
    refine ⟨l, Nat.le_refl _, by omega, hs, ?_, ?_⟩
    · intro k v
      rw [u_X3_readWord_2]
      unfold s_X3_readWord_2
      rw [if_pos (Int32.le_refl _)]
    · intro st so va
      rw [u_X10_next_66]
      unfold s_X10_next_66
      rw [here_end, Option.bind_some, (neg10 N).1, Option.bind_some, if_pos rfl]
  | succ j ih =>
    intro l fuel fu2 hp hf hf2 hs
    obtain ⟨f, rfl⟩ : ∃ f, fuel = f + 1 := ⟨fuel - 1, by omega⟩
    obtain ⟨g, rfl⟩ : ∃ g, fu2 = g + 1 := ⟨fu2 - 1, by omega⟩
    have hpn : q + l < n := by omega
    have hbl := (bv_eq (hb (q + l))).2.1
    by_cases c : 97 ≤ bvN rb (q + l) ∧ bvN rb (q + l) ≤ 122
    · obtain ⟨e, h1, h2, h3, h4, h5⟩ := ih (l + 1) f g (by omega) (by omega) (by omega) (by
        intro i hi
        by_cases z : i = l
        · rw [z]; exact c
        · exact hs i (by omega))
      refine ⟨e, by omega, h2, h3, ?_, ?_⟩
      · intro k v
        rw [u_X3_readWord_2]
        unfold s_X3_readWord_2
        rw [if_neg (nI_ge hpn (by omega)), byte_lt N hb hn hpn, Option.bind_some, small9 N (by omega), Option.bind_some, if_pos c, if_neg (by decide), nI_pksub (show q ≤ q + l by omega), show q + l - q = l by omega, Option.bind_some]
        unfold f_X3_readWord_57
        rw [nI_1]
        refine Eq.trans ?_ (h4 k v)
        rw [pkN_s]
        rcases Nat.lt_or_ge l 3 with z | z
        · have hpb := pkN_b rb hb q
          have hpl : pkN rb q l < 65536 := by
            rcases (show l = 0 ∨ l = 1 ∨ l = 2 by omega) with y | y | y
            · rw [y]; omega
            · rw [y]; omega
            · rw [y]; omega
          rw [if_neg (show ¬ (3 : Int32) ≤ nI l from nI_ge (b := 3) z (by decide)), if_pos z, shl8 hpl hbl]
          rfl
        · rw [if_pos (show (3 : Int32) ≤ nI l from nI_le (a := 3) z (by omega)), if_neg (show ¬ l < 3 by omega)]
          rfl
      · intro st so va
        rw [u_X10_next_66]
        unfold s_X10_next_66
        rw [here_lt N hb hn hpn, Option.bind_some, small10 N (by omega), Option.bind_some, if_pos c, if_neg (by decide), nI_1]
        exact h5 st so va
    · refine ⟨l, Nat.le_refl _, by omega, hs, ?_, ?_⟩
      · intro k v
        rw [u_X3_readWord_2]
        unfold s_X3_readWord_2
        rw [if_neg (nI_ge hpn (by omega)), byte_lt N hb hn hpn, Option.bind_some, small9 N (by omega), Option.bind_some, if_neg c, if_pos rfl]
      · intro st so va
        rw [u_X10_next_66]
        unfold s_X10_next_66
        rw [here_lt N hb hn hpn, Option.bind_some, small10 N (by omega), Option.bind_some, if_neg c, if_pos rfl]
