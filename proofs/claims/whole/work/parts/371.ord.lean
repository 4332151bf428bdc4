/-! longs that are small; the reference's order -/
def lI (n : Nat) : Int64 := Int64.ofNat n
theorem lI_toInt {n : Nat} (h : n < 2 ^ 63) : (lI n).toInt = n := lg_ofNat_toInt h
theorem lI_eq {a b : Nat} (ha : a < 2 ^ 62) (hb : b < 2 ^ 62) : lI a = lI b ↔ a = b := by
  constructor
  · intro h
    have := congrArg Int64.toInt h
    rw [lI_toInt (by omega), lI_toInt (by omega)] at this
    omega
  · intro h; rw [h]
theorem lI_cmp0 {a b : Nat} (ha : a < 2 ^ 62) (hb : b < 2 ^ 62) : lg_cmp (lI a) (lI b) = 0 ↔ a = b := (lg_cmp_eq _ _).trans (lI_eq ha hb)
theorem lI_cmple {a b : Nat} (ha : a < 2 ^ 62) (hb : b < 2 ^ 62) : lg_cmp (lI a) (lI b) ≤ 0 ↔ a ≤ b := by
  rw [lg_cmp_le, Int64.le_iff_toInt_le, lI_toInt (by omega), lI_toInt (by omega)]
  omega
theorem lI_add (a b : Nat) : lI a + lI b = lI (a + b) := (Int64.ofNat_add a b).symm
theorem lI_mul (a b : Nat) : lI a * lI b = lI (a * b) := (Int64.ofNat_mul a b).symm
theorem nI_long {a : Nat} (h : a < 2 ^ 31) : (nI a).toInt64 = lI a := by
  apply Int64.toInt_inj.mp
  rw [Int32.toInt_toInt64, lI_toInt (by omega)]
  show (Int32.ofNat a).toInt = a
  rw [Int32.toInt_ofNat_of_lt h]
theorem lI_sub1 {a : Nat} (h1 : 1 ≤ a) : lI a - 1 = lI (a - 1) := by
  obtain ⟨k, rfl⟩ : ∃ k, a = k + 1 := ⟨a - 1, by omega⟩
  rw [← lI_add k 1, Nat.add_sub_cancel]
  exact Int64.add_sub_cancel _ _
theorem lI_ushr {a : Nat} (h : a < 2 ^ 62) : glushr (lI a) 13 = lI (a / 8192) := by
  apply Int64.toBitVec_inj.mp
  show (BitVec.ofNat 64 a) >>> 13 = BitVec.ofNat 64 (a / 8192)
  apply BitVec.eq_of_toNat_eq
  rw [BitVec.toNat_ushiftRight, BitVec.toNat_ofNat, BitVec.toNat_ofNat, Nat.shiftRight_eq_div_pow, Nat.mod_eq_of_lt (by omega), Nat.mod_eq_of_lt (by omega)]
theorem lI_shl {a : Nat} (h : a < 2 ^ 40) : glshl (lI a) 13 = lI (a * 8192) := by
  apply Int64.toBitVec_inj.mp
  show (BitVec.ofNat 64 a) <<< 13 = BitVec.ofNat 64 (a * 8192)
  apply BitVec.eq_of_toNat_eq
  rw [BitVec.toNat_shiftLeft, BitVec.toNat_ofNat, BitVec.toNat_ofNat, Nat.shiftLeft_eq, Nat.mod_eq_of_lt (show a < 2 ^ 64 by omega)]
theorem lI_and {a : Nat} (h : a < 2 ^ 62) : lI a &&& (8191 : Int64) = lI (a % 8192) := by
  apply Int64.toBitVec_inj.mp
  show (BitVec.ofNat 64 a) &&& (BitVec.ofNat 64 8191) = BitVec.ofNat 64 (a % 8192)
  apply BitVec.eq_of_toNat_eq
  rw [BitVec.toNat_and, BitVec.toNat_ofNat, BitVec.toNat_ofNat, BitVec.toNat_ofNat, Nat.mod_eq_of_lt (show a < 2 ^ 64 by omega), Nat.mod_eq_of_lt (show a % 8192 < 2 ^ 64 by omega), show 8191 % 2 ^ 64 = 2 ^ 13 - 1 from rfl, Nat.and_two_pow_sub_one_eq_mod]
theorem nI_pksub {a b : Nat} (h : b ≤ a) : nI a - nI b = nI (a - b) := by
  obtain ⟨k, rfl⟩ : ∃ k, a = k + b := ⟨a - b, by omega⟩
  rw [← nI_add k b, Nat.add_sub_cancel]
  exact Int32.add_sub_cancel _ _
theorem o44_loop (N : Nat) {off n g i x : Nat} (hon : off + n ≤ 8192) (hi : i < n) (hg : 0 < g) (hgb : g < 2 ^ 20) (hx : x < 2 ^ 62) (r16 : (Nat → Int64) → Int32 → Option O_X10_order) (r23 : (Nat → Int64) → Int32 → Int32 → Option O_X10_order) : ∀ (j k fuel : Nat) (r : Nat → Int64) (f : Nat → Nat) (hr : ∀ t, t < n → r (off + t) = lI (f t)) (hb : ∀ t, t < n → f t < 2 ^ 62), k ≤ j → k ≤ i → j < fuel →
    ∃ (r' : Nat → Int64) (f' : Nat → Nat), (∀ t, t < n → r' (off + t) = lI (f' t)) ∧ (∀ t, t < n → f' t < 2 ^ 62) ∧ (∀ u, u < off ∨ off + n ≤ u → r' u = r u) ∧ (∀ v, cF f' v n = cF (upN f k x) v n) ∧ (g = 1 → (∀ a b, a ≤ b → b ≤ i → a ≠ k → b ≠ k → f a ≤ f b) → (∀ b, k < b → b ≤ i → x ≤ f b) → srt f' (i + 1)) ∧
      f_X10_order_44 N (nI off) (nI n) r16 r23 fuel r (nI g) (nI i) (lI x) (nI k) = r23 r' (nI g) (nI (i + 1)) := by
  intro j
  induction j with
  | zero =>
    intro k fuel r f hr hb hkj hki hf
    obtain ⟨fu, rfl⟩ : ∃ fu, fuel = fu + 1 := ⟨fuel - 1, by omega⟩
    have e : k = 0 := by omega
    subst e
    refine ⟨vp_updL r (off + 0) (lI x), upN f 0 x, ?_, ?_, ?_, fun v => rfl, ?_, ?_⟩
    · intro t ht
      by_cases z : t = 0
      · rw [z, pk_uLs, upN_s]
      · rw [pk_uLn (by omega), upN_n z]; exact hr t ht
    · intro t ht
      by_cases z : t = 0
      · rw [z, upN_s]; exact hx
      · rw [upN_n z]; exact hb t ht
    · intro u hu
      exact pk_uLn (by omega)
    · intro _ h1 h2 a b hab hbi
      by_cases za : a = 0
      · by_cases zb : b = 0
        · rw [za, zb]; exact Nat.le_refl _
        · rw [za, upN_s, upN_n zb]; exact h2 b (by omega) (by omega)
      · rw [upN_n za, upN_n (show b ≠ 0 by omega)]; exact h1 a b hab (by omega) za (by omega)
    · rw [u_X10_order_44]
      unfold s_X10_order_44
      rw [if_pos (nI_lt (show 0 < g from hg) (by omega))]
      unfold f_X10_order_96
      rw [nI_add, if_pos (gin_nI (show off + 0 < 8192 by omega) (by decide)), nI_clamp (by omega), nI_1]
  | succ j ih =>
    intro k fuel r f hr hb hkj hki hf
    obtain ⟨fu, rfl⟩ : ∃ fu, fuel = fu + 1 := ⟨fuel - 1, by omega⟩
    have stop : ∀ (st : k < g ∨ f (k - g) ≤ x), ∃ (r' : Nat → Int64) (f' : Nat → Nat), (∀ t, t < n → r' (off + t) = lI (f' t)) ∧ (∀ t, t < n → f' t < 2 ^ 62) ∧ (∀ u, u < off ∨ off + n ≤ u → r' u = r u) ∧ (∀ v, cF f' v n = cF (upN f k x) v n) ∧ (g = 1 → (∀ a b, a ≤ b → b ≤ i → a ≠ k → b ≠ k → f a ≤ f b) → (∀ b, k < b → b ≤ i → x ≤ f b) → srt f' (i + 1)) ∧
      f_X10_order_96 N (nI off) (nI n) r16 r23 r (nI g) (nI i) (lI x) (nI k) = r23 r' (nI g) (nI (i + 1)) := by
      intro st
      refine ⟨vp_updL r (off + k) (lI x), upN f k x, ?_, ?_, ?_, fun v => rfl, ?_, ?_⟩
      · intro t ht
        by_cases z : t = k
        · rw [z, pk_uLs, upN_s]
        · rw [pk_uLn (by omega), upN_n z]; exact hr t ht
      · intro t ht
        by_cases z : t = k
        · rw [z, upN_s]; exact hx
        · rw [upN_n z]; exact hb t ht
      · intro u hu
        exact pk_uLn (by omega)
      · intro g1 h1 h2 a b hab hbi
        by_cases za : a = k
        · by_cases zb : b = k
          · rw [za, zb]; exact Nat.le_refl _
          · rw [za, upN_s, upN_n zb]; exact h2 b (by omega) (by omega)
        · by_cases zb : b = k
          · rw [zb, upN_s, upN_n za]
            rcases st with st | st
            · omega
            · have := h1 a (k - 1) (by omega) (by omega) za (by omega)
              rw [g1] at st
              omega
          · rw [upN_n za, upN_n zb]; exact h1 a b hab (by omega) za zb
      · unfold f_X10_order_96
        rw [nI_add, if_pos (gin_nI (show off + k < 8192 by omega) (by decide)), nI_clamp (by omega), nI_1]
    rw [u_X10_order_44]
    unfold s_X10_order_44
    rcases Nat.lt_or_ge k g with c | c
    · rw [if_pos (nI_lt c (by omega))]
      exact stop (Or.inl c)
    · have hkg : k - g < n := by omega
      rw [if_neg (nI_nlt c (by omega)), nI_add, nI_pksub (show g ≤ off + k by omega), show off + k - g = off + (k - g) by omega, if_pos (gin_nI (show off + (k - g) < 8192 by omega) (by decide)), nI_clamp (show off + (k - g) < 2 ^ 31 by omega), hr (k - g) hkg]
      by_cases l : f (k - g) ≤ x
      · rw [if_pos ((lI_cmple (hb _ hkg) hx).mpr l)]
        exact stop (Or.inr l)
      · rw [if_neg (fun z => l ((lI_cmple (hb _ hkg) hx).mp z)), if_pos (gin_nI (show off + (k - g) < 8192 by omega) (by decide)), if_pos (gin_nI (show off + k < 8192 by omega) (by decide)), nI_clamp (show off + k < 2 ^ 31 by omega), nI_pksub c]
        obtain ⟨r', f', p1, p2, p3, p4, p5, p6⟩ := ih (k - g) fu (vp_updL r (off + k) (lI (f (k - g)))) (upN f k (f (k - g))) (by
            intro t ht
            by_cases z : t = k
            · rw [z, pk_uLs, upN_s]
            · rw [pk_uLn (by omega), upN_n z]; exact hr t ht) (by
            intro t ht
            by_cases z : t = k
            · rw [z, upN_s]; exact hb _ hkg
            · rw [upN_n z]; exact hb t ht) (by omega) (by omega) (by omega)
        refine ⟨r', f', p1, p2, fun u hu => (p3 u hu).trans (pk_uLn (by omega)), fun v => (p4 v).trans (cF_move f v (by omega) c hg), ?_, p6⟩
        intro g1 h1 h2
        subst g1
        refine p5 rfl ?_ ?_
        · intro a b hab hbi za zb
          by_cases ya : a = k
          · by_cases yb : b = k
            · rw [ya, yb]; exact Nat.le_refl _
            · rw [ya, upN_s, upN_n yb]; exact h1 (k - 1) b (by omega) hbi (by omega) yb
          · by_cases yb : b = k
            · rw [yb, upN_s, upN_n ya]; exact h1 a (k - 1) (by omega) (by omega) ya (by omega)
            · rw [upN_n ya, upN_n yb]; exact h1 a b hab hbi ya yb
        · intro b hb1 hb2
          by_cases yb : b = k
          · rw [yb, upN_s]; omega
          · rw [upN_n yb]; exact h2 b (by omega) hb2
theorem o23_loop (N : Nat) (hN : NB ≤ N) {off n g : Nat} (hon : off + n ≤ 8192) (hg : 0 < g) (hgb : g < 2 ^ 20) (r16 : (Nat → Int64) → Int32 → Option O_X10_order) : ∀ (j i fuel : Nat) (r : Nat → Int64) (f : Nat → Nat) (hr : ∀ t, t < n → r (off + t) = lI (f t)) (hb : ∀ t, t < n → f t < 2 ^ 62), n ≤ i + j → i < 2 ^ 20 → j < fuel →
    ∃ (r' : Nat → Int64) (f' : Nat → Nat), (∀ t, t < n → r' (off + t) = lI (f' t)) ∧ (∀ t, t < n → f' t < 2 ^ 62) ∧ (∀ u, u < off ∨ off + n ≤ u → r' u = r u) ∧ (∀ v, cF f' v n = cF f v n) ∧ (g = 1 → srt f i → srt f' n) ∧
      f_X10_order_23 N (nI off) (nI n) r16 fuel r (nI g) (nI i) = f_X10_order_113 N (nI off) (nI n) r16 r' (nI g) := by
  intro j
  induction j with
  | zero =>
    intro i fuel r f hr hb hij hi hf
    obtain ⟨fu, rfl⟩ : ∃ fu, fuel = fu + 1 := ⟨fuel - 1, by omega⟩
    refine ⟨r, f, hr, hb, fun u _ => rfl, fun v => rfl, fun _ h a b hab hbn => h a b hab (by omega), ?_⟩
    rw [u_X10_order_23]
    unfold s_X10_order_23
    rw [if_pos (nI_le (show n ≤ i by omega) (by omega))]
  | succ j ih =>
    intro i fuel r f hr hb hij hi hf
    obtain ⟨fu, rfl⟩ : ∃ fu, fuel = fu + 1 := ⟨fuel - 1, by omega⟩
    rw [u_X10_order_23]
    unfold s_X10_order_23
    rcases Nat.lt_or_ge i n with c | c
    · rw [if_neg (nI_ge c (by omega)), nI_add, if_pos (gin_nI (show off + i < 8192 by omega) (by decide)), nI_clamp (by omega), hr i c]
      obtain ⟨r1, f1, p1, p2, p3, p4, p5, p6⟩ := o44_loop N hon c hg hgb (hb i c) r16 (f_X10_order_23 N (nI off) (nI n) r16 fu) i i N r f hr hb (by omega) (by omega) (by unfold NB at hN; omega)
      obtain ⟨r2, f2, q1, q2, q3, q4, q5, q6⟩ := ih (i + 1) fu r1 f1 p1 p2 (by omega) (by omega) (by omega)
      refine ⟨r2, f2, q1, q2, fun u hu => (q3 u hu).trans (p3 u hu), fun v => ?_, fun g1 hs => ?_, Eq.trans p6 q6⟩
      · rw [q4 v, p4 v]
        refine cF_congr v n (fun t ht => ?_)
        by_cases z : t = i
        · rw [z, upN_s]
        · rw [upN_n z]
      · refine q5 g1 (p5 g1 (fun a b hab hbi za zb => hs a b hab (by omega)) (fun b h1 h2 => by omega))
    · refine ⟨r, f, hr, hb, fun u _ => rfl, fun v => rfl, fun _ h a b hab hbn => h a b hab (by omega), ?_⟩
      rw [if_pos (nI_le c (by omega))]
/-- gaps -/
def gN : Nat → Nat
  | 0 => 0
  | j + 1 => 3 * gN j + 1
theorem gN_s (j : Nat) : gN (j + 1) = 3 * gN j + 1 := rfl
theorem gN_b : ∀ j : Nat, j < 10 → gN j < 2 ^ 20 := by decide
theorem o16_loop (N : Nat) (hN : NB ≤ N) {off n : Nat} (hon : off + n ≤ 8192) : ∀ (j fuel : Nat) (r : Nat → Int64) (f : Nat → Nat) (hr : ∀ t, t < n → r (off + t) = lI (f t)) (hb : ∀ t, t < n → f t < 2 ^ 62), j < fuel → j < 10 → (j = 0 → srt f n) →
    ∃ (r' : Nat → Int64) (f' : Nat → Nat), (∀ t, t < n → r' (off + t) = lI (f' t)) ∧ (∀ t, t < n → f' t < 2 ^ 62) ∧ (∀ u, u < off ∨ off + n ≤ u → r' u = r u) ∧ (∀ v, cF f' v n = cF f v n) ∧ srt f' n ∧ f_X10_order_16 N (nI off) (nI n) fuel r (nI (gN j)) = some r' := by
  intro j
  induction j with
  | zero =>
    intro fuel r f hr hb hf _ hs
    obtain ⟨fu, rfl⟩ : ∃ fu, fuel = fu + 1 := ⟨fuel - 1, by omega⟩
    refine ⟨r, f, hr, hb, fun u _ => rfl, fun v => rfl, hs rfl, ?_⟩
    rw [u_X10_order_16]
    unfold s_X10_order_16
    rw [if_pos (show nI (gN 0) ≤ 0 from Int32.le_refl _)]
  | succ j ih =>
    intro fuel r f hr hb hf hj hs
    obtain ⟨fu, rfl⟩ : ∃ fu, fuel = fu + 1 := ⟨fuel - 1, by omega⟩
    have hgb := gN_b (j + 1) hj
    have hgs := gN_s j
    rw [u_X10_order_16]
    unfold s_X10_order_16
    rw [if_neg (show ¬ nI (gN (j + 1)) ≤ 0 from nI_ge (a := 0) (by omega) (by omega))]
    obtain ⟨r1, f1, p1, p2, p3, p4, p5, p6⟩ := o23_loop N hN hon (show 0 < gN (j + 1) by omega) hgb (f_X10_order_16 N (nI off) (nI n) fu) n (gN (j + 1)) N r f hr hb (by omega) hgb (by unfold NB at hN; omega)
    obtain ⟨r2, f2, q1, q2, q3, q4, q5, q6⟩ := ih fu r1 f1 p1 p2 (by omega) (by omega) (by
      intro j0
      refine p5 (by rw [hgs, j0]; rfl) ?_
      intro a b hab hb1
      have hg1 : gN (j + 1) = 1 := by rw [hgs, j0]; rfl
      rw [show a = b by omega]
      exact Nat.le_refl _)
    refine ⟨r2, f2, q1, q2, fun u hu => (q3 u hu).trans (p3 u hu), fun v => (q4 v).trans (p4 v), q5, ?_⟩
    refine Eq.trans p6 ?_
    unfold f_X10_order_113
    rw [if_neg (by decide), show (3 : Int32) = nI 3 from rfl, pk_div (by omega) (by decide) (by decide), show gN (j + 1) / 3 = gN j by omega]
    exact q6
theorem o2_loop (N : Nat) (off : Int32) {n : Nat} (hn : n ≤ 4096) (r : Nat → Int64) : ∀ (j k fuel : Nat), k + j = 9 → 1 ≤ k → j < fuel → ∃ k' : Nat, k' < 10 ∧ 1 ≤ k' ∧ f_X10_order_2 N off (nI n) fuel r (nI (gN k)) = f_X10_order_16 N off (nI n) N r (nI (gN k')) := by
  intro j
  induction j with
  | zero =>
    intro k fuel hk h1 hf
    obtain ⟨fu, rfl⟩ : ∃ fu, fuel = fu + 1 := ⟨fuel - 1, by omega⟩
    have e : k = 9 := by omega
    subst e
    refine ⟨9, by decide, by decide, ?_⟩
    rw [u_X10_order_2]
    unfold s_X10_order_2
    rw [if_pos (nI_le (show n ≤ gN 9 by have : gN 9 = 9841 := rfl; omega) (by decide))]
  | succ j ih =>
    intro k fuel hk h1 hf
    obtain ⟨fu, rfl⟩ : ∃ fu, fuel = fu + 1 := ⟨fuel - 1, by omega⟩
    have hb := gN_b k (by omega)
    rw [u_X10_order_2]
    unfold s_X10_order_2
    rcases Nat.lt_or_ge (gN k) n with c | c
    · rw [if_neg (nI_ge c (by omega)), show (3 : Int32) * nI (gN k) + 1 = nI (gN (k + 1)) by rw [show (3 : Int32) = nI 3 from rfl, nI_mul, nI_1]; rfl]
      exact ih (k + 1) fu (by omega) (by omega) (by omega)
    · rw [if_pos (nI_le c (by omega))]
      exact ⟨k, by omega, h1, rfl⟩
theorem order_eq (N : Nat) (hN : NB ≤ N) {off n : Nat} (hon : off + n ≤ 8192) (hn : n ≤ 4096) (r : Nat → Int64) (f : Nat → Nat) (hr : ∀ t, t < n → r (off + t) = lI (f t)) (hb : ∀ t, t < n → f t < 2 ^ 62) :
    ∃ (r' : Nat → Int64) (f' : Nat → Nat), (∀ t, t < n → r' (off + t) = lI (f' t)) ∧ (∀ t, t < n → f' t < 2 ^ 62) ∧ (∀ u, u < off ∨ off + n ≤ u → r' u = r u) ∧ (∀ v, cF f' v n = cF f v n) ∧ srt f' n ∧ f_X10_order N (nI off) (nI n) r = some r' := by
  unfold f_X10_order
  obtain ⟨k, k1, k2, e⟩ := o2_loop N (nI off) hn r 8 1 N (by omega) (by omega) (by unfold NB at hN; omega)
  rw [show f_X10_order_2 N (nI off) (nI n) N r 1 = _ from e]
  exact o16_loop N hN hon k N r f hr hb (by unfold NB at hN; omega) k1 (by omega)
