/-! which curve agrees with most hands: the class's bases, the reference's curves -/
def tbM (M : Nat) : Nat → Bool := fun i => M.testBit i
def agR (q n D S : Nat) (y : Nat → Nat) (Y : Nat) : Nat → Bool := fun i => S.testBit i && decide (rgt q (D + 1) Y (i + 1) = y i)
def agC (q n S : Nat) (y : Nat → Nat) (B : Nat) : Nat → Bool := fun i => S.testBit i && decide (hgt q n (tbM B) y (i + 1) = y i)
def okBs (D S B : Nat) : Prop := B < 64 ∧ 1 ≤ B ∧ B ≤ S ∧ (∀ i, i < 6 → B.testBit i = true → S.testBit i = true) ∧ cB (tbM B) 6 = D + 1
theorem two_le {n : Nat} (hn : n ≤ 6) : 2 ^ n ≤ 64 := Nat.pow_le_pow_right (show 0 < 2 by decide) hn
theorem bit_out {n S i : Nat} (hS : S < 2 ^ n) (hi : n ≤ i) : S.testBit i = false := Nat.testBit_lt_two_pow (Nat.lt_of_lt_of_le hS (Nat.pow_le_pow_right (by decide) hi))
theorem cB_en (g : Nat → Bool) {n : Nat} (hn : n ≤ 6) : cB (tbM (enM g n)) 6 = cB g n := by
  rw [cB_stop (g := tbM (enM g n)) (n := n) 6 hn (fun i h1 h2 => bit_out (enM_lt g n) h1)]
  refine cB_congr n (fun i hi => ?_)
  show (enM g n).testBit i = g i
  rw [enM_bit g n hn i (by omega), decide_eq_true hi, Bool.true_and]
theorem om1 {q n D S : Nat} (hq : q = 5 ∨ q = 7 ∨ q = 11 ∨ q = 13) (hn : n ≤ 6) (hnq : n < q) (hS : S < 2 ^ n) {y : Nat → Nat} (hy : ∀ i, i < n → y i < q) {B : Nat} (hB : okBs D S B) : ∃ Y : Nat, Y < q ^ (D + 1) ∧ (∀ i, agR q n D S y Y i = agC q n S y B i) ∧ hgt q n (tbM B) y 0 = Y % q ∧ D + 1 ≤ cB (agC q n S y B) n ∧ ∀ i, i < 6 → B.testBit i = true → agC q n S y B i = true := by
  obtain ⟨h64, h1, hle, hsub, hc⟩ := hB
  have hcn : cB (tbM B) n = D + 1 := by
    rw [← hc]
    refine (cB_stop (g := tbM B) (n := n) 6 hn (fun i hi1 hi2 => ?_)).symm
    by_cases z : B.testBit i = true
    · have := hsub i hi2 z
      rw [bit_out hS hi1] at this
      exact absurd this (by decide)
    · show B.testBit i = false
      simpa using z
  obtain ⟨Y, hY, he⟩ := lag_of (q := q) (n := n) (by omega) (tbM B) y
  rw [hcn] at hY he
  have hag : ∀ i, i < 6 → B.testBit i = true → agC q n S y B i = true := by
    intro i hi hb
    have hs := hsub i hi hb
    have hin : i < n := by
      rcases Nat.lt_or_ge i n with z | z
      · exact z
      · rw [bit_out hS z] at hs
        exact absurd hs (by decide)
    show (S.testBit i && decide (hgt q n (tbM B) y (i + 1) = y i)) = true
    rw [hs, decide_eq_true (lag_at hq hn hnq (tbM B) y hin hb (hy i hin))]
    rfl
  refine ⟨Y, hY, fun i => ?_, ?_, ?_, hag⟩
  · show (S.testBit i && decide (rgt q (D + 1) Y (i + 1) = y i)) = (S.testBit i && decide (hgt q n (tbM B) y (i + 1) = y i))
    rw [he]
  · rw [he, rgt_0 (by omega)]
  · rw [← hcn]
    exact cB_le n (fun i hi hb => hag i (by omega) hb)
theorem om2 {q n D S : Nat} (hq : q = 5 ∨ q = 7 ∨ q = 11 ∨ q = 13) (hn : n ≤ 6) (hnq : n < q) (hS : S < 2 ^ n) {y : Nat → Nat} (hy : ∀ i, i < n → y i < q) {Y : Nat} (hY : Y < q ^ (D + 1)) (hc : D + 1 ≤ cB (agR q n D S y Y) n) : ∃ B : Nat, okBs D S B ∧ (∀ i, agR q n D S y Y i = agC q n S y B i) ∧ hgt q n (tbM B) y 0 = Y % q := by
  obtain ⟨g, hg1, hg2⟩ := cB_pick n (D + 1) hc
  have h64 := two_le hn
  have hlt := enM_lt g n
  have hbit : ∀ i, i < 6 → (enM g n).testBit i = g i := by
    intro i hi
    rw [enM_bit g n hn i hi]
    by_cases z : g i = true
    · rw [decide_eq_true (hg1 i z).2, Bool.true_and]
    · have zf : g i = false := by simpa using z
      rw [zf, Bool.and_false]
  have hgS : ∀ i, g i = true → S.testBit i = true := by
    intro i z
    have h := (hg1 i z).1
    have h' : (S.testBit i && decide (rgt q (D + 1) Y (i + 1) = y i)) = true := h
    rw [Bool.and_eq_true] at h'
    exact h'.1
  have hB : okBs D S (enM g n) := by
    refine ⟨by omega, ?_, ?_, ?_, ?_⟩
    · rcases Nat.lt_or_ge 0 (enM g n) with z | z
      · exact z
      · exfalso
        obtain ⟨i, hi, gi⟩ := cB_one (g := g) n (by omega)
        have := hbit i (by omega)
        rw [gi, show enM g n = 0 by omega, Nat.zero_testBit] at this
        exact absurd this (by decide)
    · rw [← enM_of (enM g n) (by omega), ← enM_of S (by omega)]
      refine enM_le 6 (fun i hi z => ?_)
      have z' : (enM (fun j => (enM g n).testBit j) 6).testBit i = true ∨ (enM g n).testBit i = true := Or.inr z
      rcases z' with z' | z'
      · rw [enM_of (enM g n) (by omega)] at z'
        rw [hbit i hi] at z'
        exact hgS i z'
      · rw [hbit i hi] at z'
        exact hgS i z'
    · intro i hi z
      rw [hbit i hi] at z
      exact hgS i z
    · rw [cB_en g hn, hg2]
  obtain ⟨Z, hZ, e1, e2, _, e4⟩ := om1 hq hn hnq hS hy hB
  have hYZ : Z = Y := by
    refine rgt_inj hq hZ hY (tbM (enM g n)) (by rw [cB_en g hn, hg2]; exact Nat.le_refl _) ?_ ?_
    · intro i hi z
      have z' : (enM g n).testBit i = true := z
      rw [hbit i hi] at z'
      have := (hg1 i z').2
      omega
    · intro i hi z
      have z' : (enM g n).testBit i = true := z
      have ha := e4 i hi z'
      rw [← e1 i] at ha
      have ha' : (S.testBit i && decide (rgt q (D + 1) Z (i + 1) = y i)) = true := ha
      rw [Bool.and_eq_true, decide_eq_true_eq] at ha'
      rw [hbit i hi] at z'
      have hb := (hg1 i z').1
      have hb' : (S.testBit i && decide (rgt q (D + 1) Y (i + 1) = y i)) = true := hb
      rw [Bool.and_eq_true, decide_eq_true_eq] at hb'
      rw [ha'.2, hb'.2]
  subst hYZ
  exact ⟨_, hB, e1, e2⟩
/-- the outcome -/
theorem om3 {q n D S : Nat} (hq : q = 5 ∨ q = 7 ∨ q = 11 ∨ q = 13) (hn : n ≤ 6) (hnq : n < q) (hS : S < 2 ^ n) {y : Nat → Nat} (hy : ∀ i, i < n → y i < q) {best bb Y0 r : Nat} (hK : (best = 0 ∧ ∀ B, okBs D S B → cB (agC q n S y B) n = 0) ∨ (okBs D S bb ∧ best = enM (agC q n S y bb) n ∧ ∀ B, okBs D S B → cB (agC q n S y B) n ≤ cB (agC q n S y bb) n)) (hY0 : Y0 < q ^ (D + 1)) (hr : cB (agR q n D S y Y0) n = r) (hmax : ∀ Y, Y < q ^ (D + 1) → cB (agR q n D S y Y) n ≤ r) :
    (cB (tbM S) 6 + D < 2 * cB (tbM best) 6 ↔ (cB (tbM S) 6 + D < 2 * r ∧ ∀ Y, Y < q ^ (D + 1) → cB (agR q n D S y Y) n = r → Y = Y0)) ∧ (cB (tbM S) 6 + D < 2 * cB (tbM best) 6 → best = enM (agR q n D S y Y0) n ∧ hgt q n (tbM bb) y 0 = Y0 % q) := by
  have hSn : cB (tbM S) 6 = cB (tbM S) n := cB_stop (g := tbM S) (n := n) 6 hn (fun i h1 h2 => bit_out hS h1)
  have hsubR : ∀ Y i, i < n → agR q n D S y Y i = true → tbM S i = true := by
    intro Y i _ h
    have h' : (S.testBit i && decide (rgt q (D + 1) Y (i + 1) = y i)) = true := h
    rw [Bool.and_eq_true] at h'
    exact h'.1
  have hrs : r ≤ cB (tbM S) n := by
    rw [← hr]
    exact cB_le n (hsubR Y0)
  rw [hSn]
  have z0 : cB (tbM 0) 6 = 0 := rfl
  rcases Nat.lt_or_ge r (D + 1) with hlt | hge
  · have hK1 : best = 0 := by
      rcases hK with ⟨h, _⟩ | ⟨hB, _, _⟩
      · exact h
      · obtain ⟨Y1, hY1, e1, _, e3, _⟩ := om1 hq hn hnq hS hy hB
        have := hmax Y1 hY1
        rw [cB_congr n (fun i _ => e1 i)] at this
        omega
    rw [hK1, z0]
    exact ⟨⟨fun h => by omega, fun h => by omega⟩, fun h => by omega⟩
  · obtain ⟨B1, hB1, f1, f2⟩ := om2 hq hn hnq hS hy hY0 (by rw [hr]; exact hge)
    rcases hK with ⟨_, h⟩ | ⟨hB, hbest, hall⟩
    · have := h B1 hB1
      rw [← cB_congr n (fun i _ => f1 i), hr] at this
      omega
    · obtain ⟨Y1, hY1, e1, e2, e3, _⟩ := om1 hq hn hnq hS hy hB
      have m1 := hall B1 hB1
      rw [← cB_congr n (fun i _ => f1 i), hr] at m1
      have m2 := hmax Y1 hY1
      have eC : cB (agR q n D S y Y1) n = cB (agC q n S y bb) n := cB_congr n (fun i _ => e1 i)
      have mc : cB (tbM best) 6 = cB (agC q n S y bb) n := by rw [hbest, cB_en _ hn]
      have huniq : cB (tbM S) n + D < 2 * r → ∀ Y, Y < q ^ (D + 1) → cB (agR q n D S y Y) n = r → Y = Y0 := by
        intro hlt2 Y hY hYr
        have hie := cB_ie (a := agR q n D S y Y) (b := agR q n D S y Y0) (s := tbM S) n (hsubR Y) (hsubR Y0)
        rw [hYr, hr] at hie
        refine rgt_inj hq hY hY0 (fun i => decide (i < n) && (agR q n D S y Y i && agR q n D S y Y0 i)) ?_ ?_ ?_
        · rw [cB_stop (n := n) 6 hn (fun i h1 _ => by show (decide (i < n) && _) = false; rw [decide_eq_false (by omega), Bool.false_and]), cB_congr (h := fun i => agR q n D S y Y i && agR q n D S y Y0 i) n (fun i hi => by show (decide (i < n) && _) = _; rw [decide_eq_true hi, Bool.true_and])]
          omega
        · intro i _ h
          have h' : (decide (i < n) && (agR q n D S y Y i && agR q n D S y Y0 i)) = true := h
          rw [Bool.and_eq_true, decide_eq_true_eq] at h'
          omega
        · intro i _ h
          have h' : (decide (i < n) && ((S.testBit i && decide (rgt q (D + 1) Y (i + 1) = y i)) && (S.testBit i && decide (rgt q (D + 1) Y0 (i + 1) = y i)))) = true := h
          simp only [Bool.and_eq_true, decide_eq_true_eq] at h'
          rw [h'.2.1.2, h'.2.2.2]
      rw [mc]
      refine ⟨⟨fun h => ⟨by omega, huniq (by omega)⟩, fun h => by omega⟩, fun h => ?_⟩
      have eY : Y1 = Y0 := huniq (by omega) Y1 hY1 (by omega)
      subst eY
      exact ⟨by rw [hbest]; exact (enM_congr n (fun i _ => e1 i)).symm, e2⟩
