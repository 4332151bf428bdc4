/-! how often a number stands in a row; rows put in order -/
def cF (f : Nat → Nat) (v : Nat) : Nat → Nat
  | 0 => 0
  | k + 1 => cF f v k + (if f k = v then 1 else 0)
theorem cF_s (f : Nat → Nat) (v k : Nat) : cF f v (k + 1) = cF f v k + (if f k = v then 1 else 0) := rfl
theorem cF_congr {f g : Nat → Nat} (v : Nat) : ∀ n : Nat, (∀ i, i < n → f i = g i) → cF f v n = cF g v n := by
  intro n
  induction n with
  | zero => intro _; rfl
  | succ n ih =>
    intro h
    rw [cF_s, cF_s, ih (fun i hi => h i (by omega)), h n (by omega)]
theorem cF_pos (f : Nat → Nat) (v : Nat) : ∀ n : Nat, 0 < cF f v n ↔ ∃ i, i < n ∧ f i = v := by
  intro n
  induction n with
  | zero => exact ⟨fun h => absurd h (Nat.lt_irrefl 0), fun ⟨i, hi, _⟩ => absurd hi (Nat.not_lt_zero i)⟩
  | succ n ih =>
    rw [cF_s]
    by_cases e : f n = v
    · rw [if_pos e]
      exact ⟨fun _ => ⟨n, by omega, e⟩, fun _ => by omega⟩
    · rw [if_neg e, Nat.add_zero, ih]
      constructor
      · rintro ⟨i, hi, h⟩; exact ⟨i, by omega, h⟩
      · rintro ⟨i, hi, h⟩
        refine ⟨i, ?_, h⟩
        have : i ≠ n := fun z => e (z ▸ h)
        omega
theorem cF_le (f : Nat → Nat) (v : Nat) : ∀ n : Nat, cF f v n ≤ n := by
  intro n
  induction n with
  | zero => exact Nat.le_refl _
  | succ n ih =>
    rw [cF_s]
    by_cases e : f n = v
    · rw [if_pos e]; omega
    · rw [if_neg e]; omega
theorem cF_mono (f : Nat → Nat) (v : Nat) {k : Nat} : ∀ n : Nat, k ≤ n → cF f v k ≤ cF f v n := by
  intro n
  induction n with
  | zero => intro h; rw [show k = 0 by omega]; exact Nat.le_refl _
  | succ n ih =>
    intro h
    by_cases e : k = n + 1
    · rw [e]; exact Nat.le_refl _
    · have := ih (by omega)
      rw [cF_s]
      omega
/-- how many unlike numbers -/
def dF (f : Nat → Nat) : Nat → Nat
  | 0 => 0
  | k + 1 => dF f k + (if cF f (f k) k = 0 then 1 else 0)
theorem dF_s (f : Nat → Nat) (k : Nat) : dF f (k + 1) = dF f k + (if cF f (f k) k = 0 then 1 else 0) := rfl
theorem dF_le (f : Nat → Nat) : ∀ n : Nat, dF f n ≤ n := by
  intro n
  induction n with
  | zero => exact Nat.le_refl _
  | succ n ih =>
    rw [dF_s]
    by_cases e : cF f (f n) n = 0
    · rw [if_pos e]; omega
    · rw [if_neg e]; omega
theorem cB_zero {g : Nat → Bool} : ∀ n : Nat, (∀ i, i < n → g i = false) → cB g n = 0 := by
  intro n
  induction n with
  | zero => intro _; rfl
  | succ n ih =>
    intro h
    rw [cB_s, ih (fun i hi => h i (by omega)), if_neg (by rw [h n (by omega)]; decide)]
theorem cB_full {g : Nat → Bool} : ∀ n : Nat, (∀ i, i < n → g i = true) → cB g n = n := by
  intro n
  induction n with
  | zero => intro _; rfl
  | succ n ih =>
    intro h
    rw [cB_s, ih (fun i hi => h i (by omega)), if_pos (h n (by omega))]
theorem cB_mono {g : Nat → Bool} {k : Nat} : ∀ n : Nat, k ≤ n → cB g k ≤ cB g n := by
  intro n
  induction n with
  | zero => intro h; rw [show k = 0 by omega]; exact Nat.le_refl _
  | succ n ih =>
    intro h
    by_cases e : k = n + 1
    · rw [e]; exact Nat.le_refl _
    · have := ih (by omega)
      rw [cB_s]
      omega
theorem dF_eq {f : Nat → Nat} {B : Nat} : ∀ n : Nat, (∀ i, i < n → f i < B) → dF f n = cB (fun v => decide (0 < cF f v n)) B := by
  intro n
  induction n with
  | zero =>
    intro _
    exact (cB_zero B (fun i _ => decide_eq_false (Nat.lt_irrefl 0))).symm
  | succ n ih =>
    intro h
    rw [dF_s, ih (fun i hi => h i (by omega))]
    have hB := h n (by omega)
    by_cases e : cF f (f n) n = 0
    · rw [if_pos e, ← cB_del (g := fun v => decide (0 < cF f v (n + 1))) (a := f n) (decide_eq_true (by rw [cF_s, if_pos rfl]; omega)) B hB]
      congr 1
      refine cB_congr B (fun v hv => ?_)
      show decide (0 < cF f v n) = (decide (0 < cF f v (n + 1)) && decide (v ≠ f n))
      by_cases z : v = f n
      · rw [z, e, decide_eq_false (Nat.lt_irrefl 0), decide_eq_false (show ¬ f n ≠ f n from fun q => q rfl), Bool.and_false]
      · rw [decide_eq_true (show v ≠ f n from z), Bool.and_true, cF_s, if_neg (fun q => z q.symm), Nat.add_zero]
    · rw [if_neg e, Nat.add_zero]
      refine cB_congr B (fun v hv => ?_)
      show decide (0 < cF f v n) = decide (0 < cF f v (n + 1))
      by_cases z : f n = v
      · rw [decide_eq_true (show 0 < cF f v n by rw [← z]; omega), decide_eq_true (show 0 < cF f v (n + 1) by rw [cF_s, ← z]; omega)]
      · rw [cF_s, if_neg z, Nat.add_zero]
theorem dF_perm {f g : Nat → Nat} {B n : Nat} (hf : ∀ i, i < n → f i < B) (hg : ∀ i, i < n → g i < B) (h : ∀ v, cF f v n = cF g v n) : dF f n = dF g n := by
  rw [dF_eq n hf, dF_eq n hg]
  exact cB_congr B (fun v _ => by show decide (0 < cF f v n) = decide (0 < cF g v n); rw [h v])
/-- sums over numbers below a bound -/
def sB (c : Nat → Nat) : Nat → Nat
  | 0 => 0
  | k + 1 => sB c k + c k
theorem sB_s (c : Nat → Nat) (k : Nat) : sB c (k + 1) = sB c k + c k := rfl
theorem sB_congr {a b : Nat → Nat} : ∀ n : Nat, (∀ i, i < n → a i = b i) → sB a n = sB b n := by
  intro n
  induction n with
  | zero => intro _; rfl
  | succ n ih =>
    intro h
    rw [sB_s, sB_s, ih (fun i hi => h i (by omega)), h n (by omega)]
theorem sB_le {a b : Nat → Nat} : ∀ n : Nat, (∀ i, i < n → a i ≤ b i) → sB a n ≤ sB b n := by
  intro n
  induction n with
  | zero => intro _; exact Nat.le_refl _
  | succ n ih =>
    intro h
    have h1 := ih (fun i hi => h i (by omega))
    have h2 := h n (by omega)
    rw [sB_s, sB_s]
    omega
theorem sB_eq {a b : Nat → Nat} : ∀ n : Nat, (∀ i, i < n → a i ≤ b i) → sB a n = sB b n → ∀ i, i < n → a i = b i := by
  intro n
  induction n with
  | zero => intro _ _ i hi; exact absurd hi (Nat.not_lt_zero i)
  | succ n ih =>
    intro h e i hi
    have h1 := sB_le n (fun i hi => h i (by omega))
    have h2 := h n (by omega)
    rw [sB_s, sB_s] at e
    by_cases z : i = n
    · rw [z]; omega
    · exact ih (fun i hi => h i (by omega)) (by omega) i (by omega)
theorem sB_one {c : Nat → Nat} {a : Nat} : ∀ n : Nat, a < n → sB (fun v => c v + (if a = v then 1 else 0)) n = sB c n + 1 := by
  intro n
  induction n with
  | zero => intro h; exact absurd h (Nat.not_lt_zero a)
  | succ n ih =>
    intro h
    rw [sB_s, sB_s]
    by_cases e : a = n
    · rw [if_pos e, sB_congr (b := c) n (fun i hi => by rw [if_neg (by omega), Nat.add_zero])]
      omega
    · rw [if_neg e, ih (by omega)]
      omega
theorem cF_sum {f : Nat → Nat} {B : Nat} : ∀ n : Nat, (∀ i, i < n → f i < B) → sB (fun v => cF f v n) B = n := by
  intro n
  induction n with
  | zero =>
    intro _
    have : ∀ k : Nat, sB (fun v => cF f v 0) k = 0 := by
      intro k
      induction k with
      | zero => rfl
      | succ k ih => rw [sB_s, ih]; rfl
    exact this B
  | succ n ih =>
    intro h
    show sB (fun v => cF f v n + (if f n = v then 1 else 0)) B = n + 1
    rw [sB_one (c := fun v => cF f v n) B (h n (by omega)), ih (fun i hi => h i (by omega))]
theorem cF_all {f g : Nat → Nat} {B n : Nat} (hf : ∀ i, i < n → f i < B) (hg : ∀ i, i < n → g i < B) (h : ∀ v, cF g v n ≤ cF f v n) : ∀ v, cF g v n = cF f v n := by
  have hs := sB_eq (a := fun v => cF g v n) (b := fun v => cF f v n) B (fun v _ => h v) (by rw [cF_sum n hf, cF_sum n hg])
  intro v
  rcases Nat.lt_or_ge v B with z | z
  · exact hs v z
  · have k1 : ∀ k : Nat → Nat, (∀ i, i < n → k i < B) → cF k v n = 0 := by
      intro k hk
      rcases Nat.eq_zero_or_pos (cF k v n) with q | q
      · exact q
      · obtain ⟨i, hi, e⟩ := (cF_pos k v n).mp q
        have := hk i hi
        omega
    rw [k1 f hf, k1 g hg]
/-- rows in order -/
def srt (f : Nat → Nat) (n : Nat) : Prop := ∀ i j, i ≤ j → j < n → f i ≤ f j
theorem cle_s (f : Nat → Nat) (v : Nat) : ∀ n : Nat, cB (fun i => decide (f i < v + 1)) n = cB (fun i => decide (f i < v)) n + cF f v n := by
  intro n
  induction n with
  | zero => rfl
  | succ n ih =>
    rw [cB_s, cB_s, cF_s, ih]
    rcases Nat.lt_trichotomy (f n) v with z | z | z
    · rw [if_pos (decide_eq_true (show f n < v + 1 by omega)), if_pos (decide_eq_true z), if_neg (show ¬ f n = v by omega)]; omega
    · rw [if_pos (decide_eq_true (show f n < v + 1 by omega)), if_neg (by rw [decide_eq_false (show ¬ f n < v by omega)]; decide), if_pos z]; omega
    · rw [if_neg (by rw [decide_eq_false (show ¬ f n < v + 1 by omega)]; decide), if_neg (by rw [decide_eq_false (show ¬ f n < v by omega)]; decide), if_neg (show ¬ f n = v by omega)]; omega
theorem cle_eq {f g : Nat → Nat} {n : Nat} (h : ∀ v, cF f v n = cF g v n) : ∀ v : Nat, cB (fun i => decide (f i < v)) n = cB (fun i => decide (g i < v)) n := by
  intro v
  induction v with
  | zero => exact cB_congr n (fun i _ => by show decide (f i < 0) = decide (g i < 0); rw [decide_eq_false (Nat.not_lt_zero _), decide_eq_false (Nat.not_lt_zero _)])
  | succ v ih => rw [cle_s, cle_s, ih, h v]
theorem srt_cle {f : Nat → Nat} {n : Nat} (hs : srt f n) {k : Nat} (hk : k < n) (v : Nat) : f k < v ↔ k < cB (fun i => decide (f i < v)) n := by
  constructor
  · intro h
    have h1 := cB_full (g := fun i => decide (f i < v)) (k + 1) (fun i hi => decide_eq_true (by have := hs i k (by omega) hk; omega))
    have h2 := cB_mono (g := fun i => decide (f i < v)) (k := k + 1) n (by omega)
    omega
  · intro h
    rcases Nat.lt_or_ge (f k) v with z | z
    · exact z
    · exfalso
      rw [cB_stop (n := k) n (by omega) (fun i h1 h2 => decide_eq_false (by have := hs k i h1 h2; omega))] at h
      have := cB_max (fun i => decide (f i < v)) k
      omega
theorem srt_eq {f g : Nat → Nat} {n : Nat} (hf : srt f n) (hg : srt g n) (h : ∀ v, cF f v n = cF g v n) {k : Nat} (hk : k < n) : f k = g k := by
  have a1 := (srt_cle hf hk (f k + 1)).mp (by omega)
  rw [cle_eq h] at a1
  have a2 := (srt_cle hg hk (f k + 1)).mpr a1
  have b1 := (srt_cle hg hk (g k + 1)).mp (by omega)
  rw [← cle_eq h] at b1
  have b2 := (srt_cle hf hk (g k + 1)).mpr b1
  omega
theorem srt_new {f : Nat → Nat} {n : Nat} (hs : srt f n) {k : Nat} (hk : k + 1 < n) : cF f (f (k + 1)) (k + 1) = 0 ↔ ¬ f (k + 1) = f k := by
  constructor
  · intro h e
    have := (cF_pos f (f (k + 1)) (k + 1)).mpr ⟨k, by omega, e.symm⟩
    omega
  · intro h
    rcases Nat.eq_zero_or_pos (cF f (f (k + 1)) (k + 1)) with q | q
    · exact q
    · obtain ⟨i, hi, e⟩ := (cF_pos f (f (k + 1)) (k + 1)).mp q
      have h1 := hs i k (by omega) (by omega)
      have h2 := hs k (k + 1) (by omega) hk
      omega
/-- one place changed -/
def upN (f : Nat → Nat) (a x : Nat) : Nat → Nat := fun i => if i = a then x else f i
theorem upN_s (f : Nat → Nat) (a x : Nat) : upN f a x a = x := if_pos rfl
theorem upN_n {f : Nat → Nat} {a x i : Nat} (h : i ≠ a) : upN f a x i = f i := if_neg h
theorem cF_up (f : Nat → Nat) (v : Nat) {a x : Nat} : ∀ n : Nat, a < n → cF (upN f a x) v n + (if f a = v then 1 else 0) = cF f v n + (if x = v then 1 else 0) := by
  intro n
  induction n with
  | zero => intro h; exact absurd h (Nat.not_lt_zero a)
  | succ n ih =>
    intro h
    rw [cF_s, cF_s]
    by_cases e : a = n
    · subst e
      rw [upN_s, cF_congr (g := f) v a (fun i hi => upN_n (by omega))]
      omega
    · have := ih (by omega)
      rw [upN_n (show n ≠ a from fun z => e z.symm)]
      omega
/-- one number moved up over another leaves how often each stands -/
theorem cF_move (f : Nat → Nat) (v : Nat) {n k g x : Nat} (hk : k < n) (hg : g ≤ k) (h0 : 0 < g) : cF (upN (upN f k (f (k - g))) (k - g) x) v n = cF (upN f k x) v n := by
  have e1 := cF_up (upN f k (f (k - g))) v (a := k - g) (x := x) n (by omega)
  rw [upN_n (show k - g ≠ k by omega)] at e1
  have e2 := cF_up f v (a := k) (x := f (k - g)) n hk
  have e3 := cF_up f v (a := k) (x := x) n hk
  omega
