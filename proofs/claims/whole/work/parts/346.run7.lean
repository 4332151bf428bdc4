/-! a run, as numbers: what each item's letter gets, and what a hand sees -/
def tnN (t : Nat → Int32) (k : Nat) : Nat := (t k).toNatClampNeg
def posN (w : Nat → Int32) (k : Nat) : Nat := 2 * cntW w 0 k + 8 * cntW w 4 k
def inV (m : Nat) (w : Nat → Int32) (lt inp : Nat → Nat) (k h : Nat) : Nat :=
  if h = 0 then lt (posN w k) % m else if h = 1 then lt (posN w k + 1) % m else sm (inp (cntW w 0 k)) (lt (posN w k) % m + lt (posN w k + 1) % m) m
def valN (m : Nat) (w t a b d : Nat → Int32) (lt inp : Nat → Nat) (lf : Nat → Nat → Nat) (k : Nat) (P : Nat → Nat) (h : Nat) : Nat :=
  if w k = 0 then inV m w lt inp k h
  else if w k = 1 then (if h = 0 then tnN d k % m else 0)
  else if w k = 2 then (P (3 * tnN a k + h) + P (3 * tnN b k + h)) % m
  else if w k = 3 then sm (P (3 * tnN a k + h)) (P (3 * tnN b k + h)) m
  else if w k = 4 then mvN m (sxN m (fun h => P (3 * tnN a k + h)) (lf k) (trp m lt (posN w k))) (syN m (fun h => P (3 * tnN b k + h)) (trp m lt (posN w k))) (trp m lt (posN w k)) h
  else ovN m (fun h => P (3 * tnN t k + h)) (lf k) h
def up3 (P : Nat → Nat) (c : Nat) (v : Nat → Nat) : Nat → Nat := fun i => if i / 3 = c then v (i % 3) else P i
def prtN (m : Nat) (w t a b d : Nat → Int32) (lt inp : Nat → Nat) (lf : Nat → Nat → Nat) : Nat → Nat → Nat
  | 0 => fun _ => 0
  | k + 1 => if w k = 5 then prtN m w t a b d lt inp lf k else up3 (prtN m w t a b d lt inp lf k) (tnN t k) (valN m w t a b d lt inp lf k (prtN m w t a b d lt inp lf k))
def vN (m : Nat) (w t a b d : Nat → Int32) (lt inp : Nat → Nat) (lf : Nat → Nat → Nat) (k h : Nat) : Nat := valN m w t a b d lt inp lf k (prtN m w t a b d lt inp lf k) h
def sqN (m : Nat) (w t a b d : Nat → Int32) (lt inp : Nat → Nat) (lf : Nat → Nat → Nat) (hd : Nat) (k : Nat) : List Nat :=
  if w k = 0 then seenIn (decide (d k = nI hd)) hd (inV m w lt inp k 0) (inV m w lt inp k 1) (inV m w lt inp k 2)
  else if w k = 4 then
    [trp m lt (posN w k) hd] ++ [trp m lt (posN w k) (hd + 3)] ++ [trp m lt (posN w k) (hd + 6)] ++
    [sxN m (fun h => prtN m w t a b d lt inp lf k (3 * tnN a k + h)) (lf k) (trp m lt (posN w k)) 0] ++ [sxN m (fun h => prtN m w t a b d lt inp lf k (3 * tnN a k + h)) (lf k) (trp m lt (posN w k)) 1] ++ [sxN m (fun h => prtN m w t a b d lt inp lf k (3 * tnN a k + h)) (lf k) (trp m lt (posN w k)) 2] ++
    [syN m (fun h => prtN m w t a b d lt inp lf k (3 * tnN b k + h)) (trp m lt (posN w k)) 0] ++ [syN m (fun h => prtN m w t a b d lt inp lf k (3 * tnN b k + h)) (trp m lt (posN w k)) 1] ++ [syN m (fun h => prtN m w t a b d lt inp lf k (3 * tnN b k + h)) (trp m lt (posN w k)) 2]
  else if w k = 5 then [vN m w t a b d lt inp lf k 0] ++ [vN m w t a b d lt inp lf k 1] ++ [vN m w t a b d lt inp lf k 2]
  else []
def lsN (m : Nat) (w t a b d : Nat → Int32) (lt inp : Nat → Nat) (lf : Nat → Nat → Nat) (hd : Nat) : Nat → List Nat
  | 0 => []
  | k + 1 => lsN m w t a b d lt inp lf hd k ++ sqN m w t a b d lt inp lf hd k
theorem valN_lt (m : Nat) (w t a b d : Nat → Int32) (lt inp : Nat → Nat) (lf : Nat → Nat → Nat) (k : Nat) (P : Nat → Nat) (h : Nat) (h1 : 1 ≤ m) : valN m w t a b d lt inp lf k P h < m := by
  have hm : ∀ x : Nat, x % m < m := fun x => Nat.mod_lt x (by omega)
  unfold valN
  by_cases w0 : w k = 0
  · rw [if_pos w0]
    unfold inV
    by_cases e0 : h = 0
    · rw [if_pos e0]; exact hm _
    · rw [if_neg e0]
      by_cases e1 : h = 1
      · rw [if_pos e1]; exact hm _
      · rw [if_neg e1]; exact sm_lt _ _ h1
  rw [if_neg w0]
  by_cases w1 : w k = 1
  · rw [if_pos w1]
    by_cases e0 : h = 0
    · rw [if_pos e0]; exact hm _
    · rw [if_neg e0]; omega
  rw [if_neg w1]
  by_cases w2 : w k = 2
  · rw [if_pos w2]; exact hm _
  rw [if_neg w2]
  by_cases w3 : w k = 3
  · rw [if_pos w3]; exact sm_lt _ _ h1
  rw [if_neg w3]
  by_cases w4 : w k = 4
  · rw [if_pos w4]; exact hm _
  rw [if_neg w4]
  exact hm _
theorem vN_lt (m : Nat) (w t a b d : Nat → Int32) (lt inp : Nat → Nat) (lf : Nat → Nat → Nat) (k h : Nat) (h1 : 1 ≤ m) : vN m w t a b d lt inp lf k h < m := valN_lt m w t a b d lt inp lf k _ h h1
/-- a letter keeps what its item gave it -/
theorem prt_at {n : Nat} {w t a b d : Nat → Int32} (hok : okP n w t a b d) (m : Nat) (lt inp : Nat → Nat) (lf : Nat → Nat → Nat) {j : Nat} (hj : j + 1 < n) {h : Nat} (hh : h < 3) : ∀ k : Nat, j < k → k ≤ n → prtN m w t a b d lt inp lf k (3 * tnN t j + h) = vN m w t a b d lt inp lf j h := by
  intro k
  induction k with
  | zero => intro h1; omega
  | succ k ih =>
    intro h1 h2
    show (if w k = 5 then prtN m w t a b d lt inp lf k else up3 (prtN m w t a b d lt inp lf k) (tnN t k) (valN m w t a b d lt inp lf k (prtN m w t a b d lt inp lf k))) (3 * tnN t j + h) = _
    by_cases e : j = k
    · subst e
      rw [if_neg (ok_w5 hok hj)]
      unfold up3 vN
      rw [if_pos (by omega)]
      congr 1
      omega
    · by_cases w5 : w k = 5
      · rw [if_pos w5]; exact ih (by omega) (by omega)
      · rw [if_neg w5]
        have hk2 : k + 1 < n := by
          rcases Nat.lt_or_ge (k + 1) n with q | q
          · exact q
          · exact absurd ((hok k (by omega)).2.1.mpr (by omega)) w5
        have hne : tnN t j ≠ tnN t k := ok_tn hok (show j < k by omega) hk2
        unfold up3
        rw [if_neg (by omega)]
        exact ih (by omega) (by omega)
/-- parts of the letters defined so far, in a row of 48 -/
def agS (m n : Nat) (w t a b d : Nat → Int32) (lt inp : Nat → Nat) (lf : Nat → Nat → Nat) (k : Nat) (S : Nat → Int32) : Prop := ∀ j : Nat, j < k → j + 1 < n → ∀ h : Nat, h < 3 → S (3 * tnN t j + h) = nI (vN m w t a b d lt inp lf j h)
theorem tn_eq {n : Nat} {w t a b d : Nat → Int32} (hok : okP n w t a b d) {k : Nat} (hk : k < n) : t k = nI (tnN t k) ∧ tnN t k < 16 := by
  obtain ⟨c, hc, e⟩ := ok_t hok hk
  unfold tnN
  rw [e, nI_clamp (by omega)]
  exact ⟨rfl, hc⟩
theorem agS_s {n : Nat} {w t a b d : Nat → Int32} (hok : okP n w t a b d) (m : Nat) (lt inp : Nat → Nat) (lf : Nat → Nat → Nat) {k : Nat} (hk : k + 1 < n) {S : Nat → Int32} (ha : agS m n w t a b d lt inp lf k S) : agS m n w t a b d lt inp lf (k + 1) (set3 S (tnN t k) (nI (vN m w t a b d lt inp lf k 0)) (nI (vN m w t a b d lt inp lf k 1)) (nI (vN m w t a b d lt inp lf k 2))) := by
  intro j hj hj2 h hh
  by_cases e : j = k
  · subst e
    match h, hh with
    | 0, _ => exact set3_0 _ _ _ _ _
    | 1, _ => exact set3_1 _ _ _ _ _
    | 2, _ => exact set3_2 _ _ _ _ _
  · rw [set3_ne S (show tnN t j ≠ tnN t k from ok_tn hok (show j < k by omega) hk) _ _ _ hh]
    exact ha j (by omega) hj2 h hh
/-- what a used letter holds -/
theorem agS_use {n : Nat} {w t a b d : Nat → Int32} (hok : okP n w t a b d) {m : Nat} (h1 : 1 ≤ m) (h2 : m ≤ 16) (lt inp : Nat → Nat) (lf : Nat → Nat → Nat) {k : Nat} (hk : k < n) {S : Nat → Int32} (ha : agS m n w t a b d lt inp lf k S) {x : Int32} (hx : ∃ j : Nat, j < k ∧ x = t j) :
    x.toNatClampNeg < 16 ∧ x = nI x.toNatClampNeg ∧ (k + 1 < n → x.toNatClampNeg ≠ tnN t k) ∧ ∀ h : Nat, h < 3 → S (3 * x.toNatClampNeg + h) = nI (prtN m w t a b d lt inp lf k (3 * x.toNatClampNeg + h)) ∧ prtN m w t a b d lt inp lf k (3 * x.toNatClampNeg + h) < 16 := by
  obtain ⟨j, hj, e⟩ := hx
  obtain ⟨et, bt⟩ := tn_eq hok (show j < n by omega)
  have en : x.toNatClampNeg = tnN t j := by rw [e]; rfl
  rw [en]
  refine ⟨bt, by rw [e]; exact et, fun hk2 => ok_tn hok hj hk2, ?_⟩
  intro h hh
  rw [prt_at hok m lt inp lf (show j + 1 < n by omega) hh k hj (by omega)]
  have := vN_lt m w t a b d lt inp lf j h h1
  exact ⟨ha j hj (by omega) h hh, by omega⟩
theorem sq_len (m : Nat) (w t a b d : Nat → Int32) (lt inp : Nat → Nat) (lf : Nat → Nat → Nat) (hd k : Nat) : (sqN m w t a b d lt inp lf hd k).length ≤ 3 * (if w k = 0 then 1 else 0) + 9 * (if w k = 4 then 1 else 0) + 3 * (if w k = 5 then 1 else 0) := by
  unfold sqN
  by_cases w0 : w k = 0
  · rw [if_pos w0, if_pos w0]
    unfold seenIn
    rw [List.length_append, List.length_append]
    have q0 := opt1_len (decide (d k = nI hd) || decide (0 = hd)) (inV m w lt inp k 0)
    have q1 := opt1_len (decide (d k = nI hd) || decide (1 = hd)) (inV m w lt inp k 1)
    have q2 := opt1_len (decide (d k = nI hd) || decide (2 = hd)) (inV m w lt inp k 2)
    omega
  rw [if_neg w0, if_neg w0]
  by_cases w4 : w k = 4
  · rw [if_pos w4, if_pos w4]
    simp
  rw [if_neg w4, if_neg w4]
  by_cases w5 : w k = 5
  · rw [if_pos w5, if_pos w5]
    simp
  rw [if_neg w5, if_neg w5]
  simp
theorem ls_len {n : Nat} {w t a b d : Nat → Int32} (hok : okP n w t a b d) (m : Nat) (lt inp : Nat → Nat) (lf : Nat → Nat → Nat) (hd : Nat) : ∀ k : Nat, k ≤ n → (lsN m w t a b d lt inp lf hd k).length ≤ 3 * cntW w 0 k + 9 * cntW w 4 k + (if k = n then 3 else 0) := by
  intro k
  induction k with
  | zero => intro _; simp [lsN]
  | succ k ih =>
    intro hk
    have h := ih (by omega)
    rw [if_neg (show ¬ k = n by omega)] at h
    show (lsN m w t a b d lt inp lf hd k ++ sqN m w t a b d lt inp lf hd k).length ≤ _
    rw [List.length_append, cntW_s, cntW_s]
    have q := sq_len m w t a b d lt inp lf hd k
    by_cases w5 : w k = 5
    · have e : k + 1 = n := (hok k (by omega)).2.1.mp w5
      rw [if_pos w5] at q
      rw [if_pos e]
      omega
    · rw [if_neg w5] at q
      omega
theorem cnt_mono (w : Nat → Int32) (c : Int32) : ∀ n k : Nat, k ≤ n → cntW w c k ≤ cntW w c n := by
  intro n
  induction n with
  | zero =>
    intro k hk
    have e : k = 0 := by omega
    subst e
    exact Nat.le_refl _
  | succ n ih =>
    intro k hk
    rcases Nat.lt_or_ge k (n + 1) with q | q
    · have := ih k (by omega)
      rw [cntW_s]; omega
    · have e : k = n + 1 := by omega
      subst e; exact Nat.le_refl _
