/-! all that is seen, as one number -/
def numN (m : Nat) (L : List Nat) : Nat := L.foldl (fun acc x => acc * m + x) 0
theorem numN_push (m : Nat) (L : List Nat) (x : Nat) : numN m (L ++ [x]) = numN m L * m + x := by
  unfold numN
  rw [List.foldl_append]
  rfl
theorem numI_nI (m : Nat) (L : List Nat) : numI m L = nI (numN m L) := by
  have key : ∀ (L : List Nat) (a : Nat), L.foldl (fun acc x => acc * nI m + nI x) (nI a) = nI (L.foldl (fun acc x => acc * m + x) a) := by
    intro L
    induction L with
    | nil => intro a; rfl
    | cons y L ih =>
      intro a
      rw [List.foldl_cons, List.foldl_cons, nI_mul, nI_add]
      exact ih _
  exact key L 0
theorem numN_lt {m : Nat} (h1 : 1 ≤ m) : ∀ (L : List Nat) (a k : Nat), (∀ x ∈ L, x < m) → a < m ^ k → L.foldl (fun acc x => acc * m + x) a < m ^ (k + L.length) := by
  intro L
  induction L with
  | nil => intro a k _ h; exact h
  | cons y L ih =>
    intro a k h ha
    rw [List.foldl_cons, List.length_cons, show k + (L.length + 1) = (k + 1) + L.length by omega]
    refine ih _ (k + 1) (fun x hx => h x (List.mem_cons_of_mem _ hx)) ?_
    have hy := h y (List.mem_cons_self ..)
    have h2 : (a + 1) * m ≤ m ^ k * m := Nat.mul_le_mul_right m ha
    rw [Nat.pow_succ]
    rw [Nat.add_mul, Nat.one_mul] at h2
    omega
theorem sq_lt (m : Nat) (w t a b d : Nat → Int32) (lt inp : Nat → Nat) (lf : Nat → Nat → Nat) (hd k : Nat) (h1 : 1 ≤ m) : ∀ x ∈ sqN m w t a b d lt inp lf hd k, x < m := by
  have hv := fun h => vN_lt m w t a b d lt inp lf k h h1
  have hi : ∀ h, w k = 0 → inV m w lt inp k h < m := by
    intro h w0
    have := hv h
    unfold vN valN at this
    rw [if_pos w0] at this
    exact this
  intro x hx
  unfold sqN at hx
  by_cases w0 : w k = 0
  · rw [if_pos w0] at hx
    have i0 := hi 0 w0
    have i1 := hi 1 w0
    have i2 := hi 2 w0
    generalize inV m w lt inp k 0 = A at *
    generalize inV m w lt inp k 1 = B at *
    generalize inV m w lt inp k 2 = C at *
    unfold seenIn opt1 at hx
    rw [List.mem_append, List.mem_append] at hx
    rcases hx with (hx | hx) | hx
    · split at hx
      · rw [List.mem_singleton] at hx; omega
      · exact absurd hx (List.not_mem_nil)
    · split at hx
      · rw [List.mem_singleton] at hx; omega
      · exact absurd hx (List.not_mem_nil)
    · split at hx
      · rw [List.mem_singleton] at hx; omega
      · exact absurd hx (List.not_mem_nil)
  rw [if_neg w0] at hx
  by_cases w4 : w k = 4
  · rw [if_pos w4] at hx
    have ht := fun i => trp_lt m lt (posN w k) i h1
    have hX : ∀ p q r h, sxN m p q r h < m := fun p q r h => sm_lt _ _ h1
    have hY : ∀ p r h, syN m p r h < m := fun p r h => sm_lt _ _ h1
    simp only [List.mem_append, List.mem_singleton] at hx
    rcases hx with (((((((hx | hx) | hx) | hx) | hx) | hx) | hx) | hx) | hx
    · rw [hx]; exact ht _
    · rw [hx]; exact ht _
    · rw [hx]; exact ht _
    · rw [hx]; exact hX _ _ _ _
    · rw [hx]; exact hX _ _ _ _
    · rw [hx]; exact hX _ _ _ _
    · rw [hx]; exact hY _ _ _
    · rw [hx]; exact hY _ _ _
    · rw [hx]; exact hY _ _ _
  rw [if_neg w4] at hx
  by_cases w5 : w k = 5
  · rw [if_pos w5] at hx
    simp only [List.mem_append, List.mem_singleton] at hx
    rcases hx with (hx | hx) | hx
    · rw [hx]; exact hv _
    · rw [hx]; exact hv _
    · rw [hx]; exact hv _
  rw [if_neg w5] at hx
  exact absurd hx (List.not_mem_nil)
theorem ls_lt (m : Nat) (w t a b d : Nat → Int32) (lt inp : Nat → Nat) (lf : Nat → Nat → Nat) (hd : Nat) (h1 : 1 ≤ m) : ∀ k : Nat, ∀ x ∈ lsN m w t a b d lt inp lf hd k, x < m := by
  intro k
  induction k with
  | zero => intro x hx; exact absurd hx (List.not_mem_nil)
  | succ k ih =>
    intro x hx
    have hx' : x ∈ lsN m w t a b d lt inp lf hd k ++ sqN m w t a b d lt inp lf hd k := hx
    rw [List.mem_append] at hx'
    rcases hx' with h | h
    · exact ih x h
    · exact sq_lt m w t a b d lt inp lf hd k h1 x h
theorem bnd27 : ∀ m : Nat, m < 17 → ∀ a : Nat, a < 5 → ∀ b : Nat, b < 5 → m < 2 ∨ 4096 < m ^ (2 * a + 8 * b) ∨ m ^ (3 * a + 9 * b + 3) ≤ 134217728 := by decide +kernel
theorem num_lt {n : Nat} {w t a b d : Nat → Int32} (hok : okP n w t a b d) {m : Nat} (h1 : 2 ≤ m) (h2 : m ≤ 16) (c0 : cntW w 0 n ≤ 4) (c4 : cntW w 4 n ≤ 4) (hp : m ^ posN w n ≤ 4096) (lt inp : Nat → Nat) (lf : Nat → Nat → Nat) (hd : Nat) : numN m (lsN m w t a b d lt inp lf hd n) < 134217728 := by
  have hl := ls_len hok m lt inp lf hd n (Nat.le_refl n)
  rw [if_pos rfl] at hl
  have e1 := numN_lt (show 1 ≤ m by omega) (lsN m w t a b d lt inp lf hd n) 0 0 (ls_lt m w t a b d lt inp lf hd (by omega) n) (by rw [Nat.pow_zero]; decide)
  rw [Nat.zero_add] at e1
  have e2 : m ^ (lsN m w t a b d lt inp lf hd n).length ≤ m ^ (3 * cntW w 0 n + 9 * cntW w 4 n + 3) := Nat.pow_le_pow_right (by omega) hl
  unfold posN at hp
  have e3 := (((bnd27 m (by omega) (cntW w 0 n) (by omega) (cntW w 4 n) (by omega)).resolve_left (by omega)).resolve_left (by omega))
  exact Nat.lt_of_lt_of_le e1 (Nat.le_trans e2 e3)
/-- inputs that are alike show alike -/
theorem inV_al (m : Nat) (w : Nat → Int32) (lt : Nat → Nat) {i1 i2 : Nat → Nat} (k h : Nat) (he : i1 (cntW w 0 k) % m = i2 (cntW w 0 k) % m) : inV m w lt i1 k h = inV m w lt i2 k h := by
  unfold inV
  rw [← sm_modl (i1 (cntW w 0 k)), ← sm_modl (i2 (cntW w 0 k)), he]
theorem val_al (m : Nat) (w t a b d : Nat → Int32) (lt : Nat → Nat) {i1 i2 : Nat → Nat} (lf : Nat → Nat → Nat) (k : Nat) (P : Nat → Nat) (he : w k = 0 → i1 (cntW w 0 k) % m = i2 (cntW w 0 k) % m) (h : Nat) : valN m w t a b d lt i1 lf k P h = valN m w t a b d lt i2 lf k P h := by
  unfold valN
  by_cases w0 : w k = 0
  · rw [if_pos w0, if_pos w0]; exact inV_al m w lt k h (he w0)
  · rw [if_neg w0, if_neg w0]
theorem prt_al {n : Nat} (m : Nat) (w t a b d : Nat → Int32) (lt : Nat → Nat) {i1 i2 : Nat → Nat} (lf : Nat → Nat → Nat) (he : ∀ i, i < cntW w 0 n → i1 i % m = i2 i % m) : ∀ k : Nat, k ≤ n → prtN m w t a b d lt i1 lf k = prtN m w t a b d lt i2 lf k := by
  intro k
  induction k with
  | zero => intro _; rfl
  | succ k ih =>
    intro hk
    have h := ih (by omega)
    have hv : valN m w t a b d lt i1 lf k (prtN m w t a b d lt i1 lf k) = valN m w t a b d lt i2 lf k (prtN m w t a b d lt i2 lf k) := by
      funext x
      rw [h]
      refine val_al m w t a b d lt lf k _ (fun w0 => he _ ?_) x
      have h1 := cnt_mono w 0 n (k + 1) hk
      rw [cntW_s, if_pos w0] at h1
      omega
    show (if w k = 5 then prtN m w t a b d lt i1 lf k else up3 (prtN m w t a b d lt i1 lf k) (tnN t k) (valN m w t a b d lt i1 lf k (prtN m w t a b d lt i1 lf k))) = (if w k = 5 then prtN m w t a b d lt i2 lf k else up3 (prtN m w t a b d lt i2 lf k) (tnN t k) (valN m w t a b d lt i2 lf k (prtN m w t a b d lt i2 lf k)))
    rw [hv, h]
theorem ls_al {n : Nat} (m : Nat) (w t a b d : Nat → Int32) (lt : Nat → Nat) {i1 i2 : Nat → Nat} (lf : Nat → Nat → Nat) (hd : Nat) (he : ∀ i, i < cntW w 0 n → i1 i % m = i2 i % m) : ∀ k : Nat, k ≤ n → lsN m w t a b d lt i1 lf hd k = lsN m w t a b d lt i2 lf hd k := by
  intro k
  induction k with
  | zero => intro _; rfl
  | succ k ih =>
    intro hk
    have hP := prt_al m w t a b d lt lf he k (by omega)
    have hck : w k = 0 → i1 (cntW w 0 k) % m = i2 (cntW w 0 k) % m := fun w0 => he _ (by
      have h1 := cnt_mono w 0 n (k + 1) hk
      rw [cntW_s, if_pos w0] at h1
      omega)
    have hv : ∀ h, vN m w t a b d lt i1 lf k h = vN m w t a b d lt i2 lf k h := by
      intro h
      unfold vN
      rw [hP]
      exact val_al m w t a b d lt lf k _ hck h
    have hs : sqN m w t a b d lt i1 lf hd k = sqN m w t a b d lt i2 lf hd k := by
      unfold sqN
      by_cases w0 : w k = 0
      · rw [if_pos w0, if_pos w0, inV_al m w lt k 0 (hck w0), inV_al m w lt k 1 (hck w0), inV_al m w lt k 2 (hck w0)]
      · rw [if_neg w0, if_neg w0, hP, hv 0, hv 1, hv 2]
    show lsN m w t a b d lt i1 lf hd k ++ sqN m w t a b d lt i1 lf hd k = lsN m w t a b d lt i2 lf hd k ++ sqN m w t a b d lt i2 lf hd k
    rw [ih (by omega), hs]
/-- a way's lots -/
def dgN (m way : Nat) : Nat → Nat := fun i => way / m ^ i % m
theorem dgN_lt {m : Nat} (h1 : 1 ≤ m) (h2 : m ≤ 16) (way i : Nat) : dgN m way i < 16 := Nat.lt_of_lt_of_le (Nat.mod_lt _ (by omega)) h2
/-- what is seen on a way -/
def kyN (m : Nat) (w t a b d : Nat → Int32) (inp : Nat → Nat) (hd n way : Nat) : Nat := numN m (lsN m w t a b d (dgN m way) inp (fun _ _ => 0) hd n)
