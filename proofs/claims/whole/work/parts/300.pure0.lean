/-! numbers, and the helpers' answers -/
theorem nI_mul (a b : Nat) : nI a * nI b = nI (a * b) := (Int32.ofNat_mul a b).symm
theorem ifc {α : Type} {p q : Prop} [Decidable p] [Decidable q] {a b : α} (h : p ↔ q) : (if p then a else b) = (if q then a else b) := by
  by_cases g : p
  · rw [if_pos g, if_pos (h.mp g)]
  · rw [if_neg g, if_neg (fun w => g (h.mpr w))]
theorem gin_nI {k n : Nat} (h : k < n) (hn : n < 2 ^ 31) : gin (nI k) n = true := by
  unfold gin
  rw [nI_clamp (by omega)]
  rw [decide_eq_true (nI_pos' (show k < 2 ^ 31 by omega)), decide_eq_true h]
  rfl
theorem bnd {x : Int32} (lo hi : Nat) (hl : lo ≤ hi) (hh : hi < 2 ^ 31) (h : ¬ (x < nI lo ∨ nI hi < x)) : ∃ j : Nat, lo ≤ j ∧ j ≤ hi ∧ x = nI j := by
  have h1 : ¬ x < nI lo := fun g => h (Or.inl g)
  have h2 : ¬ nI hi < x := fun g => h (Or.inr g)
  have h0 : ¬ x < 0 := fun g0 => h1 (Int32.lt_of_lt_of_le g0 (nI_pos' (by omega)))
  obtain ⟨j, hj, e⟩ := nI_of h0
  subst e
  refine ⟨j, ?_, ?_, rfl⟩
  · rcases Nat.lt_or_ge j lo with q | q
    · exact absurd (nI_lt q (by omega)) h1
    · exact q
  · rcases Nat.lt_or_ge hi j with q | q
    · exact absurd (nI_lt q hj) h2
    · exact q
theorem within_eq (N : Nat) (x lo hi : Int32) : f_X9_within N x lo hi = some (if x < lo ∨ hi < x then 0 else 1) := by
  unfold f_X9_within
  by_cases h1 : x < lo
  · rw [if_pos h1, if_pos (Or.inl h1)]
  · rw [if_neg h1]
    by_cases h2 : hi < x
    · rw [if_pos h2, if_pos (Or.inr h2)]
    · rw [if_neg h2, if_neg (fun h => h.elim h1 h2)]
theorem i64_lt (x y : Int32) : x.toInt64 < y.toInt64 ↔ x < y := by
  rw [Int64.lt_iff_toInt_lt, Int32.lt_iff_toInt_lt, Int32.toInt_toInt64, Int32.toInt_toInt64]
theorem in10 (N : Nat) (x lo hi : Int32) {a b : Int64} (ha : a = lo.toInt64) (hb : b = hi.toInt64) : f_X10_in N x.toInt64 a b = some (if x < lo ∨ hi < x then 0 else 1) := by
  subst ha hb
  unfold f_X10_in
  rw [ifc ((lg_cmp_lt _ _).trans (i64_lt _ _)), ifc ((lg_cmp_gt _ _).trans (i64_lt _ _))]
  by_cases h1 : x < lo
  · rw [if_pos h1, if_pos (Or.inl h1)]
  · rw [if_neg h1]
    by_cases h2 : hi < x
    · rw [if_pos h2, if_pos (Or.inr h2)]
    · rw [if_neg h2, if_neg (fun h => h.elim h1 h2)]
theorem at_nI (N : Nat) (v : Nat → Int32) {n k : Nat} (h : k < n) (hn : n < 2 ^ 31) : f_X9_at N v n (nI k) = some (v k) := by
  unfold f_X9_at
  rw [if_neg (nI_pos (by omega)), if_neg (show ¬ Int32.ofNat n ≤ nI k from nI_ge h hn), if_pos (gin_nI h hn), nI_clamp (by omega)]
theorem at_neg (N : Nat) (v : Nat → Int32) (n : Nat) {i : Int32} (h : i < 0) : f_X9_at N v n i = some 0 := by
  unfold f_X9_at
  rw [if_pos h]
theorem put_nI (N : Nat) (v : Nat → Int32) {n k : Nat} (x : Int32) (h : k < n) (hn : n < 2 ^ 31) : f_X9_put N n (nI k) x v = some (upd v k x) := by
  unfold f_X9_put
  rw [if_neg (nI_pos (by omega)), if_neg (show ¬ Int32.ofNat n ≤ nI k from nI_ge h hn), if_pos (gin_nI h hn), nI_clamp (by omega)]
theorem swap_nI (N : Nat) (v : Nat → Int32) {n k : Nat} (x : Int32) (h : k < n) (hn : n < 2 ^ 31) : f_X9_swap N n (nI k) x v = some (v k, upd v k x) := by
  unfold f_X9_swap
  rw [at_nI N v h hn, put_nI N v x h hn]
  rfl
/-- rows filled up to n -/
def fillR (v : Nat → Int32) (x : Int32) (n : Nat) : Nat → Int32 := fun j => if j < n then x else v j
theorem fillR_0 (v : Nat → Int32) (x : Int32) : fillR v x 0 = v := by
  funext j
  unfold fillR
  rw [if_neg (Nat.not_lt_zero j)]
theorem fillR_s (v : Nat → Int32) (x : Int32) (k : Nat) : upd (fillR v x k) k x = fillR v x (k + 1) := by
  funext j
  unfold upd fillR
  by_cases h : j = k
  · rw [if_pos h, if_pos (by omega)]
  · rw [if_neg h]
    by_cases h2 : j < k
    · rw [if_pos h2, if_pos (by omega)]
    · rw [if_neg h2, if_neg (by omega)]
theorem fill_loop (N : Nat) (n : Nat) (x : Int32) (hn : n < 2 ^ 31) (v : Nat → Int32) : ∀ (m k fuel : Nat), k + m = n → m < fuel → f_J7_fill_53178_5 N n x fuel (fillR v x k) (nI k) (nI n) = some (fillR v x n) := by
  intro m
  induction m with
  | zero =>
    intro k fuel hk hf
    obtain ⟨f, rfl⟩ : ∃ f, fuel = f + 1 := ⟨fuel - 1, by omega⟩
    show s_J7_fill_53178_5 N n x (f_J7_fill_53178_5 N n x f) (fillR v x k) (nI k) (nI n) = _
    unfold s_J7_fill_53178_5
    have e : k = n := by omega
    subst e
    rw [if_pos (Int32.le_refl _)]
  | succ m ih =>
    intro k fuel hk hf
    obtain ⟨f, rfl⟩ : ∃ f, fuel = f + 1 := ⟨fuel - 1, by omega⟩
    show s_J7_fill_53178_5 N n x (f_J7_fill_53178_5 N n x f) (fillR v x k) (nI k) (nI n) = _
    unfold s_J7_fill_53178_5
    rw [if_neg (nI_ge (show k < n by omega) hn), if_pos (gin_nI (show k < n by omega) hn), nI_clamp (by omega), nI_1]
    have e : upd (fillR v x k) k x = fillR v x (k + 1) := by
      funext j
      unfold upd fillR
      by_cases h : j = k
      · rw [if_pos h, if_pos (by omega)]
      · rw [if_neg h]
        by_cases h2 : j < k
        · rw [if_pos h2, if_pos (by omega)]
        · rw [if_neg h2, if_neg (by omega)]
    rw [e]
    exact ih (k + 1) f (by omega) (by omega)
theorem fill_eq (N : Nat) (n : Nat) (x : Int32) (v : Nat → Int32) (hn : n < N) (hn2 : n < 2 ^ 31) : f_J7_fill_53178 N n x v = some (fillR v x n) := by
  have h := fill_loop N n x hn2 v n 0 N (by omega) hn
  have e : fillR v x 0 = v := by
    funext j
    unfold fillR
    rw [if_neg (Nat.not_lt_zero j)]
  rw [e] at h
  exact h
theorem wipe_eq (N : Nat) (n : Nat) (v : Nat → Int32) (hn : n < N) (hn2 : n < 2 ^ 31) : f_X9_wipe N n v = some (fillR v 0 n) := by
  unfold f_X9_wipe
  rw [fill_eq N n 0 v hn hn2]
  rfl
