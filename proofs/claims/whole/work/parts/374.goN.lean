/-! a run without lies -/
theorem at0 (N : Nat) (i : Int32) : f_X9_at N (fun _ => (0 : Int32)) 48 i = some 0 := by
  by_cases h : i < 0
  · exact at_neg N _ 48 h
  · by_cases h2 : Int32.ofNat 48 ≤ i
    · unfold f_X9_at
      rw [if_neg h, if_pos h2]
    · obtain ⟨k, hk, e⟩ := item_nI (n := 48) (by decide) (fun z => z.elim h h2)
      rw [e, at_nI N _ hk (by decide)]
theorem slt20N (N : Nat) (h m : Int32) (S T : Nat → Int32) (x1 x2 x4 : Int32) : s_X4_showLessTriple_N_20 N h m S T x1 x2 x4 = s_X4_showLessTriple_20 N h m S T (fun _ => 0) 48 x1 x2 x4 := by
  funext r vs vn sh sy va y
  unfold s_X4_showLessTriple_N_20 s_X4_showLessTriple_20
  rw [at0]
  rfl
theorem sltN (N : Nat) (h m : Int32) (S T : Nat → Int32) (x1 x2 x4 vs vn : Int32) (sh sy va : Nat → Int32) : f_X4_showLessTriple_N N h m S T x1 x2 x4 vs vn sh sy va = f_X4_showLessTriple N h m S T (fun _ => 0) 48 x1 x2 x4 vs vn sh sy va := by
  unfold f_X4_showLessTriple_N f_X4_showLessTriple f_X4_showLessTriple_N_20 f_X4_showLessTriple_20
  rw [slt20N]
theorem all12N (N : Nat) (m : Int32) (S : Nat → Int32) (x1 x3 : Int32) : s_X4_showAll_N_12 N m S x1 x3 = s_X4_showAll_12 N m S (fun _ => 0) 48 x1 x3 := by
  funext r vs vn sh va y
  unfold s_X4_showAll_N_12 s_X4_showAll_12
  rw [at0]
  rfl
theorem allN (N : Nat) (m : Int32) (S : Nat → Int32) (x1 x3 vs vn : Int32) (sh va : Nat → Int32) : f_X4_showAll_N N m S x1 x3 vs vn sh va = f_X4_showAll N m S (fun _ => 0) 48 x1 x3 vs vn sh va := by
  unfold f_X4_showAll_N f_X4_showAll f_X4_showAll_N_12 f_X4_showAll_12
  rw [all12N]
theorem go71N (N : Nat) (m n : Int32) (cc ins lots : Nat → Int32) (hd row : Int32) : s_X4_go__N_71 N m n cc ins lots 40 hd row = s_X4_go__T_T_71 N m n cc ins lots (fun _ => 0) hd row := by
  funext r vs vn vh vm nl ni S sh sy T va y7 y8 y9
  unfold s_X4_go__N_71 s_X4_go__T_T_71
  simp only [sltN, allN]
  rfl
theorem goN (N : Nat) (m n : Int32) (cc ins lots : Nat → Int32) (hd row vs vn vh vm nl ni : Int32) (S sh sy T va : Nat → Int32) : f_X4_go__N N m n cc ins lots 40 hd row vs vn vh vm nl ni S sh sy T va = f_X4_go__T_T N m n cc ins lots (fun _ => 0) hd row vs vn vh vm nl ni S sh sy T va := by
  unfold f_X4_go__N f_X4_go__T_T f_X4_go__N_71 f_X4_go__T_T_71
  rw [go71N]
