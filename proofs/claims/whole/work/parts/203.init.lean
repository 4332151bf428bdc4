/-! the start: what the constructors make belongs together -/
def initA : O_X2_take := (1, 1, 0, 0, upd (upd (upd (upd (upd (upd (fun _ => 0) 0 1) 1 0) 2 (-9)) 3 (-9)) 4 0) 5 0, upd (fun _ => 0) 0 0)
def initB : O_X2_take := (1, 2, 0, 0, upd (upd (upd (upd (upd (upd initA.2.2.2.2.1 6 5) 7 0) 8 (-9)) 9 (-9)) 10 (-9)) 11 1, initA.2.2.2.2.2)
theorem init_z_55 (N : Nat) : ∃ z : O_X2_take, f_X2_take N (1 : Int32) (0 : Int32) (-9 : Int32) (-9 : Int32) (0 : Int32) 0 0 0 0 (fun _ => 0) (fun _ => 0) = some z ∧ z = initA := ⟨initA, rfl, rfl⟩
theorem init_z_70 (N : Nat) (z_55 : O_X2_take) (h : z_55 = initA) : ∃ z : O_X2_take, f_X2_take N (5 : Int32) (0 : Int32) (-9 : Int32) (-9 : Int32) (-9 : Int32) z_55.1 z_55.2.1 z_55.2.2.1 z_55.2.2.2.1 z_55.2.2.2.2.1 z_55.2.2.2.2.2 = some z ∧ z = initB := by
  subst h
  exact ⟨initB, rfl, rfl⟩
theorem init_T : R_T 0 (fun _ => 0) 0 (fun _ => 0) := ⟨rfl, rfl, ⟨0, by decide, rfl⟩, fun _ => ⟨show (-128 : Int) ≤ (0 : Int32).toInt by decide, show (0 : Int32).toInt ≤ 127 by decide⟩⟩
theorem init_M : R_M (5 : Int32) (5 : Int32) := ⟨rfl, 5, by decide, by decide, rfl⟩
theorem init_I : R_I (fun _ => 0) (fun _ => 0) := fun _ _ => ⟨rfl, 0, by decide, rfl⟩
theorem init_L : R_L (fun _ => 0) (fun _ => 0) := fun _ _ => ⟨rfl, 0, by decide, rfl⟩
theorem init_Z : R_Z 0 0 := rfl
theorem init_R : R_R (upd (upd (upd (fun _ => 0) (0 : Int32).toNatClampNeg (10 : Int32)) (1 : Int32).toNatClampNeg (4 : Int32)) (2 : Int32).toNatClampNeg (20 : Int32)) (upd (upd (upd (fun _ => 0) (0 : Int32).toNatClampNeg (10 : Int32)) (1 : Int32).toNatClampNeg (4 : Int32)) (2 : Int32).toNatClampNeg (20 : Int32)) := by
  intro j hj
  refine ⟨rfl, ?_⟩
  match j, hj with
  | 0, _ => exact ⟨10, by decide, rfl⟩
  | 1, _ => exact ⟨4, by decide, rfl⟩
  | 2, _ => exact ⟨20, by decide, rfl⟩
theorem init_C : R_C (7 : Int32) (1 : Int32) (5 : Int32) 0 0 0 (fun _ => 0) (7 : Int32) (1 : Int32) (5 : Int32) (fun _ => 0) (fun _ => 0) :=
  ⟨rfl, rfl, rfl, rfl, rfl, rfl, fun _ _ => rfl, 7, 1, 5, rfl, Or.inr (Or.inl rfl), rfl, by decide, rfl, by decide, by decide, by decide, fun _ _ => ⟨0, by decide, rfl⟩, fun _ _ => ⟨0, by decide, rfl⟩⟩
theorem init_O : R_O (1 : Int32) (5 : Int32) 0 0 0 0 0 (fun _ => 0) 0 (fun _ => 0) (fun _ => 0) := by
  refine ⟨rfl, rfl, 1, 5, 0, 0, rfl, by decide, rfl, by decide, by decide, rfl, by decide, rfl, by decide, fun k h => absurd h (Nat.not_lt_zero k), rfl, Or.inr ⟨rfl, ?_⟩⟩
  rintro ⟨u, hu, h⟩
  have e : u = 0 := Nat.le_zero.mp hu
  subst e
  exact absurd h (by decide)
theorem init_Y : R_Y 0 (fun _ => 0) 0 (fun _ => 0) (fun _ => 0) (fun _ => 0) := ⟨rfl, 0, by decide, rfl, fun k h => absurd h (Nat.not_lt_zero k), fun _ _ _ _ => rfl⟩
theorem init_P {z_55 z_70 : O_X2_take} (_ : z_55 = initA) (h : z_70 = initB) : R_P z_70.2.1 z_70.2.2.1 z_70.2.2.2.1 z_70.2.2.2.2.1 (2 : Int32) (upd (upd (fun _ => 0) (0 : Int32).toNatClampNeg (1 : Int32)) (1 : Int32).toNatClampNeg (5 : Int32)) (upd (upd (fun _ => 0) (0 : Int32).toNatClampNeg (0 : Int32)) (1 : Int32).toNatClampNeg (0 : Int32)) (upd (upd (fun _ => 0) (0 : Int32).toNatClampNeg (-9 : Int32)) (1 : Int32).toNatClampNeg (-9 : Int32)) (upd (upd (fun _ => 0) (0 : Int32).toNatClampNeg (-9 : Int32)) (1 : Int32).toNatClampNeg (-9 : Int32)) (upd (upd (fun _ => 0) (0 : Int32).toNatClampNeg (0 : Int32)) (1 : Int32).toNatClampNeg (-9 : Int32)) := by
  subst h
  refine ⟨2, by decide, by decide, rfl, rfl, ?_, rfl, rfl, by decide, by decide, ?_⟩
  · intro k hk
    match k, hk with
    | 0, _ => exact ⟨⟨1, by decide, rfl⟩, by decide, ⟨0, by decide, rfl⟩, by decide, fun _ => ⟨0, by decide, rfl⟩, by decide, by decide, fun _ j hj => absurd hj (Nat.not_lt_zero j)⟩
    | 1, _ => exact ⟨⟨5, by decide, rfl⟩, by decide, ⟨0, by decide, rfl⟩, by decide, by decide, by decide, fun _ => ⟨0, by decide, rfl⟩, by decide⟩
  · intro k hk
    match k, hk with
    | 0, _ => exact ⟨rfl, rfl, rfl, rfl, rfl, rfl⟩
    | 1, _ => exact ⟨rfl, rfl, rfl, rfl, rfl, rfl⟩
