/-! the start: what the constructors make belongs together -/
theorem init_z_55 (N : Nat) : ∃ z : O_X2_take, f_X2_take N (1 : Int32) (0 : Int32) (-9 : Int32) (-9 : Int32) (0 : Int32) 0 0 0 0 (fun _ => 0) (fun _ => 0) = some z ∧ True := ⟨_, rfl, trivial⟩
