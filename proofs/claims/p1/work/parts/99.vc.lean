/-! WHAT IS OWED -/
theorem p1_pz : pz_goal := fun L xs hL => p1_goal p1_hall hL xs
theorem i_vc : Claimed_1_1 ∧ Claimed_1_2 := ⟨lw_limb p1_pz limb_1_1 (fun _ _ _ => rfl), lw_limb p1_pz limb_1_2 (fun _ _ _ => rfl)⟩
