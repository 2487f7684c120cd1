/-! a hall's copy -/
/-- the places of a hall that are copied -/
def qz_hk : Nat → Nat → Nat → Bool := fun k i j => (((((((((((((((((((false || (Nat.beq k 11 && (Nat.blt i 1 && Nat.blt j 17))) || (Nat.beq k 12 && (Nat.blt i 1 && Nat.blt j 28))) || (Nat.beq k 13 && (Nat.blt i 1 && Nat.blt j 4))) || (Nat.beq k 14 && (Nat.blt i 1 && Nat.blt j 10))) || (Nat.beq k 40 && (Nat.blt i 6 && Nat.blt j 6))) || (Nat.beq k 41 && (Nat.blt i 5 && Nat.blt j 5))) || (Nat.beq k 42 && (Nat.blt i 6 && Nat.blt j 7))) || (Nat.beq k 43 && (Nat.blt i 6 && Nat.blt j 11))) || (Nat.beq k 44 && (Nat.blt i 48 && Nat.blt j 16))) || (Nat.beq k 45 && (Nat.blt i 8 && Nat.blt j 15))) || (Nat.beq k 46 && (Nat.blt i 24 && Nat.blt j 10))) || (Nat.beq k 47 && (Nat.blt i 60 && Nat.blt j 21))) || (Nat.beq k 48 && (Nat.blt i 2 && Nat.blt j 12))) || (Nat.beq k 49 && (Nat.blt i 24 && Nat.blt j 3))) || (Nat.beq k 50 && (Nat.blt i 4 && Nat.blt j 22))) || (Nat.beq k 51 && (Nat.blt i 2 && Nat.blt j 8))) || (Nat.beq k 52 && (Nat.blt i 24 && Nat.blt j 6))) || (Nat.beq k 53 && (Nat.blt i 60 && Nat.blt j 5))) || (Nat.beq k 54 && (Nat.blt i 12 && Nat.blt j 8)))
set_option maxHeartbeats 1000000 in
theorem sp_copy (b0 b1 : Nat) (μ : qz_M) (hb : b0 ≠ b1) : qf_111 [.inr (.inr (some (10, b1, 0))), .inr (.inr (some (10, b0, 0)))] μ = some (qz_cpS μ b0 b1 qz_hk, .inl none) := by
  refine wz_call_eq (fw_111 b1 b0 μ _ ?_)
  refine ⟨by decide, fun μ1 e1 => ?_⟩
  have h1 := qz_cpS_C (μ := μ) (P := fun _ _ _ => false) (k := 11) (w := 17) hb
  rw [qz_cpS_0] at h1
  replace e1 : μ1 = _ := e1.trans h1
  subst e1
  refine ⟨by decide, fun μ12 e12 => ?_⟩
  replace e12 : μ12 = _ := e12.trans (qz_cpS_C (k := 12) (w := 28) hb)
  subst e12
  refine ⟨by decide, fun μ13 e13 => ?_⟩
  replace e13 : μ13 = _ := e13.trans (qz_cpS_C (k := 13) (w := 4) hb)
  subst e13
  refine ⟨by decide, fun μ14 e14 => ?_⟩
  replace e14 : μ14 = _ := e14.trans (qz_cpS_C (k := 14) (w := 10) hb)
  subst e14
  refine wz_cV_of (sp_copyRows 20 b0 b1 _ (by decide) (by decide) hb) ?_
  rw [qz_cpS_T hb]
  refine wz_cV_of (sp_copyRows 21 b0 b1 _ (by decide) (by decide) hb) ?_
  rw [qz_cpS_T hb]
  refine wz_cV_of (sp_copyRows 22 b0 b1 _ (by decide) (by decide) hb) ?_
  rw [qz_cpS_T hb]
  refine wz_cV_of (sp_copyRows 23 b0 b1 _ (by decide) (by decide) hb) ?_
  rw [qz_cpS_T hb]
  refine wz_cV_of (sp_copyRows 24 b0 b1 _ (by decide) (by decide) hb) ?_
  rw [qz_cpS_T hb]
  refine wz_cV_of (sp_copyRows 25 b0 b1 _ (by decide) (by decide) hb) ?_
  rw [qz_cpS_T hb]
  refine wz_cV_of (sp_copyRows 26 b0 b1 _ (by decide) (by decide) hb) ?_
  rw [qz_cpS_T hb]
  refine wz_cV_of (sp_copyRows 27 b0 b1 _ (by decide) (by decide) hb) ?_
  rw [qz_cpS_T hb]
  refine wz_cV_of (sp_copyRows 28 b0 b1 _ (by decide) (by decide) hb) ?_
  rw [qz_cpS_T hb]
  refine wz_cV_of (sp_copyRows 29 b0 b1 _ (by decide) (by decide) hb) ?_
  rw [qz_cpS_T hb]
  refine wz_cV_of (sp_copyRows 30 b0 b1 _ (by decide) (by decide) hb) ?_
  rw [qz_cpS_T hb]
  refine wz_cV_of (sp_copyRows 31 b0 b1 _ (by decide) (by decide) hb) ?_
  rw [qz_cpS_T hb]
  refine wz_cV_of (sp_copyRows 32 b0 b1 _ (by decide) (by decide) hb) ?_
  rw [qz_cpS_T hb]
  refine wz_cV_of (sp_copyRows 33 b0 b1 _ (by decide) (by decide) hb) ?_
  rw [qz_cpS_T hb]
  refine wz_cV_of (sp_copyRows 34 b0 b1 _ (by decide) (by decide) hb) ?_
  rw [qz_cpS_T hb]
  exact ⟨rfl, rfl⟩
