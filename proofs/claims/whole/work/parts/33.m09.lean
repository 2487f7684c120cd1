/- yX12_cSell -/
def zf_309 (Z : qz_Z) (a1 : Int) : qz_Z := (zlet3 (zl_309_1 a1 (Z 2 0 0 (3022 + 60 * a1)) (Z 2 0 0 (3023 + 60 * a1)) (Z 2 0 0 (3024 + 60 * a1)) (Z 2 0 0 (3013 + 60 * a1)) 8701 Z (Z 2 0 0 (3023 + 60 * a1)) 0) (fun Z11 y9 y10 => (zlet (zu Z11 2 0 0 (3016 + 60 * a1) y9) (fun Z14 => (zlet (zu Z14 2 0 0 (3017 + 60 * a1) (Z 2 0 0 (3022 + 60 * a1))) (fun Z15 => (zlet (zu Z15 2 0 0 (3018 + 60 * a1) (w3 ((Z15 2 0 0 (3018 + 60 * a1)) + 1))) (fun Z18 => (zlet (zf_312 Z18 a1 0) (fun Z20 => (zlet (zu Z20 2 0 0 (210 + 20 * (Z 2 0 0 (3022 + 60 * a1))) 0) (fun Z25 => Z25))))))))))))
theorem sp_309 {s : zSM} {Z : qz_Z} {ν : qz_N} (hZ : zM s Z) {a1 : Int} (ga1 : 0 ≤ a1 ∧ a1 ≤ 1) (gx0 : 1 ≤ Z 2 0 0 (3015 + 60 * a1)) (hM : s.2 + 82 ≤ 1000000000) : ∃ P : qz_Z, P = zf_309 Z a1 ∧ (qf_309 [.inr (.inr (some (1, 0, 0))), .inl (i3 a1)] (zm Z ν) = some (zm P ν, .inl none) ∧ zM (zb s 82) P ∧ zC [2] Z P ∧ zU [] Z P) := by
  obtain ⟨P, hP⟩ := zx (zf_309 Z a1)
  refine zc_V (Q := fun P => zM (zb s 82) P ∧ zC [2] Z P ∧ zU [] Z P) hP (fw_309 (i3 a1) _ _ ?_)
  replace hP : zE P (zf_309 Z a1) := hP
  unfold zf_309 at hP
  have r1 := zM_lo hZ a1 (by omega) (by omega) gx0
  have r2 := zM_k hZ 2 0 0 (3015 + 60 * a1) (lo := 0) (hi := 12) (by decide) (zs_3010_5 (x := (a1 + 0)) (by omega) (by omega) (by omega))
  refine wz_i0 (i3O (n := 4400) (i3A (i3A (i3A (i3A (show (3010 : Int32) = i3 3010 from rfl) (i3M (show (60 : Int32) = i3 60 from rfl) (rfl : i3 a1 = i3 a1))) (show (12 : Int32) = i3 12 from rfl)) (show (0 : Int32) = i3 0 from rfl)) (show (0 : Int32) = i3 0 from rfl)) (by omega) (by omega) (by omega)) ?_
  refine wz_i0 (i3O (n := 4400) (i3A (i3A (i3A (i3A (show (3010 : Int32) = i3 3010 from rfl) (i3M (show (60 : Int32) = i3 60 from rfl) (rfl : i3 a1 = i3 a1))) (show (12 : Int32) = i3 12 from rfl)) (show (0 : Int32) = i3 0 from rfl)) (show (1 : Int32) = i3 1 from rfl)) (by omega) (by omega) (by omega)) ?_
  refine wz_i0 (i3O (n := 4400) (i3A (i3A (i3A (i3A (show (3010 : Int32) = i3 3010 from rfl) (i3M (show (60 : Int32) = i3 60 from rfl) (rfl : i3 a1 = i3 a1))) (show (12 : Int32) = i3 12 from rfl)) (show (0 : Int32) = i3 0 from rfl)) (show (2 : Int32) = i3 2 from rfl)) (by omega) (by omega) (by omega)) ?_
  refine wz_i0 (i3O (n := 4400) (i3A (i3A (show (3010 : Int32) = i3 3010 from rfl) (i3M (show (60 : Int32) = i3 60 from rfl) (rfl : i3 a1 = i3 a1))) (show (3 : Int32) = i3 3 from rfl)) (by omega) (by omega) (by omega)) ?_
  have r3 := zM_k hZ 2 0 0 (3022 + 60 * a1) (lo := 0) (hi := 47) (by decide) (zs_3010_12 (x := (a1 + 0)) (by omega) (by omega) (by omega))
  have r4 := zM_k hZ 2 0 0 (3023 + 60 * a1) (lo := 0) (hi := 9999) (by decide) (zs_3010_13 (x := (a1 + 0)) (by omega) (by omega) (by omega))
  have r5 := zM_k hZ 2 0 0 (3024 + 60 * a1) (lo := 0) (hi := 9999) (by decide) (zs_3010_14 (x := (a1 + 0)) (by omega) (by omega) (by omega))
  have r6 := zM_k hZ 2 0 0 (3013 + 60 * a1) (lo := 0) (hi := 500) (by decide) (zs_3010_3 (x := (a1 + 0)) (by omega) (by omega) (by omega))
  have r7 := zM_cs hZ a1
  have r8 := zM_k hZ 2 0 0 3000 (lo := 0) (hi := 2) (by decide) rfl
  have r12 := zM_f hZ 2 0 0 (204 + 20 * x2)
  refine sl_309_1 (ν := ν) (zm0 hZ) (zbh (c := 0) (k := 82) hM (Nat.le_of_ble_eq_true rfl)) (xM9 := 0) zC_r (x1 := a1) (by omega) (x2 := (Z 2 0 0 (3022 + 60 * a1))) (by omega) (x3 := (Z 2 0 0 (3023 + 60 * a1))) (by omega) (x4 := (Z 2 0 0 (3024 + 60 * a1))) (by omega) (x5 := (Z 2 0 0 (3013 + 60 * a1))) (by omega) (x6 := (Z 2 0 0 (3023 + 60 * a1))) (by omega) (x7 := 0) (by omega) zU_r (by omega) (by omega) (by omega) (by omega) (by omega) (by omega) (by omega) (zconso rfl (zconso (zvo (rfl : i3 a1 = i3 a1)) (zconso (zvo (zm_rd (Z := Z) (ν := ν) (k := 2) (show ((0 : Nat) : Int) = 0 from rfl) (show ((0 : Nat) : Int) = 0 from rfl) (i3I (y := (3022 + 60 * a1)) (i3A (i3A (i3A (i3A (show (3010 : Int32) = i3 3010 from rfl) (i3M (show (60 : Int32) = i3 60 from rfl) (rfl : i3 a1 = i3 a1))) (show (12 : Int32) = i3 12 from rfl)) (show (0 : Int32) = i3 0 from rfl)) (show (0 : Int32) = i3 0 from rfl)) (by omega) (by omega) (by omega)))) (zconso (zvo (zm_rd (Z := Z) (ν := ν) (k := 2) (show ((0 : Nat) : Int) = 0 from rfl) (show ((0 : Nat) : Int) = 0 from rfl) (i3I (y := (3023 + 60 * a1)) (i3A (i3A (i3A (i3A (show (3010 : Int32) = i3 3010 from rfl) (i3M (show (60 : Int32) = i3 60 from rfl) (rfl : i3 a1 = i3 a1))) (show (12 : Int32) = i3 12 from rfl)) (show (0 : Int32) = i3 0 from rfl)) (show (1 : Int32) = i3 1 from rfl)) (by omega) (by omega) (by omega)))) (zconso (zvo (zm_rd (Z := Z) (ν := ν) (k := 2) (show ((0 : Nat) : Int) = 0 from rfl) (show ((0 : Nat) : Int) = 0 from rfl) (i3I (y := (3024 + 60 * a1)) (i3A (i3A (i3A (i3A (show (3010 : Int32) = i3 3010 from rfl) (i3M (show (60 : Int32) = i3 60 from rfl) (rfl : i3 a1 = i3 a1))) (show (12 : Int32) = i3 12 from rfl)) (show (0 : Int32) = i3 0 from rfl)) (show (2 : Int32) = i3 2 from rfl)) (by omega) (by omega) (by omega)))) (zconso (zvo (zm_rd (Z := Z) (ν := ν) (k := 2) (show ((0 : Nat) : Int) = 0 from rfl) (show ((0 : Nat) : Int) = 0 from rfl) (i3I (y := (3013 + 60 * a1)) (i3A (i3A (show (3010 : Int32) = i3 3010 from rfl) (i3M (show (60 : Int32) = i3 60 from rfl) (rfl : i3 a1 = i3 a1))) (show (3 : Int32) = i3 3 from rfl)) (by omega) (by omega) (by omega)))) (zconso (zvo (zm_rd (Z := Z) (ν := ν) (k := 2) (show ((0 : Nat) : Int) = 0 from rfl) (show ((0 : Nat) : Int) = 0 from rfl) (i3I (y := (3023 + 60 * a1)) (i3A (i3A (i3A (i3A (show (3010 : Int32) = i3 3010 from rfl) (i3M (show (60 : Int32) = i3 60 from rfl) (rfl : i3 a1 = i3 a1))) (show (12 : Int32) = i3 12 from rfl)) (show (0 : Int32) = i3 0 from rfl)) (show (1 : Int32) = i3 1 from rfl)) (by omega) (by omega) (by omega)))) (zconso (zvo (show (0 : Int32) = i3 0 from rfl)) (zconso rfl (zconso rfl (zconso rfl rfl))))))))))) rfl ?_
  intro L13 Z11 y9 y10 hL13 hZ11I kZ11 jZ11 gy9 gy10 gL13_0 gL13_1 gL13_2 gL13_3 gL13_4 q9
  replace hP := zl_e3 hP (Eq.symm q9)
  clear q9
  have hZ11U : zU [] Z Z11 := zU_t zU_r jZ11 zU_b0
  have hZ11K : zC [2] Z Z11 := zC_t zC_r kZ11 (by decide)
  refine fc_309_2 (i3 a1) (i3 (Z 2 0 0 (3022 + 60 * a1))) (i3 y9) _ _ _ _ hL13 ?_
  refine wz_i0 (i3O (n := 4400) (i3A (i3A (show (3010 : Int32) = i3 3010 from rfl) (i3M (show (60 : Int32) = i3 60 from rfl) (rfl : i3 a1 = i3 a1))) (show (6 : Int32) = i3 6 from rfl)) (by omega) (by omega) (by omega)) ?_
  obtain ⟨Z14, hZ14⟩ := zx (zu Z11 2 0 0 (3016 + 60 * a1) y9)
  replace hP := zl_e hP hZ14
  have hZ14I := zM_u2 hZ11I hZ14 (lo := -1) (hi := 9999) (zs_3010_6 (x := (a1 + 0)) (by omega) (by omega) (by omega)) (by omega) ⟨by decide, by decide⟩ (by simp only [zsp]; omega)
  have hZ14U : zU [] Z Z14 := zU_u hZ11U hZ14 (Or.inl rfl)
  have hZ14K : zC [2] Z Z14 := zC_u hZ11K hZ14 (zcl_2w (by omega) rfl)
  intro μ9 e9
  replace e9 := e9.trans (zm_wI (Z := Z11) (ν := ν) hZ14 (show ((0 : Nat) : Int) = 0 from rfl) (show ((0 : Nat) : Int) = 0 from rfl) (i3I (y := (3016 + 60 * a1)) (i3A (i3A (show (3010 : Int32) = i3 3010 from rfl) (i3M (show (60 : Int32) = i3 60 from rfl) (rfl : i3 a1 = i3 a1))) (show (6 : Int32) = i3 6 from rfl)) (by omega) (by omega) (by omega)) (rfl : i3 y9 = i3 y9))
  subst e9
  refine wz_i0 (i3O (n := 4400) (i3A (i3A (show (3010 : Int32) = i3 3010 from rfl) (i3M (show (60 : Int32) = i3 60 from rfl) (rfl : i3 a1 = i3 a1))) (show (7 : Int32) = i3 7 from rfl)) (by omega) (by omega) (by omega)) ?_
  obtain ⟨Z15, hZ15⟩ := zx (zu Z14 2 0 0 (3017 + 60 * a1) (Z 2 0 0 (3022 + 60 * a1)))
  replace hP := zl_e hP hZ15
  have hZ15I := zM_u2 hZ14I hZ15 (lo := -1) (hi := 47) (zs_3010_7 (x := (a1 + 0)) (by omega) (by omega) (by omega)) (by omega) ⟨by decide, by decide⟩ (by simp only [zsp]; omega)
  have hZ15U : zU [] Z Z15 := zU_u hZ14U hZ15 (Or.inl rfl)
  have hZ15K : zC [2] Z Z15 := zC_u hZ14K hZ15 (zcl_2w (by omega) rfl)
  intro μ9 e9
  replace e9 := e9.trans (zm_wI (Z := Z14) (ν := ν) hZ15 (show ((0 : Nat) : Int) = 0 from rfl) (show ((0 : Nat) : Int) = 0 from rfl) (i3I (y := (3017 + 60 * a1)) (i3A (i3A (show (3010 : Int32) = i3 3010 from rfl) (i3M (show (60 : Int32) = i3 60 from rfl) (rfl : i3 a1 = i3 a1))) (show (7 : Int32) = i3 7 from rfl)) (by omega) (by omega) (by omega)) (rfl : i3 (Z 2 0 0 (3022 + 60 * a1)) = i3 (Z 2 0 0 (3022 + 60 * a1))))
  subst e9
  refine wz_i0 (i3O (n := 4400) (i3A (i3A (show (3010 : Int32) = i3 3010 from rfl) (i3M (show (60 : Int32) = i3 60 from rfl) (rfl : i3 a1 = i3 a1))) (show (8 : Int32) = i3 8 from rfl)) (by omega) (by omega) (by omega)) ?_
  refine wz_i0 (i3O (n := 4400) (i3A (i3A (show (3010 : Int32) = i3 3010 from rfl) (i3M (show (60 : Int32) = i3 60 from rfl) (rfl : i3 a1 = i3 a1))) (show (8 : Int32) = i3 8 from rfl)) (by omega) (by omega) (by omega)) ?_
  have r16 := zM_f hZ15I 2 0 0 (3018 + 60 * a1)
  have r17 := w3_r ((Z15 2 0 0 (3018 + 60 * a1)) + 1)
  obtain ⟨Z18, hZ18⟩ := zx (zu Z15 2 0 0 (3018 + 60 * a1) (w3 ((Z15 2 0 0 (3018 + 60 * a1)) + 1)))
  replace hP := zl_e hP hZ18
  have hZ18I := zM_u2 hZ15I hZ18 (lo := -2147483648) (hi := 2147483647) (zs_3010_8 (x := (a1 + 0)) (by omega) (by omega) (by omega)) (by omega) ⟨by decide, by decide⟩ (by simp only [zsp]; omega)
  have hZ18U : zU [] Z Z18 := zU_u hZ15U hZ18 (Or.inl rfl)
  have hZ18K : zC [2] Z Z18 := zC_u hZ15K hZ18 (zcl_2w (by omega) rfl)
  intro μ9 e9
  replace e9 := e9.trans (zm_wI (Z := Z15) (ν := ν) hZ18 (show ((0 : Nat) : Int) = 0 from rfl) (show ((0 : Nat) : Int) = 0 from rfl) (i3I (y := (3018 + 60 * a1)) (i3A (i3A (show (3010 : Int32) = i3 3010 from rfl) (i3M (show (60 : Int32) = i3 60 from rfl) (rfl : i3 a1 = i3 a1))) (show (8 : Int32) = i3 8 from rfl)) (by omega) (by omega) (by omega)) (i3W (i3A (zm_rd (Z := Z15) (ν := ν) (k := 2) (show ((0 : Nat) : Int) = 0 from rfl) (show ((0 : Nat) : Int) = 0 from rfl) (i3I (y := (3018 + 60 * a1)) (i3A (i3A (show (3010 : Int32) = i3 3010 from rfl) (i3M (show (60 : Int32) = i3 60 from rfl) (rfl : i3 a1 = i3 a1))) (show (8 : Int32) = i3 8 from rfl)) (by omega) (by omega) (by omega))) (show (1 : Int32) = i3 1 from rfl))))
  subst e9
  have r19 := zM_k hZ18I 2 0 0 (3015 + 60 * a1) (lo := 0) (hi := 12) (by decide) (zs_3010_5 (x := (a1 + 0)) (by omega) (by omega) (by omega))
  obtain ⟨Z20, hZ20, c9, hZ20I, kZ20, jZ20⟩ := sp_312 (ν := ν) hZ18I (a1 := a1) (by omega) (a2 := 0) (by omega) (by omega) (zbh (c := 82) (k := 0) hM (Nat.le_of_ble_eq_true rfl))
  have hZ20U : zU [] Z Z20 := zU_t hZ18U jZ20 zU_b0
  have hZ20K : zC [2] Z Z20 := zC_t hZ18K kZ20 (by decide)
  replace hP := zl_e hP hZ20
  refine wz_cV_of (zas (zcons rfl (zcons (zvi (rfl : i3 a1 = i3 a1)) (zcons (zvi (show (0 : Int32) = i3 0 from rfl)) rfl))) c9) ?_
  clear c9
  have r21 := zM_k hZ18I 2 0 0 (204 + 20 * x2) (lo := 0) (hi := 40) (by decide) (zs_200_4 (x := x2) (by omega) (by omega) (by omega))
  have q22 : Z20 2 0 0 (204 + 20 * x2) = Z18 2 0 0 (204 + 20 * x2) := zn_312 hZ20 (by omega) (by omega) ⟨by omega, by omega⟩ (by omega)
  have r23 := zM_k hZ18I 2 0 0 3000 (lo := 0) (hi := 2) (by decide) rfl
  have q24 : Z20 2 0 0 3000 = Z18 2 0 0 3000 := zn_312 hZ20 (by omega) (by omega) ⟨by omega, by omega⟩ (by omega)
  refine wz_i0 (i3O (n := 4400) (i3A (i3A (show (200 : Int32) = i3 200 from rfl) (i3M (show (20 : Int32) = i3 20 from rfl) (rfl : i3 (Z 2 0 0 (3022 + 60 * a1)) = i3 (Z 2 0 0 (3022 + 60 * a1))))) (show (10 : Int32) = i3 10 from rfl)) (by omega) (by omega) (by omega)) ?_
  obtain ⟨Z25, hZ25⟩ := zx (zu Z20 2 0 0 (210 + 20 * (Z 2 0 0 (3022 + 60 * a1))) 0)
  replace hP := zl_e hP hZ25
  have r26 := zM_k hZ20I 2 0 0 (210 + 20 * (Z 2 0 0 (3022 + 60 * a1))) (lo := 0) (hi := 4) (by decide) (zs_200_10 (x := (Z 2 0 0 (3022 + 60 * a1))) (by omega) (by omega) (by omega))
  have r27 := zM_pl hZ20I (Z 2 0 0 (3022 + 60 * a1))
  have r28 := zM_k hZ20I 2 0 0 102 (lo := 0) (hi := 48) (by decide) rfl
  have r29 := zM_k hZ20I 2 0 0 (211 + 20 * (Z 2 0 0 (3022 + 60 * a1))) (lo := -1) (hi := 6) (by decide) (zs_200_11 (x := (Z 2 0 0 (3022 + 60 * a1))) (by omega) (by omega) (by omega))
  have hZ25I := zM_ps2 hZ20I hZ25 (q := (Z 2 0 0 (3022 + 60 * a1))) (by omega) (by omega) (by omega) (by omega)
  have hZ25U : zU [] Z Z25 := zU_u hZ20U hZ25 (Or.inl rfl)
  have hZ25K : zC [2] Z Z25 := zC_u hZ20K hZ25 (zcl_2w (by omega) rfl)
  intro μ9 e9
  replace e9 := e9.trans (zm_wI (Z := Z20) (ν := ν) hZ25 (show ((0 : Nat) : Int) = 0 from rfl) (show ((0 : Nat) : Int) = 0 from rfl) (i3I (y := (210 + 20 * (Z 2 0 0 (3022 + 60 * a1)))) (i3A (i3A (show (200 : Int32) = i3 200 from rfl) (i3M (show (20 : Int32) = i3 20 from rfl) (rfl : i3 (Z 2 0 0 (3022 + 60 * a1)) = i3 (Z 2 0 0 (3022 + 60 * a1))))) (show (10 : Int32) = i3 10 from rfl)) (by omega) (by omega) (by omega)) (show (0 : Int32) = i3 0 from rfl))
  subst e9
  exact zlV hP ⟨hZ25I, hZ25K, hZ25U⟩
