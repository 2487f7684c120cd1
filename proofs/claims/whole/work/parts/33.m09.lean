/- yX12_cSell -/
def zf_309 (Z : qz_Z) (a1 : Int) : qz_Z := (zlet3 (zl_309_1 a1 (Z 2 0 0 (3022 + 60 * a1)) (Z 2 0 0 (3023 + 60 * a1)) (Z 2 0 0 (3024 + 60 * a1)) (Z 2 0 0 (3013 + 60 * a1)) 8701 Z (Z 2 0 0 (3023 + 60 * a1)) 0) (fun Z7 y5 y6 => (zlet (zu Z7 2 0 0 (3016 + 60 * a1) y5) (fun Z10 => (zlet (zu Z10 2 0 0 (3017 + 60 * a1) (Z 2 0 0 (3022 + 60 * a1))) (fun Z11 => (zlet (zu Z11 2 0 0 (3018 + 60 * a1) (w3 ((Z11 2 0 0 (3018 + 60 * a1)) + 1))) (fun Z14 => (zlet (zf_312 Z14 a1 0) (fun Z16 => (zlet (zu Z16 2 0 0 (210 + 20 * (Z 2 0 0 (3022 + 60 * a1))) 0) (fun Z17 => Z17))))))))))))
theorem sp_309 {s : zSM} {Z : qz_Z} {ν : qz_N} (hZ : zM s Z) {a1 : Int} (ga1 : 0 ≤ a1 ∧ a1 ≤ 1) (gx0 : 1 ≤ Z 2 0 0 (3024 + 60 * a1)) (gx1 : Z 2 0 0 (3024 + 60 * a1) ≤ Z 2 0 0 (3023 + 60 * a1)) (gx2 : Z 2 0 0 (3023 + 60 * a1) ≤ Z 2 0 0 (3024 + 60 * a1) + 200 * Z 2 0 0 (3013 + 60 * a1)) (gx3 : 1 ≤ Z 2 0 0 (3013 + 60 * a1)) (hM : s.2 + 82 ≤ 1000000000) : ∃ P : qz_Z, P = zf_309 Z a1 ∧ (qf_309 [.inr (.inr (some (1, 0, 0))), .inl (i3 a1)] (zm Z ν) = some (zm P ν, .inl none) ∧ zM (zb s 82) P ∧ zC [2] Z P ∧ zU [] Z P) := by
  obtain ⟨P, hP⟩ := zx (zf_309 Z a1)
  refine zc_V (Q := fun P => zM (zb s 82) P ∧ zC [2] Z P ∧ zU [] Z P) hP (fw_309 (i3 a1) _ _ ?_)
  replace hP : zE P (zf_309 Z a1) := hP
  unfold zf_309 at hP
  have r1 := zM_k hZ 2 0 0 (3024 + 60 * a1) (lo := 0) (hi := 9999) (by decide) (zs_3010_14 (x := (a1 + 0)) (by omega) (by omega) (by omega))
  have r2 := zM_k hZ 2 0 0 (3023 + 60 * a1) (lo := 0) (hi := 9999) (by decide) (zs_3010_13 (x := (a1 + 0)) (by omega) (by omega) (by omega))
  have r3 := zM_k hZ 2 0 0 (3013 + 60 * a1) (lo := 0) (hi := 500) (by decide) (zs_3010_3 (x := (a1 + 0)) (by omega) (by omega) (by omega))
  refine wz_i0 (i3O (n := 4400) (i3A (i3A (i3A (i3A (show (3010 : Int32) = i3 3010 from rfl) (i3M (show (60 : Int32) = i3 60 from rfl) (rfl : i3 a1 = i3 a1))) (show (12 : Int32) = i3 12 from rfl)) (show (0 : Int32) = i3 0 from rfl)) (show (0 : Int32) = i3 0 from rfl)) (by omega) (by omega) (by omega)) ?_
  refine wz_i0 (i3O (n := 4400) (i3A (i3A (i3A (i3A (show (3010 : Int32) = i3 3010 from rfl) (i3M (show (60 : Int32) = i3 60 from rfl) (rfl : i3 a1 = i3 a1))) (show (12 : Int32) = i3 12 from rfl)) (show (0 : Int32) = i3 0 from rfl)) (show (1 : Int32) = i3 1 from rfl)) (by omega) (by omega) (by omega)) ?_
  refine wz_i0 (i3O (n := 4400) (i3A (i3A (i3A (i3A (show (3010 : Int32) = i3 3010 from rfl) (i3M (show (60 : Int32) = i3 60 from rfl) (rfl : i3 a1 = i3 a1))) (show (12 : Int32) = i3 12 from rfl)) (show (0 : Int32) = i3 0 from rfl)) (show (2 : Int32) = i3 2 from rfl)) (by omega) (by omega) (by omega)) ?_
  refine wz_i0 (i3O (n := 4400) (i3A (i3A (show (3010 : Int32) = i3 3010 from rfl) (i3M (show (60 : Int32) = i3 60 from rfl) (rfl : i3 a1 = i3 a1))) (show (3 : Int32) = i3 3 from rfl)) (by omega) (by omega) (by omega)) ?_
  have r4 := zM_k hZ 2 0 0 (3022 + 60 * a1) (lo := 0) (hi := 47) (by decide) (zs_3010_12 (x := (a1 + 0)) (by omega) (by omega) (by omega))
  have r8 := zM_f hZ 2 0 0 (204 + 20 * x2)
  refine sl_309_1 (ν := ν) (zm0 hZ) (zbh (c := 0) (k := 82) hM (Nat.le_of_ble_eq_true rfl)) (xM9 := 0) zC_r (x1 := a1) (by omega) (x2 := (Z 2 0 0 (3022 + 60 * a1))) (by omega) (x3 := (Z 2 0 0 (3023 + 60 * a1))) (by omega) (x4 := (Z 2 0 0 (3024 + 60 * a1))) (by omega) (x5 := (Z 2 0 0 (3013 + 60 * a1))) (by omega) (x6 := (Z 2 0 0 (3023 + 60 * a1))) (by omega) (x7 := 0) (by omega) zU_r (by omega) (by omega) (by omega) (by omega) (by omega) (by omega) (by omega) (zconso rfl (zconso (zvo (rfl : i3 a1 = i3 a1)) (zconso (zvo (zm_rd (Z := Z) (ν := ν) (k := 2) (show ((0 : Nat) : Int) = 0 from rfl) (show ((0 : Nat) : Int) = 0 from rfl) (i3I (y := (3022 + 60 * a1)) (i3A (i3A (i3A (i3A (show (3010 : Int32) = i3 3010 from rfl) (i3M (show (60 : Int32) = i3 60 from rfl) (rfl : i3 a1 = i3 a1))) (show (12 : Int32) = i3 12 from rfl)) (show (0 : Int32) = i3 0 from rfl)) (show (0 : Int32) = i3 0 from rfl)) (by omega) (by omega) (by omega)))) (zconso (zvo (zm_rd (Z := Z) (ν := ν) (k := 2) (show ((0 : Nat) : Int) = 0 from rfl) (show ((0 : Nat) : Int) = 0 from rfl) (i3I (y := (3023 + 60 * a1)) (i3A (i3A (i3A (i3A (show (3010 : Int32) = i3 3010 from rfl) (i3M (show (60 : Int32) = i3 60 from rfl) (rfl : i3 a1 = i3 a1))) (show (12 : Int32) = i3 12 from rfl)) (show (0 : Int32) = i3 0 from rfl)) (show (1 : Int32) = i3 1 from rfl)) (by omega) (by omega) (by omega)))) (zconso (zvo (zm_rd (Z := Z) (ν := ν) (k := 2) (show ((0 : Nat) : Int) = 0 from rfl) (show ((0 : Nat) : Int) = 0 from rfl) (i3I (y := (3024 + 60 * a1)) (i3A (i3A (i3A (i3A (show (3010 : Int32) = i3 3010 from rfl) (i3M (show (60 : Int32) = i3 60 from rfl) (rfl : i3 a1 = i3 a1))) (show (12 : Int32) = i3 12 from rfl)) (show (0 : Int32) = i3 0 from rfl)) (show (2 : Int32) = i3 2 from rfl)) (by omega) (by omega) (by omega)))) (zconso (zvo (zm_rd (Z := Z) (ν := ν) (k := 2) (show ((0 : Nat) : Int) = 0 from rfl) (show ((0 : Nat) : Int) = 0 from rfl) (i3I (y := (3013 + 60 * a1)) (i3A (i3A (show (3010 : Int32) = i3 3010 from rfl) (i3M (show (60 : Int32) = i3 60 from rfl) (rfl : i3 a1 = i3 a1))) (show (3 : Int32) = i3 3 from rfl)) (by omega) (by omega) (by omega)))) (zconso (zvo (zm_rd (Z := Z) (ν := ν) (k := 2) (show ((0 : Nat) : Int) = 0 from rfl) (show ((0 : Nat) : Int) = 0 from rfl) (i3I (y := (3023 + 60 * a1)) (i3A (i3A (i3A (i3A (show (3010 : Int32) = i3 3010 from rfl) (i3M (show (60 : Int32) = i3 60 from rfl) (rfl : i3 a1 = i3 a1))) (show (12 : Int32) = i3 12 from rfl)) (show (0 : Int32) = i3 0 from rfl)) (show (1 : Int32) = i3 1 from rfl)) (by omega) (by omega) (by omega)))) (zconso (zvo (show (0 : Int32) = i3 0 from rfl)) (zconso rfl (zconso rfl (zconso rfl rfl))))))))))) rfl ?_
  intro L9 Z7 y5 y6 hL9 hZ7I kZ7 jZ7 gy5 gy6 gL9_0 gL9_1 gL9_2 gL9_3 gL9_4 q9
  replace hP := zl_e3 hP (Eq.symm q9)
  clear q9
  have hZ7U : zU [] Z Z7 := zU_t zU_r jZ7 zU_b0
  have hZ7K : zC [2] Z Z7 := zC_t zC_r kZ7 (by decide)
  refine fc_309_2 (i3 a1) (i3 (Z 2 0 0 (3022 + 60 * a1))) (i3 y5) _ _ _ _ hL9 ?_
  refine wz_i0 (i3O (n := 4400) (i3A (i3A (show (3010 : Int32) = i3 3010 from rfl) (i3M (show (60 : Int32) = i3 60 from rfl) (rfl : i3 a1 = i3 a1))) (show (6 : Int32) = i3 6 from rfl)) (by omega) (by omega) (by omega)) ?_
  obtain ⟨Z10, hZ10⟩ := zx (zu Z7 2 0 0 (3016 + 60 * a1) y5)
  replace hP := zl_e hP hZ10
  have hZ10I := zM_u2 hZ7I hZ10 (lo := -1) (hi := 9999) (zs_3010_6 (x := (a1 + 0)) (by omega) (by omega) (by omega)) (by omega) ⟨by decide, by decide⟩ (by simp only [zsp]; omega)
  have hZ10U : zU [] Z Z10 := zU_u hZ7U hZ10 (Or.inl rfl)
  have hZ10K : zC [2] Z Z10 := zC_u hZ7K hZ10 (zcl_2w (by omega) rfl)
  intro μ9 e9
  replace e9 := e9.trans (zm_wI (Z := Z7) (ν := ν) hZ10 (show ((0 : Nat) : Int) = 0 from rfl) (show ((0 : Nat) : Int) = 0 from rfl) (i3I (y := (3016 + 60 * a1)) (i3A (i3A (show (3010 : Int32) = i3 3010 from rfl) (i3M (show (60 : Int32) = i3 60 from rfl) (rfl : i3 a1 = i3 a1))) (show (6 : Int32) = i3 6 from rfl)) (by omega) (by omega) (by omega)) (rfl : i3 y5 = i3 y5))
  subst e9
  refine wz_i0 (i3O (n := 4400) (i3A (i3A (show (3010 : Int32) = i3 3010 from rfl) (i3M (show (60 : Int32) = i3 60 from rfl) (rfl : i3 a1 = i3 a1))) (show (7 : Int32) = i3 7 from rfl)) (by omega) (by omega) (by omega)) ?_
  obtain ⟨Z11, hZ11⟩ := zx (zu Z10 2 0 0 (3017 + 60 * a1) (Z 2 0 0 (3022 + 60 * a1)))
  replace hP := zl_e hP hZ11
  have hZ11I := zM_u2 hZ10I hZ11 (lo := -1) (hi := 47) (zs_3010_7 (x := (a1 + 0)) (by omega) (by omega) (by omega)) (by omega) ⟨by decide, by decide⟩ (by simp only [zsp]; omega)
  have hZ11U : zU [] Z Z11 := zU_u hZ10U hZ11 (Or.inl rfl)
  have hZ11K : zC [2] Z Z11 := zC_u hZ10K hZ11 (zcl_2w (by omega) rfl)
  intro μ9 e9
  replace e9 := e9.trans (zm_wI (Z := Z10) (ν := ν) hZ11 (show ((0 : Nat) : Int) = 0 from rfl) (show ((0 : Nat) : Int) = 0 from rfl) (i3I (y := (3017 + 60 * a1)) (i3A (i3A (show (3010 : Int32) = i3 3010 from rfl) (i3M (show (60 : Int32) = i3 60 from rfl) (rfl : i3 a1 = i3 a1))) (show (7 : Int32) = i3 7 from rfl)) (by omega) (by omega) (by omega)) (rfl : i3 (Z 2 0 0 (3022 + 60 * a1)) = i3 (Z 2 0 0 (3022 + 60 * a1))))
  subst e9
  refine wz_i0 (i3O (n := 4400) (i3A (i3A (show (3010 : Int32) = i3 3010 from rfl) (i3M (show (60 : Int32) = i3 60 from rfl) (rfl : i3 a1 = i3 a1))) (show (8 : Int32) = i3 8 from rfl)) (by omega) (by omega) (by omega)) ?_
  refine wz_i0 (i3O (n := 4400) (i3A (i3A (show (3010 : Int32) = i3 3010 from rfl) (i3M (show (60 : Int32) = i3 60 from rfl) (rfl : i3 a1 = i3 a1))) (show (8 : Int32) = i3 8 from rfl)) (by omega) (by omega) (by omega)) ?_
  have r12 := zM_f hZ11I 2 0 0 (3018 + 60 * a1)
  have r13 := w3_r ((Z11 2 0 0 (3018 + 60 * a1)) + 1)
  obtain ⟨Z14, hZ14⟩ := zx (zu Z11 2 0 0 (3018 + 60 * a1) (w3 ((Z11 2 0 0 (3018 + 60 * a1)) + 1)))
  replace hP := zl_e hP hZ14
  have hZ14I := zM_u2 hZ11I hZ14 (lo := -2147483648) (hi := 2147483647) (zs_3010_8 (x := (a1 + 0)) (by omega) (by omega) (by omega)) (by omega) ⟨by decide, by decide⟩ (by simp only [zsp]; omega)
  have hZ14U : zU [] Z Z14 := zU_u hZ11U hZ14 (Or.inl rfl)
  have hZ14K : zC [2] Z Z14 := zC_u hZ11K hZ14 (zcl_2w (by omega) rfl)
  intro μ9 e9
  replace e9 := e9.trans (zm_wI (Z := Z11) (ν := ν) hZ14 (show ((0 : Nat) : Int) = 0 from rfl) (show ((0 : Nat) : Int) = 0 from rfl) (i3I (y := (3018 + 60 * a1)) (i3A (i3A (show (3010 : Int32) = i3 3010 from rfl) (i3M (show (60 : Int32) = i3 60 from rfl) (rfl : i3 a1 = i3 a1))) (show (8 : Int32) = i3 8 from rfl)) (by omega) (by omega) (by omega)) (i3W (i3A (zm_rd (Z := Z11) (ν := ν) (k := 2) (show ((0 : Nat) : Int) = 0 from rfl) (show ((0 : Nat) : Int) = 0 from rfl) (i3I (y := (3018 + 60 * a1)) (i3A (i3A (show (3010 : Int32) = i3 3010 from rfl) (i3M (show (60 : Int32) = i3 60 from rfl) (rfl : i3 a1 = i3 a1))) (show (8 : Int32) = i3 8 from rfl)) (by omega) (by omega) (by omega))) (show (1 : Int32) = i3 1 from rfl))))
  subst e9
  have r15 := zM_k hZ14I 2 0 0 (3015 + 60 * a1) (lo := 0) (hi := 12) (by decide) (zs_3010_5 (x := (a1 + 0)) (by omega) (by omega) (by omega))
  obtain ⟨Z16, hZ16, c9, hZ16I, kZ16, jZ16⟩ := sp_312 (ν := ν) hZ14I (a1 := a1) (by omega) (a2 := 0) (by omega) (by omega) (zbh (c := 82) (k := 0) hM (Nat.le_of_ble_eq_true rfl))
  have hZ16U : zU [] Z Z16 := zU_t hZ14U jZ16 zU_b0
  have hZ16K : zC [2] Z Z16 := zC_t hZ14K kZ16 (by decide)
  replace hP := zl_e hP hZ16
  refine wz_cV_of (zas (zcons rfl (zcons (zvi (rfl : i3 a1 = i3 a1)) (zcons (zvi (show (0 : Int32) = i3 0 from rfl)) rfl))) c9) ?_
  clear c9
  refine wz_i0 (i3O (n := 4400) (i3A (i3A (show (200 : Int32) = i3 200 from rfl) (i3M (show (20 : Int32) = i3 20 from rfl) (rfl : i3 (Z 2 0 0 (3022 + 60 * a1)) = i3 (Z 2 0 0 (3022 + 60 * a1))))) (show (10 : Int32) = i3 10 from rfl)) (by omega) (by omega) (by omega)) ?_
  obtain ⟨Z17, hZ17⟩ := zx (zu Z16 2 0 0 (210 + 20 * (Z 2 0 0 (3022 + 60 * a1))) 0)
  replace hP := zl_e hP hZ17
  have r18 := zM_k hZ16I 2 0 0 (210 + 20 * (Z 2 0 0 (3022 + 60 * a1))) (lo := 0) (hi := 4) (by decide) (zs_200_10 (x := (Z 2 0 0 (3022 + 60 * a1))) (by omega) (by omega) (by omega))
  have r19 := zM_pl hZ16I (Z 2 0 0 (3022 + 60 * a1))
  have r20 := zM_k hZ16I 2 0 0 102 (lo := 0) (hi := 48) (by decide) rfl
  have r21 := zM_k hZ16I 2 0 0 (211 + 20 * (Z 2 0 0 (3022 + 60 * a1))) (lo := -1) (hi := 6) (by decide) (zs_200_11 (x := (Z 2 0 0 (3022 + 60 * a1))) (by omega) (by omega) (by omega))
  have hZ17I := zM_ps2 hZ16I hZ17 (q := (Z 2 0 0 (3022 + 60 * a1))) (by omega) (by omega) (by omega) (by omega)
  have hZ17U : zU [] Z Z17 := zU_u hZ16U hZ17 (Or.inl rfl)
  have hZ17K : zC [2] Z Z17 := zC_u hZ16K hZ17 (zcl_2w (by omega) rfl)
  intro μ9 e9
  replace e9 := e9.trans (zm_wI (Z := Z16) (ν := ν) hZ17 (show ((0 : Nat) : Int) = 0 from rfl) (show ((0 : Nat) : Int) = 0 from rfl) (i3I (y := (210 + 20 * (Z 2 0 0 (3022 + 60 * a1)))) (i3A (i3A (show (200 : Int32) = i3 200 from rfl) (i3M (show (20 : Int32) = i3 20 from rfl) (rfl : i3 (Z 2 0 0 (3022 + 60 * a1)) = i3 (Z 2 0 0 (3022 + 60 * a1))))) (show (10 : Int32) = i3 10 from rfl)) (by omega) (by omega) (by omega)) (show (0 : Int32) = i3 0 from rfl))
  subst e9
  exact zlV hP ⟨hZ17I, hZ17K, hZ17U⟩
