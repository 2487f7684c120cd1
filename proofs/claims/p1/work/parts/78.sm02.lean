/-! a season told, m (printed by season.py) -/
/- yX12_rInto -/
def zf_472 (Z : qz_Z) (a1 : Int) (a2 : Int) : qz_Z := (if (Z 2 0 0 (211 + 20 * a1)) < 0 then (zlet (zu Z 2 0 0 (1216 + 12 * a2) (w3 ((Z 2 0 0 (1216 + 12 * a2)) + 1))) (fun Z5 => (zlet (zu Z5 2 0 0 (211 + 20 * a1) a2) (fun Z14 => Z14)))) else (if 5 < (Z 2 0 0 (211 + 20 * a1)) then (zlet (zu Z 2 0 0 (1216 + 12 * a2) (w3 ((Z 2 0 0 (1216 + 12 * a2)) + 1))) (fun Z26 => (zlet (zu Z26 2 0 0 (211 + 20 * a1) a2) (fun Z35 => Z35)))) else (zlet (zu Z 2 0 0 (1216 + 12 * (Z 2 0 0 (211 + 20 * a1))) (w3 ((Z 2 0 0 (1216 + 12 * (Z 2 0 0 (211 + 20 * a1)))) + 1))) (fun Z46 => (zlet (zu Z46 2 0 0 (1216 + 12 * a2) (w3 ((Z46 2 0 0 (1216 + 12 * a2)) + 1))) (fun Z57 => (zlet (zu Z57 2 0 0 (211 + 20 * a1) a2) (fun Z66 => Z66))))))))
theorem sp_472 {s : zS} {Z : qz_Z} {ν : qz_N} (hZ : zI s Z) {a1 : Int} (ga1 : 0 ≤ a1 ∧ a1 ≤ 47) {a2 : Int} (ga2 : 0 ≤ a2 ∧ a2 ≤ 3) : ∃ P : qz_Z, P = zf_472 Z a1 a2 ∧ (qf_472 [.inr (.inr (some (1, 0, 0))), .inl (i3 a1), .inl (i3 a2)] (zm Z ν) = some (zm P ν, .inl none) ∧ zI s P ∧ zK [2] Z P ∧ P 2 0 0 102 = Z 2 0 0 102 ∧ P 2 0 0 100 = Z 2 0 0 100 ∧ P 2 0 0 1200 = Z 2 0 0 1200 ∧ P 2 0 0 1400 = Z 2 0 0 1400 ∧ P 2 0 0 1401 = Z 2 0 0 1401 ∧ P 2 0 0 3000 = Z 2 0 0 3000 ∧ P 2 0 0 3200 = Z 2 0 0 3200 ∧ P 2 0 0 3500 = Z 2 0 0 3500) := by
  obtain ⟨P, hP⟩ := zx (zf_472 Z a1 a2)
  refine zc_V (Q := fun P => zI s P ∧ zK [2] Z P ∧ P 2 0 0 102 = Z 2 0 0 102 ∧ P 2 0 0 100 = Z 2 0 0 100 ∧ P 2 0 0 1200 = Z 2 0 0 1200 ∧ P 2 0 0 1400 = Z 2 0 0 1400 ∧ P 2 0 0 1401 = Z 2 0 0 1401 ∧ P 2 0 0 3000 = Z 2 0 0 3000 ∧ P 2 0 0 3200 = Z 2 0 0 3200 ∧ P 2 0 0 3500 = Z 2 0 0 3500) hP (fw_472 (i3 a1) (i3 a2) _ _ ?_)
  replace hP : zE P (zf_472 Z a1 a2) := hP
  unfold zf_472 at hP
  refine wz_i0 (i3O (n := 4400) (i3A (i3A (show (200 : Int32) = i3 200 from rfl) (i3M (show (20 : Int32) = i3 20 from rfl) (rfl : i3 a1 = i3 a1))) (show (11 : Int32) = i3 11 from rfl)) (by omega) (by omega) (by omega)) ?_
  have r1 := zI_k hZ 2 0 0 (211 + 20 * a1) (lo := -1) (hi := 6) (by decide) (zs_200_11 (x := a1) (by omega) (by omega) (by omega))
  refine wz_br (i3L (zm_rd (Z := Z) (ν := ν) (k := 2) (show ((0 : Nat) : Int) = 0 from rfl) (show ((0 : Nat) : Int) = 0 from rfl) (i3I (y := (211 + 20 * a1)) (i3A (i3A (show (200 : Int32) = i3 200 from rfl) (i3M (show (20 : Int32) = i3 20 from rfl) (rfl : i3 a1 = i3 a1))) (show (11 : Int32) = i3 11 from rfl)) (by omega) (by omega) (by omega))) (show (0 : Int32) = i3 0 from rfl) (by omega) (by omega) (by omega) (by omega)) (fun h2 => ?_) (fun h2 => ?_)
  · replace hP := zE_p hP h2
    refine wz_i0 (Eq.trans (i3L (rfl : i3 a2 = i3 a2) (show (0 : Int32) = i3 0 from rfl) (by omega) (by omega) (by omega) (by omega)) (decide_eq_false (by omega))) ?_
    refine wz_i0 (Eq.trans (i3L (show (5 : Int32) = i3 5 from rfl) (rfl : i3 a2 = i3 a2) (by omega) (by omega) (by omega) (by omega)) (decide_eq_false (by omega))) ?_
    refine wz_i0 (i3O (n := 4400) (i3A (i3A (show (1210 : Int32) = i3 1210 from rfl) (i3M (show (12 : Int32) = i3 12 from rfl) (rfl : i3 a2 = i3 a2))) (show (6 : Int32) = i3 6 from rfl)) (by omega) (by omega) (by omega)) ?_
    refine wz_i0 (i3O (n := 4400) (i3A (i3A (show (1210 : Int32) = i3 1210 from rfl) (i3M (show (12 : Int32) = i3 12 from rfl) (rfl : i3 a2 = i3 a2))) (show (6 : Int32) = i3 6 from rfl)) (by omega) (by omega) (by omega)) ?_
    have r3 := zI_f hZ 2 0 0 (1216 + 12 * a2)
    have r4 := w3_r ((Z 2 0 0 (1216 + 12 * a2)) + 1)
    obtain ⟨Z5, hZ5⟩ := zx (zu Z 2 0 0 (1216 + 12 * a2) (w3 ((Z 2 0 0 (1216 + 12 * a2)) + 1)))
    replace hP := zl_e hP hZ5
    have hZ5I := zI_u hZ hZ5 (lo := -2147483648) (hi := 2147483647) (by decide) (zs_1210_6 (x := a2) (by omega) (by omega) (by omega)) (by omega) ⟨by decide, by decide⟩ (Or.inl (by decide))
    have t6 : Z5 2 0 0 102 = Z 2 0 0 102 := zu_ne hZ5 (by omega)
    have t7 : Z5 2 0 0 100 = Z 2 0 0 100 := zu_ne hZ5 (by omega)
    have t8 : Z5 2 0 0 1200 = Z 2 0 0 1200 := zu_ne hZ5 (by omega)
    have t9 : Z5 2 0 0 1400 = Z 2 0 0 1400 := zu_ne hZ5 (by omega)
    have t10 : Z5 2 0 0 1401 = Z 2 0 0 1401 := zu_ne hZ5 (by omega)
    have t11 : Z5 2 0 0 3000 = Z 2 0 0 3000 := zu_ne hZ5 (by omega)
    have t12 : Z5 2 0 0 3200 = Z 2 0 0 3200 := zu_ne hZ5 (by omega)
    have t13 : Z5 2 0 0 3500 = Z 2 0 0 3500 := zu_ne hZ5 (by omega)
    have hZ5K : zK [2] Z Z5 := zK_u zK_r hZ5 (by decide)
    intro μ9 e9
    replace e9 := e9.trans (zm_wI (Z := Z) (ν := ν) hZ5 (show ((0 : Nat) : Int) = 0 from rfl) (show ((0 : Nat) : Int) = 0 from rfl) (i3I (y := (1216 + 12 * a2)) (i3A (i3A (show (1210 : Int32) = i3 1210 from rfl) (i3M (show (12 : Int32) = i3 12 from rfl) (rfl : i3 a2 = i3 a2))) (show (6 : Int32) = i3 6 from rfl)) (by omega) (by omega) (by omega)) (i3W (i3A (zm_rd (Z := Z) (ν := ν) (k := 2) (show ((0 : Nat) : Int) = 0 from rfl) (show ((0 : Nat) : Int) = 0 from rfl) (i3I (y := (1216 + 12 * a2)) (i3A (i3A (show (1210 : Int32) = i3 1210 from rfl) (i3M (show (12 : Int32) = i3 12 from rfl) (rfl : i3 a2 = i3 a2))) (show (6 : Int32) = i3 6 from rfl)) (by omega) (by omega) (by omega))) (show (1 : Int32) = i3 1 from rfl))))
    subst e9
    refine wz_i0 (i3O (n := 4400) (i3A (i3A (show (200 : Int32) = i3 200 from rfl) (i3M (show (20 : Int32) = i3 20 from rfl) (rfl : i3 a1 = i3 a1))) (show (11 : Int32) = i3 11 from rfl)) (by omega) (by omega) (by omega)) ?_
    obtain ⟨Z14, hZ14⟩ := zx (zu Z5 2 0 0 (211 + 20 * a1) a2)
    replace hP := zl_e hP hZ14
    have hZ14I := zI_u hZ5I hZ14 (lo := -1) (hi := 6) (by decide) (zs_200_11 (x := a1) (by omega) (by omega) (by omega)) (by omega) ⟨by decide, by decide⟩ (Or.inl (by decide))
    have t15 : Z14 2 0 0 102 = Z5 2 0 0 102 := zu_ne hZ14 (by omega)
    have t16 : Z14 2 0 0 100 = Z5 2 0 0 100 := zu_ne hZ14 (by omega)
    have t17 : Z14 2 0 0 1200 = Z5 2 0 0 1200 := zu_ne hZ14 (by omega)
    have t18 : Z14 2 0 0 1400 = Z5 2 0 0 1400 := zu_ne hZ14 (by omega)
    have t19 : Z14 2 0 0 1401 = Z5 2 0 0 1401 := zu_ne hZ14 (by omega)
    have t20 : Z14 2 0 0 3000 = Z5 2 0 0 3000 := zu_ne hZ14 (by omega)
    have t21 : Z14 2 0 0 3200 = Z5 2 0 0 3200 := zu_ne hZ14 (by omega)
    have t22 : Z14 2 0 0 3500 = Z5 2 0 0 3500 := zu_ne hZ14 (by omega)
    have hZ14K := zK_u hZ5K hZ14 (by decide)
    intro μ9 e9
    replace e9 := e9.trans (zm_wI (Z := Z5) (ν := ν) hZ14 (show ((0 : Nat) : Int) = 0 from rfl) (show ((0 : Nat) : Int) = 0 from rfl) (i3I (y := (211 + 20 * a1)) (i3A (i3A (show (200 : Int32) = i3 200 from rfl) (i3M (show (20 : Int32) = i3 20 from rfl) (rfl : i3 a1 = i3 a1))) (show (11 : Int32) = i3 11 from rfl)) (by omega) (by omega) (by omega)) (rfl : i3 a2 = i3 a2))
    subst e9
    exact zlV hP ⟨hZ14I, hZ14K, by omega, by omega, by omega, by omega, by omega, by omega, by omega, by omega⟩
  · replace hP := zE_n hP h2
    refine wz_br (i3L (show (5 : Int32) = i3 5 from rfl) (zm_rd (Z := Z) (ν := ν) (k := 2) (show ((0 : Nat) : Int) = 0 from rfl) (show ((0 : Nat) : Int) = 0 from rfl) (i3I (y := (211 + 20 * a1)) (i3A (i3A (show (200 : Int32) = i3 200 from rfl) (i3M (show (20 : Int32) = i3 20 from rfl) (rfl : i3 a1 = i3 a1))) (show (11 : Int32) = i3 11 from rfl)) (by omega) (by omega) (by omega))) (by omega) (by omega) (by omega) (by omega)) (fun h23 => ?_) (fun h23 => ?_)
    · replace hP := zE_p hP h23
      refine wz_i0 (Eq.trans (i3L (rfl : i3 a2 = i3 a2) (show (0 : Int32) = i3 0 from rfl) (by omega) (by omega) (by omega) (by omega)) (decide_eq_false (by omega))) ?_
      refine wz_i0 (Eq.trans (i3L (show (5 : Int32) = i3 5 from rfl) (rfl : i3 a2 = i3 a2) (by omega) (by omega) (by omega) (by omega)) (decide_eq_false (by omega))) ?_
      refine wz_i0 (i3O (n := 4400) (i3A (i3A (show (1210 : Int32) = i3 1210 from rfl) (i3M (show (12 : Int32) = i3 12 from rfl) (rfl : i3 a2 = i3 a2))) (show (6 : Int32) = i3 6 from rfl)) (by omega) (by omega) (by omega)) ?_
      refine wz_i0 (i3O (n := 4400) (i3A (i3A (show (1210 : Int32) = i3 1210 from rfl) (i3M (show (12 : Int32) = i3 12 from rfl) (rfl : i3 a2 = i3 a2))) (show (6 : Int32) = i3 6 from rfl)) (by omega) (by omega) (by omega)) ?_
      have r24 := zI_f hZ 2 0 0 (1216 + 12 * a2)
      have r25 := w3_r ((Z 2 0 0 (1216 + 12 * a2)) + 1)
      obtain ⟨Z26, hZ26⟩ := zx (zu Z 2 0 0 (1216 + 12 * a2) (w3 ((Z 2 0 0 (1216 + 12 * a2)) + 1)))
      replace hP := zl_e hP hZ26
      have hZ26I := zI_u hZ hZ26 (lo := -2147483648) (hi := 2147483647) (by decide) (zs_1210_6 (x := a2) (by omega) (by omega) (by omega)) (by omega) ⟨by decide, by decide⟩ (Or.inl (by decide))
      have t27 : Z26 2 0 0 102 = Z 2 0 0 102 := zu_ne hZ26 (by omega)
      have t28 : Z26 2 0 0 100 = Z 2 0 0 100 := zu_ne hZ26 (by omega)
      have t29 : Z26 2 0 0 1200 = Z 2 0 0 1200 := zu_ne hZ26 (by omega)
      have t30 : Z26 2 0 0 1400 = Z 2 0 0 1400 := zu_ne hZ26 (by omega)
      have t31 : Z26 2 0 0 1401 = Z 2 0 0 1401 := zu_ne hZ26 (by omega)
      have t32 : Z26 2 0 0 3000 = Z 2 0 0 3000 := zu_ne hZ26 (by omega)
      have t33 : Z26 2 0 0 3200 = Z 2 0 0 3200 := zu_ne hZ26 (by omega)
      have t34 : Z26 2 0 0 3500 = Z 2 0 0 3500 := zu_ne hZ26 (by omega)
      have hZ26K : zK [2] Z Z26 := zK_u zK_r hZ26 (by decide)
      intro μ9 e9
      replace e9 := e9.trans (zm_wI (Z := Z) (ν := ν) hZ26 (show ((0 : Nat) : Int) = 0 from rfl) (show ((0 : Nat) : Int) = 0 from rfl) (i3I (y := (1216 + 12 * a2)) (i3A (i3A (show (1210 : Int32) = i3 1210 from rfl) (i3M (show (12 : Int32) = i3 12 from rfl) (rfl : i3 a2 = i3 a2))) (show (6 : Int32) = i3 6 from rfl)) (by omega) (by omega) (by omega)) (i3W (i3A (zm_rd (Z := Z) (ν := ν) (k := 2) (show ((0 : Nat) : Int) = 0 from rfl) (show ((0 : Nat) : Int) = 0 from rfl) (i3I (y := (1216 + 12 * a2)) (i3A (i3A (show (1210 : Int32) = i3 1210 from rfl) (i3M (show (12 : Int32) = i3 12 from rfl) (rfl : i3 a2 = i3 a2))) (show (6 : Int32) = i3 6 from rfl)) (by omega) (by omega) (by omega))) (show (1 : Int32) = i3 1 from rfl))))
      subst e9
      refine wz_i0 (i3O (n := 4400) (i3A (i3A (show (200 : Int32) = i3 200 from rfl) (i3M (show (20 : Int32) = i3 20 from rfl) (rfl : i3 a1 = i3 a1))) (show (11 : Int32) = i3 11 from rfl)) (by omega) (by omega) (by omega)) ?_
      obtain ⟨Z35, hZ35⟩ := zx (zu Z26 2 0 0 (211 + 20 * a1) a2)
      replace hP := zl_e hP hZ35
      have hZ35I := zI_u hZ26I hZ35 (lo := -1) (hi := 6) (by decide) (zs_200_11 (x := a1) (by omega) (by omega) (by omega)) (by omega) ⟨by decide, by decide⟩ (Or.inl (by decide))
      have t36 : Z35 2 0 0 102 = Z26 2 0 0 102 := zu_ne hZ35 (by omega)
      have t37 : Z35 2 0 0 100 = Z26 2 0 0 100 := zu_ne hZ35 (by omega)
      have t38 : Z35 2 0 0 1200 = Z26 2 0 0 1200 := zu_ne hZ35 (by omega)
      have t39 : Z35 2 0 0 1400 = Z26 2 0 0 1400 := zu_ne hZ35 (by omega)
      have t40 : Z35 2 0 0 1401 = Z26 2 0 0 1401 := zu_ne hZ35 (by omega)
      have t41 : Z35 2 0 0 3000 = Z26 2 0 0 3000 := zu_ne hZ35 (by omega)
      have t42 : Z35 2 0 0 3200 = Z26 2 0 0 3200 := zu_ne hZ35 (by omega)
      have t43 : Z35 2 0 0 3500 = Z26 2 0 0 3500 := zu_ne hZ35 (by omega)
      have hZ35K := zK_u hZ26K hZ35 (by decide)
      intro μ9 e9
      replace e9 := e9.trans (zm_wI (Z := Z26) (ν := ν) hZ35 (show ((0 : Nat) : Int) = 0 from rfl) (show ((0 : Nat) : Int) = 0 from rfl) (i3I (y := (211 + 20 * a1)) (i3A (i3A (show (200 : Int32) = i3 200 from rfl) (i3M (show (20 : Int32) = i3 20 from rfl) (rfl : i3 a1 = i3 a1))) (show (11 : Int32) = i3 11 from rfl)) (by omega) (by omega) (by omega)) (rfl : i3 a2 = i3 a2))
      subst e9
      exact zlV hP ⟨hZ35I, hZ35K, by omega, by omega, by omega, by omega, by omega, by omega, by omega, by omega⟩
    · replace hP := zE_n hP h23
      refine wz_i0 (i3O (n := 4400) (i3A (i3A (show (1210 : Int32) = i3 1210 from rfl) (i3M (show (12 : Int32) = i3 12 from rfl) (zm_rd (Z := Z) (ν := ν) (k := 2) (show ((0 : Nat) : Int) = 0 from rfl) (show ((0 : Nat) : Int) = 0 from rfl) (i3I (y := (211 + 20 * a1)) (i3A (i3A (show (200 : Int32) = i3 200 from rfl) (i3M (show (20 : Int32) = i3 20 from rfl) (rfl : i3 a1 = i3 a1))) (show (11 : Int32) = i3 11 from rfl)) (by omega) (by omega) (by omega))))) (show (6 : Int32) = i3 6 from rfl)) (by omega) (by omega) (by omega)) ?_
      refine wz_i0 (i3O (n := 4400) (i3A (i3A (show (1210 : Int32) = i3 1210 from rfl) (i3M (show (12 : Int32) = i3 12 from rfl) (zm_rd (Z := Z) (ν := ν) (k := 2) (show ((0 : Nat) : Int) = 0 from rfl) (show ((0 : Nat) : Int) = 0 from rfl) (i3I (y := (211 + 20 * a1)) (i3A (i3A (show (200 : Int32) = i3 200 from rfl) (i3M (show (20 : Int32) = i3 20 from rfl) (rfl : i3 a1 = i3 a1))) (show (11 : Int32) = i3 11 from rfl)) (by omega) (by omega) (by omega))))) (show (6 : Int32) = i3 6 from rfl)) (by omega) (by omega) (by omega)) ?_
      have r44 := zI_f hZ 2 0 0 (1216 + 12 * (Z 2 0 0 (211 + 20 * a1)))
      have r45 := w3_r ((Z 2 0 0 (1216 + 12 * (Z 2 0 0 (211 + 20 * a1)))) + 1)
      obtain ⟨Z46, hZ46⟩ := zx (zu Z 2 0 0 (1216 + 12 * (Z 2 0 0 (211 + 20 * a1))) (w3 ((Z 2 0 0 (1216 + 12 * (Z 2 0 0 (211 + 20 * a1)))) + 1)))
      replace hP := zl_e hP hZ46
      have hZ46I := zI_u hZ hZ46 (lo := -2147483648) (hi := 2147483647) (by decide) (zs_1210_6 (x := (Z 2 0 0 (211 + 20 * a1))) (by omega) (by omega) (by omega)) (by omega) ⟨by decide, by decide⟩ (Or.inl (by decide))
      have t47 : Z46 2 0 0 102 = Z 2 0 0 102 := zu_ne hZ46 (by omega)
      have t48 : Z46 2 0 0 100 = Z 2 0 0 100 := zu_ne hZ46 (by omega)
      have t49 : Z46 2 0 0 1200 = Z 2 0 0 1200 := zu_ne hZ46 (by omega)
      have t50 : Z46 2 0 0 1400 = Z 2 0 0 1400 := zu_ne hZ46 (by omega)
      have t51 : Z46 2 0 0 1401 = Z 2 0 0 1401 := zu_ne hZ46 (by omega)
      have t52 : Z46 2 0 0 3000 = Z 2 0 0 3000 := zu_ne hZ46 (by omega)
      have t53 : Z46 2 0 0 3200 = Z 2 0 0 3200 := zu_ne hZ46 (by omega)
      have t54 : Z46 2 0 0 3500 = Z 2 0 0 3500 := zu_ne hZ46 (by omega)
      have hZ46K : zK [2] Z Z46 := zK_u zK_r hZ46 (by decide)
      intro μ9 e9
      replace e9 := e9.trans (zm_wI (Z := Z) (ν := ν) hZ46 (show ((0 : Nat) : Int) = 0 from rfl) (show ((0 : Nat) : Int) = 0 from rfl) (i3I (y := (1216 + 12 * (Z 2 0 0 (211 + 20 * a1)))) (i3A (i3A (show (1210 : Int32) = i3 1210 from rfl) (i3M (show (12 : Int32) = i3 12 from rfl) (zm_rd (Z := Z) (ν := ν) (k := 2) (show ((0 : Nat) : Int) = 0 from rfl) (show ((0 : Nat) : Int) = 0 from rfl) (i3I (y := (211 + 20 * a1)) (i3A (i3A (show (200 : Int32) = i3 200 from rfl) (i3M (show (20 : Int32) = i3 20 from rfl) (rfl : i3 a1 = i3 a1))) (show (11 : Int32) = i3 11 from rfl)) (by omega) (by omega) (by omega))))) (show (6 : Int32) = i3 6 from rfl)) (by omega) (by omega) (by omega)) (i3W (i3A (zm_rd (Z := Z) (ν := ν) (k := 2) (show ((0 : Nat) : Int) = 0 from rfl) (show ((0 : Nat) : Int) = 0 from rfl) (i3I (y := (1216 + 12 * (Z 2 0 0 (211 + 20 * a1)))) (i3A (i3A (show (1210 : Int32) = i3 1210 from rfl) (i3M (show (12 : Int32) = i3 12 from rfl) (zm_rd (Z := Z) (ν := ν) (k := 2) (show ((0 : Nat) : Int) = 0 from rfl) (show ((0 : Nat) : Int) = 0 from rfl) (i3I (y := (211 + 20 * a1)) (i3A (i3A (show (200 : Int32) = i3 200 from rfl) (i3M (show (20 : Int32) = i3 20 from rfl) (rfl : i3 a1 = i3 a1))) (show (11 : Int32) = i3 11 from rfl)) (by omega) (by omega) (by omega))))) (show (6 : Int32) = i3 6 from rfl)) (by omega) (by omega) (by omega))) (show (1 : Int32) = i3 1 from rfl))))
      subst e9
      refine wz_i0 (Eq.trans (i3L (rfl : i3 a2 = i3 a2) (show (0 : Int32) = i3 0 from rfl) (by omega) (by omega) (by omega) (by omega)) (decide_eq_false (by omega))) ?_
      refine wz_i0 (Eq.trans (i3L (show (5 : Int32) = i3 5 from rfl) (rfl : i3 a2 = i3 a2) (by omega) (by omega) (by omega) (by omega)) (decide_eq_false (by omega))) ?_
      refine wz_i0 (i3O (n := 4400) (i3A (i3A (show (1210 : Int32) = i3 1210 from rfl) (i3M (show (12 : Int32) = i3 12 from rfl) (rfl : i3 a2 = i3 a2))) (show (6 : Int32) = i3 6 from rfl)) (by omega) (by omega) (by omega)) ?_
      refine wz_i0 (i3O (n := 4400) (i3A (i3A (show (1210 : Int32) = i3 1210 from rfl) (i3M (show (12 : Int32) = i3 12 from rfl) (rfl : i3 a2 = i3 a2))) (show (6 : Int32) = i3 6 from rfl)) (by omega) (by omega) (by omega)) ?_
      have r55 := zI_f hZ46I 2 0 0 (1216 + 12 * a2)
      have r56 := w3_r ((Z46 2 0 0 (1216 + 12 * a2)) + 1)
      obtain ⟨Z57, hZ57⟩ := zx (zu Z46 2 0 0 (1216 + 12 * a2) (w3 ((Z46 2 0 0 (1216 + 12 * a2)) + 1)))
      replace hP := zl_e hP hZ57
      have hZ57I := zI_u hZ46I hZ57 (lo := -2147483648) (hi := 2147483647) (by decide) (zs_1210_6 (x := a2) (by omega) (by omega) (by omega)) (by omega) ⟨by decide, by decide⟩ (Or.inl (by decide))
      have t58 : Z57 2 0 0 102 = Z46 2 0 0 102 := zu_ne hZ57 (by omega)
      have t59 : Z57 2 0 0 100 = Z46 2 0 0 100 := zu_ne hZ57 (by omega)
      have t60 : Z57 2 0 0 1200 = Z46 2 0 0 1200 := zu_ne hZ57 (by omega)
      have t61 : Z57 2 0 0 1400 = Z46 2 0 0 1400 := zu_ne hZ57 (by omega)
      have t62 : Z57 2 0 0 1401 = Z46 2 0 0 1401 := zu_ne hZ57 (by omega)
      have t63 : Z57 2 0 0 3000 = Z46 2 0 0 3000 := zu_ne hZ57 (by omega)
      have t64 : Z57 2 0 0 3200 = Z46 2 0 0 3200 := zu_ne hZ57 (by omega)
      have t65 : Z57 2 0 0 3500 = Z46 2 0 0 3500 := zu_ne hZ57 (by omega)
      have hZ57K := zK_u hZ46K hZ57 (by decide)
      intro μ9 e9
      replace e9 := e9.trans (zm_wI (Z := Z46) (ν := ν) hZ57 (show ((0 : Nat) : Int) = 0 from rfl) (show ((0 : Nat) : Int) = 0 from rfl) (i3I (y := (1216 + 12 * a2)) (i3A (i3A (show (1210 : Int32) = i3 1210 from rfl) (i3M (show (12 : Int32) = i3 12 from rfl) (rfl : i3 a2 = i3 a2))) (show (6 : Int32) = i3 6 from rfl)) (by omega) (by omega) (by omega)) (i3W (i3A (zm_rd (Z := Z46) (ν := ν) (k := 2) (show ((0 : Nat) : Int) = 0 from rfl) (show ((0 : Nat) : Int) = 0 from rfl) (i3I (y := (1216 + 12 * a2)) (i3A (i3A (show (1210 : Int32) = i3 1210 from rfl) (i3M (show (12 : Int32) = i3 12 from rfl) (rfl : i3 a2 = i3 a2))) (show (6 : Int32) = i3 6 from rfl)) (by omega) (by omega) (by omega))) (show (1 : Int32) = i3 1 from rfl))))
      subst e9
      refine wz_i0 (i3O (n := 4400) (i3A (i3A (show (200 : Int32) = i3 200 from rfl) (i3M (show (20 : Int32) = i3 20 from rfl) (rfl : i3 a1 = i3 a1))) (show (11 : Int32) = i3 11 from rfl)) (by omega) (by omega) (by omega)) ?_
      obtain ⟨Z66, hZ66⟩ := zx (zu Z57 2 0 0 (211 + 20 * a1) a2)
      replace hP := zl_e hP hZ66
      have hZ66I := zI_u hZ57I hZ66 (lo := -1) (hi := 6) (by decide) (zs_200_11 (x := a1) (by omega) (by omega) (by omega)) (by omega) ⟨by decide, by decide⟩ (Or.inl (by decide))
      have t67 : Z66 2 0 0 102 = Z57 2 0 0 102 := zu_ne hZ66 (by omega)
      have t68 : Z66 2 0 0 100 = Z57 2 0 0 100 := zu_ne hZ66 (by omega)
      have t69 : Z66 2 0 0 1200 = Z57 2 0 0 1200 := zu_ne hZ66 (by omega)
      have t70 : Z66 2 0 0 1400 = Z57 2 0 0 1400 := zu_ne hZ66 (by omega)
      have t71 : Z66 2 0 0 1401 = Z57 2 0 0 1401 := zu_ne hZ66 (by omega)
      have t72 : Z66 2 0 0 3000 = Z57 2 0 0 3000 := zu_ne hZ66 (by omega)
      have t73 : Z66 2 0 0 3200 = Z57 2 0 0 3200 := zu_ne hZ66 (by omega)
      have t74 : Z66 2 0 0 3500 = Z57 2 0 0 3500 := zu_ne hZ66 (by omega)
      have hZ66K := zK_u hZ57K hZ66 (by decide)
      intro μ9 e9
      replace e9 := e9.trans (zm_wI (Z := Z57) (ν := ν) hZ66 (show ((0 : Nat) : Int) = 0 from rfl) (show ((0 : Nat) : Int) = 0 from rfl) (i3I (y := (211 + 20 * a1)) (i3A (i3A (show (200 : Int32) = i3 200 from rfl) (i3M (show (20 : Int32) = i3 20 from rfl) (rfl : i3 a1 = i3 a1))) (show (11 : Int32) = i3 11 from rfl)) (by omega) (by omega) (by omega)) (rfl : i3 a2 = i3 a2))
      subst e9
      exact zlV hP ⟨hZ66I, hZ66K, by omega, by omega, by omega, by omega, by omega, by omega, by omega, by omega⟩

/- yX12_rRoom -/
def zl_485_1s (x1 : Int) (x2 : Int) (x3 : Int) (x4 : Int) (x5 : Int) : Nat → qz_Z → Int → qz_Z × Int
  | 0, Z, x6 => (Z, x6)
  | m + 1, Z, x6 => (if 12 ≤ x6 then (Z, x6) else (zlet (zu Z 2 0 0 (1210 + 12 * x5 + x6) 0) (fun Z2 => zl_485_1s x1 x2 x3 x4 x5 m Z2 (x6 + 1))))
theorem sl_485_1s {s : zS} {Zs Z : qz_Z} {ν : qz_N} (hZ : zI s Z) (hK : zK [2] Zs Z) {x1 : Int} (gx1 : 1 ≤ x1 ∧ x1 ≤ 12) {x2 : Int} (gx2 : 0 ≤ x2 ∧ x2 ≤ 9) {x3 : Int} (gx3 : 0 ≤ x3 ∧ x3 ≤ 9) {x4 : Int} (gx4 : 18 ≤ x4 ∧ x4 ≤ 18) {x5 : Int} (gx5 : 0 ≤ x5 ∧ x5 ≤ 6) {x6 : Int} (gx6 : 0 ≤ x6 ∧ x6 ≤ 12) {kc0 : Int} {kc1 : Int} {kc2 : Int} {kc3 : Int} {kc4 : Int} {kc5 : Int} {kc6 : Int} {kc7 : Int} (gr0 : Z 2 0 0 102 = kc0) (gr1 : Z 2 0 0 100 = kc1) (gr2 : Z 2 0 0 1200 = kc2) (gr3 : Z 2 0 0 1400 = kc3) (gr4 : Z 2 0 0 1401 = kc4) (gr5 : Z 2 0 0 3000 = kc5) (gr6 : Z 2 0 0 3200 = kc6) (gr7 : Z 2 0 0 3500 = kc7) {k : wz_K} {R : wz_R} {L : qz_L} (hL : qz_fg [true, true, true, true, true, true, true] L = [some (.inr (.inr (some (1, 0, 0)))), some (.inl (i3 x1)), some (.inl (i3 x2)), some (.inl (i3 x3)), some (.inl (i3 x4)), some (.inl (i3 x5)), some (.inl (i3 x6))]) {T : qz_Z × Int} (hP : zE T (zl_485_1s x1 x2 x3 x4 x5 ((12 - x6).toNat + 1) Z x6)) (hk : ∀ (L9 : qz_L) (Z9 : qz_Z) (yx6 : Int), qz_fg [true, true, true, true, true, true, false] L9 = [some (.inr (.inr (some (1, 0, 0)))), some (.inl (i3 x1)), some (.inl (i3 x2)), some (.inl (i3 x3)), some (.inl (i3 x4)), some (.inl (i3 x5)), none] → zI s Z9 → zK [2] Zs Z9 → (0 ≤ yx6 ∧ yx6 ≤ 12) → (Z9 2 0 0 102 = kc0) → (Z9 2 0 0 100 = kc1) → (Z9 2 0 0 1200 = kc2) → (Z9 2 0 0 1400 = kc3) → (Z9 2 0 0 1401 = kc4) → (Z9 2 0 0 3000 = kc5) → (Z9 2 0 0 3200 = kc6) → (Z9 2 0 0 3500 = kc7) → zE T ((Z9, yx6)) → k 0 (L9, [], zm Z9 ν)) : wz_loop qb_485_1 65536 k R (L, [], zm Z ν) := by
  refine wz_lp sb_485_1 (fun m x => ∃ Z : qz_Z, ∃ x6 : Int, qz_fg [true, true, true, true, true, true, true] x.1 = [some (.inr (.inr (some (1, 0, 0)))), some (.inl (i3 x1)), some (.inl (i3 x2)), some (.inl (i3 x3)), some (.inl (i3 x4)), some (.inl (i3 x5)), some (.inl (i3 x6))] ∧ x.2 = ([], zm Z ν) ∧ zI s Z ∧ zK [2] Zs Z ∧ m = (12 - x6).toNat ∧ (0 ≤ x6 ∧ x6 ≤ 12) ∧ (Z 2 0 0 102 = kc0) ∧ (Z 2 0 0 100 = kc1) ∧ (Z 2 0 0 1200 = kc2) ∧ (Z 2 0 0 1400 = kc3) ∧ (Z 2 0 0 1401 = kc4) ∧ (Z 2 0 0 3000 = kc5) ∧ (Z 2 0 0 3200 = kc6) ∧ (Z 2 0 0 3500 = kc7) ∧ zE T (zl_485_1s x1 x2 x3 x4 x5 (m + 1) Z x6)) ?_ 65536 ((12 - x6).toNat) _ (by omega) ⟨Z, x6, hL, rfl, hZ, hK, rfl, gx6, gr0, gr1, gr2, gr3, gr4, gr5, gr6, gr7, hP⟩
  clear hP gr0 gr1 gr2 gr3 gr4 gr5 gr6 gr7 gx6 hZ hK hL
  clear x6
  clear Z
  rintro m ⟨L, st, μ⟩ ⟨Z, x6, hL, hx, hZ, hK, hm, gx6, gr0, gr1, gr2, gr3, gr4, gr5, gr6, gr7, hP⟩
  cases hx
  refine fb_485_1 (i3 x1) (i3 x2) (i3 x3) (i3 x4) (i3 x5) (i3 x6) _ _ _ _ hL ?_
  refine wz_br (i3Le (show (12 : Int32) = i3 12 from rfl) (rfl : i3 x6 = i3 x6) (by omega) (by omega) (by omega) (by omega)) (fun h1 => ?_) (fun h1 => ?_)
  · replace hP := zE_p hP h1
    exact hk _ _ _ (zconso rfl (zconso (zvo (rfl : i3 x1 = i3 x1)) (zconso (zvo (rfl : i3 x2 = i3 x2)) (zconso (zvo (rfl : i3 x3 = i3 x3)) (zconso (zvo (rfl : i3 x4 = i3 x4)) (zconso (zvo (rfl : i3 x5 = i3 x5)) (zconso rfl rfl))))))) hZ hK (by omega) (by omega) (by omega) (by omega) (by omega) (by omega) (by omega) (by omega) (by omega) hP
  · replace hP := zE_n hP h1
    refine wz_i0 (i3O (n := 4400) (i3A (i3A (show (1210 : Int32) = i3 1210 from rfl) (i3M (show (12 : Int32) = i3 12 from rfl) (rfl : i3 x5 = i3 x5))) (rfl : i3 x6 = i3 x6)) (by omega) (by omega) (by omega)) ?_
    obtain ⟨Z2, hZ2⟩ := zx (zu Z 2 0 0 (1210 + 12 * x5 + x6) 0)
    replace hP := zl_e hP hZ2
    have hZ2I := zI_0 hZ hZ2 (by decide) (Or.inl (by decide))
    have t3 : Z2 2 0 0 102 = Z 2 0 0 102 := zu_ne hZ2 (by omega)
    have t4 : Z2 2 0 0 100 = Z 2 0 0 100 := zu_ne hZ2 (by omega)
    have t5 : Z2 2 0 0 1200 = Z 2 0 0 1200 := zu_ne hZ2 (by omega)
    have t6 : Z2 2 0 0 1400 = Z 2 0 0 1400 := zu_ne hZ2 (by omega)
    have t7 : Z2 2 0 0 1401 = Z 2 0 0 1401 := zu_ne hZ2 (by omega)
    have t8 : Z2 2 0 0 3000 = Z 2 0 0 3000 := zu_ne hZ2 (by omega)
    have t9 : Z2 2 0 0 3200 = Z 2 0 0 3200 := zu_ne hZ2 (by omega)
    have t10 : Z2 2 0 0 3500 = Z 2 0 0 3500 := zu_ne hZ2 (by omega)
    have hZ2K := zK_u hK hZ2 (by decide)
    intro μ9 e9
    replace e9 := e9.trans (zm_wI (Z := Z) (ν := ν) hZ2 (show ((0 : Nat) : Int) = 0 from rfl) (show ((0 : Nat) : Int) = 0 from rfl) (i3I (y := (1210 + 12 * x5 + x6)) (i3A (i3A (show (1210 : Int32) = i3 1210 from rfl) (i3M (show (12 : Int32) = i3 12 from rfl) (rfl : i3 x5 = i3 x5))) (rfl : i3 x6 = i3 x6)) (by omega) (by omega) (by omega)) (show (0 : Int32) = i3 0 from rfl))
    subst e9
    obtain ⟨m2, rfl⟩ : ∃ m2, m = m2 + 1 := ⟨m - 1, by omega⟩
    exact wz_k1 ⟨m2, by omega, Z2, (x6 + 1), (zconso rfl (zconso (zvo (rfl : i3 x1 = i3 x1)) (zconso (zvo (rfl : i3 x2 = i3 x2)) (zconso (zvo (rfl : i3 x3 = i3 x3)) (zconso (zvo (rfl : i3 x4 = i3 x4)) (zconso (zvo (rfl : i3 x5 = i3 x5)) (zconso (zvo (i3A (rfl : i3 x6 = i3 x6) (show (1 : Int32) = i3 1 from rfl))) rfl))))))), rfl, hZ2I, hZ2K, by omega, by omega, by omega, by omega, by omega, by omega, by omega, by omega, by omega, by omega,  hP⟩

/- yX12_rRoom -/
def zf_485 (Z : qz_Z) (a1 : Int) (a2 : Int) (a3 : Int) (a4 : Int) : qz_Z × Int := (zlet2 (zl_485_1s a1 a2 a3 a4 (Z 2 0 0 1200) 13 Z 0) (fun Z3 y2 => (zlet (zu Z3 2 0 0 (1210 + 12 * (Z 2 0 0 1200)) a1) (fun Z5 => (zlet (zu Z5 2 0 0 (1211 + 12 * (Z 2 0 0 1200)) a2) (fun Z14 => (zlet (zu Z14 2 0 0 (1212 + 12 * (Z 2 0 0 1200)) a3) (fun Z23 => (zlet (zu Z23 2 0 0 (1213 + 12 * (Z 2 0 0 1200)) 18) (fun Z32 => (zlet (zu Z32 2 0 0 (1215 + 12 * (Z 2 0 0 1200)) a4) (fun Z41 => (zlet (zu Z41 2 0 0 1200 ((Z41 2 0 0 1200) + 1)) (fun Z51 => (Z51, (Z 2 0 0 1200))))))))))))))))
theorem sp_485 {s : zS} {Z : qz_Z} {ν : qz_N} (hZ : zI s Z) {a1 : Int} (ga1 : 1 ≤ a1 ∧ a1 ≤ 12) {a2 : Int} (ga2 : 0 ≤ a2 ∧ a2 ≤ 9) {a3 : Int} (ga3 : 0 ≤ a3 ∧ a3 ≤ 9) {a4 : Int} (ga4 : 18 ≤ a4 ∧ a4 ≤ 18) (gx0 : Z 2 0 0 1200 ≤ 5) : ∃ (Z1 : qz_Z) (P : Int), (Z1, P) = zf_485 Z a1 a2 a3 a4 ∧ (qf_485 [.inr (.inr (some (1, 0, 0))), .inl (i3 a1), .inl (i3 a2), .inl (i3 a3), .inl (i3 a4)] (zm Z ν) = some (zm Z1 ν, .inl (some (.inl (i3 P)))) ∧ zI s Z1 ∧ zK [2] Z Z1 ∧ 0 ≤ P ∧ P ≤ 6 ∧ Z1 2 0 0 1200 = Z 2 0 0 1200 + 1 ∧ P = Z 2 0 0 1200 ∧ Z1 2 0 0 102 = Z 2 0 0 102 ∧ Z1 2 0 0 100 = Z 2 0 0 100 ∧ Z1 2 0 0 1400 = Z 2 0 0 1400 ∧ Z1 2 0 0 1401 = Z 2 0 0 1401 ∧ Z1 2 0 0 3000 = Z 2 0 0 3000 ∧ Z1 2 0 0 3200 = Z 2 0 0 3200 ∧ Z1 2 0 0 3500 = Z 2 0 0 3500) := by
  obtain ⟨P, hP⟩ := zx (zf_485 Z a1 a2 a3 a4)
  refine zc_W (Q := fun Z1 P => zI s Z1 ∧ zK [2] Z Z1 ∧ 0 ≤ P ∧ P ≤ 6 ∧ Z1 2 0 0 1200 = Z 2 0 0 1200 + 1 ∧ P = Z 2 0 0 1200 ∧ Z1 2 0 0 102 = Z 2 0 0 102 ∧ Z1 2 0 0 100 = Z 2 0 0 100 ∧ Z1 2 0 0 1400 = Z 2 0 0 1400 ∧ Z1 2 0 0 1401 = Z 2 0 0 1401 ∧ Z1 2 0 0 3000 = Z 2 0 0 3000 ∧ Z1 2 0 0 3200 = Z 2 0 0 3200 ∧ Z1 2 0 0 3500 = Z 2 0 0 3500) hP (fw_485 (i3 a1) (i3 a2) (i3 a3) (i3 a4) _ _ ?_)
  replace hP : zE P (zf_485 Z a1 a2 a3 a4) := hP
  unfold zf_485 at hP
  have r1 := zI_k hZ 2 0 0 1200 (lo := 0) (hi := 6) (by decide) rfl
  refine sl_485_1s (ν := ν) hZ zK_r (x1 := a1) (by omega) (x2 := a2) (by omega) (x3 := a3) (by omega) (x4 := a4) (by omega) (x5 := (Z 2 0 0 1200)) (by omega) (x6 := 0) (by omega) (kc7 := Z 2 0 0 3500) (kc6 := Z 2 0 0 3200) (kc5 := Z 2 0 0 3000) (kc4 := Z 2 0 0 1401) (kc3 := Z 2 0 0 1400) (kc2 := Z 2 0 0 1200) (kc1 := Z 2 0 0 100) (kc0 := Z 2 0 0 102) (by omega) (by omega) (by omega) (by omega) (by omega) (by omega) (by omega) (by omega) (zconso rfl (zconso (zvo (rfl : i3 a1 = i3 a1)) (zconso (zvo (rfl : i3 a2 = i3 a2)) (zconso (zvo (rfl : i3 a3 = i3 a3)) (zconso (zvo (rfl : i3 a4 = i3 a4)) (zconso (zvo (zm_rd (Z := Z) (ν := ν) (k := 2) (show ((0 : Nat) : Int) = 0 from rfl) (show ((0 : Nat) : Int) = 0 from rfl) (show ((1200 : Nat) : Int) = 1200 from rfl))) (zconso (zvo (show (0 : Int32) = i3 0 from rfl)) rfl))))))) rfl ?_
  intro L4 Z3 y2 hL4 hZ3I kZ3 gy2 gL4_0 gL4_1 gL4_2 gL4_3 gL4_4 gL4_5 gL4_6 gL4_7 q9
  replace hP := zl_e2 hP (Eq.symm q9)
  clear q9
  have hZ3K : zK [2] Z Z3 := zK_t zK_r kZ3 (by decide)
  refine fc_485_2 (i3 a1) (i3 a2) (i3 a3) (i3 a4) (i3 (Z 2 0 0 1200)) _ _ _ _ hL4 ?_
  refine wz_i0 (i3O (n := 4400) (i3A (i3A (show (1210 : Int32) = i3 1210 from rfl) (i3M (show (12 : Int32) = i3 12 from rfl) (rfl : i3 (Z 2 0 0 1200) = i3 (Z 2 0 0 1200)))) (show (0 : Int32) = i3 0 from rfl)) (by omega) (by omega) (by omega)) ?_
  obtain ⟨Z5, hZ5⟩ := zx (zu Z3 2 0 0 (1210 + 12 * (Z 2 0 0 1200)) a1)
  replace hP := zl_e hP hZ5
  have hZ5I := zI_u hZ3I hZ5 (lo := 0) (hi := 12) (by decide) (zs_1210_0 (x := (Z 2 0 0 1200)) (by omega) (by omega) (by omega)) (by omega) ⟨by decide, by decide⟩ (Or.inl (by decide))
  have t6 : Z5 2 0 0 102 = Z3 2 0 0 102 := zu_ne hZ5 (by omega)
  have t7 : Z5 2 0 0 100 = Z3 2 0 0 100 := zu_ne hZ5 (by omega)
  have t8 : Z5 2 0 0 1200 = Z3 2 0 0 1200 := zu_ne hZ5 (by omega)
  have t9 : Z5 2 0 0 1400 = Z3 2 0 0 1400 := zu_ne hZ5 (by omega)
  have t10 : Z5 2 0 0 1401 = Z3 2 0 0 1401 := zu_ne hZ5 (by omega)
  have t11 : Z5 2 0 0 3000 = Z3 2 0 0 3000 := zu_ne hZ5 (by omega)
  have t12 : Z5 2 0 0 3200 = Z3 2 0 0 3200 := zu_ne hZ5 (by omega)
  have t13 : Z5 2 0 0 3500 = Z3 2 0 0 3500 := zu_ne hZ5 (by omega)
  have hZ5K := zK_u hZ3K hZ5 (by decide)
  intro μ9 e9
  replace e9 := e9.trans (zm_wI (Z := Z3) (ν := ν) hZ5 (show ((0 : Nat) : Int) = 0 from rfl) (show ((0 : Nat) : Int) = 0 from rfl) (i3I (y := (1210 + 12 * (Z 2 0 0 1200))) (i3A (i3A (show (1210 : Int32) = i3 1210 from rfl) (i3M (show (12 : Int32) = i3 12 from rfl) (rfl : i3 (Z 2 0 0 1200) = i3 (Z 2 0 0 1200)))) (show (0 : Int32) = i3 0 from rfl)) (by omega) (by omega) (by omega)) (rfl : i3 a1 = i3 a1))
  subst e9
  refine wz_i0 (i3O (n := 4400) (i3A (i3A (show (1210 : Int32) = i3 1210 from rfl) (i3M (show (12 : Int32) = i3 12 from rfl) (rfl : i3 (Z 2 0 0 1200) = i3 (Z 2 0 0 1200)))) (show (1 : Int32) = i3 1 from rfl)) (by omega) (by omega) (by omega)) ?_
  obtain ⟨Z14, hZ14⟩ := zx (zu Z5 2 0 0 (1211 + 12 * (Z 2 0 0 1200)) a2)
  replace hP := zl_e hP hZ14
  have hZ14I := zI_u hZ5I hZ14 (lo := 0) (hi := 9) (by decide) (zs_1210_1 (x := (Z 2 0 0 1200)) (by omega) (by omega) (by omega)) (by omega) ⟨by decide, by decide⟩ (Or.inl (by decide))
  have t15 : Z14 2 0 0 102 = Z5 2 0 0 102 := zu_ne hZ14 (by omega)
  have t16 : Z14 2 0 0 100 = Z5 2 0 0 100 := zu_ne hZ14 (by omega)
  have t17 : Z14 2 0 0 1200 = Z5 2 0 0 1200 := zu_ne hZ14 (by omega)
  have t18 : Z14 2 0 0 1400 = Z5 2 0 0 1400 := zu_ne hZ14 (by omega)
  have t19 : Z14 2 0 0 1401 = Z5 2 0 0 1401 := zu_ne hZ14 (by omega)
  have t20 : Z14 2 0 0 3000 = Z5 2 0 0 3000 := zu_ne hZ14 (by omega)
  have t21 : Z14 2 0 0 3200 = Z5 2 0 0 3200 := zu_ne hZ14 (by omega)
  have t22 : Z14 2 0 0 3500 = Z5 2 0 0 3500 := zu_ne hZ14 (by omega)
  have hZ14K := zK_u hZ5K hZ14 (by decide)
  intro μ9 e9
  replace e9 := e9.trans (zm_wI (Z := Z5) (ν := ν) hZ14 (show ((0 : Nat) : Int) = 0 from rfl) (show ((0 : Nat) : Int) = 0 from rfl) (i3I (y := (1211 + 12 * (Z 2 0 0 1200))) (i3A (i3A (show (1210 : Int32) = i3 1210 from rfl) (i3M (show (12 : Int32) = i3 12 from rfl) (rfl : i3 (Z 2 0 0 1200) = i3 (Z 2 0 0 1200)))) (show (1 : Int32) = i3 1 from rfl)) (by omega) (by omega) (by omega)) (rfl : i3 a2 = i3 a2))
  subst e9
  refine wz_i0 (i3O (n := 4400) (i3A (i3A (show (1210 : Int32) = i3 1210 from rfl) (i3M (show (12 : Int32) = i3 12 from rfl) (rfl : i3 (Z 2 0 0 1200) = i3 (Z 2 0 0 1200)))) (show (2 : Int32) = i3 2 from rfl)) (by omega) (by omega) (by omega)) ?_
  obtain ⟨Z23, hZ23⟩ := zx (zu Z14 2 0 0 (1212 + 12 * (Z 2 0 0 1200)) a3)
  replace hP := zl_e hP hZ23
  have hZ23I := zI_u hZ14I hZ23 (lo := 0) (hi := 9) (by decide) (zs_1210_2 (x := (Z 2 0 0 1200)) (by omega) (by omega) (by omega)) (by omega) ⟨by decide, by decide⟩ (Or.inl (by decide))
  have t24 : Z23 2 0 0 102 = Z14 2 0 0 102 := zu_ne hZ23 (by omega)
  have t25 : Z23 2 0 0 100 = Z14 2 0 0 100 := zu_ne hZ23 (by omega)
  have t26 : Z23 2 0 0 1200 = Z14 2 0 0 1200 := zu_ne hZ23 (by omega)
  have t27 : Z23 2 0 0 1400 = Z14 2 0 0 1400 := zu_ne hZ23 (by omega)
  have t28 : Z23 2 0 0 1401 = Z14 2 0 0 1401 := zu_ne hZ23 (by omega)
  have t29 : Z23 2 0 0 3000 = Z14 2 0 0 3000 := zu_ne hZ23 (by omega)
  have t30 : Z23 2 0 0 3200 = Z14 2 0 0 3200 := zu_ne hZ23 (by omega)
  have t31 : Z23 2 0 0 3500 = Z14 2 0 0 3500 := zu_ne hZ23 (by omega)
  have hZ23K := zK_u hZ14K hZ23 (by decide)
  intro μ9 e9
  replace e9 := e9.trans (zm_wI (Z := Z14) (ν := ν) hZ23 (show ((0 : Nat) : Int) = 0 from rfl) (show ((0 : Nat) : Int) = 0 from rfl) (i3I (y := (1212 + 12 * (Z 2 0 0 1200))) (i3A (i3A (show (1210 : Int32) = i3 1210 from rfl) (i3M (show (12 : Int32) = i3 12 from rfl) (rfl : i3 (Z 2 0 0 1200) = i3 (Z 2 0 0 1200)))) (show (2 : Int32) = i3 2 from rfl)) (by omega) (by omega) (by omega)) (rfl : i3 a3 = i3 a3))
  subst e9
  refine wz_i0 (i3O (n := 4400) (i3A (i3A (show (1210 : Int32) = i3 1210 from rfl) (i3M (show (12 : Int32) = i3 12 from rfl) (rfl : i3 (Z 2 0 0 1200) = i3 (Z 2 0 0 1200)))) (show (3 : Int32) = i3 3 from rfl)) (by omega) (by omega) (by omega)) ?_
  obtain ⟨Z32, hZ32⟩ := zx (zu Z23 2 0 0 (1213 + 12 * (Z 2 0 0 1200)) 18)
  replace hP := zl_e hP hZ32
  have hZ32I := zI_u hZ23I hZ32 (lo := 0) (hi := 40) (by decide) (zs_1210_3 (x := (Z 2 0 0 1200)) (by omega) (by omega) (by omega)) (by omega) ⟨by decide, by decide⟩ (Or.inl (by decide))
  have t33 : Z32 2 0 0 102 = Z23 2 0 0 102 := zu_ne hZ32 (by omega)
  have t34 : Z32 2 0 0 100 = Z23 2 0 0 100 := zu_ne hZ32 (by omega)
  have t35 : Z32 2 0 0 1200 = Z23 2 0 0 1200 := zu_ne hZ32 (by omega)
  have t36 : Z32 2 0 0 1400 = Z23 2 0 0 1400 := zu_ne hZ32 (by omega)
  have t37 : Z32 2 0 0 1401 = Z23 2 0 0 1401 := zu_ne hZ32 (by omega)
  have t38 : Z32 2 0 0 3000 = Z23 2 0 0 3000 := zu_ne hZ32 (by omega)
  have t39 : Z32 2 0 0 3200 = Z23 2 0 0 3200 := zu_ne hZ32 (by omega)
  have t40 : Z32 2 0 0 3500 = Z23 2 0 0 3500 := zu_ne hZ32 (by omega)
  have hZ32K := zK_u hZ23K hZ32 (by decide)
  intro μ9 e9
  replace e9 := e9.trans (zm_wI (Z := Z23) (ν := ν) hZ32 (show ((0 : Nat) : Int) = 0 from rfl) (show ((0 : Nat) : Int) = 0 from rfl) (i3I (y := (1213 + 12 * (Z 2 0 0 1200))) (i3A (i3A (show (1210 : Int32) = i3 1210 from rfl) (i3M (show (12 : Int32) = i3 12 from rfl) (rfl : i3 (Z 2 0 0 1200) = i3 (Z 2 0 0 1200)))) (show (3 : Int32) = i3 3 from rfl)) (by omega) (by omega) (by omega)) (show (18 : Int32) = i3 18 from rfl))
  subst e9
  refine wz_i0 (i3O (n := 4400) (i3A (i3A (show (1210 : Int32) = i3 1210 from rfl) (i3M (show (12 : Int32) = i3 12 from rfl) (rfl : i3 (Z 2 0 0 1200) = i3 (Z 2 0 0 1200)))) (show (5 : Int32) = i3 5 from rfl)) (by omega) (by omega) (by omega)) ?_
  obtain ⟨Z41, hZ41⟩ := zx (zu Z32 2 0 0 (1215 + 12 * (Z 2 0 0 1200)) a4)
  replace hP := zl_e hP hZ41
  have hZ41I := zI_u hZ32I hZ41 (lo := 0) (hi := 40) (by decide) (zs_1210_5 (x := (Z 2 0 0 1200)) (by omega) (by omega) (by omega)) (by omega) ⟨by decide, by decide⟩ (Or.inl (by decide))
  have t42 : Z41 2 0 0 102 = Z32 2 0 0 102 := zu_ne hZ41 (by omega)
  have t43 : Z41 2 0 0 100 = Z32 2 0 0 100 := zu_ne hZ41 (by omega)
  have t44 : Z41 2 0 0 1200 = Z32 2 0 0 1200 := zu_ne hZ41 (by omega)
  have t45 : Z41 2 0 0 1400 = Z32 2 0 0 1400 := zu_ne hZ41 (by omega)
  have t46 : Z41 2 0 0 1401 = Z32 2 0 0 1401 := zu_ne hZ41 (by omega)
  have t47 : Z41 2 0 0 3000 = Z32 2 0 0 3000 := zu_ne hZ41 (by omega)
  have t48 : Z41 2 0 0 3200 = Z32 2 0 0 3200 := zu_ne hZ41 (by omega)
  have t49 : Z41 2 0 0 3500 = Z32 2 0 0 3500 := zu_ne hZ41 (by omega)
  have hZ41K := zK_u hZ32K hZ41 (by decide)
  intro μ9 e9
  replace e9 := e9.trans (zm_wI (Z := Z32) (ν := ν) hZ41 (show ((0 : Nat) : Int) = 0 from rfl) (show ((0 : Nat) : Int) = 0 from rfl) (i3I (y := (1215 + 12 * (Z 2 0 0 1200))) (i3A (i3A (show (1210 : Int32) = i3 1210 from rfl) (i3M (show (12 : Int32) = i3 12 from rfl) (rfl : i3 (Z 2 0 0 1200) = i3 (Z 2 0 0 1200)))) (show (5 : Int32) = i3 5 from rfl)) (by omega) (by omega) (by omega)) (rfl : i3 a4 = i3 a4))
  subst e9
  have r50 := zI_k hZ41I 2 0 0 1200 (lo := 0) (hi := 6) (by decide) rfl
  obtain ⟨Z51, hZ51⟩ := zx (zu Z41 2 0 0 1200 ((Z41 2 0 0 1200) + 1))
  replace hP := zl_e hP hZ51
  have hZ51I := zI_u hZ41I hZ51 (lo := 0) (hi := 6) (by decide) rfl (by omega) ⟨by decide, by decide⟩ (Or.inl (by decide))
  have t52 : Z51 2 0 0 102 = Z41 2 0 0 102 := zu_ne hZ51 (fun q => absurd q.2.2.2 (by decide))
  have t53 : Z51 2 0 0 100 = Z41 2 0 0 100 := zu_ne hZ51 (fun q => absurd q.2.2.2 (by decide))
  have t54 := zu_at hZ51
  have t55 : Z51 2 0 0 1400 = Z41 2 0 0 1400 := zu_ne hZ51 (fun q => absurd q.2.2.2 (by decide))
  have t56 : Z51 2 0 0 1401 = Z41 2 0 0 1401 := zu_ne hZ51 (fun q => absurd q.2.2.2 (by decide))
  have t57 : Z51 2 0 0 3000 = Z41 2 0 0 3000 := zu_ne hZ51 (fun q => absurd q.2.2.2 (by decide))
  have t58 : Z51 2 0 0 3200 = Z41 2 0 0 3200 := zu_ne hZ51 (fun q => absurd q.2.2.2 (by decide))
  have t59 : Z51 2 0 0 3500 = Z41 2 0 0 3500 := zu_ne hZ51 (fun q => absurd q.2.2.2 (by decide))
  have hZ51K := zK_u hZ41K hZ51 (by decide)
  intro μ9 e9
  replace e9 := e9.trans (zm_wI (Z := Z41) (ν := ν) hZ51 (show ((0 : Nat) : Int) = 0 from rfl) (show ((0 : Nat) : Int) = 0 from rfl) (show ((1200 : Nat) : Int) = 1200 from rfl) (i3A (zm_rd (Z := Z41) (ν := ν) (k := 2) (show ((0 : Nat) : Int) = 0 from rfl) (show ((0 : Nat) : Int) = 0 from rfl) (show ((1200 : Nat) : Int) = 1200 from rfl)) (show (1 : Int32) = i3 1 from rfl)))
  subst e9
  exact zlW hP (rfl : i3 (Z 2 0 0 1200) = i3 (Z 2 0 0 1200)) ⟨hZ51I, hZ51K, by omega, by omega, by omega, by omega, by omega, by omega, by omega, by omega, by omega, by omega, by omega⟩

/- yX12_rStanding -/
def zl_488_1 (x1 : Int) : Nat → qz_Z → Int → Int → Int × Int
  | 0, Z, x2, x3 => (x2, x3)
  | m + 1, Z, x2, x3 => (if (Z 2 0 0 102) ≤ x3 then (x2, x3) else (if 1 < (Z 2 0 0 (210 + 20 * x3)) then zl_488_1 x1 m Z (x2 + 0) (x3 + 1) else (if (Z 2 0 0 (211 + 20 * x3)) ≠ x1 then zl_488_1 x1 m Z (x2 + 0) (x3 + 1) else zl_488_1 x1 m Z (x2 + 1) (x3 + 1))))
theorem sl_488_1 {s : zS} {Z : qz_Z} {ν : qz_N} (hZ : zI s Z) {x1 : Int} (gx1 : 0 ≤ x1 ∧ x1 ≤ 3) {x2 : Int} (gx2 : 0 ≤ x2 ∧ x2 ≤ 48) {x3 : Int} (gx3 : 0 ≤ x3 ∧ x3 ≤ 48) (gr0 : x2 ≤ x3) {k : wz_K} {R : wz_R} {L : qz_L} (hL : qz_fg [true, true, true, true] L = [some (.inr (.inr (some (1, 0, 0)))), some (.inl (i3 x1)), some (.inl (i3 x2)), some (.inl (i3 x3))]) {T : Int × Int} (hP : zE T (zl_488_1 x1 ((48 - x3).toNat + 1) Z x2 x3)) (hk : ∀ (L9 : qz_L) (yx2 yx3 : Int), qz_fg [false, false, true, false] L9 = [none, none, some (.inl (i3 yx2)), none] → (0 ≤ yx2 ∧ yx2 ≤ 48) → (0 ≤ yx3 ∧ yx3 ≤ 48) → (yx2 ≤ yx3) → zE T ((yx2, yx3)) → k 0 (L9, [], zm Z ν)) : wz_loop qb_488_1 65536 k R (L, [], zm Z ν) := by
  refine wz_lp sb_488_1 (fun m x => ∃ x2 : Int, ∃ x3 : Int, qz_fg [true, true, true, true] x.1 = [some (.inr (.inr (some (1, 0, 0)))), some (.inl (i3 x1)), some (.inl (i3 x2)), some (.inl (i3 x3))] ∧ x.2 = ([], zm Z ν) ∧ m = (48 - x3).toNat ∧ (0 ≤ x2 ∧ x2 ≤ 48) ∧ (0 ≤ x3 ∧ x3 ≤ 48) ∧ (x2 ≤ x3) ∧ zE T (zl_488_1 x1 (m + 1) Z x2 x3)) ?_ 65536 ((48 - x3).toNat) _ (by omega) ⟨x2, x3, hL, rfl, rfl, gx2, gx3, gr0, hP⟩
  clear hP gr0 gx2 gx3 hL
  clear x2 x3
  rintro m ⟨L, st, μ⟩ ⟨x2, x3, hL, hx, hm, gx2, gx3, gr0, hP⟩
  cases hx
  refine fb_488_1 (i3 x1) (i3 x2) (i3 x3) _ _ _ _ hL ?_
  have r1 := zI_k hZ 2 0 0 102 (lo := 0) (hi := 48) (by decide) rfl
  refine wz_br (i3Le (zm_rd (Z := Z) (ν := ν) (k := 2) (show ((0 : Nat) : Int) = 0 from rfl) (show ((0 : Nat) : Int) = 0 from rfl) (show ((102 : Nat) : Int) = 102 from rfl)) (rfl : i3 x3 = i3 x3) (by omega) (by omega) (by omega) (by omega)) (fun h2 => ?_) (fun h2 => ?_)
  · replace hP := zE_p hP h2
    exact hk _ _ _ (zconso rfl (zconso rfl (zconso (zvo (rfl : i3 x2 = i3 x2)) (zconso rfl rfl))))  (by omega) (by omega) (by omega) hP
  · replace hP := zE_n hP h2
    refine wz_i0 (i3O (n := 4400) (i3A (i3A (show (200 : Int32) = i3 200 from rfl) (i3M (show (20 : Int32) = i3 20 from rfl) (rfl : i3 x3 = i3 x3))) (show (10 : Int32) = i3 10 from rfl)) (by omega) (by omega) (by omega)) ?_
    have r3 := zI_k hZ 2 0 0 (210 + 20 * x3) (lo := 0) (hi := 4) (by decide) (zs_200_10 (x := x3) (by omega) (by omega) (by omega))
    refine wz_br (i3L (show (1 : Int32) = i3 1 from rfl) (zm_rd (Z := Z) (ν := ν) (k := 2) (show ((0 : Nat) : Int) = 0 from rfl) (show ((0 : Nat) : Int) = 0 from rfl) (i3I (y := (210 + 20 * x3)) (i3A (i3A (show (200 : Int32) = i3 200 from rfl) (i3M (show (20 : Int32) = i3 20 from rfl) (rfl : i3 x3 = i3 x3))) (show (10 : Int32) = i3 10 from rfl)) (by omega) (by omega) (by omega))) (by omega) (by omega) (by omega) (by omega)) (fun h4 => ?_) (fun h4 => ?_)
    · replace hP := zE_p hP h4
      obtain ⟨m2, rfl⟩ : ∃ m2, m = m2 + 1 := ⟨m - 1, by omega⟩
      exact wz_k1 ⟨m2, by omega, (x2 + 0), (x3 + 1), (zconso rfl (zconso (zvo (rfl : i3 x1 = i3 x1)) (zconso (zvo (i3A (rfl : i3 x2 = i3 x2) (show (0 : Int32) = i3 0 from rfl))) (zconso (zvo (i3A (rfl : i3 x3 = i3 x3) (show (1 : Int32) = i3 1 from rfl))) rfl)))), rfl,  by omega, by omega, by omega, by omega,  hP⟩
    · replace hP := zE_n hP h4
      refine wz_i0 (i3O (n := 4400) (i3A (i3A (show (200 : Int32) = i3 200 from rfl) (i3M (show (20 : Int32) = i3 20 from rfl) (rfl : i3 x3 = i3 x3))) (show (11 : Int32) = i3 11 from rfl)) (by omega) (by omega) (by omega)) ?_
      have r5 := zI_k hZ 2 0 0 (211 + 20 * x3) (lo := -1) (hi := 6) (by decide) (zs_200_11 (x := x3) (by omega) (by omega) (by omega))
      refine wz_br (i3NE (zm_rd (Z := Z) (ν := ν) (k := 2) (show ((0 : Nat) : Int) = 0 from rfl) (show ((0 : Nat) : Int) = 0 from rfl) (i3I (y := (211 + 20 * x3)) (i3A (i3A (show (200 : Int32) = i3 200 from rfl) (i3M (show (20 : Int32) = i3 20 from rfl) (rfl : i3 x3 = i3 x3))) (show (11 : Int32) = i3 11 from rfl)) (by omega) (by omega) (by omega))) (rfl : i3 x1 = i3 x1) (by omega) (by omega) (by omega) (by omega)) (fun h6 => ?_) (fun h6 => ?_)
      · replace hP := zE_p hP h6
        obtain ⟨m2, rfl⟩ : ∃ m2, m = m2 + 1 := ⟨m - 1, by omega⟩
        exact wz_k1 ⟨m2, by omega, (x2 + 0), (x3 + 1), (zconso rfl (zconso (zvo (rfl : i3 x1 = i3 x1)) (zconso (zvo (i3A (rfl : i3 x2 = i3 x2) (show (0 : Int32) = i3 0 from rfl))) (zconso (zvo (i3A (rfl : i3 x3 = i3 x3) (show (1 : Int32) = i3 1 from rfl))) rfl)))), rfl,  by omega, by omega, by omega, by omega,  hP⟩
      · replace hP := zE_n hP h6
        obtain ⟨m2, rfl⟩ : ∃ m2, m = m2 + 1 := ⟨m - 1, by omega⟩
        exact wz_k1 ⟨m2, by omega, (x2 + 1), (x3 + 1), (zconso rfl (zconso (zvo (rfl : i3 x1 = i3 x1)) (zconso (zvo (i3A (rfl : i3 x2 = i3 x2) (show (1 : Int32) = i3 1 from rfl))) (zconso (zvo (i3A (rfl : i3 x3 = i3 x3) (show (1 : Int32) = i3 1 from rfl))) rfl)))), rfl,  by omega, by omega, by omega, by omega,  hP⟩

/- yX12_rStanding -/
def zf_488 (Z : qz_Z) (a1 : Int) : Int := (zlet2 (zl_488_1 a1 49 Z 0 0) (fun y1 y2 => y1))
theorem sp_488 {s : zS} {Z : qz_Z} {ν : qz_N} (hZ : zI s Z) {a1 : Int} (ga1 : 0 ≤ a1 ∧ a1 ≤ 3) : ∃ P : Int, P = zf_488 Z a1 ∧ (qf_488 [.inr (.inr (some (1, 0, 0))), .inl (i3 a1)] (zm Z ν) = some (zm Z ν, .inl (some (.inl (i3 P)))) ∧ 0 ≤ P ∧ P ≤ 48) := by
  obtain ⟨P, hP⟩ := zx (zf_488 Z a1)
  refine zc_R (Q := fun P => 0 ≤ P ∧ P ≤ 48) hP (fw_488 (i3 a1) _ _ ?_)
  replace hP : zE P (zf_488 Z a1) := hP
  unfold zf_488 at hP
  refine sl_488_1 (ν := ν) hZ (x1 := a1) (by omega) (x2 := 0) (by omega) (x3 := 0) (by omega) (by omega) (zconso rfl (zconso (zvo (rfl : i3 a1 = i3 a1)) (zconso (zvo (show (0 : Int32) = i3 0 from rfl)) (zconso (zvo (show (0 : Int32) = i3 0 from rfl)) rfl)))) rfl ?_
  intro L3 y1 y2 hL3 gy1 gy2 gL3_0 q9
  replace hP := zl_e2 hP (Eq.symm q9)
  clear q9
  refine fc_488_2 (i3 y1) _ _ _ _ hL3 ?_
  exact zlR hP (rfl : i3 y1 = i3 y1) ⟨by omega, by omega⟩

