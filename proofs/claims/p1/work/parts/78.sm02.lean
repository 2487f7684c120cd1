/-! a season told, m (printed by season.py) -/
/- yX12_rInto -/
def zf_472 (Z : qz_Z) (a1 : Int) (a2 : Int) : qz_Z := (if (Z 2 0 0 (211 + 20 * a1)) < 0 then (zlet (zu Z 2 0 0 (1216 + 12 * a2) (w3 ((Z 2 0 0 (1216 + 12 * a2)) + 1))) (fun Z5 => (zlet (zu Z5 2 0 0 (211 + 20 * a1) a2) (fun Z14 => Z14)))) else (if 5 < (Z 2 0 0 (211 + 20 * a1)) then (zlet (zu Z 2 0 0 (1216 + 12 * a2) (w3 ((Z 2 0 0 (1216 + 12 * a2)) + 1))) (fun Z26 => (zlet (zu Z26 2 0 0 (211 + 20 * a1) a2) (fun Z35 => Z35)))) else (zlet (zu Z 2 0 0 (1216 + 12 * (Z 2 0 0 (211 + 20 * a1))) (w3 ((Z 2 0 0 (1216 + 12 * (Z 2 0 0 (211 + 20 * a1)))) + 1))) (fun Z46 => (zlet (zu Z46 2 0 0 (1216 + 12 * a2) (w3 ((Z46 2 0 0 (1216 + 12 * a2)) + 1))) (fun Z57 => (zlet (zu Z57 2 0 0 (211 + 20 * a1) a2) (fun Z66 => Z66))))))))
theorem sp_472 {s : zS} {Z : qz_Z} {ν : qz_N} (hZ : zI s Z) {a1 : Int} (ga1 : 0 ≤ a1 ∧ a1 ≤ 47) {a2 : Int} (ga2 : 0 ≤ a2 ∧ a2 ≤ 3) : ∃ P : qz_Z, P = zf_472 Z a1 a2 ∧ (qf_472 [.inr (.inr (some (1, 0, 0))), .inl (i3 a1), .inl (i3 a2)] (zm Z ν) = some (zm P ν, .inl none) ∧ zI s P ∧ zK [2] Z P ∧ P 2 0 0 102 = Z 2 0 0 102 ∧ P 2 0 0 100 = Z 2 0 0 100 ∧ P 2 0 0 1200 = Z 2 0 0 1200 ∧ P 2 0 0 1400 = Z 2 0 0 1400 ∧ P 2 0 0 1401 = Z 2 0 0 1401 ∧ P 2 0 0 3000 = Z 2 0 0 3000 ∧ P 2 0 0 3200 = Z 2 0 0 3200 ∧ P 2 0 0 3500 = Z 2 0 0 3500) := by
  obtain ⟨P, hP⟩ := zx (zf_472 Z a1 a2)
  refine zc_V (Q := fun P => zI s P ∧ zK [2] Z P ∧ P 2 0 0 102 = Z 2 0 0 102 ∧ P 2 0 0 100 = Z 2 0 0 100 ∧ P 2 0 0 1200 = Z 2 0 0 1200 ∧ P 2 0 0 1400 = Z 2 0 0 1400 ∧ P 2 0 0 1401 = Z 2 0 0 1401 ∧ P 2 0 0 3000 = Z 2 0 0 3000 ∧ P 2 0 0 3200 = Z 2 0 0 3200 ∧ P 2 0 0 3500 = Z 2 0 0 3500) hP (fw_472 (i3 a1) (i3 a2) _ _ ?_)
  replace hP : zE P (zf_472 Z a1 a2) := hP
  unfold zf_472 at hP
  refine wz_i0 (i3O (n := 4400) (i3A (i3A (show (200 : Int32) = i3 200 from rfl) (i3M (show (20 : Int32) = i3 20 from rfl) (rfl : i3 a1 = i3 a1))) (show (11 : Int32) = i3 11 from rfl)) (by omega) (by omega) (by omega)) ?_
  have r1 := zI_k hZ 2 0 0 (211 + 20 * a1) (lo := -1) (hi := 6) (by decide) (zs_200_11 (x := a1) (by omega) (by omega) (by omega))
  refine wz_br (i3L (zm_rd (Z := Z) (ν := ν) (k := 2) (show ((0 : Nat) : Int) = 0 from rfl) (show ((0 : Nat) : Int) = 0 from rfl) (i3I (y := (211 + 20 * a1)) (i3A (i3A (show (200 : Int32) = i3 200 from rfl) (i3M (show (20 : Int32) = i3 20 from rfl) (rfl : i3 a1 = i3 a1))) (show (11 : Int32) = i3 11 from rfl)) (by omega) (by omega) (by omega))) (show (0 : Int32) = i3 0 from rfl) (by omega) (by omega) (by omega) (by omega)) (fun h2 => ?_) (fun h2 => ?_)
  · replace hP := zE_p hP h2
    refine wz_i0 (Eq.trans (i3L (rfl : i3 a2 = i3 a2) (show (0 : Int32) = i3 0 from rfl) (by omega) (by omega) (by omega) (by omega)) (decide_eq_false (by omega))) ?_
    refine wz_i0 (Eq.trans (i3L (show (5 : Int32) = i3 5 from rfl) (rfl : i3 a2 = i3 a2) (by omega) (by omega) (by omega) (by omega)) (decide_eq_false (by omega))) ?_
    refine wz_i0 (i3O (n := 4400) (i3A (i3A (show (1210 : Int32) = i3 1210 from rfl) (i3M (show (12 : Int32) = i3 12 from rfl) (rfl : i3 a2 = i3 a2))) (show (6 : Int32) = i3 6 from rfl)) (by omega) (by omega) (by omega)) ?_
    refine wz_i0 (i3O (n := 4400) (i3A (i3A (show (1210 : Int32) = i3 1210 from rfl) (i3M (show (12 : Int32) = i3 12 from rfl) (rfl : i3 a2 = i3 a2))) (show (6 : Int32) = i3 6 from rfl)) (by omega) (by omega) (by omega)) ?_
    have r3 := zI_f hZ 2 0 0 (1216 + 12 * a2)
    have r4 := w3_r ((Z 2 0 0 (1216 + 12 * a2)) + 1)
    obtain ⟨Z5, hZ5⟩ := zx (zu Z 2 0 0 (1216 + 12 * a2) (w3 ((Z 2 0 0 (1216 + 12 * a2)) + 1)))
    replace hP := zl_e hP hZ5
    have hZ5I := zI_u hZ hZ5 (lo := -2147483648) (hi := 2147483647) (by decide) (zs_1210_6 (x := a2) (by omega) (by omega) (by omega)) (by omega) ⟨by decide, by decide⟩ (Or.inl (by decide))
    have t6 : Z5 2 0 0 102 = Z 2 0 0 102 := zu_ne hZ5 (by omega)
    have t7 : Z5 2 0 0 100 = Z 2 0 0 100 := zu_ne hZ5 (by omega)
    have t8 : Z5 2 0 0 1200 = Z 2 0 0 1200 := zu_ne hZ5 (by omega)
    have t9 : Z5 2 0 0 1400 = Z 2 0 0 1400 := zu_ne hZ5 (by omega)
    have t10 : Z5 2 0 0 1401 = Z 2 0 0 1401 := zu_ne hZ5 (by omega)
    have t11 : Z5 2 0 0 3000 = Z 2 0 0 3000 := zu_ne hZ5 (by omega)
    have t12 : Z5 2 0 0 3200 = Z 2 0 0 3200 := zu_ne hZ5 (by omega)
    have t13 : Z5 2 0 0 3500 = Z 2 0 0 3500 := zu_ne hZ5 (by omega)
    have hZ5K : zK [2] Z Z5 := zK_u zK_r hZ5 (by decide)
    intro μ9 e9
    replace e9 := e9.trans (zm_wI (Z := Z) (ν := ν) hZ5 (show ((0 : Nat) : Int) = 0 from rfl) (show ((0 : Nat) : Int) = 0 from rfl) (i3I (y := (1216 + 12 * a2)) (i3A (i3A (show (1210 : Int32) = i3 1210 from rfl) (i3M (show (12 : Int32) = i3 12 from rfl) (rfl : i3 a2 = i3 a2))) (show (6 : Int32) = i3 6 from rfl)) (by omega) (by omega) (by omega)) (i3W (i3A (zm_rd (Z := Z) (ν := ν) (k := 2) (show ((0 : Nat) : Int) = 0 from rfl) (show ((0 : Nat) : Int) = 0 from rfl) (i3I (y := (1216 + 12 * a2)) (i3A (i3A (show (1210 : Int32) = i3 1210 from rfl) (i3M (show (12 : Int32) = i3 12 from rfl) (rfl : i3 a2 = i3 a2))) (show (6 : Int32) = i3 6 from rfl)) (by omega) (by omega) (by omega))) (show (1 : Int32) = i3 1 from rfl))))
    subst e9
    refine wz_i0 (i3O (n := 4400) (i3A (i3A (show (200 : Int32) = i3 200 from rfl) (i3M (show (20 : Int32) = i3 20 from rfl) (rfl : i3 a1 = i3 a1))) (show (11 : Int32) = i3 11 from rfl)) (by omega) (by omega) (by omega)) ?_
    obtain ⟨Z14, hZ14⟩ := zx (zu Z5 2 0 0 (211 + 20 * a1) a2)
    replace hP := zl_e hP hZ14
    have hZ14I := zI_u hZ5I hZ14 (lo := -1) (hi := 6) (by decide) (zs_200_11 (x := a1) (by omega) (by omega) (by omega)) (by omega) ⟨by decide, by decide⟩ (Or.inl (by decide))
    have t15 : Z14 2 0 0 102 = Z5 2 0 0 102 := zu_ne hZ14 (by omega)
    have t16 : Z14 2 0 0 100 = Z5 2 0 0 100 := zu_ne hZ14 (by omega)
    have t17 : Z14 2 0 0 1200 = Z5 2 0 0 1200 := zu_ne hZ14 (by omega)
    have t18 : Z14 2 0 0 1400 = Z5 2 0 0 1400 := zu_ne hZ14 (by omega)
    have t19 : Z14 2 0 0 1401 = Z5 2 0 0 1401 := zu_ne hZ14 (by omega)
    have t20 : Z14 2 0 0 3000 = Z5 2 0 0 3000 := zu_ne hZ14 (by omega)
    have t21 : Z14 2 0 0 3200 = Z5 2 0 0 3200 := zu_ne hZ14 (by omega)
    have t22 : Z14 2 0 0 3500 = Z5 2 0 0 3500 := zu_ne hZ14 (by omega)
    have hZ14K := zK_u hZ5K hZ14 (by decide)
    intro μ9 e9
    replace e9 := e9.trans (zm_wI (Z := Z5) (ν := ν) hZ14 (show ((0 : Nat) : Int) = 0 from rfl) (show ((0 : Nat) : Int) = 0 from rfl) (i3I (y := (211 + 20 * a1)) (i3A (i3A (show (200 : Int32) = i3 200 from rfl) (i3M (show (20 : Int32) = i3 20 from rfl) (rfl : i3 a1 = i3 a1))) (show (11 : Int32) = i3 11 from rfl)) (by omega) (by omega) (by omega)) (rfl : i3 a2 = i3 a2))
    subst e9
    exact zlV hP ⟨hZ14I, hZ14K, by omega, by omega, by omega, by omega, by omega, by omega, by omega, by omega⟩
  · replace hP := zE_n hP h2
    refine wz_br (i3L (show (5 : Int32) = i3 5 from rfl) (zm_rd (Z := Z) (ν := ν) (k := 2) (show ((0 : Nat) : Int) = 0 from rfl) (show ((0 : Nat) : Int) = 0 from rfl) (i3I (y := (211 + 20 * a1)) (i3A (i3A (show (200 : Int32) = i3 200 from rfl) (i3M (show (20 : Int32) = i3 20 from rfl) (rfl : i3 a1 = i3 a1))) (show (11 : Int32) = i3 11 from rfl)) (by omega) (by omega) (by omega))) (by omega) (by omega) (by omega) (by omega)) (fun h23 => ?_) (fun h23 => ?_)
    · replace hP := zE_p hP h23
      refine wz_i0 (Eq.trans (i3L (rfl : i3 a2 = i3 a2) (show (0 : Int32) = i3 0 from rfl) (by omega) (by omega) (by omega) (by omega)) (decide_eq_false (by omega))) ?_
      refine wz_i0 (Eq.trans (i3L (show (5 : Int32) = i3 5 from rfl) (rfl : i3 a2 = i3 a2) (by omega) (by omega) (by omega) (by omega)) (decide_eq_false (by omega))) ?_
      refine wz_i0 (i3O (n := 4400) (i3A (i3A (show (1210 : Int32) = i3 1210 from rfl) (i3M (show (12 : Int32) = i3 12 from rfl) (rfl : i3 a2 = i3 a2))) (show (6 : Int32) = i3 6 from rfl)) (by omega) (by omega) (by omega)) ?_
      refine wz_i0 (i3O (n := 4400) (i3A (i3A (show (1210 : Int32) = i3 1210 from rfl) (i3M (show (12 : Int32) = i3 12 from rfl) (rfl : i3 a2 = i3 a2))) (show (6 : Int32) = i3 6 from rfl)) (by omega) (by omega) (by omega)) ?_
      have r24 := zI_f hZ 2 0 0 (1216 + 12 * a2)
      have r25 := w3_r ((Z 2 0 0 (1216 + 12 * a2)) + 1)
      obtain ⟨Z26, hZ26⟩ := zx (zu Z 2 0 0 (1216 + 12 * a2) (w3 ((Z 2 0 0 (1216 + 12 * a2)) + 1)))
      replace hP := zl_e hP hZ26
      have hZ26I := zI_u hZ hZ26 (lo := -2147483648) (hi := 2147483647) (by decide) (zs_1210_6 (x := a2) (by omega) (by omega) (by omega)) (by omega) ⟨by decide, by decide⟩ (Or.inl (by decide))
      have t27 : Z26 2 0 0 102 = Z 2 0 0 102 := zu_ne hZ26 (by omega)
      have t28 : Z26 2 0 0 100 = Z 2 0 0 100 := zu_ne hZ26 (by omega)
      have t29 : Z26 2 0 0 1200 = Z 2 0 0 1200 := zu_ne hZ26 (by omega)
      have t30 : Z26 2 0 0 1400 = Z 2 0 0 1400 := zu_ne hZ26 (by omega)
      have t31 : Z26 2 0 0 1401 = Z 2 0 0 1401 := zu_ne hZ26 (by omega)
      have t32 : Z26 2 0 0 3000 = Z 2 0 0 3000 := zu_ne hZ26 (by omega)
      have t33 : Z26 2 0 0 3200 = Z 2 0 0 3200 := zu_ne hZ26 (by omega)
      have t34 : Z26 2 0 0 3500 = Z 2 0 0 3500 := zu_ne hZ26 (by omega)
      have hZ26K : zK [2] Z Z26 := zK_u zK_r hZ26 (by decide)
      intro μ9 e9
      replace e9 := e9.trans (zm_wI (Z := Z) (ν := ν) hZ26 (show ((0 : Nat) : Int) = 0 from rfl) (show ((0 : Nat) : Int) = 0 from rfl) (i3I (y := (1216 + 12 * a2)) (i3A (i3A (show (1210 : Int32) = i3 1210 from rfl) (i3M (show (12 : Int32) = i3 12 from rfl) (rfl : i3 a2 = i3 a2))) (show (6 : Int32) = i3 6 from rfl)) (by omega) (by omega) (by omega)) (i3W (i3A (zm_rd (Z := Z) (ν := ν) (k := 2) (show ((0 : Nat) : Int) = 0 from rfl) (show ((0 : Nat) : Int) = 0 from rfl) (i3I (y := (1216 + 12 * a2)) (i3A (i3A (show (1210 : Int32) = i3 1210 from rfl) (i3M (show (12 : Int32) = i3 12 from rfl) (rfl : i3 a2 = i3 a2))) (show (6 : Int32) = i3 6 from rfl)) (by omega) (by omega) (by omega))) (show (1 : Int32) = i3 1 from rfl))))
      subst e9
      refine wz_i0 (i3O (n := 4400) (i3A (i3A (show (200 : Int32) = i3 200 from rfl) (i3M (show (20 : Int32) = i3 20 from rfl) (rfl : i3 a1 = i3 a1))) (show (11 : Int32) = i3 11 from rfl)) (by omega) (by omega) (by omega)) ?_
      obtain ⟨Z35, hZ35⟩ := zx (zu Z26 2 0 0 (211 + 20 * a1) a2)
      replace hP := zl_e hP hZ35
      have hZ35I := zI_u hZ26I hZ35 (lo := -1) (hi := 6) (by decide) (zs_200_11 (x := a1) (by omega) (by omega) (by omega)) (by omega) ⟨by decide, by decide⟩ (Or.inl (by decide))
      have t36 : Z35 2 0 0 102 = Z26 2 0 0 102 := zu_ne hZ35 (by omega)
      have t37 : Z35 2 0 0 100 = Z26 2 0 0 100 := zu_ne hZ35 (by omega)
      have t38 : Z35 2 0 0 1200 = Z26 2 0 0 1200 := zu_ne hZ35 (by omega)
      have t39 : Z35 2 0 0 1400 = Z26 2 0 0 1400 := zu_ne hZ35 (by omega)
      have t40 : Z35 2 0 0 1401 = Z26 2 0 0 1401 := zu_ne hZ35 (by omega)
      have t41 : Z35 2 0 0 3000 = Z26 2 0 0 3000 := zu_ne hZ35 (by omega)
      have t42 : Z35 2 0 0 3200 = Z26 2 0 0 3200 := zu_ne hZ35 (by omega)
      have t43 : Z35 2 0 0 3500 = Z26 2 0 0 3500 := zu_ne hZ35 (by omega)
      have hZ35K := zK_u hZ26K hZ35 (by decide)
      intro μ9 e9
      replace e9 := e9.trans (zm_wI (Z := Z26) (ν := ν) hZ35 (show ((0 : Nat) : Int) = 0 from rfl) (show ((0 : Nat) : Int) = 0 from rfl) (i3I (y := (211 + 20 * a1)) (i3A (i3A (show (200 : Int32) = i3 200 from rfl) (i3M (show (20 : Int32) = i3 20 from rfl) (rfl : i3 a1 = i3 a1))) (show (11 : Int32) = i3 11 from rfl)) (by omega) (by omega) (by omega)) (rfl : i3 a2 = i3 a2))
      subst e9
      exact zlV hP ⟨hZ35I, hZ35K, by omega, by omega, by omega, by omega, by omega, by omega, by omega, by omega⟩
    · replace hP := zE_n hP h23
      refine wz_i0 (i3O (n := 4400) (i3A (i3A (show (1210 : Int32) = i3 1210 from rfl) (i3M (show (12 : Int32) = i3 12 from rfl) (zm_rd (Z := Z) (ν := ν) (k := 2) (show ((0 : Nat) : Int) = 0 from rfl) (show ((0 : Nat) : Int) = 0 from rfl) (i3I (y := (211 + 20 * a1)) (i3A (i3A (show (200 : Int32) = i3 200 from rfl) (i3M (show (20 : Int32) = i3 20 from rfl) (rfl : i3 a1 = i3 a1))) (show (11 : Int32) = i3 11 from rfl)) (by omega) (by omega) (by omega))))) (show (6 : Int32) = i3 6 from rfl)) (by omega) (by omega) (by omega)) ?_
      refine wz_i0 (i3O (n := 4400) (i3A (i3A (show (1210 : Int32) = i3 1210 from rfl) (i3M (show (12 : Int32) = i3 12 from rfl) (zm_rd (Z := Z) (ν := ν) (k := 2) (show ((0 : Nat) : Int) = 0 from rfl) (show ((0 : Nat) : Int) = 0 from rfl) (i3I (y := (211 + 20 * a1)) (i3A (i3A (show (200 : Int32) = i3 200 from rfl) (i3M (show (20 : Int32) = i3 20 from rfl) (rfl : i3 a1 = i3 a1))) (show (11 : Int32) = i3 11 from rfl)) (by omega) (by omega) (by omega))))) (show (6 : Int32) = i3 6 from rfl)) (by omega) (by omega) (by omega)) ?_
      have r44 := zI_f hZ 2 0 0 (1216 + 12 * (Z 2 0 0 (211 + 20 * a1)))
      have r45 := w3_r ((Z 2 0 0 (1216 + 12 * (Z 2 0 0 (211 + 20 * a1)))) + 1)
      obtain ⟨Z46, hZ46⟩ := zx (zu Z 2 0 0 (1216 + 12 * (Z 2 0 0 (211 + 20 * a1))) (w3 ((Z 2 0 0 (1216 + 12 * (Z 2 0 0 (211 + 20 * a1)))) + 1)))
      replace hP := zl_e hP hZ46
      have hZ46I := zI_u hZ hZ46 (lo := -2147483648) (hi := 2147483647) (by decide) (zs_1210_6 (x := (Z 2 0 0 (211 + 20 * a1))) (by omega) (by omega) (by omega)) (by omega) ⟨by decide, by decide⟩ (Or.inl (by decide))
      have t47 : Z46 2 0 0 102 = Z 2 0 0 102 := zu_ne hZ46 (by omega)
      have t48 : Z46 2 0 0 100 = Z 2 0 0 100 := zu_ne hZ46 (by omega)
      have t49 : Z46 2 0 0 1200 = Z 2 0 0 1200 := zu_ne hZ46 (by omega)
      have t50 : Z46 2 0 0 1400 = Z 2 0 0 1400 := zu_ne hZ46 (by omega)
      have t51 : Z46 2 0 0 1401 = Z 2 0 0 1401 := zu_ne hZ46 (by omega)
      have t52 : Z46 2 0 0 3000 = Z 2 0 0 3000 := zu_ne hZ46 (by omega)
      have t53 : Z46 2 0 0 3200 = Z 2 0 0 3200 := zu_ne hZ46 (by omega)
      have t54 : Z46 2 0 0 3500 = Z 2 0 0 3500 := zu_ne hZ46 (by omega)
      have hZ46K : zK [2] Z Z46 := zK_u zK_r hZ46 (by decide)
      intro μ9 e9
      replace e9 := e9.trans (zm_wI (Z := Z) (ν := ν) hZ46 (show ((0 : Nat) : Int) = 0 from rfl) (show ((0 : Nat) : Int) = 0 from rfl) (i3I (y := (1216 + 12 * (Z 2 0 0 (211 + 20 * a1)))) (i3A (i3A (show (1210 : Int32) = i3 1210 from rfl) (i3M (show (12 : Int32) = i3 12 from rfl) (zm_rd (Z := Z) (ν := ν) (k := 2) (show ((0 : Nat) : Int) = 0 from rfl) (show ((0 : Nat) : Int) = 0 from rfl) (i3I (y := (211 + 20 * a1)) (i3A (i3A (show (200 : Int32) = i3 200 from rfl) (i3M (show (20 : Int32) = i3 20 from rfl) (rfl : i3 a1 = i3 a1))) (show (11 : Int32) = i3 11 from rfl)) (by omega) (by omega) (by omega))))) (show (6 : Int32) = i3 6 from rfl)) (by omega) (by omega) (by omega)) (i3W (i3A (zm_rd (Z := Z) (ν := ν) (k := 2) (show ((0 : Nat) : Int) = 0 from rfl) (show ((0 : Nat) : Int) = 0 from rfl) (i3I (y := (1216 + 12 * (Z 2 0 0 (211 + 20 * a1)))) (i3A (i3A (show (1210 : Int32) = i3 1210 from rfl) (i3M (show (12 : Int32) = i3 12 from rfl) (zm_rd (Z := Z) (ν := ν) (k := 2) (show ((0 : Nat) : Int) = 0 from rfl) (show ((0 : Nat) : Int) = 0 from rfl) (i3I (y := (211 + 20 * a1)) (i3A (i3A (show (200 : Int32) = i3 200 from rfl) (i3M (show (20 : Int32) = i3 20 from rfl) (rfl : i3 a1 = i3 a1))) (show (11 : Int32) = i3 11 from rfl)) (by omega) (by omega) (by omega))))) (show (6 : Int32) = i3 6 from rfl)) (by omega) (by omega) (by omega))) (show (1 : Int32) = i3 1 from rfl))))
      subst e9
      refine wz_i0 (Eq.trans (i3L (rfl : i3 a2 = i3 a2) (show (0 : Int32) = i3 0 from rfl) (by omega) (by omega) (by omega) (by omega)) (decide_eq_false (by omega))) ?_
      refine wz_i0 (Eq.trans (i3L (show (5 : Int32) = i3 5 from rfl) (rfl : i3 a2 = i3 a2) (by omega) (by omega) (by omega) (by omega)) (decide_eq_false (by omega))) ?_
      refine wz_i0 (i3O (n := 4400) (i3A (i3A (show (1210 : Int32) = i3 1210 from rfl) (i3M (show (12 : Int32) = i3 12 from rfl) (rfl : i3 a2 = i3 a2))) (show (6 : Int32) = i3 6 from rfl)) (by omega) (by omega) (by omega)) ?_
      refine wz_i0 (i3O (n := 4400) (i3A (i3A (show (1210 : Int32) = i3 1210 from rfl) (i3M (show (12 : Int32) = i3 12 from rfl) (rfl : i3 a2 = i3 a2))) (show (6 : Int32) = i3 6 from rfl)) (by omega) (by omega) (by omega)) ?_
      have r55 := zI_f hZ46I 2 0 0 (1216 + 12 * a2)
      have r56 := w3_r ((Z46 2 0 0 (1216 + 12 * a2)) + 1)
      obtain ⟨Z57, hZ57⟩ := zx (zu Z46 2 0 0 (1216 + 12 * a2) (w3 ((Z46 2 0 0 (1216 + 12 * a2)) + 1)))
      replace hP := zl_e hP hZ57
      have hZ57I := zI_u hZ46I hZ57 (lo := -2147483648) (hi := 2147483647) (by decide) (zs_1210_6 (x := a2) (by omega) (by omega) (by omega)) (by omega) ⟨by decide, by decide⟩ (Or.inl (by decide))
      have t58 : Z57 2 0 0 102 = Z46 2 0 0 102 := zu_ne hZ57 (by omega)
      have t59 : Z57 2 0 0 100 = Z46 2 0 0 100 := zu_ne hZ57 (by omega)
      have t60 : Z57 2 0 0 1200 = Z46 2 0 0 1200 := zu_ne hZ57 (by omega)
      have t61 : Z57 2 0 0 1400 = Z46 2 0 0 1400 := zu_ne hZ57 (by omega)
      have t62 : Z57 2 0 0 1401 = Z46 2 0 0 1401 := zu_ne hZ57 (by omega)
      have t63 : Z57 2 0 0 3000 = Z46 2 0 0 3000 := zu_ne hZ57 (by omega)
      have t64 : Z57 2 0 0 3200 = Z46 2 0 0 3200 := zu_ne hZ57 (by omega)
      have t65 : Z57 2 0 0 3500 = Z46 2 0 0 3500 := zu_ne hZ57 (by omega)
      have hZ57K := zK_u hZ46K hZ57 (by decide)
      intro μ9 e9
      replace e9 := e9.trans (zm_wI (Z := Z46) (ν := ν) hZ57 (show ((0 : Nat) : Int) = 0 from rfl) (show ((0 : Nat) : Int) = 0 from rfl) (i3I (y := (1216 + 12 * a2)) (i3A (i3A (show (1210 : Int32) = i3 1210 from rfl) (i3M (show (12 : Int32) = i3 12 from rfl) (rfl : i3 a2 = i3 a2))) (show (6 : Int32) = i3 6 from rfl)) (by omega) (by omega) (by omega)) (i3W (i3A (zm_rd (Z := Z46) (ν := ν) (k := 2) (show ((0 : Nat) : Int) = 0 from rfl) (show ((0 : Nat) : Int) = 0 from rfl) (i3I (y := (1216 + 12 * a2)) (i3A (i3A (show (1210 : Int32) = i3 1210 from rfl) (i3M (show (12 : Int32) = i3 12 from rfl) (rfl : i3 a2 = i3 a2))) (show (6 : Int32) = i3 6 from rfl)) (by omega) (by omega) (by omega))) (show (1 : Int32) = i3 1 from rfl))))
      subst e9
      refine wz_i0 (i3O (n := 4400) (i3A (i3A (show (200 : Int32) = i3 200 from rfl) (i3M (show (20 : Int32) = i3 20 from rfl) (rfl : i3 a1 = i3 a1))) (show (11 : Int32) = i3 11 from rfl)) (by omega) (by omega) (by omega)) ?_
      obtain ⟨Z66, hZ66⟩ := zx (zu Z57 2 0 0 (211 + 20 * a1) a2)
      replace hP := zl_e hP hZ66
      have hZ66I := zI_u hZ57I hZ66 (lo := -1) (hi := 6) (by decide) (zs_200_11 (x := a1) (by omega) (by omega) (by omega)) (by omega) ⟨by decide, by decide⟩ (Or.inl (by decide))
      have t67 : Z66 2 0 0 102 = Z57 2 0 0 102 := zu_ne hZ66 (by omega)
      have t68 : Z66 2 0 0 100 = Z57 2 0 0 100 := zu_ne hZ66 (by omega)
      have t69 : Z66 2 0 0 1200 = Z57 2 0 0 1200 := zu_ne hZ66 (by omega)
      have t70 : Z66 2 0 0 1400 = Z57 2 0 0 1400 := zu_ne hZ66 (by omega)
      have t71 : Z66 2 0 0 1401 = Z57 2 0 0 1401 := zu_ne hZ66 (by omega)
      have t72 : Z66 2 0 0 3000 = Z57 2 0 0 3000 := zu_ne hZ66 (by omega)
      have t73 : Z66 2 0 0 3200 = Z57 2 0 0 3200 := zu_ne hZ66 (by omega)
      have t74 : Z66 2 0 0 3500 = Z57 2 0 0 3500 := zu_ne hZ66 (by omega)
      have hZ66K := zK_u hZ57K hZ66 (by decide)
      intro μ9 e9
      replace e9 := e9.trans (zm_wI (Z := Z57) (ν := ν) hZ66 (show ((0 : Nat) : Int) = 0 from rfl) (show ((0 : Nat) : Int) = 0 from rfl) (i3I (y := (211 + 20 * a1)) (i3A (i3A (show (200 : Int32) = i3 200 from rfl) (i3M (show (20 : Int32) = i3 20 from rfl) (rfl : i3 a1 = i3 a1))) (show (11 : Int32) = i3 11 from rfl)) (by omega) (by omega) (by omega)) (rfl : i3 a2 = i3 a2))
      subst e9
      exact zlV hP ⟨hZ66I, hZ66K, by omega, by omega, by omega, by omega, by omega, by omega, by omega, by omega⟩

/- yX12_rRoom -/
def zl_485_1s (x1 : Int) (x2 : Int) (x3 : Int) (x4 : Int) (x5 : Int) : Nat → qz_Z → Int → qz_Z × Int
  | 0, Z, x6 => (Z, x6)
  | m + 1, Z, x6 => (if 12 ≤ x6 then (Z, x6) else (zlet (zu Z 2 0 0 (1210 + 12 * x5 + x6) 0) (fun Z2 => zl_485_1s x1 x2 x3 x4 x5 m Z2 (x6 + 1))))
theorem sl_485_1s {s : zS} {Zs Z : qz_Z} {ν : qz_N} (hZ : zI s Z) (hK : zK [2] Zs Z) {x1 : Int} (gx1 : 1 ≤ x1 ∧ x1 ≤ 12) {x2 : Int} (gx2 : 0 ≤ x2 ∧ x2 ≤ 9) {x3 : Int} (gx3 : 0 ≤ x3 ∧ x3 ≤ 9) {x4 : Int} (gx4 : 18 ≤ x4 ∧ x4 ≤ 18) {x5 : Int} (gx5 : 0 ≤ x5 ∧ x5 ≤ 6) {x6 : Int} (gx6 : 0 ≤ x6 ∧ x6 ≤ 12) {kc0 : Int} {kc1 : Int} {kc2 : Int} {kc3 : Int} {kc4 : Int} {kc5 : Int} {kc6 : Int} {kc7 : Int} (gr0 : Z 2 0 0 102 = kc0) (gr1 : Z 2 0 0 100 = kc1) (gr2 : Z 2 0 0 1200 = kc2) (gr3 : Z 2 0 0 1400 = kc3) (gr4 : Z 2 0 0 1401 = kc4) (gr5 : Z 2 0 0 3000 = kc5) (gr6 : Z 2 0 0 3200 = kc6) (gr7 : Z 2 0 0 3500 = kc7) {k : wz_K} {R : wz_R} {L : qz_L} (hL : qz_fg [true, true, true, true, true, true, true] L = [some (.inr (.inr (some (1, 0, 0)))), some (.inl (i3 x1)), some (.inl (i3 x2)), some (.inl (i3 x3)), some (.inl (i3 x4)), some (.inl (i3 x5)), some (.inl (i3 x6))]) {T : qz_Z × Int} (hP : zE T (zl_485_1s x1 x2 x3 x4 x5 ((12 - x6).toNat + 1) Z x6)) (hk : ∀ (L9 : qz_L) (Z9 : qz_Z) (yx6 : Int), qz_fg [true, true, true, true, true, true, false] L9 = [some (.inr (.inr (some (1, 0, 0)))), some (.inl (i3 x1)), some (.inl (i3 x2)), some (.inl (i3 x3)), some (.inl (i3 x4)), some (.inl (i3 x5)), none] → zI s Z9 → zK [2] Zs Z9 → (0 ≤ yx6 ∧ yx6 ≤ 12) → (Z9 2 0 0 102 = kc0) → (Z9 2 0 0 100 = kc1) → (Z9 2 0 0 1200 = kc2) → (Z9 2 0 0 1400 = kc3) → (Z9 2 0 0 1401 = kc4) → (Z9 2 0 0 3000 = kc5) → (Z9 2 0 0 3200 = kc6) → (Z9 2 0 0 3500 = kc7) → zE T ((Z9, yx6)) → k 0 (L9, [], zm Z9 ν)) : wz_loop qb_485_1 65536 k R (L, [], zm Z ν) := by
  refine wz_lp sb_485_1 (fun m x => ∃ Z : qz_Z, ∃ x6 : Int, qz_fg [true, true, true, true, true, true, true] x.1 = [some (.inr (.inr (some (1, 0, 0)))), some (.inl (i3 x1)), some (.inl (i3 x2)), some (.inl (i3 x3)), some (.inl (i3 x4)), some (.inl (i3 x5)), some (.inl (i3 x6))] ∧ x.2 = ([], zm Z ν) ∧ zI s Z ∧ zK [2] Zs Z ∧ m = (12 - x6).toNat ∧ (0 ≤ x6 ∧ x6 ≤ 12) ∧ (Z 2 0 0 102 = kc0) ∧ (Z 2 0 0 100 = kc1) ∧ (Z 2 0 0 1200 = kc2) ∧ (Z 2 0 0 1400 = kc3) ∧ (Z 2 0 0 1401 = kc4) ∧ (Z 2 0 0 3000 = kc5) ∧ (Z 2 0 0 3200 = kc6) ∧ (Z 2 0 0 3500 = kc7) ∧ zE T (zl_485_1s x1 x2 x3 x4 x5 (m + 1) Z x6)) ?_ 65536 ((12 - x6).toNat) _ (by omega) ⟨Z, x6, hL, rfl, hZ, hK, rfl, gx6, gr0, gr1, gr2, gr3, gr4, gr5, gr6, gr7, hP⟩
  clear hP gr0 gr1 gr2 gr3 gr4 gr5 gr6 gr7 gx6 hZ hK hL
  clear x6
  clear Z
  rintro m ⟨L, st, μ⟩ ⟨Z, x6, hL, hx, hZ, hK, hm, gx6, gr0, gr1, gr2, gr3, gr4, gr5, gr6, gr7, hP⟩
  cases hx
  refine fb_485_1 (i3 x1) (i3 x2) (i3 x3) (i3 x4) (i3 x5) (i3 x6) _ _ _ _ hL ?_
  refine wz_br (i3Le (show (12 : Int32) = i3 12 from rfl) (rfl : i3 x6 = i3 x6) (by omega) (by omega) (by omega) (by omega)) (fun h1 => ?_) (fun h1 => ?_)
  · replace hP := zE_p hP h1
    exact hk _ _ _ (zconso rfl (zconso (zvo (rfl : i3 x1 = i3 x1)) (zconso (zvo (rfl : i3 x2 = i3 x2)) (zconso (zvo (rfl : i3 x3 = i3 x3)) (zconso (zvo (rfl : i3 x4 = i3 x4)) (zconso (zvo (rfl : i3 x5 = i3 x5)) (zconso rfl rfl))))))) hZ hK (by omega) (by omega) (by omega) (by omega) (by omega) (by omega) (by omega) (by omega) (by omega) hP
  · replace hP := zE_n hP h1
    refine wz_i0 (i3O (n := 4400) (i3A (i3A (show (1210 : Int32) = i3 1210 from rfl) (i3M (show (12 : Int32) = i3 12 from rfl) (rfl : i3 x5 = i3 x5))) (rfl : i3 x6 = i3 x6)) (by omega) (by omega) (by omega)) ?_
    obtain ⟨Z2, hZ2⟩ := zx (zu Z 2 0 0 (1210 + 12 * x5 + x6) 0)
    replace hP := zl_e hP hZ2
    have hZ2I := zI_0 hZ hZ2 (by decide) (Or.inl (by decide))
    have t3 : Z2 2 0 0 102 = Z 2 0 0 102 := zu_ne hZ2 (by omega)
    have t4 : Z2 2 0 0 100 = Z 2 0 0 100 := zu_ne hZ2 (by omega)
    have t5 : Z2 2 0 0 1200 = Z 2 0 0 1200 := zu_ne hZ2 (by omega)
    have t6 : Z2 2 0 0 1400 = Z 2 0 0 1400 := zu_ne hZ2 (by omega)
    have t7 : Z2 2 0 0 1401 = Z 2 0 0 1401 := zu_ne hZ2 (by omega)
    have t8 : Z2 2 0 0 3000 = Z 2 0 0 3000 := zu_ne hZ2 (by omega)
    have t9 : Z2 2 0 0 3200 = Z 2 0 0 3200 := zu_ne hZ2 (by omega)
    have t10 : Z2 2 0 0 3500 = Z 2 0 0 3500 := zu_ne hZ2 (by omega)
    have hZ2K := zK_u hK hZ2 (by decide)
    intro μ9 e9
    replace e9 := e9.trans (zm_wI (Z := Z) (ν := ν) hZ2 (show ((0 : Nat) : Int) = 0 from rfl) (show ((0 : Nat) : Int) = 0 from rfl) (i3I (y := (1210 + 12 * x5 + x6)) (i3A (i3A (show (1210 : Int32) = i3 1210 from rfl) (i3M (show (12 : Int32) = i3 12 from rfl) (rfl : i3 x5 = i3 x5))) (rfl : i3 x6 = i3 x6)) (by omega) (by omega) (by omega)) (show (0 : Int32) = i3 0 from rfl))
    subst e9
    obtain ⟨m2, rfl⟩ : ∃ m2, m = m2 + 1 := ⟨m - 1, by omega⟩
    exact wz_k1 ⟨m2, by omega, Z2, (x6 + 1), (zconso rfl (zconso (zvo (rfl : i3 x1 = i3 x1)) (zconso (zvo (rfl : i3 x2 = i3 x2)) (zconso (zvo (rfl : i3 x3 = i3 x3)) (zconso (zvo (rfl : i3 x4 = i3 x4)) (zconso (zvo (rfl : i3 x5 = i3 x5)) (zconso (zvo (i3A (rfl : i3 x6 = i3 x6) (show (1 : Int32) = i3 1 from rfl))) rfl))))))), rfl, hZ2I, hZ2K, by omega, by omega, by omega, by omega, by omega, by omega, by omega, by omega, by omega, by omega,  hP⟩

/- yX12_rRoom -/
def zf_485 (Z : qz_Z) (a1 : Int) (a2 : Int) (a3 : Int) (a4 : Int) : qz_Z × Int := (zlet2 (zl_485_1s a1 a2 a3 a4 (Z 2 0 0 1200) 13 Z 0) (fun Z3 y2 => (zlet (zu Z3 2 0 0 (1210 + 12 * (Z 2 0 0 1200)) a1) (fun Z5 => (zlet (zu Z5 2 0 0 (1211 + 12 * (Z 2 0 0 1200)) a2) (fun Z14 => (zlet (zu Z14 2 0 0 (1212 + 12 * (Z 2 0 0 1200)) a3) (fun Z23 => (zlet (zu Z23 2 0 0 (1213 + 12 * (Z 2 0 0 1200)) 18) (fun Z32 => (zlet (zu Z32 2 0 0 (1215 + 12 * (Z 2 0 0 1200)) a4) (fun Z41 => (zlet (zu Z41 2 0 0 1200 ((Z41 2 0 0 1200) + 1)) (fun Z51 => (Z51, (Z 2 0 0 1200))))))))))))))))
theorem sp_485 {s : zS} {Z : qz_Z} {ν : qz_N} (hZ : zI s Z) {a1 : Int} (ga1 : 1 ≤ a1 ∧ a1 ≤ 12) {a2 : Int} (ga2 : 0 ≤ a2 ∧ a2 ≤ 9) {a3 : Int} (ga3 : 0 ≤ a3 ∧ a3 ≤ 9) {a4 : Int} (ga4 : 18 ≤ a4 ∧ a4 ≤ 18) (gx0 : Z 2 0 0 1200 ≤ 5) : ∃ (Z1 : qz_Z) (P : Int), (Z1, P) = zf_485 Z a1 a2 a3 a4 ∧ (qf_485 [.inr (.inr (some (1, 0, 0))), .inl (i3 a1), .inl (i3 a2), .inl (i3 a3), .inl (i3 a4)] (zm Z ν) = some (zm Z1 ν, .inl (some (.inl (i3 P)))) ∧ zI s Z1 ∧ zK [2] Z Z1 ∧ 0 ≤ P ∧ P ≤ 6 ∧ Z1 2 0 0 1200 = Z 2 0 0 1200 + 1 ∧ P = Z 2 0 0 1200 ∧ Z1 2 0 0 102 = Z 2 0 0 102 ∧ Z1 2 0 0 100 = Z 2 0 0 100 ∧ Z1 2 0 0 1400 = Z 2 0 0 1400 ∧ Z1 2 0 0 1401 = Z 2 0 0 1401 ∧ Z1 2 0 0 3000 = Z 2 0 0 3000 ∧ Z1 2 0 0 3200 = Z 2 0 0 3200 ∧ Z1 2 0 0 3500 = Z 2 0 0 3500) := by
  obtain ⟨P, hP⟩ := zx (zf_485 Z a1 a2 a3 a4)
  refine zc_W (Q := fun Z1 P => zI s Z1 ∧ zK [2] Z Z1 ∧ 0 ≤ P ∧ P ≤ 6 ∧ Z1 2 0 0 1200 = Z 2 0 0 1200 + 1 ∧ P = Z 2 0 0 1200 ∧ Z1 2 0 0 102 = Z 2 0 0 102 ∧ Z1 2 0 0 100 = Z 2 0 0 100 ∧ Z1 2 0 0 1400 = Z 2 0 0 1400 ∧ Z1 2 0 0 1401 = Z 2 0 0 1401 ∧ Z1 2 0 0 3000 = Z 2 0 0 3000 ∧ Z1 2 0 0 3200 = Z 2 0 0 3200 ∧ Z1 2 0 0 3500 = Z 2 0 0 3500) hP (fw_485 (i3 a1) (i3 a2) (i3 a3) (i3 a4) _ _ ?_)
  replace hP : zE P (zf_485 Z a1 a2 a3 a4) := hP
  unfold zf_485 at hP
  have r1 := zI_k hZ 2 0 0 1200 (lo := 0) (hi := 6) (by decide) rfl
  refine sl_485_1s (ν := ν) hZ zK_r (x1 := a1) (by omega) (x2 := a2) (by omega) (x3 := a3) (by omega) (x4 := a4) (by omega) (x5 := (Z 2 0 0 1200)) (by omega) (x6 := 0) (by omega) (kc7 := Z 2 0 0 3500) (kc6 := Z 2 0 0 3200) (kc5 := Z 2 0 0 3000) (kc4 := Z 2 0 0 1401) (kc3 := Z 2 0 0 1400) (kc2 := Z 2 0 0 1200) (kc1 := Z 2 0 0 100) (kc0 := Z 2 0 0 102) (by omega) (by omega) (by omega) (by omega) (by omega) (by omega) (by omega) (by omega) (zconso rfl (zconso (zvo (rfl : i3 a1 = i3 a1)) (zconso (zvo (rfl : i3 a2 = i3 a2)) (zconso (zvo (rfl : i3 a3 = i3 a3)) (zconso (zvo (rfl : i3 a4 = i3 a4)) (zconso (zvo (zm_rd (Z := Z) (ν := ν) (k := 2) (show ((0 : Nat) : Int) = 0 from rfl) (show ((0 : Nat) : Int) = 0 from rfl) (show ((1200 : Nat) : Int) = 1200 from rfl))) (zconso (zvo (show (0 : Int32) = i3 0 from rfl)) rfl))))))) rfl ?_
  intro L4 Z3 y2 hL4 hZ3I kZ3 gy2 gL4_0 gL4_1 gL4_2 gL4_3 gL4_4 gL4_5 gL4_6 gL4_7 q9
  replace hP := zl_e2 hP (Eq.symm q9)
  clear q9
  have hZ3K : zK [2] Z Z3 := zK_t zK_r kZ3 (by decide)
  refine fc_485_2 (i3 a1) (i3 a2) (i3 a3) (i3 a4) (i3 (Z 2 0 0 1200)) _ _ _ _ hL4 ?_
  refine wz_i0 (i3O (n := 4400) (i3A (i3A (show (1210 : Int32) = i3 1210 from rfl) (i3M (show (12 : Int32) = i3 12 from rfl) (rfl : i3 (Z 2 0 0 1200) = i3 (Z 2 0 0 1200)))) (show (0 : Int32) = i3 0 from rfl)) (by omega) (by omega) (by omega)) ?_
  obtain ⟨Z5, hZ5⟩ := zx (zu Z3 2 0 0 (1210 + 12 * (Z 2 0 0 1200)) a1)
  replace hP := zl_e hP hZ5
  have hZ5I := zI_u hZ3I hZ5 (lo := 0) (hi := 12) (by decide) (zs_1210_0 (x := (Z 2 0 0 1200)) (by omega) (by omega) (by omega)) (by omega) ⟨by decide, by decide⟩ (Or.inl (by decide))
  have t6 : Z5 2 0 0 102 = Z3 2 0 0 102 := zu_ne hZ5 (by omega)
  have t7 : Z5 2 0 0 100 = Z3 2 0 0 100 := zu_ne hZ5 (by omega)
  have t8 : Z5 2 0 0 1200 = Z3 2 0 0 1200 := zu_ne hZ5 (by omega)
  have t9 : Z5 2 0 0 1400 = Z3 2 0 0 1400 := zu_ne hZ5 (by omega)
  have t10 : Z5 2 0 0 1401 = Z3 2 0 0 1401 := zu_ne hZ5 (by omega)
  have t11 : Z5 2 0 0 3000 = Z3 2 0 0 3000 := zu_ne hZ5 (by omega)
  have t12 : Z5 2 0 0 3200 = Z3 2 0 0 3200 := zu_ne hZ5 (by omega)
  have t13 : Z5 2 0 0 3500 = Z3 2 0 0 3500 := zu_ne hZ5 (by omega)
  have hZ5K := zK_u hZ3K hZ5 (by decide)
  intro μ9 e9
  replace e9 := e9.trans (zm_wI (Z := Z3) (ν := ν) hZ5 (show ((0 : Nat) : Int) = 0 from rfl) (show ((0 : Nat) : Int) = 0 from rfl) (i3I (y := (1210 + 12 * (Z 2 0 0 1200))) (i3A (i3A (show (1210 : Int32) = i3 1210 from rfl) (i3M (show (12 : Int32) = i3 12 from rfl) (rfl : i3 (Z 2 0 0 1200) = i3 (Z 2 0 0 1200)))) (show (0 : Int32) = i3 0 from rfl)) (by omega) (by omega) (by omega)) (rfl : i3 a1 = i3 a1))
  subst e9
  refine wz_i0 (i3O (n := 4400) (i3A (i3A (show (1210 : Int32) = i3 1210 from rfl) (i3M (show (12 : Int32) = i3 12 from rfl) (rfl : i3 (Z 2 0 0 1200) = i3 (Z 2 0 0 1200)))) (show (1 : Int32) = i3 1 from rfl)) (by omega) (by omega) (by omega)) ?_
  obtain ⟨Z14, hZ14⟩ := zx (zu Z5 2 0 0 (1211 + 12 * (Z 2 0 0 1200)) a2)
  replace hP := zl_e hP hZ14
  have hZ14I := zI_u hZ5I hZ14 (lo := 0) (hi := 9) (by decide) (zs_1210_1 (x := (Z 2 0 0 1200)) (by omega) (by omega) (by omega)) (by omega) ⟨by decide, by decide⟩ (Or.inl (by decide))
  have t15 : Z14 2 0 0 102 = Z5 2 0 0 102 := zu_ne hZ14 (by omega)
  have t16 : Z14 2 0 0 100 = Z5 2 0 0 100 := zu_ne hZ14 (by omega)
  have t17 : Z14 2 0 0 1200 = Z5 2 0 0 1200 := zu_ne hZ14 (by omega)
  have t18 : Z14 2 0 0 1400 = Z5 2 0 0 1400 := zu_ne hZ14 (by omega)
  have t19 : Z14 2 0 0 1401 = Z5 2 0 0 1401 := zu_ne hZ14 (by omega)
  have t20 : Z14 2 0 0 3000 = Z5 2 0 0 3000 := zu_ne hZ14 (by omega)
  have t21 : Z14 2 0 0 3200 = Z5 2 0 0 3200 := zu_ne hZ14 (by omega)
  have t22 : Z14 2 0 0 3500 = Z5 2 0 0 3500 := zu_ne hZ14 (by omega)
  have hZ14K := zK_u hZ5K hZ14 (by decide)
  intro μ9 e9
  replace e9 := e9.trans (zm_wI (Z := Z5) (ν := ν) hZ14 (show ((0 : Nat) : Int) = 0 from rfl) (show ((0 : Nat) : Int) = 0 from rfl) (i3I (y := (1211 + 12 * (Z 2 0 0 1200))) (i3A (i3A (show (1210 : Int32) = i3 1210 from rfl) (i3M (show (12 : Int32) = i3 12 from rfl) (rfl : i3 (Z 2 0 0 1200) = i3 (Z 2 0 0 1200)))) (show (1 : Int32) = i3 1 from rfl)) (by omega) (by omega) (by omega)) (rfl : i3 a2 = i3 a2))
  subst e9
  refine wz_i0 (i3O (n := 4400) (i3A (i3A (show (1210 : Int32) = i3 1210 from rfl) (i3M (show (12 : Int32) = i3 12 from rfl) (rfl : i3 (Z 2 0 0 1200) = i3 (Z 2 0 0 1200)))) (show (2 : Int32) = i3 2 from rfl)) (by omega) (by omega) (by omega)) ?_
  obtain ⟨Z23, hZ23⟩ := zx (zu Z14 2 0 0 (1212 + 12 * (Z 2 0 0 1200)) a3)
  replace hP := zl_e hP hZ23
  have hZ23I := zI_u hZ14I hZ23 (lo := 0) (hi := 9) (by decide) (zs_1210_2 (x := (Z 2 0 0 1200)) (by omega) (by omega) (by omega)) (by omega) ⟨by decide, by decide⟩ (Or.inl (by decide))
  have t24 : Z23 2 0 0 102 = Z14 2 0 0 102 := zu_ne hZ23 (by omega)
  have t25 : Z23 2 0 0 100 = Z14 2 0 0 100 := zu_ne hZ23 (by omega)
  have t26 : Z23 2 0 0 1200 = Z14 2 0 0 1200 := zu_ne hZ23 (by omega)
  have t27 : Z23 2 0 0 1400 = Z14 2 0 0 1400 := zu_ne hZ23 (by omega)
  have t28 : Z23 2 0 0 1401 = Z14 2 0 0 1401 := zu_ne hZ23 (by omega)
  have t29 : Z23 2 0 0 3000 = Z14 2 0 0 3000 := zu_ne hZ23 (by omega)
  have t30 : Z23 2 0 0 3200 = Z14 2 0 0 3200 := zu_ne hZ23 (by omega)
  have t31 : Z23 2 0 0 3500 = Z14 2 0 0 3500 := zu_ne hZ23 (by omega)
  have hZ23K := zK_u hZ14K hZ23 (by decide)
  intro μ9 e9
  replace e9 := e9.trans (zm_wI (Z := Z14) (ν := ν) hZ23 (show ((0 : Nat) : Int) = 0 from rfl) (show ((0 : Nat) : Int) = 0 from rfl) (i3I (y := (1212 + 12 * (Z 2 0 0 1200))) (i3A (i3A (show (1210 : Int32) = i3 1210 from rfl) (i3M (show (12 : Int32) = i3 12 from rfl) (rfl : i3 (Z 2 0 0 1200) = i3 (Z 2 0 0 1200)))) (show (2 : Int32) = i3 2 from rfl)) (by omega) (by omega) (by omega)) (rfl : i3 a3 = i3 a3))
  subst e9
  refine wz_i0 (i3O (n := 4400) (i3A (i3A (show (1210 : Int32) = i3 1210 from rfl) (i3M (show (12 : Int32) = i3 12 from rfl) (rfl : i3 (Z 2 0 0 1200) = i3 (Z 2 0 0 1200)))) (show (3 : Int32) = i3 3 from rfl)) (by omega) (by omega) (by omega)) ?_
  obtain ⟨Z32, hZ32⟩ := zx (zu Z23 2 0 0 (1213 + 12 * (Z 2 0 0 1200)) 18)
  replace hP := zl_e hP hZ32
  have hZ32I := zI_u hZ23I hZ32 (lo := 0) (hi := 40) (by decide) (zs_1210_3 (x := (Z 2 0 0 1200)) (by omega) (by omega) (by omega)) (by omega) ⟨by decide, by decide⟩ (Or.inl (by decide))
  have t33 : Z32 2 0 0 102 = Z23 2 0 0 102 := zu_ne hZ32 (by omega)
  have t34 : Z32 2 0 0 100 = Z23 2 0 0 100 := zu_ne hZ32 (by omega)
  have t35 : Z32 2 0 0 1200 = Z23 2 0 0 1200 := zu_ne hZ32 (by omega)
  have t36 : Z32 2 0 0 1400 = Z23 2 0 0 1400 := zu_ne hZ32 (by omega)
  have t37 : Z32 2 0 0 1401 = Z23 2 0 0 1401 := zu_ne hZ32 (by omega)
  have t38 : Z32 2 0 0 3000 = Z23 2 0 0 3000 := zu_ne hZ32 (by omega)
  have t39 : Z32 2 0 0 3200 = Z23 2 0 0 3200 := zu_ne hZ32 (by omega)
  have t40 : Z32 2 0 0 3500 = Z23 2 0 0 3500 := zu_ne hZ32 (by omega)
  have hZ32K := zK_u hZ23K hZ32 (by decide)
  intro μ9 e9
  replace e9 := e9.trans (zm_wI (Z := Z23) (ν := ν) hZ32 (show ((0 : Nat) : Int) = 0 from rfl) (show ((0 : Nat) : Int) = 0 from rfl) (i3I (y := (1213 + 12 * (Z 2 0 0 1200))) (i3A (i3A (show (1210 : Int32) = i3 1210 from rfl) (i3M (show (12 : Int32) = i3 12 from rfl) (rfl : i3 (Z 2 0 0 1200) = i3 (Z 2 0 0 1200)))) (show (3 : Int32) = i3 3 from rfl)) (by omega) (by omega) (by omega)) (show (18 : Int32) = i3 18 from rfl))
  subst e9
  refine wz_i0 (i3O (n := 4400) (i3A (i3A (show (1210 : Int32) = i3 1210 from rfl) (i3M (show (12 : Int32) = i3 12 from rfl) (rfl : i3 (Z 2 0 0 1200) = i3 (Z 2 0 0 1200)))) (show (5 : Int32) = i3 5 from rfl)) (by omega) (by omega) (by omega)) ?_
  obtain ⟨Z41, hZ41⟩ := zx (zu Z32 2 0 0 (1215 + 12 * (Z 2 0 0 1200)) a4)
  replace hP := zl_e hP hZ41
  have hZ41I := zI_u hZ32I hZ41 (lo := 0) (hi := 40) (by decide) (zs_1210_5 (x := (Z 2 0 0 1200)) (by omega) (by omega) (by omega)) (by omega) ⟨by decide, by decide⟩ (Or.inl (by decide))
  have t42 : Z41 2 0 0 102 = Z32 2 0 0 102 := zu_ne hZ41 (by omega)
  have t43 : Z41 2 0 0 100 = Z32 2 0 0 100 := zu_ne hZ41 (by omega)
  have t44 : Z41 2 0 0 1200 = Z32 2 0 0 1200 := zu_ne hZ41 (by omega)
  have t45 : Z41 2 0 0 1400 = Z32 2 0 0 1400 := zu_ne hZ41 (by omega)
  have t46 : Z41 2 0 0 1401 = Z32 2 0 0 1401 := zu_ne hZ41 (by omega)
  have t47 : Z41 2 0 0 3000 = Z32 2 0 0 3000 := zu_ne hZ41 (by omega)
  have t48 : Z41 2 0 0 3200 = Z32 2 0 0 3200 := zu_ne hZ41 (by omega)
  have t49 : Z41 2 0 0 3500 = Z32 2 0 0 3500 := zu_ne hZ41 (by omega)
  have hZ41K := zK_u hZ32K hZ41 (by decide)
  intro μ9 e9
  replace e9 := e9.trans (zm_wI (Z := Z32) (ν := ν) hZ41 (show ((0 : Nat) : Int) = 0 from rfl) (show ((0 : Nat) : Int) = 0 from rfl) (i3I (y := (1215 + 12 * (Z 2 0 0 1200))) (i3A (i3A (show (1210 : Int32) = i3 1210 from rfl) (i3M (show (12 : Int32) = i3 12 from rfl) (rfl : i3 (Z 2 0 0 1200) = i3 (Z 2 0 0 1200)))) (show (5 : Int32) = i3 5 from rfl)) (by omega) (by omega) (by omega)) (rfl : i3 a4 = i3 a4))
  subst e9
  have r50 := zI_k hZ41I 2 0 0 1200 (lo := 0) (hi := 6) (by decide) rfl
  obtain ⟨Z51, hZ51⟩ := zx (zu Z41 2 0 0 1200 ((Z41 2 0 0 1200) + 1))
  replace hP := zl_e hP hZ51
  have hZ51I := zI_u hZ41I hZ51 (lo := 0) (hi := 6) (by decide) rfl (by omega) ⟨by decide, by decide⟩ (Or.inl (by decide))
  have t52 : Z51 2 0 0 102 = Z41 2 0 0 102 := zu_ne hZ51 (fun q => absurd q.2.2.2 (by decide))
  have t53 : Z51 2 0 0 100 = Z41 2 0 0 100 := zu_ne hZ51 (fun q => absurd q.2.2.2 (by decide))
  have t54 := zu_at hZ51
  have t55 : Z51 2 0 0 1400 = Z41 2 0 0 1400 := zu_ne hZ51 (fun q => absurd q.2.2.2 (by decide))
  have t56 : Z51 2 0 0 1401 = Z41 2 0 0 1401 := zu_ne hZ51 (fun q => absurd q.2.2.2 (by decide))
  have t57 : Z51 2 0 0 3000 = Z41 2 0 0 3000 := zu_ne hZ51 (fun q => absurd q.2.2.2 (by decide))
  have t58 : Z51 2 0 0 3200 = Z41 2 0 0 3200 := zu_ne hZ51 (fun q => absurd q.2.2.2 (by decide))
  have t59 : Z51 2 0 0 3500 = Z41 2 0 0 3500 := zu_ne hZ51 (fun q => absurd q.2.2.2 (by decide))
  have hZ51K := zK_u hZ41K hZ51 (by decide)
  intro μ9 e9
  replace e9 := e9.trans (zm_wI (Z := Z41) (ν := ν) hZ51 (show ((0 : Nat) : Int) = 0 from rfl) (show ((0 : Nat) : Int) = 0 from rfl) (show ((1200 : Nat) : Int) = 1200 from rfl) (i3A (zm_rd (Z := Z41) (ν := ν) (k := 2) (show ((0 : Nat) : Int) = 0 from rfl) (show ((0 : Nat) : Int) = 0 from rfl) (show ((1200 : Nat) : Int) = 1200 from rfl)) (show (1 : Int32) = i3 1 from rfl)))
  subst e9
  exact zlW hP (rfl : i3 (Z 2 0 0 1200) = i3 (Z 2 0 0 1200)) ⟨hZ51I, hZ51K, by omega, by omega, by omega, by omega, by omega, by omega, by omega, by omega, by omega, by omega, by omega⟩

/- yX12_rStanding -/
def zl_488_1 (x1 : Int) : Nat → qz_Z → Int → Int → Int × Int
  | 0, Z, x2, x3 => (x2, x3)
  | m + 1, Z, x2, x3 => (if (Z 2 0 0 102) ≤ x3 then (x2, x3) else (if 1 < (Z 2 0 0 (210 + 20 * x3)) then zl_488_1 x1 m Z (x2 + 0) (x3 + 1) else (if (Z 2 0 0 (211 + 20 * x3)) ≠ x1 then zl_488_1 x1 m Z (x2 + 0) (x3 + 1) else zl_488_1 x1 m Z (x2 + 1) (x3 + 1))))
theorem sl_488_1 {s : zS} {Z : qz_Z} {ν : qz_N} (hZ : zI s Z) {x1 : Int} (gx1 : 0 ≤ x1 ∧ x1 ≤ 3) {x2 : Int} (gx2 : 0 ≤ x2 ∧ x2 ≤ 48) {x3 : Int} (gx3 : 0 ≤ x3 ∧ x3 ≤ 48) (gr0 : x2 ≤ x3) {k : wz_K} {R : wz_R} {L : qz_L} (hL : qz_fg [true, true, true, true] L = [some (.inr (.inr (some (1, 0, 0)))), some (.inl (i3 x1)), some (.inl (i3 x2)), some (.inl (i3 x3))]) {T : Int × Int} (hP : zE T (zl_488_1 x1 ((48 - x3).toNat + 1) Z x2 x3)) (hk : ∀ (L9 : qz_L) (yx2 yx3 : Int), qz_fg [false, false, true, false] L9 = [none, none, some (.inl (i3 yx2)), none] → (0 ≤ yx2 ∧ yx2 ≤ 48) → (0 ≤ yx3 ∧ yx3 ≤ 48) → (yx2 ≤ yx3) → zE T ((yx2, yx3)) → k 0 (L9, [], zm Z ν)) : wz_loop qb_488_1 65536 k R (L, [], zm Z ν) := by
  refine wz_lp sb_488_1 (fun m x => ∃ x2 : Int, ∃ x3 : Int, qz_fg [true, true, true, true] x.1 = [some (.inr (.inr (some (1, 0, 0)))), some (.inl (i3 x1)), some (.inl (i3 x2)), some (.inl (i3 x3))] ∧ x.2 = ([], zm Z ν) ∧ m = (48 - x3).toNat ∧ (0 ≤ x2 ∧ x2 ≤ 48) ∧ (0 ≤ x3 ∧ x3 ≤ 48) ∧ (x2 ≤ x3) ∧ zE T (zl_488_1 x1 (m + 1) Z x2 x3)) ?_ 65536 ((48 - x3).toNat) _ (by omega) ⟨x2, x3, hL, rfl, rfl, gx2, gx3, gr0, hP⟩
  clear hP gr0 gx2 gx3 hL
  clear x2 x3
  rintro m ⟨L, st, μ⟩ ⟨x2, x3, hL, hx, hm, gx2, gx3, gr0, hP⟩
  cases hx
  refine fb_488_1 (i3 x1) (i3 x2) (i3 x3) _ _ _ _ hL ?_
  have r1 := zI_k hZ 2 0 0 102 (lo := 0) (hi := 48) (by decide) rfl
  refine wz_br (i3Le (zm_rd (Z := Z) (ν := ν) (k := 2) (show ((0 : Nat) : Int) = 0 from rfl) (show ((0 : Nat) : Int) = 0 from rfl) (show ((102 : Nat) : Int) = 102 from rfl)) (rfl : i3 x3 = i3 x3) (by omega) (by omega) (by omega) (by omega)) (fun h2 => ?_) (fun h2 => ?_)
  · replace hP := zE_p hP h2
    exact hk _ _ _ (zconso rfl (zconso rfl (zconso (zvo (rfl : i3 x2 = i3 x2)) (zconso rfl rfl))))  (by omega) (by omega) (by omega) hP
  · replace hP := zE_n hP h2
    refine wz_i0 (i3O (n := 4400) (i3A (i3A (show (200 : Int32) = i3 200 from rfl) (i3M (show (20 : Int32) = i3 20 from rfl) (rfl : i3 x3 = i3 x3))) (show (10 : Int32) = i3 10 from rfl)) (by omega) (by omega) (by omega)) ?_
    have r3 := zI_k hZ 2 0 0 (210 + 20 * x3) (lo := 0) (hi := 4) (by decide) (zs_200_10 (x := x3) (by omega) (by omega) (by omega))
    refine wz_br (i3L (show (1 : Int32) = i3 1 from rfl) (zm_rd (Z := Z) (ν := ν) (k := 2) (show ((0 : Nat) : Int) = 0 from rfl) (show ((0 : Nat) : Int) = 0 from rfl) (i3I (y := (210 + 20 * x3)) (i3A (i3A (show (200 : Int32) = i3 200 from rfl) (i3M (show (20 : Int32) = i3 20 from rfl) (rfl : i3 x3 = i3 x3))) (show (10 : Int32) = i3 10 from rfl)) (by omega) (by omega) (by omega))) (by omega) (by omega) (by omega) (by omega)) (fun h4 => ?_) (fun h4 => ?_)
    · replace hP := zE_p hP h4
      obtain ⟨m2, rfl⟩ : ∃ m2, m = m2 + 1 := ⟨m - 1, by omega⟩
      exact wz_k1 ⟨m2, by omega, (x2 + 0), (x3 + 1), (zconso rfl (zconso (zvo (rfl : i3 x1 = i3 x1)) (zconso (zvo (i3A (rfl : i3 x2 = i3 x2) (show (0 : Int32) = i3 0 from rfl))) (zconso (zvo (i3A (rfl : i3 x3 = i3 x3) (show (1 : Int32) = i3 1 from rfl))) rfl)))), rfl,  by omega, by omega, by omega, by omega,  hP⟩
    · replace hP := zE_n hP h4
      refine wz_i0 (i3O (n := 4400) (i3A (i3A (show (200 : Int32) = i3 200 from rfl) (i3M (show (20 : Int32) = i3 20 from rfl) (rfl : i3 x3 = i3 x3))) (show (11 : Int32) = i3 11 from rfl)) (by omega) (by omega) (by omega)) ?_
      have r5 := zI_k hZ 2 0 0 (211 + 20 * x3) (lo := -1) (hi := 6) (by decide) (zs_200_11 (x := x3) (by omega) (by omega) (by omega))
      refine wz_br (i3NE (zm_rd (Z := Z) (ν := ν) (k := 2) (show ((0 : Nat) : Int) = 0 from rfl) (show ((0 : Nat) : Int) = 0 from rfl) (i3I (y := (211 + 20 * x3)) (i3A (i3A (show (200 : Int32) = i3 200 from rfl) (i3M (show (20 : Int32) = i3 20 from rfl) (rfl : i3 x3 = i3 x3))) (show (11 : Int32) = i3 11 from rfl)) (by omega) (by omega) (by omega))) (rfl : i3 x1 = i3 x1) (by omega) (by omega) (by omega) (by omega)) (fun h6 => ?_) (fun h6 => ?_)
      · replace hP := zE_p hP h6
        obtain ⟨m2, rfl⟩ : ∃ m2, m = m2 + 1 := ⟨m - 1, by omega⟩
        exact wz_k1 ⟨m2, by omega, (x2 + 0), (x3 + 1), (zconso rfl (zconso (zvo (rfl : i3 x1 = i3 x1)) (zconso (zvo (i3A (rfl : i3 x2 = i3 x2) (show (0 : Int32) = i3 0 from rfl))) (zconso (zvo (i3A (rfl : i3 x3 = i3 x3) (show (1 : Int32) = i3 1 from rfl))) rfl)))), rfl,  by omega, by omega, by omega, by omega,  hP⟩
      · replace hP := zE_n hP h6
        obtain ⟨m2, rfl⟩ : ∃ m2, m = m2 + 1 := ⟨m - 1, by omega⟩
        exact wz_k1 ⟨m2, by omega, (x2 + 1), (x3 + 1), (zconso rfl (zconso (zvo (rfl : i3 x1 = i3 x1)) (zconso (zvo (i3A (rfl : i3 x2 = i3 x2) (show (1 : Int32) = i3 1 from rfl))) (zconso (zvo (i3A (rfl : i3 x3 = i3 x3) (show (1 : Int32) = i3 1 from rfl))) rfl)))), rfl,  by omega, by omega, by omega, by omega,  hP⟩

/- yX12_rStanding -/
def zf_488 (Z : qz_Z) (a1 : Int) : Int := (zlet2 (zl_488_1 a1 49 Z 0 0) (fun y1 y2 => y1))
theorem sp_488 {s : zS} {Z : qz_Z} {ν : qz_N} (hZ : zI s Z) {a1 : Int} (ga1 : 0 ≤ a1 ∧ a1 ≤ 3) : ∃ P : Int, P = zf_488 Z a1 ∧ (qf_488 [.inr (.inr (some (1, 0, 0))), .inl (i3 a1)] (zm Z ν) = some (zm Z ν, .inl (some (.inl (i3 P)))) ∧ 0 ≤ P ∧ P ≤ 48) := by
  obtain ⟨P, hP⟩ := zx (zf_488 Z a1)
  refine zc_R (Q := fun P => 0 ≤ P ∧ P ≤ 48) hP (fw_488 (i3 a1) _ _ ?_)
  replace hP : zE P (zf_488 Z a1) := hP
  unfold zf_488 at hP
  refine sl_488_1 (ν := ν) hZ (x1 := a1) (by omega) (x2 := 0) (by omega) (x3 := 0) (by omega) (by omega) (zconso rfl (zconso (zvo (rfl : i3 a1 = i3 a1)) (zconso (zvo (show (0 : Int32) = i3 0 from rfl)) (zconso (zvo (show (0 : Int32) = i3 0 from rfl)) rfl)))) rfl ?_
  intro L3 y1 y2 hL3 gy1 gy2 gL3_0 q9
  replace hP := zl_e2 hP (Eq.symm q9)
  clear q9
  refine fc_488_2 (i3 y1) _ _ _ _ hL3 ?_
  exact zlR hP (rfl : i3 y1 = i3 y1) ⟨by omega, by omega⟩


/-! a season told, m (printed by season.py) -/
/- yX12_rSeason -/
def zl_486_1 (x1 : Int) : Nat → qz_Z → Int → qz_Z × Int
  | 0, Z, x2 => (Z, x2)
  | m + 1, Z, x2 => (if x1 ≤ x2 then (Z, x2) else (zlet (zu Z 1 0 0 3 (((25173 * (Z 1 0 0 3)) + 13849) % 65536)) (fun Z3 => (zlet (zu Z3 1 0 0 3 (((25173 * (Z3 1 0 0 3)) + 13849) % 65536)) (fun Z14 => (zlet (zu Z14 1 0 0 3 (((25173 * (Z14 1 0 0 3)) + 13849) % 65536)) (fun Z25 => (zlet2 (zf_485 Z25 (1 + (((Z3 1 0 0 3) / 16) % 12)) (((Z14 1 0 0 3) / 16) % 10) (((Z25 1 0 0 3) / 16) % 10) 18) (fun Z37 v36 => (zlet (zu Z37 1 0 0 3 (((25173 * (Z37 1 0 0 3)) + 13849) % 65536)) (fun Z40 => (zlet (zu Z40 2 0 0 (1213 + 12 * v36) (((Z40 1 0 0 3) / 16) % 41)) (fun Z51 => (zlet (zu Z51 1 0 0 3 (((25173 * (Z51 1 0 0 3)) + 13849) % 65536)) (fun Z62 => (zlet (zu Z62 2 0 0 (1214 + 12 * v36) (((Z62 1 0 0 3) / 16) % 2)) (fun Z73 => zl_486_1 x1 m Z73 (x2 + 1))))))))))))))))))
theorem sl_486_1 {s : zS} {Zs Z : qz_Z} {ν : qz_N} (hZ : zI s Z) (hK : zK [1, 2] Zs Z) {x1 : Int} (gx1 : 0 ≤ x1 ∧ x1 ≤ 4) {x2 : Int} (gx2 : 0 ≤ x2 ∧ x2 ≤ 4) {kc0 : Int} {kc1 : Int} {kc2 : Int} {kc3 : Int} {kc4 : Int} {kc5 : Int} {kc6 : Int} (gr0 : Z 2 0 0 1200 = x2) (gr1 : Z 2 0 0 102 = kc0) (gr2 : Z 2 0 0 100 = kc1) (gr3 : Z 2 0 0 1400 = kc2) (gr4 : Z 2 0 0 1401 = kc3) (gr5 : Z 2 0 0 3000 = kc4) (gr6 : Z 2 0 0 3200 = kc5) (gr7 : Z 2 0 0 3500 = kc6) {k : wz_K} {R : wz_R} {L : qz_L} (hL : qz_fg [true, true, true, false, false, false] L = [some (.inr (.inr (some (1, 0, 0)))), some (.inl (i3 x1)), some (.inl (i3 x2)), none, none, none]) {T : qz_Z × Int} (hP : zE T (zl_486_1 x1 ((4 - x2).toNat + 1) Z x2)) (hk : ∀ (L9 : qz_L) (Z9 : qz_Z) (yx2 : Int), qz_fg [true, true, false, false, false, false] L9 = [some (.inr (.inr (some (1, 0, 0)))), some (.inl (i3 x1)), none, none, none, none] → zI s Z9 → zK [1, 2] Zs Z9 → (0 ≤ yx2 ∧ yx2 ≤ 4) → (Z9 2 0 0 1200 = yx2) → (Z9 2 0 0 102 = kc0) → (Z9 2 0 0 100 = kc1) → (Z9 2 0 0 1400 = kc2) → (Z9 2 0 0 1401 = kc3) → (Z9 2 0 0 3000 = kc4) → (Z9 2 0 0 3200 = kc5) → (Z9 2 0 0 3500 = kc6) → zE T ((Z9, yx2)) → k 0 (L9, [], zm Z9 ν)) : wz_loop qb_486_1 65536 k R (L, [], zm Z ν) := by
  refine wz_lp sb_486_1 (fun m x => ∃ Z : qz_Z, ∃ x2 : Int, qz_fg [true, true, true, false, false, false] x.1 = [some (.inr (.inr (some (1, 0, 0)))), some (.inl (i3 x1)), some (.inl (i3 x2)), none, none, none] ∧ x.2 = ([], zm Z ν) ∧ zI s Z ∧ zK [1, 2] Zs Z ∧ m = (4 - x2).toNat ∧ (0 ≤ x2 ∧ x2 ≤ 4) ∧ (Z 2 0 0 1200 = x2) ∧ (Z 2 0 0 102 = kc0) ∧ (Z 2 0 0 100 = kc1) ∧ (Z 2 0 0 1400 = kc2) ∧ (Z 2 0 0 1401 = kc3) ∧ (Z 2 0 0 3000 = kc4) ∧ (Z 2 0 0 3200 = kc5) ∧ (Z 2 0 0 3500 = kc6) ∧ zE T (zl_486_1 x1 (m + 1) Z x2)) ?_ 65536 ((4 - x2).toNat) _ (by omega) ⟨Z, x2, hL, rfl, hZ, hK, rfl, gx2, gr0, gr1, gr2, gr3, gr4, gr5, gr6, gr7, hP⟩
  clear hP gr0 gr1 gr2 gr3 gr4 gr5 gr6 gr7 gx2 hZ hK hL
  clear x2
  clear Z
  rintro m ⟨L, st, μ⟩ ⟨Z, x2, hL, hx, hZ, hK, hm, gx2, gr0, gr1, gr2, gr3, gr4, gr5, gr6, gr7, hP⟩
  cases hx
  refine fb_486_1 (i3 x1) (i3 x2) _ _ _ _ hL ?_
  refine wz_br (i3Le (rfl : i3 x1 = i3 x1) (rfl : i3 x2 = i3 x2) (by omega) (by omega) (by omega) (by omega)) (fun h1 => ?_) (fun h1 => ?_)
  · replace hP := zE_p hP h1
    exact hk _ _ _ (zconso rfl (zconso (zvo (rfl : i3 x1 = i3 x1)) (zconso rfl (zconso rfl (zconso rfl (zconso rfl rfl)))))) hZ hK (by omega) (by omega) (by omega) (by omega) (by omega) (by omega) (by omega) (by omega) (by omega) hP
  · replace hP := zE_n hP h1
    have r2 := zI_k hZ 1 0 0 3 (lo := 0) (hi := 65535) (by decide) rfl
    obtain ⟨Z3, hZ3⟩ := zx (zu Z 1 0 0 3 (((25173 * (Z 1 0 0 3)) + 13849) % 65536))
    replace hP := zl_e hP hZ3
    have hZ3I := zI_u hZ hZ3 (lo := 0) (hi := 65535) (by decide) rfl (by omega) ⟨by decide, by decide⟩ (Or.inr (by decide))
    have t4 : Z3 2 0 0 102 = Z 2 0 0 102 := zu_ne hZ3 (fun q => absurd q.1 (by decide))
    have t5 : Z3 2 0 0 100 = Z 2 0 0 100 := zu_ne hZ3 (fun q => absurd q.1 (by decide))
    have t6 : Z3 2 0 0 1400 = Z 2 0 0 1400 := zu_ne hZ3 (fun q => absurd q.1 (by decide))
    have t7 : Z3 2 0 0 1401 = Z 2 0 0 1401 := zu_ne hZ3 (fun q => absurd q.1 (by decide))
    have t8 : Z3 2 0 0 3000 = Z 2 0 0 3000 := zu_ne hZ3 (fun q => absurd q.1 (by decide))
    have t9 : Z3 2 0 0 3200 = Z 2 0 0 3200 := zu_ne hZ3 (fun q => absurd q.1 (by decide))
    have t10 : Z3 2 0 0 3500 = Z 2 0 0 3500 := zu_ne hZ3 (fun q => absurd q.1 (by decide))
    have t11 : Z3 2 0 0 1200 = Z 2 0 0 1200 := zu_ne hZ3 (fun q => absurd q.1 (by decide))
    have hZ3K := zK_u hK hZ3 (by decide)
    intro μ9 e9
    replace e9 := e9.trans (zm_wI (Z := Z) (ν := ν) hZ3 (show ((0 : Nat) : Int) = 0 from rfl) (show ((0 : Nat) : Int) = 0 from rfl) (show ((3 : Nat) : Int) = 3 from rfl) (i3R (i3A (i3M (show (25173 : Int32) = i3 25173 from rfl) (zm_rd (Z := Z) (ν := ν) (k := 1) (show ((0 : Nat) : Int) = 0 from rfl) (show ((0 : Nat) : Int) = 0 from rfl) (show ((3 : Nat) : Int) = 3 from rfl))) (show (13849 : Int32) = i3 13849 from rfl)) (show (65536 : Int32) = i3 65536 from rfl) (by omega) (by omega) (by omega) (by omega)))
    subst e9
    have r12 := zI_k hZ3I 1 0 0 3 (lo := 0) (hi := 65535) (by decide) rfl
    have q13 := zu_at hZ3
    obtain ⟨Z14, hZ14⟩ := zx (zu Z3 1 0 0 3 (((25173 * (Z3 1 0 0 3)) + 13849) % 65536))
    replace hP := zl_e hP hZ14
    have hZ14I := zI_u hZ3I hZ14 (lo := 0) (hi := 65535) (by decide) rfl (by omega) ⟨by decide, by decide⟩ (Or.inr (by decide))
    have t15 : Z14 2 0 0 102 = Z3 2 0 0 102 := zu_ne hZ14 (fun q => absurd q.1 (by decide))
    have t16 : Z14 2 0 0 100 = Z3 2 0 0 100 := zu_ne hZ14 (fun q => absurd q.1 (by decide))
    have t17 : Z14 2 0 0 1400 = Z3 2 0 0 1400 := zu_ne hZ14 (fun q => absurd q.1 (by decide))
    have t18 : Z14 2 0 0 1401 = Z3 2 0 0 1401 := zu_ne hZ14 (fun q => absurd q.1 (by decide))
    have t19 : Z14 2 0 0 3000 = Z3 2 0 0 3000 := zu_ne hZ14 (fun q => absurd q.1 (by decide))
    have t20 : Z14 2 0 0 3200 = Z3 2 0 0 3200 := zu_ne hZ14 (fun q => absurd q.1 (by decide))
    have t21 : Z14 2 0 0 3500 = Z3 2 0 0 3500 := zu_ne hZ14 (fun q => absurd q.1 (by decide))
    have t22 : Z14 2 0 0 1200 = Z3 2 0 0 1200 := zu_ne hZ14 (fun q => absurd q.1 (by decide))
    have hZ14K := zK_u hZ3K hZ14 (by decide)
    intro μ9 e9
    replace e9 := e9.trans (zm_wI (Z := Z3) (ν := ν) hZ14 (show ((0 : Nat) : Int) = 0 from rfl) (show ((0 : Nat) : Int) = 0 from rfl) (show ((3 : Nat) : Int) = 3 from rfl) (i3R (i3A (i3M (show (25173 : Int32) = i3 25173 from rfl) (zm_rd (Z := Z3) (ν := ν) (k := 1) (show ((0 : Nat) : Int) = 0 from rfl) (show ((0 : Nat) : Int) = 0 from rfl) (show ((3 : Nat) : Int) = 3 from rfl))) (show (13849 : Int32) = i3 13849 from rfl)) (show (65536 : Int32) = i3 65536 from rfl) (by omega) (by omega) (by omega) (by omega)))
    subst e9
    have r23 := zI_k hZ14I 1 0 0 3 (lo := 0) (hi := 65535) (by decide) rfl
    have q24 := zu_at hZ14
    obtain ⟨Z25, hZ25⟩ := zx (zu Z14 1 0 0 3 (((25173 * (Z14 1 0 0 3)) + 13849) % 65536))
    replace hP := zl_e hP hZ25
    have hZ25I := zI_u hZ14I hZ25 (lo := 0) (hi := 65535) (by decide) rfl (by omega) ⟨by decide, by decide⟩ (Or.inr (by decide))
    have t26 : Z25 2 0 0 102 = Z14 2 0 0 102 := zu_ne hZ25 (fun q => absurd q.1 (by decide))
    have t27 : Z25 2 0 0 100 = Z14 2 0 0 100 := zu_ne hZ25 (fun q => absurd q.1 (by decide))
    have t28 : Z25 2 0 0 1400 = Z14 2 0 0 1400 := zu_ne hZ25 (fun q => absurd q.1 (by decide))
    have t29 : Z25 2 0 0 1401 = Z14 2 0 0 1401 := zu_ne hZ25 (fun q => absurd q.1 (by decide))
    have t30 : Z25 2 0 0 3000 = Z14 2 0 0 3000 := zu_ne hZ25 (fun q => absurd q.1 (by decide))
    have t31 : Z25 2 0 0 3200 = Z14 2 0 0 3200 := zu_ne hZ25 (fun q => absurd q.1 (by decide))
    have t32 : Z25 2 0 0 3500 = Z14 2 0 0 3500 := zu_ne hZ25 (fun q => absurd q.1 (by decide))
    have t33 : Z25 2 0 0 1200 = Z14 2 0 0 1200 := zu_ne hZ25 (fun q => absurd q.1 (by decide))
    have hZ25K := zK_u hZ14K hZ25 (by decide)
    intro μ9 e9
    replace e9 := e9.trans (zm_wI (Z := Z14) (ν := ν) hZ25 (show ((0 : Nat) : Int) = 0 from rfl) (show ((0 : Nat) : Int) = 0 from rfl) (show ((3 : Nat) : Int) = 3 from rfl) (i3R (i3A (i3M (show (25173 : Int32) = i3 25173 from rfl) (zm_rd (Z := Z14) (ν := ν) (k := 1) (show ((0 : Nat) : Int) = 0 from rfl) (show ((0 : Nat) : Int) = 0 from rfl) (show ((3 : Nat) : Int) = 3 from rfl))) (show (13849 : Int32) = i3 13849 from rfl)) (show (65536 : Int32) = i3 65536 from rfl) (by omega) (by omega) (by omega) (by omega)))
    subst e9
    have r34 := zI_k hZ25I 1 0 0 3 (lo := 0) (hi := 65535) (by decide) rfl
    have q35 := zu_at hZ25
    obtain ⟨Z37, v36, hv36, c9, hZ37I, kZ37, lv36, uv36, wv360, wv361, wv362, wv363, wv364, wv365, wv366, wv367, wv368⟩ := sp_485 (ν := ν) hZ25I (a1 := (1 + (((Z3 1 0 0 3) / 16) % 12))) (by omega) (a2 := (((Z14 1 0 0 3) / 16) % 10)) (by omega) (a3 := (((Z25 1 0 0 3) / 16) % 10)) (by omega) (a4 := 18) (by omega) (by omega)
    have hZ37K : zK [1, 2] Zs Z37 := zK_t hZ25K kZ37 (by decide)
    replace hP := zl_e2 hP hv36
    refine wz_cI_of (zas (zcons rfl (zcons (zvi (i3A (show (1 : Int32) = i3 1 from rfl) (i3R (i3D (zm_rd (Z := Z3) (ν := ν) (k := 1) (show ((0 : Nat) : Int) = 0 from rfl) (show ((0 : Nat) : Int) = 0 from rfl) (show ((3 : Nat) : Int) = 3 from rfl)) (show (16 : Int32) = i3 16 from rfl) (by omega) (by omega) (by omega) (by omega)) (show (12 : Int32) = i3 12 from rfl) (by omega) (by omega) (by omega) (by omega)))) (zcons (zvi (i3R (i3D (zm_rd (Z := Z14) (ν := ν) (k := 1) (show ((0 : Nat) : Int) = 0 from rfl) (show ((0 : Nat) : Int) = 0 from rfl) (show ((3 : Nat) : Int) = 3 from rfl)) (show (16 : Int32) = i3 16 from rfl) (by omega) (by omega) (by omega) (by omega)) (show (10 : Int32) = i3 10 from rfl) (by omega) (by omega) (by omega) (by omega))) (zcons (zvi (i3R (i3D (zm_rd (Z := Z25) (ν := ν) (k := 1) (show ((0 : Nat) : Int) = 0 from rfl) (show ((0 : Nat) : Int) = 0 from rfl) (show ((3 : Nat) : Int) = 3 from rfl)) (show (16 : Int32) = i3 16 from rfl) (by omega) (by omega) (by omega) (by omega)) (show (10 : Int32) = i3 10 from rfl) (by omega) (by omega) (by omega) (by omega))) (zcons (zvi (show (18 : Int32) = i3 18 from rfl)) rfl))))) c9) ?_
    clear c9 hv36
    have r38 := zI_k hZ37I 1 0 0 3 (lo := 0) (hi := 65535) (by decide) rfl
    have q39 := kZ37 1 (by decide) 0 0 3
    obtain ⟨Z40, hZ40⟩ := zx (zu Z37 1 0 0 3 (((25173 * (Z37 1 0 0 3)) + 13849) % 65536))
    replace hP := zl_e hP hZ40
    have hZ40I := zI_u hZ37I hZ40 (lo := 0) (hi := 65535) (by decide) rfl (by omega) ⟨by decide, by decide⟩ (Or.inr (by decide))
    have t41 : Z40 2 0 0 102 = Z37 2 0 0 102 := zu_ne hZ40 (fun q => absurd q.1 (by decide))
    have t42 : Z40 2 0 0 100 = Z37 2 0 0 100 := zu_ne hZ40 (fun q => absurd q.1 (by decide))
    have t43 : Z40 2 0 0 1400 = Z37 2 0 0 1400 := zu_ne hZ40 (fun q => absurd q.1 (by decide))
    have t44 : Z40 2 0 0 1401 = Z37 2 0 0 1401 := zu_ne hZ40 (fun q => absurd q.1 (by decide))
    have t45 : Z40 2 0 0 3000 = Z37 2 0 0 3000 := zu_ne hZ40 (fun q => absurd q.1 (by decide))
    have t46 : Z40 2 0 0 3200 = Z37 2 0 0 3200 := zu_ne hZ40 (fun q => absurd q.1 (by decide))
    have t47 : Z40 2 0 0 3500 = Z37 2 0 0 3500 := zu_ne hZ40 (fun q => absurd q.1 (by decide))
    have t48 : Z40 2 0 0 1200 = Z37 2 0 0 1200 := zu_ne hZ40 (fun q => absurd q.1 (by decide))
    have hZ40K := zK_u hZ37K hZ40 (by decide)
    intro μ9 e9
    replace e9 := e9.trans (zm_wI (Z := Z37) (ν := ν) hZ40 (show ((0 : Nat) : Int) = 0 from rfl) (show ((0 : Nat) : Int) = 0 from rfl) (show ((3 : Nat) : Int) = 3 from rfl) (i3R (i3A (i3M (show (25173 : Int32) = i3 25173 from rfl) (zm_rd (Z := Z37) (ν := ν) (k := 1) (show ((0 : Nat) : Int) = 0 from rfl) (show ((0 : Nat) : Int) = 0 from rfl) (show ((3 : Nat) : Int) = 3 from rfl))) (show (13849 : Int32) = i3 13849 from rfl)) (show (65536 : Int32) = i3 65536 from rfl) (by omega) (by omega) (by omega) (by omega)))
    subst e9
    refine wz_i0 (i3O (n := 4400) (i3A (i3A (show (1210 : Int32) = i3 1210 from rfl) (i3M (show (12 : Int32) = i3 12 from rfl) (rfl : i3 v36 = i3 v36))) (show (3 : Int32) = i3 3 from rfl)) (by omega) (by omega) (by omega)) ?_
    have r49 := zI_k hZ40I 1 0 0 3 (lo := 0) (hi := 65535) (by decide) rfl
    have q50 := zu_at hZ40
    obtain ⟨Z51, hZ51⟩ := zx (zu Z40 2 0 0 (1213 + 12 * v36) (((Z40 1 0 0 3) / 16) % 41))
    replace hP := zl_e hP hZ51
    have hZ51I := zI_u hZ40I hZ51 (lo := 0) (hi := 40) (by decide) (zs_1210_3 (x := v36) (by omega) (by omega) (by omega)) (by omega) ⟨by decide, by decide⟩ (Or.inl (by decide))
    have t52 : Z51 2 0 0 102 = Z40 2 0 0 102 := zu_ne hZ51 (by omega)
    have t53 : Z51 2 0 0 100 = Z40 2 0 0 100 := zu_ne hZ51 (by omega)
    have t54 : Z51 2 0 0 1400 = Z40 2 0 0 1400 := zu_ne hZ51 (by omega)
    have t55 : Z51 2 0 0 1401 = Z40 2 0 0 1401 := zu_ne hZ51 (by omega)
    have t56 : Z51 2 0 0 3000 = Z40 2 0 0 3000 := zu_ne hZ51 (by omega)
    have t57 : Z51 2 0 0 3200 = Z40 2 0 0 3200 := zu_ne hZ51 (by omega)
    have t58 : Z51 2 0 0 3500 = Z40 2 0 0 3500 := zu_ne hZ51 (by omega)
    have t59 : Z51 2 0 0 1200 = Z40 2 0 0 1200 := zu_ne hZ51 (by omega)
    have hZ51K := zK_u hZ40K hZ51 (by decide)
    intro μ9 e9
    replace e9 := e9.trans (zm_wI (Z := Z40) (ν := ν) hZ51 (show ((0 : Nat) : Int) = 0 from rfl) (show ((0 : Nat) : Int) = 0 from rfl) (i3I (y := (1213 + 12 * v36)) (i3A (i3A (show (1210 : Int32) = i3 1210 from rfl) (i3M (show (12 : Int32) = i3 12 from rfl) (rfl : i3 v36 = i3 v36))) (show (3 : Int32) = i3 3 from rfl)) (by omega) (by omega) (by omega)) (i3R (i3D (zm_rd (Z := Z40) (ν := ν) (k := 1) (show ((0 : Nat) : Int) = 0 from rfl) (show ((0 : Nat) : Int) = 0 from rfl) (show ((3 : Nat) : Int) = 3 from rfl)) (show (16 : Int32) = i3 16 from rfl) (by omega) (by omega) (by omega) (by omega)) (show (41 : Int32) = i3 41 from rfl) (by omega) (by omega) (by omega) (by omega)))
    subst e9
    have r60 := zI_k hZ51I 1 0 0 3 (lo := 0) (hi := 65535) (by decide) rfl
    have q61 := zu_ne (k' := 1) (b' := 0) (i' := 0) (j' := 3) hZ51 (fun q => absurd q.1 (by decide))
    obtain ⟨Z62, hZ62⟩ := zx (zu Z51 1 0 0 3 (((25173 * (Z51 1 0 0 3)) + 13849) % 65536))
    replace hP := zl_e hP hZ62
    have hZ62I := zI_u hZ51I hZ62 (lo := 0) (hi := 65535) (by decide) rfl (by omega) ⟨by decide, by decide⟩ (Or.inr (by decide))
    have t63 : Z62 2 0 0 102 = Z51 2 0 0 102 := zu_ne hZ62 (fun q => absurd q.1 (by decide))
    have t64 : Z62 2 0 0 100 = Z51 2 0 0 100 := zu_ne hZ62 (fun q => absurd q.1 (by decide))
    have t65 : Z62 2 0 0 1400 = Z51 2 0 0 1400 := zu_ne hZ62 (fun q => absurd q.1 (by decide))
    have t66 : Z62 2 0 0 1401 = Z51 2 0 0 1401 := zu_ne hZ62 (fun q => absurd q.1 (by decide))
    have t67 : Z62 2 0 0 3000 = Z51 2 0 0 3000 := zu_ne hZ62 (fun q => absurd q.1 (by decide))
    have t68 : Z62 2 0 0 3200 = Z51 2 0 0 3200 := zu_ne hZ62 (fun q => absurd q.1 (by decide))
    have t69 : Z62 2 0 0 3500 = Z51 2 0 0 3500 := zu_ne hZ62 (fun q => absurd q.1 (by decide))
    have t70 : Z62 2 0 0 1200 = Z51 2 0 0 1200 := zu_ne hZ62 (fun q => absurd q.1 (by decide))
    have hZ62K := zK_u hZ51K hZ62 (by decide)
    intro μ9 e9
    replace e9 := e9.trans (zm_wI (Z := Z51) (ν := ν) hZ62 (show ((0 : Nat) : Int) = 0 from rfl) (show ((0 : Nat) : Int) = 0 from rfl) (show ((3 : Nat) : Int) = 3 from rfl) (i3R (i3A (i3M (show (25173 : Int32) = i3 25173 from rfl) (zm_rd (Z := Z51) (ν := ν) (k := 1) (show ((0 : Nat) : Int) = 0 from rfl) (show ((0 : Nat) : Int) = 0 from rfl) (show ((3 : Nat) : Int) = 3 from rfl))) (show (13849 : Int32) = i3 13849 from rfl)) (show (65536 : Int32) = i3 65536 from rfl) (by omega) (by omega) (by omega) (by omega)))
    subst e9
    refine wz_i0 (i3O (n := 4400) (i3A (i3A (show (1210 : Int32) = i3 1210 from rfl) (i3M (show (12 : Int32) = i3 12 from rfl) (rfl : i3 v36 = i3 v36))) (show (4 : Int32) = i3 4 from rfl)) (by omega) (by omega) (by omega)) ?_
    have r71 := zI_k hZ62I 1 0 0 3 (lo := 0) (hi := 65535) (by decide) rfl
    have q72 := zu_at hZ62
    obtain ⟨Z73, hZ73⟩ := zx (zu Z62 2 0 0 (1214 + 12 * v36) (((Z62 1 0 0 3) / 16) % 2))
    replace hP := zl_e hP hZ73
    have hZ73I := zI_u hZ62I hZ73 (lo := 0) (hi := 1) (by decide) (zs_1210_4 (x := v36) (by omega) (by omega) (by omega)) (by omega) ⟨by decide, by decide⟩ (Or.inl (by decide))
    have t74 : Z73 2 0 0 102 = Z62 2 0 0 102 := zu_ne hZ73 (by omega)
    have t75 : Z73 2 0 0 100 = Z62 2 0 0 100 := zu_ne hZ73 (by omega)
    have t76 : Z73 2 0 0 1400 = Z62 2 0 0 1400 := zu_ne hZ73 (by omega)
    have t77 : Z73 2 0 0 1401 = Z62 2 0 0 1401 := zu_ne hZ73 (by omega)
    have t78 : Z73 2 0 0 3000 = Z62 2 0 0 3000 := zu_ne hZ73 (by omega)
    have t79 : Z73 2 0 0 3200 = Z62 2 0 0 3200 := zu_ne hZ73 (by omega)
    have t80 : Z73 2 0 0 3500 = Z62 2 0 0 3500 := zu_ne hZ73 (by omega)
    have t81 : Z73 2 0 0 1200 = Z62 2 0 0 1200 := zu_ne hZ73 (by omega)
    have hZ73K := zK_u hZ62K hZ73 (by decide)
    intro μ9 e9
    replace e9 := e9.trans (zm_wI (Z := Z62) (ν := ν) hZ73 (show ((0 : Nat) : Int) = 0 from rfl) (show ((0 : Nat) : Int) = 0 from rfl) (i3I (y := (1214 + 12 * v36)) (i3A (i3A (show (1210 : Int32) = i3 1210 from rfl) (i3M (show (12 : Int32) = i3 12 from rfl) (rfl : i3 v36 = i3 v36))) (show (4 : Int32) = i3 4 from rfl)) (by omega) (by omega) (by omega)) (i3R (i3D (zm_rd (Z := Z62) (ν := ν) (k := 1) (show ((0 : Nat) : Int) = 0 from rfl) (show ((0 : Nat) : Int) = 0 from rfl) (show ((3 : Nat) : Int) = 3 from rfl)) (show (16 : Int32) = i3 16 from rfl) (by omega) (by omega) (by omega) (by omega)) (show (2 : Int32) = i3 2 from rfl) (by omega) (by omega) (by omega) (by omega)))
    subst e9
    obtain ⟨m2, rfl⟩ : ∃ m2, m = m2 + 1 := ⟨m - 1, by omega⟩
    exact wz_k1 ⟨m2, by omega, Z73, (x2 + 1), (zconso rfl (zconso (zvo (rfl : i3 x1 = i3 x1)) (zconso (zvo (i3A (rfl : i3 x2 = i3 x2) (show (1 : Int32) = i3 1 from rfl))) (zconso rfl (zconso rfl (zconso rfl rfl)))))), rfl, hZ73I, hZ73K, by omega, by omega, by omega, by omega, by omega, by omega, by omega, by omega, by omega, by omega,  hP⟩

/- yX12_rSeason -/
def zl_486_2 (x1 : Int) : Nat → qz_Z → Int → qz_Z × Int
  | 0, Z, x2 => (Z, x2)
  | m + 1, Z, x2 => (if 28 ≤ x2 then (Z, x2) else (zlet (zu Z 1 0 0 3 (((25173 * (Z 1 0 0 3)) + 13849) % 65536)) (fun Z3 => (zlet (zu Z3 2 0 0 (1300 + x2) (((Z3 1 0 0 3) / 16) % 41)) (fun Z14 => zl_486_2 x1 m Z14 (x2 + 1))))))
theorem sl_486_2 {s : zS} {Zs Z : qz_Z} {ν : qz_N} (hZ : zI s Z) (hK : zK [1, 2] Zs Z) {x1 : Int} (gx1 : 0 ≤ x1 ∧ x1 ≤ 4) {x2 : Int} (gx2 : 0 ≤ x2 ∧ x2 ≤ 28) {kc0 : Int} {kc1 : Int} {kc2 : Int} {kc3 : Int} {kc4 : Int} {kc5 : Int} {kc6 : Int} {kc7 : Int} (gr0 : Z 2 0 0 102 = kc0) (gr1 : Z 2 0 0 100 = kc1) (gr2 : Z 2 0 0 1200 = kc2) (gr3 : Z 2 0 0 1400 = kc3) (gr4 : Z 2 0 0 1401 = kc4) (gr5 : Z 2 0 0 3000 = kc5) (gr6 : Z 2 0 0 3200 = kc6) (gr7 : Z 2 0 0 3500 = kc7) {k : wz_K} {R : wz_R} {L : qz_L} (hL : qz_fg [true, true, true, false, false, false] L = [some (.inr (.inr (some (1, 0, 0)))), some (.inl (i3 x1)), some (.inl (i3 x2)), none, none, none]) {T : qz_Z × Int} (hP : zE T (zl_486_2 x1 ((28 - x2).toNat + 1) Z x2)) (hk : ∀ (L9 : qz_L) (Z9 : qz_Z) (yx2 : Int), qz_fg [true, true, false, false, false, false] L9 = [some (.inr (.inr (some (1, 0, 0)))), some (.inl (i3 x1)), none, none, none, none] → zI s Z9 → zK [1, 2] Zs Z9 → (0 ≤ yx2 ∧ yx2 ≤ 28) → (Z9 2 0 0 102 = kc0) → (Z9 2 0 0 100 = kc1) → (Z9 2 0 0 1200 = kc2) → (Z9 2 0 0 1400 = kc3) → (Z9 2 0 0 1401 = kc4) → (Z9 2 0 0 3000 = kc5) → (Z9 2 0 0 3200 = kc6) → (Z9 2 0 0 3500 = kc7) → zE T ((Z9, yx2)) → k 0 (L9, [], zm Z9 ν)) : wz_loop qb_486_2 65536 k R (L, [], zm Z ν) := by
  refine wz_lp sb_486_2 (fun m x => ∃ Z : qz_Z, ∃ x2 : Int, qz_fg [true, true, true, false, false, false] x.1 = [some (.inr (.inr (some (1, 0, 0)))), some (.inl (i3 x1)), some (.inl (i3 x2)), none, none, none] ∧ x.2 = ([], zm Z ν) ∧ zI s Z ∧ zK [1, 2] Zs Z ∧ m = (28 - x2).toNat ∧ (0 ≤ x2 ∧ x2 ≤ 28) ∧ (Z 2 0 0 102 = kc0) ∧ (Z 2 0 0 100 = kc1) ∧ (Z 2 0 0 1200 = kc2) ∧ (Z 2 0 0 1400 = kc3) ∧ (Z 2 0 0 1401 = kc4) ∧ (Z 2 0 0 3000 = kc5) ∧ (Z 2 0 0 3200 = kc6) ∧ (Z 2 0 0 3500 = kc7) ∧ zE T (zl_486_2 x1 (m + 1) Z x2)) ?_ 65536 ((28 - x2).toNat) _ (by omega) ⟨Z, x2, hL, rfl, hZ, hK, rfl, gx2, gr0, gr1, gr2, gr3, gr4, gr5, gr6, gr7, hP⟩
  clear hP gr0 gr1 gr2 gr3 gr4 gr5 gr6 gr7 gx2 hZ hK hL
  clear x2
  clear Z
  rintro m ⟨L, st, μ⟩ ⟨Z, x2, hL, hx, hZ, hK, hm, gx2, gr0, gr1, gr2, gr3, gr4, gr5, gr6, gr7, hP⟩
  cases hx
  refine fb_486_2 (i3 x1) (i3 x2) _ _ _ _ hL ?_
  refine wz_br (i3Le (show (28 : Int32) = i3 28 from rfl) (rfl : i3 x2 = i3 x2) (by omega) (by omega) (by omega) (by omega)) (fun h1 => ?_) (fun h1 => ?_)
  · replace hP := zE_p hP h1
    exact hk _ _ _ (zconso rfl (zconso (zvo (rfl : i3 x1 = i3 x1)) (zconso rfl (zconso rfl (zconso rfl (zconso rfl rfl)))))) hZ hK (by omega) (by omega) (by omega) (by omega) (by omega) (by omega) (by omega) (by omega) (by omega) hP
  · replace hP := zE_n hP h1
    have r2 := zI_k hZ 1 0 0 3 (lo := 0) (hi := 65535) (by decide) rfl
    obtain ⟨Z3, hZ3⟩ := zx (zu Z 1 0 0 3 (((25173 * (Z 1 0 0 3)) + 13849) % 65536))
    replace hP := zl_e hP hZ3
    have hZ3I := zI_u hZ hZ3 (lo := 0) (hi := 65535) (by decide) rfl (by omega) ⟨by decide, by decide⟩ (Or.inr (by decide))
    have t4 : Z3 2 0 0 102 = Z 2 0 0 102 := zu_ne hZ3 (fun q => absurd q.1 (by decide))
    have t5 : Z3 2 0 0 100 = Z 2 0 0 100 := zu_ne hZ3 (fun q => absurd q.1 (by decide))
    have t6 : Z3 2 0 0 1200 = Z 2 0 0 1200 := zu_ne hZ3 (fun q => absurd q.1 (by decide))
    have t7 : Z3 2 0 0 1400 = Z 2 0 0 1400 := zu_ne hZ3 (fun q => absurd q.1 (by decide))
    have t8 : Z3 2 0 0 1401 = Z 2 0 0 1401 := zu_ne hZ3 (fun q => absurd q.1 (by decide))
    have t9 : Z3 2 0 0 3000 = Z 2 0 0 3000 := zu_ne hZ3 (fun q => absurd q.1 (by decide))
    have t10 : Z3 2 0 0 3200 = Z 2 0 0 3200 := zu_ne hZ3 (fun q => absurd q.1 (by decide))
    have t11 : Z3 2 0 0 3500 = Z 2 0 0 3500 := zu_ne hZ3 (fun q => absurd q.1 (by decide))
    have hZ3K := zK_u hK hZ3 (by decide)
    intro μ9 e9
    replace e9 := e9.trans (zm_wI (Z := Z) (ν := ν) hZ3 (show ((0 : Nat) : Int) = 0 from rfl) (show ((0 : Nat) : Int) = 0 from rfl) (show ((3 : Nat) : Int) = 3 from rfl) (i3R (i3A (i3M (show (25173 : Int32) = i3 25173 from rfl) (zm_rd (Z := Z) (ν := ν) (k := 1) (show ((0 : Nat) : Int) = 0 from rfl) (show ((0 : Nat) : Int) = 0 from rfl) (show ((3 : Nat) : Int) = 3 from rfl))) (show (13849 : Int32) = i3 13849 from rfl)) (show (65536 : Int32) = i3 65536 from rfl) (by omega) (by omega) (by omega) (by omega)))
    subst e9
    refine wz_i0 (i3O (n := 4400) (i3A (show (1300 : Int32) = i3 1300 from rfl) (rfl : i3 x2 = i3 x2)) (by omega) (by omega) (by omega)) ?_
    have r12 := zI_k hZ3I 1 0 0 3 (lo := 0) (hi := 65535) (by decide) rfl
    have q13 := zu_at hZ3
    obtain ⟨Z14, hZ14⟩ := zx (zu Z3 2 0 0 (1300 + x2) (((Z3 1 0 0 3) / 16) % 41))
    replace hP := zl_e hP hZ14
    have hZ14I := zI_u hZ3I hZ14 (lo := 0) (hi := 40) (by decide) (zs_1300 (by omega) (by omega)) (by omega) ⟨by decide, by decide⟩ (Or.inl (by decide))
    have t15 : Z14 2 0 0 102 = Z3 2 0 0 102 := zu_ne hZ14 (by omega)
    have t16 : Z14 2 0 0 100 = Z3 2 0 0 100 := zu_ne hZ14 (by omega)
    have t17 : Z14 2 0 0 1200 = Z3 2 0 0 1200 := zu_ne hZ14 (by omega)
    have t18 : Z14 2 0 0 1400 = Z3 2 0 0 1400 := zu_ne hZ14 (by omega)
    have t19 : Z14 2 0 0 1401 = Z3 2 0 0 1401 := zu_ne hZ14 (by omega)
    have t20 : Z14 2 0 0 3000 = Z3 2 0 0 3000 := zu_ne hZ14 (by omega)
    have t21 : Z14 2 0 0 3200 = Z3 2 0 0 3200 := zu_ne hZ14 (by omega)
    have t22 : Z14 2 0 0 3500 = Z3 2 0 0 3500 := zu_ne hZ14 (by omega)
    have hZ14K := zK_u hZ3K hZ14 (by decide)
    intro μ9 e9
    replace e9 := e9.trans (zm_wI (Z := Z3) (ν := ν) hZ14 (show ((0 : Nat) : Int) = 0 from rfl) (show ((0 : Nat) : Int) = 0 from rfl) (i3I (y := (1300 + x2)) (i3A (show (1300 : Int32) = i3 1300 from rfl) (rfl : i3 x2 = i3 x2)) (by omega) (by omega) (by omega)) (i3R (i3D (zm_rd (Z := Z3) (ν := ν) (k := 1) (show ((0 : Nat) : Int) = 0 from rfl) (show ((0 : Nat) : Int) = 0 from rfl) (show ((3 : Nat) : Int) = 3 from rfl)) (show (16 : Int32) = i3 16 from rfl) (by omega) (by omega) (by omega) (by omega)) (show (41 : Int32) = i3 41 from rfl) (by omega) (by omega) (by omega) (by omega)))
    subst e9
    obtain ⟨m2, rfl⟩ : ∃ m2, m = m2 + 1 := ⟨m - 1, by omega⟩
    exact wz_k1 ⟨m2, by omega, Z14, (x2 + 1), (zconso rfl (zconso (zvo (rfl : i3 x1 = i3 x1)) (zconso (zvo (i3A (rfl : i3 x2 = i3 x2) (show (1 : Int32) = i3 1 from rfl))) (zconso rfl (zconso rfl (zconso rfl rfl)))))), rfl, hZ14I, hZ14K, by omega, by omega, by omega, by omega, by omega, by omega, by omega, by omega, by omega, by omega,  hP⟩

/- yX12_rSeason -/
def zl_486_3 (x1 : Int) : Nat → qz_Z → Int → qz_Z × Int
  | 0, Z, x2 => (Z, x2)
  | m + 1, Z, x2 => (if (Z 2 0 0 102) ≤ x2 then (Z, x2) else (zlet (zu Z 1 0 0 3 (((25173 * (Z 1 0 0 3)) + 13849) % 65536)) (fun Z4 => (if x1 ≤ (((Z4 1 0 0 3) / 16) % (x1 + 1)) then zl_486_3 x1 m Z4 (x2 + 1) else (zlet (zf_488 Z4 (((Z4 1 0 0 3) / 16) % (x1 + 1))) (fun v17 => (if ((Z4 2 0 0 (1210 + 12 * (((Z4 1 0 0 3) / 16) % (x1 + 1)))) - v17) ≤ 0 then zl_486_3 x1 m Z4 (x2 + 1) else (zlet (zf_472 Z4 x2 (((Z4 1 0 0 3) / 16) % (x1 + 1))) (fun Z20 => zl_486_3 x1 m Z20 (x2 + 1))))))))))
theorem sl_486_3 {s : zS} {Zs Z : qz_Z} {ν : qz_N} (hZ : zI s Z) (hK : zK [1, 2] Zs Z) {x1 : Int} (gx1 : 0 ≤ x1 ∧ x1 ≤ 4) {x2 : Int} (gx2 : 0 ≤ x2 ∧ x2 ≤ 48) {kc0 : Int} {kc1 : Int} {kc2 : Int} {kc3 : Int} {kc4 : Int} {kc5 : Int} {kc6 : Int} {kc7 : Int} (gr0 : Z 2 0 0 102 = kc0) (gr1 : Z 2 0 0 100 = kc1) (gr2 : Z 2 0 0 1200 = kc2) (gr3 : Z 2 0 0 1400 = kc3) (gr4 : Z 2 0 0 1401 = kc4) (gr5 : Z 2 0 0 3000 = kc5) (gr6 : Z 2 0 0 3200 = kc6) (gr7 : Z 2 0 0 3500 = kc7) {k : wz_K} {R : wz_R} {L : qz_L} (hL : qz_fg [true, true, true, false, false, false] L = [some (.inr (.inr (some (1, 0, 0)))), some (.inl (i3 x1)), some (.inl (i3 x2)), none, none, none]) {T : qz_Z × Int} (hP : zE T (zl_486_3 x1 ((48 - x2).toNat + 1) Z x2)) (hk : ∀ (L9 : qz_L) (Z9 : qz_Z) (yx2 : Int), qz_fg [false, false, false, false, false, false] L9 = [none, none, none, none, none, none] → zI s Z9 → zK [1, 2] Zs Z9 → (0 ≤ yx2 ∧ yx2 ≤ 48) → (Z9 2 0 0 102 = kc0) → (Z9 2 0 0 100 = kc1) → (Z9 2 0 0 1200 = kc2) → (Z9 2 0 0 1400 = kc3) → (Z9 2 0 0 1401 = kc4) → (Z9 2 0 0 3000 = kc5) → (Z9 2 0 0 3200 = kc6) → (Z9 2 0 0 3500 = kc7) → zE T ((Z9, yx2)) → k 0 (L9, [], zm Z9 ν)) : wz_loop qb_486_3 65536 k R (L, [], zm Z ν) := by
  refine wz_lp sb_486_3 (fun m x => ∃ Z : qz_Z, ∃ x2 : Int, qz_fg [true, true, true, false, false, false] x.1 = [some (.inr (.inr (some (1, 0, 0)))), some (.inl (i3 x1)), some (.inl (i3 x2)), none, none, none] ∧ x.2 = ([], zm Z ν) ∧ zI s Z ∧ zK [1, 2] Zs Z ∧ m = (48 - x2).toNat ∧ (0 ≤ x2 ∧ x2 ≤ 48) ∧ (Z 2 0 0 102 = kc0) ∧ (Z 2 0 0 100 = kc1) ∧ (Z 2 0 0 1200 = kc2) ∧ (Z 2 0 0 1400 = kc3) ∧ (Z 2 0 0 1401 = kc4) ∧ (Z 2 0 0 3000 = kc5) ∧ (Z 2 0 0 3200 = kc6) ∧ (Z 2 0 0 3500 = kc7) ∧ zE T (zl_486_3 x1 (m + 1) Z x2)) ?_ 65536 ((48 - x2).toNat) _ (by omega) ⟨Z, x2, hL, rfl, hZ, hK, rfl, gx2, gr0, gr1, gr2, gr3, gr4, gr5, gr6, gr7, hP⟩
  clear hP gr0 gr1 gr2 gr3 gr4 gr5 gr6 gr7 gx2 hZ hK hL
  clear x2
  clear Z
  rintro m ⟨L, st, μ⟩ ⟨Z, x2, hL, hx, hZ, hK, hm, gx2, gr0, gr1, gr2, gr3, gr4, gr5, gr6, gr7, hP⟩
  cases hx
  refine fb_486_3 (i3 x1) (i3 x2) _ _ _ _ hL ?_
  have r1 := zI_k hZ 2 0 0 102 (lo := 0) (hi := 48) (by decide) rfl
  refine wz_br (i3Le (zm_rd (Z := Z) (ν := ν) (k := 2) (show ((0 : Nat) : Int) = 0 from rfl) (show ((0 : Nat) : Int) = 0 from rfl) (show ((102 : Nat) : Int) = 102 from rfl)) (rfl : i3 x2 = i3 x2) (by omega) (by omega) (by omega) (by omega)) (fun h2 => ?_) (fun h2 => ?_)
  · replace hP := zE_p hP h2
    exact hk _ _ _ (zconso rfl (zconso rfl (zconso rfl (zconso rfl (zconso rfl (zconso rfl rfl)))))) hZ hK (by omega) (by omega) (by omega) (by omega) (by omega) (by omega) (by omega) (by omega) (by omega) hP
  · replace hP := zE_n hP h2
    have r3 := zI_k hZ 1 0 0 3 (lo := 0) (hi := 65535) (by decide) rfl
    obtain ⟨Z4, hZ4⟩ := zx (zu Z 1 0 0 3 (((25173 * (Z 1 0 0 3)) + 13849) % 65536))
    replace hP := zl_e hP hZ4
    have hZ4I := zI_u hZ hZ4 (lo := 0) (hi := 65535) (by decide) rfl (by omega) ⟨by decide, by decide⟩ (Or.inr (by decide))
    have t5 : Z4 2 0 0 102 = Z 2 0 0 102 := zu_ne hZ4 (fun q => absurd q.1 (by decide))
    have t6 : Z4 2 0 0 100 = Z 2 0 0 100 := zu_ne hZ4 (fun q => absurd q.1 (by decide))
    have t7 : Z4 2 0 0 1200 = Z 2 0 0 1200 := zu_ne hZ4 (fun q => absurd q.1 (by decide))
    have t8 : Z4 2 0 0 1400 = Z 2 0 0 1400 := zu_ne hZ4 (fun q => absurd q.1 (by decide))
    have t9 : Z4 2 0 0 1401 = Z 2 0 0 1401 := zu_ne hZ4 (fun q => absurd q.1 (by decide))
    have t10 : Z4 2 0 0 3000 = Z 2 0 0 3000 := zu_ne hZ4 (fun q => absurd q.1 (by decide))
    have t11 : Z4 2 0 0 3200 = Z 2 0 0 3200 := zu_ne hZ4 (fun q => absurd q.1 (by decide))
    have t12 : Z4 2 0 0 3500 = Z 2 0 0 3500 := zu_ne hZ4 (fun q => absurd q.1 (by decide))
    have hZ4K := zK_u hK hZ4 (by decide)
    intro μ9 e9
    replace e9 := e9.trans (zm_wI (Z := Z) (ν := ν) hZ4 (show ((0 : Nat) : Int) = 0 from rfl) (show ((0 : Nat) : Int) = 0 from rfl) (show ((3 : Nat) : Int) = 3 from rfl) (i3R (i3A (i3M (show (25173 : Int32) = i3 25173 from rfl) (zm_rd (Z := Z) (ν := ν) (k := 1) (show ((0 : Nat) : Int) = 0 from rfl) (show ((0 : Nat) : Int) = 0 from rfl) (show ((3 : Nat) : Int) = 3 from rfl))) (show (13849 : Int32) = i3 13849 from rfl)) (show (65536 : Int32) = i3 65536 from rfl) (by omega) (by omega) (by omega) (by omega)))
    subst e9
    refine wz_i0 (i3N0 (i3A (rfl : i3 x1 = i3 x1) (show (1 : Int32) = i3 1 from rfl)) (by omega) (by omega) (by omega)) ?_
    have r13 := zI_k hZ4I 1 0 0 3 (lo := 0) (hi := 65535) (by decide) rfl
    have q14 := zu_at hZ4
    have r15 := z_mod ((Z4 1 0 0 3) / 16) (y := (x1 + 1)) (by omega)
    refine wz_br (i3Le (rfl : i3 x1 = i3 x1) (i3R (i3D (zm_rd (Z := Z4) (ν := ν) (k := 1) (show ((0 : Nat) : Int) = 0 from rfl) (show ((0 : Nat) : Int) = 0 from rfl) (show ((3 : Nat) : Int) = 3 from rfl)) (show (16 : Int32) = i3 16 from rfl) (by omega) (by omega) (by omega) (by omega)) (i3A (rfl : i3 x1 = i3 x1) (show (1 : Int32) = i3 1 from rfl)) (by omega) (by omega) (by omega) (by omega)) (by omega) (by omega) (by omega) (by omega)) (fun h16 => ?_) (fun h16 => ?_)
    · replace hP := zE_p hP h16
      obtain ⟨m2, rfl⟩ : ∃ m2, m = m2 + 1 := ⟨m - 1, by omega⟩
      exact wz_k1 ⟨m2, by omega, Z4, (x2 + 1), (zconso rfl (zconso (zvo (rfl : i3 x1 = i3 x1)) (zconso (zvo (i3A (rfl : i3 x2 = i3 x2) (show (1 : Int32) = i3 1 from rfl))) (zconso rfl (zconso rfl (zconso rfl rfl)))))), rfl, hZ4I, hZ4K, by omega, by omega, by omega, by omega, by omega, by omega, by omega, by omega, by omega, by omega,  hP⟩
    · replace hP := zE_n hP h16
      refine wz_i1 (Eq.trans (i3NE (i3R (i3D (zm_rd (Z := Z4) (ν := ν) (k := 1) (show ((0 : Nat) : Int) = 0 from rfl) (show ((0 : Nat) : Int) = 0 from rfl) (show ((3 : Nat) : Int) = 3 from rfl)) (show (16 : Int32) = i3 16 from rfl) (by omega) (by omega) (by omega) (by omega)) (i3A (rfl : i3 x1 = i3 x1) (show (1 : Int32) = i3 1 from rfl)) (by omega) (by omega) (by omega) (by omega)) (show (6 : Int32) = i3 6 from rfl) (by omega) (by omega) (by omega) (by omega)) (decide_eq_true (by omega))) ?_
      refine wz_i0 (i3O (n := 4400) (i3A (i3A (show (1210 : Int32) = i3 1210 from rfl) (i3M (show (12 : Int32) = i3 12 from rfl) (i3R (i3D (zm_rd (Z := Z4) (ν := ν) (k := 1) (show ((0 : Nat) : Int) = 0 from rfl) (show ((0 : Nat) : Int) = 0 from rfl) (show ((3 : Nat) : Int) = 3 from rfl)) (show (16 : Int32) = i3 16 from rfl) (by omega) (by omega) (by omega) (by omega)) (i3A (rfl : i3 x1 = i3 x1) (show (1 : Int32) = i3 1 from rfl)) (by omega) (by omega) (by omega) (by omega)))) (show (0 : Int32) = i3 0 from rfl)) (by omega) (by omega) (by omega)) ?_
      obtain ⟨v17, hv17, c9, lv17, uv17⟩ := sp_488 (ν := ν) hZ4I (a1 := (((Z4 1 0 0 3) / 16) % (x1 + 1))) (by omega)
      replace hP := zl_e hP hv17
      refine wz_cI_of (zas (zcons rfl (zcons (zvi (i3R (i3D (zm_rd (Z := Z4) (ν := ν) (k := 1) (show ((0 : Nat) : Int) = 0 from rfl) (show ((0 : Nat) : Int) = 0 from rfl) (show ((3 : Nat) : Int) = 3 from rfl)) (show (16 : Int32) = i3 16 from rfl) (by omega) (by omega) (by omega) (by omega)) (i3A (rfl : i3 x1 = i3 x1) (show (1 : Int32) = i3 1 from rfl)) (by omega) (by omega) (by omega) (by omega))) rfl)) c9) ?_
      clear c9
      have r18 := zI_k hZ4I 2 0 0 (1210 + 12 * (((Z4 1 0 0 3) / 16) % (x1 + 1))) (lo := 0) (hi := 12) (by decide) (zs_1210_0 (x := (((Z4 1 0 0 3) / 16) % (x1 + 1))) (by omega) (by omega) (by omega))
      refine wz_br (i3Le (i3S (zm_rd (Z := Z4) (ν := ν) (k := 2) (show ((0 : Nat) : Int) = 0 from rfl) (show ((0 : Nat) : Int) = 0 from rfl) (i3I (y := (1210 + 12 * (((Z4 1 0 0 3) / 16) % (x1 + 1)))) (i3A (i3A (show (1210 : Int32) = i3 1210 from rfl) (i3M (show (12 : Int32) = i3 12 from rfl) (i3R (i3D (zm_rd (Z := Z4) (ν := ν) (k := 1) (show ((0 : Nat) : Int) = 0 from rfl) (show ((0 : Nat) : Int) = 0 from rfl) (show ((3 : Nat) : Int) = 3 from rfl)) (show (16 : Int32) = i3 16 from rfl) (by omega) (by omega) (by omega) (by omega)) (i3A (rfl : i3 x1 = i3 x1) (show (1 : Int32) = i3 1 from rfl)) (by omega) (by omega) (by omega) (by omega)))) (show (0 : Int32) = i3 0 from rfl)) (by omega) (by omega) (by omega))) (rfl : i3 v17 = i3 v17)) (show (0 : Int32) = i3 0 from rfl) (by omega) (by omega) (by omega) (by omega)) (fun h19 => ?_) (fun h19 => ?_)
      · replace hP := zE_p hP h19
        obtain ⟨m2, rfl⟩ : ∃ m2, m = m2 + 1 := ⟨m - 1, by omega⟩
        exact wz_k1 ⟨m2, by omega, Z4, (x2 + 1), (zconso rfl (zconso (zvo (rfl : i3 x1 = i3 x1)) (zconso (zvo (i3A (rfl : i3 x2 = i3 x2) (show (1 : Int32) = i3 1 from rfl))) (zconso rfl (zconso rfl (zconso rfl rfl)))))), rfl, hZ4I, hZ4K, by omega, by omega, by omega, by omega, by omega, by omega, by omega, by omega, by omega, by omega,  hP⟩
      · replace hP := zE_n hP h19
        obtain ⟨Z20, hZ20, c9, hZ20I, kZ20, wZ200, wZ201, wZ202, wZ203, wZ204, wZ205, wZ206, wZ207⟩ := sp_472 (ν := ν) hZ4I (a1 := x2) (by omega) (a2 := (((Z4 1 0 0 3) / 16) % (x1 + 1))) (by omega)
        have hZ20K : zK [1, 2] Zs Z20 := zK_t hZ4K kZ20 (by decide)
        replace hP := zl_e hP hZ20
        refine wz_cV_of (zas (zcons rfl (zcons (zvi (rfl : i3 x2 = i3 x2)) (zcons (zvi (i3R (i3D (zm_rd (Z := Z4) (ν := ν) (k := 1) (show ((0 : Nat) : Int) = 0 from rfl) (show ((0 : Nat) : Int) = 0 from rfl) (show ((3 : Nat) : Int) = 3 from rfl)) (show (16 : Int32) = i3 16 from rfl) (by omega) (by omega) (by omega) (by omega)) (i3A (rfl : i3 x1 = i3 x1) (show (1 : Int32) = i3 1 from rfl)) (by omega) (by omega) (by omega) (by omega))) rfl))) c9) ?_
        clear c9
        obtain ⟨m2, rfl⟩ : ∃ m2, m = m2 + 1 := ⟨m - 1, by omega⟩
        exact wz_k1 ⟨m2, by omega, Z20, (x2 + 1), (zconso rfl (zconso (zvo (rfl : i3 x1 = i3 x1)) (zconso (zvo (i3A (rfl : i3 x2 = i3 x2) (show (1 : Int32) = i3 1 from rfl))) (zconso rfl (zconso rfl (zconso rfl rfl)))))), rfl, hZ20I, hZ20K, by omega, by omega, by omega, by omega, by omega, by omega, by omega, by omega, by omega, by omega,  hP⟩

/- yX12_rSeason -/
def zf_486 (Z : qz_Z) : qz_Z := (zlet (zu Z 1 0 0 3 (((25173 * (Z 1 0 0 3)) + 13849) % 65536)) (fun Z2 => (zlet2 (zl_486_1 (((Z2 1 0 0 3) / 16) % 5) 5 Z2 0) (fun Z14 y13 => (zlet2 (zl_486_2 (((Z2 1 0 0 3) / 16) % 5) 29 Z14 0) (fun Z17 y16 => (zlet2 (zl_486_3 (((Z2 1 0 0 3) / 16) % 5) 49 Z17 0) (fun Z20 y19 => Z20))))))))
theorem sp_486 {s : zS} {Z : qz_Z} {ν : qz_N} (hZ : zI s Z) (gx0 : Z 2 0 0 1200 = 0) : ∃ P : qz_Z, P = zf_486 Z ∧ (qf_486 [.inr (.inr (some (1, 0, 0)))] (zm Z ν) = some (zm P ν, .inl none) ∧ zI s P ∧ zK [1, 2] Z P ∧ P 2 0 0 102 = Z 2 0 0 102 ∧ P 2 0 0 100 = Z 2 0 0 100 ∧ P 2 0 0 1400 = Z 2 0 0 1400 ∧ P 2 0 0 1401 = Z 2 0 0 1401 ∧ P 2 0 0 3000 = Z 2 0 0 3000 ∧ P 2 0 0 3200 = Z 2 0 0 3200 ∧ P 2 0 0 3500 = Z 2 0 0 3500) := by
  obtain ⟨P, hP⟩ := zx (zf_486 Z)
  refine zc_V (Q := fun P => zI s P ∧ zK [1, 2] Z P ∧ P 2 0 0 102 = Z 2 0 0 102 ∧ P 2 0 0 100 = Z 2 0 0 100 ∧ P 2 0 0 1400 = Z 2 0 0 1400 ∧ P 2 0 0 1401 = Z 2 0 0 1401 ∧ P 2 0 0 3000 = Z 2 0 0 3000 ∧ P 2 0 0 3200 = Z 2 0 0 3200 ∧ P 2 0 0 3500 = Z 2 0 0 3500) hP (fw_486  _ _ ?_)
  replace hP : zE P (zf_486 Z) := hP
  unfold zf_486 at hP
  have r1 := zI_k hZ 1 0 0 3 (lo := 0) (hi := 65535) (by decide) rfl
  obtain ⟨Z2, hZ2⟩ := zx (zu Z 1 0 0 3 (((25173 * (Z 1 0 0 3)) + 13849) % 65536))
  replace hP := zl_e hP hZ2
  have hZ2I := zI_u hZ hZ2 (lo := 0) (hi := 65535) (by decide) rfl (by omega) ⟨by decide, by decide⟩ (Or.inr (by decide))
  have t3 : Z2 2 0 0 102 = Z 2 0 0 102 := zu_ne hZ2 (fun q => absurd q.1 (by decide))
  have t4 : Z2 2 0 0 100 = Z 2 0 0 100 := zu_ne hZ2 (fun q => absurd q.1 (by decide))
  have t5 : Z2 2 0 0 1200 = Z 2 0 0 1200 := zu_ne hZ2 (fun q => absurd q.1 (by decide))
  have t6 : Z2 2 0 0 1400 = Z 2 0 0 1400 := zu_ne hZ2 (fun q => absurd q.1 (by decide))
  have t7 : Z2 2 0 0 1401 = Z 2 0 0 1401 := zu_ne hZ2 (fun q => absurd q.1 (by decide))
  have t8 : Z2 2 0 0 3000 = Z 2 0 0 3000 := zu_ne hZ2 (fun q => absurd q.1 (by decide))
  have t9 : Z2 2 0 0 3200 = Z 2 0 0 3200 := zu_ne hZ2 (fun q => absurd q.1 (by decide))
  have t10 : Z2 2 0 0 3500 = Z 2 0 0 3500 := zu_ne hZ2 (fun q => absurd q.1 (by decide))
  have hZ2K : zK [1, 2] Z Z2 := zK_u zK_r hZ2 (by decide)
  intro μ9 e9
  replace e9 := e9.trans (zm_wI (Z := Z) (ν := ν) hZ2 (show ((0 : Nat) : Int) = 0 from rfl) (show ((0 : Nat) : Int) = 0 from rfl) (show ((3 : Nat) : Int) = 3 from rfl) (i3R (i3A (i3M (show (25173 : Int32) = i3 25173 from rfl) (zm_rd (Z := Z) (ν := ν) (k := 1) (show ((0 : Nat) : Int) = 0 from rfl) (show ((0 : Nat) : Int) = 0 from rfl) (show ((3 : Nat) : Int) = 3 from rfl))) (show (13849 : Int32) = i3 13849 from rfl)) (show (65536 : Int32) = i3 65536 from rfl) (by omega) (by omega) (by omega) (by omega)))
  subst e9
  have r11 := zI_k hZ2I 1 0 0 3 (lo := 0) (hi := 65535) (by decide) rfl
  have q12 := zu_at hZ2
  refine sl_486_1 (ν := ν) hZ2I zK_r (x1 := (((Z2 1 0 0 3) / 16) % 5)) (by omega) (x2 := 0) (by omega) (kc6 := Z2 2 0 0 3500) (kc5 := Z2 2 0 0 3200) (kc4 := Z2 2 0 0 3000) (kc3 := Z2 2 0 0 1401) (kc2 := Z2 2 0 0 1400) (kc1 := Z2 2 0 0 100) (kc0 := Z2 2 0 0 102) (by omega) (by omega) (by omega) (by omega) (by omega) (by omega) (by omega) (by omega) (zconso rfl (zconso (zvo (i3R (i3D (zm_rd (Z := Z2) (ν := ν) (k := 1) (show ((0 : Nat) : Int) = 0 from rfl) (show ((0 : Nat) : Int) = 0 from rfl) (show ((3 : Nat) : Int) = 3 from rfl)) (show (16 : Int32) = i3 16 from rfl) (by omega) (by omega) (by omega) (by omega)) (show (5 : Int32) = i3 5 from rfl) (by omega) (by omega) (by omega) (by omega))) (zconso (zvo (show (0 : Int32) = i3 0 from rfl)) (zconso rfl (zconso rfl (zconso rfl rfl)))))) rfl ?_
  intro L15 Z14 y13 hL15 hZ14I kZ14 gy13 gL15_0 gL15_1 gL15_2 gL15_3 gL15_4 gL15_5 gL15_6 gL15_7 q9
  replace hP := zl_e2 hP (Eq.symm q9)
  clear q9
  have hZ14K : zK [1, 2] Z Z14 := zK_t hZ2K kZ14 (by decide)
  refine fc_486_6 (i3 (((Z2 1 0 0 3) / 16) % 5)) _ _ _ _ hL15 ?_
  refine sl_486_2 (ν := ν) hZ14I zK_r (x1 := (((Z2 1 0 0 3) / 16) % 5)) (by omega) (x2 := 0) (by omega) (kc7 := Z14 2 0 0 3500) (kc6 := Z14 2 0 0 3200) (kc5 := Z14 2 0 0 3000) (kc4 := Z14 2 0 0 1401) (kc3 := Z14 2 0 0 1400) (kc2 := Z14 2 0 0 1200) (kc1 := Z14 2 0 0 100) (kc0 := Z14 2 0 0 102) (by omega) (by omega) (by omega) (by omega) (by omega) (by omega) (by omega) (by omega) (zconso rfl (zconso (zvo (rfl : i3 (((Z2 1 0 0 3) / 16) % 5) = i3 (((Z2 1 0 0 3) / 16) % 5))) (zconso (zvo (show (0 : Int32) = i3 0 from rfl)) (zconso rfl (zconso rfl (zconso rfl rfl)))))) rfl ?_
  intro L18 Z17 y16 hL18 hZ17I kZ17 gy16 gL18_0 gL18_1 gL18_2 gL18_3 gL18_4 gL18_5 gL18_6 gL18_7 q9
  replace hP := zl_e2 hP (Eq.symm q9)
  clear q9
  have hZ17K : zK [1, 2] Z Z17 := zK_t hZ14K kZ17 (by decide)
  refine fc_486_5 (i3 (((Z2 1 0 0 3) / 16) % 5)) _ _ _ _ hL18 ?_
  refine sl_486_3 (ν := ν) hZ17I zK_r (x1 := (((Z2 1 0 0 3) / 16) % 5)) (by omega) (x2 := 0) (by omega) (kc7 := Z17 2 0 0 3500) (kc6 := Z17 2 0 0 3200) (kc5 := Z17 2 0 0 3000) (kc4 := Z17 2 0 0 1401) (kc3 := Z17 2 0 0 1400) (kc2 := Z17 2 0 0 1200) (kc1 := Z17 2 0 0 100) (kc0 := Z17 2 0 0 102) (by omega) (by omega) (by omega) (by omega) (by omega) (by omega) (by omega) (by omega) (zconso rfl (zconso (zvo (rfl : i3 (((Z2 1 0 0 3) / 16) % 5) = i3 (((Z2 1 0 0 3) / 16) % 5))) (zconso (zvo (show (0 : Int32) = i3 0 from rfl)) (zconso rfl (zconso rfl (zconso rfl rfl)))))) rfl ?_
  intro L21 Z20 y19 hL21 hZ20I kZ20 gy19 gL21_0 gL21_1 gL21_2 gL21_3 gL21_4 gL21_5 gL21_6 gL21_7 q9
  replace hP := zl_e2 hP (Eq.symm q9)
  clear q9
  have hZ20K : zK [1, 2] Z Z20 := zK_t hZ17K kZ20 (by decide)
  refine fc_486_4  _ _ _ _ hL21 ?_
  exact zlV hP ⟨hZ20I, hZ20K, by omega, by omega, by omega, by omega, by omega, by omega, by omega⟩

/- yX12_buyer -/
def zf_295q (Z : qz_Z) (a1 : Int) (a2 : Int) (a3 : Int) : qz_Z × Int := (zlet (zu Z 1 0 0 2 0) (fun Z1 => (zlet (zu Z1 1 0 0 2 0) (fun Z9 => (if 8 ≤ (Z9 2 0 0 1400) then (zlet (zu Z9 1 0 0 2 3) (fun Z19 => (Z19, 0))) else (zlet (zu Z9 1 0 0 2 0) (fun Z27 => (zlet (zu Z27 2 0 0 (1410 + 12 * (Z27 2 0 0 1400)) a1) (fun Z38 => (zlet (zu Z38 2 0 0 (1411 + 12 * (Z27 2 0 0 1400)) a2) (fun Z46 => (zlet (zu Z46 2 0 0 (1412 + 12 * (Z27 2 0 0 1400)) a3) (fun Z54 => (zlet (zu Z54 2 0 0 1400 ((Z54 2 0 0 1400) + 1)) (fun Z63 => (Z63, (Z27 2 0 0 1400)))))))))))))))))
theorem sp_295q {Z : qz_Z} {ν : qz_N} (hZ : zI (some none) Z) {a1 : Int} (ga1 : 0 ≤ a1 ∧ a1 ≤ 4) {a2 : Int} (ga2 : 100000 ≤ a2 ∧ a2 ≤ 4000000) {a3 : Int} (ga3 : 0 ≤ a3 ∧ a3 ≤ 7) (gx0 : Z 2 0 0 1400 ≤ 7) : ∃ (Z1 : qz_Z) (P : Int), (Z1, P) = zf_295q Z a1 a2 a3 ∧ (qf_295 [.inr (.inr (some (1, 0, 0))), .inl (i3 a1), .inl (i3 a2), .inl (i3 a3)] (zm Z ν) = some (zm Z1 ν, .inl (some (.inl (i3 P)))) ∧ zI (some none) Z1 ∧ zK [1, 2] Z Z1 ∧ 0 ≤ P ∧ P ≤ 7 ∧ Z1 2 0 0 1400 = Z 2 0 0 1400 + 1 ∧ Z1 2 0 0 102 = Z 2 0 0 102 ∧ Z1 2 0 0 100 = Z 2 0 0 100 ∧ Z1 2 0 0 1401 = Z 2 0 0 1401 ∧ Z1 2 0 0 3000 = Z 2 0 0 3000 ∧ Z1 2 0 0 3200 = Z 2 0 0 3200 ∧ Z1 2 0 0 3500 = Z 2 0 0 3500) := by
  obtain ⟨P, hP⟩ := zx (zf_295q Z a1 a2 a3)
  refine zc_W (Q := fun Z1 P => zI (some none) Z1 ∧ zK [1, 2] Z Z1 ∧ 0 ≤ P ∧ P ≤ 7 ∧ Z1 2 0 0 1400 = Z 2 0 0 1400 + 1 ∧ Z1 2 0 0 102 = Z 2 0 0 102 ∧ Z1 2 0 0 100 = Z 2 0 0 100 ∧ Z1 2 0 0 1401 = Z 2 0 0 1401 ∧ Z1 2 0 0 3000 = Z 2 0 0 3000 ∧ Z1 2 0 0 3200 = Z 2 0 0 3200 ∧ Z1 2 0 0 3500 = Z 2 0 0 3500) hP (fw_295 (i3 a1) (i3 a2) (i3 a3) _ _ ?_)
  replace hP : zE P (zf_295q Z a1 a2 a3) := hP
  unfold zf_295q at hP
  refine wz_i0 (Eq.trans (i3L (rfl : i3 a1 = i3 a1) (show (0 : Int32) = i3 0 from rfl) (by omega) (by omega) (by omega) (by omega)) (decide_eq_false (by omega))) ?_
  refine wz_i0 (Eq.trans (i3L (show (4 : Int32) = i3 4 from rfl) (rfl : i3 a1 = i3 a1) (by omega) (by omega) (by omega) (by omega)) (decide_eq_false (by omega))) ?_
  obtain ⟨Z1, hZ1⟩ := zx (zu Z 1 0 0 2 0)
  replace hP := zl_e hP hZ1
  have hZ1I := zI_0 hZ hZ1 (by decide) (Or.inr (by decide))
  have t2 : Z1 2 0 0 102 = Z 2 0 0 102 := zu_ne hZ1 (fun q => absurd q.1 (by decide))
  have t3 : Z1 2 0 0 100 = Z 2 0 0 100 := zu_ne hZ1 (fun q => absurd q.1 (by decide))
  have t4 : Z1 2 0 0 1400 = Z 2 0 0 1400 := zu_ne hZ1 (fun q => absurd q.1 (by decide))
  have t5 : Z1 2 0 0 1401 = Z 2 0 0 1401 := zu_ne hZ1 (fun q => absurd q.1 (by decide))
  have t6 : Z1 2 0 0 3000 = Z 2 0 0 3000 := zu_ne hZ1 (fun q => absurd q.1 (by decide))
  have t7 : Z1 2 0 0 3200 = Z 2 0 0 3200 := zu_ne hZ1 (fun q => absurd q.1 (by decide))
  have t8 : Z1 2 0 0 3500 = Z 2 0 0 3500 := zu_ne hZ1 (fun q => absurd q.1 (by decide))
  have hZ1K : zK [1, 2] Z Z1 := zK_u zK_r hZ1 (by decide)
  intro μ9 e9
  replace e9 := e9.trans (zm_wI (Z := Z) (ν := ν) hZ1 (show ((0 : Nat) : Int) = 0 from rfl) (show ((0 : Nat) : Int) = 0 from rfl) (show ((2 : Nat) : Int) = 2 from rfl) (show (0 : Int32) = i3 0 from rfl))
  subst e9
  refine wz_i0 (Eq.trans (i3L (rfl : i3 a2 = i3 a2) (show (0 : Int32) = i3 0 from rfl) (by omega) (by omega) (by omega) (by omega)) (decide_eq_false (by omega))) ?_
  refine wz_i0 (Eq.trans (i3L (show (9999999 : Int32) = i3 9999999 from rfl) (rfl : i3 a2 = i3 a2) (by omega) (by omega) (by omega) (by omega)) (decide_eq_false (by omega))) ?_
  refine wz_i0 (Eq.trans (i3L (rfl : i3 a3 = i3 a3) (show (0 : Int32) = i3 0 from rfl) (by omega) (by omega) (by omega) (by omega)) (decide_eq_false (by omega))) ?_
  refine wz_i0 (Eq.trans (i3L (show (14 : Int32) = i3 14 from rfl) (rfl : i3 a3 = i3 a3) (by omega) (by omega) (by omega) (by omega)) (decide_eq_false (by omega))) ?_
  obtain ⟨Z9, hZ9⟩ := zx (zu Z1 1 0 0 2 0)
  replace hP := zl_e hP hZ9
  have hZ9I := zI_0 hZ1I hZ9 (by decide) (Or.inr (by decide))
  have t10 : Z9 2 0 0 102 = Z1 2 0 0 102 := zu_ne hZ9 (fun q => absurd q.1 (by decide))
  have t11 : Z9 2 0 0 100 = Z1 2 0 0 100 := zu_ne hZ9 (fun q => absurd q.1 (by decide))
  have t12 : Z9 2 0 0 1400 = Z1 2 0 0 1400 := zu_ne hZ9 (fun q => absurd q.1 (by decide))
  have t13 : Z9 2 0 0 1401 = Z1 2 0 0 1401 := zu_ne hZ9 (fun q => absurd q.1 (by decide))
  have t14 : Z9 2 0 0 3000 = Z1 2 0 0 3000 := zu_ne hZ9 (fun q => absurd q.1 (by decide))
  have t15 : Z9 2 0 0 3200 = Z1 2 0 0 3200 := zu_ne hZ9 (fun q => absurd q.1 (by decide))
  have t16 : Z9 2 0 0 3500 = Z1 2 0 0 3500 := zu_ne hZ9 (fun q => absurd q.1 (by decide))
  have hZ9K := zK_u hZ1K hZ9 (by decide)
  intro μ9 e9
  replace e9 := e9.trans (zm_wI (Z := Z1) (ν := ν) hZ9 (show ((0 : Nat) : Int) = 0 from rfl) (show ((0 : Nat) : Int) = 0 from rfl) (show ((2 : Nat) : Int) = 2 from rfl) (show (0 : Int32) = i3 0 from rfl))
  subst e9
  have r17 := zI_k hZ9I 2 0 0 1400 (lo := 0) (hi := 8) (by decide) rfl
  refine wz_br (i3Le (show (8 : Int32) = i3 8 from rfl) (zm_rd (Z := Z9) (ν := ν) (k := 2) (show ((0 : Nat) : Int) = 0 from rfl) (show ((0 : Nat) : Int) = 0 from rfl) (show ((1400 : Nat) : Int) = 1400 from rfl)) (by omega) (by omega) (by omega) (by omega)) (fun h18 => ?_) (fun h18 => ?_)
  · replace hP := zE_p hP h18
    obtain ⟨Z19, hZ19⟩ := zx (zu Z9 1 0 0 2 3)
    replace hP := zl_e hP hZ19
    have hZ19I := zI_u hZ9I hZ19 (lo := -2147483648) (hi := 2147483647) (by decide) rfl (by omega) ⟨by decide, by decide⟩ (Or.inr (by decide))
    have t20 : Z19 2 0 0 102 = Z9 2 0 0 102 := zu_ne hZ19 (fun q => absurd q.1 (by decide))
    have t21 : Z19 2 0 0 100 = Z9 2 0 0 100 := zu_ne hZ19 (fun q => absurd q.1 (by decide))
    have t22 : Z19 2 0 0 1400 = Z9 2 0 0 1400 := zu_ne hZ19 (fun q => absurd q.1 (by decide))
    have t23 : Z19 2 0 0 1401 = Z9 2 0 0 1401 := zu_ne hZ19 (fun q => absurd q.1 (by decide))
    have t24 : Z19 2 0 0 3000 = Z9 2 0 0 3000 := zu_ne hZ19 (fun q => absurd q.1 (by decide))
    have t25 : Z19 2 0 0 3200 = Z9 2 0 0 3200 := zu_ne hZ19 (fun q => absurd q.1 (by decide))
    have t26 : Z19 2 0 0 3500 = Z9 2 0 0 3500 := zu_ne hZ19 (fun q => absurd q.1 (by decide))
    have hZ19K := zK_u hZ9K hZ19 (by decide)
    intro μ9 e9
    replace e9 := e9.trans (zm_wI (Z := Z9) (ν := ν) hZ19 (show ((0 : Nat) : Int) = 0 from rfl) (show ((0 : Nat) : Int) = 0 from rfl) (show ((2 : Nat) : Int) = 2 from rfl) (show (3 : Int32) = i3 3 from rfl))
    subst e9
    exact zlW hP (show (0 : Int32) = i3 0 from rfl) ⟨hZ19I, hZ19K, by omega, by omega, by omega, by omega, by omega, by omega, by omega, by omega, by omega⟩
  · replace hP := zE_n hP h18
    obtain ⟨Z27, hZ27⟩ := zx (zu Z9 1 0 0 2 0)
    replace hP := zl_e hP hZ27
    have hZ27I := zI_0 hZ9I hZ27 (by decide) (Or.inr (by decide))
    have t28 : Z27 2 0 0 102 = Z9 2 0 0 102 := zu_ne hZ27 (fun q => absurd q.1 (by decide))
    have t29 : Z27 2 0 0 100 = Z9 2 0 0 100 := zu_ne hZ27 (fun q => absurd q.1 (by decide))
    have t30 : Z27 2 0 0 1400 = Z9 2 0 0 1400 := zu_ne hZ27 (fun q => absurd q.1 (by decide))
    have t31 : Z27 2 0 0 1401 = Z9 2 0 0 1401 := zu_ne hZ27 (fun q => absurd q.1 (by decide))
    have t32 : Z27 2 0 0 3000 = Z9 2 0 0 3000 := zu_ne hZ27 (fun q => absurd q.1 (by decide))
    have t33 : Z27 2 0 0 3200 = Z9 2 0 0 3200 := zu_ne hZ27 (fun q => absurd q.1 (by decide))
    have t34 : Z27 2 0 0 3500 = Z9 2 0 0 3500 := zu_ne hZ27 (fun q => absurd q.1 (by decide))
    have hZ27K := zK_u hZ9K hZ27 (by decide)
    intro μ9 e9
    replace e9 := e9.trans (zm_wI (Z := Z9) (ν := ν) hZ27 (show ((0 : Nat) : Int) = 0 from rfl) (show ((0 : Nat) : Int) = 0 from rfl) (show ((2 : Nat) : Int) = 2 from rfl) (show (0 : Int32) = i3 0 from rfl))
    subst e9
    have r35 := zI_q hZ27I
    refine wz_i1 (Eq.trans (i3NE (zm_rd (Z := Z27) (ν := ν) (k := 1) (show ((0 : Nat) : Int) = 0 from rfl) (show ((0 : Nat) : Int) = 0 from rfl) (show ((35 : Nat) : Int) = 35 from rfl)) (show (0 : Int32) = i3 0 from rfl) (by omega) (by omega) (by omega) (by omega)) (decide_eq_true (by omega))) ?_
    have r36 := zI_k hZ27I 2 0 0 1400 (lo := 0) (hi := 8) (by decide) rfl
    have q37 := zu_ne (k' := 2) (b' := 0) (i' := 0) (j' := 1400) hZ27 (fun q => absurd q.1 (by decide))
    refine wz_i0 (i3O (n := 4400) (i3A (i3A (show (1410 : Int32) = i3 1410 from rfl) (i3M (show (12 : Int32) = i3 12 from rfl) (zm_rd (Z := Z27) (ν := ν) (k := 2) (show ((0 : Nat) : Int) = 0 from rfl) (show ((0 : Nat) : Int) = 0 from rfl) (show ((1400 : Nat) : Int) = 1400 from rfl)))) (show (0 : Int32) = i3 0 from rfl)) (by omega) (by omega) (by omega)) ?_
    obtain ⟨Z38, hZ38⟩ := zx (zu Z27 2 0 0 (1410 + 12 * (Z27 2 0 0 1400)) a1)
    replace hP := zl_e hP hZ38
    have hZ38I := zI_u hZ27I hZ38 (lo := 0) (hi := 4) (by decide) (zs_1410_0 (x := (Z27 2 0 0 1400)) (by omega) (by omega) (by omega)) (by omega) ⟨by decide, by decide⟩ (Or.inl (by decide))
    have t39 : Z38 2 0 0 102 = Z27 2 0 0 102 := zu_ne hZ38 (by omega)
    have t40 : Z38 2 0 0 100 = Z27 2 0 0 100 := zu_ne hZ38 (by omega)
    have t41 : Z38 2 0 0 1400 = Z27 2 0 0 1400 := zu_ne hZ38 (by omega)
    have t42 : Z38 2 0 0 1401 = Z27 2 0 0 1401 := zu_ne hZ38 (by omega)
    have t43 : Z38 2 0 0 3000 = Z27 2 0 0 3000 := zu_ne hZ38 (by omega)
    have t44 : Z38 2 0 0 3200 = Z27 2 0 0 3200 := zu_ne hZ38 (by omega)
    have t45 : Z38 2 0 0 3500 = Z27 2 0 0 3500 := zu_ne hZ38 (by omega)
    have hZ38K := zK_u hZ27K hZ38 (by decide)
    intro μ9 e9
    replace e9 := e9.trans (zm_wI (Z := Z27) (ν := ν) hZ38 (show ((0 : Nat) : Int) = 0 from rfl) (show ((0 : Nat) : Int) = 0 from rfl) (i3I (y := (1410 + 12 * (Z27 2 0 0 1400))) (i3A (i3A (show (1410 : Int32) = i3 1410 from rfl) (i3M (show (12 : Int32) = i3 12 from rfl) (zm_rd (Z := Z27) (ν := ν) (k := 2) (show ((0 : Nat) : Int) = 0 from rfl) (show ((0 : Nat) : Int) = 0 from rfl) (show ((1400 : Nat) : Int) = 1400 from rfl)))) (show (0 : Int32) = i3 0 from rfl)) (by omega) (by omega) (by omega)) (rfl : i3 a1 = i3 a1))
    subst e9
    refine wz_i0 (i3O (n := 4400) (i3A (i3A (show (1410 : Int32) = i3 1410 from rfl) (i3M (show (12 : Int32) = i3 12 from rfl) (zm_rd (Z := Z27) (ν := ν) (k := 2) (show ((0 : Nat) : Int) = 0 from rfl) (show ((0 : Nat) : Int) = 0 from rfl) (show ((1400 : Nat) : Int) = 1400 from rfl)))) (show (1 : Int32) = i3 1 from rfl)) (by omega) (by omega) (by omega)) ?_
    obtain ⟨Z46, hZ46⟩ := zx (zu Z38 2 0 0 (1411 + 12 * (Z27 2 0 0 1400)) a2)
    replace hP := zl_e hP hZ46
    have hZ46I := zI_u hZ38I hZ46 (lo := 0) (hi := 9999999) (by decide) (zs_1410_1 (x := (Z27 2 0 0 1400)) (by omega) (by omega) (by omega)) (by omega) ⟨by decide, by decide⟩ (Or.inl (by decide))
    have t47 : Z46 2 0 0 102 = Z38 2 0 0 102 := zu_ne hZ46 (by omega)
    have t48 : Z46 2 0 0 100 = Z38 2 0 0 100 := zu_ne hZ46 (by omega)
    have t49 : Z46 2 0 0 1400 = Z38 2 0 0 1400 := zu_ne hZ46 (by omega)
    have t50 : Z46 2 0 0 1401 = Z38 2 0 0 1401 := zu_ne hZ46 (by omega)
    have t51 : Z46 2 0 0 3000 = Z38 2 0 0 3000 := zu_ne hZ46 (by omega)
    have t52 : Z46 2 0 0 3200 = Z38 2 0 0 3200 := zu_ne hZ46 (by omega)
    have t53 : Z46 2 0 0 3500 = Z38 2 0 0 3500 := zu_ne hZ46 (by omega)
    have hZ46K := zK_u hZ38K hZ46 (by decide)
    intro μ9 e9
    replace e9 := e9.trans (zm_wI (Z := Z38) (ν := ν) hZ46 (show ((0 : Nat) : Int) = 0 from rfl) (show ((0 : Nat) : Int) = 0 from rfl) (i3I (y := (1411 + 12 * (Z27 2 0 0 1400))) (i3A (i3A (show (1410 : Int32) = i3 1410 from rfl) (i3M (show (12 : Int32) = i3 12 from rfl) (zm_rd (Z := Z27) (ν := ν) (k := 2) (show ((0 : Nat) : Int) = 0 from rfl) (show ((0 : Nat) : Int) = 0 from rfl) (show ((1400 : Nat) : Int) = 1400 from rfl)))) (show (1 : Int32) = i3 1 from rfl)) (by omega) (by omega) (by omega)) (rfl : i3 a2 = i3 a2))
    subst e9
    refine wz_i0 (i3O (n := 4400) (i3A (i3A (show (1410 : Int32) = i3 1410 from rfl) (i3M (show (12 : Int32) = i3 12 from rfl) (zm_rd (Z := Z27) (ν := ν) (k := 2) (show ((0 : Nat) : Int) = 0 from rfl) (show ((0 : Nat) : Int) = 0 from rfl) (show ((1400 : Nat) : Int) = 1400 from rfl)))) (show (2 : Int32) = i3 2 from rfl)) (by omega) (by omega) (by omega)) ?_
    obtain ⟨Z54, hZ54⟩ := zx (zu Z46 2 0 0 (1412 + 12 * (Z27 2 0 0 1400)) a3)
    replace hP := zl_e hP hZ54
    have hZ54I := zI_u hZ46I hZ54 (lo := 0) (hi := 14) (by decide) (zs_1410_2 (x := (Z27 2 0 0 1400)) (by omega) (by omega) (by omega)) (by omega) ⟨by decide, by decide⟩ (Or.inl (by decide))
    have t55 : Z54 2 0 0 102 = Z46 2 0 0 102 := zu_ne hZ54 (by omega)
    have t56 : Z54 2 0 0 100 = Z46 2 0 0 100 := zu_ne hZ54 (by omega)
    have t57 : Z54 2 0 0 1400 = Z46 2 0 0 1400 := zu_ne hZ54 (by omega)
    have t58 : Z54 2 0 0 1401 = Z46 2 0 0 1401 := zu_ne hZ54 (by omega)
    have t59 : Z54 2 0 0 3000 = Z46 2 0 0 3000 := zu_ne hZ54 (by omega)
    have t60 : Z54 2 0 0 3200 = Z46 2 0 0 3200 := zu_ne hZ54 (by omega)
    have t61 : Z54 2 0 0 3500 = Z46 2 0 0 3500 := zu_ne hZ54 (by omega)
    have hZ54K := zK_u hZ46K hZ54 (by decide)
    intro μ9 e9
    replace e9 := e9.trans (zm_wI (Z := Z46) (ν := ν) hZ54 (show ((0 : Nat) : Int) = 0 from rfl) (show ((0 : Nat) : Int) = 0 from rfl) (i3I (y := (1412 + 12 * (Z27 2 0 0 1400))) (i3A (i3A (show (1410 : Int32) = i3 1410 from rfl) (i3M (show (12 : Int32) = i3 12 from rfl) (zm_rd (Z := Z27) (ν := ν) (k := 2) (show ((0 : Nat) : Int) = 0 from rfl) (show ((0 : Nat) : Int) = 0 from rfl) (show ((1400 : Nat) : Int) = 1400 from rfl)))) (show (2 : Int32) = i3 2 from rfl)) (by omega) (by omega) (by omega)) (rfl : i3 a3 = i3 a3))
    subst e9
    have r62 := zI_k hZ54I 2 0 0 1400 (lo := 0) (hi := 8) (by decide) rfl
    obtain ⟨Z63, hZ63⟩ := zx (zu Z54 2 0 0 1400 ((Z54 2 0 0 1400) + 1))
    replace hP := zl_e hP hZ63
    have hZ63I := zI_u hZ54I hZ63 (lo := 0) (hi := 8) (by decide) rfl (by omega) ⟨by decide, by decide⟩ (Or.inl (by decide))
    have t64 : Z63 2 0 0 102 = Z54 2 0 0 102 := zu_ne hZ63 (fun q => absurd q.2.2.2 (by decide))
    have t65 : Z63 2 0 0 100 = Z54 2 0 0 100 := zu_ne hZ63 (fun q => absurd q.2.2.2 (by decide))
    have t66 := zu_at hZ63
    have t67 : Z63 2 0 0 1401 = Z54 2 0 0 1401 := zu_ne hZ63 (fun q => absurd q.2.2.2 (by decide))
    have t68 : Z63 2 0 0 3000 = Z54 2 0 0 3000 := zu_ne hZ63 (fun q => absurd q.2.2.2 (by decide))
    have t69 : Z63 2 0 0 3200 = Z54 2 0 0 3200 := zu_ne hZ63 (fun q => absurd q.2.2.2 (by decide))
    have t70 : Z63 2 0 0 3500 = Z54 2 0 0 3500 := zu_ne hZ63 (fun q => absurd q.2.2.2 (by decide))
    have hZ63K := zK_u hZ54K hZ63 (by decide)
    intro μ9 e9
    replace e9 := e9.trans (zm_wI (Z := Z54) (ν := ν) hZ63 (show ((0 : Nat) : Int) = 0 from rfl) (show ((0 : Nat) : Int) = 0 from rfl) (show ((1400 : Nat) : Int) = 1400 from rfl) (i3A (zm_rd (Z := Z54) (ν := ν) (k := 2) (show ((0 : Nat) : Int) = 0 from rfl) (show ((0 : Nat) : Int) = 0 from rfl) (show ((1400 : Nat) : Int) = 1400 from rfl)) (show (1 : Int32) = i3 1 from rfl)))
    subst e9
    exact zlW hP (zm_rd (Z := Z27) (ν := ν) (k := 2) (show ((0 : Nat) : Int) = 0 from rfl) (show ((0 : Nat) : Int) = 0 from rfl) (show ((1400 : Nat) : Int) = 1400 from rfl)) ⟨hZ63I, hZ63K, by omega, by omega, by omega, by omega, by omega, by omega, by omega, by omega, by omega⟩

