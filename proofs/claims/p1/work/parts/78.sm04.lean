/-! a season told, m (printed by season.py) -/
/- yX12_order -/
def zf_441q (Z : qz_Z) (a1 : Int) (a2 : Int) (a3 : Int) (a4 : Int) (a5 : Int) (a6 : Int) : qz_Z × Int := (if ((Z 2 0 0 1400) - 1) < a1 then (zlet (zu Z 1 0 0 2 1) (fun Z3 => (Z3, 0))) else (if ((Z 2 0 0 100) - 1) < a2 then (zlet (zu Z 1 0 0 2 1) (fun Z13 => (Z13, 0))) else (zlet (zu Z 1 0 0 2 0) (fun Z21 => (zlet (zu Z21 1 0 0 2 0) (fun Z29 => (if 24 ≤ (Z29 2 0 0 1401) then (zlet (zu Z29 1 0 0 2 3) (fun Z39 => (Z39, 0))) else (zlet (zu Z29 1 0 0 2 0) (fun Z47 => (zlet (zu Z47 2 0 0 (1510 + 12 * (Z47 2 0 0 1401)) a1) (fun Z58 => (zlet (zu Z58 2 0 0 (1511 + 12 * (Z47 2 0 0 1401)) a2) (fun Z66 => (zlet (zu Z66 2 0 0 (1512 + 12 * (Z47 2 0 0 1401)) a3) (fun Z74 => (zlet (zu Z74 2 0 0 (1513 + 12 * (Z47 2 0 0 1401)) a4) (fun Z82 => (zlet (zu Z82 2 0 0 (1514 + 12 * (Z47 2 0 0 1401)) a5) (fun Z90 => (zlet (zu Z90 2 0 0 (1515 + 12 * (Z47 2 0 0 1401)) a6) (fun Z98 => (zlet (zu Z98 2 0 0 (1516 + 12 * (Z47 2 0 0 1401)) a4) (fun Z106 => (zlet (zu Z106 2 0 0 1401 ((Z106 2 0 0 1401) + 1)) (fun Z115 => (Z115, (Z47 2 0 0 1401)))))))))))))))))))))))))))
theorem sp_441q {Z : qz_Z} {ν : qz_N} (hZ : zI (some none) Z) {a1 : Int} (ga1 : 0 ≤ a1 ∧ a1 ≤ 7) {a2 : Int} (ga2 : 0 ≤ a2 ∧ a2 ≤ 4) {a3 : Int} (ga3 : 0 ≤ a3 ∧ a3 ≤ 3) {a4 : Int} (ga4 : 1 ≤ a4 ∧ a4 ≤ 40) {a5 : Int} (ga5 : 100 ≤ a5 ∧ a5 ≤ 999) {a6 : Int} (ga6 : 1 ≤ a6 ∧ a6 ≤ 127) : ∃ (Z1 : qz_Z) (P : Int), (Z1, P) = zf_441q Z a1 a2 a3 a4 a5 a6 ∧ (qf_441 [.inr (.inr (some (1, 0, 0))), .inl (i3 a1), .inl (i3 a2), .inl (i3 a3), .inl (i3 a4), .inl (i3 a5), .inl (i3 a6)] (zm Z ν) = some (zm Z1 ν, .inl (some (.inl (i3 P)))) ∧ zI (some none) Z1 ∧ zK [1, 2] Z Z1 ∧ 0 ≤ P ∧ P ≤ 23 ∧ Z1 2 0 0 102 = Z 2 0 0 102 ∧ Z1 2 0 0 100 = Z 2 0 0 100 ∧ Z1 2 0 0 1400 = Z 2 0 0 1400 ∧ Z1 2 0 0 3000 = Z 2 0 0 3000 ∧ Z1 2 0 0 3200 = Z 2 0 0 3200 ∧ Z1 2 0 0 3500 = Z 2 0 0 3500) := by
  obtain ⟨P, hP⟩ := zx (zf_441q Z a1 a2 a3 a4 a5 a6)
  refine zc_W (Q := fun Z1 P => zI (some none) Z1 ∧ zK [1, 2] Z Z1 ∧ 0 ≤ P ∧ P ≤ 23 ∧ Z1 2 0 0 102 = Z 2 0 0 102 ∧ Z1 2 0 0 100 = Z 2 0 0 100 ∧ Z1 2 0 0 1400 = Z 2 0 0 1400 ∧ Z1 2 0 0 3000 = Z 2 0 0 3000 ∧ Z1 2 0 0 3200 = Z 2 0 0 3200 ∧ Z1 2 0 0 3500 = Z 2 0 0 3500) hP (fw_441 (i3 a1) (i3 a2) (i3 a3) (i3 a4) (i3 a5) (i3 a6) _ _ ?_)
  replace hP : zE P (zf_441q Z a1 a2 a3 a4 a5 a6) := hP
  unfold zf_441q at hP
  refine wz_i0 (Eq.trans (i3L (rfl : i3 a3 = i3 a3) (show (0 : Int32) = i3 0 from rfl) (by omega) (by omega) (by omega) (by omega)) (decide_eq_false (by omega))) ?_
  refine wz_i0 (Eq.trans (i3L (show (3 : Int32) = i3 3 from rfl) (rfl : i3 a3 = i3 a3) (by omega) (by omega) (by omega) (by omega)) (decide_eq_false (by omega))) ?_
  refine wz_i0 (Eq.trans (i3L (rfl : i3 a4 = i3 a4) (show (1 : Int32) = i3 1 from rfl) (by omega) (by omega) (by omega) (by omega)) (decide_eq_false (by omega))) ?_
  refine wz_i0 (Eq.trans (i3L (show (99 : Int32) = i3 99 from rfl) (rfl : i3 a4 = i3 a4) (by omega) (by omega) (by omega) (by omega)) (decide_eq_false (by omega))) ?_
  refine wz_i0 (Eq.trans (i3L (rfl : i3 a5 = i3 a5) (show (1 : Int32) = i3 1 from rfl) (by omega) (by omega) (by omega) (by omega)) (decide_eq_false (by omega))) ?_
  refine wz_i0 (Eq.trans (i3L (show (9999 : Int32) = i3 9999 from rfl) (rfl : i3 a5 = i3 a5) (by omega) (by omega) (by omega) (by omega)) (decide_eq_false (by omega))) ?_
  refine wz_i0 (Eq.trans (i3L (rfl : i3 a6 = i3 a6) (show (1 : Int32) = i3 1 from rfl) (by omega) (by omega) (by omega) (by omega)) (decide_eq_false (by omega))) ?_
  refine wz_i0 (Eq.trans (i3L (show (127 : Int32) = i3 127 from rfl) (rfl : i3 a6 = i3 a6) (by omega) (by omega) (by omega) (by omega)) (decide_eq_false (by omega))) ?_
  refine wz_i0 (Eq.trans (i3L (rfl : i3 a1 = i3 a1) (show (0 : Int32) = i3 0 from rfl) (by omega) (by omega) (by omega) (by omega)) (decide_eq_false (by omega))) ?_
  have r1 := zI_k hZ 2 0 0 1400 (lo := 0) (hi := 8) (by decide) rfl
  refine wz_br (i3L (i3S (zm_rd (Z := Z) (ν := ν) (k := 2) (show ((0 : Nat) : Int) = 0 from rfl) (show ((0 : Nat) : Int) = 0 from rfl) (show ((1400 : Nat) : Int) = 1400 from rfl)) (show (1 : Int32) = i3 1 from rfl)) (rfl : i3 a1 = i3 a1) (by omega) (by omega) (by omega) (by omega)) (fun h2 => ?_) (fun h2 => ?_)
  · replace hP := zE_p hP h2
    obtain ⟨Z3, hZ3⟩ := zx (zu Z 1 0 0 2 1)
    replace hP := zl_e hP hZ3
    have hZ3I := zI_u hZ hZ3 (lo := -2147483648) (hi := 2147483647) (by decide) rfl (by omega) ⟨by decide, by decide⟩ (Or.inr (by decide))
    have t4 : Z3 2 0 0 102 = Z 2 0 0 102 := zu_ne hZ3 (fun q => absurd q.1 (by decide))
    have t5 : Z3 2 0 0 100 = Z 2 0 0 100 := zu_ne hZ3 (fun q => absurd q.1 (by decide))
    have t6 : Z3 2 0 0 1400 = Z 2 0 0 1400 := zu_ne hZ3 (fun q => absurd q.1 (by decide))
    have t7 : Z3 2 0 0 1401 = Z 2 0 0 1401 := zu_ne hZ3 (fun q => absurd q.1 (by decide))
    have t8 : Z3 2 0 0 3000 = Z 2 0 0 3000 := zu_ne hZ3 (fun q => absurd q.1 (by decide))
    have t9 : Z3 2 0 0 3200 = Z 2 0 0 3200 := zu_ne hZ3 (fun q => absurd q.1 (by decide))
    have t10 : Z3 2 0 0 3500 = Z 2 0 0 3500 := zu_ne hZ3 (fun q => absurd q.1 (by decide))
    have hZ3K : zK [1, 2] Z Z3 := zK_u zK_r hZ3 (by decide)
    intro μ9 e9
    replace e9 := e9.trans (zm_wI (Z := Z) (ν := ν) hZ3 (show ((0 : Nat) : Int) = 0 from rfl) (show ((0 : Nat) : Int) = 0 from rfl) (show ((2 : Nat) : Int) = 2 from rfl) (show (1 : Int32) = i3 1 from rfl))
    subst e9
    exact zlW hP (show (0 : Int32) = i3 0 from rfl) ⟨hZ3I, hZ3K, by omega, by omega, by omega, by omega, by omega, by omega, by omega, by omega⟩
  · replace hP := zE_n hP h2
    refine wz_i0 (Eq.trans (i3L (rfl : i3 a2 = i3 a2) (show (0 : Int32) = i3 0 from rfl) (by omega) (by omega) (by omega) (by omega)) (decide_eq_false (by omega))) ?_
    have r11 := zI_k hZ 2 0 0 100 (lo := 0) (hi := 5) (by decide) rfl
    refine wz_br (i3L (i3S (zm_rd (Z := Z) (ν := ν) (k := 2) (show ((0 : Nat) : Int) = 0 from rfl) (show ((0 : Nat) : Int) = 0 from rfl) (show ((100 : Nat) : Int) = 100 from rfl)) (show (1 : Int32) = i3 1 from rfl)) (rfl : i3 a2 = i3 a2) (by omega) (by omega) (by omega) (by omega)) (fun h12 => ?_) (fun h12 => ?_)
    · replace hP := zE_p hP h12
      obtain ⟨Z13, hZ13⟩ := zx (zu Z 1 0 0 2 1)
      replace hP := zl_e hP hZ13
      have hZ13I := zI_u hZ hZ13 (lo := -2147483648) (hi := 2147483647) (by decide) rfl (by omega) ⟨by decide, by decide⟩ (Or.inr (by decide))
      have t14 : Z13 2 0 0 102 = Z 2 0 0 102 := zu_ne hZ13 (fun q => absurd q.1 (by decide))
      have t15 : Z13 2 0 0 100 = Z 2 0 0 100 := zu_ne hZ13 (fun q => absurd q.1 (by decide))
      have t16 : Z13 2 0 0 1400 = Z 2 0 0 1400 := zu_ne hZ13 (fun q => absurd q.1 (by decide))
      have t17 : Z13 2 0 0 1401 = Z 2 0 0 1401 := zu_ne hZ13 (fun q => absurd q.1 (by decide))
      have t18 : Z13 2 0 0 3000 = Z 2 0 0 3000 := zu_ne hZ13 (fun q => absurd q.1 (by decide))
      have t19 : Z13 2 0 0 3200 = Z 2 0 0 3200 := zu_ne hZ13 (fun q => absurd q.1 (by decide))
      have t20 : Z13 2 0 0 3500 = Z 2 0 0 3500 := zu_ne hZ13 (fun q => absurd q.1 (by decide))
      have hZ13K : zK [1, 2] Z Z13 := zK_u zK_r hZ13 (by decide)
      intro μ9 e9
      replace e9 := e9.trans (zm_wI (Z := Z) (ν := ν) hZ13 (show ((0 : Nat) : Int) = 0 from rfl) (show ((0 : Nat) : Int) = 0 from rfl) (show ((2 : Nat) : Int) = 2 from rfl) (show (1 : Int32) = i3 1 from rfl))
      subst e9
      exact zlW hP (show (0 : Int32) = i3 0 from rfl) ⟨hZ13I, hZ13K, by omega, by omega, by omega, by omega, by omega, by omega, by omega, by omega⟩
    · replace hP := zE_n hP h12
      obtain ⟨Z21, hZ21⟩ := zx (zu Z 1 0 0 2 0)
      replace hP := zl_e hP hZ21
      have hZ21I := zI_0 hZ hZ21 (by decide) (Or.inr (by decide))
      have t22 : Z21 2 0 0 102 = Z 2 0 0 102 := zu_ne hZ21 (fun q => absurd q.1 (by decide))
      have t23 : Z21 2 0 0 100 = Z 2 0 0 100 := zu_ne hZ21 (fun q => absurd q.1 (by decide))
      have t24 : Z21 2 0 0 1400 = Z 2 0 0 1400 := zu_ne hZ21 (fun q => absurd q.1 (by decide))
      have t25 : Z21 2 0 0 1401 = Z 2 0 0 1401 := zu_ne hZ21 (fun q => absurd q.1 (by decide))
      have t26 : Z21 2 0 0 3000 = Z 2 0 0 3000 := zu_ne hZ21 (fun q => absurd q.1 (by decide))
      have t27 : Z21 2 0 0 3200 = Z 2 0 0 3200 := zu_ne hZ21 (fun q => absurd q.1 (by decide))
      have t28 : Z21 2 0 0 3500 = Z 2 0 0 3500 := zu_ne hZ21 (fun q => absurd q.1 (by decide))
      have hZ21K : zK [1, 2] Z Z21 := zK_u zK_r hZ21 (by decide)
      intro μ9 e9
      replace e9 := e9.trans (zm_wI (Z := Z) (ν := ν) hZ21 (show ((0 : Nat) : Int) = 0 from rfl) (show ((0 : Nat) : Int) = 0 from rfl) (show ((2 : Nat) : Int) = 2 from rfl) (show (0 : Int32) = i3 0 from rfl))
      subst e9
      obtain ⟨Z29, hZ29⟩ := zx (zu Z21 1 0 0 2 0)
      replace hP := zl_e hP hZ29
      have hZ29I := zI_0 hZ21I hZ29 (by decide) (Or.inr (by decide))
      have t30 : Z29 2 0 0 102 = Z21 2 0 0 102 := zu_ne hZ29 (fun q => absurd q.1 (by decide))
      have t31 : Z29 2 0 0 100 = Z21 2 0 0 100 := zu_ne hZ29 (fun q => absurd q.1 (by decide))
      have t32 : Z29 2 0 0 1400 = Z21 2 0 0 1400 := zu_ne hZ29 (fun q => absurd q.1 (by decide))
      have t33 : Z29 2 0 0 1401 = Z21 2 0 0 1401 := zu_ne hZ29 (fun q => absurd q.1 (by decide))
      have t34 : Z29 2 0 0 3000 = Z21 2 0 0 3000 := zu_ne hZ29 (fun q => absurd q.1 (by decide))
      have t35 : Z29 2 0 0 3200 = Z21 2 0 0 3200 := zu_ne hZ29 (fun q => absurd q.1 (by decide))
      have t36 : Z29 2 0 0 3500 = Z21 2 0 0 3500 := zu_ne hZ29 (fun q => absurd q.1 (by decide))
      have hZ29K := zK_u hZ21K hZ29 (by decide)
      intro μ9 e9
      replace e9 := e9.trans (zm_wI (Z := Z21) (ν := ν) hZ29 (show ((0 : Nat) : Int) = 0 from rfl) (show ((0 : Nat) : Int) = 0 from rfl) (show ((2 : Nat) : Int) = 2 from rfl) (show (0 : Int32) = i3 0 from rfl))
      subst e9
      have r37 := zI_k hZ29I 2 0 0 1401 (lo := 0) (hi := 24) (by decide) rfl
      refine wz_br (i3Le (show (24 : Int32) = i3 24 from rfl) (zm_rd (Z := Z29) (ν := ν) (k := 2) (show ((0 : Nat) : Int) = 0 from rfl) (show ((0 : Nat) : Int) = 0 from rfl) (show ((1401 : Nat) : Int) = 1401 from rfl)) (by omega) (by omega) (by omega) (by omega)) (fun h38 => ?_) (fun h38 => ?_)
      · replace hP := zE_p hP h38
        obtain ⟨Z39, hZ39⟩ := zx (zu Z29 1 0 0 2 3)
        replace hP := zl_e hP hZ39
        have hZ39I := zI_u hZ29I hZ39 (lo := -2147483648) (hi := 2147483647) (by decide) rfl (by omega) ⟨by decide, by decide⟩ (Or.inr (by decide))
        have t40 : Z39 2 0 0 102 = Z29 2 0 0 102 := zu_ne hZ39 (fun q => absurd q.1 (by decide))
        have t41 : Z39 2 0 0 100 = Z29 2 0 0 100 := zu_ne hZ39 (fun q => absurd q.1 (by decide))
        have t42 : Z39 2 0 0 1400 = Z29 2 0 0 1400 := zu_ne hZ39 (fun q => absurd q.1 (by decide))
        have t43 : Z39 2 0 0 1401 = Z29 2 0 0 1401 := zu_ne hZ39 (fun q => absurd q.1 (by decide))
        have t44 : Z39 2 0 0 3000 = Z29 2 0 0 3000 := zu_ne hZ39 (fun q => absurd q.1 (by decide))
        have t45 : Z39 2 0 0 3200 = Z29 2 0 0 3200 := zu_ne hZ39 (fun q => absurd q.1 (by decide))
        have t46 : Z39 2 0 0 3500 = Z29 2 0 0 3500 := zu_ne hZ39 (fun q => absurd q.1 (by decide))
        have hZ39K := zK_u hZ29K hZ39 (by decide)
        intro μ9 e9
        replace e9 := e9.trans (zm_wI (Z := Z29) (ν := ν) hZ39 (show ((0 : Nat) : Int) = 0 from rfl) (show ((0 : Nat) : Int) = 0 from rfl) (show ((2 : Nat) : Int) = 2 from rfl) (show (3 : Int32) = i3 3 from rfl))
        subst e9
        exact zlW hP (show (0 : Int32) = i3 0 from rfl) ⟨hZ39I, hZ39K, by omega, by omega, by omega, by omega, by omega, by omega, by omega, by omega⟩
      · replace hP := zE_n hP h38
        obtain ⟨Z47, hZ47⟩ := zx (zu Z29 1 0 0 2 0)
        replace hP := zl_e hP hZ47
        have hZ47I := zI_0 hZ29I hZ47 (by decide) (Or.inr (by decide))
        have t48 : Z47 2 0 0 102 = Z29 2 0 0 102 := zu_ne hZ47 (fun q => absurd q.1 (by decide))
        have t49 : Z47 2 0 0 100 = Z29 2 0 0 100 := zu_ne hZ47 (fun q => absurd q.1 (by decide))
        have t50 : Z47 2 0 0 1400 = Z29 2 0 0 1400 := zu_ne hZ47 (fun q => absurd q.1 (by decide))
        have t51 : Z47 2 0 0 1401 = Z29 2 0 0 1401 := zu_ne hZ47 (fun q => absurd q.1 (by decide))
        have t52 : Z47 2 0 0 3000 = Z29 2 0 0 3000 := zu_ne hZ47 (fun q => absurd q.1 (by decide))
        have t53 : Z47 2 0 0 3200 = Z29 2 0 0 3200 := zu_ne hZ47 (fun q => absurd q.1 (by decide))
        have t54 : Z47 2 0 0 3500 = Z29 2 0 0 3500 := zu_ne hZ47 (fun q => absurd q.1 (by decide))
        have hZ47K := zK_u hZ29K hZ47 (by decide)
        intro μ9 e9
        replace e9 := e9.trans (zm_wI (Z := Z29) (ν := ν) hZ47 (show ((0 : Nat) : Int) = 0 from rfl) (show ((0 : Nat) : Int) = 0 from rfl) (show ((2 : Nat) : Int) = 2 from rfl) (show (0 : Int32) = i3 0 from rfl))
        subst e9
        have r55 := zI_q hZ47I
        refine wz_i1 (Eq.trans (i3NE (zm_rd (Z := Z47) (ν := ν) (k := 1) (show ((0 : Nat) : Int) = 0 from rfl) (show ((0 : Nat) : Int) = 0 from rfl) (show ((35 : Nat) : Int) = 35 from rfl)) (show (0 : Int32) = i3 0 from rfl) (by omega) (by omega) (by omega) (by omega)) (decide_eq_true (by omega))) ?_
        have r56 := zI_k hZ47I 2 0 0 1401 (lo := 0) (hi := 24) (by decide) rfl
        have q57 := zu_ne (k' := 2) (b' := 0) (i' := 0) (j' := 1401) hZ47 (fun q => absurd q.1 (by decide))
        refine wz_i0 (i3O (n := 4400) (i3A (i3A (show (1510 : Int32) = i3 1510 from rfl) (i3M (show (12 : Int32) = i3 12 from rfl) (zm_rd (Z := Z47) (ν := ν) (k := 2) (show ((0 : Nat) : Int) = 0 from rfl) (show ((0 : Nat) : Int) = 0 from rfl) (show ((1401 : Nat) : Int) = 1401 from rfl)))) (show (0 : Int32) = i3 0 from rfl)) (by omega) (by omega) (by omega)) ?_
        obtain ⟨Z58, hZ58⟩ := zx (zu Z47 2 0 0 (1510 + 12 * (Z47 2 0 0 1401)) a1)
        replace hP := zl_e hP hZ58
        have hZ58I := zI_u hZ47I hZ58 (lo := 0) (hi := 7) (by decide) (zs_1510_0 (x := (Z47 2 0 0 1401)) (by omega) (by omega) (by omega)) (by omega) ⟨by decide, by decide⟩ (Or.inl (by decide))
        have t59 : Z58 2 0 0 102 = Z47 2 0 0 102 := zu_ne hZ58 (by omega)
        have t60 : Z58 2 0 0 100 = Z47 2 0 0 100 := zu_ne hZ58 (by omega)
        have t61 : Z58 2 0 0 1400 = Z47 2 0 0 1400 := zu_ne hZ58 (by omega)
        have t62 : Z58 2 0 0 1401 = Z47 2 0 0 1401 := zu_ne hZ58 (by omega)
        have t63 : Z58 2 0 0 3000 = Z47 2 0 0 3000 := zu_ne hZ58 (by omega)
        have t64 : Z58 2 0 0 3200 = Z47 2 0 0 3200 := zu_ne hZ58 (by omega)
        have t65 : Z58 2 0 0 3500 = Z47 2 0 0 3500 := zu_ne hZ58 (by omega)
        have hZ58K := zK_u hZ47K hZ58 (by decide)
        intro μ9 e9
        replace e9 := e9.trans (zm_wI (Z := Z47) (ν := ν) hZ58 (show ((0 : Nat) : Int) = 0 from rfl) (show ((0 : Nat) : Int) = 0 from rfl) (i3I (y := (1510 + 12 * (Z47 2 0 0 1401))) (i3A (i3A (show (1510 : Int32) = i3 1510 from rfl) (i3M (show (12 : Int32) = i3 12 from rfl) (zm_rd (Z := Z47) (ν := ν) (k := 2) (show ((0 : Nat) : Int) = 0 from rfl) (show ((0 : Nat) : Int) = 0 from rfl) (show ((1401 : Nat) : Int) = 1401 from rfl)))) (show (0 : Int32) = i3 0 from rfl)) (by omega) (by omega) (by omega)) (rfl : i3 a1 = i3 a1))
        subst e9
        refine wz_i0 (i3O (n := 4400) (i3A (i3A (show (1510 : Int32) = i3 1510 from rfl) (i3M (show (12 : Int32) = i3 12 from rfl) (zm_rd (Z := Z47) (ν := ν) (k := 2) (show ((0 : Nat) : Int) = 0 from rfl) (show ((0 : Nat) : Int) = 0 from rfl) (show ((1401 : Nat) : Int) = 1401 from rfl)))) (show (1 : Int32) = i3 1 from rfl)) (by omega) (by omega) (by omega)) ?_
        obtain ⟨Z66, hZ66⟩ := zx (zu Z58 2 0 0 (1511 + 12 * (Z47 2 0 0 1401)) a2)
        replace hP := zl_e hP hZ66
        have hZ66I := zI_u hZ58I hZ66 (lo := 0) (hi := 4) (by decide) (zs_1510_1 (x := (Z47 2 0 0 1401)) (by omega) (by omega) (by omega)) (by omega) ⟨by decide, by decide⟩ (Or.inl (by decide))
        have t67 : Z66 2 0 0 102 = Z58 2 0 0 102 := zu_ne hZ66 (by omega)
        have t68 : Z66 2 0 0 100 = Z58 2 0 0 100 := zu_ne hZ66 (by omega)
        have t69 : Z66 2 0 0 1400 = Z58 2 0 0 1400 := zu_ne hZ66 (by omega)
        have t70 : Z66 2 0 0 1401 = Z58 2 0 0 1401 := zu_ne hZ66 (by omega)
        have t71 : Z66 2 0 0 3000 = Z58 2 0 0 3000 := zu_ne hZ66 (by omega)
        have t72 : Z66 2 0 0 3200 = Z58 2 0 0 3200 := zu_ne hZ66 (by omega)
        have t73 : Z66 2 0 0 3500 = Z58 2 0 0 3500 := zu_ne hZ66 (by omega)
        have hZ66K := zK_u hZ58K hZ66 (by decide)
        intro μ9 e9
        replace e9 := e9.trans (zm_wI (Z := Z58) (ν := ν) hZ66 (show ((0 : Nat) : Int) = 0 from rfl) (show ((0 : Nat) : Int) = 0 from rfl) (i3I (y := (1511 + 12 * (Z47 2 0 0 1401))) (i3A (i3A (show (1510 : Int32) = i3 1510 from rfl) (i3M (show (12 : Int32) = i3 12 from rfl) (zm_rd (Z := Z47) (ν := ν) (k := 2) (show ((0 : Nat) : Int) = 0 from rfl) (show ((0 : Nat) : Int) = 0 from rfl) (show ((1401 : Nat) : Int) = 1401 from rfl)))) (show (1 : Int32) = i3 1 from rfl)) (by omega) (by omega) (by omega)) (rfl : i3 a2 = i3 a2))
        subst e9
        refine wz_i0 (i3O (n := 4400) (i3A (i3A (show (1510 : Int32) = i3 1510 from rfl) (i3M (show (12 : Int32) = i3 12 from rfl) (zm_rd (Z := Z47) (ν := ν) (k := 2) (show ((0 : Nat) : Int) = 0 from rfl) (show ((0 : Nat) : Int) = 0 from rfl) (show ((1401 : Nat) : Int) = 1401 from rfl)))) (show (2 : Int32) = i3 2 from rfl)) (by omega) (by omega) (by omega)) ?_
        obtain ⟨Z74, hZ74⟩ := zx (zu Z66 2 0 0 (1512 + 12 * (Z47 2 0 0 1401)) a3)
        replace hP := zl_e hP hZ74
        have hZ74I := zI_u hZ66I hZ74 (lo := 0) (hi := 3) (by decide) (zs_1510_2 (x := (Z47 2 0 0 1401)) (by omega) (by omega) (by omega)) (by omega) ⟨by decide, by decide⟩ (Or.inl (by decide))
        have t75 : Z74 2 0 0 102 = Z66 2 0 0 102 := zu_ne hZ74 (by omega)
        have t76 : Z74 2 0 0 100 = Z66 2 0 0 100 := zu_ne hZ74 (by omega)
        have t77 : Z74 2 0 0 1400 = Z66 2 0 0 1400 := zu_ne hZ74 (by omega)
        have t78 : Z74 2 0 0 1401 = Z66 2 0 0 1401 := zu_ne hZ74 (by omega)
        have t79 : Z74 2 0 0 3000 = Z66 2 0 0 3000 := zu_ne hZ74 (by omega)
        have t80 : Z74 2 0 0 3200 = Z66 2 0 0 3200 := zu_ne hZ74 (by omega)
        have t81 : Z74 2 0 0 3500 = Z66 2 0 0 3500 := zu_ne hZ74 (by omega)
        have hZ74K := zK_u hZ66K hZ74 (by decide)
        intro μ9 e9
        replace e9 := e9.trans (zm_wI (Z := Z66) (ν := ν) hZ74 (show ((0 : Nat) : Int) = 0 from rfl) (show ((0 : Nat) : Int) = 0 from rfl) (i3I (y := (1512 + 12 * (Z47 2 0 0 1401))) (i3A (i3A (show (1510 : Int32) = i3 1510 from rfl) (i3M (show (12 : Int32) = i3 12 from rfl) (zm_rd (Z := Z47) (ν := ν) (k := 2) (show ((0 : Nat) : Int) = 0 from rfl) (show ((0 : Nat) : Int) = 0 from rfl) (show ((1401 : Nat) : Int) = 1401 from rfl)))) (show (2 : Int32) = i3 2 from rfl)) (by omega) (by omega) (by omega)) (rfl : i3 a3 = i3 a3))
        subst e9
        refine wz_i0 (i3O (n := 4400) (i3A (i3A (show (1510 : Int32) = i3 1510 from rfl) (i3M (show (12 : Int32) = i3 12 from rfl) (zm_rd (Z := Z47) (ν := ν) (k := 2) (show ((0 : Nat) : Int) = 0 from rfl) (show ((0 : Nat) : Int) = 0 from rfl) (show ((1401 : Nat) : Int) = 1401 from rfl)))) (show (3 : Int32) = i3 3 from rfl)) (by omega) (by omega) (by omega)) ?_
        obtain ⟨Z82, hZ82⟩ := zx (zu Z74 2 0 0 (1513 + 12 * (Z47 2 0 0 1401)) a4)
        replace hP := zl_e hP hZ82
        have hZ82I := zI_u hZ74I hZ82 (lo := 0) (hi := 99) (by decide) (zs_1510_3 (x := (Z47 2 0 0 1401)) (by omega) (by omega) (by omega)) (by omega) ⟨by decide, by decide⟩ (Or.inl (by decide))
        have t83 : Z82 2 0 0 102 = Z74 2 0 0 102 := zu_ne hZ82 (by omega)
        have t84 : Z82 2 0 0 100 = Z74 2 0 0 100 := zu_ne hZ82 (by omega)
        have t85 : Z82 2 0 0 1400 = Z74 2 0 0 1400 := zu_ne hZ82 (by omega)
        have t86 : Z82 2 0 0 1401 = Z74 2 0 0 1401 := zu_ne hZ82 (by omega)
        have t87 : Z82 2 0 0 3000 = Z74 2 0 0 3000 := zu_ne hZ82 (by omega)
        have t88 : Z82 2 0 0 3200 = Z74 2 0 0 3200 := zu_ne hZ82 (by omega)
        have t89 : Z82 2 0 0 3500 = Z74 2 0 0 3500 := zu_ne hZ82 (by omega)
        have hZ82K := zK_u hZ74K hZ82 (by decide)
        intro μ9 e9
        replace e9 := e9.trans (zm_wI (Z := Z74) (ν := ν) hZ82 (show ((0 : Nat) : Int) = 0 from rfl) (show ((0 : Nat) : Int) = 0 from rfl) (i3I (y := (1513 + 12 * (Z47 2 0 0 1401))) (i3A (i3A (show (1510 : Int32) = i3 1510 from rfl) (i3M (show (12 : Int32) = i3 12 from rfl) (zm_rd (Z := Z47) (ν := ν) (k := 2) (show ((0 : Nat) : Int) = 0 from rfl) (show ((0 : Nat) : Int) = 0 from rfl) (show ((1401 : Nat) : Int) = 1401 from rfl)))) (show (3 : Int32) = i3 3 from rfl)) (by omega) (by omega) (by omega)) (rfl : i3 a4 = i3 a4))
        subst e9
        refine wz_i0 (i3O (n := 4400) (i3A (i3A (show (1510 : Int32) = i3 1510 from rfl) (i3M (show (12 : Int32) = i3 12 from rfl) (zm_rd (Z := Z47) (ν := ν) (k := 2) (show ((0 : Nat) : Int) = 0 from rfl) (show ((0 : Nat) : Int) = 0 from rfl) (show ((1401 : Nat) : Int) = 1401 from rfl)))) (show (4 : Int32) = i3 4 from rfl)) (by omega) (by omega) (by omega)) ?_
        obtain ⟨Z90, hZ90⟩ := zx (zu Z82 2 0 0 (1514 + 12 * (Z47 2 0 0 1401)) a5)
        replace hP := zl_e hP hZ90
        have hZ90I := zI_u hZ82I hZ90 (lo := 0) (hi := 9999) (by decide) (zs_1510_4 (x := (Z47 2 0 0 1401)) (by omega) (by omega) (by omega)) (by omega) ⟨by decide, by decide⟩ (Or.inl (by decide))
        have t91 : Z90 2 0 0 102 = Z82 2 0 0 102 := zu_ne hZ90 (by omega)
        have t92 : Z90 2 0 0 100 = Z82 2 0 0 100 := zu_ne hZ90 (by omega)
        have t93 : Z90 2 0 0 1400 = Z82 2 0 0 1400 := zu_ne hZ90 (by omega)
        have t94 : Z90 2 0 0 1401 = Z82 2 0 0 1401 := zu_ne hZ90 (by omega)
        have t95 : Z90 2 0 0 3000 = Z82 2 0 0 3000 := zu_ne hZ90 (by omega)
        have t96 : Z90 2 0 0 3200 = Z82 2 0 0 3200 := zu_ne hZ90 (by omega)
        have t97 : Z90 2 0 0 3500 = Z82 2 0 0 3500 := zu_ne hZ90 (by omega)
        have hZ90K := zK_u hZ82K hZ90 (by decide)
        intro μ9 e9
        replace e9 := e9.trans (zm_wI (Z := Z82) (ν := ν) hZ90 (show ((0 : Nat) : Int) = 0 from rfl) (show ((0 : Nat) : Int) = 0 from rfl) (i3I (y := (1514 + 12 * (Z47 2 0 0 1401))) (i3A (i3A (show (1510 : Int32) = i3 1510 from rfl) (i3M (show (12 : Int32) = i3 12 from rfl) (zm_rd (Z := Z47) (ν := ν) (k := 2) (show ((0 : Nat) : Int) = 0 from rfl) (show ((0 : Nat) : Int) = 0 from rfl) (show ((1401 : Nat) : Int) = 1401 from rfl)))) (show (4 : Int32) = i3 4 from rfl)) (by omega) (by omega) (by omega)) (rfl : i3 a5 = i3 a5))
        subst e9
        refine wz_i0 (i3O (n := 4400) (i3A (i3A (show (1510 : Int32) = i3 1510 from rfl) (i3M (show (12 : Int32) = i3 12 from rfl) (zm_rd (Z := Z47) (ν := ν) (k := 2) (show ((0 : Nat) : Int) = 0 from rfl) (show ((0 : Nat) : Int) = 0 from rfl) (show ((1401 : Nat) : Int) = 1401 from rfl)))) (show (5 : Int32) = i3 5 from rfl)) (by omega) (by omega) (by omega)) ?_
        obtain ⟨Z98, hZ98⟩ := zx (zu Z90 2 0 0 (1515 + 12 * (Z47 2 0 0 1401)) a6)
        replace hP := zl_e hP hZ98
        have hZ98I := zI_u hZ90I hZ98 (lo := 0) (hi := 127) (by decide) (zs_1510_5 (x := (Z47 2 0 0 1401)) (by omega) (by omega) (by omega)) (by omega) ⟨by decide, by decide⟩ (Or.inl (by decide))
        have t99 : Z98 2 0 0 102 = Z90 2 0 0 102 := zu_ne hZ98 (by omega)
        have t100 : Z98 2 0 0 100 = Z90 2 0 0 100 := zu_ne hZ98 (by omega)
        have t101 : Z98 2 0 0 1400 = Z90 2 0 0 1400 := zu_ne hZ98 (by omega)
        have t102 : Z98 2 0 0 1401 = Z90 2 0 0 1401 := zu_ne hZ98 (by omega)
        have t103 : Z98 2 0 0 3000 = Z90 2 0 0 3000 := zu_ne hZ98 (by omega)
        have t104 : Z98 2 0 0 3200 = Z90 2 0 0 3200 := zu_ne hZ98 (by omega)
        have t105 : Z98 2 0 0 3500 = Z90 2 0 0 3500 := zu_ne hZ98 (by omega)
        have hZ98K := zK_u hZ90K hZ98 (by decide)
        intro μ9 e9
        replace e9 := e9.trans (zm_wI (Z := Z90) (ν := ν) hZ98 (show ((0 : Nat) : Int) = 0 from rfl) (show ((0 : Nat) : Int) = 0 from rfl) (i3I (y := (1515 + 12 * (Z47 2 0 0 1401))) (i3A (i3A (show (1510 : Int32) = i3 1510 from rfl) (i3M (show (12 : Int32) = i3 12 from rfl) (zm_rd (Z := Z47) (ν := ν) (k := 2) (show ((0 : Nat) : Int) = 0 from rfl) (show ((0 : Nat) : Int) = 0 from rfl) (show ((1401 : Nat) : Int) = 1401 from rfl)))) (show (5 : Int32) = i3 5 from rfl)) (by omega) (by omega) (by omega)) (rfl : i3 a6 = i3 a6))
        subst e9
        refine wz_i0 (i3O (n := 4400) (i3A (i3A (show (1510 : Int32) = i3 1510 from rfl) (i3M (show (12 : Int32) = i3 12 from rfl) (zm_rd (Z := Z47) (ν := ν) (k := 2) (show ((0 : Nat) : Int) = 0 from rfl) (show ((0 : Nat) : Int) = 0 from rfl) (show ((1401 : Nat) : Int) = 1401 from rfl)))) (show (6 : Int32) = i3 6 from rfl)) (by omega) (by omega) (by omega)) ?_
        obtain ⟨Z106, hZ106⟩ := zx (zu Z98 2 0 0 (1516 + 12 * (Z47 2 0 0 1401)) a4)
        replace hP := zl_e hP hZ106
        have hZ106I := zI_u hZ98I hZ106 (lo := 0) (hi := 99) (by decide) (zs_1510_6 (x := (Z47 2 0 0 1401)) (by omega) (by omega) (by omega)) (by omega) ⟨by decide, by decide⟩ (Or.inl (by decide))
        have t107 : Z106 2 0 0 102 = Z98 2 0 0 102 := zu_ne hZ106 (by omega)
        have t108 : Z106 2 0 0 100 = Z98 2 0 0 100 := zu_ne hZ106 (by omega)
        have t109 : Z106 2 0 0 1400 = Z98 2 0 0 1400 := zu_ne hZ106 (by omega)
        have t110 : Z106 2 0 0 1401 = Z98 2 0 0 1401 := zu_ne hZ106 (by omega)
        have t111 : Z106 2 0 0 3000 = Z98 2 0 0 3000 := zu_ne hZ106 (by omega)
        have t112 : Z106 2 0 0 3200 = Z98 2 0 0 3200 := zu_ne hZ106 (by omega)
        have t113 : Z106 2 0 0 3500 = Z98 2 0 0 3500 := zu_ne hZ106 (by omega)
        have hZ106K := zK_u hZ98K hZ106 (by decide)
        intro μ9 e9
        replace e9 := e9.trans (zm_wI (Z := Z98) (ν := ν) hZ106 (show ((0 : Nat) : Int) = 0 from rfl) (show ((0 : Nat) : Int) = 0 from rfl) (i3I (y := (1516 + 12 * (Z47 2 0 0 1401))) (i3A (i3A (show (1510 : Int32) = i3 1510 from rfl) (i3M (show (12 : Int32) = i3 12 from rfl) (zm_rd (Z := Z47) (ν := ν) (k := 2) (show ((0 : Nat) : Int) = 0 from rfl) (show ((0 : Nat) : Int) = 0 from rfl) (show ((1401 : Nat) : Int) = 1401 from rfl)))) (show (6 : Int32) = i3 6 from rfl)) (by omega) (by omega) (by omega)) (rfl : i3 a4 = i3 a4))
        subst e9
        have r114 := zI_k hZ106I 2 0 0 1401 (lo := 0) (hi := 24) (by decide) rfl
        obtain ⟨Z115, hZ115⟩ := zx (zu Z106 2 0 0 1401 ((Z106 2 0 0 1401) + 1))
        replace hP := zl_e hP hZ115
        have hZ115I := zI_u hZ106I hZ115 (lo := 0) (hi := 24) (by decide) rfl (by omega) ⟨by decide, by decide⟩ (Or.inl (by decide))
        have t116 : Z115 2 0 0 102 = Z106 2 0 0 102 := zu_ne hZ115 (fun q => absurd q.2.2.2 (by decide))
        have t117 : Z115 2 0 0 100 = Z106 2 0 0 100 := zu_ne hZ115 (fun q => absurd q.2.2.2 (by decide))
        have t118 : Z115 2 0 0 1400 = Z106 2 0 0 1400 := zu_ne hZ115 (fun q => absurd q.2.2.2 (by decide))
        have t119 := zu_at hZ115
        have t120 : Z115 2 0 0 3000 = Z106 2 0 0 3000 := zu_ne hZ115 (fun q => absurd q.2.2.2 (by decide))
        have t121 : Z115 2 0 0 3200 = Z106 2 0 0 3200 := zu_ne hZ115 (fun q => absurd q.2.2.2 (by decide))
        have t122 : Z115 2 0 0 3500 = Z106 2 0 0 3500 := zu_ne hZ115 (fun q => absurd q.2.2.2 (by decide))
        have hZ115K := zK_u hZ106K hZ115 (by decide)
        intro μ9 e9
        replace e9 := e9.trans (zm_wI (Z := Z106) (ν := ν) hZ115 (show ((0 : Nat) : Int) = 0 from rfl) (show ((0 : Nat) : Int) = 0 from rfl) (show ((1401 : Nat) : Int) = 1401 from rfl) (i3A (zm_rd (Z := Z106) (ν := ν) (k := 2) (show ((0 : Nat) : Int) = 0 from rfl) (show ((0 : Nat) : Int) = 0 from rfl) (show ((1401 : Nat) : Int) = 1401 from rfl)) (show (1 : Int32) = i3 1 from rfl)))
        subst e9
        exact zlW hP (zm_rd (Z := Z47) (ν := ν) (k := 2) (show ((0 : Nat) : Int) = 0 from rfl) (show ((0 : Nat) : Int) = 0 from rfl) (show ((1401 : Nat) : Int) = 1401 from rfl)) ⟨hZ115I, hZ115K, by omega, by omega, by omega, by omega, by omega, by omega, by omega, by omega⟩

/- yX12_bSeason -/
def zl_282_1q (x1 : Int) (x2 : Int) : Nat → qz_Z → Int → qz_Z × Int
  | 0, Z, x3 => (Z, x3)
  | m + 1, Z, x3 => (if x2 ≤ x3 then (Z, x3) else (zlet (zu Z 1 0 0 3 (((25173 * (Z 1 0 0 3)) + 13849) % 65536)) (fun Z3 => (zlet (zu Z3 1 0 0 3 (((25173 * (Z3 1 0 0 3)) + 13849) % 65536)) (fun Z12 => (zlet (zu Z12 1 0 0 3 (((25173 * (Z12 1 0 0 3)) + 13849) % 65536)) (fun Z21 => (zlet2 (zf_295q Z21 (((Z3 1 0 0 3) / 16) % 5) (100000 * (1 + (((Z12 1 0 0 3) / 16) % 40))) (((Z21 1 0 0 3) / 16) % 8)) (fun Z31 v30 => zl_282_1q x1 x2 m Z31 (x3 + 1))))))))))
theorem sl_282_1q {Zs Z : qz_Z} {ν : qz_N} (hZ : zI (some none) Z) (hK : zK [1, 2] Zs Z) {x1 : Int} (gx1 : 1 ≤ x1 ∧ x1 ≤ 12) {x2 : Int} (gx2 : 2 ≤ x2 ∧ x2 ≤ 8) {x3 : Int} (gx3 : 0 ≤ x3 ∧ x3 ≤ 8) {kc0 : Int} {kc1 : Int} {kc2 : Int} {kc3 : Int} {kc4 : Int} (gr0 : Z 2 0 0 1400 = x3) (gr1 : x3 ≤ 8) (gr2 : x3 ≤ x2) (gr3 : Z 2 0 0 102 = kc0) (gr4 : Z 2 0 0 100 = kc1) (gr5 : Z 2 0 0 3000 = kc2) (gr6 : Z 2 0 0 3200 = kc3) (gr7 : Z 2 0 0 3500 = kc4) {k : wz_K} {R : wz_R} {L : qz_L} (hL : qz_fg [true, true, true, true, false, false, false, false, false, false] L = [some (.inr (.inr (some (1, 0, 0)))), some (.inl (i3 x1)), some (.inl (i3 x2)), some (.inl (i3 x3)), none, none, none, none, none, none]) {T : qz_Z × Int} (hP : zE T (zl_282_1q x1 x2 ((8 - x3).toNat + 1) Z x3)) (hk : ∀ (L9 : qz_L) (Z9 : qz_Z) (yx3 : Int), qz_fg [true, true, false, false, false, false, false, false, false, false] L9 = [some (.inr (.inr (some (1, 0, 0)))), some (.inl (i3 x1)), none, none, none, none, none, none, none, none] → zI (some none) Z9 → zK [1, 2] Zs Z9 → (0 ≤ yx3 ∧ yx3 ≤ 8) → (Z9 2 0 0 1400 = yx3) → (yx3 ≤ 8) → (yx3 ≤ x2) → (Z9 2 0 0 102 = kc0) → (Z9 2 0 0 100 = kc1) → (Z9 2 0 0 3000 = kc2) → (Z9 2 0 0 3200 = kc3) → (Z9 2 0 0 3500 = kc4) → (x2 ≤ yx3) → zE T ((Z9, yx3)) → k 0 (L9, [], zm Z9 ν)) : wz_loop qb_282_1 65536 k R (L, [], zm Z ν) := by
  refine wz_lp sb_282_1 (fun m x => ∃ Z : qz_Z, ∃ x3 : Int, qz_fg [true, true, true, true, false, false, false, false, false, false] x.1 = [some (.inr (.inr (some (1, 0, 0)))), some (.inl (i3 x1)), some (.inl (i3 x2)), some (.inl (i3 x3)), none, none, none, none, none, none] ∧ x.2 = ([], zm Z ν) ∧ zI (some none) Z ∧ zK [1, 2] Zs Z ∧ m = (8 - x3).toNat ∧ (0 ≤ x3 ∧ x3 ≤ 8) ∧ (Z 2 0 0 1400 = x3) ∧ (x3 ≤ 8) ∧ (x3 ≤ x2) ∧ (Z 2 0 0 102 = kc0) ∧ (Z 2 0 0 100 = kc1) ∧ (Z 2 0 0 3000 = kc2) ∧ (Z 2 0 0 3200 = kc3) ∧ (Z 2 0 0 3500 = kc4) ∧ zE T (zl_282_1q x1 x2 (m + 1) Z x3)) ?_ 65536 ((8 - x3).toNat) _ (by omega) ⟨Z, x3, hL, rfl, hZ, hK, rfl, gx3, gr0, gr1, gr2, gr3, gr4, gr5, gr6, gr7, hP⟩
  clear hP gr0 gr1 gr2 gr3 gr4 gr5 gr6 gr7 gx3 hZ hK hL
  clear x3
  clear Z
  rintro m ⟨L, st, μ⟩ ⟨Z, x3, hL, hx, hZ, hK, hm, gx3, gr0, gr1, gr2, gr3, gr4, gr5, gr6, gr7, hP⟩
  cases hx
  refine fb_282_1 (i3 x1) (i3 x2) (i3 x3) _ _ _ _ hL ?_
  refine wz_br (i3Le (rfl : i3 x2 = i3 x2) (rfl : i3 x3 = i3 x3) (by omega) (by omega) (by omega) (by omega)) (fun h1 => ?_) (fun h1 => ?_)
  · replace hP := zE_p hP h1
    exact hk _ _ _ (zconso rfl (zconso (zvo (rfl : i3 x1 = i3 x1)) (zconso rfl (zconso rfl (zconso rfl (zconso rfl (zconso rfl (zconso rfl (zconso rfl (zconso rfl rfl)))))))))) hZ hK (by omega) (by omega) (by omega) (by omega) (by omega) (by omega) (by omega) (by omega) (by omega) (by omega) hP
  · replace hP := zE_n hP h1
    have r2 := zI_k hZ 1 0 0 3 (lo := 0) (hi := 65535) (by decide) rfl
    obtain ⟨Z3, hZ3⟩ := zx (zu Z 1 0 0 3 (((25173 * (Z 1 0 0 3)) + 13849) % 65536))
    replace hP := zl_e hP hZ3
    have hZ3I := zI_u hZ hZ3 (lo := 0) (hi := 65535) (by decide) rfl (by omega) ⟨by decide, by decide⟩ (Or.inr (by decide))
    have t4 : Z3 2 0 0 102 = Z 2 0 0 102 := zu_ne hZ3 (fun q => absurd q.1 (by decide))
    have t5 : Z3 2 0 0 100 = Z 2 0 0 100 := zu_ne hZ3 (fun q => absurd q.1 (by decide))
    have t6 : Z3 2 0 0 3000 = Z 2 0 0 3000 := zu_ne hZ3 (fun q => absurd q.1 (by decide))
    have t7 : Z3 2 0 0 3200 = Z 2 0 0 3200 := zu_ne hZ3 (fun q => absurd q.1 (by decide))
    have t8 : Z3 2 0 0 3500 = Z 2 0 0 3500 := zu_ne hZ3 (fun q => absurd q.1 (by decide))
    have t9 : Z3 2 0 0 1400 = Z 2 0 0 1400 := zu_ne hZ3 (fun q => absurd q.1 (by decide))
    have hZ3K := zK_u hK hZ3 (by decide)
    intro μ9 e9
    replace e9 := e9.trans (zm_wI (Z := Z) (ν := ν) hZ3 (show ((0 : Nat) : Int) = 0 from rfl) (show ((0 : Nat) : Int) = 0 from rfl) (show ((3 : Nat) : Int) = 3 from rfl) (i3R (i3A (i3M (show (25173 : Int32) = i3 25173 from rfl) (zm_rd (Z := Z) (ν := ν) (k := 1) (show ((0 : Nat) : Int) = 0 from rfl) (show ((0 : Nat) : Int) = 0 from rfl) (show ((3 : Nat) : Int) = 3 from rfl))) (show (13849 : Int32) = i3 13849 from rfl)) (show (65536 : Int32) = i3 65536 from rfl) (by omega) (by omega) (by omega) (by omega)))
    subst e9
    have r10 := zI_k hZ3I 1 0 0 3 (lo := 0) (hi := 65535) (by decide) rfl
    have q11 := zu_at hZ3
    obtain ⟨Z12, hZ12⟩ := zx (zu Z3 1 0 0 3 (((25173 * (Z3 1 0 0 3)) + 13849) % 65536))
    replace hP := zl_e hP hZ12
    have hZ12I := zI_u hZ3I hZ12 (lo := 0) (hi := 65535) (by decide) rfl (by omega) ⟨by decide, by decide⟩ (Or.inr (by decide))
    have t13 : Z12 2 0 0 102 = Z3 2 0 0 102 := zu_ne hZ12 (fun q => absurd q.1 (by decide))
    have t14 : Z12 2 0 0 100 = Z3 2 0 0 100 := zu_ne hZ12 (fun q => absurd q.1 (by decide))
    have t15 : Z12 2 0 0 3000 = Z3 2 0 0 3000 := zu_ne hZ12 (fun q => absurd q.1 (by decide))
    have t16 : Z12 2 0 0 3200 = Z3 2 0 0 3200 := zu_ne hZ12 (fun q => absurd q.1 (by decide))
    have t17 : Z12 2 0 0 3500 = Z3 2 0 0 3500 := zu_ne hZ12 (fun q => absurd q.1 (by decide))
    have t18 : Z12 2 0 0 1400 = Z3 2 0 0 1400 := zu_ne hZ12 (fun q => absurd q.1 (by decide))
    have hZ12K := zK_u hZ3K hZ12 (by decide)
    intro μ9 e9
    replace e9 := e9.trans (zm_wI (Z := Z3) (ν := ν) hZ12 (show ((0 : Nat) : Int) = 0 from rfl) (show ((0 : Nat) : Int) = 0 from rfl) (show ((3 : Nat) : Int) = 3 from rfl) (i3R (i3A (i3M (show (25173 : Int32) = i3 25173 from rfl) (zm_rd (Z := Z3) (ν := ν) (k := 1) (show ((0 : Nat) : Int) = 0 from rfl) (show ((0 : Nat) : Int) = 0 from rfl) (show ((3 : Nat) : Int) = 3 from rfl))) (show (13849 : Int32) = i3 13849 from rfl)) (show (65536 : Int32) = i3 65536 from rfl) (by omega) (by omega) (by omega) (by omega)))
    subst e9
    have r19 := zI_k hZ12I 1 0 0 3 (lo := 0) (hi := 65535) (by decide) rfl
    have q20 := zu_at hZ12
    obtain ⟨Z21, hZ21⟩ := zx (zu Z12 1 0 0 3 (((25173 * (Z12 1 0 0 3)) + 13849) % 65536))
    replace hP := zl_e hP hZ21
    have hZ21I := zI_u hZ12I hZ21 (lo := 0) (hi := 65535) (by decide) rfl (by omega) ⟨by decide, by decide⟩ (Or.inr (by decide))
    have t22 : Z21 2 0 0 102 = Z12 2 0 0 102 := zu_ne hZ21 (fun q => absurd q.1 (by decide))
    have t23 : Z21 2 0 0 100 = Z12 2 0 0 100 := zu_ne hZ21 (fun q => absurd q.1 (by decide))
    have t24 : Z21 2 0 0 3000 = Z12 2 0 0 3000 := zu_ne hZ21 (fun q => absurd q.1 (by decide))
    have t25 : Z21 2 0 0 3200 = Z12 2 0 0 3200 := zu_ne hZ21 (fun q => absurd q.1 (by decide))
    have t26 : Z21 2 0 0 3500 = Z12 2 0 0 3500 := zu_ne hZ21 (fun q => absurd q.1 (by decide))
    have t27 : Z21 2 0 0 1400 = Z12 2 0 0 1400 := zu_ne hZ21 (fun q => absurd q.1 (by decide))
    have hZ21K := zK_u hZ12K hZ21 (by decide)
    intro μ9 e9
    replace e9 := e9.trans (zm_wI (Z := Z12) (ν := ν) hZ21 (show ((0 : Nat) : Int) = 0 from rfl) (show ((0 : Nat) : Int) = 0 from rfl) (show ((3 : Nat) : Int) = 3 from rfl) (i3R (i3A (i3M (show (25173 : Int32) = i3 25173 from rfl) (zm_rd (Z := Z12) (ν := ν) (k := 1) (show ((0 : Nat) : Int) = 0 from rfl) (show ((0 : Nat) : Int) = 0 from rfl) (show ((3 : Nat) : Int) = 3 from rfl))) (show (13849 : Int32) = i3 13849 from rfl)) (show (65536 : Int32) = i3 65536 from rfl) (by omega) (by omega) (by omega) (by omega)))
    subst e9
    have r28 := zI_k hZ21I 1 0 0 3 (lo := 0) (hi := 65535) (by decide) rfl
    have q29 := zu_at hZ21
    obtain ⟨Z31, v30, hv30, c9, hZ31I, kZ31, lv30, uv30, wv300, wv301, wv302, wv303, wv304, wv305, wv306⟩ := sp_295q (ν := ν) hZ21I (a1 := (((Z3 1 0 0 3) / 16) % 5)) (by omega) (a2 := (100000 * (1 + (((Z12 1 0 0 3) / 16) % 40)))) (by omega) (a3 := (((Z21 1 0 0 3) / 16) % 8)) (by omega) (by omega)
    have hZ31K : zK [1, 2] Zs Z31 := zK_t hZ21K kZ31 (by decide)
    replace hP := zl_e2 hP hv30
    refine wz_cI_of (zas (zcons rfl (zcons (zvi (i3R (i3D (zm_rd (Z := Z3) (ν := ν) (k := 1) (show ((0 : Nat) : Int) = 0 from rfl) (show ((0 : Nat) : Int) = 0 from rfl) (show ((3 : Nat) : Int) = 3 from rfl)) (show (16 : Int32) = i3 16 from rfl) (by omega) (by omega) (by omega) (by omega)) (show (5 : Int32) = i3 5 from rfl) (by omega) (by omega) (by omega) (by omega))) (zcons (zvi (i3M (show (100000 : Int32) = i3 100000 from rfl) (i3A (show (1 : Int32) = i3 1 from rfl) (i3R (i3D (zm_rd (Z := Z12) (ν := ν) (k := 1) (show ((0 : Nat) : Int) = 0 from rfl) (show ((0 : Nat) : Int) = 0 from rfl) (show ((3 : Nat) : Int) = 3 from rfl)) (show (16 : Int32) = i3 16 from rfl) (by omega) (by omega) (by omega) (by omega)) (show (40 : Int32) = i3 40 from rfl) (by omega) (by omega) (by omega) (by omega))))) (zcons (zvi (i3R (i3D (zm_rd (Z := Z21) (ν := ν) (k := 1) (show ((0 : Nat) : Int) = 0 from rfl) (show ((0 : Nat) : Int) = 0 from rfl) (show ((3 : Nat) : Int) = 3 from rfl)) (show (16 : Int32) = i3 16 from rfl) (by omega) (by omega) (by omega) (by omega)) (show (8 : Int32) = i3 8 from rfl) (by omega) (by omega) (by omega) (by omega))) rfl)))) c9) ?_
    clear c9 hv30
    obtain ⟨m2, rfl⟩ : ∃ m2, m = m2 + 1 := ⟨m - 1, by omega⟩
    exact wz_k1 ⟨m2, by omega, Z31, (x3 + 1), (zconso rfl (zconso (zvo (rfl : i3 x1 = i3 x1)) (zconso (zvo (rfl : i3 x2 = i3 x2)) (zconso (zvo (i3A (rfl : i3 x3 = i3 x3) (show (1 : Int32) = i3 1 from rfl))) (zconso rfl (zconso rfl (zconso rfl (zconso rfl (zconso rfl (zconso rfl rfl)))))))))), rfl, hZ31I, hZ31K, by omega, by omega, by omega, by omega, by omega, by omega, by omega, by omega, by omega, by omega,  hP⟩

/- yX12_bSeason -/
def zl_282_2q (x3 : Int) : Nat → qz_Z → Int → qz_Z × Int
  | 0, Z, x4 => (Z, x4)
  | m + 1, Z, x4 => (if x3 ≤ x4 then (Z, x4) else (zlet (zu Z 1 0 0 3 (((25173 * (Z 1 0 0 3)) + 13849) % 65536)) (fun Z3 => (zlet (zu Z3 1 0 0 3 (((25173 * (Z3 1 0 0 3)) + 13849) % 65536)) (fun Z13 => (zlet (zu Z13 1 0 0 3 (((25173 * (Z13 1 0 0 3)) + 13849) % 65536)) (fun Z23 => (zlet (zu Z23 1 0 0 3 (((25173 * (Z23 1 0 0 3)) + 13849) % 65536)) (fun Z32 => (zlet (zu Z32 1 0 0 3 (((25173 * (Z32 1 0 0 3)) + 13849) % 65536)) (fun Z41 => (zlet (zu Z41 1 0 0 3 (((25173 * (Z41 1 0 0 3)) + 13849) % 65536)) (fun Z50 => (zlet2 (zf_441q Z50 (((Z3 1 0 0 3) / 16) % (Z 2 0 0 1400)) (((Z13 1 0 0 3) / 16) % (Z3 2 0 0 100)) (((Z23 1 0 0 3) / 16) % 4) (1 + (((Z32 1 0 0 3) / 16) % 40)) (100 + (((Z41 1 0 0 3) / 16) % 900)) (1 + (((Z50 1 0 0 3) / 16) % 127))) (fun Z62 v61 => zl_282_2q x3 m Z62 (x4 + 1))))))))))))))))
theorem sl_282_2q {Zs Z : qz_Z} {ν : qz_N} (hZ : zI (some none) Z) (hK : zK [1, 2] Zs Z) {x3 : Int} (gx3 : 4 ≤ x3 ∧ x3 ≤ 24) {x4 : Int} (gx4 : 0 ≤ x4 ∧ x4 ≤ 24) {kc0 : Int} {kc1 : Int} {kc2 : Int} {kc3 : Int} {kc4 : Int} {kc5 : Int} (gr0 : 1 ≤ Z 2 0 0 100) (gr1 : 1 ≤ Z 2 0 0 1400) (gr2 : Z 2 0 0 102 = kc0) (gr3 : Z 2 0 0 100 = kc1) (gr4 : Z 2 0 0 1400 = kc2) (gr5 : Z 2 0 0 3000 = kc3) (gr6 : Z 2 0 0 3200 = kc4) (gr7 : Z 2 0 0 3500 = kc5) {k : wz_K} {R : wz_R} {L : qz_L} (hL : qz_fg [true, false, false, true, true, false, false, false, false, false] L = [some (.inr (.inr (some (1, 0, 0)))), none, none, some (.inl (i3 x3)), some (.inl (i3 x4)), none, none, none, none, none]) {T : qz_Z × Int} (hP : zE T (zl_282_2q x3 ((24 - x4).toNat + 1) Z x4)) (hk : ∀ (L9 : qz_L) (Z9 : qz_Z) (yx4 : Int), qz_fg [false, false, false, false, false, false, false, false, false, false] L9 = [none, none, none, none, none, none, none, none, none, none] → zI (some none) Z9 → zK [1, 2] Zs Z9 → (0 ≤ yx4 ∧ yx4 ≤ 24) → (1 ≤ Z9 2 0 0 100) → (1 ≤ Z9 2 0 0 1400) → (Z9 2 0 0 102 = kc0) → (Z9 2 0 0 100 = kc1) → (Z9 2 0 0 1400 = kc2) → (Z9 2 0 0 3000 = kc3) → (Z9 2 0 0 3200 = kc4) → (Z9 2 0 0 3500 = kc5) → zE T ((Z9, yx4)) → k 0 (L9, [], zm Z9 ν)) : wz_loop qb_282_2 65536 k R (L, [], zm Z ν) := by
  refine wz_lp sb_282_2 (fun m x => ∃ Z : qz_Z, ∃ x4 : Int, qz_fg [true, false, false, true, true, false, false, false, false, false] x.1 = [some (.inr (.inr (some (1, 0, 0)))), none, none, some (.inl (i3 x3)), some (.inl (i3 x4)), none, none, none, none, none] ∧ x.2 = ([], zm Z ν) ∧ zI (some none) Z ∧ zK [1, 2] Zs Z ∧ m = (24 - x4).toNat ∧ (0 ≤ x4 ∧ x4 ≤ 24) ∧ (1 ≤ Z 2 0 0 100) ∧ (1 ≤ Z 2 0 0 1400) ∧ (Z 2 0 0 102 = kc0) ∧ (Z 2 0 0 100 = kc1) ∧ (Z 2 0 0 1400 = kc2) ∧ (Z 2 0 0 3000 = kc3) ∧ (Z 2 0 0 3200 = kc4) ∧ (Z 2 0 0 3500 = kc5) ∧ zE T (zl_282_2q x3 (m + 1) Z x4)) ?_ 65536 ((24 - x4).toNat) _ (by omega) ⟨Z, x4, hL, rfl, hZ, hK, rfl, gx4, gr0, gr1, gr2, gr3, gr4, gr5, gr6, gr7, hP⟩
  clear hP gr0 gr1 gr2 gr3 gr4 gr5 gr6 gr7 gx4 hZ hK hL
  clear x4
  clear Z
  rintro m ⟨L, st, μ⟩ ⟨Z, x4, hL, hx, hZ, hK, hm, gx4, gr0, gr1, gr2, gr3, gr4, gr5, gr6, gr7, hP⟩
  cases hx
  refine fb_282_2 (i3 x3) (i3 x4) _ _ _ _ hL ?_
  refine wz_br (i3Le (rfl : i3 x3 = i3 x3) (rfl : i3 x4 = i3 x4) (by omega) (by omega) (by omega) (by omega)) (fun h1 => ?_) (fun h1 => ?_)
  · replace hP := zE_p hP h1
    exact hk _ _ _ (zconso rfl (zconso rfl (zconso rfl (zconso rfl (zconso rfl (zconso rfl (zconso rfl (zconso rfl (zconso rfl (zconso rfl rfl)))))))))) hZ hK (by omega) (by omega) (by omega) (by omega) (by omega) (by omega) (by omega) (by omega) (by omega) hP
  · replace hP := zE_n hP h1
    have r2 := zI_k hZ 1 0 0 3 (lo := 0) (hi := 65535) (by decide) rfl
    obtain ⟨Z3, hZ3⟩ := zx (zu Z 1 0 0 3 (((25173 * (Z 1 0 0 3)) + 13849) % 65536))
    replace hP := zl_e hP hZ3
    have hZ3I := zI_u hZ hZ3 (lo := 0) (hi := 65535) (by decide) rfl (by omega) ⟨by decide, by decide⟩ (Or.inr (by decide))
    have t4 : Z3 2 0 0 102 = Z 2 0 0 102 := zu_ne hZ3 (fun q => absurd q.1 (by decide))
    have t5 : Z3 2 0 0 100 = Z 2 0 0 100 := zu_ne hZ3 (fun q => absurd q.1 (by decide))
    have t6 : Z3 2 0 0 1400 = Z 2 0 0 1400 := zu_ne hZ3 (fun q => absurd q.1 (by decide))
    have t7 : Z3 2 0 0 3000 = Z 2 0 0 3000 := zu_ne hZ3 (fun q => absurd q.1 (by decide))
    have t8 : Z3 2 0 0 3200 = Z 2 0 0 3200 := zu_ne hZ3 (fun q => absurd q.1 (by decide))
    have t9 : Z3 2 0 0 3500 = Z 2 0 0 3500 := zu_ne hZ3 (fun q => absurd q.1 (by decide))
    have hZ3K := zK_u hK hZ3 (by decide)
    intro μ9 e9
    replace e9 := e9.trans (zm_wI (Z := Z) (ν := ν) hZ3 (show ((0 : Nat) : Int) = 0 from rfl) (show ((0 : Nat) : Int) = 0 from rfl) (show ((3 : Nat) : Int) = 3 from rfl) (i3R (i3A (i3M (show (25173 : Int32) = i3 25173 from rfl) (zm_rd (Z := Z) (ν := ν) (k := 1) (show ((0 : Nat) : Int) = 0 from rfl) (show ((0 : Nat) : Int) = 0 from rfl) (show ((3 : Nat) : Int) = 3 from rfl))) (show (13849 : Int32) = i3 13849 from rfl)) (show (65536 : Int32) = i3 65536 from rfl) (by omega) (by omega) (by omega) (by omega)))
    subst e9
    have r10 := zI_k hZ 2 0 0 1400 (lo := 0) (hi := 8) (by decide) rfl
    refine wz_i0 (i3N0 (zm_rd (Z := Z) (ν := ν) (k := 2) (show ((0 : Nat) : Int) = 0 from rfl) (show ((0 : Nat) : Int) = 0 from rfl) (show ((1400 : Nat) : Int) = 1400 from rfl)) (by omega) (by omega) (by omega)) ?_
    have r11 := zI_k hZ3I 1 0 0 3 (lo := 0) (hi := 65535) (by decide) rfl
    have q12 := zu_at hZ3
    obtain ⟨Z13, hZ13⟩ := zx (zu Z3 1 0 0 3 (((25173 * (Z3 1 0 0 3)) + 13849) % 65536))
    replace hP := zl_e hP hZ13
    have hZ13I := zI_u hZ3I hZ13 (lo := 0) (hi := 65535) (by decide) rfl (by omega) ⟨by decide, by decide⟩ (Or.inr (by decide))
    have t14 : Z13 2 0 0 102 = Z3 2 0 0 102 := zu_ne hZ13 (fun q => absurd q.1 (by decide))
    have t15 : Z13 2 0 0 100 = Z3 2 0 0 100 := zu_ne hZ13 (fun q => absurd q.1 (by decide))
    have t16 : Z13 2 0 0 1400 = Z3 2 0 0 1400 := zu_ne hZ13 (fun q => absurd q.1 (by decide))
    have t17 : Z13 2 0 0 3000 = Z3 2 0 0 3000 := zu_ne hZ13 (fun q => absurd q.1 (by decide))
    have t18 : Z13 2 0 0 3200 = Z3 2 0 0 3200 := zu_ne hZ13 (fun q => absurd q.1 (by decide))
    have t19 : Z13 2 0 0 3500 = Z3 2 0 0 3500 := zu_ne hZ13 (fun q => absurd q.1 (by decide))
    have hZ13K := zK_u hZ3K hZ13 (by decide)
    intro μ9 e9
    replace e9 := e9.trans (zm_wI (Z := Z3) (ν := ν) hZ13 (show ((0 : Nat) : Int) = 0 from rfl) (show ((0 : Nat) : Int) = 0 from rfl) (show ((3 : Nat) : Int) = 3 from rfl) (i3R (i3A (i3M (show (25173 : Int32) = i3 25173 from rfl) (zm_rd (Z := Z3) (ν := ν) (k := 1) (show ((0 : Nat) : Int) = 0 from rfl) (show ((0 : Nat) : Int) = 0 from rfl) (show ((3 : Nat) : Int) = 3 from rfl))) (show (13849 : Int32) = i3 13849 from rfl)) (show (65536 : Int32) = i3 65536 from rfl) (by omega) (by omega) (by omega) (by omega)))
    subst e9
    have r20 := zI_k hZ3I 2 0 0 100 (lo := 0) (hi := 5) (by decide) rfl
    refine wz_i0 (i3N0 (zm_rd (Z := Z3) (ν := ν) (k := 2) (show ((0 : Nat) : Int) = 0 from rfl) (show ((0 : Nat) : Int) = 0 from rfl) (show ((100 : Nat) : Int) = 100 from rfl)) (by omega) (by omega) (by omega)) ?_
    have r21 := zI_k hZ13I 1 0 0 3 (lo := 0) (hi := 65535) (by decide) rfl
    have q22 := zu_at hZ13
    obtain ⟨Z23, hZ23⟩ := zx (zu Z13 1 0 0 3 (((25173 * (Z13 1 0 0 3)) + 13849) % 65536))
    replace hP := zl_e hP hZ23
    have hZ23I := zI_u hZ13I hZ23 (lo := 0) (hi := 65535) (by decide) rfl (by omega) ⟨by decide, by decide⟩ (Or.inr (by decide))
    have t24 : Z23 2 0 0 102 = Z13 2 0 0 102 := zu_ne hZ23 (fun q => absurd q.1 (by decide))
    have t25 : Z23 2 0 0 100 = Z13 2 0 0 100 := zu_ne hZ23 (fun q => absurd q.1 (by decide))
    have t26 : Z23 2 0 0 1400 = Z13 2 0 0 1400 := zu_ne hZ23 (fun q => absurd q.1 (by decide))
    have t27 : Z23 2 0 0 3000 = Z13 2 0 0 3000 := zu_ne hZ23 (fun q => absurd q.1 (by decide))
    have t28 : Z23 2 0 0 3200 = Z13 2 0 0 3200 := zu_ne hZ23 (fun q => absurd q.1 (by decide))
    have t29 : Z23 2 0 0 3500 = Z13 2 0 0 3500 := zu_ne hZ23 (fun q => absurd q.1 (by decide))
    have hZ23K := zK_u hZ13K hZ23 (by decide)
    intro μ9 e9
    replace e9 := e9.trans (zm_wI (Z := Z13) (ν := ν) hZ23 (show ((0 : Nat) : Int) = 0 from rfl) (show ((0 : Nat) : Int) = 0 from rfl) (show ((3 : Nat) : Int) = 3 from rfl) (i3R (i3A (i3M (show (25173 : Int32) = i3 25173 from rfl) (zm_rd (Z := Z13) (ν := ν) (k := 1) (show ((0 : Nat) : Int) = 0 from rfl) (show ((0 : Nat) : Int) = 0 from rfl) (show ((3 : Nat) : Int) = 3 from rfl))) (show (13849 : Int32) = i3 13849 from rfl)) (show (65536 : Int32) = i3 65536 from rfl) (by omega) (by omega) (by omega) (by omega)))
    subst e9
    have r30 := zI_k hZ23I 1 0 0 3 (lo := 0) (hi := 65535) (by decide) rfl
    have q31 := zu_at hZ23
    obtain ⟨Z32, hZ32⟩ := zx (zu Z23 1 0 0 3 (((25173 * (Z23 1 0 0 3)) + 13849) % 65536))
    replace hP := zl_e hP hZ32
    have hZ32I := zI_u hZ23I hZ32 (lo := 0) (hi := 65535) (by decide) rfl (by omega) ⟨by decide, by decide⟩ (Or.inr (by decide))
    have t33 : Z32 2 0 0 102 = Z23 2 0 0 102 := zu_ne hZ32 (fun q => absurd q.1 (by decide))
    have t34 : Z32 2 0 0 100 = Z23 2 0 0 100 := zu_ne hZ32 (fun q => absurd q.1 (by decide))
    have t35 : Z32 2 0 0 1400 = Z23 2 0 0 1400 := zu_ne hZ32 (fun q => absurd q.1 (by decide))
    have t36 : Z32 2 0 0 3000 = Z23 2 0 0 3000 := zu_ne hZ32 (fun q => absurd q.1 (by decide))
    have t37 : Z32 2 0 0 3200 = Z23 2 0 0 3200 := zu_ne hZ32 (fun q => absurd q.1 (by decide))
    have t38 : Z32 2 0 0 3500 = Z23 2 0 0 3500 := zu_ne hZ32 (fun q => absurd q.1 (by decide))
    have hZ32K := zK_u hZ23K hZ32 (by decide)
    intro μ9 e9
    replace e9 := e9.trans (zm_wI (Z := Z23) (ν := ν) hZ32 (show ((0 : Nat) : Int) = 0 from rfl) (show ((0 : Nat) : Int) = 0 from rfl) (show ((3 : Nat) : Int) = 3 from rfl) (i3R (i3A (i3M (show (25173 : Int32) = i3 25173 from rfl) (zm_rd (Z := Z23) (ν := ν) (k := 1) (show ((0 : Nat) : Int) = 0 from rfl) (show ((0 : Nat) : Int) = 0 from rfl) (show ((3 : Nat) : Int) = 3 from rfl))) (show (13849 : Int32) = i3 13849 from rfl)) (show (65536 : Int32) = i3 65536 from rfl) (by omega) (by omega) (by omega) (by omega)))
    subst e9
    have r39 := zI_k hZ32I 1 0 0 3 (lo := 0) (hi := 65535) (by decide) rfl
    have q40 := zu_at hZ32
    obtain ⟨Z41, hZ41⟩ := zx (zu Z32 1 0 0 3 (((25173 * (Z32 1 0 0 3)) + 13849) % 65536))
    replace hP := zl_e hP hZ41
    have hZ41I := zI_u hZ32I hZ41 (lo := 0) (hi := 65535) (by decide) rfl (by omega) ⟨by decide, by decide⟩ (Or.inr (by decide))
    have t42 : Z41 2 0 0 102 = Z32 2 0 0 102 := zu_ne hZ41 (fun q => absurd q.1 (by decide))
    have t43 : Z41 2 0 0 100 = Z32 2 0 0 100 := zu_ne hZ41 (fun q => absurd q.1 (by decide))
    have t44 : Z41 2 0 0 1400 = Z32 2 0 0 1400 := zu_ne hZ41 (fun q => absurd q.1 (by decide))
    have t45 : Z41 2 0 0 3000 = Z32 2 0 0 3000 := zu_ne hZ41 (fun q => absurd q.1 (by decide))
    have t46 : Z41 2 0 0 3200 = Z32 2 0 0 3200 := zu_ne hZ41 (fun q => absurd q.1 (by decide))
    have t47 : Z41 2 0 0 3500 = Z32 2 0 0 3500 := zu_ne hZ41 (fun q => absurd q.1 (by decide))
    have hZ41K := zK_u hZ32K hZ41 (by decide)
    intro μ9 e9
    replace e9 := e9.trans (zm_wI (Z := Z32) (ν := ν) hZ41 (show ((0 : Nat) : Int) = 0 from rfl) (show ((0 : Nat) : Int) = 0 from rfl) (show ((3 : Nat) : Int) = 3 from rfl) (i3R (i3A (i3M (show (25173 : Int32) = i3 25173 from rfl) (zm_rd (Z := Z32) (ν := ν) (k := 1) (show ((0 : Nat) : Int) = 0 from rfl) (show ((0 : Nat) : Int) = 0 from rfl) (show ((3 : Nat) : Int) = 3 from rfl))) (show (13849 : Int32) = i3 13849 from rfl)) (show (65536 : Int32) = i3 65536 from rfl) (by omega) (by omega) (by omega) (by omega)))
    subst e9
    have r48 := zI_k hZ41I 1 0 0 3 (lo := 0) (hi := 65535) (by decide) rfl
    have q49 := zu_at hZ41
    obtain ⟨Z50, hZ50⟩ := zx (zu Z41 1 0 0 3 (((25173 * (Z41 1 0 0 3)) + 13849) % 65536))
    replace hP := zl_e hP hZ50
    have hZ50I := zI_u hZ41I hZ50 (lo := 0) (hi := 65535) (by decide) rfl (by omega) ⟨by decide, by decide⟩ (Or.inr (by decide))
    have t51 : Z50 2 0 0 102 = Z41 2 0 0 102 := zu_ne hZ50 (fun q => absurd q.1 (by decide))
    have t52 : Z50 2 0 0 100 = Z41 2 0 0 100 := zu_ne hZ50 (fun q => absurd q.1 (by decide))
    have t53 : Z50 2 0 0 1400 = Z41 2 0 0 1400 := zu_ne hZ50 (fun q => absurd q.1 (by decide))
    have t54 : Z50 2 0 0 3000 = Z41 2 0 0 3000 := zu_ne hZ50 (fun q => absurd q.1 (by decide))
    have t55 : Z50 2 0 0 3200 = Z41 2 0 0 3200 := zu_ne hZ50 (fun q => absurd q.1 (by decide))
    have t56 : Z50 2 0 0 3500 = Z41 2 0 0 3500 := zu_ne hZ50 (fun q => absurd q.1 (by decide))
    have hZ50K := zK_u hZ41K hZ50 (by decide)
    intro μ9 e9
    replace e9 := e9.trans (zm_wI (Z := Z41) (ν := ν) hZ50 (show ((0 : Nat) : Int) = 0 from rfl) (show ((0 : Nat) : Int) = 0 from rfl) (show ((3 : Nat) : Int) = 3 from rfl) (i3R (i3A (i3M (show (25173 : Int32) = i3 25173 from rfl) (zm_rd (Z := Z41) (ν := ν) (k := 1) (show ((0 : Nat) : Int) = 0 from rfl) (show ((0 : Nat) : Int) = 0 from rfl) (show ((3 : Nat) : Int) = 3 from rfl))) (show (13849 : Int32) = i3 13849 from rfl)) (show (65536 : Int32) = i3 65536 from rfl) (by omega) (by omega) (by omega) (by omega)))
    subst e9
    have r57 := z_mod ((Z3 1 0 0 3) / 16) (y := (Z 2 0 0 1400)) (by omega)
    have r58 := z_mod ((Z13 1 0 0 3) / 16) (y := (Z3 2 0 0 100)) (by omega)
    have r59 := zI_k hZ50I 1 0 0 3 (lo := 0) (hi := 65535) (by decide) rfl
    have q60 := zu_at hZ50
    obtain ⟨Z62, v61, hv61, c9, hZ62I, kZ62, lv61, uv61, wv610, wv611, wv612, wv613, wv614, wv615⟩ := sp_441q (ν := ν) hZ50I (a1 := (((Z3 1 0 0 3) / 16) % (Z 2 0 0 1400))) (by omega) (a2 := (((Z13 1 0 0 3) / 16) % (Z3 2 0 0 100))) (by omega) (a3 := (((Z23 1 0 0 3) / 16) % 4)) (by omega) (a4 := (1 + (((Z32 1 0 0 3) / 16) % 40))) (by omega) (a5 := (100 + (((Z41 1 0 0 3) / 16) % 900))) (by omega) (a6 := (1 + (((Z50 1 0 0 3) / 16) % 127))) (by omega)
    have hZ62K : zK [1, 2] Zs Z62 := zK_t hZ50K kZ62 (by decide)
    replace hP := zl_e2 hP hv61
    refine wz_cI_of (zas (zcons rfl (zcons (zvi (i3R (i3D (zm_rd (Z := Z3) (ν := ν) (k := 1) (show ((0 : Nat) : Int) = 0 from rfl) (show ((0 : Nat) : Int) = 0 from rfl) (show ((3 : Nat) : Int) = 3 from rfl)) (show (16 : Int32) = i3 16 from rfl) (by omega) (by omega) (by omega) (by omega)) (zm_rd (Z := Z) (ν := ν) (k := 2) (show ((0 : Nat) : Int) = 0 from rfl) (show ((0 : Nat) : Int) = 0 from rfl) (show ((1400 : Nat) : Int) = 1400 from rfl)) (by omega) (by omega) (by omega) (by omega))) (zcons (zvi (i3R (i3D (zm_rd (Z := Z13) (ν := ν) (k := 1) (show ((0 : Nat) : Int) = 0 from rfl) (show ((0 : Nat) : Int) = 0 from rfl) (show ((3 : Nat) : Int) = 3 from rfl)) (show (16 : Int32) = i3 16 from rfl) (by omega) (by omega) (by omega) (by omega)) (zm_rd (Z := Z3) (ν := ν) (k := 2) (show ((0 : Nat) : Int) = 0 from rfl) (show ((0 : Nat) : Int) = 0 from rfl) (show ((100 : Nat) : Int) = 100 from rfl)) (by omega) (by omega) (by omega) (by omega))) (zcons (zvi (i3R (i3D (zm_rd (Z := Z23) (ν := ν) (k := 1) (show ((0 : Nat) : Int) = 0 from rfl) (show ((0 : Nat) : Int) = 0 from rfl) (show ((3 : Nat) : Int) = 3 from rfl)) (show (16 : Int32) = i3 16 from rfl) (by omega) (by omega) (by omega) (by omega)) (show (4 : Int32) = i3 4 from rfl) (by omega) (by omega) (by omega) (by omega))) (zcons (zvi (i3A (show (1 : Int32) = i3 1 from rfl) (i3R (i3D (zm_rd (Z := Z32) (ν := ν) (k := 1) (show ((0 : Nat) : Int) = 0 from rfl) (show ((0 : Nat) : Int) = 0 from rfl) (show ((3 : Nat) : Int) = 3 from rfl)) (show (16 : Int32) = i3 16 from rfl) (by omega) (by omega) (by omega) (by omega)) (show (40 : Int32) = i3 40 from rfl) (by omega) (by omega) (by omega) (by omega)))) (zcons (zvi (i3A (show (100 : Int32) = i3 100 from rfl) (i3R (i3D (zm_rd (Z := Z41) (ν := ν) (k := 1) (show ((0 : Nat) : Int) = 0 from rfl) (show ((0 : Nat) : Int) = 0 from rfl) (show ((3 : Nat) : Int) = 3 from rfl)) (show (16 : Int32) = i3 16 from rfl) (by omega) (by omega) (by omega) (by omega)) (show (900 : Int32) = i3 900 from rfl) (by omega) (by omega) (by omega) (by omega)))) (zcons (zvi (i3A (show (1 : Int32) = i3 1 from rfl) (i3R (i3D (zm_rd (Z := Z50) (ν := ν) (k := 1) (show ((0 : Nat) : Int) = 0 from rfl) (show ((0 : Nat) : Int) = 0 from rfl) (show ((3 : Nat) : Int) = 3 from rfl)) (show (16 : Int32) = i3 16 from rfl) (by omega) (by omega) (by omega) (by omega)) (show (127 : Int32) = i3 127 from rfl) (by omega) (by omega) (by omega) (by omega)))) rfl))))))) c9) ?_
    clear c9 hv61
    obtain ⟨m2, rfl⟩ : ∃ m2, m = m2 + 1 := ⟨m - 1, by omega⟩
    exact wz_k1 ⟨m2, by omega, Z62, (x4 + 1), (zconso rfl (zconso rfl (zconso rfl (zconso (zvo (rfl : i3 x3 = i3 x3)) (zconso (zvo (i3A (rfl : i3 x4 = i3 x4) (show (1 : Int32) = i3 1 from rfl))) (zconso rfl (zconso rfl (zconso rfl (zconso rfl (zconso rfl rfl)))))))))), rfl, hZ62I, hZ62K, by omega, by omega, by omega, by omega, by omega, by omega, by omega, by omega, by omega, by omega,  hP⟩


/-! a season told, m (printed by season.py) -/
/- yX12_bSeason -/
def zf_282q (Z : qz_Z) (a1 : Int) : qz_Z := (if (2 * a1) ≤ 8 then (zlet2 (zl_282_1q a1 (2 * a1) 9 Z 0) (fun Z3 y2 => (zlet2 (zl_282_2q (4 * a1) 25 Z3 0) (fun Z6 y5 => Z6)))) else (zlet2 (zl_282_1q a1 8 9 Z 0) (fun Z9 y8 => (if (4 * a1) ≤ 24 then (zlet2 (zl_282_2q (4 * a1) 25 Z9 0) (fun Z13 y12 => Z13)) else (zlet2 (zl_282_2q 24 25 Z9 0) (fun Z16 y15 => Z16))))))
theorem sp_282q {Z : qz_Z} {ν : qz_N} (hZ : zI (some none) Z) {a1 : Int} (ga1 : 1 ≤ a1 ∧ a1 ≤ 12) (gx0 : Z 2 0 0 1400 = 0) (gx1 : 1 ≤ Z 2 0 0 100) : ∃ P : qz_Z, P = zf_282q Z a1 ∧ (qf_282 [.inr (.inr (some (1, 0, 0))), .inl (i3 a1)] (zm Z ν) = some (zm P ν, .inl none) ∧ zI (some none) P ∧ zK [1, 2] Z P ∧ P 2 0 0 102 = Z 2 0 0 102 ∧ P 2 0 0 100 = Z 2 0 0 100 ∧ P 2 0 0 3000 = Z 2 0 0 3000 ∧ P 2 0 0 3200 = Z 2 0 0 3200 ∧ P 2 0 0 3500 = Z 2 0 0 3500) := by
  obtain ⟨P, hP⟩ := zx (zf_282q Z a1)
  refine zc_V (Q := fun P => zI (some none) P ∧ zK [1, 2] Z P ∧ P 2 0 0 102 = Z 2 0 0 102 ∧ P 2 0 0 100 = Z 2 0 0 100 ∧ P 2 0 0 3000 = Z 2 0 0 3000 ∧ P 2 0 0 3200 = Z 2 0 0 3200 ∧ P 2 0 0 3500 = Z 2 0 0 3500) hP (fw_282 (i3 a1) _ _ ?_)
  replace hP : zE P (zf_282q Z a1) := hP
  unfold zf_282q at hP
  refine wz_br (i3Le (i3M (show (2 : Int32) = i3 2 from rfl) (rfl : i3 a1 = i3 a1)) (show (8 : Int32) = i3 8 from rfl) (by omega) (by omega) (by omega) (by omega)) (fun h1 => ?_) (fun h1 => ?_)
  · replace hP := zE_p hP h1
    refine sl_282_1q (ν := ν) hZ zK_r (x1 := a1) (by omega) (x2 := (2 * a1)) (by omega) (x3 := 0) (by omega) (kc4 := Z 2 0 0 3500) (kc3 := Z 2 0 0 3200) (kc2 := Z 2 0 0 3000) (kc1 := Z 2 0 0 100) (kc0 := Z 2 0 0 102) (by omega) (by omega) (by omega) (by omega) (by omega) (by omega) (by omega) (by omega) (zconso rfl (zconso (zvo (rfl : i3 a1 = i3 a1)) (zconso (zvo (i3M (show (2 : Int32) = i3 2 from rfl) (rfl : i3 a1 = i3 a1))) (zconso (zvo (show (0 : Int32) = i3 0 from rfl)) (zconso rfl (zconso rfl (zconso rfl (zconso rfl (zconso rfl (zconso rfl rfl)))))))))) rfl ?_
    intro L4 Z3 y2 hL4 hZ3I kZ3 gy2 gL4_0 gL4_1 gL4_2 gL4_3 gL4_4 gL4_5 gL4_6 gL4_7 gL4_8 q9
    replace hP := zl_e2 hP (Eq.symm q9)
    clear q9
    have hZ3K : zK [1, 2] Z Z3 := zK_t zK_r kZ3 (by decide)
    refine fc_282_4 (i3 a1) _ _ _ _ hL4 ?_
    refine wz_i1 (Eq.trans (i3Le (i3M (show (4 : Int32) = i3 4 from rfl) (rfl : i3 a1 = i3 a1)) (show (24 : Int32) = i3 24 from rfl) (by omega) (by omega) (by omega) (by omega)) (decide_eq_true (by omega))) ?_
    refine sl_282_2q (ν := ν) hZ3I zK_r (x3 := (4 * a1)) (by omega) (x4 := 0) (by omega) (kc5 := Z3 2 0 0 3500) (kc4 := Z3 2 0 0 3200) (kc3 := Z3 2 0 0 3000) (kc2 := Z3 2 0 0 1400) (kc1 := Z3 2 0 0 100) (kc0 := Z3 2 0 0 102) (by omega) (by omega) (by omega) (by omega) (by omega) (by omega) (by omega) (by omega) (zconso rfl (zconso rfl (zconso rfl (zconso (zvo (i3M (show (4 : Int32) = i3 4 from rfl) (rfl : i3 a1 = i3 a1))) (zconso (zvo (show (0 : Int32) = i3 0 from rfl)) (zconso rfl (zconso rfl (zconso rfl (zconso rfl (zconso rfl rfl)))))))))) rfl ?_
    intro L7 Z6 y5 hL7 hZ6I kZ6 gy5 gL7_0 gL7_1 gL7_2 gL7_3 gL7_4 gL7_5 gL7_6 gL7_7 q9
    replace hP := zl_e2 hP (Eq.symm q9)
    clear q9
    have hZ6K : zK [1, 2] Z Z6 := zK_t hZ3K kZ6 (by decide)
    refine fc_282_3  _ _ _ _ hL7 ?_
    exact zlV hP ⟨hZ6I, hZ6K, by omega, by omega, by omega, by omega, by omega⟩
  · replace hP := zE_n hP h1
    refine sl_282_1q (ν := ν) hZ zK_r (x1 := a1) (by omega) (x2 := 8) (by omega) (x3 := 0) (by omega) (kc4 := Z 2 0 0 3500) (kc3 := Z 2 0 0 3200) (kc2 := Z 2 0 0 3000) (kc1 := Z 2 0 0 100) (kc0 := Z 2 0 0 102) (by omega) (by omega) (by omega) (by omega) (by omega) (by omega) (by omega) (by omega) (zconso rfl (zconso (zvo (rfl : i3 a1 = i3 a1)) (zconso (zvo (show (8 : Int32) = i3 8 from rfl)) (zconso (zvo (show (0 : Int32) = i3 0 from rfl)) (zconso rfl (zconso rfl (zconso rfl (zconso rfl (zconso rfl (zconso rfl rfl)))))))))) rfl ?_
    intro L10 Z9 y8 hL10 hZ9I kZ9 gy8 gL10_0 gL10_1 gL10_2 gL10_3 gL10_4 gL10_5 gL10_6 gL10_7 gL10_8 q9
    replace hP := zl_e2 hP (Eq.symm q9)
    clear q9
    have hZ9K : zK [1, 2] Z Z9 := zK_t zK_r kZ9 (by decide)
    refine fc_282_4 (i3 a1) _ _ _ _ hL10 ?_
    refine wz_br (i3Le (i3M (show (4 : Int32) = i3 4 from rfl) (rfl : i3 a1 = i3 a1)) (show (24 : Int32) = i3 24 from rfl) (by omega) (by omega) (by omega) (by omega)) (fun h11 => ?_) (fun h11 => ?_)
    · replace hP := zE_p hP h11
      refine sl_282_2q (ν := ν) hZ9I zK_r (x3 := (4 * a1)) (by omega) (x4 := 0) (by omega) (kc5 := Z9 2 0 0 3500) (kc4 := Z9 2 0 0 3200) (kc3 := Z9 2 0 0 3000) (kc2 := Z9 2 0 0 1400) (kc1 := Z9 2 0 0 100) (kc0 := Z9 2 0 0 102) (by omega) (by omega) (by omega) (by omega) (by omega) (by omega) (by omega) (by omega) (zconso rfl (zconso rfl (zconso rfl (zconso (zvo (i3M (show (4 : Int32) = i3 4 from rfl) (rfl : i3 a1 = i3 a1))) (zconso (zvo (show (0 : Int32) = i3 0 from rfl)) (zconso rfl (zconso rfl (zconso rfl (zconso rfl (zconso rfl rfl)))))))))) rfl ?_
      intro L14 Z13 y12 hL14 hZ13I kZ13 gy12 gL14_0 gL14_1 gL14_2 gL14_3 gL14_4 gL14_5 gL14_6 gL14_7 q9
      replace hP := zl_e2 hP (Eq.symm q9)
      clear q9
      have hZ13K : zK [1, 2] Z Z13 := zK_t hZ9K kZ13 (by decide)
      refine fc_282_3  _ _ _ _ hL14 ?_
      exact zlV hP ⟨hZ13I, hZ13K, by omega, by omega, by omega, by omega, by omega⟩
    · replace hP := zE_n hP h11
      refine sl_282_2q (ν := ν) hZ9I zK_r (x3 := 24) (by omega) (x4 := 0) (by omega) (kc5 := Z9 2 0 0 3500) (kc4 := Z9 2 0 0 3200) (kc3 := Z9 2 0 0 3000) (kc2 := Z9 2 0 0 1400) (kc1 := Z9 2 0 0 100) (kc0 := Z9 2 0 0 102) (by omega) (by omega) (by omega) (by omega) (by omega) (by omega) (by omega) (by omega) (zconso rfl (zconso rfl (zconso rfl (zconso (zvo (show (24 : Int32) = i3 24 from rfl)) (zconso (zvo (show (0 : Int32) = i3 0 from rfl)) (zconso rfl (zconso rfl (zconso rfl (zconso rfl (zconso rfl rfl)))))))))) rfl ?_
      intro L17 Z16 y15 hL17 hZ16I kZ16 gy15 gL17_0 gL17_1 gL17_2 gL17_3 gL17_4 gL17_5 gL17_6 gL17_7 q9
      replace hP := zl_e2 hP (Eq.symm q9)
      clear q9
      have hZ16K : zK [1, 2] Z Z16 := zK_t hZ9K kZ16 (by decide)
      refine fc_282_3  _ _ _ _ hL17 ?_
      exact zlV hP ⟨hZ16I, hZ16K, by omega, by omega, by omega, by omega, by omega⟩

/- yX12_cClock -/
def zf_297 (Z : qz_Z) (a1 : Int) (a2 : Int) (a3 : Int) (a4 : Int) (a5 : Int) : qz_Z × Int := (zlet (zu Z 2 0 0 3000 ((Z 2 0 0 3000) + 1)) (fun Z2 => (zlet (zu Z2 2 0 0 (3010 + 60 * (Z 2 0 0 3000)) a1) (fun Z7 => (zlet (zu Z7 2 0 0 (3011 + 60 * (Z 2 0 0 3000)) a2) (fun Z12 => (zlet (zu Z12 2 0 0 (3012 + 60 * (Z 2 0 0 3000)) a3) (fun Z17 => (zlet (zu Z17 2 0 0 (3013 + 60 * (Z 2 0 0 3000)) a4) (fun Z22 => (zlet (zu Z22 2 0 0 (3014 + 60 * (Z 2 0 0 3000)) a5) (fun Z27 => (zlet (zu Z27 2 0 0 (3016 + 60 * (Z 2 0 0 3000)) (-1)) (fun Z32 => (zlet (zu Z32 2 0 0 (3017 + 60 * (Z 2 0 0 3000)) (-1)) (fun Z37 => (Z37, (Z 2 0 0 3000))))))))))))))))))
theorem sp_297 {s : zS} {Z : qz_Z} {ν : qz_N} (hZ : zI s Z) {a1 : Int} (ga1 : 4 ≤ a1 ∧ a1 ≤ 7) {a2 : Int} (ga2 : 1 ≤ a2 ∧ a2 ≤ 4) {a3 : Int} (ga3 : 1 ≤ a3 ∧ a3 ≤ 4) {a4 : Int} (ga4 : 10 ≤ a4 ∧ a4 ≤ 90) {a5 : Int} (ga5 : 0 ≤ a5 ∧ a5 ≤ 4) (gx0 : Z 2 0 0 3000 ≤ 1) : ∃ (Z1 : qz_Z) (P : Int), (Z1, P) = zf_297 Z a1 a2 a3 a4 a5 ∧ (qf_297 [.inr (.inr (some (1, 0, 0))), .inl (i3 a1), .inl (i3 a2), .inl (i3 a3), .inl (i3 a4), .inl (i3 a5)] (zm Z ν) = some (zm Z1 ν, .inl (some (.inl (i3 P)))) ∧ zI s Z1 ∧ zK [2] Z Z1 ∧ 0 ≤ P ∧ P ≤ 2 ∧ Z1 2 0 0 3000 = Z 2 0 0 3000 + 1 ∧ Z1 2 0 0 102 = Z 2 0 0 102 ∧ Z1 2 0 0 3200 = Z 2 0 0 3200 ∧ Z1 2 0 0 3500 = Z 2 0 0 3500) := by
  obtain ⟨P, hP⟩ := zx (zf_297 Z a1 a2 a3 a4 a5)
  refine zc_W (Q := fun Z1 P => zI s Z1 ∧ zK [2] Z Z1 ∧ 0 ≤ P ∧ P ≤ 2 ∧ Z1 2 0 0 3000 = Z 2 0 0 3000 + 1 ∧ Z1 2 0 0 102 = Z 2 0 0 102 ∧ Z1 2 0 0 3200 = Z 2 0 0 3200 ∧ Z1 2 0 0 3500 = Z 2 0 0 3500) hP (fw_297 (i3 a1) (i3 a2) (i3 a3) (i3 a4) (i3 a5) _ _ ?_)
  replace hP : zE P (zf_297 Z a1 a2 a3 a4 a5) := hP
  unfold zf_297 at hP
  have r1 := zI_k hZ 2 0 0 3000 (lo := 0) (hi := 2) (by decide) rfl
  obtain ⟨Z2, hZ2⟩ := zx (zu Z 2 0 0 3000 ((Z 2 0 0 3000) + 1))
  replace hP := zl_e hP hZ2
  have hZ2I := zI_u hZ hZ2 (lo := 0) (hi := 2) (by decide) rfl (by omega) ⟨by decide, by decide⟩ (Or.inl (by decide))
  have t3 : Z2 2 0 0 102 = Z 2 0 0 102 := zu_ne hZ2 (fun q => absurd q.2.2.2 (by decide))
  have t4 := zu_at hZ2
  have t5 : Z2 2 0 0 3200 = Z 2 0 0 3200 := zu_ne hZ2 (fun q => absurd q.2.2.2 (by decide))
  have t6 : Z2 2 0 0 3500 = Z 2 0 0 3500 := zu_ne hZ2 (fun q => absurd q.2.2.2 (by decide))
  have hZ2K : zK [2] Z Z2 := zK_u zK_r hZ2 (by decide)
  intro μ9 e9
  replace e9 := e9.trans (zm_wI (Z := Z) (ν := ν) hZ2 (show ((0 : Nat) : Int) = 0 from rfl) (show ((0 : Nat) : Int) = 0 from rfl) (show ((3000 : Nat) : Int) = 3000 from rfl) (i3A (zm_rd (Z := Z) (ν := ν) (k := 2) (show ((0 : Nat) : Int) = 0 from rfl) (show ((0 : Nat) : Int) = 0 from rfl) (show ((3000 : Nat) : Int) = 3000 from rfl)) (show (1 : Int32) = i3 1 from rfl)))
  subst e9
  refine wz_i0 (i3O (n := 4400) (i3A (i3A (show (3010 : Int32) = i3 3010 from rfl) (i3M (show (60 : Int32) = i3 60 from rfl) (zm_rd (Z := Z) (ν := ν) (k := 2) (show ((0 : Nat) : Int) = 0 from rfl) (show ((0 : Nat) : Int) = 0 from rfl) (show ((3000 : Nat) : Int) = 3000 from rfl)))) (show (0 : Int32) = i3 0 from rfl)) (by omega) (by omega) (by omega)) ?_
  obtain ⟨Z7, hZ7⟩ := zx (zu Z2 2 0 0 (3010 + 60 * (Z 2 0 0 3000)) a1)
  replace hP := zl_e hP hZ7
  have hZ7I := zI_u hZ2I hZ7 (lo := 0) (hi := 23) (by decide) (zs_3010_0 (x := ((Z 2 0 0 3000) + 0)) (by omega) (by omega) (by omega)) (by omega) ⟨by decide, by decide⟩ (Or.inl (by decide))
  have t8 : Z7 2 0 0 102 = Z2 2 0 0 102 := zu_ne hZ7 (by omega)
  have t9 : Z7 2 0 0 3000 = Z2 2 0 0 3000 := zu_ne hZ7 (by omega)
  have t10 : Z7 2 0 0 3200 = Z2 2 0 0 3200 := zu_ne hZ7 (by omega)
  have t11 : Z7 2 0 0 3500 = Z2 2 0 0 3500 := zu_ne hZ7 (by omega)
  have hZ7K := zK_u hZ2K hZ7 (by decide)
  intro μ9 e9
  replace e9 := e9.trans (zm_wI (Z := Z2) (ν := ν) hZ7 (show ((0 : Nat) : Int) = 0 from rfl) (show ((0 : Nat) : Int) = 0 from rfl) (i3I (y := (3010 + 60 * (Z 2 0 0 3000))) (i3A (i3A (show (3010 : Int32) = i3 3010 from rfl) (i3M (show (60 : Int32) = i3 60 from rfl) (zm_rd (Z := Z) (ν := ν) (k := 2) (show ((0 : Nat) : Int) = 0 from rfl) (show ((0 : Nat) : Int) = 0 from rfl) (show ((3000 : Nat) : Int) = 3000 from rfl)))) (show (0 : Int32) = i3 0 from rfl)) (by omega) (by omega) (by omega)) (rfl : i3 a1 = i3 a1))
  subst e9
  refine wz_i0 (i3O (n := 4400) (i3A (i3A (show (3010 : Int32) = i3 3010 from rfl) (i3M (show (60 : Int32) = i3 60 from rfl) (zm_rd (Z := Z) (ν := ν) (k := 2) (show ((0 : Nat) : Int) = 0 from rfl) (show ((0 : Nat) : Int) = 0 from rfl) (show ((3000 : Nat) : Int) = 3000 from rfl)))) (show (1 : Int32) = i3 1 from rfl)) (by omega) (by omega) (by omega)) ?_
  obtain ⟨Z12, hZ12⟩ := zx (zu Z7 2 0 0 (3011 + 60 * (Z 2 0 0 3000)) a2)
  replace hP := zl_e hP hZ12
  have hZ12I := zI_u hZ7I hZ12 (lo := 0) (hi := 6) (by decide) (zs_3010_1 (x := ((Z 2 0 0 3000) + 0)) (by omega) (by omega) (by omega)) (by omega) ⟨by decide, by decide⟩ (Or.inl (by decide))
  have t13 : Z12 2 0 0 102 = Z7 2 0 0 102 := zu_ne hZ12 (by omega)
  have t14 : Z12 2 0 0 3000 = Z7 2 0 0 3000 := zu_ne hZ12 (by omega)
  have t15 : Z12 2 0 0 3200 = Z7 2 0 0 3200 := zu_ne hZ12 (by omega)
  have t16 : Z12 2 0 0 3500 = Z7 2 0 0 3500 := zu_ne hZ12 (by omega)
  have hZ12K := zK_u hZ7K hZ12 (by decide)
  intro μ9 e9
  replace e9 := e9.trans (zm_wI (Z := Z7) (ν := ν) hZ12 (show ((0 : Nat) : Int) = 0 from rfl) (show ((0 : Nat) : Int) = 0 from rfl) (i3I (y := (3011 + 60 * (Z 2 0 0 3000))) (i3A (i3A (show (3010 : Int32) = i3 3010 from rfl) (i3M (show (60 : Int32) = i3 60 from rfl) (zm_rd (Z := Z) (ν := ν) (k := 2) (show ((0 : Nat) : Int) = 0 from rfl) (show ((0 : Nat) : Int) = 0 from rfl) (show ((3000 : Nat) : Int) = 3000 from rfl)))) (show (1 : Int32) = i3 1 from rfl)) (by omega) (by omega) (by omega)) (rfl : i3 a2 = i3 a2))
  subst e9
  refine wz_i0 (i3O (n := 4400) (i3A (i3A (show (3010 : Int32) = i3 3010 from rfl) (i3M (show (60 : Int32) = i3 60 from rfl) (zm_rd (Z := Z) (ν := ν) (k := 2) (show ((0 : Nat) : Int) = 0 from rfl) (show ((0 : Nat) : Int) = 0 from rfl) (show ((3000 : Nat) : Int) = 3000 from rfl)))) (show (2 : Int32) = i3 2 from rfl)) (by omega) (by omega) (by omega)) ?_
  obtain ⟨Z17, hZ17⟩ := zx (zu Z12 2 0 0 (3012 + 60 * (Z 2 0 0 3000)) a3)
  replace hP := zl_e hP hZ17
  have hZ17I := zI_u hZ12I hZ17 (lo := 0) (hi := 6) (by decide) (zs_3010_2 (x := ((Z 2 0 0 3000) + 0)) (by omega) (by omega) (by omega)) (by omega) ⟨by decide, by decide⟩ (Or.inl (by decide))
  have t18 : Z17 2 0 0 102 = Z12 2 0 0 102 := zu_ne hZ17 (by omega)
  have t19 : Z17 2 0 0 3000 = Z12 2 0 0 3000 := zu_ne hZ17 (by omega)
  have t20 : Z17 2 0 0 3200 = Z12 2 0 0 3200 := zu_ne hZ17 (by omega)
  have t21 : Z17 2 0 0 3500 = Z12 2 0 0 3500 := zu_ne hZ17 (by omega)
  have hZ17K := zK_u hZ12K hZ17 (by decide)
  intro μ9 e9
  replace e9 := e9.trans (zm_wI (Z := Z12) (ν := ν) hZ17 (show ((0 : Nat) : Int) = 0 from rfl) (show ((0 : Nat) : Int) = 0 from rfl) (i3I (y := (3012 + 60 * (Z 2 0 0 3000))) (i3A (i3A (show (3010 : Int32) = i3 3010 from rfl) (i3M (show (60 : Int32) = i3 60 from rfl) (zm_rd (Z := Z) (ν := ν) (k := 2) (show ((0 : Nat) : Int) = 0 from rfl) (show ((0 : Nat) : Int) = 0 from rfl) (show ((3000 : Nat) : Int) = 3000 from rfl)))) (show (2 : Int32) = i3 2 from rfl)) (by omega) (by omega) (by omega)) (rfl : i3 a3 = i3 a3))
  subst e9
  refine wz_i0 (i3O (n := 4400) (i3A (i3A (show (3010 : Int32) = i3 3010 from rfl) (i3M (show (60 : Int32) = i3 60 from rfl) (zm_rd (Z := Z) (ν := ν) (k := 2) (show ((0 : Nat) : Int) = 0 from rfl) (show ((0 : Nat) : Int) = 0 from rfl) (show ((3000 : Nat) : Int) = 3000 from rfl)))) (show (3 : Int32) = i3 3 from rfl)) (by omega) (by omega) (by omega)) ?_
  obtain ⟨Z22, hZ22⟩ := zx (zu Z17 2 0 0 (3013 + 60 * (Z 2 0 0 3000)) a4)
  replace hP := zl_e hP hZ22
  have hZ22I := zI_u hZ17I hZ22 (lo := 0) (hi := 500) (by decide) (zs_3010_3 (x := ((Z 2 0 0 3000) + 0)) (by omega) (by omega) (by omega)) (by omega) ⟨by decide, by decide⟩ (Or.inl (by decide))
  have t23 : Z22 2 0 0 102 = Z17 2 0 0 102 := zu_ne hZ22 (by omega)
  have t24 : Z22 2 0 0 3000 = Z17 2 0 0 3000 := zu_ne hZ22 (by omega)
  have t25 : Z22 2 0 0 3200 = Z17 2 0 0 3200 := zu_ne hZ22 (by omega)
  have t26 : Z22 2 0 0 3500 = Z17 2 0 0 3500 := zu_ne hZ22 (by omega)
  have hZ22K := zK_u hZ17K hZ22 (by decide)
  intro μ9 e9
  replace e9 := e9.trans (zm_wI (Z := Z17) (ν := ν) hZ22 (show ((0 : Nat) : Int) = 0 from rfl) (show ((0 : Nat) : Int) = 0 from rfl) (i3I (y := (3013 + 60 * (Z 2 0 0 3000))) (i3A (i3A (show (3010 : Int32) = i3 3010 from rfl) (i3M (show (60 : Int32) = i3 60 from rfl) (zm_rd (Z := Z) (ν := ν) (k := 2) (show ((0 : Nat) : Int) = 0 from rfl) (show ((0 : Nat) : Int) = 0 from rfl) (show ((3000 : Nat) : Int) = 3000 from rfl)))) (show (3 : Int32) = i3 3 from rfl)) (by omega) (by omega) (by omega)) (rfl : i3 a4 = i3 a4))
  subst e9
  refine wz_i0 (i3O (n := 4400) (i3A (i3A (show (3010 : Int32) = i3 3010 from rfl) (i3M (show (60 : Int32) = i3 60 from rfl) (zm_rd (Z := Z) (ν := ν) (k := 2) (show ((0 : Nat) : Int) = 0 from rfl) (show ((0 : Nat) : Int) = 0 from rfl) (show ((3000 : Nat) : Int) = 3000 from rfl)))) (show (4 : Int32) = i3 4 from rfl)) (by omega) (by omega) (by omega)) ?_
  obtain ⟨Z27, hZ27⟩ := zx (zu Z22 2 0 0 (3014 + 60 * (Z 2 0 0 3000)) a5)
  replace hP := zl_e hP hZ27
  have hZ27I := zI_u hZ22I hZ27 (lo := 0) (hi := 9) (by decide) (zs_3010_4 (x := ((Z 2 0 0 3000) + 0)) (by omega) (by omega) (by omega)) (by omega) ⟨by decide, by decide⟩ (Or.inl (by decide))
  have t28 : Z27 2 0 0 102 = Z22 2 0 0 102 := zu_ne hZ27 (by omega)
  have t29 : Z27 2 0 0 3000 = Z22 2 0 0 3000 := zu_ne hZ27 (by omega)
  have t30 : Z27 2 0 0 3200 = Z22 2 0 0 3200 := zu_ne hZ27 (by omega)
  have t31 : Z27 2 0 0 3500 = Z22 2 0 0 3500 := zu_ne hZ27 (by omega)
  have hZ27K := zK_u hZ22K hZ27 (by decide)
  intro μ9 e9
  replace e9 := e9.trans (zm_wI (Z := Z22) (ν := ν) hZ27 (show ((0 : Nat) : Int) = 0 from rfl) (show ((0 : Nat) : Int) = 0 from rfl) (i3I (y := (3014 + 60 * (Z 2 0 0 3000))) (i3A (i3A (show (3010 : Int32) = i3 3010 from rfl) (i3M (show (60 : Int32) = i3 60 from rfl) (zm_rd (Z := Z) (ν := ν) (k := 2) (show ((0 : Nat) : Int) = 0 from rfl) (show ((0 : Nat) : Int) = 0 from rfl) (show ((3000 : Nat) : Int) = 3000 from rfl)))) (show (4 : Int32) = i3 4 from rfl)) (by omega) (by omega) (by omega)) (rfl : i3 a5 = i3 a5))
  subst e9
  refine wz_i0 (i3O (n := 4400) (i3A (i3A (show (3010 : Int32) = i3 3010 from rfl) (i3M (show (60 : Int32) = i3 60 from rfl) (zm_rd (Z := Z) (ν := ν) (k := 2) (show ((0 : Nat) : Int) = 0 from rfl) (show ((0 : Nat) : Int) = 0 from rfl) (show ((3000 : Nat) : Int) = 3000 from rfl)))) (show (6 : Int32) = i3 6 from rfl)) (by omega) (by omega) (by omega)) ?_
  obtain ⟨Z32, hZ32⟩ := zx (zu Z27 2 0 0 (3016 + 60 * (Z 2 0 0 3000)) (-1))
  replace hP := zl_e hP hZ32
  have hZ32I := zI_u hZ27I hZ32 (lo := -1) (hi := 9999) (by decide) (zs_3010_6 (x := ((Z 2 0 0 3000) + 0)) (by omega) (by omega) (by omega)) (by omega) ⟨by decide, by decide⟩ (Or.inl (by decide))
  have t33 : Z32 2 0 0 102 = Z27 2 0 0 102 := zu_ne hZ32 (by omega)
  have t34 : Z32 2 0 0 3000 = Z27 2 0 0 3000 := zu_ne hZ32 (by omega)
  have t35 : Z32 2 0 0 3200 = Z27 2 0 0 3200 := zu_ne hZ32 (by omega)
  have t36 : Z32 2 0 0 3500 = Z27 2 0 0 3500 := zu_ne hZ32 (by omega)
  have hZ32K := zK_u hZ27K hZ32 (by decide)
  intro μ9 e9
  replace e9 := e9.trans (zm_wI (Z := Z27) (ν := ν) hZ32 (show ((0 : Nat) : Int) = 0 from rfl) (show ((0 : Nat) : Int) = 0 from rfl) (i3I (y := (3016 + 60 * (Z 2 0 0 3000))) (i3A (i3A (show (3010 : Int32) = i3 3010 from rfl) (i3M (show (60 : Int32) = i3 60 from rfl) (zm_rd (Z := Z) (ν := ν) (k := 2) (show ((0 : Nat) : Int) = 0 from rfl) (show ((0 : Nat) : Int) = 0 from rfl) (show ((3000 : Nat) : Int) = 3000 from rfl)))) (show (6 : Int32) = i3 6 from rfl)) (by omega) (by omega) (by omega)) (show (-1 : Int32) = i3 (-1) from rfl))
  subst e9
  refine wz_i0 (i3O (n := 4400) (i3A (i3A (show (3010 : Int32) = i3 3010 from rfl) (i3M (show (60 : Int32) = i3 60 from rfl) (zm_rd (Z := Z) (ν := ν) (k := 2) (show ((0 : Nat) : Int) = 0 from rfl) (show ((0 : Nat) : Int) = 0 from rfl) (show ((3000 : Nat) : Int) = 3000 from rfl)))) (show (7 : Int32) = i3 7 from rfl)) (by omega) (by omega) (by omega)) ?_
  obtain ⟨Z37, hZ37⟩ := zx (zu Z32 2 0 0 (3017 + 60 * (Z 2 0 0 3000)) (-1))
  replace hP := zl_e hP hZ37
  have hZ37I := zI_u hZ32I hZ37 (lo := -1) (hi := 47) (by decide) (zs_3010_7 (x := ((Z 2 0 0 3000) + 0)) (by omega) (by omega) (by omega)) (by omega) ⟨by decide, by decide⟩ (Or.inl (by decide))
  have t38 : Z37 2 0 0 102 = Z32 2 0 0 102 := zu_ne hZ37 (by omega)
  have t39 : Z37 2 0 0 3000 = Z32 2 0 0 3000 := zu_ne hZ37 (by omega)
  have t40 : Z37 2 0 0 3200 = Z32 2 0 0 3200 := zu_ne hZ37 (by omega)
  have t41 : Z37 2 0 0 3500 = Z32 2 0 0 3500 := zu_ne hZ37 (by omega)
  have hZ37K := zK_u hZ32K hZ37 (by decide)
  intro μ9 e9
  replace e9 := e9.trans (zm_wI (Z := Z32) (ν := ν) hZ37 (show ((0 : Nat) : Int) = 0 from rfl) (show ((0 : Nat) : Int) = 0 from rfl) (i3I (y := (3017 + 60 * (Z 2 0 0 3000))) (i3A (i3A (show (3010 : Int32) = i3 3010 from rfl) (i3M (show (60 : Int32) = i3 60 from rfl) (zm_rd (Z := Z) (ν := ν) (k := 2) (show ((0 : Nat) : Int) = 0 from rfl) (show ((0 : Nat) : Int) = 0 from rfl) (show ((3000 : Nat) : Int) = 3000 from rfl)))) (show (7 : Int32) = i3 7 from rfl)) (by omega) (by omega) (by omega)) (show (-1 : Int32) = i3 (-1) from rfl))
  subst e9
  exact zlW hP (zm_rd (Z := Z) (ν := ν) (k := 2) (show ((0 : Nat) : Int) = 0 from rfl) (show ((0 : Nat) : Int) = 0 from rfl) (show ((3000 : Nat) : Int) = 3000 from rfl)) ⟨hZ37I, hZ37K, by omega, by omega, by omega, by omega, by omega, by omega⟩

/- yX12_cQueue -/
def zf_307 (Z : qz_Z) (a1 : Int) (a2 : Int) (a3 : Int) (a4 : Int) : qz_Z := (zlet (zu Z 2 0 0 (3022 + 60 * a1 + 3 * (Z 2 0 0 (3015 + 60 * a1))) a2) (fun Z2 => (zlet (zu Z2 2 0 0 (3023 + 60 * a1 + 3 * (Z 2 0 0 (3015 + 60 * a1))) a3) (fun Z7 => (zlet (zu Z7 2 0 0 (3024 + 60 * a1 + 3 * (Z 2 0 0 (3015 + 60 * a1))) a4) (fun Z12 => (zlet (zu Z12 2 0 0 (3015 + 60 * a1) ((Z 2 0 0 (3015 + 60 * a1)) + 1)) (fun Z17 => (zlet (zu Z17 2 0 0 (210 + 20 * a2) 1) (fun Z22 => Z22))))))))))
theorem sp_307 {s : zS} {Z : qz_Z} {ν : qz_N} (hZ : zI s Z) {a1 : Int} (ga1 : 0 ≤ a1 ∧ a1 ≤ 1) {a2 : Int} (ga2 : 0 ≤ a2 ∧ a2 ≤ 47) {a3 : Int} (ga3 : 200 ≤ a3 ∧ a3 ≤ 2150) {a4 : Int} (ga4 : 1 ≤ a4 ∧ a4 ≤ 2150) (gx0 : Z 2 0 0 (3015 + 60 * a1) ≤ 11) : ∃ P : qz_Z, P = zf_307 Z a1 a2 a3 a4 ∧ (qf_307 [.inr (.inr (some (1, 0, 0))), .inl (i3 a1), .inl (i3 a2), .inl (i3 a3), .inl (i3 a4)] (zm Z ν) = some (zm P ν, .inl none) ∧ zI s P ∧ zK [2] Z P ∧ P 2 0 0 102 = Z 2 0 0 102 ∧ P 2 0 0 3000 = Z 2 0 0 3000 ∧ P 2 0 0 3200 = Z 2 0 0 3200 ∧ P 2 0 0 3500 = Z 2 0 0 3500) := by
  obtain ⟨P, hP⟩ := zx (zf_307 Z a1 a2 a3 a4)
  refine zc_V (Q := fun P => zI s P ∧ zK [2] Z P ∧ P 2 0 0 102 = Z 2 0 0 102 ∧ P 2 0 0 3000 = Z 2 0 0 3000 ∧ P 2 0 0 3200 = Z 2 0 0 3200 ∧ P 2 0 0 3500 = Z 2 0 0 3500) hP (fw_307 (i3 a1) (i3 a2) (i3 a3) (i3 a4) _ _ ?_)
  replace hP : zE P (zf_307 Z a1 a2 a3 a4) := hP
  unfold zf_307 at hP
  refine wz_i0 (i3O (n := 4400) (i3A (i3A (show (3010 : Int32) = i3 3010 from rfl) (i3M (show (60 : Int32) = i3 60 from rfl) (rfl : i3 a1 = i3 a1))) (show (5 : Int32) = i3 5 from rfl)) (by omega) (by omega) (by omega)) ?_
  have r1 := zI_k hZ 2 0 0 (3015 + 60 * a1) (lo := 0) (hi := 12) (by decide) (zs_3010_5 (x := (a1 + 0)) (by omega) (by omega) (by omega))
  refine wz_i0 (i3O (n := 4400) (i3A (i3A (i3A (i3A (show (3010 : Int32) = i3 3010 from rfl) (i3M (show (60 : Int32) = i3 60 from rfl) (rfl : i3 a1 = i3 a1))) (show (12 : Int32) = i3 12 from rfl)) (i3M (show (3 : Int32) = i3 3 from rfl) (zm_rd (Z := Z) (ν := ν) (k := 2) (show ((0 : Nat) : Int) = 0 from rfl) (show ((0 : Nat) : Int) = 0 from rfl) (i3I (y := (3015 + 60 * a1)) (i3A (i3A (show (3010 : Int32) = i3 3010 from rfl) (i3M (show (60 : Int32) = i3 60 from rfl) (rfl : i3 a1 = i3 a1))) (show (5 : Int32) = i3 5 from rfl)) (by omega) (by omega) (by omega))))) (show (0 : Int32) = i3 0 from rfl)) (by omega) (by omega) (by omega)) ?_
  obtain ⟨Z2, hZ2⟩ := zx (zu Z 2 0 0 (3022 + 60 * a1 + 3 * (Z 2 0 0 (3015 + 60 * a1))) a2)
  replace hP := zl_e hP hZ2
  have hZ2I := zI_u hZ hZ2 (lo := 0) (hi := 47) (by decide) (zs_lot_0 (c := a1 + 0) (pl := (Z 2 0 0 (3015 + 60 * a1)) + 0) (by omega) (by omega) (by omega) (by omega) (by omega)) (by omega) ⟨by decide, by decide⟩ (Or.inl (by decide))
  have t3 : Z2 2 0 0 102 = Z 2 0 0 102 := zu_ne hZ2 (by omega)
  have t4 : Z2 2 0 0 3000 = Z 2 0 0 3000 := zu_ne hZ2 (by omega)
  have t5 : Z2 2 0 0 3200 = Z 2 0 0 3200 := zu_ne hZ2 (by omega)
  have t6 : Z2 2 0 0 3500 = Z 2 0 0 3500 := zu_ne hZ2 (by omega)
  have hZ2K : zK [2] Z Z2 := zK_u zK_r hZ2 (by decide)
  intro μ9 e9
  replace e9 := e9.trans (zm_wI (Z := Z) (ν := ν) hZ2 (show ((0 : Nat) : Int) = 0 from rfl) (show ((0 : Nat) : Int) = 0 from rfl) (i3I (y := (3022 + 60 * a1 + 3 * (Z 2 0 0 (3015 + 60 * a1)))) (i3A (i3A (i3A (i3A (show (3010 : Int32) = i3 3010 from rfl) (i3M (show (60 : Int32) = i3 60 from rfl) (rfl : i3 a1 = i3 a1))) (show (12 : Int32) = i3 12 from rfl)) (i3M (show (3 : Int32) = i3 3 from rfl) (zm_rd (Z := Z) (ν := ν) (k := 2) (show ((0 : Nat) : Int) = 0 from rfl) (show ((0 : Nat) : Int) = 0 from rfl) (i3I (y := (3015 + 60 * a1)) (i3A (i3A (show (3010 : Int32) = i3 3010 from rfl) (i3M (show (60 : Int32) = i3 60 from rfl) (rfl : i3 a1 = i3 a1))) (show (5 : Int32) = i3 5 from rfl)) (by omega) (by omega) (by omega))))) (show (0 : Int32) = i3 0 from rfl)) (by omega) (by omega) (by omega)) (rfl : i3 a2 = i3 a2))
  subst e9
  refine wz_i0 (i3O (n := 4400) (i3A (i3A (i3A (i3A (show (3010 : Int32) = i3 3010 from rfl) (i3M (show (60 : Int32) = i3 60 from rfl) (rfl : i3 a1 = i3 a1))) (show (12 : Int32) = i3 12 from rfl)) (i3M (show (3 : Int32) = i3 3 from rfl) (zm_rd (Z := Z) (ν := ν) (k := 2) (show ((0 : Nat) : Int) = 0 from rfl) (show ((0 : Nat) : Int) = 0 from rfl) (i3I (y := (3015 + 60 * a1)) (i3A (i3A (show (3010 : Int32) = i3 3010 from rfl) (i3M (show (60 : Int32) = i3 60 from rfl) (rfl : i3 a1 = i3 a1))) (show (5 : Int32) = i3 5 from rfl)) (by omega) (by omega) (by omega))))) (show (1 : Int32) = i3 1 from rfl)) (by omega) (by omega) (by omega)) ?_
  obtain ⟨Z7, hZ7⟩ := zx (zu Z2 2 0 0 (3023 + 60 * a1 + 3 * (Z 2 0 0 (3015 + 60 * a1))) a3)
  replace hP := zl_e hP hZ7
  have hZ7I := zI_u hZ2I hZ7 (lo := 0) (hi := 9999) (by decide) (zs_lot_1 (c := a1 + 0) (pl := (Z 2 0 0 (3015 + 60 * a1)) + 0) (by omega) (by omega) (by omega) (by omega) (by omega)) (by omega) ⟨by decide, by decide⟩ (Or.inl (by decide))
  have t8 : Z7 2 0 0 102 = Z2 2 0 0 102 := zu_ne hZ7 (by omega)
  have t9 : Z7 2 0 0 3000 = Z2 2 0 0 3000 := zu_ne hZ7 (by omega)
  have t10 : Z7 2 0 0 3200 = Z2 2 0 0 3200 := zu_ne hZ7 (by omega)
  have t11 : Z7 2 0 0 3500 = Z2 2 0 0 3500 := zu_ne hZ7 (by omega)
  have hZ7K := zK_u hZ2K hZ7 (by decide)
  intro μ9 e9
  replace e9 := e9.trans (zm_wI (Z := Z2) (ν := ν) hZ7 (show ((0 : Nat) : Int) = 0 from rfl) (show ((0 : Nat) : Int) = 0 from rfl) (i3I (y := (3023 + 60 * a1 + 3 * (Z 2 0 0 (3015 + 60 * a1)))) (i3A (i3A (i3A (i3A (show (3010 : Int32) = i3 3010 from rfl) (i3M (show (60 : Int32) = i3 60 from rfl) (rfl : i3 a1 = i3 a1))) (show (12 : Int32) = i3 12 from rfl)) (i3M (show (3 : Int32) = i3 3 from rfl) (zm_rd (Z := Z) (ν := ν) (k := 2) (show ((0 : Nat) : Int) = 0 from rfl) (show ((0 : Nat) : Int) = 0 from rfl) (i3I (y := (3015 + 60 * a1)) (i3A (i3A (show (3010 : Int32) = i3 3010 from rfl) (i3M (show (60 : Int32) = i3 60 from rfl) (rfl : i3 a1 = i3 a1))) (show (5 : Int32) = i3 5 from rfl)) (by omega) (by omega) (by omega))))) (show (1 : Int32) = i3 1 from rfl)) (by omega) (by omega) (by omega)) (rfl : i3 a3 = i3 a3))
  subst e9
  refine wz_i0 (i3O (n := 4400) (i3A (i3A (i3A (i3A (show (3010 : Int32) = i3 3010 from rfl) (i3M (show (60 : Int32) = i3 60 from rfl) (rfl : i3 a1 = i3 a1))) (show (12 : Int32) = i3 12 from rfl)) (i3M (show (3 : Int32) = i3 3 from rfl) (zm_rd (Z := Z) (ν := ν) (k := 2) (show ((0 : Nat) : Int) = 0 from rfl) (show ((0 : Nat) : Int) = 0 from rfl) (i3I (y := (3015 + 60 * a1)) (i3A (i3A (show (3010 : Int32) = i3 3010 from rfl) (i3M (show (60 : Int32) = i3 60 from rfl) (rfl : i3 a1 = i3 a1))) (show (5 : Int32) = i3 5 from rfl)) (by omega) (by omega) (by omega))))) (show (2 : Int32) = i3 2 from rfl)) (by omega) (by omega) (by omega)) ?_
  obtain ⟨Z12, hZ12⟩ := zx (zu Z7 2 0 0 (3024 + 60 * a1 + 3 * (Z 2 0 0 (3015 + 60 * a1))) a4)
  replace hP := zl_e hP hZ12
  have hZ12I := zI_u hZ7I hZ12 (lo := 0) (hi := 9999) (by decide) (zs_lot_2 (c := a1 + 0) (pl := (Z 2 0 0 (3015 + 60 * a1)) + 0) (by omega) (by omega) (by omega) (by omega) (by omega)) (by omega) ⟨by decide, by decide⟩ (Or.inl (by decide))
  have t13 : Z12 2 0 0 102 = Z7 2 0 0 102 := zu_ne hZ12 (by omega)
  have t14 : Z12 2 0 0 3000 = Z7 2 0 0 3000 := zu_ne hZ12 (by omega)
  have t15 : Z12 2 0 0 3200 = Z7 2 0 0 3200 := zu_ne hZ12 (by omega)
  have t16 : Z12 2 0 0 3500 = Z7 2 0 0 3500 := zu_ne hZ12 (by omega)
  have hZ12K := zK_u hZ7K hZ12 (by decide)
  intro μ9 e9
  replace e9 := e9.trans (zm_wI (Z := Z7) (ν := ν) hZ12 (show ((0 : Nat) : Int) = 0 from rfl) (show ((0 : Nat) : Int) = 0 from rfl) (i3I (y := (3024 + 60 * a1 + 3 * (Z 2 0 0 (3015 + 60 * a1)))) (i3A (i3A (i3A (i3A (show (3010 : Int32) = i3 3010 from rfl) (i3M (show (60 : Int32) = i3 60 from rfl) (rfl : i3 a1 = i3 a1))) (show (12 : Int32) = i3 12 from rfl)) (i3M (show (3 : Int32) = i3 3 from rfl) (zm_rd (Z := Z) (ν := ν) (k := 2) (show ((0 : Nat) : Int) = 0 from rfl) (show ((0 : Nat) : Int) = 0 from rfl) (i3I (y := (3015 + 60 * a1)) (i3A (i3A (show (3010 : Int32) = i3 3010 from rfl) (i3M (show (60 : Int32) = i3 60 from rfl) (rfl : i3 a1 = i3 a1))) (show (5 : Int32) = i3 5 from rfl)) (by omega) (by omega) (by omega))))) (show (2 : Int32) = i3 2 from rfl)) (by omega) (by omega) (by omega)) (rfl : i3 a4 = i3 a4))
  subst e9
  refine wz_i0 (i3O (n := 4400) (i3A (i3A (show (3010 : Int32) = i3 3010 from rfl) (i3M (show (60 : Int32) = i3 60 from rfl) (rfl : i3 a1 = i3 a1))) (show (5 : Int32) = i3 5 from rfl)) (by omega) (by omega) (by omega)) ?_
  obtain ⟨Z17, hZ17⟩ := zx (zu Z12 2 0 0 (3015 + 60 * a1) ((Z 2 0 0 (3015 + 60 * a1)) + 1))
  replace hP := zl_e hP hZ17
  have hZ17I := zI_u hZ12I hZ17 (lo := 0) (hi := 12) (by decide) (zs_3010_5 (x := (a1 + 0)) (by omega) (by omega) (by omega)) (by omega) ⟨by decide, by decide⟩ (Or.inl (by decide))
  have t18 : Z17 2 0 0 102 = Z12 2 0 0 102 := zu_ne hZ17 (by omega)
  have t19 : Z17 2 0 0 3000 = Z12 2 0 0 3000 := zu_ne hZ17 (by omega)
  have t20 : Z17 2 0 0 3200 = Z12 2 0 0 3200 := zu_ne hZ17 (by omega)
  have t21 : Z17 2 0 0 3500 = Z12 2 0 0 3500 := zu_ne hZ17 (by omega)
  have hZ17K := zK_u hZ12K hZ17 (by decide)
  intro μ9 e9
  replace e9 := e9.trans (zm_wI (Z := Z12) (ν := ν) hZ17 (show ((0 : Nat) : Int) = 0 from rfl) (show ((0 : Nat) : Int) = 0 from rfl) (i3I (y := (3015 + 60 * a1)) (i3A (i3A (show (3010 : Int32) = i3 3010 from rfl) (i3M (show (60 : Int32) = i3 60 from rfl) (rfl : i3 a1 = i3 a1))) (show (5 : Int32) = i3 5 from rfl)) (by omega) (by omega) (by omega)) (i3A (zm_rd (Z := Z) (ν := ν) (k := 2) (show ((0 : Nat) : Int) = 0 from rfl) (show ((0 : Nat) : Int) = 0 from rfl) (i3I (y := (3015 + 60 * a1)) (i3A (i3A (show (3010 : Int32) = i3 3010 from rfl) (i3M (show (60 : Int32) = i3 60 from rfl) (rfl : i3 a1 = i3 a1))) (show (5 : Int32) = i3 5 from rfl)) (by omega) (by omega) (by omega))) (show (1 : Int32) = i3 1 from rfl)))
  subst e9
  refine wz_i0 (i3O (n := 4400) (i3A (i3A (show (200 : Int32) = i3 200 from rfl) (i3M (show (20 : Int32) = i3 20 from rfl) (rfl : i3 a2 = i3 a2))) (show (10 : Int32) = i3 10 from rfl)) (by omega) (by omega) (by omega)) ?_
  obtain ⟨Z22, hZ22⟩ := zx (zu Z17 2 0 0 (210 + 20 * a2) 1)
  replace hP := zl_e hP hZ22
  have hZ22I := zI_u hZ17I hZ22 (lo := 0) (hi := 4) (by decide) (zs_200_10 (x := a2) (by omega) (by omega) (by omega)) (by omega) ⟨by decide, by decide⟩ (Or.inl (by decide))
  have t23 : Z22 2 0 0 102 = Z17 2 0 0 102 := zu_ne hZ22 (by omega)
  have t24 : Z22 2 0 0 3000 = Z17 2 0 0 3000 := zu_ne hZ22 (by omega)
  have t25 : Z22 2 0 0 3200 = Z17 2 0 0 3200 := zu_ne hZ22 (by omega)
  have t26 : Z22 2 0 0 3500 = Z17 2 0 0 3500 := zu_ne hZ22 (by omega)
  have hZ22K := zK_u hZ17K hZ22 (by decide)
  intro μ9 e9
  replace e9 := e9.trans (zm_wI (Z := Z17) (ν := ν) hZ22 (show ((0 : Nat) : Int) = 0 from rfl) (show ((0 : Nat) : Int) = 0 from rfl) (i3I (y := (210 + 20 * a2)) (i3A (i3A (show (200 : Int32) = i3 200 from rfl) (i3M (show (20 : Int32) = i3 20 from rfl) (rfl : i3 a2 = i3 a2))) (show (10 : Int32) = i3 10 from rfl)) (by omega) (by omega) (by omega)) (show (1 : Int32) = i3 1 from rfl))
  subst e9
  exact zlV hP ⟨hZ22I, hZ22K, by omega, by omega, by omega, by omega⟩

/- yX12_isShut -/
def zf_390 (Z : qz_Z) (a1 : Int) : Int := (if a1 < 0 then 0 else (if 5 < a1 then 0 else (if (Z 2 0 0 (3510 + a1)) ≤ (Z 2 0 0 0) then 0 else 1)))
theorem sp_390 {s : zS} {Z : qz_Z} {ν : qz_N} (hZ : zI s Z) {a1 : Int} (ga1 : -1 ≤ a1 ∧ a1 ≤ 6) : ∃ P : Int, P = zf_390 Z a1 ∧ (qf_390 [.inr (.inr (some (1, 0, 0))), .inl (i3 a1)] (zm Z ν) = some (zm Z ν, .inl (some (.inl (i3 P)))) ∧ 0 ≤ P ∧ P ≤ 1) := by
  obtain ⟨P, hP⟩ := zx (zf_390 Z a1)
  refine zc_R (Q := fun P => 0 ≤ P ∧ P ≤ 1) hP (fw_390 (i3 a1) _ _ ?_)
  replace hP : zE P (zf_390 Z a1) := hP
  unfold zf_390 at hP
  refine wz_br (i3L (rfl : i3 a1 = i3 a1) (show (0 : Int32) = i3 0 from rfl) (by omega) (by omega) (by omega) (by omega)) (fun h1 => ?_) (fun h1 => ?_)
  · replace hP := zE_p hP h1
    exact zlR hP (show (0 : Int32) = i3 0 from rfl) ⟨by omega, by omega⟩
  · replace hP := zE_n hP h1
    refine wz_br (i3L (show (5 : Int32) = i3 5 from rfl) (rfl : i3 a1 = i3 a1) (by omega) (by omega) (by omega) (by omega)) (fun h2 => ?_) (fun h2 => ?_)
    · replace hP := zE_p hP h2
      exact zlR hP (show (0 : Int32) = i3 0 from rfl) ⟨by omega, by omega⟩
    · replace hP := zE_n hP h2
      refine wz_i0 (i3O (n := 4400) (i3A (show (3510 : Int32) = i3 3510 from rfl) (rfl : i3 a1 = i3 a1)) (by omega) (by omega) (by omega)) ?_
      have r3 := zI_k hZ 2 0 0 (3510 + a1) (lo := 0) (hi := 695) (by decide) (zs_3510 (by omega) (by omega))
      have r4 := zI_k hZ 2 0 0 0 (lo := 0) (hi := 671) (by decide) rfl
      refine wz_br (i3Le (zm_rd (Z := Z) (ν := ν) (k := 2) (show ((0 : Nat) : Int) = 0 from rfl) (show ((0 : Nat) : Int) = 0 from rfl) (i3I (y := (3510 + a1)) (i3A (show (3510 : Int32) = i3 3510 from rfl) (rfl : i3 a1 = i3 a1)) (by omega) (by omega) (by omega))) (zm_rd (Z := Z) (ν := ν) (k := 2) (show ((0 : Nat) : Int) = 0 from rfl) (show ((0 : Nat) : Int) = 0 from rfl) (show ((0 : Nat) : Int) = 0 from rfl)) (by omega) (by omega) (by omega) (by omega)) (fun h5 => ?_) (fun h5 => ?_)
      · replace hP := zE_p hP h5
        exact zlR hP (show (0 : Int32) = i3 0 from rfl) ⟨by omega, by omega⟩
      · replace hP := zE_n hP h5
        exact zlR hP (show (1 : Int32) = i3 1 from rfl) ⟨by omega, by omega⟩

/- yX12_queue -/
def zf_459q (Z : qz_Z) (a1 : Int) (a2 : Int) (a3 : Int) (a4 : Int) : qz_Z × Int := (if ((Z 2 0 0 3000) - 1) < a1 then (zlet (zu Z 1 0 0 2 1) (fun Z3 => (Z3, 0))) else (if ((Z 2 0 0 102) - 1) < a2 then (zlet (zu Z 1 0 0 2 1) (fun Z11 => (Z11, 0))) else (zlet (zu Z 1 0 0 2 0) (fun Z17 => (if a4 < 1 then (zlet (zu Z17 1 0 0 2 2) (fun Z24 => (Z24, 0))) else (if a3 < a4 then (zlet (zu Z17 1 0 0 2 2) (fun Z31 => (Z31, 0))) else (if (200 * (Z17 2 0 0 (3013 + 60 * a1))) < (a3 - a4) then (zlet (zu Z17 1 0 0 2 2) (fun Z39 => (Z39, 0))) else (zlet (zu Z17 1 0 0 2 0) (fun Z45 => (if (Z45 2 0 0 (210 + 20 * a2)) ≠ 0 then (zlet (zu Z45 1 0 0 2 3) (fun Z53 => (Z53, 0))) else (if (Z45 2 0 0 (204 + 20 * a2)) ≤ 0 then (zlet (zu Z45 1 0 0 2 3) (fun Z61 => (Z61, 0))) else (zlet (zf_390 Z45 (Z45 2 0 0 (211 + 20 * a2))) (fun v68 => (if v68 ≠ 0 then (zlet (zu Z45 1 0 0 2 3) (fun Z70 => (Z70, 0))) else (if 12 ≤ (Z45 2 0 0 (3015 + 60 * a1)) then (zlet (zu Z45 1 0 0 2 3) (fun Z78 => (Z78, 0))) else (zlet (zu Z45 1 0 0 2 0) (fun Z84 => (zlet (zf_307 Z84 a1 a2 a3 a4) (fun Z91 => (Z91, ((Z91 2 0 0 (3015 + 60 * a1)) - 1)))))))))))))))))))))
theorem sp_459q {Z : qz_Z} {ν : qz_N} (hZ : zI (some none) Z) {a1 : Int} (ga1 : 0 ≤ a1 ∧ a1 ≤ 1) {a2 : Int} (ga2 : 0 ≤ a2 ∧ a2 ≤ 47) {a3 : Int} (ga3 : 200 ≤ a3 ∧ a3 ≤ 2150) {a4 : Int} (ga4 : -1949 ≤ a4 ∧ a4 ≤ 2150) : ∃ (Z1 : qz_Z) (P : Int), (Z1, P) = zf_459q Z a1 a2 a3 a4 ∧ (qf_459 [.inr (.inr (some (1, 0, 0))), .inl (i3 a1), .inl (i3 a2), .inl (i3 a3), .inl (i3 a4)] (zm Z ν) = some (zm Z1 ν, .inl (some (.inl (i3 P)))) ∧ zI (some none) Z1 ∧ zK [1, 2] Z Z1 ∧ -1 ≤ P ∧ P ≤ 11 ∧ Z1 2 0 0 102 = Z 2 0 0 102 ∧ Z1 2 0 0 3000 = Z 2 0 0 3000 ∧ Z1 2 0 0 3200 = Z 2 0 0 3200 ∧ Z1 2 0 0 3500 = Z 2 0 0 3500) := by
  obtain ⟨P, hP⟩ := zx (zf_459q Z a1 a2 a3 a4)
  refine zc_W (Q := fun Z1 P => zI (some none) Z1 ∧ zK [1, 2] Z Z1 ∧ -1 ≤ P ∧ P ≤ 11 ∧ Z1 2 0 0 102 = Z 2 0 0 102 ∧ Z1 2 0 0 3000 = Z 2 0 0 3000 ∧ Z1 2 0 0 3200 = Z 2 0 0 3200 ∧ Z1 2 0 0 3500 = Z 2 0 0 3500) hP (fw_459 (i3 a1) (i3 a2) (i3 a3) (i3 a4) _ _ ?_)
  replace hP : zE P (zf_459q Z a1 a2 a3 a4) := hP
  unfold zf_459q at hP
  refine wz_i0 (Eq.trans (i3L (rfl : i3 a1 = i3 a1) (show (0 : Int32) = i3 0 from rfl) (by omega) (by omega) (by omega) (by omega)) (decide_eq_false (by omega))) ?_
  have r1 := zI_k hZ 2 0 0 3000 (lo := 0) (hi := 2) (by decide) rfl
  refine wz_br (i3L (i3S (zm_rd (Z := Z) (ν := ν) (k := 2) (show ((0 : Nat) : Int) = 0 from rfl) (show ((0 : Nat) : Int) = 0 from rfl) (show ((3000 : Nat) : Int) = 3000 from rfl)) (show (1 : Int32) = i3 1 from rfl)) (rfl : i3 a1 = i3 a1) (by omega) (by omega) (by omega) (by omega)) (fun h2 => ?_) (fun h2 => ?_)
  · replace hP := zE_p hP h2
    obtain ⟨Z3, hZ3⟩ := zx (zu Z 1 0 0 2 1)
    replace hP := zl_e hP hZ3
    have hZ3I := zI_u hZ hZ3 (lo := -2147483648) (hi := 2147483647) (by decide) rfl (by omega) ⟨by decide, by decide⟩ (Or.inr (by decide))
    have t4 : Z3 2 0 0 102 = Z 2 0 0 102 := zu_ne hZ3 (fun q => absurd q.1 (by decide))
    have t5 : Z3 2 0 0 3000 = Z 2 0 0 3000 := zu_ne hZ3 (fun q => absurd q.1 (by decide))
    have t6 : Z3 2 0 0 3200 = Z 2 0 0 3200 := zu_ne hZ3 (fun q => absurd q.1 (by decide))
    have t7 : Z3 2 0 0 3500 = Z 2 0 0 3500 := zu_ne hZ3 (fun q => absurd q.1 (by decide))
    have t8 : Z3 2 0 0 (3015 + 60 * a1) = Z 2 0 0 (3015 + 60 * a1) := zu_ne hZ3 (fun q => absurd q.1 (by decide))
    have hZ3K : zK [1, 2] Z Z3 := zK_u zK_r hZ3 (by decide)
    intro μ9 e9
    replace e9 := e9.trans (zm_wI (Z := Z) (ν := ν) hZ3 (show ((0 : Nat) : Int) = 0 from rfl) (show ((0 : Nat) : Int) = 0 from rfl) (show ((2 : Nat) : Int) = 2 from rfl) (show (1 : Int32) = i3 1 from rfl))
    subst e9
    exact zlW hP (show (0 : Int32) = i3 0 from rfl) ⟨hZ3I, hZ3K, by omega, by omega, by omega, by omega, by omega, by omega⟩
  · replace hP := zE_n hP h2
    refine wz_i0 (Eq.trans (i3L (rfl : i3 a2 = i3 a2) (show (0 : Int32) = i3 0 from rfl) (by omega) (by omega) (by omega) (by omega)) (decide_eq_false (by omega))) ?_
    have r9 := zI_k hZ 2 0 0 102 (lo := 0) (hi := 48) (by decide) rfl
    refine wz_br (i3L (i3S (zm_rd (Z := Z) (ν := ν) (k := 2) (show ((0 : Nat) : Int) = 0 from rfl) (show ((0 : Nat) : Int) = 0 from rfl) (show ((102 : Nat) : Int) = 102 from rfl)) (show (1 : Int32) = i3 1 from rfl)) (rfl : i3 a2 = i3 a2) (by omega) (by omega) (by omega) (by omega)) (fun h10 => ?_) (fun h10 => ?_)
    · replace hP := zE_p hP h10
      obtain ⟨Z11, hZ11⟩ := zx (zu Z 1 0 0 2 1)
      replace hP := zl_e hP hZ11
      have hZ11I := zI_u hZ hZ11 (lo := -2147483648) (hi := 2147483647) (by decide) rfl (by omega) ⟨by decide, by decide⟩ (Or.inr (by decide))
      have t12 : Z11 2 0 0 102 = Z 2 0 0 102 := zu_ne hZ11 (fun q => absurd q.1 (by decide))
      have t13 : Z11 2 0 0 3000 = Z 2 0 0 3000 := zu_ne hZ11 (fun q => absurd q.1 (by decide))
      have t14 : Z11 2 0 0 3200 = Z 2 0 0 3200 := zu_ne hZ11 (fun q => absurd q.1 (by decide))
      have t15 : Z11 2 0 0 3500 = Z 2 0 0 3500 := zu_ne hZ11 (fun q => absurd q.1 (by decide))
      have t16 : Z11 2 0 0 (3015 + 60 * a1) = Z 2 0 0 (3015 + 60 * a1) := zu_ne hZ11 (fun q => absurd q.1 (by decide))
      have hZ11K : zK [1, 2] Z Z11 := zK_u zK_r hZ11 (by decide)
      intro μ9 e9
      replace e9 := e9.trans (zm_wI (Z := Z) (ν := ν) hZ11 (show ((0 : Nat) : Int) = 0 from rfl) (show ((0 : Nat) : Int) = 0 from rfl) (show ((2 : Nat) : Int) = 2 from rfl) (show (1 : Int32) = i3 1 from rfl))
      subst e9
      exact zlW hP (show (0 : Int32) = i3 0 from rfl) ⟨hZ11I, hZ11K, by omega, by omega, by omega, by omega, by omega, by omega⟩
    · replace hP := zE_n hP h10
      obtain ⟨Z17, hZ17⟩ := zx (zu Z 1 0 0 2 0)
      replace hP := zl_e hP hZ17
      have hZ17I := zI_0 hZ hZ17 (by decide) (Or.inr (by decide))
      have t18 : Z17 2 0 0 102 = Z 2 0 0 102 := zu_ne hZ17 (fun q => absurd q.1 (by decide))
      have t19 : Z17 2 0 0 3000 = Z 2 0 0 3000 := zu_ne hZ17 (fun q => absurd q.1 (by decide))
      have t20 : Z17 2 0 0 3200 = Z 2 0 0 3200 := zu_ne hZ17 (fun q => absurd q.1 (by decide))
      have t21 : Z17 2 0 0 3500 = Z 2 0 0 3500 := zu_ne hZ17 (fun q => absurd q.1 (by decide))
      have t22 : Z17 2 0 0 (3015 + 60 * a1) = Z 2 0 0 (3015 + 60 * a1) := zu_ne hZ17 (fun q => absurd q.1 (by decide))
      have hZ17K : zK [1, 2] Z Z17 := zK_u zK_r hZ17 (by decide)
      intro μ9 e9
      replace e9 := e9.trans (zm_wI (Z := Z) (ν := ν) hZ17 (show ((0 : Nat) : Int) = 0 from rfl) (show ((0 : Nat) : Int) = 0 from rfl) (show ((2 : Nat) : Int) = 2 from rfl) (show (0 : Int32) = i3 0 from rfl))
      subst e9
      refine wz_i0 (Eq.trans (i3L (rfl : i3 a3 = i3 a3) (show (1 : Int32) = i3 1 from rfl) (by omega) (by omega) (by omega) (by omega)) (decide_eq_false (by omega))) ?_
      refine wz_i0 (Eq.trans (i3L (show (9999 : Int32) = i3 9999 from rfl) (rfl : i3 a3 = i3 a3) (by omega) (by omega) (by omega) (by omega)) (decide_eq_false (by omega))) ?_
      refine wz_br (i3L (rfl : i3 a4 = i3 a4) (show (1 : Int32) = i3 1 from rfl) (by omega) (by omega) (by omega) (by omega)) (fun h23 => ?_) (fun h23 => ?_)
      · replace hP := zE_p hP h23
        obtain ⟨Z24, hZ24⟩ := zx (zu Z17 1 0 0 2 2)
        replace hP := zl_e hP hZ24
        have hZ24I := zI_u hZ17I hZ24 (lo := -2147483648) (hi := 2147483647) (by decide) rfl (by omega) ⟨by decide, by decide⟩ (Or.inr (by decide))
        have t25 : Z24 2 0 0 102 = Z17 2 0 0 102 := zu_ne hZ24 (fun q => absurd q.1 (by decide))
        have t26 : Z24 2 0 0 3000 = Z17 2 0 0 3000 := zu_ne hZ24 (fun q => absurd q.1 (by decide))
        have t27 : Z24 2 0 0 3200 = Z17 2 0 0 3200 := zu_ne hZ24 (fun q => absurd q.1 (by decide))
        have t28 : Z24 2 0 0 3500 = Z17 2 0 0 3500 := zu_ne hZ24 (fun q => absurd q.1 (by decide))
        have t29 : Z24 2 0 0 (3015 + 60 * a1) = Z17 2 0 0 (3015 + 60 * a1) := zu_ne hZ24 (fun q => absurd q.1 (by decide))
        have hZ24K := zK_u hZ17K hZ24 (by decide)
        intro μ9 e9
        replace e9 := e9.trans (zm_wI (Z := Z17) (ν := ν) hZ24 (show ((0 : Nat) : Int) = 0 from rfl) (show ((0 : Nat) : Int) = 0 from rfl) (show ((2 : Nat) : Int) = 2 from rfl) (show (2 : Int32) = i3 2 from rfl))
        subst e9
        exact zlW hP (show (0 : Int32) = i3 0 from rfl) ⟨hZ24I, hZ24K, by omega, by omega, by omega, by omega, by omega, by omega⟩
      · replace hP := zE_n hP h23
        refine wz_br (i3L (rfl : i3 a3 = i3 a3) (rfl : i3 a4 = i3 a4) (by omega) (by omega) (by omega) (by omega)) (fun h30 => ?_) (fun h30 => ?_)
        · replace hP := zE_p hP h30
          obtain ⟨Z31, hZ31⟩ := zx (zu Z17 1 0 0 2 2)
          replace hP := zl_e hP hZ31
          have hZ31I := zI_u hZ17I hZ31 (lo := -2147483648) (hi := 2147483647) (by decide) rfl (by omega) ⟨by decide, by decide⟩ (Or.inr (by decide))
          have t32 : Z31 2 0 0 102 = Z17 2 0 0 102 := zu_ne hZ31 (fun q => absurd q.1 (by decide))
          have t33 : Z31 2 0 0 3000 = Z17 2 0 0 3000 := zu_ne hZ31 (fun q => absurd q.1 (by decide))
          have t34 : Z31 2 0 0 3200 = Z17 2 0 0 3200 := zu_ne hZ31 (fun q => absurd q.1 (by decide))
          have t35 : Z31 2 0 0 3500 = Z17 2 0 0 3500 := zu_ne hZ31 (fun q => absurd q.1 (by decide))
          have t36 : Z31 2 0 0 (3015 + 60 * a1) = Z17 2 0 0 (3015 + 60 * a1) := zu_ne hZ31 (fun q => absurd q.1 (by decide))
          have hZ31K := zK_u hZ17K hZ31 (by decide)
          intro μ9 e9
          replace e9 := e9.trans (zm_wI (Z := Z17) (ν := ν) hZ31 (show ((0 : Nat) : Int) = 0 from rfl) (show ((0 : Nat) : Int) = 0 from rfl) (show ((2 : Nat) : Int) = 2 from rfl) (show (2 : Int32) = i3 2 from rfl))
          subst e9
          exact zlW hP (show (0 : Int32) = i3 0 from rfl) ⟨hZ31I, hZ31K, by omega, by omega, by omega, by omega, by omega, by omega⟩
        · replace hP := zE_n hP h30
          refine wz_i0 (i3O (n := 4400) (i3A (i3A (show (3010 : Int32) = i3 3010 from rfl) (i3M (show (60 : Int32) = i3 60 from rfl) (rfl : i3 a1 = i3 a1))) (show (3 : Int32) = i3 3 from rfl)) (by omega) (by omega) (by omega)) ?_
          have r37 := zI_k hZ17I 2 0 0 (3013 + 60 * a1) (lo := 0) (hi := 500) (by decide) (zs_3010_3 (x := (a1 + 0)) (by omega) (by omega) (by omega))
          refine wz_br (i3L (i3M (show (200 : Int32) = i3 200 from rfl) (zm_rd (Z := Z17) (ν := ν) (k := 2) (show ((0 : Nat) : Int) = 0 from rfl) (show ((0 : Nat) : Int) = 0 from rfl) (i3I (y := (3013 + 60 * a1)) (i3A (i3A (show (3010 : Int32) = i3 3010 from rfl) (i3M (show (60 : Int32) = i3 60 from rfl) (rfl : i3 a1 = i3 a1))) (show (3 : Int32) = i3 3 from rfl)) (by omega) (by omega) (by omega)))) (i3S (rfl : i3 a3 = i3 a3) (rfl : i3 a4 = i3 a4)) (by omega) (by omega) (by omega) (by omega)) (fun h38 => ?_) (fun h38 => ?_)
          · replace hP := zE_p hP h38
            obtain ⟨Z39, hZ39⟩ := zx (zu Z17 1 0 0 2 2)
            replace hP := zl_e hP hZ39
            have hZ39I := zI_u hZ17I hZ39 (lo := -2147483648) (hi := 2147483647) (by decide) rfl (by omega) ⟨by decide, by decide⟩ (Or.inr (by decide))
            have t40 : Z39 2 0 0 102 = Z17 2 0 0 102 := zu_ne hZ39 (fun q => absurd q.1 (by decide))
            have t41 : Z39 2 0 0 3000 = Z17 2 0 0 3000 := zu_ne hZ39 (fun q => absurd q.1 (by decide))
            have t42 : Z39 2 0 0 3200 = Z17 2 0 0 3200 := zu_ne hZ39 (fun q => absurd q.1 (by decide))
            have t43 : Z39 2 0 0 3500 = Z17 2 0 0 3500 := zu_ne hZ39 (fun q => absurd q.1 (by decide))
            have t44 : Z39 2 0 0 (3015 + 60 * a1) = Z17 2 0 0 (3015 + 60 * a1) := zu_ne hZ39 (fun q => absurd q.1 (by decide))
            have hZ39K := zK_u hZ17K hZ39 (by decide)
            intro μ9 e9
            replace e9 := e9.trans (zm_wI (Z := Z17) (ν := ν) hZ39 (show ((0 : Nat) : Int) = 0 from rfl) (show ((0 : Nat) : Int) = 0 from rfl) (show ((2 : Nat) : Int) = 2 from rfl) (show (2 : Int32) = i3 2 from rfl))
            subst e9
            exact zlW hP (show (0 : Int32) = i3 0 from rfl) ⟨hZ39I, hZ39K, by omega, by omega, by omega, by omega, by omega, by omega⟩
          · replace hP := zE_n hP h38
            obtain ⟨Z45, hZ45⟩ := zx (zu Z17 1 0 0 2 0)
            replace hP := zl_e hP hZ45
            have hZ45I := zI_0 hZ17I hZ45 (by decide) (Or.inr (by decide))
            have t46 : Z45 2 0 0 102 = Z17 2 0 0 102 := zu_ne hZ45 (fun q => absurd q.1 (by decide))
            have t47 : Z45 2 0 0 3000 = Z17 2 0 0 3000 := zu_ne hZ45 (fun q => absurd q.1 (by decide))
            have t48 : Z45 2 0 0 3200 = Z17 2 0 0 3200 := zu_ne hZ45 (fun q => absurd q.1 (by decide))
            have t49 : Z45 2 0 0 3500 = Z17 2 0 0 3500 := zu_ne hZ45 (fun q => absurd q.1 (by decide))
            have t50 : Z45 2 0 0 (3015 + 60 * a1) = Z17 2 0 0 (3015 + 60 * a1) := zu_ne hZ45 (fun q => absurd q.1 (by decide))
            have hZ45K := zK_u hZ17K hZ45 (by decide)
            intro μ9 e9
            replace e9 := e9.trans (zm_wI (Z := Z17) (ν := ν) hZ45 (show ((0 : Nat) : Int) = 0 from rfl) (show ((0 : Nat) : Int) = 0 from rfl) (show ((2 : Nat) : Int) = 2 from rfl) (show (0 : Int32) = i3 0 from rfl))
            subst e9
            refine wz_i0 (i3O (n := 4400) (i3A (i3A (show (200 : Int32) = i3 200 from rfl) (i3M (show (20 : Int32) = i3 20 from rfl) (rfl : i3 a2 = i3 a2))) (show (10 : Int32) = i3 10 from rfl)) (by omega) (by omega) (by omega)) ?_
            have r51 := zI_k hZ45I 2 0 0 (210 + 20 * a2) (lo := 0) (hi := 4) (by decide) (zs_200_10 (x := a2) (by omega) (by omega) (by omega))
            refine wz_br (i3NE (zm_rd (Z := Z45) (ν := ν) (k := 2) (show ((0 : Nat) : Int) = 0 from rfl) (show ((0 : Nat) : Int) = 0 from rfl) (i3I (y := (210 + 20 * a2)) (i3A (i3A (show (200 : Int32) = i3 200 from rfl) (i3M (show (20 : Int32) = i3 20 from rfl) (rfl : i3 a2 = i3 a2))) (show (10 : Int32) = i3 10 from rfl)) (by omega) (by omega) (by omega))) (show (0 : Int32) = i3 0 from rfl) (by omega) (by omega) (by omega) (by omega)) (fun h52 => ?_) (fun h52 => ?_)
            · replace hP := zE_p hP h52
              obtain ⟨Z53, hZ53⟩ := zx (zu Z45 1 0 0 2 3)
              replace hP := zl_e hP hZ53
              have hZ53I := zI_u hZ45I hZ53 (lo := -2147483648) (hi := 2147483647) (by decide) rfl (by omega) ⟨by decide, by decide⟩ (Or.inr (by decide))
              have t54 : Z53 2 0 0 102 = Z45 2 0 0 102 := zu_ne hZ53 (fun q => absurd q.1 (by decide))
              have t55 : Z53 2 0 0 3000 = Z45 2 0 0 3000 := zu_ne hZ53 (fun q => absurd q.1 (by decide))
              have t56 : Z53 2 0 0 3200 = Z45 2 0 0 3200 := zu_ne hZ53 (fun q => absurd q.1 (by decide))
              have t57 : Z53 2 0 0 3500 = Z45 2 0 0 3500 := zu_ne hZ53 (fun q => absurd q.1 (by decide))
              have t58 : Z53 2 0 0 (3015 + 60 * a1) = Z45 2 0 0 (3015 + 60 * a1) := zu_ne hZ53 (fun q => absurd q.1 (by decide))
              have hZ53K := zK_u hZ45K hZ53 (by decide)
              intro μ9 e9
              replace e9 := e9.trans (zm_wI (Z := Z45) (ν := ν) hZ53 (show ((0 : Nat) : Int) = 0 from rfl) (show ((0 : Nat) : Int) = 0 from rfl) (show ((2 : Nat) : Int) = 2 from rfl) (show (3 : Int32) = i3 3 from rfl))
              subst e9
              exact zlW hP (show (0 : Int32) = i3 0 from rfl) ⟨hZ53I, hZ53K, by omega, by omega, by omega, by omega, by omega, by omega⟩
            · replace hP := zE_n hP h52
              refine wz_i0 (i3O (n := 4400) (i3A (i3A (show (200 : Int32) = i3 200 from rfl) (i3M (show (20 : Int32) = i3 20 from rfl) (rfl : i3 a2 = i3 a2))) (show (4 : Int32) = i3 4 from rfl)) (by omega) (by omega) (by omega)) ?_
              have r59 := zI_k hZ45I 2 0 0 (204 + 20 * a2) (lo := 0) (hi := 40) (by decide) (zs_200_4 (x := a2) (by omega) (by omega) (by omega))
              refine wz_br (i3Le (zm_rd (Z := Z45) (ν := ν) (k := 2) (show ((0 : Nat) : Int) = 0 from rfl) (show ((0 : Nat) : Int) = 0 from rfl) (i3I (y := (204 + 20 * a2)) (i3A (i3A (show (200 : Int32) = i3 200 from rfl) (i3M (show (20 : Int32) = i3 20 from rfl) (rfl : i3 a2 = i3 a2))) (show (4 : Int32) = i3 4 from rfl)) (by omega) (by omega) (by omega))) (show (0 : Int32) = i3 0 from rfl) (by omega) (by omega) (by omega) (by omega)) (fun h60 => ?_) (fun h60 => ?_)
              · replace hP := zE_p hP h60
                obtain ⟨Z61, hZ61⟩ := zx (zu Z45 1 0 0 2 3)
                replace hP := zl_e hP hZ61
                have hZ61I := zI_u hZ45I hZ61 (lo := -2147483648) (hi := 2147483647) (by decide) rfl (by omega) ⟨by decide, by decide⟩ (Or.inr (by decide))
                have t62 : Z61 2 0 0 102 = Z45 2 0 0 102 := zu_ne hZ61 (fun q => absurd q.1 (by decide))
                have t63 : Z61 2 0 0 3000 = Z45 2 0 0 3000 := zu_ne hZ61 (fun q => absurd q.1 (by decide))
                have t64 : Z61 2 0 0 3200 = Z45 2 0 0 3200 := zu_ne hZ61 (fun q => absurd q.1 (by decide))
                have t65 : Z61 2 0 0 3500 = Z45 2 0 0 3500 := zu_ne hZ61 (fun q => absurd q.1 (by decide))
                have t66 : Z61 2 0 0 (3015 + 60 * a1) = Z45 2 0 0 (3015 + 60 * a1) := zu_ne hZ61 (fun q => absurd q.1 (by decide))
                have hZ61K := zK_u hZ45K hZ61 (by decide)
                intro μ9 e9
                replace e9 := e9.trans (zm_wI (Z := Z45) (ν := ν) hZ61 (show ((0 : Nat) : Int) = 0 from rfl) (show ((0 : Nat) : Int) = 0 from rfl) (show ((2 : Nat) : Int) = 2 from rfl) (show (3 : Int32) = i3 3 from rfl))
                subst e9
                exact zlW hP (show (0 : Int32) = i3 0 from rfl) ⟨hZ61I, hZ61K, by omega, by omega, by omega, by omega, by omega, by omega⟩
              · replace hP := zE_n hP h60
                refine wz_i0 (i3O (n := 4400) (i3A (i3A (show (200 : Int32) = i3 200 from rfl) (i3M (show (20 : Int32) = i3 20 from rfl) (rfl : i3 a2 = i3 a2))) (show (11 : Int32) = i3 11 from rfl)) (by omega) (by omega) (by omega)) ?_
                have r67 := zI_k hZ45I 2 0 0 (211 + 20 * a2) (lo := -1) (hi := 6) (by decide) (zs_200_11 (x := a2) (by omega) (by omega) (by omega))
                obtain ⟨v68, hv68, c9, lv68, uv68⟩ := sp_390 (ν := ν) hZ45I (a1 := (Z45 2 0 0 (211 + 20 * a2))) (by omega)
                replace hP := zl_e hP hv68
                refine wz_cI_of (zas (zcons rfl (zcons (zvi (zm_rd (Z := Z45) (ν := ν) (k := 2) (show ((0 : Nat) : Int) = 0 from rfl) (show ((0 : Nat) : Int) = 0 from rfl) (i3I (y := (211 + 20 * a2)) (i3A (i3A (show (200 : Int32) = i3 200 from rfl) (i3M (show (20 : Int32) = i3 20 from rfl) (rfl : i3 a2 = i3 a2))) (show (11 : Int32) = i3 11 from rfl)) (by omega) (by omega) (by omega)))) rfl)) c9) ?_
                clear c9
                refine wz_br (i3NE (rfl : i3 v68 = i3 v68) (show (0 : Int32) = i3 0 from rfl) (by omega) (by omega) (by omega) (by omega)) (fun h69 => ?_) (fun h69 => ?_)
                · replace hP := zE_p hP h69
                  obtain ⟨Z70, hZ70⟩ := zx (zu Z45 1 0 0 2 3)
                  replace hP := zl_e hP hZ70
                  have hZ70I := zI_u hZ45I hZ70 (lo := -2147483648) (hi := 2147483647) (by decide) rfl (by omega) ⟨by decide, by decide⟩ (Or.inr (by decide))
                  have t71 : Z70 2 0 0 102 = Z45 2 0 0 102 := zu_ne hZ70 (fun q => absurd q.1 (by decide))
                  have t72 : Z70 2 0 0 3000 = Z45 2 0 0 3000 := zu_ne hZ70 (fun q => absurd q.1 (by decide))
                  have t73 : Z70 2 0 0 3200 = Z45 2 0 0 3200 := zu_ne hZ70 (fun q => absurd q.1 (by decide))
                  have t74 : Z70 2 0 0 3500 = Z45 2 0 0 3500 := zu_ne hZ70 (fun q => absurd q.1 (by decide))
                  have t75 : Z70 2 0 0 (3015 + 60 * a1) = Z45 2 0 0 (3015 + 60 * a1) := zu_ne hZ70 (fun q => absurd q.1 (by decide))
                  have hZ70K := zK_u hZ45K hZ70 (by decide)
                  intro μ9 e9
                  replace e9 := e9.trans (zm_wI (Z := Z45) (ν := ν) hZ70 (show ((0 : Nat) : Int) = 0 from rfl) (show ((0 : Nat) : Int) = 0 from rfl) (show ((2 : Nat) : Int) = 2 from rfl) (show (3 : Int32) = i3 3 from rfl))
                  subst e9
                  exact zlW hP (show (0 : Int32) = i3 0 from rfl) ⟨hZ70I, hZ70K, by omega, by omega, by omega, by omega, by omega, by omega⟩
                · replace hP := zE_n hP h69
                  refine wz_i0 (i3O (n := 4400) (i3A (i3A (show (3010 : Int32) = i3 3010 from rfl) (i3M (show (60 : Int32) = i3 60 from rfl) (rfl : i3 a1 = i3 a1))) (show (5 : Int32) = i3 5 from rfl)) (by omega) (by omega) (by omega)) ?_
                  have r76 := zI_k hZ45I 2 0 0 (3015 + 60 * a1) (lo := 0) (hi := 12) (by decide) (zs_3010_5 (x := (a1 + 0)) (by omega) (by omega) (by omega))
                  refine wz_br (i3Le (show (12 : Int32) = i3 12 from rfl) (zm_rd (Z := Z45) (ν := ν) (k := 2) (show ((0 : Nat) : Int) = 0 from rfl) (show ((0 : Nat) : Int) = 0 from rfl) (i3I (y := (3015 + 60 * a1)) (i3A (i3A (show (3010 : Int32) = i3 3010 from rfl) (i3M (show (60 : Int32) = i3 60 from rfl) (rfl : i3 a1 = i3 a1))) (show (5 : Int32) = i3 5 from rfl)) (by omega) (by omega) (by omega))) (by omega) (by omega) (by omega) (by omega)) (fun h77 => ?_) (fun h77 => ?_)
                  · replace hP := zE_p hP h77
                    obtain ⟨Z78, hZ78⟩ := zx (zu Z45 1 0 0 2 3)
                    replace hP := zl_e hP hZ78
                    have hZ78I := zI_u hZ45I hZ78 (lo := -2147483648) (hi := 2147483647) (by decide) rfl (by omega) ⟨by decide, by decide⟩ (Or.inr (by decide))
                    have t79 : Z78 2 0 0 102 = Z45 2 0 0 102 := zu_ne hZ78 (fun q => absurd q.1 (by decide))
                    have t80 : Z78 2 0 0 3000 = Z45 2 0 0 3000 := zu_ne hZ78 (fun q => absurd q.1 (by decide))
                    have t81 : Z78 2 0 0 3200 = Z45 2 0 0 3200 := zu_ne hZ78 (fun q => absurd q.1 (by decide))
                    have t82 : Z78 2 0 0 3500 = Z45 2 0 0 3500 := zu_ne hZ78 (fun q => absurd q.1 (by decide))
                    have t83 : Z78 2 0 0 (3015 + 60 * a1) = Z45 2 0 0 (3015 + 60 * a1) := zu_ne hZ78 (fun q => absurd q.1 (by decide))
                    have hZ78K := zK_u hZ45K hZ78 (by decide)
                    intro μ9 e9
                    replace e9 := e9.trans (zm_wI (Z := Z45) (ν := ν) hZ78 (show ((0 : Nat) : Int) = 0 from rfl) (show ((0 : Nat) : Int) = 0 from rfl) (show ((2 : Nat) : Int) = 2 from rfl) (show (3 : Int32) = i3 3 from rfl))
                    subst e9
                    exact zlW hP (show (0 : Int32) = i3 0 from rfl) ⟨hZ78I, hZ78K, by omega, by omega, by omega, by omega, by omega, by omega⟩
                  · replace hP := zE_n hP h77
                    obtain ⟨Z84, hZ84⟩ := zx (zu Z45 1 0 0 2 0)
                    replace hP := zl_e hP hZ84
                    have hZ84I := zI_0 hZ45I hZ84 (by decide) (Or.inr (by decide))
                    have t85 : Z84 2 0 0 102 = Z45 2 0 0 102 := zu_ne hZ84 (fun q => absurd q.1 (by decide))
                    have t86 : Z84 2 0 0 3000 = Z45 2 0 0 3000 := zu_ne hZ84 (fun q => absurd q.1 (by decide))
                    have t87 : Z84 2 0 0 3200 = Z45 2 0 0 3200 := zu_ne hZ84 (fun q => absurd q.1 (by decide))
                    have t88 : Z84 2 0 0 3500 = Z45 2 0 0 3500 := zu_ne hZ84 (fun q => absurd q.1 (by decide))
                    have t89 : Z84 2 0 0 (3015 + 60 * a1) = Z45 2 0 0 (3015 + 60 * a1) := zu_ne hZ84 (fun q => absurd q.1 (by decide))
                    have hZ84K := zK_u hZ45K hZ84 (by decide)
                    intro μ9 e9
                    replace e9 := e9.trans (zm_wI (Z := Z45) (ν := ν) hZ84 (show ((0 : Nat) : Int) = 0 from rfl) (show ((0 : Nat) : Int) = 0 from rfl) (show ((2 : Nat) : Int) = 2 from rfl) (show (0 : Int32) = i3 0 from rfl))
                    subst e9
                    have r90 := zI_q hZ84I
                    refine wz_i1 (Eq.trans (i3NE (zm_rd (Z := Z84) (ν := ν) (k := 1) (show ((0 : Nat) : Int) = 0 from rfl) (show ((0 : Nat) : Int) = 0 from rfl) (show ((35 : Nat) : Int) = 35 from rfl)) (show (0 : Int32) = i3 0 from rfl) (by omega) (by omega) (by omega) (by omega)) (decide_eq_true (by omega))) ?_
                    obtain ⟨Z91, hZ91, c9, hZ91I, kZ91, wZ910, wZ911, wZ912, wZ913⟩ := sp_307 (ν := ν) hZ84I (a1 := a1) (by omega) (a2 := a2) (by omega) (a3 := a3) (by omega) (a4 := a4) (by omega) (by omega)
                    have hZ91K : zK [1, 2] Z Z91 := zK_t hZ84K kZ91 (by decide)
                    replace hP := zl_e hP hZ91
                    refine wz_cV_of (zas (zcons rfl (zcons (zvi (rfl : i3 a1 = i3 a1)) (zcons (zvi (rfl : i3 a2 = i3 a2)) (zcons (zvi (rfl : i3 a3 = i3 a3)) (zcons (zvi (rfl : i3 a4 = i3 a4)) rfl))))) c9) ?_
                    clear c9
                    refine wz_i0 (i3O (n := 4400) (i3A (i3A (show (3010 : Int32) = i3 3010 from rfl) (i3M (show (60 : Int32) = i3 60 from rfl) (rfl : i3 a1 = i3 a1))) (show (5 : Int32) = i3 5 from rfl)) (by omega) (by omega) (by omega)) ?_
                    have r92 := zI_k hZ91I 2 0 0 (3015 + 60 * a1) (lo := 0) (hi := 12) (by decide) (zs_3010_5 (x := (a1 + 0)) (by omega) (by omega) (by omega))
                    exact zlW hP (i3S (zm_rd (Z := Z91) (ν := ν) (k := 2) (show ((0 : Nat) : Int) = 0 from rfl) (show ((0 : Nat) : Int) = 0 from rfl) (i3I (y := (3015 + 60 * a1)) (i3A (i3A (show (3010 : Int32) = i3 3010 from rfl) (i3M (show (60 : Int32) = i3 60 from rfl) (rfl : i3 a1 = i3 a1))) (show (5 : Int32) = i3 5 from rfl)) (by omega) (by omega) (by omega))) (show (1 : Int32) = i3 1 from rfl)) ⟨hZ91I, hZ91K, by omega, by omega, by omega, by omega, by omega, by omega⟩

