/-! a season told, m (printed by season.py) -/
/- yX12_bSeason -/
def zf_282q (Z : qz_Z) (a1 : Int) : qz_Z := (if (2 * a1) ≤ 8 then (zlet2 (zl_282_1q a1 (2 * a1) 9 Z 0) (fun Z3 y2 => (zlet2 (zl_282_2q (4 * a1) 25 Z3 0) (fun Z6 y5 => Z6)))) else (zlet2 (zl_282_1q a1 8 9 Z 0) (fun Z9 y8 => (if (4 * a1) ≤ 24 then (zlet2 (zl_282_2q (4 * a1) 25 Z9 0) (fun Z13 y12 => Z13)) else (zlet2 (zl_282_2q 24 25 Z9 0) (fun Z16 y15 => Z16))))))
theorem sp_282q {Z : qz_Z} {ν : qz_N} (hZ : zI (some none) Z) {a1 : Int} (ga1 : 1 ≤ a1 ∧ a1 ≤ 12) (gx0 : Z 2 0 0 1400 = 0) (gx1 : 1 ≤ Z 2 0 0 100) : ∃ P : qz_Z, P = zf_282q Z a1 ∧ (qf_282 [.inr (.inr (some (1, 0, 0))), .inl (i3 a1)] (zm Z ν) = some (zm P ν, .inl none) ∧ zI (some none) P ∧ zK [1, 2] Z P ∧ P 2 0 0 102 = Z 2 0 0 102 ∧ P 2 0 0 100 = Z 2 0 0 100 ∧ P 2 0 0 3000 = Z 2 0 0 3000 ∧ P 2 0 0 3200 = Z 2 0 0 3200 ∧ P 2 0 0 3500 = Z 2 0 0 3500) := by
  obtain ⟨P, hP⟩ := zx (zf_282q Z a1)
  refine zc_V (Q := fun P => zI (some none) P ∧ zK [1, 2] Z P ∧ P 2 0 0 102 = Z 2 0 0 102 ∧ P 2 0 0 100 = Z 2 0 0 100 ∧ P 2 0 0 3000 = Z 2 0 0 3000 ∧ P 2 0 0 3200 = Z 2 0 0 3200 ∧ P 2 0 0 3500 = Z 2 0 0 3500) hP (fw_282 (i3 a1) _ _ ?_)
  replace hP : zE P (zf_282q Z a1) := hP
  unfold zf_282q at hP
  refine wz_br (i3Le (i3M (show (2 : Int32) = i3 2 from rfl) (rfl : i3 a1 = i3 a1)) (show (8 : Int32) = i3 8 from rfl) (by omega) (by omega) (by omega) (by omega)) (fun h1 => ?_) (fun h1 => ?_)
  · replace hP := zE_p hP h1
    refine sl_282_1q (ν := ν) hZ zK_r (x1 := a1) (by omega) (x2 := (2 * a1)) (by omega) (x3 := 0) (by omega) (kc4 := Z 2 0 0 3500) (kc3 := Z 2 0 0 3200) (kc2 := Z 2 0 0 3000) (kc1 := Z 2 0 0 100) (kc0 := Z 2 0 0 102) (by omega) (by omega) (by omega) (by omega) (by omega) (by omega) (by omega) (by omega) (zconso rfl (zconso (zvo (rfl : i3 a1 = i3 a1)) (zconso (zvo (i3M (show (2 : Int32) = i3 2 from rfl) (rfl : i3 a1 = i3 a1))) (zconso (zvo (show (0 : Int32) = i3 0 from rfl)) (zconso rfl (zconso rfl (zconso rfl (zconso rfl (zconso rfl (zconso rfl rfl)))))))))) rfl ?_
    intro L4 Z3 y2 hL4 hZ3I kZ3 gy2 gL4_0 gL4_1 gL4_2 gL4_3 gL4_4 gL4_5 gL4_6 gL4_7 gL4_8 q9
    replace hP := zl_e2 hP (Eq.symm q9)
    clear q9
    have hZ3K : zK [1, 2] Z Z3 := zK_t zK_r kZ3 (by decide)
    refine fc_282_4 (i3 a1) _ _ _ _ hL4 ?_
    refine wz_i1 (Eq.trans (i3Le (i3M (show (4 : Int32) = i3 4 from rfl) (rfl : i3 a1 = i3 a1)) (show (24 : Int32) = i3 24 from rfl) (by omega) (by omega) (by omega) (by omega)) (decide_eq_true (by omega))) ?_
    refine sl_282_2q (ν := ν) hZ3I zK_r (x3 := (4 * a1)) (by omega) (x4 := 0) (by omega) (kc5 := Z3 2 0 0 3500) (kc4 := Z3 2 0 0 3200) (kc3 := Z3 2 0 0 3000) (kc2 := Z3 2 0 0 1400) (kc1 := Z3 2 0 0 100) (kc0 := Z3 2 0 0 102) (by omega) (by omega) (by omega) (by omega) (by omega) (by omega) (by omega) (by omega) (zconso rfl (zconso rfl (zconso rfl (zconso (zvo (i3M (show (4 : Int32) = i3 4 from rfl) (rfl : i3 a1 = i3 a1))) (zconso (zvo (show (0 : Int32) = i3 0 from rfl)) (zconso rfl (zconso rfl (zconso rfl (zconso rfl (zconso rfl rfl)))))))))) rfl ?_
    intro L7 Z6 y5 hL7 hZ6I kZ6 gy5 gL7_0 gL7_1 gL7_2 gL7_3 gL7_4 gL7_5 gL7_6 gL7_7 q9
    replace hP := zl_e2 hP (Eq.symm q9)
    clear q9
    have hZ6K : zK [1, 2] Z Z6 := zK_t hZ3K kZ6 (by decide)
    refine fc_282_3  _ _ _ _ hL7 ?_
    exact zlV hP ⟨hZ6I, hZ6K, by omega, by omega, by omega, by omega, by omega⟩
  · replace hP := zE_n hP h1
    refine sl_282_1q (ν := ν) hZ zK_r (x1 := a1) (by omega) (x2 := 8) (by omega) (x3 := 0) (by omega) (kc4 := Z 2 0 0 3500) (kc3 := Z 2 0 0 3200) (kc2 := Z 2 0 0 3000) (kc1 := Z 2 0 0 100) (kc0 := Z 2 0 0 102) (by omega) (by omega) (by omega) (by omega) (by omega) (by omega) (by omega) (by omega) (zconso rfl (zconso (zvo (rfl : i3 a1 = i3 a1)) (zconso (zvo (show (8 : Int32) = i3 8 from rfl)) (zconso (zvo (show (0 : Int32) = i3 0 from rfl)) (zconso rfl (zconso rfl (zconso rfl (zconso rfl (zconso rfl (zconso rfl rfl)))))))))) rfl ?_
    intro L10 Z9 y8 hL10 hZ9I kZ9 gy8 gL10_0 gL10_1 gL10_2 gL10_3 gL10_4 gL10_5 gL10_6 gL10_7 gL10_8 q9
    replace hP := zl_e2 hP (Eq.symm q9)
    clear q9
    have hZ9K : zK [1, 2] Z Z9 := zK_t zK_r kZ9 (by decide)
    refine fc_282_4 (i3 a1) _ _ _ _ hL10 ?_
    refine wz_br (i3Le (i3M (show (4 : Int32) = i3 4 from rfl) (rfl : i3 a1 = i3 a1)) (show (24 : Int32) = i3 24 from rfl) (by omega) (by omega) (by omega) (by omega)) (fun h11 => ?_) (fun h11 => ?_)
    · replace hP := zE_p hP h11
      refine sl_282_2q (ν := ν) hZ9I zK_r (x3 := (4 * a1)) (by omega) (x4 := 0) (by omega) (kc5 := Z9 2 0 0 3500) (kc4 := Z9 2 0 0 3200) (kc3 := Z9 2 0 0 3000) (kc2 := Z9 2 0 0 1400) (kc1 := Z9 2 0 0 100) (kc0 := Z9 2 0 0 102) (by omega) (by omega) (by omega) (by omega) (by omega) (by omega) (by omega) (by omega) (zconso rfl (zconso rfl (zconso rfl (zconso (zvo (i3M (show (4 : Int32) = i3 4 from rfl) (rfl : i3 a1 = i3 a1))) (zconso (zvo (show (0 : Int32) = i3 0 from rfl)) (zconso rfl (zconso rfl (zconso rfl (zconso rfl (zconso rfl rfl)))))))))) rfl ?_
      intro L14 Z13 y12 hL14 hZ13I kZ13 gy12 gL14_0 gL14_1 gL14_2 gL14_3 gL14_4 gL14_5 gL14_6 gL14_7 q9
      replace hP := zl_e2 hP (Eq.symm q9)
      clear q9
      have hZ13K : zK [1, 2] Z Z13 := zK_t hZ9K kZ13 (by decide)
      refine fc_282_3  _ _ _ _ hL14 ?_
      exact zlV hP ⟨hZ13I, hZ13K, by omega, by omega, by omega, by omega, by omega⟩
    · replace hP := zE_n hP h11
      refine sl_282_2q (ν := ν) hZ9I zK_r (x3 := 24) (by omega) (x4 := 0) (by omega) (kc5 := Z9 2 0 0 3500) (kc4 := Z9 2 0 0 3200) (kc3 := Z9 2 0 0 3000) (kc2 := Z9 2 0 0 1400) (kc1 := Z9 2 0 0 100) (kc0 := Z9 2 0 0 102) (by omega) (by omega) (by omega) (by omega) (by omega) (by omega) (by omega) (by omega) (zconso rfl (zconso rfl (zconso rfl (zconso (zvo (show (24 : Int32) = i3 24 from rfl)) (zconso (zvo (show (0 : Int32) = i3 0 from rfl)) (zconso rfl (zconso rfl (zconso rfl (zconso rfl (zconso rfl rfl)))))))))) rfl ?_
      intro L17 Z16 y15 hL17 hZ16I kZ16 gy15 gL17_0 gL17_1 gL17_2 gL17_3 gL17_4 gL17_5 gL17_6 gL17_7 q9
      replace hP := zl_e2 hP (Eq.symm q9)
      clear q9
      have hZ16K : zK [1, 2] Z Z16 := zK_t hZ9K kZ16 (by decide)
      refine fc_282_3  _ _ _ _ hL17 ?_
      exact zlV hP ⟨hZ16I, hZ16K, by omega, by omega, by omega, by omega, by omega⟩

/- yX12_cClock -/
def zf_297 (Z : qz_Z) (a1 : Int) (a2 : Int) (a3 : Int) (a4 : Int) (a5 : Int) : qz_Z × Int := (zlet (zu Z 2 0 0 3000 ((Z 2 0 0 3000) + 1)) (fun Z2 => (zlet (zu Z2 2 0 0 (3010 + 60 * (Z 2 0 0 3000)) a1) (fun Z7 => (zlet (zu Z7 2 0 0 (3011 + 60 * (Z 2 0 0 3000)) a2) (fun Z12 => (zlet (zu Z12 2 0 0 (3012 + 60 * (Z 2 0 0 3000)) a3) (fun Z17 => (zlet (zu Z17 2 0 0 (3013 + 60 * (Z 2 0 0 3000)) a4) (fun Z22 => (zlet (zu Z22 2 0 0 (3014 + 60 * (Z 2 0 0 3000)) a5) (fun Z27 => (zlet (zu Z27 2 0 0 (3016 + 60 * (Z 2 0 0 3000)) (-1)) (fun Z32 => (zlet (zu Z32 2 0 0 (3017 + 60 * (Z 2 0 0 3000)) (-1)) (fun Z37 => (Z37, (Z 2 0 0 3000))))))))))))))))))
theorem sp_297 {s : zS} {Z : qz_Z} {ν : qz_N} (hZ : zI s Z) {a1 : Int} (ga1 : 4 ≤ a1 ∧ a1 ≤ 7) {a2 : Int} (ga2 : 1 ≤ a2 ∧ a2 ≤ 4) {a3 : Int} (ga3 : 1 ≤ a3 ∧ a3 ≤ 4) {a4 : Int} (ga4 : 10 ≤ a4 ∧ a4 ≤ 90) {a5 : Int} (ga5 : 0 ≤ a5 ∧ a5 ≤ 4) (gx0 : Z 2 0 0 3000 ≤ 1) : ∃ (Z1 : qz_Z) (P : Int), (Z1, P) = zf_297 Z a1 a2 a3 a4 a5 ∧ (qf_297 [.inr (.inr (some (1, 0, 0))), .inl (i3 a1), .inl (i3 a2), .inl (i3 a3), .inl (i3 a4), .inl (i3 a5)] (zm Z ν) = some (zm Z1 ν, .inl (some (.inl (i3 P)))) ∧ zI s Z1 ∧ zK [2] Z Z1 ∧ 0 ≤ P ∧ P ≤ 2 ∧ Z1 2 0 0 3000 = Z 2 0 0 3000 + 1 ∧ Z1 2 0 0 102 = Z 2 0 0 102 ∧ Z1 2 0 0 3200 = Z 2 0 0 3200 ∧ Z1 2 0 0 3500 = Z 2 0 0 3500) := by
  obtain ⟨P, hP⟩ := zx (zf_297 Z a1 a2 a3 a4 a5)
  refine zc_W (Q := fun Z1 P => zI s Z1 ∧ zK [2] Z Z1 ∧ 0 ≤ P ∧ P ≤ 2 ∧ Z1 2 0 0 3000 = Z 2 0 0 3000 + 1 ∧ Z1 2 0 0 102 = Z 2 0 0 102 ∧ Z1 2 0 0 3200 = Z 2 0 0 3200 ∧ Z1 2 0 0 3500 = Z 2 0 0 3500) hP (fw_297 (i3 a1) (i3 a2) (i3 a3) (i3 a4) (i3 a5) _ _ ?_)
  replace hP : zE P (zf_297 Z a1 a2 a3 a4 a5) := hP
  unfold zf_297 at hP
  have r1 := zI_k hZ 2 0 0 3000 (lo := 0) (hi := 2) (by decide) rfl
  obtain ⟨Z2, hZ2⟩ := zx (zu Z 2 0 0 3000 ((Z 2 0 0 3000) + 1))
  replace hP := zl_e hP hZ2
  have hZ2I := zI_u hZ hZ2 (lo := 0) (hi := 2) (by decide) rfl (by omega) ⟨by decide, by decide⟩ (Or.inl (by decide))
  have t3 : Z2 2 0 0 102 = Z 2 0 0 102 := zu_ne hZ2 (fun q => absurd q.2.2.2 (by decide))
  have t4 := zu_at hZ2
  have t5 : Z2 2 0 0 3200 = Z 2 0 0 3200 := zu_ne hZ2 (fun q => absurd q.2.2.2 (by decide))
  have t6 : Z2 2 0 0 3500 = Z 2 0 0 3500 := zu_ne hZ2 (fun q => absurd q.2.2.2 (by decide))
  have hZ2K : zK [2] Z Z2 := zK_u zK_r hZ2 (by decide)
  intro μ9 e9
  replace e9 := e9.trans (zm_wI (Z := Z) (ν := ν) hZ2 (show ((0 : Nat) : Int) = 0 from rfl) (show ((0 : Nat) : Int) = 0 from rfl) (show ((3000 : Nat) : Int) = 3000 from rfl) (i3A (zm_rd (Z := Z) (ν := ν) (k := 2) (show ((0 : Nat) : Int) = 0 from rfl) (show ((0 : Nat) : Int) = 0 from rfl) (show ((3000 : Nat) : Int) = 3000 from rfl)) (show (1 : Int32) = i3 1 from rfl)))
  subst e9
  refine wz_i0 (i3O (n := 4400) (i3A (i3A (show (3010 : Int32) = i3 3010 from rfl) (i3M (show (60 : Int32) = i3 60 from rfl) (zm_rd (Z := Z) (ν := ν) (k := 2) (show ((0 : Nat) : Int) = 0 from rfl) (show ((0 : Nat) : Int) = 0 from rfl) (show ((3000 : Nat) : Int) = 3000 from rfl)))) (show (0 : Int32) = i3 0 from rfl)) (by omega) (by omega) (by omega)) ?_
  obtain ⟨Z7, hZ7⟩ := zx (zu Z2 2 0 0 (3010 + 60 * (Z 2 0 0 3000)) a1)
  replace hP := zl_e hP hZ7
  have hZ7I := zI_u hZ2I hZ7 (lo := 0) (hi := 23) (by decide) (zs_3010_0 (x := ((Z 2 0 0 3000) + 0)) (by omega) (by omega) (by omega)) (by omega) ⟨by decide, by decide⟩ (Or.inl (by decide))
  have t8 : Z7 2 0 0 102 = Z2 2 0 0 102 := zu_ne hZ7 (by omega)
  have t9 : Z7 2 0 0 3000 = Z2 2 0 0 3000 := zu_ne hZ7 (by omega)
  have t10 : Z7 2 0 0 3200 = Z2 2 0 0 3200 := zu_ne hZ7 (by omega)
  have t11 : Z7 2 0 0 3500 = Z2 2 0 0 3500 := zu_ne hZ7 (by omega)
  have hZ7K := zK_u hZ2K hZ7 (by decide)
  intro μ9 e9
  replace e9 := e9.trans (zm_wI (Z := Z2) (ν := ν) hZ7 (show ((0 : Nat) : Int) = 0 from rfl) (show ((0 : Nat) : Int) = 0 from rfl) (i3I (y := (3010 + 60 * (Z 2 0 0 3000))) (i3A (i3A (show (3010 : Int32) = i3 3010 from rfl) (i3M (show (60 : Int32) = i3 60 from rfl) (zm_rd (Z := Z) (ν := ν) (k := 2) (show ((0 : Nat) : Int) = 0 from rfl) (show ((0 : Nat) : Int) = 0 from rfl) (show ((3000 : Nat) : Int) = 3000 from rfl)))) (show (0 : Int32) = i3 0 from rfl)) (by omega) (by omega) (by omega)) (rfl : i3 a1 = i3 a1))
  subst e9
  refine wz_i0 (i3O (n := 4400) (i3A (i3A (show (3010 : Int32) = i3 3010 from rfl) (i3M (show (60 : Int32) = i3 60 from rfl) (zm_rd (Z := Z) (ν := ν) (k := 2) (show ((0 : Nat) : Int) = 0 from rfl) (show ((0 : Nat) : Int) = 0 from rfl) (show ((3000 : Nat) : Int) = 3000 from rfl)))) (show (1 : Int32) = i3 1 from rfl)) (by omega) (by omega) (by omega)) ?_
  obtain ⟨Z12, hZ12⟩ := zx (zu Z7 2 0 0 (3011 + 60 * (Z 2 0 0 3000)) a2)
  replace hP := zl_e hP hZ12
  have hZ12I := zI_u hZ7I hZ12 (lo := 0) (hi := 6) (by decide) (zs_3010_1 (x := ((Z 2 0 0 3000) + 0)) (by omega) (by omega) (by omega)) (by omega) ⟨by decide, by decide⟩ (Or.inl (by decide))
  have t13 : Z12 2 0 0 102 = Z7 2 0 0 102 := zu_ne hZ12 (by omega)
  have t14 : Z12 2 0 0 3000 = Z7 2 0 0 3000 := zu_ne hZ12 (by omega)
  have t15 : Z12 2 0 0 3200 = Z7 2 0 0 3200 := zu_ne hZ12 (by omega)
  have t16 : Z12 2 0 0 3500 = Z7 2 0 0 3500 := zu_ne hZ12 (by omega)
  have hZ12K := zK_u hZ7K hZ12 (by decide)
  intro μ9 e9
  replace e9 := e9.trans (zm_wI (Z := Z7) (ν := ν) hZ12 (show ((0 : Nat) : Int) = 0 from rfl) (show ((0 : Nat) : Int) = 0 from rfl) (i3I (y := (3011 + 60 * (Z 2 0 0 3000))) (i3A (i3A (show (3010 : Int32) = i3 3010 from rfl) (i3M (show (60 : Int32) = i3 60 from rfl) (zm_rd (Z := Z) (ν := ν) (k := 2) (show ((0 : Nat) : Int) = 0 from rfl) (show ((0 : Nat) : Int) = 0 from rfl) (show ((3000 : Nat) : Int) = 3000 from rfl)))) (show (1 : Int32) = i3 1 from rfl)) (by omega) (by omega) (by omega)) (rfl : i3 a2 = i3 a2))
  subst e9
  refine wz_i0 (i3O (n := 4400) (i3A (i3A (show (3010 : Int32) = i3 3010 from rfl) (i3M (show (60 : Int32) = i3 60 from rfl) (zm_rd (Z := Z) (ν := ν) (k := 2) (show ((0 : Nat) : Int) = 0 from rfl) (show ((0 : Nat) : Int) = 0 from rfl) (show ((3000 : Nat) : Int) = 3000 from rfl)))) (show (2 : Int32) = i3 2 from rfl)) (by omega) (by omega) (by omega)) ?_
  obtain ⟨Z17, hZ17⟩ := zx (zu Z12 2 0 0 (3012 + 60 * (Z 2 0 0 3000)) a3)
  replace hP := zl_e hP hZ17
  have hZ17I := zI_u hZ12I hZ17 (lo := 0) (hi := 6) (by decide) (zs_3010_2 (x := ((Z 2 0 0 3000) + 0)) (by omega) (by omega) (by omega)) (by omega) ⟨by decide, by decide⟩ (Or.inl (by decide))
  have t18 : Z17 2 0 0 102 = Z12 2 0 0 102 := zu_ne hZ17 (by omega)
  have t19 : Z17 2 0 0 3000 = Z12 2 0 0 3000 := zu_ne hZ17 (by omega)
  have t20 : Z17 2 0 0 3200 = Z12 2 0 0 3200 := zu_ne hZ17 (by omega)
  have t21 : Z17 2 0 0 3500 = Z12 2 0 0 3500 := zu_ne hZ17 (by omega)
  have hZ17K := zK_u hZ12K hZ17 (by decide)
  intro μ9 e9
  replace e9 := e9.trans (zm_wI (Z := Z12) (ν := ν) hZ17 (show ((0 : Nat) : Int) = 0 from rfl) (show ((0 : Nat) : Int) = 0 from rfl) (i3I (y := (3012 + 60 * (Z 2 0 0 3000))) (i3A (i3A (show (3010 : Int32) = i3 3010 from rfl) (i3M (show (60 : Int32) = i3 60 from rfl) (zm_rd (Z := Z) (ν := ν) (k := 2) (show ((0 : Nat) : Int) = 0 from rfl) (show ((0 : Nat) : Int) = 0 from rfl) (show ((3000 : Nat) : Int) = 3000 from rfl)))) (show (2 : Int32) = i3 2 from rfl)) (by omega) (by omega) (by omega)) (rfl : i3 a3 = i3 a3))
  subst e9
  refine wz_i0 (i3O (n := 4400) (i3A (i3A (show (3010 : Int32) = i3 3010 from rfl) (i3M (show (60 : Int32) = i3 60 from rfl) (zm_rd (Z := Z) (ν := ν) (k := 2) (show ((0 : Nat) : Int) = 0 from rfl) (show ((0 : Nat) : Int) = 0 from rfl) (show ((3000 : Nat) : Int) = 3000 from rfl)))) (show (3 : Int32) = i3 3 from rfl)) (by omega) (by omega) (by omega)) ?_
  obtain ⟨Z22, hZ22⟩ := zx (zu Z17 2 0 0 (3013 + 60 * (Z 2 0 0 3000)) a4)
  replace hP := zl_e hP hZ22
  have hZ22I := zI_u hZ17I hZ22 (lo := 0) (hi := 500) (by decide) (zs_3010_3 (x := ((Z 2 0 0 3000) + 0)) (by omega) (by omega) (by omega)) (by omega) ⟨by decide, by decide⟩ (Or.inl (by decide))
  have t23 : Z22 2 0 0 102 = Z17 2 0 0 102 := zu_ne hZ22 (by omega)
  have t24 : Z22 2 0 0 3000 = Z17 2 0 0 3000 := zu_ne hZ22 (by omega)
  have t25 : Z22 2 0 0 3200 = Z17 2 0 0 3200 := zu_ne hZ22 (by omega)
  have t26 : Z22 2 0 0 3500 = Z17 2 0 0 3500 := zu_ne hZ22 (by omega)
  have hZ22K := zK_u hZ17K hZ22 (by decide)
  intro μ9 e9
  replace e9 := e9.trans (zm_wI (Z := Z17) (ν := ν) hZ22 (show ((0 : Nat) : Int) = 0 from rfl) (show ((0 : Nat) : Int) = 0 from rfl) (i3I (y := (3013 + 60 * (Z 2 0 0 3000))) (i3A (i3A (show (3010 : Int32) = i3 3010 from rfl) (i3M (show (60 : Int32) = i3 60 from rfl) (zm_rd (Z := Z) (ν := ν) (k := 2) (show ((0 : Nat) : Int) = 0 from rfl) (show ((0 : Nat) : Int) = 0 from rfl) (show ((3000 : Nat) : Int) = 3000 from rfl)))) (show (3 : Int32) = i3 3 from rfl)) (by omega) (by omega) (by omega)) (rfl : i3 a4 = i3 a4))
  subst e9
  refine wz_i0 (i3O (n := 4400) (i3A (i3A (show (3010 : Int32) = i3 3010 from rfl) (i3M (show (60 : Int32) = i3 60 from rfl) (zm_rd (Z := Z) (ν := ν) (k := 2) (show ((0 : Nat) : Int) = 0 from rfl) (show ((0 : Nat) : Int) = 0 from rfl) (show ((3000 : Nat) : Int) = 3000 from rfl)))) (show (4 : Int32) = i3 4 from rfl)) (by omega) (by omega) (by omega)) ?_
  obtain ⟨Z27, hZ27⟩ := zx (zu Z22 2 0 0 (3014 + 60 * (Z 2 0 0 3000)) a5)
  replace hP := zl_e hP hZ27
  have hZ27I := zI_u hZ22I hZ27 (lo := 0) (hi := 9) (by decide) (zs_3010_4 (x := ((Z 2 0 0 3000) + 0)) (by omega) (by omega) (by omega)) (by omega) ⟨by decide, by decide⟩ (Or.inl (by decide))
  have t28 : Z27 2 0 0 102 = Z22 2 0 0 102 := zu_ne hZ27 (by omega)
  have t29 : Z27 2 0 0 3000 = Z22 2 0 0 3000 := zu_ne hZ27 (by omega)
  have t30 : Z27 2 0 0 3200 = Z22 2 0 0 3200 := zu_ne hZ27 (by omega)
  have t31 : Z27 2 0 0 3500 = Z22 2 0 0 3500 := zu_ne hZ27 (by omega)
  have hZ27K := zK_u hZ22K hZ27 (by decide)
  intro μ9 e9
  replace e9 := e9.trans (zm_wI (Z := Z22) (ν := ν) hZ27 (show ((0 : Nat) : Int) = 0 from rfl) (show ((0 : Nat) : Int) = 0 from rfl) (i3I (y := (3014 + 60 * (Z 2 0 0 3000))) (i3A (i3A (show (3010 : Int32) = i3 3010 from rfl) (i3M (show (60 : Int32) = i3 60 from rfl) (zm_rd (Z := Z) (ν := ν) (k := 2) (show ((0 : Nat) : Int) = 0 from rfl) (show ((0 : Nat) : Int) = 0 from rfl) (show ((3000 : Nat) : Int) = 3000 from rfl)))) (show (4 : Int32) = i3 4 from rfl)) (by omega) (by omega) (by omega)) (rfl : i3 a5 = i3 a5))
  subst e9
  refine wz_i0 (i3O (n := 4400) (i3A (i3A (show (3010 : Int32) = i3 3010 from rfl) (i3M (show (60 : Int32) = i3 60 from rfl) (zm_rd (Z := Z) (ν := ν) (k := 2) (show ((0 : Nat) : Int) = 0 from rfl) (show ((0 : Nat) : Int) = 0 from rfl) (show ((3000 : Nat) : Int) = 3000 from rfl)))) (show (6 : Int32) = i3 6 from rfl)) (by omega) (by omega) (by omega)) ?_
  obtain ⟨Z32, hZ32⟩ := zx (zu Z27 2 0 0 (3016 + 60 * (Z 2 0 0 3000)) (-1))
  replace hP := zl_e hP hZ32
  have hZ32I := zI_u hZ27I hZ32 (lo := -1) (hi := 9999) (by decide) (zs_3010_6 (x := ((Z 2 0 0 3000) + 0)) (by omega) (by omega) (by omega)) (by omega) ⟨by decide, by decide⟩ (Or.inl (by decide))
  have t33 : Z32 2 0 0 102 = Z27 2 0 0 102 := zu_ne hZ32 (by omega)
  have t34 : Z32 2 0 0 3000 = Z27 2 0 0 3000 := zu_ne hZ32 (by omega)
  have t35 : Z32 2 0 0 3200 = Z27 2 0 0 3200 := zu_ne hZ32 (by omega)
  have t36 : Z32 2 0 0 3500 = Z27 2 0 0 3500 := zu_ne hZ32 (by omega)
  have hZ32K := zK_u hZ27K hZ32 (by decide)
  intro μ9 e9
  replace e9 := e9.trans (zm_wI (Z := Z27) (ν := ν) hZ32 (show ((0 : Nat) : Int) = 0 from rfl) (show ((0 : Nat) : Int) = 0 from rfl) (i3I (y := (3016 + 60 * (Z 2 0 0 3000))) (i3A (i3A (show (3010 : Int32) = i3 3010 from rfl) (i3M (show (60 : Int32) = i3 60 from rfl) (zm_rd (Z := Z) (ν := ν) (k := 2) (show ((0 : Nat) : Int) = 0 from rfl) (show ((0 : Nat) : Int) = 0 from rfl) (show ((3000 : Nat) : Int) = 3000 from rfl)))) (show (6 : Int32) = i3 6 from rfl)) (by omega) (by omega) (by omega)) (show (-1 : Int32) = i3 (-1) from rfl))
  subst e9
  refine wz_i0 (i3O (n := 4400) (i3A (i3A (show (3010 : Int32) = i3 3010 from rfl) (i3M (show (60 : Int32) = i3 60 from rfl) (zm_rd (Z := Z) (ν := ν) (k := 2) (show ((0 : Nat) : Int) = 0 from rfl) (show ((0 : Nat) : Int) = 0 from rfl) (show ((3000 : Nat) : Int) = 3000 from rfl)))) (show (7 : Int32) = i3 7 from rfl)) (by omega) (by omega) (by omega)) ?_
  obtain ⟨Z37, hZ37⟩ := zx (zu Z32 2 0 0 (3017 + 60 * (Z 2 0 0 3000)) (-1))
  replace hP := zl_e hP hZ37
  have hZ37I := zI_u hZ32I hZ37 (lo := -1) (hi := 47) (by decide) (zs_3010_7 (x := ((Z 2 0 0 3000) + 0)) (by omega) (by omega) (by omega)) (by omega) ⟨by decide, by decide⟩ (Or.inl (by decide))
  have t38 : Z37 2 0 0 102 = Z32 2 0 0 102 := zu_ne hZ37 (by omega)
  have t39 : Z37 2 0 0 3000 = Z32 2 0 0 3000 := zu_ne hZ37 (by omega)
  have t40 : Z37 2 0 0 3200 = Z32 2 0 0 3200 := zu_ne hZ37 (by omega)
  have t41 : Z37 2 0 0 3500 = Z32 2 0 0 3500 := zu_ne hZ37 (by omega)
  have hZ37K := zK_u hZ32K hZ37 (by decide)
  intro μ9 e9
  replace e9 := e9.trans (zm_wI (Z := Z32) (ν := ν) hZ37 (show ((0 : Nat) : Int) = 0 from rfl) (show ((0 : Nat) : Int) = 0 from rfl) (i3I (y := (3017 + 60 * (Z 2 0 0 3000))) (i3A (i3A (show (3010 : Int32) = i3 3010 from rfl) (i3M (show (60 : Int32) = i3 60 from rfl) (zm_rd (Z := Z) (ν := ν) (k := 2) (show ((0 : Nat) : Int) = 0 from rfl) (show ((0 : Nat) : Int) = 0 from rfl) (show ((3000 : Nat) : Int) = 3000 from rfl)))) (show (7 : Int32) = i3 7 from rfl)) (by omega) (by omega) (by omega)) (show (-1 : Int32) = i3 (-1) from rfl))
  subst e9
  exact zlW hP (zm_rd (Z := Z) (ν := ν) (k := 2) (show ((0 : Nat) : Int) = 0 from rfl) (show ((0 : Nat) : Int) = 0 from rfl) (show ((3000 : Nat) : Int) = 3000 from rfl)) ⟨hZ37I, hZ37K, by omega, by omega, by omega, by omega, by omega, by omega⟩

/- yX12_cQueue -/
def zf_307 (Z : qz_Z) (a1 : Int) (a2 : Int) (a3 : Int) (a4 : Int) : qz_Z := (zlet (zu Z 2 0 0 (3022 + 60 * a1 + 3 * (Z 2 0 0 (3015 + 60 * a1))) a2) (fun Z2 => (zlet (zu Z2 2 0 0 (3023 + 60 * a1 + 3 * (Z 2 0 0 (3015 + 60 * a1))) a3) (fun Z7 => (zlet (zu Z7 2 0 0 (3024 + 60 * a1 + 3 * (Z 2 0 0 (3015 + 60 * a1))) a4) (fun Z12 => (zlet (zu Z12 2 0 0 (3015 + 60 * a1) ((Z 2 0 0 (3015 + 60 * a1)) + 1)) (fun Z17 => (zlet (zu Z17 2 0 0 (210 + 20 * a2) 1) (fun Z22 => Z22))))))))))
theorem sp_307 {s : zS} {Z : qz_Z} {ν : qz_N} (hZ : zI s Z) {a1 : Int} (ga1 : 0 ≤ a1 ∧ a1 ≤ 1) {a2 : Int} (ga2 : 0 ≤ a2 ∧ a2 ≤ 47) {a3 : Int} (ga3 : 200 ≤ a3 ∧ a3 ≤ 2150) {a4 : Int} (ga4 : 1 ≤ a4 ∧ a4 ≤ 2150) (gx0 : Z 2 0 0 (3015 + 60 * a1) ≤ 11) : ∃ P : qz_Z, P = zf_307 Z a1 a2 a3 a4 ∧ (qf_307 [.inr (.inr (some (1, 0, 0))), .inl (i3 a1), .inl (i3 a2), .inl (i3 a3), .inl (i3 a4)] (zm Z ν) = some (zm P ν, .inl none) ∧ zI s P ∧ zK [2] Z P ∧ P 2 0 0 102 = Z 2 0 0 102 ∧ P 2 0 0 3000 = Z 2 0 0 3000 ∧ P 2 0 0 3200 = Z 2 0 0 3200 ∧ P 2 0 0 3500 = Z 2 0 0 3500) := by
  obtain ⟨P, hP⟩ := zx (zf_307 Z a1 a2 a3 a4)
  refine zc_V (Q := fun P => zI s P ∧ zK [2] Z P ∧ P 2 0 0 102 = Z 2 0 0 102 ∧ P 2 0 0 3000 = Z 2 0 0 3000 ∧ P 2 0 0 3200 = Z 2 0 0 3200 ∧ P 2 0 0 3500 = Z 2 0 0 3500) hP (fw_307 (i3 a1) (i3 a2) (i3 a3) (i3 a4) _ _ ?_)
  replace hP : zE P (zf_307 Z a1 a2 a3 a4) := hP
  unfold zf_307 at hP
  refine wz_i0 (i3O (n := 4400) (i3A (i3A (show (3010 : Int32) = i3 3010 from rfl) (i3M (show (60 : Int32) = i3 60 from rfl) (rfl : i3 a1 = i3 a1))) (show (5 : Int32) = i3 5 from rfl)) (by omega) (by omega) (by omega)) ?_
  have r1 := zI_k hZ 2 0 0 (3015 + 60 * a1) (lo := 0) (hi := 12) (by decide) (zs_3010_5 (x := (a1 + 0)) (by omega) (by omega) (by omega))
  refine wz_i0 (i3O (n := 4400) (i3A (i3A (i3A (i3A (show (3010 : Int32) = i3 3010 from rfl) (i3M (show (60 : Int32) = i3 60 from rfl) (rfl : i3 a1 = i3 a1))) (show (12 : Int32) = i3 12 from rfl)) (i3M (show (3 : Int32) = i3 3 from rfl) (zm_rd (Z := Z) (ν := ν) (k := 2) (show ((0 : Nat) : Int) = 0 from rfl) (show ((0 : Nat) : Int) = 0 from rfl) (i3I (y := (3015 + 60 * a1)) (i3A (i3A (show (3010 : Int32) = i3 3010 from rfl) (i3M (show (60 : Int32) = i3 60 from rfl) (rfl : i3 a1 = i3 a1))) (show (5 : Int32) = i3 5 from rfl)) (by omega) (by omega) (by omega))))) (show (0 : Int32) = i3 0 from rfl)) (by omega) (by omega) (by omega)) ?_
  obtain ⟨Z2, hZ2⟩ := zx (zu Z 2 0 0 (3022 + 60 * a1 + 3 * (Z 2 0 0 (3015 + 60 * a1))) a2)
  replace hP := zl_e hP hZ2
  have hZ2I := zI_u hZ hZ2 (lo := 0) (hi := 47) (by decide) (zs_lot_0 (c := a1 + 0) (pl := (Z 2 0 0 (3015 + 60 * a1)) + 0) (by omega) (by omega) (by omega) (by omega) (by omega)) (by omega) ⟨by decide, by decide⟩ (Or.inl (by decide))
  have t3 : Z2 2 0 0 102 = Z 2 0 0 102 := zu_ne hZ2 (by omega)
  have t4 : Z2 2 0 0 3000 = Z 2 0 0 3000 := zu_ne hZ2 (by omega)
  have t5 : Z2 2 0 0 3200 = Z 2 0 0 3200 := zu_ne hZ2 (by omega)
  have t6 : Z2 2 0 0 3500 = Z 2 0 0 3500 := zu_ne hZ2 (by omega)
  have hZ2K : zK [2] Z Z2 := zK_u zK_r hZ2 (by decide)
  intro μ9 e9
  replace e9 := e9.trans (zm_wI (Z := Z) (ν := ν) hZ2 (show ((0 : Nat) : Int) = 0 from rfl) (show ((0 : Nat) : Int) = 0 from rfl) (i3I (y := (3022 + 60 * a1 + 3 * (Z 2 0 0 (3015 + 60 * a1)))) (i3A (i3A (i3A (i3A (show (3010 : Int32) = i3 3010 from rfl) (i3M (show (60 : Int32) = i3 60 from rfl) (rfl : i3 a1 = i3 a1))) (show (12 : Int32) = i3 12 from rfl)) (i3M (show (3 : Int32) = i3 3 from rfl) (zm_rd (Z := Z) (ν := ν) (k := 2) (show ((0 : Nat) : Int) = 0 from rfl) (show ((0 : Nat) : Int) = 0 from rfl) (i3I (y := (3015 + 60 * a1)) (i3A (i3A (show (3010 : Int32) = i3 3010 from rfl) (i3M (show (60 : Int32) = i3 60 from rfl) (rfl : i3 a1 = i3 a1))) (show (5 : Int32) = i3 5 from rfl)) (by omega) (by omega) (by omega))))) (show (0 : Int32) = i3 0 from rfl)) (by omega) (by omega) (by omega)) (rfl : i3 a2 = i3 a2))
  subst e9
  refine wz_i0 (i3O (n := 4400) (i3A (i3A (i3A (i3A (show (3010 : Int32) = i3 3010 from rfl) (i3M (show (60 : Int32) = i3 60 from rfl) (rfl : i3 a1 = i3 a1))) (show (12 : Int32) = i3 12 from rfl)) (i3M (show (3 : Int32) = i3 3 from rfl) (zm_rd (Z := Z) (ν := ν) (k := 2) (show ((0 : Nat) : Int) = 0 from rfl) (show ((0 : Nat) : Int) = 0 from rfl) (i3I (y := (3015 + 60 * a1)) (i3A (i3A (show (3010 : Int32) = i3 3010 from rfl) (i3M (show (60 : Int32) = i3 60 from rfl) (rfl : i3 a1 = i3 a1))) (show (5 : Int32) = i3 5 from rfl)) (by omega) (by omega) (by omega))))) (show (1 : Int32) = i3 1 from rfl)) (by omega) (by omega) (by omega)) ?_
  obtain ⟨Z7, hZ7⟩ := zx (zu Z2 2 0 0 (3023 + 60 * a1 + 3 * (Z 2 0 0 (3015 + 60 * a1))) a3)
  replace hP := zl_e hP hZ7
  have hZ7I := zI_u hZ2I hZ7 (lo := 0) (hi := 9999) (by decide) (zs_lot_1 (c := a1 + 0) (pl := (Z 2 0 0 (3015 + 60 * a1)) + 0) (by omega) (by omega) (by omega) (by omega) (by omega)) (by omega) ⟨by decide, by decide⟩ (Or.inl (by decide))
  have t8 : Z7 2 0 0 102 = Z2 2 0 0 102 := zu_ne hZ7 (by omega)
  have t9 : Z7 2 0 0 3000 = Z2 2 0 0 3000 := zu_ne hZ7 (by omega)
  have t10 : Z7 2 0 0 3200 = Z2 2 0 0 3200 := zu_ne hZ7 (by omega)
  have t11 : Z7 2 0 0 3500 = Z2 2 0 0 3500 := zu_ne hZ7 (by omega)
  have hZ7K := zK_u hZ2K hZ7 (by decide)
  intro μ9 e9
  replace e9 := e9.trans (zm_wI (Z := Z2) (ν := ν) hZ7 (show ((0 : Nat) : Int) = 0 from rfl) (show ((0 : Nat) : Int) = 0 from rfl) (i3I (y := (3023 + 60 * a1 + 3 * (Z 2 0 0 (3015 + 60 * a1)))) (i3A (i3A (i3A (i3A (show (3010 : Int32) = i3 3010 from rfl) (i3M (show (60 : Int32) = i3 60 from rfl) (rfl : i3 a1 = i3 a1))) (show (12 : Int32) = i3 12 from rfl)) (i3M (show (3 : Int32) = i3 3 from rfl) (zm_rd (Z := Z) (ν := ν) (k := 2) (show ((0 : Nat) : Int) = 0 from rfl) (show ((0 : Nat) : Int) = 0 from rfl) (i3I (y := (3015 + 60 * a1)) (i3A (i3A (show (3010 : Int32) = i3 3010 from rfl) (i3M (show (60 : Int32) = i3 60 from rfl) (rfl : i3 a1 = i3 a1))) (show (5 : Int32) = i3 5 from rfl)) (by omega) (by omega) (by omega))))) (show (1 : Int32) = i3 1 from rfl)) (by omega) (by omega) (by omega)) (rfl : i3 a3 = i3 a3))
  subst e9
  refine wz_i0 (i3O (n := 4400) (i3A (i3A (i3A (i3A (show (3010 : Int32) = i3 3010 from rfl) (i3M (show (60 : Int32) = i3 60 from rfl) (rfl : i3 a1 = i3 a1))) (show (12 : Int32) = i3 12 from rfl)) (i3M (show (3 : Int32) = i3 3 from rfl) (zm_rd (Z := Z) (ν := ν) (k := 2) (show ((0 : Nat) : Int) = 0 from rfl) (show ((0 : Nat) : Int) = 0 from rfl) (i3I (y := (3015 + 60 * a1)) (i3A (i3A (show (3010 : Int32) = i3 3010 from rfl) (i3M (show (60 : Int32) = i3 60 from rfl) (rfl : i3 a1 = i3 a1))) (show (5 : Int32) = i3 5 from rfl)) (by omega) (by omega) (by omega))))) (show (2 : Int32) = i3 2 from rfl)) (by omega) (by omega) (by omega)) ?_
  obtain ⟨Z12, hZ12⟩ := zx (zu Z7 2 0 0 (3024 + 60 * a1 + 3 * (Z 2 0 0 (3015 + 60 * a1))) a4)
  replace hP := zl_e hP hZ12
  have hZ12I := zI_u hZ7I hZ12 (lo := 0) (hi := 9999) (by decide) (zs_lot_2 (c := a1 + 0) (pl := (Z 2 0 0 (3015 + 60 * a1)) + 0) (by omega) (by omega) (by omega) (by omega) (by omega)) (by omega) ⟨by decide, by decide⟩ (Or.inl (by decide))
  have t13 : Z12 2 0 0 102 = Z7 2 0 0 102 := zu_ne hZ12 (by omega)
  have t14 : Z12 2 0 0 3000 = Z7 2 0 0 3000 := zu_ne hZ12 (by omega)
  have t15 : Z12 2 0 0 3200 = Z7 2 0 0 3200 := zu_ne hZ12 (by omega)
  have t16 : Z12 2 0 0 3500 = Z7 2 0 0 3500 := zu_ne hZ12 (by omega)
  have hZ12K := zK_u hZ7K hZ12 (by decide)
  intro μ9 e9
  replace e9 := e9.trans (zm_wI (Z := Z7) (ν := ν) hZ12 (show ((0 : Nat) : Int) = 0 from rfl) (show ((0 : Nat) : Int) = 0 from rfl) (i3I (y := (3024 + 60 * a1 + 3 * (Z 2 0 0 (3015 + 60 * a1)))) (i3A (i3A (i3A (i3A (show (3010 : Int32) = i3 3010 from rfl) (i3M (show (60 : Int32) = i3 60 from rfl) (rfl : i3 a1 = i3 a1))) (show (12 : Int32) = i3 12 from rfl)) (i3M (show (3 : Int32) = i3 3 from rfl) (zm_rd (Z := Z) (ν := ν) (k := 2) (show ((0 : Nat) : Int) = 0 from rfl) (show ((0 : Nat) : Int) = 0 from rfl) (i3I (y := (3015 + 60 * a1)) (i3A (i3A (show (3010 : Int32) = i3 3010 from rfl) (i3M (show (60 : Int32) = i3 60 from rfl) (rfl : i3 a1 = i3 a1))) (show (5 : Int32) = i3 5 from rfl)) (by omega) (by omega) (by omega))))) (show (2 : Int32) = i3 2 from rfl)) (by omega) (by omega) (by omega)) (rfl : i3 a4 = i3 a4))
  subst e9
  refine wz_i0 (i3O (n := 4400) (i3A (i3A (show (3010 : Int32) = i3 3010 from rfl) (i3M (show (60 : Int32) = i3 60 from rfl) (rfl : i3 a1 = i3 a1))) (show (5 : Int32) = i3 5 from rfl)) (by omega) (by omega) (by omega)) ?_
  obtain ⟨Z17, hZ17⟩ := zx (zu Z12 2 0 0 (3015 + 60 * a1) ((Z 2 0 0 (3015 + 60 * a1)) + 1))
  replace hP := zl_e hP hZ17
  have hZ17I := zI_u hZ12I hZ17 (lo := 0) (hi := 12) (by decide) (zs_3010_5 (x := (a1 + 0)) (by omega) (by omega) (by omega)) (by omega) ⟨by decide, by decide⟩ (Or.inl (by decide))
  have t18 : Z17 2 0 0 102 = Z12 2 0 0 102 := zu_ne hZ17 (by omega)
  have t19 : Z17 2 0 0 3000 = Z12 2 0 0 3000 := zu_ne hZ17 (by omega)
  have t20 : Z17 2 0 0 3200 = Z12 2 0 0 3200 := zu_ne hZ17 (by omega)
  have t21 : Z17 2 0 0 3500 = Z12 2 0 0 3500 := zu_ne hZ17 (by omega)
  have hZ17K := zK_u hZ12K hZ17 (by decide)
  intro μ9 e9
  replace e9 := e9.trans (zm_wI (Z := Z12) (ν := ν) hZ17 (show ((0 : Nat) : Int) = 0 from rfl) (show ((0 : Nat) : Int) = 0 from rfl) (i3I (y := (3015 + 60 * a1)) (i3A (i3A (show (3010 : Int32) = i3 3010 from rfl) (i3M (show (60 : Int32) = i3 60 from rfl) (rfl : i3 a1 = i3 a1))) (show (5 : Int32) = i3 5 from rfl)) (by omega) (by omega) (by omega)) (i3A (zm_rd (Z := Z) (ν := ν) (k := 2) (show ((0 : Nat) : Int) = 0 from rfl) (show ((0 : Nat) : Int) = 0 from rfl) (i3I (y := (3015 + 60 * a1)) (i3A (i3A (show (3010 : Int32) = i3 3010 from rfl) (i3M (show (60 : Int32) = i3 60 from rfl) (rfl : i3 a1 = i3 a1))) (show (5 : Int32) = i3 5 from rfl)) (by omega) (by omega) (by omega))) (show (1 : Int32) = i3 1 from rfl)))
  subst e9
  refine wz_i0 (i3O (n := 4400) (i3A (i3A (show (200 : Int32) = i3 200 from rfl) (i3M (show (20 : Int32) = i3 20 from rfl) (rfl : i3 a2 = i3 a2))) (show (10 : Int32) = i3 10 from rfl)) (by omega) (by omega) (by omega)) ?_
  obtain ⟨Z22, hZ22⟩ := zx (zu Z17 2 0 0 (210 + 20 * a2) 1)
  replace hP := zl_e hP hZ22
  have hZ22I := zI_u hZ17I hZ22 (lo := 0) (hi := 4) (by decide) (zs_200_10 (x := a2) (by omega) (by omega) (by omega)) (by omega) ⟨by decide, by decide⟩ (Or.inl (by decide))
  have t23 : Z22 2 0 0 102 = Z17 2 0 0 102 := zu_ne hZ22 (by omega)
  have t24 : Z22 2 0 0 3000 = Z17 2 0 0 3000 := zu_ne hZ22 (by omega)
  have t25 : Z22 2 0 0 3200 = Z17 2 0 0 3200 := zu_ne hZ22 (by omega)
  have t26 : Z22 2 0 0 3500 = Z17 2 0 0 3500 := zu_ne hZ22 (by omega)
  have hZ22K := zK_u hZ17K hZ22 (by decide)
  intro μ9 e9
  replace e9 := e9.trans (zm_wI (Z := Z17) (ν := ν) hZ22 (show ((0 : Nat) : Int) = 0 from rfl) (show ((0 : Nat) : Int) = 0 from rfl) (i3I (y := (210 + 20 * a2)) (i3A (i3A (show (200 : Int32) = i3 200 from rfl) (i3M (show (20 : Int32) = i3 20 from rfl) (rfl : i3 a2 = i3 a2))) (show (10 : Int32) = i3 10 from rfl)) (by omega) (by omega) (by omega)) (show (1 : Int32) = i3 1 from rfl))
  subst e9
  exact zlV hP ⟨hZ22I, hZ22K, by omega, by omega, by omega, by omega⟩

/- yX12_isShut -/
def zf_390 (Z : qz_Z) (a1 : Int) : Int := (if a1 < 0 then 0 else (if 5 < a1 then 0 else (if (Z 2 0 0 (3510 + a1)) ≤ (Z 2 0 0 0) then 0 else 1)))
theorem sp_390 {s : zS} {Z : qz_Z} {ν : qz_N} (hZ : zI s Z) {a1 : Int} (ga1 : -1 ≤ a1 ∧ a1 ≤ 6) : ∃ P : Int, P = zf_390 Z a1 ∧ (qf_390 [.inr (.inr (some (1, 0, 0))), .inl (i3 a1)] (zm Z ν) = some (zm Z ν, .inl (some (.inl (i3 P)))) ∧ 0 ≤ P ∧ P ≤ 1) := by
  obtain ⟨P, hP⟩ := zx (zf_390 Z a1)
  refine zc_R (Q := fun P => 0 ≤ P ∧ P ≤ 1) hP (fw_390 (i3 a1) _ _ ?_)
  replace hP : zE P (zf_390 Z a1) := hP
  unfold zf_390 at hP
  refine wz_br (i3L (rfl : i3 a1 = i3 a1) (show (0 : Int32) = i3 0 from rfl) (by omega) (by omega) (by omega) (by omega)) (fun h1 => ?_) (fun h1 => ?_)
  · replace hP := zE_p hP h1
    exact zlR hP (show (0 : Int32) = i3 0 from rfl) ⟨by omega, by omega⟩
  · replace hP := zE_n hP h1
    refine wz_br (i3L (show (5 : Int32) = i3 5 from rfl) (rfl : i3 a1 = i3 a1) (by omega) (by omega) (by omega) (by omega)) (fun h2 => ?_) (fun h2 => ?_)
    · replace hP := zE_p hP h2
      exact zlR hP (show (0 : Int32) = i3 0 from rfl) ⟨by omega, by omega⟩
    · replace hP := zE_n hP h2
      refine wz_i0 (i3O (n := 4400) (i3A (show (3510 : Int32) = i3 3510 from rfl) (rfl : i3 a1 = i3 a1)) (by omega) (by omega) (by omega)) ?_
      have r3 := zI_k hZ 2 0 0 (3510 + a1) (lo := 0) (hi := 695) (by decide) (zs_3510 (by omega) (by omega))
      have r4 := zI_k hZ 2 0 0 0 (lo := 0) (hi := 671) (by decide) rfl
      refine wz_br (i3Le (zm_rd (Z := Z) (ν := ν) (k := 2) (show ((0 : Nat) : Int) = 0 from rfl) (show ((0 : Nat) : Int) = 0 from rfl) (i3I (y := (3510 + a1)) (i3A (show (3510 : Int32) = i3 3510 from rfl) (rfl : i3 a1 = i3 a1)) (by omega) (by omega) (by omega))) (zm_rd (Z := Z) (ν := ν) (k := 2) (show ((0 : Nat) : Int) = 0 from rfl) (show ((0 : Nat) : Int) = 0 from rfl) (show ((0 : Nat) : Int) = 0 from rfl)) (by omega) (by omega) (by omega) (by omega)) (fun h5 => ?_) (fun h5 => ?_)
      · replace hP := zE_p hP h5
        exact zlR hP (show (0 : Int32) = i3 0 from rfl) ⟨by omega, by omega⟩
      · replace hP := zE_n hP h5
        exact zlR hP (show (1 : Int32) = i3 1 from rfl) ⟨by omega, by omega⟩

/- yX12_queue -/
def zf_459q (Z : qz_Z) (a1 : Int) (a2 : Int) (a3 : Int) (a4 : Int) : qz_Z × Int := (if ((Z 2 0 0 3000) - 1) < a1 then (zlet (zu Z 1 0 0 2 1) (fun Z3 => (Z3, 0))) else (if ((Z 2 0 0 102) - 1) < a2 then (zlet (zu Z 1 0 0 2 1) (fun Z11 => (Z11, 0))) else (zlet (zu Z 1 0 0 2 0) (fun Z17 => (if a4 < 1 then (zlet (zu Z17 1 0 0 2 2) (fun Z24 => (Z24, 0))) else (if a3 < a4 then (zlet (zu Z17 1 0 0 2 2) (fun Z31 => (Z31, 0))) else (if (200 * (Z17 2 0 0 (3013 + 60 * a1))) < (a3 - a4) then (zlet (zu Z17 1 0 0 2 2) (fun Z39 => (Z39, 0))) else (zlet (zu Z17 1 0 0 2 0) (fun Z45 => (if (Z45 2 0 0 (210 + 20 * a2)) ≠ 0 then (zlet (zu Z45 1 0 0 2 3) (fun Z53 => (Z53, 0))) else (if (Z45 2 0 0 (204 + 20 * a2)) ≤ 0 then (zlet (zu Z45 1 0 0 2 3) (fun Z61 => (Z61, 0))) else (zlet (zf_390 Z45 (Z45 2 0 0 (211 + 20 * a2))) (fun v68 => (if v68 ≠ 0 then (zlet (zu Z45 1 0 0 2 3) (fun Z70 => (Z70, 0))) else (if 12 ≤ (Z45 2 0 0 (3015 + 60 * a1)) then (zlet (zu Z45 1 0 0 2 3) (fun Z78 => (Z78, 0))) else (zlet (zu Z45 1 0 0 2 0) (fun Z84 => (zlet (zf_307 Z84 a1 a2 a3 a4) (fun Z91 => (Z91, ((Z91 2 0 0 (3015 + 60 * a1)) - 1)))))))))))))))))))))
theorem sp_459q {Z : qz_Z} {ν : qz_N} (hZ : zI (some none) Z) {a1 : Int} (ga1 : 0 ≤ a1 ∧ a1 ≤ 1) {a2 : Int} (ga2 : 0 ≤ a2 ∧ a2 ≤ 47) {a3 : Int} (ga3 : 200 ≤ a3 ∧ a3 ≤ 2150) {a4 : Int} (ga4 : -1949 ≤ a4 ∧ a4 ≤ 2150) : ∃ (Z1 : qz_Z) (P : Int), (Z1, P) = zf_459q Z a1 a2 a3 a4 ∧ (qf_459 [.inr (.inr (some (1, 0, 0))), .inl (i3 a1), .inl (i3 a2), .inl (i3 a3), .inl (i3 a4)] (zm Z ν) = some (zm Z1 ν, .inl (some (.inl (i3 P)))) ∧ zI (some none) Z1 ∧ zK [1, 2] Z Z1 ∧ -1 ≤ P ∧ P ≤ 11 ∧ Z1 2 0 0 102 = Z 2 0 0 102 ∧ Z1 2 0 0 3000 = Z 2 0 0 3000 ∧ Z1 2 0 0 3200 = Z 2 0 0 3200 ∧ Z1 2 0 0 3500 = Z 2 0 0 3500) := by
  obtain ⟨P, hP⟩ := zx (zf_459q Z a1 a2 a3 a4)
  refine zc_W (Q := fun Z1 P => zI (some none) Z1 ∧ zK [1, 2] Z Z1 ∧ -1 ≤ P ∧ P ≤ 11 ∧ Z1 2 0 0 102 = Z 2 0 0 102 ∧ Z1 2 0 0 3000 = Z 2 0 0 3000 ∧ Z1 2 0 0 3200 = Z 2 0 0 3200 ∧ Z1 2 0 0 3500 = Z 2 0 0 3500) hP (fw_459 (i3 a1) (i3 a2) (i3 a3) (i3 a4) _ _ ?_)
  replace hP : zE P (zf_459q Z a1 a2 a3 a4) := hP
  unfold zf_459q at hP
  refine wz_i0 (Eq.trans (i3L (rfl : i3 a1 = i3 a1) (show (0 : Int32) = i3 0 from rfl) (by omega) (by omega) (by omega) (by omega)) (decide_eq_false (by omega))) ?_
  have r1 := zI_k hZ 2 0 0 3000 (lo := 0) (hi := 2) (by decide) rfl
  refine wz_br (i3L (i3S (zm_rd (Z := Z) (ν := ν) (k := 2) (show ((0 : Nat) : Int) = 0 from rfl) (show ((0 : Nat) : Int) = 0 from rfl) (show ((3000 : Nat) : Int) = 3000 from rfl)) (show (1 : Int32) = i3 1 from rfl)) (rfl : i3 a1 = i3 a1) (by omega) (by omega) (by omega) (by omega)) (fun h2 => ?_) (fun h2 => ?_)
  · replace hP := zE_p hP h2
    obtain ⟨Z3, hZ3⟩ := zx (zu Z 1 0 0 2 1)
    replace hP := zl_e hP hZ3
    have hZ3I := zI_u hZ hZ3 (lo := -2147483648) (hi := 2147483647) (by decide) rfl (by omega) ⟨by decide, by decide⟩ (Or.inr (by decide))
    have t4 : Z3 2 0 0 102 = Z 2 0 0 102 := zu_ne hZ3 (fun q => absurd q.1 (by decide))
    have t5 : Z3 2 0 0 3000 = Z 2 0 0 3000 := zu_ne hZ3 (fun q => absurd q.1 (by decide))
    have t6 : Z3 2 0 0 3200 = Z 2 0 0 3200 := zu_ne hZ3 (fun q => absurd q.1 (by decide))
    have t7 : Z3 2 0 0 3500 = Z 2 0 0 3500 := zu_ne hZ3 (fun q => absurd q.1 (by decide))
    have t8 : Z3 2 0 0 (3015 + 60 * a1) = Z 2 0 0 (3015 + 60 * a1) := zu_ne hZ3 (fun q => absurd q.1 (by decide))
    have hZ3K : zK [1, 2] Z Z3 := zK_u zK_r hZ3 (by decide)
    intro μ9 e9
    replace e9 := e9.trans (zm_wI (Z := Z) (ν := ν) hZ3 (show ((0 : Nat) : Int) = 0 from rfl) (show ((0 : Nat) : Int) = 0 from rfl) (show ((2 : Nat) : Int) = 2 from rfl) (show (1 : Int32) = i3 1 from rfl))
    subst e9
    exact zlW hP (show (0 : Int32) = i3 0 from rfl) ⟨hZ3I, hZ3K, by omega, by omega, by omega, by omega, by omega, by omega⟩
  · replace hP := zE_n hP h2
    refine wz_i0 (Eq.trans (i3L (rfl : i3 a2 = i3 a2) (show (0 : Int32) = i3 0 from rfl) (by omega) (by omega) (by omega) (by omega)) (decide_eq_false (by omega))) ?_
    have r9 := zI_k hZ 2 0 0 102 (lo := 0) (hi := 48) (by decide) rfl
    refine wz_br (i3L (i3S (zm_rd (Z := Z) (ν := ν) (k := 2) (show ((0 : Nat) : Int) = 0 from rfl) (show ((0 : Nat) : Int) = 0 from rfl) (show ((102 : Nat) : Int) = 102 from rfl)) (show (1 : Int32) = i3 1 from rfl)) (rfl : i3 a2 = i3 a2) (by omega) (by omega) (by omega) (by omega)) (fun h10 => ?_) (fun h10 => ?_)
    · replace hP := zE_p hP h10
      obtain ⟨Z11, hZ11⟩ := zx (zu Z 1 0 0 2 1)
      replace hP := zl_e hP hZ11
      have hZ11I := zI_u hZ hZ11 (lo := -2147483648) (hi := 2147483647) (by decide) rfl (by omega) ⟨by decide, by decide⟩ (Or.inr (by decide))
      have t12 : Z11 2 0 0 102 = Z 2 0 0 102 := zu_ne hZ11 (fun q => absurd q.1 (by decide))
      have t13 : Z11 2 0 0 3000 = Z 2 0 0 3000 := zu_ne hZ11 (fun q => absurd q.1 (by decide))
      have t14 : Z11 2 0 0 3200 = Z 2 0 0 3200 := zu_ne hZ11 (fun q => absurd q.1 (by decide))
      have t15 : Z11 2 0 0 3500 = Z 2 0 0 3500 := zu_ne hZ11 (fun q => absurd q.1 (by decide))
      have t16 : Z11 2 0 0 (3015 + 60 * a1) = Z 2 0 0 (3015 + 60 * a1) := zu_ne hZ11 (fun q => absurd q.1 (by decide))
      have hZ11K : zK [1, 2] Z Z11 := zK_u zK_r hZ11 (by decide)
      intro μ9 e9
      replace e9 := e9.trans (zm_wI (Z := Z) (ν := ν) hZ11 (show ((0 : Nat) : Int) = 0 from rfl) (show ((0 : Nat) : Int) = 0 from rfl) (show ((2 : Nat) : Int) = 2 from rfl) (show (1 : Int32) = i3 1 from rfl))
      subst e9
      exact zlW hP (show (0 : Int32) = i3 0 from rfl) ⟨hZ11I, hZ11K, by omega, by omega, by omega, by omega, by omega, by omega⟩
    · replace hP := zE_n hP h10
      obtain ⟨Z17, hZ17⟩ := zx (zu Z 1 0 0 2 0)
      replace hP := zl_e hP hZ17
      have hZ17I := zI_0 hZ hZ17 (by decide) (Or.inr (by decide))
      have t18 : Z17 2 0 0 102 = Z 2 0 0 102 := zu_ne hZ17 (fun q => absurd q.1 (by decide))
      have t19 : Z17 2 0 0 3000 = Z 2 0 0 3000 := zu_ne hZ17 (fun q => absurd q.1 (by decide))
      have t20 : Z17 2 0 0 3200 = Z 2 0 0 3200 := zu_ne hZ17 (fun q => absurd q.1 (by decide))
      have t21 : Z17 2 0 0 3500 = Z 2 0 0 3500 := zu_ne hZ17 (fun q => absurd q.1 (by decide))
      have t22 : Z17 2 0 0 (3015 + 60 * a1) = Z 2 0 0 (3015 + 60 * a1) := zu_ne hZ17 (fun q => absurd q.1 (by decide))
      have hZ17K : zK [1, 2] Z Z17 := zK_u zK_r hZ17 (by decide)
      intro μ9 e9
      replace e9 := e9.trans (zm_wI (Z := Z) (ν := ν) hZ17 (show ((0 : Nat) : Int) = 0 from rfl) (show ((0 : Nat) : Int) = 0 from rfl) (show ((2 : Nat) : Int) = 2 from rfl) (show (0 : Int32) = i3 0 from rfl))
      subst e9
      refine wz_i0 (Eq.trans (i3L (rfl : i3 a3 = i3 a3) (show (1 : Int32) = i3 1 from rfl) (by omega) (by omega) (by omega) (by omega)) (decide_eq_false (by omega))) ?_
      refine wz_i0 (Eq.trans (i3L (show (9999 : Int32) = i3 9999 from rfl) (rfl : i3 a3 = i3 a3) (by omega) (by omega) (by omega) (by omega)) (decide_eq_false (by omega))) ?_
      refine wz_br (i3L (rfl : i3 a4 = i3 a4) (show (1 : Int32) = i3 1 from rfl) (by omega) (by omega) (by omega) (by omega)) (fun h23 => ?_) (fun h23 => ?_)
      · replace hP := zE_p hP h23
        obtain ⟨Z24, hZ24⟩ := zx (zu Z17 1 0 0 2 2)
        replace hP := zl_e hP hZ24
        have hZ24I := zI_u hZ17I hZ24 (lo := -2147483648) (hi := 2147483647) (by decide) rfl (by omega) ⟨by decide, by decide⟩ (Or.inr (by decide))
        have t25 : Z24 2 0 0 102 = Z17 2 0 0 102 := zu_ne hZ24 (fun q => absurd q.1 (by decide))
        have t26 : Z24 2 0 0 3000 = Z17 2 0 0 3000 := zu_ne hZ24 (fun q => absurd q.1 (by decide))
        have t27 : Z24 2 0 0 3200 = Z17 2 0 0 3200 := zu_ne hZ24 (fun q => absurd q.1 (by decide))
        have t28 : Z24 2 0 0 3500 = Z17 2 0 0 3500 := zu_ne hZ24 (fun q => absurd q.1 (by decide))
        have t29 : Z24 2 0 0 (3015 + 60 * a1) = Z17 2 0 0 (3015 + 60 * a1) := zu_ne hZ24 (fun q => absurd q.1 (by decide))
        have hZ24K := zK_u hZ17K hZ24 (by decide)
        intro μ9 e9
        replace e9 := e9.trans (zm_wI (Z := Z17) (ν := ν) hZ24 (show ((0 : Nat) : Int) = 0 from rfl) (show ((0 : Nat) : Int) = 0 from rfl) (show ((2 : Nat) : Int) = 2 from rfl) (show (2 : Int32) = i3 2 from rfl))
        subst e9
        exact zlW hP (show (0 : Int32) = i3 0 from rfl) ⟨hZ24I, hZ24K, by omega, by omega, by omega, by omega, by omega, by omega⟩
      · replace hP := zE_n hP h23
        refine wz_br (i3L (rfl : i3 a3 = i3 a3) (rfl : i3 a4 = i3 a4) (by omega) (by omega) (by omega) (by omega)) (fun h30 => ?_) (fun h30 => ?_)
        · replace hP := zE_p hP h30
          obtain ⟨Z31, hZ31⟩ := zx (zu Z17 1 0 0 2 2)
          replace hP := zl_e hP hZ31
          have hZ31I := zI_u hZ17I hZ31 (lo := -2147483648) (hi := 2147483647) (by decide) rfl (by omega) ⟨by decide, by decide⟩ (Or.inr (by decide))
          have t32 : Z31 2 0 0 102 = Z17 2 0 0 102 := zu_ne hZ31 (fun q => absurd q.1 (by decide))
          have t33 : Z31 2 0 0 3000 = Z17 2 0 0 3000 := zu_ne hZ31 (fun q => absurd q.1 (by decide))
          have t34 : Z31 2 0 0 3200 = Z17 2 0 0 3200 := zu_ne hZ31 (fun q => absurd q.1 (by decide))
          have t35 : Z31 2 0 0 3500 = Z17 2 0 0 3500 := zu_ne hZ31 (fun q => absurd q.1 (by decide))
          have t36 : Z31 2 0 0 (3015 + 60 * a1) = Z17 2 0 0 (3015 + 60 * a1) := zu_ne hZ31 (fun q => absurd q.1 (by decide))
          have hZ31K := zK_u hZ17K hZ31 (by decide)
          intro μ9 e9
          replace e9 := e9.trans (zm_wI (Z := Z17) (ν := ν) hZ31 (show ((0 : Nat) : Int) = 0 from rfl) (show ((0 : Nat) : Int) = 0 from rfl) (show ((2 : Nat) : Int) = 2 from rfl) (show (2 : Int32) = i3 2 from rfl))
          subst e9
          exact zlW hP (show (0 : Int32) = i3 0 from rfl) ⟨hZ31I, hZ31K, by omega, by omega, by omega, by omega, by omega, by omega⟩
        · replace hP := zE_n hP h30
          refine wz_i0 (i3O (n := 4400) (i3A (i3A (show (3010 : Int32) = i3 3010 from rfl) (i3M (show (60 : Int32) = i3 60 from rfl) (rfl : i3 a1 = i3 a1))) (show (3 : Int32) = i3 3 from rfl)) (by omega) (by omega) (by omega)) ?_
          have r37 := zI_k hZ17I 2 0 0 (3013 + 60 * a1) (lo := 0) (hi := 500) (by decide) (zs_3010_3 (x := (a1 + 0)) (by omega) (by omega) (by omega))
          refine wz_br (i3L (i3M (show (200 : Int32) = i3 200 from rfl) (zm_rd (Z := Z17) (ν := ν) (k := 2) (show ((0 : Nat) : Int) = 0 from rfl) (show ((0 : Nat) : Int) = 0 from rfl) (i3I (y := (3013 + 60 * a1)) (i3A (i3A (show (3010 : Int32) = i3 3010 from rfl) (i3M (show (60 : Int32) = i3 60 from rfl) (rfl : i3 a1 = i3 a1))) (show (3 : Int32) = i3 3 from rfl)) (by omega) (by omega) (by omega)))) (i3S (rfl : i3 a3 = i3 a3) (rfl : i3 a4 = i3 a4)) (by omega) (by omega) (by omega) (by omega)) (fun h38 => ?_) (fun h38 => ?_)
          · replace hP := zE_p hP h38
            obtain ⟨Z39, hZ39⟩ := zx (zu Z17 1 0 0 2 2)
            replace hP := zl_e hP hZ39
            have hZ39I := zI_u hZ17I hZ39 (lo := -2147483648) (hi := 2147483647) (by decide) rfl (by omega) ⟨by decide, by decide⟩ (Or.inr (by decide))
            have t40 : Z39 2 0 0 102 = Z17 2 0 0 102 := zu_ne hZ39 (fun q => absurd q.1 (by decide))
            have t41 : Z39 2 0 0 3000 = Z17 2 0 0 3000 := zu_ne hZ39 (fun q => absurd q.1 (by decide))
            have t42 : Z39 2 0 0 3200 = Z17 2 0 0 3200 := zu_ne hZ39 (fun q => absurd q.1 (by decide))
            have t43 : Z39 2 0 0 3500 = Z17 2 0 0 3500 := zu_ne hZ39 (fun q => absurd q.1 (by decide))
            have t44 : Z39 2 0 0 (3015 + 60 * a1) = Z17 2 0 0 (3015 + 60 * a1) := zu_ne hZ39 (fun q => absurd q.1 (by decide))
            have hZ39K := zK_u hZ17K hZ39 (by decide)
            intro μ9 e9
            replace e9 := e9.trans (zm_wI (Z := Z17) (ν := ν) hZ39 (show ((0 : Nat) : Int) = 0 from rfl) (show ((0 : Nat) : Int) = 0 from rfl) (show ((2 : Nat) : Int) = 2 from rfl) (show (2 : Int32) = i3 2 from rfl))
            subst e9
            exact zlW hP (show (0 : Int32) = i3 0 from rfl) ⟨hZ39I, hZ39K, by omega, by omega, by omega, by omega, by omega, by omega⟩
          · replace hP := zE_n hP h38
            obtain ⟨Z45, hZ45⟩ := zx (zu Z17 1 0 0 2 0)
            replace hP := zl_e hP hZ45
            have hZ45I := zI_0 hZ17I hZ45 (by decide) (Or.inr (by decide))
            have t46 : Z45 2 0 0 102 = Z17 2 0 0 102 := zu_ne hZ45 (fun q => absurd q.1 (by decide))
            have t47 : Z45 2 0 0 3000 = Z17 2 0 0 3000 := zu_ne hZ45 (fun q => absurd q.1 (by decide))
            have t48 : Z45 2 0 0 3200 = Z17 2 0 0 3200 := zu_ne hZ45 (fun q => absurd q.1 (by decide))
            have t49 : Z45 2 0 0 3500 = Z17 2 0 0 3500 := zu_ne hZ45 (fun q => absurd q.1 (by decide))
            have t50 : Z45 2 0 0 (3015 + 60 * a1) = Z17 2 0 0 (3015 + 60 * a1) := zu_ne hZ45 (fun q => absurd q.1 (by decide))
            have hZ45K := zK_u hZ17K hZ45 (by decide)
            intro μ9 e9
            replace e9 := e9.trans (zm_wI (Z := Z17) (ν := ν) hZ45 (show ((0 : Nat) : Int) = 0 from rfl) (show ((0 : Nat) : Int) = 0 from rfl) (show ((2 : Nat) : Int) = 2 from rfl) (show (0 : Int32) = i3 0 from rfl))
            subst e9
            refine wz_i0 (i3O (n := 4400) (i3A (i3A (show (200 : Int32) = i3 200 from rfl) (i3M (show (20 : Int32) = i3 20 from rfl) (rfl : i3 a2 = i3 a2))) (show (10 : Int32) = i3 10 from rfl)) (by omega) (by omega) (by omega)) ?_
            have r51 := zI_k hZ45I 2 0 0 (210 + 20 * a2) (lo := 0) (hi := 4) (by decide) (zs_200_10 (x := a2) (by omega) (by omega) (by omega))
            refine wz_br (i3NE (zm_rd (Z := Z45) (ν := ν) (k := 2) (show ((0 : Nat) : Int) = 0 from rfl) (show ((0 : Nat) : Int) = 0 from rfl) (i3I (y := (210 + 20 * a2)) (i3A (i3A (show (200 : Int32) = i3 200 from rfl) (i3M (show (20 : Int32) = i3 20 from rfl) (rfl : i3 a2 = i3 a2))) (show (10 : Int32) = i3 10 from rfl)) (by omega) (by omega) (by omega))) (show (0 : Int32) = i3 0 from rfl) (by omega) (by omega) (by omega) (by omega)) (fun h52 => ?_) (fun h52 => ?_)
            · replace hP := zE_p hP h52
              obtain ⟨Z53, hZ53⟩ := zx (zu Z45 1 0 0 2 3)
              replace hP := zl_e hP hZ53
              have hZ53I := zI_u hZ45I hZ53 (lo := -2147483648) (hi := 2147483647) (by decide) rfl (by omega) ⟨by decide, by decide⟩ (Or.inr (by decide))
              have t54 : Z53 2 0 0 102 = Z45 2 0 0 102 := zu_ne hZ53 (fun q => absurd q.1 (by decide))
              have t55 : Z53 2 0 0 3000 = Z45 2 0 0 3000 := zu_ne hZ53 (fun q => absurd q.1 (by decide))
              have t56 : Z53 2 0 0 3200 = Z45 2 0 0 3200 := zu_ne hZ53 (fun q => absurd q.1 (by decide))
              have t57 : Z53 2 0 0 3500 = Z45 2 0 0 3500 := zu_ne hZ53 (fun q => absurd q.1 (by decide))
              have t58 : Z53 2 0 0 (3015 + 60 * a1) = Z45 2 0 0 (3015 + 60 * a1) := zu_ne hZ53 (fun q => absurd q.1 (by decide))
              have hZ53K := zK_u hZ45K hZ53 (by decide)
              intro μ9 e9
              replace e9 := e9.trans (zm_wI (Z := Z45) (ν := ν) hZ53 (show ((0 : Nat) : Int) = 0 from rfl) (show ((0 : Nat) : Int) = 0 from rfl) (show ((2 : Nat) : Int) = 2 from rfl) (show (3 : Int32) = i3 3 from rfl))
              subst e9
              exact zlW hP (show (0 : Int32) = i3 0 from rfl) ⟨hZ53I, hZ53K, by omega, by omega, by omega, by omega, by omega, by omega⟩
            · replace hP := zE_n hP h52
              refine wz_i0 (i3O (n := 4400) (i3A (i3A (show (200 : Int32) = i3 200 from rfl) (i3M (show (20 : Int32) = i3 20 from rfl) (rfl : i3 a2 = i3 a2))) (show (4 : Int32) = i3 4 from rfl)) (by omega) (by omega) (by omega)) ?_
              have r59 := zI_k hZ45I 2 0 0 (204 + 20 * a2) (lo := 0) (hi := 40) (by decide) (zs_200_4 (x := a2) (by omega) (by omega) (by omega))
              refine wz_br (i3Le (zm_rd (Z := Z45) (ν := ν) (k := 2) (show ((0 : Nat) : Int) = 0 from rfl) (show ((0 : Nat) : Int) = 0 from rfl) (i3I (y := (204 + 20 * a2)) (i3A (i3A (show (200 : Int32) = i3 200 from rfl) (i3M (show (20 : Int32) = i3 20 from rfl) (rfl : i3 a2 = i3 a2))) (show (4 : Int32) = i3 4 from rfl)) (by omega) (by omega) (by omega))) (show (0 : Int32) = i3 0 from rfl) (by omega) (by omega) (by omega) (by omega)) (fun h60 => ?_) (fun h60 => ?_)
              · replace hP := zE_p hP h60
                obtain ⟨Z61, hZ61⟩ := zx (zu Z45 1 0 0 2 3)
                replace hP := zl_e hP hZ61
                have hZ61I := zI_u hZ45I hZ61 (lo := -2147483648) (hi := 2147483647) (by decide) rfl (by omega) ⟨by decide, by decide⟩ (Or.inr (by decide))
                have t62 : Z61 2 0 0 102 = Z45 2 0 0 102 := zu_ne hZ61 (fun q => absurd q.1 (by decide))
                have t63 : Z61 2 0 0 3000 = Z45 2 0 0 3000 := zu_ne hZ61 (fun q => absurd q.1 (by decide))
                have t64 : Z61 2 0 0 3200 = Z45 2 0 0 3200 := zu_ne hZ61 (fun q => absurd q.1 (by decide))
                have t65 : Z61 2 0 0 3500 = Z45 2 0 0 3500 := zu_ne hZ61 (fun q => absurd q.1 (by decide))
                have t66 : Z61 2 0 0 (3015 + 60 * a1) = Z45 2 0 0 (3015 + 60 * a1) := zu_ne hZ61 (fun q => absurd q.1 (by decide))
                have hZ61K := zK_u hZ45K hZ61 (by decide)
                intro μ9 e9
                replace e9 := e9.trans (zm_wI (Z := Z45) (ν := ν) hZ61 (show ((0 : Nat) : Int) = 0 from rfl) (show ((0 : Nat) : Int) = 0 from rfl) (show ((2 : Nat) : Int) = 2 from rfl) (show (3 : Int32) = i3 3 from rfl))
                subst e9
                exact zlW hP (show (0 : Int32) = i3 0 from rfl) ⟨hZ61I, hZ61K, by omega, by omega, by omega, by omega, by omega, by omega⟩
              · replace hP := zE_n hP h60
                refine wz_i0 (i3O (n := 4400) (i3A (i3A (show (200 : Int32) = i3 200 from rfl) (i3M (show (20 : Int32) = i3 20 from rfl) (rfl : i3 a2 = i3 a2))) (show (11 : Int32) = i3 11 from rfl)) (by omega) (by omega) (by omega)) ?_
                have r67 := zI_k hZ45I 2 0 0 (211 + 20 * a2) (lo := -1) (hi := 6) (by decide) (zs_200_11 (x := a2) (by omega) (by omega) (by omega))
                obtain ⟨v68, hv68, c9, lv68, uv68⟩ := sp_390 (ν := ν) hZ45I (a1 := (Z45 2 0 0 (211 + 20 * a2))) (by omega)
                replace hP := zl_e hP hv68
                refine wz_cI_of (zas (zcons rfl (zcons (zvi (zm_rd (Z := Z45) (ν := ν) (k := 2) (show ((0 : Nat) : Int) = 0 from rfl) (show ((0 : Nat) : Int) = 0 from rfl) (i3I (y := (211 + 20 * a2)) (i3A (i3A (show (200 : Int32) = i3 200 from rfl) (i3M (show (20 : Int32) = i3 20 from rfl) (rfl : i3 a2 = i3 a2))) (show (11 : Int32) = i3 11 from rfl)) (by omega) (by omega) (by omega)))) rfl)) c9) ?_
                clear c9
                refine wz_br (i3NE (rfl : i3 v68 = i3 v68) (show (0 : Int32) = i3 0 from rfl) (by omega) (by omega) (by omega) (by omega)) (fun h69 => ?_) (fun h69 => ?_)
                · replace hP := zE_p hP h69
                  obtain ⟨Z70, hZ70⟩ := zx (zu Z45 1 0 0 2 3)
                  replace hP := zl_e hP hZ70
                  have hZ70I := zI_u hZ45I hZ70 (lo := -2147483648) (hi := 2147483647) (by decide) rfl (by omega) ⟨by decide, by decide⟩ (Or.inr (by decide))
                  have t71 : Z70 2 0 0 102 = Z45 2 0 0 102 := zu_ne hZ70 (fun q => absurd q.1 (by decide))
                  have t72 : Z70 2 0 0 3000 = Z45 2 0 0 3000 := zu_ne hZ70 (fun q => absurd q.1 (by decide))
                  have t73 : Z70 2 0 0 3200 = Z45 2 0 0 3200 := zu_ne hZ70 (fun q => absurd q.1 (by decide))
                  have t74 : Z70 2 0 0 3500 = Z45 2 0 0 3500 := zu_ne hZ70 (fun q => absurd q.1 (by decide))
                  have t75 : Z70 2 0 0 (3015 + 60 * a1) = Z45 2 0 0 (3015 + 60 * a1) := zu_ne hZ70 (fun q => absurd q.1 (by decide))
                  have hZ70K := zK_u hZ45K hZ70 (by decide)
                  intro μ9 e9
                  replace e9 := e9.trans (zm_wI (Z := Z45) (ν := ν) hZ70 (show ((0 : Nat) : Int) = 0 from rfl) (show ((0 : Nat) : Int) = 0 from rfl) (show ((2 : Nat) : Int) = 2 from rfl) (show (3 : Int32) = i3 3 from rfl))
                  subst e9
                  exact zlW hP (show (0 : Int32) = i3 0 from rfl) ⟨hZ70I, hZ70K, by omega, by omega, by omega, by omega, by omega, by omega⟩
                · replace hP := zE_n hP h69
                  refine wz_i0 (i3O (n := 4400) (i3A (i3A (show (3010 : Int32) = i3 3010 from rfl) (i3M (show (60 : Int32) = i3 60 from rfl) (rfl : i3 a1 = i3 a1))) (show (5 : Int32) = i3 5 from rfl)) (by omega) (by omega) (by omega)) ?_
                  have r76 := zI_k hZ45I 2 0 0 (3015 + 60 * a1) (lo := 0) (hi := 12) (by decide) (zs_3010_5 (x := (a1 + 0)) (by omega) (by omega) (by omega))
                  refine wz_br (i3Le (show (12 : Int32) = i3 12 from rfl) (zm_rd (Z := Z45) (ν := ν) (k := 2) (show ((0 : Nat) : Int) = 0 from rfl) (show ((0 : Nat) : Int) = 0 from rfl) (i3I (y := (3015 + 60 * a1)) (i3A (i3A (show (3010 : Int32) = i3 3010 from rfl) (i3M (show (60 : Int32) = i3 60 from rfl) (rfl : i3 a1 = i3 a1))) (show (5 : Int32) = i3 5 from rfl)) (by omega) (by omega) (by omega))) (by omega) (by omega) (by omega) (by omega)) (fun h77 => ?_) (fun h77 => ?_)
                  · replace hP := zE_p hP h77
                    obtain ⟨Z78, hZ78⟩ := zx (zu Z45 1 0 0 2 3)
                    replace hP := zl_e hP hZ78
                    have hZ78I := zI_u hZ45I hZ78 (lo := -2147483648) (hi := 2147483647) (by decide) rfl (by omega) ⟨by decide, by decide⟩ (Or.inr (by decide))
                    have t79 : Z78 2 0 0 102 = Z45 2 0 0 102 := zu_ne hZ78 (fun q => absurd q.1 (by decide))
                    have t80 : Z78 2 0 0 3000 = Z45 2 0 0 3000 := zu_ne hZ78 (fun q => absurd q.1 (by decide))
                    have t81 : Z78 2 0 0 3200 = Z45 2 0 0 3200 := zu_ne hZ78 (fun q => absurd q.1 (by decide))
                    have t82 : Z78 2 0 0 3500 = Z45 2 0 0 3500 := zu_ne hZ78 (fun q => absurd q.1 (by decide))
                    have t83 : Z78 2 0 0 (3015 + 60 * a1) = Z45 2 0 0 (3015 + 60 * a1) := zu_ne hZ78 (fun q => absurd q.1 (by decide))
                    have hZ78K := zK_u hZ45K hZ78 (by decide)
                    intro μ9 e9
                    replace e9 := e9.trans (zm_wI (Z := Z45) (ν := ν) hZ78 (show ((0 : Nat) : Int) = 0 from rfl) (show ((0 : Nat) : Int) = 0 from rfl) (show ((2 : Nat) : Int) = 2 from rfl) (show (3 : Int32) = i3 3 from rfl))
                    subst e9
                    exact zlW hP (show (0 : Int32) = i3 0 from rfl) ⟨hZ78I, hZ78K, by omega, by omega, by omega, by omega, by omega, by omega⟩
                  · replace hP := zE_n hP h77
                    obtain ⟨Z84, hZ84⟩ := zx (zu Z45 1 0 0 2 0)
                    replace hP := zl_e hP hZ84
                    have hZ84I := zI_0 hZ45I hZ84 (by decide) (Or.inr (by decide))
                    have t85 : Z84 2 0 0 102 = Z45 2 0 0 102 := zu_ne hZ84 (fun q => absurd q.1 (by decide))
                    have t86 : Z84 2 0 0 3000 = Z45 2 0 0 3000 := zu_ne hZ84 (fun q => absurd q.1 (by decide))
                    have t87 : Z84 2 0 0 3200 = Z45 2 0 0 3200 := zu_ne hZ84 (fun q => absurd q.1 (by decide))
                    have t88 : Z84 2 0 0 3500 = Z45 2 0 0 3500 := zu_ne hZ84 (fun q => absurd q.1 (by decide))
                    have t89 : Z84 2 0 0 (3015 + 60 * a1) = Z45 2 0 0 (3015 + 60 * a1) := zu_ne hZ84 (fun q => absurd q.1 (by decide))
                    have hZ84K := zK_u hZ45K hZ84 (by decide)
                    intro μ9 e9
                    replace e9 := e9.trans (zm_wI (Z := Z45) (ν := ν) hZ84 (show ((0 : Nat) : Int) = 0 from rfl) (show ((0 : Nat) : Int) = 0 from rfl) (show ((2 : Nat) : Int) = 2 from rfl) (show (0 : Int32) = i3 0 from rfl))
                    subst e9
                    have r90 := zI_q hZ84I
                    refine wz_i1 (Eq.trans (i3NE (zm_rd (Z := Z84) (ν := ν) (k := 1) (show ((0 : Nat) : Int) = 0 from rfl) (show ((0 : Nat) : Int) = 0 from rfl) (show ((35 : Nat) : Int) = 35 from rfl)) (show (0 : Int32) = i3 0 from rfl) (by omega) (by omega) (by omega) (by omega)) (decide_eq_true (by omega))) ?_
                    obtain ⟨Z91, hZ91, c9, hZ91I, kZ91, wZ910, wZ911, wZ912, wZ913⟩ := sp_307 (ν := ν) hZ84I (a1 := a1) (by omega) (a2 := a2) (by omega) (a3 := a3) (by omega) (a4 := a4) (by omega) (by omega)
                    have hZ91K : zK [1, 2] Z Z91 := zK_t hZ84K kZ91 (by decide)
                    replace hP := zl_e hP hZ91
                    refine wz_cV_of (zas (zcons rfl (zcons (zvi (rfl : i3 a1 = i3 a1)) (zcons (zvi (rfl : i3 a2 = i3 a2)) (zcons (zvi (rfl : i3 a3 = i3 a3)) (zcons (zvi (rfl : i3 a4 = i3 a4)) rfl))))) c9) ?_
                    clear c9
                    refine wz_i0 (i3O (n := 4400) (i3A (i3A (show (3010 : Int32) = i3 3010 from rfl) (i3M (show (60 : Int32) = i3 60 from rfl) (rfl : i3 a1 = i3 a1))) (show (5 : Int32) = i3 5 from rfl)) (by omega) (by omega) (by omega)) ?_
                    have r92 := zI_k hZ91I 2 0 0 (3015 + 60 * a1) (lo := 0) (hi := 12) (by decide) (zs_3010_5 (x := (a1 + 0)) (by omega) (by omega) (by omega))
                    exact zlW hP (i3S (zm_rd (Z := Z91) (ν := ν) (k := 2) (show ((0 : Nat) : Int) = 0 from rfl) (show ((0 : Nat) : Int) = 0 from rfl) (i3I (y := (3015 + 60 * a1)) (i3A (i3A (show (3010 : Int32) = i3 3010 from rfl) (i3M (show (60 : Int32) = i3 60 from rfl) (rfl : i3 a1 = i3 a1))) (show (5 : Int32) = i3 5 from rfl)) (by omega) (by omega) (by omega))) (show (1 : Int32) = i3 1 from rfl)) ⟨hZ91I, hZ91K, by omega, by omega, by omega, by omega, by omega, by omega⟩

