/-! a season told, m (printed by season.py) -/
/- yX12_cSeason -/
def zl_308_1q (x1 : Int) : Nat → qz_Z → Int → qz_Z × Int
  | 0, Z, x2 => (Z, x2)
  | m + 1, Z, x2 => (if x1 ≤ 3 then (if 1 ≤ x2 then (Z, x2) else (zlet (zu Z 1 0 0 3 (((25173 * (Z 1 0 0 3)) + 13849) % 65536)) (fun Z4 => (zlet (zu Z4 1 0 0 3 (((25173 * (Z4 1 0 0 3)) + 13849) % 65536)) (fun Z11 => (zlet (zu Z11 1 0 0 3 (((25173 * (Z11 1 0 0 3)) + 13849) % 65536)) (fun Z18 => (zlet (zu Z18 1 0 0 3 (((25173 * (Z18 1 0 0 3)) + 13849) % 65536)) (fun Z25 => (zlet (zu Z25 1 0 0 3 (((25173 * (Z25 1 0 0 3)) + 13849) % 65536)) (fun Z32 => (zlet2 (zf_297 Z32 (4 + (((Z4 1 0 0 3) / 16) % 4)) (1 + (((Z11 1 0 0 3) / 16) % 4)) (1 + (((Z18 1 0 0 3) / 16) % 4)) ((10 * (((Z25 1 0 0 3) / 16) % 9)) + 10) (((Z32 1 0 0 3) / 16) % 5)) (fun Z40 v39 => zl_308_1q x1 m Z40 (x2 + 1)))))))))))))) else (if 2 ≤ x2 then (Z, x2) else (zlet (zu Z 1 0 0 3 (((25173 * (Z 1 0 0 3)) + 13849) % 65536)) (fun Z43 => (zlet (zu Z43 1 0 0 3 (((25173 * (Z43 1 0 0 3)) + 13849) % 65536)) (fun Z50 => (zlet (zu Z50 1 0 0 3 (((25173 * (Z50 1 0 0 3)) + 13849) % 65536)) (fun Z57 => (zlet (zu Z57 1 0 0 3 (((25173 * (Z57 1 0 0 3)) + 13849) % 65536)) (fun Z64 => (zlet (zu Z64 1 0 0 3 (((25173 * (Z64 1 0 0 3)) + 13849) % 65536)) (fun Z71 => (zlet2 (zf_297 Z71 (4 + (((Z43 1 0 0 3) / 16) % 4)) (1 + (((Z50 1 0 0 3) / 16) % 4)) (1 + (((Z57 1 0 0 3) / 16) % 4)) ((10 * (((Z64 1 0 0 3) / 16) % 9)) + 10) (((Z71 1 0 0 3) / 16) % 5)) (fun Z79 v78 => zl_308_1q x1 m Z79 (x2 + 1)))))))))))))))
theorem sl_308_1q {Zs Z : qz_Z} {ν : qz_N} (hZ : zI (some none) Z) (hK : zK [1, 2] Zs Z) {x1 : Int} (gx1 : 1 ≤ x1 ∧ x1 ≤ 12) {x2 : Int} (gx2 : 0 ≤ x2 ∧ x2 ≤ 2) {kc0 : Int} {kc1 : Int} {kc2 : Int} (gr0 : Z 2 0 0 3000 = x2) (gr1 : Z 2 0 0 102 = kc0) (gr2 : Z 2 0 0 3200 = kc1) (gr3 : Z 2 0 0 3500 = kc2) {k : wz_K} {R : wz_R} {L : qz_L} (hL : qz_fg [true, true, true, false, false, false, false, false] L = [some (.inr (.inr (some (1, 0, 0)))), some (.inl (i3 x1)), some (.inl (i3 x2)), none, none, none, none, none]) {T : qz_Z × Int} (hP : zE T (zl_308_1q x1 ((2 - x2).toNat + 1) Z x2)) (hk : ∀ (L9 : qz_L) (Z9 : qz_Z) (yx2 : Int), qz_fg [true, false, false, false, false, false, false, false] L9 = [some (.inr (.inr (some (1, 0, 0)))), none, none, none, none, none, none, none] → zI (some none) Z9 → zK [1, 2] Zs Z9 → (0 ≤ yx2 ∧ yx2 ≤ 2) → (Z9 2 0 0 3000 = yx2) → (Z9 2 0 0 102 = kc0) → (Z9 2 0 0 3200 = kc1) → (Z9 2 0 0 3500 = kc2) → (1 ≤ yx2) → zE T ((Z9, yx2)) → k 0 (L9, [], zm Z9 ν)) : wz_loop qb_308_1 65536 k R (L, [], zm Z ν) := by
  refine wz_lp sb_308_1 (fun m x => ∃ Z : qz_Z, ∃ x2 : Int, qz_fg [true, true, true, false, false, false, false, false] x.1 = [some (.inr (.inr (some (1, 0, 0)))), some (.inl (i3 x1)), some (.inl (i3 x2)), none, none, none, none, none] ∧ x.2 = ([], zm Z ν) ∧ zI (some none) Z ∧ zK [1, 2] Zs Z ∧ m = (2 - x2).toNat ∧ (0 ≤ x2 ∧ x2 ≤ 2) ∧ (Z 2 0 0 3000 = x2) ∧ (Z 2 0 0 102 = kc0) ∧ (Z 2 0 0 3200 = kc1) ∧ (Z 2 0 0 3500 = kc2) ∧ zE T (zl_308_1q x1 (m + 1) Z x2)) ?_ 65536 ((2 - x2).toNat) _ (by omega) ⟨Z, x2, hL, rfl, hZ, hK, rfl, gx2, gr0, gr1, gr2, gr3, hP⟩
  clear hP gr0 gr1 gr2 gr3 gx2 hZ hK hL
  clear x2
  clear Z
  rintro m ⟨L, st, μ⟩ ⟨Z, x2, hL, hx, hZ, hK, hm, gx2, gr0, gr1, gr2, gr3, hP⟩
  cases hx
  refine fb_308_1 (i3 x1) (i3 x2) _ _ _ _ hL ?_
  refine wz_br (i3Le (rfl : i3 x1 = i3 x1) (show (3 : Int32) = i3 3 from rfl) (by omega) (by omega) (by omega) (by omega)) (fun h1 => ?_) (fun h1 => ?_)
  · replace hP := zE_p hP h1
    refine wz_br (i3Le (show (1 : Int32) = i3 1 from rfl) (rfl : i3 x2 = i3 x2) (by omega) (by omega) (by omega) (by omega)) (fun h2 => ?_) (fun h2 => ?_)
    · replace hP := zE_p hP h2
      exact hk _ _ _ (zconso rfl (zconso rfl (zconso rfl (zconso rfl (zconso rfl (zconso rfl (zconso rfl (zconso rfl rfl)))))))) hZ hK (by omega) (by omega) (by omega) (by omega) (by omega) (by omega) hP
    · replace hP := zE_n hP h2
      have r3 := zI_k hZ 1 0 0 3 (lo := 0) (hi := 65535) (by decide) rfl
      obtain ⟨Z4, hZ4⟩ := zx (zu Z 1 0 0 3 (((25173 * (Z 1 0 0 3)) + 13849) % 65536))
      replace hP := zl_e hP hZ4
      have hZ4I := zI_u hZ hZ4 (lo := 0) (hi := 65535) (by decide) rfl (by omega) ⟨by decide, by decide⟩ (Or.inr (by decide))
      have t5 : Z4 2 0 0 102 = Z 2 0 0 102 := zu_ne hZ4 (fun q => absurd q.1 (by decide))
      have t6 : Z4 2 0 0 3200 = Z 2 0 0 3200 := zu_ne hZ4 (fun q => absurd q.1 (by decide))
      have t7 : Z4 2 0 0 3500 = Z 2 0 0 3500 := zu_ne hZ4 (fun q => absurd q.1 (by decide))
      have t8 : Z4 2 0 0 3000 = Z 2 0 0 3000 := zu_ne hZ4 (fun q => absurd q.1 (by decide))
      have hZ4K := zK_u hK hZ4 (by decide)
      intro μ9 e9
      replace e9 := e9.trans (zm_wI (Z := Z) (ν := ν) hZ4 (show ((0 : Nat) : Int) = 0 from rfl) (show ((0 : Nat) : Int) = 0 from rfl) (show ((3 : Nat) : Int) = 3 from rfl) (i3R (i3A (i3M (show (25173 : Int32) = i3 25173 from rfl) (zm_rd (Z := Z) (ν := ν) (k := 1) (show ((0 : Nat) : Int) = 0 from rfl) (show ((0 : Nat) : Int) = 0 from rfl) (show ((3 : Nat) : Int) = 3 from rfl))) (show (13849 : Int32) = i3 13849 from rfl)) (show (65536 : Int32) = i3 65536 from rfl) (by omega) (by omega) (by omega) (by omega)))
      subst e9
      have r9 := zI_k hZ4I 1 0 0 3 (lo := 0) (hi := 65535) (by decide) rfl
      have q10 := zu_at hZ4
      obtain ⟨Z11, hZ11⟩ := zx (zu Z4 1 0 0 3 (((25173 * (Z4 1 0 0 3)) + 13849) % 65536))
      replace hP := zl_e hP hZ11
      have hZ11I := zI_u hZ4I hZ11 (lo := 0) (hi := 65535) (by decide) rfl (by omega) ⟨by decide, by decide⟩ (Or.inr (by decide))
      have t12 : Z11 2 0 0 102 = Z4 2 0 0 102 := zu_ne hZ11 (fun q => absurd q.1 (by decide))
      have t13 : Z11 2 0 0 3200 = Z4 2 0 0 3200 := zu_ne hZ11 (fun q => absurd q.1 (by decide))
      have t14 : Z11 2 0 0 3500 = Z4 2 0 0 3500 := zu_ne hZ11 (fun q => absurd q.1 (by decide))
      have t15 : Z11 2 0 0 3000 = Z4 2 0 0 3000 := zu_ne hZ11 (fun q => absurd q.1 (by decide))
      have hZ11K := zK_u hZ4K hZ11 (by decide)
      intro μ9 e9
      replace e9 := e9.trans (zm_wI (Z := Z4) (ν := ν) hZ11 (show ((0 : Nat) : Int) = 0 from rfl) (show ((0 : Nat) : Int) = 0 from rfl) (show ((3 : Nat) : Int) = 3 from rfl) (i3R (i3A (i3M (show (25173 : Int32) = i3 25173 from rfl) (zm_rd (Z := Z4) (ν := ν) (k := 1) (show ((0 : Nat) : Int) = 0 from rfl) (show ((0 : Nat) : Int) = 0 from rfl) (show ((3 : Nat) : Int) = 3 from rfl))) (show (13849 : Int32) = i3 13849 from rfl)) (show (65536 : Int32) = i3 65536 from rfl) (by omega) (by omega) (by omega) (by omega)))
      subst e9
      have r16 := zI_k hZ11I 1 0 0 3 (lo := 0) (hi := 65535) (by decide) rfl
      have q17 := zu_at hZ11
      obtain ⟨Z18, hZ18⟩ := zx (zu Z11 1 0 0 3 (((25173 * (Z11 1 0 0 3)) + 13849) % 65536))
      replace hP := zl_e hP hZ18
      have hZ18I := zI_u hZ11I hZ18 (lo := 0) (hi := 65535) (by decide) rfl (by omega) ⟨by decide, by decide⟩ (Or.inr (by decide))
      have t19 : Z18 2 0 0 102 = Z11 2 0 0 102 := zu_ne hZ18 (fun q => absurd q.1 (by decide))
      have t20 : Z18 2 0 0 3200 = Z11 2 0 0 3200 := zu_ne hZ18 (fun q => absurd q.1 (by decide))
      have t21 : Z18 2 0 0 3500 = Z11 2 0 0 3500 := zu_ne hZ18 (fun q => absurd q.1 (by decide))
      have t22 : Z18 2 0 0 3000 = Z11 2 0 0 3000 := zu_ne hZ18 (fun q => absurd q.1 (by decide))
      have hZ18K := zK_u hZ11K hZ18 (by decide)
      intro μ9 e9
      replace e9 := e9.trans (zm_wI (Z := Z11) (ν := ν) hZ18 (show ((0 : Nat) : Int) = 0 from rfl) (show ((0 : Nat) : Int) = 0 from rfl) (show ((3 : Nat) : Int) = 3 from rfl) (i3R (i3A (i3M (show (25173 : Int32) = i3 25173 from rfl) (zm_rd (Z := Z11) (ν := ν) (k := 1) (show ((0 : Nat) : Int) = 0 from rfl) (show ((0 : Nat) : Int) = 0 from rfl) (show ((3 : Nat) : Int) = 3 from rfl))) (show (13849 : Int32) = i3 13849 from rfl)) (show (65536 : Int32) = i3 65536 from rfl) (by omega) (by omega) (by omega) (by omega)))
      subst e9
      have r23 := zI_k hZ18I 1 0 0 3 (lo := 0) (hi := 65535) (by decide) rfl
      have q24 := zu_at hZ18
      obtain ⟨Z25, hZ25⟩ := zx (zu Z18 1 0 0 3 (((25173 * (Z18 1 0 0 3)) + 13849) % 65536))
      replace hP := zl_e hP hZ25
      have hZ25I := zI_u hZ18I hZ25 (lo := 0) (hi := 65535) (by decide) rfl (by omega) ⟨by decide, by decide⟩ (Or.inr (by decide))
      have t26 : Z25 2 0 0 102 = Z18 2 0 0 102 := zu_ne hZ25 (fun q => absurd q.1 (by decide))
      have t27 : Z25 2 0 0 3200 = Z18 2 0 0 3200 := zu_ne hZ25 (fun q => absurd q.1 (by decide))
      have t28 : Z25 2 0 0 3500 = Z18 2 0 0 3500 := zu_ne hZ25 (fun q => absurd q.1 (by decide))
      have t29 : Z25 2 0 0 3000 = Z18 2 0 0 3000 := zu_ne hZ25 (fun q => absurd q.1 (by decide))
      have hZ25K := zK_u hZ18K hZ25 (by decide)
      intro μ9 e9
      replace e9 := e9.trans (zm_wI (Z := Z18) (ν := ν) hZ25 (show ((0 : Nat) : Int) = 0 from rfl) (show ((0 : Nat) : Int) = 0 from rfl) (show ((3 : Nat) : Int) = 3 from rfl) (i3R (i3A (i3M (show (25173 : Int32) = i3 25173 from rfl) (zm_rd (Z := Z18) (ν := ν) (k := 1) (show ((0 : Nat) : Int) = 0 from rfl) (show ((0 : Nat) : Int) = 0 from rfl) (show ((3 : Nat) : Int) = 3 from rfl))) (show (13849 : Int32) = i3 13849 from rfl)) (show (65536 : Int32) = i3 65536 from rfl) (by omega) (by omega) (by omega) (by omega)))
      subst e9
      have r30 := zI_k hZ25I 1 0 0 3 (lo := 0) (hi := 65535) (by decide) rfl
      have q31 := zu_at hZ25
      obtain ⟨Z32, hZ32⟩ := zx (zu Z25 1 0 0 3 (((25173 * (Z25 1 0 0 3)) + 13849) % 65536))
      replace hP := zl_e hP hZ32
      have hZ32I := zI_u hZ25I hZ32 (lo := 0) (hi := 65535) (by decide) rfl (by omega) ⟨by decide, by decide⟩ (Or.inr (by decide))
      have t33 : Z32 2 0 0 102 = Z25 2 0 0 102 := zu_ne hZ32 (fun q => absurd q.1 (by decide))
      have t34 : Z32 2 0 0 3200 = Z25 2 0 0 3200 := zu_ne hZ32 (fun q => absurd q.1 (by decide))
      have t35 : Z32 2 0 0 3500 = Z25 2 0 0 3500 := zu_ne hZ32 (fun q => absurd q.1 (by decide))
      have t36 : Z32 2 0 0 3000 = Z25 2 0 0 3000 := zu_ne hZ32 (fun q => absurd q.1 (by decide))
      have hZ32K := zK_u hZ25K hZ32 (by decide)
      intro μ9 e9
      replace e9 := e9.trans (zm_wI (Z := Z25) (ν := ν) hZ32 (show ((0 : Nat) : Int) = 0 from rfl) (show ((0 : Nat) : Int) = 0 from rfl) (show ((3 : Nat) : Int) = 3 from rfl) (i3R (i3A (i3M (show (25173 : Int32) = i3 25173 from rfl) (zm_rd (Z := Z25) (ν := ν) (k := 1) (show ((0 : Nat) : Int) = 0 from rfl) (show ((0 : Nat) : Int) = 0 from rfl) (show ((3 : Nat) : Int) = 3 from rfl))) (show (13849 : Int32) = i3 13849 from rfl)) (show (65536 : Int32) = i3 65536 from rfl) (by omega) (by omega) (by omega) (by omega)))
      subst e9
      have r37 := zI_k hZ32I 1 0 0 3 (lo := 0) (hi := 65535) (by decide) rfl
      have q38 := zu_at hZ32
      obtain ⟨Z40, v39, hv39, c9, hZ40I, kZ40, lv39, uv39, wv390, wv391, wv392, wv393⟩ := sp_297 (ν := ν) hZ32I (a1 := (4 + (((Z4 1 0 0 3) / 16) % 4))) (by omega) (a2 := (1 + (((Z11 1 0 0 3) / 16) % 4))) (by omega) (a3 := (1 + (((Z18 1 0 0 3) / 16) % 4))) (by omega) (a4 := ((10 * (((Z25 1 0 0 3) / 16) % 9)) + 10)) (by omega) (a5 := (((Z32 1 0 0 3) / 16) % 5)) (by omega) (by omega)
      have hZ40K : zK [1, 2] Zs Z40 := zK_t hZ32K kZ40 (by decide)
      replace hP := zl_e2 hP hv39
      refine wz_cI_of (zas (zcons rfl (zcons (zvi (i3A (show (4 : Int32) = i3 4 from rfl) (i3R (i3D (zm_rd (Z := Z4) (ν := ν) (k := 1) (show ((0 : Nat) : Int) = 0 from rfl) (show ((0 : Nat) : Int) = 0 from rfl) (show ((3 : Nat) : Int) = 3 from rfl)) (show (16 : Int32) = i3 16 from rfl) (by omega) (by omega) (by omega) (by omega)) (show (4 : Int32) = i3 4 from rfl) (by omega) (by omega) (by omega) (by omega)))) (zcons (zvi (i3A (show (1 : Int32) = i3 1 from rfl) (i3R (i3D (zm_rd (Z := Z11) (ν := ν) (k := 1) (show ((0 : Nat) : Int) = 0 from rfl) (show ((0 : Nat) : Int) = 0 from rfl) (show ((3 : Nat) : Int) = 3 from rfl)) (show (16 : Int32) = i3 16 from rfl) (by omega) (by omega) (by omega) (by omega)) (show (4 : Int32) = i3 4 from rfl) (by omega) (by omega) (by omega) (by omega)))) (zcons (zvi (i3A (show (1 : Int32) = i3 1 from rfl) (i3R (i3D (zm_rd (Z := Z18) (ν := ν) (k := 1) (show ((0 : Nat) : Int) = 0 from rfl) (show ((0 : Nat) : Int) = 0 from rfl) (show ((3 : Nat) : Int) = 3 from rfl)) (show (16 : Int32) = i3 16 from rfl) (by omega) (by omega) (by omega) (by omega)) (show (4 : Int32) = i3 4 from rfl) (by omega) (by omega) (by omega) (by omega)))) (zcons (zvi (i3A (i3M (show (10 : Int32) = i3 10 from rfl) (i3R (i3D (zm_rd (Z := Z25) (ν := ν) (k := 1) (show ((0 : Nat) : Int) = 0 from rfl) (show ((0 : Nat) : Int) = 0 from rfl) (show ((3 : Nat) : Int) = 3 from rfl)) (show (16 : Int32) = i3 16 from rfl) (by omega) (by omega) (by omega) (by omega)) (show (9 : Int32) = i3 9 from rfl) (by omega) (by omega) (by omega) (by omega))) (show (10 : Int32) = i3 10 from rfl))) (zcons (zvi (i3R (i3D (zm_rd (Z := Z32) (ν := ν) (k := 1) (show ((0 : Nat) : Int) = 0 from rfl) (show ((0 : Nat) : Int) = 0 from rfl) (show ((3 : Nat) : Int) = 3 from rfl)) (show (16 : Int32) = i3 16 from rfl) (by omega) (by omega) (by omega) (by omega)) (show (5 : Int32) = i3 5 from rfl) (by omega) (by omega) (by omega) (by omega))) rfl)))))) c9) ?_
      clear c9 hv39
      obtain ⟨m2, rfl⟩ : ∃ m2, m = m2 + 1 := ⟨m - 1, by omega⟩
      exact wz_k1 ⟨m2, by omega, Z40, (x2 + 1), (zconso rfl (zconso (zvo (rfl : i3 x1 = i3 x1)) (zconso (zvo (i3A (rfl : i3 x2 = i3 x2) (show (1 : Int32) = i3 1 from rfl))) (zconso rfl (zconso rfl (zconso rfl (zconso rfl (zconso rfl rfl)))))))), rfl, hZ40I, hZ40K, by omega, by omega, by omega, by omega, by omega, by omega,  hP⟩
  · replace hP := zE_n hP h1
    refine wz_br (i3Le (show (2 : Int32) = i3 2 from rfl) (rfl : i3 x2 = i3 x2) (by omega) (by omega) (by omega) (by omega)) (fun h41 => ?_) (fun h41 => ?_)
    · replace hP := zE_p hP h41
      exact hk _ _ _ (zconso rfl (zconso rfl (zconso rfl (zconso rfl (zconso rfl (zconso rfl (zconso rfl (zconso rfl rfl)))))))) hZ hK (by omega) (by omega) (by omega) (by omega) (by omega) (by omega) hP
    · replace hP := zE_n hP h41
      have r42 := zI_k hZ 1 0 0 3 (lo := 0) (hi := 65535) (by decide) rfl
      obtain ⟨Z43, hZ43⟩ := zx (zu Z 1 0 0 3 (((25173 * (Z 1 0 0 3)) + 13849) % 65536))
      replace hP := zl_e hP hZ43
      have hZ43I := zI_u hZ hZ43 (lo := 0) (hi := 65535) (by decide) rfl (by omega) ⟨by decide, by decide⟩ (Or.inr (by decide))
      have t44 : Z43 2 0 0 102 = Z 2 0 0 102 := zu_ne hZ43 (fun q => absurd q.1 (by decide))
      have t45 : Z43 2 0 0 3200 = Z 2 0 0 3200 := zu_ne hZ43 (fun q => absurd q.1 (by decide))
      have t46 : Z43 2 0 0 3500 = Z 2 0 0 3500 := zu_ne hZ43 (fun q => absurd q.1 (by decide))
      have t47 : Z43 2 0 0 3000 = Z 2 0 0 3000 := zu_ne hZ43 (fun q => absurd q.1 (by decide))
      have hZ43K := zK_u hK hZ43 (by decide)
      intro μ9 e9
      replace e9 := e9.trans (zm_wI (Z := Z) (ν := ν) hZ43 (show ((0 : Nat) : Int) = 0 from rfl) (show ((0 : Nat) : Int) = 0 from rfl) (show ((3 : Nat) : Int) = 3 from rfl) (i3R (i3A (i3M (show (25173 : Int32) = i3 25173 from rfl) (zm_rd (Z := Z) (ν := ν) (k := 1) (show ((0 : Nat) : Int) = 0 from rfl) (show ((0 : Nat) : Int) = 0 from rfl) (show ((3 : Nat) : Int) = 3 from rfl))) (show (13849 : Int32) = i3 13849 from rfl)) (show (65536 : Int32) = i3 65536 from rfl) (by omega) (by omega) (by omega) (by omega)))
      subst e9
      have r48 := zI_k hZ43I 1 0 0 3 (lo := 0) (hi := 65535) (by decide) rfl
      have q49 := zu_at hZ43
      obtain ⟨Z50, hZ50⟩ := zx (zu Z43 1 0 0 3 (((25173 * (Z43 1 0 0 3)) + 13849) % 65536))
      replace hP := zl_e hP hZ50
      have hZ50I := zI_u hZ43I hZ50 (lo := 0) (hi := 65535) (by decide) rfl (by omega) ⟨by decide, by decide⟩ (Or.inr (by decide))
      have t51 : Z50 2 0 0 102 = Z43 2 0 0 102 := zu_ne hZ50 (fun q => absurd q.1 (by decide))
      have t52 : Z50 2 0 0 3200 = Z43 2 0 0 3200 := zu_ne hZ50 (fun q => absurd q.1 (by decide))
      have t53 : Z50 2 0 0 3500 = Z43 2 0 0 3500 := zu_ne hZ50 (fun q => absurd q.1 (by decide))
      have t54 : Z50 2 0 0 3000 = Z43 2 0 0 3000 := zu_ne hZ50 (fun q => absurd q.1 (by decide))
      have hZ50K := zK_u hZ43K hZ50 (by decide)
      intro μ9 e9
      replace e9 := e9.trans (zm_wI (Z := Z43) (ν := ν) hZ50 (show ((0 : Nat) : Int) = 0 from rfl) (show ((0 : Nat) : Int) = 0 from rfl) (show ((3 : Nat) : Int) = 3 from rfl) (i3R (i3A (i3M (show (25173 : Int32) = i3 25173 from rfl) (zm_rd (Z := Z43) (ν := ν) (k := 1) (show ((0 : Nat) : Int) = 0 from rfl) (show ((0 : Nat) : Int) = 0 from rfl) (show ((3 : Nat) : Int) = 3 from rfl))) (show (13849 : Int32) = i3 13849 from rfl)) (show (65536 : Int32) = i3 65536 from rfl) (by omega) (by omega) (by omega) (by omega)))
      subst e9
      have r55 := zI_k hZ50I 1 0 0 3 (lo := 0) (hi := 65535) (by decide) rfl
      have q56 := zu_at hZ50
      obtain ⟨Z57, hZ57⟩ := zx (zu Z50 1 0 0 3 (((25173 * (Z50 1 0 0 3)) + 13849) % 65536))
      replace hP := zl_e hP hZ57
      have hZ57I := zI_u hZ50I hZ57 (lo := 0) (hi := 65535) (by decide) rfl (by omega) ⟨by decide, by decide⟩ (Or.inr (by decide))
      have t58 : Z57 2 0 0 102 = Z50 2 0 0 102 := zu_ne hZ57 (fun q => absurd q.1 (by decide))
      have t59 : Z57 2 0 0 3200 = Z50 2 0 0 3200 := zu_ne hZ57 (fun q => absurd q.1 (by decide))
      have t60 : Z57 2 0 0 3500 = Z50 2 0 0 3500 := zu_ne hZ57 (fun q => absurd q.1 (by decide))
      have t61 : Z57 2 0 0 3000 = Z50 2 0 0 3000 := zu_ne hZ57 (fun q => absurd q.1 (by decide))
      have hZ57K := zK_u hZ50K hZ57 (by decide)
      intro μ9 e9
      replace e9 := e9.trans (zm_wI (Z := Z50) (ν := ν) hZ57 (show ((0 : Nat) : Int) = 0 from rfl) (show ((0 : Nat) : Int) = 0 from rfl) (show ((3 : Nat) : Int) = 3 from rfl) (i3R (i3A (i3M (show (25173 : Int32) = i3 25173 from rfl) (zm_rd (Z := Z50) (ν := ν) (k := 1) (show ((0 : Nat) : Int) = 0 from rfl) (show ((0 : Nat) : Int) = 0 from rfl) (show ((3 : Nat) : Int) = 3 from rfl))) (show (13849 : Int32) = i3 13849 from rfl)) (show (65536 : Int32) = i3 65536 from rfl) (by omega) (by omega) (by omega) (by omega)))
      subst e9
      have r62 := zI_k hZ57I 1 0 0 3 (lo := 0) (hi := 65535) (by decide) rfl
      have q63 := zu_at hZ57
      obtain ⟨Z64, hZ64⟩ := zx (zu Z57 1 0 0 3 (((25173 * (Z57 1 0 0 3)) + 13849) % 65536))
      replace hP := zl_e hP hZ64
      have hZ64I := zI_u hZ57I hZ64 (lo := 0) (hi := 65535) (by decide) rfl (by omega) ⟨by decide, by decide⟩ (Or.inr (by decide))
      have t65 : Z64 2 0 0 102 = Z57 2 0 0 102 := zu_ne hZ64 (fun q => absurd q.1 (by decide))
      have t66 : Z64 2 0 0 3200 = Z57 2 0 0 3200 := zu_ne hZ64 (fun q => absurd q.1 (by decide))
      have t67 : Z64 2 0 0 3500 = Z57 2 0 0 3500 := zu_ne hZ64 (fun q => absurd q.1 (by decide))
      have t68 : Z64 2 0 0 3000 = Z57 2 0 0 3000 := zu_ne hZ64 (fun q => absurd q.1 (by decide))
      have hZ64K := zK_u hZ57K hZ64 (by decide)
      intro μ9 e9
      replace e9 := e9.trans (zm_wI (Z := Z57) (ν := ν) hZ64 (show ((0 : Nat) : Int) = 0 from rfl) (show ((0 : Nat) : Int) = 0 from rfl) (show ((3 : Nat) : Int) = 3 from rfl) (i3R (i3A (i3M (show (25173 : Int32) = i3 25173 from rfl) (zm_rd (Z := Z57) (ν := ν) (k := 1) (show ((0 : Nat) : Int) = 0 from rfl) (show ((0 : Nat) : Int) = 0 from rfl) (show ((3 : Nat) : Int) = 3 from rfl))) (show (13849 : Int32) = i3 13849 from rfl)) (show (65536 : Int32) = i3 65536 from rfl) (by omega) (by omega) (by omega) (by omega)))
      subst e9
      have r69 := zI_k hZ64I 1 0 0 3 (lo := 0) (hi := 65535) (by decide) rfl
      have q70 := zu_at hZ64
      obtain ⟨Z71, hZ71⟩ := zx (zu Z64 1 0 0 3 (((25173 * (Z64 1 0 0 3)) + 13849) % 65536))
      replace hP := zl_e hP hZ71
      have hZ71I := zI_u hZ64I hZ71 (lo := 0) (hi := 65535) (by decide) rfl (by omega) ⟨by decide, by decide⟩ (Or.inr (by decide))
      have t72 : Z71 2 0 0 102 = Z64 2 0 0 102 := zu_ne hZ71 (fun q => absurd q.1 (by decide))
      have t73 : Z71 2 0 0 3200 = Z64 2 0 0 3200 := zu_ne hZ71 (fun q => absurd q.1 (by decide))
      have t74 : Z71 2 0 0 3500 = Z64 2 0 0 3500 := zu_ne hZ71 (fun q => absurd q.1 (by decide))
      have t75 : Z71 2 0 0 3000 = Z64 2 0 0 3000 := zu_ne hZ71 (fun q => absurd q.1 (by decide))
      have hZ71K := zK_u hZ64K hZ71 (by decide)
      intro μ9 e9
      replace e9 := e9.trans (zm_wI (Z := Z64) (ν := ν) hZ71 (show ((0 : Nat) : Int) = 0 from rfl) (show ((0 : Nat) : Int) = 0 from rfl) (show ((3 : Nat) : Int) = 3 from rfl) (i3R (i3A (i3M (show (25173 : Int32) = i3 25173 from rfl) (zm_rd (Z := Z64) (ν := ν) (k := 1) (show ((0 : Nat) : Int) = 0 from rfl) (show ((0 : Nat) : Int) = 0 from rfl) (show ((3 : Nat) : Int) = 3 from rfl))) (show (13849 : Int32) = i3 13849 from rfl)) (show (65536 : Int32) = i3 65536 from rfl) (by omega) (by omega) (by omega) (by omega)))
      subst e9
      have r76 := zI_k hZ71I 1 0 0 3 (lo := 0) (hi := 65535) (by decide) rfl
      have q77 := zu_at hZ71
      obtain ⟨Z79, v78, hv78, c9, hZ79I, kZ79, lv78, uv78, wv780, wv781, wv782, wv783⟩ := sp_297 (ν := ν) hZ71I (a1 := (4 + (((Z43 1 0 0 3) / 16) % 4))) (by omega) (a2 := (1 + (((Z50 1 0 0 3) / 16) % 4))) (by omega) (a3 := (1 + (((Z57 1 0 0 3) / 16) % 4))) (by omega) (a4 := ((10 * (((Z64 1 0 0 3) / 16) % 9)) + 10)) (by omega) (a5 := (((Z71 1 0 0 3) / 16) % 5)) (by omega) (by omega)
      have hZ79K : zK [1, 2] Zs Z79 := zK_t hZ71K kZ79 (by decide)
      replace hP := zl_e2 hP hv78
      refine wz_cI_of (zas (zcons rfl (zcons (zvi (i3A (show (4 : Int32) = i3 4 from rfl) (i3R (i3D (zm_rd (Z := Z43) (ν := ν) (k := 1) (show ((0 : Nat) : Int) = 0 from rfl) (show ((0 : Nat) : Int) = 0 from rfl) (show ((3 : Nat) : Int) = 3 from rfl)) (show (16 : Int32) = i3 16 from rfl) (by omega) (by omega) (by omega) (by omega)) (show (4 : Int32) = i3 4 from rfl) (by omega) (by omega) (by omega) (by omega)))) (zcons (zvi (i3A (show (1 : Int32) = i3 1 from rfl) (i3R (i3D (zm_rd (Z := Z50) (ν := ν) (k := 1) (show ((0 : Nat) : Int) = 0 from rfl) (show ((0 : Nat) : Int) = 0 from rfl) (show ((3 : Nat) : Int) = 3 from rfl)) (show (16 : Int32) = i3 16 from rfl) (by omega) (by omega) (by omega) (by omega)) (show (4 : Int32) = i3 4 from rfl) (by omega) (by omega) (by omega) (by omega)))) (zcons (zvi (i3A (show (1 : Int32) = i3 1 from rfl) (i3R (i3D (zm_rd (Z := Z57) (ν := ν) (k := 1) (show ((0 : Nat) : Int) = 0 from rfl) (show ((0 : Nat) : Int) = 0 from rfl) (show ((3 : Nat) : Int) = 3 from rfl)) (show (16 : Int32) = i3 16 from rfl) (by omega) (by omega) (by omega) (by omega)) (show (4 : Int32) = i3 4 from rfl) (by omega) (by omega) (by omega) (by omega)))) (zcons (zvi (i3A (i3M (show (10 : Int32) = i3 10 from rfl) (i3R (i3D (zm_rd (Z := Z64) (ν := ν) (k := 1) (show ((0 : Nat) : Int) = 0 from rfl) (show ((0 : Nat) : Int) = 0 from rfl) (show ((3 : Nat) : Int) = 3 from rfl)) (show (16 : Int32) = i3 16 from rfl) (by omega) (by omega) (by omega) (by omega)) (show (9 : Int32) = i3 9 from rfl) (by omega) (by omega) (by omega) (by omega))) (show (10 : Int32) = i3 10 from rfl))) (zcons (zvi (i3R (i3D (zm_rd (Z := Z71) (ν := ν) (k := 1) (show ((0 : Nat) : Int) = 0 from rfl) (show ((0 : Nat) : Int) = 0 from rfl) (show ((3 : Nat) : Int) = 3 from rfl)) (show (16 : Int32) = i3 16 from rfl) (by omega) (by omega) (by omega) (by omega)) (show (5 : Int32) = i3 5 from rfl) (by omega) (by omega) (by omega) (by omega))) rfl)))))) c9) ?_
      clear c9 hv78
      obtain ⟨m2, rfl⟩ : ∃ m2, m = m2 + 1 := ⟨m - 1, by omega⟩
      exact wz_k1 ⟨m2, by omega, Z79, (x2 + 1), (zconso rfl (zconso (zvo (rfl : i3 x1 = i3 x1)) (zconso (zvo (i3A (rfl : i3 x2 = i3 x2) (show (1 : Int32) = i3 1 from rfl))) (zconso rfl (zconso rfl (zconso rfl (zconso rfl (zconso rfl rfl)))))))), rfl, hZ79I, hZ79K, by omega, by omega, by omega, by omega, by omega, by omega,  hP⟩

/- yX12_cSeason -/
def zl_308_2q : Nat → qz_Z → Int → qz_Z × Int
  | 0, Z, x2 => (Z, x2)
  | m + 1, Z, x2 => (if (Z 2 0 0 102) ≤ x2 then (Z, x2) else (if (Z 2 0 0 (209 + 20 * x2)) = (-1) then zl_308_2q m Z (x2 + 1) else (zlet (zu Z 1 0 0 3 (((25173 * (Z 1 0 0 3)) + 13849) % 65536)) (fun Z6 => (zlet (zu Z6 1 0 0 3 (((25173 * (Z6 1 0 0 3)) + 13849) % 65536)) (fun Z14 => (zlet (zu Z14 1 0 0 3 (((25173 * (Z14 1 0 0 3)) + 13849) % 65536)) (fun Z22 => (if 1 ≤ ((200 + (50 * (((Z14 1 0 0 3) / 16) % 40))) - ((Z14 2 0 0 (3013 + 60 * (((Z6 1 0 0 3) / 16) % (Z 2 0 0 3000)))) * (((Z22 1 0 0 3) / 16) % 60))) then (zlet2 (zf_459q Z22 (((Z6 1 0 0 3) / 16) % (Z 2 0 0 3000)) x2 (200 + (50 * (((Z14 1 0 0 3) / 16) % 40))) ((200 + (50 * (((Z14 1 0 0 3) / 16) % 40))) - ((Z14 2 0 0 (3013 + 60 * (((Z6 1 0 0 3) / 16) % (Z 2 0 0 3000)))) * (((Z22 1 0 0 3) / 16) % 60)))) (fun Z33 v32 => zl_308_2q m Z33 (x2 + 1))) else (zlet2 (zf_459q Z22 (((Z6 1 0 0 3) / 16) % (Z 2 0 0 3000)) x2 (200 + (50 * (((Z14 1 0 0 3) / 16) % 40))) 1) (fun Z35 v34 => zl_308_2q m Z35 (x2 + 1))))))))))))
theorem sl_308_2q {Zs Z : qz_Z} {ν : qz_N} (hZ : zI (some none) Z) (hK : zK [1, 2] Zs Z) {x2 : Int} (gx2 : 0 ≤ x2 ∧ x2 ≤ 48) {kc0 : Int} {kc1 : Int} {kc2 : Int} {kc3 : Int} (gr0 : 1 ≤ Z 2 0 0 3000) (gr1 : Z 2 0 0 102 = kc0) (gr2 : Z 2 0 0 3000 = kc1) (gr3 : Z 2 0 0 3200 = kc2) (gr4 : Z 2 0 0 3500 = kc3) {k : wz_K} {R : wz_R} {L : qz_L} (hL : qz_fg [true, false, true, false, false, false, false, false] L = [some (.inr (.inr (some (1, 0, 0)))), none, some (.inl (i3 x2)), none, none, none, none, none]) {T : qz_Z × Int} (hP : zE T (zl_308_2q ((48 - x2).toNat + 1) Z x2)) (hk : ∀ (L9 : qz_L) (Z9 : qz_Z) (yx2 : Int), qz_fg [false, false, false, false, false, false, false, false] L9 = [none, none, none, none, none, none, none, none] → zI (some none) Z9 → zK [1, 2] Zs Z9 → (0 ≤ yx2 ∧ yx2 ≤ 48) → (1 ≤ Z9 2 0 0 3000) → (Z9 2 0 0 102 = kc0) → (Z9 2 0 0 3000 = kc1) → (Z9 2 0 0 3200 = kc2) → (Z9 2 0 0 3500 = kc3) → zE T ((Z9, yx2)) → k 0 (L9, [], zm Z9 ν)) : wz_loop qb_308_2 65536 k R (L, [], zm Z ν) := by
  refine wz_lp sb_308_2 (fun m x => ∃ Z : qz_Z, ∃ x2 : Int, qz_fg [true, false, true, false, false, false, false, false] x.1 = [some (.inr (.inr (some (1, 0, 0)))), none, some (.inl (i3 x2)), none, none, none, none, none] ∧ x.2 = ([], zm Z ν) ∧ zI (some none) Z ∧ zK [1, 2] Zs Z ∧ m = (48 - x2).toNat ∧ (0 ≤ x2 ∧ x2 ≤ 48) ∧ (1 ≤ Z 2 0 0 3000) ∧ (Z 2 0 0 102 = kc0) ∧ (Z 2 0 0 3000 = kc1) ∧ (Z 2 0 0 3200 = kc2) ∧ (Z 2 0 0 3500 = kc3) ∧ zE T (zl_308_2q (m + 1) Z x2)) ?_ 65536 ((48 - x2).toNat) _ (by omega) ⟨Z, x2, hL, rfl, hZ, hK, rfl, gx2, gr0, gr1, gr2, gr3, gr4, hP⟩
  clear hP gr0 gr1 gr2 gr3 gr4 gx2 hZ hK hL
  clear x2
  clear Z
  rintro m ⟨L, st, μ⟩ ⟨Z, x2, hL, hx, hZ, hK, hm, gx2, gr0, gr1, gr2, gr3, gr4, hP⟩
  cases hx
  refine fb_308_2 (i3 x2) _ _ _ _ hL ?_
  have r1 := zI_k hZ 2 0 0 102 (lo := 0) (hi := 48) (by decide) rfl
  refine wz_br (i3Le (zm_rd (Z := Z) (ν := ν) (k := 2) (show ((0 : Nat) : Int) = 0 from rfl) (show ((0 : Nat) : Int) = 0 from rfl) (show ((102 : Nat) : Int) = 102 from rfl)) (rfl : i3 x2 = i3 x2) (by omega) (by omega) (by omega) (by omega)) (fun h2 => ?_) (fun h2 => ?_)
  · replace hP := zE_p hP h2
    exact hk _ _ _ (zconso rfl (zconso rfl (zconso rfl (zconso rfl (zconso rfl (zconso rfl (zconso rfl (zconso rfl rfl)))))))) hZ hK (by omega) (by omega) (by omega) (by omega) (by omega) (by omega) hP
  · replace hP := zE_n hP h2
    refine wz_i0 (i3O (n := 4400) (i3A (i3A (show (200 : Int32) = i3 200 from rfl) (i3M (show (20 : Int32) = i3 20 from rfl) (rfl : i3 x2 = i3 x2))) (show (9 : Int32) = i3 9 from rfl)) (by omega) (by omega) (by omega)) ?_
    have r3 := zI_k hZ 2 0 0 (209 + 20 * x2) (lo := -1) (hi := 3) (by decide) (zs_200_9 (x := x2) (by omega) (by omega) (by omega))
    refine wz_br (i3E (zm_rd (Z := Z) (ν := ν) (k := 2) (show ((0 : Nat) : Int) = 0 from rfl) (show ((0 : Nat) : Int) = 0 from rfl) (i3I (y := (209 + 20 * x2)) (i3A (i3A (show (200 : Int32) = i3 200 from rfl) (i3M (show (20 : Int32) = i3 20 from rfl) (rfl : i3 x2 = i3 x2))) (show (9 : Int32) = i3 9 from rfl)) (by omega) (by omega) (by omega))) (show (-1 : Int32) = i3 (-1) from rfl) (by omega) (by omega) (by omega) (by omega)) (fun h4 => ?_) (fun h4 => ?_)
    · replace hP := zE_p hP h4
      obtain ⟨m2, rfl⟩ : ∃ m2, m = m2 + 1 := ⟨m - 1, by omega⟩
      exact wz_k1 ⟨m2, by omega, Z, (x2 + 1), (zconso rfl (zconso rfl (zconso (zvo (i3A (rfl : i3 x2 = i3 x2) (show (1 : Int32) = i3 1 from rfl))) (zconso rfl (zconso rfl (zconso rfl (zconso rfl (zconso rfl rfl)))))))), rfl, hZ, hK, by omega, by omega, by omega, by omega, by omega, by omega, by omega,  hP⟩
    · replace hP := zE_n hP h4
      have r5 := zI_k hZ 1 0 0 3 (lo := 0) (hi := 65535) (by decide) rfl
      obtain ⟨Z6, hZ6⟩ := zx (zu Z 1 0 0 3 (((25173 * (Z 1 0 0 3)) + 13849) % 65536))
      replace hP := zl_e hP hZ6
      have hZ6I := zI_u hZ hZ6 (lo := 0) (hi := 65535) (by decide) rfl (by omega) ⟨by decide, by decide⟩ (Or.inr (by decide))
      have t7 : Z6 2 0 0 102 = Z 2 0 0 102 := zu_ne hZ6 (fun q => absurd q.1 (by decide))
      have t8 : Z6 2 0 0 3000 = Z 2 0 0 3000 := zu_ne hZ6 (fun q => absurd q.1 (by decide))
      have t9 : Z6 2 0 0 3200 = Z 2 0 0 3200 := zu_ne hZ6 (fun q => absurd q.1 (by decide))
      have t10 : Z6 2 0 0 3500 = Z 2 0 0 3500 := zu_ne hZ6 (fun q => absurd q.1 (by decide))
      have hZ6K := zK_u hK hZ6 (by decide)
      intro μ9 e9
      replace e9 := e9.trans (zm_wI (Z := Z) (ν := ν) hZ6 (show ((0 : Nat) : Int) = 0 from rfl) (show ((0 : Nat) : Int) = 0 from rfl) (show ((3 : Nat) : Int) = 3 from rfl) (i3R (i3A (i3M (show (25173 : Int32) = i3 25173 from rfl) (zm_rd (Z := Z) (ν := ν) (k := 1) (show ((0 : Nat) : Int) = 0 from rfl) (show ((0 : Nat) : Int) = 0 from rfl) (show ((3 : Nat) : Int) = 3 from rfl))) (show (13849 : Int32) = i3 13849 from rfl)) (show (65536 : Int32) = i3 65536 from rfl) (by omega) (by omega) (by omega) (by omega)))
      subst e9
      have r11 := zI_k hZ 2 0 0 3000 (lo := 0) (hi := 2) (by decide) rfl
      refine wz_i0 (i3N0 (zm_rd (Z := Z) (ν := ν) (k := 2) (show ((0 : Nat) : Int) = 0 from rfl) (show ((0 : Nat) : Int) = 0 from rfl) (show ((3000 : Nat) : Int) = 3000 from rfl)) (by omega) (by omega) (by omega)) ?_
      have r12 := zI_k hZ6I 1 0 0 3 (lo := 0) (hi := 65535) (by decide) rfl
      have q13 := zu_at hZ6
      obtain ⟨Z14, hZ14⟩ := zx (zu Z6 1 0 0 3 (((25173 * (Z6 1 0 0 3)) + 13849) % 65536))
      replace hP := zl_e hP hZ14
      have hZ14I := zI_u hZ6I hZ14 (lo := 0) (hi := 65535) (by decide) rfl (by omega) ⟨by decide, by decide⟩ (Or.inr (by decide))
      have t15 : Z14 2 0 0 102 = Z6 2 0 0 102 := zu_ne hZ14 (fun q => absurd q.1 (by decide))
      have t16 : Z14 2 0 0 3000 = Z6 2 0 0 3000 := zu_ne hZ14 (fun q => absurd q.1 (by decide))
      have t17 : Z14 2 0 0 3200 = Z6 2 0 0 3200 := zu_ne hZ14 (fun q => absurd q.1 (by decide))
      have t18 : Z14 2 0 0 3500 = Z6 2 0 0 3500 := zu_ne hZ14 (fun q => absurd q.1 (by decide))
      have hZ14K := zK_u hZ6K hZ14 (by decide)
      intro μ9 e9
      replace e9 := e9.trans (zm_wI (Z := Z6) (ν := ν) hZ14 (show ((0 : Nat) : Int) = 0 from rfl) (show ((0 : Nat) : Int) = 0 from rfl) (show ((3 : Nat) : Int) = 3 from rfl) (i3R (i3A (i3M (show (25173 : Int32) = i3 25173 from rfl) (zm_rd (Z := Z6) (ν := ν) (k := 1) (show ((0 : Nat) : Int) = 0 from rfl) (show ((0 : Nat) : Int) = 0 from rfl) (show ((3 : Nat) : Int) = 3 from rfl))) (show (13849 : Int32) = i3 13849 from rfl)) (show (65536 : Int32) = i3 65536 from rfl) (by omega) (by omega) (by omega) (by omega)))
      subst e9
      have r19 := z_mod ((Z6 1 0 0 3) / 16) (y := (Z 2 0 0 3000)) (by omega)
      refine wz_i0 (i3O (n := 4400) (i3A (i3A (show (3010 : Int32) = i3 3010 from rfl) (i3M (show (60 : Int32) = i3 60 from rfl) (i3R (i3D (zm_rd (Z := Z6) (ν := ν) (k := 1) (show ((0 : Nat) : Int) = 0 from rfl) (show ((0 : Nat) : Int) = 0 from rfl) (show ((3 : Nat) : Int) = 3 from rfl)) (show (16 : Int32) = i3 16 from rfl) (by omega) (by omega) (by omega) (by omega)) (zm_rd (Z := Z) (ν := ν) (k := 2) (show ((0 : Nat) : Int) = 0 from rfl) (show ((0 : Nat) : Int) = 0 from rfl) (show ((3000 : Nat) : Int) = 3000 from rfl)) (by omega) (by omega) (by omega) (by omega)))) (show (3 : Int32) = i3 3 from rfl)) (by omega) (by omega) (by omega)) ?_
      have r20 := zI_k hZ14I 1 0 0 3 (lo := 0) (hi := 65535) (by decide) rfl
      have q21 := zu_at hZ14
      obtain ⟨Z22, hZ22⟩ := zx (zu Z14 1 0 0 3 (((25173 * (Z14 1 0 0 3)) + 13849) % 65536))
      replace hP := zl_e hP hZ22
      have hZ22I := zI_u hZ14I hZ22 (lo := 0) (hi := 65535) (by decide) rfl (by omega) ⟨by decide, by decide⟩ (Or.inr (by decide))
      have t23 : Z22 2 0 0 102 = Z14 2 0 0 102 := zu_ne hZ22 (fun q => absurd q.1 (by decide))
      have t24 : Z22 2 0 0 3000 = Z14 2 0 0 3000 := zu_ne hZ22 (fun q => absurd q.1 (by decide))
      have t25 : Z22 2 0 0 3200 = Z14 2 0 0 3200 := zu_ne hZ22 (fun q => absurd q.1 (by decide))
      have t26 : Z22 2 0 0 3500 = Z14 2 0 0 3500 := zu_ne hZ22 (fun q => absurd q.1 (by decide))
      have hZ22K := zK_u hZ14K hZ22 (by decide)
      intro μ9 e9
      replace e9 := e9.trans (zm_wI (Z := Z14) (ν := ν) hZ22 (show ((0 : Nat) : Int) = 0 from rfl) (show ((0 : Nat) : Int) = 0 from rfl) (show ((3 : Nat) : Int) = 3 from rfl) (i3R (i3A (i3M (show (25173 : Int32) = i3 25173 from rfl) (zm_rd (Z := Z14) (ν := ν) (k := 1) (show ((0 : Nat) : Int) = 0 from rfl) (show ((0 : Nat) : Int) = 0 from rfl) (show ((3 : Nat) : Int) = 3 from rfl))) (show (13849 : Int32) = i3 13849 from rfl)) (show (65536 : Int32) = i3 65536 from rfl) (by omega) (by omega) (by omega) (by omega)))
      subst e9
      have r27 := zI_k hZ14I 2 0 0 (3013 + 60 * (((Z6 1 0 0 3) / 16) % (Z 2 0 0 3000))) (lo := 0) (hi := 500) (by decide) (zs_3010_3 (x := ((((Z6 1 0 0 3) / 16) % (Z 2 0 0 3000)) + 0)) (by omega) (by omega) (by omega))
      have r28 := zI_k hZ22I 1 0 0 3 (lo := 0) (hi := 65535) (by decide) rfl
      have q29 := zu_at hZ22
      have r30 := z_mul (x := (Z14 2 0 0 (3013 + 60 * (((Z6 1 0 0 3) / 16) % (Z 2 0 0 3000))))) (y := (((Z22 1 0 0 3) / 16) % 60)) (a := 500) (b := 59) (by omega) (by omega) (by omega) (by omega)
      refine wz_br (i3Le (show (1 : Int32) = i3 1 from rfl) (i3S (i3A (show (200 : Int32) = i3 200 from rfl) (i3M (show (50 : Int32) = i3 50 from rfl) (i3R (i3D (zm_rd (Z := Z14) (ν := ν) (k := 1) (show ((0 : Nat) : Int) = 0 from rfl) (show ((0 : Nat) : Int) = 0 from rfl) (show ((3 : Nat) : Int) = 3 from rfl)) (show (16 : Int32) = i3 16 from rfl) (by omega) (by omega) (by omega) (by omega)) (show (40 : Int32) = i3 40 from rfl) (by omega) (by omega) (by omega) (by omega)))) (i3M (zm_rd (Z := Z14) (ν := ν) (k := 2) (show ((0 : Nat) : Int) = 0 from rfl) (show ((0 : Nat) : Int) = 0 from rfl) (i3I (y := (3013 + 60 * (((Z6 1 0 0 3) / 16) % (Z 2 0 0 3000)))) (i3A (i3A (show (3010 : Int32) = i3 3010 from rfl) (i3M (show (60 : Int32) = i3 60 from rfl) (i3R (i3D (zm_rd (Z := Z6) (ν := ν) (k := 1) (show ((0 : Nat) : Int) = 0 from rfl) (show ((0 : Nat) : Int) = 0 from rfl) (show ((3 : Nat) : Int) = 3 from rfl)) (show (16 : Int32) = i3 16 from rfl) (by omega) (by omega) (by omega) (by omega)) (zm_rd (Z := Z) (ν := ν) (k := 2) (show ((0 : Nat) : Int) = 0 from rfl) (show ((0 : Nat) : Int) = 0 from rfl) (show ((3000 : Nat) : Int) = 3000 from rfl)) (by omega) (by omega) (by omega) (by omega)))) (show (3 : Int32) = i3 3 from rfl)) (by omega) (by omega) (by omega))) (i3R (i3D (zm_rd (Z := Z22) (ν := ν) (k := 1) (show ((0 : Nat) : Int) = 0 from rfl) (show ((0 : Nat) : Int) = 0 from rfl) (show ((3 : Nat) : Int) = 3 from rfl)) (show (16 : Int32) = i3 16 from rfl) (by omega) (by omega) (by omega) (by omega)) (show (60 : Int32) = i3 60 from rfl) (by omega) (by omega) (by omega) (by omega)))) (by omega) (by omega) (by omega) (by omega)) (fun h31 => ?_) (fun h31 => ?_)
      · replace hP := zE_p hP h31
        obtain ⟨Z33, v32, hv32, c9, hZ33I, kZ33, lv32, uv32, wv320, wv321, wv322, wv323⟩ := sp_459q (ν := ν) hZ22I (a1 := (((Z6 1 0 0 3) / 16) % (Z 2 0 0 3000))) (by omega) (a2 := x2) (by omega) (a3 := (200 + (50 * (((Z14 1 0 0 3) / 16) % 40)))) (by omega) (a4 := ((200 + (50 * (((Z14 1 0 0 3) / 16) % 40))) - ((Z14 2 0 0 (3013 + 60 * (((Z6 1 0 0 3) / 16) % (Z 2 0 0 3000)))) * (((Z22 1 0 0 3) / 16) % 60)))) (by omega)
        have hZ33K : zK [1, 2] Zs Z33 := zK_t hZ22K kZ33 (by decide)
        replace hP := zl_e2 hP hv32
        refine wz_cI_of (zas (zcons rfl (zcons (zvi (i3R (i3D (zm_rd (Z := Z6) (ν := ν) (k := 1) (show ((0 : Nat) : Int) = 0 from rfl) (show ((0 : Nat) : Int) = 0 from rfl) (show ((3 : Nat) : Int) = 3 from rfl)) (show (16 : Int32) = i3 16 from rfl) (by omega) (by omega) (by omega) (by omega)) (zm_rd (Z := Z) (ν := ν) (k := 2) (show ((0 : Nat) : Int) = 0 from rfl) (show ((0 : Nat) : Int) = 0 from rfl) (show ((3000 : Nat) : Int) = 3000 from rfl)) (by omega) (by omega) (by omega) (by omega))) (zcons (zvi (rfl : i3 x2 = i3 x2)) (zcons (zvi (i3A (show (200 : Int32) = i3 200 from rfl) (i3M (show (50 : Int32) = i3 50 from rfl) (i3R (i3D (zm_rd (Z := Z14) (ν := ν) (k := 1) (show ((0 : Nat) : Int) = 0 from rfl) (show ((0 : Nat) : Int) = 0 from rfl) (show ((3 : Nat) : Int) = 3 from rfl)) (show (16 : Int32) = i3 16 from rfl) (by omega) (by omega) (by omega) (by omega)) (show (40 : Int32) = i3 40 from rfl) (by omega) (by omega) (by omega) (by omega))))) (zcons (zvi (i3S (i3A (show (200 : Int32) = i3 200 from rfl) (i3M (show (50 : Int32) = i3 50 from rfl) (i3R (i3D (zm_rd (Z := Z14) (ν := ν) (k := 1) (show ((0 : Nat) : Int) = 0 from rfl) (show ((0 : Nat) : Int) = 0 from rfl) (show ((3 : Nat) : Int) = 3 from rfl)) (show (16 : Int32) = i3 16 from rfl) (by omega) (by omega) (by omega) (by omega)) (show (40 : Int32) = i3 40 from rfl) (by omega) (by omega) (by omega) (by omega)))) (i3M (zm_rd (Z := Z14) (ν := ν) (k := 2) (show ((0 : Nat) : Int) = 0 from rfl) (show ((0 : Nat) : Int) = 0 from rfl) (i3I (y := (3013 + 60 * (((Z6 1 0 0 3) / 16) % (Z 2 0 0 3000)))) (i3A (i3A (show (3010 : Int32) = i3 3010 from rfl) (i3M (show (60 : Int32) = i3 60 from rfl) (i3R (i3D (zm_rd (Z := Z6) (ν := ν) (k := 1) (show ((0 : Nat) : Int) = 0 from rfl) (show ((0 : Nat) : Int) = 0 from rfl) (show ((3 : Nat) : Int) = 3 from rfl)) (show (16 : Int32) = i3 16 from rfl) (by omega) (by omega) (by omega) (by omega)) (zm_rd (Z := Z) (ν := ν) (k := 2) (show ((0 : Nat) : Int) = 0 from rfl) (show ((0 : Nat) : Int) = 0 from rfl) (show ((3000 : Nat) : Int) = 3000 from rfl)) (by omega) (by omega) (by omega) (by omega)))) (show (3 : Int32) = i3 3 from rfl)) (by omega) (by omega) (by omega))) (i3R (i3D (zm_rd (Z := Z22) (ν := ν) (k := 1) (show ((0 : Nat) : Int) = 0 from rfl) (show ((0 : Nat) : Int) = 0 from rfl) (show ((3 : Nat) : Int) = 3 from rfl)) (show (16 : Int32) = i3 16 from rfl) (by omega) (by omega) (by omega) (by omega)) (show (60 : Int32) = i3 60 from rfl) (by omega) (by omega) (by omega) (by omega))))) rfl))))) c9) ?_
        clear c9 hv32
        obtain ⟨m2, rfl⟩ : ∃ m2, m = m2 + 1 := ⟨m - 1, by omega⟩
        exact wz_k1 ⟨m2, by omega, Z33, (x2 + 1), (zconso rfl (zconso rfl (zconso (zvo (i3A (rfl : i3 x2 = i3 x2) (show (1 : Int32) = i3 1 from rfl))) (zconso rfl (zconso rfl (zconso rfl (zconso rfl (zconso rfl rfl)))))))), rfl, hZ33I, hZ33K, by omega, by omega, by omega, by omega, by omega, by omega, by omega,  hP⟩
      · replace hP := zE_n hP h31
        obtain ⟨Z35, v34, hv34, c9, hZ35I, kZ35, lv34, uv34, wv340, wv341, wv342, wv343⟩ := sp_459q (ν := ν) hZ22I (a1 := (((Z6 1 0 0 3) / 16) % (Z 2 0 0 3000))) (by omega) (a2 := x2) (by omega) (a3 := (200 + (50 * (((Z14 1 0 0 3) / 16) % 40)))) (by omega) (a4 := 1) (by omega)
        have hZ35K : zK [1, 2] Zs Z35 := zK_t hZ22K kZ35 (by decide)
        replace hP := zl_e2 hP hv34
        refine wz_cI_of (zas (zcons rfl (zcons (zvi (i3R (i3D (zm_rd (Z := Z6) (ν := ν) (k := 1) (show ((0 : Nat) : Int) = 0 from rfl) (show ((0 : Nat) : Int) = 0 from rfl) (show ((3 : Nat) : Int) = 3 from rfl)) (show (16 : Int32) = i3 16 from rfl) (by omega) (by omega) (by omega) (by omega)) (zm_rd (Z := Z) (ν := ν) (k := 2) (show ((0 : Nat) : Int) = 0 from rfl) (show ((0 : Nat) : Int) = 0 from rfl) (show ((3000 : Nat) : Int) = 3000 from rfl)) (by omega) (by omega) (by omega) (by omega))) (zcons (zvi (rfl : i3 x2 = i3 x2)) (zcons (zvi (i3A (show (200 : Int32) = i3 200 from rfl) (i3M (show (50 : Int32) = i3 50 from rfl) (i3R (i3D (zm_rd (Z := Z14) (ν := ν) (k := 1) (show ((0 : Nat) : Int) = 0 from rfl) (show ((0 : Nat) : Int) = 0 from rfl) (show ((3 : Nat) : Int) = 3 from rfl)) (show (16 : Int32) = i3 16 from rfl) (by omega) (by omega) (by omega) (by omega)) (show (40 : Int32) = i3 40 from rfl) (by omega) (by omega) (by omega) (by omega))))) (zcons (zvi (show (1 : Int32) = i3 1 from rfl)) rfl))))) c9) ?_
        clear c9 hv34
        obtain ⟨m2, rfl⟩ : ∃ m2, m = m2 + 1 := ⟨m - 1, by omega⟩
        exact wz_k1 ⟨m2, by omega, Z35, (x2 + 1), (zconso rfl (zconso rfl (zconso (zvo (i3A (rfl : i3 x2 = i3 x2) (show (1 : Int32) = i3 1 from rfl))) (zconso rfl (zconso rfl (zconso rfl (zconso rfl (zconso rfl rfl)))))))), rfl, hZ35I, hZ35K, by omega, by omega, by omega, by omega, by omega, by omega, by omega,  hP⟩

/- yX12_cSeason -/
def zf_308q (Z : qz_Z) (a1 : Int) : qz_Z := (zlet2 (zl_308_1q a1 3 Z 0) (fun Z2 y1 => (zlet2 (zl_308_2q 49 Z2 0) (fun Z5 y4 => Z5))))
theorem sp_308q {Z : qz_Z} {ν : qz_N} (hZ : zI (some none) Z) {a1 : Int} (ga1 : 1 ≤ a1 ∧ a1 ≤ 12) (gx0 : Z 2 0 0 3000 = 0) : ∃ P : qz_Z, P = zf_308q Z a1 ∧ (qf_308 [.inr (.inr (some (1, 0, 0))), .inl (i3 a1)] (zm Z ν) = some (zm P ν, .inl none) ∧ zI (some none) P ∧ zK [1, 2] Z P ∧ P 2 0 0 102 = Z 2 0 0 102 ∧ P 2 0 0 3200 = Z 2 0 0 3200 ∧ P 2 0 0 3500 = Z 2 0 0 3500) := by
  obtain ⟨P, hP⟩ := zx (zf_308q Z a1)
  refine zc_V (Q := fun P => zI (some none) P ∧ zK [1, 2] Z P ∧ P 2 0 0 102 = Z 2 0 0 102 ∧ P 2 0 0 3200 = Z 2 0 0 3200 ∧ P 2 0 0 3500 = Z 2 0 0 3500) hP (fw_308 (i3 a1) _ _ ?_)
  replace hP : zE P (zf_308q Z a1) := hP
  unfold zf_308q at hP
  refine sl_308_1q (ν := ν) hZ zK_r (x1 := a1) (by omega) (x2 := 0) (by omega) (kc2 := Z 2 0 0 3500) (kc1 := Z 2 0 0 3200) (kc0 := Z 2 0 0 102) (by omega) (by omega) (by omega) (by omega) (zconso rfl (zconso (zvo (rfl : i3 a1 = i3 a1)) (zconso (zvo (show (0 : Int32) = i3 0 from rfl)) (zconso rfl (zconso rfl (zconso rfl (zconso rfl (zconso rfl rfl)))))))) rfl ?_
  intro L3 Z2 y1 hL3 hZ2I kZ2 gy1 gL3_0 gL3_1 gL3_2 gL3_3 gL3_4 q9
  replace hP := zl_e2 hP (Eq.symm q9)
  clear q9
  have hZ2K : zK [1, 2] Z Z2 := zK_t zK_r kZ2 (by decide)
  refine fc_308_4  _ _ _ _ hL3 ?_
  refine sl_308_2q (ν := ν) hZ2I zK_r (x2 := 0) (by omega) (kc3 := Z2 2 0 0 3500) (kc2 := Z2 2 0 0 3200) (kc1 := Z2 2 0 0 3000) (kc0 := Z2 2 0 0 102) (by omega) (by omega) (by omega) (by omega) (by omega) (zconso rfl (zconso rfl (zconso (zvo (show (0 : Int32) = i3 0 from rfl)) (zconso rfl (zconso rfl (zconso rfl (zconso rfl (zconso rfl rfl)))))))) rfl ?_
  intro L6 Z5 y4 hL6 hZ5I kZ5 gy4 gL6_0 gL6_1 gL6_2 gL6_3 gL6_4 q9
  replace hP := zl_e2 hP (Eq.symm q9)
  clear q9
  have hZ5K : zK [1, 2] Z Z5 := zK_t hZ2K kZ5 (by decide)
  refine fc_308_3  _ _ _ _ hL6 ?_
  exact zlV hP ⟨hZ5I, hZ5K, by omega, by omega, by omega⟩

/- yX12_tLoad -/
def zl_518_1 (x1 : Int) (x2 : Int) : Nat → qz_Z → Int → Int → Int × Int
  | 0, Z, x3, x4 => (x3, x4)
  | m + 1, Z, x3, x4 => (if (Z 2 0 0 2000) ≤ x4 then (x3, x4) else (if (Z 2 0 0 (2019 + 16 * x4)) ≠ 1 then zl_518_1 x1 x2 m Z (x3 + 0) (x4 + 1) else (if (Z 2 0 0 (2020 + 16 * x4)) ≠ x1 then zl_518_1 x1 x2 m Z (x3 + 0) (x4 + 1) else zl_518_1 x1 x2 m Z (w3 (x3 + 1)) (x4 + 1))))
theorem sl_518_1 {s : zS} {Z : qz_Z} {ν : qz_N} (hZ : zI s Z) {x1 : Int} (gx1 : 0 ≤ x1 ∧ x1 ≤ 3) {x2 : Int} (gx2 : 0 ≤ x2 ∧ x2 ≤ 0) {x3 : Int} (gx3 : -2147483648 ≤ x3 ∧ x3 ≤ 2147483647) {x4 : Int} (gx4 : 0 ≤ x4 ∧ x4 ≤ 60) {k : wz_K} {R : wz_R} {L : qz_L} (hL : qz_fg [true, true, true, true, true] L = [some (.inr (.inr (some (1, 0, 0)))), some (.inl (i3 x1)), some (.inl (i3 x2)), some (.inl (i3 x3)), some (.inl (i3 x4))]) {T : Int × Int} (hP : zE T (zl_518_1 x1 x2 ((60 - x4).toNat + 1) Z x3 x4)) (hk : ∀ (L9 : qz_L) (yx3 yx4 : Int), qz_fg [false, false, false, true, false] L9 = [none, none, none, some (.inl (i3 yx3)), none] → (-2147483648 ≤ yx3 ∧ yx3 ≤ 2147483647) → (0 ≤ yx4 ∧ yx4 ≤ 60) → zE T ((yx3, yx4)) → k 0 (L9, [], zm Z ν)) : wz_loop qb_518_1 65536 k R (L, [], zm Z ν) := by
  refine wz_lp sb_518_1 (fun m x => ∃ x3 : Int, ∃ x4 : Int, qz_fg [true, true, true, true, true] x.1 = [some (.inr (.inr (some (1, 0, 0)))), some (.inl (i3 x1)), some (.inl (i3 x2)), some (.inl (i3 x3)), some (.inl (i3 x4))] ∧ x.2 = ([], zm Z ν) ∧ m = (60 - x4).toNat ∧ (-2147483648 ≤ x3 ∧ x3 ≤ 2147483647) ∧ (0 ≤ x4 ∧ x4 ≤ 60) ∧ zE T (zl_518_1 x1 x2 (m + 1) Z x3 x4)) ?_ 65536 ((60 - x4).toNat) _ (by omega) ⟨x3, x4, hL, rfl, rfl, gx3, gx4, hP⟩
  clear hP gx3 gx4 hL
  clear x3 x4
  rintro m ⟨L, st, μ⟩ ⟨x3, x4, hL, hx, hm, gx3, gx4, hP⟩
  cases hx
  refine fb_518_1 (i3 x1) (i3 x2) (i3 x3) (i3 x4) _ _ _ _ hL ?_
  have r1 := zI_k hZ 2 0 0 2000 (lo := 0) (hi := 60) (by decide) rfl
  refine wz_br (i3Le (zm_rd (Z := Z) (ν := ν) (k := 2) (show ((0 : Nat) : Int) = 0 from rfl) (show ((0 : Nat) : Int) = 0 from rfl) (show ((2000 : Nat) : Int) = 2000 from rfl)) (rfl : i3 x4 = i3 x4) (by omega) (by omega) (by omega) (by omega)) (fun h2 => ?_) (fun h2 => ?_)
  · replace hP := zE_p hP h2
    exact hk _ _ _ (zconso rfl (zconso rfl (zconso rfl (zconso (zvo (rfl : i3 x3 = i3 x3)) (zconso rfl rfl)))))  (by omega) (by omega)  hP
  · replace hP := zE_n hP h2
    refine wz_i0 (i3O (n := 4400) (i3A (i3A (show (2010 : Int32) = i3 2010 from rfl) (i3M (show (16 : Int32) = i3 16 from rfl) (rfl : i3 x4 = i3 x4))) (show (9 : Int32) = i3 9 from rfl)) (by omega) (by omega) (by omega)) ?_
    have r3 := zI_k hZ 2 0 0 (2019 + 16 * x4) (lo := 0) (hi := 3) (by decide) (zs_2010_9 (x := x4) (by omega) (by omega) (by omega))
    refine wz_br (i3NE (zm_rd (Z := Z) (ν := ν) (k := 2) (show ((0 : Nat) : Int) = 0 from rfl) (show ((0 : Nat) : Int) = 0 from rfl) (i3I (y := (2019 + 16 * x4)) (i3A (i3A (show (2010 : Int32) = i3 2010 from rfl) (i3M (show (16 : Int32) = i3 16 from rfl) (rfl : i3 x4 = i3 x4))) (show (9 : Int32) = i3 9 from rfl)) (by omega) (by omega) (by omega))) (show (1 : Int32) = i3 1 from rfl) (by omega) (by omega) (by omega) (by omega)) (fun h4 => ?_) (fun h4 => ?_)
    · replace hP := zE_p hP h4
      obtain ⟨m2, rfl⟩ : ∃ m2, m = m2 + 1 := ⟨m - 1, by omega⟩
      exact wz_k1 ⟨m2, by omega, (x3 + 0), (x4 + 1), (zconso rfl (zconso (zvo (rfl : i3 x1 = i3 x1)) (zconso (zvo (rfl : i3 x2 = i3 x2)) (zconso (zvo (i3A (rfl : i3 x3 = i3 x3) (show (0 : Int32) = i3 0 from rfl))) (zconso (zvo (i3A (rfl : i3 x4 = i3 x4) (show (1 : Int32) = i3 1 from rfl))) rfl))))), rfl,  by omega, by omega, by omega,  hP⟩
    · replace hP := zE_n hP h4
      refine wz_i0 (i3O (n := 4400) (i3A (i3A (show (2010 : Int32) = i3 2010 from rfl) (i3M (show (16 : Int32) = i3 16 from rfl) (rfl : i3 x4 = i3 x4))) (show (10 : Int32) = i3 10 from rfl)) (by omega) (by omega) (by omega)) ?_
      have r5 := zI_k hZ 2 0 0 (2020 + 16 * x4) (lo := -1) (hi := 3) (by decide) (zs_2010_10 (x := x4) (by omega) (by omega) (by omega))
      refine wz_br (i3NE (zm_rd (Z := Z) (ν := ν) (k := 2) (show ((0 : Nat) : Int) = 0 from rfl) (show ((0 : Nat) : Int) = 0 from rfl) (i3I (y := (2020 + 16 * x4)) (i3A (i3A (show (2010 : Int32) = i3 2010 from rfl) (i3M (show (16 : Int32) = i3 16 from rfl) (rfl : i3 x4 = i3 x4))) (show (10 : Int32) = i3 10 from rfl)) (by omega) (by omega) (by omega))) (rfl : i3 x1 = i3 x1) (by omega) (by omega) (by omega) (by omega)) (fun h6 => ?_) (fun h6 => ?_)
      · replace hP := zE_p hP h6
        obtain ⟨m2, rfl⟩ : ∃ m2, m = m2 + 1 := ⟨m - 1, by omega⟩
        exact wz_k1 ⟨m2, by omega, (x3 + 0), (x4 + 1), (zconso rfl (zconso (zvo (rfl : i3 x1 = i3 x1)) (zconso (zvo (rfl : i3 x2 = i3 x2)) (zconso (zvo (i3A (rfl : i3 x3 = i3 x3) (show (0 : Int32) = i3 0 from rfl))) (zconso (zvo (i3A (rfl : i3 x4 = i3 x4) (show (1 : Int32) = i3 1 from rfl))) rfl))))), rfl,  by omega, by omega, by omega,  hP⟩
      · replace hP := zE_n hP h6
        refine wz_i1 (Eq.trans (i3E (rfl : i3 x2 = i3 x2) (show (0 : Int32) = i3 0 from rfl) (by omega) (by omega) (by omega) (by omega)) (decide_eq_true (by omega))) ?_
        have r7 := w3_r (x3 + 1)
        obtain ⟨m2, rfl⟩ : ∃ m2, m = m2 + 1 := ⟨m - 1, by omega⟩
        exact wz_k1 ⟨m2, by omega, (w3 (x3 + 1)), (x4 + 1), (zconso rfl (zconso (zvo (rfl : i3 x1 = i3 x1)) (zconso (zvo (rfl : i3 x2 = i3 x2)) (zconso (zvo (i3W (i3A (rfl : i3 x3 = i3 x3) (show (1 : Int32) = i3 1 from rfl)))) (zconso (zvo (i3A (rfl : i3 x4 = i3 x4) (show (1 : Int32) = i3 1 from rfl))) rfl))))), rfl,  by omega, by omega, by omega,  hP⟩

/- yX12_tLoad -/
def zf_518 (Z : qz_Z) (a1 : Int) (a2 : Int) : Int := (zlet2 (zl_518_1 a1 a2 61 Z 0 0) (fun y1 y2 => y1))
theorem sp_518 {s : zS} {Z : qz_Z} {ν : qz_N} (hZ : zI s Z) {a1 : Int} (ga1 : 0 ≤ a1 ∧ a1 ≤ 3) {a2 : Int} (ga2 : 0 ≤ a2 ∧ a2 ≤ 0) : ∃ P : Int, P = zf_518 Z a1 a2 ∧ (qf_518 [.inr (.inr (some (1, 0, 0))), .inl (i3 a1), .inl (i3 a2)] (zm Z ν) = some (zm Z ν, .inl (some (.inl (i3 P)))) ∧ -2147483648 ≤ P ∧ P ≤ 2147483647) := by
  obtain ⟨P, hP⟩ := zx (zf_518 Z a1 a2)
  refine zc_R (Q := fun P => -2147483648 ≤ P ∧ P ≤ 2147483647) hP (fw_518 (i3 a1) (i3 a2) _ _ ?_)
  replace hP : zE P (zf_518 Z a1 a2) := hP
  unfold zf_518 at hP
  refine sl_518_1 (ν := ν) hZ (x1 := a1) (by omega) (x2 := a2) (by omega) (x3 := 0) (by omega) (x4 := 0) (by omega)  (zconso rfl (zconso (zvo (rfl : i3 a1 = i3 a1)) (zconso (zvo (rfl : i3 a2 = i3 a2)) (zconso (zvo (show (0 : Int32) = i3 0 from rfl)) (zconso (zvo (show (0 : Int32) = i3 0 from rfl)) rfl))))) rfl ?_
  intro L3 y1 y2 hL3 gy1 gy2 q9
  replace hP := zl_e2 hP (Eq.symm q9)
  clear q9
  refine fc_518_2 (i3 y1) _ _ _ _ hL3 ?_
  exact zlR hP (rfl : i3 y1 = i3 y1) ⟨by omega, by omega⟩

/- yX12_tAtDocks -/
def zl_508_1 : Nat → qz_Z → Int → Int → Int × Int
  | 0, Z, x1, x2 => (x1, x2)
  | m + 1, Z, x1, x2 => (if (Z 2 0 0 3200) ≤ x2 then (x1, x2) else (if (Z 2 0 0 (3252 + 24 * x2)) ≠ 1 then (zlet (zf_518 Z x2 0) (fun v5 => (if v5 ≤ 0 then zl_508_1 m Z (x1 + 0) (x2 + 1) else zl_508_1 m Z (x1 + 1) (x2 + 1)))) else zl_508_1 m Z (x1 + 0) (x2 + 1)))
theorem sl_508_1 {s : zS} {Z : qz_Z} {ν : qz_N} (hZ : zI s Z) {x1 : Int} (gx1 : 0 ≤ x1 ∧ x1 ≤ 4) {x2 : Int} (gx2 : 0 ≤ x2 ∧ x2 ≤ 4) (gr0 : x1 ≤ x2) {k : wz_K} {R : wz_R} {L : qz_L} (hL : qz_fg [true, true, true] L = [some (.inr (.inr (some (1, 0, 0)))), some (.inl (i3 x1)), some (.inl (i3 x2))]) {T : Int × Int} (hP : zE T (zl_508_1 ((4 - x2).toNat + 1) Z x1 x2)) (hk : ∀ (L9 : qz_L) (yx1 yx2 : Int), qz_fg [false, true, false] L9 = [none, some (.inl (i3 yx1)), none] → (0 ≤ yx1 ∧ yx1 ≤ 4) → (0 ≤ yx2 ∧ yx2 ≤ 4) → (yx1 ≤ yx2) → zE T ((yx1, yx2)) → k 0 (L9, [], zm Z ν)) : wz_loop qb_508_1 65536 k R (L, [], zm Z ν) := by
  refine wz_lp sb_508_1 (fun m x => ∃ x1 : Int, ∃ x2 : Int, qz_fg [true, true, true] x.1 = [some (.inr (.inr (some (1, 0, 0)))), some (.inl (i3 x1)), some (.inl (i3 x2))] ∧ x.2 = ([], zm Z ν) ∧ m = (4 - x2).toNat ∧ (0 ≤ x1 ∧ x1 ≤ 4) ∧ (0 ≤ x2 ∧ x2 ≤ 4) ∧ (x1 ≤ x2) ∧ zE T (zl_508_1 (m + 1) Z x1 x2)) ?_ 65536 ((4 - x2).toNat) _ (by omega) ⟨x1, x2, hL, rfl, rfl, gx1, gx2, gr0, hP⟩
  clear hP gr0 gx1 gx2 hL
  clear x1 x2
  rintro m ⟨L, st, μ⟩ ⟨x1, x2, hL, hx, hm, gx1, gx2, gr0, hP⟩
  cases hx
  refine fb_508_1 (i3 x1) (i3 x2) _ _ _ _ hL ?_
  have r1 := zI_k hZ 2 0 0 3200 (lo := 0) (hi := 4) (by decide) rfl
  refine wz_br (i3Le (zm_rd (Z := Z) (ν := ν) (k := 2) (show ((0 : Nat) : Int) = 0 from rfl) (show ((0 : Nat) : Int) = 0 from rfl) (show ((3200 : Nat) : Int) = 3200 from rfl)) (rfl : i3 x2 = i3 x2) (by omega) (by omega) (by omega) (by omega)) (fun h2 => ?_) (fun h2 => ?_)
  · replace hP := zE_p hP h2
    exact hk _ _ _ (zconso rfl (zconso (zvo (rfl : i3 x1 = i3 x1)) (zconso rfl rfl)))  (by omega) (by omega) (by omega) hP
  · replace hP := zE_n hP h2
    refine wz_i0 (i3O (n := 4400) (i3A (i3A (show (3250 : Int32) = i3 3250 from rfl) (i3M (show (24 : Int32) = i3 24 from rfl) (rfl : i3 x2 = i3 x2))) (show (2 : Int32) = i3 2 from rfl)) (by omega) (by omega) (by omega)) ?_
    have r3 := zI_k hZ 2 0 0 (3252 + 24 * x2) (lo := 0) (hi := 1) (by decide) (zs_3250_2 (x := x2) (by omega) (by omega) (by omega))
    refine wz_br (i3NE (zm_rd (Z := Z) (ν := ν) (k := 2) (show ((0 : Nat) : Int) = 0 from rfl) (show ((0 : Nat) : Int) = 0 from rfl) (i3I (y := (3252 + 24 * x2)) (i3A (i3A (show (3250 : Int32) = i3 3250 from rfl) (i3M (show (24 : Int32) = i3 24 from rfl) (rfl : i3 x2 = i3 x2))) (show (2 : Int32) = i3 2 from rfl)) (by omega) (by omega) (by omega))) (show (1 : Int32) = i3 1 from rfl) (by omega) (by omega) (by omega) (by omega)) (fun h4 => ?_) (fun h4 => ?_)
    · replace hP := zE_p hP h4
      obtain ⟨v5, hv5, c9, lv5, uv5⟩ := sp_518 (ν := ν) hZ (a1 := x2) (by omega) (a2 := 0) (by omega)
      replace hP := zl_e hP hv5
      refine wz_cI_of (zas (zcons rfl (zcons (zvi (rfl : i3 x2 = i3 x2)) (zcons (zvi (show (0 : Int32) = i3 0 from rfl)) rfl))) c9) ?_
      clear c9
      refine wz_br (i3Le (rfl : i3 v5 = i3 v5) (show (0 : Int32) = i3 0 from rfl) (by omega) (by omega) (by omega) (by omega)) (fun h6 => ?_) (fun h6 => ?_)
      · replace hP := zE_p hP h6
        obtain ⟨m2, rfl⟩ : ∃ m2, m = m2 + 1 := ⟨m - 1, by omega⟩
        exact wz_k1 ⟨m2, by omega, (x1 + 0), (x2 + 1), (zconso rfl (zconso (zvo (i3A (rfl : i3 x1 = i3 x1) (show (0 : Int32) = i3 0 from rfl))) (zconso (zvo (i3A (rfl : i3 x2 = i3 x2) (show (1 : Int32) = i3 1 from rfl))) rfl))), rfl,  by omega, by omega, by omega, by omega,  hP⟩
      · replace hP := zE_n hP h6
        obtain ⟨m2, rfl⟩ : ∃ m2, m = m2 + 1 := ⟨m - 1, by omega⟩
        exact wz_k1 ⟨m2, by omega, (x1 + 1), (x2 + 1), (zconso rfl (zconso (zvo (i3A (rfl : i3 x1 = i3 x1) (show (1 : Int32) = i3 1 from rfl))) (zconso (zvo (i3A (rfl : i3 x2 = i3 x2) (show (1 : Int32) = i3 1 from rfl))) rfl))), rfl,  by omega, by omega, by omega, by omega,  hP⟩
    · replace hP := zE_n hP h4
      obtain ⟨m2, rfl⟩ : ∃ m2, m = m2 + 1 := ⟨m - 1, by omega⟩
      exact wz_k1 ⟨m2, by omega, (x1 + 0), (x2 + 1), (zconso rfl (zconso (zvo (i3A (rfl : i3 x1 = i3 x1) (show (0 : Int32) = i3 0 from rfl))) (zconso (zvo (i3A (rfl : i3 x2 = i3 x2) (show (1 : Int32) = i3 1 from rfl))) rfl))), rfl,  by omega, by omega, by omega, by omega,  hP⟩

/- yX12_tAtDocks -/
def zf_508 (Z : qz_Z) : Int := (zlet2 (zl_508_1 5 Z 0 0) (fun y1 y2 => y1))
theorem sp_508 {s : zS} {Z : qz_Z} {ν : qz_N} (hZ : zI s Z) : ∃ P : Int, P = zf_508 Z ∧ (qf_508 [.inr (.inr (some (1, 0, 0)))] (zm Z ν) = some (zm Z ν, .inl (some (.inl (i3 P)))) ∧ 0 ≤ P ∧ P ≤ 4) := by
  obtain ⟨P, hP⟩ := zx (zf_508 Z)
  refine zc_R (Q := fun P => 0 ≤ P ∧ P ≤ 4) hP (fw_508  _ _ ?_)
  replace hP : zE P (zf_508 Z) := hP
  unfold zf_508 at hP
  refine sl_508_1 (ν := ν) hZ (x1 := 0) (by omega) (x2 := 0) (by omega) (by omega) (zconso rfl (zconso (zvo (show (0 : Int32) = i3 0 from rfl)) (zconso (zvo (show (0 : Int32) = i3 0 from rfl)) rfl))) rfl ?_
  intro L3 y1 y2 hL3 gy1 gy2 gL3_0 q9
  replace hP := zl_e2 hP (Eq.symm q9)
  clear q9
  refine fc_508_2 (i3 y1) _ _ _ _ hL3 ?_
  exact zlR hP (rfl : i3 y1 = i3 y1) ⟨by omega, by omega⟩


/-! a season told, m (printed by season.py) -/
/- yX12_docks -/
def zf_336q (Z : qz_Z) (a1 : Int) : qz_Z × Int := (zlet (zu Z 1 0 0 2 0) (fun Z1 => (zlet (zf_508 Z1) (fun v5 => (if a1 < v5 then (zlet (zu Z1 1 0 0 2 2) (fun Z7 => (Z7, 0))) else (zlet (zu Z1 1 0 0 2 0) (fun Z11 => (zlet (zu Z11 2 0 0 3201 a1) (fun Z16 => (Z16, (Z11 2 0 0 3201)))))))))))
theorem sp_336q {Z : qz_Z} {ν : qz_N} (hZ : zI (some none) Z) {a1 : Int} (ga1 : 1 ≤ a1 ∧ a1 ≤ 4) : ∃ (Z1 : qz_Z) (P : Int), (Z1, P) = zf_336q Z a1 ∧ (qf_336 [.inr (.inr (some (1, 0, 0))), .inl (i3 a1)] (zm Z ν) = some (zm Z1 ν, .inl (some (.inl (i3 P)))) ∧ zI (some none) Z1 ∧ zK [1, 2] Z Z1 ∧ 0 ≤ P ∧ P ≤ 4 ∧ Z1 2 0 0 102 = Z 2 0 0 102 ∧ Z1 2 0 0 3500 = Z 2 0 0 3500) := by
  obtain ⟨P, hP⟩ := zx (zf_336q Z a1)
  refine zc_W (Q := fun Z1 P => zI (some none) Z1 ∧ zK [1, 2] Z Z1 ∧ 0 ≤ P ∧ P ≤ 4 ∧ Z1 2 0 0 102 = Z 2 0 0 102 ∧ Z1 2 0 0 3500 = Z 2 0 0 3500) hP (fw_336 (i3 a1) _ _ ?_)
  replace hP : zE P (zf_336q Z a1) := hP
  unfold zf_336q at hP
  refine wz_i0 (Eq.trans (i3L (rfl : i3 a1 = i3 a1) (show (1 : Int32) = i3 1 from rfl) (by omega) (by omega) (by omega) (by omega)) (decide_eq_false (by omega))) ?_
  refine wz_i0 (Eq.trans (i3L (show (4 : Int32) = i3 4 from rfl) (rfl : i3 a1 = i3 a1) (by omega) (by omega) (by omega) (by omega)) (decide_eq_false (by omega))) ?_
  obtain ⟨Z1, hZ1⟩ := zx (zu Z 1 0 0 2 0)
  replace hP := zl_e hP hZ1
  have hZ1I := zI_0 hZ hZ1 (by decide) (Or.inr (by decide))
  have t2 : Z1 2 0 0 102 = Z 2 0 0 102 := zu_ne hZ1 (fun q => absurd q.1 (by decide))
  have t3 : Z1 2 0 0 3500 = Z 2 0 0 3500 := zu_ne hZ1 (fun q => absurd q.1 (by decide))
  have t4 : Z1 2 0 0 3200 = Z 2 0 0 3200 := zu_ne hZ1 (fun q => absurd q.1 (by decide))
  have hZ1K : zK [1, 2] Z Z1 := zK_u zK_r hZ1 (by decide)
  intro μ9 e9
  replace e9 := e9.trans (zm_wI (Z := Z) (ν := ν) hZ1 (show ((0 : Nat) : Int) = 0 from rfl) (show ((0 : Nat) : Int) = 0 from rfl) (show ((2 : Nat) : Int) = 2 from rfl) (show (0 : Int32) = i3 0 from rfl))
  subst e9
  obtain ⟨v5, hv5, c9, lv5, uv5⟩ := sp_508 (ν := ν) hZ1I 
  replace hP := zl_e hP hv5
  refine wz_cI_of (zas (zcons rfl rfl) c9) ?_
  clear c9
  refine wz_br (i3L (rfl : i3 a1 = i3 a1) (rfl : i3 v5 = i3 v5) (by omega) (by omega) (by omega) (by omega)) (fun h6 => ?_) (fun h6 => ?_)
  · replace hP := zE_p hP h6
    obtain ⟨Z7, hZ7⟩ := zx (zu Z1 1 0 0 2 2)
    replace hP := zl_e hP hZ7
    have hZ7I := zI_u hZ1I hZ7 (lo := -2147483648) (hi := 2147483647) (by decide) rfl (by omega) ⟨by decide, by decide⟩ (Or.inr (by decide))
    have t8 : Z7 2 0 0 102 = Z1 2 0 0 102 := zu_ne hZ7 (fun q => absurd q.1 (by decide))
    have t9 : Z7 2 0 0 3500 = Z1 2 0 0 3500 := zu_ne hZ7 (fun q => absurd q.1 (by decide))
    have t10 : Z7 2 0 0 3200 = Z1 2 0 0 3200 := zu_ne hZ7 (fun q => absurd q.1 (by decide))
    have hZ7K := zK_u hZ1K hZ7 (by decide)
    intro μ9 e9
    replace e9 := e9.trans (zm_wI (Z := Z1) (ν := ν) hZ7 (show ((0 : Nat) : Int) = 0 from rfl) (show ((0 : Nat) : Int) = 0 from rfl) (show ((2 : Nat) : Int) = 2 from rfl) (show (2 : Int32) = i3 2 from rfl))
    subst e9
    exact zlW hP (show (0 : Int32) = i3 0 from rfl) ⟨hZ7I, hZ7K, by omega, by omega, by omega, by omega⟩
  · replace hP := zE_n hP h6
    obtain ⟨Z11, hZ11⟩ := zx (zu Z1 1 0 0 2 0)
    replace hP := zl_e hP hZ11
    have hZ11I := zI_0 hZ1I hZ11 (by decide) (Or.inr (by decide))
    have t12 : Z11 2 0 0 102 = Z1 2 0 0 102 := zu_ne hZ11 (fun q => absurd q.1 (by decide))
    have t13 : Z11 2 0 0 3500 = Z1 2 0 0 3500 := zu_ne hZ11 (fun q => absurd q.1 (by decide))
    have t14 : Z11 2 0 0 3200 = Z1 2 0 0 3200 := zu_ne hZ11 (fun q => absurd q.1 (by decide))
    have hZ11K := zK_u hZ1K hZ11 (by decide)
    intro μ9 e9
    replace e9 := e9.trans (zm_wI (Z := Z1) (ν := ν) hZ11 (show ((0 : Nat) : Int) = 0 from rfl) (show ((0 : Nat) : Int) = 0 from rfl) (show ((2 : Nat) : Int) = 2 from rfl) (show (0 : Int32) = i3 0 from rfl))
    subst e9
    have r15 := zI_q hZ11I
    refine wz_i1 (Eq.trans (i3NE (zm_rd (Z := Z11) (ν := ν) (k := 1) (show ((0 : Nat) : Int) = 0 from rfl) (show ((0 : Nat) : Int) = 0 from rfl) (show ((35 : Nat) : Int) = 35 from rfl)) (show (0 : Int32) = i3 0 from rfl) (by omega) (by omega) (by omega) (by omega)) (decide_eq_true (by omega))) ?_
    obtain ⟨Z16, hZ16⟩ := zx (zu Z11 2 0 0 3201 a1)
    replace hP := zl_e hP hZ16
    have hZ16I := zI_u hZ11I hZ16 (lo := 0) (hi := 4) (by decide) rfl (by omega) ⟨by decide, by decide⟩ (Or.inl (by decide))
    have t17 : Z16 2 0 0 102 = Z11 2 0 0 102 := zu_ne hZ16 (fun q => absurd q.2.2.2 (by decide))
    have t18 : Z16 2 0 0 3500 = Z11 2 0 0 3500 := zu_ne hZ16 (fun q => absurd q.2.2.2 (by decide))
    have t19 : Z16 2 0 0 3200 = Z11 2 0 0 3200 := zu_ne hZ16 (fun q => absurd q.2.2.2 (by decide))
    have hZ16K := zK_u hZ11K hZ16 (by decide)
    intro μ9 e9
    replace e9 := e9.trans (zm_wI (Z := Z11) (ν := ν) hZ16 (show ((0 : Nat) : Int) = 0 from rfl) (show ((0 : Nat) : Int) = 0 from rfl) (show ((3201 : Nat) : Int) = 3201 from rfl) (rfl : i3 a1 = i3 a1))
    subst e9
    have r20 := zI_k hZ11I 2 0 0 3201 (lo := 0) (hi := 4) (by decide) rfl
    exact zlW hP (zm_rd (Z := Z11) (ν := ν) (k := 2) (show ((0 : Nat) : Int) = 0 from rfl) (show ((0 : Nat) : Int) = 0 from rfl) (show ((3201 : Nat) : Int) = 3201 from rfl)) ⟨hZ16I, hZ16K, by omega, by omega, by omega, by omega⟩

/- yX12_truck -/
def zf_539q (Z : qz_Z) (a1 : Int) (a2 : Int) : qz_Z × Int := (zlet (zu Z 1 0 0 2 0) (fun Z1 => (if 4 ≤ (Z1 2 0 0 3200) then (zlet (zu Z1 1 0 0 2 2) (fun Z7 => (Z7, 0))) else (zlet (zu Z1 1 0 0 2 0) (fun Z11 => (zlet (zu Z11 2 0 0 (3250 + 24 * (Z11 2 0 0 3200)) a1) (fun Z18 => (zlet (zu Z18 2 0 0 (3251 + 24 * (Z11 2 0 0 3200)) a2) (fun Z22 => (zlet (zu Z22 2 0 0 (3253 + 24 * (Z11 2 0 0 3200)) (-1)) (fun Z26 => (zlet (zu Z26 2 0 0 (3254 + 24 * (Z11 2 0 0 3200)) (-1)) (fun Z30 => (zlet (zu Z30 2 0 0 3200 ((Z30 2 0 0 3200) + 1)) (fun Z35 => (Z35, (Z11 2 0 0 3200)))))))))))))))))
theorem sp_539q {Z : qz_Z} {ν : qz_N} (hZ : zI (some none) Z) {a1 : Int} (ga1 : 20 ≤ a1 ∧ a1 ≤ 79) {a2 : Int} (ga2 : 2 ≤ a2 ∧ a2 ≤ 14) : ∃ (Z1 : qz_Z) (P : Int), (Z1, P) = zf_539q Z a1 a2 ∧ (qf_539 [.inr (.inr (some (1, 0, 0))), .inl (i3 a1), .inl (i3 a2)] (zm Z ν) = some (zm Z1 ν, .inl (some (.inl (i3 P)))) ∧ zI (some none) Z1 ∧ zK [1, 2] Z Z1 ∧ 0 ≤ P ∧ P ≤ 3 ∧ Z1 2 0 0 102 = Z 2 0 0 102 ∧ Z1 2 0 0 3500 = Z 2 0 0 3500) := by
  obtain ⟨P, hP⟩ := zx (zf_539q Z a1 a2)
  refine zc_W (Q := fun Z1 P => zI (some none) Z1 ∧ zK [1, 2] Z Z1 ∧ 0 ≤ P ∧ P ≤ 3 ∧ Z1 2 0 0 102 = Z 2 0 0 102 ∧ Z1 2 0 0 3500 = Z 2 0 0 3500) hP (fw_539 (i3 a1) (i3 a2) _ _ ?_)
  replace hP : zE P (zf_539q Z a1 a2) := hP
  unfold zf_539q at hP
  refine wz_i0 (Eq.trans (i3L (rfl : i3 a1 = i3 a1) (show (10 : Int32) = i3 10 from rfl) (by omega) (by omega) (by omega) (by omega)) (decide_eq_false (by omega))) ?_
  refine wz_i0 (Eq.trans (i3L (show (99 : Int32) = i3 99 from rfl) (rfl : i3 a1 = i3 a1) (by omega) (by omega) (by omega) (by omega)) (decide_eq_false (by omega))) ?_
  refine wz_i0 (Eq.trans (i3L (rfl : i3 a2 = i3 a2) (show (0 : Int32) = i3 0 from rfl) (by omega) (by omega) (by omega) (by omega)) (decide_eq_false (by omega))) ?_
  refine wz_i0 (Eq.trans (i3L (show (40 : Int32) = i3 40 from rfl) (rfl : i3 a2 = i3 a2) (by omega) (by omega) (by omega) (by omega)) (decide_eq_false (by omega))) ?_
  obtain ⟨Z1, hZ1⟩ := zx (zu Z 1 0 0 2 0)
  replace hP := zl_e hP hZ1
  have hZ1I := zI_0 hZ hZ1 (by decide) (Or.inr (by decide))
  have t2 : Z1 2 0 0 102 = Z 2 0 0 102 := zu_ne hZ1 (fun q => absurd q.1 (by decide))
  have t3 : Z1 2 0 0 3500 = Z 2 0 0 3500 := zu_ne hZ1 (fun q => absurd q.1 (by decide))
  have t4 : Z1 2 0 0 3200 = Z 2 0 0 3200 := zu_ne hZ1 (fun q => absurd q.1 (by decide))
  have hZ1K : zK [1, 2] Z Z1 := zK_u zK_r hZ1 (by decide)
  intro μ9 e9
  replace e9 := e9.trans (zm_wI (Z := Z) (ν := ν) hZ1 (show ((0 : Nat) : Int) = 0 from rfl) (show ((0 : Nat) : Int) = 0 from rfl) (show ((2 : Nat) : Int) = 2 from rfl) (show (0 : Int32) = i3 0 from rfl))
  subst e9
  have r5 := zI_k hZ1I 2 0 0 3200 (lo := 0) (hi := 4) (by decide) rfl
  refine wz_br (i3Le (show (4 : Int32) = i3 4 from rfl) (zm_rd (Z := Z1) (ν := ν) (k := 2) (show ((0 : Nat) : Int) = 0 from rfl) (show ((0 : Nat) : Int) = 0 from rfl) (show ((3200 : Nat) : Int) = 3200 from rfl)) (by omega) (by omega) (by omega) (by omega)) (fun h6 => ?_) (fun h6 => ?_)
  · replace hP := zE_p hP h6
    obtain ⟨Z7, hZ7⟩ := zx (zu Z1 1 0 0 2 2)
    replace hP := zl_e hP hZ7
    have hZ7I := zI_u hZ1I hZ7 (lo := -2147483648) (hi := 2147483647) (by decide) rfl (by omega) ⟨by decide, by decide⟩ (Or.inr (by decide))
    have t8 : Z7 2 0 0 102 = Z1 2 0 0 102 := zu_ne hZ7 (fun q => absurd q.1 (by decide))
    have t9 : Z7 2 0 0 3500 = Z1 2 0 0 3500 := zu_ne hZ7 (fun q => absurd q.1 (by decide))
    have t10 : Z7 2 0 0 3200 = Z1 2 0 0 3200 := zu_ne hZ7 (fun q => absurd q.1 (by decide))
    have hZ7K := zK_u hZ1K hZ7 (by decide)
    intro μ9 e9
    replace e9 := e9.trans (zm_wI (Z := Z1) (ν := ν) hZ7 (show ((0 : Nat) : Int) = 0 from rfl) (show ((0 : Nat) : Int) = 0 from rfl) (show ((2 : Nat) : Int) = 2 from rfl) (show (2 : Int32) = i3 2 from rfl))
    subst e9
    exact zlW hP (show (0 : Int32) = i3 0 from rfl) ⟨hZ7I, hZ7K, by omega, by omega, by omega, by omega⟩
  · replace hP := zE_n hP h6
    obtain ⟨Z11, hZ11⟩ := zx (zu Z1 1 0 0 2 0)
    replace hP := zl_e hP hZ11
    have hZ11I := zI_0 hZ1I hZ11 (by decide) (Or.inr (by decide))
    have t12 : Z11 2 0 0 102 = Z1 2 0 0 102 := zu_ne hZ11 (fun q => absurd q.1 (by decide))
    have t13 : Z11 2 0 0 3500 = Z1 2 0 0 3500 := zu_ne hZ11 (fun q => absurd q.1 (by decide))
    have t14 : Z11 2 0 0 3200 = Z1 2 0 0 3200 := zu_ne hZ11 (fun q => absurd q.1 (by decide))
    have hZ11K := zK_u hZ1K hZ11 (by decide)
    intro μ9 e9
    replace e9 := e9.trans (zm_wI (Z := Z1) (ν := ν) hZ11 (show ((0 : Nat) : Int) = 0 from rfl) (show ((0 : Nat) : Int) = 0 from rfl) (show ((2 : Nat) : Int) = 2 from rfl) (show (0 : Int32) = i3 0 from rfl))
    subst e9
    have r15 := zI_q hZ11I
    refine wz_i1 (Eq.trans (i3NE (zm_rd (Z := Z11) (ν := ν) (k := 1) (show ((0 : Nat) : Int) = 0 from rfl) (show ((0 : Nat) : Int) = 0 from rfl) (show ((35 : Nat) : Int) = 35 from rfl)) (show (0 : Int32) = i3 0 from rfl) (by omega) (by omega) (by omega) (by omega)) (decide_eq_true (by omega))) ?_
    have r16 := zI_k hZ11I 2 0 0 3200 (lo := 0) (hi := 4) (by decide) rfl
    have q17 := zu_ne (k' := 2) (b' := 0) (i' := 0) (j' := 3200) hZ11 (fun q => absurd q.1 (by decide))
    refine wz_i0 (i3O (n := 4400) (i3A (i3A (show (3250 : Int32) = i3 3250 from rfl) (i3M (show (24 : Int32) = i3 24 from rfl) (zm_rd (Z := Z11) (ν := ν) (k := 2) (show ((0 : Nat) : Int) = 0 from rfl) (show ((0 : Nat) : Int) = 0 from rfl) (show ((3200 : Nat) : Int) = 3200 from rfl)))) (show (0 : Int32) = i3 0 from rfl)) (by omega) (by omega) (by omega)) ?_
    obtain ⟨Z18, hZ18⟩ := zx (zu Z11 2 0 0 (3250 + 24 * (Z11 2 0 0 3200)) a1)
    replace hP := zl_e hP hZ18
    have hZ18I := zI_u hZ11I hZ18 (lo := 0) (hi := 99) (by decide) (zs_3250_0 (x := (Z11 2 0 0 3200)) (by omega) (by omega) (by omega)) (by omega) ⟨by decide, by decide⟩ (Or.inl (by decide))
    have t19 : Z18 2 0 0 102 = Z11 2 0 0 102 := zu_ne hZ18 (by omega)
    have t20 : Z18 2 0 0 3500 = Z11 2 0 0 3500 := zu_ne hZ18 (by omega)
    have t21 : Z18 2 0 0 3200 = Z11 2 0 0 3200 := zu_ne hZ18 (by omega)
    have hZ18K := zK_u hZ11K hZ18 (by decide)
    intro μ9 e9
    replace e9 := e9.trans (zm_wI (Z := Z11) (ν := ν) hZ18 (show ((0 : Nat) : Int) = 0 from rfl) (show ((0 : Nat) : Int) = 0 from rfl) (i3I (y := (3250 + 24 * (Z11 2 0 0 3200))) (i3A (i3A (show (3250 : Int32) = i3 3250 from rfl) (i3M (show (24 : Int32) = i3 24 from rfl) (zm_rd (Z := Z11) (ν := ν) (k := 2) (show ((0 : Nat) : Int) = 0 from rfl) (show ((0 : Nat) : Int) = 0 from rfl) (show ((3200 : Nat) : Int) = 3200 from rfl)))) (show (0 : Int32) = i3 0 from rfl)) (by omega) (by omega) (by omega)) (rfl : i3 a1 = i3 a1))
    subst e9
    refine wz_i0 (i3O (n := 4400) (i3A (i3A (show (3250 : Int32) = i3 3250 from rfl) (i3M (show (24 : Int32) = i3 24 from rfl) (zm_rd (Z := Z11) (ν := ν) (k := 2) (show ((0 : Nat) : Int) = 0 from rfl) (show ((0 : Nat) : Int) = 0 from rfl) (show ((3200 : Nat) : Int) = 3200 from rfl)))) (show (1 : Int32) = i3 1 from rfl)) (by omega) (by omega) (by omega)) ?_
    obtain ⟨Z22, hZ22⟩ := zx (zu Z18 2 0 0 (3251 + 24 * (Z11 2 0 0 3200)) a2)
    replace hP := zl_e hP hZ22
    have hZ22I := zI_u hZ18I hZ22 (lo := 0) (hi := 40) (by decide) (zs_3250_1 (x := (Z11 2 0 0 3200)) (by omega) (by omega) (by omega)) (by omega) ⟨by decide, by decide⟩ (Or.inl (by decide))
    have t23 : Z22 2 0 0 102 = Z18 2 0 0 102 := zu_ne hZ22 (by omega)
    have t24 : Z22 2 0 0 3500 = Z18 2 0 0 3500 := zu_ne hZ22 (by omega)
    have t25 : Z22 2 0 0 3200 = Z18 2 0 0 3200 := zu_ne hZ22 (by omega)
    have hZ22K := zK_u hZ18K hZ22 (by decide)
    intro μ9 e9
    replace e9 := e9.trans (zm_wI (Z := Z18) (ν := ν) hZ22 (show ((0 : Nat) : Int) = 0 from rfl) (show ((0 : Nat) : Int) = 0 from rfl) (i3I (y := (3251 + 24 * (Z11 2 0 0 3200))) (i3A (i3A (show (3250 : Int32) = i3 3250 from rfl) (i3M (show (24 : Int32) = i3 24 from rfl) (zm_rd (Z := Z11) (ν := ν) (k := 2) (show ((0 : Nat) : Int) = 0 from rfl) (show ((0 : Nat) : Int) = 0 from rfl) (show ((3200 : Nat) : Int) = 3200 from rfl)))) (show (1 : Int32) = i3 1 from rfl)) (by omega) (by omega) (by omega)) (rfl : i3 a2 = i3 a2))
    subst e9
    refine wz_i0 (i3O (n := 4400) (i3A (i3A (show (3250 : Int32) = i3 3250 from rfl) (i3M (show (24 : Int32) = i3 24 from rfl) (zm_rd (Z := Z11) (ν := ν) (k := 2) (show ((0 : Nat) : Int) = 0 from rfl) (show ((0 : Nat) : Int) = 0 from rfl) (show ((3200 : Nat) : Int) = 3200 from rfl)))) (show (3 : Int32) = i3 3 from rfl)) (by omega) (by omega) (by omega)) ?_
    obtain ⟨Z26, hZ26⟩ := zx (zu Z22 2 0 0 (3253 + 24 * (Z11 2 0 0 3200)) (-1))
    replace hP := zl_e hP hZ26
    have hZ26I := zI_u hZ22I hZ26 (lo := -1) (hi := 671) (by decide) (zs_3250_3 (x := (Z11 2 0 0 3200)) (by omega) (by omega) (by omega)) (by omega) ⟨by decide, by decide⟩ (Or.inl (by decide))
    have t27 : Z26 2 0 0 102 = Z22 2 0 0 102 := zu_ne hZ26 (by omega)
    have t28 : Z26 2 0 0 3500 = Z22 2 0 0 3500 := zu_ne hZ26 (by omega)
    have t29 : Z26 2 0 0 3200 = Z22 2 0 0 3200 := zu_ne hZ26 (by omega)
    have hZ26K := zK_u hZ22K hZ26 (by decide)
    intro μ9 e9
    replace e9 := e9.trans (zm_wI (Z := Z22) (ν := ν) hZ26 (show ((0 : Nat) : Int) = 0 from rfl) (show ((0 : Nat) : Int) = 0 from rfl) (i3I (y := (3253 + 24 * (Z11 2 0 0 3200))) (i3A (i3A (show (3250 : Int32) = i3 3250 from rfl) (i3M (show (24 : Int32) = i3 24 from rfl) (zm_rd (Z := Z11) (ν := ν) (k := 2) (show ((0 : Nat) : Int) = 0 from rfl) (show ((0 : Nat) : Int) = 0 from rfl) (show ((3200 : Nat) : Int) = 3200 from rfl)))) (show (3 : Int32) = i3 3 from rfl)) (by omega) (by omega) (by omega)) (show (-1 : Int32) = i3 (-1) from rfl))
    subst e9
    refine wz_i0 (i3O (n := 4400) (i3A (i3A (show (3250 : Int32) = i3 3250 from rfl) (i3M (show (24 : Int32) = i3 24 from rfl) (zm_rd (Z := Z11) (ν := ν) (k := 2) (show ((0 : Nat) : Int) = 0 from rfl) (show ((0 : Nat) : Int) = 0 from rfl) (show ((3200 : Nat) : Int) = 3200 from rfl)))) (show (4 : Int32) = i3 4 from rfl)) (by omega) (by omega) (by omega)) ?_
    obtain ⟨Z30, hZ30⟩ := zx (zu Z26 2 0 0 (3254 + 24 * (Z11 2 0 0 3200)) (-1))
    replace hP := zl_e hP hZ30
    have hZ30I := zI_u hZ26I hZ30 (lo := -1) (hi := 671) (by decide) (zs_3250_4 (x := (Z11 2 0 0 3200)) (by omega) (by omega) (by omega)) (by omega) ⟨by decide, by decide⟩ (Or.inl (by decide))
    have t31 : Z30 2 0 0 102 = Z26 2 0 0 102 := zu_ne hZ30 (by omega)
    have t32 : Z30 2 0 0 3500 = Z26 2 0 0 3500 := zu_ne hZ30 (by omega)
    have t33 : Z30 2 0 0 3200 = Z26 2 0 0 3200 := zu_ne hZ30 (by omega)
    have hZ30K := zK_u hZ26K hZ30 (by decide)
    intro μ9 e9
    replace e9 := e9.trans (zm_wI (Z := Z26) (ν := ν) hZ30 (show ((0 : Nat) : Int) = 0 from rfl) (show ((0 : Nat) : Int) = 0 from rfl) (i3I (y := (3254 + 24 * (Z11 2 0 0 3200))) (i3A (i3A (show (3250 : Int32) = i3 3250 from rfl) (i3M (show (24 : Int32) = i3 24 from rfl) (zm_rd (Z := Z11) (ν := ν) (k := 2) (show ((0 : Nat) : Int) = 0 from rfl) (show ((0 : Nat) : Int) = 0 from rfl) (show ((3200 : Nat) : Int) = 3200 from rfl)))) (show (4 : Int32) = i3 4 from rfl)) (by omega) (by omega) (by omega)) (show (-1 : Int32) = i3 (-1) from rfl))
    subst e9
    have r34 := zI_k hZ30I 2 0 0 3200 (lo := 0) (hi := 4) (by decide) rfl
    obtain ⟨Z35, hZ35⟩ := zx (zu Z30 2 0 0 3200 ((Z30 2 0 0 3200) + 1))
    replace hP := zl_e hP hZ35
    have hZ35I := zI_u hZ30I hZ35 (lo := 0) (hi := 4) (by decide) rfl (by omega) ⟨by decide, by decide⟩ (Or.inl (by decide))
    have t36 : Z35 2 0 0 102 = Z30 2 0 0 102 := zu_ne hZ35 (fun q => absurd q.2.2.2 (by decide))
    have t37 : Z35 2 0 0 3500 = Z30 2 0 0 3500 := zu_ne hZ35 (fun q => absurd q.2.2.2 (by decide))
    have t38 := zu_at hZ35
    have hZ35K := zK_u hZ30K hZ35 (by decide)
    intro μ9 e9
    replace e9 := e9.trans (zm_wI (Z := Z30) (ν := ν) hZ35 (show ((0 : Nat) : Int) = 0 from rfl) (show ((0 : Nat) : Int) = 0 from rfl) (show ((3200 : Nat) : Int) = 3200 from rfl) (i3A (zm_rd (Z := Z30) (ν := ν) (k := 2) (show ((0 : Nat) : Int) = 0 from rfl) (show ((0 : Nat) : Int) = 0 from rfl) (show ((3200 : Nat) : Int) = 3200 from rfl)) (show (1 : Int32) = i3 1 from rfl)))
    subst e9
    exact zlW hP (zm_rd (Z := Z11) (ν := ν) (k := 2) (show ((0 : Nat) : Int) = 0 from rfl) (show ((0 : Nat) : Int) = 0 from rfl) (show ((3200 : Nat) : Int) = 3200 from rfl)) ⟨hZ35I, hZ35K, by omega, by omega, by omega, by omega⟩

/- yX12_way -/
def zf_543q (Z : qz_Z) (a1 : Int) (a2 : Int) (a3 : Int) : qz_Z × Int := (zlet (zu Z 1 0 0 2 0) (fun Z1 => (if a1 = a2 then (zlet (zu Z1 1 0 0 2 2) (fun Z6 => (Z6, 0))) else (zlet (zu Z1 1 0 0 2 0) (fun Z10 => (zlet (zu Z10 2 0 0 (3210 + 6 * a1 + a2) a3) (fun Z15 => (zlet (zu Z15 2 0 0 (3210 + 6 * a2 + a1) a3) (fun Z19 => (Z19, (Z10 2 0 0 (3210 + 6 * a1 + a2))))))))))))
theorem sp_543q {Z : qz_Z} {ν : qz_N} (hZ : zI (some none) Z) {a1 : Int} (ga1 : 0 ≤ a1 ∧ a1 ≤ 4) {a2 : Int} (ga2 : 1 ≤ a2 ∧ a2 ≤ 5) {a3 : Int} (ga3 : 1 ≤ a3 ∧ a3 ≤ 12) : ∃ (Z1 : qz_Z) (P : Int), (Z1, P) = zf_543q Z a1 a2 a3 ∧ (qf_543 [.inr (.inr (some (1, 0, 0))), .inl (i3 a1), .inl (i3 a2), .inl (i3 a3)] (zm Z ν) = some (zm Z1 ν, .inl (some (.inl (i3 P)))) ∧ zI (some none) Z1 ∧ zK [1, 2] Z Z1 ∧ 0 ≤ P ∧ P ≤ 12 ∧ Z1 2 0 0 102 = Z 2 0 0 102 ∧ Z1 2 0 0 3500 = Z 2 0 0 3500) := by
  obtain ⟨P, hP⟩ := zx (zf_543q Z a1 a2 a3)
  refine zc_W (Q := fun Z1 P => zI (some none) Z1 ∧ zK [1, 2] Z Z1 ∧ 0 ≤ P ∧ P ≤ 12 ∧ Z1 2 0 0 102 = Z 2 0 0 102 ∧ Z1 2 0 0 3500 = Z 2 0 0 3500) hP (fw_543 (i3 a1) (i3 a2) (i3 a3) _ _ ?_)
  replace hP : zE P (zf_543q Z a1 a2 a3) := hP
  unfold zf_543q at hP
  refine wz_i0 (Eq.trans (i3L (rfl : i3 a1 = i3 a1) (show (0 : Int32) = i3 0 from rfl) (by omega) (by omega) (by omega) (by omega)) (decide_eq_false (by omega))) ?_
  refine wz_i0 (Eq.trans (i3L (show (5 : Int32) = i3 5 from rfl) (rfl : i3 a1 = i3 a1) (by omega) (by omega) (by omega) (by omega)) (decide_eq_false (by omega))) ?_
  refine wz_i0 (Eq.trans (i3L (rfl : i3 a2 = i3 a2) (show (0 : Int32) = i3 0 from rfl) (by omega) (by omega) (by omega) (by omega)) (decide_eq_false (by omega))) ?_
  refine wz_i0 (Eq.trans (i3L (show (5 : Int32) = i3 5 from rfl) (rfl : i3 a2 = i3 a2) (by omega) (by omega) (by omega) (by omega)) (decide_eq_false (by omega))) ?_
  obtain ⟨Z1, hZ1⟩ := zx (zu Z 1 0 0 2 0)
  replace hP := zl_e hP hZ1
  have hZ1I := zI_0 hZ hZ1 (by decide) (Or.inr (by decide))
  have t2 : Z1 2 0 0 102 = Z 2 0 0 102 := zu_ne hZ1 (fun q => absurd q.1 (by decide))
  have t3 : Z1 2 0 0 3500 = Z 2 0 0 3500 := zu_ne hZ1 (fun q => absurd q.1 (by decide))
  have t4 : Z1 2 0 0 3200 = Z 2 0 0 3200 := zu_ne hZ1 (fun q => absurd q.1 (by decide))
  have hZ1K : zK [1, 2] Z Z1 := zK_u zK_r hZ1 (by decide)
  intro μ9 e9
  replace e9 := e9.trans (zm_wI (Z := Z) (ν := ν) hZ1 (show ((0 : Nat) : Int) = 0 from rfl) (show ((0 : Nat) : Int) = 0 from rfl) (show ((2 : Nat) : Int) = 2 from rfl) (show (0 : Int32) = i3 0 from rfl))
  subst e9
  refine wz_br (i3E (rfl : i3 a1 = i3 a1) (rfl : i3 a2 = i3 a2) (by omega) (by omega) (by omega) (by omega)) (fun h5 => ?_) (fun h5 => ?_)
  · replace hP := zE_p hP h5
    obtain ⟨Z6, hZ6⟩ := zx (zu Z1 1 0 0 2 2)
    replace hP := zl_e hP hZ6
    have hZ6I := zI_u hZ1I hZ6 (lo := -2147483648) (hi := 2147483647) (by decide) rfl (by omega) ⟨by decide, by decide⟩ (Or.inr (by decide))
    have t7 : Z6 2 0 0 102 = Z1 2 0 0 102 := zu_ne hZ6 (fun q => absurd q.1 (by decide))
    have t8 : Z6 2 0 0 3500 = Z1 2 0 0 3500 := zu_ne hZ6 (fun q => absurd q.1 (by decide))
    have t9 : Z6 2 0 0 3200 = Z1 2 0 0 3200 := zu_ne hZ6 (fun q => absurd q.1 (by decide))
    have hZ6K := zK_u hZ1K hZ6 (by decide)
    intro μ9 e9
    replace e9 := e9.trans (zm_wI (Z := Z1) (ν := ν) hZ6 (show ((0 : Nat) : Int) = 0 from rfl) (show ((0 : Nat) : Int) = 0 from rfl) (show ((2 : Nat) : Int) = 2 from rfl) (show (2 : Int32) = i3 2 from rfl))
    subst e9
    exact zlW hP (show (0 : Int32) = i3 0 from rfl) ⟨hZ6I, hZ6K, by omega, by omega, by omega, by omega⟩
  · replace hP := zE_n hP h5
    refine wz_i0 (Eq.trans (i3L (rfl : i3 a3 = i3 a3) (show (1 : Int32) = i3 1 from rfl) (by omega) (by omega) (by omega) (by omega)) (decide_eq_false (by omega))) ?_
    refine wz_i0 (Eq.trans (i3L (show (12 : Int32) = i3 12 from rfl) (rfl : i3 a3 = i3 a3) (by omega) (by omega) (by omega) (by omega)) (decide_eq_false (by omega))) ?_
    obtain ⟨Z10, hZ10⟩ := zx (zu Z1 1 0 0 2 0)
    replace hP := zl_e hP hZ10
    have hZ10I := zI_0 hZ1I hZ10 (by decide) (Or.inr (by decide))
    have t11 : Z10 2 0 0 102 = Z1 2 0 0 102 := zu_ne hZ10 (fun q => absurd q.1 (by decide))
    have t12 : Z10 2 0 0 3500 = Z1 2 0 0 3500 := zu_ne hZ10 (fun q => absurd q.1 (by decide))
    have t13 : Z10 2 0 0 3200 = Z1 2 0 0 3200 := zu_ne hZ10 (fun q => absurd q.1 (by decide))
    have hZ10K := zK_u hZ1K hZ10 (by decide)
    intro μ9 e9
    replace e9 := e9.trans (zm_wI (Z := Z1) (ν := ν) hZ10 (show ((0 : Nat) : Int) = 0 from rfl) (show ((0 : Nat) : Int) = 0 from rfl) (show ((2 : Nat) : Int) = 2 from rfl) (show (0 : Int32) = i3 0 from rfl))
    subst e9
    have r14 := zI_q hZ10I
    refine wz_i1 (Eq.trans (i3NE (zm_rd (Z := Z10) (ν := ν) (k := 1) (show ((0 : Nat) : Int) = 0 from rfl) (show ((0 : Nat) : Int) = 0 from rfl) (show ((35 : Nat) : Int) = 35 from rfl)) (show (0 : Int32) = i3 0 from rfl) (by omega) (by omega) (by omega) (by omega)) (decide_eq_true (by omega))) ?_
    refine wz_i0 (i3O (n := 4400) (i3A (i3A (show (3210 : Int32) = i3 3210 from rfl) (i3M (show (6 : Int32) = i3 6 from rfl) (rfl : i3 a1 = i3 a1))) (rfl : i3 a2 = i3 a2)) (by omega) (by omega) (by omega)) ?_
    refine wz_i0 (i3O (n := 4400) (i3A (i3A (show (3210 : Int32) = i3 3210 from rfl) (i3M (show (6 : Int32) = i3 6 from rfl) (rfl : i3 a1 = i3 a1))) (rfl : i3 a2 = i3 a2)) (by omega) (by omega) (by omega)) ?_
    obtain ⟨Z15, hZ15⟩ := zx (zu Z10 2 0 0 (3210 + 6 * a1 + a2) a3)
    replace hP := zl_e hP hZ15
    have hZ15I := zI_u hZ10I hZ15 (lo := 0) (hi := 12) (by decide) (zs_3210 (by omega) (by omega)) (by omega) ⟨by decide, by decide⟩ (Or.inl (by decide))
    have t16 : Z15 2 0 0 102 = Z10 2 0 0 102 := zu_ne hZ15 (by omega)
    have t17 : Z15 2 0 0 3500 = Z10 2 0 0 3500 := zu_ne hZ15 (by omega)
    have t18 : Z15 2 0 0 3200 = Z10 2 0 0 3200 := zu_ne hZ15 (by omega)
    have hZ15K := zK_u hZ10K hZ15 (by decide)
    intro μ9 e9
    replace e9 := e9.trans (zm_wI (Z := Z10) (ν := ν) hZ15 (show ((0 : Nat) : Int) = 0 from rfl) (show ((0 : Nat) : Int) = 0 from rfl) (i3I (y := (3210 + 6 * a1 + a2)) (i3A (i3A (show (3210 : Int32) = i3 3210 from rfl) (i3M (show (6 : Int32) = i3 6 from rfl) (rfl : i3 a1 = i3 a1))) (rfl : i3 a2 = i3 a2)) (by omega) (by omega) (by omega)) (rfl : i3 a3 = i3 a3))
    subst e9
    refine wz_i0 (i3O (n := 4400) (i3A (i3A (show (3210 : Int32) = i3 3210 from rfl) (i3M (show (6 : Int32) = i3 6 from rfl) (rfl : i3 a2 = i3 a2))) (rfl : i3 a1 = i3 a1)) (by omega) (by omega) (by omega)) ?_
    obtain ⟨Z19, hZ19⟩ := zx (zu Z15 2 0 0 (3210 + 6 * a2 + a1) a3)
    replace hP := zl_e hP hZ19
    have hZ19I := zI_u hZ15I hZ19 (lo := 0) (hi := 12) (by decide) (zs_3210 (by omega) (by omega)) (by omega) ⟨by decide, by decide⟩ (Or.inl (by decide))
    have t20 : Z19 2 0 0 102 = Z15 2 0 0 102 := zu_ne hZ19 (by omega)
    have t21 : Z19 2 0 0 3500 = Z15 2 0 0 3500 := zu_ne hZ19 (by omega)
    have t22 : Z19 2 0 0 3200 = Z15 2 0 0 3200 := zu_ne hZ19 (by omega)
    have hZ19K := zK_u hZ15K hZ19 (by decide)
    intro μ9 e9
    replace e9 := e9.trans (zm_wI (Z := Z15) (ν := ν) hZ19 (show ((0 : Nat) : Int) = 0 from rfl) (show ((0 : Nat) : Int) = 0 from rfl) (i3I (y := (3210 + 6 * a2 + a1)) (i3A (i3A (show (3210 : Int32) = i3 3210 from rfl) (i3M (show (6 : Int32) = i3 6 from rfl) (rfl : i3 a2 = i3 a2))) (rfl : i3 a1 = i3 a1)) (by omega) (by omega) (by omega)) (rfl : i3 a3 = i3 a3))
    subst e9
    have r23 := zI_k hZ10I 2 0 0 (3210 + 6 * a1 + a2) (lo := 0) (hi := 12) (by decide) (zs_3210 (by omega) (by omega))
    exact zlW hP (zm_rd (Z := Z10) (ν := ν) (k := 2) (show ((0 : Nat) : Int) = 0 from rfl) (show ((0 : Nat) : Int) = 0 from rfl) (i3I (y := (3210 + 6 * a1 + a2)) (i3A (i3A (show (3210 : Int32) = i3 3210 from rfl) (i3M (show (6 : Int32) = i3 6 from rfl) (rfl : i3 a1 = i3 a1))) (rfl : i3 a2 = i3 a2)) (by omega) (by omega) (by omega))) ⟨hZ19I, hZ19K, by omega, by omega, by omega, by omega⟩

/- yX12_tSeason -/
def zl_523_1q (x1 : Int) (x2 : Int) : Nat → qz_Z → Int → qz_Z × Int
  | 0, Z, x3 => (Z, x3)
  | m + 1, Z, x3 => (if 5 < x3 then (Z, x3) else (zlet (zu Z 1 0 0 3 (((25173 * (Z 1 0 0 3)) + 13849) % 65536)) (fun Z3 => (zlet2 (zf_543q Z3 x2 x3 (1 + (((Z3 1 0 0 3) / 16) % 12))) (fun Z9 v8 => zl_523_1q x1 x2 m Z9 (x3 + 1))))))
theorem sl_523_1q {Zs Z : qz_Z} {ν : qz_N} (hZ : zI (some none) Z) (hK : zK [1, 2] Zs Z) {x1 : Int} (gx1 : 1 ≤ x1 ∧ x1 ≤ 12) {x2 : Int} (gx2 : 0 ≤ x2 ∧ x2 ≤ 4) {x3 : Int} (gx3 : 1 ≤ x3 ∧ x3 ≤ 6) {kc0 : Int} {kc1 : Int} (gr0 : Z 2 0 0 102 = kc0) (gr1 : Z 2 0 0 3500 = kc1) {k : wz_K} {R : wz_R} {L : qz_L} (hL : qz_fg [true, true, true, true, false] L = [some (.inr (.inr (some (1, 0, 0)))), some (.inl (i3 x1)), some (.inl (i3 x2)), some (.inl (i3 x3)), none]) {T : qz_Z × Int} (hP : zE T (zl_523_1q x1 x2 ((6 - x3).toNat + 1) Z x3)) (hk : ∀ (L9 : qz_L) (Z9 : qz_Z) (yx3 : Int), qz_fg [true, true, true, false, false] L9 = [some (.inr (.inr (some (1, 0, 0)))), some (.inl (i3 x1)), some (.inl (i3 x2)), none, none] → zI (some none) Z9 → zK [1, 2] Zs Z9 → (1 ≤ yx3 ∧ yx3 ≤ 6) → (Z9 2 0 0 102 = kc0) → (Z9 2 0 0 3500 = kc1) → zE T ((Z9, yx3)) → k 0 (L9, [], zm Z9 ν)) : wz_loop qb_523_1 65536 k R (L, [], zm Z ν) := by
  refine wz_lp sb_523_1 (fun m x => ∃ Z : qz_Z, ∃ x3 : Int, qz_fg [true, true, true, true, false] x.1 = [some (.inr (.inr (some (1, 0, 0)))), some (.inl (i3 x1)), some (.inl (i3 x2)), some (.inl (i3 x3)), none] ∧ x.2 = ([], zm Z ν) ∧ zI (some none) Z ∧ zK [1, 2] Zs Z ∧ m = (6 - x3).toNat ∧ (1 ≤ x3 ∧ x3 ≤ 6) ∧ (Z 2 0 0 102 = kc0) ∧ (Z 2 0 0 3500 = kc1) ∧ zE T (zl_523_1q x1 x2 (m + 1) Z x3)) ?_ 65536 ((6 - x3).toNat) _ (by omega) ⟨Z, x3, hL, rfl, hZ, hK, rfl, gx3, gr0, gr1, hP⟩
  clear hP gr0 gr1 gx3 hZ hK hL
  clear x3
  clear Z
  rintro m ⟨L, st, μ⟩ ⟨Z, x3, hL, hx, hZ, hK, hm, gx3, gr0, gr1, hP⟩
  cases hx
  refine fb_523_1 (i3 x1) (i3 x2) (i3 x3) _ _ _ _ hL ?_
  refine wz_br (i3L (show (5 : Int32) = i3 5 from rfl) (rfl : i3 x3 = i3 x3) (by omega) (by omega) (by omega) (by omega)) (fun h1 => ?_) (fun h1 => ?_)
  · replace hP := zE_p hP h1
    exact hk _ _ _ (zconso rfl (zconso (zvo (rfl : i3 x1 = i3 x1)) (zconso (zvo (rfl : i3 x2 = i3 x2)) (zconso rfl (zconso rfl rfl))))) hZ hK (by omega) (by omega) (by omega) hP
  · replace hP := zE_n hP h1
    have r2 := zI_k hZ 1 0 0 3 (lo := 0) (hi := 65535) (by decide) rfl
    obtain ⟨Z3, hZ3⟩ := zx (zu Z 1 0 0 3 (((25173 * (Z 1 0 0 3)) + 13849) % 65536))
    replace hP := zl_e hP hZ3
    have hZ3I := zI_u hZ hZ3 (lo := 0) (hi := 65535) (by decide) rfl (by omega) ⟨by decide, by decide⟩ (Or.inr (by decide))
    have t4 : Z3 2 0 0 102 = Z 2 0 0 102 := zu_ne hZ3 (fun q => absurd q.1 (by decide))
    have t5 : Z3 2 0 0 3500 = Z 2 0 0 3500 := zu_ne hZ3 (fun q => absurd q.1 (by decide))
    have hZ3K := zK_u hK hZ3 (by decide)
    intro μ9 e9
    replace e9 := e9.trans (zm_wI (Z := Z) (ν := ν) hZ3 (show ((0 : Nat) : Int) = 0 from rfl) (show ((0 : Nat) : Int) = 0 from rfl) (show ((3 : Nat) : Int) = 3 from rfl) (i3R (i3A (i3M (show (25173 : Int32) = i3 25173 from rfl) (zm_rd (Z := Z) (ν := ν) (k := 1) (show ((0 : Nat) : Int) = 0 from rfl) (show ((0 : Nat) : Int) = 0 from rfl) (show ((3 : Nat) : Int) = 3 from rfl))) (show (13849 : Int32) = i3 13849 from rfl)) (show (65536 : Int32) = i3 65536 from rfl) (by omega) (by omega) (by omega) (by omega)))
    subst e9
    have r6 := zI_k hZ3I 1 0 0 3 (lo := 0) (hi := 65535) (by decide) rfl
    have q7 := zu_at hZ3
    obtain ⟨Z9, v8, hv8, c9, hZ9I, kZ9, lv8, uv8, wv80, wv81⟩ := sp_543q (ν := ν) hZ3I (a1 := x2) (by omega) (a2 := x3) (by omega) (a3 := (1 + (((Z3 1 0 0 3) / 16) % 12))) (by omega)
    have hZ9K : zK [1, 2] Zs Z9 := zK_t hZ3K kZ9 (by decide)
    replace hP := zl_e2 hP hv8
    refine wz_cI_of (zas (zcons rfl (zcons (zvi (rfl : i3 x2 = i3 x2)) (zcons (zvi (rfl : i3 x3 = i3 x3)) (zcons (zvi (i3A (show (1 : Int32) = i3 1 from rfl) (i3R (i3D (zm_rd (Z := Z3) (ν := ν) (k := 1) (show ((0 : Nat) : Int) = 0 from rfl) (show ((0 : Nat) : Int) = 0 from rfl) (show ((3 : Nat) : Int) = 3 from rfl)) (show (16 : Int32) = i3 16 from rfl) (by omega) (by omega) (by omega) (by omega)) (show (12 : Int32) = i3 12 from rfl) (by omega) (by omega) (by omega) (by omega)))) rfl)))) c9) ?_
    clear c9 hv8
    obtain ⟨m2, rfl⟩ : ∃ m2, m = m2 + 1 := ⟨m - 1, by omega⟩
    exact wz_k1 ⟨m2, by omega, Z9, (x3 + 1), (zconso rfl (zconso (zvo (rfl : i3 x1 = i3 x1)) (zconso (zvo (rfl : i3 x2 = i3 x2)) (zconso (zvo (i3A (rfl : i3 x3 = i3 x3) (show (1 : Int32) = i3 1 from rfl))) (zconso rfl rfl))))), rfl, hZ9I, hZ9K, by omega, by omega, by omega, by omega,  hP⟩

/- yX12_tSeason -/
def zl_523_3q (x1 : Int) : Nat → qz_Z → Int → qz_Z × Int
  | 0, Z, x2 => (Z, x2)
  | m + 1, Z, x2 => (if 5 ≤ x2 then (Z, x2) else (zlet2 (zl_523_1q x1 x2 ((6 - (x2 + 1)).toNat + 1) Z (x2 + 1)) (fun Z3 y2 => zl_523_3q x1 m Z3 (x2 + 1))))
theorem sl_523_3q {Zs Z : qz_Z} {ν : qz_N} (hZ : zI (some none) Z) (hK : zK [1, 2] Zs Z) {x1 : Int} (gx1 : 1 ≤ x1 ∧ x1 ≤ 12) {x2 : Int} (gx2 : 0 ≤ x2 ∧ x2 ≤ 5) {kc0 : Int} {kc1 : Int} (gr0 : Z 2 0 0 102 = kc0) (gr1 : Z 2 0 0 3500 = kc1) {k : wz_K} {R : wz_R} {L : qz_L} (hL : qz_fg [true, true, true, false, false] L = [some (.inr (.inr (some (1, 0, 0)))), some (.inl (i3 x1)), some (.inl (i3 x2)), none, none]) {T : qz_Z × Int} (hP : zE T (zl_523_3q x1 ((5 - x2).toNat + 1) Z x2)) (hk : ∀ (L9 : qz_L) (Z9 : qz_Z) (yx2 : Int), qz_fg [true, true, false, false, false] L9 = [some (.inr (.inr (some (1, 0, 0)))), some (.inl (i3 x1)), none, none, none] → zI (some none) Z9 → zK [1, 2] Zs Z9 → (0 ≤ yx2 ∧ yx2 ≤ 5) → (Z9 2 0 0 102 = kc0) → (Z9 2 0 0 3500 = kc1) → zE T ((Z9, yx2)) → k 0 (L9, [], zm Z9 ν)) : wz_loop qb_523_3 65536 k R (L, [], zm Z ν) := by
  refine wz_lp sb_523_3 (fun m x => ∃ Z : qz_Z, ∃ x2 : Int, qz_fg [true, true, true, false, false] x.1 = [some (.inr (.inr (some (1, 0, 0)))), some (.inl (i3 x1)), some (.inl (i3 x2)), none, none] ∧ x.2 = ([], zm Z ν) ∧ zI (some none) Z ∧ zK [1, 2] Zs Z ∧ m = (5 - x2).toNat ∧ (0 ≤ x2 ∧ x2 ≤ 5) ∧ (Z 2 0 0 102 = kc0) ∧ (Z 2 0 0 3500 = kc1) ∧ zE T (zl_523_3q x1 (m + 1) Z x2)) ?_ 65536 ((5 - x2).toNat) _ (by omega) ⟨Z, x2, hL, rfl, hZ, hK, rfl, gx2, gr0, gr1, hP⟩
  clear hP gr0 gr1 gx2 hZ hK hL
  clear x2
  clear Z
  rintro m ⟨L, st, μ⟩ ⟨Z, x2, hL, hx, hZ, hK, hm, gx2, gr0, gr1, hP⟩
  cases hx
  refine fb_523_3 (i3 x1) (i3 x2) _ _ _ _ hL ?_
  refine wz_br (i3Le (show (5 : Int32) = i3 5 from rfl) (rfl : i3 x2 = i3 x2) (by omega) (by omega) (by omega) (by omega)) (fun h1 => ?_) (fun h1 => ?_)
  · replace hP := zE_p hP h1
    exact hk _ _ _ (zconso rfl (zconso (zvo (rfl : i3 x1 = i3 x1)) (zconso rfl (zconso rfl (zconso rfl rfl))))) hZ hK (by omega) (by omega) (by omega) hP
  · replace hP := zE_n hP h1
    refine sl_523_1q (ν := ν) hZ zK_r (x1 := x1) (by omega) (x2 := x2) (by omega) (x3 := (x2 + 1)) (by omega) (kc1 := Z 2 0 0 3500) (kc0 := Z 2 0 0 102) (by omega) (by omega) (zconso rfl (zconso (zvo (rfl : i3 x1 = i3 x1)) (zconso (zvo (rfl : i3 x2 = i3 x2)) (zconso (zvo (i3A (rfl : i3 x2 = i3 x2) (show (1 : Int32) = i3 1 from rfl))) (zconso rfl rfl))))) rfl ?_
    intro L4 Z3 y2 hL4 hZ3I kZ3 gy2 gL4_0 gL4_1 q9
    replace hP := zl_e2 hP (Eq.symm q9)
    clear q9
    have hZ3K : zK [1, 2] Zs Z3 := zK_t hK kZ3 (by decide)
    refine fc_523_2 (i3 x1) (i3 x2) _ _ _ _ hL4 ?_
    obtain ⟨m2, rfl⟩ : ∃ m2, m = m2 + 1 := ⟨m - 1, by omega⟩
    refine wz_kbs (n := 1) (?_)
    exact wz_k1 ⟨m2, by omega, Z3, (x2 + 1), (zconso rfl (zconso (zvo (rfl : i3 x1 = i3 x1)) (zconso (zvo (i3A (rfl : i3 x2 = i3 x2) (show (1 : Int32) = i3 1 from rfl))) (zconso rfl (zconso rfl rfl))))), rfl, hZ3I, hZ3K, by omega, by omega, by omega, by omega,  hP⟩

/- yX12_tSeason -/
def zl_523_4q (x2 : Int) : Nat → qz_Z → Int → qz_Z × Int
  | 0, Z, x3 => (Z, x3)
  | m + 1, Z, x3 => (if x2 ≤ x3 then (Z, x3) else (zlet (zu Z 1 0 0 3 (((25173 * (Z 1 0 0 3)) + 13849) % 65536)) (fun Z3 => (zlet (zu Z3 1 0 0 3 (((25173 * (Z3 1 0 0 3)) + 13849) % 65536)) (fun Z8 => (zlet2 (zf_539q Z8 (20 + (((Z3 1 0 0 3) / 16) % 60)) (2 + (((Z8 1 0 0 3) / 16) % 13))) (fun Z14 v13 => zl_523_4q x2 m Z14 (x3 + 1))))))))
theorem sl_523_4q {Zs Z : qz_Z} {ν : qz_N} (hZ : zI (some none) Z) (hK : zK [1, 2] Zs Z) {x2 : Int} (gx2 : 1 ≤ x2 ∧ x2 ≤ 4) {x3 : Int} (gx3 : 0 ≤ x3 ∧ x3 ≤ 4) {kc0 : Int} {kc1 : Int} (gr0 : Z 2 0 0 102 = kc0) (gr1 : Z 2 0 0 3500 = kc1) {k : wz_K} {R : wz_R} {L : qz_L} (hL : qz_fg [true, false, true, true, false] L = [some (.inr (.inr (some (1, 0, 0)))), none, some (.inl (i3 x2)), some (.inl (i3 x3)), none]) {T : qz_Z × Int} (hP : zE T (zl_523_4q x2 ((4 - x3).toNat + 1) Z x3)) (hk : ∀ (L9 : qz_L) (Z9 : qz_Z) (yx3 : Int), qz_fg [false, false, false, false, false] L9 = [none, none, none, none, none] → zI (some none) Z9 → zK [1, 2] Zs Z9 → (0 ≤ yx3 ∧ yx3 ≤ 4) → (Z9 2 0 0 102 = kc0) → (Z9 2 0 0 3500 = kc1) → zE T ((Z9, yx3)) → k 0 (L9, [], zm Z9 ν)) : wz_loop qb_523_4 65536 k R (L, [], zm Z ν) := by
  refine wz_lp sb_523_4 (fun m x => ∃ Z : qz_Z, ∃ x3 : Int, qz_fg [true, false, true, true, false] x.1 = [some (.inr (.inr (some (1, 0, 0)))), none, some (.inl (i3 x2)), some (.inl (i3 x3)), none] ∧ x.2 = ([], zm Z ν) ∧ zI (some none) Z ∧ zK [1, 2] Zs Z ∧ m = (4 - x3).toNat ∧ (0 ≤ x3 ∧ x3 ≤ 4) ∧ (Z 2 0 0 102 = kc0) ∧ (Z 2 0 0 3500 = kc1) ∧ zE T (zl_523_4q x2 (m + 1) Z x3)) ?_ 65536 ((4 - x3).toNat) _ (by omega) ⟨Z, x3, hL, rfl, hZ, hK, rfl, gx3, gr0, gr1, hP⟩
  clear hP gr0 gr1 gx3 hZ hK hL
  clear x3
  clear Z
  rintro m ⟨L, st, μ⟩ ⟨Z, x3, hL, hx, hZ, hK, hm, gx3, gr0, gr1, hP⟩
  cases hx
  refine fb_523_4 (i3 x2) (i3 x3) _ _ _ _ hL ?_
  refine wz_br (i3Le (rfl : i3 x2 = i3 x2) (rfl : i3 x3 = i3 x3) (by omega) (by omega) (by omega) (by omega)) (fun h1 => ?_) (fun h1 => ?_)
  · replace hP := zE_p hP h1
    exact hk _ _ _ (zconso rfl (zconso rfl (zconso rfl (zconso rfl (zconso rfl rfl))))) hZ hK (by omega) (by omega) (by omega) hP
  · replace hP := zE_n hP h1
    have r2 := zI_k hZ 1 0 0 3 (lo := 0) (hi := 65535) (by decide) rfl
    obtain ⟨Z3, hZ3⟩ := zx (zu Z 1 0 0 3 (((25173 * (Z 1 0 0 3)) + 13849) % 65536))
    replace hP := zl_e hP hZ3
    have hZ3I := zI_u hZ hZ3 (lo := 0) (hi := 65535) (by decide) rfl (by omega) ⟨by decide, by decide⟩ (Or.inr (by decide))
    have t4 : Z3 2 0 0 102 = Z 2 0 0 102 := zu_ne hZ3 (fun q => absurd q.1 (by decide))
    have t5 : Z3 2 0 0 3500 = Z 2 0 0 3500 := zu_ne hZ3 (fun q => absurd q.1 (by decide))
    have hZ3K := zK_u hK hZ3 (by decide)
    intro μ9 e9
    replace e9 := e9.trans (zm_wI (Z := Z) (ν := ν) hZ3 (show ((0 : Nat) : Int) = 0 from rfl) (show ((0 : Nat) : Int) = 0 from rfl) (show ((3 : Nat) : Int) = 3 from rfl) (i3R (i3A (i3M (show (25173 : Int32) = i3 25173 from rfl) (zm_rd (Z := Z) (ν := ν) (k := 1) (show ((0 : Nat) : Int) = 0 from rfl) (show ((0 : Nat) : Int) = 0 from rfl) (show ((3 : Nat) : Int) = 3 from rfl))) (show (13849 : Int32) = i3 13849 from rfl)) (show (65536 : Int32) = i3 65536 from rfl) (by omega) (by omega) (by omega) (by omega)))
    subst e9
    have r6 := zI_k hZ3I 1 0 0 3 (lo := 0) (hi := 65535) (by decide) rfl
    have q7 := zu_at hZ3
    obtain ⟨Z8, hZ8⟩ := zx (zu Z3 1 0 0 3 (((25173 * (Z3 1 0 0 3)) + 13849) % 65536))
    replace hP := zl_e hP hZ8
    have hZ8I := zI_u hZ3I hZ8 (lo := 0) (hi := 65535) (by decide) rfl (by omega) ⟨by decide, by decide⟩ (Or.inr (by decide))
    have t9 : Z8 2 0 0 102 = Z3 2 0 0 102 := zu_ne hZ8 (fun q => absurd q.1 (by decide))
    have t10 : Z8 2 0 0 3500 = Z3 2 0 0 3500 := zu_ne hZ8 (fun q => absurd q.1 (by decide))
    have hZ8K := zK_u hZ3K hZ8 (by decide)
    intro μ9 e9
    replace e9 := e9.trans (zm_wI (Z := Z3) (ν := ν) hZ8 (show ((0 : Nat) : Int) = 0 from rfl) (show ((0 : Nat) : Int) = 0 from rfl) (show ((3 : Nat) : Int) = 3 from rfl) (i3R (i3A (i3M (show (25173 : Int32) = i3 25173 from rfl) (zm_rd (Z := Z3) (ν := ν) (k := 1) (show ((0 : Nat) : Int) = 0 from rfl) (show ((0 : Nat) : Int) = 0 from rfl) (show ((3 : Nat) : Int) = 3 from rfl))) (show (13849 : Int32) = i3 13849 from rfl)) (show (65536 : Int32) = i3 65536 from rfl) (by omega) (by omega) (by omega) (by omega)))
    subst e9
    have r11 := zI_k hZ8I 1 0 0 3 (lo := 0) (hi := 65535) (by decide) rfl
    have q12 := zu_at hZ8
    obtain ⟨Z14, v13, hv13, c9, hZ14I, kZ14, lv13, uv13, wv130, wv131⟩ := sp_539q (ν := ν) hZ8I (a1 := (20 + (((Z3 1 0 0 3) / 16) % 60))) (by omega) (a2 := (2 + (((Z8 1 0 0 3) / 16) % 13))) (by omega)
    have hZ14K : zK [1, 2] Zs Z14 := zK_t hZ8K kZ14 (by decide)
    replace hP := zl_e2 hP hv13
    refine wz_cI_of (zas (zcons rfl (zcons (zvi (i3A (show (20 : Int32) = i3 20 from rfl) (i3R (i3D (zm_rd (Z := Z3) (ν := ν) (k := 1) (show ((0 : Nat) : Int) = 0 from rfl) (show ((0 : Nat) : Int) = 0 from rfl) (show ((3 : Nat) : Int) = 3 from rfl)) (show (16 : Int32) = i3 16 from rfl) (by omega) (by omega) (by omega) (by omega)) (show (60 : Int32) = i3 60 from rfl) (by omega) (by omega) (by omega) (by omega)))) (zcons (zvi (i3A (show (2 : Int32) = i3 2 from rfl) (i3R (i3D (zm_rd (Z := Z8) (ν := ν) (k := 1) (show ((0 : Nat) : Int) = 0 from rfl) (show ((0 : Nat) : Int) = 0 from rfl) (show ((3 : Nat) : Int) = 3 from rfl)) (show (16 : Int32) = i3 16 from rfl) (by omega) (by omega) (by omega) (by omega)) (show (13 : Int32) = i3 13 from rfl) (by omega) (by omega) (by omega) (by omega)))) rfl))) c9) ?_
    clear c9 hv13
    obtain ⟨m2, rfl⟩ : ∃ m2, m = m2 + 1 := ⟨m - 1, by omega⟩
    exact wz_k1 ⟨m2, by omega, Z14, (x3 + 1), (zconso rfl (zconso rfl (zconso (zvo (rfl : i3 x2 = i3 x2)) (zconso (zvo (i3A (rfl : i3 x3 = i3 x3) (show (1 : Int32) = i3 1 from rfl))) (zconso rfl rfl))))), rfl, hZ14I, hZ14K, by omega, by omega, by omega, by omega,  hP⟩

/- yX12_tSeason -/
def zf_523q (Z : qz_Z) (a1 : Int) : qz_Z := (zlet2 (zl_523_3q a1 6 Z 0) (fun Z2 y1 => (zlet (zu Z2 1 0 0 3 (((25173 * (Z2 1 0 0 3)) + 13849) % 65536)) (fun Z5 => (zlet2 (zf_336q Z5 (1 + (((Z5 1 0 0 3) / 16) % 4))) (fun Z11 v10 => (if a1 ≤ 4 then (zlet2 (zl_523_4q a1 5 Z11 0) (fun Z14 y13 => Z14)) else (zlet2 (zl_523_4q 4 5 Z11 0) (fun Z17 y16 => Z17)))))))))
theorem sp_523q {Z : qz_Z} {ν : qz_N} (hZ : zI (some none) Z) {a1 : Int} (ga1 : 1 ≤ a1 ∧ a1 ≤ 12) : ∃ P : qz_Z, P = zf_523q Z a1 ∧ (qf_523 [.inr (.inr (some (1, 0, 0))), .inl (i3 a1)] (zm Z ν) = some (zm P ν, .inl none) ∧ zI (some none) P ∧ zK [1, 2] Z P ∧ P 2 0 0 102 = Z 2 0 0 102 ∧ P 2 0 0 3500 = Z 2 0 0 3500) := by
  obtain ⟨P, hP⟩ := zx (zf_523q Z a1)
  refine zc_V (Q := fun P => zI (some none) P ∧ zK [1, 2] Z P ∧ P 2 0 0 102 = Z 2 0 0 102 ∧ P 2 0 0 3500 = Z 2 0 0 3500) hP (fw_523 (i3 a1) _ _ ?_)
  replace hP : zE P (zf_523q Z a1) := hP
  unfold zf_523q at hP
  refine sl_523_3q (ν := ν) hZ zK_r (x1 := a1) (by omega) (x2 := 0) (by omega) (kc1 := Z 2 0 0 3500) (kc0 := Z 2 0 0 102) (by omega) (by omega) (zconso rfl (zconso (zvo (rfl : i3 a1 = i3 a1)) (zconso (zvo (show (0 : Int32) = i3 0 from rfl)) (zconso rfl (zconso rfl rfl))))) rfl ?_
  intro L3 Z2 y1 hL3 hZ2I kZ2 gy1 gL3_0 gL3_1 q9
  replace hP := zl_e2 hP (Eq.symm q9)
  clear q9
  have hZ2K : zK [1, 2] Z Z2 := zK_t zK_r kZ2 (by decide)
  refine fc_523_6 (i3 a1) _ _ _ _ hL3 ?_
  have r4 := zI_k hZ2I 1 0 0 3 (lo := 0) (hi := 65535) (by decide) rfl
  obtain ⟨Z5, hZ5⟩ := zx (zu Z2 1 0 0 3 (((25173 * (Z2 1 0 0 3)) + 13849) % 65536))
  replace hP := zl_e hP hZ5
  have hZ5I := zI_u hZ2I hZ5 (lo := 0) (hi := 65535) (by decide) rfl (by omega) ⟨by decide, by decide⟩ (Or.inr (by decide))
  have t6 : Z5 2 0 0 102 = Z2 2 0 0 102 := zu_ne hZ5 (fun q => absurd q.1 (by decide))
  have t7 : Z5 2 0 0 3500 = Z2 2 0 0 3500 := zu_ne hZ5 (fun q => absurd q.1 (by decide))
  have hZ5K := zK_u hZ2K hZ5 (by decide)
  intro μ9 e9
  replace e9 := e9.trans (zm_wI (Z := Z2) (ν := ν) hZ5 (show ((0 : Nat) : Int) = 0 from rfl) (show ((0 : Nat) : Int) = 0 from rfl) (show ((3 : Nat) : Int) = 3 from rfl) (i3R (i3A (i3M (show (25173 : Int32) = i3 25173 from rfl) (zm_rd (Z := Z2) (ν := ν) (k := 1) (show ((0 : Nat) : Int) = 0 from rfl) (show ((0 : Nat) : Int) = 0 from rfl) (show ((3 : Nat) : Int) = 3 from rfl))) (show (13849 : Int32) = i3 13849 from rfl)) (show (65536 : Int32) = i3 65536 from rfl) (by omega) (by omega) (by omega) (by omega)))
  subst e9
  have r8 := zI_k hZ5I 1 0 0 3 (lo := 0) (hi := 65535) (by decide) rfl
  have q9 := zu_at hZ5
  obtain ⟨Z11, v10, hv10, c9, hZ11I, kZ11, lv10, uv10, wv100, wv101⟩ := sp_336q (ν := ν) hZ5I (a1 := (1 + (((Z5 1 0 0 3) / 16) % 4))) (by omega)
  have hZ11K : zK [1, 2] Z Z11 := zK_t hZ5K kZ11 (by decide)
  replace hP := zl_e2 hP hv10
  refine wz_cI_of (zas (zcons rfl (zcons (zvi (i3A (show (1 : Int32) = i3 1 from rfl) (i3R (i3D (zm_rd (Z := Z5) (ν := ν) (k := 1) (show ((0 : Nat) : Int) = 0 from rfl) (show ((0 : Nat) : Int) = 0 from rfl) (show ((3 : Nat) : Int) = 3 from rfl)) (show (16 : Int32) = i3 16 from rfl) (by omega) (by omega) (by omega) (by omega)) (show (4 : Int32) = i3 4 from rfl) (by omega) (by omega) (by omega) (by omega)))) rfl)) c9) ?_
  clear c9 hv10
  refine wz_br (i3Le (rfl : i3 a1 = i3 a1) (show (4 : Int32) = i3 4 from rfl) (by omega) (by omega) (by omega) (by omega)) (fun h12 => ?_) (fun h12 => ?_)
  · replace hP := zE_p hP h12
    refine sl_523_4q (ν := ν) hZ11I zK_r (x2 := a1) (by omega) (x3 := 0) (by omega) (kc1 := Z11 2 0 0 3500) (kc0 := Z11 2 0 0 102) (by omega) (by omega) (zconso rfl (zconso rfl (zconso (zvo (rfl : i3 a1 = i3 a1)) (zconso (zvo (show (0 : Int32) = i3 0 from rfl)) (zconso rfl rfl))))) rfl ?_
    intro L15 Z14 y13 hL15 hZ14I kZ14 gy13 gL15_0 gL15_1 q9
    replace hP := zl_e2 hP (Eq.symm q9)
    clear q9
    have hZ14K : zK [1, 2] Z Z14 := zK_t hZ11K kZ14 (by decide)
    refine fc_523_5  _ _ _ _ hL15 ?_
    exact zlV hP ⟨hZ14I, hZ14K, by omega, by omega⟩
  · replace hP := zE_n hP h12
    refine sl_523_4q (ν := ν) hZ11I zK_r (x2 := 4) (by omega) (x3 := 0) (by omega) (kc1 := Z11 2 0 0 3500) (kc0 := Z11 2 0 0 102) (by omega) (by omega) (zconso rfl (zconso rfl (zconso (zvo (show (4 : Int32) = i3 4 from rfl)) (zconso (zvo (show (0 : Int32) = i3 0 from rfl)) (zconso rfl rfl))))) rfl ?_
    intro L18 Z17 y16 hL18 hZ17I kZ17 gy16 gL18_0 gL18_1 q9
    replace hP := zl_e2 hP (Eq.symm q9)
    clear q9
    have hZ17K : zK [1, 2] Z Z17 := zK_t hZ11K kZ17 (by decide)
    refine fc_523_5  _ _ _ _ hL18 ?_
    exact zlV hP ⟨hZ17I, hZ17K, by omega, by omega⟩

/- yX12_iInspector -/
def zl_359_1s (x1 : Int) (x2 : Int) (x3 : Int) : Nat → qz_Z → Int → qz_Z × Int
  | 0, Z, x4 => (Z, x4)
  | m + 1, Z, x4 => (if 10 ≤ x4 then (Z, x4) else (zlet (zu Z 2 0 0 (3520 + 10 * x3 + x4) 0) (fun Z2 => zl_359_1s x1 x2 x3 m Z2 (x4 + 1))))
theorem sl_359_1s {s : zS} {Zs Z : qz_Z} {ν : qz_N} (hZ : zI s Z) (hK : zK [2] Zs Z) {x1 : Int} (gx1 : 0 ≤ x1 ∧ x1 ≤ 18) {x2 : Int} (gx2 : 0 ≤ x2 ∧ x2 ≤ 3) {x3 : Int} (gx3 : 0 ≤ x3 ∧ x3 ≤ 2) {x4 : Int} (gx4 : 0 ≤ x4 ∧ x4 ≤ 10) {kc0 : Int} {kc1 : Int} (gr0 : Z 2 0 0 102 = kc0) (gr1 : Z 2 0 0 3500 = kc1) {k : wz_K} {R : wz_R} {L : qz_L} (hL : qz_fg [true, true, true, true, true] L = [some (.inr (.inr (some (1, 0, 0)))), some (.inl (i3 x1)), some (.inl (i3 x2)), some (.inl (i3 x3)), some (.inl (i3 x4))]) {T : qz_Z × Int} (hP : zE T (zl_359_1s x1 x2 x3 ((10 - x4).toNat + 1) Z x4)) (hk : ∀ (L9 : qz_L) (Z9 : qz_Z) (yx4 : Int), qz_fg [true, true, true, true, false] L9 = [some (.inr (.inr (some (1, 0, 0)))), some (.inl (i3 x1)), some (.inl (i3 x2)), some (.inl (i3 x3)), none] → zI s Z9 → zK [2] Zs Z9 → (0 ≤ yx4 ∧ yx4 ≤ 10) → (Z9 2 0 0 102 = kc0) → (Z9 2 0 0 3500 = kc1) → zE T ((Z9, yx4)) → k 0 (L9, [], zm Z9 ν)) : wz_loop qb_359_1 65536 k R (L, [], zm Z ν) := by
  refine wz_lp sb_359_1 (fun m x => ∃ Z : qz_Z, ∃ x4 : Int, qz_fg [true, true, true, true, true] x.1 = [some (.inr (.inr (some (1, 0, 0)))), some (.inl (i3 x1)), some (.inl (i3 x2)), some (.inl (i3 x3)), some (.inl (i3 x4))] ∧ x.2 = ([], zm Z ν) ∧ zI s Z ∧ zK [2] Zs Z ∧ m = (10 - x4).toNat ∧ (0 ≤ x4 ∧ x4 ≤ 10) ∧ (Z 2 0 0 102 = kc0) ∧ (Z 2 0 0 3500 = kc1) ∧ zE T (zl_359_1s x1 x2 x3 (m + 1) Z x4)) ?_ 65536 ((10 - x4).toNat) _ (by omega) ⟨Z, x4, hL, rfl, hZ, hK, rfl, gx4, gr0, gr1, hP⟩
  clear hP gr0 gr1 gx4 hZ hK hL
  clear x4
  clear Z
  rintro m ⟨L, st, μ⟩ ⟨Z, x4, hL, hx, hZ, hK, hm, gx4, gr0, gr1, hP⟩
  cases hx
  refine fb_359_1 (i3 x1) (i3 x2) (i3 x3) (i3 x4) _ _ _ _ hL ?_
  refine wz_br (i3Le (show (10 : Int32) = i3 10 from rfl) (rfl : i3 x4 = i3 x4) (by omega) (by omega) (by omega) (by omega)) (fun h1 => ?_) (fun h1 => ?_)
  · replace hP := zE_p hP h1
    exact hk _ _ _ (zconso rfl (zconso (zvo (rfl : i3 x1 = i3 x1)) (zconso (zvo (rfl : i3 x2 = i3 x2)) (zconso (zvo (rfl : i3 x3 = i3 x3)) (zconso rfl rfl))))) hZ hK (by omega) (by omega) (by omega) hP
  · replace hP := zE_n hP h1
    refine wz_i0 (i3O (n := 4400) (i3A (i3A (show (3520 : Int32) = i3 3520 from rfl) (i3M (show (10 : Int32) = i3 10 from rfl) (rfl : i3 x3 = i3 x3))) (rfl : i3 x4 = i3 x4)) (by omega) (by omega) (by omega)) ?_
    obtain ⟨Z2, hZ2⟩ := zx (zu Z 2 0 0 (3520 + 10 * x3 + x4) 0)
    replace hP := zl_e hP hZ2
    have hZ2I := zI_0 hZ hZ2 (by decide) (Or.inl (by decide))
    have t3 : Z2 2 0 0 102 = Z 2 0 0 102 := zu_ne hZ2 (by omega)
    have t4 : Z2 2 0 0 3500 = Z 2 0 0 3500 := zu_ne hZ2 (by omega)
    have hZ2K := zK_u hK hZ2 (by decide)
    intro μ9 e9
    replace e9 := e9.trans (zm_wI (Z := Z) (ν := ν) hZ2 (show ((0 : Nat) : Int) = 0 from rfl) (show ((0 : Nat) : Int) = 0 from rfl) (i3I (y := (3520 + 10 * x3 + x4)) (i3A (i3A (show (3520 : Int32) = i3 3520 from rfl) (i3M (show (10 : Int32) = i3 10 from rfl) (rfl : i3 x3 = i3 x3))) (rfl : i3 x4 = i3 x4)) (by omega) (by omega) (by omega)) (show (0 : Int32) = i3 0 from rfl))
    subst e9
    obtain ⟨m2, rfl⟩ : ∃ m2, m = m2 + 1 := ⟨m - 1, by omega⟩
    exact wz_k1 ⟨m2, by omega, Z2, (x4 + 1), (zconso rfl (zconso (zvo (rfl : i3 x1 = i3 x1)) (zconso (zvo (rfl : i3 x2 = i3 x2)) (zconso (zvo (rfl : i3 x3 = i3 x3)) (zconso (zvo (i3A (rfl : i3 x4 = i3 x4) (show (1 : Int32) = i3 1 from rfl))) rfl))))), rfl, hZ2I, hZ2K, by omega, by omega, by omega, by omega,  hP⟩

/- yX12_iInspector -/
def zf_359 (Z : qz_Z) (a1 : Int) (a2 : Int) : qz_Z × Int := (zlet2 (zl_359_1s a1 a2 (Z 2 0 0 3500) 11 Z 0) (fun Z3 y2 => (zlet (zu Z3 2 0 0 (3520 + 10 * (Z 2 0 0 3500)) a1) (fun Z5 => (zlet (zu Z5 2 0 0 (3521 + 10 * (Z 2 0 0 3500)) a2) (fun Z8 => (zlet (zu Z8 2 0 0 (3527 + 10 * (Z 2 0 0 3500)) (-1)) (fun Z11 => (zlet (zu Z11 2 0 0 3500 ((Z11 2 0 0 3500) + 1)) (fun Z15 => (Z15, (Z 2 0 0 3500))))))))))))
theorem sp_359 {s : zS} {Z : qz_Z} {ν : qz_N} (hZ : zI s Z) {a1 : Int} (ga1 : 0 ≤ a1 ∧ a1 ≤ 18) {a2 : Int} (ga2 : 0 ≤ a2 ∧ a2 ≤ 3) (gx0 : Z 2 0 0 3500 ≤ 1) : ∃ (Z1 : qz_Z) (P : Int), (Z1, P) = zf_359 Z a1 a2 ∧ (qf_359 [.inr (.inr (some (1, 0, 0))), .inl (i3 a1), .inl (i3 a2)] (zm Z ν) = some (zm Z1 ν, .inl (some (.inl (i3 P)))) ∧ zI s Z1 ∧ zK [2] Z Z1 ∧ 0 ≤ P ∧ P ≤ 2 ∧ Z1 2 0 0 3500 = Z 2 0 0 3500 + 1 ∧ Z1 2 0 0 102 = Z 2 0 0 102) := by
  obtain ⟨P, hP⟩ := zx (zf_359 Z a1 a2)
  refine zc_W (Q := fun Z1 P => zI s Z1 ∧ zK [2] Z Z1 ∧ 0 ≤ P ∧ P ≤ 2 ∧ Z1 2 0 0 3500 = Z 2 0 0 3500 + 1 ∧ Z1 2 0 0 102 = Z 2 0 0 102) hP (fw_359 (i3 a1) (i3 a2) _ _ ?_)
  replace hP : zE P (zf_359 Z a1 a2) := hP
  unfold zf_359 at hP
  have r1 := zI_k hZ 2 0 0 3500 (lo := 0) (hi := 2) (by decide) rfl
  refine sl_359_1s (ν := ν) hZ zK_r (x1 := a1) (by omega) (x2 := a2) (by omega) (x3 := (Z 2 0 0 3500)) (by omega) (x4 := 0) (by omega) (kc1 := Z 2 0 0 3500) (kc0 := Z 2 0 0 102) (by omega) (by omega) (zconso rfl (zconso (zvo (rfl : i3 a1 = i3 a1)) (zconso (zvo (rfl : i3 a2 = i3 a2)) (zconso (zvo (zm_rd (Z := Z) (ν := ν) (k := 2) (show ((0 : Nat) : Int) = 0 from rfl) (show ((0 : Nat) : Int) = 0 from rfl) (show ((3500 : Nat) : Int) = 3500 from rfl))) (zconso (zvo (show (0 : Int32) = i3 0 from rfl)) rfl))))) rfl ?_
  intro L4 Z3 y2 hL4 hZ3I kZ3 gy2 gL4_0 gL4_1 q9
  replace hP := zl_e2 hP (Eq.symm q9)
  clear q9
  have hZ3K : zK [2] Z Z3 := zK_t zK_r kZ3 (by decide)
  refine fc_359_2 (i3 a1) (i3 a2) (i3 (Z 2 0 0 3500)) _ _ _ _ hL4 ?_
  refine wz_i0 (i3O (n := 4400) (i3A (i3A (show (3520 : Int32) = i3 3520 from rfl) (i3M (show (10 : Int32) = i3 10 from rfl) (rfl : i3 (Z 2 0 0 3500) = i3 (Z 2 0 0 3500)))) (show (0 : Int32) = i3 0 from rfl)) (by omega) (by omega) (by omega)) ?_
  obtain ⟨Z5, hZ5⟩ := zx (zu Z3 2 0 0 (3520 + 10 * (Z 2 0 0 3500)) a1)
  replace hP := zl_e hP hZ5
  have hZ5I := zI_u hZ3I hZ5 (lo := 0) (hi := 18) (by decide) (zs_3520_0 (x := (Z 2 0 0 3500)) (by omega) (by omega) (by omega)) (by omega) ⟨by decide, by decide⟩ (Or.inl (by decide))
  have t6 : Z5 2 0 0 102 = Z3 2 0 0 102 := zu_ne hZ5 (by omega)
  have t7 : Z5 2 0 0 3500 = Z3 2 0 0 3500 := zu_ne hZ5 (by omega)
  have hZ5K := zK_u hZ3K hZ5 (by decide)
  intro μ9 e9
  replace e9 := e9.trans (zm_wI (Z := Z3) (ν := ν) hZ5 (show ((0 : Nat) : Int) = 0 from rfl) (show ((0 : Nat) : Int) = 0 from rfl) (i3I (y := (3520 + 10 * (Z 2 0 0 3500))) (i3A (i3A (show (3520 : Int32) = i3 3520 from rfl) (i3M (show (10 : Int32) = i3 10 from rfl) (rfl : i3 (Z 2 0 0 3500) = i3 (Z 2 0 0 3500)))) (show (0 : Int32) = i3 0 from rfl)) (by omega) (by omega) (by omega)) (rfl : i3 a1 = i3 a1))
  subst e9
  refine wz_i0 (i3O (n := 4400) (i3A (i3A (show (3520 : Int32) = i3 3520 from rfl) (i3M (show (10 : Int32) = i3 10 from rfl) (rfl : i3 (Z 2 0 0 3500) = i3 (Z 2 0 0 3500)))) (show (1 : Int32) = i3 1 from rfl)) (by omega) (by omega) (by omega)) ?_
  obtain ⟨Z8, hZ8⟩ := zx (zu Z5 2 0 0 (3521 + 10 * (Z 2 0 0 3500)) a2)
  replace hP := zl_e hP hZ8
  have hZ8I := zI_u hZ5I hZ8 (lo := 0) (hi := 3) (by decide) (zs_3520_1 (x := (Z 2 0 0 3500)) (by omega) (by omega) (by omega)) (by omega) ⟨by decide, by decide⟩ (Or.inl (by decide))
  have t9 : Z8 2 0 0 102 = Z5 2 0 0 102 := zu_ne hZ8 (by omega)
  have t10 : Z8 2 0 0 3500 = Z5 2 0 0 3500 := zu_ne hZ8 (by omega)
  have hZ8K := zK_u hZ5K hZ8 (by decide)
  intro μ9 e9
  replace e9 := e9.trans (zm_wI (Z := Z5) (ν := ν) hZ8 (show ((0 : Nat) : Int) = 0 from rfl) (show ((0 : Nat) : Int) = 0 from rfl) (i3I (y := (3521 + 10 * (Z 2 0 0 3500))) (i3A (i3A (show (3520 : Int32) = i3 3520 from rfl) (i3M (show (10 : Int32) = i3 10 from rfl) (rfl : i3 (Z 2 0 0 3500) = i3 (Z 2 0 0 3500)))) (show (1 : Int32) = i3 1 from rfl)) (by omega) (by omega) (by omega)) (rfl : i3 a2 = i3 a2))
  subst e9
  refine wz_i0 (i3O (n := 4400) (i3A (i3A (show (3520 : Int32) = i3 3520 from rfl) (i3M (show (10 : Int32) = i3 10 from rfl) (rfl : i3 (Z 2 0 0 3500) = i3 (Z 2 0 0 3500)))) (show (7 : Int32) = i3 7 from rfl)) (by omega) (by omega) (by omega)) ?_
  obtain ⟨Z11, hZ11⟩ := zx (zu Z8 2 0 0 (3527 + 10 * (Z 2 0 0 3500)) (-1))
  replace hP := zl_e hP hZ11
  have hZ11I := zI_u hZ8I hZ11 (lo := -1) (hi := 671) (by decide) (zs_3520_7 (x := (Z 2 0 0 3500)) (by omega) (by omega) (by omega)) (by omega) ⟨by decide, by decide⟩ (Or.inl (by decide))
  have t12 : Z11 2 0 0 102 = Z8 2 0 0 102 := zu_ne hZ11 (by omega)
  have t13 : Z11 2 0 0 3500 = Z8 2 0 0 3500 := zu_ne hZ11 (by omega)
  have hZ11K := zK_u hZ8K hZ11 (by decide)
  intro μ9 e9
  replace e9 := e9.trans (zm_wI (Z := Z8) (ν := ν) hZ11 (show ((0 : Nat) : Int) = 0 from rfl) (show ((0 : Nat) : Int) = 0 from rfl) (i3I (y := (3527 + 10 * (Z 2 0 0 3500))) (i3A (i3A (show (3520 : Int32) = i3 3520 from rfl) (i3M (show (10 : Int32) = i3 10 from rfl) (rfl : i3 (Z 2 0 0 3500) = i3 (Z 2 0 0 3500)))) (show (7 : Int32) = i3 7 from rfl)) (by omega) (by omega) (by omega)) (show (-1 : Int32) = i3 (-1) from rfl))
  subst e9
  have r14 := zI_k hZ11I 2 0 0 3500 (lo := 0) (hi := 2) (by decide) rfl
  obtain ⟨Z15, hZ15⟩ := zx (zu Z11 2 0 0 3500 ((Z11 2 0 0 3500) + 1))
  replace hP := zl_e hP hZ15
  have hZ15I := zI_u hZ11I hZ15 (lo := 0) (hi := 2) (by decide) rfl (by omega) ⟨by decide, by decide⟩ (Or.inl (by decide))
  have t16 : Z15 2 0 0 102 = Z11 2 0 0 102 := zu_ne hZ15 (fun q => absurd q.2.2.2 (by decide))
  have t17 := zu_at hZ15
  have hZ15K := zK_u hZ11K hZ15 (by decide)
  intro μ9 e9
  replace e9 := e9.trans (zm_wI (Z := Z11) (ν := ν) hZ15 (show ((0 : Nat) : Int) = 0 from rfl) (show ((0 : Nat) : Int) = 0 from rfl) (show ((3500 : Nat) : Int) = 3500 from rfl) (i3A (zm_rd (Z := Z11) (ν := ν) (k := 2) (show ((0 : Nat) : Int) = 0 from rfl) (show ((0 : Nat) : Int) = 0 from rfl) (show ((3500 : Nat) : Int) = 3500 from rfl)) (show (1 : Int32) = i3 1 from rfl)))
  subst e9
  exact zlW hP (rfl : i3 (Z 2 0 0 3500) = i3 (Z 2 0 0 3500)) ⟨hZ15I, hZ15K, by omega, by omega, by omega, by omega⟩

