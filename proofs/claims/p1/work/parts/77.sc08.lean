/-! a season told, the class (printed by season.py c) -/
/- yX8_tellCarriers -/
def zl_146_4 (x0 : Int) (hb : Int) : Nat → qz_Z → Int → qz_Z × Int
  | 0, Z, x1 => (Z, x1)
  | m + 1, Z, x1 => (if (Z 200 x0 0 1) ≤ x1 then (Z, x1) else (if 4 ≤ x1 then (Z, x1) else (zlet (zu Z 200 x0 0 2 (((25173 * (Z 200 x0 0 2)) + 13849) % 65536)) (fun Z5 => (zlet (zu Z5 200 x0 0 2 (((25173 * (Z5 200 x0 0 2)) + 13849) % 65536)) (fun Z13 => (zlet (zu Z13 50 hb (Z13 11 hb 0 8) 0 (20 + (((Z5 200 x0 0 2) / 16) % 60))) (fun Z20 => (zlet (zu Z20 50 hb (Z13 11 hb 0 8) 1 (2 + (((Z13 200 x0 0 2) / 16) % 13))) (fun Z28 => (zlet (zu Z28 50 hb (Z13 11 hb 0 8) 3 (-1)) (fun Z34 => (zlet (zu Z34 50 hb (Z13 11 hb 0 8) 7 (-1)) (fun Z40 => (zlet (zu Z40 50 hb (Z13 11 hb 0 8) 8 (-1)) (fun Z46 => (zlet (zu Z46 11 hb 0 8 ((Z46 11 hb 0 8) + 1)) (fun Z54 => zl_146_4 x0 hb m Z54 (x1 + 1)))))))))))))))))))
theorem sl_146_4 {Zs Z : qz_Z} {ν : qz_N} (x0 : Nat) (hZ : zI (some (some (x0 : Int))) Z) (hK : zK [11, 50, 200] Zs Z) (hb : Nat) (tsn : ∀ Z, qz_tag (zm Z ν) (200, x0, 0) = 2) (rsn : ∀ Z, qz_rm (zm Z ν) 200 x0 0 0 = some (10, hb, 0)) {x1 : Int} (gx1 : 0 ≤ x1 ∧ x1 ≤ 4) {kc0 : Int} {kc1 : Int} {kc2 : Int} {kc3 : Int} (gr0 : Z 11 hb 0 8 = x1) (gr1 : 1 ≤ (x0 : Int)) (gr2 : Z 11 hb 0 3 = kc0) (gr3 : Z 11 hb 0 9 = kc1) (gr4 : Z 200 0 0 1 = kc2) (gr5 : Z 200 0 0 2 = kc3) {k : wz_K} {R : wz_R} {L : qz_L} (hL : qz_fg [true, true, false] L = [some (.inr (.inr (some (200, x0, 0)))), some (.inl (i3 x1)), none]) {T : qz_Z × Int} (hP : zE T (zl_146_4 x0 hb ((4 - x1).toNat + 1) Z x1)) (hk : ∀ (L9 : qz_L) (Z9 : qz_Z) (yx1 : Int), qz_fg [false, false, false] L9 = [none, none, none] → zI (some (some (x0 : Int))) Z9 → zK [11, 50, 200] Zs Z9 → (0 ≤ yx1 ∧ yx1 ≤ 4) → (Z9 11 hb 0 8 = yx1) → (1 ≤ (x0 : Int)) → (Z9 11 hb 0 3 = kc0) → (Z9 11 hb 0 9 = kc1) → (Z9 200 0 0 1 = kc2) → (Z9 200 0 0 2 = kc3) → zE T ((Z9, yx1)) → k 0 (L9, [], zm Z9 ν)) : wz_loop qb_146_4 65536 k R (L, [], zm Z ν) := by
  refine wz_lp sb_146_4 (fun m x => ∃ Z : qz_Z, ∃ x1 : Int, qz_fg [true, true, false] x.1 = [some (.inr (.inr (some (200, x0, 0)))), some (.inl (i3 x1)), none] ∧ x.2 = ([], zm Z ν) ∧ zI (some (some (x0 : Int))) Z ∧ zK [11, 50, 200] Zs Z ∧ m = (4 - x1).toNat ∧ (0 ≤ x1 ∧ x1 ≤ 4) ∧ (Z 11 hb 0 8 = x1) ∧ (1 ≤ (x0 : Int)) ∧ (Z 11 hb 0 3 = kc0) ∧ (Z 11 hb 0 9 = kc1) ∧ (Z 200 0 0 1 = kc2) ∧ (Z 200 0 0 2 = kc3) ∧ zE T (zl_146_4 x0 hb (m + 1) Z x1)) ?_ 65536 ((4 - x1).toNat) _ (by omega) ⟨Z, x1, hL, rfl, hZ, hK, rfl, gx1, gr0, gr1, gr2, gr3, gr4, gr5, hP⟩
  clear hP gr0 gr1 gr2 gr3 gr4 gr5 gx1 hZ hK hL
  clear x1
  clear Z
  rintro m ⟨L, st, μ⟩ ⟨Z, x1, hL, hx, hZ, hK, hm, gx1, gr0, gr1, gr2, gr3, gr4, gr5, hP⟩
  cases hx
  refine fb_146_4 x0 (i3 x1) _ _ _ _ hL ?_
  have rs := zI_xs (n := x0) hZ
  refine wz_i1 (by rw [tsn]; rfl) ?_
  have r1 := zI_xs (n := x0) hZ
  refine wz_br (i3Le (zm_rd (Z := Z) (ν := ν) (k := 200) (rfl : ((x0 : Nat) : Int) = x0) (show ((0 : Nat) : Int) = 0 from rfl) (show ((1 : Nat) : Int) = 1 from rfl)) (rfl : i3 x1 = i3 x1) (by omega) (by omega) (by omega) (by omega)) (fun h2 => ?_) (fun h2 => ?_)
  · replace hP := zE_p hP h2
    exact hk _ _ _ (zconso rfl (zconso rfl (zconso rfl rfl))) hZ hK (by omega) (by omega) (by omega) (by omega) (by omega) (by omega) (by omega) hP
  · replace hP := zE_n hP h2
    refine wz_br (i3Le (show (4 : Int32) = i3 4 from rfl) (rfl : i3 x1 = i3 x1) (by omega) (by omega) (by omega) (by omega)) (fun h3 => ?_) (fun h3 => ?_)
    · replace hP := zE_p hP h3
      exact hk _ _ _ (zconso rfl (zconso rfl (zconso rfl rfl))) hZ hK (by omega) (by omega) (by omega) (by omega) (by omega) (by omega) (by omega) hP
    · replace hP := zE_n hP h3
      refine wz_i1 (by rw [tsn]; rfl) ?_
      refine wz_rko (rsn _) ?_
      refine wz_i1 (by rw [tsn]; rfl) ?_
      refine wz_i1 (by rw [tsn]; rfl) ?_
      refine wz_i1 (by rw [tsn]; rfl) ?_
      have r4 := zI_xr (n := x0) hZ
      obtain ⟨Z5, hZ5⟩ := zx (zu Z 200 x0 0 2 (((25173 * (Z 200 x0 0 2)) + 13849) % 65536))
      replace hP := zl_e hP hZ5
      have hZ5I := zI_x hZ hZ5 (by omega)
      have t6 : Z5 11 hb 0 3 = Z 11 hb 0 3 := zu_ne hZ5 (fun q => absurd q.1 (by decide))
      have t7 : Z5 11 hb 0 9 = Z 11 hb 0 9 := zu_ne hZ5 (fun q => absurd q.1 (by decide))
      have t8 : Z5 11 hb 0 8 = Z 11 hb 0 8 := zu_ne hZ5 (fun q => absurd q.1 (by decide))
      have t9 : Z5 200 0 0 1 = Z 200 0 0 1 := zu_ne hZ5 (fun q => absurd q.2.2.2 (by decide))
      have t10 : Z5 200 0 0 2 = Z 200 0 0 2 := zu_ne hZ5 (by omega)
      have hZ5K := zK_u hK hZ5 (by decide)
      intro μ9 e9
      replace e9 := e9.trans (zm_wI (Z := Z) (ν := ν) hZ5 (rfl : ((x0 : Nat) : Int) = x0) (show ((0 : Nat) : Int) = 0 from rfl) (show ((2 : Nat) : Int) = 2 from rfl) (i3R (i3A (i3M (show (25173 : Int32) = i3 25173 from rfl) (zm_rd (Z := Z) (ν := ν) (k := 200) (rfl : ((x0 : Nat) : Int) = x0) (show ((0 : Nat) : Int) = 0 from rfl) (show ((2 : Nat) : Int) = 2 from rfl))) (show (13849 : Int32) = i3 13849 from rfl)) (show (65536 : Int32) = i3 65536 from rfl) (by omega) (by omega) (by omega) (by omega)))
      subst e9
      refine wz_i1 (by rw [tsn]; rfl) ?_
      refine wz_i1 (by rw [tsn]; rfl) ?_
      refine wz_i1 (by rw [tsn]; rfl) ?_
      refine wz_i1 (by rw [tsn]; rfl) ?_
      have r11 := zI_xr (n := x0) hZ5I
      have q12 := zu_at hZ5
      obtain ⟨Z13, hZ13⟩ := zx (zu Z5 200 x0 0 2 (((25173 * (Z5 200 x0 0 2)) + 13849) % 65536))
      replace hP := zl_e hP hZ13
      have hZ13I := zI_x hZ5I hZ13 (by omega)
      have t14 : Z13 11 hb 0 3 = Z5 11 hb 0 3 := zu_ne hZ13 (fun q => absurd q.1 (by decide))
      have t15 : Z13 11 hb 0 9 = Z5 11 hb 0 9 := zu_ne hZ13 (fun q => absurd q.1 (by decide))
      have t16 : Z13 11 hb 0 8 = Z5 11 hb 0 8 := zu_ne hZ13 (fun q => absurd q.1 (by decide))
      have t17 : Z13 200 0 0 1 = Z5 200 0 0 1 := zu_ne hZ13 (fun q => absurd q.2.2.2 (by decide))
      have t18 : Z13 200 0 0 2 = Z5 200 0 0 2 := zu_ne hZ13 (by omega)
      have hZ13K := zK_u hZ5K hZ13 (by decide)
      intro μ9 e9
      replace e9 := e9.trans (zm_wI (Z := Z5) (ν := ν) hZ13 (rfl : ((x0 : Nat) : Int) = x0) (show ((0 : Nat) : Int) = 0 from rfl) (show ((2 : Nat) : Int) = 2 from rfl) (i3R (i3A (i3M (show (25173 : Int32) = i3 25173 from rfl) (zm_rd (Z := Z5) (ν := ν) (k := 200) (rfl : ((x0 : Nat) : Int) = x0) (show ((0 : Nat) : Int) = 0 from rfl) (show ((2 : Nat) : Int) = 2 from rfl))) (show (13849 : Int32) = i3 13849 from rfl)) (show (65536 : Int32) = i3 65536 from rfl) (by omega) (by omega) (by omega) (by omega)))
      subst e9
      refine wz_i1 (by rw [tsn]; rfl) ?_
      refine wz_i1 rfl ?_
      refine wz_rko (r := (30, _, _)) rfl ?_
      refine wz_i1 rfl ?_
      refine wz_rko (r := (11, _, _)) rfl ?_
      refine wz_i1 rfl ?_
      refine wz_i0 (i3O (n := 17) (show (8 : Int32) = i3 8 from rfl) (by omega) (by omega) (by omega)) ?_
      refine wz_i1 rfl ?_
      have r19 := zI_k hZ13I 11 hb 0 8 (lo := 0) (hi := 4) (by decide) rfl
      refine wz_i0 (i3O (n := 4) (zm_rd (Z := Z13) (ν := ν) (k := 11) (rfl : ((hb : Nat) : Int) = hb) (show ((0 : Nat) : Int) = 0 from rfl) (show ((8 : Nat) : Int) = 8 from rfl)) (by omega) (by omega) (by omega)) ?_
      refine wz_rko (r := (50, _, _)) rfl ?_
      refine wz_i1 rfl ?_
      refine wz_i0 (i3O (n := 22) (show (0 : Int32) = i3 0 from rfl) (by omega) (by omega) (by omega)) ?_
      obtain ⟨Z20, hZ20⟩ := zx (zu Z13 50 hb (Z13 11 hb 0 8) 0 (20 + (((Z5 200 x0 0 2) / 16) % 60)))
      replace hP := zl_e hP hZ20
      have hZ20I := zI_u hZ13I hZ20 (lo := 0) (hi := 99) (by decide) rfl (by omega) ⟨by decide, by decide⟩ (Or.inl (by decide))
      have t21 : Z20 11 hb 0 3 = Z13 11 hb 0 3 := zu_ne hZ20 (fun q => absurd q.1 (by decide))
      have t22 : Z20 11 hb 0 9 = Z13 11 hb 0 9 := zu_ne hZ20 (fun q => absurd q.1 (by decide))
      have t23 : Z20 11 hb 0 8 = Z13 11 hb 0 8 := zu_ne hZ20 (fun q => absurd q.1 (by decide))
      have t24 : Z20 200 0 0 1 = Z13 200 0 0 1 := zu_ne hZ20 (fun q => absurd q.1 (by decide))
      have t25 : Z20 200 0 0 2 = Z13 200 0 0 2 := zu_ne hZ20 (fun q => absurd q.1 (by decide))
      have hZ20K := zK_u hZ13K hZ20 (by decide)
      intro μ9 e9
      replace e9 := e9.trans (zm_wI (Z := Z13) (ν := ν) hZ20 (rfl : ((hb : Nat) : Int) = hb) (i3I (y := (Z13 11 hb 0 8)) (zm_rd (Z := Z13) (ν := ν) (k := 11) (rfl : ((hb : Nat) : Int) = hb) (show ((0 : Nat) : Int) = 0 from rfl) (show ((8 : Nat) : Int) = 8 from rfl)) (by omega) (by omega) (by omega)) (show ((0 : Nat) : Int) = 0 from rfl) (i3A (show (20 : Int32) = i3 20 from rfl) (i3R (i3D (zm_rd (Z := Z5) (ν := ν) (k := 200) (rfl : ((x0 : Nat) : Int) = x0) (show ((0 : Nat) : Int) = 0 from rfl) (show ((2 : Nat) : Int) = 2 from rfl)) (show (16 : Int32) = i3 16 from rfl) (by omega) (by omega) (by omega) (by omega)) (show (60 : Int32) = i3 60 from rfl) (by omega) (by omega) (by omega) (by omega))))
      subst e9
      refine wz_i1 rfl ?_
      refine wz_i0 (i3O (n := 22) (show (1 : Int32) = i3 1 from rfl) (by omega) (by omega) (by omega)) ?_
      have r26 := zI_xr (n := x0) hZ13I
      have q27 := zu_at hZ13
      obtain ⟨Z28, hZ28⟩ := zx (zu Z20 50 hb (Z13 11 hb 0 8) 1 (2 + (((Z13 200 x0 0 2) / 16) % 13)))
      replace hP := zl_e hP hZ28
      have hZ28I := zI_u hZ20I hZ28 (lo := 0) (hi := 40) (by decide) rfl (by omega) ⟨by decide, by decide⟩ (Or.inl (by decide))
      have t29 : Z28 11 hb 0 3 = Z20 11 hb 0 3 := zu_ne hZ28 (fun q => absurd q.1 (by decide))
      have t30 : Z28 11 hb 0 9 = Z20 11 hb 0 9 := zu_ne hZ28 (fun q => absurd q.1 (by decide))
      have t31 : Z28 11 hb 0 8 = Z20 11 hb 0 8 := zu_ne hZ28 (fun q => absurd q.1 (by decide))
      have t32 : Z28 200 0 0 1 = Z20 200 0 0 1 := zu_ne hZ28 (fun q => absurd q.1 (by decide))
      have t33 : Z28 200 0 0 2 = Z20 200 0 0 2 := zu_ne hZ28 (fun q => absurd q.1 (by decide))
      have hZ28K := zK_u hZ20K hZ28 (by decide)
      intro μ9 e9
      replace e9 := e9.trans (zm_wI (Z := Z20) (ν := ν) hZ28 (rfl : ((hb : Nat) : Int) = hb) (i3I (y := (Z13 11 hb 0 8)) (zm_rd (Z := Z13) (ν := ν) (k := 11) (rfl : ((hb : Nat) : Int) = hb) (show ((0 : Nat) : Int) = 0 from rfl) (show ((8 : Nat) : Int) = 8 from rfl)) (by omega) (by omega) (by omega)) (show ((1 : Nat) : Int) = 1 from rfl) (i3A (show (2 : Int32) = i3 2 from rfl) (i3R (i3D (zm_rd (Z := Z13) (ν := ν) (k := 200) (rfl : ((x0 : Nat) : Int) = x0) (show ((0 : Nat) : Int) = 0 from rfl) (show ((2 : Nat) : Int) = 2 from rfl)) (show (16 : Int32) = i3 16 from rfl) (by omega) (by omega) (by omega) (by omega)) (show (13 : Int32) = i3 13 from rfl) (by omega) (by omega) (by omega) (by omega))))
      subst e9
      refine wz_i1 rfl ?_
      refine wz_i0 (i3O (n := 22) (show (3 : Int32) = i3 3 from rfl) (by omega) (by omega) (by omega)) ?_
      obtain ⟨Z34, hZ34⟩ := zx (zu Z28 50 hb (Z13 11 hb 0 8) 3 (-1))
      replace hP := zl_e hP hZ34
      have hZ34I := zI_u hZ28I hZ34 (lo := -1) (hi := 671) (by decide) rfl (by omega) ⟨by decide, by decide⟩ (Or.inl (by decide))
      have t35 : Z34 11 hb 0 3 = Z28 11 hb 0 3 := zu_ne hZ34 (fun q => absurd q.1 (by decide))
      have t36 : Z34 11 hb 0 9 = Z28 11 hb 0 9 := zu_ne hZ34 (fun q => absurd q.1 (by decide))
      have t37 : Z34 11 hb 0 8 = Z28 11 hb 0 8 := zu_ne hZ34 (fun q => absurd q.1 (by decide))
      have t38 : Z34 200 0 0 1 = Z28 200 0 0 1 := zu_ne hZ34 (fun q => absurd q.1 (by decide))
      have t39 : Z34 200 0 0 2 = Z28 200 0 0 2 := zu_ne hZ34 (fun q => absurd q.1 (by decide))
      have hZ34K := zK_u hZ28K hZ34 (by decide)
      intro μ9 e9
      replace e9 := e9.trans (zm_wI (Z := Z28) (ν := ν) hZ34 (rfl : ((hb : Nat) : Int) = hb) (i3I (y := (Z13 11 hb 0 8)) (zm_rd (Z := Z13) (ν := ν) (k := 11) (rfl : ((hb : Nat) : Int) = hb) (show ((0 : Nat) : Int) = 0 from rfl) (show ((8 : Nat) : Int) = 8 from rfl)) (by omega) (by omega) (by omega)) (show ((3 : Nat) : Int) = 3 from rfl) (show (-1 : Int32) = i3 (-1) from rfl))
      subst e9
      refine wz_i1 rfl ?_
      refine wz_i0 (i3O (n := 22) (show (7 : Int32) = i3 7 from rfl) (by omega) (by omega) (by omega)) ?_
      obtain ⟨Z40, hZ40⟩ := zx (zu Z34 50 hb (Z13 11 hb 0 8) 7 (-1))
      replace hP := zl_e hP hZ40
      have hZ40I := zI_u hZ34I hZ40 (lo := -1) (hi := 671) (by decide) rfl (by omega) ⟨by decide, by decide⟩ (Or.inl (by decide))
      have t41 : Z40 11 hb 0 3 = Z34 11 hb 0 3 := zu_ne hZ40 (fun q => absurd q.1 (by decide))
      have t42 : Z40 11 hb 0 9 = Z34 11 hb 0 9 := zu_ne hZ40 (fun q => absurd q.1 (by decide))
      have t43 : Z40 11 hb 0 8 = Z34 11 hb 0 8 := zu_ne hZ40 (fun q => absurd q.1 (by decide))
      have t44 : Z40 200 0 0 1 = Z34 200 0 0 1 := zu_ne hZ40 (fun q => absurd q.1 (by decide))
      have t45 : Z40 200 0 0 2 = Z34 200 0 0 2 := zu_ne hZ40 (fun q => absurd q.1 (by decide))
      have hZ40K := zK_u hZ34K hZ40 (by decide)
      intro μ9 e9
      replace e9 := e9.trans (zm_wI (Z := Z34) (ν := ν) hZ40 (rfl : ((hb : Nat) : Int) = hb) (i3I (y := (Z13 11 hb 0 8)) (zm_rd (Z := Z13) (ν := ν) (k := 11) (rfl : ((hb : Nat) : Int) = hb) (show ((0 : Nat) : Int) = 0 from rfl) (show ((8 : Nat) : Int) = 8 from rfl)) (by omega) (by omega) (by omega)) (show ((7 : Nat) : Int) = 7 from rfl) (show (-1 : Int32) = i3 (-1) from rfl))
      subst e9
      refine wz_i1 rfl ?_
      refine wz_i0 (i3O (n := 22) (show (8 : Int32) = i3 8 from rfl) (by omega) (by omega) (by omega)) ?_
      obtain ⟨Z46, hZ46⟩ := zx (zu Z40 50 hb (Z13 11 hb 0 8) 8 (-1))
      replace hP := zl_e hP hZ46
      have hZ46I := zI_u hZ40I hZ46 (lo := -1) (hi := 743) (by decide) rfl (by omega) ⟨by decide, by decide⟩ (Or.inl (by decide))
      have t47 : Z46 11 hb 0 3 = Z40 11 hb 0 3 := zu_ne hZ46 (fun q => absurd q.1 (by decide))
      have t48 : Z46 11 hb 0 9 = Z40 11 hb 0 9 := zu_ne hZ46 (fun q => absurd q.1 (by decide))
      have t49 : Z46 11 hb 0 8 = Z40 11 hb 0 8 := zu_ne hZ46 (fun q => absurd q.1 (by decide))
      have t50 : Z46 200 0 0 1 = Z40 200 0 0 1 := zu_ne hZ46 (fun q => absurd q.1 (by decide))
      have t51 : Z46 200 0 0 2 = Z40 200 0 0 2 := zu_ne hZ46 (fun q => absurd q.1 (by decide))
      have hZ46K := zK_u hZ40K hZ46 (by decide)
      intro μ9 e9
      replace e9 := e9.trans (zm_wI (Z := Z40) (ν := ν) hZ46 (rfl : ((hb : Nat) : Int) = hb) (i3I (y := (Z13 11 hb 0 8)) (zm_rd (Z := Z13) (ν := ν) (k := 11) (rfl : ((hb : Nat) : Int) = hb) (show ((0 : Nat) : Int) = 0 from rfl) (show ((8 : Nat) : Int) = 8 from rfl)) (by omega) (by omega) (by omega)) (show ((8 : Nat) : Int) = 8 from rfl) (show (-1 : Int32) = i3 (-1) from rfl))
      subst e9
      refine wz_i1 rfl ?_
      refine wz_rko (r := (11, _, _)) rfl ?_
      refine wz_i1 rfl ?_
      refine wz_i0 (i3O (n := 17) (show (8 : Int32) = i3 8 from rfl) (by omega) (by omega) (by omega)) ?_
      refine wz_i1 rfl ?_
      refine wz_i0 (i3O (n := 17) (show (8 : Int32) = i3 8 from rfl) (by omega) (by omega) (by omega)) ?_
      have r52 := zI_k hZ46I 11 hb 0 8 (lo := 0) (hi := 4) (by decide) rfl
      have q53 := (zu_ne (k' := 11) (b' := hb) (i' := 0) (j' := 8) hZ46 (fun q => absurd q.1 (by decide))).trans ((zu_ne (k' := 11) (b' := hb) (i' := 0) (j' := 8) hZ40 (fun q => absurd q.1 (by decide))).trans ((zu_ne (k' := 11) (b' := hb) (i' := 0) (j' := 8) hZ34 (fun q => absurd q.1 (by decide))).trans ((zu_ne (k' := 11) (b' := hb) (i' := 0) (j' := 8) hZ28 (fun q => absurd q.1 (by decide))).trans (zu_ne (k' := 11) (b' := hb) (i' := 0) (j' := 8) hZ20 (fun q => absurd q.1 (by decide))))))
      obtain ⟨Z54, hZ54⟩ := zx (zu Z46 11 hb 0 8 ((Z46 11 hb 0 8) + 1))
      replace hP := zl_e hP hZ54
      have hZ54I := zI_u hZ46I hZ54 (lo := 0) (hi := 4) (by decide) rfl (by omega) ⟨by decide, by decide⟩ (Or.inl (by decide))
      have t55 : Z54 11 hb 0 3 = Z46 11 hb 0 3 := zu_ne hZ54 (fun q => absurd q.2.2.2 (by decide))
      have t56 : Z54 11 hb 0 9 = Z46 11 hb 0 9 := zu_ne hZ54 (fun q => absurd q.2.2.2 (by decide))
      have t57 := zu_at hZ54
      have t58 : Z54 200 0 0 1 = Z46 200 0 0 1 := zu_ne hZ54 (fun q => absurd q.1 (by decide))
      have t59 : Z54 200 0 0 2 = Z46 200 0 0 2 := zu_ne hZ54 (fun q => absurd q.1 (by decide))
      have hZ54K := zK_u hZ46K hZ54 (by decide)
      intro μ9 e9
      replace e9 := e9.trans (zm_wI (Z := Z46) (ν := ν) hZ54 (rfl : ((hb : Nat) : Int) = hb) (show ((0 : Nat) : Int) = 0 from rfl) (show ((8 : Nat) : Int) = 8 from rfl) (i3A (zm_rd (Z := Z46) (ν := ν) (k := 11) (rfl : ((hb : Nat) : Int) = hb) (show ((0 : Nat) : Int) = 0 from rfl) (show ((8 : Nat) : Int) = 8 from rfl)) (show (1 : Int32) = i3 1 from rfl)))
      subst e9
      obtain ⟨m2, rfl⟩ : ∃ m2, m = m2 + 1 := ⟨m - 1, by omega⟩
      exact wz_k1 ⟨m2, by omega, Z54, (x1 + 1), (zconso rfl (zconso (zvo (i3A (rfl : i3 x1 = i3 x1) (show (1 : Int32) = i3 1 from rfl))) (zconso rfl rfl))), rfl, hZ54I, hZ54K, by omega, by omega, by omega, by omega, by omega, by omega, by omega, by omega,  hP⟩

/- yX8_tellCarriers -/
def zf_146 (Z : qz_Z) (sn hb : Int) : qz_Z := (zlet2 (zl_146_3 sn hb 7 Z 0) (fun Z2 y1 => (zlet (zu Z2 200 sn 0 2 (((25173 * (Z2 200 sn 0 2)) + 13849) % 65536)) (fun Z5 => (zlet (zu Z5 11 hb 0 14 (1 + (((Z5 200 sn 0 2) / 16) % 4))) (fun Z13 => (zlet2 (zl_146_4 sn hb 5 Z13 0) (fun Z20 y19 => Z20))))))))
theorem sp_146 {Z : qz_Z} {ν : qz_N} {sn : Nat} (hZ : zI (some (some (sn : Int))) Z) (hb : Nat) (tsn : ∀ Z, qz_tag (zm Z ν) (200, sn, 0) = 2) (rsn : ∀ Z, qz_rm (zm Z ν) 200 sn 0 0 = some (10, hb, 0)) (gx0 : Z 11 hb 0 8 = 0) (gx1 : 1 ≤ (sn : Int)) : ∃ P : qz_Z, P = zf_146 Z sn hb ∧ (qf_146 [.inr (.inr (some (200, sn, 0)))] (zm Z ν) = some (zm P ν, .inl none) ∧ zI (some (some (sn : Int))) P ∧ zK [11, 40, 50, 200] Z P ∧ P 11 hb 0 3 = Z 11 hb 0 3 ∧ P 11 hb 0 9 = Z 11 hb 0 9 ∧ P 200 0 0 1 = Z 200 0 0 1 ∧ P 200 0 0 2 = Z 200 0 0 2) := by
  obtain ⟨P, hP⟩ := zx (zf_146 Z sn hb)
  refine zc_V (Q := fun P => zI (some (some (sn : Int))) P ∧ zK [11, 40, 50, 200] Z P ∧ P 11 hb 0 3 = Z 11 hb 0 3 ∧ P 11 hb 0 9 = Z 11 hb 0 9 ∧ P 200 0 0 1 = Z 200 0 0 1 ∧ P 200 0 0 2 = Z 200 0 0 2) hP (fw_146 sn _ _ ?_)
  replace hP : zE P (zf_146 Z sn hb) := hP
  unfold zf_146 at hP
  have rs := zI_xs (n := sn) hZ
  refine sl_146_3 (ν := ν) sn hZ zK_r hb tsn rsn (x1 := 0) (by omega) (kc4 := Z 200 0 0 2) (kc3 := Z 200 0 0 1) (kc2 := Z 11 hb 0 9) (kc1 := Z 11 hb 0 8) (kc0 := Z 11 hb 0 3) (by omega) (by omega) (by omega) (by omega) (by omega) (by omega) (zconso rfl (zconso (zvo (show (0 : Int32) = i3 0 from rfl)) (zconso rfl rfl))) rfl ?_
  intro L3 Z2 y1 hL3 hZ2I kZ2 gy1 gL3_0 gL3_1 gL3_2 gL3_3 gL3_4 gL3_5 q9
  replace hP := zl_e2 hP (Eq.symm q9)
  clear q9
  have hZ2K : zK [11, 40, 50, 200] Z Z2 := zK_t zK_r kZ2 (by decide)
  refine fc_146_6 _ _ _ _ _ hL3 ?_
  refine wz_i1 (by rw [tsn]; rfl) ?_
  refine wz_rko (rsn _) ?_
  refine wz_i1 rfl ?_
  refine wz_rko (r := (11, _, _)) rfl ?_
  refine wz_i1 (by rw [tsn]; rfl) ?_
  refine wz_i1 (by rw [tsn]; rfl) ?_
  refine wz_i1 (by rw [tsn]; rfl) ?_
  have r4 := zI_xr (n := sn) hZ2I
  obtain ⟨Z5, hZ5⟩ := zx (zu Z2 200 sn 0 2 (((25173 * (Z2 200 sn 0 2)) + 13849) % 65536))
  replace hP := zl_e hP hZ5
  have hZ5I := zI_x hZ2I hZ5 (by omega)
  have t6 : Z5 11 hb 0 3 = Z2 11 hb 0 3 := zu_ne hZ5 (fun q => absurd q.1 (by decide))
  have t7 : Z5 11 hb 0 8 = Z2 11 hb 0 8 := zu_ne hZ5 (fun q => absurd q.1 (by decide))
  have t8 : Z5 11 hb 0 9 = Z2 11 hb 0 9 := zu_ne hZ5 (fun q => absurd q.1 (by decide))
  have t9 : Z5 200 0 0 1 = Z2 200 0 0 1 := zu_ne hZ5 (fun q => absurd q.2.2.2 (by decide))
  have t10 : Z5 200 0 0 2 = Z2 200 0 0 2 := zu_ne hZ5 (by omega)
  have hZ5K := zK_u hZ2K hZ5 (by decide)
  intro μ9 e9
  replace e9 := e9.trans (zm_wI (Z := Z2) (ν := ν) hZ5 (rfl : ((sn : Nat) : Int) = sn) (show ((0 : Nat) : Int) = 0 from rfl) (show ((2 : Nat) : Int) = 2 from rfl) (i3R (i3A (i3M (show (25173 : Int32) = i3 25173 from rfl) (zm_rd (Z := Z2) (ν := ν) (k := 200) (rfl : ((sn : Nat) : Int) = sn) (show ((0 : Nat) : Int) = 0 from rfl) (show ((2 : Nat) : Int) = 2 from rfl))) (show (13849 : Int32) = i3 13849 from rfl)) (show (65536 : Int32) = i3 65536 from rfl) (by omega) (by omega) (by omega) (by omega)))
  subst e9
  refine wz_i1 (by rw [tsn]; rfl) ?_
  refine wz_i1 rfl ?_
  refine wz_i0 (i3O (n := 17) (show (14 : Int32) = i3 14 from rfl) (by omega) (by omega) (by omega)) ?_
  have r11 := zI_xr (n := sn) hZ5I
  have q12 := zu_at hZ5
  obtain ⟨Z13, hZ13⟩ := zx (zu Z5 11 hb 0 14 (1 + (((Z5 200 sn 0 2) / 16) % 4)))
  replace hP := zl_e hP hZ13
  have hZ13I := zI_u hZ5I hZ13 (lo := 0) (hi := 4) (by decide) rfl (by omega) ⟨by decide, by decide⟩ (Or.inl (by decide))
  have t14 : Z13 11 hb 0 3 = Z5 11 hb 0 3 := zu_ne hZ13 (fun q => absurd q.2.2.2 (by decide))
  have t15 : Z13 11 hb 0 8 = Z5 11 hb 0 8 := zu_ne hZ13 (fun q => absurd q.2.2.2 (by decide))
  have t16 : Z13 11 hb 0 9 = Z5 11 hb 0 9 := zu_ne hZ13 (fun q => absurd q.2.2.2 (by decide))
  have t17 : Z13 200 0 0 1 = Z5 200 0 0 1 := zu_ne hZ13 (fun q => absurd q.1 (by decide))
  have t18 : Z13 200 0 0 2 = Z5 200 0 0 2 := zu_ne hZ13 (fun q => absurd q.1 (by decide))
  have hZ13K := zK_u hZ5K hZ13 (by decide)
  intro μ9 e9
  replace e9 := e9.trans (zm_wI (Z := Z5) (ν := ν) hZ13 (rfl : ((hb : Nat) : Int) = hb) (show ((0 : Nat) : Int) = 0 from rfl) (show ((14 : Nat) : Int) = 14 from rfl) (i3A (show (1 : Int32) = i3 1 from rfl) (i3R (i3D (zm_rd (Z := Z5) (ν := ν) (k := 200) (rfl : ((sn : Nat) : Int) = sn) (show ((0 : Nat) : Int) = 0 from rfl) (show ((2 : Nat) : Int) = 2 from rfl)) (show (16 : Int32) = i3 16 from rfl) (by omega) (by omega) (by omega) (by omega)) (show (4 : Int32) = i3 4 from rfl) (by omega) (by omega) (by omega) (by omega))))
  subst e9
  refine sl_146_4 (ν := ν) sn hZ13I zK_r hb tsn rsn (x1 := 0) (by omega) (kc3 := Z13 200 0 0 2) (kc2 := Z13 200 0 0 1) (kc1 := Z13 11 hb 0 9) (kc0 := Z13 11 hb 0 3) (by omega) (by omega) (by omega) (by omega) (by omega) (by omega) (zconso rfl (zconso (zvo (show (0 : Int32) = i3 0 from rfl)) (zconso rfl rfl))) rfl ?_
  intro L21 Z20 y19 hL21 hZ20I kZ20 gy19 gL21_0 gL21_1 gL21_2 gL21_3 gL21_4 gL21_5 q9
  replace hP := zl_e2 hP (Eq.symm q9)
  clear q9
  have hZ20K : zK [11, 40, 50, 200] Z Z20 := zK_t hZ13K kZ20 (by decide)
  refine fc_146_5  _ _ _ _ hL21 ?_
  exact zlV hP ⟨hZ20I, hZ20K, by omega, by omega, by omega, by omega⟩

/- yX8_tellRounds -/
def zl_149_1 (x0 : Int) (hb : Int) (x1 : Int) (x2 : Int) (x3 : Int) (x4 : Int) (x5 : Int) : Nat → qz_Z → Int → Int → qz_Z × Int × Int
  | 0, Z, x6, x7 => (Z, x6, x7)
  | m + 1, Z, x6, x7 => (if x5 ≤ x7 then (Z, x6, x7) else (zlet (zu Z 200 x0 0 2 (((25173 * (Z 200 x0 0 2)) + 13849) % 65536)) (fun Z3 => (if (Z3 11 hb 0 2) ≤ (((Z3 200 x0 0 2) / 16) % (max 1 ((Z 11 hb 0 2) + 1))) then zl_149_1 x0 hb x1 x2 x3 x4 x5 m Z3 (w3 ((w3 (x6 * 10)) + 7)) (x7 + 1) else zl_149_1 x0 hb x1 x2 x3 x4 x5 m Z3 (w3 ((w3 (x6 * 10)) + ((((Z3 200 x0 0 2) / 16) % (max 1 ((Z 11 hb 0 2) + 1))) + 1))) (x7 + 1)))))
theorem sl_149_1 {Zs Z : qz_Z} {ν : qz_N} (x0 : Nat) (hZ : zI (some (some (x0 : Int))) Z) (hK : zK [200] Zs Z) (hb : Nat) (tsn : ∀ Z, qz_tag (zm Z ν) (200, x0, 0) = 2) (rsn : ∀ Z, qz_rm (zm Z ν) 200 x0 0 0 = some (10, hb, 0)) {x1 : Int} (gx1 : 1 ≤ x1 ∧ x1 ≤ 2) {x2 : Int} (gx2 : 0 ≤ x2 ∧ x2 ≤ 1) {x3 : Int} (gx3 : 0 ≤ x3 ∧ x3 ≤ 2) {x4 : Int} (gx4 : 0 ≤ x4 ∧ x4 ≤ 127) {x5 : Int} (gx5 : 0 ≤ x5 ∧ x5 ≤ 6) {x6 : Int} (gx6 : -2147483648 ≤ x6 ∧ x6 ≤ 2147483647) {x7 : Int} (gx7 : 0 ≤ x7 ∧ x7 ≤ 6) {kc0 : Int} {kc1 : Int} {kc2 : Int} {kc3 : Int} (gr0 : 1 ≤ (x0 : Int)) (gr1 : Z 11 hb 0 3 = kc0) (gr2 : Z 11 hb 0 9 = kc1) (gr3 : Z 200 0 0 1 = kc2) (gr4 : Z 200 0 0 2 = kc3) {k : wz_K} {R : wz_R} {L : qz_L} (hL : qz_fg [true, true, true, true, true, true, true, true, false] L = [some (.inr (.inr (some (200, x0, 0)))), some (.inl (i3 x1)), some (.inl (i3 x2)), some (.inl (i3 x3)), some (.inl (i3 x4)), some (.inl (i3 x5)), some (.inl (i3 x6)), some (.inl (i3 x7)), none]) {T : qz_Z × Int × Int} (hP : zE T (zl_149_1 x0 hb x1 x2 x3 x4 x5 ((6 - x7).toNat + 1) Z x6 x7)) (hk : ∀ (L9 : qz_L) (Z9 : qz_Z) (yx6 yx7 : Int), qz_fg [true, true, true, true, true, false, true, false, false] L9 = [some (.inr (.inr (some (200, x0, 0)))), some (.inl (i3 x1)), some (.inl (i3 x2)), some (.inl (i3 x3)), some (.inl (i3 x4)), none, some (.inl (i3 yx6)), none, none] → zI (some (some (x0 : Int))) Z9 → zK [200] Zs Z9 → (-2147483648 ≤ yx6 ∧ yx6 ≤ 2147483647) → (0 ≤ yx7 ∧ yx7 ≤ 6) → (1 ≤ (x0 : Int)) → (Z9 11 hb 0 3 = kc0) → (Z9 11 hb 0 9 = kc1) → (Z9 200 0 0 1 = kc2) → (Z9 200 0 0 2 = kc3) → zE T ((Z9, yx6, yx7)) → k 0 (L9, [], zm Z9 ν)) : wz_loop qb_149_1 65536 k R (L, [], zm Z ν) := by
  refine wz_lp sb_149_1 (fun m x => ∃ Z : qz_Z, ∃ x6 : Int, ∃ x7 : Int, qz_fg [true, true, true, true, true, true, true, true, false] x.1 = [some (.inr (.inr (some (200, x0, 0)))), some (.inl (i3 x1)), some (.inl (i3 x2)), some (.inl (i3 x3)), some (.inl (i3 x4)), some (.inl (i3 x5)), some (.inl (i3 x6)), some (.inl (i3 x7)), none] ∧ x.2 = ([], zm Z ν) ∧ zI (some (some (x0 : Int))) Z ∧ zK [200] Zs Z ∧ m = (6 - x7).toNat ∧ (-2147483648 ≤ x6 ∧ x6 ≤ 2147483647) ∧ (0 ≤ x7 ∧ x7 ≤ 6) ∧ (1 ≤ (x0 : Int)) ∧ (Z 11 hb 0 3 = kc0) ∧ (Z 11 hb 0 9 = kc1) ∧ (Z 200 0 0 1 = kc2) ∧ (Z 200 0 0 2 = kc3) ∧ zE T (zl_149_1 x0 hb x1 x2 x3 x4 x5 (m + 1) Z x6 x7)) ?_ 65536 ((6 - x7).toNat) _ (by omega) ⟨Z, x6, x7, hL, rfl, hZ, hK, rfl, gx6, gx7, gr0, gr1, gr2, gr3, gr4, hP⟩
  clear hP gr0 gr1 gr2 gr3 gr4 gx6 gx7 hZ hK hL
  clear x6 x7
  clear Z
  rintro m ⟨L, st, μ⟩ ⟨Z, x6, x7, hL, hx, hZ, hK, hm, gx6, gx7, gr0, gr1, gr2, gr3, gr4, hP⟩
  cases hx
  refine fb_149_1 x0 (i3 x1) (i3 x2) (i3 x3) (i3 x4) (i3 x5) (i3 x6) (i3 x7) _ _ _ _ hL ?_
  have rs := zI_xs (n := x0) hZ
  refine wz_br (i3Le (rfl : i3 x5 = i3 x5) (rfl : i3 x7 = i3 x7) (by omega) (by omega) (by omega) (by omega)) (fun h1 => ?_) (fun h1 => ?_)
  · replace hP := zE_p hP h1
    exact hk _ _ _ _ (zconso rfl (zconso (zvo (rfl : i3 x1 = i3 x1)) (zconso (zvo (rfl : i3 x2 = i3 x2)) (zconso (zvo (rfl : i3 x3 = i3 x3)) (zconso (zvo (rfl : i3 x4 = i3 x4)) (zconso rfl (zconso (zvo (rfl : i3 x6 = i3 x6)) (zconso rfl (zconso rfl rfl))))))))) hZ hK (by omega) (by omega) (by omega) (by omega) (by omega) (by omega) (by omega) hP
  · replace hP := zE_n hP h1
    refine wz_i1 (by rw [tsn]; rfl) ?_
    refine wz_rko (rsn _) ?_
    refine wz_i1 rfl ?_
    refine wz_rko (r := (11, _, _)) rfl ?_
    refine wz_i1 rfl ?_
    refine wz_i0 (i3O (n := 17) (show (2 : Int32) = i3 2 from rfl) (by omega) (by omega) (by omega)) ?_
    refine wz_i1 (by rw [tsn]; rfl) ?_
    refine wz_i1 (by rw [tsn]; rfl) ?_
    refine wz_i1 (by rw [tsn]; rfl) ?_
    have r2 := zI_xr (n := x0) hZ
    obtain ⟨Z3, hZ3⟩ := zx (zu Z 200 x0 0 2 (((25173 * (Z 200 x0 0 2)) + 13849) % 65536))
    replace hP := zl_e hP hZ3
    have hZ3I := zI_x hZ hZ3 (by omega)
    have t4 : Z3 11 hb 0 3 = Z 11 hb 0 3 := zu_ne hZ3 (fun q => absurd q.1 (by decide))
    have t5 : Z3 11 hb 0 9 = Z 11 hb 0 9 := zu_ne hZ3 (fun q => absurd q.1 (by decide))
    have t6 : Z3 200 0 0 1 = Z 200 0 0 1 := zu_ne hZ3 (fun q => absurd q.2.2.2 (by decide))
    have t7 : Z3 200 0 0 2 = Z 200 0 0 2 := zu_ne hZ3 (by omega)
    have hZ3K := zK_u hK hZ3 (by decide)
    intro μ9 e9
    replace e9 := e9.trans (zm_wI (Z := Z) (ν := ν) hZ3 (rfl : ((x0 : Nat) : Int) = x0) (show ((0 : Nat) : Int) = 0 from rfl) (show ((2 : Nat) : Int) = 2 from rfl) (i3R (i3A (i3M (show (25173 : Int32) = i3 25173 from rfl) (zm_rd (Z := Z) (ν := ν) (k := 200) (rfl : ((x0 : Nat) : Int) = x0) (show ((0 : Nat) : Int) = 0 from rfl) (show ((2 : Nat) : Int) = 2 from rfl))) (show (13849 : Int32) = i3 13849 from rfl)) (show (65536 : Int32) = i3 65536 from rfl) (by omega) (by omega) (by omega) (by omega)))
    subst e9
    refine wz_i1 (by rw [tsn]; rfl) ?_
    have r8 := zI_k hZ 11 hb 0 2 (lo := 0) (hi := 6) (by decide) rfl
    refine wz_i0 (i3N0 (i3Mx (show (1 : Int32) = i3 1 from rfl) (i3A (zm_rd (Z := Z) (ν := ν) (k := 11) (rfl : ((hb : Nat) : Int) = hb) (show ((0 : Nat) : Int) = 0 from rfl) (show ((2 : Nat) : Int) = 2 from rfl)) (show (1 : Int32) = i3 1 from rfl)) (by omega) (by omega) (by omega) (by omega)) (by omega) (by omega) (by omega)) ?_
    refine wz_i1 (by rw [tsn]; rfl) ?_
    refine wz_rko (rsn _) ?_
    refine wz_i1 rfl ?_
    refine wz_rko (r := (11, _, _)) rfl ?_
    refine wz_i1 rfl ?_
    refine wz_i0 (i3O (n := 17) (show (2 : Int32) = i3 2 from rfl) (by omega) (by omega) (by omega)) ?_
    have r9 := zI_k hZ3I 11 hb 0 2 (lo := 0) (hi := 6) (by decide) rfl
    have q10 := zu_ne (k' := 11) (b' := hb) (i' := 0) (j' := 2) hZ3 (fun q => absurd q.1 (by decide))
    have r11 := zI_xr (n := x0) hZ3I
    have q12 := zu_at hZ3
    have r13 := z_mod ((Z3 200 x0 0 2) / 16) (y := (max 1 ((Z 11 hb 0 2) + 1))) (by omega)
    refine wz_br (i3Le (zm_rd (Z := Z3) (ν := ν) (k := 11) (rfl : ((hb : Nat) : Int) = hb) (show ((0 : Nat) : Int) = 0 from rfl) (show ((2 : Nat) : Int) = 2 from rfl)) (i3R (i3D (zm_rd (Z := Z3) (ν := ν) (k := 200) (rfl : ((x0 : Nat) : Int) = x0) (show ((0 : Nat) : Int) = 0 from rfl) (show ((2 : Nat) : Int) = 2 from rfl)) (show (16 : Int32) = i3 16 from rfl) (by omega) (by omega) (by omega) (by omega)) (i3Mx (show (1 : Int32) = i3 1 from rfl) (i3A (zm_rd (Z := Z) (ν := ν) (k := 11) (rfl : ((hb : Nat) : Int) = hb) (show ((0 : Nat) : Int) = 0 from rfl) (show ((2 : Nat) : Int) = 2 from rfl)) (show (1 : Int32) = i3 1 from rfl)) (by omega) (by omega) (by omega) (by omega)) (by omega) (by omega) (by omega) (by omega)) (by omega) (by omega) (by omega) (by omega)) (fun h14 => ?_) (fun h14 => ?_)
    · replace hP := zE_p hP h14
      have r15 := w3_r (x6 * 10)
      have r16 := w3_r ((w3 (x6 * 10)) + 7)
      obtain ⟨m2, rfl⟩ : ∃ m2, m = m2 + 1 := ⟨m - 1, by omega⟩
      exact wz_k1 ⟨m2, by omega, Z3, (w3 ((w3 (x6 * 10)) + 7)), (x7 + 1), (zconso rfl (zconso (zvo (rfl : i3 x1 = i3 x1)) (zconso (zvo (rfl : i3 x2 = i3 x2)) (zconso (zvo (rfl : i3 x3 = i3 x3)) (zconso (zvo (rfl : i3 x4 = i3 x4)) (zconso (zvo (rfl : i3 x5 = i3 x5)) (zconso (zvo (i3W (i3A (i3W (i3M (rfl : i3 x6 = i3 x6) (show (10 : Int32) = i3 10 from rfl))) (show (7 : Int32) = i3 7 from rfl)))) (zconso (zvo (i3A (rfl : i3 x7 = i3 x7) (show (1 : Int32) = i3 1 from rfl))) (zconso rfl rfl))))))))), rfl, hZ3I, hZ3K, by omega, by omega, by omega, by omega, by omega, by omega, by omega, by omega,  hP⟩
    · replace hP := zE_n hP h14
      have r17 := w3_r (x6 * 10)
      have r18 := w3_r ((w3 (x6 * 10)) + ((((Z3 200 x0 0 2) / 16) % (max 1 ((Z 11 hb 0 2) + 1))) + 1))
      obtain ⟨m2, rfl⟩ : ∃ m2, m = m2 + 1 := ⟨m - 1, by omega⟩
      exact wz_k1 ⟨m2, by omega, Z3, (w3 ((w3 (x6 * 10)) + ((((Z3 200 x0 0 2) / 16) % (max 1 ((Z 11 hb 0 2) + 1))) + 1))), (x7 + 1), (zconso rfl (zconso (zvo (rfl : i3 x1 = i3 x1)) (zconso (zvo (rfl : i3 x2 = i3 x2)) (zconso (zvo (rfl : i3 x3 = i3 x3)) (zconso (zvo (rfl : i3 x4 = i3 x4)) (zconso (zvo (rfl : i3 x5 = i3 x5)) (zconso (zvo (i3W (i3A (i3W (i3M (rfl : i3 x6 = i3 x6) (show (10 : Int32) = i3 10 from rfl))) (i3A (i3R (i3D (zm_rd (Z := Z3) (ν := ν) (k := 200) (rfl : ((x0 : Nat) : Int) = x0) (show ((0 : Nat) : Int) = 0 from rfl) (show ((2 : Nat) : Int) = 2 from rfl)) (show (16 : Int32) = i3 16 from rfl) (by omega) (by omega) (by omega) (by omega)) (i3Mx (show (1 : Int32) = i3 1 from rfl) (i3A (zm_rd (Z := Z) (ν := ν) (k := 11) (rfl : ((hb : Nat) : Int) = hb) (show ((0 : Nat) : Int) = 0 from rfl) (show ((2 : Nat) : Int) = 2 from rfl)) (show (1 : Int32) = i3 1 from rfl)) (by omega) (by omega) (by omega) (by omega)) (by omega) (by omega) (by omega) (by omega)) (show (1 : Int32) = i3 1 from rfl))))) (zconso (zvo (i3A (rfl : i3 x7 = i3 x7) (show (1 : Int32) = i3 1 from rfl))) (zconso rfl rfl))))))))), rfl, hZ3I, hZ3K, by omega, by omega, by omega, by omega, by omega, by omega, by omega, by omega,  hP⟩

/- yX8_tellRounds -/
def zl_149_3 (x0 : Int) (hb : Int) (x1 : Int) : Nat → qz_Z → Int → qz_Z × Int
  | 0, Z, x2 => (Z, x2)
  | m + 1, Z, x2 => (if x1 ≤ x2 then (Z, x2) else (zlet (zu Z 200 x0 0 2 (((25173 * (Z 200 x0 0 2)) + 13849) % 65536)) (fun Z3 => (zlet (zu Z3 200 x0 0 2 (((25173 * (Z3 200 x0 0 2)) + 13849) % 65536)) (fun Z10 => (zlet (zu Z10 51 hb (Z10 11 hb 0 9) 0 (((Z3 200 x0 0 2) / 16) % 19)) (fun Z16 => (zlet (zu Z16 51 hb (Z10 11 hb 0 9) 1 (((Z10 200 x0 0 2) / 16) % 4)) (fun Z23 => (zlet (zu Z23 51 hb (Z10 11 hb 0 9) 7 (-1)) (fun Z28 => (zlet (zu Z28 11 hb 0 9 ((Z28 11 hb 0 9) + 1)) (fun Z35 => (zlet (zu Z35 200 x0 0 2 (((25173 * (Z35 200 x0 0 2)) + 13849) % 65536)) (fun Z42 => (zlet (zu Z42 200 x0 0 2 (((25173 * (Z42 200 x0 0 2)) + 13849) % 65536)) (fun Z49 => (zlet3 (zl_149_1 x0 hb x1 x2 (Z28 11 hb 0 9) (((Z42 200 x0 0 2) / 16) % 128) (((Z49 200 x0 0 2) / 16) % 7) 7 Z49 0 0) (fun Z58 y56 y57 => (zlet (zu Z58 51 hb (Z28 11 hb 0 9) 2 (((Z42 200 x0 0 2) / 16) % 128)) (fun Z60 => (zlet (zu Z60 51 hb (Z28 11 hb 0 9) 3 y56) (fun Z65 => (zlet (zf_133 Z65 y56) (fun v70 => zl_149_3 x0 hb x1 m Z65 (x2 + 1))))))))))))))))))))))))))
theorem sl_149_3 {Zs Z : qz_Z} {ν : qz_N} (x0 : Nat) (hZ : zI (some (some (x0 : Int))) Z) (hK : zK [11, 51, 200] Zs Z) (hb : Nat) (tsn : ∀ Z, qz_tag (zm Z ν) (200, x0, 0) = 2) (rsn : ∀ Z, qz_rm (zm Z ν) 200 x0 0 0 = some (10, hb, 0)) {x1 : Int} (gx1 : 0 ≤ x1 ∧ x1 ≤ 2) {x2 : Int} (gx2 : 0 ≤ x2 ∧ x2 ≤ 2) {kc0 : Int} {kc1 : Int} {kc2 : Int} (gr0 : Z 11 hb 0 9 = x2) (gr1 : 1 ≤ (x0 : Int)) (gr2 : Z 11 hb 0 3 = kc0) (gr3 : Z 200 0 0 1 = kc1) (gr4 : Z 200 0 0 2 = kc2) {k : wz_K} {R : wz_R} {L : qz_L} (hL : qz_fg [true, true, true, false, false, false, false, false, false] L = [some (.inr (.inr (some (200, x0, 0)))), some (.inl (i3 x1)), some (.inl (i3 x2)), none, none, none, none, none, none]) {T : qz_Z × Int} (hP : zE T (zl_149_3 x0 hb x1 ((2 - x2).toNat + 1) Z x2)) (hk : ∀ (L9 : qz_L) (Z9 : qz_Z) (yx2 : Int), qz_fg [false, false, false, false, false, false, false, false, false] L9 = [none, none, none, none, none, none, none, none, none] → zI (some (some (x0 : Int))) Z9 → zK [11, 51, 200] Zs Z9 → (0 ≤ yx2 ∧ yx2 ≤ 2) → (Z9 11 hb 0 9 = yx2) → (1 ≤ (x0 : Int)) → (Z9 11 hb 0 3 = kc0) → (Z9 200 0 0 1 = kc1) → (Z9 200 0 0 2 = kc2) → zE T ((Z9, yx2)) → k 0 (L9, [], zm Z9 ν)) : wz_loop qb_149_3 65536 k R (L, [], zm Z ν) := by
  refine wz_lp sb_149_3 (fun m x => ∃ Z : qz_Z, ∃ x2 : Int, qz_fg [true, true, true, false, false, false, false, false, false] x.1 = [some (.inr (.inr (some (200, x0, 0)))), some (.inl (i3 x1)), some (.inl (i3 x2)), none, none, none, none, none, none] ∧ x.2 = ([], zm Z ν) ∧ zI (some (some (x0 : Int))) Z ∧ zK [11, 51, 200] Zs Z ∧ m = (2 - x2).toNat ∧ (0 ≤ x2 ∧ x2 ≤ 2) ∧ (Z 11 hb 0 9 = x2) ∧ (1 ≤ (x0 : Int)) ∧ (Z 11 hb 0 3 = kc0) ∧ (Z 200 0 0 1 = kc1) ∧ (Z 200 0 0 2 = kc2) ∧ zE T (zl_149_3 x0 hb x1 (m + 1) Z x2)) ?_ 65536 ((2 - x2).toNat) _ (by omega) ⟨Z, x2, hL, rfl, hZ, hK, rfl, gx2, gr0, gr1, gr2, gr3, gr4, hP⟩
  clear hP gr0 gr1 gr2 gr3 gr4 gx2 hZ hK hL
  clear x2
  clear Z
  rintro m ⟨L, st, μ⟩ ⟨Z, x2, hL, hx, hZ, hK, hm, gx2, gr0, gr1, gr2, gr3, gr4, hP⟩
  cases hx
  refine fb_149_3 x0 (i3 x1) (i3 x2) _ _ _ _ hL ?_
  have rs := zI_xs (n := x0) hZ
  refine wz_br (i3Le (rfl : i3 x1 = i3 x1) (rfl : i3 x2 = i3 x2) (by omega) (by omega) (by omega) (by omega)) (fun h1 => ?_) (fun h1 => ?_)
  · replace hP := zE_p hP h1
    exact hk _ _ _ (zconso rfl (zconso rfl (zconso rfl (zconso rfl (zconso rfl (zconso rfl (zconso rfl (zconso rfl (zconso rfl rfl))))))))) hZ hK (by omega) (by omega) (by omega) (by omega) (by omega) (by omega) hP
  · replace hP := zE_n hP h1
    refine wz_i1 (by rw [tsn]; rfl) ?_
    refine wz_rko (rsn _) ?_
    refine wz_i1 (by rw [tsn]; rfl) ?_
    refine wz_i1 (by rw [tsn]; rfl) ?_
    refine wz_i1 (by rw [tsn]; rfl) ?_
    have r2 := zI_xr (n := x0) hZ
    obtain ⟨Z3, hZ3⟩ := zx (zu Z 200 x0 0 2 (((25173 * (Z 200 x0 0 2)) + 13849) % 65536))
    replace hP := zl_e hP hZ3
    have hZ3I := zI_x hZ hZ3 (by omega)
    have t4 : Z3 11 hb 0 3 = Z 11 hb 0 3 := zu_ne hZ3 (fun q => absurd q.1 (by decide))
    have t5 : Z3 11 hb 0 9 = Z 11 hb 0 9 := zu_ne hZ3 (fun q => absurd q.1 (by decide))
    have t6 : Z3 200 0 0 1 = Z 200 0 0 1 := zu_ne hZ3 (fun q => absurd q.2.2.2 (by decide))
    have t7 : Z3 200 0 0 2 = Z 200 0 0 2 := zu_ne hZ3 (by omega)
    have hZ3K := zK_u hK hZ3 (by decide)
    intro μ9 e9
    replace e9 := e9.trans (zm_wI (Z := Z) (ν := ν) hZ3 (rfl : ((x0 : Nat) : Int) = x0) (show ((0 : Nat) : Int) = 0 from rfl) (show ((2 : Nat) : Int) = 2 from rfl) (i3R (i3A (i3M (show (25173 : Int32) = i3 25173 from rfl) (zm_rd (Z := Z) (ν := ν) (k := 200) (rfl : ((x0 : Nat) : Int) = x0) (show ((0 : Nat) : Int) = 0 from rfl) (show ((2 : Nat) : Int) = 2 from rfl))) (show (13849 : Int32) = i3 13849 from rfl)) (show (65536 : Int32) = i3 65536 from rfl) (by omega) (by omega) (by omega) (by omega)))
    subst e9
    refine wz_i1 (by rw [tsn]; rfl) ?_
    refine wz_i1 (by rw [tsn]; rfl) ?_
    refine wz_i1 (by rw [tsn]; rfl) ?_
    refine wz_i1 (by rw [tsn]; rfl) ?_
    have r8 := zI_xr (n := x0) hZ3I
    have q9 := zu_at hZ3
    obtain ⟨Z10, hZ10⟩ := zx (zu Z3 200 x0 0 2 (((25173 * (Z3 200 x0 0 2)) + 13849) % 65536))
    replace hP := zl_e hP hZ10
    have hZ10I := zI_x hZ3I hZ10 (by omega)
    have t11 : Z10 11 hb 0 3 = Z3 11 hb 0 3 := zu_ne hZ10 (fun q => absurd q.1 (by decide))
    have t12 : Z10 11 hb 0 9 = Z3 11 hb 0 9 := zu_ne hZ10 (fun q => absurd q.1 (by decide))
    have t13 : Z10 200 0 0 1 = Z3 200 0 0 1 := zu_ne hZ10 (fun q => absurd q.2.2.2 (by decide))
    have t14 : Z10 200 0 0 2 = Z3 200 0 0 2 := zu_ne hZ10 (by omega)
    have hZ10K := zK_u hZ3K hZ10 (by decide)
    intro μ9 e9
    replace e9 := e9.trans (zm_wI (Z := Z3) (ν := ν) hZ10 (rfl : ((x0 : Nat) : Int) = x0) (show ((0 : Nat) : Int) = 0 from rfl) (show ((2 : Nat) : Int) = 2 from rfl) (i3R (i3A (i3M (show (25173 : Int32) = i3 25173 from rfl) (zm_rd (Z := Z3) (ν := ν) (k := 200) (rfl : ((x0 : Nat) : Int) = x0) (show ((0 : Nat) : Int) = 0 from rfl) (show ((2 : Nat) : Int) = 2 from rfl))) (show (13849 : Int32) = i3 13849 from rfl)) (show (65536 : Int32) = i3 65536 from rfl) (by omega) (by omega) (by omega) (by omega)))
    subst e9
    refine wz_i1 (by rw [tsn]; rfl) ?_
    refine wz_i1 rfl ?_
    refine wz_rko (r := (31, _, _)) rfl ?_
    refine wz_i1 rfl ?_
    refine wz_rko (r := (11, _, _)) rfl ?_
    refine wz_i1 rfl ?_
    refine wz_i0 (i3O (n := 17) (show (9 : Int32) = i3 9 from rfl) (by omega) (by omega) (by omega)) ?_
    refine wz_i1 rfl ?_
    have r15 := zI_k hZ10I 11 hb 0 9 (lo := 0) (hi := 2) (by decide) rfl
    refine wz_i0 (i3O (n := 2) (zm_rd (Z := Z10) (ν := ν) (k := 11) (rfl : ((hb : Nat) : Int) = hb) (show ((0 : Nat) : Int) = 0 from rfl) (show ((9 : Nat) : Int) = 9 from rfl)) (by omega) (by omega) (by omega)) ?_
    refine wz_rko (r := (51, _, _)) rfl ?_
    refine wz_i1 rfl ?_
    refine wz_i0 (i3O (n := 8) (show (0 : Int32) = i3 0 from rfl) (by omega) (by omega) (by omega)) ?_
    obtain ⟨Z16, hZ16⟩ := zx (zu Z10 51 hb (Z10 11 hb 0 9) 0 (((Z3 200 x0 0 2) / 16) % 19))
    replace hP := zl_e hP hZ16
    have hZ16I := zI_u hZ10I hZ16 (lo := 0) (hi := 18) (by decide) rfl (by omega) ⟨by decide, by decide⟩ (Or.inl (by decide))
    have t17 : Z16 11 hb 0 3 = Z10 11 hb 0 3 := zu_ne hZ16 (fun q => absurd q.1 (by decide))
    have t18 : Z16 11 hb 0 9 = Z10 11 hb 0 9 := zu_ne hZ16 (fun q => absurd q.1 (by decide))
    have t19 : Z16 200 0 0 1 = Z10 200 0 0 1 := zu_ne hZ16 (fun q => absurd q.1 (by decide))
    have t20 : Z16 200 0 0 2 = Z10 200 0 0 2 := zu_ne hZ16 (fun q => absurd q.1 (by decide))
    have hZ16K := zK_u hZ10K hZ16 (by decide)
    intro μ9 e9
    replace e9 := e9.trans (zm_wI (Z := Z10) (ν := ν) hZ16 (rfl : ((hb : Nat) : Int) = hb) (i3I (y := (Z10 11 hb 0 9)) (zm_rd (Z := Z10) (ν := ν) (k := 11) (rfl : ((hb : Nat) : Int) = hb) (show ((0 : Nat) : Int) = 0 from rfl) (show ((9 : Nat) : Int) = 9 from rfl)) (by omega) (by omega) (by omega)) (show ((0 : Nat) : Int) = 0 from rfl) (i3R (i3D (zm_rd (Z := Z3) (ν := ν) (k := 200) (rfl : ((x0 : Nat) : Int) = x0) (show ((0 : Nat) : Int) = 0 from rfl) (show ((2 : Nat) : Int) = 2 from rfl)) (show (16 : Int32) = i3 16 from rfl) (by omega) (by omega) (by omega) (by omega)) (show (19 : Int32) = i3 19 from rfl) (by omega) (by omega) (by omega) (by omega)))
    subst e9
    refine wz_i1 rfl ?_
    refine wz_i0 (i3O (n := 8) (show (1 : Int32) = i3 1 from rfl) (by omega) (by omega) (by omega)) ?_
    have r21 := zI_xr (n := x0) hZ10I
    have q22 := zu_at hZ10
    obtain ⟨Z23, hZ23⟩ := zx (zu Z16 51 hb (Z10 11 hb 0 9) 1 (((Z10 200 x0 0 2) / 16) % 4))
    replace hP := zl_e hP hZ23
    have hZ23I := zI_u hZ16I hZ23 (lo := 0) (hi := 3) (by decide) rfl (by omega) ⟨by decide, by decide⟩ (Or.inl (by decide))
    have t24 : Z23 11 hb 0 3 = Z16 11 hb 0 3 := zu_ne hZ23 (fun q => absurd q.1 (by decide))
    have t25 : Z23 11 hb 0 9 = Z16 11 hb 0 9 := zu_ne hZ23 (fun q => absurd q.1 (by decide))
    have t26 : Z23 200 0 0 1 = Z16 200 0 0 1 := zu_ne hZ23 (fun q => absurd q.1 (by decide))
    have t27 : Z23 200 0 0 2 = Z16 200 0 0 2 := zu_ne hZ23 (fun q => absurd q.1 (by decide))
    have hZ23K := zK_u hZ16K hZ23 (by decide)
    intro μ9 e9
    replace e9 := e9.trans (zm_wI (Z := Z16) (ν := ν) hZ23 (rfl : ((hb : Nat) : Int) = hb) (i3I (y := (Z10 11 hb 0 9)) (zm_rd (Z := Z10) (ν := ν) (k := 11) (rfl : ((hb : Nat) : Int) = hb) (show ((0 : Nat) : Int) = 0 from rfl) (show ((9 : Nat) : Int) = 9 from rfl)) (by omega) (by omega) (by omega)) (show ((1 : Nat) : Int) = 1 from rfl) (i3R (i3D (zm_rd (Z := Z10) (ν := ν) (k := 200) (rfl : ((x0 : Nat) : Int) = x0) (show ((0 : Nat) : Int) = 0 from rfl) (show ((2 : Nat) : Int) = 2 from rfl)) (show (16 : Int32) = i3 16 from rfl) (by omega) (by omega) (by omega) (by omega)) (show (4 : Int32) = i3 4 from rfl) (by omega) (by omega) (by omega) (by omega)))
    subst e9
    refine wz_i1 rfl ?_
    refine wz_i0 (i3O (n := 8) (show (7 : Int32) = i3 7 from rfl) (by omega) (by omega) (by omega)) ?_
    obtain ⟨Z28, hZ28⟩ := zx (zu Z23 51 hb (Z10 11 hb 0 9) 7 (-1))
    replace hP := zl_e hP hZ28
    have hZ28I := zI_u hZ23I hZ28 (lo := -1) (hi := 671) (by decide) rfl (by omega) ⟨by decide, by decide⟩ (Or.inl (by decide))
    have t29 : Z28 11 hb 0 3 = Z23 11 hb 0 3 := zu_ne hZ28 (fun q => absurd q.1 (by decide))
    have t30 : Z28 11 hb 0 9 = Z23 11 hb 0 9 := zu_ne hZ28 (fun q => absurd q.1 (by decide))
    have t31 : Z28 200 0 0 1 = Z23 200 0 0 1 := zu_ne hZ28 (fun q => absurd q.1 (by decide))
    have t32 : Z28 200 0 0 2 = Z23 200 0 0 2 := zu_ne hZ28 (fun q => absurd q.1 (by decide))
    have hZ28K := zK_u hZ23K hZ28 (by decide)
    intro μ9 e9
    replace e9 := e9.trans (zm_wI (Z := Z23) (ν := ν) hZ28 (rfl : ((hb : Nat) : Int) = hb) (i3I (y := (Z10 11 hb 0 9)) (zm_rd (Z := Z10) (ν := ν) (k := 11) (rfl : ((hb : Nat) : Int) = hb) (show ((0 : Nat) : Int) = 0 from rfl) (show ((9 : Nat) : Int) = 9 from rfl)) (by omega) (by omega) (by omega)) (show ((7 : Nat) : Int) = 7 from rfl) (show (-1 : Int32) = i3 (-1) from rfl))
    subst e9
    refine wz_i1 rfl ?_
    refine wz_rko (r := (11, _, _)) rfl ?_
    refine wz_i1 rfl ?_
    refine wz_i0 (i3O (n := 17) (show (9 : Int32) = i3 9 from rfl) (by omega) (by omega) (by omega)) ?_
    refine wz_i1 rfl ?_
    refine wz_i0 (i3O (n := 17) (show (9 : Int32) = i3 9 from rfl) (by omega) (by omega) (by omega)) ?_
    have r33 := zI_k hZ28I 11 hb 0 9 (lo := 0) (hi := 2) (by decide) rfl
    have q34 := (zu_ne (k' := 11) (b' := hb) (i' := 0) (j' := 9) hZ28 (fun q => absurd q.1 (by decide))).trans ((zu_ne (k' := 11) (b' := hb) (i' := 0) (j' := 9) hZ23 (fun q => absurd q.1 (by decide))).trans (zu_ne (k' := 11) (b' := hb) (i' := 0) (j' := 9) hZ16 (fun q => absurd q.1 (by decide))))
    obtain ⟨Z35, hZ35⟩ := zx (zu Z28 11 hb 0 9 ((Z28 11 hb 0 9) + 1))
    replace hP := zl_e hP hZ35
    have hZ35I := zI_u hZ28I hZ35 (lo := 0) (hi := 2) (by decide) rfl (by omega) ⟨by decide, by decide⟩ (Or.inl (by decide))
    have t36 : Z35 11 hb 0 3 = Z28 11 hb 0 3 := zu_ne hZ35 (fun q => absurd q.2.2.2 (by decide))
    have t37 := zu_at hZ35
    have t38 : Z35 200 0 0 1 = Z28 200 0 0 1 := zu_ne hZ35 (fun q => absurd q.1 (by decide))
    have t39 : Z35 200 0 0 2 = Z28 200 0 0 2 := zu_ne hZ35 (fun q => absurd q.1 (by decide))
    have hZ35K := zK_u hZ28K hZ35 (by decide)
    intro μ9 e9
    replace e9 := e9.trans (zm_wI (Z := Z28) (ν := ν) hZ35 (rfl : ((hb : Nat) : Int) = hb) (show ((0 : Nat) : Int) = 0 from rfl) (show ((9 : Nat) : Int) = 9 from rfl) (i3A (zm_rd (Z := Z28) (ν := ν) (k := 11) (rfl : ((hb : Nat) : Int) = hb) (show ((0 : Nat) : Int) = 0 from rfl) (show ((9 : Nat) : Int) = 9 from rfl)) (show (1 : Int32) = i3 1 from rfl)))
    subst e9
    refine wz_i1 (by rw [tsn]; rfl) ?_
    refine wz_i1 (by rw [tsn]; rfl) ?_
    refine wz_i1 (by rw [tsn]; rfl) ?_
    have r40 := zI_xr (n := x0) hZ35I
    have q41 := (zu_ne (k' := 200) (b' := x0) (i' := 0) (j' := 2) hZ35 (fun q => absurd q.1 (by decide))).trans ((zu_ne (k' := 200) (b' := x0) (i' := 0) (j' := 2) hZ28 (fun q => absurd q.1 (by decide))).trans ((zu_ne (k' := 200) (b' := x0) (i' := 0) (j' := 2) hZ23 (fun q => absurd q.1 (by decide))).trans (zu_ne (k' := 200) (b' := x0) (i' := 0) (j' := 2) hZ16 (fun q => absurd q.1 (by decide)))))
    obtain ⟨Z42, hZ42⟩ := zx (zu Z35 200 x0 0 2 (((25173 * (Z35 200 x0 0 2)) + 13849) % 65536))
    replace hP := zl_e hP hZ42
    have hZ42I := zI_x hZ35I hZ42 (by omega)
    have t43 : Z42 11 hb 0 3 = Z35 11 hb 0 3 := zu_ne hZ42 (fun q => absurd q.1 (by decide))
    have t44 : Z42 11 hb 0 9 = Z35 11 hb 0 9 := zu_ne hZ42 (fun q => absurd q.1 (by decide))
    have t45 : Z42 200 0 0 1 = Z35 200 0 0 1 := zu_ne hZ42 (fun q => absurd q.2.2.2 (by decide))
    have t46 : Z42 200 0 0 2 = Z35 200 0 0 2 := zu_ne hZ42 (by omega)
    have hZ42K := zK_u hZ35K hZ42 (by decide)
    intro μ9 e9
    replace e9 := e9.trans (zm_wI (Z := Z35) (ν := ν) hZ42 (rfl : ((x0 : Nat) : Int) = x0) (show ((0 : Nat) : Int) = 0 from rfl) (show ((2 : Nat) : Int) = 2 from rfl) (i3R (i3A (i3M (show (25173 : Int32) = i3 25173 from rfl) (zm_rd (Z := Z35) (ν := ν) (k := 200) (rfl : ((x0 : Nat) : Int) = x0) (show ((0 : Nat) : Int) = 0 from rfl) (show ((2 : Nat) : Int) = 2 from rfl))) (show (13849 : Int32) = i3 13849 from rfl)) (show (65536 : Int32) = i3 65536 from rfl) (by omega) (by omega) (by omega) (by omega)))
    subst e9
    refine wz_i1 (by rw [tsn]; rfl) ?_
    refine wz_i1 (by rw [tsn]; rfl) ?_
    refine wz_i1 (by rw [tsn]; rfl) ?_
    refine wz_i1 (by rw [tsn]; rfl) ?_
    have r47 := zI_xr (n := x0) hZ42I
    have q48 := zu_at hZ42
    obtain ⟨Z49, hZ49⟩ := zx (zu Z42 200 x0 0 2 (((25173 * (Z42 200 x0 0 2)) + 13849) % 65536))
    replace hP := zl_e hP hZ49
    have hZ49I := zI_x hZ42I hZ49 (by omega)
    have t50 : Z49 11 hb 0 3 = Z42 11 hb 0 3 := zu_ne hZ49 (fun q => absurd q.1 (by decide))
    have t51 : Z49 11 hb 0 9 = Z42 11 hb 0 9 := zu_ne hZ49 (fun q => absurd q.1 (by decide))
    have t52 : Z49 200 0 0 1 = Z42 200 0 0 1 := zu_ne hZ49 (fun q => absurd q.2.2.2 (by decide))
    have t53 : Z49 200 0 0 2 = Z42 200 0 0 2 := zu_ne hZ49 (by omega)
    have hZ49K := zK_u hZ42K hZ49 (by decide)
    intro μ9 e9
    replace e9 := e9.trans (zm_wI (Z := Z42) (ν := ν) hZ49 (rfl : ((x0 : Nat) : Int) = x0) (show ((0 : Nat) : Int) = 0 from rfl) (show ((2 : Nat) : Int) = 2 from rfl) (i3R (i3A (i3M (show (25173 : Int32) = i3 25173 from rfl) (zm_rd (Z := Z42) (ν := ν) (k := 200) (rfl : ((x0 : Nat) : Int) = x0) (show ((0 : Nat) : Int) = 0 from rfl) (show ((2 : Nat) : Int) = 2 from rfl))) (show (13849 : Int32) = i3 13849 from rfl)) (show (65536 : Int32) = i3 65536 from rfl) (by omega) (by omega) (by omega) (by omega)))
    subst e9
    refine wz_i1 (by rw [tsn]; rfl) ?_
    have r54 := zI_xr (n := x0) hZ49I
    have q55 := zu_at hZ49
    refine sl_149_1 (ν := ν) x0 hZ49I zK_r hb tsn rsn (x1 := x1) (by omega) (x2 := x2) (by omega) (x3 := (Z28 11 hb 0 9)) (by omega) (x4 := (((Z42 200 x0 0 2) / 16) % 128)) (by omega) (x5 := (((Z49 200 x0 0 2) / 16) % 7)) (by omega) (x6 := 0) (by omega) (x7 := 0) (by omega) (kc3 := Z49 200 0 0 2) (kc2 := Z49 200 0 0 1) (kc1 := Z49 11 hb 0 9) (kc0 := Z49 11 hb 0 3) (by omega) (by omega) (by omega) (by omega) (by omega) (zconso rfl (zconso (zvo (rfl : i3 x1 = i3 x1)) (zconso (zvo (rfl : i3 x2 = i3 x2)) (zconso (zvo (zm_rd (Z := Z28) (ν := ν) (k := 11) (rfl : ((hb : Nat) : Int) = hb) (show ((0 : Nat) : Int) = 0 from rfl) (show ((9 : Nat) : Int) = 9 from rfl))) (zconso (zvo (i3R (i3D (zm_rd (Z := Z42) (ν := ν) (k := 200) (rfl : ((x0 : Nat) : Int) = x0) (show ((0 : Nat) : Int) = 0 from rfl) (show ((2 : Nat) : Int) = 2 from rfl)) (show (16 : Int32) = i3 16 from rfl) (by omega) (by omega) (by omega) (by omega)) (show (128 : Int32) = i3 128 from rfl) (by omega) (by omega) (by omega) (by omega))) (zconso (zvo (i3R (i3D (zm_rd (Z := Z49) (ν := ν) (k := 200) (rfl : ((x0 : Nat) : Int) = x0) (show ((0 : Nat) : Int) = 0 from rfl) (show ((2 : Nat) : Int) = 2 from rfl)) (show (16 : Int32) = i3 16 from rfl) (by omega) (by omega) (by omega) (by omega)) (show (7 : Int32) = i3 7 from rfl) (by omega) (by omega) (by omega) (by omega))) (zconso (zvo (show (0 : Int32) = i3 0 from rfl)) (zconso (zvo (show (0 : Int32) = i3 0 from rfl)) (zconso rfl rfl))))))))) rfl ?_
    intro L59 Z58 y56 y57 hL59 hZ58I kZ58 gy56 gy57 gL59_0 gL59_1 gL59_2 gL59_3 gL59_4 q9
    replace hP := zl_e3 hP (Eq.symm q9)
    clear q9
    have hZ58K : zK [11, 51, 200] Zs Z58 := zK_t hZ49K kZ58 (by decide)
    refine fc_149_2 _ (i3 x1) (i3 x2) (i3 (Z28 11 hb 0 9)) (i3 (((Z42 200 x0 0 2) / 16) % 128)) (i3 y56) _ _ _ _ hL59 ?_
    refine wz_i1 (by rw [tsn]; rfl) ?_
    refine wz_rko (rsn _) ?_
    refine wz_i1 rfl ?_
    refine wz_rko (r := (31, _, _)) rfl ?_
    refine wz_i1 rfl ?_
    refine wz_i0 (i3O (n := 2) (rfl : i3 (Z28 11 hb 0 9) = i3 (Z28 11 hb 0 9)) (by omega) (by omega) (by omega)) ?_
    refine wz_rko (r := (51, _, _)) rfl ?_
    refine wz_i1 rfl ?_
    refine wz_i0 (i3O (n := 8) (show (2 : Int32) = i3 2 from rfl) (by omega) (by omega) (by omega)) ?_
    obtain ⟨Z60, hZ60⟩ := zx (zu Z58 51 hb (Z28 11 hb 0 9) 2 (((Z42 200 x0 0 2) / 16) % 128))
    replace hP := zl_e hP hZ60
    have hZ60I := zI_u hZ58I hZ60 (lo := 0) (hi := 127) (by decide) rfl (by omega) ⟨by decide, by decide⟩ (Or.inl (by decide))
    have t61 : Z60 11 hb 0 3 = Z58 11 hb 0 3 := zu_ne hZ60 (fun q => absurd q.1 (by decide))
    have t62 : Z60 11 hb 0 9 = Z58 11 hb 0 9 := zu_ne hZ60 (fun q => absurd q.1 (by decide))
    have t63 : Z60 200 0 0 1 = Z58 200 0 0 1 := zu_ne hZ60 (fun q => absurd q.1 (by decide))
    have t64 : Z60 200 0 0 2 = Z58 200 0 0 2 := zu_ne hZ60 (fun q => absurd q.1 (by decide))
    have hZ60K := zK_u hZ58K hZ60 (by decide)
    intro μ9 e9
    replace e9 := e9.trans (zm_wI (Z := Z58) (ν := ν) hZ60 (rfl : ((hb : Nat) : Int) = hb) (i3I (y := (Z28 11 hb 0 9)) (rfl : i3 (Z28 11 hb 0 9) = i3 (Z28 11 hb 0 9)) (by omega) (by omega) (by omega)) (show ((2 : Nat) : Int) = 2 from rfl) (rfl : i3 (((Z42 200 x0 0 2) / 16) % 128) = i3 (((Z42 200 x0 0 2) / 16) % 128)))
    subst e9
    refine wz_i1 rfl ?_
    refine wz_rko (r := (31, _, _)) rfl ?_
    refine wz_i1 rfl ?_
    refine wz_i0 (i3O (n := 2) (rfl : i3 (Z28 11 hb 0 9) = i3 (Z28 11 hb 0 9)) (by omega) (by omega) (by omega)) ?_
    refine wz_rko (r := (51, _, _)) rfl ?_
    refine wz_i1 rfl ?_
    refine wz_i0 (i3O (n := 8) (show (3 : Int32) = i3 3 from rfl) (by omega) (by omega) (by omega)) ?_
    obtain ⟨Z65, hZ65⟩ := zx (zu Z60 51 hb (Z28 11 hb 0 9) 3 y56)
    replace hP := zl_e hP hZ65
    have hZ65I := zI_u hZ60I hZ65 (lo := -2147483648) (hi := 2147483647) (by decide) rfl (by omega) ⟨by decide, by decide⟩ (Or.inl (by decide))
    have t66 : Z65 11 hb 0 3 = Z60 11 hb 0 3 := zu_ne hZ65 (fun q => absurd q.1 (by decide))
    have t67 : Z65 11 hb 0 9 = Z60 11 hb 0 9 := zu_ne hZ65 (fun q => absurd q.1 (by decide))
    have t68 : Z65 200 0 0 1 = Z60 200 0 0 1 := zu_ne hZ65 (fun q => absurd q.1 (by decide))
    have t69 : Z65 200 0 0 2 = Z60 200 0 0 2 := zu_ne hZ65 (fun q => absurd q.1 (by decide))
    have hZ65K := zK_u hZ60K hZ65 (by decide)
    intro μ9 e9
    replace e9 := e9.trans (zm_wI (Z := Z60) (ν := ν) hZ65 (rfl : ((hb : Nat) : Int) = hb) (i3I (y := (Z28 11 hb 0 9)) (rfl : i3 (Z28 11 hb 0 9) = i3 (Z28 11 hb 0 9)) (by omega) (by omega) (by omega)) (show ((3 : Nat) : Int) = 3 from rfl) (rfl : i3 y56 = i3 y56))
    subst e9
    obtain ⟨v70, hv70, c9, lv70, uv70⟩ := sp_133 (ν := ν) hZ65I (a0 := y56) (by omega)
    replace hP := zl_e hP hv70
    refine wz_cI_of (zas (zcons (zvi (rfl : i3 y56 = i3 y56)) rfl) c9) ?_
    clear c9
    obtain ⟨m2, rfl⟩ : ∃ m2, m = m2 + 1 := ⟨m - 1, by omega⟩
    refine wz_kbs (n := 1) (?_)
    exact wz_k1 ⟨m2, by omega, Z65, (x2 + 1), (zconso rfl (zconso (zvo (rfl : i3 x1 = i3 x1)) (zconso (zvo (i3A (rfl : i3 x2 = i3 x2) (show (1 : Int32) = i3 1 from rfl))) (zconso rfl (zconso rfl (zconso rfl (zconso rfl (zconso rfl (zconso rfl rfl))))))))), rfl, hZ65I, hZ65K, by omega, by omega, by omega, by omega, by omega, by omega, by omega,  hP⟩

/- yX8_tellRounds -/
def zf_149 (Z : qz_Z) (sn hb : Int) : qz_Z := (zlet (zu Z 200 sn 0 2 (((25173 * (Z 200 sn 0 2)) + 13849) % 65536)) (fun Z2 => (zlet2 (zl_149_3 sn hb (((Z2 200 sn 0 2) / 16) % 3) 3 Z2 0) (fun Z10 y9 => Z10))))
theorem sp_149 {Z : qz_Z} {ν : qz_N} {sn : Nat} (hZ : zI (some (some (sn : Int))) Z) (hb : Nat) (tsn : ∀ Z, qz_tag (zm Z ν) (200, sn, 0) = 2) (rsn : ∀ Z, qz_rm (zm Z ν) 200 sn 0 0 = some (10, hb, 0)) (gx0 : Z 11 hb 0 9 = 0) (gx1 : 1 ≤ (sn : Int)) : ∃ P : qz_Z, P = zf_149 Z sn hb ∧ (qf_149 [.inr (.inr (some (200, sn, 0)))] (zm Z ν) = some (zm P ν, .inl none) ∧ zI (some (some (sn : Int))) P ∧ zK [11, 51, 200] Z P ∧ P 11 hb 0 3 = Z 11 hb 0 3 ∧ P 200 0 0 1 = Z 200 0 0 1 ∧ P 200 0 0 2 = Z 200 0 0 2) := by
  obtain ⟨P, hP⟩ := zx (zf_149 Z sn hb)
  refine zc_V (Q := fun P => zI (some (some (sn : Int))) P ∧ zK [11, 51, 200] Z P ∧ P 11 hb 0 3 = Z 11 hb 0 3 ∧ P 200 0 0 1 = Z 200 0 0 1 ∧ P 200 0 0 2 = Z 200 0 0 2) hP (fw_149 sn _ _ ?_)
  replace hP : zE P (zf_149 Z sn hb) := hP
  unfold zf_149 at hP
  have rs := zI_xs (n := sn) hZ
  refine wz_i1 (by rw [tsn]; rfl) ?_
  refine wz_i1 (by rw [tsn]; rfl) ?_
  refine wz_i1 (by rw [tsn]; rfl) ?_
  have r1 := zI_xr (n := sn) hZ
  obtain ⟨Z2, hZ2⟩ := zx (zu Z 200 sn 0 2 (((25173 * (Z 200 sn 0 2)) + 13849) % 65536))
  replace hP := zl_e hP hZ2
  have hZ2I := zI_x hZ hZ2 (by omega)
  have t3 : Z2 11 hb 0 3 = Z 11 hb 0 3 := zu_ne hZ2 (fun q => absurd q.1 (by decide))
  have t4 : Z2 11 hb 0 9 = Z 11 hb 0 9 := zu_ne hZ2 (fun q => absurd q.1 (by decide))
  have t5 : Z2 200 0 0 1 = Z 200 0 0 1 := zu_ne hZ2 (fun q => absurd q.2.2.2 (by decide))
  have t6 : Z2 200 0 0 2 = Z 200 0 0 2 := zu_ne hZ2 (by omega)
  have hZ2K : zK [11, 51, 200] Z Z2 := zK_u zK_r hZ2 (by decide)
  intro μ9 e9
  replace e9 := e9.trans (zm_wI (Z := Z) (ν := ν) hZ2 (rfl : ((sn : Nat) : Int) = sn) (show ((0 : Nat) : Int) = 0 from rfl) (show ((2 : Nat) : Int) = 2 from rfl) (i3R (i3A (i3M (show (25173 : Int32) = i3 25173 from rfl) (zm_rd (Z := Z) (ν := ν) (k := 200) (rfl : ((sn : Nat) : Int) = sn) (show ((0 : Nat) : Int) = 0 from rfl) (show ((2 : Nat) : Int) = 2 from rfl))) (show (13849 : Int32) = i3 13849 from rfl)) (show (65536 : Int32) = i3 65536 from rfl) (by omega) (by omega) (by omega) (by omega)))
  subst e9
  refine wz_i1 (by rw [tsn]; rfl) ?_
  have r7 := zI_xr (n := sn) hZ2I
  have q8 := zu_at hZ2
  refine sl_149_3 (ν := ν) sn hZ2I zK_r hb tsn rsn (x1 := (((Z2 200 sn 0 2) / 16) % 3)) (by omega) (x2 := 0) (by omega) (kc2 := Z2 200 0 0 2) (kc1 := Z2 200 0 0 1) (kc0 := Z2 11 hb 0 3) (by omega) (by omega) (by omega) (by omega) (by omega) (zconso rfl (zconso (zvo (i3R (i3D (zm_rd (Z := Z2) (ν := ν) (k := 200) (rfl : ((sn : Nat) : Int) = sn) (show ((0 : Nat) : Int) = 0 from rfl) (show ((2 : Nat) : Int) = 2 from rfl)) (show (16 : Int32) = i3 16 from rfl) (by omega) (by omega) (by omega) (by omega)) (show (3 : Int32) = i3 3 from rfl) (by omega) (by omega) (by omega) (by omega))) (zconso (zvo (show (0 : Int32) = i3 0 from rfl)) (zconso rfl (zconso rfl (zconso rfl (zconso rfl (zconso rfl (zconso rfl rfl))))))))) rfl ?_
  intro L11 Z10 y9 hL11 hZ10I kZ10 gy9 gL11_0 gL11_1 gL11_2 gL11_3 gL11_4 q9
  replace hP := zl_e2 hP (Eq.symm q9)
  clear q9
  have hZ10K : zK [11, 51, 200] Z Z10 := zK_t hZ2K kZ10 (by decide)
  refine fc_149_4  _ _ _ _ hL11 ?_
  exact zlV hP ⟨hZ10I, hZ10K, by omega, by omega, by omega⟩


/-! a season told, the class (printed by season.py c) -/
/- yX8_tellAll -/
def zf_144 (Z : qz_Z) (sn hb : Int) : qz_Z × Int := (zlet (zf_148 Z sn hb) (fun Z1 => (zlet (zf_150 Z1 sn hb) (fun Z2 => (zlet (zf_145 Z2 sn hb) (fun Z3 => (zlet (zf_147 Z3 sn hb) (fun Z4 => (zlet (zf_146 Z4 sn hb) (fun Z5 => (zlet (zf_149 Z5 sn hb) (fun Z6 => (Z6, (Z6 11 hb 0 3))))))))))))))
theorem sp_144 {Z : qz_Z} {ν : qz_N} {sn : Nat} (hZ : zI (some (some (sn : Int))) Z) (hb : Nat) (tsn : ∀ Z, qz_tag (zm Z ν) (200, sn, 0) = 2) (rsn : ∀ Z, qz_rm (zm Z ν) 200 sn 0 0 = some (10, hb, 0)) (gx0 : Z 11 hb 0 0 = 0) (gx1 : Z 11 hb 0 1 = 0) (gx2 : Z 11 hb 0 2 = 0) (gx3 : Z 11 hb 0 3 = 0) (gx4 : Z 11 hb 0 4 = 0) (gx5 : Z 11 hb 0 5 = 0) (gx6 : Z 11 hb 0 7 = 0) (gx7 : Z 11 hb 0 8 = 0) (gx8 : Z 11 hb 0 9 = 0) (gx9 : 1 ≤ (sn : Int)) : ∃ (Z1 : qz_Z) (P : Int), (Z1, P) = zf_144 Z sn hb ∧ (qf_144 [.inr (.inr (some (200, sn, 0)))] (zm Z ν) = some (zm Z1 ν, .inl (some (.inl (i3 P)))) ∧ zI (some (some (sn : Int))) Z1 ∧ zK [11, 12, 40, 41, 42, 43, 44, 45, 46, 48, 49, 50, 51, 200] Z Z1 ∧ 0 ≤ P ∧ P ≤ 48 ∧ P = Z 200 sn 0 1 ∧ Z1 200 0 0 1 = Z 200 0 0 1 ∧ Z1 200 0 0 2 = Z 200 0 0 2) := by
  obtain ⟨P, hP⟩ := zx (zf_144 Z sn hb)
  refine zc_W (Q := fun Z1 P => zI (some (some (sn : Int))) Z1 ∧ zK [11, 12, 40, 41, 42, 43, 44, 45, 46, 48, 49, 50, 51, 200] Z Z1 ∧ 0 ≤ P ∧ P ≤ 48 ∧ P = Z 200 sn 0 1 ∧ Z1 200 0 0 1 = Z 200 0 0 1 ∧ Z1 200 0 0 2 = Z 200 0 0 2) hP (fw_144 sn _ _ ?_)
  replace hP : zE P (zf_144 Z sn hb) := hP
  unfold zf_144 at hP
  have rs := zI_xs (n := sn) hZ
  refine wz_i1 (by rw [tsn]; rfl) ?_
  obtain ⟨Z1, hZ1, c9, hZ1I, kZ1, wZ10, wZ11, wZ12, wZ13, wZ14, wZ15, wZ16, wZ17, wZ18⟩ := sp_148 (ν := ν) hZ hb tsn rsn (by omega) (by omega) (by omega) (by omega)
  have hZ1K : zK [11, 12, 40, 41, 42, 43, 44, 45, 46, 48, 49, 50, 51, 200] Z Z1 := zK_t zK_r kZ1 (by decide)
  replace hP := zl_e hP hZ1
  refine wz_cV_of (zas (zcons rfl rfl) c9) ?_
  clear c9
  refine wz_i1 (by rw [tsn]; rfl) ?_
  obtain ⟨Z2, hZ2, c9, hZ2I, kZ2, wZ20, wZ21, wZ22, wZ23, wZ24, wZ25, wZ26, wZ27⟩ := sp_150 (ν := ν) hZ1I hb tsn rsn (by omega) (by omega)
  have hZ2K : zK [11, 12, 40, 41, 42, 43, 44, 45, 46, 48, 49, 50, 51, 200] Z Z2 := zK_t hZ1K kZ2 (by decide)
  replace hP := zl_e hP hZ2
  refine wz_cV_of (zas (zcons rfl rfl) c9) ?_
  clear c9
  refine wz_i1 (by rw [tsn]; rfl) ?_
  obtain ⟨Z3, hZ3, c9, hZ3I, kZ3, wZ30, wZ31, wZ32, wZ33, wZ34, wZ35⟩ := sp_145 (ν := ν) hZ2I hb tsn rsn (by omega) (by omega) (by omega)
  have hZ3K : zK [11, 12, 40, 41, 42, 43, 44, 45, 46, 48, 49, 50, 51, 200] Z Z3 := zK_t hZ2K kZ3 (by decide)
  replace hP := zl_e hP hZ3
  refine wz_cV_of (zas (zcons rfl rfl) c9) ?_
  clear c9
  refine wz_i1 (by rw [tsn]; rfl) ?_
  obtain ⟨Z4, hZ4, c9, hZ4I, kZ4, wZ40, wZ41, wZ42, wZ43, wZ44⟩ := sp_147 (ν := ν) hZ3I hb tsn rsn (by omega) (by omega)
  have hZ4K : zK [11, 12, 40, 41, 42, 43, 44, 45, 46, 48, 49, 50, 51, 200] Z Z4 := zK_t hZ3K kZ4 (by decide)
  replace hP := zl_e hP hZ4
  refine wz_cV_of (zas (zcons rfl rfl) c9) ?_
  clear c9
  refine wz_i1 (by rw [tsn]; rfl) ?_
  obtain ⟨Z5, hZ5, c9, hZ5I, kZ5, wZ50, wZ51, wZ52, wZ53⟩ := sp_146 (ν := ν) hZ4I hb tsn rsn (by omega) (by omega)
  have hZ5K : zK [11, 12, 40, 41, 42, 43, 44, 45, 46, 48, 49, 50, 51, 200] Z Z5 := zK_t hZ4K kZ5 (by decide)
  replace hP := zl_e hP hZ5
  refine wz_cV_of (zas (zcons rfl rfl) c9) ?_
  clear c9
  refine wz_i1 (by rw [tsn]; rfl) ?_
  obtain ⟨Z6, hZ6, c9, hZ6I, kZ6, wZ60, wZ61, wZ62⟩ := sp_149 (ν := ν) hZ5I hb tsn rsn (by omega) (by omega)
  have hZ6K : zK [11, 12, 40, 41, 42, 43, 44, 45, 46, 48, 49, 50, 51, 200] Z Z6 := zK_t hZ5K kZ6 (by decide)
  replace hP := zl_e hP hZ6
  refine wz_cV_of (zas (zcons rfl rfl) c9) ?_
  clear c9
  refine wz_i1 (by rw [tsn]; rfl) ?_
  refine wz_rko (rsn _) ?_
  refine wz_i1 rfl ?_
  refine wz_rko (r := (11, _, _)) rfl ?_
  refine wz_i1 rfl ?_
  refine wz_i0 (i3O (n := 17) (show (3 : Int32) = i3 3 from rfl) (by omega) (by omega) (by omega)) ?_
  have r7 := zI_k hZ6I 11 hb 0 3 (lo := 0) (hi := 48) (by decide) rfl
  exact zlW hP (zm_rd (Z := Z6) (ν := ν) (k := 11) (rfl : ((hb : Nat) : Int) = hb) (show ((0 : Nat) : Int) = 0 from rfl) (show ((3 : Nat) : Int) = 3 from rfl)) ⟨hZ6I, hZ6K, by omega, by omega, by omega, by omega, by omega⟩
