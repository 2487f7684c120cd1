/-! a season told, c (printed by season.py) -/
/- yX8_tellBuyers -/
def zl_145_2 (x0 : Int) (hb : Int) : Nat → qz_Z → Int → qz_Z × Int
  | 0, Z, x1 => (Z, x1)
  | m + 1, Z, x1 => (if (4 * (Z 200 x0 0 1)) ≤ x1 then (Z, x1) else (if 24 ≤ x1 then (Z, x1) else (zlet (zu Z 200 x0 0 2 (((25173 * (Z 200 x0 0 2)) + 13849) % 65536)) (fun Z5 => (zlet (zu Z5 200 x0 0 2 (((25173 * (Z5 200 x0 0 2)) + 13849) % 65536)) (fun Z14 => (zlet (zu Z14 200 x0 0 2 (((25173 * (Z14 200 x0 0 2)) + 13849) % 65536)) (fun Z23 => (zlet (zu Z23 200 x0 0 2 (((25173 * (Z23 200 x0 0 2)) + 13849) % 65536)) (fun Z31 => (zlet (zu Z31 200 x0 0 2 (((25173 * (Z31 200 x0 0 2)) + 13849) % 65536)) (fun Z39 => (zlet (zu Z39 200 x0 0 2 (((25173 * (Z39 200 x0 0 2)) + 13849) % 65536)) (fun Z47 => (zlet (zu Z47 46 hb (Z47 11 hb 0 5) 0 (((Z5 200 x0 0 2) / 16) % (max 1 (Z 11 hb 0 4)))) (fun Z55 => (zlet (zu Z55 46 hb (Z47 11 hb 0 5) 1 (((Z14 200 x0 0 2) / 16) % (max 1 (Z5 11 hb 0 0)))) (fun Z62 => (zlet (zu Z62 46 hb (Z47 11 hb 0 5) 2 (((Z23 200 x0 0 2) / 16) % 4)) (fun Z68 => (zlet (zu Z68 46 hb (Z47 11 hb 0 5) 3 (1 + (((Z31 200 x0 0 2) / 16) % 40))) (fun Z74 => (zlet (zu Z74 46 hb (Z47 11 hb 0 5) 4 (100 + (((Z39 200 x0 0 2) / 16) % 900))) (fun Z80 => (zlet (zu Z80 46 hb (Z47 11 hb 0 5) 5 (1 + (((Z47 200 x0 0 2) / 16) % 127))) (fun Z88 => (zlet (zu Z88 46 hb (Z47 11 hb 0 5) 6 (1 + (((Z31 200 x0 0 2) / 16) % 40))) (fun Z94 => (zlet (zu Z94 45 hb (((Z5 200 x0 0 2) / 16) % (max 1 (Z 11 hb 0 4))) 14 (w3 ((Z94 45 hb (((Z5 200 x0 0 2) / 16) % (max 1 (Z 11 hb 0 4))) 14) + 1))) (fun Z102 => (zlet (zu Z102 11 hb 0 5 ((Z102 11 hb 0 5) + 1)) (fun Z110 => zl_145_2 x0 hb m Z110 (x1 + 1)))))))))))))))))))))))))))))))))
theorem sl_145_2 {Zs Z : qz_Z} {ν : qz_N} (x0 : Nat) (hZ : zI (some (some (x0 : Int))) Z) (hK : zK [11, 45, 46, 200] Zs Z) (hb : Nat) (tsn : ∀ Z, qz_tag (zm Z ν) (200, x0, 0) = 2) (rsn : ∀ Z, qz_rm (zm Z ν) 200 x0 0 0 = some (10, hb, 0)) {x1 : Int} (gx1 : 0 ≤ x1 ∧ x1 ≤ 24) {kc0 : Int} {kc1 : Int} {kc2 : Int} {kc3 : Int} (gr0 : Z 11 hb 0 5 = x1) (gr1 : Z 11 hb 0 3 = kc0) (gr2 : Z 11 hb 0 7 = kc1) (gr3 : Z 11 hb 0 8 = kc2) (gr4 : Z 11 hb 0 9 = kc3) {k : wz_K} {R : wz_R} {L : qz_L} (hL : qz_fg [true, true] L = [some (.inr (.inr (some (200, x0, 0)))), some (.inl (i3 x1))]) {T : qz_Z × Int} (hP : zE T (zl_145_2 x0 hb ((24 - x1).toNat + 1) Z x1)) (hk : ∀ (L9 : qz_L) (Z9 : qz_Z) (yx1 : Int), qz_fg [false, false] L9 = [none, none] → zI (some (some (x0 : Int))) Z9 → zK [11, 45, 46, 200] Zs Z9 → (0 ≤ yx1 ∧ yx1 ≤ 24) → (Z9 11 hb 0 5 = yx1) → (Z9 11 hb 0 3 = kc0) → (Z9 11 hb 0 7 = kc1) → (Z9 11 hb 0 8 = kc2) → (Z9 11 hb 0 9 = kc3) → zE T ((Z9, yx1)) → k 0 (L9, [], zm Z9 ν)) : wz_loop qb_145_2 65536 k R (L, [], zm Z ν) := by
  refine wz_lp sb_145_2 (fun m x => ∃ Z : qz_Z, ∃ x1 : Int, qz_fg [true, true] x.1 = [some (.inr (.inr (some (200, x0, 0)))), some (.inl (i3 x1))] ∧ x.2 = ([], zm Z ν) ∧ zI (some (some (x0 : Int))) Z ∧ zK [11, 45, 46, 200] Zs Z ∧ m = (24 - x1).toNat ∧ (0 ≤ x1 ∧ x1 ≤ 24) ∧ (Z 11 hb 0 5 = x1) ∧ (Z 11 hb 0 3 = kc0) ∧ (Z 11 hb 0 7 = kc1) ∧ (Z 11 hb 0 8 = kc2) ∧ (Z 11 hb 0 9 = kc3) ∧ zE T (zl_145_2 x0 hb (m + 1) Z x1)) ?_ 65536 ((24 - x1).toNat) _ (by omega) ⟨Z, x1, hL, rfl, hZ, hK, rfl, gx1, gr0, gr1, gr2, gr3, gr4, hP⟩
  clear hP gr0 gr1 gr2 gr3 gr4 gx1 hZ hK hL
  clear x1
  clear Z
  rintro m ⟨L, st, μ⟩ ⟨Z, x1, hL, hx, hZ, hK, hm, gx1, gr0, gr1, gr2, gr3, gr4, hP⟩
  cases hx
  refine fb_145_2 x0 (i3 x1) _ _ _ _ hL ?_
  have rs := zI_xs (n := x0) hZ
  refine wz_i1 (by rw [tsn]; rfl) ?_
  have r1 := zI_xs (n := x0) hZ
  refine wz_br (i3Le (i3M (show (4 : Int32) = i3 4 from rfl) (zm_rd (Z := Z) (ν := ν) (k := 200) (rfl : ((x0 : Nat) : Int) = x0) (show ((0 : Nat) : Int) = 0 from rfl) (show ((1 : Nat) : Int) = 1 from rfl))) (rfl : i3 x1 = i3 x1) (by omega) (by omega) (by omega) (by omega)) (fun h2 => ?_) (fun h2 => ?_)
  · replace hP := zE_p hP h2
    exact hk _ _ _ (zconso rfl (zconso rfl rfl)) hZ hK (by omega) (by omega) (by omega) (by omega) (by omega) (by omega) hP
  · replace hP := zE_n hP h2
    refine wz_br (i3Le (show (24 : Int32) = i3 24 from rfl) (rfl : i3 x1 = i3 x1) (by omega) (by omega) (by omega) (by omega)) (fun h3 => ?_) (fun h3 => ?_)
    · replace hP := zE_p hP h3
      exact hk _ _ _ (zconso rfl (zconso rfl rfl)) hZ hK (by omega) (by omega) (by omega) (by omega) (by omega) (by omega) hP
    · replace hP := zE_n hP h3
      refine wz_i1 (by rw [tsn]; rfl) ?_
      refine wz_rko (rsn _) ?_
      refine wz_i1 (by rw [tsn]; rfl) ?_
      refine wz_rko (rsn _) ?_
      refine wz_i1 rfl ?_
      refine wz_rko (r := (11, _, _)) rfl ?_
      refine wz_i1 rfl ?_
      refine wz_i0 (i3O (n := 17) (show (4 : Int32) = i3 4 from rfl) (by omega) (by omega) (by omega)) ?_
      refine wz_i1 (by rw [tsn]; rfl) ?_
      refine wz_i1 (by rw [tsn]; rfl) ?_
      refine wz_i1 (by rw [tsn]; rfl) ?_
      have r4 := zI_xr (n := x0) hZ
      obtain ⟨Z5, hZ5⟩ := zx (zu Z 200 x0 0 2 (((25173 * (Z 200 x0 0 2)) + 13849) % 65536))
      replace hP := zl_e hP hZ5
      have hZ5I := zI_x hZ hZ5 (by omega)
      have t6 : Z5 11 hb 0 3 = Z 11 hb 0 3 := zu_ne hZ5 (fun q => absurd q.1 (by decide))
      have t7 : Z5 11 hb 0 7 = Z 11 hb 0 7 := zu_ne hZ5 (fun q => absurd q.1 (by decide))
      have t8 : Z5 11 hb 0 8 = Z 11 hb 0 8 := zu_ne hZ5 (fun q => absurd q.1 (by decide))
      have t9 : Z5 11 hb 0 9 = Z 11 hb 0 9 := zu_ne hZ5 (fun q => absurd q.1 (by decide))
      have t10 : Z5 11 hb 0 5 = Z 11 hb 0 5 := zu_ne hZ5 (fun q => absurd q.1 (by decide))
      have hZ5K := zK_u hK hZ5 (by decide)
      intro μ9 e9
      replace e9 := e9.trans (zm_wI (Z := Z) (ν := ν) hZ5 (rfl : ((x0 : Nat) : Int) = x0) (show ((0 : Nat) : Int) = 0 from rfl) (show ((2 : Nat) : Int) = 2 from rfl) (i3R (i3A (i3M (show (25173 : Int32) = i3 25173 from rfl) (zm_rd (Z := Z) (ν := ν) (k := 200) (rfl : ((x0 : Nat) : Int) = x0) (show ((0 : Nat) : Int) = 0 from rfl) (show ((2 : Nat) : Int) = 2 from rfl))) (show (13849 : Int32) = i3 13849 from rfl)) (show (65536 : Int32) = i3 65536 from rfl) (by omega) (by omega) (by omega) (by omega)))
      subst e9
      refine wz_i1 (by rw [tsn]; rfl) ?_
      have r11 := zI_k hZ 11 hb 0 4 (lo := 0) (hi := 8) (by decide) rfl
      refine wz_i0 (i3N0 (i3Mx (show (1 : Int32) = i3 1 from rfl) (zm_rd (Z := Z) (ν := ν) (k := 11) (rfl : ((hb : Nat) : Int) = hb) (show ((0 : Nat) : Int) = 0 from rfl) (show ((4 : Nat) : Int) = 4 from rfl)) (by omega) (by omega) (by omega) (by omega)) (by omega) (by omega) (by omega)) ?_
      refine wz_i1 (by rw [tsn]; rfl) ?_
      refine wz_rko (rsn _) ?_
      refine wz_i1 rfl ?_
      refine wz_rko (r := (11, _, _)) rfl ?_
      refine wz_i1 rfl ?_
      refine wz_i0 (i3O (n := 17) (show (0 : Int32) = i3 0 from rfl) (by omega) (by omega) (by omega)) ?_
      refine wz_i1 (by rw [tsn]; rfl) ?_
      refine wz_i1 (by rw [tsn]; rfl) ?_
      refine wz_i1 (by rw [tsn]; rfl) ?_
      have r12 := zI_xr (n := x0) hZ5I
      have q13 := zu_at hZ5
      obtain ⟨Z14, hZ14⟩ := zx (zu Z5 200 x0 0 2 (((25173 * (Z5 200 x0 0 2)) + 13849) % 65536))
      replace hP := zl_e hP hZ14
      have hZ14I := zI_x hZ5I hZ14 (by omega)
      have t15 : Z14 11 hb 0 3 = Z5 11 hb 0 3 := zu_ne hZ14 (fun q => absurd q.1 (by decide))
      have t16 : Z14 11 hb 0 7 = Z5 11 hb 0 7 := zu_ne hZ14 (fun q => absurd q.1 (by decide))
      have t17 : Z14 11 hb 0 8 = Z5 11 hb 0 8 := zu_ne hZ14 (fun q => absurd q.1 (by decide))
      have t18 : Z14 11 hb 0 9 = Z5 11 hb 0 9 := zu_ne hZ14 (fun q => absurd q.1 (by decide))
      have t19 : Z14 11 hb 0 5 = Z5 11 hb 0 5 := zu_ne hZ14 (fun q => absurd q.1 (by decide))
      have hZ14K := zK_u hZ5K hZ14 (by decide)
      intro μ9 e9
      replace e9 := e9.trans (zm_wI (Z := Z5) (ν := ν) hZ14 (rfl : ((x0 : Nat) : Int) = x0) (show ((0 : Nat) : Int) = 0 from rfl) (show ((2 : Nat) : Int) = 2 from rfl) (i3R (i3A (i3M (show (25173 : Int32) = i3 25173 from rfl) (zm_rd (Z := Z5) (ν := ν) (k := 200) (rfl : ((x0 : Nat) : Int) = x0) (show ((0 : Nat) : Int) = 0 from rfl) (show ((2 : Nat) : Int) = 2 from rfl))) (show (13849 : Int32) = i3 13849 from rfl)) (show (65536 : Int32) = i3 65536 from rfl) (by omega) (by omega) (by omega) (by omega)))
      subst e9
      refine wz_i1 (by rw [tsn]; rfl) ?_
      have r20 := zI_k hZ5I 11 hb 0 0 (lo := 0) (hi := 5) (by decide) rfl
      refine wz_i0 (i3N0 (i3Mx (show (1 : Int32) = i3 1 from rfl) (zm_rd (Z := Z5) (ν := ν) (k := 11) (rfl : ((hb : Nat) : Int) = hb) (show ((0 : Nat) : Int) = 0 from rfl) (show ((0 : Nat) : Int) = 0 from rfl)) (by omega) (by omega) (by omega) (by omega)) (by omega) (by omega) (by omega)) ?_
      refine wz_i1 (by rw [tsn]; rfl) ?_
      refine wz_i1 (by rw [tsn]; rfl) ?_
      refine wz_i1 (by rw [tsn]; rfl) ?_
      have r21 := zI_xr (n := x0) hZ14I
      have q22 := zu_at hZ14
      obtain ⟨Z23, hZ23⟩ := zx (zu Z14 200 x0 0 2 (((25173 * (Z14 200 x0 0 2)) + 13849) % 65536))
      replace hP := zl_e hP hZ23
      have hZ23I := zI_x hZ14I hZ23 (by omega)
      have t24 : Z23 11 hb 0 3 = Z14 11 hb 0 3 := zu_ne hZ23 (fun q => absurd q.1 (by decide))
      have t25 : Z23 11 hb 0 7 = Z14 11 hb 0 7 := zu_ne hZ23 (fun q => absurd q.1 (by decide))
      have t26 : Z23 11 hb 0 8 = Z14 11 hb 0 8 := zu_ne hZ23 (fun q => absurd q.1 (by decide))
      have t27 : Z23 11 hb 0 9 = Z14 11 hb 0 9 := zu_ne hZ23 (fun q => absurd q.1 (by decide))
      have t28 : Z23 11 hb 0 5 = Z14 11 hb 0 5 := zu_ne hZ23 (fun q => absurd q.1 (by decide))
      have hZ23K := zK_u hZ14K hZ23 (by decide)
      intro μ9 e9
      replace e9 := e9.trans (zm_wI (Z := Z14) (ν := ν) hZ23 (rfl : ((x0 : Nat) : Int) = x0) (show ((0 : Nat) : Int) = 0 from rfl) (show ((2 : Nat) : Int) = 2 from rfl) (i3R (i3A (i3M (show (25173 : Int32) = i3 25173 from rfl) (zm_rd (Z := Z14) (ν := ν) (k := 200) (rfl : ((x0 : Nat) : Int) = x0) (show ((0 : Nat) : Int) = 0 from rfl) (show ((2 : Nat) : Int) = 2 from rfl))) (show (13849 : Int32) = i3 13849 from rfl)) (show (65536 : Int32) = i3 65536 from rfl) (by omega) (by omega) (by omega) (by omega)))
      subst e9
      refine wz_i1 (by rw [tsn]; rfl) ?_
      refine wz_i1 (by rw [tsn]; rfl) ?_
      refine wz_i1 (by rw [tsn]; rfl) ?_
      refine wz_i1 (by rw [tsn]; rfl) ?_
      have r29 := zI_xr (n := x0) hZ23I
      have q30 := zu_at hZ23
      obtain ⟨Z31, hZ31⟩ := zx (zu Z23 200 x0 0 2 (((25173 * (Z23 200 x0 0 2)) + 13849) % 65536))
      replace hP := zl_e hP hZ31
      have hZ31I := zI_x hZ23I hZ31 (by omega)
      have t32 : Z31 11 hb 0 3 = Z23 11 hb 0 3 := zu_ne hZ31 (fun q => absurd q.1 (by decide))
      have t33 : Z31 11 hb 0 7 = Z23 11 hb 0 7 := zu_ne hZ31 (fun q => absurd q.1 (by decide))
      have t34 : Z31 11 hb 0 8 = Z23 11 hb 0 8 := zu_ne hZ31 (fun q => absurd q.1 (by decide))
      have t35 : Z31 11 hb 0 9 = Z23 11 hb 0 9 := zu_ne hZ31 (fun q => absurd q.1 (by decide))
      have t36 : Z31 11 hb 0 5 = Z23 11 hb 0 5 := zu_ne hZ31 (fun q => absurd q.1 (by decide))
      have hZ31K := zK_u hZ23K hZ31 (by decide)
      intro μ9 e9
      replace e9 := e9.trans (zm_wI (Z := Z23) (ν := ν) hZ31 (rfl : ((x0 : Nat) : Int) = x0) (show ((0 : Nat) : Int) = 0 from rfl) (show ((2 : Nat) : Int) = 2 from rfl) (i3R (i3A (i3M (show (25173 : Int32) = i3 25173 from rfl) (zm_rd (Z := Z23) (ν := ν) (k := 200) (rfl : ((x0 : Nat) : Int) = x0) (show ((0 : Nat) : Int) = 0 from rfl) (show ((2 : Nat) : Int) = 2 from rfl))) (show (13849 : Int32) = i3 13849 from rfl)) (show (65536 : Int32) = i3 65536 from rfl) (by omega) (by omega) (by omega) (by omega)))
      subst e9
      refine wz_i1 (by rw [tsn]; rfl) ?_
      refine wz_i1 (by rw [tsn]; rfl) ?_
      refine wz_i1 (by rw [tsn]; rfl) ?_
      refine wz_i1 (by rw [tsn]; rfl) ?_
      have r37 := zI_xr (n := x0) hZ31I
      have q38 := zu_at hZ31
      obtain ⟨Z39, hZ39⟩ := zx (zu Z31 200 x0 0 2 (((25173 * (Z31 200 x0 0 2)) + 13849) % 65536))
      replace hP := zl_e hP hZ39
      have hZ39I := zI_x hZ31I hZ39 (by omega)
      have t40 : Z39 11 hb 0 3 = Z31 11 hb 0 3 := zu_ne hZ39 (fun q => absurd q.1 (by decide))
      have t41 : Z39 11 hb 0 7 = Z31 11 hb 0 7 := zu_ne hZ39 (fun q => absurd q.1 (by decide))
      have t42 : Z39 11 hb 0 8 = Z31 11 hb 0 8 := zu_ne hZ39 (fun q => absurd q.1 (by decide))
      have t43 : Z39 11 hb 0 9 = Z31 11 hb 0 9 := zu_ne hZ39 (fun q => absurd q.1 (by decide))
      have t44 : Z39 11 hb 0 5 = Z31 11 hb 0 5 := zu_ne hZ39 (fun q => absurd q.1 (by decide))
      have hZ39K := zK_u hZ31K hZ39 (by decide)
      intro μ9 e9
      replace e9 := e9.trans (zm_wI (Z := Z31) (ν := ν) hZ39 (rfl : ((x0 : Nat) : Int) = x0) (show ((0 : Nat) : Int) = 0 from rfl) (show ((2 : Nat) : Int) = 2 from rfl) (i3R (i3A (i3M (show (25173 : Int32) = i3 25173 from rfl) (zm_rd (Z := Z31) (ν := ν) (k := 200) (rfl : ((x0 : Nat) : Int) = x0) (show ((0 : Nat) : Int) = 0 from rfl) (show ((2 : Nat) : Int) = 2 from rfl))) (show (13849 : Int32) = i3 13849 from rfl)) (show (65536 : Int32) = i3 65536 from rfl) (by omega) (by omega) (by omega) (by omega)))
      subst e9
      refine wz_i1 (by rw [tsn]; rfl) ?_
      refine wz_i1 (by rw [tsn]; rfl) ?_
      refine wz_i1 (by rw [tsn]; rfl) ?_
      refine wz_i1 (by rw [tsn]; rfl) ?_
      have r45 := zI_xr (n := x0) hZ39I
      have q46 := zu_at hZ39
      obtain ⟨Z47, hZ47⟩ := zx (zu Z39 200 x0 0 2 (((25173 * (Z39 200 x0 0 2)) + 13849) % 65536))
      replace hP := zl_e hP hZ47
      have hZ47I := zI_x hZ39I hZ47 (by omega)
      have t48 : Z47 11 hb 0 3 = Z39 11 hb 0 3 := zu_ne hZ47 (fun q => absurd q.1 (by decide))
      have t49 : Z47 11 hb 0 7 = Z39 11 hb 0 7 := zu_ne hZ47 (fun q => absurd q.1 (by decide))
      have t50 : Z47 11 hb 0 8 = Z39 11 hb 0 8 := zu_ne hZ47 (fun q => absurd q.1 (by decide))
      have t51 : Z47 11 hb 0 9 = Z39 11 hb 0 9 := zu_ne hZ47 (fun q => absurd q.1 (by decide))
      have t52 : Z47 11 hb 0 5 = Z39 11 hb 0 5 := zu_ne hZ47 (fun q => absurd q.1 (by decide))
      have hZ47K := zK_u hZ39K hZ47 (by decide)
      intro μ9 e9
      replace e9 := e9.trans (zm_wI (Z := Z39) (ν := ν) hZ47 (rfl : ((x0 : Nat) : Int) = x0) (show ((0 : Nat) : Int) = 0 from rfl) (show ((2 : Nat) : Int) = 2 from rfl) (i3R (i3A (i3M (show (25173 : Int32) = i3 25173 from rfl) (zm_rd (Z := Z39) (ν := ν) (k := 200) (rfl : ((x0 : Nat) : Int) = x0) (show ((0 : Nat) : Int) = 0 from rfl) (show ((2 : Nat) : Int) = 2 from rfl))) (show (13849 : Int32) = i3 13849 from rfl)) (show (65536 : Int32) = i3 65536 from rfl) (by omega) (by omega) (by omega) (by omega)))
      subst e9
      refine wz_i1 (by rw [tsn]; rfl) ?_
      refine wz_i1 rfl ?_
      refine wz_rko (r := (26, _, _)) rfl ?_
      refine wz_i1 rfl ?_
      refine wz_rko (r := (11, _, _)) rfl ?_
      refine wz_i1 rfl ?_
      refine wz_i0 (i3O (n := 17) (show (5 : Int32) = i3 5 from rfl) (by omega) (by omega) (by omega)) ?_
      refine wz_i1 rfl ?_
      have r53 := zI_k hZ47I 11 hb 0 5 (lo := 0) (hi := 24) (by decide) rfl
      refine wz_i0 (i3O (n := 24) (zm_rd (Z := Z47) (ν := ν) (k := 11) (rfl : ((hb : Nat) : Int) = hb) (show ((0 : Nat) : Int) = 0 from rfl) (show ((5 : Nat) : Int) = 5 from rfl)) (by omega) (by omega) (by omega)) ?_
      refine wz_rko (r := (46, _, _)) rfl ?_
      refine wz_i1 rfl ?_
      refine wz_i0 (i3O (n := 10) (show (0 : Int32) = i3 0 from rfl) (by omega) (by omega) (by omega)) ?_
      have r54 := z_mod ((Z5 200 x0 0 2) / 16) (y := (max 1 (Z 11 hb 0 4))) (by omega)
      obtain ⟨Z55, hZ55⟩ := zx (zu Z47 46 hb (Z47 11 hb 0 5) 0 (((Z5 200 x0 0 2) / 16) % (max 1 (Z 11 hb 0 4))))
      replace hP := zl_e hP hZ55
      have hZ55I := zI_u hZ47I hZ55 (lo := 0) (hi := 7) (by decide) rfl (by omega) ⟨by decide, by decide⟩ (Or.inl (by decide))
      have t56 : Z55 11 hb 0 3 = Z47 11 hb 0 3 := zu_ne hZ55 (fun q => absurd q.1 (by decide))
      have t57 : Z55 11 hb 0 7 = Z47 11 hb 0 7 := zu_ne hZ55 (fun q => absurd q.1 (by decide))
      have t58 : Z55 11 hb 0 8 = Z47 11 hb 0 8 := zu_ne hZ55 (fun q => absurd q.1 (by decide))
      have t59 : Z55 11 hb 0 9 = Z47 11 hb 0 9 := zu_ne hZ55 (fun q => absurd q.1 (by decide))
      have t60 : Z55 11 hb 0 5 = Z47 11 hb 0 5 := zu_ne hZ55 (fun q => absurd q.1 (by decide))
      have hZ55K := zK_u hZ47K hZ55 (by decide)
      intro μ9 e9
      replace e9 := e9.trans (zm_wI (Z := Z47) (ν := ν) hZ55 (rfl : ((hb : Nat) : Int) = hb) (i3I (y := (Z47 11 hb 0 5)) (zm_rd (Z := Z47) (ν := ν) (k := 11) (rfl : ((hb : Nat) : Int) = hb) (show ((0 : Nat) : Int) = 0 from rfl) (show ((5 : Nat) : Int) = 5 from rfl)) (by omega) (by omega) (by omega)) (show ((0 : Nat) : Int) = 0 from rfl) (i3R (i3D (zm_rd (Z := Z5) (ν := ν) (k := 200) (rfl : ((x0 : Nat) : Int) = x0) (show ((0 : Nat) : Int) = 0 from rfl) (show ((2 : Nat) : Int) = 2 from rfl)) (show (16 : Int32) = i3 16 from rfl) (by omega) (by omega) (by omega) (by omega)) (i3Mx (show (1 : Int32) = i3 1 from rfl) (zm_rd (Z := Z) (ν := ν) (k := 11) (rfl : ((hb : Nat) : Int) = hb) (show ((0 : Nat) : Int) = 0 from rfl) (show ((4 : Nat) : Int) = 4 from rfl)) (by omega) (by omega) (by omega) (by omega)) (by omega) (by omega) (by omega) (by omega)))
      subst e9
      refine wz_i1 rfl ?_
      refine wz_i0 (i3O (n := 10) (show (1 : Int32) = i3 1 from rfl) (by omega) (by omega) (by omega)) ?_
      have r61 := z_mod ((Z14 200 x0 0 2) / 16) (y := (max 1 (Z5 11 hb 0 0))) (by omega)
      obtain ⟨Z62, hZ62⟩ := zx (zu Z55 46 hb (Z47 11 hb 0 5) 1 (((Z14 200 x0 0 2) / 16) % (max 1 (Z5 11 hb 0 0))))
      replace hP := zl_e hP hZ62
      have hZ62I := zI_u hZ55I hZ62 (lo := 0) (hi := 4) (by decide) rfl (by omega) ⟨by decide, by decide⟩ (Or.inl (by decide))
      have t63 : Z62 11 hb 0 3 = Z55 11 hb 0 3 := zu_ne hZ62 (fun q => absurd q.1 (by decide))
      have t64 : Z62 11 hb 0 7 = Z55 11 hb 0 7 := zu_ne hZ62 (fun q => absurd q.1 (by decide))
      have t65 : Z62 11 hb 0 8 = Z55 11 hb 0 8 := zu_ne hZ62 (fun q => absurd q.1 (by decide))
      have t66 : Z62 11 hb 0 9 = Z55 11 hb 0 9 := zu_ne hZ62 (fun q => absurd q.1 (by decide))
      have t67 : Z62 11 hb 0 5 = Z55 11 hb 0 5 := zu_ne hZ62 (fun q => absurd q.1 (by decide))
      have hZ62K := zK_u hZ55K hZ62 (by decide)
      intro μ9 e9
      replace e9 := e9.trans (zm_wI (Z := Z55) (ν := ν) hZ62 (rfl : ((hb : Nat) : Int) = hb) (i3I (y := (Z47 11 hb 0 5)) (zm_rd (Z := Z47) (ν := ν) (k := 11) (rfl : ((hb : Nat) : Int) = hb) (show ((0 : Nat) : Int) = 0 from rfl) (show ((5 : Nat) : Int) = 5 from rfl)) (by omega) (by omega) (by omega)) (show ((1 : Nat) : Int) = 1 from rfl) (i3R (i3D (zm_rd (Z := Z14) (ν := ν) (k := 200) (rfl : ((x0 : Nat) : Int) = x0) (show ((0 : Nat) : Int) = 0 from rfl) (show ((2 : Nat) : Int) = 2 from rfl)) (show (16 : Int32) = i3 16 from rfl) (by omega) (by omega) (by omega) (by omega)) (i3Mx (show (1 : Int32) = i3 1 from rfl) (zm_rd (Z := Z5) (ν := ν) (k := 11) (rfl : ((hb : Nat) : Int) = hb) (show ((0 : Nat) : Int) = 0 from rfl) (show ((0 : Nat) : Int) = 0 from rfl)) (by omega) (by omega) (by omega) (by omega)) (by omega) (by omega) (by omega) (by omega)))
      subst e9
      refine wz_i1 rfl ?_
      refine wz_i0 (i3O (n := 10) (show (2 : Int32) = i3 2 from rfl) (by omega) (by omega) (by omega)) ?_
      obtain ⟨Z68, hZ68⟩ := zx (zu Z62 46 hb (Z47 11 hb 0 5) 2 (((Z23 200 x0 0 2) / 16) % 4))
      replace hP := zl_e hP hZ68
      have hZ68I := zI_u hZ62I hZ68 (lo := 0) (hi := 3) (by decide) rfl (by omega) ⟨by decide, by decide⟩ (Or.inl (by decide))
      have t69 : Z68 11 hb 0 3 = Z62 11 hb 0 3 := zu_ne hZ68 (fun q => absurd q.1 (by decide))
      have t70 : Z68 11 hb 0 7 = Z62 11 hb 0 7 := zu_ne hZ68 (fun q => absurd q.1 (by decide))
      have t71 : Z68 11 hb 0 8 = Z62 11 hb 0 8 := zu_ne hZ68 (fun q => absurd q.1 (by decide))
      have t72 : Z68 11 hb 0 9 = Z62 11 hb 0 9 := zu_ne hZ68 (fun q => absurd q.1 (by decide))
      have t73 : Z68 11 hb 0 5 = Z62 11 hb 0 5 := zu_ne hZ68 (fun q => absurd q.1 (by decide))
      have hZ68K := zK_u hZ62K hZ68 (by decide)
      intro μ9 e9
      replace e9 := e9.trans (zm_wI (Z := Z62) (ν := ν) hZ68 (rfl : ((hb : Nat) : Int) = hb) (i3I (y := (Z47 11 hb 0 5)) (zm_rd (Z := Z47) (ν := ν) (k := 11) (rfl : ((hb : Nat) : Int) = hb) (show ((0 : Nat) : Int) = 0 from rfl) (show ((5 : Nat) : Int) = 5 from rfl)) (by omega) (by omega) (by omega)) (show ((2 : Nat) : Int) = 2 from rfl) (i3R (i3D (zm_rd (Z := Z23) (ν := ν) (k := 200) (rfl : ((x0 : Nat) : Int) = x0) (show ((0 : Nat) : Int) = 0 from rfl) (show ((2 : Nat) : Int) = 2 from rfl)) (show (16 : Int32) = i3 16 from rfl) (by omega) (by omega) (by omega) (by omega)) (show (4 : Int32) = i3 4 from rfl) (by omega) (by omega) (by omega) (by omega)))
      subst e9
      refine wz_i1 rfl ?_
      refine wz_i0 (i3O (n := 10) (show (3 : Int32) = i3 3 from rfl) (by omega) (by omega) (by omega)) ?_
      obtain ⟨Z74, hZ74⟩ := zx (zu Z68 46 hb (Z47 11 hb 0 5) 3 (1 + (((Z31 200 x0 0 2) / 16) % 40)))
      replace hP := zl_e hP hZ74
      have hZ74I := zI_u hZ68I hZ74 (lo := 0) (hi := 99) (by decide) rfl (by omega) ⟨by decide, by decide⟩ (Or.inl (by decide))
      have t75 : Z74 11 hb 0 3 = Z68 11 hb 0 3 := zu_ne hZ74 (fun q => absurd q.1 (by decide))
      have t76 : Z74 11 hb 0 7 = Z68 11 hb 0 7 := zu_ne hZ74 (fun q => absurd q.1 (by decide))
      have t77 : Z74 11 hb 0 8 = Z68 11 hb 0 8 := zu_ne hZ74 (fun q => absurd q.1 (by decide))
      have t78 : Z74 11 hb 0 9 = Z68 11 hb 0 9 := zu_ne hZ74 (fun q => absurd q.1 (by decide))
      have t79 : Z74 11 hb 0 5 = Z68 11 hb 0 5 := zu_ne hZ74 (fun q => absurd q.1 (by decide))
      have hZ74K := zK_u hZ68K hZ74 (by decide)
      intro μ9 e9
      replace e9 := e9.trans (zm_wI (Z := Z68) (ν := ν) hZ74 (rfl : ((hb : Nat) : Int) = hb) (i3I (y := (Z47 11 hb 0 5)) (zm_rd (Z := Z47) (ν := ν) (k := 11) (rfl : ((hb : Nat) : Int) = hb) (show ((0 : Nat) : Int) = 0 from rfl) (show ((5 : Nat) : Int) = 5 from rfl)) (by omega) (by omega) (by omega)) (show ((3 : Nat) : Int) = 3 from rfl) (i3A (show (1 : Int32) = i3 1 from rfl) (i3R (i3D (zm_rd (Z := Z31) (ν := ν) (k := 200) (rfl : ((x0 : Nat) : Int) = x0) (show ((0 : Nat) : Int) = 0 from rfl) (show ((2 : Nat) : Int) = 2 from rfl)) (show (16 : Int32) = i3 16 from rfl) (by omega) (by omega) (by omega) (by omega)) (show (40 : Int32) = i3 40 from rfl) (by omega) (by omega) (by omega) (by omega))))
      subst e9
      refine wz_i1 rfl ?_
      refine wz_i0 (i3O (n := 10) (show (4 : Int32) = i3 4 from rfl) (by omega) (by omega) (by omega)) ?_
      obtain ⟨Z80, hZ80⟩ := zx (zu Z74 46 hb (Z47 11 hb 0 5) 4 (100 + (((Z39 200 x0 0 2) / 16) % 900)))
      replace hP := zl_e hP hZ80
      have hZ80I := zI_u hZ74I hZ80 (lo := 0) (hi := 9999) (by decide) rfl (by omega) ⟨by decide, by decide⟩ (Or.inl (by decide))
      have t81 : Z80 11 hb 0 3 = Z74 11 hb 0 3 := zu_ne hZ80 (fun q => absurd q.1 (by decide))
      have t82 : Z80 11 hb 0 7 = Z74 11 hb 0 7 := zu_ne hZ80 (fun q => absurd q.1 (by decide))
      have t83 : Z80 11 hb 0 8 = Z74 11 hb 0 8 := zu_ne hZ80 (fun q => absurd q.1 (by decide))
      have t84 : Z80 11 hb 0 9 = Z74 11 hb 0 9 := zu_ne hZ80 (fun q => absurd q.1 (by decide))
      have t85 : Z80 11 hb 0 5 = Z74 11 hb 0 5 := zu_ne hZ80 (fun q => absurd q.1 (by decide))
      have hZ80K := zK_u hZ74K hZ80 (by decide)
      intro μ9 e9
      replace e9 := e9.trans (zm_wI (Z := Z74) (ν := ν) hZ80 (rfl : ((hb : Nat) : Int) = hb) (i3I (y := (Z47 11 hb 0 5)) (zm_rd (Z := Z47) (ν := ν) (k := 11) (rfl : ((hb : Nat) : Int) = hb) (show ((0 : Nat) : Int) = 0 from rfl) (show ((5 : Nat) : Int) = 5 from rfl)) (by omega) (by omega) (by omega)) (show ((4 : Nat) : Int) = 4 from rfl) (i3A (show (100 : Int32) = i3 100 from rfl) (i3R (i3D (zm_rd (Z := Z39) (ν := ν) (k := 200) (rfl : ((x0 : Nat) : Int) = x0) (show ((0 : Nat) : Int) = 0 from rfl) (show ((2 : Nat) : Int) = 2 from rfl)) (show (16 : Int32) = i3 16 from rfl) (by omega) (by omega) (by omega) (by omega)) (show (900 : Int32) = i3 900 from rfl) (by omega) (by omega) (by omega) (by omega))))
      subst e9
      refine wz_i1 rfl ?_
      refine wz_i0 (i3O (n := 10) (show (5 : Int32) = i3 5 from rfl) (by omega) (by omega) (by omega)) ?_
      have r86 := zI_xr (n := x0) hZ47I
      have q87 := zu_at hZ47
      obtain ⟨Z88, hZ88⟩ := zx (zu Z80 46 hb (Z47 11 hb 0 5) 5 (1 + (((Z47 200 x0 0 2) / 16) % 127)))
      replace hP := zl_e hP hZ88
      have hZ88I := zI_u hZ80I hZ88 (lo := 0) (hi := 127) (by decide) rfl (by omega) ⟨by decide, by decide⟩ (Or.inl (by decide))
      have t89 : Z88 11 hb 0 3 = Z80 11 hb 0 3 := zu_ne hZ88 (fun q => absurd q.1 (by decide))
      have t90 : Z88 11 hb 0 7 = Z80 11 hb 0 7 := zu_ne hZ88 (fun q => absurd q.1 (by decide))
      have t91 : Z88 11 hb 0 8 = Z80 11 hb 0 8 := zu_ne hZ88 (fun q => absurd q.1 (by decide))
      have t92 : Z88 11 hb 0 9 = Z80 11 hb 0 9 := zu_ne hZ88 (fun q => absurd q.1 (by decide))
      have t93 : Z88 11 hb 0 5 = Z80 11 hb 0 5 := zu_ne hZ88 (fun q => absurd q.1 (by decide))
      have hZ88K := zK_u hZ80K hZ88 (by decide)
      intro μ9 e9
      replace e9 := e9.trans (zm_wI (Z := Z80) (ν := ν) hZ88 (rfl : ((hb : Nat) : Int) = hb) (i3I (y := (Z47 11 hb 0 5)) (zm_rd (Z := Z47) (ν := ν) (k := 11) (rfl : ((hb : Nat) : Int) = hb) (show ((0 : Nat) : Int) = 0 from rfl) (show ((5 : Nat) : Int) = 5 from rfl)) (by omega) (by omega) (by omega)) (show ((5 : Nat) : Int) = 5 from rfl) (i3A (show (1 : Int32) = i3 1 from rfl) (i3R (i3D (zm_rd (Z := Z47) (ν := ν) (k := 200) (rfl : ((x0 : Nat) : Int) = x0) (show ((0 : Nat) : Int) = 0 from rfl) (show ((2 : Nat) : Int) = 2 from rfl)) (show (16 : Int32) = i3 16 from rfl) (by omega) (by omega) (by omega) (by omega)) (show (127 : Int32) = i3 127 from rfl) (by omega) (by omega) (by omega) (by omega))))
      subst e9
      refine wz_i1 rfl ?_
      refine wz_i0 (i3O (n := 10) (show (6 : Int32) = i3 6 from rfl) (by omega) (by omega) (by omega)) ?_
      obtain ⟨Z94, hZ94⟩ := zx (zu Z88 46 hb (Z47 11 hb 0 5) 6 (1 + (((Z31 200 x0 0 2) / 16) % 40)))
      replace hP := zl_e hP hZ94
      have hZ94I := zI_u hZ88I hZ94 (lo := 0) (hi := 99) (by decide) rfl (by omega) ⟨by decide, by decide⟩ (Or.inl (by decide))
      have t95 : Z94 11 hb 0 3 = Z88 11 hb 0 3 := zu_ne hZ94 (fun q => absurd q.1 (by decide))
      have t96 : Z94 11 hb 0 7 = Z88 11 hb 0 7 := zu_ne hZ94 (fun q => absurd q.1 (by decide))
      have t97 : Z94 11 hb 0 8 = Z88 11 hb 0 8 := zu_ne hZ94 (fun q => absurd q.1 (by decide))
      have t98 : Z94 11 hb 0 9 = Z88 11 hb 0 9 := zu_ne hZ94 (fun q => absurd q.1 (by decide))
      have t99 : Z94 11 hb 0 5 = Z88 11 hb 0 5 := zu_ne hZ94 (fun q => absurd q.1 (by decide))
      have hZ94K := zK_u hZ88K hZ94 (by decide)
      intro μ9 e9
      replace e9 := e9.trans (zm_wI (Z := Z88) (ν := ν) hZ94 (rfl : ((hb : Nat) : Int) = hb) (i3I (y := (Z47 11 hb 0 5)) (zm_rd (Z := Z47) (ν := ν) (k := 11) (rfl : ((hb : Nat) : Int) = hb) (show ((0 : Nat) : Int) = 0 from rfl) (show ((5 : Nat) : Int) = 5 from rfl)) (by omega) (by omega) (by omega)) (show ((6 : Nat) : Int) = 6 from rfl) (i3A (show (1 : Int32) = i3 1 from rfl) (i3R (i3D (zm_rd (Z := Z31) (ν := ν) (k := 200) (rfl : ((x0 : Nat) : Int) = x0) (show ((0 : Nat) : Int) = 0 from rfl) (show ((2 : Nat) : Int) = 2 from rfl)) (show (16 : Int32) = i3 16 from rfl) (by omega) (by omega) (by omega) (by omega)) (show (40 : Int32) = i3 40 from rfl) (by omega) (by omega) (by omega) (by omega))))
      subst e9
      refine wz_i1 rfl ?_
      refine wz_rko (r := (25, _, _)) rfl ?_
      refine wz_i1 rfl ?_
      refine wz_i0 (i3O (n := 8) (i3R (i3D (zm_rd (Z := Z5) (ν := ν) (k := 200) (rfl : ((x0 : Nat) : Int) = x0) (show ((0 : Nat) : Int) = 0 from rfl) (show ((2 : Nat) : Int) = 2 from rfl)) (show (16 : Int32) = i3 16 from rfl) (by omega) (by omega) (by omega) (by omega)) (i3Mx (show (1 : Int32) = i3 1 from rfl) (zm_rd (Z := Z) (ν := ν) (k := 11) (rfl : ((hb : Nat) : Int) = hb) (show ((0 : Nat) : Int) = 0 from rfl) (show ((4 : Nat) : Int) = 4 from rfl)) (by omega) (by omega) (by omega) (by omega)) (by omega) (by omega) (by omega) (by omega)) (by omega) (by omega) (by omega)) ?_
      refine wz_rko (r := (45, _, _)) rfl ?_
      refine wz_i1 rfl ?_
      refine wz_i0 (i3O (n := 15) (show (14 : Int32) = i3 14 from rfl) (by omega) (by omega) (by omega)) ?_
      refine wz_i1 rfl ?_
      refine wz_i0 (i3O (n := 15) (show (14 : Int32) = i3 14 from rfl) (by omega) (by omega) (by omega)) ?_
      have r100 := zI_f hZ94I 45 hb (((Z5 200 x0 0 2) / 16) % (max 1 (Z 11 hb 0 4))) 14
      have r101 := w3_r ((Z94 45 hb (((Z5 200 x0 0 2) / 16) % (max 1 (Z 11 hb 0 4))) 14) + 1)
      obtain ⟨Z102, hZ102⟩ := zx (zu Z94 45 hb (((Z5 200 x0 0 2) / 16) % (max 1 (Z 11 hb 0 4))) 14 (w3 ((Z94 45 hb (((Z5 200 x0 0 2) / 16) % (max 1 (Z 11 hb 0 4))) 14) + 1)))
      replace hP := zl_e hP hZ102
      have hZ102I := zI_u hZ94I hZ102 (lo := -2147483648) (hi := 2147483647) (by decide) rfl (by omega) ⟨by decide, by decide⟩ (Or.inl (by decide))
      have t103 : Z102 11 hb 0 3 = Z94 11 hb 0 3 := zu_ne hZ102 (fun q => absurd q.1 (by decide))
      have t104 : Z102 11 hb 0 7 = Z94 11 hb 0 7 := zu_ne hZ102 (fun q => absurd q.1 (by decide))
      have t105 : Z102 11 hb 0 8 = Z94 11 hb 0 8 := zu_ne hZ102 (fun q => absurd q.1 (by decide))
      have t106 : Z102 11 hb 0 9 = Z94 11 hb 0 9 := zu_ne hZ102 (fun q => absurd q.1 (by decide))
      have t107 : Z102 11 hb 0 5 = Z94 11 hb 0 5 := zu_ne hZ102 (fun q => absurd q.1 (by decide))
      have hZ102K := zK_u hZ94K hZ102 (by decide)
      intro μ9 e9
      replace e9 := e9.trans (zm_wI (Z := Z94) (ν := ν) hZ102 (rfl : ((hb : Nat) : Int) = hb) (i3I (y := (((Z5 200 x0 0 2) / 16) % (max 1 (Z 11 hb 0 4)))) (i3R (i3D (zm_rd (Z := Z5) (ν := ν) (k := 200) (rfl : ((x0 : Nat) : Int) = x0) (show ((0 : Nat) : Int) = 0 from rfl) (show ((2 : Nat) : Int) = 2 from rfl)) (show (16 : Int32) = i3 16 from rfl) (by omega) (by omega) (by omega) (by omega)) (i3Mx (show (1 : Int32) = i3 1 from rfl) (zm_rd (Z := Z) (ν := ν) (k := 11) (rfl : ((hb : Nat) : Int) = hb) (show ((0 : Nat) : Int) = 0 from rfl) (show ((4 : Nat) : Int) = 4 from rfl)) (by omega) (by omega) (by omega) (by omega)) (by omega) (by omega) (by omega) (by omega)) (by omega) (by omega) (by omega)) (show ((14 : Nat) : Int) = 14 from rfl) (i3W (i3A (zm_rd (Z := Z94) (ν := ν) (k := 45) (rfl : ((hb : Nat) : Int) = hb) (i3I (y := (((Z5 200 x0 0 2) / 16) % (max 1 (Z 11 hb 0 4)))) (i3R (i3D (zm_rd (Z := Z5) (ν := ν) (k := 200) (rfl : ((x0 : Nat) : Int) = x0) (show ((0 : Nat) : Int) = 0 from rfl) (show ((2 : Nat) : Int) = 2 from rfl)) (show (16 : Int32) = i3 16 from rfl) (by omega) (by omega) (by omega) (by omega)) (i3Mx (show (1 : Int32) = i3 1 from rfl) (zm_rd (Z := Z) (ν := ν) (k := 11) (rfl : ((hb : Nat) : Int) = hb) (show ((0 : Nat) : Int) = 0 from rfl) (show ((4 : Nat) : Int) = 4 from rfl)) (by omega) (by omega) (by omega) (by omega)) (by omega) (by omega) (by omega) (by omega)) (by omega) (by omega) (by omega)) (show ((14 : Nat) : Int) = 14 from rfl)) (show (1 : Int32) = i3 1 from rfl))))
      subst e9
      refine wz_i1 rfl ?_
      refine wz_rko (r := (11, _, _)) rfl ?_
      refine wz_i1 rfl ?_
      refine wz_i0 (i3O (n := 17) (show (5 : Int32) = i3 5 from rfl) (by omega) (by omega) (by omega)) ?_
      refine wz_i1 rfl ?_
      refine wz_i0 (i3O (n := 17) (show (5 : Int32) = i3 5 from rfl) (by omega) (by omega) (by omega)) ?_
      have r108 := zI_k hZ102I 11 hb 0 5 (lo := 0) (hi := 24) (by decide) rfl
      have q109 := (zu_ne (k' := 11) (b' := hb) (i' := 0) (j' := 5) hZ102 (fun q => absurd q.1 (by decide))).trans ((zu_ne (k' := 11) (b' := hb) (i' := 0) (j' := 5) hZ94 (fun q => absurd q.1 (by decide))).trans ((zu_ne (k' := 11) (b' := hb) (i' := 0) (j' := 5) hZ88 (fun q => absurd q.1 (by decide))).trans ((zu_ne (k' := 11) (b' := hb) (i' := 0) (j' := 5) hZ80 (fun q => absurd q.1 (by decide))).trans ((zu_ne (k' := 11) (b' := hb) (i' := 0) (j' := 5) hZ74 (fun q => absurd q.1 (by decide))).trans ((zu_ne (k' := 11) (b' := hb) (i' := 0) (j' := 5) hZ68 (fun q => absurd q.1 (by decide))).trans ((zu_ne (k' := 11) (b' := hb) (i' := 0) (j' := 5) hZ62 (fun q => absurd q.1 (by decide))).trans (zu_ne (k' := 11) (b' := hb) (i' := 0) (j' := 5) hZ55 (fun q => absurd q.1 (by decide)))))))))
      obtain ⟨Z110, hZ110⟩ := zx (zu Z102 11 hb 0 5 ((Z102 11 hb 0 5) + 1))
      replace hP := zl_e hP hZ110
      have hZ110I := zI_u hZ102I hZ110 (lo := 0) (hi := 24) (by decide) rfl (by omega) ⟨by decide, by decide⟩ (Or.inl (by decide))
      have t111 : Z110 11 hb 0 3 = Z102 11 hb 0 3 := zu_ne hZ110 (fun q => absurd q.2.2.2 (by decide))
      have t112 : Z110 11 hb 0 7 = Z102 11 hb 0 7 := zu_ne hZ110 (fun q => absurd q.2.2.2 (by decide))
      have t113 : Z110 11 hb 0 8 = Z102 11 hb 0 8 := zu_ne hZ110 (fun q => absurd q.2.2.2 (by decide))
      have t114 : Z110 11 hb 0 9 = Z102 11 hb 0 9 := zu_ne hZ110 (fun q => absurd q.2.2.2 (by decide))
      have t115 := zu_at hZ110
      have hZ110K := zK_u hZ102K hZ110 (by decide)
      intro μ9 e9
      replace e9 := e9.trans (zm_wI (Z := Z102) (ν := ν) hZ110 (rfl : ((hb : Nat) : Int) = hb) (show ((0 : Nat) : Int) = 0 from rfl) (show ((5 : Nat) : Int) = 5 from rfl) (i3A (zm_rd (Z := Z102) (ν := ν) (k := 11) (rfl : ((hb : Nat) : Int) = hb) (show ((0 : Nat) : Int) = 0 from rfl) (show ((5 : Nat) : Int) = 5 from rfl)) (show (1 : Int32) = i3 1 from rfl)))
      subst e9
      obtain ⟨m2, rfl⟩ : ∃ m2, m = m2 + 1 := ⟨m - 1, by omega⟩
      exact wz_k1 ⟨m2, by omega, Z110, (x1 + 1), (zconso rfl (zconso (zvo (i3A (rfl : i3 x1 = i3 x1) (show (1 : Int32) = i3 1 from rfl))) rfl)), rfl, hZ110I, hZ110K, by omega, by omega, by omega, by omega, by omega, by omega, by omega,  hP⟩

/- yX8_tellBuyers -/
def zf_145 (Z : qz_Z) (sn hb : Int) : qz_Z := (zlet2 (zl_145_1 sn hb 9 Z 0) (fun Z2 y1 => (zlet2 (zl_145_2 sn hb 25 Z2 0) (fun Z5 y4 => Z5))))
theorem sp_145 {Z : qz_Z} {ν : qz_N} {sn : Nat} (hZ : zI (some (some (sn : Int))) Z) (hb : Nat) (tsn : ∀ Z, qz_tag (zm Z ν) (200, sn, 0) = 2) (rsn : ∀ Z, qz_rm (zm Z ν) 200 sn 0 0 = some (10, hb, 0)) (gx0 : Z 11 hb 0 4 = 0) (gx1 : Z 11 hb 0 5 = 0) : ∃ P : qz_Z, P = zf_145 Z sn hb ∧ (qf_145 [.inr (.inr (some (200, sn, 0)))] (zm Z ν) = some (zm P ν, .inl none) ∧ zI (some (some (sn : Int))) P ∧ zK [11, 45, 46, 200] Z P ∧ P 11 hb 0 3 = Z 11 hb 0 3 ∧ P 11 hb 0 7 = Z 11 hb 0 7 ∧ P 11 hb 0 8 = Z 11 hb 0 8 ∧ P 11 hb 0 9 = Z 11 hb 0 9) := by
  obtain ⟨P, hP⟩ := zx (zf_145 Z sn hb)
  refine zc_V (Q := fun P => zI (some (some (sn : Int))) P ∧ zK [11, 45, 46, 200] Z P ∧ P 11 hb 0 3 = Z 11 hb 0 3 ∧ P 11 hb 0 7 = Z 11 hb 0 7 ∧ P 11 hb 0 8 = Z 11 hb 0 8 ∧ P 11 hb 0 9 = Z 11 hb 0 9) hP (fw_145 sn _ _ ?_)
  replace hP : zE P (zf_145 Z sn hb) := hP
  unfold zf_145 at hP
  have rs := zI_xs (n := sn) hZ
  refine sl_145_1 (ν := ν) sn hZ zK_r hb tsn rsn (x1 := 0) (by omega) (kc4 := Z 11 hb 0 9) (kc3 := Z 11 hb 0 8) (kc2 := Z 11 hb 0 7) (kc1 := Z 11 hb 0 5) (kc0 := Z 11 hb 0 3) (by omega) (by omega) (by omega) (by omega) (by omega) (by omega) (zconso rfl (zconso (zvo (show (0 : Int32) = i3 0 from rfl)) rfl)) rfl ?_
  intro L3 Z2 y1 hL3 hZ2I kZ2 gy1 gL3_0 gL3_1 gL3_2 gL3_3 gL3_4 gL3_5 q9
  replace hP := zl_e2 hP (Eq.symm q9)
  clear q9
  have hZ2K : zK [11, 45, 46, 200] Z Z2 := zK_t zK_r kZ2 (by decide)
  refine fc_145_4 _ _ _ _ _ hL3 ?_
  refine sl_145_2 (ν := ν) sn hZ2I zK_r hb tsn rsn (x1 := 0) (by omega) (kc3 := Z2 11 hb 0 9) (kc2 := Z2 11 hb 0 8) (kc1 := Z2 11 hb 0 7) (kc0 := Z2 11 hb 0 3) (by omega) (by omega) (by omega) (by omega) (by omega) (zconso rfl (zconso (zvo (show (0 : Int32) = i3 0 from rfl)) rfl)) rfl ?_
  intro L6 Z5 y4 hL6 hZ5I kZ5 gy4 gL6_0 gL6_1 gL6_2 gL6_3 gL6_4 q9
  replace hP := zl_e2 hP (Eq.symm q9)
  clear q9
  have hZ5K : zK [11, 45, 46, 200] Z Z5 := zK_t hZ2K kZ5 (by decide)
  refine fc_145_3  _ _ _ _ hL6 ?_
  exact zlV hP ⟨hZ5I, hZ5K, by omega, by omega, by omega, by omega⟩

/- yX3_queueFault -/
def zf_71 (Z : qz_Z) (a0b : Int) (a1 : Int) (a2 : Int) (a3 : Int) (a4 : Int) : Int := (if (Z 11 a0b 0 7) ≤ a1 then 1 else (if a2 < (Z 11 a0b 0 3) then (if a3 < a4 then 2 else (if a3 ≤ (a4 + (200 * (Z 48 a0b a1 3))) then (if (Z 44 a0b a2 10) ≠ 0 then 3 else (if (Z 44 a0b a2 4) ≤ 0 then 3 else (if (Z 44 a0b a2 12) < 0 then (if 12 ≤ (Z 48 a0b a1 5) then 3 else 0) else (if (Z 11 a0b 0 2) ≤ (Z 44 a0b a2 12) then (if 12 ≤ (Z 48 a0b a1 5) then 3 else 0) else (if (Z 43 a0b (Z 44 a0b a2 12) 10) ≤ (Z 11 a0b 0 13) then (if 12 ≤ (Z 48 a0b a1 5) then 3 else 0) else 3))))) else 2)) else 1))
theorem sp_71 {s : zS} {Z : qz_Z} {ν : qz_N} (hZ : zI s Z) (a0b : Nat) {a1 : Int} (ga1 : 0 ≤ a1 ∧ a1 ≤ 1) {a2 : Int} (ga2 : 0 ≤ a2 ∧ a2 ≤ 47) {a3 : Int} (ga3 : 200 ≤ a3 ∧ a3 ≤ 2150) {a4 : Int} (ga4 : 1 ≤ a4 ∧ a4 ≤ 2150) : ∃ P : Int, P = zf_71 Z a0b a1 a2 a3 a4 ∧ (qf_71 [.inr (.inr (some (10, a0b, 0))), .inl (i3 a1), .inl (i3 a2), .inl (i3 a3), .inl (i3 a4)] (zm Z ν) = some (zm Z ν, .inl (some (.inl (i3 P)))) ∧ 0 ≤ P ∧ P ≤ 3 ∧ (P ≠ 0 ∨ Z 48 a0b a1 5 ≤ 11)) := by
  obtain ⟨P, hP⟩ := zx (zf_71 Z a0b a1 a2 a3 a4)
  refine zc_R (Q := fun P => 0 ≤ P ∧ P ≤ 3 ∧ (P ≠ 0 ∨ Z 48 a0b a1 5 ≤ 11)) hP (fw_71 a0b (i3 a1) (i3 a2) (i3 a3) (i3 a4) _ _ ?_)
  replace hP : zE P (zf_71 Z a0b a1 a2 a3 a4) := hP
  unfold zf_71 at hP
  refine wz_i0 (Eq.trans (i3L (rfl : i3 a1 = i3 a1) (show (0 : Int32) = i3 0 from rfl) (by omega) (by omega) (by omega) (by omega)) (decide_eq_false (by omega))) ?_
  have r1 := zI_k hZ 11 a0b 0 7 (lo := 0) (hi := 2) (by decide) rfl
  refine wz_br (i3Le (zm_rd (Z := Z) (ν := ν) (k := 11) (rfl : ((a0b : Nat) : Int) = a0b) (show ((0 : Nat) : Int) = 0 from rfl) (show ((7 : Nat) : Int) = 7 from rfl)) (rfl : i3 a1 = i3 a1) (by omega) (by omega) (by omega) (by omega)) (fun h2 => ?_) (fun h2 => ?_)
  · replace hP := zE_p hP h2
    exact zlR hP (show (1 : Int32) = i3 1 from rfl) ⟨by omega, by omega, by omega⟩
  · replace hP := zE_n hP h2
    refine wz_i0 (Eq.trans (i3L (rfl : i3 a2 = i3 a2) (show (0 : Int32) = i3 0 from rfl) (by omega) (by omega) (by omega) (by omega)) (decide_eq_false (by omega))) ?_
    have r3 := zI_k hZ 11 a0b 0 3 (lo := 0) (hi := 48) (by decide) rfl
    refine wz_br (i3L (rfl : i3 a2 = i3 a2) (zm_rd (Z := Z) (ν := ν) (k := 11) (rfl : ((a0b : Nat) : Int) = a0b) (show ((0 : Nat) : Int) = 0 from rfl) (show ((3 : Nat) : Int) = 3 from rfl)) (by omega) (by omega) (by omega) (by omega)) (fun h4 => ?_) (fun h4 => ?_)
    · replace hP := zE_p hP h4
      refine wz_i0 (Eq.trans (i3L (rfl : i3 a3 = i3 a3) (show (1 : Int32) = i3 1 from rfl) (by omega) (by omega) (by omega) (by omega)) (decide_eq_false (by omega))) ?_
      refine wz_i0 (Eq.trans (i3L (show (9999 : Int32) = i3 9999 from rfl) (rfl : i3 a3 = i3 a3) (by omega) (by omega) (by omega) (by omega)) (decide_eq_false (by omega))) ?_
      refine wz_i0 (Eq.trans (i3L (rfl : i3 a4 = i3 a4) (show (1 : Int32) = i3 1 from rfl) (by omega) (by omega) (by omega) (by omega)) (decide_eq_false (by omega))) ?_
      refine wz_br (i3L (rfl : i3 a3 = i3 a3) (rfl : i3 a4 = i3 a4) (by omega) (by omega) (by omega) (by omega)) (fun h5 => ?_) (fun h5 => ?_)
      · replace hP := zE_p hP h5
        exact zlR hP (show (2 : Int32) = i3 2 from rfl) ⟨by omega, by omega, by omega⟩
      · replace hP := zE_n hP h5
        refine wz_i0 (i3O (n := 2) (rfl : i3 a1 = i3 a1) (by omega) (by omega) (by omega)) ?_
        have r6 := zI_k hZ 48 a0b a1 3 (lo := 0) (hi := 500) (by decide) rfl
        refine wz_br (i3Le (rfl : i3 a3 = i3 a3) (i3A (rfl : i3 a4 = i3 a4) (i3M (show (200 : Int32) = i3 200 from rfl) (zm_rd (Z := Z) (ν := ν) (k := 48) (rfl : ((a0b : Nat) : Int) = a0b) (i3I (y := a1) (rfl : i3 a1 = i3 a1) (by omega) (by omega) (by omega)) (show ((3 : Nat) : Int) = 3 from rfl)))) (by omega) (by omega) (by omega) (by omega)) (fun h7 => ?_) (fun h7 => ?_)
        · replace hP := zE_p hP h7
          refine wz_i0 (i3O (n := 48) (rfl : i3 a2 = i3 a2) (by omega) (by omega) (by omega)) ?_
          have r8 := zI_k hZ 44 a0b a2 10 (lo := 0) (hi := 4) (by decide) rfl
          refine wz_br (i3NE (zm_rd (Z := Z) (ν := ν) (k := 44) (rfl : ((a0b : Nat) : Int) = a0b) (i3I (y := a2) (rfl : i3 a2 = i3 a2) (by omega) (by omega) (by omega)) (show ((10 : Nat) : Int) = 10 from rfl)) (show (0 : Int32) = i3 0 from rfl) (by omega) (by omega) (by omega) (by omega)) (fun h9 => ?_) (fun h9 => ?_)
          · replace hP := zE_p hP h9
            exact zlR hP (show (3 : Int32) = i3 3 from rfl) ⟨by omega, by omega, by omega⟩
          · replace hP := zE_n hP h9
            have r10 := zI_k hZ 44 a0b a2 4 (lo := 0) (hi := 40) (by decide) rfl
            refine wz_br (i3Le (zm_rd (Z := Z) (ν := ν) (k := 44) (rfl : ((a0b : Nat) : Int) = a0b) (i3I (y := a2) (rfl : i3 a2 = i3 a2) (by omega) (by omega) (by omega)) (show ((4 : Nat) : Int) = 4 from rfl)) (show (0 : Int32) = i3 0 from rfl) (by omega) (by omega) (by omega) (by omega)) (fun h11 => ?_) (fun h11 => ?_)
            · replace hP := zE_p hP h11
              exact zlR hP (show (3 : Int32) = i3 3 from rfl) ⟨by omega, by omega, by omega⟩
            · replace hP := zE_n hP h11
              have r12 := zI_k hZ 44 a0b a2 12 (lo := -1) (hi := 6) (by decide) rfl
              refine wz_br (i3L (zm_rd (Z := Z) (ν := ν) (k := 44) (rfl : ((a0b : Nat) : Int) = a0b) (i3I (y := a2) (rfl : i3 a2 = i3 a2) (by omega) (by omega) (by omega)) (show ((12 : Nat) : Int) = 12 from rfl)) (show (0 : Int32) = i3 0 from rfl) (by omega) (by omega) (by omega) (by omega)) (fun h13 => ?_) (fun h13 => ?_)
              · replace hP := zE_p hP h13
                refine wz_i0 (i3O (n := 2) (rfl : i3 a1 = i3 a1) (by omega) (by omega) (by omega)) ?_
                have r14 := zI_k hZ 48 a0b a1 5 (lo := 0) (hi := 12) (by decide) rfl
                refine wz_br (i3Le (show (12 : Int32) = i3 12 from rfl) (zm_rd (Z := Z) (ν := ν) (k := 48) (rfl : ((a0b : Nat) : Int) = a0b) (i3I (y := a1) (rfl : i3 a1 = i3 a1) (by omega) (by omega) (by omega)) (show ((5 : Nat) : Int) = 5 from rfl)) (by omega) (by omega) (by omega) (by omega)) (fun h15 => ?_) (fun h15 => ?_)
                · replace hP := zE_p hP h15
                  exact zlR hP (show (3 : Int32) = i3 3 from rfl) ⟨by omega, by omega, by omega⟩
                · replace hP := zE_n hP h15
                  exact zlR hP (show (0 : Int32) = i3 0 from rfl) ⟨by omega, by omega, by omega⟩
              · replace hP := zE_n hP h13
                have r16 := zI_k hZ 11 a0b 0 2 (lo := 0) (hi := 6) (by decide) rfl
                refine wz_br (i3Le (zm_rd (Z := Z) (ν := ν) (k := 11) (rfl : ((a0b : Nat) : Int) = a0b) (show ((0 : Nat) : Int) = 0 from rfl) (show ((2 : Nat) : Int) = 2 from rfl)) (zm_rd (Z := Z) (ν := ν) (k := 44) (rfl : ((a0b : Nat) : Int) = a0b) (i3I (y := a2) (rfl : i3 a2 = i3 a2) (by omega) (by omega) (by omega)) (show ((12 : Nat) : Int) = 12 from rfl)) (by omega) (by omega) (by omega) (by omega)) (fun h17 => ?_) (fun h17 => ?_)
                · replace hP := zE_p hP h17
                  refine wz_i0 (i3O (n := 2) (rfl : i3 a1 = i3 a1) (by omega) (by omega) (by omega)) ?_
                  have r18 := zI_k hZ 48 a0b a1 5 (lo := 0) (hi := 12) (by decide) rfl
                  refine wz_br (i3Le (show (12 : Int32) = i3 12 from rfl) (zm_rd (Z := Z) (ν := ν) (k := 48) (rfl : ((a0b : Nat) : Int) = a0b) (i3I (y := a1) (rfl : i3 a1 = i3 a1) (by omega) (by omega) (by omega)) (show ((5 : Nat) : Int) = 5 from rfl)) (by omega) (by omega) (by omega) (by omega)) (fun h19 => ?_) (fun h19 => ?_)
                  · replace hP := zE_p hP h19
                    exact zlR hP (show (3 : Int32) = i3 3 from rfl) ⟨by omega, by omega, by omega⟩
                  · replace hP := zE_n hP h19
                    exact zlR hP (show (0 : Int32) = i3 0 from rfl) ⟨by omega, by omega, by omega⟩
                · replace hP := zE_n hP h17
                  refine wz_i0 (i3O (n := 6) (zm_rd (Z := Z) (ν := ν) (k := 44) (rfl : ((a0b : Nat) : Int) = a0b) (i3I (y := a2) (rfl : i3 a2 = i3 a2) (by omega) (by omega) (by omega)) (show ((12 : Nat) : Int) = 12 from rfl)) (by omega) (by omega) (by omega)) ?_
                  have r20 := zI_k hZ 43 a0b (Z 44 a0b a2 12) 10 (lo := -1) (hi := 695) (by decide) rfl
                  have r21 := zI_k hZ 11 a0b 0 13 (lo := 0) (hi := 671) (by decide) rfl
                  refine wz_br (i3Le (zm_rd (Z := Z) (ν := ν) (k := 43) (rfl : ((a0b : Nat) : Int) = a0b) (i3I (y := (Z 44 a0b a2 12)) (zm_rd (Z := Z) (ν := ν) (k := 44) (rfl : ((a0b : Nat) : Int) = a0b) (i3I (y := a2) (rfl : i3 a2 = i3 a2) (by omega) (by omega) (by omega)) (show ((12 : Nat) : Int) = 12 from rfl)) (by omega) (by omega) (by omega)) (show ((10 : Nat) : Int) = 10 from rfl)) (zm_rd (Z := Z) (ν := ν) (k := 11) (rfl : ((a0b : Nat) : Int) = a0b) (show ((0 : Nat) : Int) = 0 from rfl) (show ((13 : Nat) : Int) = 13 from rfl)) (by omega) (by omega) (by omega) (by omega)) (fun h22 => ?_) (fun h22 => ?_)
                  · replace hP := zE_p hP h22
                    refine wz_i0 (i3O (n := 2) (rfl : i3 a1 = i3 a1) (by omega) (by omega) (by omega)) ?_
                    have r23 := zI_k hZ 48 a0b a1 5 (lo := 0) (hi := 12) (by decide) rfl
                    refine wz_br (i3Le (show (12 : Int32) = i3 12 from rfl) (zm_rd (Z := Z) (ν := ν) (k := 48) (rfl : ((a0b : Nat) : Int) = a0b) (i3I (y := a1) (rfl : i3 a1 = i3 a1) (by omega) (by omega) (by omega)) (show ((5 : Nat) : Int) = 5 from rfl)) (by omega) (by omega) (by omega) (by omega)) (fun h24 => ?_) (fun h24 => ?_)
                    · replace hP := zE_p hP h24
                      exact zlR hP (show (3 : Int32) = i3 3 from rfl) ⟨by omega, by omega, by omega⟩
                    · replace hP := zE_n hP h24
                      exact zlR hP (show (0 : Int32) = i3 0 from rfl) ⟨by omega, by omega, by omega⟩
                  · replace hP := zE_n hP h22
                    exact zlR hP (show (3 : Int32) = i3 3 from rfl) ⟨by omega, by omega, by omega⟩
        · replace hP := zE_n hP h7
          exact zlR hP (show (2 : Int32) = i3 2 from rfl) ⟨by omega, by omega, by omega⟩
    · replace hP := zE_n hP h4
      exact zlR hP (show (1 : Int32) = i3 1 from rfl) ⟨by omega, by omega, by omega⟩

