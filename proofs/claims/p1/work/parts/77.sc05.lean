/-! a season told, the class (printed by season.py c) -/
/- yX8_tellBuyers -/
def zl_145_2 (x0 : Int) (hb : Int) : Nat → qz_Z → Int → qz_Z × Int
  | 0, Z, x1 => (Z, x1)
  | m + 1, Z, x1 => (if (4 * (Z 200 x0 0 1)) ≤ x1 then (Z, x1) else (if 24 ≤ x1 then (Z, x1) else (zlet (zu Z 200 x0 0 2 (((25173 * (Z 200 x0 0 2)) + 13849) % 65536)) (fun Z5 => (zlet (zu Z5 200 x0 0 2 (((25173 * (Z5 200 x0 0 2)) + 13849) % 65536)) (fun Z16 => (zlet (zu Z16 200 x0 0 2 (((25173 * (Z16 200 x0 0 2)) + 13849) % 65536)) (fun Z27 => (zlet (zu Z27 200 x0 0 2 (((25173 * (Z27 200 x0 0 2)) + 13849) % 65536)) (fun Z37 => (zlet (zu Z37 200 x0 0 2 (((25173 * (Z37 200 x0 0 2)) + 13849) % 65536)) (fun Z47 => (zlet (zu Z47 200 x0 0 2 (((25173 * (Z47 200 x0 0 2)) + 13849) % 65536)) (fun Z57 => (zlet (zu Z57 46 hb (Z57 11 hb 0 5) 0 (((Z5 200 x0 0 2) / 16) % (max 1 (Z 11 hb 0 4)))) (fun Z67 => (zlet (zu Z67 46 hb (Z57 11 hb 0 5) 1 (((Z16 200 x0 0 2) / 16) % (max 1 (Z5 11 hb 0 0)))) (fun Z76 => (zlet (zu Z76 46 hb (Z57 11 hb 0 5) 2 (((Z27 200 x0 0 2) / 16) % 4)) (fun Z84 => (zlet (zu Z84 46 hb (Z57 11 hb 0 5) 3 (1 + (((Z37 200 x0 0 2) / 16) % 40))) (fun Z92 => (zlet (zu Z92 46 hb (Z57 11 hb 0 5) 4 (100 + (((Z47 200 x0 0 2) / 16) % 900))) (fun Z100 => (zlet (zu Z100 46 hb (Z57 11 hb 0 5) 5 (1 + (((Z57 200 x0 0 2) / 16) % 127))) (fun Z110 => (zlet (zu Z110 46 hb (Z57 11 hb 0 5) 6 (1 + (((Z37 200 x0 0 2) / 16) % 40))) (fun Z118 => (zlet (zu Z118 45 hb (((Z5 200 x0 0 2) / 16) % (max 1 (Z 11 hb 0 4))) 14 (w3 ((Z118 45 hb (((Z5 200 x0 0 2) / 16) % (max 1 (Z 11 hb 0 4))) 14) + 1))) (fun Z128 => (zlet (zu Z128 11 hb 0 5 ((Z128 11 hb 0 5) + 1)) (fun Z138 => zl_145_2 x0 hb m Z138 (x1 + 1)))))))))))))))))))))))))))))))))
theorem sl_145_2 {Zs Z : qz_Z} {ν : qz_N} (x0 : Nat) (hZ : zI (some (some (x0 : Int))) Z) (hK : zK [11, 45, 46, 200] Zs Z) (hb : Nat) (tsn : ∀ Z, qz_tag (zm Z ν) (200, x0, 0) = 2) (rsn : ∀ Z, qz_rm (zm Z ν) 200 x0 0 0 = some (10, hb, 0)) {x1 : Int} (gx1 : 0 ≤ x1 ∧ x1 ≤ 24) {kc0 : Int} {kc1 : Int} {kc2 : Int} {kc3 : Int} {kc4 : Int} {kc5 : Int} (gr0 : Z 11 hb 0 5 = x1) (gr1 : 1 ≤ (x0 : Int)) (gr2 : Z 11 hb 0 3 = kc0) (gr3 : Z 11 hb 0 7 = kc1) (gr4 : Z 11 hb 0 8 = kc2) (gr5 : Z 11 hb 0 9 = kc3) (gr6 : Z 200 0 0 1 = kc4) (gr7 : Z 200 0 0 2 = kc5) {k : wz_K} {R : wz_R} {L : qz_L} (hL : qz_fg [true, true] L = [some (.inr (.inr (some (200, x0, 0)))), some (.inl (i3 x1))]) {T : qz_Z × Int} (hP : zE T (zl_145_2 x0 hb ((24 - x1).toNat + 1) Z x1)) (hk : ∀ (L9 : qz_L) (Z9 : qz_Z) (yx1 : Int), qz_fg [false, false] L9 = [none, none] → zI (some (some (x0 : Int))) Z9 → zK [11, 45, 46, 200] Zs Z9 → (0 ≤ yx1 ∧ yx1 ≤ 24) → (Z9 11 hb 0 5 = yx1) → (1 ≤ (x0 : Int)) → (Z9 11 hb 0 3 = kc0) → (Z9 11 hb 0 7 = kc1) → (Z9 11 hb 0 8 = kc2) → (Z9 11 hb 0 9 = kc3) → (Z9 200 0 0 1 = kc4) → (Z9 200 0 0 2 = kc5) → zE T ((Z9, yx1)) → k 0 (L9, [], zm Z9 ν)) : wz_loop qb_145_2 65536 k R (L, [], zm Z ν) := by
  refine wz_lp sb_145_2 (fun m x => ∃ Z : qz_Z, ∃ x1 : Int, qz_fg [true, true] x.1 = [some (.inr (.inr (some (200, x0, 0)))), some (.inl (i3 x1))] ∧ x.2 = ([], zm Z ν) ∧ zI (some (some (x0 : Int))) Z ∧ zK [11, 45, 46, 200] Zs Z ∧ m = (24 - x1).toNat ∧ (0 ≤ x1 ∧ x1 ≤ 24) ∧ (Z 11 hb 0 5 = x1) ∧ (1 ≤ (x0 : Int)) ∧ (Z 11 hb 0 3 = kc0) ∧ (Z 11 hb 0 7 = kc1) ∧ (Z 11 hb 0 8 = kc2) ∧ (Z 11 hb 0 9 = kc3) ∧ (Z 200 0 0 1 = kc4) ∧ (Z 200 0 0 2 = kc5) ∧ zE T (zl_145_2 x0 hb (m + 1) Z x1)) ?_ 65536 ((24 - x1).toNat) _ (by omega) ⟨Z, x1, hL, rfl, hZ, hK, rfl, gx1, gr0, gr1, gr2, gr3, gr4, gr5, gr6, gr7, hP⟩
  clear hP gr0 gr1 gr2 gr3 gr4 gr5 gr6 gr7 gx1 hZ hK hL
  clear x1
  clear Z
  rintro m ⟨L, st, μ⟩ ⟨Z, x1, hL, hx, hZ, hK, hm, gx1, gr0, gr1, gr2, gr3, gr4, gr5, gr6, gr7, hP⟩
  cases hx
  refine fb_145_2 x0 (i3 x1) _ _ _ _ hL ?_
  have rs := zI_xs (n := x0) hZ
  refine wz_i1 (by rw [tsn]; rfl) ?_
  have r1 := zI_xs (n := x0) hZ
  refine wz_br (i3Le (i3M (show (4 : Int32) = i3 4 from rfl) (zm_rd (Z := Z) (ν := ν) (k := 200) (rfl : ((x0 : Nat) : Int) = x0) (show ((0 : Nat) : Int) = 0 from rfl) (show ((1 : Nat) : Int) = 1 from rfl))) (rfl : i3 x1 = i3 x1) (by omega) (by omega) (by omega) (by omega)) (fun h2 => ?_) (fun h2 => ?_)
  · replace hP := zE_p hP h2
    exact hk _ _ _ (zconso rfl (zconso rfl rfl)) hZ hK (by omega) (by omega) (by omega) (by omega) (by omega) (by omega) (by omega) (by omega) (by omega) hP
  · replace hP := zE_n hP h2
    refine wz_br (i3Le (show (24 : Int32) = i3 24 from rfl) (rfl : i3 x1 = i3 x1) (by omega) (by omega) (by omega) (by omega)) (fun h3 => ?_) (fun h3 => ?_)
    · replace hP := zE_p hP h3
      exact hk _ _ _ (zconso rfl (zconso rfl rfl)) hZ hK (by omega) (by omega) (by omega) (by omega) (by omega) (by omega) (by omega) (by omega) (by omega) hP
    · replace hP := zE_n hP h3
      refine wz_i1 (by rw [tsn]; rfl) ?_
      refine wz_rko (rsn _) ?_
      refine wz_i1 (by rw [tsn]; rfl) ?_
      refine wz_rko (rsn _) ?_
      refine wz_i1 rfl ?_
      refine wz_rko (r := (11, _, _)) rfl ?_
      refine wz_i1 rfl ?_
      refine wz_i0 (i3O (n := 17) (show (4 : Int32) = i3 4 from rfl) (by omega) (by omega) (by omega)) ?_
      refine wz_i1 (by rw [tsn]; rfl) ?_
      refine wz_i1 (by rw [tsn]; rfl) ?_
      refine wz_i1 (by rw [tsn]; rfl) ?_
      have r4 := zI_xr (n := x0) hZ
      obtain ⟨Z5, hZ5⟩ := zx (zu Z 200 x0 0 2 (((25173 * (Z 200 x0 0 2)) + 13849) % 65536))
      replace hP := zl_e hP hZ5
      have hZ5I := zI_x hZ hZ5 (by omega)
      have t6 : Z5 11 hb 0 3 = Z 11 hb 0 3 := zu_ne hZ5 (fun q => absurd q.1 (by decide))
      have t7 : Z5 11 hb 0 7 = Z 11 hb 0 7 := zu_ne hZ5 (fun q => absurd q.1 (by decide))
      have t8 : Z5 11 hb 0 8 = Z 11 hb 0 8 := zu_ne hZ5 (fun q => absurd q.1 (by decide))
      have t9 : Z5 11 hb 0 9 = Z 11 hb 0 9 := zu_ne hZ5 (fun q => absurd q.1 (by decide))
      have t10 : Z5 11 hb 0 5 = Z 11 hb 0 5 := zu_ne hZ5 (fun q => absurd q.1 (by decide))
      have t11 : Z5 200 0 0 1 = Z 200 0 0 1 := zu_ne hZ5 (fun q => absurd q.2.2.2 (by decide))
      have t12 : Z5 200 0 0 2 = Z 200 0 0 2 := zu_ne hZ5 (by omega)
      have hZ5K := zK_u hK hZ5 (by decide)
      intro μ9 e9
      replace e9 := e9.trans (zm_wI (Z := Z) (ν := ν) hZ5 (rfl : ((x0 : Nat) : Int) = x0) (show ((0 : Nat) : Int) = 0 from rfl) (show ((2 : Nat) : Int) = 2 from rfl) (i3R (i3A (i3M (show (25173 : Int32) = i3 25173 from rfl) (zm_rd (Z := Z) (ν := ν) (k := 200) (rfl : ((x0 : Nat) : Int) = x0) (show ((0 : Nat) : Int) = 0 from rfl) (show ((2 : Nat) : Int) = 2 from rfl))) (show (13849 : Int32) = i3 13849 from rfl)) (show (65536 : Int32) = i3 65536 from rfl) (by omega) (by omega) (by omega) (by omega)))
      subst e9
      refine wz_i1 (by rw [tsn]; rfl) ?_
      have r13 := zI_k hZ 11 hb 0 4 (lo := 0) (hi := 8) (by decide) rfl
      refine wz_i0 (i3N0 (i3Mx (show (1 : Int32) = i3 1 from rfl) (zm_rd (Z := Z) (ν := ν) (k := 11) (rfl : ((hb : Nat) : Int) = hb) (show ((0 : Nat) : Int) = 0 from rfl) (show ((4 : Nat) : Int) = 4 from rfl)) (by omega) (by omega) (by omega) (by omega)) (by omega) (by omega) (by omega)) ?_
      refine wz_i1 (by rw [tsn]; rfl) ?_
      refine wz_rko (rsn _) ?_
      refine wz_i1 rfl ?_
      refine wz_rko (r := (11, _, _)) rfl ?_
      refine wz_i1 rfl ?_
      refine wz_i0 (i3O (n := 17) (show (0 : Int32) = i3 0 from rfl) (by omega) (by omega) (by omega)) ?_
      refine wz_i1 (by rw [tsn]; rfl) ?_
      refine wz_i1 (by rw [tsn]; rfl) ?_
      refine wz_i1 (by rw [tsn]; rfl) ?_
      have r14 := zI_xr (n := x0) hZ5I
      have q15 := zu_at hZ5
      obtain ⟨Z16, hZ16⟩ := zx (zu Z5 200 x0 0 2 (((25173 * (Z5 200 x0 0 2)) + 13849) % 65536))
      replace hP := zl_e hP hZ16
      have hZ16I := zI_x hZ5I hZ16 (by omega)
      have t17 : Z16 11 hb 0 3 = Z5 11 hb 0 3 := zu_ne hZ16 (fun q => absurd q.1 (by decide))
      have t18 : Z16 11 hb 0 7 = Z5 11 hb 0 7 := zu_ne hZ16 (fun q => absurd q.1 (by decide))
      have t19 : Z16 11 hb 0 8 = Z5 11 hb 0 8 := zu_ne hZ16 (fun q => absurd q.1 (by decide))
      have t20 : Z16 11 hb 0 9 = Z5 11 hb 0 9 := zu_ne hZ16 (fun q => absurd q.1 (by decide))
      have t21 : Z16 11 hb 0 5 = Z5 11 hb 0 5 := zu_ne hZ16 (fun q => absurd q.1 (by decide))
      have t22 : Z16 200 0 0 1 = Z5 200 0 0 1 := zu_ne hZ16 (fun q => absurd q.2.2.2 (by decide))
      have t23 : Z16 200 0 0 2 = Z5 200 0 0 2 := zu_ne hZ16 (by omega)
      have hZ16K := zK_u hZ5K hZ16 (by decide)
      intro μ9 e9
      replace e9 := e9.trans (zm_wI (Z := Z5) (ν := ν) hZ16 (rfl : ((x0 : Nat) : Int) = x0) (show ((0 : Nat) : Int) = 0 from rfl) (show ((2 : Nat) : Int) = 2 from rfl) (i3R (i3A (i3M (show (25173 : Int32) = i3 25173 from rfl) (zm_rd (Z := Z5) (ν := ν) (k := 200) (rfl : ((x0 : Nat) : Int) = x0) (show ((0 : Nat) : Int) = 0 from rfl) (show ((2 : Nat) : Int) = 2 from rfl))) (show (13849 : Int32) = i3 13849 from rfl)) (show (65536 : Int32) = i3 65536 from rfl) (by omega) (by omega) (by omega) (by omega)))
      subst e9
      refine wz_i1 (by rw [tsn]; rfl) ?_
      have r24 := zI_k hZ5I 11 hb 0 0 (lo := 0) (hi := 5) (by decide) rfl
      refine wz_i0 (i3N0 (i3Mx (show (1 : Int32) = i3 1 from rfl) (zm_rd (Z := Z5) (ν := ν) (k := 11) (rfl : ((hb : Nat) : Int) = hb) (show ((0 : Nat) : Int) = 0 from rfl) (show ((0 : Nat) : Int) = 0 from rfl)) (by omega) (by omega) (by omega) (by omega)) (by omega) (by omega) (by omega)) ?_
      refine wz_i1 (by rw [tsn]; rfl) ?_
      refine wz_i1 (by rw [tsn]; rfl) ?_
      refine wz_i1 (by rw [tsn]; rfl) ?_
      have r25 := zI_xr (n := x0) hZ16I
      have q26 := zu_at hZ16
      obtain ⟨Z27, hZ27⟩ := zx (zu Z16 200 x0 0 2 (((25173 * (Z16 200 x0 0 2)) + 13849) % 65536))
      replace hP := zl_e hP hZ27
      have hZ27I := zI_x hZ16I hZ27 (by omega)
      have t28 : Z27 11 hb 0 3 = Z16 11 hb 0 3 := zu_ne hZ27 (fun q => absurd q.1 (by decide))
      have t29 : Z27 11 hb 0 7 = Z16 11 hb 0 7 := zu_ne hZ27 (fun q => absurd q.1 (by decide))
      have t30 : Z27 11 hb 0 8 = Z16 11 hb 0 8 := zu_ne hZ27 (fun q => absurd q.1 (by decide))
      have t31 : Z27 11 hb 0 9 = Z16 11 hb 0 9 := zu_ne hZ27 (fun q => absurd q.1 (by decide))
      have t32 : Z27 11 hb 0 5 = Z16 11 hb 0 5 := zu_ne hZ27 (fun q => absurd q.1 (by decide))
      have t33 : Z27 200 0 0 1 = Z16 200 0 0 1 := zu_ne hZ27 (fun q => absurd q.2.2.2 (by decide))
      have t34 : Z27 200 0 0 2 = Z16 200 0 0 2 := zu_ne hZ27 (by omega)
      have hZ27K := zK_u hZ16K hZ27 (by decide)
      intro μ9 e9
      replace e9 := e9.trans (zm_wI (Z := Z16) (ν := ν) hZ27 (rfl : ((x0 : Nat) : Int) = x0) (show ((0 : Nat) : Int) = 0 from rfl) (show ((2 : Nat) : Int) = 2 from rfl) (i3R (i3A (i3M (show (25173 : Int32) = i3 25173 from rfl) (zm_rd (Z := Z16) (ν := ν) (k := 200) (rfl : ((x0 : Nat) : Int) = x0) (show ((0 : Nat) : Int) = 0 from rfl) (show ((2 : Nat) : Int) = 2 from rfl))) (show (13849 : Int32) = i3 13849 from rfl)) (show (65536 : Int32) = i3 65536 from rfl) (by omega) (by omega) (by omega) (by omega)))
      subst e9
      refine wz_i1 (by rw [tsn]; rfl) ?_
      refine wz_i1 (by rw [tsn]; rfl) ?_
      refine wz_i1 (by rw [tsn]; rfl) ?_
      refine wz_i1 (by rw [tsn]; rfl) ?_
      have r35 := zI_xr (n := x0) hZ27I
      have q36 := zu_at hZ27
      obtain ⟨Z37, hZ37⟩ := zx (zu Z27 200 x0 0 2 (((25173 * (Z27 200 x0 0 2)) + 13849) % 65536))
      replace hP := zl_e hP hZ37
      have hZ37I := zI_x hZ27I hZ37 (by omega)
      have t38 : Z37 11 hb 0 3 = Z27 11 hb 0 3 := zu_ne hZ37 (fun q => absurd q.1 (by decide))
      have t39 : Z37 11 hb 0 7 = Z27 11 hb 0 7 := zu_ne hZ37 (fun q => absurd q.1 (by decide))
      have t40 : Z37 11 hb 0 8 = Z27 11 hb 0 8 := zu_ne hZ37 (fun q => absurd q.1 (by decide))
      have t41 : Z37 11 hb 0 9 = Z27 11 hb 0 9 := zu_ne hZ37 (fun q => absurd q.1 (by decide))
      have t42 : Z37 11 hb 0 5 = Z27 11 hb 0 5 := zu_ne hZ37 (fun q => absurd q.1 (by decide))
      have t43 : Z37 200 0 0 1 = Z27 200 0 0 1 := zu_ne hZ37 (fun q => absurd q.2.2.2 (by decide))
      have t44 : Z37 200 0 0 2 = Z27 200 0 0 2 := zu_ne hZ37 (by omega)
      have hZ37K := zK_u hZ27K hZ37 (by decide)
      intro μ9 e9
      replace e9 := e9.trans (zm_wI (Z := Z27) (ν := ν) hZ37 (rfl : ((x0 : Nat) : Int) = x0) (show ((0 : Nat) : Int) = 0 from rfl) (show ((2 : Nat) : Int) = 2 from rfl) (i3R (i3A (i3M (show (25173 : Int32) = i3 25173 from rfl) (zm_rd (Z := Z27) (ν := ν) (k := 200) (rfl : ((x0 : Nat) : Int) = x0) (show ((0 : Nat) : Int) = 0 from rfl) (show ((2 : Nat) : Int) = 2 from rfl))) (show (13849 : Int32) = i3 13849 from rfl)) (show (65536 : Int32) = i3 65536 from rfl) (by omega) (by omega) (by omega) (by omega)))
      subst e9
      refine wz_i1 (by rw [tsn]; rfl) ?_
      refine wz_i1 (by rw [tsn]; rfl) ?_
      refine wz_i1 (by rw [tsn]; rfl) ?_
      refine wz_i1 (by rw [tsn]; rfl) ?_
      have r45 := zI_xr (n := x0) hZ37I
      have q46 := zu_at hZ37
      obtain ⟨Z47, hZ47⟩ := zx (zu Z37 200 x0 0 2 (((25173 * (Z37 200 x0 0 2)) + 13849) % 65536))
      replace hP := zl_e hP hZ47
      have hZ47I := zI_x hZ37I hZ47 (by omega)
      have t48 : Z47 11 hb 0 3 = Z37 11 hb 0 3 := zu_ne hZ47 (fun q => absurd q.1 (by decide))
      have t49 : Z47 11 hb 0 7 = Z37 11 hb 0 7 := zu_ne hZ47 (fun q => absurd q.1 (by decide))
      have t50 : Z47 11 hb 0 8 = Z37 11 hb 0 8 := zu_ne hZ47 (fun q => absurd q.1 (by decide))
      have t51 : Z47 11 hb 0 9 = Z37 11 hb 0 9 := zu_ne hZ47 (fun q => absurd q.1 (by decide))
      have t52 : Z47 11 hb 0 5 = Z37 11 hb 0 5 := zu_ne hZ47 (fun q => absurd q.1 (by decide))
      have t53 : Z47 200 0 0 1 = Z37 200 0 0 1 := zu_ne hZ47 (fun q => absurd q.2.2.2 (by decide))
      have t54 : Z47 200 0 0 2 = Z37 200 0 0 2 := zu_ne hZ47 (by omega)
      have hZ47K := zK_u hZ37K hZ47 (by decide)
      intro μ9 e9
      replace e9 := e9.trans (zm_wI (Z := Z37) (ν := ν) hZ47 (rfl : ((x0 : Nat) : Int) = x0) (show ((0 : Nat) : Int) = 0 from rfl) (show ((2 : Nat) : Int) = 2 from rfl) (i3R (i3A (i3M (show (25173 : Int32) = i3 25173 from rfl) (zm_rd (Z := Z37) (ν := ν) (k := 200) (rfl : ((x0 : Nat) : Int) = x0) (show ((0 : Nat) : Int) = 0 from rfl) (show ((2 : Nat) : Int) = 2 from rfl))) (show (13849 : Int32) = i3 13849 from rfl)) (show (65536 : Int32) = i3 65536 from rfl) (by omega) (by omega) (by omega) (by omega)))
      subst e9
      refine wz_i1 (by rw [tsn]; rfl) ?_
      refine wz_i1 (by rw [tsn]; rfl) ?_
      refine wz_i1 (by rw [tsn]; rfl) ?_
      refine wz_i1 (by rw [tsn]; rfl) ?_
      have r55 := zI_xr (n := x0) hZ47I
      have q56 := zu_at hZ47
      obtain ⟨Z57, hZ57⟩ := zx (zu Z47 200 x0 0 2 (((25173 * (Z47 200 x0 0 2)) + 13849) % 65536))
      replace hP := zl_e hP hZ57
      have hZ57I := zI_x hZ47I hZ57 (by omega)
      have t58 : Z57 11 hb 0 3 = Z47 11 hb 0 3 := zu_ne hZ57 (fun q => absurd q.1 (by decide))
      have t59 : Z57 11 hb 0 7 = Z47 11 hb 0 7 := zu_ne hZ57 (fun q => absurd q.1 (by decide))
      have t60 : Z57 11 hb 0 8 = Z47 11 hb 0 8 := zu_ne hZ57 (fun q => absurd q.1 (by decide))
      have t61 : Z57 11 hb 0 9 = Z47 11 hb 0 9 := zu_ne hZ57 (fun q => absurd q.1 (by decide))
      have t62 : Z57 11 hb 0 5 = Z47 11 hb 0 5 := zu_ne hZ57 (fun q => absurd q.1 (by decide))
      have t63 : Z57 200 0 0 1 = Z47 200 0 0 1 := zu_ne hZ57 (fun q => absurd q.2.2.2 (by decide))
      have t64 : Z57 200 0 0 2 = Z47 200 0 0 2 := zu_ne hZ57 (by omega)
      have hZ57K := zK_u hZ47K hZ57 (by decide)
      intro μ9 e9
      replace e9 := e9.trans (zm_wI (Z := Z47) (ν := ν) hZ57 (rfl : ((x0 : Nat) : Int) = x0) (show ((0 : Nat) : Int) = 0 from rfl) (show ((2 : Nat) : Int) = 2 from rfl) (i3R (i3A (i3M (show (25173 : Int32) = i3 25173 from rfl) (zm_rd (Z := Z47) (ν := ν) (k := 200) (rfl : ((x0 : Nat) : Int) = x0) (show ((0 : Nat) : Int) = 0 from rfl) (show ((2 : Nat) : Int) = 2 from rfl))) (show (13849 : Int32) = i3 13849 from rfl)) (show (65536 : Int32) = i3 65536 from rfl) (by omega) (by omega) (by omega) (by omega)))
      subst e9
      refine wz_i1 (by rw [tsn]; rfl) ?_
      refine wz_i1 rfl ?_
      refine wz_rko (r := (26, _, _)) rfl ?_
      refine wz_i1 rfl ?_
      refine wz_rko (r := (11, _, _)) rfl ?_
      refine wz_i1 rfl ?_
      refine wz_i0 (i3O (n := 17) (show (5 : Int32) = i3 5 from rfl) (by omega) (by omega) (by omega)) ?_
      refine wz_i1 rfl ?_
      have r65 := zI_k hZ57I 11 hb 0 5 (lo := 0) (hi := 24) (by decide) rfl
      refine wz_i0 (i3O (n := 24) (zm_rd (Z := Z57) (ν := ν) (k := 11) (rfl : ((hb : Nat) : Int) = hb) (show ((0 : Nat) : Int) = 0 from rfl) (show ((5 : Nat) : Int) = 5 from rfl)) (by omega) (by omega) (by omega)) ?_
      refine wz_rko (r := (46, _, _)) rfl ?_
      refine wz_i1 rfl ?_
      refine wz_i0 (i3O (n := 10) (show (0 : Int32) = i3 0 from rfl) (by omega) (by omega) (by omega)) ?_
      have r66 := z_mod ((Z5 200 x0 0 2) / 16) (y := (max 1 (Z 11 hb 0 4))) (by omega)
      obtain ⟨Z67, hZ67⟩ := zx (zu Z57 46 hb (Z57 11 hb 0 5) 0 (((Z5 200 x0 0 2) / 16) % (max 1 (Z 11 hb 0 4))))
      replace hP := zl_e hP hZ67
      have hZ67I := zI_u hZ57I hZ67 (lo := 0) (hi := 7) (by decide) rfl (by omega) ⟨by decide, by decide⟩ (Or.inl (by decide))
      have t68 : Z67 11 hb 0 3 = Z57 11 hb 0 3 := zu_ne hZ67 (fun q => absurd q.1 (by decide))
      have t69 : Z67 11 hb 0 7 = Z57 11 hb 0 7 := zu_ne hZ67 (fun q => absurd q.1 (by decide))
      have t70 : Z67 11 hb 0 8 = Z57 11 hb 0 8 := zu_ne hZ67 (fun q => absurd q.1 (by decide))
      have t71 : Z67 11 hb 0 9 = Z57 11 hb 0 9 := zu_ne hZ67 (fun q => absurd q.1 (by decide))
      have t72 : Z67 11 hb 0 5 = Z57 11 hb 0 5 := zu_ne hZ67 (fun q => absurd q.1 (by decide))
      have t73 : Z67 200 0 0 1 = Z57 200 0 0 1 := zu_ne hZ67 (fun q => absurd q.1 (by decide))
      have t74 : Z67 200 0 0 2 = Z57 200 0 0 2 := zu_ne hZ67 (fun q => absurd q.1 (by decide))
      have hZ67K := zK_u hZ57K hZ67 (by decide)
      intro μ9 e9
      replace e9 := e9.trans (zm_wI (Z := Z57) (ν := ν) hZ67 (rfl : ((hb : Nat) : Int) = hb) (i3I (y := (Z57 11 hb 0 5)) (zm_rd (Z := Z57) (ν := ν) (k := 11) (rfl : ((hb : Nat) : Int) = hb) (show ((0 : Nat) : Int) = 0 from rfl) (show ((5 : Nat) : Int) = 5 from rfl)) (by omega) (by omega) (by omega)) (show ((0 : Nat) : Int) = 0 from rfl) (i3R (i3D (zm_rd (Z := Z5) (ν := ν) (k := 200) (rfl : ((x0 : Nat) : Int) = x0) (show ((0 : Nat) : Int) = 0 from rfl) (show ((2 : Nat) : Int) = 2 from rfl)) (show (16 : Int32) = i3 16 from rfl) (by omega) (by omega) (by omega) (by omega)) (i3Mx (show (1 : Int32) = i3 1 from rfl) (zm_rd (Z := Z) (ν := ν) (k := 11) (rfl : ((hb : Nat) : Int) = hb) (show ((0 : Nat) : Int) = 0 from rfl) (show ((4 : Nat) : Int) = 4 from rfl)) (by omega) (by omega) (by omega) (by omega)) (by omega) (by omega) (by omega) (by omega)))
      subst e9
      refine wz_i1 rfl ?_
      refine wz_i0 (i3O (n := 10) (show (1 : Int32) = i3 1 from rfl) (by omega) (by omega) (by omega)) ?_
      have r75 := z_mod ((Z16 200 x0 0 2) / 16) (y := (max 1 (Z5 11 hb 0 0))) (by omega)
      obtain ⟨Z76, hZ76⟩ := zx (zu Z67 46 hb (Z57 11 hb 0 5) 1 (((Z16 200 x0 0 2) / 16) % (max 1 (Z5 11 hb 0 0))))
      replace hP := zl_e hP hZ76
      have hZ76I := zI_u hZ67I hZ76 (lo := 0) (hi := 4) (by decide) rfl (by omega) ⟨by decide, by decide⟩ (Or.inl (by decide))
      have t77 : Z76 11 hb 0 3 = Z67 11 hb 0 3 := zu_ne hZ76 (fun q => absurd q.1 (by decide))
      have t78 : Z76 11 hb 0 7 = Z67 11 hb 0 7 := zu_ne hZ76 (fun q => absurd q.1 (by decide))
      have t79 : Z76 11 hb 0 8 = Z67 11 hb 0 8 := zu_ne hZ76 (fun q => absurd q.1 (by decide))
      have t80 : Z76 11 hb 0 9 = Z67 11 hb 0 9 := zu_ne hZ76 (fun q => absurd q.1 (by decide))
      have t81 : Z76 11 hb 0 5 = Z67 11 hb 0 5 := zu_ne hZ76 (fun q => absurd q.1 (by decide))
      have t82 : Z76 200 0 0 1 = Z67 200 0 0 1 := zu_ne hZ76 (fun q => absurd q.1 (by decide))
      have t83 : Z76 200 0 0 2 = Z67 200 0 0 2 := zu_ne hZ76 (fun q => absurd q.1 (by decide))
      have hZ76K := zK_u hZ67K hZ76 (by decide)
      intro μ9 e9
      replace e9 := e9.trans (zm_wI (Z := Z67) (ν := ν) hZ76 (rfl : ((hb : Nat) : Int) = hb) (i3I (y := (Z57 11 hb 0 5)) (zm_rd (Z := Z57) (ν := ν) (k := 11) (rfl : ((hb : Nat) : Int) = hb) (show ((0 : Nat) : Int) = 0 from rfl) (show ((5 : Nat) : Int) = 5 from rfl)) (by omega) (by omega) (by omega)) (show ((1 : Nat) : Int) = 1 from rfl) (i3R (i3D (zm_rd (Z := Z16) (ν := ν) (k := 200) (rfl : ((x0 : Nat) : Int) = x0) (show ((0 : Nat) : Int) = 0 from rfl) (show ((2 : Nat) : Int) = 2 from rfl)) (show (16 : Int32) = i3 16 from rfl) (by omega) (by omega) (by omega) (by omega)) (i3Mx (show (1 : Int32) = i3 1 from rfl) (zm_rd (Z := Z5) (ν := ν) (k := 11) (rfl : ((hb : Nat) : Int) = hb) (show ((0 : Nat) : Int) = 0 from rfl) (show ((0 : Nat) : Int) = 0 from rfl)) (by omega) (by omega) (by omega) (by omega)) (by omega) (by omega) (by omega) (by omega)))
      subst e9
      refine wz_i1 rfl ?_
      refine wz_i0 (i3O (n := 10) (show (2 : Int32) = i3 2 from rfl) (by omega) (by omega) (by omega)) ?_
      obtain ⟨Z84, hZ84⟩ := zx (zu Z76 46 hb (Z57 11 hb 0 5) 2 (((Z27 200 x0 0 2) / 16) % 4))
      replace hP := zl_e hP hZ84
      have hZ84I := zI_u hZ76I hZ84 (lo := 0) (hi := 3) (by decide) rfl (by omega) ⟨by decide, by decide⟩ (Or.inl (by decide))
      have t85 : Z84 11 hb 0 3 = Z76 11 hb 0 3 := zu_ne hZ84 (fun q => absurd q.1 (by decide))
      have t86 : Z84 11 hb 0 7 = Z76 11 hb 0 7 := zu_ne hZ84 (fun q => absurd q.1 (by decide))
      have t87 : Z84 11 hb 0 8 = Z76 11 hb 0 8 := zu_ne hZ84 (fun q => absurd q.1 (by decide))
      have t88 : Z84 11 hb 0 9 = Z76 11 hb 0 9 := zu_ne hZ84 (fun q => absurd q.1 (by decide))
      have t89 : Z84 11 hb 0 5 = Z76 11 hb 0 5 := zu_ne hZ84 (fun q => absurd q.1 (by decide))
      have t90 : Z84 200 0 0 1 = Z76 200 0 0 1 := zu_ne hZ84 (fun q => absurd q.1 (by decide))
      have t91 : Z84 200 0 0 2 = Z76 200 0 0 2 := zu_ne hZ84 (fun q => absurd q.1 (by decide))
      have hZ84K := zK_u hZ76K hZ84 (by decide)
      intro μ9 e9
      replace e9 := e9.trans (zm_wI (Z := Z76) (ν := ν) hZ84 (rfl : ((hb : Nat) : Int) = hb) (i3I (y := (Z57 11 hb 0 5)) (zm_rd (Z := Z57) (ν := ν) (k := 11) (rfl : ((hb : Nat) : Int) = hb) (show ((0 : Nat) : Int) = 0 from rfl) (show ((5 : Nat) : Int) = 5 from rfl)) (by omega) (by omega) (by omega)) (show ((2 : Nat) : Int) = 2 from rfl) (i3R (i3D (zm_rd (Z := Z27) (ν := ν) (k := 200) (rfl : ((x0 : Nat) : Int) = x0) (show ((0 : Nat) : Int) = 0 from rfl) (show ((2 : Nat) : Int) = 2 from rfl)) (show (16 : Int32) = i3 16 from rfl) (by omega) (by omega) (by omega) (by omega)) (show (4 : Int32) = i3 4 from rfl) (by omega) (by omega) (by omega) (by omega)))
      subst e9
      refine wz_i1 rfl ?_
      refine wz_i0 (i3O (n := 10) (show (3 : Int32) = i3 3 from rfl) (by omega) (by omega) (by omega)) ?_
      obtain ⟨Z92, hZ92⟩ := zx (zu Z84 46 hb (Z57 11 hb 0 5) 3 (1 + (((Z37 200 x0 0 2) / 16) % 40)))
      replace hP := zl_e hP hZ92
      have hZ92I := zI_u hZ84I hZ92 (lo := 0) (hi := 99) (by decide) rfl (by omega) ⟨by decide, by decide⟩ (Or.inl (by decide))
      have t93 : Z92 11 hb 0 3 = Z84 11 hb 0 3 := zu_ne hZ92 (fun q => absurd q.1 (by decide))
      have t94 : Z92 11 hb 0 7 = Z84 11 hb 0 7 := zu_ne hZ92 (fun q => absurd q.1 (by decide))
      have t95 : Z92 11 hb 0 8 = Z84 11 hb 0 8 := zu_ne hZ92 (fun q => absurd q.1 (by decide))
      have t96 : Z92 11 hb 0 9 = Z84 11 hb 0 9 := zu_ne hZ92 (fun q => absurd q.1 (by decide))
      have t97 : Z92 11 hb 0 5 = Z84 11 hb 0 5 := zu_ne hZ92 (fun q => absurd q.1 (by decide))
      have t98 : Z92 200 0 0 1 = Z84 200 0 0 1 := zu_ne hZ92 (fun q => absurd q.1 (by decide))
      have t99 : Z92 200 0 0 2 = Z84 200 0 0 2 := zu_ne hZ92 (fun q => absurd q.1 (by decide))
      have hZ92K := zK_u hZ84K hZ92 (by decide)
      intro μ9 e9
      replace e9 := e9.trans (zm_wI (Z := Z84) (ν := ν) hZ92 (rfl : ((hb : Nat) : Int) = hb) (i3I (y := (Z57 11 hb 0 5)) (zm_rd (Z := Z57) (ν := ν) (k := 11) (rfl : ((hb : Nat) : Int) = hb) (show ((0 : Nat) : Int) = 0 from rfl) (show ((5 : Nat) : Int) = 5 from rfl)) (by omega) (by omega) (by omega)) (show ((3 : Nat) : Int) = 3 from rfl) (i3A (show (1 : Int32) = i3 1 from rfl) (i3R (i3D (zm_rd (Z := Z37) (ν := ν) (k := 200) (rfl : ((x0 : Nat) : Int) = x0) (show ((0 : Nat) : Int) = 0 from rfl) (show ((2 : Nat) : Int) = 2 from rfl)) (show (16 : Int32) = i3 16 from rfl) (by omega) (by omega) (by omega) (by omega)) (show (40 : Int32) = i3 40 from rfl) (by omega) (by omega) (by omega) (by omega))))
      subst e9
      refine wz_i1 rfl ?_
      refine wz_i0 (i3O (n := 10) (show (4 : Int32) = i3 4 from rfl) (by omega) (by omega) (by omega)) ?_
      obtain ⟨Z100, hZ100⟩ := zx (zu Z92 46 hb (Z57 11 hb 0 5) 4 (100 + (((Z47 200 x0 0 2) / 16) % 900)))
      replace hP := zl_e hP hZ100
      have hZ100I := zI_u hZ92I hZ100 (lo := 0) (hi := 9999) (by decide) rfl (by omega) ⟨by decide, by decide⟩ (Or.inl (by decide))
      have t101 : Z100 11 hb 0 3 = Z92 11 hb 0 3 := zu_ne hZ100 (fun q => absurd q.1 (by decide))
      have t102 : Z100 11 hb 0 7 = Z92 11 hb 0 7 := zu_ne hZ100 (fun q => absurd q.1 (by decide))
      have t103 : Z100 11 hb 0 8 = Z92 11 hb 0 8 := zu_ne hZ100 (fun q => absurd q.1 (by decide))
      have t104 : Z100 11 hb 0 9 = Z92 11 hb 0 9 := zu_ne hZ100 (fun q => absurd q.1 (by decide))
      have t105 : Z100 11 hb 0 5 = Z92 11 hb 0 5 := zu_ne hZ100 (fun q => absurd q.1 (by decide))
      have t106 : Z100 200 0 0 1 = Z92 200 0 0 1 := zu_ne hZ100 (fun q => absurd q.1 (by decide))
      have t107 : Z100 200 0 0 2 = Z92 200 0 0 2 := zu_ne hZ100 (fun q => absurd q.1 (by decide))
      have hZ100K := zK_u hZ92K hZ100 (by decide)
      intro μ9 e9
      replace e9 := e9.trans (zm_wI (Z := Z92) (ν := ν) hZ100 (rfl : ((hb : Nat) : Int) = hb) (i3I (y := (Z57 11 hb 0 5)) (zm_rd (Z := Z57) (ν := ν) (k := 11) (rfl : ((hb : Nat) : Int) = hb) (show ((0 : Nat) : Int) = 0 from rfl) (show ((5 : Nat) : Int) = 5 from rfl)) (by omega) (by omega) (by omega)) (show ((4 : Nat) : Int) = 4 from rfl) (i3A (show (100 : Int32) = i3 100 from rfl) (i3R (i3D (zm_rd (Z := Z47) (ν := ν) (k := 200) (rfl : ((x0 : Nat) : Int) = x0) (show ((0 : Nat) : Int) = 0 from rfl) (show ((2 : Nat) : Int) = 2 from rfl)) (show (16 : Int32) = i3 16 from rfl) (by omega) (by omega) (by omega) (by omega)) (show (900 : Int32) = i3 900 from rfl) (by omega) (by omega) (by omega) (by omega))))
      subst e9
      refine wz_i1 rfl ?_
      refine wz_i0 (i3O (n := 10) (show (5 : Int32) = i3 5 from rfl) (by omega) (by omega) (by omega)) ?_
      have r108 := zI_xr (n := x0) hZ57I
      have q109 := zu_at hZ57
      obtain ⟨Z110, hZ110⟩ := zx (zu Z100 46 hb (Z57 11 hb 0 5) 5 (1 + (((Z57 200 x0 0 2) / 16) % 127)))
      replace hP := zl_e hP hZ110
      have hZ110I := zI_u hZ100I hZ110 (lo := 0) (hi := 127) (by decide) rfl (by omega) ⟨by decide, by decide⟩ (Or.inl (by decide))
      have t111 : Z110 11 hb 0 3 = Z100 11 hb 0 3 := zu_ne hZ110 (fun q => absurd q.1 (by decide))
      have t112 : Z110 11 hb 0 7 = Z100 11 hb 0 7 := zu_ne hZ110 (fun q => absurd q.1 (by decide))
      have t113 : Z110 11 hb 0 8 = Z100 11 hb 0 8 := zu_ne hZ110 (fun q => absurd q.1 (by decide))
      have t114 : Z110 11 hb 0 9 = Z100 11 hb 0 9 := zu_ne hZ110 (fun q => absurd q.1 (by decide))
      have t115 : Z110 11 hb 0 5 = Z100 11 hb 0 5 := zu_ne hZ110 (fun q => absurd q.1 (by decide))
      have t116 : Z110 200 0 0 1 = Z100 200 0 0 1 := zu_ne hZ110 (fun q => absurd q.1 (by decide))
      have t117 : Z110 200 0 0 2 = Z100 200 0 0 2 := zu_ne hZ110 (fun q => absurd q.1 (by decide))
      have hZ110K := zK_u hZ100K hZ110 (by decide)
      intro μ9 e9
      replace e9 := e9.trans (zm_wI (Z := Z100) (ν := ν) hZ110 (rfl : ((hb : Nat) : Int) = hb) (i3I (y := (Z57 11 hb 0 5)) (zm_rd (Z := Z57) (ν := ν) (k := 11) (rfl : ((hb : Nat) : Int) = hb) (show ((0 : Nat) : Int) = 0 from rfl) (show ((5 : Nat) : Int) = 5 from rfl)) (by omega) (by omega) (by omega)) (show ((5 : Nat) : Int) = 5 from rfl) (i3A (show (1 : Int32) = i3 1 from rfl) (i3R (i3D (zm_rd (Z := Z57) (ν := ν) (k := 200) (rfl : ((x0 : Nat) : Int) = x0) (show ((0 : Nat) : Int) = 0 from rfl) (show ((2 : Nat) : Int) = 2 from rfl)) (show (16 : Int32) = i3 16 from rfl) (by omega) (by omega) (by omega) (by omega)) (show (127 : Int32) = i3 127 from rfl) (by omega) (by omega) (by omega) (by omega))))
      subst e9
      refine wz_i1 rfl ?_
      refine wz_i0 (i3O (n := 10) (show (6 : Int32) = i3 6 from rfl) (by omega) (by omega) (by omega)) ?_
      obtain ⟨Z118, hZ118⟩ := zx (zu Z110 46 hb (Z57 11 hb 0 5) 6 (1 + (((Z37 200 x0 0 2) / 16) % 40)))
      replace hP := zl_e hP hZ118
      have hZ118I := zI_u hZ110I hZ118 (lo := 0) (hi := 99) (by decide) rfl (by omega) ⟨by decide, by decide⟩ (Or.inl (by decide))
      have t119 : Z118 11 hb 0 3 = Z110 11 hb 0 3 := zu_ne hZ118 (fun q => absurd q.1 (by decide))
      have t120 : Z118 11 hb 0 7 = Z110 11 hb 0 7 := zu_ne hZ118 (fun q => absurd q.1 (by decide))
      have t121 : Z118 11 hb 0 8 = Z110 11 hb 0 8 := zu_ne hZ118 (fun q => absurd q.1 (by decide))
      have t122 : Z118 11 hb 0 9 = Z110 11 hb 0 9 := zu_ne hZ118 (fun q => absurd q.1 (by decide))
      have t123 : Z118 11 hb 0 5 = Z110 11 hb 0 5 := zu_ne hZ118 (fun q => absurd q.1 (by decide))
      have t124 : Z118 200 0 0 1 = Z110 200 0 0 1 := zu_ne hZ118 (fun q => absurd q.1 (by decide))
      have t125 : Z118 200 0 0 2 = Z110 200 0 0 2 := zu_ne hZ118 (fun q => absurd q.1 (by decide))
      have hZ118K := zK_u hZ110K hZ118 (by decide)
      intro μ9 e9
      replace e9 := e9.trans (zm_wI (Z := Z110) (ν := ν) hZ118 (rfl : ((hb : Nat) : Int) = hb) (i3I (y := (Z57 11 hb 0 5)) (zm_rd (Z := Z57) (ν := ν) (k := 11) (rfl : ((hb : Nat) : Int) = hb) (show ((0 : Nat) : Int) = 0 from rfl) (show ((5 : Nat) : Int) = 5 from rfl)) (by omega) (by omega) (by omega)) (show ((6 : Nat) : Int) = 6 from rfl) (i3A (show (1 : Int32) = i3 1 from rfl) (i3R (i3D (zm_rd (Z := Z37) (ν := ν) (k := 200) (rfl : ((x0 : Nat) : Int) = x0) (show ((0 : Nat) : Int) = 0 from rfl) (show ((2 : Nat) : Int) = 2 from rfl)) (show (16 : Int32) = i3 16 from rfl) (by omega) (by omega) (by omega) (by omega)) (show (40 : Int32) = i3 40 from rfl) (by omega) (by omega) (by omega) (by omega))))
      subst e9
      refine wz_i1 rfl ?_
      refine wz_rko (r := (25, _, _)) rfl ?_
      refine wz_i1 rfl ?_
      refine wz_i0 (i3O (n := 8) (i3R (i3D (zm_rd (Z := Z5) (ν := ν) (k := 200) (rfl : ((x0 : Nat) : Int) = x0) (show ((0 : Nat) : Int) = 0 from rfl) (show ((2 : Nat) : Int) = 2 from rfl)) (show (16 : Int32) = i3 16 from rfl) (by omega) (by omega) (by omega) (by omega)) (i3Mx (show (1 : Int32) = i3 1 from rfl) (zm_rd (Z := Z) (ν := ν) (k := 11) (rfl : ((hb : Nat) : Int) = hb) (show ((0 : Nat) : Int) = 0 from rfl) (show ((4 : Nat) : Int) = 4 from rfl)) (by omega) (by omega) (by omega) (by omega)) (by omega) (by omega) (by omega) (by omega)) (by omega) (by omega) (by omega)) ?_
      refine wz_rko (r := (45, _, _)) rfl ?_
      refine wz_i1 rfl ?_
      refine wz_i0 (i3O (n := 15) (show (14 : Int32) = i3 14 from rfl) (by omega) (by omega) (by omega)) ?_
      refine wz_i1 rfl ?_
      refine wz_i0 (i3O (n := 15) (show (14 : Int32) = i3 14 from rfl) (by omega) (by omega) (by omega)) ?_
      have r126 := zI_f hZ118I 45 hb (((Z5 200 x0 0 2) / 16) % (max 1 (Z 11 hb 0 4))) 14
      have r127 := w3_r ((Z118 45 hb (((Z5 200 x0 0 2) / 16) % (max 1 (Z 11 hb 0 4))) 14) + 1)
      obtain ⟨Z128, hZ128⟩ := zx (zu Z118 45 hb (((Z5 200 x0 0 2) / 16) % (max 1 (Z 11 hb 0 4))) 14 (w3 ((Z118 45 hb (((Z5 200 x0 0 2) / 16) % (max 1 (Z 11 hb 0 4))) 14) + 1)))
      replace hP := zl_e hP hZ128
      have hZ128I := zI_u hZ118I hZ128 (lo := -2147483648) (hi := 2147483647) (by decide) rfl (by omega) ⟨by decide, by decide⟩ (Or.inl (by decide))
      have t129 : Z128 11 hb 0 3 = Z118 11 hb 0 3 := zu_ne hZ128 (fun q => absurd q.1 (by decide))
      have t130 : Z128 11 hb 0 7 = Z118 11 hb 0 7 := zu_ne hZ128 (fun q => absurd q.1 (by decide))
      have t131 : Z128 11 hb 0 8 = Z118 11 hb 0 8 := zu_ne hZ128 (fun q => absurd q.1 (by decide))
      have t132 : Z128 11 hb 0 9 = Z118 11 hb 0 9 := zu_ne hZ128 (fun q => absurd q.1 (by decide))
      have t133 : Z128 11 hb 0 5 = Z118 11 hb 0 5 := zu_ne hZ128 (fun q => absurd q.1 (by decide))
      have t134 : Z128 200 0 0 1 = Z118 200 0 0 1 := zu_ne hZ128 (fun q => absurd q.1 (by decide))
      have t135 : Z128 200 0 0 2 = Z118 200 0 0 2 := zu_ne hZ128 (fun q => absurd q.1 (by decide))
      have hZ128K := zK_u hZ118K hZ128 (by decide)
      intro μ9 e9
      replace e9 := e9.trans (zm_wI (Z := Z118) (ν := ν) hZ128 (rfl : ((hb : Nat) : Int) = hb) (i3I (y := (((Z5 200 x0 0 2) / 16) % (max 1 (Z 11 hb 0 4)))) (i3R (i3D (zm_rd (Z := Z5) (ν := ν) (k := 200) (rfl : ((x0 : Nat) : Int) = x0) (show ((0 : Nat) : Int) = 0 from rfl) (show ((2 : Nat) : Int) = 2 from rfl)) (show (16 : Int32) = i3 16 from rfl) (by omega) (by omega) (by omega) (by omega)) (i3Mx (show (1 : Int32) = i3 1 from rfl) (zm_rd (Z := Z) (ν := ν) (k := 11) (rfl : ((hb : Nat) : Int) = hb) (show ((0 : Nat) : Int) = 0 from rfl) (show ((4 : Nat) : Int) = 4 from rfl)) (by omega) (by omega) (by omega) (by omega)) (by omega) (by omega) (by omega) (by omega)) (by omega) (by omega) (by omega)) (show ((14 : Nat) : Int) = 14 from rfl) (i3W (i3A (zm_rd (Z := Z118) (ν := ν) (k := 45) (rfl : ((hb : Nat) : Int) = hb) (i3I (y := (((Z5 200 x0 0 2) / 16) % (max 1 (Z 11 hb 0 4)))) (i3R (i3D (zm_rd (Z := Z5) (ν := ν) (k := 200) (rfl : ((x0 : Nat) : Int) = x0) (show ((0 : Nat) : Int) = 0 from rfl) (show ((2 : Nat) : Int) = 2 from rfl)) (show (16 : Int32) = i3 16 from rfl) (by omega) (by omega) (by omega) (by omega)) (i3Mx (show (1 : Int32) = i3 1 from rfl) (zm_rd (Z := Z) (ν := ν) (k := 11) (rfl : ((hb : Nat) : Int) = hb) (show ((0 : Nat) : Int) = 0 from rfl) (show ((4 : Nat) : Int) = 4 from rfl)) (by omega) (by omega) (by omega) (by omega)) (by omega) (by omega) (by omega) (by omega)) (by omega) (by omega) (by omega)) (show ((14 : Nat) : Int) = 14 from rfl)) (show (1 : Int32) = i3 1 from rfl))))
      subst e9
      refine wz_i1 rfl ?_
      refine wz_rko (r := (11, _, _)) rfl ?_
      refine wz_i1 rfl ?_
      refine wz_i0 (i3O (n := 17) (show (5 : Int32) = i3 5 from rfl) (by omega) (by omega) (by omega)) ?_
      refine wz_i1 rfl ?_
      refine wz_i0 (i3O (n := 17) (show (5 : Int32) = i3 5 from rfl) (by omega) (by omega) (by omega)) ?_
      have r136 := zI_k hZ128I 11 hb 0 5 (lo := 0) (hi := 24) (by decide) rfl
      have q137 := (zu_ne (k' := 11) (b' := hb) (i' := 0) (j' := 5) hZ128 (fun q => absurd q.1 (by decide))).trans ((zu_ne (k' := 11) (b' := hb) (i' := 0) (j' := 5) hZ118 (fun q => absurd q.1 (by decide))).trans ((zu_ne (k' := 11) (b' := hb) (i' := 0) (j' := 5) hZ110 (fun q => absurd q.1 (by decide))).trans ((zu_ne (k' := 11) (b' := hb) (i' := 0) (j' := 5) hZ100 (fun q => absurd q.1 (by decide))).trans ((zu_ne (k' := 11) (b' := hb) (i' := 0) (j' := 5) hZ92 (fun q => absurd q.1 (by decide))).trans ((zu_ne (k' := 11) (b' := hb) (i' := 0) (j' := 5) hZ84 (fun q => absurd q.1 (by decide))).trans ((zu_ne (k' := 11) (b' := hb) (i' := 0) (j' := 5) hZ76 (fun q => absurd q.1 (by decide))).trans (zu_ne (k' := 11) (b' := hb) (i' := 0) (j' := 5) hZ67 (fun q => absurd q.1 (by decide)))))))))
      obtain ⟨Z138, hZ138⟩ := zx (zu Z128 11 hb 0 5 ((Z128 11 hb 0 5) + 1))
      replace hP := zl_e hP hZ138
      have hZ138I := zI_u hZ128I hZ138 (lo := 0) (hi := 24) (by decide) rfl (by omega) ⟨by decide, by decide⟩ (Or.inl (by decide))
      have t139 : Z138 11 hb 0 3 = Z128 11 hb 0 3 := zu_ne hZ138 (fun q => absurd q.2.2.2 (by decide))
      have t140 : Z138 11 hb 0 7 = Z128 11 hb 0 7 := zu_ne hZ138 (fun q => absurd q.2.2.2 (by decide))
      have t141 : Z138 11 hb 0 8 = Z128 11 hb 0 8 := zu_ne hZ138 (fun q => absurd q.2.2.2 (by decide))
      have t142 : Z138 11 hb 0 9 = Z128 11 hb 0 9 := zu_ne hZ138 (fun q => absurd q.2.2.2 (by decide))
      have t143 := zu_at hZ138
      have t144 : Z138 200 0 0 1 = Z128 200 0 0 1 := zu_ne hZ138 (fun q => absurd q.1 (by decide))
      have t145 : Z138 200 0 0 2 = Z128 200 0 0 2 := zu_ne hZ138 (fun q => absurd q.1 (by decide))
      have hZ138K := zK_u hZ128K hZ138 (by decide)
      intro μ9 e9
      replace e9 := e9.trans (zm_wI (Z := Z128) (ν := ν) hZ138 (rfl : ((hb : Nat) : Int) = hb) (show ((0 : Nat) : Int) = 0 from rfl) (show ((5 : Nat) : Int) = 5 from rfl) (i3A (zm_rd (Z := Z128) (ν := ν) (k := 11) (rfl : ((hb : Nat) : Int) = hb) (show ((0 : Nat) : Int) = 0 from rfl) (show ((5 : Nat) : Int) = 5 from rfl)) (show (1 : Int32) = i3 1 from rfl)))
      subst e9
      obtain ⟨m2, rfl⟩ : ∃ m2, m = m2 + 1 := ⟨m - 1, by omega⟩
      exact wz_k1 ⟨m2, by omega, Z138, (x1 + 1), (zconso rfl (zconso (zvo (i3A (rfl : i3 x1 = i3 x1) (show (1 : Int32) = i3 1 from rfl))) rfl)), rfl, hZ138I, hZ138K, by omega, by omega, by omega, by omega, by omega, by omega, by omega, by omega, by omega, by omega,  hP⟩

/- yX8_tellBuyers -/
def zf_145 (Z : qz_Z) (sn hb : Int) : qz_Z := (zlet2 (zl_145_1 sn hb 9 Z 0) (fun Z2 y1 => (zlet2 (zl_145_2 sn hb 25 Z2 0) (fun Z5 y4 => Z5))))
theorem sp_145 {Z : qz_Z} {ν : qz_N} {sn : Nat} (hZ : zI (some (some (sn : Int))) Z) (hb : Nat) (tsn : ∀ Z, qz_tag (zm Z ν) (200, sn, 0) = 2) (rsn : ∀ Z, qz_rm (zm Z ν) 200 sn 0 0 = some (10, hb, 0)) (gx0 : Z 11 hb 0 4 = 0) (gx1 : Z 11 hb 0 5 = 0) (gx2 : 1 ≤ (sn : Int)) : ∃ P : qz_Z, P = zf_145 Z sn hb ∧ (qf_145 [.inr (.inr (some (200, sn, 0)))] (zm Z ν) = some (zm P ν, .inl none) ∧ zI (some (some (sn : Int))) P ∧ zK [11, 45, 46, 200] Z P ∧ P 11 hb 0 3 = Z 11 hb 0 3 ∧ P 11 hb 0 7 = Z 11 hb 0 7 ∧ P 11 hb 0 8 = Z 11 hb 0 8 ∧ P 11 hb 0 9 = Z 11 hb 0 9 ∧ P 200 0 0 1 = Z 200 0 0 1 ∧ P 200 0 0 2 = Z 200 0 0 2) := by
  obtain ⟨P, hP⟩ := zx (zf_145 Z sn hb)
  refine zc_V (Q := fun P => zI (some (some (sn : Int))) P ∧ zK [11, 45, 46, 200] Z P ∧ P 11 hb 0 3 = Z 11 hb 0 3 ∧ P 11 hb 0 7 = Z 11 hb 0 7 ∧ P 11 hb 0 8 = Z 11 hb 0 8 ∧ P 11 hb 0 9 = Z 11 hb 0 9 ∧ P 200 0 0 1 = Z 200 0 0 1 ∧ P 200 0 0 2 = Z 200 0 0 2) hP (fw_145 sn _ _ ?_)
  replace hP : zE P (zf_145 Z sn hb) := hP
  unfold zf_145 at hP
  have rs := zI_xs (n := sn) hZ
  refine sl_145_1 (ν := ν) sn hZ zK_r hb tsn rsn (x1 := 0) (by omega) (kc6 := Z 200 0 0 2) (kc5 := Z 200 0 0 1) (kc4 := Z 11 hb 0 9) (kc3 := Z 11 hb 0 8) (kc2 := Z 11 hb 0 7) (kc1 := Z 11 hb 0 5) (kc0 := Z 11 hb 0 3) (by omega) (by omega) (by omega) (by omega) (by omega) (by omega) (by omega) (by omega) (by omega) (zconso rfl (zconso (zvo (show (0 : Int32) = i3 0 from rfl)) rfl)) rfl ?_
  intro L3 Z2 y1 hL3 hZ2I kZ2 gy1 gL3_0 gL3_1 gL3_2 gL3_3 gL3_4 gL3_5 gL3_6 gL3_7 gL3_8 q9
  replace hP := zl_e2 hP (Eq.symm q9)
  clear q9
  have hZ2K : zK [11, 45, 46, 200] Z Z2 := zK_t zK_r kZ2 (by decide)
  refine fc_145_4 _ _ _ _ _ hL3 ?_
  refine sl_145_2 (ν := ν) sn hZ2I zK_r hb tsn rsn (x1 := 0) (by omega) (kc5 := Z2 200 0 0 2) (kc4 := Z2 200 0 0 1) (kc3 := Z2 11 hb 0 9) (kc2 := Z2 11 hb 0 8) (kc1 := Z2 11 hb 0 7) (kc0 := Z2 11 hb 0 3) (by omega) (by omega) (by omega) (by omega) (by omega) (by omega) (by omega) (by omega) (zconso rfl (zconso (zvo (show (0 : Int32) = i3 0 from rfl)) rfl)) rfl ?_
  intro L6 Z5 y4 hL6 hZ5I kZ5 gy4 gL6_0 gL6_1 gL6_2 gL6_3 gL6_4 gL6_5 gL6_6 gL6_7 q9
  replace hP := zl_e2 hP (Eq.symm q9)
  clear q9
  have hZ5K : zK [11, 45, 46, 200] Z Z5 := zK_t hZ2K kZ5 (by decide)
  refine fc_145_3  _ _ _ _ hL6 ?_
  exact zlV hP ⟨hZ5I, hZ5K, by omega, by omega, by omega, by omega, by omega, by omega⟩

/- yX3_queueFault -/
def zf_71 (Z : qz_Z) (a0b : Int) (a1 : Int) (a2 : Int) (a3 : Int) (a4 : Int) : Int := (if (Z 11 a0b 0 7) ≤ a1 then 1 else (if a2 < (Z 11 a0b 0 3) then (if a3 < a4 then 2 else (if a3 ≤ (a4 + (200 * (Z 48 a0b a1 3))) then (if (Z 44 a0b a2 10) ≠ 0 then 3 else (if (Z 44 a0b a2 4) ≤ 0 then 3 else (if (Z 44 a0b a2 12) < 0 then (if 12 ≤ (Z 48 a0b a1 5) then 3 else 0) else (if (Z 11 a0b 0 2) ≤ (Z 44 a0b a2 12) then (if 12 ≤ (Z 48 a0b a1 5) then 3 else 0) else (if (Z 43 a0b (Z 44 a0b a2 12) 10) ≤ (Z 11 a0b 0 13) then (if 12 ≤ (Z 48 a0b a1 5) then 3 else 0) else 3))))) else 2)) else 1))
theorem sp_71 {s : zS} {Z : qz_Z} {ν : qz_N} (hZ : zI s Z) (a0b : Nat) {a1 : Int} (ga1 : 0 ≤ a1 ∧ a1 ≤ 1) {a2 : Int} (ga2 : 0 ≤ a2 ∧ a2 ≤ 47) {a3 : Int} (ga3 : 200 ≤ a3 ∧ a3 ≤ 2150) {a4 : Int} (ga4 : 1 ≤ a4 ∧ a4 ≤ 2150) : ∃ P : Int, P = zf_71 Z a0b a1 a2 a3 a4 ∧ (qf_71 [.inr (.inr (some (10, a0b, 0))), .inl (i3 a1), .inl (i3 a2), .inl (i3 a3), .inl (i3 a4)] (zm Z ν) = some (zm Z ν, .inl (some (.inl (i3 P)))) ∧ 0 ≤ P ∧ P ≤ 3 ∧ (P ≠ 0 ∨ Z 48 a0b a1 5 ≤ 11)) := by
  obtain ⟨P, hP⟩ := zx (zf_71 Z a0b a1 a2 a3 a4)
  refine zc_R (Q := fun P => 0 ≤ P ∧ P ≤ 3 ∧ (P ≠ 0 ∨ Z 48 a0b a1 5 ≤ 11)) hP (fw_71 a0b (i3 a1) (i3 a2) (i3 a3) (i3 a4) _ _ ?_)
  replace hP : zE P (zf_71 Z a0b a1 a2 a3 a4) := hP
  unfold zf_71 at hP
  refine wz_i0 (Eq.trans (i3L (rfl : i3 a1 = i3 a1) (show (0 : Int32) = i3 0 from rfl) (by omega) (by omega) (by omega) (by omega)) (decide_eq_false (by omega))) ?_
  have r1 := zI_k hZ 11 a0b 0 7 (lo := 0) (hi := 2) (by decide) rfl
  refine wz_br (i3Le (zm_rd (Z := Z) (ν := ν) (k := 11) (rfl : ((a0b : Nat) : Int) = a0b) (show ((0 : Nat) : Int) = 0 from rfl) (show ((7 : Nat) : Int) = 7 from rfl)) (rfl : i3 a1 = i3 a1) (by omega) (by omega) (by omega) (by omega)) (fun h2 => ?_) (fun h2 => ?_)
  · replace hP := zE_p hP h2
    exact zlR hP (show (1 : Int32) = i3 1 from rfl) ⟨by omega, by omega, by omega⟩
  · replace hP := zE_n hP h2
    refine wz_i0 (Eq.trans (i3L (rfl : i3 a2 = i3 a2) (show (0 : Int32) = i3 0 from rfl) (by omega) (by omega) (by omega) (by omega)) (decide_eq_false (by omega))) ?_
    have r3 := zI_k hZ 11 a0b 0 3 (lo := 0) (hi := 48) (by decide) rfl
    refine wz_br (i3L (rfl : i3 a2 = i3 a2) (zm_rd (Z := Z) (ν := ν) (k := 11) (rfl : ((a0b : Nat) : Int) = a0b) (show ((0 : Nat) : Int) = 0 from rfl) (show ((3 : Nat) : Int) = 3 from rfl)) (by omega) (by omega) (by omega) (by omega)) (fun h4 => ?_) (fun h4 => ?_)
    · replace hP := zE_p hP h4
      refine wz_i0 (Eq.trans (i3L (rfl : i3 a3 = i3 a3) (show (1 : Int32) = i3 1 from rfl) (by omega) (by omega) (by omega) (by omega)) (decide_eq_false (by omega))) ?_
      refine wz_i0 (Eq.trans (i3L (show (9999 : Int32) = i3 9999 from rfl) (rfl : i3 a3 = i3 a3) (by omega) (by omega) (by omega) (by omega)) (decide_eq_false (by omega))) ?_
      refine wz_i0 (Eq.trans (i3L (rfl : i3 a4 = i3 a4) (show (1 : Int32) = i3 1 from rfl) (by omega) (by omega) (by omega) (by omega)) (decide_eq_false (by omega))) ?_
      refine wz_br (i3L (rfl : i3 a3 = i3 a3) (rfl : i3 a4 = i3 a4) (by omega) (by omega) (by omega) (by omega)) (fun h5 => ?_) (fun h5 => ?_)
      · replace hP := zE_p hP h5
        exact zlR hP (show (2 : Int32) = i3 2 from rfl) ⟨by omega, by omega, by omega⟩
      · replace hP := zE_n hP h5
        refine wz_i0 (i3O (n := 2) (rfl : i3 a1 = i3 a1) (by omega) (by omega) (by omega)) ?_
        have r6 := zI_k hZ 48 a0b a1 3 (lo := 0) (hi := 500) (by decide) rfl
        refine wz_br (i3Le (rfl : i3 a3 = i3 a3) (i3A (rfl : i3 a4 = i3 a4) (i3M (show (200 : Int32) = i3 200 from rfl) (zm_rd (Z := Z) (ν := ν) (k := 48) (rfl : ((a0b : Nat) : Int) = a0b) (i3I (y := a1) (rfl : i3 a1 = i3 a1) (by omega) (by omega) (by omega)) (show ((3 : Nat) : Int) = 3 from rfl)))) (by omega) (by omega) (by omega) (by omega)) (fun h7 => ?_) (fun h7 => ?_)
        · replace hP := zE_p hP h7
          refine wz_i0 (i3O (n := 48) (rfl : i3 a2 = i3 a2) (by omega) (by omega) (by omega)) ?_
          have r8 := zI_k hZ 44 a0b a2 10 (lo := 0) (hi := 4) (by decide) rfl
          refine wz_br (i3NE (zm_rd (Z := Z) (ν := ν) (k := 44) (rfl : ((a0b : Nat) : Int) = a0b) (i3I (y := a2) (rfl : i3 a2 = i3 a2) (by omega) (by omega) (by omega)) (show ((10 : Nat) : Int) = 10 from rfl)) (show (0 : Int32) = i3 0 from rfl) (by omega) (by omega) (by omega) (by omega)) (fun h9 => ?_) (fun h9 => ?_)
          · replace hP := zE_p hP h9
            exact zlR hP (show (3 : Int32) = i3 3 from rfl) ⟨by omega, by omega, by omega⟩
          · replace hP := zE_n hP h9
            have r10 := zI_k hZ 44 a0b a2 4 (lo := 0) (hi := 40) (by decide) rfl
            refine wz_br (i3Le (zm_rd (Z := Z) (ν := ν) (k := 44) (rfl : ((a0b : Nat) : Int) = a0b) (i3I (y := a2) (rfl : i3 a2 = i3 a2) (by omega) (by omega) (by omega)) (show ((4 : Nat) : Int) = 4 from rfl)) (show (0 : Int32) = i3 0 from rfl) (by omega) (by omega) (by omega) (by omega)) (fun h11 => ?_) (fun h11 => ?_)
            · replace hP := zE_p hP h11
              exact zlR hP (show (3 : Int32) = i3 3 from rfl) ⟨by omega, by omega, by omega⟩
            · replace hP := zE_n hP h11
              have r12 := zI_k hZ 44 a0b a2 12 (lo := -1) (hi := 6) (by decide) rfl
              refine wz_br (i3L (zm_rd (Z := Z) (ν := ν) (k := 44) (rfl : ((a0b : Nat) : Int) = a0b) (i3I (y := a2) (rfl : i3 a2 = i3 a2) (by omega) (by omega) (by omega)) (show ((12 : Nat) : Int) = 12 from rfl)) (show (0 : Int32) = i3 0 from rfl) (by omega) (by omega) (by omega) (by omega)) (fun h13 => ?_) (fun h13 => ?_)
              · replace hP := zE_p hP h13
                refine wz_i0 (i3O (n := 2) (rfl : i3 a1 = i3 a1) (by omega) (by omega) (by omega)) ?_
                have r14 := zI_k hZ 48 a0b a1 5 (lo := 0) (hi := 12) (by decide) rfl
                refine wz_br (i3Le (show (12 : Int32) = i3 12 from rfl) (zm_rd (Z := Z) (ν := ν) (k := 48) (rfl : ((a0b : Nat) : Int) = a0b) (i3I (y := a1) (rfl : i3 a1 = i3 a1) (by omega) (by omega) (by omega)) (show ((5 : Nat) : Int) = 5 from rfl)) (by omega) (by omega) (by omega) (by omega)) (fun h15 => ?_) (fun h15 => ?_)
                · replace hP := zE_p hP h15
                  exact zlR hP (show (3 : Int32) = i3 3 from rfl) ⟨by omega, by omega, by omega⟩
                · replace hP := zE_n hP h15
                  exact zlR hP (show (0 : Int32) = i3 0 from rfl) ⟨by omega, by omega, by omega⟩
              · replace hP := zE_n hP h13
                have r16 := zI_k hZ 11 a0b 0 2 (lo := 0) (hi := 6) (by decide) rfl
                refine wz_br (i3Le (zm_rd (Z := Z) (ν := ν) (k := 11) (rfl : ((a0b : Nat) : Int) = a0b) (show ((0 : Nat) : Int) = 0 from rfl) (show ((2 : Nat) : Int) = 2 from rfl)) (zm_rd (Z := Z) (ν := ν) (k := 44) (rfl : ((a0b : Nat) : Int) = a0b) (i3I (y := a2) (rfl : i3 a2 = i3 a2) (by omega) (by omega) (by omega)) (show ((12 : Nat) : Int) = 12 from rfl)) (by omega) (by omega) (by omega) (by omega)) (fun h17 => ?_) (fun h17 => ?_)
                · replace hP := zE_p hP h17
                  refine wz_i0 (i3O (n := 2) (rfl : i3 a1 = i3 a1) (by omega) (by omega) (by omega)) ?_
                  have r18 := zI_k hZ 48 a0b a1 5 (lo := 0) (hi := 12) (by decide) rfl
                  refine wz_br (i3Le (show (12 : Int32) = i3 12 from rfl) (zm_rd (Z := Z) (ν := ν) (k := 48) (rfl : ((a0b : Nat) : Int) = a0b) (i3I (y := a1) (rfl : i3 a1 = i3 a1) (by omega) (by omega) (by omega)) (show ((5 : Nat) : Int) = 5 from rfl)) (by omega) (by omega) (by omega) (by omega)) (fun h19 => ?_) (fun h19 => ?_)
                  · replace hP := zE_p hP h19
                    exact zlR hP (show (3 : Int32) = i3 3 from rfl) ⟨by omega, by omega, by omega⟩
                  · replace hP := zE_n hP h19
                    exact zlR hP (show (0 : Int32) = i3 0 from rfl) ⟨by omega, by omega, by omega⟩
                · replace hP := zE_n hP h17
                  refine wz_i0 (i3O (n := 6) (zm_rd (Z := Z) (ν := ν) (k := 44) (rfl : ((a0b : Nat) : Int) = a0b) (i3I (y := a2) (rfl : i3 a2 = i3 a2) (by omega) (by omega) (by omega)) (show ((12 : Nat) : Int) = 12 from rfl)) (by omega) (by omega) (by omega)) ?_
                  have r20 := zI_k hZ 43 a0b (Z 44 a0b a2 12) 10 (lo := -1) (hi := 695) (by decide) rfl
                  have r21 := zI_k hZ 11 a0b 0 13 (lo := 0) (hi := 671) (by decide) rfl
                  refine wz_br (i3Le (zm_rd (Z := Z) (ν := ν) (k := 43) (rfl : ((a0b : Nat) : Int) = a0b) (i3I (y := (Z 44 a0b a2 12)) (zm_rd (Z := Z) (ν := ν) (k := 44) (rfl : ((a0b : Nat) : Int) = a0b) (i3I (y := a2) (rfl : i3 a2 = i3 a2) (by omega) (by omega) (by omega)) (show ((12 : Nat) : Int) = 12 from rfl)) (by omega) (by omega) (by omega)) (show ((10 : Nat) : Int) = 10 from rfl)) (zm_rd (Z := Z) (ν := ν) (k := 11) (rfl : ((a0b : Nat) : Int) = a0b) (show ((0 : Nat) : Int) = 0 from rfl) (show ((13 : Nat) : Int) = 13 from rfl)) (by omega) (by omega) (by omega) (by omega)) (fun h22 => ?_) (fun h22 => ?_)
                  · replace hP := zE_p hP h22
                    refine wz_i0 (i3O (n := 2) (rfl : i3 a1 = i3 a1) (by omega) (by omega) (by omega)) ?_
                    have r23 := zI_k hZ 48 a0b a1 5 (lo := 0) (hi := 12) (by decide) rfl
                    refine wz_br (i3Le (show (12 : Int32) = i3 12 from rfl) (zm_rd (Z := Z) (ν := ν) (k := 48) (rfl : ((a0b : Nat) : Int) = a0b) (i3I (y := a1) (rfl : i3 a1 = i3 a1) (by omega) (by omega) (by omega)) (show ((5 : Nat) : Int) = 5 from rfl)) (by omega) (by omega) (by omega) (by omega)) (fun h24 => ?_) (fun h24 => ?_)
                    · replace hP := zE_p hP h24
                      exact zlR hP (show (3 : Int32) = i3 3 from rfl) ⟨by omega, by omega, by omega⟩
                    · replace hP := zE_n hP h24
                      exact zlR hP (show (0 : Int32) = i3 0 from rfl) ⟨by omega, by omega, by omega⟩
                  · replace hP := zE_n hP h22
                    exact zlR hP (show (3 : Int32) = i3 3 from rfl) ⟨by omega, by omega, by omega⟩
        · replace hP := zE_n hP h7
          exact zlR hP (show (2 : Int32) = i3 2 from rfl) ⟨by omega, by omega, by omega⟩
    · replace hP := zE_n hP h4
      exact zlR hP (show (1 : Int32) = i3 1 from rfl) ⟨by omega, by omega, by omega⟩


/-! a season told, the class (printed by season.py c) -/
/- yX8_tellClocks -/
def zl_147_1 (x0 : Int) (hb : Int) (x1 : Int) : Nat → qz_Z → Int → qz_Z × Int
  | 0, Z, x2 => (Z, x2)
  | m + 1, Z, x2 => (if x1 ≤ x2 then (Z, x2) else (zlet (zu Z 200 x0 0 2 (((25173 * (Z 200 x0 0 2)) + 13849) % 65536)) (fun Z3 => (zlet (zu Z3 200 x0 0 2 (((25173 * (Z3 200 x0 0 2)) + 13849) % 65536)) (fun Z12 => (zlet (zu Z12 200 x0 0 2 (((25173 * (Z12 200 x0 0 2)) + 13849) % 65536)) (fun Z21 => (zlet (zu Z21 200 x0 0 2 (((25173 * (Z21 200 x0 0 2)) + 13849) % 65536)) (fun Z30 => (zlet (zu Z30 200 x0 0 2 (((25173 * (Z30 200 x0 0 2)) + 13849) % 65536)) (fun Z39 => (zlet (zu Z39 48 hb (Z39 11 hb 0 7) 0 (4 + (((Z3 200 x0 0 2) / 16) % 4))) (fun Z47 => (zlet (zu Z47 48 hb (Z39 11 hb 0 7) 1 (1 + (((Z12 200 x0 0 2) / 16) % 4))) (fun Z54 => (zlet (zu Z54 48 hb (Z39 11 hb 0 7) 2 (1 + (((Z21 200 x0 0 2) / 16) % 4))) (fun Z61 => (zlet (zu Z61 48 hb (Z39 11 hb 0 7) 3 (10 + (10 * (((Z30 200 x0 0 2) / 16) % 9)))) (fun Z68 => (zlet (zu Z68 48 hb (Z39 11 hb 0 7) 4 (((Z39 200 x0 0 2) / 16) % 5)) (fun Z77 => (zlet (zu Z77 48 hb (Z39 11 hb 0 7) 6 (-1)) (fun Z84 => (zlet (zu Z84 48 hb (Z39 11 hb 0 7) 7 (-1)) (fun Z91 => (zlet (zu Z91 11 hb 0 7 ((Z91 11 hb 0 7) + 1)) (fun Z100 => zl_147_1 x0 hb x1 m Z100 (x2 + 1))))))))))))))))))))))))))))
theorem sl_147_1 {Zs Z : qz_Z} {ν : qz_N} (x0 : Nat) (hZ : zI (some (some (x0 : Int))) Z) (hK : zK [11, 48, 200] Zs Z) (hb : Nat) (tsn : ∀ Z, qz_tag (zm Z ν) (200, x0, 0) = 2) (rsn : ∀ Z, qz_rm (zm Z ν) 200 x0 0 0 = some (10, hb, 0)) {x1 : Int} (gx1 : 1 ≤ x1 ∧ x1 ≤ 2) {x2 : Int} (gx2 : 0 ≤ x2 ∧ x2 ≤ 2) {kc0 : Int} {kc1 : Int} {kc2 : Int} {kc3 : Int} {kc4 : Int} (gr0 : Z 11 hb 0 7 = x2) (gr1 : 1 ≤ (x0 : Int)) (gr2 : Z 11 hb 0 3 = kc0) (gr3 : Z 11 hb 0 8 = kc1) (gr4 : Z 11 hb 0 9 = kc2) (gr5 : Z 200 0 0 1 = kc3) (gr6 : Z 200 0 0 2 = kc4) {k : wz_K} {R : wz_R} {L : qz_L} (hL : qz_fg [true, true, true, false, false, false] L = [some (.inr (.inr (some (200, x0, 0)))), some (.inl (i3 x1)), some (.inl (i3 x2)), none, none, none]) {T : qz_Z × Int} (hP : zE T (zl_147_1 x0 hb x1 ((2 - x2).toNat + 1) Z x2)) (hk : ∀ (L9 : qz_L) (Z9 : qz_Z) (yx2 : Int), qz_fg [true, true, false, false, false, false] L9 = [some (.inr (.inr (some (200, x0, 0)))), some (.inl (i3 x1)), none, none, none, none] → zI (some (some (x0 : Int))) Z9 → zK [11, 48, 200] Zs Z9 → (0 ≤ yx2 ∧ yx2 ≤ 2) → (Z9 11 hb 0 7 = yx2) → (1 ≤ (x0 : Int)) → (Z9 11 hb 0 3 = kc0) → (Z9 11 hb 0 8 = kc1) → (Z9 11 hb 0 9 = kc2) → (Z9 200 0 0 1 = kc3) → (Z9 200 0 0 2 = kc4) → zE T ((Z9, yx2)) → k 0 (L9, [], zm Z9 ν)) : wz_loop qb_147_1 65536 k R (L, [], zm Z ν) := by
  refine wz_lp sb_147_1 (fun m x => ∃ Z : qz_Z, ∃ x2 : Int, qz_fg [true, true, true, false, false, false] x.1 = [some (.inr (.inr (some (200, x0, 0)))), some (.inl (i3 x1)), some (.inl (i3 x2)), none, none, none] ∧ x.2 = ([], zm Z ν) ∧ zI (some (some (x0 : Int))) Z ∧ zK [11, 48, 200] Zs Z ∧ m = (2 - x2).toNat ∧ (0 ≤ x2 ∧ x2 ≤ 2) ∧ (Z 11 hb 0 7 = x2) ∧ (1 ≤ (x0 : Int)) ∧ (Z 11 hb 0 3 = kc0) ∧ (Z 11 hb 0 8 = kc1) ∧ (Z 11 hb 0 9 = kc2) ∧ (Z 200 0 0 1 = kc3) ∧ (Z 200 0 0 2 = kc4) ∧ zE T (zl_147_1 x0 hb x1 (m + 1) Z x2)) ?_ 65536 ((2 - x2).toNat) _ (by omega) ⟨Z, x2, hL, rfl, hZ, hK, rfl, gx2, gr0, gr1, gr2, gr3, gr4, gr5, gr6, hP⟩
  clear hP gr0 gr1 gr2 gr3 gr4 gr5 gr6 gx2 hZ hK hL
  clear x2
  clear Z
  rintro m ⟨L, st, μ⟩ ⟨Z, x2, hL, hx, hZ, hK, hm, gx2, gr0, gr1, gr2, gr3, gr4, gr5, gr6, hP⟩
  cases hx
  refine fb_147_1 x0 (i3 x1) (i3 x2) _ _ _ _ hL ?_
  have rs := zI_xs (n := x0) hZ
  refine wz_br (i3Le (rfl : i3 x1 = i3 x1) (rfl : i3 x2 = i3 x2) (by omega) (by omega) (by omega) (by omega)) (fun h1 => ?_) (fun h1 => ?_)
  · replace hP := zE_p hP h1
    exact hk _ _ _ (zconso rfl (zconso (zvo (rfl : i3 x1 = i3 x1)) (zconso rfl (zconso rfl (zconso rfl (zconso rfl rfl)))))) hZ hK (by omega) (by omega) (by omega) (by omega) (by omega) (by omega) (by omega) (by omega) hP
  · replace hP := zE_n hP h1
    refine wz_i1 (by rw [tsn]; rfl) ?_
    refine wz_rko (rsn _) ?_
    refine wz_i1 (by rw [tsn]; rfl) ?_
    refine wz_i1 (by rw [tsn]; rfl) ?_
    refine wz_i1 (by rw [tsn]; rfl) ?_
    have r2 := zI_xr (n := x0) hZ
    obtain ⟨Z3, hZ3⟩ := zx (zu Z 200 x0 0 2 (((25173 * (Z 200 x0 0 2)) + 13849) % 65536))
    replace hP := zl_e hP hZ3
    have hZ3I := zI_x hZ hZ3 (by omega)
    have t4 : Z3 11 hb 0 3 = Z 11 hb 0 3 := zu_ne hZ3 (fun q => absurd q.1 (by decide))
    have t5 : Z3 11 hb 0 8 = Z 11 hb 0 8 := zu_ne hZ3 (fun q => absurd q.1 (by decide))
    have t6 : Z3 11 hb 0 9 = Z 11 hb 0 9 := zu_ne hZ3 (fun q => absurd q.1 (by decide))
    have t7 : Z3 11 hb 0 7 = Z 11 hb 0 7 := zu_ne hZ3 (fun q => absurd q.1 (by decide))
    have t8 : Z3 200 0 0 1 = Z 200 0 0 1 := zu_ne hZ3 (fun q => absurd q.2.2.2 (by decide))
    have t9 : Z3 200 0 0 2 = Z 200 0 0 2 := zu_ne hZ3 (by omega)
    have hZ3K := zK_u hK hZ3 (by decide)
    intro μ9 e9
    replace e9 := e9.trans (zm_wI (Z := Z) (ν := ν) hZ3 (rfl : ((x0 : Nat) : Int) = x0) (show ((0 : Nat) : Int) = 0 from rfl) (show ((2 : Nat) : Int) = 2 from rfl) (i3R (i3A (i3M (show (25173 : Int32) = i3 25173 from rfl) (zm_rd (Z := Z) (ν := ν) (k := 200) (rfl : ((x0 : Nat) : Int) = x0) (show ((0 : Nat) : Int) = 0 from rfl) (show ((2 : Nat) : Int) = 2 from rfl))) (show (13849 : Int32) = i3 13849 from rfl)) (show (65536 : Int32) = i3 65536 from rfl) (by omega) (by omega) (by omega) (by omega)))
    subst e9
    refine wz_i1 (by rw [tsn]; rfl) ?_
    refine wz_i1 (by rw [tsn]; rfl) ?_
    refine wz_i1 (by rw [tsn]; rfl) ?_
    refine wz_i1 (by rw [tsn]; rfl) ?_
    have r10 := zI_xr (n := x0) hZ3I
    have q11 := zu_at hZ3
    obtain ⟨Z12, hZ12⟩ := zx (zu Z3 200 x0 0 2 (((25173 * (Z3 200 x0 0 2)) + 13849) % 65536))
    replace hP := zl_e hP hZ12
    have hZ12I := zI_x hZ3I hZ12 (by omega)
    have t13 : Z12 11 hb 0 3 = Z3 11 hb 0 3 := zu_ne hZ12 (fun q => absurd q.1 (by decide))
    have t14 : Z12 11 hb 0 8 = Z3 11 hb 0 8 := zu_ne hZ12 (fun q => absurd q.1 (by decide))
    have t15 : Z12 11 hb 0 9 = Z3 11 hb 0 9 := zu_ne hZ12 (fun q => absurd q.1 (by decide))
    have t16 : Z12 11 hb 0 7 = Z3 11 hb 0 7 := zu_ne hZ12 (fun q => absurd q.1 (by decide))
    have t17 : Z12 200 0 0 1 = Z3 200 0 0 1 := zu_ne hZ12 (fun q => absurd q.2.2.2 (by decide))
    have t18 : Z12 200 0 0 2 = Z3 200 0 0 2 := zu_ne hZ12 (by omega)
    have hZ12K := zK_u hZ3K hZ12 (by decide)
    intro μ9 e9
    replace e9 := e9.trans (zm_wI (Z := Z3) (ν := ν) hZ12 (rfl : ((x0 : Nat) : Int) = x0) (show ((0 : Nat) : Int) = 0 from rfl) (show ((2 : Nat) : Int) = 2 from rfl) (i3R (i3A (i3M (show (25173 : Int32) = i3 25173 from rfl) (zm_rd (Z := Z3) (ν := ν) (k := 200) (rfl : ((x0 : Nat) : Int) = x0) (show ((0 : Nat) : Int) = 0 from rfl) (show ((2 : Nat) : Int) = 2 from rfl))) (show (13849 : Int32) = i3 13849 from rfl)) (show (65536 : Int32) = i3 65536 from rfl) (by omega) (by omega) (by omega) (by omega)))
    subst e9
    refine wz_i1 (by rw [tsn]; rfl) ?_
    refine wz_i1 (by rw [tsn]; rfl) ?_
    refine wz_i1 (by rw [tsn]; rfl) ?_
    refine wz_i1 (by rw [tsn]; rfl) ?_
    have r19 := zI_xr (n := x0) hZ12I
    have q20 := zu_at hZ12
    obtain ⟨Z21, hZ21⟩ := zx (zu Z12 200 x0 0 2 (((25173 * (Z12 200 x0 0 2)) + 13849) % 65536))
    replace hP := zl_e hP hZ21
    have hZ21I := zI_x hZ12I hZ21 (by omega)
    have t22 : Z21 11 hb 0 3 = Z12 11 hb 0 3 := zu_ne hZ21 (fun q => absurd q.1 (by decide))
    have t23 : Z21 11 hb 0 8 = Z12 11 hb 0 8 := zu_ne hZ21 (fun q => absurd q.1 (by decide))
    have t24 : Z21 11 hb 0 9 = Z12 11 hb 0 9 := zu_ne hZ21 (fun q => absurd q.1 (by decide))
    have t25 : Z21 11 hb 0 7 = Z12 11 hb 0 7 := zu_ne hZ21 (fun q => absurd q.1 (by decide))
    have t26 : Z21 200 0 0 1 = Z12 200 0 0 1 := zu_ne hZ21 (fun q => absurd q.2.2.2 (by decide))
    have t27 : Z21 200 0 0 2 = Z12 200 0 0 2 := zu_ne hZ21 (by omega)
    have hZ21K := zK_u hZ12K hZ21 (by decide)
    intro μ9 e9
    replace e9 := e9.trans (zm_wI (Z := Z12) (ν := ν) hZ21 (rfl : ((x0 : Nat) : Int) = x0) (show ((0 : Nat) : Int) = 0 from rfl) (show ((2 : Nat) : Int) = 2 from rfl) (i3R (i3A (i3M (show (25173 : Int32) = i3 25173 from rfl) (zm_rd (Z := Z12) (ν := ν) (k := 200) (rfl : ((x0 : Nat) : Int) = x0) (show ((0 : Nat) : Int) = 0 from rfl) (show ((2 : Nat) : Int) = 2 from rfl))) (show (13849 : Int32) = i3 13849 from rfl)) (show (65536 : Int32) = i3 65536 from rfl) (by omega) (by omega) (by omega) (by omega)))
    subst e9
    refine wz_i1 (by rw [tsn]; rfl) ?_
    refine wz_i1 (by rw [tsn]; rfl) ?_
    refine wz_i1 (by rw [tsn]; rfl) ?_
    refine wz_i1 (by rw [tsn]; rfl) ?_
    have r28 := zI_xr (n := x0) hZ21I
    have q29 := zu_at hZ21
    obtain ⟨Z30, hZ30⟩ := zx (zu Z21 200 x0 0 2 (((25173 * (Z21 200 x0 0 2)) + 13849) % 65536))
    replace hP := zl_e hP hZ30
    have hZ30I := zI_x hZ21I hZ30 (by omega)
    have t31 : Z30 11 hb 0 3 = Z21 11 hb 0 3 := zu_ne hZ30 (fun q => absurd q.1 (by decide))
    have t32 : Z30 11 hb 0 8 = Z21 11 hb 0 8 := zu_ne hZ30 (fun q => absurd q.1 (by decide))
    have t33 : Z30 11 hb 0 9 = Z21 11 hb 0 9 := zu_ne hZ30 (fun q => absurd q.1 (by decide))
    have t34 : Z30 11 hb 0 7 = Z21 11 hb 0 7 := zu_ne hZ30 (fun q => absurd q.1 (by decide))
    have t35 : Z30 200 0 0 1 = Z21 200 0 0 1 := zu_ne hZ30 (fun q => absurd q.2.2.2 (by decide))
    have t36 : Z30 200 0 0 2 = Z21 200 0 0 2 := zu_ne hZ30 (by omega)
    have hZ30K := zK_u hZ21K hZ30 (by decide)
    intro μ9 e9
    replace e9 := e9.trans (zm_wI (Z := Z21) (ν := ν) hZ30 (rfl : ((x0 : Nat) : Int) = x0) (show ((0 : Nat) : Int) = 0 from rfl) (show ((2 : Nat) : Int) = 2 from rfl) (i3R (i3A (i3M (show (25173 : Int32) = i3 25173 from rfl) (zm_rd (Z := Z21) (ν := ν) (k := 200) (rfl : ((x0 : Nat) : Int) = x0) (show ((0 : Nat) : Int) = 0 from rfl) (show ((2 : Nat) : Int) = 2 from rfl))) (show (13849 : Int32) = i3 13849 from rfl)) (show (65536 : Int32) = i3 65536 from rfl) (by omega) (by omega) (by omega) (by omega)))
    subst e9
    refine wz_i1 (by rw [tsn]; rfl) ?_
    refine wz_i1 (by rw [tsn]; rfl) ?_
    refine wz_i1 (by rw [tsn]; rfl) ?_
    refine wz_i1 (by rw [tsn]; rfl) ?_
    have r37 := zI_xr (n := x0) hZ30I
    have q38 := zu_at hZ30
    obtain ⟨Z39, hZ39⟩ := zx (zu Z30 200 x0 0 2 (((25173 * (Z30 200 x0 0 2)) + 13849) % 65536))
    replace hP := zl_e hP hZ39
    have hZ39I := zI_x hZ30I hZ39 (by omega)
    have t40 : Z39 11 hb 0 3 = Z30 11 hb 0 3 := zu_ne hZ39 (fun q => absurd q.1 (by decide))
    have t41 : Z39 11 hb 0 8 = Z30 11 hb 0 8 := zu_ne hZ39 (fun q => absurd q.1 (by decide))
    have t42 : Z39 11 hb 0 9 = Z30 11 hb 0 9 := zu_ne hZ39 (fun q => absurd q.1 (by decide))
    have t43 : Z39 11 hb 0 7 = Z30 11 hb 0 7 := zu_ne hZ39 (fun q => absurd q.1 (by decide))
    have t44 : Z39 200 0 0 1 = Z30 200 0 0 1 := zu_ne hZ39 (fun q => absurd q.2.2.2 (by decide))
    have t45 : Z39 200 0 0 2 = Z30 200 0 0 2 := zu_ne hZ39 (by omega)
    have hZ39K := zK_u hZ30K hZ39 (by decide)
    intro μ9 e9
    replace e9 := e9.trans (zm_wI (Z := Z30) (ν := ν) hZ39 (rfl : ((x0 : Nat) : Int) = x0) (show ((0 : Nat) : Int) = 0 from rfl) (show ((2 : Nat) : Int) = 2 from rfl) (i3R (i3A (i3M (show (25173 : Int32) = i3 25173 from rfl) (zm_rd (Z := Z30) (ν := ν) (k := 200) (rfl : ((x0 : Nat) : Int) = x0) (show ((0 : Nat) : Int) = 0 from rfl) (show ((2 : Nat) : Int) = 2 from rfl))) (show (13849 : Int32) = i3 13849 from rfl)) (show (65536 : Int32) = i3 65536 from rfl) (by omega) (by omega) (by omega) (by omega)))
    subst e9
    refine wz_i1 (by rw [tsn]; rfl) ?_
    refine wz_i1 rfl ?_
    refine wz_rko (r := (28, _, _)) rfl ?_
    refine wz_i1 rfl ?_
    refine wz_rko (r := (11, _, _)) rfl ?_
    refine wz_i1 rfl ?_
    refine wz_i0 (i3O (n := 17) (show (7 : Int32) = i3 7 from rfl) (by omega) (by omega) (by omega)) ?_
    refine wz_i1 rfl ?_
    have r46 := zI_k hZ39I 11 hb 0 7 (lo := 0) (hi := 2) (by decide) rfl
    refine wz_i0 (i3O (n := 2) (zm_rd (Z := Z39) (ν := ν) (k := 11) (rfl : ((hb : Nat) : Int) = hb) (show ((0 : Nat) : Int) = 0 from rfl) (show ((7 : Nat) : Int) = 7 from rfl)) (by omega) (by omega) (by omega)) ?_
    refine wz_rko (r := (48, _, _)) rfl ?_
    refine wz_i1 rfl ?_
    refine wz_i0 (i3O (n := 12) (show (0 : Int32) = i3 0 from rfl) (by omega) (by omega) (by omega)) ?_
    obtain ⟨Z47, hZ47⟩ := zx (zu Z39 48 hb (Z39 11 hb 0 7) 0 (4 + (((Z3 200 x0 0 2) / 16) % 4)))
    replace hP := zl_e hP hZ47
    have hZ47I := zI_u hZ39I hZ47 (lo := 0) (hi := 23) (by decide) rfl (by omega) ⟨by decide, by decide⟩ (Or.inl (by decide))
    have t48 : Z47 11 hb 0 3 = Z39 11 hb 0 3 := zu_ne hZ47 (fun q => absurd q.1 (by decide))
    have t49 : Z47 11 hb 0 8 = Z39 11 hb 0 8 := zu_ne hZ47 (fun q => absurd q.1 (by decide))
    have t50 : Z47 11 hb 0 9 = Z39 11 hb 0 9 := zu_ne hZ47 (fun q => absurd q.1 (by decide))
    have t51 : Z47 11 hb 0 7 = Z39 11 hb 0 7 := zu_ne hZ47 (fun q => absurd q.1 (by decide))
    have t52 : Z47 200 0 0 1 = Z39 200 0 0 1 := zu_ne hZ47 (fun q => absurd q.1 (by decide))
    have t53 : Z47 200 0 0 2 = Z39 200 0 0 2 := zu_ne hZ47 (fun q => absurd q.1 (by decide))
    have hZ47K := zK_u hZ39K hZ47 (by decide)
    intro μ9 e9
    replace e9 := e9.trans (zm_wI (Z := Z39) (ν := ν) hZ47 (rfl : ((hb : Nat) : Int) = hb) (i3I (y := (Z39 11 hb 0 7)) (zm_rd (Z := Z39) (ν := ν) (k := 11) (rfl : ((hb : Nat) : Int) = hb) (show ((0 : Nat) : Int) = 0 from rfl) (show ((7 : Nat) : Int) = 7 from rfl)) (by omega) (by omega) (by omega)) (show ((0 : Nat) : Int) = 0 from rfl) (i3A (show (4 : Int32) = i3 4 from rfl) (i3R (i3D (zm_rd (Z := Z3) (ν := ν) (k := 200) (rfl : ((x0 : Nat) : Int) = x0) (show ((0 : Nat) : Int) = 0 from rfl) (show ((2 : Nat) : Int) = 2 from rfl)) (show (16 : Int32) = i3 16 from rfl) (by omega) (by omega) (by omega) (by omega)) (show (4 : Int32) = i3 4 from rfl) (by omega) (by omega) (by omega) (by omega))))
    subst e9
    refine wz_i1 rfl ?_
    refine wz_i0 (i3O (n := 12) (show (1 : Int32) = i3 1 from rfl) (by omega) (by omega) (by omega)) ?_
    obtain ⟨Z54, hZ54⟩ := zx (zu Z47 48 hb (Z39 11 hb 0 7) 1 (1 + (((Z12 200 x0 0 2) / 16) % 4)))
    replace hP := zl_e hP hZ54
    have hZ54I := zI_u hZ47I hZ54 (lo := 0) (hi := 6) (by decide) rfl (by omega) ⟨by decide, by decide⟩ (Or.inl (by decide))
    have t55 : Z54 11 hb 0 3 = Z47 11 hb 0 3 := zu_ne hZ54 (fun q => absurd q.1 (by decide))
    have t56 : Z54 11 hb 0 8 = Z47 11 hb 0 8 := zu_ne hZ54 (fun q => absurd q.1 (by decide))
    have t57 : Z54 11 hb 0 9 = Z47 11 hb 0 9 := zu_ne hZ54 (fun q => absurd q.1 (by decide))
    have t58 : Z54 11 hb 0 7 = Z47 11 hb 0 7 := zu_ne hZ54 (fun q => absurd q.1 (by decide))
    have t59 : Z54 200 0 0 1 = Z47 200 0 0 1 := zu_ne hZ54 (fun q => absurd q.1 (by decide))
    have t60 : Z54 200 0 0 2 = Z47 200 0 0 2 := zu_ne hZ54 (fun q => absurd q.1 (by decide))
    have hZ54K := zK_u hZ47K hZ54 (by decide)
    intro μ9 e9
    replace e9 := e9.trans (zm_wI (Z := Z47) (ν := ν) hZ54 (rfl : ((hb : Nat) : Int) = hb) (i3I (y := (Z39 11 hb 0 7)) (zm_rd (Z := Z39) (ν := ν) (k := 11) (rfl : ((hb : Nat) : Int) = hb) (show ((0 : Nat) : Int) = 0 from rfl) (show ((7 : Nat) : Int) = 7 from rfl)) (by omega) (by omega) (by omega)) (show ((1 : Nat) : Int) = 1 from rfl) (i3A (show (1 : Int32) = i3 1 from rfl) (i3R (i3D (zm_rd (Z := Z12) (ν := ν) (k := 200) (rfl : ((x0 : Nat) : Int) = x0) (show ((0 : Nat) : Int) = 0 from rfl) (show ((2 : Nat) : Int) = 2 from rfl)) (show (16 : Int32) = i3 16 from rfl) (by omega) (by omega) (by omega) (by omega)) (show (4 : Int32) = i3 4 from rfl) (by omega) (by omega) (by omega) (by omega))))
    subst e9
    refine wz_i1 rfl ?_
    refine wz_i0 (i3O (n := 12) (show (2 : Int32) = i3 2 from rfl) (by omega) (by omega) (by omega)) ?_
    obtain ⟨Z61, hZ61⟩ := zx (zu Z54 48 hb (Z39 11 hb 0 7) 2 (1 + (((Z21 200 x0 0 2) / 16) % 4)))
    replace hP := zl_e hP hZ61
    have hZ61I := zI_u hZ54I hZ61 (lo := 0) (hi := 6) (by decide) rfl (by omega) ⟨by decide, by decide⟩ (Or.inl (by decide))
    have t62 : Z61 11 hb 0 3 = Z54 11 hb 0 3 := zu_ne hZ61 (fun q => absurd q.1 (by decide))
    have t63 : Z61 11 hb 0 8 = Z54 11 hb 0 8 := zu_ne hZ61 (fun q => absurd q.1 (by decide))
    have t64 : Z61 11 hb 0 9 = Z54 11 hb 0 9 := zu_ne hZ61 (fun q => absurd q.1 (by decide))
    have t65 : Z61 11 hb 0 7 = Z54 11 hb 0 7 := zu_ne hZ61 (fun q => absurd q.1 (by decide))
    have t66 : Z61 200 0 0 1 = Z54 200 0 0 1 := zu_ne hZ61 (fun q => absurd q.1 (by decide))
    have t67 : Z61 200 0 0 2 = Z54 200 0 0 2 := zu_ne hZ61 (fun q => absurd q.1 (by decide))
    have hZ61K := zK_u hZ54K hZ61 (by decide)
    intro μ9 e9
    replace e9 := e9.trans (zm_wI (Z := Z54) (ν := ν) hZ61 (rfl : ((hb : Nat) : Int) = hb) (i3I (y := (Z39 11 hb 0 7)) (zm_rd (Z := Z39) (ν := ν) (k := 11) (rfl : ((hb : Nat) : Int) = hb) (show ((0 : Nat) : Int) = 0 from rfl) (show ((7 : Nat) : Int) = 7 from rfl)) (by omega) (by omega) (by omega)) (show ((2 : Nat) : Int) = 2 from rfl) (i3A (show (1 : Int32) = i3 1 from rfl) (i3R (i3D (zm_rd (Z := Z21) (ν := ν) (k := 200) (rfl : ((x0 : Nat) : Int) = x0) (show ((0 : Nat) : Int) = 0 from rfl) (show ((2 : Nat) : Int) = 2 from rfl)) (show (16 : Int32) = i3 16 from rfl) (by omega) (by omega) (by omega) (by omega)) (show (4 : Int32) = i3 4 from rfl) (by omega) (by omega) (by omega) (by omega))))
    subst e9
    refine wz_i1 rfl ?_
    refine wz_i0 (i3O (n := 12) (show (3 : Int32) = i3 3 from rfl) (by omega) (by omega) (by omega)) ?_
    obtain ⟨Z68, hZ68⟩ := zx (zu Z61 48 hb (Z39 11 hb 0 7) 3 (10 + (10 * (((Z30 200 x0 0 2) / 16) % 9))))
    replace hP := zl_e hP hZ68
    have hZ68I := zI_u hZ61I hZ68 (lo := 0) (hi := 500) (by decide) rfl (by omega) ⟨by decide, by decide⟩ (Or.inl (by decide))
    have t69 : Z68 11 hb 0 3 = Z61 11 hb 0 3 := zu_ne hZ68 (fun q => absurd q.1 (by decide))
    have t70 : Z68 11 hb 0 8 = Z61 11 hb 0 8 := zu_ne hZ68 (fun q => absurd q.1 (by decide))
    have t71 : Z68 11 hb 0 9 = Z61 11 hb 0 9 := zu_ne hZ68 (fun q => absurd q.1 (by decide))
    have t72 : Z68 11 hb 0 7 = Z61 11 hb 0 7 := zu_ne hZ68 (fun q => absurd q.1 (by decide))
    have t73 : Z68 200 0 0 1 = Z61 200 0 0 1 := zu_ne hZ68 (fun q => absurd q.1 (by decide))
    have t74 : Z68 200 0 0 2 = Z61 200 0 0 2 := zu_ne hZ68 (fun q => absurd q.1 (by decide))
    have hZ68K := zK_u hZ61K hZ68 (by decide)
    intro μ9 e9
    replace e9 := e9.trans (zm_wI (Z := Z61) (ν := ν) hZ68 (rfl : ((hb : Nat) : Int) = hb) (i3I (y := (Z39 11 hb 0 7)) (zm_rd (Z := Z39) (ν := ν) (k := 11) (rfl : ((hb : Nat) : Int) = hb) (show ((0 : Nat) : Int) = 0 from rfl) (show ((7 : Nat) : Int) = 7 from rfl)) (by omega) (by omega) (by omega)) (show ((3 : Nat) : Int) = 3 from rfl) (i3A (show (10 : Int32) = i3 10 from rfl) (i3M (show (10 : Int32) = i3 10 from rfl) (i3R (i3D (zm_rd (Z := Z30) (ν := ν) (k := 200) (rfl : ((x0 : Nat) : Int) = x0) (show ((0 : Nat) : Int) = 0 from rfl) (show ((2 : Nat) : Int) = 2 from rfl)) (show (16 : Int32) = i3 16 from rfl) (by omega) (by omega) (by omega) (by omega)) (show (9 : Int32) = i3 9 from rfl) (by omega) (by omega) (by omega) (by omega)))))
    subst e9
    refine wz_i1 rfl ?_
    refine wz_i0 (i3O (n := 12) (show (4 : Int32) = i3 4 from rfl) (by omega) (by omega) (by omega)) ?_
    have r75 := zI_xr (n := x0) hZ39I
    have q76 := zu_at hZ39
    obtain ⟨Z77, hZ77⟩ := zx (zu Z68 48 hb (Z39 11 hb 0 7) 4 (((Z39 200 x0 0 2) / 16) % 5))
    replace hP := zl_e hP hZ77
    have hZ77I := zI_u hZ68I hZ77 (lo := 0) (hi := 9) (by decide) rfl (by omega) ⟨by decide, by decide⟩ (Or.inl (by decide))
    have t78 : Z77 11 hb 0 3 = Z68 11 hb 0 3 := zu_ne hZ77 (fun q => absurd q.1 (by decide))
    have t79 : Z77 11 hb 0 8 = Z68 11 hb 0 8 := zu_ne hZ77 (fun q => absurd q.1 (by decide))
    have t80 : Z77 11 hb 0 9 = Z68 11 hb 0 9 := zu_ne hZ77 (fun q => absurd q.1 (by decide))
    have t81 : Z77 11 hb 0 7 = Z68 11 hb 0 7 := zu_ne hZ77 (fun q => absurd q.1 (by decide))
    have t82 : Z77 200 0 0 1 = Z68 200 0 0 1 := zu_ne hZ77 (fun q => absurd q.1 (by decide))
    have t83 : Z77 200 0 0 2 = Z68 200 0 0 2 := zu_ne hZ77 (fun q => absurd q.1 (by decide))
    have hZ77K := zK_u hZ68K hZ77 (by decide)
    intro μ9 e9
    replace e9 := e9.trans (zm_wI (Z := Z68) (ν := ν) hZ77 (rfl : ((hb : Nat) : Int) = hb) (i3I (y := (Z39 11 hb 0 7)) (zm_rd (Z := Z39) (ν := ν) (k := 11) (rfl : ((hb : Nat) : Int) = hb) (show ((0 : Nat) : Int) = 0 from rfl) (show ((7 : Nat) : Int) = 7 from rfl)) (by omega) (by omega) (by omega)) (show ((4 : Nat) : Int) = 4 from rfl) (i3R (i3D (zm_rd (Z := Z39) (ν := ν) (k := 200) (rfl : ((x0 : Nat) : Int) = x0) (show ((0 : Nat) : Int) = 0 from rfl) (show ((2 : Nat) : Int) = 2 from rfl)) (show (16 : Int32) = i3 16 from rfl) (by omega) (by omega) (by omega) (by omega)) (show (5 : Int32) = i3 5 from rfl) (by omega) (by omega) (by omega) (by omega)))
    subst e9
    refine wz_i1 rfl ?_
    refine wz_i0 (i3O (n := 12) (show (6 : Int32) = i3 6 from rfl) (by omega) (by omega) (by omega)) ?_
    obtain ⟨Z84, hZ84⟩ := zx (zu Z77 48 hb (Z39 11 hb 0 7) 6 (-1))
    replace hP := zl_e hP hZ84
    have hZ84I := zI_u hZ77I hZ84 (lo := -1) (hi := 9999) (by decide) rfl (by omega) ⟨by decide, by decide⟩ (Or.inl (by decide))
    have t85 : Z84 11 hb 0 3 = Z77 11 hb 0 3 := zu_ne hZ84 (fun q => absurd q.1 (by decide))
    have t86 : Z84 11 hb 0 8 = Z77 11 hb 0 8 := zu_ne hZ84 (fun q => absurd q.1 (by decide))
    have t87 : Z84 11 hb 0 9 = Z77 11 hb 0 9 := zu_ne hZ84 (fun q => absurd q.1 (by decide))
    have t88 : Z84 11 hb 0 7 = Z77 11 hb 0 7 := zu_ne hZ84 (fun q => absurd q.1 (by decide))
    have t89 : Z84 200 0 0 1 = Z77 200 0 0 1 := zu_ne hZ84 (fun q => absurd q.1 (by decide))
    have t90 : Z84 200 0 0 2 = Z77 200 0 0 2 := zu_ne hZ84 (fun q => absurd q.1 (by decide))
    have hZ84K := zK_u hZ77K hZ84 (by decide)
    intro μ9 e9
    replace e9 := e9.trans (zm_wI (Z := Z77) (ν := ν) hZ84 (rfl : ((hb : Nat) : Int) = hb) (i3I (y := (Z39 11 hb 0 7)) (zm_rd (Z := Z39) (ν := ν) (k := 11) (rfl : ((hb : Nat) : Int) = hb) (show ((0 : Nat) : Int) = 0 from rfl) (show ((7 : Nat) : Int) = 7 from rfl)) (by omega) (by omega) (by omega)) (show ((6 : Nat) : Int) = 6 from rfl) (show (-1 : Int32) = i3 (-1) from rfl))
    subst e9
    refine wz_i1 rfl ?_
    refine wz_i0 (i3O (n := 12) (show (7 : Int32) = i3 7 from rfl) (by omega) (by omega) (by omega)) ?_
    obtain ⟨Z91, hZ91⟩ := zx (zu Z84 48 hb (Z39 11 hb 0 7) 7 (-1))
    replace hP := zl_e hP hZ91
    have hZ91I := zI_u hZ84I hZ91 (lo := -1) (hi := 47) (by decide) rfl (by omega) ⟨by decide, by decide⟩ (Or.inl (by decide))
    have t92 : Z91 11 hb 0 3 = Z84 11 hb 0 3 := zu_ne hZ91 (fun q => absurd q.1 (by decide))
    have t93 : Z91 11 hb 0 8 = Z84 11 hb 0 8 := zu_ne hZ91 (fun q => absurd q.1 (by decide))
    have t94 : Z91 11 hb 0 9 = Z84 11 hb 0 9 := zu_ne hZ91 (fun q => absurd q.1 (by decide))
    have t95 : Z91 11 hb 0 7 = Z84 11 hb 0 7 := zu_ne hZ91 (fun q => absurd q.1 (by decide))
    have t96 : Z91 200 0 0 1 = Z84 200 0 0 1 := zu_ne hZ91 (fun q => absurd q.1 (by decide))
    have t97 : Z91 200 0 0 2 = Z84 200 0 0 2 := zu_ne hZ91 (fun q => absurd q.1 (by decide))
    have hZ91K := zK_u hZ84K hZ91 (by decide)
    intro μ9 e9
    replace e9 := e9.trans (zm_wI (Z := Z84) (ν := ν) hZ91 (rfl : ((hb : Nat) : Int) = hb) (i3I (y := (Z39 11 hb 0 7)) (zm_rd (Z := Z39) (ν := ν) (k := 11) (rfl : ((hb : Nat) : Int) = hb) (show ((0 : Nat) : Int) = 0 from rfl) (show ((7 : Nat) : Int) = 7 from rfl)) (by omega) (by omega) (by omega)) (show ((7 : Nat) : Int) = 7 from rfl) (show (-1 : Int32) = i3 (-1) from rfl))
    subst e9
    refine wz_i1 rfl ?_
    refine wz_rko (r := (11, _, _)) rfl ?_
    refine wz_i1 rfl ?_
    refine wz_i0 (i3O (n := 17) (show (7 : Int32) = i3 7 from rfl) (by omega) (by omega) (by omega)) ?_
    refine wz_i1 rfl ?_
    refine wz_i0 (i3O (n := 17) (show (7 : Int32) = i3 7 from rfl) (by omega) (by omega) (by omega)) ?_
    have r98 := zI_k hZ91I 11 hb 0 7 (lo := 0) (hi := 2) (by decide) rfl
    have q99 := (zu_ne (k' := 11) (b' := hb) (i' := 0) (j' := 7) hZ91 (fun q => absurd q.1 (by decide))).trans ((zu_ne (k' := 11) (b' := hb) (i' := 0) (j' := 7) hZ84 (fun q => absurd q.1 (by decide))).trans ((zu_ne (k' := 11) (b' := hb) (i' := 0) (j' := 7) hZ77 (fun q => absurd q.1 (by decide))).trans ((zu_ne (k' := 11) (b' := hb) (i' := 0) (j' := 7) hZ68 (fun q => absurd q.1 (by decide))).trans ((zu_ne (k' := 11) (b' := hb) (i' := 0) (j' := 7) hZ61 (fun q => absurd q.1 (by decide))).trans ((zu_ne (k' := 11) (b' := hb) (i' := 0) (j' := 7) hZ54 (fun q => absurd q.1 (by decide))).trans (zu_ne (k' := 11) (b' := hb) (i' := 0) (j' := 7) hZ47 (fun q => absurd q.1 (by decide))))))))
    obtain ⟨Z100, hZ100⟩ := zx (zu Z91 11 hb 0 7 ((Z91 11 hb 0 7) + 1))
    replace hP := zl_e hP hZ100
    have hZ100I := zI_u hZ91I hZ100 (lo := 0) (hi := 2) (by decide) rfl (by omega) ⟨by decide, by decide⟩ (Or.inl (by decide))
    have t101 : Z100 11 hb 0 3 = Z91 11 hb 0 3 := zu_ne hZ100 (fun q => absurd q.2.2.2 (by decide))
    have t102 : Z100 11 hb 0 8 = Z91 11 hb 0 8 := zu_ne hZ100 (fun q => absurd q.2.2.2 (by decide))
    have t103 : Z100 11 hb 0 9 = Z91 11 hb 0 9 := zu_ne hZ100 (fun q => absurd q.2.2.2 (by decide))
    have t104 := zu_at hZ100
    have t105 : Z100 200 0 0 1 = Z91 200 0 0 1 := zu_ne hZ100 (fun q => absurd q.1 (by decide))
    have t106 : Z100 200 0 0 2 = Z91 200 0 0 2 := zu_ne hZ100 (fun q => absurd q.1 (by decide))
    have hZ100K := zK_u hZ91K hZ100 (by decide)
    intro μ9 e9
    replace e9 := e9.trans (zm_wI (Z := Z91) (ν := ν) hZ100 (rfl : ((hb : Nat) : Int) = hb) (show ((0 : Nat) : Int) = 0 from rfl) (show ((7 : Nat) : Int) = 7 from rfl) (i3A (zm_rd (Z := Z91) (ν := ν) (k := 11) (rfl : ((hb : Nat) : Int) = hb) (show ((0 : Nat) : Int) = 0 from rfl) (show ((7 : Nat) : Int) = 7 from rfl)) (show (1 : Int32) = i3 1 from rfl)))
    subst e9
    obtain ⟨m2, rfl⟩ : ∃ m2, m = m2 + 1 := ⟨m - 1, by omega⟩
    exact wz_k1 ⟨m2, by omega, Z100, (x2 + 1), (zconso rfl (zconso (zvo (rfl : i3 x1 = i3 x1)) (zconso (zvo (i3A (rfl : i3 x2 = i3 x2) (show (1 : Int32) = i3 1 from rfl))) (zconso rfl (zconso rfl (zconso rfl rfl)))))), rfl, hZ100I, hZ100K, by omega, by omega, by omega, by omega, by omega, by omega, by omega, by omega, by omega,  hP⟩


/-! a season told, the class (printed by season.py c) -/
/- yX8_tellClocks -/
def zl_147_2 (x0 : Int) (hb : Int) (x1 : Int) : Nat → qz_Z → Int → qz_Z × Int
  | 0, Z, x2 => (Z, x2)
  | m + 1, Z, x2 => (if (Z 11 hb 0 3) ≤ x2 then (Z, x2) else (if (Z 44 hb x2 9) = (-1) then zl_147_2 x0 hb x1 m Z (x2 + 1) else (zlet (zu Z 200 x0 0 2 (((25173 * (Z 200 x0 0 2)) + 13849) % 65536)) (fun Z6 => (zlet (zu Z6 200 x0 0 2 (((25173 * (Z6 200 x0 0 2)) + 13849) % 65536)) (fun Z14 => (zlet (zu Z14 200 x0 0 2 (((25173 * (Z14 200 x0 0 2)) + 13849) % 65536)) (fun Z23 => (zlet (zf_71 Z23 hb (((Z6 200 x0 0 2) / 16) % (max 1 x1)) x2 (200 + (50 * (((Z14 200 x0 0 2) / 16) % 40))) (max 1 ((200 + (50 * (((Z14 200 x0 0 2) / 16) % 40))) - ((Z14 48 hb (((Z6 200 x0 0 2) / 16) % (max 1 x1)) 3) * (((Z23 200 x0 0 2) / 16) % 60))))) (fun v33 => (if v33 ≠ 0 then zl_147_2 x0 hb x1 m Z23 (x2 + 1) else (zlet (zu Z23 44 hb x2 10 1) (fun Z35 => (zlet (zu Z35 49 hb (12 * (((Z6 200 x0 0 2) / 16) % (max 1 x1)) + (Z23 48 hb (((Z6 200 x0 0 2) / 16) % (max 1 x1)) 5)) 0 x2) (fun Z42 => (zlet (zu Z42 49 hb (12 * (((Z6 200 x0 0 2) / 16) % (max 1 x1)) + (Z23 48 hb (((Z6 200 x0 0 2) / 16) % (max 1 x1)) 5)) 1 (200 + (50 * (((Z14 200 x0 0 2) / 16) % 40)))) (fun Z48 => (zlet (zu Z48 49 hb (12 * (((Z6 200 x0 0 2) / 16) % (max 1 x1)) + (Z23 48 hb (((Z6 200 x0 0 2) / 16) % (max 1 x1)) 5)) 2 (max 1 ((200 + (50 * (((Z14 200 x0 0 2) / 16) % 40))) - ((Z14 48 hb (((Z6 200 x0 0 2) / 16) % (max 1 x1)) 3) * (((Z23 200 x0 0 2) / 16) % 60))))) (fun Z54 => (zlet (zu Z54 48 hb (((Z6 200 x0 0 2) / 16) % (max 1 x1)) 5 ((Z54 48 hb (((Z6 200 x0 0 2) / 16) % (max 1 x1)) 5) + 1)) (fun Z62 => zl_147_2 x0 hb x1 m Z62 (x2 + 1))))))))))))))))))))))
theorem sl_147_2 {Zs Z : qz_Z} {ν : qz_N} (x0 : Nat) (hZ : zI (some (some (x0 : Int))) Z) (hK : zK [44, 48, 49, 200] Zs Z) (hb : Nat) (tsn : ∀ Z, qz_tag (zm Z ν) (200, x0, 0) = 2) (rsn : ∀ Z, qz_rm (zm Z ν) 200 x0 0 0 = some (10, hb, 0)) {x1 : Int} (gx1 : 1 ≤ x1 ∧ x1 ≤ 2) {x2 : Int} (gx2 : 0 ≤ x2 ∧ x2 ≤ 48) {kc0 : Int} {kc1 : Int} {kc2 : Int} {kc3 : Int} {kc4 : Int} (gr0 : 1 ≤ (x0 : Int)) (gr1 : Z 11 hb 0 3 = kc0) (gr2 : Z 11 hb 0 8 = kc1) (gr3 : Z 11 hb 0 9 = kc2) (gr4 : Z 200 0 0 1 = kc3) (gr5 : Z 200 0 0 2 = kc4) {k : wz_K} {R : wz_R} {L : qz_L} (hL : qz_fg [true, true, true, false, false, false] L = [some (.inr (.inr (some (200, x0, 0)))), some (.inl (i3 x1)), some (.inl (i3 x2)), none, none, none]) {T : qz_Z × Int} (hP : zE T (zl_147_2 x0 hb x1 ((48 - x2).toNat + 1) Z x2)) (hk : ∀ (L9 : qz_L) (Z9 : qz_Z) (yx2 : Int), qz_fg [false, false, false, false, false, false] L9 = [none, none, none, none, none, none] → zI (some (some (x0 : Int))) Z9 → zK [44, 48, 49, 200] Zs Z9 → (0 ≤ yx2 ∧ yx2 ≤ 48) → (1 ≤ (x0 : Int)) → (Z9 11 hb 0 3 = kc0) → (Z9 11 hb 0 8 = kc1) → (Z9 11 hb 0 9 = kc2) → (Z9 200 0 0 1 = kc3) → (Z9 200 0 0 2 = kc4) → zE T ((Z9, yx2)) → k 0 (L9, [], zm Z9 ν)) : wz_loop qb_147_2 65536 k R (L, [], zm Z ν) := by
  refine wz_lp sb_147_2 (fun m x => ∃ Z : qz_Z, ∃ x2 : Int, qz_fg [true, true, true, false, false, false] x.1 = [some (.inr (.inr (some (200, x0, 0)))), some (.inl (i3 x1)), some (.inl (i3 x2)), none, none, none] ∧ x.2 = ([], zm Z ν) ∧ zI (some (some (x0 : Int))) Z ∧ zK [44, 48, 49, 200] Zs Z ∧ m = (48 - x2).toNat ∧ (0 ≤ x2 ∧ x2 ≤ 48) ∧ (1 ≤ (x0 : Int)) ∧ (Z 11 hb 0 3 = kc0) ∧ (Z 11 hb 0 8 = kc1) ∧ (Z 11 hb 0 9 = kc2) ∧ (Z 200 0 0 1 = kc3) ∧ (Z 200 0 0 2 = kc4) ∧ zE T (zl_147_2 x0 hb x1 (m + 1) Z x2)) ?_ 65536 ((48 - x2).toNat) _ (by omega) ⟨Z, x2, hL, rfl, hZ, hK, rfl, gx2, gr0, gr1, gr2, gr3, gr4, gr5, hP⟩
  clear hP gr0 gr1 gr2 gr3 gr4 gr5 gx2 hZ hK hL
  clear x2
  clear Z
  rintro m ⟨L, st, μ⟩ ⟨Z, x2, hL, hx, hZ, hK, hm, gx2, gr0, gr1, gr2, gr3, gr4, gr5, hP⟩
  cases hx
  refine fb_147_2 x0 (i3 x1) (i3 x2) _ _ _ _ hL ?_
  have rs := zI_xs (n := x0) hZ
  refine wz_i1 (by rw [tsn]; rfl) ?_
  refine wz_rko (rsn _) ?_
  refine wz_i1 rfl ?_
  refine wz_rko (r := (11, _, _)) rfl ?_
  refine wz_i1 rfl ?_
  refine wz_i0 (i3O (n := 17) (show (3 : Int32) = i3 3 from rfl) (by omega) (by omega) (by omega)) ?_
  have r1 := zI_k hZ 11 hb 0 3 (lo := 0) (hi := 48) (by decide) rfl
  refine wz_br (i3Le (zm_rd (Z := Z) (ν := ν) (k := 11) (rfl : ((hb : Nat) : Int) = hb) (show ((0 : Nat) : Int) = 0 from rfl) (show ((3 : Nat) : Int) = 3 from rfl)) (rfl : i3 x2 = i3 x2) (by omega) (by omega) (by omega) (by omega)) (fun h2 => ?_) (fun h2 => ?_)
  · replace hP := zE_p hP h2
    exact hk _ _ _ (zconso rfl (zconso rfl (zconso rfl (zconso rfl (zconso rfl (zconso rfl rfl)))))) hZ hK (by omega) (by omega) (by omega) (by omega) (by omega) (by omega) (by omega) hP
  · replace hP := zE_n hP h2
    refine wz_i1 (by rw [tsn]; rfl) ?_
    refine wz_rko (rsn _) ?_
    refine wz_i1 rfl ?_
    refine wz_rko (r := (24, _, _)) rfl ?_
    refine wz_i1 rfl ?_
    refine wz_i0 (i3O (n := 48) (rfl : i3 x2 = i3 x2) (by omega) (by omega) (by omega)) ?_
    refine wz_rko (r := (44, _, _)) rfl ?_
    refine wz_i1 rfl ?_
    refine wz_i0 (i3O (n := 16) (show (9 : Int32) = i3 9 from rfl) (by omega) (by omega) (by omega)) ?_
    have r3 := zI_k hZ 44 hb x2 9 (lo := -1) (hi := 3) (by decide) rfl
    refine wz_br (i3E (zm_rd (Z := Z) (ν := ν) (k := 44) (rfl : ((hb : Nat) : Int) = hb) (i3I (y := x2) (rfl : i3 x2 = i3 x2) (by omega) (by omega) (by omega)) (show ((9 : Nat) : Int) = 9 from rfl)) (show (-1 : Int32) = i3 (-1) from rfl) (by omega) (by omega) (by omega) (by omega)) (fun h4 => ?_) (fun h4 => ?_)
    · replace hP := zE_p hP h4
      obtain ⟨m2, rfl⟩ : ∃ m2, m = m2 + 1 := ⟨m - 1, by omega⟩
      exact wz_k1 ⟨m2, by omega, Z, (x2 + 1), (zconso rfl (zconso (zvo (rfl : i3 x1 = i3 x1)) (zconso (zvo (i3A (rfl : i3 x2 = i3 x2) (show (1 : Int32) = i3 1 from rfl))) (zconso rfl (zconso rfl (zconso rfl rfl)))))), rfl, hZ, hK, by omega, by omega, by omega, by omega, by omega, by omega, by omega, by omega,  hP⟩
    · replace hP := zE_n hP h4
      refine wz_i1 (by rw [tsn]; rfl) ?_
      refine wz_i1 (by rw [tsn]; rfl) ?_
      refine wz_i1 (by rw [tsn]; rfl) ?_
      have r5 := zI_xr (n := x0) hZ
      obtain ⟨Z6, hZ6⟩ := zx (zu Z 200 x0 0 2 (((25173 * (Z 200 x0 0 2)) + 13849) % 65536))
      replace hP := zl_e hP hZ6
      have hZ6I := zI_x hZ hZ6 (by omega)
      have t7 : Z6 11 hb 0 3 = Z 11 hb 0 3 := zu_ne hZ6 (fun q => absurd q.1 (by decide))
      have t8 : Z6 11 hb 0 8 = Z 11 hb 0 8 := zu_ne hZ6 (fun q => absurd q.1 (by decide))
      have t9 : Z6 11 hb 0 9 = Z 11 hb 0 9 := zu_ne hZ6 (fun q => absurd q.1 (by decide))
      have t10 : Z6 200 0 0 1 = Z 200 0 0 1 := zu_ne hZ6 (fun q => absurd q.2.2.2 (by decide))
      have t11 : Z6 200 0 0 2 = Z 200 0 0 2 := zu_ne hZ6 (by omega)
      have hZ6K := zK_u hK hZ6 (by decide)
      intro μ9 e9
      replace e9 := e9.trans (zm_wI (Z := Z) (ν := ν) hZ6 (rfl : ((x0 : Nat) : Int) = x0) (show ((0 : Nat) : Int) = 0 from rfl) (show ((2 : Nat) : Int) = 2 from rfl) (i3R (i3A (i3M (show (25173 : Int32) = i3 25173 from rfl) (zm_rd (Z := Z) (ν := ν) (k := 200) (rfl : ((x0 : Nat) : Int) = x0) (show ((0 : Nat) : Int) = 0 from rfl) (show ((2 : Nat) : Int) = 2 from rfl))) (show (13849 : Int32) = i3 13849 from rfl)) (show (65536 : Int32) = i3 65536 from rfl) (by omega) (by omega) (by omega) (by omega)))
      subst e9
      refine wz_i1 (by rw [tsn]; rfl) ?_
      refine wz_i0 (i3N0 (i3Mx (show (1 : Int32) = i3 1 from rfl) (rfl : i3 x1 = i3 x1) (by omega) (by omega) (by omega) (by omega)) (by omega) (by omega) (by omega)) ?_
      refine wz_i1 (by rw [tsn]; rfl) ?_
      refine wz_i1 (by rw [tsn]; rfl) ?_
      refine wz_i1 (by rw [tsn]; rfl) ?_
      have r12 := zI_xr (n := x0) hZ6I
      have q13 := zu_at hZ6
      obtain ⟨Z14, hZ14⟩ := zx (zu Z6 200 x0 0 2 (((25173 * (Z6 200 x0 0 2)) + 13849) % 65536))
      replace hP := zl_e hP hZ14
      have hZ14I := zI_x hZ6I hZ14 (by omega)
      have t15 : Z14 11 hb 0 3 = Z6 11 hb 0 3 := zu_ne hZ14 (fun q => absurd q.1 (by decide))
      have t16 : Z14 11 hb 0 8 = Z6 11 hb 0 8 := zu_ne hZ14 (fun q => absurd q.1 (by decide))
      have t17 : Z14 11 hb 0 9 = Z6 11 hb 0 9 := zu_ne hZ14 (fun q => absurd q.1 (by decide))
      have t18 : Z14 200 0 0 1 = Z6 200 0 0 1 := zu_ne hZ14 (fun q => absurd q.2.2.2 (by decide))
      have t19 : Z14 200 0 0 2 = Z6 200 0 0 2 := zu_ne hZ14 (by omega)
      have hZ14K := zK_u hZ6K hZ14 (by decide)
      intro μ9 e9
      replace e9 := e9.trans (zm_wI (Z := Z6) (ν := ν) hZ14 (rfl : ((x0 : Nat) : Int) = x0) (show ((0 : Nat) : Int) = 0 from rfl) (show ((2 : Nat) : Int) = 2 from rfl) (i3R (i3A (i3M (show (25173 : Int32) = i3 25173 from rfl) (zm_rd (Z := Z6) (ν := ν) (k := 200) (rfl : ((x0 : Nat) : Int) = x0) (show ((0 : Nat) : Int) = 0 from rfl) (show ((2 : Nat) : Int) = 2 from rfl))) (show (13849 : Int32) = i3 13849 from rfl)) (show (65536 : Int32) = i3 65536 from rfl) (by omega) (by omega) (by omega) (by omega)))
      subst e9
      refine wz_i1 (by rw [tsn]; rfl) ?_
      refine wz_i1 (by rw [tsn]; rfl) ?_
      refine wz_rko (rsn _) ?_
      refine wz_i1 rfl ?_
      refine wz_rko (r := (28, _, _)) rfl ?_
      refine wz_i1 rfl ?_
      have r20 := z_mod ((Z6 200 x0 0 2) / 16) (y := (max 1 x1)) (by omega)
      refine wz_i0 (i3O (n := 2) (i3R (i3D (zm_rd (Z := Z6) (ν := ν) (k := 200) (rfl : ((x0 : Nat) : Int) = x0) (show ((0 : Nat) : Int) = 0 from rfl) (show ((2 : Nat) : Int) = 2 from rfl)) (show (16 : Int32) = i3 16 from rfl) (by omega) (by omega) (by omega) (by omega)) (i3Mx (show (1 : Int32) = i3 1 from rfl) (rfl : i3 x1 = i3 x1) (by omega) (by omega) (by omega) (by omega)) (by omega) (by omega) (by omega) (by omega)) (by omega) (by omega) (by omega)) ?_
      refine wz_rko (r := (48, _, _)) rfl ?_
      refine wz_i1 rfl ?_
      refine wz_i0 (i3O (n := 12) (show (3 : Int32) = i3 3 from rfl) (by omega) (by omega) (by omega)) ?_
      refine wz_i1 (by rw [tsn]; rfl) ?_
      refine wz_i1 (by rw [tsn]; rfl) ?_
      refine wz_i1 (by rw [tsn]; rfl) ?_
      have r21 := zI_xr (n := x0) hZ14I
      have q22 := zu_at hZ14
      obtain ⟨Z23, hZ23⟩ := zx (zu Z14 200 x0 0 2 (((25173 * (Z14 200 x0 0 2)) + 13849) % 65536))
      replace hP := zl_e hP hZ23
      have hZ23I := zI_x hZ14I hZ23 (by omega)
      have t24 : Z23 11 hb 0 3 = Z14 11 hb 0 3 := zu_ne hZ23 (fun q => absurd q.1 (by decide))
      have t25 : Z23 11 hb 0 8 = Z14 11 hb 0 8 := zu_ne hZ23 (fun q => absurd q.1 (by decide))
      have t26 : Z23 11 hb 0 9 = Z14 11 hb 0 9 := zu_ne hZ23 (fun q => absurd q.1 (by decide))
      have t27 : Z23 200 0 0 1 = Z14 200 0 0 1 := zu_ne hZ23 (fun q => absurd q.2.2.2 (by decide))
      have t28 : Z23 200 0 0 2 = Z14 200 0 0 2 := zu_ne hZ23 (by omega)
      have hZ23K := zK_u hZ14K hZ23 (by decide)
      intro μ9 e9
      replace e9 := e9.trans (zm_wI (Z := Z14) (ν := ν) hZ23 (rfl : ((x0 : Nat) : Int) = x0) (show ((0 : Nat) : Int) = 0 from rfl) (show ((2 : Nat) : Int) = 2 from rfl) (i3R (i3A (i3M (show (25173 : Int32) = i3 25173 from rfl) (zm_rd (Z := Z14) (ν := ν) (k := 200) (rfl : ((x0 : Nat) : Int) = x0) (show ((0 : Nat) : Int) = 0 from rfl) (show ((2 : Nat) : Int) = 2 from rfl))) (show (13849 : Int32) = i3 13849 from rfl)) (show (65536 : Int32) = i3 65536 from rfl) (by omega) (by omega) (by omega) (by omega)))
      subst e9
      refine wz_i1 (by rw [tsn]; rfl) ?_
      refine wz_i1 (by rw [tsn]; rfl) ?_
      refine wz_rko (rsn _) ?_
      have r29 := zI_k hZ14I 48 hb (((Z6 200 x0 0 2) / 16) % (max 1 x1)) 3 (lo := 0) (hi := 500) (by decide) rfl
      have r30 := zI_xr (n := x0) hZ23I
      have q31 := zu_at hZ23
      have r32 := z_mul (x := (Z14 48 hb (((Z6 200 x0 0 2) / 16) % (max 1 x1)) 3)) (y := (((Z23 200 x0 0 2) / 16) % 60)) (a := 500) (b := 59) (by omega) (by omega) (by omega) (by omega)
      obtain ⟨v33, hv33, c9, lv33, uv33, wv330⟩ := sp_71 (ν := ν) hZ23I hb (a1 := (((Z6 200 x0 0 2) / 16) % (max 1 x1))) (by omega) (a2 := x2) (by omega) (a3 := (200 + (50 * (((Z14 200 x0 0 2) / 16) % 40)))) (by omega) (a4 := (max 1 ((200 + (50 * (((Z14 200 x0 0 2) / 16) % 40))) - ((Z14 48 hb (((Z6 200 x0 0 2) / 16) % (max 1 x1)) 3) * (((Z23 200 x0 0 2) / 16) % 60))))) (by omega)
      replace hP := zl_e hP hv33
      refine wz_cI_of (zas (zcons rfl (zcons (zvi (i3R (i3D (zm_rd (Z := Z6) (ν := ν) (k := 200) (rfl : ((x0 : Nat) : Int) = x0) (show ((0 : Nat) : Int) = 0 from rfl) (show ((2 : Nat) : Int) = 2 from rfl)) (show (16 : Int32) = i3 16 from rfl) (by omega) (by omega) (by omega) (by omega)) (i3Mx (show (1 : Int32) = i3 1 from rfl) (rfl : i3 x1 = i3 x1) (by omega) (by omega) (by omega) (by omega)) (by omega) (by omega) (by omega) (by omega))) (zcons (zvi (rfl : i3 x2 = i3 x2)) (zcons (zvi (i3A (show (200 : Int32) = i3 200 from rfl) (i3M (show (50 : Int32) = i3 50 from rfl) (i3R (i3D (zm_rd (Z := Z14) (ν := ν) (k := 200) (rfl : ((x0 : Nat) : Int) = x0) (show ((0 : Nat) : Int) = 0 from rfl) (show ((2 : Nat) : Int) = 2 from rfl)) (show (16 : Int32) = i3 16 from rfl) (by omega) (by omega) (by omega) (by omega)) (show (40 : Int32) = i3 40 from rfl) (by omega) (by omega) (by omega) (by omega))))) (zcons (zvi (i3Mx (show (1 : Int32) = i3 1 from rfl) (i3S (i3A (show (200 : Int32) = i3 200 from rfl) (i3M (show (50 : Int32) = i3 50 from rfl) (i3R (i3D (zm_rd (Z := Z14) (ν := ν) (k := 200) (rfl : ((x0 : Nat) : Int) = x0) (show ((0 : Nat) : Int) = 0 from rfl) (show ((2 : Nat) : Int) = 2 from rfl)) (show (16 : Int32) = i3 16 from rfl) (by omega) (by omega) (by omega) (by omega)) (show (40 : Int32) = i3 40 from rfl) (by omega) (by omega) (by omega) (by omega)))) (i3M (zm_rd (Z := Z14) (ν := ν) (k := 48) (rfl : ((hb : Nat) : Int) = hb) (i3I (y := (((Z6 200 x0 0 2) / 16) % (max 1 x1))) (i3R (i3D (zm_rd (Z := Z6) (ν := ν) (k := 200) (rfl : ((x0 : Nat) : Int) = x0) (show ((0 : Nat) : Int) = 0 from rfl) (show ((2 : Nat) : Int) = 2 from rfl)) (show (16 : Int32) = i3 16 from rfl) (by omega) (by omega) (by omega) (by omega)) (i3Mx (show (1 : Int32) = i3 1 from rfl) (rfl : i3 x1 = i3 x1) (by omega) (by omega) (by omega) (by omega)) (by omega) (by omega) (by omega) (by omega)) (by omega) (by omega) (by omega)) (show ((3 : Nat) : Int) = 3 from rfl)) (i3R (i3D (zm_rd (Z := Z23) (ν := ν) (k := 200) (rfl : ((x0 : Nat) : Int) = x0) (show ((0 : Nat) : Int) = 0 from rfl) (show ((2 : Nat) : Int) = 2 from rfl)) (show (16 : Int32) = i3 16 from rfl) (by omega) (by omega) (by omega) (by omega)) (show (60 : Int32) = i3 60 from rfl) (by omega) (by omega) (by omega) (by omega)))) (by omega) (by omega) (by omega) (by omega))) rfl))))) c9) ?_
      clear c9
      refine wz_br (i3NE (rfl : i3 v33 = i3 v33) (show (0 : Int32) = i3 0 from rfl) (by omega) (by omega) (by omega) (by omega)) (fun h34 => ?_) (fun h34 => ?_)
      · replace hP := zE_p hP h34
        obtain ⟨m2, rfl⟩ : ∃ m2, m = m2 + 1 := ⟨m - 1, by omega⟩
        exact wz_k1 ⟨m2, by omega, Z23, (x2 + 1), (zconso rfl (zconso (zvo (rfl : i3 x1 = i3 x1)) (zconso (zvo (i3A (rfl : i3 x2 = i3 x2) (show (1 : Int32) = i3 1 from rfl))) (zconso rfl (zconso rfl (zconso rfl rfl)))))), rfl, hZ23I, hZ23K, by omega, by omega, by omega, by omega, by omega, by omega, by omega, by omega,  hP⟩
      · replace hP := zE_n hP h34
        refine wz_i1 (by rw [tsn]; rfl) ?_
        refine wz_rko (rsn _) ?_
        refine wz_i1 rfl ?_
        refine wz_rko (r := (28, _, _)) rfl ?_
        refine wz_i1 rfl ?_
        refine wz_i0 (i3O (n := 2) (i3R (i3D (zm_rd (Z := Z6) (ν := ν) (k := 200) (rfl : ((x0 : Nat) : Int) = x0) (show ((0 : Nat) : Int) = 0 from rfl) (show ((2 : Nat) : Int) = 2 from rfl)) (show (16 : Int32) = i3 16 from rfl) (by omega) (by omega) (by omega) (by omega)) (i3Mx (show (1 : Int32) = i3 1 from rfl) (rfl : i3 x1 = i3 x1) (by omega) (by omega) (by omega) (by omega)) (by omega) (by omega) (by omega) (by omega)) (by omega) (by omega) (by omega)) ?_
        refine wz_rko (r := (48, _, _)) rfl ?_
        refine wz_i1 rfl ?_
        refine wz_i0 (i3O (n := 12) (show (5 : Int32) = i3 5 from rfl) (by omega) (by omega) (by omega)) ?_
        refine wz_i1 rfl ?_
        refine wz_rko (r := (24, _, _)) rfl ?_
        refine wz_i1 rfl ?_
        refine wz_i0 (i3O (n := 48) (rfl : i3 x2 = i3 x2) (by omega) (by omega) (by omega)) ?_
        refine wz_rko (r := (44, _, _)) rfl ?_
        refine wz_i1 rfl ?_
        refine wz_i0 (i3O (n := 16) (show (10 : Int32) = i3 10 from rfl) (by omega) (by omega) (by omega)) ?_
        obtain ⟨Z35, hZ35⟩ := zx (zu Z23 44 hb x2 10 1)
        replace hP := zl_e hP hZ35
        have hZ35I := zI_u hZ23I hZ35 (lo := 0) (hi := 4) (by decide) rfl (by omega) ⟨by decide, by decide⟩ (Or.inl (by decide))
        have t36 : Z35 11 hb 0 3 = Z23 11 hb 0 3 := zu_ne hZ35 (fun q => absurd q.1 (by decide))
        have t37 : Z35 11 hb 0 8 = Z23 11 hb 0 8 := zu_ne hZ35 (fun q => absurd q.1 (by decide))
        have t38 : Z35 11 hb 0 9 = Z23 11 hb 0 9 := zu_ne hZ35 (fun q => absurd q.1 (by decide))
        have t39 : Z35 200 0 0 1 = Z23 200 0 0 1 := zu_ne hZ35 (fun q => absurd q.1 (by decide))
        have t40 : Z35 200 0 0 2 = Z23 200 0 0 2 := zu_ne hZ35 (fun q => absurd q.1 (by decide))
        have hZ35K := zK_u hZ23K hZ35 (by decide)
        intro μ9 e9
        replace e9 := e9.trans (zm_wI (Z := Z23) (ν := ν) hZ35 (rfl : ((hb : Nat) : Int) = hb) (i3I (y := x2) (rfl : i3 x2 = i3 x2) (by omega) (by omega) (by omega)) (show ((10 : Nat) : Int) = 10 from rfl) (show (1 : Int32) = i3 1 from rfl))
        subst e9
        refine wz_i1 rfl ?_
        refine wz_rko (r := (29, _, _)) rfl ?_
        refine wz_i1 rfl ?_
        have r41 := zI_k hZ23I 48 hb (((Z6 200 x0 0 2) / 16) % (max 1 x1)) 5 (lo := 0) (hi := 12) (by decide) rfl
        refine wz_i0 (i3O (n := 24) (i3A (i3M (i3R (i3D (zm_rd (Z := Z6) (ν := ν) (k := 200) (rfl : ((x0 : Nat) : Int) = x0) (show ((0 : Nat) : Int) = 0 from rfl) (show ((2 : Nat) : Int) = 2 from rfl)) (show (16 : Int32) = i3 16 from rfl) (by omega) (by omega) (by omega) (by omega)) (i3Mx (show (1 : Int32) = i3 1 from rfl) (rfl : i3 x1 = i3 x1) (by omega) (by omega) (by omega) (by omega)) (by omega) (by omega) (by omega) (by omega)) (show (12 : Int32) = i3 12 from rfl)) (zm_rd (Z := Z23) (ν := ν) (k := 48) (rfl : ((hb : Nat) : Int) = hb) (i3I (y := (((Z6 200 x0 0 2) / 16) % (max 1 x1))) (i3R (i3D (zm_rd (Z := Z6) (ν := ν) (k := 200) (rfl : ((x0 : Nat) : Int) = x0) (show ((0 : Nat) : Int) = 0 from rfl) (show ((2 : Nat) : Int) = 2 from rfl)) (show (16 : Int32) = i3 16 from rfl) (by omega) (by omega) (by omega) (by omega)) (i3Mx (show (1 : Int32) = i3 1 from rfl) (rfl : i3 x1 = i3 x1) (by omega) (by omega) (by omega) (by omega)) (by omega) (by omega) (by omega) (by omega)) (by omega) (by omega) (by omega)) (show ((5 : Nat) : Int) = 5 from rfl))) (by omega) (by omega) (by omega)) ?_
        refine wz_rko (r := (49, _, _)) rfl ?_
        refine wz_i1 rfl ?_
        refine wz_i0 (i3O (n := 3) (show (0 : Int32) = i3 0 from rfl) (by omega) (by omega) (by omega)) ?_
        obtain ⟨Z42, hZ42⟩ := zx (zu Z35 49 hb (12 * (((Z6 200 x0 0 2) / 16) % (max 1 x1)) + (Z23 48 hb (((Z6 200 x0 0 2) / 16) % (max 1 x1)) 5)) 0 x2)
        replace hP := zl_e hP hZ42
        have hZ42I := zI_u hZ35I hZ42 (lo := 0) (hi := 47) (by decide) rfl (by omega) ⟨by decide, by decide⟩ (Or.inl (by decide))
        have t43 : Z42 11 hb 0 3 = Z35 11 hb 0 3 := zu_ne hZ42 (fun q => absurd q.1 (by decide))
        have t44 : Z42 11 hb 0 8 = Z35 11 hb 0 8 := zu_ne hZ42 (fun q => absurd q.1 (by decide))
        have t45 : Z42 11 hb 0 9 = Z35 11 hb 0 9 := zu_ne hZ42 (fun q => absurd q.1 (by decide))
        have t46 : Z42 200 0 0 1 = Z35 200 0 0 1 := zu_ne hZ42 (fun q => absurd q.1 (by decide))
        have t47 : Z42 200 0 0 2 = Z35 200 0 0 2 := zu_ne hZ42 (fun q => absurd q.1 (by decide))
        have hZ42K := zK_u hZ35K hZ42 (by decide)
        intro μ9 e9
        replace e9 := e9.trans (zm_wI (Z := Z35) (ν := ν) hZ42 (rfl : ((hb : Nat) : Int) = hb) (i3I (y := (12 * (((Z6 200 x0 0 2) / 16) % (max 1 x1)) + (Z23 48 hb (((Z6 200 x0 0 2) / 16) % (max 1 x1)) 5))) (i3A (i3M (i3R (i3D (zm_rd (Z := Z6) (ν := ν) (k := 200) (rfl : ((x0 : Nat) : Int) = x0) (show ((0 : Nat) : Int) = 0 from rfl) (show ((2 : Nat) : Int) = 2 from rfl)) (show (16 : Int32) = i3 16 from rfl) (by omega) (by omega) (by omega) (by omega)) (i3Mx (show (1 : Int32) = i3 1 from rfl) (rfl : i3 x1 = i3 x1) (by omega) (by omega) (by omega) (by omega)) (by omega) (by omega) (by omega) (by omega)) (show (12 : Int32) = i3 12 from rfl)) (zm_rd (Z := Z23) (ν := ν) (k := 48) (rfl : ((hb : Nat) : Int) = hb) (i3I (y := (((Z6 200 x0 0 2) / 16) % (max 1 x1))) (i3R (i3D (zm_rd (Z := Z6) (ν := ν) (k := 200) (rfl : ((x0 : Nat) : Int) = x0) (show ((0 : Nat) : Int) = 0 from rfl) (show ((2 : Nat) : Int) = 2 from rfl)) (show (16 : Int32) = i3 16 from rfl) (by omega) (by omega) (by omega) (by omega)) (i3Mx (show (1 : Int32) = i3 1 from rfl) (rfl : i3 x1 = i3 x1) (by omega) (by omega) (by omega) (by omega)) (by omega) (by omega) (by omega) (by omega)) (by omega) (by omega) (by omega)) (show ((5 : Nat) : Int) = 5 from rfl))) (by omega) (by omega) (by omega)) (show ((0 : Nat) : Int) = 0 from rfl) (rfl : i3 x2 = i3 x2))
        subst e9
        refine wz_i1 rfl ?_
        refine wz_rko (r := (29, _, _)) rfl ?_
        refine wz_i1 rfl ?_
        refine wz_i0 (i3O (n := 24) (i3A (i3M (i3R (i3D (zm_rd (Z := Z6) (ν := ν) (k := 200) (rfl : ((x0 : Nat) : Int) = x0) (show ((0 : Nat) : Int) = 0 from rfl) (show ((2 : Nat) : Int) = 2 from rfl)) (show (16 : Int32) = i3 16 from rfl) (by omega) (by omega) (by omega) (by omega)) (i3Mx (show (1 : Int32) = i3 1 from rfl) (rfl : i3 x1 = i3 x1) (by omega) (by omega) (by omega) (by omega)) (by omega) (by omega) (by omega) (by omega)) (show (12 : Int32) = i3 12 from rfl)) (zm_rd (Z := Z23) (ν := ν) (k := 48) (rfl : ((hb : Nat) : Int) = hb) (i3I (y := (((Z6 200 x0 0 2) / 16) % (max 1 x1))) (i3R (i3D (zm_rd (Z := Z6) (ν := ν) (k := 200) (rfl : ((x0 : Nat) : Int) = x0) (show ((0 : Nat) : Int) = 0 from rfl) (show ((2 : Nat) : Int) = 2 from rfl)) (show (16 : Int32) = i3 16 from rfl) (by omega) (by omega) (by omega) (by omega)) (i3Mx (show (1 : Int32) = i3 1 from rfl) (rfl : i3 x1 = i3 x1) (by omega) (by omega) (by omega) (by omega)) (by omega) (by omega) (by omega) (by omega)) (by omega) (by omega) (by omega)) (show ((5 : Nat) : Int) = 5 from rfl))) (by omega) (by omega) (by omega)) ?_
        refine wz_rko (r := (49, _, _)) rfl ?_
        refine wz_i1 rfl ?_
        refine wz_i0 (i3O (n := 3) (show (1 : Int32) = i3 1 from rfl) (by omega) (by omega) (by omega)) ?_
        obtain ⟨Z48, hZ48⟩ := zx (zu Z42 49 hb (12 * (((Z6 200 x0 0 2) / 16) % (max 1 x1)) + (Z23 48 hb (((Z6 200 x0 0 2) / 16) % (max 1 x1)) 5)) 1 (200 + (50 * (((Z14 200 x0 0 2) / 16) % 40))))
        replace hP := zl_e hP hZ48
        have hZ48I := zI_u hZ42I hZ48 (lo := 0) (hi := 9999) (by decide) rfl (by omega) ⟨by decide, by decide⟩ (Or.inl (by decide))
        have t49 : Z48 11 hb 0 3 = Z42 11 hb 0 3 := zu_ne hZ48 (fun q => absurd q.1 (by decide))
        have t50 : Z48 11 hb 0 8 = Z42 11 hb 0 8 := zu_ne hZ48 (fun q => absurd q.1 (by decide))
        have t51 : Z48 11 hb 0 9 = Z42 11 hb 0 9 := zu_ne hZ48 (fun q => absurd q.1 (by decide))
        have t52 : Z48 200 0 0 1 = Z42 200 0 0 1 := zu_ne hZ48 (fun q => absurd q.1 (by decide))
        have t53 : Z48 200 0 0 2 = Z42 200 0 0 2 := zu_ne hZ48 (fun q => absurd q.1 (by decide))
        have hZ48K := zK_u hZ42K hZ48 (by decide)
        intro μ9 e9
        replace e9 := e9.trans (zm_wI (Z := Z42) (ν := ν) hZ48 (rfl : ((hb : Nat) : Int) = hb) (i3I (y := (12 * (((Z6 200 x0 0 2) / 16) % (max 1 x1)) + (Z23 48 hb (((Z6 200 x0 0 2) / 16) % (max 1 x1)) 5))) (i3A (i3M (i3R (i3D (zm_rd (Z := Z6) (ν := ν) (k := 200) (rfl : ((x0 : Nat) : Int) = x0) (show ((0 : Nat) : Int) = 0 from rfl) (show ((2 : Nat) : Int) = 2 from rfl)) (show (16 : Int32) = i3 16 from rfl) (by omega) (by omega) (by omega) (by omega)) (i3Mx (show (1 : Int32) = i3 1 from rfl) (rfl : i3 x1 = i3 x1) (by omega) (by omega) (by omega) (by omega)) (by omega) (by omega) (by omega) (by omega)) (show (12 : Int32) = i3 12 from rfl)) (zm_rd (Z := Z23) (ν := ν) (k := 48) (rfl : ((hb : Nat) : Int) = hb) (i3I (y := (((Z6 200 x0 0 2) / 16) % (max 1 x1))) (i3R (i3D (zm_rd (Z := Z6) (ν := ν) (k := 200) (rfl : ((x0 : Nat) : Int) = x0) (show ((0 : Nat) : Int) = 0 from rfl) (show ((2 : Nat) : Int) = 2 from rfl)) (show (16 : Int32) = i3 16 from rfl) (by omega) (by omega) (by omega) (by omega)) (i3Mx (show (1 : Int32) = i3 1 from rfl) (rfl : i3 x1 = i3 x1) (by omega) (by omega) (by omega) (by omega)) (by omega) (by omega) (by omega) (by omega)) (by omega) (by omega) (by omega)) (show ((5 : Nat) : Int) = 5 from rfl))) (by omega) (by omega) (by omega)) (show ((1 : Nat) : Int) = 1 from rfl) (i3A (show (200 : Int32) = i3 200 from rfl) (i3M (show (50 : Int32) = i3 50 from rfl) (i3R (i3D (zm_rd (Z := Z14) (ν := ν) (k := 200) (rfl : ((x0 : Nat) : Int) = x0) (show ((0 : Nat) : Int) = 0 from rfl) (show ((2 : Nat) : Int) = 2 from rfl)) (show (16 : Int32) = i3 16 from rfl) (by omega) (by omega) (by omega) (by omega)) (show (40 : Int32) = i3 40 from rfl) (by omega) (by omega) (by omega) (by omega)))))
        subst e9
        refine wz_i1 rfl ?_
        refine wz_rko (r := (29, _, _)) rfl ?_
        refine wz_i1 rfl ?_
        refine wz_i0 (i3O (n := 24) (i3A (i3M (i3R (i3D (zm_rd (Z := Z6) (ν := ν) (k := 200) (rfl : ((x0 : Nat) : Int) = x0) (show ((0 : Nat) : Int) = 0 from rfl) (show ((2 : Nat) : Int) = 2 from rfl)) (show (16 : Int32) = i3 16 from rfl) (by omega) (by omega) (by omega) (by omega)) (i3Mx (show (1 : Int32) = i3 1 from rfl) (rfl : i3 x1 = i3 x1) (by omega) (by omega) (by omega) (by omega)) (by omega) (by omega) (by omega) (by omega)) (show (12 : Int32) = i3 12 from rfl)) (zm_rd (Z := Z23) (ν := ν) (k := 48) (rfl : ((hb : Nat) : Int) = hb) (i3I (y := (((Z6 200 x0 0 2) / 16) % (max 1 x1))) (i3R (i3D (zm_rd (Z := Z6) (ν := ν) (k := 200) (rfl : ((x0 : Nat) : Int) = x0) (show ((0 : Nat) : Int) = 0 from rfl) (show ((2 : Nat) : Int) = 2 from rfl)) (show (16 : Int32) = i3 16 from rfl) (by omega) (by omega) (by omega) (by omega)) (i3Mx (show (1 : Int32) = i3 1 from rfl) (rfl : i3 x1 = i3 x1) (by omega) (by omega) (by omega) (by omega)) (by omega) (by omega) (by omega) (by omega)) (by omega) (by omega) (by omega)) (show ((5 : Nat) : Int) = 5 from rfl))) (by omega) (by omega) (by omega)) ?_
        refine wz_rko (r := (49, _, _)) rfl ?_
        refine wz_i1 rfl ?_
        refine wz_i0 (i3O (n := 3) (show (2 : Int32) = i3 2 from rfl) (by omega) (by omega) (by omega)) ?_
        obtain ⟨Z54, hZ54⟩ := zx (zu Z48 49 hb (12 * (((Z6 200 x0 0 2) / 16) % (max 1 x1)) + (Z23 48 hb (((Z6 200 x0 0 2) / 16) % (max 1 x1)) 5)) 2 (max 1 ((200 + (50 * (((Z14 200 x0 0 2) / 16) % 40))) - ((Z14 48 hb (((Z6 200 x0 0 2) / 16) % (max 1 x1)) 3) * (((Z23 200 x0 0 2) / 16) % 60)))))
        replace hP := zl_e hP hZ54
        have hZ54I := zI_u hZ48I hZ54 (lo := 0) (hi := 9999) (by decide) rfl (by omega) ⟨by decide, by decide⟩ (Or.inl (by decide))
        have t55 : Z54 11 hb 0 3 = Z48 11 hb 0 3 := zu_ne hZ54 (fun q => absurd q.1 (by decide))
        have t56 : Z54 11 hb 0 8 = Z48 11 hb 0 8 := zu_ne hZ54 (fun q => absurd q.1 (by decide))
        have t57 : Z54 11 hb 0 9 = Z48 11 hb 0 9 := zu_ne hZ54 (fun q => absurd q.1 (by decide))
        have t58 : Z54 200 0 0 1 = Z48 200 0 0 1 := zu_ne hZ54 (fun q => absurd q.1 (by decide))
        have t59 : Z54 200 0 0 2 = Z48 200 0 0 2 := zu_ne hZ54 (fun q => absurd q.1 (by decide))
        have hZ54K := zK_u hZ48K hZ54 (by decide)
        intro μ9 e9
        replace e9 := e9.trans (zm_wI (Z := Z48) (ν := ν) hZ54 (rfl : ((hb : Nat) : Int) = hb) (i3I (y := (12 * (((Z6 200 x0 0 2) / 16) % (max 1 x1)) + (Z23 48 hb (((Z6 200 x0 0 2) / 16) % (max 1 x1)) 5))) (i3A (i3M (i3R (i3D (zm_rd (Z := Z6) (ν := ν) (k := 200) (rfl : ((x0 : Nat) : Int) = x0) (show ((0 : Nat) : Int) = 0 from rfl) (show ((2 : Nat) : Int) = 2 from rfl)) (show (16 : Int32) = i3 16 from rfl) (by omega) (by omega) (by omega) (by omega)) (i3Mx (show (1 : Int32) = i3 1 from rfl) (rfl : i3 x1 = i3 x1) (by omega) (by omega) (by omega) (by omega)) (by omega) (by omega) (by omega) (by omega)) (show (12 : Int32) = i3 12 from rfl)) (zm_rd (Z := Z23) (ν := ν) (k := 48) (rfl : ((hb : Nat) : Int) = hb) (i3I (y := (((Z6 200 x0 0 2) / 16) % (max 1 x1))) (i3R (i3D (zm_rd (Z := Z6) (ν := ν) (k := 200) (rfl : ((x0 : Nat) : Int) = x0) (show ((0 : Nat) : Int) = 0 from rfl) (show ((2 : Nat) : Int) = 2 from rfl)) (show (16 : Int32) = i3 16 from rfl) (by omega) (by omega) (by omega) (by omega)) (i3Mx (show (1 : Int32) = i3 1 from rfl) (rfl : i3 x1 = i3 x1) (by omega) (by omega) (by omega) (by omega)) (by omega) (by omega) (by omega) (by omega)) (by omega) (by omega) (by omega)) (show ((5 : Nat) : Int) = 5 from rfl))) (by omega) (by omega) (by omega)) (show ((2 : Nat) : Int) = 2 from rfl) (i3Mx (show (1 : Int32) = i3 1 from rfl) (i3S (i3A (show (200 : Int32) = i3 200 from rfl) (i3M (show (50 : Int32) = i3 50 from rfl) (i3R (i3D (zm_rd (Z := Z14) (ν := ν) (k := 200) (rfl : ((x0 : Nat) : Int) = x0) (show ((0 : Nat) : Int) = 0 from rfl) (show ((2 : Nat) : Int) = 2 from rfl)) (show (16 : Int32) = i3 16 from rfl) (by omega) (by omega) (by omega) (by omega)) (show (40 : Int32) = i3 40 from rfl) (by omega) (by omega) (by omega) (by omega)))) (i3M (zm_rd (Z := Z14) (ν := ν) (k := 48) (rfl : ((hb : Nat) : Int) = hb) (i3I (y := (((Z6 200 x0 0 2) / 16) % (max 1 x1))) (i3R (i3D (zm_rd (Z := Z6) (ν := ν) (k := 200) (rfl : ((x0 : Nat) : Int) = x0) (show ((0 : Nat) : Int) = 0 from rfl) (show ((2 : Nat) : Int) = 2 from rfl)) (show (16 : Int32) = i3 16 from rfl) (by omega) (by omega) (by omega) (by omega)) (i3Mx (show (1 : Int32) = i3 1 from rfl) (rfl : i3 x1 = i3 x1) (by omega) (by omega) (by omega) (by omega)) (by omega) (by omega) (by omega) (by omega)) (by omega) (by omega) (by omega)) (show ((3 : Nat) : Int) = 3 from rfl)) (i3R (i3D (zm_rd (Z := Z23) (ν := ν) (k := 200) (rfl : ((x0 : Nat) : Int) = x0) (show ((0 : Nat) : Int) = 0 from rfl) (show ((2 : Nat) : Int) = 2 from rfl)) (show (16 : Int32) = i3 16 from rfl) (by omega) (by omega) (by omega) (by omega)) (show (60 : Int32) = i3 60 from rfl) (by omega) (by omega) (by omega) (by omega)))) (by omega) (by omega) (by omega) (by omega)))
        subst e9
        refine wz_i1 rfl ?_
        refine wz_rko (r := (28, _, _)) rfl ?_
        refine wz_i1 rfl ?_
        refine wz_i0 (i3O (n := 2) (i3R (i3D (zm_rd (Z := Z6) (ν := ν) (k := 200) (rfl : ((x0 : Nat) : Int) = x0) (show ((0 : Nat) : Int) = 0 from rfl) (show ((2 : Nat) : Int) = 2 from rfl)) (show (16 : Int32) = i3 16 from rfl) (by omega) (by omega) (by omega) (by omega)) (i3Mx (show (1 : Int32) = i3 1 from rfl) (rfl : i3 x1 = i3 x1) (by omega) (by omega) (by omega) (by omega)) (by omega) (by omega) (by omega) (by omega)) (by omega) (by omega) (by omega)) ?_
        refine wz_rko (r := (48, _, _)) rfl ?_
        refine wz_i1 rfl ?_
        refine wz_i0 (i3O (n := 12) (show (5 : Int32) = i3 5 from rfl) (by omega) (by omega) (by omega)) ?_
        refine wz_i1 rfl ?_
        refine wz_i0 (i3O (n := 12) (show (5 : Int32) = i3 5 from rfl) (by omega) (by omega) (by omega)) ?_
        have r60 := zI_k hZ54I 48 hb (((Z6 200 x0 0 2) / 16) % (max 1 x1)) 5 (lo := 0) (hi := 12) (by decide) rfl
        have q61 := (zu_ne (k' := 48) (b' := hb) (i' := (((Z6 200 x0 0 2) / 16) % (max 1 x1))) (j' := 5) hZ54 (fun q => absurd q.1 (by decide))).trans ((zu_ne (k' := 48) (b' := hb) (i' := (((Z6 200 x0 0 2) / 16) % (max 1 x1))) (j' := 5) hZ48 (fun q => absurd q.1 (by decide))).trans ((zu_ne (k' := 48) (b' := hb) (i' := (((Z6 200 x0 0 2) / 16) % (max 1 x1))) (j' := 5) hZ42 (fun q => absurd q.1 (by decide))).trans (zu_ne (k' := 48) (b' := hb) (i' := (((Z6 200 x0 0 2) / 16) % (max 1 x1))) (j' := 5) hZ35 (fun q => absurd q.1 (by decide)))))
        obtain ⟨Z62, hZ62⟩ := zx (zu Z54 48 hb (((Z6 200 x0 0 2) / 16) % (max 1 x1)) 5 ((Z54 48 hb (((Z6 200 x0 0 2) / 16) % (max 1 x1)) 5) + 1))
        replace hP := zl_e hP hZ62
        have hZ62I := zI_u hZ54I hZ62 (lo := 0) (hi := 12) (by decide) rfl (by omega) ⟨by decide, by decide⟩ (Or.inl (by decide))
        have t63 : Z62 11 hb 0 3 = Z54 11 hb 0 3 := zu_ne hZ62 (fun q => absurd q.1 (by decide))
        have t64 : Z62 11 hb 0 8 = Z54 11 hb 0 8 := zu_ne hZ62 (fun q => absurd q.1 (by decide))
        have t65 : Z62 11 hb 0 9 = Z54 11 hb 0 9 := zu_ne hZ62 (fun q => absurd q.1 (by decide))
        have t66 : Z62 200 0 0 1 = Z54 200 0 0 1 := zu_ne hZ62 (fun q => absurd q.1 (by decide))
        have t67 : Z62 200 0 0 2 = Z54 200 0 0 2 := zu_ne hZ62 (fun q => absurd q.1 (by decide))
        have hZ62K := zK_u hZ54K hZ62 (by decide)
        intro μ9 e9
        replace e9 := e9.trans (zm_wI (Z := Z54) (ν := ν) hZ62 (rfl : ((hb : Nat) : Int) = hb) (i3I (y := (((Z6 200 x0 0 2) / 16) % (max 1 x1))) (i3R (i3D (zm_rd (Z := Z6) (ν := ν) (k := 200) (rfl : ((x0 : Nat) : Int) = x0) (show ((0 : Nat) : Int) = 0 from rfl) (show ((2 : Nat) : Int) = 2 from rfl)) (show (16 : Int32) = i3 16 from rfl) (by omega) (by omega) (by omega) (by omega)) (i3Mx (show (1 : Int32) = i3 1 from rfl) (rfl : i3 x1 = i3 x1) (by omega) (by omega) (by omega) (by omega)) (by omega) (by omega) (by omega) (by omega)) (by omega) (by omega) (by omega)) (show ((5 : Nat) : Int) = 5 from rfl) (i3A (zm_rd (Z := Z54) (ν := ν) (k := 48) (rfl : ((hb : Nat) : Int) = hb) (i3I (y := (((Z6 200 x0 0 2) / 16) % (max 1 x1))) (i3R (i3D (zm_rd (Z := Z6) (ν := ν) (k := 200) (rfl : ((x0 : Nat) : Int) = x0) (show ((0 : Nat) : Int) = 0 from rfl) (show ((2 : Nat) : Int) = 2 from rfl)) (show (16 : Int32) = i3 16 from rfl) (by omega) (by omega) (by omega) (by omega)) (i3Mx (show (1 : Int32) = i3 1 from rfl) (rfl : i3 x1 = i3 x1) (by omega) (by omega) (by omega) (by omega)) (by omega) (by omega) (by omega) (by omega)) (by omega) (by omega) (by omega)) (show ((5 : Nat) : Int) = 5 from rfl)) (show (1 : Int32) = i3 1 from rfl)))
        subst e9
        obtain ⟨m2, rfl⟩ : ∃ m2, m = m2 + 1 := ⟨m - 1, by omega⟩
        exact wz_k1 ⟨m2, by omega, Z62, (x2 + 1), (zconso rfl (zconso (zvo (rfl : i3 x1 = i3 x1)) (zconso (zvo (i3A (rfl : i3 x2 = i3 x2) (show (1 : Int32) = i3 1 from rfl))) (zconso rfl (zconso rfl (zconso rfl rfl)))))), rfl, hZ62I, hZ62K, by omega, by omega, by omega, by omega, by omega, by omega, by omega, by omega,  hP⟩

/- yX8_tellClocks -/
def zf_147 (Z : qz_Z) (sn hb : Int) : qz_Z := (if (Z 200 sn 0 1) ≤ 3 then (zlet2 (zl_147_1 sn hb 1 3 Z 0) (fun Z4 y3 => (zlet2 (zl_147_2 sn hb 1 49 Z4 0) (fun Z7 y6 => Z7)))) else (zlet2 (zl_147_1 sn hb 2 3 Z 0) (fun Z10 y9 => (zlet2 (zl_147_2 sn hb 2 49 Z10 0) (fun Z13 y12 => Z13)))))
theorem sp_147 {Z : qz_Z} {ν : qz_N} {sn : Nat} (hZ : zI (some (some (sn : Int))) Z) (hb : Nat) (tsn : ∀ Z, qz_tag (zm Z ν) (200, sn, 0) = 2) (rsn : ∀ Z, qz_rm (zm Z ν) 200 sn 0 0 = some (10, hb, 0)) (gx0 : Z 11 hb 0 7 = 0) (gx1 : 1 ≤ (sn : Int)) : ∃ P : qz_Z, P = zf_147 Z sn hb ∧ (qf_147 [.inr (.inr (some (200, sn, 0)))] (zm Z ν) = some (zm P ν, .inl none) ∧ zI (some (some (sn : Int))) P ∧ zK [11, 44, 48, 49, 200] Z P ∧ P 11 hb 0 3 = Z 11 hb 0 3 ∧ P 11 hb 0 8 = Z 11 hb 0 8 ∧ P 11 hb 0 9 = Z 11 hb 0 9 ∧ P 200 0 0 1 = Z 200 0 0 1 ∧ P 200 0 0 2 = Z 200 0 0 2) := by
  obtain ⟨P, hP⟩ := zx (zf_147 Z sn hb)
  refine zc_V (Q := fun P => zI (some (some (sn : Int))) P ∧ zK [11, 44, 48, 49, 200] Z P ∧ P 11 hb 0 3 = Z 11 hb 0 3 ∧ P 11 hb 0 8 = Z 11 hb 0 8 ∧ P 11 hb 0 9 = Z 11 hb 0 9 ∧ P 200 0 0 1 = Z 200 0 0 1 ∧ P 200 0 0 2 = Z 200 0 0 2) hP (fw_147 sn _ _ ?_)
  replace hP : zE P (zf_147 Z sn hb) := hP
  unfold zf_147 at hP
  have rs := zI_xs (n := sn) hZ
  refine wz_i1 (by rw [tsn]; rfl) ?_
  have r1 := zI_xs (n := sn) hZ
  refine wz_br (i3Le (zm_rd (Z := Z) (ν := ν) (k := 200) (rfl : ((sn : Nat) : Int) = sn) (show ((0 : Nat) : Int) = 0 from rfl) (show ((1 : Nat) : Int) = 1 from rfl)) (show (3 : Int32) = i3 3 from rfl) (by omega) (by omega) (by omega) (by omega)) (fun h2 => ?_) (fun h2 => ?_)
  · replace hP := zE_p hP h2
    refine sl_147_1 (ν := ν) sn hZ zK_r hb tsn rsn (x1 := 1) (by omega) (x2 := 0) (by omega) (kc4 := Z 200 0 0 2) (kc3 := Z 200 0 0 1) (kc2 := Z 11 hb 0 9) (kc1 := Z 11 hb 0 8) (kc0 := Z 11 hb 0 3) (by omega) (by omega) (by omega) (by omega) (by omega) (by omega) (by omega) (zconso rfl (zconso (zvo (show (1 : Int32) = i3 1 from rfl)) (zconso (zvo (show (0 : Int32) = i3 0 from rfl)) (zconso rfl (zconso rfl (zconso rfl rfl)))))) rfl ?_
    intro L5 Z4 y3 hL5 hZ4I kZ4 gy3 gL5_0 gL5_1 gL5_2 gL5_3 gL5_4 gL5_5 gL5_6 q9
    replace hP := zl_e2 hP (Eq.symm q9)
    clear q9
    have hZ4K : zK [11, 44, 48, 49, 200] Z Z4 := zK_t zK_r kZ4 (by decide)
    refine fc_147_4 _ (i3 1) _ _ _ _ hL5 ?_
    refine sl_147_2 (ν := ν) sn hZ4I zK_r hb tsn rsn (x1 := 1) (by omega) (x2 := 0) (by omega) (kc4 := Z4 200 0 0 2) (kc3 := Z4 200 0 0 1) (kc2 := Z4 11 hb 0 9) (kc1 := Z4 11 hb 0 8) (kc0 := Z4 11 hb 0 3) (by omega) (by omega) (by omega) (by omega) (by omega) (by omega) (zconso rfl (zconso (zvo (rfl : i3 1 = i3 1)) (zconso (zvo (show (0 : Int32) = i3 0 from rfl)) (zconso rfl (zconso rfl (zconso rfl rfl)))))) rfl ?_
    intro L8 Z7 y6 hL8 hZ7I kZ7 gy6 gL8_0 gL8_1 gL8_2 gL8_3 gL8_4 gL8_5 q9
    replace hP := zl_e2 hP (Eq.symm q9)
    clear q9
    have hZ7K : zK [11, 44, 48, 49, 200] Z Z7 := zK_t hZ4K kZ7 (by decide)
    refine fc_147_3  _ _ _ _ hL8 ?_
    exact zlV hP ⟨hZ7I, hZ7K, by omega, by omega, by omega, by omega, by omega⟩
  · replace hP := zE_n hP h2
    refine sl_147_1 (ν := ν) sn hZ zK_r hb tsn rsn (x1 := 2) (by omega) (x2 := 0) (by omega) (kc4 := Z 200 0 0 2) (kc3 := Z 200 0 0 1) (kc2 := Z 11 hb 0 9) (kc1 := Z 11 hb 0 8) (kc0 := Z 11 hb 0 3) (by omega) (by omega) (by omega) (by omega) (by omega) (by omega) (by omega) (zconso rfl (zconso (zvo (show (2 : Int32) = i3 2 from rfl)) (zconso (zvo (show (0 : Int32) = i3 0 from rfl)) (zconso rfl (zconso rfl (zconso rfl rfl)))))) rfl ?_
    intro L11 Z10 y9 hL11 hZ10I kZ10 gy9 gL11_0 gL11_1 gL11_2 gL11_3 gL11_4 gL11_5 gL11_6 q9
    replace hP := zl_e2 hP (Eq.symm q9)
    clear q9
    have hZ10K : zK [11, 44, 48, 49, 200] Z Z10 := zK_t zK_r kZ10 (by decide)
    refine fc_147_4 _ (i3 2) _ _ _ _ hL11 ?_
    refine sl_147_2 (ν := ν) sn hZ10I zK_r hb tsn rsn (x1 := 2) (by omega) (x2 := 0) (by omega) (kc4 := Z10 200 0 0 2) (kc3 := Z10 200 0 0 1) (kc2 := Z10 11 hb 0 9) (kc1 := Z10 11 hb 0 8) (kc0 := Z10 11 hb 0 3) (by omega) (by omega) (by omega) (by omega) (by omega) (by omega) (zconso rfl (zconso (zvo (rfl : i3 2 = i3 2)) (zconso (zvo (show (0 : Int32) = i3 0 from rfl)) (zconso rfl (zconso rfl (zconso rfl rfl)))))) rfl ?_
    intro L14 Z13 y12 hL14 hZ13I kZ13 gy12 gL14_0 gL14_1 gL14_2 gL14_3 gL14_4 gL14_5 q9
    replace hP := zl_e2 hP (Eq.symm q9)
    clear q9
    have hZ13K : zK [11, 44, 48, 49, 200] Z Z13 := zK_t hZ10K kZ13 (by decide)
    refine fc_147_3  _ _ _ _ hL14 ?_
    exact zlV hP ⟨hZ13I, hZ13K, by omega, by omega, by omega, by omega, by omega⟩

/- yX8_tellCarriers -/
def zl_146_1 (x0 : Int) (hb : Int) (x1 : Int) : Nat → qz_Z → Int → qz_Z × Int
  | 0, Z, x2 => (Z, x2)
  | m + 1, Z, x2 => (if 5 < x2 then (Z, x2) else (zlet (zu Z 200 x0 0 2 (((25173 * (Z 200 x0 0 2)) + 13849) % 65536)) (fun Z3 => (zlet (zu Z3 40 hb x1 x2 (1 + (((Z3 200 x0 0 2) / 16) % 12))) (fun Z11 => (zlet (zu Z11 40 hb x2 x1 (1 + (((Z3 200 x0 0 2) / 16) % 12))) (fun Z17 => zl_146_1 x0 hb x1 m Z17 (x2 + 1))))))))
theorem sl_146_1 {Zs Z : qz_Z} {ν : qz_N} (x0 : Nat) (hZ : zI (some (some (x0 : Int))) Z) (hK : zK [40, 200] Zs Z) (hb : Nat) (tsn : ∀ Z, qz_tag (zm Z ν) (200, x0, 0) = 2) (rsn : ∀ Z, qz_rm (zm Z ν) 200 x0 0 0 = some (10, hb, 0)) {x1 : Int} (gx1 : 0 ≤ x1 ∧ x1 ≤ 5) {x2 : Int} (gx2 : 1 ≤ x2 ∧ x2 ≤ 6) {kc0 : Int} {kc1 : Int} {kc2 : Int} {kc3 : Int} {kc4 : Int} (gr0 : 1 ≤ (x0 : Int)) (gr1 : Z 11 hb 0 3 = kc0) (gr2 : Z 11 hb 0 8 = kc1) (gr3 : Z 11 hb 0 9 = kc2) (gr4 : Z 200 0 0 1 = kc3) (gr5 : Z 200 0 0 2 = kc4) {k : wz_K} {R : wz_R} {L : qz_L} (hL : qz_fg [true, true, true] L = [some (.inr (.inr (some (200, x0, 0)))), some (.inl (i3 x1)), some (.inl (i3 x2))]) {T : qz_Z × Int} (hP : zE T (zl_146_1 x0 hb x1 ((6 - x2).toNat + 1) Z x2)) (hk : ∀ (L9 : qz_L) (Z9 : qz_Z) (yx2 : Int), qz_fg [true, true, false] L9 = [some (.inr (.inr (some (200, x0, 0)))), some (.inl (i3 x1)), none] → zI (some (some (x0 : Int))) Z9 → zK [40, 200] Zs Z9 → (1 ≤ yx2 ∧ yx2 ≤ 6) → (1 ≤ (x0 : Int)) → (Z9 11 hb 0 3 = kc0) → (Z9 11 hb 0 8 = kc1) → (Z9 11 hb 0 9 = kc2) → (Z9 200 0 0 1 = kc3) → (Z9 200 0 0 2 = kc4) → zE T ((Z9, yx2)) → k 0 (L9, [], zm Z9 ν)) : wz_loop qb_146_1 65536 k R (L, [], zm Z ν) := by
  refine wz_lp sb_146_1 (fun m x => ∃ Z : qz_Z, ∃ x2 : Int, qz_fg [true, true, true] x.1 = [some (.inr (.inr (some (200, x0, 0)))), some (.inl (i3 x1)), some (.inl (i3 x2))] ∧ x.2 = ([], zm Z ν) ∧ zI (some (some (x0 : Int))) Z ∧ zK [40, 200] Zs Z ∧ m = (6 - x2).toNat ∧ (1 ≤ x2 ∧ x2 ≤ 6) ∧ (1 ≤ (x0 : Int)) ∧ (Z 11 hb 0 3 = kc0) ∧ (Z 11 hb 0 8 = kc1) ∧ (Z 11 hb 0 9 = kc2) ∧ (Z 200 0 0 1 = kc3) ∧ (Z 200 0 0 2 = kc4) ∧ zE T (zl_146_1 x0 hb x1 (m + 1) Z x2)) ?_ 65536 ((6 - x2).toNat) _ (by omega) ⟨Z, x2, hL, rfl, hZ, hK, rfl, gx2, gr0, gr1, gr2, gr3, gr4, gr5, hP⟩
  clear hP gr0 gr1 gr2 gr3 gr4 gr5 gx2 hZ hK hL
  clear x2
  clear Z
  rintro m ⟨L, st, μ⟩ ⟨Z, x2, hL, hx, hZ, hK, hm, gx2, gr0, gr1, gr2, gr3, gr4, gr5, hP⟩
  cases hx
  refine fb_146_1 x0 (i3 x1) (i3 x2) _ _ _ _ hL ?_
  have rs := zI_xs (n := x0) hZ
  refine wz_br (i3L (show (5 : Int32) = i3 5 from rfl) (rfl : i3 x2 = i3 x2) (by omega) (by omega) (by omega) (by omega)) (fun h1 => ?_) (fun h1 => ?_)
  · replace hP := zE_p hP h1
    exact hk _ _ _ (zconso rfl (zconso (zvo (rfl : i3 x1 = i3 x1)) (zconso rfl rfl))) hZ hK (by omega) (by omega) (by omega) (by omega) (by omega) (by omega) (by omega) hP
  · replace hP := zE_n hP h1
    refine wz_i1 (by rw [tsn]; rfl) ?_
    refine wz_rko (rsn _) ?_
    refine wz_i1 (by rw [tsn]; rfl) ?_
    refine wz_i1 (by rw [tsn]; rfl) ?_
    refine wz_i1 (by rw [tsn]; rfl) ?_
    have r2 := zI_xr (n := x0) hZ
    obtain ⟨Z3, hZ3⟩ := zx (zu Z 200 x0 0 2 (((25173 * (Z 200 x0 0 2)) + 13849) % 65536))
    replace hP := zl_e hP hZ3
    have hZ3I := zI_x hZ hZ3 (by omega)
    have t4 : Z3 11 hb 0 3 = Z 11 hb 0 3 := zu_ne hZ3 (fun q => absurd q.1 (by decide))
    have t5 : Z3 11 hb 0 8 = Z 11 hb 0 8 := zu_ne hZ3 (fun q => absurd q.1 (by decide))
    have t6 : Z3 11 hb 0 9 = Z 11 hb 0 9 := zu_ne hZ3 (fun q => absurd q.1 (by decide))
    have t7 : Z3 200 0 0 1 = Z 200 0 0 1 := zu_ne hZ3 (fun q => absurd q.2.2.2 (by decide))
    have t8 : Z3 200 0 0 2 = Z 200 0 0 2 := zu_ne hZ3 (by omega)
    have hZ3K := zK_u hK hZ3 (by decide)
    intro μ9 e9
    replace e9 := e9.trans (zm_wI (Z := Z) (ν := ν) hZ3 (rfl : ((x0 : Nat) : Int) = x0) (show ((0 : Nat) : Int) = 0 from rfl) (show ((2 : Nat) : Int) = 2 from rfl) (i3R (i3A (i3M (show (25173 : Int32) = i3 25173 from rfl) (zm_rd (Z := Z) (ν := ν) (k := 200) (rfl : ((x0 : Nat) : Int) = x0) (show ((0 : Nat) : Int) = 0 from rfl) (show ((2 : Nat) : Int) = 2 from rfl))) (show (13849 : Int32) = i3 13849 from rfl)) (show (65536 : Int32) = i3 65536 from rfl) (by omega) (by omega) (by omega) (by omega)))
    subst e9
    refine wz_i1 (by rw [tsn]; rfl) ?_
    refine wz_i1 rfl ?_
    refine wz_rko (r := (20, _, _)) rfl ?_
    refine wz_i1 rfl ?_
    refine wz_i0 (i3O (n := 6) (rfl : i3 x1 = i3 x1) (by omega) (by omega) (by omega)) ?_
    refine wz_rko (r := (40, _, _)) rfl ?_
    refine wz_i1 rfl ?_
    refine wz_i0 (i3O (n := 6) (rfl : i3 x2 = i3 x2) (by omega) (by omega) (by omega)) ?_
    refine wz_i1 rfl ?_
    refine wz_rko (r := (20, _, _)) rfl ?_
    refine wz_i1 rfl ?_
    refine wz_i0 (i3O (n := 6) (rfl : i3 x1 = i3 x1) (by omega) (by omega) (by omega)) ?_
    refine wz_rko (r := (40, _, _)) rfl ?_
    refine wz_i1 rfl ?_
    refine wz_i0 (i3O (n := 6) (rfl : i3 x2 = i3 x2) (by omega) (by omega) (by omega)) ?_
    have r9 := zI_xr (n := x0) hZ3I
    have q10 := zu_at hZ3
    obtain ⟨Z11, hZ11⟩ := zx (zu Z3 40 hb x1 x2 (1 + (((Z3 200 x0 0 2) / 16) % 12)))
    replace hP := zl_e hP hZ11
    have hZ11I := zI_u hZ3I hZ11 (lo := 0) (hi := 12) (by decide) (zrc_40 (by omega) (by omega)) (by omega) ⟨by decide, by decide⟩ (Or.inl (by decide))
    have t12 : Z11 11 hb 0 3 = Z3 11 hb 0 3 := zu_ne hZ11 (fun q => absurd q.1 (by decide))
    have t13 : Z11 11 hb 0 8 = Z3 11 hb 0 8 := zu_ne hZ11 (fun q => absurd q.1 (by decide))
    have t14 : Z11 11 hb 0 9 = Z3 11 hb 0 9 := zu_ne hZ11 (fun q => absurd q.1 (by decide))
    have t15 : Z11 200 0 0 1 = Z3 200 0 0 1 := zu_ne hZ11 (fun q => absurd q.1 (by decide))
    have t16 : Z11 200 0 0 2 = Z3 200 0 0 2 := zu_ne hZ11 (fun q => absurd q.1 (by decide))
    have hZ11K := zK_u hZ3K hZ11 (by decide)
    intro μ9 e9
    replace e9 := e9.trans (zm_wI (Z := Z3) (ν := ν) hZ11 (rfl : ((hb : Nat) : Int) = hb) (i3I (y := x1) (rfl : i3 x1 = i3 x1) (by omega) (by omega) (by omega)) (i3I (y := x2) (rfl : i3 x2 = i3 x2) (by omega) (by omega) (by omega)) (i3A (show (1 : Int32) = i3 1 from rfl) (i3R (i3D (zm_rd (Z := Z3) (ν := ν) (k := 200) (rfl : ((x0 : Nat) : Int) = x0) (show ((0 : Nat) : Int) = 0 from rfl) (show ((2 : Nat) : Int) = 2 from rfl)) (show (16 : Int32) = i3 16 from rfl) (by omega) (by omega) (by omega) (by omega)) (show (12 : Int32) = i3 12 from rfl) (by omega) (by omega) (by omega) (by omega))))
    subst e9
    refine wz_i1 rfl ?_
    refine wz_rko (r := (20, _, _)) rfl ?_
    refine wz_i1 rfl ?_
    refine wz_i0 (i3O (n := 6) (rfl : i3 x2 = i3 x2) (by omega) (by omega) (by omega)) ?_
    refine wz_rko (r := (40, _, _)) rfl ?_
    refine wz_i1 rfl ?_
    refine wz_i0 (i3O (n := 6) (rfl : i3 x1 = i3 x1) (by omega) (by omega) (by omega)) ?_
    obtain ⟨Z17, hZ17⟩ := zx (zu Z11 40 hb x2 x1 (1 + (((Z3 200 x0 0 2) / 16) % 12)))
    replace hP := zl_e hP hZ17
    have hZ17I := zI_u hZ11I hZ17 (lo := 0) (hi := 12) (by decide) (zrc_40 (by omega) (by omega)) (by omega) ⟨by decide, by decide⟩ (Or.inl (by decide))
    have t18 : Z17 11 hb 0 3 = Z11 11 hb 0 3 := zu_ne hZ17 (fun q => absurd q.1 (by decide))
    have t19 : Z17 11 hb 0 8 = Z11 11 hb 0 8 := zu_ne hZ17 (fun q => absurd q.1 (by decide))
    have t20 : Z17 11 hb 0 9 = Z11 11 hb 0 9 := zu_ne hZ17 (fun q => absurd q.1 (by decide))
    have t21 : Z17 200 0 0 1 = Z11 200 0 0 1 := zu_ne hZ17 (fun q => absurd q.1 (by decide))
    have t22 : Z17 200 0 0 2 = Z11 200 0 0 2 := zu_ne hZ17 (fun q => absurd q.1 (by decide))
    have hZ17K := zK_u hZ11K hZ17 (by decide)
    intro μ9 e9
    replace e9 := e9.trans (zm_wI (Z := Z11) (ν := ν) hZ17 (rfl : ((hb : Nat) : Int) = hb) (i3I (y := x2) (rfl : i3 x2 = i3 x2) (by omega) (by omega) (by omega)) (i3I (y := x1) (rfl : i3 x1 = i3 x1) (by omega) (by omega) (by omega)) (i3A (show (1 : Int32) = i3 1 from rfl) (i3R (i3D (zm_rd (Z := Z3) (ν := ν) (k := 200) (rfl : ((x0 : Nat) : Int) = x0) (show ((0 : Nat) : Int) = 0 from rfl) (show ((2 : Nat) : Int) = 2 from rfl)) (show (16 : Int32) = i3 16 from rfl) (by omega) (by omega) (by omega) (by omega)) (show (12 : Int32) = i3 12 from rfl) (by omega) (by omega) (by omega) (by omega))))
    subst e9
    obtain ⟨m2, rfl⟩ : ∃ m2, m = m2 + 1 := ⟨m - 1, by omega⟩
    exact wz_k1 ⟨m2, by omega, Z17, (x2 + 1), (zconso rfl (zconso (zvo (rfl : i3 x1 = i3 x1)) (zconso (zvo (i3A (rfl : i3 x2 = i3 x2) (show (1 : Int32) = i3 1 from rfl))) rfl))), rfl, hZ17I, hZ17K, by omega, by omega, by omega, by omega, by omega, by omega, by omega, by omega,  hP⟩

/- yX8_tellCarriers -/
def zl_146_3 (x0 : Int) (hb : Int) : Nat → qz_Z → Int → qz_Z × Int
  | 0, Z, x1 => (Z, x1)
  | m + 1, Z, x1 => (if 5 < x1 then (Z, x1) else (zlet2 (zl_146_1 x0 hb x1 ((6 - (x1 + 1)).toNat + 1) Z (x1 + 1)) (fun Z3 y2 => zl_146_3 x0 hb m Z3 (x1 + 1))))
theorem sl_146_3 {Zs Z : qz_Z} {ν : qz_N} (x0 : Nat) (hZ : zI (some (some (x0 : Int))) Z) (hK : zK [40, 200] Zs Z) (hb : Nat) (tsn : ∀ Z, qz_tag (zm Z ν) (200, x0, 0) = 2) (rsn : ∀ Z, qz_rm (zm Z ν) 200 x0 0 0 = some (10, hb, 0)) {x1 : Int} (gx1 : 0 ≤ x1 ∧ x1 ≤ 6) {kc0 : Int} {kc1 : Int} {kc2 : Int} {kc3 : Int} {kc4 : Int} (gr0 : 1 ≤ (x0 : Int)) (gr1 : Z 11 hb 0 3 = kc0) (gr2 : Z 11 hb 0 8 = kc1) (gr3 : Z 11 hb 0 9 = kc2) (gr4 : Z 200 0 0 1 = kc3) (gr5 : Z 200 0 0 2 = kc4) {k : wz_K} {R : wz_R} {L : qz_L} (hL : qz_fg [true, true, false] L = [some (.inr (.inr (some (200, x0, 0)))), some (.inl (i3 x1)), none]) {T : qz_Z × Int} (hP : zE T (zl_146_3 x0 hb ((6 - x1).toNat + 1) Z x1)) (hk : ∀ (L9 : qz_L) (Z9 : qz_Z) (yx1 : Int), qz_fg [true, false, false] L9 = [some (.inr (.inr (some (200, x0, 0)))), none, none] → zI (some (some (x0 : Int))) Z9 → zK [40, 200] Zs Z9 → (0 ≤ yx1 ∧ yx1 ≤ 6) → (1 ≤ (x0 : Int)) → (Z9 11 hb 0 3 = kc0) → (Z9 11 hb 0 8 = kc1) → (Z9 11 hb 0 9 = kc2) → (Z9 200 0 0 1 = kc3) → (Z9 200 0 0 2 = kc4) → zE T ((Z9, yx1)) → k 0 (L9, [], zm Z9 ν)) : wz_loop qb_146_3 65536 k R (L, [], zm Z ν) := by
  refine wz_lp sb_146_3 (fun m x => ∃ Z : qz_Z, ∃ x1 : Int, qz_fg [true, true, false] x.1 = [some (.inr (.inr (some (200, x0, 0)))), some (.inl (i3 x1)), none] ∧ x.2 = ([], zm Z ν) ∧ zI (some (some (x0 : Int))) Z ∧ zK [40, 200] Zs Z ∧ m = (6 - x1).toNat ∧ (0 ≤ x1 ∧ x1 ≤ 6) ∧ (1 ≤ (x0 : Int)) ∧ (Z 11 hb 0 3 = kc0) ∧ (Z 11 hb 0 8 = kc1) ∧ (Z 11 hb 0 9 = kc2) ∧ (Z 200 0 0 1 = kc3) ∧ (Z 200 0 0 2 = kc4) ∧ zE T (zl_146_3 x0 hb (m + 1) Z x1)) ?_ 65536 ((6 - x1).toNat) _ (by omega) ⟨Z, x1, hL, rfl, hZ, hK, rfl, gx1, gr0, gr1, gr2, gr3, gr4, gr5, hP⟩
  clear hP gr0 gr1 gr2 gr3 gr4 gr5 gx1 hZ hK hL
  clear x1
  clear Z
  rintro m ⟨L, st, μ⟩ ⟨Z, x1, hL, hx, hZ, hK, hm, gx1, gr0, gr1, gr2, gr3, gr4, gr5, hP⟩
  cases hx
  refine fb_146_3 x0 (i3 x1) _ _ _ _ hL ?_
  have rs := zI_xs (n := x0) hZ
  refine wz_br (i3L (show (5 : Int32) = i3 5 from rfl) (rfl : i3 x1 = i3 x1) (by omega) (by omega) (by omega) (by omega)) (fun h1 => ?_) (fun h1 => ?_)
  · replace hP := zE_p hP h1
    exact hk _ _ _ (zconso rfl (zconso rfl (zconso rfl rfl))) hZ hK (by omega) (by omega) (by omega) (by omega) (by omega) (by omega) (by omega) hP
  · replace hP := zE_n hP h1
    refine sl_146_1 (ν := ν) x0 hZ zK_r hb tsn rsn (x1 := x1) (by omega) (x2 := (x1 + 1)) (by omega) (kc4 := Z 200 0 0 2) (kc3 := Z 200 0 0 1) (kc2 := Z 11 hb 0 9) (kc1 := Z 11 hb 0 8) (kc0 := Z 11 hb 0 3) (by omega) (by omega) (by omega) (by omega) (by omega) (by omega) (zconso rfl (zconso (zvo (rfl : i3 x1 = i3 x1)) (zconso (zvo (i3A (rfl : i3 x1 = i3 x1) (show (1 : Int32) = i3 1 from rfl))) rfl))) rfl ?_
    intro L4 Z3 y2 hL4 hZ3I kZ3 gy2 gL4_0 gL4_1 gL4_2 gL4_3 gL4_4 gL4_5 q9
    replace hP := zl_e2 hP (Eq.symm q9)
    clear q9
    have hZ3K : zK [40, 200] Zs Z3 := zK_t hK kZ3 (by decide)
    refine fc_146_2 _ (i3 x1) _ _ _ _ hL4 ?_
    obtain ⟨m2, rfl⟩ : ∃ m2, m = m2 + 1 := ⟨m - 1, by omega⟩
    refine wz_kbs (n := 1) (?_)
    exact wz_k1 ⟨m2, by omega, Z3, (x1 + 1), (zconso rfl (zconso (zvo (i3A (rfl : i3 x1 = i3 x1) (show (1 : Int32) = i3 1 from rfl))) (zconso rfl rfl))), rfl, hZ3I, hZ3K, by omega, by omega, by omega, by omega, by omega, by omega, by omega, by omega,  hP⟩

