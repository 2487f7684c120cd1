/-! a season told, c (printed by season.py) -/
/- yX8_tellGoods -/
def zl_148_1 (x0 : Int) (hb : Int) (x1 : Int) : Nat → qz_Z → Int → qz_Z × Int
  | 0, Z, x2 => (Z, x2)
  | m + 1, Z, x2 => (if x1 ≤ x2 then (Z, x2) else (zlet (zu Z 200 x0 0 2 (((25173 * (Z 200 x0 0 2)) + 13849) % 65536)) (fun Z3 => (zlet (zu Z3 200 x0 0 2 (((25173 * (Z3 200 x0 0 2)) + 13849) % 65536)) (fun Z16 => (zlet (zu Z16 200 x0 0 2 (((25173 * (Z16 200 x0 0 2)) + 13849) % 65536)) (fun Z29 => (zlet (zu Z29 200 x0 0 2 (((25173 * (Z29 200 x0 0 2)) + 13849) % 65536)) (fun Z42 => (zlet (zu Z42 200 x0 0 2 (((25173 * (Z42 200 x0 0 2)) + 13849) % 65536)) (fun Z55 => (zlet (zu Z55 41 hb (Z55 11 hb 0 0) 0 (1 + (((Z3 200 x0 0 2) / 16) % 9))) (fun Z67 => (zlet (zu Z67 41 hb (Z55 11 hb 0 0) 1 (((Z16 200 x0 0 2) / 16) % 13)) (fun Z78 => (zlet (zu Z78 41 hb (Z55 11 hb 0 0) 2 (((Z29 200 x0 0 2) / 16) % 13)) (fun Z89 => (zlet (zu Z89 41 hb (Z55 11 hb 0 0) 3 (100 + (((Z42 200 x0 0 2) / 16) % 501))) (fun Z100 => (zlet (zu Z100 41 hb (Z55 11 hb 0 0) 4 (10 + (((Z55 200 x0 0 2) / 16) % 90))) (fun Z113 => (zlet (zu Z113 11 hb 0 0 ((Z113 11 hb 0 0) + 1)) (fun Z126 => zl_148_1 x0 hb x1 m Z126 (x2 + 1))))))))))))))))))))))))
theorem sl_148_1 {Zs Z : qz_Z} {ν : qz_N} (x0 : Nat) (hZ : zI (some (some (x0 : Int))) Z) (hK : zK [11, 41, 200] Zs Z) (hb : Nat) (tsn : ∀ Z, qz_tag (zm Z ν) (200, x0, 0) = 2) (rsn : ∀ Z, qz_rm (zm Z ν) 200 x0 0 0 = some (10, hb, 0)) {x1 : Int} (gx1 : 2 ≤ x1 ∧ x1 ≤ 5) {x2 : Int} (gx2 : 0 ≤ x2 ∧ x2 ≤ 5) {kc0 : Int} {kc1 : Int} {kc2 : Int} {kc3 : Int} {kc4 : Int} {kc5 : Int} {kc6 : Int} {kc7 : Int} {kc8 : Int} (gr0 : Z 11 hb 0 0 = x2) (gr1 : Z 11 hb 0 1 = kc0) (gr2 : Z 11 hb 0 3 = kc1) (gr3 : Z 11 hb 0 2 = kc2) (gr4 : Z 11 hb 0 4 = kc3) (gr5 : Z 11 hb 0 5 = kc4) (gr6 : Z 11 hb 0 7 = kc5) (gr7 : Z 11 hb 0 8 = kc6) (gr8 : Z 11 hb 0 9 = kc7) (gr9 : Z 200 x0 0 1 = kc8) {k : wz_K} {R : wz_R} {L : qz_L} (hL : qz_fg [true, true, true, false, false, false, false, false, false, false] L = [some (.inr (.inr (some (200, x0, 0)))), some (.inl (i3 x1)), some (.inl (i3 x2)), none, none, none, none, none, none, none]) {T : qz_Z × Int} (hP : zE T (zl_148_1 x0 hb x1 ((5 - x2).toNat + 1) Z x2)) (hk : ∀ (L9 : qz_L) (Z9 : qz_Z) (yx2 : Int), qz_fg [true, true, false, false, false, false, false, false, false, false] L9 = [some (.inr (.inr (some (200, x0, 0)))), some (.inl (i3 x1)), none, none, none, none, none, none, none, none] → zI (some (some (x0 : Int))) Z9 → zK [11, 41, 200] Zs Z9 → (0 ≤ yx2 ∧ yx2 ≤ 5) → (Z9 11 hb 0 0 = yx2) → (Z9 11 hb 0 1 = kc0) → (Z9 11 hb 0 3 = kc1) → (Z9 11 hb 0 2 = kc2) → (Z9 11 hb 0 4 = kc3) → (Z9 11 hb 0 5 = kc4) → (Z9 11 hb 0 7 = kc5) → (Z9 11 hb 0 8 = kc6) → (Z9 11 hb 0 9 = kc7) → (Z9 200 x0 0 1 = kc8) → zE T ((Z9, yx2)) → k 0 (L9, [], zm Z9 ν)) : wz_loop qb_148_1 65536 k R (L, [], zm Z ν) := by
  refine wz_lp sb_148_1 (fun m x => ∃ Z : qz_Z, ∃ x2 : Int, qz_fg [true, true, true, false, false, false, false, false, false, false] x.1 = [some (.inr (.inr (some (200, x0, 0)))), some (.inl (i3 x1)), some (.inl (i3 x2)), none, none, none, none, none, none, none] ∧ x.2 = ([], zm Z ν) ∧ zI (some (some (x0 : Int))) Z ∧ zK [11, 41, 200] Zs Z ∧ m = (5 - x2).toNat ∧ (0 ≤ x2 ∧ x2 ≤ 5) ∧ (Z 11 hb 0 0 = x2) ∧ (Z 11 hb 0 1 = kc0) ∧ (Z 11 hb 0 3 = kc1) ∧ (Z 11 hb 0 2 = kc2) ∧ (Z 11 hb 0 4 = kc3) ∧ (Z 11 hb 0 5 = kc4) ∧ (Z 11 hb 0 7 = kc5) ∧ (Z 11 hb 0 8 = kc6) ∧ (Z 11 hb 0 9 = kc7) ∧ (Z 200 x0 0 1 = kc8) ∧ zE T (zl_148_1 x0 hb x1 (m + 1) Z x2)) ?_ 65536 ((5 - x2).toNat) _ (by omega) ⟨Z, x2, hL, rfl, hZ, hK, rfl, gx2, gr0, gr1, gr2, gr3, gr4, gr5, gr6, gr7, gr8, gr9, hP⟩
  clear hP gr0 gr1 gr2 gr3 gr4 gr5 gr6 gr7 gr8 gr9 gx2 hZ hK hL
  clear x2
  clear Z
  rintro m ⟨L, st, μ⟩ ⟨Z, x2, hL, hx, hZ, hK, hm, gx2, gr0, gr1, gr2, gr3, gr4, gr5, gr6, gr7, gr8, gr9, hP⟩
  cases hx
  refine fb_148_1 x0 (i3 x1) (i3 x2) _ _ _ _ hL ?_
  have rs := zI_xs (n := x0) hZ
  refine wz_br (i3Le (rfl : i3 x1 = i3 x1) (rfl : i3 x2 = i3 x2) (by omega) (by omega) (by omega) (by omega)) (fun h1 => ?_) (fun h1 => ?_)
  · replace hP := zE_p hP h1
    exact hk _ _ _ (zconso rfl (zconso (zvo (rfl : i3 x1 = i3 x1)) (zconso rfl (zconso rfl (zconso rfl (zconso rfl (zconso rfl (zconso rfl (zconso rfl (zconso rfl rfl)))))))))) hZ hK (by omega) (by omega) (by omega) (by omega) (by omega) (by omega) (by omega) (by omega) (by omega) (by omega) (by omega) hP
  · replace hP := zE_n hP h1
    refine wz_i1 (by rw [tsn]; rfl) ?_
    refine wz_rko (rsn _) ?_
    refine wz_i1 (by rw [tsn]; rfl) ?_
    refine wz_i1 (by rw [tsn]; rfl) ?_
    refine wz_i1 (by rw [tsn]; rfl) ?_
    have r2 := zI_xr (n := x0) hZ
    obtain ⟨Z3, hZ3⟩ := zx (zu Z 200 x0 0 2 (((25173 * (Z 200 x0 0 2)) + 13849) % 65536))
    replace hP := zl_e hP hZ3
    have hZ3I := zI_x hZ hZ3 (by omega)
    have t4 : Z3 11 hb 0 1 = Z 11 hb 0 1 := zu_ne hZ3 (fun q => absurd q.1 (by decide))
    have t5 : Z3 11 hb 0 3 = Z 11 hb 0 3 := zu_ne hZ3 (fun q => absurd q.1 (by decide))
    have t6 : Z3 11 hb 0 2 = Z 11 hb 0 2 := zu_ne hZ3 (fun q => absurd q.1 (by decide))
    have t7 : Z3 11 hb 0 4 = Z 11 hb 0 4 := zu_ne hZ3 (fun q => absurd q.1 (by decide))
    have t8 : Z3 11 hb 0 5 = Z 11 hb 0 5 := zu_ne hZ3 (fun q => absurd q.1 (by decide))
    have t9 : Z3 11 hb 0 7 = Z 11 hb 0 7 := zu_ne hZ3 (fun q => absurd q.1 (by decide))
    have t10 : Z3 11 hb 0 8 = Z 11 hb 0 8 := zu_ne hZ3 (fun q => absurd q.1 (by decide))
    have t11 : Z3 11 hb 0 9 = Z 11 hb 0 9 := zu_ne hZ3 (fun q => absurd q.1 (by decide))
    have t12 : Z3 11 hb 0 0 = Z 11 hb 0 0 := zu_ne hZ3 (fun q => absurd q.1 (by decide))
    have t13 : Z3 200 x0 0 1 = Z 200 x0 0 1 := zu_ne hZ3 (fun q => absurd q.2.2.2 (by decide))
    have hZ3K := zK_u hK hZ3 (by decide)
    intro μ9 e9
    replace e9 := e9.trans (zm_wI (Z := Z) (ν := ν) hZ3 (rfl : ((x0 : Nat) : Int) = x0) (show ((0 : Nat) : Int) = 0 from rfl) (show ((2 : Nat) : Int) = 2 from rfl) (i3R (i3A (i3M (show (25173 : Int32) = i3 25173 from rfl) (zm_rd (Z := Z) (ν := ν) (k := 200) (rfl : ((x0 : Nat) : Int) = x0) (show ((0 : Nat) : Int) = 0 from rfl) (show ((2 : Nat) : Int) = 2 from rfl))) (show (13849 : Int32) = i3 13849 from rfl)) (show (65536 : Int32) = i3 65536 from rfl) (by omega) (by omega) (by omega) (by omega)))
    subst e9
    refine wz_i1 (by rw [tsn]; rfl) ?_
    refine wz_i1 (by rw [tsn]; rfl) ?_
    refine wz_i1 (by rw [tsn]; rfl) ?_
    refine wz_i1 (by rw [tsn]; rfl) ?_
    have r14 := zI_xr (n := x0) hZ3I
    have q15 := zu_at hZ3
    obtain ⟨Z16, hZ16⟩ := zx (zu Z3 200 x0 0 2 (((25173 * (Z3 200 x0 0 2)) + 13849) % 65536))
    replace hP := zl_e hP hZ16
    have hZ16I := zI_x hZ3I hZ16 (by omega)
    have t17 : Z16 11 hb 0 1 = Z3 11 hb 0 1 := zu_ne hZ16 (fun q => absurd q.1 (by decide))
    have t18 : Z16 11 hb 0 3 = Z3 11 hb 0 3 := zu_ne hZ16 (fun q => absurd q.1 (by decide))
    have t19 : Z16 11 hb 0 2 = Z3 11 hb 0 2 := zu_ne hZ16 (fun q => absurd q.1 (by decide))
    have t20 : Z16 11 hb 0 4 = Z3 11 hb 0 4 := zu_ne hZ16 (fun q => absurd q.1 (by decide))
    have t21 : Z16 11 hb 0 5 = Z3 11 hb 0 5 := zu_ne hZ16 (fun q => absurd q.1 (by decide))
    have t22 : Z16 11 hb 0 7 = Z3 11 hb 0 7 := zu_ne hZ16 (fun q => absurd q.1 (by decide))
    have t23 : Z16 11 hb 0 8 = Z3 11 hb 0 8 := zu_ne hZ16 (fun q => absurd q.1 (by decide))
    have t24 : Z16 11 hb 0 9 = Z3 11 hb 0 9 := zu_ne hZ16 (fun q => absurd q.1 (by decide))
    have t25 : Z16 11 hb 0 0 = Z3 11 hb 0 0 := zu_ne hZ16 (fun q => absurd q.1 (by decide))
    have t26 : Z16 200 x0 0 1 = Z3 200 x0 0 1 := zu_ne hZ16 (fun q => absurd q.2.2.2 (by decide))
    have hZ16K := zK_u hZ3K hZ16 (by decide)
    intro μ9 e9
    replace e9 := e9.trans (zm_wI (Z := Z3) (ν := ν) hZ16 (rfl : ((x0 : Nat) : Int) = x0) (show ((0 : Nat) : Int) = 0 from rfl) (show ((2 : Nat) : Int) = 2 from rfl) (i3R (i3A (i3M (show (25173 : Int32) = i3 25173 from rfl) (zm_rd (Z := Z3) (ν := ν) (k := 200) (rfl : ((x0 : Nat) : Int) = x0) (show ((0 : Nat) : Int) = 0 from rfl) (show ((2 : Nat) : Int) = 2 from rfl))) (show (13849 : Int32) = i3 13849 from rfl)) (show (65536 : Int32) = i3 65536 from rfl) (by omega) (by omega) (by omega) (by omega)))
    subst e9
    refine wz_i1 (by rw [tsn]; rfl) ?_
    refine wz_i1 (by rw [tsn]; rfl) ?_
    refine wz_i1 (by rw [tsn]; rfl) ?_
    refine wz_i1 (by rw [tsn]; rfl) ?_
    have r27 := zI_xr (n := x0) hZ16I
    have q28 := zu_at hZ16
    obtain ⟨Z29, hZ29⟩ := zx (zu Z16 200 x0 0 2 (((25173 * (Z16 200 x0 0 2)) + 13849) % 65536))
    replace hP := zl_e hP hZ29
    have hZ29I := zI_x hZ16I hZ29 (by omega)
    have t30 : Z29 11 hb 0 1 = Z16 11 hb 0 1 := zu_ne hZ29 (fun q => absurd q.1 (by decide))
    have t31 : Z29 11 hb 0 3 = Z16 11 hb 0 3 := zu_ne hZ29 (fun q => absurd q.1 (by decide))
    have t32 : Z29 11 hb 0 2 = Z16 11 hb 0 2 := zu_ne hZ29 (fun q => absurd q.1 (by decide))
    have t33 : Z29 11 hb 0 4 = Z16 11 hb 0 4 := zu_ne hZ29 (fun q => absurd q.1 (by decide))
    have t34 : Z29 11 hb 0 5 = Z16 11 hb 0 5 := zu_ne hZ29 (fun q => absurd q.1 (by decide))
    have t35 : Z29 11 hb 0 7 = Z16 11 hb 0 7 := zu_ne hZ29 (fun q => absurd q.1 (by decide))
    have t36 : Z29 11 hb 0 8 = Z16 11 hb 0 8 := zu_ne hZ29 (fun q => absurd q.1 (by decide))
    have t37 : Z29 11 hb 0 9 = Z16 11 hb 0 9 := zu_ne hZ29 (fun q => absurd q.1 (by decide))
    have t38 : Z29 11 hb 0 0 = Z16 11 hb 0 0 := zu_ne hZ29 (fun q => absurd q.1 (by decide))
    have t39 : Z29 200 x0 0 1 = Z16 200 x0 0 1 := zu_ne hZ29 (fun q => absurd q.2.2.2 (by decide))
    have hZ29K := zK_u hZ16K hZ29 (by decide)
    intro μ9 e9
    replace e9 := e9.trans (zm_wI (Z := Z16) (ν := ν) hZ29 (rfl : ((x0 : Nat) : Int) = x0) (show ((0 : Nat) : Int) = 0 from rfl) (show ((2 : Nat) : Int) = 2 from rfl) (i3R (i3A (i3M (show (25173 : Int32) = i3 25173 from rfl) (zm_rd (Z := Z16) (ν := ν) (k := 200) (rfl : ((x0 : Nat) : Int) = x0) (show ((0 : Nat) : Int) = 0 from rfl) (show ((2 : Nat) : Int) = 2 from rfl))) (show (13849 : Int32) = i3 13849 from rfl)) (show (65536 : Int32) = i3 65536 from rfl) (by omega) (by omega) (by omega) (by omega)))
    subst e9
    refine wz_i1 (by rw [tsn]; rfl) ?_
    refine wz_i1 (by rw [tsn]; rfl) ?_
    refine wz_i1 (by rw [tsn]; rfl) ?_
    refine wz_i1 (by rw [tsn]; rfl) ?_
    have r40 := zI_xr (n := x0) hZ29I
    have q41 := zu_at hZ29
    obtain ⟨Z42, hZ42⟩ := zx (zu Z29 200 x0 0 2 (((25173 * (Z29 200 x0 0 2)) + 13849) % 65536))
    replace hP := zl_e hP hZ42
    have hZ42I := zI_x hZ29I hZ42 (by omega)
    have t43 : Z42 11 hb 0 1 = Z29 11 hb 0 1 := zu_ne hZ42 (fun q => absurd q.1 (by decide))
    have t44 : Z42 11 hb 0 3 = Z29 11 hb 0 3 := zu_ne hZ42 (fun q => absurd q.1 (by decide))
    have t45 : Z42 11 hb 0 2 = Z29 11 hb 0 2 := zu_ne hZ42 (fun q => absurd q.1 (by decide))
    have t46 : Z42 11 hb 0 4 = Z29 11 hb 0 4 := zu_ne hZ42 (fun q => absurd q.1 (by decide))
    have t47 : Z42 11 hb 0 5 = Z29 11 hb 0 5 := zu_ne hZ42 (fun q => absurd q.1 (by decide))
    have t48 : Z42 11 hb 0 7 = Z29 11 hb 0 7 := zu_ne hZ42 (fun q => absurd q.1 (by decide))
    have t49 : Z42 11 hb 0 8 = Z29 11 hb 0 8 := zu_ne hZ42 (fun q => absurd q.1 (by decide))
    have t50 : Z42 11 hb 0 9 = Z29 11 hb 0 9 := zu_ne hZ42 (fun q => absurd q.1 (by decide))
    have t51 : Z42 11 hb 0 0 = Z29 11 hb 0 0 := zu_ne hZ42 (fun q => absurd q.1 (by decide))
    have t52 : Z42 200 x0 0 1 = Z29 200 x0 0 1 := zu_ne hZ42 (fun q => absurd q.2.2.2 (by decide))
    have hZ42K := zK_u hZ29K hZ42 (by decide)
    intro μ9 e9
    replace e9 := e9.trans (zm_wI (Z := Z29) (ν := ν) hZ42 (rfl : ((x0 : Nat) : Int) = x0) (show ((0 : Nat) : Int) = 0 from rfl) (show ((2 : Nat) : Int) = 2 from rfl) (i3R (i3A (i3M (show (25173 : Int32) = i3 25173 from rfl) (zm_rd (Z := Z29) (ν := ν) (k := 200) (rfl : ((x0 : Nat) : Int) = x0) (show ((0 : Nat) : Int) = 0 from rfl) (show ((2 : Nat) : Int) = 2 from rfl))) (show (13849 : Int32) = i3 13849 from rfl)) (show (65536 : Int32) = i3 65536 from rfl) (by omega) (by omega) (by omega) (by omega)))
    subst e9
    refine wz_i1 (by rw [tsn]; rfl) ?_
    refine wz_i1 (by rw [tsn]; rfl) ?_
    refine wz_i1 (by rw [tsn]; rfl) ?_
    refine wz_i1 (by rw [tsn]; rfl) ?_
    have r53 := zI_xr (n := x0) hZ42I
    have q54 := zu_at hZ42
    obtain ⟨Z55, hZ55⟩ := zx (zu Z42 200 x0 0 2 (((25173 * (Z42 200 x0 0 2)) + 13849) % 65536))
    replace hP := zl_e hP hZ55
    have hZ55I := zI_x hZ42I hZ55 (by omega)
    have t56 : Z55 11 hb 0 1 = Z42 11 hb 0 1 := zu_ne hZ55 (fun q => absurd q.1 (by decide))
    have t57 : Z55 11 hb 0 3 = Z42 11 hb 0 3 := zu_ne hZ55 (fun q => absurd q.1 (by decide))
    have t58 : Z55 11 hb 0 2 = Z42 11 hb 0 2 := zu_ne hZ55 (fun q => absurd q.1 (by decide))
    have t59 : Z55 11 hb 0 4 = Z42 11 hb 0 4 := zu_ne hZ55 (fun q => absurd q.1 (by decide))
    have t60 : Z55 11 hb 0 5 = Z42 11 hb 0 5 := zu_ne hZ55 (fun q => absurd q.1 (by decide))
    have t61 : Z55 11 hb 0 7 = Z42 11 hb 0 7 := zu_ne hZ55 (fun q => absurd q.1 (by decide))
    have t62 : Z55 11 hb 0 8 = Z42 11 hb 0 8 := zu_ne hZ55 (fun q => absurd q.1 (by decide))
    have t63 : Z55 11 hb 0 9 = Z42 11 hb 0 9 := zu_ne hZ55 (fun q => absurd q.1 (by decide))
    have t64 : Z55 11 hb 0 0 = Z42 11 hb 0 0 := zu_ne hZ55 (fun q => absurd q.1 (by decide))
    have t65 : Z55 200 x0 0 1 = Z42 200 x0 0 1 := zu_ne hZ55 (fun q => absurd q.2.2.2 (by decide))
    have hZ55K := zK_u hZ42K hZ55 (by decide)
    intro μ9 e9
    replace e9 := e9.trans (zm_wI (Z := Z42) (ν := ν) hZ55 (rfl : ((x0 : Nat) : Int) = x0) (show ((0 : Nat) : Int) = 0 from rfl) (show ((2 : Nat) : Int) = 2 from rfl) (i3R (i3A (i3M (show (25173 : Int32) = i3 25173 from rfl) (zm_rd (Z := Z42) (ν := ν) (k := 200) (rfl : ((x0 : Nat) : Int) = x0) (show ((0 : Nat) : Int) = 0 from rfl) (show ((2 : Nat) : Int) = 2 from rfl))) (show (13849 : Int32) = i3 13849 from rfl)) (show (65536 : Int32) = i3 65536 from rfl) (by omega) (by omega) (by omega) (by omega)))
    subst e9
    refine wz_i1 (by rw [tsn]; rfl) ?_
    refine wz_i1 rfl ?_
    refine wz_rko (r := (21, _, _)) rfl ?_
    refine wz_i1 rfl ?_
    refine wz_rko (r := (11, _, _)) rfl ?_
    refine wz_i1 rfl ?_
    refine wz_i0 (i3O (n := 17) (show (0 : Int32) = i3 0 from rfl) (by omega) (by omega) (by omega)) ?_
    refine wz_i1 rfl ?_
    have r66 := zI_k hZ55I 11 hb 0 0 (lo := 0) (hi := 5) (by decide) rfl
    refine wz_i0 (i3O (n := 5) (zm_rd (Z := Z55) (ν := ν) (k := 11) (rfl : ((hb : Nat) : Int) = hb) (show ((0 : Nat) : Int) = 0 from rfl) (show ((0 : Nat) : Int) = 0 from rfl)) (by omega) (by omega) (by omega)) ?_
    refine wz_rko (r := (41, _, _)) rfl ?_
    refine wz_i1 rfl ?_
    refine wz_i0 (i3O (n := 5) (show (0 : Int32) = i3 0 from rfl) (by omega) (by omega) (by omega)) ?_
    obtain ⟨Z67, hZ67⟩ := zx (zu Z55 41 hb (Z55 11 hb 0 0) 0 (1 + (((Z3 200 x0 0 2) / 16) % 9)))
    replace hP := zl_e hP hZ67
    have hZ67I := zI_u hZ55I hZ67 (lo := 0) (hi := 9) (by decide) rfl (by omega) ⟨by decide, by decide⟩ (Or.inl (by decide))
    have t68 : Z67 11 hb 0 1 = Z55 11 hb 0 1 := zu_ne hZ67 (fun q => absurd q.1 (by decide))
    have t69 : Z67 11 hb 0 3 = Z55 11 hb 0 3 := zu_ne hZ67 (fun q => absurd q.1 (by decide))
    have t70 : Z67 11 hb 0 2 = Z55 11 hb 0 2 := zu_ne hZ67 (fun q => absurd q.1 (by decide))
    have t71 : Z67 11 hb 0 4 = Z55 11 hb 0 4 := zu_ne hZ67 (fun q => absurd q.1 (by decide))
    have t72 : Z67 11 hb 0 5 = Z55 11 hb 0 5 := zu_ne hZ67 (fun q => absurd q.1 (by decide))
    have t73 : Z67 11 hb 0 7 = Z55 11 hb 0 7 := zu_ne hZ67 (fun q => absurd q.1 (by decide))
    have t74 : Z67 11 hb 0 8 = Z55 11 hb 0 8 := zu_ne hZ67 (fun q => absurd q.1 (by decide))
    have t75 : Z67 11 hb 0 9 = Z55 11 hb 0 9 := zu_ne hZ67 (fun q => absurd q.1 (by decide))
    have t76 : Z67 11 hb 0 0 = Z55 11 hb 0 0 := zu_ne hZ67 (fun q => absurd q.1 (by decide))
    have t77 : Z67 200 x0 0 1 = Z55 200 x0 0 1 := zu_ne hZ67 (fun q => absurd q.1 (by decide))
    have hZ67K := zK_u hZ55K hZ67 (by decide)
    intro μ9 e9
    replace e9 := e9.trans (zm_wI (Z := Z55) (ν := ν) hZ67 (rfl : ((hb : Nat) : Int) = hb) (i3I (y := (Z55 11 hb 0 0)) (zm_rd (Z := Z55) (ν := ν) (k := 11) (rfl : ((hb : Nat) : Int) = hb) (show ((0 : Nat) : Int) = 0 from rfl) (show ((0 : Nat) : Int) = 0 from rfl)) (by omega) (by omega) (by omega)) (show ((0 : Nat) : Int) = 0 from rfl) (i3A (show (1 : Int32) = i3 1 from rfl) (i3R (i3D (zm_rd (Z := Z3) (ν := ν) (k := 200) (rfl : ((x0 : Nat) : Int) = x0) (show ((0 : Nat) : Int) = 0 from rfl) (show ((2 : Nat) : Int) = 2 from rfl)) (show (16 : Int32) = i3 16 from rfl) (by omega) (by omega) (by omega) (by omega)) (show (9 : Int32) = i3 9 from rfl) (by omega) (by omega) (by omega) (by omega))))
    subst e9
    refine wz_i1 rfl ?_
    refine wz_i0 (i3O (n := 5) (show (1 : Int32) = i3 1 from rfl) (by omega) (by omega) (by omega)) ?_
    obtain ⟨Z78, hZ78⟩ := zx (zu Z67 41 hb (Z55 11 hb 0 0) 1 (((Z16 200 x0 0 2) / 16) % 13))
    replace hP := zl_e hP hZ78
    have hZ78I := zI_u hZ67I hZ78 (lo := 0) (hi := 12) (by decide) rfl (by omega) ⟨by decide, by decide⟩ (Or.inl (by decide))
    have t79 : Z78 11 hb 0 1 = Z67 11 hb 0 1 := zu_ne hZ78 (fun q => absurd q.1 (by decide))
    have t80 : Z78 11 hb 0 3 = Z67 11 hb 0 3 := zu_ne hZ78 (fun q => absurd q.1 (by decide))
    have t81 : Z78 11 hb 0 2 = Z67 11 hb 0 2 := zu_ne hZ78 (fun q => absurd q.1 (by decide))
    have t82 : Z78 11 hb 0 4 = Z67 11 hb 0 4 := zu_ne hZ78 (fun q => absurd q.1 (by decide))
    have t83 : Z78 11 hb 0 5 = Z67 11 hb 0 5 := zu_ne hZ78 (fun q => absurd q.1 (by decide))
    have t84 : Z78 11 hb 0 7 = Z67 11 hb 0 7 := zu_ne hZ78 (fun q => absurd q.1 (by decide))
    have t85 : Z78 11 hb 0 8 = Z67 11 hb 0 8 := zu_ne hZ78 (fun q => absurd q.1 (by decide))
    have t86 : Z78 11 hb 0 9 = Z67 11 hb 0 9 := zu_ne hZ78 (fun q => absurd q.1 (by decide))
    have t87 : Z78 11 hb 0 0 = Z67 11 hb 0 0 := zu_ne hZ78 (fun q => absurd q.1 (by decide))
    have t88 : Z78 200 x0 0 1 = Z67 200 x0 0 1 := zu_ne hZ78 (fun q => absurd q.1 (by decide))
    have hZ78K := zK_u hZ67K hZ78 (by decide)
    intro μ9 e9
    replace e9 := e9.trans (zm_wI (Z := Z67) (ν := ν) hZ78 (rfl : ((hb : Nat) : Int) = hb) (i3I (y := (Z55 11 hb 0 0)) (zm_rd (Z := Z55) (ν := ν) (k := 11) (rfl : ((hb : Nat) : Int) = hb) (show ((0 : Nat) : Int) = 0 from rfl) (show ((0 : Nat) : Int) = 0 from rfl)) (by omega) (by omega) (by omega)) (show ((1 : Nat) : Int) = 1 from rfl) (i3R (i3D (zm_rd (Z := Z16) (ν := ν) (k := 200) (rfl : ((x0 : Nat) : Int) = x0) (show ((0 : Nat) : Int) = 0 from rfl) (show ((2 : Nat) : Int) = 2 from rfl)) (show (16 : Int32) = i3 16 from rfl) (by omega) (by omega) (by omega) (by omega)) (show (13 : Int32) = i3 13 from rfl) (by omega) (by omega) (by omega) (by omega)))
    subst e9
    refine wz_i1 rfl ?_
    refine wz_i0 (i3O (n := 5) (show (2 : Int32) = i3 2 from rfl) (by omega) (by omega) (by omega)) ?_
    obtain ⟨Z89, hZ89⟩ := zx (zu Z78 41 hb (Z55 11 hb 0 0) 2 (((Z29 200 x0 0 2) / 16) % 13))
    replace hP := zl_e hP hZ89
    have hZ89I := zI_u hZ78I hZ89 (lo := 0) (hi := 12) (by decide) rfl (by omega) ⟨by decide, by decide⟩ (Or.inl (by decide))
    have t90 : Z89 11 hb 0 1 = Z78 11 hb 0 1 := zu_ne hZ89 (fun q => absurd q.1 (by decide))
    have t91 : Z89 11 hb 0 3 = Z78 11 hb 0 3 := zu_ne hZ89 (fun q => absurd q.1 (by decide))
    have t92 : Z89 11 hb 0 2 = Z78 11 hb 0 2 := zu_ne hZ89 (fun q => absurd q.1 (by decide))
    have t93 : Z89 11 hb 0 4 = Z78 11 hb 0 4 := zu_ne hZ89 (fun q => absurd q.1 (by decide))
    have t94 : Z89 11 hb 0 5 = Z78 11 hb 0 5 := zu_ne hZ89 (fun q => absurd q.1 (by decide))
    have t95 : Z89 11 hb 0 7 = Z78 11 hb 0 7 := zu_ne hZ89 (fun q => absurd q.1 (by decide))
    have t96 : Z89 11 hb 0 8 = Z78 11 hb 0 8 := zu_ne hZ89 (fun q => absurd q.1 (by decide))
    have t97 : Z89 11 hb 0 9 = Z78 11 hb 0 9 := zu_ne hZ89 (fun q => absurd q.1 (by decide))
    have t98 : Z89 11 hb 0 0 = Z78 11 hb 0 0 := zu_ne hZ89 (fun q => absurd q.1 (by decide))
    have t99 : Z89 200 x0 0 1 = Z78 200 x0 0 1 := zu_ne hZ89 (fun q => absurd q.1 (by decide))
    have hZ89K := zK_u hZ78K hZ89 (by decide)
    intro μ9 e9
    replace e9 := e9.trans (zm_wI (Z := Z78) (ν := ν) hZ89 (rfl : ((hb : Nat) : Int) = hb) (i3I (y := (Z55 11 hb 0 0)) (zm_rd (Z := Z55) (ν := ν) (k := 11) (rfl : ((hb : Nat) : Int) = hb) (show ((0 : Nat) : Int) = 0 from rfl) (show ((0 : Nat) : Int) = 0 from rfl)) (by omega) (by omega) (by omega)) (show ((2 : Nat) : Int) = 2 from rfl) (i3R (i3D (zm_rd (Z := Z29) (ν := ν) (k := 200) (rfl : ((x0 : Nat) : Int) = x0) (show ((0 : Nat) : Int) = 0 from rfl) (show ((2 : Nat) : Int) = 2 from rfl)) (show (16 : Int32) = i3 16 from rfl) (by omega) (by omega) (by omega) (by omega)) (show (13 : Int32) = i3 13 from rfl) (by omega) (by omega) (by omega) (by omega)))
    subst e9
    refine wz_i1 rfl ?_
    refine wz_i0 (i3O (n := 5) (show (3 : Int32) = i3 3 from rfl) (by omega) (by omega) (by omega)) ?_
    obtain ⟨Z100, hZ100⟩ := zx (zu Z89 41 hb (Z55 11 hb 0 0) 3 (100 + (((Z42 200 x0 0 2) / 16) % 501)))
    replace hP := zl_e hP hZ100
    have hZ100I := zI_u hZ89I hZ100 (lo := 0) (hi := 600) (by decide) rfl (by omega) ⟨by decide, by decide⟩ (Or.inl (by decide))
    have t101 : Z100 11 hb 0 1 = Z89 11 hb 0 1 := zu_ne hZ100 (fun q => absurd q.1 (by decide))
    have t102 : Z100 11 hb 0 3 = Z89 11 hb 0 3 := zu_ne hZ100 (fun q => absurd q.1 (by decide))
    have t103 : Z100 11 hb 0 2 = Z89 11 hb 0 2 := zu_ne hZ100 (fun q => absurd q.1 (by decide))
    have t104 : Z100 11 hb 0 4 = Z89 11 hb 0 4 := zu_ne hZ100 (fun q => absurd q.1 (by decide))
    have t105 : Z100 11 hb 0 5 = Z89 11 hb 0 5 := zu_ne hZ100 (fun q => absurd q.1 (by decide))
    have t106 : Z100 11 hb 0 7 = Z89 11 hb 0 7 := zu_ne hZ100 (fun q => absurd q.1 (by decide))
    have t107 : Z100 11 hb 0 8 = Z89 11 hb 0 8 := zu_ne hZ100 (fun q => absurd q.1 (by decide))
    have t108 : Z100 11 hb 0 9 = Z89 11 hb 0 9 := zu_ne hZ100 (fun q => absurd q.1 (by decide))
    have t109 : Z100 11 hb 0 0 = Z89 11 hb 0 0 := zu_ne hZ100 (fun q => absurd q.1 (by decide))
    have t110 : Z100 200 x0 0 1 = Z89 200 x0 0 1 := zu_ne hZ100 (fun q => absurd q.1 (by decide))
    have hZ100K := zK_u hZ89K hZ100 (by decide)
    intro μ9 e9
    replace e9 := e9.trans (zm_wI (Z := Z89) (ν := ν) hZ100 (rfl : ((hb : Nat) : Int) = hb) (i3I (y := (Z55 11 hb 0 0)) (zm_rd (Z := Z55) (ν := ν) (k := 11) (rfl : ((hb : Nat) : Int) = hb) (show ((0 : Nat) : Int) = 0 from rfl) (show ((0 : Nat) : Int) = 0 from rfl)) (by omega) (by omega) (by omega)) (show ((3 : Nat) : Int) = 3 from rfl) (i3A (show (100 : Int32) = i3 100 from rfl) (i3R (i3D (zm_rd (Z := Z42) (ν := ν) (k := 200) (rfl : ((x0 : Nat) : Int) = x0) (show ((0 : Nat) : Int) = 0 from rfl) (show ((2 : Nat) : Int) = 2 from rfl)) (show (16 : Int32) = i3 16 from rfl) (by omega) (by omega) (by omega) (by omega)) (show (501 : Int32) = i3 501 from rfl) (by omega) (by omega) (by omega) (by omega))))
    subst e9
    refine wz_i1 rfl ?_
    refine wz_i0 (i3O (n := 5) (show (4 : Int32) = i3 4 from rfl) (by omega) (by omega) (by omega)) ?_
    have r111 := zI_xr (n := x0) hZ55I
    have q112 := zu_at hZ55
    obtain ⟨Z113, hZ113⟩ := zx (zu Z100 41 hb (Z55 11 hb 0 0) 4 (10 + (((Z55 200 x0 0 2) / 16) % 90)))
    replace hP := zl_e hP hZ113
    have hZ113I := zI_u hZ100I hZ113 (lo := 0) (hi := 99) (by decide) rfl (by omega) ⟨by decide, by decide⟩ (Or.inl (by decide))
    have t114 : Z113 11 hb 0 1 = Z100 11 hb 0 1 := zu_ne hZ113 (fun q => absurd q.1 (by decide))
    have t115 : Z113 11 hb 0 3 = Z100 11 hb 0 3 := zu_ne hZ113 (fun q => absurd q.1 (by decide))
    have t116 : Z113 11 hb 0 2 = Z100 11 hb 0 2 := zu_ne hZ113 (fun q => absurd q.1 (by decide))
    have t117 : Z113 11 hb 0 4 = Z100 11 hb 0 4 := zu_ne hZ113 (fun q => absurd q.1 (by decide))
    have t118 : Z113 11 hb 0 5 = Z100 11 hb 0 5 := zu_ne hZ113 (fun q => absurd q.1 (by decide))
    have t119 : Z113 11 hb 0 7 = Z100 11 hb 0 7 := zu_ne hZ113 (fun q => absurd q.1 (by decide))
    have t120 : Z113 11 hb 0 8 = Z100 11 hb 0 8 := zu_ne hZ113 (fun q => absurd q.1 (by decide))
    have t121 : Z113 11 hb 0 9 = Z100 11 hb 0 9 := zu_ne hZ113 (fun q => absurd q.1 (by decide))
    have t122 : Z113 11 hb 0 0 = Z100 11 hb 0 0 := zu_ne hZ113 (fun q => absurd q.1 (by decide))
    have t123 : Z113 200 x0 0 1 = Z100 200 x0 0 1 := zu_ne hZ113 (fun q => absurd q.1 (by decide))
    have hZ113K := zK_u hZ100K hZ113 (by decide)
    intro μ9 e9
    replace e9 := e9.trans (zm_wI (Z := Z100) (ν := ν) hZ113 (rfl : ((hb : Nat) : Int) = hb) (i3I (y := (Z55 11 hb 0 0)) (zm_rd (Z := Z55) (ν := ν) (k := 11) (rfl : ((hb : Nat) : Int) = hb) (show ((0 : Nat) : Int) = 0 from rfl) (show ((0 : Nat) : Int) = 0 from rfl)) (by omega) (by omega) (by omega)) (show ((4 : Nat) : Int) = 4 from rfl) (i3A (show (10 : Int32) = i3 10 from rfl) (i3R (i3D (zm_rd (Z := Z55) (ν := ν) (k := 200) (rfl : ((x0 : Nat) : Int) = x0) (show ((0 : Nat) : Int) = 0 from rfl) (show ((2 : Nat) : Int) = 2 from rfl)) (show (16 : Int32) = i3 16 from rfl) (by omega) (by omega) (by omega) (by omega)) (show (90 : Int32) = i3 90 from rfl) (by omega) (by omega) (by omega) (by omega))))
    subst e9
    refine wz_i1 rfl ?_
    refine wz_rko (r := (11, _, _)) rfl ?_
    refine wz_i1 rfl ?_
    refine wz_i0 (i3O (n := 17) (show (0 : Int32) = i3 0 from rfl) (by omega) (by omega) (by omega)) ?_
    refine wz_i1 rfl ?_
    refine wz_i0 (i3O (n := 17) (show (0 : Int32) = i3 0 from rfl) (by omega) (by omega) (by omega)) ?_
    have r124 := zI_k hZ113I 11 hb 0 0 (lo := 0) (hi := 5) (by decide) rfl
    have q125 := (zu_ne (k' := 11) (b' := hb) (i' := 0) (j' := 0) hZ113 (fun q => absurd q.1 (by decide))).trans ((zu_ne (k' := 11) (b' := hb) (i' := 0) (j' := 0) hZ100 (fun q => absurd q.1 (by decide))).trans ((zu_ne (k' := 11) (b' := hb) (i' := 0) (j' := 0) hZ89 (fun q => absurd q.1 (by decide))).trans ((zu_ne (k' := 11) (b' := hb) (i' := 0) (j' := 0) hZ78 (fun q => absurd q.1 (by decide))).trans (zu_ne (k' := 11) (b' := hb) (i' := 0) (j' := 0) hZ67 (fun q => absurd q.1 (by decide))))))
    obtain ⟨Z126, hZ126⟩ := zx (zu Z113 11 hb 0 0 ((Z113 11 hb 0 0) + 1))
    replace hP := zl_e hP hZ126
    have hZ126I := zI_u hZ113I hZ126 (lo := 0) (hi := 5) (by decide) rfl (by omega) ⟨by decide, by decide⟩ (Or.inl (by decide))
    have t127 : Z126 11 hb 0 1 = Z113 11 hb 0 1 := zu_ne hZ126 (fun q => absurd q.2.2.2 (by decide))
    have t128 : Z126 11 hb 0 3 = Z113 11 hb 0 3 := zu_ne hZ126 (fun q => absurd q.2.2.2 (by decide))
    have t129 : Z126 11 hb 0 2 = Z113 11 hb 0 2 := zu_ne hZ126 (fun q => absurd q.2.2.2 (by decide))
    have t130 : Z126 11 hb 0 4 = Z113 11 hb 0 4 := zu_ne hZ126 (fun q => absurd q.2.2.2 (by decide))
    have t131 : Z126 11 hb 0 5 = Z113 11 hb 0 5 := zu_ne hZ126 (fun q => absurd q.2.2.2 (by decide))
    have t132 : Z126 11 hb 0 7 = Z113 11 hb 0 7 := zu_ne hZ126 (fun q => absurd q.2.2.2 (by decide))
    have t133 : Z126 11 hb 0 8 = Z113 11 hb 0 8 := zu_ne hZ126 (fun q => absurd q.2.2.2 (by decide))
    have t134 : Z126 11 hb 0 9 = Z113 11 hb 0 9 := zu_ne hZ126 (fun q => absurd q.2.2.2 (by decide))
    have t135 := zu_at hZ126
    have t136 : Z126 200 x0 0 1 = Z113 200 x0 0 1 := zu_ne hZ126 (fun q => absurd q.1 (by decide))
    have hZ126K := zK_u hZ113K hZ126 (by decide)
    intro μ9 e9
    replace e9 := e9.trans (zm_wI (Z := Z113) (ν := ν) hZ126 (rfl : ((hb : Nat) : Int) = hb) (show ((0 : Nat) : Int) = 0 from rfl) (show ((0 : Nat) : Int) = 0 from rfl) (i3A (zm_rd (Z := Z113) (ν := ν) (k := 11) (rfl : ((hb : Nat) : Int) = hb) (show ((0 : Nat) : Int) = 0 from rfl) (show ((0 : Nat) : Int) = 0 from rfl)) (show (1 : Int32) = i3 1 from rfl)))
    subst e9
    obtain ⟨m2, rfl⟩ : ∃ m2, m = m2 + 1 := ⟨m - 1, by omega⟩
    exact wz_k1 ⟨m2, by omega, Z126, (x2 + 1), (zconso rfl (zconso (zvo (rfl : i3 x1 = i3 x1)) (zconso (zvo (i3A (rfl : i3 x2 = i3 x2) (show (1 : Int32) = i3 1 from rfl))) (zconso rfl (zconso rfl (zconso rfl (zconso rfl (zconso rfl (zconso rfl (zconso rfl rfl)))))))))), rfl, hZ126I, hZ126K, by omega, by omega, by omega, by omega, by omega, by omega, by omega, by omega, by omega, by omega, by omega, by omega,  hP⟩

/- yX8_tellGoods -/
def zl_148_2 (x0 : Int) (hb : Int) (x1 : Int) (x2 : Int) : Nat → qz_Z → Int → qz_Z × Int
  | 0, Z, x3 => (Z, x3)
  | m + 1, Z, x3 => (if x2 ≤ x3 then (Z, x3) else (zlet (zu Z 200 x0 0 2 (((25173 * (Z 200 x0 0 2)) + 13849) % 65536)) (fun Z3 => (zlet (zu Z3 200 x0 0 2 (((25173 * (Z3 200 x0 0 2)) + 13849) % 65536)) (fun Z16 => (zlet (zu Z16 42 hb (Z16 11 hb 0 1) 0 (((Z3 200 x0 0 2) / 16) % 26)) (fun Z28 => (zlet (zu Z28 42 hb (Z16 11 hb 0 1) 1 (((Z16 200 x0 0 2) / 16) % 10)) (fun Z41 => (zlet (zu Z41 11 hb 0 1 ((Z41 11 hb 0 1) + 1)) (fun Z54 => zl_148_2 x0 hb x1 x2 m Z54 (x3 + 1))))))))))))
theorem sl_148_2 {Zs Z : qz_Z} {ν : qz_N} (x0 : Nat) (hZ : zI (some (some (x0 : Int))) Z) (hK : zK [11, 42, 200] Zs Z) (hb : Nat) (tsn : ∀ Z, qz_tag (zm Z ν) (200, x0, 0) = 2) (rsn : ∀ Z, qz_rm (zm Z ν) 200 x0 0 0 = some (10, hb, 0)) {x1 : Int} (gx1 : 2 ≤ x1 ∧ x1 ≤ 5) {x2 : Int} (gx2 : 2 ≤ x2 ∧ x2 ≤ 6) {x3 : Int} (gx3 : 0 ≤ x3 ∧ x3 ≤ 6) {kc0 : Int} {kc1 : Int} {kc2 : Int} {kc3 : Int} {kc4 : Int} {kc5 : Int} {kc6 : Int} {kc7 : Int} {kc8 : Int} (gr0 : Z 11 hb 0 1 = x3) (gr1 : Z 11 hb 0 0 = kc0) (gr2 : Z 11 hb 0 3 = kc1) (gr3 : Z 11 hb 0 2 = kc2) (gr4 : Z 11 hb 0 4 = kc3) (gr5 : Z 11 hb 0 5 = kc4) (gr6 : Z 11 hb 0 7 = kc5) (gr7 : Z 11 hb 0 8 = kc6) (gr8 : Z 11 hb 0 9 = kc7) (gr9 : Z 200 x0 0 1 = kc8) {k : wz_K} {R : wz_R} {L : qz_L} (hL : qz_fg [true, true, true, true, false, false, false, false, false, false] L = [some (.inr (.inr (some (200, x0, 0)))), some (.inl (i3 x1)), some (.inl (i3 x2)), some (.inl (i3 x3)), none, none, none, none, none, none]) {T : qz_Z × Int} (hP : zE T (zl_148_2 x0 hb x1 x2 ((6 - x3).toNat + 1) Z x3)) (hk : ∀ (L9 : qz_L) (Z9 : qz_Z) (yx3 : Int), qz_fg [true, true, true, false, false, false, false, false, false, false] L9 = [some (.inr (.inr (some (200, x0, 0)))), some (.inl (i3 x1)), some (.inl (i3 x2)), none, none, none, none, none, none, none] → zI (some (some (x0 : Int))) Z9 → zK [11, 42, 200] Zs Z9 → (0 ≤ yx3 ∧ yx3 ≤ 6) → (Z9 11 hb 0 1 = yx3) → (Z9 11 hb 0 0 = kc0) → (Z9 11 hb 0 3 = kc1) → (Z9 11 hb 0 2 = kc2) → (Z9 11 hb 0 4 = kc3) → (Z9 11 hb 0 5 = kc4) → (Z9 11 hb 0 7 = kc5) → (Z9 11 hb 0 8 = kc6) → (Z9 11 hb 0 9 = kc7) → (Z9 200 x0 0 1 = kc8) → zE T ((Z9, yx3)) → k 0 (L9, [], zm Z9 ν)) : wz_loop qb_148_2 65536 k R (L, [], zm Z ν) := by
  refine wz_lp sb_148_2 (fun m x => ∃ Z : qz_Z, ∃ x3 : Int, qz_fg [true, true, true, true, false, false, false, false, false, false] x.1 = [some (.inr (.inr (some (200, x0, 0)))), some (.inl (i3 x1)), some (.inl (i3 x2)), some (.inl (i3 x3)), none, none, none, none, none, none] ∧ x.2 = ([], zm Z ν) ∧ zI (some (some (x0 : Int))) Z ∧ zK [11, 42, 200] Zs Z ∧ m = (6 - x3).toNat ∧ (0 ≤ x3 ∧ x3 ≤ 6) ∧ (Z 11 hb 0 1 = x3) ∧ (Z 11 hb 0 0 = kc0) ∧ (Z 11 hb 0 3 = kc1) ∧ (Z 11 hb 0 2 = kc2) ∧ (Z 11 hb 0 4 = kc3) ∧ (Z 11 hb 0 5 = kc4) ∧ (Z 11 hb 0 7 = kc5) ∧ (Z 11 hb 0 8 = kc6) ∧ (Z 11 hb 0 9 = kc7) ∧ (Z 200 x0 0 1 = kc8) ∧ zE T (zl_148_2 x0 hb x1 x2 (m + 1) Z x3)) ?_ 65536 ((6 - x3).toNat) _ (by omega) ⟨Z, x3, hL, rfl, hZ, hK, rfl, gx3, gr0, gr1, gr2, gr3, gr4, gr5, gr6, gr7, gr8, gr9, hP⟩
  clear hP gr0 gr1 gr2 gr3 gr4 gr5 gr6 gr7 gr8 gr9 gx3 hZ hK hL
  clear x3
  clear Z
  rintro m ⟨L, st, μ⟩ ⟨Z, x3, hL, hx, hZ, hK, hm, gx3, gr0, gr1, gr2, gr3, gr4, gr5, gr6, gr7, gr8, gr9, hP⟩
  cases hx
  refine fb_148_2 x0 (i3 x1) (i3 x2) (i3 x3) _ _ _ _ hL ?_
  have rs := zI_xs (n := x0) hZ
  refine wz_br (i3Le (rfl : i3 x2 = i3 x2) (rfl : i3 x3 = i3 x3) (by omega) (by omega) (by omega) (by omega)) (fun h1 => ?_) (fun h1 => ?_)
  · replace hP := zE_p hP h1
    exact hk _ _ _ (zconso rfl (zconso (zvo (rfl : i3 x1 = i3 x1)) (zconso (zvo (rfl : i3 x2 = i3 x2)) (zconso rfl (zconso rfl (zconso rfl (zconso rfl (zconso rfl (zconso rfl (zconso rfl rfl)))))))))) hZ hK (by omega) (by omega) (by omega) (by omega) (by omega) (by omega) (by omega) (by omega) (by omega) (by omega) (by omega) hP
  · replace hP := zE_n hP h1
    refine wz_i1 (by rw [tsn]; rfl) ?_
    refine wz_rko (rsn _) ?_
    refine wz_i1 (by rw [tsn]; rfl) ?_
    refine wz_i1 (by rw [tsn]; rfl) ?_
    refine wz_i1 (by rw [tsn]; rfl) ?_
    have r2 := zI_xr (n := x0) hZ
    obtain ⟨Z3, hZ3⟩ := zx (zu Z 200 x0 0 2 (((25173 * (Z 200 x0 0 2)) + 13849) % 65536))
    replace hP := zl_e hP hZ3
    have hZ3I := zI_x hZ hZ3 (by omega)
    have t4 : Z3 11 hb 0 0 = Z 11 hb 0 0 := zu_ne hZ3 (fun q => absurd q.1 (by decide))
    have t5 : Z3 11 hb 0 3 = Z 11 hb 0 3 := zu_ne hZ3 (fun q => absurd q.1 (by decide))
    have t6 : Z3 11 hb 0 2 = Z 11 hb 0 2 := zu_ne hZ3 (fun q => absurd q.1 (by decide))
    have t7 : Z3 11 hb 0 4 = Z 11 hb 0 4 := zu_ne hZ3 (fun q => absurd q.1 (by decide))
    have t8 : Z3 11 hb 0 5 = Z 11 hb 0 5 := zu_ne hZ3 (fun q => absurd q.1 (by decide))
    have t9 : Z3 11 hb 0 7 = Z 11 hb 0 7 := zu_ne hZ3 (fun q => absurd q.1 (by decide))
    have t10 : Z3 11 hb 0 8 = Z 11 hb 0 8 := zu_ne hZ3 (fun q => absurd q.1 (by decide))
    have t11 : Z3 11 hb 0 9 = Z 11 hb 0 9 := zu_ne hZ3 (fun q => absurd q.1 (by decide))
    have t12 : Z3 11 hb 0 1 = Z 11 hb 0 1 := zu_ne hZ3 (fun q => absurd q.1 (by decide))
    have t13 : Z3 200 x0 0 1 = Z 200 x0 0 1 := zu_ne hZ3 (fun q => absurd q.2.2.2 (by decide))
    have hZ3K := zK_u hK hZ3 (by decide)
    intro μ9 e9
    replace e9 := e9.trans (zm_wI (Z := Z) (ν := ν) hZ3 (rfl : ((x0 : Nat) : Int) = x0) (show ((0 : Nat) : Int) = 0 from rfl) (show ((2 : Nat) : Int) = 2 from rfl) (i3R (i3A (i3M (show (25173 : Int32) = i3 25173 from rfl) (zm_rd (Z := Z) (ν := ν) (k := 200) (rfl : ((x0 : Nat) : Int) = x0) (show ((0 : Nat) : Int) = 0 from rfl) (show ((2 : Nat) : Int) = 2 from rfl))) (show (13849 : Int32) = i3 13849 from rfl)) (show (65536 : Int32) = i3 65536 from rfl) (by omega) (by omega) (by omega) (by omega)))
    subst e9
    refine wz_i1 (by rw [tsn]; rfl) ?_
    refine wz_i1 (by rw [tsn]; rfl) ?_
    refine wz_i1 (by rw [tsn]; rfl) ?_
    refine wz_i1 (by rw [tsn]; rfl) ?_
    have r14 := zI_xr (n := x0) hZ3I
    have q15 := zu_at hZ3
    obtain ⟨Z16, hZ16⟩ := zx (zu Z3 200 x0 0 2 (((25173 * (Z3 200 x0 0 2)) + 13849) % 65536))
    replace hP := zl_e hP hZ16
    have hZ16I := zI_x hZ3I hZ16 (by omega)
    have t17 : Z16 11 hb 0 0 = Z3 11 hb 0 0 := zu_ne hZ16 (fun q => absurd q.1 (by decide))
    have t18 : Z16 11 hb 0 3 = Z3 11 hb 0 3 := zu_ne hZ16 (fun q => absurd q.1 (by decide))
    have t19 : Z16 11 hb 0 2 = Z3 11 hb 0 2 := zu_ne hZ16 (fun q => absurd q.1 (by decide))
    have t20 : Z16 11 hb 0 4 = Z3 11 hb 0 4 := zu_ne hZ16 (fun q => absurd q.1 (by decide))
    have t21 : Z16 11 hb 0 5 = Z3 11 hb 0 5 := zu_ne hZ16 (fun q => absurd q.1 (by decide))
    have t22 : Z16 11 hb 0 7 = Z3 11 hb 0 7 := zu_ne hZ16 (fun q => absurd q.1 (by decide))
    have t23 : Z16 11 hb 0 8 = Z3 11 hb 0 8 := zu_ne hZ16 (fun q => absurd q.1 (by decide))
    have t24 : Z16 11 hb 0 9 = Z3 11 hb 0 9 := zu_ne hZ16 (fun q => absurd q.1 (by decide))
    have t25 : Z16 11 hb 0 1 = Z3 11 hb 0 1 := zu_ne hZ16 (fun q => absurd q.1 (by decide))
    have t26 : Z16 200 x0 0 1 = Z3 200 x0 0 1 := zu_ne hZ16 (fun q => absurd q.2.2.2 (by decide))
    have hZ16K := zK_u hZ3K hZ16 (by decide)
    intro μ9 e9
    replace e9 := e9.trans (zm_wI (Z := Z3) (ν := ν) hZ16 (rfl : ((x0 : Nat) : Int) = x0) (show ((0 : Nat) : Int) = 0 from rfl) (show ((2 : Nat) : Int) = 2 from rfl) (i3R (i3A (i3M (show (25173 : Int32) = i3 25173 from rfl) (zm_rd (Z := Z3) (ν := ν) (k := 200) (rfl : ((x0 : Nat) : Int) = x0) (show ((0 : Nat) : Int) = 0 from rfl) (show ((2 : Nat) : Int) = 2 from rfl))) (show (13849 : Int32) = i3 13849 from rfl)) (show (65536 : Int32) = i3 65536 from rfl) (by omega) (by omega) (by omega) (by omega)))
    subst e9
    refine wz_i1 (by rw [tsn]; rfl) ?_
    refine wz_i1 rfl ?_
    refine wz_rko (r := (22, _, _)) rfl ?_
    refine wz_i1 rfl ?_
    refine wz_rko (r := (11, _, _)) rfl ?_
    refine wz_i1 rfl ?_
    refine wz_i0 (i3O (n := 17) (show (1 : Int32) = i3 1 from rfl) (by omega) (by omega) (by omega)) ?_
    refine wz_i1 rfl ?_
    have r27 := zI_k hZ16I 11 hb 0 1 (lo := 0) (hi := 6) (by decide) rfl
    refine wz_i0 (i3O (n := 6) (zm_rd (Z := Z16) (ν := ν) (k := 11) (rfl : ((hb : Nat) : Int) = hb) (show ((0 : Nat) : Int) = 0 from rfl) (show ((1 : Nat) : Int) = 1 from rfl)) (by omega) (by omega) (by omega)) ?_
    refine wz_rko (r := (42, _, _)) rfl ?_
    refine wz_i1 rfl ?_
    refine wz_i0 (i3O (n := 7) (show (0 : Int32) = i3 0 from rfl) (by omega) (by omega) (by omega)) ?_
    obtain ⟨Z28, hZ28⟩ := zx (zu Z16 42 hb (Z16 11 hb 0 1) 0 (((Z3 200 x0 0 2) / 16) % 26))
    replace hP := zl_e hP hZ28
    have hZ28I := zI_u hZ16I hZ28 (lo := 0) (hi := 25) (by decide) rfl (by omega) ⟨by decide, by decide⟩ (Or.inl (by decide))
    have t29 : Z28 11 hb 0 0 = Z16 11 hb 0 0 := zu_ne hZ28 (fun q => absurd q.1 (by decide))
    have t30 : Z28 11 hb 0 3 = Z16 11 hb 0 3 := zu_ne hZ28 (fun q => absurd q.1 (by decide))
    have t31 : Z28 11 hb 0 2 = Z16 11 hb 0 2 := zu_ne hZ28 (fun q => absurd q.1 (by decide))
    have t32 : Z28 11 hb 0 4 = Z16 11 hb 0 4 := zu_ne hZ28 (fun q => absurd q.1 (by decide))
    have t33 : Z28 11 hb 0 5 = Z16 11 hb 0 5 := zu_ne hZ28 (fun q => absurd q.1 (by decide))
    have t34 : Z28 11 hb 0 7 = Z16 11 hb 0 7 := zu_ne hZ28 (fun q => absurd q.1 (by decide))
    have t35 : Z28 11 hb 0 8 = Z16 11 hb 0 8 := zu_ne hZ28 (fun q => absurd q.1 (by decide))
    have t36 : Z28 11 hb 0 9 = Z16 11 hb 0 9 := zu_ne hZ28 (fun q => absurd q.1 (by decide))
    have t37 : Z28 11 hb 0 1 = Z16 11 hb 0 1 := zu_ne hZ28 (fun q => absurd q.1 (by decide))
    have t38 : Z28 200 x0 0 1 = Z16 200 x0 0 1 := zu_ne hZ28 (fun q => absurd q.1 (by decide))
    have hZ28K := zK_u hZ16K hZ28 (by decide)
    intro μ9 e9
    replace e9 := e9.trans (zm_wI (Z := Z16) (ν := ν) hZ28 (rfl : ((hb : Nat) : Int) = hb) (i3I (y := (Z16 11 hb 0 1)) (zm_rd (Z := Z16) (ν := ν) (k := 11) (rfl : ((hb : Nat) : Int) = hb) (show ((0 : Nat) : Int) = 0 from rfl) (show ((1 : Nat) : Int) = 1 from rfl)) (by omega) (by omega) (by omega)) (show ((0 : Nat) : Int) = 0 from rfl) (i3R (i3D (zm_rd (Z := Z3) (ν := ν) (k := 200) (rfl : ((x0 : Nat) : Int) = x0) (show ((0 : Nat) : Int) = 0 from rfl) (show ((2 : Nat) : Int) = 2 from rfl)) (show (16 : Int32) = i3 16 from rfl) (by omega) (by omega) (by omega) (by omega)) (show (26 : Int32) = i3 26 from rfl) (by omega) (by omega) (by omega) (by omega)))
    subst e9
    refine wz_i1 rfl ?_
    refine wz_i0 (i3O (n := 7) (show (1 : Int32) = i3 1 from rfl) (by omega) (by omega) (by omega)) ?_
    have r39 := zI_xr (n := x0) hZ16I
    have q40 := zu_at hZ16
    obtain ⟨Z41, hZ41⟩ := zx (zu Z28 42 hb (Z16 11 hb 0 1) 1 (((Z16 200 x0 0 2) / 16) % 10))
    replace hP := zl_e hP hZ41
    have hZ41I := zI_u hZ28I hZ41 (lo := 0) (hi := 9) (by decide) rfl (by omega) ⟨by decide, by decide⟩ (Or.inl (by decide))
    have t42 : Z41 11 hb 0 0 = Z28 11 hb 0 0 := zu_ne hZ41 (fun q => absurd q.1 (by decide))
    have t43 : Z41 11 hb 0 3 = Z28 11 hb 0 3 := zu_ne hZ41 (fun q => absurd q.1 (by decide))
    have t44 : Z41 11 hb 0 2 = Z28 11 hb 0 2 := zu_ne hZ41 (fun q => absurd q.1 (by decide))
    have t45 : Z41 11 hb 0 4 = Z28 11 hb 0 4 := zu_ne hZ41 (fun q => absurd q.1 (by decide))
    have t46 : Z41 11 hb 0 5 = Z28 11 hb 0 5 := zu_ne hZ41 (fun q => absurd q.1 (by decide))
    have t47 : Z41 11 hb 0 7 = Z28 11 hb 0 7 := zu_ne hZ41 (fun q => absurd q.1 (by decide))
    have t48 : Z41 11 hb 0 8 = Z28 11 hb 0 8 := zu_ne hZ41 (fun q => absurd q.1 (by decide))
    have t49 : Z41 11 hb 0 9 = Z28 11 hb 0 9 := zu_ne hZ41 (fun q => absurd q.1 (by decide))
    have t50 : Z41 11 hb 0 1 = Z28 11 hb 0 1 := zu_ne hZ41 (fun q => absurd q.1 (by decide))
    have t51 : Z41 200 x0 0 1 = Z28 200 x0 0 1 := zu_ne hZ41 (fun q => absurd q.1 (by decide))
    have hZ41K := zK_u hZ28K hZ41 (by decide)
    intro μ9 e9
    replace e9 := e9.trans (zm_wI (Z := Z28) (ν := ν) hZ41 (rfl : ((hb : Nat) : Int) = hb) (i3I (y := (Z16 11 hb 0 1)) (zm_rd (Z := Z16) (ν := ν) (k := 11) (rfl : ((hb : Nat) : Int) = hb) (show ((0 : Nat) : Int) = 0 from rfl) (show ((1 : Nat) : Int) = 1 from rfl)) (by omega) (by omega) (by omega)) (show ((1 : Nat) : Int) = 1 from rfl) (i3R (i3D (zm_rd (Z := Z16) (ν := ν) (k := 200) (rfl : ((x0 : Nat) : Int) = x0) (show ((0 : Nat) : Int) = 0 from rfl) (show ((2 : Nat) : Int) = 2 from rfl)) (show (16 : Int32) = i3 16 from rfl) (by omega) (by omega) (by omega) (by omega)) (show (10 : Int32) = i3 10 from rfl) (by omega) (by omega) (by omega) (by omega)))
    subst e9
    refine wz_i1 rfl ?_
    refine wz_rko (r := (11, _, _)) rfl ?_
    refine wz_i1 rfl ?_
    refine wz_i0 (i3O (n := 17) (show (1 : Int32) = i3 1 from rfl) (by omega) (by omega) (by omega)) ?_
    refine wz_i1 rfl ?_
    refine wz_i0 (i3O (n := 17) (show (1 : Int32) = i3 1 from rfl) (by omega) (by omega) (by omega)) ?_
    have r52 := zI_k hZ41I 11 hb 0 1 (lo := 0) (hi := 6) (by decide) rfl
    have q53 := (zu_ne (k' := 11) (b' := hb) (i' := 0) (j' := 1) hZ41 (fun q => absurd q.1 (by decide))).trans (zu_ne (k' := 11) (b' := hb) (i' := 0) (j' := 1) hZ28 (fun q => absurd q.1 (by decide)))
    obtain ⟨Z54, hZ54⟩ := zx (zu Z41 11 hb 0 1 ((Z41 11 hb 0 1) + 1))
    replace hP := zl_e hP hZ54
    have hZ54I := zI_u hZ41I hZ54 (lo := 0) (hi := 6) (by decide) rfl (by omega) ⟨by decide, by decide⟩ (Or.inl (by decide))
    have t55 : Z54 11 hb 0 0 = Z41 11 hb 0 0 := zu_ne hZ54 (fun q => absurd q.2.2.2 (by decide))
    have t56 : Z54 11 hb 0 3 = Z41 11 hb 0 3 := zu_ne hZ54 (fun q => absurd q.2.2.2 (by decide))
    have t57 : Z54 11 hb 0 2 = Z41 11 hb 0 2 := zu_ne hZ54 (fun q => absurd q.2.2.2 (by decide))
    have t58 : Z54 11 hb 0 4 = Z41 11 hb 0 4 := zu_ne hZ54 (fun q => absurd q.2.2.2 (by decide))
    have t59 : Z54 11 hb 0 5 = Z41 11 hb 0 5 := zu_ne hZ54 (fun q => absurd q.2.2.2 (by decide))
    have t60 : Z54 11 hb 0 7 = Z41 11 hb 0 7 := zu_ne hZ54 (fun q => absurd q.2.2.2 (by decide))
    have t61 : Z54 11 hb 0 8 = Z41 11 hb 0 8 := zu_ne hZ54 (fun q => absurd q.2.2.2 (by decide))
    have t62 : Z54 11 hb 0 9 = Z41 11 hb 0 9 := zu_ne hZ54 (fun q => absurd q.2.2.2 (by decide))
    have t63 := zu_at hZ54
    have t64 : Z54 200 x0 0 1 = Z41 200 x0 0 1 := zu_ne hZ54 (fun q => absurd q.1 (by decide))
    have hZ54K := zK_u hZ41K hZ54 (by decide)
    intro μ9 e9
    replace e9 := e9.trans (zm_wI (Z := Z41) (ν := ν) hZ54 (rfl : ((hb : Nat) : Int) = hb) (show ((0 : Nat) : Int) = 0 from rfl) (show ((1 : Nat) : Int) = 1 from rfl) (i3A (zm_rd (Z := Z41) (ν := ν) (k := 11) (rfl : ((hb : Nat) : Int) = hb) (show ((0 : Nat) : Int) = 0 from rfl) (show ((1 : Nat) : Int) = 1 from rfl)) (show (1 : Int32) = i3 1 from rfl)))
    subst e9
    obtain ⟨m2, rfl⟩ : ∃ m2, m = m2 + 1 := ⟨m - 1, by omega⟩
    exact wz_k1 ⟨m2, by omega, Z54, (x3 + 1), (zconso rfl (zconso (zvo (rfl : i3 x1 = i3 x1)) (zconso (zvo (rfl : i3 x2 = i3 x2)) (zconso (zvo (i3A (rfl : i3 x3 = i3 x3) (show (1 : Int32) = i3 1 from rfl))) (zconso rfl (zconso rfl (zconso rfl (zconso rfl (zconso rfl (zconso rfl rfl)))))))))), rfl, hZ54I, hZ54K, by omega, by omega, by omega, by omega, by omega, by omega, by omega, by omega, by omega, by omega, by omega, by omega,  hP⟩

