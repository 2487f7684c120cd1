/-! a season told, c (printed by season.py) -/
/- yX8_tellGoods -/
def zl_148_3 (x0 : Int) (hb : Int) (x1 : Int) (x2 : Int) : Nat → qz_Z → Int → qz_Z × Int
  | 0, Z, x3 => (Z, x3)
  | m + 1, Z, x3 => (if (Z 200 x0 0 1) ≤ x3 then (Z, x3) else (zlet (zu Z 200 x0 0 2 (((25173 * (Z 200 x0 0 2)) + 13849) % 65536)) (fun Z4 => (zlet (zu Z4 200 x0 0 2 (((25173 * (Z4 200 x0 0 2)) + 13849) % 65536)) (fun Z17 => (zlet (zu Z17 200 x0 0 2 (((25173 * (Z17 200 x0 0 2)) + 13849) % 65536)) (fun Z30 => (zlet (zu Z30 200 x0 0 2 (((25173 * (Z30 200 x0 0 2)) + 13849) % 65536)) (fun Z43 => (zlet (zu Z43 200 x0 0 2 (((25173 * (Z43 200 x0 0 2)) + 13849) % 65536)) (fun Z57 => (zlet (zu Z57 44 hb (Z57 11 hb 0 3) 0 (((Z4 200 x0 0 2) / 16) % (max 1 x2))) (fun Z71 => (zlet (zu Z71 44 hb (Z57 11 hb 0 3) 1 (((Z17 200 x0 0 2) / 16) % (max 1 x1))) (fun Z83 => (zlet (zu Z83 44 hb (Z57 11 hb 0 3) 2 (Z83 11 hb 0 13)) (fun Z95 => (zlet (zu Z95 44 hb (Z57 11 hb 0 3) 3 (1 + (((Z30 200 x0 0 2) / 16) % 40))) (fun Z106 => (zlet (zu Z106 44 hb (Z57 11 hb 0 3) 4 (1 + (((Z30 200 x0 0 2) / 16) % 40))) (fun Z117 => (zlet (zu Z117 44 hb (Z57 11 hb 0 3) 5 (((Z57 200 x0 0 2) / 16) % (max 1 ((((1 + (((Z30 200 x0 0 2) / 16) % 40)) * (10 - (Z43 42 hb (((Z4 200 x0 0 2) / 16) % (max 1 x2)) 1))) / 10) + 1)))) (fun Z131 => (zlet (zu Z131 44 hb (Z57 11 hb 0 3) 7 (((Z43 200 x0 0 2) / 16) % 301)) (fun Z142 => (zlet (zu Z142 44 hb (Z57 11 hb 0 3) 9 (-1)) (fun Z153 => (zlet (zu Z153 44 hb (Z57 11 hb 0 3) 10 0) (fun Z164 => (zlet (zu Z164 44 hb (Z57 11 hb 0 3) 12 6) (fun Z175 => (zlet (zu Z175 44 hb (Z57 11 hb 0 3) 15 (-1)) (fun Z186 => (zlet (zu Z186 11 hb 0 3 ((Z186 11 hb 0 3) + 1)) (fun Z199 => (zlet (zu Z199 200 x0 0 2 (((25173 * (Z199 200 x0 0 2)) + 13849) % 65536)) (fun Z212 => (if (((Z212 200 x0 0 2) / 16) % 2) ≠ 1 then zl_148_3 x0 hb x1 x2 m Z212 (x3 + 1) else (zlet (zu Z212 200 x0 0 2 (((25173 * (Z212 200 x0 0 2)) + 13849) % 65536)) (fun Z226 => (zlet (zu Z226 44 hb (Z186 11 hb 0 3) 9 (((Z226 200 x0 0 2) / 16) % 4)) (fun Z239 => zl_148_3 x0 hb x1 x2 m Z239 (x3 + 1)))))))))))))))))))))))))))))))))))))))))))
theorem sl_148_3 {Zs Z : qz_Z} {ν : qz_N} (x0 : Nat) (hZ : zI (some (some (x0 : Int))) Z) (hK : zK [11, 44, 200] Zs Z) (hb : Nat) (tsn : ∀ Z, qz_tag (zm Z ν) (200, x0, 0) = 2) (rsn : ∀ Z, qz_rm (zm Z ν) 200 x0 0 0 = some (10, hb, 0)) {x1 : Int} (gx1 : 2 ≤ x1 ∧ x1 ≤ 5) {x2 : Int} (gx2 : 2 ≤ x2 ∧ x2 ≤ 6) {x3 : Int} (gx3 : 0 ≤ x3 ∧ x3 ≤ 12) {kc0 : Int} {kc1 : Int} {kc2 : Int} {kc3 : Int} {kc4 : Int} {kc5 : Int} {kc6 : Int} {kc7 : Int} {kc8 : Int} (gr0 : Z 11 hb 0 3 = x3) (gr1 : x3 ≤ Z 200 x0 0 1) (gr2 : Z 11 hb 0 0 = kc0) (gr3 : Z 11 hb 0 1 = kc1) (gr4 : Z 11 hb 0 2 = kc2) (gr5 : Z 11 hb 0 4 = kc3) (gr6 : Z 11 hb 0 5 = kc4) (gr7 : Z 11 hb 0 7 = kc5) (gr8 : Z 11 hb 0 8 = kc6) (gr9 : Z 11 hb 0 9 = kc7) (gr10 : Z 200 x0 0 1 = kc8) {k : wz_K} {R : wz_R} {L : qz_L} (hL : qz_fg [true, true, true, true, false, false, false, false, false, false] L = [some (.inr (.inr (some (200, x0, 0)))), some (.inl (i3 x1)), some (.inl (i3 x2)), some (.inl (i3 x3)), none, none, none, none, none, none]) {T : qz_Z × Int} (hP : zE T (zl_148_3 x0 hb x1 x2 ((12 - x3).toNat + 1) Z x3)) (hk : ∀ (L9 : qz_L) (Z9 : qz_Z) (yx3 : Int), qz_fg [false, false, false, false, false, false, false, false, false, false] L9 = [none, none, none, none, none, none, none, none, none, none] → zI (some (some (x0 : Int))) Z9 → zK [11, 44, 200] Zs Z9 → (0 ≤ yx3 ∧ yx3 ≤ 12) → (Z9 11 hb 0 3 = yx3) → (yx3 ≤ Z9 200 x0 0 1) → (Z9 11 hb 0 0 = kc0) → (Z9 11 hb 0 1 = kc1) → (Z9 11 hb 0 2 = kc2) → (Z9 11 hb 0 4 = kc3) → (Z9 11 hb 0 5 = kc4) → (Z9 11 hb 0 7 = kc5) → (Z9 11 hb 0 8 = kc6) → (Z9 11 hb 0 9 = kc7) → (Z9 200 x0 0 1 = kc8) → (Z9 200 x0 0 1 ≤ yx3) → zE T ((Z9, yx3)) → k 0 (L9, [], zm Z9 ν)) : wz_loop qb_148_3 65536 k R (L, [], zm Z ν) := by
  refine wz_lp sb_148_3 (fun m x => ∃ Z : qz_Z, ∃ x3 : Int, qz_fg [true, true, true, true, false, false, false, false, false, false] x.1 = [some (.inr (.inr (some (200, x0, 0)))), some (.inl (i3 x1)), some (.inl (i3 x2)), some (.inl (i3 x3)), none, none, none, none, none, none] ∧ x.2 = ([], zm Z ν) ∧ zI (some (some (x0 : Int))) Z ∧ zK [11, 44, 200] Zs Z ∧ m = (12 - x3).toNat ∧ (0 ≤ x3 ∧ x3 ≤ 12) ∧ (Z 11 hb 0 3 = x3) ∧ (x3 ≤ Z 200 x0 0 1) ∧ (Z 11 hb 0 0 = kc0) ∧ (Z 11 hb 0 1 = kc1) ∧ (Z 11 hb 0 2 = kc2) ∧ (Z 11 hb 0 4 = kc3) ∧ (Z 11 hb 0 5 = kc4) ∧ (Z 11 hb 0 7 = kc5) ∧ (Z 11 hb 0 8 = kc6) ∧ (Z 11 hb 0 9 = kc7) ∧ (Z 200 x0 0 1 = kc8) ∧ zE T (zl_148_3 x0 hb x1 x2 (m + 1) Z x3)) ?_ 65536 ((12 - x3).toNat) _ (by omega) ⟨Z, x3, hL, rfl, hZ, hK, rfl, gx3, gr0, gr1, gr2, gr3, gr4, gr5, gr6, gr7, gr8, gr9, gr10, hP⟩
  clear hP gr0 gr1 gr2 gr3 gr4 gr5 gr6 gr7 gr8 gr9 gr10 gx3 hZ hK hL
  clear x3
  clear Z
  rintro m ⟨L, st, μ⟩ ⟨Z, x3, hL, hx, hZ, hK, hm, gx3, gr0, gr1, gr2, gr3, gr4, gr5, gr6, gr7, gr8, gr9, gr10, hP⟩
  cases hx
  refine fb_148_3 x0 (i3 x1) (i3 x2) (i3 x3) _ _ _ _ hL ?_
  have rs := zI_xs (n := x0) hZ
  refine wz_i1 (by rw [tsn]; rfl) ?_
  have r1 := zI_xs (n := x0) hZ
  refine wz_br (i3Le (zm_rd (Z := Z) (ν := ν) (k := 200) (rfl : ((x0 : Nat) : Int) = x0) (show ((0 : Nat) : Int) = 0 from rfl) (show ((1 : Nat) : Int) = 1 from rfl)) (rfl : i3 x3 = i3 x3) (by omega) (by omega) (by omega) (by omega)) (fun h2 => ?_) (fun h2 => ?_)
  · replace hP := zE_p hP h2
    exact hk _ _ _ (zconso rfl (zconso rfl (zconso rfl (zconso rfl (zconso rfl (zconso rfl (zconso rfl (zconso rfl (zconso rfl (zconso rfl rfl)))))))))) hZ hK (by omega) (by omega) (by omega) (by omega) (by omega) (by omega) (by omega) (by omega) (by omega) (by omega) (by omega) (by omega) (by omega) hP
  · replace hP := zE_n hP h2
    refine wz_i1 (by rw [tsn]; rfl) ?_
    refine wz_i1 (by rw [tsn]; rfl) ?_
    refine wz_i1 (by rw [tsn]; rfl) ?_
    have r3 := zI_xr (n := x0) hZ
    obtain ⟨Z4, hZ4⟩ := zx (zu Z 200 x0 0 2 (((25173 * (Z 200 x0 0 2)) + 13849) % 65536))
    replace hP := zl_e hP hZ4
    have hZ4I := zI_x hZ hZ4 (by omega)
    have t5 : Z4 11 hb 0 0 = Z 11 hb 0 0 := zu_ne hZ4 (fun q => absurd q.1 (by decide))
    have t6 : Z4 11 hb 0 1 = Z 11 hb 0 1 := zu_ne hZ4 (fun q => absurd q.1 (by decide))
    have t7 : Z4 11 hb 0 2 = Z 11 hb 0 2 := zu_ne hZ4 (fun q => absurd q.1 (by decide))
    have t8 : Z4 11 hb 0 4 = Z 11 hb 0 4 := zu_ne hZ4 (fun q => absurd q.1 (by decide))
    have t9 : Z4 11 hb 0 5 = Z 11 hb 0 5 := zu_ne hZ4 (fun q => absurd q.1 (by decide))
    have t10 : Z4 11 hb 0 7 = Z 11 hb 0 7 := zu_ne hZ4 (fun q => absurd q.1 (by decide))
    have t11 : Z4 11 hb 0 8 = Z 11 hb 0 8 := zu_ne hZ4 (fun q => absurd q.1 (by decide))
    have t12 : Z4 11 hb 0 9 = Z 11 hb 0 9 := zu_ne hZ4 (fun q => absurd q.1 (by decide))
    have t13 : Z4 11 hb 0 3 = Z 11 hb 0 3 := zu_ne hZ4 (fun q => absurd q.1 (by decide))
    have t14 : Z4 200 x0 0 1 = Z 200 x0 0 1 := zu_ne hZ4 (fun q => absurd q.2.2.2 (by decide))
    have hZ4K := zK_u hK hZ4 (by decide)
    intro μ9 e9
    replace e9 := e9.trans (zm_wI (Z := Z) (ν := ν) hZ4 (rfl : ((x0 : Nat) : Int) = x0) (show ((0 : Nat) : Int) = 0 from rfl) (show ((2 : Nat) : Int) = 2 from rfl) (i3R (i3A (i3M (show (25173 : Int32) = i3 25173 from rfl) (zm_rd (Z := Z) (ν := ν) (k := 200) (rfl : ((x0 : Nat) : Int) = x0) (show ((0 : Nat) : Int) = 0 from rfl) (show ((2 : Nat) : Int) = 2 from rfl))) (show (13849 : Int32) = i3 13849 from rfl)) (show (65536 : Int32) = i3 65536 from rfl) (by omega) (by omega) (by omega) (by omega)))
    subst e9
    refine wz_i1 (by rw [tsn]; rfl) ?_
    refine wz_i0 (i3N0 (i3Mx (show (1 : Int32) = i3 1 from rfl) (rfl : i3 x2 = i3 x2) (by omega) (by omega) (by omega) (by omega)) (by omega) (by omega) (by omega)) ?_
    refine wz_i1 (by rw [tsn]; rfl) ?_
    refine wz_i1 (by rw [tsn]; rfl) ?_
    refine wz_i1 (by rw [tsn]; rfl) ?_
    have r15 := zI_xr (n := x0) hZ4I
    have q16 := zu_at hZ4
    obtain ⟨Z17, hZ17⟩ := zx (zu Z4 200 x0 0 2 (((25173 * (Z4 200 x0 0 2)) + 13849) % 65536))
    replace hP := zl_e hP hZ17
    have hZ17I := zI_x hZ4I hZ17 (by omega)
    have t18 : Z17 11 hb 0 0 = Z4 11 hb 0 0 := zu_ne hZ17 (fun q => absurd q.1 (by decide))
    have t19 : Z17 11 hb 0 1 = Z4 11 hb 0 1 := zu_ne hZ17 (fun q => absurd q.1 (by decide))
    have t20 : Z17 11 hb 0 2 = Z4 11 hb 0 2 := zu_ne hZ17 (fun q => absurd q.1 (by decide))
    have t21 : Z17 11 hb 0 4 = Z4 11 hb 0 4 := zu_ne hZ17 (fun q => absurd q.1 (by decide))
    have t22 : Z17 11 hb 0 5 = Z4 11 hb 0 5 := zu_ne hZ17 (fun q => absurd q.1 (by decide))
    have t23 : Z17 11 hb 0 7 = Z4 11 hb 0 7 := zu_ne hZ17 (fun q => absurd q.1 (by decide))
    have t24 : Z17 11 hb 0 8 = Z4 11 hb 0 8 := zu_ne hZ17 (fun q => absurd q.1 (by decide))
    have t25 : Z17 11 hb 0 9 = Z4 11 hb 0 9 := zu_ne hZ17 (fun q => absurd q.1 (by decide))
    have t26 : Z17 11 hb 0 3 = Z4 11 hb 0 3 := zu_ne hZ17 (fun q => absurd q.1 (by decide))
    have t27 : Z17 200 x0 0 1 = Z4 200 x0 0 1 := zu_ne hZ17 (fun q => absurd q.2.2.2 (by decide))
    have hZ17K := zK_u hZ4K hZ17 (by decide)
    intro μ9 e9
    replace e9 := e9.trans (zm_wI (Z := Z4) (ν := ν) hZ17 (rfl : ((x0 : Nat) : Int) = x0) (show ((0 : Nat) : Int) = 0 from rfl) (show ((2 : Nat) : Int) = 2 from rfl) (i3R (i3A (i3M (show (25173 : Int32) = i3 25173 from rfl) (zm_rd (Z := Z4) (ν := ν) (k := 200) (rfl : ((x0 : Nat) : Int) = x0) (show ((0 : Nat) : Int) = 0 from rfl) (show ((2 : Nat) : Int) = 2 from rfl))) (show (13849 : Int32) = i3 13849 from rfl)) (show (65536 : Int32) = i3 65536 from rfl) (by omega) (by omega) (by omega) (by omega)))
    subst e9
    refine wz_i1 (by rw [tsn]; rfl) ?_
    refine wz_i0 (i3N0 (i3Mx (show (1 : Int32) = i3 1 from rfl) (rfl : i3 x1 = i3 x1) (by omega) (by omega) (by omega) (by omega)) (by omega) (by omega) (by omega)) ?_
    refine wz_i1 (by rw [tsn]; rfl) ?_
    refine wz_i1 (by rw [tsn]; rfl) ?_
    refine wz_i1 (by rw [tsn]; rfl) ?_
    have r28 := zI_xr (n := x0) hZ17I
    have q29 := zu_at hZ17
    obtain ⟨Z30, hZ30⟩ := zx (zu Z17 200 x0 0 2 (((25173 * (Z17 200 x0 0 2)) + 13849) % 65536))
    replace hP := zl_e hP hZ30
    have hZ30I := zI_x hZ17I hZ30 (by omega)
    have t31 : Z30 11 hb 0 0 = Z17 11 hb 0 0 := zu_ne hZ30 (fun q => absurd q.1 (by decide))
    have t32 : Z30 11 hb 0 1 = Z17 11 hb 0 1 := zu_ne hZ30 (fun q => absurd q.1 (by decide))
    have t33 : Z30 11 hb 0 2 = Z17 11 hb 0 2 := zu_ne hZ30 (fun q => absurd q.1 (by decide))
    have t34 : Z30 11 hb 0 4 = Z17 11 hb 0 4 := zu_ne hZ30 (fun q => absurd q.1 (by decide))
    have t35 : Z30 11 hb 0 5 = Z17 11 hb 0 5 := zu_ne hZ30 (fun q => absurd q.1 (by decide))
    have t36 : Z30 11 hb 0 7 = Z17 11 hb 0 7 := zu_ne hZ30 (fun q => absurd q.1 (by decide))
    have t37 : Z30 11 hb 0 8 = Z17 11 hb 0 8 := zu_ne hZ30 (fun q => absurd q.1 (by decide))
    have t38 : Z30 11 hb 0 9 = Z17 11 hb 0 9 := zu_ne hZ30 (fun q => absurd q.1 (by decide))
    have t39 : Z30 11 hb 0 3 = Z17 11 hb 0 3 := zu_ne hZ30 (fun q => absurd q.1 (by decide))
    have t40 : Z30 200 x0 0 1 = Z17 200 x0 0 1 := zu_ne hZ30 (fun q => absurd q.2.2.2 (by decide))
    have hZ30K := zK_u hZ17K hZ30 (by decide)
    intro μ9 e9
    replace e9 := e9.trans (zm_wI (Z := Z17) (ν := ν) hZ30 (rfl : ((x0 : Nat) : Int) = x0) (show ((0 : Nat) : Int) = 0 from rfl) (show ((2 : Nat) : Int) = 2 from rfl) (i3R (i3A (i3M (show (25173 : Int32) = i3 25173 from rfl) (zm_rd (Z := Z17) (ν := ν) (k := 200) (rfl : ((x0 : Nat) : Int) = x0) (show ((0 : Nat) : Int) = 0 from rfl) (show ((2 : Nat) : Int) = 2 from rfl))) (show (13849 : Int32) = i3 13849 from rfl)) (show (65536 : Int32) = i3 65536 from rfl) (by omega) (by omega) (by omega) (by omega)))
    subst e9
    refine wz_i1 (by rw [tsn]; rfl) ?_
    refine wz_i1 (by rw [tsn]; rfl) ?_
    refine wz_i1 (by rw [tsn]; rfl) ?_
    refine wz_i1 (by rw [tsn]; rfl) ?_
    have r41 := zI_xr (n := x0) hZ30I
    have q42 := zu_at hZ30
    obtain ⟨Z43, hZ43⟩ := zx (zu Z30 200 x0 0 2 (((25173 * (Z30 200 x0 0 2)) + 13849) % 65536))
    replace hP := zl_e hP hZ43
    have hZ43I := zI_x hZ30I hZ43 (by omega)
    have t44 : Z43 11 hb 0 0 = Z30 11 hb 0 0 := zu_ne hZ43 (fun q => absurd q.1 (by decide))
    have t45 : Z43 11 hb 0 1 = Z30 11 hb 0 1 := zu_ne hZ43 (fun q => absurd q.1 (by decide))
    have t46 : Z43 11 hb 0 2 = Z30 11 hb 0 2 := zu_ne hZ43 (fun q => absurd q.1 (by decide))
    have t47 : Z43 11 hb 0 4 = Z30 11 hb 0 4 := zu_ne hZ43 (fun q => absurd q.1 (by decide))
    have t48 : Z43 11 hb 0 5 = Z30 11 hb 0 5 := zu_ne hZ43 (fun q => absurd q.1 (by decide))
    have t49 : Z43 11 hb 0 7 = Z30 11 hb 0 7 := zu_ne hZ43 (fun q => absurd q.1 (by decide))
    have t50 : Z43 11 hb 0 8 = Z30 11 hb 0 8 := zu_ne hZ43 (fun q => absurd q.1 (by decide))
    have t51 : Z43 11 hb 0 9 = Z30 11 hb 0 9 := zu_ne hZ43 (fun q => absurd q.1 (by decide))
    have t52 : Z43 11 hb 0 3 = Z30 11 hb 0 3 := zu_ne hZ43 (fun q => absurd q.1 (by decide))
    have t53 : Z43 200 x0 0 1 = Z30 200 x0 0 1 := zu_ne hZ43 (fun q => absurd q.2.2.2 (by decide))
    have hZ43K := zK_u hZ30K hZ43 (by decide)
    intro μ9 e9
    replace e9 := e9.trans (zm_wI (Z := Z30) (ν := ν) hZ43 (rfl : ((x0 : Nat) : Int) = x0) (show ((0 : Nat) : Int) = 0 from rfl) (show ((2 : Nat) : Int) = 2 from rfl) (i3R (i3A (i3M (show (25173 : Int32) = i3 25173 from rfl) (zm_rd (Z := Z30) (ν := ν) (k := 200) (rfl : ((x0 : Nat) : Int) = x0) (show ((0 : Nat) : Int) = 0 from rfl) (show ((2 : Nat) : Int) = 2 from rfl))) (show (13849 : Int32) = i3 13849 from rfl)) (show (65536 : Int32) = i3 65536 from rfl) (by omega) (by omega) (by omega) (by omega)))
    subst e9
    refine wz_i1 (by rw [tsn]; rfl) ?_
    refine wz_i1 (by rw [tsn]; rfl) ?_
    refine wz_rko (rsn _) ?_
    refine wz_i1 rfl ?_
    refine wz_rko (r := (22, _, _)) rfl ?_
    refine wz_i1 rfl ?_
    have r54 := z_mod ((Z4 200 x0 0 2) / 16) (y := (max 1 x2)) (by omega)
    refine wz_i0 (i3O (n := 6) (i3R (i3D (zm_rd (Z := Z4) (ν := ν) (k := 200) (rfl : ((x0 : Nat) : Int) = x0) (show ((0 : Nat) : Int) = 0 from rfl) (show ((2 : Nat) : Int) = 2 from rfl)) (show (16 : Int32) = i3 16 from rfl) (by omega) (by omega) (by omega) (by omega)) (i3Mx (show (1 : Int32) = i3 1 from rfl) (rfl : i3 x2 = i3 x2) (by omega) (by omega) (by omega) (by omega)) (by omega) (by omega) (by omega) (by omega)) (by omega) (by omega) (by omega)) ?_
    refine wz_rko (r := (42, _, _)) rfl ?_
    refine wz_i1 rfl ?_
    refine wz_i0 (i3O (n := 7) (show (1 : Int32) = i3 1 from rfl) (by omega) (by omega) (by omega)) ?_
    refine wz_i1 (by rw [tsn]; rfl) ?_
    refine wz_i1 (by rw [tsn]; rfl) ?_
    refine wz_i1 (by rw [tsn]; rfl) ?_
    have r55 := zI_xr (n := x0) hZ43I
    have q56 := zu_at hZ43
    obtain ⟨Z57, hZ57⟩ := zx (zu Z43 200 x0 0 2 (((25173 * (Z43 200 x0 0 2)) + 13849) % 65536))
    replace hP := zl_e hP hZ57
    have hZ57I := zI_x hZ43I hZ57 (by omega)
    have t58 : Z57 11 hb 0 0 = Z43 11 hb 0 0 := zu_ne hZ57 (fun q => absurd q.1 (by decide))
    have t59 : Z57 11 hb 0 1 = Z43 11 hb 0 1 := zu_ne hZ57 (fun q => absurd q.1 (by decide))
    have t60 : Z57 11 hb 0 2 = Z43 11 hb 0 2 := zu_ne hZ57 (fun q => absurd q.1 (by decide))
    have t61 : Z57 11 hb 0 4 = Z43 11 hb 0 4 := zu_ne hZ57 (fun q => absurd q.1 (by decide))
    have t62 : Z57 11 hb 0 5 = Z43 11 hb 0 5 := zu_ne hZ57 (fun q => absurd q.1 (by decide))
    have t63 : Z57 11 hb 0 7 = Z43 11 hb 0 7 := zu_ne hZ57 (fun q => absurd q.1 (by decide))
    have t64 : Z57 11 hb 0 8 = Z43 11 hb 0 8 := zu_ne hZ57 (fun q => absurd q.1 (by decide))
    have t65 : Z57 11 hb 0 9 = Z43 11 hb 0 9 := zu_ne hZ57 (fun q => absurd q.1 (by decide))
    have t66 : Z57 11 hb 0 3 = Z43 11 hb 0 3 := zu_ne hZ57 (fun q => absurd q.1 (by decide))
    have t67 : Z57 200 x0 0 1 = Z43 200 x0 0 1 := zu_ne hZ57 (fun q => absurd q.2.2.2 (by decide))
    have hZ57K := zK_u hZ43K hZ57 (by decide)
    intro μ9 e9
    replace e9 := e9.trans (zm_wI (Z := Z43) (ν := ν) hZ57 (rfl : ((x0 : Nat) : Int) = x0) (show ((0 : Nat) : Int) = 0 from rfl) (show ((2 : Nat) : Int) = 2 from rfl) (i3R (i3A (i3M (show (25173 : Int32) = i3 25173 from rfl) (zm_rd (Z := Z43) (ν := ν) (k := 200) (rfl : ((x0 : Nat) : Int) = x0) (show ((0 : Nat) : Int) = 0 from rfl) (show ((2 : Nat) : Int) = 2 from rfl))) (show (13849 : Int32) = i3 13849 from rfl)) (show (65536 : Int32) = i3 65536 from rfl) (by omega) (by omega) (by omega) (by omega)))
    subst e9
    refine wz_i1 (by rw [tsn]; rfl) ?_
    have r68 := zI_k hZ43I 42 hb (((Z4 200 x0 0 2) / 16) % (max 1 x2)) 1 (lo := 0) (hi := 9) (by decide) rfl
    have r69 := z_mul (x := (1 + (((Z30 200 x0 0 2) / 16) % 40))) (y := (10 - (Z43 42 hb (((Z4 200 x0 0 2) / 16) % (max 1 x2)) 1))) (a := 40) (b := 10) (by omega) (by omega) (by omega) (by omega)
    refine wz_i0 (i3N0 (i3Mx (show (1 : Int32) = i3 1 from rfl) (i3A (i3D (i3M (i3A (show (1 : Int32) = i3 1 from rfl) (i3R (i3D (zm_rd (Z := Z30) (ν := ν) (k := 200) (rfl : ((x0 : Nat) : Int) = x0) (show ((0 : Nat) : Int) = 0 from rfl) (show ((2 : Nat) : Int) = 2 from rfl)) (show (16 : Int32) = i3 16 from rfl) (by omega) (by omega) (by omega) (by omega)) (show (40 : Int32) = i3 40 from rfl) (by omega) (by omega) (by omega) (by omega))) (i3S (show (10 : Int32) = i3 10 from rfl) (zm_rd (Z := Z43) (ν := ν) (k := 42) (rfl : ((hb : Nat) : Int) = hb) (i3I (y := (((Z4 200 x0 0 2) / 16) % (max 1 x2))) (i3R (i3D (zm_rd (Z := Z4) (ν := ν) (k := 200) (rfl : ((x0 : Nat) : Int) = x0) (show ((0 : Nat) : Int) = 0 from rfl) (show ((2 : Nat) : Int) = 2 from rfl)) (show (16 : Int32) = i3 16 from rfl) (by omega) (by omega) (by omega) (by omega)) (i3Mx (show (1 : Int32) = i3 1 from rfl) (rfl : i3 x2 = i3 x2) (by omega) (by omega) (by omega) (by omega)) (by omega) (by omega) (by omega) (by omega)) (by omega) (by omega) (by omega)) (show ((1 : Nat) : Int) = 1 from rfl)))) (show (10 : Int32) = i3 10 from rfl) (by omega) (by omega) (by omega) (by omega)) (show (1 : Int32) = i3 1 from rfl)) (by omega) (by omega) (by omega) (by omega)) (by omega) (by omega) (by omega)) ?_
    refine wz_i1 (by rw [tsn]; rfl) ?_
    refine wz_rko (rsn _) ?_
    refine wz_i1 rfl ?_
    refine wz_rko (r := (24, _, _)) rfl ?_
    refine wz_i1 rfl ?_
    refine wz_rko (r := (11, _, _)) rfl ?_
    refine wz_i1 rfl ?_
    refine wz_i0 (i3O (n := 17) (show (3 : Int32) = i3 3 from rfl) (by omega) (by omega) (by omega)) ?_
    refine wz_i1 rfl ?_
    have r70 := zI_k hZ57I 11 hb 0 3 (lo := 0) (hi := 48) (by decide) rfl
    refine wz_i0 (i3O (n := 48) (zm_rd (Z := Z57) (ν := ν) (k := 11) (rfl : ((hb : Nat) : Int) = hb) (show ((0 : Nat) : Int) = 0 from rfl) (show ((3 : Nat) : Int) = 3 from rfl)) (by omega) (by omega) (by omega)) ?_
    refine wz_rko (r := (44, _, _)) rfl ?_
    refine wz_i1 rfl ?_
    refine wz_i0 (i3O (n := 16) (show (0 : Int32) = i3 0 from rfl) (by omega) (by omega) (by omega)) ?_
    obtain ⟨Z71, hZ71⟩ := zx (zu Z57 44 hb (Z57 11 hb 0 3) 0 (((Z4 200 x0 0 2) / 16) % (max 1 x2)))
    replace hP := zl_e hP hZ71
    have hZ71I := zI_u hZ57I hZ71 (lo := 0) (hi := 5) (by decide) rfl (by omega) ⟨by decide, by decide⟩ (Or.inl (by decide))
    have t72 : Z71 11 hb 0 0 = Z57 11 hb 0 0 := zu_ne hZ71 (fun q => absurd q.1 (by decide))
    have t73 : Z71 11 hb 0 1 = Z57 11 hb 0 1 := zu_ne hZ71 (fun q => absurd q.1 (by decide))
    have t74 : Z71 11 hb 0 2 = Z57 11 hb 0 2 := zu_ne hZ71 (fun q => absurd q.1 (by decide))
    have t75 : Z71 11 hb 0 4 = Z57 11 hb 0 4 := zu_ne hZ71 (fun q => absurd q.1 (by decide))
    have t76 : Z71 11 hb 0 5 = Z57 11 hb 0 5 := zu_ne hZ71 (fun q => absurd q.1 (by decide))
    have t77 : Z71 11 hb 0 7 = Z57 11 hb 0 7 := zu_ne hZ71 (fun q => absurd q.1 (by decide))
    have t78 : Z71 11 hb 0 8 = Z57 11 hb 0 8 := zu_ne hZ71 (fun q => absurd q.1 (by decide))
    have t79 : Z71 11 hb 0 9 = Z57 11 hb 0 9 := zu_ne hZ71 (fun q => absurd q.1 (by decide))
    have t80 : Z71 11 hb 0 3 = Z57 11 hb 0 3 := zu_ne hZ71 (fun q => absurd q.1 (by decide))
    have t81 : Z71 200 x0 0 1 = Z57 200 x0 0 1 := zu_ne hZ71 (fun q => absurd q.1 (by decide))
    have hZ71K := zK_u hZ57K hZ71 (by decide)
    intro μ9 e9
    replace e9 := e9.trans (zm_wI (Z := Z57) (ν := ν) hZ71 (rfl : ((hb : Nat) : Int) = hb) (i3I (y := (Z57 11 hb 0 3)) (zm_rd (Z := Z57) (ν := ν) (k := 11) (rfl : ((hb : Nat) : Int) = hb) (show ((0 : Nat) : Int) = 0 from rfl) (show ((3 : Nat) : Int) = 3 from rfl)) (by omega) (by omega) (by omega)) (show ((0 : Nat) : Int) = 0 from rfl) (i3R (i3D (zm_rd (Z := Z4) (ν := ν) (k := 200) (rfl : ((x0 : Nat) : Int) = x0) (show ((0 : Nat) : Int) = 0 from rfl) (show ((2 : Nat) : Int) = 2 from rfl)) (show (16 : Int32) = i3 16 from rfl) (by omega) (by omega) (by omega) (by omega)) (i3Mx (show (1 : Int32) = i3 1 from rfl) (rfl : i3 x2 = i3 x2) (by omega) (by omega) (by omega) (by omega)) (by omega) (by omega) (by omega) (by omega)))
    subst e9
    refine wz_i1 rfl ?_
    refine wz_i0 (i3O (n := 16) (show (1 : Int32) = i3 1 from rfl) (by omega) (by omega) (by omega)) ?_
    have r82 := z_mod ((Z17 200 x0 0 2) / 16) (y := (max 1 x1)) (by omega)
    obtain ⟨Z83, hZ83⟩ := zx (zu Z71 44 hb (Z57 11 hb 0 3) 1 (((Z17 200 x0 0 2) / 16) % (max 1 x1)))
    replace hP := zl_e hP hZ83
    have hZ83I := zI_u hZ71I hZ83 (lo := 0) (hi := 4) (by decide) rfl (by omega) ⟨by decide, by decide⟩ (Or.inl (by decide))
    have t84 : Z83 11 hb 0 0 = Z71 11 hb 0 0 := zu_ne hZ83 (fun q => absurd q.1 (by decide))
    have t85 : Z83 11 hb 0 1 = Z71 11 hb 0 1 := zu_ne hZ83 (fun q => absurd q.1 (by decide))
    have t86 : Z83 11 hb 0 2 = Z71 11 hb 0 2 := zu_ne hZ83 (fun q => absurd q.1 (by decide))
    have t87 : Z83 11 hb 0 4 = Z71 11 hb 0 4 := zu_ne hZ83 (fun q => absurd q.1 (by decide))
    have t88 : Z83 11 hb 0 5 = Z71 11 hb 0 5 := zu_ne hZ83 (fun q => absurd q.1 (by decide))
    have t89 : Z83 11 hb 0 7 = Z71 11 hb 0 7 := zu_ne hZ83 (fun q => absurd q.1 (by decide))
    have t90 : Z83 11 hb 0 8 = Z71 11 hb 0 8 := zu_ne hZ83 (fun q => absurd q.1 (by decide))
    have t91 : Z83 11 hb 0 9 = Z71 11 hb 0 9 := zu_ne hZ83 (fun q => absurd q.1 (by decide))
    have t92 : Z83 11 hb 0 3 = Z71 11 hb 0 3 := zu_ne hZ83 (fun q => absurd q.1 (by decide))
    have t93 : Z83 200 x0 0 1 = Z71 200 x0 0 1 := zu_ne hZ83 (fun q => absurd q.1 (by decide))
    have hZ83K := zK_u hZ71K hZ83 (by decide)
    intro μ9 e9
    replace e9 := e9.trans (zm_wI (Z := Z71) (ν := ν) hZ83 (rfl : ((hb : Nat) : Int) = hb) (i3I (y := (Z57 11 hb 0 3)) (zm_rd (Z := Z57) (ν := ν) (k := 11) (rfl : ((hb : Nat) : Int) = hb) (show ((0 : Nat) : Int) = 0 from rfl) (show ((3 : Nat) : Int) = 3 from rfl)) (by omega) (by omega) (by omega)) (show ((1 : Nat) : Int) = 1 from rfl) (i3R (i3D (zm_rd (Z := Z17) (ν := ν) (k := 200) (rfl : ((x0 : Nat) : Int) = x0) (show ((0 : Nat) : Int) = 0 from rfl) (show ((2 : Nat) : Int) = 2 from rfl)) (show (16 : Int32) = i3 16 from rfl) (by omega) (by omega) (by omega) (by omega)) (i3Mx (show (1 : Int32) = i3 1 from rfl) (rfl : i3 x1 = i3 x1) (by omega) (by omega) (by omega) (by omega)) (by omega) (by omega) (by omega) (by omega)))
    subst e9
    refine wz_i1 rfl ?_
    refine wz_rko (r := (11, _, _)) rfl ?_
    refine wz_i1 rfl ?_
    refine wz_i0 (i3O (n := 17) (show (13 : Int32) = i3 13 from rfl) (by omega) (by omega) (by omega)) ?_
    refine wz_i1 rfl ?_
    refine wz_i0 (i3O (n := 16) (show (2 : Int32) = i3 2 from rfl) (by omega) (by omega) (by omega)) ?_
    have r94 := zI_k hZ83I 11 hb 0 13 (lo := 0) (hi := 671) (by decide) rfl
    obtain ⟨Z95, hZ95⟩ := zx (zu Z83 44 hb (Z57 11 hb 0 3) 2 (Z83 11 hb 0 13))
    replace hP := zl_e hP hZ95
    have hZ95I := zI_u hZ83I hZ95 (lo := 0) (hi := 671) (by decide) rfl (by omega) ⟨by decide, by decide⟩ (Or.inl (by decide))
    have t96 : Z95 11 hb 0 0 = Z83 11 hb 0 0 := zu_ne hZ95 (fun q => absurd q.1 (by decide))
    have t97 : Z95 11 hb 0 1 = Z83 11 hb 0 1 := zu_ne hZ95 (fun q => absurd q.1 (by decide))
    have t98 : Z95 11 hb 0 2 = Z83 11 hb 0 2 := zu_ne hZ95 (fun q => absurd q.1 (by decide))
    have t99 : Z95 11 hb 0 4 = Z83 11 hb 0 4 := zu_ne hZ95 (fun q => absurd q.1 (by decide))
    have t100 : Z95 11 hb 0 5 = Z83 11 hb 0 5 := zu_ne hZ95 (fun q => absurd q.1 (by decide))
    have t101 : Z95 11 hb 0 7 = Z83 11 hb 0 7 := zu_ne hZ95 (fun q => absurd q.1 (by decide))
    have t102 : Z95 11 hb 0 8 = Z83 11 hb 0 8 := zu_ne hZ95 (fun q => absurd q.1 (by decide))
    have t103 : Z95 11 hb 0 9 = Z83 11 hb 0 9 := zu_ne hZ95 (fun q => absurd q.1 (by decide))
    have t104 : Z95 11 hb 0 3 = Z83 11 hb 0 3 := zu_ne hZ95 (fun q => absurd q.1 (by decide))
    have t105 : Z95 200 x0 0 1 = Z83 200 x0 0 1 := zu_ne hZ95 (fun q => absurd q.1 (by decide))
    have hZ95K := zK_u hZ83K hZ95 (by decide)
    intro μ9 e9
    replace e9 := e9.trans (zm_wI (Z := Z83) (ν := ν) hZ95 (rfl : ((hb : Nat) : Int) = hb) (i3I (y := (Z57 11 hb 0 3)) (zm_rd (Z := Z57) (ν := ν) (k := 11) (rfl : ((hb : Nat) : Int) = hb) (show ((0 : Nat) : Int) = 0 from rfl) (show ((3 : Nat) : Int) = 3 from rfl)) (by omega) (by omega) (by omega)) (show ((2 : Nat) : Int) = 2 from rfl) (zm_rd (Z := Z83) (ν := ν) (k := 11) (rfl : ((hb : Nat) : Int) = hb) (show ((0 : Nat) : Int) = 0 from rfl) (show ((13 : Nat) : Int) = 13 from rfl)))
    subst e9
    refine wz_i1 rfl ?_
    refine wz_i0 (i3O (n := 16) (show (3 : Int32) = i3 3 from rfl) (by omega) (by omega) (by omega)) ?_
    obtain ⟨Z106, hZ106⟩ := zx (zu Z95 44 hb (Z57 11 hb 0 3) 3 (1 + (((Z30 200 x0 0 2) / 16) % 40)))
    replace hP := zl_e hP hZ106
    have hZ106I := zI_u hZ95I hZ106 (lo := 0) (hi := 40) (by decide) rfl (by omega) ⟨by decide, by decide⟩ (Or.inl (by decide))
    have t107 : Z106 11 hb 0 0 = Z95 11 hb 0 0 := zu_ne hZ106 (fun q => absurd q.1 (by decide))
    have t108 : Z106 11 hb 0 1 = Z95 11 hb 0 1 := zu_ne hZ106 (fun q => absurd q.1 (by decide))
    have t109 : Z106 11 hb 0 2 = Z95 11 hb 0 2 := zu_ne hZ106 (fun q => absurd q.1 (by decide))
    have t110 : Z106 11 hb 0 4 = Z95 11 hb 0 4 := zu_ne hZ106 (fun q => absurd q.1 (by decide))
    have t111 : Z106 11 hb 0 5 = Z95 11 hb 0 5 := zu_ne hZ106 (fun q => absurd q.1 (by decide))
    have t112 : Z106 11 hb 0 7 = Z95 11 hb 0 7 := zu_ne hZ106 (fun q => absurd q.1 (by decide))
    have t113 : Z106 11 hb 0 8 = Z95 11 hb 0 8 := zu_ne hZ106 (fun q => absurd q.1 (by decide))
    have t114 : Z106 11 hb 0 9 = Z95 11 hb 0 9 := zu_ne hZ106 (fun q => absurd q.1 (by decide))
    have t115 : Z106 11 hb 0 3 = Z95 11 hb 0 3 := zu_ne hZ106 (fun q => absurd q.1 (by decide))
    have t116 : Z106 200 x0 0 1 = Z95 200 x0 0 1 := zu_ne hZ106 (fun q => absurd q.1 (by decide))
    have hZ106K := zK_u hZ95K hZ106 (by decide)
    intro μ9 e9
    replace e9 := e9.trans (zm_wI (Z := Z95) (ν := ν) hZ106 (rfl : ((hb : Nat) : Int) = hb) (i3I (y := (Z57 11 hb 0 3)) (zm_rd (Z := Z57) (ν := ν) (k := 11) (rfl : ((hb : Nat) : Int) = hb) (show ((0 : Nat) : Int) = 0 from rfl) (show ((3 : Nat) : Int) = 3 from rfl)) (by omega) (by omega) (by omega)) (show ((3 : Nat) : Int) = 3 from rfl) (i3A (show (1 : Int32) = i3 1 from rfl) (i3R (i3D (zm_rd (Z := Z30) (ν := ν) (k := 200) (rfl : ((x0 : Nat) : Int) = x0) (show ((0 : Nat) : Int) = 0 from rfl) (show ((2 : Nat) : Int) = 2 from rfl)) (show (16 : Int32) = i3 16 from rfl) (by omega) (by omega) (by omega) (by omega)) (show (40 : Int32) = i3 40 from rfl) (by omega) (by omega) (by omega) (by omega))))
    subst e9
    refine wz_i1 rfl ?_
    refine wz_i0 (i3O (n := 16) (show (4 : Int32) = i3 4 from rfl) (by omega) (by omega) (by omega)) ?_
    obtain ⟨Z117, hZ117⟩ := zx (zu Z106 44 hb (Z57 11 hb 0 3) 4 (1 + (((Z30 200 x0 0 2) / 16) % 40)))
    replace hP := zl_e hP hZ117
    have hZ117I := zI_u hZ106I hZ117 (lo := 0) (hi := 40) (by decide) rfl (by omega) ⟨by decide, by decide⟩ (Or.inl (by decide))
    have t118 : Z117 11 hb 0 0 = Z106 11 hb 0 0 := zu_ne hZ117 (fun q => absurd q.1 (by decide))
    have t119 : Z117 11 hb 0 1 = Z106 11 hb 0 1 := zu_ne hZ117 (fun q => absurd q.1 (by decide))
    have t120 : Z117 11 hb 0 2 = Z106 11 hb 0 2 := zu_ne hZ117 (fun q => absurd q.1 (by decide))
    have t121 : Z117 11 hb 0 4 = Z106 11 hb 0 4 := zu_ne hZ117 (fun q => absurd q.1 (by decide))
    have t122 : Z117 11 hb 0 5 = Z106 11 hb 0 5 := zu_ne hZ117 (fun q => absurd q.1 (by decide))
    have t123 : Z117 11 hb 0 7 = Z106 11 hb 0 7 := zu_ne hZ117 (fun q => absurd q.1 (by decide))
    have t124 : Z117 11 hb 0 8 = Z106 11 hb 0 8 := zu_ne hZ117 (fun q => absurd q.1 (by decide))
    have t125 : Z117 11 hb 0 9 = Z106 11 hb 0 9 := zu_ne hZ117 (fun q => absurd q.1 (by decide))
    have t126 : Z117 11 hb 0 3 = Z106 11 hb 0 3 := zu_ne hZ117 (fun q => absurd q.1 (by decide))
    have t127 : Z117 200 x0 0 1 = Z106 200 x0 0 1 := zu_ne hZ117 (fun q => absurd q.1 (by decide))
    have hZ117K := zK_u hZ106K hZ117 (by decide)
    intro μ9 e9
    replace e9 := e9.trans (zm_wI (Z := Z106) (ν := ν) hZ117 (rfl : ((hb : Nat) : Int) = hb) (i3I (y := (Z57 11 hb 0 3)) (zm_rd (Z := Z57) (ν := ν) (k := 11) (rfl : ((hb : Nat) : Int) = hb) (show ((0 : Nat) : Int) = 0 from rfl) (show ((3 : Nat) : Int) = 3 from rfl)) (by omega) (by omega) (by omega)) (show ((4 : Nat) : Int) = 4 from rfl) (i3A (show (1 : Int32) = i3 1 from rfl) (i3R (i3D (zm_rd (Z := Z30) (ν := ν) (k := 200) (rfl : ((x0 : Nat) : Int) = x0) (show ((0 : Nat) : Int) = 0 from rfl) (show ((2 : Nat) : Int) = 2 from rfl)) (show (16 : Int32) = i3 16 from rfl) (by omega) (by omega) (by omega) (by omega)) (show (40 : Int32) = i3 40 from rfl) (by omega) (by omega) (by omega) (by omega))))
    subst e9
    refine wz_i1 rfl ?_
    refine wz_i0 (i3O (n := 16) (show (5 : Int32) = i3 5 from rfl) (by omega) (by omega) (by omega)) ?_
    have r128 := zI_xr (n := x0) hZ57I
    have q129 := zu_at hZ57
    have r130 := z_mod ((Z57 200 x0 0 2) / 16) (y := (max 1 ((((1 + (((Z30 200 x0 0 2) / 16) % 40)) * (10 - (Z43 42 hb (((Z4 200 x0 0 2) / 16) % (max 1 x2)) 1))) / 10) + 1))) (by omega)
    obtain ⟨Z131, hZ131⟩ := zx (zu Z117 44 hb (Z57 11 hb 0 3) 5 (((Z57 200 x0 0 2) / 16) % (max 1 ((((1 + (((Z30 200 x0 0 2) / 16) % 40)) * (10 - (Z43 42 hb (((Z4 200 x0 0 2) / 16) % (max 1 x2)) 1))) / 10) + 1))))
    replace hP := zl_e hP hZ131
    have hZ131I := zI_u hZ117I hZ131 (lo := 0) (hi := 40) (by decide) rfl (by omega) ⟨by decide, by decide⟩ (Or.inl (by decide))
    have t132 : Z131 11 hb 0 0 = Z117 11 hb 0 0 := zu_ne hZ131 (fun q => absurd q.1 (by decide))
    have t133 : Z131 11 hb 0 1 = Z117 11 hb 0 1 := zu_ne hZ131 (fun q => absurd q.1 (by decide))
    have t134 : Z131 11 hb 0 2 = Z117 11 hb 0 2 := zu_ne hZ131 (fun q => absurd q.1 (by decide))
    have t135 : Z131 11 hb 0 4 = Z117 11 hb 0 4 := zu_ne hZ131 (fun q => absurd q.1 (by decide))
    have t136 : Z131 11 hb 0 5 = Z117 11 hb 0 5 := zu_ne hZ131 (fun q => absurd q.1 (by decide))
    have t137 : Z131 11 hb 0 7 = Z117 11 hb 0 7 := zu_ne hZ131 (fun q => absurd q.1 (by decide))
    have t138 : Z131 11 hb 0 8 = Z117 11 hb 0 8 := zu_ne hZ131 (fun q => absurd q.1 (by decide))
    have t139 : Z131 11 hb 0 9 = Z117 11 hb 0 9 := zu_ne hZ131 (fun q => absurd q.1 (by decide))
    have t140 : Z131 11 hb 0 3 = Z117 11 hb 0 3 := zu_ne hZ131 (fun q => absurd q.1 (by decide))
    have t141 : Z131 200 x0 0 1 = Z117 200 x0 0 1 := zu_ne hZ131 (fun q => absurd q.1 (by decide))
    have hZ131K := zK_u hZ117K hZ131 (by decide)
    intro μ9 e9
    replace e9 := e9.trans (zm_wI (Z := Z117) (ν := ν) hZ131 (rfl : ((hb : Nat) : Int) = hb) (i3I (y := (Z57 11 hb 0 3)) (zm_rd (Z := Z57) (ν := ν) (k := 11) (rfl : ((hb : Nat) : Int) = hb) (show ((0 : Nat) : Int) = 0 from rfl) (show ((3 : Nat) : Int) = 3 from rfl)) (by omega) (by omega) (by omega)) (show ((5 : Nat) : Int) = 5 from rfl) (i3R (i3D (zm_rd (Z := Z57) (ν := ν) (k := 200) (rfl : ((x0 : Nat) : Int) = x0) (show ((0 : Nat) : Int) = 0 from rfl) (show ((2 : Nat) : Int) = 2 from rfl)) (show (16 : Int32) = i3 16 from rfl) (by omega) (by omega) (by omega) (by omega)) (i3Mx (show (1 : Int32) = i3 1 from rfl) (i3A (i3D (i3M (i3A (show (1 : Int32) = i3 1 from rfl) (i3R (i3D (zm_rd (Z := Z30) (ν := ν) (k := 200) (rfl : ((x0 : Nat) : Int) = x0) (show ((0 : Nat) : Int) = 0 from rfl) (show ((2 : Nat) : Int) = 2 from rfl)) (show (16 : Int32) = i3 16 from rfl) (by omega) (by omega) (by omega) (by omega)) (show (40 : Int32) = i3 40 from rfl) (by omega) (by omega) (by omega) (by omega))) (i3S (show (10 : Int32) = i3 10 from rfl) (zm_rd (Z := Z43) (ν := ν) (k := 42) (rfl : ((hb : Nat) : Int) = hb) (i3I (y := (((Z4 200 x0 0 2) / 16) % (max 1 x2))) (i3R (i3D (zm_rd (Z := Z4) (ν := ν) (k := 200) (rfl : ((x0 : Nat) : Int) = x0) (show ((0 : Nat) : Int) = 0 from rfl) (show ((2 : Nat) : Int) = 2 from rfl)) (show (16 : Int32) = i3 16 from rfl) (by omega) (by omega) (by omega) (by omega)) (i3Mx (show (1 : Int32) = i3 1 from rfl) (rfl : i3 x2 = i3 x2) (by omega) (by omega) (by omega) (by omega)) (by omega) (by omega) (by omega) (by omega)) (by omega) (by omega) (by omega)) (show ((1 : Nat) : Int) = 1 from rfl)))) (show (10 : Int32) = i3 10 from rfl) (by omega) (by omega) (by omega) (by omega)) (show (1 : Int32) = i3 1 from rfl)) (by omega) (by omega) (by omega) (by omega)) (by omega) (by omega) (by omega) (by omega)))
    subst e9
    refine wz_i1 rfl ?_
    refine wz_i0 (i3O (n := 16) (show (7 : Int32) = i3 7 from rfl) (by omega) (by omega) (by omega)) ?_
    obtain ⟨Z142, hZ142⟩ := zx (zu Z131 44 hb (Z57 11 hb 0 3) 7 (((Z43 200 x0 0 2) / 16) % 301))
    replace hP := zl_e hP hZ142
    have hZ142I := zI_u hZ131I hZ142 (lo := 0) (hi := 2000) (by decide) rfl (by omega) ⟨by decide, by decide⟩ (Or.inl (by decide))
    have t143 : Z142 11 hb 0 0 = Z131 11 hb 0 0 := zu_ne hZ142 (fun q => absurd q.1 (by decide))
    have t144 : Z142 11 hb 0 1 = Z131 11 hb 0 1 := zu_ne hZ142 (fun q => absurd q.1 (by decide))
    have t145 : Z142 11 hb 0 2 = Z131 11 hb 0 2 := zu_ne hZ142 (fun q => absurd q.1 (by decide))
    have t146 : Z142 11 hb 0 4 = Z131 11 hb 0 4 := zu_ne hZ142 (fun q => absurd q.1 (by decide))
    have t147 : Z142 11 hb 0 5 = Z131 11 hb 0 5 := zu_ne hZ142 (fun q => absurd q.1 (by decide))
    have t148 : Z142 11 hb 0 7 = Z131 11 hb 0 7 := zu_ne hZ142 (fun q => absurd q.1 (by decide))
    have t149 : Z142 11 hb 0 8 = Z131 11 hb 0 8 := zu_ne hZ142 (fun q => absurd q.1 (by decide))
    have t150 : Z142 11 hb 0 9 = Z131 11 hb 0 9 := zu_ne hZ142 (fun q => absurd q.1 (by decide))
    have t151 : Z142 11 hb 0 3 = Z131 11 hb 0 3 := zu_ne hZ142 (fun q => absurd q.1 (by decide))
    have t152 : Z142 200 x0 0 1 = Z131 200 x0 0 1 := zu_ne hZ142 (fun q => absurd q.1 (by decide))
    have hZ142K := zK_u hZ131K hZ142 (by decide)
    intro μ9 e9
    replace e9 := e9.trans (zm_wI (Z := Z131) (ν := ν) hZ142 (rfl : ((hb : Nat) : Int) = hb) (i3I (y := (Z57 11 hb 0 3)) (zm_rd (Z := Z57) (ν := ν) (k := 11) (rfl : ((hb : Nat) : Int) = hb) (show ((0 : Nat) : Int) = 0 from rfl) (show ((3 : Nat) : Int) = 3 from rfl)) (by omega) (by omega) (by omega)) (show ((7 : Nat) : Int) = 7 from rfl) (i3R (i3D (zm_rd (Z := Z43) (ν := ν) (k := 200) (rfl : ((x0 : Nat) : Int) = x0) (show ((0 : Nat) : Int) = 0 from rfl) (show ((2 : Nat) : Int) = 2 from rfl)) (show (16 : Int32) = i3 16 from rfl) (by omega) (by omega) (by omega) (by omega)) (show (301 : Int32) = i3 301 from rfl) (by omega) (by omega) (by omega) (by omega)))
    subst e9
    refine wz_i1 rfl ?_
    refine wz_i0 (i3O (n := 16) (show (9 : Int32) = i3 9 from rfl) (by omega) (by omega) (by omega)) ?_
    obtain ⟨Z153, hZ153⟩ := zx (zu Z142 44 hb (Z57 11 hb 0 3) 9 (-1))
    replace hP := zl_e hP hZ153
    have hZ153I := zI_u hZ142I hZ153 (lo := -1) (hi := 3) (by decide) rfl (by omega) ⟨by decide, by decide⟩ (Or.inl (by decide))
    have t154 : Z153 11 hb 0 0 = Z142 11 hb 0 0 := zu_ne hZ153 (fun q => absurd q.1 (by decide))
    have t155 : Z153 11 hb 0 1 = Z142 11 hb 0 1 := zu_ne hZ153 (fun q => absurd q.1 (by decide))
    have t156 : Z153 11 hb 0 2 = Z142 11 hb 0 2 := zu_ne hZ153 (fun q => absurd q.1 (by decide))
    have t157 : Z153 11 hb 0 4 = Z142 11 hb 0 4 := zu_ne hZ153 (fun q => absurd q.1 (by decide))
    have t158 : Z153 11 hb 0 5 = Z142 11 hb 0 5 := zu_ne hZ153 (fun q => absurd q.1 (by decide))
    have t159 : Z153 11 hb 0 7 = Z142 11 hb 0 7 := zu_ne hZ153 (fun q => absurd q.1 (by decide))
    have t160 : Z153 11 hb 0 8 = Z142 11 hb 0 8 := zu_ne hZ153 (fun q => absurd q.1 (by decide))
    have t161 : Z153 11 hb 0 9 = Z142 11 hb 0 9 := zu_ne hZ153 (fun q => absurd q.1 (by decide))
    have t162 : Z153 11 hb 0 3 = Z142 11 hb 0 3 := zu_ne hZ153 (fun q => absurd q.1 (by decide))
    have t163 : Z153 200 x0 0 1 = Z142 200 x0 0 1 := zu_ne hZ153 (fun q => absurd q.1 (by decide))
    have hZ153K := zK_u hZ142K hZ153 (by decide)
    intro μ9 e9
    replace e9 := e9.trans (zm_wI (Z := Z142) (ν := ν) hZ153 (rfl : ((hb : Nat) : Int) = hb) (i3I (y := (Z57 11 hb 0 3)) (zm_rd (Z := Z57) (ν := ν) (k := 11) (rfl : ((hb : Nat) : Int) = hb) (show ((0 : Nat) : Int) = 0 from rfl) (show ((3 : Nat) : Int) = 3 from rfl)) (by omega) (by omega) (by omega)) (show ((9 : Nat) : Int) = 9 from rfl) (show (-1 : Int32) = i3 (-1) from rfl))
    subst e9
    refine wz_i1 rfl ?_
    refine wz_i0 (i3O (n := 16) (show (10 : Int32) = i3 10 from rfl) (by omega) (by omega) (by omega)) ?_
    obtain ⟨Z164, hZ164⟩ := zx (zu Z153 44 hb (Z57 11 hb 0 3) 10 0)
    replace hP := zl_e hP hZ164
    have hZ164I := zI_0 hZ153I hZ164 (by decide) (Or.inl (by decide))
    have t165 : Z164 11 hb 0 0 = Z153 11 hb 0 0 := zu_ne hZ164 (fun q => absurd q.1 (by decide))
    have t166 : Z164 11 hb 0 1 = Z153 11 hb 0 1 := zu_ne hZ164 (fun q => absurd q.1 (by decide))
    have t167 : Z164 11 hb 0 2 = Z153 11 hb 0 2 := zu_ne hZ164 (fun q => absurd q.1 (by decide))
    have t168 : Z164 11 hb 0 4 = Z153 11 hb 0 4 := zu_ne hZ164 (fun q => absurd q.1 (by decide))
    have t169 : Z164 11 hb 0 5 = Z153 11 hb 0 5 := zu_ne hZ164 (fun q => absurd q.1 (by decide))
    have t170 : Z164 11 hb 0 7 = Z153 11 hb 0 7 := zu_ne hZ164 (fun q => absurd q.1 (by decide))
    have t171 : Z164 11 hb 0 8 = Z153 11 hb 0 8 := zu_ne hZ164 (fun q => absurd q.1 (by decide))
    have t172 : Z164 11 hb 0 9 = Z153 11 hb 0 9 := zu_ne hZ164 (fun q => absurd q.1 (by decide))
    have t173 : Z164 11 hb 0 3 = Z153 11 hb 0 3 := zu_ne hZ164 (fun q => absurd q.1 (by decide))
    have t174 : Z164 200 x0 0 1 = Z153 200 x0 0 1 := zu_ne hZ164 (fun q => absurd q.1 (by decide))
    have hZ164K := zK_u hZ153K hZ164 (by decide)
    intro μ9 e9
    replace e9 := e9.trans (zm_wI (Z := Z153) (ν := ν) hZ164 (rfl : ((hb : Nat) : Int) = hb) (i3I (y := (Z57 11 hb 0 3)) (zm_rd (Z := Z57) (ν := ν) (k := 11) (rfl : ((hb : Nat) : Int) = hb) (show ((0 : Nat) : Int) = 0 from rfl) (show ((3 : Nat) : Int) = 3 from rfl)) (by omega) (by omega) (by omega)) (show ((10 : Nat) : Int) = 10 from rfl) (show (0 : Int32) = i3 0 from rfl))
    subst e9
    refine wz_i1 rfl ?_
    refine wz_i0 (i3O (n := 16) (show (12 : Int32) = i3 12 from rfl) (by omega) (by omega) (by omega)) ?_
    obtain ⟨Z175, hZ175⟩ := zx (zu Z164 44 hb (Z57 11 hb 0 3) 12 6)
    replace hP := zl_e hP hZ175
    have hZ175I := zI_u hZ164I hZ175 (lo := -1) (hi := 6) (by decide) rfl (by omega) ⟨by decide, by decide⟩ (Or.inl (by decide))
    have t176 : Z175 11 hb 0 0 = Z164 11 hb 0 0 := zu_ne hZ175 (fun q => absurd q.1 (by decide))
    have t177 : Z175 11 hb 0 1 = Z164 11 hb 0 1 := zu_ne hZ175 (fun q => absurd q.1 (by decide))
    have t178 : Z175 11 hb 0 2 = Z164 11 hb 0 2 := zu_ne hZ175 (fun q => absurd q.1 (by decide))
    have t179 : Z175 11 hb 0 4 = Z164 11 hb 0 4 := zu_ne hZ175 (fun q => absurd q.1 (by decide))
    have t180 : Z175 11 hb 0 5 = Z164 11 hb 0 5 := zu_ne hZ175 (fun q => absurd q.1 (by decide))
    have t181 : Z175 11 hb 0 7 = Z164 11 hb 0 7 := zu_ne hZ175 (fun q => absurd q.1 (by decide))
    have t182 : Z175 11 hb 0 8 = Z164 11 hb 0 8 := zu_ne hZ175 (fun q => absurd q.1 (by decide))
    have t183 : Z175 11 hb 0 9 = Z164 11 hb 0 9 := zu_ne hZ175 (fun q => absurd q.1 (by decide))
    have t184 : Z175 11 hb 0 3 = Z164 11 hb 0 3 := zu_ne hZ175 (fun q => absurd q.1 (by decide))
    have t185 : Z175 200 x0 0 1 = Z164 200 x0 0 1 := zu_ne hZ175 (fun q => absurd q.1 (by decide))
    have hZ175K := zK_u hZ164K hZ175 (by decide)
    intro μ9 e9
    replace e9 := e9.trans (zm_wI (Z := Z164) (ν := ν) hZ175 (rfl : ((hb : Nat) : Int) = hb) (i3I (y := (Z57 11 hb 0 3)) (zm_rd (Z := Z57) (ν := ν) (k := 11) (rfl : ((hb : Nat) : Int) = hb) (show ((0 : Nat) : Int) = 0 from rfl) (show ((3 : Nat) : Int) = 3 from rfl)) (by omega) (by omega) (by omega)) (show ((12 : Nat) : Int) = 12 from rfl) (show (6 : Int32) = i3 6 from rfl))
    subst e9
    refine wz_i1 rfl ?_
    refine wz_i0 (i3O (n := 16) (show (15 : Int32) = i3 15 from rfl) (by omega) (by omega) (by omega)) ?_
    obtain ⟨Z186, hZ186⟩ := zx (zu Z175 44 hb (Z57 11 hb 0 3) 15 (-1))
    replace hP := zl_e hP hZ186
    have hZ186I := zI_u hZ175I hZ186 (lo := -1) (hi := 20) (by decide) rfl (by omega) ⟨by decide, by decide⟩ (Or.inl (by decide))
    have t187 : Z186 11 hb 0 0 = Z175 11 hb 0 0 := zu_ne hZ186 (fun q => absurd q.1 (by decide))
    have t188 : Z186 11 hb 0 1 = Z175 11 hb 0 1 := zu_ne hZ186 (fun q => absurd q.1 (by decide))
    have t189 : Z186 11 hb 0 2 = Z175 11 hb 0 2 := zu_ne hZ186 (fun q => absurd q.1 (by decide))
    have t190 : Z186 11 hb 0 4 = Z175 11 hb 0 4 := zu_ne hZ186 (fun q => absurd q.1 (by decide))
    have t191 : Z186 11 hb 0 5 = Z175 11 hb 0 5 := zu_ne hZ186 (fun q => absurd q.1 (by decide))
    have t192 : Z186 11 hb 0 7 = Z175 11 hb 0 7 := zu_ne hZ186 (fun q => absurd q.1 (by decide))
    have t193 : Z186 11 hb 0 8 = Z175 11 hb 0 8 := zu_ne hZ186 (fun q => absurd q.1 (by decide))
    have t194 : Z186 11 hb 0 9 = Z175 11 hb 0 9 := zu_ne hZ186 (fun q => absurd q.1 (by decide))
    have t195 : Z186 11 hb 0 3 = Z175 11 hb 0 3 := zu_ne hZ186 (fun q => absurd q.1 (by decide))
    have t196 : Z186 200 x0 0 1 = Z175 200 x0 0 1 := zu_ne hZ186 (fun q => absurd q.1 (by decide))
    have hZ186K := zK_u hZ175K hZ186 (by decide)
    intro μ9 e9
    replace e9 := e9.trans (zm_wI (Z := Z175) (ν := ν) hZ186 (rfl : ((hb : Nat) : Int) = hb) (i3I (y := (Z57 11 hb 0 3)) (zm_rd (Z := Z57) (ν := ν) (k := 11) (rfl : ((hb : Nat) : Int) = hb) (show ((0 : Nat) : Int) = 0 from rfl) (show ((3 : Nat) : Int) = 3 from rfl)) (by omega) (by omega) (by omega)) (show ((15 : Nat) : Int) = 15 from rfl) (show (-1 : Int32) = i3 (-1) from rfl))
    subst e9
    refine wz_i1 rfl ?_
    refine wz_rko (r := (11, _, _)) rfl ?_
    refine wz_i1 rfl ?_
    refine wz_i0 (i3O (n := 17) (show (3 : Int32) = i3 3 from rfl) (by omega) (by omega) (by omega)) ?_
    refine wz_i1 rfl ?_
    refine wz_i0 (i3O (n := 17) (show (3 : Int32) = i3 3 from rfl) (by omega) (by omega) (by omega)) ?_
    have r197 := zI_k hZ186I 11 hb 0 3 (lo := 0) (hi := 48) (by decide) rfl
    have q198 := (zu_ne (k' := 11) (b' := hb) (i' := 0) (j' := 3) hZ186 (fun q => absurd q.1 (by decide))).trans ((zu_ne (k' := 11) (b' := hb) (i' := 0) (j' := 3) hZ175 (fun q => absurd q.1 (by decide))).trans ((zu_ne (k' := 11) (b' := hb) (i' := 0) (j' := 3) hZ164 (fun q => absurd q.1 (by decide))).trans ((zu_ne (k' := 11) (b' := hb) (i' := 0) (j' := 3) hZ153 (fun q => absurd q.1 (by decide))).trans ((zu_ne (k' := 11) (b' := hb) (i' := 0) (j' := 3) hZ142 (fun q => absurd q.1 (by decide))).trans ((zu_ne (k' := 11) (b' := hb) (i' := 0) (j' := 3) hZ131 (fun q => absurd q.1 (by decide))).trans ((zu_ne (k' := 11) (b' := hb) (i' := 0) (j' := 3) hZ117 (fun q => absurd q.1 (by decide))).trans ((zu_ne (k' := 11) (b' := hb) (i' := 0) (j' := 3) hZ106 (fun q => absurd q.1 (by decide))).trans ((zu_ne (k' := 11) (b' := hb) (i' := 0) (j' := 3) hZ95 (fun q => absurd q.1 (by decide))).trans ((zu_ne (k' := 11) (b' := hb) (i' := 0) (j' := 3) hZ83 (fun q => absurd q.1 (by decide))).trans (zu_ne (k' := 11) (b' := hb) (i' := 0) (j' := 3) hZ71 (fun q => absurd q.1 (by decide))))))))))))
    obtain ⟨Z199, hZ199⟩ := zx (zu Z186 11 hb 0 3 ((Z186 11 hb 0 3) + 1))
    replace hP := zl_e hP hZ199
    have hZ199I := zI_u hZ186I hZ199 (lo := 0) (hi := 48) (by decide) rfl (by omega) ⟨by decide, by decide⟩ (Or.inl (by decide))
    have t200 : Z199 11 hb 0 0 = Z186 11 hb 0 0 := zu_ne hZ199 (fun q => absurd q.2.2.2 (by decide))
    have t201 : Z199 11 hb 0 1 = Z186 11 hb 0 1 := zu_ne hZ199 (fun q => absurd q.2.2.2 (by decide))
    have t202 : Z199 11 hb 0 2 = Z186 11 hb 0 2 := zu_ne hZ199 (fun q => absurd q.2.2.2 (by decide))
    have t203 : Z199 11 hb 0 4 = Z186 11 hb 0 4 := zu_ne hZ199 (fun q => absurd q.2.2.2 (by decide))
    have t204 : Z199 11 hb 0 5 = Z186 11 hb 0 5 := zu_ne hZ199 (fun q => absurd q.2.2.2 (by decide))
    have t205 : Z199 11 hb 0 7 = Z186 11 hb 0 7 := zu_ne hZ199 (fun q => absurd q.2.2.2 (by decide))
    have t206 : Z199 11 hb 0 8 = Z186 11 hb 0 8 := zu_ne hZ199 (fun q => absurd q.2.2.2 (by decide))
    have t207 : Z199 11 hb 0 9 = Z186 11 hb 0 9 := zu_ne hZ199 (fun q => absurd q.2.2.2 (by decide))
    have t208 := zu_at hZ199
    have t209 : Z199 200 x0 0 1 = Z186 200 x0 0 1 := zu_ne hZ199 (fun q => absurd q.1 (by decide))
    have hZ199K := zK_u hZ186K hZ199 (by decide)
    intro μ9 e9
    replace e9 := e9.trans (zm_wI (Z := Z186) (ν := ν) hZ199 (rfl : ((hb : Nat) : Int) = hb) (show ((0 : Nat) : Int) = 0 from rfl) (show ((3 : Nat) : Int) = 3 from rfl) (i3A (zm_rd (Z := Z186) (ν := ν) (k := 11) (rfl : ((hb : Nat) : Int) = hb) (show ((0 : Nat) : Int) = 0 from rfl) (show ((3 : Nat) : Int) = 3 from rfl)) (show (1 : Int32) = i3 1 from rfl)))
    subst e9
    refine wz_i1 (by rw [tsn]; rfl) ?_
    refine wz_i1 (by rw [tsn]; rfl) ?_
    refine wz_i1 (by rw [tsn]; rfl) ?_
    have r210 := zI_xr (n := x0) hZ199I
    have q211 := (zu_ne (k' := 200) (b' := x0) (i' := 0) (j' := 2) hZ199 (fun q => absurd q.1 (by decide))).trans ((zu_ne (k' := 200) (b' := x0) (i' := 0) (j' := 2) hZ186 (fun q => absurd q.1 (by decide))).trans ((zu_ne (k' := 200) (b' := x0) (i' := 0) (j' := 2) hZ175 (fun q => absurd q.1 (by decide))).trans ((zu_ne (k' := 200) (b' := x0) (i' := 0) (j' := 2) hZ164 (fun q => absurd q.1 (by decide))).trans ((zu_ne (k' := 200) (b' := x0) (i' := 0) (j' := 2) hZ153 (fun q => absurd q.1 (by decide))).trans ((zu_ne (k' := 200) (b' := x0) (i' := 0) (j' := 2) hZ142 (fun q => absurd q.1 (by decide))).trans ((zu_ne (k' := 200) (b' := x0) (i' := 0) (j' := 2) hZ131 (fun q => absurd q.1 (by decide))).trans ((zu_ne (k' := 200) (b' := x0) (i' := 0) (j' := 2) hZ117 (fun q => absurd q.1 (by decide))).trans ((zu_ne (k' := 200) (b' := x0) (i' := 0) (j' := 2) hZ106 (fun q => absurd q.1 (by decide))).trans ((zu_ne (k' := 200) (b' := x0) (i' := 0) (j' := 2) hZ95 (fun q => absurd q.1 (by decide))).trans ((zu_ne (k' := 200) (b' := x0) (i' := 0) (j' := 2) hZ83 (fun q => absurd q.1 (by decide))).trans (zu_ne (k' := 200) (b' := x0) (i' := 0) (j' := 2) hZ71 (fun q => absurd q.1 (by decide)))))))))))))
    obtain ⟨Z212, hZ212⟩ := zx (zu Z199 200 x0 0 2 (((25173 * (Z199 200 x0 0 2)) + 13849) % 65536))
    replace hP := zl_e hP hZ212
    have hZ212I := zI_x hZ199I hZ212 (by omega)
    have t213 : Z212 11 hb 0 0 = Z199 11 hb 0 0 := zu_ne hZ212 (fun q => absurd q.1 (by decide))
    have t214 : Z212 11 hb 0 1 = Z199 11 hb 0 1 := zu_ne hZ212 (fun q => absurd q.1 (by decide))
    have t215 : Z212 11 hb 0 2 = Z199 11 hb 0 2 := zu_ne hZ212 (fun q => absurd q.1 (by decide))
    have t216 : Z212 11 hb 0 4 = Z199 11 hb 0 4 := zu_ne hZ212 (fun q => absurd q.1 (by decide))
    have t217 : Z212 11 hb 0 5 = Z199 11 hb 0 5 := zu_ne hZ212 (fun q => absurd q.1 (by decide))
    have t218 : Z212 11 hb 0 7 = Z199 11 hb 0 7 := zu_ne hZ212 (fun q => absurd q.1 (by decide))
    have t219 : Z212 11 hb 0 8 = Z199 11 hb 0 8 := zu_ne hZ212 (fun q => absurd q.1 (by decide))
    have t220 : Z212 11 hb 0 9 = Z199 11 hb 0 9 := zu_ne hZ212 (fun q => absurd q.1 (by decide))
    have t221 : Z212 11 hb 0 3 = Z199 11 hb 0 3 := zu_ne hZ212 (fun q => absurd q.1 (by decide))
    have t222 : Z212 200 x0 0 1 = Z199 200 x0 0 1 := zu_ne hZ212 (fun q => absurd q.2.2.2 (by decide))
    have hZ212K := zK_u hZ199K hZ212 (by decide)
    intro μ9 e9
    replace e9 := e9.trans (zm_wI (Z := Z199) (ν := ν) hZ212 (rfl : ((x0 : Nat) : Int) = x0) (show ((0 : Nat) : Int) = 0 from rfl) (show ((2 : Nat) : Int) = 2 from rfl) (i3R (i3A (i3M (show (25173 : Int32) = i3 25173 from rfl) (zm_rd (Z := Z199) (ν := ν) (k := 200) (rfl : ((x0 : Nat) : Int) = x0) (show ((0 : Nat) : Int) = 0 from rfl) (show ((2 : Nat) : Int) = 2 from rfl))) (show (13849 : Int32) = i3 13849 from rfl)) (show (65536 : Int32) = i3 65536 from rfl) (by omega) (by omega) (by omega) (by omega)))
    subst e9
    refine wz_i1 (by rw [tsn]; rfl) ?_
    have r223 := zI_xr (n := x0) hZ212I
    have q224 := zu_at hZ212
    refine wz_br (i3NE (i3R (i3D (zm_rd (Z := Z212) (ν := ν) (k := 200) (rfl : ((x0 : Nat) : Int) = x0) (show ((0 : Nat) : Int) = 0 from rfl) (show ((2 : Nat) : Int) = 2 from rfl)) (show (16 : Int32) = i3 16 from rfl) (by omega) (by omega) (by omega) (by omega)) (show (2 : Int32) = i3 2 from rfl) (by omega) (by omega) (by omega) (by omega)) (show (1 : Int32) = i3 1 from rfl) (by omega) (by omega) (by omega) (by omega)) (fun h225 => ?_) (fun h225 => ?_)
    · replace hP := zE_p hP h225
      obtain ⟨m2, rfl⟩ : ∃ m2, m = m2 + 1 := ⟨m - 1, by omega⟩
      exact wz_k1 ⟨m2, by omega, Z212, (x3 + 1), (zconso rfl (zconso (zvo (rfl : i3 x1 = i3 x1)) (zconso (zvo (rfl : i3 x2 = i3 x2)) (zconso (zvo (i3A (rfl : i3 x3 = i3 x3) (show (1 : Int32) = i3 1 from rfl))) (zconso rfl (zconso rfl (zconso rfl (zconso rfl (zconso rfl (zconso rfl rfl)))))))))), rfl, hZ212I, hZ212K, by omega, by omega, by omega, by omega, by omega, by omega, by omega, by omega, by omega, by omega, by omega, by omega, by omega,  hP⟩
    · replace hP := zE_n hP h225
      refine wz_i1 (by rw [tsn]; rfl) ?_
      refine wz_rko (rsn _) ?_
      refine wz_i1 rfl ?_
      refine wz_rko (r := (24, _, _)) rfl ?_
      refine wz_i1 rfl ?_
      refine wz_i0 (i3O (n := 48) (zm_rd (Z := Z186) (ν := ν) (k := 11) (rfl : ((hb : Nat) : Int) = hb) (show ((0 : Nat) : Int) = 0 from rfl) (show ((3 : Nat) : Int) = 3 from rfl)) (by omega) (by omega) (by omega)) ?_
      refine wz_rko (r := (44, _, _)) rfl ?_
      refine wz_i1 (by rw [tsn]; rfl) ?_
      refine wz_i1 (by rw [tsn]; rfl) ?_
      refine wz_i1 (by rw [tsn]; rfl) ?_
      obtain ⟨Z226, hZ226⟩ := zx (zu Z212 200 x0 0 2 (((25173 * (Z212 200 x0 0 2)) + 13849) % 65536))
      replace hP := zl_e hP hZ226
      have hZ226I := zI_x hZ212I hZ226 (by omega)
      have t227 : Z226 11 hb 0 0 = Z212 11 hb 0 0 := zu_ne hZ226 (fun q => absurd q.1 (by decide))
      have t228 : Z226 11 hb 0 1 = Z212 11 hb 0 1 := zu_ne hZ226 (fun q => absurd q.1 (by decide))
      have t229 : Z226 11 hb 0 2 = Z212 11 hb 0 2 := zu_ne hZ226 (fun q => absurd q.1 (by decide))
      have t230 : Z226 11 hb 0 4 = Z212 11 hb 0 4 := zu_ne hZ226 (fun q => absurd q.1 (by decide))
      have t231 : Z226 11 hb 0 5 = Z212 11 hb 0 5 := zu_ne hZ226 (fun q => absurd q.1 (by decide))
      have t232 : Z226 11 hb 0 7 = Z212 11 hb 0 7 := zu_ne hZ226 (fun q => absurd q.1 (by decide))
      have t233 : Z226 11 hb 0 8 = Z212 11 hb 0 8 := zu_ne hZ226 (fun q => absurd q.1 (by decide))
      have t234 : Z226 11 hb 0 9 = Z212 11 hb 0 9 := zu_ne hZ226 (fun q => absurd q.1 (by decide))
      have t235 : Z226 11 hb 0 3 = Z212 11 hb 0 3 := zu_ne hZ226 (fun q => absurd q.1 (by decide))
      have t236 : Z226 200 x0 0 1 = Z212 200 x0 0 1 := zu_ne hZ226 (fun q => absurd q.2.2.2 (by decide))
      have hZ226K := zK_u hZ212K hZ226 (by decide)
      intro μ9 e9
      replace e9 := e9.trans (zm_wI (Z := Z212) (ν := ν) hZ226 (rfl : ((x0 : Nat) : Int) = x0) (show ((0 : Nat) : Int) = 0 from rfl) (show ((2 : Nat) : Int) = 2 from rfl) (i3R (i3A (i3M (show (25173 : Int32) = i3 25173 from rfl) (zm_rd (Z := Z212) (ν := ν) (k := 200) (rfl : ((x0 : Nat) : Int) = x0) (show ((0 : Nat) : Int) = 0 from rfl) (show ((2 : Nat) : Int) = 2 from rfl))) (show (13849 : Int32) = i3 13849 from rfl)) (show (65536 : Int32) = i3 65536 from rfl) (by omega) (by omega) (by omega) (by omega)))
      subst e9
      refine wz_i1 (by rw [tsn]; rfl) ?_
      refine wz_i1 rfl ?_
      refine wz_i0 (i3O (n := 16) (show (9 : Int32) = i3 9 from rfl) (by omega) (by omega) (by omega)) ?_
      have r237 := zI_xr (n := x0) hZ226I
      have q238 := zu_at hZ226
      obtain ⟨Z239, hZ239⟩ := zx (zu Z226 44 hb (Z186 11 hb 0 3) 9 (((Z226 200 x0 0 2) / 16) % 4))
      replace hP := zl_e hP hZ239
      have hZ239I := zI_u hZ226I hZ239 (lo := -1) (hi := 3) (by decide) rfl (by omega) ⟨by decide, by decide⟩ (Or.inl (by decide))
      have t240 : Z239 11 hb 0 0 = Z226 11 hb 0 0 := zu_ne hZ239 (fun q => absurd q.1 (by decide))
      have t241 : Z239 11 hb 0 1 = Z226 11 hb 0 1 := zu_ne hZ239 (fun q => absurd q.1 (by decide))
      have t242 : Z239 11 hb 0 2 = Z226 11 hb 0 2 := zu_ne hZ239 (fun q => absurd q.1 (by decide))
      have t243 : Z239 11 hb 0 4 = Z226 11 hb 0 4 := zu_ne hZ239 (fun q => absurd q.1 (by decide))
      have t244 : Z239 11 hb 0 5 = Z226 11 hb 0 5 := zu_ne hZ239 (fun q => absurd q.1 (by decide))
      have t245 : Z239 11 hb 0 7 = Z226 11 hb 0 7 := zu_ne hZ239 (fun q => absurd q.1 (by decide))
      have t246 : Z239 11 hb 0 8 = Z226 11 hb 0 8 := zu_ne hZ239 (fun q => absurd q.1 (by decide))
      have t247 : Z239 11 hb 0 9 = Z226 11 hb 0 9 := zu_ne hZ239 (fun q => absurd q.1 (by decide))
      have t248 : Z239 11 hb 0 3 = Z226 11 hb 0 3 := zu_ne hZ239 (fun q => absurd q.1 (by decide))
      have t249 : Z239 200 x0 0 1 = Z226 200 x0 0 1 := zu_ne hZ239 (fun q => absurd q.1 (by decide))
      have hZ239K := zK_u hZ226K hZ239 (by decide)
      intro μ9 e9
      replace e9 := e9.trans (zm_wI (Z := Z226) (ν := ν) hZ239 (rfl : ((hb : Nat) : Int) = hb) (i3I (y := (Z186 11 hb 0 3)) (zm_rd (Z := Z186) (ν := ν) (k := 11) (rfl : ((hb : Nat) : Int) = hb) (show ((0 : Nat) : Int) = 0 from rfl) (show ((3 : Nat) : Int) = 3 from rfl)) (by omega) (by omega) (by omega)) (show ((9 : Nat) : Int) = 9 from rfl) (i3R (i3D (zm_rd (Z := Z226) (ν := ν) (k := 200) (rfl : ((x0 : Nat) : Int) = x0) (show ((0 : Nat) : Int) = 0 from rfl) (show ((2 : Nat) : Int) = 2 from rfl)) (show (16 : Int32) = i3 16 from rfl) (by omega) (by omega) (by omega) (by omega)) (show (4 : Int32) = i3 4 from rfl) (by omega) (by omega) (by omega) (by omega)))
      subst e9
      obtain ⟨m2, rfl⟩ : ∃ m2, m = m2 + 1 := ⟨m - 1, by omega⟩
      exact wz_k1 ⟨m2, by omega, Z239, (x3 + 1), (zconso rfl (zconso (zvo (rfl : i3 x1 = i3 x1)) (zconso (zvo (rfl : i3 x2 = i3 x2)) (zconso (zvo (i3A (rfl : i3 x3 = i3 x3) (show (1 : Int32) = i3 1 from rfl))) (zconso rfl (zconso rfl (zconso rfl (zconso rfl (zconso rfl (zconso rfl rfl)))))))))), rfl, hZ239I, hZ239K, by omega, by omega, by omega, by omega, by omega, by omega, by omega, by omega, by omega, by omega, by omega, by omega, by omega,  hP⟩

