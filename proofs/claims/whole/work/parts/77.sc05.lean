/-! a season told, c (printed by season.py) -/
/- yX8_tellClocks -/
def zl_147_1 (x0 : Int) (hb : Int) (x1 : Int) : Nat → qz_Z → Int → qz_Z × Int
  | 0, Z, x2 => (Z, x2)
  | m + 1, Z, x2 => (if x1 ≤ x2 then (Z, x2) else (zlet (zu Z 200 x0 0 2 (((25173 * (Z 200 x0 0 2)) + 13849) % 65536)) (fun Z3 => (zlet (zu Z3 200 x0 0 2 (((25173 * (Z3 200 x0 0 2)) + 13849) % 65536)) (fun Z10 => (zlet (zu Z10 200 x0 0 2 (((25173 * (Z10 200 x0 0 2)) + 13849) % 65536)) (fun Z17 => (zlet (zu Z17 200 x0 0 2 (((25173 * (Z17 200 x0 0 2)) + 13849) % 65536)) (fun Z24 => (zlet (zu Z24 200 x0 0 2 (((25173 * (Z24 200 x0 0 2)) + 13849) % 65536)) (fun Z31 => (zlet (zu Z31 48 hb (Z31 11 hb 0 7) 0 (4 + (((Z3 200 x0 0 2) / 16) % 4))) (fun Z37 => (zlet (zu Z37 48 hb (Z31 11 hb 0 7) 1 (1 + (((Z10 200 x0 0 2) / 16) % 4))) (fun Z42 => (zlet (zu Z42 48 hb (Z31 11 hb 0 7) 2 (1 + (((Z17 200 x0 0 2) / 16) % 4))) (fun Z47 => (zlet (zu Z47 48 hb (Z31 11 hb 0 7) 3 (10 + (10 * (((Z24 200 x0 0 2) / 16) % 9)))) (fun Z52 => (zlet (zu Z52 48 hb (Z31 11 hb 0 7) 4 (((Z31 200 x0 0 2) / 16) % 5)) (fun Z59 => (zlet (zu Z59 48 hb (Z31 11 hb 0 7) 6 (-1)) (fun Z64 => (zlet (zu Z64 48 hb (Z31 11 hb 0 7) 7 (-1)) (fun Z69 => (zlet (zu Z69 11 hb 0 7 ((Z69 11 hb 0 7) + 1)) (fun Z76 => zl_147_1 x0 hb x1 m Z76 (x2 + 1))))))))))))))))))))))))))))
theorem sl_147_1 {Zs Z : qz_Z} {ν : qz_N} (x0 : Nat) (hZ : zI (some (some (x0 : Int))) Z) (hK : zK [11, 48, 200] Zs Z) (hb : Nat) (tsn : ∀ Z, qz_tag (zm Z ν) (200, x0, 0) = 2) (rsn : ∀ Z, qz_rm (zm Z ν) 200 x0 0 0 = some (10, hb, 0)) {x1 : Int} (gx1 : 1 ≤ x1 ∧ x1 ≤ 2) {x2 : Int} (gx2 : 0 ≤ x2 ∧ x2 ≤ 2) {kc0 : Int} {kc1 : Int} {kc2 : Int} (gr0 : Z 11 hb 0 7 = x2) (gr1 : Z 11 hb 0 3 = kc0) (gr2 : Z 11 hb 0 8 = kc1) (gr3 : Z 11 hb 0 9 = kc2) {k : wz_K} {R : wz_R} {L : qz_L} (hL : qz_fg [true, true, true, false, false, false] L = [some (.inr (.inr (some (200, x0, 0)))), some (.inl (i3 x1)), some (.inl (i3 x2)), none, none, none]) {T : qz_Z × Int} (hP : zE T (zl_147_1 x0 hb x1 ((2 - x2).toNat + 1) Z x2)) (hk : ∀ (L9 : qz_L) (Z9 : qz_Z) (yx2 : Int), qz_fg [true, true, false, false, false, false] L9 = [some (.inr (.inr (some (200, x0, 0)))), some (.inl (i3 x1)), none, none, none, none] → zI (some (some (x0 : Int))) Z9 → zK [11, 48, 200] Zs Z9 → (0 ≤ yx2 ∧ yx2 ≤ 2) → (Z9 11 hb 0 7 = yx2) → (Z9 11 hb 0 3 = kc0) → (Z9 11 hb 0 8 = kc1) → (Z9 11 hb 0 9 = kc2) → zE T ((Z9, yx2)) → k 0 (L9, [], zm Z9 ν)) : wz_loop qb_147_1 65536 k R (L, [], zm Z ν) := by
  refine wz_lp sb_147_1 (fun m x => ∃ Z : qz_Z, ∃ x2 : Int, qz_fg [true, true, true, false, false, false] x.1 = [some (.inr (.inr (some (200, x0, 0)))), some (.inl (i3 x1)), some (.inl (i3 x2)), none, none, none] ∧ x.2 = ([], zm Z ν) ∧ zI (some (some (x0 : Int))) Z ∧ zK [11, 48, 200] Zs Z ∧ m = (2 - x2).toNat ∧ (0 ≤ x2 ∧ x2 ≤ 2) ∧ (Z 11 hb 0 7 = x2) ∧ (Z 11 hb 0 3 = kc0) ∧ (Z 11 hb 0 8 = kc1) ∧ (Z 11 hb 0 9 = kc2) ∧ zE T (zl_147_1 x0 hb x1 (m + 1) Z x2)) ?_ 65536 ((2 - x2).toNat) _ (by omega) ⟨Z, x2, hL, rfl, hZ, hK, rfl, gx2, gr0, gr1, gr2, gr3, hP⟩
  clear hP gr0 gr1 gr2 gr3 gx2 hZ hK hL
  clear x2
  clear Z
  rintro m ⟨L, st, μ⟩ ⟨Z, x2, hL, hx, hZ, hK, hm, gx2, gr0, gr1, gr2, gr3, hP⟩
  cases hx
  refine fb_147_1 x0 (i3 x1) (i3 x2) _ _ _ _ hL ?_
  have rs := zI_xs (n := x0) hZ
  refine wz_br (i3Le (rfl : i3 x1 = i3 x1) (rfl : i3 x2 = i3 x2) (by omega) (by omega) (by omega) (by omega)) (fun h1 => ?_) (fun h1 => ?_)
  · replace hP := zE_p hP h1
    exact hk _ _ _ (zconso rfl (zconso (zvo (rfl : i3 x1 = i3 x1)) (zconso rfl (zconso rfl (zconso rfl (zconso rfl rfl)))))) hZ hK (by omega) (by omega) (by omega) (by omega) (by omega) hP
  · replace hP := zE_n hP h1
    refine wz_i1 (by rw [tsn]; rfl) ?_
    refine wz_rko (rsn _) ?_
    refine wz_i1 (by rw [tsn]; rfl) ?_
    refine wz_i1 (by rw [tsn]; rfl) ?_
    refine wz_i1 (by rw [tsn]; rfl) ?_
    have r2 := zI_xr (n := x0) hZ
    obtain ⟨Z3, hZ3⟩ := zx (zu Z 200 x0 0 2 (((25173 * (Z 200 x0 0 2)) + 13849) % 65536))
    replace hP := zl_e hP hZ3
    have hZ3I := zI_x hZ hZ3 (by omega)
    have t4 : Z3 11 hb 0 3 = Z 11 hb 0 3 := zu_ne hZ3 (fun q => absurd q.1 (by decide))
    have t5 : Z3 11 hb 0 8 = Z 11 hb 0 8 := zu_ne hZ3 (fun q => absurd q.1 (by decide))
    have t6 : Z3 11 hb 0 9 = Z 11 hb 0 9 := zu_ne hZ3 (fun q => absurd q.1 (by decide))
    have t7 : Z3 11 hb 0 7 = Z 11 hb 0 7 := zu_ne hZ3 (fun q => absurd q.1 (by decide))
    have hZ3K := zK_u hK hZ3 (by decide)
    intro μ9 e9
    replace e9 := e9.trans (zm_wI (Z := Z) (ν := ν) hZ3 (rfl : ((x0 : Nat) : Int) = x0) (show ((0 : Nat) : Int) = 0 from rfl) (show ((2 : Nat) : Int) = 2 from rfl) (i3R (i3A (i3M (show (25173 : Int32) = i3 25173 from rfl) (zm_rd (Z := Z) (ν := ν) (k := 200) (rfl : ((x0 : Nat) : Int) = x0) (show ((0 : Nat) : Int) = 0 from rfl) (show ((2 : Nat) : Int) = 2 from rfl))) (show (13849 : Int32) = i3 13849 from rfl)) (show (65536 : Int32) = i3 65536 from rfl) (by omega) (by omega) (by omega) (by omega)))
    subst e9
    refine wz_i1 (by rw [tsn]; rfl) ?_
    refine wz_i1 (by rw [tsn]; rfl) ?_
    refine wz_i1 (by rw [tsn]; rfl) ?_
    refine wz_i1 (by rw [tsn]; rfl) ?_
    have r8 := zI_xr (n := x0) hZ3I
    have q9 := zu_at hZ3
    obtain ⟨Z10, hZ10⟩ := zx (zu Z3 200 x0 0 2 (((25173 * (Z3 200 x0 0 2)) + 13849) % 65536))
    replace hP := zl_e hP hZ10
    have hZ10I := zI_x hZ3I hZ10 (by omega)
    have t11 : Z10 11 hb 0 3 = Z3 11 hb 0 3 := zu_ne hZ10 (fun q => absurd q.1 (by decide))
    have t12 : Z10 11 hb 0 8 = Z3 11 hb 0 8 := zu_ne hZ10 (fun q => absurd q.1 (by decide))
    have t13 : Z10 11 hb 0 9 = Z3 11 hb 0 9 := zu_ne hZ10 (fun q => absurd q.1 (by decide))
    have t14 : Z10 11 hb 0 7 = Z3 11 hb 0 7 := zu_ne hZ10 (fun q => absurd q.1 (by decide))
    have hZ10K := zK_u hZ3K hZ10 (by decide)
    intro μ9 e9
    replace e9 := e9.trans (zm_wI (Z := Z3) (ν := ν) hZ10 (rfl : ((x0 : Nat) : Int) = x0) (show ((0 : Nat) : Int) = 0 from rfl) (show ((2 : Nat) : Int) = 2 from rfl) (i3R (i3A (i3M (show (25173 : Int32) = i3 25173 from rfl) (zm_rd (Z := Z3) (ν := ν) (k := 200) (rfl : ((x0 : Nat) : Int) = x0) (show ((0 : Nat) : Int) = 0 from rfl) (show ((2 : Nat) : Int) = 2 from rfl))) (show (13849 : Int32) = i3 13849 from rfl)) (show (65536 : Int32) = i3 65536 from rfl) (by omega) (by omega) (by omega) (by omega)))
    subst e9
    refine wz_i1 (by rw [tsn]; rfl) ?_
    refine wz_i1 (by rw [tsn]; rfl) ?_
    refine wz_i1 (by rw [tsn]; rfl) ?_
    refine wz_i1 (by rw [tsn]; rfl) ?_
    have r15 := zI_xr (n := x0) hZ10I
    have q16 := zu_at hZ10
    obtain ⟨Z17, hZ17⟩ := zx (zu Z10 200 x0 0 2 (((25173 * (Z10 200 x0 0 2)) + 13849) % 65536))
    replace hP := zl_e hP hZ17
    have hZ17I := zI_x hZ10I hZ17 (by omega)
    have t18 : Z17 11 hb 0 3 = Z10 11 hb 0 3 := zu_ne hZ17 (fun q => absurd q.1 (by decide))
    have t19 : Z17 11 hb 0 8 = Z10 11 hb 0 8 := zu_ne hZ17 (fun q => absurd q.1 (by decide))
    have t20 : Z17 11 hb 0 9 = Z10 11 hb 0 9 := zu_ne hZ17 (fun q => absurd q.1 (by decide))
    have t21 : Z17 11 hb 0 7 = Z10 11 hb 0 7 := zu_ne hZ17 (fun q => absurd q.1 (by decide))
    have hZ17K := zK_u hZ10K hZ17 (by decide)
    intro μ9 e9
    replace e9 := e9.trans (zm_wI (Z := Z10) (ν := ν) hZ17 (rfl : ((x0 : Nat) : Int) = x0) (show ((0 : Nat) : Int) = 0 from rfl) (show ((2 : Nat) : Int) = 2 from rfl) (i3R (i3A (i3M (show (25173 : Int32) = i3 25173 from rfl) (zm_rd (Z := Z10) (ν := ν) (k := 200) (rfl : ((x0 : Nat) : Int) = x0) (show ((0 : Nat) : Int) = 0 from rfl) (show ((2 : Nat) : Int) = 2 from rfl))) (show (13849 : Int32) = i3 13849 from rfl)) (show (65536 : Int32) = i3 65536 from rfl) (by omega) (by omega) (by omega) (by omega)))
    subst e9
    refine wz_i1 (by rw [tsn]; rfl) ?_
    refine wz_i1 (by rw [tsn]; rfl) ?_
    refine wz_i1 (by rw [tsn]; rfl) ?_
    refine wz_i1 (by rw [tsn]; rfl) ?_
    have r22 := zI_xr (n := x0) hZ17I
    have q23 := zu_at hZ17
    obtain ⟨Z24, hZ24⟩ := zx (zu Z17 200 x0 0 2 (((25173 * (Z17 200 x0 0 2)) + 13849) % 65536))
    replace hP := zl_e hP hZ24
    have hZ24I := zI_x hZ17I hZ24 (by omega)
    have t25 : Z24 11 hb 0 3 = Z17 11 hb 0 3 := zu_ne hZ24 (fun q => absurd q.1 (by decide))
    have t26 : Z24 11 hb 0 8 = Z17 11 hb 0 8 := zu_ne hZ24 (fun q => absurd q.1 (by decide))
    have t27 : Z24 11 hb 0 9 = Z17 11 hb 0 9 := zu_ne hZ24 (fun q => absurd q.1 (by decide))
    have t28 : Z24 11 hb 0 7 = Z17 11 hb 0 7 := zu_ne hZ24 (fun q => absurd q.1 (by decide))
    have hZ24K := zK_u hZ17K hZ24 (by decide)
    intro μ9 e9
    replace e9 := e9.trans (zm_wI (Z := Z17) (ν := ν) hZ24 (rfl : ((x0 : Nat) : Int) = x0) (show ((0 : Nat) : Int) = 0 from rfl) (show ((2 : Nat) : Int) = 2 from rfl) (i3R (i3A (i3M (show (25173 : Int32) = i3 25173 from rfl) (zm_rd (Z := Z17) (ν := ν) (k := 200) (rfl : ((x0 : Nat) : Int) = x0) (show ((0 : Nat) : Int) = 0 from rfl) (show ((2 : Nat) : Int) = 2 from rfl))) (show (13849 : Int32) = i3 13849 from rfl)) (show (65536 : Int32) = i3 65536 from rfl) (by omega) (by omega) (by omega) (by omega)))
    subst e9
    refine wz_i1 (by rw [tsn]; rfl) ?_
    refine wz_i1 (by rw [tsn]; rfl) ?_
    refine wz_i1 (by rw [tsn]; rfl) ?_
    refine wz_i1 (by rw [tsn]; rfl) ?_
    have r29 := zI_xr (n := x0) hZ24I
    have q30 := zu_at hZ24
    obtain ⟨Z31, hZ31⟩ := zx (zu Z24 200 x0 0 2 (((25173 * (Z24 200 x0 0 2)) + 13849) % 65536))
    replace hP := zl_e hP hZ31
    have hZ31I := zI_x hZ24I hZ31 (by omega)
    have t32 : Z31 11 hb 0 3 = Z24 11 hb 0 3 := zu_ne hZ31 (fun q => absurd q.1 (by decide))
    have t33 : Z31 11 hb 0 8 = Z24 11 hb 0 8 := zu_ne hZ31 (fun q => absurd q.1 (by decide))
    have t34 : Z31 11 hb 0 9 = Z24 11 hb 0 9 := zu_ne hZ31 (fun q => absurd q.1 (by decide))
    have t35 : Z31 11 hb 0 7 = Z24 11 hb 0 7 := zu_ne hZ31 (fun q => absurd q.1 (by decide))
    have hZ31K := zK_u hZ24K hZ31 (by decide)
    intro μ9 e9
    replace e9 := e9.trans (zm_wI (Z := Z24) (ν := ν) hZ31 (rfl : ((x0 : Nat) : Int) = x0) (show ((0 : Nat) : Int) = 0 from rfl) (show ((2 : Nat) : Int) = 2 from rfl) (i3R (i3A (i3M (show (25173 : Int32) = i3 25173 from rfl) (zm_rd (Z := Z24) (ν := ν) (k := 200) (rfl : ((x0 : Nat) : Int) = x0) (show ((0 : Nat) : Int) = 0 from rfl) (show ((2 : Nat) : Int) = 2 from rfl))) (show (13849 : Int32) = i3 13849 from rfl)) (show (65536 : Int32) = i3 65536 from rfl) (by omega) (by omega) (by omega) (by omega)))
    subst e9
    refine wz_i1 (by rw [tsn]; rfl) ?_
    refine wz_i1 rfl ?_
    refine wz_rko (r := (28, _, _)) rfl ?_
    refine wz_i1 rfl ?_
    refine wz_rko (r := (11, _, _)) rfl ?_
    refine wz_i1 rfl ?_
    refine wz_i0 (i3O (n := 17) (show (7 : Int32) = i3 7 from rfl) (by omega) (by omega) (by omega)) ?_
    refine wz_i1 rfl ?_
    have r36 := zI_k hZ31I 11 hb 0 7 (lo := 0) (hi := 2) (by decide) rfl
    refine wz_i0 (i3O (n := 2) (zm_rd (Z := Z31) (ν := ν) (k := 11) (rfl : ((hb : Nat) : Int) = hb) (show ((0 : Nat) : Int) = 0 from rfl) (show ((7 : Nat) : Int) = 7 from rfl)) (by omega) (by omega) (by omega)) ?_
    refine wz_rko (r := (48, _, _)) rfl ?_
    refine wz_i1 rfl ?_
    refine wz_i0 (i3O (n := 12) (show (0 : Int32) = i3 0 from rfl) (by omega) (by omega) (by omega)) ?_
    obtain ⟨Z37, hZ37⟩ := zx (zu Z31 48 hb (Z31 11 hb 0 7) 0 (4 + (((Z3 200 x0 0 2) / 16) % 4)))
    replace hP := zl_e hP hZ37
    have hZ37I := zI_u hZ31I hZ37 (lo := 0) (hi := 23) (by decide) rfl (by omega) ⟨by decide, by decide⟩ (Or.inl (by decide))
    have t38 : Z37 11 hb 0 3 = Z31 11 hb 0 3 := zu_ne hZ37 (fun q => absurd q.1 (by decide))
    have t39 : Z37 11 hb 0 8 = Z31 11 hb 0 8 := zu_ne hZ37 (fun q => absurd q.1 (by decide))
    have t40 : Z37 11 hb 0 9 = Z31 11 hb 0 9 := zu_ne hZ37 (fun q => absurd q.1 (by decide))
    have t41 : Z37 11 hb 0 7 = Z31 11 hb 0 7 := zu_ne hZ37 (fun q => absurd q.1 (by decide))
    have hZ37K := zK_u hZ31K hZ37 (by decide)
    intro μ9 e9
    replace e9 := e9.trans (zm_wI (Z := Z31) (ν := ν) hZ37 (rfl : ((hb : Nat) : Int) = hb) (i3I (y := (Z31 11 hb 0 7)) (zm_rd (Z := Z31) (ν := ν) (k := 11) (rfl : ((hb : Nat) : Int) = hb) (show ((0 : Nat) : Int) = 0 from rfl) (show ((7 : Nat) : Int) = 7 from rfl)) (by omega) (by omega) (by omega)) (show ((0 : Nat) : Int) = 0 from rfl) (i3A (show (4 : Int32) = i3 4 from rfl) (i3R (i3D (zm_rd (Z := Z3) (ν := ν) (k := 200) (rfl : ((x0 : Nat) : Int) = x0) (show ((0 : Nat) : Int) = 0 from rfl) (show ((2 : Nat) : Int) = 2 from rfl)) (show (16 : Int32) = i3 16 from rfl) (by omega) (by omega) (by omega) (by omega)) (show (4 : Int32) = i3 4 from rfl) (by omega) (by omega) (by omega) (by omega))))
    subst e9
    refine wz_i1 rfl ?_
    refine wz_i0 (i3O (n := 12) (show (1 : Int32) = i3 1 from rfl) (by omega) (by omega) (by omega)) ?_
    obtain ⟨Z42, hZ42⟩ := zx (zu Z37 48 hb (Z31 11 hb 0 7) 1 (1 + (((Z10 200 x0 0 2) / 16) % 4)))
    replace hP := zl_e hP hZ42
    have hZ42I := zI_u hZ37I hZ42 (lo := 0) (hi := 6) (by decide) rfl (by omega) ⟨by decide, by decide⟩ (Or.inl (by decide))
    have t43 : Z42 11 hb 0 3 = Z37 11 hb 0 3 := zu_ne hZ42 (fun q => absurd q.1 (by decide))
    have t44 : Z42 11 hb 0 8 = Z37 11 hb 0 8 := zu_ne hZ42 (fun q => absurd q.1 (by decide))
    have t45 : Z42 11 hb 0 9 = Z37 11 hb 0 9 := zu_ne hZ42 (fun q => absurd q.1 (by decide))
    have t46 : Z42 11 hb 0 7 = Z37 11 hb 0 7 := zu_ne hZ42 (fun q => absurd q.1 (by decide))
    have hZ42K := zK_u hZ37K hZ42 (by decide)
    intro μ9 e9
    replace e9 := e9.trans (zm_wI (Z := Z37) (ν := ν) hZ42 (rfl : ((hb : Nat) : Int) = hb) (i3I (y := (Z31 11 hb 0 7)) (zm_rd (Z := Z31) (ν := ν) (k := 11) (rfl : ((hb : Nat) : Int) = hb) (show ((0 : Nat) : Int) = 0 from rfl) (show ((7 : Nat) : Int) = 7 from rfl)) (by omega) (by omega) (by omega)) (show ((1 : Nat) : Int) = 1 from rfl) (i3A (show (1 : Int32) = i3 1 from rfl) (i3R (i3D (zm_rd (Z := Z10) (ν := ν) (k := 200) (rfl : ((x0 : Nat) : Int) = x0) (show ((0 : Nat) : Int) = 0 from rfl) (show ((2 : Nat) : Int) = 2 from rfl)) (show (16 : Int32) = i3 16 from rfl) (by omega) (by omega) (by omega) (by omega)) (show (4 : Int32) = i3 4 from rfl) (by omega) (by omega) (by omega) (by omega))))
    subst e9
    refine wz_i1 rfl ?_
    refine wz_i0 (i3O (n := 12) (show (2 : Int32) = i3 2 from rfl) (by omega) (by omega) (by omega)) ?_
    obtain ⟨Z47, hZ47⟩ := zx (zu Z42 48 hb (Z31 11 hb 0 7) 2 (1 + (((Z17 200 x0 0 2) / 16) % 4)))
    replace hP := zl_e hP hZ47
    have hZ47I := zI_u hZ42I hZ47 (lo := 0) (hi := 6) (by decide) rfl (by omega) ⟨by decide, by decide⟩ (Or.inl (by decide))
    have t48 : Z47 11 hb 0 3 = Z42 11 hb 0 3 := zu_ne hZ47 (fun q => absurd q.1 (by decide))
    have t49 : Z47 11 hb 0 8 = Z42 11 hb 0 8 := zu_ne hZ47 (fun q => absurd q.1 (by decide))
    have t50 : Z47 11 hb 0 9 = Z42 11 hb 0 9 := zu_ne hZ47 (fun q => absurd q.1 (by decide))
    have t51 : Z47 11 hb 0 7 = Z42 11 hb 0 7 := zu_ne hZ47 (fun q => absurd q.1 (by decide))
    have hZ47K := zK_u hZ42K hZ47 (by decide)
    intro μ9 e9
    replace e9 := e9.trans (zm_wI (Z := Z42) (ν := ν) hZ47 (rfl : ((hb : Nat) : Int) = hb) (i3I (y := (Z31 11 hb 0 7)) (zm_rd (Z := Z31) (ν := ν) (k := 11) (rfl : ((hb : Nat) : Int) = hb) (show ((0 : Nat) : Int) = 0 from rfl) (show ((7 : Nat) : Int) = 7 from rfl)) (by omega) (by omega) (by omega)) (show ((2 : Nat) : Int) = 2 from rfl) (i3A (show (1 : Int32) = i3 1 from rfl) (i3R (i3D (zm_rd (Z := Z17) (ν := ν) (k := 200) (rfl : ((x0 : Nat) : Int) = x0) (show ((0 : Nat) : Int) = 0 from rfl) (show ((2 : Nat) : Int) = 2 from rfl)) (show (16 : Int32) = i3 16 from rfl) (by omega) (by omega) (by omega) (by omega)) (show (4 : Int32) = i3 4 from rfl) (by omega) (by omega) (by omega) (by omega))))
    subst e9
    refine wz_i1 rfl ?_
    refine wz_i0 (i3O (n := 12) (show (3 : Int32) = i3 3 from rfl) (by omega) (by omega) (by omega)) ?_
    obtain ⟨Z52, hZ52⟩ := zx (zu Z47 48 hb (Z31 11 hb 0 7) 3 (10 + (10 * (((Z24 200 x0 0 2) / 16) % 9))))
    replace hP := zl_e hP hZ52
    have hZ52I := zI_u hZ47I hZ52 (lo := 0) (hi := 500) (by decide) rfl (by omega) ⟨by decide, by decide⟩ (Or.inl (by decide))
    have t53 : Z52 11 hb 0 3 = Z47 11 hb 0 3 := zu_ne hZ52 (fun q => absurd q.1 (by decide))
    have t54 : Z52 11 hb 0 8 = Z47 11 hb 0 8 := zu_ne hZ52 (fun q => absurd q.1 (by decide))
    have t55 : Z52 11 hb 0 9 = Z47 11 hb 0 9 := zu_ne hZ52 (fun q => absurd q.1 (by decide))
    have t56 : Z52 11 hb 0 7 = Z47 11 hb 0 7 := zu_ne hZ52 (fun q => absurd q.1 (by decide))
    have hZ52K := zK_u hZ47K hZ52 (by decide)
    intro μ9 e9
    replace e9 := e9.trans (zm_wI (Z := Z47) (ν := ν) hZ52 (rfl : ((hb : Nat) : Int) = hb) (i3I (y := (Z31 11 hb 0 7)) (zm_rd (Z := Z31) (ν := ν) (k := 11) (rfl : ((hb : Nat) : Int) = hb) (show ((0 : Nat) : Int) = 0 from rfl) (show ((7 : Nat) : Int) = 7 from rfl)) (by omega) (by omega) (by omega)) (show ((3 : Nat) : Int) = 3 from rfl) (i3A (show (10 : Int32) = i3 10 from rfl) (i3M (show (10 : Int32) = i3 10 from rfl) (i3R (i3D (zm_rd (Z := Z24) (ν := ν) (k := 200) (rfl : ((x0 : Nat) : Int) = x0) (show ((0 : Nat) : Int) = 0 from rfl) (show ((2 : Nat) : Int) = 2 from rfl)) (show (16 : Int32) = i3 16 from rfl) (by omega) (by omega) (by omega) (by omega)) (show (9 : Int32) = i3 9 from rfl) (by omega) (by omega) (by omega) (by omega)))))
    subst e9
    refine wz_i1 rfl ?_
    refine wz_i0 (i3O (n := 12) (show (4 : Int32) = i3 4 from rfl) (by omega) (by omega) (by omega)) ?_
    have r57 := zI_xr (n := x0) hZ31I
    have q58 := zu_at hZ31
    obtain ⟨Z59, hZ59⟩ := zx (zu Z52 48 hb (Z31 11 hb 0 7) 4 (((Z31 200 x0 0 2) / 16) % 5))
    replace hP := zl_e hP hZ59
    have hZ59I := zI_u hZ52I hZ59 (lo := 0) (hi := 9) (by decide) rfl (by omega) ⟨by decide, by decide⟩ (Or.inl (by decide))
    have t60 : Z59 11 hb 0 3 = Z52 11 hb 0 3 := zu_ne hZ59 (fun q => absurd q.1 (by decide))
    have t61 : Z59 11 hb 0 8 = Z52 11 hb 0 8 := zu_ne hZ59 (fun q => absurd q.1 (by decide))
    have t62 : Z59 11 hb 0 9 = Z52 11 hb 0 9 := zu_ne hZ59 (fun q => absurd q.1 (by decide))
    have t63 : Z59 11 hb 0 7 = Z52 11 hb 0 7 := zu_ne hZ59 (fun q => absurd q.1 (by decide))
    have hZ59K := zK_u hZ52K hZ59 (by decide)
    intro μ9 e9
    replace e9 := e9.trans (zm_wI (Z := Z52) (ν := ν) hZ59 (rfl : ((hb : Nat) : Int) = hb) (i3I (y := (Z31 11 hb 0 7)) (zm_rd (Z := Z31) (ν := ν) (k := 11) (rfl : ((hb : Nat) : Int) = hb) (show ((0 : Nat) : Int) = 0 from rfl) (show ((7 : Nat) : Int) = 7 from rfl)) (by omega) (by omega) (by omega)) (show ((4 : Nat) : Int) = 4 from rfl) (i3R (i3D (zm_rd (Z := Z31) (ν := ν) (k := 200) (rfl : ((x0 : Nat) : Int) = x0) (show ((0 : Nat) : Int) = 0 from rfl) (show ((2 : Nat) : Int) = 2 from rfl)) (show (16 : Int32) = i3 16 from rfl) (by omega) (by omega) (by omega) (by omega)) (show (5 : Int32) = i3 5 from rfl) (by omega) (by omega) (by omega) (by omega)))
    subst e9
    refine wz_i1 rfl ?_
    refine wz_i0 (i3O (n := 12) (show (6 : Int32) = i3 6 from rfl) (by omega) (by omega) (by omega)) ?_
    obtain ⟨Z64, hZ64⟩ := zx (zu Z59 48 hb (Z31 11 hb 0 7) 6 (-1))
    replace hP := zl_e hP hZ64
    have hZ64I := zI_u hZ59I hZ64 (lo := -1) (hi := 9999) (by decide) rfl (by omega) ⟨by decide, by decide⟩ (Or.inl (by decide))
    have t65 : Z64 11 hb 0 3 = Z59 11 hb 0 3 := zu_ne hZ64 (fun q => absurd q.1 (by decide))
    have t66 : Z64 11 hb 0 8 = Z59 11 hb 0 8 := zu_ne hZ64 (fun q => absurd q.1 (by decide))
    have t67 : Z64 11 hb 0 9 = Z59 11 hb 0 9 := zu_ne hZ64 (fun q => absurd q.1 (by decide))
    have t68 : Z64 11 hb 0 7 = Z59 11 hb 0 7 := zu_ne hZ64 (fun q => absurd q.1 (by decide))
    have hZ64K := zK_u hZ59K hZ64 (by decide)
    intro μ9 e9
    replace e9 := e9.trans (zm_wI (Z := Z59) (ν := ν) hZ64 (rfl : ((hb : Nat) : Int) = hb) (i3I (y := (Z31 11 hb 0 7)) (zm_rd (Z := Z31) (ν := ν) (k := 11) (rfl : ((hb : Nat) : Int) = hb) (show ((0 : Nat) : Int) = 0 from rfl) (show ((7 : Nat) : Int) = 7 from rfl)) (by omega) (by omega) (by omega)) (show ((6 : Nat) : Int) = 6 from rfl) (show (-1 : Int32) = i3 (-1) from rfl))
    subst e9
    refine wz_i1 rfl ?_
    refine wz_i0 (i3O (n := 12) (show (7 : Int32) = i3 7 from rfl) (by omega) (by omega) (by omega)) ?_
    obtain ⟨Z69, hZ69⟩ := zx (zu Z64 48 hb (Z31 11 hb 0 7) 7 (-1))
    replace hP := zl_e hP hZ69
    have hZ69I := zI_u hZ64I hZ69 (lo := -1) (hi := 47) (by decide) rfl (by omega) ⟨by decide, by decide⟩ (Or.inl (by decide))
    have t70 : Z69 11 hb 0 3 = Z64 11 hb 0 3 := zu_ne hZ69 (fun q => absurd q.1 (by decide))
    have t71 : Z69 11 hb 0 8 = Z64 11 hb 0 8 := zu_ne hZ69 (fun q => absurd q.1 (by decide))
    have t72 : Z69 11 hb 0 9 = Z64 11 hb 0 9 := zu_ne hZ69 (fun q => absurd q.1 (by decide))
    have t73 : Z69 11 hb 0 7 = Z64 11 hb 0 7 := zu_ne hZ69 (fun q => absurd q.1 (by decide))
    have hZ69K := zK_u hZ64K hZ69 (by decide)
    intro μ9 e9
    replace e9 := e9.trans (zm_wI (Z := Z64) (ν := ν) hZ69 (rfl : ((hb : Nat) : Int) = hb) (i3I (y := (Z31 11 hb 0 7)) (zm_rd (Z := Z31) (ν := ν) (k := 11) (rfl : ((hb : Nat) : Int) = hb) (show ((0 : Nat) : Int) = 0 from rfl) (show ((7 : Nat) : Int) = 7 from rfl)) (by omega) (by omega) (by omega)) (show ((7 : Nat) : Int) = 7 from rfl) (show (-1 : Int32) = i3 (-1) from rfl))
    subst e9
    refine wz_i1 rfl ?_
    refine wz_rko (r := (11, _, _)) rfl ?_
    refine wz_i1 rfl ?_
    refine wz_i0 (i3O (n := 17) (show (7 : Int32) = i3 7 from rfl) (by omega) (by omega) (by omega)) ?_
    refine wz_i1 rfl ?_
    refine wz_i0 (i3O (n := 17) (show (7 : Int32) = i3 7 from rfl) (by omega) (by omega) (by omega)) ?_
    have r74 := zI_k hZ69I 11 hb 0 7 (lo := 0) (hi := 2) (by decide) rfl
    have q75 := (zu_ne (k' := 11) (b' := hb) (i' := 0) (j' := 7) hZ69 (fun q => absurd q.1 (by decide))).trans ((zu_ne (k' := 11) (b' := hb) (i' := 0) (j' := 7) hZ64 (fun q => absurd q.1 (by decide))).trans ((zu_ne (k' := 11) (b' := hb) (i' := 0) (j' := 7) hZ59 (fun q => absurd q.1 (by decide))).trans ((zu_ne (k' := 11) (b' := hb) (i' := 0) (j' := 7) hZ52 (fun q => absurd q.1 (by decide))).trans ((zu_ne (k' := 11) (b' := hb) (i' := 0) (j' := 7) hZ47 (fun q => absurd q.1 (by decide))).trans ((zu_ne (k' := 11) (b' := hb) (i' := 0) (j' := 7) hZ42 (fun q => absurd q.1 (by decide))).trans (zu_ne (k' := 11) (b' := hb) (i' := 0) (j' := 7) hZ37 (fun q => absurd q.1 (by decide))))))))
    obtain ⟨Z76, hZ76⟩ := zx (zu Z69 11 hb 0 7 ((Z69 11 hb 0 7) + 1))
    replace hP := zl_e hP hZ76
    have hZ76I := zI_u hZ69I hZ76 (lo := 0) (hi := 2) (by decide) rfl (by omega) ⟨by decide, by decide⟩ (Or.inl (by decide))
    have t77 : Z76 11 hb 0 3 = Z69 11 hb 0 3 := zu_ne hZ76 (fun q => absurd q.2.2.2 (by decide))
    have t78 : Z76 11 hb 0 8 = Z69 11 hb 0 8 := zu_ne hZ76 (fun q => absurd q.2.2.2 (by decide))
    have t79 : Z76 11 hb 0 9 = Z69 11 hb 0 9 := zu_ne hZ76 (fun q => absurd q.2.2.2 (by decide))
    have t80 := zu_at hZ76
    have hZ76K := zK_u hZ69K hZ76 (by decide)
    intro μ9 e9
    replace e9 := e9.trans (zm_wI (Z := Z69) (ν := ν) hZ76 (rfl : ((hb : Nat) : Int) = hb) (show ((0 : Nat) : Int) = 0 from rfl) (show ((7 : Nat) : Int) = 7 from rfl) (i3A (zm_rd (Z := Z69) (ν := ν) (k := 11) (rfl : ((hb : Nat) : Int) = hb) (show ((0 : Nat) : Int) = 0 from rfl) (show ((7 : Nat) : Int) = 7 from rfl)) (show (1 : Int32) = i3 1 from rfl)))
    subst e9
    obtain ⟨m2, rfl⟩ : ∃ m2, m = m2 + 1 := ⟨m - 1, by omega⟩
    exact wz_k1 ⟨m2, by omega, Z76, (x2 + 1), (zconso rfl (zconso (zvo (rfl : i3 x1 = i3 x1)) (zconso (zvo (i3A (rfl : i3 x2 = i3 x2) (show (1 : Int32) = i3 1 from rfl))) (zconso rfl (zconso rfl (zconso rfl rfl)))))), rfl, hZ76I, hZ76K, by omega, by omega, by omega, by omega, by omega, by omega,  hP⟩

/- yX8_tellClocks -/
def zl_147_2 (x0 : Int) (hb : Int) (x1 : Int) : Nat → qz_Z → Int → qz_Z × Int
  | 0, Z, x2 => (Z, x2)
  | m + 1, Z, x2 => (if (Z 11 hb 0 3) ≤ x2 then (Z, x2) else (if (Z 44 hb x2 9) = (-1) then zl_147_2 x0 hb x1 m Z (x2 + 1) else (zlet (zu Z 200 x0 0 2 (((25173 * (Z 200 x0 0 2)) + 13849) % 65536)) (fun Z6 => (zlet (zu Z6 200 x0 0 2 (((25173 * (Z6 200 x0 0 2)) + 13849) % 65536)) (fun Z12 => (zlet (zu Z12 200 x0 0 2 (((25173 * (Z12 200 x0 0 2)) + 13849) % 65536)) (fun Z19 => (zlet (zf_71 Z19 hb (((Z6 200 x0 0 2) / 16) % (max 1 x1)) x2 (200 + (50 * (((Z12 200 x0 0 2) / 16) % 40))) (max 1 ((200 + (50 * (((Z12 200 x0 0 2) / 16) % 40))) - ((Z12 48 hb (((Z6 200 x0 0 2) / 16) % (max 1 x1)) 3) * (((Z19 200 x0 0 2) / 16) % 60))))) (fun v27 => (if v27 ≠ 0 then zl_147_2 x0 hb x1 m Z19 (x2 + 1) else (zlet (zu Z19 44 hb x2 10 1) (fun Z29 => (zlet (zu Z29 49 hb (12 * (((Z6 200 x0 0 2) / 16) % (max 1 x1)) + (Z19 48 hb (((Z6 200 x0 0 2) / 16) % (max 1 x1)) 5)) 0 x2) (fun Z34 => (zlet (zu Z34 49 hb (12 * (((Z6 200 x0 0 2) / 16) % (max 1 x1)) + (Z19 48 hb (((Z6 200 x0 0 2) / 16) % (max 1 x1)) 5)) 1 (200 + (50 * (((Z12 200 x0 0 2) / 16) % 40)))) (fun Z38 => (zlet (zu Z38 49 hb (12 * (((Z6 200 x0 0 2) / 16) % (max 1 x1)) + (Z19 48 hb (((Z6 200 x0 0 2) / 16) % (max 1 x1)) 5)) 2 (max 1 ((200 + (50 * (((Z12 200 x0 0 2) / 16) % 40))) - ((Z12 48 hb (((Z6 200 x0 0 2) / 16) % (max 1 x1)) 3) * (((Z19 200 x0 0 2) / 16) % 60))))) (fun Z42 => (zlet (zu Z42 48 hb (((Z6 200 x0 0 2) / 16) % (max 1 x1)) 5 ((Z42 48 hb (((Z6 200 x0 0 2) / 16) % (max 1 x1)) 5) + 1)) (fun Z48 => zl_147_2 x0 hb x1 m Z48 (x2 + 1))))))))))))))))))))))
theorem sl_147_2 {Zs Z : qz_Z} {ν : qz_N} (x0 : Nat) (hZ : zI (some (some (x0 : Int))) Z) (hK : zK [44, 48, 49, 200] Zs Z) (hb : Nat) (tsn : ∀ Z, qz_tag (zm Z ν) (200, x0, 0) = 2) (rsn : ∀ Z, qz_rm (zm Z ν) 200 x0 0 0 = some (10, hb, 0)) {x1 : Int} (gx1 : 1 ≤ x1 ∧ x1 ≤ 2) {x2 : Int} (gx2 : 0 ≤ x2 ∧ x2 ≤ 48) {kc0 : Int} {kc1 : Int} {kc2 : Int} (gr0 : Z 11 hb 0 3 = kc0) (gr1 : Z 11 hb 0 8 = kc1) (gr2 : Z 11 hb 0 9 = kc2) {k : wz_K} {R : wz_R} {L : qz_L} (hL : qz_fg [true, true, true, false, false, false] L = [some (.inr (.inr (some (200, x0, 0)))), some (.inl (i3 x1)), some (.inl (i3 x2)), none, none, none]) {T : qz_Z × Int} (hP : zE T (zl_147_2 x0 hb x1 ((48 - x2).toNat + 1) Z x2)) (hk : ∀ (L9 : qz_L) (Z9 : qz_Z) (yx2 : Int), qz_fg [false, false, false, false, false, false] L9 = [none, none, none, none, none, none] → zI (some (some (x0 : Int))) Z9 → zK [44, 48, 49, 200] Zs Z9 → (0 ≤ yx2 ∧ yx2 ≤ 48) → (Z9 11 hb 0 3 = kc0) → (Z9 11 hb 0 8 = kc1) → (Z9 11 hb 0 9 = kc2) → zE T ((Z9, yx2)) → k 0 (L9, [], zm Z9 ν)) : wz_loop qb_147_2 65536 k R (L, [], zm Z ν) := by
  refine wz_lp sb_147_2 (fun m x => ∃ Z : qz_Z, ∃ x2 : Int, qz_fg [true, true, true, false, false, false] x.1 = [some (.inr (.inr (some (200, x0, 0)))), some (.inl (i3 x1)), some (.inl (i3 x2)), none, none, none] ∧ x.2 = ([], zm Z ν) ∧ zI (some (some (x0 : Int))) Z ∧ zK [44, 48, 49, 200] Zs Z ∧ m = (48 - x2).toNat ∧ (0 ≤ x2 ∧ x2 ≤ 48) ∧ (Z 11 hb 0 3 = kc0) ∧ (Z 11 hb 0 8 = kc1) ∧ (Z 11 hb 0 9 = kc2) ∧ zE T (zl_147_2 x0 hb x1 (m + 1) Z x2)) ?_ 65536 ((48 - x2).toNat) _ (by omega) ⟨Z, x2, hL, rfl, hZ, hK, rfl, gx2, gr0, gr1, gr2, hP⟩
  clear hP gr0 gr1 gr2 gx2 hZ hK hL
  clear x2
  clear Z
  rintro m ⟨L, st, μ⟩ ⟨Z, x2, hL, hx, hZ, hK, hm, gx2, gr0, gr1, gr2, hP⟩
  cases hx
  refine fb_147_2 x0 (i3 x1) (i3 x2) _ _ _ _ hL ?_
  have rs := zI_xs (n := x0) hZ
  refine wz_i1 (by rw [tsn]; rfl) ?_
  refine wz_rko (rsn _) ?_
  refine wz_i1 rfl ?_
  refine wz_rko (r := (11, _, _)) rfl ?_
  refine wz_i1 rfl ?_
  refine wz_i0 (i3O (n := 17) (show (3 : Int32) = i3 3 from rfl) (by omega) (by omega) (by omega)) ?_
  have r1 := zI_k hZ 11 hb 0 3 (lo := 0) (hi := 48) (by decide) rfl
  refine wz_br (i3Le (zm_rd (Z := Z) (ν := ν) (k := 11) (rfl : ((hb : Nat) : Int) = hb) (show ((0 : Nat) : Int) = 0 from rfl) (show ((3 : Nat) : Int) = 3 from rfl)) (rfl : i3 x2 = i3 x2) (by omega) (by omega) (by omega) (by omega)) (fun h2 => ?_) (fun h2 => ?_)
  · replace hP := zE_p hP h2
    exact hk _ _ _ (zconso rfl (zconso rfl (zconso rfl (zconso rfl (zconso rfl (zconso rfl rfl)))))) hZ hK (by omega) (by omega) (by omega) (by omega) hP
  · replace hP := zE_n hP h2
    refine wz_i1 (by rw [tsn]; rfl) ?_
    refine wz_rko (rsn _) ?_
    refine wz_i1 rfl ?_
    refine wz_rko (r := (24, _, _)) rfl ?_
    refine wz_i1 rfl ?_
    refine wz_i0 (i3O (n := 48) (rfl : i3 x2 = i3 x2) (by omega) (by omega) (by omega)) ?_
    refine wz_rko (r := (44, _, _)) rfl ?_
    refine wz_i1 rfl ?_
    refine wz_i0 (i3O (n := 16) (show (9 : Int32) = i3 9 from rfl) (by omega) (by omega) (by omega)) ?_
    have r3 := zI_k hZ 44 hb x2 9 (lo := -1) (hi := 3) (by decide) rfl
    refine wz_br (i3E (zm_rd (Z := Z) (ν := ν) (k := 44) (rfl : ((hb : Nat) : Int) = hb) (i3I (y := x2) (rfl : i3 x2 = i3 x2) (by omega) (by omega) (by omega)) (show ((9 : Nat) : Int) = 9 from rfl)) (show (-1 : Int32) = i3 (-1) from rfl) (by omega) (by omega) (by omega) (by omega)) (fun h4 => ?_) (fun h4 => ?_)
    · replace hP := zE_p hP h4
      obtain ⟨m2, rfl⟩ : ∃ m2, m = m2 + 1 := ⟨m - 1, by omega⟩
      exact wz_k1 ⟨m2, by omega, Z, (x2 + 1), (zconso rfl (zconso (zvo (rfl : i3 x1 = i3 x1)) (zconso (zvo (i3A (rfl : i3 x2 = i3 x2) (show (1 : Int32) = i3 1 from rfl))) (zconso rfl (zconso rfl (zconso rfl rfl)))))), rfl, hZ, hK, by omega, by omega, by omega, by omega, by omega,  hP⟩
    · replace hP := zE_n hP h4
      refine wz_i1 (by rw [tsn]; rfl) ?_
      refine wz_i1 (by rw [tsn]; rfl) ?_
      refine wz_i1 (by rw [tsn]; rfl) ?_
      have r5 := zI_xr (n := x0) hZ
      obtain ⟨Z6, hZ6⟩ := zx (zu Z 200 x0 0 2 (((25173 * (Z 200 x0 0 2)) + 13849) % 65536))
      replace hP := zl_e hP hZ6
      have hZ6I := zI_x hZ hZ6 (by omega)
      have t7 : Z6 11 hb 0 3 = Z 11 hb 0 3 := zu_ne hZ6 (fun q => absurd q.1 (by decide))
      have t8 : Z6 11 hb 0 8 = Z 11 hb 0 8 := zu_ne hZ6 (fun q => absurd q.1 (by decide))
      have t9 : Z6 11 hb 0 9 = Z 11 hb 0 9 := zu_ne hZ6 (fun q => absurd q.1 (by decide))
      have hZ6K := zK_u hK hZ6 (by decide)
      intro μ9 e9
      replace e9 := e9.trans (zm_wI (Z := Z) (ν := ν) hZ6 (rfl : ((x0 : Nat) : Int) = x0) (show ((0 : Nat) : Int) = 0 from rfl) (show ((2 : Nat) : Int) = 2 from rfl) (i3R (i3A (i3M (show (25173 : Int32) = i3 25173 from rfl) (zm_rd (Z := Z) (ν := ν) (k := 200) (rfl : ((x0 : Nat) : Int) = x0) (show ((0 : Nat) : Int) = 0 from rfl) (show ((2 : Nat) : Int) = 2 from rfl))) (show (13849 : Int32) = i3 13849 from rfl)) (show (65536 : Int32) = i3 65536 from rfl) (by omega) (by omega) (by omega) (by omega)))
      subst e9
      refine wz_i1 (by rw [tsn]; rfl) ?_
      refine wz_i0 (i3N0 (i3Mx (show (1 : Int32) = i3 1 from rfl) (rfl : i3 x1 = i3 x1) (by omega) (by omega) (by omega) (by omega)) (by omega) (by omega) (by omega)) ?_
      refine wz_i1 (by rw [tsn]; rfl) ?_
      refine wz_i1 (by rw [tsn]; rfl) ?_
      refine wz_i1 (by rw [tsn]; rfl) ?_
      have r10 := zI_xr (n := x0) hZ6I
      have q11 := zu_at hZ6
      obtain ⟨Z12, hZ12⟩ := zx (zu Z6 200 x0 0 2 (((25173 * (Z6 200 x0 0 2)) + 13849) % 65536))
      replace hP := zl_e hP hZ12
      have hZ12I := zI_x hZ6I hZ12 (by omega)
      have t13 : Z12 11 hb 0 3 = Z6 11 hb 0 3 := zu_ne hZ12 (fun q => absurd q.1 (by decide))
      have t14 : Z12 11 hb 0 8 = Z6 11 hb 0 8 := zu_ne hZ12 (fun q => absurd q.1 (by decide))
      have t15 : Z12 11 hb 0 9 = Z6 11 hb 0 9 := zu_ne hZ12 (fun q => absurd q.1 (by decide))
      have hZ12K := zK_u hZ6K hZ12 (by decide)
      intro μ9 e9
      replace e9 := e9.trans (zm_wI (Z := Z6) (ν := ν) hZ12 (rfl : ((x0 : Nat) : Int) = x0) (show ((0 : Nat) : Int) = 0 from rfl) (show ((2 : Nat) : Int) = 2 from rfl) (i3R (i3A (i3M (show (25173 : Int32) = i3 25173 from rfl) (zm_rd (Z := Z6) (ν := ν) (k := 200) (rfl : ((x0 : Nat) : Int) = x0) (show ((0 : Nat) : Int) = 0 from rfl) (show ((2 : Nat) : Int) = 2 from rfl))) (show (13849 : Int32) = i3 13849 from rfl)) (show (65536 : Int32) = i3 65536 from rfl) (by omega) (by omega) (by omega) (by omega)))
      subst e9
      refine wz_i1 (by rw [tsn]; rfl) ?_
      refine wz_i1 (by rw [tsn]; rfl) ?_
      refine wz_rko (rsn _) ?_
      refine wz_i1 rfl ?_
      refine wz_rko (r := (28, _, _)) rfl ?_
      refine wz_i1 rfl ?_
      have r16 := z_mod ((Z6 200 x0 0 2) / 16) (y := (max 1 x1)) (by omega)
      refine wz_i0 (i3O (n := 2) (i3R (i3D (zm_rd (Z := Z6) (ν := ν) (k := 200) (rfl : ((x0 : Nat) : Int) = x0) (show ((0 : Nat) : Int) = 0 from rfl) (show ((2 : Nat) : Int) = 2 from rfl)) (show (16 : Int32) = i3 16 from rfl) (by omega) (by omega) (by omega) (by omega)) (i3Mx (show (1 : Int32) = i3 1 from rfl) (rfl : i3 x1 = i3 x1) (by omega) (by omega) (by omega) (by omega)) (by omega) (by omega) (by omega) (by omega)) (by omega) (by omega) (by omega)) ?_
      refine wz_rko (r := (48, _, _)) rfl ?_
      refine wz_i1 rfl ?_
      refine wz_i0 (i3O (n := 12) (show (3 : Int32) = i3 3 from rfl) (by omega) (by omega) (by omega)) ?_
      refine wz_i1 (by rw [tsn]; rfl) ?_
      refine wz_i1 (by rw [tsn]; rfl) ?_
      refine wz_i1 (by rw [tsn]; rfl) ?_
      have r17 := zI_xr (n := x0) hZ12I
      have q18 := zu_at hZ12
      obtain ⟨Z19, hZ19⟩ := zx (zu Z12 200 x0 0 2 (((25173 * (Z12 200 x0 0 2)) + 13849) % 65536))
      replace hP := zl_e hP hZ19
      have hZ19I := zI_x hZ12I hZ19 (by omega)
      have t20 : Z19 11 hb 0 3 = Z12 11 hb 0 3 := zu_ne hZ19 (fun q => absurd q.1 (by decide))
      have t21 : Z19 11 hb 0 8 = Z12 11 hb 0 8 := zu_ne hZ19 (fun q => absurd q.1 (by decide))
      have t22 : Z19 11 hb 0 9 = Z12 11 hb 0 9 := zu_ne hZ19 (fun q => absurd q.1 (by decide))
      have hZ19K := zK_u hZ12K hZ19 (by decide)
      intro μ9 e9
      replace e9 := e9.trans (zm_wI (Z := Z12) (ν := ν) hZ19 (rfl : ((x0 : Nat) : Int) = x0) (show ((0 : Nat) : Int) = 0 from rfl) (show ((2 : Nat) : Int) = 2 from rfl) (i3R (i3A (i3M (show (25173 : Int32) = i3 25173 from rfl) (zm_rd (Z := Z12) (ν := ν) (k := 200) (rfl : ((x0 : Nat) : Int) = x0) (show ((0 : Nat) : Int) = 0 from rfl) (show ((2 : Nat) : Int) = 2 from rfl))) (show (13849 : Int32) = i3 13849 from rfl)) (show (65536 : Int32) = i3 65536 from rfl) (by omega) (by omega) (by omega) (by omega)))
      subst e9
      refine wz_i1 (by rw [tsn]; rfl) ?_
      refine wz_i1 (by rw [tsn]; rfl) ?_
      refine wz_rko (rsn _) ?_
      have r23 := zI_k hZ12I 48 hb (((Z6 200 x0 0 2) / 16) % (max 1 x1)) 3 (lo := 0) (hi := 500) (by decide) rfl
      have r24 := zI_xr (n := x0) hZ19I
      have q25 := zu_at hZ19
      have r26 := z_mul (x := (Z12 48 hb (((Z6 200 x0 0 2) / 16) % (max 1 x1)) 3)) (y := (((Z19 200 x0 0 2) / 16) % 60)) (a := 500) (b := 59) (by omega) (by omega) (by omega) (by omega)
      obtain ⟨v27, hv27, c9, lv27, uv27, wv270⟩ := sp_71 (ν := ν) hZ19I hb (a1 := (((Z6 200 x0 0 2) / 16) % (max 1 x1))) (by omega) (a2 := x2) (by omega) (a3 := (200 + (50 * (((Z12 200 x0 0 2) / 16) % 40)))) (by omega) (a4 := (max 1 ((200 + (50 * (((Z12 200 x0 0 2) / 16) % 40))) - ((Z12 48 hb (((Z6 200 x0 0 2) / 16) % (max 1 x1)) 3) * (((Z19 200 x0 0 2) / 16) % 60))))) (by omega)
      replace hP := zl_e hP hv27
      refine wz_cI_of (zas (zcons rfl (zcons (zvi (i3R (i3D (zm_rd (Z := Z6) (ν := ν) (k := 200) (rfl : ((x0 : Nat) : Int) = x0) (show ((0 : Nat) : Int) = 0 from rfl) (show ((2 : Nat) : Int) = 2 from rfl)) (show (16 : Int32) = i3 16 from rfl) (by omega) (by omega) (by omega) (by omega)) (i3Mx (show (1 : Int32) = i3 1 from rfl) (rfl : i3 x1 = i3 x1) (by omega) (by omega) (by omega) (by omega)) (by omega) (by omega) (by omega) (by omega))) (zcons (zvi (rfl : i3 x2 = i3 x2)) (zcons (zvi (i3A (show (200 : Int32) = i3 200 from rfl) (i3M (show (50 : Int32) = i3 50 from rfl) (i3R (i3D (zm_rd (Z := Z12) (ν := ν) (k := 200) (rfl : ((x0 : Nat) : Int) = x0) (show ((0 : Nat) : Int) = 0 from rfl) (show ((2 : Nat) : Int) = 2 from rfl)) (show (16 : Int32) = i3 16 from rfl) (by omega) (by omega) (by omega) (by omega)) (show (40 : Int32) = i3 40 from rfl) (by omega) (by omega) (by omega) (by omega))))) (zcons (zvi (i3Mx (show (1 : Int32) = i3 1 from rfl) (i3S (i3A (show (200 : Int32) = i3 200 from rfl) (i3M (show (50 : Int32) = i3 50 from rfl) (i3R (i3D (zm_rd (Z := Z12) (ν := ν) (k := 200) (rfl : ((x0 : Nat) : Int) = x0) (show ((0 : Nat) : Int) = 0 from rfl) (show ((2 : Nat) : Int) = 2 from rfl)) (show (16 : Int32) = i3 16 from rfl) (by omega) (by omega) (by omega) (by omega)) (show (40 : Int32) = i3 40 from rfl) (by omega) (by omega) (by omega) (by omega)))) (i3M (zm_rd (Z := Z12) (ν := ν) (k := 48) (rfl : ((hb : Nat) : Int) = hb) (i3I (y := (((Z6 200 x0 0 2) / 16) % (max 1 x1))) (i3R (i3D (zm_rd (Z := Z6) (ν := ν) (k := 200) (rfl : ((x0 : Nat) : Int) = x0) (show ((0 : Nat) : Int) = 0 from rfl) (show ((2 : Nat) : Int) = 2 from rfl)) (show (16 : Int32) = i3 16 from rfl) (by omega) (by omega) (by omega) (by omega)) (i3Mx (show (1 : Int32) = i3 1 from rfl) (rfl : i3 x1 = i3 x1) (by omega) (by omega) (by omega) (by omega)) (by omega) (by omega) (by omega) (by omega)) (by omega) (by omega) (by omega)) (show ((3 : Nat) : Int) = 3 from rfl)) (i3R (i3D (zm_rd (Z := Z19) (ν := ν) (k := 200) (rfl : ((x0 : Nat) : Int) = x0) (show ((0 : Nat) : Int) = 0 from rfl) (show ((2 : Nat) : Int) = 2 from rfl)) (show (16 : Int32) = i3 16 from rfl) (by omega) (by omega) (by omega) (by omega)) (show (60 : Int32) = i3 60 from rfl) (by omega) (by omega) (by omega) (by omega)))) (by omega) (by omega) (by omega) (by omega))) rfl))))) c9) ?_
      clear c9
      refine wz_br (i3NE (rfl : i3 v27 = i3 v27) (show (0 : Int32) = i3 0 from rfl) (by omega) (by omega) (by omega) (by omega)) (fun h28 => ?_) (fun h28 => ?_)
      · replace hP := zE_p hP h28
        obtain ⟨m2, rfl⟩ : ∃ m2, m = m2 + 1 := ⟨m - 1, by omega⟩
        exact wz_k1 ⟨m2, by omega, Z19, (x2 + 1), (zconso rfl (zconso (zvo (rfl : i3 x1 = i3 x1)) (zconso (zvo (i3A (rfl : i3 x2 = i3 x2) (show (1 : Int32) = i3 1 from rfl))) (zconso rfl (zconso rfl (zconso rfl rfl)))))), rfl, hZ19I, hZ19K, by omega, by omega, by omega, by omega, by omega,  hP⟩
      · replace hP := zE_n hP h28
        refine wz_i1 (by rw [tsn]; rfl) ?_
        refine wz_rko (rsn _) ?_
        refine wz_i1 rfl ?_
        refine wz_rko (r := (28, _, _)) rfl ?_
        refine wz_i1 rfl ?_
        refine wz_i0 (i3O (n := 2) (i3R (i3D (zm_rd (Z := Z6) (ν := ν) (k := 200) (rfl : ((x0 : Nat) : Int) = x0) (show ((0 : Nat) : Int) = 0 from rfl) (show ((2 : Nat) : Int) = 2 from rfl)) (show (16 : Int32) = i3 16 from rfl) (by omega) (by omega) (by omega) (by omega)) (i3Mx (show (1 : Int32) = i3 1 from rfl) (rfl : i3 x1 = i3 x1) (by omega) (by omega) (by omega) (by omega)) (by omega) (by omega) (by omega) (by omega)) (by omega) (by omega) (by omega)) ?_
        refine wz_rko (r := (48, _, _)) rfl ?_
        refine wz_i1 rfl ?_
        refine wz_i0 (i3O (n := 12) (show (5 : Int32) = i3 5 from rfl) (by omega) (by omega) (by omega)) ?_
        refine wz_i1 rfl ?_
        refine wz_rko (r := (24, _, _)) rfl ?_
        refine wz_i1 rfl ?_
        refine wz_i0 (i3O (n := 48) (rfl : i3 x2 = i3 x2) (by omega) (by omega) (by omega)) ?_
        refine wz_rko (r := (44, _, _)) rfl ?_
        refine wz_i1 rfl ?_
        refine wz_i0 (i3O (n := 16) (show (10 : Int32) = i3 10 from rfl) (by omega) (by omega) (by omega)) ?_
        obtain ⟨Z29, hZ29⟩ := zx (zu Z19 44 hb x2 10 1)
        replace hP := zl_e hP hZ29
        have hZ29I := zI_u hZ19I hZ29 (lo := 0) (hi := 4) (by decide) rfl (by omega) ⟨by decide, by decide⟩ (Or.inl (by decide))
        have t30 : Z29 11 hb 0 3 = Z19 11 hb 0 3 := zu_ne hZ29 (fun q => absurd q.1 (by decide))
        have t31 : Z29 11 hb 0 8 = Z19 11 hb 0 8 := zu_ne hZ29 (fun q => absurd q.1 (by decide))
        have t32 : Z29 11 hb 0 9 = Z19 11 hb 0 9 := zu_ne hZ29 (fun q => absurd q.1 (by decide))
        have hZ29K := zK_u hZ19K hZ29 (by decide)
        intro μ9 e9
        replace e9 := e9.trans (zm_wI (Z := Z19) (ν := ν) hZ29 (rfl : ((hb : Nat) : Int) = hb) (i3I (y := x2) (rfl : i3 x2 = i3 x2) (by omega) (by omega) (by omega)) (show ((10 : Nat) : Int) = 10 from rfl) (show (1 : Int32) = i3 1 from rfl))
        subst e9
        refine wz_i1 rfl ?_
        refine wz_rko (r := (29, _, _)) rfl ?_
        refine wz_i1 rfl ?_
        have r33 := zI_k hZ19I 48 hb (((Z6 200 x0 0 2) / 16) % (max 1 x1)) 5 (lo := 0) (hi := 12) (by decide) rfl
        refine wz_i0 (i3O (n := 24) (i3A (i3M (i3R (i3D (zm_rd (Z := Z6) (ν := ν) (k := 200) (rfl : ((x0 : Nat) : Int) = x0) (show ((0 : Nat) : Int) = 0 from rfl) (show ((2 : Nat) : Int) = 2 from rfl)) (show (16 : Int32) = i3 16 from rfl) (by omega) (by omega) (by omega) (by omega)) (i3Mx (show (1 : Int32) = i3 1 from rfl) (rfl : i3 x1 = i3 x1) (by omega) (by omega) (by omega) (by omega)) (by omega) (by omega) (by omega) (by omega)) (show (12 : Int32) = i3 12 from rfl)) (zm_rd (Z := Z19) (ν := ν) (k := 48) (rfl : ((hb : Nat) : Int) = hb) (i3I (y := (((Z6 200 x0 0 2) / 16) % (max 1 x1))) (i3R (i3D (zm_rd (Z := Z6) (ν := ν) (k := 200) (rfl : ((x0 : Nat) : Int) = x0) (show ((0 : Nat) : Int) = 0 from rfl) (show ((2 : Nat) : Int) = 2 from rfl)) (show (16 : Int32) = i3 16 from rfl) (by omega) (by omega) (by omega) (by omega)) (i3Mx (show (1 : Int32) = i3 1 from rfl) (rfl : i3 x1 = i3 x1) (by omega) (by omega) (by omega) (by omega)) (by omega) (by omega) (by omega) (by omega)) (by omega) (by omega) (by omega)) (show ((5 : Nat) : Int) = 5 from rfl))) (by omega) (by omega) (by omega)) ?_
        refine wz_rko (r := (49, _, _)) rfl ?_
        refine wz_i1 rfl ?_
        refine wz_i0 (i3O (n := 3) (show (0 : Int32) = i3 0 from rfl) (by omega) (by omega) (by omega)) ?_
        obtain ⟨Z34, hZ34⟩ := zx (zu Z29 49 hb (12 * (((Z6 200 x0 0 2) / 16) % (max 1 x1)) + (Z19 48 hb (((Z6 200 x0 0 2) / 16) % (max 1 x1)) 5)) 0 x2)
        replace hP := zl_e hP hZ34
        have hZ34I := zI_u hZ29I hZ34 (lo := 0) (hi := 47) (by decide) rfl (by omega) ⟨by decide, by decide⟩ (Or.inl (by decide))
        have t35 : Z34 11 hb 0 3 = Z29 11 hb 0 3 := zu_ne hZ34 (fun q => absurd q.1 (by decide))
        have t36 : Z34 11 hb 0 8 = Z29 11 hb 0 8 := zu_ne hZ34 (fun q => absurd q.1 (by decide))
        have t37 : Z34 11 hb 0 9 = Z29 11 hb 0 9 := zu_ne hZ34 (fun q => absurd q.1 (by decide))
        have hZ34K := zK_u hZ29K hZ34 (by decide)
        intro μ9 e9
        replace e9 := e9.trans (zm_wI (Z := Z29) (ν := ν) hZ34 (rfl : ((hb : Nat) : Int) = hb) (i3I (y := (12 * (((Z6 200 x0 0 2) / 16) % (max 1 x1)) + (Z19 48 hb (((Z6 200 x0 0 2) / 16) % (max 1 x1)) 5))) (i3A (i3M (i3R (i3D (zm_rd (Z := Z6) (ν := ν) (k := 200) (rfl : ((x0 : Nat) : Int) = x0) (show ((0 : Nat) : Int) = 0 from rfl) (show ((2 : Nat) : Int) = 2 from rfl)) (show (16 : Int32) = i3 16 from rfl) (by omega) (by omega) (by omega) (by omega)) (i3Mx (show (1 : Int32) = i3 1 from rfl) (rfl : i3 x1 = i3 x1) (by omega) (by omega) (by omega) (by omega)) (by omega) (by omega) (by omega) (by omega)) (show (12 : Int32) = i3 12 from rfl)) (zm_rd (Z := Z19) (ν := ν) (k := 48) (rfl : ((hb : Nat) : Int) = hb) (i3I (y := (((Z6 200 x0 0 2) / 16) % (max 1 x1))) (i3R (i3D (zm_rd (Z := Z6) (ν := ν) (k := 200) (rfl : ((x0 : Nat) : Int) = x0) (show ((0 : Nat) : Int) = 0 from rfl) (show ((2 : Nat) : Int) = 2 from rfl)) (show (16 : Int32) = i3 16 from rfl) (by omega) (by omega) (by omega) (by omega)) (i3Mx (show (1 : Int32) = i3 1 from rfl) (rfl : i3 x1 = i3 x1) (by omega) (by omega) (by omega) (by omega)) (by omega) (by omega) (by omega) (by omega)) (by omega) (by omega) (by omega)) (show ((5 : Nat) : Int) = 5 from rfl))) (by omega) (by omega) (by omega)) (show ((0 : Nat) : Int) = 0 from rfl) (rfl : i3 x2 = i3 x2))
        subst e9
        refine wz_i1 rfl ?_
        refine wz_rko (r := (29, _, _)) rfl ?_
        refine wz_i1 rfl ?_
        refine wz_i0 (i3O (n := 24) (i3A (i3M (i3R (i3D (zm_rd (Z := Z6) (ν := ν) (k := 200) (rfl : ((x0 : Nat) : Int) = x0) (show ((0 : Nat) : Int) = 0 from rfl) (show ((2 : Nat) : Int) = 2 from rfl)) (show (16 : Int32) = i3 16 from rfl) (by omega) (by omega) (by omega) (by omega)) (i3Mx (show (1 : Int32) = i3 1 from rfl) (rfl : i3 x1 = i3 x1) (by omega) (by omega) (by omega) (by omega)) (by omega) (by omega) (by omega) (by omega)) (show (12 : Int32) = i3 12 from rfl)) (zm_rd (Z := Z19) (ν := ν) (k := 48) (rfl : ((hb : Nat) : Int) = hb) (i3I (y := (((Z6 200 x0 0 2) / 16) % (max 1 x1))) (i3R (i3D (zm_rd (Z := Z6) (ν := ν) (k := 200) (rfl : ((x0 : Nat) : Int) = x0) (show ((0 : Nat) : Int) = 0 from rfl) (show ((2 : Nat) : Int) = 2 from rfl)) (show (16 : Int32) = i3 16 from rfl) (by omega) (by omega) (by omega) (by omega)) (i3Mx (show (1 : Int32) = i3 1 from rfl) (rfl : i3 x1 = i3 x1) (by omega) (by omega) (by omega) (by omega)) (by omega) (by omega) (by omega) (by omega)) (by omega) (by omega) (by omega)) (show ((5 : Nat) : Int) = 5 from rfl))) (by omega) (by omega) (by omega)) ?_
        refine wz_rko (r := (49, _, _)) rfl ?_
        refine wz_i1 rfl ?_
        refine wz_i0 (i3O (n := 3) (show (1 : Int32) = i3 1 from rfl) (by omega) (by omega) (by omega)) ?_
        obtain ⟨Z38, hZ38⟩ := zx (zu Z34 49 hb (12 * (((Z6 200 x0 0 2) / 16) % (max 1 x1)) + (Z19 48 hb (((Z6 200 x0 0 2) / 16) % (max 1 x1)) 5)) 1 (200 + (50 * (((Z12 200 x0 0 2) / 16) % 40))))
        replace hP := zl_e hP hZ38
        have hZ38I := zI_u hZ34I hZ38 (lo := 0) (hi := 9999) (by decide) rfl (by omega) ⟨by decide, by decide⟩ (Or.inl (by decide))
        have t39 : Z38 11 hb 0 3 = Z34 11 hb 0 3 := zu_ne hZ38 (fun q => absurd q.1 (by decide))
        have t40 : Z38 11 hb 0 8 = Z34 11 hb 0 8 := zu_ne hZ38 (fun q => absurd q.1 (by decide))
        have t41 : Z38 11 hb 0 9 = Z34 11 hb 0 9 := zu_ne hZ38 (fun q => absurd q.1 (by decide))
        have hZ38K := zK_u hZ34K hZ38 (by decide)
        intro μ9 e9
        replace e9 := e9.trans (zm_wI (Z := Z34) (ν := ν) hZ38 (rfl : ((hb : Nat) : Int) = hb) (i3I (y := (12 * (((Z6 200 x0 0 2) / 16) % (max 1 x1)) + (Z19 48 hb (((Z6 200 x0 0 2) / 16) % (max 1 x1)) 5))) (i3A (i3M (i3R (i3D (zm_rd (Z := Z6) (ν := ν) (k := 200) (rfl : ((x0 : Nat) : Int) = x0) (show ((0 : Nat) : Int) = 0 from rfl) (show ((2 : Nat) : Int) = 2 from rfl)) (show (16 : Int32) = i3 16 from rfl) (by omega) (by omega) (by omega) (by omega)) (i3Mx (show (1 : Int32) = i3 1 from rfl) (rfl : i3 x1 = i3 x1) (by omega) (by omega) (by omega) (by omega)) (by omega) (by omega) (by omega) (by omega)) (show (12 : Int32) = i3 12 from rfl)) (zm_rd (Z := Z19) (ν := ν) (k := 48) (rfl : ((hb : Nat) : Int) = hb) (i3I (y := (((Z6 200 x0 0 2) / 16) % (max 1 x1))) (i3R (i3D (zm_rd (Z := Z6) (ν := ν) (k := 200) (rfl : ((x0 : Nat) : Int) = x0) (show ((0 : Nat) : Int) = 0 from rfl) (show ((2 : Nat) : Int) = 2 from rfl)) (show (16 : Int32) = i3 16 from rfl) (by omega) (by omega) (by omega) (by omega)) (i3Mx (show (1 : Int32) = i3 1 from rfl) (rfl : i3 x1 = i3 x1) (by omega) (by omega) (by omega) (by omega)) (by omega) (by omega) (by omega) (by omega)) (by omega) (by omega) (by omega)) (show ((5 : Nat) : Int) = 5 from rfl))) (by omega) (by omega) (by omega)) (show ((1 : Nat) : Int) = 1 from rfl) (i3A (show (200 : Int32) = i3 200 from rfl) (i3M (show (50 : Int32) = i3 50 from rfl) (i3R (i3D (zm_rd (Z := Z12) (ν := ν) (k := 200) (rfl : ((x0 : Nat) : Int) = x0) (show ((0 : Nat) : Int) = 0 from rfl) (show ((2 : Nat) : Int) = 2 from rfl)) (show (16 : Int32) = i3 16 from rfl) (by omega) (by omega) (by omega) (by omega)) (show (40 : Int32) = i3 40 from rfl) (by omega) (by omega) (by omega) (by omega)))))
        subst e9
        refine wz_i1 rfl ?_
        refine wz_rko (r := (29, _, _)) rfl ?_
        refine wz_i1 rfl ?_
        refine wz_i0 (i3O (n := 24) (i3A (i3M (i3R (i3D (zm_rd (Z := Z6) (ν := ν) (k := 200) (rfl : ((x0 : Nat) : Int) = x0) (show ((0 : Nat) : Int) = 0 from rfl) (show ((2 : Nat) : Int) = 2 from rfl)) (show (16 : Int32) = i3 16 from rfl) (by omega) (by omega) (by omega) (by omega)) (i3Mx (show (1 : Int32) = i3 1 from rfl) (rfl : i3 x1 = i3 x1) (by omega) (by omega) (by omega) (by omega)) (by omega) (by omega) (by omega) (by omega)) (show (12 : Int32) = i3 12 from rfl)) (zm_rd (Z := Z19) (ν := ν) (k := 48) (rfl : ((hb : Nat) : Int) = hb) (i3I (y := (((Z6 200 x0 0 2) / 16) % (max 1 x1))) (i3R (i3D (zm_rd (Z := Z6) (ν := ν) (k := 200) (rfl : ((x0 : Nat) : Int) = x0) (show ((0 : Nat) : Int) = 0 from rfl) (show ((2 : Nat) : Int) = 2 from rfl)) (show (16 : Int32) = i3 16 from rfl) (by omega) (by omega) (by omega) (by omega)) (i3Mx (show (1 : Int32) = i3 1 from rfl) (rfl : i3 x1 = i3 x1) (by omega) (by omega) (by omega) (by omega)) (by omega) (by omega) (by omega) (by omega)) (by omega) (by omega) (by omega)) (show ((5 : Nat) : Int) = 5 from rfl))) (by omega) (by omega) (by omega)) ?_
        refine wz_rko (r := (49, _, _)) rfl ?_
        refine wz_i1 rfl ?_
        refine wz_i0 (i3O (n := 3) (show (2 : Int32) = i3 2 from rfl) (by omega) (by omega) (by omega)) ?_
        obtain ⟨Z42, hZ42⟩ := zx (zu Z38 49 hb (12 * (((Z6 200 x0 0 2) / 16) % (max 1 x1)) + (Z19 48 hb (((Z6 200 x0 0 2) / 16) % (max 1 x1)) 5)) 2 (max 1 ((200 + (50 * (((Z12 200 x0 0 2) / 16) % 40))) - ((Z12 48 hb (((Z6 200 x0 0 2) / 16) % (max 1 x1)) 3) * (((Z19 200 x0 0 2) / 16) % 60)))))
        replace hP := zl_e hP hZ42
        have hZ42I := zI_u hZ38I hZ42 (lo := 0) (hi := 9999) (by decide) rfl (by omega) ⟨by decide, by decide⟩ (Or.inl (by decide))
        have t43 : Z42 11 hb 0 3 = Z38 11 hb 0 3 := zu_ne hZ42 (fun q => absurd q.1 (by decide))
        have t44 : Z42 11 hb 0 8 = Z38 11 hb 0 8 := zu_ne hZ42 (fun q => absurd q.1 (by decide))
        have t45 : Z42 11 hb 0 9 = Z38 11 hb 0 9 := zu_ne hZ42 (fun q => absurd q.1 (by decide))
        have hZ42K := zK_u hZ38K hZ42 (by decide)
        intro μ9 e9
        replace e9 := e9.trans (zm_wI (Z := Z38) (ν := ν) hZ42 (rfl : ((hb : Nat) : Int) = hb) (i3I (y := (12 * (((Z6 200 x0 0 2) / 16) % (max 1 x1)) + (Z19 48 hb (((Z6 200 x0 0 2) / 16) % (max 1 x1)) 5))) (i3A (i3M (i3R (i3D (zm_rd (Z := Z6) (ν := ν) (k := 200) (rfl : ((x0 : Nat) : Int) = x0) (show ((0 : Nat) : Int) = 0 from rfl) (show ((2 : Nat) : Int) = 2 from rfl)) (show (16 : Int32) = i3 16 from rfl) (by omega) (by omega) (by omega) (by omega)) (i3Mx (show (1 : Int32) = i3 1 from rfl) (rfl : i3 x1 = i3 x1) (by omega) (by omega) (by omega) (by omega)) (by omega) (by omega) (by omega) (by omega)) (show (12 : Int32) = i3 12 from rfl)) (zm_rd (Z := Z19) (ν := ν) (k := 48) (rfl : ((hb : Nat) : Int) = hb) (i3I (y := (((Z6 200 x0 0 2) / 16) % (max 1 x1))) (i3R (i3D (zm_rd (Z := Z6) (ν := ν) (k := 200) (rfl : ((x0 : Nat) : Int) = x0) (show ((0 : Nat) : Int) = 0 from rfl) (show ((2 : Nat) : Int) = 2 from rfl)) (show (16 : Int32) = i3 16 from rfl) (by omega) (by omega) (by omega) (by omega)) (i3Mx (show (1 : Int32) = i3 1 from rfl) (rfl : i3 x1 = i3 x1) (by omega) (by omega) (by omega) (by omega)) (by omega) (by omega) (by omega) (by omega)) (by omega) (by omega) (by omega)) (show ((5 : Nat) : Int) = 5 from rfl))) (by omega) (by omega) (by omega)) (show ((2 : Nat) : Int) = 2 from rfl) (i3Mx (show (1 : Int32) = i3 1 from rfl) (i3S (i3A (show (200 : Int32) = i3 200 from rfl) (i3M (show (50 : Int32) = i3 50 from rfl) (i3R (i3D (zm_rd (Z := Z12) (ν := ν) (k := 200) (rfl : ((x0 : Nat) : Int) = x0) (show ((0 : Nat) : Int) = 0 from rfl) (show ((2 : Nat) : Int) = 2 from rfl)) (show (16 : Int32) = i3 16 from rfl) (by omega) (by omega) (by omega) (by omega)) (show (40 : Int32) = i3 40 from rfl) (by omega) (by omega) (by omega) (by omega)))) (i3M (zm_rd (Z := Z12) (ν := ν) (k := 48) (rfl : ((hb : Nat) : Int) = hb) (i3I (y := (((Z6 200 x0 0 2) / 16) % (max 1 x1))) (i3R (i3D (zm_rd (Z := Z6) (ν := ν) (k := 200) (rfl : ((x0 : Nat) : Int) = x0) (show ((0 : Nat) : Int) = 0 from rfl) (show ((2 : Nat) : Int) = 2 from rfl)) (show (16 : Int32) = i3 16 from rfl) (by omega) (by omega) (by omega) (by omega)) (i3Mx (show (1 : Int32) = i3 1 from rfl) (rfl : i3 x1 = i3 x1) (by omega) (by omega) (by omega) (by omega)) (by omega) (by omega) (by omega) (by omega)) (by omega) (by omega) (by omega)) (show ((3 : Nat) : Int) = 3 from rfl)) (i3R (i3D (zm_rd (Z := Z19) (ν := ν) (k := 200) (rfl : ((x0 : Nat) : Int) = x0) (show ((0 : Nat) : Int) = 0 from rfl) (show ((2 : Nat) : Int) = 2 from rfl)) (show (16 : Int32) = i3 16 from rfl) (by omega) (by omega) (by omega) (by omega)) (show (60 : Int32) = i3 60 from rfl) (by omega) (by omega) (by omega) (by omega)))) (by omega) (by omega) (by omega) (by omega)))
        subst e9
        refine wz_i1 rfl ?_
        refine wz_rko (r := (28, _, _)) rfl ?_
        refine wz_i1 rfl ?_
        refine wz_i0 (i3O (n := 2) (i3R (i3D (zm_rd (Z := Z6) (ν := ν) (k := 200) (rfl : ((x0 : Nat) : Int) = x0) (show ((0 : Nat) : Int) = 0 from rfl) (show ((2 : Nat) : Int) = 2 from rfl)) (show (16 : Int32) = i3 16 from rfl) (by omega) (by omega) (by omega) (by omega)) (i3Mx (show (1 : Int32) = i3 1 from rfl) (rfl : i3 x1 = i3 x1) (by omega) (by omega) (by omega) (by omega)) (by omega) (by omega) (by omega) (by omega)) (by omega) (by omega) (by omega)) ?_
        refine wz_rko (r := (48, _, _)) rfl ?_
        refine wz_i1 rfl ?_
        refine wz_i0 (i3O (n := 12) (show (5 : Int32) = i3 5 from rfl) (by omega) (by omega) (by omega)) ?_
        refine wz_i1 rfl ?_
        refine wz_i0 (i3O (n := 12) (show (5 : Int32) = i3 5 from rfl) (by omega) (by omega) (by omega)) ?_
        have r46 := zI_k hZ42I 48 hb (((Z6 200 x0 0 2) / 16) % (max 1 x1)) 5 (lo := 0) (hi := 12) (by decide) rfl
        have q47 := (zu_ne (k' := 48) (b' := hb) (i' := (((Z6 200 x0 0 2) / 16) % (max 1 x1))) (j' := 5) hZ42 (fun q => absurd q.1 (by decide))).trans ((zu_ne (k' := 48) (b' := hb) (i' := (((Z6 200 x0 0 2) / 16) % (max 1 x1))) (j' := 5) hZ38 (fun q => absurd q.1 (by decide))).trans ((zu_ne (k' := 48) (b' := hb) (i' := (((Z6 200 x0 0 2) / 16) % (max 1 x1))) (j' := 5) hZ34 (fun q => absurd q.1 (by decide))).trans (zu_ne (k' := 48) (b' := hb) (i' := (((Z6 200 x0 0 2) / 16) % (max 1 x1))) (j' := 5) hZ29 (fun q => absurd q.1 (by decide)))))
        obtain ⟨Z48, hZ48⟩ := zx (zu Z42 48 hb (((Z6 200 x0 0 2) / 16) % (max 1 x1)) 5 ((Z42 48 hb (((Z6 200 x0 0 2) / 16) % (max 1 x1)) 5) + 1))
        replace hP := zl_e hP hZ48
        have hZ48I := zI_u hZ42I hZ48 (lo := 0) (hi := 12) (by decide) rfl (by omega) ⟨by decide, by decide⟩ (Or.inl (by decide))
        have t49 : Z48 11 hb 0 3 = Z42 11 hb 0 3 := zu_ne hZ48 (fun q => absurd q.1 (by decide))
        have t50 : Z48 11 hb 0 8 = Z42 11 hb 0 8 := zu_ne hZ48 (fun q => absurd q.1 (by decide))
        have t51 : Z48 11 hb 0 9 = Z42 11 hb 0 9 := zu_ne hZ48 (fun q => absurd q.1 (by decide))
        have hZ48K := zK_u hZ42K hZ48 (by decide)
        intro μ9 e9
        replace e9 := e9.trans (zm_wI (Z := Z42) (ν := ν) hZ48 (rfl : ((hb : Nat) : Int) = hb) (i3I (y := (((Z6 200 x0 0 2) / 16) % (max 1 x1))) (i3R (i3D (zm_rd (Z := Z6) (ν := ν) (k := 200) (rfl : ((x0 : Nat) : Int) = x0) (show ((0 : Nat) : Int) = 0 from rfl) (show ((2 : Nat) : Int) = 2 from rfl)) (show (16 : Int32) = i3 16 from rfl) (by omega) (by omega) (by omega) (by omega)) (i3Mx (show (1 : Int32) = i3 1 from rfl) (rfl : i3 x1 = i3 x1) (by omega) (by omega) (by omega) (by omega)) (by omega) (by omega) (by omega) (by omega)) (by omega) (by omega) (by omega)) (show ((5 : Nat) : Int) = 5 from rfl) (i3A (zm_rd (Z := Z42) (ν := ν) (k := 48) (rfl : ((hb : Nat) : Int) = hb) (i3I (y := (((Z6 200 x0 0 2) / 16) % (max 1 x1))) (i3R (i3D (zm_rd (Z := Z6) (ν := ν) (k := 200) (rfl : ((x0 : Nat) : Int) = x0) (show ((0 : Nat) : Int) = 0 from rfl) (show ((2 : Nat) : Int) = 2 from rfl)) (show (16 : Int32) = i3 16 from rfl) (by omega) (by omega) (by omega) (by omega)) (i3Mx (show (1 : Int32) = i3 1 from rfl) (rfl : i3 x1 = i3 x1) (by omega) (by omega) (by omega) (by omega)) (by omega) (by omega) (by omega) (by omega)) (by omega) (by omega) (by omega)) (show ((5 : Nat) : Int) = 5 from rfl)) (show (1 : Int32) = i3 1 from rfl)))
        subst e9
        obtain ⟨m2, rfl⟩ : ∃ m2, m = m2 + 1 := ⟨m - 1, by omega⟩
        exact wz_k1 ⟨m2, by omega, Z48, (x2 + 1), (zconso rfl (zconso (zvo (rfl : i3 x1 = i3 x1)) (zconso (zvo (i3A (rfl : i3 x2 = i3 x2) (show (1 : Int32) = i3 1 from rfl))) (zconso rfl (zconso rfl (zconso rfl rfl)))))), rfl, hZ48I, hZ48K, by omega, by omega, by omega, by omega, by omega,  hP⟩

/- yX8_tellClocks -/
def zf_147 (Z : qz_Z) (sn hb : Int) : qz_Z := (if (Z 200 sn 0 1) ≤ 3 then (zlet2 (zl_147_1 sn hb 1 3 Z 0) (fun Z4 y3 => (zlet2 (zl_147_2 sn hb 1 49 Z4 0) (fun Z7 y6 => Z7)))) else (zlet2 (zl_147_1 sn hb 2 3 Z 0) (fun Z10 y9 => (zlet2 (zl_147_2 sn hb 2 49 Z10 0) (fun Z13 y12 => Z13)))))
theorem sp_147 {Z : qz_Z} {ν : qz_N} {sn : Nat} (hZ : zI (some (some (sn : Int))) Z) (hb : Nat) (tsn : ∀ Z, qz_tag (zm Z ν) (200, sn, 0) = 2) (rsn : ∀ Z, qz_rm (zm Z ν) 200 sn 0 0 = some (10, hb, 0)) (gx0 : Z 11 hb 0 7 = 0) : ∃ P : qz_Z, P = zf_147 Z sn hb ∧ (qf_147 [.inr (.inr (some (200, sn, 0)))] (zm Z ν) = some (zm P ν, .inl none) ∧ zI (some (some (sn : Int))) P ∧ zK [11, 44, 48, 49, 200] Z P ∧ P 11 hb 0 3 = Z 11 hb 0 3 ∧ P 11 hb 0 8 = Z 11 hb 0 8 ∧ P 11 hb 0 9 = Z 11 hb 0 9) := by
  obtain ⟨P, hP⟩ := zx (zf_147 Z sn hb)
  refine zc_V (Q := fun P => zI (some (some (sn : Int))) P ∧ zK [11, 44, 48, 49, 200] Z P ∧ P 11 hb 0 3 = Z 11 hb 0 3 ∧ P 11 hb 0 8 = Z 11 hb 0 8 ∧ P 11 hb 0 9 = Z 11 hb 0 9) hP (fw_147 sn _ _ ?_)
  replace hP : zE P (zf_147 Z sn hb) := hP
  unfold zf_147 at hP
  have rs := zI_xs (n := sn) hZ
  refine wz_i1 (by rw [tsn]; rfl) ?_
  have r1 := zI_xs (n := sn) hZ
  refine wz_br (i3Le (zm_rd (Z := Z) (ν := ν) (k := 200) (rfl : ((sn : Nat) : Int) = sn) (show ((0 : Nat) : Int) = 0 from rfl) (show ((1 : Nat) : Int) = 1 from rfl)) (show (3 : Int32) = i3 3 from rfl) (by omega) (by omega) (by omega) (by omega)) (fun h2 => ?_) (fun h2 => ?_)
  · replace hP := zE_p hP h2
    refine sl_147_1 (ν := ν) sn hZ zK_r hb tsn rsn (x1 := 1) (by omega) (x2 := 0) (by omega) (kc2 := Z 11 hb 0 9) (kc1 := Z 11 hb 0 8) (kc0 := Z 11 hb 0 3) (by omega) (by omega) (by omega) (by omega) (zconso rfl (zconso (zvo (show (1 : Int32) = i3 1 from rfl)) (zconso (zvo (show (0 : Int32) = i3 0 from rfl)) (zconso rfl (zconso rfl (zconso rfl rfl)))))) rfl ?_
    intro L5 Z4 y3 hL5 hZ4I kZ4 gy3 gL5_0 gL5_1 gL5_2 gL5_3 q9
    replace hP := zl_e2 hP (Eq.symm q9)
    clear q9
    have hZ4K : zK [11, 44, 48, 49, 200] Z Z4 := zK_t zK_r kZ4 (by decide)
    refine fc_147_4 _ (i3 1) _ _ _ _ hL5 ?_
    refine sl_147_2 (ν := ν) sn hZ4I zK_r hb tsn rsn (x1 := 1) (by omega) (x2 := 0) (by omega) (kc2 := Z4 11 hb 0 9) (kc1 := Z4 11 hb 0 8) (kc0 := Z4 11 hb 0 3) (by omega) (by omega) (by omega) (zconso rfl (zconso (zvo (rfl : i3 1 = i3 1)) (zconso (zvo (show (0 : Int32) = i3 0 from rfl)) (zconso rfl (zconso rfl (zconso rfl rfl)))))) rfl ?_
    intro L8 Z7 y6 hL8 hZ7I kZ7 gy6 gL8_0 gL8_1 gL8_2 q9
    replace hP := zl_e2 hP (Eq.symm q9)
    clear q9
    have hZ7K : zK [11, 44, 48, 49, 200] Z Z7 := zK_t hZ4K kZ7 (by decide)
    refine fc_147_3  _ _ _ _ hL8 ?_
    exact zlV hP ⟨hZ7I, hZ7K, by omega, by omega, by omega⟩
  · replace hP := zE_n hP h2
    refine sl_147_1 (ν := ν) sn hZ zK_r hb tsn rsn (x1 := 2) (by omega) (x2 := 0) (by omega) (kc2 := Z 11 hb 0 9) (kc1 := Z 11 hb 0 8) (kc0 := Z 11 hb 0 3) (by omega) (by omega) (by omega) (by omega) (zconso rfl (zconso (zvo (show (2 : Int32) = i3 2 from rfl)) (zconso (zvo (show (0 : Int32) = i3 0 from rfl)) (zconso rfl (zconso rfl (zconso rfl rfl)))))) rfl ?_
    intro L11 Z10 y9 hL11 hZ10I kZ10 gy9 gL11_0 gL11_1 gL11_2 gL11_3 q9
    replace hP := zl_e2 hP (Eq.symm q9)
    clear q9
    have hZ10K : zK [11, 44, 48, 49, 200] Z Z10 := zK_t zK_r kZ10 (by decide)
    refine fc_147_4 _ (i3 2) _ _ _ _ hL11 ?_
    refine sl_147_2 (ν := ν) sn hZ10I zK_r hb tsn rsn (x1 := 2) (by omega) (x2 := 0) (by omega) (kc2 := Z10 11 hb 0 9) (kc1 := Z10 11 hb 0 8) (kc0 := Z10 11 hb 0 3) (by omega) (by omega) (by omega) (zconso rfl (zconso (zvo (rfl : i3 2 = i3 2)) (zconso (zvo (show (0 : Int32) = i3 0 from rfl)) (zconso rfl (zconso rfl (zconso rfl rfl)))))) rfl ?_
    intro L14 Z13 y12 hL14 hZ13I kZ13 gy12 gL14_0 gL14_1 gL14_2 q9
    replace hP := zl_e2 hP (Eq.symm q9)
    clear q9
    have hZ13K : zK [11, 44, 48, 49, 200] Z Z13 := zK_t hZ10K kZ13 (by decide)
    refine fc_147_3  _ _ _ _ hL14 ?_
    exact zlV hP ⟨hZ13I, hZ13K, by omega, by omega, by omega⟩

