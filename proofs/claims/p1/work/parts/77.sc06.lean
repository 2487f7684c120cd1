/-! a season told, the class (printed by season.py c) -/
/- yX8_tellClocks -/
def zl_147_1 (x0 : Int) (hb : Int) (x1 : Int) : Nat → qz_Z → Int → qz_Z × Int
  | 0, Z, x2 => (Z, x2)
  | m + 1, Z, x2 => (if x1 ≤ x2 then (Z, x2) else (zlet (zu Z 200 x0 0 2 (((25173 * (Z 200 x0 0 2)) + 13849) % 65536)) (fun Z3 => (zlet (zu Z3 200 x0 0 2 (((25173 * (Z3 200 x0 0 2)) + 13849) % 65536)) (fun Z12 => (zlet (zu Z12 200 x0 0 2 (((25173 * (Z12 200 x0 0 2)) + 13849) % 65536)) (fun Z21 => (zlet (zu Z21 200 x0 0 2 (((25173 * (Z21 200 x0 0 2)) + 13849) % 65536)) (fun Z30 => (zlet (zu Z30 200 x0 0 2 (((25173 * (Z30 200 x0 0 2)) + 13849) % 65536)) (fun Z39 => (zlet (zu Z39 48 hb (Z39 11 hb 0 7) 0 (4 + (((Z3 200 x0 0 2) / 16) % 4))) (fun Z47 => (zlet (zu Z47 48 hb (Z39 11 hb 0 7) 1 (1 + (((Z12 200 x0 0 2) / 16) % 4))) (fun Z54 => (zlet (zu Z54 48 hb (Z39 11 hb 0 7) 2 (1 + (((Z21 200 x0 0 2) / 16) % 4))) (fun Z61 => (zlet (zu Z61 48 hb (Z39 11 hb 0 7) 3 (10 + (10 * (((Z30 200 x0 0 2) / 16) % 9)))) (fun Z68 => (zlet (zu Z68 48 hb (Z39 11 hb 0 7) 4 (((Z39 200 x0 0 2) / 16) % 5)) (fun Z77 => (zlet (zu Z77 48 hb (Z39 11 hb 0 7) 6 (-1)) (fun Z84 => (zlet (zu Z84 48 hb (Z39 11 hb 0 7) 7 (-1)) (fun Z91 => (zlet (zu Z91 11 hb 0 7 ((Z91 11 hb 0 7) + 1)) (fun Z100 => zl_147_1 x0 hb x1 m Z100 (x2 + 1))))))))))))))))))))))))))))
theorem sl_147_1 {Zs Z : qz_Z} {ν : qz_N} (x0 : Nat) (hZ : zI (some (some (x0 : Int))) Z) (hK : zK [11, 48, 200] Zs Z) (hb : Nat) (tsn : ∀ Z, qz_tag (zm Z ν) (200, x0, 0) = 2) (rsn : ∀ Z, qz_rm (zm Z ν) 200 x0 0 0 = some (10, hb, 0)) {x1 : Int} (gx1 : 1 ≤ x1 ∧ x1 ≤ 2) {x2 : Int} (gx2 : 0 ≤ x2 ∧ x2 ≤ 2) {kc0 : Int} {kc1 : Int} {kc2 : Int} {kc3 : Int} {kc4 : Int} (gr0 : Z 11 hb 0 7 = x2) (gr1 : 1 ≤ (x0 : Int)) (gr2 : Z 11 hb 0 3 = kc0) (gr3 : Z 11 hb 0 8 = kc1) (gr4 : Z 11 hb 0 9 = kc2) (gr5 : Z 200 0 0 1 = kc3) (gr6 : Z 200 0 0 2 = kc4) {k : wz_K} {R : wz_R} {L : qz_L} (hL : qz_fg [true, true, true, false, false, false] L = [some (.inr (.inr (some (200, x0, 0)))), some (.inl (i3 x1)), some (.inl (i3 x2)), none, none, none]) {T : qz_Z × Int} (hP : zE T (zl_147_1 x0 hb x1 ((2 - x2).toNat + 1) Z x2)) (hk : ∀ (L9 : qz_L) (Z9 : qz_Z) (yx2 : Int), qz_fg [true, true, false, false, false, false] L9 = [some (.inr (.inr (some (200, x0, 0)))), some (.inl (i3 x1)), none, none, none, none] → zI (some (some (x0 : Int))) Z9 → zK [11, 48, 200] Zs Z9 → (0 ≤ yx2 ∧ yx2 ≤ 2) → (Z9 11 hb 0 7 = yx2) → (1 ≤ (x0 : Int)) → (Z9 11 hb 0 3 = kc0) → (Z9 11 hb 0 8 = kc1) → (Z9 11 hb 0 9 = kc2) → (Z9 200 0 0 1 = kc3) → (Z9 200 0 0 2 = kc4) → zE T ((Z9, yx2)) → k 0 (L9, [], zm Z9 ν)) : wz_loop qb_147_1 65536 k R (L, [], zm Z ν) := by
  refine wz_lp sb_147_1 (fun m x => ∃ Z : qz_Z, ∃ x2 : Int, qz_fg [true, true, true, false, false, false] x.1 = [some (.inr (.inr (some (200, x0, 0)))), some (.inl (i3 x1)), some (.inl (i3 x2)), none, none, none] ∧ x.2 = ([], zm Z ν) ∧ zI (some (some (x0 : Int))) Z ∧ zK [11, 48, 200] Zs Z ∧ m = (2 - x2).toNat ∧ (0 ≤ x2 ∧ x2 ≤ 2) ∧ (Z 11 hb 0 7 = x2) ∧ (1 ≤ (x0 : Int)) ∧ (Z 11 hb 0 3 = kc0) ∧ (Z 11 hb 0 8 = kc1) ∧ (Z 11 hb 0 9 = kc2) ∧ (Z 200 0 0 1 = kc3) ∧ (Z 200 0 0 2 = kc4) ∧ zE T (zl_147_1 x0 hb x1 (m + 1) Z x2)) ?_ 65536 ((2 - x2).toNat) _ (by omega) ⟨Z, x2, hL, rfl, hZ, hK, rfl, gx2, gr0, gr1, gr2, gr3, gr4, gr5, gr6, hP⟩
  clear hP gr0 gr1 gr2 gr3 gr4 gr5 gr6 gx2 hZ hK hL
  clear x2
  clear Z
  rintro m ⟨L, st, μ⟩ ⟨Z, x2, hL, hx, hZ, hK, hm, gx2, gr0, gr1, gr2, gr3, gr4, gr5, gr6, hP⟩
  cases hx
  refine fb_147_1 x0 (i3 x1) (i3 x2) _ _ _ _ hL ?_
  have rs := zI_xs (n := x0) hZ
  refine wz_br (i3Le (rfl : i3 x1 = i3 x1) (rfl : i3 x2 = i3 x2) (by omega) (by omega) (by omega) (by omega)) (fun h1 => ?_) (fun h1 => ?_)
  · replace hP := zE_p hP h1
    exact hk _ _ _ (zconso rfl (zconso (zvo (rfl : i3 x1 = i3 x1)) (zconso rfl (zconso rfl (zconso rfl (zconso rfl rfl)))))) hZ hK (by omega) (by omega) (by omega) (by omega) (by omega) (by omega) (by omega) (by omega) hP
  · replace hP := zE_n hP h1
    refine wz_i1 (by rw [tsn]; rfl) ?_
    refine wz_rko (rsn _) ?_
    refine wz_i1 (by rw [tsn]; rfl) ?_
    refine wz_i1 (by rw [tsn]; rfl) ?_
    refine wz_i1 (by rw [tsn]; rfl) ?_
    have r2 := zI_xr (n := x0) hZ
    obtain ⟨Z3, hZ3⟩ := zx (zu Z 200 x0 0 2 (((25173 * (Z 200 x0 0 2)) + 13849) % 65536))
    replace hP := zl_e hP hZ3
    have hZ3I := zI_x hZ hZ3 (by omega)
    have t4 : Z3 11 hb 0 3 = Z 11 hb 0 3 := zu_ne hZ3 (fun q => absurd q.1 (by decide))
    have t5 : Z3 11 hb 0 8 = Z 11 hb 0 8 := zu_ne hZ3 (fun q => absurd q.1 (by decide))
    have t6 : Z3 11 hb 0 9 = Z 11 hb 0 9 := zu_ne hZ3 (fun q => absurd q.1 (by decide))
    have t7 : Z3 11 hb 0 7 = Z 11 hb 0 7 := zu_ne hZ3 (fun q => absurd q.1 (by decide))
    have t8 : Z3 200 0 0 1 = Z 200 0 0 1 := zu_ne hZ3 (fun q => absurd q.2.2.2 (by decide))
    have t9 : Z3 200 0 0 2 = Z 200 0 0 2 := zu_ne hZ3 (by omega)
    have hZ3K := zK_u hK hZ3 (by decide)
    intro μ9 e9
    replace e9 := e9.trans (zm_wI (Z := Z) (ν := ν) hZ3 (rfl : ((x0 : Nat) : Int) = x0) (show ((0 : Nat) : Int) = 0 from rfl) (show ((2 : Nat) : Int) = 2 from rfl) (i3R (i3A (i3M (show (25173 : Int32) = i3 25173 from rfl) (zm_rd (Z := Z) (ν := ν) (k := 200) (rfl : ((x0 : Nat) : Int) = x0) (show ((0 : Nat) : Int) = 0 from rfl) (show ((2 : Nat) : Int) = 2 from rfl))) (show (13849 : Int32) = i3 13849 from rfl)) (show (65536 : Int32) = i3 65536 from rfl) (by omega) (by omega) (by omega) (by omega)))
    subst e9
    refine wz_i1 (by rw [tsn]; rfl) ?_
    refine wz_i1 (by rw [tsn]; rfl) ?_
    refine wz_i1 (by rw [tsn]; rfl) ?_
    refine wz_i1 (by rw [tsn]; rfl) ?_
    have r10 := zI_xr (n := x0) hZ3I
    have q11 := zu_at hZ3
    obtain ⟨Z12, hZ12⟩ := zx (zu Z3 200 x0 0 2 (((25173 * (Z3 200 x0 0 2)) + 13849) % 65536))
    replace hP := zl_e hP hZ12
    have hZ12I := zI_x hZ3I hZ12 (by omega)
    have t13 : Z12 11 hb 0 3 = Z3 11 hb 0 3 := zu_ne hZ12 (fun q => absurd q.1 (by decide))
    have t14 : Z12 11 hb 0 8 = Z3 11 hb 0 8 := zu_ne hZ12 (fun q => absurd q.1 (by decide))
    have t15 : Z12 11 hb 0 9 = Z3 11 hb 0 9 := zu_ne hZ12 (fun q => absurd q.1 (by decide))
    have t16 : Z12 11 hb 0 7 = Z3 11 hb 0 7 := zu_ne hZ12 (fun q => absurd q.1 (by decide))
    have t17 : Z12 200 0 0 1 = Z3 200 0 0 1 := zu_ne hZ12 (fun q => absurd q.2.2.2 (by decide))
    have t18 : Z12 200 0 0 2 = Z3 200 0 0 2 := zu_ne hZ12 (by omega)
    have hZ12K := zK_u hZ3K hZ12 (by decide)
    intro μ9 e9
    replace e9 := e9.trans (zm_wI (Z := Z3) (ν := ν) hZ12 (rfl : ((x0 : Nat) : Int) = x0) (show ((0 : Nat) : Int) = 0 from rfl) (show ((2 : Nat) : Int) = 2 from rfl) (i3R (i3A (i3M (show (25173 : Int32) = i3 25173 from rfl) (zm_rd (Z := Z3) (ν := ν) (k := 200) (rfl : ((x0 : Nat) : Int) = x0) (show ((0 : Nat) : Int) = 0 from rfl) (show ((2 : Nat) : Int) = 2 from rfl))) (show (13849 : Int32) = i3 13849 from rfl)) (show (65536 : Int32) = i3 65536 from rfl) (by omega) (by omega) (by omega) (by omega)))
    subst e9
    refine wz_i1 (by rw [tsn]; rfl) ?_
    refine wz_i1 (by rw [tsn]; rfl) ?_
    refine wz_i1 (by rw [tsn]; rfl) ?_
    refine wz_i1 (by rw [tsn]; rfl) ?_
    have r19 := zI_xr (n := x0) hZ12I
    have q20 := zu_at hZ12
    obtain ⟨Z21, hZ21⟩ := zx (zu Z12 200 x0 0 2 (((25173 * (Z12 200 x0 0 2)) + 13849) % 65536))
    replace hP := zl_e hP hZ21
    have hZ21I := zI_x hZ12I hZ21 (by omega)
    have t22 : Z21 11 hb 0 3 = Z12 11 hb 0 3 := zu_ne hZ21 (fun q => absurd q.1 (by decide))
    have t23 : Z21 11 hb 0 8 = Z12 11 hb 0 8 := zu_ne hZ21 (fun q => absurd q.1 (by decide))
    have t24 : Z21 11 hb 0 9 = Z12 11 hb 0 9 := zu_ne hZ21 (fun q => absurd q.1 (by decide))
    have t25 : Z21 11 hb 0 7 = Z12 11 hb 0 7 := zu_ne hZ21 (fun q => absurd q.1 (by decide))
    have t26 : Z21 200 0 0 1 = Z12 200 0 0 1 := zu_ne hZ21 (fun q => absurd q.2.2.2 (by decide))
    have t27 : Z21 200 0 0 2 = Z12 200 0 0 2 := zu_ne hZ21 (by omega)
    have hZ21K := zK_u hZ12K hZ21 (by decide)
    intro μ9 e9
    replace e9 := e9.trans (zm_wI (Z := Z12) (ν := ν) hZ21 (rfl : ((x0 : Nat) : Int) = x0) (show ((0 : Nat) : Int) = 0 from rfl) (show ((2 : Nat) : Int) = 2 from rfl) (i3R (i3A (i3M (show (25173 : Int32) = i3 25173 from rfl) (zm_rd (Z := Z12) (ν := ν) (k := 200) (rfl : ((x0 : Nat) : Int) = x0) (show ((0 : Nat) : Int) = 0 from rfl) (show ((2 : Nat) : Int) = 2 from rfl))) (show (13849 : Int32) = i3 13849 from rfl)) (show (65536 : Int32) = i3 65536 from rfl) (by omega) (by omega) (by omega) (by omega)))
    subst e9
    refine wz_i1 (by rw [tsn]; rfl) ?_
    refine wz_i1 (by rw [tsn]; rfl) ?_
    refine wz_i1 (by rw [tsn]; rfl) ?_
    refine wz_i1 (by rw [tsn]; rfl) ?_
    have r28 := zI_xr (n := x0) hZ21I
    have q29 := zu_at hZ21
    obtain ⟨Z30, hZ30⟩ := zx (zu Z21 200 x0 0 2 (((25173 * (Z21 200 x0 0 2)) + 13849) % 65536))
    replace hP := zl_e hP hZ30
    have hZ30I := zI_x hZ21I hZ30 (by omega)
    have t31 : Z30 11 hb 0 3 = Z21 11 hb 0 3 := zu_ne hZ30 (fun q => absurd q.1 (by decide))
    have t32 : Z30 11 hb 0 8 = Z21 11 hb 0 8 := zu_ne hZ30 (fun q => absurd q.1 (by decide))
    have t33 : Z30 11 hb 0 9 = Z21 11 hb 0 9 := zu_ne hZ30 (fun q => absurd q.1 (by decide))
    have t34 : Z30 11 hb 0 7 = Z21 11 hb 0 7 := zu_ne hZ30 (fun q => absurd q.1 (by decide))
    have t35 : Z30 200 0 0 1 = Z21 200 0 0 1 := zu_ne hZ30 (fun q => absurd q.2.2.2 (by decide))
    have t36 : Z30 200 0 0 2 = Z21 200 0 0 2 := zu_ne hZ30 (by omega)
    have hZ30K := zK_u hZ21K hZ30 (by decide)
    intro μ9 e9
    replace e9 := e9.trans (zm_wI (Z := Z21) (ν := ν) hZ30 (rfl : ((x0 : Nat) : Int) = x0) (show ((0 : Nat) : Int) = 0 from rfl) (show ((2 : Nat) : Int) = 2 from rfl) (i3R (i3A (i3M (show (25173 : Int32) = i3 25173 from rfl) (zm_rd (Z := Z21) (ν := ν) (k := 200) (rfl : ((x0 : Nat) : Int) = x0) (show ((0 : Nat) : Int) = 0 from rfl) (show ((2 : Nat) : Int) = 2 from rfl))) (show (13849 : Int32) = i3 13849 from rfl)) (show (65536 : Int32) = i3 65536 from rfl) (by omega) (by omega) (by omega) (by omega)))
    subst e9
    refine wz_i1 (by rw [tsn]; rfl) ?_
    refine wz_i1 (by rw [tsn]; rfl) ?_
    refine wz_i1 (by rw [tsn]; rfl) ?_
    refine wz_i1 (by rw [tsn]; rfl) ?_
    have r37 := zI_xr (n := x0) hZ30I
    have q38 := zu_at hZ30
    obtain ⟨Z39, hZ39⟩ := zx (zu Z30 200 x0 0 2 (((25173 * (Z30 200 x0 0 2)) + 13849) % 65536))
    replace hP := zl_e hP hZ39
    have hZ39I := zI_x hZ30I hZ39 (by omega)
    have t40 : Z39 11 hb 0 3 = Z30 11 hb 0 3 := zu_ne hZ39 (fun q => absurd q.1 (by decide))
    have t41 : Z39 11 hb 0 8 = Z30 11 hb 0 8 := zu_ne hZ39 (fun q => absurd q.1 (by decide))
    have t42 : Z39 11 hb 0 9 = Z30 11 hb 0 9 := zu_ne hZ39 (fun q => absurd q.1 (by decide))
    have t43 : Z39 11 hb 0 7 = Z30 11 hb 0 7 := zu_ne hZ39 (fun q => absurd q.1 (by decide))
    have t44 : Z39 200 0 0 1 = Z30 200 0 0 1 := zu_ne hZ39 (fun q => absurd q.2.2.2 (by decide))
    have t45 : Z39 200 0 0 2 = Z30 200 0 0 2 := zu_ne hZ39 (by omega)
    have hZ39K := zK_u hZ30K hZ39 (by decide)
    intro μ9 e9
    replace e9 := e9.trans (zm_wI (Z := Z30) (ν := ν) hZ39 (rfl : ((x0 : Nat) : Int) = x0) (show ((0 : Nat) : Int) = 0 from rfl) (show ((2 : Nat) : Int) = 2 from rfl) (i3R (i3A (i3M (show (25173 : Int32) = i3 25173 from rfl) (zm_rd (Z := Z30) (ν := ν) (k := 200) (rfl : ((x0 : Nat) : Int) = x0) (show ((0 : Nat) : Int) = 0 from rfl) (show ((2 : Nat) : Int) = 2 from rfl))) (show (13849 : Int32) = i3 13849 from rfl)) (show (65536 : Int32) = i3 65536 from rfl) (by omega) (by omega) (by omega) (by omega)))
    subst e9
    refine wz_i1 (by rw [tsn]; rfl) ?_
    refine wz_i1 rfl ?_
    refine wz_rko (r := (28, _, _)) rfl ?_
    refine wz_i1 rfl ?_
    refine wz_rko (r := (11, _, _)) rfl ?_
    refine wz_i1 rfl ?_
    refine wz_i0 (i3O (n := 17) (show (7 : Int32) = i3 7 from rfl) (by omega) (by omega) (by omega)) ?_
    refine wz_i1 rfl ?_
    have r46 := zI_k hZ39I 11 hb 0 7 (lo := 0) (hi := 2) (by decide) rfl
    refine wz_i0 (i3O (n := 2) (zm_rd (Z := Z39) (ν := ν) (k := 11) (rfl : ((hb : Nat) : Int) = hb) (show ((0 : Nat) : Int) = 0 from rfl) (show ((7 : Nat) : Int) = 7 from rfl)) (by omega) (by omega) (by omega)) ?_
    refine wz_rko (r := (48, _, _)) rfl ?_
    refine wz_i1 rfl ?_
    refine wz_i0 (i3O (n := 12) (show (0 : Int32) = i3 0 from rfl) (by omega) (by omega) (by omega)) ?_
    obtain ⟨Z47, hZ47⟩ := zx (zu Z39 48 hb (Z39 11 hb 0 7) 0 (4 + (((Z3 200 x0 0 2) / 16) % 4)))
    replace hP := zl_e hP hZ47
    have hZ47I := zI_u hZ39I hZ47 (lo := 0) (hi := 23) (by decide) rfl (by omega) ⟨by decide, by decide⟩ (Or.inl (by decide))
    have t48 : Z47 11 hb 0 3 = Z39 11 hb 0 3 := zu_ne hZ47 (fun q => absurd q.1 (by decide))
    have t49 : Z47 11 hb 0 8 = Z39 11 hb 0 8 := zu_ne hZ47 (fun q => absurd q.1 (by decide))
    have t50 : Z47 11 hb 0 9 = Z39 11 hb 0 9 := zu_ne hZ47 (fun q => absurd q.1 (by decide))
    have t51 : Z47 11 hb 0 7 = Z39 11 hb 0 7 := zu_ne hZ47 (fun q => absurd q.1 (by decide))
    have t52 : Z47 200 0 0 1 = Z39 200 0 0 1 := zu_ne hZ47 (fun q => absurd q.1 (by decide))
    have t53 : Z47 200 0 0 2 = Z39 200 0 0 2 := zu_ne hZ47 (fun q => absurd q.1 (by decide))
    have hZ47K := zK_u hZ39K hZ47 (by decide)
    intro μ9 e9
    replace e9 := e9.trans (zm_wI (Z := Z39) (ν := ν) hZ47 (rfl : ((hb : Nat) : Int) = hb) (i3I (y := (Z39 11 hb 0 7)) (zm_rd (Z := Z39) (ν := ν) (k := 11) (rfl : ((hb : Nat) : Int) = hb) (show ((0 : Nat) : Int) = 0 from rfl) (show ((7 : Nat) : Int) = 7 from rfl)) (by omega) (by omega) (by omega)) (show ((0 : Nat) : Int) = 0 from rfl) (i3A (show (4 : Int32) = i3 4 from rfl) (i3R (i3D (zm_rd (Z := Z3) (ν := ν) (k := 200) (rfl : ((x0 : Nat) : Int) = x0) (show ((0 : Nat) : Int) = 0 from rfl) (show ((2 : Nat) : Int) = 2 from rfl)) (show (16 : Int32) = i3 16 from rfl) (by omega) (by omega) (by omega) (by omega)) (show (4 : Int32) = i3 4 from rfl) (by omega) (by omega) (by omega) (by omega))))
    subst e9
    refine wz_i1 rfl ?_
    refine wz_i0 (i3O (n := 12) (show (1 : Int32) = i3 1 from rfl) (by omega) (by omega) (by omega)) ?_
    obtain ⟨Z54, hZ54⟩ := zx (zu Z47 48 hb (Z39 11 hb 0 7) 1 (1 + (((Z12 200 x0 0 2) / 16) % 4)))
    replace hP := zl_e hP hZ54
    have hZ54I := zI_u hZ47I hZ54 (lo := 0) (hi := 6) (by decide) rfl (by omega) ⟨by decide, by decide⟩ (Or.inl (by decide))
    have t55 : Z54 11 hb 0 3 = Z47 11 hb 0 3 := zu_ne hZ54 (fun q => absurd q.1 (by decide))
    have t56 : Z54 11 hb 0 8 = Z47 11 hb 0 8 := zu_ne hZ54 (fun q => absurd q.1 (by decide))
    have t57 : Z54 11 hb 0 9 = Z47 11 hb 0 9 := zu_ne hZ54 (fun q => absurd q.1 (by decide))
    have t58 : Z54 11 hb 0 7 = Z47 11 hb 0 7 := zu_ne hZ54 (fun q => absurd q.1 (by decide))
    have t59 : Z54 200 0 0 1 = Z47 200 0 0 1 := zu_ne hZ54 (fun q => absurd q.1 (by decide))
    have t60 : Z54 200 0 0 2 = Z47 200 0 0 2 := zu_ne hZ54 (fun q => absurd q.1 (by decide))
    have hZ54K := zK_u hZ47K hZ54 (by decide)
    intro μ9 e9
    replace e9 := e9.trans (zm_wI (Z := Z47) (ν := ν) hZ54 (rfl : ((hb : Nat) : Int) = hb) (i3I (y := (Z39 11 hb 0 7)) (zm_rd (Z := Z39) (ν := ν) (k := 11) (rfl : ((hb : Nat) : Int) = hb) (show ((0 : Nat) : Int) = 0 from rfl) (show ((7 : Nat) : Int) = 7 from rfl)) (by omega) (by omega) (by omega)) (show ((1 : Nat) : Int) = 1 from rfl) (i3A (show (1 : Int32) = i3 1 from rfl) (i3R (i3D (zm_rd (Z := Z12) (ν := ν) (k := 200) (rfl : ((x0 : Nat) : Int) = x0) (show ((0 : Nat) : Int) = 0 from rfl) (show ((2 : Nat) : Int) = 2 from rfl)) (show (16 : Int32) = i3 16 from rfl) (by omega) (by omega) (by omega) (by omega)) (show (4 : Int32) = i3 4 from rfl) (by omega) (by omega) (by omega) (by omega))))
    subst e9
    refine wz_i1 rfl ?_
    refine wz_i0 (i3O (n := 12) (show (2 : Int32) = i3 2 from rfl) (by omega) (by omega) (by omega)) ?_
    obtain ⟨Z61, hZ61⟩ := zx (zu Z54 48 hb (Z39 11 hb 0 7) 2 (1 + (((Z21 200 x0 0 2) / 16) % 4)))
    replace hP := zl_e hP hZ61
    have hZ61I := zI_u hZ54I hZ61 (lo := 0) (hi := 6) (by decide) rfl (by omega) ⟨by decide, by decide⟩ (Or.inl (by decide))
    have t62 : Z61 11 hb 0 3 = Z54 11 hb 0 3 := zu_ne hZ61 (fun q => absurd q.1 (by decide))
    have t63 : Z61 11 hb 0 8 = Z54 11 hb 0 8 := zu_ne hZ61 (fun q => absurd q.1 (by decide))
    have t64 : Z61 11 hb 0 9 = Z54 11 hb 0 9 := zu_ne hZ61 (fun q => absurd q.1 (by decide))
    have t65 : Z61 11 hb 0 7 = Z54 11 hb 0 7 := zu_ne hZ61 (fun q => absurd q.1 (by decide))
    have t66 : Z61 200 0 0 1 = Z54 200 0 0 1 := zu_ne hZ61 (fun q => absurd q.1 (by decide))
    have t67 : Z61 200 0 0 2 = Z54 200 0 0 2 := zu_ne hZ61 (fun q => absurd q.1 (by decide))
    have hZ61K := zK_u hZ54K hZ61 (by decide)
    intro μ9 e9
    replace e9 := e9.trans (zm_wI (Z := Z54) (ν := ν) hZ61 (rfl : ((hb : Nat) : Int) = hb) (i3I (y := (Z39 11 hb 0 7)) (zm_rd (Z := Z39) (ν := ν) (k := 11) (rfl : ((hb : Nat) : Int) = hb) (show ((0 : Nat) : Int) = 0 from rfl) (show ((7 : Nat) : Int) = 7 from rfl)) (by omega) (by omega) (by omega)) (show ((2 : Nat) : Int) = 2 from rfl) (i3A (show (1 : Int32) = i3 1 from rfl) (i3R (i3D (zm_rd (Z := Z21) (ν := ν) (k := 200) (rfl : ((x0 : Nat) : Int) = x0) (show ((0 : Nat) : Int) = 0 from rfl) (show ((2 : Nat) : Int) = 2 from rfl)) (show (16 : Int32) = i3 16 from rfl) (by omega) (by omega) (by omega) (by omega)) (show (4 : Int32) = i3 4 from rfl) (by omega) (by omega) (by omega) (by omega))))
    subst e9
    refine wz_i1 rfl ?_
    refine wz_i0 (i3O (n := 12) (show (3 : Int32) = i3 3 from rfl) (by omega) (by omega) (by omega)) ?_
    obtain ⟨Z68, hZ68⟩ := zx (zu Z61 48 hb (Z39 11 hb 0 7) 3 (10 + (10 * (((Z30 200 x0 0 2) / 16) % 9))))
    replace hP := zl_e hP hZ68
    have hZ68I := zI_u hZ61I hZ68 (lo := 0) (hi := 500) (by decide) rfl (by omega) ⟨by decide, by decide⟩ (Or.inl (by decide))
    have t69 : Z68 11 hb 0 3 = Z61 11 hb 0 3 := zu_ne hZ68 (fun q => absurd q.1 (by decide))
    have t70 : Z68 11 hb 0 8 = Z61 11 hb 0 8 := zu_ne hZ68 (fun q => absurd q.1 (by decide))
    have t71 : Z68 11 hb 0 9 = Z61 11 hb 0 9 := zu_ne hZ68 (fun q => absurd q.1 (by decide))
    have t72 : Z68 11 hb 0 7 = Z61 11 hb 0 7 := zu_ne hZ68 (fun q => absurd q.1 (by decide))
    have t73 : Z68 200 0 0 1 = Z61 200 0 0 1 := zu_ne hZ68 (fun q => absurd q.1 (by decide))
    have t74 : Z68 200 0 0 2 = Z61 200 0 0 2 := zu_ne hZ68 (fun q => absurd q.1 (by decide))
    have hZ68K := zK_u hZ61K hZ68 (by decide)
    intro μ9 e9
    replace e9 := e9.trans (zm_wI (Z := Z61) (ν := ν) hZ68 (rfl : ((hb : Nat) : Int) = hb) (i3I (y := (Z39 11 hb 0 7)) (zm_rd (Z := Z39) (ν := ν) (k := 11) (rfl : ((hb : Nat) : Int) = hb) (show ((0 : Nat) : Int) = 0 from rfl) (show ((7 : Nat) : Int) = 7 from rfl)) (by omega) (by omega) (by omega)) (show ((3 : Nat) : Int) = 3 from rfl) (i3A (show (10 : Int32) = i3 10 from rfl) (i3M (show (10 : Int32) = i3 10 from rfl) (i3R (i3D (zm_rd (Z := Z30) (ν := ν) (k := 200) (rfl : ((x0 : Nat) : Int) = x0) (show ((0 : Nat) : Int) = 0 from rfl) (show ((2 : Nat) : Int) = 2 from rfl)) (show (16 : Int32) = i3 16 from rfl) (by omega) (by omega) (by omega) (by omega)) (show (9 : Int32) = i3 9 from rfl) (by omega) (by omega) (by omega) (by omega)))))
    subst e9
    refine wz_i1 rfl ?_
    refine wz_i0 (i3O (n := 12) (show (4 : Int32) = i3 4 from rfl) (by omega) (by omega) (by omega)) ?_
    have r75 := zI_xr (n := x0) hZ39I
    have q76 := zu_at hZ39
    obtain ⟨Z77, hZ77⟩ := zx (zu Z68 48 hb (Z39 11 hb 0 7) 4 (((Z39 200 x0 0 2) / 16) % 5))
    replace hP := zl_e hP hZ77
    have hZ77I := zI_u hZ68I hZ77 (lo := 0) (hi := 9) (by decide) rfl (by omega) ⟨by decide, by decide⟩ (Or.inl (by decide))
    have t78 : Z77 11 hb 0 3 = Z68 11 hb 0 3 := zu_ne hZ77 (fun q => absurd q.1 (by decide))
    have t79 : Z77 11 hb 0 8 = Z68 11 hb 0 8 := zu_ne hZ77 (fun q => absurd q.1 (by decide))
    have t80 : Z77 11 hb 0 9 = Z68 11 hb 0 9 := zu_ne hZ77 (fun q => absurd q.1 (by decide))
    have t81 : Z77 11 hb 0 7 = Z68 11 hb 0 7 := zu_ne hZ77 (fun q => absurd q.1 (by decide))
    have t82 : Z77 200 0 0 1 = Z68 200 0 0 1 := zu_ne hZ77 (fun q => absurd q.1 (by decide))
    have t83 : Z77 200 0 0 2 = Z68 200 0 0 2 := zu_ne hZ77 (fun q => absurd q.1 (by decide))
    have hZ77K := zK_u hZ68K hZ77 (by decide)
    intro μ9 e9
    replace e9 := e9.trans (zm_wI (Z := Z68) (ν := ν) hZ77 (rfl : ((hb : Nat) : Int) = hb) (i3I (y := (Z39 11 hb 0 7)) (zm_rd (Z := Z39) (ν := ν) (k := 11) (rfl : ((hb : Nat) : Int) = hb) (show ((0 : Nat) : Int) = 0 from rfl) (show ((7 : Nat) : Int) = 7 from rfl)) (by omega) (by omega) (by omega)) (show ((4 : Nat) : Int) = 4 from rfl) (i3R (i3D (zm_rd (Z := Z39) (ν := ν) (k := 200) (rfl : ((x0 : Nat) : Int) = x0) (show ((0 : Nat) : Int) = 0 from rfl) (show ((2 : Nat) : Int) = 2 from rfl)) (show (16 : Int32) = i3 16 from rfl) (by omega) (by omega) (by omega) (by omega)) (show (5 : Int32) = i3 5 from rfl) (by omega) (by omega) (by omega) (by omega)))
    subst e9
    refine wz_i1 rfl ?_
    refine wz_i0 (i3O (n := 12) (show (6 : Int32) = i3 6 from rfl) (by omega) (by omega) (by omega)) ?_
    obtain ⟨Z84, hZ84⟩ := zx (zu Z77 48 hb (Z39 11 hb 0 7) 6 (-1))
    replace hP := zl_e hP hZ84
    have hZ84I := zI_u hZ77I hZ84 (lo := -1) (hi := 9999) (by decide) rfl (by omega) ⟨by decide, by decide⟩ (Or.inl (by decide))
    have t85 : Z84 11 hb 0 3 = Z77 11 hb 0 3 := zu_ne hZ84 (fun q => absurd q.1 (by decide))
    have t86 : Z84 11 hb 0 8 = Z77 11 hb 0 8 := zu_ne hZ84 (fun q => absurd q.1 (by decide))
    have t87 : Z84 11 hb 0 9 = Z77 11 hb 0 9 := zu_ne hZ84 (fun q => absurd q.1 (by decide))
    have t88 : Z84 11 hb 0 7 = Z77 11 hb 0 7 := zu_ne hZ84 (fun q => absurd q.1 (by decide))
    have t89 : Z84 200 0 0 1 = Z77 200 0 0 1 := zu_ne hZ84 (fun q => absurd q.1 (by decide))
    have t90 : Z84 200 0 0 2 = Z77 200 0 0 2 := zu_ne hZ84 (fun q => absurd q.1 (by decide))
    have hZ84K := zK_u hZ77K hZ84 (by decide)
    intro μ9 e9
    replace e9 := e9.trans (zm_wI (Z := Z77) (ν := ν) hZ84 (rfl : ((hb : Nat) : Int) = hb) (i3I (y := (Z39 11 hb 0 7)) (zm_rd (Z := Z39) (ν := ν) (k := 11) (rfl : ((hb : Nat) : Int) = hb) (show ((0 : Nat) : Int) = 0 from rfl) (show ((7 : Nat) : Int) = 7 from rfl)) (by omega) (by omega) (by omega)) (show ((6 : Nat) : Int) = 6 from rfl) (show (-1 : Int32) = i3 (-1) from rfl))
    subst e9
    refine wz_i1 rfl ?_
    refine wz_i0 (i3O (n := 12) (show (7 : Int32) = i3 7 from rfl) (by omega) (by omega) (by omega)) ?_
    obtain ⟨Z91, hZ91⟩ := zx (zu Z84 48 hb (Z39 11 hb 0 7) 7 (-1))
    replace hP := zl_e hP hZ91
    have hZ91I := zI_u hZ84I hZ91 (lo := -1) (hi := 47) (by decide) rfl (by omega) ⟨by decide, by decide⟩ (Or.inl (by decide))
    have t92 : Z91 11 hb 0 3 = Z84 11 hb 0 3 := zu_ne hZ91 (fun q => absurd q.1 (by decide))
    have t93 : Z91 11 hb 0 8 = Z84 11 hb 0 8 := zu_ne hZ91 (fun q => absurd q.1 (by decide))
    have t94 : Z91 11 hb 0 9 = Z84 11 hb 0 9 := zu_ne hZ91 (fun q => absurd q.1 (by decide))
    have t95 : Z91 11 hb 0 7 = Z84 11 hb 0 7 := zu_ne hZ91 (fun q => absurd q.1 (by decide))
    have t96 : Z91 200 0 0 1 = Z84 200 0 0 1 := zu_ne hZ91 (fun q => absurd q.1 (by decide))
    have t97 : Z91 200 0 0 2 = Z84 200 0 0 2 := zu_ne hZ91 (fun q => absurd q.1 (by decide))
    have hZ91K := zK_u hZ84K hZ91 (by decide)
    intro μ9 e9
    replace e9 := e9.trans (zm_wI (Z := Z84) (ν := ν) hZ91 (rfl : ((hb : Nat) : Int) = hb) (i3I (y := (Z39 11 hb 0 7)) (zm_rd (Z := Z39) (ν := ν) (k := 11) (rfl : ((hb : Nat) : Int) = hb) (show ((0 : Nat) : Int) = 0 from rfl) (show ((7 : Nat) : Int) = 7 from rfl)) (by omega) (by omega) (by omega)) (show ((7 : Nat) : Int) = 7 from rfl) (show (-1 : Int32) = i3 (-1) from rfl))
    subst e9
    refine wz_i1 rfl ?_
    refine wz_rko (r := (11, _, _)) rfl ?_
    refine wz_i1 rfl ?_
    refine wz_i0 (i3O (n := 17) (show (7 : Int32) = i3 7 from rfl) (by omega) (by omega) (by omega)) ?_
    refine wz_i1 rfl ?_
    refine wz_i0 (i3O (n := 17) (show (7 : Int32) = i3 7 from rfl) (by omega) (by omega) (by omega)) ?_
    have r98 := zI_k hZ91I 11 hb 0 7 (lo := 0) (hi := 2) (by decide) rfl
    have q99 := (zu_ne (k' := 11) (b' := hb) (i' := 0) (j' := 7) hZ91 (fun q => absurd q.1 (by decide))).trans ((zu_ne (k' := 11) (b' := hb) (i' := 0) (j' := 7) hZ84 (fun q => absurd q.1 (by decide))).trans ((zu_ne (k' := 11) (b' := hb) (i' := 0) (j' := 7) hZ77 (fun q => absurd q.1 (by decide))).trans ((zu_ne (k' := 11) (b' := hb) (i' := 0) (j' := 7) hZ68 (fun q => absurd q.1 (by decide))).trans ((zu_ne (k' := 11) (b' := hb) (i' := 0) (j' := 7) hZ61 (fun q => absurd q.1 (by decide))).trans ((zu_ne (k' := 11) (b' := hb) (i' := 0) (j' := 7) hZ54 (fun q => absurd q.1 (by decide))).trans (zu_ne (k' := 11) (b' := hb) (i' := 0) (j' := 7) hZ47 (fun q => absurd q.1 (by decide))))))))
    obtain ⟨Z100, hZ100⟩ := zx (zu Z91 11 hb 0 7 ((Z91 11 hb 0 7) + 1))
    replace hP := zl_e hP hZ100
    have hZ100I := zI_u hZ91I hZ100 (lo := 0) (hi := 2) (by decide) rfl (by omega) ⟨by decide, by decide⟩ (Or.inl (by decide))
    have t101 : Z100 11 hb 0 3 = Z91 11 hb 0 3 := zu_ne hZ100 (fun q => absurd q.2.2.2 (by decide))
    have t102 : Z100 11 hb 0 8 = Z91 11 hb 0 8 := zu_ne hZ100 (fun q => absurd q.2.2.2 (by decide))
    have t103 : Z100 11 hb 0 9 = Z91 11 hb 0 9 := zu_ne hZ100 (fun q => absurd q.2.2.2 (by decide))
    have t104 := zu_at hZ100
    have t105 : Z100 200 0 0 1 = Z91 200 0 0 1 := zu_ne hZ100 (fun q => absurd q.1 (by decide))
    have t106 : Z100 200 0 0 2 = Z91 200 0 0 2 := zu_ne hZ100 (fun q => absurd q.1 (by decide))
    have hZ100K := zK_u hZ91K hZ100 (by decide)
    intro μ9 e9
    replace e9 := e9.trans (zm_wI (Z := Z91) (ν := ν) hZ100 (rfl : ((hb : Nat) : Int) = hb) (show ((0 : Nat) : Int) = 0 from rfl) (show ((7 : Nat) : Int) = 7 from rfl) (i3A (zm_rd (Z := Z91) (ν := ν) (k := 11) (rfl : ((hb : Nat) : Int) = hb) (show ((0 : Nat) : Int) = 0 from rfl) (show ((7 : Nat) : Int) = 7 from rfl)) (show (1 : Int32) = i3 1 from rfl)))
    subst e9
    obtain ⟨m2, rfl⟩ : ∃ m2, m = m2 + 1 := ⟨m - 1, by omega⟩
    exact wz_k1 ⟨m2, by omega, Z100, (x2 + 1), (zconso rfl (zconso (zvo (rfl : i3 x1 = i3 x1)) (zconso (zvo (i3A (rfl : i3 x2 = i3 x2) (show (1 : Int32) = i3 1 from rfl))) (zconso rfl (zconso rfl (zconso rfl rfl)))))), rfl, hZ100I, hZ100K, by omega, by omega, by omega, by omega, by omega, by omega, by omega, by omega, by omega,  hP⟩

