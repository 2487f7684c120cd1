/-! a season told, the class (printed by season.py c) -/
/- yX8_tellClocks -/
def zl_147_2 (x0 : Int) (hb : Int) (x1 : Int) : Nat → qz_Z → Int → qz_Z × Int
  | 0, Z, x2 => (Z, x2)
  | m + 1, Z, x2 => (if (Z 11 hb 0 3) ≤ x2 then (Z, x2) else (if (Z 44 hb x2 9) = (-1) then zl_147_2 x0 hb x1 m Z (x2 + 1) else (zlet (zu Z 200 x0 0 2 (((25173 * (Z 200 x0 0 2)) + 13849) % 65536)) (fun Z6 => (zlet (zu Z6 200 x0 0 2 (((25173 * (Z6 200 x0 0 2)) + 13849) % 65536)) (fun Z14 => (zlet (zu Z14 200 x0 0 2 (((25173 * (Z14 200 x0 0 2)) + 13849) % 65536)) (fun Z23 => (zlet (zf_71 Z23 hb (((Z6 200 x0 0 2) / 16) % (max 1 x1)) x2 (200 + (50 * (((Z14 200 x0 0 2) / 16) % 40))) (max 1 ((200 + (50 * (((Z14 200 x0 0 2) / 16) % 40))) - ((Z14 48 hb (((Z6 200 x0 0 2) / 16) % (max 1 x1)) 3) * (((Z23 200 x0 0 2) / 16) % 60))))) (fun v33 => (if v33 ≠ 0 then zl_147_2 x0 hb x1 m Z23 (x2 + 1) else (zlet (zu Z23 44 hb x2 10 1) (fun Z35 => (zlet (zu Z35 49 hb (12 * (((Z6 200 x0 0 2) / 16) % (max 1 x1)) + (Z23 48 hb (((Z6 200 x0 0 2) / 16) % (max 1 x1)) 5)) 0 x2) (fun Z42 => (zlet (zu Z42 49 hb (12 * (((Z6 200 x0 0 2) / 16) % (max 1 x1)) + (Z23 48 hb (((Z6 200 x0 0 2) / 16) % (max 1 x1)) 5)) 1 (200 + (50 * (((Z14 200 x0 0 2) / 16) % 40)))) (fun Z48 => (zlet (zu Z48 49 hb (12 * (((Z6 200 x0 0 2) / 16) % (max 1 x1)) + (Z23 48 hb (((Z6 200 x0 0 2) / 16) % (max 1 x1)) 5)) 2 (max 1 ((200 + (50 * (((Z14 200 x0 0 2) / 16) % 40))) - ((Z14 48 hb (((Z6 200 x0 0 2) / 16) % (max 1 x1)) 3) * (((Z23 200 x0 0 2) / 16) % 60))))) (fun Z54 => (zlet (zu Z54 48 hb (((Z6 200 x0 0 2) / 16) % (max 1 x1)) 5 ((Z54 48 hb (((Z6 200 x0 0 2) / 16) % (max 1 x1)) 5) + 1)) (fun Z62 => zl_147_2 x0 hb x1 m Z62 (x2 + 1))))))))))))))))))))))
theorem sl_147_2 {Zs Z : qz_Z} {ν : qz_N} (x0 : Nat) (hZ : zI (some (some (x0 : Int))) Z) (hK : zK [44, 48, 49, 200] Zs Z) (hb : Nat) (tsn : ∀ Z, qz_tag (zm Z ν) (200, x0, 0) = 2) (rsn : ∀ Z, qz_rm (zm Z ν) 200 x0 0 0 = some (10, hb, 0)) {x1 : Int} (gx1 : 1 ≤ x1 ∧ x1 ≤ 2) {x2 : Int} (gx2 : 0 ≤ x2 ∧ x2 ≤ 48) {kc0 : Int} {kc1 : Int} {kc2 : Int} {kc3 : Int} {kc4 : Int} (gr0 : 1 ≤ (x0 : Int)) (gr1 : Z 11 hb 0 3 = kc0) (gr2 : Z 11 hb 0 8 = kc1) (gr3 : Z 11 hb 0 9 = kc2) (gr4 : Z 200 0 0 1 = kc3) (gr5 : Z 200 0 0 2 = kc4) {k : wz_K} {R : wz_R} {L : qz_L} (hL : qz_fg [true, true, true, false, false, false] L = [some (.inr (.inr (some (200, x0, 0)))), some (.inl (i3 x1)), some (.inl (i3 x2)), none, none, none]) {T : qz_Z × Int} (hP : zE T (zl_147_2 x0 hb x1 ((48 - x2).toNat + 1) Z x2)) (hk : ∀ (L9 : qz_L) (Z9 : qz_Z) (yx2 : Int), qz_fg [false, false, false, false, false, false] L9 = [none, none, none, none, none, none] → zI (some (some (x0 : Int))) Z9 → zK [44, 48, 49, 200] Zs Z9 → (0 ≤ yx2 ∧ yx2 ≤ 48) → (1 ≤ (x0 : Int)) → (Z9 11 hb 0 3 = kc0) → (Z9 11 hb 0 8 = kc1) → (Z9 11 hb 0 9 = kc2) → (Z9 200 0 0 1 = kc3) → (Z9 200 0 0 2 = kc4) → zE T ((Z9, yx2)) → k 0 (L9, [], zm Z9 ν)) : wz_loop qb_147_2 65536 k R (L, [], zm Z ν) := by
  refine wz_lp sb_147_2 (fun m x => ∃ Z : qz_Z, ∃ x2 : Int, qz_fg [true, true, true, false, false, false] x.1 = [some (.inr (.inr (some (200, x0, 0)))), some (.inl (i3 x1)), some (.inl (i3 x2)), none, none, none] ∧ x.2 = ([], zm Z ν) ∧ zI (some (some (x0 : Int))) Z ∧ zK [44, 48, 49, 200] Zs Z ∧ m = (48 - x2).toNat ∧ (0 ≤ x2 ∧ x2 ≤ 48) ∧ (1 ≤ (x0 : Int)) ∧ (Z 11 hb 0 3 = kc0) ∧ (Z 11 hb 0 8 = kc1) ∧ (Z 11 hb 0 9 = kc2) ∧ (Z 200 0 0 1 = kc3) ∧ (Z 200 0 0 2 = kc4) ∧ zE T (zl_147_2 x0 hb x1 (m + 1) Z x2)) ?_ 65536 ((48 - x2).toNat) _ (by omega) ⟨Z, x2, hL, rfl, hZ, hK, rfl, gx2, gr0, gr1, gr2, gr3, gr4, gr5, hP⟩
  clear hP gr0 gr1 gr2 gr3 gr4 gr5 gx2 hZ hK hL
  clear x2
  clear Z
  rintro m ⟨L, st, μ⟩ ⟨Z, x2, hL, hx, hZ, hK, hm, gx2, gr0, gr1, gr2, gr3, gr4, gr5, hP⟩
  cases hx
  refine fb_147_2 x0 (i3 x1) (i3 x2) _ _ _ _ hL ?_
  have rs := zI_xs (n := x0) hZ
  refine wz_i1 (by rw [tsn]; rfl) ?_
  refine wz_rko (rsn _) ?_
  refine wz_i1 rfl ?_
  refine wz_rko (r := (11, _, _)) rfl ?_
  refine wz_i1 rfl ?_
  refine wz_i0 (i3O (n := 17) (show (3 : Int32) = i3 3 from rfl) (by omega) (by omega) (by omega)) ?_
  have r1 := zI_k hZ 11 hb 0 3 (lo := 0) (hi := 48) (by decide) rfl
  refine wz_br (i3Le (zm_rd (Z := Z) (ν := ν) (k := 11) (rfl : ((hb : Nat) : Int) = hb) (show ((0 : Nat) : Int) = 0 from rfl) (show ((3 : Nat) : Int) = 3 from rfl)) (rfl : i3 x2 = i3 x2) (by omega) (by omega) (by omega) (by omega)) (fun h2 => ?_) (fun h2 => ?_)
  · replace hP := zE_p hP h2
    exact hk _ _ _ (zconso rfl (zconso rfl (zconso rfl (zconso rfl (zconso rfl (zconso rfl rfl)))))) hZ hK (by omega) (by omega) (by omega) (by omega) (by omega) (by omega) (by omega) hP
  · replace hP := zE_n hP h2
    refine wz_i1 (by rw [tsn]; rfl) ?_
    refine wz_rko (rsn _) ?_
    refine wz_i1 rfl ?_
    refine wz_rko (r := (24, _, _)) rfl ?_
    refine wz_i1 rfl ?_
    refine wz_i0 (i3O (n := 48) (rfl : i3 x2 = i3 x2) (by omega) (by omega) (by omega)) ?_
    refine wz_rko (r := (44, _, _)) rfl ?_
    refine wz_i1 rfl ?_
    refine wz_i0 (i3O (n := 16) (show (9 : Int32) = i3 9 from rfl) (by omega) (by omega) (by omega)) ?_
    have r3 := zI_k hZ 44 hb x2 9 (lo := -1) (hi := 3) (by decide) rfl
    refine wz_br (i3E (zm_rd (Z := Z) (ν := ν) (k := 44) (rfl : ((hb : Nat) : Int) = hb) (i3I (y := x2) (rfl : i3 x2 = i3 x2) (by omega) (by omega) (by omega)) (show ((9 : Nat) : Int) = 9 from rfl)) (show (-1 : Int32) = i3 (-1) from rfl) (by omega) (by omega) (by omega) (by omega)) (fun h4 => ?_) (fun h4 => ?_)
    · replace hP := zE_p hP h4
      obtain ⟨m2, rfl⟩ : ∃ m2, m = m2 + 1 := ⟨m - 1, by omega⟩
      exact wz_k1 ⟨m2, by omega, Z, (x2 + 1), (zconso rfl (zconso (zvo (rfl : i3 x1 = i3 x1)) (zconso (zvo (i3A (rfl : i3 x2 = i3 x2) (show (1 : Int32) = i3 1 from rfl))) (zconso rfl (zconso rfl (zconso rfl rfl)))))), rfl, hZ, hK, by omega, by omega, by omega, by omega, by omega, by omega, by omega, by omega,  hP⟩
    · replace hP := zE_n hP h4
      refine wz_i1 (by rw [tsn]; rfl) ?_
      refine wz_i1 (by rw [tsn]; rfl) ?_
      refine wz_i1 (by rw [tsn]; rfl) ?_
      have r5 := zI_xr (n := x0) hZ
      obtain ⟨Z6, hZ6⟩ := zx (zu Z 200 x0 0 2 (((25173 * (Z 200 x0 0 2)) + 13849) % 65536))
      replace hP := zl_e hP hZ6
      have hZ6I := zI_x hZ hZ6 (by omega)
      have t7 : Z6 11 hb 0 3 = Z 11 hb 0 3 := zu_ne hZ6 (fun q => absurd q.1 (by decide))
      have t8 : Z6 11 hb 0 8 = Z 11 hb 0 8 := zu_ne hZ6 (fun q => absurd q.1 (by decide))
      have t9 : Z6 11 hb 0 9 = Z 11 hb 0 9 := zu_ne hZ6 (fun q => absurd q.1 (by decide))
      have t10 : Z6 200 0 0 1 = Z 200 0 0 1 := zu_ne hZ6 (fun q => absurd q.2.2.2 (by decide))
      have t11 : Z6 200 0 0 2 = Z 200 0 0 2 := zu_ne hZ6 (by omega)
      have hZ6K := zK_u hK hZ6 (by decide)
      intro μ9 e9
      replace e9 := e9.trans (zm_wI (Z := Z) (ν := ν) hZ6 (rfl : ((x0 : Nat) : Int) = x0) (show ((0 : Nat) : Int) = 0 from rfl) (show ((2 : Nat) : Int) = 2 from rfl) (i3R (i3A (i3M (show (25173 : Int32) = i3 25173 from rfl) (zm_rd (Z := Z) (ν := ν) (k := 200) (rfl : ((x0 : Nat) : Int) = x0) (show ((0 : Nat) : Int) = 0 from rfl) (show ((2 : Nat) : Int) = 2 from rfl))) (show (13849 : Int32) = i3 13849 from rfl)) (show (65536 : Int32) = i3 65536 from rfl) (by omega) (by omega) (by omega) (by omega)))
      subst e9
      refine wz_i1 (by rw [tsn]; rfl) ?_
      refine wz_i0 (i3N0 (i3Mx (show (1 : Int32) = i3 1 from rfl) (rfl : i3 x1 = i3 x1) (by omega) (by omega) (by omega) (by omega)) (by omega) (by omega) (by omega)) ?_
      refine wz_i1 (by rw [tsn]; rfl) ?_
      refine wz_i1 (by rw [tsn]; rfl) ?_
      refine wz_i1 (by rw [tsn]; rfl) ?_
      have r12 := zI_xr (n := x0) hZ6I
      have q13 := zu_at hZ6
      obtain ⟨Z14, hZ14⟩ := zx (zu Z6 200 x0 0 2 (((25173 * (Z6 200 x0 0 2)) + 13849) % 65536))
      replace hP := zl_e hP hZ14
      have hZ14I := zI_x hZ6I hZ14 (by omega)
      have t15 : Z14 11 hb 0 3 = Z6 11 hb 0 3 := zu_ne hZ14 (fun q => absurd q.1 (by decide))
      have t16 : Z14 11 hb 0 8 = Z6 11 hb 0 8 := zu_ne hZ14 (fun q => absurd q.1 (by decide))
      have t17 : Z14 11 hb 0 9 = Z6 11 hb 0 9 := zu_ne hZ14 (fun q => absurd q.1 (by decide))
      have t18 : Z14 200 0 0 1 = Z6 200 0 0 1 := zu_ne hZ14 (fun q => absurd q.2.2.2 (by decide))
      have t19 : Z14 200 0 0 2 = Z6 200 0 0 2 := zu_ne hZ14 (by omega)
      have hZ14K := zK_u hZ6K hZ14 (by decide)
      intro μ9 e9
      replace e9 := e9.trans (zm_wI (Z := Z6) (ν := ν) hZ14 (rfl : ((x0 : Nat) : Int) = x0) (show ((0 : Nat) : Int) = 0 from rfl) (show ((2 : Nat) : Int) = 2 from rfl) (i3R (i3A (i3M (show (25173 : Int32) = i3 25173 from rfl) (zm_rd (Z := Z6) (ν := ν) (k := 200) (rfl : ((x0 : Nat) : Int) = x0) (show ((0 : Nat) : Int) = 0 from rfl) (show ((2 : Nat) : Int) = 2 from rfl))) (show (13849 : Int32) = i3 13849 from rfl)) (show (65536 : Int32) = i3 65536 from rfl) (by omega) (by omega) (by omega) (by omega)))
      subst e9
      refine wz_i1 (by rw [tsn]; rfl) ?_
      refine wz_i1 (by rw [tsn]; rfl) ?_
      refine wz_rko (rsn _) ?_
      refine wz_i1 rfl ?_
      refine wz_rko (r := (28, _, _)) rfl ?_
      refine wz_i1 rfl ?_
      have r20 := z_mod ((Z6 200 x0 0 2) / 16) (y := (max 1 x1)) (by omega)
      refine wz_i0 (i3O (n := 2) (i3R (i3D (zm_rd (Z := Z6) (ν := ν) (k := 200) (rfl : ((x0 : Nat) : Int) = x0) (show ((0 : Nat) : Int) = 0 from rfl) (show ((2 : Nat) : Int) = 2 from rfl)) (show (16 : Int32) = i3 16 from rfl) (by omega) (by omega) (by omega) (by omega)) (i3Mx (show (1 : Int32) = i3 1 from rfl) (rfl : i3 x1 = i3 x1) (by omega) (by omega) (by omega) (by omega)) (by omega) (by omega) (by omega) (by omega)) (by omega) (by omega) (by omega)) ?_
      refine wz_rko (r := (48, _, _)) rfl ?_
      refine wz_i1 rfl ?_
      refine wz_i0 (i3O (n := 12) (show (3 : Int32) = i3 3 from rfl) (by omega) (by omega) (by omega)) ?_
      refine wz_i1 (by rw [tsn]; rfl) ?_
      refine wz_i1 (by rw [tsn]; rfl) ?_
      refine wz_i1 (by rw [tsn]; rfl) ?_
      have r21 := zI_xr (n := x0) hZ14I
      have q22 := zu_at hZ14
      obtain ⟨Z23, hZ23⟩ := zx (zu Z14 200 x0 0 2 (((25173 * (Z14 200 x0 0 2)) + 13849) % 65536))
      replace hP := zl_e hP hZ23
      have hZ23I := zI_x hZ14I hZ23 (by omega)
      have t24 : Z23 11 hb 0 3 = Z14 11 hb 0 3 := zu_ne hZ23 (fun q => absurd q.1 (by decide))
      have t25 : Z23 11 hb 0 8 = Z14 11 hb 0 8 := zu_ne hZ23 (fun q => absurd q.1 (by decide))
      have t26 : Z23 11 hb 0 9 = Z14 11 hb 0 9 := zu_ne hZ23 (fun q => absurd q.1 (by decide))
      have t27 : Z23 200 0 0 1 = Z14 200 0 0 1 := zu_ne hZ23 (fun q => absurd q.2.2.2 (by decide))
      have t28 : Z23 200 0 0 2 = Z14 200 0 0 2 := zu_ne hZ23 (by omega)
      have hZ23K := zK_u hZ14K hZ23 (by decide)
      intro μ9 e9
      replace e9 := e9.trans (zm_wI (Z := Z14) (ν := ν) hZ23 (rfl : ((x0 : Nat) : Int) = x0) (show ((0 : Nat) : Int) = 0 from rfl) (show ((2 : Nat) : Int) = 2 from rfl) (i3R (i3A (i3M (show (25173 : Int32) = i3 25173 from rfl) (zm_rd (Z := Z14) (ν := ν) (k := 200) (rfl : ((x0 : Nat) : Int) = x0) (show ((0 : Nat) : Int) = 0 from rfl) (show ((2 : Nat) : Int) = 2 from rfl))) (show (13849 : Int32) = i3 13849 from rfl)) (show (65536 : Int32) = i3 65536 from rfl) (by omega) (by omega) (by omega) (by omega)))
      subst e9
      refine wz_i1 (by rw [tsn]; rfl) ?_
      refine wz_i1 (by rw [tsn]; rfl) ?_
      refine wz_rko (rsn _) ?_
      have r29 := zI_k hZ14I 48 hb (((Z6 200 x0 0 2) / 16) % (max 1 x1)) 3 (lo := 0) (hi := 500) (by decide) rfl
      have r30 := zI_xr (n := x0) hZ23I
      have q31 := zu_at hZ23
      have r32 := z_mul (x := (Z14 48 hb (((Z6 200 x0 0 2) / 16) % (max 1 x1)) 3)) (y := (((Z23 200 x0 0 2) / 16) % 60)) (a := 500) (b := 59) (by omega) (by omega) (by omega) (by omega)
      obtain ⟨v33, hv33, c9, lv33, uv33, wv330⟩ := sp_71 (ν := ν) hZ23I hb (a1 := (((Z6 200 x0 0 2) / 16) % (max 1 x1))) (by omega) (a2 := x2) (by omega) (a3 := (200 + (50 * (((Z14 200 x0 0 2) / 16) % 40)))) (by omega) (a4 := (max 1 ((200 + (50 * (((Z14 200 x0 0 2) / 16) % 40))) - ((Z14 48 hb (((Z6 200 x0 0 2) / 16) % (max 1 x1)) 3) * (((Z23 200 x0 0 2) / 16) % 60))))) (by omega)
      replace hP := zl_e hP hv33
      refine wz_cI_of (zas (zcons rfl (zcons (zvi (i3R (i3D (zm_rd (Z := Z6) (ν := ν) (k := 200) (rfl : ((x0 : Nat) : Int) = x0) (show ((0 : Nat) : Int) = 0 from rfl) (show ((2 : Nat) : Int) = 2 from rfl)) (show (16 : Int32) = i3 16 from rfl) (by omega) (by omega) (by omega) (by omega)) (i3Mx (show (1 : Int32) = i3 1 from rfl) (rfl : i3 x1 = i3 x1) (by omega) (by omega) (by omega) (by omega)) (by omega) (by omega) (by omega) (by omega))) (zcons (zvi (rfl : i3 x2 = i3 x2)) (zcons (zvi (i3A (show (200 : Int32) = i3 200 from rfl) (i3M (show (50 : Int32) = i3 50 from rfl) (i3R (i3D (zm_rd (Z := Z14) (ν := ν) (k := 200) (rfl : ((x0 : Nat) : Int) = x0) (show ((0 : Nat) : Int) = 0 from rfl) (show ((2 : Nat) : Int) = 2 from rfl)) (show (16 : Int32) = i3 16 from rfl) (by omega) (by omega) (by omega) (by omega)) (show (40 : Int32) = i3 40 from rfl) (by omega) (by omega) (by omega) (by omega))))) (zcons (zvi (i3Mx (show (1 : Int32) = i3 1 from rfl) (i3S (i3A (show (200 : Int32) = i3 200 from rfl) (i3M (show (50 : Int32) = i3 50 from rfl) (i3R (i3D (zm_rd (Z := Z14) (ν := ν) (k := 200) (rfl : ((x0 : Nat) : Int) = x0) (show ((0 : Nat) : Int) = 0 from rfl) (show ((2 : Nat) : Int) = 2 from rfl)) (show (16 : Int32) = i3 16 from rfl) (by omega) (by omega) (by omega) (by omega)) (show (40 : Int32) = i3 40 from rfl) (by omega) (by omega) (by omega) (by omega)))) (i3M (zm_rd (Z := Z14) (ν := ν) (k := 48) (rfl : ((hb : Nat) : Int) = hb) (i3I (y := (((Z6 200 x0 0 2) / 16) % (max 1 x1))) (i3R (i3D (zm_rd (Z := Z6) (ν := ν) (k := 200) (rfl : ((x0 : Nat) : Int) = x0) (show ((0 : Nat) : Int) = 0 from rfl) (show ((2 : Nat) : Int) = 2 from rfl)) (show (16 : Int32) = i3 16 from rfl) (by omega) (by omega) (by omega) (by omega)) (i3Mx (show (1 : Int32) = i3 1 from rfl) (rfl : i3 x1 = i3 x1) (by omega) (by omega) (by omega) (by omega)) (by omega) (by omega) (by omega) (by omega)) (by omega) (by omega) (by omega)) (show ((3 : Nat) : Int) = 3 from rfl)) (i3R (i3D (zm_rd (Z := Z23) (ν := ν) (k := 200) (rfl : ((x0 : Nat) : Int) = x0) (show ((0 : Nat) : Int) = 0 from rfl) (show ((2 : Nat) : Int) = 2 from rfl)) (show (16 : Int32) = i3 16 from rfl) (by omega) (by omega) (by omega) (by omega)) (show (60 : Int32) = i3 60 from rfl) (by omega) (by omega) (by omega) (by omega)))) (by omega) (by omega) (by omega) (by omega))) rfl))))) c9) ?_
      clear c9
      refine wz_br (i3NE (rfl : i3 v33 = i3 v33) (show (0 : Int32) = i3 0 from rfl) (by omega) (by omega) (by omega) (by omega)) (fun h34 => ?_) (fun h34 => ?_)
      · replace hP := zE_p hP h34
        obtain ⟨m2, rfl⟩ : ∃ m2, m = m2 + 1 := ⟨m - 1, by omega⟩
        exact wz_k1 ⟨m2, by omega, Z23, (x2 + 1), (zconso rfl (zconso (zvo (rfl : i3 x1 = i3 x1)) (zconso (zvo (i3A (rfl : i3 x2 = i3 x2) (show (1 : Int32) = i3 1 from rfl))) (zconso rfl (zconso rfl (zconso rfl rfl)))))), rfl, hZ23I, hZ23K, by omega, by omega, by omega, by omega, by omega, by omega, by omega, by omega,  hP⟩
      · replace hP := zE_n hP h34
        refine wz_i1 (by rw [tsn]; rfl) ?_
        refine wz_rko (rsn _) ?_
        refine wz_i1 rfl ?_
        refine wz_rko (r := (28, _, _)) rfl ?_
        refine wz_i1 rfl ?_
        refine wz_i0 (i3O (n := 2) (i3R (i3D (zm_rd (Z := Z6) (ν := ν) (k := 200) (rfl : ((x0 : Nat) : Int) = x0) (show ((0 : Nat) : Int) = 0 from rfl) (show ((2 : Nat) : Int) = 2 from rfl)) (show (16 : Int32) = i3 16 from rfl) (by omega) (by omega) (by omega) (by omega)) (i3Mx (show (1 : Int32) = i3 1 from rfl) (rfl : i3 x1 = i3 x1) (by omega) (by omega) (by omega) (by omega)) (by omega) (by omega) (by omega) (by omega)) (by omega) (by omega) (by omega)) ?_
        refine wz_rko (r := (48, _, _)) rfl ?_
        refine wz_i1 rfl ?_
        refine wz_i0 (i3O (n := 12) (show (5 : Int32) = i3 5 from rfl) (by omega) (by omega) (by omega)) ?_
        refine wz_i1 rfl ?_
        refine wz_rko (r := (24, _, _)) rfl ?_
        refine wz_i1 rfl ?_
        refine wz_i0 (i3O (n := 48) (rfl : i3 x2 = i3 x2) (by omega) (by omega) (by omega)) ?_
        refine wz_rko (r := (44, _, _)) rfl ?_
        refine wz_i1 rfl ?_
        refine wz_i0 (i3O (n := 16) (show (10 : Int32) = i3 10 from rfl) (by omega) (by omega) (by omega)) ?_
        obtain ⟨Z35, hZ35⟩ := zx (zu Z23 44 hb x2 10 1)
        replace hP := zl_e hP hZ35
        have hZ35I := zI_u hZ23I hZ35 (lo := 0) (hi := 4) (by decide) rfl (by omega) ⟨by decide, by decide⟩ (Or.inl (by decide))
        have t36 : Z35 11 hb 0 3 = Z23 11 hb 0 3 := zu_ne hZ35 (fun q => absurd q.1 (by decide))
        have t37 : Z35 11 hb 0 8 = Z23 11 hb 0 8 := zu_ne hZ35 (fun q => absurd q.1 (by decide))
        have t38 : Z35 11 hb 0 9 = Z23 11 hb 0 9 := zu_ne hZ35 (fun q => absurd q.1 (by decide))
        have t39 : Z35 200 0 0 1 = Z23 200 0 0 1 := zu_ne hZ35 (fun q => absurd q.1 (by decide))
        have t40 : Z35 200 0 0 2 = Z23 200 0 0 2 := zu_ne hZ35 (fun q => absurd q.1 (by decide))
        have hZ35K := zK_u hZ23K hZ35 (by decide)
        intro μ9 e9
        replace e9 := e9.trans (zm_wI (Z := Z23) (ν := ν) hZ35 (rfl : ((hb : Nat) : Int) = hb) (i3I (y := x2) (rfl : i3 x2 = i3 x2) (by omega) (by omega) (by omega)) (show ((10 : Nat) : Int) = 10 from rfl) (show (1 : Int32) = i3 1 from rfl))
        subst e9
        refine wz_i1 rfl ?_
        refine wz_rko (r := (29, _, _)) rfl ?_
        refine wz_i1 rfl ?_
        have r41 := zI_k hZ23I 48 hb (((Z6 200 x0 0 2) / 16) % (max 1 x1)) 5 (lo := 0) (hi := 12) (by decide) rfl
        refine wz_i0 (i3O (n := 24) (i3A (i3M (i3R (i3D (zm_rd (Z := Z6) (ν := ν) (k := 200) (rfl : ((x0 : Nat) : Int) = x0) (show ((0 : Nat) : Int) = 0 from rfl) (show ((2 : Nat) : Int) = 2 from rfl)) (show (16 : Int32) = i3 16 from rfl) (by omega) (by omega) (by omega) (by omega)) (i3Mx (show (1 : Int32) = i3 1 from rfl) (rfl : i3 x1 = i3 x1) (by omega) (by omega) (by omega) (by omega)) (by omega) (by omega) (by omega) (by omega)) (show (12 : Int32) = i3 12 from rfl)) (zm_rd (Z := Z23) (ν := ν) (k := 48) (rfl : ((hb : Nat) : Int) = hb) (i3I (y := (((Z6 200 x0 0 2) / 16) % (max 1 x1))) (i3R (i3D (zm_rd (Z := Z6) (ν := ν) (k := 200) (rfl : ((x0 : Nat) : Int) = x0) (show ((0 : Nat) : Int) = 0 from rfl) (show ((2 : Nat) : Int) = 2 from rfl)) (show (16 : Int32) = i3 16 from rfl) (by omega) (by omega) (by omega) (by omega)) (i3Mx (show (1 : Int32) = i3 1 from rfl) (rfl : i3 x1 = i3 x1) (by omega) (by omega) (by omega) (by omega)) (by omega) (by omega) (by omega) (by omega)) (by omega) (by omega) (by omega)) (show ((5 : Nat) : Int) = 5 from rfl))) (by omega) (by omega) (by omega)) ?_
        refine wz_rko (r := (49, _, _)) rfl ?_
        refine wz_i1 rfl ?_
        refine wz_i0 (i3O (n := 3) (show (0 : Int32) = i3 0 from rfl) (by omega) (by omega) (by omega)) ?_
        obtain ⟨Z42, hZ42⟩ := zx (zu Z35 49 hb (12 * (((Z6 200 x0 0 2) / 16) % (max 1 x1)) + (Z23 48 hb (((Z6 200 x0 0 2) / 16) % (max 1 x1)) 5)) 0 x2)
        replace hP := zl_e hP hZ42
        have hZ42I := zI_u hZ35I hZ42 (lo := 0) (hi := 47) (by decide) rfl (by omega) ⟨by decide, by decide⟩ (Or.inl (by decide))
        have t43 : Z42 11 hb 0 3 = Z35 11 hb 0 3 := zu_ne hZ42 (fun q => absurd q.1 (by decide))
        have t44 : Z42 11 hb 0 8 = Z35 11 hb 0 8 := zu_ne hZ42 (fun q => absurd q.1 (by decide))
        have t45 : Z42 11 hb 0 9 = Z35 11 hb 0 9 := zu_ne hZ42 (fun q => absurd q.1 (by decide))
        have t46 : Z42 200 0 0 1 = Z35 200 0 0 1 := zu_ne hZ42 (fun q => absurd q.1 (by decide))
        have t47 : Z42 200 0 0 2 = Z35 200 0 0 2 := zu_ne hZ42 (fun q => absurd q.1 (by decide))
        have hZ42K := zK_u hZ35K hZ42 (by decide)
        intro μ9 e9
        replace e9 := e9.trans (zm_wI (Z := Z35) (ν := ν) hZ42 (rfl : ((hb : Nat) : Int) = hb) (i3I (y := (12 * (((Z6 200 x0 0 2) / 16) % (max 1 x1)) + (Z23 48 hb (((Z6 200 x0 0 2) / 16) % (max 1 x1)) 5))) (i3A (i3M (i3R (i3D (zm_rd (Z := Z6) (ν := ν) (k := 200) (rfl : ((x0 : Nat) : Int) = x0) (show ((0 : Nat) : Int) = 0 from rfl) (show ((2 : Nat) : Int) = 2 from rfl)) (show (16 : Int32) = i3 16 from rfl) (by omega) (by omega) (by omega) (by omega)) (i3Mx (show (1 : Int32) = i3 1 from rfl) (rfl : i3 x1 = i3 x1) (by omega) (by omega) (by omega) (by omega)) (by omega) (by omega) (by omega) (by omega)) (show (12 : Int32) = i3 12 from rfl)) (zm_rd (Z := Z23) (ν := ν) (k := 48) (rfl : ((hb : Nat) : Int) = hb) (i3I (y := (((Z6 200 x0 0 2) / 16) % (max 1 x1))) (i3R (i3D (zm_rd (Z := Z6) (ν := ν) (k := 200) (rfl : ((x0 : Nat) : Int) = x0) (show ((0 : Nat) : Int) = 0 from rfl) (show ((2 : Nat) : Int) = 2 from rfl)) (show (16 : Int32) = i3 16 from rfl) (by omega) (by omega) (by omega) (by omega)) (i3Mx (show (1 : Int32) = i3 1 from rfl) (rfl : i3 x1 = i3 x1) (by omega) (by omega) (by omega) (by omega)) (by omega) (by omega) (by omega) (by omega)) (by omega) (by omega) (by omega)) (show ((5 : Nat) : Int) = 5 from rfl))) (by omega) (by omega) (by omega)) (show ((0 : Nat) : Int) = 0 from rfl) (rfl : i3 x2 = i3 x2))
        subst e9
        refine wz_i1 rfl ?_
        refine wz_rko (r := (29, _, _)) rfl ?_
        refine wz_i1 rfl ?_
        refine wz_i0 (i3O (n := 24) (i3A (i3M (i3R (i3D (zm_rd (Z := Z6) (ν := ν) (k := 200) (rfl : ((x0 : Nat) : Int) = x0) (show ((0 : Nat) : Int) = 0 from rfl) (show ((2 : Nat) : Int) = 2 from rfl)) (show (16 : Int32) = i3 16 from rfl) (by omega) (by omega) (by omega) (by omega)) (i3Mx (show (1 : Int32) = i3 1 from rfl) (rfl : i3 x1 = i3 x1) (by omega) (by omega) (by omega) (by omega)) (by omega) (by omega) (by omega) (by omega)) (show (12 : Int32) = i3 12 from rfl)) (zm_rd (Z := Z23) (ν := ν) (k := 48) (rfl : ((hb : Nat) : Int) = hb) (i3I (y := (((Z6 200 x0 0 2) / 16) % (max 1 x1))) (i3R (i3D (zm_rd (Z := Z6) (ν := ν) (k := 200) (rfl : ((x0 : Nat) : Int) = x0) (show ((0 : Nat) : Int) = 0 from rfl) (show ((2 : Nat) : Int) = 2 from rfl)) (show (16 : Int32) = i3 16 from rfl) (by omega) (by omega) (by omega) (by omega)) (i3Mx (show (1 : Int32) = i3 1 from rfl) (rfl : i3 x1 = i3 x1) (by omega) (by omega) (by omega) (by omega)) (by omega) (by omega) (by omega) (by omega)) (by omega) (by omega) (by omega)) (show ((5 : Nat) : Int) = 5 from rfl))) (by omega) (by omega) (by omega)) ?_
        refine wz_rko (r := (49, _, _)) rfl ?_
        refine wz_i1 rfl ?_
        refine wz_i0 (i3O (n := 3) (show (1 : Int32) = i3 1 from rfl) (by omega) (by omega) (by omega)) ?_
        obtain ⟨Z48, hZ48⟩ := zx (zu Z42 49 hb (12 * (((Z6 200 x0 0 2) / 16) % (max 1 x1)) + (Z23 48 hb (((Z6 200 x0 0 2) / 16) % (max 1 x1)) 5)) 1 (200 + (50 * (((Z14 200 x0 0 2) / 16) % 40))))
        replace hP := zl_e hP hZ48
        have hZ48I := zI_u hZ42I hZ48 (lo := 0) (hi := 9999) (by decide) rfl (by omega) ⟨by decide, by decide⟩ (Or.inl (by decide))
        have t49 : Z48 11 hb 0 3 = Z42 11 hb 0 3 := zu_ne hZ48 (fun q => absurd q.1 (by decide))
        have t50 : Z48 11 hb 0 8 = Z42 11 hb 0 8 := zu_ne hZ48 (fun q => absurd q.1 (by decide))
        have t51 : Z48 11 hb 0 9 = Z42 11 hb 0 9 := zu_ne hZ48 (fun q => absurd q.1 (by decide))
        have t52 : Z48 200 0 0 1 = Z42 200 0 0 1 := zu_ne hZ48 (fun q => absurd q.1 (by decide))
        have t53 : Z48 200 0 0 2 = Z42 200 0 0 2 := zu_ne hZ48 (fun q => absurd q.1 (by decide))
        have hZ48K := zK_u hZ42K hZ48 (by decide)
        intro μ9 e9
        replace e9 := e9.trans (zm_wI (Z := Z42) (ν := ν) hZ48 (rfl : ((hb : Nat) : Int) = hb) (i3I (y := (12 * (((Z6 200 x0 0 2) / 16) % (max 1 x1)) + (Z23 48 hb (((Z6 200 x0 0 2) / 16) % (max 1 x1)) 5))) (i3A (i3M (i3R (i3D (zm_rd (Z := Z6) (ν := ν) (k := 200) (rfl : ((x0 : Nat) : Int) = x0) (show ((0 : Nat) : Int) = 0 from rfl) (show ((2 : Nat) : Int) = 2 from rfl)) (show (16 : Int32) = i3 16 from rfl) (by omega) (by omega) (by omega) (by omega)) (i3Mx (show (1 : Int32) = i3 1 from rfl) (rfl : i3 x1 = i3 x1) (by omega) (by omega) (by omega) (by omega)) (by omega) (by omega) (by omega) (by omega)) (show (12 : Int32) = i3 12 from rfl)) (zm_rd (Z := Z23) (ν := ν) (k := 48) (rfl : ((hb : Nat) : Int) = hb) (i3I (y := (((Z6 200 x0 0 2) / 16) % (max 1 x1))) (i3R (i3D (zm_rd (Z := Z6) (ν := ν) (k := 200) (rfl : ((x0 : Nat) : Int) = x0) (show ((0 : Nat) : Int) = 0 from rfl) (show ((2 : Nat) : Int) = 2 from rfl)) (show (16 : Int32) = i3 16 from rfl) (by omega) (by omega) (by omega) (by omega)) (i3Mx (show (1 : Int32) = i3 1 from rfl) (rfl : i3 x1 = i3 x1) (by omega) (by omega) (by omega) (by omega)) (by omega) (by omega) (by omega) (by omega)) (by omega) (by omega) (by omega)) (show ((5 : Nat) : Int) = 5 from rfl))) (by omega) (by omega) (by omega)) (show ((1 : Nat) : Int) = 1 from rfl) (i3A (show (200 : Int32) = i3 200 from rfl) (i3M (show (50 : Int32) = i3 50 from rfl) (i3R (i3D (zm_rd (Z := Z14) (ν := ν) (k := 200) (rfl : ((x0 : Nat) : Int) = x0) (show ((0 : Nat) : Int) = 0 from rfl) (show ((2 : Nat) : Int) = 2 from rfl)) (show (16 : Int32) = i3 16 from rfl) (by omega) (by omega) (by omega) (by omega)) (show (40 : Int32) = i3 40 from rfl) (by omega) (by omega) (by omega) (by omega)))))
        subst e9
        refine wz_i1 rfl ?_
        refine wz_rko (r := (29, _, _)) rfl ?_
        refine wz_i1 rfl ?_
        refine wz_i0 (i3O (n := 24) (i3A (i3M (i3R (i3D (zm_rd (Z := Z6) (ν := ν) (k := 200) (rfl : ((x0 : Nat) : Int) = x0) (show ((0 : Nat) : Int) = 0 from rfl) (show ((2 : Nat) : Int) = 2 from rfl)) (show (16 : Int32) = i3 16 from rfl) (by omega) (by omega) (by omega) (by omega)) (i3Mx (show (1 : Int32) = i3 1 from rfl) (rfl : i3 x1 = i3 x1) (by omega) (by omega) (by omega) (by omega)) (by omega) (by omega) (by omega) (by omega)) (show (12 : Int32) = i3 12 from rfl)) (zm_rd (Z := Z23) (ν := ν) (k := 48) (rfl : ((hb : Nat) : Int) = hb) (i3I (y := (((Z6 200 x0 0 2) / 16) % (max 1 x1))) (i3R (i3D (zm_rd (Z := Z6) (ν := ν) (k := 200) (rfl : ((x0 : Nat) : Int) = x0) (show ((0 : Nat) : Int) = 0 from rfl) (show ((2 : Nat) : Int) = 2 from rfl)) (show (16 : Int32) = i3 16 from rfl) (by omega) (by omega) (by omega) (by omega)) (i3Mx (show (1 : Int32) = i3 1 from rfl) (rfl : i3 x1 = i3 x1) (by omega) (by omega) (by omega) (by omega)) (by omega) (by omega) (by omega) (by omega)) (by omega) (by omega) (by omega)) (show ((5 : Nat) : Int) = 5 from rfl))) (by omega) (by omega) (by omega)) ?_
        refine wz_rko (r := (49, _, _)) rfl ?_
        refine wz_i1 rfl ?_
        refine wz_i0 (i3O (n := 3) (show (2 : Int32) = i3 2 from rfl) (by omega) (by omega) (by omega)) ?_
        obtain ⟨Z54, hZ54⟩ := zx (zu Z48 49 hb (12 * (((Z6 200 x0 0 2) / 16) % (max 1 x1)) + (Z23 48 hb (((Z6 200 x0 0 2) / 16) % (max 1 x1)) 5)) 2 (max 1 ((200 + (50 * (((Z14 200 x0 0 2) / 16) % 40))) - ((Z14 48 hb (((Z6 200 x0 0 2) / 16) % (max 1 x1)) 3) * (((Z23 200 x0 0 2) / 16) % 60)))))
        replace hP := zl_e hP hZ54
        have hZ54I := zI_u hZ48I hZ54 (lo := 0) (hi := 9999) (by decide) rfl (by omega) ⟨by decide, by decide⟩ (Or.inl (by decide))
        have t55 : Z54 11 hb 0 3 = Z48 11 hb 0 3 := zu_ne hZ54 (fun q => absurd q.1 (by decide))
        have t56 : Z54 11 hb 0 8 = Z48 11 hb 0 8 := zu_ne hZ54 (fun q => absurd q.1 (by decide))
        have t57 : Z54 11 hb 0 9 = Z48 11 hb 0 9 := zu_ne hZ54 (fun q => absurd q.1 (by decide))
        have t58 : Z54 200 0 0 1 = Z48 200 0 0 1 := zu_ne hZ54 (fun q => absurd q.1 (by decide))
        have t59 : Z54 200 0 0 2 = Z48 200 0 0 2 := zu_ne hZ54 (fun q => absurd q.1 (by decide))
        have hZ54K := zK_u hZ48K hZ54 (by decide)
        intro μ9 e9
        replace e9 := e9.trans (zm_wI (Z := Z48) (ν := ν) hZ54 (rfl : ((hb : Nat) : Int) = hb) (i3I (y := (12 * (((Z6 200 x0 0 2) / 16) % (max 1 x1)) + (Z23 48 hb (((Z6 200 x0 0 2) / 16) % (max 1 x1)) 5))) (i3A (i3M (i3R (i3D (zm_rd (Z := Z6) (ν := ν) (k := 200) (rfl : ((x0 : Nat) : Int) = x0) (show ((0 : Nat) : Int) = 0 from rfl) (show ((2 : Nat) : Int) = 2 from rfl)) (show (16 : Int32) = i3 16 from rfl) (by omega) (by omega) (by omega) (by omega)) (i3Mx (show (1 : Int32) = i3 1 from rfl) (rfl : i3 x1 = i3 x1) (by omega) (by omega) (by omega) (by omega)) (by omega) (by omega) (by omega) (by omega)) (show (12 : Int32) = i3 12 from rfl)) (zm_rd (Z := Z23) (ν := ν) (k := 48) (rfl : ((hb : Nat) : Int) = hb) (i3I (y := (((Z6 200 x0 0 2) / 16) % (max 1 x1))) (i3R (i3D (zm_rd (Z := Z6) (ν := ν) (k := 200) (rfl : ((x0 : Nat) : Int) = x0) (show ((0 : Nat) : Int) = 0 from rfl) (show ((2 : Nat) : Int) = 2 from rfl)) (show (16 : Int32) = i3 16 from rfl) (by omega) (by omega) (by omega) (by omega)) (i3Mx (show (1 : Int32) = i3 1 from rfl) (rfl : i3 x1 = i3 x1) (by omega) (by omega) (by omega) (by omega)) (by omega) (by omega) (by omega) (by omega)) (by omega) (by omega) (by omega)) (show ((5 : Nat) : Int) = 5 from rfl))) (by omega) (by omega) (by omega)) (show ((2 : Nat) : Int) = 2 from rfl) (i3Mx (show (1 : Int32) = i3 1 from rfl) (i3S (i3A (show (200 : Int32) = i3 200 from rfl) (i3M (show (50 : Int32) = i3 50 from rfl) (i3R (i3D (zm_rd (Z := Z14) (ν := ν) (k := 200) (rfl : ((x0 : Nat) : Int) = x0) (show ((0 : Nat) : Int) = 0 from rfl) (show ((2 : Nat) : Int) = 2 from rfl)) (show (16 : Int32) = i3 16 from rfl) (by omega) (by omega) (by omega) (by omega)) (show (40 : Int32) = i3 40 from rfl) (by omega) (by omega) (by omega) (by omega)))) (i3M (zm_rd (Z := Z14) (ν := ν) (k := 48) (rfl : ((hb : Nat) : Int) = hb) (i3I (y := (((Z6 200 x0 0 2) / 16) % (max 1 x1))) (i3R (i3D (zm_rd (Z := Z6) (ν := ν) (k := 200) (rfl : ((x0 : Nat) : Int) = x0) (show ((0 : Nat) : Int) = 0 from rfl) (show ((2 : Nat) : Int) = 2 from rfl)) (show (16 : Int32) = i3 16 from rfl) (by omega) (by omega) (by omega) (by omega)) (i3Mx (show (1 : Int32) = i3 1 from rfl) (rfl : i3 x1 = i3 x1) (by omega) (by omega) (by omega) (by omega)) (by omega) (by omega) (by omega) (by omega)) (by omega) (by omega) (by omega)) (show ((3 : Nat) : Int) = 3 from rfl)) (i3R (i3D (zm_rd (Z := Z23) (ν := ν) (k := 200) (rfl : ((x0 : Nat) : Int) = x0) (show ((0 : Nat) : Int) = 0 from rfl) (show ((2 : Nat) : Int) = 2 from rfl)) (show (16 : Int32) = i3 16 from rfl) (by omega) (by omega) (by omega) (by omega)) (show (60 : Int32) = i3 60 from rfl) (by omega) (by omega) (by omega) (by omega)))) (by omega) (by omega) (by omega) (by omega)))
        subst e9
        refine wz_i1 rfl ?_
        refine wz_rko (r := (28, _, _)) rfl ?_
        refine wz_i1 rfl ?_
        refine wz_i0 (i3O (n := 2) (i3R (i3D (zm_rd (Z := Z6) (ν := ν) (k := 200) (rfl : ((x0 : Nat) : Int) = x0) (show ((0 : Nat) : Int) = 0 from rfl) (show ((2 : Nat) : Int) = 2 from rfl)) (show (16 : Int32) = i3 16 from rfl) (by omega) (by omega) (by omega) (by omega)) (i3Mx (show (1 : Int32) = i3 1 from rfl) (rfl : i3 x1 = i3 x1) (by omega) (by omega) (by omega) (by omega)) (by omega) (by omega) (by omega) (by omega)) (by omega) (by omega) (by omega)) ?_
        refine wz_rko (r := (48, _, _)) rfl ?_
        refine wz_i1 rfl ?_
        refine wz_i0 (i3O (n := 12) (show (5 : Int32) = i3 5 from rfl) (by omega) (by omega) (by omega)) ?_
        refine wz_i1 rfl ?_
        refine wz_i0 (i3O (n := 12) (show (5 : Int32) = i3 5 from rfl) (by omega) (by omega) (by omega)) ?_
        have r60 := zI_k hZ54I 48 hb (((Z6 200 x0 0 2) / 16) % (max 1 x1)) 5 (lo := 0) (hi := 12) (by decide) rfl
        have q61 := (zu_ne (k' := 48) (b' := hb) (i' := (((Z6 200 x0 0 2) / 16) % (max 1 x1))) (j' := 5) hZ54 (fun q => absurd q.1 (by decide))).trans ((zu_ne (k' := 48) (b' := hb) (i' := (((Z6 200 x0 0 2) / 16) % (max 1 x1))) (j' := 5) hZ48 (fun q => absurd q.1 (by decide))).trans ((zu_ne (k' := 48) (b' := hb) (i' := (((Z6 200 x0 0 2) / 16) % (max 1 x1))) (j' := 5) hZ42 (fun q => absurd q.1 (by decide))).trans (zu_ne (k' := 48) (b' := hb) (i' := (((Z6 200 x0 0 2) / 16) % (max 1 x1))) (j' := 5) hZ35 (fun q => absurd q.1 (by decide)))))
        obtain ⟨Z62, hZ62⟩ := zx (zu Z54 48 hb (((Z6 200 x0 0 2) / 16) % (max 1 x1)) 5 ((Z54 48 hb (((Z6 200 x0 0 2) / 16) % (max 1 x1)) 5) + 1))
        replace hP := zl_e hP hZ62
        have hZ62I := zI_u hZ54I hZ62 (lo := 0) (hi := 12) (by decide) rfl (by omega) ⟨by decide, by decide⟩ (Or.inl (by decide))
        have t63 : Z62 11 hb 0 3 = Z54 11 hb 0 3 := zu_ne hZ62 (fun q => absurd q.1 (by decide))
        have t64 : Z62 11 hb 0 8 = Z54 11 hb 0 8 := zu_ne hZ62 (fun q => absurd q.1 (by decide))
        have t65 : Z62 11 hb 0 9 = Z54 11 hb 0 9 := zu_ne hZ62 (fun q => absurd q.1 (by decide))
        have t66 : Z62 200 0 0 1 = Z54 200 0 0 1 := zu_ne hZ62 (fun q => absurd q.1 (by decide))
        have t67 : Z62 200 0 0 2 = Z54 200 0 0 2 := zu_ne hZ62 (fun q => absurd q.1 (by decide))
        have hZ62K := zK_u hZ54K hZ62 (by decide)
        intro μ9 e9
        replace e9 := e9.trans (zm_wI (Z := Z54) (ν := ν) hZ62 (rfl : ((hb : Nat) : Int) = hb) (i3I (y := (((Z6 200 x0 0 2) / 16) % (max 1 x1))) (i3R (i3D (zm_rd (Z := Z6) (ν := ν) (k := 200) (rfl : ((x0 : Nat) : Int) = x0) (show ((0 : Nat) : Int) = 0 from rfl) (show ((2 : Nat) : Int) = 2 from rfl)) (show (16 : Int32) = i3 16 from rfl) (by omega) (by omega) (by omega) (by omega)) (i3Mx (show (1 : Int32) = i3 1 from rfl) (rfl : i3 x1 = i3 x1) (by omega) (by omega) (by omega) (by omega)) (by omega) (by omega) (by omega) (by omega)) (by omega) (by omega) (by omega)) (show ((5 : Nat) : Int) = 5 from rfl) (i3A (zm_rd (Z := Z54) (ν := ν) (k := 48) (rfl : ((hb : Nat) : Int) = hb) (i3I (y := (((Z6 200 x0 0 2) / 16) % (max 1 x1))) (i3R (i3D (zm_rd (Z := Z6) (ν := ν) (k := 200) (rfl : ((x0 : Nat) : Int) = x0) (show ((0 : Nat) : Int) = 0 from rfl) (show ((2 : Nat) : Int) = 2 from rfl)) (show (16 : Int32) = i3 16 from rfl) (by omega) (by omega) (by omega) (by omega)) (i3Mx (show (1 : Int32) = i3 1 from rfl) (rfl : i3 x1 = i3 x1) (by omega) (by omega) (by omega) (by omega)) (by omega) (by omega) (by omega) (by omega)) (by omega) (by omega) (by omega)) (show ((5 : Nat) : Int) = 5 from rfl)) (show (1 : Int32) = i3 1 from rfl)))
        subst e9
        obtain ⟨m2, rfl⟩ : ∃ m2, m = m2 + 1 := ⟨m - 1, by omega⟩
        exact wz_k1 ⟨m2, by omega, Z62, (x2 + 1), (zconso rfl (zconso (zvo (rfl : i3 x1 = i3 x1)) (zconso (zvo (i3A (rfl : i3 x2 = i3 x2) (show (1 : Int32) = i3 1 from rfl))) (zconso rfl (zconso rfl (zconso rfl rfl)))))), rfl, hZ62I, hZ62K, by omega, by omega, by omega, by omega, by omega, by omega, by omega, by omega,  hP⟩

/- yX8_tellClocks -/
def zf_147 (Z : qz_Z) (sn hb : Int) : qz_Z := (if (Z 200 sn 0 1) ≤ 3 then (zlet2 (zl_147_1 sn hb 1 3 Z 0) (fun Z4 y3 => (zlet2 (zl_147_2 sn hb 1 49 Z4 0) (fun Z7 y6 => Z7)))) else (zlet2 (zl_147_1 sn hb 2 3 Z 0) (fun Z10 y9 => (zlet2 (zl_147_2 sn hb 2 49 Z10 0) (fun Z13 y12 => Z13)))))
theorem sp_147 {Z : qz_Z} {ν : qz_N} {sn : Nat} (hZ : zI (some (some (sn : Int))) Z) (hb : Nat) (tsn : ∀ Z, qz_tag (zm Z ν) (200, sn, 0) = 2) (rsn : ∀ Z, qz_rm (zm Z ν) 200 sn 0 0 = some (10, hb, 0)) (gx0 : Z 11 hb 0 7 = 0) (gx1 : 1 ≤ (sn : Int)) : ∃ P : qz_Z, P = zf_147 Z sn hb ∧ (qf_147 [.inr (.inr (some (200, sn, 0)))] (zm Z ν) = some (zm P ν, .inl none) ∧ zI (some (some (sn : Int))) P ∧ zK [11, 44, 48, 49, 200] Z P ∧ P 11 hb 0 3 = Z 11 hb 0 3 ∧ P 11 hb 0 8 = Z 11 hb 0 8 ∧ P 11 hb 0 9 = Z 11 hb 0 9 ∧ P 200 0 0 1 = Z 200 0 0 1 ∧ P 200 0 0 2 = Z 200 0 0 2) := by
  obtain ⟨P, hP⟩ := zx (zf_147 Z sn hb)
  refine zc_V (Q := fun P => zI (some (some (sn : Int))) P ∧ zK [11, 44, 48, 49, 200] Z P ∧ P 11 hb 0 3 = Z 11 hb 0 3 ∧ P 11 hb 0 8 = Z 11 hb 0 8 ∧ P 11 hb 0 9 = Z 11 hb 0 9 ∧ P 200 0 0 1 = Z 200 0 0 1 ∧ P 200 0 0 2 = Z 200 0 0 2) hP (fw_147 sn _ _ ?_)
  replace hP : zE P (zf_147 Z sn hb) := hP
  unfold zf_147 at hP
  have rs := zI_xs (n := sn) hZ
  refine wz_i1 (by rw [tsn]; rfl) ?_
  have r1 := zI_xs (n := sn) hZ
  refine wz_br (i3Le (zm_rd (Z := Z) (ν := ν) (k := 200) (rfl : ((sn : Nat) : Int) = sn) (show ((0 : Nat) : Int) = 0 from rfl) (show ((1 : Nat) : Int) = 1 from rfl)) (show (3 : Int32) = i3 3 from rfl) (by omega) (by omega) (by omega) (by omega)) (fun h2 => ?_) (fun h2 => ?_)
  · replace hP := zE_p hP h2
    refine sl_147_1 (ν := ν) sn hZ zK_r hb tsn rsn (x1 := 1) (by omega) (x2 := 0) (by omega) (kc4 := Z 200 0 0 2) (kc3 := Z 200 0 0 1) (kc2 := Z 11 hb 0 9) (kc1 := Z 11 hb 0 8) (kc0 := Z 11 hb 0 3) (by omega) (by omega) (by omega) (by omega) (by omega) (by omega) (by omega) (zconso rfl (zconso (zvo (show (1 : Int32) = i3 1 from rfl)) (zconso (zvo (show (0 : Int32) = i3 0 from rfl)) (zconso rfl (zconso rfl (zconso rfl rfl)))))) rfl ?_
    intro L5 Z4 y3 hL5 hZ4I kZ4 gy3 gL5_0 gL5_1 gL5_2 gL5_3 gL5_4 gL5_5 gL5_6 q9
    replace hP := zl_e2 hP (Eq.symm q9)
    clear q9
    have hZ4K : zK [11, 44, 48, 49, 200] Z Z4 := zK_t zK_r kZ4 (by decide)
    refine fc_147_4 _ (i3 1) _ _ _ _ hL5 ?_
    refine sl_147_2 (ν := ν) sn hZ4I zK_r hb tsn rsn (x1 := 1) (by omega) (x2 := 0) (by omega) (kc4 := Z4 200 0 0 2) (kc3 := Z4 200 0 0 1) (kc2 := Z4 11 hb 0 9) (kc1 := Z4 11 hb 0 8) (kc0 := Z4 11 hb 0 3) (by omega) (by omega) (by omega) (by omega) (by omega) (by omega) (zconso rfl (zconso (zvo (rfl : i3 1 = i3 1)) (zconso (zvo (show (0 : Int32) = i3 0 from rfl)) (zconso rfl (zconso rfl (zconso rfl rfl)))))) rfl ?_
    intro L8 Z7 y6 hL8 hZ7I kZ7 gy6 gL8_0 gL8_1 gL8_2 gL8_3 gL8_4 gL8_5 q9
    replace hP := zl_e2 hP (Eq.symm q9)
    clear q9
    have hZ7K : zK [11, 44, 48, 49, 200] Z Z7 := zK_t hZ4K kZ7 (by decide)
    refine fc_147_3  _ _ _ _ hL8 ?_
    exact zlV hP ⟨hZ7I, hZ7K, by omega, by omega, by omega, by omega, by omega⟩
  · replace hP := zE_n hP h2
    refine sl_147_1 (ν := ν) sn hZ zK_r hb tsn rsn (x1 := 2) (by omega) (x2 := 0) (by omega) (kc4 := Z 200 0 0 2) (kc3 := Z 200 0 0 1) (kc2 := Z 11 hb 0 9) (kc1 := Z 11 hb 0 8) (kc0 := Z 11 hb 0 3) (by omega) (by omega) (by omega) (by omega) (by omega) (by omega) (by omega) (zconso rfl (zconso (zvo (show (2 : Int32) = i3 2 from rfl)) (zconso (zvo (show (0 : Int32) = i3 0 from rfl)) (zconso rfl (zconso rfl (zconso rfl rfl)))))) rfl ?_
    intro L11 Z10 y9 hL11 hZ10I kZ10 gy9 gL11_0 gL11_1 gL11_2 gL11_3 gL11_4 gL11_5 gL11_6 q9
    replace hP := zl_e2 hP (Eq.symm q9)
    clear q9
    have hZ10K : zK [11, 44, 48, 49, 200] Z Z10 := zK_t zK_r kZ10 (by decide)
    refine fc_147_4 _ (i3 2) _ _ _ _ hL11 ?_
    refine sl_147_2 (ν := ν) sn hZ10I zK_r hb tsn rsn (x1 := 2) (by omega) (x2 := 0) (by omega) (kc4 := Z10 200 0 0 2) (kc3 := Z10 200 0 0 1) (kc2 := Z10 11 hb 0 9) (kc1 := Z10 11 hb 0 8) (kc0 := Z10 11 hb 0 3) (by omega) (by omega) (by omega) (by omega) (by omega) (by omega) (zconso rfl (zconso (zvo (rfl : i3 2 = i3 2)) (zconso (zvo (show (0 : Int32) = i3 0 from rfl)) (zconso rfl (zconso rfl (zconso rfl rfl)))))) rfl ?_
    intro L14 Z13 y12 hL14 hZ13I kZ13 gy12 gL14_0 gL14_1 gL14_2 gL14_3 gL14_4 gL14_5 q9
    replace hP := zl_e2 hP (Eq.symm q9)
    clear q9
    have hZ13K : zK [11, 44, 48, 49, 200] Z Z13 := zK_t hZ10K kZ13 (by decide)
    refine fc_147_3  _ _ _ _ hL14 ?_
    exact zlV hP ⟨hZ13I, hZ13K, by omega, by omega, by omega, by omega, by omega⟩

/- yX8_tellCarriers -/
def zl_146_1 (x0 : Int) (hb : Int) (x1 : Int) : Nat → qz_Z → Int → qz_Z × Int
  | 0, Z, x2 => (Z, x2)
  | m + 1, Z, x2 => (if 5 < x2 then (Z, x2) else (zlet (zu Z 200 x0 0 2 (((25173 * (Z 200 x0 0 2)) + 13849) % 65536)) (fun Z3 => (zlet (zu Z3 40 hb x1 x2 (1 + (((Z3 200 x0 0 2) / 16) % 12))) (fun Z11 => (zlet (zu Z11 40 hb x2 x1 (1 + (((Z3 200 x0 0 2) / 16) % 12))) (fun Z17 => zl_146_1 x0 hb x1 m Z17 (x2 + 1))))))))
theorem sl_146_1 {Zs Z : qz_Z} {ν : qz_N} (x0 : Nat) (hZ : zI (some (some (x0 : Int))) Z) (hK : zK [40, 200] Zs Z) (hb : Nat) (tsn : ∀ Z, qz_tag (zm Z ν) (200, x0, 0) = 2) (rsn : ∀ Z, qz_rm (zm Z ν) 200 x0 0 0 = some (10, hb, 0)) {x1 : Int} (gx1 : 0 ≤ x1 ∧ x1 ≤ 5) {x2 : Int} (gx2 : 1 ≤ x2 ∧ x2 ≤ 6) {kc0 : Int} {kc1 : Int} {kc2 : Int} {kc3 : Int} {kc4 : Int} (gr0 : 1 ≤ (x0 : Int)) (gr1 : Z 11 hb 0 3 = kc0) (gr2 : Z 11 hb 0 8 = kc1) (gr3 : Z 11 hb 0 9 = kc2) (gr4 : Z 200 0 0 1 = kc3) (gr5 : Z 200 0 0 2 = kc4) {k : wz_K} {R : wz_R} {L : qz_L} (hL : qz_fg [true, true, true] L = [some (.inr (.inr (some (200, x0, 0)))), some (.inl (i3 x1)), some (.inl (i3 x2))]) {T : qz_Z × Int} (hP : zE T (zl_146_1 x0 hb x1 ((6 - x2).toNat + 1) Z x2)) (hk : ∀ (L9 : qz_L) (Z9 : qz_Z) (yx2 : Int), qz_fg [true, true, false] L9 = [some (.inr (.inr (some (200, x0, 0)))), some (.inl (i3 x1)), none] → zI (some (some (x0 : Int))) Z9 → zK [40, 200] Zs Z9 → (1 ≤ yx2 ∧ yx2 ≤ 6) → (1 ≤ (x0 : Int)) → (Z9 11 hb 0 3 = kc0) → (Z9 11 hb 0 8 = kc1) → (Z9 11 hb 0 9 = kc2) → (Z9 200 0 0 1 = kc3) → (Z9 200 0 0 2 = kc4) → zE T ((Z9, yx2)) → k 0 (L9, [], zm Z9 ν)) : wz_loop qb_146_1 65536 k R (L, [], zm Z ν) := by
  refine wz_lp sb_146_1 (fun m x => ∃ Z : qz_Z, ∃ x2 : Int, qz_fg [true, true, true] x.1 = [some (.inr (.inr (some (200, x0, 0)))), some (.inl (i3 x1)), some (.inl (i3 x2))] ∧ x.2 = ([], zm Z ν) ∧ zI (some (some (x0 : Int))) Z ∧ zK [40, 200] Zs Z ∧ m = (6 - x2).toNat ∧ (1 ≤ x2 ∧ x2 ≤ 6) ∧ (1 ≤ (x0 : Int)) ∧ (Z 11 hb 0 3 = kc0) ∧ (Z 11 hb 0 8 = kc1) ∧ (Z 11 hb 0 9 = kc2) ∧ (Z 200 0 0 1 = kc3) ∧ (Z 200 0 0 2 = kc4) ∧ zE T (zl_146_1 x0 hb x1 (m + 1) Z x2)) ?_ 65536 ((6 - x2).toNat) _ (by omega) ⟨Z, x2, hL, rfl, hZ, hK, rfl, gx2, gr0, gr1, gr2, gr3, gr4, gr5, hP⟩
  clear hP gr0 gr1 gr2 gr3 gr4 gr5 gx2 hZ hK hL
  clear x2
  clear Z
  rintro m ⟨L, st, μ⟩ ⟨Z, x2, hL, hx, hZ, hK, hm, gx2, gr0, gr1, gr2, gr3, gr4, gr5, hP⟩
  cases hx
  refine fb_146_1 x0 (i3 x1) (i3 x2) _ _ _ _ hL ?_
  have rs := zI_xs (n := x0) hZ
  refine wz_br (i3L (show (5 : Int32) = i3 5 from rfl) (rfl : i3 x2 = i3 x2) (by omega) (by omega) (by omega) (by omega)) (fun h1 => ?_) (fun h1 => ?_)
  · replace hP := zE_p hP h1
    exact hk _ _ _ (zconso rfl (zconso (zvo (rfl : i3 x1 = i3 x1)) (zconso rfl rfl))) hZ hK (by omega) (by omega) (by omega) (by omega) (by omega) (by omega) (by omega) hP
  · replace hP := zE_n hP h1
    refine wz_i1 (by rw [tsn]; rfl) ?_
    refine wz_rko (rsn _) ?_
    refine wz_i1 (by rw [tsn]; rfl) ?_
    refine wz_i1 (by rw [tsn]; rfl) ?_
    refine wz_i1 (by rw [tsn]; rfl) ?_
    have r2 := zI_xr (n := x0) hZ
    obtain ⟨Z3, hZ3⟩ := zx (zu Z 200 x0 0 2 (((25173 * (Z 200 x0 0 2)) + 13849) % 65536))
    replace hP := zl_e hP hZ3
    have hZ3I := zI_x hZ hZ3 (by omega)
    have t4 : Z3 11 hb 0 3 = Z 11 hb 0 3 := zu_ne hZ3 (fun q => absurd q.1 (by decide))
    have t5 : Z3 11 hb 0 8 = Z 11 hb 0 8 := zu_ne hZ3 (fun q => absurd q.1 (by decide))
    have t6 : Z3 11 hb 0 9 = Z 11 hb 0 9 := zu_ne hZ3 (fun q => absurd q.1 (by decide))
    have t7 : Z3 200 0 0 1 = Z 200 0 0 1 := zu_ne hZ3 (fun q => absurd q.2.2.2 (by decide))
    have t8 : Z3 200 0 0 2 = Z 200 0 0 2 := zu_ne hZ3 (by omega)
    have hZ3K := zK_u hK hZ3 (by decide)
    intro μ9 e9
    replace e9 := e9.trans (zm_wI (Z := Z) (ν := ν) hZ3 (rfl : ((x0 : Nat) : Int) = x0) (show ((0 : Nat) : Int) = 0 from rfl) (show ((2 : Nat) : Int) = 2 from rfl) (i3R (i3A (i3M (show (25173 : Int32) = i3 25173 from rfl) (zm_rd (Z := Z) (ν := ν) (k := 200) (rfl : ((x0 : Nat) : Int) = x0) (show ((0 : Nat) : Int) = 0 from rfl) (show ((2 : Nat) : Int) = 2 from rfl))) (show (13849 : Int32) = i3 13849 from rfl)) (show (65536 : Int32) = i3 65536 from rfl) (by omega) (by omega) (by omega) (by omega)))
    subst e9
    refine wz_i1 (by rw [tsn]; rfl) ?_
    refine wz_i1 rfl ?_
    refine wz_rko (r := (20, _, _)) rfl ?_
    refine wz_i1 rfl ?_
    refine wz_i0 (i3O (n := 6) (rfl : i3 x1 = i3 x1) (by omega) (by omega) (by omega)) ?_
    refine wz_rko (r := (40, _, _)) rfl ?_
    refine wz_i1 rfl ?_
    refine wz_i0 (i3O (n := 6) (rfl : i3 x2 = i3 x2) (by omega) (by omega) (by omega)) ?_
    refine wz_i1 rfl ?_
    refine wz_rko (r := (20, _, _)) rfl ?_
    refine wz_i1 rfl ?_
    refine wz_i0 (i3O (n := 6) (rfl : i3 x1 = i3 x1) (by omega) (by omega) (by omega)) ?_
    refine wz_rko (r := (40, _, _)) rfl ?_
    refine wz_i1 rfl ?_
    refine wz_i0 (i3O (n := 6) (rfl : i3 x2 = i3 x2) (by omega) (by omega) (by omega)) ?_
    have r9 := zI_xr (n := x0) hZ3I
    have q10 := zu_at hZ3
    obtain ⟨Z11, hZ11⟩ := zx (zu Z3 40 hb x1 x2 (1 + (((Z3 200 x0 0 2) / 16) % 12)))
    replace hP := zl_e hP hZ11
    have hZ11I := zI_u hZ3I hZ11 (lo := 0) (hi := 12) (by decide) (zrc_40 (by omega) (by omega)) (by omega) ⟨by decide, by decide⟩ (Or.inl (by decide))
    have t12 : Z11 11 hb 0 3 = Z3 11 hb 0 3 := zu_ne hZ11 (fun q => absurd q.1 (by decide))
    have t13 : Z11 11 hb 0 8 = Z3 11 hb 0 8 := zu_ne hZ11 (fun q => absurd q.1 (by decide))
    have t14 : Z11 11 hb 0 9 = Z3 11 hb 0 9 := zu_ne hZ11 (fun q => absurd q.1 (by decide))
    have t15 : Z11 200 0 0 1 = Z3 200 0 0 1 := zu_ne hZ11 (fun q => absurd q.1 (by decide))
    have t16 : Z11 200 0 0 2 = Z3 200 0 0 2 := zu_ne hZ11 (fun q => absurd q.1 (by decide))
    have hZ11K := zK_u hZ3K hZ11 (by decide)
    intro μ9 e9
    replace e9 := e9.trans (zm_wI (Z := Z3) (ν := ν) hZ11 (rfl : ((hb : Nat) : Int) = hb) (i3I (y := x1) (rfl : i3 x1 = i3 x1) (by omega) (by omega) (by omega)) (i3I (y := x2) (rfl : i3 x2 = i3 x2) (by omega) (by omega) (by omega)) (i3A (show (1 : Int32) = i3 1 from rfl) (i3R (i3D (zm_rd (Z := Z3) (ν := ν) (k := 200) (rfl : ((x0 : Nat) : Int) = x0) (show ((0 : Nat) : Int) = 0 from rfl) (show ((2 : Nat) : Int) = 2 from rfl)) (show (16 : Int32) = i3 16 from rfl) (by omega) (by omega) (by omega) (by omega)) (show (12 : Int32) = i3 12 from rfl) (by omega) (by omega) (by omega) (by omega))))
    subst e9
    refine wz_i1 rfl ?_
    refine wz_rko (r := (20, _, _)) rfl ?_
    refine wz_i1 rfl ?_
    refine wz_i0 (i3O (n := 6) (rfl : i3 x2 = i3 x2) (by omega) (by omega) (by omega)) ?_
    refine wz_rko (r := (40, _, _)) rfl ?_
    refine wz_i1 rfl ?_
    refine wz_i0 (i3O (n := 6) (rfl : i3 x1 = i3 x1) (by omega) (by omega) (by omega)) ?_
    obtain ⟨Z17, hZ17⟩ := zx (zu Z11 40 hb x2 x1 (1 + (((Z3 200 x0 0 2) / 16) % 12)))
    replace hP := zl_e hP hZ17
    have hZ17I := zI_u hZ11I hZ17 (lo := 0) (hi := 12) (by decide) (zrc_40 (by omega) (by omega)) (by omega) ⟨by decide, by decide⟩ (Or.inl (by decide))
    have t18 : Z17 11 hb 0 3 = Z11 11 hb 0 3 := zu_ne hZ17 (fun q => absurd q.1 (by decide))
    have t19 : Z17 11 hb 0 8 = Z11 11 hb 0 8 := zu_ne hZ17 (fun q => absurd q.1 (by decide))
    have t20 : Z17 11 hb 0 9 = Z11 11 hb 0 9 := zu_ne hZ17 (fun q => absurd q.1 (by decide))
    have t21 : Z17 200 0 0 1 = Z11 200 0 0 1 := zu_ne hZ17 (fun q => absurd q.1 (by decide))
    have t22 : Z17 200 0 0 2 = Z11 200 0 0 2 := zu_ne hZ17 (fun q => absurd q.1 (by decide))
    have hZ17K := zK_u hZ11K hZ17 (by decide)
    intro μ9 e9
    replace e9 := e9.trans (zm_wI (Z := Z11) (ν := ν) hZ17 (rfl : ((hb : Nat) : Int) = hb) (i3I (y := x2) (rfl : i3 x2 = i3 x2) (by omega) (by omega) (by omega)) (i3I (y := x1) (rfl : i3 x1 = i3 x1) (by omega) (by omega) (by omega)) (i3A (show (1 : Int32) = i3 1 from rfl) (i3R (i3D (zm_rd (Z := Z3) (ν := ν) (k := 200) (rfl : ((x0 : Nat) : Int) = x0) (show ((0 : Nat) : Int) = 0 from rfl) (show ((2 : Nat) : Int) = 2 from rfl)) (show (16 : Int32) = i3 16 from rfl) (by omega) (by omega) (by omega) (by omega)) (show (12 : Int32) = i3 12 from rfl) (by omega) (by omega) (by omega) (by omega))))
    subst e9
    obtain ⟨m2, rfl⟩ : ∃ m2, m = m2 + 1 := ⟨m - 1, by omega⟩
    exact wz_k1 ⟨m2, by omega, Z17, (x2 + 1), (zconso rfl (zconso (zvo (rfl : i3 x1 = i3 x1)) (zconso (zvo (i3A (rfl : i3 x2 = i3 x2) (show (1 : Int32) = i3 1 from rfl))) rfl))), rfl, hZ17I, hZ17K, by omega, by omega, by omega, by omega, by omega, by omega, by omega, by omega,  hP⟩

/- yX8_tellCarriers -/
def zl_146_3 (x0 : Int) (hb : Int) : Nat → qz_Z → Int → qz_Z × Int
  | 0, Z, x1 => (Z, x1)
  | m + 1, Z, x1 => (if 5 < x1 then (Z, x1) else (zlet2 (zl_146_1 x0 hb x1 ((6 - (x1 + 1)).toNat + 1) Z (x1 + 1)) (fun Z3 y2 => zl_146_3 x0 hb m Z3 (x1 + 1))))
theorem sl_146_3 {Zs Z : qz_Z} {ν : qz_N} (x0 : Nat) (hZ : zI (some (some (x0 : Int))) Z) (hK : zK [40, 200] Zs Z) (hb : Nat) (tsn : ∀ Z, qz_tag (zm Z ν) (200, x0, 0) = 2) (rsn : ∀ Z, qz_rm (zm Z ν) 200 x0 0 0 = some (10, hb, 0)) {x1 : Int} (gx1 : 0 ≤ x1 ∧ x1 ≤ 6) {kc0 : Int} {kc1 : Int} {kc2 : Int} {kc3 : Int} {kc4 : Int} (gr0 : 1 ≤ (x0 : Int)) (gr1 : Z 11 hb 0 3 = kc0) (gr2 : Z 11 hb 0 8 = kc1) (gr3 : Z 11 hb 0 9 = kc2) (gr4 : Z 200 0 0 1 = kc3) (gr5 : Z 200 0 0 2 = kc4) {k : wz_K} {R : wz_R} {L : qz_L} (hL : qz_fg [true, true, false] L = [some (.inr (.inr (some (200, x0, 0)))), some (.inl (i3 x1)), none]) {T : qz_Z × Int} (hP : zE T (zl_146_3 x0 hb ((6 - x1).toNat + 1) Z x1)) (hk : ∀ (L9 : qz_L) (Z9 : qz_Z) (yx1 : Int), qz_fg [true, false, false] L9 = [some (.inr (.inr (some (200, x0, 0)))), none, none] → zI (some (some (x0 : Int))) Z9 → zK [40, 200] Zs Z9 → (0 ≤ yx1 ∧ yx1 ≤ 6) → (1 ≤ (x0 : Int)) → (Z9 11 hb 0 3 = kc0) → (Z9 11 hb 0 8 = kc1) → (Z9 11 hb 0 9 = kc2) → (Z9 200 0 0 1 = kc3) → (Z9 200 0 0 2 = kc4) → zE T ((Z9, yx1)) → k 0 (L9, [], zm Z9 ν)) : wz_loop qb_146_3 65536 k R (L, [], zm Z ν) := by
  refine wz_lp sb_146_3 (fun m x => ∃ Z : qz_Z, ∃ x1 : Int, qz_fg [true, true, false] x.1 = [some (.inr (.inr (some (200, x0, 0)))), some (.inl (i3 x1)), none] ∧ x.2 = ([], zm Z ν) ∧ zI (some (some (x0 : Int))) Z ∧ zK [40, 200] Zs Z ∧ m = (6 - x1).toNat ∧ (0 ≤ x1 ∧ x1 ≤ 6) ∧ (1 ≤ (x0 : Int)) ∧ (Z 11 hb 0 3 = kc0) ∧ (Z 11 hb 0 8 = kc1) ∧ (Z 11 hb 0 9 = kc2) ∧ (Z 200 0 0 1 = kc3) ∧ (Z 200 0 0 2 = kc4) ∧ zE T (zl_146_3 x0 hb (m + 1) Z x1)) ?_ 65536 ((6 - x1).toNat) _ (by omega) ⟨Z, x1, hL, rfl, hZ, hK, rfl, gx1, gr0, gr1, gr2, gr3, gr4, gr5, hP⟩
  clear hP gr0 gr1 gr2 gr3 gr4 gr5 gx1 hZ hK hL
  clear x1
  clear Z
  rintro m ⟨L, st, μ⟩ ⟨Z, x1, hL, hx, hZ, hK, hm, gx1, gr0, gr1, gr2, gr3, gr4, gr5, hP⟩
  cases hx
  refine fb_146_3 x0 (i3 x1) _ _ _ _ hL ?_
  have rs := zI_xs (n := x0) hZ
  refine wz_br (i3L (show (5 : Int32) = i3 5 from rfl) (rfl : i3 x1 = i3 x1) (by omega) (by omega) (by omega) (by omega)) (fun h1 => ?_) (fun h1 => ?_)
  · replace hP := zE_p hP h1
    exact hk _ _ _ (zconso rfl (zconso rfl (zconso rfl rfl))) hZ hK (by omega) (by omega) (by omega) (by omega) (by omega) (by omega) (by omega) hP
  · replace hP := zE_n hP h1
    refine sl_146_1 (ν := ν) x0 hZ zK_r hb tsn rsn (x1 := x1) (by omega) (x2 := (x1 + 1)) (by omega) (kc4 := Z 200 0 0 2) (kc3 := Z 200 0 0 1) (kc2 := Z 11 hb 0 9) (kc1 := Z 11 hb 0 8) (kc0 := Z 11 hb 0 3) (by omega) (by omega) (by omega) (by omega) (by omega) (by omega) (zconso rfl (zconso (zvo (rfl : i3 x1 = i3 x1)) (zconso (zvo (i3A (rfl : i3 x1 = i3 x1) (show (1 : Int32) = i3 1 from rfl))) rfl))) rfl ?_
    intro L4 Z3 y2 hL4 hZ3I kZ3 gy2 gL4_0 gL4_1 gL4_2 gL4_3 gL4_4 gL4_5 q9
    replace hP := zl_e2 hP (Eq.symm q9)
    clear q9
    have hZ3K : zK [40, 200] Zs Z3 := zK_t hK kZ3 (by decide)
    refine fc_146_2 _ (i3 x1) _ _ _ _ hL4 ?_
    obtain ⟨m2, rfl⟩ : ∃ m2, m = m2 + 1 := ⟨m - 1, by omega⟩
    refine wz_kbs (n := 1) (?_)
    exact wz_k1 ⟨m2, by omega, Z3, (x1 + 1), (zconso rfl (zconso (zvo (i3A (rfl : i3 x1 = i3 x1) (show (1 : Int32) = i3 1 from rfl))) (zconso rfl rfl))), rfl, hZ3I, hZ3K, by omega, by omega, by omega, by omega, by omega, by omega, by omega, by omega,  hP⟩

