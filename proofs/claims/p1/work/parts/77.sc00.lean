/-! a season told, the class (printed by season.py c) -/
/- yX8_tellGoods -/
def zl_148_1 (x0 : Int) (hb : Int) (x1 : Int) : Nat → qz_Z → Int → qz_Z × Int
  | 0, Z, x2 => (Z, x2)
  | m + 1, Z, x2 => (if x1 ≤ x2 then (Z, x2) else (zlet (zu Z 200 x0 0 2 (((25173 * (Z 200 x0 0 2)) + 13849) % 65536)) (fun Z3 => (zlet (zu Z3 200 x0 0 2 (((25173 * (Z3 200 x0 0 2)) + 13849) % 65536)) (fun Z18 => (zlet (zu Z18 200 x0 0 2 (((25173 * (Z18 200 x0 0 2)) + 13849) % 65536)) (fun Z33 => (zlet (zu Z33 200 x0 0 2 (((25173 * (Z33 200 x0 0 2)) + 13849) % 65536)) (fun Z48 => (zlet (zu Z48 200 x0 0 2 (((25173 * (Z48 200 x0 0 2)) + 13849) % 65536)) (fun Z63 => (zlet (zu Z63 41 hb (Z63 11 hb 0 0) 0 (1 + (((Z3 200 x0 0 2) / 16) % 9))) (fun Z77 => (zlet (zu Z77 41 hb (Z63 11 hb 0 0) 1 (((Z18 200 x0 0 2) / 16) % 13)) (fun Z90 => (zlet (zu Z90 41 hb (Z63 11 hb 0 0) 2 (((Z33 200 x0 0 2) / 16) % 13)) (fun Z103 => (zlet (zu Z103 41 hb (Z63 11 hb 0 0) 3 (100 + (((Z48 200 x0 0 2) / 16) % 501))) (fun Z116 => (zlet (zu Z116 41 hb (Z63 11 hb 0 0) 4 (10 + (((Z63 200 x0 0 2) / 16) % 90))) (fun Z131 => (zlet (zu Z131 11 hb 0 0 ((Z131 11 hb 0 0) + 1)) (fun Z146 => zl_148_1 x0 hb x1 m Z146 (x2 + 1))))))))))))))))))))))))
theorem sl_148_1 {Zs Z : qz_Z} {ν : qz_N} (x0 : Nat) (hZ : zI (some (some (x0 : Int))) Z) (hK : zK [11, 41, 200] Zs Z) (hb : Nat) (tsn : ∀ Z, qz_tag (zm Z ν) (200, x0, 0) = 2) (rsn : ∀ Z, qz_rm (zm Z ν) 200 x0 0 0 = some (10, hb, 0)) {x1 : Int} (gx1 : 2 ≤ x1 ∧ x1 ≤ 5) {x2 : Int} (gx2 : 0 ≤ x2 ∧ x2 ≤ 5) {kc0 : Int} {kc1 : Int} {kc2 : Int} {kc3 : Int} {kc4 : Int} {kc5 : Int} {kc6 : Int} {kc7 : Int} {kc8 : Int} {kc9 : Int} {kc10 : Int} (gr0 : Z 11 hb 0 0 = x2) (gr1 : 1 ≤ (x0 : Int)) (gr2 : Z 11 hb 0 1 = kc0) (gr3 : Z 11 hb 0 3 = kc1) (gr4 : Z 11 hb 0 2 = kc2) (gr5 : Z 11 hb 0 4 = kc3) (gr6 : Z 11 hb 0 5 = kc4) (gr7 : Z 11 hb 0 7 = kc5) (gr8 : Z 11 hb 0 8 = kc6) (gr9 : Z 11 hb 0 9 = kc7) (gr10 : Z 200 0 0 1 = kc8) (gr11 : Z 200 0 0 2 = kc9) (gr12 : Z 200 x0 0 1 = kc10) {k : wz_K} {R : wz_R} {L : qz_L} (hL : qz_fg [true, true, true, false, false, false, false, false, false, false] L = [some (.inr (.inr (some (200, x0, 0)))), some (.inl (i3 x1)), some (.inl (i3 x2)), none, none, none, none, none, none, none]) {T : qz_Z × Int} (hP : zE T (zl_148_1 x0 hb x1 ((5 - x2).toNat + 1) Z x2)) (hk : ∀ (L9 : qz_L) (Z9 : qz_Z) (yx2 : Int), qz_fg [true, true, false, false, false, false, false, false, false, false] L9 = [some (.inr (.inr (some (200, x0, 0)))), some (.inl (i3 x1)), none, none, none, none, none, none, none, none] → zI (some (some (x0 : Int))) Z9 → zK [11, 41, 200] Zs Z9 → (0 ≤ yx2 ∧ yx2 ≤ 5) → (Z9 11 hb 0 0 = yx2) → (1 ≤ (x0 : Int)) → (Z9 11 hb 0 1 = kc0) → (Z9 11 hb 0 3 = kc1) → (Z9 11 hb 0 2 = kc2) → (Z9 11 hb 0 4 = kc3) → (Z9 11 hb 0 5 = kc4) → (Z9 11 hb 0 7 = kc5) → (Z9 11 hb 0 8 = kc6) → (Z9 11 hb 0 9 = kc7) → (Z9 200 0 0 1 = kc8) → (Z9 200 0 0 2 = kc9) → (Z9 200 x0 0 1 = kc10) → zE T ((Z9, yx2)) → k 0 (L9, [], zm Z9 ν)) : wz_loop qb_148_1 65536 k R (L, [], zm Z ν) := by
  refine wz_lp sb_148_1 (fun m x => ∃ Z : qz_Z, ∃ x2 : Int, qz_fg [true, true, true, false, false, false, false, false, false, false] x.1 = [some (.inr (.inr (some (200, x0, 0)))), some (.inl (i3 x1)), some (.inl (i3 x2)), none, none, none, none, none, none, none] ∧ x.2 = ([], zm Z ν) ∧ zI (some (some (x0 : Int))) Z ∧ zK [11, 41, 200] Zs Z ∧ m = (5 - x2).toNat ∧ (0 ≤ x2 ∧ x2 ≤ 5) ∧ (Z 11 hb 0 0 = x2) ∧ (1 ≤ (x0 : Int)) ∧ (Z 11 hb 0 1 = kc0) ∧ (Z 11 hb 0 3 = kc1) ∧ (Z 11 hb 0 2 = kc2) ∧ (Z 11 hb 0 4 = kc3) ∧ (Z 11 hb 0 5 = kc4) ∧ (Z 11 hb 0 7 = kc5) ∧ (Z 11 hb 0 8 = kc6) ∧ (Z 11 hb 0 9 = kc7) ∧ (Z 200 0 0 1 = kc8) ∧ (Z 200 0 0 2 = kc9) ∧ (Z 200 x0 0 1 = kc10) ∧ zE T (zl_148_1 x0 hb x1 (m + 1) Z x2)) ?_ 65536 ((5 - x2).toNat) _ (by omega) ⟨Z, x2, hL, rfl, hZ, hK, rfl, gx2, gr0, gr1, gr2, gr3, gr4, gr5, gr6, gr7, gr8, gr9, gr10, gr11, gr12, hP⟩
  clear hP gr0 gr1 gr2 gr3 gr4 gr5 gr6 gr7 gr8 gr9 gr10 gr11 gr12 gx2 hZ hK hL
  clear x2
  clear Z
  rintro m ⟨L, st, μ⟩ ⟨Z, x2, hL, hx, hZ, hK, hm, gx2, gr0, gr1, gr2, gr3, gr4, gr5, gr6, gr7, gr8, gr9, gr10, gr11, gr12, hP⟩
  cases hx
  refine fb_148_1 x0 (i3 x1) (i3 x2) _ _ _ _ hL ?_
  have rs := zI_xs (n := x0) hZ
  refine wz_br (i3Le (rfl : i3 x1 = i3 x1) (rfl : i3 x2 = i3 x2) (by omega) (by omega) (by omega) (by omega)) (fun h1 => ?_) (fun h1 => ?_)
  · replace hP := zE_p hP h1
    exact hk _ _ _ (zconso rfl (zconso (zvo (rfl : i3 x1 = i3 x1)) (zconso rfl (zconso rfl (zconso rfl (zconso rfl (zconso rfl (zconso rfl (zconso rfl (zconso rfl rfl)))))))))) hZ hK (by omega) (by omega) (by omega) (by omega) (by omega) (by omega) (by omega) (by omega) (by omega) (by omega) (by omega) (by omega) (by omega) (by omega) hP
  · replace hP := zE_n hP h1
    refine wz_i1 (by rw [tsn]; rfl) ?_
    refine wz_rko (rsn _) ?_
    refine wz_i1 (by rw [tsn]; rfl) ?_
    refine wz_i1 (by rw [tsn]; rfl) ?_
    refine wz_i1 (by rw [tsn]; rfl) ?_
    have r2 := zI_xr (n := x0) hZ
    obtain ⟨Z3, hZ3⟩ := zx (zu Z 200 x0 0 2 (((25173 * (Z 200 x0 0 2)) + 13849) % 65536))
    replace hP := zl_e hP hZ3
    have hZ3I := zI_x hZ hZ3 (by omega)
    have t4 : Z3 11 hb 0 1 = Z 11 hb 0 1 := zu_ne hZ3 (fun q => absurd q.1 (by decide))
    have t5 : Z3 11 hb 0 3 = Z 11 hb 0 3 := zu_ne hZ3 (fun q => absurd q.1 (by decide))
    have t6 : Z3 11 hb 0 2 = Z 11 hb 0 2 := zu_ne hZ3 (fun q => absurd q.1 (by decide))
    have t7 : Z3 11 hb 0 4 = Z 11 hb 0 4 := zu_ne hZ3 (fun q => absurd q.1 (by decide))
    have t8 : Z3 11 hb 0 5 = Z 11 hb 0 5 := zu_ne hZ3 (fun q => absurd q.1 (by decide))
    have t9 : Z3 11 hb 0 7 = Z 11 hb 0 7 := zu_ne hZ3 (fun q => absurd q.1 (by decide))
    have t10 : Z3 11 hb 0 8 = Z 11 hb 0 8 := zu_ne hZ3 (fun q => absurd q.1 (by decide))
    have t11 : Z3 11 hb 0 9 = Z 11 hb 0 9 := zu_ne hZ3 (fun q => absurd q.1 (by decide))
    have t12 : Z3 11 hb 0 0 = Z 11 hb 0 0 := zu_ne hZ3 (fun q => absurd q.1 (by decide))
    have t13 : Z3 200 0 0 1 = Z 200 0 0 1 := zu_ne hZ3 (fun q => absurd q.2.2.2 (by decide))
    have t14 : Z3 200 0 0 2 = Z 200 0 0 2 := zu_ne hZ3 (by omega)
    have t15 : Z3 200 x0 0 1 = Z 200 x0 0 1 := zu_ne hZ3 (fun q => absurd q.2.2.2 (by decide))
    have hZ3K := zK_u hK hZ3 (by decide)
    intro μ9 e9
    replace e9 := e9.trans (zm_wI (Z := Z) (ν := ν) hZ3 (rfl : ((x0 : Nat) : Int) = x0) (show ((0 : Nat) : Int) = 0 from rfl) (show ((2 : Nat) : Int) = 2 from rfl) (i3R (i3A (i3M (show (25173 : Int32) = i3 25173 from rfl) (zm_rd (Z := Z) (ν := ν) (k := 200) (rfl : ((x0 : Nat) : Int) = x0) (show ((0 : Nat) : Int) = 0 from rfl) (show ((2 : Nat) : Int) = 2 from rfl))) (show (13849 : Int32) = i3 13849 from rfl)) (show (65536 : Int32) = i3 65536 from rfl) (by omega) (by omega) (by omega) (by omega)))
    subst e9
    refine wz_i1 (by rw [tsn]; rfl) ?_
    refine wz_i1 (by rw [tsn]; rfl) ?_
    refine wz_i1 (by rw [tsn]; rfl) ?_
    refine wz_i1 (by rw [tsn]; rfl) ?_
    have r16 := zI_xr (n := x0) hZ3I
    have q17 := zu_at hZ3
    obtain ⟨Z18, hZ18⟩ := zx (zu Z3 200 x0 0 2 (((25173 * (Z3 200 x0 0 2)) + 13849) % 65536))
    replace hP := zl_e hP hZ18
    have hZ18I := zI_x hZ3I hZ18 (by omega)
    have t19 : Z18 11 hb 0 1 = Z3 11 hb 0 1 := zu_ne hZ18 (fun q => absurd q.1 (by decide))
    have t20 : Z18 11 hb 0 3 = Z3 11 hb 0 3 := zu_ne hZ18 (fun q => absurd q.1 (by decide))
    have t21 : Z18 11 hb 0 2 = Z3 11 hb 0 2 := zu_ne hZ18 (fun q => absurd q.1 (by decide))
    have t22 : Z18 11 hb 0 4 = Z3 11 hb 0 4 := zu_ne hZ18 (fun q => absurd q.1 (by decide))
    have t23 : Z18 11 hb 0 5 = Z3 11 hb 0 5 := zu_ne hZ18 (fun q => absurd q.1 (by decide))
    have t24 : Z18 11 hb 0 7 = Z3 11 hb 0 7 := zu_ne hZ18 (fun q => absurd q.1 (by decide))
    have t25 : Z18 11 hb 0 8 = Z3 11 hb 0 8 := zu_ne hZ18 (fun q => absurd q.1 (by decide))
    have t26 : Z18 11 hb 0 9 = Z3 11 hb 0 9 := zu_ne hZ18 (fun q => absurd q.1 (by decide))
    have t27 : Z18 11 hb 0 0 = Z3 11 hb 0 0 := zu_ne hZ18 (fun q => absurd q.1 (by decide))
    have t28 : Z18 200 0 0 1 = Z3 200 0 0 1 := zu_ne hZ18 (fun q => absurd q.2.2.2 (by decide))
    have t29 : Z18 200 0 0 2 = Z3 200 0 0 2 := zu_ne hZ18 (by omega)
    have t30 : Z18 200 x0 0 1 = Z3 200 x0 0 1 := zu_ne hZ18 (fun q => absurd q.2.2.2 (by decide))
    have hZ18K := zK_u hZ3K hZ18 (by decide)
    intro μ9 e9
    replace e9 := e9.trans (zm_wI (Z := Z3) (ν := ν) hZ18 (rfl : ((x0 : Nat) : Int) = x0) (show ((0 : Nat) : Int) = 0 from rfl) (show ((2 : Nat) : Int) = 2 from rfl) (i3R (i3A (i3M (show (25173 : Int32) = i3 25173 from rfl) (zm_rd (Z := Z3) (ν := ν) (k := 200) (rfl : ((x0 : Nat) : Int) = x0) (show ((0 : Nat) : Int) = 0 from rfl) (show ((2 : Nat) : Int) = 2 from rfl))) (show (13849 : Int32) = i3 13849 from rfl)) (show (65536 : Int32) = i3 65536 from rfl) (by omega) (by omega) (by omega) (by omega)))
    subst e9
    refine wz_i1 (by rw [tsn]; rfl) ?_
    refine wz_i1 (by rw [tsn]; rfl) ?_
    refine wz_i1 (by rw [tsn]; rfl) ?_
    refine wz_i1 (by rw [tsn]; rfl) ?_
    have r31 := zI_xr (n := x0) hZ18I
    have q32 := zu_at hZ18
    obtain ⟨Z33, hZ33⟩ := zx (zu Z18 200 x0 0 2 (((25173 * (Z18 200 x0 0 2)) + 13849) % 65536))
    replace hP := zl_e hP hZ33
    have hZ33I := zI_x hZ18I hZ33 (by omega)
    have t34 : Z33 11 hb 0 1 = Z18 11 hb 0 1 := zu_ne hZ33 (fun q => absurd q.1 (by decide))
    have t35 : Z33 11 hb 0 3 = Z18 11 hb 0 3 := zu_ne hZ33 (fun q => absurd q.1 (by decide))
    have t36 : Z33 11 hb 0 2 = Z18 11 hb 0 2 := zu_ne hZ33 (fun q => absurd q.1 (by decide))
    have t37 : Z33 11 hb 0 4 = Z18 11 hb 0 4 := zu_ne hZ33 (fun q => absurd q.1 (by decide))
    have t38 : Z33 11 hb 0 5 = Z18 11 hb 0 5 := zu_ne hZ33 (fun q => absurd q.1 (by decide))
    have t39 : Z33 11 hb 0 7 = Z18 11 hb 0 7 := zu_ne hZ33 (fun q => absurd q.1 (by decide))
    have t40 : Z33 11 hb 0 8 = Z18 11 hb 0 8 := zu_ne hZ33 (fun q => absurd q.1 (by decide))
    have t41 : Z33 11 hb 0 9 = Z18 11 hb 0 9 := zu_ne hZ33 (fun q => absurd q.1 (by decide))
    have t42 : Z33 11 hb 0 0 = Z18 11 hb 0 0 := zu_ne hZ33 (fun q => absurd q.1 (by decide))
    have t43 : Z33 200 0 0 1 = Z18 200 0 0 1 := zu_ne hZ33 (fun q => absurd q.2.2.2 (by decide))
    have t44 : Z33 200 0 0 2 = Z18 200 0 0 2 := zu_ne hZ33 (by omega)
    have t45 : Z33 200 x0 0 1 = Z18 200 x0 0 1 := zu_ne hZ33 (fun q => absurd q.2.2.2 (by decide))
    have hZ33K := zK_u hZ18K hZ33 (by decide)
    intro μ9 e9
    replace e9 := e9.trans (zm_wI (Z := Z18) (ν := ν) hZ33 (rfl : ((x0 : Nat) : Int) = x0) (show ((0 : Nat) : Int) = 0 from rfl) (show ((2 : Nat) : Int) = 2 from rfl) (i3R (i3A (i3M (show (25173 : Int32) = i3 25173 from rfl) (zm_rd (Z := Z18) (ν := ν) (k := 200) (rfl : ((x0 : Nat) : Int) = x0) (show ((0 : Nat) : Int) = 0 from rfl) (show ((2 : Nat) : Int) = 2 from rfl))) (show (13849 : Int32) = i3 13849 from rfl)) (show (65536 : Int32) = i3 65536 from rfl) (by omega) (by omega) (by omega) (by omega)))
    subst e9
    refine wz_i1 (by rw [tsn]; rfl) ?_
    refine wz_i1 (by rw [tsn]; rfl) ?_
    refine wz_i1 (by rw [tsn]; rfl) ?_
    refine wz_i1 (by rw [tsn]; rfl) ?_
    have r46 := zI_xr (n := x0) hZ33I
    have q47 := zu_at hZ33
    obtain ⟨Z48, hZ48⟩ := zx (zu Z33 200 x0 0 2 (((25173 * (Z33 200 x0 0 2)) + 13849) % 65536))
    replace hP := zl_e hP hZ48
    have hZ48I := zI_x hZ33I hZ48 (by omega)
    have t49 : Z48 11 hb 0 1 = Z33 11 hb 0 1 := zu_ne hZ48 (fun q => absurd q.1 (by decide))
    have t50 : Z48 11 hb 0 3 = Z33 11 hb 0 3 := zu_ne hZ48 (fun q => absurd q.1 (by decide))
    have t51 : Z48 11 hb 0 2 = Z33 11 hb 0 2 := zu_ne hZ48 (fun q => absurd q.1 (by decide))
    have t52 : Z48 11 hb 0 4 = Z33 11 hb 0 4 := zu_ne hZ48 (fun q => absurd q.1 (by decide))
    have t53 : Z48 11 hb 0 5 = Z33 11 hb 0 5 := zu_ne hZ48 (fun q => absurd q.1 (by decide))
    have t54 : Z48 11 hb 0 7 = Z33 11 hb 0 7 := zu_ne hZ48 (fun q => absurd q.1 (by decide))
    have t55 : Z48 11 hb 0 8 = Z33 11 hb 0 8 := zu_ne hZ48 (fun q => absurd q.1 (by decide))
    have t56 : Z48 11 hb 0 9 = Z33 11 hb 0 9 := zu_ne hZ48 (fun q => absurd q.1 (by decide))
    have t57 : Z48 11 hb 0 0 = Z33 11 hb 0 0 := zu_ne hZ48 (fun q => absurd q.1 (by decide))
    have t58 : Z48 200 0 0 1 = Z33 200 0 0 1 := zu_ne hZ48 (fun q => absurd q.2.2.2 (by decide))
    have t59 : Z48 200 0 0 2 = Z33 200 0 0 2 := zu_ne hZ48 (by omega)
    have t60 : Z48 200 x0 0 1 = Z33 200 x0 0 1 := zu_ne hZ48 (fun q => absurd q.2.2.2 (by decide))
    have hZ48K := zK_u hZ33K hZ48 (by decide)
    intro μ9 e9
    replace e9 := e9.trans (zm_wI (Z := Z33) (ν := ν) hZ48 (rfl : ((x0 : Nat) : Int) = x0) (show ((0 : Nat) : Int) = 0 from rfl) (show ((2 : Nat) : Int) = 2 from rfl) (i3R (i3A (i3M (show (25173 : Int32) = i3 25173 from rfl) (zm_rd (Z := Z33) (ν := ν) (k := 200) (rfl : ((x0 : Nat) : Int) = x0) (show ((0 : Nat) : Int) = 0 from rfl) (show ((2 : Nat) : Int) = 2 from rfl))) (show (13849 : Int32) = i3 13849 from rfl)) (show (65536 : Int32) = i3 65536 from rfl) (by omega) (by omega) (by omega) (by omega)))
    subst e9
    refine wz_i1 (by rw [tsn]; rfl) ?_
    refine wz_i1 (by rw [tsn]; rfl) ?_
    refine wz_i1 (by rw [tsn]; rfl) ?_
    refine wz_i1 (by rw [tsn]; rfl) ?_
    have r61 := zI_xr (n := x0) hZ48I
    have q62 := zu_at hZ48
    obtain ⟨Z63, hZ63⟩ := zx (zu Z48 200 x0 0 2 (((25173 * (Z48 200 x0 0 2)) + 13849) % 65536))
    replace hP := zl_e hP hZ63
    have hZ63I := zI_x hZ48I hZ63 (by omega)
    have t64 : Z63 11 hb 0 1 = Z48 11 hb 0 1 := zu_ne hZ63 (fun q => absurd q.1 (by decide))
    have t65 : Z63 11 hb 0 3 = Z48 11 hb 0 3 := zu_ne hZ63 (fun q => absurd q.1 (by decide))
    have t66 : Z63 11 hb 0 2 = Z48 11 hb 0 2 := zu_ne hZ63 (fun q => absurd q.1 (by decide))
    have t67 : Z63 11 hb 0 4 = Z48 11 hb 0 4 := zu_ne hZ63 (fun q => absurd q.1 (by decide))
    have t68 : Z63 11 hb 0 5 = Z48 11 hb 0 5 := zu_ne hZ63 (fun q => absurd q.1 (by decide))
    have t69 : Z63 11 hb 0 7 = Z48 11 hb 0 7 := zu_ne hZ63 (fun q => absurd q.1 (by decide))
    have t70 : Z63 11 hb 0 8 = Z48 11 hb 0 8 := zu_ne hZ63 (fun q => absurd q.1 (by decide))
    have t71 : Z63 11 hb 0 9 = Z48 11 hb 0 9 := zu_ne hZ63 (fun q => absurd q.1 (by decide))
    have t72 : Z63 11 hb 0 0 = Z48 11 hb 0 0 := zu_ne hZ63 (fun q => absurd q.1 (by decide))
    have t73 : Z63 200 0 0 1 = Z48 200 0 0 1 := zu_ne hZ63 (fun q => absurd q.2.2.2 (by decide))
    have t74 : Z63 200 0 0 2 = Z48 200 0 0 2 := zu_ne hZ63 (by omega)
    have t75 : Z63 200 x0 0 1 = Z48 200 x0 0 1 := zu_ne hZ63 (fun q => absurd q.2.2.2 (by decide))
    have hZ63K := zK_u hZ48K hZ63 (by decide)
    intro μ9 e9
    replace e9 := e9.trans (zm_wI (Z := Z48) (ν := ν) hZ63 (rfl : ((x0 : Nat) : Int) = x0) (show ((0 : Nat) : Int) = 0 from rfl) (show ((2 : Nat) : Int) = 2 from rfl) (i3R (i3A (i3M (show (25173 : Int32) = i3 25173 from rfl) (zm_rd (Z := Z48) (ν := ν) (k := 200) (rfl : ((x0 : Nat) : Int) = x0) (show ((0 : Nat) : Int) = 0 from rfl) (show ((2 : Nat) : Int) = 2 from rfl))) (show (13849 : Int32) = i3 13849 from rfl)) (show (65536 : Int32) = i3 65536 from rfl) (by omega) (by omega) (by omega) (by omega)))
    subst e9
    refine wz_i1 (by rw [tsn]; rfl) ?_
    refine wz_i1 rfl ?_
    refine wz_rko (r := (21, _, _)) rfl ?_
    refine wz_i1 rfl ?_
    refine wz_rko (r := (11, _, _)) rfl ?_
    refine wz_i1 rfl ?_
    refine wz_i0 (i3O (n := 17) (show (0 : Int32) = i3 0 from rfl) (by omega) (by omega) (by omega)) ?_
    refine wz_i1 rfl ?_
    have r76 := zI_k hZ63I 11 hb 0 0 (lo := 0) (hi := 5) (by decide) rfl
    refine wz_i0 (i3O (n := 5) (zm_rd (Z := Z63) (ν := ν) (k := 11) (rfl : ((hb : Nat) : Int) = hb) (show ((0 : Nat) : Int) = 0 from rfl) (show ((0 : Nat) : Int) = 0 from rfl)) (by omega) (by omega) (by omega)) ?_
    refine wz_rko (r := (41, _, _)) rfl ?_
    refine wz_i1 rfl ?_
    refine wz_i0 (i3O (n := 5) (show (0 : Int32) = i3 0 from rfl) (by omega) (by omega) (by omega)) ?_
    obtain ⟨Z77, hZ77⟩ := zx (zu Z63 41 hb (Z63 11 hb 0 0) 0 (1 + (((Z3 200 x0 0 2) / 16) % 9)))
    replace hP := zl_e hP hZ77
    have hZ77I := zI_u hZ63I hZ77 (lo := 0) (hi := 9) (by decide) rfl (by omega) ⟨by decide, by decide⟩ (Or.inl (by decide))
    have t78 : Z77 11 hb 0 1 = Z63 11 hb 0 1 := zu_ne hZ77 (fun q => absurd q.1 (by decide))
    have t79 : Z77 11 hb 0 3 = Z63 11 hb 0 3 := zu_ne hZ77 (fun q => absurd q.1 (by decide))
    have t80 : Z77 11 hb 0 2 = Z63 11 hb 0 2 := zu_ne hZ77 (fun q => absurd q.1 (by decide))
    have t81 : Z77 11 hb 0 4 = Z63 11 hb 0 4 := zu_ne hZ77 (fun q => absurd q.1 (by decide))
    have t82 : Z77 11 hb 0 5 = Z63 11 hb 0 5 := zu_ne hZ77 (fun q => absurd q.1 (by decide))
    have t83 : Z77 11 hb 0 7 = Z63 11 hb 0 7 := zu_ne hZ77 (fun q => absurd q.1 (by decide))
    have t84 : Z77 11 hb 0 8 = Z63 11 hb 0 8 := zu_ne hZ77 (fun q => absurd q.1 (by decide))
    have t85 : Z77 11 hb 0 9 = Z63 11 hb 0 9 := zu_ne hZ77 (fun q => absurd q.1 (by decide))
    have t86 : Z77 11 hb 0 0 = Z63 11 hb 0 0 := zu_ne hZ77 (fun q => absurd q.1 (by decide))
    have t87 : Z77 200 0 0 1 = Z63 200 0 0 1 := zu_ne hZ77 (fun q => absurd q.1 (by decide))
    have t88 : Z77 200 0 0 2 = Z63 200 0 0 2 := zu_ne hZ77 (fun q => absurd q.1 (by decide))
    have t89 : Z77 200 x0 0 1 = Z63 200 x0 0 1 := zu_ne hZ77 (fun q => absurd q.1 (by decide))
    have hZ77K := zK_u hZ63K hZ77 (by decide)
    intro μ9 e9
    replace e9 := e9.trans (zm_wI (Z := Z63) (ν := ν) hZ77 (rfl : ((hb : Nat) : Int) = hb) (i3I (y := (Z63 11 hb 0 0)) (zm_rd (Z := Z63) (ν := ν) (k := 11) (rfl : ((hb : Nat) : Int) = hb) (show ((0 : Nat) : Int) = 0 from rfl) (show ((0 : Nat) : Int) = 0 from rfl)) (by omega) (by omega) (by omega)) (show ((0 : Nat) : Int) = 0 from rfl) (i3A (show (1 : Int32) = i3 1 from rfl) (i3R (i3D (zm_rd (Z := Z3) (ν := ν) (k := 200) (rfl : ((x0 : Nat) : Int) = x0) (show ((0 : Nat) : Int) = 0 from rfl) (show ((2 : Nat) : Int) = 2 from rfl)) (show (16 : Int32) = i3 16 from rfl) (by omega) (by omega) (by omega) (by omega)) (show (9 : Int32) = i3 9 from rfl) (by omega) (by omega) (by omega) (by omega))))
    subst e9
    refine wz_i1 rfl ?_
    refine wz_i0 (i3O (n := 5) (show (1 : Int32) = i3 1 from rfl) (by omega) (by omega) (by omega)) ?_
    obtain ⟨Z90, hZ90⟩ := zx (zu Z77 41 hb (Z63 11 hb 0 0) 1 (((Z18 200 x0 0 2) / 16) % 13))
    replace hP := zl_e hP hZ90
    have hZ90I := zI_u hZ77I hZ90 (lo := 0) (hi := 12) (by decide) rfl (by omega) ⟨by decide, by decide⟩ (Or.inl (by decide))
    have t91 : Z90 11 hb 0 1 = Z77 11 hb 0 1 := zu_ne hZ90 (fun q => absurd q.1 (by decide))
    have t92 : Z90 11 hb 0 3 = Z77 11 hb 0 3 := zu_ne hZ90 (fun q => absurd q.1 (by decide))
    have t93 : Z90 11 hb 0 2 = Z77 11 hb 0 2 := zu_ne hZ90 (fun q => absurd q.1 (by decide))
    have t94 : Z90 11 hb 0 4 = Z77 11 hb 0 4 := zu_ne hZ90 (fun q => absurd q.1 (by decide))
    have t95 : Z90 11 hb 0 5 = Z77 11 hb 0 5 := zu_ne hZ90 (fun q => absurd q.1 (by decide))
    have t96 : Z90 11 hb 0 7 = Z77 11 hb 0 7 := zu_ne hZ90 (fun q => absurd q.1 (by decide))
    have t97 : Z90 11 hb 0 8 = Z77 11 hb 0 8 := zu_ne hZ90 (fun q => absurd q.1 (by decide))
    have t98 : Z90 11 hb 0 9 = Z77 11 hb 0 9 := zu_ne hZ90 (fun q => absurd q.1 (by decide))
    have t99 : Z90 11 hb 0 0 = Z77 11 hb 0 0 := zu_ne hZ90 (fun q => absurd q.1 (by decide))
    have t100 : Z90 200 0 0 1 = Z77 200 0 0 1 := zu_ne hZ90 (fun q => absurd q.1 (by decide))
    have t101 : Z90 200 0 0 2 = Z77 200 0 0 2 := zu_ne hZ90 (fun q => absurd q.1 (by decide))
    have t102 : Z90 200 x0 0 1 = Z77 200 x0 0 1 := zu_ne hZ90 (fun q => absurd q.1 (by decide))
    have hZ90K := zK_u hZ77K hZ90 (by decide)
    intro μ9 e9
    replace e9 := e9.trans (zm_wI (Z := Z77) (ν := ν) hZ90 (rfl : ((hb : Nat) : Int) = hb) (i3I (y := (Z63 11 hb 0 0)) (zm_rd (Z := Z63) (ν := ν) (k := 11) (rfl : ((hb : Nat) : Int) = hb) (show ((0 : Nat) : Int) = 0 from rfl) (show ((0 : Nat) : Int) = 0 from rfl)) (by omega) (by omega) (by omega)) (show ((1 : Nat) : Int) = 1 from rfl) (i3R (i3D (zm_rd (Z := Z18) (ν := ν) (k := 200) (rfl : ((x0 : Nat) : Int) = x0) (show ((0 : Nat) : Int) = 0 from rfl) (show ((2 : Nat) : Int) = 2 from rfl)) (show (16 : Int32) = i3 16 from rfl) (by omega) (by omega) (by omega) (by omega)) (show (13 : Int32) = i3 13 from rfl) (by omega) (by omega) (by omega) (by omega)))
    subst e9
    refine wz_i1 rfl ?_
    refine wz_i0 (i3O (n := 5) (show (2 : Int32) = i3 2 from rfl) (by omega) (by omega) (by omega)) ?_
    obtain ⟨Z103, hZ103⟩ := zx (zu Z90 41 hb (Z63 11 hb 0 0) 2 (((Z33 200 x0 0 2) / 16) % 13))
    replace hP := zl_e hP hZ103
    have hZ103I := zI_u hZ90I hZ103 (lo := 0) (hi := 12) (by decide) rfl (by omega) ⟨by decide, by decide⟩ (Or.inl (by decide))
    have t104 : Z103 11 hb 0 1 = Z90 11 hb 0 1 := zu_ne hZ103 (fun q => absurd q.1 (by decide))
    have t105 : Z103 11 hb 0 3 = Z90 11 hb 0 3 := zu_ne hZ103 (fun q => absurd q.1 (by decide))
    have t106 : Z103 11 hb 0 2 = Z90 11 hb 0 2 := zu_ne hZ103 (fun q => absurd q.1 (by decide))
    have t107 : Z103 11 hb 0 4 = Z90 11 hb 0 4 := zu_ne hZ103 (fun q => absurd q.1 (by decide))
    have t108 : Z103 11 hb 0 5 = Z90 11 hb 0 5 := zu_ne hZ103 (fun q => absurd q.1 (by decide))
    have t109 : Z103 11 hb 0 7 = Z90 11 hb 0 7 := zu_ne hZ103 (fun q => absurd q.1 (by decide))
    have t110 : Z103 11 hb 0 8 = Z90 11 hb 0 8 := zu_ne hZ103 (fun q => absurd q.1 (by decide))
    have t111 : Z103 11 hb 0 9 = Z90 11 hb 0 9 := zu_ne hZ103 (fun q => absurd q.1 (by decide))
    have t112 : Z103 11 hb 0 0 = Z90 11 hb 0 0 := zu_ne hZ103 (fun q => absurd q.1 (by decide))
    have t113 : Z103 200 0 0 1 = Z90 200 0 0 1 := zu_ne hZ103 (fun q => absurd q.1 (by decide))
    have t114 : Z103 200 0 0 2 = Z90 200 0 0 2 := zu_ne hZ103 (fun q => absurd q.1 (by decide))
    have t115 : Z103 200 x0 0 1 = Z90 200 x0 0 1 := zu_ne hZ103 (fun q => absurd q.1 (by decide))
    have hZ103K := zK_u hZ90K hZ103 (by decide)
    intro μ9 e9
    replace e9 := e9.trans (zm_wI (Z := Z90) (ν := ν) hZ103 (rfl : ((hb : Nat) : Int) = hb) (i3I (y := (Z63 11 hb 0 0)) (zm_rd (Z := Z63) (ν := ν) (k := 11) (rfl : ((hb : Nat) : Int) = hb) (show ((0 : Nat) : Int) = 0 from rfl) (show ((0 : Nat) : Int) = 0 from rfl)) (by omega) (by omega) (by omega)) (show ((2 : Nat) : Int) = 2 from rfl) (i3R (i3D (zm_rd (Z := Z33) (ν := ν) (k := 200) (rfl : ((x0 : Nat) : Int) = x0) (show ((0 : Nat) : Int) = 0 from rfl) (show ((2 : Nat) : Int) = 2 from rfl)) (show (16 : Int32) = i3 16 from rfl) (by omega) (by omega) (by omega) (by omega)) (show (13 : Int32) = i3 13 from rfl) (by omega) (by omega) (by omega) (by omega)))
    subst e9
    refine wz_i1 rfl ?_
    refine wz_i0 (i3O (n := 5) (show (3 : Int32) = i3 3 from rfl) (by omega) (by omega) (by omega)) ?_
    obtain ⟨Z116, hZ116⟩ := zx (zu Z103 41 hb (Z63 11 hb 0 0) 3 (100 + (((Z48 200 x0 0 2) / 16) % 501)))
    replace hP := zl_e hP hZ116
    have hZ116I := zI_u hZ103I hZ116 (lo := 0) (hi := 600) (by decide) rfl (by omega) ⟨by decide, by decide⟩ (Or.inl (by decide))
    have t117 : Z116 11 hb 0 1 = Z103 11 hb 0 1 := zu_ne hZ116 (fun q => absurd q.1 (by decide))
    have t118 : Z116 11 hb 0 3 = Z103 11 hb 0 3 := zu_ne hZ116 (fun q => absurd q.1 (by decide))
    have t119 : Z116 11 hb 0 2 = Z103 11 hb 0 2 := zu_ne hZ116 (fun q => absurd q.1 (by decide))
    have t120 : Z116 11 hb 0 4 = Z103 11 hb 0 4 := zu_ne hZ116 (fun q => absurd q.1 (by decide))
    have t121 : Z116 11 hb 0 5 = Z103 11 hb 0 5 := zu_ne hZ116 (fun q => absurd q.1 (by decide))
    have t122 : Z116 11 hb 0 7 = Z103 11 hb 0 7 := zu_ne hZ116 (fun q => absurd q.1 (by decide))
    have t123 : Z116 11 hb 0 8 = Z103 11 hb 0 8 := zu_ne hZ116 (fun q => absurd q.1 (by decide))
    have t124 : Z116 11 hb 0 9 = Z103 11 hb 0 9 := zu_ne hZ116 (fun q => absurd q.1 (by decide))
    have t125 : Z116 11 hb 0 0 = Z103 11 hb 0 0 := zu_ne hZ116 (fun q => absurd q.1 (by decide))
    have t126 : Z116 200 0 0 1 = Z103 200 0 0 1 := zu_ne hZ116 (fun q => absurd q.1 (by decide))
    have t127 : Z116 200 0 0 2 = Z103 200 0 0 2 := zu_ne hZ116 (fun q => absurd q.1 (by decide))
    have t128 : Z116 200 x0 0 1 = Z103 200 x0 0 1 := zu_ne hZ116 (fun q => absurd q.1 (by decide))
    have hZ116K := zK_u hZ103K hZ116 (by decide)
    intro μ9 e9
    replace e9 := e9.trans (zm_wI (Z := Z103) (ν := ν) hZ116 (rfl : ((hb : Nat) : Int) = hb) (i3I (y := (Z63 11 hb 0 0)) (zm_rd (Z := Z63) (ν := ν) (k := 11) (rfl : ((hb : Nat) : Int) = hb) (show ((0 : Nat) : Int) = 0 from rfl) (show ((0 : Nat) : Int) = 0 from rfl)) (by omega) (by omega) (by omega)) (show ((3 : Nat) : Int) = 3 from rfl) (i3A (show (100 : Int32) = i3 100 from rfl) (i3R (i3D (zm_rd (Z := Z48) (ν := ν) (k := 200) (rfl : ((x0 : Nat) : Int) = x0) (show ((0 : Nat) : Int) = 0 from rfl) (show ((2 : Nat) : Int) = 2 from rfl)) (show (16 : Int32) = i3 16 from rfl) (by omega) (by omega) (by omega) (by omega)) (show (501 : Int32) = i3 501 from rfl) (by omega) (by omega) (by omega) (by omega))))
    subst e9
    refine wz_i1 rfl ?_
    refine wz_i0 (i3O (n := 5) (show (4 : Int32) = i3 4 from rfl) (by omega) (by omega) (by omega)) ?_
    have r129 := zI_xr (n := x0) hZ63I
    have q130 := zu_at hZ63
    obtain ⟨Z131, hZ131⟩ := zx (zu Z116 41 hb (Z63 11 hb 0 0) 4 (10 + (((Z63 200 x0 0 2) / 16) % 90)))
    replace hP := zl_e hP hZ131
    have hZ131I := zI_u hZ116I hZ131 (lo := 0) (hi := 99) (by decide) rfl (by omega) ⟨by decide, by decide⟩ (Or.inl (by decide))
    have t132 : Z131 11 hb 0 1 = Z116 11 hb 0 1 := zu_ne hZ131 (fun q => absurd q.1 (by decide))
    have t133 : Z131 11 hb 0 3 = Z116 11 hb 0 3 := zu_ne hZ131 (fun q => absurd q.1 (by decide))
    have t134 : Z131 11 hb 0 2 = Z116 11 hb 0 2 := zu_ne hZ131 (fun q => absurd q.1 (by decide))
    have t135 : Z131 11 hb 0 4 = Z116 11 hb 0 4 := zu_ne hZ131 (fun q => absurd q.1 (by decide))
    have t136 : Z131 11 hb 0 5 = Z116 11 hb 0 5 := zu_ne hZ131 (fun q => absurd q.1 (by decide))
    have t137 : Z131 11 hb 0 7 = Z116 11 hb 0 7 := zu_ne hZ131 (fun q => absurd q.1 (by decide))
    have t138 : Z131 11 hb 0 8 = Z116 11 hb 0 8 := zu_ne hZ131 (fun q => absurd q.1 (by decide))
    have t139 : Z131 11 hb 0 9 = Z116 11 hb 0 9 := zu_ne hZ131 (fun q => absurd q.1 (by decide))
    have t140 : Z131 11 hb 0 0 = Z116 11 hb 0 0 := zu_ne hZ131 (fun q => absurd q.1 (by decide))
    have t141 : Z131 200 0 0 1 = Z116 200 0 0 1 := zu_ne hZ131 (fun q => absurd q.1 (by decide))
    have t142 : Z131 200 0 0 2 = Z116 200 0 0 2 := zu_ne hZ131 (fun q => absurd q.1 (by decide))
    have t143 : Z131 200 x0 0 1 = Z116 200 x0 0 1 := zu_ne hZ131 (fun q => absurd q.1 (by decide))
    have hZ131K := zK_u hZ116K hZ131 (by decide)
    intro μ9 e9
    replace e9 := e9.trans (zm_wI (Z := Z116) (ν := ν) hZ131 (rfl : ((hb : Nat) : Int) = hb) (i3I (y := (Z63 11 hb 0 0)) (zm_rd (Z := Z63) (ν := ν) (k := 11) (rfl : ((hb : Nat) : Int) = hb) (show ((0 : Nat) : Int) = 0 from rfl) (show ((0 : Nat) : Int) = 0 from rfl)) (by omega) (by omega) (by omega)) (show ((4 : Nat) : Int) = 4 from rfl) (i3A (show (10 : Int32) = i3 10 from rfl) (i3R (i3D (zm_rd (Z := Z63) (ν := ν) (k := 200) (rfl : ((x0 : Nat) : Int) = x0) (show ((0 : Nat) : Int) = 0 from rfl) (show ((2 : Nat) : Int) = 2 from rfl)) (show (16 : Int32) = i3 16 from rfl) (by omega) (by omega) (by omega) (by omega)) (show (90 : Int32) = i3 90 from rfl) (by omega) (by omega) (by omega) (by omega))))
    subst e9
    refine wz_i1 rfl ?_
    refine wz_rko (r := (11, _, _)) rfl ?_
    refine wz_i1 rfl ?_
    refine wz_i0 (i3O (n := 17) (show (0 : Int32) = i3 0 from rfl) (by omega) (by omega) (by omega)) ?_
    refine wz_i1 rfl ?_
    refine wz_i0 (i3O (n := 17) (show (0 : Int32) = i3 0 from rfl) (by omega) (by omega) (by omega)) ?_
    have r144 := zI_k hZ131I 11 hb 0 0 (lo := 0) (hi := 5) (by decide) rfl
    have q145 := (zu_ne (k' := 11) (b' := hb) (i' := 0) (j' := 0) hZ131 (fun q => absurd q.1 (by decide))).trans ((zu_ne (k' := 11) (b' := hb) (i' := 0) (j' := 0) hZ116 (fun q => absurd q.1 (by decide))).trans ((zu_ne (k' := 11) (b' := hb) (i' := 0) (j' := 0) hZ103 (fun q => absurd q.1 (by decide))).trans ((zu_ne (k' := 11) (b' := hb) (i' := 0) (j' := 0) hZ90 (fun q => absurd q.1 (by decide))).trans (zu_ne (k' := 11) (b' := hb) (i' := 0) (j' := 0) hZ77 (fun q => absurd q.1 (by decide))))))
    obtain ⟨Z146, hZ146⟩ := zx (zu Z131 11 hb 0 0 ((Z131 11 hb 0 0) + 1))
    replace hP := zl_e hP hZ146
    have hZ146I := zI_u hZ131I hZ146 (lo := 0) (hi := 5) (by decide) rfl (by omega) ⟨by decide, by decide⟩ (Or.inl (by decide))
    have t147 : Z146 11 hb 0 1 = Z131 11 hb 0 1 := zu_ne hZ146 (fun q => absurd q.2.2.2 (by decide))
    have t148 : Z146 11 hb 0 3 = Z131 11 hb 0 3 := zu_ne hZ146 (fun q => absurd q.2.2.2 (by decide))
    have t149 : Z146 11 hb 0 2 = Z131 11 hb 0 2 := zu_ne hZ146 (fun q => absurd q.2.2.2 (by decide))
    have t150 : Z146 11 hb 0 4 = Z131 11 hb 0 4 := zu_ne hZ146 (fun q => absurd q.2.2.2 (by decide))
    have t151 : Z146 11 hb 0 5 = Z131 11 hb 0 5 := zu_ne hZ146 (fun q => absurd q.2.2.2 (by decide))
    have t152 : Z146 11 hb 0 7 = Z131 11 hb 0 7 := zu_ne hZ146 (fun q => absurd q.2.2.2 (by decide))
    have t153 : Z146 11 hb 0 8 = Z131 11 hb 0 8 := zu_ne hZ146 (fun q => absurd q.2.2.2 (by decide))
    have t154 : Z146 11 hb 0 9 = Z131 11 hb 0 9 := zu_ne hZ146 (fun q => absurd q.2.2.2 (by decide))
    have t155 := zu_at hZ146
    have t156 : Z146 200 0 0 1 = Z131 200 0 0 1 := zu_ne hZ146 (fun q => absurd q.1 (by decide))
    have t157 : Z146 200 0 0 2 = Z131 200 0 0 2 := zu_ne hZ146 (fun q => absurd q.1 (by decide))
    have t158 : Z146 200 x0 0 1 = Z131 200 x0 0 1 := zu_ne hZ146 (fun q => absurd q.1 (by decide))
    have hZ146K := zK_u hZ131K hZ146 (by decide)
    intro μ9 e9
    replace e9 := e9.trans (zm_wI (Z := Z131) (ν := ν) hZ146 (rfl : ((hb : Nat) : Int) = hb) (show ((0 : Nat) : Int) = 0 from rfl) (show ((0 : Nat) : Int) = 0 from rfl) (i3A (zm_rd (Z := Z131) (ν := ν) (k := 11) (rfl : ((hb : Nat) : Int) = hb) (show ((0 : Nat) : Int) = 0 from rfl) (show ((0 : Nat) : Int) = 0 from rfl)) (show (1 : Int32) = i3 1 from rfl)))
    subst e9
    obtain ⟨m2, rfl⟩ : ∃ m2, m = m2 + 1 := ⟨m - 1, by omega⟩
    exact wz_k1 ⟨m2, by omega, Z146, (x2 + 1), (zconso rfl (zconso (zvo (rfl : i3 x1 = i3 x1)) (zconso (zvo (i3A (rfl : i3 x2 = i3 x2) (show (1 : Int32) = i3 1 from rfl))) (zconso rfl (zconso rfl (zconso rfl (zconso rfl (zconso rfl (zconso rfl (zconso rfl rfl)))))))))), rfl, hZ146I, hZ146K, by omega, by omega, by omega, by omega, by omega, by omega, by omega, by omega, by omega, by omega, by omega, by omega, by omega, by omega, by omega,  hP⟩

/- yX8_tellGoods -/
def zl_148_2 (x0 : Int) (hb : Int) (x1 : Int) (x2 : Int) : Nat → qz_Z → Int → qz_Z × Int
  | 0, Z, x3 => (Z, x3)
  | m + 1, Z, x3 => (if x2 ≤ x3 then (Z, x3) else (zlet (zu Z 200 x0 0 2 (((25173 * (Z 200 x0 0 2)) + 13849) % 65536)) (fun Z3 => (zlet (zu Z3 200 x0 0 2 (((25173 * (Z3 200 x0 0 2)) + 13849) % 65536)) (fun Z18 => (zlet (zu Z18 42 hb (Z18 11 hb 0 1) 0 (((Z3 200 x0 0 2) / 16) % 26)) (fun Z32 => (zlet (zu Z32 42 hb (Z18 11 hb 0 1) 1 (((Z18 200 x0 0 2) / 16) % 10)) (fun Z47 => (zlet (zu Z47 11 hb 0 1 ((Z47 11 hb 0 1) + 1)) (fun Z62 => zl_148_2 x0 hb x1 x2 m Z62 (x3 + 1))))))))))))
theorem sl_148_2 {Zs Z : qz_Z} {ν : qz_N} (x0 : Nat) (hZ : zI (some (some (x0 : Int))) Z) (hK : zK [11, 42, 200] Zs Z) (hb : Nat) (tsn : ∀ Z, qz_tag (zm Z ν) (200, x0, 0) = 2) (rsn : ∀ Z, qz_rm (zm Z ν) 200 x0 0 0 = some (10, hb, 0)) {x1 : Int} (gx1 : 2 ≤ x1 ∧ x1 ≤ 5) {x2 : Int} (gx2 : 2 ≤ x2 ∧ x2 ≤ 6) {x3 : Int} (gx3 : 0 ≤ x3 ∧ x3 ≤ 6) {kc0 : Int} {kc1 : Int} {kc2 : Int} {kc3 : Int} {kc4 : Int} {kc5 : Int} {kc6 : Int} {kc7 : Int} {kc8 : Int} {kc9 : Int} {kc10 : Int} (gr0 : Z 11 hb 0 1 = x3) (gr1 : 1 ≤ (x0 : Int)) (gr2 : Z 11 hb 0 0 = kc0) (gr3 : Z 11 hb 0 3 = kc1) (gr4 : Z 11 hb 0 2 = kc2) (gr5 : Z 11 hb 0 4 = kc3) (gr6 : Z 11 hb 0 5 = kc4) (gr7 : Z 11 hb 0 7 = kc5) (gr8 : Z 11 hb 0 8 = kc6) (gr9 : Z 11 hb 0 9 = kc7) (gr10 : Z 200 0 0 1 = kc8) (gr11 : Z 200 0 0 2 = kc9) (gr12 : Z 200 x0 0 1 = kc10) {k : wz_K} {R : wz_R} {L : qz_L} (hL : qz_fg [true, true, true, true, false, false, false, false, false, false] L = [some (.inr (.inr (some (200, x0, 0)))), some (.inl (i3 x1)), some (.inl (i3 x2)), some (.inl (i3 x3)), none, none, none, none, none, none]) {T : qz_Z × Int} (hP : zE T (zl_148_2 x0 hb x1 x2 ((6 - x3).toNat + 1) Z x3)) (hk : ∀ (L9 : qz_L) (Z9 : qz_Z) (yx3 : Int), qz_fg [true, true, true, false, false, false, false, false, false, false] L9 = [some (.inr (.inr (some (200, x0, 0)))), some (.inl (i3 x1)), some (.inl (i3 x2)), none, none, none, none, none, none, none] → zI (some (some (x0 : Int))) Z9 → zK [11, 42, 200] Zs Z9 → (0 ≤ yx3 ∧ yx3 ≤ 6) → (Z9 11 hb 0 1 = yx3) → (1 ≤ (x0 : Int)) → (Z9 11 hb 0 0 = kc0) → (Z9 11 hb 0 3 = kc1) → (Z9 11 hb 0 2 = kc2) → (Z9 11 hb 0 4 = kc3) → (Z9 11 hb 0 5 = kc4) → (Z9 11 hb 0 7 = kc5) → (Z9 11 hb 0 8 = kc6) → (Z9 11 hb 0 9 = kc7) → (Z9 200 0 0 1 = kc8) → (Z9 200 0 0 2 = kc9) → (Z9 200 x0 0 1 = kc10) → zE T ((Z9, yx3)) → k 0 (L9, [], zm Z9 ν)) : wz_loop qb_148_2 65536 k R (L, [], zm Z ν) := by
  refine wz_lp sb_148_2 (fun m x => ∃ Z : qz_Z, ∃ x3 : Int, qz_fg [true, true, true, true, false, false, false, false, false, false] x.1 = [some (.inr (.inr (some (200, x0, 0)))), some (.inl (i3 x1)), some (.inl (i3 x2)), some (.inl (i3 x3)), none, none, none, none, none, none] ∧ x.2 = ([], zm Z ν) ∧ zI (some (some (x0 : Int))) Z ∧ zK [11, 42, 200] Zs Z ∧ m = (6 - x3).toNat ∧ (0 ≤ x3 ∧ x3 ≤ 6) ∧ (Z 11 hb 0 1 = x3) ∧ (1 ≤ (x0 : Int)) ∧ (Z 11 hb 0 0 = kc0) ∧ (Z 11 hb 0 3 = kc1) ∧ (Z 11 hb 0 2 = kc2) ∧ (Z 11 hb 0 4 = kc3) ∧ (Z 11 hb 0 5 = kc4) ∧ (Z 11 hb 0 7 = kc5) ∧ (Z 11 hb 0 8 = kc6) ∧ (Z 11 hb 0 9 = kc7) ∧ (Z 200 0 0 1 = kc8) ∧ (Z 200 0 0 2 = kc9) ∧ (Z 200 x0 0 1 = kc10) ∧ zE T (zl_148_2 x0 hb x1 x2 (m + 1) Z x3)) ?_ 65536 ((6 - x3).toNat) _ (by omega) ⟨Z, x3, hL, rfl, hZ, hK, rfl, gx3, gr0, gr1, gr2, gr3, gr4, gr5, gr6, gr7, gr8, gr9, gr10, gr11, gr12, hP⟩
  clear hP gr0 gr1 gr2 gr3 gr4 gr5 gr6 gr7 gr8 gr9 gr10 gr11 gr12 gx3 hZ hK hL
  clear x3
  clear Z
  rintro m ⟨L, st, μ⟩ ⟨Z, x3, hL, hx, hZ, hK, hm, gx3, gr0, gr1, gr2, gr3, gr4, gr5, gr6, gr7, gr8, gr9, gr10, gr11, gr12, hP⟩
  cases hx
  refine fb_148_2 x0 (i3 x1) (i3 x2) (i3 x3) _ _ _ _ hL ?_
  have rs := zI_xs (n := x0) hZ
  refine wz_br (i3Le (rfl : i3 x2 = i3 x2) (rfl : i3 x3 = i3 x3) (by omega) (by omega) (by omega) (by omega)) (fun h1 => ?_) (fun h1 => ?_)
  · replace hP := zE_p hP h1
    exact hk _ _ _ (zconso rfl (zconso (zvo (rfl : i3 x1 = i3 x1)) (zconso (zvo (rfl : i3 x2 = i3 x2)) (zconso rfl (zconso rfl (zconso rfl (zconso rfl (zconso rfl (zconso rfl (zconso rfl rfl)))))))))) hZ hK (by omega) (by omega) (by omega) (by omega) (by omega) (by omega) (by omega) (by omega) (by omega) (by omega) (by omega) (by omega) (by omega) (by omega) hP
  · replace hP := zE_n hP h1
    refine wz_i1 (by rw [tsn]; rfl) ?_
    refine wz_rko (rsn _) ?_
    refine wz_i1 (by rw [tsn]; rfl) ?_
    refine wz_i1 (by rw [tsn]; rfl) ?_
    refine wz_i1 (by rw [tsn]; rfl) ?_
    have r2 := zI_xr (n := x0) hZ
    obtain ⟨Z3, hZ3⟩ := zx (zu Z 200 x0 0 2 (((25173 * (Z 200 x0 0 2)) + 13849) % 65536))
    replace hP := zl_e hP hZ3
    have hZ3I := zI_x hZ hZ3 (by omega)
    have t4 : Z3 11 hb 0 0 = Z 11 hb 0 0 := zu_ne hZ3 (fun q => absurd q.1 (by decide))
    have t5 : Z3 11 hb 0 3 = Z 11 hb 0 3 := zu_ne hZ3 (fun q => absurd q.1 (by decide))
    have t6 : Z3 11 hb 0 2 = Z 11 hb 0 2 := zu_ne hZ3 (fun q => absurd q.1 (by decide))
    have t7 : Z3 11 hb 0 4 = Z 11 hb 0 4 := zu_ne hZ3 (fun q => absurd q.1 (by decide))
    have t8 : Z3 11 hb 0 5 = Z 11 hb 0 5 := zu_ne hZ3 (fun q => absurd q.1 (by decide))
    have t9 : Z3 11 hb 0 7 = Z 11 hb 0 7 := zu_ne hZ3 (fun q => absurd q.1 (by decide))
    have t10 : Z3 11 hb 0 8 = Z 11 hb 0 8 := zu_ne hZ3 (fun q => absurd q.1 (by decide))
    have t11 : Z3 11 hb 0 9 = Z 11 hb 0 9 := zu_ne hZ3 (fun q => absurd q.1 (by decide))
    have t12 : Z3 11 hb 0 1 = Z 11 hb 0 1 := zu_ne hZ3 (fun q => absurd q.1 (by decide))
    have t13 : Z3 200 0 0 1 = Z 200 0 0 1 := zu_ne hZ3 (fun q => absurd q.2.2.2 (by decide))
    have t14 : Z3 200 0 0 2 = Z 200 0 0 2 := zu_ne hZ3 (by omega)
    have t15 : Z3 200 x0 0 1 = Z 200 x0 0 1 := zu_ne hZ3 (fun q => absurd q.2.2.2 (by decide))
    have hZ3K := zK_u hK hZ3 (by decide)
    intro μ9 e9
    replace e9 := e9.trans (zm_wI (Z := Z) (ν := ν) hZ3 (rfl : ((x0 : Nat) : Int) = x0) (show ((0 : Nat) : Int) = 0 from rfl) (show ((2 : Nat) : Int) = 2 from rfl) (i3R (i3A (i3M (show (25173 : Int32) = i3 25173 from rfl) (zm_rd (Z := Z) (ν := ν) (k := 200) (rfl : ((x0 : Nat) : Int) = x0) (show ((0 : Nat) : Int) = 0 from rfl) (show ((2 : Nat) : Int) = 2 from rfl))) (show (13849 : Int32) = i3 13849 from rfl)) (show (65536 : Int32) = i3 65536 from rfl) (by omega) (by omega) (by omega) (by omega)))
    subst e9
    refine wz_i1 (by rw [tsn]; rfl) ?_
    refine wz_i1 (by rw [tsn]; rfl) ?_
    refine wz_i1 (by rw [tsn]; rfl) ?_
    refine wz_i1 (by rw [tsn]; rfl) ?_
    have r16 := zI_xr (n := x0) hZ3I
    have q17 := zu_at hZ3
    obtain ⟨Z18, hZ18⟩ := zx (zu Z3 200 x0 0 2 (((25173 * (Z3 200 x0 0 2)) + 13849) % 65536))
    replace hP := zl_e hP hZ18
    have hZ18I := zI_x hZ3I hZ18 (by omega)
    have t19 : Z18 11 hb 0 0 = Z3 11 hb 0 0 := zu_ne hZ18 (fun q => absurd q.1 (by decide))
    have t20 : Z18 11 hb 0 3 = Z3 11 hb 0 3 := zu_ne hZ18 (fun q => absurd q.1 (by decide))
    have t21 : Z18 11 hb 0 2 = Z3 11 hb 0 2 := zu_ne hZ18 (fun q => absurd q.1 (by decide))
    have t22 : Z18 11 hb 0 4 = Z3 11 hb 0 4 := zu_ne hZ18 (fun q => absurd q.1 (by decide))
    have t23 : Z18 11 hb 0 5 = Z3 11 hb 0 5 := zu_ne hZ18 (fun q => absurd q.1 (by decide))
    have t24 : Z18 11 hb 0 7 = Z3 11 hb 0 7 := zu_ne hZ18 (fun q => absurd q.1 (by decide))
    have t25 : Z18 11 hb 0 8 = Z3 11 hb 0 8 := zu_ne hZ18 (fun q => absurd q.1 (by decide))
    have t26 : Z18 11 hb 0 9 = Z3 11 hb 0 9 := zu_ne hZ18 (fun q => absurd q.1 (by decide))
    have t27 : Z18 11 hb 0 1 = Z3 11 hb 0 1 := zu_ne hZ18 (fun q => absurd q.1 (by decide))
    have t28 : Z18 200 0 0 1 = Z3 200 0 0 1 := zu_ne hZ18 (fun q => absurd q.2.2.2 (by decide))
    have t29 : Z18 200 0 0 2 = Z3 200 0 0 2 := zu_ne hZ18 (by omega)
    have t30 : Z18 200 x0 0 1 = Z3 200 x0 0 1 := zu_ne hZ18 (fun q => absurd q.2.2.2 (by decide))
    have hZ18K := zK_u hZ3K hZ18 (by decide)
    intro μ9 e9
    replace e9 := e9.trans (zm_wI (Z := Z3) (ν := ν) hZ18 (rfl : ((x0 : Nat) : Int) = x0) (show ((0 : Nat) : Int) = 0 from rfl) (show ((2 : Nat) : Int) = 2 from rfl) (i3R (i3A (i3M (show (25173 : Int32) = i3 25173 from rfl) (zm_rd (Z := Z3) (ν := ν) (k := 200) (rfl : ((x0 : Nat) : Int) = x0) (show ((0 : Nat) : Int) = 0 from rfl) (show ((2 : Nat) : Int) = 2 from rfl))) (show (13849 : Int32) = i3 13849 from rfl)) (show (65536 : Int32) = i3 65536 from rfl) (by omega) (by omega) (by omega) (by omega)))
    subst e9
    refine wz_i1 (by rw [tsn]; rfl) ?_
    refine wz_i1 rfl ?_
    refine wz_rko (r := (22, _, _)) rfl ?_
    refine wz_i1 rfl ?_
    refine wz_rko (r := (11, _, _)) rfl ?_
    refine wz_i1 rfl ?_
    refine wz_i0 (i3O (n := 17) (show (1 : Int32) = i3 1 from rfl) (by omega) (by omega) (by omega)) ?_
    refine wz_i1 rfl ?_
    have r31 := zI_k hZ18I 11 hb 0 1 (lo := 0) (hi := 6) (by decide) rfl
    refine wz_i0 (i3O (n := 6) (zm_rd (Z := Z18) (ν := ν) (k := 11) (rfl : ((hb : Nat) : Int) = hb) (show ((0 : Nat) : Int) = 0 from rfl) (show ((1 : Nat) : Int) = 1 from rfl)) (by omega) (by omega) (by omega)) ?_
    refine wz_rko (r := (42, _, _)) rfl ?_
    refine wz_i1 rfl ?_
    refine wz_i0 (i3O (n := 7) (show (0 : Int32) = i3 0 from rfl) (by omega) (by omega) (by omega)) ?_
    obtain ⟨Z32, hZ32⟩ := zx (zu Z18 42 hb (Z18 11 hb 0 1) 0 (((Z3 200 x0 0 2) / 16) % 26))
    replace hP := zl_e hP hZ32
    have hZ32I := zI_u hZ18I hZ32 (lo := 0) (hi := 25) (by decide) rfl (by omega) ⟨by decide, by decide⟩ (Or.inl (by decide))
    have t33 : Z32 11 hb 0 0 = Z18 11 hb 0 0 := zu_ne hZ32 (fun q => absurd q.1 (by decide))
    have t34 : Z32 11 hb 0 3 = Z18 11 hb 0 3 := zu_ne hZ32 (fun q => absurd q.1 (by decide))
    have t35 : Z32 11 hb 0 2 = Z18 11 hb 0 2 := zu_ne hZ32 (fun q => absurd q.1 (by decide))
    have t36 : Z32 11 hb 0 4 = Z18 11 hb 0 4 := zu_ne hZ32 (fun q => absurd q.1 (by decide))
    have t37 : Z32 11 hb 0 5 = Z18 11 hb 0 5 := zu_ne hZ32 (fun q => absurd q.1 (by decide))
    have t38 : Z32 11 hb 0 7 = Z18 11 hb 0 7 := zu_ne hZ32 (fun q => absurd q.1 (by decide))
    have t39 : Z32 11 hb 0 8 = Z18 11 hb 0 8 := zu_ne hZ32 (fun q => absurd q.1 (by decide))
    have t40 : Z32 11 hb 0 9 = Z18 11 hb 0 9 := zu_ne hZ32 (fun q => absurd q.1 (by decide))
    have t41 : Z32 11 hb 0 1 = Z18 11 hb 0 1 := zu_ne hZ32 (fun q => absurd q.1 (by decide))
    have t42 : Z32 200 0 0 1 = Z18 200 0 0 1 := zu_ne hZ32 (fun q => absurd q.1 (by decide))
    have t43 : Z32 200 0 0 2 = Z18 200 0 0 2 := zu_ne hZ32 (fun q => absurd q.1 (by decide))
    have t44 : Z32 200 x0 0 1 = Z18 200 x0 0 1 := zu_ne hZ32 (fun q => absurd q.1 (by decide))
    have hZ32K := zK_u hZ18K hZ32 (by decide)
    intro μ9 e9
    replace e9 := e9.trans (zm_wI (Z := Z18) (ν := ν) hZ32 (rfl : ((hb : Nat) : Int) = hb) (i3I (y := (Z18 11 hb 0 1)) (zm_rd (Z := Z18) (ν := ν) (k := 11) (rfl : ((hb : Nat) : Int) = hb) (show ((0 : Nat) : Int) = 0 from rfl) (show ((1 : Nat) : Int) = 1 from rfl)) (by omega) (by omega) (by omega)) (show ((0 : Nat) : Int) = 0 from rfl) (i3R (i3D (zm_rd (Z := Z3) (ν := ν) (k := 200) (rfl : ((x0 : Nat) : Int) = x0) (show ((0 : Nat) : Int) = 0 from rfl) (show ((2 : Nat) : Int) = 2 from rfl)) (show (16 : Int32) = i3 16 from rfl) (by omega) (by omega) (by omega) (by omega)) (show (26 : Int32) = i3 26 from rfl) (by omega) (by omega) (by omega) (by omega)))
    subst e9
    refine wz_i1 rfl ?_
    refine wz_i0 (i3O (n := 7) (show (1 : Int32) = i3 1 from rfl) (by omega) (by omega) (by omega)) ?_
    have r45 := zI_xr (n := x0) hZ18I
    have q46 := zu_at hZ18
    obtain ⟨Z47, hZ47⟩ := zx (zu Z32 42 hb (Z18 11 hb 0 1) 1 (((Z18 200 x0 0 2) / 16) % 10))
    replace hP := zl_e hP hZ47
    have hZ47I := zI_u hZ32I hZ47 (lo := 0) (hi := 9) (by decide) rfl (by omega) ⟨by decide, by decide⟩ (Or.inl (by decide))
    have t48 : Z47 11 hb 0 0 = Z32 11 hb 0 0 := zu_ne hZ47 (fun q => absurd q.1 (by decide))
    have t49 : Z47 11 hb 0 3 = Z32 11 hb 0 3 := zu_ne hZ47 (fun q => absurd q.1 (by decide))
    have t50 : Z47 11 hb 0 2 = Z32 11 hb 0 2 := zu_ne hZ47 (fun q => absurd q.1 (by decide))
    have t51 : Z47 11 hb 0 4 = Z32 11 hb 0 4 := zu_ne hZ47 (fun q => absurd q.1 (by decide))
    have t52 : Z47 11 hb 0 5 = Z32 11 hb 0 5 := zu_ne hZ47 (fun q => absurd q.1 (by decide))
    have t53 : Z47 11 hb 0 7 = Z32 11 hb 0 7 := zu_ne hZ47 (fun q => absurd q.1 (by decide))
    have t54 : Z47 11 hb 0 8 = Z32 11 hb 0 8 := zu_ne hZ47 (fun q => absurd q.1 (by decide))
    have t55 : Z47 11 hb 0 9 = Z32 11 hb 0 9 := zu_ne hZ47 (fun q => absurd q.1 (by decide))
    have t56 : Z47 11 hb 0 1 = Z32 11 hb 0 1 := zu_ne hZ47 (fun q => absurd q.1 (by decide))
    have t57 : Z47 200 0 0 1 = Z32 200 0 0 1 := zu_ne hZ47 (fun q => absurd q.1 (by decide))
    have t58 : Z47 200 0 0 2 = Z32 200 0 0 2 := zu_ne hZ47 (fun q => absurd q.1 (by decide))
    have t59 : Z47 200 x0 0 1 = Z32 200 x0 0 1 := zu_ne hZ47 (fun q => absurd q.1 (by decide))
    have hZ47K := zK_u hZ32K hZ47 (by decide)
    intro μ9 e9
    replace e9 := e9.trans (zm_wI (Z := Z32) (ν := ν) hZ47 (rfl : ((hb : Nat) : Int) = hb) (i3I (y := (Z18 11 hb 0 1)) (zm_rd (Z := Z18) (ν := ν) (k := 11) (rfl : ((hb : Nat) : Int) = hb) (show ((0 : Nat) : Int) = 0 from rfl) (show ((1 : Nat) : Int) = 1 from rfl)) (by omega) (by omega) (by omega)) (show ((1 : Nat) : Int) = 1 from rfl) (i3R (i3D (zm_rd (Z := Z18) (ν := ν) (k := 200) (rfl : ((x0 : Nat) : Int) = x0) (show ((0 : Nat) : Int) = 0 from rfl) (show ((2 : Nat) : Int) = 2 from rfl)) (show (16 : Int32) = i3 16 from rfl) (by omega) (by omega) (by omega) (by omega)) (show (10 : Int32) = i3 10 from rfl) (by omega) (by omega) (by omega) (by omega)))
    subst e9
    refine wz_i1 rfl ?_
    refine wz_rko (r := (11, _, _)) rfl ?_
    refine wz_i1 rfl ?_
    refine wz_i0 (i3O (n := 17) (show (1 : Int32) = i3 1 from rfl) (by omega) (by omega) (by omega)) ?_
    refine wz_i1 rfl ?_
    refine wz_i0 (i3O (n := 17) (show (1 : Int32) = i3 1 from rfl) (by omega) (by omega) (by omega)) ?_
    have r60 := zI_k hZ47I 11 hb 0 1 (lo := 0) (hi := 6) (by decide) rfl
    have q61 := (zu_ne (k' := 11) (b' := hb) (i' := 0) (j' := 1) hZ47 (fun q => absurd q.1 (by decide))).trans (zu_ne (k' := 11) (b' := hb) (i' := 0) (j' := 1) hZ32 (fun q => absurd q.1 (by decide)))
    obtain ⟨Z62, hZ62⟩ := zx (zu Z47 11 hb 0 1 ((Z47 11 hb 0 1) + 1))
    replace hP := zl_e hP hZ62
    have hZ62I := zI_u hZ47I hZ62 (lo := 0) (hi := 6) (by decide) rfl (by omega) ⟨by decide, by decide⟩ (Or.inl (by decide))
    have t63 : Z62 11 hb 0 0 = Z47 11 hb 0 0 := zu_ne hZ62 (fun q => absurd q.2.2.2 (by decide))
    have t64 : Z62 11 hb 0 3 = Z47 11 hb 0 3 := zu_ne hZ62 (fun q => absurd q.2.2.2 (by decide))
    have t65 : Z62 11 hb 0 2 = Z47 11 hb 0 2 := zu_ne hZ62 (fun q => absurd q.2.2.2 (by decide))
    have t66 : Z62 11 hb 0 4 = Z47 11 hb 0 4 := zu_ne hZ62 (fun q => absurd q.2.2.2 (by decide))
    have t67 : Z62 11 hb 0 5 = Z47 11 hb 0 5 := zu_ne hZ62 (fun q => absurd q.2.2.2 (by decide))
    have t68 : Z62 11 hb 0 7 = Z47 11 hb 0 7 := zu_ne hZ62 (fun q => absurd q.2.2.2 (by decide))
    have t69 : Z62 11 hb 0 8 = Z47 11 hb 0 8 := zu_ne hZ62 (fun q => absurd q.2.2.2 (by decide))
    have t70 : Z62 11 hb 0 9 = Z47 11 hb 0 9 := zu_ne hZ62 (fun q => absurd q.2.2.2 (by decide))
    have t71 := zu_at hZ62
    have t72 : Z62 200 0 0 1 = Z47 200 0 0 1 := zu_ne hZ62 (fun q => absurd q.1 (by decide))
    have t73 : Z62 200 0 0 2 = Z47 200 0 0 2 := zu_ne hZ62 (fun q => absurd q.1 (by decide))
    have t74 : Z62 200 x0 0 1 = Z47 200 x0 0 1 := zu_ne hZ62 (fun q => absurd q.1 (by decide))
    have hZ62K := zK_u hZ47K hZ62 (by decide)
    intro μ9 e9
    replace e9 := e9.trans (zm_wI (Z := Z47) (ν := ν) hZ62 (rfl : ((hb : Nat) : Int) = hb) (show ((0 : Nat) : Int) = 0 from rfl) (show ((1 : Nat) : Int) = 1 from rfl) (i3A (zm_rd (Z := Z47) (ν := ν) (k := 11) (rfl : ((hb : Nat) : Int) = hb) (show ((0 : Nat) : Int) = 0 from rfl) (show ((1 : Nat) : Int) = 1 from rfl)) (show (1 : Int32) = i3 1 from rfl)))
    subst e9
    obtain ⟨m2, rfl⟩ : ∃ m2, m = m2 + 1 := ⟨m - 1, by omega⟩
    exact wz_k1 ⟨m2, by omega, Z62, (x3 + 1), (zconso rfl (zconso (zvo (rfl : i3 x1 = i3 x1)) (zconso (zvo (rfl : i3 x2 = i3 x2)) (zconso (zvo (i3A (rfl : i3 x3 = i3 x3) (show (1 : Int32) = i3 1 from rfl))) (zconso rfl (zconso rfl (zconso rfl (zconso rfl (zconso rfl (zconso rfl rfl)))))))))), rfl, hZ62I, hZ62K, by omega, by omega, by omega, by omega, by omega, by omega, by omega, by omega, by omega, by omega, by omega, by omega, by omega, by omega, by omega,  hP⟩


/-! a season told, the class (printed by season.py c) -/
/- yX8_tellGoods -/
def zl_148_3 (x0 : Int) (hb : Int) (x1 : Int) (x2 : Int) : Nat → qz_Z → Int → qz_Z × Int
  | 0, Z, x3 => (Z, x3)
  | m + 1, Z, x3 => (if (Z 200 x0 0 1) ≤ x3 then (Z, x3) else (zlet (zu Z 200 x0 0 2 (((25173 * (Z 200 x0 0 2)) + 13849) % 65536)) (fun Z4 => (zlet (zu Z4 200 x0 0 2 (((25173 * (Z4 200 x0 0 2)) + 13849) % 65536)) (fun Z19 => (zlet (zu Z19 200 x0 0 2 (((25173 * (Z19 200 x0 0 2)) + 13849) % 65536)) (fun Z34 => (zlet (zu Z34 200 x0 0 2 (((25173 * (Z34 200 x0 0 2)) + 13849) % 65536)) (fun Z49 => (zlet (zu Z49 200 x0 0 2 (((25173 * (Z49 200 x0 0 2)) + 13849) % 65536)) (fun Z65 => (zlet (zu Z65 44 hb (Z65 11 hb 0 3) 0 (((Z4 200 x0 0 2) / 16) % (max 1 x2))) (fun Z81 => (zlet (zu Z81 44 hb (Z65 11 hb 0 3) 1 (((Z19 200 x0 0 2) / 16) % (max 1 x1))) (fun Z95 => (zlet (zu Z95 44 hb (Z65 11 hb 0 3) 2 (Z95 11 hb 0 13)) (fun Z109 => (zlet (zu Z109 44 hb (Z65 11 hb 0 3) 3 (1 + (((Z34 200 x0 0 2) / 16) % 40))) (fun Z122 => (zlet (zu Z122 44 hb (Z65 11 hb 0 3) 4 (1 + (((Z34 200 x0 0 2) / 16) % 40))) (fun Z135 => (zlet (zu Z135 44 hb (Z65 11 hb 0 3) 5 (((Z65 200 x0 0 2) / 16) % (max 1 ((((1 + (((Z34 200 x0 0 2) / 16) % 40)) * (10 - (Z49 42 hb (((Z4 200 x0 0 2) / 16) % (max 1 x2)) 1))) / 10) + 1)))) (fun Z151 => (zlet (zu Z151 44 hb (Z65 11 hb 0 3) 7 (((Z49 200 x0 0 2) / 16) % 301)) (fun Z164 => (zlet (zu Z164 44 hb (Z65 11 hb 0 3) 9 (-1)) (fun Z177 => (zlet (zu Z177 44 hb (Z65 11 hb 0 3) 10 0) (fun Z190 => (zlet (zu Z190 44 hb (Z65 11 hb 0 3) 12 6) (fun Z203 => (zlet (zu Z203 44 hb (Z65 11 hb 0 3) 15 (-1)) (fun Z216 => (zlet (zu Z216 11 hb 0 3 ((Z216 11 hb 0 3) + 1)) (fun Z231 => (zlet (zu Z231 200 x0 0 2 (((25173 * (Z231 200 x0 0 2)) + 13849) % 65536)) (fun Z246 => (if (((Z246 200 x0 0 2) / 16) % 2) ≠ 1 then zl_148_3 x0 hb x1 x2 m Z246 (x3 + 1) else (zlet (zu Z246 200 x0 0 2 (((25173 * (Z246 200 x0 0 2)) + 13849) % 65536)) (fun Z262 => (zlet (zu Z262 44 hb (Z216 11 hb 0 3) 9 (((Z262 200 x0 0 2) / 16) % 4)) (fun Z277 => zl_148_3 x0 hb x1 x2 m Z277 (x3 + 1)))))))))))))))))))))))))))))))))))))))))))
theorem sl_148_3 {Zs Z : qz_Z} {ν : qz_N} (x0 : Nat) (hZ : zI (some (some (x0 : Int))) Z) (hK : zK [11, 44, 200] Zs Z) (hb : Nat) (tsn : ∀ Z, qz_tag (zm Z ν) (200, x0, 0) = 2) (rsn : ∀ Z, qz_rm (zm Z ν) 200 x0 0 0 = some (10, hb, 0)) {x1 : Int} (gx1 : 2 ≤ x1 ∧ x1 ≤ 5) {x2 : Int} (gx2 : 2 ≤ x2 ∧ x2 ≤ 6) {x3 : Int} (gx3 : 0 ≤ x3 ∧ x3 ≤ 12) {kc0 : Int} {kc1 : Int} {kc2 : Int} {kc3 : Int} {kc4 : Int} {kc5 : Int} {kc6 : Int} {kc7 : Int} {kc8 : Int} {kc9 : Int} {kc10 : Int} (gr0 : Z 11 hb 0 3 = x3) (gr1 : x3 ≤ Z 200 x0 0 1) (gr2 : 1 ≤ (x0 : Int)) (gr3 : Z 11 hb 0 0 = kc0) (gr4 : Z 11 hb 0 1 = kc1) (gr5 : Z 11 hb 0 2 = kc2) (gr6 : Z 11 hb 0 4 = kc3) (gr7 : Z 11 hb 0 5 = kc4) (gr8 : Z 11 hb 0 7 = kc5) (gr9 : Z 11 hb 0 8 = kc6) (gr10 : Z 11 hb 0 9 = kc7) (gr11 : Z 200 0 0 1 = kc8) (gr12 : Z 200 0 0 2 = kc9) (gr13 : Z 200 x0 0 1 = kc10) {k : wz_K} {R : wz_R} {L : qz_L} (hL : qz_fg [true, true, true, true, false, false, false, false, false, false] L = [some (.inr (.inr (some (200, x0, 0)))), some (.inl (i3 x1)), some (.inl (i3 x2)), some (.inl (i3 x3)), none, none, none, none, none, none]) {T : qz_Z × Int} (hP : zE T (zl_148_3 x0 hb x1 x2 ((12 - x3).toNat + 1) Z x3)) (hk : ∀ (L9 : qz_L) (Z9 : qz_Z) (yx3 : Int), qz_fg [false, false, false, false, false, false, false, false, false, false] L9 = [none, none, none, none, none, none, none, none, none, none] → zI (some (some (x0 : Int))) Z9 → zK [11, 44, 200] Zs Z9 → (0 ≤ yx3 ∧ yx3 ≤ 12) → (Z9 11 hb 0 3 = yx3) → (yx3 ≤ Z9 200 x0 0 1) → (1 ≤ (x0 : Int)) → (Z9 11 hb 0 0 = kc0) → (Z9 11 hb 0 1 = kc1) → (Z9 11 hb 0 2 = kc2) → (Z9 11 hb 0 4 = kc3) → (Z9 11 hb 0 5 = kc4) → (Z9 11 hb 0 7 = kc5) → (Z9 11 hb 0 8 = kc6) → (Z9 11 hb 0 9 = kc7) → (Z9 200 0 0 1 = kc8) → (Z9 200 0 0 2 = kc9) → (Z9 200 x0 0 1 = kc10) → (Z9 200 x0 0 1 ≤ yx3) → zE T ((Z9, yx3)) → k 0 (L9, [], zm Z9 ν)) : wz_loop qb_148_3 65536 k R (L, [], zm Z ν) := by
  refine wz_lp sb_148_3 (fun m x => ∃ Z : qz_Z, ∃ x3 : Int, qz_fg [true, true, true, true, false, false, false, false, false, false] x.1 = [some (.inr (.inr (some (200, x0, 0)))), some (.inl (i3 x1)), some (.inl (i3 x2)), some (.inl (i3 x3)), none, none, none, none, none, none] ∧ x.2 = ([], zm Z ν) ∧ zI (some (some (x0 : Int))) Z ∧ zK [11, 44, 200] Zs Z ∧ m = (12 - x3).toNat ∧ (0 ≤ x3 ∧ x3 ≤ 12) ∧ (Z 11 hb 0 3 = x3) ∧ (x3 ≤ Z 200 x0 0 1) ∧ (1 ≤ (x0 : Int)) ∧ (Z 11 hb 0 0 = kc0) ∧ (Z 11 hb 0 1 = kc1) ∧ (Z 11 hb 0 2 = kc2) ∧ (Z 11 hb 0 4 = kc3) ∧ (Z 11 hb 0 5 = kc4) ∧ (Z 11 hb 0 7 = kc5) ∧ (Z 11 hb 0 8 = kc6) ∧ (Z 11 hb 0 9 = kc7) ∧ (Z 200 0 0 1 = kc8) ∧ (Z 200 0 0 2 = kc9) ∧ (Z 200 x0 0 1 = kc10) ∧ zE T (zl_148_3 x0 hb x1 x2 (m + 1) Z x3)) ?_ 65536 ((12 - x3).toNat) _ (by omega) ⟨Z, x3, hL, rfl, hZ, hK, rfl, gx3, gr0, gr1, gr2, gr3, gr4, gr5, gr6, gr7, gr8, gr9, gr10, gr11, gr12, gr13, hP⟩
  clear hP gr0 gr1 gr2 gr3 gr4 gr5 gr6 gr7 gr8 gr9 gr10 gr11 gr12 gr13 gx3 hZ hK hL
  clear x3
  clear Z
  rintro m ⟨L, st, μ⟩ ⟨Z, x3, hL, hx, hZ, hK, hm, gx3, gr0, gr1, gr2, gr3, gr4, gr5, gr6, gr7, gr8, gr9, gr10, gr11, gr12, gr13, hP⟩
  cases hx
  refine fb_148_3 x0 (i3 x1) (i3 x2) (i3 x3) _ _ _ _ hL ?_
  have rs := zI_xs (n := x0) hZ
  refine wz_i1 (by rw [tsn]; rfl) ?_
  have r1 := zI_xs (n := x0) hZ
  refine wz_br (i3Le (zm_rd (Z := Z) (ν := ν) (k := 200) (rfl : ((x0 : Nat) : Int) = x0) (show ((0 : Nat) : Int) = 0 from rfl) (show ((1 : Nat) : Int) = 1 from rfl)) (rfl : i3 x3 = i3 x3) (by omega) (by omega) (by omega) (by omega)) (fun h2 => ?_) (fun h2 => ?_)
  · replace hP := zE_p hP h2
    exact hk _ _ _ (zconso rfl (zconso rfl (zconso rfl (zconso rfl (zconso rfl (zconso rfl (zconso rfl (zconso rfl (zconso rfl (zconso rfl rfl)))))))))) hZ hK (by omega) (by omega) (by omega) (by omega) (by omega) (by omega) (by omega) (by omega) (by omega) (by omega) (by omega) (by omega) (by omega) (by omega) (by omega) (by omega) hP
  · replace hP := zE_n hP h2
    refine wz_i1 (by rw [tsn]; rfl) ?_
    refine wz_i1 (by rw [tsn]; rfl) ?_
    refine wz_i1 (by rw [tsn]; rfl) ?_
    have r3 := zI_xr (n := x0) hZ
    obtain ⟨Z4, hZ4⟩ := zx (zu Z 200 x0 0 2 (((25173 * (Z 200 x0 0 2)) + 13849) % 65536))
    replace hP := zl_e hP hZ4
    have hZ4I := zI_x hZ hZ4 (by omega)
    have t5 : Z4 11 hb 0 0 = Z 11 hb 0 0 := zu_ne hZ4 (fun q => absurd q.1 (by decide))
    have t6 : Z4 11 hb 0 1 = Z 11 hb 0 1 := zu_ne hZ4 (fun q => absurd q.1 (by decide))
    have t7 : Z4 11 hb 0 2 = Z 11 hb 0 2 := zu_ne hZ4 (fun q => absurd q.1 (by decide))
    have t8 : Z4 11 hb 0 4 = Z 11 hb 0 4 := zu_ne hZ4 (fun q => absurd q.1 (by decide))
    have t9 : Z4 11 hb 0 5 = Z 11 hb 0 5 := zu_ne hZ4 (fun q => absurd q.1 (by decide))
    have t10 : Z4 11 hb 0 7 = Z 11 hb 0 7 := zu_ne hZ4 (fun q => absurd q.1 (by decide))
    have t11 : Z4 11 hb 0 8 = Z 11 hb 0 8 := zu_ne hZ4 (fun q => absurd q.1 (by decide))
    have t12 : Z4 11 hb 0 9 = Z 11 hb 0 9 := zu_ne hZ4 (fun q => absurd q.1 (by decide))
    have t13 : Z4 11 hb 0 3 = Z 11 hb 0 3 := zu_ne hZ4 (fun q => absurd q.1 (by decide))
    have t14 : Z4 200 0 0 1 = Z 200 0 0 1 := zu_ne hZ4 (fun q => absurd q.2.2.2 (by decide))
    have t15 : Z4 200 0 0 2 = Z 200 0 0 2 := zu_ne hZ4 (by omega)
    have t16 : Z4 200 x0 0 1 = Z 200 x0 0 1 := zu_ne hZ4 (fun q => absurd q.2.2.2 (by decide))
    have hZ4K := zK_u hK hZ4 (by decide)
    intro μ9 e9
    replace e9 := e9.trans (zm_wI (Z := Z) (ν := ν) hZ4 (rfl : ((x0 : Nat) : Int) = x0) (show ((0 : Nat) : Int) = 0 from rfl) (show ((2 : Nat) : Int) = 2 from rfl) (i3R (i3A (i3M (show (25173 : Int32) = i3 25173 from rfl) (zm_rd (Z := Z) (ν := ν) (k := 200) (rfl : ((x0 : Nat) : Int) = x0) (show ((0 : Nat) : Int) = 0 from rfl) (show ((2 : Nat) : Int) = 2 from rfl))) (show (13849 : Int32) = i3 13849 from rfl)) (show (65536 : Int32) = i3 65536 from rfl) (by omega) (by omega) (by omega) (by omega)))
    subst e9
    refine wz_i1 (by rw [tsn]; rfl) ?_
    refine wz_i0 (i3N0 (i3Mx (show (1 : Int32) = i3 1 from rfl) (rfl : i3 x2 = i3 x2) (by omega) (by omega) (by omega) (by omega)) (by omega) (by omega) (by omega)) ?_
    refine wz_i1 (by rw [tsn]; rfl) ?_
    refine wz_i1 (by rw [tsn]; rfl) ?_
    refine wz_i1 (by rw [tsn]; rfl) ?_
    have r17 := zI_xr (n := x0) hZ4I
    have q18 := zu_at hZ4
    obtain ⟨Z19, hZ19⟩ := zx (zu Z4 200 x0 0 2 (((25173 * (Z4 200 x0 0 2)) + 13849) % 65536))
    replace hP := zl_e hP hZ19
    have hZ19I := zI_x hZ4I hZ19 (by omega)
    have t20 : Z19 11 hb 0 0 = Z4 11 hb 0 0 := zu_ne hZ19 (fun q => absurd q.1 (by decide))
    have t21 : Z19 11 hb 0 1 = Z4 11 hb 0 1 := zu_ne hZ19 (fun q => absurd q.1 (by decide))
    have t22 : Z19 11 hb 0 2 = Z4 11 hb 0 2 := zu_ne hZ19 (fun q => absurd q.1 (by decide))
    have t23 : Z19 11 hb 0 4 = Z4 11 hb 0 4 := zu_ne hZ19 (fun q => absurd q.1 (by decide))
    have t24 : Z19 11 hb 0 5 = Z4 11 hb 0 5 := zu_ne hZ19 (fun q => absurd q.1 (by decide))
    have t25 : Z19 11 hb 0 7 = Z4 11 hb 0 7 := zu_ne hZ19 (fun q => absurd q.1 (by decide))
    have t26 : Z19 11 hb 0 8 = Z4 11 hb 0 8 := zu_ne hZ19 (fun q => absurd q.1 (by decide))
    have t27 : Z19 11 hb 0 9 = Z4 11 hb 0 9 := zu_ne hZ19 (fun q => absurd q.1 (by decide))
    have t28 : Z19 11 hb 0 3 = Z4 11 hb 0 3 := zu_ne hZ19 (fun q => absurd q.1 (by decide))
    have t29 : Z19 200 0 0 1 = Z4 200 0 0 1 := zu_ne hZ19 (fun q => absurd q.2.2.2 (by decide))
    have t30 : Z19 200 0 0 2 = Z4 200 0 0 2 := zu_ne hZ19 (by omega)
    have t31 : Z19 200 x0 0 1 = Z4 200 x0 0 1 := zu_ne hZ19 (fun q => absurd q.2.2.2 (by decide))
    have hZ19K := zK_u hZ4K hZ19 (by decide)
    intro μ9 e9
    replace e9 := e9.trans (zm_wI (Z := Z4) (ν := ν) hZ19 (rfl : ((x0 : Nat) : Int) = x0) (show ((0 : Nat) : Int) = 0 from rfl) (show ((2 : Nat) : Int) = 2 from rfl) (i3R (i3A (i3M (show (25173 : Int32) = i3 25173 from rfl) (zm_rd (Z := Z4) (ν := ν) (k := 200) (rfl : ((x0 : Nat) : Int) = x0) (show ((0 : Nat) : Int) = 0 from rfl) (show ((2 : Nat) : Int) = 2 from rfl))) (show (13849 : Int32) = i3 13849 from rfl)) (show (65536 : Int32) = i3 65536 from rfl) (by omega) (by omega) (by omega) (by omega)))
    subst e9
    refine wz_i1 (by rw [tsn]; rfl) ?_
    refine wz_i0 (i3N0 (i3Mx (show (1 : Int32) = i3 1 from rfl) (rfl : i3 x1 = i3 x1) (by omega) (by omega) (by omega) (by omega)) (by omega) (by omega) (by omega)) ?_
    refine wz_i1 (by rw [tsn]; rfl) ?_
    refine wz_i1 (by rw [tsn]; rfl) ?_
    refine wz_i1 (by rw [tsn]; rfl) ?_
    have r32 := zI_xr (n := x0) hZ19I
    have q33 := zu_at hZ19
    obtain ⟨Z34, hZ34⟩ := zx (zu Z19 200 x0 0 2 (((25173 * (Z19 200 x0 0 2)) + 13849) % 65536))
    replace hP := zl_e hP hZ34
    have hZ34I := zI_x hZ19I hZ34 (by omega)
    have t35 : Z34 11 hb 0 0 = Z19 11 hb 0 0 := zu_ne hZ34 (fun q => absurd q.1 (by decide))
    have t36 : Z34 11 hb 0 1 = Z19 11 hb 0 1 := zu_ne hZ34 (fun q => absurd q.1 (by decide))
    have t37 : Z34 11 hb 0 2 = Z19 11 hb 0 2 := zu_ne hZ34 (fun q => absurd q.1 (by decide))
    have t38 : Z34 11 hb 0 4 = Z19 11 hb 0 4 := zu_ne hZ34 (fun q => absurd q.1 (by decide))
    have t39 : Z34 11 hb 0 5 = Z19 11 hb 0 5 := zu_ne hZ34 (fun q => absurd q.1 (by decide))
    have t40 : Z34 11 hb 0 7 = Z19 11 hb 0 7 := zu_ne hZ34 (fun q => absurd q.1 (by decide))
    have t41 : Z34 11 hb 0 8 = Z19 11 hb 0 8 := zu_ne hZ34 (fun q => absurd q.1 (by decide))
    have t42 : Z34 11 hb 0 9 = Z19 11 hb 0 9 := zu_ne hZ34 (fun q => absurd q.1 (by decide))
    have t43 : Z34 11 hb 0 3 = Z19 11 hb 0 3 := zu_ne hZ34 (fun q => absurd q.1 (by decide))
    have t44 : Z34 200 0 0 1 = Z19 200 0 0 1 := zu_ne hZ34 (fun q => absurd q.2.2.2 (by decide))
    have t45 : Z34 200 0 0 2 = Z19 200 0 0 2 := zu_ne hZ34 (by omega)
    have t46 : Z34 200 x0 0 1 = Z19 200 x0 0 1 := zu_ne hZ34 (fun q => absurd q.2.2.2 (by decide))
    have hZ34K := zK_u hZ19K hZ34 (by decide)
    intro μ9 e9
    replace e9 := e9.trans (zm_wI (Z := Z19) (ν := ν) hZ34 (rfl : ((x0 : Nat) : Int) = x0) (show ((0 : Nat) : Int) = 0 from rfl) (show ((2 : Nat) : Int) = 2 from rfl) (i3R (i3A (i3M (show (25173 : Int32) = i3 25173 from rfl) (zm_rd (Z := Z19) (ν := ν) (k := 200) (rfl : ((x0 : Nat) : Int) = x0) (show ((0 : Nat) : Int) = 0 from rfl) (show ((2 : Nat) : Int) = 2 from rfl))) (show (13849 : Int32) = i3 13849 from rfl)) (show (65536 : Int32) = i3 65536 from rfl) (by omega) (by omega) (by omega) (by omega)))
    subst e9
    refine wz_i1 (by rw [tsn]; rfl) ?_
    refine wz_i1 (by rw [tsn]; rfl) ?_
    refine wz_i1 (by rw [tsn]; rfl) ?_
    refine wz_i1 (by rw [tsn]; rfl) ?_
    have r47 := zI_xr (n := x0) hZ34I
    have q48 := zu_at hZ34
    obtain ⟨Z49, hZ49⟩ := zx (zu Z34 200 x0 0 2 (((25173 * (Z34 200 x0 0 2)) + 13849) % 65536))
    replace hP := zl_e hP hZ49
    have hZ49I := zI_x hZ34I hZ49 (by omega)
    have t50 : Z49 11 hb 0 0 = Z34 11 hb 0 0 := zu_ne hZ49 (fun q => absurd q.1 (by decide))
    have t51 : Z49 11 hb 0 1 = Z34 11 hb 0 1 := zu_ne hZ49 (fun q => absurd q.1 (by decide))
    have t52 : Z49 11 hb 0 2 = Z34 11 hb 0 2 := zu_ne hZ49 (fun q => absurd q.1 (by decide))
    have t53 : Z49 11 hb 0 4 = Z34 11 hb 0 4 := zu_ne hZ49 (fun q => absurd q.1 (by decide))
    have t54 : Z49 11 hb 0 5 = Z34 11 hb 0 5 := zu_ne hZ49 (fun q => absurd q.1 (by decide))
    have t55 : Z49 11 hb 0 7 = Z34 11 hb 0 7 := zu_ne hZ49 (fun q => absurd q.1 (by decide))
    have t56 : Z49 11 hb 0 8 = Z34 11 hb 0 8 := zu_ne hZ49 (fun q => absurd q.1 (by decide))
    have t57 : Z49 11 hb 0 9 = Z34 11 hb 0 9 := zu_ne hZ49 (fun q => absurd q.1 (by decide))
    have t58 : Z49 11 hb 0 3 = Z34 11 hb 0 3 := zu_ne hZ49 (fun q => absurd q.1 (by decide))
    have t59 : Z49 200 0 0 1 = Z34 200 0 0 1 := zu_ne hZ49 (fun q => absurd q.2.2.2 (by decide))
    have t60 : Z49 200 0 0 2 = Z34 200 0 0 2 := zu_ne hZ49 (by omega)
    have t61 : Z49 200 x0 0 1 = Z34 200 x0 0 1 := zu_ne hZ49 (fun q => absurd q.2.2.2 (by decide))
    have hZ49K := zK_u hZ34K hZ49 (by decide)
    intro μ9 e9
    replace e9 := e9.trans (zm_wI (Z := Z34) (ν := ν) hZ49 (rfl : ((x0 : Nat) : Int) = x0) (show ((0 : Nat) : Int) = 0 from rfl) (show ((2 : Nat) : Int) = 2 from rfl) (i3R (i3A (i3M (show (25173 : Int32) = i3 25173 from rfl) (zm_rd (Z := Z34) (ν := ν) (k := 200) (rfl : ((x0 : Nat) : Int) = x0) (show ((0 : Nat) : Int) = 0 from rfl) (show ((2 : Nat) : Int) = 2 from rfl))) (show (13849 : Int32) = i3 13849 from rfl)) (show (65536 : Int32) = i3 65536 from rfl) (by omega) (by omega) (by omega) (by omega)))
    subst e9
    refine wz_i1 (by rw [tsn]; rfl) ?_
    refine wz_i1 (by rw [tsn]; rfl) ?_
    refine wz_rko (rsn _) ?_
    refine wz_i1 rfl ?_
    refine wz_rko (r := (22, _, _)) rfl ?_
    refine wz_i1 rfl ?_
    have r62 := z_mod ((Z4 200 x0 0 2) / 16) (y := (max 1 x2)) (by omega)
    refine wz_i0 (i3O (n := 6) (i3R (i3D (zm_rd (Z := Z4) (ν := ν) (k := 200) (rfl : ((x0 : Nat) : Int) = x0) (show ((0 : Nat) : Int) = 0 from rfl) (show ((2 : Nat) : Int) = 2 from rfl)) (show (16 : Int32) = i3 16 from rfl) (by omega) (by omega) (by omega) (by omega)) (i3Mx (show (1 : Int32) = i3 1 from rfl) (rfl : i3 x2 = i3 x2) (by omega) (by omega) (by omega) (by omega)) (by omega) (by omega) (by omega) (by omega)) (by omega) (by omega) (by omega)) ?_
    refine wz_rko (r := (42, _, _)) rfl ?_
    refine wz_i1 rfl ?_
    refine wz_i0 (i3O (n := 7) (show (1 : Int32) = i3 1 from rfl) (by omega) (by omega) (by omega)) ?_
    refine wz_i1 (by rw [tsn]; rfl) ?_
    refine wz_i1 (by rw [tsn]; rfl) ?_
    refine wz_i1 (by rw [tsn]; rfl) ?_
    have r63 := zI_xr (n := x0) hZ49I
    have q64 := zu_at hZ49
    obtain ⟨Z65, hZ65⟩ := zx (zu Z49 200 x0 0 2 (((25173 * (Z49 200 x0 0 2)) + 13849) % 65536))
    replace hP := zl_e hP hZ65
    have hZ65I := zI_x hZ49I hZ65 (by omega)
    have t66 : Z65 11 hb 0 0 = Z49 11 hb 0 0 := zu_ne hZ65 (fun q => absurd q.1 (by decide))
    have t67 : Z65 11 hb 0 1 = Z49 11 hb 0 1 := zu_ne hZ65 (fun q => absurd q.1 (by decide))
    have t68 : Z65 11 hb 0 2 = Z49 11 hb 0 2 := zu_ne hZ65 (fun q => absurd q.1 (by decide))
    have t69 : Z65 11 hb 0 4 = Z49 11 hb 0 4 := zu_ne hZ65 (fun q => absurd q.1 (by decide))
    have t70 : Z65 11 hb 0 5 = Z49 11 hb 0 5 := zu_ne hZ65 (fun q => absurd q.1 (by decide))
    have t71 : Z65 11 hb 0 7 = Z49 11 hb 0 7 := zu_ne hZ65 (fun q => absurd q.1 (by decide))
    have t72 : Z65 11 hb 0 8 = Z49 11 hb 0 8 := zu_ne hZ65 (fun q => absurd q.1 (by decide))
    have t73 : Z65 11 hb 0 9 = Z49 11 hb 0 9 := zu_ne hZ65 (fun q => absurd q.1 (by decide))
    have t74 : Z65 11 hb 0 3 = Z49 11 hb 0 3 := zu_ne hZ65 (fun q => absurd q.1 (by decide))
    have t75 : Z65 200 0 0 1 = Z49 200 0 0 1 := zu_ne hZ65 (fun q => absurd q.2.2.2 (by decide))
    have t76 : Z65 200 0 0 2 = Z49 200 0 0 2 := zu_ne hZ65 (by omega)
    have t77 : Z65 200 x0 0 1 = Z49 200 x0 0 1 := zu_ne hZ65 (fun q => absurd q.2.2.2 (by decide))
    have hZ65K := zK_u hZ49K hZ65 (by decide)
    intro μ9 e9
    replace e9 := e9.trans (zm_wI (Z := Z49) (ν := ν) hZ65 (rfl : ((x0 : Nat) : Int) = x0) (show ((0 : Nat) : Int) = 0 from rfl) (show ((2 : Nat) : Int) = 2 from rfl) (i3R (i3A (i3M (show (25173 : Int32) = i3 25173 from rfl) (zm_rd (Z := Z49) (ν := ν) (k := 200) (rfl : ((x0 : Nat) : Int) = x0) (show ((0 : Nat) : Int) = 0 from rfl) (show ((2 : Nat) : Int) = 2 from rfl))) (show (13849 : Int32) = i3 13849 from rfl)) (show (65536 : Int32) = i3 65536 from rfl) (by omega) (by omega) (by omega) (by omega)))
    subst e9
    refine wz_i1 (by rw [tsn]; rfl) ?_
    have r78 := zI_k hZ49I 42 hb (((Z4 200 x0 0 2) / 16) % (max 1 x2)) 1 (lo := 0) (hi := 9) (by decide) rfl
    have r79 := z_mul (x := (1 + (((Z34 200 x0 0 2) / 16) % 40))) (y := (10 - (Z49 42 hb (((Z4 200 x0 0 2) / 16) % (max 1 x2)) 1))) (a := 40) (b := 10) (by omega) (by omega) (by omega) (by omega)
    refine wz_i0 (i3N0 (i3Mx (show (1 : Int32) = i3 1 from rfl) (i3A (i3D (i3M (i3A (show (1 : Int32) = i3 1 from rfl) (i3R (i3D (zm_rd (Z := Z34) (ν := ν) (k := 200) (rfl : ((x0 : Nat) : Int) = x0) (show ((0 : Nat) : Int) = 0 from rfl) (show ((2 : Nat) : Int) = 2 from rfl)) (show (16 : Int32) = i3 16 from rfl) (by omega) (by omega) (by omega) (by omega)) (show (40 : Int32) = i3 40 from rfl) (by omega) (by omega) (by omega) (by omega))) (i3S (show (10 : Int32) = i3 10 from rfl) (zm_rd (Z := Z49) (ν := ν) (k := 42) (rfl : ((hb : Nat) : Int) = hb) (i3I (y := (((Z4 200 x0 0 2) / 16) % (max 1 x2))) (i3R (i3D (zm_rd (Z := Z4) (ν := ν) (k := 200) (rfl : ((x0 : Nat) : Int) = x0) (show ((0 : Nat) : Int) = 0 from rfl) (show ((2 : Nat) : Int) = 2 from rfl)) (show (16 : Int32) = i3 16 from rfl) (by omega) (by omega) (by omega) (by omega)) (i3Mx (show (1 : Int32) = i3 1 from rfl) (rfl : i3 x2 = i3 x2) (by omega) (by omega) (by omega) (by omega)) (by omega) (by omega) (by omega) (by omega)) (by omega) (by omega) (by omega)) (show ((1 : Nat) : Int) = 1 from rfl)))) (show (10 : Int32) = i3 10 from rfl) (by omega) (by omega) (by omega) (by omega)) (show (1 : Int32) = i3 1 from rfl)) (by omega) (by omega) (by omega) (by omega)) (by omega) (by omega) (by omega)) ?_
    refine wz_i1 (by rw [tsn]; rfl) ?_
    refine wz_rko (rsn _) ?_
    refine wz_i1 rfl ?_
    refine wz_rko (r := (24, _, _)) rfl ?_
    refine wz_i1 rfl ?_
    refine wz_rko (r := (11, _, _)) rfl ?_
    refine wz_i1 rfl ?_
    refine wz_i0 (i3O (n := 17) (show (3 : Int32) = i3 3 from rfl) (by omega) (by omega) (by omega)) ?_
    refine wz_i1 rfl ?_
    have r80 := zI_k hZ65I 11 hb 0 3 (lo := 0) (hi := 48) (by decide) rfl
    refine wz_i0 (i3O (n := 48) (zm_rd (Z := Z65) (ν := ν) (k := 11) (rfl : ((hb : Nat) : Int) = hb) (show ((0 : Nat) : Int) = 0 from rfl) (show ((3 : Nat) : Int) = 3 from rfl)) (by omega) (by omega) (by omega)) ?_
    refine wz_rko (r := (44, _, _)) rfl ?_
    refine wz_i1 rfl ?_
    refine wz_i0 (i3O (n := 16) (show (0 : Int32) = i3 0 from rfl) (by omega) (by omega) (by omega)) ?_
    obtain ⟨Z81, hZ81⟩ := zx (zu Z65 44 hb (Z65 11 hb 0 3) 0 (((Z4 200 x0 0 2) / 16) % (max 1 x2)))
    replace hP := zl_e hP hZ81
    have hZ81I := zI_u hZ65I hZ81 (lo := 0) (hi := 5) (by decide) rfl (by omega) ⟨by decide, by decide⟩ (Or.inl (by decide))
    have t82 : Z81 11 hb 0 0 = Z65 11 hb 0 0 := zu_ne hZ81 (fun q => absurd q.1 (by decide))
    have t83 : Z81 11 hb 0 1 = Z65 11 hb 0 1 := zu_ne hZ81 (fun q => absurd q.1 (by decide))
    have t84 : Z81 11 hb 0 2 = Z65 11 hb 0 2 := zu_ne hZ81 (fun q => absurd q.1 (by decide))
    have t85 : Z81 11 hb 0 4 = Z65 11 hb 0 4 := zu_ne hZ81 (fun q => absurd q.1 (by decide))
    have t86 : Z81 11 hb 0 5 = Z65 11 hb 0 5 := zu_ne hZ81 (fun q => absurd q.1 (by decide))
    have t87 : Z81 11 hb 0 7 = Z65 11 hb 0 7 := zu_ne hZ81 (fun q => absurd q.1 (by decide))
    have t88 : Z81 11 hb 0 8 = Z65 11 hb 0 8 := zu_ne hZ81 (fun q => absurd q.1 (by decide))
    have t89 : Z81 11 hb 0 9 = Z65 11 hb 0 9 := zu_ne hZ81 (fun q => absurd q.1 (by decide))
    have t90 : Z81 11 hb 0 3 = Z65 11 hb 0 3 := zu_ne hZ81 (fun q => absurd q.1 (by decide))
    have t91 : Z81 200 0 0 1 = Z65 200 0 0 1 := zu_ne hZ81 (fun q => absurd q.1 (by decide))
    have t92 : Z81 200 0 0 2 = Z65 200 0 0 2 := zu_ne hZ81 (fun q => absurd q.1 (by decide))
    have t93 : Z81 200 x0 0 1 = Z65 200 x0 0 1 := zu_ne hZ81 (fun q => absurd q.1 (by decide))
    have hZ81K := zK_u hZ65K hZ81 (by decide)
    intro μ9 e9
    replace e9 := e9.trans (zm_wI (Z := Z65) (ν := ν) hZ81 (rfl : ((hb : Nat) : Int) = hb) (i3I (y := (Z65 11 hb 0 3)) (zm_rd (Z := Z65) (ν := ν) (k := 11) (rfl : ((hb : Nat) : Int) = hb) (show ((0 : Nat) : Int) = 0 from rfl) (show ((3 : Nat) : Int) = 3 from rfl)) (by omega) (by omega) (by omega)) (show ((0 : Nat) : Int) = 0 from rfl) (i3R (i3D (zm_rd (Z := Z4) (ν := ν) (k := 200) (rfl : ((x0 : Nat) : Int) = x0) (show ((0 : Nat) : Int) = 0 from rfl) (show ((2 : Nat) : Int) = 2 from rfl)) (show (16 : Int32) = i3 16 from rfl) (by omega) (by omega) (by omega) (by omega)) (i3Mx (show (1 : Int32) = i3 1 from rfl) (rfl : i3 x2 = i3 x2) (by omega) (by omega) (by omega) (by omega)) (by omega) (by omega) (by omega) (by omega)))
    subst e9
    refine wz_i1 rfl ?_
    refine wz_i0 (i3O (n := 16) (show (1 : Int32) = i3 1 from rfl) (by omega) (by omega) (by omega)) ?_
    have r94 := z_mod ((Z19 200 x0 0 2) / 16) (y := (max 1 x1)) (by omega)
    obtain ⟨Z95, hZ95⟩ := zx (zu Z81 44 hb (Z65 11 hb 0 3) 1 (((Z19 200 x0 0 2) / 16) % (max 1 x1)))
    replace hP := zl_e hP hZ95
    have hZ95I := zI_u hZ81I hZ95 (lo := 0) (hi := 4) (by decide) rfl (by omega) ⟨by decide, by decide⟩ (Or.inl (by decide))
    have t96 : Z95 11 hb 0 0 = Z81 11 hb 0 0 := zu_ne hZ95 (fun q => absurd q.1 (by decide))
    have t97 : Z95 11 hb 0 1 = Z81 11 hb 0 1 := zu_ne hZ95 (fun q => absurd q.1 (by decide))
    have t98 : Z95 11 hb 0 2 = Z81 11 hb 0 2 := zu_ne hZ95 (fun q => absurd q.1 (by decide))
    have t99 : Z95 11 hb 0 4 = Z81 11 hb 0 4 := zu_ne hZ95 (fun q => absurd q.1 (by decide))
    have t100 : Z95 11 hb 0 5 = Z81 11 hb 0 5 := zu_ne hZ95 (fun q => absurd q.1 (by decide))
    have t101 : Z95 11 hb 0 7 = Z81 11 hb 0 7 := zu_ne hZ95 (fun q => absurd q.1 (by decide))
    have t102 : Z95 11 hb 0 8 = Z81 11 hb 0 8 := zu_ne hZ95 (fun q => absurd q.1 (by decide))
    have t103 : Z95 11 hb 0 9 = Z81 11 hb 0 9 := zu_ne hZ95 (fun q => absurd q.1 (by decide))
    have t104 : Z95 11 hb 0 3 = Z81 11 hb 0 3 := zu_ne hZ95 (fun q => absurd q.1 (by decide))
    have t105 : Z95 200 0 0 1 = Z81 200 0 0 1 := zu_ne hZ95 (fun q => absurd q.1 (by decide))
    have t106 : Z95 200 0 0 2 = Z81 200 0 0 2 := zu_ne hZ95 (fun q => absurd q.1 (by decide))
    have t107 : Z95 200 x0 0 1 = Z81 200 x0 0 1 := zu_ne hZ95 (fun q => absurd q.1 (by decide))
    have hZ95K := zK_u hZ81K hZ95 (by decide)
    intro μ9 e9
    replace e9 := e9.trans (zm_wI (Z := Z81) (ν := ν) hZ95 (rfl : ((hb : Nat) : Int) = hb) (i3I (y := (Z65 11 hb 0 3)) (zm_rd (Z := Z65) (ν := ν) (k := 11) (rfl : ((hb : Nat) : Int) = hb) (show ((0 : Nat) : Int) = 0 from rfl) (show ((3 : Nat) : Int) = 3 from rfl)) (by omega) (by omega) (by omega)) (show ((1 : Nat) : Int) = 1 from rfl) (i3R (i3D (zm_rd (Z := Z19) (ν := ν) (k := 200) (rfl : ((x0 : Nat) : Int) = x0) (show ((0 : Nat) : Int) = 0 from rfl) (show ((2 : Nat) : Int) = 2 from rfl)) (show (16 : Int32) = i3 16 from rfl) (by omega) (by omega) (by omega) (by omega)) (i3Mx (show (1 : Int32) = i3 1 from rfl) (rfl : i3 x1 = i3 x1) (by omega) (by omega) (by omega) (by omega)) (by omega) (by omega) (by omega) (by omega)))
    subst e9
    refine wz_i1 rfl ?_
    refine wz_rko (r := (11, _, _)) rfl ?_
    refine wz_i1 rfl ?_
    refine wz_i0 (i3O (n := 17) (show (13 : Int32) = i3 13 from rfl) (by omega) (by omega) (by omega)) ?_
    refine wz_i1 rfl ?_
    refine wz_i0 (i3O (n := 16) (show (2 : Int32) = i3 2 from rfl) (by omega) (by omega) (by omega)) ?_
    have r108 := zI_k hZ95I 11 hb 0 13 (lo := 0) (hi := 671) (by decide) rfl
    obtain ⟨Z109, hZ109⟩ := zx (zu Z95 44 hb (Z65 11 hb 0 3) 2 (Z95 11 hb 0 13))
    replace hP := zl_e hP hZ109
    have hZ109I := zI_u hZ95I hZ109 (lo := 0) (hi := 671) (by decide) rfl (by omega) ⟨by decide, by decide⟩ (Or.inl (by decide))
    have t110 : Z109 11 hb 0 0 = Z95 11 hb 0 0 := zu_ne hZ109 (fun q => absurd q.1 (by decide))
    have t111 : Z109 11 hb 0 1 = Z95 11 hb 0 1 := zu_ne hZ109 (fun q => absurd q.1 (by decide))
    have t112 : Z109 11 hb 0 2 = Z95 11 hb 0 2 := zu_ne hZ109 (fun q => absurd q.1 (by decide))
    have t113 : Z109 11 hb 0 4 = Z95 11 hb 0 4 := zu_ne hZ109 (fun q => absurd q.1 (by decide))
    have t114 : Z109 11 hb 0 5 = Z95 11 hb 0 5 := zu_ne hZ109 (fun q => absurd q.1 (by decide))
    have t115 : Z109 11 hb 0 7 = Z95 11 hb 0 7 := zu_ne hZ109 (fun q => absurd q.1 (by decide))
    have t116 : Z109 11 hb 0 8 = Z95 11 hb 0 8 := zu_ne hZ109 (fun q => absurd q.1 (by decide))
    have t117 : Z109 11 hb 0 9 = Z95 11 hb 0 9 := zu_ne hZ109 (fun q => absurd q.1 (by decide))
    have t118 : Z109 11 hb 0 3 = Z95 11 hb 0 3 := zu_ne hZ109 (fun q => absurd q.1 (by decide))
    have t119 : Z109 200 0 0 1 = Z95 200 0 0 1 := zu_ne hZ109 (fun q => absurd q.1 (by decide))
    have t120 : Z109 200 0 0 2 = Z95 200 0 0 2 := zu_ne hZ109 (fun q => absurd q.1 (by decide))
    have t121 : Z109 200 x0 0 1 = Z95 200 x0 0 1 := zu_ne hZ109 (fun q => absurd q.1 (by decide))
    have hZ109K := zK_u hZ95K hZ109 (by decide)
    intro μ9 e9
    replace e9 := e9.trans (zm_wI (Z := Z95) (ν := ν) hZ109 (rfl : ((hb : Nat) : Int) = hb) (i3I (y := (Z65 11 hb 0 3)) (zm_rd (Z := Z65) (ν := ν) (k := 11) (rfl : ((hb : Nat) : Int) = hb) (show ((0 : Nat) : Int) = 0 from rfl) (show ((3 : Nat) : Int) = 3 from rfl)) (by omega) (by omega) (by omega)) (show ((2 : Nat) : Int) = 2 from rfl) (zm_rd (Z := Z95) (ν := ν) (k := 11) (rfl : ((hb : Nat) : Int) = hb) (show ((0 : Nat) : Int) = 0 from rfl) (show ((13 : Nat) : Int) = 13 from rfl)))
    subst e9
    refine wz_i1 rfl ?_
    refine wz_i0 (i3O (n := 16) (show (3 : Int32) = i3 3 from rfl) (by omega) (by omega) (by omega)) ?_
    obtain ⟨Z122, hZ122⟩ := zx (zu Z109 44 hb (Z65 11 hb 0 3) 3 (1 + (((Z34 200 x0 0 2) / 16) % 40)))
    replace hP := zl_e hP hZ122
    have hZ122I := zI_u hZ109I hZ122 (lo := 0) (hi := 40) (by decide) rfl (by omega) ⟨by decide, by decide⟩ (Or.inl (by decide))
    have t123 : Z122 11 hb 0 0 = Z109 11 hb 0 0 := zu_ne hZ122 (fun q => absurd q.1 (by decide))
    have t124 : Z122 11 hb 0 1 = Z109 11 hb 0 1 := zu_ne hZ122 (fun q => absurd q.1 (by decide))
    have t125 : Z122 11 hb 0 2 = Z109 11 hb 0 2 := zu_ne hZ122 (fun q => absurd q.1 (by decide))
    have t126 : Z122 11 hb 0 4 = Z109 11 hb 0 4 := zu_ne hZ122 (fun q => absurd q.1 (by decide))
    have t127 : Z122 11 hb 0 5 = Z109 11 hb 0 5 := zu_ne hZ122 (fun q => absurd q.1 (by decide))
    have t128 : Z122 11 hb 0 7 = Z109 11 hb 0 7 := zu_ne hZ122 (fun q => absurd q.1 (by decide))
    have t129 : Z122 11 hb 0 8 = Z109 11 hb 0 8 := zu_ne hZ122 (fun q => absurd q.1 (by decide))
    have t130 : Z122 11 hb 0 9 = Z109 11 hb 0 9 := zu_ne hZ122 (fun q => absurd q.1 (by decide))
    have t131 : Z122 11 hb 0 3 = Z109 11 hb 0 3 := zu_ne hZ122 (fun q => absurd q.1 (by decide))
    have t132 : Z122 200 0 0 1 = Z109 200 0 0 1 := zu_ne hZ122 (fun q => absurd q.1 (by decide))
    have t133 : Z122 200 0 0 2 = Z109 200 0 0 2 := zu_ne hZ122 (fun q => absurd q.1 (by decide))
    have t134 : Z122 200 x0 0 1 = Z109 200 x0 0 1 := zu_ne hZ122 (fun q => absurd q.1 (by decide))
    have hZ122K := zK_u hZ109K hZ122 (by decide)
    intro μ9 e9
    replace e9 := e9.trans (zm_wI (Z := Z109) (ν := ν) hZ122 (rfl : ((hb : Nat) : Int) = hb) (i3I (y := (Z65 11 hb 0 3)) (zm_rd (Z := Z65) (ν := ν) (k := 11) (rfl : ((hb : Nat) : Int) = hb) (show ((0 : Nat) : Int) = 0 from rfl) (show ((3 : Nat) : Int) = 3 from rfl)) (by omega) (by omega) (by omega)) (show ((3 : Nat) : Int) = 3 from rfl) (i3A (show (1 : Int32) = i3 1 from rfl) (i3R (i3D (zm_rd (Z := Z34) (ν := ν) (k := 200) (rfl : ((x0 : Nat) : Int) = x0) (show ((0 : Nat) : Int) = 0 from rfl) (show ((2 : Nat) : Int) = 2 from rfl)) (show (16 : Int32) = i3 16 from rfl) (by omega) (by omega) (by omega) (by omega)) (show (40 : Int32) = i3 40 from rfl) (by omega) (by omega) (by omega) (by omega))))
    subst e9
    refine wz_i1 rfl ?_
    refine wz_i0 (i3O (n := 16) (show (4 : Int32) = i3 4 from rfl) (by omega) (by omega) (by omega)) ?_
    obtain ⟨Z135, hZ135⟩ := zx (zu Z122 44 hb (Z65 11 hb 0 3) 4 (1 + (((Z34 200 x0 0 2) / 16) % 40)))
    replace hP := zl_e hP hZ135
    have hZ135I := zI_u hZ122I hZ135 (lo := 0) (hi := 40) (by decide) rfl (by omega) ⟨by decide, by decide⟩ (Or.inl (by decide))
    have t136 : Z135 11 hb 0 0 = Z122 11 hb 0 0 := zu_ne hZ135 (fun q => absurd q.1 (by decide))
    have t137 : Z135 11 hb 0 1 = Z122 11 hb 0 1 := zu_ne hZ135 (fun q => absurd q.1 (by decide))
    have t138 : Z135 11 hb 0 2 = Z122 11 hb 0 2 := zu_ne hZ135 (fun q => absurd q.1 (by decide))
    have t139 : Z135 11 hb 0 4 = Z122 11 hb 0 4 := zu_ne hZ135 (fun q => absurd q.1 (by decide))
    have t140 : Z135 11 hb 0 5 = Z122 11 hb 0 5 := zu_ne hZ135 (fun q => absurd q.1 (by decide))
    have t141 : Z135 11 hb 0 7 = Z122 11 hb 0 7 := zu_ne hZ135 (fun q => absurd q.1 (by decide))
    have t142 : Z135 11 hb 0 8 = Z122 11 hb 0 8 := zu_ne hZ135 (fun q => absurd q.1 (by decide))
    have t143 : Z135 11 hb 0 9 = Z122 11 hb 0 9 := zu_ne hZ135 (fun q => absurd q.1 (by decide))
    have t144 : Z135 11 hb 0 3 = Z122 11 hb 0 3 := zu_ne hZ135 (fun q => absurd q.1 (by decide))
    have t145 : Z135 200 0 0 1 = Z122 200 0 0 1 := zu_ne hZ135 (fun q => absurd q.1 (by decide))
    have t146 : Z135 200 0 0 2 = Z122 200 0 0 2 := zu_ne hZ135 (fun q => absurd q.1 (by decide))
    have t147 : Z135 200 x0 0 1 = Z122 200 x0 0 1 := zu_ne hZ135 (fun q => absurd q.1 (by decide))
    have hZ135K := zK_u hZ122K hZ135 (by decide)
    intro μ9 e9
    replace e9 := e9.trans (zm_wI (Z := Z122) (ν := ν) hZ135 (rfl : ((hb : Nat) : Int) = hb) (i3I (y := (Z65 11 hb 0 3)) (zm_rd (Z := Z65) (ν := ν) (k := 11) (rfl : ((hb : Nat) : Int) = hb) (show ((0 : Nat) : Int) = 0 from rfl) (show ((3 : Nat) : Int) = 3 from rfl)) (by omega) (by omega) (by omega)) (show ((4 : Nat) : Int) = 4 from rfl) (i3A (show (1 : Int32) = i3 1 from rfl) (i3R (i3D (zm_rd (Z := Z34) (ν := ν) (k := 200) (rfl : ((x0 : Nat) : Int) = x0) (show ((0 : Nat) : Int) = 0 from rfl) (show ((2 : Nat) : Int) = 2 from rfl)) (show (16 : Int32) = i3 16 from rfl) (by omega) (by omega) (by omega) (by omega)) (show (40 : Int32) = i3 40 from rfl) (by omega) (by omega) (by omega) (by omega))))
    subst e9
    refine wz_i1 rfl ?_
    refine wz_i0 (i3O (n := 16) (show (5 : Int32) = i3 5 from rfl) (by omega) (by omega) (by omega)) ?_
    have r148 := zI_xr (n := x0) hZ65I
    have q149 := zu_at hZ65
    have r150 := z_mod ((Z65 200 x0 0 2) / 16) (y := (max 1 ((((1 + (((Z34 200 x0 0 2) / 16) % 40)) * (10 - (Z49 42 hb (((Z4 200 x0 0 2) / 16) % (max 1 x2)) 1))) / 10) + 1))) (by omega)
    obtain ⟨Z151, hZ151⟩ := zx (zu Z135 44 hb (Z65 11 hb 0 3) 5 (((Z65 200 x0 0 2) / 16) % (max 1 ((((1 + (((Z34 200 x0 0 2) / 16) % 40)) * (10 - (Z49 42 hb (((Z4 200 x0 0 2) / 16) % (max 1 x2)) 1))) / 10) + 1))))
    replace hP := zl_e hP hZ151
    have hZ151I := zI_u hZ135I hZ151 (lo := 0) (hi := 40) (by decide) rfl (by omega) ⟨by decide, by decide⟩ (Or.inl (by decide))
    have t152 : Z151 11 hb 0 0 = Z135 11 hb 0 0 := zu_ne hZ151 (fun q => absurd q.1 (by decide))
    have t153 : Z151 11 hb 0 1 = Z135 11 hb 0 1 := zu_ne hZ151 (fun q => absurd q.1 (by decide))
    have t154 : Z151 11 hb 0 2 = Z135 11 hb 0 2 := zu_ne hZ151 (fun q => absurd q.1 (by decide))
    have t155 : Z151 11 hb 0 4 = Z135 11 hb 0 4 := zu_ne hZ151 (fun q => absurd q.1 (by decide))
    have t156 : Z151 11 hb 0 5 = Z135 11 hb 0 5 := zu_ne hZ151 (fun q => absurd q.1 (by decide))
    have t157 : Z151 11 hb 0 7 = Z135 11 hb 0 7 := zu_ne hZ151 (fun q => absurd q.1 (by decide))
    have t158 : Z151 11 hb 0 8 = Z135 11 hb 0 8 := zu_ne hZ151 (fun q => absurd q.1 (by decide))
    have t159 : Z151 11 hb 0 9 = Z135 11 hb 0 9 := zu_ne hZ151 (fun q => absurd q.1 (by decide))
    have t160 : Z151 11 hb 0 3 = Z135 11 hb 0 3 := zu_ne hZ151 (fun q => absurd q.1 (by decide))
    have t161 : Z151 200 0 0 1 = Z135 200 0 0 1 := zu_ne hZ151 (fun q => absurd q.1 (by decide))
    have t162 : Z151 200 0 0 2 = Z135 200 0 0 2 := zu_ne hZ151 (fun q => absurd q.1 (by decide))
    have t163 : Z151 200 x0 0 1 = Z135 200 x0 0 1 := zu_ne hZ151 (fun q => absurd q.1 (by decide))
    have hZ151K := zK_u hZ135K hZ151 (by decide)
    intro μ9 e9
    replace e9 := e9.trans (zm_wI (Z := Z135) (ν := ν) hZ151 (rfl : ((hb : Nat) : Int) = hb) (i3I (y := (Z65 11 hb 0 3)) (zm_rd (Z := Z65) (ν := ν) (k := 11) (rfl : ((hb : Nat) : Int) = hb) (show ((0 : Nat) : Int) = 0 from rfl) (show ((3 : Nat) : Int) = 3 from rfl)) (by omega) (by omega) (by omega)) (show ((5 : Nat) : Int) = 5 from rfl) (i3R (i3D (zm_rd (Z := Z65) (ν := ν) (k := 200) (rfl : ((x0 : Nat) : Int) = x0) (show ((0 : Nat) : Int) = 0 from rfl) (show ((2 : Nat) : Int) = 2 from rfl)) (show (16 : Int32) = i3 16 from rfl) (by omega) (by omega) (by omega) (by omega)) (i3Mx (show (1 : Int32) = i3 1 from rfl) (i3A (i3D (i3M (i3A (show (1 : Int32) = i3 1 from rfl) (i3R (i3D (zm_rd (Z := Z34) (ν := ν) (k := 200) (rfl : ((x0 : Nat) : Int) = x0) (show ((0 : Nat) : Int) = 0 from rfl) (show ((2 : Nat) : Int) = 2 from rfl)) (show (16 : Int32) = i3 16 from rfl) (by omega) (by omega) (by omega) (by omega)) (show (40 : Int32) = i3 40 from rfl) (by omega) (by omega) (by omega) (by omega))) (i3S (show (10 : Int32) = i3 10 from rfl) (zm_rd (Z := Z49) (ν := ν) (k := 42) (rfl : ((hb : Nat) : Int) = hb) (i3I (y := (((Z4 200 x0 0 2) / 16) % (max 1 x2))) (i3R (i3D (zm_rd (Z := Z4) (ν := ν) (k := 200) (rfl : ((x0 : Nat) : Int) = x0) (show ((0 : Nat) : Int) = 0 from rfl) (show ((2 : Nat) : Int) = 2 from rfl)) (show (16 : Int32) = i3 16 from rfl) (by omega) (by omega) (by omega) (by omega)) (i3Mx (show (1 : Int32) = i3 1 from rfl) (rfl : i3 x2 = i3 x2) (by omega) (by omega) (by omega) (by omega)) (by omega) (by omega) (by omega) (by omega)) (by omega) (by omega) (by omega)) (show ((1 : Nat) : Int) = 1 from rfl)))) (show (10 : Int32) = i3 10 from rfl) (by omega) (by omega) (by omega) (by omega)) (show (1 : Int32) = i3 1 from rfl)) (by omega) (by omega) (by omega) (by omega)) (by omega) (by omega) (by omega) (by omega)))
    subst e9
    refine wz_i1 rfl ?_
    refine wz_i0 (i3O (n := 16) (show (7 : Int32) = i3 7 from rfl) (by omega) (by omega) (by omega)) ?_
    obtain ⟨Z164, hZ164⟩ := zx (zu Z151 44 hb (Z65 11 hb 0 3) 7 (((Z49 200 x0 0 2) / 16) % 301))
    replace hP := zl_e hP hZ164
    have hZ164I := zI_u hZ151I hZ164 (lo := 0) (hi := 2000) (by decide) rfl (by omega) ⟨by decide, by decide⟩ (Or.inl (by decide))
    have t165 : Z164 11 hb 0 0 = Z151 11 hb 0 0 := zu_ne hZ164 (fun q => absurd q.1 (by decide))
    have t166 : Z164 11 hb 0 1 = Z151 11 hb 0 1 := zu_ne hZ164 (fun q => absurd q.1 (by decide))
    have t167 : Z164 11 hb 0 2 = Z151 11 hb 0 2 := zu_ne hZ164 (fun q => absurd q.1 (by decide))
    have t168 : Z164 11 hb 0 4 = Z151 11 hb 0 4 := zu_ne hZ164 (fun q => absurd q.1 (by decide))
    have t169 : Z164 11 hb 0 5 = Z151 11 hb 0 5 := zu_ne hZ164 (fun q => absurd q.1 (by decide))
    have t170 : Z164 11 hb 0 7 = Z151 11 hb 0 7 := zu_ne hZ164 (fun q => absurd q.1 (by decide))
    have t171 : Z164 11 hb 0 8 = Z151 11 hb 0 8 := zu_ne hZ164 (fun q => absurd q.1 (by decide))
    have t172 : Z164 11 hb 0 9 = Z151 11 hb 0 9 := zu_ne hZ164 (fun q => absurd q.1 (by decide))
    have t173 : Z164 11 hb 0 3 = Z151 11 hb 0 3 := zu_ne hZ164 (fun q => absurd q.1 (by decide))
    have t174 : Z164 200 0 0 1 = Z151 200 0 0 1 := zu_ne hZ164 (fun q => absurd q.1 (by decide))
    have t175 : Z164 200 0 0 2 = Z151 200 0 0 2 := zu_ne hZ164 (fun q => absurd q.1 (by decide))
    have t176 : Z164 200 x0 0 1 = Z151 200 x0 0 1 := zu_ne hZ164 (fun q => absurd q.1 (by decide))
    have hZ164K := zK_u hZ151K hZ164 (by decide)
    intro μ9 e9
    replace e9 := e9.trans (zm_wI (Z := Z151) (ν := ν) hZ164 (rfl : ((hb : Nat) : Int) = hb) (i3I (y := (Z65 11 hb 0 3)) (zm_rd (Z := Z65) (ν := ν) (k := 11) (rfl : ((hb : Nat) : Int) = hb) (show ((0 : Nat) : Int) = 0 from rfl) (show ((3 : Nat) : Int) = 3 from rfl)) (by omega) (by omega) (by omega)) (show ((7 : Nat) : Int) = 7 from rfl) (i3R (i3D (zm_rd (Z := Z49) (ν := ν) (k := 200) (rfl : ((x0 : Nat) : Int) = x0) (show ((0 : Nat) : Int) = 0 from rfl) (show ((2 : Nat) : Int) = 2 from rfl)) (show (16 : Int32) = i3 16 from rfl) (by omega) (by omega) (by omega) (by omega)) (show (301 : Int32) = i3 301 from rfl) (by omega) (by omega) (by omega) (by omega)))
    subst e9
    refine wz_i1 rfl ?_
    refine wz_i0 (i3O (n := 16) (show (9 : Int32) = i3 9 from rfl) (by omega) (by omega) (by omega)) ?_
    obtain ⟨Z177, hZ177⟩ := zx (zu Z164 44 hb (Z65 11 hb 0 3) 9 (-1))
    replace hP := zl_e hP hZ177
    have hZ177I := zI_u hZ164I hZ177 (lo := -1) (hi := 3) (by decide) rfl (by omega) ⟨by decide, by decide⟩ (Or.inl (by decide))
    have t178 : Z177 11 hb 0 0 = Z164 11 hb 0 0 := zu_ne hZ177 (fun q => absurd q.1 (by decide))
    have t179 : Z177 11 hb 0 1 = Z164 11 hb 0 1 := zu_ne hZ177 (fun q => absurd q.1 (by decide))
    have t180 : Z177 11 hb 0 2 = Z164 11 hb 0 2 := zu_ne hZ177 (fun q => absurd q.1 (by decide))
    have t181 : Z177 11 hb 0 4 = Z164 11 hb 0 4 := zu_ne hZ177 (fun q => absurd q.1 (by decide))
    have t182 : Z177 11 hb 0 5 = Z164 11 hb 0 5 := zu_ne hZ177 (fun q => absurd q.1 (by decide))
    have t183 : Z177 11 hb 0 7 = Z164 11 hb 0 7 := zu_ne hZ177 (fun q => absurd q.1 (by decide))
    have t184 : Z177 11 hb 0 8 = Z164 11 hb 0 8 := zu_ne hZ177 (fun q => absurd q.1 (by decide))
    have t185 : Z177 11 hb 0 9 = Z164 11 hb 0 9 := zu_ne hZ177 (fun q => absurd q.1 (by decide))
    have t186 : Z177 11 hb 0 3 = Z164 11 hb 0 3 := zu_ne hZ177 (fun q => absurd q.1 (by decide))
    have t187 : Z177 200 0 0 1 = Z164 200 0 0 1 := zu_ne hZ177 (fun q => absurd q.1 (by decide))
    have t188 : Z177 200 0 0 2 = Z164 200 0 0 2 := zu_ne hZ177 (fun q => absurd q.1 (by decide))
    have t189 : Z177 200 x0 0 1 = Z164 200 x0 0 1 := zu_ne hZ177 (fun q => absurd q.1 (by decide))
    have hZ177K := zK_u hZ164K hZ177 (by decide)
    intro μ9 e9
    replace e9 := e9.trans (zm_wI (Z := Z164) (ν := ν) hZ177 (rfl : ((hb : Nat) : Int) = hb) (i3I (y := (Z65 11 hb 0 3)) (zm_rd (Z := Z65) (ν := ν) (k := 11) (rfl : ((hb : Nat) : Int) = hb) (show ((0 : Nat) : Int) = 0 from rfl) (show ((3 : Nat) : Int) = 3 from rfl)) (by omega) (by omega) (by omega)) (show ((9 : Nat) : Int) = 9 from rfl) (show (-1 : Int32) = i3 (-1) from rfl))
    subst e9
    refine wz_i1 rfl ?_
    refine wz_i0 (i3O (n := 16) (show (10 : Int32) = i3 10 from rfl) (by omega) (by omega) (by omega)) ?_
    obtain ⟨Z190, hZ190⟩ := zx (zu Z177 44 hb (Z65 11 hb 0 3) 10 0)
    replace hP := zl_e hP hZ190
    have hZ190I := zI_0 hZ177I hZ190 (by decide) (Or.inl (by decide))
    have t191 : Z190 11 hb 0 0 = Z177 11 hb 0 0 := zu_ne hZ190 (fun q => absurd q.1 (by decide))
    have t192 : Z190 11 hb 0 1 = Z177 11 hb 0 1 := zu_ne hZ190 (fun q => absurd q.1 (by decide))
    have t193 : Z190 11 hb 0 2 = Z177 11 hb 0 2 := zu_ne hZ190 (fun q => absurd q.1 (by decide))
    have t194 : Z190 11 hb 0 4 = Z177 11 hb 0 4 := zu_ne hZ190 (fun q => absurd q.1 (by decide))
    have t195 : Z190 11 hb 0 5 = Z177 11 hb 0 5 := zu_ne hZ190 (fun q => absurd q.1 (by decide))
    have t196 : Z190 11 hb 0 7 = Z177 11 hb 0 7 := zu_ne hZ190 (fun q => absurd q.1 (by decide))
    have t197 : Z190 11 hb 0 8 = Z177 11 hb 0 8 := zu_ne hZ190 (fun q => absurd q.1 (by decide))
    have t198 : Z190 11 hb 0 9 = Z177 11 hb 0 9 := zu_ne hZ190 (fun q => absurd q.1 (by decide))
    have t199 : Z190 11 hb 0 3 = Z177 11 hb 0 3 := zu_ne hZ190 (fun q => absurd q.1 (by decide))
    have t200 : Z190 200 0 0 1 = Z177 200 0 0 1 := zu_ne hZ190 (fun q => absurd q.1 (by decide))
    have t201 : Z190 200 0 0 2 = Z177 200 0 0 2 := zu_ne hZ190 (fun q => absurd q.1 (by decide))
    have t202 : Z190 200 x0 0 1 = Z177 200 x0 0 1 := zu_ne hZ190 (fun q => absurd q.1 (by decide))
    have hZ190K := zK_u hZ177K hZ190 (by decide)
    intro μ9 e9
    replace e9 := e9.trans (zm_wI (Z := Z177) (ν := ν) hZ190 (rfl : ((hb : Nat) : Int) = hb) (i3I (y := (Z65 11 hb 0 3)) (zm_rd (Z := Z65) (ν := ν) (k := 11) (rfl : ((hb : Nat) : Int) = hb) (show ((0 : Nat) : Int) = 0 from rfl) (show ((3 : Nat) : Int) = 3 from rfl)) (by omega) (by omega) (by omega)) (show ((10 : Nat) : Int) = 10 from rfl) (show (0 : Int32) = i3 0 from rfl))
    subst e9
    refine wz_i1 rfl ?_
    refine wz_i0 (i3O (n := 16) (show (12 : Int32) = i3 12 from rfl) (by omega) (by omega) (by omega)) ?_
    obtain ⟨Z203, hZ203⟩ := zx (zu Z190 44 hb (Z65 11 hb 0 3) 12 6)
    replace hP := zl_e hP hZ203
    have hZ203I := zI_u hZ190I hZ203 (lo := -1) (hi := 6) (by decide) rfl (by omega) ⟨by decide, by decide⟩ (Or.inl (by decide))
    have t204 : Z203 11 hb 0 0 = Z190 11 hb 0 0 := zu_ne hZ203 (fun q => absurd q.1 (by decide))
    have t205 : Z203 11 hb 0 1 = Z190 11 hb 0 1 := zu_ne hZ203 (fun q => absurd q.1 (by decide))
    have t206 : Z203 11 hb 0 2 = Z190 11 hb 0 2 := zu_ne hZ203 (fun q => absurd q.1 (by decide))
    have t207 : Z203 11 hb 0 4 = Z190 11 hb 0 4 := zu_ne hZ203 (fun q => absurd q.1 (by decide))
    have t208 : Z203 11 hb 0 5 = Z190 11 hb 0 5 := zu_ne hZ203 (fun q => absurd q.1 (by decide))
    have t209 : Z203 11 hb 0 7 = Z190 11 hb 0 7 := zu_ne hZ203 (fun q => absurd q.1 (by decide))
    have t210 : Z203 11 hb 0 8 = Z190 11 hb 0 8 := zu_ne hZ203 (fun q => absurd q.1 (by decide))
    have t211 : Z203 11 hb 0 9 = Z190 11 hb 0 9 := zu_ne hZ203 (fun q => absurd q.1 (by decide))
    have t212 : Z203 11 hb 0 3 = Z190 11 hb 0 3 := zu_ne hZ203 (fun q => absurd q.1 (by decide))
    have t213 : Z203 200 0 0 1 = Z190 200 0 0 1 := zu_ne hZ203 (fun q => absurd q.1 (by decide))
    have t214 : Z203 200 0 0 2 = Z190 200 0 0 2 := zu_ne hZ203 (fun q => absurd q.1 (by decide))
    have t215 : Z203 200 x0 0 1 = Z190 200 x0 0 1 := zu_ne hZ203 (fun q => absurd q.1 (by decide))
    have hZ203K := zK_u hZ190K hZ203 (by decide)
    intro μ9 e9
    replace e9 := e9.trans (zm_wI (Z := Z190) (ν := ν) hZ203 (rfl : ((hb : Nat) : Int) = hb) (i3I (y := (Z65 11 hb 0 3)) (zm_rd (Z := Z65) (ν := ν) (k := 11) (rfl : ((hb : Nat) : Int) = hb) (show ((0 : Nat) : Int) = 0 from rfl) (show ((3 : Nat) : Int) = 3 from rfl)) (by omega) (by omega) (by omega)) (show ((12 : Nat) : Int) = 12 from rfl) (show (6 : Int32) = i3 6 from rfl))
    subst e9
    refine wz_i1 rfl ?_
    refine wz_i0 (i3O (n := 16) (show (15 : Int32) = i3 15 from rfl) (by omega) (by omega) (by omega)) ?_
    obtain ⟨Z216, hZ216⟩ := zx (zu Z203 44 hb (Z65 11 hb 0 3) 15 (-1))
    replace hP := zl_e hP hZ216
    have hZ216I := zI_u hZ203I hZ216 (lo := -1) (hi := 20) (by decide) rfl (by omega) ⟨by decide, by decide⟩ (Or.inl (by decide))
    have t217 : Z216 11 hb 0 0 = Z203 11 hb 0 0 := zu_ne hZ216 (fun q => absurd q.1 (by decide))
    have t218 : Z216 11 hb 0 1 = Z203 11 hb 0 1 := zu_ne hZ216 (fun q => absurd q.1 (by decide))
    have t219 : Z216 11 hb 0 2 = Z203 11 hb 0 2 := zu_ne hZ216 (fun q => absurd q.1 (by decide))
    have t220 : Z216 11 hb 0 4 = Z203 11 hb 0 4 := zu_ne hZ216 (fun q => absurd q.1 (by decide))
    have t221 : Z216 11 hb 0 5 = Z203 11 hb 0 5 := zu_ne hZ216 (fun q => absurd q.1 (by decide))
    have t222 : Z216 11 hb 0 7 = Z203 11 hb 0 7 := zu_ne hZ216 (fun q => absurd q.1 (by decide))
    have t223 : Z216 11 hb 0 8 = Z203 11 hb 0 8 := zu_ne hZ216 (fun q => absurd q.1 (by decide))
    have t224 : Z216 11 hb 0 9 = Z203 11 hb 0 9 := zu_ne hZ216 (fun q => absurd q.1 (by decide))
    have t225 : Z216 11 hb 0 3 = Z203 11 hb 0 3 := zu_ne hZ216 (fun q => absurd q.1 (by decide))
    have t226 : Z216 200 0 0 1 = Z203 200 0 0 1 := zu_ne hZ216 (fun q => absurd q.1 (by decide))
    have t227 : Z216 200 0 0 2 = Z203 200 0 0 2 := zu_ne hZ216 (fun q => absurd q.1 (by decide))
    have t228 : Z216 200 x0 0 1 = Z203 200 x0 0 1 := zu_ne hZ216 (fun q => absurd q.1 (by decide))
    have hZ216K := zK_u hZ203K hZ216 (by decide)
    intro μ9 e9
    replace e9 := e9.trans (zm_wI (Z := Z203) (ν := ν) hZ216 (rfl : ((hb : Nat) : Int) = hb) (i3I (y := (Z65 11 hb 0 3)) (zm_rd (Z := Z65) (ν := ν) (k := 11) (rfl : ((hb : Nat) : Int) = hb) (show ((0 : Nat) : Int) = 0 from rfl) (show ((3 : Nat) : Int) = 3 from rfl)) (by omega) (by omega) (by omega)) (show ((15 : Nat) : Int) = 15 from rfl) (show (-1 : Int32) = i3 (-1) from rfl))
    subst e9
    refine wz_i1 rfl ?_
    refine wz_rko (r := (11, _, _)) rfl ?_
    refine wz_i1 rfl ?_
    refine wz_i0 (i3O (n := 17) (show (3 : Int32) = i3 3 from rfl) (by omega) (by omega) (by omega)) ?_
    refine wz_i1 rfl ?_
    refine wz_i0 (i3O (n := 17) (show (3 : Int32) = i3 3 from rfl) (by omega) (by omega) (by omega)) ?_
    have r229 := zI_k hZ216I 11 hb 0 3 (lo := 0) (hi := 48) (by decide) rfl
    have q230 := (zu_ne (k' := 11) (b' := hb) (i' := 0) (j' := 3) hZ216 (fun q => absurd q.1 (by decide))).trans ((zu_ne (k' := 11) (b' := hb) (i' := 0) (j' := 3) hZ203 (fun q => absurd q.1 (by decide))).trans ((zu_ne (k' := 11) (b' := hb) (i' := 0) (j' := 3) hZ190 (fun q => absurd q.1 (by decide))).trans ((zu_ne (k' := 11) (b' := hb) (i' := 0) (j' := 3) hZ177 (fun q => absurd q.1 (by decide))).trans ((zu_ne (k' := 11) (b' := hb) (i' := 0) (j' := 3) hZ164 (fun q => absurd q.1 (by decide))).trans ((zu_ne (k' := 11) (b' := hb) (i' := 0) (j' := 3) hZ151 (fun q => absurd q.1 (by decide))).trans ((zu_ne (k' := 11) (b' := hb) (i' := 0) (j' := 3) hZ135 (fun q => absurd q.1 (by decide))).trans ((zu_ne (k' := 11) (b' := hb) (i' := 0) (j' := 3) hZ122 (fun q => absurd q.1 (by decide))).trans ((zu_ne (k' := 11) (b' := hb) (i' := 0) (j' := 3) hZ109 (fun q => absurd q.1 (by decide))).trans ((zu_ne (k' := 11) (b' := hb) (i' := 0) (j' := 3) hZ95 (fun q => absurd q.1 (by decide))).trans (zu_ne (k' := 11) (b' := hb) (i' := 0) (j' := 3) hZ81 (fun q => absurd q.1 (by decide))))))))))))
    obtain ⟨Z231, hZ231⟩ := zx (zu Z216 11 hb 0 3 ((Z216 11 hb 0 3) + 1))
    replace hP := zl_e hP hZ231
    have hZ231I := zI_u hZ216I hZ231 (lo := 0) (hi := 48) (by decide) rfl (by omega) ⟨by decide, by decide⟩ (Or.inl (by decide))
    have t232 : Z231 11 hb 0 0 = Z216 11 hb 0 0 := zu_ne hZ231 (fun q => absurd q.2.2.2 (by decide))
    have t233 : Z231 11 hb 0 1 = Z216 11 hb 0 1 := zu_ne hZ231 (fun q => absurd q.2.2.2 (by decide))
    have t234 : Z231 11 hb 0 2 = Z216 11 hb 0 2 := zu_ne hZ231 (fun q => absurd q.2.2.2 (by decide))
    have t235 : Z231 11 hb 0 4 = Z216 11 hb 0 4 := zu_ne hZ231 (fun q => absurd q.2.2.2 (by decide))
    have t236 : Z231 11 hb 0 5 = Z216 11 hb 0 5 := zu_ne hZ231 (fun q => absurd q.2.2.2 (by decide))
    have t237 : Z231 11 hb 0 7 = Z216 11 hb 0 7 := zu_ne hZ231 (fun q => absurd q.2.2.2 (by decide))
    have t238 : Z231 11 hb 0 8 = Z216 11 hb 0 8 := zu_ne hZ231 (fun q => absurd q.2.2.2 (by decide))
    have t239 : Z231 11 hb 0 9 = Z216 11 hb 0 9 := zu_ne hZ231 (fun q => absurd q.2.2.2 (by decide))
    have t240 := zu_at hZ231
    have t241 : Z231 200 0 0 1 = Z216 200 0 0 1 := zu_ne hZ231 (fun q => absurd q.1 (by decide))
    have t242 : Z231 200 0 0 2 = Z216 200 0 0 2 := zu_ne hZ231 (fun q => absurd q.1 (by decide))
    have t243 : Z231 200 x0 0 1 = Z216 200 x0 0 1 := zu_ne hZ231 (fun q => absurd q.1 (by decide))
    have hZ231K := zK_u hZ216K hZ231 (by decide)
    intro μ9 e9
    replace e9 := e9.trans (zm_wI (Z := Z216) (ν := ν) hZ231 (rfl : ((hb : Nat) : Int) = hb) (show ((0 : Nat) : Int) = 0 from rfl) (show ((3 : Nat) : Int) = 3 from rfl) (i3A (zm_rd (Z := Z216) (ν := ν) (k := 11) (rfl : ((hb : Nat) : Int) = hb) (show ((0 : Nat) : Int) = 0 from rfl) (show ((3 : Nat) : Int) = 3 from rfl)) (show (1 : Int32) = i3 1 from rfl)))
    subst e9
    refine wz_i1 (by rw [tsn]; rfl) ?_
    refine wz_i1 (by rw [tsn]; rfl) ?_
    refine wz_i1 (by rw [tsn]; rfl) ?_
    have r244 := zI_xr (n := x0) hZ231I
    have q245 := (zu_ne (k' := 200) (b' := x0) (i' := 0) (j' := 2) hZ231 (fun q => absurd q.1 (by decide))).trans ((zu_ne (k' := 200) (b' := x0) (i' := 0) (j' := 2) hZ216 (fun q => absurd q.1 (by decide))).trans ((zu_ne (k' := 200) (b' := x0) (i' := 0) (j' := 2) hZ203 (fun q => absurd q.1 (by decide))).trans ((zu_ne (k' := 200) (b' := x0) (i' := 0) (j' := 2) hZ190 (fun q => absurd q.1 (by decide))).trans ((zu_ne (k' := 200) (b' := x0) (i' := 0) (j' := 2) hZ177 (fun q => absurd q.1 (by decide))).trans ((zu_ne (k' := 200) (b' := x0) (i' := 0) (j' := 2) hZ164 (fun q => absurd q.1 (by decide))).trans ((zu_ne (k' := 200) (b' := x0) (i' := 0) (j' := 2) hZ151 (fun q => absurd q.1 (by decide))).trans ((zu_ne (k' := 200) (b' := x0) (i' := 0) (j' := 2) hZ135 (fun q => absurd q.1 (by decide))).trans ((zu_ne (k' := 200) (b' := x0) (i' := 0) (j' := 2) hZ122 (fun q => absurd q.1 (by decide))).trans ((zu_ne (k' := 200) (b' := x0) (i' := 0) (j' := 2) hZ109 (fun q => absurd q.1 (by decide))).trans ((zu_ne (k' := 200) (b' := x0) (i' := 0) (j' := 2) hZ95 (fun q => absurd q.1 (by decide))).trans (zu_ne (k' := 200) (b' := x0) (i' := 0) (j' := 2) hZ81 (fun q => absurd q.1 (by decide)))))))))))))
    obtain ⟨Z246, hZ246⟩ := zx (zu Z231 200 x0 0 2 (((25173 * (Z231 200 x0 0 2)) + 13849) % 65536))
    replace hP := zl_e hP hZ246
    have hZ246I := zI_x hZ231I hZ246 (by omega)
    have t247 : Z246 11 hb 0 0 = Z231 11 hb 0 0 := zu_ne hZ246 (fun q => absurd q.1 (by decide))
    have t248 : Z246 11 hb 0 1 = Z231 11 hb 0 1 := zu_ne hZ246 (fun q => absurd q.1 (by decide))
    have t249 : Z246 11 hb 0 2 = Z231 11 hb 0 2 := zu_ne hZ246 (fun q => absurd q.1 (by decide))
    have t250 : Z246 11 hb 0 4 = Z231 11 hb 0 4 := zu_ne hZ246 (fun q => absurd q.1 (by decide))
    have t251 : Z246 11 hb 0 5 = Z231 11 hb 0 5 := zu_ne hZ246 (fun q => absurd q.1 (by decide))
    have t252 : Z246 11 hb 0 7 = Z231 11 hb 0 7 := zu_ne hZ246 (fun q => absurd q.1 (by decide))
    have t253 : Z246 11 hb 0 8 = Z231 11 hb 0 8 := zu_ne hZ246 (fun q => absurd q.1 (by decide))
    have t254 : Z246 11 hb 0 9 = Z231 11 hb 0 9 := zu_ne hZ246 (fun q => absurd q.1 (by decide))
    have t255 : Z246 11 hb 0 3 = Z231 11 hb 0 3 := zu_ne hZ246 (fun q => absurd q.1 (by decide))
    have t256 : Z246 200 0 0 1 = Z231 200 0 0 1 := zu_ne hZ246 (fun q => absurd q.2.2.2 (by decide))
    have t257 : Z246 200 0 0 2 = Z231 200 0 0 2 := zu_ne hZ246 (by omega)
    have t258 : Z246 200 x0 0 1 = Z231 200 x0 0 1 := zu_ne hZ246 (fun q => absurd q.2.2.2 (by decide))
    have hZ246K := zK_u hZ231K hZ246 (by decide)
    intro μ9 e9
    replace e9 := e9.trans (zm_wI (Z := Z231) (ν := ν) hZ246 (rfl : ((x0 : Nat) : Int) = x0) (show ((0 : Nat) : Int) = 0 from rfl) (show ((2 : Nat) : Int) = 2 from rfl) (i3R (i3A (i3M (show (25173 : Int32) = i3 25173 from rfl) (zm_rd (Z := Z231) (ν := ν) (k := 200) (rfl : ((x0 : Nat) : Int) = x0) (show ((0 : Nat) : Int) = 0 from rfl) (show ((2 : Nat) : Int) = 2 from rfl))) (show (13849 : Int32) = i3 13849 from rfl)) (show (65536 : Int32) = i3 65536 from rfl) (by omega) (by omega) (by omega) (by omega)))
    subst e9
    refine wz_i1 (by rw [tsn]; rfl) ?_
    have r259 := zI_xr (n := x0) hZ246I
    have q260 := zu_at hZ246
    refine wz_br (i3NE (i3R (i3D (zm_rd (Z := Z246) (ν := ν) (k := 200) (rfl : ((x0 : Nat) : Int) = x0) (show ((0 : Nat) : Int) = 0 from rfl) (show ((2 : Nat) : Int) = 2 from rfl)) (show (16 : Int32) = i3 16 from rfl) (by omega) (by omega) (by omega) (by omega)) (show (2 : Int32) = i3 2 from rfl) (by omega) (by omega) (by omega) (by omega)) (show (1 : Int32) = i3 1 from rfl) (by omega) (by omega) (by omega) (by omega)) (fun h261 => ?_) (fun h261 => ?_)
    · replace hP := zE_p hP h261
      obtain ⟨m2, rfl⟩ : ∃ m2, m = m2 + 1 := ⟨m - 1, by omega⟩
      exact wz_k1 ⟨m2, by omega, Z246, (x3 + 1), (zconso rfl (zconso (zvo (rfl : i3 x1 = i3 x1)) (zconso (zvo (rfl : i3 x2 = i3 x2)) (zconso (zvo (i3A (rfl : i3 x3 = i3 x3) (show (1 : Int32) = i3 1 from rfl))) (zconso rfl (zconso rfl (zconso rfl (zconso rfl (zconso rfl (zconso rfl rfl)))))))))), rfl, hZ246I, hZ246K, by omega, by omega, by omega, by omega, by omega, by omega, by omega, by omega, by omega, by omega, by omega, by omega, by omega, by omega, by omega, by omega,  hP⟩
    · replace hP := zE_n hP h261
      refine wz_i1 (by rw [tsn]; rfl) ?_
      refine wz_rko (rsn _) ?_
      refine wz_i1 rfl ?_
      refine wz_rko (r := (24, _, _)) rfl ?_
      refine wz_i1 rfl ?_
      refine wz_i0 (i3O (n := 48) (zm_rd (Z := Z216) (ν := ν) (k := 11) (rfl : ((hb : Nat) : Int) = hb) (show ((0 : Nat) : Int) = 0 from rfl) (show ((3 : Nat) : Int) = 3 from rfl)) (by omega) (by omega) (by omega)) ?_
      refine wz_rko (r := (44, _, _)) rfl ?_
      refine wz_i1 (by rw [tsn]; rfl) ?_
      refine wz_i1 (by rw [tsn]; rfl) ?_
      refine wz_i1 (by rw [tsn]; rfl) ?_
      obtain ⟨Z262, hZ262⟩ := zx (zu Z246 200 x0 0 2 (((25173 * (Z246 200 x0 0 2)) + 13849) % 65536))
      replace hP := zl_e hP hZ262
      have hZ262I := zI_x hZ246I hZ262 (by omega)
      have t263 : Z262 11 hb 0 0 = Z246 11 hb 0 0 := zu_ne hZ262 (fun q => absurd q.1 (by decide))
      have t264 : Z262 11 hb 0 1 = Z246 11 hb 0 1 := zu_ne hZ262 (fun q => absurd q.1 (by decide))
      have t265 : Z262 11 hb 0 2 = Z246 11 hb 0 2 := zu_ne hZ262 (fun q => absurd q.1 (by decide))
      have t266 : Z262 11 hb 0 4 = Z246 11 hb 0 4 := zu_ne hZ262 (fun q => absurd q.1 (by decide))
      have t267 : Z262 11 hb 0 5 = Z246 11 hb 0 5 := zu_ne hZ262 (fun q => absurd q.1 (by decide))
      have t268 : Z262 11 hb 0 7 = Z246 11 hb 0 7 := zu_ne hZ262 (fun q => absurd q.1 (by decide))
      have t269 : Z262 11 hb 0 8 = Z246 11 hb 0 8 := zu_ne hZ262 (fun q => absurd q.1 (by decide))
      have t270 : Z262 11 hb 0 9 = Z246 11 hb 0 9 := zu_ne hZ262 (fun q => absurd q.1 (by decide))
      have t271 : Z262 11 hb 0 3 = Z246 11 hb 0 3 := zu_ne hZ262 (fun q => absurd q.1 (by decide))
      have t272 : Z262 200 0 0 1 = Z246 200 0 0 1 := zu_ne hZ262 (fun q => absurd q.2.2.2 (by decide))
      have t273 : Z262 200 0 0 2 = Z246 200 0 0 2 := zu_ne hZ262 (by omega)
      have t274 : Z262 200 x0 0 1 = Z246 200 x0 0 1 := zu_ne hZ262 (fun q => absurd q.2.2.2 (by decide))
      have hZ262K := zK_u hZ246K hZ262 (by decide)
      intro μ9 e9
      replace e9 := e9.trans (zm_wI (Z := Z246) (ν := ν) hZ262 (rfl : ((x0 : Nat) : Int) = x0) (show ((0 : Nat) : Int) = 0 from rfl) (show ((2 : Nat) : Int) = 2 from rfl) (i3R (i3A (i3M (show (25173 : Int32) = i3 25173 from rfl) (zm_rd (Z := Z246) (ν := ν) (k := 200) (rfl : ((x0 : Nat) : Int) = x0) (show ((0 : Nat) : Int) = 0 from rfl) (show ((2 : Nat) : Int) = 2 from rfl))) (show (13849 : Int32) = i3 13849 from rfl)) (show (65536 : Int32) = i3 65536 from rfl) (by omega) (by omega) (by omega) (by omega)))
      subst e9
      refine wz_i1 (by rw [tsn]; rfl) ?_
      refine wz_i1 rfl ?_
      refine wz_i0 (i3O (n := 16) (show (9 : Int32) = i3 9 from rfl) (by omega) (by omega) (by omega)) ?_
      have r275 := zI_xr (n := x0) hZ262I
      have q276 := zu_at hZ262
      obtain ⟨Z277, hZ277⟩ := zx (zu Z262 44 hb (Z216 11 hb 0 3) 9 (((Z262 200 x0 0 2) / 16) % 4))
      replace hP := zl_e hP hZ277
      have hZ277I := zI_u hZ262I hZ277 (lo := -1) (hi := 3) (by decide) rfl (by omega) ⟨by decide, by decide⟩ (Or.inl (by decide))
      have t278 : Z277 11 hb 0 0 = Z262 11 hb 0 0 := zu_ne hZ277 (fun q => absurd q.1 (by decide))
      have t279 : Z277 11 hb 0 1 = Z262 11 hb 0 1 := zu_ne hZ277 (fun q => absurd q.1 (by decide))
      have t280 : Z277 11 hb 0 2 = Z262 11 hb 0 2 := zu_ne hZ277 (fun q => absurd q.1 (by decide))
      have t281 : Z277 11 hb 0 4 = Z262 11 hb 0 4 := zu_ne hZ277 (fun q => absurd q.1 (by decide))
      have t282 : Z277 11 hb 0 5 = Z262 11 hb 0 5 := zu_ne hZ277 (fun q => absurd q.1 (by decide))
      have t283 : Z277 11 hb 0 7 = Z262 11 hb 0 7 := zu_ne hZ277 (fun q => absurd q.1 (by decide))
      have t284 : Z277 11 hb 0 8 = Z262 11 hb 0 8 := zu_ne hZ277 (fun q => absurd q.1 (by decide))
      have t285 : Z277 11 hb 0 9 = Z262 11 hb 0 9 := zu_ne hZ277 (fun q => absurd q.1 (by decide))
      have t286 : Z277 11 hb 0 3 = Z262 11 hb 0 3 := zu_ne hZ277 (fun q => absurd q.1 (by decide))
      have t287 : Z277 200 0 0 1 = Z262 200 0 0 1 := zu_ne hZ277 (fun q => absurd q.1 (by decide))
      have t288 : Z277 200 0 0 2 = Z262 200 0 0 2 := zu_ne hZ277 (fun q => absurd q.1 (by decide))
      have t289 : Z277 200 x0 0 1 = Z262 200 x0 0 1 := zu_ne hZ277 (fun q => absurd q.1 (by decide))
      have hZ277K := zK_u hZ262K hZ277 (by decide)
      intro μ9 e9
      replace e9 := e9.trans (zm_wI (Z := Z262) (ν := ν) hZ277 (rfl : ((hb : Nat) : Int) = hb) (i3I (y := (Z216 11 hb 0 3)) (zm_rd (Z := Z216) (ν := ν) (k := 11) (rfl : ((hb : Nat) : Int) = hb) (show ((0 : Nat) : Int) = 0 from rfl) (show ((3 : Nat) : Int) = 3 from rfl)) (by omega) (by omega) (by omega)) (show ((9 : Nat) : Int) = 9 from rfl) (i3R (i3D (zm_rd (Z := Z262) (ν := ν) (k := 200) (rfl : ((x0 : Nat) : Int) = x0) (show ((0 : Nat) : Int) = 0 from rfl) (show ((2 : Nat) : Int) = 2 from rfl)) (show (16 : Int32) = i3 16 from rfl) (by omega) (by omega) (by omega) (by omega)) (show (4 : Int32) = i3 4 from rfl) (by omega) (by omega) (by omega) (by omega)))
      subst e9
      obtain ⟨m2, rfl⟩ : ∃ m2, m = m2 + 1 := ⟨m - 1, by omega⟩
      exact wz_k1 ⟨m2, by omega, Z277, (x3 + 1), (zconso rfl (zconso (zvo (rfl : i3 x1 = i3 x1)) (zconso (zvo (rfl : i3 x2 = i3 x2)) (zconso (zvo (i3A (rfl : i3 x3 = i3 x3) (show (1 : Int32) = i3 1 from rfl))) (zconso rfl (zconso rfl (zconso rfl (zconso rfl (zconso rfl (zconso rfl rfl)))))))))), rfl, hZ277I, hZ277K, by omega, by omega, by omega, by omega, by omega, by omega, by omega, by omega, by omega, by omega, by omega, by omega, by omega, by omega, by omega, by omega,  hP⟩

