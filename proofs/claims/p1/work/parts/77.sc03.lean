/-! a season told, the class (printed by season.py c) -/
/- yX8_tellStores -/
def zl_150_1 (x0 : Int) (hb : Int) (x1 : Int) : Nat → qz_Z → Int → qz_Z × Int
  | 0, Z, x2 => (Z, x2)
  | m + 1, Z, x2 => (if x1 ≤ x2 then (Z, x2) else (zlet (zu Z 200 x0 0 2 (((25173 * (Z 200 x0 0 2)) + 13849) % 65536)) (fun Z3 => (zlet (zu Z3 200 x0 0 2 (((25173 * (Z3 200 x0 0 2)) + 13849) % 65536)) (fun Z15 => (zlet (zu Z15 200 x0 0 2 (((25173 * (Z15 200 x0 0 2)) + 13849) % 65536)) (fun Z27 => (zlet (zu Z27 43 hb (Z27 11 hb 0 2) 0 (1 + (((Z3 200 x0 0 2) / 16) % 12))) (fun Z38 => (zlet (zu Z38 43 hb (Z27 11 hb 0 2) 1 (((Z15 200 x0 0 2) / 16) % 10)) (fun Z48 => (zlet (zu Z48 43 hb (Z27 11 hb 0 2) 2 (((Z27 200 x0 0 2) / 16) % 10)) (fun Z60 => (zlet (zu Z60 43 hb (Z27 11 hb 0 2) 3 18) (fun Z70 => (zlet (zu Z70 43 hb (Z27 11 hb 0 2) 5 (Z70 12 hb 0 ((Z70 11 hb 0 13) / 24))) (fun Z82 => (zlet (zu Z82 43 hb (Z27 11 hb 0 2) 10 (-1)) (fun Z92 => (zlet (zu Z92 11 hb 0 2 ((Z92 11 hb 0 2) + 1)) (fun Z104 => (zlet (zu Z104 200 x0 0 2 (((25173 * (Z104 200 x0 0 2)) + 13849) % 65536)) (fun Z116 => (zlet (zu Z116 43 hb (Z92 11 hb 0 2) 3 (((Z116 200 x0 0 2) / 16) % 41)) (fun Z128 => (zlet (zu Z128 200 x0 0 2 (((25173 * (Z128 200 x0 0 2)) + 13849) % 65536)) (fun Z140 => (zlet (zu Z140 43 hb (Z92 11 hb 0 2) 4 (((Z140 200 x0 0 2) / 16) % 2)) (fun Z152 => zl_150_1 x0 hb x1 m Z152 (x2 + 1))))))))))))))))))))))))))))))
theorem sl_150_1 {Zs Z : qz_Z} {ν : qz_N} (x0 : Nat) (hZ : zI (some (some (x0 : Int))) Z) (hK : zK [11, 43, 200] Zs Z) (hb : Nat) (tsn : ∀ Z, qz_tag (zm Z ν) (200, x0, 0) = 2) (rsn : ∀ Z, qz_rm (zm Z ν) 200 x0 0 0 = some (10, hb, 0)) {x1 : Int} (gx1 : 0 ≤ x1 ∧ x1 ≤ 4) {x2 : Int} (gx2 : 0 ≤ x2 ∧ x2 ≤ 4) {kc0 : Int} {kc1 : Int} {kc2 : Int} {kc3 : Int} {kc4 : Int} {kc5 : Int} {kc6 : Int} {kc7 : Int} (gr0 : Z 11 hb 0 2 = x2) (gr1 : 1 ≤ (x0 : Int)) (gr2 : Z 11 hb 0 3 = kc0) (gr3 : Z 11 hb 0 4 = kc1) (gr4 : Z 11 hb 0 5 = kc2) (gr5 : Z 11 hb 0 7 = kc3) (gr6 : Z 11 hb 0 8 = kc4) (gr7 : Z 11 hb 0 9 = kc5) (gr8 : Z 200 0 0 1 = kc6) (gr9 : Z 200 0 0 2 = kc7) {k : wz_K} {R : wz_R} {L : qz_L} (hL : qz_fg [true, true, true, false] L = [some (.inr (.inr (some (200, x0, 0)))), some (.inl (i3 x1)), some (.inl (i3 x2)), none]) {T : qz_Z × Int} (hP : zE T (zl_150_1 x0 hb x1 ((4 - x2).toNat + 1) Z x2)) (hk : ∀ (L9 : qz_L) (Z9 : qz_Z) (yx2 : Int), qz_fg [true, true, false, false] L9 = [some (.inr (.inr (some (200, x0, 0)))), some (.inl (i3 x1)), none, none] → zI (some (some (x0 : Int))) Z9 → zK [11, 43, 200] Zs Z9 → (0 ≤ yx2 ∧ yx2 ≤ 4) → (Z9 11 hb 0 2 = yx2) → (1 ≤ (x0 : Int)) → (Z9 11 hb 0 3 = kc0) → (Z9 11 hb 0 4 = kc1) → (Z9 11 hb 0 5 = kc2) → (Z9 11 hb 0 7 = kc3) → (Z9 11 hb 0 8 = kc4) → (Z9 11 hb 0 9 = kc5) → (Z9 200 0 0 1 = kc6) → (Z9 200 0 0 2 = kc7) → zE T ((Z9, yx2)) → k 0 (L9, [], zm Z9 ν)) : wz_loop qb_150_1 65536 k R (L, [], zm Z ν) := by
  refine wz_lp sb_150_1 (fun m x => ∃ Z : qz_Z, ∃ x2 : Int, qz_fg [true, true, true, false] x.1 = [some (.inr (.inr (some (200, x0, 0)))), some (.inl (i3 x1)), some (.inl (i3 x2)), none] ∧ x.2 = ([], zm Z ν) ∧ zI (some (some (x0 : Int))) Z ∧ zK [11, 43, 200] Zs Z ∧ m = (4 - x2).toNat ∧ (0 ≤ x2 ∧ x2 ≤ 4) ∧ (Z 11 hb 0 2 = x2) ∧ (1 ≤ (x0 : Int)) ∧ (Z 11 hb 0 3 = kc0) ∧ (Z 11 hb 0 4 = kc1) ∧ (Z 11 hb 0 5 = kc2) ∧ (Z 11 hb 0 7 = kc3) ∧ (Z 11 hb 0 8 = kc4) ∧ (Z 11 hb 0 9 = kc5) ∧ (Z 200 0 0 1 = kc6) ∧ (Z 200 0 0 2 = kc7) ∧ zE T (zl_150_1 x0 hb x1 (m + 1) Z x2)) ?_ 65536 ((4 - x2).toNat) _ (by omega) ⟨Z, x2, hL, rfl, hZ, hK, rfl, gx2, gr0, gr1, gr2, gr3, gr4, gr5, gr6, gr7, gr8, gr9, hP⟩
  clear hP gr0 gr1 gr2 gr3 gr4 gr5 gr6 gr7 gr8 gr9 gx2 hZ hK hL
  clear x2
  clear Z
  rintro m ⟨L, st, μ⟩ ⟨Z, x2, hL, hx, hZ, hK, hm, gx2, gr0, gr1, gr2, gr3, gr4, gr5, gr6, gr7, gr8, gr9, hP⟩
  cases hx
  refine fb_150_1 x0 (i3 x1) (i3 x2) _ _ _ _ hL ?_
  have rs := zI_xs (n := x0) hZ
  refine wz_br (i3Le (rfl : i3 x1 = i3 x1) (rfl : i3 x2 = i3 x2) (by omega) (by omega) (by omega) (by omega)) (fun h1 => ?_) (fun h1 => ?_)
  · replace hP := zE_p hP h1
    exact hk _ _ _ (zconso rfl (zconso (zvo (rfl : i3 x1 = i3 x1)) (zconso rfl (zconso rfl rfl)))) hZ hK (by omega) (by omega) (by omega) (by omega) (by omega) (by omega) (by omega) (by omega) (by omega) (by omega) (by omega) hP
  · replace hP := zE_n hP h1
    refine wz_i1 (by rw [tsn]; rfl) ?_
    refine wz_rko (rsn _) ?_
    refine wz_i1 (by rw [tsn]; rfl) ?_
    refine wz_i1 (by rw [tsn]; rfl) ?_
    refine wz_i1 (by rw [tsn]; rfl) ?_
    have r2 := zI_xr (n := x0) hZ
    obtain ⟨Z3, hZ3⟩ := zx (zu Z 200 x0 0 2 (((25173 * (Z 200 x0 0 2)) + 13849) % 65536))
    replace hP := zl_e hP hZ3
    have hZ3I := zI_x hZ hZ3 (by omega)
    have t4 : Z3 11 hb 0 3 = Z 11 hb 0 3 := zu_ne hZ3 (fun q => absurd q.1 (by decide))
    have t5 : Z3 11 hb 0 4 = Z 11 hb 0 4 := zu_ne hZ3 (fun q => absurd q.1 (by decide))
    have t6 : Z3 11 hb 0 5 = Z 11 hb 0 5 := zu_ne hZ3 (fun q => absurd q.1 (by decide))
    have t7 : Z3 11 hb 0 7 = Z 11 hb 0 7 := zu_ne hZ3 (fun q => absurd q.1 (by decide))
    have t8 : Z3 11 hb 0 8 = Z 11 hb 0 8 := zu_ne hZ3 (fun q => absurd q.1 (by decide))
    have t9 : Z3 11 hb 0 9 = Z 11 hb 0 9 := zu_ne hZ3 (fun q => absurd q.1 (by decide))
    have t10 : Z3 11 hb 0 2 = Z 11 hb 0 2 := zu_ne hZ3 (fun q => absurd q.1 (by decide))
    have t11 : Z3 200 0 0 1 = Z 200 0 0 1 := zu_ne hZ3 (fun q => absurd q.2.2.2 (by decide))
    have t12 : Z3 200 0 0 2 = Z 200 0 0 2 := zu_ne hZ3 (by omega)
    have hZ3K := zK_u hK hZ3 (by decide)
    intro μ9 e9
    replace e9 := e9.trans (zm_wI (Z := Z) (ν := ν) hZ3 (rfl : ((x0 : Nat) : Int) = x0) (show ((0 : Nat) : Int) = 0 from rfl) (show ((2 : Nat) : Int) = 2 from rfl) (i3R (i3A (i3M (show (25173 : Int32) = i3 25173 from rfl) (zm_rd (Z := Z) (ν := ν) (k := 200) (rfl : ((x0 : Nat) : Int) = x0) (show ((0 : Nat) : Int) = 0 from rfl) (show ((2 : Nat) : Int) = 2 from rfl))) (show (13849 : Int32) = i3 13849 from rfl)) (show (65536 : Int32) = i3 65536 from rfl) (by omega) (by omega) (by omega) (by omega)))
    subst e9
    refine wz_i1 (by rw [tsn]; rfl) ?_
    refine wz_i1 (by rw [tsn]; rfl) ?_
    refine wz_i1 (by rw [tsn]; rfl) ?_
    refine wz_i1 (by rw [tsn]; rfl) ?_
    have r13 := zI_xr (n := x0) hZ3I
    have q14 := zu_at hZ3
    obtain ⟨Z15, hZ15⟩ := zx (zu Z3 200 x0 0 2 (((25173 * (Z3 200 x0 0 2)) + 13849) % 65536))
    replace hP := zl_e hP hZ15
    have hZ15I := zI_x hZ3I hZ15 (by omega)
    have t16 : Z15 11 hb 0 3 = Z3 11 hb 0 3 := zu_ne hZ15 (fun q => absurd q.1 (by decide))
    have t17 : Z15 11 hb 0 4 = Z3 11 hb 0 4 := zu_ne hZ15 (fun q => absurd q.1 (by decide))
    have t18 : Z15 11 hb 0 5 = Z3 11 hb 0 5 := zu_ne hZ15 (fun q => absurd q.1 (by decide))
    have t19 : Z15 11 hb 0 7 = Z3 11 hb 0 7 := zu_ne hZ15 (fun q => absurd q.1 (by decide))
    have t20 : Z15 11 hb 0 8 = Z3 11 hb 0 8 := zu_ne hZ15 (fun q => absurd q.1 (by decide))
    have t21 : Z15 11 hb 0 9 = Z3 11 hb 0 9 := zu_ne hZ15 (fun q => absurd q.1 (by decide))
    have t22 : Z15 11 hb 0 2 = Z3 11 hb 0 2 := zu_ne hZ15 (fun q => absurd q.1 (by decide))
    have t23 : Z15 200 0 0 1 = Z3 200 0 0 1 := zu_ne hZ15 (fun q => absurd q.2.2.2 (by decide))
    have t24 : Z15 200 0 0 2 = Z3 200 0 0 2 := zu_ne hZ15 (by omega)
    have hZ15K := zK_u hZ3K hZ15 (by decide)
    intro μ9 e9
    replace e9 := e9.trans (zm_wI (Z := Z3) (ν := ν) hZ15 (rfl : ((x0 : Nat) : Int) = x0) (show ((0 : Nat) : Int) = 0 from rfl) (show ((2 : Nat) : Int) = 2 from rfl) (i3R (i3A (i3M (show (25173 : Int32) = i3 25173 from rfl) (zm_rd (Z := Z3) (ν := ν) (k := 200) (rfl : ((x0 : Nat) : Int) = x0) (show ((0 : Nat) : Int) = 0 from rfl) (show ((2 : Nat) : Int) = 2 from rfl))) (show (13849 : Int32) = i3 13849 from rfl)) (show (65536 : Int32) = i3 65536 from rfl) (by omega) (by omega) (by omega) (by omega)))
    subst e9
    refine wz_i1 (by rw [tsn]; rfl) ?_
    refine wz_i1 (by rw [tsn]; rfl) ?_
    refine wz_i1 (by rw [tsn]; rfl) ?_
    refine wz_i1 (by rw [tsn]; rfl) ?_
    have r25 := zI_xr (n := x0) hZ15I
    have q26 := zu_at hZ15
    obtain ⟨Z27, hZ27⟩ := zx (zu Z15 200 x0 0 2 (((25173 * (Z15 200 x0 0 2)) + 13849) % 65536))
    replace hP := zl_e hP hZ27
    have hZ27I := zI_x hZ15I hZ27 (by omega)
    have t28 : Z27 11 hb 0 3 = Z15 11 hb 0 3 := zu_ne hZ27 (fun q => absurd q.1 (by decide))
    have t29 : Z27 11 hb 0 4 = Z15 11 hb 0 4 := zu_ne hZ27 (fun q => absurd q.1 (by decide))
    have t30 : Z27 11 hb 0 5 = Z15 11 hb 0 5 := zu_ne hZ27 (fun q => absurd q.1 (by decide))
    have t31 : Z27 11 hb 0 7 = Z15 11 hb 0 7 := zu_ne hZ27 (fun q => absurd q.1 (by decide))
    have t32 : Z27 11 hb 0 8 = Z15 11 hb 0 8 := zu_ne hZ27 (fun q => absurd q.1 (by decide))
    have t33 : Z27 11 hb 0 9 = Z15 11 hb 0 9 := zu_ne hZ27 (fun q => absurd q.1 (by decide))
    have t34 : Z27 11 hb 0 2 = Z15 11 hb 0 2 := zu_ne hZ27 (fun q => absurd q.1 (by decide))
    have t35 : Z27 200 0 0 1 = Z15 200 0 0 1 := zu_ne hZ27 (fun q => absurd q.2.2.2 (by decide))
    have t36 : Z27 200 0 0 2 = Z15 200 0 0 2 := zu_ne hZ27 (by omega)
    have hZ27K := zK_u hZ15K hZ27 (by decide)
    intro μ9 e9
    replace e9 := e9.trans (zm_wI (Z := Z15) (ν := ν) hZ27 (rfl : ((x0 : Nat) : Int) = x0) (show ((0 : Nat) : Int) = 0 from rfl) (show ((2 : Nat) : Int) = 2 from rfl) (i3R (i3A (i3M (show (25173 : Int32) = i3 25173 from rfl) (zm_rd (Z := Z15) (ν := ν) (k := 200) (rfl : ((x0 : Nat) : Int) = x0) (show ((0 : Nat) : Int) = 0 from rfl) (show ((2 : Nat) : Int) = 2 from rfl))) (show (13849 : Int32) = i3 13849 from rfl)) (show (65536 : Int32) = i3 65536 from rfl) (by omega) (by omega) (by omega) (by omega)))
    subst e9
    refine wz_i1 (by rw [tsn]; rfl) ?_
    refine wz_i1 rfl ?_
    refine wz_rko (r := (23, _, _)) rfl ?_
    refine wz_i1 rfl ?_
    refine wz_rko (r := (11, _, _)) rfl ?_
    refine wz_i1 rfl ?_
    refine wz_i0 (i3O (n := 17) (show (2 : Int32) = i3 2 from rfl) (by omega) (by omega) (by omega)) ?_
    refine wz_i1 rfl ?_
    have r37 := zI_k hZ27I 11 hb 0 2 (lo := 0) (hi := 6) (by decide) rfl
    refine wz_i0 (i3O (n := 6) (zm_rd (Z := Z27) (ν := ν) (k := 11) (rfl : ((hb : Nat) : Int) = hb) (show ((0 : Nat) : Int) = 0 from rfl) (show ((2 : Nat) : Int) = 2 from rfl)) (by omega) (by omega) (by omega)) ?_
    refine wz_rko (r := (43, _, _)) rfl ?_
    refine wz_i1 rfl ?_
    refine wz_i0 (i3O (n := 11) (show (0 : Int32) = i3 0 from rfl) (by omega) (by omega) (by omega)) ?_
    obtain ⟨Z38, hZ38⟩ := zx (zu Z27 43 hb (Z27 11 hb 0 2) 0 (1 + (((Z3 200 x0 0 2) / 16) % 12)))
    replace hP := zl_e hP hZ38
    have hZ38I := zI_u hZ27I hZ38 (lo := 0) (hi := 12) (by decide) rfl (by omega) ⟨by decide, by decide⟩ (Or.inl (by decide))
    have t39 : Z38 11 hb 0 3 = Z27 11 hb 0 3 := zu_ne hZ38 (fun q => absurd q.1 (by decide))
    have t40 : Z38 11 hb 0 4 = Z27 11 hb 0 4 := zu_ne hZ38 (fun q => absurd q.1 (by decide))
    have t41 : Z38 11 hb 0 5 = Z27 11 hb 0 5 := zu_ne hZ38 (fun q => absurd q.1 (by decide))
    have t42 : Z38 11 hb 0 7 = Z27 11 hb 0 7 := zu_ne hZ38 (fun q => absurd q.1 (by decide))
    have t43 : Z38 11 hb 0 8 = Z27 11 hb 0 8 := zu_ne hZ38 (fun q => absurd q.1 (by decide))
    have t44 : Z38 11 hb 0 9 = Z27 11 hb 0 9 := zu_ne hZ38 (fun q => absurd q.1 (by decide))
    have t45 : Z38 11 hb 0 2 = Z27 11 hb 0 2 := zu_ne hZ38 (fun q => absurd q.1 (by decide))
    have t46 : Z38 200 0 0 1 = Z27 200 0 0 1 := zu_ne hZ38 (fun q => absurd q.1 (by decide))
    have t47 : Z38 200 0 0 2 = Z27 200 0 0 2 := zu_ne hZ38 (fun q => absurd q.1 (by decide))
    have hZ38K := zK_u hZ27K hZ38 (by decide)
    intro μ9 e9
    replace e9 := e9.trans (zm_wI (Z := Z27) (ν := ν) hZ38 (rfl : ((hb : Nat) : Int) = hb) (i3I (y := (Z27 11 hb 0 2)) (zm_rd (Z := Z27) (ν := ν) (k := 11) (rfl : ((hb : Nat) : Int) = hb) (show ((0 : Nat) : Int) = 0 from rfl) (show ((2 : Nat) : Int) = 2 from rfl)) (by omega) (by omega) (by omega)) (show ((0 : Nat) : Int) = 0 from rfl) (i3A (show (1 : Int32) = i3 1 from rfl) (i3R (i3D (zm_rd (Z := Z3) (ν := ν) (k := 200) (rfl : ((x0 : Nat) : Int) = x0) (show ((0 : Nat) : Int) = 0 from rfl) (show ((2 : Nat) : Int) = 2 from rfl)) (show (16 : Int32) = i3 16 from rfl) (by omega) (by omega) (by omega) (by omega)) (show (12 : Int32) = i3 12 from rfl) (by omega) (by omega) (by omega) (by omega))))
    subst e9
    refine wz_i1 rfl ?_
    refine wz_i0 (i3O (n := 11) (show (1 : Int32) = i3 1 from rfl) (by omega) (by omega) (by omega)) ?_
    obtain ⟨Z48, hZ48⟩ := zx (zu Z38 43 hb (Z27 11 hb 0 2) 1 (((Z15 200 x0 0 2) / 16) % 10))
    replace hP := zl_e hP hZ48
    have hZ48I := zI_u hZ38I hZ48 (lo := 0) (hi := 9) (by decide) rfl (by omega) ⟨by decide, by decide⟩ (Or.inl (by decide))
    have t49 : Z48 11 hb 0 3 = Z38 11 hb 0 3 := zu_ne hZ48 (fun q => absurd q.1 (by decide))
    have t50 : Z48 11 hb 0 4 = Z38 11 hb 0 4 := zu_ne hZ48 (fun q => absurd q.1 (by decide))
    have t51 : Z48 11 hb 0 5 = Z38 11 hb 0 5 := zu_ne hZ48 (fun q => absurd q.1 (by decide))
    have t52 : Z48 11 hb 0 7 = Z38 11 hb 0 7 := zu_ne hZ48 (fun q => absurd q.1 (by decide))
    have t53 : Z48 11 hb 0 8 = Z38 11 hb 0 8 := zu_ne hZ48 (fun q => absurd q.1 (by decide))
    have t54 : Z48 11 hb 0 9 = Z38 11 hb 0 9 := zu_ne hZ48 (fun q => absurd q.1 (by decide))
    have t55 : Z48 11 hb 0 2 = Z38 11 hb 0 2 := zu_ne hZ48 (fun q => absurd q.1 (by decide))
    have t56 : Z48 200 0 0 1 = Z38 200 0 0 1 := zu_ne hZ48 (fun q => absurd q.1 (by decide))
    have t57 : Z48 200 0 0 2 = Z38 200 0 0 2 := zu_ne hZ48 (fun q => absurd q.1 (by decide))
    have hZ48K := zK_u hZ38K hZ48 (by decide)
    intro μ9 e9
    replace e9 := e9.trans (zm_wI (Z := Z38) (ν := ν) hZ48 (rfl : ((hb : Nat) : Int) = hb) (i3I (y := (Z27 11 hb 0 2)) (zm_rd (Z := Z27) (ν := ν) (k := 11) (rfl : ((hb : Nat) : Int) = hb) (show ((0 : Nat) : Int) = 0 from rfl) (show ((2 : Nat) : Int) = 2 from rfl)) (by omega) (by omega) (by omega)) (show ((1 : Nat) : Int) = 1 from rfl) (i3R (i3D (zm_rd (Z := Z15) (ν := ν) (k := 200) (rfl : ((x0 : Nat) : Int) = x0) (show ((0 : Nat) : Int) = 0 from rfl) (show ((2 : Nat) : Int) = 2 from rfl)) (show (16 : Int32) = i3 16 from rfl) (by omega) (by omega) (by omega) (by omega)) (show (10 : Int32) = i3 10 from rfl) (by omega) (by omega) (by omega) (by omega)))
    subst e9
    refine wz_i1 rfl ?_
    refine wz_i0 (i3O (n := 11) (show (2 : Int32) = i3 2 from rfl) (by omega) (by omega) (by omega)) ?_
    have r58 := zI_xr (n := x0) hZ27I
    have q59 := zu_at hZ27
    obtain ⟨Z60, hZ60⟩ := zx (zu Z48 43 hb (Z27 11 hb 0 2) 2 (((Z27 200 x0 0 2) / 16) % 10))
    replace hP := zl_e hP hZ60
    have hZ60I := zI_u hZ48I hZ60 (lo := 0) (hi := 9) (by decide) rfl (by omega) ⟨by decide, by decide⟩ (Or.inl (by decide))
    have t61 : Z60 11 hb 0 3 = Z48 11 hb 0 3 := zu_ne hZ60 (fun q => absurd q.1 (by decide))
    have t62 : Z60 11 hb 0 4 = Z48 11 hb 0 4 := zu_ne hZ60 (fun q => absurd q.1 (by decide))
    have t63 : Z60 11 hb 0 5 = Z48 11 hb 0 5 := zu_ne hZ60 (fun q => absurd q.1 (by decide))
    have t64 : Z60 11 hb 0 7 = Z48 11 hb 0 7 := zu_ne hZ60 (fun q => absurd q.1 (by decide))
    have t65 : Z60 11 hb 0 8 = Z48 11 hb 0 8 := zu_ne hZ60 (fun q => absurd q.1 (by decide))
    have t66 : Z60 11 hb 0 9 = Z48 11 hb 0 9 := zu_ne hZ60 (fun q => absurd q.1 (by decide))
    have t67 : Z60 11 hb 0 2 = Z48 11 hb 0 2 := zu_ne hZ60 (fun q => absurd q.1 (by decide))
    have t68 : Z60 200 0 0 1 = Z48 200 0 0 1 := zu_ne hZ60 (fun q => absurd q.1 (by decide))
    have t69 : Z60 200 0 0 2 = Z48 200 0 0 2 := zu_ne hZ60 (fun q => absurd q.1 (by decide))
    have hZ60K := zK_u hZ48K hZ60 (by decide)
    intro μ9 e9
    replace e9 := e9.trans (zm_wI (Z := Z48) (ν := ν) hZ60 (rfl : ((hb : Nat) : Int) = hb) (i3I (y := (Z27 11 hb 0 2)) (zm_rd (Z := Z27) (ν := ν) (k := 11) (rfl : ((hb : Nat) : Int) = hb) (show ((0 : Nat) : Int) = 0 from rfl) (show ((2 : Nat) : Int) = 2 from rfl)) (by omega) (by omega) (by omega)) (show ((2 : Nat) : Int) = 2 from rfl) (i3R (i3D (zm_rd (Z := Z27) (ν := ν) (k := 200) (rfl : ((x0 : Nat) : Int) = x0) (show ((0 : Nat) : Int) = 0 from rfl) (show ((2 : Nat) : Int) = 2 from rfl)) (show (16 : Int32) = i3 16 from rfl) (by omega) (by omega) (by omega) (by omega)) (show (10 : Int32) = i3 10 from rfl) (by omega) (by omega) (by omega) (by omega)))
    subst e9
    refine wz_i1 rfl ?_
    refine wz_i0 (i3O (n := 11) (show (3 : Int32) = i3 3 from rfl) (by omega) (by omega) (by omega)) ?_
    obtain ⟨Z70, hZ70⟩ := zx (zu Z60 43 hb (Z27 11 hb 0 2) 3 18)
    replace hP := zl_e hP hZ70
    have hZ70I := zI_u hZ60I hZ70 (lo := 0) (hi := 40) (by decide) rfl (by omega) ⟨by decide, by decide⟩ (Or.inl (by decide))
    have t71 : Z70 11 hb 0 3 = Z60 11 hb 0 3 := zu_ne hZ70 (fun q => absurd q.1 (by decide))
    have t72 : Z70 11 hb 0 4 = Z60 11 hb 0 4 := zu_ne hZ70 (fun q => absurd q.1 (by decide))
    have t73 : Z70 11 hb 0 5 = Z60 11 hb 0 5 := zu_ne hZ70 (fun q => absurd q.1 (by decide))
    have t74 : Z70 11 hb 0 7 = Z60 11 hb 0 7 := zu_ne hZ70 (fun q => absurd q.1 (by decide))
    have t75 : Z70 11 hb 0 8 = Z60 11 hb 0 8 := zu_ne hZ70 (fun q => absurd q.1 (by decide))
    have t76 : Z70 11 hb 0 9 = Z60 11 hb 0 9 := zu_ne hZ70 (fun q => absurd q.1 (by decide))
    have t77 : Z70 11 hb 0 2 = Z60 11 hb 0 2 := zu_ne hZ70 (fun q => absurd q.1 (by decide))
    have t78 : Z70 200 0 0 1 = Z60 200 0 0 1 := zu_ne hZ70 (fun q => absurd q.1 (by decide))
    have t79 : Z70 200 0 0 2 = Z60 200 0 0 2 := zu_ne hZ70 (fun q => absurd q.1 (by decide))
    have hZ70K := zK_u hZ60K hZ70 (by decide)
    intro μ9 e9
    replace e9 := e9.trans (zm_wI (Z := Z60) (ν := ν) hZ70 (rfl : ((hb : Nat) : Int) = hb) (i3I (y := (Z27 11 hb 0 2)) (zm_rd (Z := Z27) (ν := ν) (k := 11) (rfl : ((hb : Nat) : Int) = hb) (show ((0 : Nat) : Int) = 0 from rfl) (show ((2 : Nat) : Int) = 2 from rfl)) (by omega) (by omega) (by omega)) (show ((3 : Nat) : Int) = 3 from rfl) (show (18 : Int32) = i3 18 from rfl))
    subst e9
    refine wz_i1 rfl ?_
    refine wz_rko (r := (12, _, _)) rfl ?_
    refine wz_i1 rfl ?_
    refine wz_i1 rfl ?_
    refine wz_rko (r := (11, _, _)) rfl ?_
    refine wz_i1 rfl ?_
    refine wz_i0 (i3O (n := 17) (show (13 : Int32) = i3 13 from rfl) (by omega) (by omega) (by omega)) ?_
    refine wz_i1 rfl ?_
    have r80 := zI_k hZ70I 11 hb 0 13 (lo := 0) (hi := 671) (by decide) rfl
    refine wz_i0 (i3O (n := 28) (i3D (zm_rd (Z := Z70) (ν := ν) (k := 11) (rfl : ((hb : Nat) : Int) = hb) (show ((0 : Nat) : Int) = 0 from rfl) (show ((13 : Nat) : Int) = 13 from rfl)) (show (24 : Int32) = i3 24 from rfl) (by omega) (by omega) (by omega) (by omega)) (by omega) (by omega) (by omega)) ?_
    refine wz_i1 rfl ?_
    refine wz_i0 (i3O (n := 11) (show (5 : Int32) = i3 5 from rfl) (by omega) (by omega) (by omega)) ?_
    have r81 := zI_k hZ70I 12 hb 0 ((Z70 11 hb 0 13) / 24) (lo := 0) (hi := 40) (by decide) (zrc_12 (by omega) (by omega))
    obtain ⟨Z82, hZ82⟩ := zx (zu Z70 43 hb (Z27 11 hb 0 2) 5 (Z70 12 hb 0 ((Z70 11 hb 0 13) / 24)))
    replace hP := zl_e hP hZ82
    have hZ82I := zI_u hZ70I hZ82 (lo := 0) (hi := 40) (by decide) rfl (by omega) ⟨by decide, by decide⟩ (Or.inl (by decide))
    have t83 : Z82 11 hb 0 3 = Z70 11 hb 0 3 := zu_ne hZ82 (fun q => absurd q.1 (by decide))
    have t84 : Z82 11 hb 0 4 = Z70 11 hb 0 4 := zu_ne hZ82 (fun q => absurd q.1 (by decide))
    have t85 : Z82 11 hb 0 5 = Z70 11 hb 0 5 := zu_ne hZ82 (fun q => absurd q.1 (by decide))
    have t86 : Z82 11 hb 0 7 = Z70 11 hb 0 7 := zu_ne hZ82 (fun q => absurd q.1 (by decide))
    have t87 : Z82 11 hb 0 8 = Z70 11 hb 0 8 := zu_ne hZ82 (fun q => absurd q.1 (by decide))
    have t88 : Z82 11 hb 0 9 = Z70 11 hb 0 9 := zu_ne hZ82 (fun q => absurd q.1 (by decide))
    have t89 : Z82 11 hb 0 2 = Z70 11 hb 0 2 := zu_ne hZ82 (fun q => absurd q.1 (by decide))
    have t90 : Z82 200 0 0 1 = Z70 200 0 0 1 := zu_ne hZ82 (fun q => absurd q.1 (by decide))
    have t91 : Z82 200 0 0 2 = Z70 200 0 0 2 := zu_ne hZ82 (fun q => absurd q.1 (by decide))
    have hZ82K := zK_u hZ70K hZ82 (by decide)
    intro μ9 e9
    replace e9 := e9.trans (zm_wI (Z := Z70) (ν := ν) hZ82 (rfl : ((hb : Nat) : Int) = hb) (i3I (y := (Z27 11 hb 0 2)) (zm_rd (Z := Z27) (ν := ν) (k := 11) (rfl : ((hb : Nat) : Int) = hb) (show ((0 : Nat) : Int) = 0 from rfl) (show ((2 : Nat) : Int) = 2 from rfl)) (by omega) (by omega) (by omega)) (show ((5 : Nat) : Int) = 5 from rfl) (zm_rd (Z := Z70) (ν := ν) (k := 12) (rfl : ((hb : Nat) : Int) = hb) (show ((0 : Nat) : Int) = 0 from rfl) (i3I (y := ((Z70 11 hb 0 13) / 24)) (i3D (zm_rd (Z := Z70) (ν := ν) (k := 11) (rfl : ((hb : Nat) : Int) = hb) (show ((0 : Nat) : Int) = 0 from rfl) (show ((13 : Nat) : Int) = 13 from rfl)) (show (24 : Int32) = i3 24 from rfl) (by omega) (by omega) (by omega) (by omega)) (by omega) (by omega) (by omega))))
    subst e9
    refine wz_i1 rfl ?_
    refine wz_i0 (i3O (n := 11) (show (10 : Int32) = i3 10 from rfl) (by omega) (by omega) (by omega)) ?_
    obtain ⟨Z92, hZ92⟩ := zx (zu Z82 43 hb (Z27 11 hb 0 2) 10 (-1))
    replace hP := zl_e hP hZ92
    have hZ92I := zI_u hZ82I hZ92 (lo := -1) (hi := 695) (by decide) rfl (by omega) ⟨by decide, by decide⟩ (Or.inl (by decide))
    have t93 : Z92 11 hb 0 3 = Z82 11 hb 0 3 := zu_ne hZ92 (fun q => absurd q.1 (by decide))
    have t94 : Z92 11 hb 0 4 = Z82 11 hb 0 4 := zu_ne hZ92 (fun q => absurd q.1 (by decide))
    have t95 : Z92 11 hb 0 5 = Z82 11 hb 0 5 := zu_ne hZ92 (fun q => absurd q.1 (by decide))
    have t96 : Z92 11 hb 0 7 = Z82 11 hb 0 7 := zu_ne hZ92 (fun q => absurd q.1 (by decide))
    have t97 : Z92 11 hb 0 8 = Z82 11 hb 0 8 := zu_ne hZ92 (fun q => absurd q.1 (by decide))
    have t98 : Z92 11 hb 0 9 = Z82 11 hb 0 9 := zu_ne hZ92 (fun q => absurd q.1 (by decide))
    have t99 : Z92 11 hb 0 2 = Z82 11 hb 0 2 := zu_ne hZ92 (fun q => absurd q.1 (by decide))
    have t100 : Z92 200 0 0 1 = Z82 200 0 0 1 := zu_ne hZ92 (fun q => absurd q.1 (by decide))
    have t101 : Z92 200 0 0 2 = Z82 200 0 0 2 := zu_ne hZ92 (fun q => absurd q.1 (by decide))
    have hZ92K := zK_u hZ82K hZ92 (by decide)
    intro μ9 e9
    replace e9 := e9.trans (zm_wI (Z := Z82) (ν := ν) hZ92 (rfl : ((hb : Nat) : Int) = hb) (i3I (y := (Z27 11 hb 0 2)) (zm_rd (Z := Z27) (ν := ν) (k := 11) (rfl : ((hb : Nat) : Int) = hb) (show ((0 : Nat) : Int) = 0 from rfl) (show ((2 : Nat) : Int) = 2 from rfl)) (by omega) (by omega) (by omega)) (show ((10 : Nat) : Int) = 10 from rfl) (show (-1 : Int32) = i3 (-1) from rfl))
    subst e9
    refine wz_i1 rfl ?_
    refine wz_rko (r := (11, _, _)) rfl ?_
    refine wz_i1 rfl ?_
    refine wz_i0 (i3O (n := 17) (show (2 : Int32) = i3 2 from rfl) (by omega) (by omega) (by omega)) ?_
    refine wz_i1 rfl ?_
    refine wz_i0 (i3O (n := 17) (show (2 : Int32) = i3 2 from rfl) (by omega) (by omega) (by omega)) ?_
    have r102 := zI_k hZ92I 11 hb 0 2 (lo := 0) (hi := 6) (by decide) rfl
    have q103 := (zu_ne (k' := 11) (b' := hb) (i' := 0) (j' := 2) hZ92 (fun q => absurd q.1 (by decide))).trans ((zu_ne (k' := 11) (b' := hb) (i' := 0) (j' := 2) hZ82 (fun q => absurd q.1 (by decide))).trans ((zu_ne (k' := 11) (b' := hb) (i' := 0) (j' := 2) hZ70 (fun q => absurd q.1 (by decide))).trans ((zu_ne (k' := 11) (b' := hb) (i' := 0) (j' := 2) hZ60 (fun q => absurd q.1 (by decide))).trans ((zu_ne (k' := 11) (b' := hb) (i' := 0) (j' := 2) hZ48 (fun q => absurd q.1 (by decide))).trans (zu_ne (k' := 11) (b' := hb) (i' := 0) (j' := 2) hZ38 (fun q => absurd q.1 (by decide)))))))
    obtain ⟨Z104, hZ104⟩ := zx (zu Z92 11 hb 0 2 ((Z92 11 hb 0 2) + 1))
    replace hP := zl_e hP hZ104
    have hZ104I := zI_u hZ92I hZ104 (lo := 0) (hi := 6) (by decide) rfl (by omega) ⟨by decide, by decide⟩ (Or.inl (by decide))
    have t105 : Z104 11 hb 0 3 = Z92 11 hb 0 3 := zu_ne hZ104 (fun q => absurd q.2.2.2 (by decide))
    have t106 : Z104 11 hb 0 4 = Z92 11 hb 0 4 := zu_ne hZ104 (fun q => absurd q.2.2.2 (by decide))
    have t107 : Z104 11 hb 0 5 = Z92 11 hb 0 5 := zu_ne hZ104 (fun q => absurd q.2.2.2 (by decide))
    have t108 : Z104 11 hb 0 7 = Z92 11 hb 0 7 := zu_ne hZ104 (fun q => absurd q.2.2.2 (by decide))
    have t109 : Z104 11 hb 0 8 = Z92 11 hb 0 8 := zu_ne hZ104 (fun q => absurd q.2.2.2 (by decide))
    have t110 : Z104 11 hb 0 9 = Z92 11 hb 0 9 := zu_ne hZ104 (fun q => absurd q.2.2.2 (by decide))
    have t111 := zu_at hZ104
    have t112 : Z104 200 0 0 1 = Z92 200 0 0 1 := zu_ne hZ104 (fun q => absurd q.1 (by decide))
    have t113 : Z104 200 0 0 2 = Z92 200 0 0 2 := zu_ne hZ104 (fun q => absurd q.1 (by decide))
    have hZ104K := zK_u hZ92K hZ104 (by decide)
    intro μ9 e9
    replace e9 := e9.trans (zm_wI (Z := Z92) (ν := ν) hZ104 (rfl : ((hb : Nat) : Int) = hb) (show ((0 : Nat) : Int) = 0 from rfl) (show ((2 : Nat) : Int) = 2 from rfl) (i3A (zm_rd (Z := Z92) (ν := ν) (k := 11) (rfl : ((hb : Nat) : Int) = hb) (show ((0 : Nat) : Int) = 0 from rfl) (show ((2 : Nat) : Int) = 2 from rfl)) (show (1 : Int32) = i3 1 from rfl)))
    subst e9
    refine wz_i1 (by rw [tsn]; rfl) ?_
    refine wz_rko (rsn _) ?_
    refine wz_i1 rfl ?_
    refine wz_rko (r := (23, _, _)) rfl ?_
    refine wz_i1 rfl ?_
    refine wz_i0 (i3O (n := 6) (zm_rd (Z := Z92) (ν := ν) (k := 11) (rfl : ((hb : Nat) : Int) = hb) (show ((0 : Nat) : Int) = 0 from rfl) (show ((2 : Nat) : Int) = 2 from rfl)) (by omega) (by omega) (by omega)) ?_
    refine wz_rko (r := (43, _, _)) rfl ?_
    refine wz_i1 (by rw [tsn]; rfl) ?_
    refine wz_i1 (by rw [tsn]; rfl) ?_
    refine wz_i1 (by rw [tsn]; rfl) ?_
    have r114 := zI_xr (n := x0) hZ104I
    have q115 := (zu_ne (k' := 200) (b' := x0) (i' := 0) (j' := 2) hZ104 (fun q => absurd q.1 (by decide))).trans ((zu_ne (k' := 200) (b' := x0) (i' := 0) (j' := 2) hZ92 (fun q => absurd q.1 (by decide))).trans ((zu_ne (k' := 200) (b' := x0) (i' := 0) (j' := 2) hZ82 (fun q => absurd q.1 (by decide))).trans ((zu_ne (k' := 200) (b' := x0) (i' := 0) (j' := 2) hZ70 (fun q => absurd q.1 (by decide))).trans ((zu_ne (k' := 200) (b' := x0) (i' := 0) (j' := 2) hZ60 (fun q => absurd q.1 (by decide))).trans ((zu_ne (k' := 200) (b' := x0) (i' := 0) (j' := 2) hZ48 (fun q => absurd q.1 (by decide))).trans (zu_ne (k' := 200) (b' := x0) (i' := 0) (j' := 2) hZ38 (fun q => absurd q.1 (by decide))))))))
    obtain ⟨Z116, hZ116⟩ := zx (zu Z104 200 x0 0 2 (((25173 * (Z104 200 x0 0 2)) + 13849) % 65536))
    replace hP := zl_e hP hZ116
    have hZ116I := zI_x hZ104I hZ116 (by omega)
    have t117 : Z116 11 hb 0 3 = Z104 11 hb 0 3 := zu_ne hZ116 (fun q => absurd q.1 (by decide))
    have t118 : Z116 11 hb 0 4 = Z104 11 hb 0 4 := zu_ne hZ116 (fun q => absurd q.1 (by decide))
    have t119 : Z116 11 hb 0 5 = Z104 11 hb 0 5 := zu_ne hZ116 (fun q => absurd q.1 (by decide))
    have t120 : Z116 11 hb 0 7 = Z104 11 hb 0 7 := zu_ne hZ116 (fun q => absurd q.1 (by decide))
    have t121 : Z116 11 hb 0 8 = Z104 11 hb 0 8 := zu_ne hZ116 (fun q => absurd q.1 (by decide))
    have t122 : Z116 11 hb 0 9 = Z104 11 hb 0 9 := zu_ne hZ116 (fun q => absurd q.1 (by decide))
    have t123 : Z116 11 hb 0 2 = Z104 11 hb 0 2 := zu_ne hZ116 (fun q => absurd q.1 (by decide))
    have t124 : Z116 200 0 0 1 = Z104 200 0 0 1 := zu_ne hZ116 (fun q => absurd q.2.2.2 (by decide))
    have t125 : Z116 200 0 0 2 = Z104 200 0 0 2 := zu_ne hZ116 (by omega)
    have hZ116K := zK_u hZ104K hZ116 (by decide)
    intro μ9 e9
    replace e9 := e9.trans (zm_wI (Z := Z104) (ν := ν) hZ116 (rfl : ((x0 : Nat) : Int) = x0) (show ((0 : Nat) : Int) = 0 from rfl) (show ((2 : Nat) : Int) = 2 from rfl) (i3R (i3A (i3M (show (25173 : Int32) = i3 25173 from rfl) (zm_rd (Z := Z104) (ν := ν) (k := 200) (rfl : ((x0 : Nat) : Int) = x0) (show ((0 : Nat) : Int) = 0 from rfl) (show ((2 : Nat) : Int) = 2 from rfl))) (show (13849 : Int32) = i3 13849 from rfl)) (show (65536 : Int32) = i3 65536 from rfl) (by omega) (by omega) (by omega) (by omega)))
    subst e9
    refine wz_i1 (by rw [tsn]; rfl) ?_
    refine wz_i1 rfl ?_
    refine wz_i0 (i3O (n := 11) (show (3 : Int32) = i3 3 from rfl) (by omega) (by omega) (by omega)) ?_
    have r126 := zI_xr (n := x0) hZ116I
    have q127 := zu_at hZ116
    obtain ⟨Z128, hZ128⟩ := zx (zu Z116 43 hb (Z92 11 hb 0 2) 3 (((Z116 200 x0 0 2) / 16) % 41))
    replace hP := zl_e hP hZ128
    have hZ128I := zI_u hZ116I hZ128 (lo := 0) (hi := 40) (by decide) rfl (by omega) ⟨by decide, by decide⟩ (Or.inl (by decide))
    have t129 : Z128 11 hb 0 3 = Z116 11 hb 0 3 := zu_ne hZ128 (fun q => absurd q.1 (by decide))
    have t130 : Z128 11 hb 0 4 = Z116 11 hb 0 4 := zu_ne hZ128 (fun q => absurd q.1 (by decide))
    have t131 : Z128 11 hb 0 5 = Z116 11 hb 0 5 := zu_ne hZ128 (fun q => absurd q.1 (by decide))
    have t132 : Z128 11 hb 0 7 = Z116 11 hb 0 7 := zu_ne hZ128 (fun q => absurd q.1 (by decide))
    have t133 : Z128 11 hb 0 8 = Z116 11 hb 0 8 := zu_ne hZ128 (fun q => absurd q.1 (by decide))
    have t134 : Z128 11 hb 0 9 = Z116 11 hb 0 9 := zu_ne hZ128 (fun q => absurd q.1 (by decide))
    have t135 : Z128 11 hb 0 2 = Z116 11 hb 0 2 := zu_ne hZ128 (fun q => absurd q.1 (by decide))
    have t136 : Z128 200 0 0 1 = Z116 200 0 0 1 := zu_ne hZ128 (fun q => absurd q.1 (by decide))
    have t137 : Z128 200 0 0 2 = Z116 200 0 0 2 := zu_ne hZ128 (fun q => absurd q.1 (by decide))
    have hZ128K := zK_u hZ116K hZ128 (by decide)
    intro μ9 e9
    replace e9 := e9.trans (zm_wI (Z := Z116) (ν := ν) hZ128 (rfl : ((hb : Nat) : Int) = hb) (i3I (y := (Z92 11 hb 0 2)) (zm_rd (Z := Z92) (ν := ν) (k := 11) (rfl : ((hb : Nat) : Int) = hb) (show ((0 : Nat) : Int) = 0 from rfl) (show ((2 : Nat) : Int) = 2 from rfl)) (by omega) (by omega) (by omega)) (show ((3 : Nat) : Int) = 3 from rfl) (i3R (i3D (zm_rd (Z := Z116) (ν := ν) (k := 200) (rfl : ((x0 : Nat) : Int) = x0) (show ((0 : Nat) : Int) = 0 from rfl) (show ((2 : Nat) : Int) = 2 from rfl)) (show (16 : Int32) = i3 16 from rfl) (by omega) (by omega) (by omega) (by omega)) (show (41 : Int32) = i3 41 from rfl) (by omega) (by omega) (by omega) (by omega)))
    subst e9
    refine wz_i1 (by rw [tsn]; rfl) ?_
    refine wz_rko (rsn _) ?_
    refine wz_i1 rfl ?_
    refine wz_rko (r := (23, _, _)) rfl ?_
    refine wz_i1 rfl ?_
    refine wz_i0 (i3O (n := 6) (zm_rd (Z := Z92) (ν := ν) (k := 11) (rfl : ((hb : Nat) : Int) = hb) (show ((0 : Nat) : Int) = 0 from rfl) (show ((2 : Nat) : Int) = 2 from rfl)) (by omega) (by omega) (by omega)) ?_
    refine wz_rko (r := (43, _, _)) rfl ?_
    refine wz_i1 (by rw [tsn]; rfl) ?_
    refine wz_i1 (by rw [tsn]; rfl) ?_
    refine wz_i1 (by rw [tsn]; rfl) ?_
    have r138 := zI_xr (n := x0) hZ128I
    have q139 := zu_ne (k' := 200) (b' := x0) (i' := 0) (j' := 2) hZ128 (fun q => absurd q.1 (by decide))
    obtain ⟨Z140, hZ140⟩ := zx (zu Z128 200 x0 0 2 (((25173 * (Z128 200 x0 0 2)) + 13849) % 65536))
    replace hP := zl_e hP hZ140
    have hZ140I := zI_x hZ128I hZ140 (by omega)
    have t141 : Z140 11 hb 0 3 = Z128 11 hb 0 3 := zu_ne hZ140 (fun q => absurd q.1 (by decide))
    have t142 : Z140 11 hb 0 4 = Z128 11 hb 0 4 := zu_ne hZ140 (fun q => absurd q.1 (by decide))
    have t143 : Z140 11 hb 0 5 = Z128 11 hb 0 5 := zu_ne hZ140 (fun q => absurd q.1 (by decide))
    have t144 : Z140 11 hb 0 7 = Z128 11 hb 0 7 := zu_ne hZ140 (fun q => absurd q.1 (by decide))
    have t145 : Z140 11 hb 0 8 = Z128 11 hb 0 8 := zu_ne hZ140 (fun q => absurd q.1 (by decide))
    have t146 : Z140 11 hb 0 9 = Z128 11 hb 0 9 := zu_ne hZ140 (fun q => absurd q.1 (by decide))
    have t147 : Z140 11 hb 0 2 = Z128 11 hb 0 2 := zu_ne hZ140 (fun q => absurd q.1 (by decide))
    have t148 : Z140 200 0 0 1 = Z128 200 0 0 1 := zu_ne hZ140 (fun q => absurd q.2.2.2 (by decide))
    have t149 : Z140 200 0 0 2 = Z128 200 0 0 2 := zu_ne hZ140 (by omega)
    have hZ140K := zK_u hZ128K hZ140 (by decide)
    intro μ9 e9
    replace e9 := e9.trans (zm_wI (Z := Z128) (ν := ν) hZ140 (rfl : ((x0 : Nat) : Int) = x0) (show ((0 : Nat) : Int) = 0 from rfl) (show ((2 : Nat) : Int) = 2 from rfl) (i3R (i3A (i3M (show (25173 : Int32) = i3 25173 from rfl) (zm_rd (Z := Z128) (ν := ν) (k := 200) (rfl : ((x0 : Nat) : Int) = x0) (show ((0 : Nat) : Int) = 0 from rfl) (show ((2 : Nat) : Int) = 2 from rfl))) (show (13849 : Int32) = i3 13849 from rfl)) (show (65536 : Int32) = i3 65536 from rfl) (by omega) (by omega) (by omega) (by omega)))
    subst e9
    refine wz_i1 (by rw [tsn]; rfl) ?_
    refine wz_i1 rfl ?_
    refine wz_i0 (i3O (n := 11) (show (4 : Int32) = i3 4 from rfl) (by omega) (by omega) (by omega)) ?_
    have r150 := zI_xr (n := x0) hZ140I
    have q151 := zu_at hZ140
    obtain ⟨Z152, hZ152⟩ := zx (zu Z140 43 hb (Z92 11 hb 0 2) 4 (((Z140 200 x0 0 2) / 16) % 2))
    replace hP := zl_e hP hZ152
    have hZ152I := zI_u hZ140I hZ152 (lo := 0) (hi := 1) (by decide) rfl (by omega) ⟨by decide, by decide⟩ (Or.inl (by decide))
    have t153 : Z152 11 hb 0 3 = Z140 11 hb 0 3 := zu_ne hZ152 (fun q => absurd q.1 (by decide))
    have t154 : Z152 11 hb 0 4 = Z140 11 hb 0 4 := zu_ne hZ152 (fun q => absurd q.1 (by decide))
    have t155 : Z152 11 hb 0 5 = Z140 11 hb 0 5 := zu_ne hZ152 (fun q => absurd q.1 (by decide))
    have t156 : Z152 11 hb 0 7 = Z140 11 hb 0 7 := zu_ne hZ152 (fun q => absurd q.1 (by decide))
    have t157 : Z152 11 hb 0 8 = Z140 11 hb 0 8 := zu_ne hZ152 (fun q => absurd q.1 (by decide))
    have t158 : Z152 11 hb 0 9 = Z140 11 hb 0 9 := zu_ne hZ152 (fun q => absurd q.1 (by decide))
    have t159 : Z152 11 hb 0 2 = Z140 11 hb 0 2 := zu_ne hZ152 (fun q => absurd q.1 (by decide))
    have t160 : Z152 200 0 0 1 = Z140 200 0 0 1 := zu_ne hZ152 (fun q => absurd q.1 (by decide))
    have t161 : Z152 200 0 0 2 = Z140 200 0 0 2 := zu_ne hZ152 (fun q => absurd q.1 (by decide))
    have hZ152K := zK_u hZ140K hZ152 (by decide)
    intro μ9 e9
    replace e9 := e9.trans (zm_wI (Z := Z140) (ν := ν) hZ152 (rfl : ((hb : Nat) : Int) = hb) (i3I (y := (Z92 11 hb 0 2)) (zm_rd (Z := Z92) (ν := ν) (k := 11) (rfl : ((hb : Nat) : Int) = hb) (show ((0 : Nat) : Int) = 0 from rfl) (show ((2 : Nat) : Int) = 2 from rfl)) (by omega) (by omega) (by omega)) (show ((4 : Nat) : Int) = 4 from rfl) (i3R (i3D (zm_rd (Z := Z140) (ν := ν) (k := 200) (rfl : ((x0 : Nat) : Int) = x0) (show ((0 : Nat) : Int) = 0 from rfl) (show ((2 : Nat) : Int) = 2 from rfl)) (show (16 : Int32) = i3 16 from rfl) (by omega) (by omega) (by omega) (by omega)) (show (2 : Int32) = i3 2 from rfl) (by omega) (by omega) (by omega) (by omega)))
    subst e9
    obtain ⟨m2, rfl⟩ : ∃ m2, m = m2 + 1 := ⟨m - 1, by omega⟩
    exact wz_k1 ⟨m2, by omega, Z152, (x2 + 1), (zconso rfl (zconso (zvo (rfl : i3 x1 = i3 x1)) (zconso (zvo (i3A (rfl : i3 x2 = i3 x2) (show (1 : Int32) = i3 1 from rfl))) (zconso rfl rfl)))), rfl, hZ152I, hZ152K, by omega, by omega, by omega, by omega, by omega, by omega, by omega, by omega, by omega, by omega, by omega, by omega,  hP⟩

/- yX8_tellStores -/
def zl_150_2 (x0 : Int) (hb : Int) (x1 : Int) : Nat → qz_Z → Int → qz_Z × Int
  | 0, Z, x2 => (Z, x2)
  | m + 1, Z, x2 => (if 28 ≤ x2 then (Z, x2) else (zlet (zu Z 200 x0 0 2 (((25173 * (Z 200 x0 0 2)) + 13849) % 65536)) (fun Z3 => (zlet (zu Z3 12 hb 0 x2 (((Z3 200 x0 0 2) / 16) % 41)) (fun Z14 => zl_150_2 x0 hb x1 m Z14 (x2 + 1))))))
theorem sl_150_2 {Zs Z : qz_Z} {ν : qz_N} (x0 : Nat) (hZ : zI (some (some (x0 : Int))) Z) (hK : zK [12, 200] Zs Z) (hb : Nat) (tsn : ∀ Z, qz_tag (zm Z ν) (200, x0, 0) = 2) (rsn : ∀ Z, qz_rm (zm Z ν) 200 x0 0 0 = some (10, hb, 0)) {x1 : Int} (gx1 : 0 ≤ x1 ∧ x1 ≤ 4) {x2 : Int} (gx2 : 0 ≤ x2 ∧ x2 ≤ 28) {kc0 : Int} {kc1 : Int} {kc2 : Int} {kc3 : Int} {kc4 : Int} {kc5 : Int} {kc6 : Int} {kc7 : Int} (gr0 : 1 ≤ (x0 : Int)) (gr1 : Z 11 hb 0 3 = kc0) (gr2 : Z 11 hb 0 4 = kc1) (gr3 : Z 11 hb 0 5 = kc2) (gr4 : Z 11 hb 0 7 = kc3) (gr5 : Z 11 hb 0 8 = kc4) (gr6 : Z 11 hb 0 9 = kc5) (gr7 : Z 200 0 0 1 = kc6) (gr8 : Z 200 0 0 2 = kc7) {k : wz_K} {R : wz_R} {L : qz_L} (hL : qz_fg [true, true, true, false] L = [some (.inr (.inr (some (200, x0, 0)))), some (.inl (i3 x1)), some (.inl (i3 x2)), none]) {T : qz_Z × Int} (hP : zE T (zl_150_2 x0 hb x1 ((28 - x2).toNat + 1) Z x2)) (hk : ∀ (L9 : qz_L) (Z9 : qz_Z) (yx2 : Int), qz_fg [true, true, false, false] L9 = [some (.inr (.inr (some (200, x0, 0)))), some (.inl (i3 x1)), none, none] → zI (some (some (x0 : Int))) Z9 → zK [12, 200] Zs Z9 → (0 ≤ yx2 ∧ yx2 ≤ 28) → (1 ≤ (x0 : Int)) → (Z9 11 hb 0 3 = kc0) → (Z9 11 hb 0 4 = kc1) → (Z9 11 hb 0 5 = kc2) → (Z9 11 hb 0 7 = kc3) → (Z9 11 hb 0 8 = kc4) → (Z9 11 hb 0 9 = kc5) → (Z9 200 0 0 1 = kc6) → (Z9 200 0 0 2 = kc7) → zE T ((Z9, yx2)) → k 0 (L9, [], zm Z9 ν)) : wz_loop qb_150_2 65536 k R (L, [], zm Z ν) := by
  refine wz_lp sb_150_2 (fun m x => ∃ Z : qz_Z, ∃ x2 : Int, qz_fg [true, true, true, false] x.1 = [some (.inr (.inr (some (200, x0, 0)))), some (.inl (i3 x1)), some (.inl (i3 x2)), none] ∧ x.2 = ([], zm Z ν) ∧ zI (some (some (x0 : Int))) Z ∧ zK [12, 200] Zs Z ∧ m = (28 - x2).toNat ∧ (0 ≤ x2 ∧ x2 ≤ 28) ∧ (1 ≤ (x0 : Int)) ∧ (Z 11 hb 0 3 = kc0) ∧ (Z 11 hb 0 4 = kc1) ∧ (Z 11 hb 0 5 = kc2) ∧ (Z 11 hb 0 7 = kc3) ∧ (Z 11 hb 0 8 = kc4) ∧ (Z 11 hb 0 9 = kc5) ∧ (Z 200 0 0 1 = kc6) ∧ (Z 200 0 0 2 = kc7) ∧ zE T (zl_150_2 x0 hb x1 (m + 1) Z x2)) ?_ 65536 ((28 - x2).toNat) _ (by omega) ⟨Z, x2, hL, rfl, hZ, hK, rfl, gx2, gr0, gr1, gr2, gr3, gr4, gr5, gr6, gr7, gr8, hP⟩
  clear hP gr0 gr1 gr2 gr3 gr4 gr5 gr6 gr7 gr8 gx2 hZ hK hL
  clear x2
  clear Z
  rintro m ⟨L, st, μ⟩ ⟨Z, x2, hL, hx, hZ, hK, hm, gx2, gr0, gr1, gr2, gr3, gr4, gr5, gr6, gr7, gr8, hP⟩
  cases hx
  refine fb_150_2 x0 (i3 x1) (i3 x2) _ _ _ _ hL ?_
  have rs := zI_xs (n := x0) hZ
  refine wz_br (i3Le (show (28 : Int32) = i3 28 from rfl) (rfl : i3 x2 = i3 x2) (by omega) (by omega) (by omega) (by omega)) (fun h1 => ?_) (fun h1 => ?_)
  · replace hP := zE_p hP h1
    exact hk _ _ _ (zconso rfl (zconso (zvo (rfl : i3 x1 = i3 x1)) (zconso rfl (zconso rfl rfl)))) hZ hK (by omega) (by omega) (by omega) (by omega) (by omega) (by omega) (by omega) (by omega) (by omega) (by omega) hP
  · replace hP := zE_n hP h1
    refine wz_i1 (by rw [tsn]; rfl) ?_
    refine wz_rko (rsn _) ?_
    refine wz_i1 rfl ?_
    refine wz_rko (r := (12, _, _)) rfl ?_
    refine wz_i1 (by rw [tsn]; rfl) ?_
    refine wz_i1 (by rw [tsn]; rfl) ?_
    refine wz_i1 (by rw [tsn]; rfl) ?_
    have r2 := zI_xr (n := x0) hZ
    obtain ⟨Z3, hZ3⟩ := zx (zu Z 200 x0 0 2 (((25173 * (Z 200 x0 0 2)) + 13849) % 65536))
    replace hP := zl_e hP hZ3
    have hZ3I := zI_x hZ hZ3 (by omega)
    have t4 : Z3 11 hb 0 3 = Z 11 hb 0 3 := zu_ne hZ3 (fun q => absurd q.1 (by decide))
    have t5 : Z3 11 hb 0 4 = Z 11 hb 0 4 := zu_ne hZ3 (fun q => absurd q.1 (by decide))
    have t6 : Z3 11 hb 0 5 = Z 11 hb 0 5 := zu_ne hZ3 (fun q => absurd q.1 (by decide))
    have t7 : Z3 11 hb 0 7 = Z 11 hb 0 7 := zu_ne hZ3 (fun q => absurd q.1 (by decide))
    have t8 : Z3 11 hb 0 8 = Z 11 hb 0 8 := zu_ne hZ3 (fun q => absurd q.1 (by decide))
    have t9 : Z3 11 hb 0 9 = Z 11 hb 0 9 := zu_ne hZ3 (fun q => absurd q.1 (by decide))
    have t10 : Z3 200 0 0 1 = Z 200 0 0 1 := zu_ne hZ3 (fun q => absurd q.2.2.2 (by decide))
    have t11 : Z3 200 0 0 2 = Z 200 0 0 2 := zu_ne hZ3 (by omega)
    have hZ3K := zK_u hK hZ3 (by decide)
    intro μ9 e9
    replace e9 := e9.trans (zm_wI (Z := Z) (ν := ν) hZ3 (rfl : ((x0 : Nat) : Int) = x0) (show ((0 : Nat) : Int) = 0 from rfl) (show ((2 : Nat) : Int) = 2 from rfl) (i3R (i3A (i3M (show (25173 : Int32) = i3 25173 from rfl) (zm_rd (Z := Z) (ν := ν) (k := 200) (rfl : ((x0 : Nat) : Int) = x0) (show ((0 : Nat) : Int) = 0 from rfl) (show ((2 : Nat) : Int) = 2 from rfl))) (show (13849 : Int32) = i3 13849 from rfl)) (show (65536 : Int32) = i3 65536 from rfl) (by omega) (by omega) (by omega) (by omega)))
    subst e9
    refine wz_i1 (by rw [tsn]; rfl) ?_
    refine wz_i1 rfl ?_
    refine wz_i0 (i3O (n := 28) (rfl : i3 x2 = i3 x2) (by omega) (by omega) (by omega)) ?_
    have r12 := zI_xr (n := x0) hZ3I
    have q13 := zu_at hZ3
    obtain ⟨Z14, hZ14⟩ := zx (zu Z3 12 hb 0 x2 (((Z3 200 x0 0 2) / 16) % 41))
    replace hP := zl_e hP hZ14
    have hZ14I := zI_u hZ3I hZ14 (lo := 0) (hi := 40) (by decide) (zrc_12 (by omega) (by omega)) (by omega) ⟨by decide, by decide⟩ (Or.inl (by decide))
    have t15 : Z14 11 hb 0 3 = Z3 11 hb 0 3 := zu_ne hZ14 (fun q => absurd q.1 (by decide))
    have t16 : Z14 11 hb 0 4 = Z3 11 hb 0 4 := zu_ne hZ14 (fun q => absurd q.1 (by decide))
    have t17 : Z14 11 hb 0 5 = Z3 11 hb 0 5 := zu_ne hZ14 (fun q => absurd q.1 (by decide))
    have t18 : Z14 11 hb 0 7 = Z3 11 hb 0 7 := zu_ne hZ14 (fun q => absurd q.1 (by decide))
    have t19 : Z14 11 hb 0 8 = Z3 11 hb 0 8 := zu_ne hZ14 (fun q => absurd q.1 (by decide))
    have t20 : Z14 11 hb 0 9 = Z3 11 hb 0 9 := zu_ne hZ14 (fun q => absurd q.1 (by decide))
    have t21 : Z14 200 0 0 1 = Z3 200 0 0 1 := zu_ne hZ14 (fun q => absurd q.1 (by decide))
    have t22 : Z14 200 0 0 2 = Z3 200 0 0 2 := zu_ne hZ14 (fun q => absurd q.1 (by decide))
    have hZ14K := zK_u hZ3K hZ14 (by decide)
    intro μ9 e9
    replace e9 := e9.trans (zm_wI (Z := Z3) (ν := ν) hZ14 (rfl : ((hb : Nat) : Int) = hb) (show ((0 : Nat) : Int) = 0 from rfl) (i3I (y := x2) (rfl : i3 x2 = i3 x2) (by omega) (by omega) (by omega)) (i3R (i3D (zm_rd (Z := Z3) (ν := ν) (k := 200) (rfl : ((x0 : Nat) : Int) = x0) (show ((0 : Nat) : Int) = 0 from rfl) (show ((2 : Nat) : Int) = 2 from rfl)) (show (16 : Int32) = i3 16 from rfl) (by omega) (by omega) (by omega) (by omega)) (show (41 : Int32) = i3 41 from rfl) (by omega) (by omega) (by omega) (by omega)))
    subst e9
    obtain ⟨m2, rfl⟩ : ∃ m2, m = m2 + 1 := ⟨m - 1, by omega⟩
    exact wz_k1 ⟨m2, by omega, Z14, (x2 + 1), (zconso rfl (zconso (zvo (rfl : i3 x1 = i3 x1)) (zconso (zvo (i3A (rfl : i3 x2 = i3 x2) (show (1 : Int32) = i3 1 from rfl))) (zconso rfl rfl)))), rfl, hZ14I, hZ14K, by omega, by omega, by omega, by omega, by omega, by omega, by omega, by omega, by omega, by omega, by omega,  hP⟩

/- yX8_tellStores -/
def zl_150_3 (x0 : Int) (hb : Int) (x1 : Int) : Nat → qz_Z → Int → qz_Z × Int
  | 0, Z, x2 => (Z, x2)
  | m + 1, Z, x2 => (if (Z 11 hb 0 3) ≤ x2 then (Z, x2) else (zlet (zu Z 200 x0 0 2 (((25173 * (Z 200 x0 0 2)) + 13849) % 65536)) (fun Z4 => (if x1 ≤ (((Z4 200 x0 0 2) / 16) % (max 1 (x1 + 1))) then zl_150_3 x0 hb x1 m Z4 (x2 + 1) else (zlet (zf_182 Z4 hb (((Z4 200 x0 0 2) / 16) % (max 1 (x1 + 1)))) (fun v17 => (if ((Z4 43 hb (((Z4 200 x0 0 2) / 16) % (max 1 (x1 + 1))) 0) - v17) ≤ 0 then zl_150_3 x0 hb x1 m Z4 (x2 + 1) else (zlet (zf_175 Z4 hb hb x2 (((Z4 200 x0 0 2) / 16) % (max 1 (x1 + 1)))) (fun Z20 => (zlet (zf_182 Z20 hb (((Z4 200 x0 0 2) / 16) % (max 1 (x1 + 1)))) (fun v21 => zl_150_3 x0 hb x1 m Z20 (x2 + 1))))))))))))
theorem sl_150_3 {Zs Z : qz_Z} {ν : qz_N} (x0 : Nat) (hZ : zI (some (some (x0 : Int))) Z) (hK : zK [43, 44, 200] Zs Z) (hb : Nat) (tsn : ∀ Z, qz_tag (zm Z ν) (200, x0, 0) = 2) (rsn : ∀ Z, qz_rm (zm Z ν) 200 x0 0 0 = some (10, hb, 0)) {x1 : Int} (gx1 : 0 ≤ x1 ∧ x1 ≤ 4) {x2 : Int} (gx2 : 0 ≤ x2 ∧ x2 ≤ 48) {kc0 : Int} {kc1 : Int} {kc2 : Int} {kc3 : Int} {kc4 : Int} {kc5 : Int} {kc6 : Int} {kc7 : Int} (gr0 : 1 ≤ (x0 : Int)) (gr1 : Z 11 hb 0 3 = kc0) (gr2 : Z 11 hb 0 4 = kc1) (gr3 : Z 11 hb 0 5 = kc2) (gr4 : Z 11 hb 0 7 = kc3) (gr5 : Z 11 hb 0 8 = kc4) (gr6 : Z 11 hb 0 9 = kc5) (gr7 : Z 200 0 0 1 = kc6) (gr8 : Z 200 0 0 2 = kc7) {k : wz_K} {R : wz_R} {L : qz_L} (hL : qz_fg [true, true, true, false] L = [some (.inr (.inr (some (200, x0, 0)))), some (.inl (i3 x1)), some (.inl (i3 x2)), none]) {T : qz_Z × Int} (hP : zE T (zl_150_3 x0 hb x1 ((48 - x2).toNat + 1) Z x2)) (hk : ∀ (L9 : qz_L) (Z9 : qz_Z) (yx2 : Int), qz_fg [false, false, false, false] L9 = [none, none, none, none] → zI (some (some (x0 : Int))) Z9 → zK [43, 44, 200] Zs Z9 → (0 ≤ yx2 ∧ yx2 ≤ 48) → (1 ≤ (x0 : Int)) → (Z9 11 hb 0 3 = kc0) → (Z9 11 hb 0 4 = kc1) → (Z9 11 hb 0 5 = kc2) → (Z9 11 hb 0 7 = kc3) → (Z9 11 hb 0 8 = kc4) → (Z9 11 hb 0 9 = kc5) → (Z9 200 0 0 1 = kc6) → (Z9 200 0 0 2 = kc7) → zE T ((Z9, yx2)) → k 0 (L9, [], zm Z9 ν)) : wz_loop qb_150_3 65536 k R (L, [], zm Z ν) := by
  refine wz_lp sb_150_3 (fun m x => ∃ Z : qz_Z, ∃ x2 : Int, qz_fg [true, true, true, false] x.1 = [some (.inr (.inr (some (200, x0, 0)))), some (.inl (i3 x1)), some (.inl (i3 x2)), none] ∧ x.2 = ([], zm Z ν) ∧ zI (some (some (x0 : Int))) Z ∧ zK [43, 44, 200] Zs Z ∧ m = (48 - x2).toNat ∧ (0 ≤ x2 ∧ x2 ≤ 48) ∧ (1 ≤ (x0 : Int)) ∧ (Z 11 hb 0 3 = kc0) ∧ (Z 11 hb 0 4 = kc1) ∧ (Z 11 hb 0 5 = kc2) ∧ (Z 11 hb 0 7 = kc3) ∧ (Z 11 hb 0 8 = kc4) ∧ (Z 11 hb 0 9 = kc5) ∧ (Z 200 0 0 1 = kc6) ∧ (Z 200 0 0 2 = kc7) ∧ zE T (zl_150_3 x0 hb x1 (m + 1) Z x2)) ?_ 65536 ((48 - x2).toNat) _ (by omega) ⟨Z, x2, hL, rfl, hZ, hK, rfl, gx2, gr0, gr1, gr2, gr3, gr4, gr5, gr6, gr7, gr8, hP⟩
  clear hP gr0 gr1 gr2 gr3 gr4 gr5 gr6 gr7 gr8 gx2 hZ hK hL
  clear x2
  clear Z
  rintro m ⟨L, st, μ⟩ ⟨Z, x2, hL, hx, hZ, hK, hm, gx2, gr0, gr1, gr2, gr3, gr4, gr5, gr6, gr7, gr8, hP⟩
  cases hx
  refine fb_150_3 x0 (i3 x1) (i3 x2) _ _ _ _ hL ?_
  have rs := zI_xs (n := x0) hZ
  refine wz_i1 (by rw [tsn]; rfl) ?_
  refine wz_rko (rsn _) ?_
  refine wz_i1 rfl ?_
  refine wz_rko (r := (11, _, _)) rfl ?_
  refine wz_i1 rfl ?_
  refine wz_i0 (i3O (n := 17) (show (3 : Int32) = i3 3 from rfl) (by omega) (by omega) (by omega)) ?_
  have r1 := zI_k hZ 11 hb 0 3 (lo := 0) (hi := 48) (by decide) rfl
  refine wz_br (i3Le (zm_rd (Z := Z) (ν := ν) (k := 11) (rfl : ((hb : Nat) : Int) = hb) (show ((0 : Nat) : Int) = 0 from rfl) (show ((3 : Nat) : Int) = 3 from rfl)) (rfl : i3 x2 = i3 x2) (by omega) (by omega) (by omega) (by omega)) (fun h2 => ?_) (fun h2 => ?_)
  · replace hP := zE_p hP h2
    exact hk _ _ _ (zconso rfl (zconso rfl (zconso rfl (zconso rfl rfl)))) hZ hK (by omega) (by omega) (by omega) (by omega) (by omega) (by omega) (by omega) (by omega) (by omega) (by omega) hP
  · replace hP := zE_n hP h2
    refine wz_i1 (by rw [tsn]; rfl) ?_
    refine wz_i1 (by rw [tsn]; rfl) ?_
    refine wz_i1 (by rw [tsn]; rfl) ?_
    have r3 := zI_xr (n := x0) hZ
    obtain ⟨Z4, hZ4⟩ := zx (zu Z 200 x0 0 2 (((25173 * (Z 200 x0 0 2)) + 13849) % 65536))
    replace hP := zl_e hP hZ4
    have hZ4I := zI_x hZ hZ4 (by omega)
    have t5 : Z4 11 hb 0 3 = Z 11 hb 0 3 := zu_ne hZ4 (fun q => absurd q.1 (by decide))
    have t6 : Z4 11 hb 0 4 = Z 11 hb 0 4 := zu_ne hZ4 (fun q => absurd q.1 (by decide))
    have t7 : Z4 11 hb 0 5 = Z 11 hb 0 5 := zu_ne hZ4 (fun q => absurd q.1 (by decide))
    have t8 : Z4 11 hb 0 7 = Z 11 hb 0 7 := zu_ne hZ4 (fun q => absurd q.1 (by decide))
    have t9 : Z4 11 hb 0 8 = Z 11 hb 0 8 := zu_ne hZ4 (fun q => absurd q.1 (by decide))
    have t10 : Z4 11 hb 0 9 = Z 11 hb 0 9 := zu_ne hZ4 (fun q => absurd q.1 (by decide))
    have t11 : Z4 200 0 0 1 = Z 200 0 0 1 := zu_ne hZ4 (fun q => absurd q.2.2.2 (by decide))
    have t12 : Z4 200 0 0 2 = Z 200 0 0 2 := zu_ne hZ4 (by omega)
    have hZ4K := zK_u hK hZ4 (by decide)
    intro μ9 e9
    replace e9 := e9.trans (zm_wI (Z := Z) (ν := ν) hZ4 (rfl : ((x0 : Nat) : Int) = x0) (show ((0 : Nat) : Int) = 0 from rfl) (show ((2 : Nat) : Int) = 2 from rfl) (i3R (i3A (i3M (show (25173 : Int32) = i3 25173 from rfl) (zm_rd (Z := Z) (ν := ν) (k := 200) (rfl : ((x0 : Nat) : Int) = x0) (show ((0 : Nat) : Int) = 0 from rfl) (show ((2 : Nat) : Int) = 2 from rfl))) (show (13849 : Int32) = i3 13849 from rfl)) (show (65536 : Int32) = i3 65536 from rfl) (by omega) (by omega) (by omega) (by omega)))
    subst e9
    refine wz_i1 (by rw [tsn]; rfl) ?_
    refine wz_i0 (i3N0 (i3Mx (show (1 : Int32) = i3 1 from rfl) (i3A (rfl : i3 x1 = i3 x1) (show (1 : Int32) = i3 1 from rfl)) (by omega) (by omega) (by omega) (by omega)) (by omega) (by omega) (by omega)) ?_
    have r13 := zI_xr (n := x0) hZ4I
    have q14 := zu_at hZ4
    have r15 := z_mod ((Z4 200 x0 0 2) / 16) (y := (max 1 (x1 + 1))) (by omega)
    refine wz_br (i3Le (rfl : i3 x1 = i3 x1) (i3R (i3D (zm_rd (Z := Z4) (ν := ν) (k := 200) (rfl : ((x0 : Nat) : Int) = x0) (show ((0 : Nat) : Int) = 0 from rfl) (show ((2 : Nat) : Int) = 2 from rfl)) (show (16 : Int32) = i3 16 from rfl) (by omega) (by omega) (by omega) (by omega)) (i3Mx (show (1 : Int32) = i3 1 from rfl) (i3A (rfl : i3 x1 = i3 x1) (show (1 : Int32) = i3 1 from rfl)) (by omega) (by omega) (by omega) (by omega)) (by omega) (by omega) (by omega) (by omega)) (by omega) (by omega) (by omega) (by omega)) (fun h16 => ?_) (fun h16 => ?_)
    · replace hP := zE_p hP h16
      obtain ⟨m2, rfl⟩ : ∃ m2, m = m2 + 1 := ⟨m - 1, by omega⟩
      exact wz_k1 ⟨m2, by omega, Z4, (x2 + 1), (zconso rfl (zconso (zvo (rfl : i3 x1 = i3 x1)) (zconso (zvo (i3A (rfl : i3 x2 = i3 x2) (show (1 : Int32) = i3 1 from rfl))) (zconso rfl rfl)))), rfl, hZ4I, hZ4K, by omega, by omega, by omega, by omega, by omega, by omega, by omega, by omega, by omega, by omega, by omega,  hP⟩
    · replace hP := zE_n hP h16
      refine wz_i1 (by rw [tsn]; rfl) ?_
      refine wz_rko (rsn _) ?_
      refine wz_i1 (Eq.trans (i3NE (i3R (i3D (zm_rd (Z := Z4) (ν := ν) (k := 200) (rfl : ((x0 : Nat) : Int) = x0) (show ((0 : Nat) : Int) = 0 from rfl) (show ((2 : Nat) : Int) = 2 from rfl)) (show (16 : Int32) = i3 16 from rfl) (by omega) (by omega) (by omega) (by omega)) (i3Mx (show (1 : Int32) = i3 1 from rfl) (i3A (rfl : i3 x1 = i3 x1) (show (1 : Int32) = i3 1 from rfl)) (by omega) (by omega) (by omega) (by omega)) (by omega) (by omega) (by omega) (by omega)) (show (6 : Int32) = i3 6 from rfl) (by omega) (by omega) (by omega) (by omega)) (decide_eq_true (by omega))) ?_
      refine wz_i1 rfl ?_
      refine wz_rko (r := (23, _, _)) rfl ?_
      refine wz_i1 rfl ?_
      refine wz_i0 (i3O (n := 6) (i3R (i3D (zm_rd (Z := Z4) (ν := ν) (k := 200) (rfl : ((x0 : Nat) : Int) = x0) (show ((0 : Nat) : Int) = 0 from rfl) (show ((2 : Nat) : Int) = 2 from rfl)) (show (16 : Int32) = i3 16 from rfl) (by omega) (by omega) (by omega) (by omega)) (i3Mx (show (1 : Int32) = i3 1 from rfl) (i3A (rfl : i3 x1 = i3 x1) (show (1 : Int32) = i3 1 from rfl)) (by omega) (by omega) (by omega) (by omega)) (by omega) (by omega) (by omega) (by omega)) (by omega) (by omega) (by omega)) ?_
      refine wz_rko (r := (43, _, _)) rfl ?_
      refine wz_i1 rfl ?_
      refine wz_i0 (i3O (n := 11) (show (0 : Int32) = i3 0 from rfl) (by omega) (by omega) (by omega)) ?_
      obtain ⟨v17, hv17, c9, lv17, uv17⟩ := sp_182 (ν := ν) hZ4I hb (a1 := (((Z4 200 x0 0 2) / 16) % (max 1 (x1 + 1)))) (by omega)
      replace hP := zl_e hP hv17
      refine wz_cI_of (zas (zcons rfl (zcons (zvi (i3R (i3D (zm_rd (Z := Z4) (ν := ν) (k := 200) (rfl : ((x0 : Nat) : Int) = x0) (show ((0 : Nat) : Int) = 0 from rfl) (show ((2 : Nat) : Int) = 2 from rfl)) (show (16 : Int32) = i3 16 from rfl) (by omega) (by omega) (by omega) (by omega)) (i3Mx (show (1 : Int32) = i3 1 from rfl) (i3A (rfl : i3 x1 = i3 x1) (show (1 : Int32) = i3 1 from rfl)) (by omega) (by omega) (by omega) (by omega)) (by omega) (by omega) (by omega) (by omega))) rfl)) c9) ?_
      clear c9
      have r18 := zI_k hZ4I 43 hb (((Z4 200 x0 0 2) / 16) % (max 1 (x1 + 1))) 0 (lo := 0) (hi := 12) (by decide) rfl
      refine wz_br (i3Le (i3S (zm_rd (Z := Z4) (ν := ν) (k := 43) (rfl : ((hb : Nat) : Int) = hb) (i3I (y := (((Z4 200 x0 0 2) / 16) % (max 1 (x1 + 1)))) (i3R (i3D (zm_rd (Z := Z4) (ν := ν) (k := 200) (rfl : ((x0 : Nat) : Int) = x0) (show ((0 : Nat) : Int) = 0 from rfl) (show ((2 : Nat) : Int) = 2 from rfl)) (show (16 : Int32) = i3 16 from rfl) (by omega) (by omega) (by omega) (by omega)) (i3Mx (show (1 : Int32) = i3 1 from rfl) (i3A (rfl : i3 x1 = i3 x1) (show (1 : Int32) = i3 1 from rfl)) (by omega) (by omega) (by omega) (by omega)) (by omega) (by omega) (by omega) (by omega)) (by omega) (by omega) (by omega)) (show ((0 : Nat) : Int) = 0 from rfl)) (rfl : i3 v17 = i3 v17)) (show (0 : Int32) = i3 0 from rfl) (by omega) (by omega) (by omega) (by omega)) (fun h19 => ?_) (fun h19 => ?_)
      · replace hP := zE_p hP h19
        obtain ⟨m2, rfl⟩ : ∃ m2, m = m2 + 1 := ⟨m - 1, by omega⟩
        exact wz_k1 ⟨m2, by omega, Z4, (x2 + 1), (zconso rfl (zconso (zvo (rfl : i3 x1 = i3 x1)) (zconso (zvo (i3A (rfl : i3 x2 = i3 x2) (show (1 : Int32) = i3 1 from rfl))) (zconso rfl rfl)))), rfl, hZ4I, hZ4K, by omega, by omega, by omega, by omega, by omega, by omega, by omega, by omega, by omega, by omega, by omega,  hP⟩
      · replace hP := zE_n hP h19
        refine wz_i1 (by rw [tsn]; rfl) ?_
        refine wz_rko (rsn _) ?_
        refine wz_i1 (Eq.trans (i3NE (i3R (i3D (zm_rd (Z := Z4) (ν := ν) (k := 200) (rfl : ((x0 : Nat) : Int) = x0) (show ((0 : Nat) : Int) = 0 from rfl) (show ((2 : Nat) : Int) = 2 from rfl)) (show (16 : Int32) = i3 16 from rfl) (by omega) (by omega) (by omega) (by omega)) (i3Mx (show (1 : Int32) = i3 1 from rfl) (i3A (rfl : i3 x1 = i3 x1) (show (1 : Int32) = i3 1 from rfl)) (by omega) (by omega) (by omega) (by omega)) (by omega) (by omega) (by omega) (by omega)) (show (-1 : Int32) = i3 (-1) from rfl) (by omega) (by omega) (by omega) (by omega)) (decide_eq_true (by omega))) ?_
        refine wz_i1 rfl ?_
        refine wz_rko (r := (24, _, _)) rfl ?_
        refine wz_i1 rfl ?_
        refine wz_i0 (i3O (n := 48) (rfl : i3 x2 = i3 x2) (by omega) (by omega) (by omega)) ?_
        refine wz_rko (r := (44, _, _)) rfl ?_
        obtain ⟨Z20, hZ20, c9, hZ20I, kZ20, wZ200, wZ201, wZ202, wZ203, wZ204, wZ205, wZ206, wZ207⟩ := sp_175 (ν := ν) hZ4I hb hb _ (i3I (y := x2) (rfl : i3 x2 = i3 x2) (by omega) (by omega) (by omega)) (a2 := (((Z4 200 x0 0 2) / 16) % (max 1 (x1 + 1)))) (by omega)
        have hZ20K : zK [43, 44, 200] Zs Z20 := zK_t hZ4K kZ20 (by decide)
        replace hP := zl_e hP hZ20
        refine wz_cV_of (zas (zcons rfl (zcons rfl (zcons (zvi (i3R (i3D (zm_rd (Z := Z4) (ν := ν) (k := 200) (rfl : ((x0 : Nat) : Int) = x0) (show ((0 : Nat) : Int) = 0 from rfl) (show ((2 : Nat) : Int) = 2 from rfl)) (show (16 : Int32) = i3 16 from rfl) (by omega) (by omega) (by omega) (by omega)) (i3Mx (show (1 : Int32) = i3 1 from rfl) (i3A (rfl : i3 x1 = i3 x1) (show (1 : Int32) = i3 1 from rfl)) (by omega) (by omega) (by omega) (by omega)) (by omega) (by omega) (by omega) (by omega))) rfl))) c9) ?_
        clear c9
        refine wz_i1 (Eq.trans (i3NE (i3R (i3D (zm_rd (Z := Z4) (ν := ν) (k := 200) (rfl : ((x0 : Nat) : Int) = x0) (show ((0 : Nat) : Int) = 0 from rfl) (show ((2 : Nat) : Int) = 2 from rfl)) (show (16 : Int32) = i3 16 from rfl) (by omega) (by omega) (by omega) (by omega)) (i3Mx (show (1 : Int32) = i3 1 from rfl) (i3A (rfl : i3 x1 = i3 x1) (show (1 : Int32) = i3 1 from rfl)) (by omega) (by omega) (by omega) (by omega)) (by omega) (by omega) (by omega) (by omega)) (show (6 : Int32) = i3 6 from rfl) (by omega) (by omega) (by omega) (by omega)) (decide_eq_true (by omega))) ?_
        refine wz_i1 rfl ?_
        refine wz_rko (r := (23, _, _)) rfl ?_
        refine wz_i1 rfl ?_
        refine wz_i0 (i3O (n := 6) (i3R (i3D (zm_rd (Z := Z4) (ν := ν) (k := 200) (rfl : ((x0 : Nat) : Int) = x0) (show ((0 : Nat) : Int) = 0 from rfl) (show ((2 : Nat) : Int) = 2 from rfl)) (show (16 : Int32) = i3 16 from rfl) (by omega) (by omega) (by omega) (by omega)) (i3Mx (show (1 : Int32) = i3 1 from rfl) (i3A (rfl : i3 x1 = i3 x1) (show (1 : Int32) = i3 1 from rfl)) (by omega) (by omega) (by omega) (by omega)) (by omega) (by omega) (by omega) (by omega)) (by omega) (by omega) (by omega)) ?_
        refine wz_rko (r := (43, _, _)) rfl ?_
        refine wz_i1 rfl ?_
        refine wz_i0 (i3O (n := 11) (show (0 : Int32) = i3 0 from rfl) (by omega) (by omega) (by omega)) ?_
        obtain ⟨v21, hv21, c9, lv21, uv21⟩ := sp_182 (ν := ν) hZ20I hb (a1 := (((Z4 200 x0 0 2) / 16) % (max 1 (x1 + 1)))) (by omega)
        replace hP := zl_e hP hv21
        refine wz_cI_of (zas (zcons rfl (zcons (zvi (i3R (i3D (zm_rd (Z := Z4) (ν := ν) (k := 200) (rfl : ((x0 : Nat) : Int) = x0) (show ((0 : Nat) : Int) = 0 from rfl) (show ((2 : Nat) : Int) = 2 from rfl)) (show (16 : Int32) = i3 16 from rfl) (by omega) (by omega) (by omega) (by omega)) (i3Mx (show (1 : Int32) = i3 1 from rfl) (i3A (rfl : i3 x1 = i3 x1) (show (1 : Int32) = i3 1 from rfl)) (by omega) (by omega) (by omega) (by omega)) (by omega) (by omega) (by omega) (by omega))) rfl)) c9) ?_
        clear c9
        obtain ⟨m2, rfl⟩ : ∃ m2, m = m2 + 1 := ⟨m - 1, by omega⟩
        exact wz_k1 ⟨m2, by omega, Z20, (x2 + 1), (zconso rfl (zconso (zvo (rfl : i3 x1 = i3 x1)) (zconso (zvo (i3A (rfl : i3 x2 = i3 x2) (show (1 : Int32) = i3 1 from rfl))) (zconso rfl rfl)))), rfl, hZ20I, hZ20K, by omega, by omega, by omega, by omega, by omega, by omega, by omega, by omega, by omega, by omega, by omega,  hP⟩

