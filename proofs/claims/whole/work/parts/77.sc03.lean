/-! a season told, c (printed by season.py) -/
/- yX8_tellStores -/
def zl_150_2 (x0 : Int) (hb : Int) (x1 : Int) : Nat → qz_Z → Int → qz_Z × Int
  | 0, Z, x2 => (Z, x2)
  | m + 1, Z, x2 => (if 28 ≤ x2 then (Z, x2) else (zlet (zu Z 200 x0 0 2 (((25173 * (Z 200 x0 0 2)) + 13849) % 65536)) (fun Z3 => (zlet (zu Z3 12 hb 0 x2 (((Z3 200 x0 0 2) / 16) % 41)) (fun Z12 => zl_150_2 x0 hb x1 m Z12 (x2 + 1))))))
theorem sl_150_2 {Zs Z : qz_Z} {ν : qz_N} (x0 : Nat) (hZ : zI (some (some (x0 : Int))) Z) (hK : zK [12, 200] Zs Z) (hb : Nat) (tsn : ∀ Z, qz_tag (zm Z ν) (200, x0, 0) = 2) (rsn : ∀ Z, qz_rm (zm Z ν) 200 x0 0 0 = some (10, hb, 0)) {x1 : Int} (gx1 : 0 ≤ x1 ∧ x1 ≤ 4) {x2 : Int} (gx2 : 0 ≤ x2 ∧ x2 ≤ 28) {kc0 : Int} {kc1 : Int} {kc2 : Int} {kc3 : Int} {kc4 : Int} {kc5 : Int} (gr0 : Z 11 hb 0 3 = kc0) (gr1 : Z 11 hb 0 4 = kc1) (gr2 : Z 11 hb 0 5 = kc2) (gr3 : Z 11 hb 0 7 = kc3) (gr4 : Z 11 hb 0 8 = kc4) (gr5 : Z 11 hb 0 9 = kc5) {k : wz_K} {R : wz_R} {L : qz_L} (hL : qz_fg [true, true, true, false] L = [some (.inr (.inr (some (200, x0, 0)))), some (.inl (i3 x1)), some (.inl (i3 x2)), none]) {T : qz_Z × Int} (hP : zE T (zl_150_2 x0 hb x1 ((28 - x2).toNat + 1) Z x2)) (hk : ∀ (L9 : qz_L) (Z9 : qz_Z) (yx2 : Int), qz_fg [true, true, false, false] L9 = [some (.inr (.inr (some (200, x0, 0)))), some (.inl (i3 x1)), none, none] → zI (some (some (x0 : Int))) Z9 → zK [12, 200] Zs Z9 → (0 ≤ yx2 ∧ yx2 ≤ 28) → (Z9 11 hb 0 3 = kc0) → (Z9 11 hb 0 4 = kc1) → (Z9 11 hb 0 5 = kc2) → (Z9 11 hb 0 7 = kc3) → (Z9 11 hb 0 8 = kc4) → (Z9 11 hb 0 9 = kc5) → zE T ((Z9, yx2)) → k 0 (L9, [], zm Z9 ν)) : wz_loop qb_150_2 65536 k R (L, [], zm Z ν) := by
  refine wz_lp sb_150_2 (fun m x => ∃ Z : qz_Z, ∃ x2 : Int, qz_fg [true, true, true, false] x.1 = [some (.inr (.inr (some (200, x0, 0)))), some (.inl (i3 x1)), some (.inl (i3 x2)), none] ∧ x.2 = ([], zm Z ν) ∧ zI (some (some (x0 : Int))) Z ∧ zK [12, 200] Zs Z ∧ m = (28 - x2).toNat ∧ (0 ≤ x2 ∧ x2 ≤ 28) ∧ (Z 11 hb 0 3 = kc0) ∧ (Z 11 hb 0 4 = kc1) ∧ (Z 11 hb 0 5 = kc2) ∧ (Z 11 hb 0 7 = kc3) ∧ (Z 11 hb 0 8 = kc4) ∧ (Z 11 hb 0 9 = kc5) ∧ zE T (zl_150_2 x0 hb x1 (m + 1) Z x2)) ?_ 65536 ((28 - x2).toNat) _ (by omega) ⟨Z, x2, hL, rfl, hZ, hK, rfl, gx2, gr0, gr1, gr2, gr3, gr4, gr5, hP⟩
  clear hP gr0 gr1 gr2 gr3 gr4 gr5 gx2 hZ hK hL
  clear x2
  clear Z
  rintro m ⟨L, st, μ⟩ ⟨Z, x2, hL, hx, hZ, hK, hm, gx2, gr0, gr1, gr2, gr3, gr4, gr5, hP⟩
  cases hx
  refine fb_150_2 x0 (i3 x1) (i3 x2) _ _ _ _ hL ?_
  have rs := zI_xs (n := x0) hZ
  refine wz_br (i3Le (show (28 : Int32) = i3 28 from rfl) (rfl : i3 x2 = i3 x2) (by omega) (by omega) (by omega) (by omega)) (fun h1 => ?_) (fun h1 => ?_)
  · replace hP := zE_p hP h1
    exact hk _ _ _ (zconso rfl (zconso (zvo (rfl : i3 x1 = i3 x1)) (zconso rfl (zconso rfl rfl)))) hZ hK (by omega) (by omega) (by omega) (by omega) (by omega) (by omega) (by omega) hP
  · replace hP := zE_n hP h1
    refine wz_i1 (by rw [tsn]; rfl) ?_
    refine wz_rko (rsn _) ?_
    refine wz_i1 rfl ?_
    refine wz_rko (r := (12, _, _)) rfl ?_
    refine wz_i1 (by rw [tsn]; rfl) ?_
    refine wz_i1 (by rw [tsn]; rfl) ?_
    refine wz_i1 (by rw [tsn]; rfl) ?_
    have r2 := zI_xr (n := x0) hZ
    obtain ⟨Z3, hZ3⟩ := zx (zu Z 200 x0 0 2 (((25173 * (Z 200 x0 0 2)) + 13849) % 65536))
    replace hP := zl_e hP hZ3
    have hZ3I := zI_x hZ hZ3 (by omega)
    have t4 : Z3 11 hb 0 3 = Z 11 hb 0 3 := zu_ne hZ3 (fun q => absurd q.1 (by decide))
    have t5 : Z3 11 hb 0 4 = Z 11 hb 0 4 := zu_ne hZ3 (fun q => absurd q.1 (by decide))
    have t6 : Z3 11 hb 0 5 = Z 11 hb 0 5 := zu_ne hZ3 (fun q => absurd q.1 (by decide))
    have t7 : Z3 11 hb 0 7 = Z 11 hb 0 7 := zu_ne hZ3 (fun q => absurd q.1 (by decide))
    have t8 : Z3 11 hb 0 8 = Z 11 hb 0 8 := zu_ne hZ3 (fun q => absurd q.1 (by decide))
    have t9 : Z3 11 hb 0 9 = Z 11 hb 0 9 := zu_ne hZ3 (fun q => absurd q.1 (by decide))
    have hZ3K := zK_u hK hZ3 (by decide)
    intro μ9 e9
    replace e9 := e9.trans (zm_wI (Z := Z) (ν := ν) hZ3 (rfl : ((x0 : Nat) : Int) = x0) (show ((0 : Nat) : Int) = 0 from rfl) (show ((2 : Nat) : Int) = 2 from rfl) (i3R (i3A (i3M (show (25173 : Int32) = i3 25173 from rfl) (zm_rd (Z := Z) (ν := ν) (k := 200) (rfl : ((x0 : Nat) : Int) = x0) (show ((0 : Nat) : Int) = 0 from rfl) (show ((2 : Nat) : Int) = 2 from rfl))) (show (13849 : Int32) = i3 13849 from rfl)) (show (65536 : Int32) = i3 65536 from rfl) (by omega) (by omega) (by omega) (by omega)))
    subst e9
    refine wz_i1 (by rw [tsn]; rfl) ?_
    refine wz_i1 rfl ?_
    refine wz_i0 (i3O (n := 28) (rfl : i3 x2 = i3 x2) (by omega) (by omega) (by omega)) ?_
    have r10 := zI_xr (n := x0) hZ3I
    have q11 := zu_at hZ3
    obtain ⟨Z12, hZ12⟩ := zx (zu Z3 12 hb 0 x2 (((Z3 200 x0 0 2) / 16) % 41))
    replace hP := zl_e hP hZ12
    have hZ12I := zI_u hZ3I hZ12 (lo := 0) (hi := 40) (by decide) (zrc_12 (by omega) (by omega)) (by omega) ⟨by decide, by decide⟩ (Or.inl (by decide))
    have t13 : Z12 11 hb 0 3 = Z3 11 hb 0 3 := zu_ne hZ12 (fun q => absurd q.1 (by decide))
    have t14 : Z12 11 hb 0 4 = Z3 11 hb 0 4 := zu_ne hZ12 (fun q => absurd q.1 (by decide))
    have t15 : Z12 11 hb 0 5 = Z3 11 hb 0 5 := zu_ne hZ12 (fun q => absurd q.1 (by decide))
    have t16 : Z12 11 hb 0 7 = Z3 11 hb 0 7 := zu_ne hZ12 (fun q => absurd q.1 (by decide))
    have t17 : Z12 11 hb 0 8 = Z3 11 hb 0 8 := zu_ne hZ12 (fun q => absurd q.1 (by decide))
    have t18 : Z12 11 hb 0 9 = Z3 11 hb 0 9 := zu_ne hZ12 (fun q => absurd q.1 (by decide))
    have hZ12K := zK_u hZ3K hZ12 (by decide)
    intro μ9 e9
    replace e9 := e9.trans (zm_wI (Z := Z3) (ν := ν) hZ12 (rfl : ((hb : Nat) : Int) = hb) (show ((0 : Nat) : Int) = 0 from rfl) (i3I (y := x2) (rfl : i3 x2 = i3 x2) (by omega) (by omega) (by omega)) (i3R (i3D (zm_rd (Z := Z3) (ν := ν) (k := 200) (rfl : ((x0 : Nat) : Int) = x0) (show ((0 : Nat) : Int) = 0 from rfl) (show ((2 : Nat) : Int) = 2 from rfl)) (show (16 : Int32) = i3 16 from rfl) (by omega) (by omega) (by omega) (by omega)) (show (41 : Int32) = i3 41 from rfl) (by omega) (by omega) (by omega) (by omega)))
    subst e9
    obtain ⟨m2, rfl⟩ : ∃ m2, m = m2 + 1 := ⟨m - 1, by omega⟩
    exact wz_k1 ⟨m2, by omega, Z12, (x2 + 1), (zconso rfl (zconso (zvo (rfl : i3 x1 = i3 x1)) (zconso (zvo (i3A (rfl : i3 x2 = i3 x2) (show (1 : Int32) = i3 1 from rfl))) (zconso rfl rfl)))), rfl, hZ12I, hZ12K, by omega, by omega, by omega, by omega, by omega, by omega, by omega, by omega,  hP⟩

/- yX8_tellStores -/
def zl_150_3 (x0 : Int) (hb : Int) (x1 : Int) : Nat → qz_Z → Int → qz_Z × Int
  | 0, Z, x2 => (Z, x2)
  | m + 1, Z, x2 => (if (Z 11 hb 0 3) ≤ x2 then (Z, x2) else (zlet (zu Z 200 x0 0 2 (((25173 * (Z 200 x0 0 2)) + 13849) % 65536)) (fun Z4 => (if x1 ≤ (((Z4 200 x0 0 2) / 16) % (max 1 (x1 + 1))) then zl_150_3 x0 hb x1 m Z4 (x2 + 1) else (zlet (zf_182 Z4 hb (((Z4 200 x0 0 2) / 16) % (max 1 (x1 + 1)))) (fun v15 => (if ((Z4 43 hb (((Z4 200 x0 0 2) / 16) % (max 1 (x1 + 1))) 0) - v15) ≤ 0 then zl_150_3 x0 hb x1 m Z4 (x2 + 1) else (zlet (zf_175 Z4 hb hb x2 (((Z4 200 x0 0 2) / 16) % (max 1 (x1 + 1)))) (fun Z18 => (zlet (zf_182 Z18 hb (((Z4 200 x0 0 2) / 16) % (max 1 (x1 + 1)))) (fun v19 => zl_150_3 x0 hb x1 m Z18 (x2 + 1))))))))))))
theorem sl_150_3 {Zs Z : qz_Z} {ν : qz_N} (x0 : Nat) (hZ : zI (some (some (x0 : Int))) Z) (hK : zK [43, 44, 200] Zs Z) (hb : Nat) (tsn : ∀ Z, qz_tag (zm Z ν) (200, x0, 0) = 2) (rsn : ∀ Z, qz_rm (zm Z ν) 200 x0 0 0 = some (10, hb, 0)) {x1 : Int} (gx1 : 0 ≤ x1 ∧ x1 ≤ 4) {x2 : Int} (gx2 : 0 ≤ x2 ∧ x2 ≤ 48) {kc0 : Int} {kc1 : Int} {kc2 : Int} {kc3 : Int} {kc4 : Int} {kc5 : Int} (gr0 : Z 11 hb 0 3 = kc0) (gr1 : Z 11 hb 0 4 = kc1) (gr2 : Z 11 hb 0 5 = kc2) (gr3 : Z 11 hb 0 7 = kc3) (gr4 : Z 11 hb 0 8 = kc4) (gr5 : Z 11 hb 0 9 = kc5) {k : wz_K} {R : wz_R} {L : qz_L} (hL : qz_fg [true, true, true, false] L = [some (.inr (.inr (some (200, x0, 0)))), some (.inl (i3 x1)), some (.inl (i3 x2)), none]) {T : qz_Z × Int} (hP : zE T (zl_150_3 x0 hb x1 ((48 - x2).toNat + 1) Z x2)) (hk : ∀ (L9 : qz_L) (Z9 : qz_Z) (yx2 : Int), qz_fg [false, false, false, false] L9 = [none, none, none, none] → zI (some (some (x0 : Int))) Z9 → zK [43, 44, 200] Zs Z9 → (0 ≤ yx2 ∧ yx2 ≤ 48) → (Z9 11 hb 0 3 = kc0) → (Z9 11 hb 0 4 = kc1) → (Z9 11 hb 0 5 = kc2) → (Z9 11 hb 0 7 = kc3) → (Z9 11 hb 0 8 = kc4) → (Z9 11 hb 0 9 = kc5) → zE T ((Z9, yx2)) → k 0 (L9, [], zm Z9 ν)) : wz_loop qb_150_3 65536 k R (L, [], zm Z ν) := by
  refine wz_lp sb_150_3 (fun m x => ∃ Z : qz_Z, ∃ x2 : Int, qz_fg [true, true, true, false] x.1 = [some (.inr (.inr (some (200, x0, 0)))), some (.inl (i3 x1)), some (.inl (i3 x2)), none] ∧ x.2 = ([], zm Z ν) ∧ zI (some (some (x0 : Int))) Z ∧ zK [43, 44, 200] Zs Z ∧ m = (48 - x2).toNat ∧ (0 ≤ x2 ∧ x2 ≤ 48) ∧ (Z 11 hb 0 3 = kc0) ∧ (Z 11 hb 0 4 = kc1) ∧ (Z 11 hb 0 5 = kc2) ∧ (Z 11 hb 0 7 = kc3) ∧ (Z 11 hb 0 8 = kc4) ∧ (Z 11 hb 0 9 = kc5) ∧ zE T (zl_150_3 x0 hb x1 (m + 1) Z x2)) ?_ 65536 ((48 - x2).toNat) _ (by omega) ⟨Z, x2, hL, rfl, hZ, hK, rfl, gx2, gr0, gr1, gr2, gr3, gr4, gr5, hP⟩
  clear hP gr0 gr1 gr2 gr3 gr4 gr5 gx2 hZ hK hL
  clear x2
  clear Z
  rintro m ⟨L, st, μ⟩ ⟨Z, x2, hL, hx, hZ, hK, hm, gx2, gr0, gr1, gr2, gr3, gr4, gr5, hP⟩
  cases hx
  refine fb_150_3 x0 (i3 x1) (i3 x2) _ _ _ _ hL ?_
  have rs := zI_xs (n := x0) hZ
  refine wz_i1 (by rw [tsn]; rfl) ?_
  refine wz_rko (rsn _) ?_
  refine wz_i1 rfl ?_
  refine wz_rko (r := (11, _, _)) rfl ?_
  refine wz_i1 rfl ?_
  refine wz_i0 (i3O (n := 17) (show (3 : Int32) = i3 3 from rfl) (by omega) (by omega) (by omega)) ?_
  have r1 := zI_k hZ 11 hb 0 3 (lo := 0) (hi := 48) (by decide) rfl
  refine wz_br (i3Le (zm_rd (Z := Z) (ν := ν) (k := 11) (rfl : ((hb : Nat) : Int) = hb) (show ((0 : Nat) : Int) = 0 from rfl) (show ((3 : Nat) : Int) = 3 from rfl)) (rfl : i3 x2 = i3 x2) (by omega) (by omega) (by omega) (by omega)) (fun h2 => ?_) (fun h2 => ?_)
  · replace hP := zE_p hP h2
    exact hk _ _ _ (zconso rfl (zconso rfl (zconso rfl (zconso rfl rfl)))) hZ hK (by omega) (by omega) (by omega) (by omega) (by omega) (by omega) (by omega) hP
  · replace hP := zE_n hP h2
    refine wz_i1 (by rw [tsn]; rfl) ?_
    refine wz_i1 (by rw [tsn]; rfl) ?_
    refine wz_i1 (by rw [tsn]; rfl) ?_
    have r3 := zI_xr (n := x0) hZ
    obtain ⟨Z4, hZ4⟩ := zx (zu Z 200 x0 0 2 (((25173 * (Z 200 x0 0 2)) + 13849) % 65536))
    replace hP := zl_e hP hZ4
    have hZ4I := zI_x hZ hZ4 (by omega)
    have t5 : Z4 11 hb 0 3 = Z 11 hb 0 3 := zu_ne hZ4 (fun q => absurd q.1 (by decide))
    have t6 : Z4 11 hb 0 4 = Z 11 hb 0 4 := zu_ne hZ4 (fun q => absurd q.1 (by decide))
    have t7 : Z4 11 hb 0 5 = Z 11 hb 0 5 := zu_ne hZ4 (fun q => absurd q.1 (by decide))
    have t8 : Z4 11 hb 0 7 = Z 11 hb 0 7 := zu_ne hZ4 (fun q => absurd q.1 (by decide))
    have t9 : Z4 11 hb 0 8 = Z 11 hb 0 8 := zu_ne hZ4 (fun q => absurd q.1 (by decide))
    have t10 : Z4 11 hb 0 9 = Z 11 hb 0 9 := zu_ne hZ4 (fun q => absurd q.1 (by decide))
    have hZ4K := zK_u hK hZ4 (by decide)
    intro μ9 e9
    replace e9 := e9.trans (zm_wI (Z := Z) (ν := ν) hZ4 (rfl : ((x0 : Nat) : Int) = x0) (show ((0 : Nat) : Int) = 0 from rfl) (show ((2 : Nat) : Int) = 2 from rfl) (i3R (i3A (i3M (show (25173 : Int32) = i3 25173 from rfl) (zm_rd (Z := Z) (ν := ν) (k := 200) (rfl : ((x0 : Nat) : Int) = x0) (show ((0 : Nat) : Int) = 0 from rfl) (show ((2 : Nat) : Int) = 2 from rfl))) (show (13849 : Int32) = i3 13849 from rfl)) (show (65536 : Int32) = i3 65536 from rfl) (by omega) (by omega) (by omega) (by omega)))
    subst e9
    refine wz_i1 (by rw [tsn]; rfl) ?_
    refine wz_i0 (i3N0 (i3Mx (show (1 : Int32) = i3 1 from rfl) (i3A (rfl : i3 x1 = i3 x1) (show (1 : Int32) = i3 1 from rfl)) (by omega) (by omega) (by omega) (by omega)) (by omega) (by omega) (by omega)) ?_
    have r11 := zI_xr (n := x0) hZ4I
    have q12 := zu_at hZ4
    have r13 := z_mod ((Z4 200 x0 0 2) / 16) (y := (max 1 (x1 + 1))) (by omega)
    refine wz_br (i3Le (rfl : i3 x1 = i3 x1) (i3R (i3D (zm_rd (Z := Z4) (ν := ν) (k := 200) (rfl : ((x0 : Nat) : Int) = x0) (show ((0 : Nat) : Int) = 0 from rfl) (show ((2 : Nat) : Int) = 2 from rfl)) (show (16 : Int32) = i3 16 from rfl) (by omega) (by omega) (by omega) (by omega)) (i3Mx (show (1 : Int32) = i3 1 from rfl) (i3A (rfl : i3 x1 = i3 x1) (show (1 : Int32) = i3 1 from rfl)) (by omega) (by omega) (by omega) (by omega)) (by omega) (by omega) (by omega) (by omega)) (by omega) (by omega) (by omega) (by omega)) (fun h14 => ?_) (fun h14 => ?_)
    · replace hP := zE_p hP h14
      obtain ⟨m2, rfl⟩ : ∃ m2, m = m2 + 1 := ⟨m - 1, by omega⟩
      exact wz_k1 ⟨m2, by omega, Z4, (x2 + 1), (zconso rfl (zconso (zvo (rfl : i3 x1 = i3 x1)) (zconso (zvo (i3A (rfl : i3 x2 = i3 x2) (show (1 : Int32) = i3 1 from rfl))) (zconso rfl rfl)))), rfl, hZ4I, hZ4K, by omega, by omega, by omega, by omega, by omega, by omega, by omega, by omega,  hP⟩
    · replace hP := zE_n hP h14
      refine wz_i1 (by rw [tsn]; rfl) ?_
      refine wz_rko (rsn _) ?_
      refine wz_i1 (Eq.trans (i3NE (i3R (i3D (zm_rd (Z := Z4) (ν := ν) (k := 200) (rfl : ((x0 : Nat) : Int) = x0) (show ((0 : Nat) : Int) = 0 from rfl) (show ((2 : Nat) : Int) = 2 from rfl)) (show (16 : Int32) = i3 16 from rfl) (by omega) (by omega) (by omega) (by omega)) (i3Mx (show (1 : Int32) = i3 1 from rfl) (i3A (rfl : i3 x1 = i3 x1) (show (1 : Int32) = i3 1 from rfl)) (by omega) (by omega) (by omega) (by omega)) (by omega) (by omega) (by omega) (by omega)) (show (6 : Int32) = i3 6 from rfl) (by omega) (by omega) (by omega) (by omega)) (decide_eq_true (by omega))) ?_
      refine wz_i1 rfl ?_
      refine wz_rko (r := (23, _, _)) rfl ?_
      refine wz_i1 rfl ?_
      refine wz_i0 (i3O (n := 6) (i3R (i3D (zm_rd (Z := Z4) (ν := ν) (k := 200) (rfl : ((x0 : Nat) : Int) = x0) (show ((0 : Nat) : Int) = 0 from rfl) (show ((2 : Nat) : Int) = 2 from rfl)) (show (16 : Int32) = i3 16 from rfl) (by omega) (by omega) (by omega) (by omega)) (i3Mx (show (1 : Int32) = i3 1 from rfl) (i3A (rfl : i3 x1 = i3 x1) (show (1 : Int32) = i3 1 from rfl)) (by omega) (by omega) (by omega) (by omega)) (by omega) (by omega) (by omega) (by omega)) (by omega) (by omega) (by omega)) ?_
      refine wz_rko (r := (43, _, _)) rfl ?_
      refine wz_i1 rfl ?_
      refine wz_i0 (i3O (n := 11) (show (0 : Int32) = i3 0 from rfl) (by omega) (by omega) (by omega)) ?_
      obtain ⟨v15, hv15, c9, lv15, uv15⟩ := sp_182 (ν := ν) hZ4I hb (a1 := (((Z4 200 x0 0 2) / 16) % (max 1 (x1 + 1)))) (by omega)
      replace hP := zl_e hP hv15
      refine wz_cI_of (zas (zcons rfl (zcons (zvi (i3R (i3D (zm_rd (Z := Z4) (ν := ν) (k := 200) (rfl : ((x0 : Nat) : Int) = x0) (show ((0 : Nat) : Int) = 0 from rfl) (show ((2 : Nat) : Int) = 2 from rfl)) (show (16 : Int32) = i3 16 from rfl) (by omega) (by omega) (by omega) (by omega)) (i3Mx (show (1 : Int32) = i3 1 from rfl) (i3A (rfl : i3 x1 = i3 x1) (show (1 : Int32) = i3 1 from rfl)) (by omega) (by omega) (by omega) (by omega)) (by omega) (by omega) (by omega) (by omega))) rfl)) c9) ?_
      clear c9
      have r16 := zI_k hZ4I 43 hb (((Z4 200 x0 0 2) / 16) % (max 1 (x1 + 1))) 0 (lo := 0) (hi := 12) (by decide) rfl
      refine wz_br (i3Le (i3S (zm_rd (Z := Z4) (ν := ν) (k := 43) (rfl : ((hb : Nat) : Int) = hb) (i3I (y := (((Z4 200 x0 0 2) / 16) % (max 1 (x1 + 1)))) (i3R (i3D (zm_rd (Z := Z4) (ν := ν) (k := 200) (rfl : ((x0 : Nat) : Int) = x0) (show ((0 : Nat) : Int) = 0 from rfl) (show ((2 : Nat) : Int) = 2 from rfl)) (show (16 : Int32) = i3 16 from rfl) (by omega) (by omega) (by omega) (by omega)) (i3Mx (show (1 : Int32) = i3 1 from rfl) (i3A (rfl : i3 x1 = i3 x1) (show (1 : Int32) = i3 1 from rfl)) (by omega) (by omega) (by omega) (by omega)) (by omega) (by omega) (by omega) (by omega)) (by omega) (by omega) (by omega)) (show ((0 : Nat) : Int) = 0 from rfl)) (rfl : i3 v15 = i3 v15)) (show (0 : Int32) = i3 0 from rfl) (by omega) (by omega) (by omega) (by omega)) (fun h17 => ?_) (fun h17 => ?_)
      · replace hP := zE_p hP h17
        obtain ⟨m2, rfl⟩ : ∃ m2, m = m2 + 1 := ⟨m - 1, by omega⟩
        exact wz_k1 ⟨m2, by omega, Z4, (x2 + 1), (zconso rfl (zconso (zvo (rfl : i3 x1 = i3 x1)) (zconso (zvo (i3A (rfl : i3 x2 = i3 x2) (show (1 : Int32) = i3 1 from rfl))) (zconso rfl rfl)))), rfl, hZ4I, hZ4K, by omega, by omega, by omega, by omega, by omega, by omega, by omega, by omega,  hP⟩
      · replace hP := zE_n hP h17
        refine wz_i1 (by rw [tsn]; rfl) ?_
        refine wz_rko (rsn _) ?_
        refine wz_i1 (Eq.trans (i3NE (i3R (i3D (zm_rd (Z := Z4) (ν := ν) (k := 200) (rfl : ((x0 : Nat) : Int) = x0) (show ((0 : Nat) : Int) = 0 from rfl) (show ((2 : Nat) : Int) = 2 from rfl)) (show (16 : Int32) = i3 16 from rfl) (by omega) (by omega) (by omega) (by omega)) (i3Mx (show (1 : Int32) = i3 1 from rfl) (i3A (rfl : i3 x1 = i3 x1) (show (1 : Int32) = i3 1 from rfl)) (by omega) (by omega) (by omega) (by omega)) (by omega) (by omega) (by omega) (by omega)) (show (-1 : Int32) = i3 (-1) from rfl) (by omega) (by omega) (by omega) (by omega)) (decide_eq_true (by omega))) ?_
        refine wz_i1 rfl ?_
        refine wz_rko (r := (24, _, _)) rfl ?_
        refine wz_i1 rfl ?_
        refine wz_i0 (i3O (n := 48) (rfl : i3 x2 = i3 x2) (by omega) (by omega) (by omega)) ?_
        refine wz_rko (r := (44, _, _)) rfl ?_
        obtain ⟨Z18, hZ18, c9, hZ18I, kZ18, wZ180, wZ181, wZ182, wZ183, wZ184, wZ185⟩ := sp_175 (ν := ν) hZ4I hb hb _ (i3I (y := x2) (rfl : i3 x2 = i3 x2) (by omega) (by omega) (by omega)) (a2 := (((Z4 200 x0 0 2) / 16) % (max 1 (x1 + 1)))) (by omega)
        have hZ18K : zK [43, 44, 200] Zs Z18 := zK_t hZ4K kZ18 (by decide)
        replace hP := zl_e hP hZ18
        refine wz_cV_of (zas (zcons rfl (zcons rfl (zcons (zvi (i3R (i3D (zm_rd (Z := Z4) (ν := ν) (k := 200) (rfl : ((x0 : Nat) : Int) = x0) (show ((0 : Nat) : Int) = 0 from rfl) (show ((2 : Nat) : Int) = 2 from rfl)) (show (16 : Int32) = i3 16 from rfl) (by omega) (by omega) (by omega) (by omega)) (i3Mx (show (1 : Int32) = i3 1 from rfl) (i3A (rfl : i3 x1 = i3 x1) (show (1 : Int32) = i3 1 from rfl)) (by omega) (by omega) (by omega) (by omega)) (by omega) (by omega) (by omega) (by omega))) rfl))) c9) ?_
        clear c9
        refine wz_i1 (Eq.trans (i3NE (i3R (i3D (zm_rd (Z := Z4) (ν := ν) (k := 200) (rfl : ((x0 : Nat) : Int) = x0) (show ((0 : Nat) : Int) = 0 from rfl) (show ((2 : Nat) : Int) = 2 from rfl)) (show (16 : Int32) = i3 16 from rfl) (by omega) (by omega) (by omega) (by omega)) (i3Mx (show (1 : Int32) = i3 1 from rfl) (i3A (rfl : i3 x1 = i3 x1) (show (1 : Int32) = i3 1 from rfl)) (by omega) (by omega) (by omega) (by omega)) (by omega) (by omega) (by omega) (by omega)) (show (6 : Int32) = i3 6 from rfl) (by omega) (by omega) (by omega) (by omega)) (decide_eq_true (by omega))) ?_
        refine wz_i1 rfl ?_
        refine wz_rko (r := (23, _, _)) rfl ?_
        refine wz_i1 rfl ?_
        refine wz_i0 (i3O (n := 6) (i3R (i3D (zm_rd (Z := Z4) (ν := ν) (k := 200) (rfl : ((x0 : Nat) : Int) = x0) (show ((0 : Nat) : Int) = 0 from rfl) (show ((2 : Nat) : Int) = 2 from rfl)) (show (16 : Int32) = i3 16 from rfl) (by omega) (by omega) (by omega) (by omega)) (i3Mx (show (1 : Int32) = i3 1 from rfl) (i3A (rfl : i3 x1 = i3 x1) (show (1 : Int32) = i3 1 from rfl)) (by omega) (by omega) (by omega) (by omega)) (by omega) (by omega) (by omega) (by omega)) (by omega) (by omega) (by omega)) ?_
        refine wz_rko (r := (43, _, _)) rfl ?_
        refine wz_i1 rfl ?_
        refine wz_i0 (i3O (n := 11) (show (0 : Int32) = i3 0 from rfl) (by omega) (by omega) (by omega)) ?_
        obtain ⟨v19, hv19, c9, lv19, uv19⟩ := sp_182 (ν := ν) hZ18I hb (a1 := (((Z4 200 x0 0 2) / 16) % (max 1 (x1 + 1)))) (by omega)
        replace hP := zl_e hP hv19
        refine wz_cI_of (zas (zcons rfl (zcons (zvi (i3R (i3D (zm_rd (Z := Z4) (ν := ν) (k := 200) (rfl : ((x0 : Nat) : Int) = x0) (show ((0 : Nat) : Int) = 0 from rfl) (show ((2 : Nat) : Int) = 2 from rfl)) (show (16 : Int32) = i3 16 from rfl) (by omega) (by omega) (by omega) (by omega)) (i3Mx (show (1 : Int32) = i3 1 from rfl) (i3A (rfl : i3 x1 = i3 x1) (show (1 : Int32) = i3 1 from rfl)) (by omega) (by omega) (by omega) (by omega)) (by omega) (by omega) (by omega) (by omega))) rfl)) c9) ?_
        clear c9
        obtain ⟨m2, rfl⟩ : ∃ m2, m = m2 + 1 := ⟨m - 1, by omega⟩
        exact wz_k1 ⟨m2, by omega, Z18, (x2 + 1), (zconso rfl (zconso (zvo (rfl : i3 x1 = i3 x1)) (zconso (zvo (i3A (rfl : i3 x2 = i3 x2) (show (1 : Int32) = i3 1 from rfl))) (zconso rfl rfl)))), rfl, hZ18I, hZ18K, by omega, by omega, by omega, by omega, by omega, by omega, by omega, by omega,  hP⟩

/- yX8_tellStores -/
def zf_150 (Z : qz_Z) (sn hb : Int) : qz_Z := (zlet (zu Z 200 sn 0 2 (((25173 * (Z 200 sn 0 2)) + 13849) % 65536)) (fun Z2 => (zlet2 (zl_150_1 sn hb (((Z2 200 sn 0 2) / 16) % 5) 5 Z2 0) (fun Z13 y12 => (zlet2 (zl_150_2 sn hb (((Z2 200 sn 0 2) / 16) % 5) 29 Z13 0) (fun Z16 y15 => (zlet2 (zl_150_3 sn hb (((Z2 200 sn 0 2) / 16) % 5) 49 Z16 0) (fun Z19 y18 => Z19))))))))
theorem sp_150 {Z : qz_Z} {ν : qz_N} {sn : Nat} (hZ : zI (some (some (sn : Int))) Z) (hb : Nat) (tsn : ∀ Z, qz_tag (zm Z ν) (200, sn, 0) = 2) (rsn : ∀ Z, qz_rm (zm Z ν) 200 sn 0 0 = some (10, hb, 0)) (gx0 : Z 11 hb 0 2 = 0) : ∃ P : qz_Z, P = zf_150 Z sn hb ∧ (qf_150 [.inr (.inr (some (200, sn, 0)))] (zm Z ν) = some (zm P ν, .inl none) ∧ zI (some (some (sn : Int))) P ∧ zK [11, 12, 43, 44, 200] Z P ∧ P 11 hb 0 3 = Z 11 hb 0 3 ∧ P 11 hb 0 4 = Z 11 hb 0 4 ∧ P 11 hb 0 5 = Z 11 hb 0 5 ∧ P 11 hb 0 7 = Z 11 hb 0 7 ∧ P 11 hb 0 8 = Z 11 hb 0 8 ∧ P 11 hb 0 9 = Z 11 hb 0 9) := by
  obtain ⟨P, hP⟩ := zx (zf_150 Z sn hb)
  refine zc_V (Q := fun P => zI (some (some (sn : Int))) P ∧ zK [11, 12, 43, 44, 200] Z P ∧ P 11 hb 0 3 = Z 11 hb 0 3 ∧ P 11 hb 0 4 = Z 11 hb 0 4 ∧ P 11 hb 0 5 = Z 11 hb 0 5 ∧ P 11 hb 0 7 = Z 11 hb 0 7 ∧ P 11 hb 0 8 = Z 11 hb 0 8 ∧ P 11 hb 0 9 = Z 11 hb 0 9) hP (fw_150 sn _ _ ?_)
  replace hP : zE P (zf_150 Z sn hb) := hP
  unfold zf_150 at hP
  have rs := zI_xs (n := sn) hZ
  refine wz_i1 (by rw [tsn]; rfl) ?_
  refine wz_i1 (by rw [tsn]; rfl) ?_
  refine wz_i1 (by rw [tsn]; rfl) ?_
  have r1 := zI_xr (n := sn) hZ
  obtain ⟨Z2, hZ2⟩ := zx (zu Z 200 sn 0 2 (((25173 * (Z 200 sn 0 2)) + 13849) % 65536))
  replace hP := zl_e hP hZ2
  have hZ2I := zI_x hZ hZ2 (by omega)
  have t3 : Z2 11 hb 0 3 = Z 11 hb 0 3 := zu_ne hZ2 (fun q => absurd q.1 (by decide))
  have t4 : Z2 11 hb 0 2 = Z 11 hb 0 2 := zu_ne hZ2 (fun q => absurd q.1 (by decide))
  have t5 : Z2 11 hb 0 4 = Z 11 hb 0 4 := zu_ne hZ2 (fun q => absurd q.1 (by decide))
  have t6 : Z2 11 hb 0 5 = Z 11 hb 0 5 := zu_ne hZ2 (fun q => absurd q.1 (by decide))
  have t7 : Z2 11 hb 0 7 = Z 11 hb 0 7 := zu_ne hZ2 (fun q => absurd q.1 (by decide))
  have t8 : Z2 11 hb 0 8 = Z 11 hb 0 8 := zu_ne hZ2 (fun q => absurd q.1 (by decide))
  have t9 : Z2 11 hb 0 9 = Z 11 hb 0 9 := zu_ne hZ2 (fun q => absurd q.1 (by decide))
  have hZ2K : zK [11, 12, 43, 44, 200] Z Z2 := zK_u zK_r hZ2 (by decide)
  intro μ9 e9
  replace e9 := e9.trans (zm_wI (Z := Z) (ν := ν) hZ2 (rfl : ((sn : Nat) : Int) = sn) (show ((0 : Nat) : Int) = 0 from rfl) (show ((2 : Nat) : Int) = 2 from rfl) (i3R (i3A (i3M (show (25173 : Int32) = i3 25173 from rfl) (zm_rd (Z := Z) (ν := ν) (k := 200) (rfl : ((sn : Nat) : Int) = sn) (show ((0 : Nat) : Int) = 0 from rfl) (show ((2 : Nat) : Int) = 2 from rfl))) (show (13849 : Int32) = i3 13849 from rfl)) (show (65536 : Int32) = i3 65536 from rfl) (by omega) (by omega) (by omega) (by omega)))
  subst e9
  refine wz_i1 (by rw [tsn]; rfl) ?_
  have r10 := zI_xr (n := sn) hZ2I
  have q11 := zu_at hZ2
  refine sl_150_1 (ν := ν) sn hZ2I zK_r hb tsn rsn (x1 := (((Z2 200 sn 0 2) / 16) % 5)) (by omega) (x2 := 0) (by omega) (kc5 := Z2 11 hb 0 9) (kc4 := Z2 11 hb 0 8) (kc3 := Z2 11 hb 0 7) (kc2 := Z2 11 hb 0 5) (kc1 := Z2 11 hb 0 4) (kc0 := Z2 11 hb 0 3) (by omega) (by omega) (by omega) (by omega) (by omega) (by omega) (by omega) (zconso rfl (zconso (zvo (i3R (i3D (zm_rd (Z := Z2) (ν := ν) (k := 200) (rfl : ((sn : Nat) : Int) = sn) (show ((0 : Nat) : Int) = 0 from rfl) (show ((2 : Nat) : Int) = 2 from rfl)) (show (16 : Int32) = i3 16 from rfl) (by omega) (by omega) (by omega) (by omega)) (show (5 : Int32) = i3 5 from rfl) (by omega) (by omega) (by omega) (by omega))) (zconso (zvo (show (0 : Int32) = i3 0 from rfl)) (zconso rfl rfl)))) rfl ?_
  intro L14 Z13 y12 hL14 hZ13I kZ13 gy12 gL14_0 gL14_1 gL14_2 gL14_3 gL14_4 gL14_5 gL14_6 q9
  replace hP := zl_e2 hP (Eq.symm q9)
  clear q9
  have hZ13K : zK [11, 12, 43, 44, 200] Z Z13 := zK_t hZ2K kZ13 (by decide)
  refine fc_150_6 _ (i3 (((Z2 200 sn 0 2) / 16) % 5)) _ _ _ _ hL14 ?_
  refine sl_150_2 (ν := ν) sn hZ13I zK_r hb tsn rsn (x1 := (((Z2 200 sn 0 2) / 16) % 5)) (by omega) (x2 := 0) (by omega) (kc5 := Z13 11 hb 0 9) (kc4 := Z13 11 hb 0 8) (kc3 := Z13 11 hb 0 7) (kc2 := Z13 11 hb 0 5) (kc1 := Z13 11 hb 0 4) (kc0 := Z13 11 hb 0 3) (by omega) (by omega) (by omega) (by omega) (by omega) (by omega) (zconso rfl (zconso (zvo (rfl : i3 (((Z2 200 sn 0 2) / 16) % 5) = i3 (((Z2 200 sn 0 2) / 16) % 5))) (zconso (zvo (show (0 : Int32) = i3 0 from rfl)) (zconso rfl rfl)))) rfl ?_
  intro L17 Z16 y15 hL17 hZ16I kZ16 gy15 gL17_0 gL17_1 gL17_2 gL17_3 gL17_4 gL17_5 q9
  replace hP := zl_e2 hP (Eq.symm q9)
  clear q9
  have hZ16K : zK [11, 12, 43, 44, 200] Z Z16 := zK_t hZ13K kZ16 (by decide)
  refine fc_150_5 _ (i3 (((Z2 200 sn 0 2) / 16) % 5)) _ _ _ _ hL17 ?_
  refine sl_150_3 (ν := ν) sn hZ16I zK_r hb tsn rsn (x1 := (((Z2 200 sn 0 2) / 16) % 5)) (by omega) (x2 := 0) (by omega) (kc5 := Z16 11 hb 0 9) (kc4 := Z16 11 hb 0 8) (kc3 := Z16 11 hb 0 7) (kc2 := Z16 11 hb 0 5) (kc1 := Z16 11 hb 0 4) (kc0 := Z16 11 hb 0 3) (by omega) (by omega) (by omega) (by omega) (by omega) (by omega) (zconso rfl (zconso (zvo (rfl : i3 (((Z2 200 sn 0 2) / 16) % 5) = i3 (((Z2 200 sn 0 2) / 16) % 5))) (zconso (zvo (show (0 : Int32) = i3 0 from rfl)) (zconso rfl rfl)))) rfl ?_
  intro L20 Z19 y18 hL20 hZ19I kZ19 gy18 gL20_0 gL20_1 gL20_2 gL20_3 gL20_4 gL20_5 q9
  replace hP := zl_e2 hP (Eq.symm q9)
  clear q9
  have hZ19K : zK [11, 12, 43, 44, 200] Z Z19 := zK_t hZ16K kZ19 (by decide)
  refine fc_150_4  _ _ _ _ hL20 ?_
  exact zlV hP ⟨hZ19I, hZ19K, by omega, by omega, by omega, by omega, by omega, by omega⟩

/- yX8_tellBuyers -/
def zl_145_1 (x0 : Int) (hb : Int) : Nat → qz_Z → Int → qz_Z × Int
  | 0, Z, x1 => (Z, x1)
  | m + 1, Z, x1 => (if (2 * (Z 200 x0 0 1)) ≤ x1 then (Z, x1) else (if 8 ≤ x1 then (Z, x1) else (zlet (zu Z 200 x0 0 2 (((25173 * (Z 200 x0 0 2)) + 13849) % 65536)) (fun Z5 => (zlet (zu Z5 200 x0 0 2 (((25173 * (Z5 200 x0 0 2)) + 13849) % 65536)) (fun Z14 => (zlet (zu Z14 200 x0 0 2 (((25173 * (Z14 200 x0 0 2)) + 13849) % 65536)) (fun Z23 => (zlet (zu Z23 45 hb (Z23 11 hb 0 4) 0 (((Z5 200 x0 0 2) / 16) % 5)) (fun Z31 => (zlet (zu Z31 45 hb (Z23 11 hb 0 4) 1 (100000 * (1 + (((Z14 200 x0 0 2) / 16) % 40)))) (fun Z38 => (zlet (zu Z38 45 hb (Z23 11 hb 0 4) 2 (((Z23 200 x0 0 2) / 16) % 8)) (fun Z47 => (zlet (zu Z47 11 hb 0 4 ((Z47 11 hb 0 4) + 1)) (fun Z56 => zl_145_1 x0 hb m Z56 (x1 + 1)))))))))))))))))
theorem sl_145_1 {Zs Z : qz_Z} {ν : qz_N} (x0 : Nat) (hZ : zI (some (some (x0 : Int))) Z) (hK : zK [11, 45, 200] Zs Z) (hb : Nat) (tsn : ∀ Z, qz_tag (zm Z ν) (200, x0, 0) = 2) (rsn : ∀ Z, qz_rm (zm Z ν) 200 x0 0 0 = some (10, hb, 0)) {x1 : Int} (gx1 : 0 ≤ x1 ∧ x1 ≤ 8) {kc0 : Int} {kc1 : Int} {kc2 : Int} {kc3 : Int} {kc4 : Int} (gr0 : Z 11 hb 0 4 = x1) (gr1 : Z 11 hb 0 3 = kc0) (gr2 : Z 11 hb 0 5 = kc1) (gr3 : Z 11 hb 0 7 = kc2) (gr4 : Z 11 hb 0 8 = kc3) (gr5 : Z 11 hb 0 9 = kc4) {k : wz_K} {R : wz_R} {L : qz_L} (hL : qz_fg [true, true] L = [some (.inr (.inr (some (200, x0, 0)))), some (.inl (i3 x1))]) {T : qz_Z × Int} (hP : zE T (zl_145_1 x0 hb ((8 - x1).toNat + 1) Z x1)) (hk : ∀ (L9 : qz_L) (Z9 : qz_Z) (yx1 : Int), qz_fg [true, false] L9 = [some (.inr (.inr (some (200, x0, 0)))), none] → zI (some (some (x0 : Int))) Z9 → zK [11, 45, 200] Zs Z9 → (0 ≤ yx1 ∧ yx1 ≤ 8) → (Z9 11 hb 0 4 = yx1) → (Z9 11 hb 0 3 = kc0) → (Z9 11 hb 0 5 = kc1) → (Z9 11 hb 0 7 = kc2) → (Z9 11 hb 0 8 = kc3) → (Z9 11 hb 0 9 = kc4) → zE T ((Z9, yx1)) → k 0 (L9, [], zm Z9 ν)) : wz_loop qb_145_1 65536 k R (L, [], zm Z ν) := by
  refine wz_lp sb_145_1 (fun m x => ∃ Z : qz_Z, ∃ x1 : Int, qz_fg [true, true] x.1 = [some (.inr (.inr (some (200, x0, 0)))), some (.inl (i3 x1))] ∧ x.2 = ([], zm Z ν) ∧ zI (some (some (x0 : Int))) Z ∧ zK [11, 45, 200] Zs Z ∧ m = (8 - x1).toNat ∧ (0 ≤ x1 ∧ x1 ≤ 8) ∧ (Z 11 hb 0 4 = x1) ∧ (Z 11 hb 0 3 = kc0) ∧ (Z 11 hb 0 5 = kc1) ∧ (Z 11 hb 0 7 = kc2) ∧ (Z 11 hb 0 8 = kc3) ∧ (Z 11 hb 0 9 = kc4) ∧ zE T (zl_145_1 x0 hb (m + 1) Z x1)) ?_ 65536 ((8 - x1).toNat) _ (by omega) ⟨Z, x1, hL, rfl, hZ, hK, rfl, gx1, gr0, gr1, gr2, gr3, gr4, gr5, hP⟩
  clear hP gr0 gr1 gr2 gr3 gr4 gr5 gx1 hZ hK hL
  clear x1
  clear Z
  rintro m ⟨L, st, μ⟩ ⟨Z, x1, hL, hx, hZ, hK, hm, gx1, gr0, gr1, gr2, gr3, gr4, gr5, hP⟩
  cases hx
  refine fb_145_1 x0 (i3 x1) _ _ _ _ hL ?_
  have rs := zI_xs (n := x0) hZ
  refine wz_i1 (by rw [tsn]; rfl) ?_
  have r1 := zI_xs (n := x0) hZ
  refine wz_br (i3Le (i3M (show (2 : Int32) = i3 2 from rfl) (zm_rd (Z := Z) (ν := ν) (k := 200) (rfl : ((x0 : Nat) : Int) = x0) (show ((0 : Nat) : Int) = 0 from rfl) (show ((1 : Nat) : Int) = 1 from rfl))) (rfl : i3 x1 = i3 x1) (by omega) (by omega) (by omega) (by omega)) (fun h2 => ?_) (fun h2 => ?_)
  · replace hP := zE_p hP h2
    exact hk _ _ _ (zconso rfl (zconso rfl rfl)) hZ hK (by omega) (by omega) (by omega) (by omega) (by omega) (by omega) (by omega) hP
  · replace hP := zE_n hP h2
    refine wz_br (i3Le (show (8 : Int32) = i3 8 from rfl) (rfl : i3 x1 = i3 x1) (by omega) (by omega) (by omega) (by omega)) (fun h3 => ?_) (fun h3 => ?_)
    · replace hP := zE_p hP h3
      exact hk _ _ _ (zconso rfl (zconso rfl rfl)) hZ hK (by omega) (by omega) (by omega) (by omega) (by omega) (by omega) (by omega) hP
    · replace hP := zE_n hP h3
      refine wz_i1 (by rw [tsn]; rfl) ?_
      refine wz_rko (rsn _) ?_
      refine wz_i1 (by rw [tsn]; rfl) ?_
      refine wz_i1 (by rw [tsn]; rfl) ?_
      refine wz_i1 (by rw [tsn]; rfl) ?_
      have r4 := zI_xr (n := x0) hZ
      obtain ⟨Z5, hZ5⟩ := zx (zu Z 200 x0 0 2 (((25173 * (Z 200 x0 0 2)) + 13849) % 65536))
      replace hP := zl_e hP hZ5
      have hZ5I := zI_x hZ hZ5 (by omega)
      have t6 : Z5 11 hb 0 3 = Z 11 hb 0 3 := zu_ne hZ5 (fun q => absurd q.1 (by decide))
      have t7 : Z5 11 hb 0 5 = Z 11 hb 0 5 := zu_ne hZ5 (fun q => absurd q.1 (by decide))
      have t8 : Z5 11 hb 0 7 = Z 11 hb 0 7 := zu_ne hZ5 (fun q => absurd q.1 (by decide))
      have t9 : Z5 11 hb 0 8 = Z 11 hb 0 8 := zu_ne hZ5 (fun q => absurd q.1 (by decide))
      have t10 : Z5 11 hb 0 9 = Z 11 hb 0 9 := zu_ne hZ5 (fun q => absurd q.1 (by decide))
      have t11 : Z5 11 hb 0 4 = Z 11 hb 0 4 := zu_ne hZ5 (fun q => absurd q.1 (by decide))
      have hZ5K := zK_u hK hZ5 (by decide)
      intro μ9 e9
      replace e9 := e9.trans (zm_wI (Z := Z) (ν := ν) hZ5 (rfl : ((x0 : Nat) : Int) = x0) (show ((0 : Nat) : Int) = 0 from rfl) (show ((2 : Nat) : Int) = 2 from rfl) (i3R (i3A (i3M (show (25173 : Int32) = i3 25173 from rfl) (zm_rd (Z := Z) (ν := ν) (k := 200) (rfl : ((x0 : Nat) : Int) = x0) (show ((0 : Nat) : Int) = 0 from rfl) (show ((2 : Nat) : Int) = 2 from rfl))) (show (13849 : Int32) = i3 13849 from rfl)) (show (65536 : Int32) = i3 65536 from rfl) (by omega) (by omega) (by omega) (by omega)))
      subst e9
      refine wz_i1 (by rw [tsn]; rfl) ?_
      refine wz_i1 (by rw [tsn]; rfl) ?_
      refine wz_i1 (by rw [tsn]; rfl) ?_
      refine wz_i1 (by rw [tsn]; rfl) ?_
      have r12 := zI_xr (n := x0) hZ5I
      have q13 := zu_at hZ5
      obtain ⟨Z14, hZ14⟩ := zx (zu Z5 200 x0 0 2 (((25173 * (Z5 200 x0 0 2)) + 13849) % 65536))
      replace hP := zl_e hP hZ14
      have hZ14I := zI_x hZ5I hZ14 (by omega)
      have t15 : Z14 11 hb 0 3 = Z5 11 hb 0 3 := zu_ne hZ14 (fun q => absurd q.1 (by decide))
      have t16 : Z14 11 hb 0 5 = Z5 11 hb 0 5 := zu_ne hZ14 (fun q => absurd q.1 (by decide))
      have t17 : Z14 11 hb 0 7 = Z5 11 hb 0 7 := zu_ne hZ14 (fun q => absurd q.1 (by decide))
      have t18 : Z14 11 hb 0 8 = Z5 11 hb 0 8 := zu_ne hZ14 (fun q => absurd q.1 (by decide))
      have t19 : Z14 11 hb 0 9 = Z5 11 hb 0 9 := zu_ne hZ14 (fun q => absurd q.1 (by decide))
      have t20 : Z14 11 hb 0 4 = Z5 11 hb 0 4 := zu_ne hZ14 (fun q => absurd q.1 (by decide))
      have hZ14K := zK_u hZ5K hZ14 (by decide)
      intro μ9 e9
      replace e9 := e9.trans (zm_wI (Z := Z5) (ν := ν) hZ14 (rfl : ((x0 : Nat) : Int) = x0) (show ((0 : Nat) : Int) = 0 from rfl) (show ((2 : Nat) : Int) = 2 from rfl) (i3R (i3A (i3M (show (25173 : Int32) = i3 25173 from rfl) (zm_rd (Z := Z5) (ν := ν) (k := 200) (rfl : ((x0 : Nat) : Int) = x0) (show ((0 : Nat) : Int) = 0 from rfl) (show ((2 : Nat) : Int) = 2 from rfl))) (show (13849 : Int32) = i3 13849 from rfl)) (show (65536 : Int32) = i3 65536 from rfl) (by omega) (by omega) (by omega) (by omega)))
      subst e9
      refine wz_i1 (by rw [tsn]; rfl) ?_
      refine wz_i1 (by rw [tsn]; rfl) ?_
      refine wz_i1 (by rw [tsn]; rfl) ?_
      refine wz_i1 (by rw [tsn]; rfl) ?_
      have r21 := zI_xr (n := x0) hZ14I
      have q22 := zu_at hZ14
      obtain ⟨Z23, hZ23⟩ := zx (zu Z14 200 x0 0 2 (((25173 * (Z14 200 x0 0 2)) + 13849) % 65536))
      replace hP := zl_e hP hZ23
      have hZ23I := zI_x hZ14I hZ23 (by omega)
      have t24 : Z23 11 hb 0 3 = Z14 11 hb 0 3 := zu_ne hZ23 (fun q => absurd q.1 (by decide))
      have t25 : Z23 11 hb 0 5 = Z14 11 hb 0 5 := zu_ne hZ23 (fun q => absurd q.1 (by decide))
      have t26 : Z23 11 hb 0 7 = Z14 11 hb 0 7 := zu_ne hZ23 (fun q => absurd q.1 (by decide))
      have t27 : Z23 11 hb 0 8 = Z14 11 hb 0 8 := zu_ne hZ23 (fun q => absurd q.1 (by decide))
      have t28 : Z23 11 hb 0 9 = Z14 11 hb 0 9 := zu_ne hZ23 (fun q => absurd q.1 (by decide))
      have t29 : Z23 11 hb 0 4 = Z14 11 hb 0 4 := zu_ne hZ23 (fun q => absurd q.1 (by decide))
      have hZ23K := zK_u hZ14K hZ23 (by decide)
      intro μ9 e9
      replace e9 := e9.trans (zm_wI (Z := Z14) (ν := ν) hZ23 (rfl : ((x0 : Nat) : Int) = x0) (show ((0 : Nat) : Int) = 0 from rfl) (show ((2 : Nat) : Int) = 2 from rfl) (i3R (i3A (i3M (show (25173 : Int32) = i3 25173 from rfl) (zm_rd (Z := Z14) (ν := ν) (k := 200) (rfl : ((x0 : Nat) : Int) = x0) (show ((0 : Nat) : Int) = 0 from rfl) (show ((2 : Nat) : Int) = 2 from rfl))) (show (13849 : Int32) = i3 13849 from rfl)) (show (65536 : Int32) = i3 65536 from rfl) (by omega) (by omega) (by omega) (by omega)))
      subst e9
      refine wz_i1 (by rw [tsn]; rfl) ?_
      refine wz_i1 rfl ?_
      refine wz_rko (r := (25, _, _)) rfl ?_
      refine wz_i1 rfl ?_
      refine wz_rko (r := (11, _, _)) rfl ?_
      refine wz_i1 rfl ?_
      refine wz_i0 (i3O (n := 17) (show (4 : Int32) = i3 4 from rfl) (by omega) (by omega) (by omega)) ?_
      refine wz_i1 rfl ?_
      have r30 := zI_k hZ23I 11 hb 0 4 (lo := 0) (hi := 8) (by decide) rfl
      refine wz_i0 (i3O (n := 8) (zm_rd (Z := Z23) (ν := ν) (k := 11) (rfl : ((hb : Nat) : Int) = hb) (show ((0 : Nat) : Int) = 0 from rfl) (show ((4 : Nat) : Int) = 4 from rfl)) (by omega) (by omega) (by omega)) ?_
      refine wz_rko (r := (45, _, _)) rfl ?_
      refine wz_i1 rfl ?_
      refine wz_i0 (i3O (n := 15) (show (0 : Int32) = i3 0 from rfl) (by omega) (by omega) (by omega)) ?_
      obtain ⟨Z31, hZ31⟩ := zx (zu Z23 45 hb (Z23 11 hb 0 4) 0 (((Z5 200 x0 0 2) / 16) % 5))
      replace hP := zl_e hP hZ31
      have hZ31I := zI_u hZ23I hZ31 (lo := 0) (hi := 4) (by decide) rfl (by omega) ⟨by decide, by decide⟩ (Or.inl (by decide))
      have t32 : Z31 11 hb 0 3 = Z23 11 hb 0 3 := zu_ne hZ31 (fun q => absurd q.1 (by decide))
      have t33 : Z31 11 hb 0 5 = Z23 11 hb 0 5 := zu_ne hZ31 (fun q => absurd q.1 (by decide))
      have t34 : Z31 11 hb 0 7 = Z23 11 hb 0 7 := zu_ne hZ31 (fun q => absurd q.1 (by decide))
      have t35 : Z31 11 hb 0 8 = Z23 11 hb 0 8 := zu_ne hZ31 (fun q => absurd q.1 (by decide))
      have t36 : Z31 11 hb 0 9 = Z23 11 hb 0 9 := zu_ne hZ31 (fun q => absurd q.1 (by decide))
      have t37 : Z31 11 hb 0 4 = Z23 11 hb 0 4 := zu_ne hZ31 (fun q => absurd q.1 (by decide))
      have hZ31K := zK_u hZ23K hZ31 (by decide)
      intro μ9 e9
      replace e9 := e9.trans (zm_wI (Z := Z23) (ν := ν) hZ31 (rfl : ((hb : Nat) : Int) = hb) (i3I (y := (Z23 11 hb 0 4)) (zm_rd (Z := Z23) (ν := ν) (k := 11) (rfl : ((hb : Nat) : Int) = hb) (show ((0 : Nat) : Int) = 0 from rfl) (show ((4 : Nat) : Int) = 4 from rfl)) (by omega) (by omega) (by omega)) (show ((0 : Nat) : Int) = 0 from rfl) (i3R (i3D (zm_rd (Z := Z5) (ν := ν) (k := 200) (rfl : ((x0 : Nat) : Int) = x0) (show ((0 : Nat) : Int) = 0 from rfl) (show ((2 : Nat) : Int) = 2 from rfl)) (show (16 : Int32) = i3 16 from rfl) (by omega) (by omega) (by omega) (by omega)) (show (5 : Int32) = i3 5 from rfl) (by omega) (by omega) (by omega) (by omega)))
      subst e9
      refine wz_i1 rfl ?_
      refine wz_i0 (i3O (n := 15) (show (1 : Int32) = i3 1 from rfl) (by omega) (by omega) (by omega)) ?_
      obtain ⟨Z38, hZ38⟩ := zx (zu Z31 45 hb (Z23 11 hb 0 4) 1 (100000 * (1 + (((Z14 200 x0 0 2) / 16) % 40))))
      replace hP := zl_e hP hZ38
      have hZ38I := zI_u hZ31I hZ38 (lo := 0) (hi := 9999999) (by decide) rfl (by omega) ⟨by decide, by decide⟩ (Or.inl (by decide))
      have t39 : Z38 11 hb 0 3 = Z31 11 hb 0 3 := zu_ne hZ38 (fun q => absurd q.1 (by decide))
      have t40 : Z38 11 hb 0 5 = Z31 11 hb 0 5 := zu_ne hZ38 (fun q => absurd q.1 (by decide))
      have t41 : Z38 11 hb 0 7 = Z31 11 hb 0 7 := zu_ne hZ38 (fun q => absurd q.1 (by decide))
      have t42 : Z38 11 hb 0 8 = Z31 11 hb 0 8 := zu_ne hZ38 (fun q => absurd q.1 (by decide))
      have t43 : Z38 11 hb 0 9 = Z31 11 hb 0 9 := zu_ne hZ38 (fun q => absurd q.1 (by decide))
      have t44 : Z38 11 hb 0 4 = Z31 11 hb 0 4 := zu_ne hZ38 (fun q => absurd q.1 (by decide))
      have hZ38K := zK_u hZ31K hZ38 (by decide)
      intro μ9 e9
      replace e9 := e9.trans (zm_wI (Z := Z31) (ν := ν) hZ38 (rfl : ((hb : Nat) : Int) = hb) (i3I (y := (Z23 11 hb 0 4)) (zm_rd (Z := Z23) (ν := ν) (k := 11) (rfl : ((hb : Nat) : Int) = hb) (show ((0 : Nat) : Int) = 0 from rfl) (show ((4 : Nat) : Int) = 4 from rfl)) (by omega) (by omega) (by omega)) (show ((1 : Nat) : Int) = 1 from rfl) (i3M (show (100000 : Int32) = i3 100000 from rfl) (i3A (show (1 : Int32) = i3 1 from rfl) (i3R (i3D (zm_rd (Z := Z14) (ν := ν) (k := 200) (rfl : ((x0 : Nat) : Int) = x0) (show ((0 : Nat) : Int) = 0 from rfl) (show ((2 : Nat) : Int) = 2 from rfl)) (show (16 : Int32) = i3 16 from rfl) (by omega) (by omega) (by omega) (by omega)) (show (40 : Int32) = i3 40 from rfl) (by omega) (by omega) (by omega) (by omega)))))
      subst e9
      refine wz_i1 rfl ?_
      refine wz_i0 (i3O (n := 15) (show (2 : Int32) = i3 2 from rfl) (by omega) (by omega) (by omega)) ?_
      have r45 := zI_xr (n := x0) hZ23I
      have q46 := zu_at hZ23
      obtain ⟨Z47, hZ47⟩ := zx (zu Z38 45 hb (Z23 11 hb 0 4) 2 (((Z23 200 x0 0 2) / 16) % 8))
      replace hP := zl_e hP hZ47
      have hZ47I := zI_u hZ38I hZ47 (lo := 0) (hi := 14) (by decide) rfl (by omega) ⟨by decide, by decide⟩ (Or.inl (by decide))
      have t48 : Z47 11 hb 0 3 = Z38 11 hb 0 3 := zu_ne hZ47 (fun q => absurd q.1 (by decide))
      have t49 : Z47 11 hb 0 5 = Z38 11 hb 0 5 := zu_ne hZ47 (fun q => absurd q.1 (by decide))
      have t50 : Z47 11 hb 0 7 = Z38 11 hb 0 7 := zu_ne hZ47 (fun q => absurd q.1 (by decide))
      have t51 : Z47 11 hb 0 8 = Z38 11 hb 0 8 := zu_ne hZ47 (fun q => absurd q.1 (by decide))
      have t52 : Z47 11 hb 0 9 = Z38 11 hb 0 9 := zu_ne hZ47 (fun q => absurd q.1 (by decide))
      have t53 : Z47 11 hb 0 4 = Z38 11 hb 0 4 := zu_ne hZ47 (fun q => absurd q.1 (by decide))
      have hZ47K := zK_u hZ38K hZ47 (by decide)
      intro μ9 e9
      replace e9 := e9.trans (zm_wI (Z := Z38) (ν := ν) hZ47 (rfl : ((hb : Nat) : Int) = hb) (i3I (y := (Z23 11 hb 0 4)) (zm_rd (Z := Z23) (ν := ν) (k := 11) (rfl : ((hb : Nat) : Int) = hb) (show ((0 : Nat) : Int) = 0 from rfl) (show ((4 : Nat) : Int) = 4 from rfl)) (by omega) (by omega) (by omega)) (show ((2 : Nat) : Int) = 2 from rfl) (i3R (i3D (zm_rd (Z := Z23) (ν := ν) (k := 200) (rfl : ((x0 : Nat) : Int) = x0) (show ((0 : Nat) : Int) = 0 from rfl) (show ((2 : Nat) : Int) = 2 from rfl)) (show (16 : Int32) = i3 16 from rfl) (by omega) (by omega) (by omega) (by omega)) (show (8 : Int32) = i3 8 from rfl) (by omega) (by omega) (by omega) (by omega)))
      subst e9
      refine wz_i1 rfl ?_
      refine wz_rko (r := (11, _, _)) rfl ?_
      refine wz_i1 rfl ?_
      refine wz_i0 (i3O (n := 17) (show (4 : Int32) = i3 4 from rfl) (by omega) (by omega) (by omega)) ?_
      refine wz_i1 rfl ?_
      refine wz_i0 (i3O (n := 17) (show (4 : Int32) = i3 4 from rfl) (by omega) (by omega) (by omega)) ?_
      have r54 := zI_k hZ47I 11 hb 0 4 (lo := 0) (hi := 8) (by decide) rfl
      have q55 := (zu_ne (k' := 11) (b' := hb) (i' := 0) (j' := 4) hZ47 (fun q => absurd q.1 (by decide))).trans ((zu_ne (k' := 11) (b' := hb) (i' := 0) (j' := 4) hZ38 (fun q => absurd q.1 (by decide))).trans (zu_ne (k' := 11) (b' := hb) (i' := 0) (j' := 4) hZ31 (fun q => absurd q.1 (by decide))))
      obtain ⟨Z56, hZ56⟩ := zx (zu Z47 11 hb 0 4 ((Z47 11 hb 0 4) + 1))
      replace hP := zl_e hP hZ56
      have hZ56I := zI_u hZ47I hZ56 (lo := 0) (hi := 8) (by decide) rfl (by omega) ⟨by decide, by decide⟩ (Or.inl (by decide))
      have t57 : Z56 11 hb 0 3 = Z47 11 hb 0 3 := zu_ne hZ56 (fun q => absurd q.2.2.2 (by decide))
      have t58 : Z56 11 hb 0 5 = Z47 11 hb 0 5 := zu_ne hZ56 (fun q => absurd q.2.2.2 (by decide))
      have t59 : Z56 11 hb 0 7 = Z47 11 hb 0 7 := zu_ne hZ56 (fun q => absurd q.2.2.2 (by decide))
      have t60 : Z56 11 hb 0 8 = Z47 11 hb 0 8 := zu_ne hZ56 (fun q => absurd q.2.2.2 (by decide))
      have t61 : Z56 11 hb 0 9 = Z47 11 hb 0 9 := zu_ne hZ56 (fun q => absurd q.2.2.2 (by decide))
      have t62 := zu_at hZ56
      have hZ56K := zK_u hZ47K hZ56 (by decide)
      intro μ9 e9
      replace e9 := e9.trans (zm_wI (Z := Z47) (ν := ν) hZ56 (rfl : ((hb : Nat) : Int) = hb) (show ((0 : Nat) : Int) = 0 from rfl) (show ((4 : Nat) : Int) = 4 from rfl) (i3A (zm_rd (Z := Z47) (ν := ν) (k := 11) (rfl : ((hb : Nat) : Int) = hb) (show ((0 : Nat) : Int) = 0 from rfl) (show ((4 : Nat) : Int) = 4 from rfl)) (show (1 : Int32) = i3 1 from rfl)))
      subst e9
      obtain ⟨m2, rfl⟩ : ∃ m2, m = m2 + 1 := ⟨m - 1, by omega⟩
      exact wz_k1 ⟨m2, by omega, Z56, (x1 + 1), (zconso rfl (zconso (zvo (i3A (rfl : i3 x1 = i3 x1) (show (1 : Int32) = i3 1 from rfl))) rfl)), rfl, hZ56I, hZ56K, by omega, by omega, by omega, by omega, by omega, by omega, by omega, by omega,  hP⟩

