/-! a season told, c (printed by season.py) -/
/- yX8_tellCarriers -/
def zl_146_1 (x0 : Int) (hb : Int) (x1 : Int) : Nat → qz_Z → Int → qz_Z × Int
  | 0, Z, x2 => (Z, x2)
  | m + 1, Z, x2 => (if 5 < x2 then (Z, x2) else (zlet (zu Z 200 x0 0 2 (((25173 * (Z 200 x0 0 2)) + 13849) % 65536)) (fun Z3 => (zlet (zu Z3 40 hb x1 x2 (1 + (((Z3 200 x0 0 2) / 16) % 12))) (fun Z9 => (zlet (zu Z9 40 hb x2 x1 (1 + (((Z3 200 x0 0 2) / 16) % 12))) (fun Z13 => zl_146_1 x0 hb x1 m Z13 (x2 + 1))))))))
theorem sl_146_1 {Zs Z : qz_Z} {ν : qz_N} (x0 : Nat) (hZ : zI (some (some (x0 : Int))) Z) (hK : zK [40, 200] Zs Z) (hb : Nat) (tsn : ∀ Z, qz_tag (zm Z ν) (200, x0, 0) = 2) (rsn : ∀ Z, qz_rm (zm Z ν) 200 x0 0 0 = some (10, hb, 0)) {x1 : Int} (gx1 : 0 ≤ x1 ∧ x1 ≤ 5) {x2 : Int} (gx2 : 1 ≤ x2 ∧ x2 ≤ 6) {kc0 : Int} {kc1 : Int} {kc2 : Int} (gr0 : Z 11 hb 0 3 = kc0) (gr1 : Z 11 hb 0 8 = kc1) (gr2 : Z 11 hb 0 9 = kc2) {k : wz_K} {R : wz_R} {L : qz_L} (hL : qz_fg [true, true, true] L = [some (.inr (.inr (some (200, x0, 0)))), some (.inl (i3 x1)), some (.inl (i3 x2))]) {T : qz_Z × Int} (hP : zE T (zl_146_1 x0 hb x1 ((6 - x2).toNat + 1) Z x2)) (hk : ∀ (L9 : qz_L) (Z9 : qz_Z) (yx2 : Int), qz_fg [true, true, false] L9 = [some (.inr (.inr (some (200, x0, 0)))), some (.inl (i3 x1)), none] → zI (some (some (x0 : Int))) Z9 → zK [40, 200] Zs Z9 → (1 ≤ yx2 ∧ yx2 ≤ 6) → (Z9 11 hb 0 3 = kc0) → (Z9 11 hb 0 8 = kc1) → (Z9 11 hb 0 9 = kc2) → zE T ((Z9, yx2)) → k 0 (L9, [], zm Z9 ν)) : wz_loop qb_146_1 65536 k R (L, [], zm Z ν) := by
  refine wz_lp sb_146_1 (fun m x => ∃ Z : qz_Z, ∃ x2 : Int, qz_fg [true, true, true] x.1 = [some (.inr (.inr (some (200, x0, 0)))), some (.inl (i3 x1)), some (.inl (i3 x2))] ∧ x.2 = ([], zm Z ν) ∧ zI (some (some (x0 : Int))) Z ∧ zK [40, 200] Zs Z ∧ m = (6 - x2).toNat ∧ (1 ≤ x2 ∧ x2 ≤ 6) ∧ (Z 11 hb 0 3 = kc0) ∧ (Z 11 hb 0 8 = kc1) ∧ (Z 11 hb 0 9 = kc2) ∧ zE T (zl_146_1 x0 hb x1 (m + 1) Z x2)) ?_ 65536 ((6 - x2).toNat) _ (by omega) ⟨Z, x2, hL, rfl, hZ, hK, rfl, gx2, gr0, gr1, gr2, hP⟩
  clear hP gr0 gr1 gr2 gx2 hZ hK hL
  clear x2
  clear Z
  rintro m ⟨L, st, μ⟩ ⟨Z, x2, hL, hx, hZ, hK, hm, gx2, gr0, gr1, gr2, hP⟩
  cases hx
  refine fb_146_1 x0 (i3 x1) (i3 x2) _ _ _ _ hL ?_
  have rs := zI_xs (n := x0) hZ
  refine wz_br (i3L (show (5 : Int32) = i3 5 from rfl) (rfl : i3 x2 = i3 x2) (by omega) (by omega) (by omega) (by omega)) (fun h1 => ?_) (fun h1 => ?_)
  · replace hP := zE_p hP h1
    exact hk _ _ _ (zconso rfl (zconso (zvo (rfl : i3 x1 = i3 x1)) (zconso rfl rfl))) hZ hK (by omega) (by omega) (by omega) (by omega) hP
  · replace hP := zE_n hP h1
    refine wz_i1 (by rw [tsn]; rfl) ?_
    refine wz_rko (rsn _) ?_
    refine wz_i1 (by rw [tsn]; rfl) ?_
    refine wz_i1 (by rw [tsn]; rfl) ?_
    refine wz_i1 (by rw [tsn]; rfl) ?_
    have r2 := zI_xr (n := x0) hZ
    obtain ⟨Z3, hZ3⟩ := zx (zu Z 200 x0 0 2 (((25173 * (Z 200 x0 0 2)) + 13849) % 65536))
    replace hP := zl_e hP hZ3
    have hZ3I := zI_x hZ hZ3 (by omega)
    have t4 : Z3 11 hb 0 3 = Z 11 hb 0 3 := zu_ne hZ3 (fun q => absurd q.1 (by decide))
    have t5 : Z3 11 hb 0 8 = Z 11 hb 0 8 := zu_ne hZ3 (fun q => absurd q.1 (by decide))
    have t6 : Z3 11 hb 0 9 = Z 11 hb 0 9 := zu_ne hZ3 (fun q => absurd q.1 (by decide))
    have hZ3K := zK_u hK hZ3 (by decide)
    intro μ9 e9
    replace e9 := e9.trans (zm_wI (Z := Z) (ν := ν) hZ3 (rfl : ((x0 : Nat) : Int) = x0) (show ((0 : Nat) : Int) = 0 from rfl) (show ((2 : Nat) : Int) = 2 from rfl) (i3R (i3A (i3M (show (25173 : Int32) = i3 25173 from rfl) (zm_rd (Z := Z) (ν := ν) (k := 200) (rfl : ((x0 : Nat) : Int) = x0) (show ((0 : Nat) : Int) = 0 from rfl) (show ((2 : Nat) : Int) = 2 from rfl))) (show (13849 : Int32) = i3 13849 from rfl)) (show (65536 : Int32) = i3 65536 from rfl) (by omega) (by omega) (by omega) (by omega)))
    subst e9
    refine wz_i1 (by rw [tsn]; rfl) ?_
    refine wz_i1 rfl ?_
    refine wz_rko (r := (20, _, _)) rfl ?_
    refine wz_i1 rfl ?_
    refine wz_i0 (i3O (n := 6) (rfl : i3 x1 = i3 x1) (by omega) (by omega) (by omega)) ?_
    refine wz_rko (r := (40, _, _)) rfl ?_
    refine wz_i1 rfl ?_
    refine wz_i0 (i3O (n := 6) (rfl : i3 x2 = i3 x2) (by omega) (by omega) (by omega)) ?_
    refine wz_i1 rfl ?_
    refine wz_rko (r := (20, _, _)) rfl ?_
    refine wz_i1 rfl ?_
    refine wz_i0 (i3O (n := 6) (rfl : i3 x1 = i3 x1) (by omega) (by omega) (by omega)) ?_
    refine wz_rko (r := (40, _, _)) rfl ?_
    refine wz_i1 rfl ?_
    refine wz_i0 (i3O (n := 6) (rfl : i3 x2 = i3 x2) (by omega) (by omega) (by omega)) ?_
    have r7 := zI_xr (n := x0) hZ3I
    have q8 := zu_at hZ3
    obtain ⟨Z9, hZ9⟩ := zx (zu Z3 40 hb x1 x2 (1 + (((Z3 200 x0 0 2) / 16) % 12)))
    replace hP := zl_e hP hZ9
    have hZ9I := zI_u hZ3I hZ9 (lo := 0) (hi := 12) (by decide) (zrc_40 (by omega) (by omega)) (by omega) ⟨by decide, by decide⟩ (Or.inl (by decide))
    have t10 : Z9 11 hb 0 3 = Z3 11 hb 0 3 := zu_ne hZ9 (fun q => absurd q.1 (by decide))
    have t11 : Z9 11 hb 0 8 = Z3 11 hb 0 8 := zu_ne hZ9 (fun q => absurd q.1 (by decide))
    have t12 : Z9 11 hb 0 9 = Z3 11 hb 0 9 := zu_ne hZ9 (fun q => absurd q.1 (by decide))
    have hZ9K := zK_u hZ3K hZ9 (by decide)
    intro μ9 e9
    replace e9 := e9.trans (zm_wI (Z := Z3) (ν := ν) hZ9 (rfl : ((hb : Nat) : Int) = hb) (i3I (y := x1) (rfl : i3 x1 = i3 x1) (by omega) (by omega) (by omega)) (i3I (y := x2) (rfl : i3 x2 = i3 x2) (by omega) (by omega) (by omega)) (i3A (show (1 : Int32) = i3 1 from rfl) (i3R (i3D (zm_rd (Z := Z3) (ν := ν) (k := 200) (rfl : ((x0 : Nat) : Int) = x0) (show ((0 : Nat) : Int) = 0 from rfl) (show ((2 : Nat) : Int) = 2 from rfl)) (show (16 : Int32) = i3 16 from rfl) (by omega) (by omega) (by omega) (by omega)) (show (12 : Int32) = i3 12 from rfl) (by omega) (by omega) (by omega) (by omega))))
    subst e9
    refine wz_i1 rfl ?_
    refine wz_rko (r := (20, _, _)) rfl ?_
    refine wz_i1 rfl ?_
    refine wz_i0 (i3O (n := 6) (rfl : i3 x2 = i3 x2) (by omega) (by omega) (by omega)) ?_
    refine wz_rko (r := (40, _, _)) rfl ?_
    refine wz_i1 rfl ?_
    refine wz_i0 (i3O (n := 6) (rfl : i3 x1 = i3 x1) (by omega) (by omega) (by omega)) ?_
    obtain ⟨Z13, hZ13⟩ := zx (zu Z9 40 hb x2 x1 (1 + (((Z3 200 x0 0 2) / 16) % 12)))
    replace hP := zl_e hP hZ13
    have hZ13I := zI_u hZ9I hZ13 (lo := 0) (hi := 12) (by decide) (zrc_40 (by omega) (by omega)) (by omega) ⟨by decide, by decide⟩ (Or.inl (by decide))
    have t14 : Z13 11 hb 0 3 = Z9 11 hb 0 3 := zu_ne hZ13 (fun q => absurd q.1 (by decide))
    have t15 : Z13 11 hb 0 8 = Z9 11 hb 0 8 := zu_ne hZ13 (fun q => absurd q.1 (by decide))
    have t16 : Z13 11 hb 0 9 = Z9 11 hb 0 9 := zu_ne hZ13 (fun q => absurd q.1 (by decide))
    have hZ13K := zK_u hZ9K hZ13 (by decide)
    intro μ9 e9
    replace e9 := e9.trans (zm_wI (Z := Z9) (ν := ν) hZ13 (rfl : ((hb : Nat) : Int) = hb) (i3I (y := x2) (rfl : i3 x2 = i3 x2) (by omega) (by omega) (by omega)) (i3I (y := x1) (rfl : i3 x1 = i3 x1) (by omega) (by omega) (by omega)) (i3A (show (1 : Int32) = i3 1 from rfl) (i3R (i3D (zm_rd (Z := Z3) (ν := ν) (k := 200) (rfl : ((x0 : Nat) : Int) = x0) (show ((0 : Nat) : Int) = 0 from rfl) (show ((2 : Nat) : Int) = 2 from rfl)) (show (16 : Int32) = i3 16 from rfl) (by omega) (by omega) (by omega) (by omega)) (show (12 : Int32) = i3 12 from rfl) (by omega) (by omega) (by omega) (by omega))))
    subst e9
    obtain ⟨m2, rfl⟩ : ∃ m2, m = m2 + 1 := ⟨m - 1, by omega⟩
    exact wz_k1 ⟨m2, by omega, Z13, (x2 + 1), (zconso rfl (zconso (zvo (rfl : i3 x1 = i3 x1)) (zconso (zvo (i3A (rfl : i3 x2 = i3 x2) (show (1 : Int32) = i3 1 from rfl))) rfl))), rfl, hZ13I, hZ13K, by omega, by omega, by omega, by omega, by omega,  hP⟩

/- yX8_tellCarriers -/
def zl_146_3 (x0 : Int) (hb : Int) : Nat → qz_Z → Int → qz_Z × Int
  | 0, Z, x1 => (Z, x1)
  | m + 1, Z, x1 => (if 5 < x1 then (Z, x1) else (zlet2 (zl_146_1 x0 hb x1 ((6 - (x1 + 1)).toNat + 1) Z (x1 + 1)) (fun Z3 y2 => zl_146_3 x0 hb m Z3 (x1 + 1))))
theorem sl_146_3 {Zs Z : qz_Z} {ν : qz_N} (x0 : Nat) (hZ : zI (some (some (x0 : Int))) Z) (hK : zK [40, 200] Zs Z) (hb : Nat) (tsn : ∀ Z, qz_tag (zm Z ν) (200, x0, 0) = 2) (rsn : ∀ Z, qz_rm (zm Z ν) 200 x0 0 0 = some (10, hb, 0)) {x1 : Int} (gx1 : 0 ≤ x1 ∧ x1 ≤ 6) {kc0 : Int} {kc1 : Int} {kc2 : Int} (gr0 : Z 11 hb 0 3 = kc0) (gr1 : Z 11 hb 0 8 = kc1) (gr2 : Z 11 hb 0 9 = kc2) {k : wz_K} {R : wz_R} {L : qz_L} (hL : qz_fg [true, true, false] L = [some (.inr (.inr (some (200, x0, 0)))), some (.inl (i3 x1)), none]) {T : qz_Z × Int} (hP : zE T (zl_146_3 x0 hb ((6 - x1).toNat + 1) Z x1)) (hk : ∀ (L9 : qz_L) (Z9 : qz_Z) (yx1 : Int), qz_fg [true, false, false] L9 = [some (.inr (.inr (some (200, x0, 0)))), none, none] → zI (some (some (x0 : Int))) Z9 → zK [40, 200] Zs Z9 → (0 ≤ yx1 ∧ yx1 ≤ 6) → (Z9 11 hb 0 3 = kc0) → (Z9 11 hb 0 8 = kc1) → (Z9 11 hb 0 9 = kc2) → zE T ((Z9, yx1)) → k 0 (L9, [], zm Z9 ν)) : wz_loop qb_146_3 65536 k R (L, [], zm Z ν) := by
  refine wz_lp sb_146_3 (fun m x => ∃ Z : qz_Z, ∃ x1 : Int, qz_fg [true, true, false] x.1 = [some (.inr (.inr (some (200, x0, 0)))), some (.inl (i3 x1)), none] ∧ x.2 = ([], zm Z ν) ∧ zI (some (some (x0 : Int))) Z ∧ zK [40, 200] Zs Z ∧ m = (6 - x1).toNat ∧ (0 ≤ x1 ∧ x1 ≤ 6) ∧ (Z 11 hb 0 3 = kc0) ∧ (Z 11 hb 0 8 = kc1) ∧ (Z 11 hb 0 9 = kc2) ∧ zE T (zl_146_3 x0 hb (m + 1) Z x1)) ?_ 65536 ((6 - x1).toNat) _ (by omega) ⟨Z, x1, hL, rfl, hZ, hK, rfl, gx1, gr0, gr1, gr2, hP⟩
  clear hP gr0 gr1 gr2 gx1 hZ hK hL
  clear x1
  clear Z
  rintro m ⟨L, st, μ⟩ ⟨Z, x1, hL, hx, hZ, hK, hm, gx1, gr0, gr1, gr2, hP⟩
  cases hx
  refine fb_146_3 x0 (i3 x1) _ _ _ _ hL ?_
  have rs := zI_xs (n := x0) hZ
  refine wz_br (i3L (show (5 : Int32) = i3 5 from rfl) (rfl : i3 x1 = i3 x1) (by omega) (by omega) (by omega) (by omega)) (fun h1 => ?_) (fun h1 => ?_)
  · replace hP := zE_p hP h1
    exact hk _ _ _ (zconso rfl (zconso rfl (zconso rfl rfl))) hZ hK (by omega) (by omega) (by omega) (by omega) hP
  · replace hP := zE_n hP h1
    refine sl_146_1 (ν := ν) x0 hZ zK_r hb tsn rsn (x1 := x1) (by omega) (x2 := (x1 + 1)) (by omega) (kc2 := Z 11 hb 0 9) (kc1 := Z 11 hb 0 8) (kc0 := Z 11 hb 0 3) (by omega) (by omega) (by omega) (zconso rfl (zconso (zvo (rfl : i3 x1 = i3 x1)) (zconso (zvo (i3A (rfl : i3 x1 = i3 x1) (show (1 : Int32) = i3 1 from rfl))) rfl))) rfl ?_
    intro L4 Z3 y2 hL4 hZ3I kZ3 gy2 gL4_0 gL4_1 gL4_2 q9
    replace hP := zl_e2 hP (Eq.symm q9)
    clear q9
    have hZ3K : zK [40, 200] Zs Z3 := zK_t hK kZ3 (by decide)
    refine fc_146_2 _ (i3 x1) _ _ _ _ hL4 ?_
    obtain ⟨m2, rfl⟩ : ∃ m2, m = m2 + 1 := ⟨m - 1, by omega⟩
    refine wz_kbs (n := 1) (?_)
    exact wz_k1 ⟨m2, by omega, Z3, (x1 + 1), (zconso rfl (zconso (zvo (i3A (rfl : i3 x1 = i3 x1) (show (1 : Int32) = i3 1 from rfl))) (zconso rfl rfl))), rfl, hZ3I, hZ3K, by omega, by omega, by omega, by omega, by omega,  hP⟩

/- yX8_tellCarriers -/
def zl_146_4 (x0 : Int) (hb : Int) : Nat → qz_Z → Int → qz_Z × Int
  | 0, Z, x1 => (Z, x1)
  | m + 1, Z, x1 => (if (Z 200 x0 0 1) ≤ x1 then (Z, x1) else (if 4 ≤ x1 then (Z, x1) else (zlet (zu Z 200 x0 0 2 (((25173 * (Z 200 x0 0 2)) + 13849) % 65536)) (fun Z5 => (zlet (zu Z5 200 x0 0 2 (((25173 * (Z5 200 x0 0 2)) + 13849) % 65536)) (fun Z11 => (zlet (zu Z11 50 hb (Z11 11 hb 0 8) 0 (20 + (((Z5 200 x0 0 2) / 16) % 60))) (fun Z16 => (zlet (zu Z16 50 hb (Z11 11 hb 0 8) 1 (2 + (((Z11 200 x0 0 2) / 16) % 13))) (fun Z22 => (zlet (zu Z22 50 hb (Z11 11 hb 0 8) 3 (-1)) (fun Z26 => (zlet (zu Z26 50 hb (Z11 11 hb 0 8) 7 (-1)) (fun Z30 => (zlet (zu Z30 50 hb (Z11 11 hb 0 8) 8 (-1)) (fun Z34 => (zlet (zu Z34 11 hb 0 8 ((Z34 11 hb 0 8) + 1)) (fun Z40 => zl_146_4 x0 hb m Z40 (x1 + 1)))))))))))))))))))
theorem sl_146_4 {Zs Z : qz_Z} {ν : qz_N} (x0 : Nat) (hZ : zI (some (some (x0 : Int))) Z) (hK : zK [11, 50, 200] Zs Z) (hb : Nat) (tsn : ∀ Z, qz_tag (zm Z ν) (200, x0, 0) = 2) (rsn : ∀ Z, qz_rm (zm Z ν) 200 x0 0 0 = some (10, hb, 0)) {x1 : Int} (gx1 : 0 ≤ x1 ∧ x1 ≤ 4) {kc0 : Int} {kc1 : Int} (gr0 : Z 11 hb 0 8 = x1) (gr1 : Z 11 hb 0 3 = kc0) (gr2 : Z 11 hb 0 9 = kc1) {k : wz_K} {R : wz_R} {L : qz_L} (hL : qz_fg [true, true, false] L = [some (.inr (.inr (some (200, x0, 0)))), some (.inl (i3 x1)), none]) {T : qz_Z × Int} (hP : zE T (zl_146_4 x0 hb ((4 - x1).toNat + 1) Z x1)) (hk : ∀ (L9 : qz_L) (Z9 : qz_Z) (yx1 : Int), qz_fg [false, false, false] L9 = [none, none, none] → zI (some (some (x0 : Int))) Z9 → zK [11, 50, 200] Zs Z9 → (0 ≤ yx1 ∧ yx1 ≤ 4) → (Z9 11 hb 0 8 = yx1) → (Z9 11 hb 0 3 = kc0) → (Z9 11 hb 0 9 = kc1) → zE T ((Z9, yx1)) → k 0 (L9, [], zm Z9 ν)) : wz_loop qb_146_4 65536 k R (L, [], zm Z ν) := by
  refine wz_lp sb_146_4 (fun m x => ∃ Z : qz_Z, ∃ x1 : Int, qz_fg [true, true, false] x.1 = [some (.inr (.inr (some (200, x0, 0)))), some (.inl (i3 x1)), none] ∧ x.2 = ([], zm Z ν) ∧ zI (some (some (x0 : Int))) Z ∧ zK [11, 50, 200] Zs Z ∧ m = (4 - x1).toNat ∧ (0 ≤ x1 ∧ x1 ≤ 4) ∧ (Z 11 hb 0 8 = x1) ∧ (Z 11 hb 0 3 = kc0) ∧ (Z 11 hb 0 9 = kc1) ∧ zE T (zl_146_4 x0 hb (m + 1) Z x1)) ?_ 65536 ((4 - x1).toNat) _ (by omega) ⟨Z, x1, hL, rfl, hZ, hK, rfl, gx1, gr0, gr1, gr2, hP⟩
  clear hP gr0 gr1 gr2 gx1 hZ hK hL
  clear x1
  clear Z
  rintro m ⟨L, st, μ⟩ ⟨Z, x1, hL, hx, hZ, hK, hm, gx1, gr0, gr1, gr2, hP⟩
  cases hx
  refine fb_146_4 x0 (i3 x1) _ _ _ _ hL ?_
  have rs := zI_xs (n := x0) hZ
  refine wz_i1 (by rw [tsn]; rfl) ?_
  have r1 := zI_xs (n := x0) hZ
  refine wz_br (i3Le (zm_rd (Z := Z) (ν := ν) (k := 200) (rfl : ((x0 : Nat) : Int) = x0) (show ((0 : Nat) : Int) = 0 from rfl) (show ((1 : Nat) : Int) = 1 from rfl)) (rfl : i3 x1 = i3 x1) (by omega) (by omega) (by omega) (by omega)) (fun h2 => ?_) (fun h2 => ?_)
  · replace hP := zE_p hP h2
    exact hk _ _ _ (zconso rfl (zconso rfl (zconso rfl rfl))) hZ hK (by omega) (by omega) (by omega) (by omega) hP
  · replace hP := zE_n hP h2
    refine wz_br (i3Le (show (4 : Int32) = i3 4 from rfl) (rfl : i3 x1 = i3 x1) (by omega) (by omega) (by omega) (by omega)) (fun h3 => ?_) (fun h3 => ?_)
    · replace hP := zE_p hP h3
      exact hk _ _ _ (zconso rfl (zconso rfl (zconso rfl rfl))) hZ hK (by omega) (by omega) (by omega) (by omega) hP
    · replace hP := zE_n hP h3
      refine wz_i1 (by rw [tsn]; rfl) ?_
      refine wz_rko (rsn _) ?_
      refine wz_i1 (by rw [tsn]; rfl) ?_
      refine wz_i1 (by rw [tsn]; rfl) ?_
      refine wz_i1 (by rw [tsn]; rfl) ?_
      have r4 := zI_xr (n := x0) hZ
      obtain ⟨Z5, hZ5⟩ := zx (zu Z 200 x0 0 2 (((25173 * (Z 200 x0 0 2)) + 13849) % 65536))
      replace hP := zl_e hP hZ5
      have hZ5I := zI_x hZ hZ5 (by omega)
      have t6 : Z5 11 hb 0 3 = Z 11 hb 0 3 := zu_ne hZ5 (fun q => absurd q.1 (by decide))
      have t7 : Z5 11 hb 0 9 = Z 11 hb 0 9 := zu_ne hZ5 (fun q => absurd q.1 (by decide))
      have t8 : Z5 11 hb 0 8 = Z 11 hb 0 8 := zu_ne hZ5 (fun q => absurd q.1 (by decide))
      have hZ5K := zK_u hK hZ5 (by decide)
      intro μ9 e9
      replace e9 := e9.trans (zm_wI (Z := Z) (ν := ν) hZ5 (rfl : ((x0 : Nat) : Int) = x0) (show ((0 : Nat) : Int) = 0 from rfl) (show ((2 : Nat) : Int) = 2 from rfl) (i3R (i3A (i3M (show (25173 : Int32) = i3 25173 from rfl) (zm_rd (Z := Z) (ν := ν) (k := 200) (rfl : ((x0 : Nat) : Int) = x0) (show ((0 : Nat) : Int) = 0 from rfl) (show ((2 : Nat) : Int) = 2 from rfl))) (show (13849 : Int32) = i3 13849 from rfl)) (show (65536 : Int32) = i3 65536 from rfl) (by omega) (by omega) (by omega) (by omega)))
      subst e9
      refine wz_i1 (by rw [tsn]; rfl) ?_
      refine wz_i1 (by rw [tsn]; rfl) ?_
      refine wz_i1 (by rw [tsn]; rfl) ?_
      refine wz_i1 (by rw [tsn]; rfl) ?_
      have r9 := zI_xr (n := x0) hZ5I
      have q10 := zu_at hZ5
      obtain ⟨Z11, hZ11⟩ := zx (zu Z5 200 x0 0 2 (((25173 * (Z5 200 x0 0 2)) + 13849) % 65536))
      replace hP := zl_e hP hZ11
      have hZ11I := zI_x hZ5I hZ11 (by omega)
      have t12 : Z11 11 hb 0 3 = Z5 11 hb 0 3 := zu_ne hZ11 (fun q => absurd q.1 (by decide))
      have t13 : Z11 11 hb 0 9 = Z5 11 hb 0 9 := zu_ne hZ11 (fun q => absurd q.1 (by decide))
      have t14 : Z11 11 hb 0 8 = Z5 11 hb 0 8 := zu_ne hZ11 (fun q => absurd q.1 (by decide))
      have hZ11K := zK_u hZ5K hZ11 (by decide)
      intro μ9 e9
      replace e9 := e9.trans (zm_wI (Z := Z5) (ν := ν) hZ11 (rfl : ((x0 : Nat) : Int) = x0) (show ((0 : Nat) : Int) = 0 from rfl) (show ((2 : Nat) : Int) = 2 from rfl) (i3R (i3A (i3M (show (25173 : Int32) = i3 25173 from rfl) (zm_rd (Z := Z5) (ν := ν) (k := 200) (rfl : ((x0 : Nat) : Int) = x0) (show ((0 : Nat) : Int) = 0 from rfl) (show ((2 : Nat) : Int) = 2 from rfl))) (show (13849 : Int32) = i3 13849 from rfl)) (show (65536 : Int32) = i3 65536 from rfl) (by omega) (by omega) (by omega) (by omega)))
      subst e9
      refine wz_i1 (by rw [tsn]; rfl) ?_
      refine wz_i1 rfl ?_
      refine wz_rko (r := (30, _, _)) rfl ?_
      refine wz_i1 rfl ?_
      refine wz_rko (r := (11, _, _)) rfl ?_
      refine wz_i1 rfl ?_
      refine wz_i0 (i3O (n := 17) (show (8 : Int32) = i3 8 from rfl) (by omega) (by omega) (by omega)) ?_
      refine wz_i1 rfl ?_
      have r15 := zI_k hZ11I 11 hb 0 8 (lo := 0) (hi := 4) (by decide) rfl
      refine wz_i0 (i3O (n := 4) (zm_rd (Z := Z11) (ν := ν) (k := 11) (rfl : ((hb : Nat) : Int) = hb) (show ((0 : Nat) : Int) = 0 from rfl) (show ((8 : Nat) : Int) = 8 from rfl)) (by omega) (by omega) (by omega)) ?_
      refine wz_rko (r := (50, _, _)) rfl ?_
      refine wz_i1 rfl ?_
      refine wz_i0 (i3O (n := 22) (show (0 : Int32) = i3 0 from rfl) (by omega) (by omega) (by omega)) ?_
      obtain ⟨Z16, hZ16⟩ := zx (zu Z11 50 hb (Z11 11 hb 0 8) 0 (20 + (((Z5 200 x0 0 2) / 16) % 60)))
      replace hP := zl_e hP hZ16
      have hZ16I := zI_u hZ11I hZ16 (lo := 0) (hi := 99) (by decide) rfl (by omega) ⟨by decide, by decide⟩ (Or.inl (by decide))
      have t17 : Z16 11 hb 0 3 = Z11 11 hb 0 3 := zu_ne hZ16 (fun q => absurd q.1 (by decide))
      have t18 : Z16 11 hb 0 9 = Z11 11 hb 0 9 := zu_ne hZ16 (fun q => absurd q.1 (by decide))
      have t19 : Z16 11 hb 0 8 = Z11 11 hb 0 8 := zu_ne hZ16 (fun q => absurd q.1 (by decide))
      have hZ16K := zK_u hZ11K hZ16 (by decide)
      intro μ9 e9
      replace e9 := e9.trans (zm_wI (Z := Z11) (ν := ν) hZ16 (rfl : ((hb : Nat) : Int) = hb) (i3I (y := (Z11 11 hb 0 8)) (zm_rd (Z := Z11) (ν := ν) (k := 11) (rfl : ((hb : Nat) : Int) = hb) (show ((0 : Nat) : Int) = 0 from rfl) (show ((8 : Nat) : Int) = 8 from rfl)) (by omega) (by omega) (by omega)) (show ((0 : Nat) : Int) = 0 from rfl) (i3A (show (20 : Int32) = i3 20 from rfl) (i3R (i3D (zm_rd (Z := Z5) (ν := ν) (k := 200) (rfl : ((x0 : Nat) : Int) = x0) (show ((0 : Nat) : Int) = 0 from rfl) (show ((2 : Nat) : Int) = 2 from rfl)) (show (16 : Int32) = i3 16 from rfl) (by omega) (by omega) (by omega) (by omega)) (show (60 : Int32) = i3 60 from rfl) (by omega) (by omega) (by omega) (by omega))))
      subst e9
      refine wz_i1 rfl ?_
      refine wz_i0 (i3O (n := 22) (show (1 : Int32) = i3 1 from rfl) (by omega) (by omega) (by omega)) ?_
      have r20 := zI_xr (n := x0) hZ11I
      have q21 := zu_at hZ11
      obtain ⟨Z22, hZ22⟩ := zx (zu Z16 50 hb (Z11 11 hb 0 8) 1 (2 + (((Z11 200 x0 0 2) / 16) % 13)))
      replace hP := zl_e hP hZ22
      have hZ22I := zI_u hZ16I hZ22 (lo := 0) (hi := 40) (by decide) rfl (by omega) ⟨by decide, by decide⟩ (Or.inl (by decide))
      have t23 : Z22 11 hb 0 3 = Z16 11 hb 0 3 := zu_ne hZ22 (fun q => absurd q.1 (by decide))
      have t24 : Z22 11 hb 0 9 = Z16 11 hb 0 9 := zu_ne hZ22 (fun q => absurd q.1 (by decide))
      have t25 : Z22 11 hb 0 8 = Z16 11 hb 0 8 := zu_ne hZ22 (fun q => absurd q.1 (by decide))
      have hZ22K := zK_u hZ16K hZ22 (by decide)
      intro μ9 e9
      replace e9 := e9.trans (zm_wI (Z := Z16) (ν := ν) hZ22 (rfl : ((hb : Nat) : Int) = hb) (i3I (y := (Z11 11 hb 0 8)) (zm_rd (Z := Z11) (ν := ν) (k := 11) (rfl : ((hb : Nat) : Int) = hb) (show ((0 : Nat) : Int) = 0 from rfl) (show ((8 : Nat) : Int) = 8 from rfl)) (by omega) (by omega) (by omega)) (show ((1 : Nat) : Int) = 1 from rfl) (i3A (show (2 : Int32) = i3 2 from rfl) (i3R (i3D (zm_rd (Z := Z11) (ν := ν) (k := 200) (rfl : ((x0 : Nat) : Int) = x0) (show ((0 : Nat) : Int) = 0 from rfl) (show ((2 : Nat) : Int) = 2 from rfl)) (show (16 : Int32) = i3 16 from rfl) (by omega) (by omega) (by omega) (by omega)) (show (13 : Int32) = i3 13 from rfl) (by omega) (by omega) (by omega) (by omega))))
      subst e9
      refine wz_i1 rfl ?_
      refine wz_i0 (i3O (n := 22) (show (3 : Int32) = i3 3 from rfl) (by omega) (by omega) (by omega)) ?_
      obtain ⟨Z26, hZ26⟩ := zx (zu Z22 50 hb (Z11 11 hb 0 8) 3 (-1))
      replace hP := zl_e hP hZ26
      have hZ26I := zI_u hZ22I hZ26 (lo := -1) (hi := 671) (by decide) rfl (by omega) ⟨by decide, by decide⟩ (Or.inl (by decide))
      have t27 : Z26 11 hb 0 3 = Z22 11 hb 0 3 := zu_ne hZ26 (fun q => absurd q.1 (by decide))
      have t28 : Z26 11 hb 0 9 = Z22 11 hb 0 9 := zu_ne hZ26 (fun q => absurd q.1 (by decide))
      have t29 : Z26 11 hb 0 8 = Z22 11 hb 0 8 := zu_ne hZ26 (fun q => absurd q.1 (by decide))
      have hZ26K := zK_u hZ22K hZ26 (by decide)
      intro μ9 e9
      replace e9 := e9.trans (zm_wI (Z := Z22) (ν := ν) hZ26 (rfl : ((hb : Nat) : Int) = hb) (i3I (y := (Z11 11 hb 0 8)) (zm_rd (Z := Z11) (ν := ν) (k := 11) (rfl : ((hb : Nat) : Int) = hb) (show ((0 : Nat) : Int) = 0 from rfl) (show ((8 : Nat) : Int) = 8 from rfl)) (by omega) (by omega) (by omega)) (show ((3 : Nat) : Int) = 3 from rfl) (show (-1 : Int32) = i3 (-1) from rfl))
      subst e9
      refine wz_i1 rfl ?_
      refine wz_i0 (i3O (n := 22) (show (7 : Int32) = i3 7 from rfl) (by omega) (by omega) (by omega)) ?_
      obtain ⟨Z30, hZ30⟩ := zx (zu Z26 50 hb (Z11 11 hb 0 8) 7 (-1))
      replace hP := zl_e hP hZ30
      have hZ30I := zI_u hZ26I hZ30 (lo := -1) (hi := 671) (by decide) rfl (by omega) ⟨by decide, by decide⟩ (Or.inl (by decide))
      have t31 : Z30 11 hb 0 3 = Z26 11 hb 0 3 := zu_ne hZ30 (fun q => absurd q.1 (by decide))
      have t32 : Z30 11 hb 0 9 = Z26 11 hb 0 9 := zu_ne hZ30 (fun q => absurd q.1 (by decide))
      have t33 : Z30 11 hb 0 8 = Z26 11 hb 0 8 := zu_ne hZ30 (fun q => absurd q.1 (by decide))
      have hZ30K := zK_u hZ26K hZ30 (by decide)
      intro μ9 e9
      replace e9 := e9.trans (zm_wI (Z := Z26) (ν := ν) hZ30 (rfl : ((hb : Nat) : Int) = hb) (i3I (y := (Z11 11 hb 0 8)) (zm_rd (Z := Z11) (ν := ν) (k := 11) (rfl : ((hb : Nat) : Int) = hb) (show ((0 : Nat) : Int) = 0 from rfl) (show ((8 : Nat) : Int) = 8 from rfl)) (by omega) (by omega) (by omega)) (show ((7 : Nat) : Int) = 7 from rfl) (show (-1 : Int32) = i3 (-1) from rfl))
      subst e9
      refine wz_i1 rfl ?_
      refine wz_i0 (i3O (n := 22) (show (8 : Int32) = i3 8 from rfl) (by omega) (by omega) (by omega)) ?_
      obtain ⟨Z34, hZ34⟩ := zx (zu Z30 50 hb (Z11 11 hb 0 8) 8 (-1))
      replace hP := zl_e hP hZ34
      have hZ34I := zI_u hZ30I hZ34 (lo := -1) (hi := 743) (by decide) rfl (by omega) ⟨by decide, by decide⟩ (Or.inl (by decide))
      have t35 : Z34 11 hb 0 3 = Z30 11 hb 0 3 := zu_ne hZ34 (fun q => absurd q.1 (by decide))
      have t36 : Z34 11 hb 0 9 = Z30 11 hb 0 9 := zu_ne hZ34 (fun q => absurd q.1 (by decide))
      have t37 : Z34 11 hb 0 8 = Z30 11 hb 0 8 := zu_ne hZ34 (fun q => absurd q.1 (by decide))
      have hZ34K := zK_u hZ30K hZ34 (by decide)
      intro μ9 e9
      replace e9 := e9.trans (zm_wI (Z := Z30) (ν := ν) hZ34 (rfl : ((hb : Nat) : Int) = hb) (i3I (y := (Z11 11 hb 0 8)) (zm_rd (Z := Z11) (ν := ν) (k := 11) (rfl : ((hb : Nat) : Int) = hb) (show ((0 : Nat) : Int) = 0 from rfl) (show ((8 : Nat) : Int) = 8 from rfl)) (by omega) (by omega) (by omega)) (show ((8 : Nat) : Int) = 8 from rfl) (show (-1 : Int32) = i3 (-1) from rfl))
      subst e9
      refine wz_i1 rfl ?_
      refine wz_rko (r := (11, _, _)) rfl ?_
      refine wz_i1 rfl ?_
      refine wz_i0 (i3O (n := 17) (show (8 : Int32) = i3 8 from rfl) (by omega) (by omega) (by omega)) ?_
      refine wz_i1 rfl ?_
      refine wz_i0 (i3O (n := 17) (show (8 : Int32) = i3 8 from rfl) (by omega) (by omega) (by omega)) ?_
      have r38 := zI_k hZ34I 11 hb 0 8 (lo := 0) (hi := 4) (by decide) rfl
      have q39 := (zu_ne (k' := 11) (b' := hb) (i' := 0) (j' := 8) hZ34 (fun q => absurd q.1 (by decide))).trans ((zu_ne (k' := 11) (b' := hb) (i' := 0) (j' := 8) hZ30 (fun q => absurd q.1 (by decide))).trans ((zu_ne (k' := 11) (b' := hb) (i' := 0) (j' := 8) hZ26 (fun q => absurd q.1 (by decide))).trans ((zu_ne (k' := 11) (b' := hb) (i' := 0) (j' := 8) hZ22 (fun q => absurd q.1 (by decide))).trans (zu_ne (k' := 11) (b' := hb) (i' := 0) (j' := 8) hZ16 (fun q => absurd q.1 (by decide))))))
      obtain ⟨Z40, hZ40⟩ := zx (zu Z34 11 hb 0 8 ((Z34 11 hb 0 8) + 1))
      replace hP := zl_e hP hZ40
      have hZ40I := zI_u hZ34I hZ40 (lo := 0) (hi := 4) (by decide) rfl (by omega) ⟨by decide, by decide⟩ (Or.inl (by decide))
      have t41 : Z40 11 hb 0 3 = Z34 11 hb 0 3 := zu_ne hZ40 (fun q => absurd q.2.2.2 (by decide))
      have t42 : Z40 11 hb 0 9 = Z34 11 hb 0 9 := zu_ne hZ40 (fun q => absurd q.2.2.2 (by decide))
      have t43 := zu_at hZ40
      have hZ40K := zK_u hZ34K hZ40 (by decide)
      intro μ9 e9
      replace e9 := e9.trans (zm_wI (Z := Z34) (ν := ν) hZ40 (rfl : ((hb : Nat) : Int) = hb) (show ((0 : Nat) : Int) = 0 from rfl) (show ((8 : Nat) : Int) = 8 from rfl) (i3A (zm_rd (Z := Z34) (ν := ν) (k := 11) (rfl : ((hb : Nat) : Int) = hb) (show ((0 : Nat) : Int) = 0 from rfl) (show ((8 : Nat) : Int) = 8 from rfl)) (show (1 : Int32) = i3 1 from rfl)))
      subst e9
      obtain ⟨m2, rfl⟩ : ∃ m2, m = m2 + 1 := ⟨m - 1, by omega⟩
      exact wz_k1 ⟨m2, by omega, Z40, (x1 + 1), (zconso rfl (zconso (zvo (i3A (rfl : i3 x1 = i3 x1) (show (1 : Int32) = i3 1 from rfl))) (zconso rfl rfl))), rfl, hZ40I, hZ40K, by omega, by omega, by omega, by omega, by omega,  hP⟩

/- yX8_tellCarriers -/
def zf_146 (Z : qz_Z) (sn hb : Int) : qz_Z := (zlet2 (zl_146_3 sn hb 7 Z 0) (fun Z2 y1 => (zlet (zu Z2 200 sn 0 2 (((25173 * (Z2 200 sn 0 2)) + 13849) % 65536)) (fun Z5 => (zlet (zu Z5 11 hb 0 14 (1 + (((Z5 200 sn 0 2) / 16) % 4))) (fun Z11 => (zlet2 (zl_146_4 sn hb 5 Z11 0) (fun Z16 y15 => Z16))))))))
theorem sp_146 {Z : qz_Z} {ν : qz_N} {sn : Nat} (hZ : zI (some (some (sn : Int))) Z) (hb : Nat) (tsn : ∀ Z, qz_tag (zm Z ν) (200, sn, 0) = 2) (rsn : ∀ Z, qz_rm (zm Z ν) 200 sn 0 0 = some (10, hb, 0)) (gx0 : Z 11 hb 0 8 = 0) : ∃ P : qz_Z, P = zf_146 Z sn hb ∧ (qf_146 [.inr (.inr (some (200, sn, 0)))] (zm Z ν) = some (zm P ν, .inl none) ∧ zI (some (some (sn : Int))) P ∧ zK [11, 40, 50, 200] Z P ∧ P 11 hb 0 3 = Z 11 hb 0 3 ∧ P 11 hb 0 9 = Z 11 hb 0 9) := by
  obtain ⟨P, hP⟩ := zx (zf_146 Z sn hb)
  refine zc_V (Q := fun P => zI (some (some (sn : Int))) P ∧ zK [11, 40, 50, 200] Z P ∧ P 11 hb 0 3 = Z 11 hb 0 3 ∧ P 11 hb 0 9 = Z 11 hb 0 9) hP (fw_146 sn _ _ ?_)
  replace hP : zE P (zf_146 Z sn hb) := hP
  unfold zf_146 at hP
  have rs := zI_xs (n := sn) hZ
  refine sl_146_3 (ν := ν) sn hZ zK_r hb tsn rsn (x1 := 0) (by omega) (kc2 := Z 11 hb 0 9) (kc1 := Z 11 hb 0 8) (kc0 := Z 11 hb 0 3) (by omega) (by omega) (by omega) (zconso rfl (zconso (zvo (show (0 : Int32) = i3 0 from rfl)) (zconso rfl rfl))) rfl ?_
  intro L3 Z2 y1 hL3 hZ2I kZ2 gy1 gL3_0 gL3_1 gL3_2 q9
  replace hP := zl_e2 hP (Eq.symm q9)
  clear q9
  have hZ2K : zK [11, 40, 50, 200] Z Z2 := zK_t zK_r kZ2 (by decide)
  refine fc_146_6 _ _ _ _ _ hL3 ?_
  refine wz_i1 (by rw [tsn]; rfl) ?_
  refine wz_rko (rsn _) ?_
  refine wz_i1 rfl ?_
  refine wz_rko (r := (11, _, _)) rfl ?_
  refine wz_i1 (by rw [tsn]; rfl) ?_
  refine wz_i1 (by rw [tsn]; rfl) ?_
  refine wz_i1 (by rw [tsn]; rfl) ?_
  have r4 := zI_xr (n := sn) hZ2I
  obtain ⟨Z5, hZ5⟩ := zx (zu Z2 200 sn 0 2 (((25173 * (Z2 200 sn 0 2)) + 13849) % 65536))
  replace hP := zl_e hP hZ5
  have hZ5I := zI_x hZ2I hZ5 (by omega)
  have t6 : Z5 11 hb 0 3 = Z2 11 hb 0 3 := zu_ne hZ5 (fun q => absurd q.1 (by decide))
  have t7 : Z5 11 hb 0 8 = Z2 11 hb 0 8 := zu_ne hZ5 (fun q => absurd q.1 (by decide))
  have t8 : Z5 11 hb 0 9 = Z2 11 hb 0 9 := zu_ne hZ5 (fun q => absurd q.1 (by decide))
  have hZ5K := zK_u hZ2K hZ5 (by decide)
  intro μ9 e9
  replace e9 := e9.trans (zm_wI (Z := Z2) (ν := ν) hZ5 (rfl : ((sn : Nat) : Int) = sn) (show ((0 : Nat) : Int) = 0 from rfl) (show ((2 : Nat) : Int) = 2 from rfl) (i3R (i3A (i3M (show (25173 : Int32) = i3 25173 from rfl) (zm_rd (Z := Z2) (ν := ν) (k := 200) (rfl : ((sn : Nat) : Int) = sn) (show ((0 : Nat) : Int) = 0 from rfl) (show ((2 : Nat) : Int) = 2 from rfl))) (show (13849 : Int32) = i3 13849 from rfl)) (show (65536 : Int32) = i3 65536 from rfl) (by omega) (by omega) (by omega) (by omega)))
  subst e9
  refine wz_i1 (by rw [tsn]; rfl) ?_
  refine wz_i1 rfl ?_
  refine wz_i0 (i3O (n := 17) (show (14 : Int32) = i3 14 from rfl) (by omega) (by omega) (by omega)) ?_
  have r9 := zI_xr (n := sn) hZ5I
  have q10 := zu_at hZ5
  obtain ⟨Z11, hZ11⟩ := zx (zu Z5 11 hb 0 14 (1 + (((Z5 200 sn 0 2) / 16) % 4)))
  replace hP := zl_e hP hZ11
  have hZ11I := zI_u hZ5I hZ11 (lo := 0) (hi := 4) (by decide) rfl (by omega) ⟨by decide, by decide⟩ (Or.inl (by decide))
  have t12 : Z11 11 hb 0 3 = Z5 11 hb 0 3 := zu_ne hZ11 (fun q => absurd q.2.2.2 (by decide))
  have t13 : Z11 11 hb 0 8 = Z5 11 hb 0 8 := zu_ne hZ11 (fun q => absurd q.2.2.2 (by decide))
  have t14 : Z11 11 hb 0 9 = Z5 11 hb 0 9 := zu_ne hZ11 (fun q => absurd q.2.2.2 (by decide))
  have hZ11K := zK_u hZ5K hZ11 (by decide)
  intro μ9 e9
  replace e9 := e9.trans (zm_wI (Z := Z5) (ν := ν) hZ11 (rfl : ((hb : Nat) : Int) = hb) (show ((0 : Nat) : Int) = 0 from rfl) (show ((14 : Nat) : Int) = 14 from rfl) (i3A (show (1 : Int32) = i3 1 from rfl) (i3R (i3D (zm_rd (Z := Z5) (ν := ν) (k := 200) (rfl : ((sn : Nat) : Int) = sn) (show ((0 : Nat) : Int) = 0 from rfl) (show ((2 : Nat) : Int) = 2 from rfl)) (show (16 : Int32) = i3 16 from rfl) (by omega) (by omega) (by omega) (by omega)) (show (4 : Int32) = i3 4 from rfl) (by omega) (by omega) (by omega) (by omega))))
  subst e9
  refine sl_146_4 (ν := ν) sn hZ11I zK_r hb tsn rsn (x1 := 0) (by omega) (kc1 := Z11 11 hb 0 9) (kc0 := Z11 11 hb 0 3) (by omega) (by omega) (by omega) (zconso rfl (zconso (zvo (show (0 : Int32) = i3 0 from rfl)) (zconso rfl rfl))) rfl ?_
  intro L17 Z16 y15 hL17 hZ16I kZ16 gy15 gL17_0 gL17_1 gL17_2 q9
  replace hP := zl_e2 hP (Eq.symm q9)
  clear q9
  have hZ16K : zK [11, 40, 50, 200] Z Z16 := zK_t hZ11K kZ16 (by decide)
  refine fc_146_5  _ _ _ _ hL17 ?_
  exact zlV hP ⟨hZ16I, hZ16K, by omega, by omega⟩

/- yX8_tellRounds -/
def zl_149_1 (x0 : Int) (hb : Int) (x1 : Int) (x2 : Int) (x3 : Int) (x4 : Int) (x5 : Int) : Nat → qz_Z → Int → Int → qz_Z × Int × Int
  | 0, Z, x6, x7 => (Z, x6, x7)
  | m + 1, Z, x6, x7 => (if x5 ≤ x7 then (Z, x6, x7) else (zlet (zu Z 200 x0 0 2 (((25173 * (Z 200 x0 0 2)) + 13849) % 65536)) (fun Z3 => (if (Z3 11 hb 0 2) ≤ (((Z3 200 x0 0 2) / 16) % (max 1 ((Z 11 hb 0 2) + 1))) then zl_149_1 x0 hb x1 x2 x3 x4 x5 m Z3 (w3 ((w3 (x6 * 10)) + 7)) (x7 + 1) else zl_149_1 x0 hb x1 x2 x3 x4 x5 m Z3 (w3 ((w3 (x6 * 10)) + ((((Z3 200 x0 0 2) / 16) % (max 1 ((Z 11 hb 0 2) + 1))) + 1))) (x7 + 1)))))
theorem sl_149_1 {Zs Z : qz_Z} {ν : qz_N} (x0 : Nat) (hZ : zI (some (some (x0 : Int))) Z) (hK : zK [200] Zs Z) (hb : Nat) (tsn : ∀ Z, qz_tag (zm Z ν) (200, x0, 0) = 2) (rsn : ∀ Z, qz_rm (zm Z ν) 200 x0 0 0 = some (10, hb, 0)) {x1 : Int} (gx1 : 1 ≤ x1 ∧ x1 ≤ 2) {x2 : Int} (gx2 : 0 ≤ x2 ∧ x2 ≤ 1) {x3 : Int} (gx3 : 0 ≤ x3 ∧ x3 ≤ 2) {x4 : Int} (gx4 : 0 ≤ x4 ∧ x4 ≤ 127) {x5 : Int} (gx5 : 0 ≤ x5 ∧ x5 ≤ 6) {x6 : Int} (gx6 : -2147483648 ≤ x6 ∧ x6 ≤ 2147483647) {x7 : Int} (gx7 : 0 ≤ x7 ∧ x7 ≤ 6) {kc0 : Int} {kc1 : Int} (gr0 : Z 11 hb 0 3 = kc0) (gr1 : Z 11 hb 0 9 = kc1) {k : wz_K} {R : wz_R} {L : qz_L} (hL : qz_fg [true, true, true, true, true, true, true, true, false] L = [some (.inr (.inr (some (200, x0, 0)))), some (.inl (i3 x1)), some (.inl (i3 x2)), some (.inl (i3 x3)), some (.inl (i3 x4)), some (.inl (i3 x5)), some (.inl (i3 x6)), some (.inl (i3 x7)), none]) {T : qz_Z × Int × Int} (hP : zE T (zl_149_1 x0 hb x1 x2 x3 x4 x5 ((6 - x7).toNat + 1) Z x6 x7)) (hk : ∀ (L9 : qz_L) (Z9 : qz_Z) (yx6 yx7 : Int), qz_fg [true, true, true, true, true, false, true, false, false] L9 = [some (.inr (.inr (some (200, x0, 0)))), some (.inl (i3 x1)), some (.inl (i3 x2)), some (.inl (i3 x3)), some (.inl (i3 x4)), none, some (.inl (i3 yx6)), none, none] → zI (some (some (x0 : Int))) Z9 → zK [200] Zs Z9 → (-2147483648 ≤ yx6 ∧ yx6 ≤ 2147483647) → (0 ≤ yx7 ∧ yx7 ≤ 6) → (Z9 11 hb 0 3 = kc0) → (Z9 11 hb 0 9 = kc1) → zE T ((Z9, yx6, yx7)) → k 0 (L9, [], zm Z9 ν)) : wz_loop qb_149_1 65536 k R (L, [], zm Z ν) := by
  refine wz_lp sb_149_1 (fun m x => ∃ Z : qz_Z, ∃ x6 : Int, ∃ x7 : Int, qz_fg [true, true, true, true, true, true, true, true, false] x.1 = [some (.inr (.inr (some (200, x0, 0)))), some (.inl (i3 x1)), some (.inl (i3 x2)), some (.inl (i3 x3)), some (.inl (i3 x4)), some (.inl (i3 x5)), some (.inl (i3 x6)), some (.inl (i3 x7)), none] ∧ x.2 = ([], zm Z ν) ∧ zI (some (some (x0 : Int))) Z ∧ zK [200] Zs Z ∧ m = (6 - x7).toNat ∧ (-2147483648 ≤ x6 ∧ x6 ≤ 2147483647) ∧ (0 ≤ x7 ∧ x7 ≤ 6) ∧ (Z 11 hb 0 3 = kc0) ∧ (Z 11 hb 0 9 = kc1) ∧ zE T (zl_149_1 x0 hb x1 x2 x3 x4 x5 (m + 1) Z x6 x7)) ?_ 65536 ((6 - x7).toNat) _ (by omega) ⟨Z, x6, x7, hL, rfl, hZ, hK, rfl, gx6, gx7, gr0, gr1, hP⟩
  clear hP gr0 gr1 gx6 gx7 hZ hK hL
  clear x6 x7
  clear Z
  rintro m ⟨L, st, μ⟩ ⟨Z, x6, x7, hL, hx, hZ, hK, hm, gx6, gx7, gr0, gr1, hP⟩
  cases hx
  refine fb_149_1 x0 (i3 x1) (i3 x2) (i3 x3) (i3 x4) (i3 x5) (i3 x6) (i3 x7) _ _ _ _ hL ?_
  have rs := zI_xs (n := x0) hZ
  refine wz_br (i3Le (rfl : i3 x5 = i3 x5) (rfl : i3 x7 = i3 x7) (by omega) (by omega) (by omega) (by omega)) (fun h1 => ?_) (fun h1 => ?_)
  · replace hP := zE_p hP h1
    exact hk _ _ _ _ (zconso rfl (zconso (zvo (rfl : i3 x1 = i3 x1)) (zconso (zvo (rfl : i3 x2 = i3 x2)) (zconso (zvo (rfl : i3 x3 = i3 x3)) (zconso (zvo (rfl : i3 x4 = i3 x4)) (zconso rfl (zconso (zvo (rfl : i3 x6 = i3 x6)) (zconso rfl (zconso rfl rfl))))))))) hZ hK (by omega) (by omega) (by omega) (by omega) hP
  · replace hP := zE_n hP h1
    refine wz_i1 (by rw [tsn]; rfl) ?_
    refine wz_rko (rsn _) ?_
    refine wz_i1 rfl ?_
    refine wz_rko (r := (11, _, _)) rfl ?_
    refine wz_i1 rfl ?_
    refine wz_i0 (i3O (n := 17) (show (2 : Int32) = i3 2 from rfl) (by omega) (by omega) (by omega)) ?_
    refine wz_i1 (by rw [tsn]; rfl) ?_
    refine wz_i1 (by rw [tsn]; rfl) ?_
    refine wz_i1 (by rw [tsn]; rfl) ?_
    have r2 := zI_xr (n := x0) hZ
    obtain ⟨Z3, hZ3⟩ := zx (zu Z 200 x0 0 2 (((25173 * (Z 200 x0 0 2)) + 13849) % 65536))
    replace hP := zl_e hP hZ3
    have hZ3I := zI_x hZ hZ3 (by omega)
    have t4 : Z3 11 hb 0 3 = Z 11 hb 0 3 := zu_ne hZ3 (fun q => absurd q.1 (by decide))
    have t5 : Z3 11 hb 0 9 = Z 11 hb 0 9 := zu_ne hZ3 (fun q => absurd q.1 (by decide))
    have hZ3K := zK_u hK hZ3 (by decide)
    intro μ9 e9
    replace e9 := e9.trans (zm_wI (Z := Z) (ν := ν) hZ3 (rfl : ((x0 : Nat) : Int) = x0) (show ((0 : Nat) : Int) = 0 from rfl) (show ((2 : Nat) : Int) = 2 from rfl) (i3R (i3A (i3M (show (25173 : Int32) = i3 25173 from rfl) (zm_rd (Z := Z) (ν := ν) (k := 200) (rfl : ((x0 : Nat) : Int) = x0) (show ((0 : Nat) : Int) = 0 from rfl) (show ((2 : Nat) : Int) = 2 from rfl))) (show (13849 : Int32) = i3 13849 from rfl)) (show (65536 : Int32) = i3 65536 from rfl) (by omega) (by omega) (by omega) (by omega)))
    subst e9
    refine wz_i1 (by rw [tsn]; rfl) ?_
    have r6 := zI_k hZ 11 hb 0 2 (lo := 0) (hi := 6) (by decide) rfl
    refine wz_i0 (i3N0 (i3Mx (show (1 : Int32) = i3 1 from rfl) (i3A (zm_rd (Z := Z) (ν := ν) (k := 11) (rfl : ((hb : Nat) : Int) = hb) (show ((0 : Nat) : Int) = 0 from rfl) (show ((2 : Nat) : Int) = 2 from rfl)) (show (1 : Int32) = i3 1 from rfl)) (by omega) (by omega) (by omega) (by omega)) (by omega) (by omega) (by omega)) ?_
    refine wz_i1 (by rw [tsn]; rfl) ?_
    refine wz_rko (rsn _) ?_
    refine wz_i1 rfl ?_
    refine wz_rko (r := (11, _, _)) rfl ?_
    refine wz_i1 rfl ?_
    refine wz_i0 (i3O (n := 17) (show (2 : Int32) = i3 2 from rfl) (by omega) (by omega) (by omega)) ?_
    have r7 := zI_k hZ3I 11 hb 0 2 (lo := 0) (hi := 6) (by decide) rfl
    have q8 := zu_ne (k' := 11) (b' := hb) (i' := 0) (j' := 2) hZ3 (fun q => absurd q.1 (by decide))
    have r9 := zI_xr (n := x0) hZ3I
    have q10 := zu_at hZ3
    have r11 := z_mod ((Z3 200 x0 0 2) / 16) (y := (max 1 ((Z 11 hb 0 2) + 1))) (by omega)
    refine wz_br (i3Le (zm_rd (Z := Z3) (ν := ν) (k := 11) (rfl : ((hb : Nat) : Int) = hb) (show ((0 : Nat) : Int) = 0 from rfl) (show ((2 : Nat) : Int) = 2 from rfl)) (i3R (i3D (zm_rd (Z := Z3) (ν := ν) (k := 200) (rfl : ((x0 : Nat) : Int) = x0) (show ((0 : Nat) : Int) = 0 from rfl) (show ((2 : Nat) : Int) = 2 from rfl)) (show (16 : Int32) = i3 16 from rfl) (by omega) (by omega) (by omega) (by omega)) (i3Mx (show (1 : Int32) = i3 1 from rfl) (i3A (zm_rd (Z := Z) (ν := ν) (k := 11) (rfl : ((hb : Nat) : Int) = hb) (show ((0 : Nat) : Int) = 0 from rfl) (show ((2 : Nat) : Int) = 2 from rfl)) (show (1 : Int32) = i3 1 from rfl)) (by omega) (by omega) (by omega) (by omega)) (by omega) (by omega) (by omega) (by omega)) (by omega) (by omega) (by omega) (by omega)) (fun h12 => ?_) (fun h12 => ?_)
    · replace hP := zE_p hP h12
      have r13 := w3_r (x6 * 10)
      have r14 := w3_r ((w3 (x6 * 10)) + 7)
      obtain ⟨m2, rfl⟩ : ∃ m2, m = m2 + 1 := ⟨m - 1, by omega⟩
      exact wz_k1 ⟨m2, by omega, Z3, (w3 ((w3 (x6 * 10)) + 7)), (x7 + 1), (zconso rfl (zconso (zvo (rfl : i3 x1 = i3 x1)) (zconso (zvo (rfl : i3 x2 = i3 x2)) (zconso (zvo (rfl : i3 x3 = i3 x3)) (zconso (zvo (rfl : i3 x4 = i3 x4)) (zconso (zvo (rfl : i3 x5 = i3 x5)) (zconso (zvo (i3W (i3A (i3W (i3M (rfl : i3 x6 = i3 x6) (show (10 : Int32) = i3 10 from rfl))) (show (7 : Int32) = i3 7 from rfl)))) (zconso (zvo (i3A (rfl : i3 x7 = i3 x7) (show (1 : Int32) = i3 1 from rfl))) (zconso rfl rfl))))))))), rfl, hZ3I, hZ3K, by omega, by omega, by omega, by omega, by omega,  hP⟩
    · replace hP := zE_n hP h12
      have r15 := w3_r (x6 * 10)
      have r16 := w3_r ((w3 (x6 * 10)) + ((((Z3 200 x0 0 2) / 16) % (max 1 ((Z 11 hb 0 2) + 1))) + 1))
      obtain ⟨m2, rfl⟩ : ∃ m2, m = m2 + 1 := ⟨m - 1, by omega⟩
      exact wz_k1 ⟨m2, by omega, Z3, (w3 ((w3 (x6 * 10)) + ((((Z3 200 x0 0 2) / 16) % (max 1 ((Z 11 hb 0 2) + 1))) + 1))), (x7 + 1), (zconso rfl (zconso (zvo (rfl : i3 x1 = i3 x1)) (zconso (zvo (rfl : i3 x2 = i3 x2)) (zconso (zvo (rfl : i3 x3 = i3 x3)) (zconso (zvo (rfl : i3 x4 = i3 x4)) (zconso (zvo (rfl : i3 x5 = i3 x5)) (zconso (zvo (i3W (i3A (i3W (i3M (rfl : i3 x6 = i3 x6) (show (10 : Int32) = i3 10 from rfl))) (i3A (i3R (i3D (zm_rd (Z := Z3) (ν := ν) (k := 200) (rfl : ((x0 : Nat) : Int) = x0) (show ((0 : Nat) : Int) = 0 from rfl) (show ((2 : Nat) : Int) = 2 from rfl)) (show (16 : Int32) = i3 16 from rfl) (by omega) (by omega) (by omega) (by omega)) (i3Mx (show (1 : Int32) = i3 1 from rfl) (i3A (zm_rd (Z := Z) (ν := ν) (k := 11) (rfl : ((hb : Nat) : Int) = hb) (show ((0 : Nat) : Int) = 0 from rfl) (show ((2 : Nat) : Int) = 2 from rfl)) (show (1 : Int32) = i3 1 from rfl)) (by omega) (by omega) (by omega) (by omega)) (by omega) (by omega) (by omega) (by omega)) (show (1 : Int32) = i3 1 from rfl))))) (zconso (zvo (i3A (rfl : i3 x7 = i3 x7) (show (1 : Int32) = i3 1 from rfl))) (zconso rfl rfl))))))))), rfl, hZ3I, hZ3K, by omega, by omega, by omega, by omega, by omega,  hP⟩

/- yX8_tellRounds -/
def zl_149_3 (x0 : Int) (hb : Int) (x1 : Int) : Nat → qz_Z → Int → qz_Z × Int
  | 0, Z, x2 => (Z, x2)
  | m + 1, Z, x2 => (if x1 ≤ x2 then (Z, x2) else (zlet (zu Z 200 x0 0 2 (((25173 * (Z 200 x0 0 2)) + 13849) % 65536)) (fun Z3 => (zlet (zu Z3 200 x0 0 2 (((25173 * (Z3 200 x0 0 2)) + 13849) % 65536)) (fun Z8 => (zlet (zu Z8 51 hb (Z8 11 hb 0 9) 0 (((Z3 200 x0 0 2) / 16) % 19)) (fun Z12 => (zlet (zu Z12 51 hb (Z8 11 hb 0 9) 1 (((Z8 200 x0 0 2) / 16) % 4)) (fun Z17 => (zlet (zu Z17 51 hb (Z8 11 hb 0 9) 7 (-1)) (fun Z20 => (zlet (zu Z20 11 hb 0 9 ((Z20 11 hb 0 9) + 1)) (fun Z25 => (zlet (zu Z25 200 x0 0 2 (((25173 * (Z25 200 x0 0 2)) + 13849) % 65536)) (fun Z30 => (zlet (zu Z30 200 x0 0 2 (((25173 * (Z30 200 x0 0 2)) + 13849) % 65536)) (fun Z35 => (zlet3 (zl_149_1 x0 hb x1 x2 (Z20 11 hb 0 9) (((Z30 200 x0 0 2) / 16) % 128) (((Z35 200 x0 0 2) / 16) % 7) 7 Z35 0 0) (fun Z42 y40 y41 => (zlet (zu Z42 51 hb (Z20 11 hb 0 9) 2 (((Z30 200 x0 0 2) / 16) % 128)) (fun Z44 => (zlet (zu Z44 51 hb (Z20 11 hb 0 9) 3 y40) (fun Z47 => (zlet (zf_133 Z47 y40) (fun v50 => zl_149_3 x0 hb x1 m Z47 (x2 + 1))))))))))))))))))))))))))
theorem sl_149_3 {Zs Z : qz_Z} {ν : qz_N} (x0 : Nat) (hZ : zI (some (some (x0 : Int))) Z) (hK : zK [11, 51, 200] Zs Z) (hb : Nat) (tsn : ∀ Z, qz_tag (zm Z ν) (200, x0, 0) = 2) (rsn : ∀ Z, qz_rm (zm Z ν) 200 x0 0 0 = some (10, hb, 0)) {x1 : Int} (gx1 : 0 ≤ x1 ∧ x1 ≤ 2) {x2 : Int} (gx2 : 0 ≤ x2 ∧ x2 ≤ 2) {kc0 : Int} (gr0 : Z 11 hb 0 9 = x2) (gr1 : Z 11 hb 0 3 = kc0) {k : wz_K} {R : wz_R} {L : qz_L} (hL : qz_fg [true, true, true, false, false, false, false, false, false] L = [some (.inr (.inr (some (200, x0, 0)))), some (.inl (i3 x1)), some (.inl (i3 x2)), none, none, none, none, none, none]) {T : qz_Z × Int} (hP : zE T (zl_149_3 x0 hb x1 ((2 - x2).toNat + 1) Z x2)) (hk : ∀ (L9 : qz_L) (Z9 : qz_Z) (yx2 : Int), qz_fg [false, false, false, false, false, false, false, false, false] L9 = [none, none, none, none, none, none, none, none, none] → zI (some (some (x0 : Int))) Z9 → zK [11, 51, 200] Zs Z9 → (0 ≤ yx2 ∧ yx2 ≤ 2) → (Z9 11 hb 0 9 = yx2) → (Z9 11 hb 0 3 = kc0) → zE T ((Z9, yx2)) → k 0 (L9, [], zm Z9 ν)) : wz_loop qb_149_3 65536 k R (L, [], zm Z ν) := by
  refine wz_lp sb_149_3 (fun m x => ∃ Z : qz_Z, ∃ x2 : Int, qz_fg [true, true, true, false, false, false, false, false, false] x.1 = [some (.inr (.inr (some (200, x0, 0)))), some (.inl (i3 x1)), some (.inl (i3 x2)), none, none, none, none, none, none] ∧ x.2 = ([], zm Z ν) ∧ zI (some (some (x0 : Int))) Z ∧ zK [11, 51, 200] Zs Z ∧ m = (2 - x2).toNat ∧ (0 ≤ x2 ∧ x2 ≤ 2) ∧ (Z 11 hb 0 9 = x2) ∧ (Z 11 hb 0 3 = kc0) ∧ zE T (zl_149_3 x0 hb x1 (m + 1) Z x2)) ?_ 65536 ((2 - x2).toNat) _ (by omega) ⟨Z, x2, hL, rfl, hZ, hK, rfl, gx2, gr0, gr1, hP⟩
  clear hP gr0 gr1 gx2 hZ hK hL
  clear x2
  clear Z
  rintro m ⟨L, st, μ⟩ ⟨Z, x2, hL, hx, hZ, hK, hm, gx2, gr0, gr1, hP⟩
  cases hx
  refine fb_149_3 x0 (i3 x1) (i3 x2) _ _ _ _ hL ?_
  have rs := zI_xs (n := x0) hZ
  refine wz_br (i3Le (rfl : i3 x1 = i3 x1) (rfl : i3 x2 = i3 x2) (by omega) (by omega) (by omega) (by omega)) (fun h1 => ?_) (fun h1 => ?_)
  · replace hP := zE_p hP h1
    exact hk _ _ _ (zconso rfl (zconso rfl (zconso rfl (zconso rfl (zconso rfl (zconso rfl (zconso rfl (zconso rfl (zconso rfl rfl))))))))) hZ hK (by omega) (by omega) (by omega) hP
  · replace hP := zE_n hP h1
    refine wz_i1 (by rw [tsn]; rfl) ?_
    refine wz_rko (rsn _) ?_
    refine wz_i1 (by rw [tsn]; rfl) ?_
    refine wz_i1 (by rw [tsn]; rfl) ?_
    refine wz_i1 (by rw [tsn]; rfl) ?_
    have r2 := zI_xr (n := x0) hZ
    obtain ⟨Z3, hZ3⟩ := zx (zu Z 200 x0 0 2 (((25173 * (Z 200 x0 0 2)) + 13849) % 65536))
    replace hP := zl_e hP hZ3
    have hZ3I := zI_x hZ hZ3 (by omega)
    have t4 : Z3 11 hb 0 3 = Z 11 hb 0 3 := zu_ne hZ3 (fun q => absurd q.1 (by decide))
    have t5 : Z3 11 hb 0 9 = Z 11 hb 0 9 := zu_ne hZ3 (fun q => absurd q.1 (by decide))
    have hZ3K := zK_u hK hZ3 (by decide)
    intro μ9 e9
    replace e9 := e9.trans (zm_wI (Z := Z) (ν := ν) hZ3 (rfl : ((x0 : Nat) : Int) = x0) (show ((0 : Nat) : Int) = 0 from rfl) (show ((2 : Nat) : Int) = 2 from rfl) (i3R (i3A (i3M (show (25173 : Int32) = i3 25173 from rfl) (zm_rd (Z := Z) (ν := ν) (k := 200) (rfl : ((x0 : Nat) : Int) = x0) (show ((0 : Nat) : Int) = 0 from rfl) (show ((2 : Nat) : Int) = 2 from rfl))) (show (13849 : Int32) = i3 13849 from rfl)) (show (65536 : Int32) = i3 65536 from rfl) (by omega) (by omega) (by omega) (by omega)))
    subst e9
    refine wz_i1 (by rw [tsn]; rfl) ?_
    refine wz_i1 (by rw [tsn]; rfl) ?_
    refine wz_i1 (by rw [tsn]; rfl) ?_
    refine wz_i1 (by rw [tsn]; rfl) ?_
    have r6 := zI_xr (n := x0) hZ3I
    have q7 := zu_at hZ3
    obtain ⟨Z8, hZ8⟩ := zx (zu Z3 200 x0 0 2 (((25173 * (Z3 200 x0 0 2)) + 13849) % 65536))
    replace hP := zl_e hP hZ8
    have hZ8I := zI_x hZ3I hZ8 (by omega)
    have t9 : Z8 11 hb 0 3 = Z3 11 hb 0 3 := zu_ne hZ8 (fun q => absurd q.1 (by decide))
    have t10 : Z8 11 hb 0 9 = Z3 11 hb 0 9 := zu_ne hZ8 (fun q => absurd q.1 (by decide))
    have hZ8K := zK_u hZ3K hZ8 (by decide)
    intro μ9 e9
    replace e9 := e9.trans (zm_wI (Z := Z3) (ν := ν) hZ8 (rfl : ((x0 : Nat) : Int) = x0) (show ((0 : Nat) : Int) = 0 from rfl) (show ((2 : Nat) : Int) = 2 from rfl) (i3R (i3A (i3M (show (25173 : Int32) = i3 25173 from rfl) (zm_rd (Z := Z3) (ν := ν) (k := 200) (rfl : ((x0 : Nat) : Int) = x0) (show ((0 : Nat) : Int) = 0 from rfl) (show ((2 : Nat) : Int) = 2 from rfl))) (show (13849 : Int32) = i3 13849 from rfl)) (show (65536 : Int32) = i3 65536 from rfl) (by omega) (by omega) (by omega) (by omega)))
    subst e9
    refine wz_i1 (by rw [tsn]; rfl) ?_
    refine wz_i1 rfl ?_
    refine wz_rko (r := (31, _, _)) rfl ?_
    refine wz_i1 rfl ?_
    refine wz_rko (r := (11, _, _)) rfl ?_
    refine wz_i1 rfl ?_
    refine wz_i0 (i3O (n := 17) (show (9 : Int32) = i3 9 from rfl) (by omega) (by omega) (by omega)) ?_
    refine wz_i1 rfl ?_
    have r11 := zI_k hZ8I 11 hb 0 9 (lo := 0) (hi := 2) (by decide) rfl
    refine wz_i0 (i3O (n := 2) (zm_rd (Z := Z8) (ν := ν) (k := 11) (rfl : ((hb : Nat) : Int) = hb) (show ((0 : Nat) : Int) = 0 from rfl) (show ((9 : Nat) : Int) = 9 from rfl)) (by omega) (by omega) (by omega)) ?_
    refine wz_rko (r := (51, _, _)) rfl ?_
    refine wz_i1 rfl ?_
    refine wz_i0 (i3O (n := 8) (show (0 : Int32) = i3 0 from rfl) (by omega) (by omega) (by omega)) ?_
    obtain ⟨Z12, hZ12⟩ := zx (zu Z8 51 hb (Z8 11 hb 0 9) 0 (((Z3 200 x0 0 2) / 16) % 19))
    replace hP := zl_e hP hZ12
    have hZ12I := zI_u hZ8I hZ12 (lo := 0) (hi := 18) (by decide) rfl (by omega) ⟨by decide, by decide⟩ (Or.inl (by decide))
    have t13 : Z12 11 hb 0 3 = Z8 11 hb 0 3 := zu_ne hZ12 (fun q => absurd q.1 (by decide))
    have t14 : Z12 11 hb 0 9 = Z8 11 hb 0 9 := zu_ne hZ12 (fun q => absurd q.1 (by decide))
    have hZ12K := zK_u hZ8K hZ12 (by decide)
    intro μ9 e9
    replace e9 := e9.trans (zm_wI (Z := Z8) (ν := ν) hZ12 (rfl : ((hb : Nat) : Int) = hb) (i3I (y := (Z8 11 hb 0 9)) (zm_rd (Z := Z8) (ν := ν) (k := 11) (rfl : ((hb : Nat) : Int) = hb) (show ((0 : Nat) : Int) = 0 from rfl) (show ((9 : Nat) : Int) = 9 from rfl)) (by omega) (by omega) (by omega)) (show ((0 : Nat) : Int) = 0 from rfl) (i3R (i3D (zm_rd (Z := Z3) (ν := ν) (k := 200) (rfl : ((x0 : Nat) : Int) = x0) (show ((0 : Nat) : Int) = 0 from rfl) (show ((2 : Nat) : Int) = 2 from rfl)) (show (16 : Int32) = i3 16 from rfl) (by omega) (by omega) (by omega) (by omega)) (show (19 : Int32) = i3 19 from rfl) (by omega) (by omega) (by omega) (by omega)))
    subst e9
    refine wz_i1 rfl ?_
    refine wz_i0 (i3O (n := 8) (show (1 : Int32) = i3 1 from rfl) (by omega) (by omega) (by omega)) ?_
    have r15 := zI_xr (n := x0) hZ8I
    have q16 := zu_at hZ8
    obtain ⟨Z17, hZ17⟩ := zx (zu Z12 51 hb (Z8 11 hb 0 9) 1 (((Z8 200 x0 0 2) / 16) % 4))
    replace hP := zl_e hP hZ17
    have hZ17I := zI_u hZ12I hZ17 (lo := 0) (hi := 3) (by decide) rfl (by omega) ⟨by decide, by decide⟩ (Or.inl (by decide))
    have t18 : Z17 11 hb 0 3 = Z12 11 hb 0 3 := zu_ne hZ17 (fun q => absurd q.1 (by decide))
    have t19 : Z17 11 hb 0 9 = Z12 11 hb 0 9 := zu_ne hZ17 (fun q => absurd q.1 (by decide))
    have hZ17K := zK_u hZ12K hZ17 (by decide)
    intro μ9 e9
    replace e9 := e9.trans (zm_wI (Z := Z12) (ν := ν) hZ17 (rfl : ((hb : Nat) : Int) = hb) (i3I (y := (Z8 11 hb 0 9)) (zm_rd (Z := Z8) (ν := ν) (k := 11) (rfl : ((hb : Nat) : Int) = hb) (show ((0 : Nat) : Int) = 0 from rfl) (show ((9 : Nat) : Int) = 9 from rfl)) (by omega) (by omega) (by omega)) (show ((1 : Nat) : Int) = 1 from rfl) (i3R (i3D (zm_rd (Z := Z8) (ν := ν) (k := 200) (rfl : ((x0 : Nat) : Int) = x0) (show ((0 : Nat) : Int) = 0 from rfl) (show ((2 : Nat) : Int) = 2 from rfl)) (show (16 : Int32) = i3 16 from rfl) (by omega) (by omega) (by omega) (by omega)) (show (4 : Int32) = i3 4 from rfl) (by omega) (by omega) (by omega) (by omega)))
    subst e9
    refine wz_i1 rfl ?_
    refine wz_i0 (i3O (n := 8) (show (7 : Int32) = i3 7 from rfl) (by omega) (by omega) (by omega)) ?_
    obtain ⟨Z20, hZ20⟩ := zx (zu Z17 51 hb (Z8 11 hb 0 9) 7 (-1))
    replace hP := zl_e hP hZ20
    have hZ20I := zI_u hZ17I hZ20 (lo := -1) (hi := 671) (by decide) rfl (by omega) ⟨by decide, by decide⟩ (Or.inl (by decide))
    have t21 : Z20 11 hb 0 3 = Z17 11 hb 0 3 := zu_ne hZ20 (fun q => absurd q.1 (by decide))
    have t22 : Z20 11 hb 0 9 = Z17 11 hb 0 9 := zu_ne hZ20 (fun q => absurd q.1 (by decide))
    have hZ20K := zK_u hZ17K hZ20 (by decide)
    intro μ9 e9
    replace e9 := e9.trans (zm_wI (Z := Z17) (ν := ν) hZ20 (rfl : ((hb : Nat) : Int) = hb) (i3I (y := (Z8 11 hb 0 9)) (zm_rd (Z := Z8) (ν := ν) (k := 11) (rfl : ((hb : Nat) : Int) = hb) (show ((0 : Nat) : Int) = 0 from rfl) (show ((9 : Nat) : Int) = 9 from rfl)) (by omega) (by omega) (by omega)) (show ((7 : Nat) : Int) = 7 from rfl) (show (-1 : Int32) = i3 (-1) from rfl))
    subst e9
    refine wz_i1 rfl ?_
    refine wz_rko (r := (11, _, _)) rfl ?_
    refine wz_i1 rfl ?_
    refine wz_i0 (i3O (n := 17) (show (9 : Int32) = i3 9 from rfl) (by omega) (by omega) (by omega)) ?_
    refine wz_i1 rfl ?_
    refine wz_i0 (i3O (n := 17) (show (9 : Int32) = i3 9 from rfl) (by omega) (by omega) (by omega)) ?_
    have r23 := zI_k hZ20I 11 hb 0 9 (lo := 0) (hi := 2) (by decide) rfl
    have q24 := (zu_ne (k' := 11) (b' := hb) (i' := 0) (j' := 9) hZ20 (fun q => absurd q.1 (by decide))).trans ((zu_ne (k' := 11) (b' := hb) (i' := 0) (j' := 9) hZ17 (fun q => absurd q.1 (by decide))).trans (zu_ne (k' := 11) (b' := hb) (i' := 0) (j' := 9) hZ12 (fun q => absurd q.1 (by decide))))
    obtain ⟨Z25, hZ25⟩ := zx (zu Z20 11 hb 0 9 ((Z20 11 hb 0 9) + 1))
    replace hP := zl_e hP hZ25
    have hZ25I := zI_u hZ20I hZ25 (lo := 0) (hi := 2) (by decide) rfl (by omega) ⟨by decide, by decide⟩ (Or.inl (by decide))
    have t26 : Z25 11 hb 0 3 = Z20 11 hb 0 3 := zu_ne hZ25 (fun q => absurd q.2.2.2 (by decide))
    have t27 := zu_at hZ25
    have hZ25K := zK_u hZ20K hZ25 (by decide)
    intro μ9 e9
    replace e9 := e9.trans (zm_wI (Z := Z20) (ν := ν) hZ25 (rfl : ((hb : Nat) : Int) = hb) (show ((0 : Nat) : Int) = 0 from rfl) (show ((9 : Nat) : Int) = 9 from rfl) (i3A (zm_rd (Z := Z20) (ν := ν) (k := 11) (rfl : ((hb : Nat) : Int) = hb) (show ((0 : Nat) : Int) = 0 from rfl) (show ((9 : Nat) : Int) = 9 from rfl)) (show (1 : Int32) = i3 1 from rfl)))
    subst e9
    refine wz_i1 (by rw [tsn]; rfl) ?_
    refine wz_i1 (by rw [tsn]; rfl) ?_
    refine wz_i1 (by rw [tsn]; rfl) ?_
    have r28 := zI_xr (n := x0) hZ25I
    have q29 := (zu_ne (k' := 200) (b' := x0) (i' := 0) (j' := 2) hZ25 (fun q => absurd q.1 (by decide))).trans ((zu_ne (k' := 200) (b' := x0) (i' := 0) (j' := 2) hZ20 (fun q => absurd q.1 (by decide))).trans ((zu_ne (k' := 200) (b' := x0) (i' := 0) (j' := 2) hZ17 (fun q => absurd q.1 (by decide))).trans (zu_ne (k' := 200) (b' := x0) (i' := 0) (j' := 2) hZ12 (fun q => absurd q.1 (by decide)))))
    obtain ⟨Z30, hZ30⟩ := zx (zu Z25 200 x0 0 2 (((25173 * (Z25 200 x0 0 2)) + 13849) % 65536))
    replace hP := zl_e hP hZ30
    have hZ30I := zI_x hZ25I hZ30 (by omega)
    have t31 : Z30 11 hb 0 3 = Z25 11 hb 0 3 := zu_ne hZ30 (fun q => absurd q.1 (by decide))
    have t32 : Z30 11 hb 0 9 = Z25 11 hb 0 9 := zu_ne hZ30 (fun q => absurd q.1 (by decide))
    have hZ30K := zK_u hZ25K hZ30 (by decide)
    intro μ9 e9
    replace e9 := e9.trans (zm_wI (Z := Z25) (ν := ν) hZ30 (rfl : ((x0 : Nat) : Int) = x0) (show ((0 : Nat) : Int) = 0 from rfl) (show ((2 : Nat) : Int) = 2 from rfl) (i3R (i3A (i3M (show (25173 : Int32) = i3 25173 from rfl) (zm_rd (Z := Z25) (ν := ν) (k := 200) (rfl : ((x0 : Nat) : Int) = x0) (show ((0 : Nat) : Int) = 0 from rfl) (show ((2 : Nat) : Int) = 2 from rfl))) (show (13849 : Int32) = i3 13849 from rfl)) (show (65536 : Int32) = i3 65536 from rfl) (by omega) (by omega) (by omega) (by omega)))
    subst e9
    refine wz_i1 (by rw [tsn]; rfl) ?_
    refine wz_i1 (by rw [tsn]; rfl) ?_
    refine wz_i1 (by rw [tsn]; rfl) ?_
    refine wz_i1 (by rw [tsn]; rfl) ?_
    have r33 := zI_xr (n := x0) hZ30I
    have q34 := zu_at hZ30
    obtain ⟨Z35, hZ35⟩ := zx (zu Z30 200 x0 0 2 (((25173 * (Z30 200 x0 0 2)) + 13849) % 65536))
    replace hP := zl_e hP hZ35
    have hZ35I := zI_x hZ30I hZ35 (by omega)
    have t36 : Z35 11 hb 0 3 = Z30 11 hb 0 3 := zu_ne hZ35 (fun q => absurd q.1 (by decide))
    have t37 : Z35 11 hb 0 9 = Z30 11 hb 0 9 := zu_ne hZ35 (fun q => absurd q.1 (by decide))
    have hZ35K := zK_u hZ30K hZ35 (by decide)
    intro μ9 e9
    replace e9 := e9.trans (zm_wI (Z := Z30) (ν := ν) hZ35 (rfl : ((x0 : Nat) : Int) = x0) (show ((0 : Nat) : Int) = 0 from rfl) (show ((2 : Nat) : Int) = 2 from rfl) (i3R (i3A (i3M (show (25173 : Int32) = i3 25173 from rfl) (zm_rd (Z := Z30) (ν := ν) (k := 200) (rfl : ((x0 : Nat) : Int) = x0) (show ((0 : Nat) : Int) = 0 from rfl) (show ((2 : Nat) : Int) = 2 from rfl))) (show (13849 : Int32) = i3 13849 from rfl)) (show (65536 : Int32) = i3 65536 from rfl) (by omega) (by omega) (by omega) (by omega)))
    subst e9
    refine wz_i1 (by rw [tsn]; rfl) ?_
    have r38 := zI_xr (n := x0) hZ35I
    have q39 := zu_at hZ35
    refine sl_149_1 (ν := ν) x0 hZ35I zK_r hb tsn rsn (x1 := x1) (by omega) (x2 := x2) (by omega) (x3 := (Z20 11 hb 0 9)) (by omega) (x4 := (((Z30 200 x0 0 2) / 16) % 128)) (by omega) (x5 := (((Z35 200 x0 0 2) / 16) % 7)) (by omega) (x6 := 0) (by omega) (x7 := 0) (by omega) (kc1 := Z35 11 hb 0 9) (kc0 := Z35 11 hb 0 3) (by omega) (by omega) (zconso rfl (zconso (zvo (rfl : i3 x1 = i3 x1)) (zconso (zvo (rfl : i3 x2 = i3 x2)) (zconso (zvo (zm_rd (Z := Z20) (ν := ν) (k := 11) (rfl : ((hb : Nat) : Int) = hb) (show ((0 : Nat) : Int) = 0 from rfl) (show ((9 : Nat) : Int) = 9 from rfl))) (zconso (zvo (i3R (i3D (zm_rd (Z := Z30) (ν := ν) (k := 200) (rfl : ((x0 : Nat) : Int) = x0) (show ((0 : Nat) : Int) = 0 from rfl) (show ((2 : Nat) : Int) = 2 from rfl)) (show (16 : Int32) = i3 16 from rfl) (by omega) (by omega) (by omega) (by omega)) (show (128 : Int32) = i3 128 from rfl) (by omega) (by omega) (by omega) (by omega))) (zconso (zvo (i3R (i3D (zm_rd (Z := Z35) (ν := ν) (k := 200) (rfl : ((x0 : Nat) : Int) = x0) (show ((0 : Nat) : Int) = 0 from rfl) (show ((2 : Nat) : Int) = 2 from rfl)) (show (16 : Int32) = i3 16 from rfl) (by omega) (by omega) (by omega) (by omega)) (show (7 : Int32) = i3 7 from rfl) (by omega) (by omega) (by omega) (by omega))) (zconso (zvo (show (0 : Int32) = i3 0 from rfl)) (zconso (zvo (show (0 : Int32) = i3 0 from rfl)) (zconso rfl rfl))))))))) rfl ?_
    intro L43 Z42 y40 y41 hL43 hZ42I kZ42 gy40 gy41 gL43_0 gL43_1 q9
    replace hP := zl_e3 hP (Eq.symm q9)
    clear q9
    have hZ42K : zK [11, 51, 200] Zs Z42 := zK_t hZ35K kZ42 (by decide)
    refine fc_149_2 _ (i3 x1) (i3 x2) (i3 (Z20 11 hb 0 9)) (i3 (((Z30 200 x0 0 2) / 16) % 128)) (i3 y40) _ _ _ _ hL43 ?_
    refine wz_i1 (by rw [tsn]; rfl) ?_
    refine wz_rko (rsn _) ?_
    refine wz_i1 rfl ?_
    refine wz_rko (r := (31, _, _)) rfl ?_
    refine wz_i1 rfl ?_
    refine wz_i0 (i3O (n := 2) (rfl : i3 (Z20 11 hb 0 9) = i3 (Z20 11 hb 0 9)) (by omega) (by omega) (by omega)) ?_
    refine wz_rko (r := (51, _, _)) rfl ?_
    refine wz_i1 rfl ?_
    refine wz_i0 (i3O (n := 8) (show (2 : Int32) = i3 2 from rfl) (by omega) (by omega) (by omega)) ?_
    obtain ⟨Z44, hZ44⟩ := zx (zu Z42 51 hb (Z20 11 hb 0 9) 2 (((Z30 200 x0 0 2) / 16) % 128))
    replace hP := zl_e hP hZ44
    have hZ44I := zI_u hZ42I hZ44 (lo := 0) (hi := 127) (by decide) rfl (by omega) ⟨by decide, by decide⟩ (Or.inl (by decide))
    have t45 : Z44 11 hb 0 3 = Z42 11 hb 0 3 := zu_ne hZ44 (fun q => absurd q.1 (by decide))
    have t46 : Z44 11 hb 0 9 = Z42 11 hb 0 9 := zu_ne hZ44 (fun q => absurd q.1 (by decide))
    have hZ44K := zK_u hZ42K hZ44 (by decide)
    intro μ9 e9
    replace e9 := e9.trans (zm_wI (Z := Z42) (ν := ν) hZ44 (rfl : ((hb : Nat) : Int) = hb) (i3I (y := (Z20 11 hb 0 9)) (rfl : i3 (Z20 11 hb 0 9) = i3 (Z20 11 hb 0 9)) (by omega) (by omega) (by omega)) (show ((2 : Nat) : Int) = 2 from rfl) (rfl : i3 (((Z30 200 x0 0 2) / 16) % 128) = i3 (((Z30 200 x0 0 2) / 16) % 128)))
    subst e9
    refine wz_i1 rfl ?_
    refine wz_rko (r := (31, _, _)) rfl ?_
    refine wz_i1 rfl ?_
    refine wz_i0 (i3O (n := 2) (rfl : i3 (Z20 11 hb 0 9) = i3 (Z20 11 hb 0 9)) (by omega) (by omega) (by omega)) ?_
    refine wz_rko (r := (51, _, _)) rfl ?_
    refine wz_i1 rfl ?_
    refine wz_i0 (i3O (n := 8) (show (3 : Int32) = i3 3 from rfl) (by omega) (by omega) (by omega)) ?_
    obtain ⟨Z47, hZ47⟩ := zx (zu Z44 51 hb (Z20 11 hb 0 9) 3 y40)
    replace hP := zl_e hP hZ47
    have hZ47I := zI_u hZ44I hZ47 (lo := -2147483648) (hi := 2147483647) (by decide) rfl (by omega) ⟨by decide, by decide⟩ (Or.inl (by decide))
    have t48 : Z47 11 hb 0 3 = Z44 11 hb 0 3 := zu_ne hZ47 (fun q => absurd q.1 (by decide))
    have t49 : Z47 11 hb 0 9 = Z44 11 hb 0 9 := zu_ne hZ47 (fun q => absurd q.1 (by decide))
    have hZ47K := zK_u hZ44K hZ47 (by decide)
    intro μ9 e9
    replace e9 := e9.trans (zm_wI (Z := Z44) (ν := ν) hZ47 (rfl : ((hb : Nat) : Int) = hb) (i3I (y := (Z20 11 hb 0 9)) (rfl : i3 (Z20 11 hb 0 9) = i3 (Z20 11 hb 0 9)) (by omega) (by omega) (by omega)) (show ((3 : Nat) : Int) = 3 from rfl) (rfl : i3 y40 = i3 y40))
    subst e9
    obtain ⟨v50, hv50, c9, lv50, uv50⟩ := sp_133 (ν := ν) hZ47I (a0 := y40) (by omega)
    replace hP := zl_e hP hv50
    refine wz_cI_of (zas (zcons (zvi (rfl : i3 y40 = i3 y40)) rfl) c9) ?_
    clear c9
    obtain ⟨m2, rfl⟩ : ∃ m2, m = m2 + 1 := ⟨m - 1, by omega⟩
    refine wz_kbs (n := 1) (?_)
    exact wz_k1 ⟨m2, by omega, Z47, (x2 + 1), (zconso rfl (zconso (zvo (rfl : i3 x1 = i3 x1)) (zconso (zvo (i3A (rfl : i3 x2 = i3 x2) (show (1 : Int32) = i3 1 from rfl))) (zconso rfl (zconso rfl (zconso rfl (zconso rfl (zconso rfl (zconso rfl rfl))))))))), rfl, hZ47I, hZ47K, by omega, by omega, by omega, by omega,  hP⟩

