/-! a season told, m (printed by season.py) -/
/- yX12_dPallet -/
def zl_327_1 (x1 : Int) (x2 : Int) (x3 : Int) (x4 : Int) (x5 : Int) (x6 : Int) (x7 : Int) : Nat → qz_Z → Int → qz_Z × Int
  | 0, Z, x8 => (Z, x8)
  | m + 1, Z, x8 => (if 20 ≤ x8 then (Z, x8) else (zlet (zu Z 2 0 0 (200 + 20 * x7 + x8) 0) (fun Z2 => zl_327_1 x1 x2 x3 x4 x5 x6 x7 m Z2 (x8 + 1))))
theorem sl_327_1 {s : zS} {Zs Z : qz_Z} {ν : qz_N} (hZ : zI s Z) (hK : zK [2] Zs Z) {x1 : Int} (gx1 : 0 ≤ x1 ∧ x1 ≤ 5) {x2 : Int} (gx2 : 0 ≤ x2 ∧ x2 ≤ 4) {x3 : Int} (gx3 : 1 ≤ x3 ∧ x3 ≤ 40) {x4 : Int} (gx4 : 0 ≤ x4 ∧ x4 ≤ 300) {x5 : Int} (gx5 : 0 ≤ x5 ∧ x5 ≤ 40) {x6 : Int} (gx6 : -1 ≤ x6 ∧ x6 ≤ 3) {x7 : Int} (gx7 : 0 ≤ x7 ∧ x7 ≤ 48) {x8 : Int} (gx8 : 0 ≤ x8 ∧ x8 ≤ 20) {kc0 : Int} {kc1 : Int} {kc2 : Int} {kc3 : Int} {kc4 : Int} {kc5 : Int} {kc6 : Int} {kc7 : Int} {kc8 : Int} (gr0 : Z 2 0 0 102 = kc0) (gr1 : Z 2 0 0 100 = kc1) (gr2 : Z 2 0 0 101 = kc2) (gr3 : Z 2 0 0 1200 = kc3) (gr4 : Z 2 0 0 1400 = kc4) (gr5 : Z 2 0 0 1401 = kc5) (gr6 : Z 2 0 0 3000 = kc6) (gr7 : Z 2 0 0 3200 = kc7) (gr8 : Z 2 0 0 3500 = kc8) {k : wz_K} {R : wz_R} {L : qz_L} (hL : qz_fg [true, true, true, true, true, true, true, true, true] L = [some (.inr (.inr (some (1, 0, 0)))), some (.inl (i3 x1)), some (.inl (i3 x2)), some (.inl (i3 x3)), some (.inl (i3 x4)), some (.inl (i3 x5)), some (.inl (i3 x6)), some (.inl (i3 x7)), some (.inl (i3 x8))]) {T : qz_Z × Int} (hP : zE T (zl_327_1 x1 x2 x3 x4 x5 x6 x7 ((20 - x8).toNat + 1) Z x8)) (hk : ∀ (L9 : qz_L) (Z9 : qz_Z) (yx8 : Int), qz_fg [true, true, true, true, true, true, true, true, false] L9 = [some (.inr (.inr (some (1, 0, 0)))), some (.inl (i3 x1)), some (.inl (i3 x2)), some (.inl (i3 x3)), some (.inl (i3 x4)), some (.inl (i3 x5)), some (.inl (i3 x6)), some (.inl (i3 x7)), none] → zI s Z9 → zK [2] Zs Z9 → (0 ≤ yx8 ∧ yx8 ≤ 20) → (Z9 2 0 0 102 = kc0) → (Z9 2 0 0 100 = kc1) → (Z9 2 0 0 101 = kc2) → (Z9 2 0 0 1200 = kc3) → (Z9 2 0 0 1400 = kc4) → (Z9 2 0 0 1401 = kc5) → (Z9 2 0 0 3000 = kc6) → (Z9 2 0 0 3200 = kc7) → (Z9 2 0 0 3500 = kc8) → zE T ((Z9, yx8)) → k 0 (L9, [], zm Z9 ν)) : wz_loop qb_327_1 65536 k R (L, [], zm Z ν) := by
  refine wz_lp sb_327_1 (fun m x => ∃ Z : qz_Z, ∃ x8 : Int, qz_fg [true, true, true, true, true, true, true, true, true] x.1 = [some (.inr (.inr (some (1, 0, 0)))), some (.inl (i3 x1)), some (.inl (i3 x2)), some (.inl (i3 x3)), some (.inl (i3 x4)), some (.inl (i3 x5)), some (.inl (i3 x6)), some (.inl (i3 x7)), some (.inl (i3 x8))] ∧ x.2 = ([], zm Z ν) ∧ zI s Z ∧ zK [2] Zs Z ∧ m = (20 - x8).toNat ∧ (0 ≤ x8 ∧ x8 ≤ 20) ∧ (Z 2 0 0 102 = kc0) ∧ (Z 2 0 0 100 = kc1) ∧ (Z 2 0 0 101 = kc2) ∧ (Z 2 0 0 1200 = kc3) ∧ (Z 2 0 0 1400 = kc4) ∧ (Z 2 0 0 1401 = kc5) ∧ (Z 2 0 0 3000 = kc6) ∧ (Z 2 0 0 3200 = kc7) ∧ (Z 2 0 0 3500 = kc8) ∧ zE T (zl_327_1 x1 x2 x3 x4 x5 x6 x7 (m + 1) Z x8)) ?_ 65536 ((20 - x8).toNat) _ (by omega) ⟨Z, x8, hL, rfl, hZ, hK, rfl, gx8, gr0, gr1, gr2, gr3, gr4, gr5, gr6, gr7, gr8, hP⟩
  clear hP gr0 gr1 gr2 gr3 gr4 gr5 gr6 gr7 gr8 gx8 hZ hK hL
  clear x8
  clear Z
  rintro m ⟨L, st, μ⟩ ⟨Z, x8, hL, hx, hZ, hK, hm, gx8, gr0, gr1, gr2, gr3, gr4, gr5, gr6, gr7, gr8, hP⟩
  cases hx
  refine fb_327_1 (i3 x1) (i3 x2) (i3 x3) (i3 x4) (i3 x5) (i3 x6) (i3 x7) (i3 x8) _ _ _ _ hL ?_
  refine wz_br (i3Le (show (20 : Int32) = i3 20 from rfl) (rfl : i3 x8 = i3 x8) (by omega) (by omega) (by omega) (by omega)) (fun h1 => ?_) (fun h1 => ?_)
  · replace hP := zE_p hP h1
    exact hk _ _ _ (zconso rfl (zconso (zvo (rfl : i3 x1 = i3 x1)) (zconso (zvo (rfl : i3 x2 = i3 x2)) (zconso (zvo (rfl : i3 x3 = i3 x3)) (zconso (zvo (rfl : i3 x4 = i3 x4)) (zconso (zvo (rfl : i3 x5 = i3 x5)) (zconso (zvo (rfl : i3 x6 = i3 x6)) (zconso (zvo (rfl : i3 x7 = i3 x7)) (zconso rfl rfl))))))))) hZ hK (by omega) (by omega) (by omega) (by omega) (by omega) (by omega) (by omega) (by omega) (by omega) (by omega) hP
  · replace hP := zE_n hP h1
    refine wz_i0 (i3O (n := 4400) (i3A (i3A (show (200 : Int32) = i3 200 from rfl) (i3M (show (20 : Int32) = i3 20 from rfl) (rfl : i3 x7 = i3 x7))) (rfl : i3 x8 = i3 x8)) (by omega) (by omega) (by omega)) ?_
    obtain ⟨Z2, hZ2⟩ := zx (zu Z 2 0 0 (200 + 20 * x7 + x8) 0)
    replace hP := zl_e hP hZ2
    have hZ2I := zI_0 hZ hZ2 (by decide) (Or.inl (by decide))
    have t3 : Z2 2 0 0 102 = Z 2 0 0 102 := zu_ne hZ2 (by omega)
    have t4 : Z2 2 0 0 100 = Z 2 0 0 100 := zu_ne hZ2 (by omega)
    have t5 : Z2 2 0 0 101 = Z 2 0 0 101 := zu_ne hZ2 (by omega)
    have t6 : Z2 2 0 0 1200 = Z 2 0 0 1200 := zu_ne hZ2 (by omega)
    have t7 : Z2 2 0 0 1400 = Z 2 0 0 1400 := zu_ne hZ2 (by omega)
    have t8 : Z2 2 0 0 1401 = Z 2 0 0 1401 := zu_ne hZ2 (by omega)
    have t9 : Z2 2 0 0 3000 = Z 2 0 0 3000 := zu_ne hZ2 (by omega)
    have t10 : Z2 2 0 0 3200 = Z 2 0 0 3200 := zu_ne hZ2 (by omega)
    have t11 : Z2 2 0 0 3500 = Z 2 0 0 3500 := zu_ne hZ2 (by omega)
    have hZ2K := zK_u hK hZ2 (by decide)
    intro μ9 e9
    replace e9 := e9.trans (zm_wI (Z := Z) (ν := ν) hZ2 (show ((0 : Nat) : Int) = 0 from rfl) (show ((0 : Nat) : Int) = 0 from rfl) (i3I (y := (200 + 20 * x7 + x8)) (i3A (i3A (show (200 : Int32) = i3 200 from rfl) (i3M (show (20 : Int32) = i3 20 from rfl) (rfl : i3 x7 = i3 x7))) (rfl : i3 x8 = i3 x8)) (by omega) (by omega) (by omega)) (show (0 : Int32) = i3 0 from rfl))
    subst e9
    obtain ⟨m2, rfl⟩ : ∃ m2, m = m2 + 1 := ⟨m - 1, by omega⟩
    exact wz_k1 ⟨m2, by omega, Z2, (x8 + 1), (zconso rfl (zconso (zvo (rfl : i3 x1 = i3 x1)) (zconso (zvo (rfl : i3 x2 = i3 x2)) (zconso (zvo (rfl : i3 x3 = i3 x3)) (zconso (zvo (rfl : i3 x4 = i3 x4)) (zconso (zvo (rfl : i3 x5 = i3 x5)) (zconso (zvo (rfl : i3 x6 = i3 x6)) (zconso (zvo (rfl : i3 x7 = i3 x7)) (zconso (zvo (i3A (rfl : i3 x8 = i3 x8) (show (1 : Int32) = i3 1 from rfl))) rfl))))))))), rfl, hZ2I, hZ2K, by omega, by omega, by omega, by omega, by omega, by omega, by omega, by omega, by omega, by omega, by omega,  hP⟩

/- yX12_dPallet -/
def zf_327 (Z : qz_Z) (a1 : Int) (a2 : Int) (a3 : Int) (a4 : Int) (a5 : Int) (a6 : Int) : qz_Z × Int := (zlet2 (zl_327_1 a1 a2 a3 a4 a5 a6 (Z 2 0 0 102) 21 Z 0) (fun Z3 y2 => (zlet (zu Z3 2 0 0 (200 + 20 * (Z 2 0 0 102)) a1) (fun Z5 => (zlet (zu Z5 2 0 0 (201 + 20 * (Z 2 0 0 102)) a2) (fun Z15 => (zlet (zu Z15 2 0 0 (202 + 20 * (Z 2 0 0 102)) (Z15 2 0 0 0)) (fun Z26 => (zlet (zu Z26 2 0 0 (203 + 20 * (Z 2 0 0 102)) a3) (fun Z36 => (zlet (zu Z36 2 0 0 (204 + 20 * (Z 2 0 0 102)) a3) (fun Z46 => (zlet (zu Z46 2 0 0 (205 + 20 * (Z 2 0 0 102)) a5) (fun Z56 => (zlet (zu Z56 2 0 0 (207 + 20 * (Z 2 0 0 102)) a4) (fun Z66 => (zlet (zu Z66 2 0 0 (209 + 20 * (Z 2 0 0 102)) a6) (fun Z76 => (zlet (zu Z76 2 0 0 (211 + 20 * (Z 2 0 0 102)) 6) (fun Z86 => (zlet (zu Z86 2 0 0 (213 + 20 * (Z 2 0 0 102)) (-1)) (fun Z96 => (zlet (zu Z96 2 0 0 102 ((Z96 2 0 0 102) + 1)) (fun Z107 => (Z107, (Z 2 0 0 102))))))))))))))))))))))))))
theorem sp_327 {s : zS} {Z : qz_Z} {ν : qz_N} (hZ : zI s Z) {a1 : Int} (ga1 : 0 ≤ a1 ∧ a1 ≤ 5) {a2 : Int} (ga2 : 0 ≤ a2 ∧ a2 ≤ 4) {a3 : Int} (ga3 : 1 ≤ a3 ∧ a3 ≤ 40) {a4 : Int} (ga4 : 0 ≤ a4 ∧ a4 ≤ 300) {a5 : Int} (ga5 : 0 ≤ a5 ∧ a5 ≤ 40) {a6 : Int} (ga6 : -1 ≤ a6 ∧ a6 ≤ 3) (gx0 : Z 2 0 0 102 ≤ 47) : ∃ (Z1 : qz_Z) (P : Int), (Z1, P) = zf_327 Z a1 a2 a3 a4 a5 a6 ∧ (qf_327 [.inr (.inr (some (1, 0, 0))), .inl (i3 a1), .inl (i3 a2), .inl (i3 a3), .inl (i3 a4), .inl (i3 a5), .inl (i3 a6)] (zm Z ν) = some (zm Z1 ν, .inl (some (.inl (i3 P)))) ∧ zI s Z1 ∧ zK [2] Z Z1 ∧ 0 ≤ P ∧ P ≤ 48 ∧ Z1 2 0 0 102 = Z 2 0 0 102 + 1 ∧ Z1 2 0 0 100 = Z 2 0 0 100 ∧ Z1 2 0 0 101 = Z 2 0 0 101 ∧ Z1 2 0 0 1200 = Z 2 0 0 1200 ∧ Z1 2 0 0 1400 = Z 2 0 0 1400 ∧ Z1 2 0 0 1401 = Z 2 0 0 1401 ∧ Z1 2 0 0 3000 = Z 2 0 0 3000 ∧ Z1 2 0 0 3200 = Z 2 0 0 3200 ∧ Z1 2 0 0 3500 = Z 2 0 0 3500) := by
  obtain ⟨P, hP⟩ := zx (zf_327 Z a1 a2 a3 a4 a5 a6)
  refine zc_W (Q := fun Z1 P => zI s Z1 ∧ zK [2] Z Z1 ∧ 0 ≤ P ∧ P ≤ 48 ∧ Z1 2 0 0 102 = Z 2 0 0 102 + 1 ∧ Z1 2 0 0 100 = Z 2 0 0 100 ∧ Z1 2 0 0 101 = Z 2 0 0 101 ∧ Z1 2 0 0 1200 = Z 2 0 0 1200 ∧ Z1 2 0 0 1400 = Z 2 0 0 1400 ∧ Z1 2 0 0 1401 = Z 2 0 0 1401 ∧ Z1 2 0 0 3000 = Z 2 0 0 3000 ∧ Z1 2 0 0 3200 = Z 2 0 0 3200 ∧ Z1 2 0 0 3500 = Z 2 0 0 3500) hP (fw_327 (i3 a1) (i3 a2) (i3 a3) (i3 a4) (i3 a5) (i3 a6) _ _ ?_)
  replace hP : zE P (zf_327 Z a1 a2 a3 a4 a5 a6) := hP
  unfold zf_327 at hP
  have r1 := zI_k hZ 2 0 0 102 (lo := 0) (hi := 48) (by decide) rfl
  refine sl_327_1 (ν := ν) hZ zK_r (x1 := a1) (by omega) (x2 := a2) (by omega) (x3 := a3) (by omega) (x4 := a4) (by omega) (x5 := a5) (by omega) (x6 := a6) (by omega) (x7 := (Z 2 0 0 102)) (by omega) (x8 := 0) (by omega) (kc8 := Z 2 0 0 3500) (kc7 := Z 2 0 0 3200) (kc6 := Z 2 0 0 3000) (kc5 := Z 2 0 0 1401) (kc4 := Z 2 0 0 1400) (kc3 := Z 2 0 0 1200) (kc2 := Z 2 0 0 101) (kc1 := Z 2 0 0 100) (kc0 := Z 2 0 0 102) (by omega) (by omega) (by omega) (by omega) (by omega) (by omega) (by omega) (by omega) (by omega) (zconso rfl (zconso (zvo (rfl : i3 a1 = i3 a1)) (zconso (zvo (rfl : i3 a2 = i3 a2)) (zconso (zvo (rfl : i3 a3 = i3 a3)) (zconso (zvo (rfl : i3 a4 = i3 a4)) (zconso (zvo (rfl : i3 a5 = i3 a5)) (zconso (zvo (rfl : i3 a6 = i3 a6)) (zconso (zvo (zm_rd (Z := Z) (ν := ν) (k := 2) (show ((0 : Nat) : Int) = 0 from rfl) (show ((0 : Nat) : Int) = 0 from rfl) (show ((102 : Nat) : Int) = 102 from rfl))) (zconso (zvo (show (0 : Int32) = i3 0 from rfl)) rfl))))))))) rfl ?_
  intro L4 Z3 y2 hL4 hZ3I kZ3 gy2 gL4_0 gL4_1 gL4_2 gL4_3 gL4_4 gL4_5 gL4_6 gL4_7 gL4_8 q9
  replace hP := zl_e2 hP (Eq.symm q9)
  clear q9
  have hZ3K : zK [2] Z Z3 := zK_t zK_r kZ3 (by decide)
  refine fc_327_2 (i3 a1) (i3 a2) (i3 a3) (i3 a4) (i3 a5) (i3 a6) (i3 (Z 2 0 0 102)) _ _ _ _ hL4 ?_
  refine wz_i0 (i3O (n := 4400) (i3A (i3A (show (200 : Int32) = i3 200 from rfl) (i3M (show (20 : Int32) = i3 20 from rfl) (rfl : i3 (Z 2 0 0 102) = i3 (Z 2 0 0 102)))) (show (0 : Int32) = i3 0 from rfl)) (by omega) (by omega) (by omega)) ?_
  obtain ⟨Z5, hZ5⟩ := zx (zu Z3 2 0 0 (200 + 20 * (Z 2 0 0 102)) a1)
  replace hP := zl_e hP hZ5
  have hZ5I := zI_u hZ3I hZ5 (lo := 0) (hi := 5) (by decide) (zs_200_0 (x := (Z 2 0 0 102)) (by omega) (by omega) (by omega)) (by omega) ⟨by decide, by decide⟩ (Or.inl (by decide))
  have t6 : Z5 2 0 0 102 = Z3 2 0 0 102 := zu_ne hZ5 (by omega)
  have t7 : Z5 2 0 0 100 = Z3 2 0 0 100 := zu_ne hZ5 (by omega)
  have t8 : Z5 2 0 0 101 = Z3 2 0 0 101 := zu_ne hZ5 (by omega)
  have t9 : Z5 2 0 0 1200 = Z3 2 0 0 1200 := zu_ne hZ5 (by omega)
  have t10 : Z5 2 0 0 1400 = Z3 2 0 0 1400 := zu_ne hZ5 (by omega)
  have t11 : Z5 2 0 0 1401 = Z3 2 0 0 1401 := zu_ne hZ5 (by omega)
  have t12 : Z5 2 0 0 3000 = Z3 2 0 0 3000 := zu_ne hZ5 (by omega)
  have t13 : Z5 2 0 0 3200 = Z3 2 0 0 3200 := zu_ne hZ5 (by omega)
  have t14 : Z5 2 0 0 3500 = Z3 2 0 0 3500 := zu_ne hZ5 (by omega)
  have hZ5K := zK_u hZ3K hZ5 (by decide)
  intro μ9 e9
  replace e9 := e9.trans (zm_wI (Z := Z3) (ν := ν) hZ5 (show ((0 : Nat) : Int) = 0 from rfl) (show ((0 : Nat) : Int) = 0 from rfl) (i3I (y := (200 + 20 * (Z 2 0 0 102))) (i3A (i3A (show (200 : Int32) = i3 200 from rfl) (i3M (show (20 : Int32) = i3 20 from rfl) (rfl : i3 (Z 2 0 0 102) = i3 (Z 2 0 0 102)))) (show (0 : Int32) = i3 0 from rfl)) (by omega) (by omega) (by omega)) (rfl : i3 a1 = i3 a1))
  subst e9
  refine wz_i0 (i3O (n := 4400) (i3A (i3A (show (200 : Int32) = i3 200 from rfl) (i3M (show (20 : Int32) = i3 20 from rfl) (rfl : i3 (Z 2 0 0 102) = i3 (Z 2 0 0 102)))) (show (1 : Int32) = i3 1 from rfl)) (by omega) (by omega) (by omega)) ?_
  obtain ⟨Z15, hZ15⟩ := zx (zu Z5 2 0 0 (201 + 20 * (Z 2 0 0 102)) a2)
  replace hP := zl_e hP hZ15
  have hZ15I := zI_u hZ5I hZ15 (lo := 0) (hi := 4) (by decide) (zs_200_1 (x := (Z 2 0 0 102)) (by omega) (by omega) (by omega)) (by omega) ⟨by decide, by decide⟩ (Or.inl (by decide))
  have t16 : Z15 2 0 0 102 = Z5 2 0 0 102 := zu_ne hZ15 (by omega)
  have t17 : Z15 2 0 0 100 = Z5 2 0 0 100 := zu_ne hZ15 (by omega)
  have t18 : Z15 2 0 0 101 = Z5 2 0 0 101 := zu_ne hZ15 (by omega)
  have t19 : Z15 2 0 0 1200 = Z5 2 0 0 1200 := zu_ne hZ15 (by omega)
  have t20 : Z15 2 0 0 1400 = Z5 2 0 0 1400 := zu_ne hZ15 (by omega)
  have t21 : Z15 2 0 0 1401 = Z5 2 0 0 1401 := zu_ne hZ15 (by omega)
  have t22 : Z15 2 0 0 3000 = Z5 2 0 0 3000 := zu_ne hZ15 (by omega)
  have t23 : Z15 2 0 0 3200 = Z5 2 0 0 3200 := zu_ne hZ15 (by omega)
  have t24 : Z15 2 0 0 3500 = Z5 2 0 0 3500 := zu_ne hZ15 (by omega)
  have hZ15K := zK_u hZ5K hZ15 (by decide)
  intro μ9 e9
  replace e9 := e9.trans (zm_wI (Z := Z5) (ν := ν) hZ15 (show ((0 : Nat) : Int) = 0 from rfl) (show ((0 : Nat) : Int) = 0 from rfl) (i3I (y := (201 + 20 * (Z 2 0 0 102))) (i3A (i3A (show (200 : Int32) = i3 200 from rfl) (i3M (show (20 : Int32) = i3 20 from rfl) (rfl : i3 (Z 2 0 0 102) = i3 (Z 2 0 0 102)))) (show (1 : Int32) = i3 1 from rfl)) (by omega) (by omega) (by omega)) (rfl : i3 a2 = i3 a2))
  subst e9
  refine wz_i0 (i3O (n := 4400) (i3A (i3A (show (200 : Int32) = i3 200 from rfl) (i3M (show (20 : Int32) = i3 20 from rfl) (rfl : i3 (Z 2 0 0 102) = i3 (Z 2 0 0 102)))) (show (2 : Int32) = i3 2 from rfl)) (by omega) (by omega) (by omega)) ?_
  have r25 := zI_k hZ15I 2 0 0 0 (lo := 0) (hi := 671) (by decide) rfl
  obtain ⟨Z26, hZ26⟩ := zx (zu Z15 2 0 0 (202 + 20 * (Z 2 0 0 102)) (Z15 2 0 0 0))
  replace hP := zl_e hP hZ26
  have hZ26I := zI_u hZ15I hZ26 (lo := 0) (hi := 671) (by decide) (zs_200_2 (x := (Z 2 0 0 102)) (by omega) (by omega) (by omega)) (by omega) ⟨by decide, by decide⟩ (Or.inl (by decide))
  have t27 : Z26 2 0 0 102 = Z15 2 0 0 102 := zu_ne hZ26 (by omega)
  have t28 : Z26 2 0 0 100 = Z15 2 0 0 100 := zu_ne hZ26 (by omega)
  have t29 : Z26 2 0 0 101 = Z15 2 0 0 101 := zu_ne hZ26 (by omega)
  have t30 : Z26 2 0 0 1200 = Z15 2 0 0 1200 := zu_ne hZ26 (by omega)
  have t31 : Z26 2 0 0 1400 = Z15 2 0 0 1400 := zu_ne hZ26 (by omega)
  have t32 : Z26 2 0 0 1401 = Z15 2 0 0 1401 := zu_ne hZ26 (by omega)
  have t33 : Z26 2 0 0 3000 = Z15 2 0 0 3000 := zu_ne hZ26 (by omega)
  have t34 : Z26 2 0 0 3200 = Z15 2 0 0 3200 := zu_ne hZ26 (by omega)
  have t35 : Z26 2 0 0 3500 = Z15 2 0 0 3500 := zu_ne hZ26 (by omega)
  have hZ26K := zK_u hZ15K hZ26 (by decide)
  intro μ9 e9
  replace e9 := e9.trans (zm_wI (Z := Z15) (ν := ν) hZ26 (show ((0 : Nat) : Int) = 0 from rfl) (show ((0 : Nat) : Int) = 0 from rfl) (i3I (y := (202 + 20 * (Z 2 0 0 102))) (i3A (i3A (show (200 : Int32) = i3 200 from rfl) (i3M (show (20 : Int32) = i3 20 from rfl) (rfl : i3 (Z 2 0 0 102) = i3 (Z 2 0 0 102)))) (show (2 : Int32) = i3 2 from rfl)) (by omega) (by omega) (by omega)) (zm_rd (Z := Z15) (ν := ν) (k := 2) (show ((0 : Nat) : Int) = 0 from rfl) (show ((0 : Nat) : Int) = 0 from rfl) (show ((0 : Nat) : Int) = 0 from rfl)))
  subst e9
  refine wz_i0 (i3O (n := 4400) (i3A (i3A (show (200 : Int32) = i3 200 from rfl) (i3M (show (20 : Int32) = i3 20 from rfl) (rfl : i3 (Z 2 0 0 102) = i3 (Z 2 0 0 102)))) (show (3 : Int32) = i3 3 from rfl)) (by omega) (by omega) (by omega)) ?_
  obtain ⟨Z36, hZ36⟩ := zx (zu Z26 2 0 0 (203 + 20 * (Z 2 0 0 102)) a3)
  replace hP := zl_e hP hZ36
  have hZ36I := zI_u hZ26I hZ36 (lo := 0) (hi := 40) (by decide) (zs_200_3 (x := (Z 2 0 0 102)) (by omega) (by omega) (by omega)) (by omega) ⟨by decide, by decide⟩ (Or.inl (by decide))
  have t37 : Z36 2 0 0 102 = Z26 2 0 0 102 := zu_ne hZ36 (by omega)
  have t38 : Z36 2 0 0 100 = Z26 2 0 0 100 := zu_ne hZ36 (by omega)
  have t39 : Z36 2 0 0 101 = Z26 2 0 0 101 := zu_ne hZ36 (by omega)
  have t40 : Z36 2 0 0 1200 = Z26 2 0 0 1200 := zu_ne hZ36 (by omega)
  have t41 : Z36 2 0 0 1400 = Z26 2 0 0 1400 := zu_ne hZ36 (by omega)
  have t42 : Z36 2 0 0 1401 = Z26 2 0 0 1401 := zu_ne hZ36 (by omega)
  have t43 : Z36 2 0 0 3000 = Z26 2 0 0 3000 := zu_ne hZ36 (by omega)
  have t44 : Z36 2 0 0 3200 = Z26 2 0 0 3200 := zu_ne hZ36 (by omega)
  have t45 : Z36 2 0 0 3500 = Z26 2 0 0 3500 := zu_ne hZ36 (by omega)
  have hZ36K := zK_u hZ26K hZ36 (by decide)
  intro μ9 e9
  replace e9 := e9.trans (zm_wI (Z := Z26) (ν := ν) hZ36 (show ((0 : Nat) : Int) = 0 from rfl) (show ((0 : Nat) : Int) = 0 from rfl) (i3I (y := (203 + 20 * (Z 2 0 0 102))) (i3A (i3A (show (200 : Int32) = i3 200 from rfl) (i3M (show (20 : Int32) = i3 20 from rfl) (rfl : i3 (Z 2 0 0 102) = i3 (Z 2 0 0 102)))) (show (3 : Int32) = i3 3 from rfl)) (by omega) (by omega) (by omega)) (rfl : i3 a3 = i3 a3))
  subst e9
  refine wz_i0 (i3O (n := 4400) (i3A (i3A (show (200 : Int32) = i3 200 from rfl) (i3M (show (20 : Int32) = i3 20 from rfl) (rfl : i3 (Z 2 0 0 102) = i3 (Z 2 0 0 102)))) (show (4 : Int32) = i3 4 from rfl)) (by omega) (by omega) (by omega)) ?_
  obtain ⟨Z46, hZ46⟩ := zx (zu Z36 2 0 0 (204 + 20 * (Z 2 0 0 102)) a3)
  replace hP := zl_e hP hZ46
  have hZ46I := zI_u hZ36I hZ46 (lo := 0) (hi := 40) (by decide) (zs_200_4 (x := (Z 2 0 0 102)) (by omega) (by omega) (by omega)) (by omega) ⟨by decide, by decide⟩ (Or.inl (by decide))
  have t47 : Z46 2 0 0 102 = Z36 2 0 0 102 := zu_ne hZ46 (by omega)
  have t48 : Z46 2 0 0 100 = Z36 2 0 0 100 := zu_ne hZ46 (by omega)
  have t49 : Z46 2 0 0 101 = Z36 2 0 0 101 := zu_ne hZ46 (by omega)
  have t50 : Z46 2 0 0 1200 = Z36 2 0 0 1200 := zu_ne hZ46 (by omega)
  have t51 : Z46 2 0 0 1400 = Z36 2 0 0 1400 := zu_ne hZ46 (by omega)
  have t52 : Z46 2 0 0 1401 = Z36 2 0 0 1401 := zu_ne hZ46 (by omega)
  have t53 : Z46 2 0 0 3000 = Z36 2 0 0 3000 := zu_ne hZ46 (by omega)
  have t54 : Z46 2 0 0 3200 = Z36 2 0 0 3200 := zu_ne hZ46 (by omega)
  have t55 : Z46 2 0 0 3500 = Z36 2 0 0 3500 := zu_ne hZ46 (by omega)
  have hZ46K := zK_u hZ36K hZ46 (by decide)
  intro μ9 e9
  replace e9 := e9.trans (zm_wI (Z := Z36) (ν := ν) hZ46 (show ((0 : Nat) : Int) = 0 from rfl) (show ((0 : Nat) : Int) = 0 from rfl) (i3I (y := (204 + 20 * (Z 2 0 0 102))) (i3A (i3A (show (200 : Int32) = i3 200 from rfl) (i3M (show (20 : Int32) = i3 20 from rfl) (rfl : i3 (Z 2 0 0 102) = i3 (Z 2 0 0 102)))) (show (4 : Int32) = i3 4 from rfl)) (by omega) (by omega) (by omega)) (rfl : i3 a3 = i3 a3))
  subst e9
  refine wz_i0 (i3O (n := 4400) (i3A (i3A (show (200 : Int32) = i3 200 from rfl) (i3M (show (20 : Int32) = i3 20 from rfl) (rfl : i3 (Z 2 0 0 102) = i3 (Z 2 0 0 102)))) (show (5 : Int32) = i3 5 from rfl)) (by omega) (by omega) (by omega)) ?_
  obtain ⟨Z56, hZ56⟩ := zx (zu Z46 2 0 0 (205 + 20 * (Z 2 0 0 102)) a5)
  replace hP := zl_e hP hZ56
  have hZ56I := zI_u hZ46I hZ56 (lo := 0) (hi := 40) (by decide) (zs_200_5 (x := (Z 2 0 0 102)) (by omega) (by omega) (by omega)) (by omega) ⟨by decide, by decide⟩ (Or.inl (by decide))
  have t57 : Z56 2 0 0 102 = Z46 2 0 0 102 := zu_ne hZ56 (by omega)
  have t58 : Z56 2 0 0 100 = Z46 2 0 0 100 := zu_ne hZ56 (by omega)
  have t59 : Z56 2 0 0 101 = Z46 2 0 0 101 := zu_ne hZ56 (by omega)
  have t60 : Z56 2 0 0 1200 = Z46 2 0 0 1200 := zu_ne hZ56 (by omega)
  have t61 : Z56 2 0 0 1400 = Z46 2 0 0 1400 := zu_ne hZ56 (by omega)
  have t62 : Z56 2 0 0 1401 = Z46 2 0 0 1401 := zu_ne hZ56 (by omega)
  have t63 : Z56 2 0 0 3000 = Z46 2 0 0 3000 := zu_ne hZ56 (by omega)
  have t64 : Z56 2 0 0 3200 = Z46 2 0 0 3200 := zu_ne hZ56 (by omega)
  have t65 : Z56 2 0 0 3500 = Z46 2 0 0 3500 := zu_ne hZ56 (by omega)
  have hZ56K := zK_u hZ46K hZ56 (by decide)
  intro μ9 e9
  replace e9 := e9.trans (zm_wI (Z := Z46) (ν := ν) hZ56 (show ((0 : Nat) : Int) = 0 from rfl) (show ((0 : Nat) : Int) = 0 from rfl) (i3I (y := (205 + 20 * (Z 2 0 0 102))) (i3A (i3A (show (200 : Int32) = i3 200 from rfl) (i3M (show (20 : Int32) = i3 20 from rfl) (rfl : i3 (Z 2 0 0 102) = i3 (Z 2 0 0 102)))) (show (5 : Int32) = i3 5 from rfl)) (by omega) (by omega) (by omega)) (rfl : i3 a5 = i3 a5))
  subst e9
  refine wz_i0 (i3O (n := 4400) (i3A (i3A (show (200 : Int32) = i3 200 from rfl) (i3M (show (20 : Int32) = i3 20 from rfl) (rfl : i3 (Z 2 0 0 102) = i3 (Z 2 0 0 102)))) (show (7 : Int32) = i3 7 from rfl)) (by omega) (by omega) (by omega)) ?_
  obtain ⟨Z66, hZ66⟩ := zx (zu Z56 2 0 0 (207 + 20 * (Z 2 0 0 102)) a4)
  replace hP := zl_e hP hZ66
  have hZ66I := zI_u hZ56I hZ66 (lo := 0) (hi := 2000) (by decide) (zs_200_7 (x := (Z 2 0 0 102)) (by omega) (by omega) (by omega)) (by omega) ⟨by decide, by decide⟩ (Or.inl (by decide))
  have t67 : Z66 2 0 0 102 = Z56 2 0 0 102 := zu_ne hZ66 (by omega)
  have t68 : Z66 2 0 0 100 = Z56 2 0 0 100 := zu_ne hZ66 (by omega)
  have t69 : Z66 2 0 0 101 = Z56 2 0 0 101 := zu_ne hZ66 (by omega)
  have t70 : Z66 2 0 0 1200 = Z56 2 0 0 1200 := zu_ne hZ66 (by omega)
  have t71 : Z66 2 0 0 1400 = Z56 2 0 0 1400 := zu_ne hZ66 (by omega)
  have t72 : Z66 2 0 0 1401 = Z56 2 0 0 1401 := zu_ne hZ66 (by omega)
  have t73 : Z66 2 0 0 3000 = Z56 2 0 0 3000 := zu_ne hZ66 (by omega)
  have t74 : Z66 2 0 0 3200 = Z56 2 0 0 3200 := zu_ne hZ66 (by omega)
  have t75 : Z66 2 0 0 3500 = Z56 2 0 0 3500 := zu_ne hZ66 (by omega)
  have hZ66K := zK_u hZ56K hZ66 (by decide)
  intro μ9 e9
  replace e9 := e9.trans (zm_wI (Z := Z56) (ν := ν) hZ66 (show ((0 : Nat) : Int) = 0 from rfl) (show ((0 : Nat) : Int) = 0 from rfl) (i3I (y := (207 + 20 * (Z 2 0 0 102))) (i3A (i3A (show (200 : Int32) = i3 200 from rfl) (i3M (show (20 : Int32) = i3 20 from rfl) (rfl : i3 (Z 2 0 0 102) = i3 (Z 2 0 0 102)))) (show (7 : Int32) = i3 7 from rfl)) (by omega) (by omega) (by omega)) (rfl : i3 a4 = i3 a4))
  subst e9
  refine wz_i0 (i3O (n := 4400) (i3A (i3A (show (200 : Int32) = i3 200 from rfl) (i3M (show (20 : Int32) = i3 20 from rfl) (rfl : i3 (Z 2 0 0 102) = i3 (Z 2 0 0 102)))) (show (9 : Int32) = i3 9 from rfl)) (by omega) (by omega) (by omega)) ?_
  obtain ⟨Z76, hZ76⟩ := zx (zu Z66 2 0 0 (209 + 20 * (Z 2 0 0 102)) a6)
  replace hP := zl_e hP hZ76
  have hZ76I := zI_u hZ66I hZ76 (lo := -1) (hi := 3) (by decide) (zs_200_9 (x := (Z 2 0 0 102)) (by omega) (by omega) (by omega)) (by omega) ⟨by decide, by decide⟩ (Or.inl (by decide))
  have t77 : Z76 2 0 0 102 = Z66 2 0 0 102 := zu_ne hZ76 (by omega)
  have t78 : Z76 2 0 0 100 = Z66 2 0 0 100 := zu_ne hZ76 (by omega)
  have t79 : Z76 2 0 0 101 = Z66 2 0 0 101 := zu_ne hZ76 (by omega)
  have t80 : Z76 2 0 0 1200 = Z66 2 0 0 1200 := zu_ne hZ76 (by omega)
  have t81 : Z76 2 0 0 1400 = Z66 2 0 0 1400 := zu_ne hZ76 (by omega)
  have t82 : Z76 2 0 0 1401 = Z66 2 0 0 1401 := zu_ne hZ76 (by omega)
  have t83 : Z76 2 0 0 3000 = Z66 2 0 0 3000 := zu_ne hZ76 (by omega)
  have t84 : Z76 2 0 0 3200 = Z66 2 0 0 3200 := zu_ne hZ76 (by omega)
  have t85 : Z76 2 0 0 3500 = Z66 2 0 0 3500 := zu_ne hZ76 (by omega)
  have hZ76K := zK_u hZ66K hZ76 (by decide)
  intro μ9 e9
  replace e9 := e9.trans (zm_wI (Z := Z66) (ν := ν) hZ76 (show ((0 : Nat) : Int) = 0 from rfl) (show ((0 : Nat) : Int) = 0 from rfl) (i3I (y := (209 + 20 * (Z 2 0 0 102))) (i3A (i3A (show (200 : Int32) = i3 200 from rfl) (i3M (show (20 : Int32) = i3 20 from rfl) (rfl : i3 (Z 2 0 0 102) = i3 (Z 2 0 0 102)))) (show (9 : Int32) = i3 9 from rfl)) (by omega) (by omega) (by omega)) (rfl : i3 a6 = i3 a6))
  subst e9
  refine wz_i0 (i3O (n := 4400) (i3A (i3A (show (200 : Int32) = i3 200 from rfl) (i3M (show (20 : Int32) = i3 20 from rfl) (rfl : i3 (Z 2 0 0 102) = i3 (Z 2 0 0 102)))) (show (11 : Int32) = i3 11 from rfl)) (by omega) (by omega) (by omega)) ?_
  obtain ⟨Z86, hZ86⟩ := zx (zu Z76 2 0 0 (211 + 20 * (Z 2 0 0 102)) 6)
  replace hP := zl_e hP hZ86
  have hZ86I := zI_u hZ76I hZ86 (lo := -1) (hi := 6) (by decide) (zs_200_11 (x := (Z 2 0 0 102)) (by omega) (by omega) (by omega)) (by omega) ⟨by decide, by decide⟩ (Or.inl (by decide))
  have t87 : Z86 2 0 0 102 = Z76 2 0 0 102 := zu_ne hZ86 (by omega)
  have t88 : Z86 2 0 0 100 = Z76 2 0 0 100 := zu_ne hZ86 (by omega)
  have t89 : Z86 2 0 0 101 = Z76 2 0 0 101 := zu_ne hZ86 (by omega)
  have t90 : Z86 2 0 0 1200 = Z76 2 0 0 1200 := zu_ne hZ86 (by omega)
  have t91 : Z86 2 0 0 1400 = Z76 2 0 0 1400 := zu_ne hZ86 (by omega)
  have t92 : Z86 2 0 0 1401 = Z76 2 0 0 1401 := zu_ne hZ86 (by omega)
  have t93 : Z86 2 0 0 3000 = Z76 2 0 0 3000 := zu_ne hZ86 (by omega)
  have t94 : Z86 2 0 0 3200 = Z76 2 0 0 3200 := zu_ne hZ86 (by omega)
  have t95 : Z86 2 0 0 3500 = Z76 2 0 0 3500 := zu_ne hZ86 (by omega)
  have hZ86K := zK_u hZ76K hZ86 (by decide)
  intro μ9 e9
  replace e9 := e9.trans (zm_wI (Z := Z76) (ν := ν) hZ86 (show ((0 : Nat) : Int) = 0 from rfl) (show ((0 : Nat) : Int) = 0 from rfl) (i3I (y := (211 + 20 * (Z 2 0 0 102))) (i3A (i3A (show (200 : Int32) = i3 200 from rfl) (i3M (show (20 : Int32) = i3 20 from rfl) (rfl : i3 (Z 2 0 0 102) = i3 (Z 2 0 0 102)))) (show (11 : Int32) = i3 11 from rfl)) (by omega) (by omega) (by omega)) (show (6 : Int32) = i3 6 from rfl))
  subst e9
  refine wz_i0 (i3O (n := 4400) (i3A (i3A (show (200 : Int32) = i3 200 from rfl) (i3M (show (20 : Int32) = i3 20 from rfl) (rfl : i3 (Z 2 0 0 102) = i3 (Z 2 0 0 102)))) (show (13 : Int32) = i3 13 from rfl)) (by omega) (by omega) (by omega)) ?_
  obtain ⟨Z96, hZ96⟩ := zx (zu Z86 2 0 0 (213 + 20 * (Z 2 0 0 102)) (-1))
  replace hP := zl_e hP hZ96
  have hZ96I := zI_u hZ86I hZ96 (lo := -1) (hi := 20) (by decide) (zs_200_13 (x := (Z 2 0 0 102)) (by omega) (by omega) (by omega)) (by omega) ⟨by decide, by decide⟩ (Or.inl (by decide))
  have t97 : Z96 2 0 0 102 = Z86 2 0 0 102 := zu_ne hZ96 (by omega)
  have t98 : Z96 2 0 0 100 = Z86 2 0 0 100 := zu_ne hZ96 (by omega)
  have t99 : Z96 2 0 0 101 = Z86 2 0 0 101 := zu_ne hZ96 (by omega)
  have t100 : Z96 2 0 0 1200 = Z86 2 0 0 1200 := zu_ne hZ96 (by omega)
  have t101 : Z96 2 0 0 1400 = Z86 2 0 0 1400 := zu_ne hZ96 (by omega)
  have t102 : Z96 2 0 0 1401 = Z86 2 0 0 1401 := zu_ne hZ96 (by omega)
  have t103 : Z96 2 0 0 3000 = Z86 2 0 0 3000 := zu_ne hZ96 (by omega)
  have t104 : Z96 2 0 0 3200 = Z86 2 0 0 3200 := zu_ne hZ96 (by omega)
  have t105 : Z96 2 0 0 3500 = Z86 2 0 0 3500 := zu_ne hZ96 (by omega)
  have hZ96K := zK_u hZ86K hZ96 (by decide)
  intro μ9 e9
  replace e9 := e9.trans (zm_wI (Z := Z86) (ν := ν) hZ96 (show ((0 : Nat) : Int) = 0 from rfl) (show ((0 : Nat) : Int) = 0 from rfl) (i3I (y := (213 + 20 * (Z 2 0 0 102))) (i3A (i3A (show (200 : Int32) = i3 200 from rfl) (i3M (show (20 : Int32) = i3 20 from rfl) (rfl : i3 (Z 2 0 0 102) = i3 (Z 2 0 0 102)))) (show (13 : Int32) = i3 13 from rfl)) (by omega) (by omega) (by omega)) (show (-1 : Int32) = i3 (-1) from rfl))
  subst e9
  have r106 := zI_k hZ96I 2 0 0 102 (lo := 0) (hi := 48) (by decide) rfl
  obtain ⟨Z107, hZ107⟩ := zx (zu Z96 2 0 0 102 ((Z96 2 0 0 102) + 1))
  replace hP := zl_e hP hZ107
  have hZ107I := zI_u hZ96I hZ107 (lo := 0) (hi := 48) (by decide) rfl (by omega) ⟨by decide, by decide⟩ (Or.inl (by decide))
  have t108 := zu_at hZ107
  have t109 : Z107 2 0 0 100 = Z96 2 0 0 100 := zu_ne hZ107 (fun q => absurd q.2.2.2 (by decide))
  have t110 : Z107 2 0 0 101 = Z96 2 0 0 101 := zu_ne hZ107 (fun q => absurd q.2.2.2 (by decide))
  have t111 : Z107 2 0 0 1200 = Z96 2 0 0 1200 := zu_ne hZ107 (fun q => absurd q.2.2.2 (by decide))
  have t112 : Z107 2 0 0 1400 = Z96 2 0 0 1400 := zu_ne hZ107 (fun q => absurd q.2.2.2 (by decide))
  have t113 : Z107 2 0 0 1401 = Z96 2 0 0 1401 := zu_ne hZ107 (fun q => absurd q.2.2.2 (by decide))
  have t114 : Z107 2 0 0 3000 = Z96 2 0 0 3000 := zu_ne hZ107 (fun q => absurd q.2.2.2 (by decide))
  have t115 : Z107 2 0 0 3200 = Z96 2 0 0 3200 := zu_ne hZ107 (fun q => absurd q.2.2.2 (by decide))
  have t116 : Z107 2 0 0 3500 = Z96 2 0 0 3500 := zu_ne hZ107 (fun q => absurd q.2.2.2 (by decide))
  have hZ107K := zK_u hZ96K hZ107 (by decide)
  intro μ9 e9
  replace e9 := e9.trans (zm_wI (Z := Z96) (ν := ν) hZ107 (show ((0 : Nat) : Int) = 0 from rfl) (show ((0 : Nat) : Int) = 0 from rfl) (show ((102 : Nat) : Int) = 102 from rfl) (i3A (zm_rd (Z := Z96) (ν := ν) (k := 2) (show ((0 : Nat) : Int) = 0 from rfl) (show ((0 : Nat) : Int) = 0 from rfl) (show ((102 : Nat) : Int) = 102 from rfl)) (show (1 : Int32) = i3 1 from rfl)))
  subst e9
  exact zlW hP (rfl : i3 (Z 2 0 0 102) = i3 (Z 2 0 0 102)) ⟨hZ107I, hZ107K, by omega, by omega, by omega, by omega, by omega, by omega, by omega, by omega, by omega, by omega, by omega⟩

/- yX12_dSeason -/
def zl_328_1 (x1 : Int) (x2 : Int) : Nat → qz_Z → Int → qz_Z × Int
  | 0, Z, x3 => (Z, x3)
  | m + 1, Z, x3 => (if x2 ≤ x3 then (Z, x3) else (zlet (zu Z 1 0 0 3 (((25173 * (Z 1 0 0 3)) + 13849) % 65536)) (fun Z3 => (zlet (zu Z3 1 0 0 3 (((25173 * (Z3 1 0 0 3)) + 13849) % 65536)) (fun Z15 => (zlet (zu Z15 1 0 0 3 (((25173 * (Z15 1 0 0 3)) + 13849) % 65536)) (fun Z27 => (zlet (zu Z27 1 0 0 3 (((25173 * (Z27 1 0 0 3)) + 13849) % 65536)) (fun Z39 => (zlet (zu Z39 1 0 0 3 (((25173 * (Z39 1 0 0 3)) + 13849) % 65536)) (fun Z51 => (zlet (zu Z51 2 0 0 (110 + 5 * (Z51 2 0 0 100)) (1 + (((Z3 1 0 0 3) / 16) % 9))) (fun Z62 => (zlet (zu Z62 2 0 0 (111 + 5 * (Z51 2 0 0 100)) (((Z15 1 0 0 3) / 16) % 13)) (fun Z72 => (zlet (zu Z72 2 0 0 (112 + 5 * (Z51 2 0 0 100)) (((Z27 1 0 0 3) / 16) % 13)) (fun Z82 => (zlet (zu Z82 2 0 0 (113 + 5 * (Z51 2 0 0 100)) (100 + (((Z39 1 0 0 3) / 16) % 501))) (fun Z92 => (zlet (zu Z92 2 0 0 (114 + 5 * (Z51 2 0 0 100)) (10 + (((Z51 1 0 0 3) / 16) % 90))) (fun Z104 => (zlet (zu Z104 2 0 0 100 ((Z104 2 0 0 100) + 1)) (fun Z115 => zl_328_1 x1 x2 m Z115 (x3 + 1))))))))))))))))))))))))
theorem sl_328_1 {s : zS} {Zs Z : qz_Z} {ν : qz_N} (hZ : zI s Z) (hK : zK [1, 2] Zs Z) {x1 : Int} (gx1 : 1 ≤ x1 ∧ x1 ≤ 12) {x2 : Int} (gx2 : 2 ≤ x2 ∧ x2 ≤ 5) {x3 : Int} (gx3 : 0 ≤ x3 ∧ x3 ≤ 5) {kc0 : Int} {kc1 : Int} {kc2 : Int} {kc3 : Int} {kc4 : Int} {kc5 : Int} {kc6 : Int} {kc7 : Int} (gr0 : Z 2 0 0 100 = x3) (gr1 : x3 ≤ x2) (gr2 : Z 2 0 0 101 = kc0) (gr3 : Z 2 0 0 102 = kc1) (gr4 : Z 2 0 0 1200 = kc2) (gr5 : Z 2 0 0 1400 = kc3) (gr6 : Z 2 0 0 1401 = kc4) (gr7 : Z 2 0 0 3000 = kc5) (gr8 : Z 2 0 0 3200 = kc6) (gr9 : Z 2 0 0 3500 = kc7) {k : wz_K} {R : wz_R} {L : qz_L} (hL : qz_fg [true, true, true, true, false, false, false, false, false, false] L = [some (.inr (.inr (some (1, 0, 0)))), some (.inl (i3 x1)), some (.inl (i3 x2)), some (.inl (i3 x3)), none, none, none, none, none, none]) {T : qz_Z × Int} (hP : zE T (zl_328_1 x1 x2 ((5 - x3).toNat + 1) Z x3)) (hk : ∀ (L9 : qz_L) (Z9 : qz_Z) (yx3 : Int), qz_fg [true, true, true, false, false, false, false, false, false, false] L9 = [some (.inr (.inr (some (1, 0, 0)))), some (.inl (i3 x1)), some (.inl (i3 x2)), none, none, none, none, none, none, none] → zI s Z9 → zK [1, 2] Zs Z9 → (0 ≤ yx3 ∧ yx3 ≤ 5) → (Z9 2 0 0 100 = yx3) → (yx3 ≤ x2) → (Z9 2 0 0 101 = kc0) → (Z9 2 0 0 102 = kc1) → (Z9 2 0 0 1200 = kc2) → (Z9 2 0 0 1400 = kc3) → (Z9 2 0 0 1401 = kc4) → (Z9 2 0 0 3000 = kc5) → (Z9 2 0 0 3200 = kc6) → (Z9 2 0 0 3500 = kc7) → (x2 ≤ yx3) → zE T ((Z9, yx3)) → k 0 (L9, [], zm Z9 ν)) : wz_loop qb_328_1 65536 k R (L, [], zm Z ν) := by
  refine wz_lp sb_328_1 (fun m x => ∃ Z : qz_Z, ∃ x3 : Int, qz_fg [true, true, true, true, false, false, false, false, false, false] x.1 = [some (.inr (.inr (some (1, 0, 0)))), some (.inl (i3 x1)), some (.inl (i3 x2)), some (.inl (i3 x3)), none, none, none, none, none, none] ∧ x.2 = ([], zm Z ν) ∧ zI s Z ∧ zK [1, 2] Zs Z ∧ m = (5 - x3).toNat ∧ (0 ≤ x3 ∧ x3 ≤ 5) ∧ (Z 2 0 0 100 = x3) ∧ (x3 ≤ x2) ∧ (Z 2 0 0 101 = kc0) ∧ (Z 2 0 0 102 = kc1) ∧ (Z 2 0 0 1200 = kc2) ∧ (Z 2 0 0 1400 = kc3) ∧ (Z 2 0 0 1401 = kc4) ∧ (Z 2 0 0 3000 = kc5) ∧ (Z 2 0 0 3200 = kc6) ∧ (Z 2 0 0 3500 = kc7) ∧ zE T (zl_328_1 x1 x2 (m + 1) Z x3)) ?_ 65536 ((5 - x3).toNat) _ (by omega) ⟨Z, x3, hL, rfl, hZ, hK, rfl, gx3, gr0, gr1, gr2, gr3, gr4, gr5, gr6, gr7, gr8, gr9, hP⟩
  clear hP gr0 gr1 gr2 gr3 gr4 gr5 gr6 gr7 gr8 gr9 gx3 hZ hK hL
  clear x3
  clear Z
  rintro m ⟨L, st, μ⟩ ⟨Z, x3, hL, hx, hZ, hK, hm, gx3, gr0, gr1, gr2, gr3, gr4, gr5, gr6, gr7, gr8, gr9, hP⟩
  cases hx
  refine fb_328_1 (i3 x1) (i3 x2) (i3 x3) _ _ _ _ hL ?_
  refine wz_br (i3Le (rfl : i3 x2 = i3 x2) (rfl : i3 x3 = i3 x3) (by omega) (by omega) (by omega) (by omega)) (fun h1 => ?_) (fun h1 => ?_)
  · replace hP := zE_p hP h1
    exact hk _ _ _ (zconso rfl (zconso (zvo (rfl : i3 x1 = i3 x1)) (zconso (zvo (rfl : i3 x2 = i3 x2)) (zconso rfl (zconso rfl (zconso rfl (zconso rfl (zconso rfl (zconso rfl (zconso rfl rfl)))))))))) hZ hK (by omega) (by omega) (by omega) (by omega) (by omega) (by omega) (by omega) (by omega) (by omega) (by omega) (by omega) (by omega) hP
  · replace hP := zE_n hP h1
    have r2 := zI_k hZ 1 0 0 3 (lo := 0) (hi := 65535) (by decide) rfl
    obtain ⟨Z3, hZ3⟩ := zx (zu Z 1 0 0 3 (((25173 * (Z 1 0 0 3)) + 13849) % 65536))
    replace hP := zl_e hP hZ3
    have hZ3I := zI_u hZ hZ3 (lo := 0) (hi := 65535) (by decide) rfl (by omega) ⟨by decide, by decide⟩ (Or.inr (by decide))
    have t4 : Z3 2 0 0 101 = Z 2 0 0 101 := zu_ne hZ3 (fun q => absurd q.1 (by decide))
    have t5 : Z3 2 0 0 102 = Z 2 0 0 102 := zu_ne hZ3 (fun q => absurd q.1 (by decide))
    have t6 : Z3 2 0 0 1200 = Z 2 0 0 1200 := zu_ne hZ3 (fun q => absurd q.1 (by decide))
    have t7 : Z3 2 0 0 1400 = Z 2 0 0 1400 := zu_ne hZ3 (fun q => absurd q.1 (by decide))
    have t8 : Z3 2 0 0 1401 = Z 2 0 0 1401 := zu_ne hZ3 (fun q => absurd q.1 (by decide))
    have t9 : Z3 2 0 0 3000 = Z 2 0 0 3000 := zu_ne hZ3 (fun q => absurd q.1 (by decide))
    have t10 : Z3 2 0 0 3200 = Z 2 0 0 3200 := zu_ne hZ3 (fun q => absurd q.1 (by decide))
    have t11 : Z3 2 0 0 3500 = Z 2 0 0 3500 := zu_ne hZ3 (fun q => absurd q.1 (by decide))
    have t12 : Z3 2 0 0 100 = Z 2 0 0 100 := zu_ne hZ3 (fun q => absurd q.1 (by decide))
    have hZ3K := zK_u hK hZ3 (by decide)
    intro μ9 e9
    replace e9 := e9.trans (zm_wI (Z := Z) (ν := ν) hZ3 (show ((0 : Nat) : Int) = 0 from rfl) (show ((0 : Nat) : Int) = 0 from rfl) (show ((3 : Nat) : Int) = 3 from rfl) (i3R (i3A (i3M (show (25173 : Int32) = i3 25173 from rfl) (zm_rd (Z := Z) (ν := ν) (k := 1) (show ((0 : Nat) : Int) = 0 from rfl) (show ((0 : Nat) : Int) = 0 from rfl) (show ((3 : Nat) : Int) = 3 from rfl))) (show (13849 : Int32) = i3 13849 from rfl)) (show (65536 : Int32) = i3 65536 from rfl) (by omega) (by omega) (by omega) (by omega)))
    subst e9
    have r13 := zI_k hZ3I 1 0 0 3 (lo := 0) (hi := 65535) (by decide) rfl
    have q14 := zu_at hZ3
    obtain ⟨Z15, hZ15⟩ := zx (zu Z3 1 0 0 3 (((25173 * (Z3 1 0 0 3)) + 13849) % 65536))
    replace hP := zl_e hP hZ15
    have hZ15I := zI_u hZ3I hZ15 (lo := 0) (hi := 65535) (by decide) rfl (by omega) ⟨by decide, by decide⟩ (Or.inr (by decide))
    have t16 : Z15 2 0 0 101 = Z3 2 0 0 101 := zu_ne hZ15 (fun q => absurd q.1 (by decide))
    have t17 : Z15 2 0 0 102 = Z3 2 0 0 102 := zu_ne hZ15 (fun q => absurd q.1 (by decide))
    have t18 : Z15 2 0 0 1200 = Z3 2 0 0 1200 := zu_ne hZ15 (fun q => absurd q.1 (by decide))
    have t19 : Z15 2 0 0 1400 = Z3 2 0 0 1400 := zu_ne hZ15 (fun q => absurd q.1 (by decide))
    have t20 : Z15 2 0 0 1401 = Z3 2 0 0 1401 := zu_ne hZ15 (fun q => absurd q.1 (by decide))
    have t21 : Z15 2 0 0 3000 = Z3 2 0 0 3000 := zu_ne hZ15 (fun q => absurd q.1 (by decide))
    have t22 : Z15 2 0 0 3200 = Z3 2 0 0 3200 := zu_ne hZ15 (fun q => absurd q.1 (by decide))
    have t23 : Z15 2 0 0 3500 = Z3 2 0 0 3500 := zu_ne hZ15 (fun q => absurd q.1 (by decide))
    have t24 : Z15 2 0 0 100 = Z3 2 0 0 100 := zu_ne hZ15 (fun q => absurd q.1 (by decide))
    have hZ15K := zK_u hZ3K hZ15 (by decide)
    intro μ9 e9
    replace e9 := e9.trans (zm_wI (Z := Z3) (ν := ν) hZ15 (show ((0 : Nat) : Int) = 0 from rfl) (show ((0 : Nat) : Int) = 0 from rfl) (show ((3 : Nat) : Int) = 3 from rfl) (i3R (i3A (i3M (show (25173 : Int32) = i3 25173 from rfl) (zm_rd (Z := Z3) (ν := ν) (k := 1) (show ((0 : Nat) : Int) = 0 from rfl) (show ((0 : Nat) : Int) = 0 from rfl) (show ((3 : Nat) : Int) = 3 from rfl))) (show (13849 : Int32) = i3 13849 from rfl)) (show (65536 : Int32) = i3 65536 from rfl) (by omega) (by omega) (by omega) (by omega)))
    subst e9
    have r25 := zI_k hZ15I 1 0 0 3 (lo := 0) (hi := 65535) (by decide) rfl
    have q26 := zu_at hZ15
    obtain ⟨Z27, hZ27⟩ := zx (zu Z15 1 0 0 3 (((25173 * (Z15 1 0 0 3)) + 13849) % 65536))
    replace hP := zl_e hP hZ27
    have hZ27I := zI_u hZ15I hZ27 (lo := 0) (hi := 65535) (by decide) rfl (by omega) ⟨by decide, by decide⟩ (Or.inr (by decide))
    have t28 : Z27 2 0 0 101 = Z15 2 0 0 101 := zu_ne hZ27 (fun q => absurd q.1 (by decide))
    have t29 : Z27 2 0 0 102 = Z15 2 0 0 102 := zu_ne hZ27 (fun q => absurd q.1 (by decide))
    have t30 : Z27 2 0 0 1200 = Z15 2 0 0 1200 := zu_ne hZ27 (fun q => absurd q.1 (by decide))
    have t31 : Z27 2 0 0 1400 = Z15 2 0 0 1400 := zu_ne hZ27 (fun q => absurd q.1 (by decide))
    have t32 : Z27 2 0 0 1401 = Z15 2 0 0 1401 := zu_ne hZ27 (fun q => absurd q.1 (by decide))
    have t33 : Z27 2 0 0 3000 = Z15 2 0 0 3000 := zu_ne hZ27 (fun q => absurd q.1 (by decide))
    have t34 : Z27 2 0 0 3200 = Z15 2 0 0 3200 := zu_ne hZ27 (fun q => absurd q.1 (by decide))
    have t35 : Z27 2 0 0 3500 = Z15 2 0 0 3500 := zu_ne hZ27 (fun q => absurd q.1 (by decide))
    have t36 : Z27 2 0 0 100 = Z15 2 0 0 100 := zu_ne hZ27 (fun q => absurd q.1 (by decide))
    have hZ27K := zK_u hZ15K hZ27 (by decide)
    intro μ9 e9
    replace e9 := e9.trans (zm_wI (Z := Z15) (ν := ν) hZ27 (show ((0 : Nat) : Int) = 0 from rfl) (show ((0 : Nat) : Int) = 0 from rfl) (show ((3 : Nat) : Int) = 3 from rfl) (i3R (i3A (i3M (show (25173 : Int32) = i3 25173 from rfl) (zm_rd (Z := Z15) (ν := ν) (k := 1) (show ((0 : Nat) : Int) = 0 from rfl) (show ((0 : Nat) : Int) = 0 from rfl) (show ((3 : Nat) : Int) = 3 from rfl))) (show (13849 : Int32) = i3 13849 from rfl)) (show (65536 : Int32) = i3 65536 from rfl) (by omega) (by omega) (by omega) (by omega)))
    subst e9
    have r37 := zI_k hZ27I 1 0 0 3 (lo := 0) (hi := 65535) (by decide) rfl
    have q38 := zu_at hZ27
    obtain ⟨Z39, hZ39⟩ := zx (zu Z27 1 0 0 3 (((25173 * (Z27 1 0 0 3)) + 13849) % 65536))
    replace hP := zl_e hP hZ39
    have hZ39I := zI_u hZ27I hZ39 (lo := 0) (hi := 65535) (by decide) rfl (by omega) ⟨by decide, by decide⟩ (Or.inr (by decide))
    have t40 : Z39 2 0 0 101 = Z27 2 0 0 101 := zu_ne hZ39 (fun q => absurd q.1 (by decide))
    have t41 : Z39 2 0 0 102 = Z27 2 0 0 102 := zu_ne hZ39 (fun q => absurd q.1 (by decide))
    have t42 : Z39 2 0 0 1200 = Z27 2 0 0 1200 := zu_ne hZ39 (fun q => absurd q.1 (by decide))
    have t43 : Z39 2 0 0 1400 = Z27 2 0 0 1400 := zu_ne hZ39 (fun q => absurd q.1 (by decide))
    have t44 : Z39 2 0 0 1401 = Z27 2 0 0 1401 := zu_ne hZ39 (fun q => absurd q.1 (by decide))
    have t45 : Z39 2 0 0 3000 = Z27 2 0 0 3000 := zu_ne hZ39 (fun q => absurd q.1 (by decide))
    have t46 : Z39 2 0 0 3200 = Z27 2 0 0 3200 := zu_ne hZ39 (fun q => absurd q.1 (by decide))
    have t47 : Z39 2 0 0 3500 = Z27 2 0 0 3500 := zu_ne hZ39 (fun q => absurd q.1 (by decide))
    have t48 : Z39 2 0 0 100 = Z27 2 0 0 100 := zu_ne hZ39 (fun q => absurd q.1 (by decide))
    have hZ39K := zK_u hZ27K hZ39 (by decide)
    intro μ9 e9
    replace e9 := e9.trans (zm_wI (Z := Z27) (ν := ν) hZ39 (show ((0 : Nat) : Int) = 0 from rfl) (show ((0 : Nat) : Int) = 0 from rfl) (show ((3 : Nat) : Int) = 3 from rfl) (i3R (i3A (i3M (show (25173 : Int32) = i3 25173 from rfl) (zm_rd (Z := Z27) (ν := ν) (k := 1) (show ((0 : Nat) : Int) = 0 from rfl) (show ((0 : Nat) : Int) = 0 from rfl) (show ((3 : Nat) : Int) = 3 from rfl))) (show (13849 : Int32) = i3 13849 from rfl)) (show (65536 : Int32) = i3 65536 from rfl) (by omega) (by omega) (by omega) (by omega)))
    subst e9
    have r49 := zI_k hZ39I 1 0 0 3 (lo := 0) (hi := 65535) (by decide) rfl
    have q50 := zu_at hZ39
    obtain ⟨Z51, hZ51⟩ := zx (zu Z39 1 0 0 3 (((25173 * (Z39 1 0 0 3)) + 13849) % 65536))
    replace hP := zl_e hP hZ51
    have hZ51I := zI_u hZ39I hZ51 (lo := 0) (hi := 65535) (by decide) rfl (by omega) ⟨by decide, by decide⟩ (Or.inr (by decide))
    have t52 : Z51 2 0 0 101 = Z39 2 0 0 101 := zu_ne hZ51 (fun q => absurd q.1 (by decide))
    have t53 : Z51 2 0 0 102 = Z39 2 0 0 102 := zu_ne hZ51 (fun q => absurd q.1 (by decide))
    have t54 : Z51 2 0 0 1200 = Z39 2 0 0 1200 := zu_ne hZ51 (fun q => absurd q.1 (by decide))
    have t55 : Z51 2 0 0 1400 = Z39 2 0 0 1400 := zu_ne hZ51 (fun q => absurd q.1 (by decide))
    have t56 : Z51 2 0 0 1401 = Z39 2 0 0 1401 := zu_ne hZ51 (fun q => absurd q.1 (by decide))
    have t57 : Z51 2 0 0 3000 = Z39 2 0 0 3000 := zu_ne hZ51 (fun q => absurd q.1 (by decide))
    have t58 : Z51 2 0 0 3200 = Z39 2 0 0 3200 := zu_ne hZ51 (fun q => absurd q.1 (by decide))
    have t59 : Z51 2 0 0 3500 = Z39 2 0 0 3500 := zu_ne hZ51 (fun q => absurd q.1 (by decide))
    have t60 : Z51 2 0 0 100 = Z39 2 0 0 100 := zu_ne hZ51 (fun q => absurd q.1 (by decide))
    have hZ51K := zK_u hZ39K hZ51 (by decide)
    intro μ9 e9
    replace e9 := e9.trans (zm_wI (Z := Z39) (ν := ν) hZ51 (show ((0 : Nat) : Int) = 0 from rfl) (show ((0 : Nat) : Int) = 0 from rfl) (show ((3 : Nat) : Int) = 3 from rfl) (i3R (i3A (i3M (show (25173 : Int32) = i3 25173 from rfl) (zm_rd (Z := Z39) (ν := ν) (k := 1) (show ((0 : Nat) : Int) = 0 from rfl) (show ((0 : Nat) : Int) = 0 from rfl) (show ((3 : Nat) : Int) = 3 from rfl))) (show (13849 : Int32) = i3 13849 from rfl)) (show (65536 : Int32) = i3 65536 from rfl) (by omega) (by omega) (by omega) (by omega)))
    subst e9
    have r61 := zI_k hZ51I 2 0 0 100 (lo := 0) (hi := 5) (by decide) rfl
    refine wz_i0 (i3O (n := 4400) (i3A (show (110 : Int32) = i3 110 from rfl) (i3M (show (5 : Int32) = i3 5 from rfl) (zm_rd (Z := Z51) (ν := ν) (k := 2) (show ((0 : Nat) : Int) = 0 from rfl) (show ((0 : Nat) : Int) = 0 from rfl) (show ((100 : Nat) : Int) = 100 from rfl)))) (by omega) (by omega) (by omega)) ?_
    obtain ⟨Z62, hZ62⟩ := zx (zu Z51 2 0 0 (110 + 5 * (Z51 2 0 0 100)) (1 + (((Z3 1 0 0 3) / 16) % 9)))
    replace hP := zl_e hP hZ62
    have hZ62I := zI_u hZ51I hZ62 (lo := 0) (hi := 9) (by decide) (zs_110_0 (x := (Z51 2 0 0 100)) (by omega) (by omega) (by omega)) (by omega) ⟨by decide, by decide⟩ (Or.inl (by decide))
    have t63 : Z62 2 0 0 101 = Z51 2 0 0 101 := zu_ne hZ62 (by omega)
    have t64 : Z62 2 0 0 102 = Z51 2 0 0 102 := zu_ne hZ62 (by omega)
    have t65 : Z62 2 0 0 1200 = Z51 2 0 0 1200 := zu_ne hZ62 (by omega)
    have t66 : Z62 2 0 0 1400 = Z51 2 0 0 1400 := zu_ne hZ62 (by omega)
    have t67 : Z62 2 0 0 1401 = Z51 2 0 0 1401 := zu_ne hZ62 (by omega)
    have t68 : Z62 2 0 0 3000 = Z51 2 0 0 3000 := zu_ne hZ62 (by omega)
    have t69 : Z62 2 0 0 3200 = Z51 2 0 0 3200 := zu_ne hZ62 (by omega)
    have t70 : Z62 2 0 0 3500 = Z51 2 0 0 3500 := zu_ne hZ62 (by omega)
    have t71 : Z62 2 0 0 100 = Z51 2 0 0 100 := zu_ne hZ62 (by omega)
    have hZ62K := zK_u hZ51K hZ62 (by decide)
    intro μ9 e9
    replace e9 := e9.trans (zm_wI (Z := Z51) (ν := ν) hZ62 (show ((0 : Nat) : Int) = 0 from rfl) (show ((0 : Nat) : Int) = 0 from rfl) (i3I (y := (110 + 5 * (Z51 2 0 0 100))) (i3A (show (110 : Int32) = i3 110 from rfl) (i3M (show (5 : Int32) = i3 5 from rfl) (zm_rd (Z := Z51) (ν := ν) (k := 2) (show ((0 : Nat) : Int) = 0 from rfl) (show ((0 : Nat) : Int) = 0 from rfl) (show ((100 : Nat) : Int) = 100 from rfl)))) (by omega) (by omega) (by omega)) (i3A (show (1 : Int32) = i3 1 from rfl) (i3R (i3D (zm_rd (Z := Z3) (ν := ν) (k := 1) (show ((0 : Nat) : Int) = 0 from rfl) (show ((0 : Nat) : Int) = 0 from rfl) (show ((3 : Nat) : Int) = 3 from rfl)) (show (16 : Int32) = i3 16 from rfl) (by omega) (by omega) (by omega) (by omega)) (show (9 : Int32) = i3 9 from rfl) (by omega) (by omega) (by omega) (by omega))))
    subst e9
    refine wz_i0 (i3O (n := 4400) (i3A (i3A (show (110 : Int32) = i3 110 from rfl) (i3M (show (5 : Int32) = i3 5 from rfl) (zm_rd (Z := Z51) (ν := ν) (k := 2) (show ((0 : Nat) : Int) = 0 from rfl) (show ((0 : Nat) : Int) = 0 from rfl) (show ((100 : Nat) : Int) = 100 from rfl)))) (show (1 : Int32) = i3 1 from rfl)) (by omega) (by omega) (by omega)) ?_
    obtain ⟨Z72, hZ72⟩ := zx (zu Z62 2 0 0 (111 + 5 * (Z51 2 0 0 100)) (((Z15 1 0 0 3) / 16) % 13))
    replace hP := zl_e hP hZ72
    have hZ72I := zI_u hZ62I hZ72 (lo := 0) (hi := 12) (by decide) (zs_110_1 (x := (Z51 2 0 0 100)) (by omega) (by omega) (by omega)) (by omega) ⟨by decide, by decide⟩ (Or.inl (by decide))
    have t73 : Z72 2 0 0 101 = Z62 2 0 0 101 := zu_ne hZ72 (by omega)
    have t74 : Z72 2 0 0 102 = Z62 2 0 0 102 := zu_ne hZ72 (by omega)
    have t75 : Z72 2 0 0 1200 = Z62 2 0 0 1200 := zu_ne hZ72 (by omega)
    have t76 : Z72 2 0 0 1400 = Z62 2 0 0 1400 := zu_ne hZ72 (by omega)
    have t77 : Z72 2 0 0 1401 = Z62 2 0 0 1401 := zu_ne hZ72 (by omega)
    have t78 : Z72 2 0 0 3000 = Z62 2 0 0 3000 := zu_ne hZ72 (by omega)
    have t79 : Z72 2 0 0 3200 = Z62 2 0 0 3200 := zu_ne hZ72 (by omega)
    have t80 : Z72 2 0 0 3500 = Z62 2 0 0 3500 := zu_ne hZ72 (by omega)
    have t81 : Z72 2 0 0 100 = Z62 2 0 0 100 := zu_ne hZ72 (by omega)
    have hZ72K := zK_u hZ62K hZ72 (by decide)
    intro μ9 e9
    replace e9 := e9.trans (zm_wI (Z := Z62) (ν := ν) hZ72 (show ((0 : Nat) : Int) = 0 from rfl) (show ((0 : Nat) : Int) = 0 from rfl) (i3I (y := (111 + 5 * (Z51 2 0 0 100))) (i3A (i3A (show (110 : Int32) = i3 110 from rfl) (i3M (show (5 : Int32) = i3 5 from rfl) (zm_rd (Z := Z51) (ν := ν) (k := 2) (show ((0 : Nat) : Int) = 0 from rfl) (show ((0 : Nat) : Int) = 0 from rfl) (show ((100 : Nat) : Int) = 100 from rfl)))) (show (1 : Int32) = i3 1 from rfl)) (by omega) (by omega) (by omega)) (i3R (i3D (zm_rd (Z := Z15) (ν := ν) (k := 1) (show ((0 : Nat) : Int) = 0 from rfl) (show ((0 : Nat) : Int) = 0 from rfl) (show ((3 : Nat) : Int) = 3 from rfl)) (show (16 : Int32) = i3 16 from rfl) (by omega) (by omega) (by omega) (by omega)) (show (13 : Int32) = i3 13 from rfl) (by omega) (by omega) (by omega) (by omega)))
    subst e9
    refine wz_i0 (i3O (n := 4400) (i3A (i3A (show (110 : Int32) = i3 110 from rfl) (i3M (show (5 : Int32) = i3 5 from rfl) (zm_rd (Z := Z51) (ν := ν) (k := 2) (show ((0 : Nat) : Int) = 0 from rfl) (show ((0 : Nat) : Int) = 0 from rfl) (show ((100 : Nat) : Int) = 100 from rfl)))) (show (2 : Int32) = i3 2 from rfl)) (by omega) (by omega) (by omega)) ?_
    obtain ⟨Z82, hZ82⟩ := zx (zu Z72 2 0 0 (112 + 5 * (Z51 2 0 0 100)) (((Z27 1 0 0 3) / 16) % 13))
    replace hP := zl_e hP hZ82
    have hZ82I := zI_u hZ72I hZ82 (lo := 0) (hi := 12) (by decide) (zs_110_2 (x := (Z51 2 0 0 100)) (by omega) (by omega) (by omega)) (by omega) ⟨by decide, by decide⟩ (Or.inl (by decide))
    have t83 : Z82 2 0 0 101 = Z72 2 0 0 101 := zu_ne hZ82 (by omega)
    have t84 : Z82 2 0 0 102 = Z72 2 0 0 102 := zu_ne hZ82 (by omega)
    have t85 : Z82 2 0 0 1200 = Z72 2 0 0 1200 := zu_ne hZ82 (by omega)
    have t86 : Z82 2 0 0 1400 = Z72 2 0 0 1400 := zu_ne hZ82 (by omega)
    have t87 : Z82 2 0 0 1401 = Z72 2 0 0 1401 := zu_ne hZ82 (by omega)
    have t88 : Z82 2 0 0 3000 = Z72 2 0 0 3000 := zu_ne hZ82 (by omega)
    have t89 : Z82 2 0 0 3200 = Z72 2 0 0 3200 := zu_ne hZ82 (by omega)
    have t90 : Z82 2 0 0 3500 = Z72 2 0 0 3500 := zu_ne hZ82 (by omega)
    have t91 : Z82 2 0 0 100 = Z72 2 0 0 100 := zu_ne hZ82 (by omega)
    have hZ82K := zK_u hZ72K hZ82 (by decide)
    intro μ9 e9
    replace e9 := e9.trans (zm_wI (Z := Z72) (ν := ν) hZ82 (show ((0 : Nat) : Int) = 0 from rfl) (show ((0 : Nat) : Int) = 0 from rfl) (i3I (y := (112 + 5 * (Z51 2 0 0 100))) (i3A (i3A (show (110 : Int32) = i3 110 from rfl) (i3M (show (5 : Int32) = i3 5 from rfl) (zm_rd (Z := Z51) (ν := ν) (k := 2) (show ((0 : Nat) : Int) = 0 from rfl) (show ((0 : Nat) : Int) = 0 from rfl) (show ((100 : Nat) : Int) = 100 from rfl)))) (show (2 : Int32) = i3 2 from rfl)) (by omega) (by omega) (by omega)) (i3R (i3D (zm_rd (Z := Z27) (ν := ν) (k := 1) (show ((0 : Nat) : Int) = 0 from rfl) (show ((0 : Nat) : Int) = 0 from rfl) (show ((3 : Nat) : Int) = 3 from rfl)) (show (16 : Int32) = i3 16 from rfl) (by omega) (by omega) (by omega) (by omega)) (show (13 : Int32) = i3 13 from rfl) (by omega) (by omega) (by omega) (by omega)))
    subst e9
    refine wz_i0 (i3O (n := 4400) (i3A (i3A (show (110 : Int32) = i3 110 from rfl) (i3M (show (5 : Int32) = i3 5 from rfl) (zm_rd (Z := Z51) (ν := ν) (k := 2) (show ((0 : Nat) : Int) = 0 from rfl) (show ((0 : Nat) : Int) = 0 from rfl) (show ((100 : Nat) : Int) = 100 from rfl)))) (show (3 : Int32) = i3 3 from rfl)) (by omega) (by omega) (by omega)) ?_
    obtain ⟨Z92, hZ92⟩ := zx (zu Z82 2 0 0 (113 + 5 * (Z51 2 0 0 100)) (100 + (((Z39 1 0 0 3) / 16) % 501)))
    replace hP := zl_e hP hZ92
    have hZ92I := zI_u hZ82I hZ92 (lo := 0) (hi := 600) (by decide) (zs_110_3 (x := (Z51 2 0 0 100)) (by omega) (by omega) (by omega)) (by omega) ⟨by decide, by decide⟩ (Or.inl (by decide))
    have t93 : Z92 2 0 0 101 = Z82 2 0 0 101 := zu_ne hZ92 (by omega)
    have t94 : Z92 2 0 0 102 = Z82 2 0 0 102 := zu_ne hZ92 (by omega)
    have t95 : Z92 2 0 0 1200 = Z82 2 0 0 1200 := zu_ne hZ92 (by omega)
    have t96 : Z92 2 0 0 1400 = Z82 2 0 0 1400 := zu_ne hZ92 (by omega)
    have t97 : Z92 2 0 0 1401 = Z82 2 0 0 1401 := zu_ne hZ92 (by omega)
    have t98 : Z92 2 0 0 3000 = Z82 2 0 0 3000 := zu_ne hZ92 (by omega)
    have t99 : Z92 2 0 0 3200 = Z82 2 0 0 3200 := zu_ne hZ92 (by omega)
    have t100 : Z92 2 0 0 3500 = Z82 2 0 0 3500 := zu_ne hZ92 (by omega)
    have t101 : Z92 2 0 0 100 = Z82 2 0 0 100 := zu_ne hZ92 (by omega)
    have hZ92K := zK_u hZ82K hZ92 (by decide)
    intro μ9 e9
    replace e9 := e9.trans (zm_wI (Z := Z82) (ν := ν) hZ92 (show ((0 : Nat) : Int) = 0 from rfl) (show ((0 : Nat) : Int) = 0 from rfl) (i3I (y := (113 + 5 * (Z51 2 0 0 100))) (i3A (i3A (show (110 : Int32) = i3 110 from rfl) (i3M (show (5 : Int32) = i3 5 from rfl) (zm_rd (Z := Z51) (ν := ν) (k := 2) (show ((0 : Nat) : Int) = 0 from rfl) (show ((0 : Nat) : Int) = 0 from rfl) (show ((100 : Nat) : Int) = 100 from rfl)))) (show (3 : Int32) = i3 3 from rfl)) (by omega) (by omega) (by omega)) (i3A (show (100 : Int32) = i3 100 from rfl) (i3R (i3D (zm_rd (Z := Z39) (ν := ν) (k := 1) (show ((0 : Nat) : Int) = 0 from rfl) (show ((0 : Nat) : Int) = 0 from rfl) (show ((3 : Nat) : Int) = 3 from rfl)) (show (16 : Int32) = i3 16 from rfl) (by omega) (by omega) (by omega) (by omega)) (show (501 : Int32) = i3 501 from rfl) (by omega) (by omega) (by omega) (by omega))))
    subst e9
    refine wz_i0 (i3O (n := 4400) (i3A (i3A (show (110 : Int32) = i3 110 from rfl) (i3M (show (5 : Int32) = i3 5 from rfl) (zm_rd (Z := Z51) (ν := ν) (k := 2) (show ((0 : Nat) : Int) = 0 from rfl) (show ((0 : Nat) : Int) = 0 from rfl) (show ((100 : Nat) : Int) = 100 from rfl)))) (show (4 : Int32) = i3 4 from rfl)) (by omega) (by omega) (by omega)) ?_
    have r102 := zI_k hZ51I 1 0 0 3 (lo := 0) (hi := 65535) (by decide) rfl
    have q103 := zu_at hZ51
    obtain ⟨Z104, hZ104⟩ := zx (zu Z92 2 0 0 (114 + 5 * (Z51 2 0 0 100)) (10 + (((Z51 1 0 0 3) / 16) % 90)))
    replace hP := zl_e hP hZ104
    have hZ104I := zI_u hZ92I hZ104 (lo := 0) (hi := 99) (by decide) (zs_110_4 (x := (Z51 2 0 0 100)) (by omega) (by omega) (by omega)) (by omega) ⟨by decide, by decide⟩ (Or.inl (by decide))
    have t105 : Z104 2 0 0 101 = Z92 2 0 0 101 := zu_ne hZ104 (by omega)
    have t106 : Z104 2 0 0 102 = Z92 2 0 0 102 := zu_ne hZ104 (by omega)
    have t107 : Z104 2 0 0 1200 = Z92 2 0 0 1200 := zu_ne hZ104 (by omega)
    have t108 : Z104 2 0 0 1400 = Z92 2 0 0 1400 := zu_ne hZ104 (by omega)
    have t109 : Z104 2 0 0 1401 = Z92 2 0 0 1401 := zu_ne hZ104 (by omega)
    have t110 : Z104 2 0 0 3000 = Z92 2 0 0 3000 := zu_ne hZ104 (by omega)
    have t111 : Z104 2 0 0 3200 = Z92 2 0 0 3200 := zu_ne hZ104 (by omega)
    have t112 : Z104 2 0 0 3500 = Z92 2 0 0 3500 := zu_ne hZ104 (by omega)
    have t113 : Z104 2 0 0 100 = Z92 2 0 0 100 := zu_ne hZ104 (by omega)
    have hZ104K := zK_u hZ92K hZ104 (by decide)
    intro μ9 e9
    replace e9 := e9.trans (zm_wI (Z := Z92) (ν := ν) hZ104 (show ((0 : Nat) : Int) = 0 from rfl) (show ((0 : Nat) : Int) = 0 from rfl) (i3I (y := (114 + 5 * (Z51 2 0 0 100))) (i3A (i3A (show (110 : Int32) = i3 110 from rfl) (i3M (show (5 : Int32) = i3 5 from rfl) (zm_rd (Z := Z51) (ν := ν) (k := 2) (show ((0 : Nat) : Int) = 0 from rfl) (show ((0 : Nat) : Int) = 0 from rfl) (show ((100 : Nat) : Int) = 100 from rfl)))) (show (4 : Int32) = i3 4 from rfl)) (by omega) (by omega) (by omega)) (i3A (show (10 : Int32) = i3 10 from rfl) (i3R (i3D (zm_rd (Z := Z51) (ν := ν) (k := 1) (show ((0 : Nat) : Int) = 0 from rfl) (show ((0 : Nat) : Int) = 0 from rfl) (show ((3 : Nat) : Int) = 3 from rfl)) (show (16 : Int32) = i3 16 from rfl) (by omega) (by omega) (by omega) (by omega)) (show (90 : Int32) = i3 90 from rfl) (by omega) (by omega) (by omega) (by omega))))
    subst e9
    have r114 := zI_k hZ104I 2 0 0 100 (lo := 0) (hi := 5) (by decide) rfl
    obtain ⟨Z115, hZ115⟩ := zx (zu Z104 2 0 0 100 ((Z104 2 0 0 100) + 1))
    replace hP := zl_e hP hZ115
    have hZ115I := zI_u hZ104I hZ115 (lo := 0) (hi := 5) (by decide) rfl (by omega) ⟨by decide, by decide⟩ (Or.inl (by decide))
    have t116 : Z115 2 0 0 101 = Z104 2 0 0 101 := zu_ne hZ115 (fun q => absurd q.2.2.2 (by decide))
    have t117 : Z115 2 0 0 102 = Z104 2 0 0 102 := zu_ne hZ115 (fun q => absurd q.2.2.2 (by decide))
    have t118 : Z115 2 0 0 1200 = Z104 2 0 0 1200 := zu_ne hZ115 (fun q => absurd q.2.2.2 (by decide))
    have t119 : Z115 2 0 0 1400 = Z104 2 0 0 1400 := zu_ne hZ115 (fun q => absurd q.2.2.2 (by decide))
    have t120 : Z115 2 0 0 1401 = Z104 2 0 0 1401 := zu_ne hZ115 (fun q => absurd q.2.2.2 (by decide))
    have t121 : Z115 2 0 0 3000 = Z104 2 0 0 3000 := zu_ne hZ115 (fun q => absurd q.2.2.2 (by decide))
    have t122 : Z115 2 0 0 3200 = Z104 2 0 0 3200 := zu_ne hZ115 (fun q => absurd q.2.2.2 (by decide))
    have t123 : Z115 2 0 0 3500 = Z104 2 0 0 3500 := zu_ne hZ115 (fun q => absurd q.2.2.2 (by decide))
    have t124 := zu_at hZ115
    have hZ115K := zK_u hZ104K hZ115 (by decide)
    intro μ9 e9
    replace e9 := e9.trans (zm_wI (Z := Z104) (ν := ν) hZ115 (show ((0 : Nat) : Int) = 0 from rfl) (show ((0 : Nat) : Int) = 0 from rfl) (show ((100 : Nat) : Int) = 100 from rfl) (i3A (zm_rd (Z := Z104) (ν := ν) (k := 2) (show ((0 : Nat) : Int) = 0 from rfl) (show ((0 : Nat) : Int) = 0 from rfl) (show ((100 : Nat) : Int) = 100 from rfl)) (show (1 : Int32) = i3 1 from rfl)))
    subst e9
    obtain ⟨m2, rfl⟩ : ∃ m2, m = m2 + 1 := ⟨m - 1, by omega⟩
    exact wz_k1 ⟨m2, by omega, Z115, (x3 + 1), (zconso rfl (zconso (zvo (rfl : i3 x1 = i3 x1)) (zconso (zvo (rfl : i3 x2 = i3 x2)) (zconso (zvo (i3A (rfl : i3 x3 = i3 x3) (show (1 : Int32) = i3 1 from rfl))) (zconso rfl (zconso rfl (zconso rfl (zconso rfl (zconso rfl (zconso rfl rfl)))))))))), rfl, hZ115I, hZ115K, by omega, by omega, by omega, by omega, by omega, by omega, by omega, by omega, by omega, by omega, by omega, by omega,  hP⟩


/-! a season told, m (printed by season.py) -/
/- yX12_dSeason -/
def zl_328_2 (x1 : Int) (x2 : Int) (x3 : Int) : Nat → qz_Z → Int → qz_Z × Int
  | 0, Z, x4 => (Z, x4)
  | m + 1, Z, x4 => (if x3 ≤ x4 then (Z, x4) else (zlet (zu Z 1 0 0 3 (((25173 * (Z 1 0 0 3)) + 13849) % 65536)) (fun Z3 => (zlet (zu Z3 1 0 0 3 (((25173 * (Z3 1 0 0 3)) + 13849) % 65536)) (fun Z15 => (zlet (zu Z15 2 0 0 (140 + 2 * (Z15 2 0 0 101)) (((Z3 1 0 0 3) / 16) % 26)) (fun Z26 => (zlet (zu Z26 2 0 0 (141 + 2 * (Z15 2 0 0 101)) (((Z15 1 0 0 3) / 16) % 10)) (fun Z38 => (zlet (zu Z38 2 0 0 101 ((Z38 2 0 0 101) + 1)) (fun Z49 => zl_328_2 x1 x2 x3 m Z49 (x4 + 1))))))))))))
theorem sl_328_2 {s : zS} {Zs Z : qz_Z} {ν : qz_N} (hZ : zI s Z) (hK : zK [1, 2] Zs Z) {x1 : Int} (gx1 : 1 ≤ x1 ∧ x1 ≤ 12) {x2 : Int} (gx2 : 2 ≤ x2 ∧ x2 ≤ 5) {x3 : Int} (gx3 : 2 ≤ x3 ∧ x3 ≤ 6) {x4 : Int} (gx4 : 0 ≤ x4 ∧ x4 ≤ 6) {kc0 : Int} {kc1 : Int} {kc2 : Int} {kc3 : Int} {kc4 : Int} {kc5 : Int} {kc6 : Int} {kc7 : Int} (gr0 : Z 2 0 0 101 = x4) (gr1 : Z 2 0 0 100 = kc0) (gr2 : Z 2 0 0 102 = kc1) (gr3 : Z 2 0 0 1200 = kc2) (gr4 : Z 2 0 0 1400 = kc3) (gr5 : Z 2 0 0 1401 = kc4) (gr6 : Z 2 0 0 3000 = kc5) (gr7 : Z 2 0 0 3200 = kc6) (gr8 : Z 2 0 0 3500 = kc7) {k : wz_K} {R : wz_R} {L : qz_L} (hL : qz_fg [true, true, true, true, true, false, false, false, false, false] L = [some (.inr (.inr (some (1, 0, 0)))), some (.inl (i3 x1)), some (.inl (i3 x2)), some (.inl (i3 x3)), some (.inl (i3 x4)), none, none, none, none, none]) {T : qz_Z × Int} (hP : zE T (zl_328_2 x1 x2 x3 ((6 - x4).toNat + 1) Z x4)) (hk : ∀ (L9 : qz_L) (Z9 : qz_Z) (yx4 : Int), qz_fg [true, true, true, true, false, false, false, false, false, false] L9 = [some (.inr (.inr (some (1, 0, 0)))), some (.inl (i3 x1)), some (.inl (i3 x2)), some (.inl (i3 x3)), none, none, none, none, none, none] → zI s Z9 → zK [1, 2] Zs Z9 → (0 ≤ yx4 ∧ yx4 ≤ 6) → (Z9 2 0 0 101 = yx4) → (Z9 2 0 0 100 = kc0) → (Z9 2 0 0 102 = kc1) → (Z9 2 0 0 1200 = kc2) → (Z9 2 0 0 1400 = kc3) → (Z9 2 0 0 1401 = kc4) → (Z9 2 0 0 3000 = kc5) → (Z9 2 0 0 3200 = kc6) → (Z9 2 0 0 3500 = kc7) → zE T ((Z9, yx4)) → k 0 (L9, [], zm Z9 ν)) : wz_loop qb_328_2 65536 k R (L, [], zm Z ν) := by
  refine wz_lp sb_328_2 (fun m x => ∃ Z : qz_Z, ∃ x4 : Int, qz_fg [true, true, true, true, true, false, false, false, false, false] x.1 = [some (.inr (.inr (some (1, 0, 0)))), some (.inl (i3 x1)), some (.inl (i3 x2)), some (.inl (i3 x3)), some (.inl (i3 x4)), none, none, none, none, none] ∧ x.2 = ([], zm Z ν) ∧ zI s Z ∧ zK [1, 2] Zs Z ∧ m = (6 - x4).toNat ∧ (0 ≤ x4 ∧ x4 ≤ 6) ∧ (Z 2 0 0 101 = x4) ∧ (Z 2 0 0 100 = kc0) ∧ (Z 2 0 0 102 = kc1) ∧ (Z 2 0 0 1200 = kc2) ∧ (Z 2 0 0 1400 = kc3) ∧ (Z 2 0 0 1401 = kc4) ∧ (Z 2 0 0 3000 = kc5) ∧ (Z 2 0 0 3200 = kc6) ∧ (Z 2 0 0 3500 = kc7) ∧ zE T (zl_328_2 x1 x2 x3 (m + 1) Z x4)) ?_ 65536 ((6 - x4).toNat) _ (by omega) ⟨Z, x4, hL, rfl, hZ, hK, rfl, gx4, gr0, gr1, gr2, gr3, gr4, gr5, gr6, gr7, gr8, hP⟩
  clear hP gr0 gr1 gr2 gr3 gr4 gr5 gr6 gr7 gr8 gx4 hZ hK hL
  clear x4
  clear Z
  rintro m ⟨L, st, μ⟩ ⟨Z, x4, hL, hx, hZ, hK, hm, gx4, gr0, gr1, gr2, gr3, gr4, gr5, gr6, gr7, gr8, hP⟩
  cases hx
  refine fb_328_2 (i3 x1) (i3 x2) (i3 x3) (i3 x4) _ _ _ _ hL ?_
  refine wz_br (i3Le (rfl : i3 x3 = i3 x3) (rfl : i3 x4 = i3 x4) (by omega) (by omega) (by omega) (by omega)) (fun h1 => ?_) (fun h1 => ?_)
  · replace hP := zE_p hP h1
    exact hk _ _ _ (zconso rfl (zconso (zvo (rfl : i3 x1 = i3 x1)) (zconso (zvo (rfl : i3 x2 = i3 x2)) (zconso (zvo (rfl : i3 x3 = i3 x3)) (zconso rfl (zconso rfl (zconso rfl (zconso rfl (zconso rfl (zconso rfl rfl)))))))))) hZ hK (by omega) (by omega) (by omega) (by omega) (by omega) (by omega) (by omega) (by omega) (by omega) (by omega) hP
  · replace hP := zE_n hP h1
    have r2 := zI_k hZ 1 0 0 3 (lo := 0) (hi := 65535) (by decide) rfl
    obtain ⟨Z3, hZ3⟩ := zx (zu Z 1 0 0 3 (((25173 * (Z 1 0 0 3)) + 13849) % 65536))
    replace hP := zl_e hP hZ3
    have hZ3I := zI_u hZ hZ3 (lo := 0) (hi := 65535) (by decide) rfl (by omega) ⟨by decide, by decide⟩ (Or.inr (by decide))
    have t4 : Z3 2 0 0 100 = Z 2 0 0 100 := zu_ne hZ3 (fun q => absurd q.1 (by decide))
    have t5 : Z3 2 0 0 102 = Z 2 0 0 102 := zu_ne hZ3 (fun q => absurd q.1 (by decide))
    have t6 : Z3 2 0 0 1200 = Z 2 0 0 1200 := zu_ne hZ3 (fun q => absurd q.1 (by decide))
    have t7 : Z3 2 0 0 1400 = Z 2 0 0 1400 := zu_ne hZ3 (fun q => absurd q.1 (by decide))
    have t8 : Z3 2 0 0 1401 = Z 2 0 0 1401 := zu_ne hZ3 (fun q => absurd q.1 (by decide))
    have t9 : Z3 2 0 0 3000 = Z 2 0 0 3000 := zu_ne hZ3 (fun q => absurd q.1 (by decide))
    have t10 : Z3 2 0 0 3200 = Z 2 0 0 3200 := zu_ne hZ3 (fun q => absurd q.1 (by decide))
    have t11 : Z3 2 0 0 3500 = Z 2 0 0 3500 := zu_ne hZ3 (fun q => absurd q.1 (by decide))
    have t12 : Z3 2 0 0 101 = Z 2 0 0 101 := zu_ne hZ3 (fun q => absurd q.1 (by decide))
    have hZ3K := zK_u hK hZ3 (by decide)
    intro μ9 e9
    replace e9 := e9.trans (zm_wI (Z := Z) (ν := ν) hZ3 (show ((0 : Nat) : Int) = 0 from rfl) (show ((0 : Nat) : Int) = 0 from rfl) (show ((3 : Nat) : Int) = 3 from rfl) (i3R (i3A (i3M (show (25173 : Int32) = i3 25173 from rfl) (zm_rd (Z := Z) (ν := ν) (k := 1) (show ((0 : Nat) : Int) = 0 from rfl) (show ((0 : Nat) : Int) = 0 from rfl) (show ((3 : Nat) : Int) = 3 from rfl))) (show (13849 : Int32) = i3 13849 from rfl)) (show (65536 : Int32) = i3 65536 from rfl) (by omega) (by omega) (by omega) (by omega)))
    subst e9
    have r13 := zI_k hZ3I 1 0 0 3 (lo := 0) (hi := 65535) (by decide) rfl
    have q14 := zu_at hZ3
    obtain ⟨Z15, hZ15⟩ := zx (zu Z3 1 0 0 3 (((25173 * (Z3 1 0 0 3)) + 13849) % 65536))
    replace hP := zl_e hP hZ15
    have hZ15I := zI_u hZ3I hZ15 (lo := 0) (hi := 65535) (by decide) rfl (by omega) ⟨by decide, by decide⟩ (Or.inr (by decide))
    have t16 : Z15 2 0 0 100 = Z3 2 0 0 100 := zu_ne hZ15 (fun q => absurd q.1 (by decide))
    have t17 : Z15 2 0 0 102 = Z3 2 0 0 102 := zu_ne hZ15 (fun q => absurd q.1 (by decide))
    have t18 : Z15 2 0 0 1200 = Z3 2 0 0 1200 := zu_ne hZ15 (fun q => absurd q.1 (by decide))
    have t19 : Z15 2 0 0 1400 = Z3 2 0 0 1400 := zu_ne hZ15 (fun q => absurd q.1 (by decide))
    have t20 : Z15 2 0 0 1401 = Z3 2 0 0 1401 := zu_ne hZ15 (fun q => absurd q.1 (by decide))
    have t21 : Z15 2 0 0 3000 = Z3 2 0 0 3000 := zu_ne hZ15 (fun q => absurd q.1 (by decide))
    have t22 : Z15 2 0 0 3200 = Z3 2 0 0 3200 := zu_ne hZ15 (fun q => absurd q.1 (by decide))
    have t23 : Z15 2 0 0 3500 = Z3 2 0 0 3500 := zu_ne hZ15 (fun q => absurd q.1 (by decide))
    have t24 : Z15 2 0 0 101 = Z3 2 0 0 101 := zu_ne hZ15 (fun q => absurd q.1 (by decide))
    have hZ15K := zK_u hZ3K hZ15 (by decide)
    intro μ9 e9
    replace e9 := e9.trans (zm_wI (Z := Z3) (ν := ν) hZ15 (show ((0 : Nat) : Int) = 0 from rfl) (show ((0 : Nat) : Int) = 0 from rfl) (show ((3 : Nat) : Int) = 3 from rfl) (i3R (i3A (i3M (show (25173 : Int32) = i3 25173 from rfl) (zm_rd (Z := Z3) (ν := ν) (k := 1) (show ((0 : Nat) : Int) = 0 from rfl) (show ((0 : Nat) : Int) = 0 from rfl) (show ((3 : Nat) : Int) = 3 from rfl))) (show (13849 : Int32) = i3 13849 from rfl)) (show (65536 : Int32) = i3 65536 from rfl) (by omega) (by omega) (by omega) (by omega)))
    subst e9
    have r25 := zI_k hZ15I 2 0 0 101 (lo := 0) (hi := 6) (by decide) rfl
    refine wz_i0 (i3O (n := 4400) (i3A (show (140 : Int32) = i3 140 from rfl) (i3M (show (2 : Int32) = i3 2 from rfl) (zm_rd (Z := Z15) (ν := ν) (k := 2) (show ((0 : Nat) : Int) = 0 from rfl) (show ((0 : Nat) : Int) = 0 from rfl) (show ((101 : Nat) : Int) = 101 from rfl)))) (by omega) (by omega) (by omega)) ?_
    obtain ⟨Z26, hZ26⟩ := zx (zu Z15 2 0 0 (140 + 2 * (Z15 2 0 0 101)) (((Z3 1 0 0 3) / 16) % 26))
    replace hP := zl_e hP hZ26
    have hZ26I := zI_u hZ15I hZ26 (lo := 0) (hi := 25) (by decide) (zs_140_0 (x := (Z15 2 0 0 101)) (by omega) (by omega) (by omega)) (by omega) ⟨by decide, by decide⟩ (Or.inl (by decide))
    have t27 : Z26 2 0 0 100 = Z15 2 0 0 100 := zu_ne hZ26 (by omega)
    have t28 : Z26 2 0 0 102 = Z15 2 0 0 102 := zu_ne hZ26 (by omega)
    have t29 : Z26 2 0 0 1200 = Z15 2 0 0 1200 := zu_ne hZ26 (by omega)
    have t30 : Z26 2 0 0 1400 = Z15 2 0 0 1400 := zu_ne hZ26 (by omega)
    have t31 : Z26 2 0 0 1401 = Z15 2 0 0 1401 := zu_ne hZ26 (by omega)
    have t32 : Z26 2 0 0 3000 = Z15 2 0 0 3000 := zu_ne hZ26 (by omega)
    have t33 : Z26 2 0 0 3200 = Z15 2 0 0 3200 := zu_ne hZ26 (by omega)
    have t34 : Z26 2 0 0 3500 = Z15 2 0 0 3500 := zu_ne hZ26 (by omega)
    have t35 : Z26 2 0 0 101 = Z15 2 0 0 101 := zu_ne hZ26 (by omega)
    have hZ26K := zK_u hZ15K hZ26 (by decide)
    intro μ9 e9
    replace e9 := e9.trans (zm_wI (Z := Z15) (ν := ν) hZ26 (show ((0 : Nat) : Int) = 0 from rfl) (show ((0 : Nat) : Int) = 0 from rfl) (i3I (y := (140 + 2 * (Z15 2 0 0 101))) (i3A (show (140 : Int32) = i3 140 from rfl) (i3M (show (2 : Int32) = i3 2 from rfl) (zm_rd (Z := Z15) (ν := ν) (k := 2) (show ((0 : Nat) : Int) = 0 from rfl) (show ((0 : Nat) : Int) = 0 from rfl) (show ((101 : Nat) : Int) = 101 from rfl)))) (by omega) (by omega) (by omega)) (i3R (i3D (zm_rd (Z := Z3) (ν := ν) (k := 1) (show ((0 : Nat) : Int) = 0 from rfl) (show ((0 : Nat) : Int) = 0 from rfl) (show ((3 : Nat) : Int) = 3 from rfl)) (show (16 : Int32) = i3 16 from rfl) (by omega) (by omega) (by omega) (by omega)) (show (26 : Int32) = i3 26 from rfl) (by omega) (by omega) (by omega) (by omega)))
    subst e9
    refine wz_i0 (i3O (n := 4400) (i3A (i3A (show (140 : Int32) = i3 140 from rfl) (i3M (show (2 : Int32) = i3 2 from rfl) (zm_rd (Z := Z15) (ν := ν) (k := 2) (show ((0 : Nat) : Int) = 0 from rfl) (show ((0 : Nat) : Int) = 0 from rfl) (show ((101 : Nat) : Int) = 101 from rfl)))) (show (1 : Int32) = i3 1 from rfl)) (by omega) (by omega) (by omega)) ?_
    have r36 := zI_k hZ15I 1 0 0 3 (lo := 0) (hi := 65535) (by decide) rfl
    have q37 := zu_at hZ15
    obtain ⟨Z38, hZ38⟩ := zx (zu Z26 2 0 0 (141 + 2 * (Z15 2 0 0 101)) (((Z15 1 0 0 3) / 16) % 10))
    replace hP := zl_e hP hZ38
    have hZ38I := zI_u hZ26I hZ38 (lo := 0) (hi := 9) (by decide) (zs_140_1 (x := (Z15 2 0 0 101)) (by omega) (by omega) (by omega)) (by omega) ⟨by decide, by decide⟩ (Or.inl (by decide))
    have t39 : Z38 2 0 0 100 = Z26 2 0 0 100 := zu_ne hZ38 (by omega)
    have t40 : Z38 2 0 0 102 = Z26 2 0 0 102 := zu_ne hZ38 (by omega)
    have t41 : Z38 2 0 0 1200 = Z26 2 0 0 1200 := zu_ne hZ38 (by omega)
    have t42 : Z38 2 0 0 1400 = Z26 2 0 0 1400 := zu_ne hZ38 (by omega)
    have t43 : Z38 2 0 0 1401 = Z26 2 0 0 1401 := zu_ne hZ38 (by omega)
    have t44 : Z38 2 0 0 3000 = Z26 2 0 0 3000 := zu_ne hZ38 (by omega)
    have t45 : Z38 2 0 0 3200 = Z26 2 0 0 3200 := zu_ne hZ38 (by omega)
    have t46 : Z38 2 0 0 3500 = Z26 2 0 0 3500 := zu_ne hZ38 (by omega)
    have t47 : Z38 2 0 0 101 = Z26 2 0 0 101 := zu_ne hZ38 (by omega)
    have hZ38K := zK_u hZ26K hZ38 (by decide)
    intro μ9 e9
    replace e9 := e9.trans (zm_wI (Z := Z26) (ν := ν) hZ38 (show ((0 : Nat) : Int) = 0 from rfl) (show ((0 : Nat) : Int) = 0 from rfl) (i3I (y := (141 + 2 * (Z15 2 0 0 101))) (i3A (i3A (show (140 : Int32) = i3 140 from rfl) (i3M (show (2 : Int32) = i3 2 from rfl) (zm_rd (Z := Z15) (ν := ν) (k := 2) (show ((0 : Nat) : Int) = 0 from rfl) (show ((0 : Nat) : Int) = 0 from rfl) (show ((101 : Nat) : Int) = 101 from rfl)))) (show (1 : Int32) = i3 1 from rfl)) (by omega) (by omega) (by omega)) (i3R (i3D (zm_rd (Z := Z15) (ν := ν) (k := 1) (show ((0 : Nat) : Int) = 0 from rfl) (show ((0 : Nat) : Int) = 0 from rfl) (show ((3 : Nat) : Int) = 3 from rfl)) (show (16 : Int32) = i3 16 from rfl) (by omega) (by omega) (by omega) (by omega)) (show (10 : Int32) = i3 10 from rfl) (by omega) (by omega) (by omega) (by omega)))
    subst e9
    have r48 := zI_k hZ38I 2 0 0 101 (lo := 0) (hi := 6) (by decide) rfl
    obtain ⟨Z49, hZ49⟩ := zx (zu Z38 2 0 0 101 ((Z38 2 0 0 101) + 1))
    replace hP := zl_e hP hZ49
    have hZ49I := zI_u hZ38I hZ49 (lo := 0) (hi := 6) (by decide) rfl (by omega) ⟨by decide, by decide⟩ (Or.inl (by decide))
    have t50 : Z49 2 0 0 100 = Z38 2 0 0 100 := zu_ne hZ49 (fun q => absurd q.2.2.2 (by decide))
    have t51 : Z49 2 0 0 102 = Z38 2 0 0 102 := zu_ne hZ49 (fun q => absurd q.2.2.2 (by decide))
    have t52 : Z49 2 0 0 1200 = Z38 2 0 0 1200 := zu_ne hZ49 (fun q => absurd q.2.2.2 (by decide))
    have t53 : Z49 2 0 0 1400 = Z38 2 0 0 1400 := zu_ne hZ49 (fun q => absurd q.2.2.2 (by decide))
    have t54 : Z49 2 0 0 1401 = Z38 2 0 0 1401 := zu_ne hZ49 (fun q => absurd q.2.2.2 (by decide))
    have t55 : Z49 2 0 0 3000 = Z38 2 0 0 3000 := zu_ne hZ49 (fun q => absurd q.2.2.2 (by decide))
    have t56 : Z49 2 0 0 3200 = Z38 2 0 0 3200 := zu_ne hZ49 (fun q => absurd q.2.2.2 (by decide))
    have t57 : Z49 2 0 0 3500 = Z38 2 0 0 3500 := zu_ne hZ49 (fun q => absurd q.2.2.2 (by decide))
    have t58 := zu_at hZ49
    have hZ49K := zK_u hZ38K hZ49 (by decide)
    intro μ9 e9
    replace e9 := e9.trans (zm_wI (Z := Z38) (ν := ν) hZ49 (show ((0 : Nat) : Int) = 0 from rfl) (show ((0 : Nat) : Int) = 0 from rfl) (show ((101 : Nat) : Int) = 101 from rfl) (i3A (zm_rd (Z := Z38) (ν := ν) (k := 2) (show ((0 : Nat) : Int) = 0 from rfl) (show ((0 : Nat) : Int) = 0 from rfl) (show ((101 : Nat) : Int) = 101 from rfl)) (show (1 : Int32) = i3 1 from rfl)))
    subst e9
    obtain ⟨m2, rfl⟩ : ∃ m2, m = m2 + 1 := ⟨m - 1, by omega⟩
    exact wz_k1 ⟨m2, by omega, Z49, (x4 + 1), (zconso rfl (zconso (zvo (rfl : i3 x1 = i3 x1)) (zconso (zvo (rfl : i3 x2 = i3 x2)) (zconso (zvo (rfl : i3 x3 = i3 x3)) (zconso (zvo (i3A (rfl : i3 x4 = i3 x4) (show (1 : Int32) = i3 1 from rfl))) (zconso rfl (zconso rfl (zconso rfl (zconso rfl (zconso rfl rfl)))))))))), rfl, hZ49I, hZ49K, by omega, by omega, by omega, by omega, by omega, by omega, by omega, by omega, by omega, by omega, by omega,  hP⟩

/- yX12_dSeason -/
def zl_328_3 (x1 : Int) (x2 : Int) (x3 : Int) : Nat → qz_Z → Int → qz_Z × Int
  | 0, Z, x4 => (Z, x4)
  | m + 1, Z, x4 => (if x1 ≤ x4 then (Z, x4) else (zlet (zu Z 1 0 0 3 (((25173 * (Z 1 0 0 3)) + 13849) % 65536)) (fun Z3 => (zlet (zu Z3 1 0 0 3 (((25173 * (Z3 1 0 0 3)) + 13849) % 65536)) (fun Z15 => (zlet (zu Z15 1 0 0 3 (((25173 * (Z15 1 0 0 3)) + 13849) % 65536)) (fun Z27 => (zlet (zu Z27 1 0 0 3 (((25173 * (Z27 1 0 0 3)) + 13849) % 65536)) (fun Z39 => (zlet (zu Z39 1 0 0 3 (((25173 * (Z39 1 0 0 3)) + 13849) % 65536)) (fun Z52 => (zlet (zu Z52 1 0 0 3 (((25173 * (Z52 1 0 0 3)) + 13849) % 65536)) (fun Z66 => (if (((Z66 1 0 0 3) / 16) % 2) ≠ 1 then (zlet2 (zf_327 Z66 (((Z3 1 0 0 3) / 16) % x3) (((Z15 1 0 0 3) / 16) % x2) (1 + (((Z27 1 0 0 3) / 16) % 40)) (((Z39 1 0 0 3) / 16) % 301) (((Z52 1 0 0 3) / 16) % ((((1 + (((Z27 1 0 0 3) / 16) % 40)) * (10 - (Z39 2 0 0 (141 + 2 * (((Z3 1 0 0 3) / 16) % x3))))) / 10) + 1)) (-1)) (fun Z82 v81 => zl_328_3 x1 x2 x3 m Z82 (x4 + 1))) else (zlet (zu Z66 1 0 0 3 (((25173 * (Z66 1 0 0 3)) + 13849) % 65536)) (fun Z83 => (zlet2 (zf_327 Z83 (((Z3 1 0 0 3) / 16) % x3) (((Z15 1 0 0 3) / 16) % x2) (1 + (((Z27 1 0 0 3) / 16) % 40)) (((Z39 1 0 0 3) / 16) % 301) (((Z52 1 0 0 3) / 16) % ((((1 + (((Z27 1 0 0 3) / 16) % 40)) * (10 - (Z39 2 0 0 (141 + 2 * (((Z3 1 0 0 3) / 16) % x3))))) / 10) + 1)) (((Z83 1 0 0 3) / 16) % 4)) (fun Z98 v97 => zl_328_3 x1 x2 x3 m Z98 (x4 + 1)))))))))))))))))))
theorem sl_328_3 {s : zS} {Zs Z : qz_Z} {ν : qz_N} (hZ : zI s Z) (hK : zK [1, 2] Zs Z) {x1 : Int} (gx1 : 1 ≤ x1 ∧ x1 ≤ 12) {x2 : Int} (gx2 : 2 ≤ x2 ∧ x2 ≤ 5) {x3 : Int} (gx3 : 2 ≤ x3 ∧ x3 ≤ 6) {x4 : Int} (gx4 : 0 ≤ x4 ∧ x4 ≤ 12) {kc0 : Int} {kc1 : Int} {kc2 : Int} {kc3 : Int} {kc4 : Int} {kc5 : Int} {kc6 : Int} {kc7 : Int} (gr0 : Z 2 0 0 102 = x4) (gr1 : x4 ≤ x1) (gr2 : Z 2 0 0 100 = kc0) (gr3 : Z 2 0 0 101 = kc1) (gr4 : Z 2 0 0 1200 = kc2) (gr5 : Z 2 0 0 1400 = kc3) (gr6 : Z 2 0 0 1401 = kc4) (gr7 : Z 2 0 0 3000 = kc5) (gr8 : Z 2 0 0 3200 = kc6) (gr9 : Z 2 0 0 3500 = kc7) {k : wz_K} {R : wz_R} {L : qz_L} (hL : qz_fg [true, true, true, true, true, false, false, false, false, false] L = [some (.inr (.inr (some (1, 0, 0)))), some (.inl (i3 x1)), some (.inl (i3 x2)), some (.inl (i3 x3)), some (.inl (i3 x4)), none, none, none, none, none]) {T : qz_Z × Int} (hP : zE T (zl_328_3 x1 x2 x3 ((12 - x4).toNat + 1) Z x4)) (hk : ∀ (L9 : qz_L) (Z9 : qz_Z) (yx4 : Int), qz_fg [false, false, false, false, false, false, false, false, false, false] L9 = [none, none, none, none, none, none, none, none, none, none] → zI s Z9 → zK [1, 2] Zs Z9 → (0 ≤ yx4 ∧ yx4 ≤ 12) → (Z9 2 0 0 102 = yx4) → (yx4 ≤ x1) → (Z9 2 0 0 100 = kc0) → (Z9 2 0 0 101 = kc1) → (Z9 2 0 0 1200 = kc2) → (Z9 2 0 0 1400 = kc3) → (Z9 2 0 0 1401 = kc4) → (Z9 2 0 0 3000 = kc5) → (Z9 2 0 0 3200 = kc6) → (Z9 2 0 0 3500 = kc7) → (x1 ≤ yx4) → zE T ((Z9, yx4)) → k 0 (L9, [], zm Z9 ν)) : wz_loop qb_328_3 65536 k R (L, [], zm Z ν) := by
  refine wz_lp sb_328_3 (fun m x => ∃ Z : qz_Z, ∃ x4 : Int, qz_fg [true, true, true, true, true, false, false, false, false, false] x.1 = [some (.inr (.inr (some (1, 0, 0)))), some (.inl (i3 x1)), some (.inl (i3 x2)), some (.inl (i3 x3)), some (.inl (i3 x4)), none, none, none, none, none] ∧ x.2 = ([], zm Z ν) ∧ zI s Z ∧ zK [1, 2] Zs Z ∧ m = (12 - x4).toNat ∧ (0 ≤ x4 ∧ x4 ≤ 12) ∧ (Z 2 0 0 102 = x4) ∧ (x4 ≤ x1) ∧ (Z 2 0 0 100 = kc0) ∧ (Z 2 0 0 101 = kc1) ∧ (Z 2 0 0 1200 = kc2) ∧ (Z 2 0 0 1400 = kc3) ∧ (Z 2 0 0 1401 = kc4) ∧ (Z 2 0 0 3000 = kc5) ∧ (Z 2 0 0 3200 = kc6) ∧ (Z 2 0 0 3500 = kc7) ∧ zE T (zl_328_3 x1 x2 x3 (m + 1) Z x4)) ?_ 65536 ((12 - x4).toNat) _ (by omega) ⟨Z, x4, hL, rfl, hZ, hK, rfl, gx4, gr0, gr1, gr2, gr3, gr4, gr5, gr6, gr7, gr8, gr9, hP⟩
  clear hP gr0 gr1 gr2 gr3 gr4 gr5 gr6 gr7 gr8 gr9 gx4 hZ hK hL
  clear x4
  clear Z
  rintro m ⟨L, st, μ⟩ ⟨Z, x4, hL, hx, hZ, hK, hm, gx4, gr0, gr1, gr2, gr3, gr4, gr5, gr6, gr7, gr8, gr9, hP⟩
  cases hx
  refine fb_328_3 (i3 x1) (i3 x2) (i3 x3) (i3 x4) _ _ _ _ hL ?_
  refine wz_br (i3Le (rfl : i3 x1 = i3 x1) (rfl : i3 x4 = i3 x4) (by omega) (by omega) (by omega) (by omega)) (fun h1 => ?_) (fun h1 => ?_)
  · replace hP := zE_p hP h1
    exact hk _ _ _ (zconso rfl (zconso rfl (zconso rfl (zconso rfl (zconso rfl (zconso rfl (zconso rfl (zconso rfl (zconso rfl (zconso rfl rfl)))))))))) hZ hK (by omega) (by omega) (by omega) (by omega) (by omega) (by omega) (by omega) (by omega) (by omega) (by omega) (by omega) (by omega) hP
  · replace hP := zE_n hP h1
    have r2 := zI_k hZ 1 0 0 3 (lo := 0) (hi := 65535) (by decide) rfl
    obtain ⟨Z3, hZ3⟩ := zx (zu Z 1 0 0 3 (((25173 * (Z 1 0 0 3)) + 13849) % 65536))
    replace hP := zl_e hP hZ3
    have hZ3I := zI_u hZ hZ3 (lo := 0) (hi := 65535) (by decide) rfl (by omega) ⟨by decide, by decide⟩ (Or.inr (by decide))
    have t4 : Z3 2 0 0 100 = Z 2 0 0 100 := zu_ne hZ3 (fun q => absurd q.1 (by decide))
    have t5 : Z3 2 0 0 101 = Z 2 0 0 101 := zu_ne hZ3 (fun q => absurd q.1 (by decide))
    have t6 : Z3 2 0 0 1200 = Z 2 0 0 1200 := zu_ne hZ3 (fun q => absurd q.1 (by decide))
    have t7 : Z3 2 0 0 1400 = Z 2 0 0 1400 := zu_ne hZ3 (fun q => absurd q.1 (by decide))
    have t8 : Z3 2 0 0 1401 = Z 2 0 0 1401 := zu_ne hZ3 (fun q => absurd q.1 (by decide))
    have t9 : Z3 2 0 0 3000 = Z 2 0 0 3000 := zu_ne hZ3 (fun q => absurd q.1 (by decide))
    have t10 : Z3 2 0 0 3200 = Z 2 0 0 3200 := zu_ne hZ3 (fun q => absurd q.1 (by decide))
    have t11 : Z3 2 0 0 3500 = Z 2 0 0 3500 := zu_ne hZ3 (fun q => absurd q.1 (by decide))
    have t12 : Z3 2 0 0 102 = Z 2 0 0 102 := zu_ne hZ3 (fun q => absurd q.1 (by decide))
    have hZ3K := zK_u hK hZ3 (by decide)
    intro μ9 e9
    replace e9 := e9.trans (zm_wI (Z := Z) (ν := ν) hZ3 (show ((0 : Nat) : Int) = 0 from rfl) (show ((0 : Nat) : Int) = 0 from rfl) (show ((3 : Nat) : Int) = 3 from rfl) (i3R (i3A (i3M (show (25173 : Int32) = i3 25173 from rfl) (zm_rd (Z := Z) (ν := ν) (k := 1) (show ((0 : Nat) : Int) = 0 from rfl) (show ((0 : Nat) : Int) = 0 from rfl) (show ((3 : Nat) : Int) = 3 from rfl))) (show (13849 : Int32) = i3 13849 from rfl)) (show (65536 : Int32) = i3 65536 from rfl) (by omega) (by omega) (by omega) (by omega)))
    subst e9
    refine wz_i0 (i3N0 (rfl : i3 x3 = i3 x3) (by omega) (by omega) (by omega)) ?_
    have r13 := zI_k hZ3I 1 0 0 3 (lo := 0) (hi := 65535) (by decide) rfl
    have q14 := zu_at hZ3
    obtain ⟨Z15, hZ15⟩ := zx (zu Z3 1 0 0 3 (((25173 * (Z3 1 0 0 3)) + 13849) % 65536))
    replace hP := zl_e hP hZ15
    have hZ15I := zI_u hZ3I hZ15 (lo := 0) (hi := 65535) (by decide) rfl (by omega) ⟨by decide, by decide⟩ (Or.inr (by decide))
    have t16 : Z15 2 0 0 100 = Z3 2 0 0 100 := zu_ne hZ15 (fun q => absurd q.1 (by decide))
    have t17 : Z15 2 0 0 101 = Z3 2 0 0 101 := zu_ne hZ15 (fun q => absurd q.1 (by decide))
    have t18 : Z15 2 0 0 1200 = Z3 2 0 0 1200 := zu_ne hZ15 (fun q => absurd q.1 (by decide))
    have t19 : Z15 2 0 0 1400 = Z3 2 0 0 1400 := zu_ne hZ15 (fun q => absurd q.1 (by decide))
    have t20 : Z15 2 0 0 1401 = Z3 2 0 0 1401 := zu_ne hZ15 (fun q => absurd q.1 (by decide))
    have t21 : Z15 2 0 0 3000 = Z3 2 0 0 3000 := zu_ne hZ15 (fun q => absurd q.1 (by decide))
    have t22 : Z15 2 0 0 3200 = Z3 2 0 0 3200 := zu_ne hZ15 (fun q => absurd q.1 (by decide))
    have t23 : Z15 2 0 0 3500 = Z3 2 0 0 3500 := zu_ne hZ15 (fun q => absurd q.1 (by decide))
    have t24 : Z15 2 0 0 102 = Z3 2 0 0 102 := zu_ne hZ15 (fun q => absurd q.1 (by decide))
    have hZ15K := zK_u hZ3K hZ15 (by decide)
    intro μ9 e9
    replace e9 := e9.trans (zm_wI (Z := Z3) (ν := ν) hZ15 (show ((0 : Nat) : Int) = 0 from rfl) (show ((0 : Nat) : Int) = 0 from rfl) (show ((3 : Nat) : Int) = 3 from rfl) (i3R (i3A (i3M (show (25173 : Int32) = i3 25173 from rfl) (zm_rd (Z := Z3) (ν := ν) (k := 1) (show ((0 : Nat) : Int) = 0 from rfl) (show ((0 : Nat) : Int) = 0 from rfl) (show ((3 : Nat) : Int) = 3 from rfl))) (show (13849 : Int32) = i3 13849 from rfl)) (show (65536 : Int32) = i3 65536 from rfl) (by omega) (by omega) (by omega) (by omega)))
    subst e9
    refine wz_i0 (i3N0 (rfl : i3 x2 = i3 x2) (by omega) (by omega) (by omega)) ?_
    have r25 := zI_k hZ15I 1 0 0 3 (lo := 0) (hi := 65535) (by decide) rfl
    have q26 := zu_at hZ15
    obtain ⟨Z27, hZ27⟩ := zx (zu Z15 1 0 0 3 (((25173 * (Z15 1 0 0 3)) + 13849) % 65536))
    replace hP := zl_e hP hZ27
    have hZ27I := zI_u hZ15I hZ27 (lo := 0) (hi := 65535) (by decide) rfl (by omega) ⟨by decide, by decide⟩ (Or.inr (by decide))
    have t28 : Z27 2 0 0 100 = Z15 2 0 0 100 := zu_ne hZ27 (fun q => absurd q.1 (by decide))
    have t29 : Z27 2 0 0 101 = Z15 2 0 0 101 := zu_ne hZ27 (fun q => absurd q.1 (by decide))
    have t30 : Z27 2 0 0 1200 = Z15 2 0 0 1200 := zu_ne hZ27 (fun q => absurd q.1 (by decide))
    have t31 : Z27 2 0 0 1400 = Z15 2 0 0 1400 := zu_ne hZ27 (fun q => absurd q.1 (by decide))
    have t32 : Z27 2 0 0 1401 = Z15 2 0 0 1401 := zu_ne hZ27 (fun q => absurd q.1 (by decide))
    have t33 : Z27 2 0 0 3000 = Z15 2 0 0 3000 := zu_ne hZ27 (fun q => absurd q.1 (by decide))
    have t34 : Z27 2 0 0 3200 = Z15 2 0 0 3200 := zu_ne hZ27 (fun q => absurd q.1 (by decide))
    have t35 : Z27 2 0 0 3500 = Z15 2 0 0 3500 := zu_ne hZ27 (fun q => absurd q.1 (by decide))
    have t36 : Z27 2 0 0 102 = Z15 2 0 0 102 := zu_ne hZ27 (fun q => absurd q.1 (by decide))
    have hZ27K := zK_u hZ15K hZ27 (by decide)
    intro μ9 e9
    replace e9 := e9.trans (zm_wI (Z := Z15) (ν := ν) hZ27 (show ((0 : Nat) : Int) = 0 from rfl) (show ((0 : Nat) : Int) = 0 from rfl) (show ((3 : Nat) : Int) = 3 from rfl) (i3R (i3A (i3M (show (25173 : Int32) = i3 25173 from rfl) (zm_rd (Z := Z15) (ν := ν) (k := 1) (show ((0 : Nat) : Int) = 0 from rfl) (show ((0 : Nat) : Int) = 0 from rfl) (show ((3 : Nat) : Int) = 3 from rfl))) (show (13849 : Int32) = i3 13849 from rfl)) (show (65536 : Int32) = i3 65536 from rfl) (by omega) (by omega) (by omega) (by omega)))
    subst e9
    have r37 := zI_k hZ27I 1 0 0 3 (lo := 0) (hi := 65535) (by decide) rfl
    have q38 := zu_at hZ27
    obtain ⟨Z39, hZ39⟩ := zx (zu Z27 1 0 0 3 (((25173 * (Z27 1 0 0 3)) + 13849) % 65536))
    replace hP := zl_e hP hZ39
    have hZ39I := zI_u hZ27I hZ39 (lo := 0) (hi := 65535) (by decide) rfl (by omega) ⟨by decide, by decide⟩ (Or.inr (by decide))
    have t40 : Z39 2 0 0 100 = Z27 2 0 0 100 := zu_ne hZ39 (fun q => absurd q.1 (by decide))
    have t41 : Z39 2 0 0 101 = Z27 2 0 0 101 := zu_ne hZ39 (fun q => absurd q.1 (by decide))
    have t42 : Z39 2 0 0 1200 = Z27 2 0 0 1200 := zu_ne hZ39 (fun q => absurd q.1 (by decide))
    have t43 : Z39 2 0 0 1400 = Z27 2 0 0 1400 := zu_ne hZ39 (fun q => absurd q.1 (by decide))
    have t44 : Z39 2 0 0 1401 = Z27 2 0 0 1401 := zu_ne hZ39 (fun q => absurd q.1 (by decide))
    have t45 : Z39 2 0 0 3000 = Z27 2 0 0 3000 := zu_ne hZ39 (fun q => absurd q.1 (by decide))
    have t46 : Z39 2 0 0 3200 = Z27 2 0 0 3200 := zu_ne hZ39 (fun q => absurd q.1 (by decide))
    have t47 : Z39 2 0 0 3500 = Z27 2 0 0 3500 := zu_ne hZ39 (fun q => absurd q.1 (by decide))
    have t48 : Z39 2 0 0 102 = Z27 2 0 0 102 := zu_ne hZ39 (fun q => absurd q.1 (by decide))
    have hZ39K := zK_u hZ27K hZ39 (by decide)
    intro μ9 e9
    replace e9 := e9.trans (zm_wI (Z := Z27) (ν := ν) hZ39 (show ((0 : Nat) : Int) = 0 from rfl) (show ((0 : Nat) : Int) = 0 from rfl) (show ((3 : Nat) : Int) = 3 from rfl) (i3R (i3A (i3M (show (25173 : Int32) = i3 25173 from rfl) (zm_rd (Z := Z27) (ν := ν) (k := 1) (show ((0 : Nat) : Int) = 0 from rfl) (show ((0 : Nat) : Int) = 0 from rfl) (show ((3 : Nat) : Int) = 3 from rfl))) (show (13849 : Int32) = i3 13849 from rfl)) (show (65536 : Int32) = i3 65536 from rfl) (by omega) (by omega) (by omega) (by omega)))
    subst e9
    have r49 := z_mod ((Z3 1 0 0 3) / 16) (y := x3) (by omega)
    refine wz_i0 (i3O (n := 4400) (i3A (i3A (show (140 : Int32) = i3 140 from rfl) (i3M (show (2 : Int32) = i3 2 from rfl) (i3R (i3D (zm_rd (Z := Z3) (ν := ν) (k := 1) (show ((0 : Nat) : Int) = 0 from rfl) (show ((0 : Nat) : Int) = 0 from rfl) (show ((3 : Nat) : Int) = 3 from rfl)) (show (16 : Int32) = i3 16 from rfl) (by omega) (by omega) (by omega) (by omega)) (rfl : i3 x3 = i3 x3) (by omega) (by omega) (by omega) (by omega)))) (show (1 : Int32) = i3 1 from rfl)) (by omega) (by omega) (by omega)) ?_
    have r50 := zI_k hZ39I 1 0 0 3 (lo := 0) (hi := 65535) (by decide) rfl
    have q51 := zu_at hZ39
    obtain ⟨Z52, hZ52⟩ := zx (zu Z39 1 0 0 3 (((25173 * (Z39 1 0 0 3)) + 13849) % 65536))
    replace hP := zl_e hP hZ52
    have hZ52I := zI_u hZ39I hZ52 (lo := 0) (hi := 65535) (by decide) rfl (by omega) ⟨by decide, by decide⟩ (Or.inr (by decide))
    have t53 : Z52 2 0 0 100 = Z39 2 0 0 100 := zu_ne hZ52 (fun q => absurd q.1 (by decide))
    have t54 : Z52 2 0 0 101 = Z39 2 0 0 101 := zu_ne hZ52 (fun q => absurd q.1 (by decide))
    have t55 : Z52 2 0 0 1200 = Z39 2 0 0 1200 := zu_ne hZ52 (fun q => absurd q.1 (by decide))
    have t56 : Z52 2 0 0 1400 = Z39 2 0 0 1400 := zu_ne hZ52 (fun q => absurd q.1 (by decide))
    have t57 : Z52 2 0 0 1401 = Z39 2 0 0 1401 := zu_ne hZ52 (fun q => absurd q.1 (by decide))
    have t58 : Z52 2 0 0 3000 = Z39 2 0 0 3000 := zu_ne hZ52 (fun q => absurd q.1 (by decide))
    have t59 : Z52 2 0 0 3200 = Z39 2 0 0 3200 := zu_ne hZ52 (fun q => absurd q.1 (by decide))
    have t60 : Z52 2 0 0 3500 = Z39 2 0 0 3500 := zu_ne hZ52 (fun q => absurd q.1 (by decide))
    have t61 : Z52 2 0 0 102 = Z39 2 0 0 102 := zu_ne hZ52 (fun q => absurd q.1 (by decide))
    have hZ52K := zK_u hZ39K hZ52 (by decide)
    intro μ9 e9
    replace e9 := e9.trans (zm_wI (Z := Z39) (ν := ν) hZ52 (show ((0 : Nat) : Int) = 0 from rfl) (show ((0 : Nat) : Int) = 0 from rfl) (show ((3 : Nat) : Int) = 3 from rfl) (i3R (i3A (i3M (show (25173 : Int32) = i3 25173 from rfl) (zm_rd (Z := Z39) (ν := ν) (k := 1) (show ((0 : Nat) : Int) = 0 from rfl) (show ((0 : Nat) : Int) = 0 from rfl) (show ((3 : Nat) : Int) = 3 from rfl))) (show (13849 : Int32) = i3 13849 from rfl)) (show (65536 : Int32) = i3 65536 from rfl) (by omega) (by omega) (by omega) (by omega)))
    subst e9
    have r62 := zI_k hZ39I 2 0 0 (141 + 2 * (((Z3 1 0 0 3) / 16) % x3)) (lo := 0) (hi := 9) (by decide) (zs_140_1 (x := (((Z3 1 0 0 3) / 16) % x3)) (by omega) (by omega) (by omega))
    have r63 := z_mul (x := (1 + (((Z27 1 0 0 3) / 16) % 40))) (y := (10 - (Z39 2 0 0 (141 + 2 * (((Z3 1 0 0 3) / 16) % x3))))) (a := 40) (b := 10) (by omega) (by omega) (by omega) (by omega)
    refine wz_i0 (i3N0 (i3A (i3D (i3M (i3A (show (1 : Int32) = i3 1 from rfl) (i3R (i3D (zm_rd (Z := Z27) (ν := ν) (k := 1) (show ((0 : Nat) : Int) = 0 from rfl) (show ((0 : Nat) : Int) = 0 from rfl) (show ((3 : Nat) : Int) = 3 from rfl)) (show (16 : Int32) = i3 16 from rfl) (by omega) (by omega) (by omega) (by omega)) (show (40 : Int32) = i3 40 from rfl) (by omega) (by omega) (by omega) (by omega))) (i3S (show (10 : Int32) = i3 10 from rfl) (zm_rd (Z := Z39) (ν := ν) (k := 2) (show ((0 : Nat) : Int) = 0 from rfl) (show ((0 : Nat) : Int) = 0 from rfl) (i3I (y := (141 + 2 * (((Z3 1 0 0 3) / 16) % x3))) (i3A (i3A (show (140 : Int32) = i3 140 from rfl) (i3M (show (2 : Int32) = i3 2 from rfl) (i3R (i3D (zm_rd (Z := Z3) (ν := ν) (k := 1) (show ((0 : Nat) : Int) = 0 from rfl) (show ((0 : Nat) : Int) = 0 from rfl) (show ((3 : Nat) : Int) = 3 from rfl)) (show (16 : Int32) = i3 16 from rfl) (by omega) (by omega) (by omega) (by omega)) (rfl : i3 x3 = i3 x3) (by omega) (by omega) (by omega) (by omega)))) (show (1 : Int32) = i3 1 from rfl)) (by omega) (by omega) (by omega))))) (show (10 : Int32) = i3 10 from rfl) (by omega) (by omega) (by omega) (by omega)) (show (1 : Int32) = i3 1 from rfl)) (by omega) (by omega) (by omega)) ?_
    have r64 := zI_k hZ52I 1 0 0 3 (lo := 0) (hi := 65535) (by decide) rfl
    have q65 := zu_at hZ52
    obtain ⟨Z66, hZ66⟩ := zx (zu Z52 1 0 0 3 (((25173 * (Z52 1 0 0 3)) + 13849) % 65536))
    replace hP := zl_e hP hZ66
    have hZ66I := zI_u hZ52I hZ66 (lo := 0) (hi := 65535) (by decide) rfl (by omega) ⟨by decide, by decide⟩ (Or.inr (by decide))
    have t67 : Z66 2 0 0 100 = Z52 2 0 0 100 := zu_ne hZ66 (fun q => absurd q.1 (by decide))
    have t68 : Z66 2 0 0 101 = Z52 2 0 0 101 := zu_ne hZ66 (fun q => absurd q.1 (by decide))
    have t69 : Z66 2 0 0 1200 = Z52 2 0 0 1200 := zu_ne hZ66 (fun q => absurd q.1 (by decide))
    have t70 : Z66 2 0 0 1400 = Z52 2 0 0 1400 := zu_ne hZ66 (fun q => absurd q.1 (by decide))
    have t71 : Z66 2 0 0 1401 = Z52 2 0 0 1401 := zu_ne hZ66 (fun q => absurd q.1 (by decide))
    have t72 : Z66 2 0 0 3000 = Z52 2 0 0 3000 := zu_ne hZ66 (fun q => absurd q.1 (by decide))
    have t73 : Z66 2 0 0 3200 = Z52 2 0 0 3200 := zu_ne hZ66 (fun q => absurd q.1 (by decide))
    have t74 : Z66 2 0 0 3500 = Z52 2 0 0 3500 := zu_ne hZ66 (fun q => absurd q.1 (by decide))
    have t75 : Z66 2 0 0 102 = Z52 2 0 0 102 := zu_ne hZ66 (fun q => absurd q.1 (by decide))
    have hZ66K := zK_u hZ52K hZ66 (by decide)
    intro μ9 e9
    replace e9 := e9.trans (zm_wI (Z := Z52) (ν := ν) hZ66 (show ((0 : Nat) : Int) = 0 from rfl) (show ((0 : Nat) : Int) = 0 from rfl) (show ((3 : Nat) : Int) = 3 from rfl) (i3R (i3A (i3M (show (25173 : Int32) = i3 25173 from rfl) (zm_rd (Z := Z52) (ν := ν) (k := 1) (show ((0 : Nat) : Int) = 0 from rfl) (show ((0 : Nat) : Int) = 0 from rfl) (show ((3 : Nat) : Int) = 3 from rfl))) (show (13849 : Int32) = i3 13849 from rfl)) (show (65536 : Int32) = i3 65536 from rfl) (by omega) (by omega) (by omega) (by omega)))
    subst e9
    have r76 := zI_k hZ66I 1 0 0 3 (lo := 0) (hi := 65535) (by decide) rfl
    have q77 := zu_at hZ66
    refine wz_br (i3NE (i3R (i3D (zm_rd (Z := Z66) (ν := ν) (k := 1) (show ((0 : Nat) : Int) = 0 from rfl) (show ((0 : Nat) : Int) = 0 from rfl) (show ((3 : Nat) : Int) = 3 from rfl)) (show (16 : Int32) = i3 16 from rfl) (by omega) (by omega) (by omega) (by omega)) (show (2 : Int32) = i3 2 from rfl) (by omega) (by omega) (by omega) (by omega)) (show (1 : Int32) = i3 1 from rfl) (by omega) (by omega) (by omega) (by omega)) (fun h78 => ?_) (fun h78 => ?_)
    · replace hP := zE_p hP h78
      have r79 := z_mod ((Z15 1 0 0 3) / 16) (y := x2) (by omega)
      have r80 := z_mod ((Z52 1 0 0 3) / 16) (y := ((((1 + (((Z27 1 0 0 3) / 16) % 40)) * (10 - (Z39 2 0 0 (141 + 2 * (((Z3 1 0 0 3) / 16) % x3))))) / 10) + 1)) (by omega)
      obtain ⟨Z82, v81, hv81, c9, hZ82I, kZ82, lv81, uv81, wv810, wv811, wv812, wv813, wv814, wv815, wv816, wv817, wv818⟩ := sp_327 (ν := ν) hZ66I (a1 := (((Z3 1 0 0 3) / 16) % x3)) (by omega) (a2 := (((Z15 1 0 0 3) / 16) % x2)) (by omega) (a3 := (1 + (((Z27 1 0 0 3) / 16) % 40))) (by omega) (a4 := (((Z39 1 0 0 3) / 16) % 301)) (by omega) (a5 := (((Z52 1 0 0 3) / 16) % ((((1 + (((Z27 1 0 0 3) / 16) % 40)) * (10 - (Z39 2 0 0 (141 + 2 * (((Z3 1 0 0 3) / 16) % x3))))) / 10) + 1))) (by omega) (a6 := (-1)) (by omega) (by omega)
      have hZ82K : zK [1, 2] Zs Z82 := zK_t hZ66K kZ82 (by decide)
      replace hP := zl_e2 hP hv81
      refine wz_cI_of (zas (zcons rfl (zcons (zvi (i3R (i3D (zm_rd (Z := Z3) (ν := ν) (k := 1) (show ((0 : Nat) : Int) = 0 from rfl) (show ((0 : Nat) : Int) = 0 from rfl) (show ((3 : Nat) : Int) = 3 from rfl)) (show (16 : Int32) = i3 16 from rfl) (by omega) (by omega) (by omega) (by omega)) (rfl : i3 x3 = i3 x3) (by omega) (by omega) (by omega) (by omega))) (zcons (zvi (i3R (i3D (zm_rd (Z := Z15) (ν := ν) (k := 1) (show ((0 : Nat) : Int) = 0 from rfl) (show ((0 : Nat) : Int) = 0 from rfl) (show ((3 : Nat) : Int) = 3 from rfl)) (show (16 : Int32) = i3 16 from rfl) (by omega) (by omega) (by omega) (by omega)) (rfl : i3 x2 = i3 x2) (by omega) (by omega) (by omega) (by omega))) (zcons (zvi (i3A (show (1 : Int32) = i3 1 from rfl) (i3R (i3D (zm_rd (Z := Z27) (ν := ν) (k := 1) (show ((0 : Nat) : Int) = 0 from rfl) (show ((0 : Nat) : Int) = 0 from rfl) (show ((3 : Nat) : Int) = 3 from rfl)) (show (16 : Int32) = i3 16 from rfl) (by omega) (by omega) (by omega) (by omega)) (show (40 : Int32) = i3 40 from rfl) (by omega) (by omega) (by omega) (by omega)))) (zcons (zvi (i3R (i3D (zm_rd (Z := Z39) (ν := ν) (k := 1) (show ((0 : Nat) : Int) = 0 from rfl) (show ((0 : Nat) : Int) = 0 from rfl) (show ((3 : Nat) : Int) = 3 from rfl)) (show (16 : Int32) = i3 16 from rfl) (by omega) (by omega) (by omega) (by omega)) (show (301 : Int32) = i3 301 from rfl) (by omega) (by omega) (by omega) (by omega))) (zcons (zvi (i3R (i3D (zm_rd (Z := Z52) (ν := ν) (k := 1) (show ((0 : Nat) : Int) = 0 from rfl) (show ((0 : Nat) : Int) = 0 from rfl) (show ((3 : Nat) : Int) = 3 from rfl)) (show (16 : Int32) = i3 16 from rfl) (by omega) (by omega) (by omega) (by omega)) (i3A (i3D (i3M (i3A (show (1 : Int32) = i3 1 from rfl) (i3R (i3D (zm_rd (Z := Z27) (ν := ν) (k := 1) (show ((0 : Nat) : Int) = 0 from rfl) (show ((0 : Nat) : Int) = 0 from rfl) (show ((3 : Nat) : Int) = 3 from rfl)) (show (16 : Int32) = i3 16 from rfl) (by omega) (by omega) (by omega) (by omega)) (show (40 : Int32) = i3 40 from rfl) (by omega) (by omega) (by omega) (by omega))) (i3S (show (10 : Int32) = i3 10 from rfl) (zm_rd (Z := Z39) (ν := ν) (k := 2) (show ((0 : Nat) : Int) = 0 from rfl) (show ((0 : Nat) : Int) = 0 from rfl) (i3I (y := (141 + 2 * (((Z3 1 0 0 3) / 16) % x3))) (i3A (i3A (show (140 : Int32) = i3 140 from rfl) (i3M (show (2 : Int32) = i3 2 from rfl) (i3R (i3D (zm_rd (Z := Z3) (ν := ν) (k := 1) (show ((0 : Nat) : Int) = 0 from rfl) (show ((0 : Nat) : Int) = 0 from rfl) (show ((3 : Nat) : Int) = 3 from rfl)) (show (16 : Int32) = i3 16 from rfl) (by omega) (by omega) (by omega) (by omega)) (rfl : i3 x3 = i3 x3) (by omega) (by omega) (by omega) (by omega)))) (show (1 : Int32) = i3 1 from rfl)) (by omega) (by omega) (by omega))))) (show (10 : Int32) = i3 10 from rfl) (by omega) (by omega) (by omega) (by omega)) (show (1 : Int32) = i3 1 from rfl)) (by omega) (by omega) (by omega) (by omega))) (zcons (zvi (show (-1 : Int32) = i3 (-1) from rfl)) rfl))))))) c9) ?_
      clear c9 hv81
      obtain ⟨m2, rfl⟩ : ∃ m2, m = m2 + 1 := ⟨m - 1, by omega⟩
      exact wz_k1 ⟨m2, by omega, Z82, (x4 + 1), (zconso rfl (zconso (zvo (rfl : i3 x1 = i3 x1)) (zconso (zvo (rfl : i3 x2 = i3 x2)) (zconso (zvo (rfl : i3 x3 = i3 x3)) (zconso (zvo (i3A (rfl : i3 x4 = i3 x4) (show (1 : Int32) = i3 1 from rfl))) (zconso rfl (zconso rfl (zconso rfl (zconso rfl (zconso rfl rfl)))))))))), rfl, hZ82I, hZ82K, by omega, by omega, by omega, by omega, by omega, by omega, by omega, by omega, by omega, by omega, by omega, by omega,  hP⟩
    · replace hP := zE_n hP h78
      obtain ⟨Z83, hZ83⟩ := zx (zu Z66 1 0 0 3 (((25173 * (Z66 1 0 0 3)) + 13849) % 65536))
      replace hP := zl_e hP hZ83
      have hZ83I := zI_u hZ66I hZ83 (lo := 0) (hi := 65535) (by decide) rfl (by omega) ⟨by decide, by decide⟩ (Or.inr (by decide))
      have t84 : Z83 2 0 0 100 = Z66 2 0 0 100 := zu_ne hZ83 (fun q => absurd q.1 (by decide))
      have t85 : Z83 2 0 0 101 = Z66 2 0 0 101 := zu_ne hZ83 (fun q => absurd q.1 (by decide))
      have t86 : Z83 2 0 0 1200 = Z66 2 0 0 1200 := zu_ne hZ83 (fun q => absurd q.1 (by decide))
      have t87 : Z83 2 0 0 1400 = Z66 2 0 0 1400 := zu_ne hZ83 (fun q => absurd q.1 (by decide))
      have t88 : Z83 2 0 0 1401 = Z66 2 0 0 1401 := zu_ne hZ83 (fun q => absurd q.1 (by decide))
      have t89 : Z83 2 0 0 3000 = Z66 2 0 0 3000 := zu_ne hZ83 (fun q => absurd q.1 (by decide))
      have t90 : Z83 2 0 0 3200 = Z66 2 0 0 3200 := zu_ne hZ83 (fun q => absurd q.1 (by decide))
      have t91 : Z83 2 0 0 3500 = Z66 2 0 0 3500 := zu_ne hZ83 (fun q => absurd q.1 (by decide))
      have t92 : Z83 2 0 0 102 = Z66 2 0 0 102 := zu_ne hZ83 (fun q => absurd q.1 (by decide))
      have hZ83K := zK_u hZ66K hZ83 (by decide)
      intro μ9 e9
      replace e9 := e9.trans (zm_wI (Z := Z66) (ν := ν) hZ83 (show ((0 : Nat) : Int) = 0 from rfl) (show ((0 : Nat) : Int) = 0 from rfl) (show ((3 : Nat) : Int) = 3 from rfl) (i3R (i3A (i3M (show (25173 : Int32) = i3 25173 from rfl) (zm_rd (Z := Z66) (ν := ν) (k := 1) (show ((0 : Nat) : Int) = 0 from rfl) (show ((0 : Nat) : Int) = 0 from rfl) (show ((3 : Nat) : Int) = 3 from rfl))) (show (13849 : Int32) = i3 13849 from rfl)) (show (65536 : Int32) = i3 65536 from rfl) (by omega) (by omega) (by omega) (by omega)))
      subst e9
      have r93 := z_mod ((Z15 1 0 0 3) / 16) (y := x2) (by omega)
      have r94 := z_mod ((Z52 1 0 0 3) / 16) (y := ((((1 + (((Z27 1 0 0 3) / 16) % 40)) * (10 - (Z39 2 0 0 (141 + 2 * (((Z3 1 0 0 3) / 16) % x3))))) / 10) + 1)) (by omega)
      have r95 := zI_k hZ83I 1 0 0 3 (lo := 0) (hi := 65535) (by decide) rfl
      have q96 := zu_at hZ83
      obtain ⟨Z98, v97, hv97, c9, hZ98I, kZ98, lv97, uv97, wv970, wv971, wv972, wv973, wv974, wv975, wv976, wv977, wv978⟩ := sp_327 (ν := ν) hZ83I (a1 := (((Z3 1 0 0 3) / 16) % x3)) (by omega) (a2 := (((Z15 1 0 0 3) / 16) % x2)) (by omega) (a3 := (1 + (((Z27 1 0 0 3) / 16) % 40))) (by omega) (a4 := (((Z39 1 0 0 3) / 16) % 301)) (by omega) (a5 := (((Z52 1 0 0 3) / 16) % ((((1 + (((Z27 1 0 0 3) / 16) % 40)) * (10 - (Z39 2 0 0 (141 + 2 * (((Z3 1 0 0 3) / 16) % x3))))) / 10) + 1))) (by omega) (a6 := (((Z83 1 0 0 3) / 16) % 4)) (by omega) (by omega)
      have hZ98K : zK [1, 2] Zs Z98 := zK_t hZ83K kZ98 (by decide)
      replace hP := zl_e2 hP hv97
      refine wz_cI_of (zas (zcons rfl (zcons (zvi (i3R (i3D (zm_rd (Z := Z3) (ν := ν) (k := 1) (show ((0 : Nat) : Int) = 0 from rfl) (show ((0 : Nat) : Int) = 0 from rfl) (show ((3 : Nat) : Int) = 3 from rfl)) (show (16 : Int32) = i3 16 from rfl) (by omega) (by omega) (by omega) (by omega)) (rfl : i3 x3 = i3 x3) (by omega) (by omega) (by omega) (by omega))) (zcons (zvi (i3R (i3D (zm_rd (Z := Z15) (ν := ν) (k := 1) (show ((0 : Nat) : Int) = 0 from rfl) (show ((0 : Nat) : Int) = 0 from rfl) (show ((3 : Nat) : Int) = 3 from rfl)) (show (16 : Int32) = i3 16 from rfl) (by omega) (by omega) (by omega) (by omega)) (rfl : i3 x2 = i3 x2) (by omega) (by omega) (by omega) (by omega))) (zcons (zvi (i3A (show (1 : Int32) = i3 1 from rfl) (i3R (i3D (zm_rd (Z := Z27) (ν := ν) (k := 1) (show ((0 : Nat) : Int) = 0 from rfl) (show ((0 : Nat) : Int) = 0 from rfl) (show ((3 : Nat) : Int) = 3 from rfl)) (show (16 : Int32) = i3 16 from rfl) (by omega) (by omega) (by omega) (by omega)) (show (40 : Int32) = i3 40 from rfl) (by omega) (by omega) (by omega) (by omega)))) (zcons (zvi (i3R (i3D (zm_rd (Z := Z39) (ν := ν) (k := 1) (show ((0 : Nat) : Int) = 0 from rfl) (show ((0 : Nat) : Int) = 0 from rfl) (show ((3 : Nat) : Int) = 3 from rfl)) (show (16 : Int32) = i3 16 from rfl) (by omega) (by omega) (by omega) (by omega)) (show (301 : Int32) = i3 301 from rfl) (by omega) (by omega) (by omega) (by omega))) (zcons (zvi (i3R (i3D (zm_rd (Z := Z52) (ν := ν) (k := 1) (show ((0 : Nat) : Int) = 0 from rfl) (show ((0 : Nat) : Int) = 0 from rfl) (show ((3 : Nat) : Int) = 3 from rfl)) (show (16 : Int32) = i3 16 from rfl) (by omega) (by omega) (by omega) (by omega)) (i3A (i3D (i3M (i3A (show (1 : Int32) = i3 1 from rfl) (i3R (i3D (zm_rd (Z := Z27) (ν := ν) (k := 1) (show ((0 : Nat) : Int) = 0 from rfl) (show ((0 : Nat) : Int) = 0 from rfl) (show ((3 : Nat) : Int) = 3 from rfl)) (show (16 : Int32) = i3 16 from rfl) (by omega) (by omega) (by omega) (by omega)) (show (40 : Int32) = i3 40 from rfl) (by omega) (by omega) (by omega) (by omega))) (i3S (show (10 : Int32) = i3 10 from rfl) (zm_rd (Z := Z39) (ν := ν) (k := 2) (show ((0 : Nat) : Int) = 0 from rfl) (show ((0 : Nat) : Int) = 0 from rfl) (i3I (y := (141 + 2 * (((Z3 1 0 0 3) / 16) % x3))) (i3A (i3A (show (140 : Int32) = i3 140 from rfl) (i3M (show (2 : Int32) = i3 2 from rfl) (i3R (i3D (zm_rd (Z := Z3) (ν := ν) (k := 1) (show ((0 : Nat) : Int) = 0 from rfl) (show ((0 : Nat) : Int) = 0 from rfl) (show ((3 : Nat) : Int) = 3 from rfl)) (show (16 : Int32) = i3 16 from rfl) (by omega) (by omega) (by omega) (by omega)) (rfl : i3 x3 = i3 x3) (by omega) (by omega) (by omega) (by omega)))) (show (1 : Int32) = i3 1 from rfl)) (by omega) (by omega) (by omega))))) (show (10 : Int32) = i3 10 from rfl) (by omega) (by omega) (by omega) (by omega)) (show (1 : Int32) = i3 1 from rfl)) (by omega) (by omega) (by omega) (by omega))) (zcons (zvi (i3R (i3D (zm_rd (Z := Z83) (ν := ν) (k := 1) (show ((0 : Nat) : Int) = 0 from rfl) (show ((0 : Nat) : Int) = 0 from rfl) (show ((3 : Nat) : Int) = 3 from rfl)) (show (16 : Int32) = i3 16 from rfl) (by omega) (by omega) (by omega) (by omega)) (show (4 : Int32) = i3 4 from rfl) (by omega) (by omega) (by omega) (by omega))) rfl))))))) c9) ?_
      clear c9 hv97
      obtain ⟨m2, rfl⟩ : ∃ m2, m = m2 + 1 := ⟨m - 1, by omega⟩
      exact wz_k1 ⟨m2, by omega, Z98, (x4 + 1), (zconso rfl (zconso (zvo (rfl : i3 x1 = i3 x1)) (zconso (zvo (rfl : i3 x2 = i3 x2)) (zconso (zvo (rfl : i3 x3 = i3 x3)) (zconso (zvo (i3A (rfl : i3 x4 = i3 x4) (show (1 : Int32) = i3 1 from rfl))) (zconso rfl (zconso rfl (zconso rfl (zconso rfl (zconso rfl rfl)))))))))), rfl, hZ98I, hZ98K, by omega, by omega, by omega, by omega, by omega, by omega, by omega, by omega, by omega, by omega, by omega, by omega,  hP⟩

/- yX12_dSeason -/
def zf_328 (Z : qz_Z) (a1 : Int) : qz_Z := (zlet (zu Z 1 0 0 3 (((25173 * (Z 1 0 0 3)) + 13849) % 65536)) (fun Z2 => (zlet2 (zl_328_1 a1 (2 + (((Z2 1 0 0 3) / 16) % 4)) 6 Z2 0) (fun Z15 y14 => (zlet (zu Z15 1 0 0 3 (((25173 * (Z15 1 0 0 3)) + 13849) % 65536)) (fun Z18 => (zlet2 (zl_328_2 a1 (2 + (((Z2 1 0 0 3) / 16) % 4)) (2 + (((Z18 1 0 0 3) / 16) % 5)) 7 Z18 0) (fun Z31 y30 => (zlet2 (zl_328_3 a1 (2 + (((Z2 1 0 0 3) / 16) % 4)) (2 + (((Z18 1 0 0 3) / 16) % 5)) 13 Z31 0) (fun Z34 y33 => Z34))))))))))
theorem sp_328 {s : zS} {Z : qz_Z} {ν : qz_N} (hZ : zI s Z) {a1 : Int} (ga1 : 1 ≤ a1 ∧ a1 ≤ 12) (gx0 : Z 2 0 0 100 = 0) (gx1 : Z 2 0 0 101 = 0) (gx2 : Z 2 0 0 102 = 0) : ∃ P : qz_Z, P = zf_328 Z a1 ∧ (qf_328 [.inr (.inr (some (1, 0, 0))), .inl (i3 a1)] (zm Z ν) = some (zm P ν, .inl none) ∧ zI s P ∧ zK [1, 2] Z P ∧ P 2 0 0 102 = a1 ∧ 1 ≤ P 2 0 0 100 ∧ P 2 0 0 1200 = Z 2 0 0 1200 ∧ P 2 0 0 1400 = Z 2 0 0 1400 ∧ P 2 0 0 1401 = Z 2 0 0 1401 ∧ P 2 0 0 3000 = Z 2 0 0 3000 ∧ P 2 0 0 3200 = Z 2 0 0 3200 ∧ P 2 0 0 3500 = Z 2 0 0 3500) := by
  obtain ⟨P, hP⟩ := zx (zf_328 Z a1)
  refine zc_V (Q := fun P => zI s P ∧ zK [1, 2] Z P ∧ P 2 0 0 102 = a1 ∧ 1 ≤ P 2 0 0 100 ∧ P 2 0 0 1200 = Z 2 0 0 1200 ∧ P 2 0 0 1400 = Z 2 0 0 1400 ∧ P 2 0 0 1401 = Z 2 0 0 1401 ∧ P 2 0 0 3000 = Z 2 0 0 3000 ∧ P 2 0 0 3200 = Z 2 0 0 3200 ∧ P 2 0 0 3500 = Z 2 0 0 3500) hP (fw_328 (i3 a1) _ _ ?_)
  replace hP : zE P (zf_328 Z a1) := hP
  unfold zf_328 at hP
  have r1 := zI_k hZ 1 0 0 3 (lo := 0) (hi := 65535) (by decide) rfl
  obtain ⟨Z2, hZ2⟩ := zx (zu Z 1 0 0 3 (((25173 * (Z 1 0 0 3)) + 13849) % 65536))
  replace hP := zl_e hP hZ2
  have hZ2I := zI_u hZ hZ2 (lo := 0) (hi := 65535) (by decide) rfl (by omega) ⟨by decide, by decide⟩ (Or.inr (by decide))
  have t3 : Z2 2 0 0 102 = Z 2 0 0 102 := zu_ne hZ2 (fun q => absurd q.1 (by decide))
  have t4 : Z2 2 0 0 100 = Z 2 0 0 100 := zu_ne hZ2 (fun q => absurd q.1 (by decide))
  have t5 : Z2 2 0 0 101 = Z 2 0 0 101 := zu_ne hZ2 (fun q => absurd q.1 (by decide))
  have t6 : Z2 2 0 0 1200 = Z 2 0 0 1200 := zu_ne hZ2 (fun q => absurd q.1 (by decide))
  have t7 : Z2 2 0 0 1400 = Z 2 0 0 1400 := zu_ne hZ2 (fun q => absurd q.1 (by decide))
  have t8 : Z2 2 0 0 1401 = Z 2 0 0 1401 := zu_ne hZ2 (fun q => absurd q.1 (by decide))
  have t9 : Z2 2 0 0 3000 = Z 2 0 0 3000 := zu_ne hZ2 (fun q => absurd q.1 (by decide))
  have t10 : Z2 2 0 0 3200 = Z 2 0 0 3200 := zu_ne hZ2 (fun q => absurd q.1 (by decide))
  have t11 : Z2 2 0 0 3500 = Z 2 0 0 3500 := zu_ne hZ2 (fun q => absurd q.1 (by decide))
  have hZ2K : zK [1, 2] Z Z2 := zK_u zK_r hZ2 (by decide)
  intro μ9 e9
  replace e9 := e9.trans (zm_wI (Z := Z) (ν := ν) hZ2 (show ((0 : Nat) : Int) = 0 from rfl) (show ((0 : Nat) : Int) = 0 from rfl) (show ((3 : Nat) : Int) = 3 from rfl) (i3R (i3A (i3M (show (25173 : Int32) = i3 25173 from rfl) (zm_rd (Z := Z) (ν := ν) (k := 1) (show ((0 : Nat) : Int) = 0 from rfl) (show ((0 : Nat) : Int) = 0 from rfl) (show ((3 : Nat) : Int) = 3 from rfl))) (show (13849 : Int32) = i3 13849 from rfl)) (show (65536 : Int32) = i3 65536 from rfl) (by omega) (by omega) (by omega) (by omega)))
  subst e9
  have r12 := zI_k hZ2I 1 0 0 3 (lo := 0) (hi := 65535) (by decide) rfl
  have q13 := zu_at hZ2
  refine sl_328_1 (ν := ν) hZ2I zK_r (x1 := a1) (by omega) (x2 := (2 + (((Z2 1 0 0 3) / 16) % 4))) (by omega) (x3 := 0) (by omega) (kc7 := Z2 2 0 0 3500) (kc6 := Z2 2 0 0 3200) (kc5 := Z2 2 0 0 3000) (kc4 := Z2 2 0 0 1401) (kc3 := Z2 2 0 0 1400) (kc2 := Z2 2 0 0 1200) (kc1 := Z2 2 0 0 102) (kc0 := Z2 2 0 0 101) (by omega) (by omega) (by omega) (by omega) (by omega) (by omega) (by omega) (by omega) (by omega) (by omega) (zconso rfl (zconso (zvo (rfl : i3 a1 = i3 a1)) (zconso (zvo (i3A (show (2 : Int32) = i3 2 from rfl) (i3R (i3D (zm_rd (Z := Z2) (ν := ν) (k := 1) (show ((0 : Nat) : Int) = 0 from rfl) (show ((0 : Nat) : Int) = 0 from rfl) (show ((3 : Nat) : Int) = 3 from rfl)) (show (16 : Int32) = i3 16 from rfl) (by omega) (by omega) (by omega) (by omega)) (show (4 : Int32) = i3 4 from rfl) (by omega) (by omega) (by omega) (by omega)))) (zconso (zvo (show (0 : Int32) = i3 0 from rfl)) (zconso rfl (zconso rfl (zconso rfl (zconso rfl (zconso rfl (zconso rfl rfl)))))))))) rfl ?_
  intro L16 Z15 y14 hL16 hZ15I kZ15 gy14 gL16_0 gL16_1 gL16_2 gL16_3 gL16_4 gL16_5 gL16_6 gL16_7 gL16_8 gL16_9 gL16_10 q9
  replace hP := zl_e2 hP (Eq.symm q9)
  clear q9
  have hZ15K : zK [1, 2] Z Z15 := zK_t hZ2K kZ15 (by decide)
  refine fc_328_6 (i3 a1) (i3 (2 + (((Z2 1 0 0 3) / 16) % 4))) _ _ _ _ hL16 ?_
  have r17 := zI_k hZ15I 1 0 0 3 (lo := 0) (hi := 65535) (by decide) rfl
  obtain ⟨Z18, hZ18⟩ := zx (zu Z15 1 0 0 3 (((25173 * (Z15 1 0 0 3)) + 13849) % 65536))
  replace hP := zl_e hP hZ18
  have hZ18I := zI_u hZ15I hZ18 (lo := 0) (hi := 65535) (by decide) rfl (by omega) ⟨by decide, by decide⟩ (Or.inr (by decide))
  have t19 : Z18 2 0 0 102 = Z15 2 0 0 102 := zu_ne hZ18 (fun q => absurd q.1 (by decide))
  have t20 : Z18 2 0 0 100 = Z15 2 0 0 100 := zu_ne hZ18 (fun q => absurd q.1 (by decide))
  have t21 : Z18 2 0 0 101 = Z15 2 0 0 101 := zu_ne hZ18 (fun q => absurd q.1 (by decide))
  have t22 : Z18 2 0 0 1200 = Z15 2 0 0 1200 := zu_ne hZ18 (fun q => absurd q.1 (by decide))
  have t23 : Z18 2 0 0 1400 = Z15 2 0 0 1400 := zu_ne hZ18 (fun q => absurd q.1 (by decide))
  have t24 : Z18 2 0 0 1401 = Z15 2 0 0 1401 := zu_ne hZ18 (fun q => absurd q.1 (by decide))
  have t25 : Z18 2 0 0 3000 = Z15 2 0 0 3000 := zu_ne hZ18 (fun q => absurd q.1 (by decide))
  have t26 : Z18 2 0 0 3200 = Z15 2 0 0 3200 := zu_ne hZ18 (fun q => absurd q.1 (by decide))
  have t27 : Z18 2 0 0 3500 = Z15 2 0 0 3500 := zu_ne hZ18 (fun q => absurd q.1 (by decide))
  have hZ18K := zK_u hZ15K hZ18 (by decide)
  intro μ9 e9
  replace e9 := e9.trans (zm_wI (Z := Z15) (ν := ν) hZ18 (show ((0 : Nat) : Int) = 0 from rfl) (show ((0 : Nat) : Int) = 0 from rfl) (show ((3 : Nat) : Int) = 3 from rfl) (i3R (i3A (i3M (show (25173 : Int32) = i3 25173 from rfl) (zm_rd (Z := Z15) (ν := ν) (k := 1) (show ((0 : Nat) : Int) = 0 from rfl) (show ((0 : Nat) : Int) = 0 from rfl) (show ((3 : Nat) : Int) = 3 from rfl))) (show (13849 : Int32) = i3 13849 from rfl)) (show (65536 : Int32) = i3 65536 from rfl) (by omega) (by omega) (by omega) (by omega)))
  subst e9
  have r28 := zI_k hZ18I 1 0 0 3 (lo := 0) (hi := 65535) (by decide) rfl
  have q29 := zu_at hZ18
  refine sl_328_2 (ν := ν) hZ18I zK_r (x1 := a1) (by omega) (x2 := (2 + (((Z2 1 0 0 3) / 16) % 4))) (by omega) (x3 := (2 + (((Z18 1 0 0 3) / 16) % 5))) (by omega) (x4 := 0) (by omega) (kc7 := Z18 2 0 0 3500) (kc6 := Z18 2 0 0 3200) (kc5 := Z18 2 0 0 3000) (kc4 := Z18 2 0 0 1401) (kc3 := Z18 2 0 0 1400) (kc2 := Z18 2 0 0 1200) (kc1 := Z18 2 0 0 102) (kc0 := Z18 2 0 0 100) (by omega) (by omega) (by omega) (by omega) (by omega) (by omega) (by omega) (by omega) (by omega) (zconso rfl (zconso (zvo (rfl : i3 a1 = i3 a1)) (zconso (zvo (rfl : i3 (2 + (((Z2 1 0 0 3) / 16) % 4)) = i3 (2 + (((Z2 1 0 0 3) / 16) % 4)))) (zconso (zvo (i3A (show (2 : Int32) = i3 2 from rfl) (i3R (i3D (zm_rd (Z := Z18) (ν := ν) (k := 1) (show ((0 : Nat) : Int) = 0 from rfl) (show ((0 : Nat) : Int) = 0 from rfl) (show ((3 : Nat) : Int) = 3 from rfl)) (show (16 : Int32) = i3 16 from rfl) (by omega) (by omega) (by omega) (by omega)) (show (5 : Int32) = i3 5 from rfl) (by omega) (by omega) (by omega) (by omega)))) (zconso (zvo (show (0 : Int32) = i3 0 from rfl)) (zconso rfl (zconso rfl (zconso rfl (zconso rfl (zconso rfl rfl)))))))))) rfl ?_
  intro L32 Z31 y30 hL32 hZ31I kZ31 gy30 gL32_0 gL32_1 gL32_2 gL32_3 gL32_4 gL32_5 gL32_6 gL32_7 gL32_8 q9
  replace hP := zl_e2 hP (Eq.symm q9)
  clear q9
  have hZ31K : zK [1, 2] Z Z31 := zK_t hZ18K kZ31 (by decide)
  refine fc_328_5 (i3 a1) (i3 (2 + (((Z2 1 0 0 3) / 16) % 4))) (i3 (2 + (((Z18 1 0 0 3) / 16) % 5))) _ _ _ _ hL32 ?_
  refine sl_328_3 (ν := ν) hZ31I zK_r (x1 := a1) (by omega) (x2 := (2 + (((Z2 1 0 0 3) / 16) % 4))) (by omega) (x3 := (2 + (((Z18 1 0 0 3) / 16) % 5))) (by omega) (x4 := 0) (by omega) (kc7 := Z31 2 0 0 3500) (kc6 := Z31 2 0 0 3200) (kc5 := Z31 2 0 0 3000) (kc4 := Z31 2 0 0 1401) (kc3 := Z31 2 0 0 1400) (kc2 := Z31 2 0 0 1200) (kc1 := Z31 2 0 0 101) (kc0 := Z31 2 0 0 100) (by omega) (by omega) (by omega) (by omega) (by omega) (by omega) (by omega) (by omega) (by omega) (by omega) (zconso rfl (zconso (zvo (rfl : i3 a1 = i3 a1)) (zconso (zvo (rfl : i3 (2 + (((Z2 1 0 0 3) / 16) % 4)) = i3 (2 + (((Z2 1 0 0 3) / 16) % 4)))) (zconso (zvo (rfl : i3 (2 + (((Z18 1 0 0 3) / 16) % 5)) = i3 (2 + (((Z18 1 0 0 3) / 16) % 5)))) (zconso (zvo (show (0 : Int32) = i3 0 from rfl)) (zconso rfl (zconso rfl (zconso rfl (zconso rfl (zconso rfl rfl)))))))))) rfl ?_
  intro L35 Z34 y33 hL35 hZ34I kZ34 gy33 gL35_0 gL35_1 gL35_2 gL35_3 gL35_4 gL35_5 gL35_6 gL35_7 gL35_8 gL35_9 gL35_10 q9
  replace hP := zl_e2 hP (Eq.symm q9)
  clear q9
  have hZ34K : zK [1, 2] Z Z34 := zK_t hZ31K kZ34 (by decide)
  refine fc_328_4  _ _ _ _ hL35 ?_
  exact zlV hP ⟨hZ34I, hZ34K, by omega, by omega, by omega, by omega, by omega, by omega, by omega, by omega⟩

