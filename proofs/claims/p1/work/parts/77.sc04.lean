/-! a season told, the class (printed by season.py c) -/
/- yX8_tellStores -/
def zf_150 (Z : qz_Z) (sn hb : Int) : qz_Z := (zlet (zu Z 200 sn 0 2 (((25173 * (Z 200 sn 0 2)) + 13849) % 65536)) (fun Z2 => (zlet2 (zl_150_1 sn hb (((Z2 200 sn 0 2) / 16) % 5) 5 Z2 0) (fun Z15 y14 => (zlet2 (zl_150_2 sn hb (((Z2 200 sn 0 2) / 16) % 5) 29 Z15 0) (fun Z18 y17 => (zlet2 (zl_150_3 sn hb (((Z2 200 sn 0 2) / 16) % 5) 49 Z18 0) (fun Z21 y20 => Z21))))))))
theorem sp_150 {Z : qz_Z} {ν : qz_N} {sn : Nat} (hZ : zI (some (some (sn : Int))) Z) (hb : Nat) (tsn : ∀ Z, qz_tag (zm Z ν) (200, sn, 0) = 2) (rsn : ∀ Z, qz_rm (zm Z ν) 200 sn 0 0 = some (10, hb, 0)) (gx0 : Z 11 hb 0 2 = 0) (gx1 : 1 ≤ (sn : Int)) : ∃ P : qz_Z, P = zf_150 Z sn hb ∧ (qf_150 [.inr (.inr (some (200, sn, 0)))] (zm Z ν) = some (zm P ν, .inl none) ∧ zI (some (some (sn : Int))) P ∧ zK [11, 12, 43, 44, 200] Z P ∧ P 11 hb 0 3 = Z 11 hb 0 3 ∧ P 11 hb 0 4 = Z 11 hb 0 4 ∧ P 11 hb 0 5 = Z 11 hb 0 5 ∧ P 11 hb 0 7 = Z 11 hb 0 7 ∧ P 11 hb 0 8 = Z 11 hb 0 8 ∧ P 11 hb 0 9 = Z 11 hb 0 9 ∧ P 200 0 0 1 = Z 200 0 0 1 ∧ P 200 0 0 2 = Z 200 0 0 2) := by
  obtain ⟨P, hP⟩ := zx (zf_150 Z sn hb)
  refine zc_V (Q := fun P => zI (some (some (sn : Int))) P ∧ zK [11, 12, 43, 44, 200] Z P ∧ P 11 hb 0 3 = Z 11 hb 0 3 ∧ P 11 hb 0 4 = Z 11 hb 0 4 ∧ P 11 hb 0 5 = Z 11 hb 0 5 ∧ P 11 hb 0 7 = Z 11 hb 0 7 ∧ P 11 hb 0 8 = Z 11 hb 0 8 ∧ P 11 hb 0 9 = Z 11 hb 0 9 ∧ P 200 0 0 1 = Z 200 0 0 1 ∧ P 200 0 0 2 = Z 200 0 0 2) hP (fw_150 sn _ _ ?_)
  replace hP : zE P (zf_150 Z sn hb) := hP
  unfold zf_150 at hP
  have rs := zI_xs (n := sn) hZ
  refine wz_i1 (by rw [tsn]; rfl) ?_
  refine wz_i1 (by rw [tsn]; rfl) ?_
  refine wz_i1 (by rw [tsn]; rfl) ?_
  have r1 := zI_xr (n := sn) hZ
  obtain ⟨Z2, hZ2⟩ := zx (zu Z 200 sn 0 2 (((25173 * (Z 200 sn 0 2)) + 13849) % 65536))
  replace hP := zl_e hP hZ2
  have hZ2I := zI_x hZ hZ2 (by omega)
  have t3 : Z2 11 hb 0 3 = Z 11 hb 0 3 := zu_ne hZ2 (fun q => absurd q.1 (by decide))
  have t4 : Z2 11 hb 0 2 = Z 11 hb 0 2 := zu_ne hZ2 (fun q => absurd q.1 (by decide))
  have t5 : Z2 11 hb 0 4 = Z 11 hb 0 4 := zu_ne hZ2 (fun q => absurd q.1 (by decide))
  have t6 : Z2 11 hb 0 5 = Z 11 hb 0 5 := zu_ne hZ2 (fun q => absurd q.1 (by decide))
  have t7 : Z2 11 hb 0 7 = Z 11 hb 0 7 := zu_ne hZ2 (fun q => absurd q.1 (by decide))
  have t8 : Z2 11 hb 0 8 = Z 11 hb 0 8 := zu_ne hZ2 (fun q => absurd q.1 (by decide))
  have t9 : Z2 11 hb 0 9 = Z 11 hb 0 9 := zu_ne hZ2 (fun q => absurd q.1 (by decide))
  have t10 : Z2 200 0 0 1 = Z 200 0 0 1 := zu_ne hZ2 (fun q => absurd q.2.2.2 (by decide))
  have t11 : Z2 200 0 0 2 = Z 200 0 0 2 := zu_ne hZ2 (by omega)
  have hZ2K : zK [11, 12, 43, 44, 200] Z Z2 := zK_u zK_r hZ2 (by decide)
  intro μ9 e9
  replace e9 := e9.trans (zm_wI (Z := Z) (ν := ν) hZ2 (rfl : ((sn : Nat) : Int) = sn) (show ((0 : Nat) : Int) = 0 from rfl) (show ((2 : Nat) : Int) = 2 from rfl) (i3R (i3A (i3M (show (25173 : Int32) = i3 25173 from rfl) (zm_rd (Z := Z) (ν := ν) (k := 200) (rfl : ((sn : Nat) : Int) = sn) (show ((0 : Nat) : Int) = 0 from rfl) (show ((2 : Nat) : Int) = 2 from rfl))) (show (13849 : Int32) = i3 13849 from rfl)) (show (65536 : Int32) = i3 65536 from rfl) (by omega) (by omega) (by omega) (by omega)))
  subst e9
  refine wz_i1 (by rw [tsn]; rfl) ?_
  have r12 := zI_xr (n := sn) hZ2I
  have q13 := zu_at hZ2
  refine sl_150_1 (ν := ν) sn hZ2I zK_r hb tsn rsn (x1 := (((Z2 200 sn 0 2) / 16) % 5)) (by omega) (x2 := 0) (by omega) (kc7 := Z2 200 0 0 2) (kc6 := Z2 200 0 0 1) (kc5 := Z2 11 hb 0 9) (kc4 := Z2 11 hb 0 8) (kc3 := Z2 11 hb 0 7) (kc2 := Z2 11 hb 0 5) (kc1 := Z2 11 hb 0 4) (kc0 := Z2 11 hb 0 3) (by omega) (by omega) (by omega) (by omega) (by omega) (by omega) (by omega) (by omega) (by omega) (by omega) (zconso rfl (zconso (zvo (i3R (i3D (zm_rd (Z := Z2) (ν := ν) (k := 200) (rfl : ((sn : Nat) : Int) = sn) (show ((0 : Nat) : Int) = 0 from rfl) (show ((2 : Nat) : Int) = 2 from rfl)) (show (16 : Int32) = i3 16 from rfl) (by omega) (by omega) (by omega) (by omega)) (show (5 : Int32) = i3 5 from rfl) (by omega) (by omega) (by omega) (by omega))) (zconso (zvo (show (0 : Int32) = i3 0 from rfl)) (zconso rfl rfl)))) rfl ?_
  intro L16 Z15 y14 hL16 hZ15I kZ15 gy14 gL16_0 gL16_1 gL16_2 gL16_3 gL16_4 gL16_5 gL16_6 gL16_7 gL16_8 gL16_9 q9
  replace hP := zl_e2 hP (Eq.symm q9)
  clear q9
  have hZ15K : zK [11, 12, 43, 44, 200] Z Z15 := zK_t hZ2K kZ15 (by decide)
  refine fc_150_6 _ (i3 (((Z2 200 sn 0 2) / 16) % 5)) _ _ _ _ hL16 ?_
  refine sl_150_2 (ν := ν) sn hZ15I zK_r hb tsn rsn (x1 := (((Z2 200 sn 0 2) / 16) % 5)) (by omega) (x2 := 0) (by omega) (kc7 := Z15 200 0 0 2) (kc6 := Z15 200 0 0 1) (kc5 := Z15 11 hb 0 9) (kc4 := Z15 11 hb 0 8) (kc3 := Z15 11 hb 0 7) (kc2 := Z15 11 hb 0 5) (kc1 := Z15 11 hb 0 4) (kc0 := Z15 11 hb 0 3) (by omega) (by omega) (by omega) (by omega) (by omega) (by omega) (by omega) (by omega) (by omega) (zconso rfl (zconso (zvo (rfl : i3 (((Z2 200 sn 0 2) / 16) % 5) = i3 (((Z2 200 sn 0 2) / 16) % 5))) (zconso (zvo (show (0 : Int32) = i3 0 from rfl)) (zconso rfl rfl)))) rfl ?_
  intro L19 Z18 y17 hL19 hZ18I kZ18 gy17 gL19_0 gL19_1 gL19_2 gL19_3 gL19_4 gL19_5 gL19_6 gL19_7 gL19_8 q9
  replace hP := zl_e2 hP (Eq.symm q9)
  clear q9
  have hZ18K : zK [11, 12, 43, 44, 200] Z Z18 := zK_t hZ15K kZ18 (by decide)
  refine fc_150_5 _ (i3 (((Z2 200 sn 0 2) / 16) % 5)) _ _ _ _ hL19 ?_
  refine sl_150_3 (ν := ν) sn hZ18I zK_r hb tsn rsn (x1 := (((Z2 200 sn 0 2) / 16) % 5)) (by omega) (x2 := 0) (by omega) (kc7 := Z18 200 0 0 2) (kc6 := Z18 200 0 0 1) (kc5 := Z18 11 hb 0 9) (kc4 := Z18 11 hb 0 8) (kc3 := Z18 11 hb 0 7) (kc2 := Z18 11 hb 0 5) (kc1 := Z18 11 hb 0 4) (kc0 := Z18 11 hb 0 3) (by omega) (by omega) (by omega) (by omega) (by omega) (by omega) (by omega) (by omega) (by omega) (zconso rfl (zconso (zvo (rfl : i3 (((Z2 200 sn 0 2) / 16) % 5) = i3 (((Z2 200 sn 0 2) / 16) % 5))) (zconso (zvo (show (0 : Int32) = i3 0 from rfl)) (zconso rfl rfl)))) rfl ?_
  intro L22 Z21 y20 hL22 hZ21I kZ21 gy20 gL22_0 gL22_1 gL22_2 gL22_3 gL22_4 gL22_5 gL22_6 gL22_7 gL22_8 q9
  replace hP := zl_e2 hP (Eq.symm q9)
  clear q9
  have hZ21K : zK [11, 12, 43, 44, 200] Z Z21 := zK_t hZ18K kZ21 (by decide)
  refine fc_150_4  _ _ _ _ hL22 ?_
  exact zlV hP ⟨hZ21I, hZ21K, by omega, by omega, by omega, by omega, by omega, by omega, by omega, by omega⟩

/- yX8_tellBuyers -/
def zl_145_1 (x0 : Int) (hb : Int) : Nat → qz_Z → Int → qz_Z × Int
  | 0, Z, x1 => (Z, x1)
  | m + 1, Z, x1 => (if (2 * (Z 200 x0 0 1)) ≤ x1 then (Z, x1) else (if 8 ≤ x1 then (Z, x1) else (zlet (zu Z 200 x0 0 2 (((25173 * (Z 200 x0 0 2)) + 13849) % 65536)) (fun Z5 => (zlet (zu Z5 200 x0 0 2 (((25173 * (Z5 200 x0 0 2)) + 13849) % 65536)) (fun Z16 => (zlet (zu Z16 200 x0 0 2 (((25173 * (Z16 200 x0 0 2)) + 13849) % 65536)) (fun Z27 => (zlet (zu Z27 45 hb (Z27 11 hb 0 4) 0 (((Z5 200 x0 0 2) / 16) % 5)) (fun Z37 => (zlet (zu Z37 45 hb (Z27 11 hb 0 4) 1 (100000 * (1 + (((Z16 200 x0 0 2) / 16) % 40)))) (fun Z46 => (zlet (zu Z46 45 hb (Z27 11 hb 0 4) 2 (((Z27 200 x0 0 2) / 16) % 8)) (fun Z57 => (zlet (zu Z57 11 hb 0 4 ((Z57 11 hb 0 4) + 1)) (fun Z68 => zl_145_1 x0 hb m Z68 (x1 + 1)))))))))))))))))
theorem sl_145_1 {Zs Z : qz_Z} {ν : qz_N} (x0 : Nat) (hZ : zI (some (some (x0 : Int))) Z) (hK : zK [11, 45, 200] Zs Z) (hb : Nat) (tsn : ∀ Z, qz_tag (zm Z ν) (200, x0, 0) = 2) (rsn : ∀ Z, qz_rm (zm Z ν) 200 x0 0 0 = some (10, hb, 0)) {x1 : Int} (gx1 : 0 ≤ x1 ∧ x1 ≤ 8) {kc0 : Int} {kc1 : Int} {kc2 : Int} {kc3 : Int} {kc4 : Int} {kc5 : Int} {kc6 : Int} (gr0 : Z 11 hb 0 4 = x1) (gr1 : 1 ≤ (x0 : Int)) (gr2 : Z 11 hb 0 3 = kc0) (gr3 : Z 11 hb 0 5 = kc1) (gr4 : Z 11 hb 0 7 = kc2) (gr5 : Z 11 hb 0 8 = kc3) (gr6 : Z 11 hb 0 9 = kc4) (gr7 : Z 200 0 0 1 = kc5) (gr8 : Z 200 0 0 2 = kc6) {k : wz_K} {R : wz_R} {L : qz_L} (hL : qz_fg [true, true] L = [some (.inr (.inr (some (200, x0, 0)))), some (.inl (i3 x1))]) {T : qz_Z × Int} (hP : zE T (zl_145_1 x0 hb ((8 - x1).toNat + 1) Z x1)) (hk : ∀ (L9 : qz_L) (Z9 : qz_Z) (yx1 : Int), qz_fg [true, false] L9 = [some (.inr (.inr (some (200, x0, 0)))), none] → zI (some (some (x0 : Int))) Z9 → zK [11, 45, 200] Zs Z9 → (0 ≤ yx1 ∧ yx1 ≤ 8) → (Z9 11 hb 0 4 = yx1) → (1 ≤ (x0 : Int)) → (Z9 11 hb 0 3 = kc0) → (Z9 11 hb 0 5 = kc1) → (Z9 11 hb 0 7 = kc2) → (Z9 11 hb 0 8 = kc3) → (Z9 11 hb 0 9 = kc4) → (Z9 200 0 0 1 = kc5) → (Z9 200 0 0 2 = kc6) → zE T ((Z9, yx1)) → k 0 (L9, [], zm Z9 ν)) : wz_loop qb_145_1 65536 k R (L, [], zm Z ν) := by
  refine wz_lp sb_145_1 (fun m x => ∃ Z : qz_Z, ∃ x1 : Int, qz_fg [true, true] x.1 = [some (.inr (.inr (some (200, x0, 0)))), some (.inl (i3 x1))] ∧ x.2 = ([], zm Z ν) ∧ zI (some (some (x0 : Int))) Z ∧ zK [11, 45, 200] Zs Z ∧ m = (8 - x1).toNat ∧ (0 ≤ x1 ∧ x1 ≤ 8) ∧ (Z 11 hb 0 4 = x1) ∧ (1 ≤ (x0 : Int)) ∧ (Z 11 hb 0 3 = kc0) ∧ (Z 11 hb 0 5 = kc1) ∧ (Z 11 hb 0 7 = kc2) ∧ (Z 11 hb 0 8 = kc3) ∧ (Z 11 hb 0 9 = kc4) ∧ (Z 200 0 0 1 = kc5) ∧ (Z 200 0 0 2 = kc6) ∧ zE T (zl_145_1 x0 hb (m + 1) Z x1)) ?_ 65536 ((8 - x1).toNat) _ (by omega) ⟨Z, x1, hL, rfl, hZ, hK, rfl, gx1, gr0, gr1, gr2, gr3, gr4, gr5, gr6, gr7, gr8, hP⟩
  clear hP gr0 gr1 gr2 gr3 gr4 gr5 gr6 gr7 gr8 gx1 hZ hK hL
  clear x1
  clear Z
  rintro m ⟨L, st, μ⟩ ⟨Z, x1, hL, hx, hZ, hK, hm, gx1, gr0, gr1, gr2, gr3, gr4, gr5, gr6, gr7, gr8, hP⟩
  cases hx
  refine fb_145_1 x0 (i3 x1) _ _ _ _ hL ?_
  have rs := zI_xs (n := x0) hZ
  refine wz_i1 (by rw [tsn]; rfl) ?_
  have r1 := zI_xs (n := x0) hZ
  refine wz_br (i3Le (i3M (show (2 : Int32) = i3 2 from rfl) (zm_rd (Z := Z) (ν := ν) (k := 200) (rfl : ((x0 : Nat) : Int) = x0) (show ((0 : Nat) : Int) = 0 from rfl) (show ((1 : Nat) : Int) = 1 from rfl))) (rfl : i3 x1 = i3 x1) (by omega) (by omega) (by omega) (by omega)) (fun h2 => ?_) (fun h2 => ?_)
  · replace hP := zE_p hP h2
    exact hk _ _ _ (zconso rfl (zconso rfl rfl)) hZ hK (by omega) (by omega) (by omega) (by omega) (by omega) (by omega) (by omega) (by omega) (by omega) (by omega) hP
  · replace hP := zE_n hP h2
    refine wz_br (i3Le (show (8 : Int32) = i3 8 from rfl) (rfl : i3 x1 = i3 x1) (by omega) (by omega) (by omega) (by omega)) (fun h3 => ?_) (fun h3 => ?_)
    · replace hP := zE_p hP h3
      exact hk _ _ _ (zconso rfl (zconso rfl rfl)) hZ hK (by omega) (by omega) (by omega) (by omega) (by omega) (by omega) (by omega) (by omega) (by omega) (by omega) hP
    · replace hP := zE_n hP h3
      refine wz_i1 (by rw [tsn]; rfl) ?_
      refine wz_rko (rsn _) ?_
      refine wz_i1 (by rw [tsn]; rfl) ?_
      refine wz_i1 (by rw [tsn]; rfl) ?_
      refine wz_i1 (by rw [tsn]; rfl) ?_
      have r4 := zI_xr (n := x0) hZ
      obtain ⟨Z5, hZ5⟩ := zx (zu Z 200 x0 0 2 (((25173 * (Z 200 x0 0 2)) + 13849) % 65536))
      replace hP := zl_e hP hZ5
      have hZ5I := zI_x hZ hZ5 (by omega)
      have t6 : Z5 11 hb 0 3 = Z 11 hb 0 3 := zu_ne hZ5 (fun q => absurd q.1 (by decide))
      have t7 : Z5 11 hb 0 5 = Z 11 hb 0 5 := zu_ne hZ5 (fun q => absurd q.1 (by decide))
      have t8 : Z5 11 hb 0 7 = Z 11 hb 0 7 := zu_ne hZ5 (fun q => absurd q.1 (by decide))
      have t9 : Z5 11 hb 0 8 = Z 11 hb 0 8 := zu_ne hZ5 (fun q => absurd q.1 (by decide))
      have t10 : Z5 11 hb 0 9 = Z 11 hb 0 9 := zu_ne hZ5 (fun q => absurd q.1 (by decide))
      have t11 : Z5 11 hb 0 4 = Z 11 hb 0 4 := zu_ne hZ5 (fun q => absurd q.1 (by decide))
      have t12 : Z5 200 0 0 1 = Z 200 0 0 1 := zu_ne hZ5 (fun q => absurd q.2.2.2 (by decide))
      have t13 : Z5 200 0 0 2 = Z 200 0 0 2 := zu_ne hZ5 (by omega)
      have hZ5K := zK_u hK hZ5 (by decide)
      intro μ9 e9
      replace e9 := e9.trans (zm_wI (Z := Z) (ν := ν) hZ5 (rfl : ((x0 : Nat) : Int) = x0) (show ((0 : Nat) : Int) = 0 from rfl) (show ((2 : Nat) : Int) = 2 from rfl) (i3R (i3A (i3M (show (25173 : Int32) = i3 25173 from rfl) (zm_rd (Z := Z) (ν := ν) (k := 200) (rfl : ((x0 : Nat) : Int) = x0) (show ((0 : Nat) : Int) = 0 from rfl) (show ((2 : Nat) : Int) = 2 from rfl))) (show (13849 : Int32) = i3 13849 from rfl)) (show (65536 : Int32) = i3 65536 from rfl) (by omega) (by omega) (by omega) (by omega)))
      subst e9
      refine wz_i1 (by rw [tsn]; rfl) ?_
      refine wz_i1 (by rw [tsn]; rfl) ?_
      refine wz_i1 (by rw [tsn]; rfl) ?_
      refine wz_i1 (by rw [tsn]; rfl) ?_
      have r14 := zI_xr (n := x0) hZ5I
      have q15 := zu_at hZ5
      obtain ⟨Z16, hZ16⟩ := zx (zu Z5 200 x0 0 2 (((25173 * (Z5 200 x0 0 2)) + 13849) % 65536))
      replace hP := zl_e hP hZ16
      have hZ16I := zI_x hZ5I hZ16 (by omega)
      have t17 : Z16 11 hb 0 3 = Z5 11 hb 0 3 := zu_ne hZ16 (fun q => absurd q.1 (by decide))
      have t18 : Z16 11 hb 0 5 = Z5 11 hb 0 5 := zu_ne hZ16 (fun q => absurd q.1 (by decide))
      have t19 : Z16 11 hb 0 7 = Z5 11 hb 0 7 := zu_ne hZ16 (fun q => absurd q.1 (by decide))
      have t20 : Z16 11 hb 0 8 = Z5 11 hb 0 8 := zu_ne hZ16 (fun q => absurd q.1 (by decide))
      have t21 : Z16 11 hb 0 9 = Z5 11 hb 0 9 := zu_ne hZ16 (fun q => absurd q.1 (by decide))
      have t22 : Z16 11 hb 0 4 = Z5 11 hb 0 4 := zu_ne hZ16 (fun q => absurd q.1 (by decide))
      have t23 : Z16 200 0 0 1 = Z5 200 0 0 1 := zu_ne hZ16 (fun q => absurd q.2.2.2 (by decide))
      have t24 : Z16 200 0 0 2 = Z5 200 0 0 2 := zu_ne hZ16 (by omega)
      have hZ16K := zK_u hZ5K hZ16 (by decide)
      intro μ9 e9
      replace e9 := e9.trans (zm_wI (Z := Z5) (ν := ν) hZ16 (rfl : ((x0 : Nat) : Int) = x0) (show ((0 : Nat) : Int) = 0 from rfl) (show ((2 : Nat) : Int) = 2 from rfl) (i3R (i3A (i3M (show (25173 : Int32) = i3 25173 from rfl) (zm_rd (Z := Z5) (ν := ν) (k := 200) (rfl : ((x0 : Nat) : Int) = x0) (show ((0 : Nat) : Int) = 0 from rfl) (show ((2 : Nat) : Int) = 2 from rfl))) (show (13849 : Int32) = i3 13849 from rfl)) (show (65536 : Int32) = i3 65536 from rfl) (by omega) (by omega) (by omega) (by omega)))
      subst e9
      refine wz_i1 (by rw [tsn]; rfl) ?_
      refine wz_i1 (by rw [tsn]; rfl) ?_
      refine wz_i1 (by rw [tsn]; rfl) ?_
      refine wz_i1 (by rw [tsn]; rfl) ?_
      have r25 := zI_xr (n := x0) hZ16I
      have q26 := zu_at hZ16
      obtain ⟨Z27, hZ27⟩ := zx (zu Z16 200 x0 0 2 (((25173 * (Z16 200 x0 0 2)) + 13849) % 65536))
      replace hP := zl_e hP hZ27
      have hZ27I := zI_x hZ16I hZ27 (by omega)
      have t28 : Z27 11 hb 0 3 = Z16 11 hb 0 3 := zu_ne hZ27 (fun q => absurd q.1 (by decide))
      have t29 : Z27 11 hb 0 5 = Z16 11 hb 0 5 := zu_ne hZ27 (fun q => absurd q.1 (by decide))
      have t30 : Z27 11 hb 0 7 = Z16 11 hb 0 7 := zu_ne hZ27 (fun q => absurd q.1 (by decide))
      have t31 : Z27 11 hb 0 8 = Z16 11 hb 0 8 := zu_ne hZ27 (fun q => absurd q.1 (by decide))
      have t32 : Z27 11 hb 0 9 = Z16 11 hb 0 9 := zu_ne hZ27 (fun q => absurd q.1 (by decide))
      have t33 : Z27 11 hb 0 4 = Z16 11 hb 0 4 := zu_ne hZ27 (fun q => absurd q.1 (by decide))
      have t34 : Z27 200 0 0 1 = Z16 200 0 0 1 := zu_ne hZ27 (fun q => absurd q.2.2.2 (by decide))
      have t35 : Z27 200 0 0 2 = Z16 200 0 0 2 := zu_ne hZ27 (by omega)
      have hZ27K := zK_u hZ16K hZ27 (by decide)
      intro μ9 e9
      replace e9 := e9.trans (zm_wI (Z := Z16) (ν := ν) hZ27 (rfl : ((x0 : Nat) : Int) = x0) (show ((0 : Nat) : Int) = 0 from rfl) (show ((2 : Nat) : Int) = 2 from rfl) (i3R (i3A (i3M (show (25173 : Int32) = i3 25173 from rfl) (zm_rd (Z := Z16) (ν := ν) (k := 200) (rfl : ((x0 : Nat) : Int) = x0) (show ((0 : Nat) : Int) = 0 from rfl) (show ((2 : Nat) : Int) = 2 from rfl))) (show (13849 : Int32) = i3 13849 from rfl)) (show (65536 : Int32) = i3 65536 from rfl) (by omega) (by omega) (by omega) (by omega)))
      subst e9
      refine wz_i1 (by rw [tsn]; rfl) ?_
      refine wz_i1 rfl ?_
      refine wz_rko (r := (25, _, _)) rfl ?_
      refine wz_i1 rfl ?_
      refine wz_rko (r := (11, _, _)) rfl ?_
      refine wz_i1 rfl ?_
      refine wz_i0 (i3O (n := 17) (show (4 : Int32) = i3 4 from rfl) (by omega) (by omega) (by omega)) ?_
      refine wz_i1 rfl ?_
      have r36 := zI_k hZ27I 11 hb 0 4 (lo := 0) (hi := 8) (by decide) rfl
      refine wz_i0 (i3O (n := 8) (zm_rd (Z := Z27) (ν := ν) (k := 11) (rfl : ((hb : Nat) : Int) = hb) (show ((0 : Nat) : Int) = 0 from rfl) (show ((4 : Nat) : Int) = 4 from rfl)) (by omega) (by omega) (by omega)) ?_
      refine wz_rko (r := (45, _, _)) rfl ?_
      refine wz_i1 rfl ?_
      refine wz_i0 (i3O (n := 15) (show (0 : Int32) = i3 0 from rfl) (by omega) (by omega) (by omega)) ?_
      obtain ⟨Z37, hZ37⟩ := zx (zu Z27 45 hb (Z27 11 hb 0 4) 0 (((Z5 200 x0 0 2) / 16) % 5))
      replace hP := zl_e hP hZ37
      have hZ37I := zI_u hZ27I hZ37 (lo := 0) (hi := 4) (by decide) rfl (by omega) ⟨by decide, by decide⟩ (Or.inl (by decide))
      have t38 : Z37 11 hb 0 3 = Z27 11 hb 0 3 := zu_ne hZ37 (fun q => absurd q.1 (by decide))
      have t39 : Z37 11 hb 0 5 = Z27 11 hb 0 5 := zu_ne hZ37 (fun q => absurd q.1 (by decide))
      have t40 : Z37 11 hb 0 7 = Z27 11 hb 0 7 := zu_ne hZ37 (fun q => absurd q.1 (by decide))
      have t41 : Z37 11 hb 0 8 = Z27 11 hb 0 8 := zu_ne hZ37 (fun q => absurd q.1 (by decide))
      have t42 : Z37 11 hb 0 9 = Z27 11 hb 0 9 := zu_ne hZ37 (fun q => absurd q.1 (by decide))
      have t43 : Z37 11 hb 0 4 = Z27 11 hb 0 4 := zu_ne hZ37 (fun q => absurd q.1 (by decide))
      have t44 : Z37 200 0 0 1 = Z27 200 0 0 1 := zu_ne hZ37 (fun q => absurd q.1 (by decide))
      have t45 : Z37 200 0 0 2 = Z27 200 0 0 2 := zu_ne hZ37 (fun q => absurd q.1 (by decide))
      have hZ37K := zK_u hZ27K hZ37 (by decide)
      intro μ9 e9
      replace e9 := e9.trans (zm_wI (Z := Z27) (ν := ν) hZ37 (rfl : ((hb : Nat) : Int) = hb) (i3I (y := (Z27 11 hb 0 4)) (zm_rd (Z := Z27) (ν := ν) (k := 11) (rfl : ((hb : Nat) : Int) = hb) (show ((0 : Nat) : Int) = 0 from rfl) (show ((4 : Nat) : Int) = 4 from rfl)) (by omega) (by omega) (by omega)) (show ((0 : Nat) : Int) = 0 from rfl) (i3R (i3D (zm_rd (Z := Z5) (ν := ν) (k := 200) (rfl : ((x0 : Nat) : Int) = x0) (show ((0 : Nat) : Int) = 0 from rfl) (show ((2 : Nat) : Int) = 2 from rfl)) (show (16 : Int32) = i3 16 from rfl) (by omega) (by omega) (by omega) (by omega)) (show (5 : Int32) = i3 5 from rfl) (by omega) (by omega) (by omega) (by omega)))
      subst e9
      refine wz_i1 rfl ?_
      refine wz_i0 (i3O (n := 15) (show (1 : Int32) = i3 1 from rfl) (by omega) (by omega) (by omega)) ?_
      obtain ⟨Z46, hZ46⟩ := zx (zu Z37 45 hb (Z27 11 hb 0 4) 1 (100000 * (1 + (((Z16 200 x0 0 2) / 16) % 40))))
      replace hP := zl_e hP hZ46
      have hZ46I := zI_u hZ37I hZ46 (lo := 0) (hi := 9999999) (by decide) rfl (by omega) ⟨by decide, by decide⟩ (Or.inl (by decide))
      have t47 : Z46 11 hb 0 3 = Z37 11 hb 0 3 := zu_ne hZ46 (fun q => absurd q.1 (by decide))
      have t48 : Z46 11 hb 0 5 = Z37 11 hb 0 5 := zu_ne hZ46 (fun q => absurd q.1 (by decide))
      have t49 : Z46 11 hb 0 7 = Z37 11 hb 0 7 := zu_ne hZ46 (fun q => absurd q.1 (by decide))
      have t50 : Z46 11 hb 0 8 = Z37 11 hb 0 8 := zu_ne hZ46 (fun q => absurd q.1 (by decide))
      have t51 : Z46 11 hb 0 9 = Z37 11 hb 0 9 := zu_ne hZ46 (fun q => absurd q.1 (by decide))
      have t52 : Z46 11 hb 0 4 = Z37 11 hb 0 4 := zu_ne hZ46 (fun q => absurd q.1 (by decide))
      have t53 : Z46 200 0 0 1 = Z37 200 0 0 1 := zu_ne hZ46 (fun q => absurd q.1 (by decide))
      have t54 : Z46 200 0 0 2 = Z37 200 0 0 2 := zu_ne hZ46 (fun q => absurd q.1 (by decide))
      have hZ46K := zK_u hZ37K hZ46 (by decide)
      intro μ9 e9
      replace e9 := e9.trans (zm_wI (Z := Z37) (ν := ν) hZ46 (rfl : ((hb : Nat) : Int) = hb) (i3I (y := (Z27 11 hb 0 4)) (zm_rd (Z := Z27) (ν := ν) (k := 11) (rfl : ((hb : Nat) : Int) = hb) (show ((0 : Nat) : Int) = 0 from rfl) (show ((4 : Nat) : Int) = 4 from rfl)) (by omega) (by omega) (by omega)) (show ((1 : Nat) : Int) = 1 from rfl) (i3M (show (100000 : Int32) = i3 100000 from rfl) (i3A (show (1 : Int32) = i3 1 from rfl) (i3R (i3D (zm_rd (Z := Z16) (ν := ν) (k := 200) (rfl : ((x0 : Nat) : Int) = x0) (show ((0 : Nat) : Int) = 0 from rfl) (show ((2 : Nat) : Int) = 2 from rfl)) (show (16 : Int32) = i3 16 from rfl) (by omega) (by omega) (by omega) (by omega)) (show (40 : Int32) = i3 40 from rfl) (by omega) (by omega) (by omega) (by omega)))))
      subst e9
      refine wz_i1 rfl ?_
      refine wz_i0 (i3O (n := 15) (show (2 : Int32) = i3 2 from rfl) (by omega) (by omega) (by omega)) ?_
      have r55 := zI_xr (n := x0) hZ27I
      have q56 := zu_at hZ27
      obtain ⟨Z57, hZ57⟩ := zx (zu Z46 45 hb (Z27 11 hb 0 4) 2 (((Z27 200 x0 0 2) / 16) % 8))
      replace hP := zl_e hP hZ57
      have hZ57I := zI_u hZ46I hZ57 (lo := 0) (hi := 14) (by decide) rfl (by omega) ⟨by decide, by decide⟩ (Or.inl (by decide))
      have t58 : Z57 11 hb 0 3 = Z46 11 hb 0 3 := zu_ne hZ57 (fun q => absurd q.1 (by decide))
      have t59 : Z57 11 hb 0 5 = Z46 11 hb 0 5 := zu_ne hZ57 (fun q => absurd q.1 (by decide))
      have t60 : Z57 11 hb 0 7 = Z46 11 hb 0 7 := zu_ne hZ57 (fun q => absurd q.1 (by decide))
      have t61 : Z57 11 hb 0 8 = Z46 11 hb 0 8 := zu_ne hZ57 (fun q => absurd q.1 (by decide))
      have t62 : Z57 11 hb 0 9 = Z46 11 hb 0 9 := zu_ne hZ57 (fun q => absurd q.1 (by decide))
      have t63 : Z57 11 hb 0 4 = Z46 11 hb 0 4 := zu_ne hZ57 (fun q => absurd q.1 (by decide))
      have t64 : Z57 200 0 0 1 = Z46 200 0 0 1 := zu_ne hZ57 (fun q => absurd q.1 (by decide))
      have t65 : Z57 200 0 0 2 = Z46 200 0 0 2 := zu_ne hZ57 (fun q => absurd q.1 (by decide))
      have hZ57K := zK_u hZ46K hZ57 (by decide)
      intro μ9 e9
      replace e9 := e9.trans (zm_wI (Z := Z46) (ν := ν) hZ57 (rfl : ((hb : Nat) : Int) = hb) (i3I (y := (Z27 11 hb 0 4)) (zm_rd (Z := Z27) (ν := ν) (k := 11) (rfl : ((hb : Nat) : Int) = hb) (show ((0 : Nat) : Int) = 0 from rfl) (show ((4 : Nat) : Int) = 4 from rfl)) (by omega) (by omega) (by omega)) (show ((2 : Nat) : Int) = 2 from rfl) (i3R (i3D (zm_rd (Z := Z27) (ν := ν) (k := 200) (rfl : ((x0 : Nat) : Int) = x0) (show ((0 : Nat) : Int) = 0 from rfl) (show ((2 : Nat) : Int) = 2 from rfl)) (show (16 : Int32) = i3 16 from rfl) (by omega) (by omega) (by omega) (by omega)) (show (8 : Int32) = i3 8 from rfl) (by omega) (by omega) (by omega) (by omega)))
      subst e9
      refine wz_i1 rfl ?_
      refine wz_rko (r := (11, _, _)) rfl ?_
      refine wz_i1 rfl ?_
      refine wz_i0 (i3O (n := 17) (show (4 : Int32) = i3 4 from rfl) (by omega) (by omega) (by omega)) ?_
      refine wz_i1 rfl ?_
      refine wz_i0 (i3O (n := 17) (show (4 : Int32) = i3 4 from rfl) (by omega) (by omega) (by omega)) ?_
      have r66 := zI_k hZ57I 11 hb 0 4 (lo := 0) (hi := 8) (by decide) rfl
      have q67 := (zu_ne (k' := 11) (b' := hb) (i' := 0) (j' := 4) hZ57 (fun q => absurd q.1 (by decide))).trans ((zu_ne (k' := 11) (b' := hb) (i' := 0) (j' := 4) hZ46 (fun q => absurd q.1 (by decide))).trans (zu_ne (k' := 11) (b' := hb) (i' := 0) (j' := 4) hZ37 (fun q => absurd q.1 (by decide))))
      obtain ⟨Z68, hZ68⟩ := zx (zu Z57 11 hb 0 4 ((Z57 11 hb 0 4) + 1))
      replace hP := zl_e hP hZ68
      have hZ68I := zI_u hZ57I hZ68 (lo := 0) (hi := 8) (by decide) rfl (by omega) ⟨by decide, by decide⟩ (Or.inl (by decide))
      have t69 : Z68 11 hb 0 3 = Z57 11 hb 0 3 := zu_ne hZ68 (fun q => absurd q.2.2.2 (by decide))
      have t70 : Z68 11 hb 0 5 = Z57 11 hb 0 5 := zu_ne hZ68 (fun q => absurd q.2.2.2 (by decide))
      have t71 : Z68 11 hb 0 7 = Z57 11 hb 0 7 := zu_ne hZ68 (fun q => absurd q.2.2.2 (by decide))
      have t72 : Z68 11 hb 0 8 = Z57 11 hb 0 8 := zu_ne hZ68 (fun q => absurd q.2.2.2 (by decide))
      have t73 : Z68 11 hb 0 9 = Z57 11 hb 0 9 := zu_ne hZ68 (fun q => absurd q.2.2.2 (by decide))
      have t74 := zu_at hZ68
      have t75 : Z68 200 0 0 1 = Z57 200 0 0 1 := zu_ne hZ68 (fun q => absurd q.1 (by decide))
      have t76 : Z68 200 0 0 2 = Z57 200 0 0 2 := zu_ne hZ68 (fun q => absurd q.1 (by decide))
      have hZ68K := zK_u hZ57K hZ68 (by decide)
      intro μ9 e9
      replace e9 := e9.trans (zm_wI (Z := Z57) (ν := ν) hZ68 (rfl : ((hb : Nat) : Int) = hb) (show ((0 : Nat) : Int) = 0 from rfl) (show ((4 : Nat) : Int) = 4 from rfl) (i3A (zm_rd (Z := Z57) (ν := ν) (k := 11) (rfl : ((hb : Nat) : Int) = hb) (show ((0 : Nat) : Int) = 0 from rfl) (show ((4 : Nat) : Int) = 4 from rfl)) (show (1 : Int32) = i3 1 from rfl)))
      subst e9
      obtain ⟨m2, rfl⟩ : ∃ m2, m = m2 + 1 := ⟨m - 1, by omega⟩
      exact wz_k1 ⟨m2, by omega, Z68, (x1 + 1), (zconso rfl (zconso (zvo (i3A (rfl : i3 x1 = i3 x1) (show (1 : Int32) = i3 1 from rfl))) rfl)), rfl, hZ68I, hZ68K, by omega, by omega, by omega, by omega, by omega, by omega, by omega, by omega, by omega, by omega, by omega,  hP⟩

