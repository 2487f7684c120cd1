/- yX12_iSeason -/
def zl_370_3 (x1 : Int) : Nat → qz_Z → Int → qz_Z × Int
  | 0, Z, x2 => (Z, x2)
  | m + 1, Z, x2 => (if x1 ≤ x2 then (Z, x2) else (zlet (zu Z 1 0 0 3 (((25173 * (Z 1 0 0 3)) + 13849) % 65536)) (fun Z4 => (zlet (zu Z4 1 0 0 3 (((25173 * (Z4 1 0 0 3)) + 13849) % 65536)) (fun Z7 => (zlet2 (zf_359 Z7 (((Z4 1 0 0 3) / 16) % 19) (((Z7 1 0 0 3) / 16) % 4)) (fun Z12 v13 => (zlet (zu Z12 1 0 0 3 (((25173 * (Z12 1 0 0 3)) + 13849) % 65536)) (fun Z17 => (zlet (zu Z17 2 0 0 (3522 + 10 * x2) (((Z17 1 0 0 3) / 16) % 128)) (fun Z20 => (zlet (zu Z20 1 0 0 3 (((25173 * (Z20 1 0 0 3)) + 13849) % 65536)) (fun Z23 => (zlet3 (zl_370_1 x1 x2 (((Z23 1 0 0 3) / 16) % 7) 7 Z23 0 0) (fun Z28 y26 y27 => (zlet (zu Z28 2 0 0 (3523 + 10 * x2) y26) (fun Z30 => zl_370_3 x1 m Z30 (x2 + 1))))))))))))))))))
theorem sl_370_3 {s : zSM} {Zs Z : qz_Z} {ν : qz_N} (hZ : zM s Z) (hM : s.2 + 0 ≤ 1000000000) (hK : zC [1, 2] Zs Z) {x1 : Int} (gx1 : 0 ≤ x1 ∧ x1 ≤ 2) {x2 : Int} (gx2 : 0 ≤ x2 ∧ x2 ≤ 2) (hU : zU [] Zs Z) (gr0 : Z 2 0 0 3500 = x2) {k : wz_K} {R : wz_R} {L : qz_L} (hL : qz_fg [true, true, true, false, false, false, false] L = [some (.inr (.inr (some (1, 0, 0)))), some (.inl (i3 x1)), some (.inl (i3 x2)), none, none, none, none]) {T : qz_Z × Int} (hP : zE T (zl_370_3 x1 ((2 - x2).toNat + 1) Z x2)) (hk : ∀ (L9 : qz_L) (Z9 : qz_Z) (yx2 : Int), qz_fg [false, false, false, false, false, false, false] L9 = [none, none, none, none, none, none, none] → zM s Z9 → zC [1, 2] Zs Z9 → zU [] Zs Z9 → (0 ≤ yx2 ∧ yx2 ≤ 2) → (Z9 2 0 0 3500 = yx2) → zE T ((Z9, yx2)) → k 0 (L9, [], zm Z9 ν)) : wz_loop qb_370_3 65536 k R (L, [], zm Z ν) := by
  refine wz_lp sb_370_3 (fun m x => ∃ Z : qz_Z, ∃ x2 : Int, qz_fg [true, true, true, false, false, false, false] x.1 = [some (.inr (.inr (some (1, 0, 0)))), some (.inl (i3 x1)), some (.inl (i3 x2)), none, none, none, none] ∧ x.2 = ([], zm Z ν) ∧ zM s Z ∧ zC [1, 2] Zs Z ∧ zU [] Zs Z ∧ m = (2 - x2).toNat ∧ (0 ≤ x2 ∧ x2 ≤ 2) ∧ (Z 2 0 0 3500 = x2) ∧ zE T (zl_370_3 x1 (m + 1) Z x2)) ?_ 65536 ((2 - x2).toNat) _ (by omega) ⟨Z, x2, hL, rfl, hZ, hK, hU, rfl, gx2, gr0, hP⟩
  clear hP gr0 gx2 hZ hK hU hL
  clear x2
  clear Z
  rintro m ⟨L, st, μ⟩ ⟨Z, x2, hL, hx, hZ, hK, hU, hm, gx2, gr0, hP⟩
  cases hx
  refine fb_370_3 (i3 x1) (i3 x2) _ _ _ _ hL ?_
  have r1 := zM_k hZ 2 0 0 3500 (lo := 0) (hi := 2) (by decide) rfl
  refine wz_br (i3Le (rfl : i3 x1 = i3 x1) (rfl : i3 x2 = i3 x2) (by omega) (by omega) (by omega) (by omega)) (fun h2 => ?_) (fun h2 => ?_)
  · replace hP := zE_p hP h2
    exact hk _ _ _ (zconso rfl (zconso rfl (zconso rfl (zconso rfl (zconso rfl (zconso rfl (zconso rfl rfl))))))) hZ hK hU (by omega) (by omega) hP
  · replace hP := zE_n hP h2
    have r3 := zM_k hZ 1 0 0 3 (lo := 0) (hi := 65535) (by decide) rfl
    obtain ⟨Z4, hZ4⟩ := zx (zu Z 1 0 0 3 (((25173 * (Z 1 0 0 3)) + 13849) % 65536))
    replace hP := zl_e hP hZ4
    have hZ4I := zM_u hZ hZ4 (lo := 0) (hi := 65535) (by decide) rfl (by omega) ⟨by decide, by decide⟩ (Or.inr (by decide)) rfl
    have hZ4U : zU [] Zs Z4 := zU_u hU hZ4 (Or.inl rfl)
    have hZ4K : zC [1, 2] Zs Z4 := zC_u hK hZ4 (by decide)
    intro μ9 e9
    replace e9 := e9.trans (zm_wI (Z := Z) (ν := ν) hZ4 (show ((0 : Nat) : Int) = 0 from rfl) (show ((0 : Nat) : Int) = 0 from rfl) (show ((3 : Nat) : Int) = 3 from rfl) (i3R (i3A (i3M (show (25173 : Int32) = i3 25173 from rfl) (zm_rd (Z := Z) (ν := ν) (k := 1) (show ((0 : Nat) : Int) = 0 from rfl) (show ((0 : Nat) : Int) = 0 from rfl) (show ((3 : Nat) : Int) = 3 from rfl))) (show (13849 : Int32) = i3 13849 from rfl)) (show (65536 : Int32) = i3 65536 from rfl) (by omega) (by omega) (by omega) (by omega)))
    subst e9
    have r5 := zM_k hZ4I 1 0 0 3 (lo := 0) (hi := 65535) (by decide) rfl
    have q6 := zu_at hZ4
    obtain ⟨Z7, hZ7⟩ := zx (zu Z4 1 0 0 3 (((25173 * (Z4 1 0 0 3)) + 13849) % 65536))
    replace hP := zl_e hP hZ7
    have hZ7I := zM_u hZ4I hZ7 (lo := 0) (hi := 65535) (by decide) rfl (by omega) ⟨by decide, by decide⟩ (Or.inr (by decide)) rfl
    have hZ7U : zU [] Zs Z7 := zU_u hZ4U hZ7 (Or.inl rfl)
    have hZ7K : zC [1, 2] Zs Z7 := zC_u hZ4K hZ7 (by decide)
    intro μ9 e9
    replace e9 := e9.trans (zm_wI (Z := Z4) (ν := ν) hZ7 (show ((0 : Nat) : Int) = 0 from rfl) (show ((0 : Nat) : Int) = 0 from rfl) (show ((3 : Nat) : Int) = 3 from rfl) (i3R (i3A (i3M (show (25173 : Int32) = i3 25173 from rfl) (zm_rd (Z := Z4) (ν := ν) (k := 1) (show ((0 : Nat) : Int) = 0 from rfl) (show ((0 : Nat) : Int) = 0 from rfl) (show ((3 : Nat) : Int) = 3 from rfl))) (show (13849 : Int32) = i3 13849 from rfl)) (show (65536 : Int32) = i3 65536 from rfl) (by omega) (by omega) (by omega) (by omega)))
    subst e9
    have r8 := zM_k hZ7I 1 0 0 3 (lo := 0) (hi := 65535) (by decide) rfl
    have q9 := zu_at hZ7
    have r10 := zM_k hZ7I 2 0 0 3500 (lo := 0) (hi := 2) (by decide) rfl
    have q11 := (zu_ne (k' := 2) (b' := 0) (i' := 0) (j' := 3500) hZ7 (fun q => absurd q.1 (by decide))).trans (zu_ne (k' := 2) (b' := 0) (i' := 0) (j' := 3500) hZ4 (fun q => absurd q.1 (by decide)))
    obtain ⟨Z12, v13, hv13, c9, hZ12I, kZ12, jZ12, lv13, uv13, wv130⟩ := sp_359 (ν := ν) hZ7I (a1 := (((Z4 1 0 0 3) / 16) % 19)) (by omega) (a2 := (((Z7 1 0 0 3) / 16) % 4)) (by omega) (by omega) (zbh (c := 0) (k := 0) hM (Nat.le_of_ble_eq_true rfl))
    have hZ12U : zU [] Zs Z12 := zU_t hZ7U jZ12 zU_b0
    have hZ12K : zC [1, 2] Zs Z12 := zC_t hZ7K kZ12 (by decide)
    replace hP := zl_e2 hP hv13
    refine wz_cI_of (zas (zcons rfl (zcons (zvi (i3R (i3D (zm_rd (Z := Z4) (ν := ν) (k := 1) (show ((0 : Nat) : Int) = 0 from rfl) (show ((0 : Nat) : Int) = 0 from rfl) (show ((3 : Nat) : Int) = 3 from rfl)) (show (16 : Int32) = i3 16 from rfl) (by omega) (by omega) (by omega) (by omega)) (show (19 : Int32) = i3 19 from rfl) (by omega) (by omega) (by omega) (by omega))) (zcons (zvi (i3R (i3D (zm_rd (Z := Z7) (ν := ν) (k := 1) (show ((0 : Nat) : Int) = 0 from rfl) (show ((0 : Nat) : Int) = 0 from rfl) (show ((3 : Nat) : Int) = 3 from rfl)) (show (16 : Int32) = i3 16 from rfl) (by omega) (by omega) (by omega) (by omega)) (show (4 : Int32) = i3 4 from rfl) (by omega) (by omega) (by omega) (by omega))) rfl))) c9) ?_
    clear c9 hv13
    have r14 := zM_k hZ12I 2 0 0 3500 (lo := 0) (hi := 2) (by decide) rfl
    have r15 := zM_k hZ12I 1 0 0 3 (lo := 0) (hi := 65535) (by decide) rfl
    have q16 := kZ12 1 0 0 3 (by decide)
    obtain ⟨Z17, hZ17⟩ := zx (zu Z12 1 0 0 3 (((25173 * (Z12 1 0 0 3)) + 13849) % 65536))
    replace hP := zl_e hP hZ17
    have hZ17I := zM_u hZ12I hZ17 (lo := 0) (hi := 65535) (by decide) rfl (by omega) ⟨by decide, by decide⟩ (Or.inr (by decide)) rfl
    have hZ17U : zU [] Zs Z17 := zU_u hZ12U hZ17 (Or.inl rfl)
    have hZ17K : zC [1, 2] Zs Z17 := zC_u hZ12K hZ17 (by decide)
    intro μ9 e9
    replace e9 := e9.trans (zm_wI (Z := Z12) (ν := ν) hZ17 (show ((0 : Nat) : Int) = 0 from rfl) (show ((0 : Nat) : Int) = 0 from rfl) (show ((3 : Nat) : Int) = 3 from rfl) (i3R (i3A (i3M (show (25173 : Int32) = i3 25173 from rfl) (zm_rd (Z := Z12) (ν := ν) (k := 1) (show ((0 : Nat) : Int) = 0 from rfl) (show ((0 : Nat) : Int) = 0 from rfl) (show ((3 : Nat) : Int) = 3 from rfl))) (show (13849 : Int32) = i3 13849 from rfl)) (show (65536 : Int32) = i3 65536 from rfl) (by omega) (by omega) (by omega) (by omega)))
    subst e9
    refine wz_i0 (i3O (n := 4400) (i3A (i3A (show (3520 : Int32) = i3 3520 from rfl) (i3M (show (10 : Int32) = i3 10 from rfl) (rfl : i3 x2 = i3 x2))) (show (2 : Int32) = i3 2 from rfl)) (by omega) (by omega) (by omega)) ?_
    have r18 := zM_k hZ17I 1 0 0 3 (lo := 0) (hi := 65535) (by decide) rfl
    have q19 := zu_at hZ17
    obtain ⟨Z20, hZ20⟩ := zx (zu Z17 2 0 0 (3522 + 10 * x2) (((Z17 1 0 0 3) / 16) % 128))
    replace hP := zl_e hP hZ20
    have hZ20I := zM_u2 hZ17I hZ20 (lo := 0) (hi := 127) (zs_3520_2 (x := x2) (by omega) (by omega) (by omega)) (by omega) ⟨by decide, by decide⟩ (by simp only [zsp]; omega)
    have hZ20U : zU [] Zs Z20 := zU_u hZ17U hZ20 (Or.inl rfl)
    have hZ20K : zC [1, 2] Zs Z20 := zC_u hZ17K hZ20 (zcl_2w (by omega) rfl)
    intro μ9 e9
    replace e9 := e9.trans (zm_wI (Z := Z17) (ν := ν) hZ20 (show ((0 : Nat) : Int) = 0 from rfl) (show ((0 : Nat) : Int) = 0 from rfl) (i3I (y := (3522 + 10 * x2)) (i3A (i3A (show (3520 : Int32) = i3 3520 from rfl) (i3M (show (10 : Int32) = i3 10 from rfl) (rfl : i3 x2 = i3 x2))) (show (2 : Int32) = i3 2 from rfl)) (by omega) (by omega) (by omega)) (i3R (i3D (zm_rd (Z := Z17) (ν := ν) (k := 1) (show ((0 : Nat) : Int) = 0 from rfl) (show ((0 : Nat) : Int) = 0 from rfl) (show ((3 : Nat) : Int) = 3 from rfl)) (show (16 : Int32) = i3 16 from rfl) (by omega) (by omega) (by omega) (by omega)) (show (128 : Int32) = i3 128 from rfl) (by omega) (by omega) (by omega) (by omega)))
    subst e9
    have r21 := zM_k hZ20I 1 0 0 3 (lo := 0) (hi := 65535) (by decide) rfl
    have q22 := zu_ne (k' := 1) (b' := 0) (i' := 0) (j' := 3) hZ20 (fun q => absurd q.1 (by decide))
    obtain ⟨Z23, hZ23⟩ := zx (zu Z20 1 0 0 3 (((25173 * (Z20 1 0 0 3)) + 13849) % 65536))
    replace hP := zl_e hP hZ23
    have hZ23I := zM_u hZ20I hZ23 (lo := 0) (hi := 65535) (by decide) rfl (by omega) ⟨by decide, by decide⟩ (Or.inr (by decide)) rfl
    have hZ23U : zU [] Zs Z23 := zU_u hZ20U hZ23 (Or.inl rfl)
    have hZ23K : zC [1, 2] Zs Z23 := zC_u hZ20K hZ23 (by decide)
    intro μ9 e9
    replace e9 := e9.trans (zm_wI (Z := Z20) (ν := ν) hZ23 (show ((0 : Nat) : Int) = 0 from rfl) (show ((0 : Nat) : Int) = 0 from rfl) (show ((3 : Nat) : Int) = 3 from rfl) (i3R (i3A (i3M (show (25173 : Int32) = i3 25173 from rfl) (zm_rd (Z := Z20) (ν := ν) (k := 1) (show ((0 : Nat) : Int) = 0 from rfl) (show ((0 : Nat) : Int) = 0 from rfl) (show ((3 : Nat) : Int) = 3 from rfl))) (show (13849 : Int32) = i3 13849 from rfl)) (show (65536 : Int32) = i3 65536 from rfl) (by omega) (by omega) (by omega) (by omega)))
    subst e9
    have r24 := zM_k hZ23I 1 0 0 3 (lo := 0) (hi := 65535) (by decide) rfl
    have q25 := zu_at hZ23
    refine sl_370_1 (ν := ν) hZ23I (zbh (c := 0) (k := 0) hM (Nat.le_of_ble_eq_true rfl)) zC_r (x1 := x1) (by omega) (x2 := x2) (by omega) (x4 := (((Z23 1 0 0 3) / 16) % 7)) (by omega) (x5 := 0) (by omega) (x6 := 0) (by omega) zU_r (by omega) (by omega) (by omega) (by omega) (by omega) (by omega) (zconso rfl (zconso (zvo (rfl : i3 x1 = i3 x1)) (zconso (zvo (rfl : i3 x2 = i3 x2)) (zconso rfl (zconso (zvo (i3R (i3D (zm_rd (Z := Z23) (ν := ν) (k := 1) (show ((0 : Nat) : Int) = 0 from rfl) (show ((0 : Nat) : Int) = 0 from rfl) (show ((3 : Nat) : Int) = 3 from rfl)) (show (16 : Int32) = i3 16 from rfl) (by omega) (by omega) (by omega) (by omega)) (show (7 : Int32) = i3 7 from rfl) (by omega) (by omega) (by omega) (by omega))) (zconso (zvo (show (0 : Int32) = i3 0 from rfl)) (zconso (zvo (show (0 : Int32) = i3 0 from rfl)) rfl))))))) rfl ?_
    intro L29 Z28 y26 y27 hL29 hZ28I kZ28 jZ28 gy26 gy27 gL29_0 gL29_1 gL29_2 gL29_3 gL29_4 gL29_5 q9
    replace hP := zl_e3 hP (Eq.symm q9)
    clear q9
    have hZ28U : zU [] Zs Z28 := zU_t hZ23U jZ28 zU_b0
    have hZ28K : zC [1, 2] Zs Z28 := zC_t hZ23K kZ28 (by decide)
    refine fc_370_2 (i3 x1) (i3 x2) (i3 y26) _ _ _ _ hL29 ?_
    refine wz_i0 (i3O (n := 4400) (i3A (i3A (show (3520 : Int32) = i3 3520 from rfl) (i3M (show (10 : Int32) = i3 10 from rfl) (rfl : i3 x2 = i3 x2))) (show (3 : Int32) = i3 3 from rfl)) (by omega) (by omega) (by omega)) ?_
    obtain ⟨Z30, hZ30⟩ := zx (zu Z28 2 0 0 (3523 + 10 * x2) y26)
    replace hP := zl_e hP hZ30
    have hZ30I := zM_u2 hZ28I hZ30 (lo := 0) (hi := 2147483647) (zs_3520_3 (x := x2) (by omega) (by omega) (by omega)) (by omega) ⟨by decide, by decide⟩ (by simp only [zsp]; omega)
    have hZ30U : zU [] Zs Z30 := zU_u hZ28U hZ30 (Or.inl rfl)
    have hZ30K : zC [1, 2] Zs Z30 := zC_u hZ28K hZ30 (zcl_2w (by omega) rfl)
    intro μ9 e9
    replace e9 := e9.trans (zm_wI (Z := Z28) (ν := ν) hZ30 (show ((0 : Nat) : Int) = 0 from rfl) (show ((0 : Nat) : Int) = 0 from rfl) (i3I (y := (3523 + 10 * x2)) (i3A (i3A (show (3520 : Int32) = i3 3520 from rfl) (i3M (show (10 : Int32) = i3 10 from rfl) (rfl : i3 x2 = i3 x2))) (show (3 : Int32) = i3 3 from rfl)) (by omega) (by omega) (by omega)) (rfl : i3 y26 = i3 y26))
    subst e9
    have r31 := zM_k hZ30I 2 0 0 3500 (lo := 0) (hi := 2) (by decide) rfl
    have q32 := (zu_ne (k' := 2) (b' := 0) (i' := 0) (j' := 3500) hZ30 (fun q => absurd q.2.2.2 (by omega))).trans ((kZ28 2 0 0 3500 (by decide)).trans ((zu_ne (k' := 2) (b' := 0) (i' := 0) (j' := 3500) hZ23 (fun q => absurd q.1 (by decide))).trans ((zu_ne (k' := 2) (b' := 0) (i' := 0) (j' := 3500) hZ20 (fun q => absurd q.2.2.2 (by omega))).trans (zu_ne (k' := 2) (b' := 0) (i' := 0) (j' := 3500) hZ17 (fun q => absurd q.1 (by decide))))))
    obtain ⟨m2, rfl⟩ : ∃ m2, m = m2 + 1 := ⟨m - 1, by omega⟩
    refine wz_kbs (n := 1) (?_)
    exact wz_k1 ⟨m2, by omega, Z30, (x2 + 1), (zconso rfl (zconso (zvo (rfl : i3 x1 = i3 x1)) (zconso (zvo (i3A (rfl : i3 x2 = i3 x2) (show (1 : Int32) = i3 1 from rfl))) (zconso rfl (zconso rfl (zconso rfl (zconso rfl rfl))))))), rfl, hZ30I, hZ30K, hZ30U, by omega, by omega, by omega,  hP⟩
/- yX12_iSeason -/
def zf_370 (Z : qz_Z) : qz_Z := (zlet (zu Z 1 0 0 3 (((25173 * (Z 1 0 0 3)) + 13849) % 65536)) (fun Z3 => (zlet2 (zl_370_3 (((Z3 1 0 0 3) / 16) % 3) 3 Z3 0) (fun Z7 y6 => Z7))))
theorem sp_370 {s : zSM} {Z : qz_Z} {ν : qz_N} (hZ : zM s Z) (gx0 : Z 2 0 0 3500 = 0) (hM : s.2 + 0 ≤ 1000000000) : ∃ P : qz_Z, P = zf_370 Z ∧ (qf_370 [.inr (.inr (some (1, 0, 0)))] (zm Z ν) = some (zm P ν, .inl none) ∧ zM s P ∧ zC [1, 2] Z P ∧ zU [] Z P) := by
  obtain ⟨P, hP⟩ := zx (zf_370 Z)
  refine zc_V (Q := fun P => zM s P ∧ zC [1, 2] Z P ∧ zU [] Z P) hP (fw_370  _ _ ?_)
  replace hP : zE P (zf_370 Z) := hP
  unfold zf_370 at hP
  have r1 := zM_k hZ 2 0 0 3500 (lo := 0) (hi := 2) (by decide) rfl
  have r2 := zM_k hZ 1 0 0 3 (lo := 0) (hi := 65535) (by decide) rfl
  obtain ⟨Z3, hZ3⟩ := zx (zu Z 1 0 0 3 (((25173 * (Z 1 0 0 3)) + 13849) % 65536))
  replace hP := zl_e hP hZ3
  have hZ3I := zM_u hZ hZ3 (lo := 0) (hi := 65535) (by decide) rfl (by omega) ⟨by decide, by decide⟩ (Or.inr (by decide)) rfl
  have hZ3U : zU [] Z Z3 := zU_u zU_r hZ3 (Or.inl rfl)
  have hZ3K : zC [1, 2] Z Z3 := zC_u zC_r hZ3 (by decide)
  intro μ9 e9
  replace e9 := e9.trans (zm_wI (Z := Z) (ν := ν) hZ3 (show ((0 : Nat) : Int) = 0 from rfl) (show ((0 : Nat) : Int) = 0 from rfl) (show ((3 : Nat) : Int) = 3 from rfl) (i3R (i3A (i3M (show (25173 : Int32) = i3 25173 from rfl) (zm_rd (Z := Z) (ν := ν) (k := 1) (show ((0 : Nat) : Int) = 0 from rfl) (show ((0 : Nat) : Int) = 0 from rfl) (show ((3 : Nat) : Int) = 3 from rfl))) (show (13849 : Int32) = i3 13849 from rfl)) (show (65536 : Int32) = i3 65536 from rfl) (by omega) (by omega) (by omega) (by omega)))
  subst e9
  have r4 := zM_k hZ3I 1 0 0 3 (lo := 0) (hi := 65535) (by decide) rfl
  have q5 := zu_at hZ3
  have r8 := zM_k hZ3I 2 0 0 3500 (lo := 0) (hi := 2) (by decide) rfl
  have q9 := zu_ne (k' := 2) (b' := 0) (i' := 0) (j' := 3500) hZ3 (fun q => absurd q.1 (by decide))
  refine sl_370_3 (ν := ν) hZ3I (zbh (c := 0) (k := 0) hM (Nat.le_of_ble_eq_true rfl)) zC_r (x1 := (((Z3 1 0 0 3) / 16) % 3)) (by omega) (x2 := 0) (by omega) zU_r (by omega) (zconso rfl (zconso (zvo (i3R (i3D (zm_rd (Z := Z3) (ν := ν) (k := 1) (show ((0 : Nat) : Int) = 0 from rfl) (show ((0 : Nat) : Int) = 0 from rfl) (show ((3 : Nat) : Int) = 3 from rfl)) (show (16 : Int32) = i3 16 from rfl) (by omega) (by omega) (by omega) (by omega)) (show (3 : Int32) = i3 3 from rfl) (by omega) (by omega) (by omega) (by omega))) (zconso (zvo (show (0 : Int32) = i3 0 from rfl)) (zconso rfl (zconso rfl (zconso rfl (zconso rfl rfl))))))) rfl ?_
  intro L10 Z7 y6 hL10 hZ7I kZ7 jZ7 gy6 gL10_0 q9
  replace hP := zl_e2 hP (Eq.symm q9)
  clear q9
  have hZ7U : zU [] Z Z7 := zU_t hZ3U jZ7 zU_b0
  have hZ7K : zC [1, 2] Z Z7 := zC_t hZ3K kZ7 (by decide)
  have r11 := zM_k hZ7I 2 0 0 3500 (lo := 0) (hi := 2) (by decide) rfl
  refine fc_370_4  _ _ _ _ hL10 ?_
  exact zlV hP ⟨hZ7I, hZ7K, hZ7U⟩
/- yX12_dIsWell -/
def zf_325 (Z : qz_Z) (a1 : Int) : Int := (zlet (zf_329 Z a1) (fun v1 => (if (Z 2 0 0 (203 + 20 * a1)) ≠ (w3 ((w3 ((Z 2 0 0 (204 + 20 * a1)) + (Z 2 0 0 (206 + 20 * a1)))) + v1)) then 0 else (if (Z 2 0 0 (204 + 20 * a1)) < (Z 2 0 0 (205 + 20 * a1)) then 0 else (if (Z 2 0 0 (203 + 20 * a1)) < 1 then 0 else (if 1 < (Z 2 0 0 (210 + 20 * a1)) then (if (Z 2 0 0 (204 + 20 * a1)) ≠ 0 then 0 else 1) else 1))))))
theorem sp_325 {s : zSM} {Z : qz_Z} {ν : qz_N} (hZ : zM s Z) {a1 : Int} (ga1 : 0 ≤ a1 ∧ a1 ≤ 47) (hM : s.2 + 0 ≤ 1000000000) : ∃ P : Int, P = zf_325 Z a1 ∧ (qf_325 [.inr (.inr (some (1, 0, 0))), .inl (i3 a1)] (zm Z ν) = some (zm Z ν, .inl (some (.inl (i3 P)))) ∧ 0 ≤ P ∧ P ≤ 1) := by
  obtain ⟨P, hP⟩ := zx (zf_325 Z a1)
  refine zc_R (Q := fun P => 0 ≤ P ∧ P ≤ 1) hP (fw_325 (i3 a1) _ _ ?_)
  replace hP : zE P (zf_325 Z a1) := hP
  unfold zf_325 at hP
  refine wz_i0 (i3O (n := 4400) (i3A (i3A (show (200 : Int32) = i3 200 from rfl) (i3M (show (20 : Int32) = i3 20 from rfl) (rfl : i3 a1 = i3 a1))) (show (3 : Int32) = i3 3 from rfl)) (by omega) (by omega) (by omega)) ?_
  refine wz_i0 (i3O (n := 4400) (i3A (i3A (show (200 : Int32) = i3 200 from rfl) (i3M (show (20 : Int32) = i3 20 from rfl) (rfl : i3 a1 = i3 a1))) (show (4 : Int32) = i3 4 from rfl)) (by omega) (by omega) (by omega)) ?_
  refine wz_i0 (i3O (n := 4400) (i3A (i3A (show (200 : Int32) = i3 200 from rfl) (i3M (show (20 : Int32) = i3 20 from rfl) (rfl : i3 a1 = i3 a1))) (show (6 : Int32) = i3 6 from rfl)) (by omega) (by omega) (by omega)) ?_
  obtain ⟨v1, hv1, c9, lv1, uv1⟩ := sp_329 (ν := ν) hZ (a1 := a1) (by omega) (zbh (c := 0) (k := 0) hM (Nat.le_of_ble_eq_true rfl))
  replace hP := zl_e hP hv1
  refine wz_cI_of (zas (zcons rfl (zcons (zvi (rfl : i3 a1 = i3 a1)) rfl)) c9) ?_
  clear c9
  have r2 := zM_k hZ 2 0 0 (203 + 20 * a1) (lo := 0) (hi := 40) (by decide) (zs_200_3 (x := a1) (by omega) (by omega) (by omega))
  have r3 := zM_k hZ 2 0 0 (204 + 20 * a1) (lo := 0) (hi := 40) (by decide) (zs_200_4 (x := a1) (by omega) (by omega) (by omega))
  have r4 := zM_f hZ 2 0 0 (206 + 20 * a1)
  have r5 := w3_r ((Z 2 0 0 (204 + 20 * a1)) + (Z 2 0 0 (206 + 20 * a1)))
  have r6 := w3_r ((w3 ((Z 2 0 0 (204 + 20 * a1)) + (Z 2 0 0 (206 + 20 * a1)))) + v1)
  refine wz_br (i3NE (zm_rd (Z := Z) (ν := ν) (k := 2) (show ((0 : Nat) : Int) = 0 from rfl) (show ((0 : Nat) : Int) = 0 from rfl) (i3I (y := (203 + 20 * a1)) (i3A (i3A (show (200 : Int32) = i3 200 from rfl) (i3M (show (20 : Int32) = i3 20 from rfl) (rfl : i3 a1 = i3 a1))) (show (3 : Int32) = i3 3 from rfl)) (by omega) (by omega) (by omega))) (i3W (i3A (i3W (i3A (zm_rd (Z := Z) (ν := ν) (k := 2) (show ((0 : Nat) : Int) = 0 from rfl) (show ((0 : Nat) : Int) = 0 from rfl) (i3I (y := (204 + 20 * a1)) (i3A (i3A (show (200 : Int32) = i3 200 from rfl) (i3M (show (20 : Int32) = i3 20 from rfl) (rfl : i3 a1 = i3 a1))) (show (4 : Int32) = i3 4 from rfl)) (by omega) (by omega) (by omega))) (zm_rd (Z := Z) (ν := ν) (k := 2) (show ((0 : Nat) : Int) = 0 from rfl) (show ((0 : Nat) : Int) = 0 from rfl) (i3I (y := (206 + 20 * a1)) (i3A (i3A (show (200 : Int32) = i3 200 from rfl) (i3M (show (20 : Int32) = i3 20 from rfl) (rfl : i3 a1 = i3 a1))) (show (6 : Int32) = i3 6 from rfl)) (by omega) (by omega) (by omega))))) (rfl : i3 v1 = i3 v1))) (by omega) (by omega) (by omega) (by omega)) (fun h7 => ?_) (fun h7 => ?_)
  · replace hP := zE_p hP h7
    exact zlR hP (show (0 : Int32) = i3 0 from rfl) ⟨by omega, by omega⟩
  · replace hP := zE_n hP h7
    refine wz_i0 (i3O (n := 4400) (i3A (i3A (show (200 : Int32) = i3 200 from rfl) (i3M (show (20 : Int32) = i3 20 from rfl) (rfl : i3 a1 = i3 a1))) (show (5 : Int32) = i3 5 from rfl)) (by omega) (by omega) (by omega)) ?_
    refine wz_i0 (i3O (n := 4400) (i3A (i3A (show (200 : Int32) = i3 200 from rfl) (i3M (show (20 : Int32) = i3 20 from rfl) (rfl : i3 a1 = i3 a1))) (show (4 : Int32) = i3 4 from rfl)) (by omega) (by omega) (by omega)) ?_
    have r8 := zM_k hZ 2 0 0 (205 + 20 * a1) (lo := 0) (hi := 40) (by decide) (zs_200_5 (x := a1) (by omega) (by omega) (by omega))
    refine wz_i0 (Eq.trans (i3L (zm_rd (Z := Z) (ν := ν) (k := 2) (show ((0 : Nat) : Int) = 0 from rfl) (show ((0 : Nat) : Int) = 0 from rfl) (i3I (y := (205 + 20 * a1)) (i3A (i3A (show (200 : Int32) = i3 200 from rfl) (i3M (show (20 : Int32) = i3 20 from rfl) (rfl : i3 a1 = i3 a1))) (show (5 : Int32) = i3 5 from rfl)) (by omega) (by omega) (by omega))) (show (0 : Int32) = i3 0 from rfl) (by omega) (by omega) (by omega) (by omega)) (decide_eq_false (by omega))) ?_
    refine wz_br (i3L (zm_rd (Z := Z) (ν := ν) (k := 2) (show ((0 : Nat) : Int) = 0 from rfl) (show ((0 : Nat) : Int) = 0 from rfl) (i3I (y := (204 + 20 * a1)) (i3A (i3A (show (200 : Int32) = i3 200 from rfl) (i3M (show (20 : Int32) = i3 20 from rfl) (rfl : i3 a1 = i3 a1))) (show (4 : Int32) = i3 4 from rfl)) (by omega) (by omega) (by omega))) (zm_rd (Z := Z) (ν := ν) (k := 2) (show ((0 : Nat) : Int) = 0 from rfl) (show ((0 : Nat) : Int) = 0 from rfl) (i3I (y := (205 + 20 * a1)) (i3A (i3A (show (200 : Int32) = i3 200 from rfl) (i3M (show (20 : Int32) = i3 20 from rfl) (rfl : i3 a1 = i3 a1))) (show (5 : Int32) = i3 5 from rfl)) (by omega) (by omega) (by omega))) (by omega) (by omega) (by omega) (by omega)) (fun h9 => ?_) (fun h9 => ?_)
    · replace hP := zE_p hP h9
      exact zlR hP (show (0 : Int32) = i3 0 from rfl) ⟨by omega, by omega⟩
    · replace hP := zE_n hP h9
      refine wz_i0 (i3O (n := 4400) (i3A (i3A (show (200 : Int32) = i3 200 from rfl) (i3M (show (20 : Int32) = i3 20 from rfl) (rfl : i3 a1 = i3 a1))) (show (3 : Int32) = i3 3 from rfl)) (by omega) (by omega) (by omega)) ?_
      refine wz_br (i3L (zm_rd (Z := Z) (ν := ν) (k := 2) (show ((0 : Nat) : Int) = 0 from rfl) (show ((0 : Nat) : Int) = 0 from rfl) (i3I (y := (203 + 20 * a1)) (i3A (i3A (show (200 : Int32) = i3 200 from rfl) (i3M (show (20 : Int32) = i3 20 from rfl) (rfl : i3 a1 = i3 a1))) (show (3 : Int32) = i3 3 from rfl)) (by omega) (by omega) (by omega))) (show (1 : Int32) = i3 1 from rfl) (by omega) (by omega) (by omega) (by omega)) (fun h10 => ?_) (fun h10 => ?_)
      · replace hP := zE_p hP h10
        exact zlR hP (show (0 : Int32) = i3 0 from rfl) ⟨by omega, by omega⟩
      · replace hP := zE_n hP h10
        refine wz_i0 (Eq.trans (i3L (show (40 : Int32) = i3 40 from rfl) (zm_rd (Z := Z) (ν := ν) (k := 2) (show ((0 : Nat) : Int) = 0 from rfl) (show ((0 : Nat) : Int) = 0 from rfl) (i3I (y := (203 + 20 * a1)) (i3A (i3A (show (200 : Int32) = i3 200 from rfl) (i3M (show (20 : Int32) = i3 20 from rfl) (rfl : i3 a1 = i3 a1))) (show (3 : Int32) = i3 3 from rfl)) (by omega) (by omega) (by omega))) (by omega) (by omega) (by omega) (by omega)) (decide_eq_false (by omega))) ?_
        refine wz_i0 (i3O (n := 4400) (i3A (i3A (show (200 : Int32) = i3 200 from rfl) (i3M (show (20 : Int32) = i3 20 from rfl) (rfl : i3 a1 = i3 a1))) (show (7 : Int32) = i3 7 from rfl)) (by omega) (by omega) (by omega)) ?_
        have r11 := zM_k hZ 2 0 0 (207 + 20 * a1) (lo := 0) (hi := 2000) (by decide) (zs_200_7 (x := a1) (by omega) (by omega) (by omega))
        refine wz_i0 (Eq.trans (i3L (zm_rd (Z := Z) (ν := ν) (k := 2) (show ((0 : Nat) : Int) = 0 from rfl) (show ((0 : Nat) : Int) = 0 from rfl) (i3I (y := (207 + 20 * a1)) (i3A (i3A (show (200 : Int32) = i3 200 from rfl) (i3M (show (20 : Int32) = i3 20 from rfl) (rfl : i3 a1 = i3 a1))) (show (7 : Int32) = i3 7 from rfl)) (by omega) (by omega) (by omega))) (show (0 : Int32) = i3 0 from rfl) (by omega) (by omega) (by omega) (by omega)) (decide_eq_false (by omega))) ?_
        refine wz_i0 (Eq.trans (i3L (show (2000 : Int32) = i3 2000 from rfl) (zm_rd (Z := Z) (ν := ν) (k := 2) (show ((0 : Nat) : Int) = 0 from rfl) (show ((0 : Nat) : Int) = 0 from rfl) (i3I (y := (207 + 20 * a1)) (i3A (i3A (show (200 : Int32) = i3 200 from rfl) (i3M (show (20 : Int32) = i3 20 from rfl) (rfl : i3 a1 = i3 a1))) (show (7 : Int32) = i3 7 from rfl)) (by omega) (by omega) (by omega))) (by omega) (by omega) (by omega) (by omega)) (decide_eq_false (by omega))) ?_
        refine wz_i0 (i3O (n := 4400) (i3A (i3A (show (200 : Int32) = i3 200 from rfl) (i3M (show (20 : Int32) = i3 20 from rfl) (rfl : i3 a1 = i3 a1))) (show (8 : Int32) = i3 8 from rfl)) (by omega) (by omega) (by omega)) ?_
        have r12 := zM_k hZ 2 0 0 (208 + 20 * a1) (lo := 0) (hi := 999) (by decide) (zs_200_8 (x := a1) (by omega) (by omega) (by omega))
        refine wz_i0 (Eq.trans (i3L (zm_rd (Z := Z) (ν := ν) (k := 2) (show ((0 : Nat) : Int) = 0 from rfl) (show ((0 : Nat) : Int) = 0 from rfl) (i3I (y := (208 + 20 * a1)) (i3A (i3A (show (200 : Int32) = i3 200 from rfl) (i3M (show (20 : Int32) = i3 20 from rfl) (rfl : i3 a1 = i3 a1))) (show (8 : Int32) = i3 8 from rfl)) (by omega) (by omega) (by omega))) (show (0 : Int32) = i3 0 from rfl) (by omega) (by omega) (by omega) (by omega)) (decide_eq_false (by omega))) ?_
        refine wz_i0 (Eq.trans (i3L (show (999 : Int32) = i3 999 from rfl) (zm_rd (Z := Z) (ν := ν) (k := 2) (show ((0 : Nat) : Int) = 0 from rfl) (show ((0 : Nat) : Int) = 0 from rfl) (i3I (y := (208 + 20 * a1)) (i3A (i3A (show (200 : Int32) = i3 200 from rfl) (i3M (show (20 : Int32) = i3 20 from rfl) (rfl : i3 a1 = i3 a1))) (show (8 : Int32) = i3 8 from rfl)) (by omega) (by omega) (by omega))) (by omega) (by omega) (by omega) (by omega)) (decide_eq_false (by omega))) ?_
        refine wz_i0 (i3O (n := 4400) (i3A (i3A (show (200 : Int32) = i3 200 from rfl) (i3M (show (20 : Int32) = i3 20 from rfl) (rfl : i3 a1 = i3 a1))) (show (9 : Int32) = i3 9 from rfl)) (by omega) (by omega) (by omega)) ?_
        have r13 := zM_k hZ 2 0 0 (209 + 20 * a1) (lo := -1) (hi := 3) (by decide) (zs_200_9 (x := a1) (by omega) (by omega) (by omega))
        refine wz_i0 (Eq.trans (i3L (zm_rd (Z := Z) (ν := ν) (k := 2) (show ((0 : Nat) : Int) = 0 from rfl) (show ((0 : Nat) : Int) = 0 from rfl) (i3I (y := (209 + 20 * a1)) (i3A (i3A (show (200 : Int32) = i3 200 from rfl) (i3M (show (20 : Int32) = i3 20 from rfl) (rfl : i3 a1 = i3 a1))) (show (9 : Int32) = i3 9 from rfl)) (by omega) (by omega) (by omega))) (show (-1 : Int32) = i3 (-1) from rfl) (by omega) (by omega) (by omega) (by omega)) (decide_eq_false (by omega))) ?_
        refine wz_i0 (Eq.trans (i3L (show (3 : Int32) = i3 3 from rfl) (zm_rd (Z := Z) (ν := ν) (k := 2) (show ((0 : Nat) : Int) = 0 from rfl) (show ((0 : Nat) : Int) = 0 from rfl) (i3I (y := (209 + 20 * a1)) (i3A (i3A (show (200 : Int32) = i3 200 from rfl) (i3M (show (20 : Int32) = i3 20 from rfl) (rfl : i3 a1 = i3 a1))) (show (9 : Int32) = i3 9 from rfl)) (by omega) (by omega) (by omega))) (by omega) (by omega) (by omega) (by omega)) (decide_eq_false (by omega))) ?_
        refine wz_i0 (i3O (n := 4400) (i3A (i3A (show (200 : Int32) = i3 200 from rfl) (i3M (show (20 : Int32) = i3 20 from rfl) (rfl : i3 a1 = i3 a1))) (show (10 : Int32) = i3 10 from rfl)) (by omega) (by omega) (by omega)) ?_
        have r14 := zM_k hZ 2 0 0 (210 + 20 * a1) (lo := 0) (hi := 4) (by decide) (zs_200_10 (x := a1) (by omega) (by omega) (by omega))
        have r15 := zM_pl hZ a1
        have r16 := zM_k hZ 2 0 0 102 (lo := 0) (hi := 48) (by decide) rfl
        refine wz_i0 (Eq.trans (i3L (zm_rd (Z := Z) (ν := ν) (k := 2) (show ((0 : Nat) : Int) = 0 from rfl) (show ((0 : Nat) : Int) = 0 from rfl) (i3I (y := (210 + 20 * a1)) (i3A (i3A (show (200 : Int32) = i3 200 from rfl) (i3M (show (20 : Int32) = i3 20 from rfl) (rfl : i3 a1 = i3 a1))) (show (10 : Int32) = i3 10 from rfl)) (by omega) (by omega) (by omega))) (show (0 : Int32) = i3 0 from rfl) (by omega) (by omega) (by omega) (by omega)) (decide_eq_false (by omega))) ?_
        refine wz_i0 (Eq.trans (i3L (show (4 : Int32) = i3 4 from rfl) (zm_rd (Z := Z) (ν := ν) (k := 2) (show ((0 : Nat) : Int) = 0 from rfl) (show ((0 : Nat) : Int) = 0 from rfl) (i3I (y := (210 + 20 * a1)) (i3A (i3A (show (200 : Int32) = i3 200 from rfl) (i3M (show (20 : Int32) = i3 20 from rfl) (rfl : i3 a1 = i3 a1))) (show (10 : Int32) = i3 10 from rfl)) (by omega) (by omega) (by omega))) (by omega) (by omega) (by omega) (by omega)) (decide_eq_false (by omega))) ?_
        refine wz_i0 (i3O (n := 4400) (i3A (i3A (show (200 : Int32) = i3 200 from rfl) (i3M (show (20 : Int32) = i3 20 from rfl) (rfl : i3 a1 = i3 a1))) (show (10 : Int32) = i3 10 from rfl)) (by omega) (by omega) (by omega)) ?_
        refine wz_br (i3L (show (1 : Int32) = i3 1 from rfl) (zm_rd (Z := Z) (ν := ν) (k := 2) (show ((0 : Nat) : Int) = 0 from rfl) (show ((0 : Nat) : Int) = 0 from rfl) (i3I (y := (210 + 20 * a1)) (i3A (i3A (show (200 : Int32) = i3 200 from rfl) (i3M (show (20 : Int32) = i3 20 from rfl) (rfl : i3 a1 = i3 a1))) (show (10 : Int32) = i3 10 from rfl)) (by omega) (by omega) (by omega))) (by omega) (by omega) (by omega) (by omega)) (fun h17 => ?_) (fun h17 => ?_)
        · replace hP := zE_p hP h17
          refine wz_i0 (i3O (n := 4400) (i3A (i3A (show (200 : Int32) = i3 200 from rfl) (i3M (show (20 : Int32) = i3 20 from rfl) (rfl : i3 a1 = i3 a1))) (show (4 : Int32) = i3 4 from rfl)) (by omega) (by omega) (by omega)) ?_
          refine wz_br (i3NE (zm_rd (Z := Z) (ν := ν) (k := 2) (show ((0 : Nat) : Int) = 0 from rfl) (show ((0 : Nat) : Int) = 0 from rfl) (i3I (y := (204 + 20 * a1)) (i3A (i3A (show (200 : Int32) = i3 200 from rfl) (i3M (show (20 : Int32) = i3 20 from rfl) (rfl : i3 a1 = i3 a1))) (show (4 : Int32) = i3 4 from rfl)) (by omega) (by omega) (by omega))) (show (0 : Int32) = i3 0 from rfl) (by omega) (by omega) (by omega) (by omega)) (fun h18 => ?_) (fun h18 => ?_)
          · replace hP := zE_p hP h18
            exact zlR hP (show (0 : Int32) = i3 0 from rfl) ⟨by omega, by omega⟩
          · replace hP := zE_n hP h18
            exact zlR hP (show (1 : Int32) = i3 1 from rfl) ⟨by omega, by omega⟩
        · replace hP := zE_n hP h17
          exact zlR hP (show (1 : Int32) = i3 1 from rfl) ⟨by omega, by omega⟩
/- yX12_dSound -/
def zl_331_1 : Nat → qz_Z → Int → Int → Int × Int
  | 0, Z, x1, x2 => (x1, x2)
  | m + 1, Z, x1, x2 => (if (Z 2 0 0 102) ≤ x2 then (x1, x2) else (if x1 = 0 then zl_331_1 m Z 0 (x2 + 1) else (zlet (zf_325 Z x2) (fun v4 => (if v4 = 0 then zl_331_1 m Z 0 (x2 + 1) else zl_331_1 m Z 1 (x2 + 1))))))
theorem sl_331_1 {s : zSM} {Z : qz_Z} {ν : qz_N} (hZ : zM s Z) (hM : s.2 + 0 ≤ 1000000000) {x1 : Int} (gx1 : 0 ≤ x1 ∧ x1 ≤ 1) {x2 : Int} (gx2 : 0 ≤ x2 ∧ x2 ≤ 48) {k : wz_K} {R : wz_R} {L : qz_L} (hL : qz_fg [true, true, true] L = [some (.inr (.inr (some (1, 0, 0)))), some (.inl (i3 x1)), some (.inl (i3 x2))]) {T : Int × Int} (hP : zE T (zl_331_1 ((48 - x2).toNat + 1) Z x1 x2)) (hk : ∀ (L9 : qz_L) (yx1 yx2 : Int), qz_fg [true, true, false] L9 = [some (.inr (.inr (some (1, 0, 0)))), some (.inl (i3 yx1)), none] → (0 ≤ yx1 ∧ yx1 ≤ 1) → (0 ≤ yx2 ∧ yx2 ≤ 48) → zE T ((yx1, yx2)) → k 0 (L9, [], zm Z ν)) : wz_loop qb_331_1 65536 k R (L, [], zm Z ν) := by
  refine wz_lp sb_331_1 (fun m x => ∃ x1 : Int, ∃ x2 : Int, qz_fg [true, true, true] x.1 = [some (.inr (.inr (some (1, 0, 0)))), some (.inl (i3 x1)), some (.inl (i3 x2))] ∧ x.2 = ([], zm Z ν) ∧ m = (48 - x2).toNat ∧ (0 ≤ x1 ∧ x1 ≤ 1) ∧ (0 ≤ x2 ∧ x2 ≤ 48) ∧ zE T (zl_331_1 (m + 1) Z x1 x2)) ?_ 65536 ((48 - x2).toNat) _ (by omega) ⟨x1, x2, hL, rfl, rfl, gx1, gx2, hP⟩
  clear hP gx1 gx2 hL
  clear x1 x2
  rintro m ⟨L, st, μ⟩ ⟨x1, x2, hL, hx, hm, gx1, gx2, hP⟩
  cases hx
  refine fb_331_1 (i3 x1) (i3 x2) _ _ _ _ hL ?_
  have r1 := zM_k hZ 2 0 0 102 (lo := 0) (hi := 48) (by decide) rfl
  refine wz_br (i3Le (zm_rd (Z := Z) (ν := ν) (k := 2) (show ((0 : Nat) : Int) = 0 from rfl) (show ((0 : Nat) : Int) = 0 from rfl) (show ((102 : Nat) : Int) = 102 from rfl)) (rfl : i3 x2 = i3 x2) (by omega) (by omega) (by omega) (by omega)) (fun h2 => ?_) (fun h2 => ?_)
  · replace hP := zE_p hP h2
    exact hk _ _ _ (zconso rfl (zconso (zvo (rfl : i3 x1 = i3 x1)) (zconso rfl rfl)))  (by omega) (by omega)  hP
  · replace hP := zE_n hP h2
    refine wz_br (i3E (rfl : i3 x1 = i3 x1) (show (0 : Int32) = i3 0 from rfl) (by omega) (by omega) (by omega) (by omega)) (fun h3 => ?_) (fun h3 => ?_)
    · replace hP := zE_p hP h3
      obtain ⟨m2, rfl⟩ : ∃ m2, m = m2 + 1 := ⟨m - 1, by omega⟩
      exact wz_k1 ⟨m2, by omega, 0, (x2 + 1), (zconso rfl (zconso (zvo (show (0 : Int32) = i3 0 from rfl)) (zconso (zvo (i3A (rfl : i3 x2 = i3 x2) (show (1 : Int32) = i3 1 from rfl))) rfl))), rfl,  by omega, by omega, by omega,  hP⟩
    · replace hP := zE_n hP h3
      obtain ⟨v4, hv4, c9, lv4, uv4⟩ := sp_325 (ν := ν) hZ (a1 := x2) (by omega) (zbh (c := 0) (k := 0) hM (Nat.le_of_ble_eq_true rfl))
      replace hP := zl_e hP hv4
      refine wz_cI_of (zas (zcons rfl (zcons (zvi (rfl : i3 x2 = i3 x2)) rfl)) c9) ?_
      clear c9
      refine wz_br (i3E (rfl : i3 v4 = i3 v4) (show (0 : Int32) = i3 0 from rfl) (by omega) (by omega) (by omega) (by omega)) (fun h5 => ?_) (fun h5 => ?_)
      · replace hP := zE_p hP h5
        obtain ⟨m2, rfl⟩ : ∃ m2, m = m2 + 1 := ⟨m - 1, by omega⟩
        exact wz_k1 ⟨m2, by omega, 0, (x2 + 1), (zconso rfl (zconso (zvo (show (0 : Int32) = i3 0 from rfl)) (zconso (zvo (i3A (rfl : i3 x2 = i3 x2) (show (1 : Int32) = i3 1 from rfl))) rfl))), rfl,  by omega, by omega, by omega,  hP⟩
      · replace hP := zE_n hP h5
        obtain ⟨m2, rfl⟩ : ∃ m2, m = m2 + 1 := ⟨m - 1, by omega⟩
        exact wz_k1 ⟨m2, by omega, 1, (x2 + 1), (zconso rfl (zconso (zvo (show (1 : Int32) = i3 1 from rfl)) (zconso (zvo (i3A (rfl : i3 x2 = i3 x2) (show (1 : Int32) = i3 1 from rfl))) rfl))), rfl,  by omega, by omega, by omega,  hP⟩
/- yX12_dSound -/
def zl_331_2 : Nat → qz_Z → Int → Int → Int × Int
  | 0, Z, x1, x2 => (x1, x2)
  | m + 1, Z, x1, x2 => (if (Z 2 0 0 101) ≤ x2 then (x1, x2) else (if x1 = 0 then zl_331_2 m Z 0 (x2 + 1) else (zlet (zf_324 Z x2 3) (fun v4 => (zlet (zf_324 Z x2 4) (fun v5 => (zlet (zf_324 Z x2 5) (fun v6 => (zlet (zf_324 Z x2 8) (fun v7 => (if v4 ≠ (w3 ((w3 (v5 + v6)) + v7)) then zl_331_2 m Z 0 (x2 + 1) else zl_331_2 m Z 1 (x2 + 1))))))))))))
theorem sl_331_2 {s : zSM} {Z : qz_Z} {ν : qz_N} (hZ : zM s Z) (hM : s.2 + 0 ≤ 1000000000) {x1 : Int} (gx1 : 0 ≤ x1 ∧ x1 ≤ 1) {x2 : Int} (gx2 : 0 ≤ x2 ∧ x2 ≤ 6) {k : wz_K} {R : wz_R} {L : qz_L} (hL : qz_fg [true, true, true] L = [some (.inr (.inr (some (1, 0, 0)))), some (.inl (i3 x1)), some (.inl (i3 x2))]) {T : Int × Int} (hP : zE T (zl_331_2 ((6 - x2).toNat + 1) Z x1 x2)) (hk : ∀ (L9 : qz_L) (yx1 yx2 : Int), qz_fg [false, true, false] L9 = [none, some (.inl (i3 yx1)), none] → (0 ≤ yx1 ∧ yx1 ≤ 1) → (0 ≤ yx2 ∧ yx2 ≤ 6) → zE T ((yx1, yx2)) → k 0 (L9, [], zm Z ν)) : wz_loop qb_331_2 65536 k R (L, [], zm Z ν) := by
  refine wz_lp sb_331_2 (fun m x => ∃ x1 : Int, ∃ x2 : Int, qz_fg [true, true, true] x.1 = [some (.inr (.inr (some (1, 0, 0)))), some (.inl (i3 x1)), some (.inl (i3 x2))] ∧ x.2 = ([], zm Z ν) ∧ m = (6 - x2).toNat ∧ (0 ≤ x1 ∧ x1 ≤ 1) ∧ (0 ≤ x2 ∧ x2 ≤ 6) ∧ zE T (zl_331_2 (m + 1) Z x1 x2)) ?_ 65536 ((6 - x2).toNat) _ (by omega) ⟨x1, x2, hL, rfl, rfl, gx1, gx2, hP⟩
  clear hP gx1 gx2 hL
  clear x1 x2
  rintro m ⟨L, st, μ⟩ ⟨x1, x2, hL, hx, hm, gx1, gx2, hP⟩
  cases hx
  refine fb_331_2 (i3 x1) (i3 x2) _ _ _ _ hL ?_
  have r1 := zM_k hZ 2 0 0 101 (lo := 0) (hi := 6) (by decide) rfl
  refine wz_br (i3Le (zm_rd (Z := Z) (ν := ν) (k := 2) (show ((0 : Nat) : Int) = 0 from rfl) (show ((0 : Nat) : Int) = 0 from rfl) (show ((101 : Nat) : Int) = 101 from rfl)) (rfl : i3 x2 = i3 x2) (by omega) (by omega) (by omega) (by omega)) (fun h2 => ?_) (fun h2 => ?_)
  · replace hP := zE_p hP h2
    exact hk _ _ _ (zconso rfl (zconso (zvo (rfl : i3 x1 = i3 x1)) (zconso rfl rfl)))  (by omega) (by omega)  hP
  · replace hP := zE_n hP h2
    refine wz_br (i3E (rfl : i3 x1 = i3 x1) (show (0 : Int32) = i3 0 from rfl) (by omega) (by omega) (by omega) (by omega)) (fun h3 => ?_) (fun h3 => ?_)
    · replace hP := zE_p hP h3
      obtain ⟨m2, rfl⟩ : ∃ m2, m = m2 + 1 := ⟨m - 1, by omega⟩
      exact wz_k1 ⟨m2, by omega, 0, (x2 + 1), (zconso rfl (zconso (zvo (show (0 : Int32) = i3 0 from rfl)) (zconso (zvo (i3A (rfl : i3 x2 = i3 x2) (show (1 : Int32) = i3 1 from rfl))) rfl))), rfl,  by omega, by omega, by omega,  hP⟩
    · replace hP := zE_n hP h3
      obtain ⟨v4, hv4, c9, lv4, uv4⟩ := sp_324 (ν := ν) hZ (a1 := x2) (by omega) (a2 := 3) (by omega) (zbh (c := 0) (k := 0) hM (Nat.le_of_ble_eq_true rfl))
      replace hP := zl_e hP hv4
      refine wz_cI_of (zas (zcons rfl (zcons (zvi (rfl : i3 x2 = i3 x2)) (zcons (zvi (show (3 : Int32) = i3 3 from rfl)) rfl))) c9) ?_
      clear c9
      obtain ⟨v5, hv5, c9, lv5, uv5⟩ := sp_324 (ν := ν) hZ (a1 := x2) (by omega) (a2 := 4) (by omega) (zbh (c := 0) (k := 0) hM (Nat.le_of_ble_eq_true rfl))
      replace hP := zl_e hP hv5
      refine wz_cI_of (zas (zcons rfl (zcons (zvi (rfl : i3 x2 = i3 x2)) (zcons (zvi (show (4 : Int32) = i3 4 from rfl)) rfl))) c9) ?_
      clear c9
      obtain ⟨v6, hv6, c9, lv6, uv6⟩ := sp_324 (ν := ν) hZ (a1 := x2) (by omega) (a2 := 5) (by omega) (zbh (c := 0) (k := 0) hM (Nat.le_of_ble_eq_true rfl))
      replace hP := zl_e hP hv6
      refine wz_cI_of (zas (zcons rfl (zcons (zvi (rfl : i3 x2 = i3 x2)) (zcons (zvi (show (5 : Int32) = i3 5 from rfl)) rfl))) c9) ?_
      clear c9
      obtain ⟨v7, hv7, c9, lv7, uv7⟩ := sp_324 (ν := ν) hZ (a1 := x2) (by omega) (a2 := 8) (by omega) (zbh (c := 0) (k := 0) hM (Nat.le_of_ble_eq_true rfl))
      replace hP := zl_e hP hv7
      refine wz_cI_of (zas (zcons rfl (zcons (zvi (rfl : i3 x2 = i3 x2)) (zcons (zvi (show (8 : Int32) = i3 8 from rfl)) rfl))) c9) ?_
      clear c9
      have r8 := w3_r (v5 + v6)
      have r9 := w3_r ((w3 (v5 + v6)) + v7)
      refine wz_br (i3NE (rfl : i3 v4 = i3 v4) (i3W (i3A (i3W (i3A (rfl : i3 v5 = i3 v5) (rfl : i3 v6 = i3 v6))) (rfl : i3 v7 = i3 v7))) (by omega) (by omega) (by omega) (by omega)) (fun h10 => ?_) (fun h10 => ?_)
      · replace hP := zE_p hP h10
        obtain ⟨m2, rfl⟩ : ∃ m2, m = m2 + 1 := ⟨m - 1, by omega⟩
        exact wz_k1 ⟨m2, by omega, 0, (x2 + 1), (zconso rfl (zconso (zvo (show (0 : Int32) = i3 0 from rfl)) (zconso (zvo (i3A (rfl : i3 x2 = i3 x2) (show (1 : Int32) = i3 1 from rfl))) rfl))), rfl,  by omega, by omega, by omega,  hP⟩
      · replace hP := zE_n hP h10
        obtain ⟨m2, rfl⟩ : ∃ m2, m = m2 + 1 := ⟨m - 1, by omega⟩
        exact wz_k1 ⟨m2, by omega, 1, (x2 + 1), (zconso rfl (zconso (zvo (show (1 : Int32) = i3 1 from rfl)) (zconso (zvo (i3A (rfl : i3 x2 = i3 x2) (show (1 : Int32) = i3 1 from rfl))) rfl))), rfl,  by omega, by omega, by omega,  hP⟩
/- yX12_dSound -/
def zf_331 (Z : qz_Z) : Int := (zlet (zf_321 Z) (fun v1 => (if v1 < 0 then (zlet2 (zl_331_1 49 Z 0 0) (fun y3 y4 => (zlet2 (zl_331_2 7 Z y3 0) (fun y6 y7 => y6)))) else (zlet2 (zl_331_1 49 Z 1 0) (fun y9 y10 => (zlet2 (zl_331_2 7 Z y9 0) (fun y12 y13 => y12)))))))
theorem sp_331 {s : zSM} {Z : qz_Z} {ν : qz_N} (hZ : zM s Z) (hM : s.2 + 0 ≤ 1000000000) : ∃ P : Int, P = zf_331 Z ∧ (qf_331 [.inr (.inr (some (1, 0, 0)))] (zm Z ν) = some (zm Z ν, .inl (some (.inl (i3 P)))) ∧ 0 ≤ P ∧ P ≤ 1) := by
  obtain ⟨P, hP⟩ := zx (zf_331 Z)
  refine zc_R (Q := fun P => 0 ≤ P ∧ P ≤ 1) hP (fw_331  _ _ ?_)
  replace hP : zE P (zf_331 Z) := hP
  unfold zf_331 at hP
  obtain ⟨v1, hv1, c9, lv1, uv1⟩ := sp_321 (ν := ν) hZ (zbh (c := 0) (k := 0) hM (Nat.le_of_ble_eq_true rfl))
  replace hP := zl_e hP hv1
  refine wz_cI_of (zas (zcons rfl rfl) c9) ?_
  clear c9
  refine wz_br (i3L (rfl : i3 v1 = i3 v1) (show (0 : Int32) = i3 0 from rfl) (by omega) (by omega) (by omega) (by omega)) (fun h2 => ?_) (fun h2 => ?_)
  · replace hP := zE_p hP h2
    refine sl_331_1 (ν := ν) hZ (zbh (c := 0) (k := 0) hM (Nat.le_of_ble_eq_true rfl)) (x1 := 0) (by omega) (x2 := 0) (by omega)  (zconso rfl (zconso (zvo (show (0 : Int32) = i3 0 from rfl)) (zconso (zvo (show (0 : Int32) = i3 0 from rfl)) rfl))) rfl ?_
    intro L5 y3 y4 hL5 gy3 gy4 q9
    replace hP := zl_e2 hP (Eq.symm q9)
    clear q9
    refine fc_331_4 (i3 y3) _ _ _ _ hL5 ?_
    refine sl_331_2 (ν := ν) hZ (zbh (c := 0) (k := 0) hM (Nat.le_of_ble_eq_true rfl)) (x1 := y3) (by omega) (x2 := 0) (by omega)  (zconso rfl (zconso (zvo (rfl : i3 y3 = i3 y3)) (zconso (zvo (show (0 : Int32) = i3 0 from rfl)) rfl))) rfl ?_
    intro L8 y6 y7 hL8 gy6 gy7 q9
    replace hP := zl_e2 hP (Eq.symm q9)
    clear q9
    refine fc_331_3 (i3 y6) _ _ _ _ hL8 ?_
    refine wz_i1 (i3B (rfl : i3 y6 = i3 y6) (by omega)) ?_
    exact zlR hP (rfl : i3 y6 = i3 y6) ⟨by omega, by omega⟩
  · replace hP := zE_n hP h2
    refine sl_331_1 (ν := ν) hZ (zbh (c := 0) (k := 0) hM (Nat.le_of_ble_eq_true rfl)) (x1 := 1) (by omega) (x2 := 0) (by omega)  (zconso rfl (zconso (zvo (show (1 : Int32) = i3 1 from rfl)) (zconso (zvo (show (0 : Int32) = i3 0 from rfl)) rfl))) rfl ?_
    intro L11 y9 y10 hL11 gy9 gy10 q9
    replace hP := zl_e2 hP (Eq.symm q9)
    clear q9
    refine fc_331_4 (i3 y9) _ _ _ _ hL11 ?_
    refine sl_331_2 (ν := ν) hZ (zbh (c := 0) (k := 0) hM (Nat.le_of_ble_eq_true rfl)) (x1 := y9) (by omega) (x2 := 0) (by omega)  (zconso rfl (zconso (zvo (rfl : i3 y9 = i3 y9)) (zconso (zvo (show (0 : Int32) = i3 0 from rfl)) rfl))) rfl ?_
    intro L14 y12 y13 hL14 gy12 gy13 q9
    replace hP := zl_e2 hP (Eq.symm q9)
    clear q9
    refine fc_331_3 (i3 y12) _ _ _ _ hL14 ?_
    refine wz_i1 (i3B (rfl : i3 y12 = i3 y12) (by omega)) ?_
    exact zlR hP (rfl : i3 y12 = i3 y12) ⟨by omega, by omega⟩
/- yX12_rIsOlder -/
def zf_473 (Z : qz_Z) (a1 : Int) : Int := (if (Z 2 0 0 (207 + 20 * (Z 2 0 0 (2010 + 16 * a1)))) < (Z 2 0 0 (2024 + 16 * a1)) then 0 else (if (Z 2 0 0 (208 + 20 * (Z 2 0 0 (2010 + 16 * a1)))) < (Z 2 0 0 (2025 + 16 * a1)) then 0 else 1))
theorem sp_473 {s : zSM} {Z : qz_Z} {ν : qz_N} (hZ : zM s Z) {a1 : Int} (ga1 : 0 ≤ a1 ∧ a1 ≤ 59) (hM : s.2 + 0 ≤ 1000000000) : ∃ P : Int, P = zf_473 Z a1 ∧ (qf_473 [.inr (.inr (some (1, 0, 0))), .inl (i3 a1)] (zm Z ν) = some (zm Z ν, .inl (some (.inl (i3 P)))) ∧ 0 ≤ P ∧ P ≤ 1) := by
  obtain ⟨P, hP⟩ := zx (zf_473 Z a1)
  refine zc_R (Q := fun P => 0 ≤ P ∧ P ≤ 1) hP (fw_473 (i3 a1) _ _ ?_)
  replace hP : zE P (zf_473 Z a1) := hP
  unfold zf_473 at hP
  refine wz_i0 (i3O (n := 4400) (i3A (i3A (show (2010 : Int32) = i3 2010 from rfl) (i3M (show (16 : Int32) = i3 16 from rfl) (rfl : i3 a1 = i3 a1))) (show (0 : Int32) = i3 0 from rfl)) (by omega) (by omega) (by omega)) ?_
  have r1 := zM_k hZ 2 0 0 (2010 + 16 * a1) (lo := 0) (hi := 47) (by decide) (zs_2010_0 (x := a1) (by omega) (by omega) (by omega))
  refine wz_i0 (i3O (n := 4400) (i3A (i3A (show (200 : Int32) = i3 200 from rfl) (i3M (show (20 : Int32) = i3 20 from rfl) (zm_rd (Z := Z) (ν := ν) (k := 2) (show ((0 : Nat) : Int) = 0 from rfl) (show ((0 : Nat) : Int) = 0 from rfl) (i3I (y := (2010 + 16 * a1)) (i3A (i3A (show (2010 : Int32) = i3 2010 from rfl) (i3M (show (16 : Int32) = i3 16 from rfl) (rfl : i3 a1 = i3 a1))) (show (0 : Int32) = i3 0 from rfl)) (by omega) (by omega) (by omega))))) (show (7 : Int32) = i3 7 from rfl)) (by omega) (by omega) (by omega)) ?_
  refine wz_i0 (i3O (n := 4400) (i3A (i3A (show (2010 : Int32) = i3 2010 from rfl) (i3M (show (16 : Int32) = i3 16 from rfl) (rfl : i3 a1 = i3 a1))) (show (14 : Int32) = i3 14 from rfl)) (by omega) (by omega) (by omega)) ?_
  have r2 := zM_k hZ 2 0 0 (207 + 20 * (Z 2 0 0 (2010 + 16 * a1))) (lo := 0) (hi := 2000) (by decide) (zs_200_7 (x := (Z 2 0 0 (2010 + 16 * a1))) (by omega) (by omega) (by omega))
  have r3 := zM_k hZ 2 0 0 (2024 + 16 * a1) (lo := -1) (hi := 2000) (by decide) (zs_2010_14 (x := a1) (by omega) (by omega) (by omega))
  refine wz_br (i3L (zm_rd (Z := Z) (ν := ν) (k := 2) (show ((0 : Nat) : Int) = 0 from rfl) (show ((0 : Nat) : Int) = 0 from rfl) (i3I (y := (207 + 20 * (Z 2 0 0 (2010 + 16 * a1)))) (i3A (i3A (show (200 : Int32) = i3 200 from rfl) (i3M (show (20 : Int32) = i3 20 from rfl) (zm_rd (Z := Z) (ν := ν) (k := 2) (show ((0 : Nat) : Int) = 0 from rfl) (show ((0 : Nat) : Int) = 0 from rfl) (i3I (y := (2010 + 16 * a1)) (i3A (i3A (show (2010 : Int32) = i3 2010 from rfl) (i3M (show (16 : Int32) = i3 16 from rfl) (rfl : i3 a1 = i3 a1))) (show (0 : Int32) = i3 0 from rfl)) (by omega) (by omega) (by omega))))) (show (7 : Int32) = i3 7 from rfl)) (by omega) (by omega) (by omega))) (zm_rd (Z := Z) (ν := ν) (k := 2) (show ((0 : Nat) : Int) = 0 from rfl) (show ((0 : Nat) : Int) = 0 from rfl) (i3I (y := (2024 + 16 * a1)) (i3A (i3A (show (2010 : Int32) = i3 2010 from rfl) (i3M (show (16 : Int32) = i3 16 from rfl) (rfl : i3 a1 = i3 a1))) (show (14 : Int32) = i3 14 from rfl)) (by omega) (by omega) (by omega))) (by omega) (by omega) (by omega) (by omega)) (fun h4 => ?_) (fun h4 => ?_)
  · replace hP := zE_p hP h4
    exact zlR hP (show (0 : Int32) = i3 0 from rfl) ⟨by omega, by omega⟩
  · replace hP := zE_n hP h4
    refine wz_i0 (i3O (n := 4400) (i3A (i3A (show (200 : Int32) = i3 200 from rfl) (i3M (show (20 : Int32) = i3 20 from rfl) (zm_rd (Z := Z) (ν := ν) (k := 2) (show ((0 : Nat) : Int) = 0 from rfl) (show ((0 : Nat) : Int) = 0 from rfl) (i3I (y := (2010 + 16 * a1)) (i3A (i3A (show (2010 : Int32) = i3 2010 from rfl) (i3M (show (16 : Int32) = i3 16 from rfl) (rfl : i3 a1 = i3 a1))) (show (0 : Int32) = i3 0 from rfl)) (by omega) (by omega) (by omega))))) (show (8 : Int32) = i3 8 from rfl)) (by omega) (by omega) (by omega)) ?_
    refine wz_i0 (i3O (n := 4400) (i3A (i3A (show (2010 : Int32) = i3 2010 from rfl) (i3M (show (16 : Int32) = i3 16 from rfl) (rfl : i3 a1 = i3 a1))) (show (15 : Int32) = i3 15 from rfl)) (by omega) (by omega) (by omega)) ?_
    have r5 := zM_k hZ 2 0 0 (208 + 20 * (Z 2 0 0 (2010 + 16 * a1))) (lo := 0) (hi := 999) (by decide) (zs_200_8 (x := (Z 2 0 0 (2010 + 16 * a1))) (by omega) (by omega) (by omega))
    have r6 := zM_k hZ 2 0 0 (2025 + 16 * a1) (lo := -1) (hi := 999) (by decide) (zs_2010_15 (x := a1) (by omega) (by omega) (by omega))
    refine wz_br (i3L (zm_rd (Z := Z) (ν := ν) (k := 2) (show ((0 : Nat) : Int) = 0 from rfl) (show ((0 : Nat) : Int) = 0 from rfl) (i3I (y := (208 + 20 * (Z 2 0 0 (2010 + 16 * a1)))) (i3A (i3A (show (200 : Int32) = i3 200 from rfl) (i3M (show (20 : Int32) = i3 20 from rfl) (zm_rd (Z := Z) (ν := ν) (k := 2) (show ((0 : Nat) : Int) = 0 from rfl) (show ((0 : Nat) : Int) = 0 from rfl) (i3I (y := (2010 + 16 * a1)) (i3A (i3A (show (2010 : Int32) = i3 2010 from rfl) (i3M (show (16 : Int32) = i3 16 from rfl) (rfl : i3 a1 = i3 a1))) (show (0 : Int32) = i3 0 from rfl)) (by omega) (by omega) (by omega))))) (show (8 : Int32) = i3 8 from rfl)) (by omega) (by omega) (by omega))) (zm_rd (Z := Z) (ν := ν) (k := 2) (show ((0 : Nat) : Int) = 0 from rfl) (show ((0 : Nat) : Int) = 0 from rfl) (i3I (y := (2025 + 16 * a1)) (i3A (i3A (show (2010 : Int32) = i3 2010 from rfl) (i3M (show (16 : Int32) = i3 16 from rfl) (rfl : i3 a1 = i3 a1))) (show (15 : Int32) = i3 15 from rfl)) (by omega) (by omega) (by omega))) (by omega) (by omega) (by omega) (by omega)) (fun h7 => ?_) (fun h7 => ?_)
    · replace hP := zE_p hP h7
      exact zlR hP (show (0 : Int32) = i3 0 from rfl) ⟨by omega, by omega⟩
    · replace hP := zE_n hP h7
      exact zlR hP (show (1 : Int32) = i3 1 from rfl) ⟨by omega, by omega⟩
/- yX12_rIsPlaced -/
def zf_474 (Z : qz_Z) (a1 : Int) : Int := (if 1 < (Z 2 0 0 (210 + 20 * a1)) then (if (Z 2 0 0 (211 + 20 * a1)) ≠ (-1) then 0 else 1) else (if (Z 2 0 0 (211 + 20 * a1)) = 6 then 1 else (if (Z 2 0 0 (211 + 20 * a1)) < 0 then 0 else (if ((Z 2 0 0 1200) - 1) < (Z 2 0 0 (211 + 20 * a1)) then 0 else 1))))
theorem sp_474 {s : zSM} {Z : qz_Z} {ν : qz_N} (hZ : zM s Z) {a1 : Int} (ga1 : 0 ≤ a1 ∧ a1 ≤ 47) (hM : s.2 + 0 ≤ 1000000000) : ∃ P : Int, P = zf_474 Z a1 ∧ (qf_474 [.inr (.inr (some (1, 0, 0))), .inl (i3 a1)] (zm Z ν) = some (zm Z ν, .inl (some (.inl (i3 P)))) ∧ 0 ≤ P ∧ P ≤ 1) := by
  obtain ⟨P, hP⟩ := zx (zf_474 Z a1)
  refine zc_R (Q := fun P => 0 ≤ P ∧ P ≤ 1) hP (fw_474 (i3 a1) _ _ ?_)
  replace hP : zE P (zf_474 Z a1) := hP
  unfold zf_474 at hP
  refine wz_i0 (i3O (n := 4400) (i3A (i3A (show (200 : Int32) = i3 200 from rfl) (i3M (show (20 : Int32) = i3 20 from rfl) (rfl : i3 a1 = i3 a1))) (show (11 : Int32) = i3 11 from rfl)) (by omega) (by omega) (by omega)) ?_
  refine wz_i0 (i3O (n := 4400) (i3A (i3A (show (200 : Int32) = i3 200 from rfl) (i3M (show (20 : Int32) = i3 20 from rfl) (rfl : i3 a1 = i3 a1))) (show (10 : Int32) = i3 10 from rfl)) (by omega) (by omega) (by omega)) ?_
  have r1 := zM_k hZ 2 0 0 (210 + 20 * a1) (lo := 0) (hi := 4) (by decide) (zs_200_10 (x := a1) (by omega) (by omega) (by omega))
  have r2 := zM_pl hZ a1
  have r3 := zM_k hZ 2 0 0 102 (lo := 0) (hi := 48) (by decide) rfl
  refine wz_br (i3L (show (1 : Int32) = i3 1 from rfl) (zm_rd (Z := Z) (ν := ν) (k := 2) (show ((0 : Nat) : Int) = 0 from rfl) (show ((0 : Nat) : Int) = 0 from rfl) (i3I (y := (210 + 20 * a1)) (i3A (i3A (show (200 : Int32) = i3 200 from rfl) (i3M (show (20 : Int32) = i3 20 from rfl) (rfl : i3 a1 = i3 a1))) (show (10 : Int32) = i3 10 from rfl)) (by omega) (by omega) (by omega))) (by omega) (by omega) (by omega) (by omega)) (fun h4 => ?_) (fun h4 => ?_)
  · replace hP := zE_p hP h4
    have r5 := zM_k hZ 2 0 0 (211 + 20 * a1) (lo := -1) (hi := 6) (by decide) (zs_200_11 (x := a1) (by omega) (by omega) (by omega))
    refine wz_br (i3NE (zm_rd (Z := Z) (ν := ν) (k := 2) (show ((0 : Nat) : Int) = 0 from rfl) (show ((0 : Nat) : Int) = 0 from rfl) (i3I (y := (211 + 20 * a1)) (i3A (i3A (show (200 : Int32) = i3 200 from rfl) (i3M (show (20 : Int32) = i3 20 from rfl) (rfl : i3 a1 = i3 a1))) (show (11 : Int32) = i3 11 from rfl)) (by omega) (by omega) (by omega))) (show (-1 : Int32) = i3 (-1) from rfl) (by omega) (by omega) (by omega) (by omega)) (fun h6 => ?_) (fun h6 => ?_)
    · replace hP := zE_p hP h6
      exact zlR hP (show (0 : Int32) = i3 0 from rfl) ⟨by omega, by omega⟩
    · replace hP := zE_n hP h6
      exact zlR hP (show (1 : Int32) = i3 1 from rfl) ⟨by omega, by omega⟩
  · replace hP := zE_n hP h4
    have r7 := zM_k hZ 2 0 0 (211 + 20 * a1) (lo := -1) (hi := 6) (by decide) (zs_200_11 (x := a1) (by omega) (by omega) (by omega))
    refine wz_br (i3E (zm_rd (Z := Z) (ν := ν) (k := 2) (show ((0 : Nat) : Int) = 0 from rfl) (show ((0 : Nat) : Int) = 0 from rfl) (i3I (y := (211 + 20 * a1)) (i3A (i3A (show (200 : Int32) = i3 200 from rfl) (i3M (show (20 : Int32) = i3 20 from rfl) (rfl : i3 a1 = i3 a1))) (show (11 : Int32) = i3 11 from rfl)) (by omega) (by omega) (by omega))) (show (6 : Int32) = i3 6 from rfl) (by omega) (by omega) (by omega) (by omega)) (fun h8 => ?_) (fun h8 => ?_)
    · replace hP := zE_p hP h8
      exact zlR hP (show (1 : Int32) = i3 1 from rfl) ⟨by omega, by omega⟩
    · replace hP := zE_n hP h8
      refine wz_br (i3L (zm_rd (Z := Z) (ν := ν) (k := 2) (show ((0 : Nat) : Int) = 0 from rfl) (show ((0 : Nat) : Int) = 0 from rfl) (i3I (y := (211 + 20 * a1)) (i3A (i3A (show (200 : Int32) = i3 200 from rfl) (i3M (show (20 : Int32) = i3 20 from rfl) (rfl : i3 a1 = i3 a1))) (show (11 : Int32) = i3 11 from rfl)) (by omega) (by omega) (by omega))) (show (0 : Int32) = i3 0 from rfl) (by omega) (by omega) (by omega) (by omega)) (fun h9 => ?_) (fun h9 => ?_)
      · replace hP := zE_p hP h9
        exact zlR hP (show (0 : Int32) = i3 0 from rfl) ⟨by omega, by omega⟩
      · replace hP := zE_n hP h9
        have r10 := zM_k hZ 2 0 0 1200 (lo := 0) (hi := 6) (by decide) rfl
        refine wz_br (i3L (i3S (zm_rd (Z := Z) (ν := ν) (k := 2) (show ((0 : Nat) : Int) = 0 from rfl) (show ((0 : Nat) : Int) = 0 from rfl) (show ((1200 : Nat) : Int) = 1200 from rfl)) (show (1 : Int32) = i3 1 from rfl)) (zm_rd (Z := Z) (ν := ν) (k := 2) (show ((0 : Nat) : Int) = 0 from rfl) (show ((0 : Nat) : Int) = 0 from rfl) (i3I (y := (211 + 20 * a1)) (i3A (i3A (show (200 : Int32) = i3 200 from rfl) (i3M (show (20 : Int32) = i3 20 from rfl) (rfl : i3 a1 = i3 a1))) (show (11 : Int32) = i3 11 from rfl)) (by omega) (by omega) (by omega))) (by omega) (by omega) (by omega) (by omega)) (fun h11 => ?_) (fun h11 => ?_)
        · replace hP := zE_p hP h11
          exact zlR hP (show (0 : Int32) = i3 0 from rfl) ⟨by omega, by omega⟩
        · replace hP := zE_n hP h11
          exact zlR hP (show (1 : Int32) = i3 1 from rfl) ⟨by omega, by omega⟩
/- yX12_rSound -/
def zl_487_1 : Nat → qz_Z → Int → Int → Int × Int
  | 0, Z, x1, x2 => (x1, x2)
  | m + 1, Z, x1, x2 => (if (Z 2 0 0 102) ≤ x2 then (x1, x2) else (if x1 = 0 then zl_487_1 m Z 0 (x2 + 1) else (zlet (zf_474 Z x2) (fun v4 => (if v4 = 0 then zl_487_1 m Z 0 (x2 + 1) else zl_487_1 m Z 1 (x2 + 1))))))
theorem sl_487_1 {s : zSM} {Z : qz_Z} {ν : qz_N} (hZ : zM s Z) (hM : s.2 + 0 ≤ 1000000000) {x1 : Int} (gx1 : 0 ≤ x1 ∧ x1 ≤ 1) {x2 : Int} (gx2 : 0 ≤ x2 ∧ x2 ≤ 48) {k : wz_K} {R : wz_R} {L : qz_L} (hL : qz_fg [true, true, true] L = [some (.inr (.inr (some (1, 0, 0)))), some (.inl (i3 x1)), some (.inl (i3 x2))]) {T : Int × Int} (hP : zE T (zl_487_1 ((48 - x2).toNat + 1) Z x1 x2)) (hk : ∀ (L9 : qz_L) (yx1 yx2 : Int), qz_fg [true, true, false] L9 = [some (.inr (.inr (some (1, 0, 0)))), some (.inl (i3 yx1)), none] → (0 ≤ yx1 ∧ yx1 ≤ 1) → (0 ≤ yx2 ∧ yx2 ≤ 48) → zE T ((yx1, yx2)) → k 0 (L9, [], zm Z ν)) : wz_loop qb_487_1 65536 k R (L, [], zm Z ν) := by
  refine wz_lp sb_487_1 (fun m x => ∃ x1 : Int, ∃ x2 : Int, qz_fg [true, true, true] x.1 = [some (.inr (.inr (some (1, 0, 0)))), some (.inl (i3 x1)), some (.inl (i3 x2))] ∧ x.2 = ([], zm Z ν) ∧ m = (48 - x2).toNat ∧ (0 ≤ x1 ∧ x1 ≤ 1) ∧ (0 ≤ x2 ∧ x2 ≤ 48) ∧ zE T (zl_487_1 (m + 1) Z x1 x2)) ?_ 65536 ((48 - x2).toNat) _ (by omega) ⟨x1, x2, hL, rfl, rfl, gx1, gx2, hP⟩
  clear hP gx1 gx2 hL
  clear x1 x2
  rintro m ⟨L, st, μ⟩ ⟨x1, x2, hL, hx, hm, gx1, gx2, hP⟩
  cases hx
  refine fb_487_1 (i3 x1) (i3 x2) _ _ _ _ hL ?_
  have r1 := zM_k hZ 2 0 0 102 (lo := 0) (hi := 48) (by decide) rfl
  refine wz_br (i3Le (zm_rd (Z := Z) (ν := ν) (k := 2) (show ((0 : Nat) : Int) = 0 from rfl) (show ((0 : Nat) : Int) = 0 from rfl) (show ((102 : Nat) : Int) = 102 from rfl)) (rfl : i3 x2 = i3 x2) (by omega) (by omega) (by omega) (by omega)) (fun h2 => ?_) (fun h2 => ?_)
  · replace hP := zE_p hP h2
    exact hk _ _ _ (zconso rfl (zconso (zvo (rfl : i3 x1 = i3 x1)) (zconso rfl rfl)))  (by omega) (by omega)  hP
  · replace hP := zE_n hP h2
    refine wz_br (i3E (rfl : i3 x1 = i3 x1) (show (0 : Int32) = i3 0 from rfl) (by omega) (by omega) (by omega) (by omega)) (fun h3 => ?_) (fun h3 => ?_)
    · replace hP := zE_p hP h3
      obtain ⟨m2, rfl⟩ : ∃ m2, m = m2 + 1 := ⟨m - 1, by omega⟩
      exact wz_k1 ⟨m2, by omega, 0, (x2 + 1), (zconso rfl (zconso (zvo (show (0 : Int32) = i3 0 from rfl)) (zconso (zvo (i3A (rfl : i3 x2 = i3 x2) (show (1 : Int32) = i3 1 from rfl))) rfl))), rfl,  by omega, by omega, by omega,  hP⟩
    · replace hP := zE_n hP h3
      obtain ⟨v4, hv4, c9, lv4, uv4⟩ := sp_474 (ν := ν) hZ (a1 := x2) (by omega) (zbh (c := 0) (k := 0) hM (Nat.le_of_ble_eq_true rfl))
      replace hP := zl_e hP hv4
      refine wz_cI_of (zas (zcons rfl (zcons (zvi (rfl : i3 x2 = i3 x2)) rfl)) c9) ?_
      clear c9
      refine wz_br (i3E (rfl : i3 v4 = i3 v4) (show (0 : Int32) = i3 0 from rfl) (by omega) (by omega) (by omega) (by omega)) (fun h5 => ?_) (fun h5 => ?_)
      · replace hP := zE_p hP h5
        obtain ⟨m2, rfl⟩ : ∃ m2, m = m2 + 1 := ⟨m - 1, by omega⟩
        exact wz_k1 ⟨m2, by omega, 0, (x2 + 1), (zconso rfl (zconso (zvo (show (0 : Int32) = i3 0 from rfl)) (zconso (zvo (i3A (rfl : i3 x2 = i3 x2) (show (1 : Int32) = i3 1 from rfl))) rfl))), rfl,  by omega, by omega, by omega,  hP⟩
      · replace hP := zE_n hP h5
        refine wz_i0 (i3O (n := 4400) (i3A (i3A (show (200 : Int32) = i3 200 from rfl) (i3M (show (20 : Int32) = i3 20 from rfl) (rfl : i3 x2 = i3 x2))) (show (7 : Int32) = i3 7 from rfl)) (by omega) (by omega) (by omega)) ?_
        have r6 := zM_k hZ 2 0 0 (207 + 20 * x2) (lo := 0) (hi := 2000) (by decide) (zs_200_7 (x := x2) (by omega) (by omega) (by omega))
        refine wz_i0 (Eq.trans (i3L (zm_rd (Z := Z) (ν := ν) (k := 2) (show ((0 : Nat) : Int) = 0 from rfl) (show ((0 : Nat) : Int) = 0 from rfl) (i3I (y := (207 + 20 * x2)) (i3A (i3A (show (200 : Int32) = i3 200 from rfl) (i3M (show (20 : Int32) = i3 20 from rfl) (rfl : i3 x2 = i3 x2))) (show (7 : Int32) = i3 7 from rfl)) (by omega) (by omega) (by omega))) (show (0 : Int32) = i3 0 from rfl) (by omega) (by omega) (by omega) (by omega)) (decide_eq_false (by omega))) ?_
        refine wz_i0 (Eq.trans (i3L (show (2000 : Int32) = i3 2000 from rfl) (zm_rd (Z := Z) (ν := ν) (k := 2) (show ((0 : Nat) : Int) = 0 from rfl) (show ((0 : Nat) : Int) = 0 from rfl) (i3I (y := (207 + 20 * x2)) (i3A (i3A (show (200 : Int32) = i3 200 from rfl) (i3M (show (20 : Int32) = i3 20 from rfl) (rfl : i3 x2 = i3 x2))) (show (7 : Int32) = i3 7 from rfl)) (by omega) (by omega) (by omega))) (by omega) (by omega) (by omega) (by omega)) (decide_eq_false (by omega))) ?_
        refine wz_i0 (i3O (n := 4400) (i3A (i3A (show (200 : Int32) = i3 200 from rfl) (i3M (show (20 : Int32) = i3 20 from rfl) (rfl : i3 x2 = i3 x2))) (show (8 : Int32) = i3 8 from rfl)) (by omega) (by omega) (by omega)) ?_
        have r7 := zM_k hZ 2 0 0 (208 + 20 * x2) (lo := 0) (hi := 999) (by decide) (zs_200_8 (x := x2) (by omega) (by omega) (by omega))
        refine wz_i0 (Eq.trans (i3L (zm_rd (Z := Z) (ν := ν) (k := 2) (show ((0 : Nat) : Int) = 0 from rfl) (show ((0 : Nat) : Int) = 0 from rfl) (i3I (y := (208 + 20 * x2)) (i3A (i3A (show (200 : Int32) = i3 200 from rfl) (i3M (show (20 : Int32) = i3 20 from rfl) (rfl : i3 x2 = i3 x2))) (show (8 : Int32) = i3 8 from rfl)) (by omega) (by omega) (by omega))) (show (0 : Int32) = i3 0 from rfl) (by omega) (by omega) (by omega) (by omega)) (decide_eq_false (by omega))) ?_
        refine wz_i0 (Eq.trans (i3L (show (999 : Int32) = i3 999 from rfl) (zm_rd (Z := Z) (ν := ν) (k := 2) (show ((0 : Nat) : Int) = 0 from rfl) (show ((0 : Nat) : Int) = 0 from rfl) (i3I (y := (208 + 20 * x2)) (i3A (i3A (show (200 : Int32) = i3 200 from rfl) (i3M (show (20 : Int32) = i3 20 from rfl) (rfl : i3 x2 = i3 x2))) (show (8 : Int32) = i3 8 from rfl)) (by omega) (by omega) (by omega))) (by omega) (by omega) (by omega) (by omega)) (decide_eq_false (by omega))) ?_
        obtain ⟨m2, rfl⟩ : ∃ m2, m = m2 + 1 := ⟨m - 1, by omega⟩
        exact wz_k1 ⟨m2, by omega, 1, (x2 + 1), (zconso rfl (zconso (zvo (show (1 : Int32) = i3 1 from rfl)) (zconso (zvo (i3A (rfl : i3 x2 = i3 x2) (show (1 : Int32) = i3 1 from rfl))) rfl))), rfl,  by omega, by omega, by omega,  hP⟩
/- yX12_rSound -/
def zl_487_2 : Nat → qz_Z → Int → Int → Int × Int
  | 0, Z, x1, x2 => (x1, x2)
  | m + 1, Z, x1, x2 => (if (Z 2 0 0 1200) ≤ x2 then (x1, x2) else (if x1 = 0 then zl_487_2 m Z 0 (x2 + 1) else (zlet (zf_488 Z x2) (fun v4 => (if ((Z 2 0 0 (1210 + 12 * x2)) - v4) < 0 then zl_487_2 m Z 0 (x2 + 1) else (if (Z 2 0 0 0) < (Z 2 0 0 (1217 + 12 * x2)) then zl_487_2 m Z 0 (x2 + 1) else zl_487_2 m Z 1 (x2 + 1)))))))
theorem sl_487_2 {s : zSM} {Z : qz_Z} {ν : qz_N} (hZ : zM s Z) (hM : s.2 + 0 ≤ 1000000000) {x1 : Int} (gx1 : 0 ≤ x1 ∧ x1 ≤ 1) {x2 : Int} (gx2 : 0 ≤ x2 ∧ x2 ≤ 6) {k : wz_K} {R : wz_R} {L : qz_L} (hL : qz_fg [true, true, true] L = [some (.inr (.inr (some (1, 0, 0)))), some (.inl (i3 x1)), some (.inl (i3 x2))]) {T : Int × Int} (hP : zE T (zl_487_2 ((6 - x2).toNat + 1) Z x1 x2)) (hk : ∀ (L9 : qz_L) (yx1 yx2 : Int), qz_fg [true, true, false] L9 = [some (.inr (.inr (some (1, 0, 0)))), some (.inl (i3 yx1)), none] → (0 ≤ yx1 ∧ yx1 ≤ 1) → (0 ≤ yx2 ∧ yx2 ≤ 6) → zE T ((yx1, yx2)) → k 0 (L9, [], zm Z ν)) : wz_loop qb_487_2 65536 k R (L, [], zm Z ν) := by
  refine wz_lp sb_487_2 (fun m x => ∃ x1 : Int, ∃ x2 : Int, qz_fg [true, true, true] x.1 = [some (.inr (.inr (some (1, 0, 0)))), some (.inl (i3 x1)), some (.inl (i3 x2))] ∧ x.2 = ([], zm Z ν) ∧ m = (6 - x2).toNat ∧ (0 ≤ x1 ∧ x1 ≤ 1) ∧ (0 ≤ x2 ∧ x2 ≤ 6) ∧ zE T (zl_487_2 (m + 1) Z x1 x2)) ?_ 65536 ((6 - x2).toNat) _ (by omega) ⟨x1, x2, hL, rfl, rfl, gx1, gx2, hP⟩
  clear hP gx1 gx2 hL
  clear x1 x2
  rintro m ⟨L, st, μ⟩ ⟨x1, x2, hL, hx, hm, gx1, gx2, hP⟩
  cases hx
  refine fb_487_2 (i3 x1) (i3 x2) _ _ _ _ hL ?_
  have r1 := zM_k hZ 2 0 0 1200 (lo := 0) (hi := 6) (by decide) rfl
  refine wz_br (i3Le (zm_rd (Z := Z) (ν := ν) (k := 2) (show ((0 : Nat) : Int) = 0 from rfl) (show ((0 : Nat) : Int) = 0 from rfl) (show ((1200 : Nat) : Int) = 1200 from rfl)) (rfl : i3 x2 = i3 x2) (by omega) (by omega) (by omega) (by omega)) (fun h2 => ?_) (fun h2 => ?_)
  · replace hP := zE_p hP h2
    exact hk _ _ _ (zconso rfl (zconso (zvo (rfl : i3 x1 = i3 x1)) (zconso rfl rfl)))  (by omega) (by omega)  hP
  · replace hP := zE_n hP h2
    refine wz_br (i3E (rfl : i3 x1 = i3 x1) (show (0 : Int32) = i3 0 from rfl) (by omega) (by omega) (by omega) (by omega)) (fun h3 => ?_) (fun h3 => ?_)
    · replace hP := zE_p hP h3
      obtain ⟨m2, rfl⟩ : ∃ m2, m = m2 + 1 := ⟨m - 1, by omega⟩
      exact wz_k1 ⟨m2, by omega, 0, (x2 + 1), (zconso rfl (zconso (zvo (show (0 : Int32) = i3 0 from rfl)) (zconso (zvo (i3A (rfl : i3 x2 = i3 x2) (show (1 : Int32) = i3 1 from rfl))) rfl))), rfl,  by omega, by omega, by omega,  hP⟩
    · replace hP := zE_n hP h3
      refine wz_i1 (Eq.trans (i3NE (rfl : i3 x2 = i3 x2) (show (6 : Int32) = i3 6 from rfl) (by omega) (by omega) (by omega) (by omega)) (decide_eq_true (by omega))) ?_
      refine wz_i0 (i3O (n := 4400) (i3A (i3A (show (1210 : Int32) = i3 1210 from rfl) (i3M (show (12 : Int32) = i3 12 from rfl) (rfl : i3 x2 = i3 x2))) (show (0 : Int32) = i3 0 from rfl)) (by omega) (by omega) (by omega)) ?_
      obtain ⟨v4, hv4, c9, lv4, uv4⟩ := sp_488 (ν := ν) hZ (a1 := x2) (by omega) (zbh (c := 0) (k := 0) hM (Nat.le_of_ble_eq_true rfl))
      replace hP := zl_e hP hv4
      refine wz_cI_of (zas (zcons rfl (zcons (zvi (rfl : i3 x2 = i3 x2)) rfl)) c9) ?_
      clear c9
      have r5 := zM_k hZ 2 0 0 (1210 + 12 * x2) (lo := 0) (hi := 12) (by decide) (zs_1210_0 (x := x2) (by omega) (by omega) (by omega))
      refine wz_br (i3L (i3S (zm_rd (Z := Z) (ν := ν) (k := 2) (show ((0 : Nat) : Int) = 0 from rfl) (show ((0 : Nat) : Int) = 0 from rfl) (i3I (y := (1210 + 12 * x2)) (i3A (i3A (show (1210 : Int32) = i3 1210 from rfl) (i3M (show (12 : Int32) = i3 12 from rfl) (rfl : i3 x2 = i3 x2))) (show (0 : Int32) = i3 0 from rfl)) (by omega) (by omega) (by omega))) (rfl : i3 v4 = i3 v4)) (show (0 : Int32) = i3 0 from rfl) (by omega) (by omega) (by omega) (by omega)) (fun h6 => ?_) (fun h6 => ?_)
      · replace hP := zE_p hP h6
        obtain ⟨m2, rfl⟩ : ∃ m2, m = m2 + 1 := ⟨m - 1, by omega⟩
        exact wz_k1 ⟨m2, by omega, 0, (x2 + 1), (zconso rfl (zconso (zvo (show (0 : Int32) = i3 0 from rfl)) (zconso (zvo (i3A (rfl : i3 x2 = i3 x2) (show (1 : Int32) = i3 1 from rfl))) rfl))), rfl,  by omega, by omega, by omega,  hP⟩
      · replace hP := zE_n hP h6
        refine wz_i0 (i3O (n := 4400) (i3A (i3A (show (1210 : Int32) = i3 1210 from rfl) (i3M (show (12 : Int32) = i3 12 from rfl) (rfl : i3 x2 = i3 x2))) (show (5 : Int32) = i3 5 from rfl)) (by omega) (by omega) (by omega)) ?_
        have r7 := zM_k hZ 2 0 0 (1215 + 12 * x2) (lo := 0) (hi := 40) (by decide) (zs_1210_5 (x := x2) (by omega) (by omega) (by omega))
        refine wz_i0 (Eq.trans (i3L (zm_rd (Z := Z) (ν := ν) (k := 2) (show ((0 : Nat) : Int) = 0 from rfl) (show ((0 : Nat) : Int) = 0 from rfl) (i3I (y := (1215 + 12 * x2)) (i3A (i3A (show (1210 : Int32) = i3 1210 from rfl) (i3M (show (12 : Int32) = i3 12 from rfl) (rfl : i3 x2 = i3 x2))) (show (5 : Int32) = i3 5 from rfl)) (by omega) (by omega) (by omega))) (show (0 : Int32) = i3 0 from rfl) (by omega) (by omega) (by omega) (by omega)) (decide_eq_false (by omega))) ?_
        refine wz_i0 (Eq.trans (i3L (show (40 : Int32) = i3 40 from rfl) (zm_rd (Z := Z) (ν := ν) (k := 2) (show ((0 : Nat) : Int) = 0 from rfl) (show ((0 : Nat) : Int) = 0 from rfl) (i3I (y := (1215 + 12 * x2)) (i3A (i3A (show (1210 : Int32) = i3 1210 from rfl) (i3M (show (12 : Int32) = i3 12 from rfl) (rfl : i3 x2 = i3 x2))) (show (5 : Int32) = i3 5 from rfl)) (by omega) (by omega) (by omega))) (by omega) (by omega) (by omega) (by omega)) (decide_eq_false (by omega))) ?_
        refine wz_i0 (i3O (n := 4400) (i3A (i3A (show (1210 : Int32) = i3 1210 from rfl) (i3M (show (12 : Int32) = i3 12 from rfl) (rfl : i3 x2 = i3 x2))) (show (3 : Int32) = i3 3 from rfl)) (by omega) (by omega) (by omega)) ?_
        have r8 := zM_k hZ 2 0 0 (1213 + 12 * x2) (lo := 0) (hi := 40) (by decide) (zs_1210_3 (x := x2) (by omega) (by omega) (by omega))
        refine wz_i0 (Eq.trans (i3L (zm_rd (Z := Z) (ν := ν) (k := 2) (show ((0 : Nat) : Int) = 0 from rfl) (show ((0 : Nat) : Int) = 0 from rfl) (i3I (y := (1213 + 12 * x2)) (i3A (i3A (show (1210 : Int32) = i3 1210 from rfl) (i3M (show (12 : Int32) = i3 12 from rfl) (rfl : i3 x2 = i3 x2))) (show (3 : Int32) = i3 3 from rfl)) (by omega) (by omega) (by omega))) (show (0 : Int32) = i3 0 from rfl) (by omega) (by omega) (by omega) (by omega)) (decide_eq_false (by omega))) ?_
        refine wz_i0 (Eq.trans (i3L (show (40 : Int32) = i3 40 from rfl) (zm_rd (Z := Z) (ν := ν) (k := 2) (show ((0 : Nat) : Int) = 0 from rfl) (show ((0 : Nat) : Int) = 0 from rfl) (i3I (y := (1213 + 12 * x2)) (i3A (i3A (show (1210 : Int32) = i3 1210 from rfl) (i3M (show (12 : Int32) = i3 12 from rfl) (rfl : i3 x2 = i3 x2))) (show (3 : Int32) = i3 3 from rfl)) (by omega) (by omega) (by omega))) (by omega) (by omega) (by omega) (by omega)) (decide_eq_false (by omega))) ?_
        refine wz_i0 (i3O (n := 4400) (i3A (i3A (show (1210 : Int32) = i3 1210 from rfl) (i3M (show (12 : Int32) = i3 12 from rfl) (rfl : i3 x2 = i3 x2))) (show (7 : Int32) = i3 7 from rfl)) (by omega) (by omega) (by omega)) ?_
        have r9 := zM_k hZ 2 0 0 0 (lo := 0) (hi := 671) (by decide) rfl
        have r10 := zM_f hZ 2 0 0 (1217 + 12 * x2)
        refine wz_br (i3L (zm_rd (Z := Z) (ν := ν) (k := 2) (show ((0 : Nat) : Int) = 0 from rfl) (show ((0 : Nat) : Int) = 0 from rfl) (show ((0 : Nat) : Int) = 0 from rfl)) (zm_rd (Z := Z) (ν := ν) (k := 2) (show ((0 : Nat) : Int) = 0 from rfl) (show ((0 : Nat) : Int) = 0 from rfl) (i3I (y := (1217 + 12 * x2)) (i3A (i3A (show (1210 : Int32) = i3 1210 from rfl) (i3M (show (12 : Int32) = i3 12 from rfl) (rfl : i3 x2 = i3 x2))) (show (7 : Int32) = i3 7 from rfl)) (by omega) (by omega) (by omega))) (by omega) (by omega) (by omega) (by omega)) (fun h11 => ?_) (fun h11 => ?_)
        · replace hP := zE_p hP h11
          obtain ⟨m2, rfl⟩ : ∃ m2, m = m2 + 1 := ⟨m - 1, by omega⟩
          exact wz_k1 ⟨m2, by omega, 0, (x2 + 1), (zconso rfl (zconso (zvo (show (0 : Int32) = i3 0 from rfl)) (zconso (zvo (i3A (rfl : i3 x2 = i3 x2) (show (1 : Int32) = i3 1 from rfl))) rfl))), rfl,  by omega, by omega, by omega,  hP⟩
        · replace hP := zE_n hP h11
          obtain ⟨m2, rfl⟩ : ∃ m2, m = m2 + 1 := ⟨m - 1, by omega⟩
          exact wz_k1 ⟨m2, by omega, 1, (x2 + 1), (zconso rfl (zconso (zvo (show (1 : Int32) = i3 1 from rfl)) (zconso (zvo (i3A (rfl : i3 x2 = i3 x2) (show (1 : Int32) = i3 1 from rfl))) rfl))), rfl,  by omega, by omega, by omega,  hP⟩
/- yX12_rSound -/
def zl_487_3 : Nat → qz_Z → Int → Int → Int × Int
  | 0, Z, x1, x2 => (x1, x2)
  | m + 1, Z, x1, x2 => (if (Z 2 0 0 2000) ≤ x2 then (x1, x2) else (if x1 = 0 then zl_487_3 m Z 0 (x2 + 1) else (zlet (zf_473 Z x2) (fun v4 => (if v4 = 0 then zl_487_3 m Z 0 (x2 + 1) else zl_487_3 m Z 1 (x2 + 1))))))
theorem sl_487_3 {s : zSM} {Z : qz_Z} {ν : qz_N} (hZ : zM s Z) (hM : s.2 + 0 ≤ 1000000000) {x1 : Int} (gx1 : 0 ≤ x1 ∧ x1 ≤ 1) {x2 : Int} (gx2 : 0 ≤ x2 ∧ x2 ≤ 60) {k : wz_K} {R : wz_R} {L : qz_L} (hL : qz_fg [true, true, true] L = [some (.inr (.inr (some (1, 0, 0)))), some (.inl (i3 x1)), some (.inl (i3 x2))]) {T : Int × Int} (hP : zE T (zl_487_3 ((60 - x2).toNat + 1) Z x1 x2)) (hk : ∀ (L9 : qz_L) (yx1 yx2 : Int), qz_fg [false, true, false] L9 = [none, some (.inl (i3 yx1)), none] → (0 ≤ yx1 ∧ yx1 ≤ 1) → (0 ≤ yx2 ∧ yx2 ≤ 60) → zE T ((yx1, yx2)) → k 0 (L9, [], zm Z ν)) : wz_loop qb_487_3 65536 k R (L, [], zm Z ν) := by
  refine wz_lp sb_487_3 (fun m x => ∃ x1 : Int, ∃ x2 : Int, qz_fg [true, true, true] x.1 = [some (.inr (.inr (some (1, 0, 0)))), some (.inl (i3 x1)), some (.inl (i3 x2))] ∧ x.2 = ([], zm Z ν) ∧ m = (60 - x2).toNat ∧ (0 ≤ x1 ∧ x1 ≤ 1) ∧ (0 ≤ x2 ∧ x2 ≤ 60) ∧ zE T (zl_487_3 (m + 1) Z x1 x2)) ?_ 65536 ((60 - x2).toNat) _ (by omega) ⟨x1, x2, hL, rfl, rfl, gx1, gx2, hP⟩
  clear hP gx1 gx2 hL
  clear x1 x2
  rintro m ⟨L, st, μ⟩ ⟨x1, x2, hL, hx, hm, gx1, gx2, hP⟩
  cases hx
  refine fb_487_3 (i3 x1) (i3 x2) _ _ _ _ hL ?_
  have r1 := zM_k hZ 2 0 0 2000 (lo := 0) (hi := 60) (by decide) rfl
  refine wz_br (i3Le (zm_rd (Z := Z) (ν := ν) (k := 2) (show ((0 : Nat) : Int) = 0 from rfl) (show ((0 : Nat) : Int) = 0 from rfl) (show ((2000 : Nat) : Int) = 2000 from rfl)) (rfl : i3 x2 = i3 x2) (by omega) (by omega) (by omega) (by omega)) (fun h2 => ?_) (fun h2 => ?_)
  · replace hP := zE_p hP h2
    exact hk _ _ _ (zconso rfl (zconso (zvo (rfl : i3 x1 = i3 x1)) (zconso rfl rfl)))  (by omega) (by omega)  hP
  · replace hP := zE_n hP h2
    refine wz_br (i3E (rfl : i3 x1 = i3 x1) (show (0 : Int32) = i3 0 from rfl) (by omega) (by omega) (by omega) (by omega)) (fun h3 => ?_) (fun h3 => ?_)
    · replace hP := zE_p hP h3
      obtain ⟨m2, rfl⟩ : ∃ m2, m = m2 + 1 := ⟨m - 1, by omega⟩
      exact wz_k1 ⟨m2, by omega, 0, (x2 + 1), (zconso rfl (zconso (zvo (show (0 : Int32) = i3 0 from rfl)) (zconso (zvo (i3A (rfl : i3 x2 = i3 x2) (show (1 : Int32) = i3 1 from rfl))) rfl))), rfl,  by omega, by omega, by omega,  hP⟩
    · replace hP := zE_n hP h3
      obtain ⟨v4, hv4, c9, lv4, uv4⟩ := sp_473 (ν := ν) hZ (a1 := x2) (by omega) (zbh (c := 0) (k := 0) hM (Nat.le_of_ble_eq_true rfl))
      replace hP := zl_e hP hv4
      refine wz_cI_of (zas (zcons rfl (zcons (zvi (rfl : i3 x2 = i3 x2)) rfl)) c9) ?_
      clear c9
      refine wz_br (i3E (rfl : i3 v4 = i3 v4) (show (0 : Int32) = i3 0 from rfl) (by omega) (by omega) (by omega) (by omega)) (fun h5 => ?_) (fun h5 => ?_)
      · replace hP := zE_p hP h5
        obtain ⟨m2, rfl⟩ : ∃ m2, m = m2 + 1 := ⟨m - 1, by omega⟩
        exact wz_k1 ⟨m2, by omega, 0, (x2 + 1), (zconso rfl (zconso (zvo (show (0 : Int32) = i3 0 from rfl)) (zconso (zvo (i3A (rfl : i3 x2 = i3 x2) (show (1 : Int32) = i3 1 from rfl))) rfl))), rfl,  by omega, by omega, by omega,  hP⟩
      · replace hP := zE_n hP h5
        obtain ⟨m2, rfl⟩ : ∃ m2, m = m2 + 1 := ⟨m - 1, by omega⟩
        exact wz_k1 ⟨m2, by omega, 1, (x2 + 1), (zconso rfl (zconso (zvo (show (1 : Int32) = i3 1 from rfl)) (zconso (zvo (i3A (rfl : i3 x2 = i3 x2) (show (1 : Int32) = i3 1 from rfl))) rfl))), rfl,  by omega, by omega, by omega,  hP⟩
/- yX12_rSound -/
def zf_487 (Z : qz_Z) : Int := (zlet2 (zl_487_1 49 Z 1 0) (fun y1 y2 => (zlet2 (zl_487_2 7 Z y1 0) (fun y4 y5 => (zlet2 (zl_487_3 61 Z y4 0) (fun y7 y8 => y7))))))
theorem sp_487 {s : zSM} {Z : qz_Z} {ν : qz_N} (hZ : zM s Z) (hM : s.2 + 0 ≤ 1000000000) : ∃ P : Int, P = zf_487 Z ∧ (qf_487 [.inr (.inr (some (1, 0, 0)))] (zm Z ν) = some (zm Z ν, .inl (some (.inl (i3 P)))) ∧ 0 ≤ P ∧ P ≤ 1) := by
  obtain ⟨P, hP⟩ := zx (zf_487 Z)
  refine zc_R (Q := fun P => 0 ≤ P ∧ P ≤ 1) hP (fw_487  _ _ ?_)
  replace hP : zE P (zf_487 Z) := hP
  unfold zf_487 at hP
  refine sl_487_1 (ν := ν) hZ (zbh (c := 0) (k := 0) hM (Nat.le_of_ble_eq_true rfl)) (x1 := 1) (by omega) (x2 := 0) (by omega)  (zconso rfl (zconso (zvo (show (1 : Int32) = i3 1 from rfl)) (zconso (zvo (show (0 : Int32) = i3 0 from rfl)) rfl))) rfl ?_
  intro L3 y1 y2 hL3 gy1 gy2 q9
  replace hP := zl_e2 hP (Eq.symm q9)
  clear q9
  refine fc_487_6 (i3 y1) _ _ _ _ hL3 ?_
  refine sl_487_2 (ν := ν) hZ (zbh (c := 0) (k := 0) hM (Nat.le_of_ble_eq_true rfl)) (x1 := y1) (by omega) (x2 := 0) (by omega)  (zconso rfl (zconso (zvo (rfl : i3 y1 = i3 y1)) (zconso (zvo (show (0 : Int32) = i3 0 from rfl)) rfl))) rfl ?_
  intro L6 y4 y5 hL6 gy4 gy5 q9
  replace hP := zl_e2 hP (Eq.symm q9)
  clear q9
  refine fc_487_5 (i3 y4) _ _ _ _ hL6 ?_
  refine sl_487_3 (ν := ν) hZ (zbh (c := 0) (k := 0) hM (Nat.le_of_ble_eq_true rfl)) (x1 := y4) (by omega) (x2 := 0) (by omega)  (zconso rfl (zconso (zvo (rfl : i3 y4 = i3 y4)) (zconso (zvo (show (0 : Int32) = i3 0 from rfl)) rfl))) rfl ?_
  intro L9 y7 y8 hL9 gy7 gy8 q9
  replace hP := zl_e2 hP (Eq.symm q9)
  clear q9
  refine fc_487_4 (i3 y7) _ _ _ _ hL9 ?_
  refine wz_i1 (i3B (rfl : i3 y7 = i3 y7) (by omega)) ?_
  exact zlR hP (rfl : i3 y7 = i3 y7) ⟨by omega, by omega⟩
/- yX12_bBuyerSound -/
def zl_264_1 (x1 : Int) : Nat → qz_Z → Int → Int → Int × Int
  | 0, Z, x2, x3 => (x2, x3)
  | m + 1, Z, x2, x3 => (if (Z 2 0 0 2000) ≤ x3 then (x2, x3) else (if (Z 2 0 0 (2011 + 16 * x3)) ≠ x1 then zl_264_1 x1 m Z (x2 + 0) (x3 + 1) else (if (Z 2 0 0 (2019 + 16 * x3)) = 3 then zl_264_1 x1 m Z (x2 + 0) (x3 + 1) else zl_264_1 x1 m Z (w3 (x2 + ((Z 2 0 0 (2013 + 16 * x3)) * (Z 2 0 0 (2015 + 16 * x3))))) (x3 + 1))))
theorem sl_264_1 {s : zSM} {Z : qz_Z} {ν : qz_N} (hZ : zM s Z) (hM : s.2 + 0 ≤ 1000000000) {x1 : Int} (gx1 : 0 ≤ x1 ∧ x1 ≤ 7) {x2 : Int} (gx2 : -2147483648 ≤ x2 ∧ x2 ≤ 2147483647) {x3 : Int} (gx3 : 0 ≤ x3 ∧ x3 ≤ 60) {k : wz_K} {R : wz_R} {L : qz_L} (hL : qz_fg [true, true, true, true] L = [some (.inr (.inr (some (1, 0, 0)))), some (.inl (i3 x1)), some (.inl (i3 x2)), some (.inl (i3 x3))]) {T : Int × Int} (hP : zE T (zl_264_1 x1 ((60 - x3).toNat + 1) Z x2 x3)) (hk : ∀ (L9 : qz_L) (yx2 yx3 : Int), qz_fg [true, true, true, false] L9 = [some (.inr (.inr (some (1, 0, 0)))), some (.inl (i3 x1)), some (.inl (i3 yx2)), none] → (-2147483648 ≤ yx2 ∧ yx2 ≤ 2147483647) → (0 ≤ yx3 ∧ yx3 ≤ 60) → zE T ((yx2, yx3)) → k 0 (L9, [], zm Z ν)) : wz_loop qb_264_1 65536 k R (L, [], zm Z ν) := by
  refine wz_lp sb_264_1 (fun m x => ∃ x2 : Int, ∃ x3 : Int, qz_fg [true, true, true, true] x.1 = [some (.inr (.inr (some (1, 0, 0)))), some (.inl (i3 x1)), some (.inl (i3 x2)), some (.inl (i3 x3))] ∧ x.2 = ([], zm Z ν) ∧ m = (60 - x3).toNat ∧ (-2147483648 ≤ x2 ∧ x2 ≤ 2147483647) ∧ (0 ≤ x3 ∧ x3 ≤ 60) ∧ zE T (zl_264_1 x1 (m + 1) Z x2 x3)) ?_ 65536 ((60 - x3).toNat) _ (by omega) ⟨x2, x3, hL, rfl, rfl, gx2, gx3, hP⟩
  clear hP gx2 gx3 hL
  clear x2 x3
  rintro m ⟨L, st, μ⟩ ⟨x2, x3, hL, hx, hm, gx2, gx3, hP⟩
  cases hx
  refine fb_264_1 (i3 x1) (i3 x2) (i3 x3) _ _ _ _ hL ?_
  have r1 := zM_k hZ 2 0 0 2000 (lo := 0) (hi := 60) (by decide) rfl
  refine wz_br (i3Le (zm_rd (Z := Z) (ν := ν) (k := 2) (show ((0 : Nat) : Int) = 0 from rfl) (show ((0 : Nat) : Int) = 0 from rfl) (show ((2000 : Nat) : Int) = 2000 from rfl)) (rfl : i3 x3 = i3 x3) (by omega) (by omega) (by omega) (by omega)) (fun h2 => ?_) (fun h2 => ?_)
  · replace hP := zE_p hP h2
    exact hk _ _ _ (zconso rfl (zconso (zvo (rfl : i3 x1 = i3 x1)) (zconso (zvo (rfl : i3 x2 = i3 x2)) (zconso rfl rfl))))  (by omega) (by omega)  hP
  · replace hP := zE_n hP h2
    refine wz_i0 (i3O (n := 4400) (i3A (i3A (show (2010 : Int32) = i3 2010 from rfl) (i3M (show (16 : Int32) = i3 16 from rfl) (rfl : i3 x3 = i3 x3))) (show (1 : Int32) = i3 1 from rfl)) (by omega) (by omega) (by omega)) ?_
    have r3 := zM_k hZ 2 0 0 (2011 + 16 * x3) (lo := 0) (hi := 7) (by decide) (zs_2010_1 (x := x3) (by omega) (by omega) (by omega))
    refine wz_br (i3NE (zm_rd (Z := Z) (ν := ν) (k := 2) (show ((0 : Nat) : Int) = 0 from rfl) (show ((0 : Nat) : Int) = 0 from rfl) (i3I (y := (2011 + 16 * x3)) (i3A (i3A (show (2010 : Int32) = i3 2010 from rfl) (i3M (show (16 : Int32) = i3 16 from rfl) (rfl : i3 x3 = i3 x3))) (show (1 : Int32) = i3 1 from rfl)) (by omega) (by omega) (by omega))) (rfl : i3 x1 = i3 x1) (by omega) (by omega) (by omega) (by omega)) (fun h4 => ?_) (fun h4 => ?_)
    · replace hP := zE_p hP h4
      obtain ⟨m2, rfl⟩ : ∃ m2, m = m2 + 1 := ⟨m - 1, by omega⟩
      exact wz_k1 ⟨m2, by omega, (x2 + 0), (x3 + 1), (zconso rfl (zconso (zvo (rfl : i3 x1 = i3 x1)) (zconso (zvo (i3A (rfl : i3 x2 = i3 x2) (show (0 : Int32) = i3 0 from rfl))) (zconso (zvo (i3A (rfl : i3 x3 = i3 x3) (show (1 : Int32) = i3 1 from rfl))) rfl)))), rfl,  by omega, by omega, by omega,  hP⟩
    · replace hP := zE_n hP h4
      refine wz_i0 (i3O (n := 4400) (i3A (i3A (show (2010 : Int32) = i3 2010 from rfl) (i3M (show (16 : Int32) = i3 16 from rfl) (rfl : i3 x3 = i3 x3))) (show (9 : Int32) = i3 9 from rfl)) (by omega) (by omega) (by omega)) ?_
      have r5 := zM_k hZ 2 0 0 (2019 + 16 * x3) (lo := 0) (hi := 3) (by decide) (zs_2010_9 (x := x3) (by omega) (by omega) (by omega))
      have r6 := zM_lt2 hZ x3
      refine wz_br (i3E (zm_rd (Z := Z) (ν := ν) (k := 2) (show ((0 : Nat) : Int) = 0 from rfl) (show ((0 : Nat) : Int) = 0 from rfl) (i3I (y := (2019 + 16 * x3)) (i3A (i3A (show (2010 : Int32) = i3 2010 from rfl) (i3M (show (16 : Int32) = i3 16 from rfl) (rfl : i3 x3 = i3 x3))) (show (9 : Int32) = i3 9 from rfl)) (by omega) (by omega) (by omega))) (show (3 : Int32) = i3 3 from rfl) (by omega) (by omega) (by omega) (by omega)) (fun h7 => ?_) (fun h7 => ?_)
      · replace hP := zE_p hP h7
        obtain ⟨m2, rfl⟩ : ∃ m2, m = m2 + 1 := ⟨m - 1, by omega⟩
        exact wz_k1 ⟨m2, by omega, (x2 + 0), (x3 + 1), (zconso rfl (zconso (zvo (rfl : i3 x1 = i3 x1)) (zconso (zvo (i3A (rfl : i3 x2 = i3 x2) (show (0 : Int32) = i3 0 from rfl))) (zconso (zvo (i3A (rfl : i3 x3 = i3 x3) (show (1 : Int32) = i3 1 from rfl))) rfl)))), rfl,  by omega, by omega, by omega,  hP⟩
      · replace hP := zE_n hP h7
        refine wz_i0 (i3O (n := 4400) (i3A (i3A (show (2010 : Int32) = i3 2010 from rfl) (i3M (show (16 : Int32) = i3 16 from rfl) (rfl : i3 x3 = i3 x3))) (show (3 : Int32) = i3 3 from rfl)) (by omega) (by omega) (by omega)) ?_
        refine wz_i0 (i3O (n := 4400) (i3A (i3A (show (2010 : Int32) = i3 2010 from rfl) (i3M (show (16 : Int32) = i3 16 from rfl) (rfl : i3 x3 = i3 x3))) (show (5 : Int32) = i3 5 from rfl)) (by omega) (by omega) (by omega)) ?_
        have r8 := zM_k hZ 2 0 0 (2013 + 16 * x3) (lo := 0) (hi := 40) (by decide) (zs_2010_3 (x := x3) (by omega) (by omega) (by omega))
        have r9 := zM_cr hZ x3
        have r10 := zM_k hZ 2 0 0 (2015 + 16 * x3) (lo := 0) (hi := 9999) (by decide) (zs_2010_5 (x := x3) (by omega) (by omega) (by omega))
        have r11 := z_mul (x := (Z 2 0 0 (2013 + 16 * x3))) (y := (Z 2 0 0 (2015 + 16 * x3))) (a := 40) (b := 9999) (by omega) (by omega) (by omega) (by omega)
        have r12 := w3_r (x2 + ((Z 2 0 0 (2013 + 16 * x3)) * (Z 2 0 0 (2015 + 16 * x3))))
        obtain ⟨m2, rfl⟩ : ∃ m2, m = m2 + 1 := ⟨m - 1, by omega⟩
        exact wz_k1 ⟨m2, by omega, (w3 (x2 + ((Z 2 0 0 (2013 + 16 * x3)) * (Z 2 0 0 (2015 + 16 * x3))))), (x3 + 1), (zconso rfl (zconso (zvo (rfl : i3 x1 = i3 x1)) (zconso (zvo (i3W (i3A (rfl : i3 x2 = i3 x2) (i3M (zm_rd (Z := Z) (ν := ν) (k := 2) (show ((0 : Nat) : Int) = 0 from rfl) (show ((0 : Nat) : Int) = 0 from rfl) (i3I (y := (2013 + 16 * x3)) (i3A (i3A (show (2010 : Int32) = i3 2010 from rfl) (i3M (show (16 : Int32) = i3 16 from rfl) (rfl : i3 x3 = i3 x3))) (show (3 : Int32) = i3 3 from rfl)) (by omega) (by omega) (by omega))) (zm_rd (Z := Z) (ν := ν) (k := 2) (show ((0 : Nat) : Int) = 0 from rfl) (show ((0 : Nat) : Int) = 0 from rfl) (i3I (y := (2015 + 16 * x3)) (i3A (i3A (show (2010 : Int32) = i3 2010 from rfl) (i3M (show (16 : Int32) = i3 16 from rfl) (rfl : i3 x3 = i3 x3))) (show (5 : Int32) = i3 5 from rfl)) (by omega) (by omega) (by omega))))))) (zconso (zvo (i3A (rfl : i3 x3 = i3 x3) (show (1 : Int32) = i3 1 from rfl))) rfl)))), rfl,  by omega, by omega, by omega,  hP⟩
/- yX12_bBuyerSound -/
def zf_264 (Z : qz_Z) (a1 : Int) : Int := (zlet2 (zl_264_1 a1 61 Z 0 0) (fun y1 y2 => (if (Z 2 0 0 (1413 + 12 * a1)) < 0 then 0 else (zlet (zf_289 Z a1) (fun v6 => (if (w3 ((w3 ((Z 2 0 0 (1411 + 12 * a1)) + (Z 2 0 0 (1413 + 12 * a1)))) - v6)) < 0 then 0 else (zlet (zf_289 Z a1) (fun v12 => (if (w3 ((Z 2 0 0 (1415 + 12 * a1)) + (Z 2 0 0 (1416 + 12 * a1)))) ≠ (w3 ((w3 ((Z 2 0 0 (1413 + 12 * a1)) + y1)) - v12)) then 0 else 1)))))))))
theorem sp_264 {s : zSM} {Z : qz_Z} {ν : qz_N} (hZ : zM s Z) {a1 : Int} (ga1 : 0 ≤ a1 ∧ a1 ≤ 7) (hM : s.2 + 0 ≤ 1000000000) : ∃ P : Int, P = zf_264 Z a1 ∧ (qf_264 [.inr (.inr (some (1, 0, 0))), .inl (i3 a1)] (zm Z ν) = some (zm Z ν, .inl (some (.inl (i3 P)))) ∧ 0 ≤ P ∧ P ≤ 1) := by
  obtain ⟨P, hP⟩ := zx (zf_264 Z a1)
  refine zc_R (Q := fun P => 0 ≤ P ∧ P ≤ 1) hP (fw_264 (i3 a1) _ _ ?_)
  replace hP : zE P (zf_264 Z a1) := hP
  unfold zf_264 at hP
  refine sl_264_1 (ν := ν) hZ (zbh (c := 0) (k := 0) hM (Nat.le_of_ble_eq_true rfl)) (x1 := a1) (by omega) (x2 := 0) (by omega) (x3 := 0) (by omega)  (zconso rfl (zconso (zvo (rfl : i3 a1 = i3 a1)) (zconso (zvo (show (0 : Int32) = i3 0 from rfl)) (zconso (zvo (show (0 : Int32) = i3 0 from rfl)) rfl)))) rfl ?_
  intro L3 y1 y2 hL3 gy1 gy2 q9
  replace hP := zl_e2 hP (Eq.symm q9)
  clear q9
  refine fc_264_2 (i3 a1) (i3 y1) _ _ _ _ hL3 ?_
  refine wz_i0 (i3O (n := 4400) (i3A (i3A (show (1410 : Int32) = i3 1410 from rfl) (i3M (show (12 : Int32) = i3 12 from rfl) (rfl : i3 a1 = i3 a1))) (show (3 : Int32) = i3 3 from rfl)) (by omega) (by omega) (by omega)) ?_
  have r4 := zM_f hZ 2 0 0 (1413 + 12 * a1)
  refine wz_br (i3L (zm_rd (Z := Z) (ν := ν) (k := 2) (show ((0 : Nat) : Int) = 0 from rfl) (show ((0 : Nat) : Int) = 0 from rfl) (i3I (y := (1413 + 12 * a1)) (i3A (i3A (show (1410 : Int32) = i3 1410 from rfl) (i3M (show (12 : Int32) = i3 12 from rfl) (rfl : i3 a1 = i3 a1))) (show (3 : Int32) = i3 3 from rfl)) (by omega) (by omega) (by omega))) (show (0 : Int32) = i3 0 from rfl) (by omega) (by omega) (by omega) (by omega)) (fun h5 => ?_) (fun h5 => ?_)
  · replace hP := zE_p hP h5
    exact zlR hP (show (0 : Int32) = i3 0 from rfl) ⟨by omega, by omega⟩
  · replace hP := zE_n hP h5
    refine wz_i0 (i3O (n := 4400) (i3A (i3A (show (1410 : Int32) = i3 1410 from rfl) (i3M (show (12 : Int32) = i3 12 from rfl) (rfl : i3 a1 = i3 a1))) (show (1 : Int32) = i3 1 from rfl)) (by omega) (by omega) (by omega)) ?_
    refine wz_i0 (i3O (n := 4400) (i3A (i3A (show (1410 : Int32) = i3 1410 from rfl) (i3M (show (12 : Int32) = i3 12 from rfl) (rfl : i3 a1 = i3 a1))) (show (3 : Int32) = i3 3 from rfl)) (by omega) (by omega) (by omega)) ?_
    obtain ⟨v6, hv6, c9, lv6, uv6⟩ := sp_289 (ν := ν) hZ (a1 := a1) (by omega) (zbh (c := 0) (k := 0) hM (Nat.le_of_ble_eq_true rfl))
    replace hP := zl_e hP hv6
    refine wz_cI_of (zas (zcons rfl (zcons (zvi (rfl : i3 a1 = i3 a1)) rfl)) c9) ?_
    clear c9
    have r7 := zrs_e hv6
    have r8 := zM_k hZ 2 0 0 (1411 + 12 * a1) (lo := 0) (hi := 9999999) (by decide) (zs_1410_1 (x := a1) (by omega) (by omega) (by omega))
    have r9 := w3_r ((Z 2 0 0 (1411 + 12 * a1)) + (Z 2 0 0 (1413 + 12 * a1)))
    have r10 := w3_r ((w3 ((Z 2 0 0 (1411 + 12 * a1)) + (Z 2 0 0 (1413 + 12 * a1)))) - v6)
    refine wz_br (i3L (i3W (i3S (i3W (i3A (zm_rd (Z := Z) (ν := ν) (k := 2) (show ((0 : Nat) : Int) = 0 from rfl) (show ((0 : Nat) : Int) = 0 from rfl) (i3I (y := (1411 + 12 * a1)) (i3A (i3A (show (1410 : Int32) = i3 1410 from rfl) (i3M (show (12 : Int32) = i3 12 from rfl) (rfl : i3 a1 = i3 a1))) (show (1 : Int32) = i3 1 from rfl)) (by omega) (by omega) (by omega))) (zm_rd (Z := Z) (ν := ν) (k := 2) (show ((0 : Nat) : Int) = 0 from rfl) (show ((0 : Nat) : Int) = 0 from rfl) (i3I (y := (1413 + 12 * a1)) (i3A (i3A (show (1410 : Int32) = i3 1410 from rfl) (i3M (show (12 : Int32) = i3 12 from rfl) (rfl : i3 a1 = i3 a1))) (show (3 : Int32) = i3 3 from rfl)) (by omega) (by omega) (by omega))))) (rfl : i3 v6 = i3 v6))) (show (0 : Int32) = i3 0 from rfl) (by omega) (by omega) (by omega) (by omega)) (fun h11 => ?_) (fun h11 => ?_)
    · replace hP := zE_p hP h11
      exact zlR hP (show (0 : Int32) = i3 0 from rfl) ⟨by omega, by omega⟩
    · replace hP := zE_n hP h11
      refine wz_i0 (i3O (n := 4400) (i3A (i3A (show (1410 : Int32) = i3 1410 from rfl) (i3M (show (12 : Int32) = i3 12 from rfl) (rfl : i3 a1 = i3 a1))) (show (5 : Int32) = i3 5 from rfl)) (by omega) (by omega) (by omega)) ?_
      refine wz_i0 (i3O (n := 4400) (i3A (i3A (show (1410 : Int32) = i3 1410 from rfl) (i3M (show (12 : Int32) = i3 12 from rfl) (rfl : i3 a1 = i3 a1))) (show (6 : Int32) = i3 6 from rfl)) (by omega) (by omega) (by omega)) ?_
      refine wz_i0 (i3O (n := 4400) (i3A (i3A (show (1410 : Int32) = i3 1410 from rfl) (i3M (show (12 : Int32) = i3 12 from rfl) (rfl : i3 a1 = i3 a1))) (show (3 : Int32) = i3 3 from rfl)) (by omega) (by omega) (by omega)) ?_
      obtain ⟨v12, hv12, c9, lv12, uv12⟩ := sp_289 (ν := ν) hZ (a1 := a1) (by omega) (zbh (c := 0) (k := 0) hM (Nat.le_of_ble_eq_true rfl))
      replace hP := zl_e hP hv12
      refine wz_cI_of (zas (zcons rfl (zcons (zvi (rfl : i3 a1 = i3 a1)) rfl)) c9) ?_
      clear c9
      have r13 := zrs_e hv12
      have r14 := zM_f hZ 2 0 0 (1415 + 12 * a1)
      have r15 := zM_f hZ 2 0 0 (1416 + 12 * a1)
      have r16 := w3_r ((Z 2 0 0 (1415 + 12 * a1)) + (Z 2 0 0 (1416 + 12 * a1)))
      have r17 := w3_r ((Z 2 0 0 (1413 + 12 * a1)) + y1)
      have r18 := w3_r ((w3 ((Z 2 0 0 (1413 + 12 * a1)) + y1)) - v12)
      refine wz_br (i3NE (i3W (i3A (zm_rd (Z := Z) (ν := ν) (k := 2) (show ((0 : Nat) : Int) = 0 from rfl) (show ((0 : Nat) : Int) = 0 from rfl) (i3I (y := (1415 + 12 * a1)) (i3A (i3A (show (1410 : Int32) = i3 1410 from rfl) (i3M (show (12 : Int32) = i3 12 from rfl) (rfl : i3 a1 = i3 a1))) (show (5 : Int32) = i3 5 from rfl)) (by omega) (by omega) (by omega))) (zm_rd (Z := Z) (ν := ν) (k := 2) (show ((0 : Nat) : Int) = 0 from rfl) (show ((0 : Nat) : Int) = 0 from rfl) (i3I (y := (1416 + 12 * a1)) (i3A (i3A (show (1410 : Int32) = i3 1410 from rfl) (i3M (show (12 : Int32) = i3 12 from rfl) (rfl : i3 a1 = i3 a1))) (show (6 : Int32) = i3 6 from rfl)) (by omega) (by omega) (by omega))))) (i3W (i3S (i3W (i3A (zm_rd (Z := Z) (ν := ν) (k := 2) (show ((0 : Nat) : Int) = 0 from rfl) (show ((0 : Nat) : Int) = 0 from rfl) (i3I (y := (1413 + 12 * a1)) (i3A (i3A (show (1410 : Int32) = i3 1410 from rfl) (i3M (show (12 : Int32) = i3 12 from rfl) (rfl : i3 a1 = i3 a1))) (show (3 : Int32) = i3 3 from rfl)) (by omega) (by omega) (by omega))) (rfl : i3 y1 = i3 y1))) (rfl : i3 v12 = i3 v12))) (by omega) (by omega) (by omega) (by omega)) (fun h19 => ?_) (fun h19 => ?_)
      · replace hP := zE_p hP h19
        exact zlR hP (show (0 : Int32) = i3 0 from rfl) ⟨by omega, by omega⟩
      · replace hP := zE_n hP h19
        exact zlR hP (show (1 : Int32) = i3 1 from rfl) ⟨by omega, by omega⟩
/- yX12_bSound -/
def zl_285_1 : Nat → qz_Z → Int → Int → Int × Int
  | 0, Z, x1, x2 => (x1, x2)
  | m + 1, Z, x1, x2 => (if (Z 2 0 0 1400) ≤ x2 then (x1, x2) else (if x1 = 0 then zl_285_1 m Z 0 (x2 + 1) else (zlet (zf_264 Z x2) (fun v4 => (if v4 = 0 then zl_285_1 m Z 0 (x2 + 1) else zl_285_1 m Z 1 (x2 + 1))))))
theorem sl_285_1 {s : zSM} {Z : qz_Z} {ν : qz_N} (hZ : zM s Z) (hM : s.2 + 0 ≤ 1000000000) {x1 : Int} (gx1 : 0 ≤ x1 ∧ x1 ≤ 1) {x2 : Int} (gx2 : 0 ≤ x2 ∧ x2 ≤ 8) {k : wz_K} {R : wz_R} {L : qz_L} (hL : qz_fg [true, true, true] L = [some (.inr (.inr (some (1, 0, 0)))), some (.inl (i3 x1)), some (.inl (i3 x2))]) {T : Int × Int} (hP : zE T (zl_285_1 ((8 - x2).toNat + 1) Z x1 x2)) (hk : ∀ (L9 : qz_L) (yx1 yx2 : Int), qz_fg [true, true, false] L9 = [some (.inr (.inr (some (1, 0, 0)))), some (.inl (i3 yx1)), none] → (0 ≤ yx1 ∧ yx1 ≤ 1) → (0 ≤ yx2 ∧ yx2 ≤ 8) → zE T ((yx1, yx2)) → k 0 (L9, [], zm Z ν)) : wz_loop qb_285_1 65536 k R (L, [], zm Z ν) := by
  refine wz_lp sb_285_1 (fun m x => ∃ x1 : Int, ∃ x2 : Int, qz_fg [true, true, true] x.1 = [some (.inr (.inr (some (1, 0, 0)))), some (.inl (i3 x1)), some (.inl (i3 x2))] ∧ x.2 = ([], zm Z ν) ∧ m = (8 - x2).toNat ∧ (0 ≤ x1 ∧ x1 ≤ 1) ∧ (0 ≤ x2 ∧ x2 ≤ 8) ∧ zE T (zl_285_1 (m + 1) Z x1 x2)) ?_ 65536 ((8 - x2).toNat) _ (by omega) ⟨x1, x2, hL, rfl, rfl, gx1, gx2, hP⟩
  clear hP gx1 gx2 hL
  clear x1 x2
  rintro m ⟨L, st, μ⟩ ⟨x1, x2, hL, hx, hm, gx1, gx2, hP⟩
  cases hx
  refine fb_285_1 (i3 x1) (i3 x2) _ _ _ _ hL ?_
  have r1 := zM_k hZ 2 0 0 1400 (lo := 0) (hi := 8) (by decide) rfl
  refine wz_br (i3Le (zm_rd (Z := Z) (ν := ν) (k := 2) (show ((0 : Nat) : Int) = 0 from rfl) (show ((0 : Nat) : Int) = 0 from rfl) (show ((1400 : Nat) : Int) = 1400 from rfl)) (rfl : i3 x2 = i3 x2) (by omega) (by omega) (by omega) (by omega)) (fun h2 => ?_) (fun h2 => ?_)
  · replace hP := zE_p hP h2
    exact hk _ _ _ (zconso rfl (zconso (zvo (rfl : i3 x1 = i3 x1)) (zconso rfl rfl)))  (by omega) (by omega)  hP
  · replace hP := zE_n hP h2
    refine wz_br (i3E (rfl : i3 x1 = i3 x1) (show (0 : Int32) = i3 0 from rfl) (by omega) (by omega) (by omega) (by omega)) (fun h3 => ?_) (fun h3 => ?_)
    · replace hP := zE_p hP h3
      obtain ⟨m2, rfl⟩ : ∃ m2, m = m2 + 1 := ⟨m - 1, by omega⟩
      exact wz_k1 ⟨m2, by omega, 0, (x2 + 1), (zconso rfl (zconso (zvo (show (0 : Int32) = i3 0 from rfl)) (zconso (zvo (i3A (rfl : i3 x2 = i3 x2) (show (1 : Int32) = i3 1 from rfl))) rfl))), rfl,  by omega, by omega, by omega,  hP⟩
    · replace hP := zE_n hP h3
      obtain ⟨v4, hv4, c9, lv4, uv4⟩ := sp_264 (ν := ν) hZ (a1 := x2) (by omega) (zbh (c := 0) (k := 0) hM (Nat.le_of_ble_eq_true rfl))
      replace hP := zl_e hP hv4
      refine wz_cI_of (zas (zcons rfl (zcons (zvi (rfl : i3 x2 = i3 x2)) rfl)) c9) ?_
      clear c9
      refine wz_br (i3E (rfl : i3 v4 = i3 v4) (show (0 : Int32) = i3 0 from rfl) (by omega) (by omega) (by omega) (by omega)) (fun h5 => ?_) (fun h5 => ?_)
      · replace hP := zE_p hP h5
        obtain ⟨m2, rfl⟩ : ∃ m2, m = m2 + 1 := ⟨m - 1, by omega⟩
        exact wz_k1 ⟨m2, by omega, 0, (x2 + 1), (zconso rfl (zconso (zvo (show (0 : Int32) = i3 0 from rfl)) (zconso (zvo (i3A (rfl : i3 x2 = i3 x2) (show (1 : Int32) = i3 1 from rfl))) rfl))), rfl,  by omega, by omega, by omega,  hP⟩
      · replace hP := zE_n hP h5
        obtain ⟨m2, rfl⟩ : ∃ m2, m = m2 + 1 := ⟨m - 1, by omega⟩
        exact wz_k1 ⟨m2, by omega, 1, (x2 + 1), (zconso rfl (zconso (zvo (show (1 : Int32) = i3 1 from rfl)) (zconso (zvo (i3A (rfl : i3 x2 = i3 x2) (show (1 : Int32) = i3 1 from rfl))) rfl))), rfl,  by omega, by omega, by omega,  hP⟩
/- yX12_bSound -/
def zl_285_2 : Nat → qz_Z → Int → Int → Int × Int
  | 0, Z, x1, x2 => (x1, x2)
  | m + 1, Z, x1, x2 => (if (Z 2 0 0 2000) ≤ x2 then (x1, x2) else (if x1 = 0 then zl_285_2 m Z 0 (x2 + 1) else (if (Z 2 0 0 (2019 + 16 * x2)) ≠ 3 then (if (Z 2 0 0 (1810 + 2 * x2)) < 0 then zl_285_2 m Z 0 (x2 + 1) else (if ((Z 2 0 0 (2013 + 16 * x2)) * (Z 2 0 0 (2015 + 16 * x2))) < (Z 2 0 0 (1810 + 2 * x2)) then zl_285_2 m Z 0 (x2 + 1) else zl_285_2 m Z 1 (x2 + 1))) else (if (Z 2 0 0 (1810 + 2 * x2)) < 0 then zl_285_2 m Z 0 (x2 + 1) else (if 0 < (Z 2 0 0 (1810 + 2 * x2)) then zl_285_2 m Z 0 (x2 + 1) else zl_285_2 m Z 1 (x2 + 1))))))
theorem sl_285_2 {s : zSM} {Z : qz_Z} {ν : qz_N} (hZ : zM s Z) (hM : s.2 + 0 ≤ 1000000000) {x1 : Int} (gx1 : 0 ≤ x1 ∧ x1 ≤ 1) {x2 : Int} (gx2 : 0 ≤ x2 ∧ x2 ≤ 60) {k : wz_K} {R : wz_R} {L : qz_L} (hL : qz_fg [true, true, true] L = [some (.inr (.inr (some (1, 0, 0)))), some (.inl (i3 x1)), some (.inl (i3 x2))]) {T : Int × Int} (hP : zE T (zl_285_2 ((60 - x2).toNat + 1) Z x1 x2)) (hk : ∀ (L9 : qz_L) (yx1 yx2 : Int), qz_fg [true, true, false] L9 = [some (.inr (.inr (some (1, 0, 0)))), some (.inl (i3 yx1)), none] → (0 ≤ yx1 ∧ yx1 ≤ 1) → (0 ≤ yx2 ∧ yx2 ≤ 60) → zE T ((yx1, yx2)) → k 0 (L9, [], zm Z ν)) : wz_loop qb_285_2 65536 k R (L, [], zm Z ν) := by
  refine wz_lp sb_285_2 (fun m x => ∃ x1 : Int, ∃ x2 : Int, qz_fg [true, true, true] x.1 = [some (.inr (.inr (some (1, 0, 0)))), some (.inl (i3 x1)), some (.inl (i3 x2))] ∧ x.2 = ([], zm Z ν) ∧ m = (60 - x2).toNat ∧ (0 ≤ x1 ∧ x1 ≤ 1) ∧ (0 ≤ x2 ∧ x2 ≤ 60) ∧ zE T (zl_285_2 (m + 1) Z x1 x2)) ?_ 65536 ((60 - x2).toNat) _ (by omega) ⟨x1, x2, hL, rfl, rfl, gx1, gx2, hP⟩
  clear hP gx1 gx2 hL
  clear x1 x2
  rintro m ⟨L, st, μ⟩ ⟨x1, x2, hL, hx, hm, gx1, gx2, hP⟩
  cases hx
  refine fb_285_2 (i3 x1) (i3 x2) _ _ _ _ hL ?_
  have r1 := zM_k hZ 2 0 0 2000 (lo := 0) (hi := 60) (by decide) rfl
  refine wz_br (i3Le (zm_rd (Z := Z) (ν := ν) (k := 2) (show ((0 : Nat) : Int) = 0 from rfl) (show ((0 : Nat) : Int) = 0 from rfl) (show ((2000 : Nat) : Int) = 2000 from rfl)) (rfl : i3 x2 = i3 x2) (by omega) (by omega) (by omega) (by omega)) (fun h2 => ?_) (fun h2 => ?_)
  · replace hP := zE_p hP h2
    exact hk _ _ _ (zconso rfl (zconso (zvo (rfl : i3 x1 = i3 x1)) (zconso rfl rfl)))  (by omega) (by omega)  hP
  · replace hP := zE_n hP h2
    refine wz_br (i3E (rfl : i3 x1 = i3 x1) (show (0 : Int32) = i3 0 from rfl) (by omega) (by omega) (by omega) (by omega)) (fun h3 => ?_) (fun h3 => ?_)
    · replace hP := zE_p hP h3
      obtain ⟨m2, rfl⟩ : ∃ m2, m = m2 + 1 := ⟨m - 1, by omega⟩
      exact wz_k1 ⟨m2, by omega, 0, (x2 + 1), (zconso rfl (zconso (zvo (show (0 : Int32) = i3 0 from rfl)) (zconso (zvo (i3A (rfl : i3 x2 = i3 x2) (show (1 : Int32) = i3 1 from rfl))) rfl))), rfl,  by omega, by omega, by omega,  hP⟩
    · replace hP := zE_n hP h3
      refine wz_i0 (i3O (n := 4400) (i3A (show (1810 : Int32) = i3 1810 from rfl) (i3M (show (2 : Int32) = i3 2 from rfl) (rfl : i3 x2 = i3 x2))) (by omega) (by omega) (by omega)) ?_
      refine wz_i0 (i3O (n := 4400) (i3A (i3A (show (2010 : Int32) = i3 2010 from rfl) (i3M (show (16 : Int32) = i3 16 from rfl) (rfl : i3 x2 = i3 x2))) (show (9 : Int32) = i3 9 from rfl)) (by omega) (by omega) (by omega)) ?_
      have r4 := zM_k hZ 2 0 0 (2019 + 16 * x2) (lo := 0) (hi := 3) (by decide) (zs_2010_9 (x := x2) (by omega) (by omega) (by omega))
      have r5 := zM_lt2 hZ x2
      refine wz_br (i3NE (zm_rd (Z := Z) (ν := ν) (k := 2) (show ((0 : Nat) : Int) = 0 from rfl) (show ((0 : Nat) : Int) = 0 from rfl) (i3I (y := (2019 + 16 * x2)) (i3A (i3A (show (2010 : Int32) = i3 2010 from rfl) (i3M (show (16 : Int32) = i3 16 from rfl) (rfl : i3 x2 = i3 x2))) (show (9 : Int32) = i3 9 from rfl)) (by omega) (by omega) (by omega))) (show (3 : Int32) = i3 3 from rfl) (by omega) (by omega) (by omega) (by omega)) (fun h6 => ?_) (fun h6 => ?_)
      · replace hP := zE_p hP h6
        refine wz_i0 (i3O (n := 4400) (i3A (i3A (show (2010 : Int32) = i3 2010 from rfl) (i3M (show (16 : Int32) = i3 16 from rfl) (rfl : i3 x2 = i3 x2))) (show (3 : Int32) = i3 3 from rfl)) (by omega) (by omega) (by omega)) ?_
        refine wz_i0 (i3O (n := 4400) (i3A (i3A (show (2010 : Int32) = i3 2010 from rfl) (i3M (show (16 : Int32) = i3 16 from rfl) (rfl : i3 x2 = i3 x2))) (show (5 : Int32) = i3 5 from rfl)) (by omega) (by omega) (by omega)) ?_
        have r7 := zM_f hZ 2 0 0 (1810 + 2 * x2)
        refine wz_br (i3L (zm_rd (Z := Z) (ν := ν) (k := 2) (show ((0 : Nat) : Int) = 0 from rfl) (show ((0 : Nat) : Int) = 0 from rfl) (i3I (y := (1810 + 2 * x2)) (i3A (show (1810 : Int32) = i3 1810 from rfl) (i3M (show (2 : Int32) = i3 2 from rfl) (rfl : i3 x2 = i3 x2))) (by omega) (by omega) (by omega))) (show (0 : Int32) = i3 0 from rfl) (by omega) (by omega) (by omega) (by omega)) (fun h8 => ?_) (fun h8 => ?_)
        · replace hP := zE_p hP h8
          obtain ⟨m2, rfl⟩ : ∃ m2, m = m2 + 1 := ⟨m - 1, by omega⟩
          exact wz_k1 ⟨m2, by omega, 0, (x2 + 1), (zconso rfl (zconso (zvo (show (0 : Int32) = i3 0 from rfl)) (zconso (zvo (i3A (rfl : i3 x2 = i3 x2) (show (1 : Int32) = i3 1 from rfl))) rfl))), rfl,  by omega, by omega, by omega,  hP⟩
        · replace hP := zE_n hP h8
          have r9 := zM_k hZ 2 0 0 (2013 + 16 * x2) (lo := 0) (hi := 40) (by decide) (zs_2010_3 (x := x2) (by omega) (by omega) (by omega))
          have r10 := zM_cr hZ x2
          have r11 := zM_k hZ 2 0 0 (2015 + 16 * x2) (lo := 0) (hi := 9999) (by decide) (zs_2010_5 (x := x2) (by omega) (by omega) (by omega))
          have r12 := z_mul (x := (Z 2 0 0 (2013 + 16 * x2))) (y := (Z 2 0 0 (2015 + 16 * x2))) (a := 40) (b := 9999) (by omega) (by omega) (by omega) (by omega)
          refine wz_br (i3L (i3M (zm_rd (Z := Z) (ν := ν) (k := 2) (show ((0 : Nat) : Int) = 0 from rfl) (show ((0 : Nat) : Int) = 0 from rfl) (i3I (y := (2013 + 16 * x2)) (i3A (i3A (show (2010 : Int32) = i3 2010 from rfl) (i3M (show (16 : Int32) = i3 16 from rfl) (rfl : i3 x2 = i3 x2))) (show (3 : Int32) = i3 3 from rfl)) (by omega) (by omega) (by omega))) (zm_rd (Z := Z) (ν := ν) (k := 2) (show ((0 : Nat) : Int) = 0 from rfl) (show ((0 : Nat) : Int) = 0 from rfl) (i3I (y := (2015 + 16 * x2)) (i3A (i3A (show (2010 : Int32) = i3 2010 from rfl) (i3M (show (16 : Int32) = i3 16 from rfl) (rfl : i3 x2 = i3 x2))) (show (5 : Int32) = i3 5 from rfl)) (by omega) (by omega) (by omega)))) (zm_rd (Z := Z) (ν := ν) (k := 2) (show ((0 : Nat) : Int) = 0 from rfl) (show ((0 : Nat) : Int) = 0 from rfl) (i3I (y := (1810 + 2 * x2)) (i3A (show (1810 : Int32) = i3 1810 from rfl) (i3M (show (2 : Int32) = i3 2 from rfl) (rfl : i3 x2 = i3 x2))) (by omega) (by omega) (by omega))) (by omega) (by omega) (by omega) (by omega)) (fun h13 => ?_) (fun h13 => ?_)
          · replace hP := zE_p hP h13
            obtain ⟨m2, rfl⟩ : ∃ m2, m = m2 + 1 := ⟨m - 1, by omega⟩
            exact wz_k1 ⟨m2, by omega, 0, (x2 + 1), (zconso rfl (zconso (zvo (show (0 : Int32) = i3 0 from rfl)) (zconso (zvo (i3A (rfl : i3 x2 = i3 x2) (show (1 : Int32) = i3 1 from rfl))) rfl))), rfl,  by omega, by omega, by omega,  hP⟩
          · replace hP := zE_n hP h13
            obtain ⟨m2, rfl⟩ : ∃ m2, m = m2 + 1 := ⟨m - 1, by omega⟩
            exact wz_k1 ⟨m2, by omega, 1, (x2 + 1), (zconso rfl (zconso (zvo (show (1 : Int32) = i3 1 from rfl)) (zconso (zvo (i3A (rfl : i3 x2 = i3 x2) (show (1 : Int32) = i3 1 from rfl))) rfl))), rfl,  by omega, by omega, by omega,  hP⟩
      · replace hP := zE_n hP h6
        have r14 := zM_f hZ 2 0 0 (1810 + 2 * x2)
        refine wz_br (i3L (zm_rd (Z := Z) (ν := ν) (k := 2) (show ((0 : Nat) : Int) = 0 from rfl) (show ((0 : Nat) : Int) = 0 from rfl) (i3I (y := (1810 + 2 * x2)) (i3A (show (1810 : Int32) = i3 1810 from rfl) (i3M (show (2 : Int32) = i3 2 from rfl) (rfl : i3 x2 = i3 x2))) (by omega) (by omega) (by omega))) (show (0 : Int32) = i3 0 from rfl) (by omega) (by omega) (by omega) (by omega)) (fun h15 => ?_) (fun h15 => ?_)
        · replace hP := zE_p hP h15
          obtain ⟨m2, rfl⟩ : ∃ m2, m = m2 + 1 := ⟨m - 1, by omega⟩
          exact wz_k1 ⟨m2, by omega, 0, (x2 + 1), (zconso rfl (zconso (zvo (show (0 : Int32) = i3 0 from rfl)) (zconso (zvo (i3A (rfl : i3 x2 = i3 x2) (show (1 : Int32) = i3 1 from rfl))) rfl))), rfl,  by omega, by omega, by omega,  hP⟩
        · replace hP := zE_n hP h15
          refine wz_br (i3L (show (0 : Int32) = i3 0 from rfl) (zm_rd (Z := Z) (ν := ν) (k := 2) (show ((0 : Nat) : Int) = 0 from rfl) (show ((0 : Nat) : Int) = 0 from rfl) (i3I (y := (1810 + 2 * x2)) (i3A (show (1810 : Int32) = i3 1810 from rfl) (i3M (show (2 : Int32) = i3 2 from rfl) (rfl : i3 x2 = i3 x2))) (by omega) (by omega) (by omega))) (by omega) (by omega) (by omega) (by omega)) (fun h16 => ?_) (fun h16 => ?_)
          · replace hP := zE_p hP h16
            obtain ⟨m2, rfl⟩ : ∃ m2, m = m2 + 1 := ⟨m - 1, by omega⟩
            exact wz_k1 ⟨m2, by omega, 0, (x2 + 1), (zconso rfl (zconso (zvo (show (0 : Int32) = i3 0 from rfl)) (zconso (zvo (i3A (rfl : i3 x2 = i3 x2) (show (1 : Int32) = i3 1 from rfl))) rfl))), rfl,  by omega, by omega, by omega,  hP⟩
          · replace hP := zE_n hP h16
            obtain ⟨m2, rfl⟩ : ∃ m2, m = m2 + 1 := ⟨m - 1, by omega⟩
            exact wz_k1 ⟨m2, by omega, 1, (x2 + 1), (zconso rfl (zconso (zvo (show (1 : Int32) = i3 1 from rfl)) (zconso (zvo (i3A (rfl : i3 x2 = i3 x2) (show (1 : Int32) = i3 1 from rfl))) rfl))), rfl,  by omega, by omega, by omega,  hP⟩
/- yX12_bSound -/
def zl_285_3 : Nat → qz_Z → Int → Int → Int × Int
  | 0, Z, x1, x2 => (x1, x2)
  | m + 1, Z, x1, x2 => (if (Z 2 0 0 1401) ≤ x2 then (x1, x2) else (if x1 = 0 then zl_285_3 m Z 0 (x2 + 1) else (if (Z 2 0 0 (1517 + 12 * x2)) ≠ 1 then (if (Z 2 0 0 (1513 + 12 * x2)) < (Z 2 0 0 (1516 + 12 * x2)) then zl_285_3 m Z 0 (x2 + 1) else zl_285_3 m Z 1 (x2 + 1)) else (if 0 < (Z 2 0 0 (1516 + 12 * x2)) then zl_285_3 m Z 0 (x2 + 1) else zl_285_3 m Z 1 (x2 + 1)))))
theorem sl_285_3 {s : zSM} {Z : qz_Z} {ν : qz_N} (hZ : zM s Z) (hM : s.2 + 0 ≤ 1000000000) {x1 : Int} (gx1 : 0 ≤ x1 ∧ x1 ≤ 1) {x2 : Int} (gx2 : 0 ≤ x2 ∧ x2 ≤ 24) {k : wz_K} {R : wz_R} {L : qz_L} (hL : qz_fg [true, true, true] L = [some (.inr (.inr (some (1, 0, 0)))), some (.inl (i3 x1)), some (.inl (i3 x2))]) {T : Int × Int} (hP : zE T (zl_285_3 ((24 - x2).toNat + 1) Z x1 x2)) (hk : ∀ (L9 : qz_L) (yx1 yx2 : Int), qz_fg [false, true, false] L9 = [none, some (.inl (i3 yx1)), none] → (0 ≤ yx1 ∧ yx1 ≤ 1) → (0 ≤ yx2 ∧ yx2 ≤ 24) → zE T ((yx1, yx2)) → k 0 (L9, [], zm Z ν)) : wz_loop qb_285_3 65536 k R (L, [], zm Z ν) := by
  refine wz_lp sb_285_3 (fun m x => ∃ x1 : Int, ∃ x2 : Int, qz_fg [true, true, true] x.1 = [some (.inr (.inr (some (1, 0, 0)))), some (.inl (i3 x1)), some (.inl (i3 x2))] ∧ x.2 = ([], zm Z ν) ∧ m = (24 - x2).toNat ∧ (0 ≤ x1 ∧ x1 ≤ 1) ∧ (0 ≤ x2 ∧ x2 ≤ 24) ∧ zE T (zl_285_3 (m + 1) Z x1 x2)) ?_ 65536 ((24 - x2).toNat) _ (by omega) ⟨x1, x2, hL, rfl, rfl, gx1, gx2, hP⟩
  clear hP gx1 gx2 hL
  clear x1 x2
  rintro m ⟨L, st, μ⟩ ⟨x1, x2, hL, hx, hm, gx1, gx2, hP⟩
  cases hx
  refine fb_285_3 (i3 x1) (i3 x2) _ _ _ _ hL ?_
  have r1 := zM_k hZ 2 0 0 1401 (lo := 0) (hi := 24) (by decide) rfl
  refine wz_br (i3Le (zm_rd (Z := Z) (ν := ν) (k := 2) (show ((0 : Nat) : Int) = 0 from rfl) (show ((0 : Nat) : Int) = 0 from rfl) (show ((1401 : Nat) : Int) = 1401 from rfl)) (rfl : i3 x2 = i3 x2) (by omega) (by omega) (by omega) (by omega)) (fun h2 => ?_) (fun h2 => ?_)
  · replace hP := zE_p hP h2
    exact hk _ _ _ (zconso rfl (zconso (zvo (rfl : i3 x1 = i3 x1)) (zconso rfl rfl)))  (by omega) (by omega)  hP
  · replace hP := zE_n hP h2
    refine wz_br (i3E (rfl : i3 x1 = i3 x1) (show (0 : Int32) = i3 0 from rfl) (by omega) (by omega) (by omega) (by omega)) (fun h3 => ?_) (fun h3 => ?_)
    · replace hP := zE_p hP h3
      obtain ⟨m2, rfl⟩ : ∃ m2, m = m2 + 1 := ⟨m - 1, by omega⟩
      exact wz_k1 ⟨m2, by omega, 0, (x2 + 1), (zconso rfl (zconso (zvo (show (0 : Int32) = i3 0 from rfl)) (zconso (zvo (i3A (rfl : i3 x2 = i3 x2) (show (1 : Int32) = i3 1 from rfl))) rfl))), rfl,  by omega, by omega, by omega,  hP⟩
    · replace hP := zE_n hP h3
      refine wz_i0 (i3O (n := 4400) (i3A (i3A (show (1510 : Int32) = i3 1510 from rfl) (i3M (show (12 : Int32) = i3 12 from rfl) (rfl : i3 x2 = i3 x2))) (show (6 : Int32) = i3 6 from rfl)) (by omega) (by omega) (by omega)) ?_
      refine wz_i0 (i3O (n := 4400) (i3A (i3A (show (1510 : Int32) = i3 1510 from rfl) (i3M (show (12 : Int32) = i3 12 from rfl) (rfl : i3 x2 = i3 x2))) (show (7 : Int32) = i3 7 from rfl)) (by omega) (by omega) (by omega)) ?_
      have r4 := zM_k hZ 2 0 0 (1517 + 12 * x2) (lo := 0) (hi := 1) (by decide) (zs_1510_7 (x := x2) (by omega) (by omega) (by omega))
      refine wz_br (i3NE (zm_rd (Z := Z) (ν := ν) (k := 2) (show ((0 : Nat) : Int) = 0 from rfl) (show ((0 : Nat) : Int) = 0 from rfl) (i3I (y := (1517 + 12 * x2)) (i3A (i3A (show (1510 : Int32) = i3 1510 from rfl) (i3M (show (12 : Int32) = i3 12 from rfl) (rfl : i3 x2 = i3 x2))) (show (7 : Int32) = i3 7 from rfl)) (by omega) (by omega) (by omega))) (show (1 : Int32) = i3 1 from rfl) (by omega) (by omega) (by omega) (by omega)) (fun h5 => ?_) (fun h5 => ?_)
      · replace hP := zE_p hP h5
        refine wz_i0 (i3O (n := 4400) (i3A (i3A (show (1510 : Int32) = i3 1510 from rfl) (i3M (show (12 : Int32) = i3 12 from rfl) (rfl : i3 x2 = i3 x2))) (show (3 : Int32) = i3 3 from rfl)) (by omega) (by omega) (by omega)) ?_
        have r6 := zM_k hZ 2 0 0 (1516 + 12 * x2) (lo := 0) (hi := 99) (by decide) (zs_1510_6 (x := x2) (by omega) (by omega) (by omega))
        refine wz_i0 (Eq.trans (i3L (zm_rd (Z := Z) (ν := ν) (k := 2) (show ((0 : Nat) : Int) = 0 from rfl) (show ((0 : Nat) : Int) = 0 from rfl) (i3I (y := (1516 + 12 * x2)) (i3A (i3A (show (1510 : Int32) = i3 1510 from rfl) (i3M (show (12 : Int32) = i3 12 from rfl) (rfl : i3 x2 = i3 x2))) (show (6 : Int32) = i3 6 from rfl)) (by omega) (by omega) (by omega))) (show (0 : Int32) = i3 0 from rfl) (by omega) (by omega) (by omega) (by omega)) (decide_eq_false (by omega))) ?_
        have r7 := zM_k hZ 2 0 0 (1513 + 12 * x2) (lo := 0) (hi := 99) (by decide) (zs_1510_3 (x := x2) (by omega) (by omega) (by omega))
        refine wz_br (i3L (zm_rd (Z := Z) (ν := ν) (k := 2) (show ((0 : Nat) : Int) = 0 from rfl) (show ((0 : Nat) : Int) = 0 from rfl) (i3I (y := (1513 + 12 * x2)) (i3A (i3A (show (1510 : Int32) = i3 1510 from rfl) (i3M (show (12 : Int32) = i3 12 from rfl) (rfl : i3 x2 = i3 x2))) (show (3 : Int32) = i3 3 from rfl)) (by omega) (by omega) (by omega))) (zm_rd (Z := Z) (ν := ν) (k := 2) (show ((0 : Nat) : Int) = 0 from rfl) (show ((0 : Nat) : Int) = 0 from rfl) (i3I (y := (1516 + 12 * x2)) (i3A (i3A (show (1510 : Int32) = i3 1510 from rfl) (i3M (show (12 : Int32) = i3 12 from rfl) (rfl : i3 x2 = i3 x2))) (show (6 : Int32) = i3 6 from rfl)) (by omega) (by omega) (by omega))) (by omega) (by omega) (by omega) (by omega)) (fun h8 => ?_) (fun h8 => ?_)
        · replace hP := zE_p hP h8
          obtain ⟨m2, rfl⟩ : ∃ m2, m = m2 + 1 := ⟨m - 1, by omega⟩
          exact wz_k1 ⟨m2, by omega, 0, (x2 + 1), (zconso rfl (zconso (zvo (show (0 : Int32) = i3 0 from rfl)) (zconso (zvo (i3A (rfl : i3 x2 = i3 x2) (show (1 : Int32) = i3 1 from rfl))) rfl))), rfl,  by omega, by omega, by omega,  hP⟩
        · replace hP := zE_n hP h8
          obtain ⟨m2, rfl⟩ : ∃ m2, m = m2 + 1 := ⟨m - 1, by omega⟩
          exact wz_k1 ⟨m2, by omega, 1, (x2 + 1), (zconso rfl (zconso (zvo (show (1 : Int32) = i3 1 from rfl)) (zconso (zvo (i3A (rfl : i3 x2 = i3 x2) (show (1 : Int32) = i3 1 from rfl))) rfl))), rfl,  by omega, by omega, by omega,  hP⟩
      · replace hP := zE_n hP h5
        have r9 := zM_k hZ 2 0 0 (1516 + 12 * x2) (lo := 0) (hi := 99) (by decide) (zs_1510_6 (x := x2) (by omega) (by omega) (by omega))
        refine wz_i0 (Eq.trans (i3L (zm_rd (Z := Z) (ν := ν) (k := 2) (show ((0 : Nat) : Int) = 0 from rfl) (show ((0 : Nat) : Int) = 0 from rfl) (i3I (y := (1516 + 12 * x2)) (i3A (i3A (show (1510 : Int32) = i3 1510 from rfl) (i3M (show (12 : Int32) = i3 12 from rfl) (rfl : i3 x2 = i3 x2))) (show (6 : Int32) = i3 6 from rfl)) (by omega) (by omega) (by omega))) (show (0 : Int32) = i3 0 from rfl) (by omega) (by omega) (by omega) (by omega)) (decide_eq_false (by omega))) ?_
        refine wz_br (i3L (show (0 : Int32) = i3 0 from rfl) (zm_rd (Z := Z) (ν := ν) (k := 2) (show ((0 : Nat) : Int) = 0 from rfl) (show ((0 : Nat) : Int) = 0 from rfl) (i3I (y := (1516 + 12 * x2)) (i3A (i3A (show (1510 : Int32) = i3 1510 from rfl) (i3M (show (12 : Int32) = i3 12 from rfl) (rfl : i3 x2 = i3 x2))) (show (6 : Int32) = i3 6 from rfl)) (by omega) (by omega) (by omega))) (by omega) (by omega) (by omega) (by omega)) (fun h10 => ?_) (fun h10 => ?_)
        · replace hP := zE_p hP h10
          obtain ⟨m2, rfl⟩ : ∃ m2, m = m2 + 1 := ⟨m - 1, by omega⟩
          exact wz_k1 ⟨m2, by omega, 0, (x2 + 1), (zconso rfl (zconso (zvo (show (0 : Int32) = i3 0 from rfl)) (zconso (zvo (i3A (rfl : i3 x2 = i3 x2) (show (1 : Int32) = i3 1 from rfl))) rfl))), rfl,  by omega, by omega, by omega,  hP⟩
        · replace hP := zE_n hP h10
          obtain ⟨m2, rfl⟩ : ∃ m2, m = m2 + 1 := ⟨m - 1, by omega⟩
          exact wz_k1 ⟨m2, by omega, 1, (x2 + 1), (zconso rfl (zconso (zvo (show (1 : Int32) = i3 1 from rfl)) (zconso (zvo (i3A (rfl : i3 x2 = i3 x2) (show (1 : Int32) = i3 1 from rfl))) rfl))), rfl,  by omega, by omega, by omega,  hP⟩
/- yX12_bSound -/
def zf_285 (Z : qz_Z) : Int := (zlet2 (zl_285_1 9 Z 1 0) (fun y1 y2 => (zlet2 (zl_285_2 61 Z y1 0) (fun y4 y5 => (zlet2 (zl_285_3 25 Z y4 0) (fun y7 y8 => y7))))))
theorem sp_285 {s : zSM} {Z : qz_Z} {ν : qz_N} (hZ : zM s Z) (hM : s.2 + 0 ≤ 1000000000) : ∃ P : Int, P = zf_285 Z ∧ (qf_285 [.inr (.inr (some (1, 0, 0)))] (zm Z ν) = some (zm Z ν, .inl (some (.inl (i3 P)))) ∧ 0 ≤ P ∧ P ≤ 1) := by
  obtain ⟨P, hP⟩ := zx (zf_285 Z)
  refine zc_R (Q := fun P => 0 ≤ P ∧ P ≤ 1) hP (fw_285  _ _ ?_)
  replace hP : zE P (zf_285 Z) := hP
  unfold zf_285 at hP
  refine sl_285_1 (ν := ν) hZ (zbh (c := 0) (k := 0) hM (Nat.le_of_ble_eq_true rfl)) (x1 := 1) (by omega) (x2 := 0) (by omega)  (zconso rfl (zconso (zvo (show (1 : Int32) = i3 1 from rfl)) (zconso (zvo (show (0 : Int32) = i3 0 from rfl)) rfl))) rfl ?_
  intro L3 y1 y2 hL3 gy1 gy2 q9
  replace hP := zl_e2 hP (Eq.symm q9)
  clear q9
  refine fc_285_6 (i3 y1) _ _ _ _ hL3 ?_
  refine sl_285_2 (ν := ν) hZ (zbh (c := 0) (k := 0) hM (Nat.le_of_ble_eq_true rfl)) (x1 := y1) (by omega) (x2 := 0) (by omega)  (zconso rfl (zconso (zvo (rfl : i3 y1 = i3 y1)) (zconso (zvo (show (0 : Int32) = i3 0 from rfl)) rfl))) rfl ?_
  intro L6 y4 y5 hL6 gy4 gy5 q9
  replace hP := zl_e2 hP (Eq.symm q9)
  clear q9
  refine fc_285_5 (i3 y4) _ _ _ _ hL6 ?_
  refine sl_285_3 (ν := ν) hZ (zbh (c := 0) (k := 0) hM (Nat.le_of_ble_eq_true rfl)) (x1 := y4) (by omega) (x2 := 0) (by omega)  (zconso rfl (zconso (zvo (rfl : i3 y4 = i3 y4)) (zconso (zvo (show (0 : Int32) = i3 0 from rfl)) rfl))) rfl ?_
  intro L9 y7 y8 hL9 gy7 gy8 q9
  replace hP := zl_e2 hP (Eq.symm q9)
  clear q9
  refine fc_285_4 (i3 y7) _ _ _ _ hL9 ?_
  refine wz_i1 (i3B (rfl : i3 y7 = i3 y7) (by omega)) ?_
  exact zlR hP (rfl : i3 y7 = i3 y7) ⟨by omega, by omega⟩
/- yX12_tIsYet -/
def zl_516_1 (x1 : Int) (x2 : Int) : Nat → qz_Z → Int → Int → Int × Int
  | 0, Z, x3, x4 => (x3, x4)
  | m + 1, Z, x3, x4 => (if (Z 2 0 0 (3258 + 24 * x2)) ≤ x4 then (x3, x4) else (if x3 ≠ 0 then zl_516_1 x1 x2 m Z 1 (x4 + 1) else (if (Z 2 0 0 (3259 + 24 * x2 + x4)) ≠ (Z 2 0 0 (1410 + 12 * (Z 2 0 0 (2011 + 16 * x1)))) then zl_516_1 x1 x2 m Z 0 (x4 + 1) else (if (Z 2 0 0 (3264 + 24 * x2 + x4)) ≤ (Z 2 0 0 0) then zl_516_1 x1 x2 m Z 0 (x4 + 1) else zl_516_1 x1 x2 m Z 1 (x4 + 1)))))
theorem sl_516_1 {s : zSM} {Z : qz_Z} {ν : qz_N} (hZ : zM s Z) (hM : s.2 + 0 ≤ 1000000000) {x1 : Int} (gx1 : 0 ≤ x1 ∧ x1 ≤ 59) {x2 : Int} (gx2 : 0 ≤ x2 ∧ x2 ≤ 3) {x3 : Int} (gx3 : 0 ≤ x3 ∧ x3 ≤ 1) {x4 : Int} (gx4 : 0 ≤ x4 ∧ x4 ≤ 5) {k : wz_K} {R : wz_R} {L : qz_L} (hL : qz_fg [true, true, true, true, true] L = [some (.inr (.inr (some (1, 0, 0)))), some (.inl (i3 x1)), some (.inl (i3 x2)), some (.inl (i3 x3)), some (.inl (i3 x4))]) {T : Int × Int} (hP : zE T (zl_516_1 x1 x2 ((5 - x4).toNat + 1) Z x3 x4)) (hk : ∀ (L9 : qz_L) (yx3 yx4 : Int), qz_fg [false, false, false, true, false] L9 = [none, none, none, some (.inl (i3 yx3)), none] → (0 ≤ yx3 ∧ yx3 ≤ 1) → (0 ≤ yx4 ∧ yx4 ≤ 5) → zE T ((yx3, yx4)) → k 0 (L9, [], zm Z ν)) : wz_loop qb_516_1 65536 k R (L, [], zm Z ν) := by
  refine wz_lp sb_516_1 (fun m x => ∃ x3 : Int, ∃ x4 : Int, qz_fg [true, true, true, true, true] x.1 = [some (.inr (.inr (some (1, 0, 0)))), some (.inl (i3 x1)), some (.inl (i3 x2)), some (.inl (i3 x3)), some (.inl (i3 x4))] ∧ x.2 = ([], zm Z ν) ∧ m = (5 - x4).toNat ∧ (0 ≤ x3 ∧ x3 ≤ 1) ∧ (0 ≤ x4 ∧ x4 ≤ 5) ∧ zE T (zl_516_1 x1 x2 (m + 1) Z x3 x4)) ?_ 65536 ((5 - x4).toNat) _ (by omega) ⟨x3, x4, hL, rfl, rfl, gx3, gx4, hP⟩
  clear hP gx3 gx4 hL
  clear x3 x4
  rintro m ⟨L, st, μ⟩ ⟨x3, x4, hL, hx, hm, gx3, gx4, hP⟩
  cases hx
  refine fb_516_1 (i3 x1) (i3 x2) (i3 x3) (i3 x4) _ _ _ _ hL ?_
  refine wz_i0 (i3O (n := 4400) (i3A (i3A (show (3250 : Int32) = i3 3250 from rfl) (i3M (show (24 : Int32) = i3 24 from rfl) (rfl : i3 x2 = i3 x2))) (show (8 : Int32) = i3 8 from rfl)) (by omega) (by omega) (by omega)) ?_
  have r1 := zM_k hZ 2 0 0 (3258 + 24 * x2) (lo := 0) (hi := 5) (by decide) (zs_3250_8 (x := x2) (by omega) (by omega) (by omega))
  refine wz_br (i3Le (zm_rd (Z := Z) (ν := ν) (k := 2) (show ((0 : Nat) : Int) = 0 from rfl) (show ((0 : Nat) : Int) = 0 from rfl) (i3I (y := (3258 + 24 * x2)) (i3A (i3A (show (3250 : Int32) = i3 3250 from rfl) (i3M (show (24 : Int32) = i3 24 from rfl) (rfl : i3 x2 = i3 x2))) (show (8 : Int32) = i3 8 from rfl)) (by omega) (by omega) (by omega))) (rfl : i3 x4 = i3 x4) (by omega) (by omega) (by omega) (by omega)) (fun h2 => ?_) (fun h2 => ?_)
  · replace hP := zE_p hP h2
    exact hk _ _ _ (zconso rfl (zconso rfl (zconso rfl (zconso (zvo (rfl : i3 x3 = i3 x3)) (zconso rfl rfl)))))  (by omega) (by omega)  hP
  · replace hP := zE_n hP h2
    refine wz_br (i3NE (rfl : i3 x3 = i3 x3) (show (0 : Int32) = i3 0 from rfl) (by omega) (by omega) (by omega) (by omega)) (fun h3 => ?_) (fun h3 => ?_)
    · replace hP := zE_p hP h3
      obtain ⟨m2, rfl⟩ : ∃ m2, m = m2 + 1 := ⟨m - 1, by omega⟩
      exact wz_k1 ⟨m2, by omega, 1, (x4 + 1), (zconso rfl (zconso (zvo (rfl : i3 x1 = i3 x1)) (zconso (zvo (rfl : i3 x2 = i3 x2)) (zconso (zvo (show (1 : Int32) = i3 1 from rfl)) (zconso (zvo (i3A (rfl : i3 x4 = i3 x4) (show (1 : Int32) = i3 1 from rfl))) rfl))))), rfl,  by omega, by omega, by omega,  hP⟩
    · replace hP := zE_n hP h3
      refine wz_i0 (i3O (n := 4400) (i3A (i3A (show (3250 : Int32) = i3 3250 from rfl) (i3M (show (24 : Int32) = i3 24 from rfl) (rfl : i3 x2 = i3 x2))) (i3A (show (9 : Int32) = i3 9 from rfl) (rfl : i3 x4 = i3 x4))) (by omega) (by omega) (by omega)) ?_
      refine wz_i0 (i3O (n := 4400) (i3A (i3A (show (2010 : Int32) = i3 2010 from rfl) (i3M (show (16 : Int32) = i3 16 from rfl) (rfl : i3 x1 = i3 x1))) (show (1 : Int32) = i3 1 from rfl)) (by omega) (by omega) (by omega)) ?_
      have r4 := zM_k hZ 2 0 0 (2011 + 16 * x1) (lo := 0) (hi := 7) (by decide) (zs_2010_1 (x := x1) (by omega) (by omega) (by omega))
      refine wz_i0 (i3O (n := 4400) (i3A (i3A (show (1410 : Int32) = i3 1410 from rfl) (i3M (show (12 : Int32) = i3 12 from rfl) (zm_rd (Z := Z) (ν := ν) (k := 2) (show ((0 : Nat) : Int) = 0 from rfl) (show ((0 : Nat) : Int) = 0 from rfl) (i3I (y := (2011 + 16 * x1)) (i3A (i3A (show (2010 : Int32) = i3 2010 from rfl) (i3M (show (16 : Int32) = i3 16 from rfl) (rfl : i3 x1 = i3 x1))) (show (1 : Int32) = i3 1 from rfl)) (by omega) (by omega) (by omega))))) (show (0 : Int32) = i3 0 from rfl)) (by omega) (by omega) (by omega)) ?_
      have r5 := zM_k hZ 2 0 0 (3259 + 24 * x2 + x4) (lo := 0) (hi := 4) (by decide) (zsx (zsb_3250 (by omega) (by omega)) (c0 := 9) (n := 5) (by decide +kernel) (by omega) (by omega))
      have r6 := zM_k hZ 2 0 0 (1410 + 12 * (Z 2 0 0 (2011 + 16 * x1))) (lo := 0) (hi := 4) (by decide) (zs_1410_0 (x := (Z 2 0 0 (2011 + 16 * x1))) (by omega) (by omega) (by omega))
      refine wz_br (i3NE (zm_rd (Z := Z) (ν := ν) (k := 2) (show ((0 : Nat) : Int) = 0 from rfl) (show ((0 : Nat) : Int) = 0 from rfl) (i3I (y := (3259 + 24 * x2 + x4)) (i3A (i3A (show (3250 : Int32) = i3 3250 from rfl) (i3M (show (24 : Int32) = i3 24 from rfl) (rfl : i3 x2 = i3 x2))) (i3A (show (9 : Int32) = i3 9 from rfl) (rfl : i3 x4 = i3 x4))) (by omega) (by omega) (by omega))) (zm_rd (Z := Z) (ν := ν) (k := 2) (show ((0 : Nat) : Int) = 0 from rfl) (show ((0 : Nat) : Int) = 0 from rfl) (i3I (y := (1410 + 12 * (Z 2 0 0 (2011 + 16 * x1)))) (i3A (i3A (show (1410 : Int32) = i3 1410 from rfl) (i3M (show (12 : Int32) = i3 12 from rfl) (zm_rd (Z := Z) (ν := ν) (k := 2) (show ((0 : Nat) : Int) = 0 from rfl) (show ((0 : Nat) : Int) = 0 from rfl) (i3I (y := (2011 + 16 * x1)) (i3A (i3A (show (2010 : Int32) = i3 2010 from rfl) (i3M (show (16 : Int32) = i3 16 from rfl) (rfl : i3 x1 = i3 x1))) (show (1 : Int32) = i3 1 from rfl)) (by omega) (by omega) (by omega))))) (show (0 : Int32) = i3 0 from rfl)) (by omega) (by omega) (by omega))) (by omega) (by omega) (by omega) (by omega)) (fun h7 => ?_) (fun h7 => ?_)
      · replace hP := zE_p hP h7
        obtain ⟨m2, rfl⟩ : ∃ m2, m = m2 + 1 := ⟨m - 1, by omega⟩
        exact wz_k1 ⟨m2, by omega, 0, (x4 + 1), (zconso rfl (zconso (zvo (rfl : i3 x1 = i3 x1)) (zconso (zvo (rfl : i3 x2 = i3 x2)) (zconso (zvo (show (0 : Int32) = i3 0 from rfl)) (zconso (zvo (i3A (rfl : i3 x4 = i3 x4) (show (1 : Int32) = i3 1 from rfl))) rfl))))), rfl,  by omega, by omega, by omega,  hP⟩
      · replace hP := zE_n hP h7
        refine wz_i0 (i3O (n := 4400) (i3A (i3A (show (3250 : Int32) = i3 3250 from rfl) (i3M (show (24 : Int32) = i3 24 from rfl) (rfl : i3 x2 = i3 x2))) (i3A (show (14 : Int32) = i3 14 from rfl) (rfl : i3 x4 = i3 x4))) (by omega) (by omega) (by omega)) ?_
        have r8 := zM_k hZ 2 0 0 (3264 + 24 * x2 + x4) (lo := 0) (hi := 743) (by decide) (zsx (zsb_3250 (by omega) (by omega)) (c0 := 14) (n := 5) (by decide +kernel) (by omega) (by omega))
        have r9 := zM_k hZ 2 0 0 0 (lo := 0) (hi := 671) (by decide) rfl
        refine wz_br (i3Le (zm_rd (Z := Z) (ν := ν) (k := 2) (show ((0 : Nat) : Int) = 0 from rfl) (show ((0 : Nat) : Int) = 0 from rfl) (i3I (y := (3264 + 24 * x2 + x4)) (i3A (i3A (show (3250 : Int32) = i3 3250 from rfl) (i3M (show (24 : Int32) = i3 24 from rfl) (rfl : i3 x2 = i3 x2))) (i3A (show (14 : Int32) = i3 14 from rfl) (rfl : i3 x4 = i3 x4))) (by omega) (by omega) (by omega))) (zm_rd (Z := Z) (ν := ν) (k := 2) (show ((0 : Nat) : Int) = 0 from rfl) (show ((0 : Nat) : Int) = 0 from rfl) (show ((0 : Nat) : Int) = 0 from rfl)) (by omega) (by omega) (by omega) (by omega)) (fun h10 => ?_) (fun h10 => ?_)
        · replace hP := zE_p hP h10
          obtain ⟨m2, rfl⟩ : ∃ m2, m = m2 + 1 := ⟨m - 1, by omega⟩
          exact wz_k1 ⟨m2, by omega, 0, (x4 + 1), (zconso rfl (zconso (zvo (rfl : i3 x1 = i3 x1)) (zconso (zvo (rfl : i3 x2 = i3 x2)) (zconso (zvo (show (0 : Int32) = i3 0 from rfl)) (zconso (zvo (i3A (rfl : i3 x4 = i3 x4) (show (1 : Int32) = i3 1 from rfl))) rfl))))), rfl,  by omega, by omega, by omega,  hP⟩
        · replace hP := zE_n hP h10
          obtain ⟨m2, rfl⟩ : ∃ m2, m = m2 + 1 := ⟨m - 1, by omega⟩
          exact wz_k1 ⟨m2, by omega, 1, (x4 + 1), (zconso rfl (zconso (zvo (rfl : i3 x1 = i3 x1)) (zconso (zvo (rfl : i3 x2 = i3 x2)) (zconso (zvo (show (1 : Int32) = i3 1 from rfl)) (zconso (zvo (i3A (rfl : i3 x4 = i3 x4) (show (1 : Int32) = i3 1 from rfl))) rfl))))), rfl,  by omega, by omega, by omega,  hP⟩
/- yX12_tIsYet -/
def zf_516 (Z : qz_Z) (a1 : Int) (a2 : Int) : Int := (zlet2 (zl_516_1 a1 a2 6 Z 0 0) (fun y1 y2 => y1))
theorem sp_516 {s : zSM} {Z : qz_Z} {ν : qz_N} (hZ : zM s Z) {a1 : Int} (ga1 : 0 ≤ a1 ∧ a1 ≤ 59) {a2 : Int} (ga2 : 0 ≤ a2 ∧ a2 ≤ 3) (hM : s.2 + 0 ≤ 1000000000) : ∃ P : Int, P = zf_516 Z a1 a2 ∧ (qf_516 [.inr (.inr (some (1, 0, 0))), .inl (i3 a1), .inl (i3 a2)] (zm Z ν) = some (zm Z ν, .inl (some (.inl (i3 P)))) ∧ 0 ≤ P ∧ P ≤ 1) := by
  obtain ⟨P, hP⟩ := zx (zf_516 Z a1 a2)
  refine zc_R (Q := fun P => 0 ≤ P ∧ P ≤ 1) hP (fw_516 (i3 a1) (i3 a2) _ _ ?_)
  replace hP : zE P (zf_516 Z a1 a2) := hP
  unfold zf_516 at hP
  refine sl_516_1 (ν := ν) hZ (zbh (c := 0) (k := 0) hM (Nat.le_of_ble_eq_true rfl)) (x1 := a1) (by omega) (x2 := a2) (by omega) (x3 := 0) (by omega) (x4 := 0) (by omega)  (zconso rfl (zconso (zvo (rfl : i3 a1 = i3 a1)) (zconso (zvo (rfl : i3 a2 = i3 a2)) (zconso (zvo (show (0 : Int32) = i3 0 from rfl)) (zconso (zvo (show (0 : Int32) = i3 0 from rfl)) rfl))))) rfl ?_
  intro L3 y1 y2 hL3 gy1 gy2 q9
  replace hP := zl_e2 hP (Eq.symm q9)
  clear q9
  refine fc_516_2 (i3 y1) _ _ _ _ hL3 ?_
  refine wz_i1 (i3B (rfl : i3 y1 = i3 y1) (by omega)) ?_
  exact zlR hP (rfl : i3 y1 = i3 y1) ⟨by omega, by omega⟩
/- yX12_tTo -/
def zl_525_1 (x2 : Int) (x3 : Int) : Nat → qz_Z → Int → Int → Int × Int
  | 0, Z, x4, x5 => (x4, x5)
  | m + 1, Z, x4, x5 => (if 5 ≤ x5 then (x4, x5) else (if (z2 (fun x y => x &&& y) (z2 (fun x y => x >>> (y &&& 31)) x3 x5) 1) ≠ 1 then zl_525_1 x2 x3 m Z x4 (x5 + 1) else (if x4 = (-1) then zl_525_1 x2 x3 m Z (w3 ((Z 97 0 0 (5 * x3 + x5)) + (Z 2 0 0 (3210 + 6 * x5 + x2)))) (x5 + 1) else (if x4 ≤ (w3 ((Z 97 0 0 (5 * x3 + x5)) + (Z 2 0 0 (3210 + 6 * x5 + x2)))) then zl_525_1 x2 x3 m Z x4 (x5 + 1) else zl_525_1 x2 x3 m Z (w3 ((Z 97 0 0 (5 * x3 + x5)) + (Z 2 0 0 (3210 + 6 * x5 + x2)))) (x5 + 1)))))
theorem sl_525_1 {s : zSM} {Z : qz_Z} {ν : qz_N} (hZ : zM s Z) (hM : s.2 + 0 ≤ 1000000000) {x2 : Int} (gx2 : 0 ≤ x2 ∧ x2 ≤ 4) {x3 : Int} (gx3 : 0 ≤ x3 ∧ x3 ≤ 31) {x4 : Int} (gx4 : -2147483648 ≤ x4 ∧ x4 ≤ 2147483647) {x5 : Int} (gx5 : 0 ≤ x5 ∧ x5 ≤ 5) {k : wz_K} {R : wz_R} {L : qz_L} (hL : qz_fg [true, false, true, true, true, true, false] L = [some (.inr (.inr (some (1, 0, 0)))), none, some (.inl (i3 x2)), some (.inl (i3 x3)), some (.inl (i3 x4)), some (.inl (i3 x5)), none]) {T : Int × Int} (hP : zE T (zl_525_1 x2 x3 ((5 - x5).toNat + 1) Z x4 x5)) (hk : ∀ (L9 : qz_L) (yx4 yx5 : Int), qz_fg [false, false, false, false, true, false, false] L9 = [none, none, none, none, some (.inl (i3 yx4)), none, none] → (-2147483648 ≤ yx4 ∧ yx4 ≤ 2147483647) → (0 ≤ yx5 ∧ yx5 ≤ 5) → zE T ((yx4, yx5)) → k 0 (L9, [], zm Z ν)) : wz_loop qb_525_1 65536 k R (L, [], zm Z ν) := by
  refine wz_lp sb_525_1 (fun m x => ∃ x4 : Int, ∃ x5 : Int, qz_fg [true, false, true, true, true, true, false] x.1 = [some (.inr (.inr (some (1, 0, 0)))), none, some (.inl (i3 x2)), some (.inl (i3 x3)), some (.inl (i3 x4)), some (.inl (i3 x5)), none] ∧ x.2 = ([], zm Z ν) ∧ m = (5 - x5).toNat ∧ (-2147483648 ≤ x4 ∧ x4 ≤ 2147483647) ∧ (0 ≤ x5 ∧ x5 ≤ 5) ∧ zE T (zl_525_1 x2 x3 (m + 1) Z x4 x5)) ?_ 65536 ((5 - x5).toNat) _ (by omega) ⟨x4, x5, hL, rfl, rfl, gx4, gx5, hP⟩
  clear hP gx4 gx5 hL
  clear x4 x5
  rintro m ⟨L, st, μ⟩ ⟨x4, x5, hL, hx, hm, gx4, gx5, hP⟩
  cases hx
  refine fb_525_1 (i3 x2) (i3 x3) (i3 x4) (i3 x5) _ _ _ _ hL ?_
  refine wz_br (i3Le (show (5 : Int32) = i3 5 from rfl) (rfl : i3 x5 = i3 x5) (by omega) (by omega) (by omega) (by omega)) (fun h1 => ?_) (fun h1 => ?_)
  · replace hP := zE_p hP h1
    exact hk _ _ _ (zconso rfl (zconso rfl (zconso rfl (zconso rfl (zconso (zvo (rfl : i3 x4 = i3 x4)) (zconso rfl (zconso rfl rfl)))))))  (by omega) (by omega)  hP
  · replace hP := zE_n hP h1
    have r2 := z2_r (fun x y => x >>> (y &&& 31)) x3 x5
    have r3 := z2_r (fun x y => x &&& y) (z2 (fun x y => x >>> (y &&& 31)) x3 x5) 1
    have r4 := z2_and (z2 (fun x y => x >>> (y &&& 31)) x3 x5) (y := 1) (by omega) (by omega)
    refine wz_br (i3NE (i3Z (fun x y => x &&& y) (i3Z (fun x y => x >>> (y &&& 31)) (rfl : i3 x3 = i3 x3) (rfl : i3 x5 = i3 x5)) (show (1 : Int32) = i3 1 from rfl)) (show (1 : Int32) = i3 1 from rfl) (by omega) (by omega) (by omega) (by omega)) (fun h5 => ?_) (fun h5 => ?_)
    · replace hP := zE_p hP h5
      obtain ⟨m2, rfl⟩ : ∃ m2, m = m2 + 1 := ⟨m - 1, by omega⟩
      exact wz_k1 ⟨m2, by omega, x4, (x5 + 1), (zconso rfl (zconso rfl (zconso (zvo (rfl : i3 x2 = i3 x2)) (zconso (zvo (rfl : i3 x3 = i3 x3)) (zconso (zvo (rfl : i3 x4 = i3 x4)) (zconso (zvo (i3A (rfl : i3 x5 = i3 x5) (show (1 : Int32) = i3 1 from rfl))) (zconso rfl rfl))))))), rfl,  by omega, by omega, by omega,  hP⟩
    · replace hP := zE_n hP h5
      refine wz_i0 (i3O (n := 160) (i3A (i3M (show (5 : Int32) = i3 5 from rfl) (rfl : i3 x3 = i3 x3)) (rfl : i3 x5 = i3 x5)) (by omega) (by omega) (by omega)) ?_
      refine wz_i0 (i3O (n := 4400) (i3A (i3A (show (3210 : Int32) = i3 3210 from rfl) (i3M (show (6 : Int32) = i3 6 from rfl) (rfl : i3 x5 = i3 x5))) (rfl : i3 x2 = i3 x2)) (by omega) (by omega) (by omega)) ?_
      refine wz_br (i3E (rfl : i3 x4 = i3 x4) (show (-1 : Int32) = i3 (-1) from rfl) (by omega) (by omega) (by omega) (by omega)) (fun h6 => ?_) (fun h6 => ?_)
      · replace hP := zE_p hP h6
        have r7 := zM_f hZ 97 0 0 (5 * x3 + x5)
        have r8 := zM_k hZ 2 0 0 (3210 + 6 * x5 + x2) (lo := 0) (hi := 12) (by decide) (zs_3210 (by omega) (by omega))
        have r9 := w3_r ((Z 97 0 0 (5 * x3 + x5)) + (Z 2 0 0 (3210 + 6 * x5 + x2)))
        obtain ⟨m2, rfl⟩ : ∃ m2, m = m2 + 1 := ⟨m - 1, by omega⟩
        exact wz_k1 ⟨m2, by omega, (w3 ((Z 97 0 0 (5 * x3 + x5)) + (Z 2 0 0 (3210 + 6 * x5 + x2)))), (x5 + 1), (zconso rfl (zconso rfl (zconso (zvo (rfl : i3 x2 = i3 x2)) (zconso (zvo (rfl : i3 x3 = i3 x3)) (zconso (zvo (i3W (i3A (zm_rd (Z := Z) (ν := ν) (k := 97) (show ((0 : Nat) : Int) = 0 from rfl) (show ((0 : Nat) : Int) = 0 from rfl) (i3I (y := (5 * x3 + x5)) (i3A (i3M (show (5 : Int32) = i3 5 from rfl) (rfl : i3 x3 = i3 x3)) (rfl : i3 x5 = i3 x5)) (by omega) (by omega) (by omega))) (zm_rd (Z := Z) (ν := ν) (k := 2) (show ((0 : Nat) : Int) = 0 from rfl) (show ((0 : Nat) : Int) = 0 from rfl) (i3I (y := (3210 + 6 * x5 + x2)) (i3A (i3A (show (3210 : Int32) = i3 3210 from rfl) (i3M (show (6 : Int32) = i3 6 from rfl) (rfl : i3 x5 = i3 x5))) (rfl : i3 x2 = i3 x2)) (by omega) (by omega) (by omega)))))) (zconso (zvo (i3A (rfl : i3 x5 = i3 x5) (show (1 : Int32) = i3 1 from rfl))) (zconso rfl rfl))))))), rfl,  by omega, by omega, by omega,  hP⟩
      · replace hP := zE_n hP h6
        have r10 := zM_f hZ 97 0 0 (5 * x3 + x5)
        have r11 := zM_k hZ 2 0 0 (3210 + 6 * x5 + x2) (lo := 0) (hi := 12) (by decide) (zs_3210 (by omega) (by omega))
        have r12 := w3_r ((Z 97 0 0 (5 * x3 + x5)) + (Z 2 0 0 (3210 + 6 * x5 + x2)))
        refine wz_br (i3Le (rfl : i3 x4 = i3 x4) (i3W (i3A (zm_rd (Z := Z) (ν := ν) (k := 97) (show ((0 : Nat) : Int) = 0 from rfl) (show ((0 : Nat) : Int) = 0 from rfl) (i3I (y := (5 * x3 + x5)) (i3A (i3M (show (5 : Int32) = i3 5 from rfl) (rfl : i3 x3 = i3 x3)) (rfl : i3 x5 = i3 x5)) (by omega) (by omega) (by omega))) (zm_rd (Z := Z) (ν := ν) (k := 2) (show ((0 : Nat) : Int) = 0 from rfl) (show ((0 : Nat) : Int) = 0 from rfl) (i3I (y := (3210 + 6 * x5 + x2)) (i3A (i3A (show (3210 : Int32) = i3 3210 from rfl) (i3M (show (6 : Int32) = i3 6 from rfl) (rfl : i3 x5 = i3 x5))) (rfl : i3 x2 = i3 x2)) (by omega) (by omega) (by omega))))) (by omega) (by omega) (by omega) (by omega)) (fun h13 => ?_) (fun h13 => ?_)
        · replace hP := zE_p hP h13
          obtain ⟨m2, rfl⟩ : ∃ m2, m = m2 + 1 := ⟨m - 1, by omega⟩
          exact wz_k1 ⟨m2, by omega, x4, (x5 + 1), (zconso rfl (zconso rfl (zconso (zvo (rfl : i3 x2 = i3 x2)) (zconso (zvo (rfl : i3 x3 = i3 x3)) (zconso (zvo (rfl : i3 x4 = i3 x4)) (zconso (zvo (i3A (rfl : i3 x5 = i3 x5) (show (1 : Int32) = i3 1 from rfl))) (zconso rfl rfl))))))), rfl,  by omega, by omega, by omega,  hP⟩
        · replace hP := zE_n hP h13
          obtain ⟨m2, rfl⟩ : ∃ m2, m = m2 + 1 := ⟨m - 1, by omega⟩
          exact wz_k1 ⟨m2, by omega, (w3 ((Z 97 0 0 (5 * x3 + x5)) + (Z 2 0 0 (3210 + 6 * x5 + x2)))), (x5 + 1), (zconso rfl (zconso rfl (zconso (zvo (rfl : i3 x2 = i3 x2)) (zconso (zvo (rfl : i3 x3 = i3 x3)) (zconso (zvo (i3W (i3A (zm_rd (Z := Z) (ν := ν) (k := 97) (show ((0 : Nat) : Int) = 0 from rfl) (show ((0 : Nat) : Int) = 0 from rfl) (i3I (y := (5 * x3 + x5)) (i3A (i3M (show (5 : Int32) = i3 5 from rfl) (rfl : i3 x3 = i3 x3)) (rfl : i3 x5 = i3 x5)) (by omega) (by omega) (by omega))) (zm_rd (Z := Z) (ν := ν) (k := 2) (show ((0 : Nat) : Int) = 0 from rfl) (show ((0 : Nat) : Int) = 0 from rfl) (i3I (y := (3210 + 6 * x5 + x2)) (i3A (i3A (show (3210 : Int32) = i3 3210 from rfl) (i3M (show (6 : Int32) = i3 6 from rfl) (rfl : i3 x5 = i3 x5))) (rfl : i3 x2 = i3 x2)) (by omega) (by omega) (by omega)))))) (zconso (zvo (i3A (rfl : i3 x5 = i3 x5) (show (1 : Int32) = i3 1 from rfl))) (zconso rfl rfl))))))), rfl,  by omega, by omega, by omega,  hP⟩
/- yX12_tTo -/
def zf_525 (Z : qz_Z) (a1 : Int) (a2 : Int) : Int := (if (z2 (fun x y => x &&& y) a1 (z2 (fun x y => x ^^^ y) (z2 (fun x y => x <<< (y &&& 31)) 1 a2) (-1))) ≠ 0 then (zlet2 (zl_525_1 a2 (z2 (fun x y => x &&& y) a1 (z2 (fun x y => x ^^^ y) (z2 (fun x y => x <<< (y &&& 31)) 1 a2) (-1))) 6 Z (-1) 0) (fun y7 y8 => y7)) else (Z 2 0 0 (3240 + a2)))
theorem sp_525 {s : zSM} {Z : qz_Z} {ν : qz_N} (hZ : zM s Z) {a1 : Int} (ga1 : 1 ≤ a1 ∧ a1 ≤ 31) {a2 : Int} (ga2 : 0 ≤ a2 ∧ a2 ≤ 4) (hM : s.2 + 0 ≤ 1000000000) : ∃ P : Int, P = zf_525 Z a1 a2 ∧ (qf_525 [.inr (.inr (some (1, 0, 0))), .inl (i3 a1), .inl (i3 a2)] (zm Z ν) = some (zm Z ν, .inl (some (.inl (i3 P)))) ∧ -2147483648 ≤ P ∧ P ≤ 2147483647) := by
  obtain ⟨P, hP⟩ := zx (zf_525 Z a1 a2)
  refine zc_R (Q := fun P => -2147483648 ≤ P ∧ P ≤ 2147483647) hP (fw_525 (i3 a1) (i3 a2) _ _ ?_)
  replace hP : zE P (zf_525 Z a1 a2) := hP
  unfold zf_525 at hP
  have r1 := z2_r (fun x y => x <<< (y &&& 31)) 1 a2
  have r2 := z2_shl4 (n := a2) (by omega) (by omega)
  have r3 := z2_r (fun x y => x ^^^ y) (z2 (fun x y => x <<< (y &&& 31)) 1 a2) (-1)
  have r4 := z2_r (fun x y => x &&& y) a1 (z2 (fun x y => x ^^^ y) (z2 (fun x y => x <<< (y &&& 31)) 1 a2) (-1))
  have r5 := z2_andl (z2 (fun x y => x ^^^ y) (z2 (fun x y => x <<< (y &&& 31)) 1 a2) (-1)) (x := a1) (by omega) (by omega)
  refine wz_br (i3NE (i3Z (fun x y => x &&& y) (rfl : i3 a1 = i3 a1) (i3Z (fun x y => x ^^^ y) (i3Z (fun x y => x <<< (y &&& 31)) (show (1 : Int32) = i3 1 from rfl) (rfl : i3 a2 = i3 a2)) (show (-1 : Int32) = i3 (-1) from rfl))) (show (0 : Int32) = i3 0 from rfl) (by omega) (by omega) (by omega) (by omega)) (fun h6 => ?_) (fun h6 => ?_)
  · replace hP := zE_p hP h6
    refine sl_525_1 (ν := ν) hZ (zbh (c := 0) (k := 0) hM (Nat.le_of_ble_eq_true rfl)) (x2 := a2) (by omega) (x3 := (z2 (fun x y => x &&& y) a1 (z2 (fun x y => x ^^^ y) (z2 (fun x y => x <<< (y &&& 31)) 1 a2) (-1)))) (by omega) (x4 := (-1)) (by omega) (x5 := 0) (by omega)  (zconso rfl (zconso rfl (zconso (zvo (rfl : i3 a2 = i3 a2)) (zconso (zvo (i3Z (fun x y => x &&& y) (rfl : i3 a1 = i3 a1) (i3Z (fun x y => x ^^^ y) (i3Z (fun x y => x <<< (y &&& 31)) (show (1 : Int32) = i3 1 from rfl) (rfl : i3 a2 = i3 a2)) (show (-1 : Int32) = i3 (-1) from rfl)))) (zconso (zvo (show (-1 : Int32) = i3 (-1) from rfl)) (zconso (zvo (show (0 : Int32) = i3 0 from rfl)) (zconso rfl rfl))))))) rfl ?_
    intro L9 y7 y8 hL9 gy7 gy8 q9
    replace hP := zl_e2 hP (Eq.symm q9)
    clear q9
    refine fc_525_2 (i3 y7) _ _ _ _ hL9 ?_
    exact zlR hP (rfl : i3 y7 = i3 y7) ⟨by omega, by omega⟩
  · replace hP := zE_n hP h6
    refine wz_i0 (i3O (n := 4400) (i3A (show (3240 : Int32) = i3 3240 from rfl) (rfl : i3 a2 = i3 a2)) (by omega) (by omega) (by omega)) ?_
    have r10 := zM_k hZ 2 0 0 (3240 + a2) (lo := 0) (hi := 12) (by decide) (zs_3210 (by omega) (by omega))
    exact zlR hP (zm_rd (Z := Z) (ν := ν) (k := 2) (show ((0 : Nat) : Int) = 0 from rfl) (show ((0 : Nat) : Int) = 0 from rfl) (i3I (y := (3240 + a2)) (i3A (show (3240 : Int32) = i3 3240 from rfl) (rfl : i3 a2 = i3 a2)) (by omega) (by omega) (by omega))) ⟨by omega, by omega⟩
/- yX12_tLongBySets -/
def zl_519_1 (x1 : Int) (x2 : Int) : Nat → qz_Z → Int → qz_Z × Int
  | 0, Z, x3 => (Z, x3)
  | m + 1, Z, x3 => (if 5 ≤ x3 then (Z, x3) else (if (z2 (fun x y => x &&& y) (z2 (fun x y => x >>> (y &&& 31)) x2 x3) 1) ≠ 1 then (zlet (zu Z 97 0 0 (5 * x2 + x3) 0) (fun Z6 => zl_519_1 x1 x2 m Z6 (x3 + 1))) else (zlet (zf_525 Z x2 x3) (fun v7 => (zlet (zu Z 97 0 0 (5 * x2 + x3) v7) (fun Z8 => zl_519_1 x1 x2 m Z8 (x3 + 1)))))))
theorem sl_519_1 {s : zSM} {Zs Z : qz_Z} {ν : qz_N} (hZ : zM s Z) (hM : s.2 + 0 ≤ 1000000000) (hK : zC [97] Zs Z) {x1 : Int} (gx1 : 1 ≤ x1 ∧ x1 ≤ 31) {x2 : Int} (gx2 : 1 ≤ x2 ∧ x2 ≤ 31) {x3 : Int} (gx3 : 0 ≤ x3 ∧ x3 ≤ 5) (hU : zU [] Zs Z) {k : wz_K} {R : wz_R} {L : qz_L} (hL : qz_fg [true, true, true, true, false] L = [some (.inr (.inr (some (1, 0, 0)))), some (.inl (i3 x1)), some (.inl (i3 x2)), some (.inl (i3 x3)), none]) {T : qz_Z × Int} (hP : zE T (zl_519_1 x1 x2 ((5 - x3).toNat + 1) Z x3)) (hk : ∀ (L9 : qz_L) (Z9 : qz_Z) (yx3 : Int), qz_fg [true, true, true, false, false] L9 = [some (.inr (.inr (some (1, 0, 0)))), some (.inl (i3 x1)), some (.inl (i3 x2)), none, none] → zM s Z9 → zC [97] Zs Z9 → zU [] Zs Z9 → (0 ≤ yx3 ∧ yx3 ≤ 5) → zE T ((Z9, yx3)) → k 0 (L9, [], zm Z9 ν)) : wz_loop qb_519_1 65536 k R (L, [], zm Z ν) := by
  refine wz_lp sb_519_1 (fun m x => ∃ Z : qz_Z, ∃ x3 : Int, qz_fg [true, true, true, true, false] x.1 = [some (.inr (.inr (some (1, 0, 0)))), some (.inl (i3 x1)), some (.inl (i3 x2)), some (.inl (i3 x3)), none] ∧ x.2 = ([], zm Z ν) ∧ zM s Z ∧ zC [97] Zs Z ∧ zU [] Zs Z ∧ m = (5 - x3).toNat ∧ (0 ≤ x3 ∧ x3 ≤ 5) ∧ zE T (zl_519_1 x1 x2 (m + 1) Z x3)) ?_ 65536 ((5 - x3).toNat) _ (by omega) ⟨Z, x3, hL, rfl, hZ, hK, hU, rfl, gx3, hP⟩
  clear hP gx3 hZ hK hU hL
  clear x3
  clear Z
  rintro m ⟨L, st, μ⟩ ⟨Z, x3, hL, hx, hZ, hK, hU, hm, gx3, hP⟩
  cases hx
  refine fb_519_1 (i3 x1) (i3 x2) (i3 x3) _ _ _ _ hL ?_
  refine wz_br (i3Le (show (5 : Int32) = i3 5 from rfl) (rfl : i3 x3 = i3 x3) (by omega) (by omega) (by omega) (by omega)) (fun h1 => ?_) (fun h1 => ?_)
  · replace hP := zE_p hP h1
    exact hk _ _ _ (zconso rfl (zconso (zvo (rfl : i3 x1 = i3 x1)) (zconso (zvo (rfl : i3 x2 = i3 x2)) (zconso rfl (zconso rfl rfl))))) hZ hK hU (by omega)  hP
  · replace hP := zE_n hP h1
    have r2 := z2_r (fun x y => x >>> (y &&& 31)) x2 x3
    have r3 := z2_r (fun x y => x &&& y) (z2 (fun x y => x >>> (y &&& 31)) x2 x3) 1
    have r4 := z2_and (z2 (fun x y => x >>> (y &&& 31)) x2 x3) (y := 1) (by omega) (by omega)
    refine wz_br (i3NE (i3Z (fun x y => x &&& y) (i3Z (fun x y => x >>> (y &&& 31)) (rfl : i3 x2 = i3 x2) (rfl : i3 x3 = i3 x3)) (show (1 : Int32) = i3 1 from rfl)) (show (1 : Int32) = i3 1 from rfl) (by omega) (by omega) (by omega) (by omega)) (fun h5 => ?_) (fun h5 => ?_)
    · replace hP := zE_p hP h5
      refine wz_i0 (i3O (n := 160) (i3A (i3M (show (5 : Int32) = i3 5 from rfl) (rfl : i3 x2 = i3 x2)) (rfl : i3 x3 = i3 x3)) (by omega) (by omega) (by omega)) ?_
      obtain ⟨Z6, hZ6⟩ := zx (zu Z 97 0 0 (5 * x2 + x3) 0)
      replace hP := zl_e hP hZ6
      have hZ6I := zM_0 hZ hZ6 (by decide) (Or.inl (by decide))
      have hZ6U : zU [] Zs Z6 := zU_u hU hZ6 (Or.inl rfl)
      have hZ6K : zC [97] Zs Z6 := zC_u hK hZ6 rfl
      intro μ9 e9
      replace e9 := e9.trans (zm_wI (Z := Z) (ν := ν) hZ6 (show ((0 : Nat) : Int) = 0 from rfl) (show ((0 : Nat) : Int) = 0 from rfl) (i3I (y := (5 * x2 + x3)) (i3A (i3M (show (5 : Int32) = i3 5 from rfl) (rfl : i3 x2 = i3 x2)) (rfl : i3 x3 = i3 x3)) (by omega) (by omega) (by omega)) (show (0 : Int32) = i3 0 from rfl))
      subst e9
      obtain ⟨m2, rfl⟩ : ∃ m2, m = m2 + 1 := ⟨m - 1, by omega⟩
      exact wz_k1 ⟨m2, by omega, Z6, (x3 + 1), (zconso rfl (zconso (zvo (rfl : i3 x1 = i3 x1)) (zconso (zvo (rfl : i3 x2 = i3 x2)) (zconso (zvo (i3A (rfl : i3 x3 = i3 x3) (show (1 : Int32) = i3 1 from rfl))) (zconso rfl rfl))))), rfl, hZ6I, hZ6K, hZ6U, by omega, by omega,  hP⟩
    · replace hP := zE_n hP h5
      obtain ⟨v7, hv7, c9, lv7, uv7⟩ := sp_525 (ν := ν) hZ (a1 := x2) (by omega) (a2 := x3) (by omega) (zbh (c := 0) (k := 0) hM (Nat.le_of_ble_eq_true rfl))
      replace hP := zl_e hP hv7
      refine wz_cI_of (zas (zcons rfl (zcons (zvi (rfl : i3 x2 = i3 x2)) (zcons (zvi (rfl : i3 x3 = i3 x3)) rfl))) c9) ?_
      clear c9
      refine wz_i0 (i3O (n := 160) (i3A (i3M (show (5 : Int32) = i3 5 from rfl) (rfl : i3 x2 = i3 x2)) (rfl : i3 x3 = i3 x3)) (by omega) (by omega) (by omega)) ?_
      obtain ⟨Z8, hZ8⟩ := zx (zu Z 97 0 0 (5 * x2 + x3) v7)
      replace hP := zl_e hP hZ8
      have hZ8I := zM_u hZ hZ8 (lo := -2147483648) (hi := 2147483647) (by decide) rfl (by omega) ⟨by decide, by decide⟩ (Or.inl (by decide)) rfl
      have hZ8U : zU [] Zs Z8 := zU_u hU hZ8 (Or.inl rfl)
      have hZ8K : zC [97] Zs Z8 := zC_u hK hZ8 rfl
      intro μ9 e9
      replace e9 := e9.trans (zm_wI (Z := Z) (ν := ν) hZ8 (show ((0 : Nat) : Int) = 0 from rfl) (show ((0 : Nat) : Int) = 0 from rfl) (i3I (y := (5 * x2 + x3)) (i3A (i3M (show (5 : Int32) = i3 5 from rfl) (rfl : i3 x2 = i3 x2)) (rfl : i3 x3 = i3 x3)) (by omega) (by omega) (by omega)) (rfl : i3 v7 = i3 v7))
      subst e9
      obtain ⟨m2, rfl⟩ : ∃ m2, m = m2 + 1 := ⟨m - 1, by omega⟩
      exact wz_k1 ⟨m2, by omega, Z8, (x3 + 1), (zconso rfl (zconso (zvo (rfl : i3 x1 = i3 x1)) (zconso (zvo (rfl : i3 x2 = i3 x2)) (zconso (zvo (i3A (rfl : i3 x3 = i3 x3) (show (1 : Int32) = i3 1 from rfl))) (zconso rfl rfl))))), rfl, hZ8I, hZ8K, hZ8U, by omega, by omega,  hP⟩
/- yX12_tLongBySets -/
def zl_519_3 (x1 : Int) : Nat → qz_Z → Int → qz_Z × Int
  | 0, Z, x2 => (Z, x2)
  | m + 1, Z, x2 => (if x1 < x2 then (Z, x2) else (zlet2 (zl_519_1 x1 x2 6 Z 0) (fun Z3 y2 => zl_519_3 x1 m Z3 (x2 + 1))))
theorem sl_519_3 {s : zSM} {Zs Z : qz_Z} {ν : qz_N} (hZ : zM s Z) (hM : s.2 + 0 ≤ 1000000000) (hK : zC [97] Zs Z) {x1 : Int} (gx1 : 0 ≤ x1 ∧ x1 ≤ 31) {x2 : Int} (gx2 : 1 ≤ x2 ∧ x2 ≤ 32) (hU : zU [] Zs Z) {k : wz_K} {R : wz_R} {L : qz_L} (hL : qz_fg [true, true, true, false, false] L = [some (.inr (.inr (some (1, 0, 0)))), some (.inl (i3 x1)), some (.inl (i3 x2)), none, none]) {T : qz_Z × Int} (hP : zE T (zl_519_3 x1 ((32 - x2).toNat + 1) Z x2)) (hk : ∀ (L9 : qz_L) (Z9 : qz_Z) (yx2 : Int), qz_fg [true, true, false, false, false] L9 = [some (.inr (.inr (some (1, 0, 0)))), some (.inl (i3 x1)), none, none, none] → zM s Z9 → zC [97] Zs Z9 → zU [] Zs Z9 → (1 ≤ yx2 ∧ yx2 ≤ 32) → zE T ((Z9, yx2)) → k 0 (L9, [], zm Z9 ν)) : wz_loop qb_519_3 65536 k R (L, [], zm Z ν) := by
  refine wz_lp sb_519_3 (fun m x => ∃ Z : qz_Z, ∃ x2 : Int, qz_fg [true, true, true, false, false] x.1 = [some (.inr (.inr (some (1, 0, 0)))), some (.inl (i3 x1)), some (.inl (i3 x2)), none, none] ∧ x.2 = ([], zm Z ν) ∧ zM s Z ∧ zC [97] Zs Z ∧ zU [] Zs Z ∧ m = (32 - x2).toNat ∧ (1 ≤ x2 ∧ x2 ≤ 32) ∧ zE T (zl_519_3 x1 (m + 1) Z x2)) ?_ 65536 ((32 - x2).toNat) _ (by omega) ⟨Z, x2, hL, rfl, hZ, hK, hU, rfl, gx2, hP⟩
  clear hP gx2 hZ hK hU hL
  clear x2
  clear Z
  rintro m ⟨L, st, μ⟩ ⟨Z, x2, hL, hx, hZ, hK, hU, hm, gx2, hP⟩
  cases hx
  refine fb_519_3 (i3 x1) (i3 x2) _ _ _ _ hL ?_
  refine wz_br (i3L (rfl : i3 x1 = i3 x1) (rfl : i3 x2 = i3 x2) (by omega) (by omega) (by omega) (by omega)) (fun h1 => ?_) (fun h1 => ?_)
  · replace hP := zE_p hP h1
    exact hk _ _ _ (zconso rfl (zconso (zvo (rfl : i3 x1 = i3 x1)) (zconso rfl (zconso rfl (zconso rfl rfl))))) hZ hK hU (by omega)  hP
  · replace hP := zE_n hP h1
    refine sl_519_1 (ν := ν) hZ (zbh (c := 0) (k := 0) hM (Nat.le_of_ble_eq_true rfl)) zC_r (x1 := x1) (by omega) (x2 := x2) (by omega) (x3 := 0) (by omega) zU_r  (zconso rfl (zconso (zvo (rfl : i3 x1 = i3 x1)) (zconso (zvo (rfl : i3 x2 = i3 x2)) (zconso (zvo (show (0 : Int32) = i3 0 from rfl)) (zconso rfl rfl))))) rfl ?_
    intro L4 Z3 y2 hL4 hZ3I kZ3 jZ3 gy2 q9
    replace hP := zl_e2 hP (Eq.symm q9)
    clear q9
    have hZ3U : zU [] Zs Z3 := zU_t hU jZ3 zU_b0
    have hZ3K : zC [97] Zs Z3 := zC_t hK kZ3 (by decide)
    refine fc_519_2 (i3 x1) (i3 x2) _ _ _ _ hL4 ?_
    obtain ⟨m2, rfl⟩ : ∃ m2, m = m2 + 1 := ⟨m - 1, by omega⟩
    refine wz_kbs (n := 1) (?_)
    exact wz_k1 ⟨m2, by omega, Z3, (x2 + 1), (zconso rfl (zconso (zvo (rfl : i3 x1 = i3 x1)) (zconso (zvo (i3A (rfl : i3 x2 = i3 x2) (show (1 : Int32) = i3 1 from rfl))) (zconso rfl (zconso rfl rfl))))), rfl, hZ3I, hZ3K, hZ3U, by omega, by omega,  hP⟩
/- yX12_tLongBySets -/
def zl_519_4 (x1 : Int) : Nat → qz_Z → Int → Int → Int × Int
  | 0, Z, x2, x3 => (x2, x3)
  | m + 1, Z, x2, x3 => (if 5 ≤ x3 then (x2, x3) else (if (z2 (fun x y => x &&& y) (z2 (fun x y => x >>> (y &&& 31)) x1 x3) 1) ≠ 1 then zl_519_4 x1 m Z x2 (x3 + 1) else (if x2 = (-1) then zl_519_4 x1 m Z (w3 ((Z 97 0 0 (5 * x1 + x3)) + (Z 2 0 0 (3215 + 6 * x3)))) (x3 + 1) else (if x2 ≤ (w3 ((Z 97 0 0 (5 * x1 + x3)) + (Z 2 0 0 (3215 + 6 * x3)))) then zl_519_4 x1 m Z x2 (x3 + 1) else zl_519_4 x1 m Z (w3 ((Z 97 0 0 (5 * x1 + x3)) + (Z 2 0 0 (3215 + 6 * x3)))) (x3 + 1)))))
theorem sl_519_4 {s : zSM} {Z : qz_Z} {ν : qz_N} (hZ : zM s Z) (hM : s.2 + 0 ≤ 1000000000) {x1 : Int} (gx1 : 0 ≤ x1 ∧ x1 ≤ 31) {x2 : Int} (gx2 : -2147483648 ≤ x2 ∧ x2 ≤ 2147483647) {x3 : Int} (gx3 : 0 ≤ x3 ∧ x3 ≤ 5) {k : wz_K} {R : wz_R} {L : qz_L} (hL : qz_fg [true, true, true, true, false] L = [some (.inr (.inr (some (1, 0, 0)))), some (.inl (i3 x1)), some (.inl (i3 x2)), some (.inl (i3 x3)), none]) {T : Int × Int} (hP : zE T (zl_519_4 x1 ((5 - x3).toNat + 1) Z x2 x3)) (hk : ∀ (L9 : qz_L) (yx2 yx3 : Int), qz_fg [false, false, true, false, false] L9 = [none, none, some (.inl (i3 yx2)), none, none] → (-2147483648 ≤ yx2 ∧ yx2 ≤ 2147483647) → (0 ≤ yx3 ∧ yx3 ≤ 5) → zE T ((yx2, yx3)) → k 0 (L9, [], zm Z ν)) : wz_loop qb_519_4 65536 k R (L, [], zm Z ν) := by
  refine wz_lp sb_519_4 (fun m x => ∃ x2 : Int, ∃ x3 : Int, qz_fg [true, true, true, true, false] x.1 = [some (.inr (.inr (some (1, 0, 0)))), some (.inl (i3 x1)), some (.inl (i3 x2)), some (.inl (i3 x3)), none] ∧ x.2 = ([], zm Z ν) ∧ m = (5 - x3).toNat ∧ (-2147483648 ≤ x2 ∧ x2 ≤ 2147483647) ∧ (0 ≤ x3 ∧ x3 ≤ 5) ∧ zE T (zl_519_4 x1 (m + 1) Z x2 x3)) ?_ 65536 ((5 - x3).toNat) _ (by omega) ⟨x2, x3, hL, rfl, rfl, gx2, gx3, hP⟩
  clear hP gx2 gx3 hL
  clear x2 x3
  rintro m ⟨L, st, μ⟩ ⟨x2, x3, hL, hx, hm, gx2, gx3, hP⟩
  cases hx
  refine fb_519_4 (i3 x1) (i3 x2) (i3 x3) _ _ _ _ hL ?_
  refine wz_br (i3Le (show (5 : Int32) = i3 5 from rfl) (rfl : i3 x3 = i3 x3) (by omega) (by omega) (by omega) (by omega)) (fun h1 => ?_) (fun h1 => ?_)
  · replace hP := zE_p hP h1
    exact hk _ _ _ (zconso rfl (zconso rfl (zconso (zvo (rfl : i3 x2 = i3 x2)) (zconso rfl (zconso rfl rfl)))))  (by omega) (by omega)  hP
  · replace hP := zE_n hP h1
    have r2 := z2_r (fun x y => x >>> (y &&& 31)) x1 x3
    have r3 := z2_r (fun x y => x &&& y) (z2 (fun x y => x >>> (y &&& 31)) x1 x3) 1
    have r4 := z2_and (z2 (fun x y => x >>> (y &&& 31)) x1 x3) (y := 1) (by omega) (by omega)
    refine wz_br (i3NE (i3Z (fun x y => x &&& y) (i3Z (fun x y => x >>> (y &&& 31)) (rfl : i3 x1 = i3 x1) (rfl : i3 x3 = i3 x3)) (show (1 : Int32) = i3 1 from rfl)) (show (1 : Int32) = i3 1 from rfl) (by omega) (by omega) (by omega) (by omega)) (fun h5 => ?_) (fun h5 => ?_)
    · replace hP := zE_p hP h5
      obtain ⟨m2, rfl⟩ : ∃ m2, m = m2 + 1 := ⟨m - 1, by omega⟩
      exact wz_k1 ⟨m2, by omega, x2, (x3 + 1), (zconso rfl (zconso (zvo (rfl : i3 x1 = i3 x1)) (zconso (zvo (rfl : i3 x2 = i3 x2)) (zconso (zvo (i3A (rfl : i3 x3 = i3 x3) (show (1 : Int32) = i3 1 from rfl))) (zconso rfl rfl))))), rfl,  by omega, by omega, by omega,  hP⟩
    · replace hP := zE_n hP h5
      refine wz_i0 (i3O (n := 160) (i3A (i3M (show (5 : Int32) = i3 5 from rfl) (rfl : i3 x1 = i3 x1)) (rfl : i3 x3 = i3 x3)) (by omega) (by omega) (by omega)) ?_
      refine wz_i0 (i3O (n := 4400) (i3A (i3A (show (3210 : Int32) = i3 3210 from rfl) (i3M (show (6 : Int32) = i3 6 from rfl) (rfl : i3 x3 = i3 x3))) (show (5 : Int32) = i3 5 from rfl)) (by omega) (by omega) (by omega)) ?_
      refine wz_br (i3E (rfl : i3 x2 = i3 x2) (show (-1 : Int32) = i3 (-1) from rfl) (by omega) (by omega) (by omega) (by omega)) (fun h6 => ?_) (fun h6 => ?_)
      · replace hP := zE_p hP h6
        have r7 := zM_f hZ 97 0 0 (5 * x1 + x3)
        have r8 := zM_k hZ 2 0 0 (3215 + 6 * x3) (lo := 0) (hi := 12) (by decide) (zs_3210 (by omega) (by omega))
        have r9 := w3_r ((Z 97 0 0 (5 * x1 + x3)) + (Z 2 0 0 (3215 + 6 * x3)))
        obtain ⟨m2, rfl⟩ : ∃ m2, m = m2 + 1 := ⟨m - 1, by omega⟩
        exact wz_k1 ⟨m2, by omega, (w3 ((Z 97 0 0 (5 * x1 + x3)) + (Z 2 0 0 (3215 + 6 * x3)))), (x3 + 1), (zconso rfl (zconso (zvo (rfl : i3 x1 = i3 x1)) (zconso (zvo (i3W (i3A (zm_rd (Z := Z) (ν := ν) (k := 97) (show ((0 : Nat) : Int) = 0 from rfl) (show ((0 : Nat) : Int) = 0 from rfl) (i3I (y := (5 * x1 + x3)) (i3A (i3M (show (5 : Int32) = i3 5 from rfl) (rfl : i3 x1 = i3 x1)) (rfl : i3 x3 = i3 x3)) (by omega) (by omega) (by omega))) (zm_rd (Z := Z) (ν := ν) (k := 2) (show ((0 : Nat) : Int) = 0 from rfl) (show ((0 : Nat) : Int) = 0 from rfl) (i3I (y := (3215 + 6 * x3)) (i3A (i3A (show (3210 : Int32) = i3 3210 from rfl) (i3M (show (6 : Int32) = i3 6 from rfl) (rfl : i3 x3 = i3 x3))) (show (5 : Int32) = i3 5 from rfl)) (by omega) (by omega) (by omega)))))) (zconso (zvo (i3A (rfl : i3 x3 = i3 x3) (show (1 : Int32) = i3 1 from rfl))) (zconso rfl rfl))))), rfl,  by omega, by omega, by omega,  hP⟩
      · replace hP := zE_n hP h6
        have r10 := zM_f hZ 97 0 0 (5 * x1 + x3)
        have r11 := zM_k hZ 2 0 0 (3215 + 6 * x3) (lo := 0) (hi := 12) (by decide) (zs_3210 (by omega) (by omega))
        have r12 := w3_r ((Z 97 0 0 (5 * x1 + x3)) + (Z 2 0 0 (3215 + 6 * x3)))
        refine wz_br (i3Le (rfl : i3 x2 = i3 x2) (i3W (i3A (zm_rd (Z := Z) (ν := ν) (k := 97) (show ((0 : Nat) : Int) = 0 from rfl) (show ((0 : Nat) : Int) = 0 from rfl) (i3I (y := (5 * x1 + x3)) (i3A (i3M (show (5 : Int32) = i3 5 from rfl) (rfl : i3 x1 = i3 x1)) (rfl : i3 x3 = i3 x3)) (by omega) (by omega) (by omega))) (zm_rd (Z := Z) (ν := ν) (k := 2) (show ((0 : Nat) : Int) = 0 from rfl) (show ((0 : Nat) : Int) = 0 from rfl) (i3I (y := (3215 + 6 * x3)) (i3A (i3A (show (3210 : Int32) = i3 3210 from rfl) (i3M (show (6 : Int32) = i3 6 from rfl) (rfl : i3 x3 = i3 x3))) (show (5 : Int32) = i3 5 from rfl)) (by omega) (by omega) (by omega))))) (by omega) (by omega) (by omega) (by omega)) (fun h13 => ?_) (fun h13 => ?_)
        · replace hP := zE_p hP h13
          obtain ⟨m2, rfl⟩ : ∃ m2, m = m2 + 1 := ⟨m - 1, by omega⟩
          exact wz_k1 ⟨m2, by omega, x2, (x3 + 1), (zconso rfl (zconso (zvo (rfl : i3 x1 = i3 x1)) (zconso (zvo (rfl : i3 x2 = i3 x2)) (zconso (zvo (i3A (rfl : i3 x3 = i3 x3) (show (1 : Int32) = i3 1 from rfl))) (zconso rfl rfl))))), rfl,  by omega, by omega, by omega,  hP⟩
        · replace hP := zE_n hP h13
          obtain ⟨m2, rfl⟩ : ∃ m2, m = m2 + 1 := ⟨m - 1, by omega⟩
          exact wz_k1 ⟨m2, by omega, (w3 ((Z 97 0 0 (5 * x1 + x3)) + (Z 2 0 0 (3215 + 6 * x3)))), (x3 + 1), (zconso rfl (zconso (zvo (rfl : i3 x1 = i3 x1)) (zconso (zvo (i3W (i3A (zm_rd (Z := Z) (ν := ν) (k := 97) (show ((0 : Nat) : Int) = 0 from rfl) (show ((0 : Nat) : Int) = 0 from rfl) (i3I (y := (5 * x1 + x3)) (i3A (i3M (show (5 : Int32) = i3 5 from rfl) (rfl : i3 x1 = i3 x1)) (rfl : i3 x3 = i3 x3)) (by omega) (by omega) (by omega))) (zm_rd (Z := Z) (ν := ν) (k := 2) (show ((0 : Nat) : Int) = 0 from rfl) (show ((0 : Nat) : Int) = 0 from rfl) (i3I (y := (3215 + 6 * x3)) (i3A (i3A (show (3210 : Int32) = i3 3210 from rfl) (i3M (show (6 : Int32) = i3 6 from rfl) (rfl : i3 x3 = i3 x3))) (show (5 : Int32) = i3 5 from rfl)) (by omega) (by omega) (by omega)))))) (zconso (zvo (i3A (rfl : i3 x3 = i3 x3) (show (1 : Int32) = i3 1 from rfl))) (zconso rfl rfl))))), rfl,  by omega, by omega, by omega,  hP⟩
/- yX12_tLongBySets -/
def zf_519 (Z : qz_Z) (a1 : Int) : qz_Z × Int := (zlet2 (zl_519_3 a1 32 Z 1) (fun Z2 y1 => (if a1 ≠ 0 then (zlet2 (zl_519_4 a1 6 Z2 (-1) 0) (fun y5 y6 => (Z2, y5))) else (zlet2 (zl_519_4 a1 6 Z2 0 0) (fun y8 y9 => (Z2, y8))))))
theorem sp_519 {s : zSM} {Z : qz_Z} {ν : qz_N} (hZ : zM s Z) {a1 : Int} (ga1 : 0 ≤ a1 ∧ a1 ≤ 31) (hM : s.2 + 0 ≤ 1000000000) : ∃ (Z1 : qz_Z) (P : Int), (Z1, P) = zf_519 Z a1 ∧ (qf_519 [.inr (.inr (some (1, 0, 0))), .inl (i3 a1)] (zm Z ν) = some (zm Z1 ν, .inl (some (.inl (i3 P)))) ∧ zM s Z1 ∧ zC [97] Z Z1 ∧ zU [] Z Z1 ∧ -2147483648 ≤ P ∧ P ≤ 2147483647) := by
  obtain ⟨P, hP⟩ := zx (zf_519 Z a1)
  refine zc_W (Q := fun Z1 P => zM s Z1 ∧ zC [97] Z Z1 ∧ zU [] Z Z1 ∧ -2147483648 ≤ P ∧ P ≤ 2147483647) hP (fw_519 (i3 a1) _ _ ?_)
  replace hP : zE P (zf_519 Z a1) := hP
  unfold zf_519 at hP
  refine sl_519_3 (ν := ν) hZ (zbh (c := 0) (k := 0) hM (Nat.le_of_ble_eq_true rfl)) zC_r (x1 := a1) (by omega) (x2 := 1) (by omega) zU_r  (zconso rfl (zconso (zvo (rfl : i3 a1 = i3 a1)) (zconso (zvo (show (1 : Int32) = i3 1 from rfl)) (zconso rfl (zconso rfl rfl))))) rfl ?_
  intro L3 Z2 y1 hL3 hZ2I kZ2 jZ2 gy1 q9
  replace hP := zl_e2 hP (Eq.symm q9)
  clear q9
  have hZ2U : zU [] Z Z2 := zU_t zU_r jZ2 zU_b0
  have hZ2K : zC [97] Z Z2 := zC_t zC_r kZ2 (by decide)
  refine fc_519_6 (i3 a1) _ _ _ _ hL3 ?_
  refine wz_br (i3NE (rfl : i3 a1 = i3 a1) (show (0 : Int32) = i3 0 from rfl) (by omega) (by omega) (by omega) (by omega)) (fun h4 => ?_) (fun h4 => ?_)
  · replace hP := zE_p hP h4
    refine sl_519_4 (ν := ν) hZ2I (zbh (c := 0) (k := 0) hM (Nat.le_of_ble_eq_true rfl)) (x1 := a1) (by omega) (x2 := (-1)) (by omega) (x3 := 0) (by omega)  (zconso rfl (zconso (zvo (rfl : i3 a1 = i3 a1)) (zconso (zvo (show (-1 : Int32) = i3 (-1) from rfl)) (zconso (zvo (show (0 : Int32) = i3 0 from rfl)) (zconso rfl rfl))))) rfl ?_
    intro L7 y5 y6 hL7 gy5 gy6 q9
    replace hP := zl_e2 hP (Eq.symm q9)
    clear q9
    refine fc_519_5 (i3 y5) _ _ _ _ hL7 ?_
    exact zlW hP (rfl : i3 y5 = i3 y5) ⟨hZ2I, hZ2K, hZ2U, by omega, by omega⟩
  · replace hP := zE_n hP h4
    refine sl_519_4 (ν := ν) hZ2I (zbh (c := 0) (k := 0) hM (Nat.le_of_ble_eq_true rfl)) (x1 := a1) (by omega) (x2 := 0) (by omega) (x3 := 0) (by omega)  (zconso rfl (zconso (zvo (rfl : i3 a1 = i3 a1)) (zconso (zvo (show (0 : Int32) = i3 0 from rfl)) (zconso (zvo (show (0 : Int32) = i3 0 from rfl)) (zconso rfl rfl))))) rfl ?_
    intro L10 y8 y9 hL10 gy8 gy9 q9
    replace hP := zl_e2 hP (Eq.symm q9)
    clear q9
    refine fc_519_5 (i3 y8) _ _ _ _ hL10 ?_
    exact zlW hP (rfl : i3 y8 = i3 y8) ⟨hZ2I, hZ2K, hZ2U, by omega, by omega⟩
/- yX12_tTruckSound -/
def zl_528_1 (x1 : Int) : Nat → qz_Z → Int → Int → Int × Int
  | 0, Z, x2, x3 => (x2, x3)
  | m + 1, Z, x2, x3 => (if (Z 2 0 0 2000) ≤ x3 then (x2, x3) else (if x2 = 0 then zl_528_1 x1 m Z 0 (x3 + 1) else (if (Z 2 0 0 (2019 + 16 * x3)) ≠ 1 then zl_528_1 x1 m Z 1 (x3 + 1) else (if (Z 2 0 0 (2020 + 16 * x3)) ≠ x1 then zl_528_1 x1 m Z 1 (x3 + 1) else (zlet (zf_516 Z x3 x1) (fun v9 => (if v9 = 0 then zl_528_1 x1 m Z 0 (x3 + 1) else zl_528_1 x1 m Z 1 (x3 + 1))))))))
theorem sl_528_1 {s : zSM} {Z : qz_Z} {ν : qz_N} (hZ : zM s Z) (hM : s.2 + 0 ≤ 1000000000) {x1 : Int} (gx1 : 0 ≤ x1 ∧ x1 ≤ 3) {x2 : Int} (gx2 : 0 ≤ x2 ∧ x2 ≤ 1) {x3 : Int} (gx3 : 0 ≤ x3 ∧ x3 ≤ 60) {k : wz_K} {R : wz_R} {L : qz_L} (hL : qz_fg [true, true, true, true] L = [some (.inr (.inr (some (1, 0, 0)))), some (.inl (i3 x1)), some (.inl (i3 x2)), some (.inl (i3 x3))]) {T : Int × Int} (hP : zE T (zl_528_1 x1 ((60 - x3).toNat + 1) Z x2 x3)) (hk : ∀ (L9 : qz_L) (yx2 yx3 : Int), qz_fg [true, true, true, false] L9 = [some (.inr (.inr (some (1, 0, 0)))), some (.inl (i3 x1)), some (.inl (i3 yx2)), none] → (0 ≤ yx2 ∧ yx2 ≤ 1) → (0 ≤ yx3 ∧ yx3 ≤ 60) → zE T ((yx2, yx3)) → k 0 (L9, [], zm Z ν)) : wz_loop qb_528_1 65536 k R (L, [], zm Z ν) := by
  refine wz_lp sb_528_1 (fun m x => ∃ x2 : Int, ∃ x3 : Int, qz_fg [true, true, true, true] x.1 = [some (.inr (.inr (some (1, 0, 0)))), some (.inl (i3 x1)), some (.inl (i3 x2)), some (.inl (i3 x3))] ∧ x.2 = ([], zm Z ν) ∧ m = (60 - x3).toNat ∧ (0 ≤ x2 ∧ x2 ≤ 1) ∧ (0 ≤ x3 ∧ x3 ≤ 60) ∧ zE T (zl_528_1 x1 (m + 1) Z x2 x3)) ?_ 65536 ((60 - x3).toNat) _ (by omega) ⟨x2, x3, hL, rfl, rfl, gx2, gx3, hP⟩
  clear hP gx2 gx3 hL
  clear x2 x3
  rintro m ⟨L, st, μ⟩ ⟨x2, x3, hL, hx, hm, gx2, gx3, hP⟩
  cases hx
  refine fb_528_1 (i3 x1) (i3 x2) (i3 x3) _ _ _ _ hL ?_
  have r1 := zM_k hZ 2 0 0 2000 (lo := 0) (hi := 60) (by decide) rfl
  refine wz_br (i3Le (zm_rd (Z := Z) (ν := ν) (k := 2) (show ((0 : Nat) : Int) = 0 from rfl) (show ((0 : Nat) : Int) = 0 from rfl) (show ((2000 : Nat) : Int) = 2000 from rfl)) (rfl : i3 x3 = i3 x3) (by omega) (by omega) (by omega) (by omega)) (fun h2 => ?_) (fun h2 => ?_)
  · replace hP := zE_p hP h2
    exact hk _ _ _ (zconso rfl (zconso (zvo (rfl : i3 x1 = i3 x1)) (zconso (zvo (rfl : i3 x2 = i3 x2)) (zconso rfl rfl))))  (by omega) (by omega)  hP
  · replace hP := zE_n hP h2
    refine wz_br (i3E (rfl : i3 x2 = i3 x2) (show (0 : Int32) = i3 0 from rfl) (by omega) (by omega) (by omega) (by omega)) (fun h3 => ?_) (fun h3 => ?_)
    · replace hP := zE_p hP h3
      obtain ⟨m2, rfl⟩ : ∃ m2, m = m2 + 1 := ⟨m - 1, by omega⟩
      exact wz_k1 ⟨m2, by omega, 0, (x3 + 1), (zconso rfl (zconso (zvo (rfl : i3 x1 = i3 x1)) (zconso (zvo (show (0 : Int32) = i3 0 from rfl)) (zconso (zvo (i3A (rfl : i3 x3 = i3 x3) (show (1 : Int32) = i3 1 from rfl))) rfl)))), rfl,  by omega, by omega, by omega,  hP⟩
    · replace hP := zE_n hP h3
      refine wz_i0 (i3O (n := 4400) (i3A (i3A (show (2010 : Int32) = i3 2010 from rfl) (i3M (show (16 : Int32) = i3 16 from rfl) (rfl : i3 x3 = i3 x3))) (show (9 : Int32) = i3 9 from rfl)) (by omega) (by omega) (by omega)) ?_
      have r4 := zM_k hZ 2 0 0 (2019 + 16 * x3) (lo := 0) (hi := 3) (by decide) (zs_2010_9 (x := x3) (by omega) (by omega) (by omega))
      have r5 := zM_lt2 hZ x3
      refine wz_br (i3NE (zm_rd (Z := Z) (ν := ν) (k := 2) (show ((0 : Nat) : Int) = 0 from rfl) (show ((0 : Nat) : Int) = 0 from rfl) (i3I (y := (2019 + 16 * x3)) (i3A (i3A (show (2010 : Int32) = i3 2010 from rfl) (i3M (show (16 : Int32) = i3 16 from rfl) (rfl : i3 x3 = i3 x3))) (show (9 : Int32) = i3 9 from rfl)) (by omega) (by omega) (by omega))) (show (1 : Int32) = i3 1 from rfl) (by omega) (by omega) (by omega) (by omega)) (fun h6 => ?_) (fun h6 => ?_)
      · replace hP := zE_p hP h6
        obtain ⟨m2, rfl⟩ : ∃ m2, m = m2 + 1 := ⟨m - 1, by omega⟩
        exact wz_k1 ⟨m2, by omega, 1, (x3 + 1), (zconso rfl (zconso (zvo (rfl : i3 x1 = i3 x1)) (zconso (zvo (show (1 : Int32) = i3 1 from rfl)) (zconso (zvo (i3A (rfl : i3 x3 = i3 x3) (show (1 : Int32) = i3 1 from rfl))) rfl)))), rfl,  by omega, by omega, by omega,  hP⟩
      · replace hP := zE_n hP h6
        refine wz_i0 (i3O (n := 4400) (i3A (i3A (show (2010 : Int32) = i3 2010 from rfl) (i3M (show (16 : Int32) = i3 16 from rfl) (rfl : i3 x3 = i3 x3))) (show (10 : Int32) = i3 10 from rfl)) (by omega) (by omega) (by omega)) ?_
        have r7 := zM_k hZ 2 0 0 (2020 + 16 * x3) (lo := -1) (hi := 3) (by decide) (zs_2010_10 (x := x3) (by omega) (by omega) (by omega))
        refine wz_br (i3NE (zm_rd (Z := Z) (ν := ν) (k := 2) (show ((0 : Nat) : Int) = 0 from rfl) (show ((0 : Nat) : Int) = 0 from rfl) (i3I (y := (2020 + 16 * x3)) (i3A (i3A (show (2010 : Int32) = i3 2010 from rfl) (i3M (show (16 : Int32) = i3 16 from rfl) (rfl : i3 x3 = i3 x3))) (show (10 : Int32) = i3 10 from rfl)) (by omega) (by omega) (by omega))) (rfl : i3 x1 = i3 x1) (by omega) (by omega) (by omega) (by omega)) (fun h8 => ?_) (fun h8 => ?_)
        · replace hP := zE_p hP h8
          obtain ⟨m2, rfl⟩ : ∃ m2, m = m2 + 1 := ⟨m - 1, by omega⟩
          exact wz_k1 ⟨m2, by omega, 1, (x3 + 1), (zconso rfl (zconso (zvo (rfl : i3 x1 = i3 x1)) (zconso (zvo (show (1 : Int32) = i3 1 from rfl)) (zconso (zvo (i3A (rfl : i3 x3 = i3 x3) (show (1 : Int32) = i3 1 from rfl))) rfl)))), rfl,  by omega, by omega, by omega,  hP⟩
        · replace hP := zE_n hP h8
          obtain ⟨v9, hv9, c9, lv9, uv9⟩ := sp_516 (ν := ν) hZ (a1 := x3) (by omega) (a2 := x1) (by omega) (zbh (c := 0) (k := 0) hM (Nat.le_of_ble_eq_true rfl))
          replace hP := zl_e hP hv9
          refine wz_cI_of (zas (zcons rfl (zcons (zvi (rfl : i3 x3 = i3 x3)) (zcons (zvi (rfl : i3 x1 = i3 x1)) rfl))) c9) ?_
          clear c9
          refine wz_br (i3E (rfl : i3 v9 = i3 v9) (show (0 : Int32) = i3 0 from rfl) (by omega) (by omega) (by omega) (by omega)) (fun h10 => ?_) (fun h10 => ?_)
          · replace hP := zE_p hP h10
            obtain ⟨m2, rfl⟩ : ∃ m2, m = m2 + 1 := ⟨m - 1, by omega⟩
            exact wz_k1 ⟨m2, by omega, 0, (x3 + 1), (zconso rfl (zconso (zvo (rfl : i3 x1 = i3 x1)) (zconso (zvo (show (0 : Int32) = i3 0 from rfl)) (zconso (zvo (i3A (rfl : i3 x3 = i3 x3) (show (1 : Int32) = i3 1 from rfl))) rfl)))), rfl,  by omega, by omega, by omega,  hP⟩
          · replace hP := zE_n hP h10
            obtain ⟨m2, rfl⟩ : ∃ m2, m = m2 + 1 := ⟨m - 1, by omega⟩
            exact wz_k1 ⟨m2, by omega, 1, (x3 + 1), (zconso rfl (zconso (zvo (rfl : i3 x1 = i3 x1)) (zconso (zvo (show (1 : Int32) = i3 1 from rfl)) (zconso (zvo (i3A (rfl : i3 x3 = i3 x3) (show (1 : Int32) = i3 1 from rfl))) rfl)))), rfl,  by omega, by omega, by omega,  hP⟩
/- yX12_tTruckSound -/
def zf_528 (Z : qz_Z) (a1 : Int) : qz_Z × Int := (zlet (zf_518 Z a1 1) (fun v1 => (if (Z 2 0 0 (3250 + 24 * a1)) < v1 then (if (Z 2 0 0 (3252 + 24 * a1)) ≠ 1 then (Z, 0) else (zlet2 (zl_528_1 a1 61 Z 0 0) (fun y6 y7 => (if y6 = 0 then (Z, 0) else (if (Z 2 0 0 0) < (Z 2 0 0 (3254 + 24 * a1)) then (Z, 0) else (if (Z 2 0 0 (3269 + 24 * a1)) ≤ (Z 2 0 0 0) then (Z, 0) else (Z, 1))))))) else (if (Z 2 0 0 (3252 + 24 * a1)) ≠ 1 then (zlet (zf_527 Z a1) (fun v17 => (zlet (zf_511 Z v17) (fun Z18 => (zlet (zf_527 Z18 a1) (fun v19 => (zlet2 (zf_519 Z18 v19) (fun Z20 v21 => (if (Z18 1 0 0 25) ≠ v21 then (Z20, 0) else (Z20, 1)))))))))) else (zlet2 (zl_528_1 a1 61 Z 1 0) (fun y24 y25 => (if y24 = 0 then (Z, 0) else (if (Z 2 0 0 0) < (Z 2 0 0 (3254 + 24 * a1)) then (Z, 0) else (if (Z 2 0 0 (3269 + 24 * a1)) ≤ (Z 2 0 0 0) then (Z, 0) else (Z, 1))))))))))
theorem sp_528 {s : zSM} {Z : qz_Z} {ν : qz_N} (hZ : zM s Z) {a1 : Int} (ga1 : 0 ≤ a1 ∧ a1 ≤ 3) (hM : s.2 + 0 ≤ 1000000000) : ∃ (Z1 : qz_Z) (P : Int), (Z1, P) = zf_528 Z a1 ∧ (qf_528 [.inr (.inr (some (1, 0, 0))), .inl (i3 a1)] (zm Z ν) = some (zm Z1 ν, .inl (some (.inl (i3 P)))) ∧ zM s Z1 ∧ zC [1, 95, 96, 97] Z Z1 ∧ zU [] Z Z1 ∧ 0 ≤ P ∧ P ≤ 1) := by
  obtain ⟨P, hP⟩ := zx (zf_528 Z a1)
  refine zc_W (Q := fun Z1 P => zM s Z1 ∧ zC [1, 95, 96, 97] Z Z1 ∧ zU [] Z Z1 ∧ 0 ≤ P ∧ P ≤ 1) hP (fw_528 (i3 a1) _ _ ?_)
  replace hP : zE P (zf_528 Z a1) := hP
  unfold zf_528 at hP
  obtain ⟨v1, hv1, c9, lv1, uv1⟩ := sp_518 (ν := ν) hZ (a1 := a1) (by omega) (a2 := 1) (by omega) (zbh (c := 0) (k := 0) hM (Nat.le_of_ble_eq_true rfl))
  replace hP := zl_e hP hv1
  refine wz_cI_of (zas (zcons rfl (zcons (zvi (rfl : i3 a1 = i3 a1)) (zcons (zvi (show (1 : Int32) = i3 1 from rfl)) rfl))) c9) ?_
  clear c9
  refine wz_i0 (i3O (n := 4400) (i3A (i3A (show (3250 : Int32) = i3 3250 from rfl) (i3M (show (24 : Int32) = i3 24 from rfl) (rfl : i3 a1 = i3 a1))) (show (0 : Int32) = i3 0 from rfl)) (by omega) (by omega) (by omega)) ?_
  have r2 := zM_k hZ 2 0 0 (3250 + 24 * a1) (lo := 0) (hi := 99) (by decide) (zs_3250_0 (x := a1) (by omega) (by omega) (by omega))
  refine wz_br (i3L (zm_rd (Z := Z) (ν := ν) (k := 2) (show ((0 : Nat) : Int) = 0 from rfl) (show ((0 : Nat) : Int) = 0 from rfl) (i3I (y := (3250 + 24 * a1)) (i3A (i3A (show (3250 : Int32) = i3 3250 from rfl) (i3M (show (24 : Int32) = i3 24 from rfl) (rfl : i3 a1 = i3 a1))) (show (0 : Int32) = i3 0 from rfl)) (by omega) (by omega) (by omega))) (rfl : i3 v1 = i3 v1) (by omega) (by omega) (by omega) (by omega)) (fun h3 => ?_) (fun h3 => ?_)
  · replace hP := zE_p hP h3
    refine wz_i0 (i3O (n := 4400) (i3A (i3A (show (3250 : Int32) = i3 3250 from rfl) (i3M (show (24 : Int32) = i3 24 from rfl) (rfl : i3 a1 = i3 a1))) (show (2 : Int32) = i3 2 from rfl)) (by omega) (by omega) (by omega)) ?_
    have r4 := zM_k hZ 2 0 0 (3252 + 24 * a1) (lo := 0) (hi := 1) (by decide) (zs_3250_2 (x := a1) (by omega) (by omega) (by omega))
    refine wz_br (i3NE (zm_rd (Z := Z) (ν := ν) (k := 2) (show ((0 : Nat) : Int) = 0 from rfl) (show ((0 : Nat) : Int) = 0 from rfl) (i3I (y := (3252 + 24 * a1)) (i3A (i3A (show (3250 : Int32) = i3 3250 from rfl) (i3M (show (24 : Int32) = i3 24 from rfl) (rfl : i3 a1 = i3 a1))) (show (2 : Int32) = i3 2 from rfl)) (by omega) (by omega) (by omega))) (show (1 : Int32) = i3 1 from rfl) (by omega) (by omega) (by omega) (by omega)) (fun h5 => ?_) (fun h5 => ?_)
    · replace hP := zE_p hP h5
      exact zlW hP (show (0 : Int32) = i3 0 from rfl) ⟨hZ, zC_r, zU_r, by omega, by omega⟩
    · replace hP := zE_n hP h5
      refine sl_528_1 (ν := ν) hZ (zbh (c := 0) (k := 0) hM (Nat.le_of_ble_eq_true rfl)) (x1 := a1) (by omega) (x2 := 0) (by omega) (x3 := 0) (by omega)  (zconso rfl (zconso (zvo (rfl : i3 a1 = i3 a1)) (zconso (zvo (show (0 : Int32) = i3 0 from rfl)) (zconso (zvo (show (0 : Int32) = i3 0 from rfl)) rfl)))) rfl ?_
      intro L8 y6 y7 hL8 gy6 gy7 q9
      replace hP := zl_e2 hP (Eq.symm q9)
      clear q9
      refine fc_528_2 (i3 a1) (i3 y6) _ _ _ _ hL8 ?_
      refine wz_br (i3E (rfl : i3 y6 = i3 y6) (show (0 : Int32) = i3 0 from rfl) (by omega) (by omega) (by omega) (by omega)) (fun h9 => ?_) (fun h9 => ?_)
      · replace hP := zE_p hP h9
        exact zlW hP (show (0 : Int32) = i3 0 from rfl) ⟨hZ, zC_r, zU_r, by omega, by omega⟩
      · replace hP := zE_n hP h9
        refine wz_i0 (i3O (n := 4400) (i3A (i3A (show (3250 : Int32) = i3 3250 from rfl) (i3M (show (24 : Int32) = i3 24 from rfl) (rfl : i3 a1 = i3 a1))) (show (4 : Int32) = i3 4 from rfl)) (by omega) (by omega) (by omega)) ?_
        have r10 := zM_k hZ 2 0 0 0 (lo := 0) (hi := 671) (by decide) rfl
        have r11 := zM_k hZ 2 0 0 (3254 + 24 * a1) (lo := -1) (hi := 671) (by decide) (zs_3250_4 (x := a1) (by omega) (by omega) (by omega))
        refine wz_br (i3L (zm_rd (Z := Z) (ν := ν) (k := 2) (show ((0 : Nat) : Int) = 0 from rfl) (show ((0 : Nat) : Int) = 0 from rfl) (show ((0 : Nat) : Int) = 0 from rfl)) (zm_rd (Z := Z) (ν := ν) (k := 2) (show ((0 : Nat) : Int) = 0 from rfl) (show ((0 : Nat) : Int) = 0 from rfl) (i3I (y := (3254 + 24 * a1)) (i3A (i3A (show (3250 : Int32) = i3 3250 from rfl) (i3M (show (24 : Int32) = i3 24 from rfl) (rfl : i3 a1 = i3 a1))) (show (4 : Int32) = i3 4 from rfl)) (by omega) (by omega) (by omega))) (by omega) (by omega) (by omega) (by omega)) (fun h12 => ?_) (fun h12 => ?_)
        · replace hP := zE_p hP h12
          exact zlW hP (show (0 : Int32) = i3 0 from rfl) ⟨hZ, zC_r, zU_r, by omega, by omega⟩
        · replace hP := zE_n hP h12
          refine wz_i0 (i3O (n := 4400) (i3A (i3A (show (3250 : Int32) = i3 3250 from rfl) (i3M (show (24 : Int32) = i3 24 from rfl) (rfl : i3 a1 = i3 a1))) (show (19 : Int32) = i3 19 from rfl)) (by omega) (by omega) (by omega)) ?_
          have r13 := zM_k hZ 2 0 0 (3269 + 24 * a1) (lo := 0) (hi := 743) (by decide) (zs_3250_19 (x := a1) (by omega) (by omega) (by omega))
          refine wz_br (i3Le (zm_rd (Z := Z) (ν := ν) (k := 2) (show ((0 : Nat) : Int) = 0 from rfl) (show ((0 : Nat) : Int) = 0 from rfl) (i3I (y := (3269 + 24 * a1)) (i3A (i3A (show (3250 : Int32) = i3 3250 from rfl) (i3M (show (24 : Int32) = i3 24 from rfl) (rfl : i3 a1 = i3 a1))) (show (19 : Int32) = i3 19 from rfl)) (by omega) (by omega) (by omega))) (zm_rd (Z := Z) (ν := ν) (k := 2) (show ((0 : Nat) : Int) = 0 from rfl) (show ((0 : Nat) : Int) = 0 from rfl) (show ((0 : Nat) : Int) = 0 from rfl)) (by omega) (by omega) (by omega) (by omega)) (fun h14 => ?_) (fun h14 => ?_)
          · replace hP := zE_p hP h14
            exact zlW hP (show (0 : Int32) = i3 0 from rfl) ⟨hZ, zC_r, zU_r, by omega, by omega⟩
          · replace hP := zE_n hP h14
            exact zlW hP (show (1 : Int32) = i3 1 from rfl) ⟨hZ, zC_r, zU_r, by omega, by omega⟩
  · replace hP := zE_n hP h3
    refine wz_i0 (i3O (n := 4400) (i3A (i3A (show (3250 : Int32) = i3 3250 from rfl) (i3M (show (24 : Int32) = i3 24 from rfl) (rfl : i3 a1 = i3 a1))) (show (2 : Int32) = i3 2 from rfl)) (by omega) (by omega) (by omega)) ?_
    have r15 := zM_k hZ 2 0 0 (3252 + 24 * a1) (lo := 0) (hi := 1) (by decide) (zs_3250_2 (x := a1) (by omega) (by omega) (by omega))
    refine wz_br (i3NE (zm_rd (Z := Z) (ν := ν) (k := 2) (show ((0 : Nat) : Int) = 0 from rfl) (show ((0 : Nat) : Int) = 0 from rfl) (i3I (y := (3252 + 24 * a1)) (i3A (i3A (show (3250 : Int32) = i3 3250 from rfl) (i3M (show (24 : Int32) = i3 24 from rfl) (rfl : i3 a1 = i3 a1))) (show (2 : Int32) = i3 2 from rfl)) (by omega) (by omega) (by omega))) (show (1 : Int32) = i3 1 from rfl) (by omega) (by omega) (by omega) (by omega)) (fun h16 => ?_) (fun h16 => ?_)
    · replace hP := zE_p hP h16
      refine wz_i0 (i3O (n := 4400) (i3A (i3A (show (3250 : Int32) = i3 3250 from rfl) (i3M (show (24 : Int32) = i3 24 from rfl) (rfl : i3 a1 = i3 a1))) (show (2 : Int32) = i3 2 from rfl)) (by omega) (by omega) (by omega)) ?_
      refine wz_i1 (Eq.trans (i3NE (zm_rd (Z := Z) (ν := ν) (k := 2) (show ((0 : Nat) : Int) = 0 from rfl) (show ((0 : Nat) : Int) = 0 from rfl) (i3I (y := (3252 + 24 * a1)) (i3A (i3A (show (3250 : Int32) = i3 3250 from rfl) (i3M (show (24 : Int32) = i3 24 from rfl) (rfl : i3 a1 = i3 a1))) (show (2 : Int32) = i3 2 from rfl)) (by omega) (by omega) (by omega))) (show (1 : Int32) = i3 1 from rfl) (by omega) (by omega) (by omega) (by omega)) (decide_eq_true (by omega))) ?_
      obtain ⟨v17, hv17, c9, lv17, uv17⟩ := sp_527 (ν := ν) hZ (a1 := a1) (by omega) (zbh (c := 0) (k := 0) hM (Nat.le_of_ble_eq_true rfl))
      replace hP := zl_e hP hv17
      refine wz_cI_of (zas (zcons rfl (zcons (zvi (rfl : i3 a1 = i3 a1)) rfl)) c9) ?_
      clear c9
      obtain ⟨Z18, hZ18, c9, hZ18I, kZ18, jZ18⟩ := sp_511 (ν := ν) hZ (a1 := v17) (by omega) (zbh (c := 0) (k := 0) hM (Nat.le_of_ble_eq_true rfl))
      have hZ18U : zU [] Z Z18 := zU_t zU_r jZ18 zU_b0
      have hZ18K : zC [1, 95, 96, 97] Z Z18 := zC_t zC_r kZ18 (by decide)
      replace hP := zl_e hP hZ18
      refine wz_cV_of (zas (zcons rfl (zcons (zvi (rfl : i3 v17 = i3 v17)) rfl)) c9) ?_
      clear c9
      obtain ⟨v19, hv19, c9, lv19, uv19⟩ := sp_527 (ν := ν) hZ18I (a1 := a1) (by omega) (zbh (c := 0) (k := 0) hM (Nat.le_of_ble_eq_true rfl))
      replace hP := zl_e hP hv19
      refine wz_cI_of (zas (zcons rfl (zcons (zvi (rfl : i3 a1 = i3 a1)) rfl)) c9) ?_
      clear c9
      obtain ⟨Z20, v21, hv21, c9, hZ20I, kZ20, jZ20, lv21, uv21⟩ := sp_519 (ν := ν) hZ18I (a1 := v19) (by omega) (zbh (c := 0) (k := 0) hM (Nat.le_of_ble_eq_true rfl))
      have hZ20U : zU [] Z Z20 := zU_t hZ18U jZ20 zU_b0
      have hZ20K : zC [1, 95, 96, 97] Z Z20 := zC_t hZ18K kZ20 (by decide)
      replace hP := zl_e2 hP hv21
      refine wz_cI_of (zas (zcons rfl (zcons (zvi (rfl : i3 v19 = i3 v19)) rfl)) c9) ?_
      clear c9 hv21
      have r22 := zM_f hZ18I 1 0 0 25
      refine wz_br (i3NE (zm_rd (Z := Z18) (ν := ν) (k := 1) (show ((0 : Nat) : Int) = 0 from rfl) (show ((0 : Nat) : Int) = 0 from rfl) (show ((25 : Nat) : Int) = 25 from rfl)) (rfl : i3 v21 = i3 v21) (by omega) (by omega) (by omega) (by omega)) (fun h23 => ?_) (fun h23 => ?_)
      · replace hP := zE_p hP h23
        exact zlW hP (show (0 : Int32) = i3 0 from rfl) ⟨hZ20I, hZ20K, hZ20U, by omega, by omega⟩
      · replace hP := zE_n hP h23
        exact zlW hP (show (1 : Int32) = i3 1 from rfl) ⟨hZ20I, hZ20K, hZ20U, by omega, by omega⟩
    · replace hP := zE_n hP h16
      refine sl_528_1 (ν := ν) hZ (zbh (c := 0) (k := 0) hM (Nat.le_of_ble_eq_true rfl)) (x1 := a1) (by omega) (x2 := 1) (by omega) (x3 := 0) (by omega)  (zconso rfl (zconso (zvo (rfl : i3 a1 = i3 a1)) (zconso (zvo (show (1 : Int32) = i3 1 from rfl)) (zconso (zvo (show (0 : Int32) = i3 0 from rfl)) rfl)))) rfl ?_
      intro L26 y24 y25 hL26 gy24 gy25 q9
      replace hP := zl_e2 hP (Eq.symm q9)
      clear q9
      refine fc_528_2 (i3 a1) (i3 y24) _ _ _ _ hL26 ?_
      refine wz_br (i3E (rfl : i3 y24 = i3 y24) (show (0 : Int32) = i3 0 from rfl) (by omega) (by omega) (by omega) (by omega)) (fun h27 => ?_) (fun h27 => ?_)
      · replace hP := zE_p hP h27
        exact zlW hP (show (0 : Int32) = i3 0 from rfl) ⟨hZ, zC_r, zU_r, by omega, by omega⟩
      · replace hP := zE_n hP h27
        refine wz_i0 (i3O (n := 4400) (i3A (i3A (show (3250 : Int32) = i3 3250 from rfl) (i3M (show (24 : Int32) = i3 24 from rfl) (rfl : i3 a1 = i3 a1))) (show (4 : Int32) = i3 4 from rfl)) (by omega) (by omega) (by omega)) ?_
        have r28 := zM_k hZ 2 0 0 0 (lo := 0) (hi := 671) (by decide) rfl
        have r29 := zM_k hZ 2 0 0 (3254 + 24 * a1) (lo := -1) (hi := 671) (by decide) (zs_3250_4 (x := a1) (by omega) (by omega) (by omega))
        refine wz_br (i3L (zm_rd (Z := Z) (ν := ν) (k := 2) (show ((0 : Nat) : Int) = 0 from rfl) (show ((0 : Nat) : Int) = 0 from rfl) (show ((0 : Nat) : Int) = 0 from rfl)) (zm_rd (Z := Z) (ν := ν) (k := 2) (show ((0 : Nat) : Int) = 0 from rfl) (show ((0 : Nat) : Int) = 0 from rfl) (i3I (y := (3254 + 24 * a1)) (i3A (i3A (show (3250 : Int32) = i3 3250 from rfl) (i3M (show (24 : Int32) = i3 24 from rfl) (rfl : i3 a1 = i3 a1))) (show (4 : Int32) = i3 4 from rfl)) (by omega) (by omega) (by omega))) (by omega) (by omega) (by omega) (by omega)) (fun h30 => ?_) (fun h30 => ?_)
        · replace hP := zE_p hP h30
          exact zlW hP (show (0 : Int32) = i3 0 from rfl) ⟨hZ, zC_r, zU_r, by omega, by omega⟩
        · replace hP := zE_n hP h30
          refine wz_i0 (i3O (n := 4400) (i3A (i3A (show (3250 : Int32) = i3 3250 from rfl) (i3M (show (24 : Int32) = i3 24 from rfl) (rfl : i3 a1 = i3 a1))) (show (19 : Int32) = i3 19 from rfl)) (by omega) (by omega) (by omega)) ?_
          have r31 := zM_k hZ 2 0 0 (3269 + 24 * a1) (lo := 0) (hi := 743) (by decide) (zs_3250_19 (x := a1) (by omega) (by omega) (by omega))
          refine wz_br (i3Le (zm_rd (Z := Z) (ν := ν) (k := 2) (show ((0 : Nat) : Int) = 0 from rfl) (show ((0 : Nat) : Int) = 0 from rfl) (i3I (y := (3269 + 24 * a1)) (i3A (i3A (show (3250 : Int32) = i3 3250 from rfl) (i3M (show (24 : Int32) = i3 24 from rfl) (rfl : i3 a1 = i3 a1))) (show (19 : Int32) = i3 19 from rfl)) (by omega) (by omega) (by omega))) (zm_rd (Z := Z) (ν := ν) (k := 2) (show ((0 : Nat) : Int) = 0 from rfl) (show ((0 : Nat) : Int) = 0 from rfl) (show ((0 : Nat) : Int) = 0 from rfl)) (by omega) (by omega) (by omega) (by omega)) (fun h32 => ?_) (fun h32 => ?_)
          · replace hP := zE_p hP h32
            exact zlW hP (show (0 : Int32) = i3 0 from rfl) ⟨hZ, zC_r, zU_r, by omega, by omega⟩
          · replace hP := zE_n hP h32
            exact zlW hP (show (1 : Int32) = i3 1 from rfl) ⟨hZ, zC_r, zU_r, by omega, by omega⟩
/- yX12_tSound -/
def zl_524_1 : Nat → qz_Z → Int → Int → Int × Int
  | 0, Z, x1, x2 => (x1, x2)
  | m + 1, Z, x1, x2 => (if (Z 2 0 0 2000) ≤ x2 then (x1, x2) else (if (Z 2 0 0 (2020 + 16 * x2)) = (-1) then (if x1 = 0 then zl_524_1 m Z 0 (x2 + 1) else (if (Z 2 0 0 (2019 + 16 * x2)) ≠ 1 then zl_524_1 m Z 1 (x2 + 1) else zl_524_1 m Z 0 (x2 + 1))) else (if x1 = 0 then zl_524_1 m Z 0 (x2 + 1) else (if (Z 2 0 0 (2019 + 16 * x2)) ≠ 1 then zl_524_1 m Z 0 (x2 + 1) else (if ((Z 2 0 0 3200) - 1) < (Z 2 0 0 (2020 + 16 * x2)) then zl_524_1 m Z 0 (x2 + 1) else zl_524_1 m Z 1 (x2 + 1))))))
theorem sl_524_1 {s : zSM} {Z : qz_Z} {ν : qz_N} (hZ : zM s Z) (hM : s.2 + 0 ≤ 1000000000) {x1 : Int} (gx1 : 0 ≤ x1 ∧ x1 ≤ 1) {x2 : Int} (gx2 : 0 ≤ x2 ∧ x2 ≤ 60) {k : wz_K} {R : wz_R} {L : qz_L} (hL : qz_fg [true, true, true, false] L = [some (.inr (.inr (some (1, 0, 0)))), some (.inl (i3 x1)), some (.inl (i3 x2)), none]) {T : Int × Int} (hP : zE T (zl_524_1 ((60 - x2).toNat + 1) Z x1 x2)) (hk : ∀ (L9 : qz_L) (yx1 yx2 : Int), qz_fg [true, true, false, false] L9 = [some (.inr (.inr (some (1, 0, 0)))), some (.inl (i3 yx1)), none, none] → (0 ≤ yx1 ∧ yx1 ≤ 1) → (0 ≤ yx2 ∧ yx2 ≤ 60) → zE T ((yx1, yx2)) → k 0 (L9, [], zm Z ν)) : wz_loop qb_524_1 65536 k R (L, [], zm Z ν) := by
  refine wz_lp sb_524_1 (fun m x => ∃ x1 : Int, ∃ x2 : Int, qz_fg [true, true, true, false] x.1 = [some (.inr (.inr (some (1, 0, 0)))), some (.inl (i3 x1)), some (.inl (i3 x2)), none] ∧ x.2 = ([], zm Z ν) ∧ m = (60 - x2).toNat ∧ (0 ≤ x1 ∧ x1 ≤ 1) ∧ (0 ≤ x2 ∧ x2 ≤ 60) ∧ zE T (zl_524_1 (m + 1) Z x1 x2)) ?_ 65536 ((60 - x2).toNat) _ (by omega) ⟨x1, x2, hL, rfl, rfl, gx1, gx2, hP⟩
  clear hP gx1 gx2 hL
  clear x1 x2
  rintro m ⟨L, st, μ⟩ ⟨x1, x2, hL, hx, hm, gx1, gx2, hP⟩
  cases hx
  refine fb_524_1 (i3 x1) (i3 x2) _ _ _ _ hL ?_
  have r1 := zM_k hZ 2 0 0 2000 (lo := 0) (hi := 60) (by decide) rfl
  refine wz_br (i3Le (zm_rd (Z := Z) (ν := ν) (k := 2) (show ((0 : Nat) : Int) = 0 from rfl) (show ((0 : Nat) : Int) = 0 from rfl) (show ((2000 : Nat) : Int) = 2000 from rfl)) (rfl : i3 x2 = i3 x2) (by omega) (by omega) (by omega) (by omega)) (fun h2 => ?_) (fun h2 => ?_)
  · replace hP := zE_p hP h2
    exact hk _ _ _ (zconso rfl (zconso (zvo (rfl : i3 x1 = i3 x1)) (zconso rfl (zconso rfl rfl))))  (by omega) (by omega)  hP
  · replace hP := zE_n hP h2
    refine wz_i0 (i3O (n := 4400) (i3A (i3A (show (2010 : Int32) = i3 2010 from rfl) (i3M (show (16 : Int32) = i3 16 from rfl) (rfl : i3 x2 = i3 x2))) (show (10 : Int32) = i3 10 from rfl)) (by omega) (by omega) (by omega)) ?_
    have r3 := zM_k hZ 2 0 0 (2020 + 16 * x2) (lo := -1) (hi := 3) (by decide) (zs_2010_10 (x := x2) (by omega) (by omega) (by omega))
    have r4 := zM_lt2 hZ x2
    refine wz_br (i3E (zm_rd (Z := Z) (ν := ν) (k := 2) (show ((0 : Nat) : Int) = 0 from rfl) (show ((0 : Nat) : Int) = 0 from rfl) (i3I (y := (2020 + 16 * x2)) (i3A (i3A (show (2010 : Int32) = i3 2010 from rfl) (i3M (show (16 : Int32) = i3 16 from rfl) (rfl : i3 x2 = i3 x2))) (show (10 : Int32) = i3 10 from rfl)) (by omega) (by omega) (by omega))) (show (-1 : Int32) = i3 (-1) from rfl) (by omega) (by omega) (by omega) (by omega)) (fun h5 => ?_) (fun h5 => ?_)
    · replace hP := zE_p hP h5
      refine wz_br (i3E (rfl : i3 x1 = i3 x1) (show (0 : Int32) = i3 0 from rfl) (by omega) (by omega) (by omega) (by omega)) (fun h6 => ?_) (fun h6 => ?_)
      · replace hP := zE_p hP h6
        obtain ⟨m2, rfl⟩ : ∃ m2, m = m2 + 1 := ⟨m - 1, by omega⟩
        exact wz_k1 ⟨m2, by omega, 0, (x2 + 1), (zconso rfl (zconso (zvo (show (0 : Int32) = i3 0 from rfl)) (zconso (zvo (i3A (rfl : i3 x2 = i3 x2) (show (1 : Int32) = i3 1 from rfl))) (zconso rfl rfl)))), rfl,  by omega, by omega, by omega,  hP⟩
      · replace hP := zE_n hP h6
        refine wz_i0 (i3O (n := 4400) (i3A (i3A (show (2010 : Int32) = i3 2010 from rfl) (i3M (show (16 : Int32) = i3 16 from rfl) (rfl : i3 x2 = i3 x2))) (show (9 : Int32) = i3 9 from rfl)) (by omega) (by omega) (by omega)) ?_
        have r7 := zM_k hZ 2 0 0 (2019 + 16 * x2) (lo := 0) (hi := 3) (by decide) (zs_2010_9 (x := x2) (by omega) (by omega) (by omega))
        refine wz_br (i3NE (zm_rd (Z := Z) (ν := ν) (k := 2) (show ((0 : Nat) : Int) = 0 from rfl) (show ((0 : Nat) : Int) = 0 from rfl) (i3I (y := (2019 + 16 * x2)) (i3A (i3A (show (2010 : Int32) = i3 2010 from rfl) (i3M (show (16 : Int32) = i3 16 from rfl) (rfl : i3 x2 = i3 x2))) (show (9 : Int32) = i3 9 from rfl)) (by omega) (by omega) (by omega))) (show (1 : Int32) = i3 1 from rfl) (by omega) (by omega) (by omega) (by omega)) (fun h8 => ?_) (fun h8 => ?_)
        · replace hP := zE_p hP h8
          obtain ⟨m2, rfl⟩ : ∃ m2, m = m2 + 1 := ⟨m - 1, by omega⟩
          exact wz_k1 ⟨m2, by omega, 1, (x2 + 1), (zconso rfl (zconso (zvo (show (1 : Int32) = i3 1 from rfl)) (zconso (zvo (i3A (rfl : i3 x2 = i3 x2) (show (1 : Int32) = i3 1 from rfl))) (zconso rfl rfl)))), rfl,  by omega, by omega, by omega,  hP⟩
        · replace hP := zE_n hP h8
          obtain ⟨m2, rfl⟩ : ∃ m2, m = m2 + 1 := ⟨m - 1, by omega⟩
          exact wz_k1 ⟨m2, by omega, 0, (x2 + 1), (zconso rfl (zconso (zvo (show (0 : Int32) = i3 0 from rfl)) (zconso (zvo (i3A (rfl : i3 x2 = i3 x2) (show (1 : Int32) = i3 1 from rfl))) (zconso rfl rfl)))), rfl,  by omega, by omega, by omega,  hP⟩
    · replace hP := zE_n hP h5
      refine wz_br (i3E (rfl : i3 x1 = i3 x1) (show (0 : Int32) = i3 0 from rfl) (by omega) (by omega) (by omega) (by omega)) (fun h9 => ?_) (fun h9 => ?_)
      · replace hP := zE_p hP h9
        obtain ⟨m2, rfl⟩ : ∃ m2, m = m2 + 1 := ⟨m - 1, by omega⟩
        exact wz_k1 ⟨m2, by omega, 0, (x2 + 1), (zconso rfl (zconso (zvo (show (0 : Int32) = i3 0 from rfl)) (zconso (zvo (i3A (rfl : i3 x2 = i3 x2) (show (1 : Int32) = i3 1 from rfl))) (zconso rfl rfl)))), rfl,  by omega, by omega, by omega,  hP⟩
      · replace hP := zE_n hP h9
        refine wz_i0 (i3O (n := 4400) (i3A (i3A (show (2010 : Int32) = i3 2010 from rfl) (i3M (show (16 : Int32) = i3 16 from rfl) (rfl : i3 x2 = i3 x2))) (show (9 : Int32) = i3 9 from rfl)) (by omega) (by omega) (by omega)) ?_
        have r10 := zM_k hZ 2 0 0 (2019 + 16 * x2) (lo := 0) (hi := 3) (by decide) (zs_2010_9 (x := x2) (by omega) (by omega) (by omega))
        refine wz_br (i3NE (zm_rd (Z := Z) (ν := ν) (k := 2) (show ((0 : Nat) : Int) = 0 from rfl) (show ((0 : Nat) : Int) = 0 from rfl) (i3I (y := (2019 + 16 * x2)) (i3A (i3A (show (2010 : Int32) = i3 2010 from rfl) (i3M (show (16 : Int32) = i3 16 from rfl) (rfl : i3 x2 = i3 x2))) (show (9 : Int32) = i3 9 from rfl)) (by omega) (by omega) (by omega))) (show (1 : Int32) = i3 1 from rfl) (by omega) (by omega) (by omega) (by omega)) (fun h11 => ?_) (fun h11 => ?_)
        · replace hP := zE_p hP h11
          obtain ⟨m2, rfl⟩ : ∃ m2, m = m2 + 1 := ⟨m - 1, by omega⟩
          exact wz_k1 ⟨m2, by omega, 0, (x2 + 1), (zconso rfl (zconso (zvo (show (0 : Int32) = i3 0 from rfl)) (zconso (zvo (i3A (rfl : i3 x2 = i3 x2) (show (1 : Int32) = i3 1 from rfl))) (zconso rfl rfl)))), rfl,  by omega, by omega, by omega,  hP⟩
        · replace hP := zE_n hP h11
          refine wz_i0 (i3O (n := 4400) (i3A (i3A (show (2010 : Int32) = i3 2010 from rfl) (i3M (show (16 : Int32) = i3 16 from rfl) (rfl : i3 x2 = i3 x2))) (show (10 : Int32) = i3 10 from rfl)) (by omega) (by omega) (by omega)) ?_
          refine wz_i0 (Eq.trans (i3L (zm_rd (Z := Z) (ν := ν) (k := 2) (show ((0 : Nat) : Int) = 0 from rfl) (show ((0 : Nat) : Int) = 0 from rfl) (i3I (y := (2020 + 16 * x2)) (i3A (i3A (show (2010 : Int32) = i3 2010 from rfl) (i3M (show (16 : Int32) = i3 16 from rfl) (rfl : i3 x2 = i3 x2))) (show (10 : Int32) = i3 10 from rfl)) (by omega) (by omega) (by omega))) (show (0 : Int32) = i3 0 from rfl) (by omega) (by omega) (by omega) (by omega)) (decide_eq_false (by omega))) ?_
          have r12 := zM_k hZ 2 0 0 3200 (lo := 0) (hi := 4) (by decide) rfl
          refine wz_br (i3L (i3S (zm_rd (Z := Z) (ν := ν) (k := 2) (show ((0 : Nat) : Int) = 0 from rfl) (show ((0 : Nat) : Int) = 0 from rfl) (show ((3200 : Nat) : Int) = 3200 from rfl)) (show (1 : Int32) = i3 1 from rfl)) (zm_rd (Z := Z) (ν := ν) (k := 2) (show ((0 : Nat) : Int) = 0 from rfl) (show ((0 : Nat) : Int) = 0 from rfl) (i3I (y := (2020 + 16 * x2)) (i3A (i3A (show (2010 : Int32) = i3 2010 from rfl) (i3M (show (16 : Int32) = i3 16 from rfl) (rfl : i3 x2 = i3 x2))) (show (10 : Int32) = i3 10 from rfl)) (by omega) (by omega) (by omega))) (by omega) (by omega) (by omega) (by omega)) (fun h13 => ?_) (fun h13 => ?_)
          · replace hP := zE_p hP h13
            obtain ⟨m2, rfl⟩ : ∃ m2, m = m2 + 1 := ⟨m - 1, by omega⟩
            exact wz_k1 ⟨m2, by omega, 0, (x2 + 1), (zconso rfl (zconso (zvo (show (0 : Int32) = i3 0 from rfl)) (zconso (zvo (i3A (rfl : i3 x2 = i3 x2) (show (1 : Int32) = i3 1 from rfl))) (zconso rfl rfl)))), rfl,  by omega, by omega, by omega,  hP⟩
          · replace hP := zE_n hP h13
            obtain ⟨m2, rfl⟩ : ∃ m2, m = m2 + 1 := ⟨m - 1, by omega⟩
            exact wz_k1 ⟨m2, by omega, 1, (x2 + 1), (zconso rfl (zconso (zvo (show (1 : Int32) = i3 1 from rfl)) (zconso (zvo (i3A (rfl : i3 x2 = i3 x2) (show (1 : Int32) = i3 1 from rfl))) (zconso rfl rfl)))), rfl,  by omega, by omega, by omega,  hP⟩
/- yX12_tSound -/
def zl_524_2 : Nat → qz_Z → Int → Int → qz_Z × Int × Int
  | 0, Z, x1, x2 => (Z, x1, x2)
  | m + 1, Z, x1, x2 => (if (Z 2 0 0 3200) ≤ x2 then (Z, x1, x2) else (if x1 = 0 then zl_524_2 m Z 0 (x2 + 1) else (zlet2 (zf_528 Z x2) (fun Z4 v5 => (if v5 = 0 then zl_524_2 m Z4 0 (x2 + 1) else zl_524_2 m Z4 1 (x2 + 1))))))
theorem sl_524_2 {s : zSM} {Zs Z : qz_Z} {ν : qz_N} (hZ : zM s Z) (hM : s.2 + 0 ≤ 1000000000) (hK : zC [1, 95, 96, 97] Zs Z) {x1 : Int} (gx1 : 0 ≤ x1 ∧ x1 ≤ 1) {x2 : Int} (gx2 : 0 ≤ x2 ∧ x2 ≤ 4) (hU : zU [] Zs Z) {k : wz_K} {R : wz_R} {L : qz_L} (hL : qz_fg [true, true, true, false] L = [some (.inr (.inr (some (1, 0, 0)))), some (.inl (i3 x1)), some (.inl (i3 x2)), none]) {T : qz_Z × Int × Int} (hP : zE T (zl_524_2 ((4 - x2).toNat + 1) Z x1 x2)) (hk : ∀ (L9 : qz_L) (Z9 : qz_Z) (yx1 yx2 : Int), qz_fg [false, true, false, false] L9 = [none, some (.inl (i3 yx1)), none, none] → zM s Z9 → zC [1, 95, 96, 97] Zs Z9 → zU [] Zs Z9 → (0 ≤ yx1 ∧ yx1 ≤ 1) → (0 ≤ yx2 ∧ yx2 ≤ 4) → zE T ((Z9, yx1, yx2)) → k 0 (L9, [], zm Z9 ν)) : wz_loop qb_524_2 65536 k R (L, [], zm Z ν) := by
  refine wz_lp sb_524_2 (fun m x => ∃ Z : qz_Z, ∃ x1 : Int, ∃ x2 : Int, qz_fg [true, true, true, false] x.1 = [some (.inr (.inr (some (1, 0, 0)))), some (.inl (i3 x1)), some (.inl (i3 x2)), none] ∧ x.2 = ([], zm Z ν) ∧ zM s Z ∧ zC [1, 95, 96, 97] Zs Z ∧ zU [] Zs Z ∧ m = (4 - x2).toNat ∧ (0 ≤ x1 ∧ x1 ≤ 1) ∧ (0 ≤ x2 ∧ x2 ≤ 4) ∧ zE T (zl_524_2 (m + 1) Z x1 x2)) ?_ 65536 ((4 - x2).toNat) _ (by omega) ⟨Z, x1, x2, hL, rfl, hZ, hK, hU, rfl, gx1, gx2, hP⟩
  clear hP gx1 gx2 hZ hK hU hL
  clear x1 x2
  clear Z
  rintro m ⟨L, st, μ⟩ ⟨Z, x1, x2, hL, hx, hZ, hK, hU, hm, gx1, gx2, hP⟩
  cases hx
  refine fb_524_2 (i3 x1) (i3 x2) _ _ _ _ hL ?_
  have r1 := zM_k hZ 2 0 0 3200 (lo := 0) (hi := 4) (by decide) rfl
  refine wz_br (i3Le (zm_rd (Z := Z) (ν := ν) (k := 2) (show ((0 : Nat) : Int) = 0 from rfl) (show ((0 : Nat) : Int) = 0 from rfl) (show ((3200 : Nat) : Int) = 3200 from rfl)) (rfl : i3 x2 = i3 x2) (by omega) (by omega) (by omega) (by omega)) (fun h2 => ?_) (fun h2 => ?_)
  · replace hP := zE_p hP h2
    exact hk _ _ _ _ (zconso rfl (zconso (zvo (rfl : i3 x1 = i3 x1)) (zconso rfl (zconso rfl rfl)))) hZ hK hU (by omega) (by omega)  hP
  · replace hP := zE_n hP h2
    refine wz_br (i3E (rfl : i3 x1 = i3 x1) (show (0 : Int32) = i3 0 from rfl) (by omega) (by omega) (by omega) (by omega)) (fun h3 => ?_) (fun h3 => ?_)
    · replace hP := zE_p hP h3
      obtain ⟨m2, rfl⟩ : ∃ m2, m = m2 + 1 := ⟨m - 1, by omega⟩
      exact wz_k1 ⟨m2, by omega, Z, 0, (x2 + 1), (zconso rfl (zconso (zvo (show (0 : Int32) = i3 0 from rfl)) (zconso (zvo (i3A (rfl : i3 x2 = i3 x2) (show (1 : Int32) = i3 1 from rfl))) (zconso rfl rfl)))), rfl, hZ, hK, hU, by omega, by omega, by omega,  hP⟩
    · replace hP := zE_n hP h3
      obtain ⟨Z4, v5, hv5, c9, hZ4I, kZ4, jZ4, lv5, uv5⟩ := sp_528 (ν := ν) hZ (a1 := x2) (by omega) (zbh (c := 0) (k := 0) hM (Nat.le_of_ble_eq_true rfl))
      have hZ4U : zU [] Zs Z4 := zU_t hU jZ4 zU_b0
      have hZ4K : zC [1, 95, 96, 97] Zs Z4 := zC_t hK kZ4 (by decide)
      replace hP := zl_e2 hP hv5
      refine wz_cI_of (zas (zcons rfl (zcons (zvi (rfl : i3 x2 = i3 x2)) rfl)) c9) ?_
      clear c9 hv5
      refine wz_br (i3E (rfl : i3 v5 = i3 v5) (show (0 : Int32) = i3 0 from rfl) (by omega) (by omega) (by omega) (by omega)) (fun h6 => ?_) (fun h6 => ?_)
      · replace hP := zE_p hP h6
        obtain ⟨m2, rfl⟩ : ∃ m2, m = m2 + 1 := ⟨m - 1, by omega⟩
        exact wz_k1 ⟨m2, by omega, Z4, 0, (x2 + 1), (zconso rfl (zconso (zvo (show (0 : Int32) = i3 0 from rfl)) (zconso (zvo (i3A (rfl : i3 x2 = i3 x2) (show (1 : Int32) = i3 1 from rfl))) (zconso rfl rfl)))), rfl, hZ4I, hZ4K, hZ4U, by omega, by omega, by omega,  hP⟩
      · replace hP := zE_n hP h6
        obtain ⟨m2, rfl⟩ : ∃ m2, m = m2 + 1 := ⟨m - 1, by omega⟩
        exact wz_k1 ⟨m2, by omega, Z4, 1, (x2 + 1), (zconso rfl (zconso (zvo (show (1 : Int32) = i3 1 from rfl)) (zconso (zvo (i3A (rfl : i3 x2 = i3 x2) (show (1 : Int32) = i3 1 from rfl))) (zconso rfl rfl)))), rfl, hZ4I, hZ4K, hZ4U, by omega, by omega, by omega,  hP⟩
/- yX12_tSound -/
def zf_524 (Z : qz_Z) : qz_Z × Int := (zlet (zf_508 Z) (fun v1 => (if (Z 2 0 0 3201) < v1 then (zlet2 (zl_524_1 61 Z 0 0) (fun y4 y5 => (zlet3 (zl_524_2 5 Z y4 0) (fun Z9 y7 y8 => (Z9, y7))))) else (zlet2 (zl_524_1 61 Z 1 0) (fun y11 y12 => (zlet3 (zl_524_2 5 Z y11 0) (fun Z16 y14 y15 => (Z16, y14))))))))
theorem sp_524 {s : zSM} {Z : qz_Z} {ν : qz_N} (hZ : zM s Z) (hM : s.2 + 0 ≤ 1000000000) : ∃ (Z1 : qz_Z) (P : Int), (Z1, P) = zf_524 Z ∧ (qf_524 [.inr (.inr (some (1, 0, 0)))] (zm Z ν) = some (zm Z1 ν, .inl (some (.inl (i3 P)))) ∧ zM s Z1 ∧ zC [1, 95, 96, 97] Z Z1 ∧ zU [] Z Z1 ∧ 0 ≤ P ∧ P ≤ 1) := by
  obtain ⟨P, hP⟩ := zx (zf_524 Z)
  refine zc_W (Q := fun Z1 P => zM s Z1 ∧ zC [1, 95, 96, 97] Z Z1 ∧ zU [] Z Z1 ∧ 0 ≤ P ∧ P ≤ 1) hP (fw_524  _ _ ?_)
  replace hP : zE P (zf_524 Z) := hP
  unfold zf_524 at hP
  obtain ⟨v1, hv1, c9, lv1, uv1⟩ := sp_508 (ν := ν) hZ (zbh (c := 0) (k := 0) hM (Nat.le_of_ble_eq_true rfl))
  replace hP := zl_e hP hv1
  refine wz_cI_of (zas (zcons rfl rfl) c9) ?_
  clear c9
  have r2 := zM_k hZ 2 0 0 3201 (lo := 0) (hi := 4) (by decide) rfl
  refine wz_br (i3L (zm_rd (Z := Z) (ν := ν) (k := 2) (show ((0 : Nat) : Int) = 0 from rfl) (show ((0 : Nat) : Int) = 0 from rfl) (show ((3201 : Nat) : Int) = 3201 from rfl)) (rfl : i3 v1 = i3 v1) (by omega) (by omega) (by omega) (by omega)) (fun h3 => ?_) (fun h3 => ?_)
  · replace hP := zE_p hP h3
    refine sl_524_1 (ν := ν) hZ (zbh (c := 0) (k := 0) hM (Nat.le_of_ble_eq_true rfl)) (x1 := 0) (by omega) (x2 := 0) (by omega)  (zconso rfl (zconso (zvo (show (0 : Int32) = i3 0 from rfl)) (zconso (zvo (show (0 : Int32) = i3 0 from rfl)) (zconso rfl rfl)))) rfl ?_
    intro L6 y4 y5 hL6 gy4 gy5 q9
    replace hP := zl_e2 hP (Eq.symm q9)
    clear q9
    refine fc_524_4 (i3 y4) _ _ _ _ hL6 ?_
    refine sl_524_2 (ν := ν) hZ (zbh (c := 0) (k := 0) hM (Nat.le_of_ble_eq_true rfl)) zC_r (x1 := y4) (by omega) (x2 := 0) (by omega) zU_r  (zconso rfl (zconso (zvo (rfl : i3 y4 = i3 y4)) (zconso (zvo (show (0 : Int32) = i3 0 from rfl)) (zconso rfl rfl)))) rfl ?_
    intro L10 Z9 y7 y8 hL10 hZ9I kZ9 jZ9 gy7 gy8 q9
    replace hP := zl_e3 hP (Eq.symm q9)
    clear q9
    have hZ9U : zU [] Z Z9 := zU_t zU_r jZ9 zU_b0
    have hZ9K : zC [1, 95, 96, 97] Z Z9 := zC_t zC_r kZ9 (by decide)
    refine fc_524_3 (i3 y7) _ _ _ _ hL10 ?_
    refine wz_i1 (i3B (rfl : i3 y7 = i3 y7) (by omega)) ?_
    exact zlW hP (rfl : i3 y7 = i3 y7) ⟨hZ9I, hZ9K, hZ9U, by omega, by omega⟩
  · replace hP := zE_n hP h3
    refine sl_524_1 (ν := ν) hZ (zbh (c := 0) (k := 0) hM (Nat.le_of_ble_eq_true rfl)) (x1 := 1) (by omega) (x2 := 0) (by omega)  (zconso rfl (zconso (zvo (show (1 : Int32) = i3 1 from rfl)) (zconso (zvo (show (0 : Int32) = i3 0 from rfl)) (zconso rfl rfl)))) rfl ?_
    intro L13 y11 y12 hL13 gy11 gy12 q9
    replace hP := zl_e2 hP (Eq.symm q9)
    clear q9
    refine fc_524_4 (i3 y11) _ _ _ _ hL13 ?_
    refine sl_524_2 (ν := ν) hZ (zbh (c := 0) (k := 0) hM (Nat.le_of_ble_eq_true rfl)) zC_r (x1 := y11) (by omega) (x2 := 0) (by omega) zU_r  (zconso rfl (zconso (zvo (rfl : i3 y11 = i3 y11)) (zconso (zvo (show (0 : Int32) = i3 0 from rfl)) (zconso rfl rfl)))) rfl ?_
    intro L17 Z16 y14 y15 hL17 hZ16I kZ16 jZ16 gy14 gy15 q9
    replace hP := zl_e3 hP (Eq.symm q9)
    clear q9
    have hZ16U : zU [] Z Z16 := zU_t zU_r jZ16 zU_b0
    have hZ16K : zC [1, 95, 96, 97] Z Z16 := zC_t zC_r kZ16 (by decide)
    refine fc_524_3 (i3 y14) _ _ _ _ hL17 ?_
    refine wz_i1 (i3B (rfl : i3 y14 = i3 y14) (by omega)) ?_
    exact zlW hP (rfl : i3 y14 = i3 y14) ⟨hZ16I, hZ16K, hZ16U, by omega, by omega⟩
/- yX12_iIsWell -/
def zf_362 (Z : qz_Z) (a1 : Int) : Int := (if (Z 2 0 0 0) < (Z 2 0 0 (1 + a1)) then 0 else (if a1 = 3560 then (if (Z 2 0 0 (3 + a1)) ≠ 0 then 1 else (if (Z 2 0 0 (210 + 20 * (Z 2 0 0 (2 + a1)))) ≠ 3 then 0 else 1)) else (if (Z 2 0 0 (1 + a1)) < (Z 2 0 0 ((-5) + a1)) then 0 else (if (Z 2 0 0 (3 + a1)) ≠ 0 then 1 else (if (Z 2 0 0 (210 + 20 * (Z 2 0 0 (2 + a1)))) ≠ 3 then 0 else 1)))))
theorem sp_362 {s : zSM} {Z : qz_Z} {ν : qz_N} (hZ : zM s Z) {a1 : Int} (ga1 : 3560 ≤ a1 ∧ a1 ≤ 3698) (gx0 : (a1 - 3560) % 6 = 0) (hM : s.2 + 0 ≤ 1000000000) : ∃ P : Int, P = zf_362 Z a1 ∧ (qf_362 [.inr (.inr (some (1, 0, 0))), .inl (i3 a1)] (zm Z ν) = some (zm Z ν, .inl (some (.inl (i3 P)))) ∧ 0 ≤ P ∧ P ≤ 1) := by
  obtain ⟨P, hP⟩ := zx (zf_362 Z a1)
  refine zc_R (Q := fun P => 0 ≤ P ∧ P ≤ 1) hP (fw_362 (i3 a1) _ _ ?_)
  replace hP : zE P (zf_362 Z a1) := hP
  unfold zf_362 at hP
  have r1 := zM_k hZ 2 0 0 (2 + a1) (lo := 0) (hi := 47) (by decide) (zs_3560_2 (x := (a1 - 3560) / 6) (by omega) (by omega) (by omega))
  refine wz_i0 (i3O (n := 4400) (i3A (rfl : i3 a1 = i3 a1) (show (1 : Int32) = i3 1 from rfl)) (by omega) (by omega) (by omega)) ?_
  have r2 := zM_k hZ 2 0 0 0 (lo := 0) (hi := 671) (by decide) rfl
  have r3 := zM_f hZ 2 0 0 (1 + a1)
  refine wz_br (i3L (zm_rd (Z := Z) (ν := ν) (k := 2) (show ((0 : Nat) : Int) = 0 from rfl) (show ((0 : Nat) : Int) = 0 from rfl) (show ((0 : Nat) : Int) = 0 from rfl)) (zm_rd (Z := Z) (ν := ν) (k := 2) (show ((0 : Nat) : Int) = 0 from rfl) (show ((0 : Nat) : Int) = 0 from rfl) (i3I (y := (1 + a1)) (i3A (rfl : i3 a1 = i3 a1) (show (1 : Int32) = i3 1 from rfl)) (by omega) (by omega) (by omega))) (by omega) (by omega) (by omega) (by omega)) (fun h4 => ?_) (fun h4 => ?_)
  · replace hP := zE_p hP h4
    exact zlR hP (show (0 : Int32) = i3 0 from rfl) ⟨by omega, by omega⟩
  · replace hP := zE_n hP h4
    refine wz_br (i3E (rfl : i3 a1 = i3 a1) (show (3560 : Int32) = i3 3560 from rfl) (by omega) (by omega) (by omega) (by omega)) (fun h5 => ?_) (fun h5 => ?_)
    · replace hP := zE_p hP h5
      refine wz_i0 (i3O (n := 4400) (i3A (rfl : i3 a1 = i3 a1) (show (3 : Int32) = i3 3 from rfl)) (by omega) (by omega) (by omega)) ?_
      have r6 := zM_f hZ 2 0 0 (3 + a1)
      refine wz_br (i3NE (zm_rd (Z := Z) (ν := ν) (k := 2) (show ((0 : Nat) : Int) = 0 from rfl) (show ((0 : Nat) : Int) = 0 from rfl) (i3I (y := (3 + a1)) (i3A (rfl : i3 a1 = i3 a1) (show (3 : Int32) = i3 3 from rfl)) (by omega) (by omega) (by omega))) (show (0 : Int32) = i3 0 from rfl) (by omega) (by omega) (by omega) (by omega)) (fun h7 => ?_) (fun h7 => ?_)
      · replace hP := zE_p hP h7
        exact zlR hP (show (1 : Int32) = i3 1 from rfl) ⟨by omega, by omega⟩
      · replace hP := zE_n hP h7
        refine wz_i0 (i3O (n := 4400) (i3A (rfl : i3 a1 = i3 a1) (show (2 : Int32) = i3 2 from rfl)) (by omega) (by omega) (by omega)) ?_
        have r8 := zM_f hZ 2 0 0 (2 + a1)
        refine wz_i0 (i3O (n := 4400) (i3A (i3A (show (200 : Int32) = i3 200 from rfl) (i3M (show (20 : Int32) = i3 20 from rfl) (zm_rd (Z := Z) (ν := ν) (k := 2) (show ((0 : Nat) : Int) = 0 from rfl) (show ((0 : Nat) : Int) = 0 from rfl) (i3I (y := (2 + a1)) (i3A (rfl : i3 a1 = i3 a1) (show (2 : Int32) = i3 2 from rfl)) (by omega) (by omega) (by omega))))) (show (10 : Int32) = i3 10 from rfl)) (by omega) (by omega) (by omega)) ?_
        have r9 := zM_k hZ 2 0 0 (210 + 20 * (Z 2 0 0 (2 + a1))) (lo := 0) (hi := 4) (by decide) (zs_200_10 (x := (Z 2 0 0 (2 + a1))) (by omega) (by omega) (by omega))
        have r10 := zM_pl hZ (Z 2 0 0 (2 + a1))
        have r11 := zM_k hZ 2 0 0 102 (lo := 0) (hi := 48) (by decide) rfl
        refine wz_br (i3NE (zm_rd (Z := Z) (ν := ν) (k := 2) (show ((0 : Nat) : Int) = 0 from rfl) (show ((0 : Nat) : Int) = 0 from rfl) (i3I (y := (210 + 20 * (Z 2 0 0 (2 + a1)))) (i3A (i3A (show (200 : Int32) = i3 200 from rfl) (i3M (show (20 : Int32) = i3 20 from rfl) (zm_rd (Z := Z) (ν := ν) (k := 2) (show ((0 : Nat) : Int) = 0 from rfl) (show ((0 : Nat) : Int) = 0 from rfl) (i3I (y := (2 + a1)) (i3A (rfl : i3 a1 = i3 a1) (show (2 : Int32) = i3 2 from rfl)) (by omega) (by omega) (by omega))))) (show (10 : Int32) = i3 10 from rfl)) (by omega) (by omega) (by omega))) (show (3 : Int32) = i3 3 from rfl) (by omega) (by omega) (by omega) (by omega)) (fun h12 => ?_) (fun h12 => ?_)
        · replace hP := zE_p hP h12
          exact zlR hP (show (0 : Int32) = i3 0 from rfl) ⟨by omega, by omega⟩
        · replace hP := zE_n hP h12
          exact zlR hP (show (1 : Int32) = i3 1 from rfl) ⟨by omega, by omega⟩
    · replace hP := zE_n hP h5
      refine wz_i0 (i3O (n := 4400) (i3S (rfl : i3 a1 = i3 a1) (show (5 : Int32) = i3 5 from rfl)) (by omega) (by omega) (by omega)) ?_
      refine wz_i0 (i3O (n := 4400) (i3A (rfl : i3 a1 = i3 a1) (show (1 : Int32) = i3 1 from rfl)) (by omega) (by omega) (by omega)) ?_
      have r13 := zM_f hZ 2 0 0 ((-5) + a1)
      refine wz_br (i3L (zm_rd (Z := Z) (ν := ν) (k := 2) (show ((0 : Nat) : Int) = 0 from rfl) (show ((0 : Nat) : Int) = 0 from rfl) (i3I (y := (1 + a1)) (i3A (rfl : i3 a1 = i3 a1) (show (1 : Int32) = i3 1 from rfl)) (by omega) (by omega) (by omega))) (zm_rd (Z := Z) (ν := ν) (k := 2) (show ((0 : Nat) : Int) = 0 from rfl) (show ((0 : Nat) : Int) = 0 from rfl) (i3I (y := ((-5) + a1)) (i3S (rfl : i3 a1 = i3 a1) (show (5 : Int32) = i3 5 from rfl)) (by omega) (by omega) (by omega))) (by omega) (by omega) (by omega) (by omega)) (fun h14 => ?_) (fun h14 => ?_)
      · replace hP := zE_p hP h14
        exact zlR hP (show (0 : Int32) = i3 0 from rfl) ⟨by omega, by omega⟩
      · replace hP := zE_n hP h14
        refine wz_i0 (i3O (n := 4400) (i3A (rfl : i3 a1 = i3 a1) (show (3 : Int32) = i3 3 from rfl)) (by omega) (by omega) (by omega)) ?_
        have r15 := zM_f hZ 2 0 0 (3 + a1)
        refine wz_br (i3NE (zm_rd (Z := Z) (ν := ν) (k := 2) (show ((0 : Nat) : Int) = 0 from rfl) (show ((0 : Nat) : Int) = 0 from rfl) (i3I (y := (3 + a1)) (i3A (rfl : i3 a1 = i3 a1) (show (3 : Int32) = i3 3 from rfl)) (by omega) (by omega) (by omega))) (show (0 : Int32) = i3 0 from rfl) (by omega) (by omega) (by omega) (by omega)) (fun h16 => ?_) (fun h16 => ?_)
        · replace hP := zE_p hP h16
          exact zlR hP (show (1 : Int32) = i3 1 from rfl) ⟨by omega, by omega⟩
        · replace hP := zE_n hP h16
          refine wz_i0 (i3O (n := 4400) (i3A (rfl : i3 a1 = i3 a1) (show (2 : Int32) = i3 2 from rfl)) (by omega) (by omega) (by omega)) ?_
          have r17 := zM_f hZ 2 0 0 (2 + a1)
          refine wz_i0 (i3O (n := 4400) (i3A (i3A (show (200 : Int32) = i3 200 from rfl) (i3M (show (20 : Int32) = i3 20 from rfl) (zm_rd (Z := Z) (ν := ν) (k := 2) (show ((0 : Nat) : Int) = 0 from rfl) (show ((0 : Nat) : Int) = 0 from rfl) (i3I (y := (2 + a1)) (i3A (rfl : i3 a1 = i3 a1) (show (2 : Int32) = i3 2 from rfl)) (by omega) (by omega) (by omega))))) (show (10 : Int32) = i3 10 from rfl)) (by omega) (by omega) (by omega)) ?_
          have r18 := zM_k hZ 2 0 0 (210 + 20 * (Z 2 0 0 (2 + a1))) (lo := 0) (hi := 4) (by decide) (zs_200_10 (x := (Z 2 0 0 (2 + a1))) (by omega) (by omega) (by omega))
          have r19 := zM_pl hZ (Z 2 0 0 (2 + a1))
          have r20 := zM_k hZ 2 0 0 102 (lo := 0) (hi := 48) (by decide) rfl
          refine wz_br (i3NE (zm_rd (Z := Z) (ν := ν) (k := 2) (show ((0 : Nat) : Int) = 0 from rfl) (show ((0 : Nat) : Int) = 0 from rfl) (i3I (y := (210 + 20 * (Z 2 0 0 (2 + a1)))) (i3A (i3A (show (200 : Int32) = i3 200 from rfl) (i3M (show (20 : Int32) = i3 20 from rfl) (zm_rd (Z := Z) (ν := ν) (k := 2) (show ((0 : Nat) : Int) = 0 from rfl) (show ((0 : Nat) : Int) = 0 from rfl) (i3I (y := (2 + a1)) (i3A (rfl : i3 a1 = i3 a1) (show (2 : Int32) = i3 2 from rfl)) (by omega) (by omega) (by omega))))) (show (10 : Int32) = i3 10 from rfl)) (by omega) (by omega) (by omega))) (show (3 : Int32) = i3 3 from rfl) (by omega) (by omega) (by omega) (by omega)) (fun h21 => ?_) (fun h21 => ?_)
          · replace hP := zE_p hP h21
            exact zlR hP (show (0 : Int32) = i3 0 from rfl) ⟨by omega, by omega⟩
          · replace hP := zE_n hP h21
            exact zlR hP (show (1 : Int32) = i3 1 from rfl) ⟨by omega, by omega⟩
/- yX12_iSeized -/
def zl_371_1 : Nat → qz_Z → Int → Int → Int × Int
  | 0, Z, x1, x2 => (x1, x2)
  | m + 1, Z, x1, x2 => (if (Z 2 0 0 102) ≤ x2 then (x1, x2) else (if (Z 2 0 0 (210 + 20 * x2)) ≠ 3 then zl_371_1 m Z (x1 + 0) (x2 + 1) else zl_371_1 m Z (x1 + 1) (x2 + 1)))
theorem sl_371_1 {s : zSM} {Z : qz_Z} {ν : qz_N} (hZ : zM s Z) (hM : s.2 + 0 ≤ 1000000000) {x1 : Int} (gx1 : 0 ≤ x1 ∧ x1 ≤ 48) {x2 : Int} (gx2 : 0 ≤ x2 ∧ x2 ≤ 48) (gr0 : x1 ≤ x2) {k : wz_K} {R : wz_R} {L : qz_L} (hL : qz_fg [true, true, true] L = [some (.inr (.inr (some (1, 0, 0)))), some (.inl (i3 x1)), some (.inl (i3 x2))]) {T : Int × Int} (hP : zE T (zl_371_1 ((48 - x2).toNat + 1) Z x1 x2)) (hk : ∀ (L9 : qz_L) (yx1 yx2 : Int), qz_fg [false, true, false] L9 = [none, some (.inl (i3 yx1)), none] → (0 ≤ yx1 ∧ yx1 ≤ 48) → (0 ≤ yx2 ∧ yx2 ≤ 48) → (yx1 ≤ yx2) → zE T ((yx1, yx2)) → k 0 (L9, [], zm Z ν)) : wz_loop qb_371_1 65536 k R (L, [], zm Z ν) := by
  refine wz_lp sb_371_1 (fun m x => ∃ x1 : Int, ∃ x2 : Int, qz_fg [true, true, true] x.1 = [some (.inr (.inr (some (1, 0, 0)))), some (.inl (i3 x1)), some (.inl (i3 x2))] ∧ x.2 = ([], zm Z ν) ∧ m = (48 - x2).toNat ∧ (0 ≤ x1 ∧ x1 ≤ 48) ∧ (0 ≤ x2 ∧ x2 ≤ 48) ∧ (x1 ≤ x2) ∧ zE T (zl_371_1 (m + 1) Z x1 x2)) ?_ 65536 ((48 - x2).toNat) _ (by omega) ⟨x1, x2, hL, rfl, rfl, gx1, gx2, gr0, hP⟩
  clear hP gr0 gx1 gx2 hL
  clear x1 x2
  rintro m ⟨L, st, μ⟩ ⟨x1, x2, hL, hx, hm, gx1, gx2, gr0, hP⟩
  cases hx
  refine fb_371_1 (i3 x1) (i3 x2) _ _ _ _ hL ?_
  have r1 := zM_k hZ 2 0 0 102 (lo := 0) (hi := 48) (by decide) rfl
  refine wz_br (i3Le (zm_rd (Z := Z) (ν := ν) (k := 2) (show ((0 : Nat) : Int) = 0 from rfl) (show ((0 : Nat) : Int) = 0 from rfl) (show ((102 : Nat) : Int) = 102 from rfl)) (rfl : i3 x2 = i3 x2) (by omega) (by omega) (by omega) (by omega)) (fun h2 => ?_) (fun h2 => ?_)
  · replace hP := zE_p hP h2
    exact hk _ _ _ (zconso rfl (zconso (zvo (rfl : i3 x1 = i3 x1)) (zconso rfl rfl)))  (by omega) (by omega) (by omega) hP
  · replace hP := zE_n hP h2
    refine wz_i0 (i3O (n := 4400) (i3A (i3A (show (200 : Int32) = i3 200 from rfl) (i3M (show (20 : Int32) = i3 20 from rfl) (rfl : i3 x2 = i3 x2))) (show (10 : Int32) = i3 10 from rfl)) (by omega) (by omega) (by omega)) ?_
    have r3 := zM_k hZ 2 0 0 (210 + 20 * x2) (lo := 0) (hi := 4) (by decide) (zs_200_10 (x := x2) (by omega) (by omega) (by omega))
    have r4 := zM_pl hZ x2
    refine wz_br (i3NE (zm_rd (Z := Z) (ν := ν) (k := 2) (show ((0 : Nat) : Int) = 0 from rfl) (show ((0 : Nat) : Int) = 0 from rfl) (i3I (y := (210 + 20 * x2)) (i3A (i3A (show (200 : Int32) = i3 200 from rfl) (i3M (show (20 : Int32) = i3 20 from rfl) (rfl : i3 x2 = i3 x2))) (show (10 : Int32) = i3 10 from rfl)) (by omega) (by omega) (by omega))) (show (3 : Int32) = i3 3 from rfl) (by omega) (by omega) (by omega) (by omega)) (fun h5 => ?_) (fun h5 => ?_)
    · replace hP := zE_p hP h5
      obtain ⟨m2, rfl⟩ : ∃ m2, m = m2 + 1 := ⟨m - 1, by omega⟩
      exact wz_k1 ⟨m2, by omega, (x1 + 0), (x2 + 1), (zconso rfl (zconso (zvo (i3A (rfl : i3 x1 = i3 x1) (show (0 : Int32) = i3 0 from rfl))) (zconso (zvo (i3A (rfl : i3 x2 = i3 x2) (show (1 : Int32) = i3 1 from rfl))) rfl))), rfl,  by omega, by omega, by omega, by omega,  hP⟩
    · replace hP := zE_n hP h5
      obtain ⟨m2, rfl⟩ : ∃ m2, m = m2 + 1 := ⟨m - 1, by omega⟩
      exact wz_k1 ⟨m2, by omega, (x1 + 1), (x2 + 1), (zconso rfl (zconso (zvo (i3A (rfl : i3 x1 = i3 x1) (show (1 : Int32) = i3 1 from rfl))) (zconso (zvo (i3A (rfl : i3 x2 = i3 x2) (show (1 : Int32) = i3 1 from rfl))) rfl))), rfl,  by omega, by omega, by omega, by omega,  hP⟩
/- yX12_iSeized -/
def zf_371 (Z : qz_Z) : Int := (zlet2 (zl_371_1 49 Z 0 0) (fun y1 y2 => y1))
theorem sp_371 {s : zSM} {Z : qz_Z} {ν : qz_N} (hZ : zM s Z) (hM : s.2 + 0 ≤ 1000000000) : ∃ P : Int, P = zf_371 Z ∧ (qf_371 [.inr (.inr (some (1, 0, 0)))] (zm Z ν) = some (zm Z ν, .inl (some (.inl (i3 P)))) ∧ 0 ≤ P ∧ P ≤ 48) := by
  obtain ⟨P, hP⟩ := zx (zf_371 Z)
  refine zc_R (Q := fun P => 0 ≤ P ∧ P ≤ 48) hP (fw_371  _ _ ?_)
  replace hP : zE P (zf_371 Z) := hP
  unfold zf_371 at hP
  refine sl_371_1 (ν := ν) hZ (zbh (c := 0) (k := 0) hM (Nat.le_of_ble_eq_true rfl)) (x1 := 0) (by omega) (x2 := 0) (by omega) (by omega) (zconso rfl (zconso (zvo (show (0 : Int32) = i3 0 from rfl)) (zconso (zvo (show (0 : Int32) = i3 0 from rfl)) rfl))) rfl ?_
  intro L3 y1 y2 hL3 gy1 gy2 gL3_0 q9
  replace hP := zl_e2 hP (Eq.symm q9)
  clear q9
  refine fc_371_2 (i3 y1) _ _ _ _ hL3 ?_
  exact zlR hP (rfl : i3 y1 = i3 y1) ⟨by omega, by omega⟩
/- yX12_iSound -/
def zl_372_1 : Nat → qz_Z → Int → Int → Int → Int × Int × Int
  | 0, Z, x1, x2, x3 => (x1, x2, x3)
  | m + 1, Z, x1, x2, x3 => (if (Z 2 0 0 3500) ≤ x3 then (x1, x2, x3) else zl_372_1 m Z (w3 (x1 + (Z 2 0 0 (3526 + 10 * x3)))) (w3 (x2 + (Z 2 0 0 (3525 + 10 * x3)))) (x3 + 1))
theorem sl_372_1 {s : zSM} {Z : qz_Z} {ν : qz_N} (hZ : zM s Z) (hM : s.2 + 0 ≤ 1000000000) {x1 : Int} (gx1 : -2147483648 ≤ x1 ∧ x1 ≤ 2147483647) {x2 : Int} (gx2 : -2147483648 ≤ x2 ∧ x2 ≤ 2147483647) {x3 : Int} (gx3 : 0 ≤ x3 ∧ x3 ≤ 2) {k : wz_K} {R : wz_R} {L : qz_L} (hL : qz_fg [true, true, true, true, false] L = [some (.inr (.inr (some (1, 0, 0)))), some (.inl (i3 x1)), some (.inl (i3 x2)), some (.inl (i3 x3)), none]) {T : Int × Int × Int} (hP : zE T (zl_372_1 ((2 - x3).toNat + 1) Z x1 x2 x3)) (hk : ∀ (L9 : qz_L) (yx1 yx2 yx3 : Int), qz_fg [true, true, true, false, false] L9 = [some (.inr (.inr (some (1, 0, 0)))), some (.inl (i3 yx1)), some (.inl (i3 yx2)), none, none] → (-2147483648 ≤ yx1 ∧ yx1 ≤ 2147483647) → (-2147483648 ≤ yx2 ∧ yx2 ≤ 2147483647) → (0 ≤ yx3 ∧ yx3 ≤ 2) → zE T ((yx1, yx2, yx3)) → k 0 (L9, [], zm Z ν)) : wz_loop qb_372_1 65536 k R (L, [], zm Z ν) := by
  refine wz_lp sb_372_1 (fun m x => ∃ x1 : Int, ∃ x2 : Int, ∃ x3 : Int, qz_fg [true, true, true, true, false] x.1 = [some (.inr (.inr (some (1, 0, 0)))), some (.inl (i3 x1)), some (.inl (i3 x2)), some (.inl (i3 x3)), none] ∧ x.2 = ([], zm Z ν) ∧ m = (2 - x3).toNat ∧ (-2147483648 ≤ x1 ∧ x1 ≤ 2147483647) ∧ (-2147483648 ≤ x2 ∧ x2 ≤ 2147483647) ∧ (0 ≤ x3 ∧ x3 ≤ 2) ∧ zE T (zl_372_1 (m + 1) Z x1 x2 x3)) ?_ 65536 ((2 - x3).toNat) _ (by omega) ⟨x1, x2, x3, hL, rfl, rfl, gx1, gx2, gx3, hP⟩
  clear hP gx1 gx2 gx3 hL
  clear x1 x2 x3
  rintro m ⟨L, st, μ⟩ ⟨x1, x2, x3, hL, hx, hm, gx1, gx2, gx3, hP⟩
  cases hx
  refine fb_372_1 (i3 x1) (i3 x2) (i3 x3) _ _ _ _ hL ?_
  have r1 := zM_k hZ 2 0 0 3500 (lo := 0) (hi := 2) (by decide) rfl
  refine wz_br (i3Le (zm_rd (Z := Z) (ν := ν) (k := 2) (show ((0 : Nat) : Int) = 0 from rfl) (show ((0 : Nat) : Int) = 0 from rfl) (show ((3500 : Nat) : Int) = 3500 from rfl)) (rfl : i3 x3 = i3 x3) (by omega) (by omega) (by omega) (by omega)) (fun h2 => ?_) (fun h2 => ?_)
  · replace hP := zE_p hP h2
    exact hk _ _ _ _ (zconso rfl (zconso (zvo (rfl : i3 x1 = i3 x1)) (zconso (zvo (rfl : i3 x2 = i3 x2)) (zconso rfl (zconso rfl rfl)))))  (by omega) (by omega) (by omega)  hP
  · replace hP := zE_n hP h2
    refine wz_i0 (i3O (n := 4400) (i3A (i3A (show (3520 : Int32) = i3 3520 from rfl) (i3M (show (10 : Int32) = i3 10 from rfl) (rfl : i3 x3 = i3 x3))) (show (5 : Int32) = i3 5 from rfl)) (by omega) (by omega) (by omega)) ?_
    refine wz_i0 (i3O (n := 4400) (i3A (i3A (show (3520 : Int32) = i3 3520 from rfl) (i3M (show (10 : Int32) = i3 10 from rfl) (rfl : i3 x3 = i3 x3))) (show (6 : Int32) = i3 6 from rfl)) (by omega) (by omega) (by omega)) ?_
    have r3 := zM_f hZ 2 0 0 (3526 + 10 * x3)
    have r4 := w3_r (x1 + (Z 2 0 0 (3526 + 10 * x3)))
    have r5 := zM_f hZ 2 0 0 (3525 + 10 * x3)
    have r6 := w3_r (x2 + (Z 2 0 0 (3525 + 10 * x3)))
    obtain ⟨m2, rfl⟩ : ∃ m2, m = m2 + 1 := ⟨m - 1, by omega⟩
    exact wz_k1 ⟨m2, by omega, (w3 (x1 + (Z 2 0 0 (3526 + 10 * x3)))), (w3 (x2 + (Z 2 0 0 (3525 + 10 * x3)))), (x3 + 1), (zconso rfl (zconso (zvo (i3W (i3A (rfl : i3 x1 = i3 x1) (zm_rd (Z := Z) (ν := ν) (k := 2) (show ((0 : Nat) : Int) = 0 from rfl) (show ((0 : Nat) : Int) = 0 from rfl) (i3I (y := (3526 + 10 * x3)) (i3A (i3A (show (3520 : Int32) = i3 3520 from rfl) (i3M (show (10 : Int32) = i3 10 from rfl) (rfl : i3 x3 = i3 x3))) (show (6 : Int32) = i3 6 from rfl)) (by omega) (by omega) (by omega)))))) (zconso (zvo (i3W (i3A (rfl : i3 x2 = i3 x2) (zm_rd (Z := Z) (ν := ν) (k := 2) (show ((0 : Nat) : Int) = 0 from rfl) (show ((0 : Nat) : Int) = 0 from rfl) (i3I (y := (3525 + 10 * x3)) (i3A (i3A (show (3520 : Int32) = i3 3520 from rfl) (i3M (show (10 : Int32) = i3 10 from rfl) (rfl : i3 x3 = i3 x3))) (show (5 : Int32) = i3 5 from rfl)) (by omega) (by omega) (by omega)))))) (zconso (zvo (i3A (rfl : i3 x3 = i3 x3) (show (1 : Int32) = i3 1 from rfl))) (zconso rfl rfl))))), rfl,  by omega, by omega, by omega, by omega,  hP⟩
/- yX12_iSound -/
def zl_372_2 : Nat → qz_Z → Int → Int → Int × Int
  | 0, Z, x3, x4 => (x3, x4)
  | m + 1, Z, x3, x4 => (if (Z 2 0 0 3501) ≤ x4 then (x3, x4) else (if x3 = 0 then zl_372_2 m Z 0 (x4 + 1) else (zlet (zf_362 Z (3560 + (6 * x4))) (fun v4 => (if v4 = 0 then zl_372_2 m Z 0 (x4 + 1) else zl_372_2 m Z 1 (x4 + 1))))))
theorem sl_372_2 {s : zSM} {Z : qz_Z} {ν : qz_N} (hZ : zM s Z) (hM : s.2 + 0 ≤ 1000000000) {x3 : Int} (gx3 : 0 ≤ x3 ∧ x3 ≤ 1) {x4 : Int} (gx4 : 0 ≤ x4 ∧ x4 ≤ 24) {k : wz_K} {R : wz_R} {L : qz_L} (hL : qz_fg [true, false, false, true, true] L = [some (.inr (.inr (some (1, 0, 0)))), none, none, some (.inl (i3 x3)), some (.inl (i3 x4))]) {T : Int × Int} (hP : zE T (zl_372_2 ((24 - x4).toNat + 1) Z x3 x4)) (hk : ∀ (L9 : qz_L) (yx3 yx4 : Int), qz_fg [true, false, false, true, false] L9 = [some (.inr (.inr (some (1, 0, 0)))), none, none, some (.inl (i3 yx3)), none] → (0 ≤ yx3 ∧ yx3 ≤ 1) → (0 ≤ yx4 ∧ yx4 ≤ 24) → zE T ((yx3, yx4)) → k 0 (L9, [], zm Z ν)) : wz_loop qb_372_2 65536 k R (L, [], zm Z ν) := by
  refine wz_lp sb_372_2 (fun m x => ∃ x3 : Int, ∃ x4 : Int, qz_fg [true, false, false, true, true] x.1 = [some (.inr (.inr (some (1, 0, 0)))), none, none, some (.inl (i3 x3)), some (.inl (i3 x4))] ∧ x.2 = ([], zm Z ν) ∧ m = (24 - x4).toNat ∧ (0 ≤ x3 ∧ x3 ≤ 1) ∧ (0 ≤ x4 ∧ x4 ≤ 24) ∧ zE T (zl_372_2 (m + 1) Z x3 x4)) ?_ 65536 ((24 - x4).toNat) _ (by omega) ⟨x3, x4, hL, rfl, rfl, gx3, gx4, hP⟩
  clear hP gx3 gx4 hL
  clear x3 x4
  rintro m ⟨L, st, μ⟩ ⟨x3, x4, hL, hx, hm, gx3, gx4, hP⟩
  cases hx
  refine fb_372_2 (i3 x3) (i3 x4) _ _ _ _ hL ?_
  have r1 := zM_k hZ 2 0 0 3501 (lo := 0) (hi := 24) (by decide) rfl
  refine wz_br (i3Le (zm_rd (Z := Z) (ν := ν) (k := 2) (show ((0 : Nat) : Int) = 0 from rfl) (show ((0 : Nat) : Int) = 0 from rfl) (show ((3501 : Nat) : Int) = 3501 from rfl)) (rfl : i3 x4 = i3 x4) (by omega) (by omega) (by omega) (by omega)) (fun h2 => ?_) (fun h2 => ?_)
  · replace hP := zE_p hP h2
    exact hk _ _ _ (zconso rfl (zconso rfl (zconso rfl (zconso (zvo (rfl : i3 x3 = i3 x3)) (zconso rfl rfl)))))  (by omega) (by omega)  hP
  · replace hP := zE_n hP h2
    refine wz_br (i3E (rfl : i3 x3 = i3 x3) (show (0 : Int32) = i3 0 from rfl) (by omega) (by omega) (by omega) (by omega)) (fun h3 => ?_) (fun h3 => ?_)
    · replace hP := zE_p hP h3
      obtain ⟨m2, rfl⟩ : ∃ m2, m = m2 + 1 := ⟨m - 1, by omega⟩
      exact wz_k1 ⟨m2, by omega, 0, (x4 + 1), (zconso rfl (zconso rfl (zconso rfl (zconso (zvo (show (0 : Int32) = i3 0 from rfl)) (zconso (zvo (i3A (rfl : i3 x4 = i3 x4) (show (1 : Int32) = i3 1 from rfl))) rfl))))), rfl,  by omega, by omega, by omega,  hP⟩
    · replace hP := zE_n hP h3
      obtain ⟨v4, hv4, c9, lv4, uv4⟩ := sp_362 (ν := ν) hZ (a1 := (3560 + (6 * x4))) (by omega) (by omega) (zbh (c := 0) (k := 0) hM (Nat.le_of_ble_eq_true rfl))
      replace hP := zl_e hP hv4
      refine wz_cI_of (zas (zcons rfl (zcons (zvi (i3A (show (3560 : Int32) = i3 3560 from rfl) (i3M (show (6 : Int32) = i3 6 from rfl) (rfl : i3 x4 = i3 x4)))) rfl)) c9) ?_
      clear c9
      refine wz_br (i3E (rfl : i3 v4 = i3 v4) (show (0 : Int32) = i3 0 from rfl) (by omega) (by omega) (by omega) (by omega)) (fun h5 => ?_) (fun h5 => ?_)
      · replace hP := zE_p hP h5
        obtain ⟨m2, rfl⟩ : ∃ m2, m = m2 + 1 := ⟨m - 1, by omega⟩
        exact wz_k1 ⟨m2, by omega, 0, (x4 + 1), (zconso rfl (zconso rfl (zconso rfl (zconso (zvo (show (0 : Int32) = i3 0 from rfl)) (zconso (zvo (i3A (rfl : i3 x4 = i3 x4) (show (1 : Int32) = i3 1 from rfl))) rfl))))), rfl,  by omega, by omega, by omega,  hP⟩
      · replace hP := zE_n hP h5
        obtain ⟨m2, rfl⟩ : ∃ m2, m = m2 + 1 := ⟨m - 1, by omega⟩
        exact wz_k1 ⟨m2, by omega, 1, (x4 + 1), (zconso rfl (zconso rfl (zconso rfl (zconso (zvo (show (1 : Int32) = i3 1 from rfl)) (zconso (zvo (i3A (rfl : i3 x4 = i3 x4) (show (1 : Int32) = i3 1 from rfl))) rfl))))), rfl,  by omega, by omega, by omega,  hP⟩
/- yX12_iSound -/
def zl_372_3 : Nat → qz_Z → Int → Int → Int × Int
  | 0, Z, x3, x4 => (x3, x4)
  | m + 1, Z, x3, x4 => (if 6 ≤ x4 then (x3, x4) else (if x3 = 0 then zl_372_3 m Z 0 (x4 + 1) else (if ((Z 2 0 0 0) + 24) < (Z 2 0 0 (3510 + x4)) then zl_372_3 m Z 0 (x4 + 1) else zl_372_3 m Z 1 (x4 + 1))))
theorem sl_372_3 {s : zSM} {Z : qz_Z} {ν : qz_N} (hZ : zM s Z) (hM : s.2 + 0 ≤ 1000000000) {x3 : Int} (gx3 : 0 ≤ x3 ∧ x3 ≤ 1) {x4 : Int} (gx4 : 0 ≤ x4 ∧ x4 ≤ 6) {k : wz_K} {R : wz_R} {L : qz_L} (hL : qz_fg [true, false, false, true, true] L = [some (.inr (.inr (some (1, 0, 0)))), none, none, some (.inl (i3 x3)), some (.inl (i3 x4))]) {T : Int × Int} (hP : zE T (zl_372_3 ((6 - x4).toNat + 1) Z x3 x4)) (hk : ∀ (L9 : qz_L) (yx3 yx4 : Int), qz_fg [false, false, false, true, false] L9 = [none, none, none, some (.inl (i3 yx3)), none] → (0 ≤ yx3 ∧ yx3 ≤ 1) → (0 ≤ yx4 ∧ yx4 ≤ 6) → zE T ((yx3, yx4)) → k 0 (L9, [], zm Z ν)) : wz_loop qb_372_3 65536 k R (L, [], zm Z ν) := by
  refine wz_lp sb_372_3 (fun m x => ∃ x3 : Int, ∃ x4 : Int, qz_fg [true, false, false, true, true] x.1 = [some (.inr (.inr (some (1, 0, 0)))), none, none, some (.inl (i3 x3)), some (.inl (i3 x4))] ∧ x.2 = ([], zm Z ν) ∧ m = (6 - x4).toNat ∧ (0 ≤ x3 ∧ x3 ≤ 1) ∧ (0 ≤ x4 ∧ x4 ≤ 6) ∧ zE T (zl_372_3 (m + 1) Z x3 x4)) ?_ 65536 ((6 - x4).toNat) _ (by omega) ⟨x3, x4, hL, rfl, rfl, gx3, gx4, hP⟩
  clear hP gx3 gx4 hL
  clear x3 x4
  rintro m ⟨L, st, μ⟩ ⟨x3, x4, hL, hx, hm, gx3, gx4, hP⟩
  cases hx
  refine fb_372_3 (i3 x3) (i3 x4) _ _ _ _ hL ?_
  refine wz_br (i3Le (show (6 : Int32) = i3 6 from rfl) (rfl : i3 x4 = i3 x4) (by omega) (by omega) (by omega) (by omega)) (fun h1 => ?_) (fun h1 => ?_)
  · replace hP := zE_p hP h1
    exact hk _ _ _ (zconso rfl (zconso rfl (zconso rfl (zconso (zvo (rfl : i3 x3 = i3 x3)) (zconso rfl rfl)))))  (by omega) (by omega)  hP
  · replace hP := zE_n hP h1
    refine wz_br (i3E (rfl : i3 x3 = i3 x3) (show (0 : Int32) = i3 0 from rfl) (by omega) (by omega) (by omega) (by omega)) (fun h2 => ?_) (fun h2 => ?_)
    · replace hP := zE_p hP h2
      obtain ⟨m2, rfl⟩ : ∃ m2, m = m2 + 1 := ⟨m - 1, by omega⟩
      exact wz_k1 ⟨m2, by omega, 0, (x4 + 1), (zconso rfl (zconso rfl (zconso rfl (zconso (zvo (show (0 : Int32) = i3 0 from rfl)) (zconso (zvo (i3A (rfl : i3 x4 = i3 x4) (show (1 : Int32) = i3 1 from rfl))) rfl))))), rfl,  by omega, by omega, by omega,  hP⟩
    · replace hP := zE_n hP h2
      refine wz_i0 (i3O (n := 4400) (i3A (show (3510 : Int32) = i3 3510 from rfl) (rfl : i3 x4 = i3 x4)) (by omega) (by omega) (by omega)) ?_
      have r3 := zM_k hZ 2 0 0 0 (lo := 0) (hi := 671) (by decide) rfl
      have r4 := zM_k hZ 2 0 0 (3510 + x4) (lo := 0) (hi := 695) (by decide) (zs_3509 (by omega) (by omega))
      refine wz_br (i3L (i3A (zm_rd (Z := Z) (ν := ν) (k := 2) (show ((0 : Nat) : Int) = 0 from rfl) (show ((0 : Nat) : Int) = 0 from rfl) (show ((0 : Nat) : Int) = 0 from rfl)) (show (24 : Int32) = i3 24 from rfl)) (zm_rd (Z := Z) (ν := ν) (k := 2) (show ((0 : Nat) : Int) = 0 from rfl) (show ((0 : Nat) : Int) = 0 from rfl) (i3I (y := (3510 + x4)) (i3A (show (3510 : Int32) = i3 3510 from rfl) (rfl : i3 x4 = i3 x4)) (by omega) (by omega) (by omega))) (by omega) (by omega) (by omega) (by omega)) (fun h5 => ?_) (fun h5 => ?_)
      · replace hP := zE_p hP h5
        obtain ⟨m2, rfl⟩ : ∃ m2, m = m2 + 1 := ⟨m - 1, by omega⟩
        exact wz_k1 ⟨m2, by omega, 0, (x4 + 1), (zconso rfl (zconso rfl (zconso rfl (zconso (zvo (show (0 : Int32) = i3 0 from rfl)) (zconso (zvo (i3A (rfl : i3 x4 = i3 x4) (show (1 : Int32) = i3 1 from rfl))) rfl))))), rfl,  by omega, by omega, by omega,  hP⟩
      · replace hP := zE_n hP h5
        obtain ⟨m2, rfl⟩ : ∃ m2, m = m2 + 1 := ⟨m - 1, by omega⟩
        exact wz_k1 ⟨m2, by omega, 1, (x4 + 1), (zconso rfl (zconso rfl (zconso rfl (zconso (zvo (show (1 : Int32) = i3 1 from rfl)) (zconso (zvo (i3A (rfl : i3 x4 = i3 x4) (show (1 : Int32) = i3 1 from rfl))) rfl))))), rfl,  by omega, by omega, by omega,  hP⟩
/- yX12_iSound -/
def zf_372 (Z : qz_Z) : Int := (zlet3 (zl_372_1 3 Z 0 0 0) (fun y1 y2 y3 => (zlet (zf_371 Z) (fun v5 => (if y1 ≠ v5 then (zlet2 (zl_372_2 25 Z 0 0) (fun y7 y8 => (zlet2 (zl_372_3 7 Z y7 0) (fun y10 y11 => y10)))) else (if y2 < (Z 2 0 0 3501) then (zlet2 (zl_372_2 25 Z 0 0) (fun y15 y16 => (zlet2 (zl_372_3 7 Z y15 0) (fun y18 y19 => y18)))) else (zlet2 (zl_372_2 25 Z 1 0) (fun y21 y22 => (zlet2 (zl_372_3 7 Z y21 0) (fun y24 y25 => y24))))))))))
theorem sp_372 {s : zSM} {Z : qz_Z} {ν : qz_N} (hZ : zM s Z) (hM : s.2 + 0 ≤ 1000000000) : ∃ P : Int, P = zf_372 Z ∧ (qf_372 [.inr (.inr (some (1, 0, 0)))] (zm Z ν) = some (zm Z ν, .inl (some (.inl (i3 P)))) ∧ 0 ≤ P ∧ P ≤ 1) := by
  obtain ⟨P, hP⟩ := zx (zf_372 Z)
  refine zc_R (Q := fun P => 0 ≤ P ∧ P ≤ 1) hP (fw_372  _ _ ?_)
  replace hP : zE P (zf_372 Z) := hP
  unfold zf_372 at hP
  refine sl_372_1 (ν := ν) hZ (zbh (c := 0) (k := 0) hM (Nat.le_of_ble_eq_true rfl)) (x1 := 0) (by omega) (x2 := 0) (by omega) (x3 := 0) (by omega)  (zconso rfl (zconso (zvo (show (0 : Int32) = i3 0 from rfl)) (zconso (zvo (show (0 : Int32) = i3 0 from rfl)) (zconso (zvo (show (0 : Int32) = i3 0 from rfl)) (zconso rfl rfl))))) rfl ?_
  intro L4 y1 y2 y3 hL4 gy1 gy2 gy3 q9
  replace hP := zl_e3 hP (Eq.symm q9)
  clear q9
  refine fc_372_6 (i3 y1) (i3 y2) _ _ _ _ hL4 ?_
  obtain ⟨v5, hv5, c9, lv5, uv5⟩ := sp_371 (ν := ν) hZ (zbh (c := 0) (k := 0) hM (Nat.le_of_ble_eq_true rfl))
  replace hP := zl_e hP hv5
  refine wz_cI_of (zas (zcons rfl rfl) c9) ?_
  clear c9
  refine wz_br (i3NE (rfl : i3 y1 = i3 y1) (rfl : i3 v5 = i3 v5) (by omega) (by omega) (by omega) (by omega)) (fun h6 => ?_) (fun h6 => ?_)
  · replace hP := zE_p hP h6
    refine sl_372_2 (ν := ν) hZ (zbh (c := 0) (k := 0) hM (Nat.le_of_ble_eq_true rfl)) (x3 := 0) (by omega) (x4 := 0) (by omega)  (zconso rfl (zconso rfl (zconso rfl (zconso (zvo (show (0 : Int32) = i3 0 from rfl)) (zconso (zvo (show (0 : Int32) = i3 0 from rfl)) rfl))))) rfl ?_
    intro L9 y7 y8 hL9 gy7 gy8 q9
    replace hP := zl_e2 hP (Eq.symm q9)
    clear q9
    refine fc_372_5 (i3 y7) _ _ _ _ hL9 ?_
    refine sl_372_3 (ν := ν) hZ (zbh (c := 0) (k := 0) hM (Nat.le_of_ble_eq_true rfl)) (x3 := y7) (by omega) (x4 := 0) (by omega)  (zconso rfl (zconso rfl (zconso rfl (zconso (zvo (rfl : i3 y7 = i3 y7)) (zconso (zvo (show (0 : Int32) = i3 0 from rfl)) rfl))))) rfl ?_
    intro L12 y10 y11 hL12 gy10 gy11 q9
    replace hP := zl_e2 hP (Eq.symm q9)
    clear q9
    refine fc_372_4 (i3 y10) _ _ _ _ hL12 ?_
    refine wz_i1 (i3B (rfl : i3 y10 = i3 y10) (by omega)) ?_
    exact zlR hP (rfl : i3 y10 = i3 y10) ⟨by omega, by omega⟩
  · replace hP := zE_n hP h6
    have r13 := zM_k hZ 2 0 0 3501 (lo := 0) (hi := 24) (by decide) rfl
    refine wz_br (i3L (rfl : i3 y2 = i3 y2) (zm_rd (Z := Z) (ν := ν) (k := 2) (show ((0 : Nat) : Int) = 0 from rfl) (show ((0 : Nat) : Int) = 0 from rfl) (show ((3501 : Nat) : Int) = 3501 from rfl)) (by omega) (by omega) (by omega) (by omega)) (fun h14 => ?_) (fun h14 => ?_)
    · replace hP := zE_p hP h14
      refine sl_372_2 (ν := ν) hZ (zbh (c := 0) (k := 0) hM (Nat.le_of_ble_eq_true rfl)) (x3 := 0) (by omega) (x4 := 0) (by omega)  (zconso rfl (zconso rfl (zconso rfl (zconso (zvo (show (0 : Int32) = i3 0 from rfl)) (zconso (zvo (show (0 : Int32) = i3 0 from rfl)) rfl))))) rfl ?_
      intro L17 y15 y16 hL17 gy15 gy16 q9
      replace hP := zl_e2 hP (Eq.symm q9)
      clear q9
      refine fc_372_5 (i3 y15) _ _ _ _ hL17 ?_
      refine sl_372_3 (ν := ν) hZ (zbh (c := 0) (k := 0) hM (Nat.le_of_ble_eq_true rfl)) (x3 := y15) (by omega) (x4 := 0) (by omega)  (zconso rfl (zconso rfl (zconso rfl (zconso (zvo (rfl : i3 y15 = i3 y15)) (zconso (zvo (show (0 : Int32) = i3 0 from rfl)) rfl))))) rfl ?_
      intro L20 y18 y19 hL20 gy18 gy19 q9
      replace hP := zl_e2 hP (Eq.symm q9)
      clear q9
      refine fc_372_4 (i3 y18) _ _ _ _ hL20 ?_
      refine wz_i1 (i3B (rfl : i3 y18 = i3 y18) (by omega)) ?_
      exact zlR hP (rfl : i3 y18 = i3 y18) ⟨by omega, by omega⟩
    · replace hP := zE_n hP h14
      refine sl_372_2 (ν := ν) hZ (zbh (c := 0) (k := 0) hM (Nat.le_of_ble_eq_true rfl)) (x3 := 1) (by omega) (x4 := 0) (by omega)  (zconso rfl (zconso rfl (zconso rfl (zconso (zvo (show (1 : Int32) = i3 1 from rfl)) (zconso (zvo (show (0 : Int32) = i3 0 from rfl)) rfl))))) rfl ?_
      intro L23 y21 y22 hL23 gy21 gy22 q9
      replace hP := zl_e2 hP (Eq.symm q9)
      clear q9
      refine fc_372_5 (i3 y21) _ _ _ _ hL23 ?_
      refine sl_372_3 (ν := ν) hZ (zbh (c := 0) (k := 0) hM (Nat.le_of_ble_eq_true rfl)) (x3 := y21) (by omega) (x4 := 0) (by omega)  (zconso rfl (zconso rfl (zconso rfl (zconso (zvo (rfl : i3 y21 = i3 y21)) (zconso (zvo (show (0 : Int32) = i3 0 from rfl)) rfl))))) rfl ?_
      intro L26 y24 y25 hL26 gy24 gy25 q9
      replace hP := zl_e2 hP (Eq.symm q9)
      clear q9
      refine fc_372_4 (i3 y24) _ _ _ _ hL26 ?_
      refine wz_i1 (i3B (rfl : i3 y24 = i3 y24) (by omega)) ?_
      exact zlR hP (rfl : i3 y24 = i3 y24) ⟨by omega, by omega⟩
/- yX12_kQuarrelsSound -/
def zl_415_1 : Nat → qz_Z → Int → Int → Int × Int
  | 0, Z, x1, x2 => (x1, x2)
  | m + 1, Z, x1, x2 => (if (Z 2 0 0 3815) ≤ x2 then (x1, x2) else (if x1 = 0 then zl_415_1 m Z 0 (x2 + 1) else (if (Z 2 0 0 (3852 + 8 * x2)) ≠ 2 then (if (w3 ((w3 ((Z 2 0 0 (3854 + 8 * x2)) + (Z 2 0 0 (3855 + 8 * x2)))) + (Z 2 0 0 (3856 + 8 * x2)))) ≠ 0 then zl_415_1 m Z 0 (x2 + 1) else zl_415_1 m Z 1 (x2 + 1)) else (if (w3 ((w3 ((Z 2 0 0 (3854 + 8 * x2)) + (Z 2 0 0 (3855 + 8 * x2)))) + (Z 2 0 0 (3856 + 8 * x2)))) ≠ (Z 2 0 0 (3853 + 8 * x2)) then zl_415_1 m Z 0 (x2 + 1) else zl_415_1 m Z 1 (x2 + 1)))))
theorem sl_415_1 {s : zSM} {Z : qz_Z} {ν : qz_N} (hZ : zM s Z) (hM : s.2 + 0 ≤ 1000000000) {x1 : Int} (gx1 : 0 ≤ x1 ∧ x1 ≤ 1) {x2 : Int} (gx2 : 0 ≤ x2 ∧ x2 ≤ 12) {k : wz_K} {R : wz_R} {L : qz_L} (hL : qz_fg [true, true, true, false] L = [some (.inr (.inr (some (1, 0, 0)))), some (.inl (i3 x1)), some (.inl (i3 x2)), none]) {T : Int × Int} (hP : zE T (zl_415_1 ((12 - x2).toNat + 1) Z x1 x2)) (hk : ∀ (L9 : qz_L) (yx1 yx2 : Int), qz_fg [false, true, false, false] L9 = [none, some (.inl (i3 yx1)), none, none] → (0 ≤ yx1 ∧ yx1 ≤ 1) → (0 ≤ yx2 ∧ yx2 ≤ 12) → zE T ((yx1, yx2)) → k 0 (L9, [], zm Z ν)) : wz_loop qb_415_1 65536 k R (L, [], zm Z ν) := by
  refine wz_lp sb_415_1 (fun m x => ∃ x1 : Int, ∃ x2 : Int, qz_fg [true, true, true, false] x.1 = [some (.inr (.inr (some (1, 0, 0)))), some (.inl (i3 x1)), some (.inl (i3 x2)), none] ∧ x.2 = ([], zm Z ν) ∧ m = (12 - x2).toNat ∧ (0 ≤ x1 ∧ x1 ≤ 1) ∧ (0 ≤ x2 ∧ x2 ≤ 12) ∧ zE T (zl_415_1 (m + 1) Z x1 x2)) ?_ 65536 ((12 - x2).toNat) _ (by omega) ⟨x1, x2, hL, rfl, rfl, gx1, gx2, hP⟩
  clear hP gx1 gx2 hL
  clear x1 x2
  rintro m ⟨L, st, μ⟩ ⟨x1, x2, hL, hx, hm, gx1, gx2, hP⟩
  cases hx
  refine fb_415_1 (i3 x1) (i3 x2) _ _ _ _ hL ?_
  have r1 := zM_k hZ 2 0 0 3815 (lo := 0) (hi := 12) (by decide) rfl
  refine wz_br (i3Le (zm_rd (Z := Z) (ν := ν) (k := 2) (show ((0 : Nat) : Int) = 0 from rfl) (show ((0 : Nat) : Int) = 0 from rfl) (show ((3815 : Nat) : Int) = 3815 from rfl)) (rfl : i3 x2 = i3 x2) (by omega) (by omega) (by omega) (by omega)) (fun h2 => ?_) (fun h2 => ?_)
  · replace hP := zE_p hP h2
    exact hk _ _ _ (zconso rfl (zconso (zvo (rfl : i3 x1 = i3 x1)) (zconso rfl (zconso rfl rfl))))  (by omega) (by omega)  hP
  · replace hP := zE_n hP h2
    refine wz_i0 (i3O (n := 4400) (i3A (i3A (show (3850 : Int32) = i3 3850 from rfl) (i3M (show (8 : Int32) = i3 8 from rfl) (rfl : i3 x2 = i3 x2))) (show (4 : Int32) = i3 4 from rfl)) (by omega) (by omega) (by omega)) ?_
    refine wz_i0 (i3O (n := 4400) (i3A (i3A (show (3850 : Int32) = i3 3850 from rfl) (i3M (show (8 : Int32) = i3 8 from rfl) (rfl : i3 x2 = i3 x2))) (show (5 : Int32) = i3 5 from rfl)) (by omega) (by omega) (by omega)) ?_
    refine wz_i0 (i3O (n := 4400) (i3A (i3A (show (3850 : Int32) = i3 3850 from rfl) (i3M (show (8 : Int32) = i3 8 from rfl) (rfl : i3 x2 = i3 x2))) (show (6 : Int32) = i3 6 from rfl)) (by omega) (by omega) (by omega)) ?_
    refine wz_br (i3E (rfl : i3 x1 = i3 x1) (show (0 : Int32) = i3 0 from rfl) (by omega) (by omega) (by omega) (by omega)) (fun h3 => ?_) (fun h3 => ?_)
    · replace hP := zE_p hP h3
      obtain ⟨m2, rfl⟩ : ∃ m2, m = m2 + 1 := ⟨m - 1, by omega⟩
      exact wz_k1 ⟨m2, by omega, 0, (x2 + 1), (zconso rfl (zconso (zvo (show (0 : Int32) = i3 0 from rfl)) (zconso (zvo (i3A (rfl : i3 x2 = i3 x2) (show (1 : Int32) = i3 1 from rfl))) (zconso rfl rfl)))), rfl,  by omega, by omega, by omega,  hP⟩
    · replace hP := zE_n hP h3
      refine wz_i0 (i3O (n := 4400) (i3A (i3A (show (3850 : Int32) = i3 3850 from rfl) (i3M (show (8 : Int32) = i3 8 from rfl) (rfl : i3 x2 = i3 x2))) (show (2 : Int32) = i3 2 from rfl)) (by omega) (by omega) (by omega)) ?_
      have r4 := zM_k hZ 2 0 0 (3852 + 8 * x2) (lo := 0) (hi := 2) (by decide) (zs_3850_2 (x := x2) (by omega) (by omega) (by omega))
      refine wz_br (i3NE (zm_rd (Z := Z) (ν := ν) (k := 2) (show ((0 : Nat) : Int) = 0 from rfl) (show ((0 : Nat) : Int) = 0 from rfl) (i3I (y := (3852 + 8 * x2)) (i3A (i3A (show (3850 : Int32) = i3 3850 from rfl) (i3M (show (8 : Int32) = i3 8 from rfl) (rfl : i3 x2 = i3 x2))) (show (2 : Int32) = i3 2 from rfl)) (by omega) (by omega) (by omega))) (show (2 : Int32) = i3 2 from rfl) (by omega) (by omega) (by omega) (by omega)) (fun h5 => ?_) (fun h5 => ?_)
      · replace hP := zE_p hP h5
        have r6 := zM_f hZ 2 0 0 (3854 + 8 * x2)
        have r7 := zM_f hZ 2 0 0 (3855 + 8 * x2)
        have r8 := w3_r ((Z 2 0 0 (3854 + 8 * x2)) + (Z 2 0 0 (3855 + 8 * x2)))
        have r9 := zM_f hZ 2 0 0 (3856 + 8 * x2)
        have r10 := w3_r ((w3 ((Z 2 0 0 (3854 + 8 * x2)) + (Z 2 0 0 (3855 + 8 * x2)))) + (Z 2 0 0 (3856 + 8 * x2)))
        refine wz_br (i3NE (i3W (i3A (i3W (i3A (zm_rd (Z := Z) (ν := ν) (k := 2) (show ((0 : Nat) : Int) = 0 from rfl) (show ((0 : Nat) : Int) = 0 from rfl) (i3I (y := (3854 + 8 * x2)) (i3A (i3A (show (3850 : Int32) = i3 3850 from rfl) (i3M (show (8 : Int32) = i3 8 from rfl) (rfl : i3 x2 = i3 x2))) (show (4 : Int32) = i3 4 from rfl)) (by omega) (by omega) (by omega))) (zm_rd (Z := Z) (ν := ν) (k := 2) (show ((0 : Nat) : Int) = 0 from rfl) (show ((0 : Nat) : Int) = 0 from rfl) (i3I (y := (3855 + 8 * x2)) (i3A (i3A (show (3850 : Int32) = i3 3850 from rfl) (i3M (show (8 : Int32) = i3 8 from rfl) (rfl : i3 x2 = i3 x2))) (show (5 : Int32) = i3 5 from rfl)) (by omega) (by omega) (by omega))))) (zm_rd (Z := Z) (ν := ν) (k := 2) (show ((0 : Nat) : Int) = 0 from rfl) (show ((0 : Nat) : Int) = 0 from rfl) (i3I (y := (3856 + 8 * x2)) (i3A (i3A (show (3850 : Int32) = i3 3850 from rfl) (i3M (show (8 : Int32) = i3 8 from rfl) (rfl : i3 x2 = i3 x2))) (show (6 : Int32) = i3 6 from rfl)) (by omega) (by omega) (by omega))))) (show (0 : Int32) = i3 0 from rfl) (by omega) (by omega) (by omega) (by omega)) (fun h11 => ?_) (fun h11 => ?_)
        · replace hP := zE_p hP h11
          obtain ⟨m2, rfl⟩ : ∃ m2, m = m2 + 1 := ⟨m - 1, by omega⟩
          exact wz_k1 ⟨m2, by omega, 0, (x2 + 1), (zconso rfl (zconso (zvo (show (0 : Int32) = i3 0 from rfl)) (zconso (zvo (i3A (rfl : i3 x2 = i3 x2) (show (1 : Int32) = i3 1 from rfl))) (zconso rfl rfl)))), rfl,  by omega, by omega, by omega,  hP⟩
        · replace hP := zE_n hP h11
          obtain ⟨m2, rfl⟩ : ∃ m2, m = m2 + 1 := ⟨m - 1, by omega⟩
          exact wz_k1 ⟨m2, by omega, 1, (x2 + 1), (zconso rfl (zconso (zvo (show (1 : Int32) = i3 1 from rfl)) (zconso (zvo (i3A (rfl : i3 x2 = i3 x2) (show (1 : Int32) = i3 1 from rfl))) (zconso rfl rfl)))), rfl,  by omega, by omega, by omega,  hP⟩
      · replace hP := zE_n hP h5
        refine wz_i0 (i3O (n := 4400) (i3A (i3A (show (3850 : Int32) = i3 3850 from rfl) (i3M (show (8 : Int32) = i3 8 from rfl) (rfl : i3 x2 = i3 x2))) (show (3 : Int32) = i3 3 from rfl)) (by omega) (by omega) (by omega)) ?_
        have r12 := zM_f hZ 2 0 0 (3854 + 8 * x2)
        have r13 := zM_f hZ 2 0 0 (3855 + 8 * x2)
        have r14 := w3_r ((Z 2 0 0 (3854 + 8 * x2)) + (Z 2 0 0 (3855 + 8 * x2)))
        have r15 := zM_f hZ 2 0 0 (3856 + 8 * x2)
        have r16 := w3_r ((w3 ((Z 2 0 0 (3854 + 8 * x2)) + (Z 2 0 0 (3855 + 8 * x2)))) + (Z 2 0 0 (3856 + 8 * x2)))
        have r17 := zM_f hZ 2 0 0 (3853 + 8 * x2)
        refine wz_br (i3NE (i3W (i3A (i3W (i3A (zm_rd (Z := Z) (ν := ν) (k := 2) (show ((0 : Nat) : Int) = 0 from rfl) (show ((0 : Nat) : Int) = 0 from rfl) (i3I (y := (3854 + 8 * x2)) (i3A (i3A (show (3850 : Int32) = i3 3850 from rfl) (i3M (show (8 : Int32) = i3 8 from rfl) (rfl : i3 x2 = i3 x2))) (show (4 : Int32) = i3 4 from rfl)) (by omega) (by omega) (by omega))) (zm_rd (Z := Z) (ν := ν) (k := 2) (show ((0 : Nat) : Int) = 0 from rfl) (show ((0 : Nat) : Int) = 0 from rfl) (i3I (y := (3855 + 8 * x2)) (i3A (i3A (show (3850 : Int32) = i3 3850 from rfl) (i3M (show (8 : Int32) = i3 8 from rfl) (rfl : i3 x2 = i3 x2))) (show (5 : Int32) = i3 5 from rfl)) (by omega) (by omega) (by omega))))) (zm_rd (Z := Z) (ν := ν) (k := 2) (show ((0 : Nat) : Int) = 0 from rfl) (show ((0 : Nat) : Int) = 0 from rfl) (i3I (y := (3856 + 8 * x2)) (i3A (i3A (show (3850 : Int32) = i3 3850 from rfl) (i3M (show (8 : Int32) = i3 8 from rfl) (rfl : i3 x2 = i3 x2))) (show (6 : Int32) = i3 6 from rfl)) (by omega) (by omega) (by omega))))) (zm_rd (Z := Z) (ν := ν) (k := 2) (show ((0 : Nat) : Int) = 0 from rfl) (show ((0 : Nat) : Int) = 0 from rfl) (i3I (y := (3853 + 8 * x2)) (i3A (i3A (show (3850 : Int32) = i3 3850 from rfl) (i3M (show (8 : Int32) = i3 8 from rfl) (rfl : i3 x2 = i3 x2))) (show (3 : Int32) = i3 3 from rfl)) (by omega) (by omega) (by omega))) (by omega) (by omega) (by omega) (by omega)) (fun h18 => ?_) (fun h18 => ?_)
        · replace hP := zE_p hP h18
          obtain ⟨m2, rfl⟩ : ∃ m2, m = m2 + 1 := ⟨m - 1, by omega⟩
          exact wz_k1 ⟨m2, by omega, 0, (x2 + 1), (zconso rfl (zconso (zvo (show (0 : Int32) = i3 0 from rfl)) (zconso (zvo (i3A (rfl : i3 x2 = i3 x2) (show (1 : Int32) = i3 1 from rfl))) (zconso rfl rfl)))), rfl,  by omega, by omega, by omega,  hP⟩
        · replace hP := zE_n hP h18
          obtain ⟨m2, rfl⟩ : ∃ m2, m = m2 + 1 := ⟨m - 1, by omega⟩
          exact wz_k1 ⟨m2, by omega, 1, (x2 + 1), (zconso rfl (zconso (zvo (show (1 : Int32) = i3 1 from rfl)) (zconso (zvo (i3A (rfl : i3 x2 = i3 x2) (show (1 : Int32) = i3 1 from rfl))) (zconso rfl rfl)))), rfl,  by omega, by omega, by omega,  hP⟩
/- yX12_kQuarrelsSound -/
def zf_415 (Z : qz_Z) : Int := (zlet2 (zl_415_1 13 Z 1 0) (fun y1 y2 => y1))
theorem sp_415 {s : zSM} {Z : qz_Z} {ν : qz_N} (hZ : zM s Z) (hM : s.2 + 0 ≤ 1000000000) : ∃ P : Int, P = zf_415 Z ∧ (qf_415 [.inr (.inr (some (1, 0, 0)))] (zm Z ν) = some (zm Z ν, .inl (some (.inl (i3 P)))) ∧ 0 ≤ P ∧ P ≤ 1) := by
  obtain ⟨P, hP⟩ := zx (zf_415 Z)
  refine zc_R (Q := fun P => 0 ≤ P ∧ P ≤ 1) hP (fw_415  _ _ ?_)
  replace hP : zE P (zf_415 Z) := hP
  unfold zf_415 at hP
  refine sl_415_1 (ν := ν) hZ (zbh (c := 0) (k := 0) hM (Nat.le_of_ble_eq_true rfl)) (x1 := 1) (by omega) (x2 := 0) (by omega)  (zconso rfl (zconso (zvo (show (1 : Int32) = i3 1 from rfl)) (zconso (zvo (show (0 : Int32) = i3 0 from rfl)) (zconso rfl rfl)))) rfl ?_
  intro L3 y1 y2 hL3 gy1 gy2 q9
  replace hP := zl_e2 hP (Eq.symm q9)
  clear q9
  refine fc_415_2 (i3 y1) _ _ _ _ hL3 ?_
  refine wz_i1 (i3B (rfl : i3 y1 = i3 y1) (by omega)) ?_
  exact zlR hP (rfl : i3 y1 = i3 y1) ⟨by omega, by omega⟩
/- yX12_kSound -/
def zl_420_1 : Nat → qz_Z → Int → Int → Int × Int
  | 0, Z, x1, x2 => (x1, x2)
  | m + 1, Z, x1, x2 => (if 10 ≤ x2 then (x1, x2) else zl_420_1 m Z (w3 (x1 + (Z 2 0 0 (3800 + x2)))) (x2 + 1))
theorem sl_420_1 {s : zSM} {Z : qz_Z} {ν : qz_N} (hZ : zM s Z) (hM : s.2 + 0 ≤ 1000000000) {x1 : Int} (gx1 : -2147483648 ≤ x1 ∧ x1 ≤ 2147483647) {x2 : Int} (gx2 : 0 ≤ x2 ∧ x2 ≤ 10) {k : wz_K} {R : wz_R} {L : qz_L} (hL : qz_fg [true, true, true, false, false] L = [some (.inr (.inr (some (1, 0, 0)))), some (.inl (i3 x1)), some (.inl (i3 x2)), none, none]) {T : Int × Int} (hP : zE T (zl_420_1 ((10 - x2).toNat + 1) Z x1 x2)) (hk : ∀ (L9 : qz_L) (yx1 yx2 : Int), qz_fg [true, true, false, false, false] L9 = [some (.inr (.inr (some (1, 0, 0)))), some (.inl (i3 yx1)), none, none, none] → (-2147483648 ≤ yx1 ∧ yx1 ≤ 2147483647) → (0 ≤ yx2 ∧ yx2 ≤ 10) → zE T ((yx1, yx2)) → k 0 (L9, [], zm Z ν)) : wz_loop qb_420_1 65536 k R (L, [], zm Z ν) := by
  refine wz_lp sb_420_1 (fun m x => ∃ x1 : Int, ∃ x2 : Int, qz_fg [true, true, true, false, false] x.1 = [some (.inr (.inr (some (1, 0, 0)))), some (.inl (i3 x1)), some (.inl (i3 x2)), none, none] ∧ x.2 = ([], zm Z ν) ∧ m = (10 - x2).toNat ∧ (-2147483648 ≤ x1 ∧ x1 ≤ 2147483647) ∧ (0 ≤ x2 ∧ x2 ≤ 10) ∧ zE T (zl_420_1 (m + 1) Z x1 x2)) ?_ 65536 ((10 - x2).toNat) _ (by omega) ⟨x1, x2, hL, rfl, rfl, gx1, gx2, hP⟩
  clear hP gx1 gx2 hL
  clear x1 x2
  rintro m ⟨L, st, μ⟩ ⟨x1, x2, hL, hx, hm, gx1, gx2, hP⟩
  cases hx
  refine fb_420_1 (i3 x1) (i3 x2) _ _ _ _ hL ?_
  refine wz_br (i3Le (show (10 : Int32) = i3 10 from rfl) (rfl : i3 x2 = i3 x2) (by omega) (by omega) (by omega) (by omega)) (fun h1 => ?_) (fun h1 => ?_)
  · replace hP := zE_p hP h1
    exact hk _ _ _ (zconso rfl (zconso (zvo (rfl : i3 x1 = i3 x1)) (zconso rfl (zconso rfl (zconso rfl rfl)))))  (by omega) (by omega)  hP
  · replace hP := zE_n hP h1
    refine wz_i0 (i3O (n := 4400) (i3A (show (3800 : Int32) = i3 3800 from rfl) (rfl : i3 x2 = i3 x2)) (by omega) (by omega) (by omega)) ?_
    have r2 := zM_f hZ 2 0 0 (3800 + x2)
    have r3 := w3_r (x1 + (Z 2 0 0 (3800 + x2)))
    obtain ⟨m2, rfl⟩ : ∃ m2, m = m2 + 1 := ⟨m - 1, by omega⟩
    exact wz_k1 ⟨m2, by omega, (w3 (x1 + (Z 2 0 0 (3800 + x2)))), (x2 + 1), (zconso rfl (zconso (zvo (i3W (i3A (rfl : i3 x1 = i3 x1) (zm_rd (Z := Z) (ν := ν) (k := 2) (show ((0 : Nat) : Int) = 0 from rfl) (show ((0 : Nat) : Int) = 0 from rfl) (i3I (y := (3800 + x2)) (i3A (show (3800 : Int32) = i3 3800 from rfl) (rfl : i3 x2 = i3 x2)) (by omega) (by omega) (by omega)))))) (zconso (zvo (i3A (rfl : i3 x2 = i3 x2) (show (1 : Int32) = i3 1 from rfl))) (zconso rfl (zconso rfl rfl))))), rfl,  by omega, by omega, by omega,  hP⟩
/- yX12_kSound -/
def zl_420_2 (x1 : Int) : Nat → qz_Z → Int → Int → Int × Int
  | 0, Z, x2, x3 => (x2, x3)
  | m + 1, Z, x2, x3 => (if (Z 2 0 0 1400) ≤ x3 then (x2, x3) else (zlet (zf_289 Z x3) (fun v3 => zl_420_2 x1 m Z (w3 (x2 + (w3 ((Z 2 0 0 (1413 + 12 * x3)) - v3)))) (x3 + 1))))
theorem sl_420_2 {s : zSM} {Z : qz_Z} {ν : qz_N} (hZ : zM s Z) (hM : s.2 + 0 ≤ 1000000000) {x1 : Int} (gx1 : -2147483648 ≤ x1 ∧ x1 ≤ 2147483647) {x2 : Int} (gx2 : -2147483648 ≤ x2 ∧ x2 ≤ 2147483647) {x3 : Int} (gx3 : 0 ≤ x3 ∧ x3 ≤ 8) {k : wz_K} {R : wz_R} {L : qz_L} (hL : qz_fg [true, true, true, true, false] L = [some (.inr (.inr (some (1, 0, 0)))), some (.inl (i3 x1)), some (.inl (i3 x2)), some (.inl (i3 x3)), none]) {T : Int × Int} (hP : zE T (zl_420_2 x1 ((8 - x3).toNat + 1) Z x2 x3)) (hk : ∀ (L9 : qz_L) (yx2 yx3 : Int), qz_fg [true, true, true, false, false] L9 = [some (.inr (.inr (some (1, 0, 0)))), some (.inl (i3 x1)), some (.inl (i3 yx2)), none, none] → (-2147483648 ≤ yx2 ∧ yx2 ≤ 2147483647) → (0 ≤ yx3 ∧ yx3 ≤ 8) → zE T ((yx2, yx3)) → k 0 (L9, [], zm Z ν)) : wz_loop qb_420_2 65536 k R (L, [], zm Z ν) := by
  refine wz_lp sb_420_2 (fun m x => ∃ x2 : Int, ∃ x3 : Int, qz_fg [true, true, true, true, false] x.1 = [some (.inr (.inr (some (1, 0, 0)))), some (.inl (i3 x1)), some (.inl (i3 x2)), some (.inl (i3 x3)), none] ∧ x.2 = ([], zm Z ν) ∧ m = (8 - x3).toNat ∧ (-2147483648 ≤ x2 ∧ x2 ≤ 2147483647) ∧ (0 ≤ x3 ∧ x3 ≤ 8) ∧ zE T (zl_420_2 x1 (m + 1) Z x2 x3)) ?_ 65536 ((8 - x3).toNat) _ (by omega) ⟨x2, x3, hL, rfl, rfl, gx2, gx3, hP⟩
  clear hP gx2 gx3 hL
  clear x2 x3
  rintro m ⟨L, st, μ⟩ ⟨x2, x3, hL, hx, hm, gx2, gx3, hP⟩
  cases hx
  refine fb_420_2 (i3 x1) (i3 x2) (i3 x3) _ _ _ _ hL ?_
  have r1 := zM_k hZ 2 0 0 1400 (lo := 0) (hi := 8) (by decide) rfl
  refine wz_br (i3Le (zm_rd (Z := Z) (ν := ν) (k := 2) (show ((0 : Nat) : Int) = 0 from rfl) (show ((0 : Nat) : Int) = 0 from rfl) (show ((1400 : Nat) : Int) = 1400 from rfl)) (rfl : i3 x3 = i3 x3) (by omega) (by omega) (by omega) (by omega)) (fun h2 => ?_) (fun h2 => ?_)
  · replace hP := zE_p hP h2
    exact hk _ _ _ (zconso rfl (zconso (zvo (rfl : i3 x1 = i3 x1)) (zconso (zvo (rfl : i3 x2 = i3 x2)) (zconso rfl (zconso rfl rfl)))))  (by omega) (by omega)  hP
  · replace hP := zE_n hP h2
    refine wz_i0 (i3O (n := 4400) (i3A (i3A (show (1410 : Int32) = i3 1410 from rfl) (i3M (show (12 : Int32) = i3 12 from rfl) (rfl : i3 x3 = i3 x3))) (show (3 : Int32) = i3 3 from rfl)) (by omega) (by omega) (by omega)) ?_
    obtain ⟨v3, hv3, c9, lv3, uv3⟩ := sp_289 (ν := ν) hZ (a1 := x3) (by omega) (zbh (c := 0) (k := 0) hM (Nat.le_of_ble_eq_true rfl))
    replace hP := zl_e hP hv3
    refine wz_cI_of (zas (zcons rfl (zcons (zvi (rfl : i3 x3 = i3 x3)) rfl)) c9) ?_
    clear c9
    have r4 := zrs_e hv3
    have r5 := zM_f hZ 2 0 0 (1413 + 12 * x3)
    have r6 := w3_r ((Z 2 0 0 (1413 + 12 * x3)) - v3)
    have r7 := w3_r (x2 + (w3 ((Z 2 0 0 (1413 + 12 * x3)) - v3)))
    obtain ⟨m2, rfl⟩ : ∃ m2, m = m2 + 1 := ⟨m - 1, by omega⟩
    exact wz_k1 ⟨m2, by omega, (w3 (x2 + (w3 ((Z 2 0 0 (1413 + 12 * x3)) - v3)))), (x3 + 1), (zconso rfl (zconso (zvo (rfl : i3 x1 = i3 x1)) (zconso (zvo (i3W (i3A (rfl : i3 x2 = i3 x2) (i3W (i3S (zm_rd (Z := Z) (ν := ν) (k := 2) (show ((0 : Nat) : Int) = 0 from rfl) (show ((0 : Nat) : Int) = 0 from rfl) (i3I (y := (1413 + 12 * x3)) (i3A (i3A (show (1410 : Int32) = i3 1410 from rfl) (i3M (show (12 : Int32) = i3 12 from rfl) (rfl : i3 x3 = i3 x3))) (show (3 : Int32) = i3 3 from rfl)) (by omega) (by omega) (by omega))) (rfl : i3 v3 = i3 v3)))))) (zconso (zvo (i3A (rfl : i3 x3 = i3 x3) (show (1 : Int32) = i3 1 from rfl))) (zconso rfl rfl))))), rfl,  by omega, by omega, by omega,  hP⟩
/- yX12_kSound -/
def zl_420_3 (x1 : Int) (x2 : Int) : Nat → qz_Z → Int → Int → Int × Int
  | 0, Z, x3, x4 => (x3, x4)
  | m + 1, Z, x3, x4 => (if (Z 2 0 0 101) ≤ x4 then (x3, x4) else zl_420_3 x1 x2 m Z (w3 (x3 + (Z 2 0 0 (3820 + 5 * x4)))) (x4 + 1))
theorem sl_420_3 {s : zSM} {Z : qz_Z} {ν : qz_N} (hZ : zM s Z) (hM : s.2 + 0 ≤ 1000000000) {x1 : Int} (gx1 : -2147483648 ≤ x1 ∧ x1 ≤ 2147483647) {x2 : Int} (gx2 : -2147483648 ≤ x2 ∧ x2 ≤ 2147483647) {x3 : Int} (gx3 : -2147483648 ≤ x3 ∧ x3 ≤ 2147483647) {x4 : Int} (gx4 : 0 ≤ x4 ∧ x4 ≤ 6) {k : wz_K} {R : wz_R} {L : qz_L} (hL : qz_fg [true, true, true, true, true] L = [some (.inr (.inr (some (1, 0, 0)))), some (.inl (i3 x1)), some (.inl (i3 x2)), some (.inl (i3 x3)), some (.inl (i3 x4))]) {T : Int × Int} (hP : zE T (zl_420_3 x1 x2 ((6 - x4).toNat + 1) Z x3 x4)) (hk : ∀ (L9 : qz_L) (yx3 yx4 : Int), qz_fg [true, true, true, true, false] L9 = [some (.inr (.inr (some (1, 0, 0)))), some (.inl (i3 x1)), some (.inl (i3 x2)), some (.inl (i3 yx3)), none] → (-2147483648 ≤ yx3 ∧ yx3 ≤ 2147483647) → (0 ≤ yx4 ∧ yx4 ≤ 6) → zE T ((yx3, yx4)) → k 0 (L9, [], zm Z ν)) : wz_loop qb_420_3 65536 k R (L, [], zm Z ν) := by
  refine wz_lp sb_420_3 (fun m x => ∃ x3 : Int, ∃ x4 : Int, qz_fg [true, true, true, true, true] x.1 = [some (.inr (.inr (some (1, 0, 0)))), some (.inl (i3 x1)), some (.inl (i3 x2)), some (.inl (i3 x3)), some (.inl (i3 x4))] ∧ x.2 = ([], zm Z ν) ∧ m = (6 - x4).toNat ∧ (-2147483648 ≤ x3 ∧ x3 ≤ 2147483647) ∧ (0 ≤ x4 ∧ x4 ≤ 6) ∧ zE T (zl_420_3 x1 x2 (m + 1) Z x3 x4)) ?_ 65536 ((6 - x4).toNat) _ (by omega) ⟨x3, x4, hL, rfl, rfl, gx3, gx4, hP⟩
  clear hP gx3 gx4 hL
  clear x3 x4
  rintro m ⟨L, st, μ⟩ ⟨x3, x4, hL, hx, hm, gx3, gx4, hP⟩
  cases hx
  refine fb_420_3 (i3 x1) (i3 x2) (i3 x3) (i3 x4) _ _ _ _ hL ?_
  have r1 := zM_k hZ 2 0 0 101 (lo := 0) (hi := 6) (by decide) rfl
  refine wz_br (i3Le (zm_rd (Z := Z) (ν := ν) (k := 2) (show ((0 : Nat) : Int) = 0 from rfl) (show ((0 : Nat) : Int) = 0 from rfl) (show ((101 : Nat) : Int) = 101 from rfl)) (rfl : i3 x4 = i3 x4) (by omega) (by omega) (by omega) (by omega)) (fun h2 => ?_) (fun h2 => ?_)
  · replace hP := zE_p hP h2
    exact hk _ _ _ (zconso rfl (zconso (zvo (rfl : i3 x1 = i3 x1)) (zconso (zvo (rfl : i3 x2 = i3 x2)) (zconso (zvo (rfl : i3 x3 = i3 x3)) (zconso rfl rfl)))))  (by omega) (by omega)  hP
  · replace hP := zE_n hP h2
    refine wz_i0 (i3O (n := 4400) (i3A (i3A (show (3820 : Int32) = i3 3820 from rfl) (i3M (show (5 : Int32) = i3 5 from rfl) (rfl : i3 x4 = i3 x4))) (show (0 : Int32) = i3 0 from rfl)) (by omega) (by omega) (by omega)) ?_
    have r3 := zM_f hZ 2 0 0 (3820 + 5 * x4)
    have r4 := w3_r (x3 + (Z 2 0 0 (3820 + 5 * x4)))
    obtain ⟨m2, rfl⟩ : ∃ m2, m = m2 + 1 := ⟨m - 1, by omega⟩
    exact wz_k1 ⟨m2, by omega, (w3 (x3 + (Z 2 0 0 (3820 + 5 * x4)))), (x4 + 1), (zconso rfl (zconso (zvo (rfl : i3 x1 = i3 x1)) (zconso (zvo (rfl : i3 x2 = i3 x2)) (zconso (zvo (i3W (i3A (rfl : i3 x3 = i3 x3) (zm_rd (Z := Z) (ν := ν) (k := 2) (show ((0 : Nat) : Int) = 0 from rfl) (show ((0 : Nat) : Int) = 0 from rfl) (i3I (y := (3820 + 5 * x4)) (i3A (i3A (show (3820 : Int32) = i3 3820 from rfl) (i3M (show (5 : Int32) = i3 5 from rfl) (rfl : i3 x4 = i3 x4))) (show (0 : Int32) = i3 0 from rfl)) (by omega) (by omega) (by omega)))))) (zconso (zvo (i3A (rfl : i3 x4 = i3 x4) (show (1 : Int32) = i3 1 from rfl))) rfl))))), rfl,  by omega, by omega, by omega,  hP⟩
/- yX12_kSound -/
def zf_420 (Z : qz_Z) : Int := (zlet2 (zl_420_1 11 Z 0 0) (fun y1 y2 => (zlet2 (zl_420_2 y1 9 Z (Z 2 0 0 3801) 0) (fun y5 y6 => (zlet2 (zl_420_3 y1 y5 7 Z (Z 2 0 0 3802) 0) (fun y9 y10 => (if y1 ≠ 0 then 0 else (if y5 ≠ 0 then 0 else (if y9 ≠ 0 then 0 else (zlet (zf_415 Z) (fun v15 => (if v15 = 0 then 0 else 1))))))))))))
theorem sp_420 {s : zSM} {Z : qz_Z} {ν : qz_N} (hZ : zM s Z) (hM : s.2 + 0 ≤ 1000000000) : ∃ P : Int, P = zf_420 Z ∧ (qf_420 [.inr (.inr (some (1, 0, 0)))] (zm Z ν) = some (zm Z ν, .inl (some (.inl (i3 P)))) ∧ 0 ≤ P ∧ P ≤ 1) := by
  obtain ⟨P, hP⟩ := zx (zf_420 Z)
  refine zc_R (Q := fun P => 0 ≤ P ∧ P ≤ 1) hP (fw_420  _ _ ?_)
  replace hP : zE P (zf_420 Z) := hP
  unfold zf_420 at hP
  refine sl_420_1 (ν := ν) hZ (zbh (c := 0) (k := 0) hM (Nat.le_of_ble_eq_true rfl)) (x1 := 0) (by omega) (x2 := 0) (by omega)  (zconso rfl (zconso (zvo (show (0 : Int32) = i3 0 from rfl)) (zconso (zvo (show (0 : Int32) = i3 0 from rfl)) (zconso rfl (zconso rfl rfl))))) rfl ?_
  intro L3 y1 y2 hL3 gy1 gy2 q9
  replace hP := zl_e2 hP (Eq.symm q9)
  clear q9
  refine fc_420_6 (i3 y1) _ _ _ _ hL3 ?_
  have r4 := zM_f hZ 2 0 0 3801
  refine sl_420_2 (ν := ν) hZ (zbh (c := 0) (k := 0) hM (Nat.le_of_ble_eq_true rfl)) (x1 := y1) (by omega) (x2 := (Z 2 0 0 3801)) (by omega) (x3 := 0) (by omega)  (zconso rfl (zconso (zvo (rfl : i3 y1 = i3 y1)) (zconso (zvo (zm_rd (Z := Z) (ν := ν) (k := 2) (show ((0 : Nat) : Int) = 0 from rfl) (show ((0 : Nat) : Int) = 0 from rfl) (show ((3801 : Nat) : Int) = 3801 from rfl))) (zconso (zvo (show (0 : Int32) = i3 0 from rfl)) (zconso rfl rfl))))) rfl ?_
  intro L7 y5 y6 hL7 gy5 gy6 q9
  replace hP := zl_e2 hP (Eq.symm q9)
  clear q9
  refine fc_420_5 (i3 y1) (i3 y5) _ _ _ _ hL7 ?_
  have r8 := zM_f hZ 2 0 0 3802
  refine sl_420_3 (ν := ν) hZ (zbh (c := 0) (k := 0) hM (Nat.le_of_ble_eq_true rfl)) (x1 := y1) (by omega) (x2 := y5) (by omega) (x3 := (Z 2 0 0 3802)) (by omega) (x4 := 0) (by omega)  (zconso rfl (zconso (zvo (rfl : i3 y1 = i3 y1)) (zconso (zvo (rfl : i3 y5 = i3 y5)) (zconso (zvo (zm_rd (Z := Z) (ν := ν) (k := 2) (show ((0 : Nat) : Int) = 0 from rfl) (show ((0 : Nat) : Int) = 0 from rfl) (show ((3802 : Nat) : Int) = 3802 from rfl))) (zconso (zvo (show (0 : Int32) = i3 0 from rfl)) rfl))))) rfl ?_
  intro L11 y9 y10 hL11 gy9 gy10 q9
  replace hP := zl_e2 hP (Eq.symm q9)
  clear q9
  refine fc_420_4 (i3 y1) (i3 y5) (i3 y9) _ _ _ _ hL11 ?_
  refine wz_br (i3NE (rfl : i3 y1 = i3 y1) (show (0 : Int32) = i3 0 from rfl) (by omega) (by omega) (by omega) (by omega)) (fun h12 => ?_) (fun h12 => ?_)
  · replace hP := zE_p hP h12
    exact zlR hP (show (0 : Int32) = i3 0 from rfl) ⟨by omega, by omega⟩
  · replace hP := zE_n hP h12
    refine wz_br (i3NE (rfl : i3 y5 = i3 y5) (show (0 : Int32) = i3 0 from rfl) (by omega) (by omega) (by omega) (by omega)) (fun h13 => ?_) (fun h13 => ?_)
    · replace hP := zE_p hP h13
      exact zlR hP (show (0 : Int32) = i3 0 from rfl) ⟨by omega, by omega⟩
    · replace hP := zE_n hP h13
      refine wz_br (i3NE (rfl : i3 y9 = i3 y9) (show (0 : Int32) = i3 0 from rfl) (by omega) (by omega) (by omega) (by omega)) (fun h14 => ?_) (fun h14 => ?_)
      · replace hP := zE_p hP h14
        exact zlR hP (show (0 : Int32) = i3 0 from rfl) ⟨by omega, by omega⟩
      · replace hP := zE_n hP h14
        obtain ⟨v15, hv15, c9, lv15, uv15⟩ := sp_415 (ν := ν) hZ (zbh (c := 0) (k := 0) hM (Nat.le_of_ble_eq_true rfl))
        replace hP := zl_e hP hv15
        refine wz_cI_of (zas (zcons rfl rfl) c9) ?_
        clear c9
        refine wz_br (i3E (rfl : i3 v15 = i3 v15) (show (0 : Int32) = i3 0 from rfl) (by omega) (by omega) (by omega) (by omega)) (fun h16 => ?_) (fun h16 => ?_)
        · replace hP := zE_p hP h16
          exact zlR hP (show (0 : Int32) = i3 0 from rfl) ⟨by omega, by omega⟩
        · replace hP := zE_n hP h16
          exact zlR hP (show (1 : Int32) = i3 1 from rfl) ⟨by omega, by omega⟩
