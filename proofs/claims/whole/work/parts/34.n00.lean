/- yX12_cFindStart -/
def zl_299_1 (x1 : Int) (x2 : Int) (x3 : Int) : Nat → qz_Z → Int → qz_Z × Int
  | 0, Z, x4 => (Z, x4)
  | m + 1, Z, x4 => (if 200 < x4 then (Z, x4) else (if 9999 < (x3 + (x4 * (Z 2 0 0 (3013 + 60 * x1)))) then (Z, x4) else (zlet (zf_351 Z 0) (fun Z7 => (zlet (zu Z7 2 0 0 (3022 + 60 * x1) x2) (fun Z8 => (zlet (zu Z8 2 0 0 (3023 + 60 * x1) (x3 + (x4 * (Z 2 0 0 (3013 + 60 * x1))))) (fun Z9 => (zlet (zu Z9 2 0 0 (3024 + 60 * x1) x3) (fun Z11 => (zlet (zu Z11 2 0 0 (3015 + 60 * x1) 1) (fun Z14 => (zlet (zf_309 Z14 x1) (fun Z28 => (zlet (zf_493 Z28 0) (fun Z29 => (if (w3 ((Z28 2 0 0 (3021 + 60 * x1)) - (Z7 2 0 0 (3021 + 60 * x1)))) ≤ (Z29 1 0 0 20) then (zlet (zu Z29 1 0 0 21 (Z29 1 0 0 21)) (fun Z36 => (if (w3 ((Z28 2 0 0 (3021 + 60 * x1)) - (Z7 2 0 0 (3021 + 60 * x1)))) ≤ (Z36 1 0 0 20) then (zlet (zu Z36 1 0 0 20 (Z36 1 0 0 20)) (fun Z40 => zl_299_1 x1 x2 x3 m Z40 (x4 + 1))) else (zlet (zu Z36 1 0 0 20 (w3 ((Z28 2 0 0 (3021 + 60 * x1)) - (Z7 2 0 0 (3021 + 60 * x1))))) (fun Z41 => zl_299_1 x1 x2 x3 m Z41 (x4 + 1)))))) else (zlet (zu Z29 1 0 0 21 (x3 + (x4 * (Z 2 0 0 (3013 + 60 * x1))))) (fun Z42 => (if (w3 ((Z28 2 0 0 (3021 + 60 * x1)) - (Z7 2 0 0 (3021 + 60 * x1)))) ≤ (Z42 1 0 0 20) then (zlet (zu Z42 1 0 0 20 (Z42 1 0 0 20)) (fun Z46 => zl_299_1 x1 x2 x3 m Z46 (x4 + 1))) else (zlet (zu Z42 1 0 0 20 (w3 ((Z28 2 0 0 (3021 + 60 * x1)) - (Z7 2 0 0 (3021 + 60 * x1))))) (fun Z47 => zl_299_1 x1 x2 x3 m Z47 (x4 + 1)))))))))))))))))))))))
theorem sl_299_1 {s : zSM} {xM9 : Nat} {Zs Z : qz_Z} {ν : qz_N} (hZ : zM (zb s xM9) Z) (hM : s.2 + 16564 ≤ 1000000000) (hK : zC [1, 2, 81, 1200] Zs Z) {x1 : Int} (gx1 : 0 ≤ x1 ∧ x1 ≤ 1) {x2 : Int} (gx2 : 0 ≤ x2 ∧ x2 ≤ 47) {x3 : Int} (gx3 : 1 ≤ x3 ∧ x3 ≤ 9999) {x4 : Int} (gx4 : 0 ≤ x4 ∧ x4 ≤ 201) (hU : zU [] Zs Z) (hx9 : xM9 + 82 * ((201 - x4).toNat) + 82 ≤ 16564) {k : wz_K} {R : wz_R} {L : qz_L} (hL : qz_fg [true, true, true, true, true, false, false, false] L = [some (.inr (.inr (some (1, 0, 0)))), some (.inl (i3 x1)), some (.inl (i3 x2)), some (.inl (i3 x3)), some (.inl (i3 x4)), none, none, none]) {T : qz_Z × Int} (hP : zE T (zl_299_1 x1 x2 x3 ((201 - x4).toNat + 1) Z x4)) (hk : ∀ (L9 : qz_L) (Z9 : qz_Z) (yx4 : Int), qz_fg [false, false, false, false, false, false, false, false] L9 = [none, none, none, none, none, none, none, none] → zM (zb s 16564) Z9 → zC [1, 2, 81, 1200] Zs Z9 → zU [] Zs Z9 → (0 ≤ yx4 ∧ yx4 ≤ 201) → zE T ((Z9, yx4)) → k 0 (L9, [], zm Z9 ν)) : wz_loop qb_299_1 65536 k R (L, [], zm Z ν) := by
  refine wz_lp sb_299_1 (fun m x => ∃ xM9 : Nat, ∃ Z : qz_Z, ∃ x4 : Int, qz_fg [true, true, true, true, true, false, false, false] x.1 = [some (.inr (.inr (some (1, 0, 0)))), some (.inl (i3 x1)), some (.inl (i3 x2)), some (.inl (i3 x3)), some (.inl (i3 x4)), none, none, none] ∧ x.2 = ([], zm Z ν) ∧ xM9 + 82 * m + 82 ≤ 16564 ∧ zM (zb s xM9) Z ∧ zC [1, 2, 81, 1200] Zs Z ∧ zU [] Zs Z ∧ m = (201 - x4).toNat ∧ (0 ≤ x4 ∧ x4 ≤ 201) ∧ zE T (zl_299_1 x1 x2 x3 (m + 1) Z x4)) ?_ 65536 ((201 - x4).toNat) _ (by omega) ⟨xM9, Z, x4, hL, rfl, hx9, hZ, hK, hU, rfl, gx4, hP⟩
  clear hP gx4 hx9 hZ hK hU hL
  clear x4
  clear Z
  clear xM9
  rintro m ⟨L, st, μ⟩ ⟨xM9, Z, x4, hL, hx, hx9, hZ, hK, hU, hm, gx4, hP⟩
  cases hx
  have hM9 : (zb s xM9).2 + 82 ≤ 1000000000 := by
    show s.2 + xM9 + 82 ≤ 1000000000
    omega
  refine fb_299_1 (i3 x1) (i3 x2) (i3 x3) (i3 x4) _ _ _ _ hL ?_
  refine wz_br (i3L (show (200 : Int32) = i3 200 from rfl) (rfl : i3 x4 = i3 x4) (by omega) (by omega) (by omega) (by omega)) (fun h1 => ?_) (fun h1 => ?_)
  · replace hP := zE_p hP h1
    exact hk _ _ _ (zconso rfl (zconso rfl (zconso rfl (zconso rfl (zconso rfl (zconso rfl (zconso rfl (zconso rfl rfl)))))))) (zmx0 hZ (by omega)) hK hU (by omega)  hP
  · replace hP := zE_n hP h1
    refine wz_i0 (i3O (n := 4400) (i3A (i3A (show (3010 : Int32) = i3 3010 from rfl) (i3M (show (60 : Int32) = i3 60 from rfl) (rfl : i3 x1 = i3 x1))) (show (3 : Int32) = i3 3 from rfl)) (by omega) (by omega) (by omega)) ?_
    have r2 := zM_k hZ 2 0 0 (3013 + 60 * x1) (lo := 0) (hi := 500) (by decide) (zs_3010_3 (x := (x1 + 0)) (by omega) (by omega) (by omega))
    have r3 := zM_cs hZ x1
    have r4 := zM_k hZ 2 0 0 3000 (lo := 0) (hi := 2) (by decide) rfl
    have r5 := z_mul (x := x4) (y := (Z 2 0 0 (3013 + 60 * x1))) (a := 200) (b := 500) (by omega) (by omega) (by omega) (by omega)
    refine wz_br (i3L (show (9999 : Int32) = i3 9999 from rfl) (i3A (rfl : i3 x3 = i3 x3) (i3M (rfl : i3 x4 = i3 x4) (zm_rd (Z := Z) (ν := ν) (k := 2) (show ((0 : Nat) : Int) = 0 from rfl) (show ((0 : Nat) : Int) = 0 from rfl) (i3I (y := (3013 + 60 * x1)) (i3A (i3A (show (3010 : Int32) = i3 3010 from rfl) (i3M (show (60 : Int32) = i3 60 from rfl) (rfl : i3 x1 = i3 x1))) (show (3 : Int32) = i3 3 from rfl)) (by omega) (by omega) (by omega))))) (by omega) (by omega) (by omega) (by omega)) (fun h6 => ?_) (fun h6 => ?_)
    · replace hP := zE_p hP h6
      exact hk _ _ _ (zconso rfl (zconso rfl (zconso rfl (zconso rfl (zconso rfl (zconso rfl (zconso rfl (zconso rfl rfl)))))))) (zmx0 hZ (by omega)) hK hU (by omega)  hP
    · replace hP := zE_n hP h6
      refine wz_i0 (i3O (n := 4400) (i3A (i3A (show (3010 : Int32) = i3 3010 from rfl) (i3M (show (60 : Int32) = i3 60 from rfl) (rfl : i3 x1 = i3 x1))) (show (3 : Int32) = i3 3 from rfl)) (by omega) (by omega) (by omega)) ?_
      obtain ⟨Z7, hZ7, c9, hZ7I, kZ7, jZ7⟩ := sp_351 (ν := ν) hZ (a1 := 0) (by omega) (zbh (c := 0) (k := 0) hM9 (Nat.le_of_ble_eq_true rfl))
      have hZ7U : zU [] Zs Z7 := zU_t hU jZ7 zU_b0
      have hZ7K : zC [1, 2, 81, 1200] Zs Z7 := zC_t hK kZ7 (by decide)
      replace hP := zl_e hP hZ7
      refine wz_cV_of (zas (zcons rfl (zcons (zvi (show (0 : Int32) = i3 0 from rfl)) rfl)) c9) ?_
      clear c9
      refine wz_i0 (i3O (n := 4400) (i3A (i3A (show (3010 : Int32) = i3 3010 from rfl) (i3M (show (60 : Int32) = i3 60 from rfl) (rfl : i3 x1 = i3 x1))) (show (11 : Int32) = i3 11 from rfl)) (by omega) (by omega) (by omega)) ?_
      refine wz_i0 (i3O (n := 4400) (i3A (i3A (i3A (i3A (show (3010 : Int32) = i3 3010 from rfl) (i3M (show (60 : Int32) = i3 60 from rfl) (rfl : i3 x1 = i3 x1))) (show (12 : Int32) = i3 12 from rfl)) (show (0 : Int32) = i3 0 from rfl)) (show (0 : Int32) = i3 0 from rfl)) (by omega) (by omega) (by omega)) ?_
      obtain ⟨Z8, hZ8⟩ := zx (zu Z7 2 0 0 (3022 + 60 * x1) x2)
      replace hP := zl_e hP hZ8
      have hZ8I := zM_u2 hZ7I hZ8 (lo := 0) (hi := 47) (zs_3010_12 (x := (x1 + 0)) (by omega) (by omega) (by omega)) (by omega) ⟨by decide, by decide⟩ (by simp only [zsp]; omega)
      have hZ8U : zU [] Zs Z8 := zU_u hZ7U hZ8 (Or.inl rfl)
      have hZ8K : zC [1, 2, 81, 1200] Zs Z8 := zC_u hZ7K hZ8 (zcl_2w (by omega) rfl)
      intro μ9 e9
      replace e9 := e9.trans (zm_wI (Z := Z7) (ν := ν) hZ8 (show ((0 : Nat) : Int) = 0 from rfl) (show ((0 : Nat) : Int) = 0 from rfl) (i3I (y := (3022 + 60 * x1)) (i3A (i3A (i3A (i3A (show (3010 : Int32) = i3 3010 from rfl) (i3M (show (60 : Int32) = i3 60 from rfl) (rfl : i3 x1 = i3 x1))) (show (12 : Int32) = i3 12 from rfl)) (show (0 : Int32) = i3 0 from rfl)) (show (0 : Int32) = i3 0 from rfl)) (by omega) (by omega) (by omega)) (rfl : i3 x2 = i3 x2))
      subst e9
      refine wz_i0 (i3O (n := 4400) (i3A (i3A (i3A (i3A (show (3010 : Int32) = i3 3010 from rfl) (i3M (show (60 : Int32) = i3 60 from rfl) (rfl : i3 x1 = i3 x1))) (show (12 : Int32) = i3 12 from rfl)) (show (0 : Int32) = i3 0 from rfl)) (show (1 : Int32) = i3 1 from rfl)) (by omega) (by omega) (by omega)) ?_
      obtain ⟨Z9, hZ9⟩ := zx (zu Z8 2 0 0 (3023 + 60 * x1) (x3 + (x4 * (Z 2 0 0 (3013 + 60 * x1)))))
      replace hP := zl_e hP hZ9
      have r10 := zM_k hZ8I 2 0 0 (3015 + 60 * x1) (lo := 0) (hi := 12) (by decide) (zs_3010_5 (x := (x1 + 0)) (by omega) (by omega) (by omega))
      have hZ9I := zM_lw2 hZ8I hZ9 (lo := 0) (hi := 9999) (zs_3010_13 (x := (x1 + 0)) (by omega) (by omega) (by omega)) (by omega) ⟨by decide, by decide⟩ (c := x1) (p := 0) (by omega) (by omega) (by omega) (by omega)
      have hZ9U : zU [] Zs Z9 := zU_u hZ8U hZ9 (Or.inl rfl)
      have hZ9K : zC [1, 2, 81, 1200] Zs Z9 := zC_u hZ8K hZ9 (zcl_2w (by omega) rfl)
      intro μ9 e9
      replace e9 := e9.trans (zm_wI (Z := Z8) (ν := ν) hZ9 (show ((0 : Nat) : Int) = 0 from rfl) (show ((0 : Nat) : Int) = 0 from rfl) (i3I (y := (3023 + 60 * x1)) (i3A (i3A (i3A (i3A (show (3010 : Int32) = i3 3010 from rfl) (i3M (show (60 : Int32) = i3 60 from rfl) (rfl : i3 x1 = i3 x1))) (show (12 : Int32) = i3 12 from rfl)) (show (0 : Int32) = i3 0 from rfl)) (show (1 : Int32) = i3 1 from rfl)) (by omega) (by omega) (by omega)) (i3A (rfl : i3 x3 = i3 x3) (i3M (rfl : i3 x4 = i3 x4) (zm_rd (Z := Z) (ν := ν) (k := 2) (show ((0 : Nat) : Int) = 0 from rfl) (show ((0 : Nat) : Int) = 0 from rfl) (i3I (y := (3013 + 60 * x1)) (i3A (i3A (show (3010 : Int32) = i3 3010 from rfl) (i3M (show (60 : Int32) = i3 60 from rfl) (rfl : i3 x1 = i3 x1))) (show (3 : Int32) = i3 3 from rfl)) (by omega) (by omega) (by omega))))))
      subst e9
      refine wz_i0 (i3O (n := 4400) (i3A (i3A (i3A (i3A (show (3010 : Int32) = i3 3010 from rfl) (i3M (show (60 : Int32) = i3 60 from rfl) (rfl : i3 x1 = i3 x1))) (show (12 : Int32) = i3 12 from rfl)) (show (0 : Int32) = i3 0 from rfl)) (show (2 : Int32) = i3 2 from rfl)) (by omega) (by omega) (by omega)) ?_
      obtain ⟨Z11, hZ11⟩ := zx (zu Z9 2 0 0 (3024 + 60 * x1) x3)
      replace hP := zl_e hP hZ11
      have r12 := zM_k hZ9I 2 0 0 (3015 + 60 * x1) (lo := 0) (hi := 12) (by decide) (zs_3010_5 (x := (x1 + 0)) (by omega) (by omega) (by omega))
      have q13 := zu_ne (k' := 2) (b' := 0) (i' := 0) (j' := (3015 + 60 * x1)) hZ9 (fun q => absurd q.2.2.2 (by omega))
      have hZ11I := zM_lw2 hZ9I hZ11 (lo := 0) (hi := 9999) (zs_3010_14 (x := (x1 + 0)) (by omega) (by omega) (by omega)) (by omega) ⟨by decide, by decide⟩ (c := x1) (p := 0) (by omega) (by omega) (by omega) (by omega)
      have hZ11U : zU [] Zs Z11 := zU_u hZ9U hZ11 (Or.inl rfl)
      have hZ11K : zC [1, 2, 81, 1200] Zs Z11 := zC_u hZ9K hZ11 (zcl_2w (by omega) rfl)
      intro μ9 e9
      replace e9 := e9.trans (zm_wI (Z := Z9) (ν := ν) hZ11 (show ((0 : Nat) : Int) = 0 from rfl) (show ((0 : Nat) : Int) = 0 from rfl) (i3I (y := (3024 + 60 * x1)) (i3A (i3A (i3A (i3A (show (3010 : Int32) = i3 3010 from rfl) (i3M (show (60 : Int32) = i3 60 from rfl) (rfl : i3 x1 = i3 x1))) (show (12 : Int32) = i3 12 from rfl)) (show (0 : Int32) = i3 0 from rfl)) (show (2 : Int32) = i3 2 from rfl)) (by omega) (by omega) (by omega)) (rfl : i3 x3 = i3 x3))
      subst e9
      refine wz_i0 (i3O (n := 4400) (i3A (i3A (show (3010 : Int32) = i3 3010 from rfl) (i3M (show (60 : Int32) = i3 60 from rfl) (rfl : i3 x1 = i3 x1))) (show (5 : Int32) = i3 5 from rfl)) (by omega) (by omega) (by omega)) ?_
      obtain ⟨Z14, hZ14⟩ := zx (zu Z11 2 0 0 (3015 + 60 * x1) 1)
      replace hP := zl_e hP hZ14
      have r15 := zM_k hZ11I 2 0 0 (3015 + 60 * x1) (lo := 0) (hi := 12) (by decide) (zs_3010_5 (x := (x1 + 0)) (by omega) (by omega) (by omega))
      have q16 := zu_ne (k' := 2) (b' := 0) (i' := 0) (j' := (3015 + 60 * x1)) hZ11 (fun q => absurd q.2.2.2 (by omega))
      have r17 := zM_k hZ11I 2 0 0 3000 (lo := 0) (hi := 2) (by decide) rfl
      have q18 := (zu_ne (k' := 2) (b' := 0) (i' := 0) (j' := 3000) hZ11 (fun q => absurd q.2.2.2 (by omega))).trans ((zu_ne (k' := 2) (b' := 0) (i' := 0) (j' := 3000) hZ9 (fun q => absurd q.2.2.2 (by omega))).trans ((zu_ne (k' := 2) (b' := 0) (i' := 0) (j' := 3000) hZ8 (fun q => absurd q.2.2.2 (by omega))).trans (kZ7 2 0 0 3000 (by decide))))
      have r19 := zM_k hZ11I 2 0 0 (3023 + 60 * x1) (lo := 0) (hi := 9999) (by decide) (zs_3010_13 (x := (x1 + 0)) (by omega) (by omega) (by omega))
      have q20 := (zu_ne (k' := 2) (b' := 0) (i' := 0) (j' := (3023 + 60 * x1)) hZ11 (fun q => absurd q.2.2.2 (by omega))).trans (zu_at hZ9)
      have r21 := zM_k hZ11I 2 0 0 (3024 + 60 * x1) (lo := 0) (hi := 9999) (by decide) (zs_3010_14 (x := (x1 + 0)) (by omega) (by omega) (by omega))
      have q22 := zu_at hZ11
      have r23 := zM_k hZ11I 2 0 0 (3013 + 60 * x1) (lo := 0) (hi := 500) (by decide) (zs_3010_3 (x := (x1 + 0)) (by omega) (by omega) (by omega))
      have r24 := zM_cs hZ11I x1
      have q25 := (zu_ne (k' := 2) (b' := 0) (i' := 0) (j' := (3013 + 60 * x1)) hZ11 (fun q => absurd q.2.2.2 (by omega))).trans ((zu_ne (k' := 2) (b' := 0) (i' := 0) (j' := (3013 + 60 * x1)) hZ9 (fun q => absurd q.2.2.2 (by omega))).trans ((zu_ne (k' := 2) (b' := 0) (i' := 0) (j' := (3013 + 60 * x1)) hZ8 (fun q => absurd q.2.2.2 (by omega))).trans (kZ7 2 0 0 (3013 + 60 * x1) (zcl_2r (by omega) rfl))))
      have hZ14I := zM_ln2 hZ11I hZ14 (c := x1) (p := 0) (by omega) (by omega) (by omega) (by omega)
      have hZ14U : zU [] Zs Z14 := zU_u hZ11U hZ14 (Or.inl rfl)
      have hZ14K : zC [1, 2, 81, 1200] Zs Z14 := zC_u hZ11K hZ14 (zcl_2w (by omega) rfl)
      intro μ9 e9
      replace e9 := e9.trans (zm_wI (Z := Z11) (ν := ν) hZ14 (show ((0 : Nat) : Int) = 0 from rfl) (show ((0 : Nat) : Int) = 0 from rfl) (i3I (y := (3015 + 60 * x1)) (i3A (i3A (show (3010 : Int32) = i3 3010 from rfl) (i3M (show (60 : Int32) = i3 60 from rfl) (rfl : i3 x1 = i3 x1))) (show (5 : Int32) = i3 5 from rfl)) (by omega) (by omega) (by omega)) (show (1 : Int32) = i3 1 from rfl))
      subst e9
      have r26 := zM_k hZ14I 2 0 0 (3015 + 60 * x1) (lo := 0) (hi := 12) (by decide) (zs_3010_5 (x := (x1 + 0)) (by omega) (by omega) (by omega))
      have q27 := zu_at hZ14
      obtain ⟨Z28, hZ28, c9, hZ28I, kZ28, jZ28⟩ := sp_309 (ν := ν) hZ14I (a1 := x1) (by omega) (by omega) (zbh (c := 0) (k := 82) hM9 (Nat.le_of_ble_eq_true rfl))
      have hZ28U : zU [] Zs Z28 := zU_t hZ14U jZ28 zU_b0
      have hZ28K : zC [1, 2, 81, 1200] Zs Z28 := zC_t hZ14K kZ28 (by decide)
      replace hP := zl_e hP hZ28
      refine wz_cV_of (zas (zcons rfl (zcons (zvi (rfl : i3 x1 = i3 x1)) rfl)) c9) ?_
      clear c9
      refine wz_i0 (i3O (n := 4400) (i3A (i3A (show (3010 : Int32) = i3 3010 from rfl) (i3M (show (60 : Int32) = i3 60 from rfl) (rfl : i3 x1 = i3 x1))) (show (11 : Int32) = i3 11 from rfl)) (by omega) (by omega) (by omega)) ?_
      obtain ⟨Z29, hZ29, c9, hZ29I, kZ29, jZ29⟩ := sp_493 (ν := ν) hZ28I (a1 := 0) (by omega) (zbh (c := 82) (k := 0) hM9 (Nat.le_of_ble_eq_true rfl))
      have hZ29U : zU [] Zs Z29 := zU_t hZ28U jZ29 zU_b0
      have hZ29K : zC [1, 2, 81, 1200] Zs Z29 := zC_t hZ28K kZ29 (by decide)
      replace hP := zl_e hP hZ29
      refine wz_cV_of (zas (zcons rfl (zcons (zvi (show (0 : Int32) = i3 0 from rfl)) rfl)) c9) ?_
      clear c9
      have r30 := zM_f hZ28I 2 0 0 (3021 + 60 * x1)
      have r31 := zM_f hZ7I 2 0 0 (3021 + 60 * x1)
      have r32 := w3_r ((Z28 2 0 0 (3021 + 60 * x1)) - (Z7 2 0 0 (3021 + 60 * x1)))
      have r33 := zM_f hZ29I 1 0 0 20
      refine wz_br (i3Le (i3W (i3S (zm_rd (Z := Z28) (ν := ν) (k := 2) (show ((0 : Nat) : Int) = 0 from rfl) (show ((0 : Nat) : Int) = 0 from rfl) (i3I (y := (3021 + 60 * x1)) (i3A (i3A (show (3010 : Int32) = i3 3010 from rfl) (i3M (show (60 : Int32) = i3 60 from rfl) (rfl : i3 x1 = i3 x1))) (show (11 : Int32) = i3 11 from rfl)) (by omega) (by omega) (by omega))) (zm_rd (Z := Z7) (ν := ν) (k := 2) (show ((0 : Nat) : Int) = 0 from rfl) (show ((0 : Nat) : Int) = 0 from rfl) (i3I (y := (3021 + 60 * x1)) (i3A (i3A (show (3010 : Int32) = i3 3010 from rfl) (i3M (show (60 : Int32) = i3 60 from rfl) (rfl : i3 x1 = i3 x1))) (show (11 : Int32) = i3 11 from rfl)) (by omega) (by omega) (by omega))))) (zm_rd (Z := Z29) (ν := ν) (k := 1) (show ((0 : Nat) : Int) = 0 from rfl) (show ((0 : Nat) : Int) = 0 from rfl) (show ((20 : Nat) : Int) = 20 from rfl)) (by omega) (by omega) (by omega) (by omega)) (fun h34 => ?_) (fun h34 => ?_)
      · replace hP := zE_p hP h34
        have r35 := zM_f hZ29I 1 0 0 21
        obtain ⟨Z36, hZ36⟩ := zx (zu Z29 1 0 0 21 (Z29 1 0 0 21))
        replace hP := zl_e hP hZ36
        have hZ36I := zM_u hZ29I hZ36 (lo := -2147483648) (hi := 2147483647) (by decide) rfl (by omega) ⟨by decide, by decide⟩ (Or.inr (by decide)) rfl
        have hZ36U : zU [] Zs Z36 := zU_u hZ29U hZ36 (Or.inl rfl)
        have hZ36K : zC [1, 2, 81, 1200] Zs Z36 := zC_u hZ29K hZ36 (by decide)
        intro μ9 e9
        replace e9 := e9.trans (zm_wI (Z := Z29) (ν := ν) hZ36 (show ((0 : Nat) : Int) = 0 from rfl) (show ((0 : Nat) : Int) = 0 from rfl) (show ((21 : Nat) : Int) = 21 from rfl) (zm_rd (Z := Z29) (ν := ν) (k := 1) (show ((0 : Nat) : Int) = 0 from rfl) (show ((0 : Nat) : Int) = 0 from rfl) (show ((21 : Nat) : Int) = 21 from rfl)))
        subst e9
        have r37 := zM_f hZ36I 1 0 0 20
        have q38 := zu_ne (k' := 1) (b' := 0) (i' := 0) (j' := 20) hZ36 (fun q => absurd q.2.2.2 (by decide))
        refine wz_br (i3Le (i3W (i3S (zm_rd (Z := Z28) (ν := ν) (k := 2) (show ((0 : Nat) : Int) = 0 from rfl) (show ((0 : Nat) : Int) = 0 from rfl) (i3I (y := (3021 + 60 * x1)) (i3A (i3A (show (3010 : Int32) = i3 3010 from rfl) (i3M (show (60 : Int32) = i3 60 from rfl) (rfl : i3 x1 = i3 x1))) (show (11 : Int32) = i3 11 from rfl)) (by omega) (by omega) (by omega))) (zm_rd (Z := Z7) (ν := ν) (k := 2) (show ((0 : Nat) : Int) = 0 from rfl) (show ((0 : Nat) : Int) = 0 from rfl) (i3I (y := (3021 + 60 * x1)) (i3A (i3A (show (3010 : Int32) = i3 3010 from rfl) (i3M (show (60 : Int32) = i3 60 from rfl) (rfl : i3 x1 = i3 x1))) (show (11 : Int32) = i3 11 from rfl)) (by omega) (by omega) (by omega))))) (zm_rd (Z := Z36) (ν := ν) (k := 1) (show ((0 : Nat) : Int) = 0 from rfl) (show ((0 : Nat) : Int) = 0 from rfl) (show ((20 : Nat) : Int) = 20 from rfl)) (by omega) (by omega) (by omega) (by omega)) (fun h39 => ?_) (fun h39 => ?_)
        · replace hP := zE_p hP h39
          obtain ⟨Z40, hZ40⟩ := zx (zu Z36 1 0 0 20 (Z36 1 0 0 20))
          replace hP := zl_e hP hZ40
          have hZ40I := zM_u hZ36I hZ40 (lo := -2147483648) (hi := 2147483647) (by decide) rfl (by omega) ⟨by decide, by decide⟩ (Or.inr (by decide)) rfl
          have hZ40U : zU [] Zs Z40 := zU_u hZ36U hZ40 (Or.inl rfl)
          have hZ40K : zC [1, 2, 81, 1200] Zs Z40 := zC_u hZ36K hZ40 (by decide)
          intro μ9 e9
          replace e9 := e9.trans (zm_wI (Z := Z36) (ν := ν) hZ40 (show ((0 : Nat) : Int) = 0 from rfl) (show ((0 : Nat) : Int) = 0 from rfl) (show ((20 : Nat) : Int) = 20 from rfl) (zm_rd (Z := Z36) (ν := ν) (k := 1) (show ((0 : Nat) : Int) = 0 from rfl) (show ((0 : Nat) : Int) = 0 from rfl) (show ((20 : Nat) : Int) = 20 from rfl)))
          subst e9
          obtain ⟨m2, rfl⟩ : ∃ m2, m = m2 + 1 := ⟨m - 1, by omega⟩
          exact wz_k1 ⟨m2, by omega, xM9 + 82, Z40, (x4 + 1), (zconso rfl (zconso (zvo (rfl : i3 x1 = i3 x1)) (zconso (zvo (rfl : i3 x2 = i3 x2)) (zconso (zvo (rfl : i3 x3 = i3 x3)) (zconso (zvo (i3A (rfl : i3 x4 = i3 x4) (show (1 : Int32) = i3 1 from rfl))) (zconso rfl (zconso rfl (zconso rfl rfl)))))))), rfl, by omega, (zmt hZ40I rfl), hZ40K, hZ40U, by omega, by omega,  hP⟩
        · replace hP := zE_n hP h39
          obtain ⟨Z41, hZ41⟩ := zx (zu Z36 1 0 0 20 (w3 ((Z28 2 0 0 (3021 + 60 * x1)) - (Z7 2 0 0 (3021 + 60 * x1)))))
          replace hP := zl_e hP hZ41
          have hZ41I := zM_u hZ36I hZ41 (lo := -2147483648) (hi := 2147483647) (by decide) rfl (by omega) ⟨by decide, by decide⟩ (Or.inr (by decide)) rfl
          have hZ41U : zU [] Zs Z41 := zU_u hZ36U hZ41 (Or.inl rfl)
          have hZ41K : zC [1, 2, 81, 1200] Zs Z41 := zC_u hZ36K hZ41 (by decide)
          intro μ9 e9
          replace e9 := e9.trans (zm_wI (Z := Z36) (ν := ν) hZ41 (show ((0 : Nat) : Int) = 0 from rfl) (show ((0 : Nat) : Int) = 0 from rfl) (show ((20 : Nat) : Int) = 20 from rfl) (i3W (i3S (zm_rd (Z := Z28) (ν := ν) (k := 2) (show ((0 : Nat) : Int) = 0 from rfl) (show ((0 : Nat) : Int) = 0 from rfl) (i3I (y := (3021 + 60 * x1)) (i3A (i3A (show (3010 : Int32) = i3 3010 from rfl) (i3M (show (60 : Int32) = i3 60 from rfl) (rfl : i3 x1 = i3 x1))) (show (11 : Int32) = i3 11 from rfl)) (by omega) (by omega) (by omega))) (zm_rd (Z := Z7) (ν := ν) (k := 2) (show ((0 : Nat) : Int) = 0 from rfl) (show ((0 : Nat) : Int) = 0 from rfl) (i3I (y := (3021 + 60 * x1)) (i3A (i3A (show (3010 : Int32) = i3 3010 from rfl) (i3M (show (60 : Int32) = i3 60 from rfl) (rfl : i3 x1 = i3 x1))) (show (11 : Int32) = i3 11 from rfl)) (by omega) (by omega) (by omega))))))
          subst e9
          obtain ⟨m2, rfl⟩ : ∃ m2, m = m2 + 1 := ⟨m - 1, by omega⟩
          exact wz_k1 ⟨m2, by omega, xM9 + 82, Z41, (x4 + 1), (zconso rfl (zconso (zvo (rfl : i3 x1 = i3 x1)) (zconso (zvo (rfl : i3 x2 = i3 x2)) (zconso (zvo (rfl : i3 x3 = i3 x3)) (zconso (zvo (i3A (rfl : i3 x4 = i3 x4) (show (1 : Int32) = i3 1 from rfl))) (zconso rfl (zconso rfl (zconso rfl rfl)))))))), rfl, by omega, (zmt hZ41I rfl), hZ41K, hZ41U, by omega, by omega,  hP⟩
      · replace hP := zE_n hP h34
        obtain ⟨Z42, hZ42⟩ := zx (zu Z29 1 0 0 21 (x3 + (x4 * (Z 2 0 0 (3013 + 60 * x1)))))
        replace hP := zl_e hP hZ42
        have hZ42I := zM_u hZ29I hZ42 (lo := -2147483648) (hi := 2147483647) (by decide) rfl (by omega) ⟨by decide, by decide⟩ (Or.inr (by decide)) rfl
        have hZ42U : zU [] Zs Z42 := zU_u hZ29U hZ42 (Or.inl rfl)
        have hZ42K : zC [1, 2, 81, 1200] Zs Z42 := zC_u hZ29K hZ42 (by decide)
        intro μ9 e9
        replace e9 := e9.trans (zm_wI (Z := Z29) (ν := ν) hZ42 (show ((0 : Nat) : Int) = 0 from rfl) (show ((0 : Nat) : Int) = 0 from rfl) (show ((21 : Nat) : Int) = 21 from rfl) (i3A (rfl : i3 x3 = i3 x3) (i3M (rfl : i3 x4 = i3 x4) (zm_rd (Z := Z) (ν := ν) (k := 2) (show ((0 : Nat) : Int) = 0 from rfl) (show ((0 : Nat) : Int) = 0 from rfl) (i3I (y := (3013 + 60 * x1)) (i3A (i3A (show (3010 : Int32) = i3 3010 from rfl) (i3M (show (60 : Int32) = i3 60 from rfl) (rfl : i3 x1 = i3 x1))) (show (3 : Int32) = i3 3 from rfl)) (by omega) (by omega) (by omega))))))
        subst e9
        have r43 := zM_f hZ42I 1 0 0 20
        have q44 := zu_ne (k' := 1) (b' := 0) (i' := 0) (j' := 20) hZ42 (fun q => absurd q.2.2.2 (by decide))
        refine wz_br (i3Le (i3W (i3S (zm_rd (Z := Z28) (ν := ν) (k := 2) (show ((0 : Nat) : Int) = 0 from rfl) (show ((0 : Nat) : Int) = 0 from rfl) (i3I (y := (3021 + 60 * x1)) (i3A (i3A (show (3010 : Int32) = i3 3010 from rfl) (i3M (show (60 : Int32) = i3 60 from rfl) (rfl : i3 x1 = i3 x1))) (show (11 : Int32) = i3 11 from rfl)) (by omega) (by omega) (by omega))) (zm_rd (Z := Z7) (ν := ν) (k := 2) (show ((0 : Nat) : Int) = 0 from rfl) (show ((0 : Nat) : Int) = 0 from rfl) (i3I (y := (3021 + 60 * x1)) (i3A (i3A (show (3010 : Int32) = i3 3010 from rfl) (i3M (show (60 : Int32) = i3 60 from rfl) (rfl : i3 x1 = i3 x1))) (show (11 : Int32) = i3 11 from rfl)) (by omega) (by omega) (by omega))))) (zm_rd (Z := Z42) (ν := ν) (k := 1) (show ((0 : Nat) : Int) = 0 from rfl) (show ((0 : Nat) : Int) = 0 from rfl) (show ((20 : Nat) : Int) = 20 from rfl)) (by omega) (by omega) (by omega) (by omega)) (fun h45 => ?_) (fun h45 => ?_)
        · replace hP := zE_p hP h45
          obtain ⟨Z46, hZ46⟩ := zx (zu Z42 1 0 0 20 (Z42 1 0 0 20))
          replace hP := zl_e hP hZ46
          have hZ46I := zM_u hZ42I hZ46 (lo := -2147483648) (hi := 2147483647) (by decide) rfl (by omega) ⟨by decide, by decide⟩ (Or.inr (by decide)) rfl
          have hZ46U : zU [] Zs Z46 := zU_u hZ42U hZ46 (Or.inl rfl)
          have hZ46K : zC [1, 2, 81, 1200] Zs Z46 := zC_u hZ42K hZ46 (by decide)
          intro μ9 e9
          replace e9 := e9.trans (zm_wI (Z := Z42) (ν := ν) hZ46 (show ((0 : Nat) : Int) = 0 from rfl) (show ((0 : Nat) : Int) = 0 from rfl) (show ((20 : Nat) : Int) = 20 from rfl) (zm_rd (Z := Z42) (ν := ν) (k := 1) (show ((0 : Nat) : Int) = 0 from rfl) (show ((0 : Nat) : Int) = 0 from rfl) (show ((20 : Nat) : Int) = 20 from rfl)))
          subst e9
          obtain ⟨m2, rfl⟩ : ∃ m2, m = m2 + 1 := ⟨m - 1, by omega⟩
          exact wz_k1 ⟨m2, by omega, xM9 + 82, Z46, (x4 + 1), (zconso rfl (zconso (zvo (rfl : i3 x1 = i3 x1)) (zconso (zvo (rfl : i3 x2 = i3 x2)) (zconso (zvo (rfl : i3 x3 = i3 x3)) (zconso (zvo (i3A (rfl : i3 x4 = i3 x4) (show (1 : Int32) = i3 1 from rfl))) (zconso rfl (zconso rfl (zconso rfl rfl)))))))), rfl, by omega, (zmt hZ46I rfl), hZ46K, hZ46U, by omega, by omega,  hP⟩
        · replace hP := zE_n hP h45
          obtain ⟨Z47, hZ47⟩ := zx (zu Z42 1 0 0 20 (w3 ((Z28 2 0 0 (3021 + 60 * x1)) - (Z7 2 0 0 (3021 + 60 * x1)))))
          replace hP := zl_e hP hZ47
          have hZ47I := zM_u hZ42I hZ47 (lo := -2147483648) (hi := 2147483647) (by decide) rfl (by omega) ⟨by decide, by decide⟩ (Or.inr (by decide)) rfl
          have hZ47U : zU [] Zs Z47 := zU_u hZ42U hZ47 (Or.inl rfl)
          have hZ47K : zC [1, 2, 81, 1200] Zs Z47 := zC_u hZ42K hZ47 (by decide)
          intro μ9 e9
          replace e9 := e9.trans (zm_wI (Z := Z42) (ν := ν) hZ47 (show ((0 : Nat) : Int) = 0 from rfl) (show ((0 : Nat) : Int) = 0 from rfl) (show ((20 : Nat) : Int) = 20 from rfl) (i3W (i3S (zm_rd (Z := Z28) (ν := ν) (k := 2) (show ((0 : Nat) : Int) = 0 from rfl) (show ((0 : Nat) : Int) = 0 from rfl) (i3I (y := (3021 + 60 * x1)) (i3A (i3A (show (3010 : Int32) = i3 3010 from rfl) (i3M (show (60 : Int32) = i3 60 from rfl) (rfl : i3 x1 = i3 x1))) (show (11 : Int32) = i3 11 from rfl)) (by omega) (by omega) (by omega))) (zm_rd (Z := Z7) (ν := ν) (k := 2) (show ((0 : Nat) : Int) = 0 from rfl) (show ((0 : Nat) : Int) = 0 from rfl) (i3I (y := (3021 + 60 * x1)) (i3A (i3A (show (3010 : Int32) = i3 3010 from rfl) (i3M (show (60 : Int32) = i3 60 from rfl) (rfl : i3 x1 = i3 x1))) (show (11 : Int32) = i3 11 from rfl)) (by omega) (by omega) (by omega))))))
          subst e9
          obtain ⟨m2, rfl⟩ : ∃ m2, m = m2 + 1 := ⟨m - 1, by omega⟩
          exact wz_k1 ⟨m2, by omega, xM9 + 82, Z47, (x4 + 1), (zconso rfl (zconso (zvo (rfl : i3 x1 = i3 x1)) (zconso (zvo (rfl : i3 x2 = i3 x2)) (zconso (zvo (rfl : i3 x3 = i3 x3)) (zconso (zvo (i3A (rfl : i3 x4 = i3 x4) (show (1 : Int32) = i3 1 from rfl))) (zconso rfl (zconso rfl (zconso rfl rfl)))))))), rfl, by omega, (zmt hZ47I rfl), hZ47K, hZ47U, by omega, by omega,  hP⟩
/- yX12_cFindStart -/
def zf_299 (Z : qz_Z) (a1 : Int) (a2 : Int) (a3 : Int) : qz_Z := (zlet (zu Z 1 0 0 20 (-1)) (fun Z1 => (zlet2 (zl_299_1 a1 a2 a3 202 Z1 0) (fun Z3 y2 => Z3))))
theorem sp_299 {s : zSM} {Z : qz_Z} {ν : qz_N} (hZ : zM s Z) {a1 : Int} (ga1 : 0 ≤ a1 ∧ a1 ≤ 1) {a2 : Int} (ga2 : 0 ≤ a2 ∧ a2 ≤ 47) {a3 : Int} (ga3 : 1 ≤ a3 ∧ a3 ≤ 9999) (hM : s.2 + 16564 ≤ 1000000000) : ∃ P : qz_Z, P = zf_299 Z a1 a2 a3 ∧ (qf_299 [.inr (.inr (some (1, 0, 0))), .inl (i3 a1), .inl (i3 a2), .inl (i3 a3)] (zm Z ν) = some (zm P ν, .inl none) ∧ zM (zb s 16564) P ∧ zC [1, 2, 81, 1200] Z P ∧ zU [] Z P) := by
  obtain ⟨P, hP⟩ := zx (zf_299 Z a1 a2 a3)
  refine zc_V (Q := fun P => zM (zb s 16564) P ∧ zC [1, 2, 81, 1200] Z P ∧ zU [] Z P) hP (fw_299 (i3 a1) (i3 a2) (i3 a3) _ _ ?_)
  replace hP : zE P (zf_299 Z a1 a2 a3) := hP
  unfold zf_299 at hP
  obtain ⟨Z1, hZ1⟩ := zx (zu Z 1 0 0 20 (-1))
  replace hP := zl_e hP hZ1
  have hZ1I := zM_u hZ hZ1 (lo := -2147483648) (hi := 2147483647) (by decide) rfl (by omega) ⟨by decide, by decide⟩ (Or.inr (by decide)) rfl
  have hZ1U : zU [] Z Z1 := zU_u zU_r hZ1 (Or.inl rfl)
  have hZ1K : zC [1, 2, 81, 1200] Z Z1 := zC_u zC_r hZ1 (by decide)
  intro μ9 e9
  replace e9 := e9.trans (zm_wI (Z := Z) (ν := ν) hZ1 (show ((0 : Nat) : Int) = 0 from rfl) (show ((0 : Nat) : Int) = 0 from rfl) (show ((20 : Nat) : Int) = 20 from rfl) (show (-1 : Int32) = i3 (-1) from rfl))
  subst e9
  refine sl_299_1 (ν := ν) (zm0 hZ1I) (zbh (c := 0) (k := 16564) hM (Nat.le_of_ble_eq_true rfl)) (xM9 := 0) zC_r (x1 := a1) (by omega) (x2 := a2) (by omega) (x3 := a3) (by omega) (x4 := 0) (by omega) zU_r (Nat.le_of_ble_eq_true rfl)  (zconso rfl (zconso (zvo (rfl : i3 a1 = i3 a1)) (zconso (zvo (rfl : i3 a2 = i3 a2)) (zconso (zvo (rfl : i3 a3 = i3 a3)) (zconso (zvo (show (0 : Int32) = i3 0 from rfl)) (zconso rfl (zconso rfl (zconso rfl rfl)))))))) rfl ?_
  intro L4 Z3 y2 hL4 hZ3I kZ3 jZ3 gy2 q9
  replace hP := zl_e2 hP (Eq.symm q9)
  clear q9
  have hZ3U : zU [] Z Z3 := zU_t hZ1U jZ3 zU_b0
  have hZ3K : zC [1, 2, 81, 1200] Z Z3 := zC_t hZ1K kZ3 (by decide)
  refine fc_299_2  _ _ _ _ hL4 ?_
  exact zlV hP ⟨hZ3I, hZ3K, hZ3U⟩
/- yX12_bestStart -/
def zy_293 (Z : qz_Z) (a1 : Int) (a2 : Int) (a3 : Int) (a4 : Int) : qz_Z × Int := (if a1 < 0 then (zlet (zu Z 1 0 0 2 1) (fun Z5 => (Z5, 0))) else (if ((Z 2 0 0 3000) - 1) < a1 then (zlet (zu Z 1 0 0 2 1) (fun Z8 => (Z8, 0))) else (if a2 < 0 then (zlet (zu Z 1 0 0 2 1) (fun Z10 => (Z10, 0))) else (if ((Z 2 0 0 102) - 1) < a2 then (zlet (zu Z 1 0 0 2 1) (fun Z13 => (Z13, 0))) else (zlet (zu Z 1 0 0 2 0) (fun Z14 => (if a3 < 1 then (zlet (zu Z14 1 0 0 2 2) (fun Z16 => (Z16, 0))) else (if 9999 < a3 then (zlet (zu Z14 1 0 0 2 2) (fun Z18 => (Z18, 0))) else (if a4 < 0 then (zlet (zu Z14 1 0 0 2 2) (fun Z20 => (Z20, 0))) else (if 1 < a4 then (zlet (zu Z14 1 0 0 2 2) (fun Z22 => (Z22, 0))) else (zlet (zu Z14 1 0 0 2 0) (fun Z23 => (if (Z23 2 0 0 (204 + 20 * a2)) ≤ 0 then (zlet (zu Z23 1 0 0 2 3) (fun Z26 => (Z26, 0))) else (zlet (zu Z23 1 0 0 2 0) (fun Z27 => (zlet (zf_299 Z27 a1 a2 a3) (fun Z28 => (if a4 ≠ 0 then (Z28, (Z28 1 0 0 20)) else (Z28, (Z28 1 0 0 21))))))))))))))))))))
theorem sy_293 {s : zSM} {Z : qz_Z} {ν : qz_N} (hZ : zM s Z) (gq : Z 1 0 0 35 = 0) (hM : s.2 + 16564 ≤ 1000000000) {a1 : Int} (ga1 : -2147483648 ≤ a1 ∧ a1 ≤ 2147483647) {a2 : Int} (ga2 : -2147483648 ≤ a2 ∧ a2 ≤ 2147483647) {a3 : Int} (ga3 : -2147483648 ≤ a3 ∧ a3 ≤ 2147483647) {a4 : Int} (ga4 : -2147483648 ≤ a4 ∧ a4 ≤ 2147483647) {ν1 : qz_N} : ∃ (Z1 : qz_Z) (ν2 : qz_N) (v : Int), (Z1, v) = zy_293 Z a1 a2 a3 a4 ∧ (ν2 = ν ∨ ν2 = ν1) ∧ qf_293 [.inr (.inr (some (1, 0, 0))), .inl (i3 a1), .inl (i3 a2), .inl (i3 a3), .inl (i3 a4)] (zm Z ν) = some (zm Z1 ν2, .inl (some (.inl (i3 v)))) ∧ (fun Z1 => zM (zb s 16564) Z1 ∧ zC [1, 2, 81, 1200] Z Z1 ∧ zU [] Z Z1) Z1 := by
  obtain ⟨P, hP⟩ := zx (zy_293 Z a1 a2 a3 a4)
  refine zc_Y (Q := fun Z1 => zM (zb s 16564) Z1 ∧ zC [1, 2, 81, 1200] Z Z1 ∧ zU [] Z Z1) hP (fw_293 (i3 a1) (i3 a2) (i3 a3) (i3 a4) _ _ ?_)
  replace hP : zE P (zy_293 Z a1 a2 a3 a4) := hP
  unfold zy_293 at hP
  have r1 := zM_k hZ 1 0 0 35 (lo := 0) (hi := 1) (by decide) rfl
  have r2 := zM_k hZ 1 0 0 34 (lo := 0) (hi := 8) (by decide) rfl
  have r3 := zM_f hZ 1 0 0 37
  refine wz_br (i3L (rfl : i3 a1 = i3 a1) (show (0 : Int32) = i3 0 from rfl) (by omega) (by omega) (by omega) (by omega)) (fun h4 => ?_) (fun h4 => ?_)
  · replace hP := zE_p hP h4
    obtain ⟨Z5, hZ5⟩ := zx (zu Z 1 0 0 2 1)
    replace hP := zl_e hP hZ5
    have hZ5I := zM_u hZ hZ5 (lo := -2147483648) (hi := 2147483647) (by decide) rfl (by omega) ⟨by decide, by decide⟩ (Or.inr (by decide)) rfl
    have hZ5U : zU [] Z Z5 := zU_u zU_r hZ5 (Or.inl rfl)
    have hZ5K : zC [1, 2, 81, 1200] Z Z5 := zC_u zC_r hZ5 (by decide)
    intro μ9 e9
    replace e9 := e9.trans (zm_wI (Z := Z) (ν := ν) hZ5 (show ((0 : Nat) : Int) = 0 from rfl) (show ((0 : Nat) : Int) = 0 from rfl) (show ((2 : Nat) : Int) = 2 from rfl) (show (1 : Int32) = i3 1 from rfl))
    subst e9
    exact zlY hP (show (0 : Int32) = i3 0 from rfl) (.inl rfl) ⟨(zmw (a := 0) (c := 16564) hZ5I (Nat.le_of_ble_eq_true rfl)), hZ5K, hZ5U⟩
  · replace hP := zE_n hP h4
    have r6 := zM_k hZ 2 0 0 3000 (lo := 0) (hi := 2) (by decide) rfl
    refine wz_br (i3L (i3S (zm_rd (Z := Z) (ν := ν) (k := 2) (show ((0 : Nat) : Int) = 0 from rfl) (show ((0 : Nat) : Int) = 0 from rfl) (show ((3000 : Nat) : Int) = 3000 from rfl)) (show (1 : Int32) = i3 1 from rfl)) (rfl : i3 a1 = i3 a1) (by omega) (by omega) (by omega) (by omega)) (fun h7 => ?_) (fun h7 => ?_)
    · replace hP := zE_p hP h7
      obtain ⟨Z8, hZ8⟩ := zx (zu Z 1 0 0 2 1)
      replace hP := zl_e hP hZ8
      have hZ8I := zM_u hZ hZ8 (lo := -2147483648) (hi := 2147483647) (by decide) rfl (by omega) ⟨by decide, by decide⟩ (Or.inr (by decide)) rfl
      have hZ8U : zU [] Z Z8 := zU_u zU_r hZ8 (Or.inl rfl)
      have hZ8K : zC [1, 2, 81, 1200] Z Z8 := zC_u zC_r hZ8 (by decide)
      intro μ9 e9
      replace e9 := e9.trans (zm_wI (Z := Z) (ν := ν) hZ8 (show ((0 : Nat) : Int) = 0 from rfl) (show ((0 : Nat) : Int) = 0 from rfl) (show ((2 : Nat) : Int) = 2 from rfl) (show (1 : Int32) = i3 1 from rfl))
      subst e9
      exact zlY hP (show (0 : Int32) = i3 0 from rfl) (.inl rfl) ⟨(zmw (a := 0) (c := 16564) hZ8I (Nat.le_of_ble_eq_true rfl)), hZ8K, hZ8U⟩
    · replace hP := zE_n hP h7
      refine wz_br (i3L (rfl : i3 a2 = i3 a2) (show (0 : Int32) = i3 0 from rfl) (by omega) (by omega) (by omega) (by omega)) (fun h9 => ?_) (fun h9 => ?_)
      · replace hP := zE_p hP h9
        obtain ⟨Z10, hZ10⟩ := zx (zu Z 1 0 0 2 1)
        replace hP := zl_e hP hZ10
        have hZ10I := zM_u hZ hZ10 (lo := -2147483648) (hi := 2147483647) (by decide) rfl (by omega) ⟨by decide, by decide⟩ (Or.inr (by decide)) rfl
        have hZ10U : zU [] Z Z10 := zU_u zU_r hZ10 (Or.inl rfl)
        have hZ10K : zC [1, 2, 81, 1200] Z Z10 := zC_u zC_r hZ10 (by decide)
        intro μ9 e9
        replace e9 := e9.trans (zm_wI (Z := Z) (ν := ν) hZ10 (show ((0 : Nat) : Int) = 0 from rfl) (show ((0 : Nat) : Int) = 0 from rfl) (show ((2 : Nat) : Int) = 2 from rfl) (show (1 : Int32) = i3 1 from rfl))
        subst e9
        exact zlY hP (show (0 : Int32) = i3 0 from rfl) (.inl rfl) ⟨(zmw (a := 0) (c := 16564) hZ10I (Nat.le_of_ble_eq_true rfl)), hZ10K, hZ10U⟩
      · replace hP := zE_n hP h9
        have r11 := zM_k hZ 2 0 0 102 (lo := 0) (hi := 48) (by decide) rfl
        refine wz_br (i3L (i3S (zm_rd (Z := Z) (ν := ν) (k := 2) (show ((0 : Nat) : Int) = 0 from rfl) (show ((0 : Nat) : Int) = 0 from rfl) (show ((102 : Nat) : Int) = 102 from rfl)) (show (1 : Int32) = i3 1 from rfl)) (rfl : i3 a2 = i3 a2) (by omega) (by omega) (by omega) (by omega)) (fun h12 => ?_) (fun h12 => ?_)
        · replace hP := zE_p hP h12
          obtain ⟨Z13, hZ13⟩ := zx (zu Z 1 0 0 2 1)
          replace hP := zl_e hP hZ13
          have hZ13I := zM_u hZ hZ13 (lo := -2147483648) (hi := 2147483647) (by decide) rfl (by omega) ⟨by decide, by decide⟩ (Or.inr (by decide)) rfl
          have hZ13U : zU [] Z Z13 := zU_u zU_r hZ13 (Or.inl rfl)
          have hZ13K : zC [1, 2, 81, 1200] Z Z13 := zC_u zC_r hZ13 (by decide)
          intro μ9 e9
          replace e9 := e9.trans (zm_wI (Z := Z) (ν := ν) hZ13 (show ((0 : Nat) : Int) = 0 from rfl) (show ((0 : Nat) : Int) = 0 from rfl) (show ((2 : Nat) : Int) = 2 from rfl) (show (1 : Int32) = i3 1 from rfl))
          subst e9
          exact zlY hP (show (0 : Int32) = i3 0 from rfl) (.inl rfl) ⟨(zmw (a := 0) (c := 16564) hZ13I (Nat.le_of_ble_eq_true rfl)), hZ13K, hZ13U⟩
        · replace hP := zE_n hP h12
          obtain ⟨Z14, hZ14⟩ := zx (zu Z 1 0 0 2 0)
          replace hP := zl_e hP hZ14
          have hZ14I := zM_0 hZ hZ14 (by decide) (Or.inr (by decide))
          have hZ14U : zU [] Z Z14 := zU_u zU_r hZ14 (Or.inl rfl)
          have hZ14K : zC [1, 2, 81, 1200] Z Z14 := zC_u zC_r hZ14 (by decide)
          intro μ9 e9
          replace e9 := e9.trans (zm_wI (Z := Z) (ν := ν) hZ14 (show ((0 : Nat) : Int) = 0 from rfl) (show ((0 : Nat) : Int) = 0 from rfl) (show ((2 : Nat) : Int) = 2 from rfl) (show (0 : Int32) = i3 0 from rfl))
          subst e9
          refine wz_br (i3L (rfl : i3 a3 = i3 a3) (show (1 : Int32) = i3 1 from rfl) (by omega) (by omega) (by omega) (by omega)) (fun h15 => ?_) (fun h15 => ?_)
          · replace hP := zE_p hP h15
            obtain ⟨Z16, hZ16⟩ := zx (zu Z14 1 0 0 2 2)
            replace hP := zl_e hP hZ16
            have hZ16I := zM_u hZ14I hZ16 (lo := -2147483648) (hi := 2147483647) (by decide) rfl (by omega) ⟨by decide, by decide⟩ (Or.inr (by decide)) rfl
            have hZ16U : zU [] Z Z16 := zU_u hZ14U hZ16 (Or.inl rfl)
            have hZ16K : zC [1, 2, 81, 1200] Z Z16 := zC_u hZ14K hZ16 (by decide)
            intro μ9 e9
            replace e9 := e9.trans (zm_wI (Z := Z14) (ν := ν) hZ16 (show ((0 : Nat) : Int) = 0 from rfl) (show ((0 : Nat) : Int) = 0 from rfl) (show ((2 : Nat) : Int) = 2 from rfl) (show (2 : Int32) = i3 2 from rfl))
            subst e9
            exact zlY hP (show (0 : Int32) = i3 0 from rfl) (.inl rfl) ⟨(zmw (a := 0) (c := 16564) hZ16I (Nat.le_of_ble_eq_true rfl)), hZ16K, hZ16U⟩
          · replace hP := zE_n hP h15
            refine wz_br (i3L (show (9999 : Int32) = i3 9999 from rfl) (rfl : i3 a3 = i3 a3) (by omega) (by omega) (by omega) (by omega)) (fun h17 => ?_) (fun h17 => ?_)
            · replace hP := zE_p hP h17
              obtain ⟨Z18, hZ18⟩ := zx (zu Z14 1 0 0 2 2)
              replace hP := zl_e hP hZ18
              have hZ18I := zM_u hZ14I hZ18 (lo := -2147483648) (hi := 2147483647) (by decide) rfl (by omega) ⟨by decide, by decide⟩ (Or.inr (by decide)) rfl
              have hZ18U : zU [] Z Z18 := zU_u hZ14U hZ18 (Or.inl rfl)
              have hZ18K : zC [1, 2, 81, 1200] Z Z18 := zC_u hZ14K hZ18 (by decide)
              intro μ9 e9
              replace e9 := e9.trans (zm_wI (Z := Z14) (ν := ν) hZ18 (show ((0 : Nat) : Int) = 0 from rfl) (show ((0 : Nat) : Int) = 0 from rfl) (show ((2 : Nat) : Int) = 2 from rfl) (show (2 : Int32) = i3 2 from rfl))
              subst e9
              exact zlY hP (show (0 : Int32) = i3 0 from rfl) (.inl rfl) ⟨(zmw (a := 0) (c := 16564) hZ18I (Nat.le_of_ble_eq_true rfl)), hZ18K, hZ18U⟩
            · replace hP := zE_n hP h17
              refine wz_br (i3L (rfl : i3 a4 = i3 a4) (show (0 : Int32) = i3 0 from rfl) (by omega) (by omega) (by omega) (by omega)) (fun h19 => ?_) (fun h19 => ?_)
              · replace hP := zE_p hP h19
                obtain ⟨Z20, hZ20⟩ := zx (zu Z14 1 0 0 2 2)
                replace hP := zl_e hP hZ20
                have hZ20I := zM_u hZ14I hZ20 (lo := -2147483648) (hi := 2147483647) (by decide) rfl (by omega) ⟨by decide, by decide⟩ (Or.inr (by decide)) rfl
                have hZ20U : zU [] Z Z20 := zU_u hZ14U hZ20 (Or.inl rfl)
                have hZ20K : zC [1, 2, 81, 1200] Z Z20 := zC_u hZ14K hZ20 (by decide)
                intro μ9 e9
                replace e9 := e9.trans (zm_wI (Z := Z14) (ν := ν) hZ20 (show ((0 : Nat) : Int) = 0 from rfl) (show ((0 : Nat) : Int) = 0 from rfl) (show ((2 : Nat) : Int) = 2 from rfl) (show (2 : Int32) = i3 2 from rfl))
                subst e9
                exact zlY hP (show (0 : Int32) = i3 0 from rfl) (.inl rfl) ⟨(zmw (a := 0) (c := 16564) hZ20I (Nat.le_of_ble_eq_true rfl)), hZ20K, hZ20U⟩
              · replace hP := zE_n hP h19
                refine wz_br (i3L (show (1 : Int32) = i3 1 from rfl) (rfl : i3 a4 = i3 a4) (by omega) (by omega) (by omega) (by omega)) (fun h21 => ?_) (fun h21 => ?_)
                · replace hP := zE_p hP h21
                  obtain ⟨Z22, hZ22⟩ := zx (zu Z14 1 0 0 2 2)
                  replace hP := zl_e hP hZ22
                  have hZ22I := zM_u hZ14I hZ22 (lo := -2147483648) (hi := 2147483647) (by decide) rfl (by omega) ⟨by decide, by decide⟩ (Or.inr (by decide)) rfl
                  have hZ22U : zU [] Z Z22 := zU_u hZ14U hZ22 (Or.inl rfl)
                  have hZ22K : zC [1, 2, 81, 1200] Z Z22 := zC_u hZ14K hZ22 (by decide)
                  intro μ9 e9
                  replace e9 := e9.trans (zm_wI (Z := Z14) (ν := ν) hZ22 (show ((0 : Nat) : Int) = 0 from rfl) (show ((0 : Nat) : Int) = 0 from rfl) (show ((2 : Nat) : Int) = 2 from rfl) (show (2 : Int32) = i3 2 from rfl))
                  subst e9
                  exact zlY hP (show (0 : Int32) = i3 0 from rfl) (.inl rfl) ⟨(zmw (a := 0) (c := 16564) hZ22I (Nat.le_of_ble_eq_true rfl)), hZ22K, hZ22U⟩
                · replace hP := zE_n hP h21
                  obtain ⟨Z23, hZ23⟩ := zx (zu Z14 1 0 0 2 0)
                  replace hP := zl_e hP hZ23
                  have hZ23I := zM_0 hZ14I hZ23 (by decide) (Or.inr (by decide))
                  have hZ23U : zU [] Z Z23 := zU_u hZ14U hZ23 (Or.inl rfl)
                  have hZ23K : zC [1, 2, 81, 1200] Z Z23 := zC_u hZ14K hZ23 (by decide)
                  intro μ9 e9
                  replace e9 := e9.trans (zm_wI (Z := Z14) (ν := ν) hZ23 (show ((0 : Nat) : Int) = 0 from rfl) (show ((0 : Nat) : Int) = 0 from rfl) (show ((2 : Nat) : Int) = 2 from rfl) (show (0 : Int32) = i3 0 from rfl))
                  subst e9
                  refine wz_i0 (i3O (n := 4400) (i3A (i3A (show (200 : Int32) = i3 200 from rfl) (i3M (show (20 : Int32) = i3 20 from rfl) (rfl : i3 a2 = i3 a2))) (show (4 : Int32) = i3 4 from rfl)) (by omega) (by omega) (by omega)) ?_
                  have r24 := zM_k hZ23I 2 0 0 (204 + 20 * a2) (lo := 0) (hi := 40) (by decide) (zs_200_4 (x := a2) (by omega) (by omega) (by omega))
                  refine wz_br (i3Le (zm_rd (Z := Z23) (ν := ν) (k := 2) (show ((0 : Nat) : Int) = 0 from rfl) (show ((0 : Nat) : Int) = 0 from rfl) (i3I (y := (204 + 20 * a2)) (i3A (i3A (show (200 : Int32) = i3 200 from rfl) (i3M (show (20 : Int32) = i3 20 from rfl) (rfl : i3 a2 = i3 a2))) (show (4 : Int32) = i3 4 from rfl)) (by omega) (by omega) (by omega))) (show (0 : Int32) = i3 0 from rfl) (by omega) (by omega) (by omega) (by omega)) (fun h25 => ?_) (fun h25 => ?_)
                  · replace hP := zE_p hP h25
                    obtain ⟨Z26, hZ26⟩ := zx (zu Z23 1 0 0 2 3)
                    replace hP := zl_e hP hZ26
                    have hZ26I := zM_u hZ23I hZ26 (lo := -2147483648) (hi := 2147483647) (by decide) rfl (by omega) ⟨by decide, by decide⟩ (Or.inr (by decide)) rfl
                    have hZ26U : zU [] Z Z26 := zU_u hZ23U hZ26 (Or.inl rfl)
                    have hZ26K : zC [1, 2, 81, 1200] Z Z26 := zC_u hZ23K hZ26 (by decide)
                    intro μ9 e9
                    replace e9 := e9.trans (zm_wI (Z := Z23) (ν := ν) hZ26 (show ((0 : Nat) : Int) = 0 from rfl) (show ((0 : Nat) : Int) = 0 from rfl) (show ((2 : Nat) : Int) = 2 from rfl) (show (3 : Int32) = i3 3 from rfl))
                    subst e9
                    exact zlY hP (show (0 : Int32) = i3 0 from rfl) (.inl rfl) ⟨(zmw (a := 0) (c := 16564) hZ26I (Nat.le_of_ble_eq_true rfl)), hZ26K, hZ26U⟩
                  · replace hP := zE_n hP h25
                    obtain ⟨Z27, hZ27⟩ := zx (zu Z23 1 0 0 2 0)
                    replace hP := zl_e hP hZ27
                    have hZ27I := zM_0 hZ23I hZ27 (by decide) (Or.inr (by decide))
                    have hZ27U : zU [] Z Z27 := zU_u hZ23U hZ27 (Or.inl rfl)
                    have hZ27K : zC [1, 2, 81, 1200] Z Z27 := zC_u hZ23K hZ27 (by decide)
                    intro μ9 e9
                    replace e9 := e9.trans (zm_wI (Z := Z23) (ν := ν) hZ27 (show ((0 : Nat) : Int) = 0 from rfl) (show ((0 : Nat) : Int) = 0 from rfl) (show ((2 : Nat) : Int) = 2 from rfl) (show (0 : Int32) = i3 0 from rfl))
                    subst e9
                    obtain ⟨Z28, hZ28, c9, hZ28I, kZ28, jZ28⟩ := sp_299 (ν := ν) hZ27I (a1 := a1) (by omega) (a2 := a2) (by omega) (a3 := a3) (by omega) (zbh (c := 0) (k := 16564) hM (Nat.le_of_ble_eq_true rfl))
                    have hZ28U : zU [] Z Z28 := zU_t hZ27U jZ28 zU_b0
                    have hZ28K : zC [1, 2, 81, 1200] Z Z28 := zC_t hZ27K kZ28 (by decide)
                    replace hP := zl_e hP hZ28
                    refine wz_cV_of (zas (zcons rfl (zcons (zvi (rfl : i3 a1 = i3 a1)) (zcons (zvi (rfl : i3 a2 = i3 a2)) (zcons (zvi (rfl : i3 a3 = i3 a3)) rfl)))) c9) ?_
                    clear c9
                    refine wz_br (i3NE (rfl : i3 a4 = i3 a4) (show (0 : Int32) = i3 0 from rfl) (by omega) (by omega) (by omega) (by omega)) (fun h29 => ?_) (fun h29 => ?_)
                    · replace hP := zE_p hP h29
                      have r30 := zM_f hZ28I 1 0 0 20
                      exact zlY hP (zm_rd (Z := Z28) (ν := ν) (k := 1) (show ((0 : Nat) : Int) = 0 from rfl) (show ((0 : Nat) : Int) = 0 from rfl) (show ((20 : Nat) : Int) = 20 from rfl)) (.inl rfl) ⟨hZ28I, hZ28K, hZ28U⟩
                    · replace hP := zE_n hP h29
                      have r31 := zM_f hZ28I 1 0 0 21
                      exact zlY hP (zm_rd (Z := Z28) (ν := ν) (k := 1) (show ((0 : Nat) : Int) = 0 from rfl) (show ((0 : Nat) : Int) = 0 from rfl) (show ((21 : Nat) : Int) = 21 from rfl)) (.inl rfl) ⟨hZ28I, hZ28K, hZ28U⟩
/- yX12_cHour -/
def zl_301_1 (x1 : Int) : Nat → qz_Z → Int → qz_Z × Int
  | 0, Z, x2 => (Z, x2)
  | m + 1, Z, x2 => (if (Z 2 0 0 (3012 + 60 * x1)) ≤ x2 then (Z, x2) else (if ((Z 2 0 0 0) % 24) < (Z 2 0 0 (3010 + 60 * x1)) then (Z, x2) else (if (((Z 2 0 0 (3010 + 60 * x1)) + (Z 2 0 0 (3011 + 60 * x1))) - 1) < ((Z 2 0 0 0) % 24) then (Z, x2) else (if (Z 2 0 0 (3015 + 60 * x1)) ≤ 0 then (Z, x2) else (zlet (zf_309 Z x1) (fun Z10 => zl_301_1 x1 m Z10 (x2 + 1)))))))
theorem sl_301_1 {s : zSM} {xM9 : Nat} {Zs Z : qz_Z} {ν : qz_N} (hZ : zM (zb s xM9) Z) (hM : s.2 + 574 ≤ 1000000000) (hK : zC [2] Zs Z) {x1 : Int} (gx1 : 0 ≤ x1 ∧ x1 ≤ 1) {x2 : Int} (gx2 : 0 ≤ x2 ∧ x2 ≤ 6) (hU : zU [] Zs Z) (hx9 : xM9 + 82 * ((6 - x2).toNat) + 82 ≤ 574) {k : wz_K} {R : wz_R} {L : qz_L} (hL : qz_fg [true, true, true] L = [some (.inr (.inr (some (1, 0, 0)))), some (.inl (i3 x1)), some (.inl (i3 x2))]) {T : qz_Z × Int} (hP : zE T (zl_301_1 x1 ((6 - x2).toNat + 1) Z x2)) (hk : ∀ (L9 : qz_L) (Z9 : qz_Z) (yx2 : Int), qz_fg [true, true, false] L9 = [some (.inr (.inr (some (1, 0, 0)))), some (.inl (i3 x1)), none] → zM (zb s 574) Z9 → zC [2] Zs Z9 → zU [] Zs Z9 → (0 ≤ yx2 ∧ yx2 ≤ 6) → zE T ((Z9, yx2)) → k 0 (L9, [], zm Z9 ν)) : wz_loop qb_301_1 65536 k R (L, [], zm Z ν) := by
  refine wz_lp sb_301_1 (fun m x => ∃ xM9 : Nat, ∃ Z : qz_Z, ∃ x2 : Int, qz_fg [true, true, true] x.1 = [some (.inr (.inr (some (1, 0, 0)))), some (.inl (i3 x1)), some (.inl (i3 x2))] ∧ x.2 = ([], zm Z ν) ∧ xM9 + 82 * m + 82 ≤ 574 ∧ zM (zb s xM9) Z ∧ zC [2] Zs Z ∧ zU [] Zs Z ∧ m = (6 - x2).toNat ∧ (0 ≤ x2 ∧ x2 ≤ 6) ∧ zE T (zl_301_1 x1 (m + 1) Z x2)) ?_ 65536 ((6 - x2).toNat) _ (by omega) ⟨xM9, Z, x2, hL, rfl, hx9, hZ, hK, hU, rfl, gx2, hP⟩
  clear hP gx2 hx9 hZ hK hU hL
  clear x2
  clear Z
  clear xM9
  rintro m ⟨L, st, μ⟩ ⟨xM9, Z, x2, hL, hx, hx9, hZ, hK, hU, hm, gx2, hP⟩
  cases hx
  have hM9 : (zb s xM9).2 + 82 ≤ 1000000000 := by
    show s.2 + xM9 + 82 ≤ 1000000000
    omega
  refine fb_301_1 (i3 x1) (i3 x2) _ _ _ _ hL ?_
  refine wz_i0 (i3O (n := 4400) (i3A (i3A (show (3010 : Int32) = i3 3010 from rfl) (i3M (show (60 : Int32) = i3 60 from rfl) (rfl : i3 x1 = i3 x1))) (show (2 : Int32) = i3 2 from rfl)) (by omega) (by omega) (by omega)) ?_
  have r1 := zM_k hZ 2 0 0 (3012 + 60 * x1) (lo := 0) (hi := 6) (by decide) (zs_3010_2 (x := (x1 + 0)) (by omega) (by omega) (by omega))
  refine wz_br (i3Le (zm_rd (Z := Z) (ν := ν) (k := 2) (show ((0 : Nat) : Int) = 0 from rfl) (show ((0 : Nat) : Int) = 0 from rfl) (i3I (y := (3012 + 60 * x1)) (i3A (i3A (show (3010 : Int32) = i3 3010 from rfl) (i3M (show (60 : Int32) = i3 60 from rfl) (rfl : i3 x1 = i3 x1))) (show (2 : Int32) = i3 2 from rfl)) (by omega) (by omega) (by omega))) (rfl : i3 x2 = i3 x2) (by omega) (by omega) (by omega) (by omega)) (fun h2 => ?_) (fun h2 => ?_)
  · replace hP := zE_p hP h2
    exact hk _ _ _ (zconso rfl (zconso (zvo (rfl : i3 x1 = i3 x1)) (zconso rfl rfl))) (zmx0 hZ (by omega)) hK hU (by omega)  hP
  · replace hP := zE_n hP h2
    refine wz_i0 (i3O (n := 4400) (i3A (i3A (show (3010 : Int32) = i3 3010 from rfl) (i3M (show (60 : Int32) = i3 60 from rfl) (rfl : i3 x1 = i3 x1))) (show (0 : Int32) = i3 0 from rfl)) (by omega) (by omega) (by omega)) ?_
    refine wz_i0 (i3O (n := 4400) (i3A (i3A (show (3010 : Int32) = i3 3010 from rfl) (i3M (show (60 : Int32) = i3 60 from rfl) (rfl : i3 x1 = i3 x1))) (show (0 : Int32) = i3 0 from rfl)) (by omega) (by omega) (by omega)) ?_
    refine wz_i0 (i3O (n := 4400) (i3A (i3A (show (3010 : Int32) = i3 3010 from rfl) (i3M (show (60 : Int32) = i3 60 from rfl) (rfl : i3 x1 = i3 x1))) (show (1 : Int32) = i3 1 from rfl)) (by omega) (by omega) (by omega)) ?_
    have r3 := zM_k hZ 2 0 0 0 (lo := 0) (hi := 671) (by decide) rfl
    have r4 := zM_k hZ 2 0 0 (3010 + 60 * x1) (lo := 0) (hi := 23) (by decide) (zs_3010_0 (x := (x1 + 0)) (by omega) (by omega) (by omega))
    refine wz_br (i3L (i3R (zm_rd (Z := Z) (ν := ν) (k := 2) (show ((0 : Nat) : Int) = 0 from rfl) (show ((0 : Nat) : Int) = 0 from rfl) (show ((0 : Nat) : Int) = 0 from rfl)) (show (24 : Int32) = i3 24 from rfl) (by omega) (by omega) (by omega) (by omega)) (zm_rd (Z := Z) (ν := ν) (k := 2) (show ((0 : Nat) : Int) = 0 from rfl) (show ((0 : Nat) : Int) = 0 from rfl) (i3I (y := (3010 + 60 * x1)) (i3A (i3A (show (3010 : Int32) = i3 3010 from rfl) (i3M (show (60 : Int32) = i3 60 from rfl) (rfl : i3 x1 = i3 x1))) (show (0 : Int32) = i3 0 from rfl)) (by omega) (by omega) (by omega))) (by omega) (by omega) (by omega) (by omega)) (fun h5 => ?_) (fun h5 => ?_)
    · replace hP := zE_p hP h5
      exact hk _ _ _ (zconso rfl (zconso (zvo (rfl : i3 x1 = i3 x1)) (zconso rfl rfl))) (zmx0 hZ (by omega)) hK hU (by omega)  hP
    · replace hP := zE_n hP h5
      have r6 := zM_k hZ 2 0 0 (3011 + 60 * x1) (lo := 0) (hi := 6) (by decide) (zs_3010_1 (x := (x1 + 0)) (by omega) (by omega) (by omega))
      refine wz_br (i3L (i3S (i3A (zm_rd (Z := Z) (ν := ν) (k := 2) (show ((0 : Nat) : Int) = 0 from rfl) (show ((0 : Nat) : Int) = 0 from rfl) (i3I (y := (3010 + 60 * x1)) (i3A (i3A (show (3010 : Int32) = i3 3010 from rfl) (i3M (show (60 : Int32) = i3 60 from rfl) (rfl : i3 x1 = i3 x1))) (show (0 : Int32) = i3 0 from rfl)) (by omega) (by omega) (by omega))) (zm_rd (Z := Z) (ν := ν) (k := 2) (show ((0 : Nat) : Int) = 0 from rfl) (show ((0 : Nat) : Int) = 0 from rfl) (i3I (y := (3011 + 60 * x1)) (i3A (i3A (show (3010 : Int32) = i3 3010 from rfl) (i3M (show (60 : Int32) = i3 60 from rfl) (rfl : i3 x1 = i3 x1))) (show (1 : Int32) = i3 1 from rfl)) (by omega) (by omega) (by omega)))) (show (1 : Int32) = i3 1 from rfl)) (i3R (zm_rd (Z := Z) (ν := ν) (k := 2) (show ((0 : Nat) : Int) = 0 from rfl) (show ((0 : Nat) : Int) = 0 from rfl) (show ((0 : Nat) : Int) = 0 from rfl)) (show (24 : Int32) = i3 24 from rfl) (by omega) (by omega) (by omega) (by omega)) (by omega) (by omega) (by omega) (by omega)) (fun h7 => ?_) (fun h7 => ?_)
      · replace hP := zE_p hP h7
        exact hk _ _ _ (zconso rfl (zconso (zvo (rfl : i3 x1 = i3 x1)) (zconso rfl rfl))) (zmx0 hZ (by omega)) hK hU (by omega)  hP
      · replace hP := zE_n hP h7
        refine wz_i0 (i3O (n := 4400) (i3A (i3A (show (3010 : Int32) = i3 3010 from rfl) (i3M (show (60 : Int32) = i3 60 from rfl) (rfl : i3 x1 = i3 x1))) (show (5 : Int32) = i3 5 from rfl)) (by omega) (by omega) (by omega)) ?_
        have r8 := zM_k hZ 2 0 0 (3015 + 60 * x1) (lo := 0) (hi := 12) (by decide) (zs_3010_5 (x := (x1 + 0)) (by omega) (by omega) (by omega))
        refine wz_br (i3Le (zm_rd (Z := Z) (ν := ν) (k := 2) (show ((0 : Nat) : Int) = 0 from rfl) (show ((0 : Nat) : Int) = 0 from rfl) (i3I (y := (3015 + 60 * x1)) (i3A (i3A (show (3010 : Int32) = i3 3010 from rfl) (i3M (show (60 : Int32) = i3 60 from rfl) (rfl : i3 x1 = i3 x1))) (show (5 : Int32) = i3 5 from rfl)) (by omega) (by omega) (by omega))) (show (0 : Int32) = i3 0 from rfl) (by omega) (by omega) (by omega) (by omega)) (fun h9 => ?_) (fun h9 => ?_)
        · replace hP := zE_p hP h9
          exact hk _ _ _ (zconso rfl (zconso (zvo (rfl : i3 x1 = i3 x1)) (zconso rfl rfl))) (zmx0 hZ (by omega)) hK hU (by omega)  hP
        · replace hP := zE_n hP h9
          obtain ⟨Z10, hZ10, c9, hZ10I, kZ10, jZ10⟩ := sp_309 (ν := ν) hZ (a1 := x1) (by omega) (by omega) (zbh (c := 0) (k := 82) hM9 (Nat.le_of_ble_eq_true rfl))
          have hZ10U : zU [] Zs Z10 := zU_t hU jZ10 zU_b0
          have hZ10K : zC [2] Zs Z10 := zC_t hK kZ10 (by decide)
          replace hP := zl_e hP hZ10
          refine wz_cV_of (zas (zcons rfl (zcons (zvi (rfl : i3 x1 = i3 x1)) rfl)) c9) ?_
          clear c9
          obtain ⟨m2, rfl⟩ : ∃ m2, m = m2 + 1 := ⟨m - 1, by omega⟩
          exact wz_k1 ⟨m2, by omega, xM9 + 82, Z10, (x2 + 1), (zconso rfl (zconso (zvo (rfl : i3 x1 = i3 x1)) (zconso (zvo (i3A (rfl : i3 x2 = i3 x2) (show (1 : Int32) = i3 1 from rfl))) rfl))), rfl, by omega, (zmt hZ10I rfl), hZ10K, hZ10U, by omega, by omega,  hP⟩
/- yX12_cHour -/
def zl_301_3 : Nat → qz_Z → Int → qz_Z × Int
  | 0, Z, x1 => (Z, x1)
  | m + 1, Z, x1 => (if (Z 2 0 0 3000) ≤ x1 then (Z, x1) else (zlet2 (zl_301_1 x1 7 Z 0) (fun Z4 y3 => zl_301_3 m Z4 (x1 + 1))))
theorem sl_301_3 {s : zSM} {xM9 : Nat} {Zs Z : qz_Z} {ν : qz_N} (hZ : zM (zb s xM9) Z) (hM : s.2 + 1722 ≤ 1000000000) (hK : zC [2] Zs Z) {x1 : Int} (gx1 : 0 ≤ x1 ∧ x1 ≤ 2) (hU : zU [] Zs Z) (hx9 : xM9 + 574 * ((2 - x1).toNat) + 574 ≤ 1722) {k : wz_K} {R : wz_R} {L : qz_L} (hL : qz_fg [true, true, false] L = [some (.inr (.inr (some (1, 0, 0)))), some (.inl (i3 x1)), none]) {T : qz_Z × Int} (hP : zE T (zl_301_3 ((2 - x1).toNat + 1) Z x1)) (hk : ∀ (L9 : qz_L) (Z9 : qz_Z) (yx1 : Int), qz_fg [false, false, false] L9 = [none, none, none] → zM (zb s 1722) Z9 → zC [2] Zs Z9 → zU [] Zs Z9 → (0 ≤ yx1 ∧ yx1 ≤ 2) → zE T ((Z9, yx1)) → k 0 (L9, [], zm Z9 ν)) : wz_loop qb_301_3 65536 k R (L, [], zm Z ν) := by
  refine wz_lp sb_301_3 (fun m x => ∃ xM9 : Nat, ∃ Z : qz_Z, ∃ x1 : Int, qz_fg [true, true, false] x.1 = [some (.inr (.inr (some (1, 0, 0)))), some (.inl (i3 x1)), none] ∧ x.2 = ([], zm Z ν) ∧ xM9 + 574 * m + 574 ≤ 1722 ∧ zM (zb s xM9) Z ∧ zC [2] Zs Z ∧ zU [] Zs Z ∧ m = (2 - x1).toNat ∧ (0 ≤ x1 ∧ x1 ≤ 2) ∧ zE T (zl_301_3 (m + 1) Z x1)) ?_ 65536 ((2 - x1).toNat) _ (by omega) ⟨xM9, Z, x1, hL, rfl, hx9, hZ, hK, hU, rfl, gx1, hP⟩
  clear hP gx1 hx9 hZ hK hU hL
  clear x1
  clear Z
  clear xM9
  rintro m ⟨L, st, μ⟩ ⟨xM9, Z, x1, hL, hx, hx9, hZ, hK, hU, hm, gx1, hP⟩
  cases hx
  have hM9 : (zb s xM9).2 + 574 ≤ 1000000000 := by
    show s.2 + xM9 + 574 ≤ 1000000000
    omega
  refine fb_301_3 (i3 x1) _ _ _ _ hL ?_
  have r1 := zM_k hZ 2 0 0 3000 (lo := 0) (hi := 2) (by decide) rfl
  refine wz_br (i3Le (zm_rd (Z := Z) (ν := ν) (k := 2) (show ((0 : Nat) : Int) = 0 from rfl) (show ((0 : Nat) : Int) = 0 from rfl) (show ((3000 : Nat) : Int) = 3000 from rfl)) (rfl : i3 x1 = i3 x1) (by omega) (by omega) (by omega) (by omega)) (fun h2 => ?_) (fun h2 => ?_)
  · replace hP := zE_p hP h2
    exact hk _ _ _ (zconso rfl (zconso rfl (zconso rfl rfl))) (zmx0 hZ (by omega)) hK hU (by omega)  hP
  · replace hP := zE_n hP h2
    refine sl_301_1 (ν := ν) (zm0 hZ) (zbh (c := 0) (k := 574) hM9 (Nat.le_of_ble_eq_true rfl)) (xM9 := 0) zC_r (x1 := x1) (by omega) (x2 := 0) (by omega) zU_r (Nat.le_of_ble_eq_true rfl)  (zconso rfl (zconso (zvo (rfl : i3 x1 = i3 x1)) (zconso (zvo (show (0 : Int32) = i3 0 from rfl)) rfl))) rfl ?_
    intro L5 Z4 y3 hL5 hZ4I kZ4 jZ4 gy3 q9
    replace hP := zl_e2 hP (Eq.symm q9)
    clear q9
    have hZ4U : zU [] Zs Z4 := zU_t hU jZ4 zU_b0
    have hZ4K : zC [2] Zs Z4 := zC_t hK kZ4 (by decide)
    refine fc_301_2 (i3 x1) _ _ _ _ hL5 ?_
    obtain ⟨m2, rfl⟩ : ∃ m2, m = m2 + 1 := ⟨m - 1, by omega⟩
    refine wz_kbs (n := 1) (?_)
    exact wz_k1 ⟨m2, by omega, xM9 + 574, Z4, (x1 + 1), (zconso rfl (zconso (zvo (i3A (rfl : i3 x1 = i3 x1) (show (1 : Int32) = i3 1 from rfl))) (zconso rfl rfl))), rfl, by omega, (zmt hZ4I rfl), hZ4K, hZ4U, by omega, by omega,  hP⟩
/- yX12_cHour -/
def zf_301 (Z : qz_Z) : qz_Z := (zlet2 (zl_301_3 3 Z 0) (fun Z2 y1 => Z2))
theorem sp_301 {s : zSM} {Z : qz_Z} {ν : qz_N} (hZ : zM s Z) (hM : s.2 + 1722 ≤ 1000000000) : ∃ P : qz_Z, P = zf_301 Z ∧ (qf_301 [.inr (.inr (some (1, 0, 0)))] (zm Z ν) = some (zm P ν, .inl none) ∧ zM (zb s 1722) P ∧ zC [2] Z P ∧ zU [] Z P) := by
  obtain ⟨P, hP⟩ := zx (zf_301 Z)
  refine zc_V (Q := fun P => zM (zb s 1722) P ∧ zC [2] Z P ∧ zU [] Z P) hP (fw_301  _ _ ?_)
  replace hP : zE P (zf_301 Z) := hP
  unfold zf_301 at hP
  refine sl_301_3 (ν := ν) (zm0 hZ) (zbh (c := 0) (k := 1722) hM (Nat.le_of_ble_eq_true rfl)) (xM9 := 0) zC_r (x1 := 0) (by omega) zU_r (Nat.le_of_ble_eq_true rfl)  (zconso rfl (zconso (zvo (show (0 : Int32) = i3 0 from rfl)) (zconso rfl rfl))) rfl ?_
  intro L3 Z2 y1 hL3 hZ2I kZ2 jZ2 gy1 q9
  replace hP := zl_e2 hP (Eq.symm q9)
  clear q9
  have hZ2U : zU [] Z Z2 := zU_t zU_r jZ2 zU_b0
  have hZ2K : zC [2] Z Z2 := zC_t zC_r kZ2 (by decide)
  refine fc_301_4  _ _ _ _ hL3 ?_
  exact zlV hP ⟨hZ2I, hZ2K, hZ2U⟩
/- yX12_xHour -/
def zf_553 (Z : qz_Z) : qz_Z := (zlet (zu Z 2 0 0 0 ((Z 2 0 0 0) + 1)) (fun Z2 => (zlet (zf_505 Z2) (fun Z3 => (zlet (zf_471 Z3) (fun Z4 => (zlet (zf_358 Z4) (fun Z5 => (zlet (zf_301 Z5) (fun Z6 => (zlet (zf_512 Z6) (fun Z7 => (if ((Z7 2 0 0 0) % 24) ≠ 0 then Z7 else (zlet (zf_265 Z7 (((Z7 2 0 0 0) / 24) - 1)) (fun Z11 => (zlet (zf_402 Z11 (((Z11 2 0 0 0) / 24) - 1)) (fun Z14 => Z14)))))))))))))))))
theorem sp_553 {s : zSM} {Z : qz_Z} {ν : qz_N} (hZ : zM s Z) (hM : s.2 + 20008 ≤ 1000000000) : ∃ P : qz_Z, P = zf_553 Z ∧ (qf_553 [.inr (.inr (some (1, 0, 0)))] (zm Z ν) = some (zm P ν, .inl none) ∧ zM (zb s 20008) P ∧ zC [1, 2, 95, 96, 1200] Z P ∧ zU [] Z P) := by
  obtain ⟨P, hP⟩ := zx (zf_553 Z)
  refine zc_V (Q := fun P => zM (zb s 20008) P ∧ zC [1, 2, 95, 96, 1200] Z P ∧ zU [] Z P) hP (fw_553  _ _ ?_)
  replace hP : zE P (zf_553 Z) := hP
  unfold zf_553 at hP
  have r1 := zM_k hZ 2 0 0 0 (lo := 0) (hi := 671) (by decide) rfl
  obtain ⟨Z2, hZ2⟩ := zx (zu Z 2 0 0 0 ((Z 2 0 0 0) + 1))
  replace hP := zl_e hP hZ2
  have hZ2I := zM_u2 hZ hZ2 (lo := 0) (hi := 671) rfl (by omega) ⟨by decide, by decide⟩ (by simp only [zsp]; omega)
  have hZ2U : zU [] Z Z2 := zU_u zU_r hZ2 (Or.inl rfl)
  have hZ2K : zC [1, 2, 95, 96, 1200] Z Z2 := zC_u zC_r hZ2 (by decide)
  intro μ9 e9
  replace e9 := e9.trans (zm_wI (Z := Z) (ν := ν) hZ2 (show ((0 : Nat) : Int) = 0 from rfl) (show ((0 : Nat) : Int) = 0 from rfl) (show ((0 : Nat) : Int) = 0 from rfl) (i3A (zm_rd (Z := Z) (ν := ν) (k := 2) (show ((0 : Nat) : Int) = 0 from rfl) (show ((0 : Nat) : Int) = 0 from rfl) (show ((0 : Nat) : Int) = 0 from rfl)) (show (1 : Int32) = i3 1 from rfl)))
  subst e9
  obtain ⟨Z3, hZ3, c9, hZ3I, kZ3, jZ3⟩ := sp_505 (ν := ν) hZ2I (zbh (c := 0) (k := 5) hM (Nat.le_of_ble_eq_true rfl))
  have hZ3U : zU [] Z Z3 := zU_t hZ2U jZ3 zU_b0
  have hZ3K : zC [1, 2, 95, 96, 1200] Z Z3 := zC_t hZ2K kZ3 (by decide)
  replace hP := zl_e hP hZ3
  refine wz_cV_of (zas (zcons rfl rfl) c9) ?_
  clear c9
  obtain ⟨Z4, hZ4, c9, hZ4I, kZ4, jZ4⟩ := sp_471 (ν := ν) hZ3I (zbh (c := 5) (k := 0) hM (Nat.le_of_ble_eq_true rfl))
  have hZ4U : zU [] Z Z4 := zU_t hZ3U jZ4 zU_b0
  have hZ4K : zC [1, 2, 95, 96, 1200] Z Z4 := zC_t hZ3K kZ4 (by decide)
  replace hP := zl_e hP hZ4
  refine wz_cV_of (zas (zcons rfl rfl) c9) ?_
  clear c9
  obtain ⟨Z5, hZ5, c9, hZ5I, kZ5, jZ5⟩ := sp_358 (ν := ν) hZ4I (zbh (c := 5) (k := 18228) hM (Nat.le_of_ble_eq_true rfl))
  have hZ5U : zU [] Z Z5 := zU_t hZ4U jZ5 zU_b0
  have hZ5K : zC [1, 2, 95, 96, 1200] Z Z5 := zC_t hZ4K kZ5 (by decide)
  replace hZ5I := zmt (c := 18233) hZ5I rfl
  replace hP := zl_e hP hZ5
  refine wz_cV_of (zas (zcons rfl rfl) c9) ?_
  clear c9
  obtain ⟨Z6, hZ6, c9, hZ6I, kZ6, jZ6⟩ := sp_301 (ν := ν) hZ5I (zbh (c := 18233) (k := 1722) hM (Nat.le_of_ble_eq_true rfl))
  have hZ6U : zU [] Z Z6 := zU_t hZ5U jZ6 zU_b0
  have hZ6K : zC [1, 2, 95, 96, 1200] Z Z6 := zC_t hZ5K kZ6 (by decide)
  replace hZ6I := zmt (c := 19955) hZ6I rfl
  replace hP := zl_e hP hZ6
  refine wz_cV_of (zas (zcons rfl rfl) c9) ?_
  clear c9
  obtain ⟨Z7, hZ7, c9, hZ7I, kZ7, jZ7⟩ := sp_512 (ν := ν) hZ6I (zbh (c := 19955) (k := 0) hM (Nat.le_of_ble_eq_true rfl))
  have hZ7U : zU [] Z Z7 := zU_t hZ6U jZ7 zU_b0
  have hZ7K : zC [1, 2, 95, 96, 1200] Z Z7 := zC_t hZ6K kZ7 (by decide)
  replace hP := zl_e hP hZ7
  refine wz_cV_of (zas (zcons rfl rfl) c9) ?_
  clear c9
  have r8 := zM_k hZ7I 2 0 0 0 (lo := 0) (hi := 671) (by decide) rfl
  have q9 := (kZ7 2 0 0 0 (by decide)).trans ((kZ6 2 0 0 0 (by decide)).trans ((kZ5 2 0 0 0 (by decide)).trans ((kZ4 2 0 0 0 (by decide)).trans ((kZ3 2 0 0 0 (by decide)).trans (zu_at hZ2)))))
  refine wz_br (i3NE (i3R (zm_rd (Z := Z7) (ν := ν) (k := 2) (show ((0 : Nat) : Int) = 0 from rfl) (show ((0 : Nat) : Int) = 0 from rfl) (show ((0 : Nat) : Int) = 0 from rfl)) (show (24 : Int32) = i3 24 from rfl) (by omega) (by omega) (by omega) (by omega)) (show (0 : Int32) = i3 0 from rfl) (by omega) (by omega) (by omega) (by omega)) (fun h10 => ?_) (fun h10 => ?_)
  · replace hP := zE_p hP h10
    exact zlV hP ⟨(zmw (a := 19955) (c := 20008) hZ7I (Nat.le_of_ble_eq_true rfl)), hZ7K, hZ7U⟩
  · replace hP := zE_n hP h10
    obtain ⟨Z11, hZ11, c9, hZ11I, kZ11, jZ11⟩ := sp_265 (ν := ν) hZ7I (a1 := (((Z7 2 0 0 0) / 24) - 1)) (by omega) (zbh (c := 19955) (k := 0) hM (Nat.le_of_ble_eq_true rfl))
    have hZ11U : zU [] Z Z11 := zU_t hZ7U jZ11 zU_b0
    have hZ11K : zC [1, 2, 95, 96, 1200] Z Z11 := zC_t hZ7K kZ11 (by decide)
    replace hP := zl_e hP hZ11
    refine wz_cV_of (zas (zcons rfl (zcons (zvi (i3S (i3D (zm_rd (Z := Z7) (ν := ν) (k := 2) (show ((0 : Nat) : Int) = 0 from rfl) (show ((0 : Nat) : Int) = 0 from rfl) (show ((0 : Nat) : Int) = 0 from rfl)) (show (24 : Int32) = i3 24 from rfl) (by omega) (by omega) (by omega) (by omega)) (show (1 : Int32) = i3 1 from rfl))) rfl)) c9) ?_
    clear c9
    have r12 := zM_k hZ11I 2 0 0 0 (lo := 0) (hi := 671) (by decide) rfl
    have q13 := kZ11 2 0 0 0 (by decide)
    obtain ⟨Z14, hZ14, c9, hZ14I, kZ14, jZ14⟩ := sp_402 (ν := ν) hZ11I (a1 := (((Z11 2 0 0 0) / 24) - 1)) (by omega) (zbh (c := 19955) (k := 53) hM (Nat.le_of_ble_eq_true rfl))
    have hZ14U : zU [] Z Z14 := zU_t hZ11U jZ14 zU_b0
    have hZ14K : zC [1, 2, 95, 96, 1200] Z Z14 := zC_t hZ11K kZ14 (by decide)
    replace hZ14I := zmt (c := 20008) hZ14I rfl
    replace hP := zl_e hP hZ14
    refine wz_cV_of (zas (zcons rfl (zcons (zvi (i3S (i3D (zm_rd (Z := Z11) (ν := ν) (k := 2) (show ((0 : Nat) : Int) = 0 from rfl) (show ((0 : Nat) : Int) = 0 from rfl) (show ((0 : Nat) : Int) = 0 from rfl)) (show (24 : Int32) = i3 24 from rfl) (by omega) (by omega) (by omega) (by omega)) (show (1 : Int32) = i3 1 from rfl))) rfl)) c9) ?_
    clear c9
    exact zlV hP ⟨hZ14I, hZ14K, hZ14U⟩
/- yX12_pass -/
def zl_450_1 (x1 : Int) : Nat → qz_Z → Int → qz_Z × Int
  | 0, Z, x2 => (Z, x2)
  | m + 1, Z, x2 => (if x1 ≤ x2 then (Z, x2) else (zlet (zf_553 Z) (fun Z2 => zl_450_1 x1 m Z2 (x2 + 1))))
theorem sl_450_1 {s : zSM} {xM9 : Nat} {Zs Z : qz_Z} {ν : qz_N} (hZ : zM (zb s xM9) Z) (hM : s.2 + 1460584 ≤ 1000000000) (hK : zC [1, 2, 95, 96, 1200] Zs Z) {x1 : Int} (gx1 : 1 ≤ x1 ∧ x1 ≤ 72) {x2 : Int} (gx2 : 0 ≤ x2 ∧ x2 ≤ 72) (hU : zU [] Zs Z) (hx9 : xM9 + 20008 * ((72 - x2).toNat) + 20008 ≤ 1460584) {k : wz_K} {R : wz_R} {L : qz_L} (hL : qz_fg [true, true, true] L = [some (.inr (.inr (some (1, 0, 0)))), some (.inl (i3 x1)), some (.inl (i3 x2))]) {T : qz_Z × Int} (hP : zE T (zl_450_1 x1 ((72 - x2).toNat + 1) Z x2)) (hk : ∀ (L9 : qz_L) (Z9 : qz_Z) (yx2 : Int), qz_fg [true, false, false] L9 = [some (.inr (.inr (some (1, 0, 0)))), none, none] → zM (zb s 1460584) Z9 → zC [1, 2, 95, 96, 1200] Zs Z9 → zU [] Zs Z9 → (0 ≤ yx2 ∧ yx2 ≤ 72) → zE T ((Z9, yx2)) → k 0 (L9, [], zm Z9 ν)) : wz_loop qb_450_1 65536 k R (L, [], zm Z ν) := by
  refine wz_lp sb_450_1 (fun m x => ∃ xM9 : Nat, ∃ Z : qz_Z, ∃ x2 : Int, qz_fg [true, true, true] x.1 = [some (.inr (.inr (some (1, 0, 0)))), some (.inl (i3 x1)), some (.inl (i3 x2))] ∧ x.2 = ([], zm Z ν) ∧ xM9 + 20008 * m + 20008 ≤ 1460584 ∧ zM (zb s xM9) Z ∧ zC [1, 2, 95, 96, 1200] Zs Z ∧ zU [] Zs Z ∧ m = (72 - x2).toNat ∧ (0 ≤ x2 ∧ x2 ≤ 72) ∧ zE T (zl_450_1 x1 (m + 1) Z x2)) ?_ 65536 ((72 - x2).toNat) _ (by omega) ⟨xM9, Z, x2, hL, rfl, hx9, hZ, hK, hU, rfl, gx2, hP⟩
  clear hP gx2 hx9 hZ hK hU hL
  clear x2
  clear Z
  clear xM9
  rintro m ⟨L, st, μ⟩ ⟨xM9, Z, x2, hL, hx, hx9, hZ, hK, hU, hm, gx2, hP⟩
  cases hx
  have hM9 : (zb s xM9).2 + 20008 ≤ 1000000000 := by
    show s.2 + xM9 + 20008 ≤ 1000000000
    omega
  refine fb_450_1 (i3 x1) (i3 x2) _ _ _ _ hL ?_
  refine wz_br (i3Le (rfl : i3 x1 = i3 x1) (rfl : i3 x2 = i3 x2) (by omega) (by omega) (by omega) (by omega)) (fun h1 => ?_) (fun h1 => ?_)
  · replace hP := zE_p hP h1
    exact hk _ _ _ (zconso rfl (zconso rfl (zconso rfl rfl))) (zmx0 hZ (by omega)) hK hU (by omega)  hP
  · replace hP := zE_n hP h1
    obtain ⟨Z2, hZ2, c9, hZ2I, kZ2, jZ2⟩ := sp_553 (ν := ν) hZ (zbh (c := 0) (k := 20008) hM9 (Nat.le_of_ble_eq_true rfl))
    have hZ2U : zU [] Zs Z2 := zU_t hU jZ2 zU_b0
    have hZ2K : zC [1, 2, 95, 96, 1200] Zs Z2 := zC_t hK kZ2 (by decide)
    replace hP := zl_e hP hZ2
    refine wz_cV_of (zas (zcons rfl rfl) c9) ?_
    clear c9
    obtain ⟨m2, rfl⟩ : ∃ m2, m = m2 + 1 := ⟨m - 1, by omega⟩
    exact wz_k1 ⟨m2, by omega, xM9 + 20008, Z2, (x2 + 1), (zconso rfl (zconso (zvo (rfl : i3 x1 = i3 x1)) (zconso (zvo (i3A (rfl : i3 x2 = i3 x2) (show (1 : Int32) = i3 1 from rfl))) rfl))), rfl, by omega, (zmt hZ2I rfl), hZ2K, hZ2U, by omega, by omega,  hP⟩
/- yX12_pass -/
def zy_450 (Z : qz_Z) (dm : qz_Z → Int → Int → Int → Int → Int → Int → Int → qz_Z) (a1 : Int) : qz_Z × Int := (if a1 < 1 then (zlet (zu Z 1 0 0 2 1) (fun Z5 => (Z5, 0))) else (if 72 < a1 then (zlet (zu Z 1 0 0 2 1) (fun Z7 => (Z7, 0))) else (zlet (zu Z 1 0 0 2 0) (fun Z8 => (if 671 < ((Z8 2 0 0 0) + a1) then (zlet (zu Z8 1 0 0 2 2) (fun Z11 => (Z11, 0))) else (zlet (zu Z8 1 0 0 2 0) (fun Z12 => (zlet (dm Z12 27 a1 0 0 0 0 0) (fun Z19 => (zlet2 (zl_450_1 a1 73 Z19 0) (fun Z21 y20 => (zlet (zu Z21 1 0 0 2 0) (fun Z23 => (Z23, (Z23 2 0 0 0)))))))))))))))
theorem sy_450 {s : zSM} {Z : qz_Z} {ν : qz_N} (hZ : zM s Z) (gq : Z 1 0 0 35 = 0) (hM : s.2 + 1460584 ≤ 1000000000) {a1 : Int} (ga1 : -2147483648 ≤ a1 ∧ a1 ≤ 2147483647) {dk : qz_Z → qz_Z} {dm : qz_Z → Int → Int → Int → Int → Int → Int → Int → qz_Z} {ν1 : qz_N} (hdm : zDm s ν ν1 Z dk dm) : ∃ (Z1 : qz_Z) (ν2 : qz_N) (v : Int), (Z1, v) = zy_450 Z dm a1 ∧ (ν2 = ν ∨ ν2 = ν1) ∧ qf_450 [.inr (.inr (some (1, 0, 0))), .inl (i3 a1)] (zm Z ν) = some (zm Z1 ν2, .inl (some (.inl (i3 v)))) ∧ (fun Z1 => zM (zb s 1460584) Z1 ∧ zC [1, 2, 95, 96, 101, 102, 200, 1200] Z Z1 ∧ zU [] Z Z1) Z1 := by
  obtain ⟨P, hP⟩ := zx (zy_450 Z dm a1)
  refine zc_Y (Q := fun Z1 => zM (zb s 1460584) Z1 ∧ zC [1, 2, 95, 96, 101, 102, 200, 1200] Z Z1 ∧ zU [] Z Z1) hP (fw_450 (i3 a1) _ _ ?_)
  replace hP : zE P (zy_450 Z dm a1) := hP
  unfold zy_450 at hP
  have r1 := zM_k hZ 1 0 0 35 (lo := 0) (hi := 1) (by decide) rfl
  have r2 := zM_k hZ 1 0 0 34 (lo := 0) (hi := 8) (by decide) rfl
  have r3 := zM_f hZ 1 0 0 37
  refine wz_br (i3L (rfl : i3 a1 = i3 a1) (show (1 : Int32) = i3 1 from rfl) (by omega) (by omega) (by omega) (by omega)) (fun h4 => ?_) (fun h4 => ?_)
  · replace hP := zE_p hP h4
    obtain ⟨Z5, hZ5⟩ := zx (zu Z 1 0 0 2 1)
    replace hP := zl_e hP hZ5
    have hZ5I := zM_u hZ hZ5 (lo := -2147483648) (hi := 2147483647) (by decide) rfl (by omega) ⟨by decide, by decide⟩ (Or.inr (by decide)) rfl
    have hZ5U : zU [] Z Z5 := zU_u zU_r hZ5 (Or.inl rfl)
    have hZ5K : zC [1, 2, 95, 96, 101, 102, 200, 1200] Z Z5 := zC_u zC_r hZ5 (by decide)
    intro μ9 e9
    replace e9 := e9.trans (zm_wI (Z := Z) (ν := ν) hZ5 (show ((0 : Nat) : Int) = 0 from rfl) (show ((0 : Nat) : Int) = 0 from rfl) (show ((2 : Nat) : Int) = 2 from rfl) (show (1 : Int32) = i3 1 from rfl))
    subst e9
    exact zlY hP (show (0 : Int32) = i3 0 from rfl) (.inl rfl) ⟨(zmw (a := 0) (c := 1460584) hZ5I (Nat.le_of_ble_eq_true rfl)), hZ5K, hZ5U⟩
  · replace hP := zE_n hP h4
    refine wz_br (i3L (show (72 : Int32) = i3 72 from rfl) (rfl : i3 a1 = i3 a1) (by omega) (by omega) (by omega) (by omega)) (fun h6 => ?_) (fun h6 => ?_)
    · replace hP := zE_p hP h6
      obtain ⟨Z7, hZ7⟩ := zx (zu Z 1 0 0 2 1)
      replace hP := zl_e hP hZ7
      have hZ7I := zM_u hZ hZ7 (lo := -2147483648) (hi := 2147483647) (by decide) rfl (by omega) ⟨by decide, by decide⟩ (Or.inr (by decide)) rfl
      have hZ7U : zU [] Z Z7 := zU_u zU_r hZ7 (Or.inl rfl)
      have hZ7K : zC [1, 2, 95, 96, 101, 102, 200, 1200] Z Z7 := zC_u zC_r hZ7 (by decide)
      intro μ9 e9
      replace e9 := e9.trans (zm_wI (Z := Z) (ν := ν) hZ7 (show ((0 : Nat) : Int) = 0 from rfl) (show ((0 : Nat) : Int) = 0 from rfl) (show ((2 : Nat) : Int) = 2 from rfl) (show (1 : Int32) = i3 1 from rfl))
      subst e9
      exact zlY hP (show (0 : Int32) = i3 0 from rfl) (.inl rfl) ⟨(zmw (a := 0) (c := 1460584) hZ7I (Nat.le_of_ble_eq_true rfl)), hZ7K, hZ7U⟩
    · replace hP := zE_n hP h6
      obtain ⟨Z8, hZ8⟩ := zx (zu Z 1 0 0 2 0)
      replace hP := zl_e hP hZ8
      have hZ8I := zM_0 hZ hZ8 (by decide) (Or.inr (by decide))
      have hZ8U : zU [] Z Z8 := zU_u zU_r hZ8 (Or.inl rfl)
      have hZ8K : zC [1, 2, 95, 96, 101, 102, 200, 1200] Z Z8 := zC_u zC_r hZ8 (by decide)
      intro μ9 e9
      replace e9 := e9.trans (zm_wI (Z := Z) (ν := ν) hZ8 (show ((0 : Nat) : Int) = 0 from rfl) (show ((0 : Nat) : Int) = 0 from rfl) (show ((2 : Nat) : Int) = 2 from rfl) (show (0 : Int32) = i3 0 from rfl))
      subst e9
      have r9 := zM_k hZ8I 2 0 0 0 (lo := 0) (hi := 671) (by decide) rfl
      refine wz_br (i3L (show (671 : Int32) = i3 671 from rfl) (i3A (zm_rd (Z := Z8) (ν := ν) (k := 2) (show ((0 : Nat) : Int) = 0 from rfl) (show ((0 : Nat) : Int) = 0 from rfl) (show ((0 : Nat) : Int) = 0 from rfl)) (rfl : i3 a1 = i3 a1)) (by omega) (by omega) (by omega) (by omega)) (fun h10 => ?_) (fun h10 => ?_)
      · replace hP := zE_p hP h10
        obtain ⟨Z11, hZ11⟩ := zx (zu Z8 1 0 0 2 2)
        replace hP := zl_e hP hZ11
        have hZ11I := zM_u hZ8I hZ11 (lo := -2147483648) (hi := 2147483647) (by decide) rfl (by omega) ⟨by decide, by decide⟩ (Or.inr (by decide)) rfl
        have hZ11U : zU [] Z Z11 := zU_u hZ8U hZ11 (Or.inl rfl)
        have hZ11K : zC [1, 2, 95, 96, 101, 102, 200, 1200] Z Z11 := zC_u hZ8K hZ11 (by decide)
        intro μ9 e9
        replace e9 := e9.trans (zm_wI (Z := Z8) (ν := ν) hZ11 (show ((0 : Nat) : Int) = 0 from rfl) (show ((0 : Nat) : Int) = 0 from rfl) (show ((2 : Nat) : Int) = 2 from rfl) (show (2 : Int32) = i3 2 from rfl))
        subst e9
        exact zlY hP (show (0 : Int32) = i3 0 from rfl) (.inl rfl) ⟨(zmw (a := 0) (c := 1460584) hZ11I (Nat.le_of_ble_eq_true rfl)), hZ11K, hZ11U⟩
      · replace hP := zE_n hP h10
        obtain ⟨Z12, hZ12⟩ := zx (zu Z8 1 0 0 2 0)
        replace hP := zl_e hP hZ12
        have hZ12I := zM_0 hZ8I hZ12 (by decide) (Or.inr (by decide))
        have hZ12U : zU [] Z Z12 := zU_u hZ8U hZ12 (Or.inl rfl)
        have hZ12K : zC [1, 2, 95, 96, 101, 102, 200, 1200] Z Z12 := zC_u hZ8K hZ12 (by decide)
        intro μ9 e9
        replace e9 := e9.trans (zm_wI (Z := Z8) (ν := ν) hZ12 (show ((0 : Nat) : Int) = 0 from rfl) (show ((0 : Nat) : Int) = 0 from rfl) (show ((2 : Nat) : Int) = 2 from rfl) (show (0 : Int32) = i3 0 from rfl))
        subst e9
        have r13 := zM_k hZ12I 1 0 0 35 (lo := 0) (hi := 1) (by decide) rfl
        have q14 := (zu_ne (k' := 1) (b' := 0) (i' := 0) (j' := 35) hZ12 (fun q => absurd q.2.2.2 (by decide))).trans (zu_ne (k' := 1) (b' := 0) (i' := 0) (j' := 35) hZ8 (fun q => absurd q.2.2.2 (by decide)))
        refine wz_i0 (Eq.trans (i3NE (zm_rd (Z := Z12) (ν := ν) (k := 1) (show ((0 : Nat) : Int) = 0 from rfl) (show ((0 : Nat) : Int) = 0 from rfl) (show ((35 : Nat) : Int) = 35 from rfl)) (show (0 : Int32) = i3 0 from rfl) (by omega) (by omega) (by omega) (by omega)) (decide_eq_false (by omega))) ?_
        have r15 := zM_k hZ12I 1 0 0 34 (lo := 0) (hi := 8) (by decide) rfl
        have q16 := (zu_ne (k' := 1) (b' := 0) (i' := 0) (j' := 34) hZ12 (fun q => absurd q.2.2.2 (by decide))).trans (zu_ne (k' := 1) (b' := 0) (i' := 0) (j' := 34) hZ8 (fun q => absurd q.2.2.2 (by decide)))
        have r17 := zM_f hZ12I 1 0 0 37
        have q18 := (zu_ne (k' := 1) (b' := 0) (i' := 0) (j' := 37) hZ12 (fun q => absurd q.2.2.2 (by decide))).trans (zu_ne (k' := 1) (b' := 0) (i' := 0) (j' := 37) hZ8 (fun q => absurd q.2.2.2 (by decide)))
        obtain ⟨c8, c9, hZ19I, dZ19⟩ := hdm Z12 27 a1 0 0 0 0 0 hZ12I (by omega) (by omega) (by omega) (by omega) (by omega) (by omega) (by omega) (by omega) (by omega) (by omega)
        obtain ⟨Z19, hZ19⟩ := zx (dm Z12 27 a1 0 0 0 0 0)
        rw [← hZ19] at c9 hZ19I dZ19
        replace hP := zl_e hP hZ19
        refine wz_cV_of (zas (zcons rfl (zcons (zvi (show (-1 : Int32) = i3 (-1) from rfl)) rfl)) c8) ?_
        refine wz_cV_of (zas (zcons rfl (zcons (zvi (show (27 : Int32) = i3 27 from rfl)) (zcons (zvi (rfl : i3 a1 = i3 a1)) (zcons (zvi (show (0 : Int32) = i3 0 from rfl)) (zcons (zvi (show (0 : Int32) = i3 0 from rfl)) (zcons (zvi (show (0 : Int32) = i3 0 from rfl)) (zcons (zvi (show (0 : Int32) = i3 0 from rfl)) (zcons (zvi (show (0 : Int32) = i3 0 from rfl)) rfl)))))))) c9) ?_
        clear c8 c9
        have hZ19K : zC [1, 2, 95, 96, 101, 102, 200, 1200] Z Z19 := zC_t hZ12K (zMd_C dZ19) (by decide)
        have hZ19U : zU [] Z Z19 := zU_t hZ12U (zMd_U dZ19) zU_b0
        refine sl_450_1 (ν := ν1) (zm0 hZ19I) (zbh (c := 0) (k := 1460584) hM (Nat.le_of_ble_eq_true rfl)) (xM9 := 0) zC_r (x1 := a1) (by omega) (x2 := 0) (by omega) zU_r (Nat.le_of_ble_eq_true rfl)  (zconso rfl (zconso (zvo (rfl : i3 a1 = i3 a1)) (zconso (zvo (show (0 : Int32) = i3 0 from rfl)) rfl))) rfl ?_
        intro L22 Z21 y20 hL22 hZ21I kZ21 jZ21 gy20 q9
        replace hP := zl_e2 hP (Eq.symm q9)
        clear q9
        have hZ21U : zU [] Z Z21 := zU_t hZ19U jZ21 zU_b0
        have hZ21K : zC [1, 2, 95, 96, 101, 102, 200, 1200] Z Z21 := zC_t hZ19K kZ21 (by decide)
        refine fc_450_2  _ _ _ _ hL22 ?_
        obtain ⟨Z23, hZ23⟩ := zx (zu Z21 1 0 0 2 0)
        replace hP := zl_e hP hZ23
        have hZ23I := zM_0 hZ21I hZ23 (by decide) (Or.inr (by decide))
        have hZ23U : zU [] Z Z23 := zU_u hZ21U hZ23 (Or.inl rfl)
        have hZ23K : zC [1, 2, 95, 96, 101, 102, 200, 1200] Z Z23 := zC_u hZ21K hZ23 (by decide)
        intro μ9 e9
        replace e9 := e9.trans (zm_wI (Z := Z21) (ν := ν1) hZ23 (show ((0 : Nat) : Int) = 0 from rfl) (show ((0 : Nat) : Int) = 0 from rfl) (show ((2 : Nat) : Int) = 2 from rfl) (show (0 : Int32) = i3 0 from rfl))
        subst e9
        have r24 := zM_k hZ23I 2 0 0 0 (lo := 0) (hi := 671) (by decide) rfl
        exact zlY hP (zm_rd (Z := Z23) (ν := ν1) (k := 2) (show ((0 : Nat) : Int) = 0 from rfl) (show ((0 : Nat) : Int) = 0 from rfl) (show ((0 : Nat) : Int) = 0 from rfl)) (.inr rfl) ⟨hZ23I, hZ23K, hZ23U⟩
/- yX12_cTry -/
def zl_313_1 (x1 : Int) (x3 : Int) (x4 : Int) (x5 : Int) (x6 : Int) : Nat → qz_Z → Int → qz_Z × Int
  | 0, Z, x7 => (Z, x7)
  | m + 1, Z, x7 => (if x6 ≤ x7 then (Z, x7) else (zlet (zf_309 Z x1) (fun Z3 => (if (Z3 2 0 0 (204 + 20 * (Z 2 0 0 (3022 + 60 * x1)))) ≠ 0 then (zlet (zu Z3 91 0 0 3 ((Z3 91 0 0 3) + 0)) (fun Z8 => zl_313_1 x1 x3 x4 x5 x6 m Z8 (x7 + 1))) else (zlet (zu Z3 91 0 0 3 (w3 ((Z3 91 0 0 3) + 1))) (fun Z11 => zl_313_1 x1 x3 x4 x5 x6 m Z11 (x7 + 1)))))))
theorem sl_313_1 {s : zSM} {xM9 : Nat} {Zs Z : qz_Z} {ν : qz_N} (hZ : zM (zb s xM9) Z) (hM : s.2 + 1066 ≤ 1000000000) (hK : zC [2, 91] Zs Z) {x1 : Int} (gx1 : 0 ≤ x1 ∧ x1 ≤ 1) {x3 : Int} (gx3 : -2147483648 ≤ x3 ∧ x3 ≤ 2147483647) {x4 : Int} (gx4 : -2147483648 ≤ x4 ∧ x4 ≤ 2147483647) {x5 : Int} (gx5 : -2147483648 ≤ x5 ∧ x5 ≤ 2147483647) {x6 : Int} (gx6 : 0 ≤ x6 ∧ x6 ≤ 12) {x7 : Int} (gx7 : 0 ≤ x7 ∧ x7 ≤ 12) (hU : zU [] Zs Z) (hx9 : xM9 + 82 * ((12 - x7).toNat) + 82 ≤ 1066) {k : wz_K} {R : wz_R} {L : qz_L} (hL : qz_fg [true, true, false, true, true, true, true, true, false] L = [some (.inr (.inr (some (1, 0, 0)))), some (.inl (i3 x1)), none, some (.inl (i3 x3)), some (.inl (i3 x4)), some (.inl (i3 x5)), some (.inl (i3 x6)), some (.inl (i3 x7)), none]) {T : qz_Z × Int} (hP : zE T (zl_313_1 x1 x3 x4 x5 x6 ((12 - x7).toNat + 1) Z x7)) (hk : ∀ (L9 : qz_L) (Z9 : qz_Z) (yx7 : Int), qz_fg [true, true, false, true, true, true, true, false, false] L9 = [some (.inr (.inr (some (1, 0, 0)))), some (.inl (i3 x1)), none, some (.inl (i3 x3)), some (.inl (i3 x4)), some (.inl (i3 x5)), some (.inl (i3 x6)), none, none] → zM (zb s 1066) Z9 → zC [2, 91] Zs Z9 → zU [] Zs Z9 → (0 ≤ yx7 ∧ yx7 ≤ 12) → zE T ((Z9, yx7)) → k 0 (L9, [], zm Z9 ν)) : wz_loop qb_313_1 65536 k R (L, [], zm Z ν) := by
  refine wz_lp sb_313_1 (fun m x => ∃ xM9 : Nat, ∃ Z : qz_Z, ∃ x7 : Int, qz_fg [true, true, false, true, true, true, true, true, false] x.1 = [some (.inr (.inr (some (1, 0, 0)))), some (.inl (i3 x1)), none, some (.inl (i3 x3)), some (.inl (i3 x4)), some (.inl (i3 x5)), some (.inl (i3 x6)), some (.inl (i3 x7)), none] ∧ x.2 = ([], zm Z ν) ∧ xM9 + 82 * m + 82 ≤ 1066 ∧ zM (zb s xM9) Z ∧ zC [2, 91] Zs Z ∧ zU [] Zs Z ∧ m = (12 - x7).toNat ∧ (0 ≤ x7 ∧ x7 ≤ 12) ∧ zE T (zl_313_1 x1 x3 x4 x5 x6 (m + 1) Z x7)) ?_ 65536 ((12 - x7).toNat) _ (by omega) ⟨xM9, Z, x7, hL, rfl, hx9, hZ, hK, hU, rfl, gx7, hP⟩
  clear hP gx7 hx9 hZ hK hU hL
  clear x7
  clear Z
  clear xM9
  rintro m ⟨L, st, μ⟩ ⟨xM9, Z, x7, hL, hx, hx9, hZ, hK, hU, hm, gx7, hP⟩
  cases hx
  have hM9 : (zb s xM9).2 + 82 ≤ 1000000000 := by
    show s.2 + xM9 + 82 ≤ 1000000000
    omega
  refine fb_313_1 (i3 x1) (i3 x3) (i3 x4) (i3 x5) (i3 x6) (i3 x7) _ _ _ _ hL ?_
  refine wz_br (i3Le (rfl : i3 x6 = i3 x6) (rfl : i3 x7 = i3 x7) (by omega) (by omega) (by omega) (by omega)) (fun h1 => ?_) (fun h1 => ?_)
  · replace hP := zE_p hP h1
    exact hk _ _ _ (zconso rfl (zconso (zvo (rfl : i3 x1 = i3 x1)) (zconso rfl (zconso (zvo (rfl : i3 x3 = i3 x3)) (zconso (zvo (rfl : i3 x4 = i3 x4)) (zconso (zvo (rfl : i3 x5 = i3 x5)) (zconso (zvo (rfl : i3 x6 = i3 x6)) (zconso rfl (zconso rfl rfl))))))))) (zmx0 hZ (by omega)) hK hU (by omega)  hP
  · replace hP := zE_n hP h1
    refine wz_i0 (i3O (n := 4400) (i3A (i3A (i3A (i3A (show (3010 : Int32) = i3 3010 from rfl) (i3M (show (60 : Int32) = i3 60 from rfl) (rfl : i3 x1 = i3 x1))) (show (12 : Int32) = i3 12 from rfl)) (show (0 : Int32) = i3 0 from rfl)) (show (0 : Int32) = i3 0 from rfl)) (by omega) (by omega) (by omega)) ?_
    have r2 := zM_k hZ 2 0 0 (3015 + 60 * x1) (lo := 0) (hi := 12) (by decide) (zs_3010_5 (x := (x1 + 0)) (by omega) (by omega) (by omega))
    obtain ⟨Z3, hZ3, c9, hZ3I, kZ3, jZ3⟩ := sp_309 (ν := ν) hZ (a1 := x1) (by omega) (by omega) (zbh (c := 0) (k := 82) hM9 (Nat.le_of_ble_eq_true rfl))
    have hZ3U : zU [] Zs Z3 := zU_t hU jZ3 zU_b0
    have hZ3K : zC [2, 91] Zs Z3 := zC_t hK kZ3 (by decide)
    replace hP := zl_e hP hZ3
    refine wz_cV_of (zas (zcons rfl (zcons (zvi (rfl : i3 x1 = i3 x1)) rfl)) c9) ?_
    clear c9
    have r4 := zM_k hZ 2 0 0 (3022 + 60 * x1) (lo := 0) (hi := 47) (by decide) (zs_3010_12 (x := (x1 + 0)) (by omega) (by omega) (by omega))
    refine wz_i0 (i3O (n := 4400) (i3A (i3A (show (200 : Int32) = i3 200 from rfl) (i3M (show (20 : Int32) = i3 20 from rfl) (zm_rd (Z := Z) (ν := ν) (k := 2) (show ((0 : Nat) : Int) = 0 from rfl) (show ((0 : Nat) : Int) = 0 from rfl) (i3I (y := (3022 + 60 * x1)) (i3A (i3A (i3A (i3A (show (3010 : Int32) = i3 3010 from rfl) (i3M (show (60 : Int32) = i3 60 from rfl) (rfl : i3 x1 = i3 x1))) (show (12 : Int32) = i3 12 from rfl)) (show (0 : Int32) = i3 0 from rfl)) (show (0 : Int32) = i3 0 from rfl)) (by omega) (by omega) (by omega))))) (show (4 : Int32) = i3 4 from rfl)) (by omega) (by omega) (by omega)) ?_
    have r5 := zM_k hZ3I 2 0 0 (204 + 20 * (Z 2 0 0 (3022 + 60 * x1))) (lo := 0) (hi := 40) (by decide) (zs_200_4 (x := (Z 2 0 0 (3022 + 60 * x1))) (by omega) (by omega) (by omega))
    refine wz_br (i3NE (zm_rd (Z := Z3) (ν := ν) (k := 2) (show ((0 : Nat) : Int) = 0 from rfl) (show ((0 : Nat) : Int) = 0 from rfl) (i3I (y := (204 + 20 * (Z 2 0 0 (3022 + 60 * x1)))) (i3A (i3A (show (200 : Int32) = i3 200 from rfl) (i3M (show (20 : Int32) = i3 20 from rfl) (zm_rd (Z := Z) (ν := ν) (k := 2) (show ((0 : Nat) : Int) = 0 from rfl) (show ((0 : Nat) : Int) = 0 from rfl) (i3I (y := (3022 + 60 * x1)) (i3A (i3A (i3A (i3A (show (3010 : Int32) = i3 3010 from rfl) (i3M (show (60 : Int32) = i3 60 from rfl) (rfl : i3 x1 = i3 x1))) (show (12 : Int32) = i3 12 from rfl)) (show (0 : Int32) = i3 0 from rfl)) (show (0 : Int32) = i3 0 from rfl)) (by omega) (by omega) (by omega))))) (show (4 : Int32) = i3 4 from rfl)) (by omega) (by omega) (by omega))) (show (0 : Int32) = i3 0 from rfl) (by omega) (by omega) (by omega) (by omega)) (fun h6 => ?_) (fun h6 => ?_)
    · replace hP := zE_p hP h6
      have r7 := zM_f hZ3I 91 0 0 3
      obtain ⟨Z8, hZ8⟩ := zx (zu Z3 91 0 0 3 ((Z3 91 0 0 3) + 0))
      replace hP := zl_e hP hZ8
      have hZ8I := zM_u hZ3I hZ8 (lo := -2147483648) (hi := 2147483647) (by decide) rfl (by omega) ⟨by decide, by decide⟩ (Or.inl (by decide)) rfl
      have hZ8U : zU [] Zs Z8 := zU_u hZ3U hZ8 (Or.inl rfl)
      have hZ8K : zC [2, 91] Zs Z8 := zC_u hZ3K hZ8 (by decide)
      intro μ9 e9
      replace e9 := e9.trans (zm_wI (Z := Z3) (ν := ν) hZ8 (show ((0 : Nat) : Int) = 0 from rfl) (show ((0 : Nat) : Int) = 0 from rfl) (show ((3 : Nat) : Int) = 3 from rfl) (i3A (zm_rd (Z := Z3) (ν := ν) (k := 91) (show ((0 : Nat) : Int) = 0 from rfl) (show ((0 : Nat) : Int) = 0 from rfl) (show ((3 : Nat) : Int) = 3 from rfl)) (show (0 : Int32) = i3 0 from rfl)))
      subst e9
      obtain ⟨m2, rfl⟩ : ∃ m2, m = m2 + 1 := ⟨m - 1, by omega⟩
      exact wz_k1 ⟨m2, by omega, xM9 + 82, Z8, (x7 + 1), (zconso rfl (zconso (zvo (rfl : i3 x1 = i3 x1)) (zconso rfl (zconso (zvo (rfl : i3 x3 = i3 x3)) (zconso (zvo (rfl : i3 x4 = i3 x4)) (zconso (zvo (rfl : i3 x5 = i3 x5)) (zconso (zvo (rfl : i3 x6 = i3 x6)) (zconso (zvo (i3A (rfl : i3 x7 = i3 x7) (show (1 : Int32) = i3 1 from rfl))) (zconso rfl rfl))))))))), rfl, by omega, (zmt hZ8I rfl), hZ8K, hZ8U, by omega, by omega,  hP⟩
    · replace hP := zE_n hP h6
      have r9 := zM_f hZ3I 91 0 0 3
      have r10 := w3_r ((Z3 91 0 0 3) + 1)
      obtain ⟨Z11, hZ11⟩ := zx (zu Z3 91 0 0 3 (w3 ((Z3 91 0 0 3) + 1)))
      replace hP := zl_e hP hZ11
      have hZ11I := zM_u hZ3I hZ11 (lo := -2147483648) (hi := 2147483647) (by decide) rfl (by omega) ⟨by decide, by decide⟩ (Or.inl (by decide)) rfl
      have hZ11U : zU [] Zs Z11 := zU_u hZ3U hZ11 (Or.inl rfl)
      have hZ11K : zC [2, 91] Zs Z11 := zC_u hZ3K hZ11 (by decide)
      intro μ9 e9
      replace e9 := e9.trans (zm_wI (Z := Z3) (ν := ν) hZ11 (show ((0 : Nat) : Int) = 0 from rfl) (show ((0 : Nat) : Int) = 0 from rfl) (show ((3 : Nat) : Int) = 3 from rfl) (i3W (i3A (zm_rd (Z := Z3) (ν := ν) (k := 91) (show ((0 : Nat) : Int) = 0 from rfl) (show ((0 : Nat) : Int) = 0 from rfl) (show ((3 : Nat) : Int) = 3 from rfl)) (show (1 : Int32) = i3 1 from rfl))))
      subst e9
      obtain ⟨m2, rfl⟩ : ∃ m2, m = m2 + 1 := ⟨m - 1, by omega⟩
      exact wz_k1 ⟨m2, by omega, xM9 + 82, Z11, (x7 + 1), (zconso rfl (zconso (zvo (rfl : i3 x1 = i3 x1)) (zconso rfl (zconso (zvo (rfl : i3 x3 = i3 x3)) (zconso (zvo (rfl : i3 x4 = i3 x4)) (zconso (zvo (rfl : i3 x5 = i3 x5)) (zconso (zvo (rfl : i3 x6 = i3 x6)) (zconso (zvo (i3A (rfl : i3 x7 = i3 x7) (show (1 : Int32) = i3 1 from rfl))) (zconso rfl rfl))))))))), rfl, by omega, (zmt hZ11I rfl), hZ11K, hZ11U, by omega, by omega,  hP⟩
/- yX12_cTry -/
def zf_313 (Z : qz_Z) (a1 : Int) (a2 : Int) : qz_Z := (zlet (zf_351 Z 0) (fun Z1 => (if a2 ≤ (Z1 2 0 0 (3015 + 60 * a1)) then (zlet (zu Z1 91 0 0 3 0) (fun Z4 => (zlet2 (zl_313_1 a1 (Z1 2 0 0 (3021 + 60 * a1)) (Z1 2 0 0 (3019 + 60 * a1)) (Z1 2 0 0 (3020 + 60 * a1)) a2 13 Z4 0) (fun Z9 y8 => (zlet (zu Z9 91 0 0 0 (w3 ((Z9 2 0 0 (3021 + 60 * a1)) - (Z1 2 0 0 (3021 + 60 * a1))))) (fun Z13 => (zlet (zu Z13 91 0 0 1 (w3 ((Z13 2 0 0 (3019 + 60 * a1)) - (Z1 2 0 0 (3019 + 60 * a1))))) (fun Z16 => (zlet (zu Z16 91 0 0 2 (w3 ((Z16 2 0 0 (3020 + 60 * a1)) - (Z1 2 0 0 (3020 + 60 * a1))))) (fun Z19 => (zlet (zu Z19 91 0 0 4 (Z19 2 0 0 (3016 + 60 * a1))) (fun Z21 => (zlet (zf_493 Z21 0) (fun Z22 => Z22)))))))))))))) else (zlet (zu Z1 91 0 0 3 0) (fun Z23 => (zlet2 (zl_313_1 a1 (Z1 2 0 0 (3021 + 60 * a1)) (Z1 2 0 0 (3019 + 60 * a1)) (Z1 2 0 0 (3020 + 60 * a1)) (Z1 2 0 0 (3015 + 60 * a1)) 13 Z23 0) (fun Z28 y27 => (zlet (zu Z28 91 0 0 0 (w3 ((Z28 2 0 0 (3021 + 60 * a1)) - (Z1 2 0 0 (3021 + 60 * a1))))) (fun Z32 => (zlet (zu Z32 91 0 0 1 (w3 ((Z32 2 0 0 (3019 + 60 * a1)) - (Z1 2 0 0 (3019 + 60 * a1))))) (fun Z35 => (zlet (zu Z35 91 0 0 2 (w3 ((Z35 2 0 0 (3020 + 60 * a1)) - (Z1 2 0 0 (3020 + 60 * a1))))) (fun Z38 => (if (Z1 2 0 0 (3015 + 60 * a1)) ≠ 0 then (zlet (zu Z38 91 0 0 4 (Z38 2 0 0 (3016 + 60 * a1))) (fun Z41 => (zlet (zf_493 Z41 0) (fun Z42 => Z42)))) else (zlet (zu Z38 91 0 0 4 (-1)) (fun Z43 => (zlet (zf_493 Z43 0) (fun Z44 => Z44))))))))))))))))))
theorem sp_313 {s : zSM} {Z : qz_Z} {ν : qz_N} (hZ : zM s Z) {a1 : Int} (ga1 : 0 ≤ a1 ∧ a1 ≤ 1) {a2 : Int} (ga2 : 1 ≤ a2 ∧ a2 ≤ 12) (hM : s.2 + 1066 ≤ 1000000000) : ∃ P : qz_Z, P = zf_313 Z a1 a2 ∧ (qf_313 [.inr (.inr (some (1, 0, 0))), .inl (i3 a1), .inl (i3 a2)] (zm Z ν) = some (zm P ν, .inl none) ∧ zM (zb s 1066) P ∧ zC [2, 81, 91, 1200] Z P ∧ zU [] Z P) := by
  obtain ⟨P, hP⟩ := zx (zf_313 Z a1 a2)
  refine zc_V (Q := fun P => zM (zb s 1066) P ∧ zC [2, 81, 91, 1200] Z P ∧ zU [] Z P) hP (fw_313 (i3 a1) (i3 a2) _ _ ?_)
  replace hP : zE P (zf_313 Z a1 a2) := hP
  unfold zf_313 at hP
  obtain ⟨Z1, hZ1, c9, hZ1I, kZ1, jZ1⟩ := sp_351 (ν := ν) hZ (a1 := 0) (by omega) (zbh (c := 0) (k := 0) hM (Nat.le_of_ble_eq_true rfl))
  have hZ1U : zU [] Z Z1 := zU_t zU_r jZ1 zU_b0
  have hZ1K : zC [2, 81, 91, 1200] Z Z1 := zC_t zC_r kZ1 (by decide)
  replace hP := zl_e hP hZ1
  refine wz_cV_of (zas (zcons rfl (zcons (zvi (show (0 : Int32) = i3 0 from rfl)) rfl)) c9) ?_
  clear c9
  refine wz_i0 (i3O (n := 4400) (i3A (i3A (show (3010 : Int32) = i3 3010 from rfl) (i3M (show (60 : Int32) = i3 60 from rfl) (rfl : i3 a1 = i3 a1))) (show (11 : Int32) = i3 11 from rfl)) (by omega) (by omega) (by omega)) ?_
  refine wz_i0 (i3O (n := 4400) (i3A (i3A (show (3010 : Int32) = i3 3010 from rfl) (i3M (show (60 : Int32) = i3 60 from rfl) (rfl : i3 a1 = i3 a1))) (show (9 : Int32) = i3 9 from rfl)) (by omega) (by omega) (by omega)) ?_
  refine wz_i0 (i3O (n := 4400) (i3A (i3A (show (3010 : Int32) = i3 3010 from rfl) (i3M (show (60 : Int32) = i3 60 from rfl) (rfl : i3 a1 = i3 a1))) (show (10 : Int32) = i3 10 from rfl)) (by omega) (by omega) (by omega)) ?_
  refine wz_i0 (i3O (n := 4400) (i3A (i3A (show (3010 : Int32) = i3 3010 from rfl) (i3M (show (60 : Int32) = i3 60 from rfl) (rfl : i3 a1 = i3 a1))) (show (5 : Int32) = i3 5 from rfl)) (by omega) (by omega) (by omega)) ?_
  have r2 := zM_k hZ1I 2 0 0 (3015 + 60 * a1) (lo := 0) (hi := 12) (by decide) (zs_3010_5 (x := (a1 + 0)) (by omega) (by omega) (by omega))
  refine wz_br (i3Le (rfl : i3 a2 = i3 a2) (zm_rd (Z := Z1) (ν := ν) (k := 2) (show ((0 : Nat) : Int) = 0 from rfl) (show ((0 : Nat) : Int) = 0 from rfl) (i3I (y := (3015 + 60 * a1)) (i3A (i3A (show (3010 : Int32) = i3 3010 from rfl) (i3M (show (60 : Int32) = i3 60 from rfl) (rfl : i3 a1 = i3 a1))) (show (5 : Int32) = i3 5 from rfl)) (by omega) (by omega) (by omega))) (by omega) (by omega) (by omega) (by omega)) (fun h3 => ?_) (fun h3 => ?_)
  · replace hP := zE_p hP h3
    obtain ⟨Z4, hZ4⟩ := zx (zu Z1 91 0 0 3 0)
    replace hP := zl_e hP hZ4
    have hZ4I := zM_0 hZ1I hZ4 (by decide) (Or.inl (by decide))
    have hZ4U : zU [] Z Z4 := zU_u hZ1U hZ4 (Or.inl rfl)
    have hZ4K : zC [2, 81, 91, 1200] Z Z4 := zC_u hZ1K hZ4 (by decide)
    intro μ9 e9
    replace e9 := e9.trans (zm_wI (Z := Z1) (ν := ν) hZ4 (show ((0 : Nat) : Int) = 0 from rfl) (show ((0 : Nat) : Int) = 0 from rfl) (show ((3 : Nat) : Int) = 3 from rfl) (show (0 : Int32) = i3 0 from rfl))
    subst e9
    have r5 := zM_f hZ1I 2 0 0 (3021 + 60 * a1)
    have r6 := zM_f hZ1I 2 0 0 (3019 + 60 * a1)
    have r7 := zM_f hZ1I 2 0 0 (3020 + 60 * a1)
    refine sl_313_1 (ν := ν) (zm0 hZ4I) (zbh (c := 0) (k := 1066) hM (Nat.le_of_ble_eq_true rfl)) (xM9 := 0) zC_r (x1 := a1) (by omega) (x3 := (Z1 2 0 0 (3021 + 60 * a1))) (by omega) (x4 := (Z1 2 0 0 (3019 + 60 * a1))) (by omega) (x5 := (Z1 2 0 0 (3020 + 60 * a1))) (by omega) (x6 := a2) (by omega) (x7 := 0) (by omega) zU_r (Nat.le_of_ble_eq_true rfl)  (zconso rfl (zconso (zvo (rfl : i3 a1 = i3 a1)) (zconso rfl (zconso (zvo (zm_rd (Z := Z1) (ν := ν) (k := 2) (show ((0 : Nat) : Int) = 0 from rfl) (show ((0 : Nat) : Int) = 0 from rfl) (i3I (y := (3021 + 60 * a1)) (i3A (i3A (show (3010 : Int32) = i3 3010 from rfl) (i3M (show (60 : Int32) = i3 60 from rfl) (rfl : i3 a1 = i3 a1))) (show (11 : Int32) = i3 11 from rfl)) (by omega) (by omega) (by omega)))) (zconso (zvo (zm_rd (Z := Z1) (ν := ν) (k := 2) (show ((0 : Nat) : Int) = 0 from rfl) (show ((0 : Nat) : Int) = 0 from rfl) (i3I (y := (3019 + 60 * a1)) (i3A (i3A (show (3010 : Int32) = i3 3010 from rfl) (i3M (show (60 : Int32) = i3 60 from rfl) (rfl : i3 a1 = i3 a1))) (show (9 : Int32) = i3 9 from rfl)) (by omega) (by omega) (by omega)))) (zconso (zvo (zm_rd (Z := Z1) (ν := ν) (k := 2) (show ((0 : Nat) : Int) = 0 from rfl) (show ((0 : Nat) : Int) = 0 from rfl) (i3I (y := (3020 + 60 * a1)) (i3A (i3A (show (3010 : Int32) = i3 3010 from rfl) (i3M (show (60 : Int32) = i3 60 from rfl) (rfl : i3 a1 = i3 a1))) (show (10 : Int32) = i3 10 from rfl)) (by omega) (by omega) (by omega)))) (zconso (zvo (rfl : i3 a2 = i3 a2)) (zconso (zvo (show (0 : Int32) = i3 0 from rfl)) (zconso rfl rfl))))))))) rfl ?_
    intro L10 Z9 y8 hL10 hZ9I kZ9 jZ9 gy8 q9
    replace hP := zl_e2 hP (Eq.symm q9)
    clear q9
    have hZ9U : zU [] Z Z9 := zU_t hZ4U jZ9 zU_b0
    have hZ9K : zC [2, 81, 91, 1200] Z Z9 := zC_t hZ4K kZ9 (by decide)
    refine fc_313_2 (i3 a1) (i3 (Z1 2 0 0 (3021 + 60 * a1))) (i3 (Z1 2 0 0 (3019 + 60 * a1))) (i3 (Z1 2 0 0 (3020 + 60 * a1))) (i3 a2) _ _ _ _ hL10 ?_
    refine wz_i0 (i3O (n := 4400) (i3A (i3A (show (3010 : Int32) = i3 3010 from rfl) (i3M (show (60 : Int32) = i3 60 from rfl) (rfl : i3 a1 = i3 a1))) (show (11 : Int32) = i3 11 from rfl)) (by omega) (by omega) (by omega)) ?_
    have r11 := zM_f hZ9I 2 0 0 (3021 + 60 * a1)
    have r12 := w3_r ((Z9 2 0 0 (3021 + 60 * a1)) - (Z1 2 0 0 (3021 + 60 * a1)))
    obtain ⟨Z13, hZ13⟩ := zx (zu Z9 91 0 0 0 (w3 ((Z9 2 0 0 (3021 + 60 * a1)) - (Z1 2 0 0 (3021 + 60 * a1)))))
    replace hP := zl_e hP hZ13
    have hZ13I := zM_u hZ9I hZ13 (lo := -2147483648) (hi := 2147483647) (by decide) rfl (by omega) ⟨by decide, by decide⟩ (Or.inl (by decide)) rfl
    have hZ13U : zU [] Z Z13 := zU_u hZ9U hZ13 (Or.inl rfl)
    have hZ13K : zC [2, 81, 91, 1200] Z Z13 := zC_u hZ9K hZ13 (by decide)
    intro μ9 e9
    replace e9 := e9.trans (zm_wI (Z := Z9) (ν := ν) hZ13 (show ((0 : Nat) : Int) = 0 from rfl) (show ((0 : Nat) : Int) = 0 from rfl) (show ((0 : Nat) : Int) = 0 from rfl) (i3W (i3S (zm_rd (Z := Z9) (ν := ν) (k := 2) (show ((0 : Nat) : Int) = 0 from rfl) (show ((0 : Nat) : Int) = 0 from rfl) (i3I (y := (3021 + 60 * a1)) (i3A (i3A (show (3010 : Int32) = i3 3010 from rfl) (i3M (show (60 : Int32) = i3 60 from rfl) (rfl : i3 a1 = i3 a1))) (show (11 : Int32) = i3 11 from rfl)) (by omega) (by omega) (by omega))) (rfl : i3 (Z1 2 0 0 (3021 + 60 * a1)) = i3 (Z1 2 0 0 (3021 + 60 * a1))))))
    subst e9
    refine wz_i0 (i3O (n := 4400) (i3A (i3A (show (3010 : Int32) = i3 3010 from rfl) (i3M (show (60 : Int32) = i3 60 from rfl) (rfl : i3 a1 = i3 a1))) (show (9 : Int32) = i3 9 from rfl)) (by omega) (by omega) (by omega)) ?_
    have r14 := zM_f hZ13I 2 0 0 (3019 + 60 * a1)
    have r15 := w3_r ((Z13 2 0 0 (3019 + 60 * a1)) - (Z1 2 0 0 (3019 + 60 * a1)))
    obtain ⟨Z16, hZ16⟩ := zx (zu Z13 91 0 0 1 (w3 ((Z13 2 0 0 (3019 + 60 * a1)) - (Z1 2 0 0 (3019 + 60 * a1)))))
    replace hP := zl_e hP hZ16
    have hZ16I := zM_u hZ13I hZ16 (lo := -2147483648) (hi := 2147483647) (by decide) rfl (by omega) ⟨by decide, by decide⟩ (Or.inl (by decide)) rfl
    have hZ16U : zU [] Z Z16 := zU_u hZ13U hZ16 (Or.inl rfl)
    have hZ16K : zC [2, 81, 91, 1200] Z Z16 := zC_u hZ13K hZ16 (by decide)
    intro μ9 e9
    replace e9 := e9.trans (zm_wI (Z := Z13) (ν := ν) hZ16 (show ((0 : Nat) : Int) = 0 from rfl) (show ((0 : Nat) : Int) = 0 from rfl) (show ((1 : Nat) : Int) = 1 from rfl) (i3W (i3S (zm_rd (Z := Z13) (ν := ν) (k := 2) (show ((0 : Nat) : Int) = 0 from rfl) (show ((0 : Nat) : Int) = 0 from rfl) (i3I (y := (3019 + 60 * a1)) (i3A (i3A (show (3010 : Int32) = i3 3010 from rfl) (i3M (show (60 : Int32) = i3 60 from rfl) (rfl : i3 a1 = i3 a1))) (show (9 : Int32) = i3 9 from rfl)) (by omega) (by omega) (by omega))) (rfl : i3 (Z1 2 0 0 (3019 + 60 * a1)) = i3 (Z1 2 0 0 (3019 + 60 * a1))))))
    subst e9
    refine wz_i0 (i3O (n := 4400) (i3A (i3A (show (3010 : Int32) = i3 3010 from rfl) (i3M (show (60 : Int32) = i3 60 from rfl) (rfl : i3 a1 = i3 a1))) (show (10 : Int32) = i3 10 from rfl)) (by omega) (by omega) (by omega)) ?_
    have r17 := zM_f hZ16I 2 0 0 (3020 + 60 * a1)
    have r18 := w3_r ((Z16 2 0 0 (3020 + 60 * a1)) - (Z1 2 0 0 (3020 + 60 * a1)))
    obtain ⟨Z19, hZ19⟩ := zx (zu Z16 91 0 0 2 (w3 ((Z16 2 0 0 (3020 + 60 * a1)) - (Z1 2 0 0 (3020 + 60 * a1)))))
    replace hP := zl_e hP hZ19
    have hZ19I := zM_u hZ16I hZ19 (lo := -2147483648) (hi := 2147483647) (by decide) rfl (by omega) ⟨by decide, by decide⟩ (Or.inl (by decide)) rfl
    have hZ19U : zU [] Z Z19 := zU_u hZ16U hZ19 (Or.inl rfl)
    have hZ19K : zC [2, 81, 91, 1200] Z Z19 := zC_u hZ16K hZ19 (by decide)
    intro μ9 e9
    replace e9 := e9.trans (zm_wI (Z := Z16) (ν := ν) hZ19 (show ((0 : Nat) : Int) = 0 from rfl) (show ((0 : Nat) : Int) = 0 from rfl) (show ((2 : Nat) : Int) = 2 from rfl) (i3W (i3S (zm_rd (Z := Z16) (ν := ν) (k := 2) (show ((0 : Nat) : Int) = 0 from rfl) (show ((0 : Nat) : Int) = 0 from rfl) (i3I (y := (3020 + 60 * a1)) (i3A (i3A (show (3010 : Int32) = i3 3010 from rfl) (i3M (show (60 : Int32) = i3 60 from rfl) (rfl : i3 a1 = i3 a1))) (show (10 : Int32) = i3 10 from rfl)) (by omega) (by omega) (by omega))) (rfl : i3 (Z1 2 0 0 (3020 + 60 * a1)) = i3 (Z1 2 0 0 (3020 + 60 * a1))))))
    subst e9
    refine wz_i1 (Eq.trans (i3NE (rfl : i3 a2 = i3 a2) (show (0 : Int32) = i3 0 from rfl) (by omega) (by omega) (by omega) (by omega)) (decide_eq_true (by omega))) ?_
    refine wz_i0 (i3O (n := 4400) (i3A (i3A (show (3010 : Int32) = i3 3010 from rfl) (i3M (show (60 : Int32) = i3 60 from rfl) (rfl : i3 a1 = i3 a1))) (show (6 : Int32) = i3 6 from rfl)) (by omega) (by omega) (by omega)) ?_
    have r20 := zM_k hZ19I 2 0 0 (3016 + 60 * a1) (lo := -1) (hi := 9999) (by decide) (zs_3010_6 (x := (a1 + 0)) (by omega) (by omega) (by omega))
    obtain ⟨Z21, hZ21⟩ := zx (zu Z19 91 0 0 4 (Z19 2 0 0 (3016 + 60 * a1)))
    replace hP := zl_e hP hZ21
    have hZ21I := zM_u hZ19I hZ21 (lo := -2147483648) (hi := 2147483647) (by decide) rfl (by omega) ⟨by decide, by decide⟩ (Or.inl (by decide)) rfl
    have hZ21U : zU [] Z Z21 := zU_u hZ19U hZ21 (Or.inl rfl)
    have hZ21K : zC [2, 81, 91, 1200] Z Z21 := zC_u hZ19K hZ21 (by decide)
    intro μ9 e9
    replace e9 := e9.trans (zm_wI (Z := Z19) (ν := ν) hZ21 (show ((0 : Nat) : Int) = 0 from rfl) (show ((0 : Nat) : Int) = 0 from rfl) (show ((4 : Nat) : Int) = 4 from rfl) (zm_rd (Z := Z19) (ν := ν) (k := 2) (show ((0 : Nat) : Int) = 0 from rfl) (show ((0 : Nat) : Int) = 0 from rfl) (i3I (y := (3016 + 60 * a1)) (i3A (i3A (show (3010 : Int32) = i3 3010 from rfl) (i3M (show (60 : Int32) = i3 60 from rfl) (rfl : i3 a1 = i3 a1))) (show (6 : Int32) = i3 6 from rfl)) (by omega) (by omega) (by omega))))
    subst e9
    obtain ⟨Z22, hZ22, c9, hZ22I, kZ22, jZ22⟩ := sp_493 (ν := ν) hZ21I (a1 := 0) (by omega) (zbh (c := 1066) (k := 0) hM (Nat.le_of_ble_eq_true rfl))
    have hZ22U : zU [] Z Z22 := zU_t hZ21U jZ22 zU_b0
    have hZ22K : zC [2, 81, 91, 1200] Z Z22 := zC_t hZ21K kZ22 (by decide)
    replace hP := zl_e hP hZ22
    refine wz_cV_of (zas (zcons rfl (zcons (zvi (show (0 : Int32) = i3 0 from rfl)) rfl)) c9) ?_
    clear c9
    exact zlV hP ⟨hZ22I, hZ22K, hZ22U⟩
  · replace hP := zE_n hP h3
    refine wz_i0 (i3O (n := 4400) (i3A (i3A (show (3010 : Int32) = i3 3010 from rfl) (i3M (show (60 : Int32) = i3 60 from rfl) (rfl : i3 a1 = i3 a1))) (show (5 : Int32) = i3 5 from rfl)) (by omega) (by omega) (by omega)) ?_
    obtain ⟨Z23, hZ23⟩ := zx (zu Z1 91 0 0 3 0)
    replace hP := zl_e hP hZ23
    have hZ23I := zM_0 hZ1I hZ23 (by decide) (Or.inl (by decide))
    have hZ23U : zU [] Z Z23 := zU_u hZ1U hZ23 (Or.inl rfl)
    have hZ23K : zC [2, 81, 91, 1200] Z Z23 := zC_u hZ1K hZ23 (by decide)
    intro μ9 e9
    replace e9 := e9.trans (zm_wI (Z := Z1) (ν := ν) hZ23 (show ((0 : Nat) : Int) = 0 from rfl) (show ((0 : Nat) : Int) = 0 from rfl) (show ((3 : Nat) : Int) = 3 from rfl) (show (0 : Int32) = i3 0 from rfl))
    subst e9
    have r24 := zM_f hZ1I 2 0 0 (3021 + 60 * a1)
    have r25 := zM_f hZ1I 2 0 0 (3019 + 60 * a1)
    have r26 := zM_f hZ1I 2 0 0 (3020 + 60 * a1)
    refine sl_313_1 (ν := ν) (zm0 hZ23I) (zbh (c := 0) (k := 1066) hM (Nat.le_of_ble_eq_true rfl)) (xM9 := 0) zC_r (x1 := a1) (by omega) (x3 := (Z1 2 0 0 (3021 + 60 * a1))) (by omega) (x4 := (Z1 2 0 0 (3019 + 60 * a1))) (by omega) (x5 := (Z1 2 0 0 (3020 + 60 * a1))) (by omega) (x6 := (Z1 2 0 0 (3015 + 60 * a1))) (by omega) (x7 := 0) (by omega) zU_r (Nat.le_of_ble_eq_true rfl)  (zconso rfl (zconso (zvo (rfl : i3 a1 = i3 a1)) (zconso rfl (zconso (zvo (zm_rd (Z := Z1) (ν := ν) (k := 2) (show ((0 : Nat) : Int) = 0 from rfl) (show ((0 : Nat) : Int) = 0 from rfl) (i3I (y := (3021 + 60 * a1)) (i3A (i3A (show (3010 : Int32) = i3 3010 from rfl) (i3M (show (60 : Int32) = i3 60 from rfl) (rfl : i3 a1 = i3 a1))) (show (11 : Int32) = i3 11 from rfl)) (by omega) (by omega) (by omega)))) (zconso (zvo (zm_rd (Z := Z1) (ν := ν) (k := 2) (show ((0 : Nat) : Int) = 0 from rfl) (show ((0 : Nat) : Int) = 0 from rfl) (i3I (y := (3019 + 60 * a1)) (i3A (i3A (show (3010 : Int32) = i3 3010 from rfl) (i3M (show (60 : Int32) = i3 60 from rfl) (rfl : i3 a1 = i3 a1))) (show (9 : Int32) = i3 9 from rfl)) (by omega) (by omega) (by omega)))) (zconso (zvo (zm_rd (Z := Z1) (ν := ν) (k := 2) (show ((0 : Nat) : Int) = 0 from rfl) (show ((0 : Nat) : Int) = 0 from rfl) (i3I (y := (3020 + 60 * a1)) (i3A (i3A (show (3010 : Int32) = i3 3010 from rfl) (i3M (show (60 : Int32) = i3 60 from rfl) (rfl : i3 a1 = i3 a1))) (show (10 : Int32) = i3 10 from rfl)) (by omega) (by omega) (by omega)))) (zconso (zvo (zm_rd (Z := Z1) (ν := ν) (k := 2) (show ((0 : Nat) : Int) = 0 from rfl) (show ((0 : Nat) : Int) = 0 from rfl) (i3I (y := (3015 + 60 * a1)) (i3A (i3A (show (3010 : Int32) = i3 3010 from rfl) (i3M (show (60 : Int32) = i3 60 from rfl) (rfl : i3 a1 = i3 a1))) (show (5 : Int32) = i3 5 from rfl)) (by omega) (by omega) (by omega)))) (zconso (zvo (show (0 : Int32) = i3 0 from rfl)) (zconso rfl rfl))))))))) rfl ?_
    intro L29 Z28 y27 hL29 hZ28I kZ28 jZ28 gy27 q9
    replace hP := zl_e2 hP (Eq.symm q9)
    clear q9
    have hZ28U : zU [] Z Z28 := zU_t hZ23U jZ28 zU_b0
    have hZ28K : zC [2, 81, 91, 1200] Z Z28 := zC_t hZ23K kZ28 (by decide)
    refine fc_313_2 (i3 a1) (i3 (Z1 2 0 0 (3021 + 60 * a1))) (i3 (Z1 2 0 0 (3019 + 60 * a1))) (i3 (Z1 2 0 0 (3020 + 60 * a1))) (i3 (Z1 2 0 0 (3015 + 60 * a1))) _ _ _ _ hL29 ?_
    refine wz_i0 (i3O (n := 4400) (i3A (i3A (show (3010 : Int32) = i3 3010 from rfl) (i3M (show (60 : Int32) = i3 60 from rfl) (rfl : i3 a1 = i3 a1))) (show (11 : Int32) = i3 11 from rfl)) (by omega) (by omega) (by omega)) ?_
    have r30 := zM_f hZ28I 2 0 0 (3021 + 60 * a1)
    have r31 := w3_r ((Z28 2 0 0 (3021 + 60 * a1)) - (Z1 2 0 0 (3021 + 60 * a1)))
    obtain ⟨Z32, hZ32⟩ := zx (zu Z28 91 0 0 0 (w3 ((Z28 2 0 0 (3021 + 60 * a1)) - (Z1 2 0 0 (3021 + 60 * a1)))))
    replace hP := zl_e hP hZ32
    have hZ32I := zM_u hZ28I hZ32 (lo := -2147483648) (hi := 2147483647) (by decide) rfl (by omega) ⟨by decide, by decide⟩ (Or.inl (by decide)) rfl
    have hZ32U : zU [] Z Z32 := zU_u hZ28U hZ32 (Or.inl rfl)
    have hZ32K : zC [2, 81, 91, 1200] Z Z32 := zC_u hZ28K hZ32 (by decide)
    intro μ9 e9
    replace e9 := e9.trans (zm_wI (Z := Z28) (ν := ν) hZ32 (show ((0 : Nat) : Int) = 0 from rfl) (show ((0 : Nat) : Int) = 0 from rfl) (show ((0 : Nat) : Int) = 0 from rfl) (i3W (i3S (zm_rd (Z := Z28) (ν := ν) (k := 2) (show ((0 : Nat) : Int) = 0 from rfl) (show ((0 : Nat) : Int) = 0 from rfl) (i3I (y := (3021 + 60 * a1)) (i3A (i3A (show (3010 : Int32) = i3 3010 from rfl) (i3M (show (60 : Int32) = i3 60 from rfl) (rfl : i3 a1 = i3 a1))) (show (11 : Int32) = i3 11 from rfl)) (by omega) (by omega) (by omega))) (rfl : i3 (Z1 2 0 0 (3021 + 60 * a1)) = i3 (Z1 2 0 0 (3021 + 60 * a1))))))
    subst e9
    refine wz_i0 (i3O (n := 4400) (i3A (i3A (show (3010 : Int32) = i3 3010 from rfl) (i3M (show (60 : Int32) = i3 60 from rfl) (rfl : i3 a1 = i3 a1))) (show (9 : Int32) = i3 9 from rfl)) (by omega) (by omega) (by omega)) ?_
    have r33 := zM_f hZ32I 2 0 0 (3019 + 60 * a1)
    have r34 := w3_r ((Z32 2 0 0 (3019 + 60 * a1)) - (Z1 2 0 0 (3019 + 60 * a1)))
    obtain ⟨Z35, hZ35⟩ := zx (zu Z32 91 0 0 1 (w3 ((Z32 2 0 0 (3019 + 60 * a1)) - (Z1 2 0 0 (3019 + 60 * a1)))))
    replace hP := zl_e hP hZ35
    have hZ35I := zM_u hZ32I hZ35 (lo := -2147483648) (hi := 2147483647) (by decide) rfl (by omega) ⟨by decide, by decide⟩ (Or.inl (by decide)) rfl
    have hZ35U : zU [] Z Z35 := zU_u hZ32U hZ35 (Or.inl rfl)
    have hZ35K : zC [2, 81, 91, 1200] Z Z35 := zC_u hZ32K hZ35 (by decide)
    intro μ9 e9
    replace e9 := e9.trans (zm_wI (Z := Z32) (ν := ν) hZ35 (show ((0 : Nat) : Int) = 0 from rfl) (show ((0 : Nat) : Int) = 0 from rfl) (show ((1 : Nat) : Int) = 1 from rfl) (i3W (i3S (zm_rd (Z := Z32) (ν := ν) (k := 2) (show ((0 : Nat) : Int) = 0 from rfl) (show ((0 : Nat) : Int) = 0 from rfl) (i3I (y := (3019 + 60 * a1)) (i3A (i3A (show (3010 : Int32) = i3 3010 from rfl) (i3M (show (60 : Int32) = i3 60 from rfl) (rfl : i3 a1 = i3 a1))) (show (9 : Int32) = i3 9 from rfl)) (by omega) (by omega) (by omega))) (rfl : i3 (Z1 2 0 0 (3019 + 60 * a1)) = i3 (Z1 2 0 0 (3019 + 60 * a1))))))
    subst e9
    refine wz_i0 (i3O (n := 4400) (i3A (i3A (show (3010 : Int32) = i3 3010 from rfl) (i3M (show (60 : Int32) = i3 60 from rfl) (rfl : i3 a1 = i3 a1))) (show (10 : Int32) = i3 10 from rfl)) (by omega) (by omega) (by omega)) ?_
    have r36 := zM_f hZ35I 2 0 0 (3020 + 60 * a1)
    have r37 := w3_r ((Z35 2 0 0 (3020 + 60 * a1)) - (Z1 2 0 0 (3020 + 60 * a1)))
    obtain ⟨Z38, hZ38⟩ := zx (zu Z35 91 0 0 2 (w3 ((Z35 2 0 0 (3020 + 60 * a1)) - (Z1 2 0 0 (3020 + 60 * a1)))))
    replace hP := zl_e hP hZ38
    have hZ38I := zM_u hZ35I hZ38 (lo := -2147483648) (hi := 2147483647) (by decide) rfl (by omega) ⟨by decide, by decide⟩ (Or.inl (by decide)) rfl
    have hZ38U : zU [] Z Z38 := zU_u hZ35U hZ38 (Or.inl rfl)
    have hZ38K : zC [2, 81, 91, 1200] Z Z38 := zC_u hZ35K hZ38 (by decide)
    intro μ9 e9
    replace e9 := e9.trans (zm_wI (Z := Z35) (ν := ν) hZ38 (show ((0 : Nat) : Int) = 0 from rfl) (show ((0 : Nat) : Int) = 0 from rfl) (show ((2 : Nat) : Int) = 2 from rfl) (i3W (i3S (zm_rd (Z := Z35) (ν := ν) (k := 2) (show ((0 : Nat) : Int) = 0 from rfl) (show ((0 : Nat) : Int) = 0 from rfl) (i3I (y := (3020 + 60 * a1)) (i3A (i3A (show (3010 : Int32) = i3 3010 from rfl) (i3M (show (60 : Int32) = i3 60 from rfl) (rfl : i3 a1 = i3 a1))) (show (10 : Int32) = i3 10 from rfl)) (by omega) (by omega) (by omega))) (rfl : i3 (Z1 2 0 0 (3020 + 60 * a1)) = i3 (Z1 2 0 0 (3020 + 60 * a1))))))
    subst e9
    refine wz_br (i3NE (rfl : i3 (Z1 2 0 0 (3015 + 60 * a1)) = i3 (Z1 2 0 0 (3015 + 60 * a1))) (show (0 : Int32) = i3 0 from rfl) (by omega) (by omega) (by omega) (by omega)) (fun h39 => ?_) (fun h39 => ?_)
    · replace hP := zE_p hP h39
      refine wz_i0 (i3O (n := 4400) (i3A (i3A (show (3010 : Int32) = i3 3010 from rfl) (i3M (show (60 : Int32) = i3 60 from rfl) (rfl : i3 a1 = i3 a1))) (show (6 : Int32) = i3 6 from rfl)) (by omega) (by omega) (by omega)) ?_
      have r40 := zM_k hZ38I 2 0 0 (3016 + 60 * a1) (lo := -1) (hi := 9999) (by decide) (zs_3010_6 (x := (a1 + 0)) (by omega) (by omega) (by omega))
      obtain ⟨Z41, hZ41⟩ := zx (zu Z38 91 0 0 4 (Z38 2 0 0 (3016 + 60 * a1)))
      replace hP := zl_e hP hZ41
      have hZ41I := zM_u hZ38I hZ41 (lo := -2147483648) (hi := 2147483647) (by decide) rfl (by omega) ⟨by decide, by decide⟩ (Or.inl (by decide)) rfl
      have hZ41U : zU [] Z Z41 := zU_u hZ38U hZ41 (Or.inl rfl)
      have hZ41K : zC [2, 81, 91, 1200] Z Z41 := zC_u hZ38K hZ41 (by decide)
      intro μ9 e9
      replace e9 := e9.trans (zm_wI (Z := Z38) (ν := ν) hZ41 (show ((0 : Nat) : Int) = 0 from rfl) (show ((0 : Nat) : Int) = 0 from rfl) (show ((4 : Nat) : Int) = 4 from rfl) (zm_rd (Z := Z38) (ν := ν) (k := 2) (show ((0 : Nat) : Int) = 0 from rfl) (show ((0 : Nat) : Int) = 0 from rfl) (i3I (y := (3016 + 60 * a1)) (i3A (i3A (show (3010 : Int32) = i3 3010 from rfl) (i3M (show (60 : Int32) = i3 60 from rfl) (rfl : i3 a1 = i3 a1))) (show (6 : Int32) = i3 6 from rfl)) (by omega) (by omega) (by omega))))
      subst e9
      obtain ⟨Z42, hZ42, c9, hZ42I, kZ42, jZ42⟩ := sp_493 (ν := ν) hZ41I (a1 := 0) (by omega) (zbh (c := 1066) (k := 0) hM (Nat.le_of_ble_eq_true rfl))
      have hZ42U : zU [] Z Z42 := zU_t hZ41U jZ42 zU_b0
      have hZ42K : zC [2, 81, 91, 1200] Z Z42 := zC_t hZ41K kZ42 (by decide)
      replace hP := zl_e hP hZ42
      refine wz_cV_of (zas (zcons rfl (zcons (zvi (show (0 : Int32) = i3 0 from rfl)) rfl)) c9) ?_
      clear c9
      exact zlV hP ⟨hZ42I, hZ42K, hZ42U⟩
    · replace hP := zE_n hP h39
      obtain ⟨Z43, hZ43⟩ := zx (zu Z38 91 0 0 4 (-1))
      replace hP := zl_e hP hZ43
      have hZ43I := zM_u hZ38I hZ43 (lo := -2147483648) (hi := 2147483647) (by decide) rfl (by omega) ⟨by decide, by decide⟩ (Or.inl (by decide)) rfl
      have hZ43U : zU [] Z Z43 := zU_u hZ38U hZ43 (Or.inl rfl)
      have hZ43K : zC [2, 81, 91, 1200] Z Z43 := zC_u hZ38K hZ43 (by decide)
      intro μ9 e9
      replace e9 := e9.trans (zm_wI (Z := Z38) (ν := ν) hZ43 (show ((0 : Nat) : Int) = 0 from rfl) (show ((0 : Nat) : Int) = 0 from rfl) (show ((4 : Nat) : Int) = 4 from rfl) (show (-1 : Int32) = i3 (-1) from rfl))
      subst e9
      obtain ⟨Z44, hZ44, c9, hZ44I, kZ44, jZ44⟩ := sp_493 (ν := ν) hZ43I (a1 := 0) (by omega) (zbh (c := 1066) (k := 0) hM (Nat.le_of_ble_eq_true rfl))
      have hZ44U : zU [] Z Z44 := zU_t hZ43U jZ44 zU_b0
      have hZ44K : zC [2, 81, 91, 1200] Z Z44 := zC_t hZ43K kZ44 (by decide)
      replace hP := zl_e hP hZ44
      refine wz_cV_of (zas (zcons rfl (zcons (zvi (show (0 : Int32) = i3 0 from rfl)) rfl)) c9) ?_
      clear c9
      exact zlV hP ⟨hZ44I, hZ44K, hZ44U⟩
/- yX12_takings -/
def zy_533 (Z : qz_Z) (a1 : Int) (a2 : Int) (a3 : Int) : qz_Z × Int := (if a1 < 0 then (zlet (zu Z 1 0 0 2 1) (fun Z5 => (Z5, 0))) else (if ((Z 2 0 0 3000) - 1) < a1 then (zlet (zu Z 1 0 0 2 1) (fun Z8 => (Z8, 0))) else (zlet (zu Z 1 0 0 2 0) (fun Z9 => (if a2 < 1 then (zlet (zu Z9 1 0 0 2 2) (fun Z11 => (Z11, 0))) else (if 12 < a2 then (zlet (zu Z9 1 0 0 2 2) (fun Z13 => (Z13, 0))) else (if a3 < 0 then (zlet (zu Z9 1 0 0 2 2) (fun Z15 => (Z15, 0))) else (if 4 < a3 then (zlet (zu Z9 1 0 0 2 2) (fun Z17 => (Z17, 0))) else (zlet (zu Z9 1 0 0 2 0) (fun Z18 => (zlet (zf_313 Z18 a1 a2) (fun Z19 => (Z19, (Z19 91 0 0 a3))))))))))))))
theorem sy_533 {s : zSM} {Z : qz_Z} {ν : qz_N} (hZ : zM s Z) (gq : Z 1 0 0 35 = 0) (hM : s.2 + 1066 ≤ 1000000000) {a1 : Int} (ga1 : -2147483648 ≤ a1 ∧ a1 ≤ 2147483647) {a2 : Int} (ga2 : -2147483648 ≤ a2 ∧ a2 ≤ 2147483647) {a3 : Int} (ga3 : -2147483648 ≤ a3 ∧ a3 ≤ 2147483647) {ν1 : qz_N} : ∃ (Z1 : qz_Z) (ν2 : qz_N) (v : Int), (Z1, v) = zy_533 Z a1 a2 a3 ∧ (ν2 = ν ∨ ν2 = ν1) ∧ qf_533 [.inr (.inr (some (1, 0, 0))), .inl (i3 a1), .inl (i3 a2), .inl (i3 a3)] (zm Z ν) = some (zm Z1 ν2, .inl (some (.inl (i3 v)))) ∧ (fun Z1 => zM (zb s 1066) Z1 ∧ zC [1, 2, 81, 91, 1200] Z Z1 ∧ zU [] Z Z1) Z1 := by
  obtain ⟨P, hP⟩ := zx (zy_533 Z a1 a2 a3)
  refine zc_Y (Q := fun Z1 => zM (zb s 1066) Z1 ∧ zC [1, 2, 81, 91, 1200] Z Z1 ∧ zU [] Z Z1) hP (fw_533 (i3 a1) (i3 a2) (i3 a3) _ _ ?_)
  replace hP : zE P (zy_533 Z a1 a2 a3) := hP
  unfold zy_533 at hP
  have r1 := zM_k hZ 1 0 0 35 (lo := 0) (hi := 1) (by decide) rfl
  have r2 := zM_k hZ 1 0 0 34 (lo := 0) (hi := 8) (by decide) rfl
  have r3 := zM_f hZ 1 0 0 37
  refine wz_br (i3L (rfl : i3 a1 = i3 a1) (show (0 : Int32) = i3 0 from rfl) (by omega) (by omega) (by omega) (by omega)) (fun h4 => ?_) (fun h4 => ?_)
  · replace hP := zE_p hP h4
    obtain ⟨Z5, hZ5⟩ := zx (zu Z 1 0 0 2 1)
    replace hP := zl_e hP hZ5
    have hZ5I := zM_u hZ hZ5 (lo := -2147483648) (hi := 2147483647) (by decide) rfl (by omega) ⟨by decide, by decide⟩ (Or.inr (by decide)) rfl
    have hZ5U : zU [] Z Z5 := zU_u zU_r hZ5 (Or.inl rfl)
    have hZ5K : zC [1, 2, 81, 91, 1200] Z Z5 := zC_u zC_r hZ5 (by decide)
    intro μ9 e9
    replace e9 := e9.trans (zm_wI (Z := Z) (ν := ν) hZ5 (show ((0 : Nat) : Int) = 0 from rfl) (show ((0 : Nat) : Int) = 0 from rfl) (show ((2 : Nat) : Int) = 2 from rfl) (show (1 : Int32) = i3 1 from rfl))
    subst e9
    exact zlY hP (show (0 : Int32) = i3 0 from rfl) (.inl rfl) ⟨(zmw (a := 0) (c := 1066) hZ5I (Nat.le_of_ble_eq_true rfl)), hZ5K, hZ5U⟩
  · replace hP := zE_n hP h4
    have r6 := zM_k hZ 2 0 0 3000 (lo := 0) (hi := 2) (by decide) rfl
    refine wz_br (i3L (i3S (zm_rd (Z := Z) (ν := ν) (k := 2) (show ((0 : Nat) : Int) = 0 from rfl) (show ((0 : Nat) : Int) = 0 from rfl) (show ((3000 : Nat) : Int) = 3000 from rfl)) (show (1 : Int32) = i3 1 from rfl)) (rfl : i3 a1 = i3 a1) (by omega) (by omega) (by omega) (by omega)) (fun h7 => ?_) (fun h7 => ?_)
    · replace hP := zE_p hP h7
      obtain ⟨Z8, hZ8⟩ := zx (zu Z 1 0 0 2 1)
      replace hP := zl_e hP hZ8
      have hZ8I := zM_u hZ hZ8 (lo := -2147483648) (hi := 2147483647) (by decide) rfl (by omega) ⟨by decide, by decide⟩ (Or.inr (by decide)) rfl
      have hZ8U : zU [] Z Z8 := zU_u zU_r hZ8 (Or.inl rfl)
      have hZ8K : zC [1, 2, 81, 91, 1200] Z Z8 := zC_u zC_r hZ8 (by decide)
      intro μ9 e9
      replace e9 := e9.trans (zm_wI (Z := Z) (ν := ν) hZ8 (show ((0 : Nat) : Int) = 0 from rfl) (show ((0 : Nat) : Int) = 0 from rfl) (show ((2 : Nat) : Int) = 2 from rfl) (show (1 : Int32) = i3 1 from rfl))
      subst e9
      exact zlY hP (show (0 : Int32) = i3 0 from rfl) (.inl rfl) ⟨(zmw (a := 0) (c := 1066) hZ8I (Nat.le_of_ble_eq_true rfl)), hZ8K, hZ8U⟩
    · replace hP := zE_n hP h7
      obtain ⟨Z9, hZ9⟩ := zx (zu Z 1 0 0 2 0)
      replace hP := zl_e hP hZ9
      have hZ9I := zM_0 hZ hZ9 (by decide) (Or.inr (by decide))
      have hZ9U : zU [] Z Z9 := zU_u zU_r hZ9 (Or.inl rfl)
      have hZ9K : zC [1, 2, 81, 91, 1200] Z Z9 := zC_u zC_r hZ9 (by decide)
      intro μ9 e9
      replace e9 := e9.trans (zm_wI (Z := Z) (ν := ν) hZ9 (show ((0 : Nat) : Int) = 0 from rfl) (show ((0 : Nat) : Int) = 0 from rfl) (show ((2 : Nat) : Int) = 2 from rfl) (show (0 : Int32) = i3 0 from rfl))
      subst e9
      refine wz_br (i3L (rfl : i3 a2 = i3 a2) (show (1 : Int32) = i3 1 from rfl) (by omega) (by omega) (by omega) (by omega)) (fun h10 => ?_) (fun h10 => ?_)
      · replace hP := zE_p hP h10
        obtain ⟨Z11, hZ11⟩ := zx (zu Z9 1 0 0 2 2)
        replace hP := zl_e hP hZ11
        have hZ11I := zM_u hZ9I hZ11 (lo := -2147483648) (hi := 2147483647) (by decide) rfl (by omega) ⟨by decide, by decide⟩ (Or.inr (by decide)) rfl
        have hZ11U : zU [] Z Z11 := zU_u hZ9U hZ11 (Or.inl rfl)
        have hZ11K : zC [1, 2, 81, 91, 1200] Z Z11 := zC_u hZ9K hZ11 (by decide)
        intro μ9 e9
        replace e9 := e9.trans (zm_wI (Z := Z9) (ν := ν) hZ11 (show ((0 : Nat) : Int) = 0 from rfl) (show ((0 : Nat) : Int) = 0 from rfl) (show ((2 : Nat) : Int) = 2 from rfl) (show (2 : Int32) = i3 2 from rfl))
        subst e9
        exact zlY hP (show (0 : Int32) = i3 0 from rfl) (.inl rfl) ⟨(zmw (a := 0) (c := 1066) hZ11I (Nat.le_of_ble_eq_true rfl)), hZ11K, hZ11U⟩
      · replace hP := zE_n hP h10
        refine wz_br (i3L (show (12 : Int32) = i3 12 from rfl) (rfl : i3 a2 = i3 a2) (by omega) (by omega) (by omega) (by omega)) (fun h12 => ?_) (fun h12 => ?_)
        · replace hP := zE_p hP h12
          obtain ⟨Z13, hZ13⟩ := zx (zu Z9 1 0 0 2 2)
          replace hP := zl_e hP hZ13
          have hZ13I := zM_u hZ9I hZ13 (lo := -2147483648) (hi := 2147483647) (by decide) rfl (by omega) ⟨by decide, by decide⟩ (Or.inr (by decide)) rfl
          have hZ13U : zU [] Z Z13 := zU_u hZ9U hZ13 (Or.inl rfl)
          have hZ13K : zC [1, 2, 81, 91, 1200] Z Z13 := zC_u hZ9K hZ13 (by decide)
          intro μ9 e9
          replace e9 := e9.trans (zm_wI (Z := Z9) (ν := ν) hZ13 (show ((0 : Nat) : Int) = 0 from rfl) (show ((0 : Nat) : Int) = 0 from rfl) (show ((2 : Nat) : Int) = 2 from rfl) (show (2 : Int32) = i3 2 from rfl))
          subst e9
          exact zlY hP (show (0 : Int32) = i3 0 from rfl) (.inl rfl) ⟨(zmw (a := 0) (c := 1066) hZ13I (Nat.le_of_ble_eq_true rfl)), hZ13K, hZ13U⟩
        · replace hP := zE_n hP h12
          refine wz_br (i3L (rfl : i3 a3 = i3 a3) (show (0 : Int32) = i3 0 from rfl) (by omega) (by omega) (by omega) (by omega)) (fun h14 => ?_) (fun h14 => ?_)
          · replace hP := zE_p hP h14
            obtain ⟨Z15, hZ15⟩ := zx (zu Z9 1 0 0 2 2)
            replace hP := zl_e hP hZ15
            have hZ15I := zM_u hZ9I hZ15 (lo := -2147483648) (hi := 2147483647) (by decide) rfl (by omega) ⟨by decide, by decide⟩ (Or.inr (by decide)) rfl
            have hZ15U : zU [] Z Z15 := zU_u hZ9U hZ15 (Or.inl rfl)
            have hZ15K : zC [1, 2, 81, 91, 1200] Z Z15 := zC_u hZ9K hZ15 (by decide)
            intro μ9 e9
            replace e9 := e9.trans (zm_wI (Z := Z9) (ν := ν) hZ15 (show ((0 : Nat) : Int) = 0 from rfl) (show ((0 : Nat) : Int) = 0 from rfl) (show ((2 : Nat) : Int) = 2 from rfl) (show (2 : Int32) = i3 2 from rfl))
            subst e9
            exact zlY hP (show (0 : Int32) = i3 0 from rfl) (.inl rfl) ⟨(zmw (a := 0) (c := 1066) hZ15I (Nat.le_of_ble_eq_true rfl)), hZ15K, hZ15U⟩
          · replace hP := zE_n hP h14
            refine wz_br (i3L (show (4 : Int32) = i3 4 from rfl) (rfl : i3 a3 = i3 a3) (by omega) (by omega) (by omega) (by omega)) (fun h16 => ?_) (fun h16 => ?_)
            · replace hP := zE_p hP h16
              obtain ⟨Z17, hZ17⟩ := zx (zu Z9 1 0 0 2 2)
              replace hP := zl_e hP hZ17
              have hZ17I := zM_u hZ9I hZ17 (lo := -2147483648) (hi := 2147483647) (by decide) rfl (by omega) ⟨by decide, by decide⟩ (Or.inr (by decide)) rfl
              have hZ17U : zU [] Z Z17 := zU_u hZ9U hZ17 (Or.inl rfl)
              have hZ17K : zC [1, 2, 81, 91, 1200] Z Z17 := zC_u hZ9K hZ17 (by decide)
              intro μ9 e9
              replace e9 := e9.trans (zm_wI (Z := Z9) (ν := ν) hZ17 (show ((0 : Nat) : Int) = 0 from rfl) (show ((0 : Nat) : Int) = 0 from rfl) (show ((2 : Nat) : Int) = 2 from rfl) (show (2 : Int32) = i3 2 from rfl))
              subst e9
              exact zlY hP (show (0 : Int32) = i3 0 from rfl) (.inl rfl) ⟨(zmw (a := 0) (c := 1066) hZ17I (Nat.le_of_ble_eq_true rfl)), hZ17K, hZ17U⟩
            · replace hP := zE_n hP h16
              obtain ⟨Z18, hZ18⟩ := zx (zu Z9 1 0 0 2 0)
              replace hP := zl_e hP hZ18
              have hZ18I := zM_0 hZ9I hZ18 (by decide) (Or.inr (by decide))
              have hZ18U : zU [] Z Z18 := zU_u hZ9U hZ18 (Or.inl rfl)
              have hZ18K : zC [1, 2, 81, 91, 1200] Z Z18 := zC_u hZ9K hZ18 (by decide)
              intro μ9 e9
              replace e9 := e9.trans (zm_wI (Z := Z9) (ν := ν) hZ18 (show ((0 : Nat) : Int) = 0 from rfl) (show ((0 : Nat) : Int) = 0 from rfl) (show ((2 : Nat) : Int) = 2 from rfl) (show (0 : Int32) = i3 0 from rfl))
              subst e9
              obtain ⟨Z19, hZ19, c9, hZ19I, kZ19, jZ19⟩ := sp_313 (ν := ν) hZ18I (a1 := a1) (by omega) (a2 := a2) (by omega) (zbh (c := 0) (k := 1066) hM (Nat.le_of_ble_eq_true rfl))
              have hZ19U : zU [] Z Z19 := zU_t hZ18U jZ19 zU_b0
              have hZ19K : zC [1, 2, 81, 91, 1200] Z Z19 := zC_t hZ18K kZ19 (by decide)
              replace hP := zl_e hP hZ19
              refine wz_cV_of (zas (zcons rfl (zcons (zvi (rfl : i3 a1 = i3 a1)) (zcons (zvi (rfl : i3 a2 = i3 a2)) rfl))) c9) ?_
              clear c9
              refine wz_i0 (i3O (n := 5) (rfl : i3 a3 = i3 a3) (by omega) (by omega) (by omega)) ?_
              have r20 := zM_f hZ19I 91 0 0 a3
              exact zlY hP (zm_rd (Z := Z19) (ν := ν) (k := 91) (show ((0 : Nat) : Int) = 0 from rfl) (show ((0 : Nat) : Int) = 0 from rfl) (i3I (y := a3) (rfl : i3 a3 = i3 a3) (by omega) (by omega) (by omega))) (.inl rfl) ⟨hZ19I, hZ19K, hZ19U⟩
