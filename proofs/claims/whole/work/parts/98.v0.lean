/-! The reference's hours, safe over what the relation knows of its row. -/
def zJh (J : qz_Z → Prop) : Prop :=
  (∀ s Y c, zM s Y → s.2 + 82 ≤ 1000000000 → J Y → 0 ≤ c → c ≤ 1 → 1 ≤ Y 2 0 0 (3015 + 60 * c) → (Y 2 0 0 102 ≤ Y 2 0 0 (3022 + 60 * c) ∨ 0 ≤ Y 2 0 0 (211 + 20 * Y 2 0 0 (3022 + 60 * c))) ∧ J (zf_309 Y c)) ∧
  (∀ s Y i, zM s Y → s.2 + 3 ≤ 1000000000 → J Y → 0 ≤ i → i ≤ 11 → i < Y 2 0 0 3815 → Y 2 0 0 (3852 + 8 * i) = 0 → (Y 2 0 0 (2018 + 16 * Y 2 0 0 (3850 + 8 * i)) ≤ Y 2 0 0 (2024 + 16 * Y 2 0 0 (3850 + 8 * i)) ∧ Y 2 0 0 (2024 + 16 * Y 2 0 0 (3850 + 8 * i)) ≤ Y 2 0 0 (2021 + 16 * Y 2 0 0 (3850 + 8 * i)) ∧ 0 ≤ Y 2 0 0 (2025 + 16 * Y 2 0 0 (3850 + 8 * i)) ∧ Y 2 0 0 (2025 + 16 * Y 2 0 0 (3850 + 8 * i)) ≤ Y 2 0 0 (2022 + 16 * Y 2 0 0 (3850 + 8 * i)) ∧ Y 2 0 0 (2016 + 16 * Y 2 0 0 (3850 + 8 * i)) ≤ Y 2 0 0 (2023 + 16 * Y 2 0 0 (3850 + 8 * i)) ∧ Y 2 0 0 (2023 + 16 * Y 2 0 0 (3850 + 8 * i)) ≤ Y 2 0 0 (40 + Y 2 0 0 (3850 + 8 * i))) ∧ J (zf_408 Y i)) ∧
  (∀ Y, J Y → Y 2 0 0 0 ≤ 670 → J (zu Y 2 0 0 0 (Y 2 0 0 0 + 1))) ∧
  (∀ Y, J Y → J (zf_505 Y)) ∧ (∀ Y, J Y → J (zf_471 Y)) ∧ (∀ s Y, zM s Y → s.2 + 18228 ≤ 1000000000 → J Y → J (zf_358 Y)) ∧ (∀ s Y, zM s Y → J Y → J (zf_512 Y)) ∧
  (∀ s Y, zM s Y → J Y → Y 2 0 0 0 % 24 = 0 → J (zf_265 Y (Y 2 0 0 0 / 24 - 1))) ∧ (∀ s Y, zM s Y → s.2 + 53 ≤ 1000000000 → J Y → Y 2 0 0 0 % 24 = 0 → 24 ≤ Y 2 0 0 0 → J (zf_402 Y (Y 2 0 0 0 / 24 - 1))) ∧
  (∀ Y, J Y → J (zf_463 (zf_403 Y 0 4 (w3 (Y 2 0 0 3811 * zf_492 Y)) (-1)))) ∧
  (∀ Y Y', J Y → (∀ j, Y' 2 0 0 j = Y 2 0 0 j) → J Y')
section ZJ
variable {J : qz_Z → Prop} {Y : qz_Z}
theorem zJ_309 {s : zSM} {c : Int} (hJ : zJh J) (hZ : zM s Y) (hM : s.2 + 82 ≤ 1000000000) (g : J Y) (c0 : 0 ≤ c) (c1 : c ≤ 1) (h : 1 ≤ Y 2 0 0 (3015 + 60 * c)) : (Y 2 0 0 102 ≤ Y 2 0 0 (3022 + 60 * c) ∨ 0 ≤ Y 2 0 0 (211 + 20 * Y 2 0 0 (3022 + 60 * c))) ∧ J (zf_309 Y c) := hJ.1 s Y c hZ hM g c0 c1 h
theorem zJ_408 {s : zSM} {i : Int} (hJ : zJh J) (hZ : zM s Y) (hM : s.2 + 3 ≤ 1000000000) (g : J Y) (i0 : 0 ≤ i) (i1 : i ≤ 11) (h : i < Y 2 0 0 3815) (h2 : Y 2 0 0 (3852 + 8 * i) = 0) : (Y 2 0 0 (2018 + 16 * Y 2 0 0 (3850 + 8 * i)) ≤ Y 2 0 0 (2024 + 16 * Y 2 0 0 (3850 + 8 * i)) ∧ Y 2 0 0 (2024 + 16 * Y 2 0 0 (3850 + 8 * i)) ≤ Y 2 0 0 (2021 + 16 * Y 2 0 0 (3850 + 8 * i)) ∧ 0 ≤ Y 2 0 0 (2025 + 16 * Y 2 0 0 (3850 + 8 * i)) ∧ Y 2 0 0 (2025 + 16 * Y 2 0 0 (3850 + 8 * i)) ≤ Y 2 0 0 (2022 + 16 * Y 2 0 0 (3850 + 8 * i)) ∧ Y 2 0 0 (2016 + 16 * Y 2 0 0 (3850 + 8 * i)) ≤ Y 2 0 0 (2023 + 16 * Y 2 0 0 (3850 + 8 * i)) ∧ Y 2 0 0 (2023 + 16 * Y 2 0 0 (3850 + 8 * i)) ≤ Y 2 0 0 (40 + Y 2 0 0 (3850 + 8 * i))) ∧ J (zf_408 Y i) := hJ.2.1 s Y i hZ hM g i0 i1 h h2
theorem zJ_now (hJ : zJh J) (g : J Y) (h : Y 2 0 0 0 ≤ 670) : J (zu Y 2 0 0 0 (Y 2 0 0 0 + 1)) := hJ.2.2.1 Y g h
theorem zJ_505 (hJ : zJh J) (g : J Y) : J (zf_505 Y) := hJ.2.2.2.1 Y g
theorem zJ_471 (hJ : zJh J) (g : J Y) : J (zf_471 Y) := hJ.2.2.2.2.1 Y g
theorem zJ_358 {s : zSM} (hJ : zJh J) (hZ : zM s Y) (hM : s.2 + 18228 ≤ 1000000000) (g : J Y) : J (zf_358 Y) := hJ.2.2.2.2.2.1 s Y hZ hM g
theorem zJ_512 {s : zSM} (hJ : zJh J) (hZ : zM s Y) (g : J Y) : J (zf_512 Y) := hJ.2.2.2.2.2.2.1 s Y hZ g
theorem zJ_265 {s : zSM} (hJ : zJh J) (hZ : zM s Y) (g : J Y) (h : Y 2 0 0 0 % 24 = 0) : J (zf_265 Y (Y 2 0 0 0 / 24 - 1)) := hJ.2.2.2.2.2.2.2.1 s Y hZ g h
theorem zJ_402 {s : zSM} (hJ : zJh J) (hZ : zM s Y) (hM : s.2 + 53 ≤ 1000000000) (g : J Y) (h : Y 2 0 0 0 % 24 = 0) (h2 : 24 ≤ Y 2 0 0 0) : J (zf_402 Y (Y 2 0 0 0 / 24 - 1)) := hJ.2.2.2.2.2.2.2.2.1 s Y hZ hM g h h2
theorem zJ_463 (hJ : zJh J) (g : J Y) : J (zf_463 (zf_403 Y 0 4 (w3 (Y 2 0 0 3811 * zf_492 Y)) (-1))) := hJ.2.2.2.2.2.2.2.2.2.1 Y g
theorem zJ_row {Y' : qz_Z} (hJ : zJh J) (g : J Y) (h : ∀ j, Y' 2 0 0 j = Y 2 0 0 j) : J Y' := hJ.2.2.2.2.2.2.2.2.2.2 Y Y' g h
end ZJ
theorem sl_301_1 {s : zSM} {xM9 : Nat} {Zs Z : qz_Z} {ν : qz_N} (hZ : zM (zb s xM9) Z) (hM : s.2 + 574 ≤ 1000000000) (hK : zC [2] Zs Z) {x1 : Int} (gx1 : 0 ≤ x1 ∧ x1 ≤ 1) {x2 : Int} (gx2 : 0 ≤ x2 ∧ x2 ≤ 6) (hU : zU [] Zs Z) {J : qz_Z → Prop} (hJ : zJh J) (hLtJ : J Z) (hx9 : xM9 + 82 * ((6 - x2).toNat) + 82 ≤ 574) {k : wz_K} {R : wz_R} {L : qz_L} (hL : qz_fg [true, true, true] L = [some (.inr (.inr (some (1, 0, 0)))), some (.inl (i3 x1)), some (.inl (i3 x2))]) {T : qz_Z × Int} (hP : zE T (zl_301_1 x1 ((6 - x2).toNat + 1) Z x2)) (hk : ∀ (L9 : qz_L) (Z9 : qz_Z) (yx2 : Int), qz_fg [true, true, false] L9 = [some (.inr (.inr (some (1, 0, 0)))), some (.inl (i3 x1)), none] → zM (zb s 574) Z9 → zC [2] Zs Z9 → zU [] Zs Z9 → J Z9 → (0 ≤ yx2 ∧ yx2 ≤ 6) → zE T ((Z9, yx2)) → k 0 (L9, [], zm Z9 ν)) : wz_loop qb_301_1 65536 k R (L, [], zm Z ν) := by
  refine wz_lp sb_301_1 (fun m x => ∃ xM9 : Nat, ∃ Z : qz_Z, ∃ x2 : Int, qz_fg [true, true, true] x.1 = [some (.inr (.inr (some (1, 0, 0)))), some (.inl (i3 x1)), some (.inl (i3 x2))] ∧ x.2 = ([], zm Z ν) ∧ xM9 + 82 * m + 82 ≤ 574 ∧ zM (zb s xM9) Z ∧ zC [2] Zs Z ∧ zU [] Zs Z ∧ J Z ∧ m = (6 - x2).toNat ∧ (0 ≤ x2 ∧ x2 ≤ 6) ∧ zE T (zl_301_1 x1 (m + 1) Z x2)) ?_ 65536 ((6 - x2).toNat) _ (by omega) ⟨xM9, Z, x2, hL, rfl, hx9, hZ, hK, hU, hLtJ, rfl, gx2, hP⟩
  clear hP gx2 hx9 hZ hK hU hLtJ hL
  clear x2
  clear Z
  clear xM9
  rintro m ⟨L, st, μ⟩ ⟨xM9, Z, x2, hL, hx, hx9, hZ, hK, hU, hLtJ, hm, gx2, hP⟩
  cases hx
  have hM9 : (zb s xM9).2 + 82 ≤ 1000000000 := by
    show s.2 + xM9 + 82 ≤ 1000000000
    omega
  refine fb_301_1 (i3 x1) (i3 x2) _ _ _ _ hL ?_
  refine wz_i0 (i3O (n := 4400) (i3A (i3A (show (3010 : Int32) = i3 3010 from rfl) (i3M (show (60 : Int32) = i3 60 from rfl) (rfl : i3 x1 = i3 x1))) (show (2 : Int32) = i3 2 from rfl)) (by omega) (by omega) (by omega)) ?_
  have r1 := zM_k hZ 2 0 0 (3012 + 60 * x1) (lo := 0) (hi := 6) (by decide) (zs_3010_2 (x := (x1 + 0)) (by omega) (by omega) (by omega))
  refine wz_br (i3Le (zm_rd (Z := Z) (ν := ν) (k := 2) (show ((0 : Nat) : Int) = 0 from rfl) (show ((0 : Nat) : Int) = 0 from rfl) (i3I (y := (3012 + 60 * x1)) (i3A (i3A (show (3010 : Int32) = i3 3010 from rfl) (i3M (show (60 : Int32) = i3 60 from rfl) (rfl : i3 x1 = i3 x1))) (show (2 : Int32) = i3 2 from rfl)) (by omega) (by omega) (by omega))) (rfl : i3 x2 = i3 x2) (by omega) (by omega) (by omega) (by omega)) (fun h2 => ?_) (fun h2 => ?_)
  · replace hP := zE_p hP h2
    exact hk _ _ _ (zconso rfl (zconso (zvo (rfl : i3 x1 = i3 x1)) (zconso rfl rfl))) (zmx0 hZ (by omega)) hK hU hLtJ (by omega)  hP
  · replace hP := zE_n hP h2
    refine wz_i0 (i3O (n := 4400) (i3A (i3A (show (3010 : Int32) = i3 3010 from rfl) (i3M (show (60 : Int32) = i3 60 from rfl) (rfl : i3 x1 = i3 x1))) (show (0 : Int32) = i3 0 from rfl)) (by omega) (by omega) (by omega)) ?_
    refine wz_i0 (i3O (n := 4400) (i3A (i3A (show (3010 : Int32) = i3 3010 from rfl) (i3M (show (60 : Int32) = i3 60 from rfl) (rfl : i3 x1 = i3 x1))) (show (0 : Int32) = i3 0 from rfl)) (by omega) (by omega) (by omega)) ?_
    refine wz_i0 (i3O (n := 4400) (i3A (i3A (show (3010 : Int32) = i3 3010 from rfl) (i3M (show (60 : Int32) = i3 60 from rfl) (rfl : i3 x1 = i3 x1))) (show (1 : Int32) = i3 1 from rfl)) (by omega) (by omega) (by omega)) ?_
    have r3 := zM_k hZ 2 0 0 0 (lo := 0) (hi := 671) (by decide) rfl
    have r4 := zM_k hZ 2 0 0 (3010 + 60 * x1) (lo := 0) (hi := 23) (by decide) (zs_3010_0 (x := (x1 + 0)) (by omega) (by omega) (by omega))
    refine wz_br (i3L (i3R (zm_rd (Z := Z) (ν := ν) (k := 2) (show ((0 : Nat) : Int) = 0 from rfl) (show ((0 : Nat) : Int) = 0 from rfl) (show ((0 : Nat) : Int) = 0 from rfl)) (show (24 : Int32) = i3 24 from rfl) (by omega) (by omega) (by omega) (by omega)) (zm_rd (Z := Z) (ν := ν) (k := 2) (show ((0 : Nat) : Int) = 0 from rfl) (show ((0 : Nat) : Int) = 0 from rfl) (i3I (y := (3010 + 60 * x1)) (i3A (i3A (show (3010 : Int32) = i3 3010 from rfl) (i3M (show (60 : Int32) = i3 60 from rfl) (rfl : i3 x1 = i3 x1))) (show (0 : Int32) = i3 0 from rfl)) (by omega) (by omega) (by omega))) (by omega) (by omega) (by omega) (by omega)) (fun h5 => ?_) (fun h5 => ?_)
    · replace hP := zE_p hP h5
      exact hk _ _ _ (zconso rfl (zconso (zvo (rfl : i3 x1 = i3 x1)) (zconso rfl rfl))) (zmx0 hZ (by omega)) hK hU hLtJ (by omega)  hP
    · replace hP := zE_n hP h5
      have r6 := zM_k hZ 2 0 0 (3011 + 60 * x1) (lo := 0) (hi := 6) (by decide) (zs_3010_1 (x := (x1 + 0)) (by omega) (by omega) (by omega))
      refine wz_br (i3L (i3S (i3A (zm_rd (Z := Z) (ν := ν) (k := 2) (show ((0 : Nat) : Int) = 0 from rfl) (show ((0 : Nat) : Int) = 0 from rfl) (i3I (y := (3010 + 60 * x1)) (i3A (i3A (show (3010 : Int32) = i3 3010 from rfl) (i3M (show (60 : Int32) = i3 60 from rfl) (rfl : i3 x1 = i3 x1))) (show (0 : Int32) = i3 0 from rfl)) (by omega) (by omega) (by omega))) (zm_rd (Z := Z) (ν := ν) (k := 2) (show ((0 : Nat) : Int) = 0 from rfl) (show ((0 : Nat) : Int) = 0 from rfl) (i3I (y := (3011 + 60 * x1)) (i3A (i3A (show (3010 : Int32) = i3 3010 from rfl) (i3M (show (60 : Int32) = i3 60 from rfl) (rfl : i3 x1 = i3 x1))) (show (1 : Int32) = i3 1 from rfl)) (by omega) (by omega) (by omega)))) (show (1 : Int32) = i3 1 from rfl)) (i3R (zm_rd (Z := Z) (ν := ν) (k := 2) (show ((0 : Nat) : Int) = 0 from rfl) (show ((0 : Nat) : Int) = 0 from rfl) (show ((0 : Nat) : Int) = 0 from rfl)) (show (24 : Int32) = i3 24 from rfl) (by omega) (by omega) (by omega) (by omega)) (by omega) (by omega) (by omega) (by omega)) (fun h7 => ?_) (fun h7 => ?_)
      · replace hP := zE_p hP h7
        exact hk _ _ _ (zconso rfl (zconso (zvo (rfl : i3 x1 = i3 x1)) (zconso rfl rfl))) (zmx0 hZ (by omega)) hK hU hLtJ (by omega)  hP
      · replace hP := zE_n hP h7
        refine wz_i0 (i3O (n := 4400) (i3A (i3A (show (3010 : Int32) = i3 3010 from rfl) (i3M (show (60 : Int32) = i3 60 from rfl) (rfl : i3 x1 = i3 x1))) (show (5 : Int32) = i3 5 from rfl)) (by omega) (by omega) (by omega)) ?_
        have r8 := zM_k hZ 2 0 0 (3015 + 60 * x1) (lo := 0) (hi := 12) (by decide) (zs_3010_5 (x := (x1 + 0)) (by omega) (by omega) (by omega))
        refine wz_br (i3Le (zm_rd (Z := Z) (ν := ν) (k := 2) (show ((0 : Nat) : Int) = 0 from rfl) (show ((0 : Nat) : Int) = 0 from rfl) (i3I (y := (3015 + 60 * x1)) (i3A (i3A (show (3010 : Int32) = i3 3010 from rfl) (i3M (show (60 : Int32) = i3 60 from rfl) (rfl : i3 x1 = i3 x1))) (show (5 : Int32) = i3 5 from rfl)) (by omega) (by omega) (by omega))) (show (0 : Int32) = i3 0 from rfl) (by omega) (by omega) (by omega) (by omega)) (fun h9 => ?_) (fun h9 => ?_)
        · replace hP := zE_p hP h9
          exact hk _ _ _ (zconso rfl (zconso (zvo (rfl : i3 x1 = i3 x1)) (zconso rfl rfl))) (zmx0 hZ (by omega)) hK hU hLtJ (by omega)  hP
        · replace hP := zE_n hP h9
          have r10 := zM_k hZ 2 0 0 (3022 + 60 * x1) (lo := 0) (hi := 47) (by decide) (zs_3010_12 (x := (x1 + 0)) (by omega) (by omega) (by omega))
          have r11 := zM_k hZ 2 0 0 (211 + 20 * (Z 2 0 0 (3022 + 60 * x1))) (lo := -1) (hi := 6) (by decide) (zs_200_11 (x := (Z 2 0 0 (3022 + 60 * x1))) (by omega) (by omega) (by omega))
          have r12 := zM_pl hZ (Z 2 0 0 (3022 + 60 * x1))
          have r13 := zM_k hZ 2 0 0 102 (lo := 0) (hi := 48) (by decide) rfl
          obtain ⟨Z14, hZ14, c9, hZ14I, kZ14, jZ14⟩ := sp_309 (ν := ν) hZ (a1 := x1) (by omega) (by omega) (zJ_309 hJ hZ hM9 hLtJ (by omega) (by omega) (by omega)).1 (zbh (c := 0) (k := 82) hM9 (Nat.le_of_ble_eq_true rfl))
          have hZ14U : zU [] Zs Z14 := zU_t hU jZ14 zU_b0
          have hZ14K : zC [2] Zs Z14 := zC_t hK kZ14 (by decide)
          replace hP := zl_e hP hZ14
          refine wz_cV_of (zas (zcons rfl (zcons (zvi (rfl : i3 x1 = i3 x1)) rfl)) c9) ?_
          clear c9
          obtain ⟨m2, rfl⟩ : ∃ m2, m = m2 + 1 := ⟨m - 1, by omega⟩
          exact wz_k1 ⟨m2, by omega, xM9 + 82, Z14, (x2 + 1), (zconso rfl (zconso (zvo (rfl : i3 x1 = i3 x1)) (zconso (zvo (i3A (rfl : i3 x2 = i3 x2) (show (1 : Int32) = i3 1 from rfl))) rfl))), rfl, by omega, (zmt hZ14I rfl), hZ14K, hZ14U, (by rw [hZ14]; exact (zJ_309 hJ hZ hM9 hLtJ (by omega) (by omega) (by omega)).2), by omega, by omega,  hP⟩
theorem sl_301_3 {s : zSM} {xM9 : Nat} {Zs Z : qz_Z} {ν : qz_N} (hZ : zM (zb s xM9) Z) (hM : s.2 + 1722 ≤ 1000000000) (hK : zC [2] Zs Z) {x1 : Int} (gx1 : 0 ≤ x1 ∧ x1 ≤ 2) (hU : zU [] Zs Z) {J : qz_Z → Prop} (hJ : zJh J) (hLtJ : J Z) (hx9 : xM9 + 574 * ((2 - x1).toNat) + 574 ≤ 1722) {k : wz_K} {R : wz_R} {L : qz_L} (hL : qz_fg [true, true, false] L = [some (.inr (.inr (some (1, 0, 0)))), some (.inl (i3 x1)), none]) {T : qz_Z × Int} (hP : zE T (zl_301_3 ((2 - x1).toNat + 1) Z x1)) (hk : ∀ (L9 : qz_L) (Z9 : qz_Z) (yx1 : Int), qz_fg [false, false, false] L9 = [none, none, none] → zM (zb s 1722) Z9 → zC [2] Zs Z9 → zU [] Zs Z9 → J Z9 → (0 ≤ yx1 ∧ yx1 ≤ 2) → zE T ((Z9, yx1)) → k 0 (L9, [], zm Z9 ν)) : wz_loop qb_301_3 65536 k R (L, [], zm Z ν) := by
  refine wz_lp sb_301_3 (fun m x => ∃ xM9 : Nat, ∃ Z : qz_Z, ∃ x1 : Int, qz_fg [true, true, false] x.1 = [some (.inr (.inr (some (1, 0, 0)))), some (.inl (i3 x1)), none] ∧ x.2 = ([], zm Z ν) ∧ xM9 + 574 * m + 574 ≤ 1722 ∧ zM (zb s xM9) Z ∧ zC [2] Zs Z ∧ zU [] Zs Z ∧ J Z ∧ m = (2 - x1).toNat ∧ (0 ≤ x1 ∧ x1 ≤ 2) ∧ zE T (zl_301_3 (m + 1) Z x1)) ?_ 65536 ((2 - x1).toNat) _ (by omega) ⟨xM9, Z, x1, hL, rfl, hx9, hZ, hK, hU, hLtJ, rfl, gx1, hP⟩
  clear hP gx1 hx9 hZ hK hU hLtJ hL
  clear x1
  clear Z
  clear xM9
  rintro m ⟨L, st, μ⟩ ⟨xM9, Z, x1, hL, hx, hx9, hZ, hK, hU, hLtJ, hm, gx1, hP⟩
  cases hx
  have hM9 : (zb s xM9).2 + 574 ≤ 1000000000 := by
    show s.2 + xM9 + 574 ≤ 1000000000
    omega
  refine fb_301_3 (i3 x1) _ _ _ _ hL ?_
  have r1 := zM_k hZ 2 0 0 3000 (lo := 0) (hi := 2) (by decide) rfl
  refine wz_br (i3Le (zm_rd (Z := Z) (ν := ν) (k := 2) (show ((0 : Nat) : Int) = 0 from rfl) (show ((0 : Nat) : Int) = 0 from rfl) (show ((3000 : Nat) : Int) = 3000 from rfl)) (rfl : i3 x1 = i3 x1) (by omega) (by omega) (by omega) (by omega)) (fun h2 => ?_) (fun h2 => ?_)
  · replace hP := zE_p hP h2
    exact hk _ _ _ (zconso rfl (zconso rfl (zconso rfl rfl))) (zmx0 hZ (by omega)) hK hU hLtJ (by omega)  hP
  · replace hP := zE_n hP h2
    refine sl_301_1 (ν := ν) (zm0 hZ) (zbh (c := 0) (k := 574) hM9 (Nat.le_of_ble_eq_true rfl)) (xM9 := 0) zC_r (x1 := x1) (by omega) (x2 := 0) (by omega) zU_r hJ hLtJ (Nat.le_of_ble_eq_true rfl)  (zconso rfl (zconso (zvo (rfl : i3 x1 = i3 x1)) (zconso (zvo (show (0 : Int32) = i3 0 from rfl)) rfl))) rfl ?_
    intro L5 Z4 y3 hL5 hZ4I kZ4 jZ4 tZ4_J gy3 q9
    replace hP := zl_e2 hP (Eq.symm q9)
    clear q9
    have hZ4U : zU [] Zs Z4 := zU_t hU jZ4 zU_b0
    have hZ4K : zC [2] Zs Z4 := zC_t hK kZ4 (by decide)
    refine fc_301_2 (i3 x1) _ _ _ _ hL5 ?_
    obtain ⟨m2, rfl⟩ : ∃ m2, m = m2 + 1 := ⟨m - 1, by omega⟩
    refine wz_kbs (n := 1) (?_)
    exact wz_k1 ⟨m2, by omega, xM9 + 574, Z4, (x1 + 1), (zconso rfl (zconso (zvo (i3A (rfl : i3 x1 = i3 x1) (show (1 : Int32) = i3 1 from rfl))) (zconso rfl rfl))), rfl, by omega, (zmt hZ4I rfl), hZ4K, hZ4U, tZ4_J, by omega, by omega,  hP⟩
theorem sp_301 {s : zSM} {Z : qz_Z} {ν : qz_N} (hZ : zM s Z) {J : qz_Z → Prop} (hJ : zJh J) (hLtJ : J Z) (hM : s.2 + 1722 ≤ 1000000000) : ∃ P : qz_Z, P = zf_301 Z ∧ (qf_301 [.inr (.inr (some (1, 0, 0)))] (zm Z ν) = some (zm P ν, .inl none) ∧ zM (zb s 1722) P ∧ zC [2] Z P ∧ zU [] Z P ∧ J P) := by
  obtain ⟨P, hP⟩ := zx (zf_301 Z)
  refine zc_V (Q := fun P => zM (zb s 1722) P ∧ zC [2] Z P ∧ zU [] Z P ∧ J P) hP (fw_301  _ _ ?_)
  replace hP : zE P (zf_301 Z) := hP
  unfold zf_301 at hP
  refine sl_301_3 (ν := ν) (zm0 hZ) (zbh (c := 0) (k := 1722) hM (Nat.le_of_ble_eq_true rfl)) (xM9 := 0) zC_r (x1 := 0) (by omega) zU_r hJ hLtJ (Nat.le_of_ble_eq_true rfl)  (zconso rfl (zconso (zvo (show (0 : Int32) = i3 0 from rfl)) (zconso rfl rfl))) rfl ?_
  intro L3 Z2 y1 hL3 hZ2I kZ2 jZ2 tZ2_J gy1 q9
  replace hP := zl_e2 hP (Eq.symm q9)
  clear q9
  have hZ2U : zU [] Z Z2 := zU_t zU_r jZ2 zU_b0
  have hZ2K : zC [2] Z Z2 := zC_t zC_r kZ2 (by decide)
  refine fc_301_4  _ _ _ _ hL3 ?_
  exact zlV hP ⟨hZ2I, hZ2K, hZ2U, tZ2_J⟩
theorem sl_402_1 {s : zSM} {xM9 : Nat} {Zs Z : qz_Z} {ν : qz_N} (hZ : zM (zb s xM9) Z) (hM : s.2 + 39 ≤ 1000000000) (hK : zC [2] Zs Z) {x1 : Int} (gx1 : 0 ≤ x1 ∧ x1 ≤ 27) {x2 : Int} (gx2 : 0 ≤ x2 ∧ x2 ≤ 12) (hU : zU [] Zs Z) {J : qz_Z → Prop} (hJ : zJh J) (hLtJ : J Z) (hx9 : xM9 + 3 * ((12 - x2).toNat) + 3 ≤ 39) {k : wz_K} {R : wz_R} {L : qz_L} (hL : qz_fg [true, true, true] L = [some (.inr (.inr (some (1, 0, 0)))), some (.inl (i3 x1)), some (.inl (i3 x2))]) {T : qz_Z × Int} (hP : zE T (zl_402_1 x1 ((12 - x2).toNat + 1) Z x2)) (hk : ∀ (L9 : qz_L) (Z9 : qz_Z) (yx2 : Int), qz_fg [true, true, false] L9 = [some (.inr (.inr (some (1, 0, 0)))), some (.inl (i3 x1)), none] → zM (zb s 39) Z9 → zC [2] Zs Z9 → zU [] Zs Z9 → J Z9 → (0 ≤ yx2 ∧ yx2 ≤ 12) → zE T ((Z9, yx2)) → k 0 (L9, [], zm Z9 ν)) : wz_loop qb_402_1 65536 k R (L, [], zm Z ν) := by
  refine wz_lp sb_402_1 (fun m x => ∃ xM9 : Nat, ∃ Z : qz_Z, ∃ x2 : Int, qz_fg [true, true, true] x.1 = [some (.inr (.inr (some (1, 0, 0)))), some (.inl (i3 x1)), some (.inl (i3 x2))] ∧ x.2 = ([], zm Z ν) ∧ xM9 + 3 * m + 3 ≤ 39 ∧ zM (zb s xM9) Z ∧ zC [2] Zs Z ∧ zU [] Zs Z ∧ J Z ∧ m = (12 - x2).toNat ∧ (0 ≤ x2 ∧ x2 ≤ 12) ∧ zE T (zl_402_1 x1 (m + 1) Z x2)) ?_ 65536 ((12 - x2).toNat) _ (by omega) ⟨xM9, Z, x2, hL, rfl, hx9, hZ, hK, hU, hLtJ, rfl, gx2, hP⟩
  clear hP gx2 hx9 hZ hK hU hLtJ hL
  clear x2
  clear Z
  clear xM9
  rintro m ⟨L, st, μ⟩ ⟨xM9, Z, x2, hL, hx, hx9, hZ, hK, hU, hLtJ, hm, gx2, hP⟩
  cases hx
  have hM9 : (zb s xM9).2 + 3 ≤ 1000000000 := by
    show s.2 + xM9 + 3 ≤ 1000000000
    omega
  refine fb_402_1 (i3 x1) (i3 x2) _ _ _ _ hL ?_
  have r1 := zM_k hZ 2 0 0 3815 (lo := 0) (hi := 12) (by decide) rfl
  refine wz_br (i3Le (zm_rd (Z := Z) (ν := ν) (k := 2) (show ((0 : Nat) : Int) = 0 from rfl) (show ((0 : Nat) : Int) = 0 from rfl) (show ((3815 : Nat) : Int) = 3815 from rfl)) (rfl : i3 x2 = i3 x2) (by omega) (by omega) (by omega) (by omega)) (fun h2 => ?_) (fun h2 => ?_)
  · replace hP := zE_p hP h2
    exact hk _ _ _ (zconso rfl (zconso (zvo (rfl : i3 x1 = i3 x1)) (zconso rfl rfl))) (zmx0 hZ (by omega)) hK hU hLtJ (by omega)  hP
  · replace hP := zE_n hP h2
    refine wz_i0 (i3O (n := 4400) (i3A (i3A (show (3850 : Int32) = i3 3850 from rfl) (i3M (show (8 : Int32) = i3 8 from rfl) (rfl : i3 x2 = i3 x2))) (show (2 : Int32) = i3 2 from rfl)) (by omega) (by omega) (by omega)) ?_
    have r3 := zM_k hZ 2 0 0 (3852 + 8 * x2) (lo := 0) (hi := 2) (by decide) (zs_3850_2 (x := x2) (by omega) (by omega) (by omega))
    refine wz_br (i3NE (zm_rd (Z := Z) (ν := ν) (k := 2) (show ((0 : Nat) : Int) = 0 from rfl) (show ((0 : Nat) : Int) = 0 from rfl) (i3I (y := (3852 + 8 * x2)) (i3A (i3A (show (3850 : Int32) = i3 3850 from rfl) (i3M (show (8 : Int32) = i3 8 from rfl) (rfl : i3 x2 = i3 x2))) (show (2 : Int32) = i3 2 from rfl)) (by omega) (by omega) (by omega))) (show (0 : Int32) = i3 0 from rfl) (by omega) (by omega) (by omega) (by omega)) (fun h4 => ?_) (fun h4 => ?_)
    · replace hP := zE_p hP h4
      obtain ⟨m2, rfl⟩ : ∃ m2, m = m2 + 1 := ⟨m - 1, by omega⟩
      exact wz_k1 ⟨m2, by omega, xM9, Z, (x2 + 1), (zconso rfl (zconso (zvo (rfl : i3 x1 = i3 x1)) (zconso (zvo (i3A (rfl : i3 x2 = i3 x2) (show (1 : Int32) = i3 1 from rfl))) rfl))), rfl, by omega, hZ, hK, hU, hLtJ, by omega, by omega,  hP⟩
    · replace hP := zE_n hP h4
      have r5 := zM_k hZ 2 0 0 (3850 + 8 * x2) (lo := 0) (hi := 59) (by decide) (zs_3850_0 (x := x2) (by omega) (by omega) (by omega))
      have r6 := zM_k hZ 2 0 0 (2018 + 16 * (Z 2 0 0 (3850 + 8 * x2))) (lo := 0) (hi := 2000) (by decide) (zs_2010_8 (x := (Z 2 0 0 (3850 + 8 * x2))) (by omega) (by omega) (by omega))
      have r7 := zM_k hZ 2 0 0 (2024 + 16 * (Z 2 0 0 (3850 + 8 * x2))) (lo := -1) (hi := 2000) (by decide) (zs_2010_14 (x := (Z 2 0 0 (3850 + 8 * x2))) (by omega) (by omega) (by omega))
      have r8 := zM_k hZ 2 0 0 (2021 + 16 * (Z 2 0 0 (3850 + 8 * x2))) (lo := 0) (hi := 2000) (by decide) (zs_2010_11 (x := (Z 2 0 0 (3850 + 8 * x2))) (by omega) (by omega) (by omega))
      have r9 := zM_k hZ 2 0 0 (2025 + 16 * (Z 2 0 0 (3850 + 8 * x2))) (lo := -1) (hi := 999) (by decide) (zs_2010_15 (x := (Z 2 0 0 (3850 + 8 * x2))) (by omega) (by omega) (by omega))
      have r10 := zM_k hZ 2 0 0 (2022 + 16 * (Z 2 0 0 (3850 + 8 * x2))) (lo := 0) (hi := 999) (by decide) (zs_2010_12 (x := (Z 2 0 0 (3850 + 8 * x2))) (by omega) (by omega) (by omega))
      have r11 := zM_k hZ 2 0 0 (2016 + 16 * (Z 2 0 0 (3850 + 8 * x2))) (lo := 0) (hi := 671) (by decide) (zs_2010_6 (x := (Z 2 0 0 (3850 + 8 * x2))) (by omega) (by omega) (by omega))
      have r12 := zM_k hZ 2 0 0 (2023 + 16 * (Z 2 0 0 (3850 + 8 * x2))) (lo := -1) (hi := 671) (by decide) (zs_2010_13 (x := (Z 2 0 0 (3850 + 8 * x2))) (by omega) (by omega) (by omega))
      have r13 := zM_k hZ 2 0 0 (40 + (Z 2 0 0 (3850 + 8 * x2))) (lo := -1) (hi := 671) (by decide) (zs_40 (by omega) (by omega))
      obtain ⟨Z14, hZ14, c9, hZ14I, kZ14, jZ14⟩ := sp_408 (ν := ν) hZ (a1 := x2) (by omega) (by omega) (zJ_408 hJ hZ hM9 hLtJ (by omega) (by omega) (by omega) (by omega)).1.1 (zJ_408 hJ hZ hM9 hLtJ (by omega) (by omega) (by omega) (by omega)).1.2.1 (zJ_408 hJ hZ hM9 hLtJ (by omega) (by omega) (by omega) (by omega)).1.2.2.1 (zJ_408 hJ hZ hM9 hLtJ (by omega) (by omega) (by omega) (by omega)).1.2.2.2.1 (zJ_408 hJ hZ hM9 hLtJ (by omega) (by omega) (by omega) (by omega)).1.2.2.2.2.1 (zJ_408 hJ hZ hM9 hLtJ (by omega) (by omega) (by omega) (by omega)).1.2.2.2.2.2 (zbh (c := 0) (k := 3) hM9 (Nat.le_of_ble_eq_true rfl))
      have hZ14U : zU [] Zs Z14 := zU_t hU jZ14 zU_b0
      have hZ14K : zC [2] Zs Z14 := zC_t hK kZ14 (by decide)
      replace hP := zl_e hP hZ14
      refine wz_cV_of (zas (zcons rfl (zcons (zvi (rfl : i3 x2 = i3 x2)) rfl)) c9) ?_
      clear c9
      obtain ⟨m2, rfl⟩ : ∃ m2, m = m2 + 1 := ⟨m - 1, by omega⟩
      exact wz_k1 ⟨m2, by omega, xM9 + 3, Z14, (x2 + 1), (zconso rfl (zconso (zvo (rfl : i3 x1 = i3 x1)) (zconso (zvo (i3A (rfl : i3 x2 = i3 x2) (show (1 : Int32) = i3 1 from rfl))) rfl))), rfl, by omega, (zmt hZ14I rfl), hZ14K, hZ14U, (by rw [hZ14]; exact (zJ_408 hJ hZ hM9 hLtJ (by omega) (by omega) (by omega) (by omega)).2), by omega, by omega,  hP⟩
theorem sp_402 {s : zSM} {Z : qz_Z} {ν : qz_N} (hZ : zM s Z) {a1 : Int} (ga1 : 0 ≤ a1 ∧ a1 ≤ 27) {J : qz_Z → Prop} (hJ : zJh J) (hLtJ : J Z) (hM : s.2 + 53 ≤ 1000000000) : ∃ P : qz_Z, P = zf_402 Z a1 ∧ (qf_402 [.inr (.inr (some (1, 0, 0))), .inl (i3 a1)] (zm Z ν) = some (zm P ν, .inl none) ∧ zM (zb s 53) P ∧ zC [2] Z P ∧ zU [] Z P) := by
  obtain ⟨P, hP⟩ := zx (zf_402 Z a1)
  refine zc_V (Q := fun P => zM (zb s 53) P ∧ zC [2] Z P ∧ zU [] Z P) hP (fw_402 (i3 a1) _ _ ?_)
  replace hP : zE P (zf_402 Z a1) := hP
  unfold zf_402 at hP
  obtain ⟨v1, hv1, c9, lv1, uv1⟩ := sp_492 (ν := ν) hZ (zbh (c := 0) (k := 0) hM (Nat.le_of_ble_eq_true rfl))
  replace hP := zl_e hP hv1
  refine wz_cI_of (zas (zcons rfl rfl) c9) ?_
  clear c9
  have r2 := zM_k hZ 2 0 0 3811 (lo := 0) (hi := 99999) (by decide) rfl
  have r3 := w3_r ((Z 2 0 0 3811) * v1)
  obtain ⟨Z4, hZ4, c9, hZ4I, kZ4, jZ4⟩ := sp_403 (ν := ν) hZ (a1 := 0) (by omega) (a2 := 4) (by omega) (a3 := (w3 ((Z 2 0 0 3811) * v1))) (by omega) (a4 := (-1)) (by omega) (zbh (c := 0) (k := 1) hM (Nat.le_of_ble_eq_true rfl))
  have hZ4U : zU [] Z Z4 := zU_t zU_r jZ4 zU_b0
  have hZ4K : zC [2] Z Z4 := zC_t zC_r kZ4 (by decide)
  replace hP := zl_e hP hZ4
  refine wz_cV_of (zas (zcons rfl (zcons (zvi (show (0 : Int32) = i3 0 from rfl)) (zcons (zvi (show (4 : Int32) = i3 4 from rfl)) (zcons (zvi (i3W (i3M (zm_rd (Z := Z) (ν := ν) (k := 2) (show ((0 : Nat) : Int) = 0 from rfl) (show ((0 : Nat) : Int) = 0 from rfl) (show ((3811 : Nat) : Int) = 3811 from rfl)) (rfl : i3 v1 = i3 v1)))) (zcons (zvi (show (-1 : Int32) = i3 (-1) from rfl)) rfl))))) c9) ?_
  clear c9
  obtain ⟨Z5, hZ5, c9, hZ5I, kZ5, jZ5⟩ := sp_463 (ν := ν) hZ4I (zbh (c := 1) (k := 0) hM (Nat.le_of_ble_eq_true rfl))
  have hZ5U : zU [] Z Z5 := zU_t hZ4U jZ5 zU_b0
  have hZ5K : zC [2] Z Z5 := zC_t hZ4K kZ5 (by decide)
  replace hP := zl_e hP hZ5
  refine wz_cV_of (zas (zcons rfl rfl) c9) ?_
  clear c9
  refine sl_402_1 (ν := ν) (zm0 hZ5I) (zbh (c := 1) (k := 39) hM (Nat.le_of_ble_eq_true rfl)) (xM9 := 0) zC_r (x1 := a1) (by omega) (x2 := 0) (by omega) zU_r hJ (by rw [hZ5, hZ4, hv1]; exact zJ_463 hJ hLtJ) (Nat.le_of_ble_eq_true rfl)  (zconso rfl (zconso (zvo (rfl : i3 a1 = i3 a1)) (zconso (zvo (show (0 : Int32) = i3 0 from rfl)) rfl))) rfl ?_
  intro L8 Z7 y6 hL8 hZ7I kZ7 jZ7 tZ7_J gy6 q9
  replace hP := zl_e2 hP (Eq.symm q9)
  clear q9
  replace hZ7I := zmt (c := 40) hZ7I rfl
  have hZ7U : zU [] Z Z7 := zU_t hZ5U jZ7 zU_b0
  have hZ7K : zC [2] Z Z7 := zC_t hZ5K kZ7 (by decide)
  refine fc_402_2 (i3 a1) _ _ _ _ hL8 ?_
  refine wz_br (i3NE (i3R (rfl : i3 a1 = i3 a1) (show (7 : Int32) = i3 7 from rfl) (by omega) (by omega) (by omega) (by omega)) (show (6 : Int32) = i3 6 from rfl) (by omega) (by omega) (by omega) (by omega)) (fun h9 => ?_) (fun h9 => ?_)
  · replace hP := zE_p hP h9
    have r10 := zM_f hZ7I 2 0 0 3803
    refine wz_br (i3Le (zm_rd (Z := Z7) (ν := ν) (k := 2) (show ((0 : Nat) : Int) = 0 from rfl) (show ((0 : Nat) : Int) = 0 from rfl) (show ((3803 : Nat) : Int) = 3803 from rfl)) (show (0 : Int32) = i3 0 from rfl) (by omega) (by omega) (by omega) (by omega)) (fun h11 => ?_) (fun h11 => ?_)
    · replace hP := zE_p hP h11
      have r12 := w3_r (-(Z7 2 0 0 3803))
      obtain ⟨Z13, hZ13, c9, hZ13I, kZ13, jZ13⟩ := sp_403 (ν := ν) hZ7I (a1 := 9) (by omega) (a2 := 3) (by omega) (a3 := (w3 (-(Z7 2 0 0 3803)))) (by omega) (a4 := (-1)) (by omega) (zbh (c := 40) (k := 1) hM (Nat.le_of_ble_eq_true rfl))
      have hZ13U : zU [] Z Z13 := zU_t hZ7U jZ13 zU_b0
      have hZ13K : zC [2] Z Z13 := zC_t hZ7K kZ13 (by decide)
      replace hZ13I := zmt (c := 41) hZ13I rfl
      replace hP := zl_e hP hZ13
      refine wz_cV_of (zas (zcons rfl (zcons (zvi (show (9 : Int32) = i3 9 from rfl)) (zcons (zvi (show (3 : Int32) = i3 3 from rfl)) (zcons (zvi (i3W (i3G (zm_rd (Z := Z7) (ν := ν) (k := 2) (show ((0 : Nat) : Int) = 0 from rfl) (show ((0 : Nat) : Int) = 0 from rfl) (show ((3803 : Nat) : Int) = 3803 from rfl))))) (zcons (zvi (show (-1 : Int32) = i3 (-1) from rfl)) rfl))))) c9) ?_
      clear c9
      have r14 := zM_f hZ13I 2 0 0 3804
      refine wz_br (i3Le (zm_rd (Z := Z13) (ν := ν) (k := 2) (show ((0 : Nat) : Int) = 0 from rfl) (show ((0 : Nat) : Int) = 0 from rfl) (show ((3804 : Nat) : Int) = 3804 from rfl)) (show (0 : Int32) = i3 0 from rfl) (by omega) (by omega) (by omega) (by omega)) (fun h15 => ?_) (fun h15 => ?_)
      · replace hP := zE_p hP h15
        have r16 := w3_r (-(Z13 2 0 0 3804))
        obtain ⟨Z17, hZ17, c9, hZ17I, kZ17, jZ17⟩ := sp_403 (ν := ν) hZ13I (a1 := 9) (by omega) (a2 := 4) (by omega) (a3 := (w3 (-(Z13 2 0 0 3804)))) (by omega) (a4 := (-1)) (by omega) (zbh (c := 41) (k := 1) hM (Nat.le_of_ble_eq_true rfl))
        have hZ17U : zU [] Z Z17 := zU_t hZ13U jZ17 zU_b0
        have hZ17K : zC [2] Z Z17 := zC_t hZ13K kZ17 (by decide)
        replace hZ17I := zmt (c := 42) hZ17I rfl
        replace hP := zl_e hP hZ17
        refine wz_cV_of (zas (zcons rfl (zcons (zvi (show (9 : Int32) = i3 9 from rfl)) (zcons (zvi (show (4 : Int32) = i3 4 from rfl)) (zcons (zvi (i3W (i3G (zm_rd (Z := Z13) (ν := ν) (k := 2) (show ((0 : Nat) : Int) = 0 from rfl) (show ((0 : Nat) : Int) = 0 from rfl) (show ((3804 : Nat) : Int) = 3804 from rfl))))) (zcons (zvi (show (-1 : Int32) = i3 (-1) from rfl)) rfl))))) c9) ?_
        clear c9
        have r18 := zM_f hZ17I 2 0 0 3805
        refine wz_br (i3Le (zm_rd (Z := Z17) (ν := ν) (k := 2) (show ((0 : Nat) : Int) = 0 from rfl) (show ((0 : Nat) : Int) = 0 from rfl) (show ((3805 : Nat) : Int) = 3805 from rfl)) (show (0 : Int32) = i3 0 from rfl) (by omega) (by omega) (by omega) (by omega)) (fun h19 => ?_) (fun h19 => ?_)
        · replace hP := zE_p hP h19
          have r20 := w3_r (-(Z17 2 0 0 3805))
          obtain ⟨Z21, hZ21, c9, hZ21I, kZ21, jZ21⟩ := sp_403 (ν := ν) hZ17I (a1 := 9) (by omega) (a2 := 5) (by omega) (a3 := (w3 (-(Z17 2 0 0 3805)))) (by omega) (a4 := (-1)) (by omega) (zbh (c := 42) (k := 1) hM (Nat.le_of_ble_eq_true rfl))
          have hZ21U : zU [] Z Z21 := zU_t hZ17U jZ21 zU_b0
          have hZ21K : zC [2] Z Z21 := zC_t hZ17K kZ21 (by decide)
          replace hZ21I := zmt (c := 43) hZ21I rfl
          replace hP := zl_e hP hZ21
          refine wz_cV_of (zas (zcons rfl (zcons (zvi (show (9 : Int32) = i3 9 from rfl)) (zcons (zvi (show (5 : Int32) = i3 5 from rfl)) (zcons (zvi (i3W (i3G (zm_rd (Z := Z17) (ν := ν) (k := 2) (show ((0 : Nat) : Int) = 0 from rfl) (show ((0 : Nat) : Int) = 0 from rfl) (show ((3805 : Nat) : Int) = 3805 from rfl))))) (zcons (zvi (show (-1 : Int32) = i3 (-1) from rfl)) rfl))))) c9) ?_
          clear c9
          have r22 := zM_f hZ21I 2 0 0 3806
          refine wz_br (i3Le (zm_rd (Z := Z21) (ν := ν) (k := 2) (show ((0 : Nat) : Int) = 0 from rfl) (show ((0 : Nat) : Int) = 0 from rfl) (show ((3806 : Nat) : Int) = 3806 from rfl)) (show (0 : Int32) = i3 0 from rfl) (by omega) (by omega) (by omega) (by omega)) (fun h23 => ?_) (fun h23 => ?_)
          · replace hP := zE_p hP h23
            have r24 := w3_r (-(Z21 2 0 0 3806))
            obtain ⟨Z25, hZ25, c9, hZ25I, kZ25, jZ25⟩ := sp_403 (ν := ν) hZ21I (a1 := 9) (by omega) (a2 := 6) (by omega) (a3 := (w3 (-(Z21 2 0 0 3806)))) (by omega) (a4 := (-1)) (by omega) (zbh (c := 43) (k := 1) hM (Nat.le_of_ble_eq_true rfl))
            have hZ25U : zU [] Z Z25 := zU_t hZ21U jZ25 zU_b0
            have hZ25K : zC [2] Z Z25 := zC_t hZ21K kZ25 (by decide)
            replace hZ25I := zmt (c := 44) hZ25I rfl
            replace hP := zl_e hP hZ25
            refine wz_cV_of (zas (zcons rfl (zcons (zvi (show (9 : Int32) = i3 9 from rfl)) (zcons (zvi (show (6 : Int32) = i3 6 from rfl)) (zcons (zvi (i3W (i3G (zm_rd (Z := Z21) (ν := ν) (k := 2) (show ((0 : Nat) : Int) = 0 from rfl) (show ((0 : Nat) : Int) = 0 from rfl) (show ((3806 : Nat) : Int) = 3806 from rfl))))) (zcons (zvi (show (-1 : Int32) = i3 (-1) from rfl)) rfl))))) c9) ?_
            clear c9
            have r26 := zM_f hZ25I 2 0 0 3807
            refine wz_br (i3Le (zm_rd (Z := Z25) (ν := ν) (k := 2) (show ((0 : Nat) : Int) = 0 from rfl) (show ((0 : Nat) : Int) = 0 from rfl) (show ((3807 : Nat) : Int) = 3807 from rfl)) (show (0 : Int32) = i3 0 from rfl) (by omega) (by omega) (by omega) (by omega)) (fun h27 => ?_) (fun h27 => ?_)
            · replace hP := zE_p hP h27
              have r28 := w3_r (-(Z25 2 0 0 3807))
              obtain ⟨Z29, hZ29, c9, hZ29I, kZ29, jZ29⟩ := sp_403 (ν := ν) hZ25I (a1 := 9) (by omega) (a2 := 7) (by omega) (a3 := (w3 (-(Z25 2 0 0 3807)))) (by omega) (a4 := (-1)) (by omega) (zbh (c := 44) (k := 1) hM (Nat.le_of_ble_eq_true rfl))
              have hZ29U : zU [] Z Z29 := zU_t hZ25U jZ29 zU_b0
              have hZ29K : zC [2] Z Z29 := zC_t hZ25K kZ29 (by decide)
              replace hZ29I := zmt (c := 45) hZ29I rfl
              replace hP := zl_e hP hZ29
              refine wz_cV_of (zas (zcons rfl (zcons (zvi (show (9 : Int32) = i3 9 from rfl)) (zcons (zvi (show (7 : Int32) = i3 7 from rfl)) (zcons (zvi (i3W (i3G (zm_rd (Z := Z25) (ν := ν) (k := 2) (show ((0 : Nat) : Int) = 0 from rfl) (show ((0 : Nat) : Int) = 0 from rfl) (show ((3807 : Nat) : Int) = 3807 from rfl))))) (zcons (zvi (show (-1 : Int32) = i3 (-1) from rfl)) rfl))))) c9) ?_
              clear c9
              have r30 := zM_f hZ29I 2 0 0 3808
              refine wz_br (i3Le (zm_rd (Z := Z29) (ν := ν) (k := 2) (show ((0 : Nat) : Int) = 0 from rfl) (show ((0 : Nat) : Int) = 0 from rfl) (show ((3808 : Nat) : Int) = 3808 from rfl)) (show (0 : Int32) = i3 0 from rfl) (by omega) (by omega) (by omega) (by omega)) (fun h31 => ?_) (fun h31 => ?_)
              · replace hP := zE_p hP h31
                have r32 := w3_r (-(Z29 2 0 0 3808))
                obtain ⟨Z33, hZ33, c9, hZ33I, kZ33, jZ33⟩ := sp_403 (ν := ν) hZ29I (a1 := 9) (by omega) (a2 := 8) (by omega) (a3 := (w3 (-(Z29 2 0 0 3808)))) (by omega) (a4 := (-1)) (by omega) (zbh (c := 45) (k := 1) hM (Nat.le_of_ble_eq_true rfl))
                have hZ33U : zU [] Z Z33 := zU_t hZ29U jZ33 zU_b0
                have hZ33K : zC [2] Z Z33 := zC_t hZ29K kZ33 (by decide)
                replace hZ33I := zmt (c := 46) hZ33I rfl
                replace hP := zl_e hP hZ33
                refine wz_cV_of (zas (zcons rfl (zcons (zvi (show (9 : Int32) = i3 9 from rfl)) (zcons (zvi (show (8 : Int32) = i3 8 from rfl)) (zcons (zvi (i3W (i3G (zm_rd (Z := Z29) (ν := ν) (k := 2) (show ((0 : Nat) : Int) = 0 from rfl) (show ((0 : Nat) : Int) = 0 from rfl) (show ((3808 : Nat) : Int) = 3808 from rfl))))) (zcons (zvi (show (-1 : Int32) = i3 (-1) from rfl)) rfl))))) c9) ?_
                clear c9
                exact zlV hP ⟨(zmw (a := 46) (c := 53) hZ33I (Nat.le_of_ble_eq_true rfl)), hZ33K, hZ33U⟩
              · replace hP := zE_n hP h31
                obtain ⟨Z34, hZ34, c9, hZ34I, kZ34, jZ34⟩ := sp_403 (ν := ν) hZ29I (a1 := 8) (by omega) (a2 := 9) (by omega) (a3 := (Z29 2 0 0 3808)) (by omega) (a4 := (-1)) (by omega) (zbh (c := 45) (k := 1) hM (Nat.le_of_ble_eq_true rfl))
                have hZ34U : zU [] Z Z34 := zU_t hZ29U jZ34 zU_b0
                have hZ34K : zC [2] Z Z34 := zC_t hZ29K kZ34 (by decide)
                replace hZ34I := zmt (c := 46) hZ34I rfl
                replace hP := zl_e hP hZ34
                refine wz_cV_of (zas (zcons rfl (zcons (zvi (show (8 : Int32) = i3 8 from rfl)) (zcons (zvi (show (9 : Int32) = i3 9 from rfl)) (zcons (zvi (zm_rd (Z := Z29) (ν := ν) (k := 2) (show ((0 : Nat) : Int) = 0 from rfl) (show ((0 : Nat) : Int) = 0 from rfl) (show ((3808 : Nat) : Int) = 3808 from rfl))) (zcons (zvi (show (-1 : Int32) = i3 (-1) from rfl)) rfl))))) c9) ?_
                clear c9
                exact zlV hP ⟨(zmw (a := 46) (c := 53) hZ34I (Nat.le_of_ble_eq_true rfl)), hZ34K, hZ34U⟩
            · replace hP := zE_n hP h27
              obtain ⟨Z35, hZ35, c9, hZ35I, kZ35, jZ35⟩ := sp_403 (ν := ν) hZ25I (a1 := 7) (by omega) (a2 := 9) (by omega) (a3 := (Z25 2 0 0 3807)) (by omega) (a4 := (-1)) (by omega) (zbh (c := 44) (k := 1) hM (Nat.le_of_ble_eq_true rfl))
              have hZ35U : zU [] Z Z35 := zU_t hZ25U jZ35 zU_b0
              have hZ35K : zC [2] Z Z35 := zC_t hZ25K kZ35 (by decide)
              replace hZ35I := zmt (c := 45) hZ35I rfl
              replace hP := zl_e hP hZ35
              refine wz_cV_of (zas (zcons rfl (zcons (zvi (show (7 : Int32) = i3 7 from rfl)) (zcons (zvi (show (9 : Int32) = i3 9 from rfl)) (zcons (zvi (zm_rd (Z := Z25) (ν := ν) (k := 2) (show ((0 : Nat) : Int) = 0 from rfl) (show ((0 : Nat) : Int) = 0 from rfl) (show ((3807 : Nat) : Int) = 3807 from rfl))) (zcons (zvi (show (-1 : Int32) = i3 (-1) from rfl)) rfl))))) c9) ?_
              clear c9
              have r36 := zM_f hZ35I 2 0 0 3808
              refine wz_br (i3Le (zm_rd (Z := Z35) (ν := ν) (k := 2) (show ((0 : Nat) : Int) = 0 from rfl) (show ((0 : Nat) : Int) = 0 from rfl) (show ((3808 : Nat) : Int) = 3808 from rfl)) (show (0 : Int32) = i3 0 from rfl) (by omega) (by omega) (by omega) (by omega)) (fun h37 => ?_) (fun h37 => ?_)
              · replace hP := zE_p hP h37
                have r38 := w3_r (-(Z35 2 0 0 3808))
                obtain ⟨Z39, hZ39, c9, hZ39I, kZ39, jZ39⟩ := sp_403 (ν := ν) hZ35I (a1 := 9) (by omega) (a2 := 8) (by omega) (a3 := (w3 (-(Z35 2 0 0 3808)))) (by omega) (a4 := (-1)) (by omega) (zbh (c := 45) (k := 1) hM (Nat.le_of_ble_eq_true rfl))
                have hZ39U : zU [] Z Z39 := zU_t hZ35U jZ39 zU_b0
                have hZ39K : zC [2] Z Z39 := zC_t hZ35K kZ39 (by decide)
                replace hZ39I := zmt (c := 46) hZ39I rfl
                replace hP := zl_e hP hZ39
                refine wz_cV_of (zas (zcons rfl (zcons (zvi (show (9 : Int32) = i3 9 from rfl)) (zcons (zvi (show (8 : Int32) = i3 8 from rfl)) (zcons (zvi (i3W (i3G (zm_rd (Z := Z35) (ν := ν) (k := 2) (show ((0 : Nat) : Int) = 0 from rfl) (show ((0 : Nat) : Int) = 0 from rfl) (show ((3808 : Nat) : Int) = 3808 from rfl))))) (zcons (zvi (show (-1 : Int32) = i3 (-1) from rfl)) rfl))))) c9) ?_
                clear c9
                exact zlV hP ⟨(zmw (a := 46) (c := 53) hZ39I (Nat.le_of_ble_eq_true rfl)), hZ39K, hZ39U⟩
              · replace hP := zE_n hP h37
                obtain ⟨Z40, hZ40, c9, hZ40I, kZ40, jZ40⟩ := sp_403 (ν := ν) hZ35I (a1 := 8) (by omega) (a2 := 9) (by omega) (a3 := (Z35 2 0 0 3808)) (by omega) (a4 := (-1)) (by omega) (zbh (c := 45) (k := 1) hM (Nat.le_of_ble_eq_true rfl))
                have hZ40U : zU [] Z Z40 := zU_t hZ35U jZ40 zU_b0
                have hZ40K : zC [2] Z Z40 := zC_t hZ35K kZ40 (by decide)
                replace hZ40I := zmt (c := 46) hZ40I rfl
                replace hP := zl_e hP hZ40
                refine wz_cV_of (zas (zcons rfl (zcons (zvi (show (8 : Int32) = i3 8 from rfl)) (zcons (zvi (show (9 : Int32) = i3 9 from rfl)) (zcons (zvi (zm_rd (Z := Z35) (ν := ν) (k := 2) (show ((0 : Nat) : Int) = 0 from rfl) (show ((0 : Nat) : Int) = 0 from rfl) (show ((3808 : Nat) : Int) = 3808 from rfl))) (zcons (zvi (show (-1 : Int32) = i3 (-1) from rfl)) rfl))))) c9) ?_
                clear c9
                exact zlV hP ⟨(zmw (a := 46) (c := 53) hZ40I (Nat.le_of_ble_eq_true rfl)), hZ40K, hZ40U⟩
          · replace hP := zE_n hP h23
            obtain ⟨Z41, hZ41, c9, hZ41I, kZ41, jZ41⟩ := sp_403 (ν := ν) hZ21I (a1 := 6) (by omega) (a2 := 9) (by omega) (a3 := (Z21 2 0 0 3806)) (by omega) (a4 := (-1)) (by omega) (zbh (c := 43) (k := 1) hM (Nat.le_of_ble_eq_true rfl))
            have hZ41U : zU [] Z Z41 := zU_t hZ21U jZ41 zU_b0
            have hZ41K : zC [2] Z Z41 := zC_t hZ21K kZ41 (by decide)
            replace hZ41I := zmt (c := 44) hZ41I rfl
            replace hP := zl_e hP hZ41
            refine wz_cV_of (zas (zcons rfl (zcons (zvi (show (6 : Int32) = i3 6 from rfl)) (zcons (zvi (show (9 : Int32) = i3 9 from rfl)) (zcons (zvi (zm_rd (Z := Z21) (ν := ν) (k := 2) (show ((0 : Nat) : Int) = 0 from rfl) (show ((0 : Nat) : Int) = 0 from rfl) (show ((3806 : Nat) : Int) = 3806 from rfl))) (zcons (zvi (show (-1 : Int32) = i3 (-1) from rfl)) rfl))))) c9) ?_
            clear c9
            have r42 := zM_f hZ41I 2 0 0 3807
            refine wz_br (i3Le (zm_rd (Z := Z41) (ν := ν) (k := 2) (show ((0 : Nat) : Int) = 0 from rfl) (show ((0 : Nat) : Int) = 0 from rfl) (show ((3807 : Nat) : Int) = 3807 from rfl)) (show (0 : Int32) = i3 0 from rfl) (by omega) (by omega) (by omega) (by omega)) (fun h43 => ?_) (fun h43 => ?_)
            · replace hP := zE_p hP h43
              have r44 := w3_r (-(Z41 2 0 0 3807))
              obtain ⟨Z45, hZ45, c9, hZ45I, kZ45, jZ45⟩ := sp_403 (ν := ν) hZ41I (a1 := 9) (by omega) (a2 := 7) (by omega) (a3 := (w3 (-(Z41 2 0 0 3807)))) (by omega) (a4 := (-1)) (by omega) (zbh (c := 44) (k := 1) hM (Nat.le_of_ble_eq_true rfl))
              have hZ45U : zU [] Z Z45 := zU_t hZ41U jZ45 zU_b0
              have hZ45K : zC [2] Z Z45 := zC_t hZ41K kZ45 (by decide)
              replace hZ45I := zmt (c := 45) hZ45I rfl
              replace hP := zl_e hP hZ45
              refine wz_cV_of (zas (zcons rfl (zcons (zvi (show (9 : Int32) = i3 9 from rfl)) (zcons (zvi (show (7 : Int32) = i3 7 from rfl)) (zcons (zvi (i3W (i3G (zm_rd (Z := Z41) (ν := ν) (k := 2) (show ((0 : Nat) : Int) = 0 from rfl) (show ((0 : Nat) : Int) = 0 from rfl) (show ((3807 : Nat) : Int) = 3807 from rfl))))) (zcons (zvi (show (-1 : Int32) = i3 (-1) from rfl)) rfl))))) c9) ?_
              clear c9
              have r46 := zM_f hZ45I 2 0 0 3808
              refine wz_br (i3Le (zm_rd (Z := Z45) (ν := ν) (k := 2) (show ((0 : Nat) : Int) = 0 from rfl) (show ((0 : Nat) : Int) = 0 from rfl) (show ((3808 : Nat) : Int) = 3808 from rfl)) (show (0 : Int32) = i3 0 from rfl) (by omega) (by omega) (by omega) (by omega)) (fun h47 => ?_) (fun h47 => ?_)
              · replace hP := zE_p hP h47
                have r48 := w3_r (-(Z45 2 0 0 3808))
                obtain ⟨Z49, hZ49, c9, hZ49I, kZ49, jZ49⟩ := sp_403 (ν := ν) hZ45I (a1 := 9) (by omega) (a2 := 8) (by omega) (a3 := (w3 (-(Z45 2 0 0 3808)))) (by omega) (a4 := (-1)) (by omega) (zbh (c := 45) (k := 1) hM (Nat.le_of_ble_eq_true rfl))
                have hZ49U : zU [] Z Z49 := zU_t hZ45U jZ49 zU_b0
                have hZ49K : zC [2] Z Z49 := zC_t hZ45K kZ49 (by decide)
                replace hZ49I := zmt (c := 46) hZ49I rfl
                replace hP := zl_e hP hZ49
                refine wz_cV_of (zas (zcons rfl (zcons (zvi (show (9 : Int32) = i3 9 from rfl)) (zcons (zvi (show (8 : Int32) = i3 8 from rfl)) (zcons (zvi (i3W (i3G (zm_rd (Z := Z45) (ν := ν) (k := 2) (show ((0 : Nat) : Int) = 0 from rfl) (show ((0 : Nat) : Int) = 0 from rfl) (show ((3808 : Nat) : Int) = 3808 from rfl))))) (zcons (zvi (show (-1 : Int32) = i3 (-1) from rfl)) rfl))))) c9) ?_
                clear c9
                exact zlV hP ⟨(zmw (a := 46) (c := 53) hZ49I (Nat.le_of_ble_eq_true rfl)), hZ49K, hZ49U⟩
              · replace hP := zE_n hP h47
                obtain ⟨Z50, hZ50, c9, hZ50I, kZ50, jZ50⟩ := sp_403 (ν := ν) hZ45I (a1 := 8) (by omega) (a2 := 9) (by omega) (a3 := (Z45 2 0 0 3808)) (by omega) (a4 := (-1)) (by omega) (zbh (c := 45) (k := 1) hM (Nat.le_of_ble_eq_true rfl))
                have hZ50U : zU [] Z Z50 := zU_t hZ45U jZ50 zU_b0
                have hZ50K : zC [2] Z Z50 := zC_t hZ45K kZ50 (by decide)
                replace hZ50I := zmt (c := 46) hZ50I rfl
                replace hP := zl_e hP hZ50
                refine wz_cV_of (zas (zcons rfl (zcons (zvi (show (8 : Int32) = i3 8 from rfl)) (zcons (zvi (show (9 : Int32) = i3 9 from rfl)) (zcons (zvi (zm_rd (Z := Z45) (ν := ν) (k := 2) (show ((0 : Nat) : Int) = 0 from rfl) (show ((0 : Nat) : Int) = 0 from rfl) (show ((3808 : Nat) : Int) = 3808 from rfl))) (zcons (zvi (show (-1 : Int32) = i3 (-1) from rfl)) rfl))))) c9) ?_
                clear c9
                exact zlV hP ⟨(zmw (a := 46) (c := 53) hZ50I (Nat.le_of_ble_eq_true rfl)), hZ50K, hZ50U⟩
            · replace hP := zE_n hP h43
              obtain ⟨Z51, hZ51, c9, hZ51I, kZ51, jZ51⟩ := sp_403 (ν := ν) hZ41I (a1 := 7) (by omega) (a2 := 9) (by omega) (a3 := (Z41 2 0 0 3807)) (by omega) (a4 := (-1)) (by omega) (zbh (c := 44) (k := 1) hM (Nat.le_of_ble_eq_true rfl))
              have hZ51U : zU [] Z Z51 := zU_t hZ41U jZ51 zU_b0
              have hZ51K : zC [2] Z Z51 := zC_t hZ41K kZ51 (by decide)
              replace hZ51I := zmt (c := 45) hZ51I rfl
              replace hP := zl_e hP hZ51
              refine wz_cV_of (zas (zcons rfl (zcons (zvi (show (7 : Int32) = i3 7 from rfl)) (zcons (zvi (show (9 : Int32) = i3 9 from rfl)) (zcons (zvi (zm_rd (Z := Z41) (ν := ν) (k := 2) (show ((0 : Nat) : Int) = 0 from rfl) (show ((0 : Nat) : Int) = 0 from rfl) (show ((3807 : Nat) : Int) = 3807 from rfl))) (zcons (zvi (show (-1 : Int32) = i3 (-1) from rfl)) rfl))))) c9) ?_
              clear c9
              have r52 := zM_f hZ51I 2 0 0 3808
              refine wz_br (i3Le (zm_rd (Z := Z51) (ν := ν) (k := 2) (show ((0 : Nat) : Int) = 0 from rfl) (show ((0 : Nat) : Int) = 0 from rfl) (show ((3808 : Nat) : Int) = 3808 from rfl)) (show (0 : Int32) = i3 0 from rfl) (by omega) (by omega) (by omega) (by omega)) (fun h53 => ?_) (fun h53 => ?_)
              · replace hP := zE_p hP h53
                have r54 := w3_r (-(Z51 2 0 0 3808))
                obtain ⟨Z55, hZ55, c9, hZ55I, kZ55, jZ55⟩ := sp_403 (ν := ν) hZ51I (a1 := 9) (by omega) (a2 := 8) (by omega) (a3 := (w3 (-(Z51 2 0 0 3808)))) (by omega) (a4 := (-1)) (by omega) (zbh (c := 45) (k := 1) hM (Nat.le_of_ble_eq_true rfl))
                have hZ55U : zU [] Z Z55 := zU_t hZ51U jZ55 zU_b0
                have hZ55K : zC [2] Z Z55 := zC_t hZ51K kZ55 (by decide)
                replace hZ55I := zmt (c := 46) hZ55I rfl
                replace hP := zl_e hP hZ55
                refine wz_cV_of (zas (zcons rfl (zcons (zvi (show (9 : Int32) = i3 9 from rfl)) (zcons (zvi (show (8 : Int32) = i3 8 from rfl)) (zcons (zvi (i3W (i3G (zm_rd (Z := Z51) (ν := ν) (k := 2) (show ((0 : Nat) : Int) = 0 from rfl) (show ((0 : Nat) : Int) = 0 from rfl) (show ((3808 : Nat) : Int) = 3808 from rfl))))) (zcons (zvi (show (-1 : Int32) = i3 (-1) from rfl)) rfl))))) c9) ?_
                clear c9
                exact zlV hP ⟨(zmw (a := 46) (c := 53) hZ55I (Nat.le_of_ble_eq_true rfl)), hZ55K, hZ55U⟩
              · replace hP := zE_n hP h53
                obtain ⟨Z56, hZ56, c9, hZ56I, kZ56, jZ56⟩ := sp_403 (ν := ν) hZ51I (a1 := 8) (by omega) (a2 := 9) (by omega) (a3 := (Z51 2 0 0 3808)) (by omega) (a4 := (-1)) (by omega) (zbh (c := 45) (k := 1) hM (Nat.le_of_ble_eq_true rfl))
                have hZ56U : zU [] Z Z56 := zU_t hZ51U jZ56 zU_b0
                have hZ56K : zC [2] Z Z56 := zC_t hZ51K kZ56 (by decide)
                replace hZ56I := zmt (c := 46) hZ56I rfl
                replace hP := zl_e hP hZ56
                refine wz_cV_of (zas (zcons rfl (zcons (zvi (show (8 : Int32) = i3 8 from rfl)) (zcons (zvi (show (9 : Int32) = i3 9 from rfl)) (zcons (zvi (zm_rd (Z := Z51) (ν := ν) (k := 2) (show ((0 : Nat) : Int) = 0 from rfl) (show ((0 : Nat) : Int) = 0 from rfl) (show ((3808 : Nat) : Int) = 3808 from rfl))) (zcons (zvi (show (-1 : Int32) = i3 (-1) from rfl)) rfl))))) c9) ?_
                clear c9
                exact zlV hP ⟨(zmw (a := 46) (c := 53) hZ56I (Nat.le_of_ble_eq_true rfl)), hZ56K, hZ56U⟩
        · replace hP := zE_n hP h19
          obtain ⟨Z57, hZ57, c9, hZ57I, kZ57, jZ57⟩ := sp_403 (ν := ν) hZ17I (a1 := 5) (by omega) (a2 := 9) (by omega) (a3 := (Z17 2 0 0 3805)) (by omega) (a4 := (-1)) (by omega) (zbh (c := 42) (k := 1) hM (Nat.le_of_ble_eq_true rfl))
          have hZ57U : zU [] Z Z57 := zU_t hZ17U jZ57 zU_b0
          have hZ57K : zC [2] Z Z57 := zC_t hZ17K kZ57 (by decide)
          replace hZ57I := zmt (c := 43) hZ57I rfl
          replace hP := zl_e hP hZ57
          refine wz_cV_of (zas (zcons rfl (zcons (zvi (show (5 : Int32) = i3 5 from rfl)) (zcons (zvi (show (9 : Int32) = i3 9 from rfl)) (zcons (zvi (zm_rd (Z := Z17) (ν := ν) (k := 2) (show ((0 : Nat) : Int) = 0 from rfl) (show ((0 : Nat) : Int) = 0 from rfl) (show ((3805 : Nat) : Int) = 3805 from rfl))) (zcons (zvi (show (-1 : Int32) = i3 (-1) from rfl)) rfl))))) c9) ?_
          clear c9
          have r58 := zM_f hZ57I 2 0 0 3806
          refine wz_br (i3Le (zm_rd (Z := Z57) (ν := ν) (k := 2) (show ((0 : Nat) : Int) = 0 from rfl) (show ((0 : Nat) : Int) = 0 from rfl) (show ((3806 : Nat) : Int) = 3806 from rfl)) (show (0 : Int32) = i3 0 from rfl) (by omega) (by omega) (by omega) (by omega)) (fun h59 => ?_) (fun h59 => ?_)
          · replace hP := zE_p hP h59
            have r60 := w3_r (-(Z57 2 0 0 3806))
            obtain ⟨Z61, hZ61, c9, hZ61I, kZ61, jZ61⟩ := sp_403 (ν := ν) hZ57I (a1 := 9) (by omega) (a2 := 6) (by omega) (a3 := (w3 (-(Z57 2 0 0 3806)))) (by omega) (a4 := (-1)) (by omega) (zbh (c := 43) (k := 1) hM (Nat.le_of_ble_eq_true rfl))
            have hZ61U : zU [] Z Z61 := zU_t hZ57U jZ61 zU_b0
            have hZ61K : zC [2] Z Z61 := zC_t hZ57K kZ61 (by decide)
            replace hZ61I := zmt (c := 44) hZ61I rfl
            replace hP := zl_e hP hZ61
            refine wz_cV_of (zas (zcons rfl (zcons (zvi (show (9 : Int32) = i3 9 from rfl)) (zcons (zvi (show (6 : Int32) = i3 6 from rfl)) (zcons (zvi (i3W (i3G (zm_rd (Z := Z57) (ν := ν) (k := 2) (show ((0 : Nat) : Int) = 0 from rfl) (show ((0 : Nat) : Int) = 0 from rfl) (show ((3806 : Nat) : Int) = 3806 from rfl))))) (zcons (zvi (show (-1 : Int32) = i3 (-1) from rfl)) rfl))))) c9) ?_
            clear c9
            have r62 := zM_f hZ61I 2 0 0 3807
            refine wz_br (i3Le (zm_rd (Z := Z61) (ν := ν) (k := 2) (show ((0 : Nat) : Int) = 0 from rfl) (show ((0 : Nat) : Int) = 0 from rfl) (show ((3807 : Nat) : Int) = 3807 from rfl)) (show (0 : Int32) = i3 0 from rfl) (by omega) (by omega) (by omega) (by omega)) (fun h63 => ?_) (fun h63 => ?_)
            · replace hP := zE_p hP h63
              have r64 := w3_r (-(Z61 2 0 0 3807))
              obtain ⟨Z65, hZ65, c9, hZ65I, kZ65, jZ65⟩ := sp_403 (ν := ν) hZ61I (a1 := 9) (by omega) (a2 := 7) (by omega) (a3 := (w3 (-(Z61 2 0 0 3807)))) (by omega) (a4 := (-1)) (by omega) (zbh (c := 44) (k := 1) hM (Nat.le_of_ble_eq_true rfl))
              have hZ65U : zU [] Z Z65 := zU_t hZ61U jZ65 zU_b0
              have hZ65K : zC [2] Z Z65 := zC_t hZ61K kZ65 (by decide)
              replace hZ65I := zmt (c := 45) hZ65I rfl
              replace hP := zl_e hP hZ65
              refine wz_cV_of (zas (zcons rfl (zcons (zvi (show (9 : Int32) = i3 9 from rfl)) (zcons (zvi (show (7 : Int32) = i3 7 from rfl)) (zcons (zvi (i3W (i3G (zm_rd (Z := Z61) (ν := ν) (k := 2) (show ((0 : Nat) : Int) = 0 from rfl) (show ((0 : Nat) : Int) = 0 from rfl) (show ((3807 : Nat) : Int) = 3807 from rfl))))) (zcons (zvi (show (-1 : Int32) = i3 (-1) from rfl)) rfl))))) c9) ?_
              clear c9
              have r66 := zM_f hZ65I 2 0 0 3808
              refine wz_br (i3Le (zm_rd (Z := Z65) (ν := ν) (k := 2) (show ((0 : Nat) : Int) = 0 from rfl) (show ((0 : Nat) : Int) = 0 from rfl) (show ((3808 : Nat) : Int) = 3808 from rfl)) (show (0 : Int32) = i3 0 from rfl) (by omega) (by omega) (by omega) (by omega)) (fun h67 => ?_) (fun h67 => ?_)
              · replace hP := zE_p hP h67
                have r68 := w3_r (-(Z65 2 0 0 3808))
                obtain ⟨Z69, hZ69, c9, hZ69I, kZ69, jZ69⟩ := sp_403 (ν := ν) hZ65I (a1 := 9) (by omega) (a2 := 8) (by omega) (a3 := (w3 (-(Z65 2 0 0 3808)))) (by omega) (a4 := (-1)) (by omega) (zbh (c := 45) (k := 1) hM (Nat.le_of_ble_eq_true rfl))
                have hZ69U : zU [] Z Z69 := zU_t hZ65U jZ69 zU_b0
                have hZ69K : zC [2] Z Z69 := zC_t hZ65K kZ69 (by decide)
                replace hZ69I := zmt (c := 46) hZ69I rfl
                replace hP := zl_e hP hZ69
                refine wz_cV_of (zas (zcons rfl (zcons (zvi (show (9 : Int32) = i3 9 from rfl)) (zcons (zvi (show (8 : Int32) = i3 8 from rfl)) (zcons (zvi (i3W (i3G (zm_rd (Z := Z65) (ν := ν) (k := 2) (show ((0 : Nat) : Int) = 0 from rfl) (show ((0 : Nat) : Int) = 0 from rfl) (show ((3808 : Nat) : Int) = 3808 from rfl))))) (zcons (zvi (show (-1 : Int32) = i3 (-1) from rfl)) rfl))))) c9) ?_
                clear c9
                exact zlV hP ⟨(zmw (a := 46) (c := 53) hZ69I (Nat.le_of_ble_eq_true rfl)), hZ69K, hZ69U⟩
              · replace hP := zE_n hP h67
                obtain ⟨Z70, hZ70, c9, hZ70I, kZ70, jZ70⟩ := sp_403 (ν := ν) hZ65I (a1 := 8) (by omega) (a2 := 9) (by omega) (a3 := (Z65 2 0 0 3808)) (by omega) (a4 := (-1)) (by omega) (zbh (c := 45) (k := 1) hM (Nat.le_of_ble_eq_true rfl))
                have hZ70U : zU [] Z Z70 := zU_t hZ65U jZ70 zU_b0
                have hZ70K : zC [2] Z Z70 := zC_t hZ65K kZ70 (by decide)
                replace hZ70I := zmt (c := 46) hZ70I rfl
                replace hP := zl_e hP hZ70
                refine wz_cV_of (zas (zcons rfl (zcons (zvi (show (8 : Int32) = i3 8 from rfl)) (zcons (zvi (show (9 : Int32) = i3 9 from rfl)) (zcons (zvi (zm_rd (Z := Z65) (ν := ν) (k := 2) (show ((0 : Nat) : Int) = 0 from rfl) (show ((0 : Nat) : Int) = 0 from rfl) (show ((3808 : Nat) : Int) = 3808 from rfl))) (zcons (zvi (show (-1 : Int32) = i3 (-1) from rfl)) rfl))))) c9) ?_
                clear c9
                exact zlV hP ⟨(zmw (a := 46) (c := 53) hZ70I (Nat.le_of_ble_eq_true rfl)), hZ70K, hZ70U⟩
            · replace hP := zE_n hP h63
              obtain ⟨Z71, hZ71, c9, hZ71I, kZ71, jZ71⟩ := sp_403 (ν := ν) hZ61I (a1 := 7) (by omega) (a2 := 9) (by omega) (a3 := (Z61 2 0 0 3807)) (by omega) (a4 := (-1)) (by omega) (zbh (c := 44) (k := 1) hM (Nat.le_of_ble_eq_true rfl))
              have hZ71U : zU [] Z Z71 := zU_t hZ61U jZ71 zU_b0
              have hZ71K : zC [2] Z Z71 := zC_t hZ61K kZ71 (by decide)
              replace hZ71I := zmt (c := 45) hZ71I rfl
              replace hP := zl_e hP hZ71
              refine wz_cV_of (zas (zcons rfl (zcons (zvi (show (7 : Int32) = i3 7 from rfl)) (zcons (zvi (show (9 : Int32) = i3 9 from rfl)) (zcons (zvi (zm_rd (Z := Z61) (ν := ν) (k := 2) (show ((0 : Nat) : Int) = 0 from rfl) (show ((0 : Nat) : Int) = 0 from rfl) (show ((3807 : Nat) : Int) = 3807 from rfl))) (zcons (zvi (show (-1 : Int32) = i3 (-1) from rfl)) rfl))))) c9) ?_
              clear c9
              have r72 := zM_f hZ71I 2 0 0 3808
              refine wz_br (i3Le (zm_rd (Z := Z71) (ν := ν) (k := 2) (show ((0 : Nat) : Int) = 0 from rfl) (show ((0 : Nat) : Int) = 0 from rfl) (show ((3808 : Nat) : Int) = 3808 from rfl)) (show (0 : Int32) = i3 0 from rfl) (by omega) (by omega) (by omega) (by omega)) (fun h73 => ?_) (fun h73 => ?_)
              · replace hP := zE_p hP h73
                have r74 := w3_r (-(Z71 2 0 0 3808))
                obtain ⟨Z75, hZ75, c9, hZ75I, kZ75, jZ75⟩ := sp_403 (ν := ν) hZ71I (a1 := 9) (by omega) (a2 := 8) (by omega) (a3 := (w3 (-(Z71 2 0 0 3808)))) (by omega) (a4 := (-1)) (by omega) (zbh (c := 45) (k := 1) hM (Nat.le_of_ble_eq_true rfl))
                have hZ75U : zU [] Z Z75 := zU_t hZ71U jZ75 zU_b0
                have hZ75K : zC [2] Z Z75 := zC_t hZ71K kZ75 (by decide)
                replace hZ75I := zmt (c := 46) hZ75I rfl
                replace hP := zl_e hP hZ75
                refine wz_cV_of (zas (zcons rfl (zcons (zvi (show (9 : Int32) = i3 9 from rfl)) (zcons (zvi (show (8 : Int32) = i3 8 from rfl)) (zcons (zvi (i3W (i3G (zm_rd (Z := Z71) (ν := ν) (k := 2) (show ((0 : Nat) : Int) = 0 from rfl) (show ((0 : Nat) : Int) = 0 from rfl) (show ((3808 : Nat) : Int) = 3808 from rfl))))) (zcons (zvi (show (-1 : Int32) = i3 (-1) from rfl)) rfl))))) c9) ?_
                clear c9
                exact zlV hP ⟨(zmw (a := 46) (c := 53) hZ75I (Nat.le_of_ble_eq_true rfl)), hZ75K, hZ75U⟩
              · replace hP := zE_n hP h73
                obtain ⟨Z76, hZ76, c9, hZ76I, kZ76, jZ76⟩ := sp_403 (ν := ν) hZ71I (a1 := 8) (by omega) (a2 := 9) (by omega) (a3 := (Z71 2 0 0 3808)) (by omega) (a4 := (-1)) (by omega) (zbh (c := 45) (k := 1) hM (Nat.le_of_ble_eq_true rfl))
                have hZ76U : zU [] Z Z76 := zU_t hZ71U jZ76 zU_b0
                have hZ76K : zC [2] Z Z76 := zC_t hZ71K kZ76 (by decide)
                replace hZ76I := zmt (c := 46) hZ76I rfl
                replace hP := zl_e hP hZ76
                refine wz_cV_of (zas (zcons rfl (zcons (zvi (show (8 : Int32) = i3 8 from rfl)) (zcons (zvi (show (9 : Int32) = i3 9 from rfl)) (zcons (zvi (zm_rd (Z := Z71) (ν := ν) (k := 2) (show ((0 : Nat) : Int) = 0 from rfl) (show ((0 : Nat) : Int) = 0 from rfl) (show ((3808 : Nat) : Int) = 3808 from rfl))) (zcons (zvi (show (-1 : Int32) = i3 (-1) from rfl)) rfl))))) c9) ?_
                clear c9
                exact zlV hP ⟨(zmw (a := 46) (c := 53) hZ76I (Nat.le_of_ble_eq_true rfl)), hZ76K, hZ76U⟩
          · replace hP := zE_n hP h59
            obtain ⟨Z77, hZ77, c9, hZ77I, kZ77, jZ77⟩ := sp_403 (ν := ν) hZ57I (a1 := 6) (by omega) (a2 := 9) (by omega) (a3 := (Z57 2 0 0 3806)) (by omega) (a4 := (-1)) (by omega) (zbh (c := 43) (k := 1) hM (Nat.le_of_ble_eq_true rfl))
            have hZ77U : zU [] Z Z77 := zU_t hZ57U jZ77 zU_b0
            have hZ77K : zC [2] Z Z77 := zC_t hZ57K kZ77 (by decide)
            replace hZ77I := zmt (c := 44) hZ77I rfl
            replace hP := zl_e hP hZ77
            refine wz_cV_of (zas (zcons rfl (zcons (zvi (show (6 : Int32) = i3 6 from rfl)) (zcons (zvi (show (9 : Int32) = i3 9 from rfl)) (zcons (zvi (zm_rd (Z := Z57) (ν := ν) (k := 2) (show ((0 : Nat) : Int) = 0 from rfl) (show ((0 : Nat) : Int) = 0 from rfl) (show ((3806 : Nat) : Int) = 3806 from rfl))) (zcons (zvi (show (-1 : Int32) = i3 (-1) from rfl)) rfl))))) c9) ?_
            clear c9
            have r78 := zM_f hZ77I 2 0 0 3807
            refine wz_br (i3Le (zm_rd (Z := Z77) (ν := ν) (k := 2) (show ((0 : Nat) : Int) = 0 from rfl) (show ((0 : Nat) : Int) = 0 from rfl) (show ((3807 : Nat) : Int) = 3807 from rfl)) (show (0 : Int32) = i3 0 from rfl) (by omega) (by omega) (by omega) (by omega)) (fun h79 => ?_) (fun h79 => ?_)
            · replace hP := zE_p hP h79
              have r80 := w3_r (-(Z77 2 0 0 3807))
              obtain ⟨Z81, hZ81, c9, hZ81I, kZ81, jZ81⟩ := sp_403 (ν := ν) hZ77I (a1 := 9) (by omega) (a2 := 7) (by omega) (a3 := (w3 (-(Z77 2 0 0 3807)))) (by omega) (a4 := (-1)) (by omega) (zbh (c := 44) (k := 1) hM (Nat.le_of_ble_eq_true rfl))
              have hZ81U : zU [] Z Z81 := zU_t hZ77U jZ81 zU_b0
              have hZ81K : zC [2] Z Z81 := zC_t hZ77K kZ81 (by decide)
              replace hZ81I := zmt (c := 45) hZ81I rfl
              replace hP := zl_e hP hZ81
              refine wz_cV_of (zas (zcons rfl (zcons (zvi (show (9 : Int32) = i3 9 from rfl)) (zcons (zvi (show (7 : Int32) = i3 7 from rfl)) (zcons (zvi (i3W (i3G (zm_rd (Z := Z77) (ν := ν) (k := 2) (show ((0 : Nat) : Int) = 0 from rfl) (show ((0 : Nat) : Int) = 0 from rfl) (show ((3807 : Nat) : Int) = 3807 from rfl))))) (zcons (zvi (show (-1 : Int32) = i3 (-1) from rfl)) rfl))))) c9) ?_
              clear c9
              have r82 := zM_f hZ81I 2 0 0 3808
              refine wz_br (i3Le (zm_rd (Z := Z81) (ν := ν) (k := 2) (show ((0 : Nat) : Int) = 0 from rfl) (show ((0 : Nat) : Int) = 0 from rfl) (show ((3808 : Nat) : Int) = 3808 from rfl)) (show (0 : Int32) = i3 0 from rfl) (by omega) (by omega) (by omega) (by omega)) (fun h83 => ?_) (fun h83 => ?_)
              · replace hP := zE_p hP h83
                have r84 := w3_r (-(Z81 2 0 0 3808))
                obtain ⟨Z85, hZ85, c9, hZ85I, kZ85, jZ85⟩ := sp_403 (ν := ν) hZ81I (a1 := 9) (by omega) (a2 := 8) (by omega) (a3 := (w3 (-(Z81 2 0 0 3808)))) (by omega) (a4 := (-1)) (by omega) (zbh (c := 45) (k := 1) hM (Nat.le_of_ble_eq_true rfl))
                have hZ85U : zU [] Z Z85 := zU_t hZ81U jZ85 zU_b0
                have hZ85K : zC [2] Z Z85 := zC_t hZ81K kZ85 (by decide)
                replace hZ85I := zmt (c := 46) hZ85I rfl
                replace hP := zl_e hP hZ85
                refine wz_cV_of (zas (zcons rfl (zcons (zvi (show (9 : Int32) = i3 9 from rfl)) (zcons (zvi (show (8 : Int32) = i3 8 from rfl)) (zcons (zvi (i3W (i3G (zm_rd (Z := Z81) (ν := ν) (k := 2) (show ((0 : Nat) : Int) = 0 from rfl) (show ((0 : Nat) : Int) = 0 from rfl) (show ((3808 : Nat) : Int) = 3808 from rfl))))) (zcons (zvi (show (-1 : Int32) = i3 (-1) from rfl)) rfl))))) c9) ?_
                clear c9
                exact zlV hP ⟨(zmw (a := 46) (c := 53) hZ85I (Nat.le_of_ble_eq_true rfl)), hZ85K, hZ85U⟩
              · replace hP := zE_n hP h83
                obtain ⟨Z86, hZ86, c9, hZ86I, kZ86, jZ86⟩ := sp_403 (ν := ν) hZ81I (a1 := 8) (by omega) (a2 := 9) (by omega) (a3 := (Z81 2 0 0 3808)) (by omega) (a4 := (-1)) (by omega) (zbh (c := 45) (k := 1) hM (Nat.le_of_ble_eq_true rfl))
                have hZ86U : zU [] Z Z86 := zU_t hZ81U jZ86 zU_b0
                have hZ86K : zC [2] Z Z86 := zC_t hZ81K kZ86 (by decide)
                replace hZ86I := zmt (c := 46) hZ86I rfl
                replace hP := zl_e hP hZ86
                refine wz_cV_of (zas (zcons rfl (zcons (zvi (show (8 : Int32) = i3 8 from rfl)) (zcons (zvi (show (9 : Int32) = i3 9 from rfl)) (zcons (zvi (zm_rd (Z := Z81) (ν := ν) (k := 2) (show ((0 : Nat) : Int) = 0 from rfl) (show ((0 : Nat) : Int) = 0 from rfl) (show ((3808 : Nat) : Int) = 3808 from rfl))) (zcons (zvi (show (-1 : Int32) = i3 (-1) from rfl)) rfl))))) c9) ?_
                clear c9
                exact zlV hP ⟨(zmw (a := 46) (c := 53) hZ86I (Nat.le_of_ble_eq_true rfl)), hZ86K, hZ86U⟩
            · replace hP := zE_n hP h79
              obtain ⟨Z87, hZ87, c9, hZ87I, kZ87, jZ87⟩ := sp_403 (ν := ν) hZ77I (a1 := 7) (by omega) (a2 := 9) (by omega) (a3 := (Z77 2 0 0 3807)) (by omega) (a4 := (-1)) (by omega) (zbh (c := 44) (k := 1) hM (Nat.le_of_ble_eq_true rfl))
              have hZ87U : zU [] Z Z87 := zU_t hZ77U jZ87 zU_b0
              have hZ87K : zC [2] Z Z87 := zC_t hZ77K kZ87 (by decide)
              replace hZ87I := zmt (c := 45) hZ87I rfl
              replace hP := zl_e hP hZ87
              refine wz_cV_of (zas (zcons rfl (zcons (zvi (show (7 : Int32) = i3 7 from rfl)) (zcons (zvi (show (9 : Int32) = i3 9 from rfl)) (zcons (zvi (zm_rd (Z := Z77) (ν := ν) (k := 2) (show ((0 : Nat) : Int) = 0 from rfl) (show ((0 : Nat) : Int) = 0 from rfl) (show ((3807 : Nat) : Int) = 3807 from rfl))) (zcons (zvi (show (-1 : Int32) = i3 (-1) from rfl)) rfl))))) c9) ?_
              clear c9
              have r88 := zM_f hZ87I 2 0 0 3808
              refine wz_br (i3Le (zm_rd (Z := Z87) (ν := ν) (k := 2) (show ((0 : Nat) : Int) = 0 from rfl) (show ((0 : Nat) : Int) = 0 from rfl) (show ((3808 : Nat) : Int) = 3808 from rfl)) (show (0 : Int32) = i3 0 from rfl) (by omega) (by omega) (by omega) (by omega)) (fun h89 => ?_) (fun h89 => ?_)
              · replace hP := zE_p hP h89
                have r90 := w3_r (-(Z87 2 0 0 3808))
                obtain ⟨Z91, hZ91, c9, hZ91I, kZ91, jZ91⟩ := sp_403 (ν := ν) hZ87I (a1 := 9) (by omega) (a2 := 8) (by omega) (a3 := (w3 (-(Z87 2 0 0 3808)))) (by omega) (a4 := (-1)) (by omega) (zbh (c := 45) (k := 1) hM (Nat.le_of_ble_eq_true rfl))
                have hZ91U : zU [] Z Z91 := zU_t hZ87U jZ91 zU_b0
                have hZ91K : zC [2] Z Z91 := zC_t hZ87K kZ91 (by decide)
                replace hZ91I := zmt (c := 46) hZ91I rfl
                replace hP := zl_e hP hZ91
                refine wz_cV_of (zas (zcons rfl (zcons (zvi (show (9 : Int32) = i3 9 from rfl)) (zcons (zvi (show (8 : Int32) = i3 8 from rfl)) (zcons (zvi (i3W (i3G (zm_rd (Z := Z87) (ν := ν) (k := 2) (show ((0 : Nat) : Int) = 0 from rfl) (show ((0 : Nat) : Int) = 0 from rfl) (show ((3808 : Nat) : Int) = 3808 from rfl))))) (zcons (zvi (show (-1 : Int32) = i3 (-1) from rfl)) rfl))))) c9) ?_
                clear c9
                exact zlV hP ⟨(zmw (a := 46) (c := 53) hZ91I (Nat.le_of_ble_eq_true rfl)), hZ91K, hZ91U⟩
              · replace hP := zE_n hP h89
                obtain ⟨Z92, hZ92, c9, hZ92I, kZ92, jZ92⟩ := sp_403 (ν := ν) hZ87I (a1 := 8) (by omega) (a2 := 9) (by omega) (a3 := (Z87 2 0 0 3808)) (by omega) (a4 := (-1)) (by omega) (zbh (c := 45) (k := 1) hM (Nat.le_of_ble_eq_true rfl))
                have hZ92U : zU [] Z Z92 := zU_t hZ87U jZ92 zU_b0
                have hZ92K : zC [2] Z Z92 := zC_t hZ87K kZ92 (by decide)
                replace hZ92I := zmt (c := 46) hZ92I rfl
                replace hP := zl_e hP hZ92
                refine wz_cV_of (zas (zcons rfl (zcons (zvi (show (8 : Int32) = i3 8 from rfl)) (zcons (zvi (show (9 : Int32) = i3 9 from rfl)) (zcons (zvi (zm_rd (Z := Z87) (ν := ν) (k := 2) (show ((0 : Nat) : Int) = 0 from rfl) (show ((0 : Nat) : Int) = 0 from rfl) (show ((3808 : Nat) : Int) = 3808 from rfl))) (zcons (zvi (show (-1 : Int32) = i3 (-1) from rfl)) rfl))))) c9) ?_
                clear c9
                exact zlV hP ⟨(zmw (a := 46) (c := 53) hZ92I (Nat.le_of_ble_eq_true rfl)), hZ92K, hZ92U⟩
      · replace hP := zE_n hP h15
        obtain ⟨Z93, hZ93, c9, hZ93I, kZ93, jZ93⟩ := sp_403 (ν := ν) hZ13I (a1 := 4) (by omega) (a2 := 9) (by omega) (a3 := (Z13 2 0 0 3804)) (by omega) (a4 := (-1)) (by omega) (zbh (c := 41) (k := 1) hM (Nat.le_of_ble_eq_true rfl))
        have hZ93U : zU [] Z Z93 := zU_t hZ13U jZ93 zU_b0
        have hZ93K : zC [2] Z Z93 := zC_t hZ13K kZ93 (by decide)
        replace hZ93I := zmt (c := 42) hZ93I rfl
        replace hP := zl_e hP hZ93
        refine wz_cV_of (zas (zcons rfl (zcons (zvi (show (4 : Int32) = i3 4 from rfl)) (zcons (zvi (show (9 : Int32) = i3 9 from rfl)) (zcons (zvi (zm_rd (Z := Z13) (ν := ν) (k := 2) (show ((0 : Nat) : Int) = 0 from rfl) (show ((0 : Nat) : Int) = 0 from rfl) (show ((3804 : Nat) : Int) = 3804 from rfl))) (zcons (zvi (show (-1 : Int32) = i3 (-1) from rfl)) rfl))))) c9) ?_
        clear c9
        have r94 := zM_f hZ93I 2 0 0 3805
        refine wz_br (i3Le (zm_rd (Z := Z93) (ν := ν) (k := 2) (show ((0 : Nat) : Int) = 0 from rfl) (show ((0 : Nat) : Int) = 0 from rfl) (show ((3805 : Nat) : Int) = 3805 from rfl)) (show (0 : Int32) = i3 0 from rfl) (by omega) (by omega) (by omega) (by omega)) (fun h95 => ?_) (fun h95 => ?_)
        · replace hP := zE_p hP h95
          have r96 := w3_r (-(Z93 2 0 0 3805))
          obtain ⟨Z97, hZ97, c9, hZ97I, kZ97, jZ97⟩ := sp_403 (ν := ν) hZ93I (a1 := 9) (by omega) (a2 := 5) (by omega) (a3 := (w3 (-(Z93 2 0 0 3805)))) (by omega) (a4 := (-1)) (by omega) (zbh (c := 42) (k := 1) hM (Nat.le_of_ble_eq_true rfl))
          have hZ97U : zU [] Z Z97 := zU_t hZ93U jZ97 zU_b0
          have hZ97K : zC [2] Z Z97 := zC_t hZ93K kZ97 (by decide)
          replace hZ97I := zmt (c := 43) hZ97I rfl
          replace hP := zl_e hP hZ97
          refine wz_cV_of (zas (zcons rfl (zcons (zvi (show (9 : Int32) = i3 9 from rfl)) (zcons (zvi (show (5 : Int32) = i3 5 from rfl)) (zcons (zvi (i3W (i3G (zm_rd (Z := Z93) (ν := ν) (k := 2) (show ((0 : Nat) : Int) = 0 from rfl) (show ((0 : Nat) : Int) = 0 from rfl) (show ((3805 : Nat) : Int) = 3805 from rfl))))) (zcons (zvi (show (-1 : Int32) = i3 (-1) from rfl)) rfl))))) c9) ?_
          clear c9
          have r98 := zM_f hZ97I 2 0 0 3806
          refine wz_br (i3Le (zm_rd (Z := Z97) (ν := ν) (k := 2) (show ((0 : Nat) : Int) = 0 from rfl) (show ((0 : Nat) : Int) = 0 from rfl) (show ((3806 : Nat) : Int) = 3806 from rfl)) (show (0 : Int32) = i3 0 from rfl) (by omega) (by omega) (by omega) (by omega)) (fun h99 => ?_) (fun h99 => ?_)
          · replace hP := zE_p hP h99
            have r100 := w3_r (-(Z97 2 0 0 3806))
            obtain ⟨Z101, hZ101, c9, hZ101I, kZ101, jZ101⟩ := sp_403 (ν := ν) hZ97I (a1 := 9) (by omega) (a2 := 6) (by omega) (a3 := (w3 (-(Z97 2 0 0 3806)))) (by omega) (a4 := (-1)) (by omega) (zbh (c := 43) (k := 1) hM (Nat.le_of_ble_eq_true rfl))
            have hZ101U : zU [] Z Z101 := zU_t hZ97U jZ101 zU_b0
            have hZ101K : zC [2] Z Z101 := zC_t hZ97K kZ101 (by decide)
            replace hZ101I := zmt (c := 44) hZ101I rfl
            replace hP := zl_e hP hZ101
            refine wz_cV_of (zas (zcons rfl (zcons (zvi (show (9 : Int32) = i3 9 from rfl)) (zcons (zvi (show (6 : Int32) = i3 6 from rfl)) (zcons (zvi (i3W (i3G (zm_rd (Z := Z97) (ν := ν) (k := 2) (show ((0 : Nat) : Int) = 0 from rfl) (show ((0 : Nat) : Int) = 0 from rfl) (show ((3806 : Nat) : Int) = 3806 from rfl))))) (zcons (zvi (show (-1 : Int32) = i3 (-1) from rfl)) rfl))))) c9) ?_
            clear c9
            have r102 := zM_f hZ101I 2 0 0 3807
            refine wz_br (i3Le (zm_rd (Z := Z101) (ν := ν) (k := 2) (show ((0 : Nat) : Int) = 0 from rfl) (show ((0 : Nat) : Int) = 0 from rfl) (show ((3807 : Nat) : Int) = 3807 from rfl)) (show (0 : Int32) = i3 0 from rfl) (by omega) (by omega) (by omega) (by omega)) (fun h103 => ?_) (fun h103 => ?_)
            · replace hP := zE_p hP h103
              have r104 := w3_r (-(Z101 2 0 0 3807))
              obtain ⟨Z105, hZ105, c9, hZ105I, kZ105, jZ105⟩ := sp_403 (ν := ν) hZ101I (a1 := 9) (by omega) (a2 := 7) (by omega) (a3 := (w3 (-(Z101 2 0 0 3807)))) (by omega) (a4 := (-1)) (by omega) (zbh (c := 44) (k := 1) hM (Nat.le_of_ble_eq_true rfl))
              have hZ105U : zU [] Z Z105 := zU_t hZ101U jZ105 zU_b0
              have hZ105K : zC [2] Z Z105 := zC_t hZ101K kZ105 (by decide)
              replace hZ105I := zmt (c := 45) hZ105I rfl
              replace hP := zl_e hP hZ105
              refine wz_cV_of (zas (zcons rfl (zcons (zvi (show (9 : Int32) = i3 9 from rfl)) (zcons (zvi (show (7 : Int32) = i3 7 from rfl)) (zcons (zvi (i3W (i3G (zm_rd (Z := Z101) (ν := ν) (k := 2) (show ((0 : Nat) : Int) = 0 from rfl) (show ((0 : Nat) : Int) = 0 from rfl) (show ((3807 : Nat) : Int) = 3807 from rfl))))) (zcons (zvi (show (-1 : Int32) = i3 (-1) from rfl)) rfl))))) c9) ?_
              clear c9
              have r106 := zM_f hZ105I 2 0 0 3808
              refine wz_br (i3Le (zm_rd (Z := Z105) (ν := ν) (k := 2) (show ((0 : Nat) : Int) = 0 from rfl) (show ((0 : Nat) : Int) = 0 from rfl) (show ((3808 : Nat) : Int) = 3808 from rfl)) (show (0 : Int32) = i3 0 from rfl) (by omega) (by omega) (by omega) (by omega)) (fun h107 => ?_) (fun h107 => ?_)
              · replace hP := zE_p hP h107
                have r108 := w3_r (-(Z105 2 0 0 3808))
                obtain ⟨Z109, hZ109, c9, hZ109I, kZ109, jZ109⟩ := sp_403 (ν := ν) hZ105I (a1 := 9) (by omega) (a2 := 8) (by omega) (a3 := (w3 (-(Z105 2 0 0 3808)))) (by omega) (a4 := (-1)) (by omega) (zbh (c := 45) (k := 1) hM (Nat.le_of_ble_eq_true rfl))
                have hZ109U : zU [] Z Z109 := zU_t hZ105U jZ109 zU_b0
                have hZ109K : zC [2] Z Z109 := zC_t hZ105K kZ109 (by decide)
                replace hZ109I := zmt (c := 46) hZ109I rfl
                replace hP := zl_e hP hZ109
                refine wz_cV_of (zas (zcons rfl (zcons (zvi (show (9 : Int32) = i3 9 from rfl)) (zcons (zvi (show (8 : Int32) = i3 8 from rfl)) (zcons (zvi (i3W (i3G (zm_rd (Z := Z105) (ν := ν) (k := 2) (show ((0 : Nat) : Int) = 0 from rfl) (show ((0 : Nat) : Int) = 0 from rfl) (show ((3808 : Nat) : Int) = 3808 from rfl))))) (zcons (zvi (show (-1 : Int32) = i3 (-1) from rfl)) rfl))))) c9) ?_
                clear c9
                exact zlV hP ⟨(zmw (a := 46) (c := 53) hZ109I (Nat.le_of_ble_eq_true rfl)), hZ109K, hZ109U⟩
              · replace hP := zE_n hP h107
                obtain ⟨Z110, hZ110, c9, hZ110I, kZ110, jZ110⟩ := sp_403 (ν := ν) hZ105I (a1 := 8) (by omega) (a2 := 9) (by omega) (a3 := (Z105 2 0 0 3808)) (by omega) (a4 := (-1)) (by omega) (zbh (c := 45) (k := 1) hM (Nat.le_of_ble_eq_true rfl))
                have hZ110U : zU [] Z Z110 := zU_t hZ105U jZ110 zU_b0
                have hZ110K : zC [2] Z Z110 := zC_t hZ105K kZ110 (by decide)
                replace hZ110I := zmt (c := 46) hZ110I rfl
                replace hP := zl_e hP hZ110
                refine wz_cV_of (zas (zcons rfl (zcons (zvi (show (8 : Int32) = i3 8 from rfl)) (zcons (zvi (show (9 : Int32) = i3 9 from rfl)) (zcons (zvi (zm_rd (Z := Z105) (ν := ν) (k := 2) (show ((0 : Nat) : Int) = 0 from rfl) (show ((0 : Nat) : Int) = 0 from rfl) (show ((3808 : Nat) : Int) = 3808 from rfl))) (zcons (zvi (show (-1 : Int32) = i3 (-1) from rfl)) rfl))))) c9) ?_
                clear c9
                exact zlV hP ⟨(zmw (a := 46) (c := 53) hZ110I (Nat.le_of_ble_eq_true rfl)), hZ110K, hZ110U⟩
            · replace hP := zE_n hP h103
              obtain ⟨Z111, hZ111, c9, hZ111I, kZ111, jZ111⟩ := sp_403 (ν := ν) hZ101I (a1 := 7) (by omega) (a2 := 9) (by omega) (a3 := (Z101 2 0 0 3807)) (by omega) (a4 := (-1)) (by omega) (zbh (c := 44) (k := 1) hM (Nat.le_of_ble_eq_true rfl))
              have hZ111U : zU [] Z Z111 := zU_t hZ101U jZ111 zU_b0
              have hZ111K : zC [2] Z Z111 := zC_t hZ101K kZ111 (by decide)
              replace hZ111I := zmt (c := 45) hZ111I rfl
              replace hP := zl_e hP hZ111
              refine wz_cV_of (zas (zcons rfl (zcons (zvi (show (7 : Int32) = i3 7 from rfl)) (zcons (zvi (show (9 : Int32) = i3 9 from rfl)) (zcons (zvi (zm_rd (Z := Z101) (ν := ν) (k := 2) (show ((0 : Nat) : Int) = 0 from rfl) (show ((0 : Nat) : Int) = 0 from rfl) (show ((3807 : Nat) : Int) = 3807 from rfl))) (zcons (zvi (show (-1 : Int32) = i3 (-1) from rfl)) rfl))))) c9) ?_
              clear c9
              have r112 := zM_f hZ111I 2 0 0 3808
              refine wz_br (i3Le (zm_rd (Z := Z111) (ν := ν) (k := 2) (show ((0 : Nat) : Int) = 0 from rfl) (show ((0 : Nat) : Int) = 0 from rfl) (show ((3808 : Nat) : Int) = 3808 from rfl)) (show (0 : Int32) = i3 0 from rfl) (by omega) (by omega) (by omega) (by omega)) (fun h113 => ?_) (fun h113 => ?_)
              · replace hP := zE_p hP h113
                have r114 := w3_r (-(Z111 2 0 0 3808))
                obtain ⟨Z115, hZ115, c9, hZ115I, kZ115, jZ115⟩ := sp_403 (ν := ν) hZ111I (a1 := 9) (by omega) (a2 := 8) (by omega) (a3 := (w3 (-(Z111 2 0 0 3808)))) (by omega) (a4 := (-1)) (by omega) (zbh (c := 45) (k := 1) hM (Nat.le_of_ble_eq_true rfl))
                have hZ115U : zU [] Z Z115 := zU_t hZ111U jZ115 zU_b0
                have hZ115K : zC [2] Z Z115 := zC_t hZ111K kZ115 (by decide)
                replace hZ115I := zmt (c := 46) hZ115I rfl
                replace hP := zl_e hP hZ115
                refine wz_cV_of (zas (zcons rfl (zcons (zvi (show (9 : Int32) = i3 9 from rfl)) (zcons (zvi (show (8 : Int32) = i3 8 from rfl)) (zcons (zvi (i3W (i3G (zm_rd (Z := Z111) (ν := ν) (k := 2) (show ((0 : Nat) : Int) = 0 from rfl) (show ((0 : Nat) : Int) = 0 from rfl) (show ((3808 : Nat) : Int) = 3808 from rfl))))) (zcons (zvi (show (-1 : Int32) = i3 (-1) from rfl)) rfl))))) c9) ?_
                clear c9
                exact zlV hP ⟨(zmw (a := 46) (c := 53) hZ115I (Nat.le_of_ble_eq_true rfl)), hZ115K, hZ115U⟩
              · replace hP := zE_n hP h113
                obtain ⟨Z116, hZ116, c9, hZ116I, kZ116, jZ116⟩ := sp_403 (ν := ν) hZ111I (a1 := 8) (by omega) (a2 := 9) (by omega) (a3 := (Z111 2 0 0 3808)) (by omega) (a4 := (-1)) (by omega) (zbh (c := 45) (k := 1) hM (Nat.le_of_ble_eq_true rfl))
                have hZ116U : zU [] Z Z116 := zU_t hZ111U jZ116 zU_b0
                have hZ116K : zC [2] Z Z116 := zC_t hZ111K kZ116 (by decide)
                replace hZ116I := zmt (c := 46) hZ116I rfl
                replace hP := zl_e hP hZ116
                refine wz_cV_of (zas (zcons rfl (zcons (zvi (show (8 : Int32) = i3 8 from rfl)) (zcons (zvi (show (9 : Int32) = i3 9 from rfl)) (zcons (zvi (zm_rd (Z := Z111) (ν := ν) (k := 2) (show ((0 : Nat) : Int) = 0 from rfl) (show ((0 : Nat) : Int) = 0 from rfl) (show ((3808 : Nat) : Int) = 3808 from rfl))) (zcons (zvi (show (-1 : Int32) = i3 (-1) from rfl)) rfl))))) c9) ?_
                clear c9
                exact zlV hP ⟨(zmw (a := 46) (c := 53) hZ116I (Nat.le_of_ble_eq_true rfl)), hZ116K, hZ116U⟩
          · replace hP := zE_n hP h99
            obtain ⟨Z117, hZ117, c9, hZ117I, kZ117, jZ117⟩ := sp_403 (ν := ν) hZ97I (a1 := 6) (by omega) (a2 := 9) (by omega) (a3 := (Z97 2 0 0 3806)) (by omega) (a4 := (-1)) (by omega) (zbh (c := 43) (k := 1) hM (Nat.le_of_ble_eq_true rfl))
            have hZ117U : zU [] Z Z117 := zU_t hZ97U jZ117 zU_b0
            have hZ117K : zC [2] Z Z117 := zC_t hZ97K kZ117 (by decide)
            replace hZ117I := zmt (c := 44) hZ117I rfl
            replace hP := zl_e hP hZ117
            refine wz_cV_of (zas (zcons rfl (zcons (zvi (show (6 : Int32) = i3 6 from rfl)) (zcons (zvi (show (9 : Int32) = i3 9 from rfl)) (zcons (zvi (zm_rd (Z := Z97) (ν := ν) (k := 2) (show ((0 : Nat) : Int) = 0 from rfl) (show ((0 : Nat) : Int) = 0 from rfl) (show ((3806 : Nat) : Int) = 3806 from rfl))) (zcons (zvi (show (-1 : Int32) = i3 (-1) from rfl)) rfl))))) c9) ?_
            clear c9
            have r118 := zM_f hZ117I 2 0 0 3807
            refine wz_br (i3Le (zm_rd (Z := Z117) (ν := ν) (k := 2) (show ((0 : Nat) : Int) = 0 from rfl) (show ((0 : Nat) : Int) = 0 from rfl) (show ((3807 : Nat) : Int) = 3807 from rfl)) (show (0 : Int32) = i3 0 from rfl) (by omega) (by omega) (by omega) (by omega)) (fun h119 => ?_) (fun h119 => ?_)
            · replace hP := zE_p hP h119
              have r120 := w3_r (-(Z117 2 0 0 3807))
              obtain ⟨Z121, hZ121, c9, hZ121I, kZ121, jZ121⟩ := sp_403 (ν := ν) hZ117I (a1 := 9) (by omega) (a2 := 7) (by omega) (a3 := (w3 (-(Z117 2 0 0 3807)))) (by omega) (a4 := (-1)) (by omega) (zbh (c := 44) (k := 1) hM (Nat.le_of_ble_eq_true rfl))
              have hZ121U : zU [] Z Z121 := zU_t hZ117U jZ121 zU_b0
              have hZ121K : zC [2] Z Z121 := zC_t hZ117K kZ121 (by decide)
              replace hZ121I := zmt (c := 45) hZ121I rfl
              replace hP := zl_e hP hZ121
              refine wz_cV_of (zas (zcons rfl (zcons (zvi (show (9 : Int32) = i3 9 from rfl)) (zcons (zvi (show (7 : Int32) = i3 7 from rfl)) (zcons (zvi (i3W (i3G (zm_rd (Z := Z117) (ν := ν) (k := 2) (show ((0 : Nat) : Int) = 0 from rfl) (show ((0 : Nat) : Int) = 0 from rfl) (show ((3807 : Nat) : Int) = 3807 from rfl))))) (zcons (zvi (show (-1 : Int32) = i3 (-1) from rfl)) rfl))))) c9) ?_
              clear c9
              have r122 := zM_f hZ121I 2 0 0 3808
              refine wz_br (i3Le (zm_rd (Z := Z121) (ν := ν) (k := 2) (show ((0 : Nat) : Int) = 0 from rfl) (show ((0 : Nat) : Int) = 0 from rfl) (show ((3808 : Nat) : Int) = 3808 from rfl)) (show (0 : Int32) = i3 0 from rfl) (by omega) (by omega) (by omega) (by omega)) (fun h123 => ?_) (fun h123 => ?_)
              · replace hP := zE_p hP h123
                have r124 := w3_r (-(Z121 2 0 0 3808))
                obtain ⟨Z125, hZ125, c9, hZ125I, kZ125, jZ125⟩ := sp_403 (ν := ν) hZ121I (a1 := 9) (by omega) (a2 := 8) (by omega) (a3 := (w3 (-(Z121 2 0 0 3808)))) (by omega) (a4 := (-1)) (by omega) (zbh (c := 45) (k := 1) hM (Nat.le_of_ble_eq_true rfl))
                have hZ125U : zU [] Z Z125 := zU_t hZ121U jZ125 zU_b0
                have hZ125K : zC [2] Z Z125 := zC_t hZ121K kZ125 (by decide)
                replace hZ125I := zmt (c := 46) hZ125I rfl
                replace hP := zl_e hP hZ125
                refine wz_cV_of (zas (zcons rfl (zcons (zvi (show (9 : Int32) = i3 9 from rfl)) (zcons (zvi (show (8 : Int32) = i3 8 from rfl)) (zcons (zvi (i3W (i3G (zm_rd (Z := Z121) (ν := ν) (k := 2) (show ((0 : Nat) : Int) = 0 from rfl) (show ((0 : Nat) : Int) = 0 from rfl) (show ((3808 : Nat) : Int) = 3808 from rfl))))) (zcons (zvi (show (-1 : Int32) = i3 (-1) from rfl)) rfl))))) c9) ?_
                clear c9
                exact zlV hP ⟨(zmw (a := 46) (c := 53) hZ125I (Nat.le_of_ble_eq_true rfl)), hZ125K, hZ125U⟩
              · replace hP := zE_n hP h123
                obtain ⟨Z126, hZ126, c9, hZ126I, kZ126, jZ126⟩ := sp_403 (ν := ν) hZ121I (a1 := 8) (by omega) (a2 := 9) (by omega) (a3 := (Z121 2 0 0 3808)) (by omega) (a4 := (-1)) (by omega) (zbh (c := 45) (k := 1) hM (Nat.le_of_ble_eq_true rfl))
                have hZ126U : zU [] Z Z126 := zU_t hZ121U jZ126 zU_b0
                have hZ126K : zC [2] Z Z126 := zC_t hZ121K kZ126 (by decide)
                replace hZ126I := zmt (c := 46) hZ126I rfl
                replace hP := zl_e hP hZ126
                refine wz_cV_of (zas (zcons rfl (zcons (zvi (show (8 : Int32) = i3 8 from rfl)) (zcons (zvi (show (9 : Int32) = i3 9 from rfl)) (zcons (zvi (zm_rd (Z := Z121) (ν := ν) (k := 2) (show ((0 : Nat) : Int) = 0 from rfl) (show ((0 : Nat) : Int) = 0 from rfl) (show ((3808 : Nat) : Int) = 3808 from rfl))) (zcons (zvi (show (-1 : Int32) = i3 (-1) from rfl)) rfl))))) c9) ?_
                clear c9
                exact zlV hP ⟨(zmw (a := 46) (c := 53) hZ126I (Nat.le_of_ble_eq_true rfl)), hZ126K, hZ126U⟩
            · replace hP := zE_n hP h119
              obtain ⟨Z127, hZ127, c9, hZ127I, kZ127, jZ127⟩ := sp_403 (ν := ν) hZ117I (a1 := 7) (by omega) (a2 := 9) (by omega) (a3 := (Z117 2 0 0 3807)) (by omega) (a4 := (-1)) (by omega) (zbh (c := 44) (k := 1) hM (Nat.le_of_ble_eq_true rfl))
              have hZ127U : zU [] Z Z127 := zU_t hZ117U jZ127 zU_b0
              have hZ127K : zC [2] Z Z127 := zC_t hZ117K kZ127 (by decide)
              replace hZ127I := zmt (c := 45) hZ127I rfl
              replace hP := zl_e hP hZ127
              refine wz_cV_of (zas (zcons rfl (zcons (zvi (show (7 : Int32) = i3 7 from rfl)) (zcons (zvi (show (9 : Int32) = i3 9 from rfl)) (zcons (zvi (zm_rd (Z := Z117) (ν := ν) (k := 2) (show ((0 : Nat) : Int) = 0 from rfl) (show ((0 : Nat) : Int) = 0 from rfl) (show ((3807 : Nat) : Int) = 3807 from rfl))) (zcons (zvi (show (-1 : Int32) = i3 (-1) from rfl)) rfl))))) c9) ?_
              clear c9
              have r128 := zM_f hZ127I 2 0 0 3808
              refine wz_br (i3Le (zm_rd (Z := Z127) (ν := ν) (k := 2) (show ((0 : Nat) : Int) = 0 from rfl) (show ((0 : Nat) : Int) = 0 from rfl) (show ((3808 : Nat) : Int) = 3808 from rfl)) (show (0 : Int32) = i3 0 from rfl) (by omega) (by omega) (by omega) (by omega)) (fun h129 => ?_) (fun h129 => ?_)
              · replace hP := zE_p hP h129
                have r130 := w3_r (-(Z127 2 0 0 3808))
                obtain ⟨Z131, hZ131, c9, hZ131I, kZ131, jZ131⟩ := sp_403 (ν := ν) hZ127I (a1 := 9) (by omega) (a2 := 8) (by omega) (a3 := (w3 (-(Z127 2 0 0 3808)))) (by omega) (a4 := (-1)) (by omega) (zbh (c := 45) (k := 1) hM (Nat.le_of_ble_eq_true rfl))
                have hZ131U : zU [] Z Z131 := zU_t hZ127U jZ131 zU_b0
                have hZ131K : zC [2] Z Z131 := zC_t hZ127K kZ131 (by decide)
                replace hZ131I := zmt (c := 46) hZ131I rfl
                replace hP := zl_e hP hZ131
                refine wz_cV_of (zas (zcons rfl (zcons (zvi (show (9 : Int32) = i3 9 from rfl)) (zcons (zvi (show (8 : Int32) = i3 8 from rfl)) (zcons (zvi (i3W (i3G (zm_rd (Z := Z127) (ν := ν) (k := 2) (show ((0 : Nat) : Int) = 0 from rfl) (show ((0 : Nat) : Int) = 0 from rfl) (show ((3808 : Nat) : Int) = 3808 from rfl))))) (zcons (zvi (show (-1 : Int32) = i3 (-1) from rfl)) rfl))))) c9) ?_
                clear c9
                exact zlV hP ⟨(zmw (a := 46) (c := 53) hZ131I (Nat.le_of_ble_eq_true rfl)), hZ131K, hZ131U⟩
              · replace hP := zE_n hP h129
                obtain ⟨Z132, hZ132, c9, hZ132I, kZ132, jZ132⟩ := sp_403 (ν := ν) hZ127I (a1 := 8) (by omega) (a2 := 9) (by omega) (a3 := (Z127 2 0 0 3808)) (by omega) (a4 := (-1)) (by omega) (zbh (c := 45) (k := 1) hM (Nat.le_of_ble_eq_true rfl))
                have hZ132U : zU [] Z Z132 := zU_t hZ127U jZ132 zU_b0
                have hZ132K : zC [2] Z Z132 := zC_t hZ127K kZ132 (by decide)
                replace hZ132I := zmt (c := 46) hZ132I rfl
                replace hP := zl_e hP hZ132
                refine wz_cV_of (zas (zcons rfl (zcons (zvi (show (8 : Int32) = i3 8 from rfl)) (zcons (zvi (show (9 : Int32) = i3 9 from rfl)) (zcons (zvi (zm_rd (Z := Z127) (ν := ν) (k := 2) (show ((0 : Nat) : Int) = 0 from rfl) (show ((0 : Nat) : Int) = 0 from rfl) (show ((3808 : Nat) : Int) = 3808 from rfl))) (zcons (zvi (show (-1 : Int32) = i3 (-1) from rfl)) rfl))))) c9) ?_
                clear c9
                exact zlV hP ⟨(zmw (a := 46) (c := 53) hZ132I (Nat.le_of_ble_eq_true rfl)), hZ132K, hZ132U⟩
        · replace hP := zE_n hP h95
          obtain ⟨Z133, hZ133, c9, hZ133I, kZ133, jZ133⟩ := sp_403 (ν := ν) hZ93I (a1 := 5) (by omega) (a2 := 9) (by omega) (a3 := (Z93 2 0 0 3805)) (by omega) (a4 := (-1)) (by omega) (zbh (c := 42) (k := 1) hM (Nat.le_of_ble_eq_true rfl))
          have hZ133U : zU [] Z Z133 := zU_t hZ93U jZ133 zU_b0
          have hZ133K : zC [2] Z Z133 := zC_t hZ93K kZ133 (by decide)
          replace hZ133I := zmt (c := 43) hZ133I rfl
          replace hP := zl_e hP hZ133
          refine wz_cV_of (zas (zcons rfl (zcons (zvi (show (5 : Int32) = i3 5 from rfl)) (zcons (zvi (show (9 : Int32) = i3 9 from rfl)) (zcons (zvi (zm_rd (Z := Z93) (ν := ν) (k := 2) (show ((0 : Nat) : Int) = 0 from rfl) (show ((0 : Nat) : Int) = 0 from rfl) (show ((3805 : Nat) : Int) = 3805 from rfl))) (zcons (zvi (show (-1 : Int32) = i3 (-1) from rfl)) rfl))))) c9) ?_
          clear c9
          have r134 := zM_f hZ133I 2 0 0 3806
          refine wz_br (i3Le (zm_rd (Z := Z133) (ν := ν) (k := 2) (show ((0 : Nat) : Int) = 0 from rfl) (show ((0 : Nat) : Int) = 0 from rfl) (show ((3806 : Nat) : Int) = 3806 from rfl)) (show (0 : Int32) = i3 0 from rfl) (by omega) (by omega) (by omega) (by omega)) (fun h135 => ?_) (fun h135 => ?_)
          · replace hP := zE_p hP h135
            have r136 := w3_r (-(Z133 2 0 0 3806))
            obtain ⟨Z137, hZ137, c9, hZ137I, kZ137, jZ137⟩ := sp_403 (ν := ν) hZ133I (a1 := 9) (by omega) (a2 := 6) (by omega) (a3 := (w3 (-(Z133 2 0 0 3806)))) (by omega) (a4 := (-1)) (by omega) (zbh (c := 43) (k := 1) hM (Nat.le_of_ble_eq_true rfl))
            have hZ137U : zU [] Z Z137 := zU_t hZ133U jZ137 zU_b0
            have hZ137K : zC [2] Z Z137 := zC_t hZ133K kZ137 (by decide)
            replace hZ137I := zmt (c := 44) hZ137I rfl
            replace hP := zl_e hP hZ137
            refine wz_cV_of (zas (zcons rfl (zcons (zvi (show (9 : Int32) = i3 9 from rfl)) (zcons (zvi (show (6 : Int32) = i3 6 from rfl)) (zcons (zvi (i3W (i3G (zm_rd (Z := Z133) (ν := ν) (k := 2) (show ((0 : Nat) : Int) = 0 from rfl) (show ((0 : Nat) : Int) = 0 from rfl) (show ((3806 : Nat) : Int) = 3806 from rfl))))) (zcons (zvi (show (-1 : Int32) = i3 (-1) from rfl)) rfl))))) c9) ?_
            clear c9
            have r138 := zM_f hZ137I 2 0 0 3807
            refine wz_br (i3Le (zm_rd (Z := Z137) (ν := ν) (k := 2) (show ((0 : Nat) : Int) = 0 from rfl) (show ((0 : Nat) : Int) = 0 from rfl) (show ((3807 : Nat) : Int) = 3807 from rfl)) (show (0 : Int32) = i3 0 from rfl) (by omega) (by omega) (by omega) (by omega)) (fun h139 => ?_) (fun h139 => ?_)
            · replace hP := zE_p hP h139
              have r140 := w3_r (-(Z137 2 0 0 3807))
              obtain ⟨Z141, hZ141, c9, hZ141I, kZ141, jZ141⟩ := sp_403 (ν := ν) hZ137I (a1 := 9) (by omega) (a2 := 7) (by omega) (a3 := (w3 (-(Z137 2 0 0 3807)))) (by omega) (a4 := (-1)) (by omega) (zbh (c := 44) (k := 1) hM (Nat.le_of_ble_eq_true rfl))
              have hZ141U : zU [] Z Z141 := zU_t hZ137U jZ141 zU_b0
              have hZ141K : zC [2] Z Z141 := zC_t hZ137K kZ141 (by decide)
              replace hZ141I := zmt (c := 45) hZ141I rfl
              replace hP := zl_e hP hZ141
              refine wz_cV_of (zas (zcons rfl (zcons (zvi (show (9 : Int32) = i3 9 from rfl)) (zcons (zvi (show (7 : Int32) = i3 7 from rfl)) (zcons (zvi (i3W (i3G (zm_rd (Z := Z137) (ν := ν) (k := 2) (show ((0 : Nat) : Int) = 0 from rfl) (show ((0 : Nat) : Int) = 0 from rfl) (show ((3807 : Nat) : Int) = 3807 from rfl))))) (zcons (zvi (show (-1 : Int32) = i3 (-1) from rfl)) rfl))))) c9) ?_
              clear c9
              have r142 := zM_f hZ141I 2 0 0 3808
              refine wz_br (i3Le (zm_rd (Z := Z141) (ν := ν) (k := 2) (show ((0 : Nat) : Int) = 0 from rfl) (show ((0 : Nat) : Int) = 0 from rfl) (show ((3808 : Nat) : Int) = 3808 from rfl)) (show (0 : Int32) = i3 0 from rfl) (by omega) (by omega) (by omega) (by omega)) (fun h143 => ?_) (fun h143 => ?_)
              · replace hP := zE_p hP h143
                have r144 := w3_r (-(Z141 2 0 0 3808))
                obtain ⟨Z145, hZ145, c9, hZ145I, kZ145, jZ145⟩ := sp_403 (ν := ν) hZ141I (a1 := 9) (by omega) (a2 := 8) (by omega) (a3 := (w3 (-(Z141 2 0 0 3808)))) (by omega) (a4 := (-1)) (by omega) (zbh (c := 45) (k := 1) hM (Nat.le_of_ble_eq_true rfl))
                have hZ145U : zU [] Z Z145 := zU_t hZ141U jZ145 zU_b0
                have hZ145K : zC [2] Z Z145 := zC_t hZ141K kZ145 (by decide)
                replace hZ145I := zmt (c := 46) hZ145I rfl
                replace hP := zl_e hP hZ145
                refine wz_cV_of (zas (zcons rfl (zcons (zvi (show (9 : Int32) = i3 9 from rfl)) (zcons (zvi (show (8 : Int32) = i3 8 from rfl)) (zcons (zvi (i3W (i3G (zm_rd (Z := Z141) (ν := ν) (k := 2) (show ((0 : Nat) : Int) = 0 from rfl) (show ((0 : Nat) : Int) = 0 from rfl) (show ((3808 : Nat) : Int) = 3808 from rfl))))) (zcons (zvi (show (-1 : Int32) = i3 (-1) from rfl)) rfl))))) c9) ?_
                clear c9
                exact zlV hP ⟨(zmw (a := 46) (c := 53) hZ145I (Nat.le_of_ble_eq_true rfl)), hZ145K, hZ145U⟩
              · replace hP := zE_n hP h143
                obtain ⟨Z146, hZ146, c9, hZ146I, kZ146, jZ146⟩ := sp_403 (ν := ν) hZ141I (a1 := 8) (by omega) (a2 := 9) (by omega) (a3 := (Z141 2 0 0 3808)) (by omega) (a4 := (-1)) (by omega) (zbh (c := 45) (k := 1) hM (Nat.le_of_ble_eq_true rfl))
                have hZ146U : zU [] Z Z146 := zU_t hZ141U jZ146 zU_b0
                have hZ146K : zC [2] Z Z146 := zC_t hZ141K kZ146 (by decide)
                replace hZ146I := zmt (c := 46) hZ146I rfl
                replace hP := zl_e hP hZ146
                refine wz_cV_of (zas (zcons rfl (zcons (zvi (show (8 : Int32) = i3 8 from rfl)) (zcons (zvi (show (9 : Int32) = i3 9 from rfl)) (zcons (zvi (zm_rd (Z := Z141) (ν := ν) (k := 2) (show ((0 : Nat) : Int) = 0 from rfl) (show ((0 : Nat) : Int) = 0 from rfl) (show ((3808 : Nat) : Int) = 3808 from rfl))) (zcons (zvi (show (-1 : Int32) = i3 (-1) from rfl)) rfl))))) c9) ?_
                clear c9
                exact zlV hP ⟨(zmw (a := 46) (c := 53) hZ146I (Nat.le_of_ble_eq_true rfl)), hZ146K, hZ146U⟩
            · replace hP := zE_n hP h139
              obtain ⟨Z147, hZ147, c9, hZ147I, kZ147, jZ147⟩ := sp_403 (ν := ν) hZ137I (a1 := 7) (by omega) (a2 := 9) (by omega) (a3 := (Z137 2 0 0 3807)) (by omega) (a4 := (-1)) (by omega) (zbh (c := 44) (k := 1) hM (Nat.le_of_ble_eq_true rfl))
              have hZ147U : zU [] Z Z147 := zU_t hZ137U jZ147 zU_b0
              have hZ147K : zC [2] Z Z147 := zC_t hZ137K kZ147 (by decide)
              replace hZ147I := zmt (c := 45) hZ147I rfl
              replace hP := zl_e hP hZ147
              refine wz_cV_of (zas (zcons rfl (zcons (zvi (show (7 : Int32) = i3 7 from rfl)) (zcons (zvi (show (9 : Int32) = i3 9 from rfl)) (zcons (zvi (zm_rd (Z := Z137) (ν := ν) (k := 2) (show ((0 : Nat) : Int) = 0 from rfl) (show ((0 : Nat) : Int) = 0 from rfl) (show ((3807 : Nat) : Int) = 3807 from rfl))) (zcons (zvi (show (-1 : Int32) = i3 (-1) from rfl)) rfl))))) c9) ?_
              clear c9
              have r148 := zM_f hZ147I 2 0 0 3808
              refine wz_br (i3Le (zm_rd (Z := Z147) (ν := ν) (k := 2) (show ((0 : Nat) : Int) = 0 from rfl) (show ((0 : Nat) : Int) = 0 from rfl) (show ((3808 : Nat) : Int) = 3808 from rfl)) (show (0 : Int32) = i3 0 from rfl) (by omega) (by omega) (by omega) (by omega)) (fun h149 => ?_) (fun h149 => ?_)
              · replace hP := zE_p hP h149
                have r150 := w3_r (-(Z147 2 0 0 3808))
                obtain ⟨Z151, hZ151, c9, hZ151I, kZ151, jZ151⟩ := sp_403 (ν := ν) hZ147I (a1 := 9) (by omega) (a2 := 8) (by omega) (a3 := (w3 (-(Z147 2 0 0 3808)))) (by omega) (a4 := (-1)) (by omega) (zbh (c := 45) (k := 1) hM (Nat.le_of_ble_eq_true rfl))
                have hZ151U : zU [] Z Z151 := zU_t hZ147U jZ151 zU_b0
                have hZ151K : zC [2] Z Z151 := zC_t hZ147K kZ151 (by decide)
                replace hZ151I := zmt (c := 46) hZ151I rfl
                replace hP := zl_e hP hZ151
                refine wz_cV_of (zas (zcons rfl (zcons (zvi (show (9 : Int32) = i3 9 from rfl)) (zcons (zvi (show (8 : Int32) = i3 8 from rfl)) (zcons (zvi (i3W (i3G (zm_rd (Z := Z147) (ν := ν) (k := 2) (show ((0 : Nat) : Int) = 0 from rfl) (show ((0 : Nat) : Int) = 0 from rfl) (show ((3808 : Nat) : Int) = 3808 from rfl))))) (zcons (zvi (show (-1 : Int32) = i3 (-1) from rfl)) rfl))))) c9) ?_
                clear c9
                exact zlV hP ⟨(zmw (a := 46) (c := 53) hZ151I (Nat.le_of_ble_eq_true rfl)), hZ151K, hZ151U⟩
              · replace hP := zE_n hP h149
                obtain ⟨Z152, hZ152, c9, hZ152I, kZ152, jZ152⟩ := sp_403 (ν := ν) hZ147I (a1 := 8) (by omega) (a2 := 9) (by omega) (a3 := (Z147 2 0 0 3808)) (by omega) (a4 := (-1)) (by omega) (zbh (c := 45) (k := 1) hM (Nat.le_of_ble_eq_true rfl))
                have hZ152U : zU [] Z Z152 := zU_t hZ147U jZ152 zU_b0
                have hZ152K : zC [2] Z Z152 := zC_t hZ147K kZ152 (by decide)
                replace hZ152I := zmt (c := 46) hZ152I rfl
                replace hP := zl_e hP hZ152
                refine wz_cV_of (zas (zcons rfl (zcons (zvi (show (8 : Int32) = i3 8 from rfl)) (zcons (zvi (show (9 : Int32) = i3 9 from rfl)) (zcons (zvi (zm_rd (Z := Z147) (ν := ν) (k := 2) (show ((0 : Nat) : Int) = 0 from rfl) (show ((0 : Nat) : Int) = 0 from rfl) (show ((3808 : Nat) : Int) = 3808 from rfl))) (zcons (zvi (show (-1 : Int32) = i3 (-1) from rfl)) rfl))))) c9) ?_
                clear c9
                exact zlV hP ⟨(zmw (a := 46) (c := 53) hZ152I (Nat.le_of_ble_eq_true rfl)), hZ152K, hZ152U⟩
          · replace hP := zE_n hP h135
            obtain ⟨Z153, hZ153, c9, hZ153I, kZ153, jZ153⟩ := sp_403 (ν := ν) hZ133I (a1 := 6) (by omega) (a2 := 9) (by omega) (a3 := (Z133 2 0 0 3806)) (by omega) (a4 := (-1)) (by omega) (zbh (c := 43) (k := 1) hM (Nat.le_of_ble_eq_true rfl))
            have hZ153U : zU [] Z Z153 := zU_t hZ133U jZ153 zU_b0
            have hZ153K : zC [2] Z Z153 := zC_t hZ133K kZ153 (by decide)
            replace hZ153I := zmt (c := 44) hZ153I rfl
            replace hP := zl_e hP hZ153
            refine wz_cV_of (zas (zcons rfl (zcons (zvi (show (6 : Int32) = i3 6 from rfl)) (zcons (zvi (show (9 : Int32) = i3 9 from rfl)) (zcons (zvi (zm_rd (Z := Z133) (ν := ν) (k := 2) (show ((0 : Nat) : Int) = 0 from rfl) (show ((0 : Nat) : Int) = 0 from rfl) (show ((3806 : Nat) : Int) = 3806 from rfl))) (zcons (zvi (show (-1 : Int32) = i3 (-1) from rfl)) rfl))))) c9) ?_
            clear c9
            have r154 := zM_f hZ153I 2 0 0 3807
            refine wz_br (i3Le (zm_rd (Z := Z153) (ν := ν) (k := 2) (show ((0 : Nat) : Int) = 0 from rfl) (show ((0 : Nat) : Int) = 0 from rfl) (show ((3807 : Nat) : Int) = 3807 from rfl)) (show (0 : Int32) = i3 0 from rfl) (by omega) (by omega) (by omega) (by omega)) (fun h155 => ?_) (fun h155 => ?_)
            · replace hP := zE_p hP h155
              have r156 := w3_r (-(Z153 2 0 0 3807))
              obtain ⟨Z157, hZ157, c9, hZ157I, kZ157, jZ157⟩ := sp_403 (ν := ν) hZ153I (a1 := 9) (by omega) (a2 := 7) (by omega) (a3 := (w3 (-(Z153 2 0 0 3807)))) (by omega) (a4 := (-1)) (by omega) (zbh (c := 44) (k := 1) hM (Nat.le_of_ble_eq_true rfl))
              have hZ157U : zU [] Z Z157 := zU_t hZ153U jZ157 zU_b0
              have hZ157K : zC [2] Z Z157 := zC_t hZ153K kZ157 (by decide)
              replace hZ157I := zmt (c := 45) hZ157I rfl
              replace hP := zl_e hP hZ157
              refine wz_cV_of (zas (zcons rfl (zcons (zvi (show (9 : Int32) = i3 9 from rfl)) (zcons (zvi (show (7 : Int32) = i3 7 from rfl)) (zcons (zvi (i3W (i3G (zm_rd (Z := Z153) (ν := ν) (k := 2) (show ((0 : Nat) : Int) = 0 from rfl) (show ((0 : Nat) : Int) = 0 from rfl) (show ((3807 : Nat) : Int) = 3807 from rfl))))) (zcons (zvi (show (-1 : Int32) = i3 (-1) from rfl)) rfl))))) c9) ?_
              clear c9
              have r158 := zM_f hZ157I 2 0 0 3808
              refine wz_br (i3Le (zm_rd (Z := Z157) (ν := ν) (k := 2) (show ((0 : Nat) : Int) = 0 from rfl) (show ((0 : Nat) : Int) = 0 from rfl) (show ((3808 : Nat) : Int) = 3808 from rfl)) (show (0 : Int32) = i3 0 from rfl) (by omega) (by omega) (by omega) (by omega)) (fun h159 => ?_) (fun h159 => ?_)
              · replace hP := zE_p hP h159
                have r160 := w3_r (-(Z157 2 0 0 3808))
                obtain ⟨Z161, hZ161, c9, hZ161I, kZ161, jZ161⟩ := sp_403 (ν := ν) hZ157I (a1 := 9) (by omega) (a2 := 8) (by omega) (a3 := (w3 (-(Z157 2 0 0 3808)))) (by omega) (a4 := (-1)) (by omega) (zbh (c := 45) (k := 1) hM (Nat.le_of_ble_eq_true rfl))
                have hZ161U : zU [] Z Z161 := zU_t hZ157U jZ161 zU_b0
                have hZ161K : zC [2] Z Z161 := zC_t hZ157K kZ161 (by decide)
                replace hZ161I := zmt (c := 46) hZ161I rfl
                replace hP := zl_e hP hZ161
                refine wz_cV_of (zas (zcons rfl (zcons (zvi (show (9 : Int32) = i3 9 from rfl)) (zcons (zvi (show (8 : Int32) = i3 8 from rfl)) (zcons (zvi (i3W (i3G (zm_rd (Z := Z157) (ν := ν) (k := 2) (show ((0 : Nat) : Int) = 0 from rfl) (show ((0 : Nat) : Int) = 0 from rfl) (show ((3808 : Nat) : Int) = 3808 from rfl))))) (zcons (zvi (show (-1 : Int32) = i3 (-1) from rfl)) rfl))))) c9) ?_
                clear c9
                exact zlV hP ⟨(zmw (a := 46) (c := 53) hZ161I (Nat.le_of_ble_eq_true rfl)), hZ161K, hZ161U⟩
              · replace hP := zE_n hP h159
                obtain ⟨Z162, hZ162, c9, hZ162I, kZ162, jZ162⟩ := sp_403 (ν := ν) hZ157I (a1 := 8) (by omega) (a2 := 9) (by omega) (a3 := (Z157 2 0 0 3808)) (by omega) (a4 := (-1)) (by omega) (zbh (c := 45) (k := 1) hM (Nat.le_of_ble_eq_true rfl))
                have hZ162U : zU [] Z Z162 := zU_t hZ157U jZ162 zU_b0
                have hZ162K : zC [2] Z Z162 := zC_t hZ157K kZ162 (by decide)
                replace hZ162I := zmt (c := 46) hZ162I rfl
                replace hP := zl_e hP hZ162
                refine wz_cV_of (zas (zcons rfl (zcons (zvi (show (8 : Int32) = i3 8 from rfl)) (zcons (zvi (show (9 : Int32) = i3 9 from rfl)) (zcons (zvi (zm_rd (Z := Z157) (ν := ν) (k := 2) (show ((0 : Nat) : Int) = 0 from rfl) (show ((0 : Nat) : Int) = 0 from rfl) (show ((3808 : Nat) : Int) = 3808 from rfl))) (zcons (zvi (show (-1 : Int32) = i3 (-1) from rfl)) rfl))))) c9) ?_
                clear c9
                exact zlV hP ⟨(zmw (a := 46) (c := 53) hZ162I (Nat.le_of_ble_eq_true rfl)), hZ162K, hZ162U⟩
            · replace hP := zE_n hP h155
              obtain ⟨Z163, hZ163, c9, hZ163I, kZ163, jZ163⟩ := sp_403 (ν := ν) hZ153I (a1 := 7) (by omega) (a2 := 9) (by omega) (a3 := (Z153 2 0 0 3807)) (by omega) (a4 := (-1)) (by omega) (zbh (c := 44) (k := 1) hM (Nat.le_of_ble_eq_true rfl))
              have hZ163U : zU [] Z Z163 := zU_t hZ153U jZ163 zU_b0
              have hZ163K : zC [2] Z Z163 := zC_t hZ153K kZ163 (by decide)
              replace hZ163I := zmt (c := 45) hZ163I rfl
              replace hP := zl_e hP hZ163
              refine wz_cV_of (zas (zcons rfl (zcons (zvi (show (7 : Int32) = i3 7 from rfl)) (zcons (zvi (show (9 : Int32) = i3 9 from rfl)) (zcons (zvi (zm_rd (Z := Z153) (ν := ν) (k := 2) (show ((0 : Nat) : Int) = 0 from rfl) (show ((0 : Nat) : Int) = 0 from rfl) (show ((3807 : Nat) : Int) = 3807 from rfl))) (zcons (zvi (show (-1 : Int32) = i3 (-1) from rfl)) rfl))))) c9) ?_
              clear c9
              have r164 := zM_f hZ163I 2 0 0 3808
              refine wz_br (i3Le (zm_rd (Z := Z163) (ν := ν) (k := 2) (show ((0 : Nat) : Int) = 0 from rfl) (show ((0 : Nat) : Int) = 0 from rfl) (show ((3808 : Nat) : Int) = 3808 from rfl)) (show (0 : Int32) = i3 0 from rfl) (by omega) (by omega) (by omega) (by omega)) (fun h165 => ?_) (fun h165 => ?_)
              · replace hP := zE_p hP h165
                have r166 := w3_r (-(Z163 2 0 0 3808))
                obtain ⟨Z167, hZ167, c9, hZ167I, kZ167, jZ167⟩ := sp_403 (ν := ν) hZ163I (a1 := 9) (by omega) (a2 := 8) (by omega) (a3 := (w3 (-(Z163 2 0 0 3808)))) (by omega) (a4 := (-1)) (by omega) (zbh (c := 45) (k := 1) hM (Nat.le_of_ble_eq_true rfl))
                have hZ167U : zU [] Z Z167 := zU_t hZ163U jZ167 zU_b0
                have hZ167K : zC [2] Z Z167 := zC_t hZ163K kZ167 (by decide)
                replace hZ167I := zmt (c := 46) hZ167I rfl
                replace hP := zl_e hP hZ167
                refine wz_cV_of (zas (zcons rfl (zcons (zvi (show (9 : Int32) = i3 9 from rfl)) (zcons (zvi (show (8 : Int32) = i3 8 from rfl)) (zcons (zvi (i3W (i3G (zm_rd (Z := Z163) (ν := ν) (k := 2) (show ((0 : Nat) : Int) = 0 from rfl) (show ((0 : Nat) : Int) = 0 from rfl) (show ((3808 : Nat) : Int) = 3808 from rfl))))) (zcons (zvi (show (-1 : Int32) = i3 (-1) from rfl)) rfl))))) c9) ?_
                clear c9
                exact zlV hP ⟨(zmw (a := 46) (c := 53) hZ167I (Nat.le_of_ble_eq_true rfl)), hZ167K, hZ167U⟩
              · replace hP := zE_n hP h165
                obtain ⟨Z168, hZ168, c9, hZ168I, kZ168, jZ168⟩ := sp_403 (ν := ν) hZ163I (a1 := 8) (by omega) (a2 := 9) (by omega) (a3 := (Z163 2 0 0 3808)) (by omega) (a4 := (-1)) (by omega) (zbh (c := 45) (k := 1) hM (Nat.le_of_ble_eq_true rfl))
                have hZ168U : zU [] Z Z168 := zU_t hZ163U jZ168 zU_b0
                have hZ168K : zC [2] Z Z168 := zC_t hZ163K kZ168 (by decide)
                replace hZ168I := zmt (c := 46) hZ168I rfl
                replace hP := zl_e hP hZ168
                refine wz_cV_of (zas (zcons rfl (zcons (zvi (show (8 : Int32) = i3 8 from rfl)) (zcons (zvi (show (9 : Int32) = i3 9 from rfl)) (zcons (zvi (zm_rd (Z := Z163) (ν := ν) (k := 2) (show ((0 : Nat) : Int) = 0 from rfl) (show ((0 : Nat) : Int) = 0 from rfl) (show ((3808 : Nat) : Int) = 3808 from rfl))) (zcons (zvi (show (-1 : Int32) = i3 (-1) from rfl)) rfl))))) c9) ?_
                clear c9
                exact zlV hP ⟨(zmw (a := 46) (c := 53) hZ168I (Nat.le_of_ble_eq_true rfl)), hZ168K, hZ168U⟩
    · replace hP := zE_n hP h11
      obtain ⟨Z169, hZ169, c9, hZ169I, kZ169, jZ169⟩ := sp_403 (ν := ν) hZ7I (a1 := 3) (by omega) (a2 := 9) (by omega) (a3 := (Z7 2 0 0 3803)) (by omega) (a4 := (-1)) (by omega) (zbh (c := 40) (k := 1) hM (Nat.le_of_ble_eq_true rfl))
      have hZ169U : zU [] Z Z169 := zU_t hZ7U jZ169 zU_b0
      have hZ169K : zC [2] Z Z169 := zC_t hZ7K kZ169 (by decide)
      replace hZ169I := zmt (c := 41) hZ169I rfl
      replace hP := zl_e hP hZ169
      refine wz_cV_of (zas (zcons rfl (zcons (zvi (show (3 : Int32) = i3 3 from rfl)) (zcons (zvi (show (9 : Int32) = i3 9 from rfl)) (zcons (zvi (zm_rd (Z := Z7) (ν := ν) (k := 2) (show ((0 : Nat) : Int) = 0 from rfl) (show ((0 : Nat) : Int) = 0 from rfl) (show ((3803 : Nat) : Int) = 3803 from rfl))) (zcons (zvi (show (-1 : Int32) = i3 (-1) from rfl)) rfl))))) c9) ?_
      clear c9
      have r170 := zM_f hZ169I 2 0 0 3804
      refine wz_br (i3Le (zm_rd (Z := Z169) (ν := ν) (k := 2) (show ((0 : Nat) : Int) = 0 from rfl) (show ((0 : Nat) : Int) = 0 from rfl) (show ((3804 : Nat) : Int) = 3804 from rfl)) (show (0 : Int32) = i3 0 from rfl) (by omega) (by omega) (by omega) (by omega)) (fun h171 => ?_) (fun h171 => ?_)
      · replace hP := zE_p hP h171
        have r172 := w3_r (-(Z169 2 0 0 3804))
        obtain ⟨Z173, hZ173, c9, hZ173I, kZ173, jZ173⟩ := sp_403 (ν := ν) hZ169I (a1 := 9) (by omega) (a2 := 4) (by omega) (a3 := (w3 (-(Z169 2 0 0 3804)))) (by omega) (a4 := (-1)) (by omega) (zbh (c := 41) (k := 1) hM (Nat.le_of_ble_eq_true rfl))
        have hZ173U : zU [] Z Z173 := zU_t hZ169U jZ173 zU_b0
        have hZ173K : zC [2] Z Z173 := zC_t hZ169K kZ173 (by decide)
        replace hZ173I := zmt (c := 42) hZ173I rfl
        replace hP := zl_e hP hZ173
        refine wz_cV_of (zas (zcons rfl (zcons (zvi (show (9 : Int32) = i3 9 from rfl)) (zcons (zvi (show (4 : Int32) = i3 4 from rfl)) (zcons (zvi (i3W (i3G (zm_rd (Z := Z169) (ν := ν) (k := 2) (show ((0 : Nat) : Int) = 0 from rfl) (show ((0 : Nat) : Int) = 0 from rfl) (show ((3804 : Nat) : Int) = 3804 from rfl))))) (zcons (zvi (show (-1 : Int32) = i3 (-1) from rfl)) rfl))))) c9) ?_
        clear c9
        have r174 := zM_f hZ173I 2 0 0 3805
        refine wz_br (i3Le (zm_rd (Z := Z173) (ν := ν) (k := 2) (show ((0 : Nat) : Int) = 0 from rfl) (show ((0 : Nat) : Int) = 0 from rfl) (show ((3805 : Nat) : Int) = 3805 from rfl)) (show (0 : Int32) = i3 0 from rfl) (by omega) (by omega) (by omega) (by omega)) (fun h175 => ?_) (fun h175 => ?_)
        · replace hP := zE_p hP h175
          have r176 := w3_r (-(Z173 2 0 0 3805))
          obtain ⟨Z177, hZ177, c9, hZ177I, kZ177, jZ177⟩ := sp_403 (ν := ν) hZ173I (a1 := 9) (by omega) (a2 := 5) (by omega) (a3 := (w3 (-(Z173 2 0 0 3805)))) (by omega) (a4 := (-1)) (by omega) (zbh (c := 42) (k := 1) hM (Nat.le_of_ble_eq_true rfl))
          have hZ177U : zU [] Z Z177 := zU_t hZ173U jZ177 zU_b0
          have hZ177K : zC [2] Z Z177 := zC_t hZ173K kZ177 (by decide)
          replace hZ177I := zmt (c := 43) hZ177I rfl
          replace hP := zl_e hP hZ177
          refine wz_cV_of (zas (zcons rfl (zcons (zvi (show (9 : Int32) = i3 9 from rfl)) (zcons (zvi (show (5 : Int32) = i3 5 from rfl)) (zcons (zvi (i3W (i3G (zm_rd (Z := Z173) (ν := ν) (k := 2) (show ((0 : Nat) : Int) = 0 from rfl) (show ((0 : Nat) : Int) = 0 from rfl) (show ((3805 : Nat) : Int) = 3805 from rfl))))) (zcons (zvi (show (-1 : Int32) = i3 (-1) from rfl)) rfl))))) c9) ?_
          clear c9
          have r178 := zM_f hZ177I 2 0 0 3806
          refine wz_br (i3Le (zm_rd (Z := Z177) (ν := ν) (k := 2) (show ((0 : Nat) : Int) = 0 from rfl) (show ((0 : Nat) : Int) = 0 from rfl) (show ((3806 : Nat) : Int) = 3806 from rfl)) (show (0 : Int32) = i3 0 from rfl) (by omega) (by omega) (by omega) (by omega)) (fun h179 => ?_) (fun h179 => ?_)
          · replace hP := zE_p hP h179
            have r180 := w3_r (-(Z177 2 0 0 3806))
            obtain ⟨Z181, hZ181, c9, hZ181I, kZ181, jZ181⟩ := sp_403 (ν := ν) hZ177I (a1 := 9) (by omega) (a2 := 6) (by omega) (a3 := (w3 (-(Z177 2 0 0 3806)))) (by omega) (a4 := (-1)) (by omega) (zbh (c := 43) (k := 1) hM (Nat.le_of_ble_eq_true rfl))
            have hZ181U : zU [] Z Z181 := zU_t hZ177U jZ181 zU_b0
            have hZ181K : zC [2] Z Z181 := zC_t hZ177K kZ181 (by decide)
            replace hZ181I := zmt (c := 44) hZ181I rfl
            replace hP := zl_e hP hZ181
            refine wz_cV_of (zas (zcons rfl (zcons (zvi (show (9 : Int32) = i3 9 from rfl)) (zcons (zvi (show (6 : Int32) = i3 6 from rfl)) (zcons (zvi (i3W (i3G (zm_rd (Z := Z177) (ν := ν) (k := 2) (show ((0 : Nat) : Int) = 0 from rfl) (show ((0 : Nat) : Int) = 0 from rfl) (show ((3806 : Nat) : Int) = 3806 from rfl))))) (zcons (zvi (show (-1 : Int32) = i3 (-1) from rfl)) rfl))))) c9) ?_
            clear c9
            have r182 := zM_f hZ181I 2 0 0 3807
            refine wz_br (i3Le (zm_rd (Z := Z181) (ν := ν) (k := 2) (show ((0 : Nat) : Int) = 0 from rfl) (show ((0 : Nat) : Int) = 0 from rfl) (show ((3807 : Nat) : Int) = 3807 from rfl)) (show (0 : Int32) = i3 0 from rfl) (by omega) (by omega) (by omega) (by omega)) (fun h183 => ?_) (fun h183 => ?_)
            · replace hP := zE_p hP h183
              have r184 := w3_r (-(Z181 2 0 0 3807))
              obtain ⟨Z185, hZ185, c9, hZ185I, kZ185, jZ185⟩ := sp_403 (ν := ν) hZ181I (a1 := 9) (by omega) (a2 := 7) (by omega) (a3 := (w3 (-(Z181 2 0 0 3807)))) (by omega) (a4 := (-1)) (by omega) (zbh (c := 44) (k := 1) hM (Nat.le_of_ble_eq_true rfl))
              have hZ185U : zU [] Z Z185 := zU_t hZ181U jZ185 zU_b0
              have hZ185K : zC [2] Z Z185 := zC_t hZ181K kZ185 (by decide)
              replace hZ185I := zmt (c := 45) hZ185I rfl
              replace hP := zl_e hP hZ185
              refine wz_cV_of (zas (zcons rfl (zcons (zvi (show (9 : Int32) = i3 9 from rfl)) (zcons (zvi (show (7 : Int32) = i3 7 from rfl)) (zcons (zvi (i3W (i3G (zm_rd (Z := Z181) (ν := ν) (k := 2) (show ((0 : Nat) : Int) = 0 from rfl) (show ((0 : Nat) : Int) = 0 from rfl) (show ((3807 : Nat) : Int) = 3807 from rfl))))) (zcons (zvi (show (-1 : Int32) = i3 (-1) from rfl)) rfl))))) c9) ?_
              clear c9
              have r186 := zM_f hZ185I 2 0 0 3808
              refine wz_br (i3Le (zm_rd (Z := Z185) (ν := ν) (k := 2) (show ((0 : Nat) : Int) = 0 from rfl) (show ((0 : Nat) : Int) = 0 from rfl) (show ((3808 : Nat) : Int) = 3808 from rfl)) (show (0 : Int32) = i3 0 from rfl) (by omega) (by omega) (by omega) (by omega)) (fun h187 => ?_) (fun h187 => ?_)
              · replace hP := zE_p hP h187
                have r188 := w3_r (-(Z185 2 0 0 3808))
                obtain ⟨Z189, hZ189, c9, hZ189I, kZ189, jZ189⟩ := sp_403 (ν := ν) hZ185I (a1 := 9) (by omega) (a2 := 8) (by omega) (a3 := (w3 (-(Z185 2 0 0 3808)))) (by omega) (a4 := (-1)) (by omega) (zbh (c := 45) (k := 1) hM (Nat.le_of_ble_eq_true rfl))
                have hZ189U : zU [] Z Z189 := zU_t hZ185U jZ189 zU_b0
                have hZ189K : zC [2] Z Z189 := zC_t hZ185K kZ189 (by decide)
                replace hZ189I := zmt (c := 46) hZ189I rfl
                replace hP := zl_e hP hZ189
                refine wz_cV_of (zas (zcons rfl (zcons (zvi (show (9 : Int32) = i3 9 from rfl)) (zcons (zvi (show (8 : Int32) = i3 8 from rfl)) (zcons (zvi (i3W (i3G (zm_rd (Z := Z185) (ν := ν) (k := 2) (show ((0 : Nat) : Int) = 0 from rfl) (show ((0 : Nat) : Int) = 0 from rfl) (show ((3808 : Nat) : Int) = 3808 from rfl))))) (zcons (zvi (show (-1 : Int32) = i3 (-1) from rfl)) rfl))))) c9) ?_
                clear c9
                exact zlV hP ⟨(zmw (a := 46) (c := 53) hZ189I (Nat.le_of_ble_eq_true rfl)), hZ189K, hZ189U⟩
              · replace hP := zE_n hP h187
                obtain ⟨Z190, hZ190, c9, hZ190I, kZ190, jZ190⟩ := sp_403 (ν := ν) hZ185I (a1 := 8) (by omega) (a2 := 9) (by omega) (a3 := (Z185 2 0 0 3808)) (by omega) (a4 := (-1)) (by omega) (zbh (c := 45) (k := 1) hM (Nat.le_of_ble_eq_true rfl))
                have hZ190U : zU [] Z Z190 := zU_t hZ185U jZ190 zU_b0
                have hZ190K : zC [2] Z Z190 := zC_t hZ185K kZ190 (by decide)
                replace hZ190I := zmt (c := 46) hZ190I rfl
                replace hP := zl_e hP hZ190
                refine wz_cV_of (zas (zcons rfl (zcons (zvi (show (8 : Int32) = i3 8 from rfl)) (zcons (zvi (show (9 : Int32) = i3 9 from rfl)) (zcons (zvi (zm_rd (Z := Z185) (ν := ν) (k := 2) (show ((0 : Nat) : Int) = 0 from rfl) (show ((0 : Nat) : Int) = 0 from rfl) (show ((3808 : Nat) : Int) = 3808 from rfl))) (zcons (zvi (show (-1 : Int32) = i3 (-1) from rfl)) rfl))))) c9) ?_
                clear c9
                exact zlV hP ⟨(zmw (a := 46) (c := 53) hZ190I (Nat.le_of_ble_eq_true rfl)), hZ190K, hZ190U⟩
            · replace hP := zE_n hP h183
              obtain ⟨Z191, hZ191, c9, hZ191I, kZ191, jZ191⟩ := sp_403 (ν := ν) hZ181I (a1 := 7) (by omega) (a2 := 9) (by omega) (a3 := (Z181 2 0 0 3807)) (by omega) (a4 := (-1)) (by omega) (zbh (c := 44) (k := 1) hM (Nat.le_of_ble_eq_true rfl))
              have hZ191U : zU [] Z Z191 := zU_t hZ181U jZ191 zU_b0
              have hZ191K : zC [2] Z Z191 := zC_t hZ181K kZ191 (by decide)
              replace hZ191I := zmt (c := 45) hZ191I rfl
              replace hP := zl_e hP hZ191
              refine wz_cV_of (zas (zcons rfl (zcons (zvi (show (7 : Int32) = i3 7 from rfl)) (zcons (zvi (show (9 : Int32) = i3 9 from rfl)) (zcons (zvi (zm_rd (Z := Z181) (ν := ν) (k := 2) (show ((0 : Nat) : Int) = 0 from rfl) (show ((0 : Nat) : Int) = 0 from rfl) (show ((3807 : Nat) : Int) = 3807 from rfl))) (zcons (zvi (show (-1 : Int32) = i3 (-1) from rfl)) rfl))))) c9) ?_
              clear c9
              have r192 := zM_f hZ191I 2 0 0 3808
              refine wz_br (i3Le (zm_rd (Z := Z191) (ν := ν) (k := 2) (show ((0 : Nat) : Int) = 0 from rfl) (show ((0 : Nat) : Int) = 0 from rfl) (show ((3808 : Nat) : Int) = 3808 from rfl)) (show (0 : Int32) = i3 0 from rfl) (by omega) (by omega) (by omega) (by omega)) (fun h193 => ?_) (fun h193 => ?_)
              · replace hP := zE_p hP h193
                have r194 := w3_r (-(Z191 2 0 0 3808))
                obtain ⟨Z195, hZ195, c9, hZ195I, kZ195, jZ195⟩ := sp_403 (ν := ν) hZ191I (a1 := 9) (by omega) (a2 := 8) (by omega) (a3 := (w3 (-(Z191 2 0 0 3808)))) (by omega) (a4 := (-1)) (by omega) (zbh (c := 45) (k := 1) hM (Nat.le_of_ble_eq_true rfl))
                have hZ195U : zU [] Z Z195 := zU_t hZ191U jZ195 zU_b0
                have hZ195K : zC [2] Z Z195 := zC_t hZ191K kZ195 (by decide)
                replace hZ195I := zmt (c := 46) hZ195I rfl
                replace hP := zl_e hP hZ195
                refine wz_cV_of (zas (zcons rfl (zcons (zvi (show (9 : Int32) = i3 9 from rfl)) (zcons (zvi (show (8 : Int32) = i3 8 from rfl)) (zcons (zvi (i3W (i3G (zm_rd (Z := Z191) (ν := ν) (k := 2) (show ((0 : Nat) : Int) = 0 from rfl) (show ((0 : Nat) : Int) = 0 from rfl) (show ((3808 : Nat) : Int) = 3808 from rfl))))) (zcons (zvi (show (-1 : Int32) = i3 (-1) from rfl)) rfl))))) c9) ?_
                clear c9
                exact zlV hP ⟨(zmw (a := 46) (c := 53) hZ195I (Nat.le_of_ble_eq_true rfl)), hZ195K, hZ195U⟩
              · replace hP := zE_n hP h193
                obtain ⟨Z196, hZ196, c9, hZ196I, kZ196, jZ196⟩ := sp_403 (ν := ν) hZ191I (a1 := 8) (by omega) (a2 := 9) (by omega) (a3 := (Z191 2 0 0 3808)) (by omega) (a4 := (-1)) (by omega) (zbh (c := 45) (k := 1) hM (Nat.le_of_ble_eq_true rfl))
                have hZ196U : zU [] Z Z196 := zU_t hZ191U jZ196 zU_b0
                have hZ196K : zC [2] Z Z196 := zC_t hZ191K kZ196 (by decide)
                replace hZ196I := zmt (c := 46) hZ196I rfl
                replace hP := zl_e hP hZ196
                refine wz_cV_of (zas (zcons rfl (zcons (zvi (show (8 : Int32) = i3 8 from rfl)) (zcons (zvi (show (9 : Int32) = i3 9 from rfl)) (zcons (zvi (zm_rd (Z := Z191) (ν := ν) (k := 2) (show ((0 : Nat) : Int) = 0 from rfl) (show ((0 : Nat) : Int) = 0 from rfl) (show ((3808 : Nat) : Int) = 3808 from rfl))) (zcons (zvi (show (-1 : Int32) = i3 (-1) from rfl)) rfl))))) c9) ?_
                clear c9
                exact zlV hP ⟨(zmw (a := 46) (c := 53) hZ196I (Nat.le_of_ble_eq_true rfl)), hZ196K, hZ196U⟩
          · replace hP := zE_n hP h179
            obtain ⟨Z197, hZ197, c9, hZ197I, kZ197, jZ197⟩ := sp_403 (ν := ν) hZ177I (a1 := 6) (by omega) (a2 := 9) (by omega) (a3 := (Z177 2 0 0 3806)) (by omega) (a4 := (-1)) (by omega) (zbh (c := 43) (k := 1) hM (Nat.le_of_ble_eq_true rfl))
            have hZ197U : zU [] Z Z197 := zU_t hZ177U jZ197 zU_b0
            have hZ197K : zC [2] Z Z197 := zC_t hZ177K kZ197 (by decide)
            replace hZ197I := zmt (c := 44) hZ197I rfl
            replace hP := zl_e hP hZ197
            refine wz_cV_of (zas (zcons rfl (zcons (zvi (show (6 : Int32) = i3 6 from rfl)) (zcons (zvi (show (9 : Int32) = i3 9 from rfl)) (zcons (zvi (zm_rd (Z := Z177) (ν := ν) (k := 2) (show ((0 : Nat) : Int) = 0 from rfl) (show ((0 : Nat) : Int) = 0 from rfl) (show ((3806 : Nat) : Int) = 3806 from rfl))) (zcons (zvi (show (-1 : Int32) = i3 (-1) from rfl)) rfl))))) c9) ?_
            clear c9
            have r198 := zM_f hZ197I 2 0 0 3807
            refine wz_br (i3Le (zm_rd (Z := Z197) (ν := ν) (k := 2) (show ((0 : Nat) : Int) = 0 from rfl) (show ((0 : Nat) : Int) = 0 from rfl) (show ((3807 : Nat) : Int) = 3807 from rfl)) (show (0 : Int32) = i3 0 from rfl) (by omega) (by omega) (by omega) (by omega)) (fun h199 => ?_) (fun h199 => ?_)
            · replace hP := zE_p hP h199
              have r200 := w3_r (-(Z197 2 0 0 3807))
              obtain ⟨Z201, hZ201, c9, hZ201I, kZ201, jZ201⟩ := sp_403 (ν := ν) hZ197I (a1 := 9) (by omega) (a2 := 7) (by omega) (a3 := (w3 (-(Z197 2 0 0 3807)))) (by omega) (a4 := (-1)) (by omega) (zbh (c := 44) (k := 1) hM (Nat.le_of_ble_eq_true rfl))
              have hZ201U : zU [] Z Z201 := zU_t hZ197U jZ201 zU_b0
              have hZ201K : zC [2] Z Z201 := zC_t hZ197K kZ201 (by decide)
              replace hZ201I := zmt (c := 45) hZ201I rfl
              replace hP := zl_e hP hZ201
              refine wz_cV_of (zas (zcons rfl (zcons (zvi (show (9 : Int32) = i3 9 from rfl)) (zcons (zvi (show (7 : Int32) = i3 7 from rfl)) (zcons (zvi (i3W (i3G (zm_rd (Z := Z197) (ν := ν) (k := 2) (show ((0 : Nat) : Int) = 0 from rfl) (show ((0 : Nat) : Int) = 0 from rfl) (show ((3807 : Nat) : Int) = 3807 from rfl))))) (zcons (zvi (show (-1 : Int32) = i3 (-1) from rfl)) rfl))))) c9) ?_
              clear c9
              have r202 := zM_f hZ201I 2 0 0 3808
              refine wz_br (i3Le (zm_rd (Z := Z201) (ν := ν) (k := 2) (show ((0 : Nat) : Int) = 0 from rfl) (show ((0 : Nat) : Int) = 0 from rfl) (show ((3808 : Nat) : Int) = 3808 from rfl)) (show (0 : Int32) = i3 0 from rfl) (by omega) (by omega) (by omega) (by omega)) (fun h203 => ?_) (fun h203 => ?_)
              · replace hP := zE_p hP h203
                have r204 := w3_r (-(Z201 2 0 0 3808))
                obtain ⟨Z205, hZ205, c9, hZ205I, kZ205, jZ205⟩ := sp_403 (ν := ν) hZ201I (a1 := 9) (by omega) (a2 := 8) (by omega) (a3 := (w3 (-(Z201 2 0 0 3808)))) (by omega) (a4 := (-1)) (by omega) (zbh (c := 45) (k := 1) hM (Nat.le_of_ble_eq_true rfl))
                have hZ205U : zU [] Z Z205 := zU_t hZ201U jZ205 zU_b0
                have hZ205K : zC [2] Z Z205 := zC_t hZ201K kZ205 (by decide)
                replace hZ205I := zmt (c := 46) hZ205I rfl
                replace hP := zl_e hP hZ205
                refine wz_cV_of (zas (zcons rfl (zcons (zvi (show (9 : Int32) = i3 9 from rfl)) (zcons (zvi (show (8 : Int32) = i3 8 from rfl)) (zcons (zvi (i3W (i3G (zm_rd (Z := Z201) (ν := ν) (k := 2) (show ((0 : Nat) : Int) = 0 from rfl) (show ((0 : Nat) : Int) = 0 from rfl) (show ((3808 : Nat) : Int) = 3808 from rfl))))) (zcons (zvi (show (-1 : Int32) = i3 (-1) from rfl)) rfl))))) c9) ?_
                clear c9
                exact zlV hP ⟨(zmw (a := 46) (c := 53) hZ205I (Nat.le_of_ble_eq_true rfl)), hZ205K, hZ205U⟩
              · replace hP := zE_n hP h203
                obtain ⟨Z206, hZ206, c9, hZ206I, kZ206, jZ206⟩ := sp_403 (ν := ν) hZ201I (a1 := 8) (by omega) (a2 := 9) (by omega) (a3 := (Z201 2 0 0 3808)) (by omega) (a4 := (-1)) (by omega) (zbh (c := 45) (k := 1) hM (Nat.le_of_ble_eq_true rfl))
                have hZ206U : zU [] Z Z206 := zU_t hZ201U jZ206 zU_b0
                have hZ206K : zC [2] Z Z206 := zC_t hZ201K kZ206 (by decide)
                replace hZ206I := zmt (c := 46) hZ206I rfl
                replace hP := zl_e hP hZ206
                refine wz_cV_of (zas (zcons rfl (zcons (zvi (show (8 : Int32) = i3 8 from rfl)) (zcons (zvi (show (9 : Int32) = i3 9 from rfl)) (zcons (zvi (zm_rd (Z := Z201) (ν := ν) (k := 2) (show ((0 : Nat) : Int) = 0 from rfl) (show ((0 : Nat) : Int) = 0 from rfl) (show ((3808 : Nat) : Int) = 3808 from rfl))) (zcons (zvi (show (-1 : Int32) = i3 (-1) from rfl)) rfl))))) c9) ?_
                clear c9
                exact zlV hP ⟨(zmw (a := 46) (c := 53) hZ206I (Nat.le_of_ble_eq_true rfl)), hZ206K, hZ206U⟩
            · replace hP := zE_n hP h199
              obtain ⟨Z207, hZ207, c9, hZ207I, kZ207, jZ207⟩ := sp_403 (ν := ν) hZ197I (a1 := 7) (by omega) (a2 := 9) (by omega) (a3 := (Z197 2 0 0 3807)) (by omega) (a4 := (-1)) (by omega) (zbh (c := 44) (k := 1) hM (Nat.le_of_ble_eq_true rfl))
              have hZ207U : zU [] Z Z207 := zU_t hZ197U jZ207 zU_b0
              have hZ207K : zC [2] Z Z207 := zC_t hZ197K kZ207 (by decide)
              replace hZ207I := zmt (c := 45) hZ207I rfl
              replace hP := zl_e hP hZ207
              refine wz_cV_of (zas (zcons rfl (zcons (zvi (show (7 : Int32) = i3 7 from rfl)) (zcons (zvi (show (9 : Int32) = i3 9 from rfl)) (zcons (zvi (zm_rd (Z := Z197) (ν := ν) (k := 2) (show ((0 : Nat) : Int) = 0 from rfl) (show ((0 : Nat) : Int) = 0 from rfl) (show ((3807 : Nat) : Int) = 3807 from rfl))) (zcons (zvi (show (-1 : Int32) = i3 (-1) from rfl)) rfl))))) c9) ?_
              clear c9
              have r208 := zM_f hZ207I 2 0 0 3808
              refine wz_br (i3Le (zm_rd (Z := Z207) (ν := ν) (k := 2) (show ((0 : Nat) : Int) = 0 from rfl) (show ((0 : Nat) : Int) = 0 from rfl) (show ((3808 : Nat) : Int) = 3808 from rfl)) (show (0 : Int32) = i3 0 from rfl) (by omega) (by omega) (by omega) (by omega)) (fun h209 => ?_) (fun h209 => ?_)
              · replace hP := zE_p hP h209
                have r210 := w3_r (-(Z207 2 0 0 3808))
                obtain ⟨Z211, hZ211, c9, hZ211I, kZ211, jZ211⟩ := sp_403 (ν := ν) hZ207I (a1 := 9) (by omega) (a2 := 8) (by omega) (a3 := (w3 (-(Z207 2 0 0 3808)))) (by omega) (a4 := (-1)) (by omega) (zbh (c := 45) (k := 1) hM (Nat.le_of_ble_eq_true rfl))
                have hZ211U : zU [] Z Z211 := zU_t hZ207U jZ211 zU_b0
                have hZ211K : zC [2] Z Z211 := zC_t hZ207K kZ211 (by decide)
                replace hZ211I := zmt (c := 46) hZ211I rfl
                replace hP := zl_e hP hZ211
                refine wz_cV_of (zas (zcons rfl (zcons (zvi (show (9 : Int32) = i3 9 from rfl)) (zcons (zvi (show (8 : Int32) = i3 8 from rfl)) (zcons (zvi (i3W (i3G (zm_rd (Z := Z207) (ν := ν) (k := 2) (show ((0 : Nat) : Int) = 0 from rfl) (show ((0 : Nat) : Int) = 0 from rfl) (show ((3808 : Nat) : Int) = 3808 from rfl))))) (zcons (zvi (show (-1 : Int32) = i3 (-1) from rfl)) rfl))))) c9) ?_
                clear c9
                exact zlV hP ⟨(zmw (a := 46) (c := 53) hZ211I (Nat.le_of_ble_eq_true rfl)), hZ211K, hZ211U⟩
              · replace hP := zE_n hP h209
                obtain ⟨Z212, hZ212, c9, hZ212I, kZ212, jZ212⟩ := sp_403 (ν := ν) hZ207I (a1 := 8) (by omega) (a2 := 9) (by omega) (a3 := (Z207 2 0 0 3808)) (by omega) (a4 := (-1)) (by omega) (zbh (c := 45) (k := 1) hM (Nat.le_of_ble_eq_true rfl))
                have hZ212U : zU [] Z Z212 := zU_t hZ207U jZ212 zU_b0
                have hZ212K : zC [2] Z Z212 := zC_t hZ207K kZ212 (by decide)
                replace hZ212I := zmt (c := 46) hZ212I rfl
                replace hP := zl_e hP hZ212
                refine wz_cV_of (zas (zcons rfl (zcons (zvi (show (8 : Int32) = i3 8 from rfl)) (zcons (zvi (show (9 : Int32) = i3 9 from rfl)) (zcons (zvi (zm_rd (Z := Z207) (ν := ν) (k := 2) (show ((0 : Nat) : Int) = 0 from rfl) (show ((0 : Nat) : Int) = 0 from rfl) (show ((3808 : Nat) : Int) = 3808 from rfl))) (zcons (zvi (show (-1 : Int32) = i3 (-1) from rfl)) rfl))))) c9) ?_
                clear c9
                exact zlV hP ⟨(zmw (a := 46) (c := 53) hZ212I (Nat.le_of_ble_eq_true rfl)), hZ212K, hZ212U⟩
        · replace hP := zE_n hP h175
          obtain ⟨Z213, hZ213, c9, hZ213I, kZ213, jZ213⟩ := sp_403 (ν := ν) hZ173I (a1 := 5) (by omega) (a2 := 9) (by omega) (a3 := (Z173 2 0 0 3805)) (by omega) (a4 := (-1)) (by omega) (zbh (c := 42) (k := 1) hM (Nat.le_of_ble_eq_true rfl))
          have hZ213U : zU [] Z Z213 := zU_t hZ173U jZ213 zU_b0
          have hZ213K : zC [2] Z Z213 := zC_t hZ173K kZ213 (by decide)
          replace hZ213I := zmt (c := 43) hZ213I rfl
          replace hP := zl_e hP hZ213
          refine wz_cV_of (zas (zcons rfl (zcons (zvi (show (5 : Int32) = i3 5 from rfl)) (zcons (zvi (show (9 : Int32) = i3 9 from rfl)) (zcons (zvi (zm_rd (Z := Z173) (ν := ν) (k := 2) (show ((0 : Nat) : Int) = 0 from rfl) (show ((0 : Nat) : Int) = 0 from rfl) (show ((3805 : Nat) : Int) = 3805 from rfl))) (zcons (zvi (show (-1 : Int32) = i3 (-1) from rfl)) rfl))))) c9) ?_
          clear c9
          have r214 := zM_f hZ213I 2 0 0 3806
          refine wz_br (i3Le (zm_rd (Z := Z213) (ν := ν) (k := 2) (show ((0 : Nat) : Int) = 0 from rfl) (show ((0 : Nat) : Int) = 0 from rfl) (show ((3806 : Nat) : Int) = 3806 from rfl)) (show (0 : Int32) = i3 0 from rfl) (by omega) (by omega) (by omega) (by omega)) (fun h215 => ?_) (fun h215 => ?_)
          · replace hP := zE_p hP h215
            have r216 := w3_r (-(Z213 2 0 0 3806))
            obtain ⟨Z217, hZ217, c9, hZ217I, kZ217, jZ217⟩ := sp_403 (ν := ν) hZ213I (a1 := 9) (by omega) (a2 := 6) (by omega) (a3 := (w3 (-(Z213 2 0 0 3806)))) (by omega) (a4 := (-1)) (by omega) (zbh (c := 43) (k := 1) hM (Nat.le_of_ble_eq_true rfl))
            have hZ217U : zU [] Z Z217 := zU_t hZ213U jZ217 zU_b0
            have hZ217K : zC [2] Z Z217 := zC_t hZ213K kZ217 (by decide)
            replace hZ217I := zmt (c := 44) hZ217I rfl
            replace hP := zl_e hP hZ217
            refine wz_cV_of (zas (zcons rfl (zcons (zvi (show (9 : Int32) = i3 9 from rfl)) (zcons (zvi (show (6 : Int32) = i3 6 from rfl)) (zcons (zvi (i3W (i3G (zm_rd (Z := Z213) (ν := ν) (k := 2) (show ((0 : Nat) : Int) = 0 from rfl) (show ((0 : Nat) : Int) = 0 from rfl) (show ((3806 : Nat) : Int) = 3806 from rfl))))) (zcons (zvi (show (-1 : Int32) = i3 (-1) from rfl)) rfl))))) c9) ?_
            clear c9
            have r218 := zM_f hZ217I 2 0 0 3807
            refine wz_br (i3Le (zm_rd (Z := Z217) (ν := ν) (k := 2) (show ((0 : Nat) : Int) = 0 from rfl) (show ((0 : Nat) : Int) = 0 from rfl) (show ((3807 : Nat) : Int) = 3807 from rfl)) (show (0 : Int32) = i3 0 from rfl) (by omega) (by omega) (by omega) (by omega)) (fun h219 => ?_) (fun h219 => ?_)
            · replace hP := zE_p hP h219
              have r220 := w3_r (-(Z217 2 0 0 3807))
              obtain ⟨Z221, hZ221, c9, hZ221I, kZ221, jZ221⟩ := sp_403 (ν := ν) hZ217I (a1 := 9) (by omega) (a2 := 7) (by omega) (a3 := (w3 (-(Z217 2 0 0 3807)))) (by omega) (a4 := (-1)) (by omega) (zbh (c := 44) (k := 1) hM (Nat.le_of_ble_eq_true rfl))
              have hZ221U : zU [] Z Z221 := zU_t hZ217U jZ221 zU_b0
              have hZ221K : zC [2] Z Z221 := zC_t hZ217K kZ221 (by decide)
              replace hZ221I := zmt (c := 45) hZ221I rfl
              replace hP := zl_e hP hZ221
              refine wz_cV_of (zas (zcons rfl (zcons (zvi (show (9 : Int32) = i3 9 from rfl)) (zcons (zvi (show (7 : Int32) = i3 7 from rfl)) (zcons (zvi (i3W (i3G (zm_rd (Z := Z217) (ν := ν) (k := 2) (show ((0 : Nat) : Int) = 0 from rfl) (show ((0 : Nat) : Int) = 0 from rfl) (show ((3807 : Nat) : Int) = 3807 from rfl))))) (zcons (zvi (show (-1 : Int32) = i3 (-1) from rfl)) rfl))))) c9) ?_
              clear c9
              have r222 := zM_f hZ221I 2 0 0 3808
              refine wz_br (i3Le (zm_rd (Z := Z221) (ν := ν) (k := 2) (show ((0 : Nat) : Int) = 0 from rfl) (show ((0 : Nat) : Int) = 0 from rfl) (show ((3808 : Nat) : Int) = 3808 from rfl)) (show (0 : Int32) = i3 0 from rfl) (by omega) (by omega) (by omega) (by omega)) (fun h223 => ?_) (fun h223 => ?_)
              · replace hP := zE_p hP h223
                have r224 := w3_r (-(Z221 2 0 0 3808))
                obtain ⟨Z225, hZ225, c9, hZ225I, kZ225, jZ225⟩ := sp_403 (ν := ν) hZ221I (a1 := 9) (by omega) (a2 := 8) (by omega) (a3 := (w3 (-(Z221 2 0 0 3808)))) (by omega) (a4 := (-1)) (by omega) (zbh (c := 45) (k := 1) hM (Nat.le_of_ble_eq_true rfl))
                have hZ225U : zU [] Z Z225 := zU_t hZ221U jZ225 zU_b0
                have hZ225K : zC [2] Z Z225 := zC_t hZ221K kZ225 (by decide)
                replace hZ225I := zmt (c := 46) hZ225I rfl
                replace hP := zl_e hP hZ225
                refine wz_cV_of (zas (zcons rfl (zcons (zvi (show (9 : Int32) = i3 9 from rfl)) (zcons (zvi (show (8 : Int32) = i3 8 from rfl)) (zcons (zvi (i3W (i3G (zm_rd (Z := Z221) (ν := ν) (k := 2) (show ((0 : Nat) : Int) = 0 from rfl) (show ((0 : Nat) : Int) = 0 from rfl) (show ((3808 : Nat) : Int) = 3808 from rfl))))) (zcons (zvi (show (-1 : Int32) = i3 (-1) from rfl)) rfl))))) c9) ?_
                clear c9
                exact zlV hP ⟨(zmw (a := 46) (c := 53) hZ225I (Nat.le_of_ble_eq_true rfl)), hZ225K, hZ225U⟩
              · replace hP := zE_n hP h223
                obtain ⟨Z226, hZ226, c9, hZ226I, kZ226, jZ226⟩ := sp_403 (ν := ν) hZ221I (a1 := 8) (by omega) (a2 := 9) (by omega) (a3 := (Z221 2 0 0 3808)) (by omega) (a4 := (-1)) (by omega) (zbh (c := 45) (k := 1) hM (Nat.le_of_ble_eq_true rfl))
                have hZ226U : zU [] Z Z226 := zU_t hZ221U jZ226 zU_b0
                have hZ226K : zC [2] Z Z226 := zC_t hZ221K kZ226 (by decide)
                replace hZ226I := zmt (c := 46) hZ226I rfl
                replace hP := zl_e hP hZ226
                refine wz_cV_of (zas (zcons rfl (zcons (zvi (show (8 : Int32) = i3 8 from rfl)) (zcons (zvi (show (9 : Int32) = i3 9 from rfl)) (zcons (zvi (zm_rd (Z := Z221) (ν := ν) (k := 2) (show ((0 : Nat) : Int) = 0 from rfl) (show ((0 : Nat) : Int) = 0 from rfl) (show ((3808 : Nat) : Int) = 3808 from rfl))) (zcons (zvi (show (-1 : Int32) = i3 (-1) from rfl)) rfl))))) c9) ?_
                clear c9
                exact zlV hP ⟨(zmw (a := 46) (c := 53) hZ226I (Nat.le_of_ble_eq_true rfl)), hZ226K, hZ226U⟩
            · replace hP := zE_n hP h219
              obtain ⟨Z227, hZ227, c9, hZ227I, kZ227, jZ227⟩ := sp_403 (ν := ν) hZ217I (a1 := 7) (by omega) (a2 := 9) (by omega) (a3 := (Z217 2 0 0 3807)) (by omega) (a4 := (-1)) (by omega) (zbh (c := 44) (k := 1) hM (Nat.le_of_ble_eq_true rfl))
              have hZ227U : zU [] Z Z227 := zU_t hZ217U jZ227 zU_b0
              have hZ227K : zC [2] Z Z227 := zC_t hZ217K kZ227 (by decide)
              replace hZ227I := zmt (c := 45) hZ227I rfl
              replace hP := zl_e hP hZ227
              refine wz_cV_of (zas (zcons rfl (zcons (zvi (show (7 : Int32) = i3 7 from rfl)) (zcons (zvi (show (9 : Int32) = i3 9 from rfl)) (zcons (zvi (zm_rd (Z := Z217) (ν := ν) (k := 2) (show ((0 : Nat) : Int) = 0 from rfl) (show ((0 : Nat) : Int) = 0 from rfl) (show ((3807 : Nat) : Int) = 3807 from rfl))) (zcons (zvi (show (-1 : Int32) = i3 (-1) from rfl)) rfl))))) c9) ?_
              clear c9
              have r228 := zM_f hZ227I 2 0 0 3808
              refine wz_br (i3Le (zm_rd (Z := Z227) (ν := ν) (k := 2) (show ((0 : Nat) : Int) = 0 from rfl) (show ((0 : Nat) : Int) = 0 from rfl) (show ((3808 : Nat) : Int) = 3808 from rfl)) (show (0 : Int32) = i3 0 from rfl) (by omega) (by omega) (by omega) (by omega)) (fun h229 => ?_) (fun h229 => ?_)
              · replace hP := zE_p hP h229
                have r230 := w3_r (-(Z227 2 0 0 3808))
                obtain ⟨Z231, hZ231, c9, hZ231I, kZ231, jZ231⟩ := sp_403 (ν := ν) hZ227I (a1 := 9) (by omega) (a2 := 8) (by omega) (a3 := (w3 (-(Z227 2 0 0 3808)))) (by omega) (a4 := (-1)) (by omega) (zbh (c := 45) (k := 1) hM (Nat.le_of_ble_eq_true rfl))
                have hZ231U : zU [] Z Z231 := zU_t hZ227U jZ231 zU_b0
                have hZ231K : zC [2] Z Z231 := zC_t hZ227K kZ231 (by decide)
                replace hZ231I := zmt (c := 46) hZ231I rfl
                replace hP := zl_e hP hZ231
                refine wz_cV_of (zas (zcons rfl (zcons (zvi (show (9 : Int32) = i3 9 from rfl)) (zcons (zvi (show (8 : Int32) = i3 8 from rfl)) (zcons (zvi (i3W (i3G (zm_rd (Z := Z227) (ν := ν) (k := 2) (show ((0 : Nat) : Int) = 0 from rfl) (show ((0 : Nat) : Int) = 0 from rfl) (show ((3808 : Nat) : Int) = 3808 from rfl))))) (zcons (zvi (show (-1 : Int32) = i3 (-1) from rfl)) rfl))))) c9) ?_
                clear c9
                exact zlV hP ⟨(zmw (a := 46) (c := 53) hZ231I (Nat.le_of_ble_eq_true rfl)), hZ231K, hZ231U⟩
              · replace hP := zE_n hP h229
                obtain ⟨Z232, hZ232, c9, hZ232I, kZ232, jZ232⟩ := sp_403 (ν := ν) hZ227I (a1 := 8) (by omega) (a2 := 9) (by omega) (a3 := (Z227 2 0 0 3808)) (by omega) (a4 := (-1)) (by omega) (zbh (c := 45) (k := 1) hM (Nat.le_of_ble_eq_true rfl))
                have hZ232U : zU [] Z Z232 := zU_t hZ227U jZ232 zU_b0
                have hZ232K : zC [2] Z Z232 := zC_t hZ227K kZ232 (by decide)
                replace hZ232I := zmt (c := 46) hZ232I rfl
                replace hP := zl_e hP hZ232
                refine wz_cV_of (zas (zcons rfl (zcons (zvi (show (8 : Int32) = i3 8 from rfl)) (zcons (zvi (show (9 : Int32) = i3 9 from rfl)) (zcons (zvi (zm_rd (Z := Z227) (ν := ν) (k := 2) (show ((0 : Nat) : Int) = 0 from rfl) (show ((0 : Nat) : Int) = 0 from rfl) (show ((3808 : Nat) : Int) = 3808 from rfl))) (zcons (zvi (show (-1 : Int32) = i3 (-1) from rfl)) rfl))))) c9) ?_
                clear c9
                exact zlV hP ⟨(zmw (a := 46) (c := 53) hZ232I (Nat.le_of_ble_eq_true rfl)), hZ232K, hZ232U⟩
          · replace hP := zE_n hP h215
            obtain ⟨Z233, hZ233, c9, hZ233I, kZ233, jZ233⟩ := sp_403 (ν := ν) hZ213I (a1 := 6) (by omega) (a2 := 9) (by omega) (a3 := (Z213 2 0 0 3806)) (by omega) (a4 := (-1)) (by omega) (zbh (c := 43) (k := 1) hM (Nat.le_of_ble_eq_true rfl))
            have hZ233U : zU [] Z Z233 := zU_t hZ213U jZ233 zU_b0
            have hZ233K : zC [2] Z Z233 := zC_t hZ213K kZ233 (by decide)
            replace hZ233I := zmt (c := 44) hZ233I rfl
            replace hP := zl_e hP hZ233
            refine wz_cV_of (zas (zcons rfl (zcons (zvi (show (6 : Int32) = i3 6 from rfl)) (zcons (zvi (show (9 : Int32) = i3 9 from rfl)) (zcons (zvi (zm_rd (Z := Z213) (ν := ν) (k := 2) (show ((0 : Nat) : Int) = 0 from rfl) (show ((0 : Nat) : Int) = 0 from rfl) (show ((3806 : Nat) : Int) = 3806 from rfl))) (zcons (zvi (show (-1 : Int32) = i3 (-1) from rfl)) rfl))))) c9) ?_
            clear c9
            have r234 := zM_f hZ233I 2 0 0 3807
            refine wz_br (i3Le (zm_rd (Z := Z233) (ν := ν) (k := 2) (show ((0 : Nat) : Int) = 0 from rfl) (show ((0 : Nat) : Int) = 0 from rfl) (show ((3807 : Nat) : Int) = 3807 from rfl)) (show (0 : Int32) = i3 0 from rfl) (by omega) (by omega) (by omega) (by omega)) (fun h235 => ?_) (fun h235 => ?_)
            · replace hP := zE_p hP h235
              have r236 := w3_r (-(Z233 2 0 0 3807))
              obtain ⟨Z237, hZ237, c9, hZ237I, kZ237, jZ237⟩ := sp_403 (ν := ν) hZ233I (a1 := 9) (by omega) (a2 := 7) (by omega) (a3 := (w3 (-(Z233 2 0 0 3807)))) (by omega) (a4 := (-1)) (by omega) (zbh (c := 44) (k := 1) hM (Nat.le_of_ble_eq_true rfl))
              have hZ237U : zU [] Z Z237 := zU_t hZ233U jZ237 zU_b0
              have hZ237K : zC [2] Z Z237 := zC_t hZ233K kZ237 (by decide)
              replace hZ237I := zmt (c := 45) hZ237I rfl
              replace hP := zl_e hP hZ237
              refine wz_cV_of (zas (zcons rfl (zcons (zvi (show (9 : Int32) = i3 9 from rfl)) (zcons (zvi (show (7 : Int32) = i3 7 from rfl)) (zcons (zvi (i3W (i3G (zm_rd (Z := Z233) (ν := ν) (k := 2) (show ((0 : Nat) : Int) = 0 from rfl) (show ((0 : Nat) : Int) = 0 from rfl) (show ((3807 : Nat) : Int) = 3807 from rfl))))) (zcons (zvi (show (-1 : Int32) = i3 (-1) from rfl)) rfl))))) c9) ?_
              clear c9
              have r238 := zM_f hZ237I 2 0 0 3808
              refine wz_br (i3Le (zm_rd (Z := Z237) (ν := ν) (k := 2) (show ((0 : Nat) : Int) = 0 from rfl) (show ((0 : Nat) : Int) = 0 from rfl) (show ((3808 : Nat) : Int) = 3808 from rfl)) (show (0 : Int32) = i3 0 from rfl) (by omega) (by omega) (by omega) (by omega)) (fun h239 => ?_) (fun h239 => ?_)
              · replace hP := zE_p hP h239
                have r240 := w3_r (-(Z237 2 0 0 3808))
                obtain ⟨Z241, hZ241, c9, hZ241I, kZ241, jZ241⟩ := sp_403 (ν := ν) hZ237I (a1 := 9) (by omega) (a2 := 8) (by omega) (a3 := (w3 (-(Z237 2 0 0 3808)))) (by omega) (a4 := (-1)) (by omega) (zbh (c := 45) (k := 1) hM (Nat.le_of_ble_eq_true rfl))
                have hZ241U : zU [] Z Z241 := zU_t hZ237U jZ241 zU_b0
                have hZ241K : zC [2] Z Z241 := zC_t hZ237K kZ241 (by decide)
                replace hZ241I := zmt (c := 46) hZ241I rfl
                replace hP := zl_e hP hZ241
                refine wz_cV_of (zas (zcons rfl (zcons (zvi (show (9 : Int32) = i3 9 from rfl)) (zcons (zvi (show (8 : Int32) = i3 8 from rfl)) (zcons (zvi (i3W (i3G (zm_rd (Z := Z237) (ν := ν) (k := 2) (show ((0 : Nat) : Int) = 0 from rfl) (show ((0 : Nat) : Int) = 0 from rfl) (show ((3808 : Nat) : Int) = 3808 from rfl))))) (zcons (zvi (show (-1 : Int32) = i3 (-1) from rfl)) rfl))))) c9) ?_
                clear c9
                exact zlV hP ⟨(zmw (a := 46) (c := 53) hZ241I (Nat.le_of_ble_eq_true rfl)), hZ241K, hZ241U⟩
              · replace hP := zE_n hP h239
                obtain ⟨Z242, hZ242, c9, hZ242I, kZ242, jZ242⟩ := sp_403 (ν := ν) hZ237I (a1 := 8) (by omega) (a2 := 9) (by omega) (a3 := (Z237 2 0 0 3808)) (by omega) (a4 := (-1)) (by omega) (zbh (c := 45) (k := 1) hM (Nat.le_of_ble_eq_true rfl))
                have hZ242U : zU [] Z Z242 := zU_t hZ237U jZ242 zU_b0
                have hZ242K : zC [2] Z Z242 := zC_t hZ237K kZ242 (by decide)
                replace hZ242I := zmt (c := 46) hZ242I rfl
                replace hP := zl_e hP hZ242
                refine wz_cV_of (zas (zcons rfl (zcons (zvi (show (8 : Int32) = i3 8 from rfl)) (zcons (zvi (show (9 : Int32) = i3 9 from rfl)) (zcons (zvi (zm_rd (Z := Z237) (ν := ν) (k := 2) (show ((0 : Nat) : Int) = 0 from rfl) (show ((0 : Nat) : Int) = 0 from rfl) (show ((3808 : Nat) : Int) = 3808 from rfl))) (zcons (zvi (show (-1 : Int32) = i3 (-1) from rfl)) rfl))))) c9) ?_
                clear c9
                exact zlV hP ⟨(zmw (a := 46) (c := 53) hZ242I (Nat.le_of_ble_eq_true rfl)), hZ242K, hZ242U⟩
            · replace hP := zE_n hP h235
              obtain ⟨Z243, hZ243, c9, hZ243I, kZ243, jZ243⟩ := sp_403 (ν := ν) hZ233I (a1 := 7) (by omega) (a2 := 9) (by omega) (a3 := (Z233 2 0 0 3807)) (by omega) (a4 := (-1)) (by omega) (zbh (c := 44) (k := 1) hM (Nat.le_of_ble_eq_true rfl))
              have hZ243U : zU [] Z Z243 := zU_t hZ233U jZ243 zU_b0
              have hZ243K : zC [2] Z Z243 := zC_t hZ233K kZ243 (by decide)
              replace hZ243I := zmt (c := 45) hZ243I rfl
              replace hP := zl_e hP hZ243
              refine wz_cV_of (zas (zcons rfl (zcons (zvi (show (7 : Int32) = i3 7 from rfl)) (zcons (zvi (show (9 : Int32) = i3 9 from rfl)) (zcons (zvi (zm_rd (Z := Z233) (ν := ν) (k := 2) (show ((0 : Nat) : Int) = 0 from rfl) (show ((0 : Nat) : Int) = 0 from rfl) (show ((3807 : Nat) : Int) = 3807 from rfl))) (zcons (zvi (show (-1 : Int32) = i3 (-1) from rfl)) rfl))))) c9) ?_
              clear c9
              have r244 := zM_f hZ243I 2 0 0 3808
              refine wz_br (i3Le (zm_rd (Z := Z243) (ν := ν) (k := 2) (show ((0 : Nat) : Int) = 0 from rfl) (show ((0 : Nat) : Int) = 0 from rfl) (show ((3808 : Nat) : Int) = 3808 from rfl)) (show (0 : Int32) = i3 0 from rfl) (by omega) (by omega) (by omega) (by omega)) (fun h245 => ?_) (fun h245 => ?_)
              · replace hP := zE_p hP h245
                have r246 := w3_r (-(Z243 2 0 0 3808))
                obtain ⟨Z247, hZ247, c9, hZ247I, kZ247, jZ247⟩ := sp_403 (ν := ν) hZ243I (a1 := 9) (by omega) (a2 := 8) (by omega) (a3 := (w3 (-(Z243 2 0 0 3808)))) (by omega) (a4 := (-1)) (by omega) (zbh (c := 45) (k := 1) hM (Nat.le_of_ble_eq_true rfl))
                have hZ247U : zU [] Z Z247 := zU_t hZ243U jZ247 zU_b0
                have hZ247K : zC [2] Z Z247 := zC_t hZ243K kZ247 (by decide)
                replace hZ247I := zmt (c := 46) hZ247I rfl
                replace hP := zl_e hP hZ247
                refine wz_cV_of (zas (zcons rfl (zcons (zvi (show (9 : Int32) = i3 9 from rfl)) (zcons (zvi (show (8 : Int32) = i3 8 from rfl)) (zcons (zvi (i3W (i3G (zm_rd (Z := Z243) (ν := ν) (k := 2) (show ((0 : Nat) : Int) = 0 from rfl) (show ((0 : Nat) : Int) = 0 from rfl) (show ((3808 : Nat) : Int) = 3808 from rfl))))) (zcons (zvi (show (-1 : Int32) = i3 (-1) from rfl)) rfl))))) c9) ?_
                clear c9
                exact zlV hP ⟨(zmw (a := 46) (c := 53) hZ247I (Nat.le_of_ble_eq_true rfl)), hZ247K, hZ247U⟩
              · replace hP := zE_n hP h245
                obtain ⟨Z248, hZ248, c9, hZ248I, kZ248, jZ248⟩ := sp_403 (ν := ν) hZ243I (a1 := 8) (by omega) (a2 := 9) (by omega) (a3 := (Z243 2 0 0 3808)) (by omega) (a4 := (-1)) (by omega) (zbh (c := 45) (k := 1) hM (Nat.le_of_ble_eq_true rfl))
                have hZ248U : zU [] Z Z248 := zU_t hZ243U jZ248 zU_b0
                have hZ248K : zC [2] Z Z248 := zC_t hZ243K kZ248 (by decide)
                replace hZ248I := zmt (c := 46) hZ248I rfl
                replace hP := zl_e hP hZ248
                refine wz_cV_of (zas (zcons rfl (zcons (zvi (show (8 : Int32) = i3 8 from rfl)) (zcons (zvi (show (9 : Int32) = i3 9 from rfl)) (zcons (zvi (zm_rd (Z := Z243) (ν := ν) (k := 2) (show ((0 : Nat) : Int) = 0 from rfl) (show ((0 : Nat) : Int) = 0 from rfl) (show ((3808 : Nat) : Int) = 3808 from rfl))) (zcons (zvi (show (-1 : Int32) = i3 (-1) from rfl)) rfl))))) c9) ?_
                clear c9
                exact zlV hP ⟨(zmw (a := 46) (c := 53) hZ248I (Nat.le_of_ble_eq_true rfl)), hZ248K, hZ248U⟩
      · replace hP := zE_n hP h171
        obtain ⟨Z249, hZ249, c9, hZ249I, kZ249, jZ249⟩ := sp_403 (ν := ν) hZ169I (a1 := 4) (by omega) (a2 := 9) (by omega) (a3 := (Z169 2 0 0 3804)) (by omega) (a4 := (-1)) (by omega) (zbh (c := 41) (k := 1) hM (Nat.le_of_ble_eq_true rfl))
        have hZ249U : zU [] Z Z249 := zU_t hZ169U jZ249 zU_b0
        have hZ249K : zC [2] Z Z249 := zC_t hZ169K kZ249 (by decide)
        replace hZ249I := zmt (c := 42) hZ249I rfl
        replace hP := zl_e hP hZ249
        refine wz_cV_of (zas (zcons rfl (zcons (zvi (show (4 : Int32) = i3 4 from rfl)) (zcons (zvi (show (9 : Int32) = i3 9 from rfl)) (zcons (zvi (zm_rd (Z := Z169) (ν := ν) (k := 2) (show ((0 : Nat) : Int) = 0 from rfl) (show ((0 : Nat) : Int) = 0 from rfl) (show ((3804 : Nat) : Int) = 3804 from rfl))) (zcons (zvi (show (-1 : Int32) = i3 (-1) from rfl)) rfl))))) c9) ?_
        clear c9
        have r250 := zM_f hZ249I 2 0 0 3805
        refine wz_br (i3Le (zm_rd (Z := Z249) (ν := ν) (k := 2) (show ((0 : Nat) : Int) = 0 from rfl) (show ((0 : Nat) : Int) = 0 from rfl) (show ((3805 : Nat) : Int) = 3805 from rfl)) (show (0 : Int32) = i3 0 from rfl) (by omega) (by omega) (by omega) (by omega)) (fun h251 => ?_) (fun h251 => ?_)
        · replace hP := zE_p hP h251
          have r252 := w3_r (-(Z249 2 0 0 3805))
          obtain ⟨Z253, hZ253, c9, hZ253I, kZ253, jZ253⟩ := sp_403 (ν := ν) hZ249I (a1 := 9) (by omega) (a2 := 5) (by omega) (a3 := (w3 (-(Z249 2 0 0 3805)))) (by omega) (a4 := (-1)) (by omega) (zbh (c := 42) (k := 1) hM (Nat.le_of_ble_eq_true rfl))
          have hZ253U : zU [] Z Z253 := zU_t hZ249U jZ253 zU_b0
          have hZ253K : zC [2] Z Z253 := zC_t hZ249K kZ253 (by decide)
          replace hZ253I := zmt (c := 43) hZ253I rfl
          replace hP := zl_e hP hZ253
          refine wz_cV_of (zas (zcons rfl (zcons (zvi (show (9 : Int32) = i3 9 from rfl)) (zcons (zvi (show (5 : Int32) = i3 5 from rfl)) (zcons (zvi (i3W (i3G (zm_rd (Z := Z249) (ν := ν) (k := 2) (show ((0 : Nat) : Int) = 0 from rfl) (show ((0 : Nat) : Int) = 0 from rfl) (show ((3805 : Nat) : Int) = 3805 from rfl))))) (zcons (zvi (show (-1 : Int32) = i3 (-1) from rfl)) rfl))))) c9) ?_
          clear c9
          have r254 := zM_f hZ253I 2 0 0 3806
          refine wz_br (i3Le (zm_rd (Z := Z253) (ν := ν) (k := 2) (show ((0 : Nat) : Int) = 0 from rfl) (show ((0 : Nat) : Int) = 0 from rfl) (show ((3806 : Nat) : Int) = 3806 from rfl)) (show (0 : Int32) = i3 0 from rfl) (by omega) (by omega) (by omega) (by omega)) (fun h255 => ?_) (fun h255 => ?_)
          · replace hP := zE_p hP h255
            have r256 := w3_r (-(Z253 2 0 0 3806))
            obtain ⟨Z257, hZ257, c9, hZ257I, kZ257, jZ257⟩ := sp_403 (ν := ν) hZ253I (a1 := 9) (by omega) (a2 := 6) (by omega) (a3 := (w3 (-(Z253 2 0 0 3806)))) (by omega) (a4 := (-1)) (by omega) (zbh (c := 43) (k := 1) hM (Nat.le_of_ble_eq_true rfl))
            have hZ257U : zU [] Z Z257 := zU_t hZ253U jZ257 zU_b0
            have hZ257K : zC [2] Z Z257 := zC_t hZ253K kZ257 (by decide)
            replace hZ257I := zmt (c := 44) hZ257I rfl
            replace hP := zl_e hP hZ257
            refine wz_cV_of (zas (zcons rfl (zcons (zvi (show (9 : Int32) = i3 9 from rfl)) (zcons (zvi (show (6 : Int32) = i3 6 from rfl)) (zcons (zvi (i3W (i3G (zm_rd (Z := Z253) (ν := ν) (k := 2) (show ((0 : Nat) : Int) = 0 from rfl) (show ((0 : Nat) : Int) = 0 from rfl) (show ((3806 : Nat) : Int) = 3806 from rfl))))) (zcons (zvi (show (-1 : Int32) = i3 (-1) from rfl)) rfl))))) c9) ?_
            clear c9
            have r258 := zM_f hZ257I 2 0 0 3807
            refine wz_br (i3Le (zm_rd (Z := Z257) (ν := ν) (k := 2) (show ((0 : Nat) : Int) = 0 from rfl) (show ((0 : Nat) : Int) = 0 from rfl) (show ((3807 : Nat) : Int) = 3807 from rfl)) (show (0 : Int32) = i3 0 from rfl) (by omega) (by omega) (by omega) (by omega)) (fun h259 => ?_) (fun h259 => ?_)
            · replace hP := zE_p hP h259
              have r260 := w3_r (-(Z257 2 0 0 3807))
              obtain ⟨Z261, hZ261, c9, hZ261I, kZ261, jZ261⟩ := sp_403 (ν := ν) hZ257I (a1 := 9) (by omega) (a2 := 7) (by omega) (a3 := (w3 (-(Z257 2 0 0 3807)))) (by omega) (a4 := (-1)) (by omega) (zbh (c := 44) (k := 1) hM (Nat.le_of_ble_eq_true rfl))
              have hZ261U : zU [] Z Z261 := zU_t hZ257U jZ261 zU_b0
              have hZ261K : zC [2] Z Z261 := zC_t hZ257K kZ261 (by decide)
              replace hZ261I := zmt (c := 45) hZ261I rfl
              replace hP := zl_e hP hZ261
              refine wz_cV_of (zas (zcons rfl (zcons (zvi (show (9 : Int32) = i3 9 from rfl)) (zcons (zvi (show (7 : Int32) = i3 7 from rfl)) (zcons (zvi (i3W (i3G (zm_rd (Z := Z257) (ν := ν) (k := 2) (show ((0 : Nat) : Int) = 0 from rfl) (show ((0 : Nat) : Int) = 0 from rfl) (show ((3807 : Nat) : Int) = 3807 from rfl))))) (zcons (zvi (show (-1 : Int32) = i3 (-1) from rfl)) rfl))))) c9) ?_
              clear c9
              have r262 := zM_f hZ261I 2 0 0 3808
              refine wz_br (i3Le (zm_rd (Z := Z261) (ν := ν) (k := 2) (show ((0 : Nat) : Int) = 0 from rfl) (show ((0 : Nat) : Int) = 0 from rfl) (show ((3808 : Nat) : Int) = 3808 from rfl)) (show (0 : Int32) = i3 0 from rfl) (by omega) (by omega) (by omega) (by omega)) (fun h263 => ?_) (fun h263 => ?_)
              · replace hP := zE_p hP h263
                have r264 := w3_r (-(Z261 2 0 0 3808))
                obtain ⟨Z265, hZ265, c9, hZ265I, kZ265, jZ265⟩ := sp_403 (ν := ν) hZ261I (a1 := 9) (by omega) (a2 := 8) (by omega) (a3 := (w3 (-(Z261 2 0 0 3808)))) (by omega) (a4 := (-1)) (by omega) (zbh (c := 45) (k := 1) hM (Nat.le_of_ble_eq_true rfl))
                have hZ265U : zU [] Z Z265 := zU_t hZ261U jZ265 zU_b0
                have hZ265K : zC [2] Z Z265 := zC_t hZ261K kZ265 (by decide)
                replace hZ265I := zmt (c := 46) hZ265I rfl
                replace hP := zl_e hP hZ265
                refine wz_cV_of (zas (zcons rfl (zcons (zvi (show (9 : Int32) = i3 9 from rfl)) (zcons (zvi (show (8 : Int32) = i3 8 from rfl)) (zcons (zvi (i3W (i3G (zm_rd (Z := Z261) (ν := ν) (k := 2) (show ((0 : Nat) : Int) = 0 from rfl) (show ((0 : Nat) : Int) = 0 from rfl) (show ((3808 : Nat) : Int) = 3808 from rfl))))) (zcons (zvi (show (-1 : Int32) = i3 (-1) from rfl)) rfl))))) c9) ?_
                clear c9
                exact zlV hP ⟨(zmw (a := 46) (c := 53) hZ265I (Nat.le_of_ble_eq_true rfl)), hZ265K, hZ265U⟩
              · replace hP := zE_n hP h263
                obtain ⟨Z266, hZ266, c9, hZ266I, kZ266, jZ266⟩ := sp_403 (ν := ν) hZ261I (a1 := 8) (by omega) (a2 := 9) (by omega) (a3 := (Z261 2 0 0 3808)) (by omega) (a4 := (-1)) (by omega) (zbh (c := 45) (k := 1) hM (Nat.le_of_ble_eq_true rfl))
                have hZ266U : zU [] Z Z266 := zU_t hZ261U jZ266 zU_b0
                have hZ266K : zC [2] Z Z266 := zC_t hZ261K kZ266 (by decide)
                replace hZ266I := zmt (c := 46) hZ266I rfl
                replace hP := zl_e hP hZ266
                refine wz_cV_of (zas (zcons rfl (zcons (zvi (show (8 : Int32) = i3 8 from rfl)) (zcons (zvi (show (9 : Int32) = i3 9 from rfl)) (zcons (zvi (zm_rd (Z := Z261) (ν := ν) (k := 2) (show ((0 : Nat) : Int) = 0 from rfl) (show ((0 : Nat) : Int) = 0 from rfl) (show ((3808 : Nat) : Int) = 3808 from rfl))) (zcons (zvi (show (-1 : Int32) = i3 (-1) from rfl)) rfl))))) c9) ?_
                clear c9
                exact zlV hP ⟨(zmw (a := 46) (c := 53) hZ266I (Nat.le_of_ble_eq_true rfl)), hZ266K, hZ266U⟩
            · replace hP := zE_n hP h259
              obtain ⟨Z267, hZ267, c9, hZ267I, kZ267, jZ267⟩ := sp_403 (ν := ν) hZ257I (a1 := 7) (by omega) (a2 := 9) (by omega) (a3 := (Z257 2 0 0 3807)) (by omega) (a4 := (-1)) (by omega) (zbh (c := 44) (k := 1) hM (Nat.le_of_ble_eq_true rfl))
              have hZ267U : zU [] Z Z267 := zU_t hZ257U jZ267 zU_b0
              have hZ267K : zC [2] Z Z267 := zC_t hZ257K kZ267 (by decide)
              replace hZ267I := zmt (c := 45) hZ267I rfl
              replace hP := zl_e hP hZ267
              refine wz_cV_of (zas (zcons rfl (zcons (zvi (show (7 : Int32) = i3 7 from rfl)) (zcons (zvi (show (9 : Int32) = i3 9 from rfl)) (zcons (zvi (zm_rd (Z := Z257) (ν := ν) (k := 2) (show ((0 : Nat) : Int) = 0 from rfl) (show ((0 : Nat) : Int) = 0 from rfl) (show ((3807 : Nat) : Int) = 3807 from rfl))) (zcons (zvi (show (-1 : Int32) = i3 (-1) from rfl)) rfl))))) c9) ?_
              clear c9
              have r268 := zM_f hZ267I 2 0 0 3808
              refine wz_br (i3Le (zm_rd (Z := Z267) (ν := ν) (k := 2) (show ((0 : Nat) : Int) = 0 from rfl) (show ((0 : Nat) : Int) = 0 from rfl) (show ((3808 : Nat) : Int) = 3808 from rfl)) (show (0 : Int32) = i3 0 from rfl) (by omega) (by omega) (by omega) (by omega)) (fun h269 => ?_) (fun h269 => ?_)
              · replace hP := zE_p hP h269
                have r270 := w3_r (-(Z267 2 0 0 3808))
                obtain ⟨Z271, hZ271, c9, hZ271I, kZ271, jZ271⟩ := sp_403 (ν := ν) hZ267I (a1 := 9) (by omega) (a2 := 8) (by omega) (a3 := (w3 (-(Z267 2 0 0 3808)))) (by omega) (a4 := (-1)) (by omega) (zbh (c := 45) (k := 1) hM (Nat.le_of_ble_eq_true rfl))
                have hZ271U : zU [] Z Z271 := zU_t hZ267U jZ271 zU_b0
                have hZ271K : zC [2] Z Z271 := zC_t hZ267K kZ271 (by decide)
                replace hZ271I := zmt (c := 46) hZ271I rfl
                replace hP := zl_e hP hZ271
                refine wz_cV_of (zas (zcons rfl (zcons (zvi (show (9 : Int32) = i3 9 from rfl)) (zcons (zvi (show (8 : Int32) = i3 8 from rfl)) (zcons (zvi (i3W (i3G (zm_rd (Z := Z267) (ν := ν) (k := 2) (show ((0 : Nat) : Int) = 0 from rfl) (show ((0 : Nat) : Int) = 0 from rfl) (show ((3808 : Nat) : Int) = 3808 from rfl))))) (zcons (zvi (show (-1 : Int32) = i3 (-1) from rfl)) rfl))))) c9) ?_
                clear c9
                exact zlV hP ⟨(zmw (a := 46) (c := 53) hZ271I (Nat.le_of_ble_eq_true rfl)), hZ271K, hZ271U⟩
              · replace hP := zE_n hP h269
                obtain ⟨Z272, hZ272, c9, hZ272I, kZ272, jZ272⟩ := sp_403 (ν := ν) hZ267I (a1 := 8) (by omega) (a2 := 9) (by omega) (a3 := (Z267 2 0 0 3808)) (by omega) (a4 := (-1)) (by omega) (zbh (c := 45) (k := 1) hM (Nat.le_of_ble_eq_true rfl))
                have hZ272U : zU [] Z Z272 := zU_t hZ267U jZ272 zU_b0
                have hZ272K : zC [2] Z Z272 := zC_t hZ267K kZ272 (by decide)
                replace hZ272I := zmt (c := 46) hZ272I rfl
                replace hP := zl_e hP hZ272
                refine wz_cV_of (zas (zcons rfl (zcons (zvi (show (8 : Int32) = i3 8 from rfl)) (zcons (zvi (show (9 : Int32) = i3 9 from rfl)) (zcons (zvi (zm_rd (Z := Z267) (ν := ν) (k := 2) (show ((0 : Nat) : Int) = 0 from rfl) (show ((0 : Nat) : Int) = 0 from rfl) (show ((3808 : Nat) : Int) = 3808 from rfl))) (zcons (zvi (show (-1 : Int32) = i3 (-1) from rfl)) rfl))))) c9) ?_
                clear c9
                exact zlV hP ⟨(zmw (a := 46) (c := 53) hZ272I (Nat.le_of_ble_eq_true rfl)), hZ272K, hZ272U⟩
          · replace hP := zE_n hP h255
            obtain ⟨Z273, hZ273, c9, hZ273I, kZ273, jZ273⟩ := sp_403 (ν := ν) hZ253I (a1 := 6) (by omega) (a2 := 9) (by omega) (a3 := (Z253 2 0 0 3806)) (by omega) (a4 := (-1)) (by omega) (zbh (c := 43) (k := 1) hM (Nat.le_of_ble_eq_true rfl))
            have hZ273U : zU [] Z Z273 := zU_t hZ253U jZ273 zU_b0
            have hZ273K : zC [2] Z Z273 := zC_t hZ253K kZ273 (by decide)
            replace hZ273I := zmt (c := 44) hZ273I rfl
            replace hP := zl_e hP hZ273
            refine wz_cV_of (zas (zcons rfl (zcons (zvi (show (6 : Int32) = i3 6 from rfl)) (zcons (zvi (show (9 : Int32) = i3 9 from rfl)) (zcons (zvi (zm_rd (Z := Z253) (ν := ν) (k := 2) (show ((0 : Nat) : Int) = 0 from rfl) (show ((0 : Nat) : Int) = 0 from rfl) (show ((3806 : Nat) : Int) = 3806 from rfl))) (zcons (zvi (show (-1 : Int32) = i3 (-1) from rfl)) rfl))))) c9) ?_
            clear c9
            have r274 := zM_f hZ273I 2 0 0 3807
            refine wz_br (i3Le (zm_rd (Z := Z273) (ν := ν) (k := 2) (show ((0 : Nat) : Int) = 0 from rfl) (show ((0 : Nat) : Int) = 0 from rfl) (show ((3807 : Nat) : Int) = 3807 from rfl)) (show (0 : Int32) = i3 0 from rfl) (by omega) (by omega) (by omega) (by omega)) (fun h275 => ?_) (fun h275 => ?_)
            · replace hP := zE_p hP h275
              have r276 := w3_r (-(Z273 2 0 0 3807))
              obtain ⟨Z277, hZ277, c9, hZ277I, kZ277, jZ277⟩ := sp_403 (ν := ν) hZ273I (a1 := 9) (by omega) (a2 := 7) (by omega) (a3 := (w3 (-(Z273 2 0 0 3807)))) (by omega) (a4 := (-1)) (by omega) (zbh (c := 44) (k := 1) hM (Nat.le_of_ble_eq_true rfl))
              have hZ277U : zU [] Z Z277 := zU_t hZ273U jZ277 zU_b0
              have hZ277K : zC [2] Z Z277 := zC_t hZ273K kZ277 (by decide)
              replace hZ277I := zmt (c := 45) hZ277I rfl
              replace hP := zl_e hP hZ277
              refine wz_cV_of (zas (zcons rfl (zcons (zvi (show (9 : Int32) = i3 9 from rfl)) (zcons (zvi (show (7 : Int32) = i3 7 from rfl)) (zcons (zvi (i3W (i3G (zm_rd (Z := Z273) (ν := ν) (k := 2) (show ((0 : Nat) : Int) = 0 from rfl) (show ((0 : Nat) : Int) = 0 from rfl) (show ((3807 : Nat) : Int) = 3807 from rfl))))) (zcons (zvi (show (-1 : Int32) = i3 (-1) from rfl)) rfl))))) c9) ?_
              clear c9
              have r278 := zM_f hZ277I 2 0 0 3808
              refine wz_br (i3Le (zm_rd (Z := Z277) (ν := ν) (k := 2) (show ((0 : Nat) : Int) = 0 from rfl) (show ((0 : Nat) : Int) = 0 from rfl) (show ((3808 : Nat) : Int) = 3808 from rfl)) (show (0 : Int32) = i3 0 from rfl) (by omega) (by omega) (by omega) (by omega)) (fun h279 => ?_) (fun h279 => ?_)
              · replace hP := zE_p hP h279
                have r280 := w3_r (-(Z277 2 0 0 3808))
                obtain ⟨Z281, hZ281, c9, hZ281I, kZ281, jZ281⟩ := sp_403 (ν := ν) hZ277I (a1 := 9) (by omega) (a2 := 8) (by omega) (a3 := (w3 (-(Z277 2 0 0 3808)))) (by omega) (a4 := (-1)) (by omega) (zbh (c := 45) (k := 1) hM (Nat.le_of_ble_eq_true rfl))
                have hZ281U : zU [] Z Z281 := zU_t hZ277U jZ281 zU_b0
                have hZ281K : zC [2] Z Z281 := zC_t hZ277K kZ281 (by decide)
                replace hZ281I := zmt (c := 46) hZ281I rfl
                replace hP := zl_e hP hZ281
                refine wz_cV_of (zas (zcons rfl (zcons (zvi (show (9 : Int32) = i3 9 from rfl)) (zcons (zvi (show (8 : Int32) = i3 8 from rfl)) (zcons (zvi (i3W (i3G (zm_rd (Z := Z277) (ν := ν) (k := 2) (show ((0 : Nat) : Int) = 0 from rfl) (show ((0 : Nat) : Int) = 0 from rfl) (show ((3808 : Nat) : Int) = 3808 from rfl))))) (zcons (zvi (show (-1 : Int32) = i3 (-1) from rfl)) rfl))))) c9) ?_
                clear c9
                exact zlV hP ⟨(zmw (a := 46) (c := 53) hZ281I (Nat.le_of_ble_eq_true rfl)), hZ281K, hZ281U⟩
              · replace hP := zE_n hP h279
                obtain ⟨Z282, hZ282, c9, hZ282I, kZ282, jZ282⟩ := sp_403 (ν := ν) hZ277I (a1 := 8) (by omega) (a2 := 9) (by omega) (a3 := (Z277 2 0 0 3808)) (by omega) (a4 := (-1)) (by omega) (zbh (c := 45) (k := 1) hM (Nat.le_of_ble_eq_true rfl))
                have hZ282U : zU [] Z Z282 := zU_t hZ277U jZ282 zU_b0
                have hZ282K : zC [2] Z Z282 := zC_t hZ277K kZ282 (by decide)
                replace hZ282I := zmt (c := 46) hZ282I rfl
                replace hP := zl_e hP hZ282
                refine wz_cV_of (zas (zcons rfl (zcons (zvi (show (8 : Int32) = i3 8 from rfl)) (zcons (zvi (show (9 : Int32) = i3 9 from rfl)) (zcons (zvi (zm_rd (Z := Z277) (ν := ν) (k := 2) (show ((0 : Nat) : Int) = 0 from rfl) (show ((0 : Nat) : Int) = 0 from rfl) (show ((3808 : Nat) : Int) = 3808 from rfl))) (zcons (zvi (show (-1 : Int32) = i3 (-1) from rfl)) rfl))))) c9) ?_
                clear c9
                exact zlV hP ⟨(zmw (a := 46) (c := 53) hZ282I (Nat.le_of_ble_eq_true rfl)), hZ282K, hZ282U⟩
            · replace hP := zE_n hP h275
              obtain ⟨Z283, hZ283, c9, hZ283I, kZ283, jZ283⟩ := sp_403 (ν := ν) hZ273I (a1 := 7) (by omega) (a2 := 9) (by omega) (a3 := (Z273 2 0 0 3807)) (by omega) (a4 := (-1)) (by omega) (zbh (c := 44) (k := 1) hM (Nat.le_of_ble_eq_true rfl))
              have hZ283U : zU [] Z Z283 := zU_t hZ273U jZ283 zU_b0
              have hZ283K : zC [2] Z Z283 := zC_t hZ273K kZ283 (by decide)
              replace hZ283I := zmt (c := 45) hZ283I rfl
              replace hP := zl_e hP hZ283
              refine wz_cV_of (zas (zcons rfl (zcons (zvi (show (7 : Int32) = i3 7 from rfl)) (zcons (zvi (show (9 : Int32) = i3 9 from rfl)) (zcons (zvi (zm_rd (Z := Z273) (ν := ν) (k := 2) (show ((0 : Nat) : Int) = 0 from rfl) (show ((0 : Nat) : Int) = 0 from rfl) (show ((3807 : Nat) : Int) = 3807 from rfl))) (zcons (zvi (show (-1 : Int32) = i3 (-1) from rfl)) rfl))))) c9) ?_
              clear c9
              have r284 := zM_f hZ283I 2 0 0 3808
              refine wz_br (i3Le (zm_rd (Z := Z283) (ν := ν) (k := 2) (show ((0 : Nat) : Int) = 0 from rfl) (show ((0 : Nat) : Int) = 0 from rfl) (show ((3808 : Nat) : Int) = 3808 from rfl)) (show (0 : Int32) = i3 0 from rfl) (by omega) (by omega) (by omega) (by omega)) (fun h285 => ?_) (fun h285 => ?_)
              · replace hP := zE_p hP h285
                have r286 := w3_r (-(Z283 2 0 0 3808))
                obtain ⟨Z287, hZ287, c9, hZ287I, kZ287, jZ287⟩ := sp_403 (ν := ν) hZ283I (a1 := 9) (by omega) (a2 := 8) (by omega) (a3 := (w3 (-(Z283 2 0 0 3808)))) (by omega) (a4 := (-1)) (by omega) (zbh (c := 45) (k := 1) hM (Nat.le_of_ble_eq_true rfl))
                have hZ287U : zU [] Z Z287 := zU_t hZ283U jZ287 zU_b0
                have hZ287K : zC [2] Z Z287 := zC_t hZ283K kZ287 (by decide)
                replace hZ287I := zmt (c := 46) hZ287I rfl
                replace hP := zl_e hP hZ287
                refine wz_cV_of (zas (zcons rfl (zcons (zvi (show (9 : Int32) = i3 9 from rfl)) (zcons (zvi (show (8 : Int32) = i3 8 from rfl)) (zcons (zvi (i3W (i3G (zm_rd (Z := Z283) (ν := ν) (k := 2) (show ((0 : Nat) : Int) = 0 from rfl) (show ((0 : Nat) : Int) = 0 from rfl) (show ((3808 : Nat) : Int) = 3808 from rfl))))) (zcons (zvi (show (-1 : Int32) = i3 (-1) from rfl)) rfl))))) c9) ?_
                clear c9
                exact zlV hP ⟨(zmw (a := 46) (c := 53) hZ287I (Nat.le_of_ble_eq_true rfl)), hZ287K, hZ287U⟩
              · replace hP := zE_n hP h285
                obtain ⟨Z288, hZ288, c9, hZ288I, kZ288, jZ288⟩ := sp_403 (ν := ν) hZ283I (a1 := 8) (by omega) (a2 := 9) (by omega) (a3 := (Z283 2 0 0 3808)) (by omega) (a4 := (-1)) (by omega) (zbh (c := 45) (k := 1) hM (Nat.le_of_ble_eq_true rfl))
                have hZ288U : zU [] Z Z288 := zU_t hZ283U jZ288 zU_b0
                have hZ288K : zC [2] Z Z288 := zC_t hZ283K kZ288 (by decide)
                replace hZ288I := zmt (c := 46) hZ288I rfl
                replace hP := zl_e hP hZ288
                refine wz_cV_of (zas (zcons rfl (zcons (zvi (show (8 : Int32) = i3 8 from rfl)) (zcons (zvi (show (9 : Int32) = i3 9 from rfl)) (zcons (zvi (zm_rd (Z := Z283) (ν := ν) (k := 2) (show ((0 : Nat) : Int) = 0 from rfl) (show ((0 : Nat) : Int) = 0 from rfl) (show ((3808 : Nat) : Int) = 3808 from rfl))) (zcons (zvi (show (-1 : Int32) = i3 (-1) from rfl)) rfl))))) c9) ?_
                clear c9
                exact zlV hP ⟨(zmw (a := 46) (c := 53) hZ288I (Nat.le_of_ble_eq_true rfl)), hZ288K, hZ288U⟩
        · replace hP := zE_n hP h251
          obtain ⟨Z289, hZ289, c9, hZ289I, kZ289, jZ289⟩ := sp_403 (ν := ν) hZ249I (a1 := 5) (by omega) (a2 := 9) (by omega) (a3 := (Z249 2 0 0 3805)) (by omega) (a4 := (-1)) (by omega) (zbh (c := 42) (k := 1) hM (Nat.le_of_ble_eq_true rfl))
          have hZ289U : zU [] Z Z289 := zU_t hZ249U jZ289 zU_b0
          have hZ289K : zC [2] Z Z289 := zC_t hZ249K kZ289 (by decide)
          replace hZ289I := zmt (c := 43) hZ289I rfl
          replace hP := zl_e hP hZ289
          refine wz_cV_of (zas (zcons rfl (zcons (zvi (show (5 : Int32) = i3 5 from rfl)) (zcons (zvi (show (9 : Int32) = i3 9 from rfl)) (zcons (zvi (zm_rd (Z := Z249) (ν := ν) (k := 2) (show ((0 : Nat) : Int) = 0 from rfl) (show ((0 : Nat) : Int) = 0 from rfl) (show ((3805 : Nat) : Int) = 3805 from rfl))) (zcons (zvi (show (-1 : Int32) = i3 (-1) from rfl)) rfl))))) c9) ?_
          clear c9
          have r290 := zM_f hZ289I 2 0 0 3806
          refine wz_br (i3Le (zm_rd (Z := Z289) (ν := ν) (k := 2) (show ((0 : Nat) : Int) = 0 from rfl) (show ((0 : Nat) : Int) = 0 from rfl) (show ((3806 : Nat) : Int) = 3806 from rfl)) (show (0 : Int32) = i3 0 from rfl) (by omega) (by omega) (by omega) (by omega)) (fun h291 => ?_) (fun h291 => ?_)
          · replace hP := zE_p hP h291
            have r292 := w3_r (-(Z289 2 0 0 3806))
            obtain ⟨Z293, hZ293, c9, hZ293I, kZ293, jZ293⟩ := sp_403 (ν := ν) hZ289I (a1 := 9) (by omega) (a2 := 6) (by omega) (a3 := (w3 (-(Z289 2 0 0 3806)))) (by omega) (a4 := (-1)) (by omega) (zbh (c := 43) (k := 1) hM (Nat.le_of_ble_eq_true rfl))
            have hZ293U : zU [] Z Z293 := zU_t hZ289U jZ293 zU_b0
            have hZ293K : zC [2] Z Z293 := zC_t hZ289K kZ293 (by decide)
            replace hZ293I := zmt (c := 44) hZ293I rfl
            replace hP := zl_e hP hZ293
            refine wz_cV_of (zas (zcons rfl (zcons (zvi (show (9 : Int32) = i3 9 from rfl)) (zcons (zvi (show (6 : Int32) = i3 6 from rfl)) (zcons (zvi (i3W (i3G (zm_rd (Z := Z289) (ν := ν) (k := 2) (show ((0 : Nat) : Int) = 0 from rfl) (show ((0 : Nat) : Int) = 0 from rfl) (show ((3806 : Nat) : Int) = 3806 from rfl))))) (zcons (zvi (show (-1 : Int32) = i3 (-1) from rfl)) rfl))))) c9) ?_
            clear c9
            have r294 := zM_f hZ293I 2 0 0 3807
            refine wz_br (i3Le (zm_rd (Z := Z293) (ν := ν) (k := 2) (show ((0 : Nat) : Int) = 0 from rfl) (show ((0 : Nat) : Int) = 0 from rfl) (show ((3807 : Nat) : Int) = 3807 from rfl)) (show (0 : Int32) = i3 0 from rfl) (by omega) (by omega) (by omega) (by omega)) (fun h295 => ?_) (fun h295 => ?_)
            · replace hP := zE_p hP h295
              have r296 := w3_r (-(Z293 2 0 0 3807))
              obtain ⟨Z297, hZ297, c9, hZ297I, kZ297, jZ297⟩ := sp_403 (ν := ν) hZ293I (a1 := 9) (by omega) (a2 := 7) (by omega) (a3 := (w3 (-(Z293 2 0 0 3807)))) (by omega) (a4 := (-1)) (by omega) (zbh (c := 44) (k := 1) hM (Nat.le_of_ble_eq_true rfl))
              have hZ297U : zU [] Z Z297 := zU_t hZ293U jZ297 zU_b0
              have hZ297K : zC [2] Z Z297 := zC_t hZ293K kZ297 (by decide)
              replace hZ297I := zmt (c := 45) hZ297I rfl
              replace hP := zl_e hP hZ297
              refine wz_cV_of (zas (zcons rfl (zcons (zvi (show (9 : Int32) = i3 9 from rfl)) (zcons (zvi (show (7 : Int32) = i3 7 from rfl)) (zcons (zvi (i3W (i3G (zm_rd (Z := Z293) (ν := ν) (k := 2) (show ((0 : Nat) : Int) = 0 from rfl) (show ((0 : Nat) : Int) = 0 from rfl) (show ((3807 : Nat) : Int) = 3807 from rfl))))) (zcons (zvi (show (-1 : Int32) = i3 (-1) from rfl)) rfl))))) c9) ?_
              clear c9
              have r298 := zM_f hZ297I 2 0 0 3808
              refine wz_br (i3Le (zm_rd (Z := Z297) (ν := ν) (k := 2) (show ((0 : Nat) : Int) = 0 from rfl) (show ((0 : Nat) : Int) = 0 from rfl) (show ((3808 : Nat) : Int) = 3808 from rfl)) (show (0 : Int32) = i3 0 from rfl) (by omega) (by omega) (by omega) (by omega)) (fun h299 => ?_) (fun h299 => ?_)
              · replace hP := zE_p hP h299
                have r300 := w3_r (-(Z297 2 0 0 3808))
                obtain ⟨Z301, hZ301, c9, hZ301I, kZ301, jZ301⟩ := sp_403 (ν := ν) hZ297I (a1 := 9) (by omega) (a2 := 8) (by omega) (a3 := (w3 (-(Z297 2 0 0 3808)))) (by omega) (a4 := (-1)) (by omega) (zbh (c := 45) (k := 1) hM (Nat.le_of_ble_eq_true rfl))
                have hZ301U : zU [] Z Z301 := zU_t hZ297U jZ301 zU_b0
                have hZ301K : zC [2] Z Z301 := zC_t hZ297K kZ301 (by decide)
                replace hZ301I := zmt (c := 46) hZ301I rfl
                replace hP := zl_e hP hZ301
                refine wz_cV_of (zas (zcons rfl (zcons (zvi (show (9 : Int32) = i3 9 from rfl)) (zcons (zvi (show (8 : Int32) = i3 8 from rfl)) (zcons (zvi (i3W (i3G (zm_rd (Z := Z297) (ν := ν) (k := 2) (show ((0 : Nat) : Int) = 0 from rfl) (show ((0 : Nat) : Int) = 0 from rfl) (show ((3808 : Nat) : Int) = 3808 from rfl))))) (zcons (zvi (show (-1 : Int32) = i3 (-1) from rfl)) rfl))))) c9) ?_
                clear c9
                exact zlV hP ⟨(zmw (a := 46) (c := 53) hZ301I (Nat.le_of_ble_eq_true rfl)), hZ301K, hZ301U⟩
              · replace hP := zE_n hP h299
                obtain ⟨Z302, hZ302, c9, hZ302I, kZ302, jZ302⟩ := sp_403 (ν := ν) hZ297I (a1 := 8) (by omega) (a2 := 9) (by omega) (a3 := (Z297 2 0 0 3808)) (by omega) (a4 := (-1)) (by omega) (zbh (c := 45) (k := 1) hM (Nat.le_of_ble_eq_true rfl))
                have hZ302U : zU [] Z Z302 := zU_t hZ297U jZ302 zU_b0
                have hZ302K : zC [2] Z Z302 := zC_t hZ297K kZ302 (by decide)
                replace hZ302I := zmt (c := 46) hZ302I rfl
                replace hP := zl_e hP hZ302
                refine wz_cV_of (zas (zcons rfl (zcons (zvi (show (8 : Int32) = i3 8 from rfl)) (zcons (zvi (show (9 : Int32) = i3 9 from rfl)) (zcons (zvi (zm_rd (Z := Z297) (ν := ν) (k := 2) (show ((0 : Nat) : Int) = 0 from rfl) (show ((0 : Nat) : Int) = 0 from rfl) (show ((3808 : Nat) : Int) = 3808 from rfl))) (zcons (zvi (show (-1 : Int32) = i3 (-1) from rfl)) rfl))))) c9) ?_
                clear c9
                exact zlV hP ⟨(zmw (a := 46) (c := 53) hZ302I (Nat.le_of_ble_eq_true rfl)), hZ302K, hZ302U⟩
            · replace hP := zE_n hP h295
              obtain ⟨Z303, hZ303, c9, hZ303I, kZ303, jZ303⟩ := sp_403 (ν := ν) hZ293I (a1 := 7) (by omega) (a2 := 9) (by omega) (a3 := (Z293 2 0 0 3807)) (by omega) (a4 := (-1)) (by omega) (zbh (c := 44) (k := 1) hM (Nat.le_of_ble_eq_true rfl))
              have hZ303U : zU [] Z Z303 := zU_t hZ293U jZ303 zU_b0
              have hZ303K : zC [2] Z Z303 := zC_t hZ293K kZ303 (by decide)
              replace hZ303I := zmt (c := 45) hZ303I rfl
              replace hP := zl_e hP hZ303
              refine wz_cV_of (zas (zcons rfl (zcons (zvi (show (7 : Int32) = i3 7 from rfl)) (zcons (zvi (show (9 : Int32) = i3 9 from rfl)) (zcons (zvi (zm_rd (Z := Z293) (ν := ν) (k := 2) (show ((0 : Nat) : Int) = 0 from rfl) (show ((0 : Nat) : Int) = 0 from rfl) (show ((3807 : Nat) : Int) = 3807 from rfl))) (zcons (zvi (show (-1 : Int32) = i3 (-1) from rfl)) rfl))))) c9) ?_
              clear c9
              have r304 := zM_f hZ303I 2 0 0 3808
              refine wz_br (i3Le (zm_rd (Z := Z303) (ν := ν) (k := 2) (show ((0 : Nat) : Int) = 0 from rfl) (show ((0 : Nat) : Int) = 0 from rfl) (show ((3808 : Nat) : Int) = 3808 from rfl)) (show (0 : Int32) = i3 0 from rfl) (by omega) (by omega) (by omega) (by omega)) (fun h305 => ?_) (fun h305 => ?_)
              · replace hP := zE_p hP h305
                have r306 := w3_r (-(Z303 2 0 0 3808))
                obtain ⟨Z307, hZ307, c9, hZ307I, kZ307, jZ307⟩ := sp_403 (ν := ν) hZ303I (a1 := 9) (by omega) (a2 := 8) (by omega) (a3 := (w3 (-(Z303 2 0 0 3808)))) (by omega) (a4 := (-1)) (by omega) (zbh (c := 45) (k := 1) hM (Nat.le_of_ble_eq_true rfl))
                have hZ307U : zU [] Z Z307 := zU_t hZ303U jZ307 zU_b0
                have hZ307K : zC [2] Z Z307 := zC_t hZ303K kZ307 (by decide)
                replace hZ307I := zmt (c := 46) hZ307I rfl
                replace hP := zl_e hP hZ307
                refine wz_cV_of (zas (zcons rfl (zcons (zvi (show (9 : Int32) = i3 9 from rfl)) (zcons (zvi (show (8 : Int32) = i3 8 from rfl)) (zcons (zvi (i3W (i3G (zm_rd (Z := Z303) (ν := ν) (k := 2) (show ((0 : Nat) : Int) = 0 from rfl) (show ((0 : Nat) : Int) = 0 from rfl) (show ((3808 : Nat) : Int) = 3808 from rfl))))) (zcons (zvi (show (-1 : Int32) = i3 (-1) from rfl)) rfl))))) c9) ?_
                clear c9
                exact zlV hP ⟨(zmw (a := 46) (c := 53) hZ307I (Nat.le_of_ble_eq_true rfl)), hZ307K, hZ307U⟩
              · replace hP := zE_n hP h305
                obtain ⟨Z308, hZ308, c9, hZ308I, kZ308, jZ308⟩ := sp_403 (ν := ν) hZ303I (a1 := 8) (by omega) (a2 := 9) (by omega) (a3 := (Z303 2 0 0 3808)) (by omega) (a4 := (-1)) (by omega) (zbh (c := 45) (k := 1) hM (Nat.le_of_ble_eq_true rfl))
                have hZ308U : zU [] Z Z308 := zU_t hZ303U jZ308 zU_b0
                have hZ308K : zC [2] Z Z308 := zC_t hZ303K kZ308 (by decide)
                replace hZ308I := zmt (c := 46) hZ308I rfl
                replace hP := zl_e hP hZ308
                refine wz_cV_of (zas (zcons rfl (zcons (zvi (show (8 : Int32) = i3 8 from rfl)) (zcons (zvi (show (9 : Int32) = i3 9 from rfl)) (zcons (zvi (zm_rd (Z := Z303) (ν := ν) (k := 2) (show ((0 : Nat) : Int) = 0 from rfl) (show ((0 : Nat) : Int) = 0 from rfl) (show ((3808 : Nat) : Int) = 3808 from rfl))) (zcons (zvi (show (-1 : Int32) = i3 (-1) from rfl)) rfl))))) c9) ?_
                clear c9
                exact zlV hP ⟨(zmw (a := 46) (c := 53) hZ308I (Nat.le_of_ble_eq_true rfl)), hZ308K, hZ308U⟩
          · replace hP := zE_n hP h291
            obtain ⟨Z309, hZ309, c9, hZ309I, kZ309, jZ309⟩ := sp_403 (ν := ν) hZ289I (a1 := 6) (by omega) (a2 := 9) (by omega) (a3 := (Z289 2 0 0 3806)) (by omega) (a4 := (-1)) (by omega) (zbh (c := 43) (k := 1) hM (Nat.le_of_ble_eq_true rfl))
            have hZ309U : zU [] Z Z309 := zU_t hZ289U jZ309 zU_b0
            have hZ309K : zC [2] Z Z309 := zC_t hZ289K kZ309 (by decide)
            replace hZ309I := zmt (c := 44) hZ309I rfl
            replace hP := zl_e hP hZ309
            refine wz_cV_of (zas (zcons rfl (zcons (zvi (show (6 : Int32) = i3 6 from rfl)) (zcons (zvi (show (9 : Int32) = i3 9 from rfl)) (zcons (zvi (zm_rd (Z := Z289) (ν := ν) (k := 2) (show ((0 : Nat) : Int) = 0 from rfl) (show ((0 : Nat) : Int) = 0 from rfl) (show ((3806 : Nat) : Int) = 3806 from rfl))) (zcons (zvi (show (-1 : Int32) = i3 (-1) from rfl)) rfl))))) c9) ?_
            clear c9
            have r310 := zM_f hZ309I 2 0 0 3807
            refine wz_br (i3Le (zm_rd (Z := Z309) (ν := ν) (k := 2) (show ((0 : Nat) : Int) = 0 from rfl) (show ((0 : Nat) : Int) = 0 from rfl) (show ((3807 : Nat) : Int) = 3807 from rfl)) (show (0 : Int32) = i3 0 from rfl) (by omega) (by omega) (by omega) (by omega)) (fun h311 => ?_) (fun h311 => ?_)
            · replace hP := zE_p hP h311
              have r312 := w3_r (-(Z309 2 0 0 3807))
              obtain ⟨Z313, hZ313, c9, hZ313I, kZ313, jZ313⟩ := sp_403 (ν := ν) hZ309I (a1 := 9) (by omega) (a2 := 7) (by omega) (a3 := (w3 (-(Z309 2 0 0 3807)))) (by omega) (a4 := (-1)) (by omega) (zbh (c := 44) (k := 1) hM (Nat.le_of_ble_eq_true rfl))
              have hZ313U : zU [] Z Z313 := zU_t hZ309U jZ313 zU_b0
              have hZ313K : zC [2] Z Z313 := zC_t hZ309K kZ313 (by decide)
              replace hZ313I := zmt (c := 45) hZ313I rfl
              replace hP := zl_e hP hZ313
              refine wz_cV_of (zas (zcons rfl (zcons (zvi (show (9 : Int32) = i3 9 from rfl)) (zcons (zvi (show (7 : Int32) = i3 7 from rfl)) (zcons (zvi (i3W (i3G (zm_rd (Z := Z309) (ν := ν) (k := 2) (show ((0 : Nat) : Int) = 0 from rfl) (show ((0 : Nat) : Int) = 0 from rfl) (show ((3807 : Nat) : Int) = 3807 from rfl))))) (zcons (zvi (show (-1 : Int32) = i3 (-1) from rfl)) rfl))))) c9) ?_
              clear c9
              have r314 := zM_f hZ313I 2 0 0 3808
              refine wz_br (i3Le (zm_rd (Z := Z313) (ν := ν) (k := 2) (show ((0 : Nat) : Int) = 0 from rfl) (show ((0 : Nat) : Int) = 0 from rfl) (show ((3808 : Nat) : Int) = 3808 from rfl)) (show (0 : Int32) = i3 0 from rfl) (by omega) (by omega) (by omega) (by omega)) (fun h315 => ?_) (fun h315 => ?_)
              · replace hP := zE_p hP h315
                have r316 := w3_r (-(Z313 2 0 0 3808))
                obtain ⟨Z317, hZ317, c9, hZ317I, kZ317, jZ317⟩ := sp_403 (ν := ν) hZ313I (a1 := 9) (by omega) (a2 := 8) (by omega) (a3 := (w3 (-(Z313 2 0 0 3808)))) (by omega) (a4 := (-1)) (by omega) (zbh (c := 45) (k := 1) hM (Nat.le_of_ble_eq_true rfl))
                have hZ317U : zU [] Z Z317 := zU_t hZ313U jZ317 zU_b0
                have hZ317K : zC [2] Z Z317 := zC_t hZ313K kZ317 (by decide)
                replace hZ317I := zmt (c := 46) hZ317I rfl
                replace hP := zl_e hP hZ317
                refine wz_cV_of (zas (zcons rfl (zcons (zvi (show (9 : Int32) = i3 9 from rfl)) (zcons (zvi (show (8 : Int32) = i3 8 from rfl)) (zcons (zvi (i3W (i3G (zm_rd (Z := Z313) (ν := ν) (k := 2) (show ((0 : Nat) : Int) = 0 from rfl) (show ((0 : Nat) : Int) = 0 from rfl) (show ((3808 : Nat) : Int) = 3808 from rfl))))) (zcons (zvi (show (-1 : Int32) = i3 (-1) from rfl)) rfl))))) c9) ?_
                clear c9
                exact zlV hP ⟨(zmw (a := 46) (c := 53) hZ317I (Nat.le_of_ble_eq_true rfl)), hZ317K, hZ317U⟩
              · replace hP := zE_n hP h315
                obtain ⟨Z318, hZ318, c9, hZ318I, kZ318, jZ318⟩ := sp_403 (ν := ν) hZ313I (a1 := 8) (by omega) (a2 := 9) (by omega) (a3 := (Z313 2 0 0 3808)) (by omega) (a4 := (-1)) (by omega) (zbh (c := 45) (k := 1) hM (Nat.le_of_ble_eq_true rfl))
                have hZ318U : zU [] Z Z318 := zU_t hZ313U jZ318 zU_b0
                have hZ318K : zC [2] Z Z318 := zC_t hZ313K kZ318 (by decide)
                replace hZ318I := zmt (c := 46) hZ318I rfl
                replace hP := zl_e hP hZ318
                refine wz_cV_of (zas (zcons rfl (zcons (zvi (show (8 : Int32) = i3 8 from rfl)) (zcons (zvi (show (9 : Int32) = i3 9 from rfl)) (zcons (zvi (zm_rd (Z := Z313) (ν := ν) (k := 2) (show ((0 : Nat) : Int) = 0 from rfl) (show ((0 : Nat) : Int) = 0 from rfl) (show ((3808 : Nat) : Int) = 3808 from rfl))) (zcons (zvi (show (-1 : Int32) = i3 (-1) from rfl)) rfl))))) c9) ?_
                clear c9
                exact zlV hP ⟨(zmw (a := 46) (c := 53) hZ318I (Nat.le_of_ble_eq_true rfl)), hZ318K, hZ318U⟩
            · replace hP := zE_n hP h311
              obtain ⟨Z319, hZ319, c9, hZ319I, kZ319, jZ319⟩ := sp_403 (ν := ν) hZ309I (a1 := 7) (by omega) (a2 := 9) (by omega) (a3 := (Z309 2 0 0 3807)) (by omega) (a4 := (-1)) (by omega) (zbh (c := 44) (k := 1) hM (Nat.le_of_ble_eq_true rfl))
              have hZ319U : zU [] Z Z319 := zU_t hZ309U jZ319 zU_b0
              have hZ319K : zC [2] Z Z319 := zC_t hZ309K kZ319 (by decide)
              replace hZ319I := zmt (c := 45) hZ319I rfl
              replace hP := zl_e hP hZ319
              refine wz_cV_of (zas (zcons rfl (zcons (zvi (show (7 : Int32) = i3 7 from rfl)) (zcons (zvi (show (9 : Int32) = i3 9 from rfl)) (zcons (zvi (zm_rd (Z := Z309) (ν := ν) (k := 2) (show ((0 : Nat) : Int) = 0 from rfl) (show ((0 : Nat) : Int) = 0 from rfl) (show ((3807 : Nat) : Int) = 3807 from rfl))) (zcons (zvi (show (-1 : Int32) = i3 (-1) from rfl)) rfl))))) c9) ?_
              clear c9
              have r320 := zM_f hZ319I 2 0 0 3808
              refine wz_br (i3Le (zm_rd (Z := Z319) (ν := ν) (k := 2) (show ((0 : Nat) : Int) = 0 from rfl) (show ((0 : Nat) : Int) = 0 from rfl) (show ((3808 : Nat) : Int) = 3808 from rfl)) (show (0 : Int32) = i3 0 from rfl) (by omega) (by omega) (by omega) (by omega)) (fun h321 => ?_) (fun h321 => ?_)
              · replace hP := zE_p hP h321
                have r322 := w3_r (-(Z319 2 0 0 3808))
                obtain ⟨Z323, hZ323, c9, hZ323I, kZ323, jZ323⟩ := sp_403 (ν := ν) hZ319I (a1 := 9) (by omega) (a2 := 8) (by omega) (a3 := (w3 (-(Z319 2 0 0 3808)))) (by omega) (a4 := (-1)) (by omega) (zbh (c := 45) (k := 1) hM (Nat.le_of_ble_eq_true rfl))
                have hZ323U : zU [] Z Z323 := zU_t hZ319U jZ323 zU_b0
                have hZ323K : zC [2] Z Z323 := zC_t hZ319K kZ323 (by decide)
                replace hZ323I := zmt (c := 46) hZ323I rfl
                replace hP := zl_e hP hZ323
                refine wz_cV_of (zas (zcons rfl (zcons (zvi (show (9 : Int32) = i3 9 from rfl)) (zcons (zvi (show (8 : Int32) = i3 8 from rfl)) (zcons (zvi (i3W (i3G (zm_rd (Z := Z319) (ν := ν) (k := 2) (show ((0 : Nat) : Int) = 0 from rfl) (show ((0 : Nat) : Int) = 0 from rfl) (show ((3808 : Nat) : Int) = 3808 from rfl))))) (zcons (zvi (show (-1 : Int32) = i3 (-1) from rfl)) rfl))))) c9) ?_
                clear c9
                exact zlV hP ⟨(zmw (a := 46) (c := 53) hZ323I (Nat.le_of_ble_eq_true rfl)), hZ323K, hZ323U⟩
              · replace hP := zE_n hP h321
                obtain ⟨Z324, hZ324, c9, hZ324I, kZ324, jZ324⟩ := sp_403 (ν := ν) hZ319I (a1 := 8) (by omega) (a2 := 9) (by omega) (a3 := (Z319 2 0 0 3808)) (by omega) (a4 := (-1)) (by omega) (zbh (c := 45) (k := 1) hM (Nat.le_of_ble_eq_true rfl))
                have hZ324U : zU [] Z Z324 := zU_t hZ319U jZ324 zU_b0
                have hZ324K : zC [2] Z Z324 := zC_t hZ319K kZ324 (by decide)
                replace hZ324I := zmt (c := 46) hZ324I rfl
                replace hP := zl_e hP hZ324
                refine wz_cV_of (zas (zcons rfl (zcons (zvi (show (8 : Int32) = i3 8 from rfl)) (zcons (zvi (show (9 : Int32) = i3 9 from rfl)) (zcons (zvi (zm_rd (Z := Z319) (ν := ν) (k := 2) (show ((0 : Nat) : Int) = 0 from rfl) (show ((0 : Nat) : Int) = 0 from rfl) (show ((3808 : Nat) : Int) = 3808 from rfl))) (zcons (zvi (show (-1 : Int32) = i3 (-1) from rfl)) rfl))))) c9) ?_
                clear c9
                exact zlV hP ⟨(zmw (a := 46) (c := 53) hZ324I (Nat.le_of_ble_eq_true rfl)), hZ324K, hZ324U⟩
  · replace hP := zE_n hP h9
    obtain ⟨Z325, hZ325, c9, hZ325I, kZ325, jZ325⟩ := sp_413 (ν := ν) hZ7I (zbh (c := 40) (k := 7) hM (Nat.le_of_ble_eq_true rfl))
    have hZ325U : zU [] Z Z325 := zU_t hZ7U jZ325 zU_b0
    have hZ325K : zC [2] Z Z325 := zC_t hZ7K kZ325 (by decide)
    replace hZ325I := zmt (c := 47) hZ325I rfl
    replace hP := zl_e hP hZ325
    refine wz_cV_of (zas (zcons rfl rfl) c9) ?_
    clear c9
    have r326 := zM_f hZ325I 2 0 0 3803
    refine wz_br (i3Le (zm_rd (Z := Z325) (ν := ν) (k := 2) (show ((0 : Nat) : Int) = 0 from rfl) (show ((0 : Nat) : Int) = 0 from rfl) (show ((3803 : Nat) : Int) = 3803 from rfl)) (show (0 : Int32) = i3 0 from rfl) (by omega) (by omega) (by omega) (by omega)) (fun h327 => ?_) (fun h327 => ?_)
    · replace hP := zE_p hP h327
      have r328 := w3_r (-(Z325 2 0 0 3803))
      obtain ⟨Z329, hZ329, c9, hZ329I, kZ329, jZ329⟩ := sp_403 (ν := ν) hZ325I (a1 := 9) (by omega) (a2 := 3) (by omega) (a3 := (w3 (-(Z325 2 0 0 3803)))) (by omega) (a4 := (-1)) (by omega) (zbh (c := 47) (k := 1) hM (Nat.le_of_ble_eq_true rfl))
      have hZ329U : zU [] Z Z329 := zU_t hZ325U jZ329 zU_b0
      have hZ329K : zC [2] Z Z329 := zC_t hZ325K kZ329 (by decide)
      replace hZ329I := zmt (c := 48) hZ329I rfl
      replace hP := zl_e hP hZ329
      refine wz_cV_of (zas (zcons rfl (zcons (zvi (show (9 : Int32) = i3 9 from rfl)) (zcons (zvi (show (3 : Int32) = i3 3 from rfl)) (zcons (zvi (i3W (i3G (zm_rd (Z := Z325) (ν := ν) (k := 2) (show ((0 : Nat) : Int) = 0 from rfl) (show ((0 : Nat) : Int) = 0 from rfl) (show ((3803 : Nat) : Int) = 3803 from rfl))))) (zcons (zvi (show (-1 : Int32) = i3 (-1) from rfl)) rfl))))) c9) ?_
      clear c9
      have r330 := zM_f hZ329I 2 0 0 3804
      refine wz_br (i3Le (zm_rd (Z := Z329) (ν := ν) (k := 2) (show ((0 : Nat) : Int) = 0 from rfl) (show ((0 : Nat) : Int) = 0 from rfl) (show ((3804 : Nat) : Int) = 3804 from rfl)) (show (0 : Int32) = i3 0 from rfl) (by omega) (by omega) (by omega) (by omega)) (fun h331 => ?_) (fun h331 => ?_)
      · replace hP := zE_p hP h331
        have r332 := w3_r (-(Z329 2 0 0 3804))
        obtain ⟨Z333, hZ333, c9, hZ333I, kZ333, jZ333⟩ := sp_403 (ν := ν) hZ329I (a1 := 9) (by omega) (a2 := 4) (by omega) (a3 := (w3 (-(Z329 2 0 0 3804)))) (by omega) (a4 := (-1)) (by omega) (zbh (c := 48) (k := 1) hM (Nat.le_of_ble_eq_true rfl))
        have hZ333U : zU [] Z Z333 := zU_t hZ329U jZ333 zU_b0
        have hZ333K : zC [2] Z Z333 := zC_t hZ329K kZ333 (by decide)
        replace hZ333I := zmt (c := 49) hZ333I rfl
        replace hP := zl_e hP hZ333
        refine wz_cV_of (zas (zcons rfl (zcons (zvi (show (9 : Int32) = i3 9 from rfl)) (zcons (zvi (show (4 : Int32) = i3 4 from rfl)) (zcons (zvi (i3W (i3G (zm_rd (Z := Z329) (ν := ν) (k := 2) (show ((0 : Nat) : Int) = 0 from rfl) (show ((0 : Nat) : Int) = 0 from rfl) (show ((3804 : Nat) : Int) = 3804 from rfl))))) (zcons (zvi (show (-1 : Int32) = i3 (-1) from rfl)) rfl))))) c9) ?_
        clear c9
        have r334 := zM_f hZ333I 2 0 0 3805
        refine wz_br (i3Le (zm_rd (Z := Z333) (ν := ν) (k := 2) (show ((0 : Nat) : Int) = 0 from rfl) (show ((0 : Nat) : Int) = 0 from rfl) (show ((3805 : Nat) : Int) = 3805 from rfl)) (show (0 : Int32) = i3 0 from rfl) (by omega) (by omega) (by omega) (by omega)) (fun h335 => ?_) (fun h335 => ?_)
        · replace hP := zE_p hP h335
          have r336 := w3_r (-(Z333 2 0 0 3805))
          obtain ⟨Z337, hZ337, c9, hZ337I, kZ337, jZ337⟩ := sp_403 (ν := ν) hZ333I (a1 := 9) (by omega) (a2 := 5) (by omega) (a3 := (w3 (-(Z333 2 0 0 3805)))) (by omega) (a4 := (-1)) (by omega) (zbh (c := 49) (k := 1) hM (Nat.le_of_ble_eq_true rfl))
          have hZ337U : zU [] Z Z337 := zU_t hZ333U jZ337 zU_b0
          have hZ337K : zC [2] Z Z337 := zC_t hZ333K kZ337 (by decide)
          replace hZ337I := zmt (c := 50) hZ337I rfl
          replace hP := zl_e hP hZ337
          refine wz_cV_of (zas (zcons rfl (zcons (zvi (show (9 : Int32) = i3 9 from rfl)) (zcons (zvi (show (5 : Int32) = i3 5 from rfl)) (zcons (zvi (i3W (i3G (zm_rd (Z := Z333) (ν := ν) (k := 2) (show ((0 : Nat) : Int) = 0 from rfl) (show ((0 : Nat) : Int) = 0 from rfl) (show ((3805 : Nat) : Int) = 3805 from rfl))))) (zcons (zvi (show (-1 : Int32) = i3 (-1) from rfl)) rfl))))) c9) ?_
          clear c9
          have r338 := zM_f hZ337I 2 0 0 3806
          refine wz_br (i3Le (zm_rd (Z := Z337) (ν := ν) (k := 2) (show ((0 : Nat) : Int) = 0 from rfl) (show ((0 : Nat) : Int) = 0 from rfl) (show ((3806 : Nat) : Int) = 3806 from rfl)) (show (0 : Int32) = i3 0 from rfl) (by omega) (by omega) (by omega) (by omega)) (fun h339 => ?_) (fun h339 => ?_)
          · replace hP := zE_p hP h339
            have r340 := w3_r (-(Z337 2 0 0 3806))
            obtain ⟨Z341, hZ341, c9, hZ341I, kZ341, jZ341⟩ := sp_403 (ν := ν) hZ337I (a1 := 9) (by omega) (a2 := 6) (by omega) (a3 := (w3 (-(Z337 2 0 0 3806)))) (by omega) (a4 := (-1)) (by omega) (zbh (c := 50) (k := 1) hM (Nat.le_of_ble_eq_true rfl))
            have hZ341U : zU [] Z Z341 := zU_t hZ337U jZ341 zU_b0
            have hZ341K : zC [2] Z Z341 := zC_t hZ337K kZ341 (by decide)
            replace hZ341I := zmt (c := 51) hZ341I rfl
            replace hP := zl_e hP hZ341
            refine wz_cV_of (zas (zcons rfl (zcons (zvi (show (9 : Int32) = i3 9 from rfl)) (zcons (zvi (show (6 : Int32) = i3 6 from rfl)) (zcons (zvi (i3W (i3G (zm_rd (Z := Z337) (ν := ν) (k := 2) (show ((0 : Nat) : Int) = 0 from rfl) (show ((0 : Nat) : Int) = 0 from rfl) (show ((3806 : Nat) : Int) = 3806 from rfl))))) (zcons (zvi (show (-1 : Int32) = i3 (-1) from rfl)) rfl))))) c9) ?_
            clear c9
            have r342 := zM_f hZ341I 2 0 0 3807
            refine wz_br (i3Le (zm_rd (Z := Z341) (ν := ν) (k := 2) (show ((0 : Nat) : Int) = 0 from rfl) (show ((0 : Nat) : Int) = 0 from rfl) (show ((3807 : Nat) : Int) = 3807 from rfl)) (show (0 : Int32) = i3 0 from rfl) (by omega) (by omega) (by omega) (by omega)) (fun h343 => ?_) (fun h343 => ?_)
            · replace hP := zE_p hP h343
              have r344 := w3_r (-(Z341 2 0 0 3807))
              obtain ⟨Z345, hZ345, c9, hZ345I, kZ345, jZ345⟩ := sp_403 (ν := ν) hZ341I (a1 := 9) (by omega) (a2 := 7) (by omega) (a3 := (w3 (-(Z341 2 0 0 3807)))) (by omega) (a4 := (-1)) (by omega) (zbh (c := 51) (k := 1) hM (Nat.le_of_ble_eq_true rfl))
              have hZ345U : zU [] Z Z345 := zU_t hZ341U jZ345 zU_b0
              have hZ345K : zC [2] Z Z345 := zC_t hZ341K kZ345 (by decide)
              replace hZ345I := zmt (c := 52) hZ345I rfl
              replace hP := zl_e hP hZ345
              refine wz_cV_of (zas (zcons rfl (zcons (zvi (show (9 : Int32) = i3 9 from rfl)) (zcons (zvi (show (7 : Int32) = i3 7 from rfl)) (zcons (zvi (i3W (i3G (zm_rd (Z := Z341) (ν := ν) (k := 2) (show ((0 : Nat) : Int) = 0 from rfl) (show ((0 : Nat) : Int) = 0 from rfl) (show ((3807 : Nat) : Int) = 3807 from rfl))))) (zcons (zvi (show (-1 : Int32) = i3 (-1) from rfl)) rfl))))) c9) ?_
              clear c9
              have r346 := zM_f hZ345I 2 0 0 3808
              refine wz_br (i3Le (zm_rd (Z := Z345) (ν := ν) (k := 2) (show ((0 : Nat) : Int) = 0 from rfl) (show ((0 : Nat) : Int) = 0 from rfl) (show ((3808 : Nat) : Int) = 3808 from rfl)) (show (0 : Int32) = i3 0 from rfl) (by omega) (by omega) (by omega) (by omega)) (fun h347 => ?_) (fun h347 => ?_)
              · replace hP := zE_p hP h347
                have r348 := w3_r (-(Z345 2 0 0 3808))
                obtain ⟨Z349, hZ349, c9, hZ349I, kZ349, jZ349⟩ := sp_403 (ν := ν) hZ345I (a1 := 9) (by omega) (a2 := 8) (by omega) (a3 := (w3 (-(Z345 2 0 0 3808)))) (by omega) (a4 := (-1)) (by omega) (zbh (c := 52) (k := 1) hM (Nat.le_of_ble_eq_true rfl))
                have hZ349U : zU [] Z Z349 := zU_t hZ345U jZ349 zU_b0
                have hZ349K : zC [2] Z Z349 := zC_t hZ345K kZ349 (by decide)
                replace hZ349I := zmt (c := 53) hZ349I rfl
                replace hP := zl_e hP hZ349
                refine wz_cV_of (zas (zcons rfl (zcons (zvi (show (9 : Int32) = i3 9 from rfl)) (zcons (zvi (show (8 : Int32) = i3 8 from rfl)) (zcons (zvi (i3W (i3G (zm_rd (Z := Z345) (ν := ν) (k := 2) (show ((0 : Nat) : Int) = 0 from rfl) (show ((0 : Nat) : Int) = 0 from rfl) (show ((3808 : Nat) : Int) = 3808 from rfl))))) (zcons (zvi (show (-1 : Int32) = i3 (-1) from rfl)) rfl))))) c9) ?_
                clear c9
                exact zlV hP ⟨hZ349I, hZ349K, hZ349U⟩
              · replace hP := zE_n hP h347
                obtain ⟨Z350, hZ350, c9, hZ350I, kZ350, jZ350⟩ := sp_403 (ν := ν) hZ345I (a1 := 8) (by omega) (a2 := 9) (by omega) (a3 := (Z345 2 0 0 3808)) (by omega) (a4 := (-1)) (by omega) (zbh (c := 52) (k := 1) hM (Nat.le_of_ble_eq_true rfl))
                have hZ350U : zU [] Z Z350 := zU_t hZ345U jZ350 zU_b0
                have hZ350K : zC [2] Z Z350 := zC_t hZ345K kZ350 (by decide)
                replace hZ350I := zmt (c := 53) hZ350I rfl
                replace hP := zl_e hP hZ350
                refine wz_cV_of (zas (zcons rfl (zcons (zvi (show (8 : Int32) = i3 8 from rfl)) (zcons (zvi (show (9 : Int32) = i3 9 from rfl)) (zcons (zvi (zm_rd (Z := Z345) (ν := ν) (k := 2) (show ((0 : Nat) : Int) = 0 from rfl) (show ((0 : Nat) : Int) = 0 from rfl) (show ((3808 : Nat) : Int) = 3808 from rfl))) (zcons (zvi (show (-1 : Int32) = i3 (-1) from rfl)) rfl))))) c9) ?_
                clear c9
                exact zlV hP ⟨hZ350I, hZ350K, hZ350U⟩
            · replace hP := zE_n hP h343
              obtain ⟨Z351, hZ351, c9, hZ351I, kZ351, jZ351⟩ := sp_403 (ν := ν) hZ341I (a1 := 7) (by omega) (a2 := 9) (by omega) (a3 := (Z341 2 0 0 3807)) (by omega) (a4 := (-1)) (by omega) (zbh (c := 51) (k := 1) hM (Nat.le_of_ble_eq_true rfl))
              have hZ351U : zU [] Z Z351 := zU_t hZ341U jZ351 zU_b0
              have hZ351K : zC [2] Z Z351 := zC_t hZ341K kZ351 (by decide)
              replace hZ351I := zmt (c := 52) hZ351I rfl
              replace hP := zl_e hP hZ351
              refine wz_cV_of (zas (zcons rfl (zcons (zvi (show (7 : Int32) = i3 7 from rfl)) (zcons (zvi (show (9 : Int32) = i3 9 from rfl)) (zcons (zvi (zm_rd (Z := Z341) (ν := ν) (k := 2) (show ((0 : Nat) : Int) = 0 from rfl) (show ((0 : Nat) : Int) = 0 from rfl) (show ((3807 : Nat) : Int) = 3807 from rfl))) (zcons (zvi (show (-1 : Int32) = i3 (-1) from rfl)) rfl))))) c9) ?_
              clear c9
              have r352 := zM_f hZ351I 2 0 0 3808
              refine wz_br (i3Le (zm_rd (Z := Z351) (ν := ν) (k := 2) (show ((0 : Nat) : Int) = 0 from rfl) (show ((0 : Nat) : Int) = 0 from rfl) (show ((3808 : Nat) : Int) = 3808 from rfl)) (show (0 : Int32) = i3 0 from rfl) (by omega) (by omega) (by omega) (by omega)) (fun h353 => ?_) (fun h353 => ?_)
              · replace hP := zE_p hP h353
                have r354 := w3_r (-(Z351 2 0 0 3808))
                obtain ⟨Z355, hZ355, c9, hZ355I, kZ355, jZ355⟩ := sp_403 (ν := ν) hZ351I (a1 := 9) (by omega) (a2 := 8) (by omega) (a3 := (w3 (-(Z351 2 0 0 3808)))) (by omega) (a4 := (-1)) (by omega) (zbh (c := 52) (k := 1) hM (Nat.le_of_ble_eq_true rfl))
                have hZ355U : zU [] Z Z355 := zU_t hZ351U jZ355 zU_b0
                have hZ355K : zC [2] Z Z355 := zC_t hZ351K kZ355 (by decide)
                replace hZ355I := zmt (c := 53) hZ355I rfl
                replace hP := zl_e hP hZ355
                refine wz_cV_of (zas (zcons rfl (zcons (zvi (show (9 : Int32) = i3 9 from rfl)) (zcons (zvi (show (8 : Int32) = i3 8 from rfl)) (zcons (zvi (i3W (i3G (zm_rd (Z := Z351) (ν := ν) (k := 2) (show ((0 : Nat) : Int) = 0 from rfl) (show ((0 : Nat) : Int) = 0 from rfl) (show ((3808 : Nat) : Int) = 3808 from rfl))))) (zcons (zvi (show (-1 : Int32) = i3 (-1) from rfl)) rfl))))) c9) ?_
                clear c9
                exact zlV hP ⟨hZ355I, hZ355K, hZ355U⟩
              · replace hP := zE_n hP h353
                obtain ⟨Z356, hZ356, c9, hZ356I, kZ356, jZ356⟩ := sp_403 (ν := ν) hZ351I (a1 := 8) (by omega) (a2 := 9) (by omega) (a3 := (Z351 2 0 0 3808)) (by omega) (a4 := (-1)) (by omega) (zbh (c := 52) (k := 1) hM (Nat.le_of_ble_eq_true rfl))
                have hZ356U : zU [] Z Z356 := zU_t hZ351U jZ356 zU_b0
                have hZ356K : zC [2] Z Z356 := zC_t hZ351K kZ356 (by decide)
                replace hZ356I := zmt (c := 53) hZ356I rfl
                replace hP := zl_e hP hZ356
                refine wz_cV_of (zas (zcons rfl (zcons (zvi (show (8 : Int32) = i3 8 from rfl)) (zcons (zvi (show (9 : Int32) = i3 9 from rfl)) (zcons (zvi (zm_rd (Z := Z351) (ν := ν) (k := 2) (show ((0 : Nat) : Int) = 0 from rfl) (show ((0 : Nat) : Int) = 0 from rfl) (show ((3808 : Nat) : Int) = 3808 from rfl))) (zcons (zvi (show (-1 : Int32) = i3 (-1) from rfl)) rfl))))) c9) ?_
                clear c9
                exact zlV hP ⟨hZ356I, hZ356K, hZ356U⟩
          · replace hP := zE_n hP h339
            obtain ⟨Z357, hZ357, c9, hZ357I, kZ357, jZ357⟩ := sp_403 (ν := ν) hZ337I (a1 := 6) (by omega) (a2 := 9) (by omega) (a3 := (Z337 2 0 0 3806)) (by omega) (a4 := (-1)) (by omega) (zbh (c := 50) (k := 1) hM (Nat.le_of_ble_eq_true rfl))
            have hZ357U : zU [] Z Z357 := zU_t hZ337U jZ357 zU_b0
            have hZ357K : zC [2] Z Z357 := zC_t hZ337K kZ357 (by decide)
            replace hZ357I := zmt (c := 51) hZ357I rfl
            replace hP := zl_e hP hZ357
            refine wz_cV_of (zas (zcons rfl (zcons (zvi (show (6 : Int32) = i3 6 from rfl)) (zcons (zvi (show (9 : Int32) = i3 9 from rfl)) (zcons (zvi (zm_rd (Z := Z337) (ν := ν) (k := 2) (show ((0 : Nat) : Int) = 0 from rfl) (show ((0 : Nat) : Int) = 0 from rfl) (show ((3806 : Nat) : Int) = 3806 from rfl))) (zcons (zvi (show (-1 : Int32) = i3 (-1) from rfl)) rfl))))) c9) ?_
            clear c9
            have r358 := zM_f hZ357I 2 0 0 3807
            refine wz_br (i3Le (zm_rd (Z := Z357) (ν := ν) (k := 2) (show ((0 : Nat) : Int) = 0 from rfl) (show ((0 : Nat) : Int) = 0 from rfl) (show ((3807 : Nat) : Int) = 3807 from rfl)) (show (0 : Int32) = i3 0 from rfl) (by omega) (by omega) (by omega) (by omega)) (fun h359 => ?_) (fun h359 => ?_)
            · replace hP := zE_p hP h359
              have r360 := w3_r (-(Z357 2 0 0 3807))
              obtain ⟨Z361, hZ361, c9, hZ361I, kZ361, jZ361⟩ := sp_403 (ν := ν) hZ357I (a1 := 9) (by omega) (a2 := 7) (by omega) (a3 := (w3 (-(Z357 2 0 0 3807)))) (by omega) (a4 := (-1)) (by omega) (zbh (c := 51) (k := 1) hM (Nat.le_of_ble_eq_true rfl))
              have hZ361U : zU [] Z Z361 := zU_t hZ357U jZ361 zU_b0
              have hZ361K : zC [2] Z Z361 := zC_t hZ357K kZ361 (by decide)
              replace hZ361I := zmt (c := 52) hZ361I rfl
              replace hP := zl_e hP hZ361
              refine wz_cV_of (zas (zcons rfl (zcons (zvi (show (9 : Int32) = i3 9 from rfl)) (zcons (zvi (show (7 : Int32) = i3 7 from rfl)) (zcons (zvi (i3W (i3G (zm_rd (Z := Z357) (ν := ν) (k := 2) (show ((0 : Nat) : Int) = 0 from rfl) (show ((0 : Nat) : Int) = 0 from rfl) (show ((3807 : Nat) : Int) = 3807 from rfl))))) (zcons (zvi (show (-1 : Int32) = i3 (-1) from rfl)) rfl))))) c9) ?_
              clear c9
              have r362 := zM_f hZ361I 2 0 0 3808
              refine wz_br (i3Le (zm_rd (Z := Z361) (ν := ν) (k := 2) (show ((0 : Nat) : Int) = 0 from rfl) (show ((0 : Nat) : Int) = 0 from rfl) (show ((3808 : Nat) : Int) = 3808 from rfl)) (show (0 : Int32) = i3 0 from rfl) (by omega) (by omega) (by omega) (by omega)) (fun h363 => ?_) (fun h363 => ?_)
              · replace hP := zE_p hP h363
                have r364 := w3_r (-(Z361 2 0 0 3808))
                obtain ⟨Z365, hZ365, c9, hZ365I, kZ365, jZ365⟩ := sp_403 (ν := ν) hZ361I (a1 := 9) (by omega) (a2 := 8) (by omega) (a3 := (w3 (-(Z361 2 0 0 3808)))) (by omega) (a4 := (-1)) (by omega) (zbh (c := 52) (k := 1) hM (Nat.le_of_ble_eq_true rfl))
                have hZ365U : zU [] Z Z365 := zU_t hZ361U jZ365 zU_b0
                have hZ365K : zC [2] Z Z365 := zC_t hZ361K kZ365 (by decide)
                replace hZ365I := zmt (c := 53) hZ365I rfl
                replace hP := zl_e hP hZ365
                refine wz_cV_of (zas (zcons rfl (zcons (zvi (show (9 : Int32) = i3 9 from rfl)) (zcons (zvi (show (8 : Int32) = i3 8 from rfl)) (zcons (zvi (i3W (i3G (zm_rd (Z := Z361) (ν := ν) (k := 2) (show ((0 : Nat) : Int) = 0 from rfl) (show ((0 : Nat) : Int) = 0 from rfl) (show ((3808 : Nat) : Int) = 3808 from rfl))))) (zcons (zvi (show (-1 : Int32) = i3 (-1) from rfl)) rfl))))) c9) ?_
                clear c9
                exact zlV hP ⟨hZ365I, hZ365K, hZ365U⟩
              · replace hP := zE_n hP h363
                obtain ⟨Z366, hZ366, c9, hZ366I, kZ366, jZ366⟩ := sp_403 (ν := ν) hZ361I (a1 := 8) (by omega) (a2 := 9) (by omega) (a3 := (Z361 2 0 0 3808)) (by omega) (a4 := (-1)) (by omega) (zbh (c := 52) (k := 1) hM (Nat.le_of_ble_eq_true rfl))
                have hZ366U : zU [] Z Z366 := zU_t hZ361U jZ366 zU_b0
                have hZ366K : zC [2] Z Z366 := zC_t hZ361K kZ366 (by decide)
                replace hZ366I := zmt (c := 53) hZ366I rfl
                replace hP := zl_e hP hZ366
                refine wz_cV_of (zas (zcons rfl (zcons (zvi (show (8 : Int32) = i3 8 from rfl)) (zcons (zvi (show (9 : Int32) = i3 9 from rfl)) (zcons (zvi (zm_rd (Z := Z361) (ν := ν) (k := 2) (show ((0 : Nat) : Int) = 0 from rfl) (show ((0 : Nat) : Int) = 0 from rfl) (show ((3808 : Nat) : Int) = 3808 from rfl))) (zcons (zvi (show (-1 : Int32) = i3 (-1) from rfl)) rfl))))) c9) ?_
                clear c9
                exact zlV hP ⟨hZ366I, hZ366K, hZ366U⟩
            · replace hP := zE_n hP h359
              obtain ⟨Z367, hZ367, c9, hZ367I, kZ367, jZ367⟩ := sp_403 (ν := ν) hZ357I (a1 := 7) (by omega) (a2 := 9) (by omega) (a3 := (Z357 2 0 0 3807)) (by omega) (a4 := (-1)) (by omega) (zbh (c := 51) (k := 1) hM (Nat.le_of_ble_eq_true rfl))
              have hZ367U : zU [] Z Z367 := zU_t hZ357U jZ367 zU_b0
              have hZ367K : zC [2] Z Z367 := zC_t hZ357K kZ367 (by decide)
              replace hZ367I := zmt (c := 52) hZ367I rfl
              replace hP := zl_e hP hZ367
              refine wz_cV_of (zas (zcons rfl (zcons (zvi (show (7 : Int32) = i3 7 from rfl)) (zcons (zvi (show (9 : Int32) = i3 9 from rfl)) (zcons (zvi (zm_rd (Z := Z357) (ν := ν) (k := 2) (show ((0 : Nat) : Int) = 0 from rfl) (show ((0 : Nat) : Int) = 0 from rfl) (show ((3807 : Nat) : Int) = 3807 from rfl))) (zcons (zvi (show (-1 : Int32) = i3 (-1) from rfl)) rfl))))) c9) ?_
              clear c9
              have r368 := zM_f hZ367I 2 0 0 3808
              refine wz_br (i3Le (zm_rd (Z := Z367) (ν := ν) (k := 2) (show ((0 : Nat) : Int) = 0 from rfl) (show ((0 : Nat) : Int) = 0 from rfl) (show ((3808 : Nat) : Int) = 3808 from rfl)) (show (0 : Int32) = i3 0 from rfl) (by omega) (by omega) (by omega) (by omega)) (fun h369 => ?_) (fun h369 => ?_)
              · replace hP := zE_p hP h369
                have r370 := w3_r (-(Z367 2 0 0 3808))
                obtain ⟨Z371, hZ371, c9, hZ371I, kZ371, jZ371⟩ := sp_403 (ν := ν) hZ367I (a1 := 9) (by omega) (a2 := 8) (by omega) (a3 := (w3 (-(Z367 2 0 0 3808)))) (by omega) (a4 := (-1)) (by omega) (zbh (c := 52) (k := 1) hM (Nat.le_of_ble_eq_true rfl))
                have hZ371U : zU [] Z Z371 := zU_t hZ367U jZ371 zU_b0
                have hZ371K : zC [2] Z Z371 := zC_t hZ367K kZ371 (by decide)
                replace hZ371I := zmt (c := 53) hZ371I rfl
                replace hP := zl_e hP hZ371
                refine wz_cV_of (zas (zcons rfl (zcons (zvi (show (9 : Int32) = i3 9 from rfl)) (zcons (zvi (show (8 : Int32) = i3 8 from rfl)) (zcons (zvi (i3W (i3G (zm_rd (Z := Z367) (ν := ν) (k := 2) (show ((0 : Nat) : Int) = 0 from rfl) (show ((0 : Nat) : Int) = 0 from rfl) (show ((3808 : Nat) : Int) = 3808 from rfl))))) (zcons (zvi (show (-1 : Int32) = i3 (-1) from rfl)) rfl))))) c9) ?_
                clear c9
                exact zlV hP ⟨hZ371I, hZ371K, hZ371U⟩
              · replace hP := zE_n hP h369
                obtain ⟨Z372, hZ372, c9, hZ372I, kZ372, jZ372⟩ := sp_403 (ν := ν) hZ367I (a1 := 8) (by omega) (a2 := 9) (by omega) (a3 := (Z367 2 0 0 3808)) (by omega) (a4 := (-1)) (by omega) (zbh (c := 52) (k := 1) hM (Nat.le_of_ble_eq_true rfl))
                have hZ372U : zU [] Z Z372 := zU_t hZ367U jZ372 zU_b0
                have hZ372K : zC [2] Z Z372 := zC_t hZ367K kZ372 (by decide)
                replace hZ372I := zmt (c := 53) hZ372I rfl
                replace hP := zl_e hP hZ372
                refine wz_cV_of (zas (zcons rfl (zcons (zvi (show (8 : Int32) = i3 8 from rfl)) (zcons (zvi (show (9 : Int32) = i3 9 from rfl)) (zcons (zvi (zm_rd (Z := Z367) (ν := ν) (k := 2) (show ((0 : Nat) : Int) = 0 from rfl) (show ((0 : Nat) : Int) = 0 from rfl) (show ((3808 : Nat) : Int) = 3808 from rfl))) (zcons (zvi (show (-1 : Int32) = i3 (-1) from rfl)) rfl))))) c9) ?_
                clear c9
                exact zlV hP ⟨hZ372I, hZ372K, hZ372U⟩
        · replace hP := zE_n hP h335
          obtain ⟨Z373, hZ373, c9, hZ373I, kZ373, jZ373⟩ := sp_403 (ν := ν) hZ333I (a1 := 5) (by omega) (a2 := 9) (by omega) (a3 := (Z333 2 0 0 3805)) (by omega) (a4 := (-1)) (by omega) (zbh (c := 49) (k := 1) hM (Nat.le_of_ble_eq_true rfl))
          have hZ373U : zU [] Z Z373 := zU_t hZ333U jZ373 zU_b0
          have hZ373K : zC [2] Z Z373 := zC_t hZ333K kZ373 (by decide)
          replace hZ373I := zmt (c := 50) hZ373I rfl
          replace hP := zl_e hP hZ373
          refine wz_cV_of (zas (zcons rfl (zcons (zvi (show (5 : Int32) = i3 5 from rfl)) (zcons (zvi (show (9 : Int32) = i3 9 from rfl)) (zcons (zvi (zm_rd (Z := Z333) (ν := ν) (k := 2) (show ((0 : Nat) : Int) = 0 from rfl) (show ((0 : Nat) : Int) = 0 from rfl) (show ((3805 : Nat) : Int) = 3805 from rfl))) (zcons (zvi (show (-1 : Int32) = i3 (-1) from rfl)) rfl))))) c9) ?_
          clear c9
          have r374 := zM_f hZ373I 2 0 0 3806
          refine wz_br (i3Le (zm_rd (Z := Z373) (ν := ν) (k := 2) (show ((0 : Nat) : Int) = 0 from rfl) (show ((0 : Nat) : Int) = 0 from rfl) (show ((3806 : Nat) : Int) = 3806 from rfl)) (show (0 : Int32) = i3 0 from rfl) (by omega) (by omega) (by omega) (by omega)) (fun h375 => ?_) (fun h375 => ?_)
          · replace hP := zE_p hP h375
            have r376 := w3_r (-(Z373 2 0 0 3806))
            obtain ⟨Z377, hZ377, c9, hZ377I, kZ377, jZ377⟩ := sp_403 (ν := ν) hZ373I (a1 := 9) (by omega) (a2 := 6) (by omega) (a3 := (w3 (-(Z373 2 0 0 3806)))) (by omega) (a4 := (-1)) (by omega) (zbh (c := 50) (k := 1) hM (Nat.le_of_ble_eq_true rfl))
            have hZ377U : zU [] Z Z377 := zU_t hZ373U jZ377 zU_b0
            have hZ377K : zC [2] Z Z377 := zC_t hZ373K kZ377 (by decide)
            replace hZ377I := zmt (c := 51) hZ377I rfl
            replace hP := zl_e hP hZ377
            refine wz_cV_of (zas (zcons rfl (zcons (zvi (show (9 : Int32) = i3 9 from rfl)) (zcons (zvi (show (6 : Int32) = i3 6 from rfl)) (zcons (zvi (i3W (i3G (zm_rd (Z := Z373) (ν := ν) (k := 2) (show ((0 : Nat) : Int) = 0 from rfl) (show ((0 : Nat) : Int) = 0 from rfl) (show ((3806 : Nat) : Int) = 3806 from rfl))))) (zcons (zvi (show (-1 : Int32) = i3 (-1) from rfl)) rfl))))) c9) ?_
            clear c9
            have r378 := zM_f hZ377I 2 0 0 3807
            refine wz_br (i3Le (zm_rd (Z := Z377) (ν := ν) (k := 2) (show ((0 : Nat) : Int) = 0 from rfl) (show ((0 : Nat) : Int) = 0 from rfl) (show ((3807 : Nat) : Int) = 3807 from rfl)) (show (0 : Int32) = i3 0 from rfl) (by omega) (by omega) (by omega) (by omega)) (fun h379 => ?_) (fun h379 => ?_)
            · replace hP := zE_p hP h379
              have r380 := w3_r (-(Z377 2 0 0 3807))
              obtain ⟨Z381, hZ381, c9, hZ381I, kZ381, jZ381⟩ := sp_403 (ν := ν) hZ377I (a1 := 9) (by omega) (a2 := 7) (by omega) (a3 := (w3 (-(Z377 2 0 0 3807)))) (by omega) (a4 := (-1)) (by omega) (zbh (c := 51) (k := 1) hM (Nat.le_of_ble_eq_true rfl))
              have hZ381U : zU [] Z Z381 := zU_t hZ377U jZ381 zU_b0
              have hZ381K : zC [2] Z Z381 := zC_t hZ377K kZ381 (by decide)
              replace hZ381I := zmt (c := 52) hZ381I rfl
              replace hP := zl_e hP hZ381
              refine wz_cV_of (zas (zcons rfl (zcons (zvi (show (9 : Int32) = i3 9 from rfl)) (zcons (zvi (show (7 : Int32) = i3 7 from rfl)) (zcons (zvi (i3W (i3G (zm_rd (Z := Z377) (ν := ν) (k := 2) (show ((0 : Nat) : Int) = 0 from rfl) (show ((0 : Nat) : Int) = 0 from rfl) (show ((3807 : Nat) : Int) = 3807 from rfl))))) (zcons (zvi (show (-1 : Int32) = i3 (-1) from rfl)) rfl))))) c9) ?_
              clear c9
              have r382 := zM_f hZ381I 2 0 0 3808
              refine wz_br (i3Le (zm_rd (Z := Z381) (ν := ν) (k := 2) (show ((0 : Nat) : Int) = 0 from rfl) (show ((0 : Nat) : Int) = 0 from rfl) (show ((3808 : Nat) : Int) = 3808 from rfl)) (show (0 : Int32) = i3 0 from rfl) (by omega) (by omega) (by omega) (by omega)) (fun h383 => ?_) (fun h383 => ?_)
              · replace hP := zE_p hP h383
                have r384 := w3_r (-(Z381 2 0 0 3808))
                obtain ⟨Z385, hZ385, c9, hZ385I, kZ385, jZ385⟩ := sp_403 (ν := ν) hZ381I (a1 := 9) (by omega) (a2 := 8) (by omega) (a3 := (w3 (-(Z381 2 0 0 3808)))) (by omega) (a4 := (-1)) (by omega) (zbh (c := 52) (k := 1) hM (Nat.le_of_ble_eq_true rfl))
                have hZ385U : zU [] Z Z385 := zU_t hZ381U jZ385 zU_b0
                have hZ385K : zC [2] Z Z385 := zC_t hZ381K kZ385 (by decide)
                replace hZ385I := zmt (c := 53) hZ385I rfl
                replace hP := zl_e hP hZ385
                refine wz_cV_of (zas (zcons rfl (zcons (zvi (show (9 : Int32) = i3 9 from rfl)) (zcons (zvi (show (8 : Int32) = i3 8 from rfl)) (zcons (zvi (i3W (i3G (zm_rd (Z := Z381) (ν := ν) (k := 2) (show ((0 : Nat) : Int) = 0 from rfl) (show ((0 : Nat) : Int) = 0 from rfl) (show ((3808 : Nat) : Int) = 3808 from rfl))))) (zcons (zvi (show (-1 : Int32) = i3 (-1) from rfl)) rfl))))) c9) ?_
                clear c9
                exact zlV hP ⟨hZ385I, hZ385K, hZ385U⟩
              · replace hP := zE_n hP h383
                obtain ⟨Z386, hZ386, c9, hZ386I, kZ386, jZ386⟩ := sp_403 (ν := ν) hZ381I (a1 := 8) (by omega) (a2 := 9) (by omega) (a3 := (Z381 2 0 0 3808)) (by omega) (a4 := (-1)) (by omega) (zbh (c := 52) (k := 1) hM (Nat.le_of_ble_eq_true rfl))
                have hZ386U : zU [] Z Z386 := zU_t hZ381U jZ386 zU_b0
                have hZ386K : zC [2] Z Z386 := zC_t hZ381K kZ386 (by decide)
                replace hZ386I := zmt (c := 53) hZ386I rfl
                replace hP := zl_e hP hZ386
                refine wz_cV_of (zas (zcons rfl (zcons (zvi (show (8 : Int32) = i3 8 from rfl)) (zcons (zvi (show (9 : Int32) = i3 9 from rfl)) (zcons (zvi (zm_rd (Z := Z381) (ν := ν) (k := 2) (show ((0 : Nat) : Int) = 0 from rfl) (show ((0 : Nat) : Int) = 0 from rfl) (show ((3808 : Nat) : Int) = 3808 from rfl))) (zcons (zvi (show (-1 : Int32) = i3 (-1) from rfl)) rfl))))) c9) ?_
                clear c9
                exact zlV hP ⟨hZ386I, hZ386K, hZ386U⟩
            · replace hP := zE_n hP h379
              obtain ⟨Z387, hZ387, c9, hZ387I, kZ387, jZ387⟩ := sp_403 (ν := ν) hZ377I (a1 := 7) (by omega) (a2 := 9) (by omega) (a3 := (Z377 2 0 0 3807)) (by omega) (a4 := (-1)) (by omega) (zbh (c := 51) (k := 1) hM (Nat.le_of_ble_eq_true rfl))
              have hZ387U : zU [] Z Z387 := zU_t hZ377U jZ387 zU_b0
              have hZ387K : zC [2] Z Z387 := zC_t hZ377K kZ387 (by decide)
              replace hZ387I := zmt (c := 52) hZ387I rfl
              replace hP := zl_e hP hZ387
              refine wz_cV_of (zas (zcons rfl (zcons (zvi (show (7 : Int32) = i3 7 from rfl)) (zcons (zvi (show (9 : Int32) = i3 9 from rfl)) (zcons (zvi (zm_rd (Z := Z377) (ν := ν) (k := 2) (show ((0 : Nat) : Int) = 0 from rfl) (show ((0 : Nat) : Int) = 0 from rfl) (show ((3807 : Nat) : Int) = 3807 from rfl))) (zcons (zvi (show (-1 : Int32) = i3 (-1) from rfl)) rfl))))) c9) ?_
              clear c9
              have r388 := zM_f hZ387I 2 0 0 3808
              refine wz_br (i3Le (zm_rd (Z := Z387) (ν := ν) (k := 2) (show ((0 : Nat) : Int) = 0 from rfl) (show ((0 : Nat) : Int) = 0 from rfl) (show ((3808 : Nat) : Int) = 3808 from rfl)) (show (0 : Int32) = i3 0 from rfl) (by omega) (by omega) (by omega) (by omega)) (fun h389 => ?_) (fun h389 => ?_)
              · replace hP := zE_p hP h389
                have r390 := w3_r (-(Z387 2 0 0 3808))
                obtain ⟨Z391, hZ391, c9, hZ391I, kZ391, jZ391⟩ := sp_403 (ν := ν) hZ387I (a1 := 9) (by omega) (a2 := 8) (by omega) (a3 := (w3 (-(Z387 2 0 0 3808)))) (by omega) (a4 := (-1)) (by omega) (zbh (c := 52) (k := 1) hM (Nat.le_of_ble_eq_true rfl))
                have hZ391U : zU [] Z Z391 := zU_t hZ387U jZ391 zU_b0
                have hZ391K : zC [2] Z Z391 := zC_t hZ387K kZ391 (by decide)
                replace hZ391I := zmt (c := 53) hZ391I rfl
                replace hP := zl_e hP hZ391
                refine wz_cV_of (zas (zcons rfl (zcons (zvi (show (9 : Int32) = i3 9 from rfl)) (zcons (zvi (show (8 : Int32) = i3 8 from rfl)) (zcons (zvi (i3W (i3G (zm_rd (Z := Z387) (ν := ν) (k := 2) (show ((0 : Nat) : Int) = 0 from rfl) (show ((0 : Nat) : Int) = 0 from rfl) (show ((3808 : Nat) : Int) = 3808 from rfl))))) (zcons (zvi (show (-1 : Int32) = i3 (-1) from rfl)) rfl))))) c9) ?_
                clear c9
                exact zlV hP ⟨hZ391I, hZ391K, hZ391U⟩
              · replace hP := zE_n hP h389
                obtain ⟨Z392, hZ392, c9, hZ392I, kZ392, jZ392⟩ := sp_403 (ν := ν) hZ387I (a1 := 8) (by omega) (a2 := 9) (by omega) (a3 := (Z387 2 0 0 3808)) (by omega) (a4 := (-1)) (by omega) (zbh (c := 52) (k := 1) hM (Nat.le_of_ble_eq_true rfl))
                have hZ392U : zU [] Z Z392 := zU_t hZ387U jZ392 zU_b0
                have hZ392K : zC [2] Z Z392 := zC_t hZ387K kZ392 (by decide)
                replace hZ392I := zmt (c := 53) hZ392I rfl
                replace hP := zl_e hP hZ392
                refine wz_cV_of (zas (zcons rfl (zcons (zvi (show (8 : Int32) = i3 8 from rfl)) (zcons (zvi (show (9 : Int32) = i3 9 from rfl)) (zcons (zvi (zm_rd (Z := Z387) (ν := ν) (k := 2) (show ((0 : Nat) : Int) = 0 from rfl) (show ((0 : Nat) : Int) = 0 from rfl) (show ((3808 : Nat) : Int) = 3808 from rfl))) (zcons (zvi (show (-1 : Int32) = i3 (-1) from rfl)) rfl))))) c9) ?_
                clear c9
                exact zlV hP ⟨hZ392I, hZ392K, hZ392U⟩
          · replace hP := zE_n hP h375
            obtain ⟨Z393, hZ393, c9, hZ393I, kZ393, jZ393⟩ := sp_403 (ν := ν) hZ373I (a1 := 6) (by omega) (a2 := 9) (by omega) (a3 := (Z373 2 0 0 3806)) (by omega) (a4 := (-1)) (by omega) (zbh (c := 50) (k := 1) hM (Nat.le_of_ble_eq_true rfl))
            have hZ393U : zU [] Z Z393 := zU_t hZ373U jZ393 zU_b0
            have hZ393K : zC [2] Z Z393 := zC_t hZ373K kZ393 (by decide)
            replace hZ393I := zmt (c := 51) hZ393I rfl
            replace hP := zl_e hP hZ393
            refine wz_cV_of (zas (zcons rfl (zcons (zvi (show (6 : Int32) = i3 6 from rfl)) (zcons (zvi (show (9 : Int32) = i3 9 from rfl)) (zcons (zvi (zm_rd (Z := Z373) (ν := ν) (k := 2) (show ((0 : Nat) : Int) = 0 from rfl) (show ((0 : Nat) : Int) = 0 from rfl) (show ((3806 : Nat) : Int) = 3806 from rfl))) (zcons (zvi (show (-1 : Int32) = i3 (-1) from rfl)) rfl))))) c9) ?_
            clear c9
            have r394 := zM_f hZ393I 2 0 0 3807
            refine wz_br (i3Le (zm_rd (Z := Z393) (ν := ν) (k := 2) (show ((0 : Nat) : Int) = 0 from rfl) (show ((0 : Nat) : Int) = 0 from rfl) (show ((3807 : Nat) : Int) = 3807 from rfl)) (show (0 : Int32) = i3 0 from rfl) (by omega) (by omega) (by omega) (by omega)) (fun h395 => ?_) (fun h395 => ?_)
            · replace hP := zE_p hP h395
              have r396 := w3_r (-(Z393 2 0 0 3807))
              obtain ⟨Z397, hZ397, c9, hZ397I, kZ397, jZ397⟩ := sp_403 (ν := ν) hZ393I (a1 := 9) (by omega) (a2 := 7) (by omega) (a3 := (w3 (-(Z393 2 0 0 3807)))) (by omega) (a4 := (-1)) (by omega) (zbh (c := 51) (k := 1) hM (Nat.le_of_ble_eq_true rfl))
              have hZ397U : zU [] Z Z397 := zU_t hZ393U jZ397 zU_b0
              have hZ397K : zC [2] Z Z397 := zC_t hZ393K kZ397 (by decide)
              replace hZ397I := zmt (c := 52) hZ397I rfl
              replace hP := zl_e hP hZ397
              refine wz_cV_of (zas (zcons rfl (zcons (zvi (show (9 : Int32) = i3 9 from rfl)) (zcons (zvi (show (7 : Int32) = i3 7 from rfl)) (zcons (zvi (i3W (i3G (zm_rd (Z := Z393) (ν := ν) (k := 2) (show ((0 : Nat) : Int) = 0 from rfl) (show ((0 : Nat) : Int) = 0 from rfl) (show ((3807 : Nat) : Int) = 3807 from rfl))))) (zcons (zvi (show (-1 : Int32) = i3 (-1) from rfl)) rfl))))) c9) ?_
              clear c9
              have r398 := zM_f hZ397I 2 0 0 3808
              refine wz_br (i3Le (zm_rd (Z := Z397) (ν := ν) (k := 2) (show ((0 : Nat) : Int) = 0 from rfl) (show ((0 : Nat) : Int) = 0 from rfl) (show ((3808 : Nat) : Int) = 3808 from rfl)) (show (0 : Int32) = i3 0 from rfl) (by omega) (by omega) (by omega) (by omega)) (fun h399 => ?_) (fun h399 => ?_)
              · replace hP := zE_p hP h399
                have r400 := w3_r (-(Z397 2 0 0 3808))
                obtain ⟨Z401, hZ401, c9, hZ401I, kZ401, jZ401⟩ := sp_403 (ν := ν) hZ397I (a1 := 9) (by omega) (a2 := 8) (by omega) (a3 := (w3 (-(Z397 2 0 0 3808)))) (by omega) (a4 := (-1)) (by omega) (zbh (c := 52) (k := 1) hM (Nat.le_of_ble_eq_true rfl))
                have hZ401U : zU [] Z Z401 := zU_t hZ397U jZ401 zU_b0
                have hZ401K : zC [2] Z Z401 := zC_t hZ397K kZ401 (by decide)
                replace hZ401I := zmt (c := 53) hZ401I rfl
                replace hP := zl_e hP hZ401
                refine wz_cV_of (zas (zcons rfl (zcons (zvi (show (9 : Int32) = i3 9 from rfl)) (zcons (zvi (show (8 : Int32) = i3 8 from rfl)) (zcons (zvi (i3W (i3G (zm_rd (Z := Z397) (ν := ν) (k := 2) (show ((0 : Nat) : Int) = 0 from rfl) (show ((0 : Nat) : Int) = 0 from rfl) (show ((3808 : Nat) : Int) = 3808 from rfl))))) (zcons (zvi (show (-1 : Int32) = i3 (-1) from rfl)) rfl))))) c9) ?_
                clear c9
                exact zlV hP ⟨hZ401I, hZ401K, hZ401U⟩
              · replace hP := zE_n hP h399
                obtain ⟨Z402, hZ402, c9, hZ402I, kZ402, jZ402⟩ := sp_403 (ν := ν) hZ397I (a1 := 8) (by omega) (a2 := 9) (by omega) (a3 := (Z397 2 0 0 3808)) (by omega) (a4 := (-1)) (by omega) (zbh (c := 52) (k := 1) hM (Nat.le_of_ble_eq_true rfl))
                have hZ402U : zU [] Z Z402 := zU_t hZ397U jZ402 zU_b0
                have hZ402K : zC [2] Z Z402 := zC_t hZ397K kZ402 (by decide)
                replace hZ402I := zmt (c := 53) hZ402I rfl
                replace hP := zl_e hP hZ402
                refine wz_cV_of (zas (zcons rfl (zcons (zvi (show (8 : Int32) = i3 8 from rfl)) (zcons (zvi (show (9 : Int32) = i3 9 from rfl)) (zcons (zvi (zm_rd (Z := Z397) (ν := ν) (k := 2) (show ((0 : Nat) : Int) = 0 from rfl) (show ((0 : Nat) : Int) = 0 from rfl) (show ((3808 : Nat) : Int) = 3808 from rfl))) (zcons (zvi (show (-1 : Int32) = i3 (-1) from rfl)) rfl))))) c9) ?_
                clear c9
                exact zlV hP ⟨hZ402I, hZ402K, hZ402U⟩
            · replace hP := zE_n hP h395
              obtain ⟨Z403, hZ403, c9, hZ403I, kZ403, jZ403⟩ := sp_403 (ν := ν) hZ393I (a1 := 7) (by omega) (a2 := 9) (by omega) (a3 := (Z393 2 0 0 3807)) (by omega) (a4 := (-1)) (by omega) (zbh (c := 51) (k := 1) hM (Nat.le_of_ble_eq_true rfl))
              have hZ403U : zU [] Z Z403 := zU_t hZ393U jZ403 zU_b0
              have hZ403K : zC [2] Z Z403 := zC_t hZ393K kZ403 (by decide)
              replace hZ403I := zmt (c := 52) hZ403I rfl
              replace hP := zl_e hP hZ403
              refine wz_cV_of (zas (zcons rfl (zcons (zvi (show (7 : Int32) = i3 7 from rfl)) (zcons (zvi (show (9 : Int32) = i3 9 from rfl)) (zcons (zvi (zm_rd (Z := Z393) (ν := ν) (k := 2) (show ((0 : Nat) : Int) = 0 from rfl) (show ((0 : Nat) : Int) = 0 from rfl) (show ((3807 : Nat) : Int) = 3807 from rfl))) (zcons (zvi (show (-1 : Int32) = i3 (-1) from rfl)) rfl))))) c9) ?_
              clear c9
              have r404 := zM_f hZ403I 2 0 0 3808
              refine wz_br (i3Le (zm_rd (Z := Z403) (ν := ν) (k := 2) (show ((0 : Nat) : Int) = 0 from rfl) (show ((0 : Nat) : Int) = 0 from rfl) (show ((3808 : Nat) : Int) = 3808 from rfl)) (show (0 : Int32) = i3 0 from rfl) (by omega) (by omega) (by omega) (by omega)) (fun h405 => ?_) (fun h405 => ?_)
              · replace hP := zE_p hP h405
                have r406 := w3_r (-(Z403 2 0 0 3808))
                obtain ⟨Z407, hZ407, c9, hZ407I, kZ407, jZ407⟩ := sp_403 (ν := ν) hZ403I (a1 := 9) (by omega) (a2 := 8) (by omega) (a3 := (w3 (-(Z403 2 0 0 3808)))) (by omega) (a4 := (-1)) (by omega) (zbh (c := 52) (k := 1) hM (Nat.le_of_ble_eq_true rfl))
                have hZ407U : zU [] Z Z407 := zU_t hZ403U jZ407 zU_b0
                have hZ407K : zC [2] Z Z407 := zC_t hZ403K kZ407 (by decide)
                replace hZ407I := zmt (c := 53) hZ407I rfl
                replace hP := zl_e hP hZ407
                refine wz_cV_of (zas (zcons rfl (zcons (zvi (show (9 : Int32) = i3 9 from rfl)) (zcons (zvi (show (8 : Int32) = i3 8 from rfl)) (zcons (zvi (i3W (i3G (zm_rd (Z := Z403) (ν := ν) (k := 2) (show ((0 : Nat) : Int) = 0 from rfl) (show ((0 : Nat) : Int) = 0 from rfl) (show ((3808 : Nat) : Int) = 3808 from rfl))))) (zcons (zvi (show (-1 : Int32) = i3 (-1) from rfl)) rfl))))) c9) ?_
                clear c9
                exact zlV hP ⟨hZ407I, hZ407K, hZ407U⟩
              · replace hP := zE_n hP h405
                obtain ⟨Z408, hZ408, c9, hZ408I, kZ408, jZ408⟩ := sp_403 (ν := ν) hZ403I (a1 := 8) (by omega) (a2 := 9) (by omega) (a3 := (Z403 2 0 0 3808)) (by omega) (a4 := (-1)) (by omega) (zbh (c := 52) (k := 1) hM (Nat.le_of_ble_eq_true rfl))
                have hZ408U : zU [] Z Z408 := zU_t hZ403U jZ408 zU_b0
                have hZ408K : zC [2] Z Z408 := zC_t hZ403K kZ408 (by decide)
                replace hZ408I := zmt (c := 53) hZ408I rfl
                replace hP := zl_e hP hZ408
                refine wz_cV_of (zas (zcons rfl (zcons (zvi (show (8 : Int32) = i3 8 from rfl)) (zcons (zvi (show (9 : Int32) = i3 9 from rfl)) (zcons (zvi (zm_rd (Z := Z403) (ν := ν) (k := 2) (show ((0 : Nat) : Int) = 0 from rfl) (show ((0 : Nat) : Int) = 0 from rfl) (show ((3808 : Nat) : Int) = 3808 from rfl))) (zcons (zvi (show (-1 : Int32) = i3 (-1) from rfl)) rfl))))) c9) ?_
                clear c9
                exact zlV hP ⟨hZ408I, hZ408K, hZ408U⟩
      · replace hP := zE_n hP h331
        obtain ⟨Z409, hZ409, c9, hZ409I, kZ409, jZ409⟩ := sp_403 (ν := ν) hZ329I (a1 := 4) (by omega) (a2 := 9) (by omega) (a3 := (Z329 2 0 0 3804)) (by omega) (a4 := (-1)) (by omega) (zbh (c := 48) (k := 1) hM (Nat.le_of_ble_eq_true rfl))
        have hZ409U : zU [] Z Z409 := zU_t hZ329U jZ409 zU_b0
        have hZ409K : zC [2] Z Z409 := zC_t hZ329K kZ409 (by decide)
        replace hZ409I := zmt (c := 49) hZ409I rfl
        replace hP := zl_e hP hZ409
        refine wz_cV_of (zas (zcons rfl (zcons (zvi (show (4 : Int32) = i3 4 from rfl)) (zcons (zvi (show (9 : Int32) = i3 9 from rfl)) (zcons (zvi (zm_rd (Z := Z329) (ν := ν) (k := 2) (show ((0 : Nat) : Int) = 0 from rfl) (show ((0 : Nat) : Int) = 0 from rfl) (show ((3804 : Nat) : Int) = 3804 from rfl))) (zcons (zvi (show (-1 : Int32) = i3 (-1) from rfl)) rfl))))) c9) ?_
        clear c9
        have r410 := zM_f hZ409I 2 0 0 3805
        refine wz_br (i3Le (zm_rd (Z := Z409) (ν := ν) (k := 2) (show ((0 : Nat) : Int) = 0 from rfl) (show ((0 : Nat) : Int) = 0 from rfl) (show ((3805 : Nat) : Int) = 3805 from rfl)) (show (0 : Int32) = i3 0 from rfl) (by omega) (by omega) (by omega) (by omega)) (fun h411 => ?_) (fun h411 => ?_)
        · replace hP := zE_p hP h411
          have r412 := w3_r (-(Z409 2 0 0 3805))
          obtain ⟨Z413, hZ413, c9, hZ413I, kZ413, jZ413⟩ := sp_403 (ν := ν) hZ409I (a1 := 9) (by omega) (a2 := 5) (by omega) (a3 := (w3 (-(Z409 2 0 0 3805)))) (by omega) (a4 := (-1)) (by omega) (zbh (c := 49) (k := 1) hM (Nat.le_of_ble_eq_true rfl))
          have hZ413U : zU [] Z Z413 := zU_t hZ409U jZ413 zU_b0
          have hZ413K : zC [2] Z Z413 := zC_t hZ409K kZ413 (by decide)
          replace hZ413I := zmt (c := 50) hZ413I rfl
          replace hP := zl_e hP hZ413
          refine wz_cV_of (zas (zcons rfl (zcons (zvi (show (9 : Int32) = i3 9 from rfl)) (zcons (zvi (show (5 : Int32) = i3 5 from rfl)) (zcons (zvi (i3W (i3G (zm_rd (Z := Z409) (ν := ν) (k := 2) (show ((0 : Nat) : Int) = 0 from rfl) (show ((0 : Nat) : Int) = 0 from rfl) (show ((3805 : Nat) : Int) = 3805 from rfl))))) (zcons (zvi (show (-1 : Int32) = i3 (-1) from rfl)) rfl))))) c9) ?_
          clear c9
          have r414 := zM_f hZ413I 2 0 0 3806
          refine wz_br (i3Le (zm_rd (Z := Z413) (ν := ν) (k := 2) (show ((0 : Nat) : Int) = 0 from rfl) (show ((0 : Nat) : Int) = 0 from rfl) (show ((3806 : Nat) : Int) = 3806 from rfl)) (show (0 : Int32) = i3 0 from rfl) (by omega) (by omega) (by omega) (by omega)) (fun h415 => ?_) (fun h415 => ?_)
          · replace hP := zE_p hP h415
            have r416 := w3_r (-(Z413 2 0 0 3806))
            obtain ⟨Z417, hZ417, c9, hZ417I, kZ417, jZ417⟩ := sp_403 (ν := ν) hZ413I (a1 := 9) (by omega) (a2 := 6) (by omega) (a3 := (w3 (-(Z413 2 0 0 3806)))) (by omega) (a4 := (-1)) (by omega) (zbh (c := 50) (k := 1) hM (Nat.le_of_ble_eq_true rfl))
            have hZ417U : zU [] Z Z417 := zU_t hZ413U jZ417 zU_b0
            have hZ417K : zC [2] Z Z417 := zC_t hZ413K kZ417 (by decide)
            replace hZ417I := zmt (c := 51) hZ417I rfl
            replace hP := zl_e hP hZ417
            refine wz_cV_of (zas (zcons rfl (zcons (zvi (show (9 : Int32) = i3 9 from rfl)) (zcons (zvi (show (6 : Int32) = i3 6 from rfl)) (zcons (zvi (i3W (i3G (zm_rd (Z := Z413) (ν := ν) (k := 2) (show ((0 : Nat) : Int) = 0 from rfl) (show ((0 : Nat) : Int) = 0 from rfl) (show ((3806 : Nat) : Int) = 3806 from rfl))))) (zcons (zvi (show (-1 : Int32) = i3 (-1) from rfl)) rfl))))) c9) ?_
            clear c9
            have r418 := zM_f hZ417I 2 0 0 3807
            refine wz_br (i3Le (zm_rd (Z := Z417) (ν := ν) (k := 2) (show ((0 : Nat) : Int) = 0 from rfl) (show ((0 : Nat) : Int) = 0 from rfl) (show ((3807 : Nat) : Int) = 3807 from rfl)) (show (0 : Int32) = i3 0 from rfl) (by omega) (by omega) (by omega) (by omega)) (fun h419 => ?_) (fun h419 => ?_)
            · replace hP := zE_p hP h419
              have r420 := w3_r (-(Z417 2 0 0 3807))
              obtain ⟨Z421, hZ421, c9, hZ421I, kZ421, jZ421⟩ := sp_403 (ν := ν) hZ417I (a1 := 9) (by omega) (a2 := 7) (by omega) (a3 := (w3 (-(Z417 2 0 0 3807)))) (by omega) (a4 := (-1)) (by omega) (zbh (c := 51) (k := 1) hM (Nat.le_of_ble_eq_true rfl))
              have hZ421U : zU [] Z Z421 := zU_t hZ417U jZ421 zU_b0
              have hZ421K : zC [2] Z Z421 := zC_t hZ417K kZ421 (by decide)
              replace hZ421I := zmt (c := 52) hZ421I rfl
              replace hP := zl_e hP hZ421
              refine wz_cV_of (zas (zcons rfl (zcons (zvi (show (9 : Int32) = i3 9 from rfl)) (zcons (zvi (show (7 : Int32) = i3 7 from rfl)) (zcons (zvi (i3W (i3G (zm_rd (Z := Z417) (ν := ν) (k := 2) (show ((0 : Nat) : Int) = 0 from rfl) (show ((0 : Nat) : Int) = 0 from rfl) (show ((3807 : Nat) : Int) = 3807 from rfl))))) (zcons (zvi (show (-1 : Int32) = i3 (-1) from rfl)) rfl))))) c9) ?_
              clear c9
              have r422 := zM_f hZ421I 2 0 0 3808
              refine wz_br (i3Le (zm_rd (Z := Z421) (ν := ν) (k := 2) (show ((0 : Nat) : Int) = 0 from rfl) (show ((0 : Nat) : Int) = 0 from rfl) (show ((3808 : Nat) : Int) = 3808 from rfl)) (show (0 : Int32) = i3 0 from rfl) (by omega) (by omega) (by omega) (by omega)) (fun h423 => ?_) (fun h423 => ?_)
              · replace hP := zE_p hP h423
                have r424 := w3_r (-(Z421 2 0 0 3808))
                obtain ⟨Z425, hZ425, c9, hZ425I, kZ425, jZ425⟩ := sp_403 (ν := ν) hZ421I (a1 := 9) (by omega) (a2 := 8) (by omega) (a3 := (w3 (-(Z421 2 0 0 3808)))) (by omega) (a4 := (-1)) (by omega) (zbh (c := 52) (k := 1) hM (Nat.le_of_ble_eq_true rfl))
                have hZ425U : zU [] Z Z425 := zU_t hZ421U jZ425 zU_b0
                have hZ425K : zC [2] Z Z425 := zC_t hZ421K kZ425 (by decide)
                replace hZ425I := zmt (c := 53) hZ425I rfl
                replace hP := zl_e hP hZ425
                refine wz_cV_of (zas (zcons rfl (zcons (zvi (show (9 : Int32) = i3 9 from rfl)) (zcons (zvi (show (8 : Int32) = i3 8 from rfl)) (zcons (zvi (i3W (i3G (zm_rd (Z := Z421) (ν := ν) (k := 2) (show ((0 : Nat) : Int) = 0 from rfl) (show ((0 : Nat) : Int) = 0 from rfl) (show ((3808 : Nat) : Int) = 3808 from rfl))))) (zcons (zvi (show (-1 : Int32) = i3 (-1) from rfl)) rfl))))) c9) ?_
                clear c9
                exact zlV hP ⟨hZ425I, hZ425K, hZ425U⟩
              · replace hP := zE_n hP h423
                obtain ⟨Z426, hZ426, c9, hZ426I, kZ426, jZ426⟩ := sp_403 (ν := ν) hZ421I (a1 := 8) (by omega) (a2 := 9) (by omega) (a3 := (Z421 2 0 0 3808)) (by omega) (a4 := (-1)) (by omega) (zbh (c := 52) (k := 1) hM (Nat.le_of_ble_eq_true rfl))
                have hZ426U : zU [] Z Z426 := zU_t hZ421U jZ426 zU_b0
                have hZ426K : zC [2] Z Z426 := zC_t hZ421K kZ426 (by decide)
                replace hZ426I := zmt (c := 53) hZ426I rfl
                replace hP := zl_e hP hZ426
                refine wz_cV_of (zas (zcons rfl (zcons (zvi (show (8 : Int32) = i3 8 from rfl)) (zcons (zvi (show (9 : Int32) = i3 9 from rfl)) (zcons (zvi (zm_rd (Z := Z421) (ν := ν) (k := 2) (show ((0 : Nat) : Int) = 0 from rfl) (show ((0 : Nat) : Int) = 0 from rfl) (show ((3808 : Nat) : Int) = 3808 from rfl))) (zcons (zvi (show (-1 : Int32) = i3 (-1) from rfl)) rfl))))) c9) ?_
                clear c9
                exact zlV hP ⟨hZ426I, hZ426K, hZ426U⟩
            · replace hP := zE_n hP h419
              obtain ⟨Z427, hZ427, c9, hZ427I, kZ427, jZ427⟩ := sp_403 (ν := ν) hZ417I (a1 := 7) (by omega) (a2 := 9) (by omega) (a3 := (Z417 2 0 0 3807)) (by omega) (a4 := (-1)) (by omega) (zbh (c := 51) (k := 1) hM (Nat.le_of_ble_eq_true rfl))
              have hZ427U : zU [] Z Z427 := zU_t hZ417U jZ427 zU_b0
              have hZ427K : zC [2] Z Z427 := zC_t hZ417K kZ427 (by decide)
              replace hZ427I := zmt (c := 52) hZ427I rfl
              replace hP := zl_e hP hZ427
              refine wz_cV_of (zas (zcons rfl (zcons (zvi (show (7 : Int32) = i3 7 from rfl)) (zcons (zvi (show (9 : Int32) = i3 9 from rfl)) (zcons (zvi (zm_rd (Z := Z417) (ν := ν) (k := 2) (show ((0 : Nat) : Int) = 0 from rfl) (show ((0 : Nat) : Int) = 0 from rfl) (show ((3807 : Nat) : Int) = 3807 from rfl))) (zcons (zvi (show (-1 : Int32) = i3 (-1) from rfl)) rfl))))) c9) ?_
              clear c9
              have r428 := zM_f hZ427I 2 0 0 3808
              refine wz_br (i3Le (zm_rd (Z := Z427) (ν := ν) (k := 2) (show ((0 : Nat) : Int) = 0 from rfl) (show ((0 : Nat) : Int) = 0 from rfl) (show ((3808 : Nat) : Int) = 3808 from rfl)) (show (0 : Int32) = i3 0 from rfl) (by omega) (by omega) (by omega) (by omega)) (fun h429 => ?_) (fun h429 => ?_)
              · replace hP := zE_p hP h429
                have r430 := w3_r (-(Z427 2 0 0 3808))
                obtain ⟨Z431, hZ431, c9, hZ431I, kZ431, jZ431⟩ := sp_403 (ν := ν) hZ427I (a1 := 9) (by omega) (a2 := 8) (by omega) (a3 := (w3 (-(Z427 2 0 0 3808)))) (by omega) (a4 := (-1)) (by omega) (zbh (c := 52) (k := 1) hM (Nat.le_of_ble_eq_true rfl))
                have hZ431U : zU [] Z Z431 := zU_t hZ427U jZ431 zU_b0
                have hZ431K : zC [2] Z Z431 := zC_t hZ427K kZ431 (by decide)
                replace hZ431I := zmt (c := 53) hZ431I rfl
                replace hP := zl_e hP hZ431
                refine wz_cV_of (zas (zcons rfl (zcons (zvi (show (9 : Int32) = i3 9 from rfl)) (zcons (zvi (show (8 : Int32) = i3 8 from rfl)) (zcons (zvi (i3W (i3G (zm_rd (Z := Z427) (ν := ν) (k := 2) (show ((0 : Nat) : Int) = 0 from rfl) (show ((0 : Nat) : Int) = 0 from rfl) (show ((3808 : Nat) : Int) = 3808 from rfl))))) (zcons (zvi (show (-1 : Int32) = i3 (-1) from rfl)) rfl))))) c9) ?_
                clear c9
                exact zlV hP ⟨hZ431I, hZ431K, hZ431U⟩
              · replace hP := zE_n hP h429
                obtain ⟨Z432, hZ432, c9, hZ432I, kZ432, jZ432⟩ := sp_403 (ν := ν) hZ427I (a1 := 8) (by omega) (a2 := 9) (by omega) (a3 := (Z427 2 0 0 3808)) (by omega) (a4 := (-1)) (by omega) (zbh (c := 52) (k := 1) hM (Nat.le_of_ble_eq_true rfl))
                have hZ432U : zU [] Z Z432 := zU_t hZ427U jZ432 zU_b0
                have hZ432K : zC [2] Z Z432 := zC_t hZ427K kZ432 (by decide)
                replace hZ432I := zmt (c := 53) hZ432I rfl
                replace hP := zl_e hP hZ432
                refine wz_cV_of (zas (zcons rfl (zcons (zvi (show (8 : Int32) = i3 8 from rfl)) (zcons (zvi (show (9 : Int32) = i3 9 from rfl)) (zcons (zvi (zm_rd (Z := Z427) (ν := ν) (k := 2) (show ((0 : Nat) : Int) = 0 from rfl) (show ((0 : Nat) : Int) = 0 from rfl) (show ((3808 : Nat) : Int) = 3808 from rfl))) (zcons (zvi (show (-1 : Int32) = i3 (-1) from rfl)) rfl))))) c9) ?_
                clear c9
                exact zlV hP ⟨hZ432I, hZ432K, hZ432U⟩
          · replace hP := zE_n hP h415
            obtain ⟨Z433, hZ433, c9, hZ433I, kZ433, jZ433⟩ := sp_403 (ν := ν) hZ413I (a1 := 6) (by omega) (a2 := 9) (by omega) (a3 := (Z413 2 0 0 3806)) (by omega) (a4 := (-1)) (by omega) (zbh (c := 50) (k := 1) hM (Nat.le_of_ble_eq_true rfl))
            have hZ433U : zU [] Z Z433 := zU_t hZ413U jZ433 zU_b0
            have hZ433K : zC [2] Z Z433 := zC_t hZ413K kZ433 (by decide)
            replace hZ433I := zmt (c := 51) hZ433I rfl
            replace hP := zl_e hP hZ433
            refine wz_cV_of (zas (zcons rfl (zcons (zvi (show (6 : Int32) = i3 6 from rfl)) (zcons (zvi (show (9 : Int32) = i3 9 from rfl)) (zcons (zvi (zm_rd (Z := Z413) (ν := ν) (k := 2) (show ((0 : Nat) : Int) = 0 from rfl) (show ((0 : Nat) : Int) = 0 from rfl) (show ((3806 : Nat) : Int) = 3806 from rfl))) (zcons (zvi (show (-1 : Int32) = i3 (-1) from rfl)) rfl))))) c9) ?_
            clear c9
            have r434 := zM_f hZ433I 2 0 0 3807
            refine wz_br (i3Le (zm_rd (Z := Z433) (ν := ν) (k := 2) (show ((0 : Nat) : Int) = 0 from rfl) (show ((0 : Nat) : Int) = 0 from rfl) (show ((3807 : Nat) : Int) = 3807 from rfl)) (show (0 : Int32) = i3 0 from rfl) (by omega) (by omega) (by omega) (by omega)) (fun h435 => ?_) (fun h435 => ?_)
            · replace hP := zE_p hP h435
              have r436 := w3_r (-(Z433 2 0 0 3807))
              obtain ⟨Z437, hZ437, c9, hZ437I, kZ437, jZ437⟩ := sp_403 (ν := ν) hZ433I (a1 := 9) (by omega) (a2 := 7) (by omega) (a3 := (w3 (-(Z433 2 0 0 3807)))) (by omega) (a4 := (-1)) (by omega) (zbh (c := 51) (k := 1) hM (Nat.le_of_ble_eq_true rfl))
              have hZ437U : zU [] Z Z437 := zU_t hZ433U jZ437 zU_b0
              have hZ437K : zC [2] Z Z437 := zC_t hZ433K kZ437 (by decide)
              replace hZ437I := zmt (c := 52) hZ437I rfl
              replace hP := zl_e hP hZ437
              refine wz_cV_of (zas (zcons rfl (zcons (zvi (show (9 : Int32) = i3 9 from rfl)) (zcons (zvi (show (7 : Int32) = i3 7 from rfl)) (zcons (zvi (i3W (i3G (zm_rd (Z := Z433) (ν := ν) (k := 2) (show ((0 : Nat) : Int) = 0 from rfl) (show ((0 : Nat) : Int) = 0 from rfl) (show ((3807 : Nat) : Int) = 3807 from rfl))))) (zcons (zvi (show (-1 : Int32) = i3 (-1) from rfl)) rfl))))) c9) ?_
              clear c9
              have r438 := zM_f hZ437I 2 0 0 3808
              refine wz_br (i3Le (zm_rd (Z := Z437) (ν := ν) (k := 2) (show ((0 : Nat) : Int) = 0 from rfl) (show ((0 : Nat) : Int) = 0 from rfl) (show ((3808 : Nat) : Int) = 3808 from rfl)) (show (0 : Int32) = i3 0 from rfl) (by omega) (by omega) (by omega) (by omega)) (fun h439 => ?_) (fun h439 => ?_)
              · replace hP := zE_p hP h439
                have r440 := w3_r (-(Z437 2 0 0 3808))
                obtain ⟨Z441, hZ441, c9, hZ441I, kZ441, jZ441⟩ := sp_403 (ν := ν) hZ437I (a1 := 9) (by omega) (a2 := 8) (by omega) (a3 := (w3 (-(Z437 2 0 0 3808)))) (by omega) (a4 := (-1)) (by omega) (zbh (c := 52) (k := 1) hM (Nat.le_of_ble_eq_true rfl))
                have hZ441U : zU [] Z Z441 := zU_t hZ437U jZ441 zU_b0
                have hZ441K : zC [2] Z Z441 := zC_t hZ437K kZ441 (by decide)
                replace hZ441I := zmt (c := 53) hZ441I rfl
                replace hP := zl_e hP hZ441
                refine wz_cV_of (zas (zcons rfl (zcons (zvi (show (9 : Int32) = i3 9 from rfl)) (zcons (zvi (show (8 : Int32) = i3 8 from rfl)) (zcons (zvi (i3W (i3G (zm_rd (Z := Z437) (ν := ν) (k := 2) (show ((0 : Nat) : Int) = 0 from rfl) (show ((0 : Nat) : Int) = 0 from rfl) (show ((3808 : Nat) : Int) = 3808 from rfl))))) (zcons (zvi (show (-1 : Int32) = i3 (-1) from rfl)) rfl))))) c9) ?_
                clear c9
                exact zlV hP ⟨hZ441I, hZ441K, hZ441U⟩
              · replace hP := zE_n hP h439
                obtain ⟨Z442, hZ442, c9, hZ442I, kZ442, jZ442⟩ := sp_403 (ν := ν) hZ437I (a1 := 8) (by omega) (a2 := 9) (by omega) (a3 := (Z437 2 0 0 3808)) (by omega) (a4 := (-1)) (by omega) (zbh (c := 52) (k := 1) hM (Nat.le_of_ble_eq_true rfl))
                have hZ442U : zU [] Z Z442 := zU_t hZ437U jZ442 zU_b0
                have hZ442K : zC [2] Z Z442 := zC_t hZ437K kZ442 (by decide)
                replace hZ442I := zmt (c := 53) hZ442I rfl
                replace hP := zl_e hP hZ442
                refine wz_cV_of (zas (zcons rfl (zcons (zvi (show (8 : Int32) = i3 8 from rfl)) (zcons (zvi (show (9 : Int32) = i3 9 from rfl)) (zcons (zvi (zm_rd (Z := Z437) (ν := ν) (k := 2) (show ((0 : Nat) : Int) = 0 from rfl) (show ((0 : Nat) : Int) = 0 from rfl) (show ((3808 : Nat) : Int) = 3808 from rfl))) (zcons (zvi (show (-1 : Int32) = i3 (-1) from rfl)) rfl))))) c9) ?_
                clear c9
                exact zlV hP ⟨hZ442I, hZ442K, hZ442U⟩
            · replace hP := zE_n hP h435
              obtain ⟨Z443, hZ443, c9, hZ443I, kZ443, jZ443⟩ := sp_403 (ν := ν) hZ433I (a1 := 7) (by omega) (a2 := 9) (by omega) (a3 := (Z433 2 0 0 3807)) (by omega) (a4 := (-1)) (by omega) (zbh (c := 51) (k := 1) hM (Nat.le_of_ble_eq_true rfl))
              have hZ443U : zU [] Z Z443 := zU_t hZ433U jZ443 zU_b0
              have hZ443K : zC [2] Z Z443 := zC_t hZ433K kZ443 (by decide)
              replace hZ443I := zmt (c := 52) hZ443I rfl
              replace hP := zl_e hP hZ443
              refine wz_cV_of (zas (zcons rfl (zcons (zvi (show (7 : Int32) = i3 7 from rfl)) (zcons (zvi (show (9 : Int32) = i3 9 from rfl)) (zcons (zvi (zm_rd (Z := Z433) (ν := ν) (k := 2) (show ((0 : Nat) : Int) = 0 from rfl) (show ((0 : Nat) : Int) = 0 from rfl) (show ((3807 : Nat) : Int) = 3807 from rfl))) (zcons (zvi (show (-1 : Int32) = i3 (-1) from rfl)) rfl))))) c9) ?_
              clear c9
              have r444 := zM_f hZ443I 2 0 0 3808
              refine wz_br (i3Le (zm_rd (Z := Z443) (ν := ν) (k := 2) (show ((0 : Nat) : Int) = 0 from rfl) (show ((0 : Nat) : Int) = 0 from rfl) (show ((3808 : Nat) : Int) = 3808 from rfl)) (show (0 : Int32) = i3 0 from rfl) (by omega) (by omega) (by omega) (by omega)) (fun h445 => ?_) (fun h445 => ?_)
              · replace hP := zE_p hP h445
                have r446 := w3_r (-(Z443 2 0 0 3808))
                obtain ⟨Z447, hZ447, c9, hZ447I, kZ447, jZ447⟩ := sp_403 (ν := ν) hZ443I (a1 := 9) (by omega) (a2 := 8) (by omega) (a3 := (w3 (-(Z443 2 0 0 3808)))) (by omega) (a4 := (-1)) (by omega) (zbh (c := 52) (k := 1) hM (Nat.le_of_ble_eq_true rfl))
                have hZ447U : zU [] Z Z447 := zU_t hZ443U jZ447 zU_b0
                have hZ447K : zC [2] Z Z447 := zC_t hZ443K kZ447 (by decide)
                replace hZ447I := zmt (c := 53) hZ447I rfl
                replace hP := zl_e hP hZ447
                refine wz_cV_of (zas (zcons rfl (zcons (zvi (show (9 : Int32) = i3 9 from rfl)) (zcons (zvi (show (8 : Int32) = i3 8 from rfl)) (zcons (zvi (i3W (i3G (zm_rd (Z := Z443) (ν := ν) (k := 2) (show ((0 : Nat) : Int) = 0 from rfl) (show ((0 : Nat) : Int) = 0 from rfl) (show ((3808 : Nat) : Int) = 3808 from rfl))))) (zcons (zvi (show (-1 : Int32) = i3 (-1) from rfl)) rfl))))) c9) ?_
                clear c9
                exact zlV hP ⟨hZ447I, hZ447K, hZ447U⟩
              · replace hP := zE_n hP h445
                obtain ⟨Z448, hZ448, c9, hZ448I, kZ448, jZ448⟩ := sp_403 (ν := ν) hZ443I (a1 := 8) (by omega) (a2 := 9) (by omega) (a3 := (Z443 2 0 0 3808)) (by omega) (a4 := (-1)) (by omega) (zbh (c := 52) (k := 1) hM (Nat.le_of_ble_eq_true rfl))
                have hZ448U : zU [] Z Z448 := zU_t hZ443U jZ448 zU_b0
                have hZ448K : zC [2] Z Z448 := zC_t hZ443K kZ448 (by decide)
                replace hZ448I := zmt (c := 53) hZ448I rfl
                replace hP := zl_e hP hZ448
                refine wz_cV_of (zas (zcons rfl (zcons (zvi (show (8 : Int32) = i3 8 from rfl)) (zcons (zvi (show (9 : Int32) = i3 9 from rfl)) (zcons (zvi (zm_rd (Z := Z443) (ν := ν) (k := 2) (show ((0 : Nat) : Int) = 0 from rfl) (show ((0 : Nat) : Int) = 0 from rfl) (show ((3808 : Nat) : Int) = 3808 from rfl))) (zcons (zvi (show (-1 : Int32) = i3 (-1) from rfl)) rfl))))) c9) ?_
                clear c9
                exact zlV hP ⟨hZ448I, hZ448K, hZ448U⟩
        · replace hP := zE_n hP h411
          obtain ⟨Z449, hZ449, c9, hZ449I, kZ449, jZ449⟩ := sp_403 (ν := ν) hZ409I (a1 := 5) (by omega) (a2 := 9) (by omega) (a3 := (Z409 2 0 0 3805)) (by omega) (a4 := (-1)) (by omega) (zbh (c := 49) (k := 1) hM (Nat.le_of_ble_eq_true rfl))
          have hZ449U : zU [] Z Z449 := zU_t hZ409U jZ449 zU_b0
          have hZ449K : zC [2] Z Z449 := zC_t hZ409K kZ449 (by decide)
          replace hZ449I := zmt (c := 50) hZ449I rfl
          replace hP := zl_e hP hZ449
          refine wz_cV_of (zas (zcons rfl (zcons (zvi (show (5 : Int32) = i3 5 from rfl)) (zcons (zvi (show (9 : Int32) = i3 9 from rfl)) (zcons (zvi (zm_rd (Z := Z409) (ν := ν) (k := 2) (show ((0 : Nat) : Int) = 0 from rfl) (show ((0 : Nat) : Int) = 0 from rfl) (show ((3805 : Nat) : Int) = 3805 from rfl))) (zcons (zvi (show (-1 : Int32) = i3 (-1) from rfl)) rfl))))) c9) ?_
          clear c9
          have r450 := zM_f hZ449I 2 0 0 3806
          refine wz_br (i3Le (zm_rd (Z := Z449) (ν := ν) (k := 2) (show ((0 : Nat) : Int) = 0 from rfl) (show ((0 : Nat) : Int) = 0 from rfl) (show ((3806 : Nat) : Int) = 3806 from rfl)) (show (0 : Int32) = i3 0 from rfl) (by omega) (by omega) (by omega) (by omega)) (fun h451 => ?_) (fun h451 => ?_)
          · replace hP := zE_p hP h451
            have r452 := w3_r (-(Z449 2 0 0 3806))
            obtain ⟨Z453, hZ453, c9, hZ453I, kZ453, jZ453⟩ := sp_403 (ν := ν) hZ449I (a1 := 9) (by omega) (a2 := 6) (by omega) (a3 := (w3 (-(Z449 2 0 0 3806)))) (by omega) (a4 := (-1)) (by omega) (zbh (c := 50) (k := 1) hM (Nat.le_of_ble_eq_true rfl))
            have hZ453U : zU [] Z Z453 := zU_t hZ449U jZ453 zU_b0
            have hZ453K : zC [2] Z Z453 := zC_t hZ449K kZ453 (by decide)
            replace hZ453I := zmt (c := 51) hZ453I rfl
            replace hP := zl_e hP hZ453
            refine wz_cV_of (zas (zcons rfl (zcons (zvi (show (9 : Int32) = i3 9 from rfl)) (zcons (zvi (show (6 : Int32) = i3 6 from rfl)) (zcons (zvi (i3W (i3G (zm_rd (Z := Z449) (ν := ν) (k := 2) (show ((0 : Nat) : Int) = 0 from rfl) (show ((0 : Nat) : Int) = 0 from rfl) (show ((3806 : Nat) : Int) = 3806 from rfl))))) (zcons (zvi (show (-1 : Int32) = i3 (-1) from rfl)) rfl))))) c9) ?_
            clear c9
            have r454 := zM_f hZ453I 2 0 0 3807
            refine wz_br (i3Le (zm_rd (Z := Z453) (ν := ν) (k := 2) (show ((0 : Nat) : Int) = 0 from rfl) (show ((0 : Nat) : Int) = 0 from rfl) (show ((3807 : Nat) : Int) = 3807 from rfl)) (show (0 : Int32) = i3 0 from rfl) (by omega) (by omega) (by omega) (by omega)) (fun h455 => ?_) (fun h455 => ?_)
            · replace hP := zE_p hP h455
              have r456 := w3_r (-(Z453 2 0 0 3807))
              obtain ⟨Z457, hZ457, c9, hZ457I, kZ457, jZ457⟩ := sp_403 (ν := ν) hZ453I (a1 := 9) (by omega) (a2 := 7) (by omega) (a3 := (w3 (-(Z453 2 0 0 3807)))) (by omega) (a4 := (-1)) (by omega) (zbh (c := 51) (k := 1) hM (Nat.le_of_ble_eq_true rfl))
              have hZ457U : zU [] Z Z457 := zU_t hZ453U jZ457 zU_b0
              have hZ457K : zC [2] Z Z457 := zC_t hZ453K kZ457 (by decide)
              replace hZ457I := zmt (c := 52) hZ457I rfl
              replace hP := zl_e hP hZ457
              refine wz_cV_of (zas (zcons rfl (zcons (zvi (show (9 : Int32) = i3 9 from rfl)) (zcons (zvi (show (7 : Int32) = i3 7 from rfl)) (zcons (zvi (i3W (i3G (zm_rd (Z := Z453) (ν := ν) (k := 2) (show ((0 : Nat) : Int) = 0 from rfl) (show ((0 : Nat) : Int) = 0 from rfl) (show ((3807 : Nat) : Int) = 3807 from rfl))))) (zcons (zvi (show (-1 : Int32) = i3 (-1) from rfl)) rfl))))) c9) ?_
              clear c9
              have r458 := zM_f hZ457I 2 0 0 3808
              refine wz_br (i3Le (zm_rd (Z := Z457) (ν := ν) (k := 2) (show ((0 : Nat) : Int) = 0 from rfl) (show ((0 : Nat) : Int) = 0 from rfl) (show ((3808 : Nat) : Int) = 3808 from rfl)) (show (0 : Int32) = i3 0 from rfl) (by omega) (by omega) (by omega) (by omega)) (fun h459 => ?_) (fun h459 => ?_)
              · replace hP := zE_p hP h459
                have r460 := w3_r (-(Z457 2 0 0 3808))
                obtain ⟨Z461, hZ461, c9, hZ461I, kZ461, jZ461⟩ := sp_403 (ν := ν) hZ457I (a1 := 9) (by omega) (a2 := 8) (by omega) (a3 := (w3 (-(Z457 2 0 0 3808)))) (by omega) (a4 := (-1)) (by omega) (zbh (c := 52) (k := 1) hM (Nat.le_of_ble_eq_true rfl))
                have hZ461U : zU [] Z Z461 := zU_t hZ457U jZ461 zU_b0
                have hZ461K : zC [2] Z Z461 := zC_t hZ457K kZ461 (by decide)
                replace hZ461I := zmt (c := 53) hZ461I rfl
                replace hP := zl_e hP hZ461
                refine wz_cV_of (zas (zcons rfl (zcons (zvi (show (9 : Int32) = i3 9 from rfl)) (zcons (zvi (show (8 : Int32) = i3 8 from rfl)) (zcons (zvi (i3W (i3G (zm_rd (Z := Z457) (ν := ν) (k := 2) (show ((0 : Nat) : Int) = 0 from rfl) (show ((0 : Nat) : Int) = 0 from rfl) (show ((3808 : Nat) : Int) = 3808 from rfl))))) (zcons (zvi (show (-1 : Int32) = i3 (-1) from rfl)) rfl))))) c9) ?_
                clear c9
                exact zlV hP ⟨hZ461I, hZ461K, hZ461U⟩
              · replace hP := zE_n hP h459
                obtain ⟨Z462, hZ462, c9, hZ462I, kZ462, jZ462⟩ := sp_403 (ν := ν) hZ457I (a1 := 8) (by omega) (a2 := 9) (by omega) (a3 := (Z457 2 0 0 3808)) (by omega) (a4 := (-1)) (by omega) (zbh (c := 52) (k := 1) hM (Nat.le_of_ble_eq_true rfl))
                have hZ462U : zU [] Z Z462 := zU_t hZ457U jZ462 zU_b0
                have hZ462K : zC [2] Z Z462 := zC_t hZ457K kZ462 (by decide)
                replace hZ462I := zmt (c := 53) hZ462I rfl
                replace hP := zl_e hP hZ462
                refine wz_cV_of (zas (zcons rfl (zcons (zvi (show (8 : Int32) = i3 8 from rfl)) (zcons (zvi (show (9 : Int32) = i3 9 from rfl)) (zcons (zvi (zm_rd (Z := Z457) (ν := ν) (k := 2) (show ((0 : Nat) : Int) = 0 from rfl) (show ((0 : Nat) : Int) = 0 from rfl) (show ((3808 : Nat) : Int) = 3808 from rfl))) (zcons (zvi (show (-1 : Int32) = i3 (-1) from rfl)) rfl))))) c9) ?_
                clear c9
                exact zlV hP ⟨hZ462I, hZ462K, hZ462U⟩
            · replace hP := zE_n hP h455
              obtain ⟨Z463, hZ463, c9, hZ463I, kZ463, jZ463⟩ := sp_403 (ν := ν) hZ453I (a1 := 7) (by omega) (a2 := 9) (by omega) (a3 := (Z453 2 0 0 3807)) (by omega) (a4 := (-1)) (by omega) (zbh (c := 51) (k := 1) hM (Nat.le_of_ble_eq_true rfl))
              have hZ463U : zU [] Z Z463 := zU_t hZ453U jZ463 zU_b0
              have hZ463K : zC [2] Z Z463 := zC_t hZ453K kZ463 (by decide)
              replace hZ463I := zmt (c := 52) hZ463I rfl
              replace hP := zl_e hP hZ463
              refine wz_cV_of (zas (zcons rfl (zcons (zvi (show (7 : Int32) = i3 7 from rfl)) (zcons (zvi (show (9 : Int32) = i3 9 from rfl)) (zcons (zvi (zm_rd (Z := Z453) (ν := ν) (k := 2) (show ((0 : Nat) : Int) = 0 from rfl) (show ((0 : Nat) : Int) = 0 from rfl) (show ((3807 : Nat) : Int) = 3807 from rfl))) (zcons (zvi (show (-1 : Int32) = i3 (-1) from rfl)) rfl))))) c9) ?_
              clear c9
              have r464 := zM_f hZ463I 2 0 0 3808
              refine wz_br (i3Le (zm_rd (Z := Z463) (ν := ν) (k := 2) (show ((0 : Nat) : Int) = 0 from rfl) (show ((0 : Nat) : Int) = 0 from rfl) (show ((3808 : Nat) : Int) = 3808 from rfl)) (show (0 : Int32) = i3 0 from rfl) (by omega) (by omega) (by omega) (by omega)) (fun h465 => ?_) (fun h465 => ?_)
              · replace hP := zE_p hP h465
                have r466 := w3_r (-(Z463 2 0 0 3808))
                obtain ⟨Z467, hZ467, c9, hZ467I, kZ467, jZ467⟩ := sp_403 (ν := ν) hZ463I (a1 := 9) (by omega) (a2 := 8) (by omega) (a3 := (w3 (-(Z463 2 0 0 3808)))) (by omega) (a4 := (-1)) (by omega) (zbh (c := 52) (k := 1) hM (Nat.le_of_ble_eq_true rfl))
                have hZ467U : zU [] Z Z467 := zU_t hZ463U jZ467 zU_b0
                have hZ467K : zC [2] Z Z467 := zC_t hZ463K kZ467 (by decide)
                replace hZ467I := zmt (c := 53) hZ467I rfl
                replace hP := zl_e hP hZ467
                refine wz_cV_of (zas (zcons rfl (zcons (zvi (show (9 : Int32) = i3 9 from rfl)) (zcons (zvi (show (8 : Int32) = i3 8 from rfl)) (zcons (zvi (i3W (i3G (zm_rd (Z := Z463) (ν := ν) (k := 2) (show ((0 : Nat) : Int) = 0 from rfl) (show ((0 : Nat) : Int) = 0 from rfl) (show ((3808 : Nat) : Int) = 3808 from rfl))))) (zcons (zvi (show (-1 : Int32) = i3 (-1) from rfl)) rfl))))) c9) ?_
                clear c9
                exact zlV hP ⟨hZ467I, hZ467K, hZ467U⟩
              · replace hP := zE_n hP h465
                obtain ⟨Z468, hZ468, c9, hZ468I, kZ468, jZ468⟩ := sp_403 (ν := ν) hZ463I (a1 := 8) (by omega) (a2 := 9) (by omega) (a3 := (Z463 2 0 0 3808)) (by omega) (a4 := (-1)) (by omega) (zbh (c := 52) (k := 1) hM (Nat.le_of_ble_eq_true rfl))
                have hZ468U : zU [] Z Z468 := zU_t hZ463U jZ468 zU_b0
                have hZ468K : zC [2] Z Z468 := zC_t hZ463K kZ468 (by decide)
                replace hZ468I := zmt (c := 53) hZ468I rfl
                replace hP := zl_e hP hZ468
                refine wz_cV_of (zas (zcons rfl (zcons (zvi (show (8 : Int32) = i3 8 from rfl)) (zcons (zvi (show (9 : Int32) = i3 9 from rfl)) (zcons (zvi (zm_rd (Z := Z463) (ν := ν) (k := 2) (show ((0 : Nat) : Int) = 0 from rfl) (show ((0 : Nat) : Int) = 0 from rfl) (show ((3808 : Nat) : Int) = 3808 from rfl))) (zcons (zvi (show (-1 : Int32) = i3 (-1) from rfl)) rfl))))) c9) ?_
                clear c9
                exact zlV hP ⟨hZ468I, hZ468K, hZ468U⟩
          · replace hP := zE_n hP h451
            obtain ⟨Z469, hZ469, c9, hZ469I, kZ469, jZ469⟩ := sp_403 (ν := ν) hZ449I (a1 := 6) (by omega) (a2 := 9) (by omega) (a3 := (Z449 2 0 0 3806)) (by omega) (a4 := (-1)) (by omega) (zbh (c := 50) (k := 1) hM (Nat.le_of_ble_eq_true rfl))
            have hZ469U : zU [] Z Z469 := zU_t hZ449U jZ469 zU_b0
            have hZ469K : zC [2] Z Z469 := zC_t hZ449K kZ469 (by decide)
            replace hZ469I := zmt (c := 51) hZ469I rfl
            replace hP := zl_e hP hZ469
            refine wz_cV_of (zas (zcons rfl (zcons (zvi (show (6 : Int32) = i3 6 from rfl)) (zcons (zvi (show (9 : Int32) = i3 9 from rfl)) (zcons (zvi (zm_rd (Z := Z449) (ν := ν) (k := 2) (show ((0 : Nat) : Int) = 0 from rfl) (show ((0 : Nat) : Int) = 0 from rfl) (show ((3806 : Nat) : Int) = 3806 from rfl))) (zcons (zvi (show (-1 : Int32) = i3 (-1) from rfl)) rfl))))) c9) ?_
            clear c9
            have r470 := zM_f hZ469I 2 0 0 3807
            refine wz_br (i3Le (zm_rd (Z := Z469) (ν := ν) (k := 2) (show ((0 : Nat) : Int) = 0 from rfl) (show ((0 : Nat) : Int) = 0 from rfl) (show ((3807 : Nat) : Int) = 3807 from rfl)) (show (0 : Int32) = i3 0 from rfl) (by omega) (by omega) (by omega) (by omega)) (fun h471 => ?_) (fun h471 => ?_)
            · replace hP := zE_p hP h471
              have r472 := w3_r (-(Z469 2 0 0 3807))
              obtain ⟨Z473, hZ473, c9, hZ473I, kZ473, jZ473⟩ := sp_403 (ν := ν) hZ469I (a1 := 9) (by omega) (a2 := 7) (by omega) (a3 := (w3 (-(Z469 2 0 0 3807)))) (by omega) (a4 := (-1)) (by omega) (zbh (c := 51) (k := 1) hM (Nat.le_of_ble_eq_true rfl))
              have hZ473U : zU [] Z Z473 := zU_t hZ469U jZ473 zU_b0
              have hZ473K : zC [2] Z Z473 := zC_t hZ469K kZ473 (by decide)
              replace hZ473I := zmt (c := 52) hZ473I rfl
              replace hP := zl_e hP hZ473
              refine wz_cV_of (zas (zcons rfl (zcons (zvi (show (9 : Int32) = i3 9 from rfl)) (zcons (zvi (show (7 : Int32) = i3 7 from rfl)) (zcons (zvi (i3W (i3G (zm_rd (Z := Z469) (ν := ν) (k := 2) (show ((0 : Nat) : Int) = 0 from rfl) (show ((0 : Nat) : Int) = 0 from rfl) (show ((3807 : Nat) : Int) = 3807 from rfl))))) (zcons (zvi (show (-1 : Int32) = i3 (-1) from rfl)) rfl))))) c9) ?_
              clear c9
              have r474 := zM_f hZ473I 2 0 0 3808
              refine wz_br (i3Le (zm_rd (Z := Z473) (ν := ν) (k := 2) (show ((0 : Nat) : Int) = 0 from rfl) (show ((0 : Nat) : Int) = 0 from rfl) (show ((3808 : Nat) : Int) = 3808 from rfl)) (show (0 : Int32) = i3 0 from rfl) (by omega) (by omega) (by omega) (by omega)) (fun h475 => ?_) (fun h475 => ?_)
              · replace hP := zE_p hP h475
                have r476 := w3_r (-(Z473 2 0 0 3808))
                obtain ⟨Z477, hZ477, c9, hZ477I, kZ477, jZ477⟩ := sp_403 (ν := ν) hZ473I (a1 := 9) (by omega) (a2 := 8) (by omega) (a3 := (w3 (-(Z473 2 0 0 3808)))) (by omega) (a4 := (-1)) (by omega) (zbh (c := 52) (k := 1) hM (Nat.le_of_ble_eq_true rfl))
                have hZ477U : zU [] Z Z477 := zU_t hZ473U jZ477 zU_b0
                have hZ477K : zC [2] Z Z477 := zC_t hZ473K kZ477 (by decide)
                replace hZ477I := zmt (c := 53) hZ477I rfl
                replace hP := zl_e hP hZ477
                refine wz_cV_of (zas (zcons rfl (zcons (zvi (show (9 : Int32) = i3 9 from rfl)) (zcons (zvi (show (8 : Int32) = i3 8 from rfl)) (zcons (zvi (i3W (i3G (zm_rd (Z := Z473) (ν := ν) (k := 2) (show ((0 : Nat) : Int) = 0 from rfl) (show ((0 : Nat) : Int) = 0 from rfl) (show ((3808 : Nat) : Int) = 3808 from rfl))))) (zcons (zvi (show (-1 : Int32) = i3 (-1) from rfl)) rfl))))) c9) ?_
                clear c9
                exact zlV hP ⟨hZ477I, hZ477K, hZ477U⟩
              · replace hP := zE_n hP h475
                obtain ⟨Z478, hZ478, c9, hZ478I, kZ478, jZ478⟩ := sp_403 (ν := ν) hZ473I (a1 := 8) (by omega) (a2 := 9) (by omega) (a3 := (Z473 2 0 0 3808)) (by omega) (a4 := (-1)) (by omega) (zbh (c := 52) (k := 1) hM (Nat.le_of_ble_eq_true rfl))
                have hZ478U : zU [] Z Z478 := zU_t hZ473U jZ478 zU_b0
                have hZ478K : zC [2] Z Z478 := zC_t hZ473K kZ478 (by decide)
                replace hZ478I := zmt (c := 53) hZ478I rfl
                replace hP := zl_e hP hZ478
                refine wz_cV_of (zas (zcons rfl (zcons (zvi (show (8 : Int32) = i3 8 from rfl)) (zcons (zvi (show (9 : Int32) = i3 9 from rfl)) (zcons (zvi (zm_rd (Z := Z473) (ν := ν) (k := 2) (show ((0 : Nat) : Int) = 0 from rfl) (show ((0 : Nat) : Int) = 0 from rfl) (show ((3808 : Nat) : Int) = 3808 from rfl))) (zcons (zvi (show (-1 : Int32) = i3 (-1) from rfl)) rfl))))) c9) ?_
                clear c9
                exact zlV hP ⟨hZ478I, hZ478K, hZ478U⟩
            · replace hP := zE_n hP h471
              obtain ⟨Z479, hZ479, c9, hZ479I, kZ479, jZ479⟩ := sp_403 (ν := ν) hZ469I (a1 := 7) (by omega) (a2 := 9) (by omega) (a3 := (Z469 2 0 0 3807)) (by omega) (a4 := (-1)) (by omega) (zbh (c := 51) (k := 1) hM (Nat.le_of_ble_eq_true rfl))
              have hZ479U : zU [] Z Z479 := zU_t hZ469U jZ479 zU_b0
              have hZ479K : zC [2] Z Z479 := zC_t hZ469K kZ479 (by decide)
              replace hZ479I := zmt (c := 52) hZ479I rfl
              replace hP := zl_e hP hZ479
              refine wz_cV_of (zas (zcons rfl (zcons (zvi (show (7 : Int32) = i3 7 from rfl)) (zcons (zvi (show (9 : Int32) = i3 9 from rfl)) (zcons (zvi (zm_rd (Z := Z469) (ν := ν) (k := 2) (show ((0 : Nat) : Int) = 0 from rfl) (show ((0 : Nat) : Int) = 0 from rfl) (show ((3807 : Nat) : Int) = 3807 from rfl))) (zcons (zvi (show (-1 : Int32) = i3 (-1) from rfl)) rfl))))) c9) ?_
              clear c9
              have r480 := zM_f hZ479I 2 0 0 3808
              refine wz_br (i3Le (zm_rd (Z := Z479) (ν := ν) (k := 2) (show ((0 : Nat) : Int) = 0 from rfl) (show ((0 : Nat) : Int) = 0 from rfl) (show ((3808 : Nat) : Int) = 3808 from rfl)) (show (0 : Int32) = i3 0 from rfl) (by omega) (by omega) (by omega) (by omega)) (fun h481 => ?_) (fun h481 => ?_)
              · replace hP := zE_p hP h481
                have r482 := w3_r (-(Z479 2 0 0 3808))
                obtain ⟨Z483, hZ483, c9, hZ483I, kZ483, jZ483⟩ := sp_403 (ν := ν) hZ479I (a1 := 9) (by omega) (a2 := 8) (by omega) (a3 := (w3 (-(Z479 2 0 0 3808)))) (by omega) (a4 := (-1)) (by omega) (zbh (c := 52) (k := 1) hM (Nat.le_of_ble_eq_true rfl))
                have hZ483U : zU [] Z Z483 := zU_t hZ479U jZ483 zU_b0
                have hZ483K : zC [2] Z Z483 := zC_t hZ479K kZ483 (by decide)
                replace hZ483I := zmt (c := 53) hZ483I rfl
                replace hP := zl_e hP hZ483
                refine wz_cV_of (zas (zcons rfl (zcons (zvi (show (9 : Int32) = i3 9 from rfl)) (zcons (zvi (show (8 : Int32) = i3 8 from rfl)) (zcons (zvi (i3W (i3G (zm_rd (Z := Z479) (ν := ν) (k := 2) (show ((0 : Nat) : Int) = 0 from rfl) (show ((0 : Nat) : Int) = 0 from rfl) (show ((3808 : Nat) : Int) = 3808 from rfl))))) (zcons (zvi (show (-1 : Int32) = i3 (-1) from rfl)) rfl))))) c9) ?_
                clear c9
                exact zlV hP ⟨hZ483I, hZ483K, hZ483U⟩
              · replace hP := zE_n hP h481
                obtain ⟨Z484, hZ484, c9, hZ484I, kZ484, jZ484⟩ := sp_403 (ν := ν) hZ479I (a1 := 8) (by omega) (a2 := 9) (by omega) (a3 := (Z479 2 0 0 3808)) (by omega) (a4 := (-1)) (by omega) (zbh (c := 52) (k := 1) hM (Nat.le_of_ble_eq_true rfl))
                have hZ484U : zU [] Z Z484 := zU_t hZ479U jZ484 zU_b0
                have hZ484K : zC [2] Z Z484 := zC_t hZ479K kZ484 (by decide)
                replace hZ484I := zmt (c := 53) hZ484I rfl
                replace hP := zl_e hP hZ484
                refine wz_cV_of (zas (zcons rfl (zcons (zvi (show (8 : Int32) = i3 8 from rfl)) (zcons (zvi (show (9 : Int32) = i3 9 from rfl)) (zcons (zvi (zm_rd (Z := Z479) (ν := ν) (k := 2) (show ((0 : Nat) : Int) = 0 from rfl) (show ((0 : Nat) : Int) = 0 from rfl) (show ((3808 : Nat) : Int) = 3808 from rfl))) (zcons (zvi (show (-1 : Int32) = i3 (-1) from rfl)) rfl))))) c9) ?_
                clear c9
                exact zlV hP ⟨hZ484I, hZ484K, hZ484U⟩
    · replace hP := zE_n hP h327
      obtain ⟨Z485, hZ485, c9, hZ485I, kZ485, jZ485⟩ := sp_403 (ν := ν) hZ325I (a1 := 3) (by omega) (a2 := 9) (by omega) (a3 := (Z325 2 0 0 3803)) (by omega) (a4 := (-1)) (by omega) (zbh (c := 47) (k := 1) hM (Nat.le_of_ble_eq_true rfl))
      have hZ485U : zU [] Z Z485 := zU_t hZ325U jZ485 zU_b0
      have hZ485K : zC [2] Z Z485 := zC_t hZ325K kZ485 (by decide)
      replace hZ485I := zmt (c := 48) hZ485I rfl
      replace hP := zl_e hP hZ485
      refine wz_cV_of (zas (zcons rfl (zcons (zvi (show (3 : Int32) = i3 3 from rfl)) (zcons (zvi (show (9 : Int32) = i3 9 from rfl)) (zcons (zvi (zm_rd (Z := Z325) (ν := ν) (k := 2) (show ((0 : Nat) : Int) = 0 from rfl) (show ((0 : Nat) : Int) = 0 from rfl) (show ((3803 : Nat) : Int) = 3803 from rfl))) (zcons (zvi (show (-1 : Int32) = i3 (-1) from rfl)) rfl))))) c9) ?_
      clear c9
      have r486 := zM_f hZ485I 2 0 0 3804
      refine wz_br (i3Le (zm_rd (Z := Z485) (ν := ν) (k := 2) (show ((0 : Nat) : Int) = 0 from rfl) (show ((0 : Nat) : Int) = 0 from rfl) (show ((3804 : Nat) : Int) = 3804 from rfl)) (show (0 : Int32) = i3 0 from rfl) (by omega) (by omega) (by omega) (by omega)) (fun h487 => ?_) (fun h487 => ?_)
      · replace hP := zE_p hP h487
        have r488 := w3_r (-(Z485 2 0 0 3804))
        obtain ⟨Z489, hZ489, c9, hZ489I, kZ489, jZ489⟩ := sp_403 (ν := ν) hZ485I (a1 := 9) (by omega) (a2 := 4) (by omega) (a3 := (w3 (-(Z485 2 0 0 3804)))) (by omega) (a4 := (-1)) (by omega) (zbh (c := 48) (k := 1) hM (Nat.le_of_ble_eq_true rfl))
        have hZ489U : zU [] Z Z489 := zU_t hZ485U jZ489 zU_b0
        have hZ489K : zC [2] Z Z489 := zC_t hZ485K kZ489 (by decide)
        replace hZ489I := zmt (c := 49) hZ489I rfl
        replace hP := zl_e hP hZ489
        refine wz_cV_of (zas (zcons rfl (zcons (zvi (show (9 : Int32) = i3 9 from rfl)) (zcons (zvi (show (4 : Int32) = i3 4 from rfl)) (zcons (zvi (i3W (i3G (zm_rd (Z := Z485) (ν := ν) (k := 2) (show ((0 : Nat) : Int) = 0 from rfl) (show ((0 : Nat) : Int) = 0 from rfl) (show ((3804 : Nat) : Int) = 3804 from rfl))))) (zcons (zvi (show (-1 : Int32) = i3 (-1) from rfl)) rfl))))) c9) ?_
        clear c9
        have r490 := zM_f hZ489I 2 0 0 3805
        refine wz_br (i3Le (zm_rd (Z := Z489) (ν := ν) (k := 2) (show ((0 : Nat) : Int) = 0 from rfl) (show ((0 : Nat) : Int) = 0 from rfl) (show ((3805 : Nat) : Int) = 3805 from rfl)) (show (0 : Int32) = i3 0 from rfl) (by omega) (by omega) (by omega) (by omega)) (fun h491 => ?_) (fun h491 => ?_)
        · replace hP := zE_p hP h491
          have r492 := w3_r (-(Z489 2 0 0 3805))
          obtain ⟨Z493, hZ493, c9, hZ493I, kZ493, jZ493⟩ := sp_403 (ν := ν) hZ489I (a1 := 9) (by omega) (a2 := 5) (by omega) (a3 := (w3 (-(Z489 2 0 0 3805)))) (by omega) (a4 := (-1)) (by omega) (zbh (c := 49) (k := 1) hM (Nat.le_of_ble_eq_true rfl))
          have hZ493U : zU [] Z Z493 := zU_t hZ489U jZ493 zU_b0
          have hZ493K : zC [2] Z Z493 := zC_t hZ489K kZ493 (by decide)
          replace hZ493I := zmt (c := 50) hZ493I rfl
          replace hP := zl_e hP hZ493
          refine wz_cV_of (zas (zcons rfl (zcons (zvi (show (9 : Int32) = i3 9 from rfl)) (zcons (zvi (show (5 : Int32) = i3 5 from rfl)) (zcons (zvi (i3W (i3G (zm_rd (Z := Z489) (ν := ν) (k := 2) (show ((0 : Nat) : Int) = 0 from rfl) (show ((0 : Nat) : Int) = 0 from rfl) (show ((3805 : Nat) : Int) = 3805 from rfl))))) (zcons (zvi (show (-1 : Int32) = i3 (-1) from rfl)) rfl))))) c9) ?_
          clear c9
          have r494 := zM_f hZ493I 2 0 0 3806
          refine wz_br (i3Le (zm_rd (Z := Z493) (ν := ν) (k := 2) (show ((0 : Nat) : Int) = 0 from rfl) (show ((0 : Nat) : Int) = 0 from rfl) (show ((3806 : Nat) : Int) = 3806 from rfl)) (show (0 : Int32) = i3 0 from rfl) (by omega) (by omega) (by omega) (by omega)) (fun h495 => ?_) (fun h495 => ?_)
          · replace hP := zE_p hP h495
            have r496 := w3_r (-(Z493 2 0 0 3806))
            obtain ⟨Z497, hZ497, c9, hZ497I, kZ497, jZ497⟩ := sp_403 (ν := ν) hZ493I (a1 := 9) (by omega) (a2 := 6) (by omega) (a3 := (w3 (-(Z493 2 0 0 3806)))) (by omega) (a4 := (-1)) (by omega) (zbh (c := 50) (k := 1) hM (Nat.le_of_ble_eq_true rfl))
            have hZ497U : zU [] Z Z497 := zU_t hZ493U jZ497 zU_b0
            have hZ497K : zC [2] Z Z497 := zC_t hZ493K kZ497 (by decide)
            replace hZ497I := zmt (c := 51) hZ497I rfl
            replace hP := zl_e hP hZ497
            refine wz_cV_of (zas (zcons rfl (zcons (zvi (show (9 : Int32) = i3 9 from rfl)) (zcons (zvi (show (6 : Int32) = i3 6 from rfl)) (zcons (zvi (i3W (i3G (zm_rd (Z := Z493) (ν := ν) (k := 2) (show ((0 : Nat) : Int) = 0 from rfl) (show ((0 : Nat) : Int) = 0 from rfl) (show ((3806 : Nat) : Int) = 3806 from rfl))))) (zcons (zvi (show (-1 : Int32) = i3 (-1) from rfl)) rfl))))) c9) ?_
            clear c9
            have r498 := zM_f hZ497I 2 0 0 3807
            refine wz_br (i3Le (zm_rd (Z := Z497) (ν := ν) (k := 2) (show ((0 : Nat) : Int) = 0 from rfl) (show ((0 : Nat) : Int) = 0 from rfl) (show ((3807 : Nat) : Int) = 3807 from rfl)) (show (0 : Int32) = i3 0 from rfl) (by omega) (by omega) (by omega) (by omega)) (fun h499 => ?_) (fun h499 => ?_)
            · replace hP := zE_p hP h499
              have r500 := w3_r (-(Z497 2 0 0 3807))
              obtain ⟨Z501, hZ501, c9, hZ501I, kZ501, jZ501⟩ := sp_403 (ν := ν) hZ497I (a1 := 9) (by omega) (a2 := 7) (by omega) (a3 := (w3 (-(Z497 2 0 0 3807)))) (by omega) (a4 := (-1)) (by omega) (zbh (c := 51) (k := 1) hM (Nat.le_of_ble_eq_true rfl))
              have hZ501U : zU [] Z Z501 := zU_t hZ497U jZ501 zU_b0
              have hZ501K : zC [2] Z Z501 := zC_t hZ497K kZ501 (by decide)
              replace hZ501I := zmt (c := 52) hZ501I rfl
              replace hP := zl_e hP hZ501
              refine wz_cV_of (zas (zcons rfl (zcons (zvi (show (9 : Int32) = i3 9 from rfl)) (zcons (zvi (show (7 : Int32) = i3 7 from rfl)) (zcons (zvi (i3W (i3G (zm_rd (Z := Z497) (ν := ν) (k := 2) (show ((0 : Nat) : Int) = 0 from rfl) (show ((0 : Nat) : Int) = 0 from rfl) (show ((3807 : Nat) : Int) = 3807 from rfl))))) (zcons (zvi (show (-1 : Int32) = i3 (-1) from rfl)) rfl))))) c9) ?_
              clear c9
              have r502 := zM_f hZ501I 2 0 0 3808
              refine wz_br (i3Le (zm_rd (Z := Z501) (ν := ν) (k := 2) (show ((0 : Nat) : Int) = 0 from rfl) (show ((0 : Nat) : Int) = 0 from rfl) (show ((3808 : Nat) : Int) = 3808 from rfl)) (show (0 : Int32) = i3 0 from rfl) (by omega) (by omega) (by omega) (by omega)) (fun h503 => ?_) (fun h503 => ?_)
              · replace hP := zE_p hP h503
                have r504 := w3_r (-(Z501 2 0 0 3808))
                obtain ⟨Z505, hZ505, c9, hZ505I, kZ505, jZ505⟩ := sp_403 (ν := ν) hZ501I (a1 := 9) (by omega) (a2 := 8) (by omega) (a3 := (w3 (-(Z501 2 0 0 3808)))) (by omega) (a4 := (-1)) (by omega) (zbh (c := 52) (k := 1) hM (Nat.le_of_ble_eq_true rfl))
                have hZ505U : zU [] Z Z505 := zU_t hZ501U jZ505 zU_b0
                have hZ505K : zC [2] Z Z505 := zC_t hZ501K kZ505 (by decide)
                replace hZ505I := zmt (c := 53) hZ505I rfl
                replace hP := zl_e hP hZ505
                refine wz_cV_of (zas (zcons rfl (zcons (zvi (show (9 : Int32) = i3 9 from rfl)) (zcons (zvi (show (8 : Int32) = i3 8 from rfl)) (zcons (zvi (i3W (i3G (zm_rd (Z := Z501) (ν := ν) (k := 2) (show ((0 : Nat) : Int) = 0 from rfl) (show ((0 : Nat) : Int) = 0 from rfl) (show ((3808 : Nat) : Int) = 3808 from rfl))))) (zcons (zvi (show (-1 : Int32) = i3 (-1) from rfl)) rfl))))) c9) ?_
                clear c9
                exact zlV hP ⟨hZ505I, hZ505K, hZ505U⟩
              · replace hP := zE_n hP h503
                obtain ⟨Z506, hZ506, c9, hZ506I, kZ506, jZ506⟩ := sp_403 (ν := ν) hZ501I (a1 := 8) (by omega) (a2 := 9) (by omega) (a3 := (Z501 2 0 0 3808)) (by omega) (a4 := (-1)) (by omega) (zbh (c := 52) (k := 1) hM (Nat.le_of_ble_eq_true rfl))
                have hZ506U : zU [] Z Z506 := zU_t hZ501U jZ506 zU_b0
                have hZ506K : zC [2] Z Z506 := zC_t hZ501K kZ506 (by decide)
                replace hZ506I := zmt (c := 53) hZ506I rfl
                replace hP := zl_e hP hZ506
                refine wz_cV_of (zas (zcons rfl (zcons (zvi (show (8 : Int32) = i3 8 from rfl)) (zcons (zvi (show (9 : Int32) = i3 9 from rfl)) (zcons (zvi (zm_rd (Z := Z501) (ν := ν) (k := 2) (show ((0 : Nat) : Int) = 0 from rfl) (show ((0 : Nat) : Int) = 0 from rfl) (show ((3808 : Nat) : Int) = 3808 from rfl))) (zcons (zvi (show (-1 : Int32) = i3 (-1) from rfl)) rfl))))) c9) ?_
                clear c9
                exact zlV hP ⟨hZ506I, hZ506K, hZ506U⟩
            · replace hP := zE_n hP h499
              obtain ⟨Z507, hZ507, c9, hZ507I, kZ507, jZ507⟩ := sp_403 (ν := ν) hZ497I (a1 := 7) (by omega) (a2 := 9) (by omega) (a3 := (Z497 2 0 0 3807)) (by omega) (a4 := (-1)) (by omega) (zbh (c := 51) (k := 1) hM (Nat.le_of_ble_eq_true rfl))
              have hZ507U : zU [] Z Z507 := zU_t hZ497U jZ507 zU_b0
              have hZ507K : zC [2] Z Z507 := zC_t hZ497K kZ507 (by decide)
              replace hZ507I := zmt (c := 52) hZ507I rfl
              replace hP := zl_e hP hZ507
              refine wz_cV_of (zas (zcons rfl (zcons (zvi (show (7 : Int32) = i3 7 from rfl)) (zcons (zvi (show (9 : Int32) = i3 9 from rfl)) (zcons (zvi (zm_rd (Z := Z497) (ν := ν) (k := 2) (show ((0 : Nat) : Int) = 0 from rfl) (show ((0 : Nat) : Int) = 0 from rfl) (show ((3807 : Nat) : Int) = 3807 from rfl))) (zcons (zvi (show (-1 : Int32) = i3 (-1) from rfl)) rfl))))) c9) ?_
              clear c9
              have r508 := zM_f hZ507I 2 0 0 3808
              refine wz_br (i3Le (zm_rd (Z := Z507) (ν := ν) (k := 2) (show ((0 : Nat) : Int) = 0 from rfl) (show ((0 : Nat) : Int) = 0 from rfl) (show ((3808 : Nat) : Int) = 3808 from rfl)) (show (0 : Int32) = i3 0 from rfl) (by omega) (by omega) (by omega) (by omega)) (fun h509 => ?_) (fun h509 => ?_)
              · replace hP := zE_p hP h509
                have r510 := w3_r (-(Z507 2 0 0 3808))
                obtain ⟨Z511, hZ511, c9, hZ511I, kZ511, jZ511⟩ := sp_403 (ν := ν) hZ507I (a1 := 9) (by omega) (a2 := 8) (by omega) (a3 := (w3 (-(Z507 2 0 0 3808)))) (by omega) (a4 := (-1)) (by omega) (zbh (c := 52) (k := 1) hM (Nat.le_of_ble_eq_true rfl))
                have hZ511U : zU [] Z Z511 := zU_t hZ507U jZ511 zU_b0
                have hZ511K : zC [2] Z Z511 := zC_t hZ507K kZ511 (by decide)
                replace hZ511I := zmt (c := 53) hZ511I rfl
                replace hP := zl_e hP hZ511
                refine wz_cV_of (zas (zcons rfl (zcons (zvi (show (9 : Int32) = i3 9 from rfl)) (zcons (zvi (show (8 : Int32) = i3 8 from rfl)) (zcons (zvi (i3W (i3G (zm_rd (Z := Z507) (ν := ν) (k := 2) (show ((0 : Nat) : Int) = 0 from rfl) (show ((0 : Nat) : Int) = 0 from rfl) (show ((3808 : Nat) : Int) = 3808 from rfl))))) (zcons (zvi (show (-1 : Int32) = i3 (-1) from rfl)) rfl))))) c9) ?_
                clear c9
                exact zlV hP ⟨hZ511I, hZ511K, hZ511U⟩
              · replace hP := zE_n hP h509
                obtain ⟨Z512, hZ512, c9, hZ512I, kZ512, jZ512⟩ := sp_403 (ν := ν) hZ507I (a1 := 8) (by omega) (a2 := 9) (by omega) (a3 := (Z507 2 0 0 3808)) (by omega) (a4 := (-1)) (by omega) (zbh (c := 52) (k := 1) hM (Nat.le_of_ble_eq_true rfl))
                have hZ512U : zU [] Z Z512 := zU_t hZ507U jZ512 zU_b0
                have hZ512K : zC [2] Z Z512 := zC_t hZ507K kZ512 (by decide)
                replace hZ512I := zmt (c := 53) hZ512I rfl
                replace hP := zl_e hP hZ512
                refine wz_cV_of (zas (zcons rfl (zcons (zvi (show (8 : Int32) = i3 8 from rfl)) (zcons (zvi (show (9 : Int32) = i3 9 from rfl)) (zcons (zvi (zm_rd (Z := Z507) (ν := ν) (k := 2) (show ((0 : Nat) : Int) = 0 from rfl) (show ((0 : Nat) : Int) = 0 from rfl) (show ((3808 : Nat) : Int) = 3808 from rfl))) (zcons (zvi (show (-1 : Int32) = i3 (-1) from rfl)) rfl))))) c9) ?_
                clear c9
                exact zlV hP ⟨hZ512I, hZ512K, hZ512U⟩
          · replace hP := zE_n hP h495
            obtain ⟨Z513, hZ513, c9, hZ513I, kZ513, jZ513⟩ := sp_403 (ν := ν) hZ493I (a1 := 6) (by omega) (a2 := 9) (by omega) (a3 := (Z493 2 0 0 3806)) (by omega) (a4 := (-1)) (by omega) (zbh (c := 50) (k := 1) hM (Nat.le_of_ble_eq_true rfl))
            have hZ513U : zU [] Z Z513 := zU_t hZ493U jZ513 zU_b0
            have hZ513K : zC [2] Z Z513 := zC_t hZ493K kZ513 (by decide)
            replace hZ513I := zmt (c := 51) hZ513I rfl
            replace hP := zl_e hP hZ513
            refine wz_cV_of (zas (zcons rfl (zcons (zvi (show (6 : Int32) = i3 6 from rfl)) (zcons (zvi (show (9 : Int32) = i3 9 from rfl)) (zcons (zvi (zm_rd (Z := Z493) (ν := ν) (k := 2) (show ((0 : Nat) : Int) = 0 from rfl) (show ((0 : Nat) : Int) = 0 from rfl) (show ((3806 : Nat) : Int) = 3806 from rfl))) (zcons (zvi (show (-1 : Int32) = i3 (-1) from rfl)) rfl))))) c9) ?_
            clear c9
            have r514 := zM_f hZ513I 2 0 0 3807
            refine wz_br (i3Le (zm_rd (Z := Z513) (ν := ν) (k := 2) (show ((0 : Nat) : Int) = 0 from rfl) (show ((0 : Nat) : Int) = 0 from rfl) (show ((3807 : Nat) : Int) = 3807 from rfl)) (show (0 : Int32) = i3 0 from rfl) (by omega) (by omega) (by omega) (by omega)) (fun h515 => ?_) (fun h515 => ?_)
            · replace hP := zE_p hP h515
              have r516 := w3_r (-(Z513 2 0 0 3807))
              obtain ⟨Z517, hZ517, c9, hZ517I, kZ517, jZ517⟩ := sp_403 (ν := ν) hZ513I (a1 := 9) (by omega) (a2 := 7) (by omega) (a3 := (w3 (-(Z513 2 0 0 3807)))) (by omega) (a4 := (-1)) (by omega) (zbh (c := 51) (k := 1) hM (Nat.le_of_ble_eq_true rfl))
              have hZ517U : zU [] Z Z517 := zU_t hZ513U jZ517 zU_b0
              have hZ517K : zC [2] Z Z517 := zC_t hZ513K kZ517 (by decide)
              replace hZ517I := zmt (c := 52) hZ517I rfl
              replace hP := zl_e hP hZ517
              refine wz_cV_of (zas (zcons rfl (zcons (zvi (show (9 : Int32) = i3 9 from rfl)) (zcons (zvi (show (7 : Int32) = i3 7 from rfl)) (zcons (zvi (i3W (i3G (zm_rd (Z := Z513) (ν := ν) (k := 2) (show ((0 : Nat) : Int) = 0 from rfl) (show ((0 : Nat) : Int) = 0 from rfl) (show ((3807 : Nat) : Int) = 3807 from rfl))))) (zcons (zvi (show (-1 : Int32) = i3 (-1) from rfl)) rfl))))) c9) ?_
              clear c9
              have r518 := zM_f hZ517I 2 0 0 3808
              refine wz_br (i3Le (zm_rd (Z := Z517) (ν := ν) (k := 2) (show ((0 : Nat) : Int) = 0 from rfl) (show ((0 : Nat) : Int) = 0 from rfl) (show ((3808 : Nat) : Int) = 3808 from rfl)) (show (0 : Int32) = i3 0 from rfl) (by omega) (by omega) (by omega) (by omega)) (fun h519 => ?_) (fun h519 => ?_)
              · replace hP := zE_p hP h519
                have r520 := w3_r (-(Z517 2 0 0 3808))
                obtain ⟨Z521, hZ521, c9, hZ521I, kZ521, jZ521⟩ := sp_403 (ν := ν) hZ517I (a1 := 9) (by omega) (a2 := 8) (by omega) (a3 := (w3 (-(Z517 2 0 0 3808)))) (by omega) (a4 := (-1)) (by omega) (zbh (c := 52) (k := 1) hM (Nat.le_of_ble_eq_true rfl))
                have hZ521U : zU [] Z Z521 := zU_t hZ517U jZ521 zU_b0
                have hZ521K : zC [2] Z Z521 := zC_t hZ517K kZ521 (by decide)
                replace hZ521I := zmt (c := 53) hZ521I rfl
                replace hP := zl_e hP hZ521
                refine wz_cV_of (zas (zcons rfl (zcons (zvi (show (9 : Int32) = i3 9 from rfl)) (zcons (zvi (show (8 : Int32) = i3 8 from rfl)) (zcons (zvi (i3W (i3G (zm_rd (Z := Z517) (ν := ν) (k := 2) (show ((0 : Nat) : Int) = 0 from rfl) (show ((0 : Nat) : Int) = 0 from rfl) (show ((3808 : Nat) : Int) = 3808 from rfl))))) (zcons (zvi (show (-1 : Int32) = i3 (-1) from rfl)) rfl))))) c9) ?_
                clear c9
                exact zlV hP ⟨hZ521I, hZ521K, hZ521U⟩
              · replace hP := zE_n hP h519
                obtain ⟨Z522, hZ522, c9, hZ522I, kZ522, jZ522⟩ := sp_403 (ν := ν) hZ517I (a1 := 8) (by omega) (a2 := 9) (by omega) (a3 := (Z517 2 0 0 3808)) (by omega) (a4 := (-1)) (by omega) (zbh (c := 52) (k := 1) hM (Nat.le_of_ble_eq_true rfl))
                have hZ522U : zU [] Z Z522 := zU_t hZ517U jZ522 zU_b0
                have hZ522K : zC [2] Z Z522 := zC_t hZ517K kZ522 (by decide)
                replace hZ522I := zmt (c := 53) hZ522I rfl
                replace hP := zl_e hP hZ522
                refine wz_cV_of (zas (zcons rfl (zcons (zvi (show (8 : Int32) = i3 8 from rfl)) (zcons (zvi (show (9 : Int32) = i3 9 from rfl)) (zcons (zvi (zm_rd (Z := Z517) (ν := ν) (k := 2) (show ((0 : Nat) : Int) = 0 from rfl) (show ((0 : Nat) : Int) = 0 from rfl) (show ((3808 : Nat) : Int) = 3808 from rfl))) (zcons (zvi (show (-1 : Int32) = i3 (-1) from rfl)) rfl))))) c9) ?_
                clear c9
                exact zlV hP ⟨hZ522I, hZ522K, hZ522U⟩
            · replace hP := zE_n hP h515
              obtain ⟨Z523, hZ523, c9, hZ523I, kZ523, jZ523⟩ := sp_403 (ν := ν) hZ513I (a1 := 7) (by omega) (a2 := 9) (by omega) (a3 := (Z513 2 0 0 3807)) (by omega) (a4 := (-1)) (by omega) (zbh (c := 51) (k := 1) hM (Nat.le_of_ble_eq_true rfl))
              have hZ523U : zU [] Z Z523 := zU_t hZ513U jZ523 zU_b0
              have hZ523K : zC [2] Z Z523 := zC_t hZ513K kZ523 (by decide)
              replace hZ523I := zmt (c := 52) hZ523I rfl
              replace hP := zl_e hP hZ523
              refine wz_cV_of (zas (zcons rfl (zcons (zvi (show (7 : Int32) = i3 7 from rfl)) (zcons (zvi (show (9 : Int32) = i3 9 from rfl)) (zcons (zvi (zm_rd (Z := Z513) (ν := ν) (k := 2) (show ((0 : Nat) : Int) = 0 from rfl) (show ((0 : Nat) : Int) = 0 from rfl) (show ((3807 : Nat) : Int) = 3807 from rfl))) (zcons (zvi (show (-1 : Int32) = i3 (-1) from rfl)) rfl))))) c9) ?_
              clear c9
              have r524 := zM_f hZ523I 2 0 0 3808
              refine wz_br (i3Le (zm_rd (Z := Z523) (ν := ν) (k := 2) (show ((0 : Nat) : Int) = 0 from rfl) (show ((0 : Nat) : Int) = 0 from rfl) (show ((3808 : Nat) : Int) = 3808 from rfl)) (show (0 : Int32) = i3 0 from rfl) (by omega) (by omega) (by omega) (by omega)) (fun h525 => ?_) (fun h525 => ?_)
              · replace hP := zE_p hP h525
                have r526 := w3_r (-(Z523 2 0 0 3808))
                obtain ⟨Z527, hZ527, c9, hZ527I, kZ527, jZ527⟩ := sp_403 (ν := ν) hZ523I (a1 := 9) (by omega) (a2 := 8) (by omega) (a3 := (w3 (-(Z523 2 0 0 3808)))) (by omega) (a4 := (-1)) (by omega) (zbh (c := 52) (k := 1) hM (Nat.le_of_ble_eq_true rfl))
                have hZ527U : zU [] Z Z527 := zU_t hZ523U jZ527 zU_b0
                have hZ527K : zC [2] Z Z527 := zC_t hZ523K kZ527 (by decide)
                replace hZ527I := zmt (c := 53) hZ527I rfl
                replace hP := zl_e hP hZ527
                refine wz_cV_of (zas (zcons rfl (zcons (zvi (show (9 : Int32) = i3 9 from rfl)) (zcons (zvi (show (8 : Int32) = i3 8 from rfl)) (zcons (zvi (i3W (i3G (zm_rd (Z := Z523) (ν := ν) (k := 2) (show ((0 : Nat) : Int) = 0 from rfl) (show ((0 : Nat) : Int) = 0 from rfl) (show ((3808 : Nat) : Int) = 3808 from rfl))))) (zcons (zvi (show (-1 : Int32) = i3 (-1) from rfl)) rfl))))) c9) ?_
                clear c9
                exact zlV hP ⟨hZ527I, hZ527K, hZ527U⟩
              · replace hP := zE_n hP h525
                obtain ⟨Z528, hZ528, c9, hZ528I, kZ528, jZ528⟩ := sp_403 (ν := ν) hZ523I (a1 := 8) (by omega) (a2 := 9) (by omega) (a3 := (Z523 2 0 0 3808)) (by omega) (a4 := (-1)) (by omega) (zbh (c := 52) (k := 1) hM (Nat.le_of_ble_eq_true rfl))
                have hZ528U : zU [] Z Z528 := zU_t hZ523U jZ528 zU_b0
                have hZ528K : zC [2] Z Z528 := zC_t hZ523K kZ528 (by decide)
                replace hZ528I := zmt (c := 53) hZ528I rfl
                replace hP := zl_e hP hZ528
                refine wz_cV_of (zas (zcons rfl (zcons (zvi (show (8 : Int32) = i3 8 from rfl)) (zcons (zvi (show (9 : Int32) = i3 9 from rfl)) (zcons (zvi (zm_rd (Z := Z523) (ν := ν) (k := 2) (show ((0 : Nat) : Int) = 0 from rfl) (show ((0 : Nat) : Int) = 0 from rfl) (show ((3808 : Nat) : Int) = 3808 from rfl))) (zcons (zvi (show (-1 : Int32) = i3 (-1) from rfl)) rfl))))) c9) ?_
                clear c9
                exact zlV hP ⟨hZ528I, hZ528K, hZ528U⟩
        · replace hP := zE_n hP h491
          obtain ⟨Z529, hZ529, c9, hZ529I, kZ529, jZ529⟩ := sp_403 (ν := ν) hZ489I (a1 := 5) (by omega) (a2 := 9) (by omega) (a3 := (Z489 2 0 0 3805)) (by omega) (a4 := (-1)) (by omega) (zbh (c := 49) (k := 1) hM (Nat.le_of_ble_eq_true rfl))
          have hZ529U : zU [] Z Z529 := zU_t hZ489U jZ529 zU_b0
          have hZ529K : zC [2] Z Z529 := zC_t hZ489K kZ529 (by decide)
          replace hZ529I := zmt (c := 50) hZ529I rfl
          replace hP := zl_e hP hZ529
          refine wz_cV_of (zas (zcons rfl (zcons (zvi (show (5 : Int32) = i3 5 from rfl)) (zcons (zvi (show (9 : Int32) = i3 9 from rfl)) (zcons (zvi (zm_rd (Z := Z489) (ν := ν) (k := 2) (show ((0 : Nat) : Int) = 0 from rfl) (show ((0 : Nat) : Int) = 0 from rfl) (show ((3805 : Nat) : Int) = 3805 from rfl))) (zcons (zvi (show (-1 : Int32) = i3 (-1) from rfl)) rfl))))) c9) ?_
          clear c9
          have r530 := zM_f hZ529I 2 0 0 3806
          refine wz_br (i3Le (zm_rd (Z := Z529) (ν := ν) (k := 2) (show ((0 : Nat) : Int) = 0 from rfl) (show ((0 : Nat) : Int) = 0 from rfl) (show ((3806 : Nat) : Int) = 3806 from rfl)) (show (0 : Int32) = i3 0 from rfl) (by omega) (by omega) (by omega) (by omega)) (fun h531 => ?_) (fun h531 => ?_)
          · replace hP := zE_p hP h531
            have r532 := w3_r (-(Z529 2 0 0 3806))
            obtain ⟨Z533, hZ533, c9, hZ533I, kZ533, jZ533⟩ := sp_403 (ν := ν) hZ529I (a1 := 9) (by omega) (a2 := 6) (by omega) (a3 := (w3 (-(Z529 2 0 0 3806)))) (by omega) (a4 := (-1)) (by omega) (zbh (c := 50) (k := 1) hM (Nat.le_of_ble_eq_true rfl))
            have hZ533U : zU [] Z Z533 := zU_t hZ529U jZ533 zU_b0
            have hZ533K : zC [2] Z Z533 := zC_t hZ529K kZ533 (by decide)
            replace hZ533I := zmt (c := 51) hZ533I rfl
            replace hP := zl_e hP hZ533
            refine wz_cV_of (zas (zcons rfl (zcons (zvi (show (9 : Int32) = i3 9 from rfl)) (zcons (zvi (show (6 : Int32) = i3 6 from rfl)) (zcons (zvi (i3W (i3G (zm_rd (Z := Z529) (ν := ν) (k := 2) (show ((0 : Nat) : Int) = 0 from rfl) (show ((0 : Nat) : Int) = 0 from rfl) (show ((3806 : Nat) : Int) = 3806 from rfl))))) (zcons (zvi (show (-1 : Int32) = i3 (-1) from rfl)) rfl))))) c9) ?_
            clear c9
            have r534 := zM_f hZ533I 2 0 0 3807
            refine wz_br (i3Le (zm_rd (Z := Z533) (ν := ν) (k := 2) (show ((0 : Nat) : Int) = 0 from rfl) (show ((0 : Nat) : Int) = 0 from rfl) (show ((3807 : Nat) : Int) = 3807 from rfl)) (show (0 : Int32) = i3 0 from rfl) (by omega) (by omega) (by omega) (by omega)) (fun h535 => ?_) (fun h535 => ?_)
            · replace hP := zE_p hP h535
              have r536 := w3_r (-(Z533 2 0 0 3807))
              obtain ⟨Z537, hZ537, c9, hZ537I, kZ537, jZ537⟩ := sp_403 (ν := ν) hZ533I (a1 := 9) (by omega) (a2 := 7) (by omega) (a3 := (w3 (-(Z533 2 0 0 3807)))) (by omega) (a4 := (-1)) (by omega) (zbh (c := 51) (k := 1) hM (Nat.le_of_ble_eq_true rfl))
              have hZ537U : zU [] Z Z537 := zU_t hZ533U jZ537 zU_b0
              have hZ537K : zC [2] Z Z537 := zC_t hZ533K kZ537 (by decide)
              replace hZ537I := zmt (c := 52) hZ537I rfl
              replace hP := zl_e hP hZ537
              refine wz_cV_of (zas (zcons rfl (zcons (zvi (show (9 : Int32) = i3 9 from rfl)) (zcons (zvi (show (7 : Int32) = i3 7 from rfl)) (zcons (zvi (i3W (i3G (zm_rd (Z := Z533) (ν := ν) (k := 2) (show ((0 : Nat) : Int) = 0 from rfl) (show ((0 : Nat) : Int) = 0 from rfl) (show ((3807 : Nat) : Int) = 3807 from rfl))))) (zcons (zvi (show (-1 : Int32) = i3 (-1) from rfl)) rfl))))) c9) ?_
              clear c9
              have r538 := zM_f hZ537I 2 0 0 3808
              refine wz_br (i3Le (zm_rd (Z := Z537) (ν := ν) (k := 2) (show ((0 : Nat) : Int) = 0 from rfl) (show ((0 : Nat) : Int) = 0 from rfl) (show ((3808 : Nat) : Int) = 3808 from rfl)) (show (0 : Int32) = i3 0 from rfl) (by omega) (by omega) (by omega) (by omega)) (fun h539 => ?_) (fun h539 => ?_)
              · replace hP := zE_p hP h539
                have r540 := w3_r (-(Z537 2 0 0 3808))
                obtain ⟨Z541, hZ541, c9, hZ541I, kZ541, jZ541⟩ := sp_403 (ν := ν) hZ537I (a1 := 9) (by omega) (a2 := 8) (by omega) (a3 := (w3 (-(Z537 2 0 0 3808)))) (by omega) (a4 := (-1)) (by omega) (zbh (c := 52) (k := 1) hM (Nat.le_of_ble_eq_true rfl))
                have hZ541U : zU [] Z Z541 := zU_t hZ537U jZ541 zU_b0
                have hZ541K : zC [2] Z Z541 := zC_t hZ537K kZ541 (by decide)
                replace hZ541I := zmt (c := 53) hZ541I rfl
                replace hP := zl_e hP hZ541
                refine wz_cV_of (zas (zcons rfl (zcons (zvi (show (9 : Int32) = i3 9 from rfl)) (zcons (zvi (show (8 : Int32) = i3 8 from rfl)) (zcons (zvi (i3W (i3G (zm_rd (Z := Z537) (ν := ν) (k := 2) (show ((0 : Nat) : Int) = 0 from rfl) (show ((0 : Nat) : Int) = 0 from rfl) (show ((3808 : Nat) : Int) = 3808 from rfl))))) (zcons (zvi (show (-1 : Int32) = i3 (-1) from rfl)) rfl))))) c9) ?_
                clear c9
                exact zlV hP ⟨hZ541I, hZ541K, hZ541U⟩
              · replace hP := zE_n hP h539
                obtain ⟨Z542, hZ542, c9, hZ542I, kZ542, jZ542⟩ := sp_403 (ν := ν) hZ537I (a1 := 8) (by omega) (a2 := 9) (by omega) (a3 := (Z537 2 0 0 3808)) (by omega) (a4 := (-1)) (by omega) (zbh (c := 52) (k := 1) hM (Nat.le_of_ble_eq_true rfl))
                have hZ542U : zU [] Z Z542 := zU_t hZ537U jZ542 zU_b0
                have hZ542K : zC [2] Z Z542 := zC_t hZ537K kZ542 (by decide)
                replace hZ542I := zmt (c := 53) hZ542I rfl
                replace hP := zl_e hP hZ542
                refine wz_cV_of (zas (zcons rfl (zcons (zvi (show (8 : Int32) = i3 8 from rfl)) (zcons (zvi (show (9 : Int32) = i3 9 from rfl)) (zcons (zvi (zm_rd (Z := Z537) (ν := ν) (k := 2) (show ((0 : Nat) : Int) = 0 from rfl) (show ((0 : Nat) : Int) = 0 from rfl) (show ((3808 : Nat) : Int) = 3808 from rfl))) (zcons (zvi (show (-1 : Int32) = i3 (-1) from rfl)) rfl))))) c9) ?_
                clear c9
                exact zlV hP ⟨hZ542I, hZ542K, hZ542U⟩
            · replace hP := zE_n hP h535
              obtain ⟨Z543, hZ543, c9, hZ543I, kZ543, jZ543⟩ := sp_403 (ν := ν) hZ533I (a1 := 7) (by omega) (a2 := 9) (by omega) (a3 := (Z533 2 0 0 3807)) (by omega) (a4 := (-1)) (by omega) (zbh (c := 51) (k := 1) hM (Nat.le_of_ble_eq_true rfl))
              have hZ543U : zU [] Z Z543 := zU_t hZ533U jZ543 zU_b0
              have hZ543K : zC [2] Z Z543 := zC_t hZ533K kZ543 (by decide)
              replace hZ543I := zmt (c := 52) hZ543I rfl
              replace hP := zl_e hP hZ543
              refine wz_cV_of (zas (zcons rfl (zcons (zvi (show (7 : Int32) = i3 7 from rfl)) (zcons (zvi (show (9 : Int32) = i3 9 from rfl)) (zcons (zvi (zm_rd (Z := Z533) (ν := ν) (k := 2) (show ((0 : Nat) : Int) = 0 from rfl) (show ((0 : Nat) : Int) = 0 from rfl) (show ((3807 : Nat) : Int) = 3807 from rfl))) (zcons (zvi (show (-1 : Int32) = i3 (-1) from rfl)) rfl))))) c9) ?_
              clear c9
              have r544 := zM_f hZ543I 2 0 0 3808
              refine wz_br (i3Le (zm_rd (Z := Z543) (ν := ν) (k := 2) (show ((0 : Nat) : Int) = 0 from rfl) (show ((0 : Nat) : Int) = 0 from rfl) (show ((3808 : Nat) : Int) = 3808 from rfl)) (show (0 : Int32) = i3 0 from rfl) (by omega) (by omega) (by omega) (by omega)) (fun h545 => ?_) (fun h545 => ?_)
              · replace hP := zE_p hP h545
                have r546 := w3_r (-(Z543 2 0 0 3808))
                obtain ⟨Z547, hZ547, c9, hZ547I, kZ547, jZ547⟩ := sp_403 (ν := ν) hZ543I (a1 := 9) (by omega) (a2 := 8) (by omega) (a3 := (w3 (-(Z543 2 0 0 3808)))) (by omega) (a4 := (-1)) (by omega) (zbh (c := 52) (k := 1) hM (Nat.le_of_ble_eq_true rfl))
                have hZ547U : zU [] Z Z547 := zU_t hZ543U jZ547 zU_b0
                have hZ547K : zC [2] Z Z547 := zC_t hZ543K kZ547 (by decide)
                replace hZ547I := zmt (c := 53) hZ547I rfl
                replace hP := zl_e hP hZ547
                refine wz_cV_of (zas (zcons rfl (zcons (zvi (show (9 : Int32) = i3 9 from rfl)) (zcons (zvi (show (8 : Int32) = i3 8 from rfl)) (zcons (zvi (i3W (i3G (zm_rd (Z := Z543) (ν := ν) (k := 2) (show ((0 : Nat) : Int) = 0 from rfl) (show ((0 : Nat) : Int) = 0 from rfl) (show ((3808 : Nat) : Int) = 3808 from rfl))))) (zcons (zvi (show (-1 : Int32) = i3 (-1) from rfl)) rfl))))) c9) ?_
                clear c9
                exact zlV hP ⟨hZ547I, hZ547K, hZ547U⟩
              · replace hP := zE_n hP h545
                obtain ⟨Z548, hZ548, c9, hZ548I, kZ548, jZ548⟩ := sp_403 (ν := ν) hZ543I (a1 := 8) (by omega) (a2 := 9) (by omega) (a3 := (Z543 2 0 0 3808)) (by omega) (a4 := (-1)) (by omega) (zbh (c := 52) (k := 1) hM (Nat.le_of_ble_eq_true rfl))
                have hZ548U : zU [] Z Z548 := zU_t hZ543U jZ548 zU_b0
                have hZ548K : zC [2] Z Z548 := zC_t hZ543K kZ548 (by decide)
                replace hZ548I := zmt (c := 53) hZ548I rfl
                replace hP := zl_e hP hZ548
                refine wz_cV_of (zas (zcons rfl (zcons (zvi (show (8 : Int32) = i3 8 from rfl)) (zcons (zvi (show (9 : Int32) = i3 9 from rfl)) (zcons (zvi (zm_rd (Z := Z543) (ν := ν) (k := 2) (show ((0 : Nat) : Int) = 0 from rfl) (show ((0 : Nat) : Int) = 0 from rfl) (show ((3808 : Nat) : Int) = 3808 from rfl))) (zcons (zvi (show (-1 : Int32) = i3 (-1) from rfl)) rfl))))) c9) ?_
                clear c9
                exact zlV hP ⟨hZ548I, hZ548K, hZ548U⟩
          · replace hP := zE_n hP h531
            obtain ⟨Z549, hZ549, c9, hZ549I, kZ549, jZ549⟩ := sp_403 (ν := ν) hZ529I (a1 := 6) (by omega) (a2 := 9) (by omega) (a3 := (Z529 2 0 0 3806)) (by omega) (a4 := (-1)) (by omega) (zbh (c := 50) (k := 1) hM (Nat.le_of_ble_eq_true rfl))
            have hZ549U : zU [] Z Z549 := zU_t hZ529U jZ549 zU_b0
            have hZ549K : zC [2] Z Z549 := zC_t hZ529K kZ549 (by decide)
            replace hZ549I := zmt (c := 51) hZ549I rfl
            replace hP := zl_e hP hZ549
            refine wz_cV_of (zas (zcons rfl (zcons (zvi (show (6 : Int32) = i3 6 from rfl)) (zcons (zvi (show (9 : Int32) = i3 9 from rfl)) (zcons (zvi (zm_rd (Z := Z529) (ν := ν) (k := 2) (show ((0 : Nat) : Int) = 0 from rfl) (show ((0 : Nat) : Int) = 0 from rfl) (show ((3806 : Nat) : Int) = 3806 from rfl))) (zcons (zvi (show (-1 : Int32) = i3 (-1) from rfl)) rfl))))) c9) ?_
            clear c9
            have r550 := zM_f hZ549I 2 0 0 3807
            refine wz_br (i3Le (zm_rd (Z := Z549) (ν := ν) (k := 2) (show ((0 : Nat) : Int) = 0 from rfl) (show ((0 : Nat) : Int) = 0 from rfl) (show ((3807 : Nat) : Int) = 3807 from rfl)) (show (0 : Int32) = i3 0 from rfl) (by omega) (by omega) (by omega) (by omega)) (fun h551 => ?_) (fun h551 => ?_)
            · replace hP := zE_p hP h551
              have r552 := w3_r (-(Z549 2 0 0 3807))
              obtain ⟨Z553, hZ553, c9, hZ553I, kZ553, jZ553⟩ := sp_403 (ν := ν) hZ549I (a1 := 9) (by omega) (a2 := 7) (by omega) (a3 := (w3 (-(Z549 2 0 0 3807)))) (by omega) (a4 := (-1)) (by omega) (zbh (c := 51) (k := 1) hM (Nat.le_of_ble_eq_true rfl))
              have hZ553U : zU [] Z Z553 := zU_t hZ549U jZ553 zU_b0
              have hZ553K : zC [2] Z Z553 := zC_t hZ549K kZ553 (by decide)
              replace hZ553I := zmt (c := 52) hZ553I rfl
              replace hP := zl_e hP hZ553
              refine wz_cV_of (zas (zcons rfl (zcons (zvi (show (9 : Int32) = i3 9 from rfl)) (zcons (zvi (show (7 : Int32) = i3 7 from rfl)) (zcons (zvi (i3W (i3G (zm_rd (Z := Z549) (ν := ν) (k := 2) (show ((0 : Nat) : Int) = 0 from rfl) (show ((0 : Nat) : Int) = 0 from rfl) (show ((3807 : Nat) : Int) = 3807 from rfl))))) (zcons (zvi (show (-1 : Int32) = i3 (-1) from rfl)) rfl))))) c9) ?_
              clear c9
              have r554 := zM_f hZ553I 2 0 0 3808
              refine wz_br (i3Le (zm_rd (Z := Z553) (ν := ν) (k := 2) (show ((0 : Nat) : Int) = 0 from rfl) (show ((0 : Nat) : Int) = 0 from rfl) (show ((3808 : Nat) : Int) = 3808 from rfl)) (show (0 : Int32) = i3 0 from rfl) (by omega) (by omega) (by omega) (by omega)) (fun h555 => ?_) (fun h555 => ?_)
              · replace hP := zE_p hP h555
                have r556 := w3_r (-(Z553 2 0 0 3808))
                obtain ⟨Z557, hZ557, c9, hZ557I, kZ557, jZ557⟩ := sp_403 (ν := ν) hZ553I (a1 := 9) (by omega) (a2 := 8) (by omega) (a3 := (w3 (-(Z553 2 0 0 3808)))) (by omega) (a4 := (-1)) (by omega) (zbh (c := 52) (k := 1) hM (Nat.le_of_ble_eq_true rfl))
                have hZ557U : zU [] Z Z557 := zU_t hZ553U jZ557 zU_b0
                have hZ557K : zC [2] Z Z557 := zC_t hZ553K kZ557 (by decide)
                replace hZ557I := zmt (c := 53) hZ557I rfl
                replace hP := zl_e hP hZ557
                refine wz_cV_of (zas (zcons rfl (zcons (zvi (show (9 : Int32) = i3 9 from rfl)) (zcons (zvi (show (8 : Int32) = i3 8 from rfl)) (zcons (zvi (i3W (i3G (zm_rd (Z := Z553) (ν := ν) (k := 2) (show ((0 : Nat) : Int) = 0 from rfl) (show ((0 : Nat) : Int) = 0 from rfl) (show ((3808 : Nat) : Int) = 3808 from rfl))))) (zcons (zvi (show (-1 : Int32) = i3 (-1) from rfl)) rfl))))) c9) ?_
                clear c9
                exact zlV hP ⟨hZ557I, hZ557K, hZ557U⟩
              · replace hP := zE_n hP h555
                obtain ⟨Z558, hZ558, c9, hZ558I, kZ558, jZ558⟩ := sp_403 (ν := ν) hZ553I (a1 := 8) (by omega) (a2 := 9) (by omega) (a3 := (Z553 2 0 0 3808)) (by omega) (a4 := (-1)) (by omega) (zbh (c := 52) (k := 1) hM (Nat.le_of_ble_eq_true rfl))
                have hZ558U : zU [] Z Z558 := zU_t hZ553U jZ558 zU_b0
                have hZ558K : zC [2] Z Z558 := zC_t hZ553K kZ558 (by decide)
                replace hZ558I := zmt (c := 53) hZ558I rfl
                replace hP := zl_e hP hZ558
                refine wz_cV_of (zas (zcons rfl (zcons (zvi (show (8 : Int32) = i3 8 from rfl)) (zcons (zvi (show (9 : Int32) = i3 9 from rfl)) (zcons (zvi (zm_rd (Z := Z553) (ν := ν) (k := 2) (show ((0 : Nat) : Int) = 0 from rfl) (show ((0 : Nat) : Int) = 0 from rfl) (show ((3808 : Nat) : Int) = 3808 from rfl))) (zcons (zvi (show (-1 : Int32) = i3 (-1) from rfl)) rfl))))) c9) ?_
                clear c9
                exact zlV hP ⟨hZ558I, hZ558K, hZ558U⟩
            · replace hP := zE_n hP h551
              obtain ⟨Z559, hZ559, c9, hZ559I, kZ559, jZ559⟩ := sp_403 (ν := ν) hZ549I (a1 := 7) (by omega) (a2 := 9) (by omega) (a3 := (Z549 2 0 0 3807)) (by omega) (a4 := (-1)) (by omega) (zbh (c := 51) (k := 1) hM (Nat.le_of_ble_eq_true rfl))
              have hZ559U : zU [] Z Z559 := zU_t hZ549U jZ559 zU_b0
              have hZ559K : zC [2] Z Z559 := zC_t hZ549K kZ559 (by decide)
              replace hZ559I := zmt (c := 52) hZ559I rfl
              replace hP := zl_e hP hZ559
              refine wz_cV_of (zas (zcons rfl (zcons (zvi (show (7 : Int32) = i3 7 from rfl)) (zcons (zvi (show (9 : Int32) = i3 9 from rfl)) (zcons (zvi (zm_rd (Z := Z549) (ν := ν) (k := 2) (show ((0 : Nat) : Int) = 0 from rfl) (show ((0 : Nat) : Int) = 0 from rfl) (show ((3807 : Nat) : Int) = 3807 from rfl))) (zcons (zvi (show (-1 : Int32) = i3 (-1) from rfl)) rfl))))) c9) ?_
              clear c9
              have r560 := zM_f hZ559I 2 0 0 3808
              refine wz_br (i3Le (zm_rd (Z := Z559) (ν := ν) (k := 2) (show ((0 : Nat) : Int) = 0 from rfl) (show ((0 : Nat) : Int) = 0 from rfl) (show ((3808 : Nat) : Int) = 3808 from rfl)) (show (0 : Int32) = i3 0 from rfl) (by omega) (by omega) (by omega) (by omega)) (fun h561 => ?_) (fun h561 => ?_)
              · replace hP := zE_p hP h561
                have r562 := w3_r (-(Z559 2 0 0 3808))
                obtain ⟨Z563, hZ563, c9, hZ563I, kZ563, jZ563⟩ := sp_403 (ν := ν) hZ559I (a1 := 9) (by omega) (a2 := 8) (by omega) (a3 := (w3 (-(Z559 2 0 0 3808)))) (by omega) (a4 := (-1)) (by omega) (zbh (c := 52) (k := 1) hM (Nat.le_of_ble_eq_true rfl))
                have hZ563U : zU [] Z Z563 := zU_t hZ559U jZ563 zU_b0
                have hZ563K : zC [2] Z Z563 := zC_t hZ559K kZ563 (by decide)
                replace hZ563I := zmt (c := 53) hZ563I rfl
                replace hP := zl_e hP hZ563
                refine wz_cV_of (zas (zcons rfl (zcons (zvi (show (9 : Int32) = i3 9 from rfl)) (zcons (zvi (show (8 : Int32) = i3 8 from rfl)) (zcons (zvi (i3W (i3G (zm_rd (Z := Z559) (ν := ν) (k := 2) (show ((0 : Nat) : Int) = 0 from rfl) (show ((0 : Nat) : Int) = 0 from rfl) (show ((3808 : Nat) : Int) = 3808 from rfl))))) (zcons (zvi (show (-1 : Int32) = i3 (-1) from rfl)) rfl))))) c9) ?_
                clear c9
                exact zlV hP ⟨hZ563I, hZ563K, hZ563U⟩
              · replace hP := zE_n hP h561
                obtain ⟨Z564, hZ564, c9, hZ564I, kZ564, jZ564⟩ := sp_403 (ν := ν) hZ559I (a1 := 8) (by omega) (a2 := 9) (by omega) (a3 := (Z559 2 0 0 3808)) (by omega) (a4 := (-1)) (by omega) (zbh (c := 52) (k := 1) hM (Nat.le_of_ble_eq_true rfl))
                have hZ564U : zU [] Z Z564 := zU_t hZ559U jZ564 zU_b0
                have hZ564K : zC [2] Z Z564 := zC_t hZ559K kZ564 (by decide)
                replace hZ564I := zmt (c := 53) hZ564I rfl
                replace hP := zl_e hP hZ564
                refine wz_cV_of (zas (zcons rfl (zcons (zvi (show (8 : Int32) = i3 8 from rfl)) (zcons (zvi (show (9 : Int32) = i3 9 from rfl)) (zcons (zvi (zm_rd (Z := Z559) (ν := ν) (k := 2) (show ((0 : Nat) : Int) = 0 from rfl) (show ((0 : Nat) : Int) = 0 from rfl) (show ((3808 : Nat) : Int) = 3808 from rfl))) (zcons (zvi (show (-1 : Int32) = i3 (-1) from rfl)) rfl))))) c9) ?_
                clear c9
                exact zlV hP ⟨hZ564I, hZ564K, hZ564U⟩
      · replace hP := zE_n hP h487
        obtain ⟨Z565, hZ565, c9, hZ565I, kZ565, jZ565⟩ := sp_403 (ν := ν) hZ485I (a1 := 4) (by omega) (a2 := 9) (by omega) (a3 := (Z485 2 0 0 3804)) (by omega) (a4 := (-1)) (by omega) (zbh (c := 48) (k := 1) hM (Nat.le_of_ble_eq_true rfl))
        have hZ565U : zU [] Z Z565 := zU_t hZ485U jZ565 zU_b0
        have hZ565K : zC [2] Z Z565 := zC_t hZ485K kZ565 (by decide)
        replace hZ565I := zmt (c := 49) hZ565I rfl
        replace hP := zl_e hP hZ565
        refine wz_cV_of (zas (zcons rfl (zcons (zvi (show (4 : Int32) = i3 4 from rfl)) (zcons (zvi (show (9 : Int32) = i3 9 from rfl)) (zcons (zvi (zm_rd (Z := Z485) (ν := ν) (k := 2) (show ((0 : Nat) : Int) = 0 from rfl) (show ((0 : Nat) : Int) = 0 from rfl) (show ((3804 : Nat) : Int) = 3804 from rfl))) (zcons (zvi (show (-1 : Int32) = i3 (-1) from rfl)) rfl))))) c9) ?_
        clear c9
        have r566 := zM_f hZ565I 2 0 0 3805
        refine wz_br (i3Le (zm_rd (Z := Z565) (ν := ν) (k := 2) (show ((0 : Nat) : Int) = 0 from rfl) (show ((0 : Nat) : Int) = 0 from rfl) (show ((3805 : Nat) : Int) = 3805 from rfl)) (show (0 : Int32) = i3 0 from rfl) (by omega) (by omega) (by omega) (by omega)) (fun h567 => ?_) (fun h567 => ?_)
        · replace hP := zE_p hP h567
          have r568 := w3_r (-(Z565 2 0 0 3805))
          obtain ⟨Z569, hZ569, c9, hZ569I, kZ569, jZ569⟩ := sp_403 (ν := ν) hZ565I (a1 := 9) (by omega) (a2 := 5) (by omega) (a3 := (w3 (-(Z565 2 0 0 3805)))) (by omega) (a4 := (-1)) (by omega) (zbh (c := 49) (k := 1) hM (Nat.le_of_ble_eq_true rfl))
          have hZ569U : zU [] Z Z569 := zU_t hZ565U jZ569 zU_b0
          have hZ569K : zC [2] Z Z569 := zC_t hZ565K kZ569 (by decide)
          replace hZ569I := zmt (c := 50) hZ569I rfl
          replace hP := zl_e hP hZ569
          refine wz_cV_of (zas (zcons rfl (zcons (zvi (show (9 : Int32) = i3 9 from rfl)) (zcons (zvi (show (5 : Int32) = i3 5 from rfl)) (zcons (zvi (i3W (i3G (zm_rd (Z := Z565) (ν := ν) (k := 2) (show ((0 : Nat) : Int) = 0 from rfl) (show ((0 : Nat) : Int) = 0 from rfl) (show ((3805 : Nat) : Int) = 3805 from rfl))))) (zcons (zvi (show (-1 : Int32) = i3 (-1) from rfl)) rfl))))) c9) ?_
          clear c9
          have r570 := zM_f hZ569I 2 0 0 3806
          refine wz_br (i3Le (zm_rd (Z := Z569) (ν := ν) (k := 2) (show ((0 : Nat) : Int) = 0 from rfl) (show ((0 : Nat) : Int) = 0 from rfl) (show ((3806 : Nat) : Int) = 3806 from rfl)) (show (0 : Int32) = i3 0 from rfl) (by omega) (by omega) (by omega) (by omega)) (fun h571 => ?_) (fun h571 => ?_)
          · replace hP := zE_p hP h571
            have r572 := w3_r (-(Z569 2 0 0 3806))
            obtain ⟨Z573, hZ573, c9, hZ573I, kZ573, jZ573⟩ := sp_403 (ν := ν) hZ569I (a1 := 9) (by omega) (a2 := 6) (by omega) (a3 := (w3 (-(Z569 2 0 0 3806)))) (by omega) (a4 := (-1)) (by omega) (zbh (c := 50) (k := 1) hM (Nat.le_of_ble_eq_true rfl))
            have hZ573U : zU [] Z Z573 := zU_t hZ569U jZ573 zU_b0
            have hZ573K : zC [2] Z Z573 := zC_t hZ569K kZ573 (by decide)
            replace hZ573I := zmt (c := 51) hZ573I rfl
            replace hP := zl_e hP hZ573
            refine wz_cV_of (zas (zcons rfl (zcons (zvi (show (9 : Int32) = i3 9 from rfl)) (zcons (zvi (show (6 : Int32) = i3 6 from rfl)) (zcons (zvi (i3W (i3G (zm_rd (Z := Z569) (ν := ν) (k := 2) (show ((0 : Nat) : Int) = 0 from rfl) (show ((0 : Nat) : Int) = 0 from rfl) (show ((3806 : Nat) : Int) = 3806 from rfl))))) (zcons (zvi (show (-1 : Int32) = i3 (-1) from rfl)) rfl))))) c9) ?_
            clear c9
            have r574 := zM_f hZ573I 2 0 0 3807
            refine wz_br (i3Le (zm_rd (Z := Z573) (ν := ν) (k := 2) (show ((0 : Nat) : Int) = 0 from rfl) (show ((0 : Nat) : Int) = 0 from rfl) (show ((3807 : Nat) : Int) = 3807 from rfl)) (show (0 : Int32) = i3 0 from rfl) (by omega) (by omega) (by omega) (by omega)) (fun h575 => ?_) (fun h575 => ?_)
            · replace hP := zE_p hP h575
              have r576 := w3_r (-(Z573 2 0 0 3807))
              obtain ⟨Z577, hZ577, c9, hZ577I, kZ577, jZ577⟩ := sp_403 (ν := ν) hZ573I (a1 := 9) (by omega) (a2 := 7) (by omega) (a3 := (w3 (-(Z573 2 0 0 3807)))) (by omega) (a4 := (-1)) (by omega) (zbh (c := 51) (k := 1) hM (Nat.le_of_ble_eq_true rfl))
              have hZ577U : zU [] Z Z577 := zU_t hZ573U jZ577 zU_b0
              have hZ577K : zC [2] Z Z577 := zC_t hZ573K kZ577 (by decide)
              replace hZ577I := zmt (c := 52) hZ577I rfl
              replace hP := zl_e hP hZ577
              refine wz_cV_of (zas (zcons rfl (zcons (zvi (show (9 : Int32) = i3 9 from rfl)) (zcons (zvi (show (7 : Int32) = i3 7 from rfl)) (zcons (zvi (i3W (i3G (zm_rd (Z := Z573) (ν := ν) (k := 2) (show ((0 : Nat) : Int) = 0 from rfl) (show ((0 : Nat) : Int) = 0 from rfl) (show ((3807 : Nat) : Int) = 3807 from rfl))))) (zcons (zvi (show (-1 : Int32) = i3 (-1) from rfl)) rfl))))) c9) ?_
              clear c9
              have r578 := zM_f hZ577I 2 0 0 3808
              refine wz_br (i3Le (zm_rd (Z := Z577) (ν := ν) (k := 2) (show ((0 : Nat) : Int) = 0 from rfl) (show ((0 : Nat) : Int) = 0 from rfl) (show ((3808 : Nat) : Int) = 3808 from rfl)) (show (0 : Int32) = i3 0 from rfl) (by omega) (by omega) (by omega) (by omega)) (fun h579 => ?_) (fun h579 => ?_)
              · replace hP := zE_p hP h579
                have r580 := w3_r (-(Z577 2 0 0 3808))
                obtain ⟨Z581, hZ581, c9, hZ581I, kZ581, jZ581⟩ := sp_403 (ν := ν) hZ577I (a1 := 9) (by omega) (a2 := 8) (by omega) (a3 := (w3 (-(Z577 2 0 0 3808)))) (by omega) (a4 := (-1)) (by omega) (zbh (c := 52) (k := 1) hM (Nat.le_of_ble_eq_true rfl))
                have hZ581U : zU [] Z Z581 := zU_t hZ577U jZ581 zU_b0
                have hZ581K : zC [2] Z Z581 := zC_t hZ577K kZ581 (by decide)
                replace hZ581I := zmt (c := 53) hZ581I rfl
                replace hP := zl_e hP hZ581
                refine wz_cV_of (zas (zcons rfl (zcons (zvi (show (9 : Int32) = i3 9 from rfl)) (zcons (zvi (show (8 : Int32) = i3 8 from rfl)) (zcons (zvi (i3W (i3G (zm_rd (Z := Z577) (ν := ν) (k := 2) (show ((0 : Nat) : Int) = 0 from rfl) (show ((0 : Nat) : Int) = 0 from rfl) (show ((3808 : Nat) : Int) = 3808 from rfl))))) (zcons (zvi (show (-1 : Int32) = i3 (-1) from rfl)) rfl))))) c9) ?_
                clear c9
                exact zlV hP ⟨hZ581I, hZ581K, hZ581U⟩
              · replace hP := zE_n hP h579
                obtain ⟨Z582, hZ582, c9, hZ582I, kZ582, jZ582⟩ := sp_403 (ν := ν) hZ577I (a1 := 8) (by omega) (a2 := 9) (by omega) (a3 := (Z577 2 0 0 3808)) (by omega) (a4 := (-1)) (by omega) (zbh (c := 52) (k := 1) hM (Nat.le_of_ble_eq_true rfl))
                have hZ582U : zU [] Z Z582 := zU_t hZ577U jZ582 zU_b0
                have hZ582K : zC [2] Z Z582 := zC_t hZ577K kZ582 (by decide)
                replace hZ582I := zmt (c := 53) hZ582I rfl
                replace hP := zl_e hP hZ582
                refine wz_cV_of (zas (zcons rfl (zcons (zvi (show (8 : Int32) = i3 8 from rfl)) (zcons (zvi (show (9 : Int32) = i3 9 from rfl)) (zcons (zvi (zm_rd (Z := Z577) (ν := ν) (k := 2) (show ((0 : Nat) : Int) = 0 from rfl) (show ((0 : Nat) : Int) = 0 from rfl) (show ((3808 : Nat) : Int) = 3808 from rfl))) (zcons (zvi (show (-1 : Int32) = i3 (-1) from rfl)) rfl))))) c9) ?_
                clear c9
                exact zlV hP ⟨hZ582I, hZ582K, hZ582U⟩
            · replace hP := zE_n hP h575
              obtain ⟨Z583, hZ583, c9, hZ583I, kZ583, jZ583⟩ := sp_403 (ν := ν) hZ573I (a1 := 7) (by omega) (a2 := 9) (by omega) (a3 := (Z573 2 0 0 3807)) (by omega) (a4 := (-1)) (by omega) (zbh (c := 51) (k := 1) hM (Nat.le_of_ble_eq_true rfl))
              have hZ583U : zU [] Z Z583 := zU_t hZ573U jZ583 zU_b0
              have hZ583K : zC [2] Z Z583 := zC_t hZ573K kZ583 (by decide)
              replace hZ583I := zmt (c := 52) hZ583I rfl
              replace hP := zl_e hP hZ583
              refine wz_cV_of (zas (zcons rfl (zcons (zvi (show (7 : Int32) = i3 7 from rfl)) (zcons (zvi (show (9 : Int32) = i3 9 from rfl)) (zcons (zvi (zm_rd (Z := Z573) (ν := ν) (k := 2) (show ((0 : Nat) : Int) = 0 from rfl) (show ((0 : Nat) : Int) = 0 from rfl) (show ((3807 : Nat) : Int) = 3807 from rfl))) (zcons (zvi (show (-1 : Int32) = i3 (-1) from rfl)) rfl))))) c9) ?_
              clear c9
              have r584 := zM_f hZ583I 2 0 0 3808
              refine wz_br (i3Le (zm_rd (Z := Z583) (ν := ν) (k := 2) (show ((0 : Nat) : Int) = 0 from rfl) (show ((0 : Nat) : Int) = 0 from rfl) (show ((3808 : Nat) : Int) = 3808 from rfl)) (show (0 : Int32) = i3 0 from rfl) (by omega) (by omega) (by omega) (by omega)) (fun h585 => ?_) (fun h585 => ?_)
              · replace hP := zE_p hP h585
                have r586 := w3_r (-(Z583 2 0 0 3808))
                obtain ⟨Z587, hZ587, c9, hZ587I, kZ587, jZ587⟩ := sp_403 (ν := ν) hZ583I (a1 := 9) (by omega) (a2 := 8) (by omega) (a3 := (w3 (-(Z583 2 0 0 3808)))) (by omega) (a4 := (-1)) (by omega) (zbh (c := 52) (k := 1) hM (Nat.le_of_ble_eq_true rfl))
                have hZ587U : zU [] Z Z587 := zU_t hZ583U jZ587 zU_b0
                have hZ587K : zC [2] Z Z587 := zC_t hZ583K kZ587 (by decide)
                replace hZ587I := zmt (c := 53) hZ587I rfl
                replace hP := zl_e hP hZ587
                refine wz_cV_of (zas (zcons rfl (zcons (zvi (show (9 : Int32) = i3 9 from rfl)) (zcons (zvi (show (8 : Int32) = i3 8 from rfl)) (zcons (zvi (i3W (i3G (zm_rd (Z := Z583) (ν := ν) (k := 2) (show ((0 : Nat) : Int) = 0 from rfl) (show ((0 : Nat) : Int) = 0 from rfl) (show ((3808 : Nat) : Int) = 3808 from rfl))))) (zcons (zvi (show (-1 : Int32) = i3 (-1) from rfl)) rfl))))) c9) ?_
                clear c9
                exact zlV hP ⟨hZ587I, hZ587K, hZ587U⟩
              · replace hP := zE_n hP h585
                obtain ⟨Z588, hZ588, c9, hZ588I, kZ588, jZ588⟩ := sp_403 (ν := ν) hZ583I (a1 := 8) (by omega) (a2 := 9) (by omega) (a3 := (Z583 2 0 0 3808)) (by omega) (a4 := (-1)) (by omega) (zbh (c := 52) (k := 1) hM (Nat.le_of_ble_eq_true rfl))
                have hZ588U : zU [] Z Z588 := zU_t hZ583U jZ588 zU_b0
                have hZ588K : zC [2] Z Z588 := zC_t hZ583K kZ588 (by decide)
                replace hZ588I := zmt (c := 53) hZ588I rfl
                replace hP := zl_e hP hZ588
                refine wz_cV_of (zas (zcons rfl (zcons (zvi (show (8 : Int32) = i3 8 from rfl)) (zcons (zvi (show (9 : Int32) = i3 9 from rfl)) (zcons (zvi (zm_rd (Z := Z583) (ν := ν) (k := 2) (show ((0 : Nat) : Int) = 0 from rfl) (show ((0 : Nat) : Int) = 0 from rfl) (show ((3808 : Nat) : Int) = 3808 from rfl))) (zcons (zvi (show (-1 : Int32) = i3 (-1) from rfl)) rfl))))) c9) ?_
                clear c9
                exact zlV hP ⟨hZ588I, hZ588K, hZ588U⟩
          · replace hP := zE_n hP h571
            obtain ⟨Z589, hZ589, c9, hZ589I, kZ589, jZ589⟩ := sp_403 (ν := ν) hZ569I (a1 := 6) (by omega) (a2 := 9) (by omega) (a3 := (Z569 2 0 0 3806)) (by omega) (a4 := (-1)) (by omega) (zbh (c := 50) (k := 1) hM (Nat.le_of_ble_eq_true rfl))
            have hZ589U : zU [] Z Z589 := zU_t hZ569U jZ589 zU_b0
            have hZ589K : zC [2] Z Z589 := zC_t hZ569K kZ589 (by decide)
            replace hZ589I := zmt (c := 51) hZ589I rfl
            replace hP := zl_e hP hZ589
            refine wz_cV_of (zas (zcons rfl (zcons (zvi (show (6 : Int32) = i3 6 from rfl)) (zcons (zvi (show (9 : Int32) = i3 9 from rfl)) (zcons (zvi (zm_rd (Z := Z569) (ν := ν) (k := 2) (show ((0 : Nat) : Int) = 0 from rfl) (show ((0 : Nat) : Int) = 0 from rfl) (show ((3806 : Nat) : Int) = 3806 from rfl))) (zcons (zvi (show (-1 : Int32) = i3 (-1) from rfl)) rfl))))) c9) ?_
            clear c9
            have r590 := zM_f hZ589I 2 0 0 3807
            refine wz_br (i3Le (zm_rd (Z := Z589) (ν := ν) (k := 2) (show ((0 : Nat) : Int) = 0 from rfl) (show ((0 : Nat) : Int) = 0 from rfl) (show ((3807 : Nat) : Int) = 3807 from rfl)) (show (0 : Int32) = i3 0 from rfl) (by omega) (by omega) (by omega) (by omega)) (fun h591 => ?_) (fun h591 => ?_)
            · replace hP := zE_p hP h591
              have r592 := w3_r (-(Z589 2 0 0 3807))
              obtain ⟨Z593, hZ593, c9, hZ593I, kZ593, jZ593⟩ := sp_403 (ν := ν) hZ589I (a1 := 9) (by omega) (a2 := 7) (by omega) (a3 := (w3 (-(Z589 2 0 0 3807)))) (by omega) (a4 := (-1)) (by omega) (zbh (c := 51) (k := 1) hM (Nat.le_of_ble_eq_true rfl))
              have hZ593U : zU [] Z Z593 := zU_t hZ589U jZ593 zU_b0
              have hZ593K : zC [2] Z Z593 := zC_t hZ589K kZ593 (by decide)
              replace hZ593I := zmt (c := 52) hZ593I rfl
              replace hP := zl_e hP hZ593
              refine wz_cV_of (zas (zcons rfl (zcons (zvi (show (9 : Int32) = i3 9 from rfl)) (zcons (zvi (show (7 : Int32) = i3 7 from rfl)) (zcons (zvi (i3W (i3G (zm_rd (Z := Z589) (ν := ν) (k := 2) (show ((0 : Nat) : Int) = 0 from rfl) (show ((0 : Nat) : Int) = 0 from rfl) (show ((3807 : Nat) : Int) = 3807 from rfl))))) (zcons (zvi (show (-1 : Int32) = i3 (-1) from rfl)) rfl))))) c9) ?_
              clear c9
              have r594 := zM_f hZ593I 2 0 0 3808
              refine wz_br (i3Le (zm_rd (Z := Z593) (ν := ν) (k := 2) (show ((0 : Nat) : Int) = 0 from rfl) (show ((0 : Nat) : Int) = 0 from rfl) (show ((3808 : Nat) : Int) = 3808 from rfl)) (show (0 : Int32) = i3 0 from rfl) (by omega) (by omega) (by omega) (by omega)) (fun h595 => ?_) (fun h595 => ?_)
              · replace hP := zE_p hP h595
                have r596 := w3_r (-(Z593 2 0 0 3808))
                obtain ⟨Z597, hZ597, c9, hZ597I, kZ597, jZ597⟩ := sp_403 (ν := ν) hZ593I (a1 := 9) (by omega) (a2 := 8) (by omega) (a3 := (w3 (-(Z593 2 0 0 3808)))) (by omega) (a4 := (-1)) (by omega) (zbh (c := 52) (k := 1) hM (Nat.le_of_ble_eq_true rfl))
                have hZ597U : zU [] Z Z597 := zU_t hZ593U jZ597 zU_b0
                have hZ597K : zC [2] Z Z597 := zC_t hZ593K kZ597 (by decide)
                replace hZ597I := zmt (c := 53) hZ597I rfl
                replace hP := zl_e hP hZ597
                refine wz_cV_of (zas (zcons rfl (zcons (zvi (show (9 : Int32) = i3 9 from rfl)) (zcons (zvi (show (8 : Int32) = i3 8 from rfl)) (zcons (zvi (i3W (i3G (zm_rd (Z := Z593) (ν := ν) (k := 2) (show ((0 : Nat) : Int) = 0 from rfl) (show ((0 : Nat) : Int) = 0 from rfl) (show ((3808 : Nat) : Int) = 3808 from rfl))))) (zcons (zvi (show (-1 : Int32) = i3 (-1) from rfl)) rfl))))) c9) ?_
                clear c9
                exact zlV hP ⟨hZ597I, hZ597K, hZ597U⟩
              · replace hP := zE_n hP h595
                obtain ⟨Z598, hZ598, c9, hZ598I, kZ598, jZ598⟩ := sp_403 (ν := ν) hZ593I (a1 := 8) (by omega) (a2 := 9) (by omega) (a3 := (Z593 2 0 0 3808)) (by omega) (a4 := (-1)) (by omega) (zbh (c := 52) (k := 1) hM (Nat.le_of_ble_eq_true rfl))
                have hZ598U : zU [] Z Z598 := zU_t hZ593U jZ598 zU_b0
                have hZ598K : zC [2] Z Z598 := zC_t hZ593K kZ598 (by decide)
                replace hZ598I := zmt (c := 53) hZ598I rfl
                replace hP := zl_e hP hZ598
                refine wz_cV_of (zas (zcons rfl (zcons (zvi (show (8 : Int32) = i3 8 from rfl)) (zcons (zvi (show (9 : Int32) = i3 9 from rfl)) (zcons (zvi (zm_rd (Z := Z593) (ν := ν) (k := 2) (show ((0 : Nat) : Int) = 0 from rfl) (show ((0 : Nat) : Int) = 0 from rfl) (show ((3808 : Nat) : Int) = 3808 from rfl))) (zcons (zvi (show (-1 : Int32) = i3 (-1) from rfl)) rfl))))) c9) ?_
                clear c9
                exact zlV hP ⟨hZ598I, hZ598K, hZ598U⟩
            · replace hP := zE_n hP h591
              obtain ⟨Z599, hZ599, c9, hZ599I, kZ599, jZ599⟩ := sp_403 (ν := ν) hZ589I (a1 := 7) (by omega) (a2 := 9) (by omega) (a3 := (Z589 2 0 0 3807)) (by omega) (a4 := (-1)) (by omega) (zbh (c := 51) (k := 1) hM (Nat.le_of_ble_eq_true rfl))
              have hZ599U : zU [] Z Z599 := zU_t hZ589U jZ599 zU_b0
              have hZ599K : zC [2] Z Z599 := zC_t hZ589K kZ599 (by decide)
              replace hZ599I := zmt (c := 52) hZ599I rfl
              replace hP := zl_e hP hZ599
              refine wz_cV_of (zas (zcons rfl (zcons (zvi (show (7 : Int32) = i3 7 from rfl)) (zcons (zvi (show (9 : Int32) = i3 9 from rfl)) (zcons (zvi (zm_rd (Z := Z589) (ν := ν) (k := 2) (show ((0 : Nat) : Int) = 0 from rfl) (show ((0 : Nat) : Int) = 0 from rfl) (show ((3807 : Nat) : Int) = 3807 from rfl))) (zcons (zvi (show (-1 : Int32) = i3 (-1) from rfl)) rfl))))) c9) ?_
              clear c9
              have r600 := zM_f hZ599I 2 0 0 3808
              refine wz_br (i3Le (zm_rd (Z := Z599) (ν := ν) (k := 2) (show ((0 : Nat) : Int) = 0 from rfl) (show ((0 : Nat) : Int) = 0 from rfl) (show ((3808 : Nat) : Int) = 3808 from rfl)) (show (0 : Int32) = i3 0 from rfl) (by omega) (by omega) (by omega) (by omega)) (fun h601 => ?_) (fun h601 => ?_)
              · replace hP := zE_p hP h601
                have r602 := w3_r (-(Z599 2 0 0 3808))
                obtain ⟨Z603, hZ603, c9, hZ603I, kZ603, jZ603⟩ := sp_403 (ν := ν) hZ599I (a1 := 9) (by omega) (a2 := 8) (by omega) (a3 := (w3 (-(Z599 2 0 0 3808)))) (by omega) (a4 := (-1)) (by omega) (zbh (c := 52) (k := 1) hM (Nat.le_of_ble_eq_true rfl))
                have hZ603U : zU [] Z Z603 := zU_t hZ599U jZ603 zU_b0
                have hZ603K : zC [2] Z Z603 := zC_t hZ599K kZ603 (by decide)
                replace hZ603I := zmt (c := 53) hZ603I rfl
                replace hP := zl_e hP hZ603
                refine wz_cV_of (zas (zcons rfl (zcons (zvi (show (9 : Int32) = i3 9 from rfl)) (zcons (zvi (show (8 : Int32) = i3 8 from rfl)) (zcons (zvi (i3W (i3G (zm_rd (Z := Z599) (ν := ν) (k := 2) (show ((0 : Nat) : Int) = 0 from rfl) (show ((0 : Nat) : Int) = 0 from rfl) (show ((3808 : Nat) : Int) = 3808 from rfl))))) (zcons (zvi (show (-1 : Int32) = i3 (-1) from rfl)) rfl))))) c9) ?_
                clear c9
                exact zlV hP ⟨hZ603I, hZ603K, hZ603U⟩
              · replace hP := zE_n hP h601
                obtain ⟨Z604, hZ604, c9, hZ604I, kZ604, jZ604⟩ := sp_403 (ν := ν) hZ599I (a1 := 8) (by omega) (a2 := 9) (by omega) (a3 := (Z599 2 0 0 3808)) (by omega) (a4 := (-1)) (by omega) (zbh (c := 52) (k := 1) hM (Nat.le_of_ble_eq_true rfl))
                have hZ604U : zU [] Z Z604 := zU_t hZ599U jZ604 zU_b0
                have hZ604K : zC [2] Z Z604 := zC_t hZ599K kZ604 (by decide)
                replace hZ604I := zmt (c := 53) hZ604I rfl
                replace hP := zl_e hP hZ604
                refine wz_cV_of (zas (zcons rfl (zcons (zvi (show (8 : Int32) = i3 8 from rfl)) (zcons (zvi (show (9 : Int32) = i3 9 from rfl)) (zcons (zvi (zm_rd (Z := Z599) (ν := ν) (k := 2) (show ((0 : Nat) : Int) = 0 from rfl) (show ((0 : Nat) : Int) = 0 from rfl) (show ((3808 : Nat) : Int) = 3808 from rfl))) (zcons (zvi (show (-1 : Int32) = i3 (-1) from rfl)) rfl))))) c9) ?_
                clear c9
                exact zlV hP ⟨hZ604I, hZ604K, hZ604U⟩
        · replace hP := zE_n hP h567
          obtain ⟨Z605, hZ605, c9, hZ605I, kZ605, jZ605⟩ := sp_403 (ν := ν) hZ565I (a1 := 5) (by omega) (a2 := 9) (by omega) (a3 := (Z565 2 0 0 3805)) (by omega) (a4 := (-1)) (by omega) (zbh (c := 49) (k := 1) hM (Nat.le_of_ble_eq_true rfl))
          have hZ605U : zU [] Z Z605 := zU_t hZ565U jZ605 zU_b0
          have hZ605K : zC [2] Z Z605 := zC_t hZ565K kZ605 (by decide)
          replace hZ605I := zmt (c := 50) hZ605I rfl
          replace hP := zl_e hP hZ605
          refine wz_cV_of (zas (zcons rfl (zcons (zvi (show (5 : Int32) = i3 5 from rfl)) (zcons (zvi (show (9 : Int32) = i3 9 from rfl)) (zcons (zvi (zm_rd (Z := Z565) (ν := ν) (k := 2) (show ((0 : Nat) : Int) = 0 from rfl) (show ((0 : Nat) : Int) = 0 from rfl) (show ((3805 : Nat) : Int) = 3805 from rfl))) (zcons (zvi (show (-1 : Int32) = i3 (-1) from rfl)) rfl))))) c9) ?_
          clear c9
          have r606 := zM_f hZ605I 2 0 0 3806
          refine wz_br (i3Le (zm_rd (Z := Z605) (ν := ν) (k := 2) (show ((0 : Nat) : Int) = 0 from rfl) (show ((0 : Nat) : Int) = 0 from rfl) (show ((3806 : Nat) : Int) = 3806 from rfl)) (show (0 : Int32) = i3 0 from rfl) (by omega) (by omega) (by omega) (by omega)) (fun h607 => ?_) (fun h607 => ?_)
          · replace hP := zE_p hP h607
            have r608 := w3_r (-(Z605 2 0 0 3806))
            obtain ⟨Z609, hZ609, c9, hZ609I, kZ609, jZ609⟩ := sp_403 (ν := ν) hZ605I (a1 := 9) (by omega) (a2 := 6) (by omega) (a3 := (w3 (-(Z605 2 0 0 3806)))) (by omega) (a4 := (-1)) (by omega) (zbh (c := 50) (k := 1) hM (Nat.le_of_ble_eq_true rfl))
            have hZ609U : zU [] Z Z609 := zU_t hZ605U jZ609 zU_b0
            have hZ609K : zC [2] Z Z609 := zC_t hZ605K kZ609 (by decide)
            replace hZ609I := zmt (c := 51) hZ609I rfl
            replace hP := zl_e hP hZ609
            refine wz_cV_of (zas (zcons rfl (zcons (zvi (show (9 : Int32) = i3 9 from rfl)) (zcons (zvi (show (6 : Int32) = i3 6 from rfl)) (zcons (zvi (i3W (i3G (zm_rd (Z := Z605) (ν := ν) (k := 2) (show ((0 : Nat) : Int) = 0 from rfl) (show ((0 : Nat) : Int) = 0 from rfl) (show ((3806 : Nat) : Int) = 3806 from rfl))))) (zcons (zvi (show (-1 : Int32) = i3 (-1) from rfl)) rfl))))) c9) ?_
            clear c9
            have r610 := zM_f hZ609I 2 0 0 3807
            refine wz_br (i3Le (zm_rd (Z := Z609) (ν := ν) (k := 2) (show ((0 : Nat) : Int) = 0 from rfl) (show ((0 : Nat) : Int) = 0 from rfl) (show ((3807 : Nat) : Int) = 3807 from rfl)) (show (0 : Int32) = i3 0 from rfl) (by omega) (by omega) (by omega) (by omega)) (fun h611 => ?_) (fun h611 => ?_)
            · replace hP := zE_p hP h611
              have r612 := w3_r (-(Z609 2 0 0 3807))
              obtain ⟨Z613, hZ613, c9, hZ613I, kZ613, jZ613⟩ := sp_403 (ν := ν) hZ609I (a1 := 9) (by omega) (a2 := 7) (by omega) (a3 := (w3 (-(Z609 2 0 0 3807)))) (by omega) (a4 := (-1)) (by omega) (zbh (c := 51) (k := 1) hM (Nat.le_of_ble_eq_true rfl))
              have hZ613U : zU [] Z Z613 := zU_t hZ609U jZ613 zU_b0
              have hZ613K : zC [2] Z Z613 := zC_t hZ609K kZ613 (by decide)
              replace hZ613I := zmt (c := 52) hZ613I rfl
              replace hP := zl_e hP hZ613
              refine wz_cV_of (zas (zcons rfl (zcons (zvi (show (9 : Int32) = i3 9 from rfl)) (zcons (zvi (show (7 : Int32) = i3 7 from rfl)) (zcons (zvi (i3W (i3G (zm_rd (Z := Z609) (ν := ν) (k := 2) (show ((0 : Nat) : Int) = 0 from rfl) (show ((0 : Nat) : Int) = 0 from rfl) (show ((3807 : Nat) : Int) = 3807 from rfl))))) (zcons (zvi (show (-1 : Int32) = i3 (-1) from rfl)) rfl))))) c9) ?_
              clear c9
              have r614 := zM_f hZ613I 2 0 0 3808
              refine wz_br (i3Le (zm_rd (Z := Z613) (ν := ν) (k := 2) (show ((0 : Nat) : Int) = 0 from rfl) (show ((0 : Nat) : Int) = 0 from rfl) (show ((3808 : Nat) : Int) = 3808 from rfl)) (show (0 : Int32) = i3 0 from rfl) (by omega) (by omega) (by omega) (by omega)) (fun h615 => ?_) (fun h615 => ?_)
              · replace hP := zE_p hP h615
                have r616 := w3_r (-(Z613 2 0 0 3808))
                obtain ⟨Z617, hZ617, c9, hZ617I, kZ617, jZ617⟩ := sp_403 (ν := ν) hZ613I (a1 := 9) (by omega) (a2 := 8) (by omega) (a3 := (w3 (-(Z613 2 0 0 3808)))) (by omega) (a4 := (-1)) (by omega) (zbh (c := 52) (k := 1) hM (Nat.le_of_ble_eq_true rfl))
                have hZ617U : zU [] Z Z617 := zU_t hZ613U jZ617 zU_b0
                have hZ617K : zC [2] Z Z617 := zC_t hZ613K kZ617 (by decide)
                replace hZ617I := zmt (c := 53) hZ617I rfl
                replace hP := zl_e hP hZ617
                refine wz_cV_of (zas (zcons rfl (zcons (zvi (show (9 : Int32) = i3 9 from rfl)) (zcons (zvi (show (8 : Int32) = i3 8 from rfl)) (zcons (zvi (i3W (i3G (zm_rd (Z := Z613) (ν := ν) (k := 2) (show ((0 : Nat) : Int) = 0 from rfl) (show ((0 : Nat) : Int) = 0 from rfl) (show ((3808 : Nat) : Int) = 3808 from rfl))))) (zcons (zvi (show (-1 : Int32) = i3 (-1) from rfl)) rfl))))) c9) ?_
                clear c9
                exact zlV hP ⟨hZ617I, hZ617K, hZ617U⟩
              · replace hP := zE_n hP h615
                obtain ⟨Z618, hZ618, c9, hZ618I, kZ618, jZ618⟩ := sp_403 (ν := ν) hZ613I (a1 := 8) (by omega) (a2 := 9) (by omega) (a3 := (Z613 2 0 0 3808)) (by omega) (a4 := (-1)) (by omega) (zbh (c := 52) (k := 1) hM (Nat.le_of_ble_eq_true rfl))
                have hZ618U : zU [] Z Z618 := zU_t hZ613U jZ618 zU_b0
                have hZ618K : zC [2] Z Z618 := zC_t hZ613K kZ618 (by decide)
                replace hZ618I := zmt (c := 53) hZ618I rfl
                replace hP := zl_e hP hZ618
                refine wz_cV_of (zas (zcons rfl (zcons (zvi (show (8 : Int32) = i3 8 from rfl)) (zcons (zvi (show (9 : Int32) = i3 9 from rfl)) (zcons (zvi (zm_rd (Z := Z613) (ν := ν) (k := 2) (show ((0 : Nat) : Int) = 0 from rfl) (show ((0 : Nat) : Int) = 0 from rfl) (show ((3808 : Nat) : Int) = 3808 from rfl))) (zcons (zvi (show (-1 : Int32) = i3 (-1) from rfl)) rfl))))) c9) ?_
                clear c9
                exact zlV hP ⟨hZ618I, hZ618K, hZ618U⟩
            · replace hP := zE_n hP h611
              obtain ⟨Z619, hZ619, c9, hZ619I, kZ619, jZ619⟩ := sp_403 (ν := ν) hZ609I (a1 := 7) (by omega) (a2 := 9) (by omega) (a3 := (Z609 2 0 0 3807)) (by omega) (a4 := (-1)) (by omega) (zbh (c := 51) (k := 1) hM (Nat.le_of_ble_eq_true rfl))
              have hZ619U : zU [] Z Z619 := zU_t hZ609U jZ619 zU_b0
              have hZ619K : zC [2] Z Z619 := zC_t hZ609K kZ619 (by decide)
              replace hZ619I := zmt (c := 52) hZ619I rfl
              replace hP := zl_e hP hZ619
              refine wz_cV_of (zas (zcons rfl (zcons (zvi (show (7 : Int32) = i3 7 from rfl)) (zcons (zvi (show (9 : Int32) = i3 9 from rfl)) (zcons (zvi (zm_rd (Z := Z609) (ν := ν) (k := 2) (show ((0 : Nat) : Int) = 0 from rfl) (show ((0 : Nat) : Int) = 0 from rfl) (show ((3807 : Nat) : Int) = 3807 from rfl))) (zcons (zvi (show (-1 : Int32) = i3 (-1) from rfl)) rfl))))) c9) ?_
              clear c9
              have r620 := zM_f hZ619I 2 0 0 3808
              refine wz_br (i3Le (zm_rd (Z := Z619) (ν := ν) (k := 2) (show ((0 : Nat) : Int) = 0 from rfl) (show ((0 : Nat) : Int) = 0 from rfl) (show ((3808 : Nat) : Int) = 3808 from rfl)) (show (0 : Int32) = i3 0 from rfl) (by omega) (by omega) (by omega) (by omega)) (fun h621 => ?_) (fun h621 => ?_)
              · replace hP := zE_p hP h621
                have r622 := w3_r (-(Z619 2 0 0 3808))
                obtain ⟨Z623, hZ623, c9, hZ623I, kZ623, jZ623⟩ := sp_403 (ν := ν) hZ619I (a1 := 9) (by omega) (a2 := 8) (by omega) (a3 := (w3 (-(Z619 2 0 0 3808)))) (by omega) (a4 := (-1)) (by omega) (zbh (c := 52) (k := 1) hM (Nat.le_of_ble_eq_true rfl))
                have hZ623U : zU [] Z Z623 := zU_t hZ619U jZ623 zU_b0
                have hZ623K : zC [2] Z Z623 := zC_t hZ619K kZ623 (by decide)
                replace hZ623I := zmt (c := 53) hZ623I rfl
                replace hP := zl_e hP hZ623
                refine wz_cV_of (zas (zcons rfl (zcons (zvi (show (9 : Int32) = i3 9 from rfl)) (zcons (zvi (show (8 : Int32) = i3 8 from rfl)) (zcons (zvi (i3W (i3G (zm_rd (Z := Z619) (ν := ν) (k := 2) (show ((0 : Nat) : Int) = 0 from rfl) (show ((0 : Nat) : Int) = 0 from rfl) (show ((3808 : Nat) : Int) = 3808 from rfl))))) (zcons (zvi (show (-1 : Int32) = i3 (-1) from rfl)) rfl))))) c9) ?_
                clear c9
                exact zlV hP ⟨hZ623I, hZ623K, hZ623U⟩
              · replace hP := zE_n hP h621
                obtain ⟨Z624, hZ624, c9, hZ624I, kZ624, jZ624⟩ := sp_403 (ν := ν) hZ619I (a1 := 8) (by omega) (a2 := 9) (by omega) (a3 := (Z619 2 0 0 3808)) (by omega) (a4 := (-1)) (by omega) (zbh (c := 52) (k := 1) hM (Nat.le_of_ble_eq_true rfl))
                have hZ624U : zU [] Z Z624 := zU_t hZ619U jZ624 zU_b0
                have hZ624K : zC [2] Z Z624 := zC_t hZ619K kZ624 (by decide)
                replace hZ624I := zmt (c := 53) hZ624I rfl
                replace hP := zl_e hP hZ624
                refine wz_cV_of (zas (zcons rfl (zcons (zvi (show (8 : Int32) = i3 8 from rfl)) (zcons (zvi (show (9 : Int32) = i3 9 from rfl)) (zcons (zvi (zm_rd (Z := Z619) (ν := ν) (k := 2) (show ((0 : Nat) : Int) = 0 from rfl) (show ((0 : Nat) : Int) = 0 from rfl) (show ((3808 : Nat) : Int) = 3808 from rfl))) (zcons (zvi (show (-1 : Int32) = i3 (-1) from rfl)) rfl))))) c9) ?_
                clear c9
                exact zlV hP ⟨hZ624I, hZ624K, hZ624U⟩
          · replace hP := zE_n hP h607
            obtain ⟨Z625, hZ625, c9, hZ625I, kZ625, jZ625⟩ := sp_403 (ν := ν) hZ605I (a1 := 6) (by omega) (a2 := 9) (by omega) (a3 := (Z605 2 0 0 3806)) (by omega) (a4 := (-1)) (by omega) (zbh (c := 50) (k := 1) hM (Nat.le_of_ble_eq_true rfl))
            have hZ625U : zU [] Z Z625 := zU_t hZ605U jZ625 zU_b0
            have hZ625K : zC [2] Z Z625 := zC_t hZ605K kZ625 (by decide)
            replace hZ625I := zmt (c := 51) hZ625I rfl
            replace hP := zl_e hP hZ625
            refine wz_cV_of (zas (zcons rfl (zcons (zvi (show (6 : Int32) = i3 6 from rfl)) (zcons (zvi (show (9 : Int32) = i3 9 from rfl)) (zcons (zvi (zm_rd (Z := Z605) (ν := ν) (k := 2) (show ((0 : Nat) : Int) = 0 from rfl) (show ((0 : Nat) : Int) = 0 from rfl) (show ((3806 : Nat) : Int) = 3806 from rfl))) (zcons (zvi (show (-1 : Int32) = i3 (-1) from rfl)) rfl))))) c9) ?_
            clear c9
            have r626 := zM_f hZ625I 2 0 0 3807
            refine wz_br (i3Le (zm_rd (Z := Z625) (ν := ν) (k := 2) (show ((0 : Nat) : Int) = 0 from rfl) (show ((0 : Nat) : Int) = 0 from rfl) (show ((3807 : Nat) : Int) = 3807 from rfl)) (show (0 : Int32) = i3 0 from rfl) (by omega) (by omega) (by omega) (by omega)) (fun h627 => ?_) (fun h627 => ?_)
            · replace hP := zE_p hP h627
              have r628 := w3_r (-(Z625 2 0 0 3807))
              obtain ⟨Z629, hZ629, c9, hZ629I, kZ629, jZ629⟩ := sp_403 (ν := ν) hZ625I (a1 := 9) (by omega) (a2 := 7) (by omega) (a3 := (w3 (-(Z625 2 0 0 3807)))) (by omega) (a4 := (-1)) (by omega) (zbh (c := 51) (k := 1) hM (Nat.le_of_ble_eq_true rfl))
              have hZ629U : zU [] Z Z629 := zU_t hZ625U jZ629 zU_b0
              have hZ629K : zC [2] Z Z629 := zC_t hZ625K kZ629 (by decide)
              replace hZ629I := zmt (c := 52) hZ629I rfl
              replace hP := zl_e hP hZ629
              refine wz_cV_of (zas (zcons rfl (zcons (zvi (show (9 : Int32) = i3 9 from rfl)) (zcons (zvi (show (7 : Int32) = i3 7 from rfl)) (zcons (zvi (i3W (i3G (zm_rd (Z := Z625) (ν := ν) (k := 2) (show ((0 : Nat) : Int) = 0 from rfl) (show ((0 : Nat) : Int) = 0 from rfl) (show ((3807 : Nat) : Int) = 3807 from rfl))))) (zcons (zvi (show (-1 : Int32) = i3 (-1) from rfl)) rfl))))) c9) ?_
              clear c9
              have r630 := zM_f hZ629I 2 0 0 3808
              refine wz_br (i3Le (zm_rd (Z := Z629) (ν := ν) (k := 2) (show ((0 : Nat) : Int) = 0 from rfl) (show ((0 : Nat) : Int) = 0 from rfl) (show ((3808 : Nat) : Int) = 3808 from rfl)) (show (0 : Int32) = i3 0 from rfl) (by omega) (by omega) (by omega) (by omega)) (fun h631 => ?_) (fun h631 => ?_)
              · replace hP := zE_p hP h631
                have r632 := w3_r (-(Z629 2 0 0 3808))
                obtain ⟨Z633, hZ633, c9, hZ633I, kZ633, jZ633⟩ := sp_403 (ν := ν) hZ629I (a1 := 9) (by omega) (a2 := 8) (by omega) (a3 := (w3 (-(Z629 2 0 0 3808)))) (by omega) (a4 := (-1)) (by omega) (zbh (c := 52) (k := 1) hM (Nat.le_of_ble_eq_true rfl))
                have hZ633U : zU [] Z Z633 := zU_t hZ629U jZ633 zU_b0
                have hZ633K : zC [2] Z Z633 := zC_t hZ629K kZ633 (by decide)
                replace hZ633I := zmt (c := 53) hZ633I rfl
                replace hP := zl_e hP hZ633
                refine wz_cV_of (zas (zcons rfl (zcons (zvi (show (9 : Int32) = i3 9 from rfl)) (zcons (zvi (show (8 : Int32) = i3 8 from rfl)) (zcons (zvi (i3W (i3G (zm_rd (Z := Z629) (ν := ν) (k := 2) (show ((0 : Nat) : Int) = 0 from rfl) (show ((0 : Nat) : Int) = 0 from rfl) (show ((3808 : Nat) : Int) = 3808 from rfl))))) (zcons (zvi (show (-1 : Int32) = i3 (-1) from rfl)) rfl))))) c9) ?_
                clear c9
                exact zlV hP ⟨hZ633I, hZ633K, hZ633U⟩
              · replace hP := zE_n hP h631
                obtain ⟨Z634, hZ634, c9, hZ634I, kZ634, jZ634⟩ := sp_403 (ν := ν) hZ629I (a1 := 8) (by omega) (a2 := 9) (by omega) (a3 := (Z629 2 0 0 3808)) (by omega) (a4 := (-1)) (by omega) (zbh (c := 52) (k := 1) hM (Nat.le_of_ble_eq_true rfl))
                have hZ634U : zU [] Z Z634 := zU_t hZ629U jZ634 zU_b0
                have hZ634K : zC [2] Z Z634 := zC_t hZ629K kZ634 (by decide)
                replace hZ634I := zmt (c := 53) hZ634I rfl
                replace hP := zl_e hP hZ634
                refine wz_cV_of (zas (zcons rfl (zcons (zvi (show (8 : Int32) = i3 8 from rfl)) (zcons (zvi (show (9 : Int32) = i3 9 from rfl)) (zcons (zvi (zm_rd (Z := Z629) (ν := ν) (k := 2) (show ((0 : Nat) : Int) = 0 from rfl) (show ((0 : Nat) : Int) = 0 from rfl) (show ((3808 : Nat) : Int) = 3808 from rfl))) (zcons (zvi (show (-1 : Int32) = i3 (-1) from rfl)) rfl))))) c9) ?_
                clear c9
                exact zlV hP ⟨hZ634I, hZ634K, hZ634U⟩
            · replace hP := zE_n hP h627
              obtain ⟨Z635, hZ635, c9, hZ635I, kZ635, jZ635⟩ := sp_403 (ν := ν) hZ625I (a1 := 7) (by omega) (a2 := 9) (by omega) (a3 := (Z625 2 0 0 3807)) (by omega) (a4 := (-1)) (by omega) (zbh (c := 51) (k := 1) hM (Nat.le_of_ble_eq_true rfl))
              have hZ635U : zU [] Z Z635 := zU_t hZ625U jZ635 zU_b0
              have hZ635K : zC [2] Z Z635 := zC_t hZ625K kZ635 (by decide)
              replace hZ635I := zmt (c := 52) hZ635I rfl
              replace hP := zl_e hP hZ635
              refine wz_cV_of (zas (zcons rfl (zcons (zvi (show (7 : Int32) = i3 7 from rfl)) (zcons (zvi (show (9 : Int32) = i3 9 from rfl)) (zcons (zvi (zm_rd (Z := Z625) (ν := ν) (k := 2) (show ((0 : Nat) : Int) = 0 from rfl) (show ((0 : Nat) : Int) = 0 from rfl) (show ((3807 : Nat) : Int) = 3807 from rfl))) (zcons (zvi (show (-1 : Int32) = i3 (-1) from rfl)) rfl))))) c9) ?_
              clear c9
              have r636 := zM_f hZ635I 2 0 0 3808
              refine wz_br (i3Le (zm_rd (Z := Z635) (ν := ν) (k := 2) (show ((0 : Nat) : Int) = 0 from rfl) (show ((0 : Nat) : Int) = 0 from rfl) (show ((3808 : Nat) : Int) = 3808 from rfl)) (show (0 : Int32) = i3 0 from rfl) (by omega) (by omega) (by omega) (by omega)) (fun h637 => ?_) (fun h637 => ?_)
              · replace hP := zE_p hP h637
                have r638 := w3_r (-(Z635 2 0 0 3808))
                obtain ⟨Z639, hZ639, c9, hZ639I, kZ639, jZ639⟩ := sp_403 (ν := ν) hZ635I (a1 := 9) (by omega) (a2 := 8) (by omega) (a3 := (w3 (-(Z635 2 0 0 3808)))) (by omega) (a4 := (-1)) (by omega) (zbh (c := 52) (k := 1) hM (Nat.le_of_ble_eq_true rfl))
                have hZ639U : zU [] Z Z639 := zU_t hZ635U jZ639 zU_b0
                have hZ639K : zC [2] Z Z639 := zC_t hZ635K kZ639 (by decide)
                replace hZ639I := zmt (c := 53) hZ639I rfl
                replace hP := zl_e hP hZ639
                refine wz_cV_of (zas (zcons rfl (zcons (zvi (show (9 : Int32) = i3 9 from rfl)) (zcons (zvi (show (8 : Int32) = i3 8 from rfl)) (zcons (zvi (i3W (i3G (zm_rd (Z := Z635) (ν := ν) (k := 2) (show ((0 : Nat) : Int) = 0 from rfl) (show ((0 : Nat) : Int) = 0 from rfl) (show ((3808 : Nat) : Int) = 3808 from rfl))))) (zcons (zvi (show (-1 : Int32) = i3 (-1) from rfl)) rfl))))) c9) ?_
                clear c9
                exact zlV hP ⟨hZ639I, hZ639K, hZ639U⟩
              · replace hP := zE_n hP h637
                obtain ⟨Z640, hZ640, c9, hZ640I, kZ640, jZ640⟩ := sp_403 (ν := ν) hZ635I (a1 := 8) (by omega) (a2 := 9) (by omega) (a3 := (Z635 2 0 0 3808)) (by omega) (a4 := (-1)) (by omega) (zbh (c := 52) (k := 1) hM (Nat.le_of_ble_eq_true rfl))
                have hZ640U : zU [] Z Z640 := zU_t hZ635U jZ640 zU_b0
                have hZ640K : zC [2] Z Z640 := zC_t hZ635K kZ640 (by decide)
                replace hZ640I := zmt (c := 53) hZ640I rfl
                replace hP := zl_e hP hZ640
                refine wz_cV_of (zas (zcons rfl (zcons (zvi (show (8 : Int32) = i3 8 from rfl)) (zcons (zvi (show (9 : Int32) = i3 9 from rfl)) (zcons (zvi (zm_rd (Z := Z635) (ν := ν) (k := 2) (show ((0 : Nat) : Int) = 0 from rfl) (show ((0 : Nat) : Int) = 0 from rfl) (show ((3808 : Nat) : Int) = 3808 from rfl))) (zcons (zvi (show (-1 : Int32) = i3 (-1) from rfl)) rfl))))) c9) ?_
                clear c9
                exact zlV hP ⟨hZ640I, hZ640K, hZ640U⟩
theorem sp_553 {s : zSM} {Z : qz_Z} {ν : qz_N} (hZ : zM s Z) (gx0 : Z 2 0 0 0 ≤ 670) {J : qz_Z → Prop} (hJ : zJh J) (hLtJ : J Z) (hM : s.2 + 20008 ≤ 1000000000) : ∃ P : qz_Z, P = zf_553 Z ∧ (qf_553 [.inr (.inr (some (1, 0, 0)))] (zm Z ν) = some (zm P ν, .inl none) ∧ zM (zb s 20008) P ∧ zC [1, 2, 95, 96, 1200] Z P ∧ zU [] Z P ∧ J P ∧ P 2 0 0 0 = Z 2 0 0 0 + 1) := by
  obtain ⟨P, hP⟩ := zx (zf_553 Z)
  refine zc_V (Q := fun P => zM (zb s 20008) P ∧ zC [1, 2, 95, 96, 1200] Z P ∧ zU [] Z P ∧ J P ∧ P 2 0 0 0 = Z 2 0 0 0 + 1) hP (fw_553  _ _ ?_)
  replace hP : zE P (zf_553 Z) := hP
  unfold zf_553 at hP
  have r1 := zM_k hZ 2 0 0 0 (lo := 0) (hi := 671) (by decide) rfl
  obtain ⟨Z2, hZ2⟩ := zx (zu Z 2 0 0 0 ((Z 2 0 0 0) + 1))
  replace hP := zl_e hP hZ2
  have hZ2I := zM_u2 hZ hZ2 (lo := 0) (hi := 671) rfl (by omega) ⟨by decide, by decide⟩ (by simp only [zsp]; omega)
  have hZ2U : zU [] Z Z2 := zU_u zU_r hZ2 (Or.inl rfl)
  have hZ2K : zC [1, 2, 95, 96, 1200] Z Z2 := zC_u zC_r hZ2 (by decide)
  intro μ9 e9
  replace e9 := e9.trans (zm_wI (Z := Z) (ν := ν) hZ2 (show ((0 : Nat) : Int) = 0 from rfl) (show ((0 : Nat) : Int) = 0 from rfl) (show ((0 : Nat) : Int) = 0 from rfl) (i3A (zm_rd (Z := Z) (ν := ν) (k := 2) (show ((0 : Nat) : Int) = 0 from rfl) (show ((0 : Nat) : Int) = 0 from rfl) (show ((0 : Nat) : Int) = 0 from rfl)) (show (1 : Int32) = i3 1 from rfl)))
  subst e9
  obtain ⟨Z3, hZ3, c9, hZ3I, kZ3, jZ3⟩ := sp_505 (ν := ν) hZ2I (zbh (c := 0) (k := 5) hM (Nat.le_of_ble_eq_true rfl))
  have hZ3U : zU [] Z Z3 := zU_t hZ2U jZ3 zU_b0
  have hZ3K : zC [1, 2, 95, 96, 1200] Z Z3 := zC_t hZ2K kZ3 (by decide)
  replace hP := zl_e hP hZ3
  refine wz_cV_of (zas (zcons rfl rfl) c9) ?_
  clear c9
  obtain ⟨Z4, hZ4, c9, hZ4I, kZ4, jZ4⟩ := sp_471 (ν := ν) hZ3I (zbh (c := 5) (k := 0) hM (Nat.le_of_ble_eq_true rfl))
  have hZ4U : zU [] Z Z4 := zU_t hZ3U jZ4 zU_b0
  have hZ4K : zC [1, 2, 95, 96, 1200] Z Z4 := zC_t hZ3K kZ4 (by decide)
  replace hP := zl_e hP hZ4
  refine wz_cV_of (zas (zcons rfl rfl) c9) ?_
  clear c9
  obtain ⟨Z5, hZ5, c9, hZ5I, kZ5, jZ5⟩ := sp_358 (ν := ν) hZ4I (zbh (c := 5) (k := 18228) hM (Nat.le_of_ble_eq_true rfl))
  have hZ5U : zU [] Z Z5 := zU_t hZ4U jZ5 zU_b0
  have hZ5K : zC [1, 2, 95, 96, 1200] Z Z5 := zC_t hZ4K kZ5 (by decide)
  replace hZ5I := zmt (c := 18233) hZ5I rfl
  replace hP := zl_e hP hZ5
  refine wz_cV_of (zas (zcons rfl rfl) c9) ?_
  clear c9
  obtain ⟨Z6, hZ6, c9, hZ6I, kZ6, jZ6, tZ6_J⟩ := sp_301 (ν := ν) hZ5I hJ (by rw [hZ5]; exact zJ_358 hJ hZ4I (zbh (c := 5) (k := 18228) hM (Nat.le_of_ble_eq_true rfl)) (by rw [hZ4]; exact zJ_471 hJ (by rw [hZ3]; exact zJ_505 hJ (by rw [hZ2]; exact zJ_now hJ hLtJ (by omega))))) (zbh (c := 18233) (k := 1722) hM (Nat.le_of_ble_eq_true rfl))
  have hZ6U : zU [] Z Z6 := zU_t hZ5U jZ6 zU_b0
  have hZ6K : zC [1, 2, 95, 96, 1200] Z Z6 := zC_t hZ5K kZ6 (by decide)
  replace hZ6I := zmt (c := 19955) hZ6I rfl
  replace hP := zl_e hP hZ6
  refine wz_cV_of (zas (zcons rfl rfl) c9) ?_
  clear c9
  obtain ⟨Z7, hZ7, c9, hZ7I, kZ7, jZ7⟩ := sp_512 (ν := ν) hZ6I (zbh (c := 19955) (k := 0) hM (Nat.le_of_ble_eq_true rfl))
  have hZ7U : zU [] Z Z7 := zU_t hZ6U jZ7 zU_b0
  have hZ7K : zC [1, 2, 95, 96, 1200] Z Z7 := zC_t hZ6K kZ7 (by decide)
  replace hP := zl_e hP hZ7
  refine wz_cV_of (zas (zcons rfl rfl) c9) ?_
  clear c9
  have r8 := zM_k hZ7I 2 0 0 0 (lo := 0) (hi := 671) (by decide) rfl
  have q9 := (kZ7 2 0 0 0 (by decide)).trans ((kZ6 2 0 0 0 (by decide)).trans ((kZ5 2 0 0 0 (by decide)).trans ((kZ4 2 0 0 0 (by decide)).trans ((kZ3 2 0 0 0 (by decide)).trans (zu_at hZ2)))))
  refine wz_br (i3NE (i3R (zm_rd (Z := Z7) (ν := ν) (k := 2) (show ((0 : Nat) : Int) = 0 from rfl) (show ((0 : Nat) : Int) = 0 from rfl) (show ((0 : Nat) : Int) = 0 from rfl)) (show (24 : Int32) = i3 24 from rfl) (by omega) (by omega) (by omega) (by omega)) (show (0 : Int32) = i3 0 from rfl) (by omega) (by omega) (by omega) (by omega)) (fun h10 => ?_) (fun h10 => ?_)
  · replace hP := zE_p hP h10
    exact zlV hP ⟨(zmw (a := 19955) (c := 20008) hZ7I (Nat.le_of_ble_eq_true rfl)), hZ7K, hZ7U, (by rw [hZ7]; exact zJ_512 hJ hZ6I tZ6_J), by omega⟩
  · replace hP := zE_n hP h10
    obtain ⟨Z11, hZ11, c9, hZ11I, kZ11, jZ11⟩ := sp_265 (ν := ν) hZ7I (a1 := (((Z7 2 0 0 0) / 24) - 1)) (by omega) (zbh (c := 19955) (k := 0) hM (Nat.le_of_ble_eq_true rfl))
    have hZ11U : zU [] Z Z11 := zU_t hZ7U jZ11 zU_b0
    have hZ11K : zC [1, 2, 95, 96, 1200] Z Z11 := zC_t hZ7K kZ11 (by decide)
    replace hP := zl_e hP hZ11
    refine wz_cV_of (zas (zcons rfl (zcons (zvi (i3S (i3D (zm_rd (Z := Z7) (ν := ν) (k := 2) (show ((0 : Nat) : Int) = 0 from rfl) (show ((0 : Nat) : Int) = 0 from rfl) (show ((0 : Nat) : Int) = 0 from rfl)) (show (24 : Int32) = i3 24 from rfl) (by omega) (by omega) (by omega) (by omega)) (show (1 : Int32) = i3 1 from rfl))) rfl)) c9) ?_
    clear c9
    have r12 := zM_k hZ11I 2 0 0 0 (lo := 0) (hi := 671) (by decide) rfl
    have q13 := kZ11 2 0 0 0 (by decide)
    obtain ⟨Z14, hZ14, c9, hZ14I, kZ14, jZ14⟩ := sp_402 (ν := ν) hZ11I (a1 := (((Z11 2 0 0 0) / 24) - 1)) (by omega) hJ (by rw [hZ11]; exact zJ_265 hJ hZ7I (by rw [hZ7]; exact zJ_512 hJ hZ6I tZ6_J) (by omega)) (zbh (c := 19955) (k := 53) hM (Nat.le_of_ble_eq_true rfl))
    have hZ14U : zU [] Z Z14 := zU_t hZ11U jZ14 zU_b0
    have hZ14K : zC [1, 2, 95, 96, 1200] Z Z14 := zC_t hZ11K kZ14 (by decide)
    replace hZ14I := zmt (c := 20008) hZ14I rfl
    replace hP := zl_e hP hZ14
    refine wz_cV_of (zas (zcons rfl (zcons (zvi (i3S (i3D (zm_rd (Z := Z11) (ν := ν) (k := 2) (show ((0 : Nat) : Int) = 0 from rfl) (show ((0 : Nat) : Int) = 0 from rfl) (show ((0 : Nat) : Int) = 0 from rfl)) (show (24 : Int32) = i3 24 from rfl) (by omega) (by omega) (by omega) (by omega)) (show (1 : Int32) = i3 1 from rfl))) rfl)) c9) ?_
    clear c9
    have r15 := zM_k hZ14I 2 0 0 0 (lo := 0) (hi := 671) (by decide) rfl
    have q16 := kZ14 2 0 0 0 (by decide)
    exact zlV hP ⟨hZ14I, hZ14K, hZ14U, (by rw [hZ14]; exact zJ_402 hJ hZ11I (zbh (c := 19955) (k := 53) hM (Nat.le_of_ble_eq_true rfl)) (by rw [hZ11]; exact zJ_265 hJ hZ7I (by rw [hZ7]; exact zJ_512 hJ hZ6I tZ6_J) (by omega)) (by omega) (by omega)), by omega⟩
theorem sl_450_1 {s : zSM} {xM9 : Nat} {Zs Z : qz_Z} {ν : qz_N} (hZ : zM (zb s xM9) Z) (hM : s.2 + 1460584 ≤ 1000000000) (hK : zC [1, 2, 95, 96, 1200] Zs Z) {x1 : Int} (gx1 : 1 ≤ x1 ∧ x1 ≤ 72) {x2 : Int} (gx2 : 0 ≤ x2 ∧ x2 ≤ 72) (hU : zU [] Zs Z) {J : qz_Z → Prop} (hJ : zJh J) (hLtJ : J Z) (hx9 : xM9 + 20008 * ((72 - x2).toNat) + 20008 ≤ 1460584) (gr0 : Z 2 0 0 0 + x1 ≤ 671 + x2) {k : wz_K} {R : wz_R} {L : qz_L} (hL : qz_fg [true, true, true] L = [some (.inr (.inr (some (1, 0, 0)))), some (.inl (i3 x1)), some (.inl (i3 x2))]) {T : qz_Z × Int} (hP : zE T (zl_450_1 x1 ((72 - x2).toNat + 1) Z x2)) (hk : ∀ (L9 : qz_L) (Z9 : qz_Z) (yx2 : Int), qz_fg [true, false, false] L9 = [some (.inr (.inr (some (1, 0, 0)))), none, none] → zM (zb s 1460584) Z9 → zC [1, 2, 95, 96, 1200] Zs Z9 → zU [] Zs Z9 → J Z9 → (0 ≤ yx2 ∧ yx2 ≤ 72) → (Z9 2 0 0 0 + x1 ≤ 671 + yx2) → zE T ((Z9, yx2)) → k 0 (L9, [], zm Z9 ν)) : wz_loop qb_450_1 65536 k R (L, [], zm Z ν) := by
  refine wz_lp sb_450_1 (fun m x => ∃ xM9 : Nat, ∃ Z : qz_Z, ∃ x2 : Int, qz_fg [true, true, true] x.1 = [some (.inr (.inr (some (1, 0, 0)))), some (.inl (i3 x1)), some (.inl (i3 x2))] ∧ x.2 = ([], zm Z ν) ∧ xM9 + 20008 * m + 20008 ≤ 1460584 ∧ zM (zb s xM9) Z ∧ zC [1, 2, 95, 96, 1200] Zs Z ∧ zU [] Zs Z ∧ J Z ∧ m = (72 - x2).toNat ∧ (0 ≤ x2 ∧ x2 ≤ 72) ∧ (Z 2 0 0 0 + x1 ≤ 671 + x2) ∧ zE T (zl_450_1 x1 (m + 1) Z x2)) ?_ 65536 ((72 - x2).toNat) _ (by omega) ⟨xM9, Z, x2, hL, rfl, hx9, hZ, hK, hU, hLtJ, rfl, gx2, gr0, hP⟩
  clear hP gr0 gx2 hx9 hZ hK hU hLtJ hL
  clear x2
  clear Z
  clear xM9
  rintro m ⟨L, st, μ⟩ ⟨xM9, Z, x2, hL, hx, hx9, hZ, hK, hU, hLtJ, hm, gx2, gr0, hP⟩
  cases hx
  have hM9 : (zb s xM9).2 + 20008 ≤ 1000000000 := by
    show s.2 + xM9 + 20008 ≤ 1000000000
    omega
  refine fb_450_1 (i3 x1) (i3 x2) _ _ _ _ hL ?_
  have r1 := zM_k hZ 2 0 0 0 (lo := 0) (hi := 671) (by decide) rfl
  refine wz_br (i3Le (rfl : i3 x1 = i3 x1) (rfl : i3 x2 = i3 x2) (by omega) (by omega) (by omega) (by omega)) (fun h2 => ?_) (fun h2 => ?_)
  · replace hP := zE_p hP h2
    exact hk _ _ _ (zconso rfl (zconso rfl (zconso rfl rfl))) (zmx0 hZ (by omega)) hK hU hLtJ (by omega) (by omega) hP
  · replace hP := zE_n hP h2
    obtain ⟨Z3, hZ3, c9, hZ3I, kZ3, jZ3, tZ3_J, wZ30⟩ := sp_553 (ν := ν) hZ (by omega) hJ hLtJ (zbh (c := 0) (k := 20008) hM9 (Nat.le_of_ble_eq_true rfl))
    have hZ3U : zU [] Zs Z3 := zU_t hU jZ3 zU_b0
    have hZ3K : zC [1, 2, 95, 96, 1200] Zs Z3 := zC_t hK kZ3 (by decide)
    replace hP := zl_e hP hZ3
    refine wz_cV_of (zas (zcons rfl rfl) c9) ?_
    clear c9
    have r4 := zM_k hZ3I 2 0 0 0 (lo := 0) (hi := 671) (by decide) rfl
    obtain ⟨m2, rfl⟩ : ∃ m2, m = m2 + 1 := ⟨m - 1, by omega⟩
    exact wz_k1 ⟨m2, by omega, xM9 + 20008, Z3, (x2 + 1), (zconso rfl (zconso (zvo (rfl : i3 x1 = i3 x1)) (zconso (zvo (i3A (rfl : i3 x2 = i3 x2) (show (1 : Int32) = i3 1 from rfl))) rfl))), rfl, by omega, (zmt hZ3I rfl), hZ3K, hZ3U, tZ3_J, by omega, by omega, by omega,  hP⟩
theorem sy_450 {s : zSM} {Z : qz_Z} {ν : qz_N} (hZ : zM s Z) (gq : Z 1 0 0 35 = 0) (hM : s.2 + 1460584 ≤ 1000000000) {a1 : Int} (ga1 : -2147483648 ≤ a1 ∧ a1 ≤ 2147483647) {J : qz_Z → Prop} (hJ : zJh J) (hLtJ : J Z) {dk : qz_Z → qz_Z} {dm : qz_Z → Int → Int → Int → Int → Int → Int → Int → qz_Z} {ν1 : qz_N} (hdm : zDm s ν ν1 Z dk dm) : ∃ (Z1 : qz_Z) (ν2 : qz_N) (v : Int), (Z1, v) = zy_450 Z dm a1 ∧ (ν2 = ν ∨ ν2 = ν1) ∧ qf_450 [.inr (.inr (some (1, 0, 0))), .inl (i3 a1)] (zm Z ν) = some (zm Z1 ν2, .inl (some (.inl (i3 v)))) ∧ (fun Z1 => zM (zb s 1460584) Z1 ∧ zC [1, 2, 95, 96, 101, 102, 200, 1200] Z Z1 ∧ zU [] Z Z1) Z1 := by
  obtain ⟨P, hP⟩ := zx (zy_450 Z dm a1)
  refine zc_Y (Q := fun Z1 => zM (zb s 1460584) Z1 ∧ zC [1, 2, 95, 96, 101, 102, 200, 1200] Z Z1 ∧ zU [] Z Z1) hP (fw_450 (i3 a1) _ _ ?_)
  replace hP : zE P (zy_450 Z dm a1) := hP
  unfold zy_450 at hP
  have r1 := zM_k hZ 1 0 0 35 (lo := 0) (hi := 1) (by decide) rfl
  have r2 := zM_k hZ 1 0 0 34 (lo := 0) (hi := 8) (by decide) rfl
  have r3 := zM_f hZ 1 0 0 37
  refine wz_br (i3L (rfl : i3 a1 = i3 a1) (show (1 : Int32) = i3 1 from rfl) (by omega) (by omega) (by omega) (by omega)) (fun h4 => ?_) (fun h4 => ?_)
  · replace hP := zE_p hP h4
    obtain ⟨Z5, hZ5⟩ := zx (zu Z 1 0 0 2 1)
    replace hP := zl_e hP hZ5
    have hZ5I := zM_u hZ hZ5 (lo := -2147483648) (hi := 2147483647) (by decide) rfl (by omega) ⟨by decide, by decide⟩ (Or.inr (by decide)) rfl
    have hZ5U : zU [] Z Z5 := zU_u zU_r hZ5 (Or.inl rfl)
    have hZ5K : zC [1, 2, 95, 96, 101, 102, 200, 1200] Z Z5 := zC_u zC_r hZ5 (by decide)
    intro μ9 e9
    replace e9 := e9.trans (zm_wI (Z := Z) (ν := ν) hZ5 (show ((0 : Nat) : Int) = 0 from rfl) (show ((0 : Nat) : Int) = 0 from rfl) (show ((2 : Nat) : Int) = 2 from rfl) (show (1 : Int32) = i3 1 from rfl))
    subst e9
    exact zlY hP (show (0 : Int32) = i3 0 from rfl) (.inl rfl) ⟨(zmw (a := 0) (c := 1460584) hZ5I (Nat.le_of_ble_eq_true rfl)), hZ5K, hZ5U⟩
  · replace hP := zE_n hP h4
    refine wz_br (i3L (show (72 : Int32) = i3 72 from rfl) (rfl : i3 a1 = i3 a1) (by omega) (by omega) (by omega) (by omega)) (fun h6 => ?_) (fun h6 => ?_)
    · replace hP := zE_p hP h6
      obtain ⟨Z7, hZ7⟩ := zx (zu Z 1 0 0 2 1)
      replace hP := zl_e hP hZ7
      have hZ7I := zM_u hZ hZ7 (lo := -2147483648) (hi := 2147483647) (by decide) rfl (by omega) ⟨by decide, by decide⟩ (Or.inr (by decide)) rfl
      have hZ7U : zU [] Z Z7 := zU_u zU_r hZ7 (Or.inl rfl)
      have hZ7K : zC [1, 2, 95, 96, 101, 102, 200, 1200] Z Z7 := zC_u zC_r hZ7 (by decide)
      intro μ9 e9
      replace e9 := e9.trans (zm_wI (Z := Z) (ν := ν) hZ7 (show ((0 : Nat) : Int) = 0 from rfl) (show ((0 : Nat) : Int) = 0 from rfl) (show ((2 : Nat) : Int) = 2 from rfl) (show (1 : Int32) = i3 1 from rfl))
      subst e9
      exact zlY hP (show (0 : Int32) = i3 0 from rfl) (.inl rfl) ⟨(zmw (a := 0) (c := 1460584) hZ7I (Nat.le_of_ble_eq_true rfl)), hZ7K, hZ7U⟩
    · replace hP := zE_n hP h6
      obtain ⟨Z8, hZ8⟩ := zx (zu Z 1 0 0 2 0)
      replace hP := zl_e hP hZ8
      have hZ8I := zM_0 hZ hZ8 (by decide) (Or.inr (by decide))
      have hZ8U : zU [] Z Z8 := zU_u zU_r hZ8 (Or.inl rfl)
      have hZ8K : zC [1, 2, 95, 96, 101, 102, 200, 1200] Z Z8 := zC_u zC_r hZ8 (by decide)
      intro μ9 e9
      replace e9 := e9.trans (zm_wI (Z := Z) (ν := ν) hZ8 (show ((0 : Nat) : Int) = 0 from rfl) (show ((0 : Nat) : Int) = 0 from rfl) (show ((2 : Nat) : Int) = 2 from rfl) (show (0 : Int32) = i3 0 from rfl))
      subst e9
      have r9 := zM_k hZ8I 2 0 0 0 (lo := 0) (hi := 671) (by decide) rfl
      refine wz_br (i3L (show (671 : Int32) = i3 671 from rfl) (i3A (zm_rd (Z := Z8) (ν := ν) (k := 2) (show ((0 : Nat) : Int) = 0 from rfl) (show ((0 : Nat) : Int) = 0 from rfl) (show ((0 : Nat) : Int) = 0 from rfl)) (rfl : i3 a1 = i3 a1)) (by omega) (by omega) (by omega) (by omega)) (fun h10 => ?_) (fun h10 => ?_)
      · replace hP := zE_p hP h10
        obtain ⟨Z11, hZ11⟩ := zx (zu Z8 1 0 0 2 2)
        replace hP := zl_e hP hZ11
        have hZ11I := zM_u hZ8I hZ11 (lo := -2147483648) (hi := 2147483647) (by decide) rfl (by omega) ⟨by decide, by decide⟩ (Or.inr (by decide)) rfl
        have hZ11U : zU [] Z Z11 := zU_u hZ8U hZ11 (Or.inl rfl)
        have hZ11K : zC [1, 2, 95, 96, 101, 102, 200, 1200] Z Z11 := zC_u hZ8K hZ11 (by decide)
        intro μ9 e9
        replace e9 := e9.trans (zm_wI (Z := Z8) (ν := ν) hZ11 (show ((0 : Nat) : Int) = 0 from rfl) (show ((0 : Nat) : Int) = 0 from rfl) (show ((2 : Nat) : Int) = 2 from rfl) (show (2 : Int32) = i3 2 from rfl))
        subst e9
        exact zlY hP (show (0 : Int32) = i3 0 from rfl) (.inl rfl) ⟨(zmw (a := 0) (c := 1460584) hZ11I (Nat.le_of_ble_eq_true rfl)), hZ11K, hZ11U⟩
      · replace hP := zE_n hP h10
        obtain ⟨Z12, hZ12⟩ := zx (zu Z8 1 0 0 2 0)
        replace hP := zl_e hP hZ12
        have hZ12I := zM_0 hZ8I hZ12 (by decide) (Or.inr (by decide))
        have hZ12U : zU [] Z Z12 := zU_u hZ8U hZ12 (Or.inl rfl)
        have hZ12K : zC [1, 2, 95, 96, 101, 102, 200, 1200] Z Z12 := zC_u hZ8K hZ12 (by decide)
        intro μ9 e9
        replace e9 := e9.trans (zm_wI (Z := Z8) (ν := ν) hZ12 (show ((0 : Nat) : Int) = 0 from rfl) (show ((0 : Nat) : Int) = 0 from rfl) (show ((2 : Nat) : Int) = 2 from rfl) (show (0 : Int32) = i3 0 from rfl))
        subst e9
        have r13 := zM_k hZ12I 1 0 0 35 (lo := 0) (hi := 1) (by decide) rfl
        have q14 := (zu_ne (k' := 1) (b' := 0) (i' := 0) (j' := 35) hZ12 (fun q => absurd q.2.2.2 (by decide))).trans (zu_ne (k' := 1) (b' := 0) (i' := 0) (j' := 35) hZ8 (fun q => absurd q.2.2.2 (by decide)))
        refine wz_i0 (Eq.trans (i3NE (zm_rd (Z := Z12) (ν := ν) (k := 1) (show ((0 : Nat) : Int) = 0 from rfl) (show ((0 : Nat) : Int) = 0 from rfl) (show ((35 : Nat) : Int) = 35 from rfl)) (show (0 : Int32) = i3 0 from rfl) (by omega) (by omega) (by omega) (by omega)) (decide_eq_false (by omega))) ?_
        have r15 := zM_k hZ12I 1 0 0 34 (lo := 0) (hi := 8) (by decide) rfl
        have q16 := (zu_ne (k' := 1) (b' := 0) (i' := 0) (j' := 34) hZ12 (fun q => absurd q.2.2.2 (by decide))).trans (zu_ne (k' := 1) (b' := 0) (i' := 0) (j' := 34) hZ8 (fun q => absurd q.2.2.2 (by decide)))
        have r17 := zM_f hZ12I 1 0 0 37
        have q18 := (zu_ne (k' := 1) (b' := 0) (i' := 0) (j' := 37) hZ12 (fun q => absurd q.2.2.2 (by decide))).trans (zu_ne (k' := 1) (b' := 0) (i' := 0) (j' := 37) hZ8 (fun q => absurd q.2.2.2 (by decide)))
        obtain ⟨c8, c9, hZ19I, dZ19⟩ := hdm Z12 27 a1 0 0 0 0 0 hZ12I (by omega) (by omega) (by omega) (by omega) (by omega) (by omega) (by omega) (by omega) (by omega) (by omega)
        obtain ⟨Z19, hZ19⟩ := zx (dm Z12 27 a1 0 0 0 0 0)
        rw [← hZ19] at c9 hZ19I dZ19
        replace hP := zl_e hP hZ19
        refine wz_cV_of (zas (zcons rfl (zcons (zvi (show (-1 : Int32) = i3 (-1) from rfl)) rfl)) c8) ?_
        refine wz_cV_of (zas (zcons rfl (zcons (zvi (show (27 : Int32) = i3 27 from rfl)) (zcons (zvi (rfl : i3 a1 = i3 a1)) (zcons (zvi (show (0 : Int32) = i3 0 from rfl)) (zcons (zvi (show (0 : Int32) = i3 0 from rfl)) (zcons (zvi (show (0 : Int32) = i3 0 from rfl)) (zcons (zvi (show (0 : Int32) = i3 0 from rfl)) (zcons (zvi (show (0 : Int32) = i3 0 from rfl)) rfl)))))))) c9) ?_
        clear c8 c9
        have hZ19K : zC [1, 2, 95, 96, 101, 102, 200, 1200] Z Z19 := zC_t hZ12K (zMd_C dZ19) (by decide)
        have hZ19U : zU [] Z Z19 := zU_t hZ12U (zMd_U dZ19) zU_b0
        have r22 := zM_k hZ19I 2 0 0 0 (lo := 0) (hi := 671) (by decide) rfl
        have q23 := (dZ19 2 0 0 0 (by simp)).trans (zu_ne (k' := 2) (b' := 0) (i' := 0) (j' := 0) hZ12 (fun q => absurd q.1 (by decide)))
        refine sl_450_1 (ν := ν1) (zm0 hZ19I) (zbh (c := 0) (k := 1460584) hM (Nat.le_of_ble_eq_true rfl)) (xM9 := 0) zC_r (x1 := a1) (by omega) (x2 := 0) (by omega) zU_r hJ (zJ_row hJ (zJ_row hJ (zJ_row hJ hLtJ (fun j => zu_ne hZ8 (fun q => absurd q.1 (by decide)))) (fun j => zu_ne hZ12 (fun q => absurd q.1 (by decide)))) (fun j => dZ19 2 0 0 j (by simp))) (Nat.le_of_ble_eq_true rfl) (by omega) (zconso rfl (zconso (zvo (rfl : i3 a1 = i3 a1)) (zconso (zvo (show (0 : Int32) = i3 0 from rfl)) rfl))) rfl ?_
        intro L24 Z21 y20 hL24 hZ21I kZ21 jZ21 tZ21_J gy20 gL24_0 q9
        replace hP := zl_e2 hP (Eq.symm q9)
        clear q9
        have hZ21U : zU [] Z Z21 := zU_t hZ19U jZ21 zU_b0
        have hZ21K : zC [1, 2, 95, 96, 101, 102, 200, 1200] Z Z21 := zC_t hZ19K kZ21 (by decide)
        have r25 := zM_k hZ21I 2 0 0 0 (lo := 0) (hi := 671) (by decide) rfl
        refine fc_450_2  _ _ _ _ hL24 ?_
        obtain ⟨Z26, hZ26⟩ := zx (zu Z21 1 0 0 2 0)
        replace hP := zl_e hP hZ26
        have hZ26I := zM_0 hZ21I hZ26 (by decide) (Or.inr (by decide))
        have hZ26U : zU [] Z Z26 := zU_u hZ21U hZ26 (Or.inl rfl)
        have hZ26K : zC [1, 2, 95, 96, 101, 102, 200, 1200] Z Z26 := zC_u hZ21K hZ26 (by decide)
        intro μ9 e9
        replace e9 := e9.trans (zm_wI (Z := Z21) (ν := ν1) hZ26 (show ((0 : Nat) : Int) = 0 from rfl) (show ((0 : Nat) : Int) = 0 from rfl) (show ((2 : Nat) : Int) = 2 from rfl) (show (0 : Int32) = i3 0 from rfl))
        subst e9
        have r27 := zM_k hZ26I 2 0 0 0 (lo := 0) (hi := 671) (by decide) rfl
        have q28 := zu_ne (k' := 2) (b' := 0) (i' := 0) (j' := 0) hZ26 (fun q => absurd q.1 (by decide))
        exact zlY hP (zm_rd (Z := Z26) (ν := ν1) (k := 2) (show ((0 : Nat) : Int) = 0 from rfl) (show ((0 : Nat) : Int) = 0 from rfl) (show ((0 : Nat) : Int) = 0 from rfl)) (.inr rfl) ⟨hZ26I, hZ26K, hZ26U⟩
theorem sq_450 {s : zSM} {Z : qz_Z} {ν : qz_N} (hZ : zM s Z) (gq : Z 1 0 0 35 = 1) (hM : s.2 + 1460584 ≤ 1000000000) {a1 : Int} (ga1 : -2147483648 ≤ a1 ∧ a1 ≤ 2147483647) {J : qz_Z → Prop} (hJ : zJh J) (hLtJ : J Z) {ν1 : qz_N} : ∃ (Z1 : qz_Z) (ν2 : qz_N) (v : Int), (Z1, v) = zy_450 Z zq0 a1 ∧ (ν2 = ν ∨ ν2 = ν1) ∧ qf_450 [.inr (.inr (some (1, 0, 0))), .inl (i3 a1)] (zm Z ν) = some (zm Z1 ν2, .inl (some (.inl (i3 v)))) ∧ (fun Z1 => zM (zb s 1460584) Z1 ∧ zC [1, 2, 95, 96, 1200] Z Z1 ∧ zU [] Z Z1) Z1 := by
  obtain ⟨P, hP⟩ := zx (zy_450 Z zq0 a1)
  refine zc_Y (Q := fun Z1 => zM (zb s 1460584) Z1 ∧ zC [1, 2, 95, 96, 1200] Z Z1 ∧ zU [] Z Z1) hP (fw_450 (i3 a1) _ _ ?_)
  replace hP : zE P (zy_450 Z zq0 a1) := hP
  unfold zy_450 at hP
  have r1 := zM_k hZ 1 0 0 35 (lo := 0) (hi := 1) (by decide) rfl
  have r2 := zM_k hZ 1 0 0 34 (lo := 0) (hi := 8) (by decide) rfl
  have r3 := zM_f hZ 1 0 0 37
  refine wz_br (i3L (rfl : i3 a1 = i3 a1) (show (1 : Int32) = i3 1 from rfl) (by omega) (by omega) (by omega) (by omega)) (fun h4 => ?_) (fun h4 => ?_)
  · replace hP := zE_p hP h4
    obtain ⟨Z5, hZ5⟩ := zx (zu Z 1 0 0 2 1)
    replace hP := zl_e hP hZ5
    have hZ5I := zM_u hZ hZ5 (lo := -2147483648) (hi := 2147483647) (by decide) rfl (by omega) ⟨by decide, by decide⟩ (Or.inr (by decide)) rfl
    have hZ5U : zU [] Z Z5 := zU_u zU_r hZ5 (Or.inl rfl)
    have hZ5K : zC [1, 2, 95, 96, 1200] Z Z5 := zC_u zC_r hZ5 (by decide)
    intro μ9 e9
    replace e9 := e9.trans (zm_wI (Z := Z) (ν := ν) hZ5 (show ((0 : Nat) : Int) = 0 from rfl) (show ((0 : Nat) : Int) = 0 from rfl) (show ((2 : Nat) : Int) = 2 from rfl) (show (1 : Int32) = i3 1 from rfl))
    subst e9
    exact zlY hP (show (0 : Int32) = i3 0 from rfl) (.inl rfl) ⟨(zmw (a := 0) (c := 1460584) hZ5I (Nat.le_of_ble_eq_true rfl)), hZ5K, hZ5U⟩
  · replace hP := zE_n hP h4
    refine wz_br (i3L (show (72 : Int32) = i3 72 from rfl) (rfl : i3 a1 = i3 a1) (by omega) (by omega) (by omega) (by omega)) (fun h6 => ?_) (fun h6 => ?_)
    · replace hP := zE_p hP h6
      obtain ⟨Z7, hZ7⟩ := zx (zu Z 1 0 0 2 1)
      replace hP := zl_e hP hZ7
      have hZ7I := zM_u hZ hZ7 (lo := -2147483648) (hi := 2147483647) (by decide) rfl (by omega) ⟨by decide, by decide⟩ (Or.inr (by decide)) rfl
      have hZ7U : zU [] Z Z7 := zU_u zU_r hZ7 (Or.inl rfl)
      have hZ7K : zC [1, 2, 95, 96, 1200] Z Z7 := zC_u zC_r hZ7 (by decide)
      intro μ9 e9
      replace e9 := e9.trans (zm_wI (Z := Z) (ν := ν) hZ7 (show ((0 : Nat) : Int) = 0 from rfl) (show ((0 : Nat) : Int) = 0 from rfl) (show ((2 : Nat) : Int) = 2 from rfl) (show (1 : Int32) = i3 1 from rfl))
      subst e9
      exact zlY hP (show (0 : Int32) = i3 0 from rfl) (.inl rfl) ⟨(zmw (a := 0) (c := 1460584) hZ7I (Nat.le_of_ble_eq_true rfl)), hZ7K, hZ7U⟩
    · replace hP := zE_n hP h6
      obtain ⟨Z8, hZ8⟩ := zx (zu Z 1 0 0 2 0)
      replace hP := zl_e hP hZ8
      have hZ8I := zM_0 hZ hZ8 (by decide) (Or.inr (by decide))
      have hZ8U : zU [] Z Z8 := zU_u zU_r hZ8 (Or.inl rfl)
      have hZ8K : zC [1, 2, 95, 96, 1200] Z Z8 := zC_u zC_r hZ8 (by decide)
      intro μ9 e9
      replace e9 := e9.trans (zm_wI (Z := Z) (ν := ν) hZ8 (show ((0 : Nat) : Int) = 0 from rfl) (show ((0 : Nat) : Int) = 0 from rfl) (show ((2 : Nat) : Int) = 2 from rfl) (show (0 : Int32) = i3 0 from rfl))
      subst e9
      have r9 := zM_k hZ8I 2 0 0 0 (lo := 0) (hi := 671) (by decide) rfl
      refine wz_br (i3L (show (671 : Int32) = i3 671 from rfl) (i3A (zm_rd (Z := Z8) (ν := ν) (k := 2) (show ((0 : Nat) : Int) = 0 from rfl) (show ((0 : Nat) : Int) = 0 from rfl) (show ((0 : Nat) : Int) = 0 from rfl)) (rfl : i3 a1 = i3 a1)) (by omega) (by omega) (by omega) (by omega)) (fun h10 => ?_) (fun h10 => ?_)
      · replace hP := zE_p hP h10
        obtain ⟨Z11, hZ11⟩ := zx (zu Z8 1 0 0 2 2)
        replace hP := zl_e hP hZ11
        have hZ11I := zM_u hZ8I hZ11 (lo := -2147483648) (hi := 2147483647) (by decide) rfl (by omega) ⟨by decide, by decide⟩ (Or.inr (by decide)) rfl
        have hZ11U : zU [] Z Z11 := zU_u hZ8U hZ11 (Or.inl rfl)
        have hZ11K : zC [1, 2, 95, 96, 1200] Z Z11 := zC_u hZ8K hZ11 (by decide)
        intro μ9 e9
        replace e9 := e9.trans (zm_wI (Z := Z8) (ν := ν) hZ11 (show ((0 : Nat) : Int) = 0 from rfl) (show ((0 : Nat) : Int) = 0 from rfl) (show ((2 : Nat) : Int) = 2 from rfl) (show (2 : Int32) = i3 2 from rfl))
        subst e9
        exact zlY hP (show (0 : Int32) = i3 0 from rfl) (.inl rfl) ⟨(zmw (a := 0) (c := 1460584) hZ11I (Nat.le_of_ble_eq_true rfl)), hZ11K, hZ11U⟩
      · replace hP := zE_n hP h10
        obtain ⟨Z12, hZ12⟩ := zx (zu Z8 1 0 0 2 0)
        replace hP := zl_e hP hZ12
        have hZ12I := zM_0 hZ8I hZ12 (by decide) (Or.inr (by decide))
        have hZ12U : zU [] Z Z12 := zU_u hZ8U hZ12 (Or.inl rfl)
        have hZ12K : zC [1, 2, 95, 96, 1200] Z Z12 := zC_u hZ8K hZ12 (by decide)
        intro μ9 e9
        replace e9 := e9.trans (zm_wI (Z := Z8) (ν := ν) hZ12 (show ((0 : Nat) : Int) = 0 from rfl) (show ((0 : Nat) : Int) = 0 from rfl) (show ((2 : Nat) : Int) = 2 from rfl) (show (0 : Int32) = i3 0 from rfl))
        subst e9
        have r13 := zM_k hZ12I 1 0 0 35 (lo := 0) (hi := 1) (by decide) rfl
        have q14 := (zu_ne (k' := 1) (b' := 0) (i' := 0) (j' := 35) hZ12 (fun q => absurd q.2.2.2 (by decide))).trans (zu_ne (k' := 1) (b' := 0) (i' := 0) (j' := 35) hZ8 (fun q => absurd q.2.2.2 (by decide)))
        refine wz_i1 (Eq.trans (i3NE (zm_rd (Z := Z12) (ν := ν) (k := 1) (show ((0 : Nat) : Int) = 0 from rfl) (show ((0 : Nat) : Int) = 0 from rfl) (show ((35 : Nat) : Int) = 35 from rfl)) (show (0 : Int32) = i3 0 from rfl) (by omega) (by omega) (by omega) (by omega)) (decide_eq_true (by omega))) ?_
        replace hP := zl_q hP (rfl : _ = Z12)
        have r17 := zM_k hZ12I 2 0 0 0 (lo := 0) (hi := 671) (by decide) rfl
        have q18 := zu_ne (k' := 2) (b' := 0) (i' := 0) (j' := 0) hZ12 (fun q => absurd q.1 (by decide))
        refine sl_450_1 (ν := ν) (zm0 hZ12I) (zbh (c := 0) (k := 1460584) hM (Nat.le_of_ble_eq_true rfl)) (xM9 := 0) zC_r (x1 := a1) (by omega) (x2 := 0) (by omega) zU_r hJ (zJ_row hJ (zJ_row hJ hLtJ (fun j => zu_ne hZ8 (fun q => absurd q.1 (by decide)))) (fun j => zu_ne hZ12 (fun q => absurd q.1 (by decide)))) (Nat.le_of_ble_eq_true rfl) (by omega) (zconso rfl (zconso (zvo (rfl : i3 a1 = i3 a1)) (zconso (zvo (show (0 : Int32) = i3 0 from rfl)) rfl))) rfl ?_
        intro L19 Z16 y15 hL19 hZ16I kZ16 jZ16 tZ16_J gy15 gL19_0 q9
        replace hP := zl_e2 hP (Eq.symm q9)
        clear q9
        have hZ16U : zU [] Z Z16 := zU_t hZ12U jZ16 zU_b0
        have hZ16K : zC [1, 2, 95, 96, 1200] Z Z16 := zC_t hZ12K kZ16 (by decide)
        have r20 := zM_k hZ16I 2 0 0 0 (lo := 0) (hi := 671) (by decide) rfl
        refine fc_450_2  _ _ _ _ hL19 ?_
        obtain ⟨Z21, hZ21⟩ := zx (zu Z16 1 0 0 2 0)
        replace hP := zl_e hP hZ21
        have hZ21I := zM_0 hZ16I hZ21 (by decide) (Or.inr (by decide))
        have hZ21U : zU [] Z Z21 := zU_u hZ16U hZ21 (Or.inl rfl)
        have hZ21K : zC [1, 2, 95, 96, 1200] Z Z21 := zC_u hZ16K hZ21 (by decide)
        intro μ9 e9
        replace e9 := e9.trans (zm_wI (Z := Z16) (ν := ν) hZ21 (show ((0 : Nat) : Int) = 0 from rfl) (show ((0 : Nat) : Int) = 0 from rfl) (show ((2 : Nat) : Int) = 2 from rfl) (show (0 : Int32) = i3 0 from rfl))
        subst e9
        have r22 := zM_k hZ21I 2 0 0 0 (lo := 0) (hi := 671) (by decide) rfl
        have q23 := zu_ne (k' := 2) (b' := 0) (i' := 0) (j' := 0) hZ21 (fun q => absurd q.1 (by decide))
        exact zlY hP (zm_rd (Z := Z21) (ν := ν) (k := 2) (show ((0 : Nat) : Int) = 0 from rfl) (show ((0 : Nat) : Int) = 0 from rfl) (show ((0 : Nat) : Int) = 0 from rfl)) (.inl rfl) ⟨hZ21I, hZ21K, hZ21U⟩
