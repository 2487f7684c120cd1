/- yX12_rDoes -/
def zl_464_1 (x1 : Int) : Nat → qz_Z → Int → Int → qz_Z × Int × Int
  | 0, Z, x2, x3 => (Z, x2, x3)
  | m + 1, Z, x2, x3 => (if (Z 1 0 0 5) ≤ x3 then (Z, x2, x3) else (if x2 = 0 then (Z, x2, x3) else (zlet (zf_466 Z x1 x3) (fun v4 => (if (v4 - 1) < 0 then zl_464_1 x1 m Z x2 (x3 + 1) else (zlet (zf_390 Z (v4 - 1)) (fun v6 => (if v6 ≠ 0 then (zlet (zf_472 Z (Z 82 0 0 x3) (v4 - 1)) (fun Z12 => zl_464_1 x1 m Z12 0 (x3 + 1))) else (zlet (zf_488 Z (v4 - 1)) (fun v13 => (if (w3 ((Z 2 0 0 (1198 + 12 * v4)) - v13)) ≤ 0 then (zlet (zf_472 Z (Z 82 0 0 x3) (v4 - 1)) (fun Z21 => zl_464_1 x1 m Z21 0 (x3 + 1))) else (zlet (zf_472 Z (Z 82 0 0 x3) (v4 - 1)) (fun Z26 => zl_464_1 x1 m Z26 1 (x3 + 1))))))))))))))
theorem sl_464_1 {s : zSM} {xM9 : Nat} {Zs Z : qz_Z} {ν : qz_N} (hZ : zM (zb s xM9) Z) (hM : s.2 + 8 ≤ 1000000000) (hK : zC [2] Zs Z) {x1 : Int} (gx1 : 0 ≤ x1 ∧ x1 ≤ 342) {x2 : Int} (gx2 : 0 ≤ x2 ∧ x2 ≤ 1) {x3 : Int} (gx3 : 0 ≤ x3 ∧ x3 ≤ 3) (hU : zU [] Zs Z) (hx9 : xM9 + 2 * ((3 - x3).toNat) + 2 ≤ 8) {k : wz_K} {R : wz_R} {L : qz_L} (hL : qz_fg [true, true, true, true, false] L = [some (.inr (.inr (some (1, 0, 0)))), some (.inl (i3 x1)), some (.inl (i3 x2)), some (.inl (i3 x3)), none]) {T : qz_Z × Int × Int} (hP : zE T (zl_464_1 x1 ((3 - x3).toNat + 1) Z x2 x3)) (hk : ∀ (L9 : qz_L) (Z9 : qz_Z) (yx2 yx3 : Int), qz_fg [false, false, true, false, false] L9 = [none, none, some (.inl (i3 yx2)), none, none] → zM (zb s 8) Z9 → zC [2] Zs Z9 → zU [] Zs Z9 → (0 ≤ yx2 ∧ yx2 ≤ 1) → (0 ≤ yx3 ∧ yx3 ≤ 3) → zE T ((Z9, yx2, yx3)) → k 0 (L9, [], zm Z9 ν)) : wz_loop qb_464_1 65536 k R (L, [], zm Z ν) := by
  refine wz_lp sb_464_1 (fun m x => ∃ xM9 : Nat, ∃ Z : qz_Z, ∃ x2 : Int, ∃ x3 : Int, qz_fg [true, true, true, true, false] x.1 = [some (.inr (.inr (some (1, 0, 0)))), some (.inl (i3 x1)), some (.inl (i3 x2)), some (.inl (i3 x3)), none] ∧ x.2 = ([], zm Z ν) ∧ xM9 + 2 * m + 2 ≤ 8 ∧ zM (zb s xM9) Z ∧ zC [2] Zs Z ∧ zU [] Zs Z ∧ m = (3 - x3).toNat ∧ (0 ≤ x2 ∧ x2 ≤ 1) ∧ (0 ≤ x3 ∧ x3 ≤ 3) ∧ zE T (zl_464_1 x1 (m + 1) Z x2 x3)) ?_ 65536 ((3 - x3).toNat) _ (by omega) ⟨xM9, Z, x2, x3, hL, rfl, hx9, hZ, hK, hU, rfl, gx2, gx3, hP⟩
  clear hP gx2 gx3 hx9 hZ hK hU hL
  clear x2 x3
  clear Z
  clear xM9
  rintro m ⟨L, st, μ⟩ ⟨xM9, Z, x2, x3, hL, hx, hx9, hZ, hK, hU, hm, gx2, gx3, hP⟩
  cases hx
  have hM9 : (zb s xM9).2 + 2 ≤ 1000000000 := by
    show s.2 + xM9 + 2 ≤ 1000000000
    omega
  refine fb_464_1 (i3 x1) (i3 x2) (i3 x3) _ _ _ _ hL ?_
  have r1 := zM_k hZ 1 0 0 5 (lo := 0) (hi := 3) (by decide) rfl
  refine wz_br (i3Le (zm_rd (Z := Z) (ν := ν) (k := 1) (show ((0 : Nat) : Int) = 0 from rfl) (show ((0 : Nat) : Int) = 0 from rfl) (show ((5 : Nat) : Int) = 5 from rfl)) (rfl : i3 x3 = i3 x3) (by omega) (by omega) (by omega) (by omega)) (fun h2 => ?_) (fun h2 => ?_)
  · replace hP := zE_p hP h2
    exact hk _ _ _ _ (zconso rfl (zconso rfl (zconso (zvo (rfl : i3 x2 = i3 x2)) (zconso rfl (zconso rfl rfl))))) (zmx0 hZ (by omega)) hK hU (by omega) (by omega)  hP
  · replace hP := zE_n hP h2
    refine wz_br (i3E (rfl : i3 x2 = i3 x2) (show (0 : Int32) = i3 0 from rfl) (by omega) (by omega) (by omega) (by omega)) (fun h3 => ?_) (fun h3 => ?_)
    · replace hP := zE_p hP h3
      exact hk _ _ _ _ (zconso rfl (zconso rfl (zconso (zvo (rfl : i3 x2 = i3 x2)) (zconso rfl (zconso rfl rfl))))) (zmx0 hZ (by omega)) hK hU (by omega) (by omega)  hP
    · replace hP := zE_n hP h3
      obtain ⟨v4, hv4, c9, lv4, uv4⟩ := sp_466 (ν := ν) hZ (a1 := x1) (by omega) (a2 := x3) (by omega) (zbh (c := 0) (k := 0) hM9 (Nat.le_of_ble_eq_true rfl))
      replace hP := zl_e hP hv4
      refine wz_cI_of (zas (zcons rfl (zcons (zvi (rfl : i3 x1 = i3 x1)) (zcons (zvi (rfl : i3 x3 = i3 x3)) rfl))) c9) ?_
      clear c9
      refine wz_br (i3L (i3S (rfl : i3 v4 = i3 v4) (show (1 : Int32) = i3 1 from rfl)) (show (0 : Int32) = i3 0 from rfl) (by omega) (by omega) (by omega) (by omega)) (fun h5 => ?_) (fun h5 => ?_)
      · replace hP := zE_p hP h5
        obtain ⟨m2, rfl⟩ : ∃ m2, m = m2 + 1 := ⟨m - 1, by omega⟩
        exact wz_k1 ⟨m2, by omega, xM9, Z, x2, (x3 + 1), (zconso rfl (zconso (zvo (rfl : i3 x1 = i3 x1)) (zconso (zvo (rfl : i3 x2 = i3 x2)) (zconso (zvo (i3A (rfl : i3 x3 = i3 x3) (show (1 : Int32) = i3 1 from rfl))) (zconso rfl rfl))))), rfl, by omega, hZ, hK, hU, by omega, by omega, by omega,  hP⟩
      · replace hP := zE_n hP h5
        obtain ⟨v6, hv6, c9, lv6, uv6⟩ := sp_390 (ν := ν) hZ (a1 := (v4 - 1)) (by omega) (zbh (c := 0) (k := 0) hM9 (Nat.le_of_ble_eq_true rfl))
        replace hP := zl_e hP hv6
        refine wz_cI_of (zas (zcons rfl (zcons (zvi (i3S (rfl : i3 v4 = i3 v4) (show (1 : Int32) = i3 1 from rfl))) rfl)) c9) ?_
        clear c9
        refine wz_br (i3NE (rfl : i3 v6 = i3 v6) (show (0 : Int32) = i3 0 from rfl) (by omega) (by omega) (by omega) (by omega)) (fun h7 => ?_) (fun h7 => ?_)
        · replace hP := zE_p hP h7
          refine wz_i0 (i3O (n := 3) (rfl : i3 x3 = i3 x3) (by omega) (by omega) (by omega)) ?_
          have r8 := zM_k hZ 82 0 0 x3 (lo := 0) (hi := 47) (by decide) rfl
          have r9 := zM_k hZ 2 0 0 (210 + 20 * (Z 82 0 0 x3)) (lo := 0) (hi := 4) (by decide) (zs_200_10 (x := (Z 82 0 0 x3)) (by omega) (by omega) (by omega))
          have r10 := zM_pl hZ (Z 82 0 0 x3)
          have r11 := zM_k hZ 2 0 0 102 (lo := 0) (hi := 48) (by decide) rfl
          obtain ⟨Z12, hZ12, c9, hZ12I, kZ12, jZ12⟩ := sp_472 (ν := ν) hZ (a1 := (Z 82 0 0 x3)) (by omega) (a2 := (v4 - 1)) (by omega) (by omega) (zbh (c := 0) (k := 2) hM9 (Nat.le_of_ble_eq_true rfl))
          have hZ12U : zU [] Zs Z12 := zU_t hU jZ12 zU_b0
          have hZ12K : zC [2] Zs Z12 := zC_t hK kZ12 (by decide)
          replace hP := zl_e hP hZ12
          refine wz_cV_of (zas (zcons rfl (zcons (zvi (zm_rd (Z := Z) (ν := ν) (k := 82) (show ((0 : Nat) : Int) = 0 from rfl) (show ((0 : Nat) : Int) = 0 from rfl) (i3I (y := x3) (rfl : i3 x3 = i3 x3) (by omega) (by omega) (by omega)))) (zcons (zvi (i3S (rfl : i3 v4 = i3 v4) (show (1 : Int32) = i3 1 from rfl))) rfl))) c9) ?_
          clear c9
          obtain ⟨m2, rfl⟩ : ∃ m2, m = m2 + 1 := ⟨m - 1, by omega⟩
          exact wz_k1 ⟨m2, by omega, xM9 + 2, Z12, 0, (x3 + 1), (zconso rfl (zconso (zvo (rfl : i3 x1 = i3 x1)) (zconso (zvo (show (0 : Int32) = i3 0 from rfl)) (zconso (zvo (i3A (rfl : i3 x3 = i3 x3) (show (1 : Int32) = i3 1 from rfl))) (zconso rfl rfl))))), rfl, by omega, (zmt hZ12I rfl), hZ12K, hZ12U, by omega, by omega, by omega,  hP⟩
        · replace hP := zE_n hP h7
          refine wz_i1 (Eq.trans (i3NE (i3S (rfl : i3 v4 = i3 v4) (show (1 : Int32) = i3 1 from rfl)) (show (6 : Int32) = i3 6 from rfl) (by omega) (by omega) (by omega) (by omega)) (decide_eq_true (by omega))) ?_
          refine wz_i0 (i3O (n := 4400) (i3A (i3A (show (1210 : Int32) = i3 1210 from rfl) (i3M (show (12 : Int32) = i3 12 from rfl) (i3S (rfl : i3 v4 = i3 v4) (show (1 : Int32) = i3 1 from rfl)))) (show (0 : Int32) = i3 0 from rfl)) (by omega) (by omega) (by omega)) ?_
          obtain ⟨v13, hv13, c9, lv13, uv13⟩ := sp_488 (ν := ν) hZ (a1 := (v4 - 1)) (by omega) (zbh (c := 0) (k := 0) hM9 (Nat.le_of_ble_eq_true rfl))
          replace hP := zl_e hP hv13
          refine wz_cI_of (zas (zcons rfl (zcons (zvi (i3S (rfl : i3 v4 = i3 v4) (show (1 : Int32) = i3 1 from rfl))) rfl)) c9) ?_
          clear c9
          have r14 := zM_f hZ 2 0 0 (1198 + 12 * v4)
          have r15 := w3_r ((Z 2 0 0 (1198 + 12 * v4)) - v13)
          refine wz_br (i3Le (i3W (i3S (zm_rd (Z := Z) (ν := ν) (k := 2) (show ((0 : Nat) : Int) = 0 from rfl) (show ((0 : Nat) : Int) = 0 from rfl) (i3I (y := (1198 + 12 * v4)) (i3A (i3A (show (1210 : Int32) = i3 1210 from rfl) (i3M (show (12 : Int32) = i3 12 from rfl) (i3S (rfl : i3 v4 = i3 v4) (show (1 : Int32) = i3 1 from rfl)))) (show (0 : Int32) = i3 0 from rfl)) (by omega) (by omega) (by omega))) (rfl : i3 v13 = i3 v13))) (show (0 : Int32) = i3 0 from rfl) (by omega) (by omega) (by omega) (by omega)) (fun h16 => ?_) (fun h16 => ?_)
          · replace hP := zE_p hP h16
            refine wz_i0 (i3O (n := 3) (rfl : i3 x3 = i3 x3) (by omega) (by omega) (by omega)) ?_
            have r17 := zM_k hZ 82 0 0 x3 (lo := 0) (hi := 47) (by decide) rfl
            have r18 := zM_k hZ 2 0 0 (210 + 20 * (Z 82 0 0 x3)) (lo := 0) (hi := 4) (by decide) (zs_200_10 (x := (Z 82 0 0 x3)) (by omega) (by omega) (by omega))
            have r19 := zM_pl hZ (Z 82 0 0 x3)
            have r20 := zM_k hZ 2 0 0 102 (lo := 0) (hi := 48) (by decide) rfl
            obtain ⟨Z21, hZ21, c9, hZ21I, kZ21, jZ21⟩ := sp_472 (ν := ν) hZ (a1 := (Z 82 0 0 x3)) (by omega) (a2 := (v4 - 1)) (by omega) (by omega) (zbh (c := 0) (k := 2) hM9 (Nat.le_of_ble_eq_true rfl))
            have hZ21U : zU [] Zs Z21 := zU_t hU jZ21 zU_b0
            have hZ21K : zC [2] Zs Z21 := zC_t hK kZ21 (by decide)
            replace hP := zl_e hP hZ21
            refine wz_cV_of (zas (zcons rfl (zcons (zvi (zm_rd (Z := Z) (ν := ν) (k := 82) (show ((0 : Nat) : Int) = 0 from rfl) (show ((0 : Nat) : Int) = 0 from rfl) (i3I (y := x3) (rfl : i3 x3 = i3 x3) (by omega) (by omega) (by omega)))) (zcons (zvi (i3S (rfl : i3 v4 = i3 v4) (show (1 : Int32) = i3 1 from rfl))) rfl))) c9) ?_
            clear c9
            obtain ⟨m2, rfl⟩ : ∃ m2, m = m2 + 1 := ⟨m - 1, by omega⟩
            exact wz_k1 ⟨m2, by omega, xM9 + 2, Z21, 0, (x3 + 1), (zconso rfl (zconso (zvo (rfl : i3 x1 = i3 x1)) (zconso (zvo (show (0 : Int32) = i3 0 from rfl)) (zconso (zvo (i3A (rfl : i3 x3 = i3 x3) (show (1 : Int32) = i3 1 from rfl))) (zconso rfl rfl))))), rfl, by omega, (zmt hZ21I rfl), hZ21K, hZ21U, by omega, by omega, by omega,  hP⟩
          · replace hP := zE_n hP h16
            refine wz_i0 (i3O (n := 3) (rfl : i3 x3 = i3 x3) (by omega) (by omega) (by omega)) ?_
            have r22 := zM_k hZ 82 0 0 x3 (lo := 0) (hi := 47) (by decide) rfl
            have r23 := zM_k hZ 2 0 0 (210 + 20 * (Z 82 0 0 x3)) (lo := 0) (hi := 4) (by decide) (zs_200_10 (x := (Z 82 0 0 x3)) (by omega) (by omega) (by omega))
            have r24 := zM_pl hZ (Z 82 0 0 x3)
            have r25 := zM_k hZ 2 0 0 102 (lo := 0) (hi := 48) (by decide) rfl
            obtain ⟨Z26, hZ26, c9, hZ26I, kZ26, jZ26⟩ := sp_472 (ν := ν) hZ (a1 := (Z 82 0 0 x3)) (by omega) (a2 := (v4 - 1)) (by omega) (by omega) (zbh (c := 0) (k := 2) hM9 (Nat.le_of_ble_eq_true rfl))
            have hZ26U : zU [] Zs Z26 := zU_t hU jZ26 zU_b0
            have hZ26K : zC [2] Zs Z26 := zC_t hK kZ26 (by decide)
            replace hP := zl_e hP hZ26
            refine wz_cV_of (zas (zcons rfl (zcons (zvi (zm_rd (Z := Z) (ν := ν) (k := 82) (show ((0 : Nat) : Int) = 0 from rfl) (show ((0 : Nat) : Int) = 0 from rfl) (i3I (y := x3) (rfl : i3 x3 = i3 x3) (by omega) (by omega) (by omega)))) (zcons (zvi (i3S (rfl : i3 v4 = i3 v4) (show (1 : Int32) = i3 1 from rfl))) rfl))) c9) ?_
            clear c9
            obtain ⟨m2, rfl⟩ : ∃ m2, m = m2 + 1 := ⟨m - 1, by omega⟩
            exact wz_k1 ⟨m2, by omega, xM9 + 2, Z26, 1, (x3 + 1), (zconso rfl (zconso (zvo (rfl : i3 x1 = i3 x1)) (zconso (zvo (show (1 : Int32) = i3 1 from rfl)) (zconso (zvo (i3A (rfl : i3 x3 = i3 x3) (show (1 : Int32) = i3 1 from rfl))) (zconso rfl rfl))))), rfl, by omega, (zmt hZ26I rfl), hZ26K, hZ26U, by omega, by omega, by omega,  hP⟩
/- yX12_rDoes -/
def zf_464 (Z : qz_Z) (a1 : Int) : qz_Z × Int := (zlet3 (zl_464_1 a1 4 Z 1 0) (fun Z3 y1 y2 => (Z3, y1)))
theorem sp_464 {s : zSM} {Z : qz_Z} {ν : qz_N} (hZ : zM s Z) {a1 : Int} (ga1 : 0 ≤ a1 ∧ a1 ≤ 342) (hM : s.2 + 8 ≤ 1000000000) : ∃ (Z1 : qz_Z) (P : Int), (Z1, P) = zf_464 Z a1 ∧ (qf_464 [.inr (.inr (some (1, 0, 0))), .inl (i3 a1)] (zm Z ν) = some (zm Z1 ν, .inl (some (.inl (i3 P)))) ∧ zM (zb s 8) Z1 ∧ zC [2] Z Z1 ∧ zU [] Z Z1 ∧ 0 ≤ P ∧ P ≤ 1) := by
  obtain ⟨P, hP⟩ := zx (zf_464 Z a1)
  refine zc_W (Q := fun Z1 P => zM (zb s 8) Z1 ∧ zC [2] Z Z1 ∧ zU [] Z Z1 ∧ 0 ≤ P ∧ P ≤ 1) hP (fw_464 (i3 a1) _ _ ?_)
  replace hP : zE P (zf_464 Z a1) := hP
  unfold zf_464 at hP
  refine sl_464_1 (ν := ν) (zm0 hZ) (zbh (c := 0) (k := 8) hM (Nat.le_of_ble_eq_true rfl)) (xM9 := 0) zC_r (x1 := a1) (by omega) (x2 := 1) (by omega) (x3 := 0) (by omega) zU_r (Nat.le_of_ble_eq_true rfl)  (zconso rfl (zconso (zvo (rfl : i3 a1 = i3 a1)) (zconso (zvo (show (1 : Int32) = i3 1 from rfl)) (zconso (zvo (show (0 : Int32) = i3 0 from rfl)) (zconso rfl rfl))))) rfl ?_
  intro L4 Z3 y1 y2 hL4 hZ3I kZ3 jZ3 gy1 gy2 q9
  replace hP := zl_e3 hP (Eq.symm q9)
  clear q9
  have hZ3U : zU [] Z Z3 := zU_t zU_r jZ3 zU_b0
  have hZ3K : zC [2] Z Z3 := zC_t zC_r kZ3 (by decide)
  refine fc_464_2 (i3 y1) _ _ _ _ hL4 ?_
  refine wz_i1 (i3B (rfl : i3 y1 = i3 y1) (by omega)) ?_
  exact zlW hP (rfl : i3 y1 = i3 y1) ⟨hZ3I, hZ3K, hZ3U, by omega, by omega⟩
/- yX12_rFindThree -/
def zl_468_1 : Nat → qz_Z → Int → qz_Z × Int
  | 0, Z, x1 => (Z, x1)
  | m + 1, Z, x1 => (if (Z 2 0 0 102) ≤ x1 then (Z, x1) else (if 3 ≤ (Z 1 0 0 5) then (Z, x1) else (if 1 < (Z 2 0 0 (210 + 20 * x1)) then zl_468_1 m Z (x1 + 1) else (if (Z 2 0 0 (211 + 20 * x1)) ≠ 6 then zl_468_1 m Z (x1 + 1) else (zlet (zu Z 82 0 0 (Z 1 0 0 5) x1) (fun Z10 => (zlet (zu Z10 1 0 0 5 ((Z10 1 0 0 5) + 1)) (fun Z13 => zl_468_1 m Z13 (x1 + 1)))))))))
theorem sl_468_1 {s : zSM} {Zs Z : qz_Z} {ν : qz_N} (hZ : zM s Z) (hM : s.2 + 0 ≤ 1000000000) (hK : zC [1, 82] Zs Z) {x1 : Int} (gx1 : 0 ≤ x1 ∧ x1 ≤ 48) (hU : zU [] Zs Z) {k : wz_K} {R : wz_R} {L : qz_L} (hL : qz_fg [true, true] L = [some (.inr (.inr (some (1, 0, 0)))), some (.inl (i3 x1))]) {T : qz_Z × Int} (hP : zE T (zl_468_1 ((48 - x1).toNat + 1) Z x1)) (hk : ∀ (L9 : qz_L) (Z9 : qz_Z) (yx1 : Int), qz_fg [false, false] L9 = [none, none] → zM s Z9 → zC [1, 82] Zs Z9 → zU [] Zs Z9 → (0 ≤ yx1 ∧ yx1 ≤ 48) → zE T ((Z9, yx1)) → k 0 (L9, [], zm Z9 ν)) : wz_loop qb_468_1 65536 k R (L, [], zm Z ν) := by
  refine wz_lp sb_468_1 (fun m x => ∃ Z : qz_Z, ∃ x1 : Int, qz_fg [true, true] x.1 = [some (.inr (.inr (some (1, 0, 0)))), some (.inl (i3 x1))] ∧ x.2 = ([], zm Z ν) ∧ zM s Z ∧ zC [1, 82] Zs Z ∧ zU [] Zs Z ∧ m = (48 - x1).toNat ∧ (0 ≤ x1 ∧ x1 ≤ 48) ∧ zE T (zl_468_1 (m + 1) Z x1)) ?_ 65536 ((48 - x1).toNat) _ (by omega) ⟨Z, x1, hL, rfl, hZ, hK, hU, rfl, gx1, hP⟩
  clear hP gx1 hZ hK hU hL
  clear x1
  clear Z
  rintro m ⟨L, st, μ⟩ ⟨Z, x1, hL, hx, hZ, hK, hU, hm, gx1, hP⟩
  cases hx
  refine fb_468_1 (i3 x1) _ _ _ _ hL ?_
  have r1 := zM_k hZ 2 0 0 102 (lo := 0) (hi := 48) (by decide) rfl
  refine wz_br (i3Le (zm_rd (Z := Z) (ν := ν) (k := 2) (show ((0 : Nat) : Int) = 0 from rfl) (show ((0 : Nat) : Int) = 0 from rfl) (show ((102 : Nat) : Int) = 102 from rfl)) (rfl : i3 x1 = i3 x1) (by omega) (by omega) (by omega) (by omega)) (fun h2 => ?_) (fun h2 => ?_)
  · replace hP := zE_p hP h2
    exact hk _ _ _ (zconso rfl (zconso rfl rfl)) hZ hK hU (by omega)  hP
  · replace hP := zE_n hP h2
    have r3 := zM_k hZ 1 0 0 5 (lo := 0) (hi := 3) (by decide) rfl
    refine wz_br (i3Le (show (3 : Int32) = i3 3 from rfl) (zm_rd (Z := Z) (ν := ν) (k := 1) (show ((0 : Nat) : Int) = 0 from rfl) (show ((0 : Nat) : Int) = 0 from rfl) (show ((5 : Nat) : Int) = 5 from rfl)) (by omega) (by omega) (by omega) (by omega)) (fun h4 => ?_) (fun h4 => ?_)
    · replace hP := zE_p hP h4
      exact hk _ _ _ (zconso rfl (zconso rfl rfl)) hZ hK hU (by omega)  hP
    · replace hP := zE_n hP h4
      refine wz_i0 (i3O (n := 4400) (i3A (i3A (show (200 : Int32) = i3 200 from rfl) (i3M (show (20 : Int32) = i3 20 from rfl) (rfl : i3 x1 = i3 x1))) (show (10 : Int32) = i3 10 from rfl)) (by omega) (by omega) (by omega)) ?_
      have r5 := zM_k hZ 2 0 0 (210 + 20 * x1) (lo := 0) (hi := 4) (by decide) (zs_200_10 (x := x1) (by omega) (by omega) (by omega))
      have r6 := zM_pl hZ x1
      refine wz_br (i3L (show (1 : Int32) = i3 1 from rfl) (zm_rd (Z := Z) (ν := ν) (k := 2) (show ((0 : Nat) : Int) = 0 from rfl) (show ((0 : Nat) : Int) = 0 from rfl) (i3I (y := (210 + 20 * x1)) (i3A (i3A (show (200 : Int32) = i3 200 from rfl) (i3M (show (20 : Int32) = i3 20 from rfl) (rfl : i3 x1 = i3 x1))) (show (10 : Int32) = i3 10 from rfl)) (by omega) (by omega) (by omega))) (by omega) (by omega) (by omega) (by omega)) (fun h7 => ?_) (fun h7 => ?_)
      · replace hP := zE_p hP h7
        obtain ⟨m2, rfl⟩ : ∃ m2, m = m2 + 1 := ⟨m - 1, by omega⟩
        exact wz_k1 ⟨m2, by omega, Z, (x1 + 1), (zconso rfl (zconso (zvo (i3A (rfl : i3 x1 = i3 x1) (show (1 : Int32) = i3 1 from rfl))) rfl)), rfl, hZ, hK, hU, by omega, by omega,  hP⟩
      · replace hP := zE_n hP h7
        refine wz_i0 (i3O (n := 4400) (i3A (i3A (show (200 : Int32) = i3 200 from rfl) (i3M (show (20 : Int32) = i3 20 from rfl) (rfl : i3 x1 = i3 x1))) (show (11 : Int32) = i3 11 from rfl)) (by omega) (by omega) (by omega)) ?_
        have r8 := zM_k hZ 2 0 0 (211 + 20 * x1) (lo := -1) (hi := 6) (by decide) (zs_200_11 (x := x1) (by omega) (by omega) (by omega))
        refine wz_br (i3NE (zm_rd (Z := Z) (ν := ν) (k := 2) (show ((0 : Nat) : Int) = 0 from rfl) (show ((0 : Nat) : Int) = 0 from rfl) (i3I (y := (211 + 20 * x1)) (i3A (i3A (show (200 : Int32) = i3 200 from rfl) (i3M (show (20 : Int32) = i3 20 from rfl) (rfl : i3 x1 = i3 x1))) (show (11 : Int32) = i3 11 from rfl)) (by omega) (by omega) (by omega))) (show (6 : Int32) = i3 6 from rfl) (by omega) (by omega) (by omega) (by omega)) (fun h9 => ?_) (fun h9 => ?_)
        · replace hP := zE_p hP h9
          obtain ⟨m2, rfl⟩ : ∃ m2, m = m2 + 1 := ⟨m - 1, by omega⟩
          exact wz_k1 ⟨m2, by omega, Z, (x1 + 1), (zconso rfl (zconso (zvo (i3A (rfl : i3 x1 = i3 x1) (show (1 : Int32) = i3 1 from rfl))) rfl)), rfl, hZ, hK, hU, by omega, by omega,  hP⟩
        · replace hP := zE_n hP h9
          refine wz_i0 (i3O (n := 3) (zm_rd (Z := Z) (ν := ν) (k := 1) (show ((0 : Nat) : Int) = 0 from rfl) (show ((0 : Nat) : Int) = 0 from rfl) (show ((5 : Nat) : Int) = 5 from rfl)) (by omega) (by omega) (by omega)) ?_
          obtain ⟨Z10, hZ10⟩ := zx (zu Z 82 0 0 (Z 1 0 0 5) x1)
          replace hP := zl_e hP hZ10
          have hZ10I := zM_u hZ hZ10 (lo := 0) (hi := 47) (by decide) rfl (by omega) ⟨by decide, by decide⟩ (Or.inl (by decide)) rfl
          have hZ10U : zU [] Zs Z10 := zU_u hU hZ10 (Or.inl rfl)
          have hZ10K : zC [1, 82] Zs Z10 := zC_u hK hZ10 rfl
          intro μ9 e9
          replace e9 := e9.trans (zm_wI (Z := Z) (ν := ν) hZ10 (show ((0 : Nat) : Int) = 0 from rfl) (show ((0 : Nat) : Int) = 0 from rfl) (i3I (y := (Z 1 0 0 5)) (zm_rd (Z := Z) (ν := ν) (k := 1) (show ((0 : Nat) : Int) = 0 from rfl) (show ((0 : Nat) : Int) = 0 from rfl) (show ((5 : Nat) : Int) = 5 from rfl)) (by omega) (by omega) (by omega)) (rfl : i3 x1 = i3 x1))
          subst e9
          have r11 := zM_k hZ10I 1 0 0 5 (lo := 0) (hi := 3) (by decide) rfl
          have q12 := zu_ne (k' := 1) (b' := 0) (i' := 0) (j' := 5) hZ10 (fun q => absurd q.1 (by decide))
          obtain ⟨Z13, hZ13⟩ := zx (zu Z10 1 0 0 5 ((Z10 1 0 0 5) + 1))
          replace hP := zl_e hP hZ13
          have hZ13I := zM_u hZ10I hZ13 (lo := 0) (hi := 3) (by decide) rfl (by omega) ⟨by decide, by decide⟩ (Or.inr (by decide)) rfl
          have hZ13U : zU [] Zs Z13 := zU_u hZ10U hZ13 (Or.inl rfl)
          have hZ13K : zC [1, 82] Zs Z13 := zC_u hZ10K hZ13 (by decide)
          intro μ9 e9
          replace e9 := e9.trans (zm_wI (Z := Z10) (ν := ν) hZ13 (show ((0 : Nat) : Int) = 0 from rfl) (show ((0 : Nat) : Int) = 0 from rfl) (show ((5 : Nat) : Int) = 5 from rfl) (i3A (zm_rd (Z := Z10) (ν := ν) (k := 1) (show ((0 : Nat) : Int) = 0 from rfl) (show ((0 : Nat) : Int) = 0 from rfl) (show ((5 : Nat) : Int) = 5 from rfl)) (show (1 : Int32) = i3 1 from rfl)))
          subst e9
          obtain ⟨m2, rfl⟩ : ∃ m2, m = m2 + 1 := ⟨m - 1, by omega⟩
          exact wz_k1 ⟨m2, by omega, Z13, (x1 + 1), (zconso rfl (zconso (zvo (i3A (rfl : i3 x1 = i3 x1) (show (1 : Int32) = i3 1 from rfl))) rfl)), rfl, hZ13I, hZ13K, hZ13U, by omega, by omega,  hP⟩
/- yX12_rFindThree -/
def zf_468 (Z : qz_Z) : qz_Z := (zlet (zu Z 1 0 0 5 0) (fun Z1 => (zlet2 (zl_468_1 49 Z1 0) (fun Z3 y2 => Z3))))
theorem sp_468 {s : zSM} {Z : qz_Z} {ν : qz_N} (hZ : zM s Z) (hM : s.2 + 0 ≤ 1000000000) : ∃ P : qz_Z, P = zf_468 Z ∧ (qf_468 [.inr (.inr (some (1, 0, 0)))] (zm Z ν) = some (zm P ν, .inl none) ∧ zM s P ∧ zC [1, 82] Z P ∧ zU [] Z P) := by
  obtain ⟨P, hP⟩ := zx (zf_468 Z)
  refine zc_V (Q := fun P => zM s P ∧ zC [1, 82] Z P ∧ zU [] Z P) hP (fw_468  _ _ ?_)
  replace hP : zE P (zf_468 Z) := hP
  unfold zf_468 at hP
  obtain ⟨Z1, hZ1⟩ := zx (zu Z 1 0 0 5 0)
  replace hP := zl_e hP hZ1
  have hZ1I := zM_0 hZ hZ1 (by decide) (Or.inr (by decide))
  have hZ1U : zU [] Z Z1 := zU_u zU_r hZ1 (Or.inl rfl)
  have hZ1K : zC [1, 82] Z Z1 := zC_u zC_r hZ1 (by decide)
  intro μ9 e9
  replace e9 := e9.trans (zm_wI (Z := Z) (ν := ν) hZ1 (show ((0 : Nat) : Int) = 0 from rfl) (show ((0 : Nat) : Int) = 0 from rfl) (show ((5 : Nat) : Int) = 5 from rfl) (show (0 : Int32) = i3 0 from rfl))
  subst e9
  refine sl_468_1 (ν := ν) hZ1I (zbh (c := 0) (k := 0) hM (Nat.le_of_ble_eq_true rfl)) zC_r (x1 := 0) (by omega) zU_r  (zconso rfl (zconso (zvo (show (0 : Int32) = i3 0 from rfl)) rfl)) rfl ?_
  intro L4 Z3 y2 hL4 hZ3I kZ3 jZ3 gy2 q9
  replace hP := zl_e2 hP (Eq.symm q9)
  clear q9
  have hZ3U : zU [] Z Z3 := zU_t hZ1U jZ3 zU_b0
  have hZ3K : zC [1, 82] Z Z3 := zC_t hZ1K kZ3 (by decide)
  refine fc_468_2  _ _ _ _ hL4 ?_
  exact zlV hP ⟨hZ3I, hZ3K, hZ3U⟩
/- yX12_rFine -/
def zl_469_1 : Nat → qz_Z → Int → Int → Int × Int
  | 0, Z, x1, x2 => (x1, x2)
  | m + 1, Z, x1, x2 => (if (Z 2 0 0 102) ≤ x2 then (x1, x2) else (if 1 < (Z 2 0 0 (210 + 20 * x2)) then zl_469_1 m Z (x1 + 0) (x2 + 1) else (if ((Z 2 0 0 (113 + 5 * (Z 2 0 0 (201 + 20 * x2)))) - (Z 2 0 0 (114 + 5 * (Z 2 0 0 (201 + 20 * x2))))) ≤ (Z 2 0 0 (207 + 20 * x2)) then (if ((Z 2 0 0 (113 + 5 * (Z 2 0 0 (201 + 20 * x2)))) + (Z 2 0 0 (114 + 5 * (Z 2 0 0 (201 + 20 * x2))))) < (Z 2 0 0 (207 + 20 * x2)) then (if ((Z 2 0 0 (113 + 5 * (Z 2 0 0 (201 + 20 * x2)))) + (3 * (Z 2 0 0 (114 + 5 * (Z 2 0 0 (201 + 20 * x2)))))) < (Z 2 0 0 (207 + 20 * x2)) then zl_469_1 m Z (x1 + 0) (x2 + 1) else zl_469_1 m Z (x1 + 0) (x2 + 1)) else zl_469_1 m Z (x1 + 1) (x2 + 1)) else zl_469_1 m Z (x1 + 0) (x2 + 1))))
theorem sl_469_1 {s : zSM} {Z : qz_Z} {ν : qz_N} (hZ : zM s Z) (hM : s.2 + 0 ≤ 1000000000) {x1 : Int} (gx1 : 0 ≤ x1 ∧ x1 ≤ 48) {x2 : Int} (gx2 : 0 ≤ x2 ∧ x2 ≤ 48) (gr0 : x1 ≤ x2) {k : wz_K} {R : wz_R} {L : qz_L} (hL : qz_fg [true, true, true] L = [some (.inr (.inr (some (1, 0, 0)))), some (.inl (i3 x1)), some (.inl (i3 x2))]) {T : Int × Int} (hP : zE T (zl_469_1 ((48 - x2).toNat + 1) Z x1 x2)) (hk : ∀ (L9 : qz_L) (yx1 yx2 : Int), qz_fg [false, true, false] L9 = [none, some (.inl (i3 yx1)), none] → (0 ≤ yx1 ∧ yx1 ≤ 48) → (0 ≤ yx2 ∧ yx2 ≤ 48) → (yx1 ≤ yx2) → zE T ((yx1, yx2)) → k 0 (L9, [], zm Z ν)) : wz_loop qb_469_1 65536 k R (L, [], zm Z ν) := by
  refine wz_lp sb_469_1 (fun m x => ∃ x1 : Int, ∃ x2 : Int, qz_fg [true, true, true] x.1 = [some (.inr (.inr (some (1, 0, 0)))), some (.inl (i3 x1)), some (.inl (i3 x2))] ∧ x.2 = ([], zm Z ν) ∧ m = (48 - x2).toNat ∧ (0 ≤ x1 ∧ x1 ≤ 48) ∧ (0 ≤ x2 ∧ x2 ≤ 48) ∧ (x1 ≤ x2) ∧ zE T (zl_469_1 (m + 1) Z x1 x2)) ?_ 65536 ((48 - x2).toNat) _ (by omega) ⟨x1, x2, hL, rfl, rfl, gx1, gx2, gr0, hP⟩
  clear hP gr0 gx1 gx2 hL
  clear x1 x2
  rintro m ⟨L, st, μ⟩ ⟨x1, x2, hL, hx, hm, gx1, gx2, gr0, hP⟩
  cases hx
  refine fb_469_1 (i3 x1) (i3 x2) _ _ _ _ hL ?_
  have r1 := zM_k hZ 2 0 0 102 (lo := 0) (hi := 48) (by decide) rfl
  refine wz_br (i3Le (zm_rd (Z := Z) (ν := ν) (k := 2) (show ((0 : Nat) : Int) = 0 from rfl) (show ((0 : Nat) : Int) = 0 from rfl) (show ((102 : Nat) : Int) = 102 from rfl)) (rfl : i3 x2 = i3 x2) (by omega) (by omega) (by omega) (by omega)) (fun h2 => ?_) (fun h2 => ?_)
  · replace hP := zE_p hP h2
    exact hk _ _ _ (zconso rfl (zconso (zvo (rfl : i3 x1 = i3 x1)) (zconso rfl rfl)))  (by omega) (by omega) (by omega) hP
  · replace hP := zE_n hP h2
    refine wz_i0 (i3O (n := 4400) (i3A (i3A (show (200 : Int32) = i3 200 from rfl) (i3M (show (20 : Int32) = i3 20 from rfl) (rfl : i3 x2 = i3 x2))) (show (10 : Int32) = i3 10 from rfl)) (by omega) (by omega) (by omega)) ?_
    have r3 := zM_k hZ 2 0 0 (210 + 20 * x2) (lo := 0) (hi := 4) (by decide) (zs_200_10 (x := x2) (by omega) (by omega) (by omega))
    have r4 := zM_pl hZ x2
    refine wz_br (i3L (show (1 : Int32) = i3 1 from rfl) (zm_rd (Z := Z) (ν := ν) (k := 2) (show ((0 : Nat) : Int) = 0 from rfl) (show ((0 : Nat) : Int) = 0 from rfl) (i3I (y := (210 + 20 * x2)) (i3A (i3A (show (200 : Int32) = i3 200 from rfl) (i3M (show (20 : Int32) = i3 20 from rfl) (rfl : i3 x2 = i3 x2))) (show (10 : Int32) = i3 10 from rfl)) (by omega) (by omega) (by omega))) (by omega) (by omega) (by omega) (by omega)) (fun h5 => ?_) (fun h5 => ?_)
    · replace hP := zE_p hP h5
      obtain ⟨m2, rfl⟩ : ∃ m2, m = m2 + 1 := ⟨m - 1, by omega⟩
      exact wz_k1 ⟨m2, by omega, (x1 + 0), (x2 + 1), (zconso rfl (zconso (zvo (i3A (rfl : i3 x1 = i3 x1) (show (0 : Int32) = i3 0 from rfl))) (zconso (zvo (i3A (rfl : i3 x2 = i3 x2) (show (1 : Int32) = i3 1 from rfl))) rfl))), rfl,  by omega, by omega, by omega, by omega,  hP⟩
    · replace hP := zE_n hP h5
      refine wz_i0 (i3O (n := 4400) (i3A (i3A (show (200 : Int32) = i3 200 from rfl) (i3M (show (20 : Int32) = i3 20 from rfl) (rfl : i3 x2 = i3 x2))) (show (1 : Int32) = i3 1 from rfl)) (by omega) (by omega) (by omega)) ?_
      refine wz_i0 (i3O (n := 4400) (i3A (i3A (show (200 : Int32) = i3 200 from rfl) (i3M (show (20 : Int32) = i3 20 from rfl) (rfl : i3 x2 = i3 x2))) (show (7 : Int32) = i3 7 from rfl)) (by omega) (by omega) (by omega)) ?_
      have r6 := zM_k hZ 2 0 0 (201 + 20 * x2) (lo := 0) (hi := 4) (by decide) (zs_200_1 (x := x2) (by omega) (by omega) (by omega))
      refine wz_i0 (i3O (n := 4400) (i3A (i3A (show (110 : Int32) = i3 110 from rfl) (i3M (show (5 : Int32) = i3 5 from rfl) (zm_rd (Z := Z) (ν := ν) (k := 2) (show ((0 : Nat) : Int) = 0 from rfl) (show ((0 : Nat) : Int) = 0 from rfl) (i3I (y := (201 + 20 * x2)) (i3A (i3A (show (200 : Int32) = i3 200 from rfl) (i3M (show (20 : Int32) = i3 20 from rfl) (rfl : i3 x2 = i3 x2))) (show (1 : Int32) = i3 1 from rfl)) (by omega) (by omega) (by omega))))) (show (3 : Int32) = i3 3 from rfl)) (by omega) (by omega) (by omega)) ?_
      refine wz_i0 (i3O (n := 4400) (i3A (i3A (show (110 : Int32) = i3 110 from rfl) (i3M (show (5 : Int32) = i3 5 from rfl) (zm_rd (Z := Z) (ν := ν) (k := 2) (show ((0 : Nat) : Int) = 0 from rfl) (show ((0 : Nat) : Int) = 0 from rfl) (i3I (y := (201 + 20 * x2)) (i3A (i3A (show (200 : Int32) = i3 200 from rfl) (i3M (show (20 : Int32) = i3 20 from rfl) (rfl : i3 x2 = i3 x2))) (show (1 : Int32) = i3 1 from rfl)) (by omega) (by omega) (by omega))))) (show (4 : Int32) = i3 4 from rfl)) (by omega) (by omega) (by omega)) ?_
      have r7 := zM_k hZ 2 0 0 (113 + 5 * (Z 2 0 0 (201 + 20 * x2))) (lo := 0) (hi := 600) (by decide) (zs_110_3 (x := (Z 2 0 0 (201 + 20 * x2))) (by omega) (by omega) (by omega))
      have r8 := zM_k hZ 2 0 0 (114 + 5 * (Z 2 0 0 (201 + 20 * x2))) (lo := 0) (hi := 99) (by decide) (zs_110_4 (x := (Z 2 0 0 (201 + 20 * x2))) (by omega) (by omega) (by omega))
      have r9 := zM_k hZ 2 0 0 (207 + 20 * x2) (lo := 0) (hi := 2000) (by decide) (zs_200_7 (x := x2) (by omega) (by omega) (by omega))
      refine wz_br (i3Le (i3S (zm_rd (Z := Z) (ν := ν) (k := 2) (show ((0 : Nat) : Int) = 0 from rfl) (show ((0 : Nat) : Int) = 0 from rfl) (i3I (y := (113 + 5 * (Z 2 0 0 (201 + 20 * x2)))) (i3A (i3A (show (110 : Int32) = i3 110 from rfl) (i3M (show (5 : Int32) = i3 5 from rfl) (zm_rd (Z := Z) (ν := ν) (k := 2) (show ((0 : Nat) : Int) = 0 from rfl) (show ((0 : Nat) : Int) = 0 from rfl) (i3I (y := (201 + 20 * x2)) (i3A (i3A (show (200 : Int32) = i3 200 from rfl) (i3M (show (20 : Int32) = i3 20 from rfl) (rfl : i3 x2 = i3 x2))) (show (1 : Int32) = i3 1 from rfl)) (by omega) (by omega) (by omega))))) (show (3 : Int32) = i3 3 from rfl)) (by omega) (by omega) (by omega))) (zm_rd (Z := Z) (ν := ν) (k := 2) (show ((0 : Nat) : Int) = 0 from rfl) (show ((0 : Nat) : Int) = 0 from rfl) (i3I (y := (114 + 5 * (Z 2 0 0 (201 + 20 * x2)))) (i3A (i3A (show (110 : Int32) = i3 110 from rfl) (i3M (show (5 : Int32) = i3 5 from rfl) (zm_rd (Z := Z) (ν := ν) (k := 2) (show ((0 : Nat) : Int) = 0 from rfl) (show ((0 : Nat) : Int) = 0 from rfl) (i3I (y := (201 + 20 * x2)) (i3A (i3A (show (200 : Int32) = i3 200 from rfl) (i3M (show (20 : Int32) = i3 20 from rfl) (rfl : i3 x2 = i3 x2))) (show (1 : Int32) = i3 1 from rfl)) (by omega) (by omega) (by omega))))) (show (4 : Int32) = i3 4 from rfl)) (by omega) (by omega) (by omega)))) (zm_rd (Z := Z) (ν := ν) (k := 2) (show ((0 : Nat) : Int) = 0 from rfl) (show ((0 : Nat) : Int) = 0 from rfl) (i3I (y := (207 + 20 * x2)) (i3A (i3A (show (200 : Int32) = i3 200 from rfl) (i3M (show (20 : Int32) = i3 20 from rfl) (rfl : i3 x2 = i3 x2))) (show (7 : Int32) = i3 7 from rfl)) (by omega) (by omega) (by omega))) (by omega) (by omega) (by omega) (by omega)) (fun h10 => ?_) (fun h10 => ?_)
      · replace hP := zE_p hP h10
        refine wz_br (i3L (i3A (zm_rd (Z := Z) (ν := ν) (k := 2) (show ((0 : Nat) : Int) = 0 from rfl) (show ((0 : Nat) : Int) = 0 from rfl) (i3I (y := (113 + 5 * (Z 2 0 0 (201 + 20 * x2)))) (i3A (i3A (show (110 : Int32) = i3 110 from rfl) (i3M (show (5 : Int32) = i3 5 from rfl) (zm_rd (Z := Z) (ν := ν) (k := 2) (show ((0 : Nat) : Int) = 0 from rfl) (show ((0 : Nat) : Int) = 0 from rfl) (i3I (y := (201 + 20 * x2)) (i3A (i3A (show (200 : Int32) = i3 200 from rfl) (i3M (show (20 : Int32) = i3 20 from rfl) (rfl : i3 x2 = i3 x2))) (show (1 : Int32) = i3 1 from rfl)) (by omega) (by omega) (by omega))))) (show (3 : Int32) = i3 3 from rfl)) (by omega) (by omega) (by omega))) (zm_rd (Z := Z) (ν := ν) (k := 2) (show ((0 : Nat) : Int) = 0 from rfl) (show ((0 : Nat) : Int) = 0 from rfl) (i3I (y := (114 + 5 * (Z 2 0 0 (201 + 20 * x2)))) (i3A (i3A (show (110 : Int32) = i3 110 from rfl) (i3M (show (5 : Int32) = i3 5 from rfl) (zm_rd (Z := Z) (ν := ν) (k := 2) (show ((0 : Nat) : Int) = 0 from rfl) (show ((0 : Nat) : Int) = 0 from rfl) (i3I (y := (201 + 20 * x2)) (i3A (i3A (show (200 : Int32) = i3 200 from rfl) (i3M (show (20 : Int32) = i3 20 from rfl) (rfl : i3 x2 = i3 x2))) (show (1 : Int32) = i3 1 from rfl)) (by omega) (by omega) (by omega))))) (show (4 : Int32) = i3 4 from rfl)) (by omega) (by omega) (by omega)))) (zm_rd (Z := Z) (ν := ν) (k := 2) (show ((0 : Nat) : Int) = 0 from rfl) (show ((0 : Nat) : Int) = 0 from rfl) (i3I (y := (207 + 20 * x2)) (i3A (i3A (show (200 : Int32) = i3 200 from rfl) (i3M (show (20 : Int32) = i3 20 from rfl) (rfl : i3 x2 = i3 x2))) (show (7 : Int32) = i3 7 from rfl)) (by omega) (by omega) (by omega))) (by omega) (by omega) (by omega) (by omega)) (fun h11 => ?_) (fun h11 => ?_)
        · replace hP := zE_p hP h11
          refine wz_br (i3L (i3A (zm_rd (Z := Z) (ν := ν) (k := 2) (show ((0 : Nat) : Int) = 0 from rfl) (show ((0 : Nat) : Int) = 0 from rfl) (i3I (y := (113 + 5 * (Z 2 0 0 (201 + 20 * x2)))) (i3A (i3A (show (110 : Int32) = i3 110 from rfl) (i3M (show (5 : Int32) = i3 5 from rfl) (zm_rd (Z := Z) (ν := ν) (k := 2) (show ((0 : Nat) : Int) = 0 from rfl) (show ((0 : Nat) : Int) = 0 from rfl) (i3I (y := (201 + 20 * x2)) (i3A (i3A (show (200 : Int32) = i3 200 from rfl) (i3M (show (20 : Int32) = i3 20 from rfl) (rfl : i3 x2 = i3 x2))) (show (1 : Int32) = i3 1 from rfl)) (by omega) (by omega) (by omega))))) (show (3 : Int32) = i3 3 from rfl)) (by omega) (by omega) (by omega))) (i3M (show (3 : Int32) = i3 3 from rfl) (zm_rd (Z := Z) (ν := ν) (k := 2) (show ((0 : Nat) : Int) = 0 from rfl) (show ((0 : Nat) : Int) = 0 from rfl) (i3I (y := (114 + 5 * (Z 2 0 0 (201 + 20 * x2)))) (i3A (i3A (show (110 : Int32) = i3 110 from rfl) (i3M (show (5 : Int32) = i3 5 from rfl) (zm_rd (Z := Z) (ν := ν) (k := 2) (show ((0 : Nat) : Int) = 0 from rfl) (show ((0 : Nat) : Int) = 0 from rfl) (i3I (y := (201 + 20 * x2)) (i3A (i3A (show (200 : Int32) = i3 200 from rfl) (i3M (show (20 : Int32) = i3 20 from rfl) (rfl : i3 x2 = i3 x2))) (show (1 : Int32) = i3 1 from rfl)) (by omega) (by omega) (by omega))))) (show (4 : Int32) = i3 4 from rfl)) (by omega) (by omega) (by omega))))) (zm_rd (Z := Z) (ν := ν) (k := 2) (show ((0 : Nat) : Int) = 0 from rfl) (show ((0 : Nat) : Int) = 0 from rfl) (i3I (y := (207 + 20 * x2)) (i3A (i3A (show (200 : Int32) = i3 200 from rfl) (i3M (show (20 : Int32) = i3 20 from rfl) (rfl : i3 x2 = i3 x2))) (show (7 : Int32) = i3 7 from rfl)) (by omega) (by omega) (by omega))) (by omega) (by omega) (by omega) (by omega)) (fun h12 => ?_) (fun h12 => ?_)
          · replace hP := zE_p hP h12
            obtain ⟨m2, rfl⟩ : ∃ m2, m = m2 + 1 := ⟨m - 1, by omega⟩
            exact wz_k1 ⟨m2, by omega, (x1 + 0), (x2 + 1), (zconso rfl (zconso (zvo (i3A (rfl : i3 x1 = i3 x1) (show (0 : Int32) = i3 0 from rfl))) (zconso (zvo (i3A (rfl : i3 x2 = i3 x2) (show (1 : Int32) = i3 1 from rfl))) rfl))), rfl,  by omega, by omega, by omega, by omega,  hP⟩
          · replace hP := zE_n hP h12
            obtain ⟨m2, rfl⟩ : ∃ m2, m = m2 + 1 := ⟨m - 1, by omega⟩
            exact wz_k1 ⟨m2, by omega, (x1 + 0), (x2 + 1), (zconso rfl (zconso (zvo (i3A (rfl : i3 x1 = i3 x1) (show (0 : Int32) = i3 0 from rfl))) (zconso (zvo (i3A (rfl : i3 x2 = i3 x2) (show (1 : Int32) = i3 1 from rfl))) rfl))), rfl,  by omega, by omega, by omega, by omega,  hP⟩
        · replace hP := zE_n hP h11
          obtain ⟨m2, rfl⟩ : ∃ m2, m = m2 + 1 := ⟨m - 1, by omega⟩
          exact wz_k1 ⟨m2, by omega, (x1 + 1), (x2 + 1), (zconso rfl (zconso (zvo (i3A (rfl : i3 x1 = i3 x1) (show (1 : Int32) = i3 1 from rfl))) (zconso (zvo (i3A (rfl : i3 x2 = i3 x2) (show (1 : Int32) = i3 1 from rfl))) rfl))), rfl,  by omega, by omega, by omega, by omega,  hP⟩
      · replace hP := zE_n hP h10
        obtain ⟨m2, rfl⟩ : ∃ m2, m = m2 + 1 := ⟨m - 1, by omega⟩
        exact wz_k1 ⟨m2, by omega, (x1 + 0), (x2 + 1), (zconso rfl (zconso (zvo (i3A (rfl : i3 x1 = i3 x1) (show (0 : Int32) = i3 0 from rfl))) (zconso (zvo (i3A (rfl : i3 x2 = i3 x2) (show (1 : Int32) = i3 1 from rfl))) rfl))), rfl,  by omega, by omega, by omega, by omega,  hP⟩
/- yX12_rFine -/
def zf_469 (Z : qz_Z) : Int := (zlet2 (zl_469_1 49 Z 0 0) (fun y1 y2 => y1))
theorem sp_469 {s : zSM} {Z : qz_Z} {ν : qz_N} (hZ : zM s Z) (hM : s.2 + 0 ≤ 1000000000) : ∃ P : Int, P = zf_469 Z ∧ (qf_469 [.inr (.inr (some (1, 0, 0)))] (zm Z ν) = some (zm Z ν, .inl (some (.inl (i3 P)))) ∧ 0 ≤ P ∧ P ≤ 48) := by
  obtain ⟨P, hP⟩ := zx (zf_469 Z)
  refine zc_R (Q := fun P => 0 ≤ P ∧ P ≤ 48) hP (fw_469  _ _ ?_)
  replace hP : zE P (zf_469 Z) := hP
  unfold zf_469 at hP
  refine sl_469_1 (ν := ν) hZ (zbh (c := 0) (k := 0) hM (Nat.le_of_ble_eq_true rfl)) (x1 := 0) (by omega) (x2 := 0) (by omega) (by omega) (zconso rfl (zconso (zvo (show (0 : Int32) = i3 0 from rfl)) (zconso (zvo (show (0 : Int32) = i3 0 from rfl)) rfl))) rfl ?_
  intro L3 y1 y2 hL3 gy1 gy2 gL3_0 q9
  replace hP := zl_e2 hP (Eq.symm q9)
  clear q9
  refine fc_469_2 (i3 y1) _ _ _ _ hL3 ?_
  exact zlR hP (rfl : i3 y1 = i3 y1) ⟨by omega, by omega⟩
/- yX12_rWays -/
def zl_491_1 : Nat → qz_Z → Int → Int → Int × Int
  | 0, Z, x1, x2 => (x1, x2)
  | m + 1, Z, x1, x2 => (if (Z 1 0 0 5) ≤ x2 then (x1, x2) else zl_491_1 m Z (x1 * ((Z 2 0 0 1200) + 1)) (x2 + 1))
theorem sl_491_1 {s : zSM} {Z : qz_Z} {ν : qz_N} (hZ : zM s Z) (hM : s.2 + 0 ≤ 1000000000) {x1 : Int} (gx1 : 0 ≤ x1 ∧ x1 ≤ 343) {x2 : Int} (gx2 : 0 ≤ x2 ∧ x2 ≤ 3) (gr0 : x1 ≤ 1 ∨ 1 ≤ x2) (gr1 : x1 ≤ 7 ∨ 2 ≤ x2) (gr2 : x1 ≤ 49 ∨ 3 ≤ x2) {k : wz_K} {R : wz_R} {L : qz_L} (hL : qz_fg [true, true, true] L = [some (.inr (.inr (some (1, 0, 0)))), some (.inl (i3 x1)), some (.inl (i3 x2))]) {T : Int × Int} (hP : zE T (zl_491_1 ((3 - x2).toNat + 1) Z x1 x2)) (hk : ∀ (L9 : qz_L) (yx1 yx2 : Int), qz_fg [false, true, false] L9 = [none, some (.inl (i3 yx1)), none] → (0 ≤ yx1 ∧ yx1 ≤ 343) → (0 ≤ yx2 ∧ yx2 ≤ 3) → (yx1 ≤ 1 ∨ 1 ≤ yx2) → (yx1 ≤ 7 ∨ 2 ≤ yx2) → (yx1 ≤ 49 ∨ 3 ≤ yx2) → zE T ((yx1, yx2)) → k 0 (L9, [], zm Z ν)) : wz_loop qb_491_1 65536 k R (L, [], zm Z ν) := by
  refine wz_lp sb_491_1 (fun m x => ∃ x1 : Int, ∃ x2 : Int, qz_fg [true, true, true] x.1 = [some (.inr (.inr (some (1, 0, 0)))), some (.inl (i3 x1)), some (.inl (i3 x2))] ∧ x.2 = ([], zm Z ν) ∧ m = (3 - x2).toNat ∧ (0 ≤ x1 ∧ x1 ≤ 343) ∧ (0 ≤ x2 ∧ x2 ≤ 3) ∧ (x1 ≤ 1 ∨ 1 ≤ x2) ∧ (x1 ≤ 7 ∨ 2 ≤ x2) ∧ (x1 ≤ 49 ∨ 3 ≤ x2) ∧ zE T (zl_491_1 (m + 1) Z x1 x2)) ?_ 65536 ((3 - x2).toNat) _ (by omega) ⟨x1, x2, hL, rfl, rfl, gx1, gx2, gr0, gr1, gr2, hP⟩
  clear hP gr0 gr1 gr2 gx1 gx2 hL
  clear x1 x2
  rintro m ⟨L, st, μ⟩ ⟨x1, x2, hL, hx, hm, gx1, gx2, gr0, gr1, gr2, hP⟩
  cases hx
  refine fb_491_1 (i3 x1) (i3 x2) _ _ _ _ hL ?_
  have r1 := zM_k hZ 2 0 0 1200 (lo := 0) (hi := 6) (by decide) rfl
  have r2 := z_mulr (x := x1) (y := ((Z 2 0 0 1200) + 1)) (b := 7) (by omega) (by omega)
  have r3 := zM_k hZ 1 0 0 5 (lo := 0) (hi := 3) (by decide) rfl
  refine wz_br (i3Le (zm_rd (Z := Z) (ν := ν) (k := 1) (show ((0 : Nat) : Int) = 0 from rfl) (show ((0 : Nat) : Int) = 0 from rfl) (show ((5 : Nat) : Int) = 5 from rfl)) (rfl : i3 x2 = i3 x2) (by omega) (by omega) (by omega) (by omega)) (fun h4 => ?_) (fun h4 => ?_)
  · replace hP := zE_p hP h4
    exact hk _ _ _ (zconso rfl (zconso (zvo (rfl : i3 x1 = i3 x1)) (zconso rfl rfl)))  (by omega) (by omega) (by omega) (by omega) (by omega) hP
  · replace hP := zE_n hP h4
    have r5 := z_mul (x := x1) (y := ((Z 2 0 0 1200) + 1)) (a := 343) (b := 7) (by omega) (by omega) (by omega) (by omega)
    obtain ⟨m2, rfl⟩ : ∃ m2, m = m2 + 1 := ⟨m - 1, by omega⟩
    exact wz_k1 ⟨m2, by omega, (x1 * ((Z 2 0 0 1200) + 1)), (x2 + 1), (zconso rfl (zconso (zvo (i3M (rfl : i3 x1 = i3 x1) (i3A (zm_rd (Z := Z) (ν := ν) (k := 2) (show ((0 : Nat) : Int) = 0 from rfl) (show ((0 : Nat) : Int) = 0 from rfl) (show ((1200 : Nat) : Int) = 1200 from rfl)) (show (1 : Int32) = i3 1 from rfl)))) (zconso (zvo (i3A (rfl : i3 x2 = i3 x2) (show (1 : Int32) = i3 1 from rfl))) rfl))), rfl,  by omega, by omega, by omega, by omega, by omega, by omega,  hP⟩
/- yX12_rWays -/
def zf_491 (Z : qz_Z) : Int := (zlet2 (zl_491_1 4 Z 1 0) (fun y1 y2 => y1))
theorem sp_491 {s : zSM} {Z : qz_Z} {ν : qz_N} (hZ : zM s Z) (hM : s.2 + 0 ≤ 1000000000) : ∃ P : Int, P = zf_491 Z ∧ (qf_491 [.inr (.inr (some (1, 0, 0)))] (zm Z ν) = some (zm Z ν, .inl (some (.inl (i3 P)))) ∧ 0 ≤ P ∧ P ≤ 343) := by
  obtain ⟨P, hP⟩ := zx (zf_491 Z)
  refine zc_R (Q := fun P => 0 ≤ P ∧ P ≤ 343) hP (fw_491  _ _ ?_)
  replace hP : zE P (zf_491 Z) := hP
  unfold zf_491 at hP
  refine sl_491_1 (ν := ν) hZ (zbh (c := 0) (k := 0) hM (Nat.le_of_ble_eq_true rfl)) (x1 := 1) (by omega) (x2 := 0) (by omega) (by omega) (by omega) (by omega) (zconso rfl (zconso (zvo (show (1 : Int32) = i3 1 from rfl)) (zconso (zvo (show (0 : Int32) = i3 0 from rfl)) rfl))) rfl ?_
  intro L3 y1 y2 hL3 gy1 gy2 gL3_0 gL3_1 gL3_2 q9
  replace hP := zl_e2 hP (Eq.symm q9)
  clear q9
  refine fc_491_2 (i3 y1) _ _ _ _ hL3 ?_
  exact zlR hP (rfl : i3 y1 = i3 y1) ⟨by omega, by omega⟩
/- yX12_rFindBest -/
def zl_467_1 (x1 : Int) (x2 : Int) : Nat → qz_Z → Int → qz_Z × Int
  | 0, Z, x3 => (Z, x3)
  | m + 1, Z, x3 => (if x2 ≤ x3 then (Z, x3) else (zlet (zf_351 Z 0) (fun Z2 => (zlet2 (zf_464 Z2 x3) (fun Z3 v4 => (if v4 = 0 then (zlet (zf_493 Z3 0) (fun Z6 => zl_467_1 x1 x2 m Z6 (x3 + 1))) else (zlet (zf_460 Z3 x1) (fun Z7 => (zlet (zf_469 Z7) (fun v10 => (if v10 ≤ (Z7 1 0 0 6) then (zlet (zf_493 Z7 0) (fun Z13 => zl_467_1 x1 x2 m Z13 (x3 + 1))) else (zlet (zu Z7 1 0 0 6 v10) (fun Z14 => (zlet (zu Z14 1 0 0 7 x3) (fun Z15 => (zlet (zf_493 Z15 0) (fun Z16 => zl_467_1 x1 x2 m Z16 (x3 + 1))))))))))))))))))
theorem sl_467_1 {s : zSM} {xM9 : Nat} {Zs Z : qz_Z} {ν : qz_N} (hZ : zM (zb s xM9) Z) (hM : s.2 + 2752 ≤ 1000000000) (hK : zC [1, 2, 81, 1200] Zs Z) {x1 : Int} (gx1 : 0 ≤ x1 ∧ x1 ≤ 671) {x2 : Int} (gx2 : 0 ≤ x2 ∧ x2 ≤ 343) {x3 : Int} (gx3 : 0 ≤ x3 ∧ x3 ≤ 343) (hU : zU [] Zs Z) (hx9 : xM9 + 8 * ((343 - x3).toNat) + 8 ≤ 2752) {k : wz_K} {R : wz_R} {L : qz_L} (hL : qz_fg [true, true, true, true, false] L = [some (.inr (.inr (some (1, 0, 0)))), some (.inl (i3 x1)), some (.inl (i3 x2)), some (.inl (i3 x3)), none]) {T : qz_Z × Int} (hP : zE T (zl_467_1 x1 x2 ((343 - x3).toNat + 1) Z x3)) (hk : ∀ (L9 : qz_L) (Z9 : qz_Z) (yx3 : Int), qz_fg [false, false, false, false, false] L9 = [none, none, none, none, none] → zM (zb s 2752) Z9 → zC [1, 2, 81, 1200] Zs Z9 → zU [] Zs Z9 → (0 ≤ yx3 ∧ yx3 ≤ 343) → zE T ((Z9, yx3)) → k 0 (L9, [], zm Z9 ν)) : wz_loop qb_467_1 65536 k R (L, [], zm Z ν) := by
  refine wz_lp sb_467_1 (fun m x => ∃ xM9 : Nat, ∃ Z : qz_Z, ∃ x3 : Int, qz_fg [true, true, true, true, false] x.1 = [some (.inr (.inr (some (1, 0, 0)))), some (.inl (i3 x1)), some (.inl (i3 x2)), some (.inl (i3 x3)), none] ∧ x.2 = ([], zm Z ν) ∧ xM9 + 8 * m + 8 ≤ 2752 ∧ zM (zb s xM9) Z ∧ zC [1, 2, 81, 1200] Zs Z ∧ zU [] Zs Z ∧ m = (343 - x3).toNat ∧ (0 ≤ x3 ∧ x3 ≤ 343) ∧ zE T (zl_467_1 x1 x2 (m + 1) Z x3)) ?_ 65536 ((343 - x3).toNat) _ (by omega) ⟨xM9, Z, x3, hL, rfl, hx9, hZ, hK, hU, rfl, gx3, hP⟩
  clear hP gx3 hx9 hZ hK hU hL
  clear x3
  clear Z
  clear xM9
  rintro m ⟨L, st, μ⟩ ⟨xM9, Z, x3, hL, hx, hx9, hZ, hK, hU, hm, gx3, hP⟩
  cases hx
  have hM9 : (zb s xM9).2 + 8 ≤ 1000000000 := by
    show s.2 + xM9 + 8 ≤ 1000000000
    omega
  refine fb_467_1 (i3 x1) (i3 x2) (i3 x3) _ _ _ _ hL ?_
  refine wz_br (i3Le (rfl : i3 x2 = i3 x2) (rfl : i3 x3 = i3 x3) (by omega) (by omega) (by omega) (by omega)) (fun h1 => ?_) (fun h1 => ?_)
  · replace hP := zE_p hP h1
    exact hk _ _ _ (zconso rfl (zconso rfl (zconso rfl (zconso rfl (zconso rfl rfl))))) (zmx0 hZ (by omega)) hK hU (by omega)  hP
  · replace hP := zE_n hP h1
    obtain ⟨Z2, hZ2, c9, hZ2I, kZ2, jZ2⟩ := sp_351 (ν := ν) hZ (a1 := 0) (by omega) (zbh (c := 0) (k := 0) hM9 (Nat.le_of_ble_eq_true rfl))
    have hZ2U : zU [] Zs Z2 := zU_t hU jZ2 zU_b0
    have hZ2K : zC [1, 2, 81, 1200] Zs Z2 := zC_t hK kZ2 (by decide)
    replace hP := zl_e hP hZ2
    refine wz_cV_of (zas (zcons rfl (zcons (zvi (show (0 : Int32) = i3 0 from rfl)) rfl)) c9) ?_
    clear c9
    obtain ⟨Z3, v4, hv4, c9, hZ3I, kZ3, jZ3, lv4, uv4⟩ := sp_464 (ν := ν) hZ2I (a1 := x3) (by omega) (zbh (c := 0) (k := 8) hM9 (Nat.le_of_ble_eq_true rfl))
    have hZ3U : zU [] Zs Z3 := zU_t hZ2U jZ3 zU_b0
    have hZ3K : zC [1, 2, 81, 1200] Zs Z3 := zC_t hZ2K kZ3 (by decide)
    replace hP := zl_e2 hP hv4
    refine wz_cI_of (zas (zcons rfl (zcons (zvi (rfl : i3 x3 = i3 x3)) rfl)) c9) ?_
    clear c9 hv4
    refine wz_br (i3E (rfl : i3 v4 = i3 v4) (show (0 : Int32) = i3 0 from rfl) (by omega) (by omega) (by omega) (by omega)) (fun h5 => ?_) (fun h5 => ?_)
    · replace hP := zE_p hP h5
      obtain ⟨Z6, hZ6, c9, hZ6I, kZ6, jZ6⟩ := sp_493 (ν := ν) hZ3I (a1 := 0) (by omega) (zbh (c := 8) (k := 0) hM9 (Nat.le_of_ble_eq_true rfl))
      have hZ6U : zU [] Zs Z6 := zU_t hZ3U jZ6 zU_b0
      have hZ6K : zC [1, 2, 81, 1200] Zs Z6 := zC_t hZ3K kZ6 (by decide)
      replace hP := zl_e hP hZ6
      refine wz_cV_of (zas (zcons rfl (zcons (zvi (show (0 : Int32) = i3 0 from rfl)) rfl)) c9) ?_
      clear c9
      obtain ⟨m2, rfl⟩ : ∃ m2, m = m2 + 1 := ⟨m - 1, by omega⟩
      exact wz_k1 ⟨m2, by omega, xM9 + 8, Z6, (x3 + 1), (zconso rfl (zconso (zvo (rfl : i3 x1 = i3 x1)) (zconso (zvo (rfl : i3 x2 = i3 x2)) (zconso (zvo (i3A (rfl : i3 x3 = i3 x3) (show (1 : Int32) = i3 1 from rfl))) (zconso rfl rfl))))), rfl, by omega, (zmt hZ6I rfl), hZ6K, hZ6U, by omega, by omega,  hP⟩
    · replace hP := zE_n hP h5
      obtain ⟨Z7, hZ7, c9, hZ7I, kZ7, jZ7, wZ70⟩ := sp_460 (ν := ν) hZ3I (a1 := x1) (by omega) (zbh (c := 8) (k := 0) hM9 (Nat.le_of_ble_eq_true rfl))
      have hZ7U : zU [] Zs Z7 := zU_t hZ3U jZ7 zU_b0
      have hZ7K : zC [1, 2, 81, 1200] Zs Z7 := zC_t hZ3K kZ7 (by decide)
      replace hP := zl_e hP hZ7
      refine wz_cV_of (zas (zcons rfl (zcons (zvi (rfl : i3 x1 = i3 x1)) rfl)) c9) ?_
      clear c9
      have r8 := zM_k hZ7I 2 0 0 0 (lo := 0) (hi := 671) (by decide) rfl
      have r9 := zM_k hZ3I 2 0 0 0 (lo := 0) (hi := 671) (by decide) rfl
      obtain ⟨v10, hv10, c9, lv10, uv10⟩ := sp_469 (ν := ν) hZ7I (zbh (c := 8) (k := 0) hM9 (Nat.le_of_ble_eq_true rfl))
      replace hP := zl_e hP hv10
      refine wz_cI_of (zas (zcons rfl rfl) c9) ?_
      clear c9
      have r11 := zM_f hZ7I 1 0 0 6
      refine wz_br (i3Le (rfl : i3 v10 = i3 v10) (zm_rd (Z := Z7) (ν := ν) (k := 1) (show ((0 : Nat) : Int) = 0 from rfl) (show ((0 : Nat) : Int) = 0 from rfl) (show ((6 : Nat) : Int) = 6 from rfl)) (by omega) (by omega) (by omega) (by omega)) (fun h12 => ?_) (fun h12 => ?_)
      · replace hP := zE_p hP h12
        obtain ⟨Z13, hZ13, c9, hZ13I, kZ13, jZ13⟩ := sp_493 (ν := ν) hZ7I (a1 := 0) (by omega) (zbh (c := 8) (k := 0) hM9 (Nat.le_of_ble_eq_true rfl))
        have hZ13U : zU [] Zs Z13 := zU_t hZ7U jZ13 zU_b0
        have hZ13K : zC [1, 2, 81, 1200] Zs Z13 := zC_t hZ7K kZ13 (by decide)
        replace hP := zl_e hP hZ13
        refine wz_cV_of (zas (zcons rfl (zcons (zvi (show (0 : Int32) = i3 0 from rfl)) rfl)) c9) ?_
        clear c9
        obtain ⟨m2, rfl⟩ : ∃ m2, m = m2 + 1 := ⟨m - 1, by omega⟩
        exact wz_k1 ⟨m2, by omega, xM9 + 8, Z13, (x3 + 1), (zconso rfl (zconso (zvo (rfl : i3 x1 = i3 x1)) (zconso (zvo (rfl : i3 x2 = i3 x2)) (zconso (zvo (i3A (rfl : i3 x3 = i3 x3) (show (1 : Int32) = i3 1 from rfl))) (zconso rfl rfl))))), rfl, by omega, (zmt hZ13I rfl), hZ13K, hZ13U, by omega, by omega,  hP⟩
      · replace hP := zE_n hP h12
        obtain ⟨Z14, hZ14⟩ := zx (zu Z7 1 0 0 6 v10)
        replace hP := zl_e hP hZ14
        have hZ14I := zM_u hZ7I hZ14 (lo := -2147483648) (hi := 2147483647) (by decide) rfl (by omega) ⟨by decide, by decide⟩ (Or.inr (by decide)) rfl
        have hZ14U : zU [] Zs Z14 := zU_u hZ7U hZ14 (Or.inl rfl)
        have hZ14K : zC [1, 2, 81, 1200] Zs Z14 := zC_u hZ7K hZ14 (by decide)
        intro μ9 e9
        replace e9 := e9.trans (zm_wI (Z := Z7) (ν := ν) hZ14 (show ((0 : Nat) : Int) = 0 from rfl) (show ((0 : Nat) : Int) = 0 from rfl) (show ((6 : Nat) : Int) = 6 from rfl) (rfl : i3 v10 = i3 v10))
        subst e9
        obtain ⟨Z15, hZ15⟩ := zx (zu Z14 1 0 0 7 x3)
        replace hP := zl_e hP hZ15
        have hZ15I := zM_u hZ14I hZ15 (lo := 0) (hi := 342) (by decide) rfl (by omega) ⟨by decide, by decide⟩ (Or.inr (by decide)) rfl
        have hZ15U : zU [] Zs Z15 := zU_u hZ14U hZ15 (Or.inl rfl)
        have hZ15K : zC [1, 2, 81, 1200] Zs Z15 := zC_u hZ14K hZ15 (by decide)
        intro μ9 e9
        replace e9 := e9.trans (zm_wI (Z := Z14) (ν := ν) hZ15 (show ((0 : Nat) : Int) = 0 from rfl) (show ((0 : Nat) : Int) = 0 from rfl) (show ((7 : Nat) : Int) = 7 from rfl) (rfl : i3 x3 = i3 x3))
        subst e9
        obtain ⟨Z16, hZ16, c9, hZ16I, kZ16, jZ16⟩ := sp_493 (ν := ν) hZ15I (a1 := 0) (by omega) (zbh (c := 8) (k := 0) hM9 (Nat.le_of_ble_eq_true rfl))
        have hZ16U : zU [] Zs Z16 := zU_t hZ15U jZ16 zU_b0
        have hZ16K : zC [1, 2, 81, 1200] Zs Z16 := zC_t hZ15K kZ16 (by decide)
        replace hP := zl_e hP hZ16
        refine wz_cV_of (zas (zcons rfl (zcons (zvi (show (0 : Int32) = i3 0 from rfl)) rfl)) c9) ?_
        clear c9
        obtain ⟨m2, rfl⟩ : ∃ m2, m = m2 + 1 := ⟨m - 1, by omega⟩
        exact wz_k1 ⟨m2, by omega, xM9 + 8, Z16, (x3 + 1), (zconso rfl (zconso (zvo (rfl : i3 x1 = i3 x1)) (zconso (zvo (rfl : i3 x2 = i3 x2)) (zconso (zvo (i3A (rfl : i3 x3 = i3 x3) (show (1 : Int32) = i3 1 from rfl))) (zconso rfl rfl))))), rfl, by omega, (zmt hZ16I rfl), hZ16K, hZ16U, by omega, by omega,  hP⟩
/- yX12_rFindBest -/
def zf_467 (Z : qz_Z) (a1 : Int) : qz_Z := (zlet (zf_468 Z) (fun Z1 => (zlet (zu Z1 1 0 0 6 (-1)) (fun Z2 => (zlet (zf_491 Z2) (fun v3 => (zlet2 (zl_467_1 a1 v3 344 Z2 0) (fun Z5 y4 => Z5))))))))
theorem sp_467 {s : zSM} {Z : qz_Z} {ν : qz_N} (hZ : zM s Z) {a1 : Int} (ga1 : 0 ≤ a1 ∧ a1 ≤ 671) (hM : s.2 + 2752 ≤ 1000000000) : ∃ P : qz_Z, P = zf_467 Z a1 ∧ (qf_467 [.inr (.inr (some (1, 0, 0))), .inl (i3 a1)] (zm Z ν) = some (zm P ν, .inl none) ∧ zM (zb s 2752) P ∧ zC [1, 2, 81, 82, 1200] Z P ∧ zU [] Z P) := by
  obtain ⟨P, hP⟩ := zx (zf_467 Z a1)
  refine zc_V (Q := fun P => zM (zb s 2752) P ∧ zC [1, 2, 81, 82, 1200] Z P ∧ zU [] Z P) hP (fw_467 (i3 a1) _ _ ?_)
  replace hP : zE P (zf_467 Z a1) := hP
  unfold zf_467 at hP
  obtain ⟨Z1, hZ1, c9, hZ1I, kZ1, jZ1⟩ := sp_468 (ν := ν) hZ (zbh (c := 0) (k := 0) hM (Nat.le_of_ble_eq_true rfl))
  have hZ1U : zU [] Z Z1 := zU_t zU_r jZ1 zU_b0
  have hZ1K : zC [1, 2, 81, 82, 1200] Z Z1 := zC_t zC_r kZ1 (by decide)
  replace hP := zl_e hP hZ1
  refine wz_cV_of (zas (zcons rfl rfl) c9) ?_
  clear c9
  obtain ⟨Z2, hZ2⟩ := zx (zu Z1 1 0 0 6 (-1))
  replace hP := zl_e hP hZ2
  have hZ2I := zM_u hZ1I hZ2 (lo := -2147483648) (hi := 2147483647) (by decide) rfl (by omega) ⟨by decide, by decide⟩ (Or.inr (by decide)) rfl
  have hZ2U : zU [] Z Z2 := zU_u hZ1U hZ2 (Or.inl rfl)
  have hZ2K : zC [1, 2, 81, 82, 1200] Z Z2 := zC_u hZ1K hZ2 (by decide)
  intro μ9 e9
  replace e9 := e9.trans (zm_wI (Z := Z1) (ν := ν) hZ2 (show ((0 : Nat) : Int) = 0 from rfl) (show ((0 : Nat) : Int) = 0 from rfl) (show ((6 : Nat) : Int) = 6 from rfl) (show (-1 : Int32) = i3 (-1) from rfl))
  subst e9
  obtain ⟨v3, hv3, c9, lv3, uv3⟩ := sp_491 (ν := ν) hZ2I (zbh (c := 0) (k := 0) hM (Nat.le_of_ble_eq_true rfl))
  replace hP := zl_e hP hv3
  refine wz_cI_of (zas (zcons rfl rfl) c9) ?_
  clear c9
  refine sl_467_1 (ν := ν) (zm0 hZ2I) (zbh (c := 0) (k := 2752) hM (Nat.le_of_ble_eq_true rfl)) (xM9 := 0) zC_r (x1 := a1) (by omega) (x2 := v3) (by omega) (x3 := 0) (by omega) zU_r (Nat.le_of_ble_eq_true rfl)  (zconso rfl (zconso (zvo (rfl : i3 a1 = i3 a1)) (zconso (zvo (rfl : i3 v3 = i3 v3)) (zconso (zvo (show (0 : Int32) = i3 0 from rfl)) (zconso rfl rfl))))) rfl ?_
  intro L6 Z5 y4 hL6 hZ5I kZ5 jZ5 gy4 q9
  replace hP := zl_e2 hP (Eq.symm q9)
  clear q9
  have hZ5U : zU [] Z Z5 := zU_t hZ2U jZ5 zU_b0
  have hZ5K : zC [1, 2, 81, 82, 1200] Z Z5 := zC_t hZ2K kZ5 (by decide)
  refine fc_467_2  _ _ _ _ hL6 ?_
  exact zlV hP ⟨hZ5I, hZ5K, hZ5U⟩
/- yX12_best -/
def zy_291 (Z : qz_Z) (a1 : Int) (a2 : Int) : qz_Z × Int := (if 671 ≤ ((Z 2 0 0 0) + 48) then (if a1 < (Z 2 0 0 0) then (zlet (zu Z 1 0 0 2 1) (fun Z7 => (Z7, 0))) else (if 671 < a1 then (zlet (zu Z 1 0 0 2 1) (fun Z9 => (Z9, 0))) else (if a2 < 0 then (zlet (zu Z 1 0 0 2 1) (fun Z11 => (Z11, 0))) else (if 3 < a2 then (zlet (zu Z 1 0 0 2 1) (fun Z13 => (Z13, 0))) else (zlet (zu Z 1 0 0 2 0) (fun Z14 => (zlet (zf_467 Z14 a1) (fun Z15 => (if a2 ≠ 0 then (if a2 ≤ (Z15 1 0 0 5) then (zlet (zf_466 Z15 (Z15 1 0 0 7) (a2 - 1)) (fun v20 => (if v20 ≠ 0 then (Z15, (v20 - 1)) else (Z15, 6)))) else (Z15, (-1))) else (Z15, (Z15 1 0 0 6))))))))))) else (if a1 < (Z 2 0 0 0) then (zlet (zu Z 1 0 0 2 1) (fun Z24 => (Z24, 0))) else (if ((Z 2 0 0 0) + 48) < a1 then (zlet (zu Z 1 0 0 2 1) (fun Z26 => (Z26, 0))) else (if a2 < 0 then (zlet (zu Z 1 0 0 2 1) (fun Z28 => (Z28, 0))) else (if 3 < a2 then (zlet (zu Z 1 0 0 2 1) (fun Z30 => (Z30, 0))) else (zlet (zu Z 1 0 0 2 0) (fun Z31 => (zlet (zf_467 Z31 a1) (fun Z32 => (if a2 ≠ 0 then (if a2 ≤ (Z32 1 0 0 5) then (zlet (zf_466 Z32 (Z32 1 0 0 7) (a2 - 1)) (fun v37 => (if v37 ≠ 0 then (Z32, (v37 - 1)) else (Z32, 6)))) else (Z32, (-1))) else (Z32, (Z32 1 0 0 6))))))))))))
theorem sy_291 {s : zSM} {Z : qz_Z} {ν : qz_N} (hZ : zM s Z) (gq : Z 1 0 0 35 = 0) (hM : s.2 + 2752 ≤ 1000000000) {a1 : Int} (ga1 : -2147483648 ≤ a1 ∧ a1 ≤ 2147483647) {a2 : Int} (ga2 : -2147483648 ≤ a2 ∧ a2 ≤ 2147483647) {ν1 : qz_N} : ∃ (Z1 : qz_Z) (ν2 : qz_N) (v : Int), (Z1, v) = zy_291 Z a1 a2 ∧ (ν2 = ν ∨ ν2 = ν1) ∧ qf_291 [.inr (.inr (some (1, 0, 0))), .inl (i3 a1), .inl (i3 a2)] (zm Z ν) = some (zm Z1 ν2, .inl (some (.inl (i3 v)))) ∧ (fun Z1 => zM (zb s 2752) Z1 ∧ zC [1, 2, 81, 82, 1200] Z Z1 ∧ zU [] Z Z1) Z1 := by
  obtain ⟨P, hP⟩ := zx (zy_291 Z a1 a2)
  refine zc_Y (Q := fun Z1 => zM (zb s 2752) Z1 ∧ zC [1, 2, 81, 82, 1200] Z Z1 ∧ zU [] Z Z1) hP (fw_291 (i3 a1) (i3 a2) _ _ ?_)
  replace hP : zE P (zy_291 Z a1 a2) := hP
  unfold zy_291 at hP
  have r1 := zM_k hZ 1 0 0 35 (lo := 0) (hi := 1) (by decide) rfl
  have r2 := zM_k hZ 1 0 0 34 (lo := 0) (hi := 8) (by decide) rfl
  have r3 := zM_f hZ 1 0 0 37
  have r4 := zM_k hZ 2 0 0 0 (lo := 0) (hi := 671) (by decide) rfl
  refine wz_br (i3Le (show (671 : Int32) = i3 671 from rfl) (i3A (zm_rd (Z := Z) (ν := ν) (k := 2) (show ((0 : Nat) : Int) = 0 from rfl) (show ((0 : Nat) : Int) = 0 from rfl) (show ((0 : Nat) : Int) = 0 from rfl)) (show (48 : Int32) = i3 48 from rfl)) (by omega) (by omega) (by omega) (by omega)) (fun h5 => ?_) (fun h5 => ?_)
  · replace hP := zE_p hP h5
    refine wz_br (i3L (rfl : i3 a1 = i3 a1) (zm_rd (Z := Z) (ν := ν) (k := 2) (show ((0 : Nat) : Int) = 0 from rfl) (show ((0 : Nat) : Int) = 0 from rfl) (show ((0 : Nat) : Int) = 0 from rfl)) (by omega) (by omega) (by omega) (by omega)) (fun h6 => ?_) (fun h6 => ?_)
    · replace hP := zE_p hP h6
      obtain ⟨Z7, hZ7⟩ := zx (zu Z 1 0 0 2 1)
      replace hP := zl_e hP hZ7
      have hZ7I := zM_u hZ hZ7 (lo := -2147483648) (hi := 2147483647) (by decide) rfl (by omega) ⟨by decide, by decide⟩ (Or.inr (by decide)) rfl
      have hZ7U : zU [] Z Z7 := zU_u zU_r hZ7 (Or.inl rfl)
      have hZ7K : zC [1, 2, 81, 82, 1200] Z Z7 := zC_u zC_r hZ7 (by decide)
      intro μ9 e9
      replace e9 := e9.trans (zm_wI (Z := Z) (ν := ν) hZ7 (show ((0 : Nat) : Int) = 0 from rfl) (show ((0 : Nat) : Int) = 0 from rfl) (show ((2 : Nat) : Int) = 2 from rfl) (show (1 : Int32) = i3 1 from rfl))
      subst e9
      exact zlY hP (show (0 : Int32) = i3 0 from rfl) (.inl rfl) ⟨(zmw (a := 0) (c := 2752) hZ7I (Nat.le_of_ble_eq_true rfl)), hZ7K, hZ7U⟩
    · replace hP := zE_n hP h6
      refine wz_br (i3L (show (671 : Int32) = i3 671 from rfl) (rfl : i3 a1 = i3 a1) (by omega) (by omega) (by omega) (by omega)) (fun h8 => ?_) (fun h8 => ?_)
      · replace hP := zE_p hP h8
        obtain ⟨Z9, hZ9⟩ := zx (zu Z 1 0 0 2 1)
        replace hP := zl_e hP hZ9
        have hZ9I := zM_u hZ hZ9 (lo := -2147483648) (hi := 2147483647) (by decide) rfl (by omega) ⟨by decide, by decide⟩ (Or.inr (by decide)) rfl
        have hZ9U : zU [] Z Z9 := zU_u zU_r hZ9 (Or.inl rfl)
        have hZ9K : zC [1, 2, 81, 82, 1200] Z Z9 := zC_u zC_r hZ9 (by decide)
        intro μ9 e9
        replace e9 := e9.trans (zm_wI (Z := Z) (ν := ν) hZ9 (show ((0 : Nat) : Int) = 0 from rfl) (show ((0 : Nat) : Int) = 0 from rfl) (show ((2 : Nat) : Int) = 2 from rfl) (show (1 : Int32) = i3 1 from rfl))
        subst e9
        exact zlY hP (show (0 : Int32) = i3 0 from rfl) (.inl rfl) ⟨(zmw (a := 0) (c := 2752) hZ9I (Nat.le_of_ble_eq_true rfl)), hZ9K, hZ9U⟩
      · replace hP := zE_n hP h8
        refine wz_br (i3L (rfl : i3 a2 = i3 a2) (show (0 : Int32) = i3 0 from rfl) (by omega) (by omega) (by omega) (by omega)) (fun h10 => ?_) (fun h10 => ?_)
        · replace hP := zE_p hP h10
          obtain ⟨Z11, hZ11⟩ := zx (zu Z 1 0 0 2 1)
          replace hP := zl_e hP hZ11
          have hZ11I := zM_u hZ hZ11 (lo := -2147483648) (hi := 2147483647) (by decide) rfl (by omega) ⟨by decide, by decide⟩ (Or.inr (by decide)) rfl
          have hZ11U : zU [] Z Z11 := zU_u zU_r hZ11 (Or.inl rfl)
          have hZ11K : zC [1, 2, 81, 82, 1200] Z Z11 := zC_u zC_r hZ11 (by decide)
          intro μ9 e9
          replace e9 := e9.trans (zm_wI (Z := Z) (ν := ν) hZ11 (show ((0 : Nat) : Int) = 0 from rfl) (show ((0 : Nat) : Int) = 0 from rfl) (show ((2 : Nat) : Int) = 2 from rfl) (show (1 : Int32) = i3 1 from rfl))
          subst e9
          exact zlY hP (show (0 : Int32) = i3 0 from rfl) (.inl rfl) ⟨(zmw (a := 0) (c := 2752) hZ11I (Nat.le_of_ble_eq_true rfl)), hZ11K, hZ11U⟩
        · replace hP := zE_n hP h10
          refine wz_br (i3L (show (3 : Int32) = i3 3 from rfl) (rfl : i3 a2 = i3 a2) (by omega) (by omega) (by omega) (by omega)) (fun h12 => ?_) (fun h12 => ?_)
          · replace hP := zE_p hP h12
            obtain ⟨Z13, hZ13⟩ := zx (zu Z 1 0 0 2 1)
            replace hP := zl_e hP hZ13
            have hZ13I := zM_u hZ hZ13 (lo := -2147483648) (hi := 2147483647) (by decide) rfl (by omega) ⟨by decide, by decide⟩ (Or.inr (by decide)) rfl
            have hZ13U : zU [] Z Z13 := zU_u zU_r hZ13 (Or.inl rfl)
            have hZ13K : zC [1, 2, 81, 82, 1200] Z Z13 := zC_u zC_r hZ13 (by decide)
            intro μ9 e9
            replace e9 := e9.trans (zm_wI (Z := Z) (ν := ν) hZ13 (show ((0 : Nat) : Int) = 0 from rfl) (show ((0 : Nat) : Int) = 0 from rfl) (show ((2 : Nat) : Int) = 2 from rfl) (show (1 : Int32) = i3 1 from rfl))
            subst e9
            exact zlY hP (show (0 : Int32) = i3 0 from rfl) (.inl rfl) ⟨(zmw (a := 0) (c := 2752) hZ13I (Nat.le_of_ble_eq_true rfl)), hZ13K, hZ13U⟩
          · replace hP := zE_n hP h12
            obtain ⟨Z14, hZ14⟩ := zx (zu Z 1 0 0 2 0)
            replace hP := zl_e hP hZ14
            have hZ14I := zM_0 hZ hZ14 (by decide) (Or.inr (by decide))
            have hZ14U : zU [] Z Z14 := zU_u zU_r hZ14 (Or.inl rfl)
            have hZ14K : zC [1, 2, 81, 82, 1200] Z Z14 := zC_u zC_r hZ14 (by decide)
            intro μ9 e9
            replace e9 := e9.trans (zm_wI (Z := Z) (ν := ν) hZ14 (show ((0 : Nat) : Int) = 0 from rfl) (show ((0 : Nat) : Int) = 0 from rfl) (show ((2 : Nat) : Int) = 2 from rfl) (show (0 : Int32) = i3 0 from rfl))
            subst e9
            obtain ⟨Z15, hZ15, c9, hZ15I, kZ15, jZ15⟩ := sp_467 (ν := ν) hZ14I (a1 := a1) (by omega) (zbh (c := 0) (k := 2752) hM (Nat.le_of_ble_eq_true rfl))
            have hZ15U : zU [] Z Z15 := zU_t hZ14U jZ15 zU_b0
            have hZ15K : zC [1, 2, 81, 82, 1200] Z Z15 := zC_t hZ14K kZ15 (by decide)
            replace hP := zl_e hP hZ15
            refine wz_cV_of (zas (zcons rfl (zcons (zvi (rfl : i3 a1 = i3 a1)) rfl)) c9) ?_
            clear c9
            refine wz_br (i3NE (rfl : i3 a2 = i3 a2) (show (0 : Int32) = i3 0 from rfl) (by omega) (by omega) (by omega) (by omega)) (fun h16 => ?_) (fun h16 => ?_)
            · replace hP := zE_p hP h16
              have r17 := zM_k hZ15I 1 0 0 5 (lo := 0) (hi := 3) (by decide) rfl
              refine wz_br (i3Le (rfl : i3 a2 = i3 a2) (zm_rd (Z := Z15) (ν := ν) (k := 1) (show ((0 : Nat) : Int) = 0 from rfl) (show ((0 : Nat) : Int) = 0 from rfl) (show ((5 : Nat) : Int) = 5 from rfl)) (by omega) (by omega) (by omega) (by omega)) (fun h18 => ?_) (fun h18 => ?_)
              · replace hP := zE_p hP h18
                have r19 := zM_k hZ15I 1 0 0 7 (lo := 0) (hi := 342) (by decide) rfl
                obtain ⟨v20, hv20, c9, lv20, uv20⟩ := sp_466 (ν := ν) hZ15I (a1 := (Z15 1 0 0 7)) (by omega) (a2 := (a2 - 1)) (by omega) (zbh (c := 2752) (k := 0) hM (Nat.le_of_ble_eq_true rfl))
                replace hP := zl_e hP hv20
                refine wz_cI_of (zas (zcons rfl (zcons (zvi (zm_rd (Z := Z15) (ν := ν) (k := 1) (show ((0 : Nat) : Int) = 0 from rfl) (show ((0 : Nat) : Int) = 0 from rfl) (show ((7 : Nat) : Int) = 7 from rfl))) (zcons (zvi (i3S (rfl : i3 a2 = i3 a2) (show (1 : Int32) = i3 1 from rfl))) rfl))) c9) ?_
                clear c9
                refine wz_br (i3NE (rfl : i3 v20 = i3 v20) (show (0 : Int32) = i3 0 from rfl) (by omega) (by omega) (by omega) (by omega)) (fun h21 => ?_) (fun h21 => ?_)
                · replace hP := zE_p hP h21
                  exact zlY hP (i3S (rfl : i3 v20 = i3 v20) (show (1 : Int32) = i3 1 from rfl)) (.inl rfl) ⟨hZ15I, hZ15K, hZ15U⟩
                · replace hP := zE_n hP h21
                  exact zlY hP (show (6 : Int32) = i3 6 from rfl) (.inl rfl) ⟨hZ15I, hZ15K, hZ15U⟩
              · replace hP := zE_n hP h18
                exact zlY hP (show (-1 : Int32) = i3 (-1) from rfl) (.inl rfl) ⟨hZ15I, hZ15K, hZ15U⟩
            · replace hP := zE_n hP h16
              have r22 := zM_f hZ15I 1 0 0 6
              exact zlY hP (zm_rd (Z := Z15) (ν := ν) (k := 1) (show ((0 : Nat) : Int) = 0 from rfl) (show ((0 : Nat) : Int) = 0 from rfl) (show ((6 : Nat) : Int) = 6 from rfl)) (.inl rfl) ⟨hZ15I, hZ15K, hZ15U⟩
  · replace hP := zE_n hP h5
    refine wz_br (i3L (rfl : i3 a1 = i3 a1) (zm_rd (Z := Z) (ν := ν) (k := 2) (show ((0 : Nat) : Int) = 0 from rfl) (show ((0 : Nat) : Int) = 0 from rfl) (show ((0 : Nat) : Int) = 0 from rfl)) (by omega) (by omega) (by omega) (by omega)) (fun h23 => ?_) (fun h23 => ?_)
    · replace hP := zE_p hP h23
      obtain ⟨Z24, hZ24⟩ := zx (zu Z 1 0 0 2 1)
      replace hP := zl_e hP hZ24
      have hZ24I := zM_u hZ hZ24 (lo := -2147483648) (hi := 2147483647) (by decide) rfl (by omega) ⟨by decide, by decide⟩ (Or.inr (by decide)) rfl
      have hZ24U : zU [] Z Z24 := zU_u zU_r hZ24 (Or.inl rfl)
      have hZ24K : zC [1, 2, 81, 82, 1200] Z Z24 := zC_u zC_r hZ24 (by decide)
      intro μ9 e9
      replace e9 := e9.trans (zm_wI (Z := Z) (ν := ν) hZ24 (show ((0 : Nat) : Int) = 0 from rfl) (show ((0 : Nat) : Int) = 0 from rfl) (show ((2 : Nat) : Int) = 2 from rfl) (show (1 : Int32) = i3 1 from rfl))
      subst e9
      exact zlY hP (show (0 : Int32) = i3 0 from rfl) (.inl rfl) ⟨(zmw (a := 0) (c := 2752) hZ24I (Nat.le_of_ble_eq_true rfl)), hZ24K, hZ24U⟩
    · replace hP := zE_n hP h23
      refine wz_br (i3L (i3A (zm_rd (Z := Z) (ν := ν) (k := 2) (show ((0 : Nat) : Int) = 0 from rfl) (show ((0 : Nat) : Int) = 0 from rfl) (show ((0 : Nat) : Int) = 0 from rfl)) (show (48 : Int32) = i3 48 from rfl)) (rfl : i3 a1 = i3 a1) (by omega) (by omega) (by omega) (by omega)) (fun h25 => ?_) (fun h25 => ?_)
      · replace hP := zE_p hP h25
        obtain ⟨Z26, hZ26⟩ := zx (zu Z 1 0 0 2 1)
        replace hP := zl_e hP hZ26
        have hZ26I := zM_u hZ hZ26 (lo := -2147483648) (hi := 2147483647) (by decide) rfl (by omega) ⟨by decide, by decide⟩ (Or.inr (by decide)) rfl
        have hZ26U : zU [] Z Z26 := zU_u zU_r hZ26 (Or.inl rfl)
        have hZ26K : zC [1, 2, 81, 82, 1200] Z Z26 := zC_u zC_r hZ26 (by decide)
        intro μ9 e9
        replace e9 := e9.trans (zm_wI (Z := Z) (ν := ν) hZ26 (show ((0 : Nat) : Int) = 0 from rfl) (show ((0 : Nat) : Int) = 0 from rfl) (show ((2 : Nat) : Int) = 2 from rfl) (show (1 : Int32) = i3 1 from rfl))
        subst e9
        exact zlY hP (show (0 : Int32) = i3 0 from rfl) (.inl rfl) ⟨(zmw (a := 0) (c := 2752) hZ26I (Nat.le_of_ble_eq_true rfl)), hZ26K, hZ26U⟩
      · replace hP := zE_n hP h25
        refine wz_br (i3L (rfl : i3 a2 = i3 a2) (show (0 : Int32) = i3 0 from rfl) (by omega) (by omega) (by omega) (by omega)) (fun h27 => ?_) (fun h27 => ?_)
        · replace hP := zE_p hP h27
          obtain ⟨Z28, hZ28⟩ := zx (zu Z 1 0 0 2 1)
          replace hP := zl_e hP hZ28
          have hZ28I := zM_u hZ hZ28 (lo := -2147483648) (hi := 2147483647) (by decide) rfl (by omega) ⟨by decide, by decide⟩ (Or.inr (by decide)) rfl
          have hZ28U : zU [] Z Z28 := zU_u zU_r hZ28 (Or.inl rfl)
          have hZ28K : zC [1, 2, 81, 82, 1200] Z Z28 := zC_u zC_r hZ28 (by decide)
          intro μ9 e9
          replace e9 := e9.trans (zm_wI (Z := Z) (ν := ν) hZ28 (show ((0 : Nat) : Int) = 0 from rfl) (show ((0 : Nat) : Int) = 0 from rfl) (show ((2 : Nat) : Int) = 2 from rfl) (show (1 : Int32) = i3 1 from rfl))
          subst e9
          exact zlY hP (show (0 : Int32) = i3 0 from rfl) (.inl rfl) ⟨(zmw (a := 0) (c := 2752) hZ28I (Nat.le_of_ble_eq_true rfl)), hZ28K, hZ28U⟩
        · replace hP := zE_n hP h27
          refine wz_br (i3L (show (3 : Int32) = i3 3 from rfl) (rfl : i3 a2 = i3 a2) (by omega) (by omega) (by omega) (by omega)) (fun h29 => ?_) (fun h29 => ?_)
          · replace hP := zE_p hP h29
            obtain ⟨Z30, hZ30⟩ := zx (zu Z 1 0 0 2 1)
            replace hP := zl_e hP hZ30
            have hZ30I := zM_u hZ hZ30 (lo := -2147483648) (hi := 2147483647) (by decide) rfl (by omega) ⟨by decide, by decide⟩ (Or.inr (by decide)) rfl
            have hZ30U : zU [] Z Z30 := zU_u zU_r hZ30 (Or.inl rfl)
            have hZ30K : zC [1, 2, 81, 82, 1200] Z Z30 := zC_u zC_r hZ30 (by decide)
            intro μ9 e9
            replace e9 := e9.trans (zm_wI (Z := Z) (ν := ν) hZ30 (show ((0 : Nat) : Int) = 0 from rfl) (show ((0 : Nat) : Int) = 0 from rfl) (show ((2 : Nat) : Int) = 2 from rfl) (show (1 : Int32) = i3 1 from rfl))
            subst e9
            exact zlY hP (show (0 : Int32) = i3 0 from rfl) (.inl rfl) ⟨(zmw (a := 0) (c := 2752) hZ30I (Nat.le_of_ble_eq_true rfl)), hZ30K, hZ30U⟩
          · replace hP := zE_n hP h29
            obtain ⟨Z31, hZ31⟩ := zx (zu Z 1 0 0 2 0)
            replace hP := zl_e hP hZ31
            have hZ31I := zM_0 hZ hZ31 (by decide) (Or.inr (by decide))
            have hZ31U : zU [] Z Z31 := zU_u zU_r hZ31 (Or.inl rfl)
            have hZ31K : zC [1, 2, 81, 82, 1200] Z Z31 := zC_u zC_r hZ31 (by decide)
            intro μ9 e9
            replace e9 := e9.trans (zm_wI (Z := Z) (ν := ν) hZ31 (show ((0 : Nat) : Int) = 0 from rfl) (show ((0 : Nat) : Int) = 0 from rfl) (show ((2 : Nat) : Int) = 2 from rfl) (show (0 : Int32) = i3 0 from rfl))
            subst e9
            obtain ⟨Z32, hZ32, c9, hZ32I, kZ32, jZ32⟩ := sp_467 (ν := ν) hZ31I (a1 := a1) (by omega) (zbh (c := 0) (k := 2752) hM (Nat.le_of_ble_eq_true rfl))
            have hZ32U : zU [] Z Z32 := zU_t hZ31U jZ32 zU_b0
            have hZ32K : zC [1, 2, 81, 82, 1200] Z Z32 := zC_t hZ31K kZ32 (by decide)
            replace hP := zl_e hP hZ32
            refine wz_cV_of (zas (zcons rfl (zcons (zvi (rfl : i3 a1 = i3 a1)) rfl)) c9) ?_
            clear c9
            refine wz_br (i3NE (rfl : i3 a2 = i3 a2) (show (0 : Int32) = i3 0 from rfl) (by omega) (by omega) (by omega) (by omega)) (fun h33 => ?_) (fun h33 => ?_)
            · replace hP := zE_p hP h33
              have r34 := zM_k hZ32I 1 0 0 5 (lo := 0) (hi := 3) (by decide) rfl
              refine wz_br (i3Le (rfl : i3 a2 = i3 a2) (zm_rd (Z := Z32) (ν := ν) (k := 1) (show ((0 : Nat) : Int) = 0 from rfl) (show ((0 : Nat) : Int) = 0 from rfl) (show ((5 : Nat) : Int) = 5 from rfl)) (by omega) (by omega) (by omega) (by omega)) (fun h35 => ?_) (fun h35 => ?_)
              · replace hP := zE_p hP h35
                have r36 := zM_k hZ32I 1 0 0 7 (lo := 0) (hi := 342) (by decide) rfl
                obtain ⟨v37, hv37, c9, lv37, uv37⟩ := sp_466 (ν := ν) hZ32I (a1 := (Z32 1 0 0 7)) (by omega) (a2 := (a2 - 1)) (by omega) (zbh (c := 2752) (k := 0) hM (Nat.le_of_ble_eq_true rfl))
                replace hP := zl_e hP hv37
                refine wz_cI_of (zas (zcons rfl (zcons (zvi (zm_rd (Z := Z32) (ν := ν) (k := 1) (show ((0 : Nat) : Int) = 0 from rfl) (show ((0 : Nat) : Int) = 0 from rfl) (show ((7 : Nat) : Int) = 7 from rfl))) (zcons (zvi (i3S (rfl : i3 a2 = i3 a2) (show (1 : Int32) = i3 1 from rfl))) rfl))) c9) ?_
                clear c9
                refine wz_br (i3NE (rfl : i3 v37 = i3 v37) (show (0 : Int32) = i3 0 from rfl) (by omega) (by omega) (by omega) (by omega)) (fun h38 => ?_) (fun h38 => ?_)
                · replace hP := zE_p hP h38
                  exact zlY hP (i3S (rfl : i3 v37 = i3 v37) (show (1 : Int32) = i3 1 from rfl)) (.inl rfl) ⟨hZ32I, hZ32K, hZ32U⟩
                · replace hP := zE_n hP h38
                  exact zlY hP (show (6 : Int32) = i3 6 from rfl) (.inl rfl) ⟨hZ32I, hZ32K, hZ32U⟩
              · replace hP := zE_n hP h35
                exact zlY hP (show (-1 : Int32) = i3 (-1) from rfl) (.inl rfl) ⟨hZ32I, hZ32K, hZ32U⟩
            · replace hP := zE_n hP h33
              have r39 := zM_f hZ32I 1 0 0 6
              exact zlY hP (zm_rd (Z := Z32) (ν := ν) (k := 1) (show ((0 : Nat) : Int) = 0 from rfl) (show ((0 : Nat) : Int) = 0 from rfl) (show ((6 : Nat) : Int) = 6 from rfl)) (.inl rfl) ⟨hZ32I, hZ32K, hZ32U⟩
/- yX12_bAsks -/
def zf_260 (Z : qz_Z) (a1 : Int) : Int := (if (Z 2 0 0 (1516 + 12 * a1)) ≤ 0 then 0 else (if (Z 2 0 0 (1414 + 12 * (Z 2 0 0 (1510 + 12 * a1)))) ≠ 0 then 0 else (if (z2 (fun x y => x &&& y) (z2 (fun x y => x >>> (y &&& 31)) (Z 2 0 0 (1515 + 12 * a1)) (((Z 2 0 0 0) / 24) % 7)) 1) ≠ 1 then 0 else 1)))
theorem sp_260 {s : zSM} {Z : qz_Z} {ν : qz_N} (hZ : zM s Z) {a1 : Int} (ga1 : 0 ≤ a1 ∧ a1 ≤ 23) (hM : s.2 + 0 ≤ 1000000000) : ∃ P : Int, P = zf_260 Z a1 ∧ (qf_260 [.inr (.inr (some (1, 0, 0))), .inl (i3 a1)] (zm Z ν) = some (zm Z ν, .inl (some (.inl (i3 P)))) ∧ 0 ≤ P ∧ P ≤ 1 ∧ (P = 0 ∨ 1 ≤ Z 2 0 0 (1516 + 12 * a1))) := by
  obtain ⟨P, hP⟩ := zx (zf_260 Z a1)
  refine zc_R (Q := fun P => 0 ≤ P ∧ P ≤ 1 ∧ (P = 0 ∨ 1 ≤ Z 2 0 0 (1516 + 12 * a1))) hP (fw_260 (i3 a1) _ _ ?_)
  replace hP : zE P (zf_260 Z a1) := hP
  unfold zf_260 at hP
  have r1 := zM_k hZ 2 0 0 (1516 + 12 * a1) (lo := 0) (hi := 99) (by decide) (zs_1510_6 (x := a1) (by omega) (by omega) (by omega))
  refine wz_i0 (i3O (n := 4400) (i3A (i3A (show (1510 : Int32) = i3 1510 from rfl) (i3M (show (12 : Int32) = i3 12 from rfl) (rfl : i3 a1 = i3 a1))) (show (6 : Int32) = i3 6 from rfl)) (by omega) (by omega) (by omega)) ?_
  refine wz_br (i3Le (zm_rd (Z := Z) (ν := ν) (k := 2) (show ((0 : Nat) : Int) = 0 from rfl) (show ((0 : Nat) : Int) = 0 from rfl) (i3I (y := (1516 + 12 * a1)) (i3A (i3A (show (1510 : Int32) = i3 1510 from rfl) (i3M (show (12 : Int32) = i3 12 from rfl) (rfl : i3 a1 = i3 a1))) (show (6 : Int32) = i3 6 from rfl)) (by omega) (by omega) (by omega))) (show (0 : Int32) = i3 0 from rfl) (by omega) (by omega) (by omega) (by omega)) (fun h2 => ?_) (fun h2 => ?_)
  · replace hP := zE_p hP h2
    exact zlR hP (show (0 : Int32) = i3 0 from rfl) ⟨by omega, by omega, by omega⟩
  · replace hP := zE_n hP h2
    refine wz_i0 (i3O (n := 4400) (i3A (i3A (show (1510 : Int32) = i3 1510 from rfl) (i3M (show (12 : Int32) = i3 12 from rfl) (rfl : i3 a1 = i3 a1))) (show (0 : Int32) = i3 0 from rfl)) (by omega) (by omega) (by omega)) ?_
    have r3 := zM_k hZ 2 0 0 (1510 + 12 * a1) (lo := 0) (hi := 7) (by decide) (zs_1510_0 (x := a1) (by omega) (by omega) (by omega))
    refine wz_i0 (i3O (n := 4400) (i3A (i3A (show (1410 : Int32) = i3 1410 from rfl) (i3M (show (12 : Int32) = i3 12 from rfl) (zm_rd (Z := Z) (ν := ν) (k := 2) (show ((0 : Nat) : Int) = 0 from rfl) (show ((0 : Nat) : Int) = 0 from rfl) (i3I (y := (1510 + 12 * a1)) (i3A (i3A (show (1510 : Int32) = i3 1510 from rfl) (i3M (show (12 : Int32) = i3 12 from rfl) (rfl : i3 a1 = i3 a1))) (show (0 : Int32) = i3 0 from rfl)) (by omega) (by omega) (by omega))))) (show (4 : Int32) = i3 4 from rfl)) (by omega) (by omega) (by omega)) ?_
    have r4 := zM_k hZ 2 0 0 (1414 + 12 * (Z 2 0 0 (1510 + 12 * a1))) (lo := 0) (hi := 1) (by decide) (zs_1410_4 (x := (Z 2 0 0 (1510 + 12 * a1))) (by omega) (by omega) (by omega))
    refine wz_br (i3NE (zm_rd (Z := Z) (ν := ν) (k := 2) (show ((0 : Nat) : Int) = 0 from rfl) (show ((0 : Nat) : Int) = 0 from rfl) (i3I (y := (1414 + 12 * (Z 2 0 0 (1510 + 12 * a1)))) (i3A (i3A (show (1410 : Int32) = i3 1410 from rfl) (i3M (show (12 : Int32) = i3 12 from rfl) (zm_rd (Z := Z) (ν := ν) (k := 2) (show ((0 : Nat) : Int) = 0 from rfl) (show ((0 : Nat) : Int) = 0 from rfl) (i3I (y := (1510 + 12 * a1)) (i3A (i3A (show (1510 : Int32) = i3 1510 from rfl) (i3M (show (12 : Int32) = i3 12 from rfl) (rfl : i3 a1 = i3 a1))) (show (0 : Int32) = i3 0 from rfl)) (by omega) (by omega) (by omega))))) (show (4 : Int32) = i3 4 from rfl)) (by omega) (by omega) (by omega))) (show (0 : Int32) = i3 0 from rfl) (by omega) (by omega) (by omega) (by omega)) (fun h5 => ?_) (fun h5 => ?_)
    · replace hP := zE_p hP h5
      exact zlR hP (show (0 : Int32) = i3 0 from rfl) ⟨by omega, by omega, by omega⟩
    · replace hP := zE_n hP h5
      refine wz_i0 (i3O (n := 4400) (i3A (i3A (show (1510 : Int32) = i3 1510 from rfl) (i3M (show (12 : Int32) = i3 12 from rfl) (rfl : i3 a1 = i3 a1))) (show (5 : Int32) = i3 5 from rfl)) (by omega) (by omega) (by omega)) ?_
      have r6 := zM_k hZ 2 0 0 (1515 + 12 * a1) (lo := 0) (hi := 127) (by decide) (zs_1510_5 (x := a1) (by omega) (by omega) (by omega))
      have r7 := zM_k hZ 2 0 0 0 (lo := 0) (hi := 671) (by decide) rfl
      have r8 := z2_r (fun x y => x >>> (y &&& 31)) (Z 2 0 0 (1515 + 12 * a1)) (((Z 2 0 0 0) / 24) % 7)
      have r9 := z2_r (fun x y => x &&& y) (z2 (fun x y => x >>> (y &&& 31)) (Z 2 0 0 (1515 + 12 * a1)) (((Z 2 0 0 0) / 24) % 7)) 1
      have r10 := z2_and (z2 (fun x y => x >>> (y &&& 31)) (Z 2 0 0 (1515 + 12 * a1)) (((Z 2 0 0 0) / 24) % 7)) (y := 1) (by omega) (by omega)
      refine wz_br (i3NE (i3Z (fun x y => x &&& y) (i3Z (fun x y => x >>> (y &&& 31)) (zm_rd (Z := Z) (ν := ν) (k := 2) (show ((0 : Nat) : Int) = 0 from rfl) (show ((0 : Nat) : Int) = 0 from rfl) (i3I (y := (1515 + 12 * a1)) (i3A (i3A (show (1510 : Int32) = i3 1510 from rfl) (i3M (show (12 : Int32) = i3 12 from rfl) (rfl : i3 a1 = i3 a1))) (show (5 : Int32) = i3 5 from rfl)) (by omega) (by omega) (by omega))) (i3R (i3D (zm_rd (Z := Z) (ν := ν) (k := 2) (show ((0 : Nat) : Int) = 0 from rfl) (show ((0 : Nat) : Int) = 0 from rfl) (show ((0 : Nat) : Int) = 0 from rfl)) (show (24 : Int32) = i3 24 from rfl) (by omega) (by omega) (by omega) (by omega)) (show (7 : Int32) = i3 7 from rfl) (by omega) (by omega) (by omega) (by omega))) (show (1 : Int32) = i3 1 from rfl)) (show (1 : Int32) = i3 1 from rfl) (by omega) (by omega) (by omega) (by omega)) (fun h11 => ?_) (fun h11 => ?_)
      · replace hP := zE_p hP h11
        exact zlR hP (show (0 : Int32) = i3 0 from rfl) ⟨by omega, by omega, by omega⟩
      · replace hP := zE_n hP h11
        exact zlR hP (show (1 : Int32) = i3 1 from rfl) ⟨by omega, by omega, by omega⟩
/- yX12_bFits -/
def zf_270 (Z : qz_Z) (a1 : Int) (a2 : Int) : Int := (if 1 < (Z 2 0 0 (210 + 20 * a2)) then 0 else (if (Z 2 0 0 (204 + 20 * a2)) ≤ 0 then 0 else (if (Z 2 0 0 (201 + 20 * a2)) ≠ (Z 2 0 0 (1511 + 12 * a1)) then 0 else (if (Z 2 0 0 (209 + 20 * a2)) = (-1) then 0 else (if (Z 2 0 0 (1512 + 12 * a1)) < (Z 2 0 0 (209 + 20 * a2)) then 0 else 1)))))
theorem sp_270 {s : zSM} {Z : qz_Z} {ν : qz_N} (hZ : zM s Z) {a1 : Int} (ga1 : 0 ≤ a1 ∧ a1 ≤ 23) {a2 : Int} (ga2 : 0 ≤ a2 ∧ a2 ≤ 47) (hM : s.2 + 0 ≤ 1000000000) : ∃ P : Int, P = zf_270 Z a1 a2 ∧ (qf_270 [.inr (.inr (some (1, 0, 0))), .inl (i3 a1), .inl (i3 a2)] (zm Z ν) = some (zm Z ν, .inl (some (.inl (i3 P)))) ∧ 0 ≤ P ∧ P ≤ 1 ∧ (P = 0 ∨ (1 ≤ Z 2 0 0 (204 + 20 * a2) ∧ Z 2 0 0 (210 + 20 * a2) ≤ 1))) := by
  obtain ⟨P, hP⟩ := zx (zf_270 Z a1 a2)
  refine zc_R (Q := fun P => 0 ≤ P ∧ P ≤ 1 ∧ (P = 0 ∨ (1 ≤ Z 2 0 0 (204 + 20 * a2) ∧ Z 2 0 0 (210 + 20 * a2) ≤ 1))) hP (fw_270 (i3 a1) (i3 a2) _ _ ?_)
  replace hP : zE P (zf_270 Z a1 a2) := hP
  unfold zf_270 at hP
  have r1 := zM_k hZ 2 0 0 (204 + 20 * a2) (lo := 0) (hi := 40) (by decide) (zs_200_4 (x := a2) (by omega) (by omega) (by omega))
  have r2 := zM_k hZ 2 0 0 (210 + 20 * a2) (lo := 0) (hi := 4) (by decide) (zs_200_10 (x := a2) (by omega) (by omega) (by omega))
  have r3 := zM_pl hZ a2
  have r4 := zM_k hZ 2 0 0 102 (lo := 0) (hi := 48) (by decide) rfl
  refine wz_i0 (i3O (n := 4400) (i3A (i3A (show (200 : Int32) = i3 200 from rfl) (i3M (show (20 : Int32) = i3 20 from rfl) (rfl : i3 a2 = i3 a2))) (show (10 : Int32) = i3 10 from rfl)) (by omega) (by omega) (by omega)) ?_
  refine wz_br (i3L (show (1 : Int32) = i3 1 from rfl) (zm_rd (Z := Z) (ν := ν) (k := 2) (show ((0 : Nat) : Int) = 0 from rfl) (show ((0 : Nat) : Int) = 0 from rfl) (i3I (y := (210 + 20 * a2)) (i3A (i3A (show (200 : Int32) = i3 200 from rfl) (i3M (show (20 : Int32) = i3 20 from rfl) (rfl : i3 a2 = i3 a2))) (show (10 : Int32) = i3 10 from rfl)) (by omega) (by omega) (by omega))) (by omega) (by omega) (by omega) (by omega)) (fun h5 => ?_) (fun h5 => ?_)
  · replace hP := zE_p hP h5
    exact zlR hP (show (0 : Int32) = i3 0 from rfl) ⟨by omega, by omega, by omega⟩
  · replace hP := zE_n hP h5
    refine wz_i0 (i3O (n := 4400) (i3A (i3A (show (200 : Int32) = i3 200 from rfl) (i3M (show (20 : Int32) = i3 20 from rfl) (rfl : i3 a2 = i3 a2))) (show (4 : Int32) = i3 4 from rfl)) (by omega) (by omega) (by omega)) ?_
    refine wz_br (i3Le (zm_rd (Z := Z) (ν := ν) (k := 2) (show ((0 : Nat) : Int) = 0 from rfl) (show ((0 : Nat) : Int) = 0 from rfl) (i3I (y := (204 + 20 * a2)) (i3A (i3A (show (200 : Int32) = i3 200 from rfl) (i3M (show (20 : Int32) = i3 20 from rfl) (rfl : i3 a2 = i3 a2))) (show (4 : Int32) = i3 4 from rfl)) (by omega) (by omega) (by omega))) (show (0 : Int32) = i3 0 from rfl) (by omega) (by omega) (by omega) (by omega)) (fun h6 => ?_) (fun h6 => ?_)
    · replace hP := zE_p hP h6
      exact zlR hP (show (0 : Int32) = i3 0 from rfl) ⟨by omega, by omega, by omega⟩
    · replace hP := zE_n hP h6
      refine wz_i0 (i3O (n := 4400) (i3A (i3A (show (200 : Int32) = i3 200 from rfl) (i3M (show (20 : Int32) = i3 20 from rfl) (rfl : i3 a2 = i3 a2))) (show (1 : Int32) = i3 1 from rfl)) (by omega) (by omega) (by omega)) ?_
      refine wz_i0 (i3O (n := 4400) (i3A (i3A (show (1510 : Int32) = i3 1510 from rfl) (i3M (show (12 : Int32) = i3 12 from rfl) (rfl : i3 a1 = i3 a1))) (show (1 : Int32) = i3 1 from rfl)) (by omega) (by omega) (by omega)) ?_
      have r7 := zM_k hZ 2 0 0 (201 + 20 * a2) (lo := 0) (hi := 4) (by decide) (zs_200_1 (x := a2) (by omega) (by omega) (by omega))
      have r8 := zM_k hZ 2 0 0 (1511 + 12 * a1) (lo := 0) (hi := 4) (by decide) (zs_1510_1 (x := a1) (by omega) (by omega) (by omega))
      refine wz_br (i3NE (zm_rd (Z := Z) (ν := ν) (k := 2) (show ((0 : Nat) : Int) = 0 from rfl) (show ((0 : Nat) : Int) = 0 from rfl) (i3I (y := (201 + 20 * a2)) (i3A (i3A (show (200 : Int32) = i3 200 from rfl) (i3M (show (20 : Int32) = i3 20 from rfl) (rfl : i3 a2 = i3 a2))) (show (1 : Int32) = i3 1 from rfl)) (by omega) (by omega) (by omega))) (zm_rd (Z := Z) (ν := ν) (k := 2) (show ((0 : Nat) : Int) = 0 from rfl) (show ((0 : Nat) : Int) = 0 from rfl) (i3I (y := (1511 + 12 * a1)) (i3A (i3A (show (1510 : Int32) = i3 1510 from rfl) (i3M (show (12 : Int32) = i3 12 from rfl) (rfl : i3 a1 = i3 a1))) (show (1 : Int32) = i3 1 from rfl)) (by omega) (by omega) (by omega))) (by omega) (by omega) (by omega) (by omega)) (fun h9 => ?_) (fun h9 => ?_)
      · replace hP := zE_p hP h9
        exact zlR hP (show (0 : Int32) = i3 0 from rfl) ⟨by omega, by omega, by omega⟩
      · replace hP := zE_n hP h9
        refine wz_i0 (i3O (n := 4400) (i3A (i3A (show (200 : Int32) = i3 200 from rfl) (i3M (show (20 : Int32) = i3 20 from rfl) (rfl : i3 a2 = i3 a2))) (show (9 : Int32) = i3 9 from rfl)) (by omega) (by omega) (by omega)) ?_
        have r10 := zM_k hZ 2 0 0 (209 + 20 * a2) (lo := -1) (hi := 3) (by decide) (zs_200_9 (x := a2) (by omega) (by omega) (by omega))
        refine wz_br (i3E (zm_rd (Z := Z) (ν := ν) (k := 2) (show ((0 : Nat) : Int) = 0 from rfl) (show ((0 : Nat) : Int) = 0 from rfl) (i3I (y := (209 + 20 * a2)) (i3A (i3A (show (200 : Int32) = i3 200 from rfl) (i3M (show (20 : Int32) = i3 20 from rfl) (rfl : i3 a2 = i3 a2))) (show (9 : Int32) = i3 9 from rfl)) (by omega) (by omega) (by omega))) (show (-1 : Int32) = i3 (-1) from rfl) (by omega) (by omega) (by omega) (by omega)) (fun h11 => ?_) (fun h11 => ?_)
        · replace hP := zE_p hP h11
          exact zlR hP (show (0 : Int32) = i3 0 from rfl) ⟨by omega, by omega, by omega⟩
        · replace hP := zE_n hP h11
          refine wz_i0 (i3O (n := 4400) (i3A (i3A (show (200 : Int32) = i3 200 from rfl) (i3M (show (20 : Int32) = i3 20 from rfl) (rfl : i3 a2 = i3 a2))) (show (9 : Int32) = i3 9 from rfl)) (by omega) (by omega) (by omega)) ?_
          refine wz_i0 (i3O (n := 4400) (i3A (i3A (show (1510 : Int32) = i3 1510 from rfl) (i3M (show (12 : Int32) = i3 12 from rfl) (rfl : i3 a1 = i3 a1))) (show (2 : Int32) = i3 2 from rfl)) (by omega) (by omega) (by omega)) ?_
          have r12 := zM_k hZ 2 0 0 (1512 + 12 * a1) (lo := 0) (hi := 3) (by decide) (zs_1510_2 (x := a1) (by omega) (by omega) (by omega))
          refine wz_br (i3L (zm_rd (Z := Z) (ν := ν) (k := 2) (show ((0 : Nat) : Int) = 0 from rfl) (show ((0 : Nat) : Int) = 0 from rfl) (i3I (y := (1512 + 12 * a1)) (i3A (i3A (show (1510 : Int32) = i3 1510 from rfl) (i3M (show (12 : Int32) = i3 12 from rfl) (rfl : i3 a1 = i3 a1))) (show (2 : Int32) = i3 2 from rfl)) (by omega) (by omega) (by omega))) (zm_rd (Z := Z) (ν := ν) (k := 2) (show ((0 : Nat) : Int) = 0 from rfl) (show ((0 : Nat) : Int) = 0 from rfl) (i3I (y := (209 + 20 * a2)) (i3A (i3A (show (200 : Int32) = i3 200 from rfl) (i3M (show (20 : Int32) = i3 20 from rfl) (rfl : i3 a2 = i3 a2))) (show (9 : Int32) = i3 9 from rfl)) (by omega) (by omega) (by omega))) (by omega) (by omega) (by omega) (by omega)) (fun h13 => ?_) (fun h13 => ?_)
          · replace hP := zE_p hP h13
            exact zlR hP (show (0 : Int32) = i3 0 from rfl) ⟨by omega, by omega, by omega⟩
          · replace hP := zE_n hP h13
            exact zlR hP (show (1 : Int32) = i3 1 from rfl) ⟨by omega, by omega, by omega⟩
/- yX12_bUnpaid -/
def zl_289_1 (x1 : Int) : Nat → qz_Z → Int → Int → Int × Int
  | 0, Z, x2, x3 => (x2, x3)
  | m + 1, Z, x2, x3 => (if (Z 2 0 0 2000) ≤ x3 then (x2, x3) else (if (Z 2 0 0 (2011 + 16 * x3)) ≠ x1 then zl_289_1 x1 m Z (x2 + 0) (x3 + 1) else zl_289_1 x1 m Z (w3 (x2 + (Z 2 0 0 (1810 + 2 * x3)))) (x3 + 1)))
theorem sl_289_1 {s : zSM} {Z : qz_Z} {ν : qz_N} (hZ : zM s Z) (hM : s.2 + 0 ≤ 1000000000) {x1 : Int} (gx1 : 0 ≤ x1 ∧ x1 ≤ 7) {x2 : Int} (gx2 : -2147483648 ≤ x2 ∧ x2 ≤ 2147483647) {x3 : Int} (gx3 : 0 ≤ x3 ∧ x3 ≤ 60) {k : wz_K} {R : wz_R} {L : qz_L} (hL : qz_fg [true, true, true, true] L = [some (.inr (.inr (some (1, 0, 0)))), some (.inl (i3 x1)), some (.inl (i3 x2)), some (.inl (i3 x3))]) {T : Int × Int} (hP : zE T (zl_289_1 x1 ((60 - x3).toNat + 1) Z x2 x3)) (hk : ∀ (L9 : qz_L) (yx2 yx3 : Int), qz_fg [false, false, true, false] L9 = [none, none, some (.inl (i3 yx2)), none] → (-2147483648 ≤ yx2 ∧ yx2 ≤ 2147483647) → (0 ≤ yx3 ∧ yx3 ≤ 60) → zE T ((yx2, yx3)) → k 0 (L9, [], zm Z ν)) : wz_loop qb_289_1 65536 k R (L, [], zm Z ν) := by
  refine wz_lp sb_289_1 (fun m x => ∃ x2 : Int, ∃ x3 : Int, qz_fg [true, true, true, true] x.1 = [some (.inr (.inr (some (1, 0, 0)))), some (.inl (i3 x1)), some (.inl (i3 x2)), some (.inl (i3 x3))] ∧ x.2 = ([], zm Z ν) ∧ m = (60 - x3).toNat ∧ (-2147483648 ≤ x2 ∧ x2 ≤ 2147483647) ∧ (0 ≤ x3 ∧ x3 ≤ 60) ∧ zE T (zl_289_1 x1 (m + 1) Z x2 x3)) ?_ 65536 ((60 - x3).toNat) _ (by omega) ⟨x2, x3, hL, rfl, rfl, gx2, gx3, hP⟩
  clear hP gx2 gx3 hL
  clear x2 x3
  rintro m ⟨L, st, μ⟩ ⟨x2, x3, hL, hx, hm, gx2, gx3, hP⟩
  cases hx
  refine fb_289_1 (i3 x1) (i3 x2) (i3 x3) _ _ _ _ hL ?_
  have r1 := zM_k hZ 2 0 0 2000 (lo := 0) (hi := 60) (by decide) rfl
  refine wz_br (i3Le (zm_rd (Z := Z) (ν := ν) (k := 2) (show ((0 : Nat) : Int) = 0 from rfl) (show ((0 : Nat) : Int) = 0 from rfl) (show ((2000 : Nat) : Int) = 2000 from rfl)) (rfl : i3 x3 = i3 x3) (by omega) (by omega) (by omega) (by omega)) (fun h2 => ?_) (fun h2 => ?_)
  · replace hP := zE_p hP h2
    exact hk _ _ _ (zconso rfl (zconso rfl (zconso (zvo (rfl : i3 x2 = i3 x2)) (zconso rfl rfl))))  (by omega) (by omega)  hP
  · replace hP := zE_n hP h2
    refine wz_i0 (i3O (n := 4400) (i3A (i3A (show (2010 : Int32) = i3 2010 from rfl) (i3M (show (16 : Int32) = i3 16 from rfl) (rfl : i3 x3 = i3 x3))) (show (1 : Int32) = i3 1 from rfl)) (by omega) (by omega) (by omega)) ?_
    have r3 := zM_k hZ 2 0 0 (2011 + 16 * x3) (lo := 0) (hi := 7) (by decide) (zs_2010_1 (x := x3) (by omega) (by omega) (by omega))
    refine wz_br (i3NE (zm_rd (Z := Z) (ν := ν) (k := 2) (show ((0 : Nat) : Int) = 0 from rfl) (show ((0 : Nat) : Int) = 0 from rfl) (i3I (y := (2011 + 16 * x3)) (i3A (i3A (show (2010 : Int32) = i3 2010 from rfl) (i3M (show (16 : Int32) = i3 16 from rfl) (rfl : i3 x3 = i3 x3))) (show (1 : Int32) = i3 1 from rfl)) (by omega) (by omega) (by omega))) (rfl : i3 x1 = i3 x1) (by omega) (by omega) (by omega) (by omega)) (fun h4 => ?_) (fun h4 => ?_)
    · replace hP := zE_p hP h4
      obtain ⟨m2, rfl⟩ : ∃ m2, m = m2 + 1 := ⟨m - 1, by omega⟩
      exact wz_k1 ⟨m2, by omega, (x2 + 0), (x3 + 1), (zconso rfl (zconso (zvo (rfl : i3 x1 = i3 x1)) (zconso (zvo (i3A (rfl : i3 x2 = i3 x2) (show (0 : Int32) = i3 0 from rfl))) (zconso (zvo (i3A (rfl : i3 x3 = i3 x3) (show (1 : Int32) = i3 1 from rfl))) rfl)))), rfl,  by omega, by omega, by omega,  hP⟩
    · replace hP := zE_n hP h4
      refine wz_i0 (i3O (n := 4400) (i3A (show (1810 : Int32) = i3 1810 from rfl) (i3M (show (2 : Int32) = i3 2 from rfl) (rfl : i3 x3 = i3 x3))) (by omega) (by omega) (by omega)) ?_
      have r5 := zM_f hZ 2 0 0 (1810 + 2 * x3)
      have r6 := w3_r (x2 + (Z 2 0 0 (1810 + 2 * x3)))
      obtain ⟨m2, rfl⟩ : ∃ m2, m = m2 + 1 := ⟨m - 1, by omega⟩
      exact wz_k1 ⟨m2, by omega, (w3 (x2 + (Z 2 0 0 (1810 + 2 * x3)))), (x3 + 1), (zconso rfl (zconso (zvo (rfl : i3 x1 = i3 x1)) (zconso (zvo (i3W (i3A (rfl : i3 x2 = i3 x2) (zm_rd (Z := Z) (ν := ν) (k := 2) (show ((0 : Nat) : Int) = 0 from rfl) (show ((0 : Nat) : Int) = 0 from rfl) (i3I (y := (1810 + 2 * x3)) (i3A (show (1810 : Int32) = i3 1810 from rfl) (i3M (show (2 : Int32) = i3 2 from rfl) (rfl : i3 x3 = i3 x3))) (by omega) (by omega) (by omega)))))) (zconso (zvo (i3A (rfl : i3 x3 = i3 x3) (show (1 : Int32) = i3 1 from rfl))) rfl)))), rfl,  by omega, by omega, by omega,  hP⟩
/- yX12_bUnpaid -/
def zf_289 (Z : qz_Z) (a1 : Int) : Int := (zlet2 (zl_289_1 a1 61 Z 0 0) (fun y1 y2 => y1))
theorem sp_289 {s : zSM} {Z : qz_Z} {ν : qz_N} (hZ : zM s Z) {a1 : Int} (ga1 : 0 ≤ a1 ∧ a1 ≤ 7) (hM : s.2 + 0 ≤ 1000000000) : ∃ P : Int, P = zf_289 Z a1 ∧ (qf_289 [.inr (.inr (some (1, 0, 0))), .inl (i3 a1)] (zm Z ν) = some (zm Z ν, .inl (some (.inl (i3 P)))) ∧ -2147483648 ≤ P ∧ P ≤ 2147483647) := by
  obtain ⟨P, hP⟩ := zx (zf_289 Z a1)
  refine zc_R (Q := fun P => -2147483648 ≤ P ∧ P ≤ 2147483647) hP (fw_289 (i3 a1) _ _ ?_)
  replace hP : zE P (zf_289 Z a1) := hP
  unfold zf_289 at hP
  refine sl_289_1 (ν := ν) hZ (zbh (c := 0) (k := 0) hM (Nat.le_of_ble_eq_true rfl)) (x1 := a1) (by omega) (x2 := 0) (by omega) (x3 := 0) (by omega)  (zconso rfl (zconso (zvo (rfl : i3 a1 = i3 a1)) (zconso (zvo (show (0 : Int32) = i3 0 from rfl)) (zconso (zvo (show (0 : Int32) = i3 0 from rfl)) rfl)))) rfl ?_
  intro L3 y1 y2 hL3 gy1 gy2 q9
  replace hP := zl_e2 hP (Eq.symm q9)
  clear q9
  refine fc_289_2 (i3 y1) _ _ _ _ hL3 ?_
  exact zlR hP (rfl : i3 y1 = i3 y1) ⟨by omega, by omega⟩
/- y by hand: what a buyer has left -/
def zrs (Z : qz_Z) (b : Int) : Int := w3 (w3 (Z 2 0 0 (1411 + 12 * b) + Z 2 0 0 (1413 + 12 * b)) - zf_289 Z b)
theorem zrs_e {Z : qz_Z} {b v : Int} (h : v = zf_289 Z b) : w3 (w3 (Z 2 0 0 (1411 + 12 * b) + Z 2 0 0 (1413 + 12 * b)) - v) = zrs Z b := by
  rw [h]
  rfl
/- yX12_bTaker -/
def zl_286_1 (x1 : Int) (x2 : Int) : Nat → qz_Z → Int → Int → Int × Int
  | 0, Z, x3, x4 => (x3, x4)
  | m + 1, Z, x3, x4 => (if (Z 2 0 0 1401) ≤ x4 then (x3, x4) else (if 60 ≤ (Z 2 0 0 2000) then (x3, x4) else (zlet (zf_270 Z x4 x1) (fun v8 => (if v8 = 0 then zl_286_1 x1 x2 m Z x3 (x4 + 1) else (zlet (zf_260 Z x4) (fun v14 => (if v14 = 0 then zl_286_1 x1 x2 m Z x3 (x4 + 1) else (if (Z 2 0 0 (1514 + 12 * x4)) < x2 then zl_286_1 x1 x2 m Z x3 (x4 + 1) else (zlet (zf_289 Z (Z 2 0 0 (1510 + 12 * x4))) (fun v21 => (if (w3 ((w3 ((Z 2 0 0 (1411 + 12 * (Z 2 0 0 (1510 + 12 * x4)))) + (Z 2 0 0 (1413 + 12 * (Z 2 0 0 (1510 + 12 * x4)))))) - v21)) < x2 then zl_286_1 x1 x2 m Z x3 (x4 + 1) else (if x3 = (-1) then zl_286_1 x1 x2 m Z x4 (x4 + 1) else (if (Z 2 0 0 (1514 + 12 * x4)) ≤ (Z 2 0 0 (1514 + 12 * x3)) then zl_286_1 x1 x2 m Z x3 (x4 + 1) else zl_286_1 x1 x2 m Z x4 (x4 + 1)))))))))))))))
theorem sl_286_1 {s : zSM} {Z : qz_Z} {ν : qz_N} (hZ : zM s Z) (hM : s.2 + 0 ≤ 1000000000) {x1 : Int} (gx1 : 0 ≤ x1 ∧ x1 ≤ 47) {x2 : Int} (gx2 : 1 ≤ x2 ∧ x2 ≤ 9999) {x3 : Int} (gx3 : -1 ≤ x3 ∧ x3 ≤ 23) {x4 : Int} (gx4 : 0 ≤ x4 ∧ x4 ≤ 24) (gr0 : x3 = -1 ∨ (x2 ≤ zrs Z (Z 2 0 0 (1510 + 12 * x3)) ∧ Z 2 0 0 2000 ≤ 59 ∧ 1 ≤ Z 2 0 0 (1516 + 12 * x3) ∧ 1 ≤ Z 2 0 0 (204 + 20 * x1))) {k : wz_K} {R : wz_R} {L : qz_L} (hL : qz_fg [true, true, true, true, true, false] L = [some (.inr (.inr (some (1, 0, 0)))), some (.inl (i3 x1)), some (.inl (i3 x2)), some (.inl (i3 x3)), some (.inl (i3 x4)), none]) {T : Int × Int} (hP : zE T (zl_286_1 x1 x2 ((24 - x4).toNat + 1) Z x3 x4)) (hk : ∀ (L9 : qz_L) (yx3 yx4 : Int), qz_fg [false, false, false, true, false, false] L9 = [none, none, none, some (.inl (i3 yx3)), none, none] → (-1 ≤ yx3 ∧ yx3 ≤ 23) → (0 ≤ yx4 ∧ yx4 ≤ 24) → (yx3 = -1 ∨ (x2 ≤ zrs Z (Z 2 0 0 (1510 + 12 * yx3)) ∧ Z 2 0 0 2000 ≤ 59 ∧ 1 ≤ Z 2 0 0 (1516 + 12 * yx3) ∧ 1 ≤ Z 2 0 0 (204 + 20 * x1))) → zE T ((yx3, yx4)) → k 0 (L9, [], zm Z ν)) : wz_loop qb_286_1 65536 k R (L, [], zm Z ν) := by
  refine wz_lp sb_286_1 (fun m x => ∃ x3 : Int, ∃ x4 : Int, qz_fg [true, true, true, true, true, false] x.1 = [some (.inr (.inr (some (1, 0, 0)))), some (.inl (i3 x1)), some (.inl (i3 x2)), some (.inl (i3 x3)), some (.inl (i3 x4)), none] ∧ x.2 = ([], zm Z ν) ∧ m = (24 - x4).toNat ∧ (-1 ≤ x3 ∧ x3 ≤ 23) ∧ (0 ≤ x4 ∧ x4 ≤ 24) ∧ (x3 = -1 ∨ (x2 ≤ zrs Z (Z 2 0 0 (1510 + 12 * x3)) ∧ Z 2 0 0 2000 ≤ 59 ∧ 1 ≤ Z 2 0 0 (1516 + 12 * x3) ∧ 1 ≤ Z 2 0 0 (204 + 20 * x1))) ∧ zE T (zl_286_1 x1 x2 (m + 1) Z x3 x4)) ?_ 65536 ((24 - x4).toNat) _ (by omega) ⟨x3, x4, hL, rfl, rfl, gx3, gx4, gr0, hP⟩
  clear hP gr0 gx3 gx4 hL
  clear x3 x4
  rintro m ⟨L, st, μ⟩ ⟨x3, x4, hL, hx, hm, gx3, gx4, gr0, hP⟩
  cases hx
  refine fb_286_1 (i3 x1) (i3 x2) (i3 x3) (i3 x4) _ _ _ _ hL ?_
  have r1 := zM_f hZ 2 0 0 (1510 + 12 * x3)
  have r2 := zM_k hZ 2 0 0 2000 (lo := 0) (hi := 60) (by decide) rfl
  have r3 := zM_f hZ 2 0 0 (1516 + 12 * x3)
  have r4 := zM_k hZ 2 0 0 (204 + 20 * x1) (lo := 0) (hi := 40) (by decide) (zs_200_4 (x := x1) (by omega) (by omega) (by omega))
  have r5 := zM_k hZ 2 0 0 1401 (lo := 0) (hi := 24) (by decide) rfl
  refine wz_br (i3Le (zm_rd (Z := Z) (ν := ν) (k := 2) (show ((0 : Nat) : Int) = 0 from rfl) (show ((0 : Nat) : Int) = 0 from rfl) (show ((1401 : Nat) : Int) = 1401 from rfl)) (rfl : i3 x4 = i3 x4) (by omega) (by omega) (by omega) (by omega)) (fun h6 => ?_) (fun h6 => ?_)
  · replace hP := zE_p hP h6
    exact hk _ _ _ (zconso rfl (zconso rfl (zconso rfl (zconso (zvo (rfl : i3 x3 = i3 x3)) (zconso rfl (zconso rfl rfl))))))  (by omega) (by omega) (by omega) hP
  · replace hP := zE_n hP h6
    refine wz_br (i3Le (show (60 : Int32) = i3 60 from rfl) (zm_rd (Z := Z) (ν := ν) (k := 2) (show ((0 : Nat) : Int) = 0 from rfl) (show ((0 : Nat) : Int) = 0 from rfl) (show ((2000 : Nat) : Int) = 2000 from rfl)) (by omega) (by omega) (by omega) (by omega)) (fun h7 => ?_) (fun h7 => ?_)
    · replace hP := zE_p hP h7
      exact hk _ _ _ (zconso rfl (zconso rfl (zconso rfl (zconso (zvo (rfl : i3 x3 = i3 x3)) (zconso rfl (zconso rfl rfl))))))  (by omega) (by omega) (by omega) hP
    · replace hP := zE_n hP h7
      obtain ⟨v8, hv8, c9, lv8, uv8, wv80⟩ := sp_270 (ν := ν) hZ (a1 := x4) (by omega) (a2 := x1) (by omega) (zbh (c := 0) (k := 0) hM (Nat.le_of_ble_eq_true rfl))
      replace hP := zl_e hP hv8
      refine wz_cI_of (zas (zcons rfl (zcons (zvi (rfl : i3 x4 = i3 x4)) (zcons (zvi (rfl : i3 x1 = i3 x1)) rfl))) c9) ?_
      clear c9
      have r9 := zM_k hZ 2 0 0 (210 + 20 * x1) (lo := 0) (hi := 4) (by decide) (zs_200_10 (x := x1) (by omega) (by omega) (by omega))
      have r10 := zM_pl hZ x1
      have r11 := zM_k hZ 2 0 0 102 (lo := 0) (hi := 48) (by decide) rfl
      have w12 : v8 = 0 ∨ (1 ≤ Z 2 0 0 (204 + 20 * x1) ∧ Z 2 0 0 (210 + 20 * x1) ≤ 1) := wv80
      refine wz_br (i3E (rfl : i3 v8 = i3 v8) (show (0 : Int32) = i3 0 from rfl) (by omega) (by omega) (by omega) (by omega)) (fun h13 => ?_) (fun h13 => ?_)
      · replace hP := zE_p hP h13
        obtain ⟨m2, rfl⟩ : ∃ m2, m = m2 + 1 := ⟨m - 1, by omega⟩
        exact wz_k1 ⟨m2, by omega, x3, (x4 + 1), (zconso rfl (zconso (zvo (rfl : i3 x1 = i3 x1)) (zconso (zvo (rfl : i3 x2 = i3 x2)) (zconso (zvo (rfl : i3 x3 = i3 x3)) (zconso (zvo (i3A (rfl : i3 x4 = i3 x4) (show (1 : Int32) = i3 1 from rfl))) (zconso rfl rfl)))))), rfl,  by omega, by omega, by omega, by omega,  hP⟩
      · replace hP := zE_n hP h13
        obtain ⟨v14, hv14, c9, lv14, uv14, wv140⟩ := sp_260 (ν := ν) hZ (a1 := x4) (by omega) (zbh (c := 0) (k := 0) hM (Nat.le_of_ble_eq_true rfl))
        replace hP := zl_e hP hv14
        refine wz_cI_of (zas (zcons rfl (zcons (zvi (rfl : i3 x4 = i3 x4)) rfl)) c9) ?_
        clear c9
        have r15 := zM_k hZ 2 0 0 (1516 + 12 * x4) (lo := 0) (hi := 99) (by decide) (zs_1510_6 (x := x4) (by omega) (by omega) (by omega))
        have w16 : v14 = 0 ∨ 1 ≤ Z 2 0 0 (1516 + 12 * x4) := wv140
        refine wz_br (i3E (rfl : i3 v14 = i3 v14) (show (0 : Int32) = i3 0 from rfl) (by omega) (by omega) (by omega) (by omega)) (fun h17 => ?_) (fun h17 => ?_)
        · replace hP := zE_p hP h17
          obtain ⟨m2, rfl⟩ : ∃ m2, m = m2 + 1 := ⟨m - 1, by omega⟩
          exact wz_k1 ⟨m2, by omega, x3, (x4 + 1), (zconso rfl (zconso (zvo (rfl : i3 x1 = i3 x1)) (zconso (zvo (rfl : i3 x2 = i3 x2)) (zconso (zvo (rfl : i3 x3 = i3 x3)) (zconso (zvo (i3A (rfl : i3 x4 = i3 x4) (show (1 : Int32) = i3 1 from rfl))) (zconso rfl rfl)))))), rfl,  by omega, by omega, by omega, by omega,  hP⟩
        · replace hP := zE_n hP h17
          refine wz_i0 (i3O (n := 4400) (i3A (i3A (show (1510 : Int32) = i3 1510 from rfl) (i3M (show (12 : Int32) = i3 12 from rfl) (rfl : i3 x4 = i3 x4))) (show (4 : Int32) = i3 4 from rfl)) (by omega) (by omega) (by omega)) ?_
          have r18 := zM_k hZ 2 0 0 (1514 + 12 * x4) (lo := 0) (hi := 9999) (by decide) (zs_1510_4 (x := x4) (by omega) (by omega) (by omega))
          refine wz_br (i3L (zm_rd (Z := Z) (ν := ν) (k := 2) (show ((0 : Nat) : Int) = 0 from rfl) (show ((0 : Nat) : Int) = 0 from rfl) (i3I (y := (1514 + 12 * x4)) (i3A (i3A (show (1510 : Int32) = i3 1510 from rfl) (i3M (show (12 : Int32) = i3 12 from rfl) (rfl : i3 x4 = i3 x4))) (show (4 : Int32) = i3 4 from rfl)) (by omega) (by omega) (by omega))) (rfl : i3 x2 = i3 x2) (by omega) (by omega) (by omega) (by omega)) (fun h19 => ?_) (fun h19 => ?_)
          · replace hP := zE_p hP h19
            obtain ⟨m2, rfl⟩ : ∃ m2, m = m2 + 1 := ⟨m - 1, by omega⟩
            exact wz_k1 ⟨m2, by omega, x3, (x4 + 1), (zconso rfl (zconso (zvo (rfl : i3 x1 = i3 x1)) (zconso (zvo (rfl : i3 x2 = i3 x2)) (zconso (zvo (rfl : i3 x3 = i3 x3)) (zconso (zvo (i3A (rfl : i3 x4 = i3 x4) (show (1 : Int32) = i3 1 from rfl))) (zconso rfl rfl)))))), rfl,  by omega, by omega, by omega, by omega,  hP⟩
          · replace hP := zE_n hP h19
            refine wz_i0 (i3O (n := 4400) (i3A (i3A (show (1510 : Int32) = i3 1510 from rfl) (i3M (show (12 : Int32) = i3 12 from rfl) (rfl : i3 x4 = i3 x4))) (show (0 : Int32) = i3 0 from rfl)) (by omega) (by omega) (by omega)) ?_
            have r20 := zM_k hZ 2 0 0 (1510 + 12 * x4) (lo := 0) (hi := 7) (by decide) (zs_1510_0 (x := x4) (by omega) (by omega) (by omega))
            refine wz_i0 (i3O (n := 4400) (i3A (i3A (show (1410 : Int32) = i3 1410 from rfl) (i3M (show (12 : Int32) = i3 12 from rfl) (zm_rd (Z := Z) (ν := ν) (k := 2) (show ((0 : Nat) : Int) = 0 from rfl) (show ((0 : Nat) : Int) = 0 from rfl) (i3I (y := (1510 + 12 * x4)) (i3A (i3A (show (1510 : Int32) = i3 1510 from rfl) (i3M (show (12 : Int32) = i3 12 from rfl) (rfl : i3 x4 = i3 x4))) (show (0 : Int32) = i3 0 from rfl)) (by omega) (by omega) (by omega))))) (show (1 : Int32) = i3 1 from rfl)) (by omega) (by omega) (by omega)) ?_
            refine wz_i0 (i3O (n := 4400) (i3A (i3A (show (1410 : Int32) = i3 1410 from rfl) (i3M (show (12 : Int32) = i3 12 from rfl) (zm_rd (Z := Z) (ν := ν) (k := 2) (show ((0 : Nat) : Int) = 0 from rfl) (show ((0 : Nat) : Int) = 0 from rfl) (i3I (y := (1510 + 12 * x4)) (i3A (i3A (show (1510 : Int32) = i3 1510 from rfl) (i3M (show (12 : Int32) = i3 12 from rfl) (rfl : i3 x4 = i3 x4))) (show (0 : Int32) = i3 0 from rfl)) (by omega) (by omega) (by omega))))) (show (3 : Int32) = i3 3 from rfl)) (by omega) (by omega) (by omega)) ?_
            obtain ⟨v21, hv21, c9, lv21, uv21⟩ := sp_289 (ν := ν) hZ (a1 := (Z 2 0 0 (1510 + 12 * x4))) (by omega) (zbh (c := 0) (k := 0) hM (Nat.le_of_ble_eq_true rfl))
            replace hP := zl_e hP hv21
            refine wz_cI_of (zas (zcons rfl (zcons (zvi (zm_rd (Z := Z) (ν := ν) (k := 2) (show ((0 : Nat) : Int) = 0 from rfl) (show ((0 : Nat) : Int) = 0 from rfl) (i3I (y := (1510 + 12 * x4)) (i3A (i3A (show (1510 : Int32) = i3 1510 from rfl) (i3M (show (12 : Int32) = i3 12 from rfl) (rfl : i3 x4 = i3 x4))) (show (0 : Int32) = i3 0 from rfl)) (by omega) (by omega) (by omega)))) rfl)) c9) ?_
            clear c9
            have r22 := zrs_e hv21
            have r23 := zM_k hZ 2 0 0 (1411 + 12 * (Z 2 0 0 (1510 + 12 * x4))) (lo := 0) (hi := 9999999) (by decide) (zs_1410_1 (x := (Z 2 0 0 (1510 + 12 * x4))) (by omega) (by omega) (by omega))
            have r24 := zM_f hZ 2 0 0 (1413 + 12 * (Z 2 0 0 (1510 + 12 * x4)))
            have r25 := w3_r ((Z 2 0 0 (1411 + 12 * (Z 2 0 0 (1510 + 12 * x4)))) + (Z 2 0 0 (1413 + 12 * (Z 2 0 0 (1510 + 12 * x4)))))
            have r26 := w3_r ((w3 ((Z 2 0 0 (1411 + 12 * (Z 2 0 0 (1510 + 12 * x4)))) + (Z 2 0 0 (1413 + 12 * (Z 2 0 0 (1510 + 12 * x4)))))) - v21)
            refine wz_br (i3L (i3W (i3S (i3W (i3A (zm_rd (Z := Z) (ν := ν) (k := 2) (show ((0 : Nat) : Int) = 0 from rfl) (show ((0 : Nat) : Int) = 0 from rfl) (i3I (y := (1411 + 12 * (Z 2 0 0 (1510 + 12 * x4)))) (i3A (i3A (show (1410 : Int32) = i3 1410 from rfl) (i3M (show (12 : Int32) = i3 12 from rfl) (zm_rd (Z := Z) (ν := ν) (k := 2) (show ((0 : Nat) : Int) = 0 from rfl) (show ((0 : Nat) : Int) = 0 from rfl) (i3I (y := (1510 + 12 * x4)) (i3A (i3A (show (1510 : Int32) = i3 1510 from rfl) (i3M (show (12 : Int32) = i3 12 from rfl) (rfl : i3 x4 = i3 x4))) (show (0 : Int32) = i3 0 from rfl)) (by omega) (by omega) (by omega))))) (show (1 : Int32) = i3 1 from rfl)) (by omega) (by omega) (by omega))) (zm_rd (Z := Z) (ν := ν) (k := 2) (show ((0 : Nat) : Int) = 0 from rfl) (show ((0 : Nat) : Int) = 0 from rfl) (i3I (y := (1413 + 12 * (Z 2 0 0 (1510 + 12 * x4)))) (i3A (i3A (show (1410 : Int32) = i3 1410 from rfl) (i3M (show (12 : Int32) = i3 12 from rfl) (zm_rd (Z := Z) (ν := ν) (k := 2) (show ((0 : Nat) : Int) = 0 from rfl) (show ((0 : Nat) : Int) = 0 from rfl) (i3I (y := (1510 + 12 * x4)) (i3A (i3A (show (1510 : Int32) = i3 1510 from rfl) (i3M (show (12 : Int32) = i3 12 from rfl) (rfl : i3 x4 = i3 x4))) (show (0 : Int32) = i3 0 from rfl)) (by omega) (by omega) (by omega))))) (show (3 : Int32) = i3 3 from rfl)) (by omega) (by omega) (by omega))))) (rfl : i3 v21 = i3 v21))) (rfl : i3 x2 = i3 x2) (by omega) (by omega) (by omega) (by omega)) (fun h27 => ?_) (fun h27 => ?_)
            · replace hP := zE_p hP h27
              obtain ⟨m2, rfl⟩ : ∃ m2, m = m2 + 1 := ⟨m - 1, by omega⟩
              exact wz_k1 ⟨m2, by omega, x3, (x4 + 1), (zconso rfl (zconso (zvo (rfl : i3 x1 = i3 x1)) (zconso (zvo (rfl : i3 x2 = i3 x2)) (zconso (zvo (rfl : i3 x3 = i3 x3)) (zconso (zvo (i3A (rfl : i3 x4 = i3 x4) (show (1 : Int32) = i3 1 from rfl))) (zconso rfl rfl)))))), rfl,  by omega, by omega, by omega, by omega,  hP⟩
            · replace hP := zE_n hP h27
              refine wz_br (i3E (rfl : i3 x3 = i3 x3) (show (-1 : Int32) = i3 (-1) from rfl) (by omega) (by omega) (by omega) (by omega)) (fun h28 => ?_) (fun h28 => ?_)
              · replace hP := zE_p hP h28
                obtain ⟨m2, rfl⟩ : ∃ m2, m = m2 + 1 := ⟨m - 1, by omega⟩
                exact wz_k1 ⟨m2, by omega, x4, (x4 + 1), (zconso rfl (zconso (zvo (rfl : i3 x1 = i3 x1)) (zconso (zvo (rfl : i3 x2 = i3 x2)) (zconso (zvo (rfl : i3 x4 = i3 x4)) (zconso (zvo (i3A (rfl : i3 x4 = i3 x4) (show (1 : Int32) = i3 1 from rfl))) (zconso rfl rfl)))))), rfl,  by omega, by omega, by omega, by omega,  hP⟩
              · replace hP := zE_n hP h28
                refine wz_i0 (i3O (n := 4400) (i3A (i3A (show (1510 : Int32) = i3 1510 from rfl) (i3M (show (12 : Int32) = i3 12 from rfl) (rfl : i3 x4 = i3 x4))) (show (4 : Int32) = i3 4 from rfl)) (by omega) (by omega) (by omega)) ?_
                refine wz_i0 (i3O (n := 4400) (i3A (i3A (show (1510 : Int32) = i3 1510 from rfl) (i3M (show (12 : Int32) = i3 12 from rfl) (rfl : i3 x3 = i3 x3))) (show (4 : Int32) = i3 4 from rfl)) (by omega) (by omega) (by omega)) ?_
                have r29 := zM_k hZ 2 0 0 (1514 + 12 * x3) (lo := 0) (hi := 9999) (by decide) (zs_1510_4 (x := x3) (by omega) (by omega) (by omega))
                refine wz_br (i3Le (zm_rd (Z := Z) (ν := ν) (k := 2) (show ((0 : Nat) : Int) = 0 from rfl) (show ((0 : Nat) : Int) = 0 from rfl) (i3I (y := (1514 + 12 * x4)) (i3A (i3A (show (1510 : Int32) = i3 1510 from rfl) (i3M (show (12 : Int32) = i3 12 from rfl) (rfl : i3 x4 = i3 x4))) (show (4 : Int32) = i3 4 from rfl)) (by omega) (by omega) (by omega))) (zm_rd (Z := Z) (ν := ν) (k := 2) (show ((0 : Nat) : Int) = 0 from rfl) (show ((0 : Nat) : Int) = 0 from rfl) (i3I (y := (1514 + 12 * x3)) (i3A (i3A (show (1510 : Int32) = i3 1510 from rfl) (i3M (show (12 : Int32) = i3 12 from rfl) (rfl : i3 x3 = i3 x3))) (show (4 : Int32) = i3 4 from rfl)) (by omega) (by omega) (by omega))) (by omega) (by omega) (by omega) (by omega)) (fun h30 => ?_) (fun h30 => ?_)
                · replace hP := zE_p hP h30
                  have r31 := zM_k hZ 2 0 0 (1510 + 12 * x3) (lo := 0) (hi := 7) (by decide) (zs_1510_0 (x := x3) (by omega) (by omega) (by omega))
                  have r32 := zM_k hZ 2 0 0 (1516 + 12 * x3) (lo := 0) (hi := 99) (by decide) (zs_1510_6 (x := x3) (by omega) (by omega) (by omega))
                  obtain ⟨m2, rfl⟩ : ∃ m2, m = m2 + 1 := ⟨m - 1, by omega⟩
                  exact wz_k1 ⟨m2, by omega, x3, (x4 + 1), (zconso rfl (zconso (zvo (rfl : i3 x1 = i3 x1)) (zconso (zvo (rfl : i3 x2 = i3 x2)) (zconso (zvo (rfl : i3 x3 = i3 x3)) (zconso (zvo (i3A (rfl : i3 x4 = i3 x4) (show (1 : Int32) = i3 1 from rfl))) (zconso rfl rfl)))))), rfl,  by omega, by omega, by omega, by omega,  hP⟩
                · replace hP := zE_n hP h30
                  have r33 := zM_k hZ 2 0 0 (1510 + 12 * x3) (lo := 0) (hi := 7) (by decide) (zs_1510_0 (x := x3) (by omega) (by omega) (by omega))
                  have r34 := zM_k hZ 2 0 0 (1516 + 12 * x3) (lo := 0) (hi := 99) (by decide) (zs_1510_6 (x := x3) (by omega) (by omega) (by omega))
                  obtain ⟨m2, rfl⟩ : ∃ m2, m = m2 + 1 := ⟨m - 1, by omega⟩
                  exact wz_k1 ⟨m2, by omega, x4, (x4 + 1), (zconso rfl (zconso (zvo (rfl : i3 x1 = i3 x1)) (zconso (zvo (rfl : i3 x2 = i3 x2)) (zconso (zvo (rfl : i3 x4 = i3 x4)) (zconso (zvo (i3A (rfl : i3 x4 = i3 x4) (show (1 : Int32) = i3 1 from rfl))) (zconso rfl rfl)))))), rfl,  by omega, by omega, by omega, by omega,  hP⟩
/- yX12_bTaker -/
def zf_286 (Z : qz_Z) (a1 : Int) (a2 : Int) : Int := (zlet2 (zl_286_1 a1 a2 25 Z (-1) 0) (fun y3 y4 => y3))
theorem sp_286 {s : zSM} {Z : qz_Z} {ν : qz_N} (hZ : zM s Z) {a1 : Int} (ga1 : 0 ≤ a1 ∧ a1 ≤ 47) {a2 : Int} (ga2 : 1 ≤ a2 ∧ a2 ≤ 9999) (hM : s.2 + 0 ≤ 1000000000) : ∃ P : Int, P = zf_286 Z a1 a2 ∧ (qf_286 [.inr (.inr (some (1, 0, 0))), .inl (i3 a1), .inl (i3 a2)] (zm Z ν) = some (zm Z ν, .inl (some (.inl (i3 P)))) ∧ -1 ≤ P ∧ P ≤ 23 ∧ (P = -1 ∨ (a2 ≤ zrs Z (Z 2 0 0 (1510 + 12 * P)) ∧ Z 2 0 0 2000 ≤ 59 ∧ 1 ≤ Z 2 0 0 (1516 + 12 * P) ∧ 1 ≤ Z 2 0 0 (204 + 20 * a1)))) := by
  obtain ⟨P, hP⟩ := zx (zf_286 Z a1 a2)
  refine zc_R (Q := fun P => -1 ≤ P ∧ P ≤ 23 ∧ (P = -1 ∨ (a2 ≤ zrs Z (Z 2 0 0 (1510 + 12 * P)) ∧ Z 2 0 0 2000 ≤ 59 ∧ 1 ≤ Z 2 0 0 (1516 + 12 * P) ∧ 1 ≤ Z 2 0 0 (204 + 20 * a1)))) hP (fw_286 (i3 a1) (i3 a2) _ _ ?_)
  replace hP : zE P (zf_286 Z a1 a2) := hP
  unfold zf_286 at hP
  have r1 := zM_k hZ 2 0 0 2000 (lo := 0) (hi := 60) (by decide) rfl
  have r2 := zM_k hZ 2 0 0 (204 + 20 * a1) (lo := 0) (hi := 40) (by decide) (zs_200_4 (x := a1) (by omega) (by omega) (by omega))
  have r5 := zM_k hZ 2 0 0 1498 (lo := 0) (hi := 1) (by decide) rfl
  have r6 := zM_f hZ 2 0 0 1504
  refine sl_286_1 (ν := ν) hZ (zbh (c := 0) (k := 0) hM (Nat.le_of_ble_eq_true rfl)) (x1 := a1) (by omega) (x2 := a2) (by omega) (x3 := (-1)) (by omega) (x4 := 0) (by omega) (by omega) (zconso rfl (zconso (zvo (rfl : i3 a1 = i3 a1)) (zconso (zvo (rfl : i3 a2 = i3 a2)) (zconso (zvo (show (-1 : Int32) = i3 (-1) from rfl)) (zconso (zvo (show (0 : Int32) = i3 0 from rfl)) (zconso rfl rfl)))))) rfl ?_
  intro L7 y3 y4 hL7 gy3 gy4 gL7_0 q9
  replace hP := zl_e2 hP (Eq.symm q9)
  clear q9
  refine fc_286_2 (i3 y3) _ _ _ _ hL7 ?_
  exact zlR hP (rfl : i3 y3 = i3 y3) ⟨by omega, by omega, by omega⟩
/- yX12_bTakes -/
def zf_287 (Z : qz_Z) (a1 : Int) (a2 : Int) (a3 : Int) : Int := (zlet (zf_289 Z (Z 2 0 0 (1510 + 12 * a1))) (fun v4 => (if ((w3 ((w3 ((Z 2 0 0 (1411 + 12 * (Z 2 0 0 (1510 + 12 * a1)))) + (Z 2 0 0 (1413 + 12 * (Z 2 0 0 (1510 + 12 * a1)))))) - v4)) / a3) ≤ (Z 2 0 0 (1516 + 12 * a1)) then (if ((w3 ((w3 ((Z 2 0 0 (1411 + 12 * (Z 2 0 0 (1510 + 12 * a1)))) + (Z 2 0 0 (1413 + 12 * (Z 2 0 0 (1510 + 12 * a1)))))) - v4)) / a3) ≤ (Z 2 0 0 (204 + 20 * a2)) then ((w3 ((w3 ((Z 2 0 0 (1411 + 12 * (Z 2 0 0 (1510 + 12 * a1)))) + (Z 2 0 0 (1413 + 12 * (Z 2 0 0 (1510 + 12 * a1)))))) - v4)) / a3) else (Z 2 0 0 (204 + 20 * a2))) else (if (Z 2 0 0 (1516 + 12 * a1)) ≤ (Z 2 0 0 (204 + 20 * a2)) then (Z 2 0 0 (1516 + 12 * a1)) else (Z 2 0 0 (204 + 20 * a2))))))
theorem sp_287 {s : zSM} {Z : qz_Z} {ν : qz_N} (hZ : zM s Z) {a1 : Int} (ga1 : 0 ≤ a1 ∧ a1 ≤ 23) {a2 : Int} (ga2 : 0 ≤ a2 ∧ a2 ≤ 47) {a3 : Int} (ga3 : 1 ≤ a3 ∧ a3 ≤ 9999) (gx0 : a3 ≤ zrs Z (Z 2 0 0 (1510 + 12 * a1))) (gx1 : 1 ≤ Z 2 0 0 (1516 + 12 * a1)) (gx2 : 1 ≤ Z 2 0 0 (204 + 20 * a2)) (hM : s.2 + 0 ≤ 1000000000) : ∃ P : Int, P = zf_287 Z a1 a2 a3 ∧ (qf_287 [.inr (.inr (some (1, 0, 0))), .inl (i3 a1), .inl (i3 a2), .inl (i3 a3)] (zm Z ν) = some (zm Z ν, .inl (some (.inl (i3 P)))) ∧ 0 ≤ P ∧ P ≤ 40 ∧ 1 ≤ P ∧ P ≤ Z 2 0 0 (204 + 20 * a2) ∧ P ≤ Z 2 0 0 (1516 + 12 * a1)) := by
  obtain ⟨P, hP⟩ := zx (zf_287 Z a1 a2 a3)
  refine zc_R (Q := fun P => 0 ≤ P ∧ P ≤ 40 ∧ 1 ≤ P ∧ P ≤ Z 2 0 0 (204 + 20 * a2) ∧ P ≤ Z 2 0 0 (1516 + 12 * a1)) hP (fw_287 (i3 a1) (i3 a2) (i3 a3) _ _ ?_)
  replace hP : zE P (zf_287 Z a1 a2 a3) := hP
  unfold zf_287 at hP
  have r1 := zM_k hZ 2 0 0 (1510 + 12 * a1) (lo := 0) (hi := 7) (by decide) (zs_1510_0 (x := a1) (by omega) (by omega) (by omega))
  have r2 := zM_k hZ 2 0 0 (1516 + 12 * a1) (lo := 0) (hi := 99) (by decide) (zs_1510_6 (x := a1) (by omega) (by omega) (by omega))
  have r3 := zM_k hZ 2 0 0 (204 + 20 * a2) (lo := 0) (hi := 40) (by decide) (zs_200_4 (x := a2) (by omega) (by omega) (by omega))
  refine wz_i0 (i3O (n := 4400) (i3A (i3A (show (1510 : Int32) = i3 1510 from rfl) (i3M (show (12 : Int32) = i3 12 from rfl) (rfl : i3 a1 = i3 a1))) (show (0 : Int32) = i3 0 from rfl)) (by omega) (by omega) (by omega)) ?_
  refine wz_i0 (i3O (n := 4400) (i3A (i3A (show (1410 : Int32) = i3 1410 from rfl) (i3M (show (12 : Int32) = i3 12 from rfl) (zm_rd (Z := Z) (ν := ν) (k := 2) (show ((0 : Nat) : Int) = 0 from rfl) (show ((0 : Nat) : Int) = 0 from rfl) (i3I (y := (1510 + 12 * a1)) (i3A (i3A (show (1510 : Int32) = i3 1510 from rfl) (i3M (show (12 : Int32) = i3 12 from rfl) (rfl : i3 a1 = i3 a1))) (show (0 : Int32) = i3 0 from rfl)) (by omega) (by omega) (by omega))))) (show (1 : Int32) = i3 1 from rfl)) (by omega) (by omega) (by omega)) ?_
  refine wz_i0 (i3O (n := 4400) (i3A (i3A (show (1410 : Int32) = i3 1410 from rfl) (i3M (show (12 : Int32) = i3 12 from rfl) (zm_rd (Z := Z) (ν := ν) (k := 2) (show ((0 : Nat) : Int) = 0 from rfl) (show ((0 : Nat) : Int) = 0 from rfl) (i3I (y := (1510 + 12 * a1)) (i3A (i3A (show (1510 : Int32) = i3 1510 from rfl) (i3M (show (12 : Int32) = i3 12 from rfl) (rfl : i3 a1 = i3 a1))) (show (0 : Int32) = i3 0 from rfl)) (by omega) (by omega) (by omega))))) (show (3 : Int32) = i3 3 from rfl)) (by omega) (by omega) (by omega)) ?_
  obtain ⟨v4, hv4, c9, lv4, uv4⟩ := sp_289 (ν := ν) hZ (a1 := (Z 2 0 0 (1510 + 12 * a1))) (by omega) (zbh (c := 0) (k := 0) hM (Nat.le_of_ble_eq_true rfl))
  replace hP := zl_e hP hv4
  refine wz_cI_of (zas (zcons rfl (zcons (zvi (zm_rd (Z := Z) (ν := ν) (k := 2) (show ((0 : Nat) : Int) = 0 from rfl) (show ((0 : Nat) : Int) = 0 from rfl) (i3I (y := (1510 + 12 * a1)) (i3A (i3A (show (1510 : Int32) = i3 1510 from rfl) (i3M (show (12 : Int32) = i3 12 from rfl) (rfl : i3 a1 = i3 a1))) (show (0 : Int32) = i3 0 from rfl)) (by omega) (by omega) (by omega)))) rfl)) c9) ?_
  clear c9
  have r5 := zrs_e hv4
  refine wz_i0 (i3N0 (rfl : i3 a3 = i3 a3) (by omega) (by omega) (by omega)) ?_
  refine wz_i0 (i3O (n := 4400) (i3A (i3A (show (1510 : Int32) = i3 1510 from rfl) (i3M (show (12 : Int32) = i3 12 from rfl) (rfl : i3 a1 = i3 a1))) (show (6 : Int32) = i3 6 from rfl)) (by omega) (by omega) (by omega)) ?_
  have r6 := zM_k hZ 2 0 0 (1411 + 12 * (Z 2 0 0 (1510 + 12 * a1))) (lo := 0) (hi := 9999999) (by decide) (zs_1410_1 (x := (Z 2 0 0 (1510 + 12 * a1))) (by omega) (by omega) (by omega))
  have r7 := zM_f hZ 2 0 0 (1413 + 12 * (Z 2 0 0 (1510 + 12 * a1)))
  have r8 := w3_r ((Z 2 0 0 (1411 + 12 * (Z 2 0 0 (1510 + 12 * a1)))) + (Z 2 0 0 (1413 + 12 * (Z 2 0 0 (1510 + 12 * a1)))))
  have r9 := w3_r ((w3 ((Z 2 0 0 (1411 + 12 * (Z 2 0 0 (1510 + 12 * a1)))) + (Z 2 0 0 (1413 + 12 * (Z 2 0 0 (1510 + 12 * a1)))))) - v4)
  have r10 := z_div (x := (w3 ((w3 ((Z 2 0 0 (1411 + 12 * (Z 2 0 0 (1510 + 12 * a1)))) + (Z 2 0 0 (1413 + 12 * (Z 2 0 0 (1510 + 12 * a1)))))) - v4))) (y := a3) (by omega) (by omega)
  have r11 := z_div1 (x := (w3 ((w3 ((Z 2 0 0 (1411 + 12 * (Z 2 0 0 (1510 + 12 * a1)))) + (Z 2 0 0 (1413 + 12 * (Z 2 0 0 (1510 + 12 * a1)))))) - v4))) (y := a3)
  refine wz_br (i3Le (i3D (i3W (i3S (i3W (i3A (zm_rd (Z := Z) (ν := ν) (k := 2) (show ((0 : Nat) : Int) = 0 from rfl) (show ((0 : Nat) : Int) = 0 from rfl) (i3I (y := (1411 + 12 * (Z 2 0 0 (1510 + 12 * a1)))) (i3A (i3A (show (1410 : Int32) = i3 1410 from rfl) (i3M (show (12 : Int32) = i3 12 from rfl) (zm_rd (Z := Z) (ν := ν) (k := 2) (show ((0 : Nat) : Int) = 0 from rfl) (show ((0 : Nat) : Int) = 0 from rfl) (i3I (y := (1510 + 12 * a1)) (i3A (i3A (show (1510 : Int32) = i3 1510 from rfl) (i3M (show (12 : Int32) = i3 12 from rfl) (rfl : i3 a1 = i3 a1))) (show (0 : Int32) = i3 0 from rfl)) (by omega) (by omega) (by omega))))) (show (1 : Int32) = i3 1 from rfl)) (by omega) (by omega) (by omega))) (zm_rd (Z := Z) (ν := ν) (k := 2) (show ((0 : Nat) : Int) = 0 from rfl) (show ((0 : Nat) : Int) = 0 from rfl) (i3I (y := (1413 + 12 * (Z 2 0 0 (1510 + 12 * a1)))) (i3A (i3A (show (1410 : Int32) = i3 1410 from rfl) (i3M (show (12 : Int32) = i3 12 from rfl) (zm_rd (Z := Z) (ν := ν) (k := 2) (show ((0 : Nat) : Int) = 0 from rfl) (show ((0 : Nat) : Int) = 0 from rfl) (i3I (y := (1510 + 12 * a1)) (i3A (i3A (show (1510 : Int32) = i3 1510 from rfl) (i3M (show (12 : Int32) = i3 12 from rfl) (rfl : i3 a1 = i3 a1))) (show (0 : Int32) = i3 0 from rfl)) (by omega) (by omega) (by omega))))) (show (3 : Int32) = i3 3 from rfl)) (by omega) (by omega) (by omega))))) (rfl : i3 v4 = i3 v4))) (rfl : i3 a3 = i3 a3) (by omega) (by omega) (by omega) (by omega)) (zm_rd (Z := Z) (ν := ν) (k := 2) (show ((0 : Nat) : Int) = 0 from rfl) (show ((0 : Nat) : Int) = 0 from rfl) (i3I (y := (1516 + 12 * a1)) (i3A (i3A (show (1510 : Int32) = i3 1510 from rfl) (i3M (show (12 : Int32) = i3 12 from rfl) (rfl : i3 a1 = i3 a1))) (show (6 : Int32) = i3 6 from rfl)) (by omega) (by omega) (by omega))) (by omega) (by omega) (by omega) (by omega)) (fun h12 => ?_) (fun h12 => ?_)
  · replace hP := zE_p hP h12
    refine wz_i0 (i3O (n := 4400) (i3A (i3A (show (200 : Int32) = i3 200 from rfl) (i3M (show (20 : Int32) = i3 20 from rfl) (rfl : i3 a2 = i3 a2))) (show (4 : Int32) = i3 4 from rfl)) (by omega) (by omega) (by omega)) ?_
    refine wz_br (i3Le (i3D (i3W (i3S (i3W (i3A (zm_rd (Z := Z) (ν := ν) (k := 2) (show ((0 : Nat) : Int) = 0 from rfl) (show ((0 : Nat) : Int) = 0 from rfl) (i3I (y := (1411 + 12 * (Z 2 0 0 (1510 + 12 * a1)))) (i3A (i3A (show (1410 : Int32) = i3 1410 from rfl) (i3M (show (12 : Int32) = i3 12 from rfl) (zm_rd (Z := Z) (ν := ν) (k := 2) (show ((0 : Nat) : Int) = 0 from rfl) (show ((0 : Nat) : Int) = 0 from rfl) (i3I (y := (1510 + 12 * a1)) (i3A (i3A (show (1510 : Int32) = i3 1510 from rfl) (i3M (show (12 : Int32) = i3 12 from rfl) (rfl : i3 a1 = i3 a1))) (show (0 : Int32) = i3 0 from rfl)) (by omega) (by omega) (by omega))))) (show (1 : Int32) = i3 1 from rfl)) (by omega) (by omega) (by omega))) (zm_rd (Z := Z) (ν := ν) (k := 2) (show ((0 : Nat) : Int) = 0 from rfl) (show ((0 : Nat) : Int) = 0 from rfl) (i3I (y := (1413 + 12 * (Z 2 0 0 (1510 + 12 * a1)))) (i3A (i3A (show (1410 : Int32) = i3 1410 from rfl) (i3M (show (12 : Int32) = i3 12 from rfl) (zm_rd (Z := Z) (ν := ν) (k := 2) (show ((0 : Nat) : Int) = 0 from rfl) (show ((0 : Nat) : Int) = 0 from rfl) (i3I (y := (1510 + 12 * a1)) (i3A (i3A (show (1510 : Int32) = i3 1510 from rfl) (i3M (show (12 : Int32) = i3 12 from rfl) (rfl : i3 a1 = i3 a1))) (show (0 : Int32) = i3 0 from rfl)) (by omega) (by omega) (by omega))))) (show (3 : Int32) = i3 3 from rfl)) (by omega) (by omega) (by omega))))) (rfl : i3 v4 = i3 v4))) (rfl : i3 a3 = i3 a3) (by omega) (by omega) (by omega) (by omega)) (zm_rd (Z := Z) (ν := ν) (k := 2) (show ((0 : Nat) : Int) = 0 from rfl) (show ((0 : Nat) : Int) = 0 from rfl) (i3I (y := (204 + 20 * a2)) (i3A (i3A (show (200 : Int32) = i3 200 from rfl) (i3M (show (20 : Int32) = i3 20 from rfl) (rfl : i3 a2 = i3 a2))) (show (4 : Int32) = i3 4 from rfl)) (by omega) (by omega) (by omega))) (by omega) (by omega) (by omega) (by omega)) (fun h13 => ?_) (fun h13 => ?_)
    · replace hP := zE_p hP h13
      exact zlR hP (i3D (i3W (i3S (i3W (i3A (zm_rd (Z := Z) (ν := ν) (k := 2) (show ((0 : Nat) : Int) = 0 from rfl) (show ((0 : Nat) : Int) = 0 from rfl) (i3I (y := (1411 + 12 * (Z 2 0 0 (1510 + 12 * a1)))) (i3A (i3A (show (1410 : Int32) = i3 1410 from rfl) (i3M (show (12 : Int32) = i3 12 from rfl) (zm_rd (Z := Z) (ν := ν) (k := 2) (show ((0 : Nat) : Int) = 0 from rfl) (show ((0 : Nat) : Int) = 0 from rfl) (i3I (y := (1510 + 12 * a1)) (i3A (i3A (show (1510 : Int32) = i3 1510 from rfl) (i3M (show (12 : Int32) = i3 12 from rfl) (rfl : i3 a1 = i3 a1))) (show (0 : Int32) = i3 0 from rfl)) (by omega) (by omega) (by omega))))) (show (1 : Int32) = i3 1 from rfl)) (by omega) (by omega) (by omega))) (zm_rd (Z := Z) (ν := ν) (k := 2) (show ((0 : Nat) : Int) = 0 from rfl) (show ((0 : Nat) : Int) = 0 from rfl) (i3I (y := (1413 + 12 * (Z 2 0 0 (1510 + 12 * a1)))) (i3A (i3A (show (1410 : Int32) = i3 1410 from rfl) (i3M (show (12 : Int32) = i3 12 from rfl) (zm_rd (Z := Z) (ν := ν) (k := 2) (show ((0 : Nat) : Int) = 0 from rfl) (show ((0 : Nat) : Int) = 0 from rfl) (i3I (y := (1510 + 12 * a1)) (i3A (i3A (show (1510 : Int32) = i3 1510 from rfl) (i3M (show (12 : Int32) = i3 12 from rfl) (rfl : i3 a1 = i3 a1))) (show (0 : Int32) = i3 0 from rfl)) (by omega) (by omega) (by omega))))) (show (3 : Int32) = i3 3 from rfl)) (by omega) (by omega) (by omega))))) (rfl : i3 v4 = i3 v4))) (rfl : i3 a3 = i3 a3) (by omega) (by omega) (by omega) (by omega)) ⟨by omega, by omega, by omega, by omega, by omega⟩
    · replace hP := zE_n hP h13
      refine wz_i0 (i3O (n := 4400) (i3A (i3A (show (200 : Int32) = i3 200 from rfl) (i3M (show (20 : Int32) = i3 20 from rfl) (rfl : i3 a2 = i3 a2))) (show (4 : Int32) = i3 4 from rfl)) (by omega) (by omega) (by omega)) ?_
      exact zlR hP (zm_rd (Z := Z) (ν := ν) (k := 2) (show ((0 : Nat) : Int) = 0 from rfl) (show ((0 : Nat) : Int) = 0 from rfl) (i3I (y := (204 + 20 * a2)) (i3A (i3A (show (200 : Int32) = i3 200 from rfl) (i3M (show (20 : Int32) = i3 20 from rfl) (rfl : i3 a2 = i3 a2))) (show (4 : Int32) = i3 4 from rfl)) (by omega) (by omega) (by omega))) ⟨by omega, by omega, by omega, by omega, by omega⟩
  · replace hP := zE_n hP h12
    refine wz_i0 (i3O (n := 4400) (i3A (i3A (show (1510 : Int32) = i3 1510 from rfl) (i3M (show (12 : Int32) = i3 12 from rfl) (rfl : i3 a1 = i3 a1))) (show (6 : Int32) = i3 6 from rfl)) (by omega) (by omega) (by omega)) ?_
    refine wz_i0 (i3O (n := 4400) (i3A (i3A (show (200 : Int32) = i3 200 from rfl) (i3M (show (20 : Int32) = i3 20 from rfl) (rfl : i3 a2 = i3 a2))) (show (4 : Int32) = i3 4 from rfl)) (by omega) (by omega) (by omega)) ?_
    refine wz_br (i3Le (zm_rd (Z := Z) (ν := ν) (k := 2) (show ((0 : Nat) : Int) = 0 from rfl) (show ((0 : Nat) : Int) = 0 from rfl) (i3I (y := (1516 + 12 * a1)) (i3A (i3A (show (1510 : Int32) = i3 1510 from rfl) (i3M (show (12 : Int32) = i3 12 from rfl) (rfl : i3 a1 = i3 a1))) (show (6 : Int32) = i3 6 from rfl)) (by omega) (by omega) (by omega))) (zm_rd (Z := Z) (ν := ν) (k := 2) (show ((0 : Nat) : Int) = 0 from rfl) (show ((0 : Nat) : Int) = 0 from rfl) (i3I (y := (204 + 20 * a2)) (i3A (i3A (show (200 : Int32) = i3 200 from rfl) (i3M (show (20 : Int32) = i3 20 from rfl) (rfl : i3 a2 = i3 a2))) (show (4 : Int32) = i3 4 from rfl)) (by omega) (by omega) (by omega))) (by omega) (by omega) (by omega) (by omega)) (fun h14 => ?_) (fun h14 => ?_)
    · replace hP := zE_p hP h14
      exact zlR hP (zm_rd (Z := Z) (ν := ν) (k := 2) (show ((0 : Nat) : Int) = 0 from rfl) (show ((0 : Nat) : Int) = 0 from rfl) (i3I (y := (1516 + 12 * a1)) (i3A (i3A (show (1510 : Int32) = i3 1510 from rfl) (i3M (show (12 : Int32) = i3 12 from rfl) (rfl : i3 a1 = i3 a1))) (show (6 : Int32) = i3 6 from rfl)) (by omega) (by omega) (by omega))) ⟨by omega, by omega, by omega, by omega, by omega⟩
    · replace hP := zE_n hP h14
      refine wz_i0 (i3O (n := 4400) (i3A (i3A (show (200 : Int32) = i3 200 from rfl) (i3M (show (20 : Int32) = i3 20 from rfl) (rfl : i3 a2 = i3 a2))) (show (4 : Int32) = i3 4 from rfl)) (by omega) (by omega) (by omega)) ?_
      exact zlR hP (zm_rd (Z := Z) (ν := ν) (k := 2) (show ((0 : Nat) : Int) = 0 from rfl) (show ((0 : Nat) : Int) = 0 from rfl) (i3I (y := (204 + 20 * a2)) (i3A (i3A (show (200 : Int32) = i3 200 from rfl) (i3M (show (20 : Int32) = i3 20 from rfl) (rfl : i3 a2 = i3 a2))) (show (4 : Int32) = i3 4 from rfl)) (by omega) (by omega) (by omega))) ⟨by omega, by omega, by omega, by omega, by omega⟩
/- yX12_bSold -/
def zf_284 (Z : qz_Z) (a1 : Int) : qz_Z := (zlet (zu Z 2 0 0 (1810 + 2 * a1) ((Z 2 0 0 (2013 + 16 * a1)) * (Z 2 0 0 (2015 + 16 * a1)))) (fun Z8 => (zlet (zu Z8 2 0 0 (1811 + 2 * a1) (((Z8 2 0 0 0) / 24) + (Z8 2 0 0 (1412 + 12 * (Z8 2 0 0 (2011 + 16 * a1)))))) (fun Z12 => (zlet (zu Z12 2 0 0 (1516 + 12 * (Z12 2 0 0 (2012 + 16 * a1))) ((Z12 2 0 0 (1516 + 12 * (Z12 2 0 0 (2012 + 16 * a1)))) - (Z12 2 0 0 (2013 + 16 * a1)))) (fun Z21 => Z21))))))
theorem sp_284 {s : zSM} {Z : qz_Z} {ν : qz_N} (hZ : zM s Z) {a1 : Int} (ga1 : 0 ≤ a1 ∧ a1 ≤ 59) (gx0 : Z 2 0 0 (2013 + 16 * a1) ≤ Z 2 0 0 (1516 + 12 * Z 2 0 0 (2012 + 16 * a1))) (hM : s.2 + 0 ≤ 1000000000) : ∃ P : qz_Z, P = zf_284 Z a1 ∧ (qf_284 [.inr (.inr (some (1, 0, 0))), .inl (i3 a1)] (zm Z ν) = some (zm P ν, .inl none) ∧ zM s P ∧ zC [2] Z P ∧ zU [] Z P) := by
  obtain ⟨P, hP⟩ := zx (zf_284 Z a1)
  refine zc_V (Q := fun P => zM s P ∧ zC [2] Z P ∧ zU [] Z P) hP (fw_284 (i3 a1) _ _ ?_)
  replace hP : zE P (zf_284 Z a1) := hP
  unfold zf_284 at hP
  have r1 := zM_k hZ 2 0 0 (2012 + 16 * a1) (lo := 0) (hi := 23) (by decide) (zs_2010_2 (x := a1) (by omega) (by omega) (by omega))
  have r2 := zM_k hZ 2 0 0 (1516 + 12 * (Z 2 0 0 (2012 + 16 * a1))) (lo := 0) (hi := 99) (by decide) (zs_1510_6 (x := (Z 2 0 0 (2012 + 16 * a1))) (by omega) (by omega) (by omega))
  have r3 := zM_k hZ 2 0 0 (2013 + 16 * a1) (lo := 0) (hi := 40) (by decide) (zs_2010_3 (x := a1) (by omega) (by omega) (by omega))
  have r4 := zM_cr hZ a1
  have r5 := zM_k hZ 2 0 0 2000 (lo := 0) (hi := 60) (by decide) rfl
  refine wz_i0 (i3O (n := 4400) (i3A (i3A (show (2010 : Int32) = i3 2010 from rfl) (i3M (show (16 : Int32) = i3 16 from rfl) (rfl : i3 a1 = i3 a1))) (show (3 : Int32) = i3 3 from rfl)) (by omega) (by omega) (by omega)) ?_
  refine wz_i0 (i3O (n := 4400) (i3A (i3A (show (2010 : Int32) = i3 2010 from rfl) (i3M (show (16 : Int32) = i3 16 from rfl) (rfl : i3 a1 = i3 a1))) (show (5 : Int32) = i3 5 from rfl)) (by omega) (by omega) (by omega)) ?_
  refine wz_i0 (i3O (n := 4400) (i3A (show (1810 : Int32) = i3 1810 from rfl) (i3M (show (2 : Int32) = i3 2 from rfl) (rfl : i3 a1 = i3 a1))) (by omega) (by omega) (by omega)) ?_
  have r6 := zM_k hZ 2 0 0 (2015 + 16 * a1) (lo := 0) (hi := 9999) (by decide) (zs_2010_5 (x := a1) (by omega) (by omega) (by omega))
  have r7 := z_mul (x := (Z 2 0 0 (2013 + 16 * a1))) (y := (Z 2 0 0 (2015 + 16 * a1))) (a := 40) (b := 9999) (by omega) (by omega) (by omega) (by omega)
  obtain ⟨Z8, hZ8⟩ := zx (zu Z 2 0 0 (1810 + 2 * a1) ((Z 2 0 0 (2013 + 16 * a1)) * (Z 2 0 0 (2015 + 16 * a1))))
  replace hP := zl_e hP hZ8
  have hZ8I := zM_u2 hZ hZ8 (lo := -2147483648) (hi := 2147483647) (zs_1810_0 (x := a1) (by omega) (by omega) (by omega)) (by omega) ⟨by decide, by decide⟩ (by simp only [zsp]; omega)
  have hZ8U : zU [] Z Z8 := zU_u zU_r hZ8 (Or.inl rfl)
  have hZ8K : zC [2] Z Z8 := zC_u zC_r hZ8 (zcl_2w (by omega) rfl)
  intro μ9 e9
  replace e9 := e9.trans (zm_wI (Z := Z) (ν := ν) hZ8 (show ((0 : Nat) : Int) = 0 from rfl) (show ((0 : Nat) : Int) = 0 from rfl) (i3I (y := (1810 + 2 * a1)) (i3A (show (1810 : Int32) = i3 1810 from rfl) (i3M (show (2 : Int32) = i3 2 from rfl) (rfl : i3 a1 = i3 a1))) (by omega) (by omega) (by omega)) (i3M (zm_rd (Z := Z) (ν := ν) (k := 2) (show ((0 : Nat) : Int) = 0 from rfl) (show ((0 : Nat) : Int) = 0 from rfl) (i3I (y := (2013 + 16 * a1)) (i3A (i3A (show (2010 : Int32) = i3 2010 from rfl) (i3M (show (16 : Int32) = i3 16 from rfl) (rfl : i3 a1 = i3 a1))) (show (3 : Int32) = i3 3 from rfl)) (by omega) (by omega) (by omega))) (zm_rd (Z := Z) (ν := ν) (k := 2) (show ((0 : Nat) : Int) = 0 from rfl) (show ((0 : Nat) : Int) = 0 from rfl) (i3I (y := (2015 + 16 * a1)) (i3A (i3A (show (2010 : Int32) = i3 2010 from rfl) (i3M (show (16 : Int32) = i3 16 from rfl) (rfl : i3 a1 = i3 a1))) (show (5 : Int32) = i3 5 from rfl)) (by omega) (by omega) (by omega)))))
  subst e9
  refine wz_i0 (i3O (n := 4400) (i3A (i3A (show (2010 : Int32) = i3 2010 from rfl) (i3M (show (16 : Int32) = i3 16 from rfl) (rfl : i3 a1 = i3 a1))) (show (1 : Int32) = i3 1 from rfl)) (by omega) (by omega) (by omega)) ?_
  have r9 := zM_k hZ8I 2 0 0 (2011 + 16 * a1) (lo := 0) (hi := 7) (by decide) (zs_2010_1 (x := a1) (by omega) (by omega) (by omega))
  refine wz_i0 (i3O (n := 4400) (i3A (i3A (show (1410 : Int32) = i3 1410 from rfl) (i3M (show (12 : Int32) = i3 12 from rfl) (zm_rd (Z := Z8) (ν := ν) (k := 2) (show ((0 : Nat) : Int) = 0 from rfl) (show ((0 : Nat) : Int) = 0 from rfl) (i3I (y := (2011 + 16 * a1)) (i3A (i3A (show (2010 : Int32) = i3 2010 from rfl) (i3M (show (16 : Int32) = i3 16 from rfl) (rfl : i3 a1 = i3 a1))) (show (1 : Int32) = i3 1 from rfl)) (by omega) (by omega) (by omega))))) (show (2 : Int32) = i3 2 from rfl)) (by omega) (by omega) (by omega)) ?_
  refine wz_i0 (i3O (n := 4400) (i3A (i3A (show (1810 : Int32) = i3 1810 from rfl) (i3M (show (2 : Int32) = i3 2 from rfl) (rfl : i3 a1 = i3 a1))) (show (1 : Int32) = i3 1 from rfl)) (by omega) (by omega) (by omega)) ?_
  have r10 := zM_k hZ8I 2 0 0 0 (lo := 0) (hi := 671) (by decide) rfl
  have r11 := zM_k hZ8I 2 0 0 (1412 + 12 * (Z8 2 0 0 (2011 + 16 * a1))) (lo := 0) (hi := 14) (by decide) (zs_1410_2 (x := (Z8 2 0 0 (2011 + 16 * a1))) (by omega) (by omega) (by omega))
  obtain ⟨Z12, hZ12⟩ := zx (zu Z8 2 0 0 (1811 + 2 * a1) (((Z8 2 0 0 0) / 24) + (Z8 2 0 0 (1412 + 12 * (Z8 2 0 0 (2011 + 16 * a1))))))
  replace hP := zl_e hP hZ12
  have hZ12I := zM_u2 hZ8I hZ12 (lo := 0) (hi := 41) (zs_1810_1 (x := a1) (by omega) (by omega) (by omega)) (by omega) ⟨by decide, by decide⟩ (by simp only [zsp]; omega)
  have hZ12U : zU [] Z Z12 := zU_u hZ8U hZ12 (Or.inl rfl)
  have hZ12K : zC [2] Z Z12 := zC_u hZ8K hZ12 (zcl_2w (by omega) rfl)
  intro μ9 e9
  replace e9 := e9.trans (zm_wI (Z := Z8) (ν := ν) hZ12 (show ((0 : Nat) : Int) = 0 from rfl) (show ((0 : Nat) : Int) = 0 from rfl) (i3I (y := (1811 + 2 * a1)) (i3A (i3A (show (1810 : Int32) = i3 1810 from rfl) (i3M (show (2 : Int32) = i3 2 from rfl) (rfl : i3 a1 = i3 a1))) (show (1 : Int32) = i3 1 from rfl)) (by omega) (by omega) (by omega)) (i3A (i3D (zm_rd (Z := Z8) (ν := ν) (k := 2) (show ((0 : Nat) : Int) = 0 from rfl) (show ((0 : Nat) : Int) = 0 from rfl) (show ((0 : Nat) : Int) = 0 from rfl)) (show (24 : Int32) = i3 24 from rfl) (by omega) (by omega) (by omega) (by omega)) (zm_rd (Z := Z8) (ν := ν) (k := 2) (show ((0 : Nat) : Int) = 0 from rfl) (show ((0 : Nat) : Int) = 0 from rfl) (i3I (y := (1412 + 12 * (Z8 2 0 0 (2011 + 16 * a1)))) (i3A (i3A (show (1410 : Int32) = i3 1410 from rfl) (i3M (show (12 : Int32) = i3 12 from rfl) (zm_rd (Z := Z8) (ν := ν) (k := 2) (show ((0 : Nat) : Int) = 0 from rfl) (show ((0 : Nat) : Int) = 0 from rfl) (i3I (y := (2011 + 16 * a1)) (i3A (i3A (show (2010 : Int32) = i3 2010 from rfl) (i3M (show (16 : Int32) = i3 16 from rfl) (rfl : i3 a1 = i3 a1))) (show (1 : Int32) = i3 1 from rfl)) (by omega) (by omega) (by omega))))) (show (2 : Int32) = i3 2 from rfl)) (by omega) (by omega) (by omega)))))
  subst e9
  refine wz_i0 (i3O (n := 4400) (i3A (i3A (show (2010 : Int32) = i3 2010 from rfl) (i3M (show (16 : Int32) = i3 16 from rfl) (rfl : i3 a1 = i3 a1))) (show (2 : Int32) = i3 2 from rfl)) (by omega) (by omega) (by omega)) ?_
  have r13 := zM_k hZ12I 2 0 0 (2012 + 16 * a1) (lo := 0) (hi := 23) (by decide) (zs_2010_2 (x := a1) (by omega) (by omega) (by omega))
  have q14 := (zu_ne (k' := 2) (b' := 0) (i' := 0) (j' := (2012 + 16 * a1)) hZ12 (fun q => absurd q.2.2.2 (by omega))).trans (zu_ne (k' := 2) (b' := 0) (i' := 0) (j' := (2012 + 16 * a1)) hZ8 (fun q => absurd q.2.2.2 (by omega)))
  refine wz_i0 (i3O (n := 4400) (i3A (i3A (show (1510 : Int32) = i3 1510 from rfl) (i3M (show (12 : Int32) = i3 12 from rfl) (zm_rd (Z := Z12) (ν := ν) (k := 2) (show ((0 : Nat) : Int) = 0 from rfl) (show ((0 : Nat) : Int) = 0 from rfl) (i3I (y := (2012 + 16 * a1)) (i3A (i3A (show (2010 : Int32) = i3 2010 from rfl) (i3M (show (16 : Int32) = i3 16 from rfl) (rfl : i3 a1 = i3 a1))) (show (2 : Int32) = i3 2 from rfl)) (by omega) (by omega) (by omega))))) (show (6 : Int32) = i3 6 from rfl)) (by omega) (by omega) (by omega)) ?_
  refine wz_i0 (i3O (n := 4400) (i3A (i3A (show (2010 : Int32) = i3 2010 from rfl) (i3M (show (16 : Int32) = i3 16 from rfl) (rfl : i3 a1 = i3 a1))) (show (3 : Int32) = i3 3 from rfl)) (by omega) (by omega) (by omega)) ?_
  refine wz_i0 (i3O (n := 4400) (i3A (i3A (show (1510 : Int32) = i3 1510 from rfl) (i3M (show (12 : Int32) = i3 12 from rfl) (zm_rd (Z := Z12) (ν := ν) (k := 2) (show ((0 : Nat) : Int) = 0 from rfl) (show ((0 : Nat) : Int) = 0 from rfl) (i3I (y := (2012 + 16 * a1)) (i3A (i3A (show (2010 : Int32) = i3 2010 from rfl) (i3M (show (16 : Int32) = i3 16 from rfl) (rfl : i3 a1 = i3 a1))) (show (2 : Int32) = i3 2 from rfl)) (by omega) (by omega) (by omega))))) (show (6 : Int32) = i3 6 from rfl)) (by omega) (by omega) (by omega)) ?_
  have r15 := zM_k hZ12I 2 0 0 (1516 + 12 * (Z12 2 0 0 (2012 + 16 * a1))) (lo := 0) (hi := 99) (by decide) (zs_1510_6 (x := (Z12 2 0 0 (2012 + 16 * a1))) (by omega) (by omega) (by omega))
  have r16 := zM_k hZ12I 2 0 0 (2013 + 16 * a1) (lo := 0) (hi := 40) (by decide) (zs_2010_3 (x := a1) (by omega) (by omega) (by omega))
  have r17 := zM_cr hZ12I a1
  have r18 := zM_k hZ12I 2 0 0 2000 (lo := 0) (hi := 60) (by decide) rfl
  have q19 := (zu_ne (k' := 2) (b' := 0) (i' := 0) (j' := 2000) hZ12 (fun q => absurd q.2.2.2 (by omega))).trans (zu_ne (k' := 2) (b' := 0) (i' := 0) (j' := 2000) hZ8 (fun q => absurd q.2.2.2 (by omega)))
  have q20 := (zu_ne (k' := 2) (b' := 0) (i' := 0) (j' := (2013 + 16 * a1)) hZ12 (fun q => absurd q.2.2.2 (by omega))).trans (zu_ne (k' := 2) (b' := 0) (i' := 0) (j' := (2013 + 16 * a1)) hZ8 (fun q => absurd q.2.2.2 (by omega)))
  obtain ⟨Z21, hZ21⟩ := zx (zu Z12 2 0 0 (1516 + 12 * (Z12 2 0 0 (2012 + 16 * a1))) ((Z12 2 0 0 (1516 + 12 * (Z12 2 0 0 (2012 + 16 * a1)))) - (Z12 2 0 0 (2013 + 16 * a1))))
  replace hP := zl_e hP hZ21
  have n1 : Z12 2 0 0 (1516 + 12 * (Z12 2 0 0 (2012 + 16 * a1))) = Z 2 0 0 (1516 + 12 * (Z 2 0 0 (2012 + 16 * a1))) := by
    rw [show Z12 2 0 0 (2012 + 16 * a1) = Z 2 0 0 (2012 + 16 * a1) from by omega]
    exact (zu_ne hZ12 (fun q => absurd q.2.2.2 (by omega))).trans (zu_ne hZ8 (fun q => absurd q.2.2.2 (by omega)))
  have hZ21I := zM_u2 hZ12I hZ21 (lo := 0) (hi := 99) (zs_1510_6 (x := (Z12 2 0 0 (2012 + 16 * a1))) (by omega) (by omega) (by omega)) (by omega) ⟨by decide, by decide⟩ (by simp only [zsp]; omega)
  have hZ21U : zU [] Z Z21 := zU_u hZ12U hZ21 (Or.inl rfl)
  have hZ21K : zC [2] Z Z21 := zC_u hZ12K hZ21 (zcl_2w (by omega) rfl)
  intro μ9 e9
  replace e9 := e9.trans (zm_wI (Z := Z12) (ν := ν) hZ21 (show ((0 : Nat) : Int) = 0 from rfl) (show ((0 : Nat) : Int) = 0 from rfl) (i3I (y := (1516 + 12 * (Z12 2 0 0 (2012 + 16 * a1)))) (i3A (i3A (show (1510 : Int32) = i3 1510 from rfl) (i3M (show (12 : Int32) = i3 12 from rfl) (zm_rd (Z := Z12) (ν := ν) (k := 2) (show ((0 : Nat) : Int) = 0 from rfl) (show ((0 : Nat) : Int) = 0 from rfl) (i3I (y := (2012 + 16 * a1)) (i3A (i3A (show (2010 : Int32) = i3 2010 from rfl) (i3M (show (16 : Int32) = i3 16 from rfl) (rfl : i3 a1 = i3 a1))) (show (2 : Int32) = i3 2 from rfl)) (by omega) (by omega) (by omega))))) (show (6 : Int32) = i3 6 from rfl)) (by omega) (by omega) (by omega)) (i3S (zm_rd (Z := Z12) (ν := ν) (k := 2) (show ((0 : Nat) : Int) = 0 from rfl) (show ((0 : Nat) : Int) = 0 from rfl) (i3I (y := (1516 + 12 * (Z12 2 0 0 (2012 + 16 * a1)))) (i3A (i3A (show (1510 : Int32) = i3 1510 from rfl) (i3M (show (12 : Int32) = i3 12 from rfl) (zm_rd (Z := Z12) (ν := ν) (k := 2) (show ((0 : Nat) : Int) = 0 from rfl) (show ((0 : Nat) : Int) = 0 from rfl) (i3I (y := (2012 + 16 * a1)) (i3A (i3A (show (2010 : Int32) = i3 2010 from rfl) (i3M (show (16 : Int32) = i3 16 from rfl) (rfl : i3 a1 = i3 a1))) (show (2 : Int32) = i3 2 from rfl)) (by omega) (by omega) (by omega))))) (show (6 : Int32) = i3 6 from rfl)) (by omega) (by omega) (by omega))) (zm_rd (Z := Z12) (ν := ν) (k := 2) (show ((0 : Nat) : Int) = 0 from rfl) (show ((0 : Nat) : Int) = 0 from rfl) (i3I (y := (2013 + 16 * a1)) (i3A (i3A (show (2010 : Int32) = i3 2010 from rfl) (i3M (show (16 : Int32) = i3 16 from rfl) (rfl : i3 a1 = i3 a1))) (show (3 : Int32) = i3 3 from rfl)) (by omega) (by omega) (by omega)))))
  subst e9
  exact zlV hP ⟨hZ21I, hZ21K, hZ21U⟩
/- y by hand: what a parcel's bill leaves alone -/
theorem zk_284 {s : zSM} {Z Z1 : qz_Z} {a j : Int} (h : Z1 = zf_284 Z a) (hZ : zM s Z) (ha : 0 ≤ a ∧ a ≤ 59) (hj : j < 1510 ∨ 3000 ≤ j) : Z1 2 0 0 j = Z 2 0 0 j := by
  have r := zM_k hZ 2 0 0 (2012 + 16 * a) (lo := 0) (hi := 23) (by decide) (zs_2010_2 (x := a) (by omega) (by omega) (by omega))
  unfold zf_284 at h
  simp only [zlet] at h
  obtain ⟨Y1, e1⟩ := zx (zu Z 2 0 0 (1810 + 2 * a) ((Z 2 0 0 (2013 + 16 * a)) * (Z 2 0 0 (2015 + 16 * a))))
  rw [← e1] at h
  obtain ⟨Y2, e2⟩ := zx (zu Y1 2 0 0 (1811 + 2 * a) (((Y1 2 0 0 0) / 24) + (Y1 2 0 0 (1412 + 12 * (Y1 2 0 0 (2011 + 16 * a))))))
  rw [← e2] at h
  have q : Y2 2 0 0 (2012 + 16 * a) = Z 2 0 0 (2012 + 16 * a) := (zu_ne e2 (fun q => absurd q.2.2.2 (by omega))).trans (zu_ne e1 (fun q => absurd q.2.2.2 (by omega)))
  rw [q] at h
  exact (zu_ne h (fun q => absurd q.2.2.2 (by omega))).trans ((zu_ne e2 (fun q => absurd q.2.2.2 (by omega))).trans (zu_ne e1 (fun q => absurd q.2.2.2 (by omega))))
/- yX12_kEnter -/
def zf_403 (Z : qz_Z) (a1 : Int) (a2 : Int) (a3 : Int) (a4 : Int) : qz_Z := (if a3 ≠ 0 then (zlet (zu Z 2 0 0 (3800 + a1) (w3 ((Z 2 0 0 (3800 + a1)) - a3))) (fun Z4 => (zlet (zu Z4 2 0 0 (3800 + a2) (w3 ((Z4 2 0 0 (3800 + a2)) + a3))) (fun Z7 => (zlet (zu Z7 2 0 0 (3950 + 5 * ((Z7 2 0 0 3814) % 60)) a1) (fun Z9 => (zlet (zu Z9 2 0 0 (3951 + 5 * ((Z7 2 0 0 3814) % 60)) a2) (fun Z10 => (zlet (zu Z10 2 0 0 (3952 + 5 * ((Z7 2 0 0 3814) % 60)) a3) (fun Z11 => (zlet (zu Z11 2 0 0 (3953 + 5 * ((Z7 2 0 0 3814) % 60)) a4) (fun Z12 => (zlet (zu Z12 2 0 0 (3954 + 5 * ((Z7 2 0 0 3814) % 60)) (Z12 2 0 0 0)) (fun Z14 => (zlet (zu Z14 2 0 0 3814 ((Z14 2 0 0 3814) + 1)) (fun Z17 => Z17)))))))))))))))) else Z)
theorem sp_403 {s : zSM} {Z : qz_Z} {ν : qz_N} (hZ : zM s Z) {a1 : Int} (ga1 : 0 ≤ a1 ∧ a1 ≤ 9) {a2 : Int} (ga2 : 0 ≤ a2 ∧ a2 ≤ 9) {a3 : Int} (ga3 : -2147483648 ≤ a3 ∧ a3 ≤ 2147483647) {a4 : Int} (ga4 : -1 ≤ a4 ∧ a4 ≤ 47) (hM : s.2 + 1 ≤ 1000000000) : ∃ P : qz_Z, P = zf_403 Z a1 a2 a3 a4 ∧ (qf_403 [.inr (.inr (some (1, 0, 0))), .inl (i3 a1), .inl (i3 a2), .inl (i3 a3), .inl (i3 a4)] (zm Z ν) = some (zm P ν, .inl none) ∧ zM (zb s 1) P ∧ zC [2] Z P ∧ zU [] Z P) := by
  obtain ⟨P, hP⟩ := zx (zf_403 Z a1 a2 a3 a4)
  refine zc_V (Q := fun P => zM (zb s 1) P ∧ zC [2] Z P ∧ zU [] Z P) hP (fw_403 (i3 a1) (i3 a2) (i3 a3) (i3 a4) _ _ ?_)
  replace hP : zE P (zf_403 Z a1 a2 a3 a4) := hP
  unfold zf_403 at hP
  refine wz_br (i3NE (rfl : i3 a3 = i3 a3) (show (0 : Int32) = i3 0 from rfl) (by omega) (by omega) (by omega) (by omega)) (fun h1 => ?_) (fun h1 => ?_)
  · replace hP := zE_p hP h1
    refine wz_i0 (i3O (n := 4400) (i3A (show (3800 : Int32) = i3 3800 from rfl) (rfl : i3 a1 = i3 a1)) (by omega) (by omega) (by omega)) ?_
    refine wz_i0 (i3O (n := 4400) (i3A (show (3800 : Int32) = i3 3800 from rfl) (rfl : i3 a1 = i3 a1)) (by omega) (by omega) (by omega)) ?_
    have r2 := zM_f hZ 2 0 0 (3800 + a1)
    have r3 := w3_r ((Z 2 0 0 (3800 + a1)) - a3)
    obtain ⟨Z4, hZ4⟩ := zx (zu Z 2 0 0 (3800 + a1) (w3 ((Z 2 0 0 (3800 + a1)) - a3)))
    replace hP := zl_e hP hZ4
    have hZ4I := zM_u2 hZ hZ4 (lo := -2147483648) (hi := 2147483647) (zs_3800 (by omega) (by omega)) (by omega) ⟨by decide, by decide⟩ (by simp only [zsp]; omega)
    have hZ4U : zU [] Z Z4 := zU_u zU_r hZ4 (Or.inl rfl)
    have hZ4K : zC [2] Z Z4 := zC_u zC_r hZ4 (zcl_2w (by omega) rfl)
    intro μ9 e9
    replace e9 := e9.trans (zm_wI (Z := Z) (ν := ν) hZ4 (show ((0 : Nat) : Int) = 0 from rfl) (show ((0 : Nat) : Int) = 0 from rfl) (i3I (y := (3800 + a1)) (i3A (show (3800 : Int32) = i3 3800 from rfl) (rfl : i3 a1 = i3 a1)) (by omega) (by omega) (by omega)) (i3W (i3S (zm_rd (Z := Z) (ν := ν) (k := 2) (show ((0 : Nat) : Int) = 0 from rfl) (show ((0 : Nat) : Int) = 0 from rfl) (i3I (y := (3800 + a1)) (i3A (show (3800 : Int32) = i3 3800 from rfl) (rfl : i3 a1 = i3 a1)) (by omega) (by omega) (by omega))) (rfl : i3 a3 = i3 a3))))
    subst e9
    refine wz_i0 (i3O (n := 4400) (i3A (show (3800 : Int32) = i3 3800 from rfl) (rfl : i3 a2 = i3 a2)) (by omega) (by omega) (by omega)) ?_
    refine wz_i0 (i3O (n := 4400) (i3A (show (3800 : Int32) = i3 3800 from rfl) (rfl : i3 a2 = i3 a2)) (by omega) (by omega) (by omega)) ?_
    have r5 := zM_f hZ4I 2 0 0 (3800 + a2)
    have r6 := w3_r ((Z4 2 0 0 (3800 + a2)) + a3)
    obtain ⟨Z7, hZ7⟩ := zx (zu Z4 2 0 0 (3800 + a2) (w3 ((Z4 2 0 0 (3800 + a2)) + a3)))
    replace hP := zl_e hP hZ7
    have hZ7I := zM_u2 hZ4I hZ7 (lo := -2147483648) (hi := 2147483647) (zs_3800 (by omega) (by omega)) (by omega) ⟨by decide, by decide⟩ (by simp only [zsp]; omega)
    have hZ7U : zU [] Z Z7 := zU_u hZ4U hZ7 (Or.inl rfl)
    have hZ7K : zC [2] Z Z7 := zC_u hZ4K hZ7 (zcl_2w (by omega) rfl)
    intro μ9 e9
    replace e9 := e9.trans (zm_wI (Z := Z4) (ν := ν) hZ7 (show ((0 : Nat) : Int) = 0 from rfl) (show ((0 : Nat) : Int) = 0 from rfl) (i3I (y := (3800 + a2)) (i3A (show (3800 : Int32) = i3 3800 from rfl) (rfl : i3 a2 = i3 a2)) (by omega) (by omega) (by omega)) (i3W (i3A (zm_rd (Z := Z4) (ν := ν) (k := 2) (show ((0 : Nat) : Int) = 0 from rfl) (show ((0 : Nat) : Int) = 0 from rfl) (i3I (y := (3800 + a2)) (i3A (show (3800 : Int32) = i3 3800 from rfl) (rfl : i3 a2 = i3 a2)) (by omega) (by omega) (by omega))) (rfl : i3 a3 = i3 a3))))
    subst e9
    have r8 := zM_ct hZ7I (zbh (c := 0) (k := 0) hM (Nat.le_of_ble_eq_true rfl))
    refine wz_i0 (i3O (n := 4400) (i3A (show (3950 : Int32) = i3 3950 from rfl) (i3M (show (5 : Int32) = i3 5 from rfl) (i3R (zm_rd (Z := Z7) (ν := ν) (k := 2) (show ((0 : Nat) : Int) = 0 from rfl) (show ((0 : Nat) : Int) = 0 from rfl) (show ((3814 : Nat) : Int) = 3814 from rfl)) (show (60 : Int32) = i3 60 from rfl) (by omega) (by omega) (by omega) (by omega)))) (by omega) (by omega) (by omega)) ?_
    obtain ⟨Z9, hZ9⟩ := zx (zu Z7 2 0 0 (3950 + 5 * ((Z7 2 0 0 3814) % 60)) a1)
    replace hP := zl_e hP hZ9
    have hZ9I := zM_u2 hZ7I hZ9 (lo := -2147483648) (hi := 2147483647) (zs_3950_0 (x := ((Z7 2 0 0 3814) % 60)) (by omega) (by omega) (by omega)) (by omega) ⟨by decide, by decide⟩ (by simp only [zsp]; omega)
    have hZ9U : zU [] Z Z9 := zU_u hZ7U hZ9 (Or.inl rfl)
    have hZ9K : zC [2] Z Z9 := zC_u hZ7K hZ9 (zcl_2w (by omega) rfl)
    intro μ9 e9
    replace e9 := e9.trans (zm_wI (Z := Z7) (ν := ν) hZ9 (show ((0 : Nat) : Int) = 0 from rfl) (show ((0 : Nat) : Int) = 0 from rfl) (i3I (y := (3950 + 5 * ((Z7 2 0 0 3814) % 60))) (i3A (show (3950 : Int32) = i3 3950 from rfl) (i3M (show (5 : Int32) = i3 5 from rfl) (i3R (zm_rd (Z := Z7) (ν := ν) (k := 2) (show ((0 : Nat) : Int) = 0 from rfl) (show ((0 : Nat) : Int) = 0 from rfl) (show ((3814 : Nat) : Int) = 3814 from rfl)) (show (60 : Int32) = i3 60 from rfl) (by omega) (by omega) (by omega) (by omega)))) (by omega) (by omega) (by omega)) (rfl : i3 a1 = i3 a1))
    subst e9
    refine wz_i0 (i3O (n := 4400) (i3A (i3A (show (3950 : Int32) = i3 3950 from rfl) (i3M (show (5 : Int32) = i3 5 from rfl) (i3R (zm_rd (Z := Z7) (ν := ν) (k := 2) (show ((0 : Nat) : Int) = 0 from rfl) (show ((0 : Nat) : Int) = 0 from rfl) (show ((3814 : Nat) : Int) = 3814 from rfl)) (show (60 : Int32) = i3 60 from rfl) (by omega) (by omega) (by omega) (by omega)))) (show (1 : Int32) = i3 1 from rfl)) (by omega) (by omega) (by omega)) ?_
    obtain ⟨Z10, hZ10⟩ := zx (zu Z9 2 0 0 (3951 + 5 * ((Z7 2 0 0 3814) % 60)) a2)
    replace hP := zl_e hP hZ10
    have hZ10I := zM_u2 hZ9I hZ10 (lo := -2147483648) (hi := 2147483647) (zs_3950_1 (x := ((Z7 2 0 0 3814) % 60)) (by omega) (by omega) (by omega)) (by omega) ⟨by decide, by decide⟩ (by simp only [zsp]; omega)
    have hZ10U : zU [] Z Z10 := zU_u hZ9U hZ10 (Or.inl rfl)
    have hZ10K : zC [2] Z Z10 := zC_u hZ9K hZ10 (zcl_2w (by omega) rfl)
    intro μ9 e9
    replace e9 := e9.trans (zm_wI (Z := Z9) (ν := ν) hZ10 (show ((0 : Nat) : Int) = 0 from rfl) (show ((0 : Nat) : Int) = 0 from rfl) (i3I (y := (3951 + 5 * ((Z7 2 0 0 3814) % 60))) (i3A (i3A (show (3950 : Int32) = i3 3950 from rfl) (i3M (show (5 : Int32) = i3 5 from rfl) (i3R (zm_rd (Z := Z7) (ν := ν) (k := 2) (show ((0 : Nat) : Int) = 0 from rfl) (show ((0 : Nat) : Int) = 0 from rfl) (show ((3814 : Nat) : Int) = 3814 from rfl)) (show (60 : Int32) = i3 60 from rfl) (by omega) (by omega) (by omega) (by omega)))) (show (1 : Int32) = i3 1 from rfl)) (by omega) (by omega) (by omega)) (rfl : i3 a2 = i3 a2))
    subst e9
    refine wz_i0 (i3O (n := 4400) (i3A (i3A (show (3950 : Int32) = i3 3950 from rfl) (i3M (show (5 : Int32) = i3 5 from rfl) (i3R (zm_rd (Z := Z7) (ν := ν) (k := 2) (show ((0 : Nat) : Int) = 0 from rfl) (show ((0 : Nat) : Int) = 0 from rfl) (show ((3814 : Nat) : Int) = 3814 from rfl)) (show (60 : Int32) = i3 60 from rfl) (by omega) (by omega) (by omega) (by omega)))) (show (2 : Int32) = i3 2 from rfl)) (by omega) (by omega) (by omega)) ?_
    obtain ⟨Z11, hZ11⟩ := zx (zu Z10 2 0 0 (3952 + 5 * ((Z7 2 0 0 3814) % 60)) a3)
    replace hP := zl_e hP hZ11
    have hZ11I := zM_u2 hZ10I hZ11 (lo := -2147483648) (hi := 2147483647) (zs_3950_2 (x := ((Z7 2 0 0 3814) % 60)) (by omega) (by omega) (by omega)) (by omega) ⟨by decide, by decide⟩ (by simp only [zsp]; omega)
    have hZ11U : zU [] Z Z11 := zU_u hZ10U hZ11 (Or.inl rfl)
    have hZ11K : zC [2] Z Z11 := zC_u hZ10K hZ11 (zcl_2w (by omega) rfl)
    intro μ9 e9
    replace e9 := e9.trans (zm_wI (Z := Z10) (ν := ν) hZ11 (show ((0 : Nat) : Int) = 0 from rfl) (show ((0 : Nat) : Int) = 0 from rfl) (i3I (y := (3952 + 5 * ((Z7 2 0 0 3814) % 60))) (i3A (i3A (show (3950 : Int32) = i3 3950 from rfl) (i3M (show (5 : Int32) = i3 5 from rfl) (i3R (zm_rd (Z := Z7) (ν := ν) (k := 2) (show ((0 : Nat) : Int) = 0 from rfl) (show ((0 : Nat) : Int) = 0 from rfl) (show ((3814 : Nat) : Int) = 3814 from rfl)) (show (60 : Int32) = i3 60 from rfl) (by omega) (by omega) (by omega) (by omega)))) (show (2 : Int32) = i3 2 from rfl)) (by omega) (by omega) (by omega)) (rfl : i3 a3 = i3 a3))
    subst e9
    refine wz_i0 (i3O (n := 4400) (i3A (i3A (show (3950 : Int32) = i3 3950 from rfl) (i3M (show (5 : Int32) = i3 5 from rfl) (i3R (zm_rd (Z := Z7) (ν := ν) (k := 2) (show ((0 : Nat) : Int) = 0 from rfl) (show ((0 : Nat) : Int) = 0 from rfl) (show ((3814 : Nat) : Int) = 3814 from rfl)) (show (60 : Int32) = i3 60 from rfl) (by omega) (by omega) (by omega) (by omega)))) (show (3 : Int32) = i3 3 from rfl)) (by omega) (by omega) (by omega)) ?_
    obtain ⟨Z12, hZ12⟩ := zx (zu Z11 2 0 0 (3953 + 5 * ((Z7 2 0 0 3814) % 60)) a4)
    replace hP := zl_e hP hZ12
    have hZ12I := zM_u2 hZ11I hZ12 (lo := -2147483648) (hi := 2147483647) (zs_3950_3 (x := ((Z7 2 0 0 3814) % 60)) (by omega) (by omega) (by omega)) (by omega) ⟨by decide, by decide⟩ (by simp only [zsp]; omega)
    have hZ12U : zU [] Z Z12 := zU_u hZ11U hZ12 (Or.inl rfl)
    have hZ12K : zC [2] Z Z12 := zC_u hZ11K hZ12 (zcl_2w (by omega) rfl)
    intro μ9 e9
    replace e9 := e9.trans (zm_wI (Z := Z11) (ν := ν) hZ12 (show ((0 : Nat) : Int) = 0 from rfl) (show ((0 : Nat) : Int) = 0 from rfl) (i3I (y := (3953 + 5 * ((Z7 2 0 0 3814) % 60))) (i3A (i3A (show (3950 : Int32) = i3 3950 from rfl) (i3M (show (5 : Int32) = i3 5 from rfl) (i3R (zm_rd (Z := Z7) (ν := ν) (k := 2) (show ((0 : Nat) : Int) = 0 from rfl) (show ((0 : Nat) : Int) = 0 from rfl) (show ((3814 : Nat) : Int) = 3814 from rfl)) (show (60 : Int32) = i3 60 from rfl) (by omega) (by omega) (by omega) (by omega)))) (show (3 : Int32) = i3 3 from rfl)) (by omega) (by omega) (by omega)) (rfl : i3 a4 = i3 a4))
    subst e9
    refine wz_i0 (i3O (n := 4400) (i3A (i3A (show (3950 : Int32) = i3 3950 from rfl) (i3M (show (5 : Int32) = i3 5 from rfl) (i3R (zm_rd (Z := Z7) (ν := ν) (k := 2) (show ((0 : Nat) : Int) = 0 from rfl) (show ((0 : Nat) : Int) = 0 from rfl) (show ((3814 : Nat) : Int) = 3814 from rfl)) (show (60 : Int32) = i3 60 from rfl) (by omega) (by omega) (by omega) (by omega)))) (show (4 : Int32) = i3 4 from rfl)) (by omega) (by omega) (by omega)) ?_
    have r13 := zM_k hZ12I 2 0 0 0 (lo := 0) (hi := 671) (by decide) rfl
    obtain ⟨Z14, hZ14⟩ := zx (zu Z12 2 0 0 (3954 + 5 * ((Z7 2 0 0 3814) % 60)) (Z12 2 0 0 0))
    replace hP := zl_e hP hZ14
    have hZ14I := zM_u2 hZ12I hZ14 (lo := -2147483648) (hi := 2147483647) (zs_3950_4 (x := ((Z7 2 0 0 3814) % 60)) (by omega) (by omega) (by omega)) (by omega) ⟨by decide, by decide⟩ (by simp only [zsp]; omega)
    have hZ14U : zU [] Z Z14 := zU_u hZ12U hZ14 (Or.inl rfl)
    have hZ14K : zC [2] Z Z14 := zC_u hZ12K hZ14 (zcl_2w (by omega) rfl)
    intro μ9 e9
    replace e9 := e9.trans (zm_wI (Z := Z12) (ν := ν) hZ14 (show ((0 : Nat) : Int) = 0 from rfl) (show ((0 : Nat) : Int) = 0 from rfl) (i3I (y := (3954 + 5 * ((Z7 2 0 0 3814) % 60))) (i3A (i3A (show (3950 : Int32) = i3 3950 from rfl) (i3M (show (5 : Int32) = i3 5 from rfl) (i3R (zm_rd (Z := Z7) (ν := ν) (k := 2) (show ((0 : Nat) : Int) = 0 from rfl) (show ((0 : Nat) : Int) = 0 from rfl) (show ((3814 : Nat) : Int) = 3814 from rfl)) (show (60 : Int32) = i3 60 from rfl) (by omega) (by omega) (by omega) (by omega)))) (show (4 : Int32) = i3 4 from rfl)) (by omega) (by omega) (by omega)) (zm_rd (Z := Z12) (ν := ν) (k := 2) (show ((0 : Nat) : Int) = 0 from rfl) (show ((0 : Nat) : Int) = 0 from rfl) (show ((0 : Nat) : Int) = 0 from rfl)))
    subst e9
    have r15 := zM_ct hZ14I (zbh (c := 0) (k := 0) hM (Nat.le_of_ble_eq_true rfl))
    have q16 := (zu_ne (k' := 2) (b' := 0) (i' := 0) (j' := 3814) hZ14 (fun q => absurd q.2.2.2 (by omega))).trans ((zu_ne (k' := 2) (b' := 0) (i' := 0) (j' := 3814) hZ12 (fun q => absurd q.2.2.2 (by omega))).trans ((zu_ne (k' := 2) (b' := 0) (i' := 0) (j' := 3814) hZ11 (fun q => absurd q.2.2.2 (by omega))).trans ((zu_ne (k' := 2) (b' := 0) (i' := 0) (j' := 3814) hZ10 (fun q => absurd q.2.2.2 (by omega))).trans (zu_ne (k' := 2) (b' := 0) (i' := 0) (j' := 3814) hZ9 (fun q => absurd q.2.2.2 (by omega))))))
    obtain ⟨Z17, hZ17⟩ := zx (zu Z14 2 0 0 3814 ((Z14 2 0 0 3814) + 1))
    replace hP := zl_e hP hZ17
    have hZ17I := zM_ic hZ14I hZ17 (zbh (c := 0) (k := 1) hM (Nat.le_of_ble_eq_true rfl)) (by omega)
    have hZ17U : zU [] Z Z17 := zU_u hZ14U hZ17 (Or.inl rfl)
    have hZ17K : zC [2] Z Z17 := zC_u hZ14K hZ17 (by decide)
    intro μ9 e9
    replace e9 := e9.trans (zm_wI (Z := Z14) (ν := ν) hZ17 (show ((0 : Nat) : Int) = 0 from rfl) (show ((0 : Nat) : Int) = 0 from rfl) (show ((3814 : Nat) : Int) = 3814 from rfl) (i3A (zm_rd (Z := Z14) (ν := ν) (k := 2) (show ((0 : Nat) : Int) = 0 from rfl) (show ((0 : Nat) : Int) = 0 from rfl) (show ((3814 : Nat) : Int) = 3814 from rfl)) (show (1 : Int32) = i3 1 from rfl)))
    subst e9
    exact zlV hP ⟨hZ17I, hZ17K, hZ17U⟩
  · replace hP := zE_n hP h1
    exact zlV hP ⟨(zmw (a := 0) (c := 1) hZ (Nat.le_of_ble_eq_true rfl)), zC_r, zU_r⟩
/- y by hand: what an entry leaves alone -/
theorem zk_403 {Z Z1 : qz_Z} {a1 a2 a3 a4 j : Int} (h : Z1 = zf_403 Z a1 a2 a3 a4) (h1 : 0 ≤ a1) (h2 : 0 ≤ a2) (hj : j < 3800) : Z1 2 0 0 j = Z 2 0 0 j := by
  unfold zf_403 at h
  split at h
  · simp only [zlet] at h
    rw [h]
    repeat rw [zu_ne rfl (fun q => absurd q.2.2.2 (by omega))]
  · rw [h]
/- yX12_kFee -/
def zf_404 (Z : qz_Z) (a1 : Int) : Int := ((((Z 2 0 0 (2013 + 16 * a1)) * (Z 2 0 0 (2015 + 16 * a1))) * (Z 2 0 0 (140 + 2 * (Z 2 0 0 (200 + 20 * (Z 2 0 0 (2010 + 16 * a1))))))) / 100)
theorem sp_404 {s : zSM} {Z : qz_Z} {ν : qz_N} (hZ : zM s Z) {a1 : Int} (ga1 : 0 ≤ a1 ∧ a1 ≤ 59) (hM : s.2 + 0 ≤ 1000000000) : ∃ P : Int, P = zf_404 Z a1 ∧ (qf_404 [.inr (.inr (some (1, 0, 0))), .inl (i3 a1)] (zm Z ν) = some (zm Z ν, .inl (some (.inl (i3 P)))) ∧ 0 ≤ P ∧ P ≤ 99990) := by
  obtain ⟨P, hP⟩ := zx (zf_404 Z a1)
  refine zc_R (Q := fun P => 0 ≤ P ∧ P ≤ 99990) hP (fw_404 (i3 a1) _ _ ?_)
  replace hP : zE P (zf_404 Z a1) := hP
  unfold zf_404 at hP
  refine wz_i0 (i3O (n := 4400) (i3A (i3A (show (2010 : Int32) = i3 2010 from rfl) (i3M (show (16 : Int32) = i3 16 from rfl) (rfl : i3 a1 = i3 a1))) (show (3 : Int32) = i3 3 from rfl)) (by omega) (by omega) (by omega)) ?_
  refine wz_i0 (i3O (n := 4400) (i3A (i3A (show (2010 : Int32) = i3 2010 from rfl) (i3M (show (16 : Int32) = i3 16 from rfl) (rfl : i3 a1 = i3 a1))) (show (5 : Int32) = i3 5 from rfl)) (by omega) (by omega) (by omega)) ?_
  refine wz_i0 (i3O (n := 4400) (i3A (i3A (show (2010 : Int32) = i3 2010 from rfl) (i3M (show (16 : Int32) = i3 16 from rfl) (rfl : i3 a1 = i3 a1))) (show (0 : Int32) = i3 0 from rfl)) (by omega) (by omega) (by omega)) ?_
  have r1 := zM_k hZ 2 0 0 (2010 + 16 * a1) (lo := 0) (hi := 47) (by decide) (zs_2010_0 (x := a1) (by omega) (by omega) (by omega))
  refine wz_i0 (i3O (n := 4400) (i3A (i3A (show (200 : Int32) = i3 200 from rfl) (i3M (show (20 : Int32) = i3 20 from rfl) (zm_rd (Z := Z) (ν := ν) (k := 2) (show ((0 : Nat) : Int) = 0 from rfl) (show ((0 : Nat) : Int) = 0 from rfl) (i3I (y := (2010 + 16 * a1)) (i3A (i3A (show (2010 : Int32) = i3 2010 from rfl) (i3M (show (16 : Int32) = i3 16 from rfl) (rfl : i3 a1 = i3 a1))) (show (0 : Int32) = i3 0 from rfl)) (by omega) (by omega) (by omega))))) (show (0 : Int32) = i3 0 from rfl)) (by omega) (by omega) (by omega)) ?_
  have r2 := zM_k hZ 2 0 0 (200 + 20 * (Z 2 0 0 (2010 + 16 * a1))) (lo := 0) (hi := 5) (by decide) (zs_200_0 (x := (Z 2 0 0 (2010 + 16 * a1))) (by omega) (by omega) (by omega))
  refine wz_i0 (i3O (n := 4400) (i3A (show (140 : Int32) = i3 140 from rfl) (i3M (show (2 : Int32) = i3 2 from rfl) (zm_rd (Z := Z) (ν := ν) (k := 2) (show ((0 : Nat) : Int) = 0 from rfl) (show ((0 : Nat) : Int) = 0 from rfl) (i3I (y := (200 + 20 * (Z 2 0 0 (2010 + 16 * a1)))) (i3A (i3A (show (200 : Int32) = i3 200 from rfl) (i3M (show (20 : Int32) = i3 20 from rfl) (zm_rd (Z := Z) (ν := ν) (k := 2) (show ((0 : Nat) : Int) = 0 from rfl) (show ((0 : Nat) : Int) = 0 from rfl) (i3I (y := (2010 + 16 * a1)) (i3A (i3A (show (2010 : Int32) = i3 2010 from rfl) (i3M (show (16 : Int32) = i3 16 from rfl) (rfl : i3 a1 = i3 a1))) (show (0 : Int32) = i3 0 from rfl)) (by omega) (by omega) (by omega))))) (show (0 : Int32) = i3 0 from rfl)) (by omega) (by omega) (by omega))))) (by omega) (by omega) (by omega)) ?_
  have r3 := zM_k hZ 2 0 0 (2013 + 16 * a1) (lo := 0) (hi := 40) (by decide) (zs_2010_3 (x := a1) (by omega) (by omega) (by omega))
  have r4 := zM_cr hZ a1
  have r5 := zM_k hZ 2 0 0 2000 (lo := 0) (hi := 60) (by decide) rfl
  have r6 := zM_k hZ 2 0 0 (2015 + 16 * a1) (lo := 0) (hi := 9999) (by decide) (zs_2010_5 (x := a1) (by omega) (by omega) (by omega))
  have r7 := z_mul (x := (Z 2 0 0 (2013 + 16 * a1))) (y := (Z 2 0 0 (2015 + 16 * a1))) (a := 40) (b := 9999) (by omega) (by omega) (by omega) (by omega)
  have r8 := zM_k hZ 2 0 0 (140 + 2 * (Z 2 0 0 (200 + 20 * (Z 2 0 0 (2010 + 16 * a1))))) (lo := 0) (hi := 25) (by decide) (zs_140_0 (x := (Z 2 0 0 (200 + 20 * (Z 2 0 0 (2010 + 16 * a1))))) (by omega) (by omega) (by omega))
  have r9 := z_mul (x := ((Z 2 0 0 (2013 + 16 * a1)) * (Z 2 0 0 (2015 + 16 * a1)))) (y := (Z 2 0 0 (140 + 2 * (Z 2 0 0 (200 + 20 * (Z 2 0 0 (2010 + 16 * a1))))))) (a := 399960) (b := 25) (by omega) (by omega) (by omega) (by omega)
  exact zlR hP (i3D (i3M (i3M (zm_rd (Z := Z) (ν := ν) (k := 2) (show ((0 : Nat) : Int) = 0 from rfl) (show ((0 : Nat) : Int) = 0 from rfl) (i3I (y := (2013 + 16 * a1)) (i3A (i3A (show (2010 : Int32) = i3 2010 from rfl) (i3M (show (16 : Int32) = i3 16 from rfl) (rfl : i3 a1 = i3 a1))) (show (3 : Int32) = i3 3 from rfl)) (by omega) (by omega) (by omega))) (zm_rd (Z := Z) (ν := ν) (k := 2) (show ((0 : Nat) : Int) = 0 from rfl) (show ((0 : Nat) : Int) = 0 from rfl) (i3I (y := (2015 + 16 * a1)) (i3A (i3A (show (2010 : Int32) = i3 2010 from rfl) (i3M (show (16 : Int32) = i3 16 from rfl) (rfl : i3 a1 = i3 a1))) (show (5 : Int32) = i3 5 from rfl)) (by omega) (by omega) (by omega)))) (zm_rd (Z := Z) (ν := ν) (k := 2) (show ((0 : Nat) : Int) = 0 from rfl) (show ((0 : Nat) : Int) = 0 from rfl) (i3I (y := (140 + 2 * (Z 2 0 0 (200 + 20 * (Z 2 0 0 (2010 + 16 * a1)))))) (i3A (show (140 : Int32) = i3 140 from rfl) (i3M (show (2 : Int32) = i3 2 from rfl) (zm_rd (Z := Z) (ν := ν) (k := 2) (show ((0 : Nat) : Int) = 0 from rfl) (show ((0 : Nat) : Int) = 0 from rfl) (i3I (y := (200 + 20 * (Z 2 0 0 (2010 + 16 * a1)))) (i3A (i3A (show (200 : Int32) = i3 200 from rfl) (i3M (show (20 : Int32) = i3 20 from rfl) (zm_rd (Z := Z) (ν := ν) (k := 2) (show ((0 : Nat) : Int) = 0 from rfl) (show ((0 : Nat) : Int) = 0 from rfl) (i3I (y := (2010 + 16 * a1)) (i3A (i3A (show (2010 : Int32) = i3 2010 from rfl) (i3M (show (16 : Int32) = i3 16 from rfl) (rfl : i3 a1 = i3 a1))) (show (0 : Int32) = i3 0 from rfl)) (by omega) (by omega) (by omega))))) (show (0 : Int32) = i3 0 from rfl)) (by omega) (by omega) (by omega))))) (by omega) (by omega) (by omega)))) (show (100 : Int32) = i3 100 from rfl) (by omega) (by omega) (by omega) (by omega)) ⟨by omega, by omega⟩
/- yX12_kSold -/
def zf_419 (Z : qz_Z) (a1 : Int) : qz_Z := (zlet (zf_403 Z 2 1 ((Z 2 0 0 (2013 + 16 * a1)) * (Z 2 0 0 (2015 + 16 * a1))) (Z 2 0 0 (2010 + 16 * a1))) (fun Z7 => (zlet (zf_404 Z7 a1) (fun v8 => (zlet (zf_403 Z7 3 2 v8 (Z 2 0 0 (2010 + 16 * a1))) (fun Z9 => (zlet (zf_404 Z9 a1) (fun v11 => (zlet (zu Z9 2 0 0 (3820 + 5 * (Z 2 0 0 (200 + 20 * (Z 2 0 0 (2010 + 16 * a1))))) (w3 ((Z9 2 0 0 (3820 + 5 * (Z 2 0 0 (200 + 20 * (Z 2 0 0 (2010 + 16 * a1)))))) + (((Z9 2 0 0 (2013 + 16 * a1)) * (Z9 2 0 0 (2015 + 16 * a1))) - v11)))) (fun Z19 => (zlet (zu Z19 2 0 0 (3821 + 5 * (Z 2 0 0 (200 + 20 * (Z 2 0 0 (2010 + 16 * a1))))) (w3 ((Z19 2 0 0 (3821 + 5 * (Z 2 0 0 (200 + 20 * (Z 2 0 0 (2010 + 16 * a1)))))) + ((Z19 2 0 0 (2013 + 16 * a1)) * (Z19 2 0 0 (2015 + 16 * a1)))))) (fun Z30 => (zlet (zf_404 Z30 a1) (fun v31 => (zlet (zu Z30 2 0 0 (3822 + 5 * (Z 2 0 0 (200 + 20 * (Z 2 0 0 (2010 + 16 * a1))))) (w3 ((Z30 2 0 0 (3822 + 5 * (Z 2 0 0 (200 + 20 * (Z 2 0 0 (2010 + 16 * a1)))))) + v31))) (fun Z34 => Z34))))))))))))))))
theorem sp_419 {s : zSM} {Z : qz_Z} {ν : qz_N} (hZ : zM s Z) {a1 : Int} (ga1 : 0 ≤ a1 ∧ a1 ≤ 59) (hM : s.2 + 2 ≤ 1000000000) : ∃ P : qz_Z, P = zf_419 Z a1 ∧ (qf_419 [.inr (.inr (some (1, 0, 0))), .inl (i3 a1)] (zm Z ν) = some (zm P ν, .inl none) ∧ zM (zb s 2) P ∧ zC [2] Z P ∧ zU [] Z P) := by
  obtain ⟨P, hP⟩ := zx (zf_419 Z a1)
  refine zc_V (Q := fun P => zM (zb s 2) P ∧ zC [2] Z P ∧ zU [] Z P) hP (fw_419 (i3 a1) _ _ ?_)
  replace hP : zE P (zf_419 Z a1) := hP
  unfold zf_419 at hP
  refine wz_i0 (i3O (n := 4400) (i3A (i3A (show (2010 : Int32) = i3 2010 from rfl) (i3M (show (16 : Int32) = i3 16 from rfl) (rfl : i3 a1 = i3 a1))) (show (0 : Int32) = i3 0 from rfl)) (by omega) (by omega) (by omega)) ?_
  refine wz_i0 (i3O (n := 4400) (i3A (i3A (show (2010 : Int32) = i3 2010 from rfl) (i3M (show (16 : Int32) = i3 16 from rfl) (rfl : i3 a1 = i3 a1))) (show (0 : Int32) = i3 0 from rfl)) (by omega) (by omega) (by omega)) ?_
  have r1 := zM_k hZ 2 0 0 (2010 + 16 * a1) (lo := 0) (hi := 47) (by decide) (zs_2010_0 (x := a1) (by omega) (by omega) (by omega))
  refine wz_i0 (i3O (n := 4400) (i3A (i3A (show (200 : Int32) = i3 200 from rfl) (i3M (show (20 : Int32) = i3 20 from rfl) (zm_rd (Z := Z) (ν := ν) (k := 2) (show ((0 : Nat) : Int) = 0 from rfl) (show ((0 : Nat) : Int) = 0 from rfl) (i3I (y := (2010 + 16 * a1)) (i3A (i3A (show (2010 : Int32) = i3 2010 from rfl) (i3M (show (16 : Int32) = i3 16 from rfl) (rfl : i3 a1 = i3 a1))) (show (0 : Int32) = i3 0 from rfl)) (by omega) (by omega) (by omega))))) (show (0 : Int32) = i3 0 from rfl)) (by omega) (by omega) (by omega)) ?_
  refine wz_i0 (i3O (n := 4400) (i3A (i3A (show (2010 : Int32) = i3 2010 from rfl) (i3M (show (16 : Int32) = i3 16 from rfl) (rfl : i3 a1 = i3 a1))) (show (3 : Int32) = i3 3 from rfl)) (by omega) (by omega) (by omega)) ?_
  refine wz_i0 (i3O (n := 4400) (i3A (i3A (show (2010 : Int32) = i3 2010 from rfl) (i3M (show (16 : Int32) = i3 16 from rfl) (rfl : i3 a1 = i3 a1))) (show (5 : Int32) = i3 5 from rfl)) (by omega) (by omega) (by omega)) ?_
  have r2 := zM_k hZ 2 0 0 (2013 + 16 * a1) (lo := 0) (hi := 40) (by decide) (zs_2010_3 (x := a1) (by omega) (by omega) (by omega))
  have r3 := zM_cr hZ a1
  have r4 := zM_k hZ 2 0 0 2000 (lo := 0) (hi := 60) (by decide) rfl
  have r5 := zM_k hZ 2 0 0 (2015 + 16 * a1) (lo := 0) (hi := 9999) (by decide) (zs_2010_5 (x := a1) (by omega) (by omega) (by omega))
  have r6 := z_mul (x := (Z 2 0 0 (2013 + 16 * a1))) (y := (Z 2 0 0 (2015 + 16 * a1))) (a := 40) (b := 9999) (by omega) (by omega) (by omega) (by omega)
  obtain ⟨Z7, hZ7, c9, hZ7I, kZ7, jZ7⟩ := sp_403 (ν := ν) hZ (a1 := 2) (by omega) (a2 := 1) (by omega) (a3 := ((Z 2 0 0 (2013 + 16 * a1)) * (Z 2 0 0 (2015 + 16 * a1)))) (by omega) (a4 := (Z 2 0 0 (2010 + 16 * a1))) (by omega) (zbh (c := 0) (k := 1) hM (Nat.le_of_ble_eq_true rfl))
  have hZ7U : zU [] Z Z7 := zU_t zU_r jZ7 zU_b0
  have hZ7K : zC [2] Z Z7 := zC_t zC_r kZ7 (by decide)
  replace hP := zl_e hP hZ7
  refine wz_cV_of (zas (zcons rfl (zcons (zvi (show (2 : Int32) = i3 2 from rfl)) (zcons (zvi (show (1 : Int32) = i3 1 from rfl)) (zcons (zvi (i3M (zm_rd (Z := Z) (ν := ν) (k := 2) (show ((0 : Nat) : Int) = 0 from rfl) (show ((0 : Nat) : Int) = 0 from rfl) (i3I (y := (2013 + 16 * a1)) (i3A (i3A (show (2010 : Int32) = i3 2010 from rfl) (i3M (show (16 : Int32) = i3 16 from rfl) (rfl : i3 a1 = i3 a1))) (show (3 : Int32) = i3 3 from rfl)) (by omega) (by omega) (by omega))) (zm_rd (Z := Z) (ν := ν) (k := 2) (show ((0 : Nat) : Int) = 0 from rfl) (show ((0 : Nat) : Int) = 0 from rfl) (i3I (y := (2015 + 16 * a1)) (i3A (i3A (show (2010 : Int32) = i3 2010 from rfl) (i3M (show (16 : Int32) = i3 16 from rfl) (rfl : i3 a1 = i3 a1))) (show (5 : Int32) = i3 5 from rfl)) (by omega) (by omega) (by omega))))) (zcons (zvi (zm_rd (Z := Z) (ν := ν) (k := 2) (show ((0 : Nat) : Int) = 0 from rfl) (show ((0 : Nat) : Int) = 0 from rfl) (i3I (y := (2010 + 16 * a1)) (i3A (i3A (show (2010 : Int32) = i3 2010 from rfl) (i3M (show (16 : Int32) = i3 16 from rfl) (rfl : i3 a1 = i3 a1))) (show (0 : Int32) = i3 0 from rfl)) (by omega) (by omega) (by omega)))) rfl))))) c9) ?_
  clear c9
  obtain ⟨v8, hv8, c9, lv8, uv8⟩ := sp_404 (ν := ν) hZ7I (a1 := a1) (by omega) (zbh (c := 1) (k := 0) hM (Nat.le_of_ble_eq_true rfl))
  replace hP := zl_e hP hv8
  refine wz_cI_of (zas (zcons rfl (zcons (zvi (rfl : i3 a1 = i3 a1)) rfl)) c9) ?_
  clear c9
  obtain ⟨Z9, hZ9, c9, hZ9I, kZ9, jZ9⟩ := sp_403 (ν := ν) hZ7I (a1 := 3) (by omega) (a2 := 2) (by omega) (a3 := v8) (by omega) (a4 := (Z 2 0 0 (2010 + 16 * a1))) (by omega) (zbh (c := 1) (k := 1) hM (Nat.le_of_ble_eq_true rfl))
  have hZ9U : zU [] Z Z9 := zU_t hZ7U jZ9 zU_b0
  have hZ9K : zC [2] Z Z9 := zC_t hZ7K kZ9 (by decide)
  replace hZ9I := zmt (c := 2) hZ9I rfl
  replace hP := zl_e hP hZ9
  refine wz_cV_of (zas (zcons rfl (zcons (zvi (show (3 : Int32) = i3 3 from rfl)) (zcons (zvi (show (2 : Int32) = i3 2 from rfl)) (zcons (zvi (rfl : i3 v8 = i3 v8)) (zcons (zvi (zm_rd (Z := Z) (ν := ν) (k := 2) (show ((0 : Nat) : Int) = 0 from rfl) (show ((0 : Nat) : Int) = 0 from rfl) (i3I (y := (2010 + 16 * a1)) (i3A (i3A (show (2010 : Int32) = i3 2010 from rfl) (i3M (show (16 : Int32) = i3 16 from rfl) (rfl : i3 a1 = i3 a1))) (show (0 : Int32) = i3 0 from rfl)) (by omega) (by omega) (by omega)))) rfl))))) c9) ?_
  clear c9
  have r10 := zM_k hZ 2 0 0 (200 + 20 * (Z 2 0 0 (2010 + 16 * a1))) (lo := 0) (hi := 5) (by decide) (zs_200_0 (x := (Z 2 0 0 (2010 + 16 * a1))) (by omega) (by omega) (by omega))
  refine wz_i0 (i3O (n := 4400) (i3A (i3A (show (3820 : Int32) = i3 3820 from rfl) (i3M (show (5 : Int32) = i3 5 from rfl) (zm_rd (Z := Z) (ν := ν) (k := 2) (show ((0 : Nat) : Int) = 0 from rfl) (show ((0 : Nat) : Int) = 0 from rfl) (i3I (y := (200 + 20 * (Z 2 0 0 (2010 + 16 * a1)))) (i3A (i3A (show (200 : Int32) = i3 200 from rfl) (i3M (show (20 : Int32) = i3 20 from rfl) (zm_rd (Z := Z) (ν := ν) (k := 2) (show ((0 : Nat) : Int) = 0 from rfl) (show ((0 : Nat) : Int) = 0 from rfl) (i3I (y := (2010 + 16 * a1)) (i3A (i3A (show (2010 : Int32) = i3 2010 from rfl) (i3M (show (16 : Int32) = i3 16 from rfl) (rfl : i3 a1 = i3 a1))) (show (0 : Int32) = i3 0 from rfl)) (by omega) (by omega) (by omega))))) (show (0 : Int32) = i3 0 from rfl)) (by omega) (by omega) (by omega))))) (show (0 : Int32) = i3 0 from rfl)) (by omega) (by omega) (by omega)) ?_
  refine wz_i0 (i3O (n := 4400) (i3A (i3A (show (2010 : Int32) = i3 2010 from rfl) (i3M (show (16 : Int32) = i3 16 from rfl) (rfl : i3 a1 = i3 a1))) (show (3 : Int32) = i3 3 from rfl)) (by omega) (by omega) (by omega)) ?_
  refine wz_i0 (i3O (n := 4400) (i3A (i3A (show (2010 : Int32) = i3 2010 from rfl) (i3M (show (16 : Int32) = i3 16 from rfl) (rfl : i3 a1 = i3 a1))) (show (5 : Int32) = i3 5 from rfl)) (by omega) (by omega) (by omega)) ?_
  obtain ⟨v11, hv11, c9, lv11, uv11⟩ := sp_404 (ν := ν) hZ9I (a1 := a1) (by omega) (zbh (c := 2) (k := 0) hM (Nat.le_of_ble_eq_true rfl))
  replace hP := zl_e hP hv11
  refine wz_cI_of (zas (zcons rfl (zcons (zvi (rfl : i3 a1 = i3 a1)) rfl)) c9) ?_
  clear c9
  refine wz_i0 (i3O (n := 4400) (i3A (i3A (show (3820 : Int32) = i3 3820 from rfl) (i3M (show (5 : Int32) = i3 5 from rfl) (zm_rd (Z := Z) (ν := ν) (k := 2) (show ((0 : Nat) : Int) = 0 from rfl) (show ((0 : Nat) : Int) = 0 from rfl) (i3I (y := (200 + 20 * (Z 2 0 0 (2010 + 16 * a1)))) (i3A (i3A (show (200 : Int32) = i3 200 from rfl) (i3M (show (20 : Int32) = i3 20 from rfl) (zm_rd (Z := Z) (ν := ν) (k := 2) (show ((0 : Nat) : Int) = 0 from rfl) (show ((0 : Nat) : Int) = 0 from rfl) (i3I (y := (2010 + 16 * a1)) (i3A (i3A (show (2010 : Int32) = i3 2010 from rfl) (i3M (show (16 : Int32) = i3 16 from rfl) (rfl : i3 a1 = i3 a1))) (show (0 : Int32) = i3 0 from rfl)) (by omega) (by omega) (by omega))))) (show (0 : Int32) = i3 0 from rfl)) (by omega) (by omega) (by omega))))) (show (0 : Int32) = i3 0 from rfl)) (by omega) (by omega) (by omega)) ?_
  have r12 := zM_f hZ9I 2 0 0 (3820 + 5 * (Z 2 0 0 (200 + 20 * (Z 2 0 0 (2010 + 16 * a1)))))
  have r13 := zM_k hZ9I 2 0 0 (2013 + 16 * a1) (lo := 0) (hi := 40) (by decide) (zs_2010_3 (x := a1) (by omega) (by omega) (by omega))
  have r14 := zM_cr hZ9I a1
  have r15 := zM_k hZ9I 2 0 0 2000 (lo := 0) (hi := 60) (by decide) rfl
  have r16 := zM_k hZ9I 2 0 0 (2015 + 16 * a1) (lo := 0) (hi := 9999) (by decide) (zs_2010_5 (x := a1) (by omega) (by omega) (by omega))
  have r17 := z_mul (x := (Z9 2 0 0 (2013 + 16 * a1))) (y := (Z9 2 0 0 (2015 + 16 * a1))) (a := 40) (b := 9999) (by omega) (by omega) (by omega) (by omega)
  have r18 := w3_r ((Z9 2 0 0 (3820 + 5 * (Z 2 0 0 (200 + 20 * (Z 2 0 0 (2010 + 16 * a1)))))) + (((Z9 2 0 0 (2013 + 16 * a1)) * (Z9 2 0 0 (2015 + 16 * a1))) - v11))
  obtain ⟨Z19, hZ19⟩ := zx (zu Z9 2 0 0 (3820 + 5 * (Z 2 0 0 (200 + 20 * (Z 2 0 0 (2010 + 16 * a1))))) (w3 ((Z9 2 0 0 (3820 + 5 * (Z 2 0 0 (200 + 20 * (Z 2 0 0 (2010 + 16 * a1)))))) + (((Z9 2 0 0 (2013 + 16 * a1)) * (Z9 2 0 0 (2015 + 16 * a1))) - v11))))
  replace hP := zl_e hP hZ19
  have hZ19I := zM_u2 hZ9I hZ19 (lo := -2147483648) (hi := 2147483647) (zs_3820_0 (x := (Z 2 0 0 (200 + 20 * (Z 2 0 0 (2010 + 16 * a1))))) (by omega) (by omega) (by omega)) (by omega) ⟨by decide, by decide⟩ (by simp only [zsp]; omega)
  have hZ19U : zU [] Z Z19 := zU_u hZ9U hZ19 (Or.inl rfl)
  have hZ19K : zC [2] Z Z19 := zC_u hZ9K hZ19 (zcl_2w (by omega) rfl)
  intro μ9 e9
  replace e9 := e9.trans (zm_wI (Z := Z9) (ν := ν) hZ19 (show ((0 : Nat) : Int) = 0 from rfl) (show ((0 : Nat) : Int) = 0 from rfl) (i3I (y := (3820 + 5 * (Z 2 0 0 (200 + 20 * (Z 2 0 0 (2010 + 16 * a1)))))) (i3A (i3A (show (3820 : Int32) = i3 3820 from rfl) (i3M (show (5 : Int32) = i3 5 from rfl) (zm_rd (Z := Z) (ν := ν) (k := 2) (show ((0 : Nat) : Int) = 0 from rfl) (show ((0 : Nat) : Int) = 0 from rfl) (i3I (y := (200 + 20 * (Z 2 0 0 (2010 + 16 * a1)))) (i3A (i3A (show (200 : Int32) = i3 200 from rfl) (i3M (show (20 : Int32) = i3 20 from rfl) (zm_rd (Z := Z) (ν := ν) (k := 2) (show ((0 : Nat) : Int) = 0 from rfl) (show ((0 : Nat) : Int) = 0 from rfl) (i3I (y := (2010 + 16 * a1)) (i3A (i3A (show (2010 : Int32) = i3 2010 from rfl) (i3M (show (16 : Int32) = i3 16 from rfl) (rfl : i3 a1 = i3 a1))) (show (0 : Int32) = i3 0 from rfl)) (by omega) (by omega) (by omega))))) (show (0 : Int32) = i3 0 from rfl)) (by omega) (by omega) (by omega))))) (show (0 : Int32) = i3 0 from rfl)) (by omega) (by omega) (by omega)) (i3W (i3A (zm_rd (Z := Z9) (ν := ν) (k := 2) (show ((0 : Nat) : Int) = 0 from rfl) (show ((0 : Nat) : Int) = 0 from rfl) (i3I (y := (3820 + 5 * (Z 2 0 0 (200 + 20 * (Z 2 0 0 (2010 + 16 * a1)))))) (i3A (i3A (show (3820 : Int32) = i3 3820 from rfl) (i3M (show (5 : Int32) = i3 5 from rfl) (zm_rd (Z := Z) (ν := ν) (k := 2) (show ((0 : Nat) : Int) = 0 from rfl) (show ((0 : Nat) : Int) = 0 from rfl) (i3I (y := (200 + 20 * (Z 2 0 0 (2010 + 16 * a1)))) (i3A (i3A (show (200 : Int32) = i3 200 from rfl) (i3M (show (20 : Int32) = i3 20 from rfl) (zm_rd (Z := Z) (ν := ν) (k := 2) (show ((0 : Nat) : Int) = 0 from rfl) (show ((0 : Nat) : Int) = 0 from rfl) (i3I (y := (2010 + 16 * a1)) (i3A (i3A (show (2010 : Int32) = i3 2010 from rfl) (i3M (show (16 : Int32) = i3 16 from rfl) (rfl : i3 a1 = i3 a1))) (show (0 : Int32) = i3 0 from rfl)) (by omega) (by omega) (by omega))))) (show (0 : Int32) = i3 0 from rfl)) (by omega) (by omega) (by omega))))) (show (0 : Int32) = i3 0 from rfl)) (by omega) (by omega) (by omega))) (i3S (i3M (zm_rd (Z := Z9) (ν := ν) (k := 2) (show ((0 : Nat) : Int) = 0 from rfl) (show ((0 : Nat) : Int) = 0 from rfl) (i3I (y := (2013 + 16 * a1)) (i3A (i3A (show (2010 : Int32) = i3 2010 from rfl) (i3M (show (16 : Int32) = i3 16 from rfl) (rfl : i3 a1 = i3 a1))) (show (3 : Int32) = i3 3 from rfl)) (by omega) (by omega) (by omega))) (zm_rd (Z := Z9) (ν := ν) (k := 2) (show ((0 : Nat) : Int) = 0 from rfl) (show ((0 : Nat) : Int) = 0 from rfl) (i3I (y := (2015 + 16 * a1)) (i3A (i3A (show (2010 : Int32) = i3 2010 from rfl) (i3M (show (16 : Int32) = i3 16 from rfl) (rfl : i3 a1 = i3 a1))) (show (5 : Int32) = i3 5 from rfl)) (by omega) (by omega) (by omega)))) (rfl : i3 v11 = i3 v11)))))
  subst e9
  refine wz_i0 (i3O (n := 4400) (i3A (i3A (show (3820 : Int32) = i3 3820 from rfl) (i3M (show (5 : Int32) = i3 5 from rfl) (zm_rd (Z := Z) (ν := ν) (k := 2) (show ((0 : Nat) : Int) = 0 from rfl) (show ((0 : Nat) : Int) = 0 from rfl) (i3I (y := (200 + 20 * (Z 2 0 0 (2010 + 16 * a1)))) (i3A (i3A (show (200 : Int32) = i3 200 from rfl) (i3M (show (20 : Int32) = i3 20 from rfl) (zm_rd (Z := Z) (ν := ν) (k := 2) (show ((0 : Nat) : Int) = 0 from rfl) (show ((0 : Nat) : Int) = 0 from rfl) (i3I (y := (2010 + 16 * a1)) (i3A (i3A (show (2010 : Int32) = i3 2010 from rfl) (i3M (show (16 : Int32) = i3 16 from rfl) (rfl : i3 a1 = i3 a1))) (show (0 : Int32) = i3 0 from rfl)) (by omega) (by omega) (by omega))))) (show (0 : Int32) = i3 0 from rfl)) (by omega) (by omega) (by omega))))) (show (1 : Int32) = i3 1 from rfl)) (by omega) (by omega) (by omega)) ?_
  refine wz_i0 (i3O (n := 4400) (i3A (i3A (show (2010 : Int32) = i3 2010 from rfl) (i3M (show (16 : Int32) = i3 16 from rfl) (rfl : i3 a1 = i3 a1))) (show (3 : Int32) = i3 3 from rfl)) (by omega) (by omega) (by omega)) ?_
  refine wz_i0 (i3O (n := 4400) (i3A (i3A (show (2010 : Int32) = i3 2010 from rfl) (i3M (show (16 : Int32) = i3 16 from rfl) (rfl : i3 a1 = i3 a1))) (show (5 : Int32) = i3 5 from rfl)) (by omega) (by omega) (by omega)) ?_
  refine wz_i0 (i3O (n := 4400) (i3A (i3A (show (3820 : Int32) = i3 3820 from rfl) (i3M (show (5 : Int32) = i3 5 from rfl) (zm_rd (Z := Z) (ν := ν) (k := 2) (show ((0 : Nat) : Int) = 0 from rfl) (show ((0 : Nat) : Int) = 0 from rfl) (i3I (y := (200 + 20 * (Z 2 0 0 (2010 + 16 * a1)))) (i3A (i3A (show (200 : Int32) = i3 200 from rfl) (i3M (show (20 : Int32) = i3 20 from rfl) (zm_rd (Z := Z) (ν := ν) (k := 2) (show ((0 : Nat) : Int) = 0 from rfl) (show ((0 : Nat) : Int) = 0 from rfl) (i3I (y := (2010 + 16 * a1)) (i3A (i3A (show (2010 : Int32) = i3 2010 from rfl) (i3M (show (16 : Int32) = i3 16 from rfl) (rfl : i3 a1 = i3 a1))) (show (0 : Int32) = i3 0 from rfl)) (by omega) (by omega) (by omega))))) (show (0 : Int32) = i3 0 from rfl)) (by omega) (by omega) (by omega))))) (show (1 : Int32) = i3 1 from rfl)) (by omega) (by omega) (by omega)) ?_
  have r20 := zM_f hZ19I 2 0 0 (3821 + 5 * (Z 2 0 0 (200 + 20 * (Z 2 0 0 (2010 + 16 * a1)))))
  have r21 := zM_k hZ19I 2 0 0 (2013 + 16 * a1) (lo := 0) (hi := 40) (by decide) (zs_2010_3 (x := a1) (by omega) (by omega) (by omega))
  have r22 := zM_cr hZ19I a1
  have r23 := zM_k hZ19I 2 0 0 2000 (lo := 0) (hi := 60) (by decide) rfl
  have q24 := zu_ne (k' := 2) (b' := 0) (i' := 0) (j' := 2000) hZ19 (fun q => absurd q.2.2.2 (by omega))
  have q25 := zu_ne (k' := 2) (b' := 0) (i' := 0) (j' := (2013 + 16 * a1)) hZ19 (fun q => absurd q.2.2.2 (by omega))
  have r26 := zM_k hZ19I 2 0 0 (2015 + 16 * a1) (lo := 0) (hi := 9999) (by decide) (zs_2010_5 (x := a1) (by omega) (by omega) (by omega))
  have q27 := zu_ne (k' := 2) (b' := 0) (i' := 0) (j' := (2015 + 16 * a1)) hZ19 (fun q => absurd q.2.2.2 (by omega))
  have r28 := z_mul (x := (Z19 2 0 0 (2013 + 16 * a1))) (y := (Z19 2 0 0 (2015 + 16 * a1))) (a := 40) (b := 9999) (by omega) (by omega) (by omega) (by omega)
  have r29 := w3_r ((Z19 2 0 0 (3821 + 5 * (Z 2 0 0 (200 + 20 * (Z 2 0 0 (2010 + 16 * a1)))))) + ((Z19 2 0 0 (2013 + 16 * a1)) * (Z19 2 0 0 (2015 + 16 * a1))))
  obtain ⟨Z30, hZ30⟩ := zx (zu Z19 2 0 0 (3821 + 5 * (Z 2 0 0 (200 + 20 * (Z 2 0 0 (2010 + 16 * a1))))) (w3 ((Z19 2 0 0 (3821 + 5 * (Z 2 0 0 (200 + 20 * (Z 2 0 0 (2010 + 16 * a1)))))) + ((Z19 2 0 0 (2013 + 16 * a1)) * (Z19 2 0 0 (2015 + 16 * a1))))))
  replace hP := zl_e hP hZ30
  have hZ30I := zM_u2 hZ19I hZ30 (lo := -2147483648) (hi := 2147483647) (zs_3820_1 (x := (Z 2 0 0 (200 + 20 * (Z 2 0 0 (2010 + 16 * a1))))) (by omega) (by omega) (by omega)) (by omega) ⟨by decide, by decide⟩ (by simp only [zsp]; omega)
  have hZ30U : zU [] Z Z30 := zU_u hZ19U hZ30 (Or.inl rfl)
  have hZ30K : zC [2] Z Z30 := zC_u hZ19K hZ30 (zcl_2w (by omega) rfl)
  intro μ9 e9
  replace e9 := e9.trans (zm_wI (Z := Z19) (ν := ν) hZ30 (show ((0 : Nat) : Int) = 0 from rfl) (show ((0 : Nat) : Int) = 0 from rfl) (i3I (y := (3821 + 5 * (Z 2 0 0 (200 + 20 * (Z 2 0 0 (2010 + 16 * a1)))))) (i3A (i3A (show (3820 : Int32) = i3 3820 from rfl) (i3M (show (5 : Int32) = i3 5 from rfl) (zm_rd (Z := Z) (ν := ν) (k := 2) (show ((0 : Nat) : Int) = 0 from rfl) (show ((0 : Nat) : Int) = 0 from rfl) (i3I (y := (200 + 20 * (Z 2 0 0 (2010 + 16 * a1)))) (i3A (i3A (show (200 : Int32) = i3 200 from rfl) (i3M (show (20 : Int32) = i3 20 from rfl) (zm_rd (Z := Z) (ν := ν) (k := 2) (show ((0 : Nat) : Int) = 0 from rfl) (show ((0 : Nat) : Int) = 0 from rfl) (i3I (y := (2010 + 16 * a1)) (i3A (i3A (show (2010 : Int32) = i3 2010 from rfl) (i3M (show (16 : Int32) = i3 16 from rfl) (rfl : i3 a1 = i3 a1))) (show (0 : Int32) = i3 0 from rfl)) (by omega) (by omega) (by omega))))) (show (0 : Int32) = i3 0 from rfl)) (by omega) (by omega) (by omega))))) (show (1 : Int32) = i3 1 from rfl)) (by omega) (by omega) (by omega)) (i3W (i3A (zm_rd (Z := Z19) (ν := ν) (k := 2) (show ((0 : Nat) : Int) = 0 from rfl) (show ((0 : Nat) : Int) = 0 from rfl) (i3I (y := (3821 + 5 * (Z 2 0 0 (200 + 20 * (Z 2 0 0 (2010 + 16 * a1)))))) (i3A (i3A (show (3820 : Int32) = i3 3820 from rfl) (i3M (show (5 : Int32) = i3 5 from rfl) (zm_rd (Z := Z) (ν := ν) (k := 2) (show ((0 : Nat) : Int) = 0 from rfl) (show ((0 : Nat) : Int) = 0 from rfl) (i3I (y := (200 + 20 * (Z 2 0 0 (2010 + 16 * a1)))) (i3A (i3A (show (200 : Int32) = i3 200 from rfl) (i3M (show (20 : Int32) = i3 20 from rfl) (zm_rd (Z := Z) (ν := ν) (k := 2) (show ((0 : Nat) : Int) = 0 from rfl) (show ((0 : Nat) : Int) = 0 from rfl) (i3I (y := (2010 + 16 * a1)) (i3A (i3A (show (2010 : Int32) = i3 2010 from rfl) (i3M (show (16 : Int32) = i3 16 from rfl) (rfl : i3 a1 = i3 a1))) (show (0 : Int32) = i3 0 from rfl)) (by omega) (by omega) (by omega))))) (show (0 : Int32) = i3 0 from rfl)) (by omega) (by omega) (by omega))))) (show (1 : Int32) = i3 1 from rfl)) (by omega) (by omega) (by omega))) (i3M (zm_rd (Z := Z19) (ν := ν) (k := 2) (show ((0 : Nat) : Int) = 0 from rfl) (show ((0 : Nat) : Int) = 0 from rfl) (i3I (y := (2013 + 16 * a1)) (i3A (i3A (show (2010 : Int32) = i3 2010 from rfl) (i3M (show (16 : Int32) = i3 16 from rfl) (rfl : i3 a1 = i3 a1))) (show (3 : Int32) = i3 3 from rfl)) (by omega) (by omega) (by omega))) (zm_rd (Z := Z19) (ν := ν) (k := 2) (show ((0 : Nat) : Int) = 0 from rfl) (show ((0 : Nat) : Int) = 0 from rfl) (i3I (y := (2015 + 16 * a1)) (i3A (i3A (show (2010 : Int32) = i3 2010 from rfl) (i3M (show (16 : Int32) = i3 16 from rfl) (rfl : i3 a1 = i3 a1))) (show (5 : Int32) = i3 5 from rfl)) (by omega) (by omega) (by omega)))))))
  subst e9
  refine wz_i0 (i3O (n := 4400) (i3A (i3A (show (3820 : Int32) = i3 3820 from rfl) (i3M (show (5 : Int32) = i3 5 from rfl) (zm_rd (Z := Z) (ν := ν) (k := 2) (show ((0 : Nat) : Int) = 0 from rfl) (show ((0 : Nat) : Int) = 0 from rfl) (i3I (y := (200 + 20 * (Z 2 0 0 (2010 + 16 * a1)))) (i3A (i3A (show (200 : Int32) = i3 200 from rfl) (i3M (show (20 : Int32) = i3 20 from rfl) (zm_rd (Z := Z) (ν := ν) (k := 2) (show ((0 : Nat) : Int) = 0 from rfl) (show ((0 : Nat) : Int) = 0 from rfl) (i3I (y := (2010 + 16 * a1)) (i3A (i3A (show (2010 : Int32) = i3 2010 from rfl) (i3M (show (16 : Int32) = i3 16 from rfl) (rfl : i3 a1 = i3 a1))) (show (0 : Int32) = i3 0 from rfl)) (by omega) (by omega) (by omega))))) (show (0 : Int32) = i3 0 from rfl)) (by omega) (by omega) (by omega))))) (show (2 : Int32) = i3 2 from rfl)) (by omega) (by omega) (by omega)) ?_
  obtain ⟨v31, hv31, c9, lv31, uv31⟩ := sp_404 (ν := ν) hZ30I (a1 := a1) (by omega) (zbh (c := 2) (k := 0) hM (Nat.le_of_ble_eq_true rfl))
  replace hP := zl_e hP hv31
  refine wz_cI_of (zas (zcons rfl (zcons (zvi (rfl : i3 a1 = i3 a1)) rfl)) c9) ?_
  clear c9
  refine wz_i0 (i3O (n := 4400) (i3A (i3A (show (3820 : Int32) = i3 3820 from rfl) (i3M (show (5 : Int32) = i3 5 from rfl) (zm_rd (Z := Z) (ν := ν) (k := 2) (show ((0 : Nat) : Int) = 0 from rfl) (show ((0 : Nat) : Int) = 0 from rfl) (i3I (y := (200 + 20 * (Z 2 0 0 (2010 + 16 * a1)))) (i3A (i3A (show (200 : Int32) = i3 200 from rfl) (i3M (show (20 : Int32) = i3 20 from rfl) (zm_rd (Z := Z) (ν := ν) (k := 2) (show ((0 : Nat) : Int) = 0 from rfl) (show ((0 : Nat) : Int) = 0 from rfl) (i3I (y := (2010 + 16 * a1)) (i3A (i3A (show (2010 : Int32) = i3 2010 from rfl) (i3M (show (16 : Int32) = i3 16 from rfl) (rfl : i3 a1 = i3 a1))) (show (0 : Int32) = i3 0 from rfl)) (by omega) (by omega) (by omega))))) (show (0 : Int32) = i3 0 from rfl)) (by omega) (by omega) (by omega))))) (show (2 : Int32) = i3 2 from rfl)) (by omega) (by omega) (by omega)) ?_
  have r32 := zM_f hZ30I 2 0 0 (3822 + 5 * (Z 2 0 0 (200 + 20 * (Z 2 0 0 (2010 + 16 * a1)))))
  have r33 := w3_r ((Z30 2 0 0 (3822 + 5 * (Z 2 0 0 (200 + 20 * (Z 2 0 0 (2010 + 16 * a1)))))) + v31)
  obtain ⟨Z34, hZ34⟩ := zx (zu Z30 2 0 0 (3822 + 5 * (Z 2 0 0 (200 + 20 * (Z 2 0 0 (2010 + 16 * a1))))) (w3 ((Z30 2 0 0 (3822 + 5 * (Z 2 0 0 (200 + 20 * (Z 2 0 0 (2010 + 16 * a1)))))) + v31)))
  replace hP := zl_e hP hZ34
  have hZ34I := zM_u2 hZ30I hZ34 (lo := -2147483648) (hi := 2147483647) (zs_3820_2 (x := (Z 2 0 0 (200 + 20 * (Z 2 0 0 (2010 + 16 * a1))))) (by omega) (by omega) (by omega)) (by omega) ⟨by decide, by decide⟩ (by simp only [zsp]; omega)
  have hZ34U : zU [] Z Z34 := zU_u hZ30U hZ34 (Or.inl rfl)
  have hZ34K : zC [2] Z Z34 := zC_u hZ30K hZ34 (zcl_2w (by omega) rfl)
  intro μ9 e9
  replace e9 := e9.trans (zm_wI (Z := Z30) (ν := ν) hZ34 (show ((0 : Nat) : Int) = 0 from rfl) (show ((0 : Nat) : Int) = 0 from rfl) (i3I (y := (3822 + 5 * (Z 2 0 0 (200 + 20 * (Z 2 0 0 (2010 + 16 * a1)))))) (i3A (i3A (show (3820 : Int32) = i3 3820 from rfl) (i3M (show (5 : Int32) = i3 5 from rfl) (zm_rd (Z := Z) (ν := ν) (k := 2) (show ((0 : Nat) : Int) = 0 from rfl) (show ((0 : Nat) : Int) = 0 from rfl) (i3I (y := (200 + 20 * (Z 2 0 0 (2010 + 16 * a1)))) (i3A (i3A (show (200 : Int32) = i3 200 from rfl) (i3M (show (20 : Int32) = i3 20 from rfl) (zm_rd (Z := Z) (ν := ν) (k := 2) (show ((0 : Nat) : Int) = 0 from rfl) (show ((0 : Nat) : Int) = 0 from rfl) (i3I (y := (2010 + 16 * a1)) (i3A (i3A (show (2010 : Int32) = i3 2010 from rfl) (i3M (show (16 : Int32) = i3 16 from rfl) (rfl : i3 a1 = i3 a1))) (show (0 : Int32) = i3 0 from rfl)) (by omega) (by omega) (by omega))))) (show (0 : Int32) = i3 0 from rfl)) (by omega) (by omega) (by omega))))) (show (2 : Int32) = i3 2 from rfl)) (by omega) (by omega) (by omega)) (i3W (i3A (zm_rd (Z := Z30) (ν := ν) (k := 2) (show ((0 : Nat) : Int) = 0 from rfl) (show ((0 : Nat) : Int) = 0 from rfl) (i3I (y := (3822 + 5 * (Z 2 0 0 (200 + 20 * (Z 2 0 0 (2010 + 16 * a1)))))) (i3A (i3A (show (3820 : Int32) = i3 3820 from rfl) (i3M (show (5 : Int32) = i3 5 from rfl) (zm_rd (Z := Z) (ν := ν) (k := 2) (show ((0 : Nat) : Int) = 0 from rfl) (show ((0 : Nat) : Int) = 0 from rfl) (i3I (y := (200 + 20 * (Z 2 0 0 (2010 + 16 * a1)))) (i3A (i3A (show (200 : Int32) = i3 200 from rfl) (i3M (show (20 : Int32) = i3 20 from rfl) (zm_rd (Z := Z) (ν := ν) (k := 2) (show ((0 : Nat) : Int) = 0 from rfl) (show ((0 : Nat) : Int) = 0 from rfl) (i3I (y := (2010 + 16 * a1)) (i3A (i3A (show (2010 : Int32) = i3 2010 from rfl) (i3M (show (16 : Int32) = i3 16 from rfl) (rfl : i3 a1 = i3 a1))) (show (0 : Int32) = i3 0 from rfl)) (by omega) (by omega) (by omega))))) (show (0 : Int32) = i3 0 from rfl)) (by omega) (by omega) (by omega))))) (show (2 : Int32) = i3 2 from rfl)) (by omega) (by omega) (by omega))) (rfl : i3 v31 = i3 v31))))
  subst e9
  exact zlV hP ⟨hZ34I, hZ34K, hZ34U⟩
/- y by hand: what a sale's entries leave alone -/
theorem zk_419 {s : zSM} {Z Z1 : qz_Z} {a j : Int} (h : Z1 = zf_419 Z a) (hZ : zM s Z) (ha : 0 ≤ a ∧ a ≤ 59) (hj : j < 3800) : Z1 2 0 0 j = Z 2 0 0 j := by
  have r := zM_k hZ 2 0 0 (2010 + 16 * a) (lo := 0) (hi := 47) (by decide) (zs_2010_0 (x := a) (by omega) (by omega) (by omega))
  have r2 := zM_k hZ 2 0 0 (200 + 20 * (Z 2 0 0 (2010 + 16 * a))) (lo := 0) (hi := 5) (by decide) (zs_200_0 (x := (Z 2 0 0 (2010 + 16 * a))) (by omega) (by omega) (by omega))
  unfold zf_419 at h
  simp only [zlet] at h
  rw [h]
  repeat rw [zu_ne rfl (fun q => absurd q.2.2.2 (by omega))]
  exact (zk_403 rfl (by omega) (by omega) hj).trans (zk_403 rfl (by omega) (by omega) hj)
/- yX12_mSold -/
def zf_433 (Z : qz_Z) (a1 : Int) (a2 : Int) (a3 : Int) (a4 : Int) : qz_Z × Int := (zlet (zu Z 2 0 0 2000 ((Z 2 0 0 2000) + 1)) (fun Z9 => (zlet (zu Z9 2 0 0 (2010 + 16 * (Z 2 0 0 2000)) a1) (fun Z12 => (zlet (zu Z12 2 0 0 (2011 + 16 * (Z 2 0 0 2000)) (Z12 2 0 0 (1510 + 12 * a2))) (fun Z14 => (zlet (zu Z14 2 0 0 (2012 + 16 * (Z 2 0 0 2000)) a2) (fun Z15 => (zlet (zu Z15 2 0 0 (2013 + 16 * (Z 2 0 0 2000)) a3) (fun Z16 => (zlet (zu Z16 2 0 0 (2014 + 16 * (Z 2 0 0 2000)) (((Z9 2 0 0 (205 + 20 * a1)) * a3) / (Z9 2 0 0 (204 + 20 * a1)))) (fun Z21 => (zlet (zu Z21 2 0 0 (2015 + 16 * (Z 2 0 0 2000)) a4) (fun Z22 => (zlet (zu Z22 2 0 0 (2016 + 16 * (Z 2 0 0 2000)) (Z22 2 0 0 0)) (fun Z24 => (zlet (zu Z24 2 0 0 (2017 + 16 * (Z 2 0 0 2000)) (Z24 2 0 0 (209 + 20 * a1))) (fun Z26 => (zlet (zu Z26 2 0 0 (2018 + 16 * (Z 2 0 0 2000)) (Z26 2 0 0 (207 + 20 * a1))) (fun Z28 => (zlet (zu Z28 2 0 0 (2019 + 16 * (Z 2 0 0 2000)) 0) (fun Z29 => (zlet (zu Z29 2 0 0 (2020 + 16 * (Z 2 0 0 2000)) (-1)) (fun Z30 => (zlet (zu Z30 2 0 0 (2023 + 16 * (Z 2 0 0 2000)) (-1)) (fun Z34 => (zlet (zu Z34 2 0 0 (2024 + 16 * (Z 2 0 0 2000)) (-1)) (fun Z35 => (zlet (zu Z35 2 0 0 (2025 + 16 * (Z 2 0 0 2000)) (-1)) (fun Z36 => (zlet (zu Z36 2 0 0 (40 + (Z 2 0 0 2000)) (-1)) (fun Z37 => (zlet (zu Z37 2 0 0 (204 + 20 * a1) ((Z37 2 0 0 (204 + 20 * a1)) - a3)) (fun Z40 => (zlet (zu Z40 2 0 0 (205 + 20 * a1) ((Z40 2 0 0 (205 + 20 * a1)) - (((Z9 2 0 0 (205 + 20 * a1)) * a3) / (Z9 2 0 0 (204 + 20 * a1))))) (fun Z43 => (zlet (zf_284 Z43 (Z 2 0 0 2000)) (fun Z55 => (zlet (zf_419 Z55 (Z 2 0 0 2000)) (fun Z84 => (Z84, (Z 2 0 0 2000))))))))))))))))))))))))))))))))))))))))))
theorem sp_433 {s : zSM} {Z : qz_Z} {ν : qz_N} (hZ : zM s Z) {a1 : Int} (ga1 : 0 ≤ a1 ∧ a1 ≤ 47) {a2 : Int} (ga2 : 0 ≤ a2 ∧ a2 ≤ 23) {a3 : Int} (ga3 : 1 ≤ a3 ∧ a3 ≤ 40) {a4 : Int} (ga4 : 1 ≤ a4 ∧ a4 ≤ 9999) (gx0 : Z 2 0 0 2000 ≤ 59) (gx1 : a3 ≤ Z 2 0 0 (204 + 20 * a1)) (gx2 : a3 ≤ Z 2 0 0 (1516 + 12 * a2)) (hM : s.2 + 2 ≤ 1000000000) : ∃ (Z1 : qz_Z) (P : Int), (Z1, P) = zf_433 Z a1 a2 a3 a4 ∧ (qf_433 [.inr (.inr (some (1, 0, 0))), .inl (i3 a1), .inl (i3 a2), .inl (i3 a3), .inl (i3 a4)] (zm Z ν) = some (zm Z1 ν, .inl (some (.inl (i3 P)))) ∧ zM (zb s 2) Z1 ∧ zC [2] Z Z1 ∧ zU [] Z Z1 ∧ 0 ≤ P ∧ P ≤ 60 ∧ Z1 2 0 0 (204 + 20 * a1) = Z 2 0 0 (204 + 20 * a1) - a3 ∧ Z1 2 0 0 3015 = Z 2 0 0 3015 ∧ Z1 2 0 0 3075 = Z 2 0 0 3075 ∧ Z1 2 0 0 102 = Z 2 0 0 102 ∧ Z1 2 0 0 (211 + 20 * a1) = Z 2 0 0 (211 + 20 * a1)) := by
  obtain ⟨P, hP⟩ := zx (zf_433 Z a1 a2 a3 a4)
  refine zc_W (Q := fun Z1 P => zM (zb s 2) Z1 ∧ zC [2] Z Z1 ∧ zU [] Z Z1 ∧ 0 ≤ P ∧ P ≤ 60 ∧ Z1 2 0 0 (204 + 20 * a1) = Z 2 0 0 (204 + 20 * a1) - a3 ∧ Z1 2 0 0 3015 = Z 2 0 0 3015 ∧ Z1 2 0 0 3075 = Z 2 0 0 3075 ∧ Z1 2 0 0 102 = Z 2 0 0 102 ∧ Z1 2 0 0 (211 + 20 * a1) = Z 2 0 0 (211 + 20 * a1)) hP (fw_433 (i3 a1) (i3 a2) (i3 a3) (i3 a4) _ _ ?_)
  replace hP : zE P (zf_433 Z a1 a2 a3 a4) := hP
  unfold zf_433 at hP
  have r1 := zM_k hZ 2 0 0 2000 (lo := 0) (hi := 60) (by decide) rfl
  have r2 := zM_k hZ 2 0 0 (204 + 20 * a1) (lo := 0) (hi := 40) (by decide) (zs_200_4 (x := a1) (by omega) (by omega) (by omega))
  have r3 := zM_k hZ 2 0 0 (1516 + 12 * a2) (lo := 0) (hi := 99) (by decide) (zs_1510_6 (x := a2) (by omega) (by omega) (by omega))
  have r4 := zM_k hZ 2 0 0 3015 (lo := 0) (hi := 12) (by decide) rfl
  have r5 := zM_k hZ 2 0 0 3075 (lo := 0) (hi := 12) (by decide) rfl
  have r6 := zM_k hZ 2 0 0 102 (lo := 0) (hi := 48) (by decide) rfl
  have r7 := zM_k hZ 2 0 0 (211 + 20 * a1) (lo := -1) (hi := 6) (by decide) (zs_200_11 (x := a1) (by omega) (by omega) (by omega))
  have r8 := zM_pl hZ a1
  obtain ⟨Z9, hZ9⟩ := zx (zu Z 2 0 0 2000 ((Z 2 0 0 2000) + 1))
  replace hP := zl_e hP hZ9
  have hZ9I := zMp_nc hZ hZ9 (p := (Z 2 0 0 2000)) (by omega) (by omega)
  have hZ9U : zU [] Z Z9 := zU_u zU_r hZ9 (Or.inl rfl)
  have hZ9K : zC [2] Z Z9 := zC_u zC_r hZ9 (by decide)
  intro μ9 e9
  replace e9 := e9.trans (zm_wI (Z := Z) (ν := ν) hZ9 (show ((0 : Nat) : Int) = 0 from rfl) (show ((0 : Nat) : Int) = 0 from rfl) (show ((2000 : Nat) : Int) = 2000 from rfl) (i3A (zm_rd (Z := Z) (ν := ν) (k := 2) (show ((0 : Nat) : Int) = 0 from rfl) (show ((0 : Nat) : Int) = 0 from rfl) (show ((2000 : Nat) : Int) = 2000 from rfl)) (show (1 : Int32) = i3 1 from rfl)))
  subst e9
  refine wz_i0 (i3O (n := 4400) (i3A (i3A (show (200 : Int32) = i3 200 from rfl) (i3M (show (20 : Int32) = i3 20 from rfl) (rfl : i3 a1 = i3 a1))) (show (5 : Int32) = i3 5 from rfl)) (by omega) (by omega) (by omega)) ?_
  refine wz_i0 (i3O (n := 4400) (i3A (i3A (show (200 : Int32) = i3 200 from rfl) (i3M (show (20 : Int32) = i3 20 from rfl) (rfl : i3 a1 = i3 a1))) (show (4 : Int32) = i3 4 from rfl)) (by omega) (by omega) (by omega)) ?_
  have r10 := zH_k (hZ9I).1 2 0 0 (204 + 20 * a1) (lo := 0) (hi := 40) (by decide) (zs_200_4 (x := a1) (by omega) (by omega) (by omega))
  have q11 := zu_ne (k' := 2) (b' := 0) (i' := 0) (j' := (204 + 20 * a1)) hZ9 (fun q => absurd q.2.2.2 (by omega))
  refine wz_i0 (i3N0 (zm_rd (Z := Z9) (ν := ν) (k := 2) (show ((0 : Nat) : Int) = 0 from rfl) (show ((0 : Nat) : Int) = 0 from rfl) (i3I (y := (204 + 20 * a1)) (i3A (i3A (show (200 : Int32) = i3 200 from rfl) (i3M (show (20 : Int32) = i3 20 from rfl) (rfl : i3 a1 = i3 a1))) (show (4 : Int32) = i3 4 from rfl)) (by omega) (by omega) (by omega))) (by omega) (by omega) (by omega)) ?_
  refine wz_i0 (i3O (n := 4400) (i3A (i3A (show (2010 : Int32) = i3 2010 from rfl) (i3M (show (16 : Int32) = i3 16 from rfl) (zm_rd (Z := Z) (ν := ν) (k := 2) (show ((0 : Nat) : Int) = 0 from rfl) (show ((0 : Nat) : Int) = 0 from rfl) (show ((2000 : Nat) : Int) = 2000 from rfl)))) (show (0 : Int32) = i3 0 from rfl)) (by omega) (by omega) (by omega)) ?_
  obtain ⟨Z12, hZ12⟩ := zx (zu Z9 2 0 0 (2010 + 16 * (Z 2 0 0 2000)) a1)
  replace hP := zl_e hP hZ12
  have hZ12I := zMp_u2 hZ9I hZ12 (lo := 0) (hi := 47) (zs_2010_0 (x := (Z 2 0 0 2000)) (by omega) (by omega) (by omega)) (by omega) ⟨by decide, by decide⟩ (by simp only [zsp]; omega)
  have hZ12U : zU [] Z Z12 := zU_u hZ9U hZ12 (Or.inl rfl)
  have hZ12K : zC [2] Z Z12 := zC_u hZ9K hZ12 (zcl_2w (by omega) rfl)
  intro μ9 e9
  replace e9 := e9.trans (zm_wI (Z := Z9) (ν := ν) hZ12 (show ((0 : Nat) : Int) = 0 from rfl) (show ((0 : Nat) : Int) = 0 from rfl) (i3I (y := (2010 + 16 * (Z 2 0 0 2000))) (i3A (i3A (show (2010 : Int32) = i3 2010 from rfl) (i3M (show (16 : Int32) = i3 16 from rfl) (zm_rd (Z := Z) (ν := ν) (k := 2) (show ((0 : Nat) : Int) = 0 from rfl) (show ((0 : Nat) : Int) = 0 from rfl) (show ((2000 : Nat) : Int) = 2000 from rfl)))) (show (0 : Int32) = i3 0 from rfl)) (by omega) (by omega) (by omega)) (rfl : i3 a1 = i3 a1))
  subst e9
  refine wz_i0 (i3O (n := 4400) (i3A (i3A (show (1510 : Int32) = i3 1510 from rfl) (i3M (show (12 : Int32) = i3 12 from rfl) (rfl : i3 a2 = i3 a2))) (show (0 : Int32) = i3 0 from rfl)) (by omega) (by omega) (by omega)) ?_
  refine wz_i0 (i3O (n := 4400) (i3A (i3A (show (2010 : Int32) = i3 2010 from rfl) (i3M (show (16 : Int32) = i3 16 from rfl) (zm_rd (Z := Z) (ν := ν) (k := 2) (show ((0 : Nat) : Int) = 0 from rfl) (show ((0 : Nat) : Int) = 0 from rfl) (show ((2000 : Nat) : Int) = 2000 from rfl)))) (show (1 : Int32) = i3 1 from rfl)) (by omega) (by omega) (by omega)) ?_
  have r13 := zH_k (hZ12I).1 2 0 0 (1510 + 12 * a2) (lo := 0) (hi := 7) (by decide) (zs_1510_0 (x := a2) (by omega) (by omega) (by omega))
  obtain ⟨Z14, hZ14⟩ := zx (zu Z12 2 0 0 (2011 + 16 * (Z 2 0 0 2000)) (Z12 2 0 0 (1510 + 12 * a2)))
  replace hP := zl_e hP hZ14
  have hZ14I := zMp_u2 hZ12I hZ14 (lo := 0) (hi := 7) (zs_2010_1 (x := (Z 2 0 0 2000)) (by omega) (by omega) (by omega)) (by omega) ⟨by decide, by decide⟩ (by simp only [zsp]; omega)
  have hZ14U : zU [] Z Z14 := zU_u hZ12U hZ14 (Or.inl rfl)
  have hZ14K : zC [2] Z Z14 := zC_u hZ12K hZ14 (zcl_2w (by omega) rfl)
  intro μ9 e9
  replace e9 := e9.trans (zm_wI (Z := Z12) (ν := ν) hZ14 (show ((0 : Nat) : Int) = 0 from rfl) (show ((0 : Nat) : Int) = 0 from rfl) (i3I (y := (2011 + 16 * (Z 2 0 0 2000))) (i3A (i3A (show (2010 : Int32) = i3 2010 from rfl) (i3M (show (16 : Int32) = i3 16 from rfl) (zm_rd (Z := Z) (ν := ν) (k := 2) (show ((0 : Nat) : Int) = 0 from rfl) (show ((0 : Nat) : Int) = 0 from rfl) (show ((2000 : Nat) : Int) = 2000 from rfl)))) (show (1 : Int32) = i3 1 from rfl)) (by omega) (by omega) (by omega)) (zm_rd (Z := Z12) (ν := ν) (k := 2) (show ((0 : Nat) : Int) = 0 from rfl) (show ((0 : Nat) : Int) = 0 from rfl) (i3I (y := (1510 + 12 * a2)) (i3A (i3A (show (1510 : Int32) = i3 1510 from rfl) (i3M (show (12 : Int32) = i3 12 from rfl) (rfl : i3 a2 = i3 a2))) (show (0 : Int32) = i3 0 from rfl)) (by omega) (by omega) (by omega))))
  subst e9
  refine wz_i0 (i3O (n := 4400) (i3A (i3A (show (2010 : Int32) = i3 2010 from rfl) (i3M (show (16 : Int32) = i3 16 from rfl) (zm_rd (Z := Z) (ν := ν) (k := 2) (show ((0 : Nat) : Int) = 0 from rfl) (show ((0 : Nat) : Int) = 0 from rfl) (show ((2000 : Nat) : Int) = 2000 from rfl)))) (show (2 : Int32) = i3 2 from rfl)) (by omega) (by omega) (by omega)) ?_
  obtain ⟨Z15, hZ15⟩ := zx (zu Z14 2 0 0 (2012 + 16 * (Z 2 0 0 2000)) a2)
  replace hP := zl_e hP hZ15
  have hZ15I := zMp_u2 hZ14I hZ15 (lo := 0) (hi := 23) (zs_2010_2 (x := (Z 2 0 0 2000)) (by omega) (by omega) (by omega)) (by omega) ⟨by decide, by decide⟩ (by simp only [zsp]; omega)
  have hZ15U : zU [] Z Z15 := zU_u hZ14U hZ15 (Or.inl rfl)
  have hZ15K : zC [2] Z Z15 := zC_u hZ14K hZ15 (zcl_2w (by omega) rfl)
  intro μ9 e9
  replace e9 := e9.trans (zm_wI (Z := Z14) (ν := ν) hZ15 (show ((0 : Nat) : Int) = 0 from rfl) (show ((0 : Nat) : Int) = 0 from rfl) (i3I (y := (2012 + 16 * (Z 2 0 0 2000))) (i3A (i3A (show (2010 : Int32) = i3 2010 from rfl) (i3M (show (16 : Int32) = i3 16 from rfl) (zm_rd (Z := Z) (ν := ν) (k := 2) (show ((0 : Nat) : Int) = 0 from rfl) (show ((0 : Nat) : Int) = 0 from rfl) (show ((2000 : Nat) : Int) = 2000 from rfl)))) (show (2 : Int32) = i3 2 from rfl)) (by omega) (by omega) (by omega)) (rfl : i3 a2 = i3 a2))
  subst e9
  refine wz_i0 (i3O (n := 4400) (i3A (i3A (show (2010 : Int32) = i3 2010 from rfl) (i3M (show (16 : Int32) = i3 16 from rfl) (zm_rd (Z := Z) (ν := ν) (k := 2) (show ((0 : Nat) : Int) = 0 from rfl) (show ((0 : Nat) : Int) = 0 from rfl) (show ((2000 : Nat) : Int) = 2000 from rfl)))) (show (3 : Int32) = i3 3 from rfl)) (by omega) (by omega) (by omega)) ?_
  obtain ⟨Z16, hZ16⟩ := zx (zu Z15 2 0 0 (2013 + 16 * (Z 2 0 0 2000)) a3)
  replace hP := zl_e hP hZ16
  have hZ16I := zMp_cr hZ15I hZ16 (by omega) (by omega) (by omega)
  have hZ16U : zU [] Z Z16 := zU_u hZ15U hZ16 (Or.inl rfl)
  have hZ16K : zC [2] Z Z16 := zC_u hZ15K hZ16 (zcl_2w (by omega) rfl)
  intro μ9 e9
  replace e9 := e9.trans (zm_wI (Z := Z15) (ν := ν) hZ16 (show ((0 : Nat) : Int) = 0 from rfl) (show ((0 : Nat) : Int) = 0 from rfl) (i3I (y := (2013 + 16 * (Z 2 0 0 2000))) (i3A (i3A (show (2010 : Int32) = i3 2010 from rfl) (i3M (show (16 : Int32) = i3 16 from rfl) (zm_rd (Z := Z) (ν := ν) (k := 2) (show ((0 : Nat) : Int) = 0 from rfl) (show ((0 : Nat) : Int) = 0 from rfl) (show ((2000 : Nat) : Int) = 2000 from rfl)))) (show (3 : Int32) = i3 3 from rfl)) (by omega) (by omega) (by omega)) (rfl : i3 a3 = i3 a3))
  subst e9
  refine wz_i0 (i3O (n := 4400) (i3A (i3A (show (2010 : Int32) = i3 2010 from rfl) (i3M (show (16 : Int32) = i3 16 from rfl) (zm_rd (Z := Z) (ν := ν) (k := 2) (show ((0 : Nat) : Int) = 0 from rfl) (show ((0 : Nat) : Int) = 0 from rfl) (show ((2000 : Nat) : Int) = 2000 from rfl)))) (show (4 : Int32) = i3 4 from rfl)) (by omega) (by omega) (by omega)) ?_
  have r17 := zH_k (hZ9I).1 2 0 0 (205 + 20 * a1) (lo := 0) (hi := 40) (by decide) (zs_200_5 (x := a1) (by omega) (by omega) (by omega))
  have r18 := z_mul (x := (Z9 2 0 0 (205 + 20 * a1))) (y := a3) (a := 40) (b := 40) (by omega) (by omega) (by omega) (by omega)
  have r19 := z_div (x := ((Z9 2 0 0 (205 + 20 * a1)) * a3)) (y := (Z9 2 0 0 (204 + 20 * a1))) (by omega) (by omega)
  have r20 := z_mdle (a := (Z9 2 0 0 (205 + 20 * a1))) (c := a3) (d := (Z9 2 0 0 (204 + 20 * a1))) (by omega) (by omega) (by omega)
  obtain ⟨Z21, hZ21⟩ := zx (zu Z16 2 0 0 (2014 + 16 * (Z 2 0 0 2000)) (((Z9 2 0 0 (205 + 20 * a1)) * a3) / (Z9 2 0 0 (204 + 20 * a1))))
  replace hP := zl_e hP hZ21
  have hZ21I := zM_u2 hZ16I hZ21 (lo := 0) (hi := 40) (zs_2010_4 (x := (Z 2 0 0 2000)) (by omega) (by omega) (by omega)) (by omega) ⟨by decide, by decide⟩ (by simp only [zsp]; omega)
  have hZ21U : zU [] Z Z21 := zU_u hZ16U hZ21 (Or.inl rfl)
  have hZ21K : zC [2] Z Z21 := zC_u hZ16K hZ21 (zcl_2w (by omega) rfl)
  intro μ9 e9
  replace e9 := e9.trans (zm_wI (Z := Z16) (ν := ν) hZ21 (show ((0 : Nat) : Int) = 0 from rfl) (show ((0 : Nat) : Int) = 0 from rfl) (i3I (y := (2014 + 16 * (Z 2 0 0 2000))) (i3A (i3A (show (2010 : Int32) = i3 2010 from rfl) (i3M (show (16 : Int32) = i3 16 from rfl) (zm_rd (Z := Z) (ν := ν) (k := 2) (show ((0 : Nat) : Int) = 0 from rfl) (show ((0 : Nat) : Int) = 0 from rfl) (show ((2000 : Nat) : Int) = 2000 from rfl)))) (show (4 : Int32) = i3 4 from rfl)) (by omega) (by omega) (by omega)) (i3D (i3M (zm_rd (Z := Z9) (ν := ν) (k := 2) (show ((0 : Nat) : Int) = 0 from rfl) (show ((0 : Nat) : Int) = 0 from rfl) (i3I (y := (205 + 20 * a1)) (i3A (i3A (show (200 : Int32) = i3 200 from rfl) (i3M (show (20 : Int32) = i3 20 from rfl) (rfl : i3 a1 = i3 a1))) (show (5 : Int32) = i3 5 from rfl)) (by omega) (by omega) (by omega))) (rfl : i3 a3 = i3 a3)) (zm_rd (Z := Z9) (ν := ν) (k := 2) (show ((0 : Nat) : Int) = 0 from rfl) (show ((0 : Nat) : Int) = 0 from rfl) (i3I (y := (204 + 20 * a1)) (i3A (i3A (show (200 : Int32) = i3 200 from rfl) (i3M (show (20 : Int32) = i3 20 from rfl) (rfl : i3 a1 = i3 a1))) (show (4 : Int32) = i3 4 from rfl)) (by omega) (by omega) (by omega))) (by omega) (by omega) (by omega) (by omega)))
  subst e9
  refine wz_i0 (i3O (n := 4400) (i3A (i3A (show (2010 : Int32) = i3 2010 from rfl) (i3M (show (16 : Int32) = i3 16 from rfl) (zm_rd (Z := Z) (ν := ν) (k := 2) (show ((0 : Nat) : Int) = 0 from rfl) (show ((0 : Nat) : Int) = 0 from rfl) (show ((2000 : Nat) : Int) = 2000 from rfl)))) (show (5 : Int32) = i3 5 from rfl)) (by omega) (by omega) (by omega)) ?_
  obtain ⟨Z22, hZ22⟩ := zx (zu Z21 2 0 0 (2015 + 16 * (Z 2 0 0 2000)) a4)
  replace hP := zl_e hP hZ22
  have hZ22I := zM_u2 hZ21I hZ22 (lo := 0) (hi := 9999) (zs_2010_5 (x := (Z 2 0 0 2000)) (by omega) (by omega) (by omega)) (by omega) ⟨by decide, by decide⟩ (by simp only [zsp]; omega)
  have hZ22U : zU [] Z Z22 := zU_u hZ21U hZ22 (Or.inl rfl)
  have hZ22K : zC [2] Z Z22 := zC_u hZ21K hZ22 (zcl_2w (by omega) rfl)
  intro μ9 e9
  replace e9 := e9.trans (zm_wI (Z := Z21) (ν := ν) hZ22 (show ((0 : Nat) : Int) = 0 from rfl) (show ((0 : Nat) : Int) = 0 from rfl) (i3I (y := (2015 + 16 * (Z 2 0 0 2000))) (i3A (i3A (show (2010 : Int32) = i3 2010 from rfl) (i3M (show (16 : Int32) = i3 16 from rfl) (zm_rd (Z := Z) (ν := ν) (k := 2) (show ((0 : Nat) : Int) = 0 from rfl) (show ((0 : Nat) : Int) = 0 from rfl) (show ((2000 : Nat) : Int) = 2000 from rfl)))) (show (5 : Int32) = i3 5 from rfl)) (by omega) (by omega) (by omega)) (rfl : i3 a4 = i3 a4))
  subst e9
  refine wz_i0 (i3O (n := 4400) (i3A (i3A (show (2010 : Int32) = i3 2010 from rfl) (i3M (show (16 : Int32) = i3 16 from rfl) (zm_rd (Z := Z) (ν := ν) (k := 2) (show ((0 : Nat) : Int) = 0 from rfl) (show ((0 : Nat) : Int) = 0 from rfl) (show ((2000 : Nat) : Int) = 2000 from rfl)))) (show (6 : Int32) = i3 6 from rfl)) (by omega) (by omega) (by omega)) ?_
  have r23 := zM_k hZ22I 2 0 0 0 (lo := 0) (hi := 671) (by decide) rfl
  obtain ⟨Z24, hZ24⟩ := zx (zu Z22 2 0 0 (2016 + 16 * (Z 2 0 0 2000)) (Z22 2 0 0 0))
  replace hP := zl_e hP hZ24
  have hZ24I := zM_u2 hZ22I hZ24 (lo := 0) (hi := 671) (zs_2010_6 (x := (Z 2 0 0 2000)) (by omega) (by omega) (by omega)) (by omega) ⟨by decide, by decide⟩ (by simp only [zsp]; omega)
  have hZ24U : zU [] Z Z24 := zU_u hZ22U hZ24 (Or.inl rfl)
  have hZ24K : zC [2] Z Z24 := zC_u hZ22K hZ24 (zcl_2w (by omega) rfl)
  intro μ9 e9
  replace e9 := e9.trans (zm_wI (Z := Z22) (ν := ν) hZ24 (show ((0 : Nat) : Int) = 0 from rfl) (show ((0 : Nat) : Int) = 0 from rfl) (i3I (y := (2016 + 16 * (Z 2 0 0 2000))) (i3A (i3A (show (2010 : Int32) = i3 2010 from rfl) (i3M (show (16 : Int32) = i3 16 from rfl) (zm_rd (Z := Z) (ν := ν) (k := 2) (show ((0 : Nat) : Int) = 0 from rfl) (show ((0 : Nat) : Int) = 0 from rfl) (show ((2000 : Nat) : Int) = 2000 from rfl)))) (show (6 : Int32) = i3 6 from rfl)) (by omega) (by omega) (by omega)) (zm_rd (Z := Z22) (ν := ν) (k := 2) (show ((0 : Nat) : Int) = 0 from rfl) (show ((0 : Nat) : Int) = 0 from rfl) (show ((0 : Nat) : Int) = 0 from rfl)))
  subst e9
  refine wz_i0 (i3O (n := 4400) (i3A (i3A (show (200 : Int32) = i3 200 from rfl) (i3M (show (20 : Int32) = i3 20 from rfl) (rfl : i3 a1 = i3 a1))) (show (9 : Int32) = i3 9 from rfl)) (by omega) (by omega) (by omega)) ?_
  refine wz_i0 (i3O (n := 4400) (i3A (i3A (show (2010 : Int32) = i3 2010 from rfl) (i3M (show (16 : Int32) = i3 16 from rfl) (zm_rd (Z := Z) (ν := ν) (k := 2) (show ((0 : Nat) : Int) = 0 from rfl) (show ((0 : Nat) : Int) = 0 from rfl) (show ((2000 : Nat) : Int) = 2000 from rfl)))) (show (7 : Int32) = i3 7 from rfl)) (by omega) (by omega) (by omega)) ?_
  have r25 := zM_k hZ24I 2 0 0 (209 + 20 * a1) (lo := -1) (hi := 3) (by decide) (zs_200_9 (x := a1) (by omega) (by omega) (by omega))
  obtain ⟨Z26, hZ26⟩ := zx (zu Z24 2 0 0 (2017 + 16 * (Z 2 0 0 2000)) (Z24 2 0 0 (209 + 20 * a1)))
  replace hP := zl_e hP hZ26
  have hZ26I := zM_u2 hZ24I hZ26 (lo := -1) (hi := 3) (zs_2010_7 (x := (Z 2 0 0 2000)) (by omega) (by omega) (by omega)) (by omega) ⟨by decide, by decide⟩ (by simp only [zsp]; omega)
  have hZ26U : zU [] Z Z26 := zU_u hZ24U hZ26 (Or.inl rfl)
  have hZ26K : zC [2] Z Z26 := zC_u hZ24K hZ26 (zcl_2w (by omega) rfl)
  intro μ9 e9
  replace e9 := e9.trans (zm_wI (Z := Z24) (ν := ν) hZ26 (show ((0 : Nat) : Int) = 0 from rfl) (show ((0 : Nat) : Int) = 0 from rfl) (i3I (y := (2017 + 16 * (Z 2 0 0 2000))) (i3A (i3A (show (2010 : Int32) = i3 2010 from rfl) (i3M (show (16 : Int32) = i3 16 from rfl) (zm_rd (Z := Z) (ν := ν) (k := 2) (show ((0 : Nat) : Int) = 0 from rfl) (show ((0 : Nat) : Int) = 0 from rfl) (show ((2000 : Nat) : Int) = 2000 from rfl)))) (show (7 : Int32) = i3 7 from rfl)) (by omega) (by omega) (by omega)) (zm_rd (Z := Z24) (ν := ν) (k := 2) (show ((0 : Nat) : Int) = 0 from rfl) (show ((0 : Nat) : Int) = 0 from rfl) (i3I (y := (209 + 20 * a1)) (i3A (i3A (show (200 : Int32) = i3 200 from rfl) (i3M (show (20 : Int32) = i3 20 from rfl) (rfl : i3 a1 = i3 a1))) (show (9 : Int32) = i3 9 from rfl)) (by omega) (by omega) (by omega))))
  subst e9
  refine wz_i0 (i3O (n := 4400) (i3A (i3A (show (200 : Int32) = i3 200 from rfl) (i3M (show (20 : Int32) = i3 20 from rfl) (rfl : i3 a1 = i3 a1))) (show (7 : Int32) = i3 7 from rfl)) (by omega) (by omega) (by omega)) ?_
  refine wz_i0 (i3O (n := 4400) (i3A (i3A (show (2010 : Int32) = i3 2010 from rfl) (i3M (show (16 : Int32) = i3 16 from rfl) (zm_rd (Z := Z) (ν := ν) (k := 2) (show ((0 : Nat) : Int) = 0 from rfl) (show ((0 : Nat) : Int) = 0 from rfl) (show ((2000 : Nat) : Int) = 2000 from rfl)))) (show (8 : Int32) = i3 8 from rfl)) (by omega) (by omega) (by omega)) ?_
  have r27 := zM_k hZ26I 2 0 0 (207 + 20 * a1) (lo := 0) (hi := 2000) (by decide) (zs_200_7 (x := a1) (by omega) (by omega) (by omega))
  obtain ⟨Z28, hZ28⟩ := zx (zu Z26 2 0 0 (2018 + 16 * (Z 2 0 0 2000)) (Z26 2 0 0 (207 + 20 * a1)))
  replace hP := zl_e hP hZ28
  have hZ28I := zM_u2 hZ26I hZ28 (lo := 0) (hi := 2000) (zs_2010_8 (x := (Z 2 0 0 2000)) (by omega) (by omega) (by omega)) (by omega) ⟨by decide, by decide⟩ (by simp only [zsp]; omega)
  have hZ28U : zU [] Z Z28 := zU_u hZ26U hZ28 (Or.inl rfl)
  have hZ28K : zC [2] Z Z28 := zC_u hZ26K hZ28 (zcl_2w (by omega) rfl)
  intro μ9 e9
  replace e9 := e9.trans (zm_wI (Z := Z26) (ν := ν) hZ28 (show ((0 : Nat) : Int) = 0 from rfl) (show ((0 : Nat) : Int) = 0 from rfl) (i3I (y := (2018 + 16 * (Z 2 0 0 2000))) (i3A (i3A (show (2010 : Int32) = i3 2010 from rfl) (i3M (show (16 : Int32) = i3 16 from rfl) (zm_rd (Z := Z) (ν := ν) (k := 2) (show ((0 : Nat) : Int) = 0 from rfl) (show ((0 : Nat) : Int) = 0 from rfl) (show ((2000 : Nat) : Int) = 2000 from rfl)))) (show (8 : Int32) = i3 8 from rfl)) (by omega) (by omega) (by omega)) (zm_rd (Z := Z26) (ν := ν) (k := 2) (show ((0 : Nat) : Int) = 0 from rfl) (show ((0 : Nat) : Int) = 0 from rfl) (i3I (y := (207 + 20 * a1)) (i3A (i3A (show (200 : Int32) = i3 200 from rfl) (i3M (show (20 : Int32) = i3 20 from rfl) (rfl : i3 a1 = i3 a1))) (show (7 : Int32) = i3 7 from rfl)) (by omega) (by omega) (by omega))))
  subst e9
  refine wz_i0 (i3O (n := 4400) (i3A (i3A (show (2010 : Int32) = i3 2010 from rfl) (i3M (show (16 : Int32) = i3 16 from rfl) (zm_rd (Z := Z) (ν := ν) (k := 2) (show ((0 : Nat) : Int) = 0 from rfl) (show ((0 : Nat) : Int) = 0 from rfl) (show ((2000 : Nat) : Int) = 2000 from rfl)))) (show (9 : Int32) = i3 9 from rfl)) (by omega) (by omega) (by omega)) ?_
  obtain ⟨Z29, hZ29⟩ := zx (zu Z28 2 0 0 (2019 + 16 * (Z 2 0 0 2000)) 0)
  replace hP := zl_e hP hZ29
  have hZ29I := zM_st2 hZ28I hZ29 (q := (Z 2 0 0 2000)) (by omega) (by omega) (by omega) (by omega)
  have hZ29U : zU [] Z Z29 := zU_u hZ28U hZ29 (Or.inl rfl)
  have hZ29K : zC [2] Z Z29 := zC_u hZ28K hZ29 (zcl_2w (by omega) rfl)
  intro μ9 e9
  replace e9 := e9.trans (zm_wI (Z := Z28) (ν := ν) hZ29 (show ((0 : Nat) : Int) = 0 from rfl) (show ((0 : Nat) : Int) = 0 from rfl) (i3I (y := (2019 + 16 * (Z 2 0 0 2000))) (i3A (i3A (show (2010 : Int32) = i3 2010 from rfl) (i3M (show (16 : Int32) = i3 16 from rfl) (zm_rd (Z := Z) (ν := ν) (k := 2) (show ((0 : Nat) : Int) = 0 from rfl) (show ((0 : Nat) : Int) = 0 from rfl) (show ((2000 : Nat) : Int) = 2000 from rfl)))) (show (9 : Int32) = i3 9 from rfl)) (by omega) (by omega) (by omega)) (show (0 : Int32) = i3 0 from rfl))
  subst e9
  refine wz_i0 (i3O (n := 4400) (i3A (i3A (show (2010 : Int32) = i3 2010 from rfl) (i3M (show (16 : Int32) = i3 16 from rfl) (zm_rd (Z := Z) (ν := ν) (k := 2) (show ((0 : Nat) : Int) = 0 from rfl) (show ((0 : Nat) : Int) = 0 from rfl) (show ((2000 : Nat) : Int) = 2000 from rfl)))) (show (10 : Int32) = i3 10 from rfl)) (by omega) (by omega) (by omega)) ?_
  obtain ⟨Z30, hZ30⟩ := zx (zu Z29 2 0 0 (2020 + 16 * (Z 2 0 0 2000)) (-1))
  replace hP := zl_e hP hZ30
  have r31 := zM_k hZ29I 2 0 0 (2019 + 16 * (Z 2 0 0 2000)) (lo := 0) (hi := 3) (by decide) (zs_2010_9 (x := (Z 2 0 0 2000)) (by omega) (by omega) (by omega))
  have r32 := zM_lt2 hZ29I (Z 2 0 0 2000)
  have q33 := zu_at hZ29
  have hZ30I := zM_tr2 hZ29I hZ30 (q := (Z 2 0 0 2000)) (by omega) (by omega) (by omega) (by omega)
  have hZ30U : zU [] Z Z30 := zU_u hZ29U hZ30 (Or.inl rfl)
  have hZ30K : zC [2] Z Z30 := zC_u hZ29K hZ30 (zcl_2w (by omega) rfl)
  intro μ9 e9
  replace e9 := e9.trans (zm_wI (Z := Z29) (ν := ν) hZ30 (show ((0 : Nat) : Int) = 0 from rfl) (show ((0 : Nat) : Int) = 0 from rfl) (i3I (y := (2020 + 16 * (Z 2 0 0 2000))) (i3A (i3A (show (2010 : Int32) = i3 2010 from rfl) (i3M (show (16 : Int32) = i3 16 from rfl) (zm_rd (Z := Z) (ν := ν) (k := 2) (show ((0 : Nat) : Int) = 0 from rfl) (show ((0 : Nat) : Int) = 0 from rfl) (show ((2000 : Nat) : Int) = 2000 from rfl)))) (show (10 : Int32) = i3 10 from rfl)) (by omega) (by omega) (by omega)) (show (-1 : Int32) = i3 (-1) from rfl))
  subst e9
  refine wz_i0 (i3O (n := 4400) (i3A (i3A (show (2010 : Int32) = i3 2010 from rfl) (i3M (show (16 : Int32) = i3 16 from rfl) (zm_rd (Z := Z) (ν := ν) (k := 2) (show ((0 : Nat) : Int) = 0 from rfl) (show ((0 : Nat) : Int) = 0 from rfl) (show ((2000 : Nat) : Int) = 2000 from rfl)))) (show (13 : Int32) = i3 13 from rfl)) (by omega) (by omega) (by omega)) ?_
  obtain ⟨Z34, hZ34⟩ := zx (zu Z30 2 0 0 (2023 + 16 * (Z 2 0 0 2000)) (-1))
  replace hP := zl_e hP hZ34
  have hZ34I := zM_u2 hZ30I hZ34 (lo := -1) (hi := 671) (zs_2010_13 (x := (Z 2 0 0 2000)) (by omega) (by omega) (by omega)) (by omega) ⟨by decide, by decide⟩ (by simp only [zsp]; omega)
  have hZ34U : zU [] Z Z34 := zU_u hZ30U hZ34 (Or.inl rfl)
  have hZ34K : zC [2] Z Z34 := zC_u hZ30K hZ34 (zcl_2w (by omega) rfl)
  intro μ9 e9
  replace e9 := e9.trans (zm_wI (Z := Z30) (ν := ν) hZ34 (show ((0 : Nat) : Int) = 0 from rfl) (show ((0 : Nat) : Int) = 0 from rfl) (i3I (y := (2023 + 16 * (Z 2 0 0 2000))) (i3A (i3A (show (2010 : Int32) = i3 2010 from rfl) (i3M (show (16 : Int32) = i3 16 from rfl) (zm_rd (Z := Z) (ν := ν) (k := 2) (show ((0 : Nat) : Int) = 0 from rfl) (show ((0 : Nat) : Int) = 0 from rfl) (show ((2000 : Nat) : Int) = 2000 from rfl)))) (show (13 : Int32) = i3 13 from rfl)) (by omega) (by omega) (by omega)) (show (-1 : Int32) = i3 (-1) from rfl))
  subst e9
  refine wz_i0 (i3O (n := 4400) (i3A (i3A (show (2010 : Int32) = i3 2010 from rfl) (i3M (show (16 : Int32) = i3 16 from rfl) (zm_rd (Z := Z) (ν := ν) (k := 2) (show ((0 : Nat) : Int) = 0 from rfl) (show ((0 : Nat) : Int) = 0 from rfl) (show ((2000 : Nat) : Int) = 2000 from rfl)))) (show (14 : Int32) = i3 14 from rfl)) (by omega) (by omega) (by omega)) ?_
  obtain ⟨Z35, hZ35⟩ := zx (zu Z34 2 0 0 (2024 + 16 * (Z 2 0 0 2000)) (-1))
  replace hP := zl_e hP hZ35
  have hZ35I := zM_u2 hZ34I hZ35 (lo := -1) (hi := 2000) (zs_2010_14 (x := (Z 2 0 0 2000)) (by omega) (by omega) (by omega)) (by omega) ⟨by decide, by decide⟩ (by simp only [zsp]; omega)
  have hZ35U : zU [] Z Z35 := zU_u hZ34U hZ35 (Or.inl rfl)
  have hZ35K : zC [2] Z Z35 := zC_u hZ34K hZ35 (zcl_2w (by omega) rfl)
  intro μ9 e9
  replace e9 := e9.trans (zm_wI (Z := Z34) (ν := ν) hZ35 (show ((0 : Nat) : Int) = 0 from rfl) (show ((0 : Nat) : Int) = 0 from rfl) (i3I (y := (2024 + 16 * (Z 2 0 0 2000))) (i3A (i3A (show (2010 : Int32) = i3 2010 from rfl) (i3M (show (16 : Int32) = i3 16 from rfl) (zm_rd (Z := Z) (ν := ν) (k := 2) (show ((0 : Nat) : Int) = 0 from rfl) (show ((0 : Nat) : Int) = 0 from rfl) (show ((2000 : Nat) : Int) = 2000 from rfl)))) (show (14 : Int32) = i3 14 from rfl)) (by omega) (by omega) (by omega)) (show (-1 : Int32) = i3 (-1) from rfl))
  subst e9
  refine wz_i0 (i3O (n := 4400) (i3A (i3A (show (2010 : Int32) = i3 2010 from rfl) (i3M (show (16 : Int32) = i3 16 from rfl) (zm_rd (Z := Z) (ν := ν) (k := 2) (show ((0 : Nat) : Int) = 0 from rfl) (show ((0 : Nat) : Int) = 0 from rfl) (show ((2000 : Nat) : Int) = 2000 from rfl)))) (show (15 : Int32) = i3 15 from rfl)) (by omega) (by omega) (by omega)) ?_
  obtain ⟨Z36, hZ36⟩ := zx (zu Z35 2 0 0 (2025 + 16 * (Z 2 0 0 2000)) (-1))
  replace hP := zl_e hP hZ36
  have hZ36I := zM_u2 hZ35I hZ36 (lo := -1) (hi := 999) (zs_2010_15 (x := (Z 2 0 0 2000)) (by omega) (by omega) (by omega)) (by omega) ⟨by decide, by decide⟩ (by simp only [zsp]; omega)
  have hZ36U : zU [] Z Z36 := zU_u hZ35U hZ36 (Or.inl rfl)
  have hZ36K : zC [2] Z Z36 := zC_u hZ35K hZ36 (zcl_2w (by omega) rfl)
  intro μ9 e9
  replace e9 := e9.trans (zm_wI (Z := Z35) (ν := ν) hZ36 (show ((0 : Nat) : Int) = 0 from rfl) (show ((0 : Nat) : Int) = 0 from rfl) (i3I (y := (2025 + 16 * (Z 2 0 0 2000))) (i3A (i3A (show (2010 : Int32) = i3 2010 from rfl) (i3M (show (16 : Int32) = i3 16 from rfl) (zm_rd (Z := Z) (ν := ν) (k := 2) (show ((0 : Nat) : Int) = 0 from rfl) (show ((0 : Nat) : Int) = 0 from rfl) (show ((2000 : Nat) : Int) = 2000 from rfl)))) (show (15 : Int32) = i3 15 from rfl)) (by omega) (by omega) (by omega)) (show (-1 : Int32) = i3 (-1) from rfl))
  subst e9
  refine wz_i0 (i3O (n := 4400) (i3A (show (40 : Int32) = i3 40 from rfl) (zm_rd (Z := Z) (ν := ν) (k := 2) (show ((0 : Nat) : Int) = 0 from rfl) (show ((0 : Nat) : Int) = 0 from rfl) (show ((2000 : Nat) : Int) = 2000 from rfl))) (by omega) (by omega) (by omega)) ?_
  obtain ⟨Z37, hZ37⟩ := zx (zu Z36 2 0 0 (40 + (Z 2 0 0 2000)) (-1))
  replace hP := zl_e hP hZ37
  have hZ37I := zM_u2 hZ36I hZ37 (lo := -1) (hi := 671) (zs_40 (by omega) (by omega)) (by omega) ⟨by decide, by decide⟩ (by simp only [zsp]; omega)
  have hZ37U : zU [] Z Z37 := zU_u hZ36U hZ37 (Or.inl rfl)
  have hZ37K : zC [2] Z Z37 := zC_u hZ36K hZ37 (zcl_2w (by omega) rfl)
  intro μ9 e9
  replace e9 := e9.trans (zm_wI (Z := Z36) (ν := ν) hZ37 (show ((0 : Nat) : Int) = 0 from rfl) (show ((0 : Nat) : Int) = 0 from rfl) (i3I (y := (40 + (Z 2 0 0 2000))) (i3A (show (40 : Int32) = i3 40 from rfl) (zm_rd (Z := Z) (ν := ν) (k := 2) (show ((0 : Nat) : Int) = 0 from rfl) (show ((0 : Nat) : Int) = 0 from rfl) (show ((2000 : Nat) : Int) = 2000 from rfl))) (by omega) (by omega) (by omega)) (show (-1 : Int32) = i3 (-1) from rfl))
  subst e9
  refine wz_i0 (i3O (n := 4400) (i3A (i3A (show (200 : Int32) = i3 200 from rfl) (i3M (show (20 : Int32) = i3 20 from rfl) (rfl : i3 a1 = i3 a1))) (show (4 : Int32) = i3 4 from rfl)) (by omega) (by omega) (by omega)) ?_
  refine wz_i0 (i3O (n := 4400) (i3A (i3A (show (200 : Int32) = i3 200 from rfl) (i3M (show (20 : Int32) = i3 20 from rfl) (rfl : i3 a1 = i3 a1))) (show (4 : Int32) = i3 4 from rfl)) (by omega) (by omega) (by omega)) ?_
  have r38 := zM_k hZ37I 2 0 0 (204 + 20 * a1) (lo := 0) (hi := 40) (by decide) (zs_200_4 (x := a1) (by omega) (by omega) (by omega))
  have q39 := (zu_ne (k' := 2) (b' := 0) (i' := 0) (j' := (204 + 20 * a1)) hZ37 (fun q => absurd q.2.2.2 (by omega))).trans ((zu_ne (k' := 2) (b' := 0) (i' := 0) (j' := (204 + 20 * a1)) hZ36 (fun q => absurd q.2.2.2 (by omega))).trans ((zu_ne (k' := 2) (b' := 0) (i' := 0) (j' := (204 + 20 * a1)) hZ35 (fun q => absurd q.2.2.2 (by omega))).trans ((zu_ne (k' := 2) (b' := 0) (i' := 0) (j' := (204 + 20 * a1)) hZ34 (fun q => absurd q.2.2.2 (by omega))).trans ((zu_ne (k' := 2) (b' := 0) (i' := 0) (j' := (204 + 20 * a1)) hZ30 (fun q => absurd q.2.2.2 (by omega))).trans ((zu_ne (k' := 2) (b' := 0) (i' := 0) (j' := (204 + 20 * a1)) hZ29 (fun q => absurd q.2.2.2 (by omega))).trans ((zu_ne (k' := 2) (b' := 0) (i' := 0) (j' := (204 + 20 * a1)) hZ28 (fun q => absurd q.2.2.2 (by omega))).trans ((zu_ne (k' := 2) (b' := 0) (i' := 0) (j' := (204 + 20 * a1)) hZ26 (fun q => absurd q.2.2.2 (by omega))).trans ((zu_ne (k' := 2) (b' := 0) (i' := 0) (j' := (204 + 20 * a1)) hZ24 (fun q => absurd q.2.2.2 (by omega))).trans ((zu_ne (k' := 2) (b' := 0) (i' := 0) (j' := (204 + 20 * a1)) hZ22 (fun q => absurd q.2.2.2 (by omega))).trans ((zu_ne (k' := 2) (b' := 0) (i' := 0) (j' := (204 + 20 * a1)) hZ21 (fun q => absurd q.2.2.2 (by omega))).trans ((zu_ne (k' := 2) (b' := 0) (i' := 0) (j' := (204 + 20 * a1)) hZ16 (fun q => absurd q.2.2.2 (by omega))).trans ((zu_ne (k' := 2) (b' := 0) (i' := 0) (j' := (204 + 20 * a1)) hZ15 (fun q => absurd q.2.2.2 (by omega))).trans ((zu_ne (k' := 2) (b' := 0) (i' := 0) (j' := (204 + 20 * a1)) hZ14 (fun q => absurd q.2.2.2 (by omega))).trans (zu_ne (k' := 2) (b' := 0) (i' := 0) (j' := (204 + 20 * a1)) hZ12 (fun q => absurd q.2.2.2 (by omega))))))))))))))))
  obtain ⟨Z40, hZ40⟩ := zx (zu Z37 2 0 0 (204 + 20 * a1) ((Z37 2 0 0 (204 + 20 * a1)) - a3))
  replace hP := zl_e hP hZ40
  have hZ40I := zM_u2 hZ37I hZ40 (lo := 0) (hi := 40) (zs_200_4 (x := a1) (by omega) (by omega) (by omega)) (by omega) ⟨by decide, by decide⟩ (by simp only [zsp]; omega)
  have hZ40U : zU [] Z Z40 := zU_u hZ37U hZ40 (Or.inl rfl)
  have hZ40K : zC [2] Z Z40 := zC_u hZ37K hZ40 (zcl_2w (by omega) rfl)
  intro μ9 e9
  replace e9 := e9.trans (zm_wI (Z := Z37) (ν := ν) hZ40 (show ((0 : Nat) : Int) = 0 from rfl) (show ((0 : Nat) : Int) = 0 from rfl) (i3I (y := (204 + 20 * a1)) (i3A (i3A (show (200 : Int32) = i3 200 from rfl) (i3M (show (20 : Int32) = i3 20 from rfl) (rfl : i3 a1 = i3 a1))) (show (4 : Int32) = i3 4 from rfl)) (by omega) (by omega) (by omega)) (i3S (zm_rd (Z := Z37) (ν := ν) (k := 2) (show ((0 : Nat) : Int) = 0 from rfl) (show ((0 : Nat) : Int) = 0 from rfl) (i3I (y := (204 + 20 * a1)) (i3A (i3A (show (200 : Int32) = i3 200 from rfl) (i3M (show (20 : Int32) = i3 20 from rfl) (rfl : i3 a1 = i3 a1))) (show (4 : Int32) = i3 4 from rfl)) (by omega) (by omega) (by omega))) (rfl : i3 a3 = i3 a3)))
  subst e9
  refine wz_i0 (i3O (n := 4400) (i3A (i3A (show (200 : Int32) = i3 200 from rfl) (i3M (show (20 : Int32) = i3 20 from rfl) (rfl : i3 a1 = i3 a1))) (show (5 : Int32) = i3 5 from rfl)) (by omega) (by omega) (by omega)) ?_
  refine wz_i0 (i3O (n := 4400) (i3A (i3A (show (200 : Int32) = i3 200 from rfl) (i3M (show (20 : Int32) = i3 20 from rfl) (rfl : i3 a1 = i3 a1))) (show (5 : Int32) = i3 5 from rfl)) (by omega) (by omega) (by omega)) ?_
  have r41 := zM_k hZ40I 2 0 0 (205 + 20 * a1) (lo := 0) (hi := 40) (by decide) (zs_200_5 (x := a1) (by omega) (by omega) (by omega))
  have q42 := (zu_ne (k' := 2) (b' := 0) (i' := 0) (j' := (205 + 20 * a1)) hZ40 (fun q => absurd q.2.2.2 (by omega))).trans ((zu_ne (k' := 2) (b' := 0) (i' := 0) (j' := (205 + 20 * a1)) hZ37 (fun q => absurd q.2.2.2 (by omega))).trans ((zu_ne (k' := 2) (b' := 0) (i' := 0) (j' := (205 + 20 * a1)) hZ36 (fun q => absurd q.2.2.2 (by omega))).trans ((zu_ne (k' := 2) (b' := 0) (i' := 0) (j' := (205 + 20 * a1)) hZ35 (fun q => absurd q.2.2.2 (by omega))).trans ((zu_ne (k' := 2) (b' := 0) (i' := 0) (j' := (205 + 20 * a1)) hZ34 (fun q => absurd q.2.2.2 (by omega))).trans ((zu_ne (k' := 2) (b' := 0) (i' := 0) (j' := (205 + 20 * a1)) hZ30 (fun q => absurd q.2.2.2 (by omega))).trans ((zu_ne (k' := 2) (b' := 0) (i' := 0) (j' := (205 + 20 * a1)) hZ29 (fun q => absurd q.2.2.2 (by omega))).trans ((zu_ne (k' := 2) (b' := 0) (i' := 0) (j' := (205 + 20 * a1)) hZ28 (fun q => absurd q.2.2.2 (by omega))).trans ((zu_ne (k' := 2) (b' := 0) (i' := 0) (j' := (205 + 20 * a1)) hZ26 (fun q => absurd q.2.2.2 (by omega))).trans ((zu_ne (k' := 2) (b' := 0) (i' := 0) (j' := (205 + 20 * a1)) hZ24 (fun q => absurd q.2.2.2 (by omega))).trans ((zu_ne (k' := 2) (b' := 0) (i' := 0) (j' := (205 + 20 * a1)) hZ22 (fun q => absurd q.2.2.2 (by omega))).trans ((zu_ne (k' := 2) (b' := 0) (i' := 0) (j' := (205 + 20 * a1)) hZ21 (fun q => absurd q.2.2.2 (by omega))).trans ((zu_ne (k' := 2) (b' := 0) (i' := 0) (j' := (205 + 20 * a1)) hZ16 (fun q => absurd q.2.2.2 (by omega))).trans ((zu_ne (k' := 2) (b' := 0) (i' := 0) (j' := (205 + 20 * a1)) hZ15 (fun q => absurd q.2.2.2 (by omega))).trans ((zu_ne (k' := 2) (b' := 0) (i' := 0) (j' := (205 + 20 * a1)) hZ14 (fun q => absurd q.2.2.2 (by omega))).trans (zu_ne (k' := 2) (b' := 0) (i' := 0) (j' := (205 + 20 * a1)) hZ12 (fun q => absurd q.2.2.2 (by omega)))))))))))))))))
  obtain ⟨Z43, hZ43⟩ := zx (zu Z40 2 0 0 (205 + 20 * a1) ((Z40 2 0 0 (205 + 20 * a1)) - (((Z9 2 0 0 (205 + 20 * a1)) * a3) / (Z9 2 0 0 (204 + 20 * a1)))))
  replace hP := zl_e hP hZ43
  have hZ43I := zM_u2 hZ40I hZ43 (lo := 0) (hi := 40) (zs_200_5 (x := a1) (by omega) (by omega) (by omega)) (by omega) ⟨by decide, by decide⟩ (by simp only [zsp]; omega)
  have hZ43U : zU [] Z Z43 := zU_u hZ40U hZ43 (Or.inl rfl)
  have hZ43K : zC [2] Z Z43 := zC_u hZ40K hZ43 (zcl_2w (by omega) rfl)
  intro μ9 e9
  replace e9 := e9.trans (zm_wI (Z := Z40) (ν := ν) hZ43 (show ((0 : Nat) : Int) = 0 from rfl) (show ((0 : Nat) : Int) = 0 from rfl) (i3I (y := (205 + 20 * a1)) (i3A (i3A (show (200 : Int32) = i3 200 from rfl) (i3M (show (20 : Int32) = i3 20 from rfl) (rfl : i3 a1 = i3 a1))) (show (5 : Int32) = i3 5 from rfl)) (by omega) (by omega) (by omega)) (i3S (zm_rd (Z := Z40) (ν := ν) (k := 2) (show ((0 : Nat) : Int) = 0 from rfl) (show ((0 : Nat) : Int) = 0 from rfl) (i3I (y := (205 + 20 * a1)) (i3A (i3A (show (200 : Int32) = i3 200 from rfl) (i3M (show (20 : Int32) = i3 20 from rfl) (rfl : i3 a1 = i3 a1))) (show (5 : Int32) = i3 5 from rfl)) (by omega) (by omega) (by omega))) (i3D (i3M (zm_rd (Z := Z9) (ν := ν) (k := 2) (show ((0 : Nat) : Int) = 0 from rfl) (show ((0 : Nat) : Int) = 0 from rfl) (i3I (y := (205 + 20 * a1)) (i3A (i3A (show (200 : Int32) = i3 200 from rfl) (i3M (show (20 : Int32) = i3 20 from rfl) (rfl : i3 a1 = i3 a1))) (show (5 : Int32) = i3 5 from rfl)) (by omega) (by omega) (by omega))) (rfl : i3 a3 = i3 a3)) (zm_rd (Z := Z9) (ν := ν) (k := 2) (show ((0 : Nat) : Int) = 0 from rfl) (show ((0 : Nat) : Int) = 0 from rfl) (i3I (y := (204 + 20 * a1)) (i3A (i3A (show (200 : Int32) = i3 200 from rfl) (i3M (show (20 : Int32) = i3 20 from rfl) (rfl : i3 a1 = i3 a1))) (show (4 : Int32) = i3 4 from rfl)) (by omega) (by omega) (by omega))) (by omega) (by omega) (by omega) (by omega))))
  subst e9
  have r44 := zM_k hZ43I 2 0 0 (1516 + 12 * a2) (lo := 0) (hi := 99) (by decide) (zs_1510_6 (x := a2) (by omega) (by omega) (by omega))
  have q45 := (zu_ne (k' := 2) (b' := 0) (i' := 0) (j' := (1516 + 12 * a2)) hZ43 (fun q => absurd q.2.2.2 (by omega))).trans ((zu_ne (k' := 2) (b' := 0) (i' := 0) (j' := (1516 + 12 * a2)) hZ40 (fun q => absurd q.2.2.2 (by omega))).trans ((zu_ne (k' := 2) (b' := 0) (i' := 0) (j' := (1516 + 12 * a2)) hZ37 (fun q => absurd q.2.2.2 (by omega))).trans ((zu_ne (k' := 2) (b' := 0) (i' := 0) (j' := (1516 + 12 * a2)) hZ36 (fun q => absurd q.2.2.2 (by omega))).trans ((zu_ne (k' := 2) (b' := 0) (i' := 0) (j' := (1516 + 12 * a2)) hZ35 (fun q => absurd q.2.2.2 (by omega))).trans ((zu_ne (k' := 2) (b' := 0) (i' := 0) (j' := (1516 + 12 * a2)) hZ34 (fun q => absurd q.2.2.2 (by omega))).trans ((zu_ne (k' := 2) (b' := 0) (i' := 0) (j' := (1516 + 12 * a2)) hZ30 (fun q => absurd q.2.2.2 (by omega))).trans ((zu_ne (k' := 2) (b' := 0) (i' := 0) (j' := (1516 + 12 * a2)) hZ29 (fun q => absurd q.2.2.2 (by omega))).trans ((zu_ne (k' := 2) (b' := 0) (i' := 0) (j' := (1516 + 12 * a2)) hZ28 (fun q => absurd q.2.2.2 (by omega))).trans ((zu_ne (k' := 2) (b' := 0) (i' := 0) (j' := (1516 + 12 * a2)) hZ26 (fun q => absurd q.2.2.2 (by omega))).trans ((zu_ne (k' := 2) (b' := 0) (i' := 0) (j' := (1516 + 12 * a2)) hZ24 (fun q => absurd q.2.2.2 (by omega))).trans ((zu_ne (k' := 2) (b' := 0) (i' := 0) (j' := (1516 + 12 * a2)) hZ22 (fun q => absurd q.2.2.2 (by omega))).trans ((zu_ne (k' := 2) (b' := 0) (i' := 0) (j' := (1516 + 12 * a2)) hZ21 (fun q => absurd q.2.2.2 (by omega))).trans ((zu_ne (k' := 2) (b' := 0) (i' := 0) (j' := (1516 + 12 * a2)) hZ16 (fun q => absurd q.2.2.2 (by omega))).trans ((zu_ne (k' := 2) (b' := 0) (i' := 0) (j' := (1516 + 12 * a2)) hZ15 (fun q => absurd q.2.2.2 (by omega))).trans ((zu_ne (k' := 2) (b' := 0) (i' := 0) (j' := (1516 + 12 * a2)) hZ14 (fun q => absurd q.2.2.2 (by omega))).trans ((zu_ne (k' := 2) (b' := 0) (i' := 0) (j' := (1516 + 12 * a2)) hZ12 (fun q => absurd q.2.2.2 (by omega))).trans (zu_ne (k' := 2) (b' := 0) (i' := 0) (j' := (1516 + 12 * a2)) hZ9 (fun q => absurd q.2.2.2 (by omega)))))))))))))))))))
  have r46 := zM_k hZ43I 2 0 0 (2012 + 16 * (Z 2 0 0 2000)) (lo := 0) (hi := 23) (by decide) (zs_2010_2 (x := (Z 2 0 0 2000)) (by omega) (by omega) (by omega))
  have q47 := (zu_ne (k' := 2) (b' := 0) (i' := 0) (j' := (2012 + 16 * (Z 2 0 0 2000))) hZ43 (fun q => absurd q.2.2.2 (by omega))).trans ((zu_ne (k' := 2) (b' := 0) (i' := 0) (j' := (2012 + 16 * (Z 2 0 0 2000))) hZ40 (fun q => absurd q.2.2.2 (by omega))).trans ((zu_ne (k' := 2) (b' := 0) (i' := 0) (j' := (2012 + 16 * (Z 2 0 0 2000))) hZ37 (fun q => absurd q.2.2.2 (by omega))).trans ((zu_ne (k' := 2) (b' := 0) (i' := 0) (j' := (2012 + 16 * (Z 2 0 0 2000))) hZ36 (fun q => absurd q.2.2.2 (by omega))).trans ((zu_ne (k' := 2) (b' := 0) (i' := 0) (j' := (2012 + 16 * (Z 2 0 0 2000))) hZ35 (fun q => absurd q.2.2.2 (by omega))).trans ((zu_ne (k' := 2) (b' := 0) (i' := 0) (j' := (2012 + 16 * (Z 2 0 0 2000))) hZ34 (fun q => absurd q.2.2.2 (by omega))).trans ((zu_ne (k' := 2) (b' := 0) (i' := 0) (j' := (2012 + 16 * (Z 2 0 0 2000))) hZ30 (fun q => absurd q.2.2.2 (by omega))).trans ((zu_ne (k' := 2) (b' := 0) (i' := 0) (j' := (2012 + 16 * (Z 2 0 0 2000))) hZ29 (fun q => absurd q.2.2.2 (by omega))).trans ((zu_ne (k' := 2) (b' := 0) (i' := 0) (j' := (2012 + 16 * (Z 2 0 0 2000))) hZ28 (fun q => absurd q.2.2.2 (by omega))).trans ((zu_ne (k' := 2) (b' := 0) (i' := 0) (j' := (2012 + 16 * (Z 2 0 0 2000))) hZ26 (fun q => absurd q.2.2.2 (by omega))).trans ((zu_ne (k' := 2) (b' := 0) (i' := 0) (j' := (2012 + 16 * (Z 2 0 0 2000))) hZ24 (fun q => absurd q.2.2.2 (by omega))).trans ((zu_ne (k' := 2) (b' := 0) (i' := 0) (j' := (2012 + 16 * (Z 2 0 0 2000))) hZ22 (fun q => absurd q.2.2.2 (by omega))).trans ((zu_ne (k' := 2) (b' := 0) (i' := 0) (j' := (2012 + 16 * (Z 2 0 0 2000))) hZ21 (fun q => absurd q.2.2.2 (by omega))).trans ((zu_ne (k' := 2) (b' := 0) (i' := 0) (j' := (2012 + 16 * (Z 2 0 0 2000))) hZ16 (fun q => absurd q.2.2.2 (by omega))).trans (zu_at hZ15))))))))))))))
  have r48 := zM_k hZ43I 2 0 0 (2013 + 16 * (Z 2 0 0 2000)) (lo := 0) (hi := 40) (by decide) (zs_2010_3 (x := (Z 2 0 0 2000)) (by omega) (by omega) (by omega))
  have r49 := zM_cr hZ43I (Z 2 0 0 2000)
  have r50 := zM_k hZ43I 2 0 0 2000 (lo := 0) (hi := 60) (by decide) rfl
  have q51 := (zu_ne (k' := 2) (b' := 0) (i' := 0) (j' := 2000) hZ43 (fun q => absurd q.2.2.2 (by omega))).trans ((zu_ne (k' := 2) (b' := 0) (i' := 0) (j' := 2000) hZ40 (fun q => absurd q.2.2.2 (by omega))).trans ((zu_ne (k' := 2) (b' := 0) (i' := 0) (j' := 2000) hZ37 (fun q => absurd q.2.2.2 (by omega))).trans ((zu_ne (k' := 2) (b' := 0) (i' := 0) (j' := 2000) hZ36 (fun q => absurd q.2.2.2 (by omega))).trans ((zu_ne (k' := 2) (b' := 0) (i' := 0) (j' := 2000) hZ35 (fun q => absurd q.2.2.2 (by omega))).trans ((zu_ne (k' := 2) (b' := 0) (i' := 0) (j' := 2000) hZ34 (fun q => absurd q.2.2.2 (by omega))).trans ((zu_ne (k' := 2) (b' := 0) (i' := 0) (j' := 2000) hZ30 (fun q => absurd q.2.2.2 (by omega))).trans ((zu_ne (k' := 2) (b' := 0) (i' := 0) (j' := 2000) hZ29 (fun q => absurd q.2.2.2 (by omega))).trans ((zu_ne (k' := 2) (b' := 0) (i' := 0) (j' := 2000) hZ28 (fun q => absurd q.2.2.2 (by omega))).trans ((zu_ne (k' := 2) (b' := 0) (i' := 0) (j' := 2000) hZ26 (fun q => absurd q.2.2.2 (by omega))).trans ((zu_ne (k' := 2) (b' := 0) (i' := 0) (j' := 2000) hZ24 (fun q => absurd q.2.2.2 (by omega))).trans ((zu_ne (k' := 2) (b' := 0) (i' := 0) (j' := 2000) hZ22 (fun q => absurd q.2.2.2 (by omega))).trans ((zu_ne (k' := 2) (b' := 0) (i' := 0) (j' := 2000) hZ21 (fun q => absurd q.2.2.2 (by omega))).trans ((zu_ne (k' := 2) (b' := 0) (i' := 0) (j' := 2000) hZ16 (fun q => absurd q.2.2.2 (by omega))).trans ((zu_ne (k' := 2) (b' := 0) (i' := 0) (j' := 2000) hZ15 (fun q => absurd q.2.2.2 (by omega))).trans ((zu_ne (k' := 2) (b' := 0) (i' := 0) (j' := 2000) hZ14 (fun q => absurd q.2.2.2 (by omega))).trans ((zu_ne (k' := 2) (b' := 0) (i' := 0) (j' := 2000) hZ12 (fun q => absurd q.2.2.2 (by omega))).trans (zu_at hZ9)))))))))))))))))
  have q52 := (zu_ne (k' := 2) (b' := 0) (i' := 0) (j' := (2013 + 16 * (Z 2 0 0 2000))) hZ43 (fun q => absurd q.2.2.2 (by omega))).trans ((zu_ne (k' := 2) (b' := 0) (i' := 0) (j' := (2013 + 16 * (Z 2 0 0 2000))) hZ40 (fun q => absurd q.2.2.2 (by omega))).trans ((zu_ne (k' := 2) (b' := 0) (i' := 0) (j' := (2013 + 16 * (Z 2 0 0 2000))) hZ37 (fun q => absurd q.2.2.2 (by omega))).trans ((zu_ne (k' := 2) (b' := 0) (i' := 0) (j' := (2013 + 16 * (Z 2 0 0 2000))) hZ36 (fun q => absurd q.2.2.2 (by omega))).trans ((zu_ne (k' := 2) (b' := 0) (i' := 0) (j' := (2013 + 16 * (Z 2 0 0 2000))) hZ35 (fun q => absurd q.2.2.2 (by omega))).trans ((zu_ne (k' := 2) (b' := 0) (i' := 0) (j' := (2013 + 16 * (Z 2 0 0 2000))) hZ34 (fun q => absurd q.2.2.2 (by omega))).trans ((zu_ne (k' := 2) (b' := 0) (i' := 0) (j' := (2013 + 16 * (Z 2 0 0 2000))) hZ30 (fun q => absurd q.2.2.2 (by omega))).trans ((zu_ne (k' := 2) (b' := 0) (i' := 0) (j' := (2013 + 16 * (Z 2 0 0 2000))) hZ29 (fun q => absurd q.2.2.2 (by omega))).trans ((zu_ne (k' := 2) (b' := 0) (i' := 0) (j' := (2013 + 16 * (Z 2 0 0 2000))) hZ28 (fun q => absurd q.2.2.2 (by omega))).trans ((zu_ne (k' := 2) (b' := 0) (i' := 0) (j' := (2013 + 16 * (Z 2 0 0 2000))) hZ26 (fun q => absurd q.2.2.2 (by omega))).trans ((zu_ne (k' := 2) (b' := 0) (i' := 0) (j' := (2013 + 16 * (Z 2 0 0 2000))) hZ24 (fun q => absurd q.2.2.2 (by omega))).trans ((zu_ne (k' := 2) (b' := 0) (i' := 0) (j' := (2013 + 16 * (Z 2 0 0 2000))) hZ22 (fun q => absurd q.2.2.2 (by omega))).trans ((zu_ne (k' := 2) (b' := 0) (i' := 0) (j' := (2013 + 16 * (Z 2 0 0 2000))) hZ21 (fun q => absurd q.2.2.2 (by omega))).trans (zu_at hZ16)))))))))))))
  have r53 : Z43 2 0 0 (1516 + 12 * (Z43 2 0 0 (2012 + 16 * (Z 2 0 0 2000)))) = Z43 2 0 0 (1516 + 12 * a2) := by rw [show Z43 2 0 0 (2012 + 16 * (Z 2 0 0 2000)) = a2 from by omega]
  have r54 := zM_k hZ43I 2 0 0 (1516 + 12 * (Z43 2 0 0 (2012 + 16 * (Z 2 0 0 2000)))) (lo := 0) (hi := 99) (by decide) (zs_1510_6 (x := (Z43 2 0 0 (2012 + 16 * (Z 2 0 0 2000)))) (by omega) (by omega) (by omega))
  obtain ⟨Z55, hZ55, c9, hZ55I, kZ55, jZ55⟩ := sp_284 (ν := ν) hZ43I (a1 := (Z 2 0 0 2000)) (by omega) (by omega) (zbh (c := 0) (k := 0) hM (Nat.le_of_ble_eq_true rfl))
  have hZ55U : zU [] Z Z55 := zU_t hZ43U jZ55 zU_b0
  have hZ55K : zC [2] Z Z55 := zC_t hZ43K kZ55 (by decide)
  replace hP := zl_e hP hZ55
  refine wz_cV_of (zas (zcons rfl (zcons (zvi (zm_rd (Z := Z) (ν := ν) (k := 2) (show ((0 : Nat) : Int) = 0 from rfl) (show ((0 : Nat) : Int) = 0 from rfl) (show ((2000 : Nat) : Int) = 2000 from rfl))) rfl)) c9) ?_
  clear c9
  have r56 := zM_k hZ43I 2 0 0 0 (lo := 0) (hi := 671) (by decide) rfl
  have q57 := (zu_ne (k' := 2) (b' := 0) (i' := 0) (j' := 0) hZ43 (fun q => absurd q.2.2.2 (by omega))).trans ((zu_ne (k' := 2) (b' := 0) (i' := 0) (j' := 0) hZ40 (fun q => absurd q.2.2.2 (by omega))).trans ((zu_ne (k' := 2) (b' := 0) (i' := 0) (j' := 0) hZ37 (fun q => absurd q.2.2.2 (by omega))).trans ((zu_ne (k' := 2) (b' := 0) (i' := 0) (j' := 0) hZ36 (fun q => absurd q.2.2.2 (by omega))).trans ((zu_ne (k' := 2) (b' := 0) (i' := 0) (j' := 0) hZ35 (fun q => absurd q.2.2.2 (by omega))).trans ((zu_ne (k' := 2) (b' := 0) (i' := 0) (j' := 0) hZ34 (fun q => absurd q.2.2.2 (by omega))).trans ((zu_ne (k' := 2) (b' := 0) (i' := 0) (j' := 0) hZ30 (fun q => absurd q.2.2.2 (by omega))).trans ((zu_ne (k' := 2) (b' := 0) (i' := 0) (j' := 0) hZ29 (fun q => absurd q.2.2.2 (by omega))).trans ((zu_ne (k' := 2) (b' := 0) (i' := 0) (j' := 0) hZ28 (fun q => absurd q.2.2.2 (by omega))).trans ((zu_ne (k' := 2) (b' := 0) (i' := 0) (j' := 0) hZ26 (fun q => absurd q.2.2.2 (by omega))).trans (zu_ne (k' := 2) (b' := 0) (i' := 0) (j' := 0) hZ24 (fun q => absurd q.2.2.2 (by omega))))))))))))
  have q58 : Z55 2 0 0 0 = Z43 2 0 0 0 := zk_284 hZ55 hZ43I (by omega) (by omega)
  have r59 := zM_k hZ43I 2 0 0 102 (lo := 0) (hi := 48) (by decide) rfl
  have q60 := (zu_ne (k' := 2) (b' := 0) (i' := 0) (j' := 102) hZ43 (fun q => absurd q.2.2.2 (by omega))).trans ((zu_ne (k' := 2) (b' := 0) (i' := 0) (j' := 102) hZ40 (fun q => absurd q.2.2.2 (by omega))).trans ((zu_ne (k' := 2) (b' := 0) (i' := 0) (j' := 102) hZ37 (fun q => absurd q.2.2.2 (by omega))).trans ((zu_ne (k' := 2) (b' := 0) (i' := 0) (j' := 102) hZ36 (fun q => absurd q.2.2.2 (by omega))).trans ((zu_ne (k' := 2) (b' := 0) (i' := 0) (j' := 102) hZ35 (fun q => absurd q.2.2.2 (by omega))).trans ((zu_ne (k' := 2) (b' := 0) (i' := 0) (j' := 102) hZ34 (fun q => absurd q.2.2.2 (by omega))).trans ((zu_ne (k' := 2) (b' := 0) (i' := 0) (j' := 102) hZ30 (fun q => absurd q.2.2.2 (by omega))).trans ((zu_ne (k' := 2) (b' := 0) (i' := 0) (j' := 102) hZ29 (fun q => absurd q.2.2.2 (by omega))).trans ((zu_ne (k' := 2) (b' := 0) (i' := 0) (j' := 102) hZ28 (fun q => absurd q.2.2.2 (by omega))).trans ((zu_ne (k' := 2) (b' := 0) (i' := 0) (j' := 102) hZ26 (fun q => absurd q.2.2.2 (by omega))).trans ((zu_ne (k' := 2) (b' := 0) (i' := 0) (j' := 102) hZ24 (fun q => absurd q.2.2.2 (by omega))).trans ((zu_ne (k' := 2) (b' := 0) (i' := 0) (j' := 102) hZ22 (fun q => absurd q.2.2.2 (by omega))).trans ((zu_ne (k' := 2) (b' := 0) (i' := 0) (j' := 102) hZ21 (fun q => absurd q.2.2.2 (by omega))).trans ((zu_ne (k' := 2) (b' := 0) (i' := 0) (j' := 102) hZ16 (fun q => absurd q.2.2.2 (by omega))).trans ((zu_ne (k' := 2) (b' := 0) (i' := 0) (j' := 102) hZ15 (fun q => absurd q.2.2.2 (by omega))).trans ((zu_ne (k' := 2) (b' := 0) (i' := 0) (j' := 102) hZ14 (fun q => absurd q.2.2.2 (by omega))).trans ((zu_ne (k' := 2) (b' := 0) (i' := 0) (j' := 102) hZ12 (fun q => absurd q.2.2.2 (by omega))).trans (zu_ne (k' := 2) (b' := 0) (i' := 0) (j' := 102) hZ9 (fun q => absurd q.2.2.2 (by decide)))))))))))))))))))
  have q61 : Z55 2 0 0 102 = Z43 2 0 0 102 := zk_284 hZ55 hZ43I (by omega) (by omega)
  have r62 := zM_k hZ43I 2 0 0 (204 + 20 * a1) (lo := 0) (hi := 40) (by decide) (zs_200_4 (x := a1) (by omega) (by omega) (by omega))
  have q63 := (zu_ne (k' := 2) (b' := 0) (i' := 0) (j' := (204 + 20 * a1)) hZ43 (fun q => absurd q.2.2.2 (by omega))).trans (zu_at hZ40)
  have q64 : Z55 2 0 0 (204 + 20 * a1) = Z43 2 0 0 (204 + 20 * a1) := zk_284 hZ55 hZ43I (by omega) (by omega)
  have r65 := zM_k hZ43I 2 0 0 (205 + 20 * a1) (lo := 0) (hi := 40) (by decide) (zs_200_5 (x := a1) (by omega) (by omega) (by omega))
  have q66 := zu_at hZ43
  have q67 : Z55 2 0 0 (205 + 20 * a1) = Z43 2 0 0 (205 + 20 * a1) := zk_284 hZ55 hZ43I (by omega) (by omega)
  have r68 := zM_k hZ43I 2 0 0 (207 + 20 * a1) (lo := 0) (hi := 2000) (by decide) (zs_200_7 (x := a1) (by omega) (by omega) (by omega))
  have q69 := (zu_ne (k' := 2) (b' := 0) (i' := 0) (j' := (207 + 20 * a1)) hZ43 (fun q => absurd q.2.2.2 (by omega))).trans ((zu_ne (k' := 2) (b' := 0) (i' := 0) (j' := (207 + 20 * a1)) hZ40 (fun q => absurd q.2.2.2 (by omega))).trans ((zu_ne (k' := 2) (b' := 0) (i' := 0) (j' := (207 + 20 * a1)) hZ37 (fun q => absurd q.2.2.2 (by omega))).trans ((zu_ne (k' := 2) (b' := 0) (i' := 0) (j' := (207 + 20 * a1)) hZ36 (fun q => absurd q.2.2.2 (by omega))).trans ((zu_ne (k' := 2) (b' := 0) (i' := 0) (j' := (207 + 20 * a1)) hZ35 (fun q => absurd q.2.2.2 (by omega))).trans ((zu_ne (k' := 2) (b' := 0) (i' := 0) (j' := (207 + 20 * a1)) hZ34 (fun q => absurd q.2.2.2 (by omega))).trans ((zu_ne (k' := 2) (b' := 0) (i' := 0) (j' := (207 + 20 * a1)) hZ30 (fun q => absurd q.2.2.2 (by omega))).trans ((zu_ne (k' := 2) (b' := 0) (i' := 0) (j' := (207 + 20 * a1)) hZ29 (fun q => absurd q.2.2.2 (by omega))).trans (zu_ne (k' := 2) (b' := 0) (i' := 0) (j' := (207 + 20 * a1)) hZ28 (fun q => absurd q.2.2.2 (by omega))))))))))
  have q70 : Z55 2 0 0 (207 + 20 * a1) = Z43 2 0 0 (207 + 20 * a1) := zk_284 hZ55 hZ43I (by omega) (by omega)
  have r71 := zM_k hZ43I 2 0 0 (209 + 20 * a1) (lo := -1) (hi := 3) (by decide) (zs_200_9 (x := a1) (by omega) (by omega) (by omega))
  have q72 := (zu_ne (k' := 2) (b' := 0) (i' := 0) (j' := (209 + 20 * a1)) hZ43 (fun q => absurd q.2.2.2 (by omega))).trans ((zu_ne (k' := 2) (b' := 0) (i' := 0) (j' := (209 + 20 * a1)) hZ40 (fun q => absurd q.2.2.2 (by omega))).trans ((zu_ne (k' := 2) (b' := 0) (i' := 0) (j' := (209 + 20 * a1)) hZ37 (fun q => absurd q.2.2.2 (by omega))).trans ((zu_ne (k' := 2) (b' := 0) (i' := 0) (j' := (209 + 20 * a1)) hZ36 (fun q => absurd q.2.2.2 (by omega))).trans ((zu_ne (k' := 2) (b' := 0) (i' := 0) (j' := (209 + 20 * a1)) hZ35 (fun q => absurd q.2.2.2 (by omega))).trans ((zu_ne (k' := 2) (b' := 0) (i' := 0) (j' := (209 + 20 * a1)) hZ34 (fun q => absurd q.2.2.2 (by omega))).trans ((zu_ne (k' := 2) (b' := 0) (i' := 0) (j' := (209 + 20 * a1)) hZ30 (fun q => absurd q.2.2.2 (by omega))).trans ((zu_ne (k' := 2) (b' := 0) (i' := 0) (j' := (209 + 20 * a1)) hZ29 (fun q => absurd q.2.2.2 (by omega))).trans ((zu_ne (k' := 2) (b' := 0) (i' := 0) (j' := (209 + 20 * a1)) hZ28 (fun q => absurd q.2.2.2 (by omega))).trans (zu_ne (k' := 2) (b' := 0) (i' := 0) (j' := (209 + 20 * a1)) hZ26 (fun q => absurd q.2.2.2 (by omega)))))))))))
  have q73 : Z55 2 0 0 (209 + 20 * a1) = Z43 2 0 0 (209 + 20 * a1) := zk_284 hZ55 hZ43I (by omega) (by omega)
  have r74 := zM_k hZ43I 2 0 0 (211 + 20 * a1) (lo := -1) (hi := 6) (by decide) (zs_200_11 (x := a1) (by omega) (by omega) (by omega))
  have r75 := zM_pl hZ43I a1
  have q76 := (zu_ne (k' := 2) (b' := 0) (i' := 0) (j' := (211 + 20 * a1)) hZ43 (fun q => absurd q.2.2.2 (by omega))).trans ((zu_ne (k' := 2) (b' := 0) (i' := 0) (j' := (211 + 20 * a1)) hZ40 (fun q => absurd q.2.2.2 (by omega))).trans ((zu_ne (k' := 2) (b' := 0) (i' := 0) (j' := (211 + 20 * a1)) hZ37 (fun q => absurd q.2.2.2 (by omega))).trans ((zu_ne (k' := 2) (b' := 0) (i' := 0) (j' := (211 + 20 * a1)) hZ36 (fun q => absurd q.2.2.2 (by omega))).trans ((zu_ne (k' := 2) (b' := 0) (i' := 0) (j' := (211 + 20 * a1)) hZ35 (fun q => absurd q.2.2.2 (by omega))).trans ((zu_ne (k' := 2) (b' := 0) (i' := 0) (j' := (211 + 20 * a1)) hZ34 (fun q => absurd q.2.2.2 (by omega))).trans ((zu_ne (k' := 2) (b' := 0) (i' := 0) (j' := (211 + 20 * a1)) hZ30 (fun q => absurd q.2.2.2 (by omega))).trans ((zu_ne (k' := 2) (b' := 0) (i' := 0) (j' := (211 + 20 * a1)) hZ29 (fun q => absurd q.2.2.2 (by omega))).trans ((zu_ne (k' := 2) (b' := 0) (i' := 0) (j' := (211 + 20 * a1)) hZ28 (fun q => absurd q.2.2.2 (by omega))).trans ((zu_ne (k' := 2) (b' := 0) (i' := 0) (j' := (211 + 20 * a1)) hZ26 (fun q => absurd q.2.2.2 (by omega))).trans ((zu_ne (k' := 2) (b' := 0) (i' := 0) (j' := (211 + 20 * a1)) hZ24 (fun q => absurd q.2.2.2 (by omega))).trans ((zu_ne (k' := 2) (b' := 0) (i' := 0) (j' := (211 + 20 * a1)) hZ22 (fun q => absurd q.2.2.2 (by omega))).trans ((zu_ne (k' := 2) (b' := 0) (i' := 0) (j' := (211 + 20 * a1)) hZ21 (fun q => absurd q.2.2.2 (by omega))).trans ((zu_ne (k' := 2) (b' := 0) (i' := 0) (j' := (211 + 20 * a1)) hZ16 (fun q => absurd q.2.2.2 (by omega))).trans ((zu_ne (k' := 2) (b' := 0) (i' := 0) (j' := (211 + 20 * a1)) hZ15 (fun q => absurd q.2.2.2 (by omega))).trans ((zu_ne (k' := 2) (b' := 0) (i' := 0) (j' := (211 + 20 * a1)) hZ14 (fun q => absurd q.2.2.2 (by omega))).trans ((zu_ne (k' := 2) (b' := 0) (i' := 0) (j' := (211 + 20 * a1)) hZ12 (fun q => absurd q.2.2.2 (by omega))).trans (zu_ne (k' := 2) (b' := 0) (i' := 0) (j' := (211 + 20 * a1)) hZ9 (fun q => absurd q.2.2.2 (by omega)))))))))))))))))))
  have q77 : Z55 2 0 0 (211 + 20 * a1) = Z43 2 0 0 (211 + 20 * a1) := zk_284 hZ55 hZ43I (by omega) (by omega)
  have r78 := zM_k hZ43I 2 0 0 3015 (lo := 0) (hi := 12) (by decide) rfl
  have q79 := (zu_ne (k' := 2) (b' := 0) (i' := 0) (j' := 3015) hZ43 (fun q => absurd q.2.2.2 (by omega))).trans ((zu_ne (k' := 2) (b' := 0) (i' := 0) (j' := 3015) hZ40 (fun q => absurd q.2.2.2 (by omega))).trans ((zu_ne (k' := 2) (b' := 0) (i' := 0) (j' := 3015) hZ37 (fun q => absurd q.2.2.2 (by omega))).trans ((zu_ne (k' := 2) (b' := 0) (i' := 0) (j' := 3015) hZ36 (fun q => absurd q.2.2.2 (by omega))).trans ((zu_ne (k' := 2) (b' := 0) (i' := 0) (j' := 3015) hZ35 (fun q => absurd q.2.2.2 (by omega))).trans ((zu_ne (k' := 2) (b' := 0) (i' := 0) (j' := 3015) hZ34 (fun q => absurd q.2.2.2 (by omega))).trans ((zu_ne (k' := 2) (b' := 0) (i' := 0) (j' := 3015) hZ30 (fun q => absurd q.2.2.2 (by omega))).trans ((zu_ne (k' := 2) (b' := 0) (i' := 0) (j' := 3015) hZ29 (fun q => absurd q.2.2.2 (by omega))).trans ((zu_ne (k' := 2) (b' := 0) (i' := 0) (j' := 3015) hZ28 (fun q => absurd q.2.2.2 (by omega))).trans ((zu_ne (k' := 2) (b' := 0) (i' := 0) (j' := 3015) hZ26 (fun q => absurd q.2.2.2 (by omega))).trans ((zu_ne (k' := 2) (b' := 0) (i' := 0) (j' := 3015) hZ24 (fun q => absurd q.2.2.2 (by omega))).trans ((zu_ne (k' := 2) (b' := 0) (i' := 0) (j' := 3015) hZ22 (fun q => absurd q.2.2.2 (by omega))).trans ((zu_ne (k' := 2) (b' := 0) (i' := 0) (j' := 3015) hZ21 (fun q => absurd q.2.2.2 (by omega))).trans ((zu_ne (k' := 2) (b' := 0) (i' := 0) (j' := 3015) hZ16 (fun q => absurd q.2.2.2 (by omega))).trans ((zu_ne (k' := 2) (b' := 0) (i' := 0) (j' := 3015) hZ15 (fun q => absurd q.2.2.2 (by omega))).trans ((zu_ne (k' := 2) (b' := 0) (i' := 0) (j' := 3015) hZ14 (fun q => absurd q.2.2.2 (by omega))).trans ((zu_ne (k' := 2) (b' := 0) (i' := 0) (j' := 3015) hZ12 (fun q => absurd q.2.2.2 (by omega))).trans (zu_ne (k' := 2) (b' := 0) (i' := 0) (j' := 3015) hZ9 (fun q => absurd q.2.2.2 (by decide)))))))))))))))))))
  have q80 : Z55 2 0 0 3015 = Z43 2 0 0 3015 := zk_284 hZ55 hZ43I (by omega) (by omega)
  have r81 := zM_k hZ43I 2 0 0 3075 (lo := 0) (hi := 12) (by decide) rfl
  have q82 := (zu_ne (k' := 2) (b' := 0) (i' := 0) (j' := 3075) hZ43 (fun q => absurd q.2.2.2 (by omega))).trans ((zu_ne (k' := 2) (b' := 0) (i' := 0) (j' := 3075) hZ40 (fun q => absurd q.2.2.2 (by omega))).trans ((zu_ne (k' := 2) (b' := 0) (i' := 0) (j' := 3075) hZ37 (fun q => absurd q.2.2.2 (by omega))).trans ((zu_ne (k' := 2) (b' := 0) (i' := 0) (j' := 3075) hZ36 (fun q => absurd q.2.2.2 (by omega))).trans ((zu_ne (k' := 2) (b' := 0) (i' := 0) (j' := 3075) hZ35 (fun q => absurd q.2.2.2 (by omega))).trans ((zu_ne (k' := 2) (b' := 0) (i' := 0) (j' := 3075) hZ34 (fun q => absurd q.2.2.2 (by omega))).trans ((zu_ne (k' := 2) (b' := 0) (i' := 0) (j' := 3075) hZ30 (fun q => absurd q.2.2.2 (by omega))).trans ((zu_ne (k' := 2) (b' := 0) (i' := 0) (j' := 3075) hZ29 (fun q => absurd q.2.2.2 (by omega))).trans ((zu_ne (k' := 2) (b' := 0) (i' := 0) (j' := 3075) hZ28 (fun q => absurd q.2.2.2 (by omega))).trans ((zu_ne (k' := 2) (b' := 0) (i' := 0) (j' := 3075) hZ26 (fun q => absurd q.2.2.2 (by omega))).trans ((zu_ne (k' := 2) (b' := 0) (i' := 0) (j' := 3075) hZ24 (fun q => absurd q.2.2.2 (by omega))).trans ((zu_ne (k' := 2) (b' := 0) (i' := 0) (j' := 3075) hZ22 (fun q => absurd q.2.2.2 (by omega))).trans ((zu_ne (k' := 2) (b' := 0) (i' := 0) (j' := 3075) hZ21 (fun q => absurd q.2.2.2 (by omega))).trans ((zu_ne (k' := 2) (b' := 0) (i' := 0) (j' := 3075) hZ16 (fun q => absurd q.2.2.2 (by omega))).trans ((zu_ne (k' := 2) (b' := 0) (i' := 0) (j' := 3075) hZ15 (fun q => absurd q.2.2.2 (by omega))).trans ((zu_ne (k' := 2) (b' := 0) (i' := 0) (j' := 3075) hZ14 (fun q => absurd q.2.2.2 (by omega))).trans ((zu_ne (k' := 2) (b' := 0) (i' := 0) (j' := 3075) hZ12 (fun q => absurd q.2.2.2 (by omega))).trans (zu_ne (k' := 2) (b' := 0) (i' := 0) (j' := 3075) hZ9 (fun q => absurd q.2.2.2 (by decide)))))))))))))))))))
  have q83 : Z55 2 0 0 3075 = Z43 2 0 0 3075 := zk_284 hZ55 hZ43I (by omega) (by omega)
  obtain ⟨Z84, hZ84, c9, hZ84I, kZ84, jZ84⟩ := sp_419 (ν := ν) hZ55I (a1 := (Z 2 0 0 2000)) (by omega) (zbh (c := 0) (k := 2) hM (Nat.le_of_ble_eq_true rfl))
  have hZ84U : zU [] Z Z84 := zU_t hZ55U jZ84 zU_b0
  have hZ84K : zC [2] Z Z84 := zC_t hZ55K kZ84 (by decide)
  replace hP := zl_e hP hZ84
  refine wz_cV_of (zas (zcons rfl (zcons (zvi (zm_rd (Z := Z) (ν := ν) (k := 2) (show ((0 : Nat) : Int) = 0 from rfl) (show ((0 : Nat) : Int) = 0 from rfl) (show ((2000 : Nat) : Int) = 2000 from rfl))) rfl)) c9) ?_
  clear c9
  have r85 := zM_k hZ55I 2 0 0 0 (lo := 0) (hi := 671) (by decide) rfl
  have q86 := kZ55 2 0 0 0 (by decide)
  have q87 : Z84 2 0 0 0 = Z55 2 0 0 0 := zk_419 hZ84 hZ55I (by omega) (by omega)
  have r88 := zM_k hZ55I 2 0 0 102 (lo := 0) (hi := 48) (by decide) rfl
  have q89 : Z84 2 0 0 102 = Z55 2 0 0 102 := zk_419 hZ84 hZ55I (by omega) (by omega)
  have r90 := zM_k hZ55I 2 0 0 (1510 + 12 * a2) (lo := 0) (hi := 7) (by decide) (zs_1510_0 (x := a2) (by omega) (by omega) (by omega))
  have q91 : Z84 2 0 0 (1510 + 12 * a2) = Z55 2 0 0 (1510 + 12 * a2) := zk_419 hZ84 hZ55I (by omega) (by omega)
  have r92 := zM_k hZ55I 2 0 0 (1516 + 12 * a2) (lo := 0) (hi := 99) (by decide) (zs_1510_6 (x := a2) (by omega) (by omega) (by omega))
  have q93 : Z84 2 0 0 (1516 + 12 * a2) = Z55 2 0 0 (1516 + 12 * a2) := zk_419 hZ84 hZ55I (by omega) (by omega)
  have r94 := zM_k hZ55I 2 0 0 2000 (lo := 0) (hi := 60) (by decide) rfl
  have q95 : Z84 2 0 0 2000 = Z55 2 0 0 2000 := zk_419 hZ84 hZ55I (by omega) (by omega)
  have r96 := zM_k hZ55I 2 0 0 (2012 + 16 * (Z 2 0 0 2000)) (lo := 0) (hi := 23) (by decide) (zs_2010_2 (x := (Z 2 0 0 2000)) (by omega) (by omega) (by omega))
  have q97 : Z84 2 0 0 (2012 + 16 * (Z 2 0 0 2000)) = Z55 2 0 0 (2012 + 16 * (Z 2 0 0 2000)) := zk_419 hZ84 hZ55I (by omega) (by omega)
  have r98 := zM_k hZ55I 2 0 0 (2013 + 16 * (Z 2 0 0 2000)) (lo := 0) (hi := 40) (by decide) (zs_2010_3 (x := (Z 2 0 0 2000)) (by omega) (by omega) (by omega))
  have r99 := zM_cr hZ55I (Z 2 0 0 2000)
  have q100 : Z84 2 0 0 (2013 + 16 * (Z 2 0 0 2000)) = Z55 2 0 0 (2013 + 16 * (Z 2 0 0 2000)) := zk_419 hZ84 hZ55I (by omega) (by omega)
  have r101 := zM_k hZ55I 2 0 0 (2019 + 16 * (Z 2 0 0 2000)) (lo := 0) (hi := 3) (by decide) (zs_2010_9 (x := (Z 2 0 0 2000)) (by omega) (by omega) (by omega))
  have r102 := zM_lt2 hZ55I (Z 2 0 0 2000)
  have q103 : Z84 2 0 0 (2019 + 16 * (Z 2 0 0 2000)) = Z55 2 0 0 (2019 + 16 * (Z 2 0 0 2000)) := zk_419 hZ84 hZ55I (by omega) (by omega)
  have r104 := zM_k hZ55I 2 0 0 (204 + 20 * a1) (lo := 0) (hi := 40) (by decide) (zs_200_4 (x := a1) (by omega) (by omega) (by omega))
  have q105 : Z84 2 0 0 (204 + 20 * a1) = Z55 2 0 0 (204 + 20 * a1) := zk_419 hZ84 hZ55I (by omega) (by omega)
  have r106 := zM_k hZ55I 2 0 0 (205 + 20 * a1) (lo := 0) (hi := 40) (by decide) (zs_200_5 (x := a1) (by omega) (by omega) (by omega))
  have q107 : Z84 2 0 0 (205 + 20 * a1) = Z55 2 0 0 (205 + 20 * a1) := zk_419 hZ84 hZ55I (by omega) (by omega)
  have r108 := zM_k hZ55I 2 0 0 (207 + 20 * a1) (lo := 0) (hi := 2000) (by decide) (zs_200_7 (x := a1) (by omega) (by omega) (by omega))
  have q109 : Z84 2 0 0 (207 + 20 * a1) = Z55 2 0 0 (207 + 20 * a1) := zk_419 hZ84 hZ55I (by omega) (by omega)
  have r110 := zM_k hZ55I 2 0 0 (209 + 20 * a1) (lo := -1) (hi := 3) (by decide) (zs_200_9 (x := a1) (by omega) (by omega) (by omega))
  have q111 : Z84 2 0 0 (209 + 20 * a1) = Z55 2 0 0 (209 + 20 * a1) := zk_419 hZ84 hZ55I (by omega) (by omega)
  have r112 := zM_k hZ55I 2 0 0 (211 + 20 * a1) (lo := -1) (hi := 6) (by decide) (zs_200_11 (x := a1) (by omega) (by omega) (by omega))
  have r113 := zM_pl hZ55I a1
  have q114 : Z84 2 0 0 (211 + 20 * a1) = Z55 2 0 0 (211 + 20 * a1) := zk_419 hZ84 hZ55I (by omega) (by omega)
  have r115 := zM_k hZ55I 2 0 0 3015 (lo := 0) (hi := 12) (by decide) rfl
  have q116 : Z84 2 0 0 3015 = Z55 2 0 0 3015 := zk_419 hZ84 hZ55I (by omega) (by omega)
  have r117 := zM_k hZ55I 2 0 0 3075 (lo := 0) (hi := 12) (by decide) rfl
  have q118 : Z84 2 0 0 3075 = Z55 2 0 0 3075 := zk_419 hZ84 hZ55I (by omega) (by omega)
  have r119 := zM_k hZ84I 2 0 0 (204 + 20 * a1) (lo := 0) (hi := 40) (by decide) (zs_200_4 (x := a1) (by omega) (by omega) (by omega))
  have r120 := zM_k hZ84I 2 0 0 3015 (lo := 0) (hi := 12) (by decide) rfl
  have r121 := zM_k hZ84I 2 0 0 3075 (lo := 0) (hi := 12) (by decide) rfl
  have r122 := zM_k hZ84I 2 0 0 102 (lo := 0) (hi := 48) (by decide) rfl
  have r123 := zM_k hZ84I 2 0 0 (211 + 20 * a1) (lo := -1) (hi := 6) (by decide) (zs_200_11 (x := a1) (by omega) (by omega) (by omega))
  have r124 := zM_pl hZ84I a1
  exact zlW hP (zm_rd (Z := Z) (ν := ν) (k := 2) (show ((0 : Nat) : Int) = 0 from rfl) (show ((0 : Nat) : Int) = 0 from rfl) (show ((2000 : Nat) : Int) = 2000 from rfl)) ⟨hZ84I, hZ84K, hZ84U, by omega, by omega, by omega, by omega, by omega, by omega, by omega⟩
/- y by hand: both clocks -/
theorem zk_two {f g : qz_Z} {x : Int} (h0 : f 2 0 0 3015 = g 2 0 0 3015) (h1 : f 2 0 0 3075 = g 2 0 0 3075) (hx : 0 ≤ x ∧ x ≤ 1) : f 2 0 0 (3015 + 60 * x) = g 2 0 0 (3015 + 60 * x) := by
  have : x = 0 ∨ x = 1 := by omega
  rcases this with rfl | rfl
  · exact h0
  · exact h1
/- yX12_cSell -/
def zl_309_1 (x1 : Int) (x2 : Int) (x3 : Int) (x4 : Int) (x5 : Int) : Nat → qz_Z → Int → Int → qz_Z × Int × Int
  | 0, Z, x6, x7 => (Z, x6, x7)
  | m + 1, Z, x6, x7 => (if x7 ≠ 0 then (Z, x6, x7) else (zlet (zf_286 Z x2 x6) (fun v9 => (if v9 ≠ (-1) then (zlet (zf_287 Z v9 x2 x6) (fun v17 => (zlet2 (zf_433 Z x2 v9 v17 x6) (fun Z21 v22 => (zlet (zu Z21 2 0 0 (3019 + 60 * x1) (w3 ((Z21 2 0 0 (3019 + 60 * x1)) + 1))) (fun Z34 => (zlet (zu Z34 2 0 0 (3020 + 60 * x1) (w3 ((Z34 2 0 0 (3020 + 60 * x1)) + v17))) (fun Z37 => (zlet (zu Z37 2 0 0 (3021 + 60 * x1) (w3 ((Z37 2 0 0 (3021 + 60 * x1)) + (v17 * x6)))) (fun Z41 => (if (Z41 2 0 0 (204 + 20 * x2)) ≠ 0 then (if x3 ≤ (x6 + ((Z41 2 0 0 (3014 + 60 * x1)) * x5)) then zl_309_1 x1 x2 x3 x4 x5 m Z41 x3 0 else zl_309_1 x1 x2 x3 x4 x5 m Z41 (x6 + ((Z41 2 0 0 (3014 + 60 * x1)) * x5)) 0) else zl_309_1 x1 x2 x3 x4 x5 m Z41 x6 1))))))))))) else (if x4 ≤ (x6 - x5) then zl_309_1 x1 x2 x3 x4 x5 m Z (x6 - x5) 0 else zl_309_1 x1 x2 x3 x4 x5 m Z (x6 - 0) 1)))))
theorem sl_309_1 {s : zSM} {xM9 : Nat} {Zs Z : qz_Z} {ν : qz_N} (hZ : zM (zb s xM9) Z) (hM : s.2 + 82 ≤ 1000000000) (hK : zC [2] Zs Z) {x1 : Int} (gx1 : 0 ≤ x1 ∧ x1 ≤ 1) {x2 : Int} (gx2 : 0 ≤ x2 ∧ x2 ≤ 47) {x3 : Int} (gx3 : 0 ≤ x3 ∧ x3 ≤ 9999) {x4 : Int} (gx4 : 0 ≤ x4 ∧ x4 ≤ 9999) {x5 : Int} (gx5 : 0 ≤ x5 ∧ x5 ≤ 500) {x6 : Int} (gx6 : 1 ≤ x6 ∧ x6 ≤ 9999) {x7 : Int} (gx7 : 0 ≤ x7 ∧ x7 ≤ 1) (hU : zU [] Zs Z) (hx9 : xM9 + (2 * Z 2 0 0 (204 + 20 * x2)).toNat + 2 ≤ 82) (gr0 : 1 ≤ x5) (gr1 : 1 ≤ x4) (gr2 : x4 ≤ x6) (gr3 : x6 ≤ x3) (gr4 : x3 ≤ x4 + 200 * x5) (gr5 : 1 ≤ Z 2 0 0 (3015 + 60 * x1)) (gr6 : Z 2 0 0 102 ≤ x2 ∨ 0 ≤ Z 2 0 0 (211 + 20 * x2)) (gm9 : ((210 * Z 2 0 0 (204 + 20 * x2)).toNat + zfl x6 x4 x5 + (1 - x7).toNat) ≤ 8700) {k : wz_K} {R : wz_R} {L : qz_L} (hL : qz_fg [true, true, true, true, true, true, true, true, false, false, false] L = [some (.inr (.inr (some (1, 0, 0)))), some (.inl (i3 x1)), some (.inl (i3 x2)), some (.inl (i3 x3)), some (.inl (i3 x4)), some (.inl (i3 x5)), some (.inl (i3 x6)), some (.inl (i3 x7)), none, none, none]) {T : qz_Z × Int × Int} (hP : zE T (zl_309_1 x1 x2 x3 x4 x5 (8700 + 1) Z x6 x7)) (hk : ∀ (L9 : qz_L) (Z9 : qz_Z) (yx6 yx7 : Int), qz_fg [true, true, true, false, false, false, true, false, false, false, false] L9 = [some (.inr (.inr (some (1, 0, 0)))), some (.inl (i3 x1)), some (.inl (i3 x2)), none, none, none, some (.inl (i3 yx6)), none, none, none, none] → zM (zb s 82) Z9 → zC [2] Zs Z9 → zU [] Zs Z9 → (1 ≤ yx6 ∧ yx6 ≤ 9999) → (0 ≤ yx7 ∧ yx7 ≤ 1) → (1 ≤ x5) → (1 ≤ x4) → (x4 ≤ yx6) → (yx6 ≤ x3) → (x3 ≤ x4 + 200 * x5) → (1 ≤ Z9 2 0 0 (3015 + 60 * x1)) → (Z9 2 0 0 102 ≤ x2 ∨ 0 ≤ Z9 2 0 0 (211 + 20 * x2)) → zE T ((Z9, yx6, yx7)) → k 0 (L9, [], zm Z9 ν)) : wz_loop qb_309_1 65536 k R (L, [], zm Z ν) := by
  refine wz_lp sb_309_1 (fun m x => ∃ xM9 : Nat, ∃ Z : qz_Z, ∃ x6 : Int, ∃ x7 : Int, qz_fg [true, true, true, true, true, true, true, true, false, false, false] x.1 = [some (.inr (.inr (some (1, 0, 0)))), some (.inl (i3 x1)), some (.inl (i3 x2)), some (.inl (i3 x3)), some (.inl (i3 x4)), some (.inl (i3 x5)), some (.inl (i3 x6)), some (.inl (i3 x7)), none, none, none] ∧ x.2 = ([], zm Z ν) ∧ xM9 + (2 * Z 2 0 0 (204 + 20 * x2)).toNat + 2 ≤ 82 ∧ zM (zb s xM9) Z ∧ zC [2] Zs Z ∧ zU [] Zs Z ∧ ((210 * Z 2 0 0 (204 + 20 * x2)).toNat + zfl x6 x4 x5 + (1 - x7).toNat) ≤ m ∧ (1 ≤ x6 ∧ x6 ≤ 9999) ∧ (0 ≤ x7 ∧ x7 ≤ 1) ∧ (1 ≤ x5) ∧ (1 ≤ x4) ∧ (x4 ≤ x6) ∧ (x6 ≤ x3) ∧ (x3 ≤ x4 + 200 * x5) ∧ (1 ≤ Z 2 0 0 (3015 + 60 * x1)) ∧ (Z 2 0 0 102 ≤ x2 ∨ 0 ≤ Z 2 0 0 (211 + 20 * x2)) ∧ zE T (zl_309_1 x1 x2 x3 x4 x5 (m + 1) Z x6 x7)) ?_ 65536 (8700) _ (by omega) ⟨xM9, Z, x6, x7, hL, rfl, hx9, hZ, hK, hU, gm9, gx6, gx7, gr0, gr1, gr2, gr3, gr4, gr5, gr6, hP⟩
  clear hP gm9 gr0 gr1 gr2 gr3 gr4 gr5 gr6 gx6 gx7 hx9 hZ hK hU hL
  clear x6 x7
  clear Z
  clear xM9
  rintro m ⟨L, st, μ⟩ ⟨xM9, Z, x6, x7, hL, hx, hx9, hZ, hK, hU, hm, gx6, gx7, gr0, gr1, gr2, gr3, gr4, gr5, gr6, hP⟩
  cases hx
  have hM9 : (zb s xM9).2 + 2 ≤ 1000000000 := by
    show s.2 + xM9 + 2 ≤ 1000000000
    omega
  refine fb_309_1 (i3 x1) (i3 x2) (i3 x3) (i3 x4) (i3 x5) (i3 x6) (i3 x7) _ _ _ _ hL ?_
  have r1 := zM_k hZ 2 0 0 (3015 + 60 * x1) (lo := 0) (hi := 12) (by decide) (zs_3010_5 (x := (x1 + 0)) (by omega) (by omega) (by omega))
  have r2 := zM_k hZ 2 0 0 102 (lo := 0) (hi := 48) (by decide) rfl
  have r3 := zM_k hZ 2 0 0 (211 + 20 * x2) (lo := -1) (hi := 6) (by decide) (zs_200_11 (x := x2) (by omega) (by omega) (by omega))
  have r4 := zM_pl hZ x2
  have r5 := zM_k hZ 2 0 0 (204 + 20 * x2) (lo := 0) (hi := 40) (by decide) (zs_200_4 (x := x2) (by omega) (by omega) (by omega))
  have r6 := zfl_s x6 x4 x5
  have r7 := zfl_b x6 x4 x5
  refine wz_br (i3NE (rfl : i3 x7 = i3 x7) (show (0 : Int32) = i3 0 from rfl) (by omega) (by omega) (by omega) (by omega)) (fun h8 => ?_) (fun h8 => ?_)
  · replace hP := zE_p hP h8
    exact hk _ _ _ _ (zconso rfl (zconso (zvo (rfl : i3 x1 = i3 x1)) (zconso (zvo (rfl : i3 x2 = i3 x2)) (zconso rfl (zconso rfl (zconso rfl (zconso (zvo (rfl : i3 x6 = i3 x6)) (zconso rfl (zconso rfl (zconso rfl (zconso rfl rfl))))))))))) (zmx0 hZ (by omega)) hK hU (by omega) (by omega) (by omega) (by omega) (by omega) (by omega) (by omega) (by omega) (by omega) hP
  · replace hP := zE_n hP h8
    obtain ⟨v9, hv9, c9, lv9, uv9, wv90⟩ := sp_286 (ν := ν) hZ (a1 := x2) (by omega) (a2 := x6) (by omega) (zbh (c := 0) (k := 0) hM9 (Nat.le_of_ble_eq_true rfl))
    replace hP := zl_e hP hv9
    refine wz_cI_of (zas (zcons rfl (zcons (zvi (rfl : i3 x2 = i3 x2)) (zcons (zvi (rfl : i3 x6 = i3 x6)) rfl))) c9) ?_
    clear c9
    have r10 := zM_f hZ 2 0 0 (1510 + 12 * v9)
    have r11 := zM_k hZ 2 0 0 2000 (lo := 0) (hi := 60) (by decide) rfl
    have r12 := zM_f hZ 2 0 0 (1516 + 12 * v9)
    have w13 : v9 = -1 ∨ (x6 ≤ zrs Z (Z 2 0 0 (1510 + 12 * v9)) ∧ Z 2 0 0 2000 ≤ 59 ∧ 1 ≤ Z 2 0 0 (1516 + 12 * v9) ∧ 1 ≤ Z 2 0 0 (204 + 20 * x2)) := wv90
    refine wz_br (i3NE (rfl : i3 v9 = i3 v9) (show (-1 : Int32) = i3 (-1) from rfl) (by omega) (by omega) (by omega) (by omega)) (fun h14 => ?_) (fun h14 => ?_)
    · replace hP := zE_p hP h14
      have r15 := zM_k hZ 2 0 0 (1510 + 12 * v9) (lo := 0) (hi := 7) (by decide) (zs_1510_0 (x := v9) (by omega) (by omega) (by omega))
      have r16 := zM_k hZ 2 0 0 (1516 + 12 * v9) (lo := 0) (hi := 99) (by decide) (zs_1510_6 (x := v9) (by omega) (by omega) (by omega))
      obtain ⟨v17, hv17, c9, lv17, uv17, wv170, wv171, wv172⟩ := sp_287 (ν := ν) hZ (a1 := v9) (by omega) (a2 := x2) (by omega) (a3 := x6) (by omega) (by omega) (by omega) (by omega) (zbh (c := 0) (k := 0) hM9 (Nat.le_of_ble_eq_true rfl))
      replace hP := zl_e hP hv17
      refine wz_cI_of (zas (zcons rfl (zcons (zvi (rfl : i3 v9 = i3 v9)) (zcons (zvi (rfl : i3 x2 = i3 x2)) (zcons (zvi (rfl : i3 x6 = i3 x6)) rfl)))) c9) ?_
      clear c9
      have w18 : 1 ≤ v17 := wv170
      have w19 : v17 ≤ Z 2 0 0 (204 + 20 * x2) := wv171
      have w20 : v17 ≤ Z 2 0 0 (1516 + 12 * v9) := wv172
      obtain ⟨Z21, v22, hv22, c9, hZ21I, kZ21, jZ21, lv22, uv22, wv220, wv221, wv222, wv223, wv224⟩ := sp_433 (ν := ν) hZ (a1 := x2) (by omega) (a2 := v9) (by omega) (a3 := v17) (by omega) (a4 := x6) (by omega) (by omega) (by omega) (by omega) (zbh (c := 0) (k := 2) hM9 (Nat.le_of_ble_eq_true rfl))
      have hZ21U : zU [] Zs Z21 := zU_t hU jZ21 zU_b0
      have hZ21K : zC [2] Zs Z21 := zC_t hK kZ21 (by decide)
      replace hP := zl_e2 hP hv22
      refine wz_cI_of (zas (zcons rfl (zcons (zvi (rfl : i3 x2 = i3 x2)) (zcons (zvi (rfl : i3 v9 = i3 v9)) (zcons (zvi (rfl : i3 v17 = i3 v17)) (zcons (zvi (rfl : i3 x6 = i3 x6)) rfl))))) c9) ?_
      clear c9 hv22
      have r23 := zM_k hZ21I 2 0 0 (204 + 20 * x2) (lo := 0) (hi := 40) (by decide) (zs_200_4 (x := x2) (by omega) (by omega) (by omega))
      have r24 := zM_k hZ21I 2 0 0 3015 (lo := 0) (hi := 12) (by decide) rfl
      have r25 := zM_k hZ 2 0 0 3015 (lo := 0) (hi := 12) (by decide) rfl
      have r26 := zM_k hZ21I 2 0 0 3075 (lo := 0) (hi := 12) (by decide) rfl
      have r27 := zM_k hZ 2 0 0 3075 (lo := 0) (hi := 12) (by decide) rfl
      have r28 := zM_k hZ21I 2 0 0 102 (lo := 0) (hi := 48) (by decide) rfl
      have r29 := zM_k hZ21I 2 0 0 (211 + 20 * x2) (lo := -1) (hi := 6) (by decide) (zs_200_11 (x := x2) (by omega) (by omega) (by omega))
      have r30 := zM_pl hZ21I x2
      have q31 : Z21 2 0 0 (3015 + 60 * x1) = Z 2 0 0 (3015 + 60 * x1) := zk_two (by omega) (by omega) (by omega)
      refine wz_i0 (i3O (n := 4400) (i3A (i3A (show (3010 : Int32) = i3 3010 from rfl) (i3M (show (60 : Int32) = i3 60 from rfl) (rfl : i3 x1 = i3 x1))) (show (9 : Int32) = i3 9 from rfl)) (by omega) (by omega) (by omega)) ?_
      refine wz_i0 (i3O (n := 4400) (i3A (i3A (show (3010 : Int32) = i3 3010 from rfl) (i3M (show (60 : Int32) = i3 60 from rfl) (rfl : i3 x1 = i3 x1))) (show (9 : Int32) = i3 9 from rfl)) (by omega) (by omega) (by omega)) ?_
      have r32 := zM_f hZ21I 2 0 0 (3019 + 60 * x1)
      have r33 := w3_r ((Z21 2 0 0 (3019 + 60 * x1)) + 1)
      obtain ⟨Z34, hZ34⟩ := zx (zu Z21 2 0 0 (3019 + 60 * x1) (w3 ((Z21 2 0 0 (3019 + 60 * x1)) + 1)))
      replace hP := zl_e hP hZ34
      have hZ34I := zM_u2 hZ21I hZ34 (lo := -2147483648) (hi := 2147483647) (zs_3010_9 (x := (x1 + 0)) (by omega) (by omega) (by omega)) (by omega) ⟨by decide, by decide⟩ (by simp only [zsp]; omega)
      have hZ34U : zU [] Zs Z34 := zU_u hZ21U hZ34 (Or.inl rfl)
      have hZ34K : zC [2] Zs Z34 := zC_u hZ21K hZ34 (zcl_2w (by omega) rfl)
      intro μ9 e9
      replace e9 := e9.trans (zm_wI (Z := Z21) (ν := ν) hZ34 (show ((0 : Nat) : Int) = 0 from rfl) (show ((0 : Nat) : Int) = 0 from rfl) (i3I (y := (3019 + 60 * x1)) (i3A (i3A (show (3010 : Int32) = i3 3010 from rfl) (i3M (show (60 : Int32) = i3 60 from rfl) (rfl : i3 x1 = i3 x1))) (show (9 : Int32) = i3 9 from rfl)) (by omega) (by omega) (by omega)) (i3W (i3A (zm_rd (Z := Z21) (ν := ν) (k := 2) (show ((0 : Nat) : Int) = 0 from rfl) (show ((0 : Nat) : Int) = 0 from rfl) (i3I (y := (3019 + 60 * x1)) (i3A (i3A (show (3010 : Int32) = i3 3010 from rfl) (i3M (show (60 : Int32) = i3 60 from rfl) (rfl : i3 x1 = i3 x1))) (show (9 : Int32) = i3 9 from rfl)) (by omega) (by omega) (by omega))) (show (1 : Int32) = i3 1 from rfl))))
      subst e9
      refine wz_i0 (i3O (n := 4400) (i3A (i3A (show (3010 : Int32) = i3 3010 from rfl) (i3M (show (60 : Int32) = i3 60 from rfl) (rfl : i3 x1 = i3 x1))) (show (10 : Int32) = i3 10 from rfl)) (by omega) (by omega) (by omega)) ?_
      refine wz_i0 (i3O (n := 4400) (i3A (i3A (show (3010 : Int32) = i3 3010 from rfl) (i3M (show (60 : Int32) = i3 60 from rfl) (rfl : i3 x1 = i3 x1))) (show (10 : Int32) = i3 10 from rfl)) (by omega) (by omega) (by omega)) ?_
      have r35 := zM_f hZ34I 2 0 0 (3020 + 60 * x1)
      have r36 := w3_r ((Z34 2 0 0 (3020 + 60 * x1)) + v17)
      obtain ⟨Z37, hZ37⟩ := zx (zu Z34 2 0 0 (3020 + 60 * x1) (w3 ((Z34 2 0 0 (3020 + 60 * x1)) + v17)))
      replace hP := zl_e hP hZ37
      have hZ37I := zM_u2 hZ34I hZ37 (lo := -2147483648) (hi := 2147483647) (zs_3010_10 (x := (x1 + 0)) (by omega) (by omega) (by omega)) (by omega) ⟨by decide, by decide⟩ (by simp only [zsp]; omega)
      have hZ37U : zU [] Zs Z37 := zU_u hZ34U hZ37 (Or.inl rfl)
      have hZ37K : zC [2] Zs Z37 := zC_u hZ34K hZ37 (zcl_2w (by omega) rfl)
      intro μ9 e9
      replace e9 := e9.trans (zm_wI (Z := Z34) (ν := ν) hZ37 (show ((0 : Nat) : Int) = 0 from rfl) (show ((0 : Nat) : Int) = 0 from rfl) (i3I (y := (3020 + 60 * x1)) (i3A (i3A (show (3010 : Int32) = i3 3010 from rfl) (i3M (show (60 : Int32) = i3 60 from rfl) (rfl : i3 x1 = i3 x1))) (show (10 : Int32) = i3 10 from rfl)) (by omega) (by omega) (by omega)) (i3W (i3A (zm_rd (Z := Z34) (ν := ν) (k := 2) (show ((0 : Nat) : Int) = 0 from rfl) (show ((0 : Nat) : Int) = 0 from rfl) (i3I (y := (3020 + 60 * x1)) (i3A (i3A (show (3010 : Int32) = i3 3010 from rfl) (i3M (show (60 : Int32) = i3 60 from rfl) (rfl : i3 x1 = i3 x1))) (show (10 : Int32) = i3 10 from rfl)) (by omega) (by omega) (by omega))) (rfl : i3 v17 = i3 v17))))
      subst e9
      refine wz_i0 (i3O (n := 4400) (i3A (i3A (show (3010 : Int32) = i3 3010 from rfl) (i3M (show (60 : Int32) = i3 60 from rfl) (rfl : i3 x1 = i3 x1))) (show (11 : Int32) = i3 11 from rfl)) (by omega) (by omega) (by omega)) ?_
      refine wz_i0 (i3O (n := 4400) (i3A (i3A (show (3010 : Int32) = i3 3010 from rfl) (i3M (show (60 : Int32) = i3 60 from rfl) (rfl : i3 x1 = i3 x1))) (show (11 : Int32) = i3 11 from rfl)) (by omega) (by omega) (by omega)) ?_
      have r38 := zM_f hZ37I 2 0 0 (3021 + 60 * x1)
      have r39 := z_mul (x := v17) (y := x6) (a := 40) (b := 9999) (by omega) (by omega) (by omega) (by omega)
      have r40 := w3_r ((Z37 2 0 0 (3021 + 60 * x1)) + (v17 * x6))
      obtain ⟨Z41, hZ41⟩ := zx (zu Z37 2 0 0 (3021 + 60 * x1) (w3 ((Z37 2 0 0 (3021 + 60 * x1)) + (v17 * x6))))
      replace hP := zl_e hP hZ41
      have hZ41I := zM_u2 hZ37I hZ41 (lo := -2147483648) (hi := 2147483647) (zs_3010_11 (x := (x1 + 0)) (by omega) (by omega) (by omega)) (by omega) ⟨by decide, by decide⟩ (by simp only [zsp]; omega)
      have hZ41U : zU [] Zs Z41 := zU_u hZ37U hZ41 (Or.inl rfl)
      have hZ41K : zC [2] Zs Z41 := zC_u hZ37K hZ41 (zcl_2w (by omega) rfl)
      intro μ9 e9
      replace e9 := e9.trans (zm_wI (Z := Z37) (ν := ν) hZ41 (show ((0 : Nat) : Int) = 0 from rfl) (show ((0 : Nat) : Int) = 0 from rfl) (i3I (y := (3021 + 60 * x1)) (i3A (i3A (show (3010 : Int32) = i3 3010 from rfl) (i3M (show (60 : Int32) = i3 60 from rfl) (rfl : i3 x1 = i3 x1))) (show (11 : Int32) = i3 11 from rfl)) (by omega) (by omega) (by omega)) (i3W (i3A (zm_rd (Z := Z37) (ν := ν) (k := 2) (show ((0 : Nat) : Int) = 0 from rfl) (show ((0 : Nat) : Int) = 0 from rfl) (i3I (y := (3021 + 60 * x1)) (i3A (i3A (show (3010 : Int32) = i3 3010 from rfl) (i3M (show (60 : Int32) = i3 60 from rfl) (rfl : i3 x1 = i3 x1))) (show (11 : Int32) = i3 11 from rfl)) (by omega) (by omega) (by omega))) (i3M (rfl : i3 v17 = i3 v17) (rfl : i3 x6 = i3 x6)))))
      subst e9
      refine wz_i0 (i3O (n := 4400) (i3A (i3A (show (200 : Int32) = i3 200 from rfl) (i3M (show (20 : Int32) = i3 20 from rfl) (rfl : i3 x2 = i3 x2))) (show (4 : Int32) = i3 4 from rfl)) (by omega) (by omega) (by omega)) ?_
      have r42 := zM_k hZ41I 2 0 0 (204 + 20 * x2) (lo := 0) (hi := 40) (by decide) (zs_200_4 (x := x2) (by omega) (by omega) (by omega))
      have q43 := (zu_ne (k' := 2) (b' := 0) (i' := 0) (j' := (204 + 20 * x2)) hZ41 (fun q => absurd q.2.2.2 (by omega))).trans ((zu_ne (k' := 2) (b' := 0) (i' := 0) (j' := (204 + 20 * x2)) hZ37 (fun q => absurd q.2.2.2 (by omega))).trans (zu_ne (k' := 2) (b' := 0) (i' := 0) (j' := (204 + 20 * x2)) hZ34 (fun q => absurd q.2.2.2 (by omega))))
      refine wz_br (i3NE (zm_rd (Z := Z41) (ν := ν) (k := 2) (show ((0 : Nat) : Int) = 0 from rfl) (show ((0 : Nat) : Int) = 0 from rfl) (i3I (y := (204 + 20 * x2)) (i3A (i3A (show (200 : Int32) = i3 200 from rfl) (i3M (show (20 : Int32) = i3 20 from rfl) (rfl : i3 x2 = i3 x2))) (show (4 : Int32) = i3 4 from rfl)) (by omega) (by omega) (by omega))) (show (0 : Int32) = i3 0 from rfl) (by omega) (by omega) (by omega) (by omega)) (fun h44 => ?_) (fun h44 => ?_)
      · replace hP := zE_p hP h44
        refine wz_i0 (i3O (n := 4400) (i3A (i3A (show (3010 : Int32) = i3 3010 from rfl) (i3M (show (60 : Int32) = i3 60 from rfl) (rfl : i3 x1 = i3 x1))) (show (4 : Int32) = i3 4 from rfl)) (by omega) (by omega) (by omega)) ?_
        have r45 := zM_k hZ41I 2 0 0 (3014 + 60 * x1) (lo := 0) (hi := 9) (by decide) (zs_3010_4 (x := (x1 + 0)) (by omega) (by omega) (by omega))
        have r46 := z_mul (x := (Z41 2 0 0 (3014 + 60 * x1))) (y := x5) (a := 9) (b := 500) (by omega) (by omega) (by omega) (by omega)
        refine wz_br (i3Le (rfl : i3 x3 = i3 x3) (i3A (rfl : i3 x6 = i3 x6) (i3M (zm_rd (Z := Z41) (ν := ν) (k := 2) (show ((0 : Nat) : Int) = 0 from rfl) (show ((0 : Nat) : Int) = 0 from rfl) (i3I (y := (3014 + 60 * x1)) (i3A (i3A (show (3010 : Int32) = i3 3010 from rfl) (i3M (show (60 : Int32) = i3 60 from rfl) (rfl : i3 x1 = i3 x1))) (show (4 : Int32) = i3 4 from rfl)) (by omega) (by omega) (by omega))) (rfl : i3 x5 = i3 x5))) (by omega) (by omega) (by omega) (by omega)) (fun h47 => ?_) (fun h47 => ?_)
        · replace hP := zE_p hP h47
          have r48 := zM_k hZ41I 2 0 0 (3015 + 60 * x1) (lo := 0) (hi := 12) (by decide) (zs_3010_5 (x := (x1 + 0)) (by omega) (by omega) (by omega))
          have q49 := (zu_ne (k' := 2) (b' := 0) (i' := 0) (j' := (3015 + 60 * x1)) hZ41 (fun q => absurd q.2.2.2 (by omega))).trans ((zu_ne (k' := 2) (b' := 0) (i' := 0) (j' := (3015 + 60 * x1)) hZ37 (fun q => absurd q.2.2.2 (by omega))).trans (zu_ne (k' := 2) (b' := 0) (i' := 0) (j' := (3015 + 60 * x1)) hZ34 (fun q => absurd q.2.2.2 (by omega))))
          have r50 := zM_k hZ41I 2 0 0 102 (lo := 0) (hi := 48) (by decide) rfl
          have q51 := (zu_ne (k' := 2) (b' := 0) (i' := 0) (j' := 102) hZ41 (fun q => absurd q.2.2.2 (by omega))).trans ((zu_ne (k' := 2) (b' := 0) (i' := 0) (j' := 102) hZ37 (fun q => absurd q.2.2.2 (by omega))).trans (zu_ne (k' := 2) (b' := 0) (i' := 0) (j' := 102) hZ34 (fun q => absurd q.2.2.2 (by omega))))
          have r52 := zM_k hZ41I 2 0 0 (211 + 20 * x2) (lo := -1) (hi := 6) (by decide) (zs_200_11 (x := x2) (by omega) (by omega) (by omega))
          have r53 := zM_pl hZ41I x2
          have q54 := (zu_ne (k' := 2) (b' := 0) (i' := 0) (j' := (211 + 20 * x2)) hZ41 (fun q => absurd q.2.2.2 (by omega))).trans ((zu_ne (k' := 2) (b' := 0) (i' := 0) (j' := (211 + 20 * x2)) hZ37 (fun q => absurd q.2.2.2 (by omega))).trans (zu_ne (k' := 2) (b' := 0) (i' := 0) (j' := (211 + 20 * x2)) hZ34 (fun q => absurd q.2.2.2 (by omega))))
          have r55 := zfl_b x3 x4 x5
          have r56 := zfl_b x3 x4 x5
          have r57 := zfl_c (x := x3) (y := x6) x4 x5
          obtain ⟨m2, rfl⟩ : ∃ m2, m = m2 + 1 := ⟨m - 1, by omega⟩
          exact wz_k1 ⟨m2, by omega, xM9 + 2, Z41, x3, 0, (zconso rfl (zconso (zvo (rfl : i3 x1 = i3 x1)) (zconso (zvo (rfl : i3 x2 = i3 x2)) (zconso (zvo (rfl : i3 x3 = i3 x3)) (zconso (zvo (rfl : i3 x4 = i3 x4)) (zconso (zvo (rfl : i3 x5 = i3 x5)) (zconso (zvo (rfl : i3 x3 = i3 x3)) (zconso (zvo (show (0 : Int32) = i3 0 from rfl)) (zconso rfl (zconso rfl (zconso rfl rfl))))))))))), rfl, by omega, (zmt hZ41I rfl), hZ41K, hZ41U, by omega, by omega, by omega, by omega, by omega, by omega, by omega, by omega, by omega, by omega,  hP⟩
        · replace hP := zE_n hP h47
          have r58 := zM_k hZ41I 2 0 0 (3015 + 60 * x1) (lo := 0) (hi := 12) (by decide) (zs_3010_5 (x := (x1 + 0)) (by omega) (by omega) (by omega))
          have q59 := (zu_ne (k' := 2) (b' := 0) (i' := 0) (j' := (3015 + 60 * x1)) hZ41 (fun q => absurd q.2.2.2 (by omega))).trans ((zu_ne (k' := 2) (b' := 0) (i' := 0) (j' := (3015 + 60 * x1)) hZ37 (fun q => absurd q.2.2.2 (by omega))).trans (zu_ne (k' := 2) (b' := 0) (i' := 0) (j' := (3015 + 60 * x1)) hZ34 (fun q => absurd q.2.2.2 (by omega))))
          have r60 := zM_k hZ41I 2 0 0 102 (lo := 0) (hi := 48) (by decide) rfl
          have q61 := (zu_ne (k' := 2) (b' := 0) (i' := 0) (j' := 102) hZ41 (fun q => absurd q.2.2.2 (by omega))).trans ((zu_ne (k' := 2) (b' := 0) (i' := 0) (j' := 102) hZ37 (fun q => absurd q.2.2.2 (by omega))).trans (zu_ne (k' := 2) (b' := 0) (i' := 0) (j' := 102) hZ34 (fun q => absurd q.2.2.2 (by omega))))
          have r62 := zM_k hZ41I 2 0 0 (211 + 20 * x2) (lo := -1) (hi := 6) (by decide) (zs_200_11 (x := x2) (by omega) (by omega) (by omega))
          have r63 := zM_pl hZ41I x2
          have q64 := (zu_ne (k' := 2) (b' := 0) (i' := 0) (j' := (211 + 20 * x2)) hZ41 (fun q => absurd q.2.2.2 (by omega))).trans ((zu_ne (k' := 2) (b' := 0) (i' := 0) (j' := (211 + 20 * x2)) hZ37 (fun q => absurd q.2.2.2 (by omega))).trans (zu_ne (k' := 2) (b' := 0) (i' := 0) (j' := (211 + 20 * x2)) hZ34 (fun q => absurd q.2.2.2 (by omega))))
          have r65 := zfl_b (x6 + ((Z41 2 0 0 (3014 + 60 * x1)) * x5)) x4 x5
          have r66 := zfl_b x3 x4 x5
          have r67 := zfl_c (x := (x6 + ((Z41 2 0 0 (3014 + 60 * x1)) * x5))) (y := x6) x4 x5
          obtain ⟨m2, rfl⟩ : ∃ m2, m = m2 + 1 := ⟨m - 1, by omega⟩
          exact wz_k1 ⟨m2, by omega, xM9 + 2, Z41, (x6 + ((Z41 2 0 0 (3014 + 60 * x1)) * x5)), 0, (zconso rfl (zconso (zvo (rfl : i3 x1 = i3 x1)) (zconso (zvo (rfl : i3 x2 = i3 x2)) (zconso (zvo (rfl : i3 x3 = i3 x3)) (zconso (zvo (rfl : i3 x4 = i3 x4)) (zconso (zvo (rfl : i3 x5 = i3 x5)) (zconso (zvo (i3A (rfl : i3 x6 = i3 x6) (i3M (zm_rd (Z := Z41) (ν := ν) (k := 2) (show ((0 : Nat) : Int) = 0 from rfl) (show ((0 : Nat) : Int) = 0 from rfl) (i3I (y := (3014 + 60 * x1)) (i3A (i3A (show (3010 : Int32) = i3 3010 from rfl) (i3M (show (60 : Int32) = i3 60 from rfl) (rfl : i3 x1 = i3 x1))) (show (4 : Int32) = i3 4 from rfl)) (by omega) (by omega) (by omega))) (rfl : i3 x5 = i3 x5)))) (zconso (zvo (show (0 : Int32) = i3 0 from rfl)) (zconso rfl (zconso rfl (zconso rfl rfl))))))))))), rfl, by omega, (zmt hZ41I rfl), hZ41K, hZ41U, by omega, by omega, by omega, by omega, by omega, by omega, by omega, by omega, by omega, by omega,  hP⟩
      · replace hP := zE_n hP h44
        refine wz_i0 (i3O (n := 4400) (i3A (i3A (show (3010 : Int32) = i3 3010 from rfl) (i3M (show (60 : Int32) = i3 60 from rfl) (rfl : i3 x1 = i3 x1))) (show (4 : Int32) = i3 4 from rfl)) (by omega) (by omega) (by omega)) ?_
        have r68 := zM_k hZ41I 2 0 0 (3015 + 60 * x1) (lo := 0) (hi := 12) (by decide) (zs_3010_5 (x := (x1 + 0)) (by omega) (by omega) (by omega))
        have q69 := (zu_ne (k' := 2) (b' := 0) (i' := 0) (j' := (3015 + 60 * x1)) hZ41 (fun q => absurd q.2.2.2 (by omega))).trans ((zu_ne (k' := 2) (b' := 0) (i' := 0) (j' := (3015 + 60 * x1)) hZ37 (fun q => absurd q.2.2.2 (by omega))).trans (zu_ne (k' := 2) (b' := 0) (i' := 0) (j' := (3015 + 60 * x1)) hZ34 (fun q => absurd q.2.2.2 (by omega))))
        have r70 := zM_k hZ41I 2 0 0 102 (lo := 0) (hi := 48) (by decide) rfl
        have q71 := (zu_ne (k' := 2) (b' := 0) (i' := 0) (j' := 102) hZ41 (fun q => absurd q.2.2.2 (by omega))).trans ((zu_ne (k' := 2) (b' := 0) (i' := 0) (j' := 102) hZ37 (fun q => absurd q.2.2.2 (by omega))).trans (zu_ne (k' := 2) (b' := 0) (i' := 0) (j' := 102) hZ34 (fun q => absurd q.2.2.2 (by omega))))
        have r72 := zM_k hZ41I 2 0 0 (211 + 20 * x2) (lo := -1) (hi := 6) (by decide) (zs_200_11 (x := x2) (by omega) (by omega) (by omega))
        have r73 := zM_pl hZ41I x2
        have q74 := (zu_ne (k' := 2) (b' := 0) (i' := 0) (j' := (211 + 20 * x2)) hZ41 (fun q => absurd q.2.2.2 (by omega))).trans ((zu_ne (k' := 2) (b' := 0) (i' := 0) (j' := (211 + 20 * x2)) hZ37 (fun q => absurd q.2.2.2 (by omega))).trans (zu_ne (k' := 2) (b' := 0) (i' := 0) (j' := (211 + 20 * x2)) hZ34 (fun q => absurd q.2.2.2 (by omega))))
        have r75 := zfl_b x6 x4 x5
        have r76 := zfl_b x3 x4 x5
        have r77 := zfl_c (x := x6) (y := x6) x4 x5
        obtain ⟨m2, rfl⟩ : ∃ m2, m = m2 + 1 := ⟨m - 1, by omega⟩
        exact wz_k1 ⟨m2, by omega, xM9 + 2, Z41, x6, 1, (zconso rfl (zconso (zvo (rfl : i3 x1 = i3 x1)) (zconso (zvo (rfl : i3 x2 = i3 x2)) (zconso (zvo (rfl : i3 x3 = i3 x3)) (zconso (zvo (rfl : i3 x4 = i3 x4)) (zconso (zvo (rfl : i3 x5 = i3 x5)) (zconso (zvo (rfl : i3 x6 = i3 x6)) (zconso (zvo (show (1 : Int32) = i3 1 from rfl)) (zconso rfl (zconso rfl (zconso rfl rfl))))))))))), rfl, by omega, (zmt hZ41I rfl), hZ41K, hZ41U, by omega, by omega, by omega, by omega, by omega, by omega, by omega, by omega, by omega, by omega,  hP⟩
    · replace hP := zE_n hP h14
      refine wz_br (i3Le (rfl : i3 x4 = i3 x4) (i3S (rfl : i3 x6 = i3 x6) (rfl : i3 x5 = i3 x5)) (by omega) (by omega) (by omega) (by omega)) (fun h78 => ?_) (fun h78 => ?_)
      · replace hP := zE_p hP h78
        have r79 := zfl_b (x6 - x5) x4 x5
        have r80 := zfl_b x3 x4 x5
        have r81 := zfl_c (x := (x6 - x5)) (y := x6) x4 x5
        obtain ⟨m2, rfl⟩ : ∃ m2, m = m2 + 1 := ⟨m - 1, by omega⟩
        exact wz_k1 ⟨m2, by omega, xM9, Z, (x6 - x5), 0, (zconso rfl (zconso (zvo (rfl : i3 x1 = i3 x1)) (zconso (zvo (rfl : i3 x2 = i3 x2)) (zconso (zvo (rfl : i3 x3 = i3 x3)) (zconso (zvo (rfl : i3 x4 = i3 x4)) (zconso (zvo (rfl : i3 x5 = i3 x5)) (zconso (zvo (i3S (rfl : i3 x6 = i3 x6) (rfl : i3 x5 = i3 x5))) (zconso (zvo (show (0 : Int32) = i3 0 from rfl)) (zconso rfl (zconso rfl (zconso rfl rfl))))))))))), rfl, by omega, hZ, hK, hU, by omega, by omega, by omega, by omega, by omega, by omega, by omega, by omega, by omega, by omega,  hP⟩
      · replace hP := zE_n hP h78
        have r82 := zfl_b (x6 - 0) x4 x5
        have r83 := zfl_b x3 x4 x5
        have r84 := zfl_c (x := (x6 - 0)) (y := x6) x4 x5
        obtain ⟨m2, rfl⟩ : ∃ m2, m = m2 + 1 := ⟨m - 1, by omega⟩
        exact wz_k1 ⟨m2, by omega, xM9, Z, (x6 - 0), 1, (zconso rfl (zconso (zvo (rfl : i3 x1 = i3 x1)) (zconso (zvo (rfl : i3 x2 = i3 x2)) (zconso (zvo (rfl : i3 x3 = i3 x3)) (zconso (zvo (rfl : i3 x4 = i3 x4)) (zconso (zvo (rfl : i3 x5 = i3 x5)) (zconso (zvo (i3S (rfl : i3 x6 = i3 x6) (show (0 : Int32) = i3 0 from rfl))) (zconso (zvo (show (1 : Int32) = i3 1 from rfl)) (zconso rfl (zconso rfl (zconso rfl rfl))))))))))), rfl, by omega, hZ, hK, hU, by omega, by omega, by omega, by omega, by omega, by omega, by omega, by omega, by omega, by omega,  hP⟩
/- yX12_cSell -/
def zf_309 (Z : qz_Z) (a1 : Int) : qz_Z := (zlet3 (zl_309_1 a1 (Z 2 0 0 (3022 + 60 * a1)) (Z 2 0 0 (3023 + 60 * a1)) (Z 2 0 0 (3024 + 60 * a1)) (Z 2 0 0 (3013 + 60 * a1)) 8701 Z (Z 2 0 0 (3023 + 60 * a1)) 0) (fun Z14 y12 y13 => (zlet (zu Z14 2 0 0 (3016 + 60 * a1) y12) (fun Z22 => (zlet (zu Z22 2 0 0 (3017 + 60 * a1) (Z 2 0 0 (3022 + 60 * a1))) (fun Z23 => (zlet (zu Z23 2 0 0 (3018 + 60 * a1) (w3 ((Z23 2 0 0 (3018 + 60 * a1)) + 1))) (fun Z26 => (zlet (zf_312 Z26 a1 0) (fun Z29 => (zlet (zu Z29 2 0 0 (210 + 20 * (Z 2 0 0 (3022 + 60 * a1))) 0) (fun Z41 => Z41))))))))))))
theorem sp_309 {s : zSM} {Z : qz_Z} {ν : qz_N} (hZ : zM s Z) {a1 : Int} (ga1 : 0 ≤ a1 ∧ a1 ≤ 1) (gx0 : 1 ≤ Z 2 0 0 (3015 + 60 * a1)) (gx1 : Z 2 0 0 102 ≤ Z 2 0 0 (3022 + 60 * a1) ∨ 0 ≤ Z 2 0 0 (211 + 20 * Z 2 0 0 (3022 + 60 * a1))) (hM : s.2 + 82 ≤ 1000000000) : ∃ P : qz_Z, P = zf_309 Z a1 ∧ (qf_309 [.inr (.inr (some (1, 0, 0))), .inl (i3 a1)] (zm Z ν) = some (zm P ν, .inl none) ∧ zM (zb s 82) P ∧ zC [2] Z P ∧ zU [] Z P) := by
  obtain ⟨P, hP⟩ := zx (zf_309 Z a1)
  refine zc_V (Q := fun P => zM (zb s 82) P ∧ zC [2] Z P ∧ zU [] Z P) hP (fw_309 (i3 a1) _ _ ?_)
  replace hP : zE P (zf_309 Z a1) := hP
  unfold zf_309 at hP
  have r1 := zM_lo hZ a1 (by omega) (by omega) gx0
  have r2 := zM_k hZ 2 0 0 (3015 + 60 * a1) (lo := 0) (hi := 12) (by decide) (zs_3010_5 (x := (a1 + 0)) (by omega) (by omega) (by omega))
  have r3 := zM_k hZ 2 0 0 (3022 + 60 * a1) (lo := 0) (hi := 47) (by decide) (zs_3010_12 (x := (a1 + 0)) (by omega) (by omega) (by omega))
  have r4 := zM_k hZ 2 0 0 (211 + 20 * (Z 2 0 0 (3022 + 60 * a1))) (lo := -1) (hi := 6) (by decide) (zs_200_11 (x := (Z 2 0 0 (3022 + 60 * a1))) (by omega) (by omega) (by omega))
  have r5 := zM_pl hZ (Z 2 0 0 (3022 + 60 * a1))
  have r6 := zM_k hZ 2 0 0 102 (lo := 0) (hi := 48) (by decide) rfl
  refine wz_i0 (i3O (n := 4400) (i3A (i3A (i3A (i3A (show (3010 : Int32) = i3 3010 from rfl) (i3M (show (60 : Int32) = i3 60 from rfl) (rfl : i3 a1 = i3 a1))) (show (12 : Int32) = i3 12 from rfl)) (show (0 : Int32) = i3 0 from rfl)) (show (0 : Int32) = i3 0 from rfl)) (by omega) (by omega) (by omega)) ?_
  refine wz_i0 (i3O (n := 4400) (i3A (i3A (i3A (i3A (show (3010 : Int32) = i3 3010 from rfl) (i3M (show (60 : Int32) = i3 60 from rfl) (rfl : i3 a1 = i3 a1))) (show (12 : Int32) = i3 12 from rfl)) (show (0 : Int32) = i3 0 from rfl)) (show (1 : Int32) = i3 1 from rfl)) (by omega) (by omega) (by omega)) ?_
  refine wz_i0 (i3O (n := 4400) (i3A (i3A (i3A (i3A (show (3010 : Int32) = i3 3010 from rfl) (i3M (show (60 : Int32) = i3 60 from rfl) (rfl : i3 a1 = i3 a1))) (show (12 : Int32) = i3 12 from rfl)) (show (0 : Int32) = i3 0 from rfl)) (show (2 : Int32) = i3 2 from rfl)) (by omega) (by omega) (by omega)) ?_
  refine wz_i0 (i3O (n := 4400) (i3A (i3A (show (3010 : Int32) = i3 3010 from rfl) (i3M (show (60 : Int32) = i3 60 from rfl) (rfl : i3 a1 = i3 a1))) (show (3 : Int32) = i3 3 from rfl)) (by omega) (by omega) (by omega)) ?_
  have r7 := zM_k hZ 2 0 0 (3023 + 60 * a1) (lo := 0) (hi := 9999) (by decide) (zs_3010_13 (x := (a1 + 0)) (by omega) (by omega) (by omega))
  have r8 := zM_k hZ 2 0 0 (3024 + 60 * a1) (lo := 0) (hi := 9999) (by decide) (zs_3010_14 (x := (a1 + 0)) (by omega) (by omega) (by omega))
  have r9 := zM_k hZ 2 0 0 (3013 + 60 * a1) (lo := 0) (hi := 500) (by decide) (zs_3010_3 (x := (a1 + 0)) (by omega) (by omega) (by omega))
  have r10 := zM_cs hZ a1
  have r11 := zM_k hZ 2 0 0 3000 (lo := 0) (hi := 2) (by decide) rfl
  have r15 := zM_k hZ 2 0 0 (204 + 20 * (Z 2 0 0 (3022 + 60 * a1))) (lo := 0) (hi := 40) (by decide) (zs_200_4 (x := (Z 2 0 0 (3022 + 60 * a1))) (by omega) (by omega) (by omega))
  have r16 := zfl_b (Z 2 0 0 (3023 + 60 * a1)) (Z 2 0 0 (3024 + 60 * a1)) (Z 2 0 0 (3013 + 60 * a1))
  refine sl_309_1 (ν := ν) (zm0 hZ) (zbh (c := 0) (k := 82) hM (Nat.le_of_ble_eq_true rfl)) (xM9 := 0) zC_r (x1 := a1) (by omega) (x2 := (Z 2 0 0 (3022 + 60 * a1))) (by omega) (x3 := (Z 2 0 0 (3023 + 60 * a1))) (by omega) (x4 := (Z 2 0 0 (3024 + 60 * a1))) (by omega) (x5 := (Z 2 0 0 (3013 + 60 * a1))) (by omega) (x6 := (Z 2 0 0 (3023 + 60 * a1))) (by omega) (x7 := 0) (by omega) zU_r (by omega) (by omega) (by omega) (by omega) (by omega) (by omega) (by omega) (by omega) (by omega) (zconso rfl (zconso (zvo (rfl : i3 a1 = i3 a1)) (zconso (zvo (zm_rd (Z := Z) (ν := ν) (k := 2) (show ((0 : Nat) : Int) = 0 from rfl) (show ((0 : Nat) : Int) = 0 from rfl) (i3I (y := (3022 + 60 * a1)) (i3A (i3A (i3A (i3A (show (3010 : Int32) = i3 3010 from rfl) (i3M (show (60 : Int32) = i3 60 from rfl) (rfl : i3 a1 = i3 a1))) (show (12 : Int32) = i3 12 from rfl)) (show (0 : Int32) = i3 0 from rfl)) (show (0 : Int32) = i3 0 from rfl)) (by omega) (by omega) (by omega)))) (zconso (zvo (zm_rd (Z := Z) (ν := ν) (k := 2) (show ((0 : Nat) : Int) = 0 from rfl) (show ((0 : Nat) : Int) = 0 from rfl) (i3I (y := (3023 + 60 * a1)) (i3A (i3A (i3A (i3A (show (3010 : Int32) = i3 3010 from rfl) (i3M (show (60 : Int32) = i3 60 from rfl) (rfl : i3 a1 = i3 a1))) (show (12 : Int32) = i3 12 from rfl)) (show (0 : Int32) = i3 0 from rfl)) (show (1 : Int32) = i3 1 from rfl)) (by omega) (by omega) (by omega)))) (zconso (zvo (zm_rd (Z := Z) (ν := ν) (k := 2) (show ((0 : Nat) : Int) = 0 from rfl) (show ((0 : Nat) : Int) = 0 from rfl) (i3I (y := (3024 + 60 * a1)) (i3A (i3A (i3A (i3A (show (3010 : Int32) = i3 3010 from rfl) (i3M (show (60 : Int32) = i3 60 from rfl) (rfl : i3 a1 = i3 a1))) (show (12 : Int32) = i3 12 from rfl)) (show (0 : Int32) = i3 0 from rfl)) (show (2 : Int32) = i3 2 from rfl)) (by omega) (by omega) (by omega)))) (zconso (zvo (zm_rd (Z := Z) (ν := ν) (k := 2) (show ((0 : Nat) : Int) = 0 from rfl) (show ((0 : Nat) : Int) = 0 from rfl) (i3I (y := (3013 + 60 * a1)) (i3A (i3A (show (3010 : Int32) = i3 3010 from rfl) (i3M (show (60 : Int32) = i3 60 from rfl) (rfl : i3 a1 = i3 a1))) (show (3 : Int32) = i3 3 from rfl)) (by omega) (by omega) (by omega)))) (zconso (zvo (zm_rd (Z := Z) (ν := ν) (k := 2) (show ((0 : Nat) : Int) = 0 from rfl) (show ((0 : Nat) : Int) = 0 from rfl) (i3I (y := (3023 + 60 * a1)) (i3A (i3A (i3A (i3A (show (3010 : Int32) = i3 3010 from rfl) (i3M (show (60 : Int32) = i3 60 from rfl) (rfl : i3 a1 = i3 a1))) (show (12 : Int32) = i3 12 from rfl)) (show (0 : Int32) = i3 0 from rfl)) (show (1 : Int32) = i3 1 from rfl)) (by omega) (by omega) (by omega)))) (zconso (zvo (show (0 : Int32) = i3 0 from rfl)) (zconso rfl (zconso rfl (zconso rfl rfl))))))))))) rfl ?_
  intro L17 Z14 y12 y13 hL17 hZ14I kZ14 jZ14 gy12 gy13 gL17_0 gL17_1 gL17_2 gL17_3 gL17_4 gL17_5 gL17_6 q9
  replace hP := zl_e3 hP (Eq.symm q9)
  clear q9
  have hZ14U : zU [] Z Z14 := zU_t zU_r jZ14 zU_b0
  have hZ14K : zC [2] Z Z14 := zC_t zC_r kZ14 (by decide)
  have r18 := zM_k hZ14I 2 0 0 (3015 + 60 * a1) (lo := 0) (hi := 12) (by decide) (zs_3010_5 (x := (a1 + 0)) (by omega) (by omega) (by omega))
  have r19 := zM_k hZ14I 2 0 0 102 (lo := 0) (hi := 48) (by decide) rfl
  have r20 := zM_k hZ14I 2 0 0 (211 + 20 * (Z 2 0 0 (3022 + 60 * a1))) (lo := -1) (hi := 6) (by decide) (zs_200_11 (x := (Z 2 0 0 (3022 + 60 * a1))) (by omega) (by omega) (by omega))
  have r21 := zM_pl hZ14I (Z 2 0 0 (3022 + 60 * a1))
  refine fc_309_2 (i3 a1) (i3 (Z 2 0 0 (3022 + 60 * a1))) (i3 y12) _ _ _ _ hL17 ?_
  refine wz_i0 (i3O (n := 4400) (i3A (i3A (show (3010 : Int32) = i3 3010 from rfl) (i3M (show (60 : Int32) = i3 60 from rfl) (rfl : i3 a1 = i3 a1))) (show (6 : Int32) = i3 6 from rfl)) (by omega) (by omega) (by omega)) ?_
  obtain ⟨Z22, hZ22⟩ := zx (zu Z14 2 0 0 (3016 + 60 * a1) y12)
  replace hP := zl_e hP hZ22
  have hZ22I := zM_u2 hZ14I hZ22 (lo := -1) (hi := 9999) (zs_3010_6 (x := (a1 + 0)) (by omega) (by omega) (by omega)) (by omega) ⟨by decide, by decide⟩ (by simp only [zsp]; omega)
  have hZ22U : zU [] Z Z22 := zU_u hZ14U hZ22 (Or.inl rfl)
  have hZ22K : zC [2] Z Z22 := zC_u hZ14K hZ22 (zcl_2w (by omega) rfl)
  intro μ9 e9
  replace e9 := e9.trans (zm_wI (Z := Z14) (ν := ν) hZ22 (show ((0 : Nat) : Int) = 0 from rfl) (show ((0 : Nat) : Int) = 0 from rfl) (i3I (y := (3016 + 60 * a1)) (i3A (i3A (show (3010 : Int32) = i3 3010 from rfl) (i3M (show (60 : Int32) = i3 60 from rfl) (rfl : i3 a1 = i3 a1))) (show (6 : Int32) = i3 6 from rfl)) (by omega) (by omega) (by omega)) (rfl : i3 y12 = i3 y12))
  subst e9
  refine wz_i0 (i3O (n := 4400) (i3A (i3A (show (3010 : Int32) = i3 3010 from rfl) (i3M (show (60 : Int32) = i3 60 from rfl) (rfl : i3 a1 = i3 a1))) (show (7 : Int32) = i3 7 from rfl)) (by omega) (by omega) (by omega)) ?_
  obtain ⟨Z23, hZ23⟩ := zx (zu Z22 2 0 0 (3017 + 60 * a1) (Z 2 0 0 (3022 + 60 * a1)))
  replace hP := zl_e hP hZ23
  have hZ23I := zM_u2 hZ22I hZ23 (lo := -1) (hi := 47) (zs_3010_7 (x := (a1 + 0)) (by omega) (by omega) (by omega)) (by omega) ⟨by decide, by decide⟩ (by simp only [zsp]; omega)
  have hZ23U : zU [] Z Z23 := zU_u hZ22U hZ23 (Or.inl rfl)
  have hZ23K : zC [2] Z Z23 := zC_u hZ22K hZ23 (zcl_2w (by omega) rfl)
  intro μ9 e9
  replace e9 := e9.trans (zm_wI (Z := Z22) (ν := ν) hZ23 (show ((0 : Nat) : Int) = 0 from rfl) (show ((0 : Nat) : Int) = 0 from rfl) (i3I (y := (3017 + 60 * a1)) (i3A (i3A (show (3010 : Int32) = i3 3010 from rfl) (i3M (show (60 : Int32) = i3 60 from rfl) (rfl : i3 a1 = i3 a1))) (show (7 : Int32) = i3 7 from rfl)) (by omega) (by omega) (by omega)) (rfl : i3 (Z 2 0 0 (3022 + 60 * a1)) = i3 (Z 2 0 0 (3022 + 60 * a1))))
  subst e9
  refine wz_i0 (i3O (n := 4400) (i3A (i3A (show (3010 : Int32) = i3 3010 from rfl) (i3M (show (60 : Int32) = i3 60 from rfl) (rfl : i3 a1 = i3 a1))) (show (8 : Int32) = i3 8 from rfl)) (by omega) (by omega) (by omega)) ?_
  refine wz_i0 (i3O (n := 4400) (i3A (i3A (show (3010 : Int32) = i3 3010 from rfl) (i3M (show (60 : Int32) = i3 60 from rfl) (rfl : i3 a1 = i3 a1))) (show (8 : Int32) = i3 8 from rfl)) (by omega) (by omega) (by omega)) ?_
  have r24 := zM_f hZ23I 2 0 0 (3018 + 60 * a1)
  have r25 := w3_r ((Z23 2 0 0 (3018 + 60 * a1)) + 1)
  obtain ⟨Z26, hZ26⟩ := zx (zu Z23 2 0 0 (3018 + 60 * a1) (w3 ((Z23 2 0 0 (3018 + 60 * a1)) + 1)))
  replace hP := zl_e hP hZ26
  have hZ26I := zM_u2 hZ23I hZ26 (lo := -2147483648) (hi := 2147483647) (zs_3010_8 (x := (a1 + 0)) (by omega) (by omega) (by omega)) (by omega) ⟨by decide, by decide⟩ (by simp only [zsp]; omega)
  have hZ26U : zU [] Z Z26 := zU_u hZ23U hZ26 (Or.inl rfl)
  have hZ26K : zC [2] Z Z26 := zC_u hZ23K hZ26 (zcl_2w (by omega) rfl)
  intro μ9 e9
  replace e9 := e9.trans (zm_wI (Z := Z23) (ν := ν) hZ26 (show ((0 : Nat) : Int) = 0 from rfl) (show ((0 : Nat) : Int) = 0 from rfl) (i3I (y := (3018 + 60 * a1)) (i3A (i3A (show (3010 : Int32) = i3 3010 from rfl) (i3M (show (60 : Int32) = i3 60 from rfl) (rfl : i3 a1 = i3 a1))) (show (8 : Int32) = i3 8 from rfl)) (by omega) (by omega) (by omega)) (i3W (i3A (zm_rd (Z := Z23) (ν := ν) (k := 2) (show ((0 : Nat) : Int) = 0 from rfl) (show ((0 : Nat) : Int) = 0 from rfl) (i3I (y := (3018 + 60 * a1)) (i3A (i3A (show (3010 : Int32) = i3 3010 from rfl) (i3M (show (60 : Int32) = i3 60 from rfl) (rfl : i3 a1 = i3 a1))) (show (8 : Int32) = i3 8 from rfl)) (by omega) (by omega) (by omega))) (show (1 : Int32) = i3 1 from rfl))))
  subst e9
  have r27 := zM_k hZ26I 2 0 0 (3015 + 60 * a1) (lo := 0) (hi := 12) (by decide) (zs_3010_5 (x := (a1 + 0)) (by omega) (by omega) (by omega))
  have q28 := (zu_ne (k' := 2) (b' := 0) (i' := 0) (j' := (3015 + 60 * a1)) hZ26 (fun q => absurd q.2.2.2 (by omega))).trans ((zu_ne (k' := 2) (b' := 0) (i' := 0) (j' := (3015 + 60 * a1)) hZ23 (fun q => absurd q.2.2.2 (by omega))).trans (zu_ne (k' := 2) (b' := 0) (i' := 0) (j' := (3015 + 60 * a1)) hZ22 (fun q => absurd q.2.2.2 (by omega))))
  obtain ⟨Z29, hZ29, c9, hZ29I, kZ29, jZ29⟩ := sp_312 (ν := ν) hZ26I (a1 := a1) (by omega) (a2 := 0) (by omega) (by omega) (zbh (c := 82) (k := 0) hM (Nat.le_of_ble_eq_true rfl))
  have hZ29U : zU [] Z Z29 := zU_t hZ26U jZ29 zU_b0
  have hZ29K : zC [2] Z Z29 := zC_t hZ26K kZ29 (by decide)
  replace hP := zl_e hP hZ29
  refine wz_cV_of (zas (zcons rfl (zcons (zvi (rfl : i3 a1 = i3 a1)) (zcons (zvi (show (0 : Int32) = i3 0 from rfl)) rfl))) c9) ?_
  clear c9
  have r30 := zM_k hZ26I 2 0 0 102 (lo := 0) (hi := 48) (by decide) rfl
  have q31 := (zu_ne (k' := 2) (b' := 0) (i' := 0) (j' := 102) hZ26 (fun q => absurd q.2.2.2 (by omega))).trans ((zu_ne (k' := 2) (b' := 0) (i' := 0) (j' := 102) hZ23 (fun q => absurd q.2.2.2 (by omega))).trans (zu_ne (k' := 2) (b' := 0) (i' := 0) (j' := 102) hZ22 (fun q => absurd q.2.2.2 (by omega))))
  have q32 : Z29 2 0 0 102 = Z26 2 0 0 102 := zn_312 hZ29 (by omega) (by omega) ⟨by omega, by omega⟩ (by omega)
  have r33 := zM_k hZ26I 2 0 0 (204 + 20 * (Z 2 0 0 (3022 + 60 * a1))) (lo := 0) (hi := 40) (by decide) (zs_200_4 (x := (Z 2 0 0 (3022 + 60 * a1))) (by omega) (by omega) (by omega))
  have q34 : Z29 2 0 0 (204 + 20 * (Z 2 0 0 (3022 + 60 * a1))) = Z26 2 0 0 (204 + 20 * (Z 2 0 0 (3022 + 60 * a1))) := zn_312 hZ29 (by omega) (by omega) ⟨by omega, by omega⟩ (by omega)
  have r35 := zM_k hZ26I 2 0 0 (211 + 20 * (Z 2 0 0 (3022 + 60 * a1))) (lo := -1) (hi := 6) (by decide) (zs_200_11 (x := (Z 2 0 0 (3022 + 60 * a1))) (by omega) (by omega) (by omega))
  have r36 := zM_pl hZ26I (Z 2 0 0 (3022 + 60 * a1))
  have q37 := (zu_ne (k' := 2) (b' := 0) (i' := 0) (j' := (211 + 20 * (Z 2 0 0 (3022 + 60 * a1)))) hZ26 (fun q => absurd q.2.2.2 (by omega))).trans ((zu_ne (k' := 2) (b' := 0) (i' := 0) (j' := (211 + 20 * (Z 2 0 0 (3022 + 60 * a1)))) hZ23 (fun q => absurd q.2.2.2 (by omega))).trans (zu_ne (k' := 2) (b' := 0) (i' := 0) (j' := (211 + 20 * (Z 2 0 0 (3022 + 60 * a1)))) hZ22 (fun q => absurd q.2.2.2 (by omega))))
  have q38 : Z29 2 0 0 (211 + 20 * (Z 2 0 0 (3022 + 60 * a1))) = Z26 2 0 0 (211 + 20 * (Z 2 0 0 (3022 + 60 * a1))) := zn_312 hZ29 (by omega) (by omega) ⟨by omega, by omega⟩ (by omega)
  have r39 := zM_k hZ26I 2 0 0 3000 (lo := 0) (hi := 2) (by decide) rfl
  have q40 : Z29 2 0 0 3000 = Z26 2 0 0 3000 := zn_312 hZ29 (by omega) (by omega) ⟨by omega, by omega⟩ (by omega)
  refine wz_i0 (i3O (n := 4400) (i3A (i3A (show (200 : Int32) = i3 200 from rfl) (i3M (show (20 : Int32) = i3 20 from rfl) (rfl : i3 (Z 2 0 0 (3022 + 60 * a1)) = i3 (Z 2 0 0 (3022 + 60 * a1))))) (show (10 : Int32) = i3 10 from rfl)) (by omega) (by omega) (by omega)) ?_
  obtain ⟨Z41, hZ41⟩ := zx (zu Z29 2 0 0 (210 + 20 * (Z 2 0 0 (3022 + 60 * a1))) 0)
  replace hP := zl_e hP hZ41
  have r42 := zM_k hZ29I 2 0 0 (210 + 20 * (Z 2 0 0 (3022 + 60 * a1))) (lo := 0) (hi := 4) (by decide) (zs_200_10 (x := (Z 2 0 0 (3022 + 60 * a1))) (by omega) (by omega) (by omega))
  have r43 := zM_pl hZ29I (Z 2 0 0 (3022 + 60 * a1))
  have r44 := zM_k hZ29I 2 0 0 102 (lo := 0) (hi := 48) (by decide) rfl
  have r45 := zM_k hZ29I 2 0 0 (211 + 20 * (Z 2 0 0 (3022 + 60 * a1))) (lo := -1) (hi := 6) (by decide) (zs_200_11 (x := (Z 2 0 0 (3022 + 60 * a1))) (by omega) (by omega) (by omega))
  have hZ41I := zM_ps2 hZ29I hZ41 (q := (Z 2 0 0 (3022 + 60 * a1))) (by omega) (by omega) (by omega) (by omega)
  have hZ41U : zU [] Z Z41 := zU_u hZ29U hZ41 (Or.inl rfl)
  have hZ41K : zC [2] Z Z41 := zC_u hZ29K hZ41 (zcl_2w (by omega) rfl)
  intro μ9 e9
  replace e9 := e9.trans (zm_wI (Z := Z29) (ν := ν) hZ41 (show ((0 : Nat) : Int) = 0 from rfl) (show ((0 : Nat) : Int) = 0 from rfl) (i3I (y := (210 + 20 * (Z 2 0 0 (3022 + 60 * a1)))) (i3A (i3A (show (200 : Int32) = i3 200 from rfl) (i3M (show (20 : Int32) = i3 20 from rfl) (rfl : i3 (Z 2 0 0 (3022 + 60 * a1)) = i3 (Z 2 0 0 (3022 + 60 * a1))))) (show (10 : Int32) = i3 10 from rfl)) (by omega) (by omega) (by omega)) (show (0 : Int32) = i3 0 from rfl))
  subst e9
  exact zlV hP ⟨hZ41I, hZ41K, hZ41U⟩
/- yX12_cFindStart -/
def zl_299_1 (x1 : Int) (x2 : Int) (x3 : Int) : Nat → qz_Z → Int → qz_Z × Int
  | 0, Z, x4 => (Z, x4)
  | m + 1, Z, x4 => (if 200 < x4 then (Z, x4) else (if 9999 < (x3 + (x4 * (Z 2 0 0 (3013 + 60 * x1)))) then (Z, x4) else (zlet (zf_351 Z 0) (fun Z7 => (zlet (zu Z7 2 0 0 (3022 + 60 * x1) x2) (fun Z8 => (zlet (zu Z8 2 0 0 (3023 + 60 * x1) (x3 + (x4 * (Z 2 0 0 (3013 + 60 * x1))))) (fun Z9 => (zlet (zu Z9 2 0 0 (3024 + 60 * x1) x3) (fun Z11 => (zlet (zu Z11 2 0 0 (3015 + 60 * x1) 1) (fun Z14 => (zlet (zf_309 Z14 x1) (fun Z33 => (zlet (zf_493 Z33 0) (fun Z34 => (if (w3 ((Z33 2 0 0 (3021 + 60 * x1)) - (Z7 2 0 0 (3021 + 60 * x1)))) ≤ (Z34 1 0 0 20) then (zlet (zu Z34 1 0 0 21 (Z34 1 0 0 21)) (fun Z41 => (if (w3 ((Z33 2 0 0 (3021 + 60 * x1)) - (Z7 2 0 0 (3021 + 60 * x1)))) ≤ (Z41 1 0 0 20) then (zlet (zu Z41 1 0 0 20 (Z41 1 0 0 20)) (fun Z45 => zl_299_1 x1 x2 x3 m Z45 (x4 + 1))) else (zlet (zu Z41 1 0 0 20 (w3 ((Z33 2 0 0 (3021 + 60 * x1)) - (Z7 2 0 0 (3021 + 60 * x1))))) (fun Z46 => zl_299_1 x1 x2 x3 m Z46 (x4 + 1)))))) else (zlet (zu Z34 1 0 0 21 (x3 + (x4 * (Z 2 0 0 (3013 + 60 * x1))))) (fun Z47 => (if (w3 ((Z33 2 0 0 (3021 + 60 * x1)) - (Z7 2 0 0 (3021 + 60 * x1)))) ≤ (Z47 1 0 0 20) then (zlet (zu Z47 1 0 0 20 (Z47 1 0 0 20)) (fun Z51 => zl_299_1 x1 x2 x3 m Z51 (x4 + 1))) else (zlet (zu Z47 1 0 0 20 (w3 ((Z33 2 0 0 (3021 + 60 * x1)) - (Z7 2 0 0 (3021 + 60 * x1))))) (fun Z52 => zl_299_1 x1 x2 x3 m Z52 (x4 + 1)))))))))))))))))))))))
/- yX12_cFindStart -/
def zf_299 (Z : qz_Z) (a1 : Int) (a2 : Int) (a3 : Int) : qz_Z := (zlet (zu Z 1 0 0 20 (-1)) (fun Z1 => (zlet2 (zl_299_1 a1 a2 a3 202 Z1 0) (fun Z3 y2 => Z3))))
/- yX12_bestStart -/
def zy_293 (Z : qz_Z) (a1 : Int) (a2 : Int) (a3 : Int) (a4 : Int) : qz_Z × Int := (if a1 < 0 then (zlet (zu Z 1 0 0 2 1) (fun Z5 => (Z5, 0))) else (if ((Z 2 0 0 3000) - 1) < a1 then (zlet (zu Z 1 0 0 2 1) (fun Z8 => (Z8, 0))) else (if a2 < 0 then (zlet (zu Z 1 0 0 2 1) (fun Z10 => (Z10, 0))) else (if ((Z 2 0 0 102) - 1) < a2 then (zlet (zu Z 1 0 0 2 1) (fun Z13 => (Z13, 0))) else (zlet (zu Z 1 0 0 2 0) (fun Z14 => (if a3 < 1 then (zlet (zu Z14 1 0 0 2 2) (fun Z16 => (Z16, 0))) else (if 9999 < a3 then (zlet (zu Z14 1 0 0 2 2) (fun Z18 => (Z18, 0))) else (if a4 < 0 then (zlet (zu Z14 1 0 0 2 2) (fun Z20 => (Z20, 0))) else (if 1 < a4 then (zlet (zu Z14 1 0 0 2 2) (fun Z22 => (Z22, 0))) else (zlet (zu Z14 1 0 0 2 0) (fun Z23 => (if (Z23 2 0 0 (204 + 20 * a2)) ≤ 0 then (zlet (zu Z23 1 0 0 2 3) (fun Z26 => (Z26, 0))) else (zlet (zu Z23 1 0 0 2 0) (fun Z27 => (zlet (zf_299 Z27 a1 a2 a3) (fun Z28 => (if a4 ≠ 0 then (Z28, (Z28 1 0 0 20)) else (Z28, (Z28 1 0 0 21))))))))))))))))))))
/- yX12_kStage -/
def zf_421 (Z : qz_Z) (a1 : Int) : Int := (if ((Z 2 0 0 (113 + 5 * (Z 2 0 0 (201 + 20 * (Z 2 0 0 (2010 + 16 * a1)))))) - (Z 2 0 0 (114 + 5 * (Z 2 0 0 (201 + 20 * (Z 2 0 0 (2010 + 16 * a1))))))) ≤ (Z 2 0 0 (2021 + 16 * a1)) then (if ((Z 2 0 0 (113 + 5 * (Z 2 0 0 (201 + 20 * (Z 2 0 0 (2010 + 16 * a1)))))) + (Z 2 0 0 (114 + 5 * (Z 2 0 0 (201 + 20 * (Z 2 0 0 (2010 + 16 * a1))))))) < (Z 2 0 0 (2021 + 16 * a1)) then (if ((Z 2 0 0 (113 + 5 * (Z 2 0 0 (201 + 20 * (Z 2 0 0 (2010 + 16 * a1)))))) + (3 * (Z 2 0 0 (114 + 5 * (Z 2 0 0 (201 + 20 * (Z 2 0 0 (2010 + 16 * a1)))))))) < (Z 2 0 0 (2021 + 16 * a1)) then 3 else 2) else 1) else 0)
theorem sp_421 {s : zSM} {Z : qz_Z} {ν : qz_N} (hZ : zM s Z) {a1 : Int} (ga1 : 0 ≤ a1 ∧ a1 ≤ 59) (hM : s.2 + 0 ≤ 1000000000) : ∃ P : Int, P = zf_421 Z a1 ∧ (qf_421 [.inr (.inr (some (1, 0, 0))), .inl (i3 a1)] (zm Z ν) = some (zm Z ν, .inl (some (.inl (i3 P)))) ∧ 0 ≤ P ∧ P ≤ 3) := by
  obtain ⟨P, hP⟩ := zx (zf_421 Z a1)
  refine zc_R (Q := fun P => 0 ≤ P ∧ P ≤ 3) hP (fw_421 (i3 a1) _ _ ?_)
  replace hP : zE P (zf_421 Z a1) := hP
  unfold zf_421 at hP
  refine wz_i0 (i3O (n := 4400) (i3A (i3A (show (2010 : Int32) = i3 2010 from rfl) (i3M (show (16 : Int32) = i3 16 from rfl) (rfl : i3 a1 = i3 a1))) (show (0 : Int32) = i3 0 from rfl)) (by omega) (by omega) (by omega)) ?_
  have r1 := zM_k hZ 2 0 0 (2010 + 16 * a1) (lo := 0) (hi := 47) (by decide) (zs_2010_0 (x := a1) (by omega) (by omega) (by omega))
  refine wz_i0 (i3O (n := 4400) (i3A (i3A (show (200 : Int32) = i3 200 from rfl) (i3M (show (20 : Int32) = i3 20 from rfl) (zm_rd (Z := Z) (ν := ν) (k := 2) (show ((0 : Nat) : Int) = 0 from rfl) (show ((0 : Nat) : Int) = 0 from rfl) (i3I (y := (2010 + 16 * a1)) (i3A (i3A (show (2010 : Int32) = i3 2010 from rfl) (i3M (show (16 : Int32) = i3 16 from rfl) (rfl : i3 a1 = i3 a1))) (show (0 : Int32) = i3 0 from rfl)) (by omega) (by omega) (by omega))))) (show (1 : Int32) = i3 1 from rfl)) (by omega) (by omega) (by omega)) ?_
  refine wz_i0 (i3O (n := 4400) (i3A (i3A (show (2010 : Int32) = i3 2010 from rfl) (i3M (show (16 : Int32) = i3 16 from rfl) (rfl : i3 a1 = i3 a1))) (show (11 : Int32) = i3 11 from rfl)) (by omega) (by omega) (by omega)) ?_
  have r2 := zM_k hZ 2 0 0 (201 + 20 * (Z 2 0 0 (2010 + 16 * a1))) (lo := 0) (hi := 4) (by decide) (zs_200_1 (x := (Z 2 0 0 (2010 + 16 * a1))) (by omega) (by omega) (by omega))
  refine wz_i0 (i3O (n := 4400) (i3A (i3A (show (110 : Int32) = i3 110 from rfl) (i3M (show (5 : Int32) = i3 5 from rfl) (zm_rd (Z := Z) (ν := ν) (k := 2) (show ((0 : Nat) : Int) = 0 from rfl) (show ((0 : Nat) : Int) = 0 from rfl) (i3I (y := (201 + 20 * (Z 2 0 0 (2010 + 16 * a1)))) (i3A (i3A (show (200 : Int32) = i3 200 from rfl) (i3M (show (20 : Int32) = i3 20 from rfl) (zm_rd (Z := Z) (ν := ν) (k := 2) (show ((0 : Nat) : Int) = 0 from rfl) (show ((0 : Nat) : Int) = 0 from rfl) (i3I (y := (2010 + 16 * a1)) (i3A (i3A (show (2010 : Int32) = i3 2010 from rfl) (i3M (show (16 : Int32) = i3 16 from rfl) (rfl : i3 a1 = i3 a1))) (show (0 : Int32) = i3 0 from rfl)) (by omega) (by omega) (by omega))))) (show (1 : Int32) = i3 1 from rfl)) (by omega) (by omega) (by omega))))) (show (3 : Int32) = i3 3 from rfl)) (by omega) (by omega) (by omega)) ?_
  refine wz_i0 (i3O (n := 4400) (i3A (i3A (show (110 : Int32) = i3 110 from rfl) (i3M (show (5 : Int32) = i3 5 from rfl) (zm_rd (Z := Z) (ν := ν) (k := 2) (show ((0 : Nat) : Int) = 0 from rfl) (show ((0 : Nat) : Int) = 0 from rfl) (i3I (y := (201 + 20 * (Z 2 0 0 (2010 + 16 * a1)))) (i3A (i3A (show (200 : Int32) = i3 200 from rfl) (i3M (show (20 : Int32) = i3 20 from rfl) (zm_rd (Z := Z) (ν := ν) (k := 2) (show ((0 : Nat) : Int) = 0 from rfl) (show ((0 : Nat) : Int) = 0 from rfl) (i3I (y := (2010 + 16 * a1)) (i3A (i3A (show (2010 : Int32) = i3 2010 from rfl) (i3M (show (16 : Int32) = i3 16 from rfl) (rfl : i3 a1 = i3 a1))) (show (0 : Int32) = i3 0 from rfl)) (by omega) (by omega) (by omega))))) (show (1 : Int32) = i3 1 from rfl)) (by omega) (by omega) (by omega))))) (show (4 : Int32) = i3 4 from rfl)) (by omega) (by omega) (by omega)) ?_
  have r3 := zM_k hZ 2 0 0 (113 + 5 * (Z 2 0 0 (201 + 20 * (Z 2 0 0 (2010 + 16 * a1))))) (lo := 0) (hi := 600) (by decide) (zs_110_3 (x := (Z 2 0 0 (201 + 20 * (Z 2 0 0 (2010 + 16 * a1))))) (by omega) (by omega) (by omega))
  have r4 := zM_k hZ 2 0 0 (114 + 5 * (Z 2 0 0 (201 + 20 * (Z 2 0 0 (2010 + 16 * a1))))) (lo := 0) (hi := 99) (by decide) (zs_110_4 (x := (Z 2 0 0 (201 + 20 * (Z 2 0 0 (2010 + 16 * a1))))) (by omega) (by omega) (by omega))
  have r5 := zM_k hZ 2 0 0 (2021 + 16 * a1) (lo := 0) (hi := 2000) (by decide) (zs_2010_11 (x := a1) (by omega) (by omega) (by omega))
  refine wz_br (i3Le (i3S (zm_rd (Z := Z) (ν := ν) (k := 2) (show ((0 : Nat) : Int) = 0 from rfl) (show ((0 : Nat) : Int) = 0 from rfl) (i3I (y := (113 + 5 * (Z 2 0 0 (201 + 20 * (Z 2 0 0 (2010 + 16 * a1)))))) (i3A (i3A (show (110 : Int32) = i3 110 from rfl) (i3M (show (5 : Int32) = i3 5 from rfl) (zm_rd (Z := Z) (ν := ν) (k := 2) (show ((0 : Nat) : Int) = 0 from rfl) (show ((0 : Nat) : Int) = 0 from rfl) (i3I (y := (201 + 20 * (Z 2 0 0 (2010 + 16 * a1)))) (i3A (i3A (show (200 : Int32) = i3 200 from rfl) (i3M (show (20 : Int32) = i3 20 from rfl) (zm_rd (Z := Z) (ν := ν) (k := 2) (show ((0 : Nat) : Int) = 0 from rfl) (show ((0 : Nat) : Int) = 0 from rfl) (i3I (y := (2010 + 16 * a1)) (i3A (i3A (show (2010 : Int32) = i3 2010 from rfl) (i3M (show (16 : Int32) = i3 16 from rfl) (rfl : i3 a1 = i3 a1))) (show (0 : Int32) = i3 0 from rfl)) (by omega) (by omega) (by omega))))) (show (1 : Int32) = i3 1 from rfl)) (by omega) (by omega) (by omega))))) (show (3 : Int32) = i3 3 from rfl)) (by omega) (by omega) (by omega))) (zm_rd (Z := Z) (ν := ν) (k := 2) (show ((0 : Nat) : Int) = 0 from rfl) (show ((0 : Nat) : Int) = 0 from rfl) (i3I (y := (114 + 5 * (Z 2 0 0 (201 + 20 * (Z 2 0 0 (2010 + 16 * a1)))))) (i3A (i3A (show (110 : Int32) = i3 110 from rfl) (i3M (show (5 : Int32) = i3 5 from rfl) (zm_rd (Z := Z) (ν := ν) (k := 2) (show ((0 : Nat) : Int) = 0 from rfl) (show ((0 : Nat) : Int) = 0 from rfl) (i3I (y := (201 + 20 * (Z 2 0 0 (2010 + 16 * a1)))) (i3A (i3A (show (200 : Int32) = i3 200 from rfl) (i3M (show (20 : Int32) = i3 20 from rfl) (zm_rd (Z := Z) (ν := ν) (k := 2) (show ((0 : Nat) : Int) = 0 from rfl) (show ((0 : Nat) : Int) = 0 from rfl) (i3I (y := (2010 + 16 * a1)) (i3A (i3A (show (2010 : Int32) = i3 2010 from rfl) (i3M (show (16 : Int32) = i3 16 from rfl) (rfl : i3 a1 = i3 a1))) (show (0 : Int32) = i3 0 from rfl)) (by omega) (by omega) (by omega))))) (show (1 : Int32) = i3 1 from rfl)) (by omega) (by omega) (by omega))))) (show (4 : Int32) = i3 4 from rfl)) (by omega) (by omega) (by omega)))) (zm_rd (Z := Z) (ν := ν) (k := 2) (show ((0 : Nat) : Int) = 0 from rfl) (show ((0 : Nat) : Int) = 0 from rfl) (i3I (y := (2021 + 16 * a1)) (i3A (i3A (show (2010 : Int32) = i3 2010 from rfl) (i3M (show (16 : Int32) = i3 16 from rfl) (rfl : i3 a1 = i3 a1))) (show (11 : Int32) = i3 11 from rfl)) (by omega) (by omega) (by omega))) (by omega) (by omega) (by omega) (by omega)) (fun h6 => ?_) (fun h6 => ?_)
  · replace hP := zE_p hP h6
    refine wz_br (i3L (i3A (zm_rd (Z := Z) (ν := ν) (k := 2) (show ((0 : Nat) : Int) = 0 from rfl) (show ((0 : Nat) : Int) = 0 from rfl) (i3I (y := (113 + 5 * (Z 2 0 0 (201 + 20 * (Z 2 0 0 (2010 + 16 * a1)))))) (i3A (i3A (show (110 : Int32) = i3 110 from rfl) (i3M (show (5 : Int32) = i3 5 from rfl) (zm_rd (Z := Z) (ν := ν) (k := 2) (show ((0 : Nat) : Int) = 0 from rfl) (show ((0 : Nat) : Int) = 0 from rfl) (i3I (y := (201 + 20 * (Z 2 0 0 (2010 + 16 * a1)))) (i3A (i3A (show (200 : Int32) = i3 200 from rfl) (i3M (show (20 : Int32) = i3 20 from rfl) (zm_rd (Z := Z) (ν := ν) (k := 2) (show ((0 : Nat) : Int) = 0 from rfl) (show ((0 : Nat) : Int) = 0 from rfl) (i3I (y := (2010 + 16 * a1)) (i3A (i3A (show (2010 : Int32) = i3 2010 from rfl) (i3M (show (16 : Int32) = i3 16 from rfl) (rfl : i3 a1 = i3 a1))) (show (0 : Int32) = i3 0 from rfl)) (by omega) (by omega) (by omega))))) (show (1 : Int32) = i3 1 from rfl)) (by omega) (by omega) (by omega))))) (show (3 : Int32) = i3 3 from rfl)) (by omega) (by omega) (by omega))) (zm_rd (Z := Z) (ν := ν) (k := 2) (show ((0 : Nat) : Int) = 0 from rfl) (show ((0 : Nat) : Int) = 0 from rfl) (i3I (y := (114 + 5 * (Z 2 0 0 (201 + 20 * (Z 2 0 0 (2010 + 16 * a1)))))) (i3A (i3A (show (110 : Int32) = i3 110 from rfl) (i3M (show (5 : Int32) = i3 5 from rfl) (zm_rd (Z := Z) (ν := ν) (k := 2) (show ((0 : Nat) : Int) = 0 from rfl) (show ((0 : Nat) : Int) = 0 from rfl) (i3I (y := (201 + 20 * (Z 2 0 0 (2010 + 16 * a1)))) (i3A (i3A (show (200 : Int32) = i3 200 from rfl) (i3M (show (20 : Int32) = i3 20 from rfl) (zm_rd (Z := Z) (ν := ν) (k := 2) (show ((0 : Nat) : Int) = 0 from rfl) (show ((0 : Nat) : Int) = 0 from rfl) (i3I (y := (2010 + 16 * a1)) (i3A (i3A (show (2010 : Int32) = i3 2010 from rfl) (i3M (show (16 : Int32) = i3 16 from rfl) (rfl : i3 a1 = i3 a1))) (show (0 : Int32) = i3 0 from rfl)) (by omega) (by omega) (by omega))))) (show (1 : Int32) = i3 1 from rfl)) (by omega) (by omega) (by omega))))) (show (4 : Int32) = i3 4 from rfl)) (by omega) (by omega) (by omega)))) (zm_rd (Z := Z) (ν := ν) (k := 2) (show ((0 : Nat) : Int) = 0 from rfl) (show ((0 : Nat) : Int) = 0 from rfl) (i3I (y := (2021 + 16 * a1)) (i3A (i3A (show (2010 : Int32) = i3 2010 from rfl) (i3M (show (16 : Int32) = i3 16 from rfl) (rfl : i3 a1 = i3 a1))) (show (11 : Int32) = i3 11 from rfl)) (by omega) (by omega) (by omega))) (by omega) (by omega) (by omega) (by omega)) (fun h7 => ?_) (fun h7 => ?_)
    · replace hP := zE_p hP h7
      refine wz_br (i3L (i3A (zm_rd (Z := Z) (ν := ν) (k := 2) (show ((0 : Nat) : Int) = 0 from rfl) (show ((0 : Nat) : Int) = 0 from rfl) (i3I (y := (113 + 5 * (Z 2 0 0 (201 + 20 * (Z 2 0 0 (2010 + 16 * a1)))))) (i3A (i3A (show (110 : Int32) = i3 110 from rfl) (i3M (show (5 : Int32) = i3 5 from rfl) (zm_rd (Z := Z) (ν := ν) (k := 2) (show ((0 : Nat) : Int) = 0 from rfl) (show ((0 : Nat) : Int) = 0 from rfl) (i3I (y := (201 + 20 * (Z 2 0 0 (2010 + 16 * a1)))) (i3A (i3A (show (200 : Int32) = i3 200 from rfl) (i3M (show (20 : Int32) = i3 20 from rfl) (zm_rd (Z := Z) (ν := ν) (k := 2) (show ((0 : Nat) : Int) = 0 from rfl) (show ((0 : Nat) : Int) = 0 from rfl) (i3I (y := (2010 + 16 * a1)) (i3A (i3A (show (2010 : Int32) = i3 2010 from rfl) (i3M (show (16 : Int32) = i3 16 from rfl) (rfl : i3 a1 = i3 a1))) (show (0 : Int32) = i3 0 from rfl)) (by omega) (by omega) (by omega))))) (show (1 : Int32) = i3 1 from rfl)) (by omega) (by omega) (by omega))))) (show (3 : Int32) = i3 3 from rfl)) (by omega) (by omega) (by omega))) (i3M (show (3 : Int32) = i3 3 from rfl) (zm_rd (Z := Z) (ν := ν) (k := 2) (show ((0 : Nat) : Int) = 0 from rfl) (show ((0 : Nat) : Int) = 0 from rfl) (i3I (y := (114 + 5 * (Z 2 0 0 (201 + 20 * (Z 2 0 0 (2010 + 16 * a1)))))) (i3A (i3A (show (110 : Int32) = i3 110 from rfl) (i3M (show (5 : Int32) = i3 5 from rfl) (zm_rd (Z := Z) (ν := ν) (k := 2) (show ((0 : Nat) : Int) = 0 from rfl) (show ((0 : Nat) : Int) = 0 from rfl) (i3I (y := (201 + 20 * (Z 2 0 0 (2010 + 16 * a1)))) (i3A (i3A (show (200 : Int32) = i3 200 from rfl) (i3M (show (20 : Int32) = i3 20 from rfl) (zm_rd (Z := Z) (ν := ν) (k := 2) (show ((0 : Nat) : Int) = 0 from rfl) (show ((0 : Nat) : Int) = 0 from rfl) (i3I (y := (2010 + 16 * a1)) (i3A (i3A (show (2010 : Int32) = i3 2010 from rfl) (i3M (show (16 : Int32) = i3 16 from rfl) (rfl : i3 a1 = i3 a1))) (show (0 : Int32) = i3 0 from rfl)) (by omega) (by omega) (by omega))))) (show (1 : Int32) = i3 1 from rfl)) (by omega) (by omega) (by omega))))) (show (4 : Int32) = i3 4 from rfl)) (by omega) (by omega) (by omega))))) (zm_rd (Z := Z) (ν := ν) (k := 2) (show ((0 : Nat) : Int) = 0 from rfl) (show ((0 : Nat) : Int) = 0 from rfl) (i3I (y := (2021 + 16 * a1)) (i3A (i3A (show (2010 : Int32) = i3 2010 from rfl) (i3M (show (16 : Int32) = i3 16 from rfl) (rfl : i3 a1 = i3 a1))) (show (11 : Int32) = i3 11 from rfl)) (by omega) (by omega) (by omega))) (by omega) (by omega) (by omega) (by omega)) (fun h8 => ?_) (fun h8 => ?_)
      · replace hP := zE_p hP h8
        exact zlR hP (show (3 : Int32) = i3 3 from rfl) ⟨by omega, by omega⟩
      · replace hP := zE_n hP h8
        exact zlR hP (show (2 : Int32) = i3 2 from rfl) ⟨by omega, by omega⟩
    · replace hP := zE_n hP h7
      exact zlR hP (show (1 : Int32) = i3 1 from rfl) ⟨by omega, by omega⟩
  · replace hP := zE_n hP h6
    exact zlR hP (show (0 : Int32) = i3 0 from rfl) ⟨by omega, by omega⟩
/- yX12_kAward -/
def zf_398 (Z : qz_Z) (a1 : Int) (a2 : Int) : Int := (if a2 ≠ 0 then (if a2 ≠ 1 then (if a2 ≠ 2 then (if ((Z 2 0 0 (40 + a1)) - (Z 2 0 0 (2016 + 16 * a1))) ≤ 48 then 0 else (((Z 2 0 0 (2013 + 16 * a1)) * (Z 2 0 0 (2015 + 16 * a1))) / 4)) else (if 6 ≤ (Z 2 0 0 (2022 + 16 * a1)) then (if (Z 2 0 0 (2022 + 16 * a1)) ≤ 24 then ((((Z 2 0 0 (2013 + 16 * a1)) * (Z 2 0 0 (2015 + 16 * a1))) * (Z 2 0 0 (2022 + 16 * a1))) / 24) else ((((Z 2 0 0 (2013 + 16 * a1)) * (Z 2 0 0 (2015 + 16 * a1))) * 24) / 24)) else 0)) else (if (Z 2 0 0 (2017 + 16 * a1)) ≠ 0 then (if (Z 2 0 0 (2017 + 16 * a1)) ≠ 1 then (if (Z 2 0 0 (2017 + 16 * a1)) ≠ 2 then (if (100 * (Z 2 0 0 (2014 + 16 * a1))) ≤ (60 * (Z 2 0 0 (2013 + 16 * a1))) then 0 else ((((Z 2 0 0 (2013 + 16 * a1)) * (Z 2 0 0 (2015 + 16 * a1))) * (Z 2 0 0 (2014 + 16 * a1))) / (Z 2 0 0 (2013 + 16 * a1)))) else (if (100 * (Z 2 0 0 (2014 + 16 * a1))) ≤ (30 * (Z 2 0 0 (2013 + 16 * a1))) then 0 else ((((Z 2 0 0 (2013 + 16 * a1)) * (Z 2 0 0 (2015 + 16 * a1))) * (Z 2 0 0 (2014 + 16 * a1))) / (Z 2 0 0 (2013 + 16 * a1))))) else (if (100 * (Z 2 0 0 (2014 + 16 * a1))) ≤ (15 * (Z 2 0 0 (2013 + 16 * a1))) then 0 else ((((Z 2 0 0 (2013 + 16 * a1)) * (Z 2 0 0 (2015 + 16 * a1))) * (Z 2 0 0 (2014 + 16 * a1))) / (Z 2 0 0 (2013 + 16 * a1))))) else (if (100 * (Z 2 0 0 (2014 + 16 * a1))) ≤ (5 * (Z 2 0 0 (2013 + 16 * a1))) then 0 else ((((Z 2 0 0 (2013 + 16 * a1)) * (Z 2 0 0 (2015 + 16 * a1))) * (Z 2 0 0 (2014 + 16 * a1))) / (Z 2 0 0 (2013 + 16 * a1)))))) else (zlet (zf_421 Z a1) (fun v48 => (if v48 ≠ 3 then (if v48 ≠ 1 then (((Z 2 0 0 (2013 + 16 * a1)) * (Z 2 0 0 (2015 + 16 * a1))) / 3) else 0) else ((Z 2 0 0 (2013 + 16 * a1)) * (Z 2 0 0 (2015 + 16 * a1)))))))
theorem sp_398 {s : zSM} {Z : qz_Z} {ν : qz_N} (hZ : zM s Z) {a1 : Int} (ga1 : 0 ≤ a1 ∧ a1 ≤ 59) {a2 : Int} (ga2 : 0 ≤ a2 ∧ a2 ≤ 3) (gx0 : 1 ≤ Z 2 0 0 (2013 + 16 * a1)) (hM : s.2 + 0 ≤ 1000000000) : ∃ P : Int, P = zf_398 Z a1 a2 ∧ (qf_398 [.inr (.inr (some (1, 0, 0))), .inl (i3 a1), .inl (i3 a2)] (zm Z ν) = some (zm Z ν, .inl (some (.inl (i3 P)))) ∧ 0 ≤ P ∧ P ≤ 15998400) := by
  obtain ⟨P, hP⟩ := zx (zf_398 Z a1 a2)
  refine zc_R (Q := fun P => 0 ≤ P ∧ P ≤ 15998400) hP (fw_398 (i3 a1) (i3 a2) _ _ ?_)
  replace hP : zE P (zf_398 Z a1 a2) := hP
  unfold zf_398 at hP
  have r1 := zM_k hZ 2 0 0 (2013 + 16 * a1) (lo := 0) (hi := 40) (by decide) (zs_2010_3 (x := a1) (by omega) (by omega) (by omega))
  have r2 := zM_cr hZ a1
  have r3 := zM_k hZ 2 0 0 2000 (lo := 0) (hi := 60) (by decide) rfl
  refine wz_i0 (i3O (n := 4400) (i3A (i3A (show (2010 : Int32) = i3 2010 from rfl) (i3M (show (16 : Int32) = i3 16 from rfl) (rfl : i3 a1 = i3 a1))) (show (3 : Int32) = i3 3 from rfl)) (by omega) (by omega) (by omega)) ?_
  refine wz_i0 (i3O (n := 4400) (i3A (i3A (show (2010 : Int32) = i3 2010 from rfl) (i3M (show (16 : Int32) = i3 16 from rfl) (rfl : i3 a1 = i3 a1))) (show (5 : Int32) = i3 5 from rfl)) (by omega) (by omega) (by omega)) ?_
  refine wz_br (i3NE (rfl : i3 a2 = i3 a2) (show (0 : Int32) = i3 0 from rfl) (by omega) (by omega) (by omega) (by omega)) (fun h4 => ?_) (fun h4 => ?_)
  · replace hP := zE_p hP h4
    refine wz_br (i3NE (rfl : i3 a2 = i3 a2) (show (1 : Int32) = i3 1 from rfl) (by omega) (by omega) (by omega) (by omega)) (fun h5 => ?_) (fun h5 => ?_)
    · replace hP := zE_p hP h5
      refine wz_br (i3NE (rfl : i3 a2 = i3 a2) (show (2 : Int32) = i3 2 from rfl) (by omega) (by omega) (by omega) (by omega)) (fun h6 => ?_) (fun h6 => ?_)
      · replace hP := zE_p hP h6
        refine wz_i0 (i3O (n := 4400) (i3A (show (40 : Int32) = i3 40 from rfl) (rfl : i3 a1 = i3 a1)) (by omega) (by omega) (by omega)) ?_
        refine wz_i0 (i3O (n := 4400) (i3A (i3A (show (2010 : Int32) = i3 2010 from rfl) (i3M (show (16 : Int32) = i3 16 from rfl) (rfl : i3 a1 = i3 a1))) (show (6 : Int32) = i3 6 from rfl)) (by omega) (by omega) (by omega)) ?_
        have r7 := zM_k hZ 2 0 0 (40 + a1) (lo := -1) (hi := 671) (by decide) (zs_40 (by omega) (by omega))
        have r8 := zM_k hZ 2 0 0 (2016 + 16 * a1) (lo := 0) (hi := 671) (by decide) (zs_2010_6 (x := a1) (by omega) (by omega) (by omega))
        refine wz_br (i3Le (i3S (zm_rd (Z := Z) (ν := ν) (k := 2) (show ((0 : Nat) : Int) = 0 from rfl) (show ((0 : Nat) : Int) = 0 from rfl) (i3I (y := (40 + a1)) (i3A (show (40 : Int32) = i3 40 from rfl) (rfl : i3 a1 = i3 a1)) (by omega) (by omega) (by omega))) (zm_rd (Z := Z) (ν := ν) (k := 2) (show ((0 : Nat) : Int) = 0 from rfl) (show ((0 : Nat) : Int) = 0 from rfl) (i3I (y := (2016 + 16 * a1)) (i3A (i3A (show (2010 : Int32) = i3 2010 from rfl) (i3M (show (16 : Int32) = i3 16 from rfl) (rfl : i3 a1 = i3 a1))) (show (6 : Int32) = i3 6 from rfl)) (by omega) (by omega) (by omega)))) (show (48 : Int32) = i3 48 from rfl) (by omega) (by omega) (by omega) (by omega)) (fun h9 => ?_) (fun h9 => ?_)
        · replace hP := zE_p hP h9
          exact zlR hP (show (0 : Int32) = i3 0 from rfl) ⟨by omega, by omega⟩
        · replace hP := zE_n hP h9
          have r10 := zM_k hZ 2 0 0 (2015 + 16 * a1) (lo := 0) (hi := 9999) (by decide) (zs_2010_5 (x := a1) (by omega) (by omega) (by omega))
          have r11 := z_mul (x := (Z 2 0 0 (2013 + 16 * a1))) (y := (Z 2 0 0 (2015 + 16 * a1))) (a := 40) (b := 9999) (by omega) (by omega) (by omega) (by omega)
          exact zlR hP (i3D (i3M (zm_rd (Z := Z) (ν := ν) (k := 2) (show ((0 : Nat) : Int) = 0 from rfl) (show ((0 : Nat) : Int) = 0 from rfl) (i3I (y := (2013 + 16 * a1)) (i3A (i3A (show (2010 : Int32) = i3 2010 from rfl) (i3M (show (16 : Int32) = i3 16 from rfl) (rfl : i3 a1 = i3 a1))) (show (3 : Int32) = i3 3 from rfl)) (by omega) (by omega) (by omega))) (zm_rd (Z := Z) (ν := ν) (k := 2) (show ((0 : Nat) : Int) = 0 from rfl) (show ((0 : Nat) : Int) = 0 from rfl) (i3I (y := (2015 + 16 * a1)) (i3A (i3A (show (2010 : Int32) = i3 2010 from rfl) (i3M (show (16 : Int32) = i3 16 from rfl) (rfl : i3 a1 = i3 a1))) (show (5 : Int32) = i3 5 from rfl)) (by omega) (by omega) (by omega)))) (show (4 : Int32) = i3 4 from rfl) (by omega) (by omega) (by omega) (by omega)) ⟨by omega, by omega⟩
      · replace hP := zE_n hP h6
        refine wz_i0 (i3O (n := 4400) (i3A (i3A (show (2010 : Int32) = i3 2010 from rfl) (i3M (show (16 : Int32) = i3 16 from rfl) (rfl : i3 a1 = i3 a1))) (show (12 : Int32) = i3 12 from rfl)) (by omega) (by omega) (by omega)) ?_
        have r12 := zM_k hZ 2 0 0 (2022 + 16 * a1) (lo := 0) (hi := 999) (by decide) (zs_2010_12 (x := a1) (by omega) (by omega) (by omega))
        refine wz_br (i3Le (show (6 : Int32) = i3 6 from rfl) (zm_rd (Z := Z) (ν := ν) (k := 2) (show ((0 : Nat) : Int) = 0 from rfl) (show ((0 : Nat) : Int) = 0 from rfl) (i3I (y := (2022 + 16 * a1)) (i3A (i3A (show (2010 : Int32) = i3 2010 from rfl) (i3M (show (16 : Int32) = i3 16 from rfl) (rfl : i3 a1 = i3 a1))) (show (12 : Int32) = i3 12 from rfl)) (by omega) (by omega) (by omega))) (by omega) (by omega) (by omega) (by omega)) (fun h13 => ?_) (fun h13 => ?_)
        · replace hP := zE_p hP h13
          refine wz_br (i3Le (zm_rd (Z := Z) (ν := ν) (k := 2) (show ((0 : Nat) : Int) = 0 from rfl) (show ((0 : Nat) : Int) = 0 from rfl) (i3I (y := (2022 + 16 * a1)) (i3A (i3A (show (2010 : Int32) = i3 2010 from rfl) (i3M (show (16 : Int32) = i3 16 from rfl) (rfl : i3 a1 = i3 a1))) (show (12 : Int32) = i3 12 from rfl)) (by omega) (by omega) (by omega))) (show (24 : Int32) = i3 24 from rfl) (by omega) (by omega) (by omega) (by omega)) (fun h14 => ?_) (fun h14 => ?_)
          · replace hP := zE_p hP h14
            have r15 := zM_k hZ 2 0 0 (2015 + 16 * a1) (lo := 0) (hi := 9999) (by decide) (zs_2010_5 (x := a1) (by omega) (by omega) (by omega))
            have r16 := z_mul (x := (Z 2 0 0 (2013 + 16 * a1))) (y := (Z 2 0 0 (2015 + 16 * a1))) (a := 40) (b := 9999) (by omega) (by omega) (by omega) (by omega)
            have r17 := z_mul (x := ((Z 2 0 0 (2013 + 16 * a1)) * (Z 2 0 0 (2015 + 16 * a1)))) (y := (Z 2 0 0 (2022 + 16 * a1))) (a := 399960) (b := 24) (by omega) (by omega) (by omega) (by omega)
            exact zlR hP (i3D (i3M (i3M (zm_rd (Z := Z) (ν := ν) (k := 2) (show ((0 : Nat) : Int) = 0 from rfl) (show ((0 : Nat) : Int) = 0 from rfl) (i3I (y := (2013 + 16 * a1)) (i3A (i3A (show (2010 : Int32) = i3 2010 from rfl) (i3M (show (16 : Int32) = i3 16 from rfl) (rfl : i3 a1 = i3 a1))) (show (3 : Int32) = i3 3 from rfl)) (by omega) (by omega) (by omega))) (zm_rd (Z := Z) (ν := ν) (k := 2) (show ((0 : Nat) : Int) = 0 from rfl) (show ((0 : Nat) : Int) = 0 from rfl) (i3I (y := (2015 + 16 * a1)) (i3A (i3A (show (2010 : Int32) = i3 2010 from rfl) (i3M (show (16 : Int32) = i3 16 from rfl) (rfl : i3 a1 = i3 a1))) (show (5 : Int32) = i3 5 from rfl)) (by omega) (by omega) (by omega)))) (zm_rd (Z := Z) (ν := ν) (k := 2) (show ((0 : Nat) : Int) = 0 from rfl) (show ((0 : Nat) : Int) = 0 from rfl) (i3I (y := (2022 + 16 * a1)) (i3A (i3A (show (2010 : Int32) = i3 2010 from rfl) (i3M (show (16 : Int32) = i3 16 from rfl) (rfl : i3 a1 = i3 a1))) (show (12 : Int32) = i3 12 from rfl)) (by omega) (by omega) (by omega)))) (show (24 : Int32) = i3 24 from rfl) (by omega) (by omega) (by omega) (by omega)) ⟨by omega, by omega⟩
          · replace hP := zE_n hP h14
            have r18 := zM_k hZ 2 0 0 (2015 + 16 * a1) (lo := 0) (hi := 9999) (by decide) (zs_2010_5 (x := a1) (by omega) (by omega) (by omega))
            have r19 := z_mul (x := (Z 2 0 0 (2013 + 16 * a1))) (y := (Z 2 0 0 (2015 + 16 * a1))) (a := 40) (b := 9999) (by omega) (by omega) (by omega) (by omega)
            exact zlR hP (i3D (i3M (i3M (zm_rd (Z := Z) (ν := ν) (k := 2) (show ((0 : Nat) : Int) = 0 from rfl) (show ((0 : Nat) : Int) = 0 from rfl) (i3I (y := (2013 + 16 * a1)) (i3A (i3A (show (2010 : Int32) = i3 2010 from rfl) (i3M (show (16 : Int32) = i3 16 from rfl) (rfl : i3 a1 = i3 a1))) (show (3 : Int32) = i3 3 from rfl)) (by omega) (by omega) (by omega))) (zm_rd (Z := Z) (ν := ν) (k := 2) (show ((0 : Nat) : Int) = 0 from rfl) (show ((0 : Nat) : Int) = 0 from rfl) (i3I (y := (2015 + 16 * a1)) (i3A (i3A (show (2010 : Int32) = i3 2010 from rfl) (i3M (show (16 : Int32) = i3 16 from rfl) (rfl : i3 a1 = i3 a1))) (show (5 : Int32) = i3 5 from rfl)) (by omega) (by omega) (by omega)))) (show (24 : Int32) = i3 24 from rfl)) (show (24 : Int32) = i3 24 from rfl) (by omega) (by omega) (by omega) (by omega)) ⟨by omega, by omega⟩
        · replace hP := zE_n hP h13
          exact zlR hP (show (0 : Int32) = i3 0 from rfl) ⟨by omega, by omega⟩
    · replace hP := zE_n hP h5
      refine wz_i0 (i3O (n := 4400) (i3A (i3A (show (2010 : Int32) = i3 2010 from rfl) (i3M (show (16 : Int32) = i3 16 from rfl) (rfl : i3 a1 = i3 a1))) (show (4 : Int32) = i3 4 from rfl)) (by omega) (by omega) (by omega)) ?_
      refine wz_i0 (i3O (n := 4400) (i3A (i3A (show (2010 : Int32) = i3 2010 from rfl) (i3M (show (16 : Int32) = i3 16 from rfl) (rfl : i3 a1 = i3 a1))) (show (3 : Int32) = i3 3 from rfl)) (by omega) (by omega) (by omega)) ?_
      refine wz_i0 (i3O (n := 4400) (i3A (i3A (show (2010 : Int32) = i3 2010 from rfl) (i3M (show (16 : Int32) = i3 16 from rfl) (rfl : i3 a1 = i3 a1))) (show (7 : Int32) = i3 7 from rfl)) (by omega) (by omega) (by omega)) ?_
      have r20 := zM_k hZ 2 0 0 (2017 + 16 * a1) (lo := -1) (hi := 3) (by decide) (zs_2010_7 (x := a1) (by omega) (by omega) (by omega))
      refine wz_br (i3NE (zm_rd (Z := Z) (ν := ν) (k := 2) (show ((0 : Nat) : Int) = 0 from rfl) (show ((0 : Nat) : Int) = 0 from rfl) (i3I (y := (2017 + 16 * a1)) (i3A (i3A (show (2010 : Int32) = i3 2010 from rfl) (i3M (show (16 : Int32) = i3 16 from rfl) (rfl : i3 a1 = i3 a1))) (show (7 : Int32) = i3 7 from rfl)) (by omega) (by omega) (by omega))) (show (0 : Int32) = i3 0 from rfl) (by omega) (by omega) (by omega) (by omega)) (fun h21 => ?_) (fun h21 => ?_)
      · replace hP := zE_p hP h21
        refine wz_br (i3NE (zm_rd (Z := Z) (ν := ν) (k := 2) (show ((0 : Nat) : Int) = 0 from rfl) (show ((0 : Nat) : Int) = 0 from rfl) (i3I (y := (2017 + 16 * a1)) (i3A (i3A (show (2010 : Int32) = i3 2010 from rfl) (i3M (show (16 : Int32) = i3 16 from rfl) (rfl : i3 a1 = i3 a1))) (show (7 : Int32) = i3 7 from rfl)) (by omega) (by omega) (by omega))) (show (1 : Int32) = i3 1 from rfl) (by omega) (by omega) (by omega) (by omega)) (fun h22 => ?_) (fun h22 => ?_)
        · replace hP := zE_p hP h22
          refine wz_br (i3NE (zm_rd (Z := Z) (ν := ν) (k := 2) (show ((0 : Nat) : Int) = 0 from rfl) (show ((0 : Nat) : Int) = 0 from rfl) (i3I (y := (2017 + 16 * a1)) (i3A (i3A (show (2010 : Int32) = i3 2010 from rfl) (i3M (show (16 : Int32) = i3 16 from rfl) (rfl : i3 a1 = i3 a1))) (show (7 : Int32) = i3 7 from rfl)) (by omega) (by omega) (by omega))) (show (2 : Int32) = i3 2 from rfl) (by omega) (by omega) (by omega) (by omega)) (fun h23 => ?_) (fun h23 => ?_)
          · replace hP := zE_p hP h23
            have r24 := zM_k hZ 2 0 0 (2014 + 16 * a1) (lo := 0) (hi := 40) (by decide) (zs_2010_4 (x := a1) (by omega) (by omega) (by omega))
            refine wz_br (i3Le (i3M (show (100 : Int32) = i3 100 from rfl) (zm_rd (Z := Z) (ν := ν) (k := 2) (show ((0 : Nat) : Int) = 0 from rfl) (show ((0 : Nat) : Int) = 0 from rfl) (i3I (y := (2014 + 16 * a1)) (i3A (i3A (show (2010 : Int32) = i3 2010 from rfl) (i3M (show (16 : Int32) = i3 16 from rfl) (rfl : i3 a1 = i3 a1))) (show (4 : Int32) = i3 4 from rfl)) (by omega) (by omega) (by omega)))) (i3M (show (60 : Int32) = i3 60 from rfl) (zm_rd (Z := Z) (ν := ν) (k := 2) (show ((0 : Nat) : Int) = 0 from rfl) (show ((0 : Nat) : Int) = 0 from rfl) (i3I (y := (2013 + 16 * a1)) (i3A (i3A (show (2010 : Int32) = i3 2010 from rfl) (i3M (show (16 : Int32) = i3 16 from rfl) (rfl : i3 a1 = i3 a1))) (show (3 : Int32) = i3 3 from rfl)) (by omega) (by omega) (by omega)))) (by omega) (by omega) (by omega) (by omega)) (fun h25 => ?_) (fun h25 => ?_)
            · replace hP := zE_p hP h25
              exact zlR hP (show (0 : Int32) = i3 0 from rfl) ⟨by omega, by omega⟩
            · replace hP := zE_n hP h25
              refine wz_i0 (i3N0 (zm_rd (Z := Z) (ν := ν) (k := 2) (show ((0 : Nat) : Int) = 0 from rfl) (show ((0 : Nat) : Int) = 0 from rfl) (i3I (y := (2013 + 16 * a1)) (i3A (i3A (show (2010 : Int32) = i3 2010 from rfl) (i3M (show (16 : Int32) = i3 16 from rfl) (rfl : i3 a1 = i3 a1))) (show (3 : Int32) = i3 3 from rfl)) (by omega) (by omega) (by omega))) (by omega) (by omega) (by omega)) ?_
              have r26 := zM_k hZ 2 0 0 (2015 + 16 * a1) (lo := 0) (hi := 9999) (by decide) (zs_2010_5 (x := a1) (by omega) (by omega) (by omega))
              have r27 := z_mul (x := (Z 2 0 0 (2013 + 16 * a1))) (y := (Z 2 0 0 (2015 + 16 * a1))) (a := 40) (b := 9999) (by omega) (by omega) (by omega) (by omega)
              have r28 := z_mul (x := ((Z 2 0 0 (2013 + 16 * a1)) * (Z 2 0 0 (2015 + 16 * a1)))) (y := (Z 2 0 0 (2014 + 16 * a1))) (a := 399960) (b := 40) (by omega) (by omega) (by omega) (by omega)
              have r29 := z_div (x := (((Z 2 0 0 (2013 + 16 * a1)) * (Z 2 0 0 (2015 + 16 * a1))) * (Z 2 0 0 (2014 + 16 * a1)))) (y := (Z 2 0 0 (2013 + 16 * a1))) (by omega) (by omega)
              exact zlR hP (i3D (i3M (i3M (zm_rd (Z := Z) (ν := ν) (k := 2) (show ((0 : Nat) : Int) = 0 from rfl) (show ((0 : Nat) : Int) = 0 from rfl) (i3I (y := (2013 + 16 * a1)) (i3A (i3A (show (2010 : Int32) = i3 2010 from rfl) (i3M (show (16 : Int32) = i3 16 from rfl) (rfl : i3 a1 = i3 a1))) (show (3 : Int32) = i3 3 from rfl)) (by omega) (by omega) (by omega))) (zm_rd (Z := Z) (ν := ν) (k := 2) (show ((0 : Nat) : Int) = 0 from rfl) (show ((0 : Nat) : Int) = 0 from rfl) (i3I (y := (2015 + 16 * a1)) (i3A (i3A (show (2010 : Int32) = i3 2010 from rfl) (i3M (show (16 : Int32) = i3 16 from rfl) (rfl : i3 a1 = i3 a1))) (show (5 : Int32) = i3 5 from rfl)) (by omega) (by omega) (by omega)))) (zm_rd (Z := Z) (ν := ν) (k := 2) (show ((0 : Nat) : Int) = 0 from rfl) (show ((0 : Nat) : Int) = 0 from rfl) (i3I (y := (2014 + 16 * a1)) (i3A (i3A (show (2010 : Int32) = i3 2010 from rfl) (i3M (show (16 : Int32) = i3 16 from rfl) (rfl : i3 a1 = i3 a1))) (show (4 : Int32) = i3 4 from rfl)) (by omega) (by omega) (by omega)))) (zm_rd (Z := Z) (ν := ν) (k := 2) (show ((0 : Nat) : Int) = 0 from rfl) (show ((0 : Nat) : Int) = 0 from rfl) (i3I (y := (2013 + 16 * a1)) (i3A (i3A (show (2010 : Int32) = i3 2010 from rfl) (i3M (show (16 : Int32) = i3 16 from rfl) (rfl : i3 a1 = i3 a1))) (show (3 : Int32) = i3 3 from rfl)) (by omega) (by omega) (by omega))) (by omega) (by omega) (by omega) (by omega)) ⟨by omega, by omega⟩
          · replace hP := zE_n hP h23
            have r30 := zM_k hZ 2 0 0 (2014 + 16 * a1) (lo := 0) (hi := 40) (by decide) (zs_2010_4 (x := a1) (by omega) (by omega) (by omega))
            refine wz_br (i3Le (i3M (show (100 : Int32) = i3 100 from rfl) (zm_rd (Z := Z) (ν := ν) (k := 2) (show ((0 : Nat) : Int) = 0 from rfl) (show ((0 : Nat) : Int) = 0 from rfl) (i3I (y := (2014 + 16 * a1)) (i3A (i3A (show (2010 : Int32) = i3 2010 from rfl) (i3M (show (16 : Int32) = i3 16 from rfl) (rfl : i3 a1 = i3 a1))) (show (4 : Int32) = i3 4 from rfl)) (by omega) (by omega) (by omega)))) (i3M (show (30 : Int32) = i3 30 from rfl) (zm_rd (Z := Z) (ν := ν) (k := 2) (show ((0 : Nat) : Int) = 0 from rfl) (show ((0 : Nat) : Int) = 0 from rfl) (i3I (y := (2013 + 16 * a1)) (i3A (i3A (show (2010 : Int32) = i3 2010 from rfl) (i3M (show (16 : Int32) = i3 16 from rfl) (rfl : i3 a1 = i3 a1))) (show (3 : Int32) = i3 3 from rfl)) (by omega) (by omega) (by omega)))) (by omega) (by omega) (by omega) (by omega)) (fun h31 => ?_) (fun h31 => ?_)
            · replace hP := zE_p hP h31
              exact zlR hP (show (0 : Int32) = i3 0 from rfl) ⟨by omega, by omega⟩
            · replace hP := zE_n hP h31
              refine wz_i0 (i3N0 (zm_rd (Z := Z) (ν := ν) (k := 2) (show ((0 : Nat) : Int) = 0 from rfl) (show ((0 : Nat) : Int) = 0 from rfl) (i3I (y := (2013 + 16 * a1)) (i3A (i3A (show (2010 : Int32) = i3 2010 from rfl) (i3M (show (16 : Int32) = i3 16 from rfl) (rfl : i3 a1 = i3 a1))) (show (3 : Int32) = i3 3 from rfl)) (by omega) (by omega) (by omega))) (by omega) (by omega) (by omega)) ?_
              have r32 := zM_k hZ 2 0 0 (2015 + 16 * a1) (lo := 0) (hi := 9999) (by decide) (zs_2010_5 (x := a1) (by omega) (by omega) (by omega))
              have r33 := z_mul (x := (Z 2 0 0 (2013 + 16 * a1))) (y := (Z 2 0 0 (2015 + 16 * a1))) (a := 40) (b := 9999) (by omega) (by omega) (by omega) (by omega)
              have r34 := z_mul (x := ((Z 2 0 0 (2013 + 16 * a1)) * (Z 2 0 0 (2015 + 16 * a1)))) (y := (Z 2 0 0 (2014 + 16 * a1))) (a := 399960) (b := 40) (by omega) (by omega) (by omega) (by omega)
              have r35 := z_div (x := (((Z 2 0 0 (2013 + 16 * a1)) * (Z 2 0 0 (2015 + 16 * a1))) * (Z 2 0 0 (2014 + 16 * a1)))) (y := (Z 2 0 0 (2013 + 16 * a1))) (by omega) (by omega)
              exact zlR hP (i3D (i3M (i3M (zm_rd (Z := Z) (ν := ν) (k := 2) (show ((0 : Nat) : Int) = 0 from rfl) (show ((0 : Nat) : Int) = 0 from rfl) (i3I (y := (2013 + 16 * a1)) (i3A (i3A (show (2010 : Int32) = i3 2010 from rfl) (i3M (show (16 : Int32) = i3 16 from rfl) (rfl : i3 a1 = i3 a1))) (show (3 : Int32) = i3 3 from rfl)) (by omega) (by omega) (by omega))) (zm_rd (Z := Z) (ν := ν) (k := 2) (show ((0 : Nat) : Int) = 0 from rfl) (show ((0 : Nat) : Int) = 0 from rfl) (i3I (y := (2015 + 16 * a1)) (i3A (i3A (show (2010 : Int32) = i3 2010 from rfl) (i3M (show (16 : Int32) = i3 16 from rfl) (rfl : i3 a1 = i3 a1))) (show (5 : Int32) = i3 5 from rfl)) (by omega) (by omega) (by omega)))) (zm_rd (Z := Z) (ν := ν) (k := 2) (show ((0 : Nat) : Int) = 0 from rfl) (show ((0 : Nat) : Int) = 0 from rfl) (i3I (y := (2014 + 16 * a1)) (i3A (i3A (show (2010 : Int32) = i3 2010 from rfl) (i3M (show (16 : Int32) = i3 16 from rfl) (rfl : i3 a1 = i3 a1))) (show (4 : Int32) = i3 4 from rfl)) (by omega) (by omega) (by omega)))) (zm_rd (Z := Z) (ν := ν) (k := 2) (show ((0 : Nat) : Int) = 0 from rfl) (show ((0 : Nat) : Int) = 0 from rfl) (i3I (y := (2013 + 16 * a1)) (i3A (i3A (show (2010 : Int32) = i3 2010 from rfl) (i3M (show (16 : Int32) = i3 16 from rfl) (rfl : i3 a1 = i3 a1))) (show (3 : Int32) = i3 3 from rfl)) (by omega) (by omega) (by omega))) (by omega) (by omega) (by omega) (by omega)) ⟨by omega, by omega⟩
        · replace hP := zE_n hP h22
          have r36 := zM_k hZ 2 0 0 (2014 + 16 * a1) (lo := 0) (hi := 40) (by decide) (zs_2010_4 (x := a1) (by omega) (by omega) (by omega))
          refine wz_br (i3Le (i3M (show (100 : Int32) = i3 100 from rfl) (zm_rd (Z := Z) (ν := ν) (k := 2) (show ((0 : Nat) : Int) = 0 from rfl) (show ((0 : Nat) : Int) = 0 from rfl) (i3I (y := (2014 + 16 * a1)) (i3A (i3A (show (2010 : Int32) = i3 2010 from rfl) (i3M (show (16 : Int32) = i3 16 from rfl) (rfl : i3 a1 = i3 a1))) (show (4 : Int32) = i3 4 from rfl)) (by omega) (by omega) (by omega)))) (i3M (show (15 : Int32) = i3 15 from rfl) (zm_rd (Z := Z) (ν := ν) (k := 2) (show ((0 : Nat) : Int) = 0 from rfl) (show ((0 : Nat) : Int) = 0 from rfl) (i3I (y := (2013 + 16 * a1)) (i3A (i3A (show (2010 : Int32) = i3 2010 from rfl) (i3M (show (16 : Int32) = i3 16 from rfl) (rfl : i3 a1 = i3 a1))) (show (3 : Int32) = i3 3 from rfl)) (by omega) (by omega) (by omega)))) (by omega) (by omega) (by omega) (by omega)) (fun h37 => ?_) (fun h37 => ?_)
          · replace hP := zE_p hP h37
            exact zlR hP (show (0 : Int32) = i3 0 from rfl) ⟨by omega, by omega⟩
          · replace hP := zE_n hP h37
            refine wz_i0 (i3N0 (zm_rd (Z := Z) (ν := ν) (k := 2) (show ((0 : Nat) : Int) = 0 from rfl) (show ((0 : Nat) : Int) = 0 from rfl) (i3I (y := (2013 + 16 * a1)) (i3A (i3A (show (2010 : Int32) = i3 2010 from rfl) (i3M (show (16 : Int32) = i3 16 from rfl) (rfl : i3 a1 = i3 a1))) (show (3 : Int32) = i3 3 from rfl)) (by omega) (by omega) (by omega))) (by omega) (by omega) (by omega)) ?_
            have r38 := zM_k hZ 2 0 0 (2015 + 16 * a1) (lo := 0) (hi := 9999) (by decide) (zs_2010_5 (x := a1) (by omega) (by omega) (by omega))
            have r39 := z_mul (x := (Z 2 0 0 (2013 + 16 * a1))) (y := (Z 2 0 0 (2015 + 16 * a1))) (a := 40) (b := 9999) (by omega) (by omega) (by omega) (by omega)
            have r40 := z_mul (x := ((Z 2 0 0 (2013 + 16 * a1)) * (Z 2 0 0 (2015 + 16 * a1)))) (y := (Z 2 0 0 (2014 + 16 * a1))) (a := 399960) (b := 40) (by omega) (by omega) (by omega) (by omega)
            have r41 := z_div (x := (((Z 2 0 0 (2013 + 16 * a1)) * (Z 2 0 0 (2015 + 16 * a1))) * (Z 2 0 0 (2014 + 16 * a1)))) (y := (Z 2 0 0 (2013 + 16 * a1))) (by omega) (by omega)
            exact zlR hP (i3D (i3M (i3M (zm_rd (Z := Z) (ν := ν) (k := 2) (show ((0 : Nat) : Int) = 0 from rfl) (show ((0 : Nat) : Int) = 0 from rfl) (i3I (y := (2013 + 16 * a1)) (i3A (i3A (show (2010 : Int32) = i3 2010 from rfl) (i3M (show (16 : Int32) = i3 16 from rfl) (rfl : i3 a1 = i3 a1))) (show (3 : Int32) = i3 3 from rfl)) (by omega) (by omega) (by omega))) (zm_rd (Z := Z) (ν := ν) (k := 2) (show ((0 : Nat) : Int) = 0 from rfl) (show ((0 : Nat) : Int) = 0 from rfl) (i3I (y := (2015 + 16 * a1)) (i3A (i3A (show (2010 : Int32) = i3 2010 from rfl) (i3M (show (16 : Int32) = i3 16 from rfl) (rfl : i3 a1 = i3 a1))) (show (5 : Int32) = i3 5 from rfl)) (by omega) (by omega) (by omega)))) (zm_rd (Z := Z) (ν := ν) (k := 2) (show ((0 : Nat) : Int) = 0 from rfl) (show ((0 : Nat) : Int) = 0 from rfl) (i3I (y := (2014 + 16 * a1)) (i3A (i3A (show (2010 : Int32) = i3 2010 from rfl) (i3M (show (16 : Int32) = i3 16 from rfl) (rfl : i3 a1 = i3 a1))) (show (4 : Int32) = i3 4 from rfl)) (by omega) (by omega) (by omega)))) (zm_rd (Z := Z) (ν := ν) (k := 2) (show ((0 : Nat) : Int) = 0 from rfl) (show ((0 : Nat) : Int) = 0 from rfl) (i3I (y := (2013 + 16 * a1)) (i3A (i3A (show (2010 : Int32) = i3 2010 from rfl) (i3M (show (16 : Int32) = i3 16 from rfl) (rfl : i3 a1 = i3 a1))) (show (3 : Int32) = i3 3 from rfl)) (by omega) (by omega) (by omega))) (by omega) (by omega) (by omega) (by omega)) ⟨by omega, by omega⟩
      · replace hP := zE_n hP h21
        have r42 := zM_k hZ 2 0 0 (2014 + 16 * a1) (lo := 0) (hi := 40) (by decide) (zs_2010_4 (x := a1) (by omega) (by omega) (by omega))
        refine wz_br (i3Le (i3M (show (100 : Int32) = i3 100 from rfl) (zm_rd (Z := Z) (ν := ν) (k := 2) (show ((0 : Nat) : Int) = 0 from rfl) (show ((0 : Nat) : Int) = 0 from rfl) (i3I (y := (2014 + 16 * a1)) (i3A (i3A (show (2010 : Int32) = i3 2010 from rfl) (i3M (show (16 : Int32) = i3 16 from rfl) (rfl : i3 a1 = i3 a1))) (show (4 : Int32) = i3 4 from rfl)) (by omega) (by omega) (by omega)))) (i3M (show (5 : Int32) = i3 5 from rfl) (zm_rd (Z := Z) (ν := ν) (k := 2) (show ((0 : Nat) : Int) = 0 from rfl) (show ((0 : Nat) : Int) = 0 from rfl) (i3I (y := (2013 + 16 * a1)) (i3A (i3A (show (2010 : Int32) = i3 2010 from rfl) (i3M (show (16 : Int32) = i3 16 from rfl) (rfl : i3 a1 = i3 a1))) (show (3 : Int32) = i3 3 from rfl)) (by omega) (by omega) (by omega)))) (by omega) (by omega) (by omega) (by omega)) (fun h43 => ?_) (fun h43 => ?_)
        · replace hP := zE_p hP h43
          exact zlR hP (show (0 : Int32) = i3 0 from rfl) ⟨by omega, by omega⟩
        · replace hP := zE_n hP h43
          refine wz_i0 (i3N0 (zm_rd (Z := Z) (ν := ν) (k := 2) (show ((0 : Nat) : Int) = 0 from rfl) (show ((0 : Nat) : Int) = 0 from rfl) (i3I (y := (2013 + 16 * a1)) (i3A (i3A (show (2010 : Int32) = i3 2010 from rfl) (i3M (show (16 : Int32) = i3 16 from rfl) (rfl : i3 a1 = i3 a1))) (show (3 : Int32) = i3 3 from rfl)) (by omega) (by omega) (by omega))) (by omega) (by omega) (by omega)) ?_
          have r44 := zM_k hZ 2 0 0 (2015 + 16 * a1) (lo := 0) (hi := 9999) (by decide) (zs_2010_5 (x := a1) (by omega) (by omega) (by omega))
          have r45 := z_mul (x := (Z 2 0 0 (2013 + 16 * a1))) (y := (Z 2 0 0 (2015 + 16 * a1))) (a := 40) (b := 9999) (by omega) (by omega) (by omega) (by omega)
          have r46 := z_mul (x := ((Z 2 0 0 (2013 + 16 * a1)) * (Z 2 0 0 (2015 + 16 * a1)))) (y := (Z 2 0 0 (2014 + 16 * a1))) (a := 399960) (b := 40) (by omega) (by omega) (by omega) (by omega)
          have r47 := z_div (x := (((Z 2 0 0 (2013 + 16 * a1)) * (Z 2 0 0 (2015 + 16 * a1))) * (Z 2 0 0 (2014 + 16 * a1)))) (y := (Z 2 0 0 (2013 + 16 * a1))) (by omega) (by omega)
          exact zlR hP (i3D (i3M (i3M (zm_rd (Z := Z) (ν := ν) (k := 2) (show ((0 : Nat) : Int) = 0 from rfl) (show ((0 : Nat) : Int) = 0 from rfl) (i3I (y := (2013 + 16 * a1)) (i3A (i3A (show (2010 : Int32) = i3 2010 from rfl) (i3M (show (16 : Int32) = i3 16 from rfl) (rfl : i3 a1 = i3 a1))) (show (3 : Int32) = i3 3 from rfl)) (by omega) (by omega) (by omega))) (zm_rd (Z := Z) (ν := ν) (k := 2) (show ((0 : Nat) : Int) = 0 from rfl) (show ((0 : Nat) : Int) = 0 from rfl) (i3I (y := (2015 + 16 * a1)) (i3A (i3A (show (2010 : Int32) = i3 2010 from rfl) (i3M (show (16 : Int32) = i3 16 from rfl) (rfl : i3 a1 = i3 a1))) (show (5 : Int32) = i3 5 from rfl)) (by omega) (by omega) (by omega)))) (zm_rd (Z := Z) (ν := ν) (k := 2) (show ((0 : Nat) : Int) = 0 from rfl) (show ((0 : Nat) : Int) = 0 from rfl) (i3I (y := (2014 + 16 * a1)) (i3A (i3A (show (2010 : Int32) = i3 2010 from rfl) (i3M (show (16 : Int32) = i3 16 from rfl) (rfl : i3 a1 = i3 a1))) (show (4 : Int32) = i3 4 from rfl)) (by omega) (by omega) (by omega)))) (zm_rd (Z := Z) (ν := ν) (k := 2) (show ((0 : Nat) : Int) = 0 from rfl) (show ((0 : Nat) : Int) = 0 from rfl) (i3I (y := (2013 + 16 * a1)) (i3A (i3A (show (2010 : Int32) = i3 2010 from rfl) (i3M (show (16 : Int32) = i3 16 from rfl) (rfl : i3 a1 = i3 a1))) (show (3 : Int32) = i3 3 from rfl)) (by omega) (by omega) (by omega))) (by omega) (by omega) (by omega) (by omega)) ⟨by omega, by omega⟩
  · replace hP := zE_n hP h4
    obtain ⟨v48, hv48, c9, lv48, uv48⟩ := sp_421 (ν := ν) hZ (a1 := a1) (by omega) (zbh (c := 0) (k := 0) hM (Nat.le_of_ble_eq_true rfl))
    replace hP := zl_e hP hv48
    refine wz_cI_of (zas (zcons rfl (zcons (zvi (rfl : i3 a1 = i3 a1)) rfl)) c9) ?_
    clear c9
    refine wz_br (i3NE (rfl : i3 v48 = i3 v48) (show (3 : Int32) = i3 3 from rfl) (by omega) (by omega) (by omega) (by omega)) (fun h49 => ?_) (fun h49 => ?_)
    · replace hP := zE_p hP h49
      refine wz_br (i3NE (rfl : i3 v48 = i3 v48) (show (1 : Int32) = i3 1 from rfl) (by omega) (by omega) (by omega) (by omega)) (fun h50 => ?_) (fun h50 => ?_)
      · replace hP := zE_p hP h50
        have r51 := zM_k hZ 2 0 0 (2015 + 16 * a1) (lo := 0) (hi := 9999) (by decide) (zs_2010_5 (x := a1) (by omega) (by omega) (by omega))
        have r52 := z_mul (x := (Z 2 0 0 (2013 + 16 * a1))) (y := (Z 2 0 0 (2015 + 16 * a1))) (a := 40) (b := 9999) (by omega) (by omega) (by omega) (by omega)
        exact zlR hP (i3D (i3M (zm_rd (Z := Z) (ν := ν) (k := 2) (show ((0 : Nat) : Int) = 0 from rfl) (show ((0 : Nat) : Int) = 0 from rfl) (i3I (y := (2013 + 16 * a1)) (i3A (i3A (show (2010 : Int32) = i3 2010 from rfl) (i3M (show (16 : Int32) = i3 16 from rfl) (rfl : i3 a1 = i3 a1))) (show (3 : Int32) = i3 3 from rfl)) (by omega) (by omega) (by omega))) (zm_rd (Z := Z) (ν := ν) (k := 2) (show ((0 : Nat) : Int) = 0 from rfl) (show ((0 : Nat) : Int) = 0 from rfl) (i3I (y := (2015 + 16 * a1)) (i3A (i3A (show (2010 : Int32) = i3 2010 from rfl) (i3M (show (16 : Int32) = i3 16 from rfl) (rfl : i3 a1 = i3 a1))) (show (5 : Int32) = i3 5 from rfl)) (by omega) (by omega) (by omega)))) (show (3 : Int32) = i3 3 from rfl) (by omega) (by omega) (by omega) (by omega)) ⟨by omega, by omega⟩
      · replace hP := zE_n hP h50
        exact zlR hP (show (0 : Int32) = i3 0 from rfl) ⟨by omega, by omega⟩
    · replace hP := zE_n hP h49
      have r53 := zM_k hZ 2 0 0 (2015 + 16 * a1) (lo := 0) (hi := 9999) (by decide) (zs_2010_5 (x := a1) (by omega) (by omega) (by omega))
      have r54 := z_mul (x := (Z 2 0 0 (2013 + 16 * a1))) (y := (Z 2 0 0 (2015 + 16 * a1))) (a := 40) (b := 9999) (by omega) (by omega) (by omega) (by omega)
      exact zlR hP (i3M (zm_rd (Z := Z) (ν := ν) (k := 2) (show ((0 : Nat) : Int) = 0 from rfl) (show ((0 : Nat) : Int) = 0 from rfl) (i3I (y := (2013 + 16 * a1)) (i3A (i3A (show (2010 : Int32) = i3 2010 from rfl) (i3M (show (16 : Int32) = i3 16 from rfl) (rfl : i3 a1 = i3 a1))) (show (3 : Int32) = i3 3 from rfl)) (by omega) (by omega) (by omega))) (zm_rd (Z := Z) (ν := ν) (k := 2) (show ((0 : Nat) : Int) = 0 from rfl) (show ((0 : Nat) : Int) = 0 from rfl) (i3I (y := (2015 + 16 * a1)) (i3A (i3A (show (2010 : Int32) = i3 2010 from rfl) (i3M (show (16 : Int32) = i3 16 from rfl) (rfl : i3 a1 = i3 a1))) (show (5 : Int32) = i3 5 from rfl)) (by omega) (by omega) (by omega)))) ⟨by omega, by omega⟩
/- yX12_kShare -/
def zl_418_1 (x0 : Int) (x1 : Int) (x2 : Int) (x3 : Int) (x4 : Int) (x5 : Int) (x6 : Int) (x7 : Int) : Nat → qz_Z → Int → Int → Int × Int
  | 0, Z, x8, x9 => (x8, x9)
  | m + 1, Z, x8, x9 => (if 3 ≤ x9 then (x8, x9) else (if x9 ≠ 0 then (if x9 ≠ 1 then (if x9 = x4 then zl_418_1 x0 x1 x2 x3 x4 x5 x6 x7 m Z (x8 + 0) (x9 + 1) else (if (z2 (fun x y => x - x / y * y) (w3 (x0 * x7)) x5) < (z2 (fun x y => x - x / y * y) (w3 (x0 * x3)) x5) then zl_418_1 x0 x1 x2 x3 x4 x5 x6 x7 m Z (x8 + 1) (x9 + 1) else (if (z2 (fun x y => x - x / y * y) (w3 (x0 * x3)) x5) ≠ (z2 (fun x y => x - x / y * y) (w3 (x0 * x7)) x5) then zl_418_1 x0 x1 x2 x3 x4 x5 x6 x7 m Z (x8 + 0) (x9 + 1) else zl_418_1 x0 x1 x2 x3 x4 x5 x6 x7 m Z (x8 + 0) (x9 + 1)))) else (if x9 = x4 then zl_418_1 x0 x1 x2 x3 x4 x5 x6 x7 m Z (x8 + 0) (x9 + 1) else (if (z2 (fun x y => x - x / y * y) (w3 (x0 * x7)) x5) < (z2 (fun x y => x - x / y * y) (w3 (x0 * x2)) x5) then zl_418_1 x0 x1 x2 x3 x4 x5 x6 x7 m Z (x8 + 1) (x9 + 1) else (if (z2 (fun x y => x - x / y * y) (w3 (x0 * x2)) x5) ≠ (z2 (fun x y => x - x / y * y) (w3 (x0 * x7)) x5) then zl_418_1 x0 x1 x2 x3 x4 x5 x6 x7 m Z (x8 + 0) (x9 + 1) else (if x4 ≤ x9 then zl_418_1 x0 x1 x2 x3 x4 x5 x6 x7 m Z (x8 + 0) (x9 + 1) else zl_418_1 x0 x1 x2 x3 x4 x5 x6 x7 m Z (x8 + 1) (x9 + 1)))))) else (if x9 = x4 then zl_418_1 x0 x1 x2 x3 x4 x5 x6 x7 m Z (x8 + 0) (x9 + 1) else (if (z2 (fun x y => x - x / y * y) (w3 (x0 * x7)) x5) < (z2 (fun x y => x - x / y * y) (w3 (x0 * x1)) x5) then zl_418_1 x0 x1 x2 x3 x4 x5 x6 x7 m Z (x8 + 1) (x9 + 1) else (if (z2 (fun x y => x - x / y * y) (w3 (x0 * x1)) x5) ≠ (z2 (fun x y => x - x / y * y) (w3 (x0 * x7)) x5) then zl_418_1 x0 x1 x2 x3 x4 x5 x6 x7 m Z (x8 + 0) (x9 + 1) else zl_418_1 x0 x1 x2 x3 x4 x5 x6 x7 m Z (x8 + 1) (x9 + 1))))))
theorem sl_418_1 {s : zSM} {Z : qz_Z} {ν : qz_N} (hZ : zM s Z) (hM : s.2 + 0 ≤ 1000000000) {x0 : Int} (gx0 : 0 ≤ x0 ∧ x0 ≤ 15998400) {x1 : Int} (gx1 : -2001 ≤ x1 ∧ x1 ≤ 2001) {x2 : Int} (gx2 : -2001 ≤ x2 ∧ x2 ≤ 2001) {x3 : Int} (gx3 : -2001 ≤ x3 ∧ x3 ≤ 2001) {x4 : Int} (gx4 : 0 ≤ x4 ∧ x4 ≤ 2) {x5 : Int} (gx5 : -6003 ≤ x5 ∧ x5 ≤ 6003) {x6 : Int} (gx6 : -2147483648 ≤ x6 ∧ x6 ≤ 2147483647) {x7 : Int} (gx7 : -2001 ≤ x7 ∧ x7 ≤ 2001) {x8 : Int} (gx8 : 0 ≤ x8 ∧ x8 ≤ 3) {x9 : Int} (gx9 : 0 ≤ x9 ∧ x9 ≤ 3) (gr0 : x8 ≤ x9) (gr1 : x5 ≠ 0) {k : wz_K} {R : wz_R} {L : qz_L} (hL : qz_fg [true, true, true, true, true, true, true, true, true, true, false] L = [some (.inl (i3 x0)), some (.inl (i3 x1)), some (.inl (i3 x2)), some (.inl (i3 x3)), some (.inl (i3 x4)), some (.inl (i3 x5)), some (.inl (i3 x6)), some (.inl (i3 x7)), some (.inl (i3 x8)), some (.inl (i3 x9)), none]) {T : Int × Int} (hP : zE T (zl_418_1 x0 x1 x2 x3 x4 x5 x6 x7 ((3 - x9).toNat + 1) Z x8 x9)) (hk : ∀ (L9 : qz_L) (yx8 yx9 : Int), qz_fg [true, false, false, false, false, true, true, true, true, false, false] L9 = [some (.inl (i3 x0)), none, none, none, none, some (.inl (i3 x5)), some (.inl (i3 x6)), some (.inl (i3 x7)), some (.inl (i3 yx8)), none, none] → (0 ≤ yx8 ∧ yx8 ≤ 3) → (0 ≤ yx9 ∧ yx9 ≤ 3) → (yx8 ≤ yx9) → (x5 ≠ 0) → zE T ((yx8, yx9)) → k 0 (L9, [], zm Z ν)) : wz_loop qb_418_1 65536 k R (L, [], zm Z ν) := by
  refine wz_lp sb_418_1 (fun m x => ∃ x8 : Int, ∃ x9 : Int, qz_fg [true, true, true, true, true, true, true, true, true, true, false] x.1 = [some (.inl (i3 x0)), some (.inl (i3 x1)), some (.inl (i3 x2)), some (.inl (i3 x3)), some (.inl (i3 x4)), some (.inl (i3 x5)), some (.inl (i3 x6)), some (.inl (i3 x7)), some (.inl (i3 x8)), some (.inl (i3 x9)), none] ∧ x.2 = ([], zm Z ν) ∧ m = (3 - x9).toNat ∧ (0 ≤ x8 ∧ x8 ≤ 3) ∧ (0 ≤ x9 ∧ x9 ≤ 3) ∧ (x8 ≤ x9) ∧ (x5 ≠ 0) ∧ zE T (zl_418_1 x0 x1 x2 x3 x4 x5 x6 x7 (m + 1) Z x8 x9)) ?_ 65536 ((3 - x9).toNat) _ (by omega) ⟨x8, x9, hL, rfl, rfl, gx8, gx9, gr0, gr1, hP⟩
  clear hP gr0 gr1 gx8 gx9 hL
  clear x8 x9
  rintro m ⟨L, st, μ⟩ ⟨x8, x9, hL, hx, hm, gx8, gx9, gr0, gr1, hP⟩
  cases hx
  refine fb_418_1 (i3 x0) (i3 x1) (i3 x2) (i3 x3) (i3 x4) (i3 x5) (i3 x6) (i3 x7) (i3 x8) (i3 x9) _ _ _ _ hL ?_
  refine wz_br (i3Le (show (3 : Int32) = i3 3 from rfl) (rfl : i3 x9 = i3 x9) (by omega) (by omega) (by omega) (by omega)) (fun h1 => ?_) (fun h1 => ?_)
  · replace hP := zE_p hP h1
    exact hk _ _ _ (zconso (zvo (rfl : i3 x0 = i3 x0)) (zconso rfl (zconso rfl (zconso rfl (zconso rfl (zconso (zvo (rfl : i3 x5 = i3 x5)) (zconso (zvo (rfl : i3 x6 = i3 x6)) (zconso (zvo (rfl : i3 x7 = i3 x7)) (zconso (zvo (rfl : i3 x8 = i3 x8)) (zconso rfl (zconso rfl rfl)))))))))))  (by omega) (by omega) (by omega) (by omega) hP
  · replace hP := zE_n hP h1
    refine wz_br (i3NE (rfl : i3 x9 = i3 x9) (show (0 : Int32) = i3 0 from rfl) (by omega) (by omega) (by omega) (by omega)) (fun h2 => ?_) (fun h2 => ?_)
    · replace hP := zE_p hP h2
      refine wz_br (i3NE (rfl : i3 x9 = i3 x9) (show (1 : Int32) = i3 1 from rfl) (by omega) (by omega) (by omega) (by omega)) (fun h3 => ?_) (fun h3 => ?_)
      · replace hP := zE_p hP h3
        refine wz_i0 (i3N0 (rfl : i3 x5 = i3 x5) (by omega) (by omega) (by omega)) ?_
        refine wz_br (i3E (rfl : i3 x9 = i3 x9) (rfl : i3 x4 = i3 x4) (by omega) (by omega) (by omega) (by omega)) (fun h4 => ?_) (fun h4 => ?_)
        · replace hP := zE_p hP h4
          obtain ⟨m2, rfl⟩ : ∃ m2, m = m2 + 1 := ⟨m - 1, by omega⟩
          exact wz_k1 ⟨m2, by omega, (x8 + 0), (x9 + 1), (zconso (zvo (rfl : i3 x0 = i3 x0)) (zconso (zvo (rfl : i3 x1 = i3 x1)) (zconso (zvo (rfl : i3 x2 = i3 x2)) (zconso (zvo (rfl : i3 x3 = i3 x3)) (zconso (zvo (rfl : i3 x4 = i3 x4)) (zconso (zvo (rfl : i3 x5 = i3 x5)) (zconso (zvo (rfl : i3 x6 = i3 x6)) (zconso (zvo (rfl : i3 x7 = i3 x7)) (zconso (zvo (i3A (rfl : i3 x8 = i3 x8) (show (0 : Int32) = i3 0 from rfl))) (zconso (zvo (i3A (rfl : i3 x9 = i3 x9) (show (1 : Int32) = i3 1 from rfl))) (zconso rfl rfl))))))))))), rfl,  by omega, by omega, by omega, by omega, by omega,  hP⟩
        · replace hP := zE_n hP h4
          refine wz_i0 (i3N0 (rfl : i3 x5 = i3 x5) (by omega) (by omega) (by omega)) ?_
          have r5 := w3_r (x0 * x7)
          have r6 := z2_r (fun x y => x - x / y * y) (w3 (x0 * x7)) x5
          have r7 := w3_r (x0 * x3)
          have r8 := z2_r (fun x y => x - x / y * y) (w3 (x0 * x3)) x5
          refine wz_br (i3L (i3Z (fun x y => x - x / y * y) (i3W (i3M (rfl : i3 x0 = i3 x0) (rfl : i3 x7 = i3 x7))) (rfl : i3 x5 = i3 x5)) (i3Z (fun x y => x - x / y * y) (i3W (i3M (rfl : i3 x0 = i3 x0) (rfl : i3 x3 = i3 x3))) (rfl : i3 x5 = i3 x5)) (by omega) (by omega) (by omega) (by omega)) (fun h9 => ?_) (fun h9 => ?_)
          · replace hP := zE_p hP h9
            obtain ⟨m2, rfl⟩ : ∃ m2, m = m2 + 1 := ⟨m - 1, by omega⟩
            exact wz_k1 ⟨m2, by omega, (x8 + 1), (x9 + 1), (zconso (zvo (rfl : i3 x0 = i3 x0)) (zconso (zvo (rfl : i3 x1 = i3 x1)) (zconso (zvo (rfl : i3 x2 = i3 x2)) (zconso (zvo (rfl : i3 x3 = i3 x3)) (zconso (zvo (rfl : i3 x4 = i3 x4)) (zconso (zvo (rfl : i3 x5 = i3 x5)) (zconso (zvo (rfl : i3 x6 = i3 x6)) (zconso (zvo (rfl : i3 x7 = i3 x7)) (zconso (zvo (i3A (rfl : i3 x8 = i3 x8) (show (1 : Int32) = i3 1 from rfl))) (zconso (zvo (i3A (rfl : i3 x9 = i3 x9) (show (1 : Int32) = i3 1 from rfl))) (zconso rfl rfl))))))))))), rfl,  by omega, by omega, by omega, by omega, by omega,  hP⟩
          · replace hP := zE_n hP h9
            refine wz_br (i3NE (i3Z (fun x y => x - x / y * y) (i3W (i3M (rfl : i3 x0 = i3 x0) (rfl : i3 x3 = i3 x3))) (rfl : i3 x5 = i3 x5)) (i3Z (fun x y => x - x / y * y) (i3W (i3M (rfl : i3 x0 = i3 x0) (rfl : i3 x7 = i3 x7))) (rfl : i3 x5 = i3 x5)) (by omega) (by omega) (by omega) (by omega)) (fun h10 => ?_) (fun h10 => ?_)
            · replace hP := zE_p hP h10
              obtain ⟨m2, rfl⟩ : ∃ m2, m = m2 + 1 := ⟨m - 1, by omega⟩
              exact wz_k1 ⟨m2, by omega, (x8 + 0), (x9 + 1), (zconso (zvo (rfl : i3 x0 = i3 x0)) (zconso (zvo (rfl : i3 x1 = i3 x1)) (zconso (zvo (rfl : i3 x2 = i3 x2)) (zconso (zvo (rfl : i3 x3 = i3 x3)) (zconso (zvo (rfl : i3 x4 = i3 x4)) (zconso (zvo (rfl : i3 x5 = i3 x5)) (zconso (zvo (rfl : i3 x6 = i3 x6)) (zconso (zvo (rfl : i3 x7 = i3 x7)) (zconso (zvo (i3A (rfl : i3 x8 = i3 x8) (show (0 : Int32) = i3 0 from rfl))) (zconso (zvo (i3A (rfl : i3 x9 = i3 x9) (show (1 : Int32) = i3 1 from rfl))) (zconso rfl rfl))))))))))), rfl,  by omega, by omega, by omega, by omega, by omega,  hP⟩
            · replace hP := zE_n hP h10
              refine wz_i1 (Eq.trans (i3Le (rfl : i3 x4 = i3 x4) (rfl : i3 x9 = i3 x9) (by omega) (by omega) (by omega) (by omega)) (decide_eq_true (by omega))) ?_
              obtain ⟨m2, rfl⟩ : ∃ m2, m = m2 + 1 := ⟨m - 1, by omega⟩
              exact wz_k1 ⟨m2, by omega, (x8 + 0), (x9 + 1), (zconso (zvo (rfl : i3 x0 = i3 x0)) (zconso (zvo (rfl : i3 x1 = i3 x1)) (zconso (zvo (rfl : i3 x2 = i3 x2)) (zconso (zvo (rfl : i3 x3 = i3 x3)) (zconso (zvo (rfl : i3 x4 = i3 x4)) (zconso (zvo (rfl : i3 x5 = i3 x5)) (zconso (zvo (rfl : i3 x6 = i3 x6)) (zconso (zvo (rfl : i3 x7 = i3 x7)) (zconso (zvo (i3A (rfl : i3 x8 = i3 x8) (show (0 : Int32) = i3 0 from rfl))) (zconso (zvo (i3A (rfl : i3 x9 = i3 x9) (show (1 : Int32) = i3 1 from rfl))) (zconso rfl rfl))))))))))), rfl,  by omega, by omega, by omega, by omega, by omega,  hP⟩
      · replace hP := zE_n hP h3
        refine wz_i0 (i3N0 (rfl : i3 x5 = i3 x5) (by omega) (by omega) (by omega)) ?_
        refine wz_br (i3E (rfl : i3 x9 = i3 x9) (rfl : i3 x4 = i3 x4) (by omega) (by omega) (by omega) (by omega)) (fun h11 => ?_) (fun h11 => ?_)
        · replace hP := zE_p hP h11
          obtain ⟨m2, rfl⟩ : ∃ m2, m = m2 + 1 := ⟨m - 1, by omega⟩
          exact wz_k1 ⟨m2, by omega, (x8 + 0), (x9 + 1), (zconso (zvo (rfl : i3 x0 = i3 x0)) (zconso (zvo (rfl : i3 x1 = i3 x1)) (zconso (zvo (rfl : i3 x2 = i3 x2)) (zconso (zvo (rfl : i3 x3 = i3 x3)) (zconso (zvo (rfl : i3 x4 = i3 x4)) (zconso (zvo (rfl : i3 x5 = i3 x5)) (zconso (zvo (rfl : i3 x6 = i3 x6)) (zconso (zvo (rfl : i3 x7 = i3 x7)) (zconso (zvo (i3A (rfl : i3 x8 = i3 x8) (show (0 : Int32) = i3 0 from rfl))) (zconso (zvo (i3A (rfl : i3 x9 = i3 x9) (show (1 : Int32) = i3 1 from rfl))) (zconso rfl rfl))))))))))), rfl,  by omega, by omega, by omega, by omega, by omega,  hP⟩
        · replace hP := zE_n hP h11
          refine wz_i0 (i3N0 (rfl : i3 x5 = i3 x5) (by omega) (by omega) (by omega)) ?_
          have r12 := w3_r (x0 * x7)
          have r13 := z2_r (fun x y => x - x / y * y) (w3 (x0 * x7)) x5
          have r14 := w3_r (x0 * x2)
          have r15 := z2_r (fun x y => x - x / y * y) (w3 (x0 * x2)) x5
          refine wz_br (i3L (i3Z (fun x y => x - x / y * y) (i3W (i3M (rfl : i3 x0 = i3 x0) (rfl : i3 x7 = i3 x7))) (rfl : i3 x5 = i3 x5)) (i3Z (fun x y => x - x / y * y) (i3W (i3M (rfl : i3 x0 = i3 x0) (rfl : i3 x2 = i3 x2))) (rfl : i3 x5 = i3 x5)) (by omega) (by omega) (by omega) (by omega)) (fun h16 => ?_) (fun h16 => ?_)
          · replace hP := zE_p hP h16
            obtain ⟨m2, rfl⟩ : ∃ m2, m = m2 + 1 := ⟨m - 1, by omega⟩
            exact wz_k1 ⟨m2, by omega, (x8 + 1), (x9 + 1), (zconso (zvo (rfl : i3 x0 = i3 x0)) (zconso (zvo (rfl : i3 x1 = i3 x1)) (zconso (zvo (rfl : i3 x2 = i3 x2)) (zconso (zvo (rfl : i3 x3 = i3 x3)) (zconso (zvo (rfl : i3 x4 = i3 x4)) (zconso (zvo (rfl : i3 x5 = i3 x5)) (zconso (zvo (rfl : i3 x6 = i3 x6)) (zconso (zvo (rfl : i3 x7 = i3 x7)) (zconso (zvo (i3A (rfl : i3 x8 = i3 x8) (show (1 : Int32) = i3 1 from rfl))) (zconso (zvo (i3A (rfl : i3 x9 = i3 x9) (show (1 : Int32) = i3 1 from rfl))) (zconso rfl rfl))))))))))), rfl,  by omega, by omega, by omega, by omega, by omega,  hP⟩
          · replace hP := zE_n hP h16
            refine wz_br (i3NE (i3Z (fun x y => x - x / y * y) (i3W (i3M (rfl : i3 x0 = i3 x0) (rfl : i3 x2 = i3 x2))) (rfl : i3 x5 = i3 x5)) (i3Z (fun x y => x - x / y * y) (i3W (i3M (rfl : i3 x0 = i3 x0) (rfl : i3 x7 = i3 x7))) (rfl : i3 x5 = i3 x5)) (by omega) (by omega) (by omega) (by omega)) (fun h17 => ?_) (fun h17 => ?_)
            · replace hP := zE_p hP h17
              obtain ⟨m2, rfl⟩ : ∃ m2, m = m2 + 1 := ⟨m - 1, by omega⟩
              exact wz_k1 ⟨m2, by omega, (x8 + 0), (x9 + 1), (zconso (zvo (rfl : i3 x0 = i3 x0)) (zconso (zvo (rfl : i3 x1 = i3 x1)) (zconso (zvo (rfl : i3 x2 = i3 x2)) (zconso (zvo (rfl : i3 x3 = i3 x3)) (zconso (zvo (rfl : i3 x4 = i3 x4)) (zconso (zvo (rfl : i3 x5 = i3 x5)) (zconso (zvo (rfl : i3 x6 = i3 x6)) (zconso (zvo (rfl : i3 x7 = i3 x7)) (zconso (zvo (i3A (rfl : i3 x8 = i3 x8) (show (0 : Int32) = i3 0 from rfl))) (zconso (zvo (i3A (rfl : i3 x9 = i3 x9) (show (1 : Int32) = i3 1 from rfl))) (zconso rfl rfl))))))))))), rfl,  by omega, by omega, by omega, by omega, by omega,  hP⟩
            · replace hP := zE_n hP h17
              refine wz_br (i3Le (rfl : i3 x4 = i3 x4) (rfl : i3 x9 = i3 x9) (by omega) (by omega) (by omega) (by omega)) (fun h18 => ?_) (fun h18 => ?_)
              · replace hP := zE_p hP h18
                obtain ⟨m2, rfl⟩ : ∃ m2, m = m2 + 1 := ⟨m - 1, by omega⟩
                exact wz_k1 ⟨m2, by omega, (x8 + 0), (x9 + 1), (zconso (zvo (rfl : i3 x0 = i3 x0)) (zconso (zvo (rfl : i3 x1 = i3 x1)) (zconso (zvo (rfl : i3 x2 = i3 x2)) (zconso (zvo (rfl : i3 x3 = i3 x3)) (zconso (zvo (rfl : i3 x4 = i3 x4)) (zconso (zvo (rfl : i3 x5 = i3 x5)) (zconso (zvo (rfl : i3 x6 = i3 x6)) (zconso (zvo (rfl : i3 x7 = i3 x7)) (zconso (zvo (i3A (rfl : i3 x8 = i3 x8) (show (0 : Int32) = i3 0 from rfl))) (zconso (zvo (i3A (rfl : i3 x9 = i3 x9) (show (1 : Int32) = i3 1 from rfl))) (zconso rfl rfl))))))))))), rfl,  by omega, by omega, by omega, by omega, by omega,  hP⟩
              · replace hP := zE_n hP h18
                obtain ⟨m2, rfl⟩ : ∃ m2, m = m2 + 1 := ⟨m - 1, by omega⟩
                exact wz_k1 ⟨m2, by omega, (x8 + 1), (x9 + 1), (zconso (zvo (rfl : i3 x0 = i3 x0)) (zconso (zvo (rfl : i3 x1 = i3 x1)) (zconso (zvo (rfl : i3 x2 = i3 x2)) (zconso (zvo (rfl : i3 x3 = i3 x3)) (zconso (zvo (rfl : i3 x4 = i3 x4)) (zconso (zvo (rfl : i3 x5 = i3 x5)) (zconso (zvo (rfl : i3 x6 = i3 x6)) (zconso (zvo (rfl : i3 x7 = i3 x7)) (zconso (zvo (i3A (rfl : i3 x8 = i3 x8) (show (1 : Int32) = i3 1 from rfl))) (zconso (zvo (i3A (rfl : i3 x9 = i3 x9) (show (1 : Int32) = i3 1 from rfl))) (zconso rfl rfl))))))))))), rfl,  by omega, by omega, by omega, by omega, by omega,  hP⟩
    · replace hP := zE_n hP h2
      refine wz_i0 (i3N0 (rfl : i3 x5 = i3 x5) (by omega) (by omega) (by omega)) ?_
      refine wz_br (i3E (rfl : i3 x9 = i3 x9) (rfl : i3 x4 = i3 x4) (by omega) (by omega) (by omega) (by omega)) (fun h19 => ?_) (fun h19 => ?_)
      · replace hP := zE_p hP h19
        obtain ⟨m2, rfl⟩ : ∃ m2, m = m2 + 1 := ⟨m - 1, by omega⟩
        exact wz_k1 ⟨m2, by omega, (x8 + 0), (x9 + 1), (zconso (zvo (rfl : i3 x0 = i3 x0)) (zconso (zvo (rfl : i3 x1 = i3 x1)) (zconso (zvo (rfl : i3 x2 = i3 x2)) (zconso (zvo (rfl : i3 x3 = i3 x3)) (zconso (zvo (rfl : i3 x4 = i3 x4)) (zconso (zvo (rfl : i3 x5 = i3 x5)) (zconso (zvo (rfl : i3 x6 = i3 x6)) (zconso (zvo (rfl : i3 x7 = i3 x7)) (zconso (zvo (i3A (rfl : i3 x8 = i3 x8) (show (0 : Int32) = i3 0 from rfl))) (zconso (zvo (i3A (rfl : i3 x9 = i3 x9) (show (1 : Int32) = i3 1 from rfl))) (zconso rfl rfl))))))))))), rfl,  by omega, by omega, by omega, by omega, by omega,  hP⟩
      · replace hP := zE_n hP h19
        refine wz_i0 (i3N0 (rfl : i3 x5 = i3 x5) (by omega) (by omega) (by omega)) ?_
        have r20 := w3_r (x0 * x7)
        have r21 := z2_r (fun x y => x - x / y * y) (w3 (x0 * x7)) x5
        have r22 := w3_r (x0 * x1)
        have r23 := z2_r (fun x y => x - x / y * y) (w3 (x0 * x1)) x5
        refine wz_br (i3L (i3Z (fun x y => x - x / y * y) (i3W (i3M (rfl : i3 x0 = i3 x0) (rfl : i3 x7 = i3 x7))) (rfl : i3 x5 = i3 x5)) (i3Z (fun x y => x - x / y * y) (i3W (i3M (rfl : i3 x0 = i3 x0) (rfl : i3 x1 = i3 x1))) (rfl : i3 x5 = i3 x5)) (by omega) (by omega) (by omega) (by omega)) (fun h24 => ?_) (fun h24 => ?_)
        · replace hP := zE_p hP h24
          obtain ⟨m2, rfl⟩ : ∃ m2, m = m2 + 1 := ⟨m - 1, by omega⟩
          exact wz_k1 ⟨m2, by omega, (x8 + 1), (x9 + 1), (zconso (zvo (rfl : i3 x0 = i3 x0)) (zconso (zvo (rfl : i3 x1 = i3 x1)) (zconso (zvo (rfl : i3 x2 = i3 x2)) (zconso (zvo (rfl : i3 x3 = i3 x3)) (zconso (zvo (rfl : i3 x4 = i3 x4)) (zconso (zvo (rfl : i3 x5 = i3 x5)) (zconso (zvo (rfl : i3 x6 = i3 x6)) (zconso (zvo (rfl : i3 x7 = i3 x7)) (zconso (zvo (i3A (rfl : i3 x8 = i3 x8) (show (1 : Int32) = i3 1 from rfl))) (zconso (zvo (i3A (rfl : i3 x9 = i3 x9) (show (1 : Int32) = i3 1 from rfl))) (zconso rfl rfl))))))))))), rfl,  by omega, by omega, by omega, by omega, by omega,  hP⟩
        · replace hP := zE_n hP h24
          refine wz_br (i3NE (i3Z (fun x y => x - x / y * y) (i3W (i3M (rfl : i3 x0 = i3 x0) (rfl : i3 x1 = i3 x1))) (rfl : i3 x5 = i3 x5)) (i3Z (fun x y => x - x / y * y) (i3W (i3M (rfl : i3 x0 = i3 x0) (rfl : i3 x7 = i3 x7))) (rfl : i3 x5 = i3 x5)) (by omega) (by omega) (by omega) (by omega)) (fun h25 => ?_) (fun h25 => ?_)
          · replace hP := zE_p hP h25
            obtain ⟨m2, rfl⟩ : ∃ m2, m = m2 + 1 := ⟨m - 1, by omega⟩
            exact wz_k1 ⟨m2, by omega, (x8 + 0), (x9 + 1), (zconso (zvo (rfl : i3 x0 = i3 x0)) (zconso (zvo (rfl : i3 x1 = i3 x1)) (zconso (zvo (rfl : i3 x2 = i3 x2)) (zconso (zvo (rfl : i3 x3 = i3 x3)) (zconso (zvo (rfl : i3 x4 = i3 x4)) (zconso (zvo (rfl : i3 x5 = i3 x5)) (zconso (zvo (rfl : i3 x6 = i3 x6)) (zconso (zvo (rfl : i3 x7 = i3 x7)) (zconso (zvo (i3A (rfl : i3 x8 = i3 x8) (show (0 : Int32) = i3 0 from rfl))) (zconso (zvo (i3A (rfl : i3 x9 = i3 x9) (show (1 : Int32) = i3 1 from rfl))) (zconso rfl rfl))))))))))), rfl,  by omega, by omega, by omega, by omega, by omega,  hP⟩
          · replace hP := zE_n hP h25
            refine wz_i0 (Eq.trans (i3Le (rfl : i3 x4 = i3 x4) (rfl : i3 x9 = i3 x9) (by omega) (by omega) (by omega) (by omega)) (decide_eq_false (by omega))) ?_
            obtain ⟨m2, rfl⟩ : ∃ m2, m = m2 + 1 := ⟨m - 1, by omega⟩
            exact wz_k1 ⟨m2, by omega, (x8 + 1), (x9 + 1), (zconso (zvo (rfl : i3 x0 = i3 x0)) (zconso (zvo (rfl : i3 x1 = i3 x1)) (zconso (zvo (rfl : i3 x2 = i3 x2)) (zconso (zvo (rfl : i3 x3 = i3 x3)) (zconso (zvo (rfl : i3 x4 = i3 x4)) (zconso (zvo (rfl : i3 x5 = i3 x5)) (zconso (zvo (rfl : i3 x6 = i3 x6)) (zconso (zvo (rfl : i3 x7 = i3 x7)) (zconso (zvo (i3A (rfl : i3 x8 = i3 x8) (show (1 : Int32) = i3 1 from rfl))) (zconso (zvo (i3A (rfl : i3 x9 = i3 x9) (show (1 : Int32) = i3 1 from rfl))) (zconso rfl rfl))))))))))), rfl,  by omega, by omega, by omega, by omega, by omega,  hP⟩
/- yX12_kShare -/
def zf_418 (Z : qz_Z) (a0 : Int) (a1 : Int) (a2 : Int) (a3 : Int) (a4 : Int) : Int := (if a4 ≠ 0 then (if a4 ≠ 1 then (zlet2 (zl_418_1 a0 a1 a2 a3 a4 ((a1 + a2) + a3) (w3 ((w3 ((w3 (a0 - (z2 (fun x y => x / y) (w3 (a0 * a1)) ((a1 + a2) + a3)))) - (z2 (fun x y => x / y) (w3 (a0 * a2)) ((a1 + a2) + a3)))) - (z2 (fun x y => x / y) (w3 (a0 * a3)) ((a1 + a2) + a3)))) a3 4 Z 0 0) (fun y12 y13 => (if (w3 ((w3 ((w3 (a0 - (z2 (fun x y => x / y) (w3 (a0 * a1)) ((a1 + a2) + a3)))) - (z2 (fun x y => x / y) (w3 (a0 * a2)) ((a1 + a2) + a3)))) - (z2 (fun x y => x / y) (w3 (a0 * a3)) ((a1 + a2) + a3)))) ≤ y12 then ((z2 (fun x y => x / y) (w3 (a0 * a3)) ((a1 + a2) + a3)) + 0) else (w3 ((z2 (fun x y => x / y) (w3 (a0 * a3)) ((a1 + a2) + a3)) + 1))))) else (zlet2 (zl_418_1 a0 a1 a2 a3 a4 ((a1 + a2) + a3) (w3 ((w3 ((w3 (a0 - (z2 (fun x y => x / y) (w3 (a0 * a1)) ((a1 + a2) + a3)))) - (z2 (fun x y => x / y) (w3 (a0 * a2)) ((a1 + a2) + a3)))) - (z2 (fun x y => x / y) (w3 (a0 * a3)) ((a1 + a2) + a3)))) a2 4 Z 0 0) (fun y26 y27 => (if (w3 ((w3 ((w3 (a0 - (z2 (fun x y => x / y) (w3 (a0 * a1)) ((a1 + a2) + a3)))) - (z2 (fun x y => x / y) (w3 (a0 * a2)) ((a1 + a2) + a3)))) - (z2 (fun x y => x / y) (w3 (a0 * a3)) ((a1 + a2) + a3)))) ≤ y26 then ((z2 (fun x y => x / y) (w3 (a0 * a2)) ((a1 + a2) + a3)) + 0) else (w3 ((z2 (fun x y => x / y) (w3 (a0 * a2)) ((a1 + a2) + a3)) + 1)))))) else (zlet2 (zl_418_1 a0 a1 a2 a3 a4 ((a1 + a2) + a3) (w3 ((w3 ((w3 (a0 - (z2 (fun x y => x / y) (w3 (a0 * a1)) ((a1 + a2) + a3)))) - (z2 (fun x y => x / y) (w3 (a0 * a2)) ((a1 + a2) + a3)))) - (z2 (fun x y => x / y) (w3 (a0 * a3)) ((a1 + a2) + a3)))) a1 4 Z 0 0) (fun y40 y41 => (if (w3 ((w3 ((w3 (a0 - (z2 (fun x y => x / y) (w3 (a0 * a1)) ((a1 + a2) + a3)))) - (z2 (fun x y => x / y) (w3 (a0 * a2)) ((a1 + a2) + a3)))) - (z2 (fun x y => x / y) (w3 (a0 * a3)) ((a1 + a2) + a3)))) ≤ y40 then ((z2 (fun x y => x / y) (w3 (a0 * a1)) ((a1 + a2) + a3)) + 0) else (w3 ((z2 (fun x y => x / y) (w3 (a0 * a1)) ((a1 + a2) + a3)) + 1))))))
theorem sp_418 {s : zSM} {Z : qz_Z} {ν : qz_N} (hZ : zM s Z) {a0 : Int} (ga0 : 0 ≤ a0 ∧ a0 ≤ 15998400) {a1 : Int} (ga1 : -2001 ≤ a1 ∧ a1 ≤ 2001) {a2 : Int} (ga2 : -2001 ≤ a2 ∧ a2 ≤ 2001) {a3 : Int} (ga3 : -2001 ≤ a3 ∧ a3 ≤ 2001) {a4 : Int} (ga4 : 0 ≤ a4 ∧ a4 ≤ 2) (gx0 : a1 + a2 + a3 ≠ 0) (hM : s.2 + 0 ≤ 1000000000) : ∃ P : Int, P = zf_418 Z a0 a1 a2 a3 a4 ∧ (qf_418 [.inl (i3 a0), .inl (i3 a1), .inl (i3 a2), .inl (i3 a3), .inl (i3 a4)] (zm Z ν) = some (zm Z ν, .inl (some (.inl (i3 P)))) ∧ -2147483648 ≤ P ∧ P ≤ 2147483647) := by
  obtain ⟨P, hP⟩ := zx (zf_418 Z a0 a1 a2 a3 a4)
  refine zc_R (Q := fun P => -2147483648 ≤ P ∧ P ≤ 2147483647) hP (fw_418 (i3 a0) (i3 a1) (i3 a2) (i3 a3) (i3 a4) _ _ ?_)
  replace hP : zE P (zf_418 Z a0 a1 a2 a3 a4) := hP
  unfold zf_418 at hP
  refine wz_i0 (i3N0 (i3A (i3A (rfl : i3 a1 = i3 a1) (rfl : i3 a2 = i3 a2)) (rfl : i3 a3 = i3 a3)) (by omega) (by omega) (by omega)) ?_
  refine wz_i0 (i3N0 (i3A (i3A (rfl : i3 a1 = i3 a1) (rfl : i3 a2 = i3 a2)) (rfl : i3 a3 = i3 a3)) (by omega) (by omega) (by omega)) ?_
  refine wz_i0 (i3N0 (i3A (i3A (rfl : i3 a1 = i3 a1) (rfl : i3 a2 = i3 a2)) (rfl : i3 a3 = i3 a3)) (by omega) (by omega) (by omega)) ?_
  refine wz_br (i3NE (rfl : i3 a4 = i3 a4) (show (0 : Int32) = i3 0 from rfl) (by omega) (by omega) (by omega) (by omega)) (fun h1 => ?_) (fun h1 => ?_)
  · replace hP := zE_p hP h1
    refine wz_br (i3NE (rfl : i3 a4 = i3 a4) (show (1 : Int32) = i3 1 from rfl) (by omega) (by omega) (by omega) (by omega)) (fun h2 => ?_) (fun h2 => ?_)
    · replace hP := zE_p hP h2
      have r3 := w3_r (a0 * a1)
      have r4 := z2_r (fun x y => x / y) (w3 (a0 * a1)) ((a1 + a2) + a3)
      have r5 := w3_r (a0 - (z2 (fun x y => x / y) (w3 (a0 * a1)) ((a1 + a2) + a3)))
      have r6 := w3_r (a0 * a2)
      have r7 := z2_r (fun x y => x / y) (w3 (a0 * a2)) ((a1 + a2) + a3)
      have r8 := w3_r ((w3 (a0 - (z2 (fun x y => x / y) (w3 (a0 * a1)) ((a1 + a2) + a3)))) - (z2 (fun x y => x / y) (w3 (a0 * a2)) ((a1 + a2) + a3)))
      have r9 := w3_r (a0 * a3)
      have r10 := z2_r (fun x y => x / y) (w3 (a0 * a3)) ((a1 + a2) + a3)
      have r11 := w3_r ((w3 ((w3 (a0 - (z2 (fun x y => x / y) (w3 (a0 * a1)) ((a1 + a2) + a3)))) - (z2 (fun x y => x / y) (w3 (a0 * a2)) ((a1 + a2) + a3)))) - (z2 (fun x y => x / y) (w3 (a0 * a3)) ((a1 + a2) + a3)))
      refine sl_418_1 (ν := ν) hZ (zbh (c := 0) (k := 0) hM (Nat.le_of_ble_eq_true rfl)) (x0 := a0) (by omega) (x1 := a1) (by omega) (x2 := a2) (by omega) (x3 := a3) (by omega) (x4 := a4) (by omega) (x5 := ((a1 + a2) + a3)) (by omega) (x6 := (w3 ((w3 ((w3 (a0 - (z2 (fun x y => x / y) (w3 (a0 * a1)) ((a1 + a2) + a3)))) - (z2 (fun x y => x / y) (w3 (a0 * a2)) ((a1 + a2) + a3)))) - (z2 (fun x y => x / y) (w3 (a0 * a3)) ((a1 + a2) + a3))))) (by omega) (x7 := a3) (by omega) (x8 := 0) (by omega) (x9 := 0) (by omega) (by omega) (by omega) (zconso (zvo (rfl : i3 a0 = i3 a0)) (zconso (zvo (rfl : i3 a1 = i3 a1)) (zconso (zvo (rfl : i3 a2 = i3 a2)) (zconso (zvo (rfl : i3 a3 = i3 a3)) (zconso (zvo (rfl : i3 a4 = i3 a4)) (zconso (zvo (i3A (i3A (rfl : i3 a1 = i3 a1) (rfl : i3 a2 = i3 a2)) (rfl : i3 a3 = i3 a3))) (zconso (zvo (i3W (i3S (i3W (i3S (i3W (i3S (rfl : i3 a0 = i3 a0) (i3Z (fun x y => x / y) (i3W (i3M (rfl : i3 a0 = i3 a0) (rfl : i3 a1 = i3 a1))) (i3A (i3A (rfl : i3 a1 = i3 a1) (rfl : i3 a2 = i3 a2)) (rfl : i3 a3 = i3 a3))))) (i3Z (fun x y => x / y) (i3W (i3M (rfl : i3 a0 = i3 a0) (rfl : i3 a2 = i3 a2))) (i3A (i3A (rfl : i3 a1 = i3 a1) (rfl : i3 a2 = i3 a2)) (rfl : i3 a3 = i3 a3))))) (i3Z (fun x y => x / y) (i3W (i3M (rfl : i3 a0 = i3 a0) (rfl : i3 a3 = i3 a3))) (i3A (i3A (rfl : i3 a1 = i3 a1) (rfl : i3 a2 = i3 a2)) (rfl : i3 a3 = i3 a3)))))) (zconso (zvo (rfl : i3 a3 = i3 a3)) (zconso (zvo (show (0 : Int32) = i3 0 from rfl)) (zconso (zvo (show (0 : Int32) = i3 0 from rfl)) (zconso rfl rfl))))))))))) rfl ?_
      intro L14 y12 y13 hL14 gy12 gy13 gL14_0 gL14_1 q9
      replace hP := zl_e2 hP (Eq.symm q9)
      clear q9
      refine fc_418_2 (i3 a0) (i3 ((a1 + a2) + a3)) (i3 (w3 ((w3 ((w3 (a0 - (z2 (fun x y => x / y) (w3 (a0 * a1)) ((a1 + a2) + a3)))) - (z2 (fun x y => x / y) (w3 (a0 * a2)) ((a1 + a2) + a3)))) - (z2 (fun x y => x / y) (w3 (a0 * a3)) ((a1 + a2) + a3))))) (i3 a3) (i3 y12) _ _ _ _ hL14 ?_
      refine wz_i0 (i3N0 (rfl : i3 ((a1 + a2) + a3) = i3 ((a1 + a2) + a3)) (by omega) (by omega) (by omega)) ?_
      refine wz_br (i3Le (rfl : i3 (w3 ((w3 ((w3 (a0 - (z2 (fun x y => x / y) (w3 (a0 * a1)) ((a1 + a2) + a3)))) - (z2 (fun x y => x / y) (w3 (a0 * a2)) ((a1 + a2) + a3)))) - (z2 (fun x y => x / y) (w3 (a0 * a3)) ((a1 + a2) + a3)))) = i3 (w3 ((w3 ((w3 (a0 - (z2 (fun x y => x / y) (w3 (a0 * a1)) ((a1 + a2) + a3)))) - (z2 (fun x y => x / y) (w3 (a0 * a2)) ((a1 + a2) + a3)))) - (z2 (fun x y => x / y) (w3 (a0 * a3)) ((a1 + a2) + a3))))) (rfl : i3 y12 = i3 y12) (by omega) (by omega) (by omega) (by omega)) (fun h15 => ?_) (fun h15 => ?_)
      · replace hP := zE_p hP h15
        exact zlR hP (i3A (i3Z (fun x y => x / y) (i3W (i3M (rfl : i3 a0 = i3 a0) (rfl : i3 a3 = i3 a3))) (rfl : i3 ((a1 + a2) + a3) = i3 ((a1 + a2) + a3))) (show (0 : Int32) = i3 0 from rfl)) ⟨by omega, by omega⟩
      · replace hP := zE_n hP h15
        have r16 := w3_r ((z2 (fun x y => x / y) (w3 (a0 * a3)) ((a1 + a2) + a3)) + 1)
        exact zlR hP (i3W (i3A (i3Z (fun x y => x / y) (i3W (i3M (rfl : i3 a0 = i3 a0) (rfl : i3 a3 = i3 a3))) (rfl : i3 ((a1 + a2) + a3) = i3 ((a1 + a2) + a3))) (show (1 : Int32) = i3 1 from rfl))) ⟨by omega, by omega⟩
    · replace hP := zE_n hP h2
      have r17 := w3_r (a0 * a1)
      have r18 := z2_r (fun x y => x / y) (w3 (a0 * a1)) ((a1 + a2) + a3)
      have r19 := w3_r (a0 - (z2 (fun x y => x / y) (w3 (a0 * a1)) ((a1 + a2) + a3)))
      have r20 := w3_r (a0 * a2)
      have r21 := z2_r (fun x y => x / y) (w3 (a0 * a2)) ((a1 + a2) + a3)
      have r22 := w3_r ((w3 (a0 - (z2 (fun x y => x / y) (w3 (a0 * a1)) ((a1 + a2) + a3)))) - (z2 (fun x y => x / y) (w3 (a0 * a2)) ((a1 + a2) + a3)))
      have r23 := w3_r (a0 * a3)
      have r24 := z2_r (fun x y => x / y) (w3 (a0 * a3)) ((a1 + a2) + a3)
      have r25 := w3_r ((w3 ((w3 (a0 - (z2 (fun x y => x / y) (w3 (a0 * a1)) ((a1 + a2) + a3)))) - (z2 (fun x y => x / y) (w3 (a0 * a2)) ((a1 + a2) + a3)))) - (z2 (fun x y => x / y) (w3 (a0 * a3)) ((a1 + a2) + a3)))
      refine sl_418_1 (ν := ν) hZ (zbh (c := 0) (k := 0) hM (Nat.le_of_ble_eq_true rfl)) (x0 := a0) (by omega) (x1 := a1) (by omega) (x2 := a2) (by omega) (x3 := a3) (by omega) (x4 := a4) (by omega) (x5 := ((a1 + a2) + a3)) (by omega) (x6 := (w3 ((w3 ((w3 (a0 - (z2 (fun x y => x / y) (w3 (a0 * a1)) ((a1 + a2) + a3)))) - (z2 (fun x y => x / y) (w3 (a0 * a2)) ((a1 + a2) + a3)))) - (z2 (fun x y => x / y) (w3 (a0 * a3)) ((a1 + a2) + a3))))) (by omega) (x7 := a2) (by omega) (x8 := 0) (by omega) (x9 := 0) (by omega) (by omega) (by omega) (zconso (zvo (rfl : i3 a0 = i3 a0)) (zconso (zvo (rfl : i3 a1 = i3 a1)) (zconso (zvo (rfl : i3 a2 = i3 a2)) (zconso (zvo (rfl : i3 a3 = i3 a3)) (zconso (zvo (rfl : i3 a4 = i3 a4)) (zconso (zvo (i3A (i3A (rfl : i3 a1 = i3 a1) (rfl : i3 a2 = i3 a2)) (rfl : i3 a3 = i3 a3))) (zconso (zvo (i3W (i3S (i3W (i3S (i3W (i3S (rfl : i3 a0 = i3 a0) (i3Z (fun x y => x / y) (i3W (i3M (rfl : i3 a0 = i3 a0) (rfl : i3 a1 = i3 a1))) (i3A (i3A (rfl : i3 a1 = i3 a1) (rfl : i3 a2 = i3 a2)) (rfl : i3 a3 = i3 a3))))) (i3Z (fun x y => x / y) (i3W (i3M (rfl : i3 a0 = i3 a0) (rfl : i3 a2 = i3 a2))) (i3A (i3A (rfl : i3 a1 = i3 a1) (rfl : i3 a2 = i3 a2)) (rfl : i3 a3 = i3 a3))))) (i3Z (fun x y => x / y) (i3W (i3M (rfl : i3 a0 = i3 a0) (rfl : i3 a3 = i3 a3))) (i3A (i3A (rfl : i3 a1 = i3 a1) (rfl : i3 a2 = i3 a2)) (rfl : i3 a3 = i3 a3)))))) (zconso (zvo (rfl : i3 a2 = i3 a2)) (zconso (zvo (show (0 : Int32) = i3 0 from rfl)) (zconso (zvo (show (0 : Int32) = i3 0 from rfl)) (zconso rfl rfl))))))))))) rfl ?_
      intro L28 y26 y27 hL28 gy26 gy27 gL28_0 gL28_1 q9
      replace hP := zl_e2 hP (Eq.symm q9)
      clear q9
      refine fc_418_2 (i3 a0) (i3 ((a1 + a2) + a3)) (i3 (w3 ((w3 ((w3 (a0 - (z2 (fun x y => x / y) (w3 (a0 * a1)) ((a1 + a2) + a3)))) - (z2 (fun x y => x / y) (w3 (a0 * a2)) ((a1 + a2) + a3)))) - (z2 (fun x y => x / y) (w3 (a0 * a3)) ((a1 + a2) + a3))))) (i3 a2) (i3 y26) _ _ _ _ hL28 ?_
      refine wz_i0 (i3N0 (rfl : i3 ((a1 + a2) + a3) = i3 ((a1 + a2) + a3)) (by omega) (by omega) (by omega)) ?_
      refine wz_br (i3Le (rfl : i3 (w3 ((w3 ((w3 (a0 - (z2 (fun x y => x / y) (w3 (a0 * a1)) ((a1 + a2) + a3)))) - (z2 (fun x y => x / y) (w3 (a0 * a2)) ((a1 + a2) + a3)))) - (z2 (fun x y => x / y) (w3 (a0 * a3)) ((a1 + a2) + a3)))) = i3 (w3 ((w3 ((w3 (a0 - (z2 (fun x y => x / y) (w3 (a0 * a1)) ((a1 + a2) + a3)))) - (z2 (fun x y => x / y) (w3 (a0 * a2)) ((a1 + a2) + a3)))) - (z2 (fun x y => x / y) (w3 (a0 * a3)) ((a1 + a2) + a3))))) (rfl : i3 y26 = i3 y26) (by omega) (by omega) (by omega) (by omega)) (fun h29 => ?_) (fun h29 => ?_)
      · replace hP := zE_p hP h29
        exact zlR hP (i3A (i3Z (fun x y => x / y) (i3W (i3M (rfl : i3 a0 = i3 a0) (rfl : i3 a2 = i3 a2))) (rfl : i3 ((a1 + a2) + a3) = i3 ((a1 + a2) + a3))) (show (0 : Int32) = i3 0 from rfl)) ⟨by omega, by omega⟩
      · replace hP := zE_n hP h29
        have r30 := w3_r ((z2 (fun x y => x / y) (w3 (a0 * a2)) ((a1 + a2) + a3)) + 1)
        exact zlR hP (i3W (i3A (i3Z (fun x y => x / y) (i3W (i3M (rfl : i3 a0 = i3 a0) (rfl : i3 a2 = i3 a2))) (rfl : i3 ((a1 + a2) + a3) = i3 ((a1 + a2) + a3))) (show (1 : Int32) = i3 1 from rfl))) ⟨by omega, by omega⟩
  · replace hP := zE_n hP h1
    have r31 := w3_r (a0 * a1)
    have r32 := z2_r (fun x y => x / y) (w3 (a0 * a1)) ((a1 + a2) + a3)
    have r33 := w3_r (a0 - (z2 (fun x y => x / y) (w3 (a0 * a1)) ((a1 + a2) + a3)))
    have r34 := w3_r (a0 * a2)
    have r35 := z2_r (fun x y => x / y) (w3 (a0 * a2)) ((a1 + a2) + a3)
    have r36 := w3_r ((w3 (a0 - (z2 (fun x y => x / y) (w3 (a0 * a1)) ((a1 + a2) + a3)))) - (z2 (fun x y => x / y) (w3 (a0 * a2)) ((a1 + a2) + a3)))
    have r37 := w3_r (a0 * a3)
    have r38 := z2_r (fun x y => x / y) (w3 (a0 * a3)) ((a1 + a2) + a3)
    have r39 := w3_r ((w3 ((w3 (a0 - (z2 (fun x y => x / y) (w3 (a0 * a1)) ((a1 + a2) + a3)))) - (z2 (fun x y => x / y) (w3 (a0 * a2)) ((a1 + a2) + a3)))) - (z2 (fun x y => x / y) (w3 (a0 * a3)) ((a1 + a2) + a3)))
    refine sl_418_1 (ν := ν) hZ (zbh (c := 0) (k := 0) hM (Nat.le_of_ble_eq_true rfl)) (x0 := a0) (by omega) (x1 := a1) (by omega) (x2 := a2) (by omega) (x3 := a3) (by omega) (x4 := a4) (by omega) (x5 := ((a1 + a2) + a3)) (by omega) (x6 := (w3 ((w3 ((w3 (a0 - (z2 (fun x y => x / y) (w3 (a0 * a1)) ((a1 + a2) + a3)))) - (z2 (fun x y => x / y) (w3 (a0 * a2)) ((a1 + a2) + a3)))) - (z2 (fun x y => x / y) (w3 (a0 * a3)) ((a1 + a2) + a3))))) (by omega) (x7 := a1) (by omega) (x8 := 0) (by omega) (x9 := 0) (by omega) (by omega) (by omega) (zconso (zvo (rfl : i3 a0 = i3 a0)) (zconso (zvo (rfl : i3 a1 = i3 a1)) (zconso (zvo (rfl : i3 a2 = i3 a2)) (zconso (zvo (rfl : i3 a3 = i3 a3)) (zconso (zvo (rfl : i3 a4 = i3 a4)) (zconso (zvo (i3A (i3A (rfl : i3 a1 = i3 a1) (rfl : i3 a2 = i3 a2)) (rfl : i3 a3 = i3 a3))) (zconso (zvo (i3W (i3S (i3W (i3S (i3W (i3S (rfl : i3 a0 = i3 a0) (i3Z (fun x y => x / y) (i3W (i3M (rfl : i3 a0 = i3 a0) (rfl : i3 a1 = i3 a1))) (i3A (i3A (rfl : i3 a1 = i3 a1) (rfl : i3 a2 = i3 a2)) (rfl : i3 a3 = i3 a3))))) (i3Z (fun x y => x / y) (i3W (i3M (rfl : i3 a0 = i3 a0) (rfl : i3 a2 = i3 a2))) (i3A (i3A (rfl : i3 a1 = i3 a1) (rfl : i3 a2 = i3 a2)) (rfl : i3 a3 = i3 a3))))) (i3Z (fun x y => x / y) (i3W (i3M (rfl : i3 a0 = i3 a0) (rfl : i3 a3 = i3 a3))) (i3A (i3A (rfl : i3 a1 = i3 a1) (rfl : i3 a2 = i3 a2)) (rfl : i3 a3 = i3 a3)))))) (zconso (zvo (rfl : i3 a1 = i3 a1)) (zconso (zvo (show (0 : Int32) = i3 0 from rfl)) (zconso (zvo (show (0 : Int32) = i3 0 from rfl)) (zconso rfl rfl))))))))))) rfl ?_
    intro L42 y40 y41 hL42 gy40 gy41 gL42_0 gL42_1 q9
    replace hP := zl_e2 hP (Eq.symm q9)
    clear q9
    refine fc_418_2 (i3 a0) (i3 ((a1 + a2) + a3)) (i3 (w3 ((w3 ((w3 (a0 - (z2 (fun x y => x / y) (w3 (a0 * a1)) ((a1 + a2) + a3)))) - (z2 (fun x y => x / y) (w3 (a0 * a2)) ((a1 + a2) + a3)))) - (z2 (fun x y => x / y) (w3 (a0 * a3)) ((a1 + a2) + a3))))) (i3 a1) (i3 y40) _ _ _ _ hL42 ?_
    refine wz_i0 (i3N0 (rfl : i3 ((a1 + a2) + a3) = i3 ((a1 + a2) + a3)) (by omega) (by omega) (by omega)) ?_
    refine wz_br (i3Le (rfl : i3 (w3 ((w3 ((w3 (a0 - (z2 (fun x y => x / y) (w3 (a0 * a1)) ((a1 + a2) + a3)))) - (z2 (fun x y => x / y) (w3 (a0 * a2)) ((a1 + a2) + a3)))) - (z2 (fun x y => x / y) (w3 (a0 * a3)) ((a1 + a2) + a3)))) = i3 (w3 ((w3 ((w3 (a0 - (z2 (fun x y => x / y) (w3 (a0 * a1)) ((a1 + a2) + a3)))) - (z2 (fun x y => x / y) (w3 (a0 * a2)) ((a1 + a2) + a3)))) - (z2 (fun x y => x / y) (w3 (a0 * a3)) ((a1 + a2) + a3))))) (rfl : i3 y40 = i3 y40) (by omega) (by omega) (by omega) (by omega)) (fun h43 => ?_) (fun h43 => ?_)
    · replace hP := zE_p hP h43
      exact zlR hP (i3A (i3Z (fun x y => x / y) (i3W (i3M (rfl : i3 a0 = i3 a0) (rfl : i3 a1 = i3 a1))) (rfl : i3 ((a1 + a2) + a3) = i3 ((a1 + a2) + a3))) (show (0 : Int32) = i3 0 from rfl)) ⟨by omega, by omega⟩
    · replace hP := zE_n hP h43
      have r44 := w3_r ((z2 (fun x y => x / y) (w3 (a0 * a1)) ((a1 + a2) + a3)) + 1)
      exact zlR hP (i3W (i3A (i3Z (fun x y => x / y) (i3W (i3M (rfl : i3 a0 = i3 a0) (rfl : i3 a1 = i3 a1))) (rfl : i3 ((a1 + a2) + a3) = i3 ((a1 + a2) + a3))) (show (1 : Int32) = i3 1 from rfl))) ⟨by omega, by omega⟩
/- yX12_kRipened -/
def zf_416 (Z : qz_Z) (a1 : Int) (a2 : Int) : Int := (zlet (zf_421 Z a1) (fun v4 => (if v4 ≠ 0 then (if a2 ≠ 0 then (if a2 ≠ 1 then ((Z 2 0 0 (2021 + 16 * a1)) - (Z 2 0 0 (2024 + 16 * a1))) else ((Z 2 0 0 (2024 + 16 * a1)) - (Z 2 0 0 (2018 + 16 * a1)))) else (if (Z 2 0 0 (2018 + 16 * a1)) ≤ (Z 2 0 0 (113 + 5 * (Z 2 0 0 (201 + 20 * (Z 2 0 0 (2010 + 16 * a1)))))) then 0 else ((Z 2 0 0 (2018 + 16 * a1)) - (Z 2 0 0 (113 + 5 * (Z 2 0 0 (201 + 20 * (Z 2 0 0 (2010 + 16 * a1))))))))) else (if a2 ≠ 0 then 0 else 1))))
theorem sp_416 {s : zSM} {Z : qz_Z} {ν : qz_N} (hZ : zM s Z) {a1 : Int} (ga1 : 0 ≤ a1 ∧ a1 ≤ 59) {a2 : Int} (ga2 : 0 ≤ a2 ∧ a2 ≤ 2) (gx0 : Z 2 0 0 (2018 + 16 * a1) ≤ Z 2 0 0 (2024 + 16 * a1)) (gx1 : Z 2 0 0 (2024 + 16 * a1) ≤ Z 2 0 0 (2021 + 16 * a1)) (hM : s.2 + 0 ≤ 1000000000) : ∃ P : Int, P = zf_416 Z a1 a2 ∧ (qf_416 [.inr (.inr (some (1, 0, 0))), .inl (i3 a1), .inl (i3 a2)] (zm Z ν) = some (zm Z ν, .inl (some (.inl (i3 P)))) ∧ -2001 ≤ P ∧ P ≤ 2001 ∧ 0 ≤ P) := by
  obtain ⟨P, hP⟩ := zx (zf_416 Z a1 a2)
  refine zc_R (Q := fun P => -2001 ≤ P ∧ P ≤ 2001 ∧ 0 ≤ P) hP (fw_416 (i3 a1) (i3 a2) _ _ ?_)
  replace hP : zE P (zf_416 Z a1 a2) := hP
  unfold zf_416 at hP
  have r1 := zM_k hZ 2 0 0 (2018 + 16 * a1) (lo := 0) (hi := 2000) (by decide) (zs_2010_8 (x := a1) (by omega) (by omega) (by omega))
  have r2 := zM_k hZ 2 0 0 (2024 + 16 * a1) (lo := -1) (hi := 2000) (by decide) (zs_2010_14 (x := a1) (by omega) (by omega) (by omega))
  have r3 := zM_k hZ 2 0 0 (2021 + 16 * a1) (lo := 0) (hi := 2000) (by decide) (zs_2010_11 (x := a1) (by omega) (by omega) (by omega))
  obtain ⟨v4, hv4, c9, lv4, uv4⟩ := sp_421 (ν := ν) hZ (a1 := a1) (by omega) (zbh (c := 0) (k := 0) hM (Nat.le_of_ble_eq_true rfl))
  replace hP := zl_e hP hv4
  refine wz_cI_of (zas (zcons rfl (zcons (zvi (rfl : i3 a1 = i3 a1)) rfl)) c9) ?_
  clear c9
  refine wz_br (i3NE (rfl : i3 v4 = i3 v4) (show (0 : Int32) = i3 0 from rfl) (by omega) (by omega) (by omega) (by omega)) (fun h5 => ?_) (fun h5 => ?_)
  · replace hP := zE_p hP h5
    refine wz_i0 (i3O (n := 4400) (i3A (i3A (show (2010 : Int32) = i3 2010 from rfl) (i3M (show (16 : Int32) = i3 16 from rfl) (rfl : i3 a1 = i3 a1))) (show (8 : Int32) = i3 8 from rfl)) (by omega) (by omega) (by omega)) ?_
    refine wz_i0 (i3O (n := 4400) (i3A (i3A (show (2010 : Int32) = i3 2010 from rfl) (i3M (show (16 : Int32) = i3 16 from rfl) (rfl : i3 a1 = i3 a1))) (show (0 : Int32) = i3 0 from rfl)) (by omega) (by omega) (by omega)) ?_
    have r6 := zM_k hZ 2 0 0 (2010 + 16 * a1) (lo := 0) (hi := 47) (by decide) (zs_2010_0 (x := a1) (by omega) (by omega) (by omega))
    refine wz_i0 (i3O (n := 4400) (i3A (i3A (show (200 : Int32) = i3 200 from rfl) (i3M (show (20 : Int32) = i3 20 from rfl) (zm_rd (Z := Z) (ν := ν) (k := 2) (show ((0 : Nat) : Int) = 0 from rfl) (show ((0 : Nat) : Int) = 0 from rfl) (i3I (y := (2010 + 16 * a1)) (i3A (i3A (show (2010 : Int32) = i3 2010 from rfl) (i3M (show (16 : Int32) = i3 16 from rfl) (rfl : i3 a1 = i3 a1))) (show (0 : Int32) = i3 0 from rfl)) (by omega) (by omega) (by omega))))) (show (1 : Int32) = i3 1 from rfl)) (by omega) (by omega) (by omega)) ?_
    have r7 := zM_k hZ 2 0 0 (201 + 20 * (Z 2 0 0 (2010 + 16 * a1))) (lo := 0) (hi := 4) (by decide) (zs_200_1 (x := (Z 2 0 0 (2010 + 16 * a1))) (by omega) (by omega) (by omega))
    refine wz_i0 (i3O (n := 4400) (i3A (i3A (show (110 : Int32) = i3 110 from rfl) (i3M (show (5 : Int32) = i3 5 from rfl) (zm_rd (Z := Z) (ν := ν) (k := 2) (show ((0 : Nat) : Int) = 0 from rfl) (show ((0 : Nat) : Int) = 0 from rfl) (i3I (y := (201 + 20 * (Z 2 0 0 (2010 + 16 * a1)))) (i3A (i3A (show (200 : Int32) = i3 200 from rfl) (i3M (show (20 : Int32) = i3 20 from rfl) (zm_rd (Z := Z) (ν := ν) (k := 2) (show ((0 : Nat) : Int) = 0 from rfl) (show ((0 : Nat) : Int) = 0 from rfl) (i3I (y := (2010 + 16 * a1)) (i3A (i3A (show (2010 : Int32) = i3 2010 from rfl) (i3M (show (16 : Int32) = i3 16 from rfl) (rfl : i3 a1 = i3 a1))) (show (0 : Int32) = i3 0 from rfl)) (by omega) (by omega) (by omega))))) (show (1 : Int32) = i3 1 from rfl)) (by omega) (by omega) (by omega))))) (show (3 : Int32) = i3 3 from rfl)) (by omega) (by omega) (by omega)) ?_
    refine wz_i0 (i3O (n := 4400) (i3A (i3A (show (2010 : Int32) = i3 2010 from rfl) (i3M (show (16 : Int32) = i3 16 from rfl) (rfl : i3 a1 = i3 a1))) (show (14 : Int32) = i3 14 from rfl)) (by omega) (by omega) (by omega)) ?_
    refine wz_br (i3NE (rfl : i3 a2 = i3 a2) (show (0 : Int32) = i3 0 from rfl) (by omega) (by omega) (by omega) (by omega)) (fun h8 => ?_) (fun h8 => ?_)
    · replace hP := zE_p hP h8
      refine wz_br (i3NE (rfl : i3 a2 = i3 a2) (show (1 : Int32) = i3 1 from rfl) (by omega) (by omega) (by omega) (by omega)) (fun h9 => ?_) (fun h9 => ?_)
      · replace hP := zE_p hP h9
        refine wz_i0 (i3O (n := 4400) (i3A (i3A (show (2010 : Int32) = i3 2010 from rfl) (i3M (show (16 : Int32) = i3 16 from rfl) (rfl : i3 a1 = i3 a1))) (show (11 : Int32) = i3 11 from rfl)) (by omega) (by omega) (by omega)) ?_
        exact zlR hP (i3S (zm_rd (Z := Z) (ν := ν) (k := 2) (show ((0 : Nat) : Int) = 0 from rfl) (show ((0 : Nat) : Int) = 0 from rfl) (i3I (y := (2021 + 16 * a1)) (i3A (i3A (show (2010 : Int32) = i3 2010 from rfl) (i3M (show (16 : Int32) = i3 16 from rfl) (rfl : i3 a1 = i3 a1))) (show (11 : Int32) = i3 11 from rfl)) (by omega) (by omega) (by omega))) (zm_rd (Z := Z) (ν := ν) (k := 2) (show ((0 : Nat) : Int) = 0 from rfl) (show ((0 : Nat) : Int) = 0 from rfl) (i3I (y := (2024 + 16 * a1)) (i3A (i3A (show (2010 : Int32) = i3 2010 from rfl) (i3M (show (16 : Int32) = i3 16 from rfl) (rfl : i3 a1 = i3 a1))) (show (14 : Int32) = i3 14 from rfl)) (by omega) (by omega) (by omega)))) ⟨by omega, by omega, by omega⟩
      · replace hP := zE_n hP h9
        exact zlR hP (i3S (zm_rd (Z := Z) (ν := ν) (k := 2) (show ((0 : Nat) : Int) = 0 from rfl) (show ((0 : Nat) : Int) = 0 from rfl) (i3I (y := (2024 + 16 * a1)) (i3A (i3A (show (2010 : Int32) = i3 2010 from rfl) (i3M (show (16 : Int32) = i3 16 from rfl) (rfl : i3 a1 = i3 a1))) (show (14 : Int32) = i3 14 from rfl)) (by omega) (by omega) (by omega))) (zm_rd (Z := Z) (ν := ν) (k := 2) (show ((0 : Nat) : Int) = 0 from rfl) (show ((0 : Nat) : Int) = 0 from rfl) (i3I (y := (2018 + 16 * a1)) (i3A (i3A (show (2010 : Int32) = i3 2010 from rfl) (i3M (show (16 : Int32) = i3 16 from rfl) (rfl : i3 a1 = i3 a1))) (show (8 : Int32) = i3 8 from rfl)) (by omega) (by omega) (by omega)))) ⟨by omega, by omega, by omega⟩
    · replace hP := zE_n hP h8
      have r10 := zM_k hZ 2 0 0 (113 + 5 * (Z 2 0 0 (201 + 20 * (Z 2 0 0 (2010 + 16 * a1))))) (lo := 0) (hi := 600) (by decide) (zs_110_3 (x := (Z 2 0 0 (201 + 20 * (Z 2 0 0 (2010 + 16 * a1))))) (by omega) (by omega) (by omega))
      refine wz_br (i3Le (zm_rd (Z := Z) (ν := ν) (k := 2) (show ((0 : Nat) : Int) = 0 from rfl) (show ((0 : Nat) : Int) = 0 from rfl) (i3I (y := (2018 + 16 * a1)) (i3A (i3A (show (2010 : Int32) = i3 2010 from rfl) (i3M (show (16 : Int32) = i3 16 from rfl) (rfl : i3 a1 = i3 a1))) (show (8 : Int32) = i3 8 from rfl)) (by omega) (by omega) (by omega))) (zm_rd (Z := Z) (ν := ν) (k := 2) (show ((0 : Nat) : Int) = 0 from rfl) (show ((0 : Nat) : Int) = 0 from rfl) (i3I (y := (113 + 5 * (Z 2 0 0 (201 + 20 * (Z 2 0 0 (2010 + 16 * a1)))))) (i3A (i3A (show (110 : Int32) = i3 110 from rfl) (i3M (show (5 : Int32) = i3 5 from rfl) (zm_rd (Z := Z) (ν := ν) (k := 2) (show ((0 : Nat) : Int) = 0 from rfl) (show ((0 : Nat) : Int) = 0 from rfl) (i3I (y := (201 + 20 * (Z 2 0 0 (2010 + 16 * a1)))) (i3A (i3A (show (200 : Int32) = i3 200 from rfl) (i3M (show (20 : Int32) = i3 20 from rfl) (zm_rd (Z := Z) (ν := ν) (k := 2) (show ((0 : Nat) : Int) = 0 from rfl) (show ((0 : Nat) : Int) = 0 from rfl) (i3I (y := (2010 + 16 * a1)) (i3A (i3A (show (2010 : Int32) = i3 2010 from rfl) (i3M (show (16 : Int32) = i3 16 from rfl) (rfl : i3 a1 = i3 a1))) (show (0 : Int32) = i3 0 from rfl)) (by omega) (by omega) (by omega))))) (show (1 : Int32) = i3 1 from rfl)) (by omega) (by omega) (by omega))))) (show (3 : Int32) = i3 3 from rfl)) (by omega) (by omega) (by omega))) (by omega) (by omega) (by omega) (by omega)) (fun h11 => ?_) (fun h11 => ?_)
      · replace hP := zE_p hP h11
        exact zlR hP (show (0 : Int32) = i3 0 from rfl) ⟨by omega, by omega, by omega⟩
      · replace hP := zE_n hP h11
        exact zlR hP (i3S (zm_rd (Z := Z) (ν := ν) (k := 2) (show ((0 : Nat) : Int) = 0 from rfl) (show ((0 : Nat) : Int) = 0 from rfl) (i3I (y := (2018 + 16 * a1)) (i3A (i3A (show (2010 : Int32) = i3 2010 from rfl) (i3M (show (16 : Int32) = i3 16 from rfl) (rfl : i3 a1 = i3 a1))) (show (8 : Int32) = i3 8 from rfl)) (by omega) (by omega) (by omega))) (zm_rd (Z := Z) (ν := ν) (k := 2) (show ((0 : Nat) : Int) = 0 from rfl) (show ((0 : Nat) : Int) = 0 from rfl) (i3I (y := (113 + 5 * (Z 2 0 0 (201 + 20 * (Z 2 0 0 (2010 + 16 * a1)))))) (i3A (i3A (show (110 : Int32) = i3 110 from rfl) (i3M (show (5 : Int32) = i3 5 from rfl) (zm_rd (Z := Z) (ν := ν) (k := 2) (show ((0 : Nat) : Int) = 0 from rfl) (show ((0 : Nat) : Int) = 0 from rfl) (i3I (y := (201 + 20 * (Z 2 0 0 (2010 + 16 * a1)))) (i3A (i3A (show (200 : Int32) = i3 200 from rfl) (i3M (show (20 : Int32) = i3 20 from rfl) (zm_rd (Z := Z) (ν := ν) (k := 2) (show ((0 : Nat) : Int) = 0 from rfl) (show ((0 : Nat) : Int) = 0 from rfl) (i3I (y := (2010 + 16 * a1)) (i3A (i3A (show (2010 : Int32) = i3 2010 from rfl) (i3M (show (16 : Int32) = i3 16 from rfl) (rfl : i3 a1 = i3 a1))) (show (0 : Int32) = i3 0 from rfl)) (by omega) (by omega) (by omega))))) (show (1 : Int32) = i3 1 from rfl)) (by omega) (by omega) (by omega))))) (show (3 : Int32) = i3 3 from rfl)) (by omega) (by omega) (by omega)))) ⟨by omega, by omega, by omega⟩
  · replace hP := zE_n hP h5
    refine wz_br (i3NE (rfl : i3 a2 = i3 a2) (show (0 : Int32) = i3 0 from rfl) (by omega) (by omega) (by omega) (by omega)) (fun h12 => ?_) (fun h12 => ?_)
    · replace hP := zE_p hP h12
      exact zlR hP (show (0 : Int32) = i3 0 from rfl) ⟨by omega, by omega, by omega⟩
    · replace hP := zE_n hP h12
      exact zlR hP (show (1 : Int32) = i3 1 from rfl) ⟨by omega, by omega, by omega⟩
/- yX12_kWeight -/
def zf_423 (Z : qz_Z) (a1 : Int) (a2 : Int) (a3 : Int) : Int := (if a2 ≠ 0 then (if a2 ≠ 1 then (if a3 ≠ 0 then (if a2 ≠ 2 then (if a3 ≠ 1 then ((Z 2 0 0 (40 + a1)) - (Z 2 0 0 (2023 + 16 * a1))) else ((Z 2 0 0 (2023 + 16 * a1)) - (Z 2 0 0 (2016 + 16 * a1)))) else (if a3 ≠ 1 then ((Z 2 0 0 (2022 + 16 * a1)) - (Z 2 0 0 (2025 + 16 * a1))) else (Z 2 0 0 (2025 + 16 * a1)))) else 0) else (if a3 ≠ 0 then 0 else 1)) else (zlet (zf_416 Z a1 a3) (fun v16 => v16)))
theorem sp_423 {s : zSM} {Z : qz_Z} {ν : qz_N} (hZ : zM s Z) {a1 : Int} (ga1 : 0 ≤ a1 ∧ a1 ≤ 59) {a2 : Int} (ga2 : 0 ≤ a2 ∧ a2 ≤ 3) {a3 : Int} (ga3 : 0 ≤ a3 ∧ a3 ≤ 2) (gx0 : Z 2 0 0 (2018 + 16 * a1) ≤ Z 2 0 0 (2024 + 16 * a1)) (gx1 : Z 2 0 0 (2024 + 16 * a1) ≤ Z 2 0 0 (2021 + 16 * a1)) (gx2 : 0 ≤ Z 2 0 0 (2025 + 16 * a1)) (gx3 : Z 2 0 0 (2025 + 16 * a1) ≤ Z 2 0 0 (2022 + 16 * a1)) (gx4 : Z 2 0 0 (2016 + 16 * a1) ≤ Z 2 0 0 (2023 + 16 * a1)) (gx5 : Z 2 0 0 (2023 + 16 * a1) ≤ Z 2 0 0 (40 + a1)) (hM : s.2 + 0 ≤ 1000000000) : ∃ P : Int, P = zf_423 Z a1 a2 a3 ∧ (qf_423 [.inr (.inr (some (1, 0, 0))), .inl (i3 a1), .inl (i3 a2), .inl (i3 a3)] (zm Z ν) = some (zm Z ν, .inl (some (.inl (i3 P)))) ∧ -2001 ≤ P ∧ P ≤ 2001 ∧ 0 ≤ P) := by
  obtain ⟨P, hP⟩ := zx (zf_423 Z a1 a2 a3)
  refine zc_R (Q := fun P => -2001 ≤ P ∧ P ≤ 2001 ∧ 0 ≤ P) hP (fw_423 (i3 a1) (i3 a2) (i3 a3) _ _ ?_)
  replace hP : zE P (zf_423 Z a1 a2 a3) := hP
  unfold zf_423 at hP
  have r1 := zM_k hZ 2 0 0 (2018 + 16 * a1) (lo := 0) (hi := 2000) (by decide) (zs_2010_8 (x := a1) (by omega) (by omega) (by omega))
  have r2 := zM_k hZ 2 0 0 (2024 + 16 * a1) (lo := -1) (hi := 2000) (by decide) (zs_2010_14 (x := a1) (by omega) (by omega) (by omega))
  have r3 := zM_k hZ 2 0 0 (2021 + 16 * a1) (lo := 0) (hi := 2000) (by decide) (zs_2010_11 (x := a1) (by omega) (by omega) (by omega))
  have r4 := zM_k hZ 2 0 0 (2025 + 16 * a1) (lo := -1) (hi := 999) (by decide) (zs_2010_15 (x := a1) (by omega) (by omega) (by omega))
  have r5 := zM_k hZ 2 0 0 (2022 + 16 * a1) (lo := 0) (hi := 999) (by decide) (zs_2010_12 (x := a1) (by omega) (by omega) (by omega))
  have r6 := zM_k hZ 2 0 0 (2016 + 16 * a1) (lo := 0) (hi := 671) (by decide) (zs_2010_6 (x := a1) (by omega) (by omega) (by omega))
  have r7 := zM_k hZ 2 0 0 (2023 + 16 * a1) (lo := -1) (hi := 671) (by decide) (zs_2010_13 (x := a1) (by omega) (by omega) (by omega))
  have r8 := zM_k hZ 2 0 0 (40 + a1) (lo := -1) (hi := 671) (by decide) (zs_40 (by omega) (by omega))
  refine wz_br (i3NE (rfl : i3 a2 = i3 a2) (show (0 : Int32) = i3 0 from rfl) (by omega) (by omega) (by omega) (by omega)) (fun h9 => ?_) (fun h9 => ?_)
  · replace hP := zE_p hP h9
    refine wz_br (i3NE (rfl : i3 a2 = i3 a2) (show (1 : Int32) = i3 1 from rfl) (by omega) (by omega) (by omega) (by omega)) (fun h10 => ?_) (fun h10 => ?_)
    · replace hP := zE_p hP h10
      refine wz_br (i3NE (rfl : i3 a3 = i3 a3) (show (0 : Int32) = i3 0 from rfl) (by omega) (by omega) (by omega) (by omega)) (fun h11 => ?_) (fun h11 => ?_)
      · replace hP := zE_p hP h11
        refine wz_i0 (i3O (n := 4400) (i3A (i3A (show (2010 : Int32) = i3 2010 from rfl) (i3M (show (16 : Int32) = i3 16 from rfl) (rfl : i3 a1 = i3 a1))) (show (15 : Int32) = i3 15 from rfl)) (by omega) (by omega) (by omega)) ?_
        refine wz_i0 (i3O (n := 4400) (i3A (i3A (show (2010 : Int32) = i3 2010 from rfl) (i3M (show (16 : Int32) = i3 16 from rfl) (rfl : i3 a1 = i3 a1))) (show (13 : Int32) = i3 13 from rfl)) (by omega) (by omega) (by omega)) ?_
        refine wz_br (i3NE (rfl : i3 a2 = i3 a2) (show (2 : Int32) = i3 2 from rfl) (by omega) (by omega) (by omega) (by omega)) (fun h12 => ?_) (fun h12 => ?_)
        · replace hP := zE_p hP h12
          refine wz_br (i3NE (rfl : i3 a3 = i3 a3) (show (1 : Int32) = i3 1 from rfl) (by omega) (by omega) (by omega) (by omega)) (fun h13 => ?_) (fun h13 => ?_)
          · replace hP := zE_p hP h13
            refine wz_i0 (i3O (n := 4400) (i3A (show (40 : Int32) = i3 40 from rfl) (rfl : i3 a1 = i3 a1)) (by omega) (by omega) (by omega)) ?_
            exact zlR hP (i3S (zm_rd (Z := Z) (ν := ν) (k := 2) (show ((0 : Nat) : Int) = 0 from rfl) (show ((0 : Nat) : Int) = 0 from rfl) (i3I (y := (40 + a1)) (i3A (show (40 : Int32) = i3 40 from rfl) (rfl : i3 a1 = i3 a1)) (by omega) (by omega) (by omega))) (zm_rd (Z := Z) (ν := ν) (k := 2) (show ((0 : Nat) : Int) = 0 from rfl) (show ((0 : Nat) : Int) = 0 from rfl) (i3I (y := (2023 + 16 * a1)) (i3A (i3A (show (2010 : Int32) = i3 2010 from rfl) (i3M (show (16 : Int32) = i3 16 from rfl) (rfl : i3 a1 = i3 a1))) (show (13 : Int32) = i3 13 from rfl)) (by omega) (by omega) (by omega)))) ⟨by omega, by omega, by omega⟩
          · replace hP := zE_n hP h13
            refine wz_i0 (i3O (n := 4400) (i3A (i3A (show (2010 : Int32) = i3 2010 from rfl) (i3M (show (16 : Int32) = i3 16 from rfl) (rfl : i3 a1 = i3 a1))) (show (6 : Int32) = i3 6 from rfl)) (by omega) (by omega) (by omega)) ?_
            exact zlR hP (i3S (zm_rd (Z := Z) (ν := ν) (k := 2) (show ((0 : Nat) : Int) = 0 from rfl) (show ((0 : Nat) : Int) = 0 from rfl) (i3I (y := (2023 + 16 * a1)) (i3A (i3A (show (2010 : Int32) = i3 2010 from rfl) (i3M (show (16 : Int32) = i3 16 from rfl) (rfl : i3 a1 = i3 a1))) (show (13 : Int32) = i3 13 from rfl)) (by omega) (by omega) (by omega))) (zm_rd (Z := Z) (ν := ν) (k := 2) (show ((0 : Nat) : Int) = 0 from rfl) (show ((0 : Nat) : Int) = 0 from rfl) (i3I (y := (2016 + 16 * a1)) (i3A (i3A (show (2010 : Int32) = i3 2010 from rfl) (i3M (show (16 : Int32) = i3 16 from rfl) (rfl : i3 a1 = i3 a1))) (show (6 : Int32) = i3 6 from rfl)) (by omega) (by omega) (by omega)))) ⟨by omega, by omega, by omega⟩
        · replace hP := zE_n hP h12
          refine wz_br (i3NE (rfl : i3 a3 = i3 a3) (show (1 : Int32) = i3 1 from rfl) (by omega) (by omega) (by omega) (by omega)) (fun h14 => ?_) (fun h14 => ?_)
          · replace hP := zE_p hP h14
            refine wz_i0 (i3O (n := 4400) (i3A (i3A (show (2010 : Int32) = i3 2010 from rfl) (i3M (show (16 : Int32) = i3 16 from rfl) (rfl : i3 a1 = i3 a1))) (show (12 : Int32) = i3 12 from rfl)) (by omega) (by omega) (by omega)) ?_
            exact zlR hP (i3S (zm_rd (Z := Z) (ν := ν) (k := 2) (show ((0 : Nat) : Int) = 0 from rfl) (show ((0 : Nat) : Int) = 0 from rfl) (i3I (y := (2022 + 16 * a1)) (i3A (i3A (show (2010 : Int32) = i3 2010 from rfl) (i3M (show (16 : Int32) = i3 16 from rfl) (rfl : i3 a1 = i3 a1))) (show (12 : Int32) = i3 12 from rfl)) (by omega) (by omega) (by omega))) (zm_rd (Z := Z) (ν := ν) (k := 2) (show ((0 : Nat) : Int) = 0 from rfl) (show ((0 : Nat) : Int) = 0 from rfl) (i3I (y := (2025 + 16 * a1)) (i3A (i3A (show (2010 : Int32) = i3 2010 from rfl) (i3M (show (16 : Int32) = i3 16 from rfl) (rfl : i3 a1 = i3 a1))) (show (15 : Int32) = i3 15 from rfl)) (by omega) (by omega) (by omega)))) ⟨by omega, by omega, by omega⟩
          · replace hP := zE_n hP h14
            exact zlR hP (zm_rd (Z := Z) (ν := ν) (k := 2) (show ((0 : Nat) : Int) = 0 from rfl) (show ((0 : Nat) : Int) = 0 from rfl) (i3I (y := (2025 + 16 * a1)) (i3A (i3A (show (2010 : Int32) = i3 2010 from rfl) (i3M (show (16 : Int32) = i3 16 from rfl) (rfl : i3 a1 = i3 a1))) (show (15 : Int32) = i3 15 from rfl)) (by omega) (by omega) (by omega))) ⟨by omega, by omega, by omega⟩
      · replace hP := zE_n hP h11
        exact zlR hP (show (0 : Int32) = i3 0 from rfl) ⟨by omega, by omega, by omega⟩
    · replace hP := zE_n hP h10
      refine wz_br (i3NE (rfl : i3 a3 = i3 a3) (show (0 : Int32) = i3 0 from rfl) (by omega) (by omega) (by omega) (by omega)) (fun h15 => ?_) (fun h15 => ?_)
      · replace hP := zE_p hP h15
        exact zlR hP (show (0 : Int32) = i3 0 from rfl) ⟨by omega, by omega, by omega⟩
      · replace hP := zE_n hP h15
        exact zlR hP (show (1 : Int32) = i3 1 from rfl) ⟨by omega, by omega, by omega⟩
  · replace hP := zE_n hP h9
    obtain ⟨v16, hv16, c9, lv16, uv16, wv160⟩ := sp_416 (ν := ν) hZ (a1 := a1) (by omega) (a2 := a3) (by omega) (by omega) (by omega) (zbh (c := 0) (k := 0) hM (Nat.le_of_ble_eq_true rfl))
    replace hP := zl_e hP hv16
    refine wz_cI_of (zas (zcons rfl (zcons (zvi (rfl : i3 a1 = i3 a1)) (zcons (zvi (rfl : i3 a3 = i3 a3)) rfl))) c9) ?_
    clear c9
    have w17 : 0 ≤ v16 := wv160
    exact zlR hP (rfl : i3 v16 = i3 v16) ⟨by omega, by omega, by omega⟩
/- yX12_blame -/
def zy_294 (Z : qz_Z) (a1 : Int) (a2 : Int) (a3 : Int) : qz_Z × Int := (if a1 < 0 then (zlet (zu Z 1 0 0 2 1) (fun Z15 => (Z15, 0))) else (if ((Z 2 0 0 2000) - 1) < a1 then (zlet (zu Z 1 0 0 2 1) (fun Z18 => (Z18, 0))) else (zlet (zu Z 1 0 0 2 0) (fun Z19 => (if a2 < 0 then (zlet (zu Z19 1 0 0 2 2) (fun Z21 => (Z21, 0))) else (if 3 < a2 then (zlet (zu Z19 1 0 0 2 2) (fun Z23 => (Z23, 0))) else (if a3 < 0 then (zlet (zu Z19 1 0 0 2 2) (fun Z25 => (Z25, 0))) else (if 3 < a3 then (zlet (zu Z19 1 0 0 2 2) (fun Z27 => (Z27, 0))) else (zlet (zu Z19 1 0 0 2 0) (fun Z28 => (if (Z28 2 0 0 (2019 + 16 * a1)) ≠ 2 then (zlet (zu Z28 1 0 0 2 3) (fun Z33 => (Z33, 0))) else (zlet (zu Z28 1 0 0 2 0) (fun Z34 => (zlet (zf_398 Z34 a1 a2) (fun v39 => (if a3 ≠ 3 then (zlet (zf_423 Z34 a1 a2 0) (fun v57 => (zlet (zf_423 Z34 a1 a2 1) (fun v59 => (zlet (zf_423 Z34 a1 a2 2) (fun v61 => (if ((v57 + v59) + v61) ≠ 0 then (zlet (zf_418 Z34 v39 v57 v59 v61 a3) (fun v64 => (Z34, v64))) else (zlet (zf_418 Z34 v39 v57 1 v61 a3) (fun v65 => (Z34, v65)))))))))) else (Z34, v39)))))))))))))))))
theorem sy_294 {s : zSM} {Z : qz_Z} {ν : qz_N} (hZ : zM s Z) (gq : Z 1 0 0 35 = 0) (hM : s.2 + 0 ≤ 1000000000) {a1 : Int} (ga1 : -2147483648 ≤ a1 ∧ a1 ≤ 2147483647) {a2 : Int} (ga2 : -2147483648 ≤ a2 ∧ a2 ≤ 2147483647) {a3 : Int} (ga3 : -2147483648 ≤ a3 ∧ a3 ≤ 2147483647) (gx0 : Z 2 0 0 (2019 + 16 * a1) = 2 → (Z 2 0 0 (2018 + 16 * a1) ≤ Z 2 0 0 (2024 + 16 * a1) ∧ Z 2 0 0 (2024 + 16 * a1) ≤ Z 2 0 0 (2021 + 16 * a1) ∧ 0 ≤ Z 2 0 0 (2025 + 16 * a1) ∧ Z 2 0 0 (2025 + 16 * a1) ≤ Z 2 0 0 (2022 + 16 * a1) ∧ Z 2 0 0 (2016 + 16 * a1) ≤ Z 2 0 0 (2023 + 16 * a1) ∧ Z 2 0 0 (2023 + 16 * a1) ≤ Z 2 0 0 (40 + a1))) {ν1 : qz_N} : ∃ (Z1 : qz_Z) (ν2 : qz_N) (v : Int), (Z1, v) = zy_294 Z a1 a2 a3 ∧ (ν2 = ν ∨ ν2 = ν1) ∧ qf_294 [.inr (.inr (some (1, 0, 0))), .inl (i3 a1), .inl (i3 a2), .inl (i3 a3)] (zm Z ν) = some (zm Z1 ν2, .inl (some (.inl (i3 v)))) ∧ (fun Z1 => zM s Z1 ∧ zC [1] Z Z1 ∧ zU [] Z Z1) Z1 := by
  obtain ⟨P, hP⟩ := zx (zy_294 Z a1 a2 a3)
  refine zc_Y (Q := fun Z1 => zM s Z1 ∧ zC [1] Z Z1 ∧ zU [] Z Z1) hP (fw_294 (i3 a1) (i3 a2) (i3 a3) _ _ ?_)
  replace hP : zE P (zy_294 Z a1 a2 a3) := hP
  unfold zy_294 at hP
  have r1 := zM_k hZ 1 0 0 35 (lo := 0) (hi := 1) (by decide) rfl
  have r2 := zM_k hZ 1 0 0 34 (lo := 0) (hi := 8) (by decide) rfl
  have r3 := zM_f hZ 1 0 0 37
  have r4 := zM_f hZ 2 0 0 (2019 + 16 * a1)
  have r5 := zM_lt2 hZ a1
  have r6 := zM_f hZ 2 0 0 (2018 + 16 * a1)
  have r7 := zM_f hZ 2 0 0 (2024 + 16 * a1)
  have r8 := zM_f hZ 2 0 0 (2021 + 16 * a1)
  have r9 := zM_f hZ 2 0 0 (2025 + 16 * a1)
  have r10 := zM_f hZ 2 0 0 (2022 + 16 * a1)
  have r11 := zM_f hZ 2 0 0 (2016 + 16 * a1)
  have r12 := zM_f hZ 2 0 0 (2023 + 16 * a1)
  have r13 := zM_f hZ 2 0 0 (40 + a1)
  refine wz_br (i3L (rfl : i3 a1 = i3 a1) (show (0 : Int32) = i3 0 from rfl) (by omega) (by omega) (by omega) (by omega)) (fun h14 => ?_) (fun h14 => ?_)
  · replace hP := zE_p hP h14
    obtain ⟨Z15, hZ15⟩ := zx (zu Z 1 0 0 2 1)
    replace hP := zl_e hP hZ15
    have hZ15I := zM_u hZ hZ15 (lo := -2147483648) (hi := 2147483647) (by decide) rfl (by omega) ⟨by decide, by decide⟩ (Or.inr (by decide)) rfl
    have hZ15U : zU [] Z Z15 := zU_u zU_r hZ15 (Or.inl rfl)
    have hZ15K : zC [1] Z Z15 := zC_u zC_r hZ15 (by decide)
    intro μ9 e9
    replace e9 := e9.trans (zm_wI (Z := Z) (ν := ν) hZ15 (show ((0 : Nat) : Int) = 0 from rfl) (show ((0 : Nat) : Int) = 0 from rfl) (show ((2 : Nat) : Int) = 2 from rfl) (show (1 : Int32) = i3 1 from rfl))
    subst e9
    exact zlY hP (show (0 : Int32) = i3 0 from rfl) (.inl rfl) ⟨hZ15I, hZ15K, hZ15U⟩
  · replace hP := zE_n hP h14
    have r16 := zM_k hZ 2 0 0 2000 (lo := 0) (hi := 60) (by decide) rfl
    refine wz_br (i3L (i3S (zm_rd (Z := Z) (ν := ν) (k := 2) (show ((0 : Nat) : Int) = 0 from rfl) (show ((0 : Nat) : Int) = 0 from rfl) (show ((2000 : Nat) : Int) = 2000 from rfl)) (show (1 : Int32) = i3 1 from rfl)) (rfl : i3 a1 = i3 a1) (by omega) (by omega) (by omega) (by omega)) (fun h17 => ?_) (fun h17 => ?_)
    · replace hP := zE_p hP h17
      obtain ⟨Z18, hZ18⟩ := zx (zu Z 1 0 0 2 1)
      replace hP := zl_e hP hZ18
      have hZ18I := zM_u hZ hZ18 (lo := -2147483648) (hi := 2147483647) (by decide) rfl (by omega) ⟨by decide, by decide⟩ (Or.inr (by decide)) rfl
      have hZ18U : zU [] Z Z18 := zU_u zU_r hZ18 (Or.inl rfl)
      have hZ18K : zC [1] Z Z18 := zC_u zC_r hZ18 (by decide)
      intro μ9 e9
      replace e9 := e9.trans (zm_wI (Z := Z) (ν := ν) hZ18 (show ((0 : Nat) : Int) = 0 from rfl) (show ((0 : Nat) : Int) = 0 from rfl) (show ((2 : Nat) : Int) = 2 from rfl) (show (1 : Int32) = i3 1 from rfl))
      subst e9
      exact zlY hP (show (0 : Int32) = i3 0 from rfl) (.inl rfl) ⟨hZ18I, hZ18K, hZ18U⟩
    · replace hP := zE_n hP h17
      obtain ⟨Z19, hZ19⟩ := zx (zu Z 1 0 0 2 0)
      replace hP := zl_e hP hZ19
      have hZ19I := zM_0 hZ hZ19 (by decide) (Or.inr (by decide))
      have hZ19U : zU [] Z Z19 := zU_u zU_r hZ19 (Or.inl rfl)
      have hZ19K : zC [1] Z Z19 := zC_u zC_r hZ19 (by decide)
      intro μ9 e9
      replace e9 := e9.trans (zm_wI (Z := Z) (ν := ν) hZ19 (show ((0 : Nat) : Int) = 0 from rfl) (show ((0 : Nat) : Int) = 0 from rfl) (show ((2 : Nat) : Int) = 2 from rfl) (show (0 : Int32) = i3 0 from rfl))
      subst e9
      refine wz_br (i3L (rfl : i3 a2 = i3 a2) (show (0 : Int32) = i3 0 from rfl) (by omega) (by omega) (by omega) (by omega)) (fun h20 => ?_) (fun h20 => ?_)
      · replace hP := zE_p hP h20
        obtain ⟨Z21, hZ21⟩ := zx (zu Z19 1 0 0 2 2)
        replace hP := zl_e hP hZ21
        have hZ21I := zM_u hZ19I hZ21 (lo := -2147483648) (hi := 2147483647) (by decide) rfl (by omega) ⟨by decide, by decide⟩ (Or.inr (by decide)) rfl
        have hZ21U : zU [] Z Z21 := zU_u hZ19U hZ21 (Or.inl rfl)
        have hZ21K : zC [1] Z Z21 := zC_u hZ19K hZ21 (by decide)
        intro μ9 e9
        replace e9 := e9.trans (zm_wI (Z := Z19) (ν := ν) hZ21 (show ((0 : Nat) : Int) = 0 from rfl) (show ((0 : Nat) : Int) = 0 from rfl) (show ((2 : Nat) : Int) = 2 from rfl) (show (2 : Int32) = i3 2 from rfl))
        subst e9
        exact zlY hP (show (0 : Int32) = i3 0 from rfl) (.inl rfl) ⟨hZ21I, hZ21K, hZ21U⟩
      · replace hP := zE_n hP h20
        refine wz_br (i3L (show (3 : Int32) = i3 3 from rfl) (rfl : i3 a2 = i3 a2) (by omega) (by omega) (by omega) (by omega)) (fun h22 => ?_) (fun h22 => ?_)
        · replace hP := zE_p hP h22
          obtain ⟨Z23, hZ23⟩ := zx (zu Z19 1 0 0 2 2)
          replace hP := zl_e hP hZ23
          have hZ23I := zM_u hZ19I hZ23 (lo := -2147483648) (hi := 2147483647) (by decide) rfl (by omega) ⟨by decide, by decide⟩ (Or.inr (by decide)) rfl
          have hZ23U : zU [] Z Z23 := zU_u hZ19U hZ23 (Or.inl rfl)
          have hZ23K : zC [1] Z Z23 := zC_u hZ19K hZ23 (by decide)
          intro μ9 e9
          replace e9 := e9.trans (zm_wI (Z := Z19) (ν := ν) hZ23 (show ((0 : Nat) : Int) = 0 from rfl) (show ((0 : Nat) : Int) = 0 from rfl) (show ((2 : Nat) : Int) = 2 from rfl) (show (2 : Int32) = i3 2 from rfl))
          subst e9
          exact zlY hP (show (0 : Int32) = i3 0 from rfl) (.inl rfl) ⟨hZ23I, hZ23K, hZ23U⟩
        · replace hP := zE_n hP h22
          refine wz_br (i3L (rfl : i3 a3 = i3 a3) (show (0 : Int32) = i3 0 from rfl) (by omega) (by omega) (by omega) (by omega)) (fun h24 => ?_) (fun h24 => ?_)
          · replace hP := zE_p hP h24
            obtain ⟨Z25, hZ25⟩ := zx (zu Z19 1 0 0 2 2)
            replace hP := zl_e hP hZ25
            have hZ25I := zM_u hZ19I hZ25 (lo := -2147483648) (hi := 2147483647) (by decide) rfl (by omega) ⟨by decide, by decide⟩ (Or.inr (by decide)) rfl
            have hZ25U : zU [] Z Z25 := zU_u hZ19U hZ25 (Or.inl rfl)
            have hZ25K : zC [1] Z Z25 := zC_u hZ19K hZ25 (by decide)
            intro μ9 e9
            replace e9 := e9.trans (zm_wI (Z := Z19) (ν := ν) hZ25 (show ((0 : Nat) : Int) = 0 from rfl) (show ((0 : Nat) : Int) = 0 from rfl) (show ((2 : Nat) : Int) = 2 from rfl) (show (2 : Int32) = i3 2 from rfl))
            subst e9
            exact zlY hP (show (0 : Int32) = i3 0 from rfl) (.inl rfl) ⟨hZ25I, hZ25K, hZ25U⟩
          · replace hP := zE_n hP h24
            refine wz_br (i3L (show (3 : Int32) = i3 3 from rfl) (rfl : i3 a3 = i3 a3) (by omega) (by omega) (by omega) (by omega)) (fun h26 => ?_) (fun h26 => ?_)
            · replace hP := zE_p hP h26
              obtain ⟨Z27, hZ27⟩ := zx (zu Z19 1 0 0 2 2)
              replace hP := zl_e hP hZ27
              have hZ27I := zM_u hZ19I hZ27 (lo := -2147483648) (hi := 2147483647) (by decide) rfl (by omega) ⟨by decide, by decide⟩ (Or.inr (by decide)) rfl
              have hZ27U : zU [] Z Z27 := zU_u hZ19U hZ27 (Or.inl rfl)
              have hZ27K : zC [1] Z Z27 := zC_u hZ19K hZ27 (by decide)
              intro μ9 e9
              replace e9 := e9.trans (zm_wI (Z := Z19) (ν := ν) hZ27 (show ((0 : Nat) : Int) = 0 from rfl) (show ((0 : Nat) : Int) = 0 from rfl) (show ((2 : Nat) : Int) = 2 from rfl) (show (2 : Int32) = i3 2 from rfl))
              subst e9
              exact zlY hP (show (0 : Int32) = i3 0 from rfl) (.inl rfl) ⟨hZ27I, hZ27K, hZ27U⟩
            · replace hP := zE_n hP h26
              obtain ⟨Z28, hZ28⟩ := zx (zu Z19 1 0 0 2 0)
              replace hP := zl_e hP hZ28
              have hZ28I := zM_0 hZ19I hZ28 (by decide) (Or.inr (by decide))
              have hZ28U : zU [] Z Z28 := zU_u hZ19U hZ28 (Or.inl rfl)
              have hZ28K : zC [1] Z Z28 := zC_u hZ19K hZ28 (by decide)
              intro μ9 e9
              replace e9 := e9.trans (zm_wI (Z := Z19) (ν := ν) hZ28 (show ((0 : Nat) : Int) = 0 from rfl) (show ((0 : Nat) : Int) = 0 from rfl) (show ((2 : Nat) : Int) = 2 from rfl) (show (0 : Int32) = i3 0 from rfl))
              subst e9
              refine wz_i0 (i3O (n := 4400) (i3A (i3A (show (2010 : Int32) = i3 2010 from rfl) (i3M (show (16 : Int32) = i3 16 from rfl) (rfl : i3 a1 = i3 a1))) (show (9 : Int32) = i3 9 from rfl)) (by omega) (by omega) (by omega)) ?_
              have r29 := zM_k hZ28I 2 0 0 (2019 + 16 * a1) (lo := 0) (hi := 3) (by decide) (zs_2010_9 (x := a1) (by omega) (by omega) (by omega))
              have r30 := zM_lt2 hZ28I a1
              have q31 := (zu_ne (k' := 2) (b' := 0) (i' := 0) (j' := (2019 + 16 * a1)) hZ28 (fun q => absurd q.1 (by decide))).trans (zu_ne (k' := 2) (b' := 0) (i' := 0) (j' := (2019 + 16 * a1)) hZ19 (fun q => absurd q.1 (by decide)))
              refine wz_br (i3NE (zm_rd (Z := Z28) (ν := ν) (k := 2) (show ((0 : Nat) : Int) = 0 from rfl) (show ((0 : Nat) : Int) = 0 from rfl) (i3I (y := (2019 + 16 * a1)) (i3A (i3A (show (2010 : Int32) = i3 2010 from rfl) (i3M (show (16 : Int32) = i3 16 from rfl) (rfl : i3 a1 = i3 a1))) (show (9 : Int32) = i3 9 from rfl)) (by omega) (by omega) (by omega))) (show (2 : Int32) = i3 2 from rfl) (by omega) (by omega) (by omega) (by omega)) (fun h32 => ?_) (fun h32 => ?_)
              · replace hP := zE_p hP h32
                obtain ⟨Z33, hZ33⟩ := zx (zu Z28 1 0 0 2 3)
                replace hP := zl_e hP hZ33
                have hZ33I := zM_u hZ28I hZ33 (lo := -2147483648) (hi := 2147483647) (by decide) rfl (by omega) ⟨by decide, by decide⟩ (Or.inr (by decide)) rfl
                have hZ33U : zU [] Z Z33 := zU_u hZ28U hZ33 (Or.inl rfl)
                have hZ33K : zC [1] Z Z33 := zC_u hZ28K hZ33 (by decide)
                intro μ9 e9
                replace e9 := e9.trans (zm_wI (Z := Z28) (ν := ν) hZ33 (show ((0 : Nat) : Int) = 0 from rfl) (show ((0 : Nat) : Int) = 0 from rfl) (show ((2 : Nat) : Int) = 2 from rfl) (show (3 : Int32) = i3 3 from rfl))
                subst e9
                exact zlY hP (show (0 : Int32) = i3 0 from rfl) (.inl rfl) ⟨hZ33I, hZ33K, hZ33U⟩
              · replace hP := zE_n hP h32
                obtain ⟨Z34, hZ34⟩ := zx (zu Z28 1 0 0 2 0)
                replace hP := zl_e hP hZ34
                have hZ34I := zM_0 hZ28I hZ34 (by decide) (Or.inr (by decide))
                have hZ34U : zU [] Z Z34 := zU_u hZ28U hZ34 (Or.inl rfl)
                have hZ34K : zC [1] Z Z34 := zC_u hZ28K hZ34 (by decide)
                intro μ9 e9
                replace e9 := e9.trans (zm_wI (Z := Z28) (ν := ν) hZ34 (show ((0 : Nat) : Int) = 0 from rfl) (show ((0 : Nat) : Int) = 0 from rfl) (show ((2 : Nat) : Int) = 2 from rfl) (show (0 : Int32) = i3 0 from rfl))
                subst e9
                have r35 := zM_k hZ34I 2 0 0 (2013 + 16 * a1) (lo := 0) (hi := 40) (by decide) (zs_2010_3 (x := a1) (by omega) (by omega) (by omega))
                have r36 := zM_cr hZ34I a1
                have r37 := zM_k hZ34I 2 0 0 2000 (lo := 0) (hi := 60) (by decide) rfl
                have q38 := (zu_ne (k' := 2) (b' := 0) (i' := 0) (j' := 2000) hZ34 (fun q => absurd q.1 (by decide))).trans ((zu_ne (k' := 2) (b' := 0) (i' := 0) (j' := 2000) hZ28 (fun q => absurd q.1 (by decide))).trans (zu_ne (k' := 2) (b' := 0) (i' := 0) (j' := 2000) hZ19 (fun q => absurd q.1 (by decide))))
                obtain ⟨v39, hv39, c9, lv39, uv39⟩ := sp_398 (ν := ν) hZ34I (a1 := a1) (by omega) (a2 := a2) (by omega) (by omega) (zbh (c := 0) (k := 0) hM (Nat.le_of_ble_eq_true rfl))
                replace hP := zl_e hP hv39
                refine wz_cI_of (zas (zcons rfl (zcons (zvi (rfl : i3 a1 = i3 a1)) (zcons (zvi (rfl : i3 a2 = i3 a2)) rfl))) c9) ?_
                clear c9
                refine wz_br (i3NE (rfl : i3 a3 = i3 a3) (show (3 : Int32) = i3 3 from rfl) (by omega) (by omega) (by omega) (by omega)) (fun h40 => ?_) (fun h40 => ?_)
                · replace hP := zE_p hP h40
                  have r41 := zM_k hZ34I 2 0 0 (2018 + 16 * a1) (lo := 0) (hi := 2000) (by decide) (zs_2010_8 (x := a1) (by omega) (by omega) (by omega))
                  have q42 := (zu_ne (k' := 2) (b' := 0) (i' := 0) (j' := (2018 + 16 * a1)) hZ34 (fun q => absurd q.1 (by decide))).trans ((zu_ne (k' := 2) (b' := 0) (i' := 0) (j' := (2018 + 16 * a1)) hZ28 (fun q => absurd q.1 (by decide))).trans (zu_ne (k' := 2) (b' := 0) (i' := 0) (j' := (2018 + 16 * a1)) hZ19 (fun q => absurd q.1 (by decide))))
                  have r43 := zM_k hZ34I 2 0 0 (2024 + 16 * a1) (lo := -1) (hi := 2000) (by decide) (zs_2010_14 (x := a1) (by omega) (by omega) (by omega))
                  have q44 := (zu_ne (k' := 2) (b' := 0) (i' := 0) (j' := (2024 + 16 * a1)) hZ34 (fun q => absurd q.1 (by decide))).trans ((zu_ne (k' := 2) (b' := 0) (i' := 0) (j' := (2024 + 16 * a1)) hZ28 (fun q => absurd q.1 (by decide))).trans (zu_ne (k' := 2) (b' := 0) (i' := 0) (j' := (2024 + 16 * a1)) hZ19 (fun q => absurd q.1 (by decide))))
                  have r45 := zM_k hZ34I 2 0 0 (2021 + 16 * a1) (lo := 0) (hi := 2000) (by decide) (zs_2010_11 (x := a1) (by omega) (by omega) (by omega))
                  have q46 := (zu_ne (k' := 2) (b' := 0) (i' := 0) (j' := (2021 + 16 * a1)) hZ34 (fun q => absurd q.1 (by decide))).trans ((zu_ne (k' := 2) (b' := 0) (i' := 0) (j' := (2021 + 16 * a1)) hZ28 (fun q => absurd q.1 (by decide))).trans (zu_ne (k' := 2) (b' := 0) (i' := 0) (j' := (2021 + 16 * a1)) hZ19 (fun q => absurd q.1 (by decide))))
                  have r47 := zM_k hZ34I 2 0 0 (2025 + 16 * a1) (lo := -1) (hi := 999) (by decide) (zs_2010_15 (x := a1) (by omega) (by omega) (by omega))
                  have q48 := (zu_ne (k' := 2) (b' := 0) (i' := 0) (j' := (2025 + 16 * a1)) hZ34 (fun q => absurd q.1 (by decide))).trans ((zu_ne (k' := 2) (b' := 0) (i' := 0) (j' := (2025 + 16 * a1)) hZ28 (fun q => absurd q.1 (by decide))).trans (zu_ne (k' := 2) (b' := 0) (i' := 0) (j' := (2025 + 16 * a1)) hZ19 (fun q => absurd q.1 (by decide))))
                  have r49 := zM_k hZ34I 2 0 0 (2022 + 16 * a1) (lo := 0) (hi := 999) (by decide) (zs_2010_12 (x := a1) (by omega) (by omega) (by omega))
                  have q50 := (zu_ne (k' := 2) (b' := 0) (i' := 0) (j' := (2022 + 16 * a1)) hZ34 (fun q => absurd q.1 (by decide))).trans ((zu_ne (k' := 2) (b' := 0) (i' := 0) (j' := (2022 + 16 * a1)) hZ28 (fun q => absurd q.1 (by decide))).trans (zu_ne (k' := 2) (b' := 0) (i' := 0) (j' := (2022 + 16 * a1)) hZ19 (fun q => absurd q.1 (by decide))))
                  have r51 := zM_k hZ34I 2 0 0 (2016 + 16 * a1) (lo := 0) (hi := 671) (by decide) (zs_2010_6 (x := a1) (by omega) (by omega) (by omega))
                  have q52 := (zu_ne (k' := 2) (b' := 0) (i' := 0) (j' := (2016 + 16 * a1)) hZ34 (fun q => absurd q.1 (by decide))).trans ((zu_ne (k' := 2) (b' := 0) (i' := 0) (j' := (2016 + 16 * a1)) hZ28 (fun q => absurd q.1 (by decide))).trans (zu_ne (k' := 2) (b' := 0) (i' := 0) (j' := (2016 + 16 * a1)) hZ19 (fun q => absurd q.1 (by decide))))
                  have r53 := zM_k hZ34I 2 0 0 (2023 + 16 * a1) (lo := -1) (hi := 671) (by decide) (zs_2010_13 (x := a1) (by omega) (by omega) (by omega))
                  have q54 := (zu_ne (k' := 2) (b' := 0) (i' := 0) (j' := (2023 + 16 * a1)) hZ34 (fun q => absurd q.1 (by decide))).trans ((zu_ne (k' := 2) (b' := 0) (i' := 0) (j' := (2023 + 16 * a1)) hZ28 (fun q => absurd q.1 (by decide))).trans (zu_ne (k' := 2) (b' := 0) (i' := 0) (j' := (2023 + 16 * a1)) hZ19 (fun q => absurd q.1 (by decide))))
                  have r55 := zM_k hZ34I 2 0 0 (40 + a1) (lo := -1) (hi := 671) (by decide) (zs_40 (by omega) (by omega))
                  have q56 := (zu_ne (k' := 2) (b' := 0) (i' := 0) (j' := (40 + a1)) hZ34 (fun q => absurd q.1 (by decide))).trans ((zu_ne (k' := 2) (b' := 0) (i' := 0) (j' := (40 + a1)) hZ28 (fun q => absurd q.1 (by decide))).trans (zu_ne (k' := 2) (b' := 0) (i' := 0) (j' := (40 + a1)) hZ19 (fun q => absurd q.1 (by decide))))
                  obtain ⟨v57, hv57, c9, lv57, uv57, wv570⟩ := sp_423 (ν := ν) hZ34I (a1 := a1) (by omega) (a2 := a2) (by omega) (a3 := 0) (by omega) (by omega) (by omega) (by omega) (by omega) (by omega) (by omega) (zbh (c := 0) (k := 0) hM (Nat.le_of_ble_eq_true rfl))
                  replace hP := zl_e hP hv57
                  refine wz_cI_of (zas (zcons rfl (zcons (zvi (rfl : i3 a1 = i3 a1)) (zcons (zvi (rfl : i3 a2 = i3 a2)) (zcons (zvi (show (0 : Int32) = i3 0 from rfl)) rfl)))) c9) ?_
                  clear c9
                  have w58 : 0 ≤ v57 := wv570
                  obtain ⟨v59, hv59, c9, lv59, uv59, wv590⟩ := sp_423 (ν := ν) hZ34I (a1 := a1) (by omega) (a2 := a2) (by omega) (a3 := 1) (by omega) (by omega) (by omega) (by omega) (by omega) (by omega) (by omega) (zbh (c := 0) (k := 0) hM (Nat.le_of_ble_eq_true rfl))
                  replace hP := zl_e hP hv59
                  refine wz_cI_of (zas (zcons rfl (zcons (zvi (rfl : i3 a1 = i3 a1)) (zcons (zvi (rfl : i3 a2 = i3 a2)) (zcons (zvi (show (1 : Int32) = i3 1 from rfl)) rfl)))) c9) ?_
                  clear c9
                  have w60 : 0 ≤ v59 := wv590
                  obtain ⟨v61, hv61, c9, lv61, uv61, wv610⟩ := sp_423 (ν := ν) hZ34I (a1 := a1) (by omega) (a2 := a2) (by omega) (a3 := 2) (by omega) (by omega) (by omega) (by omega) (by omega) (by omega) (by omega) (zbh (c := 0) (k := 0) hM (Nat.le_of_ble_eq_true rfl))
                  replace hP := zl_e hP hv61
                  refine wz_cI_of (zas (zcons rfl (zcons (zvi (rfl : i3 a1 = i3 a1)) (zcons (zvi (rfl : i3 a2 = i3 a2)) (zcons (zvi (show (2 : Int32) = i3 2 from rfl)) rfl)))) c9) ?_
                  clear c9
                  have w62 : 0 ≤ v61 := wv610
                  refine wz_br (i3NE (i3A (i3A (rfl : i3 v57 = i3 v57) (rfl : i3 v59 = i3 v59)) (rfl : i3 v61 = i3 v61)) (show (0 : Int32) = i3 0 from rfl) (by omega) (by omega) (by omega) (by omega)) (fun h63 => ?_) (fun h63 => ?_)
                  · replace hP := zE_p hP h63
                    obtain ⟨v64, hv64, c9, lv64, uv64⟩ := sp_418 (ν := ν) hZ34I (a0 := v39) (by omega) (a1 := v57) (by omega) (a2 := v59) (by omega) (a3 := v61) (by omega) (a4 := a3) (by omega) (by omega) (zbh (c := 0) (k := 0) hM (Nat.le_of_ble_eq_true rfl))
                    replace hP := zl_e hP hv64
                    refine wz_cI_of (zas (zcons (zvi (rfl : i3 v39 = i3 v39)) (zcons (zvi (rfl : i3 v57 = i3 v57)) (zcons (zvi (rfl : i3 v59 = i3 v59)) (zcons (zvi (rfl : i3 v61 = i3 v61)) (zcons (zvi (rfl : i3 a3 = i3 a3)) rfl))))) c9) ?_
                    clear c9
                    exact zlY hP (rfl : i3 v64 = i3 v64) (.inl rfl) ⟨hZ34I, hZ34K, hZ34U⟩
                  · replace hP := zE_n hP h63
                    obtain ⟨v65, hv65, c9, lv65, uv65⟩ := sp_418 (ν := ν) hZ34I (a0 := v39) (by omega) (a1 := v57) (by omega) (a2 := 1) (by omega) (a3 := v61) (by omega) (a4 := a3) (by omega) (by omega) (zbh (c := 0) (k := 0) hM (Nat.le_of_ble_eq_true rfl))
                    replace hP := zl_e hP hv65
                    refine wz_cI_of (zas (zcons (zvi (rfl : i3 v39 = i3 v39)) (zcons (zvi (rfl : i3 v57 = i3 v57)) (zcons (zvi (show (1 : Int32) = i3 1 from rfl)) (zcons (zvi (rfl : i3 v61 = i3 v61)) (zcons (zvi (rfl : i3 a3 = i3 a3)) rfl))))) c9) ?_
                    clear c9
                    exact zlY hP (rfl : i3 v65 = i3 v65) (.inl rfl) ⟨hZ34I, hZ34K, hZ34U⟩
                · replace hP := zE_n hP h40
                  exact zlY hP (rfl : i3 v39 = i3 v39) (.inl rfl) ⟨hZ34I, hZ34K, hZ34U⟩
