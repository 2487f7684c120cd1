/- yX12_tTruckSound -/
def zf_528 (Z : qz_Z) (a1 : Int) : qz_Z × Int := (zlet (zf_518 Z a1 1) (fun v1 => (if (Z 2 0 0 (3250 + 24 * a1)) < v1 then (if (Z 2 0 0 (3252 + 24 * a1)) ≠ 1 then (Z, 0) else (zlet2 (zl_528_1 a1 61 Z 0 0) (fun y6 y7 => (if y6 = 0 then (Z, 0) else (if (Z 2 0 0 0) < (Z 2 0 0 (3254 + 24 * a1)) then (Z, 0) else (if (Z 2 0 0 (3269 + 24 * a1)) ≤ (Z 2 0 0 0) then (Z, 0) else (Z, 1))))))) else (if (Z 2 0 0 (3252 + 24 * a1)) ≠ 1 then (zlet (zf_527 Z a1) (fun v17 => (zlet (zf_511 Z v17) (fun Z18 => (zlet (zf_527 Z18 a1) (fun v19 => (zlet2 (zf_519 Z18 v19) (fun Z20 v21 => (if (Z18 1 0 0 25) ≠ v21 then (Z20, 0) else (Z20, 1)))))))))) else (zlet2 (zl_528_1 a1 61 Z 1 0) (fun y24 y25 => (if y24 = 0 then (Z, 0) else (if (Z 2 0 0 0) < (Z 2 0 0 (3254 + 24 * a1)) then (Z, 0) else (if (Z 2 0 0 (3269 + 24 * a1)) ≤ (Z 2 0 0 0) then (Z, 0) else (Z, 1))))))))))
theorem sp_528 {s : zSM} {Z : qz_Z} {ν : qz_N} (hZ : zM s Z) {a1 : Int} (ga1 : 0 ≤ a1 ∧ a1 ≤ 3) (hM : s.2 + 0 ≤ 1000000000) : ∃ (Z1 : qz_Z) (P : Int), (Z1, P) = zf_528 Z a1 ∧ (qf_528 [.inr (.inr (some (1, 0, 0))), .inl (i3 a1)] (zm Z ν) = some (zm Z1 ν, .inl (some (.inl (i3 P)))) ∧ zM s Z1 ∧ zC [1, 95, 96, 97] Z Z1 ∧ zU [] Z Z1 ∧ 0 ≤ P ∧ P ≤ 1) := by
  obtain ⟨P, hP⟩ := zx (zf_528 Z a1)
  refine zc_W (Q := fun Z1 P => zM s Z1 ∧ zC [1, 95, 96, 97] Z Z1 ∧ zU [] Z Z1 ∧ 0 ≤ P ∧ P ≤ 1) hP (fw_528 (i3 a1) _ _ ?_)
  replace hP : zE P (zf_528 Z a1) := hP
  unfold zf_528 at hP
  obtain ⟨v1, hv1, c9, lv1, uv1⟩ := sp_518 (ν := ν) hZ (a1 := a1) (by omega) (a2 := 1) (by omega) (zbh (c := 0) (k := 0) hM (Nat.le_of_ble_eq_true rfl))
  replace hP := zl_e hP hv1
  refine wz_cI_of (zas (zcons rfl (zcons (zvi (rfl : i3 a1 = i3 a1)) (zcons (zvi (show (1 : Int32) = i3 1 from rfl)) rfl))) c9) ?_
  clear c9
  refine wz_i0 (i3O (n := 4400) (i3A (i3A (show (3250 : Int32) = i3 3250 from rfl) (i3M (show (24 : Int32) = i3 24 from rfl) (rfl : i3 a1 = i3 a1))) (show (0 : Int32) = i3 0 from rfl)) (by omega) (by omega) (by omega)) ?_
  have r2 := zM_k hZ 2 0 0 (3250 + 24 * a1) (lo := 0) (hi := 99) (by decide) (zs_3250_0 (x := a1) (by omega) (by omega) (by omega))
  refine wz_br (i3L (zm_rd (Z := Z) (ν := ν) (k := 2) (show ((0 : Nat) : Int) = 0 from rfl) (show ((0 : Nat) : Int) = 0 from rfl) (i3I (y := (3250 + 24 * a1)) (i3A (i3A (show (3250 : Int32) = i3 3250 from rfl) (i3M (show (24 : Int32) = i3 24 from rfl) (rfl : i3 a1 = i3 a1))) (show (0 : Int32) = i3 0 from rfl)) (by omega) (by omega) (by omega))) (rfl : i3 v1 = i3 v1) (by omega) (by omega) (by omega) (by omega)) (fun h3 => ?_) (fun h3 => ?_)
  · replace hP := zE_p hP h3
    refine wz_i0 (i3O (n := 4400) (i3A (i3A (show (3250 : Int32) = i3 3250 from rfl) (i3M (show (24 : Int32) = i3 24 from rfl) (rfl : i3 a1 = i3 a1))) (show (2 : Int32) = i3 2 from rfl)) (by omega) (by omega) (by omega)) ?_
    have r4 := zM_k hZ 2 0 0 (3252 + 24 * a1) (lo := 0) (hi := 1) (by decide) (zs_3250_2 (x := a1) (by omega) (by omega) (by omega))
    refine wz_br (i3NE (zm_rd (Z := Z) (ν := ν) (k := 2) (show ((0 : Nat) : Int) = 0 from rfl) (show ((0 : Nat) : Int) = 0 from rfl) (i3I (y := (3252 + 24 * a1)) (i3A (i3A (show (3250 : Int32) = i3 3250 from rfl) (i3M (show (24 : Int32) = i3 24 from rfl) (rfl : i3 a1 = i3 a1))) (show (2 : Int32) = i3 2 from rfl)) (by omega) (by omega) (by omega))) (show (1 : Int32) = i3 1 from rfl) (by omega) (by omega) (by omega) (by omega)) (fun h5 => ?_) (fun h5 => ?_)
    · replace hP := zE_p hP h5
      exact zlW hP (show (0 : Int32) = i3 0 from rfl) ⟨hZ, zC_r, zU_r, by omega, by omega⟩
    · replace hP := zE_n hP h5
      refine sl_528_1 (ν := ν) hZ (zbh (c := 0) (k := 0) hM (Nat.le_of_ble_eq_true rfl)) (x1 := a1) (by omega) (x2 := 0) (by omega) (x3 := 0) (by omega)  (zconso rfl (zconso (zvo (rfl : i3 a1 = i3 a1)) (zconso (zvo (show (0 : Int32) = i3 0 from rfl)) (zconso (zvo (show (0 : Int32) = i3 0 from rfl)) rfl)))) rfl ?_
      intro L8 y6 y7 hL8 gy6 gy7 q9
      replace hP := zl_e2 hP (Eq.symm q9)
      clear q9
      refine fc_528_2 (i3 a1) (i3 y6) _ _ _ _ hL8 ?_
      refine wz_br (i3E (rfl : i3 y6 = i3 y6) (show (0 : Int32) = i3 0 from rfl) (by omega) (by omega) (by omega) (by omega)) (fun h9 => ?_) (fun h9 => ?_)
      · replace hP := zE_p hP h9
        exact zlW hP (show (0 : Int32) = i3 0 from rfl) ⟨hZ, zC_r, zU_r, by omega, by omega⟩
      · replace hP := zE_n hP h9
        refine wz_i0 (i3O (n := 4400) (i3A (i3A (show (3250 : Int32) = i3 3250 from rfl) (i3M (show (24 : Int32) = i3 24 from rfl) (rfl : i3 a1 = i3 a1))) (show (4 : Int32) = i3 4 from rfl)) (by omega) (by omega) (by omega)) ?_
        have r10 := zM_k hZ 2 0 0 0 (lo := 0) (hi := 671) (by decide) rfl
        have r11 := zM_k hZ 2 0 0 (3254 + 24 * a1) (lo := -1) (hi := 671) (by decide) (zs_3250_4 (x := a1) (by omega) (by omega) (by omega))
        refine wz_br (i3L (zm_rd (Z := Z) (ν := ν) (k := 2) (show ((0 : Nat) : Int) = 0 from rfl) (show ((0 : Nat) : Int) = 0 from rfl) (show ((0 : Nat) : Int) = 0 from rfl)) (zm_rd (Z := Z) (ν := ν) (k := 2) (show ((0 : Nat) : Int) = 0 from rfl) (show ((0 : Nat) : Int) = 0 from rfl) (i3I (y := (3254 + 24 * a1)) (i3A (i3A (show (3250 : Int32) = i3 3250 from rfl) (i3M (show (24 : Int32) = i3 24 from rfl) (rfl : i3 a1 = i3 a1))) (show (4 : Int32) = i3 4 from rfl)) (by omega) (by omega) (by omega))) (by omega) (by omega) (by omega) (by omega)) (fun h12 => ?_) (fun h12 => ?_)
        · replace hP := zE_p hP h12
          exact zlW hP (show (0 : Int32) = i3 0 from rfl) ⟨hZ, zC_r, zU_r, by omega, by omega⟩
        · replace hP := zE_n hP h12
          refine wz_i0 (i3O (n := 4400) (i3A (i3A (show (3250 : Int32) = i3 3250 from rfl) (i3M (show (24 : Int32) = i3 24 from rfl) (rfl : i3 a1 = i3 a1))) (show (19 : Int32) = i3 19 from rfl)) (by omega) (by omega) (by omega)) ?_
          have r13 := zM_k hZ 2 0 0 (3269 + 24 * a1) (lo := 0) (hi := 743) (by decide) (zs_3250_19 (x := a1) (by omega) (by omega) (by omega))
          refine wz_br (i3Le (zm_rd (Z := Z) (ν := ν) (k := 2) (show ((0 : Nat) : Int) = 0 from rfl) (show ((0 : Nat) : Int) = 0 from rfl) (i3I (y := (3269 + 24 * a1)) (i3A (i3A (show (3250 : Int32) = i3 3250 from rfl) (i3M (show (24 : Int32) = i3 24 from rfl) (rfl : i3 a1 = i3 a1))) (show (19 : Int32) = i3 19 from rfl)) (by omega) (by omega) (by omega))) (zm_rd (Z := Z) (ν := ν) (k := 2) (show ((0 : Nat) : Int) = 0 from rfl) (show ((0 : Nat) : Int) = 0 from rfl) (show ((0 : Nat) : Int) = 0 from rfl)) (by omega) (by omega) (by omega) (by omega)) (fun h14 => ?_) (fun h14 => ?_)
          · replace hP := zE_p hP h14
            exact zlW hP (show (0 : Int32) = i3 0 from rfl) ⟨hZ, zC_r, zU_r, by omega, by omega⟩
          · replace hP := zE_n hP h14
            exact zlW hP (show (1 : Int32) = i3 1 from rfl) ⟨hZ, zC_r, zU_r, by omega, by omega⟩
  · replace hP := zE_n hP h3
    refine wz_i0 (i3O (n := 4400) (i3A (i3A (show (3250 : Int32) = i3 3250 from rfl) (i3M (show (24 : Int32) = i3 24 from rfl) (rfl : i3 a1 = i3 a1))) (show (2 : Int32) = i3 2 from rfl)) (by omega) (by omega) (by omega)) ?_
    have r15 := zM_k hZ 2 0 0 (3252 + 24 * a1) (lo := 0) (hi := 1) (by decide) (zs_3250_2 (x := a1) (by omega) (by omega) (by omega))
    refine wz_br (i3NE (zm_rd (Z := Z) (ν := ν) (k := 2) (show ((0 : Nat) : Int) = 0 from rfl) (show ((0 : Nat) : Int) = 0 from rfl) (i3I (y := (3252 + 24 * a1)) (i3A (i3A (show (3250 : Int32) = i3 3250 from rfl) (i3M (show (24 : Int32) = i3 24 from rfl) (rfl : i3 a1 = i3 a1))) (show (2 : Int32) = i3 2 from rfl)) (by omega) (by omega) (by omega))) (show (1 : Int32) = i3 1 from rfl) (by omega) (by omega) (by omega) (by omega)) (fun h16 => ?_) (fun h16 => ?_)
    · replace hP := zE_p hP h16
      refine wz_i0 (i3O (n := 4400) (i3A (i3A (show (3250 : Int32) = i3 3250 from rfl) (i3M (show (24 : Int32) = i3 24 from rfl) (rfl : i3 a1 = i3 a1))) (show (2 : Int32) = i3 2 from rfl)) (by omega) (by omega) (by omega)) ?_
      refine wz_i1 (Eq.trans (i3NE (zm_rd (Z := Z) (ν := ν) (k := 2) (show ((0 : Nat) : Int) = 0 from rfl) (show ((0 : Nat) : Int) = 0 from rfl) (i3I (y := (3252 + 24 * a1)) (i3A (i3A (show (3250 : Int32) = i3 3250 from rfl) (i3M (show (24 : Int32) = i3 24 from rfl) (rfl : i3 a1 = i3 a1))) (show (2 : Int32) = i3 2 from rfl)) (by omega) (by omega) (by omega))) (show (1 : Int32) = i3 1 from rfl) (by omega) (by omega) (by omega) (by omega)) (decide_eq_true (by omega))) ?_
      obtain ⟨v17, hv17, c9, lv17, uv17⟩ := sp_527 (ν := ν) hZ (a1 := a1) (by omega) (zbh (c := 0) (k := 0) hM (Nat.le_of_ble_eq_true rfl))
      replace hP := zl_e hP hv17
      refine wz_cI_of (zas (zcons rfl (zcons (zvi (rfl : i3 a1 = i3 a1)) rfl)) c9) ?_
      clear c9
      obtain ⟨Z18, hZ18, c9, hZ18I, kZ18, jZ18⟩ := sp_511 (ν := ν) hZ (a1 := v17) (by omega) (zbh (c := 0) (k := 0) hM (Nat.le_of_ble_eq_true rfl))
      have hZ18U : zU [] Z Z18 := zU_t zU_r jZ18 zU_b0
      have hZ18K : zC [1, 95, 96, 97] Z Z18 := zC_t zC_r kZ18 (by decide)
      replace hP := zl_e hP hZ18
      refine wz_cV_of (zas (zcons rfl (zcons (zvi (rfl : i3 v17 = i3 v17)) rfl)) c9) ?_
      clear c9
      obtain ⟨v19, hv19, c9, lv19, uv19⟩ := sp_527 (ν := ν) hZ18I (a1 := a1) (by omega) (zbh (c := 0) (k := 0) hM (Nat.le_of_ble_eq_true rfl))
      replace hP := zl_e hP hv19
      refine wz_cI_of (zas (zcons rfl (zcons (zvi (rfl : i3 a1 = i3 a1)) rfl)) c9) ?_
      clear c9
      obtain ⟨Z20, v21, hv21, c9, hZ20I, kZ20, jZ20, lv21, uv21⟩ := sp_519 (ν := ν) hZ18I (a1 := v19) (by omega) (zbh (c := 0) (k := 0) hM (Nat.le_of_ble_eq_true rfl))
      have hZ20U : zU [] Z Z20 := zU_t hZ18U jZ20 zU_b0
      have hZ20K : zC [1, 95, 96, 97] Z Z20 := zC_t hZ18K kZ20 (by decide)
      replace hP := zl_e2 hP hv21
      refine wz_cI_of (zas (zcons rfl (zcons (zvi (rfl : i3 v19 = i3 v19)) rfl)) c9) ?_
      clear c9 hv21
      have r22 := zM_f hZ18I 1 0 0 25
      refine wz_br (i3NE (zm_rd (Z := Z18) (ν := ν) (k := 1) (show ((0 : Nat) : Int) = 0 from rfl) (show ((0 : Nat) : Int) = 0 from rfl) (show ((25 : Nat) : Int) = 25 from rfl)) (rfl : i3 v21 = i3 v21) (by omega) (by omega) (by omega) (by omega)) (fun h23 => ?_) (fun h23 => ?_)
      · replace hP := zE_p hP h23
        exact zlW hP (show (0 : Int32) = i3 0 from rfl) ⟨hZ20I, hZ20K, hZ20U, by omega, by omega⟩
      · replace hP := zE_n hP h23
        exact zlW hP (show (1 : Int32) = i3 1 from rfl) ⟨hZ20I, hZ20K, hZ20U, by omega, by omega⟩
    · replace hP := zE_n hP h16
      refine sl_528_1 (ν := ν) hZ (zbh (c := 0) (k := 0) hM (Nat.le_of_ble_eq_true rfl)) (x1 := a1) (by omega) (x2 := 1) (by omega) (x3 := 0) (by omega)  (zconso rfl (zconso (zvo (rfl : i3 a1 = i3 a1)) (zconso (zvo (show (1 : Int32) = i3 1 from rfl)) (zconso (zvo (show (0 : Int32) = i3 0 from rfl)) rfl)))) rfl ?_
      intro L26 y24 y25 hL26 gy24 gy25 q9
      replace hP := zl_e2 hP (Eq.symm q9)
      clear q9
      refine fc_528_2 (i3 a1) (i3 y24) _ _ _ _ hL26 ?_
      refine wz_br (i3E (rfl : i3 y24 = i3 y24) (show (0 : Int32) = i3 0 from rfl) (by omega) (by omega) (by omega) (by omega)) (fun h27 => ?_) (fun h27 => ?_)
      · replace hP := zE_p hP h27
        exact zlW hP (show (0 : Int32) = i3 0 from rfl) ⟨hZ, zC_r, zU_r, by omega, by omega⟩
      · replace hP := zE_n hP h27
        refine wz_i0 (i3O (n := 4400) (i3A (i3A (show (3250 : Int32) = i3 3250 from rfl) (i3M (show (24 : Int32) = i3 24 from rfl) (rfl : i3 a1 = i3 a1))) (show (4 : Int32) = i3 4 from rfl)) (by omega) (by omega) (by omega)) ?_
        have r28 := zM_k hZ 2 0 0 0 (lo := 0) (hi := 671) (by decide) rfl
        have r29 := zM_k hZ 2 0 0 (3254 + 24 * a1) (lo := -1) (hi := 671) (by decide) (zs_3250_4 (x := a1) (by omega) (by omega) (by omega))
        refine wz_br (i3L (zm_rd (Z := Z) (ν := ν) (k := 2) (show ((0 : Nat) : Int) = 0 from rfl) (show ((0 : Nat) : Int) = 0 from rfl) (show ((0 : Nat) : Int) = 0 from rfl)) (zm_rd (Z := Z) (ν := ν) (k := 2) (show ((0 : Nat) : Int) = 0 from rfl) (show ((0 : Nat) : Int) = 0 from rfl) (i3I (y := (3254 + 24 * a1)) (i3A (i3A (show (3250 : Int32) = i3 3250 from rfl) (i3M (show (24 : Int32) = i3 24 from rfl) (rfl : i3 a1 = i3 a1))) (show (4 : Int32) = i3 4 from rfl)) (by omega) (by omega) (by omega))) (by omega) (by omega) (by omega) (by omega)) (fun h30 => ?_) (fun h30 => ?_)
        · replace hP := zE_p hP h30
          exact zlW hP (show (0 : Int32) = i3 0 from rfl) ⟨hZ, zC_r, zU_r, by omega, by omega⟩
        · replace hP := zE_n hP h30
          refine wz_i0 (i3O (n := 4400) (i3A (i3A (show (3250 : Int32) = i3 3250 from rfl) (i3M (show (24 : Int32) = i3 24 from rfl) (rfl : i3 a1 = i3 a1))) (show (19 : Int32) = i3 19 from rfl)) (by omega) (by omega) (by omega)) ?_
          have r31 := zM_k hZ 2 0 0 (3269 + 24 * a1) (lo := 0) (hi := 743) (by decide) (zs_3250_19 (x := a1) (by omega) (by omega) (by omega))
          refine wz_br (i3Le (zm_rd (Z := Z) (ν := ν) (k := 2) (show ((0 : Nat) : Int) = 0 from rfl) (show ((0 : Nat) : Int) = 0 from rfl) (i3I (y := (3269 + 24 * a1)) (i3A (i3A (show (3250 : Int32) = i3 3250 from rfl) (i3M (show (24 : Int32) = i3 24 from rfl) (rfl : i3 a1 = i3 a1))) (show (19 : Int32) = i3 19 from rfl)) (by omega) (by omega) (by omega))) (zm_rd (Z := Z) (ν := ν) (k := 2) (show ((0 : Nat) : Int) = 0 from rfl) (show ((0 : Nat) : Int) = 0 from rfl) (show ((0 : Nat) : Int) = 0 from rfl)) (by omega) (by omega) (by omega) (by omega)) (fun h32 => ?_) (fun h32 => ?_)
          · replace hP := zE_p hP h32
            exact zlW hP (show (0 : Int32) = i3 0 from rfl) ⟨hZ, zC_r, zU_r, by omega, by omega⟩
          · replace hP := zE_n hP h32
            exact zlW hP (show (1 : Int32) = i3 1 from rfl) ⟨hZ, zC_r, zU_r, by omega, by omega⟩
/- yX12_tSound -/
def zl_524_1 : Nat → qz_Z → Int → Int → Int × Int
  | 0, Z, x1, x2 => (x1, x2)
  | m + 1, Z, x1, x2 => (if (Z 2 0 0 2000) ≤ x2 then (x1, x2) else (if (Z 2 0 0 (2020 + 16 * x2)) = (-1) then (if x1 = 0 then zl_524_1 m Z 0 (x2 + 1) else (if (Z 2 0 0 (2019 + 16 * x2)) ≠ 1 then zl_524_1 m Z 1 (x2 + 1) else zl_524_1 m Z 0 (x2 + 1))) else (if x1 = 0 then zl_524_1 m Z 0 (x2 + 1) else (if (Z 2 0 0 (2019 + 16 * x2)) ≠ 1 then zl_524_1 m Z 0 (x2 + 1) else (if ((Z 2 0 0 3200) - 1) < (Z 2 0 0 (2020 + 16 * x2)) then zl_524_1 m Z 0 (x2 + 1) else zl_524_1 m Z 1 (x2 + 1))))))
theorem sl_524_1 {s : zSM} {Z : qz_Z} {ν : qz_N} (hZ : zM s Z) (hM : s.2 + 0 ≤ 1000000000) {x1 : Int} (gx1 : 0 ≤ x1 ∧ x1 ≤ 1) {x2 : Int} (gx2 : 0 ≤ x2 ∧ x2 ≤ 60) {k : wz_K} {R : wz_R} {L : qz_L} (hL : qz_fg [true, true, true, false] L = [some (.inr (.inr (some (1, 0, 0)))), some (.inl (i3 x1)), some (.inl (i3 x2)), none]) {T : Int × Int} (hP : zE T (zl_524_1 ((60 - x2).toNat + 1) Z x1 x2)) (hk : ∀ (L9 : qz_L) (yx1 yx2 : Int), qz_fg [true, true, false, false] L9 = [some (.inr (.inr (some (1, 0, 0)))), some (.inl (i3 yx1)), none, none] → (0 ≤ yx1 ∧ yx1 ≤ 1) → (0 ≤ yx2 ∧ yx2 ≤ 60) → zE T ((yx1, yx2)) → k 0 (L9, [], zm Z ν)) : wz_loop qb_524_1 65536 k R (L, [], zm Z ν) := by
  refine wz_lp sb_524_1 (fun m x => ∃ x1 : Int, ∃ x2 : Int, qz_fg [true, true, true, false] x.1 = [some (.inr (.inr (some (1, 0, 0)))), some (.inl (i3 x1)), some (.inl (i3 x2)), none] ∧ x.2 = ([], zm Z ν) ∧ m = (60 - x2).toNat ∧ (0 ≤ x1 ∧ x1 ≤ 1) ∧ (0 ≤ x2 ∧ x2 ≤ 60) ∧ zE T (zl_524_1 (m + 1) Z x1 x2)) ?_ 65536 ((60 - x2).toNat) _ (by omega) ⟨x1, x2, hL, rfl, rfl, gx1, gx2, hP⟩
  clear hP gx1 gx2 hL
  clear x1 x2
  rintro m ⟨L, st, μ⟩ ⟨x1, x2, hL, hx, hm, gx1, gx2, hP⟩
  cases hx
  refine fb_524_1 (i3 x1) (i3 x2) _ _ _ _ hL ?_
  have r1 := zM_k hZ 2 0 0 2000 (lo := 0) (hi := 60) (by decide) rfl
  refine wz_br (i3Le (zm_rd (Z := Z) (ν := ν) (k := 2) (show ((0 : Nat) : Int) = 0 from rfl) (show ((0 : Nat) : Int) = 0 from rfl) (show ((2000 : Nat) : Int) = 2000 from rfl)) (rfl : i3 x2 = i3 x2) (by omega) (by omega) (by omega) (by omega)) (fun h2 => ?_) (fun h2 => ?_)
  · replace hP := zE_p hP h2
    exact hk _ _ _ (zconso rfl (zconso (zvo (rfl : i3 x1 = i3 x1)) (zconso rfl (zconso rfl rfl))))  (by omega) (by omega)  hP
  · replace hP := zE_n hP h2
    refine wz_i0 (i3O (n := 4400) (i3A (i3A (show (2010 : Int32) = i3 2010 from rfl) (i3M (show (16 : Int32) = i3 16 from rfl) (rfl : i3 x2 = i3 x2))) (show (10 : Int32) = i3 10 from rfl)) (by omega) (by omega) (by omega)) ?_
    have r3 := zM_k hZ 2 0 0 (2020 + 16 * x2) (lo := -1) (hi := 3) (by decide) (zs_2010_10 (x := x2) (by omega) (by omega) (by omega))
    have r4 := zM_lt2 hZ x2
    refine wz_br (i3E (zm_rd (Z := Z) (ν := ν) (k := 2) (show ((0 : Nat) : Int) = 0 from rfl) (show ((0 : Nat) : Int) = 0 from rfl) (i3I (y := (2020 + 16 * x2)) (i3A (i3A (show (2010 : Int32) = i3 2010 from rfl) (i3M (show (16 : Int32) = i3 16 from rfl) (rfl : i3 x2 = i3 x2))) (show (10 : Int32) = i3 10 from rfl)) (by omega) (by omega) (by omega))) (show (-1 : Int32) = i3 (-1) from rfl) (by omega) (by omega) (by omega) (by omega)) (fun h5 => ?_) (fun h5 => ?_)
    · replace hP := zE_p hP h5
      refine wz_br (i3E (rfl : i3 x1 = i3 x1) (show (0 : Int32) = i3 0 from rfl) (by omega) (by omega) (by omega) (by omega)) (fun h6 => ?_) (fun h6 => ?_)
      · replace hP := zE_p hP h6
        obtain ⟨m2, rfl⟩ : ∃ m2, m = m2 + 1 := ⟨m - 1, by omega⟩
        exact wz_k1 ⟨m2, by omega, 0, (x2 + 1), (zconso rfl (zconso (zvo (show (0 : Int32) = i3 0 from rfl)) (zconso (zvo (i3A (rfl : i3 x2 = i3 x2) (show (1 : Int32) = i3 1 from rfl))) (zconso rfl rfl)))), rfl,  by omega, by omega, by omega,  hP⟩
      · replace hP := zE_n hP h6
        refine wz_i0 (i3O (n := 4400) (i3A (i3A (show (2010 : Int32) = i3 2010 from rfl) (i3M (show (16 : Int32) = i3 16 from rfl) (rfl : i3 x2 = i3 x2))) (show (9 : Int32) = i3 9 from rfl)) (by omega) (by omega) (by omega)) ?_
        have r7 := zM_k hZ 2 0 0 (2019 + 16 * x2) (lo := 0) (hi := 3) (by decide) (zs_2010_9 (x := x2) (by omega) (by omega) (by omega))
        refine wz_br (i3NE (zm_rd (Z := Z) (ν := ν) (k := 2) (show ((0 : Nat) : Int) = 0 from rfl) (show ((0 : Nat) : Int) = 0 from rfl) (i3I (y := (2019 + 16 * x2)) (i3A (i3A (show (2010 : Int32) = i3 2010 from rfl) (i3M (show (16 : Int32) = i3 16 from rfl) (rfl : i3 x2 = i3 x2))) (show (9 : Int32) = i3 9 from rfl)) (by omega) (by omega) (by omega))) (show (1 : Int32) = i3 1 from rfl) (by omega) (by omega) (by omega) (by omega)) (fun h8 => ?_) (fun h8 => ?_)
        · replace hP := zE_p hP h8
          obtain ⟨m2, rfl⟩ : ∃ m2, m = m2 + 1 := ⟨m - 1, by omega⟩
          exact wz_k1 ⟨m2, by omega, 1, (x2 + 1), (zconso rfl (zconso (zvo (show (1 : Int32) = i3 1 from rfl)) (zconso (zvo (i3A (rfl : i3 x2 = i3 x2) (show (1 : Int32) = i3 1 from rfl))) (zconso rfl rfl)))), rfl,  by omega, by omega, by omega,  hP⟩
        · replace hP := zE_n hP h8
          obtain ⟨m2, rfl⟩ : ∃ m2, m = m2 + 1 := ⟨m - 1, by omega⟩
          exact wz_k1 ⟨m2, by omega, 0, (x2 + 1), (zconso rfl (zconso (zvo (show (0 : Int32) = i3 0 from rfl)) (zconso (zvo (i3A (rfl : i3 x2 = i3 x2) (show (1 : Int32) = i3 1 from rfl))) (zconso rfl rfl)))), rfl,  by omega, by omega, by omega,  hP⟩
    · replace hP := zE_n hP h5
      refine wz_br (i3E (rfl : i3 x1 = i3 x1) (show (0 : Int32) = i3 0 from rfl) (by omega) (by omega) (by omega) (by omega)) (fun h9 => ?_) (fun h9 => ?_)
      · replace hP := zE_p hP h9
        obtain ⟨m2, rfl⟩ : ∃ m2, m = m2 + 1 := ⟨m - 1, by omega⟩
        exact wz_k1 ⟨m2, by omega, 0, (x2 + 1), (zconso rfl (zconso (zvo (show (0 : Int32) = i3 0 from rfl)) (zconso (zvo (i3A (rfl : i3 x2 = i3 x2) (show (1 : Int32) = i3 1 from rfl))) (zconso rfl rfl)))), rfl,  by omega, by omega, by omega,  hP⟩
      · replace hP := zE_n hP h9
        refine wz_i0 (i3O (n := 4400) (i3A (i3A (show (2010 : Int32) = i3 2010 from rfl) (i3M (show (16 : Int32) = i3 16 from rfl) (rfl : i3 x2 = i3 x2))) (show (9 : Int32) = i3 9 from rfl)) (by omega) (by omega) (by omega)) ?_
        have r10 := zM_k hZ 2 0 0 (2019 + 16 * x2) (lo := 0) (hi := 3) (by decide) (zs_2010_9 (x := x2) (by omega) (by omega) (by omega))
        refine wz_br (i3NE (zm_rd (Z := Z) (ν := ν) (k := 2) (show ((0 : Nat) : Int) = 0 from rfl) (show ((0 : Nat) : Int) = 0 from rfl) (i3I (y := (2019 + 16 * x2)) (i3A (i3A (show (2010 : Int32) = i3 2010 from rfl) (i3M (show (16 : Int32) = i3 16 from rfl) (rfl : i3 x2 = i3 x2))) (show (9 : Int32) = i3 9 from rfl)) (by omega) (by omega) (by omega))) (show (1 : Int32) = i3 1 from rfl) (by omega) (by omega) (by omega) (by omega)) (fun h11 => ?_) (fun h11 => ?_)
        · replace hP := zE_p hP h11
          obtain ⟨m2, rfl⟩ : ∃ m2, m = m2 + 1 := ⟨m - 1, by omega⟩
          exact wz_k1 ⟨m2, by omega, 0, (x2 + 1), (zconso rfl (zconso (zvo (show (0 : Int32) = i3 0 from rfl)) (zconso (zvo (i3A (rfl : i3 x2 = i3 x2) (show (1 : Int32) = i3 1 from rfl))) (zconso rfl rfl)))), rfl,  by omega, by omega, by omega,  hP⟩
        · replace hP := zE_n hP h11
          refine wz_i0 (i3O (n := 4400) (i3A (i3A (show (2010 : Int32) = i3 2010 from rfl) (i3M (show (16 : Int32) = i3 16 from rfl) (rfl : i3 x2 = i3 x2))) (show (10 : Int32) = i3 10 from rfl)) (by omega) (by omega) (by omega)) ?_
          refine wz_i0 (Eq.trans (i3L (zm_rd (Z := Z) (ν := ν) (k := 2) (show ((0 : Nat) : Int) = 0 from rfl) (show ((0 : Nat) : Int) = 0 from rfl) (i3I (y := (2020 + 16 * x2)) (i3A (i3A (show (2010 : Int32) = i3 2010 from rfl) (i3M (show (16 : Int32) = i3 16 from rfl) (rfl : i3 x2 = i3 x2))) (show (10 : Int32) = i3 10 from rfl)) (by omega) (by omega) (by omega))) (show (0 : Int32) = i3 0 from rfl) (by omega) (by omega) (by omega) (by omega)) (decide_eq_false (by omega))) ?_
          have r12 := zM_k hZ 2 0 0 3200 (lo := 0) (hi := 4) (by decide) rfl
          refine wz_br (i3L (i3S (zm_rd (Z := Z) (ν := ν) (k := 2) (show ((0 : Nat) : Int) = 0 from rfl) (show ((0 : Nat) : Int) = 0 from rfl) (show ((3200 : Nat) : Int) = 3200 from rfl)) (show (1 : Int32) = i3 1 from rfl)) (zm_rd (Z := Z) (ν := ν) (k := 2) (show ((0 : Nat) : Int) = 0 from rfl) (show ((0 : Nat) : Int) = 0 from rfl) (i3I (y := (2020 + 16 * x2)) (i3A (i3A (show (2010 : Int32) = i3 2010 from rfl) (i3M (show (16 : Int32) = i3 16 from rfl) (rfl : i3 x2 = i3 x2))) (show (10 : Int32) = i3 10 from rfl)) (by omega) (by omega) (by omega))) (by omega) (by omega) (by omega) (by omega)) (fun h13 => ?_) (fun h13 => ?_)
          · replace hP := zE_p hP h13
            obtain ⟨m2, rfl⟩ : ∃ m2, m = m2 + 1 := ⟨m - 1, by omega⟩
            exact wz_k1 ⟨m2, by omega, 0, (x2 + 1), (zconso rfl (zconso (zvo (show (0 : Int32) = i3 0 from rfl)) (zconso (zvo (i3A (rfl : i3 x2 = i3 x2) (show (1 : Int32) = i3 1 from rfl))) (zconso rfl rfl)))), rfl,  by omega, by omega, by omega,  hP⟩
          · replace hP := zE_n hP h13
            obtain ⟨m2, rfl⟩ : ∃ m2, m = m2 + 1 := ⟨m - 1, by omega⟩
            exact wz_k1 ⟨m2, by omega, 1, (x2 + 1), (zconso rfl (zconso (zvo (show (1 : Int32) = i3 1 from rfl)) (zconso (zvo (i3A (rfl : i3 x2 = i3 x2) (show (1 : Int32) = i3 1 from rfl))) (zconso rfl rfl)))), rfl,  by omega, by omega, by omega,  hP⟩
/- yX12_tSound -/
def zl_524_2 : Nat → qz_Z → Int → Int → qz_Z × Int × Int
  | 0, Z, x1, x2 => (Z, x1, x2)
  | m + 1, Z, x1, x2 => (if (Z 2 0 0 3200) ≤ x2 then (Z, x1, x2) else (if x1 = 0 then zl_524_2 m Z 0 (x2 + 1) else (zlet2 (zf_528 Z x2) (fun Z4 v5 => (if v5 = 0 then zl_524_2 m Z4 0 (x2 + 1) else zl_524_2 m Z4 1 (x2 + 1))))))
theorem sl_524_2 {s : zSM} {Zs Z : qz_Z} {ν : qz_N} (hZ : zM s Z) (hM : s.2 + 0 ≤ 1000000000) (hK : zC [1, 95, 96, 97] Zs Z) {x1 : Int} (gx1 : 0 ≤ x1 ∧ x1 ≤ 1) {x2 : Int} (gx2 : 0 ≤ x2 ∧ x2 ≤ 4) (hU : zU [] Zs Z) {k : wz_K} {R : wz_R} {L : qz_L} (hL : qz_fg [true, true, true, false] L = [some (.inr (.inr (some (1, 0, 0)))), some (.inl (i3 x1)), some (.inl (i3 x2)), none]) {T : qz_Z × Int × Int} (hP : zE T (zl_524_2 ((4 - x2).toNat + 1) Z x1 x2)) (hk : ∀ (L9 : qz_L) (Z9 : qz_Z) (yx1 yx2 : Int), qz_fg [false, true, false, false] L9 = [none, some (.inl (i3 yx1)), none, none] → zM s Z9 → zC [1, 95, 96, 97] Zs Z9 → zU [] Zs Z9 → (0 ≤ yx1 ∧ yx1 ≤ 1) → (0 ≤ yx2 ∧ yx2 ≤ 4) → zE T ((Z9, yx1, yx2)) → k 0 (L9, [], zm Z9 ν)) : wz_loop qb_524_2 65536 k R (L, [], zm Z ν) := by
  refine wz_lp sb_524_2 (fun m x => ∃ Z : qz_Z, ∃ x1 : Int, ∃ x2 : Int, qz_fg [true, true, true, false] x.1 = [some (.inr (.inr (some (1, 0, 0)))), some (.inl (i3 x1)), some (.inl (i3 x2)), none] ∧ x.2 = ([], zm Z ν) ∧ zM s Z ∧ zC [1, 95, 96, 97] Zs Z ∧ zU [] Zs Z ∧ m = (4 - x2).toNat ∧ (0 ≤ x1 ∧ x1 ≤ 1) ∧ (0 ≤ x2 ∧ x2 ≤ 4) ∧ zE T (zl_524_2 (m + 1) Z x1 x2)) ?_ 65536 ((4 - x2).toNat) _ (by omega) ⟨Z, x1, x2, hL, rfl, hZ, hK, hU, rfl, gx1, gx2, hP⟩
  clear hP gx1 gx2 hZ hK hU hL
  clear x1 x2
  clear Z
  rintro m ⟨L, st, μ⟩ ⟨Z, x1, x2, hL, hx, hZ, hK, hU, hm, gx1, gx2, hP⟩
  cases hx
  refine fb_524_2 (i3 x1) (i3 x2) _ _ _ _ hL ?_
  have r1 := zM_k hZ 2 0 0 3200 (lo := 0) (hi := 4) (by decide) rfl
  refine wz_br (i3Le (zm_rd (Z := Z) (ν := ν) (k := 2) (show ((0 : Nat) : Int) = 0 from rfl) (show ((0 : Nat) : Int) = 0 from rfl) (show ((3200 : Nat) : Int) = 3200 from rfl)) (rfl : i3 x2 = i3 x2) (by omega) (by omega) (by omega) (by omega)) (fun h2 => ?_) (fun h2 => ?_)
  · replace hP := zE_p hP h2
    exact hk _ _ _ _ (zconso rfl (zconso (zvo (rfl : i3 x1 = i3 x1)) (zconso rfl (zconso rfl rfl)))) hZ hK hU (by omega) (by omega)  hP
  · replace hP := zE_n hP h2
    refine wz_br (i3E (rfl : i3 x1 = i3 x1) (show (0 : Int32) = i3 0 from rfl) (by omega) (by omega) (by omega) (by omega)) (fun h3 => ?_) (fun h3 => ?_)
    · replace hP := zE_p hP h3
      obtain ⟨m2, rfl⟩ : ∃ m2, m = m2 + 1 := ⟨m - 1, by omega⟩
      exact wz_k1 ⟨m2, by omega, Z, 0, (x2 + 1), (zconso rfl (zconso (zvo (show (0 : Int32) = i3 0 from rfl)) (zconso (zvo (i3A (rfl : i3 x2 = i3 x2) (show (1 : Int32) = i3 1 from rfl))) (zconso rfl rfl)))), rfl, hZ, hK, hU, by omega, by omega, by omega,  hP⟩
    · replace hP := zE_n hP h3
      obtain ⟨Z4, v5, hv5, c9, hZ4I, kZ4, jZ4, lv5, uv5⟩ := sp_528 (ν := ν) hZ (a1 := x2) (by omega) (zbh (c := 0) (k := 0) hM (Nat.le_of_ble_eq_true rfl))
      have hZ4U : zU [] Zs Z4 := zU_t hU jZ4 zU_b0
      have hZ4K : zC [1, 95, 96, 97] Zs Z4 := zC_t hK kZ4 (by decide)
      replace hP := zl_e2 hP hv5
      refine wz_cI_of (zas (zcons rfl (zcons (zvi (rfl : i3 x2 = i3 x2)) rfl)) c9) ?_
      clear c9 hv5
      refine wz_br (i3E (rfl : i3 v5 = i3 v5) (show (0 : Int32) = i3 0 from rfl) (by omega) (by omega) (by omega) (by omega)) (fun h6 => ?_) (fun h6 => ?_)
      · replace hP := zE_p hP h6
        obtain ⟨m2, rfl⟩ : ∃ m2, m = m2 + 1 := ⟨m - 1, by omega⟩
        exact wz_k1 ⟨m2, by omega, Z4, 0, (x2 + 1), (zconso rfl (zconso (zvo (show (0 : Int32) = i3 0 from rfl)) (zconso (zvo (i3A (rfl : i3 x2 = i3 x2) (show (1 : Int32) = i3 1 from rfl))) (zconso rfl rfl)))), rfl, hZ4I, hZ4K, hZ4U, by omega, by omega, by omega,  hP⟩
      · replace hP := zE_n hP h6
        obtain ⟨m2, rfl⟩ : ∃ m2, m = m2 + 1 := ⟨m - 1, by omega⟩
        exact wz_k1 ⟨m2, by omega, Z4, 1, (x2 + 1), (zconso rfl (zconso (zvo (show (1 : Int32) = i3 1 from rfl)) (zconso (zvo (i3A (rfl : i3 x2 = i3 x2) (show (1 : Int32) = i3 1 from rfl))) (zconso rfl rfl)))), rfl, hZ4I, hZ4K, hZ4U, by omega, by omega, by omega,  hP⟩
/- yX12_tSound -/
def zf_524 (Z : qz_Z) : qz_Z × Int := (zlet (zf_508 Z) (fun v1 => (if (Z 2 0 0 3201) < v1 then (zlet2 (zl_524_1 61 Z 0 0) (fun y4 y5 => (zlet3 (zl_524_2 5 Z y4 0) (fun Z9 y7 y8 => (Z9, y7))))) else (zlet2 (zl_524_1 61 Z 1 0) (fun y11 y12 => (zlet3 (zl_524_2 5 Z y11 0) (fun Z16 y14 y15 => (Z16, y14))))))))
theorem sp_524 {s : zSM} {Z : qz_Z} {ν : qz_N} (hZ : zM s Z) (hM : s.2 + 0 ≤ 1000000000) : ∃ (Z1 : qz_Z) (P : Int), (Z1, P) = zf_524 Z ∧ (qf_524 [.inr (.inr (some (1, 0, 0)))] (zm Z ν) = some (zm Z1 ν, .inl (some (.inl (i3 P)))) ∧ zM s Z1 ∧ zC [1, 95, 96, 97] Z Z1 ∧ zU [] Z Z1 ∧ 0 ≤ P ∧ P ≤ 1) := by
  obtain ⟨P, hP⟩ := zx (zf_524 Z)
  refine zc_W (Q := fun Z1 P => zM s Z1 ∧ zC [1, 95, 96, 97] Z Z1 ∧ zU [] Z Z1 ∧ 0 ≤ P ∧ P ≤ 1) hP (fw_524  _ _ ?_)
  replace hP : zE P (zf_524 Z) := hP
  unfold zf_524 at hP
  obtain ⟨v1, hv1, c9, lv1, uv1⟩ := sp_508 (ν := ν) hZ (zbh (c := 0) (k := 0) hM (Nat.le_of_ble_eq_true rfl))
  replace hP := zl_e hP hv1
  refine wz_cI_of (zas (zcons rfl rfl) c9) ?_
  clear c9
  have r2 := zM_k hZ 2 0 0 3201 (lo := 0) (hi := 4) (by decide) rfl
  refine wz_br (i3L (zm_rd (Z := Z) (ν := ν) (k := 2) (show ((0 : Nat) : Int) = 0 from rfl) (show ((0 : Nat) : Int) = 0 from rfl) (show ((3201 : Nat) : Int) = 3201 from rfl)) (rfl : i3 v1 = i3 v1) (by omega) (by omega) (by omega) (by omega)) (fun h3 => ?_) (fun h3 => ?_)
  · replace hP := zE_p hP h3
    refine sl_524_1 (ν := ν) hZ (zbh (c := 0) (k := 0) hM (Nat.le_of_ble_eq_true rfl)) (x1 := 0) (by omega) (x2 := 0) (by omega)  (zconso rfl (zconso (zvo (show (0 : Int32) = i3 0 from rfl)) (zconso (zvo (show (0 : Int32) = i3 0 from rfl)) (zconso rfl rfl)))) rfl ?_
    intro L6 y4 y5 hL6 gy4 gy5 q9
    replace hP := zl_e2 hP (Eq.symm q9)
    clear q9
    refine fc_524_4 (i3 y4) _ _ _ _ hL6 ?_
    refine sl_524_2 (ν := ν) hZ (zbh (c := 0) (k := 0) hM (Nat.le_of_ble_eq_true rfl)) zC_r (x1 := y4) (by omega) (x2 := 0) (by omega) zU_r  (zconso rfl (zconso (zvo (rfl : i3 y4 = i3 y4)) (zconso (zvo (show (0 : Int32) = i3 0 from rfl)) (zconso rfl rfl)))) rfl ?_
    intro L10 Z9 y7 y8 hL10 hZ9I kZ9 jZ9 gy7 gy8 q9
    replace hP := zl_e3 hP (Eq.symm q9)
    clear q9
    have hZ9U : zU [] Z Z9 := zU_t zU_r jZ9 zU_b0
    have hZ9K : zC [1, 95, 96, 97] Z Z9 := zC_t zC_r kZ9 (by decide)
    refine fc_524_3 (i3 y7) _ _ _ _ hL10 ?_
    refine wz_i1 (i3B (rfl : i3 y7 = i3 y7) (by omega)) ?_
    exact zlW hP (rfl : i3 y7 = i3 y7) ⟨hZ9I, hZ9K, hZ9U, by omega, by omega⟩
  · replace hP := zE_n hP h3
    refine sl_524_1 (ν := ν) hZ (zbh (c := 0) (k := 0) hM (Nat.le_of_ble_eq_true rfl)) (x1 := 1) (by omega) (x2 := 0) (by omega)  (zconso rfl (zconso (zvo (show (1 : Int32) = i3 1 from rfl)) (zconso (zvo (show (0 : Int32) = i3 0 from rfl)) (zconso rfl rfl)))) rfl ?_
    intro L13 y11 y12 hL13 gy11 gy12 q9
    replace hP := zl_e2 hP (Eq.symm q9)
    clear q9
    refine fc_524_4 (i3 y11) _ _ _ _ hL13 ?_
    refine sl_524_2 (ν := ν) hZ (zbh (c := 0) (k := 0) hM (Nat.le_of_ble_eq_true rfl)) zC_r (x1 := y11) (by omega) (x2 := 0) (by omega) zU_r  (zconso rfl (zconso (zvo (rfl : i3 y11 = i3 y11)) (zconso (zvo (show (0 : Int32) = i3 0 from rfl)) (zconso rfl rfl)))) rfl ?_
    intro L17 Z16 y14 y15 hL17 hZ16I kZ16 jZ16 gy14 gy15 q9
    replace hP := zl_e3 hP (Eq.symm q9)
    clear q9
    have hZ16U : zU [] Z Z16 := zU_t zU_r jZ16 zU_b0
    have hZ16K : zC [1, 95, 96, 97] Z Z16 := zC_t zC_r kZ16 (by decide)
    refine fc_524_3 (i3 y14) _ _ _ _ hL17 ?_
    refine wz_i1 (i3B (rfl : i3 y14 = i3 y14) (by omega)) ?_
    exact zlW hP (rfl : i3 y14 = i3 y14) ⟨hZ16I, hZ16K, hZ16U, by omega, by omega⟩
/- yX12_iIsWell -/
def zf_362 (Z : qz_Z) (a1 : Int) : Int := (if (Z 2 0 0 0) < (Z 2 0 0 (1 + a1)) then 0 else (if a1 = 3560 then (if (Z 2 0 0 (3 + a1)) ≠ 0 then 1 else (if (Z 2 0 0 (210 + 20 * (Z 2 0 0 (2 + a1)))) ≠ 3 then 0 else 1)) else (if (Z 2 0 0 (1 + a1)) < (Z 2 0 0 ((-5) + a1)) then 0 else (if (Z 2 0 0 (3 + a1)) ≠ 0 then 1 else (if (Z 2 0 0 (210 + 20 * (Z 2 0 0 (2 + a1)))) ≠ 3 then 0 else 1)))))
theorem sp_362 {s : zSM} {Z : qz_Z} {ν : qz_N} (hZ : zM s Z) {a1 : Int} (ga1 : 3560 ≤ a1 ∧ a1 ≤ 3698) (gx0 : (a1 - 3560) % 6 = 0) (hM : s.2 + 0 ≤ 1000000000) : ∃ P : Int, P = zf_362 Z a1 ∧ (qf_362 [.inr (.inr (some (1, 0, 0))), .inl (i3 a1)] (zm Z ν) = some (zm Z ν, .inl (some (.inl (i3 P)))) ∧ 0 ≤ P ∧ P ≤ 1) := by
  obtain ⟨P, hP⟩ := zx (zf_362 Z a1)
  refine zc_R (Q := fun P => 0 ≤ P ∧ P ≤ 1) hP (fw_362 (i3 a1) _ _ ?_)
  replace hP : zE P (zf_362 Z a1) := hP
  unfold zf_362 at hP
  have r1 := zM_k hZ 2 0 0 (2 + a1) (lo := 0) (hi := 47) (by decide) (zs_3560_2 (x := (a1 - 3560) / 6) (by omega) (by omega) (by omega))
  refine wz_i0 (i3O (n := 4400) (i3A (rfl : i3 a1 = i3 a1) (show (1 : Int32) = i3 1 from rfl)) (by omega) (by omega) (by omega)) ?_
  have r2 := zM_k hZ 2 0 0 0 (lo := 0) (hi := 671) (by decide) rfl
  have r3 := zM_f hZ 2 0 0 (1 + a1)
  refine wz_br (i3L (zm_rd (Z := Z) (ν := ν) (k := 2) (show ((0 : Nat) : Int) = 0 from rfl) (show ((0 : Nat) : Int) = 0 from rfl) (show ((0 : Nat) : Int) = 0 from rfl)) (zm_rd (Z := Z) (ν := ν) (k := 2) (show ((0 : Nat) : Int) = 0 from rfl) (show ((0 : Nat) : Int) = 0 from rfl) (i3I (y := (1 + a1)) (i3A (rfl : i3 a1 = i3 a1) (show (1 : Int32) = i3 1 from rfl)) (by omega) (by omega) (by omega))) (by omega) (by omega) (by omega) (by omega)) (fun h4 => ?_) (fun h4 => ?_)
  · replace hP := zE_p hP h4
    exact zlR hP (show (0 : Int32) = i3 0 from rfl) ⟨by omega, by omega⟩
  · replace hP := zE_n hP h4
    refine wz_br (i3E (rfl : i3 a1 = i3 a1) (show (3560 : Int32) = i3 3560 from rfl) (by omega) (by omega) (by omega) (by omega)) (fun h5 => ?_) (fun h5 => ?_)
    · replace hP := zE_p hP h5
      refine wz_i0 (i3O (n := 4400) (i3A (rfl : i3 a1 = i3 a1) (show (3 : Int32) = i3 3 from rfl)) (by omega) (by omega) (by omega)) ?_
      have r6 := zM_f hZ 2 0 0 (3 + a1)
      refine wz_br (i3NE (zm_rd (Z := Z) (ν := ν) (k := 2) (show ((0 : Nat) : Int) = 0 from rfl) (show ((0 : Nat) : Int) = 0 from rfl) (i3I (y := (3 + a1)) (i3A (rfl : i3 a1 = i3 a1) (show (3 : Int32) = i3 3 from rfl)) (by omega) (by omega) (by omega))) (show (0 : Int32) = i3 0 from rfl) (by omega) (by omega) (by omega) (by omega)) (fun h7 => ?_) (fun h7 => ?_)
      · replace hP := zE_p hP h7
        exact zlR hP (show (1 : Int32) = i3 1 from rfl) ⟨by omega, by omega⟩
      · replace hP := zE_n hP h7
        refine wz_i0 (i3O (n := 4400) (i3A (rfl : i3 a1 = i3 a1) (show (2 : Int32) = i3 2 from rfl)) (by omega) (by omega) (by omega)) ?_
        have r8 := zM_f hZ 2 0 0 (2 + a1)
        refine wz_i0 (i3O (n := 4400) (i3A (i3A (show (200 : Int32) = i3 200 from rfl) (i3M (show (20 : Int32) = i3 20 from rfl) (zm_rd (Z := Z) (ν := ν) (k := 2) (show ((0 : Nat) : Int) = 0 from rfl) (show ((0 : Nat) : Int) = 0 from rfl) (i3I (y := (2 + a1)) (i3A (rfl : i3 a1 = i3 a1) (show (2 : Int32) = i3 2 from rfl)) (by omega) (by omega) (by omega))))) (show (10 : Int32) = i3 10 from rfl)) (by omega) (by omega) (by omega)) ?_
        have r9 := zM_k hZ 2 0 0 (210 + 20 * (Z 2 0 0 (2 + a1))) (lo := 0) (hi := 4) (by decide) (zs_200_10 (x := (Z 2 0 0 (2 + a1))) (by omega) (by omega) (by omega))
        have r10 := zM_pl hZ (Z 2 0 0 (2 + a1))
        have r11 := zM_k hZ 2 0 0 102 (lo := 0) (hi := 48) (by decide) rfl
        refine wz_br (i3NE (zm_rd (Z := Z) (ν := ν) (k := 2) (show ((0 : Nat) : Int) = 0 from rfl) (show ((0 : Nat) : Int) = 0 from rfl) (i3I (y := (210 + 20 * (Z 2 0 0 (2 + a1)))) (i3A (i3A (show (200 : Int32) = i3 200 from rfl) (i3M (show (20 : Int32) = i3 20 from rfl) (zm_rd (Z := Z) (ν := ν) (k := 2) (show ((0 : Nat) : Int) = 0 from rfl) (show ((0 : Nat) : Int) = 0 from rfl) (i3I (y := (2 + a1)) (i3A (rfl : i3 a1 = i3 a1) (show (2 : Int32) = i3 2 from rfl)) (by omega) (by omega) (by omega))))) (show (10 : Int32) = i3 10 from rfl)) (by omega) (by omega) (by omega))) (show (3 : Int32) = i3 3 from rfl) (by omega) (by omega) (by omega) (by omega)) (fun h12 => ?_) (fun h12 => ?_)
        · replace hP := zE_p hP h12
          exact zlR hP (show (0 : Int32) = i3 0 from rfl) ⟨by omega, by omega⟩
        · replace hP := zE_n hP h12
          exact zlR hP (show (1 : Int32) = i3 1 from rfl) ⟨by omega, by omega⟩
    · replace hP := zE_n hP h5
      refine wz_i0 (i3O (n := 4400) (i3S (rfl : i3 a1 = i3 a1) (show (5 : Int32) = i3 5 from rfl)) (by omega) (by omega) (by omega)) ?_
      refine wz_i0 (i3O (n := 4400) (i3A (rfl : i3 a1 = i3 a1) (show (1 : Int32) = i3 1 from rfl)) (by omega) (by omega) (by omega)) ?_
      have r13 := zM_f hZ 2 0 0 ((-5) + a1)
      refine wz_br (i3L (zm_rd (Z := Z) (ν := ν) (k := 2) (show ((0 : Nat) : Int) = 0 from rfl) (show ((0 : Nat) : Int) = 0 from rfl) (i3I (y := (1 + a1)) (i3A (rfl : i3 a1 = i3 a1) (show (1 : Int32) = i3 1 from rfl)) (by omega) (by omega) (by omega))) (zm_rd (Z := Z) (ν := ν) (k := 2) (show ((0 : Nat) : Int) = 0 from rfl) (show ((0 : Nat) : Int) = 0 from rfl) (i3I (y := ((-5) + a1)) (i3S (rfl : i3 a1 = i3 a1) (show (5 : Int32) = i3 5 from rfl)) (by omega) (by omega) (by omega))) (by omega) (by omega) (by omega) (by omega)) (fun h14 => ?_) (fun h14 => ?_)
      · replace hP := zE_p hP h14
        exact zlR hP (show (0 : Int32) = i3 0 from rfl) ⟨by omega, by omega⟩
      · replace hP := zE_n hP h14
        refine wz_i0 (i3O (n := 4400) (i3A (rfl : i3 a1 = i3 a1) (show (3 : Int32) = i3 3 from rfl)) (by omega) (by omega) (by omega)) ?_
        have r15 := zM_f hZ 2 0 0 (3 + a1)
        refine wz_br (i3NE (zm_rd (Z := Z) (ν := ν) (k := 2) (show ((0 : Nat) : Int) = 0 from rfl) (show ((0 : Nat) : Int) = 0 from rfl) (i3I (y := (3 + a1)) (i3A (rfl : i3 a1 = i3 a1) (show (3 : Int32) = i3 3 from rfl)) (by omega) (by omega) (by omega))) (show (0 : Int32) = i3 0 from rfl) (by omega) (by omega) (by omega) (by omega)) (fun h16 => ?_) (fun h16 => ?_)
        · replace hP := zE_p hP h16
          exact zlR hP (show (1 : Int32) = i3 1 from rfl) ⟨by omega, by omega⟩
        · replace hP := zE_n hP h16
          refine wz_i0 (i3O (n := 4400) (i3A (rfl : i3 a1 = i3 a1) (show (2 : Int32) = i3 2 from rfl)) (by omega) (by omega) (by omega)) ?_
          have r17 := zM_f hZ 2 0 0 (2 + a1)
          refine wz_i0 (i3O (n := 4400) (i3A (i3A (show (200 : Int32) = i3 200 from rfl) (i3M (show (20 : Int32) = i3 20 from rfl) (zm_rd (Z := Z) (ν := ν) (k := 2) (show ((0 : Nat) : Int) = 0 from rfl) (show ((0 : Nat) : Int) = 0 from rfl) (i3I (y := (2 + a1)) (i3A (rfl : i3 a1 = i3 a1) (show (2 : Int32) = i3 2 from rfl)) (by omega) (by omega) (by omega))))) (show (10 : Int32) = i3 10 from rfl)) (by omega) (by omega) (by omega)) ?_
          have r18 := zM_k hZ 2 0 0 (210 + 20 * (Z 2 0 0 (2 + a1))) (lo := 0) (hi := 4) (by decide) (zs_200_10 (x := (Z 2 0 0 (2 + a1))) (by omega) (by omega) (by omega))
          have r19 := zM_pl hZ (Z 2 0 0 (2 + a1))
          have r20 := zM_k hZ 2 0 0 102 (lo := 0) (hi := 48) (by decide) rfl
          refine wz_br (i3NE (zm_rd (Z := Z) (ν := ν) (k := 2) (show ((0 : Nat) : Int) = 0 from rfl) (show ((0 : Nat) : Int) = 0 from rfl) (i3I (y := (210 + 20 * (Z 2 0 0 (2 + a1)))) (i3A (i3A (show (200 : Int32) = i3 200 from rfl) (i3M (show (20 : Int32) = i3 20 from rfl) (zm_rd (Z := Z) (ν := ν) (k := 2) (show ((0 : Nat) : Int) = 0 from rfl) (show ((0 : Nat) : Int) = 0 from rfl) (i3I (y := (2 + a1)) (i3A (rfl : i3 a1 = i3 a1) (show (2 : Int32) = i3 2 from rfl)) (by omega) (by omega) (by omega))))) (show (10 : Int32) = i3 10 from rfl)) (by omega) (by omega) (by omega))) (show (3 : Int32) = i3 3 from rfl) (by omega) (by omega) (by omega) (by omega)) (fun h21 => ?_) (fun h21 => ?_)
          · replace hP := zE_p hP h21
            exact zlR hP (show (0 : Int32) = i3 0 from rfl) ⟨by omega, by omega⟩
          · replace hP := zE_n hP h21
            exact zlR hP (show (1 : Int32) = i3 1 from rfl) ⟨by omega, by omega⟩
/- yX12_iSeized -/
def zl_371_1 : Nat → qz_Z → Int → Int → Int × Int
  | 0, Z, x1, x2 => (x1, x2)
  | m + 1, Z, x1, x2 => (if (Z 2 0 0 102) ≤ x2 then (x1, x2) else (if (Z 2 0 0 (210 + 20 * x2)) ≠ 3 then zl_371_1 m Z (x1 + 0) (x2 + 1) else zl_371_1 m Z (x1 + 1) (x2 + 1)))
theorem sl_371_1 {s : zSM} {Z : qz_Z} {ν : qz_N} (hZ : zM s Z) (hM : s.2 + 0 ≤ 1000000000) {x1 : Int} (gx1 : 0 ≤ x1 ∧ x1 ≤ 48) {x2 : Int} (gx2 : 0 ≤ x2 ∧ x2 ≤ 48) (gr0 : x1 ≤ x2) {k : wz_K} {R : wz_R} {L : qz_L} (hL : qz_fg [true, true, true] L = [some (.inr (.inr (some (1, 0, 0)))), some (.inl (i3 x1)), some (.inl (i3 x2))]) {T : Int × Int} (hP : zE T (zl_371_1 ((48 - x2).toNat + 1) Z x1 x2)) (hk : ∀ (L9 : qz_L) (yx1 yx2 : Int), qz_fg [false, true, false] L9 = [none, some (.inl (i3 yx1)), none] → (0 ≤ yx1 ∧ yx1 ≤ 48) → (0 ≤ yx2 ∧ yx2 ≤ 48) → (yx1 ≤ yx2) → zE T ((yx1, yx2)) → k 0 (L9, [], zm Z ν)) : wz_loop qb_371_1 65536 k R (L, [], zm Z ν) := by
  refine wz_lp sb_371_1 (fun m x => ∃ x1 : Int, ∃ x2 : Int, qz_fg [true, true, true] x.1 = [some (.inr (.inr (some (1, 0, 0)))), some (.inl (i3 x1)), some (.inl (i3 x2))] ∧ x.2 = ([], zm Z ν) ∧ m = (48 - x2).toNat ∧ (0 ≤ x1 ∧ x1 ≤ 48) ∧ (0 ≤ x2 ∧ x2 ≤ 48) ∧ (x1 ≤ x2) ∧ zE T (zl_371_1 (m + 1) Z x1 x2)) ?_ 65536 ((48 - x2).toNat) _ (by omega) ⟨x1, x2, hL, rfl, rfl, gx1, gx2, gr0, hP⟩
  clear hP gr0 gx1 gx2 hL
  clear x1 x2
  rintro m ⟨L, st, μ⟩ ⟨x1, x2, hL, hx, hm, gx1, gx2, gr0, hP⟩
  cases hx
  refine fb_371_1 (i3 x1) (i3 x2) _ _ _ _ hL ?_
  have r1 := zM_k hZ 2 0 0 102 (lo := 0) (hi := 48) (by decide) rfl
  refine wz_br (i3Le (zm_rd (Z := Z) (ν := ν) (k := 2) (show ((0 : Nat) : Int) = 0 from rfl) (show ((0 : Nat) : Int) = 0 from rfl) (show ((102 : Nat) : Int) = 102 from rfl)) (rfl : i3 x2 = i3 x2) (by omega) (by omega) (by omega) (by omega)) (fun h2 => ?_) (fun h2 => ?_)
  · replace hP := zE_p hP h2
    exact hk _ _ _ (zconso rfl (zconso (zvo (rfl : i3 x1 = i3 x1)) (zconso rfl rfl)))  (by omega) (by omega) (by omega) hP
  · replace hP := zE_n hP h2
    refine wz_i0 (i3O (n := 4400) (i3A (i3A (show (200 : Int32) = i3 200 from rfl) (i3M (show (20 : Int32) = i3 20 from rfl) (rfl : i3 x2 = i3 x2))) (show (10 : Int32) = i3 10 from rfl)) (by omega) (by omega) (by omega)) ?_
    have r3 := zM_k hZ 2 0 0 (210 + 20 * x2) (lo := 0) (hi := 4) (by decide) (zs_200_10 (x := x2) (by omega) (by omega) (by omega))
    have r4 := zM_pl hZ x2
    refine wz_br (i3NE (zm_rd (Z := Z) (ν := ν) (k := 2) (show ((0 : Nat) : Int) = 0 from rfl) (show ((0 : Nat) : Int) = 0 from rfl) (i3I (y := (210 + 20 * x2)) (i3A (i3A (show (200 : Int32) = i3 200 from rfl) (i3M (show (20 : Int32) = i3 20 from rfl) (rfl : i3 x2 = i3 x2))) (show (10 : Int32) = i3 10 from rfl)) (by omega) (by omega) (by omega))) (show (3 : Int32) = i3 3 from rfl) (by omega) (by omega) (by omega) (by omega)) (fun h5 => ?_) (fun h5 => ?_)
    · replace hP := zE_p hP h5
      obtain ⟨m2, rfl⟩ : ∃ m2, m = m2 + 1 := ⟨m - 1, by omega⟩
      exact wz_k1 ⟨m2, by omega, (x1 + 0), (x2 + 1), (zconso rfl (zconso (zvo (i3A (rfl : i3 x1 = i3 x1) (show (0 : Int32) = i3 0 from rfl))) (zconso (zvo (i3A (rfl : i3 x2 = i3 x2) (show (1 : Int32) = i3 1 from rfl))) rfl))), rfl,  by omega, by omega, by omega, by omega,  hP⟩
    · replace hP := zE_n hP h5
      obtain ⟨m2, rfl⟩ : ∃ m2, m = m2 + 1 := ⟨m - 1, by omega⟩
      exact wz_k1 ⟨m2, by omega, (x1 + 1), (x2 + 1), (zconso rfl (zconso (zvo (i3A (rfl : i3 x1 = i3 x1) (show (1 : Int32) = i3 1 from rfl))) (zconso (zvo (i3A (rfl : i3 x2 = i3 x2) (show (1 : Int32) = i3 1 from rfl))) rfl))), rfl,  by omega, by omega, by omega, by omega,  hP⟩
/- yX12_iSeized -/
def zf_371 (Z : qz_Z) : Int := (zlet2 (zl_371_1 49 Z 0 0) (fun y1 y2 => y1))
theorem sp_371 {s : zSM} {Z : qz_Z} {ν : qz_N} (hZ : zM s Z) (hM : s.2 + 0 ≤ 1000000000) : ∃ P : Int, P = zf_371 Z ∧ (qf_371 [.inr (.inr (some (1, 0, 0)))] (zm Z ν) = some (zm Z ν, .inl (some (.inl (i3 P)))) ∧ 0 ≤ P ∧ P ≤ 48) := by
  obtain ⟨P, hP⟩ := zx (zf_371 Z)
  refine zc_R (Q := fun P => 0 ≤ P ∧ P ≤ 48) hP (fw_371  _ _ ?_)
  replace hP : zE P (zf_371 Z) := hP
  unfold zf_371 at hP
  refine sl_371_1 (ν := ν) hZ (zbh (c := 0) (k := 0) hM (Nat.le_of_ble_eq_true rfl)) (x1 := 0) (by omega) (x2 := 0) (by omega) (by omega) (zconso rfl (zconso (zvo (show (0 : Int32) = i3 0 from rfl)) (zconso (zvo (show (0 : Int32) = i3 0 from rfl)) rfl))) rfl ?_
  intro L3 y1 y2 hL3 gy1 gy2 gL3_0 q9
  replace hP := zl_e2 hP (Eq.symm q9)
  clear q9
  refine fc_371_2 (i3 y1) _ _ _ _ hL3 ?_
  exact zlR hP (rfl : i3 y1 = i3 y1) ⟨by omega, by omega⟩
/- yX12_iSound -/
def zl_372_1 : Nat → qz_Z → Int → Int → Int → Int × Int × Int
  | 0, Z, x1, x2, x3 => (x1, x2, x3)
  | m + 1, Z, x1, x2, x3 => (if (Z 2 0 0 3500) ≤ x3 then (x1, x2, x3) else zl_372_1 m Z (w3 (x1 + (Z 2 0 0 (3526 + 10 * x3)))) (w3 (x2 + (Z 2 0 0 (3525 + 10 * x3)))) (x3 + 1))
theorem sl_372_1 {s : zSM} {Z : qz_Z} {ν : qz_N} (hZ : zM s Z) (hM : s.2 + 0 ≤ 1000000000) {x1 : Int} (gx1 : -2147483648 ≤ x1 ∧ x1 ≤ 2147483647) {x2 : Int} (gx2 : -2147483648 ≤ x2 ∧ x2 ≤ 2147483647) {x3 : Int} (gx3 : 0 ≤ x3 ∧ x3 ≤ 2) {k : wz_K} {R : wz_R} {L : qz_L} (hL : qz_fg [true, true, true, true, false] L = [some (.inr (.inr (some (1, 0, 0)))), some (.inl (i3 x1)), some (.inl (i3 x2)), some (.inl (i3 x3)), none]) {T : Int × Int × Int} (hP : zE T (zl_372_1 ((2 - x3).toNat + 1) Z x1 x2 x3)) (hk : ∀ (L9 : qz_L) (yx1 yx2 yx3 : Int), qz_fg [true, true, true, false, false] L9 = [some (.inr (.inr (some (1, 0, 0)))), some (.inl (i3 yx1)), some (.inl (i3 yx2)), none, none] → (-2147483648 ≤ yx1 ∧ yx1 ≤ 2147483647) → (-2147483648 ≤ yx2 ∧ yx2 ≤ 2147483647) → (0 ≤ yx3 ∧ yx3 ≤ 2) → zE T ((yx1, yx2, yx3)) → k 0 (L9, [], zm Z ν)) : wz_loop qb_372_1 65536 k R (L, [], zm Z ν) := by
  refine wz_lp sb_372_1 (fun m x => ∃ x1 : Int, ∃ x2 : Int, ∃ x3 : Int, qz_fg [true, true, true, true, false] x.1 = [some (.inr (.inr (some (1, 0, 0)))), some (.inl (i3 x1)), some (.inl (i3 x2)), some (.inl (i3 x3)), none] ∧ x.2 = ([], zm Z ν) ∧ m = (2 - x3).toNat ∧ (-2147483648 ≤ x1 ∧ x1 ≤ 2147483647) ∧ (-2147483648 ≤ x2 ∧ x2 ≤ 2147483647) ∧ (0 ≤ x3 ∧ x3 ≤ 2) ∧ zE T (zl_372_1 (m + 1) Z x1 x2 x3)) ?_ 65536 ((2 - x3).toNat) _ (by omega) ⟨x1, x2, x3, hL, rfl, rfl, gx1, gx2, gx3, hP⟩
  clear hP gx1 gx2 gx3 hL
  clear x1 x2 x3
  rintro m ⟨L, st, μ⟩ ⟨x1, x2, x3, hL, hx, hm, gx1, gx2, gx3, hP⟩
  cases hx
  refine fb_372_1 (i3 x1) (i3 x2) (i3 x3) _ _ _ _ hL ?_
  have r1 := zM_k hZ 2 0 0 3500 (lo := 0) (hi := 2) (by decide) rfl
  refine wz_br (i3Le (zm_rd (Z := Z) (ν := ν) (k := 2) (show ((0 : Nat) : Int) = 0 from rfl) (show ((0 : Nat) : Int) = 0 from rfl) (show ((3500 : Nat) : Int) = 3500 from rfl)) (rfl : i3 x3 = i3 x3) (by omega) (by omega) (by omega) (by omega)) (fun h2 => ?_) (fun h2 => ?_)
  · replace hP := zE_p hP h2
    exact hk _ _ _ _ (zconso rfl (zconso (zvo (rfl : i3 x1 = i3 x1)) (zconso (zvo (rfl : i3 x2 = i3 x2)) (zconso rfl (zconso rfl rfl)))))  (by omega) (by omega) (by omega)  hP
  · replace hP := zE_n hP h2
    refine wz_i0 (i3O (n := 4400) (i3A (i3A (show (3520 : Int32) = i3 3520 from rfl) (i3M (show (10 : Int32) = i3 10 from rfl) (rfl : i3 x3 = i3 x3))) (show (5 : Int32) = i3 5 from rfl)) (by omega) (by omega) (by omega)) ?_
    refine wz_i0 (i3O (n := 4400) (i3A (i3A (show (3520 : Int32) = i3 3520 from rfl) (i3M (show (10 : Int32) = i3 10 from rfl) (rfl : i3 x3 = i3 x3))) (show (6 : Int32) = i3 6 from rfl)) (by omega) (by omega) (by omega)) ?_
    have r3 := zM_f hZ 2 0 0 (3526 + 10 * x3)
    have r4 := w3_r (x1 + (Z 2 0 0 (3526 + 10 * x3)))
    have r5 := zM_f hZ 2 0 0 (3525 + 10 * x3)
    have r6 := w3_r (x2 + (Z 2 0 0 (3525 + 10 * x3)))
    obtain ⟨m2, rfl⟩ : ∃ m2, m = m2 + 1 := ⟨m - 1, by omega⟩
    exact wz_k1 ⟨m2, by omega, (w3 (x1 + (Z 2 0 0 (3526 + 10 * x3)))), (w3 (x2 + (Z 2 0 0 (3525 + 10 * x3)))), (x3 + 1), (zconso rfl (zconso (zvo (i3W (i3A (rfl : i3 x1 = i3 x1) (zm_rd (Z := Z) (ν := ν) (k := 2) (show ((0 : Nat) : Int) = 0 from rfl) (show ((0 : Nat) : Int) = 0 from rfl) (i3I (y := (3526 + 10 * x3)) (i3A (i3A (show (3520 : Int32) = i3 3520 from rfl) (i3M (show (10 : Int32) = i3 10 from rfl) (rfl : i3 x3 = i3 x3))) (show (6 : Int32) = i3 6 from rfl)) (by omega) (by omega) (by omega)))))) (zconso (zvo (i3W (i3A (rfl : i3 x2 = i3 x2) (zm_rd (Z := Z) (ν := ν) (k := 2) (show ((0 : Nat) : Int) = 0 from rfl) (show ((0 : Nat) : Int) = 0 from rfl) (i3I (y := (3525 + 10 * x3)) (i3A (i3A (show (3520 : Int32) = i3 3520 from rfl) (i3M (show (10 : Int32) = i3 10 from rfl) (rfl : i3 x3 = i3 x3))) (show (5 : Int32) = i3 5 from rfl)) (by omega) (by omega) (by omega)))))) (zconso (zvo (i3A (rfl : i3 x3 = i3 x3) (show (1 : Int32) = i3 1 from rfl))) (zconso rfl rfl))))), rfl,  by omega, by omega, by omega, by omega,  hP⟩
/- yX12_iSound -/
def zl_372_2 : Nat → qz_Z → Int → Int → Int × Int
  | 0, Z, x3, x4 => (x3, x4)
  | m + 1, Z, x3, x4 => (if (Z 2 0 0 3501) ≤ x4 then (x3, x4) else (if x3 = 0 then zl_372_2 m Z 0 (x4 + 1) else (zlet (zf_362 Z (3560 + (6 * x4))) (fun v4 => (if v4 = 0 then zl_372_2 m Z 0 (x4 + 1) else zl_372_2 m Z 1 (x4 + 1))))))
theorem sl_372_2 {s : zSM} {Z : qz_Z} {ν : qz_N} (hZ : zM s Z) (hM : s.2 + 0 ≤ 1000000000) {x3 : Int} (gx3 : 0 ≤ x3 ∧ x3 ≤ 1) {x4 : Int} (gx4 : 0 ≤ x4 ∧ x4 ≤ 24) {k : wz_K} {R : wz_R} {L : qz_L} (hL : qz_fg [true, false, false, true, true] L = [some (.inr (.inr (some (1, 0, 0)))), none, none, some (.inl (i3 x3)), some (.inl (i3 x4))]) {T : Int × Int} (hP : zE T (zl_372_2 ((24 - x4).toNat + 1) Z x3 x4)) (hk : ∀ (L9 : qz_L) (yx3 yx4 : Int), qz_fg [true, false, false, true, false] L9 = [some (.inr (.inr (some (1, 0, 0)))), none, none, some (.inl (i3 yx3)), none] → (0 ≤ yx3 ∧ yx3 ≤ 1) → (0 ≤ yx4 ∧ yx4 ≤ 24) → zE T ((yx3, yx4)) → k 0 (L9, [], zm Z ν)) : wz_loop qb_372_2 65536 k R (L, [], zm Z ν) := by
  refine wz_lp sb_372_2 (fun m x => ∃ x3 : Int, ∃ x4 : Int, qz_fg [true, false, false, true, true] x.1 = [some (.inr (.inr (some (1, 0, 0)))), none, none, some (.inl (i3 x3)), some (.inl (i3 x4))] ∧ x.2 = ([], zm Z ν) ∧ m = (24 - x4).toNat ∧ (0 ≤ x3 ∧ x3 ≤ 1) ∧ (0 ≤ x4 ∧ x4 ≤ 24) ∧ zE T (zl_372_2 (m + 1) Z x3 x4)) ?_ 65536 ((24 - x4).toNat) _ (by omega) ⟨x3, x4, hL, rfl, rfl, gx3, gx4, hP⟩
  clear hP gx3 gx4 hL
  clear x3 x4
  rintro m ⟨L, st, μ⟩ ⟨x3, x4, hL, hx, hm, gx3, gx4, hP⟩
  cases hx
  refine fb_372_2 (i3 x3) (i3 x4) _ _ _ _ hL ?_
  have r1 := zM_k hZ 2 0 0 3501 (lo := 0) (hi := 24) (by decide) rfl
  refine wz_br (i3Le (zm_rd (Z := Z) (ν := ν) (k := 2) (show ((0 : Nat) : Int) = 0 from rfl) (show ((0 : Nat) : Int) = 0 from rfl) (show ((3501 : Nat) : Int) = 3501 from rfl)) (rfl : i3 x4 = i3 x4) (by omega) (by omega) (by omega) (by omega)) (fun h2 => ?_) (fun h2 => ?_)
  · replace hP := zE_p hP h2
    exact hk _ _ _ (zconso rfl (zconso rfl (zconso rfl (zconso (zvo (rfl : i3 x3 = i3 x3)) (zconso rfl rfl)))))  (by omega) (by omega)  hP
  · replace hP := zE_n hP h2
    refine wz_br (i3E (rfl : i3 x3 = i3 x3) (show (0 : Int32) = i3 0 from rfl) (by omega) (by omega) (by omega) (by omega)) (fun h3 => ?_) (fun h3 => ?_)
    · replace hP := zE_p hP h3
      obtain ⟨m2, rfl⟩ : ∃ m2, m = m2 + 1 := ⟨m - 1, by omega⟩
      exact wz_k1 ⟨m2, by omega, 0, (x4 + 1), (zconso rfl (zconso rfl (zconso rfl (zconso (zvo (show (0 : Int32) = i3 0 from rfl)) (zconso (zvo (i3A (rfl : i3 x4 = i3 x4) (show (1 : Int32) = i3 1 from rfl))) rfl))))), rfl,  by omega, by omega, by omega,  hP⟩
    · replace hP := zE_n hP h3
      obtain ⟨v4, hv4, c9, lv4, uv4⟩ := sp_362 (ν := ν) hZ (a1 := (3560 + (6 * x4))) (by omega) (by omega) (zbh (c := 0) (k := 0) hM (Nat.le_of_ble_eq_true rfl))
      replace hP := zl_e hP hv4
      refine wz_cI_of (zas (zcons rfl (zcons (zvi (i3A (show (3560 : Int32) = i3 3560 from rfl) (i3M (show (6 : Int32) = i3 6 from rfl) (rfl : i3 x4 = i3 x4)))) rfl)) c9) ?_
      clear c9
      refine wz_br (i3E (rfl : i3 v4 = i3 v4) (show (0 : Int32) = i3 0 from rfl) (by omega) (by omega) (by omega) (by omega)) (fun h5 => ?_) (fun h5 => ?_)
      · replace hP := zE_p hP h5
        obtain ⟨m2, rfl⟩ : ∃ m2, m = m2 + 1 := ⟨m - 1, by omega⟩
        exact wz_k1 ⟨m2, by omega, 0, (x4 + 1), (zconso rfl (zconso rfl (zconso rfl (zconso (zvo (show (0 : Int32) = i3 0 from rfl)) (zconso (zvo (i3A (rfl : i3 x4 = i3 x4) (show (1 : Int32) = i3 1 from rfl))) rfl))))), rfl,  by omega, by omega, by omega,  hP⟩
      · replace hP := zE_n hP h5
        obtain ⟨m2, rfl⟩ : ∃ m2, m = m2 + 1 := ⟨m - 1, by omega⟩
        exact wz_k1 ⟨m2, by omega, 1, (x4 + 1), (zconso rfl (zconso rfl (zconso rfl (zconso (zvo (show (1 : Int32) = i3 1 from rfl)) (zconso (zvo (i3A (rfl : i3 x4 = i3 x4) (show (1 : Int32) = i3 1 from rfl))) rfl))))), rfl,  by omega, by omega, by omega,  hP⟩
/- yX12_iSound -/
def zl_372_3 : Nat → qz_Z → Int → Int → Int × Int
  | 0, Z, x3, x4 => (x3, x4)
  | m + 1, Z, x3, x4 => (if 6 ≤ x4 then (x3, x4) else (if x3 = 0 then zl_372_3 m Z 0 (x4 + 1) else (if ((Z 2 0 0 0) + 24) < (Z 2 0 0 (3510 + x4)) then zl_372_3 m Z 0 (x4 + 1) else zl_372_3 m Z 1 (x4 + 1))))
theorem sl_372_3 {s : zSM} {Z : qz_Z} {ν : qz_N} (hZ : zM s Z) (hM : s.2 + 0 ≤ 1000000000) {x3 : Int} (gx3 : 0 ≤ x3 ∧ x3 ≤ 1) {x4 : Int} (gx4 : 0 ≤ x4 ∧ x4 ≤ 6) {k : wz_K} {R : wz_R} {L : qz_L} (hL : qz_fg [true, false, false, true, true] L = [some (.inr (.inr (some (1, 0, 0)))), none, none, some (.inl (i3 x3)), some (.inl (i3 x4))]) {T : Int × Int} (hP : zE T (zl_372_3 ((6 - x4).toNat + 1) Z x3 x4)) (hk : ∀ (L9 : qz_L) (yx3 yx4 : Int), qz_fg [false, false, false, true, false] L9 = [none, none, none, some (.inl (i3 yx3)), none] → (0 ≤ yx3 ∧ yx3 ≤ 1) → (0 ≤ yx4 ∧ yx4 ≤ 6) → zE T ((yx3, yx4)) → k 0 (L9, [], zm Z ν)) : wz_loop qb_372_3 65536 k R (L, [], zm Z ν) := by
  refine wz_lp sb_372_3 (fun m x => ∃ x3 : Int, ∃ x4 : Int, qz_fg [true, false, false, true, true] x.1 = [some (.inr (.inr (some (1, 0, 0)))), none, none, some (.inl (i3 x3)), some (.inl (i3 x4))] ∧ x.2 = ([], zm Z ν) ∧ m = (6 - x4).toNat ∧ (0 ≤ x3 ∧ x3 ≤ 1) ∧ (0 ≤ x4 ∧ x4 ≤ 6) ∧ zE T (zl_372_3 (m + 1) Z x3 x4)) ?_ 65536 ((6 - x4).toNat) _ (by omega) ⟨x3, x4, hL, rfl, rfl, gx3, gx4, hP⟩
  clear hP gx3 gx4 hL
  clear x3 x4
  rintro m ⟨L, st, μ⟩ ⟨x3, x4, hL, hx, hm, gx3, gx4, hP⟩
  cases hx
  refine fb_372_3 (i3 x3) (i3 x4) _ _ _ _ hL ?_
  refine wz_br (i3Le (show (6 : Int32) = i3 6 from rfl) (rfl : i3 x4 = i3 x4) (by omega) (by omega) (by omega) (by omega)) (fun h1 => ?_) (fun h1 => ?_)
  · replace hP := zE_p hP h1
    exact hk _ _ _ (zconso rfl (zconso rfl (zconso rfl (zconso (zvo (rfl : i3 x3 = i3 x3)) (zconso rfl rfl)))))  (by omega) (by omega)  hP
  · replace hP := zE_n hP h1
    refine wz_br (i3E (rfl : i3 x3 = i3 x3) (show (0 : Int32) = i3 0 from rfl) (by omega) (by omega) (by omega) (by omega)) (fun h2 => ?_) (fun h2 => ?_)
    · replace hP := zE_p hP h2
      obtain ⟨m2, rfl⟩ : ∃ m2, m = m2 + 1 := ⟨m - 1, by omega⟩
      exact wz_k1 ⟨m2, by omega, 0, (x4 + 1), (zconso rfl (zconso rfl (zconso rfl (zconso (zvo (show (0 : Int32) = i3 0 from rfl)) (zconso (zvo (i3A (rfl : i3 x4 = i3 x4) (show (1 : Int32) = i3 1 from rfl))) rfl))))), rfl,  by omega, by omega, by omega,  hP⟩
    · replace hP := zE_n hP h2
      refine wz_i0 (i3O (n := 4400) (i3A (show (3510 : Int32) = i3 3510 from rfl) (rfl : i3 x4 = i3 x4)) (by omega) (by omega) (by omega)) ?_
      have r3 := zM_k hZ 2 0 0 0 (lo := 0) (hi := 671) (by decide) rfl
      have r4 := zM_k hZ 2 0 0 (3510 + x4) (lo := 0) (hi := 695) (by decide) (zs_3509 (by omega) (by omega))
      refine wz_br (i3L (i3A (zm_rd (Z := Z) (ν := ν) (k := 2) (show ((0 : Nat) : Int) = 0 from rfl) (show ((0 : Nat) : Int) = 0 from rfl) (show ((0 : Nat) : Int) = 0 from rfl)) (show (24 : Int32) = i3 24 from rfl)) (zm_rd (Z := Z) (ν := ν) (k := 2) (show ((0 : Nat) : Int) = 0 from rfl) (show ((0 : Nat) : Int) = 0 from rfl) (i3I (y := (3510 + x4)) (i3A (show (3510 : Int32) = i3 3510 from rfl) (rfl : i3 x4 = i3 x4)) (by omega) (by omega) (by omega))) (by omega) (by omega) (by omega) (by omega)) (fun h5 => ?_) (fun h5 => ?_)
      · replace hP := zE_p hP h5
        obtain ⟨m2, rfl⟩ : ∃ m2, m = m2 + 1 := ⟨m - 1, by omega⟩
        exact wz_k1 ⟨m2, by omega, 0, (x4 + 1), (zconso rfl (zconso rfl (zconso rfl (zconso (zvo (show (0 : Int32) = i3 0 from rfl)) (zconso (zvo (i3A (rfl : i3 x4 = i3 x4) (show (1 : Int32) = i3 1 from rfl))) rfl))))), rfl,  by omega, by omega, by omega,  hP⟩
      · replace hP := zE_n hP h5
        obtain ⟨m2, rfl⟩ : ∃ m2, m = m2 + 1 := ⟨m - 1, by omega⟩
        exact wz_k1 ⟨m2, by omega, 1, (x4 + 1), (zconso rfl (zconso rfl (zconso rfl (zconso (zvo (show (1 : Int32) = i3 1 from rfl)) (zconso (zvo (i3A (rfl : i3 x4 = i3 x4) (show (1 : Int32) = i3 1 from rfl))) rfl))))), rfl,  by omega, by omega, by omega,  hP⟩
/- yX12_iSound -/
def zf_372 (Z : qz_Z) : Int := (zlet3 (zl_372_1 3 Z 0 0 0) (fun y1 y2 y3 => (zlet (zf_371 Z) (fun v5 => (if y1 ≠ v5 then (zlet2 (zl_372_2 25 Z 0 0) (fun y7 y8 => (zlet2 (zl_372_3 7 Z y7 0) (fun y10 y11 => y10)))) else (if y2 < (Z 2 0 0 3501) then (zlet2 (zl_372_2 25 Z 0 0) (fun y15 y16 => (zlet2 (zl_372_3 7 Z y15 0) (fun y18 y19 => y18)))) else (zlet2 (zl_372_2 25 Z 1 0) (fun y21 y22 => (zlet2 (zl_372_3 7 Z y21 0) (fun y24 y25 => y24))))))))))
theorem sp_372 {s : zSM} {Z : qz_Z} {ν : qz_N} (hZ : zM s Z) (hM : s.2 + 0 ≤ 1000000000) : ∃ P : Int, P = zf_372 Z ∧ (qf_372 [.inr (.inr (some (1, 0, 0)))] (zm Z ν) = some (zm Z ν, .inl (some (.inl (i3 P)))) ∧ 0 ≤ P ∧ P ≤ 1) := by
  obtain ⟨P, hP⟩ := zx (zf_372 Z)
  refine zc_R (Q := fun P => 0 ≤ P ∧ P ≤ 1) hP (fw_372  _ _ ?_)
  replace hP : zE P (zf_372 Z) := hP
  unfold zf_372 at hP
  refine sl_372_1 (ν := ν) hZ (zbh (c := 0) (k := 0) hM (Nat.le_of_ble_eq_true rfl)) (x1 := 0) (by omega) (x2 := 0) (by omega) (x3 := 0) (by omega)  (zconso rfl (zconso (zvo (show (0 : Int32) = i3 0 from rfl)) (zconso (zvo (show (0 : Int32) = i3 0 from rfl)) (zconso (zvo (show (0 : Int32) = i3 0 from rfl)) (zconso rfl rfl))))) rfl ?_
  intro L4 y1 y2 y3 hL4 gy1 gy2 gy3 q9
  replace hP := zl_e3 hP (Eq.symm q9)
  clear q9
  refine fc_372_6 (i3 y1) (i3 y2) _ _ _ _ hL4 ?_
  obtain ⟨v5, hv5, c9, lv5, uv5⟩ := sp_371 (ν := ν) hZ (zbh (c := 0) (k := 0) hM (Nat.le_of_ble_eq_true rfl))
  replace hP := zl_e hP hv5
  refine wz_cI_of (zas (zcons rfl rfl) c9) ?_
  clear c9
  refine wz_br (i3NE (rfl : i3 y1 = i3 y1) (rfl : i3 v5 = i3 v5) (by omega) (by omega) (by omega) (by omega)) (fun h6 => ?_) (fun h6 => ?_)
  · replace hP := zE_p hP h6
    refine sl_372_2 (ν := ν) hZ (zbh (c := 0) (k := 0) hM (Nat.le_of_ble_eq_true rfl)) (x3 := 0) (by omega) (x4 := 0) (by omega)  (zconso rfl (zconso rfl (zconso rfl (zconso (zvo (show (0 : Int32) = i3 0 from rfl)) (zconso (zvo (show (0 : Int32) = i3 0 from rfl)) rfl))))) rfl ?_
    intro L9 y7 y8 hL9 gy7 gy8 q9
    replace hP := zl_e2 hP (Eq.symm q9)
    clear q9
    refine fc_372_5 (i3 y7) _ _ _ _ hL9 ?_
    refine sl_372_3 (ν := ν) hZ (zbh (c := 0) (k := 0) hM (Nat.le_of_ble_eq_true rfl)) (x3 := y7) (by omega) (x4 := 0) (by omega)  (zconso rfl (zconso rfl (zconso rfl (zconso (zvo (rfl : i3 y7 = i3 y7)) (zconso (zvo (show (0 : Int32) = i3 0 from rfl)) rfl))))) rfl ?_
    intro L12 y10 y11 hL12 gy10 gy11 q9
    replace hP := zl_e2 hP (Eq.symm q9)
    clear q9
    refine fc_372_4 (i3 y10) _ _ _ _ hL12 ?_
    refine wz_i1 (i3B (rfl : i3 y10 = i3 y10) (by omega)) ?_
    exact zlR hP (rfl : i3 y10 = i3 y10) ⟨by omega, by omega⟩
  · replace hP := zE_n hP h6
    have r13 := zM_k hZ 2 0 0 3501 (lo := 0) (hi := 24) (by decide) rfl
    refine wz_br (i3L (rfl : i3 y2 = i3 y2) (zm_rd (Z := Z) (ν := ν) (k := 2) (show ((0 : Nat) : Int) = 0 from rfl) (show ((0 : Nat) : Int) = 0 from rfl) (show ((3501 : Nat) : Int) = 3501 from rfl)) (by omega) (by omega) (by omega) (by omega)) (fun h14 => ?_) (fun h14 => ?_)
    · replace hP := zE_p hP h14
      refine sl_372_2 (ν := ν) hZ (zbh (c := 0) (k := 0) hM (Nat.le_of_ble_eq_true rfl)) (x3 := 0) (by omega) (x4 := 0) (by omega)  (zconso rfl (zconso rfl (zconso rfl (zconso (zvo (show (0 : Int32) = i3 0 from rfl)) (zconso (zvo (show (0 : Int32) = i3 0 from rfl)) rfl))))) rfl ?_
      intro L17 y15 y16 hL17 gy15 gy16 q9
      replace hP := zl_e2 hP (Eq.symm q9)
      clear q9
      refine fc_372_5 (i3 y15) _ _ _ _ hL17 ?_
      refine sl_372_3 (ν := ν) hZ (zbh (c := 0) (k := 0) hM (Nat.le_of_ble_eq_true rfl)) (x3 := y15) (by omega) (x4 := 0) (by omega)  (zconso rfl (zconso rfl (zconso rfl (zconso (zvo (rfl : i3 y15 = i3 y15)) (zconso (zvo (show (0 : Int32) = i3 0 from rfl)) rfl))))) rfl ?_
      intro L20 y18 y19 hL20 gy18 gy19 q9
      replace hP := zl_e2 hP (Eq.symm q9)
      clear q9
      refine fc_372_4 (i3 y18) _ _ _ _ hL20 ?_
      refine wz_i1 (i3B (rfl : i3 y18 = i3 y18) (by omega)) ?_
      exact zlR hP (rfl : i3 y18 = i3 y18) ⟨by omega, by omega⟩
    · replace hP := zE_n hP h14
      refine sl_372_2 (ν := ν) hZ (zbh (c := 0) (k := 0) hM (Nat.le_of_ble_eq_true rfl)) (x3 := 1) (by omega) (x4 := 0) (by omega)  (zconso rfl (zconso rfl (zconso rfl (zconso (zvo (show (1 : Int32) = i3 1 from rfl)) (zconso (zvo (show (0 : Int32) = i3 0 from rfl)) rfl))))) rfl ?_
      intro L23 y21 y22 hL23 gy21 gy22 q9
      replace hP := zl_e2 hP (Eq.symm q9)
      clear q9
      refine fc_372_5 (i3 y21) _ _ _ _ hL23 ?_
      refine sl_372_3 (ν := ν) hZ (zbh (c := 0) (k := 0) hM (Nat.le_of_ble_eq_true rfl)) (x3 := y21) (by omega) (x4 := 0) (by omega)  (zconso rfl (zconso rfl (zconso rfl (zconso (zvo (rfl : i3 y21 = i3 y21)) (zconso (zvo (show (0 : Int32) = i3 0 from rfl)) rfl))))) rfl ?_
      intro L26 y24 y25 hL26 gy24 gy25 q9
      replace hP := zl_e2 hP (Eq.symm q9)
      clear q9
      refine fc_372_4 (i3 y24) _ _ _ _ hL26 ?_
      refine wz_i1 (i3B (rfl : i3 y24 = i3 y24) (by omega)) ?_
      exact zlR hP (rfl : i3 y24 = i3 y24) ⟨by omega, by omega⟩
/- yX12_kQuarrelsSound -/
def zl_415_1 : Nat → qz_Z → Int → Int → Int × Int
  | 0, Z, x1, x2 => (x1, x2)
  | m + 1, Z, x1, x2 => (if (Z 2 0 0 3815) ≤ x2 then (x1, x2) else (if x1 = 0 then zl_415_1 m Z 0 (x2 + 1) else (if (Z 2 0 0 (3852 + 8 * x2)) ≠ 2 then (if (w3 ((w3 ((Z 2 0 0 (3854 + 8 * x2)) + (Z 2 0 0 (3855 + 8 * x2)))) + (Z 2 0 0 (3856 + 8 * x2)))) ≠ 0 then zl_415_1 m Z 0 (x2 + 1) else zl_415_1 m Z 1 (x2 + 1)) else (if (w3 ((w3 ((Z 2 0 0 (3854 + 8 * x2)) + (Z 2 0 0 (3855 + 8 * x2)))) + (Z 2 0 0 (3856 + 8 * x2)))) ≠ (Z 2 0 0 (3853 + 8 * x2)) then zl_415_1 m Z 0 (x2 + 1) else zl_415_1 m Z 1 (x2 + 1)))))
theorem sl_415_1 {s : zSM} {Z : qz_Z} {ν : qz_N} (hZ : zM s Z) (hM : s.2 + 0 ≤ 1000000000) {x1 : Int} (gx1 : 0 ≤ x1 ∧ x1 ≤ 1) {x2 : Int} (gx2 : 0 ≤ x2 ∧ x2 ≤ 12) {k : wz_K} {R : wz_R} {L : qz_L} (hL : qz_fg [true, true, true, false] L = [some (.inr (.inr (some (1, 0, 0)))), some (.inl (i3 x1)), some (.inl (i3 x2)), none]) {T : Int × Int} (hP : zE T (zl_415_1 ((12 - x2).toNat + 1) Z x1 x2)) (hk : ∀ (L9 : qz_L) (yx1 yx2 : Int), qz_fg [false, true, false, false] L9 = [none, some (.inl (i3 yx1)), none, none] → (0 ≤ yx1 ∧ yx1 ≤ 1) → (0 ≤ yx2 ∧ yx2 ≤ 12) → zE T ((yx1, yx2)) → k 0 (L9, [], zm Z ν)) : wz_loop qb_415_1 65536 k R (L, [], zm Z ν) := by
  refine wz_lp sb_415_1 (fun m x => ∃ x1 : Int, ∃ x2 : Int, qz_fg [true, true, true, false] x.1 = [some (.inr (.inr (some (1, 0, 0)))), some (.inl (i3 x1)), some (.inl (i3 x2)), none] ∧ x.2 = ([], zm Z ν) ∧ m = (12 - x2).toNat ∧ (0 ≤ x1 ∧ x1 ≤ 1) ∧ (0 ≤ x2 ∧ x2 ≤ 12) ∧ zE T (zl_415_1 (m + 1) Z x1 x2)) ?_ 65536 ((12 - x2).toNat) _ (by omega) ⟨x1, x2, hL, rfl, rfl, gx1, gx2, hP⟩
  clear hP gx1 gx2 hL
  clear x1 x2
  rintro m ⟨L, st, μ⟩ ⟨x1, x2, hL, hx, hm, gx1, gx2, hP⟩
  cases hx
  refine fb_415_1 (i3 x1) (i3 x2) _ _ _ _ hL ?_
  have r1 := zM_k hZ 2 0 0 3815 (lo := 0) (hi := 12) (by decide) rfl
  refine wz_br (i3Le (zm_rd (Z := Z) (ν := ν) (k := 2) (show ((0 : Nat) : Int) = 0 from rfl) (show ((0 : Nat) : Int) = 0 from rfl) (show ((3815 : Nat) : Int) = 3815 from rfl)) (rfl : i3 x2 = i3 x2) (by omega) (by omega) (by omega) (by omega)) (fun h2 => ?_) (fun h2 => ?_)
  · replace hP := zE_p hP h2
    exact hk _ _ _ (zconso rfl (zconso (zvo (rfl : i3 x1 = i3 x1)) (zconso rfl (zconso rfl rfl))))  (by omega) (by omega)  hP
  · replace hP := zE_n hP h2
    refine wz_i0 (i3O (n := 4400) (i3A (i3A (show (3850 : Int32) = i3 3850 from rfl) (i3M (show (8 : Int32) = i3 8 from rfl) (rfl : i3 x2 = i3 x2))) (show (4 : Int32) = i3 4 from rfl)) (by omega) (by omega) (by omega)) ?_
    refine wz_i0 (i3O (n := 4400) (i3A (i3A (show (3850 : Int32) = i3 3850 from rfl) (i3M (show (8 : Int32) = i3 8 from rfl) (rfl : i3 x2 = i3 x2))) (show (5 : Int32) = i3 5 from rfl)) (by omega) (by omega) (by omega)) ?_
    refine wz_i0 (i3O (n := 4400) (i3A (i3A (show (3850 : Int32) = i3 3850 from rfl) (i3M (show (8 : Int32) = i3 8 from rfl) (rfl : i3 x2 = i3 x2))) (show (6 : Int32) = i3 6 from rfl)) (by omega) (by omega) (by omega)) ?_
    refine wz_br (i3E (rfl : i3 x1 = i3 x1) (show (0 : Int32) = i3 0 from rfl) (by omega) (by omega) (by omega) (by omega)) (fun h3 => ?_) (fun h3 => ?_)
    · replace hP := zE_p hP h3
      obtain ⟨m2, rfl⟩ : ∃ m2, m = m2 + 1 := ⟨m - 1, by omega⟩
      exact wz_k1 ⟨m2, by omega, 0, (x2 + 1), (zconso rfl (zconso (zvo (show (0 : Int32) = i3 0 from rfl)) (zconso (zvo (i3A (rfl : i3 x2 = i3 x2) (show (1 : Int32) = i3 1 from rfl))) (zconso rfl rfl)))), rfl,  by omega, by omega, by omega,  hP⟩
    · replace hP := zE_n hP h3
      refine wz_i0 (i3O (n := 4400) (i3A (i3A (show (3850 : Int32) = i3 3850 from rfl) (i3M (show (8 : Int32) = i3 8 from rfl) (rfl : i3 x2 = i3 x2))) (show (2 : Int32) = i3 2 from rfl)) (by omega) (by omega) (by omega)) ?_
      have r4 := zM_k hZ 2 0 0 (3852 + 8 * x2) (lo := 0) (hi := 2) (by decide) (zs_3850_2 (x := x2) (by omega) (by omega) (by omega))
      refine wz_br (i3NE (zm_rd (Z := Z) (ν := ν) (k := 2) (show ((0 : Nat) : Int) = 0 from rfl) (show ((0 : Nat) : Int) = 0 from rfl) (i3I (y := (3852 + 8 * x2)) (i3A (i3A (show (3850 : Int32) = i3 3850 from rfl) (i3M (show (8 : Int32) = i3 8 from rfl) (rfl : i3 x2 = i3 x2))) (show (2 : Int32) = i3 2 from rfl)) (by omega) (by omega) (by omega))) (show (2 : Int32) = i3 2 from rfl) (by omega) (by omega) (by omega) (by omega)) (fun h5 => ?_) (fun h5 => ?_)
      · replace hP := zE_p hP h5
        have r6 := zM_f hZ 2 0 0 (3854 + 8 * x2)
        have r7 := zM_f hZ 2 0 0 (3855 + 8 * x2)
        have r8 := w3_r ((Z 2 0 0 (3854 + 8 * x2)) + (Z 2 0 0 (3855 + 8 * x2)))
        have r9 := zM_f hZ 2 0 0 (3856 + 8 * x2)
        have r10 := w3_r ((w3 ((Z 2 0 0 (3854 + 8 * x2)) + (Z 2 0 0 (3855 + 8 * x2)))) + (Z 2 0 0 (3856 + 8 * x2)))
        refine wz_br (i3NE (i3W (i3A (i3W (i3A (zm_rd (Z := Z) (ν := ν) (k := 2) (show ((0 : Nat) : Int) = 0 from rfl) (show ((0 : Nat) : Int) = 0 from rfl) (i3I (y := (3854 + 8 * x2)) (i3A (i3A (show (3850 : Int32) = i3 3850 from rfl) (i3M (show (8 : Int32) = i3 8 from rfl) (rfl : i3 x2 = i3 x2))) (show (4 : Int32) = i3 4 from rfl)) (by omega) (by omega) (by omega))) (zm_rd (Z := Z) (ν := ν) (k := 2) (show ((0 : Nat) : Int) = 0 from rfl) (show ((0 : Nat) : Int) = 0 from rfl) (i3I (y := (3855 + 8 * x2)) (i3A (i3A (show (3850 : Int32) = i3 3850 from rfl) (i3M (show (8 : Int32) = i3 8 from rfl) (rfl : i3 x2 = i3 x2))) (show (5 : Int32) = i3 5 from rfl)) (by omega) (by omega) (by omega))))) (zm_rd (Z := Z) (ν := ν) (k := 2) (show ((0 : Nat) : Int) = 0 from rfl) (show ((0 : Nat) : Int) = 0 from rfl) (i3I (y := (3856 + 8 * x2)) (i3A (i3A (show (3850 : Int32) = i3 3850 from rfl) (i3M (show (8 : Int32) = i3 8 from rfl) (rfl : i3 x2 = i3 x2))) (show (6 : Int32) = i3 6 from rfl)) (by omega) (by omega) (by omega))))) (show (0 : Int32) = i3 0 from rfl) (by omega) (by omega) (by omega) (by omega)) (fun h11 => ?_) (fun h11 => ?_)
        · replace hP := zE_p hP h11
          obtain ⟨m2, rfl⟩ : ∃ m2, m = m2 + 1 := ⟨m - 1, by omega⟩
          exact wz_k1 ⟨m2, by omega, 0, (x2 + 1), (zconso rfl (zconso (zvo (show (0 : Int32) = i3 0 from rfl)) (zconso (zvo (i3A (rfl : i3 x2 = i3 x2) (show (1 : Int32) = i3 1 from rfl))) (zconso rfl rfl)))), rfl,  by omega, by omega, by omega,  hP⟩
        · replace hP := zE_n hP h11
          obtain ⟨m2, rfl⟩ : ∃ m2, m = m2 + 1 := ⟨m - 1, by omega⟩
          exact wz_k1 ⟨m2, by omega, 1, (x2 + 1), (zconso rfl (zconso (zvo (show (1 : Int32) = i3 1 from rfl)) (zconso (zvo (i3A (rfl : i3 x2 = i3 x2) (show (1 : Int32) = i3 1 from rfl))) (zconso rfl rfl)))), rfl,  by omega, by omega, by omega,  hP⟩
      · replace hP := zE_n hP h5
        refine wz_i0 (i3O (n := 4400) (i3A (i3A (show (3850 : Int32) = i3 3850 from rfl) (i3M (show (8 : Int32) = i3 8 from rfl) (rfl : i3 x2 = i3 x2))) (show (3 : Int32) = i3 3 from rfl)) (by omega) (by omega) (by omega)) ?_
        have r12 := zM_f hZ 2 0 0 (3854 + 8 * x2)
        have r13 := zM_f hZ 2 0 0 (3855 + 8 * x2)
        have r14 := w3_r ((Z 2 0 0 (3854 + 8 * x2)) + (Z 2 0 0 (3855 + 8 * x2)))
        have r15 := zM_f hZ 2 0 0 (3856 + 8 * x2)
        have r16 := w3_r ((w3 ((Z 2 0 0 (3854 + 8 * x2)) + (Z 2 0 0 (3855 + 8 * x2)))) + (Z 2 0 0 (3856 + 8 * x2)))
        have r17 := zM_f hZ 2 0 0 (3853 + 8 * x2)
        refine wz_br (i3NE (i3W (i3A (i3W (i3A (zm_rd (Z := Z) (ν := ν) (k := 2) (show ((0 : Nat) : Int) = 0 from rfl) (show ((0 : Nat) : Int) = 0 from rfl) (i3I (y := (3854 + 8 * x2)) (i3A (i3A (show (3850 : Int32) = i3 3850 from rfl) (i3M (show (8 : Int32) = i3 8 from rfl) (rfl : i3 x2 = i3 x2))) (show (4 : Int32) = i3 4 from rfl)) (by omega) (by omega) (by omega))) (zm_rd (Z := Z) (ν := ν) (k := 2) (show ((0 : Nat) : Int) = 0 from rfl) (show ((0 : Nat) : Int) = 0 from rfl) (i3I (y := (3855 + 8 * x2)) (i3A (i3A (show (3850 : Int32) = i3 3850 from rfl) (i3M (show (8 : Int32) = i3 8 from rfl) (rfl : i3 x2 = i3 x2))) (show (5 : Int32) = i3 5 from rfl)) (by omega) (by omega) (by omega))))) (zm_rd (Z := Z) (ν := ν) (k := 2) (show ((0 : Nat) : Int) = 0 from rfl) (show ((0 : Nat) : Int) = 0 from rfl) (i3I (y := (3856 + 8 * x2)) (i3A (i3A (show (3850 : Int32) = i3 3850 from rfl) (i3M (show (8 : Int32) = i3 8 from rfl) (rfl : i3 x2 = i3 x2))) (show (6 : Int32) = i3 6 from rfl)) (by omega) (by omega) (by omega))))) (zm_rd (Z := Z) (ν := ν) (k := 2) (show ((0 : Nat) : Int) = 0 from rfl) (show ((0 : Nat) : Int) = 0 from rfl) (i3I (y := (3853 + 8 * x2)) (i3A (i3A (show (3850 : Int32) = i3 3850 from rfl) (i3M (show (8 : Int32) = i3 8 from rfl) (rfl : i3 x2 = i3 x2))) (show (3 : Int32) = i3 3 from rfl)) (by omega) (by omega) (by omega))) (by omega) (by omega) (by omega) (by omega)) (fun h18 => ?_) (fun h18 => ?_)
        · replace hP := zE_p hP h18
          obtain ⟨m2, rfl⟩ : ∃ m2, m = m2 + 1 := ⟨m - 1, by omega⟩
          exact wz_k1 ⟨m2, by omega, 0, (x2 + 1), (zconso rfl (zconso (zvo (show (0 : Int32) = i3 0 from rfl)) (zconso (zvo (i3A (rfl : i3 x2 = i3 x2) (show (1 : Int32) = i3 1 from rfl))) (zconso rfl rfl)))), rfl,  by omega, by omega, by omega,  hP⟩
        · replace hP := zE_n hP h18
          obtain ⟨m2, rfl⟩ : ∃ m2, m = m2 + 1 := ⟨m - 1, by omega⟩
          exact wz_k1 ⟨m2, by omega, 1, (x2 + 1), (zconso rfl (zconso (zvo (show (1 : Int32) = i3 1 from rfl)) (zconso (zvo (i3A (rfl : i3 x2 = i3 x2) (show (1 : Int32) = i3 1 from rfl))) (zconso rfl rfl)))), rfl,  by omega, by omega, by omega,  hP⟩
/- yX12_kQuarrelsSound -/
def zf_415 (Z : qz_Z) : Int := (zlet2 (zl_415_1 13 Z 1 0) (fun y1 y2 => y1))
theorem sp_415 {s : zSM} {Z : qz_Z} {ν : qz_N} (hZ : zM s Z) (hM : s.2 + 0 ≤ 1000000000) : ∃ P : Int, P = zf_415 Z ∧ (qf_415 [.inr (.inr (some (1, 0, 0)))] (zm Z ν) = some (zm Z ν, .inl (some (.inl (i3 P)))) ∧ 0 ≤ P ∧ P ≤ 1) := by
  obtain ⟨P, hP⟩ := zx (zf_415 Z)
  refine zc_R (Q := fun P => 0 ≤ P ∧ P ≤ 1) hP (fw_415  _ _ ?_)
  replace hP : zE P (zf_415 Z) := hP
  unfold zf_415 at hP
  refine sl_415_1 (ν := ν) hZ (zbh (c := 0) (k := 0) hM (Nat.le_of_ble_eq_true rfl)) (x1 := 1) (by omega) (x2 := 0) (by omega)  (zconso rfl (zconso (zvo (show (1 : Int32) = i3 1 from rfl)) (zconso (zvo (show (0 : Int32) = i3 0 from rfl)) (zconso rfl rfl)))) rfl ?_
  intro L3 y1 y2 hL3 gy1 gy2 q9
  replace hP := zl_e2 hP (Eq.symm q9)
  clear q9
  refine fc_415_2 (i3 y1) _ _ _ _ hL3 ?_
  refine wz_i1 (i3B (rfl : i3 y1 = i3 y1) (by omega)) ?_
  exact zlR hP (rfl : i3 y1 = i3 y1) ⟨by omega, by omega⟩
/- yX12_kSound -/
def zl_420_1 : Nat → qz_Z → Int → Int → Int × Int
  | 0, Z, x1, x2 => (x1, x2)
  | m + 1, Z, x1, x2 => (if 10 ≤ x2 then (x1, x2) else zl_420_1 m Z (w3 (x1 + (Z 2 0 0 (3800 + x2)))) (x2 + 1))
theorem sl_420_1 {s : zSM} {Z : qz_Z} {ν : qz_N} (hZ : zM s Z) (hM : s.2 + 0 ≤ 1000000000) {x1 : Int} (gx1 : -2147483648 ≤ x1 ∧ x1 ≤ 2147483647) {x2 : Int} (gx2 : 0 ≤ x2 ∧ x2 ≤ 10) {k : wz_K} {R : wz_R} {L : qz_L} (hL : qz_fg [true, true, true, false, false] L = [some (.inr (.inr (some (1, 0, 0)))), some (.inl (i3 x1)), some (.inl (i3 x2)), none, none]) {T : Int × Int} (hP : zE T (zl_420_1 ((10 - x2).toNat + 1) Z x1 x2)) (hk : ∀ (L9 : qz_L) (yx1 yx2 : Int), qz_fg [true, true, false, false, false] L9 = [some (.inr (.inr (some (1, 0, 0)))), some (.inl (i3 yx1)), none, none, none] → (-2147483648 ≤ yx1 ∧ yx1 ≤ 2147483647) → (0 ≤ yx2 ∧ yx2 ≤ 10) → zE T ((yx1, yx2)) → k 0 (L9, [], zm Z ν)) : wz_loop qb_420_1 65536 k R (L, [], zm Z ν) := by
  refine wz_lp sb_420_1 (fun m x => ∃ x1 : Int, ∃ x2 : Int, qz_fg [true, true, true, false, false] x.1 = [some (.inr (.inr (some (1, 0, 0)))), some (.inl (i3 x1)), some (.inl (i3 x2)), none, none] ∧ x.2 = ([], zm Z ν) ∧ m = (10 - x2).toNat ∧ (-2147483648 ≤ x1 ∧ x1 ≤ 2147483647) ∧ (0 ≤ x2 ∧ x2 ≤ 10) ∧ zE T (zl_420_1 (m + 1) Z x1 x2)) ?_ 65536 ((10 - x2).toNat) _ (by omega) ⟨x1, x2, hL, rfl, rfl, gx1, gx2, hP⟩
  clear hP gx1 gx2 hL
  clear x1 x2
  rintro m ⟨L, st, μ⟩ ⟨x1, x2, hL, hx, hm, gx1, gx2, hP⟩
  cases hx
  refine fb_420_1 (i3 x1) (i3 x2) _ _ _ _ hL ?_
  refine wz_br (i3Le (show (10 : Int32) = i3 10 from rfl) (rfl : i3 x2 = i3 x2) (by omega) (by omega) (by omega) (by omega)) (fun h1 => ?_) (fun h1 => ?_)
  · replace hP := zE_p hP h1
    exact hk _ _ _ (zconso rfl (zconso (zvo (rfl : i3 x1 = i3 x1)) (zconso rfl (zconso rfl (zconso rfl rfl)))))  (by omega) (by omega)  hP
  · replace hP := zE_n hP h1
    refine wz_i0 (i3O (n := 4400) (i3A (show (3800 : Int32) = i3 3800 from rfl) (rfl : i3 x2 = i3 x2)) (by omega) (by omega) (by omega)) ?_
    have r2 := zM_f hZ 2 0 0 (3800 + x2)
    have r3 := w3_r (x1 + (Z 2 0 0 (3800 + x2)))
    obtain ⟨m2, rfl⟩ : ∃ m2, m = m2 + 1 := ⟨m - 1, by omega⟩
    exact wz_k1 ⟨m2, by omega, (w3 (x1 + (Z 2 0 0 (3800 + x2)))), (x2 + 1), (zconso rfl (zconso (zvo (i3W (i3A (rfl : i3 x1 = i3 x1) (zm_rd (Z := Z) (ν := ν) (k := 2) (show ((0 : Nat) : Int) = 0 from rfl) (show ((0 : Nat) : Int) = 0 from rfl) (i3I (y := (3800 + x2)) (i3A (show (3800 : Int32) = i3 3800 from rfl) (rfl : i3 x2 = i3 x2)) (by omega) (by omega) (by omega)))))) (zconso (zvo (i3A (rfl : i3 x2 = i3 x2) (show (1 : Int32) = i3 1 from rfl))) (zconso rfl (zconso rfl rfl))))), rfl,  by omega, by omega, by omega,  hP⟩
/- yX12_kSound -/
def zl_420_2 (x1 : Int) : Nat → qz_Z → Int → Int → Int × Int
  | 0, Z, x2, x3 => (x2, x3)
  | m + 1, Z, x2, x3 => (if (Z 2 0 0 1400) ≤ x3 then (x2, x3) else (zlet (zf_289 Z x3) (fun v3 => zl_420_2 x1 m Z (w3 (x2 + (w3 ((Z 2 0 0 (1413 + 12 * x3)) - v3)))) (x3 + 1))))
theorem sl_420_2 {s : zSM} {Z : qz_Z} {ν : qz_N} (hZ : zM s Z) (hM : s.2 + 0 ≤ 1000000000) {x1 : Int} (gx1 : -2147483648 ≤ x1 ∧ x1 ≤ 2147483647) {x2 : Int} (gx2 : -2147483648 ≤ x2 ∧ x2 ≤ 2147483647) {x3 : Int} (gx3 : 0 ≤ x3 ∧ x3 ≤ 8) {k : wz_K} {R : wz_R} {L : qz_L} (hL : qz_fg [true, true, true, true, false] L = [some (.inr (.inr (some (1, 0, 0)))), some (.inl (i3 x1)), some (.inl (i3 x2)), some (.inl (i3 x3)), none]) {T : Int × Int} (hP : zE T (zl_420_2 x1 ((8 - x3).toNat + 1) Z x2 x3)) (hk : ∀ (L9 : qz_L) (yx2 yx3 : Int), qz_fg [true, true, true, false, false] L9 = [some (.inr (.inr (some (1, 0, 0)))), some (.inl (i3 x1)), some (.inl (i3 yx2)), none, none] → (-2147483648 ≤ yx2 ∧ yx2 ≤ 2147483647) → (0 ≤ yx3 ∧ yx3 ≤ 8) → zE T ((yx2, yx3)) → k 0 (L9, [], zm Z ν)) : wz_loop qb_420_2 65536 k R (L, [], zm Z ν) := by
  refine wz_lp sb_420_2 (fun m x => ∃ x2 : Int, ∃ x3 : Int, qz_fg [true, true, true, true, false] x.1 = [some (.inr (.inr (some (1, 0, 0)))), some (.inl (i3 x1)), some (.inl (i3 x2)), some (.inl (i3 x3)), none] ∧ x.2 = ([], zm Z ν) ∧ m = (8 - x3).toNat ∧ (-2147483648 ≤ x2 ∧ x2 ≤ 2147483647) ∧ (0 ≤ x3 ∧ x3 ≤ 8) ∧ zE T (zl_420_2 x1 (m + 1) Z x2 x3)) ?_ 65536 ((8 - x3).toNat) _ (by omega) ⟨x2, x3, hL, rfl, rfl, gx2, gx3, hP⟩
  clear hP gx2 gx3 hL
  clear x2 x3
  rintro m ⟨L, st, μ⟩ ⟨x2, x3, hL, hx, hm, gx2, gx3, hP⟩
  cases hx
  refine fb_420_2 (i3 x1) (i3 x2) (i3 x3) _ _ _ _ hL ?_
  have r1 := zM_k hZ 2 0 0 1400 (lo := 0) (hi := 8) (by decide) rfl
  refine wz_br (i3Le (zm_rd (Z := Z) (ν := ν) (k := 2) (show ((0 : Nat) : Int) = 0 from rfl) (show ((0 : Nat) : Int) = 0 from rfl) (show ((1400 : Nat) : Int) = 1400 from rfl)) (rfl : i3 x3 = i3 x3) (by omega) (by omega) (by omega) (by omega)) (fun h2 => ?_) (fun h2 => ?_)
  · replace hP := zE_p hP h2
    exact hk _ _ _ (zconso rfl (zconso (zvo (rfl : i3 x1 = i3 x1)) (zconso (zvo (rfl : i3 x2 = i3 x2)) (zconso rfl (zconso rfl rfl)))))  (by omega) (by omega)  hP
  · replace hP := zE_n hP h2
    refine wz_i0 (i3O (n := 4400) (i3A (i3A (show (1410 : Int32) = i3 1410 from rfl) (i3M (show (12 : Int32) = i3 12 from rfl) (rfl : i3 x3 = i3 x3))) (show (3 : Int32) = i3 3 from rfl)) (by omega) (by omega) (by omega)) ?_
    obtain ⟨v3, hv3, c9, lv3, uv3⟩ := sp_289 (ν := ν) hZ (a1 := x3) (by omega) (zbh (c := 0) (k := 0) hM (Nat.le_of_ble_eq_true rfl))
    replace hP := zl_e hP hv3
    refine wz_cI_of (zas (zcons rfl (zcons (zvi (rfl : i3 x3 = i3 x3)) rfl)) c9) ?_
    clear c9
    have r4 := zrs_e hv3
    have r5 := zM_f hZ 2 0 0 (1413 + 12 * x3)
    have r6 := w3_r ((Z 2 0 0 (1413 + 12 * x3)) - v3)
    have r7 := w3_r (x2 + (w3 ((Z 2 0 0 (1413 + 12 * x3)) - v3)))
    obtain ⟨m2, rfl⟩ : ∃ m2, m = m2 + 1 := ⟨m - 1, by omega⟩
    exact wz_k1 ⟨m2, by omega, (w3 (x2 + (w3 ((Z 2 0 0 (1413 + 12 * x3)) - v3)))), (x3 + 1), (zconso rfl (zconso (zvo (rfl : i3 x1 = i3 x1)) (zconso (zvo (i3W (i3A (rfl : i3 x2 = i3 x2) (i3W (i3S (zm_rd (Z := Z) (ν := ν) (k := 2) (show ((0 : Nat) : Int) = 0 from rfl) (show ((0 : Nat) : Int) = 0 from rfl) (i3I (y := (1413 + 12 * x3)) (i3A (i3A (show (1410 : Int32) = i3 1410 from rfl) (i3M (show (12 : Int32) = i3 12 from rfl) (rfl : i3 x3 = i3 x3))) (show (3 : Int32) = i3 3 from rfl)) (by omega) (by omega) (by omega))) (rfl : i3 v3 = i3 v3)))))) (zconso (zvo (i3A (rfl : i3 x3 = i3 x3) (show (1 : Int32) = i3 1 from rfl))) (zconso rfl rfl))))), rfl,  by omega, by omega, by omega,  hP⟩
/- yX12_kSound -/
def zl_420_3 (x1 : Int) (x2 : Int) : Nat → qz_Z → Int → Int → Int × Int
  | 0, Z, x3, x4 => (x3, x4)
  | m + 1, Z, x3, x4 => (if (Z 2 0 0 101) ≤ x4 then (x3, x4) else zl_420_3 x1 x2 m Z (w3 (x3 + (Z 2 0 0 (3820 + 5 * x4)))) (x4 + 1))
theorem sl_420_3 {s : zSM} {Z : qz_Z} {ν : qz_N} (hZ : zM s Z) (hM : s.2 + 0 ≤ 1000000000) {x1 : Int} (gx1 : -2147483648 ≤ x1 ∧ x1 ≤ 2147483647) {x2 : Int} (gx2 : -2147483648 ≤ x2 ∧ x2 ≤ 2147483647) {x3 : Int} (gx3 : -2147483648 ≤ x3 ∧ x3 ≤ 2147483647) {x4 : Int} (gx4 : 0 ≤ x4 ∧ x4 ≤ 6) {k : wz_K} {R : wz_R} {L : qz_L} (hL : qz_fg [true, true, true, true, true] L = [some (.inr (.inr (some (1, 0, 0)))), some (.inl (i3 x1)), some (.inl (i3 x2)), some (.inl (i3 x3)), some (.inl (i3 x4))]) {T : Int × Int} (hP : zE T (zl_420_3 x1 x2 ((6 - x4).toNat + 1) Z x3 x4)) (hk : ∀ (L9 : qz_L) (yx3 yx4 : Int), qz_fg [true, true, true, true, false] L9 = [some (.inr (.inr (some (1, 0, 0)))), some (.inl (i3 x1)), some (.inl (i3 x2)), some (.inl (i3 yx3)), none] → (-2147483648 ≤ yx3 ∧ yx3 ≤ 2147483647) → (0 ≤ yx4 ∧ yx4 ≤ 6) → zE T ((yx3, yx4)) → k 0 (L9, [], zm Z ν)) : wz_loop qb_420_3 65536 k R (L, [], zm Z ν) := by
  refine wz_lp sb_420_3 (fun m x => ∃ x3 : Int, ∃ x4 : Int, qz_fg [true, true, true, true, true] x.1 = [some (.inr (.inr (some (1, 0, 0)))), some (.inl (i3 x1)), some (.inl (i3 x2)), some (.inl (i3 x3)), some (.inl (i3 x4))] ∧ x.2 = ([], zm Z ν) ∧ m = (6 - x4).toNat ∧ (-2147483648 ≤ x3 ∧ x3 ≤ 2147483647) ∧ (0 ≤ x4 ∧ x4 ≤ 6) ∧ zE T (zl_420_3 x1 x2 (m + 1) Z x3 x4)) ?_ 65536 ((6 - x4).toNat) _ (by omega) ⟨x3, x4, hL, rfl, rfl, gx3, gx4, hP⟩
  clear hP gx3 gx4 hL
  clear x3 x4
  rintro m ⟨L, st, μ⟩ ⟨x3, x4, hL, hx, hm, gx3, gx4, hP⟩
  cases hx
  refine fb_420_3 (i3 x1) (i3 x2) (i3 x3) (i3 x4) _ _ _ _ hL ?_
  have r1 := zM_k hZ 2 0 0 101 (lo := 0) (hi := 6) (by decide) rfl
  refine wz_br (i3Le (zm_rd (Z := Z) (ν := ν) (k := 2) (show ((0 : Nat) : Int) = 0 from rfl) (show ((0 : Nat) : Int) = 0 from rfl) (show ((101 : Nat) : Int) = 101 from rfl)) (rfl : i3 x4 = i3 x4) (by omega) (by omega) (by omega) (by omega)) (fun h2 => ?_) (fun h2 => ?_)
  · replace hP := zE_p hP h2
    exact hk _ _ _ (zconso rfl (zconso (zvo (rfl : i3 x1 = i3 x1)) (zconso (zvo (rfl : i3 x2 = i3 x2)) (zconso (zvo (rfl : i3 x3 = i3 x3)) (zconso rfl rfl)))))  (by omega) (by omega)  hP
  · replace hP := zE_n hP h2
    refine wz_i0 (i3O (n := 4400) (i3A (i3A (show (3820 : Int32) = i3 3820 from rfl) (i3M (show (5 : Int32) = i3 5 from rfl) (rfl : i3 x4 = i3 x4))) (show (0 : Int32) = i3 0 from rfl)) (by omega) (by omega) (by omega)) ?_
    have r3 := zM_f hZ 2 0 0 (3820 + 5 * x4)
    have r4 := w3_r (x3 + (Z 2 0 0 (3820 + 5 * x4)))
    obtain ⟨m2, rfl⟩ : ∃ m2, m = m2 + 1 := ⟨m - 1, by omega⟩
    exact wz_k1 ⟨m2, by omega, (w3 (x3 + (Z 2 0 0 (3820 + 5 * x4)))), (x4 + 1), (zconso rfl (zconso (zvo (rfl : i3 x1 = i3 x1)) (zconso (zvo (rfl : i3 x2 = i3 x2)) (zconso (zvo (i3W (i3A (rfl : i3 x3 = i3 x3) (zm_rd (Z := Z) (ν := ν) (k := 2) (show ((0 : Nat) : Int) = 0 from rfl) (show ((0 : Nat) : Int) = 0 from rfl) (i3I (y := (3820 + 5 * x4)) (i3A (i3A (show (3820 : Int32) = i3 3820 from rfl) (i3M (show (5 : Int32) = i3 5 from rfl) (rfl : i3 x4 = i3 x4))) (show (0 : Int32) = i3 0 from rfl)) (by omega) (by omega) (by omega)))))) (zconso (zvo (i3A (rfl : i3 x4 = i3 x4) (show (1 : Int32) = i3 1 from rfl))) rfl))))), rfl,  by omega, by omega, by omega,  hP⟩
/- yX12_kSound -/
def zf_420 (Z : qz_Z) : Int := (zlet2 (zl_420_1 11 Z 0 0) (fun y1 y2 => (zlet2 (zl_420_2 y1 9 Z (Z 2 0 0 3801) 0) (fun y5 y6 => (zlet2 (zl_420_3 y1 y5 7 Z (Z 2 0 0 3802) 0) (fun y9 y10 => (if y1 ≠ 0 then 0 else (if y5 ≠ 0 then 0 else (if y9 ≠ 0 then 0 else (zlet (zf_415 Z) (fun v15 => (if v15 = 0 then 0 else 1))))))))))))
theorem sp_420 {s : zSM} {Z : qz_Z} {ν : qz_N} (hZ : zM s Z) (hM : s.2 + 0 ≤ 1000000000) : ∃ P : Int, P = zf_420 Z ∧ (qf_420 [.inr (.inr (some (1, 0, 0)))] (zm Z ν) = some (zm Z ν, .inl (some (.inl (i3 P)))) ∧ 0 ≤ P ∧ P ≤ 1) := by
  obtain ⟨P, hP⟩ := zx (zf_420 Z)
  refine zc_R (Q := fun P => 0 ≤ P ∧ P ≤ 1) hP (fw_420  _ _ ?_)
  replace hP : zE P (zf_420 Z) := hP
  unfold zf_420 at hP
  refine sl_420_1 (ν := ν) hZ (zbh (c := 0) (k := 0) hM (Nat.le_of_ble_eq_true rfl)) (x1 := 0) (by omega) (x2 := 0) (by omega)  (zconso rfl (zconso (zvo (show (0 : Int32) = i3 0 from rfl)) (zconso (zvo (show (0 : Int32) = i3 0 from rfl)) (zconso rfl (zconso rfl rfl))))) rfl ?_
  intro L3 y1 y2 hL3 gy1 gy2 q9
  replace hP := zl_e2 hP (Eq.symm q9)
  clear q9
  refine fc_420_6 (i3 y1) _ _ _ _ hL3 ?_
  have r4 := zM_f hZ 2 0 0 3801
  refine sl_420_2 (ν := ν) hZ (zbh (c := 0) (k := 0) hM (Nat.le_of_ble_eq_true rfl)) (x1 := y1) (by omega) (x2 := (Z 2 0 0 3801)) (by omega) (x3 := 0) (by omega)  (zconso rfl (zconso (zvo (rfl : i3 y1 = i3 y1)) (zconso (zvo (zm_rd (Z := Z) (ν := ν) (k := 2) (show ((0 : Nat) : Int) = 0 from rfl) (show ((0 : Nat) : Int) = 0 from rfl) (show ((3801 : Nat) : Int) = 3801 from rfl))) (zconso (zvo (show (0 : Int32) = i3 0 from rfl)) (zconso rfl rfl))))) rfl ?_
  intro L7 y5 y6 hL7 gy5 gy6 q9
  replace hP := zl_e2 hP (Eq.symm q9)
  clear q9
  refine fc_420_5 (i3 y1) (i3 y5) _ _ _ _ hL7 ?_
  have r8 := zM_f hZ 2 0 0 3802
  refine sl_420_3 (ν := ν) hZ (zbh (c := 0) (k := 0) hM (Nat.le_of_ble_eq_true rfl)) (x1 := y1) (by omega) (x2 := y5) (by omega) (x3 := (Z 2 0 0 3802)) (by omega) (x4 := 0) (by omega)  (zconso rfl (zconso (zvo (rfl : i3 y1 = i3 y1)) (zconso (zvo (rfl : i3 y5 = i3 y5)) (zconso (zvo (zm_rd (Z := Z) (ν := ν) (k := 2) (show ((0 : Nat) : Int) = 0 from rfl) (show ((0 : Nat) : Int) = 0 from rfl) (show ((3802 : Nat) : Int) = 3802 from rfl))) (zconso (zvo (show (0 : Int32) = i3 0 from rfl)) rfl))))) rfl ?_
  intro L11 y9 y10 hL11 gy9 gy10 q9
  replace hP := zl_e2 hP (Eq.symm q9)
  clear q9
  refine fc_420_4 (i3 y1) (i3 y5) (i3 y9) _ _ _ _ hL11 ?_
  refine wz_br (i3NE (rfl : i3 y1 = i3 y1) (show (0 : Int32) = i3 0 from rfl) (by omega) (by omega) (by omega) (by omega)) (fun h12 => ?_) (fun h12 => ?_)
  · replace hP := zE_p hP h12
    exact zlR hP (show (0 : Int32) = i3 0 from rfl) ⟨by omega, by omega⟩
  · replace hP := zE_n hP h12
    refine wz_br (i3NE (rfl : i3 y5 = i3 y5) (show (0 : Int32) = i3 0 from rfl) (by omega) (by omega) (by omega) (by omega)) (fun h13 => ?_) (fun h13 => ?_)
    · replace hP := zE_p hP h13
      exact zlR hP (show (0 : Int32) = i3 0 from rfl) ⟨by omega, by omega⟩
    · replace hP := zE_n hP h13
      refine wz_br (i3NE (rfl : i3 y9 = i3 y9) (show (0 : Int32) = i3 0 from rfl) (by omega) (by omega) (by omega) (by omega)) (fun h14 => ?_) (fun h14 => ?_)
      · replace hP := zE_p hP h14
        exact zlR hP (show (0 : Int32) = i3 0 from rfl) ⟨by omega, by omega⟩
      · replace hP := zE_n hP h14
        obtain ⟨v15, hv15, c9, lv15, uv15⟩ := sp_415 (ν := ν) hZ (zbh (c := 0) (k := 0) hM (Nat.le_of_ble_eq_true rfl))
        replace hP := zl_e hP hv15
        refine wz_cI_of (zas (zcons rfl rfl) c9) ?_
        clear c9
        refine wz_br (i3E (rfl : i3 v15 = i3 v15) (show (0 : Int32) = i3 0 from rfl) (by omega) (by omega) (by omega) (by omega)) (fun h16 => ?_) (fun h16 => ?_)
        · replace hP := zE_p hP h16
          exact zlR hP (show (0 : Int32) = i3 0 from rfl) ⟨by omega, by omega⟩
        · replace hP := zE_n hP h16
          exact zlR hP (show (1 : Int32) = i3 1 from rfl) ⟨by omega, by omega⟩
