/- yX12_iKind -/
def zf_364 (Z : qz_Z) (a1 : Int) (a2 : Int) : Int := (if ((Z 2 0 0 (113 + 5 * (Z 2 0 0 (201 + 20 * a2)))) - (Z 2 0 0 (114 + 5 * (Z 2 0 0 (201 + 20 * a2))))) ≤ (Z 2 0 0 (207 + 20 * a2)) then (if ((Z 2 0 0 (113 + 5 * (Z 2 0 0 (201 + 20 * a2)))) + (Z 2 0 0 (114 + 5 * (Z 2 0 0 (201 + 20 * a2))))) < (Z 2 0 0 (207 + 20 * a2)) then (if ((Z 2 0 0 (113 + 5 * (Z 2 0 0 (201 + 20 * a2)))) + (3 * (Z 2 0 0 (114 + 5 * (Z 2 0 0 (201 + 20 * a2)))))) < (Z 2 0 0 (207 + 20 * a2)) then 0 else (if (Z 2 0 0 (208 + 20 * a2)) < 24 then (if (Z 2 0 0 (3521 + 10 * a1)) < 1 then (-1) else (if (Z 2 0 0 (209 + 20 * a2)) = (-1) then (-1) else (zlet (zf_326 Z a2) (fun v14 => (if v14 ≤ (Z 2 0 0 (209 + 20 * a2)) then (-1) else 2))))) else (if (Z 2 0 0 (209 + 20 * a2)) < 0 then (if (Z 2 0 0 (3521 + 10 * a1)) < 1 then (-1) else (-1)) else (if 2 < (Z 2 0 0 (209 + 20 * a2)) then (if (Z 2 0 0 (3521 + 10 * a1)) < 1 then (-1) else (zlet (zf_326 Z a2) (fun v23 => (-1)))) else 1)))) else (if (Z 2 0 0 (208 + 20 * a2)) < 24 then (if (Z 2 0 0 (3521 + 10 * a1)) < 1 then (-1) else (if (Z 2 0 0 (209 + 20 * a2)) = (-1) then (-1) else (zlet (zf_326 Z a2) (fun v30 => (if v30 ≤ (Z 2 0 0 (209 + 20 * a2)) then (-1) else 2))))) else (if (Z 2 0 0 (209 + 20 * a2)) < 0 then (if (Z 2 0 0 (3521 + 10 * a1)) < 1 then (-1) else (-1)) else (if 2 < (Z 2 0 0 (209 + 20 * a2)) then (if (Z 2 0 0 (3521 + 10 * a1)) < 1 then (-1) else (zlet (zf_326 Z a2) (fun v39 => (-1)))) else 1)))) else (if (Z 2 0 0 (208 + 20 * a2)) < 24 then (if (Z 2 0 0 (3521 + 10 * a1)) < 1 then (-1) else (if (Z 2 0 0 (209 + 20 * a2)) = (-1) then (-1) else (zlet (zf_326 Z a2) (fun v46 => (if v46 ≤ (Z 2 0 0 (209 + 20 * a2)) then (-1) else 2))))) else (if (Z 2 0 0 (209 + 20 * a2)) < 0 then (if (Z 2 0 0 (3521 + 10 * a1)) < 1 then (-1) else (-1)) else (if 2 < (Z 2 0 0 (209 + 20 * a2)) then (if (Z 2 0 0 (3521 + 10 * a1)) < 1 then (-1) else (zlet (zf_326 Z a2) (fun v55 => (-1)))) else 1))))
theorem sp_364 {s : zSM} {Z : qz_Z} {ν : qz_N} (hZ : zM s Z) {a1 : Int} (ga1 : 0 ≤ a1 ∧ a1 ≤ 1) {a2 : Int} (ga2 : 0 ≤ a2 ∧ a2 ≤ 47) (hM : s.2 + 0 ≤ 1000000000) : ∃ P : Int, P = zf_364 Z a1 a2 ∧ (qf_364 [.inr (.inr (some (1, 0, 0))), .inl (i3 a1), .inl (i3 a2)] (zm Z ν) = some (zm Z ν, .inl (some (.inl (i3 P)))) ∧ -1 ≤ P ∧ P ≤ 2) := by
  obtain ⟨P, hP⟩ := zx (zf_364 Z a1 a2)
  refine zc_R (Q := fun P => -1 ≤ P ∧ P ≤ 2) hP (fw_364 (i3 a1) (i3 a2) _ _ ?_)
  replace hP : zE P (zf_364 Z a1 a2) := hP
  unfold zf_364 at hP
  refine wz_i0 (i3O (n := 4400) (i3A (i3A (show (200 : Int32) = i3 200 from rfl) (i3M (show (20 : Int32) = i3 20 from rfl) (rfl : i3 a2 = i3 a2))) (show (9 : Int32) = i3 9 from rfl)) (by omega) (by omega) (by omega)) ?_
  refine wz_i0 (i3O (n := 4400) (i3A (i3A (show (200 : Int32) = i3 200 from rfl) (i3M (show (20 : Int32) = i3 20 from rfl) (rfl : i3 a2 = i3 a2))) (show (1 : Int32) = i3 1 from rfl)) (by omega) (by omega) (by omega)) ?_
  refine wz_i0 (i3O (n := 4400) (i3A (i3A (show (200 : Int32) = i3 200 from rfl) (i3M (show (20 : Int32) = i3 20 from rfl) (rfl : i3 a2 = i3 a2))) (show (7 : Int32) = i3 7 from rfl)) (by omega) (by omega) (by omega)) ?_
  have r1 := zM_k hZ 2 0 0 (201 + 20 * a2) (lo := 0) (hi := 4) (by decide) (zs_200_1 (x := a2) (by omega) (by omega) (by omega))
  refine wz_i0 (i3O (n := 4400) (i3A (i3A (show (110 : Int32) = i3 110 from rfl) (i3M (show (5 : Int32) = i3 5 from rfl) (zm_rd (Z := Z) (ν := ν) (k := 2) (show ((0 : Nat) : Int) = 0 from rfl) (show ((0 : Nat) : Int) = 0 from rfl) (i3I (y := (201 + 20 * a2)) (i3A (i3A (show (200 : Int32) = i3 200 from rfl) (i3M (show (20 : Int32) = i3 20 from rfl) (rfl : i3 a2 = i3 a2))) (show (1 : Int32) = i3 1 from rfl)) (by omega) (by omega) (by omega))))) (show (3 : Int32) = i3 3 from rfl)) (by omega) (by omega) (by omega)) ?_
  refine wz_i0 (i3O (n := 4400) (i3A (i3A (show (110 : Int32) = i3 110 from rfl) (i3M (show (5 : Int32) = i3 5 from rfl) (zm_rd (Z := Z) (ν := ν) (k := 2) (show ((0 : Nat) : Int) = 0 from rfl) (show ((0 : Nat) : Int) = 0 from rfl) (i3I (y := (201 + 20 * a2)) (i3A (i3A (show (200 : Int32) = i3 200 from rfl) (i3M (show (20 : Int32) = i3 20 from rfl) (rfl : i3 a2 = i3 a2))) (show (1 : Int32) = i3 1 from rfl)) (by omega) (by omega) (by omega))))) (show (4 : Int32) = i3 4 from rfl)) (by omega) (by omega) (by omega)) ?_
  have r2 := zM_k hZ 2 0 0 (113 + 5 * (Z 2 0 0 (201 + 20 * a2))) (lo := 0) (hi := 600) (by decide) (zs_110_3 (x := (Z 2 0 0 (201 + 20 * a2))) (by omega) (by omega) (by omega))
  have r3 := zM_k hZ 2 0 0 (114 + 5 * (Z 2 0 0 (201 + 20 * a2))) (lo := 0) (hi := 99) (by decide) (zs_110_4 (x := (Z 2 0 0 (201 + 20 * a2))) (by omega) (by omega) (by omega))
  have r4 := zM_k hZ 2 0 0 (207 + 20 * a2) (lo := 0) (hi := 2000) (by decide) (zs_200_7 (x := a2) (by omega) (by omega) (by omega))
  refine wz_br (i3Le (i3S (zm_rd (Z := Z) (ν := ν) (k := 2) (show ((0 : Nat) : Int) = 0 from rfl) (show ((0 : Nat) : Int) = 0 from rfl) (i3I (y := (113 + 5 * (Z 2 0 0 (201 + 20 * a2)))) (i3A (i3A (show (110 : Int32) = i3 110 from rfl) (i3M (show (5 : Int32) = i3 5 from rfl) (zm_rd (Z := Z) (ν := ν) (k := 2) (show ((0 : Nat) : Int) = 0 from rfl) (show ((0 : Nat) : Int) = 0 from rfl) (i3I (y := (201 + 20 * a2)) (i3A (i3A (show (200 : Int32) = i3 200 from rfl) (i3M (show (20 : Int32) = i3 20 from rfl) (rfl : i3 a2 = i3 a2))) (show (1 : Int32) = i3 1 from rfl)) (by omega) (by omega) (by omega))))) (show (3 : Int32) = i3 3 from rfl)) (by omega) (by omega) (by omega))) (zm_rd (Z := Z) (ν := ν) (k := 2) (show ((0 : Nat) : Int) = 0 from rfl) (show ((0 : Nat) : Int) = 0 from rfl) (i3I (y := (114 + 5 * (Z 2 0 0 (201 + 20 * a2)))) (i3A (i3A (show (110 : Int32) = i3 110 from rfl) (i3M (show (5 : Int32) = i3 5 from rfl) (zm_rd (Z := Z) (ν := ν) (k := 2) (show ((0 : Nat) : Int) = 0 from rfl) (show ((0 : Nat) : Int) = 0 from rfl) (i3I (y := (201 + 20 * a2)) (i3A (i3A (show (200 : Int32) = i3 200 from rfl) (i3M (show (20 : Int32) = i3 20 from rfl) (rfl : i3 a2 = i3 a2))) (show (1 : Int32) = i3 1 from rfl)) (by omega) (by omega) (by omega))))) (show (4 : Int32) = i3 4 from rfl)) (by omega) (by omega) (by omega)))) (zm_rd (Z := Z) (ν := ν) (k := 2) (show ((0 : Nat) : Int) = 0 from rfl) (show ((0 : Nat) : Int) = 0 from rfl) (i3I (y := (207 + 20 * a2)) (i3A (i3A (show (200 : Int32) = i3 200 from rfl) (i3M (show (20 : Int32) = i3 20 from rfl) (rfl : i3 a2 = i3 a2))) (show (7 : Int32) = i3 7 from rfl)) (by omega) (by omega) (by omega))) (by omega) (by omega) (by omega) (by omega)) (fun h5 => ?_) (fun h5 => ?_)
  · replace hP := zE_p hP h5
    refine wz_br (i3L (i3A (zm_rd (Z := Z) (ν := ν) (k := 2) (show ((0 : Nat) : Int) = 0 from rfl) (show ((0 : Nat) : Int) = 0 from rfl) (i3I (y := (113 + 5 * (Z 2 0 0 (201 + 20 * a2)))) (i3A (i3A (show (110 : Int32) = i3 110 from rfl) (i3M (show (5 : Int32) = i3 5 from rfl) (zm_rd (Z := Z) (ν := ν) (k := 2) (show ((0 : Nat) : Int) = 0 from rfl) (show ((0 : Nat) : Int) = 0 from rfl) (i3I (y := (201 + 20 * a2)) (i3A (i3A (show (200 : Int32) = i3 200 from rfl) (i3M (show (20 : Int32) = i3 20 from rfl) (rfl : i3 a2 = i3 a2))) (show (1 : Int32) = i3 1 from rfl)) (by omega) (by omega) (by omega))))) (show (3 : Int32) = i3 3 from rfl)) (by omega) (by omega) (by omega))) (zm_rd (Z := Z) (ν := ν) (k := 2) (show ((0 : Nat) : Int) = 0 from rfl) (show ((0 : Nat) : Int) = 0 from rfl) (i3I (y := (114 + 5 * (Z 2 0 0 (201 + 20 * a2)))) (i3A (i3A (show (110 : Int32) = i3 110 from rfl) (i3M (show (5 : Int32) = i3 5 from rfl) (zm_rd (Z := Z) (ν := ν) (k := 2) (show ((0 : Nat) : Int) = 0 from rfl) (show ((0 : Nat) : Int) = 0 from rfl) (i3I (y := (201 + 20 * a2)) (i3A (i3A (show (200 : Int32) = i3 200 from rfl) (i3M (show (20 : Int32) = i3 20 from rfl) (rfl : i3 a2 = i3 a2))) (show (1 : Int32) = i3 1 from rfl)) (by omega) (by omega) (by omega))))) (show (4 : Int32) = i3 4 from rfl)) (by omega) (by omega) (by omega)))) (zm_rd (Z := Z) (ν := ν) (k := 2) (show ((0 : Nat) : Int) = 0 from rfl) (show ((0 : Nat) : Int) = 0 from rfl) (i3I (y := (207 + 20 * a2)) (i3A (i3A (show (200 : Int32) = i3 200 from rfl) (i3M (show (20 : Int32) = i3 20 from rfl) (rfl : i3 a2 = i3 a2))) (show (7 : Int32) = i3 7 from rfl)) (by omega) (by omega) (by omega))) (by omega) (by omega) (by omega) (by omega)) (fun h6 => ?_) (fun h6 => ?_)
    · replace hP := zE_p hP h6
      refine wz_br (i3L (i3A (zm_rd (Z := Z) (ν := ν) (k := 2) (show ((0 : Nat) : Int) = 0 from rfl) (show ((0 : Nat) : Int) = 0 from rfl) (i3I (y := (113 + 5 * (Z 2 0 0 (201 + 20 * a2)))) (i3A (i3A (show (110 : Int32) = i3 110 from rfl) (i3M (show (5 : Int32) = i3 5 from rfl) (zm_rd (Z := Z) (ν := ν) (k := 2) (show ((0 : Nat) : Int) = 0 from rfl) (show ((0 : Nat) : Int) = 0 from rfl) (i3I (y := (201 + 20 * a2)) (i3A (i3A (show (200 : Int32) = i3 200 from rfl) (i3M (show (20 : Int32) = i3 20 from rfl) (rfl : i3 a2 = i3 a2))) (show (1 : Int32) = i3 1 from rfl)) (by omega) (by omega) (by omega))))) (show (3 : Int32) = i3 3 from rfl)) (by omega) (by omega) (by omega))) (i3M (show (3 : Int32) = i3 3 from rfl) (zm_rd (Z := Z) (ν := ν) (k := 2) (show ((0 : Nat) : Int) = 0 from rfl) (show ((0 : Nat) : Int) = 0 from rfl) (i3I (y := (114 + 5 * (Z 2 0 0 (201 + 20 * a2)))) (i3A (i3A (show (110 : Int32) = i3 110 from rfl) (i3M (show (5 : Int32) = i3 5 from rfl) (zm_rd (Z := Z) (ν := ν) (k := 2) (show ((0 : Nat) : Int) = 0 from rfl) (show ((0 : Nat) : Int) = 0 from rfl) (i3I (y := (201 + 20 * a2)) (i3A (i3A (show (200 : Int32) = i3 200 from rfl) (i3M (show (20 : Int32) = i3 20 from rfl) (rfl : i3 a2 = i3 a2))) (show (1 : Int32) = i3 1 from rfl)) (by omega) (by omega) (by omega))))) (show (4 : Int32) = i3 4 from rfl)) (by omega) (by omega) (by omega))))) (zm_rd (Z := Z) (ν := ν) (k := 2) (show ((0 : Nat) : Int) = 0 from rfl) (show ((0 : Nat) : Int) = 0 from rfl) (i3I (y := (207 + 20 * a2)) (i3A (i3A (show (200 : Int32) = i3 200 from rfl) (i3M (show (20 : Int32) = i3 20 from rfl) (rfl : i3 a2 = i3 a2))) (show (7 : Int32) = i3 7 from rfl)) (by omega) (by omega) (by omega))) (by omega) (by omega) (by omega) (by omega)) (fun h7 => ?_) (fun h7 => ?_)
      · replace hP := zE_p hP h7
        exact zlR hP (show (0 : Int32) = i3 0 from rfl) ⟨by omega, by omega⟩
      · replace hP := zE_n hP h7
        refine wz_i0 (i3O (n := 4400) (i3A (i3A (show (200 : Int32) = i3 200 from rfl) (i3M (show (20 : Int32) = i3 20 from rfl) (rfl : i3 a2 = i3 a2))) (show (8 : Int32) = i3 8 from rfl)) (by omega) (by omega) (by omega)) ?_
        have r8 := zM_k hZ 2 0 0 (208 + 20 * a2) (lo := 0) (hi := 999) (by decide) (zs_200_8 (x := a2) (by omega) (by omega) (by omega))
        refine wz_br (i3L (zm_rd (Z := Z) (ν := ν) (k := 2) (show ((0 : Nat) : Int) = 0 from rfl) (show ((0 : Nat) : Int) = 0 from rfl) (i3I (y := (208 + 20 * a2)) (i3A (i3A (show (200 : Int32) = i3 200 from rfl) (i3M (show (20 : Int32) = i3 20 from rfl) (rfl : i3 a2 = i3 a2))) (show (8 : Int32) = i3 8 from rfl)) (by omega) (by omega) (by omega))) (show (24 : Int32) = i3 24 from rfl) (by omega) (by omega) (by omega) (by omega)) (fun h9 => ?_) (fun h9 => ?_)
        · replace hP := zE_p hP h9
          refine wz_i0 (i3O (n := 4400) (i3A (i3A (show (3520 : Int32) = i3 3520 from rfl) (i3M (show (10 : Int32) = i3 10 from rfl) (rfl : i3 a1 = i3 a1))) (show (1 : Int32) = i3 1 from rfl)) (by omega) (by omega) (by omega)) ?_
          have r10 := zM_k hZ 2 0 0 (3521 + 10 * a1) (lo := 0) (hi := 3) (by decide) (zs_3520_1 (x := a1) (by omega) (by omega) (by omega))
          refine wz_br (i3L (zm_rd (Z := Z) (ν := ν) (k := 2) (show ((0 : Nat) : Int) = 0 from rfl) (show ((0 : Nat) : Int) = 0 from rfl) (i3I (y := (3521 + 10 * a1)) (i3A (i3A (show (3520 : Int32) = i3 3520 from rfl) (i3M (show (10 : Int32) = i3 10 from rfl) (rfl : i3 a1 = i3 a1))) (show (1 : Int32) = i3 1 from rfl)) (by omega) (by omega) (by omega))) (show (1 : Int32) = i3 1 from rfl) (by omega) (by omega) (by omega) (by omega)) (fun h11 => ?_) (fun h11 => ?_)
          · replace hP := zE_p hP h11
            exact zlR hP (show (-1 : Int32) = i3 (-1) from rfl) ⟨by omega, by omega⟩
          · replace hP := zE_n hP h11
            have r12 := zM_k hZ 2 0 0 (209 + 20 * a2) (lo := -1) (hi := 3) (by decide) (zs_200_9 (x := a2) (by omega) (by omega) (by omega))
            refine wz_br (i3E (zm_rd (Z := Z) (ν := ν) (k := 2) (show ((0 : Nat) : Int) = 0 from rfl) (show ((0 : Nat) : Int) = 0 from rfl) (i3I (y := (209 + 20 * a2)) (i3A (i3A (show (200 : Int32) = i3 200 from rfl) (i3M (show (20 : Int32) = i3 20 from rfl) (rfl : i3 a2 = i3 a2))) (show (9 : Int32) = i3 9 from rfl)) (by omega) (by omega) (by omega))) (show (-1 : Int32) = i3 (-1) from rfl) (by omega) (by omega) (by omega) (by omega)) (fun h13 => ?_) (fun h13 => ?_)
            · replace hP := zE_p hP h13
              exact zlR hP (show (-1 : Int32) = i3 (-1) from rfl) ⟨by omega, by omega⟩
            · replace hP := zE_n hP h13
              obtain ⟨v14, hv14, c9, lv14, uv14⟩ := sp_326 (ν := ν) hZ (a1 := a2) (by omega) (zbh (c := 0) (k := 0) hM (Nat.le_of_ble_eq_true rfl))
              replace hP := zl_e hP hv14
              refine wz_cI_of (zas (zcons rfl (zcons (zvi (rfl : i3 a2 = i3 a2)) rfl)) c9) ?_
              clear c9
              refine wz_br (i3Le (rfl : i3 v14 = i3 v14) (zm_rd (Z := Z) (ν := ν) (k := 2) (show ((0 : Nat) : Int) = 0 from rfl) (show ((0 : Nat) : Int) = 0 from rfl) (i3I (y := (209 + 20 * a2)) (i3A (i3A (show (200 : Int32) = i3 200 from rfl) (i3M (show (20 : Int32) = i3 20 from rfl) (rfl : i3 a2 = i3 a2))) (show (9 : Int32) = i3 9 from rfl)) (by omega) (by omega) (by omega))) (by omega) (by omega) (by omega) (by omega)) (fun h15 => ?_) (fun h15 => ?_)
              · replace hP := zE_p hP h15
                exact zlR hP (show (-1 : Int32) = i3 (-1) from rfl) ⟨by omega, by omega⟩
              · replace hP := zE_n hP h15
                exact zlR hP (show (2 : Int32) = i3 2 from rfl) ⟨by omega, by omega⟩
        · replace hP := zE_n hP h9
          have r16 := zM_k hZ 2 0 0 (209 + 20 * a2) (lo := -1) (hi := 3) (by decide) (zs_200_9 (x := a2) (by omega) (by omega) (by omega))
          refine wz_br (i3L (zm_rd (Z := Z) (ν := ν) (k := 2) (show ((0 : Nat) : Int) = 0 from rfl) (show ((0 : Nat) : Int) = 0 from rfl) (i3I (y := (209 + 20 * a2)) (i3A (i3A (show (200 : Int32) = i3 200 from rfl) (i3M (show (20 : Int32) = i3 20 from rfl) (rfl : i3 a2 = i3 a2))) (show (9 : Int32) = i3 9 from rfl)) (by omega) (by omega) (by omega))) (show (0 : Int32) = i3 0 from rfl) (by omega) (by omega) (by omega) (by omega)) (fun h17 => ?_) (fun h17 => ?_)
          · replace hP := zE_p hP h17
            refine wz_i0 (i3O (n := 4400) (i3A (i3A (show (3520 : Int32) = i3 3520 from rfl) (i3M (show (10 : Int32) = i3 10 from rfl) (rfl : i3 a1 = i3 a1))) (show (1 : Int32) = i3 1 from rfl)) (by omega) (by omega) (by omega)) ?_
            have r18 := zM_k hZ 2 0 0 (3521 + 10 * a1) (lo := 0) (hi := 3) (by decide) (zs_3520_1 (x := a1) (by omega) (by omega) (by omega))
            refine wz_br (i3L (zm_rd (Z := Z) (ν := ν) (k := 2) (show ((0 : Nat) : Int) = 0 from rfl) (show ((0 : Nat) : Int) = 0 from rfl) (i3I (y := (3521 + 10 * a1)) (i3A (i3A (show (3520 : Int32) = i3 3520 from rfl) (i3M (show (10 : Int32) = i3 10 from rfl) (rfl : i3 a1 = i3 a1))) (show (1 : Int32) = i3 1 from rfl)) (by omega) (by omega) (by omega))) (show (1 : Int32) = i3 1 from rfl) (by omega) (by omega) (by omega) (by omega)) (fun h19 => ?_) (fun h19 => ?_)
            · replace hP := zE_p hP h19
              exact zlR hP (show (-1 : Int32) = i3 (-1) from rfl) ⟨by omega, by omega⟩
            · replace hP := zE_n hP h19
              refine wz_i1 (Eq.trans (i3E (zm_rd (Z := Z) (ν := ν) (k := 2) (show ((0 : Nat) : Int) = 0 from rfl) (show ((0 : Nat) : Int) = 0 from rfl) (i3I (y := (209 + 20 * a2)) (i3A (i3A (show (200 : Int32) = i3 200 from rfl) (i3M (show (20 : Int32) = i3 20 from rfl) (rfl : i3 a2 = i3 a2))) (show (9 : Int32) = i3 9 from rfl)) (by omega) (by omega) (by omega))) (show (-1 : Int32) = i3 (-1) from rfl) (by omega) (by omega) (by omega) (by omega)) (decide_eq_true (by omega))) ?_
              exact zlR hP (show (-1 : Int32) = i3 (-1) from rfl) ⟨by omega, by omega⟩
          · replace hP := zE_n hP h17
            refine wz_br (i3L (show (2 : Int32) = i3 2 from rfl) (zm_rd (Z := Z) (ν := ν) (k := 2) (show ((0 : Nat) : Int) = 0 from rfl) (show ((0 : Nat) : Int) = 0 from rfl) (i3I (y := (209 + 20 * a2)) (i3A (i3A (show (200 : Int32) = i3 200 from rfl) (i3M (show (20 : Int32) = i3 20 from rfl) (rfl : i3 a2 = i3 a2))) (show (9 : Int32) = i3 9 from rfl)) (by omega) (by omega) (by omega))) (by omega) (by omega) (by omega) (by omega)) (fun h20 => ?_) (fun h20 => ?_)
            · replace hP := zE_p hP h20
              refine wz_i0 (i3O (n := 4400) (i3A (i3A (show (3520 : Int32) = i3 3520 from rfl) (i3M (show (10 : Int32) = i3 10 from rfl) (rfl : i3 a1 = i3 a1))) (show (1 : Int32) = i3 1 from rfl)) (by omega) (by omega) (by omega)) ?_
              have r21 := zM_k hZ 2 0 0 (3521 + 10 * a1) (lo := 0) (hi := 3) (by decide) (zs_3520_1 (x := a1) (by omega) (by omega) (by omega))
              refine wz_br (i3L (zm_rd (Z := Z) (ν := ν) (k := 2) (show ((0 : Nat) : Int) = 0 from rfl) (show ((0 : Nat) : Int) = 0 from rfl) (i3I (y := (3521 + 10 * a1)) (i3A (i3A (show (3520 : Int32) = i3 3520 from rfl) (i3M (show (10 : Int32) = i3 10 from rfl) (rfl : i3 a1 = i3 a1))) (show (1 : Int32) = i3 1 from rfl)) (by omega) (by omega) (by omega))) (show (1 : Int32) = i3 1 from rfl) (by omega) (by omega) (by omega) (by omega)) (fun h22 => ?_) (fun h22 => ?_)
              · replace hP := zE_p hP h22
                exact zlR hP (show (-1 : Int32) = i3 (-1) from rfl) ⟨by omega, by omega⟩
              · replace hP := zE_n hP h22
                refine wz_i0 (Eq.trans (i3E (zm_rd (Z := Z) (ν := ν) (k := 2) (show ((0 : Nat) : Int) = 0 from rfl) (show ((0 : Nat) : Int) = 0 from rfl) (i3I (y := (209 + 20 * a2)) (i3A (i3A (show (200 : Int32) = i3 200 from rfl) (i3M (show (20 : Int32) = i3 20 from rfl) (rfl : i3 a2 = i3 a2))) (show (9 : Int32) = i3 9 from rfl)) (by omega) (by omega) (by omega))) (show (-1 : Int32) = i3 (-1) from rfl) (by omega) (by omega) (by omega) (by omega)) (decide_eq_false (by omega))) ?_
                obtain ⟨v23, hv23, c9, lv23, uv23⟩ := sp_326 (ν := ν) hZ (a1 := a2) (by omega) (zbh (c := 0) (k := 0) hM (Nat.le_of_ble_eq_true rfl))
                replace hP := zl_e hP hv23
                refine wz_cI_of (zas (zcons rfl (zcons (zvi (rfl : i3 a2 = i3 a2)) rfl)) c9) ?_
                clear c9
                refine wz_i1 (Eq.trans (i3Le (rfl : i3 v23 = i3 v23) (zm_rd (Z := Z) (ν := ν) (k := 2) (show ((0 : Nat) : Int) = 0 from rfl) (show ((0 : Nat) : Int) = 0 from rfl) (i3I (y := (209 + 20 * a2)) (i3A (i3A (show (200 : Int32) = i3 200 from rfl) (i3M (show (20 : Int32) = i3 20 from rfl) (rfl : i3 a2 = i3 a2))) (show (9 : Int32) = i3 9 from rfl)) (by omega) (by omega) (by omega))) (by omega) (by omega) (by omega) (by omega)) (decide_eq_true (by omega))) ?_
                exact zlR hP (show (-1 : Int32) = i3 (-1) from rfl) ⟨by omega, by omega⟩
            · replace hP := zE_n hP h20
              exact zlR hP (show (1 : Int32) = i3 1 from rfl) ⟨by omega, by omega⟩
    · replace hP := zE_n hP h6
      refine wz_i0 (i3O (n := 4400) (i3A (i3A (show (200 : Int32) = i3 200 from rfl) (i3M (show (20 : Int32) = i3 20 from rfl) (rfl : i3 a2 = i3 a2))) (show (8 : Int32) = i3 8 from rfl)) (by omega) (by omega) (by omega)) ?_
      have r24 := zM_k hZ 2 0 0 (208 + 20 * a2) (lo := 0) (hi := 999) (by decide) (zs_200_8 (x := a2) (by omega) (by omega) (by omega))
      refine wz_br (i3L (zm_rd (Z := Z) (ν := ν) (k := 2) (show ((0 : Nat) : Int) = 0 from rfl) (show ((0 : Nat) : Int) = 0 from rfl) (i3I (y := (208 + 20 * a2)) (i3A (i3A (show (200 : Int32) = i3 200 from rfl) (i3M (show (20 : Int32) = i3 20 from rfl) (rfl : i3 a2 = i3 a2))) (show (8 : Int32) = i3 8 from rfl)) (by omega) (by omega) (by omega))) (show (24 : Int32) = i3 24 from rfl) (by omega) (by omega) (by omega) (by omega)) (fun h25 => ?_) (fun h25 => ?_)
      · replace hP := zE_p hP h25
        refine wz_i0 (i3O (n := 4400) (i3A (i3A (show (3520 : Int32) = i3 3520 from rfl) (i3M (show (10 : Int32) = i3 10 from rfl) (rfl : i3 a1 = i3 a1))) (show (1 : Int32) = i3 1 from rfl)) (by omega) (by omega) (by omega)) ?_
        have r26 := zM_k hZ 2 0 0 (3521 + 10 * a1) (lo := 0) (hi := 3) (by decide) (zs_3520_1 (x := a1) (by omega) (by omega) (by omega))
        refine wz_br (i3L (zm_rd (Z := Z) (ν := ν) (k := 2) (show ((0 : Nat) : Int) = 0 from rfl) (show ((0 : Nat) : Int) = 0 from rfl) (i3I (y := (3521 + 10 * a1)) (i3A (i3A (show (3520 : Int32) = i3 3520 from rfl) (i3M (show (10 : Int32) = i3 10 from rfl) (rfl : i3 a1 = i3 a1))) (show (1 : Int32) = i3 1 from rfl)) (by omega) (by omega) (by omega))) (show (1 : Int32) = i3 1 from rfl) (by omega) (by omega) (by omega) (by omega)) (fun h27 => ?_) (fun h27 => ?_)
        · replace hP := zE_p hP h27
          exact zlR hP (show (-1 : Int32) = i3 (-1) from rfl) ⟨by omega, by omega⟩
        · replace hP := zE_n hP h27
          have r28 := zM_k hZ 2 0 0 (209 + 20 * a2) (lo := -1) (hi := 3) (by decide) (zs_200_9 (x := a2) (by omega) (by omega) (by omega))
          refine wz_br (i3E (zm_rd (Z := Z) (ν := ν) (k := 2) (show ((0 : Nat) : Int) = 0 from rfl) (show ((0 : Nat) : Int) = 0 from rfl) (i3I (y := (209 + 20 * a2)) (i3A (i3A (show (200 : Int32) = i3 200 from rfl) (i3M (show (20 : Int32) = i3 20 from rfl) (rfl : i3 a2 = i3 a2))) (show (9 : Int32) = i3 9 from rfl)) (by omega) (by omega) (by omega))) (show (-1 : Int32) = i3 (-1) from rfl) (by omega) (by omega) (by omega) (by omega)) (fun h29 => ?_) (fun h29 => ?_)
          · replace hP := zE_p hP h29
            exact zlR hP (show (-1 : Int32) = i3 (-1) from rfl) ⟨by omega, by omega⟩
          · replace hP := zE_n hP h29
            obtain ⟨v30, hv30, c9, lv30, uv30⟩ := sp_326 (ν := ν) hZ (a1 := a2) (by omega) (zbh (c := 0) (k := 0) hM (Nat.le_of_ble_eq_true rfl))
            replace hP := zl_e hP hv30
            refine wz_cI_of (zas (zcons rfl (zcons (zvi (rfl : i3 a2 = i3 a2)) rfl)) c9) ?_
            clear c9
            refine wz_br (i3Le (rfl : i3 v30 = i3 v30) (zm_rd (Z := Z) (ν := ν) (k := 2) (show ((0 : Nat) : Int) = 0 from rfl) (show ((0 : Nat) : Int) = 0 from rfl) (i3I (y := (209 + 20 * a2)) (i3A (i3A (show (200 : Int32) = i3 200 from rfl) (i3M (show (20 : Int32) = i3 20 from rfl) (rfl : i3 a2 = i3 a2))) (show (9 : Int32) = i3 9 from rfl)) (by omega) (by omega) (by omega))) (by omega) (by omega) (by omega) (by omega)) (fun h31 => ?_) (fun h31 => ?_)
            · replace hP := zE_p hP h31
              exact zlR hP (show (-1 : Int32) = i3 (-1) from rfl) ⟨by omega, by omega⟩
            · replace hP := zE_n hP h31
              exact zlR hP (show (2 : Int32) = i3 2 from rfl) ⟨by omega, by omega⟩
      · replace hP := zE_n hP h25
        have r32 := zM_k hZ 2 0 0 (209 + 20 * a2) (lo := -1) (hi := 3) (by decide) (zs_200_9 (x := a2) (by omega) (by omega) (by omega))
        refine wz_br (i3L (zm_rd (Z := Z) (ν := ν) (k := 2) (show ((0 : Nat) : Int) = 0 from rfl) (show ((0 : Nat) : Int) = 0 from rfl) (i3I (y := (209 + 20 * a2)) (i3A (i3A (show (200 : Int32) = i3 200 from rfl) (i3M (show (20 : Int32) = i3 20 from rfl) (rfl : i3 a2 = i3 a2))) (show (9 : Int32) = i3 9 from rfl)) (by omega) (by omega) (by omega))) (show (0 : Int32) = i3 0 from rfl) (by omega) (by omega) (by omega) (by omega)) (fun h33 => ?_) (fun h33 => ?_)
        · replace hP := zE_p hP h33
          refine wz_i0 (i3O (n := 4400) (i3A (i3A (show (3520 : Int32) = i3 3520 from rfl) (i3M (show (10 : Int32) = i3 10 from rfl) (rfl : i3 a1 = i3 a1))) (show (1 : Int32) = i3 1 from rfl)) (by omega) (by omega) (by omega)) ?_
          have r34 := zM_k hZ 2 0 0 (3521 + 10 * a1) (lo := 0) (hi := 3) (by decide) (zs_3520_1 (x := a1) (by omega) (by omega) (by omega))
          refine wz_br (i3L (zm_rd (Z := Z) (ν := ν) (k := 2) (show ((0 : Nat) : Int) = 0 from rfl) (show ((0 : Nat) : Int) = 0 from rfl) (i3I (y := (3521 + 10 * a1)) (i3A (i3A (show (3520 : Int32) = i3 3520 from rfl) (i3M (show (10 : Int32) = i3 10 from rfl) (rfl : i3 a1 = i3 a1))) (show (1 : Int32) = i3 1 from rfl)) (by omega) (by omega) (by omega))) (show (1 : Int32) = i3 1 from rfl) (by omega) (by omega) (by omega) (by omega)) (fun h35 => ?_) (fun h35 => ?_)
          · replace hP := zE_p hP h35
            exact zlR hP (show (-1 : Int32) = i3 (-1) from rfl) ⟨by omega, by omega⟩
          · replace hP := zE_n hP h35
            refine wz_i1 (Eq.trans (i3E (zm_rd (Z := Z) (ν := ν) (k := 2) (show ((0 : Nat) : Int) = 0 from rfl) (show ((0 : Nat) : Int) = 0 from rfl) (i3I (y := (209 + 20 * a2)) (i3A (i3A (show (200 : Int32) = i3 200 from rfl) (i3M (show (20 : Int32) = i3 20 from rfl) (rfl : i3 a2 = i3 a2))) (show (9 : Int32) = i3 9 from rfl)) (by omega) (by omega) (by omega))) (show (-1 : Int32) = i3 (-1) from rfl) (by omega) (by omega) (by omega) (by omega)) (decide_eq_true (by omega))) ?_
            exact zlR hP (show (-1 : Int32) = i3 (-1) from rfl) ⟨by omega, by omega⟩
        · replace hP := zE_n hP h33
          refine wz_br (i3L (show (2 : Int32) = i3 2 from rfl) (zm_rd (Z := Z) (ν := ν) (k := 2) (show ((0 : Nat) : Int) = 0 from rfl) (show ((0 : Nat) : Int) = 0 from rfl) (i3I (y := (209 + 20 * a2)) (i3A (i3A (show (200 : Int32) = i3 200 from rfl) (i3M (show (20 : Int32) = i3 20 from rfl) (rfl : i3 a2 = i3 a2))) (show (9 : Int32) = i3 9 from rfl)) (by omega) (by omega) (by omega))) (by omega) (by omega) (by omega) (by omega)) (fun h36 => ?_) (fun h36 => ?_)
          · replace hP := zE_p hP h36
            refine wz_i0 (i3O (n := 4400) (i3A (i3A (show (3520 : Int32) = i3 3520 from rfl) (i3M (show (10 : Int32) = i3 10 from rfl) (rfl : i3 a1 = i3 a1))) (show (1 : Int32) = i3 1 from rfl)) (by omega) (by omega) (by omega)) ?_
            have r37 := zM_k hZ 2 0 0 (3521 + 10 * a1) (lo := 0) (hi := 3) (by decide) (zs_3520_1 (x := a1) (by omega) (by omega) (by omega))
            refine wz_br (i3L (zm_rd (Z := Z) (ν := ν) (k := 2) (show ((0 : Nat) : Int) = 0 from rfl) (show ((0 : Nat) : Int) = 0 from rfl) (i3I (y := (3521 + 10 * a1)) (i3A (i3A (show (3520 : Int32) = i3 3520 from rfl) (i3M (show (10 : Int32) = i3 10 from rfl) (rfl : i3 a1 = i3 a1))) (show (1 : Int32) = i3 1 from rfl)) (by omega) (by omega) (by omega))) (show (1 : Int32) = i3 1 from rfl) (by omega) (by omega) (by omega) (by omega)) (fun h38 => ?_) (fun h38 => ?_)
            · replace hP := zE_p hP h38
              exact zlR hP (show (-1 : Int32) = i3 (-1) from rfl) ⟨by omega, by omega⟩
            · replace hP := zE_n hP h38
              refine wz_i0 (Eq.trans (i3E (zm_rd (Z := Z) (ν := ν) (k := 2) (show ((0 : Nat) : Int) = 0 from rfl) (show ((0 : Nat) : Int) = 0 from rfl) (i3I (y := (209 + 20 * a2)) (i3A (i3A (show (200 : Int32) = i3 200 from rfl) (i3M (show (20 : Int32) = i3 20 from rfl) (rfl : i3 a2 = i3 a2))) (show (9 : Int32) = i3 9 from rfl)) (by omega) (by omega) (by omega))) (show (-1 : Int32) = i3 (-1) from rfl) (by omega) (by omega) (by omega) (by omega)) (decide_eq_false (by omega))) ?_
              obtain ⟨v39, hv39, c9, lv39, uv39⟩ := sp_326 (ν := ν) hZ (a1 := a2) (by omega) (zbh (c := 0) (k := 0) hM (Nat.le_of_ble_eq_true rfl))
              replace hP := zl_e hP hv39
              refine wz_cI_of (zas (zcons rfl (zcons (zvi (rfl : i3 a2 = i3 a2)) rfl)) c9) ?_
              clear c9
              refine wz_i1 (Eq.trans (i3Le (rfl : i3 v39 = i3 v39) (zm_rd (Z := Z) (ν := ν) (k := 2) (show ((0 : Nat) : Int) = 0 from rfl) (show ((0 : Nat) : Int) = 0 from rfl) (i3I (y := (209 + 20 * a2)) (i3A (i3A (show (200 : Int32) = i3 200 from rfl) (i3M (show (20 : Int32) = i3 20 from rfl) (rfl : i3 a2 = i3 a2))) (show (9 : Int32) = i3 9 from rfl)) (by omega) (by omega) (by omega))) (by omega) (by omega) (by omega) (by omega)) (decide_eq_true (by omega))) ?_
              exact zlR hP (show (-1 : Int32) = i3 (-1) from rfl) ⟨by omega, by omega⟩
          · replace hP := zE_n hP h36
            exact zlR hP (show (1 : Int32) = i3 1 from rfl) ⟨by omega, by omega⟩
  · replace hP := zE_n hP h5
    refine wz_i0 (i3O (n := 4400) (i3A (i3A (show (200 : Int32) = i3 200 from rfl) (i3M (show (20 : Int32) = i3 20 from rfl) (rfl : i3 a2 = i3 a2))) (show (8 : Int32) = i3 8 from rfl)) (by omega) (by omega) (by omega)) ?_
    have r40 := zM_k hZ 2 0 0 (208 + 20 * a2) (lo := 0) (hi := 999) (by decide) (zs_200_8 (x := a2) (by omega) (by omega) (by omega))
    refine wz_br (i3L (zm_rd (Z := Z) (ν := ν) (k := 2) (show ((0 : Nat) : Int) = 0 from rfl) (show ((0 : Nat) : Int) = 0 from rfl) (i3I (y := (208 + 20 * a2)) (i3A (i3A (show (200 : Int32) = i3 200 from rfl) (i3M (show (20 : Int32) = i3 20 from rfl) (rfl : i3 a2 = i3 a2))) (show (8 : Int32) = i3 8 from rfl)) (by omega) (by omega) (by omega))) (show (24 : Int32) = i3 24 from rfl) (by omega) (by omega) (by omega) (by omega)) (fun h41 => ?_) (fun h41 => ?_)
    · replace hP := zE_p hP h41
      refine wz_i0 (i3O (n := 4400) (i3A (i3A (show (3520 : Int32) = i3 3520 from rfl) (i3M (show (10 : Int32) = i3 10 from rfl) (rfl : i3 a1 = i3 a1))) (show (1 : Int32) = i3 1 from rfl)) (by omega) (by omega) (by omega)) ?_
      have r42 := zM_k hZ 2 0 0 (3521 + 10 * a1) (lo := 0) (hi := 3) (by decide) (zs_3520_1 (x := a1) (by omega) (by omega) (by omega))
      refine wz_br (i3L (zm_rd (Z := Z) (ν := ν) (k := 2) (show ((0 : Nat) : Int) = 0 from rfl) (show ((0 : Nat) : Int) = 0 from rfl) (i3I (y := (3521 + 10 * a1)) (i3A (i3A (show (3520 : Int32) = i3 3520 from rfl) (i3M (show (10 : Int32) = i3 10 from rfl) (rfl : i3 a1 = i3 a1))) (show (1 : Int32) = i3 1 from rfl)) (by omega) (by omega) (by omega))) (show (1 : Int32) = i3 1 from rfl) (by omega) (by omega) (by omega) (by omega)) (fun h43 => ?_) (fun h43 => ?_)
      · replace hP := zE_p hP h43
        exact zlR hP (show (-1 : Int32) = i3 (-1) from rfl) ⟨by omega, by omega⟩
      · replace hP := zE_n hP h43
        have r44 := zM_k hZ 2 0 0 (209 + 20 * a2) (lo := -1) (hi := 3) (by decide) (zs_200_9 (x := a2) (by omega) (by omega) (by omega))
        refine wz_br (i3E (zm_rd (Z := Z) (ν := ν) (k := 2) (show ((0 : Nat) : Int) = 0 from rfl) (show ((0 : Nat) : Int) = 0 from rfl) (i3I (y := (209 + 20 * a2)) (i3A (i3A (show (200 : Int32) = i3 200 from rfl) (i3M (show (20 : Int32) = i3 20 from rfl) (rfl : i3 a2 = i3 a2))) (show (9 : Int32) = i3 9 from rfl)) (by omega) (by omega) (by omega))) (show (-1 : Int32) = i3 (-1) from rfl) (by omega) (by omega) (by omega) (by omega)) (fun h45 => ?_) (fun h45 => ?_)
        · replace hP := zE_p hP h45
          exact zlR hP (show (-1 : Int32) = i3 (-1) from rfl) ⟨by omega, by omega⟩
        · replace hP := zE_n hP h45
          obtain ⟨v46, hv46, c9, lv46, uv46⟩ := sp_326 (ν := ν) hZ (a1 := a2) (by omega) (zbh (c := 0) (k := 0) hM (Nat.le_of_ble_eq_true rfl))
          replace hP := zl_e hP hv46
          refine wz_cI_of (zas (zcons rfl (zcons (zvi (rfl : i3 a2 = i3 a2)) rfl)) c9) ?_
          clear c9
          refine wz_br (i3Le (rfl : i3 v46 = i3 v46) (zm_rd (Z := Z) (ν := ν) (k := 2) (show ((0 : Nat) : Int) = 0 from rfl) (show ((0 : Nat) : Int) = 0 from rfl) (i3I (y := (209 + 20 * a2)) (i3A (i3A (show (200 : Int32) = i3 200 from rfl) (i3M (show (20 : Int32) = i3 20 from rfl) (rfl : i3 a2 = i3 a2))) (show (9 : Int32) = i3 9 from rfl)) (by omega) (by omega) (by omega))) (by omega) (by omega) (by omega) (by omega)) (fun h47 => ?_) (fun h47 => ?_)
          · replace hP := zE_p hP h47
            exact zlR hP (show (-1 : Int32) = i3 (-1) from rfl) ⟨by omega, by omega⟩
          · replace hP := zE_n hP h47
            exact zlR hP (show (2 : Int32) = i3 2 from rfl) ⟨by omega, by omega⟩
    · replace hP := zE_n hP h41
      have r48 := zM_k hZ 2 0 0 (209 + 20 * a2) (lo := -1) (hi := 3) (by decide) (zs_200_9 (x := a2) (by omega) (by omega) (by omega))
      refine wz_br (i3L (zm_rd (Z := Z) (ν := ν) (k := 2) (show ((0 : Nat) : Int) = 0 from rfl) (show ((0 : Nat) : Int) = 0 from rfl) (i3I (y := (209 + 20 * a2)) (i3A (i3A (show (200 : Int32) = i3 200 from rfl) (i3M (show (20 : Int32) = i3 20 from rfl) (rfl : i3 a2 = i3 a2))) (show (9 : Int32) = i3 9 from rfl)) (by omega) (by omega) (by omega))) (show (0 : Int32) = i3 0 from rfl) (by omega) (by omega) (by omega) (by omega)) (fun h49 => ?_) (fun h49 => ?_)
      · replace hP := zE_p hP h49
        refine wz_i0 (i3O (n := 4400) (i3A (i3A (show (3520 : Int32) = i3 3520 from rfl) (i3M (show (10 : Int32) = i3 10 from rfl) (rfl : i3 a1 = i3 a1))) (show (1 : Int32) = i3 1 from rfl)) (by omega) (by omega) (by omega)) ?_
        have r50 := zM_k hZ 2 0 0 (3521 + 10 * a1) (lo := 0) (hi := 3) (by decide) (zs_3520_1 (x := a1) (by omega) (by omega) (by omega))
        refine wz_br (i3L (zm_rd (Z := Z) (ν := ν) (k := 2) (show ((0 : Nat) : Int) = 0 from rfl) (show ((0 : Nat) : Int) = 0 from rfl) (i3I (y := (3521 + 10 * a1)) (i3A (i3A (show (3520 : Int32) = i3 3520 from rfl) (i3M (show (10 : Int32) = i3 10 from rfl) (rfl : i3 a1 = i3 a1))) (show (1 : Int32) = i3 1 from rfl)) (by omega) (by omega) (by omega))) (show (1 : Int32) = i3 1 from rfl) (by omega) (by omega) (by omega) (by omega)) (fun h51 => ?_) (fun h51 => ?_)
        · replace hP := zE_p hP h51
          exact zlR hP (show (-1 : Int32) = i3 (-1) from rfl) ⟨by omega, by omega⟩
        · replace hP := zE_n hP h51
          refine wz_i1 (Eq.trans (i3E (zm_rd (Z := Z) (ν := ν) (k := 2) (show ((0 : Nat) : Int) = 0 from rfl) (show ((0 : Nat) : Int) = 0 from rfl) (i3I (y := (209 + 20 * a2)) (i3A (i3A (show (200 : Int32) = i3 200 from rfl) (i3M (show (20 : Int32) = i3 20 from rfl) (rfl : i3 a2 = i3 a2))) (show (9 : Int32) = i3 9 from rfl)) (by omega) (by omega) (by omega))) (show (-1 : Int32) = i3 (-1) from rfl) (by omega) (by omega) (by omega) (by omega)) (decide_eq_true (by omega))) ?_
          exact zlR hP (show (-1 : Int32) = i3 (-1) from rfl) ⟨by omega, by omega⟩
      · replace hP := zE_n hP h49
        refine wz_br (i3L (show (2 : Int32) = i3 2 from rfl) (zm_rd (Z := Z) (ν := ν) (k := 2) (show ((0 : Nat) : Int) = 0 from rfl) (show ((0 : Nat) : Int) = 0 from rfl) (i3I (y := (209 + 20 * a2)) (i3A (i3A (show (200 : Int32) = i3 200 from rfl) (i3M (show (20 : Int32) = i3 20 from rfl) (rfl : i3 a2 = i3 a2))) (show (9 : Int32) = i3 9 from rfl)) (by omega) (by omega) (by omega))) (by omega) (by omega) (by omega) (by omega)) (fun h52 => ?_) (fun h52 => ?_)
        · replace hP := zE_p hP h52
          refine wz_i0 (i3O (n := 4400) (i3A (i3A (show (3520 : Int32) = i3 3520 from rfl) (i3M (show (10 : Int32) = i3 10 from rfl) (rfl : i3 a1 = i3 a1))) (show (1 : Int32) = i3 1 from rfl)) (by omega) (by omega) (by omega)) ?_
          have r53 := zM_k hZ 2 0 0 (3521 + 10 * a1) (lo := 0) (hi := 3) (by decide) (zs_3520_1 (x := a1) (by omega) (by omega) (by omega))
          refine wz_br (i3L (zm_rd (Z := Z) (ν := ν) (k := 2) (show ((0 : Nat) : Int) = 0 from rfl) (show ((0 : Nat) : Int) = 0 from rfl) (i3I (y := (3521 + 10 * a1)) (i3A (i3A (show (3520 : Int32) = i3 3520 from rfl) (i3M (show (10 : Int32) = i3 10 from rfl) (rfl : i3 a1 = i3 a1))) (show (1 : Int32) = i3 1 from rfl)) (by omega) (by omega) (by omega))) (show (1 : Int32) = i3 1 from rfl) (by omega) (by omega) (by omega) (by omega)) (fun h54 => ?_) (fun h54 => ?_)
          · replace hP := zE_p hP h54
            exact zlR hP (show (-1 : Int32) = i3 (-1) from rfl) ⟨by omega, by omega⟩
          · replace hP := zE_n hP h54
            refine wz_i0 (Eq.trans (i3E (zm_rd (Z := Z) (ν := ν) (k := 2) (show ((0 : Nat) : Int) = 0 from rfl) (show ((0 : Nat) : Int) = 0 from rfl) (i3I (y := (209 + 20 * a2)) (i3A (i3A (show (200 : Int32) = i3 200 from rfl) (i3M (show (20 : Int32) = i3 20 from rfl) (rfl : i3 a2 = i3 a2))) (show (9 : Int32) = i3 9 from rfl)) (by omega) (by omega) (by omega))) (show (-1 : Int32) = i3 (-1) from rfl) (by omega) (by omega) (by omega) (by omega)) (decide_eq_false (by omega))) ?_
            obtain ⟨v55, hv55, c9, lv55, uv55⟩ := sp_326 (ν := ν) hZ (a1 := a2) (by omega) (zbh (c := 0) (k := 0) hM (Nat.le_of_ble_eq_true rfl))
            replace hP := zl_e hP hv55
            refine wz_cI_of (zas (zcons rfl (zcons (zvi (rfl : i3 a2 = i3 a2)) rfl)) c9) ?_
            clear c9
            refine wz_i1 (Eq.trans (i3Le (rfl : i3 v55 = i3 v55) (zm_rd (Z := Z) (ν := ν) (k := 2) (show ((0 : Nat) : Int) = 0 from rfl) (show ((0 : Nat) : Int) = 0 from rfl) (i3I (y := (209 + 20 * a2)) (i3A (i3A (show (200 : Int32) = i3 200 from rfl) (i3M (show (20 : Int32) = i3 20 from rfl) (rfl : i3 a2 = i3 a2))) (show (9 : Int32) = i3 9 from rfl)) (by omega) (by omega) (by omega))) (by omega) (by omega) (by omega) (by omega)) (decide_eq_true (by omega))) ?_
            exact zlR hP (show (-1 : Int32) = i3 (-1) from rfl) ⟨by omega, by omega⟩
        · replace hP := zE_n hP h52
          exact zlR hP (show (1 : Int32) = i3 1 from rfl) ⟨by omega, by omega⟩
/- yX12_iLook -/
def zl_365_1 (x1 : Int) (x2 : Int) (x3 : Int) : Nat → qz_Z → Int → Int → qz_Z × Int × Int
  | 0, Z, x4, x5 => (Z, x4, x5)
  | m + 1, Z, x4, x5 => (if (Z 2 0 0 102) ≤ x5 then (Z, x4, x5) else (if 1 < (Z 2 0 0 (210 + 20 * x5)) then zl_365_1 x1 x2 x3 m Z x4 (x5 + 1) else (if (Z 2 0 0 (211 + 20 * x5)) ≠ x3 then zl_365_1 x1 x2 x3 m Z x4 (x5 + 1) else (zlet (zf_364 Z x1 x5) (fun v8 => (if v8 = (-1) then zl_365_1 x1 x2 x3 m Z x4 (x5 + 1) else (zlet (zf_357 Z x1 x5 v8 x2) (fun Z10 => zl_365_1 x1 x2 x3 m Z10 (x4 + 1) (x5 + 1)))))))))
theorem sl_365_1 {s : zSM} {xM9 : Nat} {Zs Z : qz_Z} {ν : qz_N} (hZ : zM (zb s xM9) Z) (hM : s.2 + 6076 ≤ 1000000000) (hK : zC [2] Zs Z) {x1 : Int} (gx1 : 0 ≤ x1 ∧ x1 ≤ 1) {x2 : Int} (gx2 : 0 ≤ x2 ∧ x2 ≤ 9) {x3 : Int} (gx3 : -1 ≤ x3 ∧ x3 ≤ 8) {x4 : Int} (gx4 : 0 ≤ x4 ∧ x4 ≤ 48) {x5 : Int} (gx5 : 0 ≤ x5 ∧ x5 ≤ 48) (hU : zU [] Zs Z) (hx9 : xM9 + 124 * ((48 - x5).toNat) + 124 ≤ 6076) (gr0 : x4 ≤ x5) {k : wz_K} {R : wz_R} {L : qz_L} (hL : qz_fg [true, true, true, true, true, true, false, false] L = [some (.inr (.inr (some (1, 0, 0)))), some (.inl (i3 x1)), some (.inl (i3 x2)), some (.inl (i3 x3)), some (.inl (i3 x4)), some (.inl (i3 x5)), none, none]) {T : qz_Z × Int × Int} (hP : zE T (zl_365_1 x1 x2 x3 ((48 - x5).toNat + 1) Z x4 x5)) (hk : ∀ (L9 : qz_L) (Z9 : qz_Z) (yx4 yx5 : Int), qz_fg [true, true, false, true, true, false, false, false] L9 = [some (.inr (.inr (some (1, 0, 0)))), some (.inl (i3 x1)), none, some (.inl (i3 x3)), some (.inl (i3 yx4)), none, none, none] → zM (zb s 6076) Z9 → zC [2] Zs Z9 → zU [] Zs Z9 → (0 ≤ yx4 ∧ yx4 ≤ 48) → (0 ≤ yx5 ∧ yx5 ≤ 48) → (yx4 ≤ yx5) → zE T ((Z9, yx4, yx5)) → k 0 (L9, [], zm Z9 ν)) : wz_loop qb_365_1 65536 k R (L, [], zm Z ν) := by
  refine wz_lp sb_365_1 (fun m x => ∃ xM9 : Nat, ∃ Z : qz_Z, ∃ x4 : Int, ∃ x5 : Int, qz_fg [true, true, true, true, true, true, false, false] x.1 = [some (.inr (.inr (some (1, 0, 0)))), some (.inl (i3 x1)), some (.inl (i3 x2)), some (.inl (i3 x3)), some (.inl (i3 x4)), some (.inl (i3 x5)), none, none] ∧ x.2 = ([], zm Z ν) ∧ xM9 + 124 * m + 124 ≤ 6076 ∧ zM (zb s xM9) Z ∧ zC [2] Zs Z ∧ zU [] Zs Z ∧ m = (48 - x5).toNat ∧ (0 ≤ x4 ∧ x4 ≤ 48) ∧ (0 ≤ x5 ∧ x5 ≤ 48) ∧ (x4 ≤ x5) ∧ zE T (zl_365_1 x1 x2 x3 (m + 1) Z x4 x5)) ?_ 65536 ((48 - x5).toNat) _ (by omega) ⟨xM9, Z, x4, x5, hL, rfl, hx9, hZ, hK, hU, rfl, gx4, gx5, gr0, hP⟩
  clear hP gr0 gx4 gx5 hx9 hZ hK hU hL
  clear x4 x5
  clear Z
  clear xM9
  rintro m ⟨L, st, μ⟩ ⟨xM9, Z, x4, x5, hL, hx, hx9, hZ, hK, hU, hm, gx4, gx5, gr0, hP⟩
  cases hx
  have hM9 : (zb s xM9).2 + 124 ≤ 1000000000 := by
    show s.2 + xM9 + 124 ≤ 1000000000
    omega
  refine fb_365_1 (i3 x1) (i3 x2) (i3 x3) (i3 x4) (i3 x5) _ _ _ _ hL ?_
  have r1 := zM_k hZ 2 0 0 102 (lo := 0) (hi := 48) (by decide) rfl
  refine wz_br (i3Le (zm_rd (Z := Z) (ν := ν) (k := 2) (show ((0 : Nat) : Int) = 0 from rfl) (show ((0 : Nat) : Int) = 0 from rfl) (show ((102 : Nat) : Int) = 102 from rfl)) (rfl : i3 x5 = i3 x5) (by omega) (by omega) (by omega) (by omega)) (fun h2 => ?_) (fun h2 => ?_)
  · replace hP := zE_p hP h2
    exact hk _ _ _ _ (zconso rfl (zconso (zvo (rfl : i3 x1 = i3 x1)) (zconso rfl (zconso (zvo (rfl : i3 x3 = i3 x3)) (zconso (zvo (rfl : i3 x4 = i3 x4)) (zconso rfl (zconso rfl (zconso rfl rfl)))))))) (zmx0 hZ (by omega)) hK hU (by omega) (by omega) (by omega) hP
  · replace hP := zE_n hP h2
    refine wz_i0 (i3O (n := 4400) (i3A (i3A (show (200 : Int32) = i3 200 from rfl) (i3M (show (20 : Int32) = i3 20 from rfl) (rfl : i3 x5 = i3 x5))) (show (10 : Int32) = i3 10 from rfl)) (by omega) (by omega) (by omega)) ?_
    have r3 := zM_k hZ 2 0 0 (210 + 20 * x5) (lo := 0) (hi := 4) (by decide) (zs_200_10 (x := x5) (by omega) (by omega) (by omega))
    have r4 := zM_pl hZ x5
    refine wz_br (i3L (show (1 : Int32) = i3 1 from rfl) (zm_rd (Z := Z) (ν := ν) (k := 2) (show ((0 : Nat) : Int) = 0 from rfl) (show ((0 : Nat) : Int) = 0 from rfl) (i3I (y := (210 + 20 * x5)) (i3A (i3A (show (200 : Int32) = i3 200 from rfl) (i3M (show (20 : Int32) = i3 20 from rfl) (rfl : i3 x5 = i3 x5))) (show (10 : Int32) = i3 10 from rfl)) (by omega) (by omega) (by omega))) (by omega) (by omega) (by omega) (by omega)) (fun h5 => ?_) (fun h5 => ?_)
    · replace hP := zE_p hP h5
      obtain ⟨m2, rfl⟩ : ∃ m2, m = m2 + 1 := ⟨m - 1, by omega⟩
      exact wz_k1 ⟨m2, by omega, xM9, Z, x4, (x5 + 1), (zconso rfl (zconso (zvo (rfl : i3 x1 = i3 x1)) (zconso (zvo (rfl : i3 x2 = i3 x2)) (zconso (zvo (rfl : i3 x3 = i3 x3)) (zconso (zvo (rfl : i3 x4 = i3 x4)) (zconso (zvo (i3A (rfl : i3 x5 = i3 x5) (show (1 : Int32) = i3 1 from rfl))) (zconso rfl (zconso rfl rfl)))))))), rfl, by omega, hZ, hK, hU, by omega, by omega, by omega, by omega,  hP⟩
    · replace hP := zE_n hP h5
      refine wz_i0 (i3O (n := 4400) (i3A (i3A (show (200 : Int32) = i3 200 from rfl) (i3M (show (20 : Int32) = i3 20 from rfl) (rfl : i3 x5 = i3 x5))) (show (11 : Int32) = i3 11 from rfl)) (by omega) (by omega) (by omega)) ?_
      have r6 := zM_k hZ 2 0 0 (211 + 20 * x5) (lo := -1) (hi := 6) (by decide) (zs_200_11 (x := x5) (by omega) (by omega) (by omega))
      refine wz_br (i3NE (zm_rd (Z := Z) (ν := ν) (k := 2) (show ((0 : Nat) : Int) = 0 from rfl) (show ((0 : Nat) : Int) = 0 from rfl) (i3I (y := (211 + 20 * x5)) (i3A (i3A (show (200 : Int32) = i3 200 from rfl) (i3M (show (20 : Int32) = i3 20 from rfl) (rfl : i3 x5 = i3 x5))) (show (11 : Int32) = i3 11 from rfl)) (by omega) (by omega) (by omega))) (rfl : i3 x3 = i3 x3) (by omega) (by omega) (by omega) (by omega)) (fun h7 => ?_) (fun h7 => ?_)
      · replace hP := zE_p hP h7
        obtain ⟨m2, rfl⟩ : ∃ m2, m = m2 + 1 := ⟨m - 1, by omega⟩
        exact wz_k1 ⟨m2, by omega, xM9, Z, x4, (x5 + 1), (zconso rfl (zconso (zvo (rfl : i3 x1 = i3 x1)) (zconso (zvo (rfl : i3 x2 = i3 x2)) (zconso (zvo (rfl : i3 x3 = i3 x3)) (zconso (zvo (rfl : i3 x4 = i3 x4)) (zconso (zvo (i3A (rfl : i3 x5 = i3 x5) (show (1 : Int32) = i3 1 from rfl))) (zconso rfl (zconso rfl rfl)))))))), rfl, by omega, hZ, hK, hU, by omega, by omega, by omega, by omega,  hP⟩
      · replace hP := zE_n hP h7
        obtain ⟨v8, hv8, c9, lv8, uv8⟩ := sp_364 (ν := ν) hZ (a1 := x1) (by omega) (a2 := x5) (by omega) (zbh (c := 0) (k := 0) hM9 (Nat.le_of_ble_eq_true rfl))
        replace hP := zl_e hP hv8
        refine wz_cI_of (zas (zcons rfl (zcons (zvi (rfl : i3 x1 = i3 x1)) (zcons (zvi (rfl : i3 x5 = i3 x5)) rfl))) c9) ?_
        clear c9
        refine wz_br (i3E (rfl : i3 v8 = i3 v8) (show (-1 : Int32) = i3 (-1) from rfl) (by omega) (by omega) (by omega) (by omega)) (fun h9 => ?_) (fun h9 => ?_)
        · replace hP := zE_p hP h9
          obtain ⟨m2, rfl⟩ : ∃ m2, m = m2 + 1 := ⟨m - 1, by omega⟩
          exact wz_k1 ⟨m2, by omega, xM9, Z, x4, (x5 + 1), (zconso rfl (zconso (zvo (rfl : i3 x1 = i3 x1)) (zconso (zvo (rfl : i3 x2 = i3 x2)) (zconso (zvo (rfl : i3 x3 = i3 x3)) (zconso (zvo (rfl : i3 x4 = i3 x4)) (zconso (zvo (i3A (rfl : i3 x5 = i3 x5) (show (1 : Int32) = i3 1 from rfl))) (zconso rfl (zconso rfl rfl)))))))), rfl, by omega, hZ, hK, hU, by omega, by omega, by omega, by omega,  hP⟩
        · replace hP := zE_n hP h9
          obtain ⟨Z10, hZ10, c9, hZ10I, kZ10, jZ10⟩ := sp_357 (ν := ν) hZ (a1 := x1) (by omega) (a2 := x5) (by omega) (a3 := v8) (by omega) (a4 := x2) (by omega) (zbh (c := 0) (k := 124) hM9 (Nat.le_of_ble_eq_true rfl))
          have hZ10U : zU [] Zs Z10 := zU_t hU jZ10 zU_b0
          have hZ10K : zC [2] Zs Z10 := zC_t hK kZ10 (by decide)
          replace hP := zl_e hP hZ10
          refine wz_cV_of (zas (zcons rfl (zcons (zvi (rfl : i3 x1 = i3 x1)) (zcons (zvi (rfl : i3 x5 = i3 x5)) (zcons (zvi (rfl : i3 v8 = i3 v8)) (zcons (zvi (rfl : i3 x2 = i3 x2)) rfl))))) c9) ?_
          clear c9
          obtain ⟨m2, rfl⟩ : ∃ m2, m = m2 + 1 := ⟨m - 1, by omega⟩
          exact wz_k1 ⟨m2, by omega, xM9 + 124, Z10, (x4 + 1), (x5 + 1), (zconso rfl (zconso (zvo (rfl : i3 x1 = i3 x1)) (zconso (zvo (rfl : i3 x2 = i3 x2)) (zconso (zvo (rfl : i3 x3 = i3 x3)) (zconso (zvo (i3A (rfl : i3 x4 = i3 x4) (show (1 : Int32) = i3 1 from rfl))) (zconso (zvo (i3A (rfl : i3 x5 = i3 x5) (show (1 : Int32) = i3 1 from rfl))) (zconso rfl (zconso rfl rfl)))))))), rfl, by omega, (zmt hZ10I rfl), hZ10K, hZ10U, by omega, by omega, by omega, by omega,  hP⟩
/- yX12_iLook -/
def zf_365 (Z : qz_Z) (a1 : Int) (a2 : Int) : qz_Z × Int := (if a2 ≠ 7 then (zlet3 (zl_365_1 a1 a2 (a2 - 1) 49 Z 0 0) (fun Z4 y2 y3 => (zlet (zu Z4 2 0 0 (3524 + 10 * a1) (w3 ((Z4 2 0 0 (3524 + 10 * a1)) + 1))) (fun Z8 => (zlet (zu Z8 2 0 0 (3527 + 10 * a1) (Z8 2 0 0 0)) (fun Z10 => (if (a2 - 1) = 6 then (Z10, y2) else (if y2 < (4 - (Z10 2 0 0 (3521 + 10 * a1))) then (Z10, y2) else (zlet (zu Z10 2 0 0 (3509 + a2) ((Z10 2 0 0 0) + 24)) (fun Z16 => (Z16, y2))))))))))) else (zlet3 (zl_365_1 a1 a2 6 49 Z 0 0) (fun Z19 y17 y18 => (zlet (zu Z19 2 0 0 (3524 + 10 * a1) (w3 ((Z19 2 0 0 (3524 + 10 * a1)) + 1))) (fun Z23 => (zlet (zu Z23 2 0 0 (3527 + 10 * a1) (Z23 2 0 0 0)) (fun Z25 => (Z25, y17))))))))
theorem sp_365 {s : zSM} {Z : qz_Z} {ν : qz_N} (hZ : zM s Z) {a1 : Int} (ga1 : 0 ≤ a1 ∧ a1 ≤ 1) {a2 : Int} (ga2 : 0 ≤ a2 ∧ a2 ≤ 9) (hM : s.2 + 6076 ≤ 1000000000) : ∃ (Z1 : qz_Z) (P : Int), (Z1, P) = zf_365 Z a1 a2 ∧ (qf_365 [.inr (.inr (some (1, 0, 0))), .inl (i3 a1), .inl (i3 a2)] (zm Z ν) = some (zm Z1 ν, .inl (some (.inl (i3 P)))) ∧ zM (zb s 6076) Z1 ∧ zC [2] Z Z1 ∧ zU [] Z Z1 ∧ 0 ≤ P ∧ P ≤ 48) := by
  obtain ⟨P, hP⟩ := zx (zf_365 Z a1 a2)
  refine zc_W (Q := fun Z1 P => zM (zb s 6076) Z1 ∧ zC [2] Z Z1 ∧ zU [] Z Z1 ∧ 0 ≤ P ∧ P ≤ 48) hP (fw_365 (i3 a1) (i3 a2) _ _ ?_)
  replace hP : zE P (zf_365 Z a1 a2) := hP
  unfold zf_365 at hP
  refine wz_br (i3NE (rfl : i3 a2 = i3 a2) (show (7 : Int32) = i3 7 from rfl) (by omega) (by omega) (by omega) (by omega)) (fun h1 => ?_) (fun h1 => ?_)
  · replace hP := zE_p hP h1
    refine sl_365_1 (ν := ν) (zm0 hZ) (zbh (c := 0) (k := 6076) hM (Nat.le_of_ble_eq_true rfl)) (xM9 := 0) zC_r (x1 := a1) (by omega) (x2 := a2) (by omega) (x3 := (a2 - 1)) (by omega) (x4 := 0) (by omega) (x5 := 0) (by omega) zU_r (Nat.le_of_ble_eq_true rfl) (by omega) (zconso rfl (zconso (zvo (rfl : i3 a1 = i3 a1)) (zconso (zvo (rfl : i3 a2 = i3 a2)) (zconso (zvo (i3S (rfl : i3 a2 = i3 a2) (show (1 : Int32) = i3 1 from rfl))) (zconso (zvo (show (0 : Int32) = i3 0 from rfl)) (zconso (zvo (show (0 : Int32) = i3 0 from rfl)) (zconso rfl (zconso rfl rfl)))))))) rfl ?_
    intro L5 Z4 y2 y3 hL5 hZ4I kZ4 jZ4 gy2 gy3 gL5_0 q9
    replace hP := zl_e3 hP (Eq.symm q9)
    clear q9
    have hZ4U : zU [] Z Z4 := zU_t zU_r jZ4 zU_b0
    have hZ4K : zC [2] Z Z4 := zC_t zC_r kZ4 (by decide)
    refine fc_365_2 (i3 a1) (i3 (a2 - 1)) (i3 y2) _ _ _ _ hL5 ?_
    refine wz_i0 (i3O (n := 4400) (i3A (i3A (show (3520 : Int32) = i3 3520 from rfl) (i3M (show (10 : Int32) = i3 10 from rfl) (rfl : i3 a1 = i3 a1))) (show (4 : Int32) = i3 4 from rfl)) (by omega) (by omega) (by omega)) ?_
    refine wz_i0 (i3O (n := 4400) (i3A (i3A (show (3520 : Int32) = i3 3520 from rfl) (i3M (show (10 : Int32) = i3 10 from rfl) (rfl : i3 a1 = i3 a1))) (show (4 : Int32) = i3 4 from rfl)) (by omega) (by omega) (by omega)) ?_
    have r6 := zM_f hZ4I 2 0 0 (3524 + 10 * a1)
    have r7 := w3_r ((Z4 2 0 0 (3524 + 10 * a1)) + 1)
    obtain ⟨Z8, hZ8⟩ := zx (zu Z4 2 0 0 (3524 + 10 * a1) (w3 ((Z4 2 0 0 (3524 + 10 * a1)) + 1)))
    replace hP := zl_e hP hZ8
    have hZ8I := zM_u2 hZ4I hZ8 (lo := -2147483648) (hi := 2147483647) (zs_3520_4 (x := a1) (by omega) (by omega) (by omega)) (by omega) ⟨by decide, by decide⟩ (by simp only [zsp]; omega)
    have hZ8U : zU [] Z Z8 := zU_u hZ4U hZ8 (Or.inl rfl)
    have hZ8K : zC [2] Z Z8 := zC_u hZ4K hZ8 (zcl_2w (by omega) rfl)
    intro μ9 e9
    replace e9 := e9.trans (zm_wI (Z := Z4) (ν := ν) hZ8 (show ((0 : Nat) : Int) = 0 from rfl) (show ((0 : Nat) : Int) = 0 from rfl) (i3I (y := (3524 + 10 * a1)) (i3A (i3A (show (3520 : Int32) = i3 3520 from rfl) (i3M (show (10 : Int32) = i3 10 from rfl) (rfl : i3 a1 = i3 a1))) (show (4 : Int32) = i3 4 from rfl)) (by omega) (by omega) (by omega)) (i3W (i3A (zm_rd (Z := Z4) (ν := ν) (k := 2) (show ((0 : Nat) : Int) = 0 from rfl) (show ((0 : Nat) : Int) = 0 from rfl) (i3I (y := (3524 + 10 * a1)) (i3A (i3A (show (3520 : Int32) = i3 3520 from rfl) (i3M (show (10 : Int32) = i3 10 from rfl) (rfl : i3 a1 = i3 a1))) (show (4 : Int32) = i3 4 from rfl)) (by omega) (by omega) (by omega))) (show (1 : Int32) = i3 1 from rfl))))
    subst e9
    refine wz_i0 (i3O (n := 4400) (i3A (i3A (show (3520 : Int32) = i3 3520 from rfl) (i3M (show (10 : Int32) = i3 10 from rfl) (rfl : i3 a1 = i3 a1))) (show (7 : Int32) = i3 7 from rfl)) (by omega) (by omega) (by omega)) ?_
    have r9 := zM_k hZ8I 2 0 0 0 (lo := 0) (hi := 671) (by decide) rfl
    obtain ⟨Z10, hZ10⟩ := zx (zu Z8 2 0 0 (3527 + 10 * a1) (Z8 2 0 0 0))
    replace hP := zl_e hP hZ10
    have hZ10I := zM_u2 hZ8I hZ10 (lo := -1) (hi := 671) (zs_3520_7 (x := a1) (by omega) (by omega) (by omega)) (by omega) ⟨by decide, by decide⟩ (by simp only [zsp]; omega)
    have hZ10U : zU [] Z Z10 := zU_u hZ8U hZ10 (Or.inl rfl)
    have hZ10K : zC [2] Z Z10 := zC_u hZ8K hZ10 (zcl_2w (by omega) rfl)
    intro μ9 e9
    replace e9 := e9.trans (zm_wI (Z := Z8) (ν := ν) hZ10 (show ((0 : Nat) : Int) = 0 from rfl) (show ((0 : Nat) : Int) = 0 from rfl) (i3I (y := (3527 + 10 * a1)) (i3A (i3A (show (3520 : Int32) = i3 3520 from rfl) (i3M (show (10 : Int32) = i3 10 from rfl) (rfl : i3 a1 = i3 a1))) (show (7 : Int32) = i3 7 from rfl)) (by omega) (by omega) (by omega)) (zm_rd (Z := Z8) (ν := ν) (k := 2) (show ((0 : Nat) : Int) = 0 from rfl) (show ((0 : Nat) : Int) = 0 from rfl) (show ((0 : Nat) : Int) = 0 from rfl)))
    subst e9
    refine wz_br (i3E (rfl : i3 (a2 - 1) = i3 (a2 - 1)) (show (6 : Int32) = i3 6 from rfl) (by omega) (by omega) (by omega) (by omega)) (fun h11 => ?_) (fun h11 => ?_)
    · replace hP := zE_p hP h11
      exact zlW hP (rfl : i3 y2 = i3 y2) ⟨hZ10I, hZ10K, hZ10U, by omega, by omega⟩
    · replace hP := zE_n hP h11
      refine wz_i0 (i3O (n := 4400) (i3A (i3A (show (3520 : Int32) = i3 3520 from rfl) (i3M (show (10 : Int32) = i3 10 from rfl) (rfl : i3 a1 = i3 a1))) (show (1 : Int32) = i3 1 from rfl)) (by omega) (by omega) (by omega)) ?_
      have r12 := zM_k hZ10I 2 0 0 (3521 + 10 * a1) (lo := 0) (hi := 3) (by decide) (zs_3520_1 (x := a1) (by omega) (by omega) (by omega))
      refine wz_br (i3L (rfl : i3 y2 = i3 y2) (i3S (show (4 : Int32) = i3 4 from rfl) (zm_rd (Z := Z10) (ν := ν) (k := 2) (show ((0 : Nat) : Int) = 0 from rfl) (show ((0 : Nat) : Int) = 0 from rfl) (i3I (y := (3521 + 10 * a1)) (i3A (i3A (show (3520 : Int32) = i3 3520 from rfl) (i3M (show (10 : Int32) = i3 10 from rfl) (rfl : i3 a1 = i3 a1))) (show (1 : Int32) = i3 1 from rfl)) (by omega) (by omega) (by omega)))) (by omega) (by omega) (by omega) (by omega)) (fun h13 => ?_) (fun h13 => ?_)
      · replace hP := zE_p hP h13
        exact zlW hP (rfl : i3 y2 = i3 y2) ⟨hZ10I, hZ10K, hZ10U, by omega, by omega⟩
      · replace hP := zE_n hP h13
        refine wz_i0 (i3O (n := 4400) (i3A (show (3510 : Int32) = i3 3510 from rfl) (rfl : i3 (a2 - 1) = i3 (a2 - 1))) (by omega) (by omega) (by omega)) ?_
        have r14 := zM_k hZ10I 2 0 0 0 (lo := 0) (hi := 671) (by decide) rfl
        have q15 := zu_ne (k' := 2) (b' := 0) (i' := 0) (j' := 0) hZ10 (fun q => absurd q.2.2.2 (by omega))
        obtain ⟨Z16, hZ16⟩ := zx (zu Z10 2 0 0 (3509 + a2) ((Z10 2 0 0 0) + 24))
        replace hP := zl_e hP hZ16
        have hZ16I := zM_u2 hZ10I hZ16 (lo := 0) (hi := 695) (zs_3509 (by omega) (by omega)) (by omega) ⟨by decide, by decide⟩ (by simp only [zsp]; omega)
        have hZ16U : zU [] Z Z16 := zU_u hZ10U hZ16 (Or.inl rfl)
        have hZ16K : zC [2] Z Z16 := zC_u hZ10K hZ16 (zcl_2w (by omega) rfl)
        intro μ9 e9
        replace e9 := e9.trans (zm_wI (Z := Z10) (ν := ν) hZ16 (show ((0 : Nat) : Int) = 0 from rfl) (show ((0 : Nat) : Int) = 0 from rfl) (i3I (y := (3509 + a2)) (i3A (show (3510 : Int32) = i3 3510 from rfl) (rfl : i3 (a2 - 1) = i3 (a2 - 1))) (by omega) (by omega) (by omega)) (i3A (zm_rd (Z := Z10) (ν := ν) (k := 2) (show ((0 : Nat) : Int) = 0 from rfl) (show ((0 : Nat) : Int) = 0 from rfl) (show ((0 : Nat) : Int) = 0 from rfl)) (show (24 : Int32) = i3 24 from rfl)))
        subst e9
        exact zlW hP (rfl : i3 y2 = i3 y2) ⟨hZ16I, hZ16K, hZ16U, by omega, by omega⟩
  · replace hP := zE_n hP h1
    refine sl_365_1 (ν := ν) (zm0 hZ) (zbh (c := 0) (k := 6076) hM (Nat.le_of_ble_eq_true rfl)) (xM9 := 0) zC_r (x1 := a1) (by omega) (x2 := a2) (by omega) (x3 := 6) (by omega) (x4 := 0) (by omega) (x5 := 0) (by omega) zU_r (Nat.le_of_ble_eq_true rfl) (by omega) (zconso rfl (zconso (zvo (rfl : i3 a1 = i3 a1)) (zconso (zvo (rfl : i3 a2 = i3 a2)) (zconso (zvo (show (6 : Int32) = i3 6 from rfl)) (zconso (zvo (show (0 : Int32) = i3 0 from rfl)) (zconso (zvo (show (0 : Int32) = i3 0 from rfl)) (zconso rfl (zconso rfl rfl)))))))) rfl ?_
    intro L20 Z19 y17 y18 hL20 hZ19I kZ19 jZ19 gy17 gy18 gL20_0 q9
    replace hP := zl_e3 hP (Eq.symm q9)
    clear q9
    have hZ19U : zU [] Z Z19 := zU_t zU_r jZ19 zU_b0
    have hZ19K : zC [2] Z Z19 := zC_t zC_r kZ19 (by decide)
    refine fc_365_2 (i3 a1) (i3 6) (i3 y17) _ _ _ _ hL20 ?_
    refine wz_i0 (i3O (n := 4400) (i3A (i3A (show (3520 : Int32) = i3 3520 from rfl) (i3M (show (10 : Int32) = i3 10 from rfl) (rfl : i3 a1 = i3 a1))) (show (4 : Int32) = i3 4 from rfl)) (by omega) (by omega) (by omega)) ?_
    refine wz_i0 (i3O (n := 4400) (i3A (i3A (show (3520 : Int32) = i3 3520 from rfl) (i3M (show (10 : Int32) = i3 10 from rfl) (rfl : i3 a1 = i3 a1))) (show (4 : Int32) = i3 4 from rfl)) (by omega) (by omega) (by omega)) ?_
    have r21 := zM_f hZ19I 2 0 0 (3524 + 10 * a1)
    have r22 := w3_r ((Z19 2 0 0 (3524 + 10 * a1)) + 1)
    obtain ⟨Z23, hZ23⟩ := zx (zu Z19 2 0 0 (3524 + 10 * a1) (w3 ((Z19 2 0 0 (3524 + 10 * a1)) + 1)))
    replace hP := zl_e hP hZ23
    have hZ23I := zM_u2 hZ19I hZ23 (lo := -2147483648) (hi := 2147483647) (zs_3520_4 (x := a1) (by omega) (by omega) (by omega)) (by omega) ⟨by decide, by decide⟩ (by simp only [zsp]; omega)
    have hZ23U : zU [] Z Z23 := zU_u hZ19U hZ23 (Or.inl rfl)
    have hZ23K : zC [2] Z Z23 := zC_u hZ19K hZ23 (zcl_2w (by omega) rfl)
    intro μ9 e9
    replace e9 := e9.trans (zm_wI (Z := Z19) (ν := ν) hZ23 (show ((0 : Nat) : Int) = 0 from rfl) (show ((0 : Nat) : Int) = 0 from rfl) (i3I (y := (3524 + 10 * a1)) (i3A (i3A (show (3520 : Int32) = i3 3520 from rfl) (i3M (show (10 : Int32) = i3 10 from rfl) (rfl : i3 a1 = i3 a1))) (show (4 : Int32) = i3 4 from rfl)) (by omega) (by omega) (by omega)) (i3W (i3A (zm_rd (Z := Z19) (ν := ν) (k := 2) (show ((0 : Nat) : Int) = 0 from rfl) (show ((0 : Nat) : Int) = 0 from rfl) (i3I (y := (3524 + 10 * a1)) (i3A (i3A (show (3520 : Int32) = i3 3520 from rfl) (i3M (show (10 : Int32) = i3 10 from rfl) (rfl : i3 a1 = i3 a1))) (show (4 : Int32) = i3 4 from rfl)) (by omega) (by omega) (by omega))) (show (1 : Int32) = i3 1 from rfl))))
    subst e9
    refine wz_i0 (i3O (n := 4400) (i3A (i3A (show (3520 : Int32) = i3 3520 from rfl) (i3M (show (10 : Int32) = i3 10 from rfl) (rfl : i3 a1 = i3 a1))) (show (7 : Int32) = i3 7 from rfl)) (by omega) (by omega) (by omega)) ?_
    have r24 := zM_k hZ23I 2 0 0 0 (lo := 0) (hi := 671) (by decide) rfl
    obtain ⟨Z25, hZ25⟩ := zx (zu Z23 2 0 0 (3527 + 10 * a1) (Z23 2 0 0 0))
    replace hP := zl_e hP hZ25
    have hZ25I := zM_u2 hZ23I hZ25 (lo := -1) (hi := 671) (zs_3520_7 (x := a1) (by omega) (by omega) (by omega)) (by omega) ⟨by decide, by decide⟩ (by simp only [zsp]; omega)
    have hZ25U : zU [] Z Z25 := zU_u hZ23U hZ25 (Or.inl rfl)
    have hZ25K : zC [2] Z Z25 := zC_u hZ23K hZ25 (zcl_2w (by omega) rfl)
    intro μ9 e9
    replace e9 := e9.trans (zm_wI (Z := Z23) (ν := ν) hZ25 (show ((0 : Nat) : Int) = 0 from rfl) (show ((0 : Nat) : Int) = 0 from rfl) (i3I (y := (3527 + 10 * a1)) (i3A (i3A (show (3520 : Int32) = i3 3520 from rfl) (i3M (show (10 : Int32) = i3 10 from rfl) (rfl : i3 a1 = i3 a1))) (show (7 : Int32) = i3 7 from rfl)) (by omega) (by omega) (by omega)) (zm_rd (Z := Z23) (ν := ν) (k := 2) (show ((0 : Nat) : Int) = 0 from rfl) (show ((0 : Nat) : Int) = 0 from rfl) (show ((0 : Nat) : Int) = 0 from rfl)))
    subst e9
    refine wz_i1 (Eq.trans (i3E (rfl : i3 6 = i3 6) (show (6 : Int32) = i3 6 from rfl) (by omega) (by omega) (by omega) (by omega)) (decide_eq_true (by omega))) ?_
    exact zlW hP (rfl : i3 y17 = i3 y17) ⟨hZ25I, hZ25K, hZ25U, by omega, by omega⟩
/- yX12_iSearch -/
def zl_369_1 (x1 : Int) (x2 : Int) : Nat → qz_Z → Int → qz_Z × Int
  | 0, Z, x3 => (Z, x3)
  | m + 1, Z, x3 => (if 4400 ≤ x3 then (Z, x3) else (zlet (zu Z 2 0 0 x3 (Z 100 0 0 x3)) (fun Z5 => zl_369_1 x1 x2 m Z5 (x3 + 1))))
theorem sl_369_1 {s : zSM} {Zs Z : qz_Z} {ν : qz_N} (hZ : zM s Z) (hM : s.2 + 0 ≤ 1000000000) (hK : zC [2, 1200] Zs Z) {x1 : Int} (gx1 : 0 ≤ x1 ∧ x1 ≤ 1) {x2 : Int} (gx2 : 111 ≤ x2 ∧ x2 ≤ 777) {x3 : Int} (gx3 : 0 ≤ x3 ∧ x3 ≤ 4400) (hU : zU [] Zs Z) (gr0 : x3 = 0 ∨ Z 2 0 0 0 = Z 100 0 0 0) (gs0 : x3 = 0) {k : wz_K} {R : wz_R} {L : qz_L} (hL : qz_fg [true, true, true, true, false] L = [some (.inr (.inr (some (1, 0, 0)))), some (.inl (i3 x1)), some (.inl (i3 x2)), some (.inl (i3 x3)), none]) {T : qz_Z × Int} (hP : zE T (zl_369_1 x1 x2 ((4400 - x3).toNat + 1) Z x3)) (hk : ∀ (L9 : qz_L) (Z9 : qz_Z) (yx3 : Int), qz_fg [true, true, true, false, false] L9 = [some (.inr (.inr (some (1, 0, 0)))), some (.inl (i3 x1)), some (.inl (i3 x2)), none, none] → zM s Z9 → zC [2, 1200] Zs Z9 → zU [] Zs Z9 → (0 ≤ yx3 ∧ yx3 ≤ 4400) → (yx3 = 0 ∨ Z9 2 0 0 0 = Z9 100 0 0 0) → (4400 ≤ yx3) → zE T ((Z9, yx3)) → k 0 (L9, [], zm Z9 ν)) : wz_loop qb_369_1 65536 k R (L, [], zm Z ν) := by
  subst gs0
  have key : ∀ (m : Nat) (n : Int), 0 ≤ n → n ≤ 4400 → 4400 - n ≤ m → zl_369_1 x1 x2 (m + 1) (zpq Z 100 0 0 0 2 0 0 0 n) n = (zpq Z 100 0 0 0 2 0 0 0 4400, 4400) := by
    intro m
    induction m with
    | zero =>
      intro n h0 h1 h2
      have : n = 4400 := by omega
      subst this
      rfl
    | succ m ih =>
      intro n h0 h1 h2
      by_cases q : 4400 ≤ n
      · have : n = 4400 := by omega
        subst this
        exact if_pos (by decide)
      · have e : zl_369_1 x1 x2 (m + 1 + 1) (zpq Z 100 0 0 0 2 0 0 0 n) n = zl_369_1 x1 x2 (m + 1) (zu (zpq Z 100 0 0 0 2 0 0 0 n) 2 0 0 n (zpq Z 100 0 0 0 2 0 0 0 n 100 0 0 n)) (n + 1) := if_neg q
        rw [e, ← zpq_s (by decide) h0 (by omega) (by omega)]
        exact ih (n + 1) (by omega) (by omega) (by omega)
  have hT := key 4400 0 (by omega) (by omega) (by omega)
  rw [zpq_0] at hT
  replace hP : zE T (zpq Z 100 0 0 0 2 0 0 0 4400, 4400) := hP.trans hT
  refine wz_lp sb_369_1 (fun m x => ∃ n : Int, qz_fg [true, true, true, true, false] x.1 = [some (.inr (.inr (some (1, 0, 0)))), some (.inl (i3 x1)), some (.inl (i3 x2)), some (.inl (i3 n)), none] ∧ x.2 = ([], zm (zpq Z 100 0 0 0 2 0 0 0 n) ν) ∧ 0 ≤ n ∧ n ≤ 4400 ∧ m = (4400 - n).toNat) ?_ 65536 4400 _ (by omega) ⟨0, hL, by rw [zpq_0], by omega, by omega, by omega⟩
  clear hL
  rintro m ⟨L, st, μ⟩ ⟨n, hL, hx, h0, h1, hm⟩
  cases hx
  refine fb_369_1 (i3 x1) (i3 x2) (i3 n) _ _ _ _ hL ?_
  refine wz_br (i3Le (show (4400 : Int32) = i3 4400 from rfl) (rfl : i3 n = i3 n) (by omega) (by omega) (by omega) (by omega)) (fun q => ?_) (fun q => ?_)
  · have hn : n = 4400 := by omega
    subst hn
    exact hk _ _ 4400 (zconso rfl (zconso (zvo (rfl : i3 x1 = i3 x1)) (zconso (zvo (rfl : i3 x2 = i3 x2)) (zconso rfl (zconso rfl rfl))))) (zM_pq hZ (c := 0) (c1 := 0) (by decide) (by decide) (by omega) (by omega) rfl) (zC_pq hK (fun j => (show [2, 1200].contains (if j = 0 then 1200 else 2) = true by split <;> rfl))) (zU_pq hU rfl) (by omega) (.inr ((show zpq Z 100 0 0 0 2 0 0 0 4400 2 0 0 0 = Z 100 0 0 0 from rfl).trans (zpq_ne (by decide)).symm)) (by omega) hP
  · refine wz_i0 (i3O (n := 4400) (rfl : i3 n = i3 n) (by omega) (by omega) (by omega)) ?_
    refine wz_i0 (i3O (n := 4400) (rfl : i3 n = i3 n) (by omega) (by omega) (by omega)) ?_
    obtain ⟨Z2, hZ2⟩ := zx (zpq Z 100 0 0 0 2 0 0 0 (n + 1))
    have hz := hZ2.trans (zpq_s (by decide) h0 (by omega : n = 0 + n) (by omega : n = 0 + n))
    intro μ9 e9
    replace e9 := e9.trans (zm_wI (ν := ν) hz (show ((0 : Nat) : Int) = 0 from rfl) (show ((0 : Nat) : Int) = 0 from rfl) (i3I (y := n) (rfl : i3 n = i3 n) (by omega) (by omega) (by omega)) (zm_rd (ν := ν) (k := 100) (show ((0 : Nat) : Int) = 0 from rfl) (show ((0 : Nat) : Int) = 0 from rfl) (i3I (y := n) (rfl : i3 n = i3 n) (by omega) (by omega) (by omega))))
    subst e9
    obtain ⟨m2, rfl⟩ : ∃ m2, m = m2 + 1 := ⟨m - 1, by omega⟩
    exact wz_k1 ⟨m2, by omega, n + 1, (zconso rfl (zconso (zvo (rfl : i3 x1 = i3 x1)) (zconso (zvo (rfl : i3 x2 = i3 x2)) (zconso (zvo (i3A (rfl : i3 n = i3 n) (show (1 : Int32) = i3 1 from rfl))) (zconso rfl rfl))))), by rw [hZ2], by omega, by omega, by omega⟩
/- yX12_iSearch -/
def zl_369_2 (x1 : Int) (x2 : Int) : Nat → qz_Z → Int → Int → qz_Z × Int × Int
  | 0, Z, x3, x4 => (Z, x3, x4)
  | m + 1, Z, x3, x4 => (if 3 ≤ x4 then (Z, x3, x4) else (zlet (zu Z 2 0 0 0 ((Z 2 0 0 0) + 1)) (fun Z3 => (zlet (zf_471 Z3) (fun Z4 => (zlet (zf_373 Z4 x2 x4) (fun v5 => (zlet2 (zf_365 Z4 x1 v5) (fun Z6 v7 => zl_369_2 x1 x2 m Z6 (w3 (x3 + v7)) (x4 + 1))))))))))
theorem sl_369_2 {s : zSM} {xM9 : Nat} {Zs Z : qz_Z} {ν : qz_N} (hZ : zM (zb s xM9) Z) (hM : s.2 + 24304 ≤ 1000000000) (hK : zC [2, 1200] Zs Z) {x1 : Int} (gx1 : 0 ≤ x1 ∧ x1 ≤ 1) {x2 : Int} (gx2 : 111 ≤ x2 ∧ x2 ≤ 777) {x3 : Int} (gx3 : -2147483648 ≤ x3 ∧ x3 ≤ 2147483647) {x4 : Int} (gx4 : 0 ≤ x4 ∧ x4 ≤ 3) (hU : zU [] Zs Z) (hx9 : xM9 + 6076 * ((3 - x4).toNat) + 6076 ≤ 24304) (gr0 : Z 2 0 0 0 ≤ 668 + x4) {k : wz_K} {R : wz_R} {L : qz_L} (hL : qz_fg [true, true, true, true, true] L = [some (.inr (.inr (some (1, 0, 0)))), some (.inl (i3 x1)), some (.inl (i3 x2)), some (.inl (i3 x3)), some (.inl (i3 x4))]) {T : qz_Z × Int × Int} (hP : zE T (zl_369_2 x1 x2 ((3 - x4).toNat + 1) Z x3 x4)) (hk : ∀ (L9 : qz_L) (Z9 : qz_Z) (yx3 yx4 : Int), qz_fg [false, false, false, true, false] L9 = [none, none, none, some (.inl (i3 yx3)), none] → zM (zb s 24304) Z9 → zC [2, 1200] Zs Z9 → zU [] Zs Z9 → (-2147483648 ≤ yx3 ∧ yx3 ≤ 2147483647) → (0 ≤ yx4 ∧ yx4 ≤ 3) → (Z9 2 0 0 0 ≤ 668 + yx4) → zE T ((Z9, yx3, yx4)) → k 0 (L9, [], zm Z9 ν)) : wz_loop qb_369_2 65536 k R (L, [], zm Z ν) := by
  refine wz_lp sb_369_2 (fun m x => ∃ xM9 : Nat, ∃ Z : qz_Z, ∃ x3 : Int, ∃ x4 : Int, qz_fg [true, true, true, true, true] x.1 = [some (.inr (.inr (some (1, 0, 0)))), some (.inl (i3 x1)), some (.inl (i3 x2)), some (.inl (i3 x3)), some (.inl (i3 x4))] ∧ x.2 = ([], zm Z ν) ∧ xM9 + 6076 * m + 6076 ≤ 24304 ∧ zM (zb s xM9) Z ∧ zC [2, 1200] Zs Z ∧ zU [] Zs Z ∧ m = (3 - x4).toNat ∧ (-2147483648 ≤ x3 ∧ x3 ≤ 2147483647) ∧ (0 ≤ x4 ∧ x4 ≤ 3) ∧ (Z 2 0 0 0 ≤ 668 + x4) ∧ zE T (zl_369_2 x1 x2 (m + 1) Z x3 x4)) ?_ 65536 ((3 - x4).toNat) _ (by omega) ⟨xM9, Z, x3, x4, hL, rfl, hx9, hZ, hK, hU, rfl, gx3, gx4, gr0, hP⟩
  clear hP gr0 gx3 gx4 hx9 hZ hK hU hL
  clear x3 x4
  clear Z
  clear xM9
  rintro m ⟨L, st, μ⟩ ⟨xM9, Z, x3, x4, hL, hx, hx9, hZ, hK, hU, hm, gx3, gx4, gr0, hP⟩
  cases hx
  have hM9 : (zb s xM9).2 + 6076 ≤ 1000000000 := by
    show s.2 + xM9 + 6076 ≤ 1000000000
    omega
  refine fb_369_2 (i3 x1) (i3 x2) (i3 x3) (i3 x4) _ _ _ _ hL ?_
  have r1 := zM_k hZ 2 0 0 0 (lo := 0) (hi := 671) (by decide) rfl
  refine wz_br (i3Le (show (3 : Int32) = i3 3 from rfl) (rfl : i3 x4 = i3 x4) (by omega) (by omega) (by omega) (by omega)) (fun h2 => ?_) (fun h2 => ?_)
  · replace hP := zE_p hP h2
    exact hk _ _ _ _ (zconso rfl (zconso rfl (zconso rfl (zconso (zvo (rfl : i3 x3 = i3 x3)) (zconso rfl rfl))))) (zmx0 hZ (by omega)) hK hU (by omega) (by omega) (by omega) hP
  · replace hP := zE_n hP h2
    obtain ⟨Z3, hZ3⟩ := zx (zu Z 2 0 0 0 ((Z 2 0 0 0) + 1))
    replace hP := zl_e hP hZ3
    have hZ3I := zM_u2 hZ hZ3 (lo := 0) (hi := 671) rfl (by omega) ⟨by decide, by decide⟩ (by simp only [zsp]; omega)
    have hZ3U : zU [] Zs Z3 := zU_u hU hZ3 (Or.inl rfl)
    have hZ3K : zC [2, 1200] Zs Z3 := zC_u hK hZ3 (by decide)
    intro μ9 e9
    replace e9 := e9.trans (zm_wI (Z := Z) (ν := ν) hZ3 (show ((0 : Nat) : Int) = 0 from rfl) (show ((0 : Nat) : Int) = 0 from rfl) (show ((0 : Nat) : Int) = 0 from rfl) (i3A (zm_rd (Z := Z) (ν := ν) (k := 2) (show ((0 : Nat) : Int) = 0 from rfl) (show ((0 : Nat) : Int) = 0 from rfl) (show ((0 : Nat) : Int) = 0 from rfl)) (show (1 : Int32) = i3 1 from rfl)))
    subst e9
    obtain ⟨Z4, hZ4, c9, hZ4I, kZ4, jZ4⟩ := sp_471 (ν := ν) hZ3I (zbh (c := 0) (k := 0) hM9 (Nat.le_of_ble_eq_true rfl))
    have hZ4U : zU [] Zs Z4 := zU_t hZ3U jZ4 zU_b0
    have hZ4K : zC [2, 1200] Zs Z4 := zC_t hZ3K kZ4 (by decide)
    replace hP := zl_e hP hZ4
    refine wz_cV_of (zas (zcons rfl rfl) c9) ?_
    clear c9
    obtain ⟨v5, hv5, c9, lv5, uv5⟩ := sp_373 (ν := ν) hZ4I (a0 := x2) (by omega) (a1 := x4) (by omega) (zbh (c := 0) (k := 0) hM9 (Nat.le_of_ble_eq_true rfl))
    replace hP := zl_e hP hv5
    refine wz_cI_of (zas (zcons (zvi (rfl : i3 x2 = i3 x2)) (zcons (zvi (rfl : i3 x4 = i3 x4)) rfl)) c9) ?_
    clear c9
    obtain ⟨Z6, v7, hv7, c9, hZ6I, kZ6, jZ6, lv7, uv7⟩ := sp_365 (ν := ν) hZ4I (a1 := x1) (by omega) (a2 := v5) (by omega) (zbh (c := 0) (k := 6076) hM9 (Nat.le_of_ble_eq_true rfl))
    have hZ6U : zU [] Zs Z6 := zU_t hZ4U jZ6 zU_b0
    have hZ6K : zC [2, 1200] Zs Z6 := zC_t hZ4K kZ6 (by decide)
    replace hP := zl_e2 hP hv7
    refine wz_cI_of (zas (zcons rfl (zcons (zvi (rfl : i3 x1 = i3 x1)) (zcons (zvi (rfl : i3 v5 = i3 v5)) rfl))) c9) ?_
    clear c9 hv7
    have r8 := w3_r (x3 + v7)
    have r9 := zM_k hZ6I 2 0 0 0 (lo := 0) (hi := 671) (by decide) rfl
    have q10 := (kZ6 2 0 0 0 (by decide)).trans ((kZ4 2 0 0 0 (by decide)).trans (zu_at hZ3))
    obtain ⟨m2, rfl⟩ : ∃ m2, m = m2 + 1 := ⟨m - 1, by omega⟩
    exact wz_k1 ⟨m2, by omega, xM9 + 6076, Z6, (w3 (x3 + v7)), (x4 + 1), (zconso rfl (zconso (zvo (rfl : i3 x1 = i3 x1)) (zconso (zvo (rfl : i3 x2 = i3 x2)) (zconso (zvo (i3W (i3A (rfl : i3 x3 = i3 x3) (rfl : i3 v7 = i3 v7)))) (zconso (zvo (i3A (rfl : i3 x4 = i3 x4) (show (1 : Int32) = i3 1 from rfl))) rfl))))), rfl, by omega, (zmt hZ6I rfl), hZ6K, hZ6U, by omega, by omega, by omega, by omega,  hP⟩
/- yX12_iSearch -/
def zf_369 (Z : qz_Z) (a1 : Int) (a2 : Int) : qz_Z × Int := (zlet2 (zl_369_1 a1 a2 4401 Z 0) (fun Z3 y2 => (zlet3 (zl_369_2 a1 a2 4 Z3 0 0) (fun Z11 y9 y10 => (Z11, y9)))))
theorem sp_369 {s : zSM} {Z : qz_Z} {ν : qz_N} (hZ : zM s Z) {a1 : Int} (ga1 : 0 ≤ a1 ∧ a1 ≤ 1) {a2 : Int} (ga2 : 111 ≤ a2 ∧ a2 ≤ 777) (gx0 : Z 100 0 0 0 ≤ 668) (hM : s.2 + 24304 ≤ 1000000000) : ∃ (Z1 : qz_Z) (P : Int), (Z1, P) = zf_369 Z a1 a2 ∧ (qf_369 [.inr (.inr (some (1, 0, 0))), .inl (i3 a1), .inl (i3 a2)] (zm Z ν) = some (zm Z1 ν, .inl (some (.inl (i3 P)))) ∧ zM (zb s 24304) Z1 ∧ zC [2, 1200] Z Z1 ∧ zU [] Z Z1 ∧ -2147483648 ≤ P ∧ P ≤ 2147483647) := by
  obtain ⟨P, hP⟩ := zx (zf_369 Z a1 a2)
  refine zc_W (Q := fun Z1 P => zM (zb s 24304) Z1 ∧ zC [2, 1200] Z Z1 ∧ zU [] Z Z1 ∧ -2147483648 ≤ P ∧ P ≤ 2147483647) hP (fw_369 (i3 a1) (i3 a2) _ _ ?_)
  replace hP : zE P (zf_369 Z a1 a2) := hP
  unfold zf_369 at hP
  have r1 := zM_f hZ 100 0 0 0
  have r4 := zM_k hZ 2 0 0 0 (lo := 0) (hi := 671) (by decide) rfl
  refine sl_369_1 (ν := ν) hZ (zbh (c := 0) (k := 0) hM (Nat.le_of_ble_eq_true rfl)) zC_r (x1 := a1) (by omega) (x2 := a2) (by omega) (x3 := 0) (by omega) zU_r (by omega) (by omega) (zconso rfl (zconso (zvo (rfl : i3 a1 = i3 a1)) (zconso (zvo (rfl : i3 a2 = i3 a2)) (zconso (zvo (show (0 : Int32) = i3 0 from rfl)) (zconso rfl rfl))))) rfl ?_
  intro L5 Z3 y2 hL5 hZ3I kZ3 jZ3 gy2 gL5_0 gL5_1 q9
  replace hP := zl_e2 hP (Eq.symm q9)
  clear q9
  have hZ3U : zU [] Z Z3 := zU_t zU_r jZ3 zU_b0
  have hZ3K : zC [2, 1200] Z Z3 := zC_t zC_r kZ3 (by decide)
  have r6 := zM_k hZ3I 2 0 0 0 (lo := 0) (hi := 671) (by decide) rfl
  have r7 := zM_f hZ3I 100 0 0 0
  have q8 := kZ3 100 0 0 0 (by decide)
  refine fc_369_4 (i3 a1) (i3 a2) _ _ _ _ hL5 ?_
  refine sl_369_2 (ν := ν) (zm0 hZ3I) (zbh (c := 0) (k := 24304) hM (Nat.le_of_ble_eq_true rfl)) (xM9 := 0) zC_r (x1 := a1) (by omega) (x2 := a2) (by omega) (x3 := 0) (by omega) (x4 := 0) (by omega) zU_r (Nat.le_of_ble_eq_true rfl) (by omega) (zconso rfl (zconso (zvo (rfl : i3 a1 = i3 a1)) (zconso (zvo (rfl : i3 a2 = i3 a2)) (zconso (zvo (show (0 : Int32) = i3 0 from rfl)) (zconso (zvo (show (0 : Int32) = i3 0 from rfl)) rfl))))) rfl ?_
  intro L12 Z11 y9 y10 hL12 hZ11I kZ11 jZ11 gy9 gy10 gL12_0 q9
  replace hP := zl_e3 hP (Eq.symm q9)
  clear q9
  have hZ11U : zU [] Z Z11 := zU_t hZ3U jZ11 zU_b0
  have hZ11K : zC [2, 1200] Z Z11 := zC_t hZ3K kZ11 (by decide)
  have r13 := zM_k hZ11I 2 0 0 0 (lo := 0) (hi := 671) (by decide) rfl
  refine fc_369_3 (i3 y9) _ _ _ _ hL12 ?_
  exact zlW hP (rfl : i3 y9 = i3 y9) ⟨hZ11I, hZ11K, hZ11U, by omega, by omega⟩
/- yX12_iFindMost -/
def zl_356_1 (x1 : Int) : Nat → qz_Z → Int → qz_Z × Int
  | 0, Z, x3 => (Z, x3)
  | m + 1, Z, x3 => (if 4400 ≤ x3 then (Z, x3) else (zlet (zu Z 100 0 0 x3 (Z 2 0 0 x3)) (fun Z5 => zl_356_1 x1 m Z5 (x3 + 1))))
theorem sl_356_1 {s : zSM} {Zs Z : qz_Z} {ν : qz_N} (hZ : zM s Z) (hM : s.2 + 0 ≤ 1000000000) (hK : zC [100] Zs Z) {x1 : Int} (gx1 : 0 ≤ x1 ∧ x1 ≤ 1) {x3 : Int} (gx3 : 0 ≤ x3 ∧ x3 ≤ 4400) (hU : zU [] Zs Z) (gr0 : x3 = 0 ∨ Z 100 0 0 0 = Z 2 0 0 0) (gs0 : x3 = 0) {k : wz_K} {R : wz_R} {L : qz_L} (hL : qz_fg [true, true, false, true, false, false, false] L = [some (.inr (.inr (some (1, 0, 0)))), some (.inl (i3 x1)), none, some (.inl (i3 x3)), none, none, none]) {T : qz_Z × Int} (hP : zE T (zl_356_1 x1 ((4400 - x3).toNat + 1) Z x3)) (hk : ∀ (L9 : qz_L) (Z9 : qz_Z) (yx3 : Int), qz_fg [true, true, false, false, false, false, false] L9 = [some (.inr (.inr (some (1, 0, 0)))), some (.inl (i3 x1)), none, none, none, none, none] → zM s Z9 → zC [100] Zs Z9 → zU [] Zs Z9 → (0 ≤ yx3 ∧ yx3 ≤ 4400) → (yx3 = 0 ∨ Z9 100 0 0 0 = Z9 2 0 0 0) → (4400 ≤ yx3) → zE T ((Z9, yx3)) → k 0 (L9, [], zm Z9 ν)) : wz_loop qb_356_1 65536 k R (L, [], zm Z ν) := by
  subst gs0
  have key : ∀ (m : Nat) (n : Int), 0 ≤ n → n ≤ 4400 → 4400 - n ≤ m → zl_356_1 x1 (m + 1) (zpq Z 2 0 0 0 100 0 0 0 n) n = (zpq Z 2 0 0 0 100 0 0 0 4400, 4400) := by
    intro m
    induction m with
    | zero =>
      intro n h0 h1 h2
      have : n = 4400 := by omega
      subst this
      rfl
    | succ m ih =>
      intro n h0 h1 h2
      by_cases q : 4400 ≤ n
      · have : n = 4400 := by omega
        subst this
        exact if_pos (by decide)
      · have e : zl_356_1 x1 (m + 1 + 1) (zpq Z 2 0 0 0 100 0 0 0 n) n = zl_356_1 x1 (m + 1) (zu (zpq Z 2 0 0 0 100 0 0 0 n) 100 0 0 n (zpq Z 2 0 0 0 100 0 0 0 n 2 0 0 n)) (n + 1) := if_neg q
        rw [e, ← zpq_s (by decide) h0 (by omega) (by omega)]
        exact ih (n + 1) (by omega) (by omega) (by omega)
  have hT := key 4400 0 (by omega) (by omega) (by omega)
  rw [zpq_0] at hT
  replace hP : zE T (zpq Z 2 0 0 0 100 0 0 0 4400, 4400) := hP.trans hT
  refine wz_lp sb_356_1 (fun m x => ∃ n : Int, qz_fg [true, true, false, true, false, false, false] x.1 = [some (.inr (.inr (some (1, 0, 0)))), some (.inl (i3 x1)), none, some (.inl (i3 n)), none, none, none] ∧ x.2 = ([], zm (zpq Z 2 0 0 0 100 0 0 0 n) ν) ∧ 0 ≤ n ∧ n ≤ 4400 ∧ m = (4400 - n).toNat) ?_ 65536 4400 _ (by omega) ⟨0, hL, by rw [zpq_0], by omega, by omega, by omega⟩
  clear hL
  rintro m ⟨L, st, μ⟩ ⟨n, hL, hx, h0, h1, hm⟩
  cases hx
  refine fb_356_1 (i3 x1) (i3 n) _ _ _ _ hL ?_
  refine wz_br (i3Le (show (4400 : Int32) = i3 4400 from rfl) (rfl : i3 n = i3 n) (by omega) (by omega) (by omega) (by omega)) (fun q => ?_) (fun q => ?_)
  · have hn : n = 4400 := by omega
    subst hn
    exact hk _ _ 4400 (zconso rfl (zconso (zvo (rfl : i3 x1 = i3 x1)) (zconso rfl (zconso rfl (zconso rfl (zconso rfl (zconso rfl rfl))))))) (zM_pq hZ (c := 0) (c1 := 0) (by decide) (by decide) (by omega) (by omega) rfl) (zC_pq hK (fun j => rfl)) (zU_pq hU rfl) (by omega) (.inr ((show zpq Z 2 0 0 0 100 0 0 0 4400 100 0 0 0 = Z 2 0 0 0 from rfl).trans (zpq_ne (by decide)).symm)) (by omega) hP
  · refine wz_i0 (i3O (n := 4400) (rfl : i3 n = i3 n) (by omega) (by omega) (by omega)) ?_
    refine wz_i0 (i3O (n := 4400) (rfl : i3 n = i3 n) (by omega) (by omega) (by omega)) ?_
    obtain ⟨Z2, hZ2⟩ := zx (zpq Z 2 0 0 0 100 0 0 0 (n + 1))
    have hz := hZ2.trans (zpq_s (by decide) h0 (by omega : n = 0 + n) (by omega : n = 0 + n))
    intro μ9 e9
    replace e9 := e9.trans (zm_wI (ν := ν) hz (show ((0 : Nat) : Int) = 0 from rfl) (show ((0 : Nat) : Int) = 0 from rfl) (i3I (y := n) (rfl : i3 n = i3 n) (by omega) (by omega) (by omega)) (zm_rd (ν := ν) (k := 2) (show ((0 : Nat) : Int) = 0 from rfl) (show ((0 : Nat) : Int) = 0 from rfl) (i3I (y := n) (rfl : i3 n = i3 n) (by omega) (by omega) (by omega))))
    subst e9
    obtain ⟨m2, rfl⟩ : ∃ m2, m = m2 + 1 := ⟨m - 1, by omega⟩
    exact wz_k1 ⟨m2, by omega, n + 1, (zconso rfl (zconso (zvo (rfl : i3 x1 = i3 x1)) (zconso rfl (zconso (zvo (i3A (rfl : i3 n = i3 n) (show (1 : Int32) = i3 1 from rfl))) (zconso rfl (zconso rfl (zconso rfl rfl))))))), by rw [hZ2], by omega, by omega, by omega⟩
/- yX12_iFindMost -/
def zl_356_2 (x1 : Int) (x3 : Int) : Nat → qz_Z → Int → qz_Z × Int
  | 0, Z, x4 => (Z, x4)
  | m + 1, Z, x4 => (if ((x3 * x3) * x3) ≤ x4 then (Z, x4) else (if (Z 2 0 0 1200) ≤ ((x4 / x3) / x3) then (if (Z 2 0 0 1200) ≤ ((x4 / x3) % x3) then (if (Z 2 0 0 1200) ≤ (x4 % x3) then (zlet2 (zf_369 Z x1 777) (fun Z13 v14 => (if v14 ≤ (Z13 1 0 0 31) then zl_356_2 x1 x3 m Z13 (x4 + 1) else (zlet (zu Z13 1 0 0 31 v14) (fun Z19 => (zlet (zu Z19 1 0 0 32 777) (fun Z20 => zl_356_2 x1 x3 m Z20 (x4 + 1)))))))) else (zlet2 (zf_369 Z x1 (770 + ((x4 % x3) + 1))) (fun Z23 v24 => (if v24 ≤ (Z23 1 0 0 31) then zl_356_2 x1 x3 m Z23 (x4 + 1) else (zlet (zu Z23 1 0 0 31 v24) (fun Z29 => (zlet (zu Z29 1 0 0 32 (770 + ((x4 % x3) + 1))) (fun Z30 => zl_356_2 x1 x3 m Z30 (x4 + 1))))))))) else (if (Z 2 0 0 1200) ≤ (x4 % x3) then (zlet2 (zf_369 Z x1 ((700 + (10 * (((x4 / x3) % x3) + 1))) + 7)) (fun Z35 v36 => (if v36 ≤ (Z35 1 0 0 31) then zl_356_2 x1 x3 m Z35 (x4 + 1) else (zlet (zu Z35 1 0 0 31 v36) (fun Z41 => (zlet (zu Z41 1 0 0 32 ((700 + (10 * (((x4 / x3) % x3) + 1))) + 7)) (fun Z42 => zl_356_2 x1 x3 m Z42 (x4 + 1)))))))) else (zlet2 (zf_369 Z x1 ((700 + (10 * (((x4 / x3) % x3) + 1))) + ((x4 % x3) + 1))) (fun Z45 v46 => (if v46 ≤ (Z45 1 0 0 31) then zl_356_2 x1 x3 m Z45 (x4 + 1) else (zlet (zu Z45 1 0 0 31 v46) (fun Z51 => (zlet (zu Z51 1 0 0 32 ((700 + (10 * (((x4 / x3) % x3) + 1))) + ((x4 % x3) + 1))) (fun Z52 => zl_356_2 x1 x3 m Z52 (x4 + 1)))))))))) else (if (Z 2 0 0 1200) ≤ ((x4 / x3) % x3) then (if (Z 2 0 0 1200) ≤ (x4 % x3) then (zlet2 (zf_369 Z x1 (((100 * (((x4 / x3) / x3) + 1)) + 70) + 7)) (fun Z59 v60 => (if v60 ≤ (Z59 1 0 0 31) then zl_356_2 x1 x3 m Z59 (x4 + 1) else (zlet (zu Z59 1 0 0 31 v60) (fun Z65 => (zlet (zu Z65 1 0 0 32 (((100 * (((x4 / x3) / x3) + 1)) + 70) + 7)) (fun Z66 => zl_356_2 x1 x3 m Z66 (x4 + 1)))))))) else (zlet2 (zf_369 Z x1 (((100 * (((x4 / x3) / x3) + 1)) + 70) + ((x4 % x3) + 1))) (fun Z69 v70 => (if v70 ≤ (Z69 1 0 0 31) then zl_356_2 x1 x3 m Z69 (x4 + 1) else (zlet (zu Z69 1 0 0 31 v70) (fun Z75 => (zlet (zu Z75 1 0 0 32 (((100 * (((x4 / x3) / x3) + 1)) + 70) + ((x4 % x3) + 1))) (fun Z76 => zl_356_2 x1 x3 m Z76 (x4 + 1))))))))) else (if (Z 2 0 0 1200) ≤ (x4 % x3) then (zlet2 (zf_369 Z x1 (((100 * (((x4 / x3) / x3) + 1)) + (10 * (((x4 / x3) % x3) + 1))) + 7)) (fun Z81 v82 => (if v82 ≤ (Z81 1 0 0 31) then zl_356_2 x1 x3 m Z81 (x4 + 1) else (zlet (zu Z81 1 0 0 31 v82) (fun Z87 => (zlet (zu Z87 1 0 0 32 (((100 * (((x4 / x3) / x3) + 1)) + (10 * (((x4 / x3) % x3) + 1))) + 7)) (fun Z88 => zl_356_2 x1 x3 m Z88 (x4 + 1)))))))) else (zlet2 (zf_369 Z x1 (((100 * (((x4 / x3) / x3) + 1)) + (10 * (((x4 / x3) % x3) + 1))) + ((x4 % x3) + 1))) (fun Z91 v92 => (if v92 ≤ (Z91 1 0 0 31) then zl_356_2 x1 x3 m Z91 (x4 + 1) else (zlet (zu Z91 1 0 0 31 v92) (fun Z97 => (zlet (zu Z97 1 0 0 32 (((100 * (((x4 / x3) / x3) + 1)) + (10 * (((x4 / x3) % x3) + 1))) + ((x4 % x3) + 1))) (fun Z98 => zl_356_2 x1 x3 m Z98 (x4 + 1))))))))))))
theorem sl_356_2 {s : zSM} {xM9 : Nat} {Zs Z : qz_Z} {ν : qz_N} (hZ : zM (zb s xM9) Z) (hM : s.2 + 8360576 ≤ 1000000000) (hK : zC [1, 2, 1200] Zs Z) {x1 : Int} (gx1 : 0 ≤ x1 ∧ x1 ≤ 1) {x3 : Int} (gx3 : 1 ≤ x3 ∧ x3 ≤ 7) {x4 : Int} (gx4 : 0 ≤ x4 ∧ x4 ≤ 343) (hU : zU [] Zs Z) (hx9 : xM9 + 24304 * ((343 - x4).toNat) + 24304 ≤ 8360576) (gr0 : Z 100 0 0 0 ≤ 668) {k : wz_K} {R : wz_R} {L : qz_L} (hL : qz_fg [true, true, false, true, true, false, false] L = [some (.inr (.inr (some (1, 0, 0)))), some (.inl (i3 x1)), none, some (.inl (i3 x3)), some (.inl (i3 x4)), none, none]) {T : qz_Z × Int} (hP : zE T (zl_356_2 x1 x3 ((343 - x4).toNat + 1) Z x4)) (hk : ∀ (L9 : qz_L) (Z9 : qz_Z) (yx4 : Int), qz_fg [true, false, false, false, false, false, false] L9 = [some (.inr (.inr (some (1, 0, 0)))), none, none, none, none, none, none] → zM (zb s 8360576) Z9 → zC [1, 2, 1200] Zs Z9 → zU [] Zs Z9 → (0 ≤ yx4 ∧ yx4 ≤ 343) → (Z9 100 0 0 0 ≤ 668) → zE T ((Z9, yx4)) → k 0 (L9, [], zm Z9 ν)) : wz_loop qb_356_2 65536 k R (L, [], zm Z ν) := by
  refine wz_lp sb_356_2 (fun m x => ∃ xM9 : Nat, ∃ Z : qz_Z, ∃ x4 : Int, qz_fg [true, true, false, true, true, false, false] x.1 = [some (.inr (.inr (some (1, 0, 0)))), some (.inl (i3 x1)), none, some (.inl (i3 x3)), some (.inl (i3 x4)), none, none] ∧ x.2 = ([], zm Z ν) ∧ xM9 + 24304 * m + 24304 ≤ 8360576 ∧ zM (zb s xM9) Z ∧ zC [1, 2, 1200] Zs Z ∧ zU [] Zs Z ∧ m = (343 - x4).toNat ∧ (0 ≤ x4 ∧ x4 ≤ 343) ∧ (Z 100 0 0 0 ≤ 668) ∧ zE T (zl_356_2 x1 x3 (m + 1) Z x4)) ?_ 65536 ((343 - x4).toNat) _ (by omega) ⟨xM9, Z, x4, hL, rfl, hx9, hZ, hK, hU, rfl, gx4, gr0, hP⟩
  clear hP gr0 gx4 hx9 hZ hK hU hL
  clear x4
  clear Z
  clear xM9
  rintro m ⟨L, st, μ⟩ ⟨xM9, Z, x4, hL, hx, hx9, hZ, hK, hU, hm, gx4, gr0, hP⟩
  cases hx
  have hM9 : (zb s xM9).2 + 24304 ≤ 1000000000 := by
    show s.2 + xM9 + 24304 ≤ 1000000000
    omega
  refine fb_356_2 (i3 x1) (i3 x3) (i3 x4) _ _ _ _ hL ?_
  have r1 := zM_f hZ 100 0 0 0
  have r2 := z_mul (x := x3) (y := x3) (a := 7) (b := 7) (by omega) (by omega) (by omega) (by omega)
  have r3 := z_mul (x := (x3 * x3)) (y := x3) (a := 49) (b := 7) (by omega) (by omega) (by omega) (by omega)
  refine wz_br (i3Le (i3M (i3M (rfl : i3 x3 = i3 x3) (rfl : i3 x3 = i3 x3)) (rfl : i3 x3 = i3 x3)) (rfl : i3 x4 = i3 x4) (by omega) (by omega) (by omega) (by omega)) (fun h4 => ?_) (fun h4 => ?_)
  · replace hP := zE_p hP h4
    exact hk _ _ _ (zconso rfl (zconso rfl (zconso rfl (zconso rfl (zconso rfl (zconso rfl (zconso rfl rfl))))))) (zmx0 hZ (by omega)) hK hU (by omega) (by omega) hP
  · replace hP := zE_n hP h4
    refine wz_i0 (i3N0 (rfl : i3 x3 = i3 x3) (by omega) (by omega) (by omega)) ?_
    refine wz_i0 (i3N0 (rfl : i3 x3 = i3 x3) (by omega) (by omega) (by omega)) ?_
    have r5 := zM_k hZ 2 0 0 1200 (lo := 0) (hi := 6) (by decide) rfl
    have r6 := z_div (x := x4) (y := x3) (by omega) (by omega)
    have r7 := z_div (x := (x4 / x3)) (y := x3) (by omega) (by omega)
    refine wz_br (i3Le (zm_rd (Z := Z) (ν := ν) (k := 2) (show ((0 : Nat) : Int) = 0 from rfl) (show ((0 : Nat) : Int) = 0 from rfl) (show ((1200 : Nat) : Int) = 1200 from rfl)) (i3D (i3D (rfl : i3 x4 = i3 x4) (rfl : i3 x3 = i3 x3) (by omega) (by omega) (by omega) (by omega)) (rfl : i3 x3 = i3 x3) (by omega) (by omega) (by omega) (by omega)) (by omega) (by omega) (by omega) (by omega)) (fun h8 => ?_) (fun h8 => ?_)
    · replace hP := zE_p hP h8
      refine wz_i0 (i3N0 (rfl : i3 x3 = i3 x3) (by omega) (by omega) (by omega)) ?_
      refine wz_i0 (i3N0 (rfl : i3 x3 = i3 x3) (by omega) (by omega) (by omega)) ?_
      have r9 := z_mod (x4 / x3) (y := x3) (by omega)
      refine wz_br (i3Le (zm_rd (Z := Z) (ν := ν) (k := 2) (show ((0 : Nat) : Int) = 0 from rfl) (show ((0 : Nat) : Int) = 0 from rfl) (show ((1200 : Nat) : Int) = 1200 from rfl)) (i3R (i3D (rfl : i3 x4 = i3 x4) (rfl : i3 x3 = i3 x3) (by omega) (by omega) (by omega) (by omega)) (rfl : i3 x3 = i3 x3) (by omega) (by omega) (by omega) (by omega)) (by omega) (by omega) (by omega) (by omega)) (fun h10 => ?_) (fun h10 => ?_)
      · replace hP := zE_p hP h10
        refine wz_i0 (i3N0 (rfl : i3 x3 = i3 x3) (by omega) (by omega) (by omega)) ?_
        have r11 := z_mod x4 (y := x3) (by omega)
        refine wz_br (i3Le (zm_rd (Z := Z) (ν := ν) (k := 2) (show ((0 : Nat) : Int) = 0 from rfl) (show ((0 : Nat) : Int) = 0 from rfl) (show ((1200 : Nat) : Int) = 1200 from rfl)) (i3R (rfl : i3 x4 = i3 x4) (rfl : i3 x3 = i3 x3) (by omega) (by omega) (by omega) (by omega)) (by omega) (by omega) (by omega) (by omega)) (fun h12 => ?_) (fun h12 => ?_)
        · replace hP := zE_p hP h12
          obtain ⟨Z13, v14, hv14, c9, hZ13I, kZ13, jZ13, lv14, uv14⟩ := sp_369 (ν := ν) hZ (a1 := x1) (by omega) (a2 := 777) (by omega) (by omega) (zbh (c := 0) (k := 24304) hM9 (Nat.le_of_ble_eq_true rfl))
          have hZ13U : zU [] Zs Z13 := zU_t hU jZ13 zU_b0
          have hZ13K : zC [1, 2, 1200] Zs Z13 := zC_t hK kZ13 (by decide)
          replace hP := zl_e2 hP hv14
          refine wz_cI_of (zas (zcons rfl (zcons (zvi (rfl : i3 x1 = i3 x1)) (zcons (zvi (show (777 : Int32) = i3 777 from rfl)) rfl))) c9) ?_
          clear c9 hv14
          have r15 := zM_f hZ13I 1 0 0 31
          refine wz_br (i3Le (rfl : i3 v14 = i3 v14) (zm_rd (Z := Z13) (ν := ν) (k := 1) (show ((0 : Nat) : Int) = 0 from rfl) (show ((0 : Nat) : Int) = 0 from rfl) (show ((31 : Nat) : Int) = 31 from rfl)) (by omega) (by omega) (by omega) (by omega)) (fun h16 => ?_) (fun h16 => ?_)
          · replace hP := zE_p hP h16
            have r17 := zM_f hZ13I 100 0 0 0
            have q18 := kZ13 100 0 0 0 (by decide)
            obtain ⟨m2, rfl⟩ : ∃ m2, m = m2 + 1 := ⟨m - 1, by omega⟩
            exact wz_k1 ⟨m2, by omega, xM9 + 24304, Z13, (x4 + 1), (zconso rfl (zconso (zvo (rfl : i3 x1 = i3 x1)) (zconso rfl (zconso (zvo (rfl : i3 x3 = i3 x3)) (zconso (zvo (i3A (rfl : i3 x4 = i3 x4) (show (1 : Int32) = i3 1 from rfl))) (zconso rfl (zconso rfl rfl))))))), rfl, by omega, (zmt hZ13I rfl), hZ13K, hZ13U, by omega, by omega, by omega,  hP⟩
          · replace hP := zE_n hP h16
            obtain ⟨Z19, hZ19⟩ := zx (zu Z13 1 0 0 31 v14)
            replace hP := zl_e hP hZ19
            have hZ19I := zM_u hZ13I hZ19 (lo := -2147483648) (hi := 2147483647) (by decide) rfl (by omega) ⟨by decide, by decide⟩ (Or.inr (by decide)) rfl
            have hZ19U : zU [] Zs Z19 := zU_u hZ13U hZ19 (Or.inl rfl)
            have hZ19K : zC [1, 2, 1200] Zs Z19 := zC_u hZ13K hZ19 (by decide)
            intro μ9 e9
            replace e9 := e9.trans (zm_wI (Z := Z13) (ν := ν) hZ19 (show ((0 : Nat) : Int) = 0 from rfl) (show ((0 : Nat) : Int) = 0 from rfl) (show ((31 : Nat) : Int) = 31 from rfl) (rfl : i3 v14 = i3 v14))
            subst e9
            obtain ⟨Z20, hZ20⟩ := zx (zu Z19 1 0 0 32 777)
            replace hP := zl_e hP hZ20
            have hZ20I := zM_u hZ19I hZ20 (lo := -2147483648) (hi := 2147483647) (by decide) rfl (by omega) ⟨by decide, by decide⟩ (Or.inr (by decide)) rfl
            have hZ20U : zU [] Zs Z20 := zU_u hZ19U hZ20 (Or.inl rfl)
            have hZ20K : zC [1, 2, 1200] Zs Z20 := zC_u hZ19K hZ20 (by decide)
            intro μ9 e9
            replace e9 := e9.trans (zm_wI (Z := Z19) (ν := ν) hZ20 (show ((0 : Nat) : Int) = 0 from rfl) (show ((0 : Nat) : Int) = 0 from rfl) (show ((32 : Nat) : Int) = 32 from rfl) (show (777 : Int32) = i3 777 from rfl))
            subst e9
            have r21 := zM_f hZ20I 100 0 0 0
            have q22 := (zu_ne (k' := 100) (b' := 0) (i' := 0) (j' := 0) hZ20 (fun q => absurd q.1 (by decide))).trans ((zu_ne (k' := 100) (b' := 0) (i' := 0) (j' := 0) hZ19 (fun q => absurd q.1 (by decide))).trans (kZ13 100 0 0 0 (by decide)))
            obtain ⟨m2, rfl⟩ : ∃ m2, m = m2 + 1 := ⟨m - 1, by omega⟩
            exact wz_k1 ⟨m2, by omega, xM9 + 24304, Z20, (x4 + 1), (zconso rfl (zconso (zvo (rfl : i3 x1 = i3 x1)) (zconso rfl (zconso (zvo (rfl : i3 x3 = i3 x3)) (zconso (zvo (i3A (rfl : i3 x4 = i3 x4) (show (1 : Int32) = i3 1 from rfl))) (zconso rfl (zconso rfl rfl))))))), rfl, by omega, (zmt hZ20I rfl), hZ20K, hZ20U, by omega, by omega, by omega,  hP⟩
        · replace hP := zE_n hP h12
          obtain ⟨Z23, v24, hv24, c9, hZ23I, kZ23, jZ23, lv24, uv24⟩ := sp_369 (ν := ν) hZ (a1 := x1) (by omega) (a2 := (770 + ((x4 % x3) + 1))) (by omega) (by omega) (zbh (c := 0) (k := 24304) hM9 (Nat.le_of_ble_eq_true rfl))
          have hZ23U : zU [] Zs Z23 := zU_t hU jZ23 zU_b0
          have hZ23K : zC [1, 2, 1200] Zs Z23 := zC_t hK kZ23 (by decide)
          replace hP := zl_e2 hP hv24
          refine wz_cI_of (zas (zcons rfl (zcons (zvi (rfl : i3 x1 = i3 x1)) (zcons (zvi (i3A (show (770 : Int32) = i3 770 from rfl) (i3A (i3R (rfl : i3 x4 = i3 x4) (rfl : i3 x3 = i3 x3) (by omega) (by omega) (by omega) (by omega)) (show (1 : Int32) = i3 1 from rfl)))) rfl))) c9) ?_
          clear c9 hv24
          have r25 := zM_f hZ23I 1 0 0 31
          refine wz_br (i3Le (rfl : i3 v24 = i3 v24) (zm_rd (Z := Z23) (ν := ν) (k := 1) (show ((0 : Nat) : Int) = 0 from rfl) (show ((0 : Nat) : Int) = 0 from rfl) (show ((31 : Nat) : Int) = 31 from rfl)) (by omega) (by omega) (by omega) (by omega)) (fun h26 => ?_) (fun h26 => ?_)
          · replace hP := zE_p hP h26
            have r27 := zM_f hZ23I 100 0 0 0
            have q28 := kZ23 100 0 0 0 (by decide)
            obtain ⟨m2, rfl⟩ : ∃ m2, m = m2 + 1 := ⟨m - 1, by omega⟩
            exact wz_k1 ⟨m2, by omega, xM9 + 24304, Z23, (x4 + 1), (zconso rfl (zconso (zvo (rfl : i3 x1 = i3 x1)) (zconso rfl (zconso (zvo (rfl : i3 x3 = i3 x3)) (zconso (zvo (i3A (rfl : i3 x4 = i3 x4) (show (1 : Int32) = i3 1 from rfl))) (zconso rfl (zconso rfl rfl))))))), rfl, by omega, (zmt hZ23I rfl), hZ23K, hZ23U, by omega, by omega, by omega,  hP⟩
          · replace hP := zE_n hP h26
            obtain ⟨Z29, hZ29⟩ := zx (zu Z23 1 0 0 31 v24)
            replace hP := zl_e hP hZ29
            have hZ29I := zM_u hZ23I hZ29 (lo := -2147483648) (hi := 2147483647) (by decide) rfl (by omega) ⟨by decide, by decide⟩ (Or.inr (by decide)) rfl
            have hZ29U : zU [] Zs Z29 := zU_u hZ23U hZ29 (Or.inl rfl)
            have hZ29K : zC [1, 2, 1200] Zs Z29 := zC_u hZ23K hZ29 (by decide)
            intro μ9 e9
            replace e9 := e9.trans (zm_wI (Z := Z23) (ν := ν) hZ29 (show ((0 : Nat) : Int) = 0 from rfl) (show ((0 : Nat) : Int) = 0 from rfl) (show ((31 : Nat) : Int) = 31 from rfl) (rfl : i3 v24 = i3 v24))
            subst e9
            obtain ⟨Z30, hZ30⟩ := zx (zu Z29 1 0 0 32 (770 + ((x4 % x3) + 1)))
            replace hP := zl_e hP hZ30
            have hZ30I := zM_u hZ29I hZ30 (lo := -2147483648) (hi := 2147483647) (by decide) rfl (by omega) ⟨by decide, by decide⟩ (Or.inr (by decide)) rfl
            have hZ30U : zU [] Zs Z30 := zU_u hZ29U hZ30 (Or.inl rfl)
            have hZ30K : zC [1, 2, 1200] Zs Z30 := zC_u hZ29K hZ30 (by decide)
            intro μ9 e9
            replace e9 := e9.trans (zm_wI (Z := Z29) (ν := ν) hZ30 (show ((0 : Nat) : Int) = 0 from rfl) (show ((0 : Nat) : Int) = 0 from rfl) (show ((32 : Nat) : Int) = 32 from rfl) (i3A (show (770 : Int32) = i3 770 from rfl) (i3A (i3R (rfl : i3 x4 = i3 x4) (rfl : i3 x3 = i3 x3) (by omega) (by omega) (by omega) (by omega)) (show (1 : Int32) = i3 1 from rfl))))
            subst e9
            have r31 := zM_f hZ30I 100 0 0 0
            have q32 := (zu_ne (k' := 100) (b' := 0) (i' := 0) (j' := 0) hZ30 (fun q => absurd q.1 (by decide))).trans ((zu_ne (k' := 100) (b' := 0) (i' := 0) (j' := 0) hZ29 (fun q => absurd q.1 (by decide))).trans (kZ23 100 0 0 0 (by decide)))
            obtain ⟨m2, rfl⟩ : ∃ m2, m = m2 + 1 := ⟨m - 1, by omega⟩
            exact wz_k1 ⟨m2, by omega, xM9 + 24304, Z30, (x4 + 1), (zconso rfl (zconso (zvo (rfl : i3 x1 = i3 x1)) (zconso rfl (zconso (zvo (rfl : i3 x3 = i3 x3)) (zconso (zvo (i3A (rfl : i3 x4 = i3 x4) (show (1 : Int32) = i3 1 from rfl))) (zconso rfl (zconso rfl rfl))))))), rfl, by omega, (zmt hZ30I rfl), hZ30K, hZ30U, by omega, by omega, by omega,  hP⟩
      · replace hP := zE_n hP h10
        refine wz_i0 (i3N0 (rfl : i3 x3 = i3 x3) (by omega) (by omega) (by omega)) ?_
        have r33 := z_mod x4 (y := x3) (by omega)
        refine wz_br (i3Le (zm_rd (Z := Z) (ν := ν) (k := 2) (show ((0 : Nat) : Int) = 0 from rfl) (show ((0 : Nat) : Int) = 0 from rfl) (show ((1200 : Nat) : Int) = 1200 from rfl)) (i3R (rfl : i3 x4 = i3 x4) (rfl : i3 x3 = i3 x3) (by omega) (by omega) (by omega) (by omega)) (by omega) (by omega) (by omega) (by omega)) (fun h34 => ?_) (fun h34 => ?_)
        · replace hP := zE_p hP h34
          obtain ⟨Z35, v36, hv36, c9, hZ35I, kZ35, jZ35, lv36, uv36⟩ := sp_369 (ν := ν) hZ (a1 := x1) (by omega) (a2 := ((700 + (10 * (((x4 / x3) % x3) + 1))) + 7)) (by omega) (by omega) (zbh (c := 0) (k := 24304) hM9 (Nat.le_of_ble_eq_true rfl))
          have hZ35U : zU [] Zs Z35 := zU_t hU jZ35 zU_b0
          have hZ35K : zC [1, 2, 1200] Zs Z35 := zC_t hK kZ35 (by decide)
          replace hP := zl_e2 hP hv36
          refine wz_cI_of (zas (zcons rfl (zcons (zvi (rfl : i3 x1 = i3 x1)) (zcons (zvi (i3A (i3A (show (700 : Int32) = i3 700 from rfl) (i3M (show (10 : Int32) = i3 10 from rfl) (i3A (i3R (i3D (rfl : i3 x4 = i3 x4) (rfl : i3 x3 = i3 x3) (by omega) (by omega) (by omega) (by omega)) (rfl : i3 x3 = i3 x3) (by omega) (by omega) (by omega) (by omega)) (show (1 : Int32) = i3 1 from rfl)))) (show (7 : Int32) = i3 7 from rfl))) rfl))) c9) ?_
          clear c9 hv36
          have r37 := zM_f hZ35I 1 0 0 31
          refine wz_br (i3Le (rfl : i3 v36 = i3 v36) (zm_rd (Z := Z35) (ν := ν) (k := 1) (show ((0 : Nat) : Int) = 0 from rfl) (show ((0 : Nat) : Int) = 0 from rfl) (show ((31 : Nat) : Int) = 31 from rfl)) (by omega) (by omega) (by omega) (by omega)) (fun h38 => ?_) (fun h38 => ?_)
          · replace hP := zE_p hP h38
            have r39 := zM_f hZ35I 100 0 0 0
            have q40 := kZ35 100 0 0 0 (by decide)
            obtain ⟨m2, rfl⟩ : ∃ m2, m = m2 + 1 := ⟨m - 1, by omega⟩
            exact wz_k1 ⟨m2, by omega, xM9 + 24304, Z35, (x4 + 1), (zconso rfl (zconso (zvo (rfl : i3 x1 = i3 x1)) (zconso rfl (zconso (zvo (rfl : i3 x3 = i3 x3)) (zconso (zvo (i3A (rfl : i3 x4 = i3 x4) (show (1 : Int32) = i3 1 from rfl))) (zconso rfl (zconso rfl rfl))))))), rfl, by omega, (zmt hZ35I rfl), hZ35K, hZ35U, by omega, by omega, by omega,  hP⟩
          · replace hP := zE_n hP h38
            obtain ⟨Z41, hZ41⟩ := zx (zu Z35 1 0 0 31 v36)
            replace hP := zl_e hP hZ41
            have hZ41I := zM_u hZ35I hZ41 (lo := -2147483648) (hi := 2147483647) (by decide) rfl (by omega) ⟨by decide, by decide⟩ (Or.inr (by decide)) rfl
            have hZ41U : zU [] Zs Z41 := zU_u hZ35U hZ41 (Or.inl rfl)
            have hZ41K : zC [1, 2, 1200] Zs Z41 := zC_u hZ35K hZ41 (by decide)
            intro μ9 e9
            replace e9 := e9.trans (zm_wI (Z := Z35) (ν := ν) hZ41 (show ((0 : Nat) : Int) = 0 from rfl) (show ((0 : Nat) : Int) = 0 from rfl) (show ((31 : Nat) : Int) = 31 from rfl) (rfl : i3 v36 = i3 v36))
            subst e9
            obtain ⟨Z42, hZ42⟩ := zx (zu Z41 1 0 0 32 ((700 + (10 * (((x4 / x3) % x3) + 1))) + 7))
            replace hP := zl_e hP hZ42
            have hZ42I := zM_u hZ41I hZ42 (lo := -2147483648) (hi := 2147483647) (by decide) rfl (by omega) ⟨by decide, by decide⟩ (Or.inr (by decide)) rfl
            have hZ42U : zU [] Zs Z42 := zU_u hZ41U hZ42 (Or.inl rfl)
            have hZ42K : zC [1, 2, 1200] Zs Z42 := zC_u hZ41K hZ42 (by decide)
            intro μ9 e9
            replace e9 := e9.trans (zm_wI (Z := Z41) (ν := ν) hZ42 (show ((0 : Nat) : Int) = 0 from rfl) (show ((0 : Nat) : Int) = 0 from rfl) (show ((32 : Nat) : Int) = 32 from rfl) (i3A (i3A (show (700 : Int32) = i3 700 from rfl) (i3M (show (10 : Int32) = i3 10 from rfl) (i3A (i3R (i3D (rfl : i3 x4 = i3 x4) (rfl : i3 x3 = i3 x3) (by omega) (by omega) (by omega) (by omega)) (rfl : i3 x3 = i3 x3) (by omega) (by omega) (by omega) (by omega)) (show (1 : Int32) = i3 1 from rfl)))) (show (7 : Int32) = i3 7 from rfl)))
            subst e9
            have r43 := zM_f hZ42I 100 0 0 0
            have q44 := (zu_ne (k' := 100) (b' := 0) (i' := 0) (j' := 0) hZ42 (fun q => absurd q.1 (by decide))).trans ((zu_ne (k' := 100) (b' := 0) (i' := 0) (j' := 0) hZ41 (fun q => absurd q.1 (by decide))).trans (kZ35 100 0 0 0 (by decide)))
            obtain ⟨m2, rfl⟩ : ∃ m2, m = m2 + 1 := ⟨m - 1, by omega⟩
            exact wz_k1 ⟨m2, by omega, xM9 + 24304, Z42, (x4 + 1), (zconso rfl (zconso (zvo (rfl : i3 x1 = i3 x1)) (zconso rfl (zconso (zvo (rfl : i3 x3 = i3 x3)) (zconso (zvo (i3A (rfl : i3 x4 = i3 x4) (show (1 : Int32) = i3 1 from rfl))) (zconso rfl (zconso rfl rfl))))))), rfl, by omega, (zmt hZ42I rfl), hZ42K, hZ42U, by omega, by omega, by omega,  hP⟩
        · replace hP := zE_n hP h34
          obtain ⟨Z45, v46, hv46, c9, hZ45I, kZ45, jZ45, lv46, uv46⟩ := sp_369 (ν := ν) hZ (a1 := x1) (by omega) (a2 := ((700 + (10 * (((x4 / x3) % x3) + 1))) + ((x4 % x3) + 1))) (by omega) (by omega) (zbh (c := 0) (k := 24304) hM9 (Nat.le_of_ble_eq_true rfl))
          have hZ45U : zU [] Zs Z45 := zU_t hU jZ45 zU_b0
          have hZ45K : zC [1, 2, 1200] Zs Z45 := zC_t hK kZ45 (by decide)
          replace hP := zl_e2 hP hv46
          refine wz_cI_of (zas (zcons rfl (zcons (zvi (rfl : i3 x1 = i3 x1)) (zcons (zvi (i3A (i3A (show (700 : Int32) = i3 700 from rfl) (i3M (show (10 : Int32) = i3 10 from rfl) (i3A (i3R (i3D (rfl : i3 x4 = i3 x4) (rfl : i3 x3 = i3 x3) (by omega) (by omega) (by omega) (by omega)) (rfl : i3 x3 = i3 x3) (by omega) (by omega) (by omega) (by omega)) (show (1 : Int32) = i3 1 from rfl)))) (i3A (i3R (rfl : i3 x4 = i3 x4) (rfl : i3 x3 = i3 x3) (by omega) (by omega) (by omega) (by omega)) (show (1 : Int32) = i3 1 from rfl)))) rfl))) c9) ?_
          clear c9 hv46
          have r47 := zM_f hZ45I 1 0 0 31
          refine wz_br (i3Le (rfl : i3 v46 = i3 v46) (zm_rd (Z := Z45) (ν := ν) (k := 1) (show ((0 : Nat) : Int) = 0 from rfl) (show ((0 : Nat) : Int) = 0 from rfl) (show ((31 : Nat) : Int) = 31 from rfl)) (by omega) (by omega) (by omega) (by omega)) (fun h48 => ?_) (fun h48 => ?_)
          · replace hP := zE_p hP h48
            have r49 := zM_f hZ45I 100 0 0 0
            have q50 := kZ45 100 0 0 0 (by decide)
            obtain ⟨m2, rfl⟩ : ∃ m2, m = m2 + 1 := ⟨m - 1, by omega⟩
            exact wz_k1 ⟨m2, by omega, xM9 + 24304, Z45, (x4 + 1), (zconso rfl (zconso (zvo (rfl : i3 x1 = i3 x1)) (zconso rfl (zconso (zvo (rfl : i3 x3 = i3 x3)) (zconso (zvo (i3A (rfl : i3 x4 = i3 x4) (show (1 : Int32) = i3 1 from rfl))) (zconso rfl (zconso rfl rfl))))))), rfl, by omega, (zmt hZ45I rfl), hZ45K, hZ45U, by omega, by omega, by omega,  hP⟩
          · replace hP := zE_n hP h48
            obtain ⟨Z51, hZ51⟩ := zx (zu Z45 1 0 0 31 v46)
            replace hP := zl_e hP hZ51
            have hZ51I := zM_u hZ45I hZ51 (lo := -2147483648) (hi := 2147483647) (by decide) rfl (by omega) ⟨by decide, by decide⟩ (Or.inr (by decide)) rfl
            have hZ51U : zU [] Zs Z51 := zU_u hZ45U hZ51 (Or.inl rfl)
            have hZ51K : zC [1, 2, 1200] Zs Z51 := zC_u hZ45K hZ51 (by decide)
            intro μ9 e9
            replace e9 := e9.trans (zm_wI (Z := Z45) (ν := ν) hZ51 (show ((0 : Nat) : Int) = 0 from rfl) (show ((0 : Nat) : Int) = 0 from rfl) (show ((31 : Nat) : Int) = 31 from rfl) (rfl : i3 v46 = i3 v46))
            subst e9
            obtain ⟨Z52, hZ52⟩ := zx (zu Z51 1 0 0 32 ((700 + (10 * (((x4 / x3) % x3) + 1))) + ((x4 % x3) + 1)))
            replace hP := zl_e hP hZ52
            have hZ52I := zM_u hZ51I hZ52 (lo := -2147483648) (hi := 2147483647) (by decide) rfl (by omega) ⟨by decide, by decide⟩ (Or.inr (by decide)) rfl
            have hZ52U : zU [] Zs Z52 := zU_u hZ51U hZ52 (Or.inl rfl)
            have hZ52K : zC [1, 2, 1200] Zs Z52 := zC_u hZ51K hZ52 (by decide)
            intro μ9 e9
            replace e9 := e9.trans (zm_wI (Z := Z51) (ν := ν) hZ52 (show ((0 : Nat) : Int) = 0 from rfl) (show ((0 : Nat) : Int) = 0 from rfl) (show ((32 : Nat) : Int) = 32 from rfl) (i3A (i3A (show (700 : Int32) = i3 700 from rfl) (i3M (show (10 : Int32) = i3 10 from rfl) (i3A (i3R (i3D (rfl : i3 x4 = i3 x4) (rfl : i3 x3 = i3 x3) (by omega) (by omega) (by omega) (by omega)) (rfl : i3 x3 = i3 x3) (by omega) (by omega) (by omega) (by omega)) (show (1 : Int32) = i3 1 from rfl)))) (i3A (i3R (rfl : i3 x4 = i3 x4) (rfl : i3 x3 = i3 x3) (by omega) (by omega) (by omega) (by omega)) (show (1 : Int32) = i3 1 from rfl))))
            subst e9
            have r53 := zM_f hZ52I 100 0 0 0
            have q54 := (zu_ne (k' := 100) (b' := 0) (i' := 0) (j' := 0) hZ52 (fun q => absurd q.1 (by decide))).trans ((zu_ne (k' := 100) (b' := 0) (i' := 0) (j' := 0) hZ51 (fun q => absurd q.1 (by decide))).trans (kZ45 100 0 0 0 (by decide)))
            obtain ⟨m2, rfl⟩ : ∃ m2, m = m2 + 1 := ⟨m - 1, by omega⟩
            exact wz_k1 ⟨m2, by omega, xM9 + 24304, Z52, (x4 + 1), (zconso rfl (zconso (zvo (rfl : i3 x1 = i3 x1)) (zconso rfl (zconso (zvo (rfl : i3 x3 = i3 x3)) (zconso (zvo (i3A (rfl : i3 x4 = i3 x4) (show (1 : Int32) = i3 1 from rfl))) (zconso rfl (zconso rfl rfl))))))), rfl, by omega, (zmt hZ52I rfl), hZ52K, hZ52U, by omega, by omega, by omega,  hP⟩
    · replace hP := zE_n hP h8
      refine wz_i0 (i3N0 (rfl : i3 x3 = i3 x3) (by omega) (by omega) (by omega)) ?_
      refine wz_i0 (i3N0 (rfl : i3 x3 = i3 x3) (by omega) (by omega) (by omega)) ?_
      have r55 := z_mod (x4 / x3) (y := x3) (by omega)
      refine wz_br (i3Le (zm_rd (Z := Z) (ν := ν) (k := 2) (show ((0 : Nat) : Int) = 0 from rfl) (show ((0 : Nat) : Int) = 0 from rfl) (show ((1200 : Nat) : Int) = 1200 from rfl)) (i3R (i3D (rfl : i3 x4 = i3 x4) (rfl : i3 x3 = i3 x3) (by omega) (by omega) (by omega) (by omega)) (rfl : i3 x3 = i3 x3) (by omega) (by omega) (by omega) (by omega)) (by omega) (by omega) (by omega) (by omega)) (fun h56 => ?_) (fun h56 => ?_)
      · replace hP := zE_p hP h56
        refine wz_i0 (i3N0 (rfl : i3 x3 = i3 x3) (by omega) (by omega) (by omega)) ?_
        have r57 := z_mod x4 (y := x3) (by omega)
        refine wz_br (i3Le (zm_rd (Z := Z) (ν := ν) (k := 2) (show ((0 : Nat) : Int) = 0 from rfl) (show ((0 : Nat) : Int) = 0 from rfl) (show ((1200 : Nat) : Int) = 1200 from rfl)) (i3R (rfl : i3 x4 = i3 x4) (rfl : i3 x3 = i3 x3) (by omega) (by omega) (by omega) (by omega)) (by omega) (by omega) (by omega) (by omega)) (fun h58 => ?_) (fun h58 => ?_)
        · replace hP := zE_p hP h58
          obtain ⟨Z59, v60, hv60, c9, hZ59I, kZ59, jZ59, lv60, uv60⟩ := sp_369 (ν := ν) hZ (a1 := x1) (by omega) (a2 := (((100 * (((x4 / x3) / x3) + 1)) + 70) + 7)) (by omega) (by omega) (zbh (c := 0) (k := 24304) hM9 (Nat.le_of_ble_eq_true rfl))
          have hZ59U : zU [] Zs Z59 := zU_t hU jZ59 zU_b0
          have hZ59K : zC [1, 2, 1200] Zs Z59 := zC_t hK kZ59 (by decide)
          replace hP := zl_e2 hP hv60
          refine wz_cI_of (zas (zcons rfl (zcons (zvi (rfl : i3 x1 = i3 x1)) (zcons (zvi (i3A (i3A (i3M (show (100 : Int32) = i3 100 from rfl) (i3A (i3D (i3D (rfl : i3 x4 = i3 x4) (rfl : i3 x3 = i3 x3) (by omega) (by omega) (by omega) (by omega)) (rfl : i3 x3 = i3 x3) (by omega) (by omega) (by omega) (by omega)) (show (1 : Int32) = i3 1 from rfl))) (show (70 : Int32) = i3 70 from rfl)) (show (7 : Int32) = i3 7 from rfl))) rfl))) c9) ?_
          clear c9 hv60
          have r61 := zM_f hZ59I 1 0 0 31
          refine wz_br (i3Le (rfl : i3 v60 = i3 v60) (zm_rd (Z := Z59) (ν := ν) (k := 1) (show ((0 : Nat) : Int) = 0 from rfl) (show ((0 : Nat) : Int) = 0 from rfl) (show ((31 : Nat) : Int) = 31 from rfl)) (by omega) (by omega) (by omega) (by omega)) (fun h62 => ?_) (fun h62 => ?_)
          · replace hP := zE_p hP h62
            have r63 := zM_f hZ59I 100 0 0 0
            have q64 := kZ59 100 0 0 0 (by decide)
            obtain ⟨m2, rfl⟩ : ∃ m2, m = m2 + 1 := ⟨m - 1, by omega⟩
            exact wz_k1 ⟨m2, by omega, xM9 + 24304, Z59, (x4 + 1), (zconso rfl (zconso (zvo (rfl : i3 x1 = i3 x1)) (zconso rfl (zconso (zvo (rfl : i3 x3 = i3 x3)) (zconso (zvo (i3A (rfl : i3 x4 = i3 x4) (show (1 : Int32) = i3 1 from rfl))) (zconso rfl (zconso rfl rfl))))))), rfl, by omega, (zmt hZ59I rfl), hZ59K, hZ59U, by omega, by omega, by omega,  hP⟩
          · replace hP := zE_n hP h62
            obtain ⟨Z65, hZ65⟩ := zx (zu Z59 1 0 0 31 v60)
            replace hP := zl_e hP hZ65
            have hZ65I := zM_u hZ59I hZ65 (lo := -2147483648) (hi := 2147483647) (by decide) rfl (by omega) ⟨by decide, by decide⟩ (Or.inr (by decide)) rfl
            have hZ65U : zU [] Zs Z65 := zU_u hZ59U hZ65 (Or.inl rfl)
            have hZ65K : zC [1, 2, 1200] Zs Z65 := zC_u hZ59K hZ65 (by decide)
            intro μ9 e9
            replace e9 := e9.trans (zm_wI (Z := Z59) (ν := ν) hZ65 (show ((0 : Nat) : Int) = 0 from rfl) (show ((0 : Nat) : Int) = 0 from rfl) (show ((31 : Nat) : Int) = 31 from rfl) (rfl : i3 v60 = i3 v60))
            subst e9
            obtain ⟨Z66, hZ66⟩ := zx (zu Z65 1 0 0 32 (((100 * (((x4 / x3) / x3) + 1)) + 70) + 7))
            replace hP := zl_e hP hZ66
            have hZ66I := zM_u hZ65I hZ66 (lo := -2147483648) (hi := 2147483647) (by decide) rfl (by omega) ⟨by decide, by decide⟩ (Or.inr (by decide)) rfl
            have hZ66U : zU [] Zs Z66 := zU_u hZ65U hZ66 (Or.inl rfl)
            have hZ66K : zC [1, 2, 1200] Zs Z66 := zC_u hZ65K hZ66 (by decide)
            intro μ9 e9
            replace e9 := e9.trans (zm_wI (Z := Z65) (ν := ν) hZ66 (show ((0 : Nat) : Int) = 0 from rfl) (show ((0 : Nat) : Int) = 0 from rfl) (show ((32 : Nat) : Int) = 32 from rfl) (i3A (i3A (i3M (show (100 : Int32) = i3 100 from rfl) (i3A (i3D (i3D (rfl : i3 x4 = i3 x4) (rfl : i3 x3 = i3 x3) (by omega) (by omega) (by omega) (by omega)) (rfl : i3 x3 = i3 x3) (by omega) (by omega) (by omega) (by omega)) (show (1 : Int32) = i3 1 from rfl))) (show (70 : Int32) = i3 70 from rfl)) (show (7 : Int32) = i3 7 from rfl)))
            subst e9
            have r67 := zM_f hZ66I 100 0 0 0
            have q68 := (zu_ne (k' := 100) (b' := 0) (i' := 0) (j' := 0) hZ66 (fun q => absurd q.1 (by decide))).trans ((zu_ne (k' := 100) (b' := 0) (i' := 0) (j' := 0) hZ65 (fun q => absurd q.1 (by decide))).trans (kZ59 100 0 0 0 (by decide)))
            obtain ⟨m2, rfl⟩ : ∃ m2, m = m2 + 1 := ⟨m - 1, by omega⟩
            exact wz_k1 ⟨m2, by omega, xM9 + 24304, Z66, (x4 + 1), (zconso rfl (zconso (zvo (rfl : i3 x1 = i3 x1)) (zconso rfl (zconso (zvo (rfl : i3 x3 = i3 x3)) (zconso (zvo (i3A (rfl : i3 x4 = i3 x4) (show (1 : Int32) = i3 1 from rfl))) (zconso rfl (zconso rfl rfl))))))), rfl, by omega, (zmt hZ66I rfl), hZ66K, hZ66U, by omega, by omega, by omega,  hP⟩
        · replace hP := zE_n hP h58
          obtain ⟨Z69, v70, hv70, c9, hZ69I, kZ69, jZ69, lv70, uv70⟩ := sp_369 (ν := ν) hZ (a1 := x1) (by omega) (a2 := (((100 * (((x4 / x3) / x3) + 1)) + 70) + ((x4 % x3) + 1))) (by omega) (by omega) (zbh (c := 0) (k := 24304) hM9 (Nat.le_of_ble_eq_true rfl))
          have hZ69U : zU [] Zs Z69 := zU_t hU jZ69 zU_b0
          have hZ69K : zC [1, 2, 1200] Zs Z69 := zC_t hK kZ69 (by decide)
          replace hP := zl_e2 hP hv70
          refine wz_cI_of (zas (zcons rfl (zcons (zvi (rfl : i3 x1 = i3 x1)) (zcons (zvi (i3A (i3A (i3M (show (100 : Int32) = i3 100 from rfl) (i3A (i3D (i3D (rfl : i3 x4 = i3 x4) (rfl : i3 x3 = i3 x3) (by omega) (by omega) (by omega) (by omega)) (rfl : i3 x3 = i3 x3) (by omega) (by omega) (by omega) (by omega)) (show (1 : Int32) = i3 1 from rfl))) (show (70 : Int32) = i3 70 from rfl)) (i3A (i3R (rfl : i3 x4 = i3 x4) (rfl : i3 x3 = i3 x3) (by omega) (by omega) (by omega) (by omega)) (show (1 : Int32) = i3 1 from rfl)))) rfl))) c9) ?_
          clear c9 hv70
          have r71 := zM_f hZ69I 1 0 0 31
          refine wz_br (i3Le (rfl : i3 v70 = i3 v70) (zm_rd (Z := Z69) (ν := ν) (k := 1) (show ((0 : Nat) : Int) = 0 from rfl) (show ((0 : Nat) : Int) = 0 from rfl) (show ((31 : Nat) : Int) = 31 from rfl)) (by omega) (by omega) (by omega) (by omega)) (fun h72 => ?_) (fun h72 => ?_)
          · replace hP := zE_p hP h72
            have r73 := zM_f hZ69I 100 0 0 0
            have q74 := kZ69 100 0 0 0 (by decide)
            obtain ⟨m2, rfl⟩ : ∃ m2, m = m2 + 1 := ⟨m - 1, by omega⟩
            exact wz_k1 ⟨m2, by omega, xM9 + 24304, Z69, (x4 + 1), (zconso rfl (zconso (zvo (rfl : i3 x1 = i3 x1)) (zconso rfl (zconso (zvo (rfl : i3 x3 = i3 x3)) (zconso (zvo (i3A (rfl : i3 x4 = i3 x4) (show (1 : Int32) = i3 1 from rfl))) (zconso rfl (zconso rfl rfl))))))), rfl, by omega, (zmt hZ69I rfl), hZ69K, hZ69U, by omega, by omega, by omega,  hP⟩
          · replace hP := zE_n hP h72
            obtain ⟨Z75, hZ75⟩ := zx (zu Z69 1 0 0 31 v70)
            replace hP := zl_e hP hZ75
            have hZ75I := zM_u hZ69I hZ75 (lo := -2147483648) (hi := 2147483647) (by decide) rfl (by omega) ⟨by decide, by decide⟩ (Or.inr (by decide)) rfl
            have hZ75U : zU [] Zs Z75 := zU_u hZ69U hZ75 (Or.inl rfl)
            have hZ75K : zC [1, 2, 1200] Zs Z75 := zC_u hZ69K hZ75 (by decide)
            intro μ9 e9
            replace e9 := e9.trans (zm_wI (Z := Z69) (ν := ν) hZ75 (show ((0 : Nat) : Int) = 0 from rfl) (show ((0 : Nat) : Int) = 0 from rfl) (show ((31 : Nat) : Int) = 31 from rfl) (rfl : i3 v70 = i3 v70))
            subst e9
            obtain ⟨Z76, hZ76⟩ := zx (zu Z75 1 0 0 32 (((100 * (((x4 / x3) / x3) + 1)) + 70) + ((x4 % x3) + 1)))
            replace hP := zl_e hP hZ76
            have hZ76I := zM_u hZ75I hZ76 (lo := -2147483648) (hi := 2147483647) (by decide) rfl (by omega) ⟨by decide, by decide⟩ (Or.inr (by decide)) rfl
            have hZ76U : zU [] Zs Z76 := zU_u hZ75U hZ76 (Or.inl rfl)
            have hZ76K : zC [1, 2, 1200] Zs Z76 := zC_u hZ75K hZ76 (by decide)
            intro μ9 e9
            replace e9 := e9.trans (zm_wI (Z := Z75) (ν := ν) hZ76 (show ((0 : Nat) : Int) = 0 from rfl) (show ((0 : Nat) : Int) = 0 from rfl) (show ((32 : Nat) : Int) = 32 from rfl) (i3A (i3A (i3M (show (100 : Int32) = i3 100 from rfl) (i3A (i3D (i3D (rfl : i3 x4 = i3 x4) (rfl : i3 x3 = i3 x3) (by omega) (by omega) (by omega) (by omega)) (rfl : i3 x3 = i3 x3) (by omega) (by omega) (by omega) (by omega)) (show (1 : Int32) = i3 1 from rfl))) (show (70 : Int32) = i3 70 from rfl)) (i3A (i3R (rfl : i3 x4 = i3 x4) (rfl : i3 x3 = i3 x3) (by omega) (by omega) (by omega) (by omega)) (show (1 : Int32) = i3 1 from rfl))))
            subst e9
            have r77 := zM_f hZ76I 100 0 0 0
            have q78 := (zu_ne (k' := 100) (b' := 0) (i' := 0) (j' := 0) hZ76 (fun q => absurd q.1 (by decide))).trans ((zu_ne (k' := 100) (b' := 0) (i' := 0) (j' := 0) hZ75 (fun q => absurd q.1 (by decide))).trans (kZ69 100 0 0 0 (by decide)))
            obtain ⟨m2, rfl⟩ : ∃ m2, m = m2 + 1 := ⟨m - 1, by omega⟩
            exact wz_k1 ⟨m2, by omega, xM9 + 24304, Z76, (x4 + 1), (zconso rfl (zconso (zvo (rfl : i3 x1 = i3 x1)) (zconso rfl (zconso (zvo (rfl : i3 x3 = i3 x3)) (zconso (zvo (i3A (rfl : i3 x4 = i3 x4) (show (1 : Int32) = i3 1 from rfl))) (zconso rfl (zconso rfl rfl))))))), rfl, by omega, (zmt hZ76I rfl), hZ76K, hZ76U, by omega, by omega, by omega,  hP⟩
      · replace hP := zE_n hP h56
        refine wz_i0 (i3N0 (rfl : i3 x3 = i3 x3) (by omega) (by omega) (by omega)) ?_
        have r79 := z_mod x4 (y := x3) (by omega)
        refine wz_br (i3Le (zm_rd (Z := Z) (ν := ν) (k := 2) (show ((0 : Nat) : Int) = 0 from rfl) (show ((0 : Nat) : Int) = 0 from rfl) (show ((1200 : Nat) : Int) = 1200 from rfl)) (i3R (rfl : i3 x4 = i3 x4) (rfl : i3 x3 = i3 x3) (by omega) (by omega) (by omega) (by omega)) (by omega) (by omega) (by omega) (by omega)) (fun h80 => ?_) (fun h80 => ?_)
        · replace hP := zE_p hP h80
          obtain ⟨Z81, v82, hv82, c9, hZ81I, kZ81, jZ81, lv82, uv82⟩ := sp_369 (ν := ν) hZ (a1 := x1) (by omega) (a2 := (((100 * (((x4 / x3) / x3) + 1)) + (10 * (((x4 / x3) % x3) + 1))) + 7)) (by omega) (by omega) (zbh (c := 0) (k := 24304) hM9 (Nat.le_of_ble_eq_true rfl))
          have hZ81U : zU [] Zs Z81 := zU_t hU jZ81 zU_b0
          have hZ81K : zC [1, 2, 1200] Zs Z81 := zC_t hK kZ81 (by decide)
          replace hP := zl_e2 hP hv82
          refine wz_cI_of (zas (zcons rfl (zcons (zvi (rfl : i3 x1 = i3 x1)) (zcons (zvi (i3A (i3A (i3M (show (100 : Int32) = i3 100 from rfl) (i3A (i3D (i3D (rfl : i3 x4 = i3 x4) (rfl : i3 x3 = i3 x3) (by omega) (by omega) (by omega) (by omega)) (rfl : i3 x3 = i3 x3) (by omega) (by omega) (by omega) (by omega)) (show (1 : Int32) = i3 1 from rfl))) (i3M (show (10 : Int32) = i3 10 from rfl) (i3A (i3R (i3D (rfl : i3 x4 = i3 x4) (rfl : i3 x3 = i3 x3) (by omega) (by omega) (by omega) (by omega)) (rfl : i3 x3 = i3 x3) (by omega) (by omega) (by omega) (by omega)) (show (1 : Int32) = i3 1 from rfl)))) (show (7 : Int32) = i3 7 from rfl))) rfl))) c9) ?_
          clear c9 hv82
          have r83 := zM_f hZ81I 1 0 0 31
          refine wz_br (i3Le (rfl : i3 v82 = i3 v82) (zm_rd (Z := Z81) (ν := ν) (k := 1) (show ((0 : Nat) : Int) = 0 from rfl) (show ((0 : Nat) : Int) = 0 from rfl) (show ((31 : Nat) : Int) = 31 from rfl)) (by omega) (by omega) (by omega) (by omega)) (fun h84 => ?_) (fun h84 => ?_)
          · replace hP := zE_p hP h84
            have r85 := zM_f hZ81I 100 0 0 0
            have q86 := kZ81 100 0 0 0 (by decide)
            obtain ⟨m2, rfl⟩ : ∃ m2, m = m2 + 1 := ⟨m - 1, by omega⟩
            exact wz_k1 ⟨m2, by omega, xM9 + 24304, Z81, (x4 + 1), (zconso rfl (zconso (zvo (rfl : i3 x1 = i3 x1)) (zconso rfl (zconso (zvo (rfl : i3 x3 = i3 x3)) (zconso (zvo (i3A (rfl : i3 x4 = i3 x4) (show (1 : Int32) = i3 1 from rfl))) (zconso rfl (zconso rfl rfl))))))), rfl, by omega, (zmt hZ81I rfl), hZ81K, hZ81U, by omega, by omega, by omega,  hP⟩
          · replace hP := zE_n hP h84
            obtain ⟨Z87, hZ87⟩ := zx (zu Z81 1 0 0 31 v82)
            replace hP := zl_e hP hZ87
            have hZ87I := zM_u hZ81I hZ87 (lo := -2147483648) (hi := 2147483647) (by decide) rfl (by omega) ⟨by decide, by decide⟩ (Or.inr (by decide)) rfl
            have hZ87U : zU [] Zs Z87 := zU_u hZ81U hZ87 (Or.inl rfl)
            have hZ87K : zC [1, 2, 1200] Zs Z87 := zC_u hZ81K hZ87 (by decide)
            intro μ9 e9
            replace e9 := e9.trans (zm_wI (Z := Z81) (ν := ν) hZ87 (show ((0 : Nat) : Int) = 0 from rfl) (show ((0 : Nat) : Int) = 0 from rfl) (show ((31 : Nat) : Int) = 31 from rfl) (rfl : i3 v82 = i3 v82))
            subst e9
            obtain ⟨Z88, hZ88⟩ := zx (zu Z87 1 0 0 32 (((100 * (((x4 / x3) / x3) + 1)) + (10 * (((x4 / x3) % x3) + 1))) + 7))
            replace hP := zl_e hP hZ88
            have hZ88I := zM_u hZ87I hZ88 (lo := -2147483648) (hi := 2147483647) (by decide) rfl (by omega) ⟨by decide, by decide⟩ (Or.inr (by decide)) rfl
            have hZ88U : zU [] Zs Z88 := zU_u hZ87U hZ88 (Or.inl rfl)
            have hZ88K : zC [1, 2, 1200] Zs Z88 := zC_u hZ87K hZ88 (by decide)
            intro μ9 e9
            replace e9 := e9.trans (zm_wI (Z := Z87) (ν := ν) hZ88 (show ((0 : Nat) : Int) = 0 from rfl) (show ((0 : Nat) : Int) = 0 from rfl) (show ((32 : Nat) : Int) = 32 from rfl) (i3A (i3A (i3M (show (100 : Int32) = i3 100 from rfl) (i3A (i3D (i3D (rfl : i3 x4 = i3 x4) (rfl : i3 x3 = i3 x3) (by omega) (by omega) (by omega) (by omega)) (rfl : i3 x3 = i3 x3) (by omega) (by omega) (by omega) (by omega)) (show (1 : Int32) = i3 1 from rfl))) (i3M (show (10 : Int32) = i3 10 from rfl) (i3A (i3R (i3D (rfl : i3 x4 = i3 x4) (rfl : i3 x3 = i3 x3) (by omega) (by omega) (by omega) (by omega)) (rfl : i3 x3 = i3 x3) (by omega) (by omega) (by omega) (by omega)) (show (1 : Int32) = i3 1 from rfl)))) (show (7 : Int32) = i3 7 from rfl)))
            subst e9
            have r89 := zM_f hZ88I 100 0 0 0
            have q90 := (zu_ne (k' := 100) (b' := 0) (i' := 0) (j' := 0) hZ88 (fun q => absurd q.1 (by decide))).trans ((zu_ne (k' := 100) (b' := 0) (i' := 0) (j' := 0) hZ87 (fun q => absurd q.1 (by decide))).trans (kZ81 100 0 0 0 (by decide)))
            obtain ⟨m2, rfl⟩ : ∃ m2, m = m2 + 1 := ⟨m - 1, by omega⟩
            exact wz_k1 ⟨m2, by omega, xM9 + 24304, Z88, (x4 + 1), (zconso rfl (zconso (zvo (rfl : i3 x1 = i3 x1)) (zconso rfl (zconso (zvo (rfl : i3 x3 = i3 x3)) (zconso (zvo (i3A (rfl : i3 x4 = i3 x4) (show (1 : Int32) = i3 1 from rfl))) (zconso rfl (zconso rfl rfl))))))), rfl, by omega, (zmt hZ88I rfl), hZ88K, hZ88U, by omega, by omega, by omega,  hP⟩
        · replace hP := zE_n hP h80
          obtain ⟨Z91, v92, hv92, c9, hZ91I, kZ91, jZ91, lv92, uv92⟩ := sp_369 (ν := ν) hZ (a1 := x1) (by omega) (a2 := (((100 * (((x4 / x3) / x3) + 1)) + (10 * (((x4 / x3) % x3) + 1))) + ((x4 % x3) + 1))) (by omega) (by omega) (zbh (c := 0) (k := 24304) hM9 (Nat.le_of_ble_eq_true rfl))
          have hZ91U : zU [] Zs Z91 := zU_t hU jZ91 zU_b0
          have hZ91K : zC [1, 2, 1200] Zs Z91 := zC_t hK kZ91 (by decide)
          replace hP := zl_e2 hP hv92
          refine wz_cI_of (zas (zcons rfl (zcons (zvi (rfl : i3 x1 = i3 x1)) (zcons (zvi (i3A (i3A (i3M (show (100 : Int32) = i3 100 from rfl) (i3A (i3D (i3D (rfl : i3 x4 = i3 x4) (rfl : i3 x3 = i3 x3) (by omega) (by omega) (by omega) (by omega)) (rfl : i3 x3 = i3 x3) (by omega) (by omega) (by omega) (by omega)) (show (1 : Int32) = i3 1 from rfl))) (i3M (show (10 : Int32) = i3 10 from rfl) (i3A (i3R (i3D (rfl : i3 x4 = i3 x4) (rfl : i3 x3 = i3 x3) (by omega) (by omega) (by omega) (by omega)) (rfl : i3 x3 = i3 x3) (by omega) (by omega) (by omega) (by omega)) (show (1 : Int32) = i3 1 from rfl)))) (i3A (i3R (rfl : i3 x4 = i3 x4) (rfl : i3 x3 = i3 x3) (by omega) (by omega) (by omega) (by omega)) (show (1 : Int32) = i3 1 from rfl)))) rfl))) c9) ?_
          clear c9 hv92
          have r93 := zM_f hZ91I 1 0 0 31
          refine wz_br (i3Le (rfl : i3 v92 = i3 v92) (zm_rd (Z := Z91) (ν := ν) (k := 1) (show ((0 : Nat) : Int) = 0 from rfl) (show ((0 : Nat) : Int) = 0 from rfl) (show ((31 : Nat) : Int) = 31 from rfl)) (by omega) (by omega) (by omega) (by omega)) (fun h94 => ?_) (fun h94 => ?_)
          · replace hP := zE_p hP h94
            have r95 := zM_f hZ91I 100 0 0 0
            have q96 := kZ91 100 0 0 0 (by decide)
            obtain ⟨m2, rfl⟩ : ∃ m2, m = m2 + 1 := ⟨m - 1, by omega⟩
            exact wz_k1 ⟨m2, by omega, xM9 + 24304, Z91, (x4 + 1), (zconso rfl (zconso (zvo (rfl : i3 x1 = i3 x1)) (zconso rfl (zconso (zvo (rfl : i3 x3 = i3 x3)) (zconso (zvo (i3A (rfl : i3 x4 = i3 x4) (show (1 : Int32) = i3 1 from rfl))) (zconso rfl (zconso rfl rfl))))))), rfl, by omega, (zmt hZ91I rfl), hZ91K, hZ91U, by omega, by omega, by omega,  hP⟩
          · replace hP := zE_n hP h94
            obtain ⟨Z97, hZ97⟩ := zx (zu Z91 1 0 0 31 v92)
            replace hP := zl_e hP hZ97
            have hZ97I := zM_u hZ91I hZ97 (lo := -2147483648) (hi := 2147483647) (by decide) rfl (by omega) ⟨by decide, by decide⟩ (Or.inr (by decide)) rfl
            have hZ97U : zU [] Zs Z97 := zU_u hZ91U hZ97 (Or.inl rfl)
            have hZ97K : zC [1, 2, 1200] Zs Z97 := zC_u hZ91K hZ97 (by decide)
            intro μ9 e9
            replace e9 := e9.trans (zm_wI (Z := Z91) (ν := ν) hZ97 (show ((0 : Nat) : Int) = 0 from rfl) (show ((0 : Nat) : Int) = 0 from rfl) (show ((31 : Nat) : Int) = 31 from rfl) (rfl : i3 v92 = i3 v92))
            subst e9
            obtain ⟨Z98, hZ98⟩ := zx (zu Z97 1 0 0 32 (((100 * (((x4 / x3) / x3) + 1)) + (10 * (((x4 / x3) % x3) + 1))) + ((x4 % x3) + 1)))
            replace hP := zl_e hP hZ98
            have hZ98I := zM_u hZ97I hZ98 (lo := -2147483648) (hi := 2147483647) (by decide) rfl (by omega) ⟨by decide, by decide⟩ (Or.inr (by decide)) rfl
            have hZ98U : zU [] Zs Z98 := zU_u hZ97U hZ98 (Or.inl rfl)
            have hZ98K : zC [1, 2, 1200] Zs Z98 := zC_u hZ97K hZ98 (by decide)
            intro μ9 e9
            replace e9 := e9.trans (zm_wI (Z := Z97) (ν := ν) hZ98 (show ((0 : Nat) : Int) = 0 from rfl) (show ((0 : Nat) : Int) = 0 from rfl) (show ((32 : Nat) : Int) = 32 from rfl) (i3A (i3A (i3M (show (100 : Int32) = i3 100 from rfl) (i3A (i3D (i3D (rfl : i3 x4 = i3 x4) (rfl : i3 x3 = i3 x3) (by omega) (by omega) (by omega) (by omega)) (rfl : i3 x3 = i3 x3) (by omega) (by omega) (by omega) (by omega)) (show (1 : Int32) = i3 1 from rfl))) (i3M (show (10 : Int32) = i3 10 from rfl) (i3A (i3R (i3D (rfl : i3 x4 = i3 x4) (rfl : i3 x3 = i3 x3) (by omega) (by omega) (by omega) (by omega)) (rfl : i3 x3 = i3 x3) (by omega) (by omega) (by omega) (by omega)) (show (1 : Int32) = i3 1 from rfl)))) (i3A (i3R (rfl : i3 x4 = i3 x4) (rfl : i3 x3 = i3 x3) (by omega) (by omega) (by omega) (by omega)) (show (1 : Int32) = i3 1 from rfl))))
            subst e9
            have r99 := zM_f hZ98I 100 0 0 0
            have q100 := (zu_ne (k' := 100) (b' := 0) (i' := 0) (j' := 0) hZ98 (fun q => absurd q.1 (by decide))).trans ((zu_ne (k' := 100) (b' := 0) (i' := 0) (j' := 0) hZ97 (fun q => absurd q.1 (by decide))).trans (kZ91 100 0 0 0 (by decide)))
            obtain ⟨m2, rfl⟩ : ∃ m2, m = m2 + 1 := ⟨m - 1, by omega⟩
            exact wz_k1 ⟨m2, by omega, xM9 + 24304, Z98, (x4 + 1), (zconso rfl (zconso (zvo (rfl : i3 x1 = i3 x1)) (zconso rfl (zconso (zvo (rfl : i3 x3 = i3 x3)) (zconso (zvo (i3A (rfl : i3 x4 = i3 x4) (show (1 : Int32) = i3 1 from rfl))) (zconso rfl (zconso rfl rfl))))))), rfl, by omega, (zmt hZ98I rfl), hZ98K, hZ98U, by omega, by omega, by omega,  hP⟩
/- yX12_iFindMost -/
def zf_356 (Z : qz_Z) (a1 : Int) (a2 : Int) : qz_Z := (zlet (zf_351 Z 0) (fun Z2 => (zlet (zf_460 Z2 (((24 * a2) + (Z2 2 0 0 (3520 + 10 * a1))) - 1)) (fun Z4 => (zlet2 (zl_356_1 a1 4401 Z4 0) (fun Z9 y8 => (zlet (zu Z9 1 0 0 31 (-1)) (fun Z15 => (zlet2 (zl_356_2 a1 ((Z9 2 0 0 1200) + 1) 344 Z15 0) (fun Z18 y17 => (zlet (zf_493 Z18 0) (fun Z24 => Z24))))))))))))
theorem sp_356 {s : zSM} {Z : qz_Z} {ν : qz_N} (hZ : zM s Z) {a1 : Int} (ga1 : 0 ≤ a1 ∧ a1 ≤ 1) {a2 : Int} (ga2 : 0 ≤ a2 ∧ a2 ≤ 27) (gx0 : Z 2 0 0 0 ≤ 668) (hM : s.2 + 8360576 ≤ 1000000000) : ∃ P : qz_Z, P = zf_356 Z a1 a2 ∧ (qf_356 [.inr (.inr (some (1, 0, 0))), .inl (i3 a1), .inl (i3 a2)] (zm Z ν) = some (zm P ν, .inl none) ∧ zM (zb s 8360576) P ∧ zC [1, 2, 81, 100, 1200] Z P ∧ zU [] Z P) := by
  obtain ⟨P, hP⟩ := zx (zf_356 Z a1 a2)
  refine zc_V (Q := fun P => zM (zb s 8360576) P ∧ zC [1, 2, 81, 100, 1200] Z P ∧ zU [] Z P) hP (fw_356 (i3 a1) (i3 a2) _ _ ?_)
  replace hP : zE P (zf_356 Z a1 a2) := hP
  unfold zf_356 at hP
  have r1 := zM_k hZ 2 0 0 0 (lo := 0) (hi := 671) (by decide) rfl
  obtain ⟨Z2, hZ2, c9, hZ2I, kZ2, jZ2⟩ := sp_351 (ν := ν) hZ (a1 := 0) (by omega) (zbh (c := 0) (k := 0) hM (Nat.le_of_ble_eq_true rfl))
  have hZ2U : zU [] Z Z2 := zU_t zU_r jZ2 zU_b0
  have hZ2K : zC [1, 2, 81, 100, 1200] Z Z2 := zC_t zC_r kZ2 (by decide)
  replace hP := zl_e hP hZ2
  refine wz_cV_of (zas (zcons rfl (zcons (zvi (show (0 : Int32) = i3 0 from rfl)) rfl)) c9) ?_
  clear c9
  refine wz_i0 (i3O (n := 4400) (i3A (i3A (show (3520 : Int32) = i3 3520 from rfl) (i3M (show (10 : Int32) = i3 10 from rfl) (rfl : i3 a1 = i3 a1))) (show (0 : Int32) = i3 0 from rfl)) (by omega) (by omega) (by omega)) ?_
  have r3 := zM_k hZ2I 2 0 0 (3520 + 10 * a1) (lo := 0) (hi := 18) (by decide) (zs_3520_0 (x := a1) (by omega) (by omega) (by omega))
  obtain ⟨Z4, hZ4, c9, hZ4I, kZ4, jZ4, wZ40⟩ := sp_460 (ν := ν) hZ2I (a1 := (((24 * a2) + (Z2 2 0 0 (3520 + 10 * a1))) - 1)) (by omega) (zbh (c := 0) (k := 0) hM (Nat.le_of_ble_eq_true rfl))
  have hZ4U : zU [] Z Z4 := zU_t hZ2U jZ4 zU_b0
  have hZ4K : zC [1, 2, 81, 100, 1200] Z Z4 := zC_t hZ2K kZ4 (by decide)
  replace hP := zl_e hP hZ4
  refine wz_cV_of (zas (zcons rfl (zcons (zvi (i3S (i3A (i3M (show (24 : Int32) = i3 24 from rfl) (rfl : i3 a2 = i3 a2)) (zm_rd (Z := Z2) (ν := ν) (k := 2) (show ((0 : Nat) : Int) = 0 from rfl) (show ((0 : Nat) : Int) = 0 from rfl) (i3I (y := (3520 + 10 * a1)) (i3A (i3A (show (3520 : Int32) = i3 3520 from rfl) (i3M (show (10 : Int32) = i3 10 from rfl) (rfl : i3 a1 = i3 a1))) (show (0 : Int32) = i3 0 from rfl)) (by omega) (by omega) (by omega)))) (show (1 : Int32) = i3 1 from rfl))) rfl)) c9) ?_
  clear c9
  have r5 := zM_k hZ4I 2 0 0 0 (lo := 0) (hi := 671) (by decide) rfl
  have r6 := zM_k hZ2I 2 0 0 0 (lo := 0) (hi := 671) (by decide) rfl
  have q7 := kZ2 2 0 0 0 (by decide)
  have r10 := zM_f hZ4I 100 0 0 0
  refine sl_356_1 (ν := ν) hZ4I (zbh (c := 0) (k := 0) hM (Nat.le_of_ble_eq_true rfl)) zC_r (x1 := a1) (by omega) (x3 := 0) (by omega) zU_r (by omega) (by omega) (zconso rfl (zconso (zvo (rfl : i3 a1 = i3 a1)) (zconso rfl (zconso (zvo (show (0 : Int32) = i3 0 from rfl)) (zconso rfl (zconso rfl (zconso rfl rfl))))))) rfl ?_
  intro L11 Z9 y8 hL11 hZ9I kZ9 jZ9 gy8 gL11_0 gL11_1 q9
  replace hP := zl_e2 hP (Eq.symm q9)
  clear q9
  have hZ9U : zU [] Z Z9 := zU_t hZ4U jZ9 zU_b0
  have hZ9K : zC [1, 2, 81, 100, 1200] Z Z9 := zC_t hZ4K kZ9 (by decide)
  have r12 := zM_f hZ9I 100 0 0 0
  have r13 := zM_k hZ9I 2 0 0 0 (lo := 0) (hi := 671) (by decide) rfl
  have q14 := kZ9 2 0 0 0 (by decide)
  refine fc_356_4 (i3 a1) _ _ _ _ hL11 ?_
  obtain ⟨Z15, hZ15⟩ := zx (zu Z9 1 0 0 31 (-1))
  replace hP := zl_e hP hZ15
  have hZ15I := zM_u hZ9I hZ15 (lo := -2147483648) (hi := 2147483647) (by decide) rfl (by omega) ⟨by decide, by decide⟩ (Or.inr (by decide)) rfl
  have hZ15U : zU [] Z Z15 := zU_u hZ9U hZ15 (Or.inl rfl)
  have hZ15K : zC [1, 2, 81, 100, 1200] Z Z15 := zC_u hZ9K hZ15 (by decide)
  intro μ9 e9
  replace e9 := e9.trans (zm_wI (Z := Z9) (ν := ν) hZ15 (show ((0 : Nat) : Int) = 0 from rfl) (show ((0 : Nat) : Int) = 0 from rfl) (show ((31 : Nat) : Int) = 31 from rfl) (show (-1 : Int32) = i3 (-1) from rfl))
  subst e9
  have r16 := zM_k hZ9I 2 0 0 1200 (lo := 0) (hi := 6) (by decide) rfl
  have r19 := zM_f hZ15I 100 0 0 0
  have q20 := zu_ne (k' := 100) (b' := 0) (i' := 0) (j' := 0) hZ15 (fun q => absurd q.1 (by decide))
  refine sl_356_2 (ν := ν) (zm0 hZ15I) (zbh (c := 0) (k := 8360576) hM (Nat.le_of_ble_eq_true rfl)) (xM9 := 0) zC_r (x1 := a1) (by omega) (x3 := ((Z9 2 0 0 1200) + 1)) (by omega) (x4 := 0) (by omega) zU_r (Nat.le_of_ble_eq_true rfl) (by omega) (zconso rfl (zconso (zvo (rfl : i3 a1 = i3 a1)) (zconso rfl (zconso (zvo (i3A (zm_rd (Z := Z9) (ν := ν) (k := 2) (show ((0 : Nat) : Int) = 0 from rfl) (show ((0 : Nat) : Int) = 0 from rfl) (show ((1200 : Nat) : Int) = 1200 from rfl)) (show (1 : Int32) = i3 1 from rfl))) (zconso (zvo (show (0 : Int32) = i3 0 from rfl)) (zconso rfl (zconso rfl rfl))))))) rfl ?_
  intro L21 Z18 y17 hL21 hZ18I kZ18 jZ18 gy17 gL21_0 q9
  replace hP := zl_e2 hP (Eq.symm q9)
  clear q9
  have hZ18U : zU [] Z Z18 := zU_t hZ15U jZ18 zU_b0
  have hZ18K : zC [1, 2, 81, 100, 1200] Z Z18 := zC_t hZ15K kZ18 (by decide)
  have r22 := zM_f hZ18I 100 0 0 0
  have q23 := kZ18 100 0 0 0 (by decide)
  refine fc_356_3  _ _ _ _ hL21 ?_
  obtain ⟨Z24, hZ24, c9, hZ24I, kZ24, jZ24⟩ := sp_493 (ν := ν) hZ18I (a1 := 0) (by omega) (zbh (c := 8360576) (k := 0) hM (Nat.le_of_ble_eq_true rfl))
  have hZ24U : zU [] Z Z24 := zU_t hZ18U jZ24 zU_b0
  have hZ24K : zC [1, 2, 81, 100, 1200] Z Z24 := zC_t hZ18K kZ24 (by decide)
  replace hP := zl_e hP hZ24
  refine wz_cV_of (zas (zcons rfl (zcons (zvi (show (0 : Int32) = i3 0 from rfl)) rfl)) c9) ?_
  clear c9
  exact zlV hP ⟨hZ24I, hZ24K, hZ24U⟩
/- yX12_worst -/
def zy_547 (Z : qz_Z) (a1 : Int) (a2 : Int) : qz_Z × Int := (if a1 < 0 then (zlet (zu Z 1 0 0 2 1) (fun Z5 => (Z5, 0))) else (if ((Z 2 0 0 3500) - 1) < a1 then (zlet (zu Z 1 0 0 2 1) (fun Z8 => (Z8, 0))) else (zlet (zu Z 1 0 0 2 0) (fun Z9 => (if a2 < 0 then (zlet (zu Z9 1 0 0 2 2) (fun Z11 => (Z11, 0))) else (if 1 < a2 then (zlet (zu Z9 1 0 0 2 2) (fun Z13 => (Z13, 0))) else (zlet (zu Z9 1 0 0 2 0) (fun Z14 => (if (Z14 2 0 0 (3520 + 10 * a1)) ≤ ((Z14 2 0 0 0) % 24) then (if (((Z14 2 0 0 0) / 24) + 1) ≠ 28 then (zlet (zf_356 Z14 a1 (((Z14 2 0 0 0) / 24) + 1)) (fun Z19 => (if a2 ≠ 0 then (Z19, (Z19 1 0 0 32)) else (Z19, (Z19 1 0 0 31))))) else (Z14, (-1))) else (zlet (zf_356 Z14 a1 ((Z14 2 0 0 0) / 24)) (fun Z23 => (if a2 ≠ 0 then (Z23, (Z23 1 0 0 32)) else (Z23, (Z23 1 0 0 31))))))))))))))
theorem sy_547 {s : zSM} {Z : qz_Z} {ν : qz_N} (hZ : zM s Z) (gq : Z 1 0 0 35 = 0) (hM : s.2 + 8360576 ≤ 1000000000) {a1 : Int} (ga1 : -2147483648 ≤ a1 ∧ a1 ≤ 2147483647) {a2 : Int} (ga2 : -2147483648 ≤ a2 ∧ a2 ≤ 2147483647) {ν1 : qz_N} : ∃ (Z1 : qz_Z) (ν2 : qz_N) (v : Int), (Z1, v) = zy_547 Z a1 a2 ∧ (ν2 = ν ∨ ν2 = ν1) ∧ qf_547 [.inr (.inr (some (1, 0, 0))), .inl (i3 a1), .inl (i3 a2)] (zm Z ν) = some (zm Z1 ν2, .inl (some (.inl (i3 v)))) ∧ (fun Z1 => zM (zb s 8360576) Z1 ∧ zC [1, 2, 81, 100, 1200] Z Z1 ∧ zU [] Z Z1) Z1 := by
  obtain ⟨P, hP⟩ := zx (zy_547 Z a1 a2)
  refine zc_Y (Q := fun Z1 => zM (zb s 8360576) Z1 ∧ zC [1, 2, 81, 100, 1200] Z Z1 ∧ zU [] Z Z1) hP (fw_547 (i3 a1) (i3 a2) _ _ ?_)
  replace hP : zE P (zy_547 Z a1 a2) := hP
  unfold zy_547 at hP
  have r1 := zM_k hZ 1 0 0 35 (lo := 0) (hi := 1) (by decide) rfl
  have r2 := zM_k hZ 1 0 0 34 (lo := 0) (hi := 8) (by decide) rfl
  have r3 := zM_f hZ 1 0 0 37
  refine wz_br (i3L (rfl : i3 a1 = i3 a1) (show (0 : Int32) = i3 0 from rfl) (by omega) (by omega) (by omega) (by omega)) (fun h4 => ?_) (fun h4 => ?_)
  · replace hP := zE_p hP h4
    obtain ⟨Z5, hZ5⟩ := zx (zu Z 1 0 0 2 1)
    replace hP := zl_e hP hZ5
    have hZ5I := zM_u hZ hZ5 (lo := -2147483648) (hi := 2147483647) (by decide) rfl (by omega) ⟨by decide, by decide⟩ (Or.inr (by decide)) rfl
    have hZ5U : zU [] Z Z5 := zU_u zU_r hZ5 (Or.inl rfl)
    have hZ5K : zC [1, 2, 81, 100, 1200] Z Z5 := zC_u zC_r hZ5 (by decide)
    intro μ9 e9
    replace e9 := e9.trans (zm_wI (Z := Z) (ν := ν) hZ5 (show ((0 : Nat) : Int) = 0 from rfl) (show ((0 : Nat) : Int) = 0 from rfl) (show ((2 : Nat) : Int) = 2 from rfl) (show (1 : Int32) = i3 1 from rfl))
    subst e9
    exact zlY hP (show (0 : Int32) = i3 0 from rfl) (.inl rfl) ⟨(zmw (a := 0) (c := 8360576) hZ5I (Nat.le_of_ble_eq_true rfl)), hZ5K, hZ5U⟩
  · replace hP := zE_n hP h4
    have r6 := zM_k hZ 2 0 0 3500 (lo := 0) (hi := 2) (by decide) rfl
    refine wz_br (i3L (i3S (zm_rd (Z := Z) (ν := ν) (k := 2) (show ((0 : Nat) : Int) = 0 from rfl) (show ((0 : Nat) : Int) = 0 from rfl) (show ((3500 : Nat) : Int) = 3500 from rfl)) (show (1 : Int32) = i3 1 from rfl)) (rfl : i3 a1 = i3 a1) (by omega) (by omega) (by omega) (by omega)) (fun h7 => ?_) (fun h7 => ?_)
    · replace hP := zE_p hP h7
      obtain ⟨Z8, hZ8⟩ := zx (zu Z 1 0 0 2 1)
      replace hP := zl_e hP hZ8
      have hZ8I := zM_u hZ hZ8 (lo := -2147483648) (hi := 2147483647) (by decide) rfl (by omega) ⟨by decide, by decide⟩ (Or.inr (by decide)) rfl
      have hZ8U : zU [] Z Z8 := zU_u zU_r hZ8 (Or.inl rfl)
      have hZ8K : zC [1, 2, 81, 100, 1200] Z Z8 := zC_u zC_r hZ8 (by decide)
      intro μ9 e9
      replace e9 := e9.trans (zm_wI (Z := Z) (ν := ν) hZ8 (show ((0 : Nat) : Int) = 0 from rfl) (show ((0 : Nat) : Int) = 0 from rfl) (show ((2 : Nat) : Int) = 2 from rfl) (show (1 : Int32) = i3 1 from rfl))
      subst e9
      exact zlY hP (show (0 : Int32) = i3 0 from rfl) (.inl rfl) ⟨(zmw (a := 0) (c := 8360576) hZ8I (Nat.le_of_ble_eq_true rfl)), hZ8K, hZ8U⟩
    · replace hP := zE_n hP h7
      obtain ⟨Z9, hZ9⟩ := zx (zu Z 1 0 0 2 0)
      replace hP := zl_e hP hZ9
      have hZ9I := zM_0 hZ hZ9 (by decide) (Or.inr (by decide))
      have hZ9U : zU [] Z Z9 := zU_u zU_r hZ9 (Or.inl rfl)
      have hZ9K : zC [1, 2, 81, 100, 1200] Z Z9 := zC_u zC_r hZ9 (by decide)
      intro μ9 e9
      replace e9 := e9.trans (zm_wI (Z := Z) (ν := ν) hZ9 (show ((0 : Nat) : Int) = 0 from rfl) (show ((0 : Nat) : Int) = 0 from rfl) (show ((2 : Nat) : Int) = 2 from rfl) (show (0 : Int32) = i3 0 from rfl))
      subst e9
      refine wz_br (i3L (rfl : i3 a2 = i3 a2) (show (0 : Int32) = i3 0 from rfl) (by omega) (by omega) (by omega) (by omega)) (fun h10 => ?_) (fun h10 => ?_)
      · replace hP := zE_p hP h10
        obtain ⟨Z11, hZ11⟩ := zx (zu Z9 1 0 0 2 2)
        replace hP := zl_e hP hZ11
        have hZ11I := zM_u hZ9I hZ11 (lo := -2147483648) (hi := 2147483647) (by decide) rfl (by omega) ⟨by decide, by decide⟩ (Or.inr (by decide)) rfl
        have hZ11U : zU [] Z Z11 := zU_u hZ9U hZ11 (Or.inl rfl)
        have hZ11K : zC [1, 2, 81, 100, 1200] Z Z11 := zC_u hZ9K hZ11 (by decide)
        intro μ9 e9
        replace e9 := e9.trans (zm_wI (Z := Z9) (ν := ν) hZ11 (show ((0 : Nat) : Int) = 0 from rfl) (show ((0 : Nat) : Int) = 0 from rfl) (show ((2 : Nat) : Int) = 2 from rfl) (show (2 : Int32) = i3 2 from rfl))
        subst e9
        exact zlY hP (show (0 : Int32) = i3 0 from rfl) (.inl rfl) ⟨(zmw (a := 0) (c := 8360576) hZ11I (Nat.le_of_ble_eq_true rfl)), hZ11K, hZ11U⟩
      · replace hP := zE_n hP h10
        refine wz_br (i3L (show (1 : Int32) = i3 1 from rfl) (rfl : i3 a2 = i3 a2) (by omega) (by omega) (by omega) (by omega)) (fun h12 => ?_) (fun h12 => ?_)
        · replace hP := zE_p hP h12
          obtain ⟨Z13, hZ13⟩ := zx (zu Z9 1 0 0 2 2)
          replace hP := zl_e hP hZ13
          have hZ13I := zM_u hZ9I hZ13 (lo := -2147483648) (hi := 2147483647) (by decide) rfl (by omega) ⟨by decide, by decide⟩ (Or.inr (by decide)) rfl
          have hZ13U : zU [] Z Z13 := zU_u hZ9U hZ13 (Or.inl rfl)
          have hZ13K : zC [1, 2, 81, 100, 1200] Z Z13 := zC_u hZ9K hZ13 (by decide)
          intro μ9 e9
          replace e9 := e9.trans (zm_wI (Z := Z9) (ν := ν) hZ13 (show ((0 : Nat) : Int) = 0 from rfl) (show ((0 : Nat) : Int) = 0 from rfl) (show ((2 : Nat) : Int) = 2 from rfl) (show (2 : Int32) = i3 2 from rfl))
          subst e9
          exact zlY hP (show (0 : Int32) = i3 0 from rfl) (.inl rfl) ⟨(zmw (a := 0) (c := 8360576) hZ13I (Nat.le_of_ble_eq_true rfl)), hZ13K, hZ13U⟩
        · replace hP := zE_n hP h12
          obtain ⟨Z14, hZ14⟩ := zx (zu Z9 1 0 0 2 0)
          replace hP := zl_e hP hZ14
          have hZ14I := zM_0 hZ9I hZ14 (by decide) (Or.inr (by decide))
          have hZ14U : zU [] Z Z14 := zU_u hZ9U hZ14 (Or.inl rfl)
          have hZ14K : zC [1, 2, 81, 100, 1200] Z Z14 := zC_u hZ9K hZ14 (by decide)
          intro μ9 e9
          replace e9 := e9.trans (zm_wI (Z := Z9) (ν := ν) hZ14 (show ((0 : Nat) : Int) = 0 from rfl) (show ((0 : Nat) : Int) = 0 from rfl) (show ((2 : Nat) : Int) = 2 from rfl) (show (0 : Int32) = i3 0 from rfl))
          subst e9
          refine wz_i0 (i3O (n := 4400) (i3A (i3A (show (3520 : Int32) = i3 3520 from rfl) (i3M (show (10 : Int32) = i3 10 from rfl) (rfl : i3 a1 = i3 a1))) (show (0 : Int32) = i3 0 from rfl)) (by omega) (by omega) (by omega)) ?_
          have r15 := zM_k hZ14I 2 0 0 (3520 + 10 * a1) (lo := 0) (hi := 18) (by decide) (zs_3520_0 (x := a1) (by omega) (by omega) (by omega))
          have r16 := zM_k hZ14I 2 0 0 0 (lo := 0) (hi := 671) (by decide) rfl
          refine wz_br (i3Le (zm_rd (Z := Z14) (ν := ν) (k := 2) (show ((0 : Nat) : Int) = 0 from rfl) (show ((0 : Nat) : Int) = 0 from rfl) (i3I (y := (3520 + 10 * a1)) (i3A (i3A (show (3520 : Int32) = i3 3520 from rfl) (i3M (show (10 : Int32) = i3 10 from rfl) (rfl : i3 a1 = i3 a1))) (show (0 : Int32) = i3 0 from rfl)) (by omega) (by omega) (by omega))) (i3R (zm_rd (Z := Z14) (ν := ν) (k := 2) (show ((0 : Nat) : Int) = 0 from rfl) (show ((0 : Nat) : Int) = 0 from rfl) (show ((0 : Nat) : Int) = 0 from rfl)) (show (24 : Int32) = i3 24 from rfl) (by omega) (by omega) (by omega) (by omega)) (by omega) (by omega) (by omega) (by omega)) (fun h17 => ?_) (fun h17 => ?_)
          · replace hP := zE_p hP h17
            refine wz_br (i3NE (i3A (i3D (zm_rd (Z := Z14) (ν := ν) (k := 2) (show ((0 : Nat) : Int) = 0 from rfl) (show ((0 : Nat) : Int) = 0 from rfl) (show ((0 : Nat) : Int) = 0 from rfl)) (show (24 : Int32) = i3 24 from rfl) (by omega) (by omega) (by omega) (by omega)) (show (1 : Int32) = i3 1 from rfl)) (show (28 : Int32) = i3 28 from rfl) (by omega) (by omega) (by omega) (by omega)) (fun h18 => ?_) (fun h18 => ?_)
            · replace hP := zE_p hP h18
              obtain ⟨Z19, hZ19, c9, hZ19I, kZ19, jZ19⟩ := sp_356 (ν := ν) hZ14I (a1 := a1) (by omega) (a2 := (((Z14 2 0 0 0) / 24) + 1)) (by omega) (by omega) (zbh (c := 0) (k := 8360576) hM (Nat.le_of_ble_eq_true rfl))
              have hZ19U : zU [] Z Z19 := zU_t hZ14U jZ19 zU_b0
              have hZ19K : zC [1, 2, 81, 100, 1200] Z Z19 := zC_t hZ14K kZ19 (by decide)
              replace hP := zl_e hP hZ19
              refine wz_cV_of (zas (zcons rfl (zcons (zvi (rfl : i3 a1 = i3 a1)) (zcons (zvi (i3A (i3D (zm_rd (Z := Z14) (ν := ν) (k := 2) (show ((0 : Nat) : Int) = 0 from rfl) (show ((0 : Nat) : Int) = 0 from rfl) (show ((0 : Nat) : Int) = 0 from rfl)) (show (24 : Int32) = i3 24 from rfl) (by omega) (by omega) (by omega) (by omega)) (show (1 : Int32) = i3 1 from rfl))) rfl))) c9) ?_
              clear c9
              refine wz_br (i3NE (rfl : i3 a2 = i3 a2) (show (0 : Int32) = i3 0 from rfl) (by omega) (by omega) (by omega) (by omega)) (fun h20 => ?_) (fun h20 => ?_)
              · replace hP := zE_p hP h20
                have r21 := zM_f hZ19I 1 0 0 32
                exact zlY hP (zm_rd (Z := Z19) (ν := ν) (k := 1) (show ((0 : Nat) : Int) = 0 from rfl) (show ((0 : Nat) : Int) = 0 from rfl) (show ((32 : Nat) : Int) = 32 from rfl)) (.inl rfl) ⟨hZ19I, hZ19K, hZ19U⟩
              · replace hP := zE_n hP h20
                have r22 := zM_f hZ19I 1 0 0 31
                exact zlY hP (zm_rd (Z := Z19) (ν := ν) (k := 1) (show ((0 : Nat) : Int) = 0 from rfl) (show ((0 : Nat) : Int) = 0 from rfl) (show ((31 : Nat) : Int) = 31 from rfl)) (.inl rfl) ⟨hZ19I, hZ19K, hZ19U⟩
            · replace hP := zE_n hP h18
              exact zlY hP (show (-1 : Int32) = i3 (-1) from rfl) (.inl rfl) ⟨(zmw (a := 0) (c := 8360576) hZ14I (Nat.le_of_ble_eq_true rfl)), hZ14K, hZ14U⟩
          · replace hP := zE_n hP h17
            refine wz_i1 (Eq.trans (i3NE (i3D (zm_rd (Z := Z14) (ν := ν) (k := 2) (show ((0 : Nat) : Int) = 0 from rfl) (show ((0 : Nat) : Int) = 0 from rfl) (show ((0 : Nat) : Int) = 0 from rfl)) (show (24 : Int32) = i3 24 from rfl) (by omega) (by omega) (by omega) (by omega)) (show (28 : Int32) = i3 28 from rfl) (by omega) (by omega) (by omega) (by omega)) (decide_eq_true (by omega))) ?_
            obtain ⟨Z23, hZ23, c9, hZ23I, kZ23, jZ23⟩ := sp_356 (ν := ν) hZ14I (a1 := a1) (by omega) (a2 := ((Z14 2 0 0 0) / 24)) (by omega) (by omega) (zbh (c := 0) (k := 8360576) hM (Nat.le_of_ble_eq_true rfl))
            have hZ23U : zU [] Z Z23 := zU_t hZ14U jZ23 zU_b0
            have hZ23K : zC [1, 2, 81, 100, 1200] Z Z23 := zC_t hZ14K kZ23 (by decide)
            replace hP := zl_e hP hZ23
            refine wz_cV_of (zas (zcons rfl (zcons (zvi (rfl : i3 a1 = i3 a1)) (zcons (zvi (i3D (zm_rd (Z := Z14) (ν := ν) (k := 2) (show ((0 : Nat) : Int) = 0 from rfl) (show ((0 : Nat) : Int) = 0 from rfl) (show ((0 : Nat) : Int) = 0 from rfl)) (show (24 : Int32) = i3 24 from rfl) (by omega) (by omega) (by omega) (by omega))) rfl))) c9) ?_
            clear c9
            refine wz_br (i3NE (rfl : i3 a2 = i3 a2) (show (0 : Int32) = i3 0 from rfl) (by omega) (by omega) (by omega) (by omega)) (fun h24 => ?_) (fun h24 => ?_)
            · replace hP := zE_p hP h24
              have r25 := zM_f hZ23I 1 0 0 32
              exact zlY hP (zm_rd (Z := Z23) (ν := ν) (k := 1) (show ((0 : Nat) : Int) = 0 from rfl) (show ((0 : Nat) : Int) = 0 from rfl) (show ((32 : Nat) : Int) = 32 from rfl)) (.inl rfl) ⟨hZ23I, hZ23K, hZ23U⟩
            · replace hP := zE_n hP h24
              have r26 := zM_f hZ23I 1 0 0 31
              exact zlY hP (zm_rd (Z := Z23) (ν := ν) (k := 1) (show ((0 : Nat) : Int) = 0 from rfl) (show ((0 : Nat) : Int) = 0 from rfl) (show ((31 : Nat) : Int) = 31 from rfl)) (.inl rfl) ⟨hZ23I, hZ23K, hZ23U⟩
/- yX12_tIsAt -/
def zl_515_1 (x1 : Int) (x2 : Int) : Nat → qz_Z → Int → qz_Z × Int
  | 0, Z, x3 => (Z, x3)
  | m + 1, Z, x3 => (if (Z 2 0 0 2000) ≤ x3 then (Z, x3) else (if (Z 2 0 0 (2019 + 16 * x3)) ≠ 1 then zl_515_1 x1 x2 m Z (x3 + 1) else (if (Z 2 0 0 (2020 + 16 * x3)) ≠ x1 then zl_515_1 x1 x2 m Z (x3 + 1) else (if (Z 2 0 0 (1410 + 12 * (Z 2 0 0 (2011 + 16 * x3)))) ≠ x2 then zl_515_1 x1 x2 m Z (x3 + 1) else (zlet (zu Z 2 0 0 (2019 + 16 * x3) 2) (fun Z11 => (zlet (zu Z11 2 0 0 (2020 + 16 * x3) (-1)) (fun Z12 => (zlet (zu Z12 2 0 0 (40 + x3) (Z12 2 0 0 0)) (fun Z17 => zl_515_1 x1 x2 m Z17 (x3 + 1)))))))))))
theorem sl_515_1 {s : zSM} {Zs Z : qz_Z} {ν : qz_N} (hZ : zM s Z) (hM : s.2 + 0 ≤ 1000000000) (hK : zC [2] Zs Z) {x1 : Int} (gx1 : 0 ≤ x1 ∧ x1 ≤ 3) {x2 : Int} (gx2 : 0 ≤ x2 ∧ x2 ≤ 4) {x3 : Int} (gx3 : 0 ≤ x3 ∧ x3 ≤ 60) (hU : zU [] Zs Z) {k : wz_K} {R : wz_R} {L : qz_L} (hL : qz_fg [true, true, true, true] L = [some (.inr (.inr (some (1, 0, 0)))), some (.inl (i3 x1)), some (.inl (i3 x2)), some (.inl (i3 x3))]) {T : qz_Z × Int} (hP : zE T (zl_515_1 x1 x2 ((60 - x3).toNat + 1) Z x3)) (hk : ∀ (L9 : qz_L) (Z9 : qz_Z) (yx3 : Int), qz_fg [false, false, false, false] L9 = [none, none, none, none] → zM s Z9 → zC [2] Zs Z9 → zU [] Zs Z9 → (0 ≤ yx3 ∧ yx3 ≤ 60) → zE T ((Z9, yx3)) → k 0 (L9, [], zm Z9 ν)) : wz_loop qb_515_1 65536 k R (L, [], zm Z ν) := by
  refine wz_lp sb_515_1 (fun m x => ∃ Z : qz_Z, ∃ x3 : Int, qz_fg [true, true, true, true] x.1 = [some (.inr (.inr (some (1, 0, 0)))), some (.inl (i3 x1)), some (.inl (i3 x2)), some (.inl (i3 x3))] ∧ x.2 = ([], zm Z ν) ∧ zM s Z ∧ zC [2] Zs Z ∧ zU [] Zs Z ∧ m = (60 - x3).toNat ∧ (0 ≤ x3 ∧ x3 ≤ 60) ∧ zE T (zl_515_1 x1 x2 (m + 1) Z x3)) ?_ 65536 ((60 - x3).toNat) _ (by omega) ⟨Z, x3, hL, rfl, hZ, hK, hU, rfl, gx3, hP⟩
  clear hP gx3 hZ hK hU hL
  clear x3
  clear Z
  rintro m ⟨L, st, μ⟩ ⟨Z, x3, hL, hx, hZ, hK, hU, hm, gx3, hP⟩
  cases hx
  refine fb_515_1 (i3 x1) (i3 x2) (i3 x3) _ _ _ _ hL ?_
  have r1 := zM_k hZ 2 0 0 2000 (lo := 0) (hi := 60) (by decide) rfl
  refine wz_br (i3Le (zm_rd (Z := Z) (ν := ν) (k := 2) (show ((0 : Nat) : Int) = 0 from rfl) (show ((0 : Nat) : Int) = 0 from rfl) (show ((2000 : Nat) : Int) = 2000 from rfl)) (rfl : i3 x3 = i3 x3) (by omega) (by omega) (by omega) (by omega)) (fun h2 => ?_) (fun h2 => ?_)
  · replace hP := zE_p hP h2
    exact hk _ _ _ (zconso rfl (zconso rfl (zconso rfl (zconso rfl rfl)))) hZ hK hU (by omega)  hP
  · replace hP := zE_n hP h2
    refine wz_i0 (i3O (n := 4400) (i3A (i3A (show (2010 : Int32) = i3 2010 from rfl) (i3M (show (16 : Int32) = i3 16 from rfl) (rfl : i3 x3 = i3 x3))) (show (9 : Int32) = i3 9 from rfl)) (by omega) (by omega) (by omega)) ?_
    have r3 := zM_k hZ 2 0 0 (2019 + 16 * x3) (lo := 0) (hi := 3) (by decide) (zs_2010_9 (x := x3) (by omega) (by omega) (by omega))
    have r4 := zM_lt2 hZ x3
    refine wz_br (i3NE (zm_rd (Z := Z) (ν := ν) (k := 2) (show ((0 : Nat) : Int) = 0 from rfl) (show ((0 : Nat) : Int) = 0 from rfl) (i3I (y := (2019 + 16 * x3)) (i3A (i3A (show (2010 : Int32) = i3 2010 from rfl) (i3M (show (16 : Int32) = i3 16 from rfl) (rfl : i3 x3 = i3 x3))) (show (9 : Int32) = i3 9 from rfl)) (by omega) (by omega) (by omega))) (show (1 : Int32) = i3 1 from rfl) (by omega) (by omega) (by omega) (by omega)) (fun h5 => ?_) (fun h5 => ?_)
    · replace hP := zE_p hP h5
      obtain ⟨m2, rfl⟩ : ∃ m2, m = m2 + 1 := ⟨m - 1, by omega⟩
      exact wz_k1 ⟨m2, by omega, Z, (x3 + 1), (zconso rfl (zconso (zvo (rfl : i3 x1 = i3 x1)) (zconso (zvo (rfl : i3 x2 = i3 x2)) (zconso (zvo (i3A (rfl : i3 x3 = i3 x3) (show (1 : Int32) = i3 1 from rfl))) rfl)))), rfl, hZ, hK, hU, by omega, by omega,  hP⟩
    · replace hP := zE_n hP h5
      refine wz_i0 (i3O (n := 4400) (i3A (i3A (show (2010 : Int32) = i3 2010 from rfl) (i3M (show (16 : Int32) = i3 16 from rfl) (rfl : i3 x3 = i3 x3))) (show (10 : Int32) = i3 10 from rfl)) (by omega) (by omega) (by omega)) ?_
      have r6 := zM_k hZ 2 0 0 (2020 + 16 * x3) (lo := -1) (hi := 3) (by decide) (zs_2010_10 (x := x3) (by omega) (by omega) (by omega))
      refine wz_br (i3NE (zm_rd (Z := Z) (ν := ν) (k := 2) (show ((0 : Nat) : Int) = 0 from rfl) (show ((0 : Nat) : Int) = 0 from rfl) (i3I (y := (2020 + 16 * x3)) (i3A (i3A (show (2010 : Int32) = i3 2010 from rfl) (i3M (show (16 : Int32) = i3 16 from rfl) (rfl : i3 x3 = i3 x3))) (show (10 : Int32) = i3 10 from rfl)) (by omega) (by omega) (by omega))) (rfl : i3 x1 = i3 x1) (by omega) (by omega) (by omega) (by omega)) (fun h7 => ?_) (fun h7 => ?_)
      · replace hP := zE_p hP h7
        obtain ⟨m2, rfl⟩ : ∃ m2, m = m2 + 1 := ⟨m - 1, by omega⟩
        exact wz_k1 ⟨m2, by omega, Z, (x3 + 1), (zconso rfl (zconso (zvo (rfl : i3 x1 = i3 x1)) (zconso (zvo (rfl : i3 x2 = i3 x2)) (zconso (zvo (i3A (rfl : i3 x3 = i3 x3) (show (1 : Int32) = i3 1 from rfl))) rfl)))), rfl, hZ, hK, hU, by omega, by omega,  hP⟩
      · replace hP := zE_n hP h7
        refine wz_i0 (i3O (n := 4400) (i3A (i3A (show (2010 : Int32) = i3 2010 from rfl) (i3M (show (16 : Int32) = i3 16 from rfl) (rfl : i3 x3 = i3 x3))) (show (1 : Int32) = i3 1 from rfl)) (by omega) (by omega) (by omega)) ?_
        have r8 := zM_k hZ 2 0 0 (2011 + 16 * x3) (lo := 0) (hi := 7) (by decide) (zs_2010_1 (x := x3) (by omega) (by omega) (by omega))
        refine wz_i0 (i3O (n := 4400) (i3A (i3A (show (1410 : Int32) = i3 1410 from rfl) (i3M (show (12 : Int32) = i3 12 from rfl) (zm_rd (Z := Z) (ν := ν) (k := 2) (show ((0 : Nat) : Int) = 0 from rfl) (show ((0 : Nat) : Int) = 0 from rfl) (i3I (y := (2011 + 16 * x3)) (i3A (i3A (show (2010 : Int32) = i3 2010 from rfl) (i3M (show (16 : Int32) = i3 16 from rfl) (rfl : i3 x3 = i3 x3))) (show (1 : Int32) = i3 1 from rfl)) (by omega) (by omega) (by omega))))) (show (0 : Int32) = i3 0 from rfl)) (by omega) (by omega) (by omega)) ?_
        have r9 := zM_k hZ 2 0 0 (1410 + 12 * (Z 2 0 0 (2011 + 16 * x3))) (lo := 0) (hi := 4) (by decide) (zs_1410_0 (x := (Z 2 0 0 (2011 + 16 * x3))) (by omega) (by omega) (by omega))
        refine wz_br (i3NE (zm_rd (Z := Z) (ν := ν) (k := 2) (show ((0 : Nat) : Int) = 0 from rfl) (show ((0 : Nat) : Int) = 0 from rfl) (i3I (y := (1410 + 12 * (Z 2 0 0 (2011 + 16 * x3)))) (i3A (i3A (show (1410 : Int32) = i3 1410 from rfl) (i3M (show (12 : Int32) = i3 12 from rfl) (zm_rd (Z := Z) (ν := ν) (k := 2) (show ((0 : Nat) : Int) = 0 from rfl) (show ((0 : Nat) : Int) = 0 from rfl) (i3I (y := (2011 + 16 * x3)) (i3A (i3A (show (2010 : Int32) = i3 2010 from rfl) (i3M (show (16 : Int32) = i3 16 from rfl) (rfl : i3 x3 = i3 x3))) (show (1 : Int32) = i3 1 from rfl)) (by omega) (by omega) (by omega))))) (show (0 : Int32) = i3 0 from rfl)) (by omega) (by omega) (by omega))) (rfl : i3 x2 = i3 x2) (by omega) (by omega) (by omega) (by omega)) (fun h10 => ?_) (fun h10 => ?_)
        · replace hP := zE_p hP h10
          obtain ⟨m2, rfl⟩ : ∃ m2, m = m2 + 1 := ⟨m - 1, by omega⟩
          exact wz_k1 ⟨m2, by omega, Z, (x3 + 1), (zconso rfl (zconso (zvo (rfl : i3 x1 = i3 x1)) (zconso (zvo (rfl : i3 x2 = i3 x2)) (zconso (zvo (i3A (rfl : i3 x3 = i3 x3) (show (1 : Int32) = i3 1 from rfl))) rfl)))), rfl, hZ, hK, hU, by omega, by omega,  hP⟩
        · replace hP := zE_n hP h10
          refine wz_i0 (i3O (n := 4400) (i3A (i3A (show (2010 : Int32) = i3 2010 from rfl) (i3M (show (16 : Int32) = i3 16 from rfl) (rfl : i3 x3 = i3 x3))) (show (9 : Int32) = i3 9 from rfl)) (by omega) (by omega) (by omega)) ?_
          obtain ⟨Z11, hZ11⟩ := zx (zu Z 2 0 0 (2019 + 16 * x3) 2)
          replace hP := zl_e hP hZ11
          have hZ11I := zM_st2 hZ hZ11 (q := x3) (by omega) (by omega) (by omega) (by omega)
          have hZ11U : zU [] Zs Z11 := zU_u hU hZ11 (Or.inl rfl)
          have hZ11K : zC [2] Zs Z11 := zC_u hK hZ11 (zcl_2w (by omega) rfl)
          intro μ9 e9
          replace e9 := e9.trans (zm_wI (Z := Z) (ν := ν) hZ11 (show ((0 : Nat) : Int) = 0 from rfl) (show ((0 : Nat) : Int) = 0 from rfl) (i3I (y := (2019 + 16 * x3)) (i3A (i3A (show (2010 : Int32) = i3 2010 from rfl) (i3M (show (16 : Int32) = i3 16 from rfl) (rfl : i3 x3 = i3 x3))) (show (9 : Int32) = i3 9 from rfl)) (by omega) (by omega) (by omega)) (show (2 : Int32) = i3 2 from rfl))
          subst e9
          refine wz_i0 (i3O (n := 4400) (i3A (i3A (show (2010 : Int32) = i3 2010 from rfl) (i3M (show (16 : Int32) = i3 16 from rfl) (rfl : i3 x3 = i3 x3))) (show (10 : Int32) = i3 10 from rfl)) (by omega) (by omega) (by omega)) ?_
          obtain ⟨Z12, hZ12⟩ := zx (zu Z11 2 0 0 (2020 + 16 * x3) (-1))
          replace hP := zl_e hP hZ12
          have r13 := zM_k hZ11I 2 0 0 (2019 + 16 * x3) (lo := 0) (hi := 3) (by decide) (zs_2010_9 (x := x3) (by omega) (by omega) (by omega))
          have r14 := zM_lt2 hZ11I x3
          have q15 := zu_at hZ11
          have hZ12I := zM_tr2 hZ11I hZ12 (q := x3) (by omega) (by omega) (by omega) (by omega)
          have hZ12U : zU [] Zs Z12 := zU_u hZ11U hZ12 (Or.inl rfl)
          have hZ12K : zC [2] Zs Z12 := zC_u hZ11K hZ12 (zcl_2w (by omega) rfl)
          intro μ9 e9
          replace e9 := e9.trans (zm_wI (Z := Z11) (ν := ν) hZ12 (show ((0 : Nat) : Int) = 0 from rfl) (show ((0 : Nat) : Int) = 0 from rfl) (i3I (y := (2020 + 16 * x3)) (i3A (i3A (show (2010 : Int32) = i3 2010 from rfl) (i3M (show (16 : Int32) = i3 16 from rfl) (rfl : i3 x3 = i3 x3))) (show (10 : Int32) = i3 10 from rfl)) (by omega) (by omega) (by omega)) (show (-1 : Int32) = i3 (-1) from rfl))
          subst e9
          refine wz_i0 (i3O (n := 4400) (i3A (show (40 : Int32) = i3 40 from rfl) (rfl : i3 x3 = i3 x3)) (by omega) (by omega) (by omega)) ?_
          have r16 := zM_k hZ12I 2 0 0 0 (lo := 0) (hi := 671) (by decide) rfl
          obtain ⟨Z17, hZ17⟩ := zx (zu Z12 2 0 0 (40 + x3) (Z12 2 0 0 0))
          replace hP := zl_e hP hZ17
          have hZ17I := zM_u2 hZ12I hZ17 (lo := -1) (hi := 671) (zs_40 (by omega) (by omega)) (by omega) ⟨by decide, by decide⟩ (by simp only [zsp]; omega)
          have hZ17U : zU [] Zs Z17 := zU_u hZ12U hZ17 (Or.inl rfl)
          have hZ17K : zC [2] Zs Z17 := zC_u hZ12K hZ17 (zcl_2w (by omega) rfl)
          intro μ9 e9
          replace e9 := e9.trans (zm_wI (Z := Z12) (ν := ν) hZ17 (show ((0 : Nat) : Int) = 0 from rfl) (show ((0 : Nat) : Int) = 0 from rfl) (i3I (y := (40 + x3)) (i3A (show (40 : Int32) = i3 40 from rfl) (rfl : i3 x3 = i3 x3)) (by omega) (by omega) (by omega)) (zm_rd (Z := Z12) (ν := ν) (k := 2) (show ((0 : Nat) : Int) = 0 from rfl) (show ((0 : Nat) : Int) = 0 from rfl) (show ((0 : Nat) : Int) = 0 from rfl)))
          subst e9
          obtain ⟨m2, rfl⟩ : ∃ m2, m = m2 + 1 := ⟨m - 1, by omega⟩
          exact wz_k1 ⟨m2, by omega, Z17, (x3 + 1), (zconso rfl (zconso (zvo (rfl : i3 x1 = i3 x1)) (zconso (zvo (rfl : i3 x2 = i3 x2)) (zconso (zvo (i3A (rfl : i3 x3 = i3 x3) (show (1 : Int32) = i3 1 from rfl))) rfl)))), rfl, hZ17I, hZ17K, hZ17U, by omega, by omega,  hP⟩
/- yX12_tIsAt -/
def zf_515 (Z : qz_Z) (a1 : Int) (a2 : Int) : qz_Z := (zlet2 (zl_515_1 a1 a2 61 Z 0) (fun Z2 y1 => Z2))
theorem sp_515 {s : zSM} {Z : qz_Z} {ν : qz_N} (hZ : zM s Z) {a1 : Int} (ga1 : 0 ≤ a1 ∧ a1 ≤ 3) {a2 : Int} (ga2 : 0 ≤ a2 ∧ a2 ≤ 4) (hM : s.2 + 0 ≤ 1000000000) : ∃ P : qz_Z, P = zf_515 Z a1 a2 ∧ (qf_515 [.inr (.inr (some (1, 0, 0))), .inl (i3 a1), .inl (i3 a2)] (zm Z ν) = some (zm P ν, .inl none) ∧ zM s P ∧ zC [2] Z P ∧ zU [] Z P) := by
  obtain ⟨P, hP⟩ := zx (zf_515 Z a1 a2)
  refine zc_V (Q := fun P => zM s P ∧ zC [2] Z P ∧ zU [] Z P) hP (fw_515 (i3 a1) (i3 a2) _ _ ?_)
  replace hP : zE P (zf_515 Z a1 a2) := hP
  unfold zf_515 at hP
  refine sl_515_1 (ν := ν) hZ (zbh (c := 0) (k := 0) hM (Nat.le_of_ble_eq_true rfl)) zC_r (x1 := a1) (by omega) (x2 := a2) (by omega) (x3 := 0) (by omega) zU_r  (zconso rfl (zconso (zvo (rfl : i3 a1 = i3 a1)) (zconso (zvo (rfl : i3 a2 = i3 a2)) (zconso (zvo (show (0 : Int32) = i3 0 from rfl)) rfl)))) rfl ?_
  intro L3 Z2 y1 hL3 hZ2I kZ2 jZ2 gy1 q9
  replace hP := zl_e2 hP (Eq.symm q9)
  clear q9
  have hZ2U : zU [] Z Z2 := zU_t zU_r jZ2 zU_b0
  have hZ2K : zC [2] Z Z2 := zC_t zC_r kZ2 (by decide)
  refine fc_515_2  _ _ _ _ hL3 ?_
  exact zlV hP ⟨hZ2I, hZ2K, hZ2U⟩
/- yX12_tArrives -/
def zl_506_1 (x1 : Int) : Nat → qz_Z → Int → qz_Z × Int
  | 0, Z, x2 => (Z, x2)
  | m + 1, Z, x2 => (if (Z 2 0 0 (3258 + 24 * x1)) ≤ x2 then (Z, x2) else (if (Z 2 0 0 (3264 + 24 * x1 + x2)) ≠ (Z 2 0 0 0) then zl_506_1 x1 m Z (x2 + 1) else (zlet (zf_515 Z x1 (Z 2 0 0 (3259 + 24 * x1 + x2))) (fun Z7 => zl_506_1 x1 m Z7 (x2 + 1)))))
theorem sl_506_1 {s : zSM} {Zs Z : qz_Z} {ν : qz_N} (hZ : zM s Z) (hM : s.2 + 0 ≤ 1000000000) (hK : zC [2] Zs Z) {x1 : Int} (gx1 : 0 ≤ x1 ∧ x1 ≤ 3) {x2 : Int} (gx2 : 0 ≤ x2 ∧ x2 ≤ 5) (hU : zU [] Zs Z) {k : wz_K} {R : wz_R} {L : qz_L} (hL : qz_fg [true, true, true] L = [some (.inr (.inr (some (1, 0, 0)))), some (.inl (i3 x1)), some (.inl (i3 x2))]) {T : qz_Z × Int} (hP : zE T (zl_506_1 x1 ((5 - x2).toNat + 1) Z x2)) (hk : ∀ (L9 : qz_L) (Z9 : qz_Z) (yx2 : Int), qz_fg [true, true, false] L9 = [some (.inr (.inr (some (1, 0, 0)))), some (.inl (i3 x1)), none] → zM s Z9 → zC [2] Zs Z9 → zU [] Zs Z9 → (0 ≤ yx2 ∧ yx2 ≤ 5) → zE T ((Z9, yx2)) → k 0 (L9, [], zm Z9 ν)) : wz_loop qb_506_1 65536 k R (L, [], zm Z ν) := by
  refine wz_lp sb_506_1 (fun m x => ∃ Z : qz_Z, ∃ x2 : Int, qz_fg [true, true, true] x.1 = [some (.inr (.inr (some (1, 0, 0)))), some (.inl (i3 x1)), some (.inl (i3 x2))] ∧ x.2 = ([], zm Z ν) ∧ zM s Z ∧ zC [2] Zs Z ∧ zU [] Zs Z ∧ m = (5 - x2).toNat ∧ (0 ≤ x2 ∧ x2 ≤ 5) ∧ zE T (zl_506_1 x1 (m + 1) Z x2)) ?_ 65536 ((5 - x2).toNat) _ (by omega) ⟨Z, x2, hL, rfl, hZ, hK, hU, rfl, gx2, hP⟩
  clear hP gx2 hZ hK hU hL
  clear x2
  clear Z
  rintro m ⟨L, st, μ⟩ ⟨Z, x2, hL, hx, hZ, hK, hU, hm, gx2, hP⟩
  cases hx
  refine fb_506_1 (i3 x1) (i3 x2) _ _ _ _ hL ?_
  refine wz_i0 (i3O (n := 4400) (i3A (i3A (show (3250 : Int32) = i3 3250 from rfl) (i3M (show (24 : Int32) = i3 24 from rfl) (rfl : i3 x1 = i3 x1))) (show (8 : Int32) = i3 8 from rfl)) (by omega) (by omega) (by omega)) ?_
  have r1 := zM_k hZ 2 0 0 (3258 + 24 * x1) (lo := 0) (hi := 5) (by decide) (zs_3250_8 (x := x1) (by omega) (by omega) (by omega))
  refine wz_br (i3Le (zm_rd (Z := Z) (ν := ν) (k := 2) (show ((0 : Nat) : Int) = 0 from rfl) (show ((0 : Nat) : Int) = 0 from rfl) (i3I (y := (3258 + 24 * x1)) (i3A (i3A (show (3250 : Int32) = i3 3250 from rfl) (i3M (show (24 : Int32) = i3 24 from rfl) (rfl : i3 x1 = i3 x1))) (show (8 : Int32) = i3 8 from rfl)) (by omega) (by omega) (by omega))) (rfl : i3 x2 = i3 x2) (by omega) (by omega) (by omega) (by omega)) (fun h2 => ?_) (fun h2 => ?_)
  · replace hP := zE_p hP h2
    exact hk _ _ _ (zconso rfl (zconso (zvo (rfl : i3 x1 = i3 x1)) (zconso rfl rfl))) hZ hK hU (by omega)  hP
  · replace hP := zE_n hP h2
    refine wz_i0 (i3O (n := 4400) (i3A (i3A (show (3250 : Int32) = i3 3250 from rfl) (i3M (show (24 : Int32) = i3 24 from rfl) (rfl : i3 x1 = i3 x1))) (i3A (show (14 : Int32) = i3 14 from rfl) (rfl : i3 x2 = i3 x2))) (by omega) (by omega) (by omega)) ?_
    have r3 := zM_k hZ 2 0 0 (3264 + 24 * x1 + x2) (lo := 0) (hi := 743) (by decide) (zsx (zsb_3250 (by omega) (by omega)) (c0 := 14) (n := 5) (by decide +kernel) (by omega) (by omega))
    have r4 := zM_k hZ 2 0 0 0 (lo := 0) (hi := 671) (by decide) rfl
    refine wz_br (i3NE (zm_rd (Z := Z) (ν := ν) (k := 2) (show ((0 : Nat) : Int) = 0 from rfl) (show ((0 : Nat) : Int) = 0 from rfl) (i3I (y := (3264 + 24 * x1 + x2)) (i3A (i3A (show (3250 : Int32) = i3 3250 from rfl) (i3M (show (24 : Int32) = i3 24 from rfl) (rfl : i3 x1 = i3 x1))) (i3A (show (14 : Int32) = i3 14 from rfl) (rfl : i3 x2 = i3 x2))) (by omega) (by omega) (by omega))) (zm_rd (Z := Z) (ν := ν) (k := 2) (show ((0 : Nat) : Int) = 0 from rfl) (show ((0 : Nat) : Int) = 0 from rfl) (show ((0 : Nat) : Int) = 0 from rfl)) (by omega) (by omega) (by omega) (by omega)) (fun h5 => ?_) (fun h5 => ?_)
    · replace hP := zE_p hP h5
      obtain ⟨m2, rfl⟩ : ∃ m2, m = m2 + 1 := ⟨m - 1, by omega⟩
      exact wz_k1 ⟨m2, by omega, Z, (x2 + 1), (zconso rfl (zconso (zvo (rfl : i3 x1 = i3 x1)) (zconso (zvo (i3A (rfl : i3 x2 = i3 x2) (show (1 : Int32) = i3 1 from rfl))) rfl))), rfl, hZ, hK, hU, by omega, by omega,  hP⟩
    · replace hP := zE_n hP h5
      refine wz_i0 (i3O (n := 4400) (i3A (i3A (show (3250 : Int32) = i3 3250 from rfl) (i3M (show (24 : Int32) = i3 24 from rfl) (rfl : i3 x1 = i3 x1))) (i3A (show (9 : Int32) = i3 9 from rfl) (rfl : i3 x2 = i3 x2))) (by omega) (by omega) (by omega)) ?_
      have r6 := zM_k hZ 2 0 0 (3259 + 24 * x1 + x2) (lo := 0) (hi := 4) (by decide) (zsx (zsb_3250 (by omega) (by omega)) (c0 := 9) (n := 5) (by decide +kernel) (by omega) (by omega))
      obtain ⟨Z7, hZ7, c9, hZ7I, kZ7, jZ7⟩ := sp_515 (ν := ν) hZ (a1 := x1) (by omega) (a2 := (Z 2 0 0 (3259 + 24 * x1 + x2))) (by omega) (zbh (c := 0) (k := 0) hM (Nat.le_of_ble_eq_true rfl))
      have hZ7U : zU [] Zs Z7 := zU_t hU jZ7 zU_b0
      have hZ7K : zC [2] Zs Z7 := zC_t hK kZ7 (by decide)
      replace hP := zl_e hP hZ7
      refine wz_cV_of (zas (zcons rfl (zcons (zvi (rfl : i3 x1 = i3 x1)) (zcons (zvi (zm_rd (Z := Z) (ν := ν) (k := 2) (show ((0 : Nat) : Int) = 0 from rfl) (show ((0 : Nat) : Int) = 0 from rfl) (i3I (y := (3259 + 24 * x1 + x2)) (i3A (i3A (show (3250 : Int32) = i3 3250 from rfl) (i3M (show (24 : Int32) = i3 24 from rfl) (rfl : i3 x1 = i3 x1))) (i3A (show (9 : Int32) = i3 9 from rfl) (rfl : i3 x2 = i3 x2))) (by omega) (by omega) (by omega)))) rfl))) c9) ?_
      clear c9
      obtain ⟨m2, rfl⟩ : ∃ m2, m = m2 + 1 := ⟨m - 1, by omega⟩
      exact wz_k1 ⟨m2, by omega, Z7, (x2 + 1), (zconso rfl (zconso (zvo (rfl : i3 x1 = i3 x1)) (zconso (zvo (i3A (rfl : i3 x2 = i3 x2) (show (1 : Int32) = i3 1 from rfl))) rfl))), rfl, hZ7I, hZ7K, hZ7U, by omega, by omega,  hP⟩
/- yX12_tArrives -/
def zf_506 (Z : qz_Z) (a1 : Int) : qz_Z := (zlet2 (zl_506_1 a1 6 Z 0) (fun Z2 y1 => (if (Z2 2 0 0 (3269 + 24 * a1)) ≠ (Z2 2 0 0 0) then Z2 else (zlet (zu Z2 2 0 0 (3252 + 24 * a1) 0) (fun Z7 => (zlet (zu Z7 2 0 0 (3256 + 24 * a1) (w3 ((Z7 2 0 0 (3256 + 24 * a1)) + (Z7 2 0 0 (3255 + 24 * a1))))) (fun Z11 => (zlet (zf_403 Z11 0 5 (w3 ((Z11 2 0 0 3812) * (Z11 2 0 0 (3255 + 24 * a1)))) (-1)) (fun Z16 => Z16)))))))))
theorem sp_506 {s : zSM} {Z : qz_Z} {ν : qz_N} (hZ : zM s Z) {a1 : Int} (ga1 : 0 ≤ a1 ∧ a1 ≤ 3) (hM : s.2 + 1 ≤ 1000000000) : ∃ P : qz_Z, P = zf_506 Z a1 ∧ (qf_506 [.inr (.inr (some (1, 0, 0))), .inl (i3 a1)] (zm Z ν) = some (zm P ν, .inl none) ∧ zM (zb s 1) P ∧ zC [2] Z P ∧ zU [] Z P) := by
  obtain ⟨P, hP⟩ := zx (zf_506 Z a1)
  refine zc_V (Q := fun P => zM (zb s 1) P ∧ zC [2] Z P ∧ zU [] Z P) hP (fw_506 (i3 a1) _ _ ?_)
  replace hP : zE P (zf_506 Z a1) := hP
  unfold zf_506 at hP
  refine sl_506_1 (ν := ν) hZ (zbh (c := 0) (k := 0) hM (Nat.le_of_ble_eq_true rfl)) zC_r (x1 := a1) (by omega) (x2 := 0) (by omega) zU_r  (zconso rfl (zconso (zvo (rfl : i3 a1 = i3 a1)) (zconso (zvo (show (0 : Int32) = i3 0 from rfl)) rfl))) rfl ?_
  intro L3 Z2 y1 hL3 hZ2I kZ2 jZ2 gy1 q9
  replace hP := zl_e2 hP (Eq.symm q9)
  clear q9
  have hZ2U : zU [] Z Z2 := zU_t zU_r jZ2 zU_b0
  have hZ2K : zC [2] Z Z2 := zC_t zC_r kZ2 (by decide)
  refine fc_506_2 (i3 a1) _ _ _ _ hL3 ?_
  refine wz_i0 (i3O (n := 4400) (i3A (i3A (show (3250 : Int32) = i3 3250 from rfl) (i3M (show (24 : Int32) = i3 24 from rfl) (rfl : i3 a1 = i3 a1))) (show (19 : Int32) = i3 19 from rfl)) (by omega) (by omega) (by omega)) ?_
  have r4 := zM_k hZ2I 2 0 0 (3269 + 24 * a1) (lo := 0) (hi := 743) (by decide) (zs_3250_19 (x := a1) (by omega) (by omega) (by omega))
  have r5 := zM_k hZ2I 2 0 0 0 (lo := 0) (hi := 671) (by decide) rfl
  refine wz_br (i3NE (zm_rd (Z := Z2) (ν := ν) (k := 2) (show ((0 : Nat) : Int) = 0 from rfl) (show ((0 : Nat) : Int) = 0 from rfl) (i3I (y := (3269 + 24 * a1)) (i3A (i3A (show (3250 : Int32) = i3 3250 from rfl) (i3M (show (24 : Int32) = i3 24 from rfl) (rfl : i3 a1 = i3 a1))) (show (19 : Int32) = i3 19 from rfl)) (by omega) (by omega) (by omega))) (zm_rd (Z := Z2) (ν := ν) (k := 2) (show ((0 : Nat) : Int) = 0 from rfl) (show ((0 : Nat) : Int) = 0 from rfl) (show ((0 : Nat) : Int) = 0 from rfl)) (by omega) (by omega) (by omega) (by omega)) (fun h6 => ?_) (fun h6 => ?_)
  · replace hP := zE_p hP h6
    exact zlV hP ⟨(zmw (a := 0) (c := 1) hZ2I (Nat.le_of_ble_eq_true rfl)), hZ2K, hZ2U⟩
  · replace hP := zE_n hP h6
    refine wz_i0 (i3O (n := 4400) (i3A (i3A (show (3250 : Int32) = i3 3250 from rfl) (i3M (show (24 : Int32) = i3 24 from rfl) (rfl : i3 a1 = i3 a1))) (show (2 : Int32) = i3 2 from rfl)) (by omega) (by omega) (by omega)) ?_
    obtain ⟨Z7, hZ7⟩ := zx (zu Z2 2 0 0 (3252 + 24 * a1) 0)
    replace hP := zl_e hP hZ7
    have hZ7I := zM_02 hZ2I hZ7 (by simp only [zsp]; omega)
    have hZ7U : zU [] Z Z7 := zU_u hZ2U hZ7 (Or.inl rfl)
    have hZ7K : zC [2] Z Z7 := zC_u hZ2K hZ7 (zcl_2w (by omega) rfl)
    intro μ9 e9
    replace e9 := e9.trans (zm_wI (Z := Z2) (ν := ν) hZ7 (show ((0 : Nat) : Int) = 0 from rfl) (show ((0 : Nat) : Int) = 0 from rfl) (i3I (y := (3252 + 24 * a1)) (i3A (i3A (show (3250 : Int32) = i3 3250 from rfl) (i3M (show (24 : Int32) = i3 24 from rfl) (rfl : i3 a1 = i3 a1))) (show (2 : Int32) = i3 2 from rfl)) (by omega) (by omega) (by omega)) (show (0 : Int32) = i3 0 from rfl))
    subst e9
    refine wz_i0 (i3O (n := 4400) (i3A (i3A (show (3250 : Int32) = i3 3250 from rfl) (i3M (show (24 : Int32) = i3 24 from rfl) (rfl : i3 a1 = i3 a1))) (show (6 : Int32) = i3 6 from rfl)) (by omega) (by omega) (by omega)) ?_
    refine wz_i0 (i3O (n := 4400) (i3A (i3A (show (3250 : Int32) = i3 3250 from rfl) (i3M (show (24 : Int32) = i3 24 from rfl) (rfl : i3 a1 = i3 a1))) (show (5 : Int32) = i3 5 from rfl)) (by omega) (by omega) (by omega)) ?_
    refine wz_i0 (i3O (n := 4400) (i3A (i3A (show (3250 : Int32) = i3 3250 from rfl) (i3M (show (24 : Int32) = i3 24 from rfl) (rfl : i3 a1 = i3 a1))) (show (6 : Int32) = i3 6 from rfl)) (by omega) (by omega) (by omega)) ?_
    have r8 := zM_f hZ7I 2 0 0 (3256 + 24 * a1)
    have r9 := zM_f hZ7I 2 0 0 (3255 + 24 * a1)
    have r10 := w3_r ((Z7 2 0 0 (3256 + 24 * a1)) + (Z7 2 0 0 (3255 + 24 * a1)))
    obtain ⟨Z11, hZ11⟩ := zx (zu Z7 2 0 0 (3256 + 24 * a1) (w3 ((Z7 2 0 0 (3256 + 24 * a1)) + (Z7 2 0 0 (3255 + 24 * a1)))))
    replace hP := zl_e hP hZ11
    have hZ11I := zM_u2 hZ7I hZ11 (lo := -2147483648) (hi := 2147483647) (zs_3250_6 (x := a1) (by omega) (by omega) (by omega)) (by omega) ⟨by decide, by decide⟩ (by simp only [zsp]; omega)
    have hZ11U : zU [] Z Z11 := zU_u hZ7U hZ11 (Or.inl rfl)
    have hZ11K : zC [2] Z Z11 := zC_u hZ7K hZ11 (zcl_2w (by omega) rfl)
    intro μ9 e9
    replace e9 := e9.trans (zm_wI (Z := Z7) (ν := ν) hZ11 (show ((0 : Nat) : Int) = 0 from rfl) (show ((0 : Nat) : Int) = 0 from rfl) (i3I (y := (3256 + 24 * a1)) (i3A (i3A (show (3250 : Int32) = i3 3250 from rfl) (i3M (show (24 : Int32) = i3 24 from rfl) (rfl : i3 a1 = i3 a1))) (show (6 : Int32) = i3 6 from rfl)) (by omega) (by omega) (by omega)) (i3W (i3A (zm_rd (Z := Z7) (ν := ν) (k := 2) (show ((0 : Nat) : Int) = 0 from rfl) (show ((0 : Nat) : Int) = 0 from rfl) (i3I (y := (3256 + 24 * a1)) (i3A (i3A (show (3250 : Int32) = i3 3250 from rfl) (i3M (show (24 : Int32) = i3 24 from rfl) (rfl : i3 a1 = i3 a1))) (show (6 : Int32) = i3 6 from rfl)) (by omega) (by omega) (by omega))) (zm_rd (Z := Z7) (ν := ν) (k := 2) (show ((0 : Nat) : Int) = 0 from rfl) (show ((0 : Nat) : Int) = 0 from rfl) (i3I (y := (3255 + 24 * a1)) (i3A (i3A (show (3250 : Int32) = i3 3250 from rfl) (i3M (show (24 : Int32) = i3 24 from rfl) (rfl : i3 a1 = i3 a1))) (show (5 : Int32) = i3 5 from rfl)) (by omega) (by omega) (by omega))))))
    subst e9
    refine wz_i0 (i3O (n := 4400) (i3A (i3A (show (3250 : Int32) = i3 3250 from rfl) (i3M (show (24 : Int32) = i3 24 from rfl) (rfl : i3 a1 = i3 a1))) (show (5 : Int32) = i3 5 from rfl)) (by omega) (by omega) (by omega)) ?_
    have r12 := zM_k hZ11I 2 0 0 3812 (lo := 0) (hi := 99999) (by decide) rfl
    have r13 := zM_f hZ11I 2 0 0 (3255 + 24 * a1)
    have q14 := zu_ne (k' := 2) (b' := 0) (i' := 0) (j' := (3255 + 24 * a1)) hZ11 (fun q => absurd q.2.2.2 (by omega))
    have r15 := w3_r ((Z11 2 0 0 3812) * (Z11 2 0 0 (3255 + 24 * a1)))
    obtain ⟨Z16, hZ16, c9, hZ16I, kZ16, jZ16⟩ := sp_403 (ν := ν) hZ11I (a1 := 0) (by omega) (a2 := 5) (by omega) (a3 := (w3 ((Z11 2 0 0 3812) * (Z11 2 0 0 (3255 + 24 * a1))))) (by omega) (a4 := (-1)) (by omega) (zbh (c := 0) (k := 1) hM (Nat.le_of_ble_eq_true rfl))
    have hZ16U : zU [] Z Z16 := zU_t hZ11U jZ16 zU_b0
    have hZ16K : zC [2] Z Z16 := zC_t hZ11K kZ16 (by decide)
    replace hP := zl_e hP hZ16
    refine wz_cV_of (zas (zcons rfl (zcons (zvi (show (0 : Int32) = i3 0 from rfl)) (zcons (zvi (show (5 : Int32) = i3 5 from rfl)) (zcons (zvi (i3W (i3M (zm_rd (Z := Z11) (ν := ν) (k := 2) (show ((0 : Nat) : Int) = 0 from rfl) (show ((0 : Nat) : Int) = 0 from rfl) (show ((3812 : Nat) : Int) = 3812 from rfl)) (zm_rd (Z := Z11) (ν := ν) (k := 2) (show ((0 : Nat) : Int) = 0 from rfl) (show ((0 : Nat) : Int) = 0 from rfl) (i3I (y := (3255 + 24 * a1)) (i3A (i3A (show (3250 : Int32) = i3 3250 from rfl) (i3M (show (24 : Int32) = i3 24 from rfl) (rfl : i3 a1 = i3 a1))) (show (5 : Int32) = i3 5 from rfl)) (by omega) (by omega) (by omega)))))) (zcons (zvi (show (-1 : Int32) = i3 (-1) from rfl)) rfl))))) c9) ?_
    clear c9
    exact zlV hP ⟨hZ16I, hZ16K, hZ16U⟩
/- yX12_tArrive -/
def zl_505_1 : Nat → qz_Z → Int → qz_Z × Int
  | 0, Z, x1 => (Z, x1)
  | m + 1, Z, x1 => (if (Z 2 0 0 3200) ≤ x1 then (Z, x1) else (if (Z 2 0 0 (3252 + 24 * x1)) ≠ 1 then zl_505_1 m Z (x1 + 1) else (zlet (zf_506 Z x1) (fun Z5 => zl_505_1 m Z5 (x1 + 1)))))
theorem sl_505_1 {s : zSM} {xM9 : Nat} {Zs Z : qz_Z} {ν : qz_N} (hZ : zM (zb s xM9) Z) (hM : s.2 + 5 ≤ 1000000000) (hK : zC [2] Zs Z) {x1 : Int} (gx1 : 0 ≤ x1 ∧ x1 ≤ 4) (hU : zU [] Zs Z) (hx9 : xM9 + 1 * ((4 - x1).toNat) + 1 ≤ 5) {k : wz_K} {R : wz_R} {L : qz_L} (hL : qz_fg [true, true] L = [some (.inr (.inr (some (1, 0, 0)))), some (.inl (i3 x1))]) {T : qz_Z × Int} (hP : zE T (zl_505_1 ((4 - x1).toNat + 1) Z x1)) (hk : ∀ (L9 : qz_L) (Z9 : qz_Z) (yx1 : Int), qz_fg [false, false] L9 = [none, none] → zM (zb s 5) Z9 → zC [2] Zs Z9 → zU [] Zs Z9 → (0 ≤ yx1 ∧ yx1 ≤ 4) → zE T ((Z9, yx1)) → k 0 (L9, [], zm Z9 ν)) : wz_loop qb_505_1 65536 k R (L, [], zm Z ν) := by
  refine wz_lp sb_505_1 (fun m x => ∃ xM9 : Nat, ∃ Z : qz_Z, ∃ x1 : Int, qz_fg [true, true] x.1 = [some (.inr (.inr (some (1, 0, 0)))), some (.inl (i3 x1))] ∧ x.2 = ([], zm Z ν) ∧ xM9 + 1 * m + 1 ≤ 5 ∧ zM (zb s xM9) Z ∧ zC [2] Zs Z ∧ zU [] Zs Z ∧ m = (4 - x1).toNat ∧ (0 ≤ x1 ∧ x1 ≤ 4) ∧ zE T (zl_505_1 (m + 1) Z x1)) ?_ 65536 ((4 - x1).toNat) _ (by omega) ⟨xM9, Z, x1, hL, rfl, hx9, hZ, hK, hU, rfl, gx1, hP⟩
  clear hP gx1 hx9 hZ hK hU hL
  clear x1
  clear Z
  clear xM9
  rintro m ⟨L, st, μ⟩ ⟨xM9, Z, x1, hL, hx, hx9, hZ, hK, hU, hm, gx1, hP⟩
  cases hx
  have hM9 : (zb s xM9).2 + 1 ≤ 1000000000 := by
    show s.2 + xM9 + 1 ≤ 1000000000
    omega
  refine fb_505_1 (i3 x1) _ _ _ _ hL ?_
  have r1 := zM_k hZ 2 0 0 3200 (lo := 0) (hi := 4) (by decide) rfl
  refine wz_br (i3Le (zm_rd (Z := Z) (ν := ν) (k := 2) (show ((0 : Nat) : Int) = 0 from rfl) (show ((0 : Nat) : Int) = 0 from rfl) (show ((3200 : Nat) : Int) = 3200 from rfl)) (rfl : i3 x1 = i3 x1) (by omega) (by omega) (by omega) (by omega)) (fun h2 => ?_) (fun h2 => ?_)
  · replace hP := zE_p hP h2
    exact hk _ _ _ (zconso rfl (zconso rfl rfl)) (zmx0 hZ (by omega)) hK hU (by omega)  hP
  · replace hP := zE_n hP h2
    refine wz_i0 (i3O (n := 4400) (i3A (i3A (show (3250 : Int32) = i3 3250 from rfl) (i3M (show (24 : Int32) = i3 24 from rfl) (rfl : i3 x1 = i3 x1))) (show (2 : Int32) = i3 2 from rfl)) (by omega) (by omega) (by omega)) ?_
    have r3 := zM_k hZ 2 0 0 (3252 + 24 * x1) (lo := 0) (hi := 1) (by decide) (zs_3250_2 (x := x1) (by omega) (by omega) (by omega))
    refine wz_br (i3NE (zm_rd (Z := Z) (ν := ν) (k := 2) (show ((0 : Nat) : Int) = 0 from rfl) (show ((0 : Nat) : Int) = 0 from rfl) (i3I (y := (3252 + 24 * x1)) (i3A (i3A (show (3250 : Int32) = i3 3250 from rfl) (i3M (show (24 : Int32) = i3 24 from rfl) (rfl : i3 x1 = i3 x1))) (show (2 : Int32) = i3 2 from rfl)) (by omega) (by omega) (by omega))) (show (1 : Int32) = i3 1 from rfl) (by omega) (by omega) (by omega) (by omega)) (fun h4 => ?_) (fun h4 => ?_)
    · replace hP := zE_p hP h4
      obtain ⟨m2, rfl⟩ : ∃ m2, m = m2 + 1 := ⟨m - 1, by omega⟩
      exact wz_k1 ⟨m2, by omega, xM9, Z, (x1 + 1), (zconso rfl (zconso (zvo (i3A (rfl : i3 x1 = i3 x1) (show (1 : Int32) = i3 1 from rfl))) rfl)), rfl, by omega, hZ, hK, hU, by omega, by omega,  hP⟩
    · replace hP := zE_n hP h4
      obtain ⟨Z5, hZ5, c9, hZ5I, kZ5, jZ5⟩ := sp_506 (ν := ν) hZ (a1 := x1) (by omega) (zbh (c := 0) (k := 1) hM9 (Nat.le_of_ble_eq_true rfl))
      have hZ5U : zU [] Zs Z5 := zU_t hU jZ5 zU_b0
      have hZ5K : zC [2] Zs Z5 := zC_t hK kZ5 (by decide)
      replace hP := zl_e hP hZ5
      refine wz_cV_of (zas (zcons rfl (zcons (zvi (rfl : i3 x1 = i3 x1)) rfl)) c9) ?_
      clear c9
      obtain ⟨m2, rfl⟩ : ∃ m2, m = m2 + 1 := ⟨m - 1, by omega⟩
      exact wz_k1 ⟨m2, by omega, xM9 + 1, Z5, (x1 + 1), (zconso rfl (zconso (zvo (i3A (rfl : i3 x1 = i3 x1) (show (1 : Int32) = i3 1 from rfl))) rfl)), rfl, by omega, (zmt hZ5I rfl), hZ5K, hZ5U, by omega, by omega,  hP⟩
/- yX12_tArrive -/
def zf_505 (Z : qz_Z) : qz_Z := (zlet2 (zl_505_1 5 Z 0) (fun Z2 y1 => Z2))
theorem sp_505 {s : zSM} {Z : qz_Z} {ν : qz_N} (hZ : zM s Z) (hM : s.2 + 5 ≤ 1000000000) : ∃ P : qz_Z, P = zf_505 Z ∧ (qf_505 [.inr (.inr (some (1, 0, 0)))] (zm Z ν) = some (zm P ν, .inl none) ∧ zM (zb s 5) P ∧ zC [2] Z P ∧ zU [] Z P) := by
  obtain ⟨P, hP⟩ := zx (zf_505 Z)
  refine zc_V (Q := fun P => zM (zb s 5) P ∧ zC [2] Z P ∧ zU [] Z P) hP (fw_505  _ _ ?_)
  replace hP : zE P (zf_505 Z) := hP
  unfold zf_505 at hP
  refine sl_505_1 (ν := ν) (zm0 hZ) (zbh (c := 0) (k := 5) hM (Nat.le_of_ble_eq_true rfl)) (xM9 := 0) zC_r (x1 := 0) (by omega) zU_r (Nat.le_of_ble_eq_true rfl)  (zconso rfl (zconso (zvo (show (0 : Int32) = i3 0 from rfl)) rfl)) rfl ?_
  intro L3 Z2 y1 hL3 hZ2I kZ2 jZ2 gy1 q9
  replace hP := zl_e2 hP (Eq.symm q9)
  clear q9
  have hZ2U : zU [] Z Z2 := zU_t zU_r jZ2 zU_b0
  have hZ2K : zC [2] Z Z2 := zC_t zC_r kZ2 (by decide)
  refine fc_505_2  _ _ _ _ hL3 ?_
  exact zlV hP ⟨hZ2I, hZ2K, hZ2U⟩
/- yX12_iHour -/
def zl_358_1 : Nat → qz_Z → Int → qz_Z × Int
  | 0, Z, x1 => (Z, x1)
  | m + 1, Z, x1 => (if (Z 2 0 0 3500) ≤ x1 then (Z, x1) else (zlet (zf_355 Z x1 (Z 2 0 0 0)) (fun v4 => (if v4 ≤ 0 then zl_358_1 m Z (x1 + 1) else (zlet2 (zf_365 Z x1 v4) (fun Z6 v7 => zl_358_1 m Z6 (x1 + 1)))))))
theorem sl_358_1 {s : zSM} {xM9 : Nat} {Zs Z : qz_Z} {ν : qz_N} (hZ : zM (zb s xM9) Z) (hM : s.2 + 18228 ≤ 1000000000) (hK : zC [2] Zs Z) {x1 : Int} (gx1 : 0 ≤ x1 ∧ x1 ≤ 2) (hU : zU [] Zs Z) (hx9 : xM9 + 6076 * ((2 - x1).toNat) + 6076 ≤ 18228) {k : wz_K} {R : wz_R} {L : qz_L} (hL : qz_fg [true, true, false] L = [some (.inr (.inr (some (1, 0, 0)))), some (.inl (i3 x1)), none]) {T : qz_Z × Int} (hP : zE T (zl_358_1 ((2 - x1).toNat + 1) Z x1)) (hk : ∀ (L9 : qz_L) (Z9 : qz_Z) (yx1 : Int), qz_fg [false, false, false] L9 = [none, none, none] → zM (zb s 18228) Z9 → zC [2] Zs Z9 → zU [] Zs Z9 → (0 ≤ yx1 ∧ yx1 ≤ 2) → zE T ((Z9, yx1)) → k 0 (L9, [], zm Z9 ν)) : wz_loop qb_358_1 65536 k R (L, [], zm Z ν) := by
  refine wz_lp sb_358_1 (fun m x => ∃ xM9 : Nat, ∃ Z : qz_Z, ∃ x1 : Int, qz_fg [true, true, false] x.1 = [some (.inr (.inr (some (1, 0, 0)))), some (.inl (i3 x1)), none] ∧ x.2 = ([], zm Z ν) ∧ xM9 + 6076 * m + 6076 ≤ 18228 ∧ zM (zb s xM9) Z ∧ zC [2] Zs Z ∧ zU [] Zs Z ∧ m = (2 - x1).toNat ∧ (0 ≤ x1 ∧ x1 ≤ 2) ∧ zE T (zl_358_1 (m + 1) Z x1)) ?_ 65536 ((2 - x1).toNat) _ (by omega) ⟨xM9, Z, x1, hL, rfl, hx9, hZ, hK, hU, rfl, gx1, hP⟩
  clear hP gx1 hx9 hZ hK hU hL
  clear x1
  clear Z
  clear xM9
  rintro m ⟨L, st, μ⟩ ⟨xM9, Z, x1, hL, hx, hx9, hZ, hK, hU, hm, gx1, hP⟩
  cases hx
  have hM9 : (zb s xM9).2 + 6076 ≤ 1000000000 := by
    show s.2 + xM9 + 6076 ≤ 1000000000
    omega
  refine fb_358_1 (i3 x1) _ _ _ _ hL ?_
  have r1 := zM_k hZ 2 0 0 3500 (lo := 0) (hi := 2) (by decide) rfl
  refine wz_br (i3Le (zm_rd (Z := Z) (ν := ν) (k := 2) (show ((0 : Nat) : Int) = 0 from rfl) (show ((0 : Nat) : Int) = 0 from rfl) (show ((3500 : Nat) : Int) = 3500 from rfl)) (rfl : i3 x1 = i3 x1) (by omega) (by omega) (by omega) (by omega)) (fun h2 => ?_) (fun h2 => ?_)
  · replace hP := zE_p hP h2
    exact hk _ _ _ (zconso rfl (zconso rfl (zconso rfl rfl))) (zmx0 hZ (by omega)) hK hU (by omega)  hP
  · replace hP := zE_n hP h2
    have r3 := zM_k hZ 2 0 0 0 (lo := 0) (hi := 671) (by decide) rfl
    obtain ⟨v4, hv4, c9, lv4, uv4⟩ := sp_355 (ν := ν) hZ (a1 := x1) (by omega) (a2 := (Z 2 0 0 0)) (by omega) (zbh (c := 0) (k := 0) hM9 (Nat.le_of_ble_eq_true rfl))
    replace hP := zl_e hP hv4
    refine wz_cI_of (zas (zcons rfl (zcons (zvi (rfl : i3 x1 = i3 x1)) (zcons (zvi (zm_rd (Z := Z) (ν := ν) (k := 2) (show ((0 : Nat) : Int) = 0 from rfl) (show ((0 : Nat) : Int) = 0 from rfl) (show ((0 : Nat) : Int) = 0 from rfl))) rfl))) c9) ?_
    clear c9
    refine wz_br (i3Le (rfl : i3 v4 = i3 v4) (show (0 : Int32) = i3 0 from rfl) (by omega) (by omega) (by omega) (by omega)) (fun h5 => ?_) (fun h5 => ?_)
    · replace hP := zE_p hP h5
      obtain ⟨m2, rfl⟩ : ∃ m2, m = m2 + 1 := ⟨m - 1, by omega⟩
      exact wz_k1 ⟨m2, by omega, xM9, Z, (x1 + 1), (zconso rfl (zconso (zvo (i3A (rfl : i3 x1 = i3 x1) (show (1 : Int32) = i3 1 from rfl))) (zconso rfl rfl))), rfl, by omega, hZ, hK, hU, by omega, by omega,  hP⟩
    · replace hP := zE_n hP h5
      obtain ⟨Z6, v7, hv7, c9, hZ6I, kZ6, jZ6, lv7, uv7⟩ := sp_365 (ν := ν) hZ (a1 := x1) (by omega) (a2 := v4) (by omega) (zbh (c := 0) (k := 6076) hM9 (Nat.le_of_ble_eq_true rfl))
      have hZ6U : zU [] Zs Z6 := zU_t hU jZ6 zU_b0
      have hZ6K : zC [2] Zs Z6 := zC_t hK kZ6 (by decide)
      replace hP := zl_e2 hP hv7
      refine wz_cI_of (zas (zcons rfl (zcons (zvi (rfl : i3 x1 = i3 x1)) (zcons (zvi (rfl : i3 v4 = i3 v4)) rfl))) c9) ?_
      clear c9 hv7
      obtain ⟨m2, rfl⟩ : ∃ m2, m = m2 + 1 := ⟨m - 1, by omega⟩
      exact wz_k1 ⟨m2, by omega, xM9 + 6076, Z6, (x1 + 1), (zconso rfl (zconso (zvo (i3A (rfl : i3 x1 = i3 x1) (show (1 : Int32) = i3 1 from rfl))) (zconso rfl rfl))), rfl, by omega, (zmt hZ6I rfl), hZ6K, hZ6U, by omega, by omega,  hP⟩
/- yX12_iHour -/
def zf_358 (Z : qz_Z) : qz_Z := (zlet2 (zl_358_1 3 Z 0) (fun Z2 y1 => Z2))
theorem sp_358 {s : zSM} {Z : qz_Z} {ν : qz_N} (hZ : zM s Z) (hM : s.2 + 18228 ≤ 1000000000) : ∃ P : qz_Z, P = zf_358 Z ∧ (qf_358 [.inr (.inr (some (1, 0, 0)))] (zm Z ν) = some (zm P ν, .inl none) ∧ zM (zb s 18228) P ∧ zC [2] Z P ∧ zU [] Z P) := by
  obtain ⟨P, hP⟩ := zx (zf_358 Z)
  refine zc_V (Q := fun P => zM (zb s 18228) P ∧ zC [2] Z P ∧ zU [] Z P) hP (fw_358  _ _ ?_)
  replace hP : zE P (zf_358 Z) := hP
  unfold zf_358 at hP
  refine sl_358_1 (ν := ν) (zm0 hZ) (zbh (c := 0) (k := 18228) hM (Nat.le_of_ble_eq_true rfl)) (xM9 := 0) zC_r (x1 := 0) (by omega) zU_r (Nat.le_of_ble_eq_true rfl)  (zconso rfl (zconso (zvo (show (0 : Int32) = i3 0 from rfl)) (zconso rfl rfl))) rfl ?_
  intro L3 Z2 y1 hL3 hZ2I kZ2 jZ2 gy1 q9
  replace hP := zl_e2 hP (Eq.symm q9)
  clear q9
  have hZ2U : zU [] Z Z2 := zU_t zU_r jZ2 zU_b0
  have hZ2K : zC [2] Z Z2 := zC_t zC_r kZ2 (by decide)
  refine fc_358_2  _ _ _ _ hL3 ?_
  exact zlV hP ⟨hZ2I, hZ2K, hZ2U⟩
/- yX12_tGoes -/
def zl_513_1 (x1 : Int) : Nat → qz_Z → Int → Int → Int → qz_Z × Int × Int × Int
  | 0, Z, x2, x3, x4 => (Z, x2, x3, x4)
  | m + 1, Z, x2, x3, x4 => (if (Z 1 0 0 24) ≤ x4 then (Z, x2, x3, x4) else (zlet (zu Z 2 0 0 (3259 + 24 * x1 + x4) (Z 96 0 0 x4)) (fun Z4 => (zlet (zu Z4 2 0 0 (3264 + 24 * x1 + x4) (x3 + (Z 2 0 0 (3210 + 6 * x2 + (Z 96 0 0 x4))))) (fun Z6 => zl_513_1 x1 m Z6 (Z 96 0 0 x4) (x3 + (Z 2 0 0 (3210 + 6 * x2 + (Z 96 0 0 x4)))) (x4 + 1))))))
theorem sl_513_1 {s : zSM} {Zs Z : qz_Z} {ν : qz_N} (hZ : zM s Z) (hM : s.2 + 0 ≤ 1000000000) (hK : zC [2] Zs Z) {x1 : Int} (gx1 : 0 ≤ x1 ∧ x1 ≤ 3) {x2 : Int} (gx2 : 0 ≤ x2 ∧ x2 ≤ 5) {x3 : Int} (gx3 : 0 ≤ x3 ∧ x3 ≤ 731) {x4 : Int} (gx4 : 0 ≤ x4 ∧ x4 ≤ 5) (hU : zU [] Zs Z) (gr0 : x3 ≤ 671 + 12 * x4) {k : wz_K} {R : wz_R} {L : qz_L} (hL : qz_fg [true, true, true, true, true] L = [some (.inr (.inr (some (1, 0, 0)))), some (.inl (i3 x1)), some (.inl (i3 x2)), some (.inl (i3 x3)), some (.inl (i3 x4))]) {T : qz_Z × Int × Int × Int} (hP : zE T (zl_513_1 x1 ((5 - x4).toNat + 1) Z x2 x3 x4)) (hk : ∀ (L9 : qz_L) (Z9 : qz_Z) (yx2 yx3 yx4 : Int), qz_fg [true, true, true, true, false] L9 = [some (.inr (.inr (some (1, 0, 0)))), some (.inl (i3 x1)), some (.inl (i3 yx2)), some (.inl (i3 yx3)), none] → zM s Z9 → zC [2] Zs Z9 → zU [] Zs Z9 → (0 ≤ yx2 ∧ yx2 ≤ 5) → (0 ≤ yx3 ∧ yx3 ≤ 731) → (0 ≤ yx4 ∧ yx4 ≤ 5) → (yx3 ≤ 671 + 12 * yx4) → zE T ((Z9, yx2, yx3, yx4)) → k 0 (L9, [], zm Z9 ν)) : wz_loop qb_513_1 65536 k R (L, [], zm Z ν) := by
  refine wz_lp sb_513_1 (fun m x => ∃ Z : qz_Z, ∃ x2 : Int, ∃ x3 : Int, ∃ x4 : Int, qz_fg [true, true, true, true, true] x.1 = [some (.inr (.inr (some (1, 0, 0)))), some (.inl (i3 x1)), some (.inl (i3 x2)), some (.inl (i3 x3)), some (.inl (i3 x4))] ∧ x.2 = ([], zm Z ν) ∧ zM s Z ∧ zC [2] Zs Z ∧ zU [] Zs Z ∧ m = (5 - x4).toNat ∧ (0 ≤ x2 ∧ x2 ≤ 5) ∧ (0 ≤ x3 ∧ x3 ≤ 731) ∧ (0 ≤ x4 ∧ x4 ≤ 5) ∧ (x3 ≤ 671 + 12 * x4) ∧ zE T (zl_513_1 x1 (m + 1) Z x2 x3 x4)) ?_ 65536 ((5 - x4).toNat) _ (by omega) ⟨Z, x2, x3, x4, hL, rfl, hZ, hK, hU, rfl, gx2, gx3, gx4, gr0, hP⟩
  clear hP gr0 gx2 gx3 gx4 hZ hK hU hL
  clear x2 x3 x4
  clear Z
  rintro m ⟨L, st, μ⟩ ⟨Z, x2, x3, x4, hL, hx, hZ, hK, hU, hm, gx2, gx3, gx4, gr0, hP⟩
  cases hx
  refine fb_513_1 (i3 x1) (i3 x2) (i3 x3) (i3 x4) _ _ _ _ hL ?_
  have r1 := zM_k hZ 1 0 0 24 (lo := 0) (hi := 5) (by decide) rfl
  refine wz_br (i3Le (zm_rd (Z := Z) (ν := ν) (k := 1) (show ((0 : Nat) : Int) = 0 from rfl) (show ((0 : Nat) : Int) = 0 from rfl) (show ((24 : Nat) : Int) = 24 from rfl)) (rfl : i3 x4 = i3 x4) (by omega) (by omega) (by omega) (by omega)) (fun h2 => ?_) (fun h2 => ?_)
  · replace hP := zE_p hP h2
    exact hk _ _ _ _ _ (zconso rfl (zconso (zvo (rfl : i3 x1 = i3 x1)) (zconso (zvo (rfl : i3 x2 = i3 x2)) (zconso (zvo (rfl : i3 x3 = i3 x3)) (zconso rfl rfl))))) hZ hK hU (by omega) (by omega) (by omega) (by omega) hP
  · replace hP := zE_n hP h2
    refine wz_i0 (i3O (n := 5) (rfl : i3 x4 = i3 x4) (by omega) (by omega) (by omega)) ?_
    have r3 := zM_k hZ 96 0 0 x4 (lo := 0) (hi := 4) (by decide) rfl
    refine wz_i0 (i3O (n := 4400) (i3A (i3A (show (3210 : Int32) = i3 3210 from rfl) (i3M (show (6 : Int32) = i3 6 from rfl) (rfl : i3 x2 = i3 x2))) (zm_rd (Z := Z) (ν := ν) (k := 96) (show ((0 : Nat) : Int) = 0 from rfl) (show ((0 : Nat) : Int) = 0 from rfl) (i3I (y := x4) (rfl : i3 x4 = i3 x4) (by omega) (by omega) (by omega)))) (by omega) (by omega) (by omega)) ?_
    refine wz_i0 (i3O (n := 5) (rfl : i3 x4 = i3 x4) (by omega) (by omega) (by omega)) ?_
    refine wz_i0 (i3O (n := 4400) (i3A (i3A (show (3250 : Int32) = i3 3250 from rfl) (i3M (show (24 : Int32) = i3 24 from rfl) (rfl : i3 x1 = i3 x1))) (i3A (show (9 : Int32) = i3 9 from rfl) (rfl : i3 x4 = i3 x4))) (by omega) (by omega) (by omega)) ?_
    obtain ⟨Z4, hZ4⟩ := zx (zu Z 2 0 0 (3259 + 24 * x1 + x4) (Z 96 0 0 x4))
    replace hP := zl_e hP hZ4
    have hZ4I := zM_u2 hZ hZ4 (lo := 0) (hi := 4) (zsx (zsb_3250 (by omega) (by omega)) (c0 := 9) (n := 5) (by decide +kernel) (by omega) (by omega)) (by omega) ⟨by decide, by decide⟩ (by simp only [zsp]; omega)
    have hZ4U : zU [] Zs Z4 := zU_u hU hZ4 (Or.inl rfl)
    have hZ4K : zC [2] Zs Z4 := zC_u hK hZ4 (zcl_2w (by omega) rfl)
    intro μ9 e9
    replace e9 := e9.trans (zm_wI (Z := Z) (ν := ν) hZ4 (show ((0 : Nat) : Int) = 0 from rfl) (show ((0 : Nat) : Int) = 0 from rfl) (i3I (y := (3259 + 24 * x1 + x4)) (i3A (i3A (show (3250 : Int32) = i3 3250 from rfl) (i3M (show (24 : Int32) = i3 24 from rfl) (rfl : i3 x1 = i3 x1))) (i3A (show (9 : Int32) = i3 9 from rfl) (rfl : i3 x4 = i3 x4))) (by omega) (by omega) (by omega)) (zm_rd (Z := Z) (ν := ν) (k := 96) (show ((0 : Nat) : Int) = 0 from rfl) (show ((0 : Nat) : Int) = 0 from rfl) (i3I (y := x4) (rfl : i3 x4 = i3 x4) (by omega) (by omega) (by omega))))
    subst e9
    refine wz_i0 (i3O (n := 4400) (i3A (i3A (show (3250 : Int32) = i3 3250 from rfl) (i3M (show (24 : Int32) = i3 24 from rfl) (rfl : i3 x1 = i3 x1))) (i3A (show (14 : Int32) = i3 14 from rfl) (rfl : i3 x4 = i3 x4))) (by omega) (by omega) (by omega)) ?_
    have r5 := zM_k hZ 2 0 0 (3210 + 6 * x2 + (Z 96 0 0 x4)) (lo := 0) (hi := 12) (by decide) (zs_3210 (by omega) (by omega))
    obtain ⟨Z6, hZ6⟩ := zx (zu Z4 2 0 0 (3264 + 24 * x1 + x4) (x3 + (Z 2 0 0 (3210 + 6 * x2 + (Z 96 0 0 x4)))))
    replace hP := zl_e hP hZ6
    have hZ6I := zM_u2 hZ4I hZ6 (lo := 0) (hi := 743) (zsx (zsb_3250 (by omega) (by omega)) (c0 := 14) (n := 5) (by decide +kernel) (by omega) (by omega)) (by omega) ⟨by decide, by decide⟩ (by simp only [zsp]; omega)
    have hZ6U : zU [] Zs Z6 := zU_u hZ4U hZ6 (Or.inl rfl)
    have hZ6K : zC [2] Zs Z6 := zC_u hZ4K hZ6 (zcl_2w (by omega) rfl)
    intro μ9 e9
    replace e9 := e9.trans (zm_wI (Z := Z4) (ν := ν) hZ6 (show ((0 : Nat) : Int) = 0 from rfl) (show ((0 : Nat) : Int) = 0 from rfl) (i3I (y := (3264 + 24 * x1 + x4)) (i3A (i3A (show (3250 : Int32) = i3 3250 from rfl) (i3M (show (24 : Int32) = i3 24 from rfl) (rfl : i3 x1 = i3 x1))) (i3A (show (14 : Int32) = i3 14 from rfl) (rfl : i3 x4 = i3 x4))) (by omega) (by omega) (by omega)) (i3A (rfl : i3 x3 = i3 x3) (zm_rd (Z := Z) (ν := ν) (k := 2) (show ((0 : Nat) : Int) = 0 from rfl) (show ((0 : Nat) : Int) = 0 from rfl) (i3I (y := (3210 + 6 * x2 + (Z 96 0 0 x4))) (i3A (i3A (show (3210 : Int32) = i3 3210 from rfl) (i3M (show (6 : Int32) = i3 6 from rfl) (rfl : i3 x2 = i3 x2))) (zm_rd (Z := Z) (ν := ν) (k := 96) (show ((0 : Nat) : Int) = 0 from rfl) (show ((0 : Nat) : Int) = 0 from rfl) (i3I (y := x4) (rfl : i3 x4 = i3 x4) (by omega) (by omega) (by omega)))) (by omega) (by omega) (by omega)))))
    subst e9
    obtain ⟨m2, rfl⟩ : ∃ m2, m = m2 + 1 := ⟨m - 1, by omega⟩
    exact wz_k1 ⟨m2, by omega, Z6, (Z 96 0 0 x4), (x3 + (Z 2 0 0 (3210 + 6 * x2 + (Z 96 0 0 x4)))), (x4 + 1), (zconso rfl (zconso (zvo (rfl : i3 x1 = i3 x1)) (zconso (zvo (zm_rd (Z := Z) (ν := ν) (k := 96) (show ((0 : Nat) : Int) = 0 from rfl) (show ((0 : Nat) : Int) = 0 from rfl) (i3I (y := x4) (rfl : i3 x4 = i3 x4) (by omega) (by omega) (by omega)))) (zconso (zvo (i3A (rfl : i3 x3 = i3 x3) (zm_rd (Z := Z) (ν := ν) (k := 2) (show ((0 : Nat) : Int) = 0 from rfl) (show ((0 : Nat) : Int) = 0 from rfl) (i3I (y := (3210 + 6 * x2 + (Z 96 0 0 x4))) (i3A (i3A (show (3210 : Int32) = i3 3210 from rfl) (i3M (show (6 : Int32) = i3 6 from rfl) (rfl : i3 x2 = i3 x2))) (zm_rd (Z := Z) (ν := ν) (k := 96) (show ((0 : Nat) : Int) = 0 from rfl) (show ((0 : Nat) : Int) = 0 from rfl) (i3I (y := x4) (rfl : i3 x4 = i3 x4) (by omega) (by omega) (by omega)))) (by omega) (by omega) (by omega))))) (zconso (zvo (i3A (rfl : i3 x4 = i3 x4) (show (1 : Int32) = i3 1 from rfl))) rfl))))), rfl, hZ6I, hZ6K, hZ6U, by omega, by omega, by omega, by omega, by omega,  hP⟩
/- yX12_tGoes -/
def zf_513 (Z : qz_Z) (a1 : Int) : qz_Z := (zlet (zf_527 Z a1) (fun v1 => (zlet (zf_511 Z v1) (fun Z2 => (zlet (zu Z2 2 0 0 (3252 + 24 * a1) 1) (fun Z3 => (zlet (zu Z3 2 0 0 (3254 + 24 * a1) (Z3 2 0 0 0)) (fun Z5 => (zlet (zu Z5 2 0 0 (3255 + 24 * a1) (Z5 1 0 0 25)) (fun Z7 => (zlet (zu Z7 2 0 0 (3257 + 24 * a1) (w3 ((Z7 2 0 0 (3257 + 24 * a1)) + 1))) (fun Z10 => (zlet (zu Z10 2 0 0 (3258 + 24 * a1) (Z10 1 0 0 24)) (fun Z12 => (zlet4 (zl_513_1 a1 6 Z12 5 (Z12 2 0 0 0) 0) (fun Z18 y15 y16 y17 => (zlet (zu Z18 2 0 0 (3269 + 24 * a1) (y16 + (Z18 2 0 0 (3215 + 6 * y15)))) (fun Z21 => Z21))))))))))))))))))
theorem sp_513 {s : zSM} {Z : qz_Z} {ν : qz_N} (hZ : zM s Z) {a1 : Int} (ga1 : 0 ≤ a1 ∧ a1 ≤ 3) (hM : s.2 + 0 ≤ 1000000000) : ∃ P : qz_Z, P = zf_513 Z a1 ∧ (qf_513 [.inr (.inr (some (1, 0, 0))), .inl (i3 a1)] (zm Z ν) = some (zm P ν, .inl none) ∧ zM s P ∧ zC [1, 2, 95, 96] Z P ∧ zU [] Z P) := by
  obtain ⟨P, hP⟩ := zx (zf_513 Z a1)
  refine zc_V (Q := fun P => zM s P ∧ zC [1, 2, 95, 96] Z P ∧ zU [] Z P) hP (fw_513 (i3 a1) _ _ ?_)
  replace hP : zE P (zf_513 Z a1) := hP
  unfold zf_513 at hP
  obtain ⟨v1, hv1, c9, lv1, uv1⟩ := sp_527 (ν := ν) hZ (a1 := a1) (by omega) (zbh (c := 0) (k := 0) hM (Nat.le_of_ble_eq_true rfl))
  replace hP := zl_e hP hv1
  refine wz_cI_of (zas (zcons rfl (zcons (zvi (rfl : i3 a1 = i3 a1)) rfl)) c9) ?_
  clear c9
  obtain ⟨Z2, hZ2, c9, hZ2I, kZ2, jZ2⟩ := sp_511 (ν := ν) hZ (a1 := v1) (by omega) (zbh (c := 0) (k := 0) hM (Nat.le_of_ble_eq_true rfl))
  have hZ2U : zU [] Z Z2 := zU_t zU_r jZ2 zU_b0
  have hZ2K : zC [1, 2, 95, 96] Z Z2 := zC_t zC_r kZ2 (by decide)
  replace hP := zl_e hP hZ2
  refine wz_cV_of (zas (zcons rfl (zcons (zvi (rfl : i3 v1 = i3 v1)) rfl)) c9) ?_
  clear c9
  refine wz_i0 (i3O (n := 4400) (i3A (i3A (show (3250 : Int32) = i3 3250 from rfl) (i3M (show (24 : Int32) = i3 24 from rfl) (rfl : i3 a1 = i3 a1))) (show (2 : Int32) = i3 2 from rfl)) (by omega) (by omega) (by omega)) ?_
  obtain ⟨Z3, hZ3⟩ := zx (zu Z2 2 0 0 (3252 + 24 * a1) 1)
  replace hP := zl_e hP hZ3
  have hZ3I := zM_u2 hZ2I hZ3 (lo := 0) (hi := 1) (zs_3250_2 (x := a1) (by omega) (by omega) (by omega)) (by omega) ⟨by decide, by decide⟩ (by simp only [zsp]; omega)
  have hZ3U : zU [] Z Z3 := zU_u hZ2U hZ3 (Or.inl rfl)
  have hZ3K : zC [1, 2, 95, 96] Z Z3 := zC_u hZ2K hZ3 (zcl_2w (by omega) rfl)
  intro μ9 e9
  replace e9 := e9.trans (zm_wI (Z := Z2) (ν := ν) hZ3 (show ((0 : Nat) : Int) = 0 from rfl) (show ((0 : Nat) : Int) = 0 from rfl) (i3I (y := (3252 + 24 * a1)) (i3A (i3A (show (3250 : Int32) = i3 3250 from rfl) (i3M (show (24 : Int32) = i3 24 from rfl) (rfl : i3 a1 = i3 a1))) (show (2 : Int32) = i3 2 from rfl)) (by omega) (by omega) (by omega)) (show (1 : Int32) = i3 1 from rfl))
  subst e9
  refine wz_i0 (i3O (n := 4400) (i3A (i3A (show (3250 : Int32) = i3 3250 from rfl) (i3M (show (24 : Int32) = i3 24 from rfl) (rfl : i3 a1 = i3 a1))) (show (4 : Int32) = i3 4 from rfl)) (by omega) (by omega) (by omega)) ?_
  have r4 := zM_k hZ3I 2 0 0 0 (lo := 0) (hi := 671) (by decide) rfl
  obtain ⟨Z5, hZ5⟩ := zx (zu Z3 2 0 0 (3254 + 24 * a1) (Z3 2 0 0 0))
  replace hP := zl_e hP hZ5
  have hZ5I := zM_u2 hZ3I hZ5 (lo := -1) (hi := 671) (zs_3250_4 (x := a1) (by omega) (by omega) (by omega)) (by omega) ⟨by decide, by decide⟩ (by simp only [zsp]; omega)
  have hZ5U : zU [] Z Z5 := zU_u hZ3U hZ5 (Or.inl rfl)
  have hZ5K : zC [1, 2, 95, 96] Z Z5 := zC_u hZ3K hZ5 (zcl_2w (by omega) rfl)
  intro μ9 e9
  replace e9 := e9.trans (zm_wI (Z := Z3) (ν := ν) hZ5 (show ((0 : Nat) : Int) = 0 from rfl) (show ((0 : Nat) : Int) = 0 from rfl) (i3I (y := (3254 + 24 * a1)) (i3A (i3A (show (3250 : Int32) = i3 3250 from rfl) (i3M (show (24 : Int32) = i3 24 from rfl) (rfl : i3 a1 = i3 a1))) (show (4 : Int32) = i3 4 from rfl)) (by omega) (by omega) (by omega)) (zm_rd (Z := Z3) (ν := ν) (k := 2) (show ((0 : Nat) : Int) = 0 from rfl) (show ((0 : Nat) : Int) = 0 from rfl) (show ((0 : Nat) : Int) = 0 from rfl)))
  subst e9
  refine wz_i0 (i3O (n := 4400) (i3A (i3A (show (3250 : Int32) = i3 3250 from rfl) (i3M (show (24 : Int32) = i3 24 from rfl) (rfl : i3 a1 = i3 a1))) (show (5 : Int32) = i3 5 from rfl)) (by omega) (by omega) (by omega)) ?_
  have r6 := zM_f hZ5I 1 0 0 25
  obtain ⟨Z7, hZ7⟩ := zx (zu Z5 2 0 0 (3255 + 24 * a1) (Z5 1 0 0 25))
  replace hP := zl_e hP hZ7
  have hZ7I := zM_u2 hZ5I hZ7 (lo := -2147483648) (hi := 2147483647) (zs_3250_5 (x := a1) (by omega) (by omega) (by omega)) (by omega) ⟨by decide, by decide⟩ (by simp only [zsp]; omega)
  have hZ7U : zU [] Z Z7 := zU_u hZ5U hZ7 (Or.inl rfl)
  have hZ7K : zC [1, 2, 95, 96] Z Z7 := zC_u hZ5K hZ7 (zcl_2w (by omega) rfl)
  intro μ9 e9
  replace e9 := e9.trans (zm_wI (Z := Z5) (ν := ν) hZ7 (show ((0 : Nat) : Int) = 0 from rfl) (show ((0 : Nat) : Int) = 0 from rfl) (i3I (y := (3255 + 24 * a1)) (i3A (i3A (show (3250 : Int32) = i3 3250 from rfl) (i3M (show (24 : Int32) = i3 24 from rfl) (rfl : i3 a1 = i3 a1))) (show (5 : Int32) = i3 5 from rfl)) (by omega) (by omega) (by omega)) (zm_rd (Z := Z5) (ν := ν) (k := 1) (show ((0 : Nat) : Int) = 0 from rfl) (show ((0 : Nat) : Int) = 0 from rfl) (show ((25 : Nat) : Int) = 25 from rfl)))
  subst e9
  refine wz_i0 (i3O (n := 4400) (i3A (i3A (show (3250 : Int32) = i3 3250 from rfl) (i3M (show (24 : Int32) = i3 24 from rfl) (rfl : i3 a1 = i3 a1))) (show (7 : Int32) = i3 7 from rfl)) (by omega) (by omega) (by omega)) ?_
  refine wz_i0 (i3O (n := 4400) (i3A (i3A (show (3250 : Int32) = i3 3250 from rfl) (i3M (show (24 : Int32) = i3 24 from rfl) (rfl : i3 a1 = i3 a1))) (show (7 : Int32) = i3 7 from rfl)) (by omega) (by omega) (by omega)) ?_
  have r8 := zM_f hZ7I 2 0 0 (3257 + 24 * a1)
  have r9 := w3_r ((Z7 2 0 0 (3257 + 24 * a1)) + 1)
  obtain ⟨Z10, hZ10⟩ := zx (zu Z7 2 0 0 (3257 + 24 * a1) (w3 ((Z7 2 0 0 (3257 + 24 * a1)) + 1)))
  replace hP := zl_e hP hZ10
  have hZ10I := zM_u2 hZ7I hZ10 (lo := -2147483648) (hi := 2147483647) (zs_3250_7 (x := a1) (by omega) (by omega) (by omega)) (by omega) ⟨by decide, by decide⟩ (by simp only [zsp]; omega)
  have hZ10U : zU [] Z Z10 := zU_u hZ7U hZ10 (Or.inl rfl)
  have hZ10K : zC [1, 2, 95, 96] Z Z10 := zC_u hZ7K hZ10 (zcl_2w (by omega) rfl)
  intro μ9 e9
  replace e9 := e9.trans (zm_wI (Z := Z7) (ν := ν) hZ10 (show ((0 : Nat) : Int) = 0 from rfl) (show ((0 : Nat) : Int) = 0 from rfl) (i3I (y := (3257 + 24 * a1)) (i3A (i3A (show (3250 : Int32) = i3 3250 from rfl) (i3M (show (24 : Int32) = i3 24 from rfl) (rfl : i3 a1 = i3 a1))) (show (7 : Int32) = i3 7 from rfl)) (by omega) (by omega) (by omega)) (i3W (i3A (zm_rd (Z := Z7) (ν := ν) (k := 2) (show ((0 : Nat) : Int) = 0 from rfl) (show ((0 : Nat) : Int) = 0 from rfl) (i3I (y := (3257 + 24 * a1)) (i3A (i3A (show (3250 : Int32) = i3 3250 from rfl) (i3M (show (24 : Int32) = i3 24 from rfl) (rfl : i3 a1 = i3 a1))) (show (7 : Int32) = i3 7 from rfl)) (by omega) (by omega) (by omega))) (show (1 : Int32) = i3 1 from rfl))))
  subst e9
  refine wz_i0 (i3O (n := 4400) (i3A (i3A (show (3250 : Int32) = i3 3250 from rfl) (i3M (show (24 : Int32) = i3 24 from rfl) (rfl : i3 a1 = i3 a1))) (show (8 : Int32) = i3 8 from rfl)) (by omega) (by omega) (by omega)) ?_
  have r11 := zM_k hZ10I 1 0 0 24 (lo := 0) (hi := 5) (by decide) rfl
  obtain ⟨Z12, hZ12⟩ := zx (zu Z10 2 0 0 (3258 + 24 * a1) (Z10 1 0 0 24))
  replace hP := zl_e hP hZ12
  have hZ12I := zM_u2 hZ10I hZ12 (lo := 0) (hi := 5) (zs_3250_8 (x := a1) (by omega) (by omega) (by omega)) (by omega) ⟨by decide, by decide⟩ (by simp only [zsp]; omega)
  have hZ12U : zU [] Z Z12 := zU_u hZ10U hZ12 (Or.inl rfl)
  have hZ12K : zC [1, 2, 95, 96] Z Z12 := zC_u hZ10K hZ12 (zcl_2w (by omega) rfl)
  intro μ9 e9
  replace e9 := e9.trans (zm_wI (Z := Z10) (ν := ν) hZ12 (show ((0 : Nat) : Int) = 0 from rfl) (show ((0 : Nat) : Int) = 0 from rfl) (i3I (y := (3258 + 24 * a1)) (i3A (i3A (show (3250 : Int32) = i3 3250 from rfl) (i3M (show (24 : Int32) = i3 24 from rfl) (rfl : i3 a1 = i3 a1))) (show (8 : Int32) = i3 8 from rfl)) (by omega) (by omega) (by omega)) (zm_rd (Z := Z10) (ν := ν) (k := 1) (show ((0 : Nat) : Int) = 0 from rfl) (show ((0 : Nat) : Int) = 0 from rfl) (show ((24 : Nat) : Int) = 24 from rfl)))
  subst e9
  have r13 := zM_k hZ12I 2 0 0 0 (lo := 0) (hi := 671) (by decide) rfl
  have q14 := (zu_ne (k' := 2) (b' := 0) (i' := 0) (j' := 0) hZ12 (fun q => absurd q.2.2.2 (by omega))).trans ((zu_ne (k' := 2) (b' := 0) (i' := 0) (j' := 0) hZ10 (fun q => absurd q.2.2.2 (by omega))).trans ((zu_ne (k' := 2) (b' := 0) (i' := 0) (j' := 0) hZ7 (fun q => absurd q.2.2.2 (by omega))).trans (zu_ne (k' := 2) (b' := 0) (i' := 0) (j' := 0) hZ5 (fun q => absurd q.2.2.2 (by omega)))))
  refine sl_513_1 (ν := ν) hZ12I (zbh (c := 0) (k := 0) hM (Nat.le_of_ble_eq_true rfl)) zC_r (x1 := a1) (by omega) (x2 := 5) (by omega) (x3 := (Z12 2 0 0 0)) (by omega) (x4 := 0) (by omega) zU_r (by omega) (zconso rfl (zconso (zvo (rfl : i3 a1 = i3 a1)) (zconso (zvo (show (5 : Int32) = i3 5 from rfl)) (zconso (zvo (zm_rd (Z := Z12) (ν := ν) (k := 2) (show ((0 : Nat) : Int) = 0 from rfl) (show ((0 : Nat) : Int) = 0 from rfl) (show ((0 : Nat) : Int) = 0 from rfl))) (zconso (zvo (show (0 : Int32) = i3 0 from rfl)) rfl))))) rfl ?_
  intro L19 Z18 y15 y16 y17 hL19 hZ18I kZ18 jZ18 gy15 gy16 gy17 gL19_0 q9
  replace hP := zl_e4 hP (Eq.symm q9)
  clear q9
  have hZ18U : zU [] Z Z18 := zU_t hZ12U jZ18 zU_b0
  have hZ18K : zC [1, 2, 95, 96] Z Z18 := zC_t hZ12K kZ18 (by decide)
  refine fc_513_2 (i3 a1) (i3 y15) (i3 y16) _ _ _ _ hL19 ?_
  refine wz_i0 (i3O (n := 4400) (i3A (i3A (show (3210 : Int32) = i3 3210 from rfl) (i3M (show (6 : Int32) = i3 6 from rfl) (rfl : i3 y15 = i3 y15))) (show (5 : Int32) = i3 5 from rfl)) (by omega) (by omega) (by omega)) ?_
  refine wz_i0 (i3O (n := 4400) (i3A (i3A (show (3250 : Int32) = i3 3250 from rfl) (i3M (show (24 : Int32) = i3 24 from rfl) (rfl : i3 a1 = i3 a1))) (show (19 : Int32) = i3 19 from rfl)) (by omega) (by omega) (by omega)) ?_
  have r20 := zM_k hZ18I 2 0 0 (3215 + 6 * y15) (lo := 0) (hi := 12) (by decide) (zs_3210 (by omega) (by omega))
  obtain ⟨Z21, hZ21⟩ := zx (zu Z18 2 0 0 (3269 + 24 * a1) (y16 + (Z18 2 0 0 (3215 + 6 * y15))))
  replace hP := zl_e hP hZ21
  have hZ21I := zM_u2 hZ18I hZ21 (lo := 0) (hi := 743) (zs_3250_19 (x := a1) (by omega) (by omega) (by omega)) (by omega) ⟨by decide, by decide⟩ (by simp only [zsp]; omega)
  have hZ21U : zU [] Z Z21 := zU_u hZ18U hZ21 (Or.inl rfl)
  have hZ21K : zC [1, 2, 95, 96] Z Z21 := zC_u hZ18K hZ21 (zcl_2w (by omega) rfl)
  intro μ9 e9
  replace e9 := e9.trans (zm_wI (Z := Z18) (ν := ν) hZ21 (show ((0 : Nat) : Int) = 0 from rfl) (show ((0 : Nat) : Int) = 0 from rfl) (i3I (y := (3269 + 24 * a1)) (i3A (i3A (show (3250 : Int32) = i3 3250 from rfl) (i3M (show (24 : Int32) = i3 24 from rfl) (rfl : i3 a1 = i3 a1))) (show (19 : Int32) = i3 19 from rfl)) (by omega) (by omega) (by omega)) (i3A (rfl : i3 y16 = i3 y16) (zm_rd (Z := Z18) (ν := ν) (k := 2) (show ((0 : Nat) : Int) = 0 from rfl) (show ((0 : Nat) : Int) = 0 from rfl) (i3I (y := (3215 + 6 * y15)) (i3A (i3A (show (3210 : Int32) = i3 3210 from rfl) (i3M (show (6 : Int32) = i3 6 from rfl) (rfl : i3 y15 = i3 y15))) (show (5 : Int32) = i3 5 from rfl)) (by omega) (by omega) (by omega)))))
  subst e9
  exact zlV hP ⟨hZ21I, hZ21K, hZ21U⟩
/- yX12_tGo -/
def zl_512_1 : Nat → qz_Z → Int → qz_Z × Int
  | 0, Z, x1 => (Z, x1)
  | m + 1, Z, x1 => (if (Z 2 0 0 3200) ≤ x1 then (Z, x1) else (if (Z 2 0 0 (3252 + 24 * x1)) ≠ 1 then (if (Z 2 0 0 (3253 + 24 * x1)) ≠ (Z 2 0 0 0) then zl_512_1 m Z (x1 + 1) else (zlet (zu Z 2 0 0 (3253 + 24 * x1) (-1)) (fun Z8 => (zlet (zf_518 Z8 x1 0) (fun v9 => (if v9 ≤ 0 then zl_512_1 m Z8 (x1 + 1) else (zlet (zf_513 Z8 x1) (fun Z11 => zl_512_1 m Z11 (x1 + 1))))))))) else zl_512_1 m Z (x1 + 1)))
theorem sl_512_1 {s : zSM} {Zs Z : qz_Z} {ν : qz_N} (hZ : zM s Z) (hM : s.2 + 0 ≤ 1000000000) (hK : zC [1, 2, 95, 96] Zs Z) {x1 : Int} (gx1 : 0 ≤ x1 ∧ x1 ≤ 4) (hU : zU [] Zs Z) {k : wz_K} {R : wz_R} {L : qz_L} (hL : qz_fg [true, true] L = [some (.inr (.inr (some (1, 0, 0)))), some (.inl (i3 x1))]) {T : qz_Z × Int} (hP : zE T (zl_512_1 ((4 - x1).toNat + 1) Z x1)) (hk : ∀ (L9 : qz_L) (Z9 : qz_Z) (yx1 : Int), qz_fg [false, false] L9 = [none, none] → zM s Z9 → zC [1, 2, 95, 96] Zs Z9 → zU [] Zs Z9 → (0 ≤ yx1 ∧ yx1 ≤ 4) → zE T ((Z9, yx1)) → k 0 (L9, [], zm Z9 ν)) : wz_loop qb_512_1 65536 k R (L, [], zm Z ν) := by
  refine wz_lp sb_512_1 (fun m x => ∃ Z : qz_Z, ∃ x1 : Int, qz_fg [true, true] x.1 = [some (.inr (.inr (some (1, 0, 0)))), some (.inl (i3 x1))] ∧ x.2 = ([], zm Z ν) ∧ zM s Z ∧ zC [1, 2, 95, 96] Zs Z ∧ zU [] Zs Z ∧ m = (4 - x1).toNat ∧ (0 ≤ x1 ∧ x1 ≤ 4) ∧ zE T (zl_512_1 (m + 1) Z x1)) ?_ 65536 ((4 - x1).toNat) _ (by omega) ⟨Z, x1, hL, rfl, hZ, hK, hU, rfl, gx1, hP⟩
  clear hP gx1 hZ hK hU hL
  clear x1
  clear Z
  rintro m ⟨L, st, μ⟩ ⟨Z, x1, hL, hx, hZ, hK, hU, hm, gx1, hP⟩
  cases hx
  refine fb_512_1 (i3 x1) _ _ _ _ hL ?_
  have r1 := zM_k hZ 2 0 0 3200 (lo := 0) (hi := 4) (by decide) rfl
  refine wz_br (i3Le (zm_rd (Z := Z) (ν := ν) (k := 2) (show ((0 : Nat) : Int) = 0 from rfl) (show ((0 : Nat) : Int) = 0 from rfl) (show ((3200 : Nat) : Int) = 3200 from rfl)) (rfl : i3 x1 = i3 x1) (by omega) (by omega) (by omega) (by omega)) (fun h2 => ?_) (fun h2 => ?_)
  · replace hP := zE_p hP h2
    exact hk _ _ _ (zconso rfl (zconso rfl rfl)) hZ hK hU (by omega)  hP
  · replace hP := zE_n hP h2
    refine wz_i0 (i3O (n := 4400) (i3A (i3A (show (3250 : Int32) = i3 3250 from rfl) (i3M (show (24 : Int32) = i3 24 from rfl) (rfl : i3 x1 = i3 x1))) (show (2 : Int32) = i3 2 from rfl)) (by omega) (by omega) (by omega)) ?_
    have r3 := zM_k hZ 2 0 0 (3252 + 24 * x1) (lo := 0) (hi := 1) (by decide) (zs_3250_2 (x := x1) (by omega) (by omega) (by omega))
    refine wz_br (i3NE (zm_rd (Z := Z) (ν := ν) (k := 2) (show ((0 : Nat) : Int) = 0 from rfl) (show ((0 : Nat) : Int) = 0 from rfl) (i3I (y := (3252 + 24 * x1)) (i3A (i3A (show (3250 : Int32) = i3 3250 from rfl) (i3M (show (24 : Int32) = i3 24 from rfl) (rfl : i3 x1 = i3 x1))) (show (2 : Int32) = i3 2 from rfl)) (by omega) (by omega) (by omega))) (show (1 : Int32) = i3 1 from rfl) (by omega) (by omega) (by omega) (by omega)) (fun h4 => ?_) (fun h4 => ?_)
    · replace hP := zE_p hP h4
      refine wz_i0 (i3O (n := 4400) (i3A (i3A (show (3250 : Int32) = i3 3250 from rfl) (i3M (show (24 : Int32) = i3 24 from rfl) (rfl : i3 x1 = i3 x1))) (show (3 : Int32) = i3 3 from rfl)) (by omega) (by omega) (by omega)) ?_
      have r5 := zM_k hZ 2 0 0 (3253 + 24 * x1) (lo := -1) (hi := 671) (by decide) (zs_3250_3 (x := x1) (by omega) (by omega) (by omega))
      have r6 := zM_k hZ 2 0 0 0 (lo := 0) (hi := 671) (by decide) rfl
      refine wz_br (i3NE (zm_rd (Z := Z) (ν := ν) (k := 2) (show ((0 : Nat) : Int) = 0 from rfl) (show ((0 : Nat) : Int) = 0 from rfl) (i3I (y := (3253 + 24 * x1)) (i3A (i3A (show (3250 : Int32) = i3 3250 from rfl) (i3M (show (24 : Int32) = i3 24 from rfl) (rfl : i3 x1 = i3 x1))) (show (3 : Int32) = i3 3 from rfl)) (by omega) (by omega) (by omega))) (zm_rd (Z := Z) (ν := ν) (k := 2) (show ((0 : Nat) : Int) = 0 from rfl) (show ((0 : Nat) : Int) = 0 from rfl) (show ((0 : Nat) : Int) = 0 from rfl)) (by omega) (by omega) (by omega) (by omega)) (fun h7 => ?_) (fun h7 => ?_)
      · replace hP := zE_p hP h7
        obtain ⟨m2, rfl⟩ : ∃ m2, m = m2 + 1 := ⟨m - 1, by omega⟩
        exact wz_k1 ⟨m2, by omega, Z, (x1 + 1), (zconso rfl (zconso (zvo (i3A (rfl : i3 x1 = i3 x1) (show (1 : Int32) = i3 1 from rfl))) rfl)), rfl, hZ, hK, hU, by omega, by omega,  hP⟩
      · replace hP := zE_n hP h7
        refine wz_i0 (i3O (n := 4400) (i3A (i3A (show (3250 : Int32) = i3 3250 from rfl) (i3M (show (24 : Int32) = i3 24 from rfl) (rfl : i3 x1 = i3 x1))) (show (3 : Int32) = i3 3 from rfl)) (by omega) (by omega) (by omega)) ?_
        obtain ⟨Z8, hZ8⟩ := zx (zu Z 2 0 0 (3253 + 24 * x1) (-1))
        replace hP := zl_e hP hZ8
        have hZ8I := zM_u2 hZ hZ8 (lo := -1) (hi := 671) (zs_3250_3 (x := x1) (by omega) (by omega) (by omega)) (by omega) ⟨by decide, by decide⟩ (by simp only [zsp]; omega)
        have hZ8U : zU [] Zs Z8 := zU_u hU hZ8 (Or.inl rfl)
        have hZ8K : zC [1, 2, 95, 96] Zs Z8 := zC_u hK hZ8 (zcl_2w (by omega) rfl)
        intro μ9 e9
        replace e9 := e9.trans (zm_wI (Z := Z) (ν := ν) hZ8 (show ((0 : Nat) : Int) = 0 from rfl) (show ((0 : Nat) : Int) = 0 from rfl) (i3I (y := (3253 + 24 * x1)) (i3A (i3A (show (3250 : Int32) = i3 3250 from rfl) (i3M (show (24 : Int32) = i3 24 from rfl) (rfl : i3 x1 = i3 x1))) (show (3 : Int32) = i3 3 from rfl)) (by omega) (by omega) (by omega)) (show (-1 : Int32) = i3 (-1) from rfl))
        subst e9
        obtain ⟨v9, hv9, c9, lv9, uv9⟩ := sp_518 (ν := ν) hZ8I (a1 := x1) (by omega) (a2 := 0) (by omega) (zbh (c := 0) (k := 0) hM (Nat.le_of_ble_eq_true rfl))
        replace hP := zl_e hP hv9
        refine wz_cI_of (zas (zcons rfl (zcons (zvi (rfl : i3 x1 = i3 x1)) (zcons (zvi (show (0 : Int32) = i3 0 from rfl)) rfl))) c9) ?_
        clear c9
        refine wz_br (i3Le (rfl : i3 v9 = i3 v9) (show (0 : Int32) = i3 0 from rfl) (by omega) (by omega) (by omega) (by omega)) (fun h10 => ?_) (fun h10 => ?_)
        · replace hP := zE_p hP h10
          obtain ⟨m2, rfl⟩ : ∃ m2, m = m2 + 1 := ⟨m - 1, by omega⟩
          exact wz_k1 ⟨m2, by omega, Z8, (x1 + 1), (zconso rfl (zconso (zvo (i3A (rfl : i3 x1 = i3 x1) (show (1 : Int32) = i3 1 from rfl))) rfl)), rfl, hZ8I, hZ8K, hZ8U, by omega, by omega,  hP⟩
        · replace hP := zE_n hP h10
          obtain ⟨Z11, hZ11, c9, hZ11I, kZ11, jZ11⟩ := sp_513 (ν := ν) hZ8I (a1 := x1) (by omega) (zbh (c := 0) (k := 0) hM (Nat.le_of_ble_eq_true rfl))
          have hZ11U : zU [] Zs Z11 := zU_t hZ8U jZ11 zU_b0
          have hZ11K : zC [1, 2, 95, 96] Zs Z11 := zC_t hZ8K kZ11 (by decide)
          replace hP := zl_e hP hZ11
          refine wz_cV_of (zas (zcons rfl (zcons (zvi (rfl : i3 x1 = i3 x1)) rfl)) c9) ?_
          clear c9
          obtain ⟨m2, rfl⟩ : ∃ m2, m = m2 + 1 := ⟨m - 1, by omega⟩
          exact wz_k1 ⟨m2, by omega, Z11, (x1 + 1), (zconso rfl (zconso (zvo (i3A (rfl : i3 x1 = i3 x1) (show (1 : Int32) = i3 1 from rfl))) rfl)), rfl, hZ11I, hZ11K, hZ11U, by omega, by omega,  hP⟩
    · replace hP := zE_n hP h4
      obtain ⟨m2, rfl⟩ : ∃ m2, m = m2 + 1 := ⟨m - 1, by omega⟩
      exact wz_k1 ⟨m2, by omega, Z, (x1 + 1), (zconso rfl (zconso (zvo (i3A (rfl : i3 x1 = i3 x1) (show (1 : Int32) = i3 1 from rfl))) rfl)), rfl, hZ, hK, hU, by omega, by omega,  hP⟩
/- yX12_tGo -/
def zf_512 (Z : qz_Z) : qz_Z := (zlet2 (zl_512_1 5 Z 0) (fun Z2 y1 => Z2))
theorem sp_512 {s : zSM} {Z : qz_Z} {ν : qz_N} (hZ : zM s Z) (hM : s.2 + 0 ≤ 1000000000) : ∃ P : qz_Z, P = zf_512 Z ∧ (qf_512 [.inr (.inr (some (1, 0, 0)))] (zm Z ν) = some (zm P ν, .inl none) ∧ zM s P ∧ zC [1, 2, 95, 96] Z P ∧ zU [] Z P) := by
  obtain ⟨P, hP⟩ := zx (zf_512 Z)
  refine zc_V (Q := fun P => zM s P ∧ zC [1, 2, 95, 96] Z P ∧ zU [] Z P) hP (fw_512  _ _ ?_)
  replace hP : zE P (zf_512 Z) := hP
  unfold zf_512 at hP
  refine sl_512_1 (ν := ν) hZ (zbh (c := 0) (k := 0) hM (Nat.le_of_ble_eq_true rfl)) zC_r (x1 := 0) (by omega) zU_r  (zconso rfl (zconso (zvo (show (0 : Int32) = i3 0 from rfl)) rfl)) rfl ?_
  intro L3 Z2 y1 hL3 hZ2I kZ2 jZ2 gy1 q9
  replace hP := zl_e2 hP (Eq.symm q9)
  clear q9
  have hZ2U : zU [] Z Z2 := zU_t zU_r jZ2 zU_b0
  have hZ2K : zC [1, 2, 95, 96] Z Z2 := zC_t zC_r kZ2 (by decide)
  refine fc_512_2  _ _ _ _ hL3 ?_
  exact zlV hP ⟨hZ2I, hZ2K, hZ2U⟩
/- yX12_bFirstDue -/
def zl_269_1 (x1 : Int) (x2 : Int) (x3 : Int) (x4 : Int) : Nat → qz_Z → Int → Int → Int × Int
  | 0, Z, x5, x6 => (x5, x6)
  | m + 1, Z, x5, x6 => (if (Z 2 0 0 2000) ≤ x6 then (x5, x6) else (if (Z 2 0 0 (2011 + 16 * x6)) ≠ x1 then zl_269_1 x1 x2 x3 x4 m Z x5 (x6 + 1) else (if (Z 2 0 0 (1810 + 2 * x6)) ≤ 0 then zl_269_1 x1 x2 x3 x4 m Z x5 (x6 + 1) else (if x2 < (Z 2 0 0 (1811 + 2 * x6)) then zl_269_1 x1 x2 x3 x4 m Z x5 (x6 + 1) else (if x3 < (Z 2 0 0 (1811 + 2 * x6)) then (if x5 = (-1) then zl_269_1 x1 x2 x3 x4 m Z x6 (x6 + 1) else (if (Z 2 0 0 (1811 + 2 * x5)) ≤ (Z 2 0 0 (1811 + 2 * x6)) then zl_269_1 x1 x2 x3 x4 m Z x5 (x6 + 1) else zl_269_1 x1 x2 x3 x4 m Z x6 (x6 + 1))) else (if (Z 2 0 0 (1811 + 2 * x6)) ≠ x3 then zl_269_1 x1 x2 x3 x4 m Z x5 (x6 + 1) else (if x6 ≤ x4 then zl_269_1 x1 x2 x3 x4 m Z x5 (x6 + 1) else (if x5 = (-1) then zl_269_1 x1 x2 x3 x4 m Z x6 (x6 + 1) else (if (Z 2 0 0 (1811 + 2 * x5)) ≤ (Z 2 0 0 (1811 + 2 * x6)) then zl_269_1 x1 x2 x3 x4 m Z x5 (x6 + 1) else zl_269_1 x1 x2 x3 x4 m Z x6 (x6 + 1))))))))))
theorem sl_269_1 {s : zSM} {Z : qz_Z} {ν : qz_N} (hZ : zM s Z) (hM : s.2 + 0 ≤ 1000000000) {x1 : Int} (gx1 : 0 ≤ x1 ∧ x1 ≤ 7) {x2 : Int} (gx2 : -1 ≤ x2 ∧ x2 ≤ 27) {x3 : Int} (gx3 : -1 ≤ x3 ∧ x3 ≤ 41) {x4 : Int} (gx4 : -1 ≤ x4 ∧ x4 ≤ 59) {x5 : Int} (gx5 : -1 ≤ x5 ∧ x5 ≤ 59) {x6 : Int} (gx6 : 0 ≤ x6 ∧ x6 ≤ 60) (gr0 : x5 = -1 ∨ x3 < Z 2 0 0 (1811 + 2 * x5) ∨ Z 2 0 0 (1811 + 2 * x5) = x3 ∧ x4 < x5) {k : wz_K} {R : wz_R} {L : qz_L} (hL : qz_fg [true, true, true, true, true, true, true, false, false] L = [some (.inr (.inr (some (1, 0, 0)))), some (.inl (i3 x1)), some (.inl (i3 x2)), some (.inl (i3 x3)), some (.inl (i3 x4)), some (.inl (i3 x5)), some (.inl (i3 x6)), none, none]) {T : Int × Int} (hP : zE T (zl_269_1 x1 x2 x3 x4 ((60 - x6).toNat + 1) Z x5 x6)) (hk : ∀ (L9 : qz_L) (yx5 yx6 : Int), qz_fg [false, false, false, false, false, true, false, false, false] L9 = [none, none, none, none, none, some (.inl (i3 yx5)), none, none, none] → (-1 ≤ yx5 ∧ yx5 ≤ 59) → (0 ≤ yx6 ∧ yx6 ≤ 60) → (yx5 = -1 ∨ x3 < Z 2 0 0 (1811 + 2 * yx5) ∨ Z 2 0 0 (1811 + 2 * yx5) = x3 ∧ x4 < yx5) → zE T ((yx5, yx6)) → k 0 (L9, [], zm Z ν)) : wz_loop qb_269_1 65536 k R (L, [], zm Z ν) := by
  refine wz_lp sb_269_1 (fun m x => ∃ x5 : Int, ∃ x6 : Int, qz_fg [true, true, true, true, true, true, true, false, false] x.1 = [some (.inr (.inr (some (1, 0, 0)))), some (.inl (i3 x1)), some (.inl (i3 x2)), some (.inl (i3 x3)), some (.inl (i3 x4)), some (.inl (i3 x5)), some (.inl (i3 x6)), none, none] ∧ x.2 = ([], zm Z ν) ∧ m = (60 - x6).toNat ∧ (-1 ≤ x5 ∧ x5 ≤ 59) ∧ (0 ≤ x6 ∧ x6 ≤ 60) ∧ (x5 = -1 ∨ x3 < Z 2 0 0 (1811 + 2 * x5) ∨ Z 2 0 0 (1811 + 2 * x5) = x3 ∧ x4 < x5) ∧ zE T (zl_269_1 x1 x2 x3 x4 (m + 1) Z x5 x6)) ?_ 65536 ((60 - x6).toNat) _ (by omega) ⟨x5, x6, hL, rfl, rfl, gx5, gx6, gr0, hP⟩
  clear hP gr0 gx5 gx6 hL
  clear x5 x6
  rintro m ⟨L, st, μ⟩ ⟨x5, x6, hL, hx, hm, gx5, gx6, gr0, hP⟩
  cases hx
  refine fb_269_1 (i3 x1) (i3 x2) (i3 x3) (i3 x4) (i3 x5) (i3 x6) _ _ _ _ hL ?_
  have r1 := zM_f hZ 2 0 0 (1811 + 2 * x5)
  have r2 := zM_k hZ 2 0 0 2000 (lo := 0) (hi := 60) (by decide) rfl
  refine wz_br (i3Le (zm_rd (Z := Z) (ν := ν) (k := 2) (show ((0 : Nat) : Int) = 0 from rfl) (show ((0 : Nat) : Int) = 0 from rfl) (show ((2000 : Nat) : Int) = 2000 from rfl)) (rfl : i3 x6 = i3 x6) (by omega) (by omega) (by omega) (by omega)) (fun h3 => ?_) (fun h3 => ?_)
  · replace hP := zE_p hP h3
    exact hk _ _ _ (zconso rfl (zconso rfl (zconso rfl (zconso rfl (zconso rfl (zconso (zvo (rfl : i3 x5 = i3 x5)) (zconso rfl (zconso rfl (zconso rfl rfl)))))))))  (by omega) (by omega) (by omega) hP
  · replace hP := zE_n hP h3
    refine wz_i0 (i3O (n := 4400) (i3A (i3A (show (1810 : Int32) = i3 1810 from rfl) (i3M (show (2 : Int32) = i3 2 from rfl) (rfl : i3 x6 = i3 x6))) (show (1 : Int32) = i3 1 from rfl)) (by omega) (by omega) (by omega)) ?_
    refine wz_i0 (i3O (n := 4400) (i3A (i3A (show (2010 : Int32) = i3 2010 from rfl) (i3M (show (16 : Int32) = i3 16 from rfl) (rfl : i3 x6 = i3 x6))) (show (1 : Int32) = i3 1 from rfl)) (by omega) (by omega) (by omega)) ?_
    have r4 := zM_k hZ 2 0 0 (2011 + 16 * x6) (lo := 0) (hi := 7) (by decide) (zs_2010_1 (x := x6) (by omega) (by omega) (by omega))
    refine wz_br (i3NE (zm_rd (Z := Z) (ν := ν) (k := 2) (show ((0 : Nat) : Int) = 0 from rfl) (show ((0 : Nat) : Int) = 0 from rfl) (i3I (y := (2011 + 16 * x6)) (i3A (i3A (show (2010 : Int32) = i3 2010 from rfl) (i3M (show (16 : Int32) = i3 16 from rfl) (rfl : i3 x6 = i3 x6))) (show (1 : Int32) = i3 1 from rfl)) (by omega) (by omega) (by omega))) (rfl : i3 x1 = i3 x1) (by omega) (by omega) (by omega) (by omega)) (fun h5 => ?_) (fun h5 => ?_)
    · replace hP := zE_p hP h5
      obtain ⟨m2, rfl⟩ : ∃ m2, m = m2 + 1 := ⟨m - 1, by omega⟩
      exact wz_k1 ⟨m2, by omega, x5, (x6 + 1), (zconso rfl (zconso (zvo (rfl : i3 x1 = i3 x1)) (zconso (zvo (rfl : i3 x2 = i3 x2)) (zconso (zvo (rfl : i3 x3 = i3 x3)) (zconso (zvo (rfl : i3 x4 = i3 x4)) (zconso (zvo (rfl : i3 x5 = i3 x5)) (zconso (zvo (i3A (rfl : i3 x6 = i3 x6) (show (1 : Int32) = i3 1 from rfl))) (zconso rfl (zconso rfl rfl))))))))), rfl,  by omega, by omega, by omega, by omega,  hP⟩
    · replace hP := zE_n hP h5
      refine wz_i0 (i3O (n := 4400) (i3A (show (1810 : Int32) = i3 1810 from rfl) (i3M (show (2 : Int32) = i3 2 from rfl) (rfl : i3 x6 = i3 x6))) (by omega) (by omega) (by omega)) ?_
      have r6 := zM_f hZ 2 0 0 (1810 + 2 * x6)
      refine wz_br (i3Le (zm_rd (Z := Z) (ν := ν) (k := 2) (show ((0 : Nat) : Int) = 0 from rfl) (show ((0 : Nat) : Int) = 0 from rfl) (i3I (y := (1810 + 2 * x6)) (i3A (show (1810 : Int32) = i3 1810 from rfl) (i3M (show (2 : Int32) = i3 2 from rfl) (rfl : i3 x6 = i3 x6))) (by omega) (by omega) (by omega))) (show (0 : Int32) = i3 0 from rfl) (by omega) (by omega) (by omega) (by omega)) (fun h7 => ?_) (fun h7 => ?_)
      · replace hP := zE_p hP h7
        obtain ⟨m2, rfl⟩ : ∃ m2, m = m2 + 1 := ⟨m - 1, by omega⟩
        exact wz_k1 ⟨m2, by omega, x5, (x6 + 1), (zconso rfl (zconso (zvo (rfl : i3 x1 = i3 x1)) (zconso (zvo (rfl : i3 x2 = i3 x2)) (zconso (zvo (rfl : i3 x3 = i3 x3)) (zconso (zvo (rfl : i3 x4 = i3 x4)) (zconso (zvo (rfl : i3 x5 = i3 x5)) (zconso (zvo (i3A (rfl : i3 x6 = i3 x6) (show (1 : Int32) = i3 1 from rfl))) (zconso rfl (zconso rfl rfl))))))))), rfl,  by omega, by omega, by omega, by omega,  hP⟩
      · replace hP := zE_n hP h7
        have r8 := zM_k hZ 2 0 0 (1811 + 2 * x6) (lo := 0) (hi := 41) (by decide) (zs_1810_1 (x := x6) (by omega) (by omega) (by omega))
        refine wz_br (i3L (rfl : i3 x2 = i3 x2) (zm_rd (Z := Z) (ν := ν) (k := 2) (show ((0 : Nat) : Int) = 0 from rfl) (show ((0 : Nat) : Int) = 0 from rfl) (i3I (y := (1811 + 2 * x6)) (i3A (i3A (show (1810 : Int32) = i3 1810 from rfl) (i3M (show (2 : Int32) = i3 2 from rfl) (rfl : i3 x6 = i3 x6))) (show (1 : Int32) = i3 1 from rfl)) (by omega) (by omega) (by omega))) (by omega) (by omega) (by omega) (by omega)) (fun h9 => ?_) (fun h9 => ?_)
        · replace hP := zE_p hP h9
          obtain ⟨m2, rfl⟩ : ∃ m2, m = m2 + 1 := ⟨m - 1, by omega⟩
          exact wz_k1 ⟨m2, by omega, x5, (x6 + 1), (zconso rfl (zconso (zvo (rfl : i3 x1 = i3 x1)) (zconso (zvo (rfl : i3 x2 = i3 x2)) (zconso (zvo (rfl : i3 x3 = i3 x3)) (zconso (zvo (rfl : i3 x4 = i3 x4)) (zconso (zvo (rfl : i3 x5 = i3 x5)) (zconso (zvo (i3A (rfl : i3 x6 = i3 x6) (show (1 : Int32) = i3 1 from rfl))) (zconso rfl (zconso rfl rfl))))))))), rfl,  by omega, by omega, by omega, by omega,  hP⟩
        · replace hP := zE_n hP h9
          refine wz_br (i3L (rfl : i3 x3 = i3 x3) (zm_rd (Z := Z) (ν := ν) (k := 2) (show ((0 : Nat) : Int) = 0 from rfl) (show ((0 : Nat) : Int) = 0 from rfl) (i3I (y := (1811 + 2 * x6)) (i3A (i3A (show (1810 : Int32) = i3 1810 from rfl) (i3M (show (2 : Int32) = i3 2 from rfl) (rfl : i3 x6 = i3 x6))) (show (1 : Int32) = i3 1 from rfl)) (by omega) (by omega) (by omega))) (by omega) (by omega) (by omega) (by omega)) (fun h10 => ?_) (fun h10 => ?_)
          · replace hP := zE_p hP h10
            refine wz_br (i3E (rfl : i3 x5 = i3 x5) (show (-1 : Int32) = i3 (-1) from rfl) (by omega) (by omega) (by omega) (by omega)) (fun h11 => ?_) (fun h11 => ?_)
            · replace hP := zE_p hP h11
              obtain ⟨m2, rfl⟩ : ∃ m2, m = m2 + 1 := ⟨m - 1, by omega⟩
              exact wz_k1 ⟨m2, by omega, x6, (x6 + 1), (zconso rfl (zconso (zvo (rfl : i3 x1 = i3 x1)) (zconso (zvo (rfl : i3 x2 = i3 x2)) (zconso (zvo (rfl : i3 x3 = i3 x3)) (zconso (zvo (rfl : i3 x4 = i3 x4)) (zconso (zvo (rfl : i3 x6 = i3 x6)) (zconso (zvo (i3A (rfl : i3 x6 = i3 x6) (show (1 : Int32) = i3 1 from rfl))) (zconso rfl (zconso rfl rfl))))))))), rfl,  by omega, by omega, by omega, by omega,  hP⟩
            · replace hP := zE_n hP h11
              refine wz_i0 (i3O (n := 4400) (i3A (i3A (show (1810 : Int32) = i3 1810 from rfl) (i3M (show (2 : Int32) = i3 2 from rfl) (rfl : i3 x5 = i3 x5))) (show (1 : Int32) = i3 1 from rfl)) (by omega) (by omega) (by omega)) ?_
              have r12 := zM_k hZ 2 0 0 (1811 + 2 * x5) (lo := 0) (hi := 41) (by decide) (zs_1810_1 (x := x5) (by omega) (by omega) (by omega))
              refine wz_br (i3Le (zm_rd (Z := Z) (ν := ν) (k := 2) (show ((0 : Nat) : Int) = 0 from rfl) (show ((0 : Nat) : Int) = 0 from rfl) (i3I (y := (1811 + 2 * x5)) (i3A (i3A (show (1810 : Int32) = i3 1810 from rfl) (i3M (show (2 : Int32) = i3 2 from rfl) (rfl : i3 x5 = i3 x5))) (show (1 : Int32) = i3 1 from rfl)) (by omega) (by omega) (by omega))) (zm_rd (Z := Z) (ν := ν) (k := 2) (show ((0 : Nat) : Int) = 0 from rfl) (show ((0 : Nat) : Int) = 0 from rfl) (i3I (y := (1811 + 2 * x6)) (i3A (i3A (show (1810 : Int32) = i3 1810 from rfl) (i3M (show (2 : Int32) = i3 2 from rfl) (rfl : i3 x6 = i3 x6))) (show (1 : Int32) = i3 1 from rfl)) (by omega) (by omega) (by omega))) (by omega) (by omega) (by omega) (by omega)) (fun h13 => ?_) (fun h13 => ?_)
              · replace hP := zE_p hP h13
                obtain ⟨m2, rfl⟩ : ∃ m2, m = m2 + 1 := ⟨m - 1, by omega⟩
                exact wz_k1 ⟨m2, by omega, x5, (x6 + 1), (zconso rfl (zconso (zvo (rfl : i3 x1 = i3 x1)) (zconso (zvo (rfl : i3 x2 = i3 x2)) (zconso (zvo (rfl : i3 x3 = i3 x3)) (zconso (zvo (rfl : i3 x4 = i3 x4)) (zconso (zvo (rfl : i3 x5 = i3 x5)) (zconso (zvo (i3A (rfl : i3 x6 = i3 x6) (show (1 : Int32) = i3 1 from rfl))) (zconso rfl (zconso rfl rfl))))))))), rfl,  by omega, by omega, by omega, by omega,  hP⟩
              · replace hP := zE_n hP h13
                obtain ⟨m2, rfl⟩ : ∃ m2, m = m2 + 1 := ⟨m - 1, by omega⟩
                exact wz_k1 ⟨m2, by omega, x6, (x6 + 1), (zconso rfl (zconso (zvo (rfl : i3 x1 = i3 x1)) (zconso (zvo (rfl : i3 x2 = i3 x2)) (zconso (zvo (rfl : i3 x3 = i3 x3)) (zconso (zvo (rfl : i3 x4 = i3 x4)) (zconso (zvo (rfl : i3 x6 = i3 x6)) (zconso (zvo (i3A (rfl : i3 x6 = i3 x6) (show (1 : Int32) = i3 1 from rfl))) (zconso rfl (zconso rfl rfl))))))))), rfl,  by omega, by omega, by omega, by omega,  hP⟩
          · replace hP := zE_n hP h10
            refine wz_br (i3NE (zm_rd (Z := Z) (ν := ν) (k := 2) (show ((0 : Nat) : Int) = 0 from rfl) (show ((0 : Nat) : Int) = 0 from rfl) (i3I (y := (1811 + 2 * x6)) (i3A (i3A (show (1810 : Int32) = i3 1810 from rfl) (i3M (show (2 : Int32) = i3 2 from rfl) (rfl : i3 x6 = i3 x6))) (show (1 : Int32) = i3 1 from rfl)) (by omega) (by omega) (by omega))) (rfl : i3 x3 = i3 x3) (by omega) (by omega) (by omega) (by omega)) (fun h14 => ?_) (fun h14 => ?_)
            · replace hP := zE_p hP h14
              obtain ⟨m2, rfl⟩ : ∃ m2, m = m2 + 1 := ⟨m - 1, by omega⟩
              exact wz_k1 ⟨m2, by omega, x5, (x6 + 1), (zconso rfl (zconso (zvo (rfl : i3 x1 = i3 x1)) (zconso (zvo (rfl : i3 x2 = i3 x2)) (zconso (zvo (rfl : i3 x3 = i3 x3)) (zconso (zvo (rfl : i3 x4 = i3 x4)) (zconso (zvo (rfl : i3 x5 = i3 x5)) (zconso (zvo (i3A (rfl : i3 x6 = i3 x6) (show (1 : Int32) = i3 1 from rfl))) (zconso rfl (zconso rfl rfl))))))))), rfl,  by omega, by omega, by omega, by omega,  hP⟩
            · replace hP := zE_n hP h14
              refine wz_br (i3Le (rfl : i3 x6 = i3 x6) (rfl : i3 x4 = i3 x4) (by omega) (by omega) (by omega) (by omega)) (fun h15 => ?_) (fun h15 => ?_)
              · replace hP := zE_p hP h15
                obtain ⟨m2, rfl⟩ : ∃ m2, m = m2 + 1 := ⟨m - 1, by omega⟩
                exact wz_k1 ⟨m2, by omega, x5, (x6 + 1), (zconso rfl (zconso (zvo (rfl : i3 x1 = i3 x1)) (zconso (zvo (rfl : i3 x2 = i3 x2)) (zconso (zvo (rfl : i3 x3 = i3 x3)) (zconso (zvo (rfl : i3 x4 = i3 x4)) (zconso (zvo (rfl : i3 x5 = i3 x5)) (zconso (zvo (i3A (rfl : i3 x6 = i3 x6) (show (1 : Int32) = i3 1 from rfl))) (zconso rfl (zconso rfl rfl))))))))), rfl,  by omega, by omega, by omega, by omega,  hP⟩
              · replace hP := zE_n hP h15
                refine wz_br (i3E (rfl : i3 x5 = i3 x5) (show (-1 : Int32) = i3 (-1) from rfl) (by omega) (by omega) (by omega) (by omega)) (fun h16 => ?_) (fun h16 => ?_)
                · replace hP := zE_p hP h16
                  obtain ⟨m2, rfl⟩ : ∃ m2, m = m2 + 1 := ⟨m - 1, by omega⟩
                  exact wz_k1 ⟨m2, by omega, x6, (x6 + 1), (zconso rfl (zconso (zvo (rfl : i3 x1 = i3 x1)) (zconso (zvo (rfl : i3 x2 = i3 x2)) (zconso (zvo (rfl : i3 x3 = i3 x3)) (zconso (zvo (rfl : i3 x4 = i3 x4)) (zconso (zvo (rfl : i3 x6 = i3 x6)) (zconso (zvo (i3A (rfl : i3 x6 = i3 x6) (show (1 : Int32) = i3 1 from rfl))) (zconso rfl (zconso rfl rfl))))))))), rfl,  by omega, by omega, by omega, by omega,  hP⟩
                · replace hP := zE_n hP h16
                  refine wz_i0 (i3O (n := 4400) (i3A (i3A (show (1810 : Int32) = i3 1810 from rfl) (i3M (show (2 : Int32) = i3 2 from rfl) (rfl : i3 x5 = i3 x5))) (show (1 : Int32) = i3 1 from rfl)) (by omega) (by omega) (by omega)) ?_
                  have r17 := zM_k hZ 2 0 0 (1811 + 2 * x5) (lo := 0) (hi := 41) (by decide) (zs_1810_1 (x := x5) (by omega) (by omega) (by omega))
                  refine wz_br (i3Le (zm_rd (Z := Z) (ν := ν) (k := 2) (show ((0 : Nat) : Int) = 0 from rfl) (show ((0 : Nat) : Int) = 0 from rfl) (i3I (y := (1811 + 2 * x5)) (i3A (i3A (show (1810 : Int32) = i3 1810 from rfl) (i3M (show (2 : Int32) = i3 2 from rfl) (rfl : i3 x5 = i3 x5))) (show (1 : Int32) = i3 1 from rfl)) (by omega) (by omega) (by omega))) (zm_rd (Z := Z) (ν := ν) (k := 2) (show ((0 : Nat) : Int) = 0 from rfl) (show ((0 : Nat) : Int) = 0 from rfl) (i3I (y := (1811 + 2 * x6)) (i3A (i3A (show (1810 : Int32) = i3 1810 from rfl) (i3M (show (2 : Int32) = i3 2 from rfl) (rfl : i3 x6 = i3 x6))) (show (1 : Int32) = i3 1 from rfl)) (by omega) (by omega) (by omega))) (by omega) (by omega) (by omega) (by omega)) (fun h18 => ?_) (fun h18 => ?_)
                  · replace hP := zE_p hP h18
                    obtain ⟨m2, rfl⟩ : ∃ m2, m = m2 + 1 := ⟨m - 1, by omega⟩
                    exact wz_k1 ⟨m2, by omega, x5, (x6 + 1), (zconso rfl (zconso (zvo (rfl : i3 x1 = i3 x1)) (zconso (zvo (rfl : i3 x2 = i3 x2)) (zconso (zvo (rfl : i3 x3 = i3 x3)) (zconso (zvo (rfl : i3 x4 = i3 x4)) (zconso (zvo (rfl : i3 x5 = i3 x5)) (zconso (zvo (i3A (rfl : i3 x6 = i3 x6) (show (1 : Int32) = i3 1 from rfl))) (zconso rfl (zconso rfl rfl))))))))), rfl,  by omega, by omega, by omega, by omega,  hP⟩
                  · replace hP := zE_n hP h18
                    obtain ⟨m2, rfl⟩ : ∃ m2, m = m2 + 1 := ⟨m - 1, by omega⟩
                    exact wz_k1 ⟨m2, by omega, x6, (x6 + 1), (zconso rfl (zconso (zvo (rfl : i3 x1 = i3 x1)) (zconso (zvo (rfl : i3 x2 = i3 x2)) (zconso (zvo (rfl : i3 x3 = i3 x3)) (zconso (zvo (rfl : i3 x4 = i3 x4)) (zconso (zvo (rfl : i3 x6 = i3 x6)) (zconso (zvo (i3A (rfl : i3 x6 = i3 x6) (show (1 : Int32) = i3 1 from rfl))) (zconso rfl (zconso rfl rfl))))))))), rfl,  by omega, by omega, by omega, by omega,  hP⟩
/- yX12_bFirstDue -/
def zf_269 (Z : qz_Z) (a1 : Int) (a2 : Int) (a3 : Int) (a4 : Int) : Int := (zlet2 (zl_269_1 a1 a2 a3 a4 61 Z (-1) 0) (fun y1 y2 => y1))
theorem sp_269 {s : zSM} {Z : qz_Z} {ν : qz_N} (hZ : zM s Z) {a1 : Int} (ga1 : 0 ≤ a1 ∧ a1 ≤ 7) {a2 : Int} (ga2 : -1 ≤ a2 ∧ a2 ≤ 27) {a3 : Int} (ga3 : -1 ≤ a3 ∧ a3 ≤ 41) {a4 : Int} (ga4 : -1 ≤ a4 ∧ a4 ≤ 59) (hM : s.2 + 0 ≤ 1000000000) : ∃ P : Int, P = zf_269 Z a1 a2 a3 a4 ∧ (qf_269 [.inr (.inr (some (1, 0, 0))), .inl (i3 a1), .inl (i3 a2), .inl (i3 a3), .inl (i3 a4)] (zm Z ν) = some (zm Z ν, .inl (some (.inl (i3 P)))) ∧ -1 ≤ P ∧ P ≤ 59 ∧ (P = -1 ∨ a3 < Z 2 0 0 (1811 + 2 * P) ∨ Z 2 0 0 (1811 + 2 * P) = a3 ∧ a4 < P)) := by
  obtain ⟨P, hP⟩ := zx (zf_269 Z a1 a2 a3 a4)
  refine zc_R (Q := fun P => -1 ≤ P ∧ P ≤ 59 ∧ (P = -1 ∨ a3 < Z 2 0 0 (1811 + 2 * P) ∨ Z 2 0 0 (1811 + 2 * P) = a3 ∧ a4 < P)) hP (fw_269 (i3 a1) (i3 a2) (i3 a3) (i3 a4) _ _ ?_)
  replace hP : zE P (zf_269 Z a1 a2 a3 a4) := hP
  unfold zf_269 at hP
  have r3 := zM_f hZ 2 0 0 1809
  refine sl_269_1 (ν := ν) hZ (zbh (c := 0) (k := 0) hM (Nat.le_of_ble_eq_true rfl)) (x1 := a1) (by omega) (x2 := a2) (by omega) (x3 := a3) (by omega) (x4 := a4) (by omega) (x5 := (-1)) (by omega) (x6 := 0) (by omega) (by omega) (zconso rfl (zconso (zvo (rfl : i3 a1 = i3 a1)) (zconso (zvo (rfl : i3 a2 = i3 a2)) (zconso (zvo (rfl : i3 a3 = i3 a3)) (zconso (zvo (rfl : i3 a4 = i3 a4)) (zconso (zvo (show (-1 : Int32) = i3 (-1) from rfl)) (zconso (zvo (show (0 : Int32) = i3 0 from rfl)) (zconso rfl (zconso rfl rfl))))))))) rfl ?_
  intro L4 y1 y2 hL4 gy1 gy2 gL4_0 q9
  replace hP := zl_e2 hP (Eq.symm q9)
  clear q9
  refine fc_269_2 (i3 y1) _ _ _ _ hL4 ?_
  exact zlR hP (rfl : i3 y1 = i3 y1) ⟨by omega, by omega, by omega⟩
/- yX12_bPays -/
def zl_281_1 (x1 : Int) (x2 : Int) : Nat → qz_Z → Int → qz_Z × Int
  | 0, Z, x3 => (Z, x3)
  | m + 1, Z, x3 => (if x3 = (-1) then (Z, x3) else (if (Z 2 0 0 (1810 + 2 * x3)) ≤ (Z 2 0 0 (1413 + 12 * x1)) then (zlet (zu Z 2 0 0 (1413 + 12 * x1) (w3 ((Z 2 0 0 (1413 + 12 * x1)) - (Z 2 0 0 (1810 + 2 * x3))))) (fun Z8 => (zlet (zu Z8 2 0 0 (1810 + 2 * x3) (w3 ((Z8 2 0 0 (1810 + 2 * x3)) - (Z 2 0 0 (1810 + 2 * x3))))) (fun Z12 => (if (Z12 2 0 0 (1810 + 2 * x3)) ≤ 0 then (zlet (zu Z12 2 0 0 (1414 + 12 * x1) (Z12 2 0 0 (1414 + 12 * x1))) (fun Z17 => (zlet (zf_269 Z17 x1 x2 (Z17 2 0 0 (1811 + 2 * x3)) x3) (fun v21 => zl_281_1 x1 x2 m Z17 v21)))) else (zlet (zu Z12 2 0 0 (1414 + 12 * x1) 1) (fun Z25 => (zlet (zf_269 Z25 x1 x2 (Z25 2 0 0 (1811 + 2 * x3)) x3) (fun v29 => zl_281_1 x1 x2 m Z25 v29))))))))) else (zlet (zu Z 2 0 0 (1413 + 12 * x1) ((Z 2 0 0 (1413 + 12 * x1)) - (Z 2 0 0 (1413 + 12 * x1)))) (fun Z33 => (zlet (zu Z33 2 0 0 (1810 + 2 * x3) (w3 ((Z33 2 0 0 (1810 + 2 * x3)) - (Z 2 0 0 (1413 + 12 * x1))))) (fun Z37 => (if (Z37 2 0 0 (1810 + 2 * x3)) ≤ 0 then (zlet (zu Z37 2 0 0 (1414 + 12 * x1) (Z37 2 0 0 (1414 + 12 * x1))) (fun Z42 => (zlet (zf_269 Z42 x1 x2 (Z42 2 0 0 (1811 + 2 * x3)) x3) (fun v46 => zl_281_1 x1 x2 m Z42 v46)))) else (zlet (zu Z37 2 0 0 (1414 + 12 * x1) 1) (fun Z50 => (zlet (zf_269 Z50 x1 x2 (Z50 2 0 0 (1811 + 2 * x3)) x3) (fun v54 => zl_281_1 x1 x2 m Z50 v54)))))))))))
theorem sl_281_1 {s : zSM} {Zs Z : qz_Z} {ν : qz_N} (hZ : zM s Z) (hM : s.2 + 0 ≤ 1000000000) (hK : zC [2] Zs Z) {x1 : Int} (gx1 : 0 ≤ x1 ∧ x1 ≤ 7) {x2 : Int} (gx2 : 0 ≤ x2 ∧ x2 ≤ 27) {x3 : Int} (gx3 : -1 ≤ x3 ∧ x3 ≤ 59) (hU : zU [] Zs Z) (gm9 : (if x3 = -1 then (0 : Int) else 2600 - (60 * Z 2 0 0 (1811 + 2 * x3) + x3)).toNat ≤ 2600) {k : wz_K} {R : wz_R} {L : qz_L} (hL : qz_fg [true, true, true, true, false, false] L = [some (.inr (.inr (some (1, 0, 0)))), some (.inl (i3 x1)), some (.inl (i3 x2)), some (.inl (i3 x3)), none, none]) {T : qz_Z × Int} (hP : zE T (zl_281_1 x1 x2 (2600 + 1) Z x3)) (hk : ∀ (L9 : qz_L) (Z9 : qz_Z) (yx3 : Int), qz_fg [false, false, false, false, false, false] L9 = [none, none, none, none, none, none] → zM s Z9 → zC [2] Zs Z9 → zU [] Zs Z9 → (-1 ≤ yx3 ∧ yx3 ≤ 59) → zE T ((Z9, yx3)) → k 0 (L9, [], zm Z9 ν)) : wz_loop qb_281_1 65536 k R (L, [], zm Z ν) := by
  refine wz_lp sb_281_1 (fun m x => ∃ Z : qz_Z, ∃ x3 : Int, qz_fg [true, true, true, true, false, false] x.1 = [some (.inr (.inr (some (1, 0, 0)))), some (.inl (i3 x1)), some (.inl (i3 x2)), some (.inl (i3 x3)), none, none] ∧ x.2 = ([], zm Z ν) ∧ zM s Z ∧ zC [2] Zs Z ∧ zU [] Zs Z ∧ (if x3 = -1 then (0 : Int) else 2600 - (60 * Z 2 0 0 (1811 + 2 * x3) + x3)).toNat ≤ m ∧ (-1 ≤ x3 ∧ x3 ≤ 59) ∧ zE T (zl_281_1 x1 x2 (m + 1) Z x3)) ?_ 65536 (2600) _ (by omega) ⟨Z, x3, hL, rfl, hZ, hK, hU, gm9, gx3, hP⟩
  clear hP gm9 gx3 hZ hK hU hL
  clear x3
  clear Z
  rintro m ⟨L, st, μ⟩ ⟨Z, x3, hL, hx, hZ, hK, hU, hm, gx3, hP⟩
  cases hx
  refine fb_281_1 (i3 x1) (i3 x2) (i3 x3) _ _ _ _ hL ?_
  have r1 := zM_f hZ 2 0 0 (1811 + 2 * x3)
  have r2 := zM_py hZ x3
  refine wz_br (i3E (rfl : i3 x3 = i3 x3) (show (-1 : Int32) = i3 (-1) from rfl) (by omega) (by omega) (by omega) (by omega)) (fun h3 => ?_) (fun h3 => ?_)
  · replace hP := zE_p hP h3
    exact hk _ _ _ (zconso rfl (zconso rfl (zconso rfl (zconso rfl (zconso rfl (zconso rfl rfl)))))) hZ hK hU (by omega)  hP
  · replace hP := zE_n hP h3
    refine wz_i0 (i3O (n := 4400) (i3A (i3A (show (1410 : Int32) = i3 1410 from rfl) (i3M (show (12 : Int32) = i3 12 from rfl) (rfl : i3 x1 = i3 x1))) (show (3 : Int32) = i3 3 from rfl)) (by omega) (by omega) (by omega)) ?_
    refine wz_i0 (i3O (n := 4400) (i3A (show (1810 : Int32) = i3 1810 from rfl) (i3M (show (2 : Int32) = i3 2 from rfl) (rfl : i3 x3 = i3 x3))) (by omega) (by omega) (by omega)) ?_
    have r4 := zM_f hZ 2 0 0 (1810 + 2 * x3)
    have r5 := zM_f hZ 2 0 0 (1413 + 12 * x1)
    refine wz_br (i3Le (zm_rd (Z := Z) (ν := ν) (k := 2) (show ((0 : Nat) : Int) = 0 from rfl) (show ((0 : Nat) : Int) = 0 from rfl) (i3I (y := (1810 + 2 * x3)) (i3A (show (1810 : Int32) = i3 1810 from rfl) (i3M (show (2 : Int32) = i3 2 from rfl) (rfl : i3 x3 = i3 x3))) (by omega) (by omega) (by omega))) (zm_rd (Z := Z) (ν := ν) (k := 2) (show ((0 : Nat) : Int) = 0 from rfl) (show ((0 : Nat) : Int) = 0 from rfl) (i3I (y := (1413 + 12 * x1)) (i3A (i3A (show (1410 : Int32) = i3 1410 from rfl) (i3M (show (12 : Int32) = i3 12 from rfl) (rfl : i3 x1 = i3 x1))) (show (3 : Int32) = i3 3 from rfl)) (by omega) (by omega) (by omega))) (by omega) (by omega) (by omega) (by omega)) (fun h6 => ?_) (fun h6 => ?_)
    · replace hP := zE_p hP h6
      refine wz_i0 (i3O (n := 4400) (i3A (show (1810 : Int32) = i3 1810 from rfl) (i3M (show (2 : Int32) = i3 2 from rfl) (rfl : i3 x3 = i3 x3))) (by omega) (by omega) (by omega)) ?_
      refine wz_i0 (i3O (n := 4400) (i3A (i3A (show (1410 : Int32) = i3 1410 from rfl) (i3M (show (12 : Int32) = i3 12 from rfl) (rfl : i3 x1 = i3 x1))) (show (3 : Int32) = i3 3 from rfl)) (by omega) (by omega) (by omega)) ?_
      refine wz_i0 (i3O (n := 4400) (i3A (i3A (show (1410 : Int32) = i3 1410 from rfl) (i3M (show (12 : Int32) = i3 12 from rfl) (rfl : i3 x1 = i3 x1))) (show (3 : Int32) = i3 3 from rfl)) (by omega) (by omega) (by omega)) ?_
      have r7 := w3_r ((Z 2 0 0 (1413 + 12 * x1)) - (Z 2 0 0 (1810 + 2 * x3)))
      obtain ⟨Z8, hZ8⟩ := zx (zu Z 2 0 0 (1413 + 12 * x1) (w3 ((Z 2 0 0 (1413 + 12 * x1)) - (Z 2 0 0 (1810 + 2 * x3)))))
      replace hP := zl_e hP hZ8
      have hZ8I := zM_u2 hZ hZ8 (lo := -2147483648) (hi := 2147483647) (zs_1410_3 (x := x1) (by omega) (by omega) (by omega)) (by omega) ⟨by decide, by decide⟩ (by simp only [zsp]; omega)
      have hZ8U : zU [] Zs Z8 := zU_u hU hZ8 (Or.inl rfl)
      have hZ8K : zC [2] Zs Z8 := zC_u hK hZ8 (zcl_2w (by omega) rfl)
      intro μ9 e9
      replace e9 := e9.trans (zm_wI (Z := Z) (ν := ν) hZ8 (show ((0 : Nat) : Int) = 0 from rfl) (show ((0 : Nat) : Int) = 0 from rfl) (i3I (y := (1413 + 12 * x1)) (i3A (i3A (show (1410 : Int32) = i3 1410 from rfl) (i3M (show (12 : Int32) = i3 12 from rfl) (rfl : i3 x1 = i3 x1))) (show (3 : Int32) = i3 3 from rfl)) (by omega) (by omega) (by omega)) (i3W (i3S (zm_rd (Z := Z) (ν := ν) (k := 2) (show ((0 : Nat) : Int) = 0 from rfl) (show ((0 : Nat) : Int) = 0 from rfl) (i3I (y := (1413 + 12 * x1)) (i3A (i3A (show (1410 : Int32) = i3 1410 from rfl) (i3M (show (12 : Int32) = i3 12 from rfl) (rfl : i3 x1 = i3 x1))) (show (3 : Int32) = i3 3 from rfl)) (by omega) (by omega) (by omega))) (zm_rd (Z := Z) (ν := ν) (k := 2) (show ((0 : Nat) : Int) = 0 from rfl) (show ((0 : Nat) : Int) = 0 from rfl) (i3I (y := (1810 + 2 * x3)) (i3A (show (1810 : Int32) = i3 1810 from rfl) (i3M (show (2 : Int32) = i3 2 from rfl) (rfl : i3 x3 = i3 x3))) (by omega) (by omega) (by omega))))))
      subst e9
      refine wz_i0 (i3O (n := 4400) (i3A (show (1810 : Int32) = i3 1810 from rfl) (i3M (show (2 : Int32) = i3 2 from rfl) (rfl : i3 x3 = i3 x3))) (by omega) (by omega) (by omega)) ?_
      refine wz_i0 (i3O (n := 4400) (i3A (show (1810 : Int32) = i3 1810 from rfl) (i3M (show (2 : Int32) = i3 2 from rfl) (rfl : i3 x3 = i3 x3))) (by omega) (by omega) (by omega)) ?_
      have r9 := zM_f hZ8I 2 0 0 (1810 + 2 * x3)
      have q10 := zu_ne (k' := 2) (b' := 0) (i' := 0) (j' := (1810 + 2 * x3)) hZ8 (fun q => absurd q.2.2.2 (by omega))
      have r11 := w3_r ((Z8 2 0 0 (1810 + 2 * x3)) - (Z 2 0 0 (1810 + 2 * x3)))
      obtain ⟨Z12, hZ12⟩ := zx (zu Z8 2 0 0 (1810 + 2 * x3) (w3 ((Z8 2 0 0 (1810 + 2 * x3)) - (Z 2 0 0 (1810 + 2 * x3)))))
      replace hP := zl_e hP hZ12
      have hZ12I := zM_u2 hZ8I hZ12 (lo := -2147483648) (hi := 2147483647) (zs_1810_0 (x := x3) (by omega) (by omega) (by omega)) (by omega) ⟨by decide, by decide⟩ (by simp only [zsp]; omega)
      have hZ12U : zU [] Zs Z12 := zU_u hZ8U hZ12 (Or.inl rfl)
      have hZ12K : zC [2] Zs Z12 := zC_u hZ8K hZ12 (zcl_2w (by omega) rfl)
      intro μ9 e9
      replace e9 := e9.trans (zm_wI (Z := Z8) (ν := ν) hZ12 (show ((0 : Nat) : Int) = 0 from rfl) (show ((0 : Nat) : Int) = 0 from rfl) (i3I (y := (1810 + 2 * x3)) (i3A (show (1810 : Int32) = i3 1810 from rfl) (i3M (show (2 : Int32) = i3 2 from rfl) (rfl : i3 x3 = i3 x3))) (by omega) (by omega) (by omega)) (i3W (i3S (zm_rd (Z := Z8) (ν := ν) (k := 2) (show ((0 : Nat) : Int) = 0 from rfl) (show ((0 : Nat) : Int) = 0 from rfl) (i3I (y := (1810 + 2 * x3)) (i3A (show (1810 : Int32) = i3 1810 from rfl) (i3M (show (2 : Int32) = i3 2 from rfl) (rfl : i3 x3 = i3 x3))) (by omega) (by omega) (by omega))) (zm_rd (Z := Z) (ν := ν) (k := 2) (show ((0 : Nat) : Int) = 0 from rfl) (show ((0 : Nat) : Int) = 0 from rfl) (i3I (y := (1810 + 2 * x3)) (i3A (show (1810 : Int32) = i3 1810 from rfl) (i3M (show (2 : Int32) = i3 2 from rfl) (rfl : i3 x3 = i3 x3))) (by omega) (by omega) (by omega))))))
      subst e9
      refine wz_i0 (i3O (n := 4400) (i3A (show (1810 : Int32) = i3 1810 from rfl) (i3M (show (2 : Int32) = i3 2 from rfl) (rfl : i3 x3 = i3 x3))) (by omega) (by omega) (by omega)) ?_
      have r13 := zM_f hZ12I 2 0 0 (1810 + 2 * x3)
      have q14 := zu_at hZ12
      refine wz_br (i3Le (zm_rd (Z := Z12) (ν := ν) (k := 2) (show ((0 : Nat) : Int) = 0 from rfl) (show ((0 : Nat) : Int) = 0 from rfl) (i3I (y := (1810 + 2 * x3)) (i3A (show (1810 : Int32) = i3 1810 from rfl) (i3M (show (2 : Int32) = i3 2 from rfl) (rfl : i3 x3 = i3 x3))) (by omega) (by omega) (by omega))) (show (0 : Int32) = i3 0 from rfl) (by omega) (by omega) (by omega) (by omega)) (fun h15 => ?_) (fun h15 => ?_)
      · replace hP := zE_p hP h15
        refine wz_i0 (i3O (n := 4400) (i3A (i3A (show (1410 : Int32) = i3 1410 from rfl) (i3M (show (12 : Int32) = i3 12 from rfl) (rfl : i3 x1 = i3 x1))) (show (4 : Int32) = i3 4 from rfl)) (by omega) (by omega) (by omega)) ?_
        refine wz_i0 (i3O (n := 4400) (i3A (i3A (show (1410 : Int32) = i3 1410 from rfl) (i3M (show (12 : Int32) = i3 12 from rfl) (rfl : i3 x1 = i3 x1))) (show (4 : Int32) = i3 4 from rfl)) (by omega) (by omega) (by omega)) ?_
        have r16 := zM_k hZ12I 2 0 0 (1414 + 12 * x1) (lo := 0) (hi := 1) (by decide) (zs_1410_4 (x := x1) (by omega) (by omega) (by omega))
        obtain ⟨Z17, hZ17⟩ := zx (zu Z12 2 0 0 (1414 + 12 * x1) (Z12 2 0 0 (1414 + 12 * x1)))
        replace hP := zl_e hP hZ17
        have hZ17I := zM_u2 hZ12I hZ17 (lo := 0) (hi := 1) (zs_1410_4 (x := x1) (by omega) (by omega) (by omega)) (by omega) ⟨by decide, by decide⟩ (by simp only [zsp]; omega)
        have hZ17U : zU [] Zs Z17 := zU_u hZ12U hZ17 (Or.inl rfl)
        have hZ17K : zC [2] Zs Z17 := zC_u hZ12K hZ17 (zcl_2w (by omega) rfl)
        intro μ9 e9
        replace e9 := e9.trans (zm_wI (Z := Z12) (ν := ν) hZ17 (show ((0 : Nat) : Int) = 0 from rfl) (show ((0 : Nat) : Int) = 0 from rfl) (i3I (y := (1414 + 12 * x1)) (i3A (i3A (show (1410 : Int32) = i3 1410 from rfl) (i3M (show (12 : Int32) = i3 12 from rfl) (rfl : i3 x1 = i3 x1))) (show (4 : Int32) = i3 4 from rfl)) (by omega) (by omega) (by omega)) (zm_rd (Z := Z12) (ν := ν) (k := 2) (show ((0 : Nat) : Int) = 0 from rfl) (show ((0 : Nat) : Int) = 0 from rfl) (i3I (y := (1414 + 12 * x1)) (i3A (i3A (show (1410 : Int32) = i3 1410 from rfl) (i3M (show (12 : Int32) = i3 12 from rfl) (rfl : i3 x1 = i3 x1))) (show (4 : Int32) = i3 4 from rfl)) (by omega) (by omega) (by omega))))
        subst e9
        refine wz_i0 (i3O (n := 4400) (i3A (i3A (show (1810 : Int32) = i3 1810 from rfl) (i3M (show (2 : Int32) = i3 2 from rfl) (rfl : i3 x3 = i3 x3))) (show (1 : Int32) = i3 1 from rfl)) (by omega) (by omega) (by omega)) ?_
        have r18 := zM_f hZ17I 2 0 0 (1811 + 2 * x3)
        have r19 := zM_py hZ17I x3
        have q20 := (zu_ne (k' := 2) (b' := 0) (i' := 0) (j' := (1811 + 2 * x3)) hZ17 (fun q => absurd q.2.2.2 (by omega))).trans ((zu_ne (k' := 2) (b' := 0) (i' := 0) (j' := (1811 + 2 * x3)) hZ12 (fun q => absurd q.2.2.2 (by omega))).trans (zu_ne (k' := 2) (b' := 0) (i' := 0) (j' := (1811 + 2 * x3)) hZ8 (fun q => absurd q.2.2.2 (by omega))))
        obtain ⟨v21, hv21, c9, lv21, uv21, wv210⟩ := sp_269 (ν := ν) hZ17I (a1 := x1) (by omega) (a2 := x2) (by omega) (a3 := (Z17 2 0 0 (1811 + 2 * x3))) (by omega) (a4 := x3) (by omega) (zbh (c := 0) (k := 0) hM (Nat.le_of_ble_eq_true rfl))
        replace hP := zl_e hP hv21
        refine wz_cI_of (zas (zcons rfl (zcons (zvi (rfl : i3 x1 = i3 x1)) (zcons (zvi (rfl : i3 x2 = i3 x2)) (zcons (zvi (zm_rd (Z := Z17) (ν := ν) (k := 2) (show ((0 : Nat) : Int) = 0 from rfl) (show ((0 : Nat) : Int) = 0 from rfl) (i3I (y := (1811 + 2 * x3)) (i3A (i3A (show (1810 : Int32) = i3 1810 from rfl) (i3M (show (2 : Int32) = i3 2 from rfl) (rfl : i3 x3 = i3 x3))) (show (1 : Int32) = i3 1 from rfl)) (by omega) (by omega) (by omega)))) (zcons (zvi (rfl : i3 x3 = i3 x3)) rfl))))) c9) ?_
        clear c9
        have r22 := zM_f hZ17I 2 0 0 (1811 + 2 * v21)
        have r23 := zM_py hZ17I v21
        have w24 : v21 = -1 ∨ (Z17 2 0 0 (1811 + 2 * x3)) < Z17 2 0 0 (1811 + 2 * v21) ∨ Z17 2 0 0 (1811 + 2 * v21) = (Z17 2 0 0 (1811 + 2 * x3)) ∧ x3 < v21 := wv210
        obtain ⟨m2, rfl⟩ : ∃ m2, m = m2 + 1 := ⟨m - 1, by omega⟩
        exact wz_k1 ⟨m2, by omega, Z17, v21, (zconso rfl (zconso (zvo (rfl : i3 x1 = i3 x1)) (zconso (zvo (rfl : i3 x2 = i3 x2)) (zconso (zvo (rfl : i3 v21 = i3 v21)) (zconso rfl (zconso rfl rfl)))))), rfl, hZ17I, hZ17K, hZ17U, by omega, by omega,  hP⟩
      · replace hP := zE_n hP h15
        refine wz_i0 (i3O (n := 4400) (i3A (i3A (show (1410 : Int32) = i3 1410 from rfl) (i3M (show (12 : Int32) = i3 12 from rfl) (rfl : i3 x1 = i3 x1))) (show (4 : Int32) = i3 4 from rfl)) (by omega) (by omega) (by omega)) ?_
        obtain ⟨Z25, hZ25⟩ := zx (zu Z12 2 0 0 (1414 + 12 * x1) 1)
        replace hP := zl_e hP hZ25
        have hZ25I := zM_u2 hZ12I hZ25 (lo := 0) (hi := 1) (zs_1410_4 (x := x1) (by omega) (by omega) (by omega)) (by omega) ⟨by decide, by decide⟩ (by simp only [zsp]; omega)
        have hZ25U : zU [] Zs Z25 := zU_u hZ12U hZ25 (Or.inl rfl)
        have hZ25K : zC [2] Zs Z25 := zC_u hZ12K hZ25 (zcl_2w (by omega) rfl)
        intro μ9 e9
        replace e9 := e9.trans (zm_wI (Z := Z12) (ν := ν) hZ25 (show ((0 : Nat) : Int) = 0 from rfl) (show ((0 : Nat) : Int) = 0 from rfl) (i3I (y := (1414 + 12 * x1)) (i3A (i3A (show (1410 : Int32) = i3 1410 from rfl) (i3M (show (12 : Int32) = i3 12 from rfl) (rfl : i3 x1 = i3 x1))) (show (4 : Int32) = i3 4 from rfl)) (by omega) (by omega) (by omega)) (show (1 : Int32) = i3 1 from rfl))
        subst e9
        refine wz_i0 (i3O (n := 4400) (i3A (i3A (show (1810 : Int32) = i3 1810 from rfl) (i3M (show (2 : Int32) = i3 2 from rfl) (rfl : i3 x3 = i3 x3))) (show (1 : Int32) = i3 1 from rfl)) (by omega) (by omega) (by omega)) ?_
        have r26 := zM_f hZ25I 2 0 0 (1811 + 2 * x3)
        have r27 := zM_py hZ25I x3
        have q28 := (zu_ne (k' := 2) (b' := 0) (i' := 0) (j' := (1811 + 2 * x3)) hZ25 (fun q => absurd q.2.2.2 (by omega))).trans ((zu_ne (k' := 2) (b' := 0) (i' := 0) (j' := (1811 + 2 * x3)) hZ12 (fun q => absurd q.2.2.2 (by omega))).trans (zu_ne (k' := 2) (b' := 0) (i' := 0) (j' := (1811 + 2 * x3)) hZ8 (fun q => absurd q.2.2.2 (by omega))))
        obtain ⟨v29, hv29, c9, lv29, uv29, wv290⟩ := sp_269 (ν := ν) hZ25I (a1 := x1) (by omega) (a2 := x2) (by omega) (a3 := (Z25 2 0 0 (1811 + 2 * x3))) (by omega) (a4 := x3) (by omega) (zbh (c := 0) (k := 0) hM (Nat.le_of_ble_eq_true rfl))
        replace hP := zl_e hP hv29
        refine wz_cI_of (zas (zcons rfl (zcons (zvi (rfl : i3 x1 = i3 x1)) (zcons (zvi (rfl : i3 x2 = i3 x2)) (zcons (zvi (zm_rd (Z := Z25) (ν := ν) (k := 2) (show ((0 : Nat) : Int) = 0 from rfl) (show ((0 : Nat) : Int) = 0 from rfl) (i3I (y := (1811 + 2 * x3)) (i3A (i3A (show (1810 : Int32) = i3 1810 from rfl) (i3M (show (2 : Int32) = i3 2 from rfl) (rfl : i3 x3 = i3 x3))) (show (1 : Int32) = i3 1 from rfl)) (by omega) (by omega) (by omega)))) (zcons (zvi (rfl : i3 x3 = i3 x3)) rfl))))) c9) ?_
        clear c9
        have r30 := zM_f hZ25I 2 0 0 (1811 + 2 * v29)
        have r31 := zM_py hZ25I v29
        have w32 : v29 = -1 ∨ (Z25 2 0 0 (1811 + 2 * x3)) < Z25 2 0 0 (1811 + 2 * v29) ∨ Z25 2 0 0 (1811 + 2 * v29) = (Z25 2 0 0 (1811 + 2 * x3)) ∧ x3 < v29 := wv290
        obtain ⟨m2, rfl⟩ : ∃ m2, m = m2 + 1 := ⟨m - 1, by omega⟩
        exact wz_k1 ⟨m2, by omega, Z25, v29, (zconso rfl (zconso (zvo (rfl : i3 x1 = i3 x1)) (zconso (zvo (rfl : i3 x2 = i3 x2)) (zconso (zvo (rfl : i3 v29 = i3 v29)) (zconso rfl (zconso rfl rfl)))))), rfl, hZ25I, hZ25K, hZ25U, by omega, by omega,  hP⟩
    · replace hP := zE_n hP h6
      refine wz_i0 (i3O (n := 4400) (i3A (i3A (show (1410 : Int32) = i3 1410 from rfl) (i3M (show (12 : Int32) = i3 12 from rfl) (rfl : i3 x1 = i3 x1))) (show (3 : Int32) = i3 3 from rfl)) (by omega) (by omega) (by omega)) ?_
      refine wz_i0 (i3O (n := 4400) (i3A (i3A (show (1410 : Int32) = i3 1410 from rfl) (i3M (show (12 : Int32) = i3 12 from rfl) (rfl : i3 x1 = i3 x1))) (show (3 : Int32) = i3 3 from rfl)) (by omega) (by omega) (by omega)) ?_
      obtain ⟨Z33, hZ33⟩ := zx (zu Z 2 0 0 (1413 + 12 * x1) ((Z 2 0 0 (1413 + 12 * x1)) - (Z 2 0 0 (1413 + 12 * x1))))
      replace hP := zl_e hP hZ33
      have hZ33I := zM_u2 hZ hZ33 (lo := -2147483648) (hi := 2147483647) (zs_1410_3 (x := x1) (by omega) (by omega) (by omega)) (by omega) ⟨by decide, by decide⟩ (by simp only [zsp]; omega)
      have hZ33U : zU [] Zs Z33 := zU_u hU hZ33 (Or.inl rfl)
      have hZ33K : zC [2] Zs Z33 := zC_u hK hZ33 (zcl_2w (by omega) rfl)
      intro μ9 e9
      replace e9 := e9.trans (zm_wI (Z := Z) (ν := ν) hZ33 (show ((0 : Nat) : Int) = 0 from rfl) (show ((0 : Nat) : Int) = 0 from rfl) (i3I (y := (1413 + 12 * x1)) (i3A (i3A (show (1410 : Int32) = i3 1410 from rfl) (i3M (show (12 : Int32) = i3 12 from rfl) (rfl : i3 x1 = i3 x1))) (show (3 : Int32) = i3 3 from rfl)) (by omega) (by omega) (by omega)) (i3S (zm_rd (Z := Z) (ν := ν) (k := 2) (show ((0 : Nat) : Int) = 0 from rfl) (show ((0 : Nat) : Int) = 0 from rfl) (i3I (y := (1413 + 12 * x1)) (i3A (i3A (show (1410 : Int32) = i3 1410 from rfl) (i3M (show (12 : Int32) = i3 12 from rfl) (rfl : i3 x1 = i3 x1))) (show (3 : Int32) = i3 3 from rfl)) (by omega) (by omega) (by omega))) (zm_rd (Z := Z) (ν := ν) (k := 2) (show ((0 : Nat) : Int) = 0 from rfl) (show ((0 : Nat) : Int) = 0 from rfl) (i3I (y := (1413 + 12 * x1)) (i3A (i3A (show (1410 : Int32) = i3 1410 from rfl) (i3M (show (12 : Int32) = i3 12 from rfl) (rfl : i3 x1 = i3 x1))) (show (3 : Int32) = i3 3 from rfl)) (by omega) (by omega) (by omega)))))
      subst e9
      refine wz_i0 (i3O (n := 4400) (i3A (show (1810 : Int32) = i3 1810 from rfl) (i3M (show (2 : Int32) = i3 2 from rfl) (rfl : i3 x3 = i3 x3))) (by omega) (by omega) (by omega)) ?_
      refine wz_i0 (i3O (n := 4400) (i3A (show (1810 : Int32) = i3 1810 from rfl) (i3M (show (2 : Int32) = i3 2 from rfl) (rfl : i3 x3 = i3 x3))) (by omega) (by omega) (by omega)) ?_
      have r34 := zM_f hZ33I 2 0 0 (1810 + 2 * x3)
      have q35 := zu_ne (k' := 2) (b' := 0) (i' := 0) (j' := (1810 + 2 * x3)) hZ33 (fun q => absurd q.2.2.2 (by omega))
      have r36 := w3_r ((Z33 2 0 0 (1810 + 2 * x3)) - (Z 2 0 0 (1413 + 12 * x1)))
      obtain ⟨Z37, hZ37⟩ := zx (zu Z33 2 0 0 (1810 + 2 * x3) (w3 ((Z33 2 0 0 (1810 + 2 * x3)) - (Z 2 0 0 (1413 + 12 * x1)))))
      replace hP := zl_e hP hZ37
      have hZ37I := zM_u2 hZ33I hZ37 (lo := -2147483648) (hi := 2147483647) (zs_1810_0 (x := x3) (by omega) (by omega) (by omega)) (by omega) ⟨by decide, by decide⟩ (by simp only [zsp]; omega)
      have hZ37U : zU [] Zs Z37 := zU_u hZ33U hZ37 (Or.inl rfl)
      have hZ37K : zC [2] Zs Z37 := zC_u hZ33K hZ37 (zcl_2w (by omega) rfl)
      intro μ9 e9
      replace e9 := e9.trans (zm_wI (Z := Z33) (ν := ν) hZ37 (show ((0 : Nat) : Int) = 0 from rfl) (show ((0 : Nat) : Int) = 0 from rfl) (i3I (y := (1810 + 2 * x3)) (i3A (show (1810 : Int32) = i3 1810 from rfl) (i3M (show (2 : Int32) = i3 2 from rfl) (rfl : i3 x3 = i3 x3))) (by omega) (by omega) (by omega)) (i3W (i3S (zm_rd (Z := Z33) (ν := ν) (k := 2) (show ((0 : Nat) : Int) = 0 from rfl) (show ((0 : Nat) : Int) = 0 from rfl) (i3I (y := (1810 + 2 * x3)) (i3A (show (1810 : Int32) = i3 1810 from rfl) (i3M (show (2 : Int32) = i3 2 from rfl) (rfl : i3 x3 = i3 x3))) (by omega) (by omega) (by omega))) (zm_rd (Z := Z) (ν := ν) (k := 2) (show ((0 : Nat) : Int) = 0 from rfl) (show ((0 : Nat) : Int) = 0 from rfl) (i3I (y := (1413 + 12 * x1)) (i3A (i3A (show (1410 : Int32) = i3 1410 from rfl) (i3M (show (12 : Int32) = i3 12 from rfl) (rfl : i3 x1 = i3 x1))) (show (3 : Int32) = i3 3 from rfl)) (by omega) (by omega) (by omega))))))
      subst e9
      refine wz_i0 (i3O (n := 4400) (i3A (show (1810 : Int32) = i3 1810 from rfl) (i3M (show (2 : Int32) = i3 2 from rfl) (rfl : i3 x3 = i3 x3))) (by omega) (by omega) (by omega)) ?_
      have r38 := zM_f hZ37I 2 0 0 (1810 + 2 * x3)
      have q39 := zu_at hZ37
      refine wz_br (i3Le (zm_rd (Z := Z37) (ν := ν) (k := 2) (show ((0 : Nat) : Int) = 0 from rfl) (show ((0 : Nat) : Int) = 0 from rfl) (i3I (y := (1810 + 2 * x3)) (i3A (show (1810 : Int32) = i3 1810 from rfl) (i3M (show (2 : Int32) = i3 2 from rfl) (rfl : i3 x3 = i3 x3))) (by omega) (by omega) (by omega))) (show (0 : Int32) = i3 0 from rfl) (by omega) (by omega) (by omega) (by omega)) (fun h40 => ?_) (fun h40 => ?_)
      · replace hP := zE_p hP h40
        refine wz_i0 (i3O (n := 4400) (i3A (i3A (show (1410 : Int32) = i3 1410 from rfl) (i3M (show (12 : Int32) = i3 12 from rfl) (rfl : i3 x1 = i3 x1))) (show (4 : Int32) = i3 4 from rfl)) (by omega) (by omega) (by omega)) ?_
        refine wz_i0 (i3O (n := 4400) (i3A (i3A (show (1410 : Int32) = i3 1410 from rfl) (i3M (show (12 : Int32) = i3 12 from rfl) (rfl : i3 x1 = i3 x1))) (show (4 : Int32) = i3 4 from rfl)) (by omega) (by omega) (by omega)) ?_
        have r41 := zM_k hZ37I 2 0 0 (1414 + 12 * x1) (lo := 0) (hi := 1) (by decide) (zs_1410_4 (x := x1) (by omega) (by omega) (by omega))
        obtain ⟨Z42, hZ42⟩ := zx (zu Z37 2 0 0 (1414 + 12 * x1) (Z37 2 0 0 (1414 + 12 * x1)))
        replace hP := zl_e hP hZ42
        have hZ42I := zM_u2 hZ37I hZ42 (lo := 0) (hi := 1) (zs_1410_4 (x := x1) (by omega) (by omega) (by omega)) (by omega) ⟨by decide, by decide⟩ (by simp only [zsp]; omega)
        have hZ42U : zU [] Zs Z42 := zU_u hZ37U hZ42 (Or.inl rfl)
        have hZ42K : zC [2] Zs Z42 := zC_u hZ37K hZ42 (zcl_2w (by omega) rfl)
        intro μ9 e9
        replace e9 := e9.trans (zm_wI (Z := Z37) (ν := ν) hZ42 (show ((0 : Nat) : Int) = 0 from rfl) (show ((0 : Nat) : Int) = 0 from rfl) (i3I (y := (1414 + 12 * x1)) (i3A (i3A (show (1410 : Int32) = i3 1410 from rfl) (i3M (show (12 : Int32) = i3 12 from rfl) (rfl : i3 x1 = i3 x1))) (show (4 : Int32) = i3 4 from rfl)) (by omega) (by omega) (by omega)) (zm_rd (Z := Z37) (ν := ν) (k := 2) (show ((0 : Nat) : Int) = 0 from rfl) (show ((0 : Nat) : Int) = 0 from rfl) (i3I (y := (1414 + 12 * x1)) (i3A (i3A (show (1410 : Int32) = i3 1410 from rfl) (i3M (show (12 : Int32) = i3 12 from rfl) (rfl : i3 x1 = i3 x1))) (show (4 : Int32) = i3 4 from rfl)) (by omega) (by omega) (by omega))))
        subst e9
        refine wz_i0 (i3O (n := 4400) (i3A (i3A (show (1810 : Int32) = i3 1810 from rfl) (i3M (show (2 : Int32) = i3 2 from rfl) (rfl : i3 x3 = i3 x3))) (show (1 : Int32) = i3 1 from rfl)) (by omega) (by omega) (by omega)) ?_
        have r43 := zM_f hZ42I 2 0 0 (1811 + 2 * x3)
        have r44 := zM_py hZ42I x3
        have q45 := (zu_ne (k' := 2) (b' := 0) (i' := 0) (j' := (1811 + 2 * x3)) hZ42 (fun q => absurd q.2.2.2 (by omega))).trans ((zu_ne (k' := 2) (b' := 0) (i' := 0) (j' := (1811 + 2 * x3)) hZ37 (fun q => absurd q.2.2.2 (by omega))).trans (zu_ne (k' := 2) (b' := 0) (i' := 0) (j' := (1811 + 2 * x3)) hZ33 (fun q => absurd q.2.2.2 (by omega))))
        obtain ⟨v46, hv46, c9, lv46, uv46, wv460⟩ := sp_269 (ν := ν) hZ42I (a1 := x1) (by omega) (a2 := x2) (by omega) (a3 := (Z42 2 0 0 (1811 + 2 * x3))) (by omega) (a4 := x3) (by omega) (zbh (c := 0) (k := 0) hM (Nat.le_of_ble_eq_true rfl))
        replace hP := zl_e hP hv46
        refine wz_cI_of (zas (zcons rfl (zcons (zvi (rfl : i3 x1 = i3 x1)) (zcons (zvi (rfl : i3 x2 = i3 x2)) (zcons (zvi (zm_rd (Z := Z42) (ν := ν) (k := 2) (show ((0 : Nat) : Int) = 0 from rfl) (show ((0 : Nat) : Int) = 0 from rfl) (i3I (y := (1811 + 2 * x3)) (i3A (i3A (show (1810 : Int32) = i3 1810 from rfl) (i3M (show (2 : Int32) = i3 2 from rfl) (rfl : i3 x3 = i3 x3))) (show (1 : Int32) = i3 1 from rfl)) (by omega) (by omega) (by omega)))) (zcons (zvi (rfl : i3 x3 = i3 x3)) rfl))))) c9) ?_
        clear c9
        have r47 := zM_f hZ42I 2 0 0 (1811 + 2 * v46)
        have r48 := zM_py hZ42I v46
        have w49 : v46 = -1 ∨ (Z42 2 0 0 (1811 + 2 * x3)) < Z42 2 0 0 (1811 + 2 * v46) ∨ Z42 2 0 0 (1811 + 2 * v46) = (Z42 2 0 0 (1811 + 2 * x3)) ∧ x3 < v46 := wv460
        obtain ⟨m2, rfl⟩ : ∃ m2, m = m2 + 1 := ⟨m - 1, by omega⟩
        exact wz_k1 ⟨m2, by omega, Z42, v46, (zconso rfl (zconso (zvo (rfl : i3 x1 = i3 x1)) (zconso (zvo (rfl : i3 x2 = i3 x2)) (zconso (zvo (rfl : i3 v46 = i3 v46)) (zconso rfl (zconso rfl rfl)))))), rfl, hZ42I, hZ42K, hZ42U, by omega, by omega,  hP⟩
      · replace hP := zE_n hP h40
        refine wz_i0 (i3O (n := 4400) (i3A (i3A (show (1410 : Int32) = i3 1410 from rfl) (i3M (show (12 : Int32) = i3 12 from rfl) (rfl : i3 x1 = i3 x1))) (show (4 : Int32) = i3 4 from rfl)) (by omega) (by omega) (by omega)) ?_
        obtain ⟨Z50, hZ50⟩ := zx (zu Z37 2 0 0 (1414 + 12 * x1) 1)
        replace hP := zl_e hP hZ50
        have hZ50I := zM_u2 hZ37I hZ50 (lo := 0) (hi := 1) (zs_1410_4 (x := x1) (by omega) (by omega) (by omega)) (by omega) ⟨by decide, by decide⟩ (by simp only [zsp]; omega)
        have hZ50U : zU [] Zs Z50 := zU_u hZ37U hZ50 (Or.inl rfl)
        have hZ50K : zC [2] Zs Z50 := zC_u hZ37K hZ50 (zcl_2w (by omega) rfl)
        intro μ9 e9
        replace e9 := e9.trans (zm_wI (Z := Z37) (ν := ν) hZ50 (show ((0 : Nat) : Int) = 0 from rfl) (show ((0 : Nat) : Int) = 0 from rfl) (i3I (y := (1414 + 12 * x1)) (i3A (i3A (show (1410 : Int32) = i3 1410 from rfl) (i3M (show (12 : Int32) = i3 12 from rfl) (rfl : i3 x1 = i3 x1))) (show (4 : Int32) = i3 4 from rfl)) (by omega) (by omega) (by omega)) (show (1 : Int32) = i3 1 from rfl))
        subst e9
        refine wz_i0 (i3O (n := 4400) (i3A (i3A (show (1810 : Int32) = i3 1810 from rfl) (i3M (show (2 : Int32) = i3 2 from rfl) (rfl : i3 x3 = i3 x3))) (show (1 : Int32) = i3 1 from rfl)) (by omega) (by omega) (by omega)) ?_
        have r51 := zM_f hZ50I 2 0 0 (1811 + 2 * x3)
        have r52 := zM_py hZ50I x3
        have q53 := (zu_ne (k' := 2) (b' := 0) (i' := 0) (j' := (1811 + 2 * x3)) hZ50 (fun q => absurd q.2.2.2 (by omega))).trans ((zu_ne (k' := 2) (b' := 0) (i' := 0) (j' := (1811 + 2 * x3)) hZ37 (fun q => absurd q.2.2.2 (by omega))).trans (zu_ne (k' := 2) (b' := 0) (i' := 0) (j' := (1811 + 2 * x3)) hZ33 (fun q => absurd q.2.2.2 (by omega))))
        obtain ⟨v54, hv54, c9, lv54, uv54, wv540⟩ := sp_269 (ν := ν) hZ50I (a1 := x1) (by omega) (a2 := x2) (by omega) (a3 := (Z50 2 0 0 (1811 + 2 * x3))) (by omega) (a4 := x3) (by omega) (zbh (c := 0) (k := 0) hM (Nat.le_of_ble_eq_true rfl))
        replace hP := zl_e hP hv54
        refine wz_cI_of (zas (zcons rfl (zcons (zvi (rfl : i3 x1 = i3 x1)) (zcons (zvi (rfl : i3 x2 = i3 x2)) (zcons (zvi (zm_rd (Z := Z50) (ν := ν) (k := 2) (show ((0 : Nat) : Int) = 0 from rfl) (show ((0 : Nat) : Int) = 0 from rfl) (i3I (y := (1811 + 2 * x3)) (i3A (i3A (show (1810 : Int32) = i3 1810 from rfl) (i3M (show (2 : Int32) = i3 2 from rfl) (rfl : i3 x3 = i3 x3))) (show (1 : Int32) = i3 1 from rfl)) (by omega) (by omega) (by omega)))) (zcons (zvi (rfl : i3 x3 = i3 x3)) rfl))))) c9) ?_
        clear c9
        have r55 := zM_f hZ50I 2 0 0 (1811 + 2 * v54)
        have r56 := zM_py hZ50I v54
        have w57 : v54 = -1 ∨ (Z50 2 0 0 (1811 + 2 * x3)) < Z50 2 0 0 (1811 + 2 * v54) ∨ Z50 2 0 0 (1811 + 2 * v54) = (Z50 2 0 0 (1811 + 2 * x3)) ∧ x3 < v54 := wv540
        obtain ⟨m2, rfl⟩ : ∃ m2, m = m2 + 1 := ⟨m - 1, by omega⟩
        exact wz_k1 ⟨m2, by omega, Z50, v54, (zconso rfl (zconso (zvo (rfl : i3 x1 = i3 x1)) (zconso (zvo (rfl : i3 x2 = i3 x2)) (zconso (zvo (rfl : i3 v54 = i3 v54)) (zconso rfl (zconso rfl rfl)))))), rfl, hZ50I, hZ50K, hZ50U, by omega, by omega,  hP⟩
/- yX12_bPays -/
def zf_281 (Z : qz_Z) (a1 : Int) (a2 : Int) : qz_Z := (zlet (zu Z 2 0 0 (1414 + 12 * a1) 0) (fun Z1 => (zlet (zf_269 Z1 a1 a2 (-1) (-1)) (fun v2 => (zlet2 (zl_281_1 a1 a2 2601 Z1 v2) (fun Z7 y6 => Z7))))))
theorem sp_281 {s : zSM} {Z : qz_Z} {ν : qz_N} (hZ : zM s Z) {a1 : Int} (ga1 : 0 ≤ a1 ∧ a1 ≤ 7) {a2 : Int} (ga2 : 0 ≤ a2 ∧ a2 ≤ 27) (hM : s.2 + 0 ≤ 1000000000) : ∃ P : qz_Z, P = zf_281 Z a1 a2 ∧ (qf_281 [.inr (.inr (some (1, 0, 0))), .inl (i3 a1), .inl (i3 a2)] (zm Z ν) = some (zm P ν, .inl none) ∧ zM s P ∧ zC [2] Z P ∧ zU [] Z P) := by
  obtain ⟨P, hP⟩ := zx (zf_281 Z a1 a2)
  refine zc_V (Q := fun P => zM s P ∧ zC [2] Z P ∧ zU [] Z P) hP (fw_281 (i3 a1) (i3 a2) _ _ ?_)
  replace hP : zE P (zf_281 Z a1 a2) := hP
  unfold zf_281 at hP
  refine wz_i0 (i3O (n := 4400) (i3A (i3A (show (1410 : Int32) = i3 1410 from rfl) (i3M (show (12 : Int32) = i3 12 from rfl) (rfl : i3 a1 = i3 a1))) (show (4 : Int32) = i3 4 from rfl)) (by omega) (by omega) (by omega)) ?_
  obtain ⟨Z1, hZ1⟩ := zx (zu Z 2 0 0 (1414 + 12 * a1) 0)
  replace hP := zl_e hP hZ1
  have hZ1I := zM_02 hZ hZ1 (by simp only [zsp]; omega)
  have hZ1U : zU [] Z Z1 := zU_u zU_r hZ1 (Or.inl rfl)
  have hZ1K : zC [2] Z Z1 := zC_u zC_r hZ1 (zcl_2w (by omega) rfl)
  intro μ9 e9
  replace e9 := e9.trans (zm_wI (Z := Z) (ν := ν) hZ1 (show ((0 : Nat) : Int) = 0 from rfl) (show ((0 : Nat) : Int) = 0 from rfl) (i3I (y := (1414 + 12 * a1)) (i3A (i3A (show (1410 : Int32) = i3 1410 from rfl) (i3M (show (12 : Int32) = i3 12 from rfl) (rfl : i3 a1 = i3 a1))) (show (4 : Int32) = i3 4 from rfl)) (by omega) (by omega) (by omega)) (show (0 : Int32) = i3 0 from rfl))
  subst e9
  obtain ⟨v2, hv2, c9, lv2, uv2, wv20⟩ := sp_269 (ν := ν) hZ1I (a1 := a1) (by omega) (a2 := a2) (by omega) (a3 := (-1)) (by omega) (a4 := (-1)) (by omega) (zbh (c := 0) (k := 0) hM (Nat.le_of_ble_eq_true rfl))
  replace hP := zl_e hP hv2
  refine wz_cI_of (zas (zcons rfl (zcons (zvi (rfl : i3 a1 = i3 a1)) (zcons (zvi (rfl : i3 a2 = i3 a2)) (zcons (zvi (show (-1 : Int32) = i3 (-1) from rfl)) (zcons (zvi (show (-1 : Int32) = i3 (-1) from rfl)) rfl))))) c9) ?_
  clear c9
  have r3 := zM_f hZ1I 2 0 0 (1811 + 2 * v2)
  have r4 := zM_py hZ1I v2
  have w5 : v2 = -1 ∨ (-1) < Z1 2 0 0 (1811 + 2 * v2) ∨ Z1 2 0 0 (1811 + 2 * v2) = (-1) ∧ (-1) < v2 := wv20
  refine sl_281_1 (ν := ν) hZ1I (zbh (c := 0) (k := 0) hM (Nat.le_of_ble_eq_true rfl)) zC_r (x1 := a1) (by omega) (x2 := a2) (by omega) (x3 := v2) (by omega) zU_r (by omega) (zconso rfl (zconso (zvo (rfl : i3 a1 = i3 a1)) (zconso (zvo (rfl : i3 a2 = i3 a2)) (zconso (zvo (rfl : i3 v2 = i3 v2)) (zconso rfl (zconso rfl rfl)))))) rfl ?_
  intro L8 Z7 y6 hL8 hZ7I kZ7 jZ7 gy6 q9
  replace hP := zl_e2 hP (Eq.symm q9)
  clear q9
  have hZ7U : zU [] Z Z7 := zU_t hZ1U jZ7 zU_b0
  have hZ7K : zC [2] Z Z7 := zC_t hZ1K kZ7 (by decide)
  refine fc_281_2  _ _ _ _ hL8 ?_
  exact zlV hP ⟨hZ7I, hZ7K, hZ7U⟩
/- yX12_bClose -/
def zl_265_1 (x1 : Int) : Nat → qz_Z → Int → qz_Z × Int
  | 0, Z, x2 => (Z, x2)
  | m + 1, Z, x2 => (if (Z 2 0 0 1400) ≤ x2 then (Z, x2) else (zlet (zf_281 Z x2 x1) (fun Z3 => zl_265_1 x1 m Z3 (x2 + 1))))
theorem sl_265_1 {s : zSM} {Zs Z : qz_Z} {ν : qz_N} (hZ : zM s Z) (hM : s.2 + 0 ≤ 1000000000) (hK : zC [2] Zs Z) {x1 : Int} (gx1 : 0 ≤ x1 ∧ x1 ≤ 27) {x2 : Int} (gx2 : 0 ≤ x2 ∧ x2 ≤ 8) (hU : zU [] Zs Z) {k : wz_K} {R : wz_R} {L : qz_L} (hL : qz_fg [true, true, true] L = [some (.inr (.inr (some (1, 0, 0)))), some (.inl (i3 x1)), some (.inl (i3 x2))]) {T : qz_Z × Int} (hP : zE T (zl_265_1 x1 ((8 - x2).toNat + 1) Z x2)) (hk : ∀ (L9 : qz_L) (Z9 : qz_Z) (yx2 : Int), qz_fg [true, false, false] L9 = [some (.inr (.inr (some (1, 0, 0)))), none, none] → zM s Z9 → zC [2] Zs Z9 → zU [] Zs Z9 → (0 ≤ yx2 ∧ yx2 ≤ 8) → zE T ((Z9, yx2)) → k 0 (L9, [], zm Z9 ν)) : wz_loop qb_265_1 65536 k R (L, [], zm Z ν) := by
  refine wz_lp sb_265_1 (fun m x => ∃ Z : qz_Z, ∃ x2 : Int, qz_fg [true, true, true] x.1 = [some (.inr (.inr (some (1, 0, 0)))), some (.inl (i3 x1)), some (.inl (i3 x2))] ∧ x.2 = ([], zm Z ν) ∧ zM s Z ∧ zC [2] Zs Z ∧ zU [] Zs Z ∧ m = (8 - x2).toNat ∧ (0 ≤ x2 ∧ x2 ≤ 8) ∧ zE T (zl_265_1 x1 (m + 1) Z x2)) ?_ 65536 ((8 - x2).toNat) _ (by omega) ⟨Z, x2, hL, rfl, hZ, hK, hU, rfl, gx2, hP⟩
  clear hP gx2 hZ hK hU hL
  clear x2
  clear Z
  rintro m ⟨L, st, μ⟩ ⟨Z, x2, hL, hx, hZ, hK, hU, hm, gx2, hP⟩
  cases hx
  refine fb_265_1 (i3 x1) (i3 x2) _ _ _ _ hL ?_
  have r1 := zM_k hZ 2 0 0 1400 (lo := 0) (hi := 8) (by decide) rfl
  refine wz_br (i3Le (zm_rd (Z := Z) (ν := ν) (k := 2) (show ((0 : Nat) : Int) = 0 from rfl) (show ((0 : Nat) : Int) = 0 from rfl) (show ((1400 : Nat) : Int) = 1400 from rfl)) (rfl : i3 x2 = i3 x2) (by omega) (by omega) (by omega) (by omega)) (fun h2 => ?_) (fun h2 => ?_)
  · replace hP := zE_p hP h2
    exact hk _ _ _ (zconso rfl (zconso rfl (zconso rfl rfl))) hZ hK hU (by omega)  hP
  · replace hP := zE_n hP h2
    obtain ⟨Z3, hZ3, c9, hZ3I, kZ3, jZ3⟩ := sp_281 (ν := ν) hZ (a1 := x2) (by omega) (a2 := x1) (by omega) (zbh (c := 0) (k := 0) hM (Nat.le_of_ble_eq_true rfl))
    have hZ3U : zU [] Zs Z3 := zU_t hU jZ3 zU_b0
    have hZ3K : zC [2] Zs Z3 := zC_t hK kZ3 (by decide)
    replace hP := zl_e hP hZ3
    refine wz_cV_of (zas (zcons rfl (zcons (zvi (rfl : i3 x2 = i3 x2)) (zcons (zvi (rfl : i3 x1 = i3 x1)) rfl))) c9) ?_
    clear c9
    obtain ⟨m2, rfl⟩ : ∃ m2, m = m2 + 1 := ⟨m - 1, by omega⟩
    exact wz_k1 ⟨m2, by omega, Z3, (x2 + 1), (zconso rfl (zconso (zvo (rfl : i3 x1 = i3 x1)) (zconso (zvo (i3A (rfl : i3 x2 = i3 x2) (show (1 : Int32) = i3 1 from rfl))) rfl))), rfl, hZ3I, hZ3K, hZ3U, by omega, by omega,  hP⟩
/- yX12_bClose -/
def zl_265_2 : Nat → qz_Z → Int → qz_Z × Int
  | 0, Z, x2 => (Z, x2)
  | m + 1, Z, x2 => (if (Z 2 0 0 1401) ≤ x2 then (Z, x2) else (if (Z 2 0 0 (1517 + 12 * x2)) ≠ 0 then zl_265_2 m Z (x2 + 1) else (if (z2 (fun x y => x &&& y) (z2 (fun x y => x >>> (y &&& 31)) (Z 2 0 0 (1515 + 12 * x2)) (((Z 2 0 0 0) / 24) % 7)) 1) ≠ 1 then zl_265_2 m Z (x2 + 1) else (zlet (zu Z 2 0 0 (1516 + 12 * x2) (Z 2 0 0 (1513 + 12 * x2))) (fun Z12 => zl_265_2 m Z12 (x2 + 1))))))
theorem sl_265_2 {s : zSM} {Zs Z : qz_Z} {ν : qz_N} (hZ : zM s Z) (hM : s.2 + 0 ≤ 1000000000) (hK : zC [2] Zs Z) {x2 : Int} (gx2 : 0 ≤ x2 ∧ x2 ≤ 24) (hU : zU [] Zs Z) {k : wz_K} {R : wz_R} {L : qz_L} (hL : qz_fg [true, false, true] L = [some (.inr (.inr (some (1, 0, 0)))), none, some (.inl (i3 x2))]) {T : qz_Z × Int} (hP : zE T (zl_265_2 ((24 - x2).toNat + 1) Z x2)) (hk : ∀ (L9 : qz_L) (Z9 : qz_Z) (yx2 : Int), qz_fg [false, false, false] L9 = [none, none, none] → zM s Z9 → zC [2] Zs Z9 → zU [] Zs Z9 → (0 ≤ yx2 ∧ yx2 ≤ 24) → zE T ((Z9, yx2)) → k 0 (L9, [], zm Z9 ν)) : wz_loop qb_265_2 65536 k R (L, [], zm Z ν) := by
  refine wz_lp sb_265_2 (fun m x => ∃ Z : qz_Z, ∃ x2 : Int, qz_fg [true, false, true] x.1 = [some (.inr (.inr (some (1, 0, 0)))), none, some (.inl (i3 x2))] ∧ x.2 = ([], zm Z ν) ∧ zM s Z ∧ zC [2] Zs Z ∧ zU [] Zs Z ∧ m = (24 - x2).toNat ∧ (0 ≤ x2 ∧ x2 ≤ 24) ∧ zE T (zl_265_2 (m + 1) Z x2)) ?_ 65536 ((24 - x2).toNat) _ (by omega) ⟨Z, x2, hL, rfl, hZ, hK, hU, rfl, gx2, hP⟩
  clear hP gx2 hZ hK hU hL
  clear x2
  clear Z
  rintro m ⟨L, st, μ⟩ ⟨Z, x2, hL, hx, hZ, hK, hU, hm, gx2, hP⟩
  cases hx
  refine fb_265_2 (i3 x2) _ _ _ _ hL ?_
  have r1 := zM_k hZ 2 0 0 1401 (lo := 0) (hi := 24) (by decide) rfl
  refine wz_br (i3Le (zm_rd (Z := Z) (ν := ν) (k := 2) (show ((0 : Nat) : Int) = 0 from rfl) (show ((0 : Nat) : Int) = 0 from rfl) (show ((1401 : Nat) : Int) = 1401 from rfl)) (rfl : i3 x2 = i3 x2) (by omega) (by omega) (by omega) (by omega)) (fun h2 => ?_) (fun h2 => ?_)
  · replace hP := zE_p hP h2
    exact hk _ _ _ (zconso rfl (zconso rfl (zconso rfl rfl))) hZ hK hU (by omega)  hP
  · replace hP := zE_n hP h2
    refine wz_i0 (i3O (n := 4400) (i3A (i3A (show (1510 : Int32) = i3 1510 from rfl) (i3M (show (12 : Int32) = i3 12 from rfl) (rfl : i3 x2 = i3 x2))) (show (7 : Int32) = i3 7 from rfl)) (by omega) (by omega) (by omega)) ?_
    have r3 := zM_k hZ 2 0 0 (1517 + 12 * x2) (lo := 0) (hi := 1) (by decide) (zs_1510_7 (x := x2) (by omega) (by omega) (by omega))
    refine wz_br (i3NE (zm_rd (Z := Z) (ν := ν) (k := 2) (show ((0 : Nat) : Int) = 0 from rfl) (show ((0 : Nat) : Int) = 0 from rfl) (i3I (y := (1517 + 12 * x2)) (i3A (i3A (show (1510 : Int32) = i3 1510 from rfl) (i3M (show (12 : Int32) = i3 12 from rfl) (rfl : i3 x2 = i3 x2))) (show (7 : Int32) = i3 7 from rfl)) (by omega) (by omega) (by omega))) (show (0 : Int32) = i3 0 from rfl) (by omega) (by omega) (by omega) (by omega)) (fun h4 => ?_) (fun h4 => ?_)
    · replace hP := zE_p hP h4
      obtain ⟨m2, rfl⟩ : ∃ m2, m = m2 + 1 := ⟨m - 1, by omega⟩
      exact wz_k1 ⟨m2, by omega, Z, (x2 + 1), (zconso rfl (zconso rfl (zconso (zvo (i3A (rfl : i3 x2 = i3 x2) (show (1 : Int32) = i3 1 from rfl))) rfl))), rfl, hZ, hK, hU, by omega, by omega,  hP⟩
    · replace hP := zE_n hP h4
      refine wz_i0 (i3O (n := 4400) (i3A (i3A (show (1510 : Int32) = i3 1510 from rfl) (i3M (show (12 : Int32) = i3 12 from rfl) (rfl : i3 x2 = i3 x2))) (show (5 : Int32) = i3 5 from rfl)) (by omega) (by omega) (by omega)) ?_
      have r5 := zM_k hZ 2 0 0 (1515 + 12 * x2) (lo := 0) (hi := 127) (by decide) (zs_1510_5 (x := x2) (by omega) (by omega) (by omega))
      have r6 := zM_k hZ 2 0 0 0 (lo := 0) (hi := 671) (by decide) rfl
      have r7 := z2_r (fun x y => x >>> (y &&& 31)) (Z 2 0 0 (1515 + 12 * x2)) (((Z 2 0 0 0) / 24) % 7)
      have r8 := z2_r (fun x y => x &&& y) (z2 (fun x y => x >>> (y &&& 31)) (Z 2 0 0 (1515 + 12 * x2)) (((Z 2 0 0 0) / 24) % 7)) 1
      have r9 := z2_and (z2 (fun x y => x >>> (y &&& 31)) (Z 2 0 0 (1515 + 12 * x2)) (((Z 2 0 0 0) / 24) % 7)) (y := 1) (by omega) (by omega)
      refine wz_br (i3NE (i3Z (fun x y => x &&& y) (i3Z (fun x y => x >>> (y &&& 31)) (zm_rd (Z := Z) (ν := ν) (k := 2) (show ((0 : Nat) : Int) = 0 from rfl) (show ((0 : Nat) : Int) = 0 from rfl) (i3I (y := (1515 + 12 * x2)) (i3A (i3A (show (1510 : Int32) = i3 1510 from rfl) (i3M (show (12 : Int32) = i3 12 from rfl) (rfl : i3 x2 = i3 x2))) (show (5 : Int32) = i3 5 from rfl)) (by omega) (by omega) (by omega))) (i3R (i3D (zm_rd (Z := Z) (ν := ν) (k := 2) (show ((0 : Nat) : Int) = 0 from rfl) (show ((0 : Nat) : Int) = 0 from rfl) (show ((0 : Nat) : Int) = 0 from rfl)) (show (24 : Int32) = i3 24 from rfl) (by omega) (by omega) (by omega) (by omega)) (show (7 : Int32) = i3 7 from rfl) (by omega) (by omega) (by omega) (by omega))) (show (1 : Int32) = i3 1 from rfl)) (show (1 : Int32) = i3 1 from rfl) (by omega) (by omega) (by omega) (by omega)) (fun h10 => ?_) (fun h10 => ?_)
      · replace hP := zE_p hP h10
        obtain ⟨m2, rfl⟩ : ∃ m2, m = m2 + 1 := ⟨m - 1, by omega⟩
        exact wz_k1 ⟨m2, by omega, Z, (x2 + 1), (zconso rfl (zconso rfl (zconso (zvo (i3A (rfl : i3 x2 = i3 x2) (show (1 : Int32) = i3 1 from rfl))) rfl))), rfl, hZ, hK, hU, by omega, by omega,  hP⟩
      · replace hP := zE_n hP h10
        refine wz_i0 (i3O (n := 4400) (i3A (i3A (show (1510 : Int32) = i3 1510 from rfl) (i3M (show (12 : Int32) = i3 12 from rfl) (rfl : i3 x2 = i3 x2))) (show (3 : Int32) = i3 3 from rfl)) (by omega) (by omega) (by omega)) ?_
        refine wz_i0 (i3O (n := 4400) (i3A (i3A (show (1510 : Int32) = i3 1510 from rfl) (i3M (show (12 : Int32) = i3 12 from rfl) (rfl : i3 x2 = i3 x2))) (show (6 : Int32) = i3 6 from rfl)) (by omega) (by omega) (by omega)) ?_
        have r11 := zM_k hZ 2 0 0 (1513 + 12 * x2) (lo := 0) (hi := 99) (by decide) (zs_1510_3 (x := x2) (by omega) (by omega) (by omega))
        obtain ⟨Z12, hZ12⟩ := zx (zu Z 2 0 0 (1516 + 12 * x2) (Z 2 0 0 (1513 + 12 * x2)))
        replace hP := zl_e hP hZ12
        have hZ12I := zM_u2 hZ hZ12 (lo := 0) (hi := 99) (zs_1510_6 (x := x2) (by omega) (by omega) (by omega)) (by omega) ⟨by decide, by decide⟩ (by simp only [zsp]; omega)
        have hZ12U : zU [] Zs Z12 := zU_u hU hZ12 (Or.inl rfl)
        have hZ12K : zC [2] Zs Z12 := zC_u hK hZ12 (zcl_2w (by omega) rfl)
        intro μ9 e9
        replace e9 := e9.trans (zm_wI (Z := Z) (ν := ν) hZ12 (show ((0 : Nat) : Int) = 0 from rfl) (show ((0 : Nat) : Int) = 0 from rfl) (i3I (y := (1516 + 12 * x2)) (i3A (i3A (show (1510 : Int32) = i3 1510 from rfl) (i3M (show (12 : Int32) = i3 12 from rfl) (rfl : i3 x2 = i3 x2))) (show (6 : Int32) = i3 6 from rfl)) (by omega) (by omega) (by omega)) (zm_rd (Z := Z) (ν := ν) (k := 2) (show ((0 : Nat) : Int) = 0 from rfl) (show ((0 : Nat) : Int) = 0 from rfl) (i3I (y := (1513 + 12 * x2)) (i3A (i3A (show (1510 : Int32) = i3 1510 from rfl) (i3M (show (12 : Int32) = i3 12 from rfl) (rfl : i3 x2 = i3 x2))) (show (3 : Int32) = i3 3 from rfl)) (by omega) (by omega) (by omega))))
        subst e9
        obtain ⟨m2, rfl⟩ : ∃ m2, m = m2 + 1 := ⟨m - 1, by omega⟩
        exact wz_k1 ⟨m2, by omega, Z12, (x2 + 1), (zconso rfl (zconso rfl (zconso (zvo (i3A (rfl : i3 x2 = i3 x2) (show (1 : Int32) = i3 1 from rfl))) rfl))), rfl, hZ12I, hZ12K, hZ12U, by omega, by omega,  hP⟩
/- yX12_bClose -/
def zf_265 (Z : qz_Z) (a1 : Int) : qz_Z := (zlet2 (zl_265_1 a1 9 Z 0) (fun Z2 y1 => (zlet2 (zl_265_2 25 Z2 0) (fun Z5 y4 => Z5))))
theorem sp_265 {s : zSM} {Z : qz_Z} {ν : qz_N} (hZ : zM s Z) {a1 : Int} (ga1 : 0 ≤ a1 ∧ a1 ≤ 27) (hM : s.2 + 0 ≤ 1000000000) : ∃ P : qz_Z, P = zf_265 Z a1 ∧ (qf_265 [.inr (.inr (some (1, 0, 0))), .inl (i3 a1)] (zm Z ν) = some (zm P ν, .inl none) ∧ zM s P ∧ zC [2] Z P ∧ zU [] Z P) := by
  obtain ⟨P, hP⟩ := zx (zf_265 Z a1)
  refine zc_V (Q := fun P => zM s P ∧ zC [2] Z P ∧ zU [] Z P) hP (fw_265 (i3 a1) _ _ ?_)
  replace hP : zE P (zf_265 Z a1) := hP
  unfold zf_265 at hP
  refine sl_265_1 (ν := ν) hZ (zbh (c := 0) (k := 0) hM (Nat.le_of_ble_eq_true rfl)) zC_r (x1 := a1) (by omega) (x2 := 0) (by omega) zU_r  (zconso rfl (zconso (zvo (rfl : i3 a1 = i3 a1)) (zconso (zvo (show (0 : Int32) = i3 0 from rfl)) rfl))) rfl ?_
  intro L3 Z2 y1 hL3 hZ2I kZ2 jZ2 gy1 q9
  replace hP := zl_e2 hP (Eq.symm q9)
  clear q9
  have hZ2U : zU [] Z Z2 := zU_t zU_r jZ2 zU_b0
  have hZ2K : zC [2] Z Z2 := zC_t zC_r kZ2 (by decide)
  refine fc_265_4  _ _ _ _ hL3 ?_
  refine sl_265_2 (ν := ν) hZ2I (zbh (c := 0) (k := 0) hM (Nat.le_of_ble_eq_true rfl)) zC_r (x2 := 0) (by omega) zU_r  (zconso rfl (zconso rfl (zconso (zvo (show (0 : Int32) = i3 0 from rfl)) rfl))) rfl ?_
  intro L6 Z5 y4 hL6 hZ5I kZ5 jZ5 gy4 q9
  replace hP := zl_e2 hP (Eq.symm q9)
  clear q9
  have hZ5U : zU [] Z Z5 := zU_t hZ2U jZ5 zU_b0
  have hZ5K : zC [2] Z Z5 := zC_t hZ2K kZ5 (by decide)
  refine fc_265_3  _ _ _ _ hL6 ?_
  exact zlV hP ⟨hZ5I, hZ5K, hZ5U⟩
/- yX12_bGiven -/
def zf_272 (Z : qz_Z) (a1 : Int) (a2 : Int) : qz_Z := (if (Z 2 0 0 (1810 + 2 * a1)) ≤ a2 then (zlet (zu Z 2 0 0 (1810 + 2 * a1) ((Z 2 0 0 (1810 + 2 * a1)) - (Z 2 0 0 (1810 + 2 * a1)))) (fun Z3 => (zlet (zu Z3 2 0 0 (1413 + 12 * (Z 2 0 0 (2011 + 16 * a1))) (w3 ((Z3 2 0 0 (1413 + 12 * (Z 2 0 0 (2011 + 16 * a1)))) + (w3 (a2 - (Z 2 0 0 (1810 + 2 * a1))))))) (fun Z8 => (zlet (zu Z8 2 0 0 (1416 + 12 * (Z 2 0 0 (2011 + 16 * a1))) (w3 ((Z8 2 0 0 (1416 + 12 * (Z 2 0 0 (2011 + 16 * a1)))) + a2))) (fun Z11 => Z11)))))) else (zlet (zu Z 2 0 0 (1810 + 2 * a1) ((Z 2 0 0 (1810 + 2 * a1)) - a2)) (fun Z12 => (zlet (zu Z12 2 0 0 (1413 + 12 * (Z 2 0 0 (2011 + 16 * a1))) ((Z12 2 0 0 (1413 + 12 * (Z 2 0 0 (2011 + 16 * a1)))) + (a2 - a2))) (fun Z15 => (zlet (zu Z15 2 0 0 (1416 + 12 * (Z 2 0 0 (2011 + 16 * a1))) (w3 ((Z15 2 0 0 (1416 + 12 * (Z 2 0 0 (2011 + 16 * a1)))) + a2))) (fun Z18 => Z18)))))))
theorem sp_272 {s : zSM} {Z : qz_Z} {ν : qz_N} (hZ : zM s Z) {a1 : Int} (ga1 : 0 ≤ a1 ∧ a1 ≤ 59) {a2 : Int} (ga2 : 1 ≤ a2 ∧ a2 ≤ 15998400) (hM : s.2 + 0 ≤ 1000000000) : ∃ P : qz_Z, P = zf_272 Z a1 a2 ∧ (qf_272 [.inr (.inr (some (1, 0, 0))), .inl (i3 a1), .inl (i3 a2)] (zm Z ν) = some (zm P ν, .inl none) ∧ zM s P ∧ zC [2] Z P ∧ zU [] Z P) := by
  obtain ⟨P, hP⟩ := zx (zf_272 Z a1 a2)
  refine zc_V (Q := fun P => zM s P ∧ zC [2] Z P ∧ zU [] Z P) hP (fw_272 (i3 a1) (i3 a2) _ _ ?_)
  replace hP : zE P (zf_272 Z a1 a2) := hP
  unfold zf_272 at hP
  refine wz_i0 (i3O (n := 4400) (i3A (i3A (show (2010 : Int32) = i3 2010 from rfl) (i3M (show (16 : Int32) = i3 16 from rfl) (rfl : i3 a1 = i3 a1))) (show (1 : Int32) = i3 1 from rfl)) (by omega) (by omega) (by omega)) ?_
  refine wz_i0 (i3O (n := 4400) (i3A (show (1810 : Int32) = i3 1810 from rfl) (i3M (show (2 : Int32) = i3 2 from rfl) (rfl : i3 a1 = i3 a1))) (by omega) (by omega) (by omega)) ?_
  have r1 := zM_f hZ 2 0 0 (1810 + 2 * a1)
  refine wz_br (i3Le (zm_rd (Z := Z) (ν := ν) (k := 2) (show ((0 : Nat) : Int) = 0 from rfl) (show ((0 : Nat) : Int) = 0 from rfl) (i3I (y := (1810 + 2 * a1)) (i3A (show (1810 : Int32) = i3 1810 from rfl) (i3M (show (2 : Int32) = i3 2 from rfl) (rfl : i3 a1 = i3 a1))) (by omega) (by omega) (by omega))) (rfl : i3 a2 = i3 a2) (by omega) (by omega) (by omega) (by omega)) (fun h2 => ?_) (fun h2 => ?_)
  · replace hP := zE_p hP h2
    refine wz_i0 (i3O (n := 4400) (i3A (show (1810 : Int32) = i3 1810 from rfl) (i3M (show (2 : Int32) = i3 2 from rfl) (rfl : i3 a1 = i3 a1))) (by omega) (by omega) (by omega)) ?_
    refine wz_i0 (i3O (n := 4400) (i3A (show (1810 : Int32) = i3 1810 from rfl) (i3M (show (2 : Int32) = i3 2 from rfl) (rfl : i3 a1 = i3 a1))) (by omega) (by omega) (by omega)) ?_
    refine wz_i0 (i3O (n := 4400) (i3A (show (1810 : Int32) = i3 1810 from rfl) (i3M (show (2 : Int32) = i3 2 from rfl) (rfl : i3 a1 = i3 a1))) (by omega) (by omega) (by omega)) ?_
    obtain ⟨Z3, hZ3⟩ := zx (zu Z 2 0 0 (1810 + 2 * a1) ((Z 2 0 0 (1810 + 2 * a1)) - (Z 2 0 0 (1810 + 2 * a1))))
    replace hP := zl_e hP hZ3
    have hZ3I := zM_u2 hZ hZ3 (lo := -2147483648) (hi := 2147483647) (zs_1810_0 (x := a1) (by omega) (by omega) (by omega)) (by omega) ⟨by decide, by decide⟩ (by simp only [zsp]; omega)
    have hZ3U : zU [] Z Z3 := zU_u zU_r hZ3 (Or.inl rfl)
    have hZ3K : zC [2] Z Z3 := zC_u zC_r hZ3 (zcl_2w (by omega) rfl)
    intro μ9 e9
    replace e9 := e9.trans (zm_wI (Z := Z) (ν := ν) hZ3 (show ((0 : Nat) : Int) = 0 from rfl) (show ((0 : Nat) : Int) = 0 from rfl) (i3I (y := (1810 + 2 * a1)) (i3A (show (1810 : Int32) = i3 1810 from rfl) (i3M (show (2 : Int32) = i3 2 from rfl) (rfl : i3 a1 = i3 a1))) (by omega) (by omega) (by omega)) (i3S (zm_rd (Z := Z) (ν := ν) (k := 2) (show ((0 : Nat) : Int) = 0 from rfl) (show ((0 : Nat) : Int) = 0 from rfl) (i3I (y := (1810 + 2 * a1)) (i3A (show (1810 : Int32) = i3 1810 from rfl) (i3M (show (2 : Int32) = i3 2 from rfl) (rfl : i3 a1 = i3 a1))) (by omega) (by omega) (by omega))) (zm_rd (Z := Z) (ν := ν) (k := 2) (show ((0 : Nat) : Int) = 0 from rfl) (show ((0 : Nat) : Int) = 0 from rfl) (i3I (y := (1810 + 2 * a1)) (i3A (show (1810 : Int32) = i3 1810 from rfl) (i3M (show (2 : Int32) = i3 2 from rfl) (rfl : i3 a1 = i3 a1))) (by omega) (by omega) (by omega)))))
    subst e9
    have r4 := zM_k hZ 2 0 0 (2011 + 16 * a1) (lo := 0) (hi := 7) (by decide) (zs_2010_1 (x := a1) (by omega) (by omega) (by omega))
    refine wz_i0 (i3O (n := 4400) (i3A (i3A (show (1410 : Int32) = i3 1410 from rfl) (i3M (show (12 : Int32) = i3 12 from rfl) (zm_rd (Z := Z) (ν := ν) (k := 2) (show ((0 : Nat) : Int) = 0 from rfl) (show ((0 : Nat) : Int) = 0 from rfl) (i3I (y := (2011 + 16 * a1)) (i3A (i3A (show (2010 : Int32) = i3 2010 from rfl) (i3M (show (16 : Int32) = i3 16 from rfl) (rfl : i3 a1 = i3 a1))) (show (1 : Int32) = i3 1 from rfl)) (by omega) (by omega) (by omega))))) (show (3 : Int32) = i3 3 from rfl)) (by omega) (by omega) (by omega)) ?_
    refine wz_i0 (i3O (n := 4400) (i3A (i3A (show (1410 : Int32) = i3 1410 from rfl) (i3M (show (12 : Int32) = i3 12 from rfl) (zm_rd (Z := Z) (ν := ν) (k := 2) (show ((0 : Nat) : Int) = 0 from rfl) (show ((0 : Nat) : Int) = 0 from rfl) (i3I (y := (2011 + 16 * a1)) (i3A (i3A (show (2010 : Int32) = i3 2010 from rfl) (i3M (show (16 : Int32) = i3 16 from rfl) (rfl : i3 a1 = i3 a1))) (show (1 : Int32) = i3 1 from rfl)) (by omega) (by omega) (by omega))))) (show (3 : Int32) = i3 3 from rfl)) (by omega) (by omega) (by omega)) ?_
    have r5 := zM_f hZ3I 2 0 0 (1413 + 12 * (Z 2 0 0 (2011 + 16 * a1)))
    have r6 := w3_r (a2 - (Z 2 0 0 (1810 + 2 * a1)))
    have r7 := w3_r ((Z3 2 0 0 (1413 + 12 * (Z 2 0 0 (2011 + 16 * a1)))) + (w3 (a2 - (Z 2 0 0 (1810 + 2 * a1)))))
    obtain ⟨Z8, hZ8⟩ := zx (zu Z3 2 0 0 (1413 + 12 * (Z 2 0 0 (2011 + 16 * a1))) (w3 ((Z3 2 0 0 (1413 + 12 * (Z 2 0 0 (2011 + 16 * a1)))) + (w3 (a2 - (Z 2 0 0 (1810 + 2 * a1)))))))
    replace hP := zl_e hP hZ8
    have hZ8I := zM_u2 hZ3I hZ8 (lo := -2147483648) (hi := 2147483647) (zs_1410_3 (x := (Z 2 0 0 (2011 + 16 * a1))) (by omega) (by omega) (by omega)) (by omega) ⟨by decide, by decide⟩ (by simp only [zsp]; omega)
    have hZ8U : zU [] Z Z8 := zU_u hZ3U hZ8 (Or.inl rfl)
    have hZ8K : zC [2] Z Z8 := zC_u hZ3K hZ8 (zcl_2w (by omega) rfl)
    intro μ9 e9
    replace e9 := e9.trans (zm_wI (Z := Z3) (ν := ν) hZ8 (show ((0 : Nat) : Int) = 0 from rfl) (show ((0 : Nat) : Int) = 0 from rfl) (i3I (y := (1413 + 12 * (Z 2 0 0 (2011 + 16 * a1)))) (i3A (i3A (show (1410 : Int32) = i3 1410 from rfl) (i3M (show (12 : Int32) = i3 12 from rfl) (zm_rd (Z := Z) (ν := ν) (k := 2) (show ((0 : Nat) : Int) = 0 from rfl) (show ((0 : Nat) : Int) = 0 from rfl) (i3I (y := (2011 + 16 * a1)) (i3A (i3A (show (2010 : Int32) = i3 2010 from rfl) (i3M (show (16 : Int32) = i3 16 from rfl) (rfl : i3 a1 = i3 a1))) (show (1 : Int32) = i3 1 from rfl)) (by omega) (by omega) (by omega))))) (show (3 : Int32) = i3 3 from rfl)) (by omega) (by omega) (by omega)) (i3W (i3A (zm_rd (Z := Z3) (ν := ν) (k := 2) (show ((0 : Nat) : Int) = 0 from rfl) (show ((0 : Nat) : Int) = 0 from rfl) (i3I (y := (1413 + 12 * (Z 2 0 0 (2011 + 16 * a1)))) (i3A (i3A (show (1410 : Int32) = i3 1410 from rfl) (i3M (show (12 : Int32) = i3 12 from rfl) (zm_rd (Z := Z) (ν := ν) (k := 2) (show ((0 : Nat) : Int) = 0 from rfl) (show ((0 : Nat) : Int) = 0 from rfl) (i3I (y := (2011 + 16 * a1)) (i3A (i3A (show (2010 : Int32) = i3 2010 from rfl) (i3M (show (16 : Int32) = i3 16 from rfl) (rfl : i3 a1 = i3 a1))) (show (1 : Int32) = i3 1 from rfl)) (by omega) (by omega) (by omega))))) (show (3 : Int32) = i3 3 from rfl)) (by omega) (by omega) (by omega))) (i3W (i3S (rfl : i3 a2 = i3 a2) (zm_rd (Z := Z) (ν := ν) (k := 2) (show ((0 : Nat) : Int) = 0 from rfl) (show ((0 : Nat) : Int) = 0 from rfl) (i3I (y := (1810 + 2 * a1)) (i3A (show (1810 : Int32) = i3 1810 from rfl) (i3M (show (2 : Int32) = i3 2 from rfl) (rfl : i3 a1 = i3 a1))) (by omega) (by omega) (by omega))))))))
    subst e9
    refine wz_i0 (i3O (n := 4400) (i3A (i3A (show (1410 : Int32) = i3 1410 from rfl) (i3M (show (12 : Int32) = i3 12 from rfl) (zm_rd (Z := Z) (ν := ν) (k := 2) (show ((0 : Nat) : Int) = 0 from rfl) (show ((0 : Nat) : Int) = 0 from rfl) (i3I (y := (2011 + 16 * a1)) (i3A (i3A (show (2010 : Int32) = i3 2010 from rfl) (i3M (show (16 : Int32) = i3 16 from rfl) (rfl : i3 a1 = i3 a1))) (show (1 : Int32) = i3 1 from rfl)) (by omega) (by omega) (by omega))))) (show (6 : Int32) = i3 6 from rfl)) (by omega) (by omega) (by omega)) ?_
    refine wz_i0 (i3O (n := 4400) (i3A (i3A (show (1410 : Int32) = i3 1410 from rfl) (i3M (show (12 : Int32) = i3 12 from rfl) (zm_rd (Z := Z) (ν := ν) (k := 2) (show ((0 : Nat) : Int) = 0 from rfl) (show ((0 : Nat) : Int) = 0 from rfl) (i3I (y := (2011 + 16 * a1)) (i3A (i3A (show (2010 : Int32) = i3 2010 from rfl) (i3M (show (16 : Int32) = i3 16 from rfl) (rfl : i3 a1 = i3 a1))) (show (1 : Int32) = i3 1 from rfl)) (by omega) (by omega) (by omega))))) (show (6 : Int32) = i3 6 from rfl)) (by omega) (by omega) (by omega)) ?_
    have r9 := zM_f hZ8I 2 0 0 (1416 + 12 * (Z 2 0 0 (2011 + 16 * a1)))
    have r10 := w3_r ((Z8 2 0 0 (1416 + 12 * (Z 2 0 0 (2011 + 16 * a1)))) + a2)
    obtain ⟨Z11, hZ11⟩ := zx (zu Z8 2 0 0 (1416 + 12 * (Z 2 0 0 (2011 + 16 * a1))) (w3 ((Z8 2 0 0 (1416 + 12 * (Z 2 0 0 (2011 + 16 * a1)))) + a2)))
    replace hP := zl_e hP hZ11
    have hZ11I := zM_u2 hZ8I hZ11 (lo := -2147483648) (hi := 2147483647) (zs_1410_6 (x := (Z 2 0 0 (2011 + 16 * a1))) (by omega) (by omega) (by omega)) (by omega) ⟨by decide, by decide⟩ (by simp only [zsp]; omega)
    have hZ11U : zU [] Z Z11 := zU_u hZ8U hZ11 (Or.inl rfl)
    have hZ11K : zC [2] Z Z11 := zC_u hZ8K hZ11 (zcl_2w (by omega) rfl)
    intro μ9 e9
    replace e9 := e9.trans (zm_wI (Z := Z8) (ν := ν) hZ11 (show ((0 : Nat) : Int) = 0 from rfl) (show ((0 : Nat) : Int) = 0 from rfl) (i3I (y := (1416 + 12 * (Z 2 0 0 (2011 + 16 * a1)))) (i3A (i3A (show (1410 : Int32) = i3 1410 from rfl) (i3M (show (12 : Int32) = i3 12 from rfl) (zm_rd (Z := Z) (ν := ν) (k := 2) (show ((0 : Nat) : Int) = 0 from rfl) (show ((0 : Nat) : Int) = 0 from rfl) (i3I (y := (2011 + 16 * a1)) (i3A (i3A (show (2010 : Int32) = i3 2010 from rfl) (i3M (show (16 : Int32) = i3 16 from rfl) (rfl : i3 a1 = i3 a1))) (show (1 : Int32) = i3 1 from rfl)) (by omega) (by omega) (by omega))))) (show (6 : Int32) = i3 6 from rfl)) (by omega) (by omega) (by omega)) (i3W (i3A (zm_rd (Z := Z8) (ν := ν) (k := 2) (show ((0 : Nat) : Int) = 0 from rfl) (show ((0 : Nat) : Int) = 0 from rfl) (i3I (y := (1416 + 12 * (Z 2 0 0 (2011 + 16 * a1)))) (i3A (i3A (show (1410 : Int32) = i3 1410 from rfl) (i3M (show (12 : Int32) = i3 12 from rfl) (zm_rd (Z := Z) (ν := ν) (k := 2) (show ((0 : Nat) : Int) = 0 from rfl) (show ((0 : Nat) : Int) = 0 from rfl) (i3I (y := (2011 + 16 * a1)) (i3A (i3A (show (2010 : Int32) = i3 2010 from rfl) (i3M (show (16 : Int32) = i3 16 from rfl) (rfl : i3 a1 = i3 a1))) (show (1 : Int32) = i3 1 from rfl)) (by omega) (by omega) (by omega))))) (show (6 : Int32) = i3 6 from rfl)) (by omega) (by omega) (by omega))) (rfl : i3 a2 = i3 a2))))
    subst e9
    exact zlV hP ⟨hZ11I, hZ11K, hZ11U⟩
  · replace hP := zE_n hP h2
    refine wz_i0 (i3O (n := 4400) (i3A (show (1810 : Int32) = i3 1810 from rfl) (i3M (show (2 : Int32) = i3 2 from rfl) (rfl : i3 a1 = i3 a1))) (by omega) (by omega) (by omega)) ?_
    refine wz_i0 (i3O (n := 4400) (i3A (show (1810 : Int32) = i3 1810 from rfl) (i3M (show (2 : Int32) = i3 2 from rfl) (rfl : i3 a1 = i3 a1))) (by omega) (by omega) (by omega)) ?_
    obtain ⟨Z12, hZ12⟩ := zx (zu Z 2 0 0 (1810 + 2 * a1) ((Z 2 0 0 (1810 + 2 * a1)) - a2))
    replace hP := zl_e hP hZ12
    have hZ12I := zM_u2 hZ hZ12 (lo := -2147483648) (hi := 2147483647) (zs_1810_0 (x := a1) (by omega) (by omega) (by omega)) (by omega) ⟨by decide, by decide⟩ (by simp only [zsp]; omega)
    have hZ12U : zU [] Z Z12 := zU_u zU_r hZ12 (Or.inl rfl)
    have hZ12K : zC [2] Z Z12 := zC_u zC_r hZ12 (zcl_2w (by omega) rfl)
    intro μ9 e9
    replace e9 := e9.trans (zm_wI (Z := Z) (ν := ν) hZ12 (show ((0 : Nat) : Int) = 0 from rfl) (show ((0 : Nat) : Int) = 0 from rfl) (i3I (y := (1810 + 2 * a1)) (i3A (show (1810 : Int32) = i3 1810 from rfl) (i3M (show (2 : Int32) = i3 2 from rfl) (rfl : i3 a1 = i3 a1))) (by omega) (by omega) (by omega)) (i3S (zm_rd (Z := Z) (ν := ν) (k := 2) (show ((0 : Nat) : Int) = 0 from rfl) (show ((0 : Nat) : Int) = 0 from rfl) (i3I (y := (1810 + 2 * a1)) (i3A (show (1810 : Int32) = i3 1810 from rfl) (i3M (show (2 : Int32) = i3 2 from rfl) (rfl : i3 a1 = i3 a1))) (by omega) (by omega) (by omega))) (rfl : i3 a2 = i3 a2)))
    subst e9
    have r13 := zM_k hZ 2 0 0 (2011 + 16 * a1) (lo := 0) (hi := 7) (by decide) (zs_2010_1 (x := a1) (by omega) (by omega) (by omega))
    refine wz_i0 (i3O (n := 4400) (i3A (i3A (show (1410 : Int32) = i3 1410 from rfl) (i3M (show (12 : Int32) = i3 12 from rfl) (zm_rd (Z := Z) (ν := ν) (k := 2) (show ((0 : Nat) : Int) = 0 from rfl) (show ((0 : Nat) : Int) = 0 from rfl) (i3I (y := (2011 + 16 * a1)) (i3A (i3A (show (2010 : Int32) = i3 2010 from rfl) (i3M (show (16 : Int32) = i3 16 from rfl) (rfl : i3 a1 = i3 a1))) (show (1 : Int32) = i3 1 from rfl)) (by omega) (by omega) (by omega))))) (show (3 : Int32) = i3 3 from rfl)) (by omega) (by omega) (by omega)) ?_
    refine wz_i0 (i3O (n := 4400) (i3A (i3A (show (1410 : Int32) = i3 1410 from rfl) (i3M (show (12 : Int32) = i3 12 from rfl) (zm_rd (Z := Z) (ν := ν) (k := 2) (show ((0 : Nat) : Int) = 0 from rfl) (show ((0 : Nat) : Int) = 0 from rfl) (i3I (y := (2011 + 16 * a1)) (i3A (i3A (show (2010 : Int32) = i3 2010 from rfl) (i3M (show (16 : Int32) = i3 16 from rfl) (rfl : i3 a1 = i3 a1))) (show (1 : Int32) = i3 1 from rfl)) (by omega) (by omega) (by omega))))) (show (3 : Int32) = i3 3 from rfl)) (by omega) (by omega) (by omega)) ?_
    have r14 := zM_f hZ12I 2 0 0 (1413 + 12 * (Z 2 0 0 (2011 + 16 * a1)))
    obtain ⟨Z15, hZ15⟩ := zx (zu Z12 2 0 0 (1413 + 12 * (Z 2 0 0 (2011 + 16 * a1))) ((Z12 2 0 0 (1413 + 12 * (Z 2 0 0 (2011 + 16 * a1)))) + (a2 - a2)))
    replace hP := zl_e hP hZ15
    have hZ15I := zM_u2 hZ12I hZ15 (lo := -2147483648) (hi := 2147483647) (zs_1410_3 (x := (Z 2 0 0 (2011 + 16 * a1))) (by omega) (by omega) (by omega)) (by omega) ⟨by decide, by decide⟩ (by simp only [zsp]; omega)
    have hZ15U : zU [] Z Z15 := zU_u hZ12U hZ15 (Or.inl rfl)
    have hZ15K : zC [2] Z Z15 := zC_u hZ12K hZ15 (zcl_2w (by omega) rfl)
    intro μ9 e9
    replace e9 := e9.trans (zm_wI (Z := Z12) (ν := ν) hZ15 (show ((0 : Nat) : Int) = 0 from rfl) (show ((0 : Nat) : Int) = 0 from rfl) (i3I (y := (1413 + 12 * (Z 2 0 0 (2011 + 16 * a1)))) (i3A (i3A (show (1410 : Int32) = i3 1410 from rfl) (i3M (show (12 : Int32) = i3 12 from rfl) (zm_rd (Z := Z) (ν := ν) (k := 2) (show ((0 : Nat) : Int) = 0 from rfl) (show ((0 : Nat) : Int) = 0 from rfl) (i3I (y := (2011 + 16 * a1)) (i3A (i3A (show (2010 : Int32) = i3 2010 from rfl) (i3M (show (16 : Int32) = i3 16 from rfl) (rfl : i3 a1 = i3 a1))) (show (1 : Int32) = i3 1 from rfl)) (by omega) (by omega) (by omega))))) (show (3 : Int32) = i3 3 from rfl)) (by omega) (by omega) (by omega)) (i3A (zm_rd (Z := Z12) (ν := ν) (k := 2) (show ((0 : Nat) : Int) = 0 from rfl) (show ((0 : Nat) : Int) = 0 from rfl) (i3I (y := (1413 + 12 * (Z 2 0 0 (2011 + 16 * a1)))) (i3A (i3A (show (1410 : Int32) = i3 1410 from rfl) (i3M (show (12 : Int32) = i3 12 from rfl) (zm_rd (Z := Z) (ν := ν) (k := 2) (show ((0 : Nat) : Int) = 0 from rfl) (show ((0 : Nat) : Int) = 0 from rfl) (i3I (y := (2011 + 16 * a1)) (i3A (i3A (show (2010 : Int32) = i3 2010 from rfl) (i3M (show (16 : Int32) = i3 16 from rfl) (rfl : i3 a1 = i3 a1))) (show (1 : Int32) = i3 1 from rfl)) (by omega) (by omega) (by omega))))) (show (3 : Int32) = i3 3 from rfl)) (by omega) (by omega) (by omega))) (i3S (rfl : i3 a2 = i3 a2) (rfl : i3 a2 = i3 a2))))
    subst e9
    refine wz_i0 (i3O (n := 4400) (i3A (i3A (show (1410 : Int32) = i3 1410 from rfl) (i3M (show (12 : Int32) = i3 12 from rfl) (zm_rd (Z := Z) (ν := ν) (k := 2) (show ((0 : Nat) : Int) = 0 from rfl) (show ((0 : Nat) : Int) = 0 from rfl) (i3I (y := (2011 + 16 * a1)) (i3A (i3A (show (2010 : Int32) = i3 2010 from rfl) (i3M (show (16 : Int32) = i3 16 from rfl) (rfl : i3 a1 = i3 a1))) (show (1 : Int32) = i3 1 from rfl)) (by omega) (by omega) (by omega))))) (show (6 : Int32) = i3 6 from rfl)) (by omega) (by omega) (by omega)) ?_
    refine wz_i0 (i3O (n := 4400) (i3A (i3A (show (1410 : Int32) = i3 1410 from rfl) (i3M (show (12 : Int32) = i3 12 from rfl) (zm_rd (Z := Z) (ν := ν) (k := 2) (show ((0 : Nat) : Int) = 0 from rfl) (show ((0 : Nat) : Int) = 0 from rfl) (i3I (y := (2011 + 16 * a1)) (i3A (i3A (show (2010 : Int32) = i3 2010 from rfl) (i3M (show (16 : Int32) = i3 16 from rfl) (rfl : i3 a1 = i3 a1))) (show (1 : Int32) = i3 1 from rfl)) (by omega) (by omega) (by omega))))) (show (6 : Int32) = i3 6 from rfl)) (by omega) (by omega) (by omega)) ?_
    have r16 := zM_f hZ15I 2 0 0 (1416 + 12 * (Z 2 0 0 (2011 + 16 * a1)))
    have r17 := w3_r ((Z15 2 0 0 (1416 + 12 * (Z 2 0 0 (2011 + 16 * a1)))) + a2)
    obtain ⟨Z18, hZ18⟩ := zx (zu Z15 2 0 0 (1416 + 12 * (Z 2 0 0 (2011 + 16 * a1))) (w3 ((Z15 2 0 0 (1416 + 12 * (Z 2 0 0 (2011 + 16 * a1)))) + a2)))
    replace hP := zl_e hP hZ18
    have hZ18I := zM_u2 hZ15I hZ18 (lo := -2147483648) (hi := 2147483647) (zs_1410_6 (x := (Z 2 0 0 (2011 + 16 * a1))) (by omega) (by omega) (by omega)) (by omega) ⟨by decide, by decide⟩ (by simp only [zsp]; omega)
    have hZ18U : zU [] Z Z18 := zU_u hZ15U hZ18 (Or.inl rfl)
    have hZ18K : zC [2] Z Z18 := zC_u hZ15K hZ18 (zcl_2w (by omega) rfl)
    intro μ9 e9
    replace e9 := e9.trans (zm_wI (Z := Z15) (ν := ν) hZ18 (show ((0 : Nat) : Int) = 0 from rfl) (show ((0 : Nat) : Int) = 0 from rfl) (i3I (y := (1416 + 12 * (Z 2 0 0 (2011 + 16 * a1)))) (i3A (i3A (show (1410 : Int32) = i3 1410 from rfl) (i3M (show (12 : Int32) = i3 12 from rfl) (zm_rd (Z := Z) (ν := ν) (k := 2) (show ((0 : Nat) : Int) = 0 from rfl) (show ((0 : Nat) : Int) = 0 from rfl) (i3I (y := (2011 + 16 * a1)) (i3A (i3A (show (2010 : Int32) = i3 2010 from rfl) (i3M (show (16 : Int32) = i3 16 from rfl) (rfl : i3 a1 = i3 a1))) (show (1 : Int32) = i3 1 from rfl)) (by omega) (by omega) (by omega))))) (show (6 : Int32) = i3 6 from rfl)) (by omega) (by omega) (by omega)) (i3W (i3A (zm_rd (Z := Z15) (ν := ν) (k := 2) (show ((0 : Nat) : Int) = 0 from rfl) (show ((0 : Nat) : Int) = 0 from rfl) (i3I (y := (1416 + 12 * (Z 2 0 0 (2011 + 16 * a1)))) (i3A (i3A (show (1410 : Int32) = i3 1410 from rfl) (i3M (show (12 : Int32) = i3 12 from rfl) (zm_rd (Z := Z) (ν := ν) (k := 2) (show ((0 : Nat) : Int) = 0 from rfl) (show ((0 : Nat) : Int) = 0 from rfl) (i3I (y := (2011 + 16 * a1)) (i3A (i3A (show (2010 : Int32) = i3 2010 from rfl) (i3M (show (16 : Int32) = i3 16 from rfl) (rfl : i3 a1 = i3 a1))) (show (1 : Int32) = i3 1 from rfl)) (by omega) (by omega) (by omega))))) (show (6 : Int32) = i3 6 from rfl)) (by omega) (by omega) (by omega))) (rfl : i3 a2 = i3 a2))))
    subst e9
    exact zlV hP ⟨hZ18I, hZ18K, hZ18U⟩
/- yX12_kJudges -/
def zl_408_1 (x1 : Int) (x2 : Int) (x3 : Int) (x4 : Int) (x5 : Int) : Nat → qz_Z → Int → qz_Z × Int
  | 0, Z, x6 => (Z, x6)
  | m + 1, Z, x6 => (if 3 ≤ x6 then (Z, x6) else (zlet (zf_423 Z x2 x3 0) (fun v2 => (zlet (zf_423 Z x2 x3 1) (fun v3 => (zlet (zf_423 Z x2 x3 2) (fun v4 => (if ((v2 + v3) + v4) ≠ 0 then (zlet (zf_418 Z x5 v2 v3 v4 x6) (fun v6 => (zlet (zu Z 2 0 0 (3854 + 8 * x1 + x6) v6) (fun Z7 => zl_408_1 x1 x2 x3 x4 x5 m Z7 (x6 + 1))))) else (zlet (zf_418 Z x5 v2 1 v4 x6) (fun v8 => (zlet (zu Z 2 0 0 (3854 + 8 * x1 + x6) v8) (fun Z9 => zl_408_1 x1 x2 x3 x4 x5 m Z9 (x6 + 1)))))))))))))
theorem sl_408_1 {s : zSM} {Zs Z : qz_Z} {ν : qz_N} (hZ : zM s Z) (hM : s.2 + 0 ≤ 1000000000) (hK : zC [2] Zs Z) {x1 : Int} (gx1 : 0 ≤ x1 ∧ x1 ≤ 11) {x2 : Int} (gx2 : 0 ≤ x2 ∧ x2 ≤ 59) {x3 : Int} (gx3 : 0 ≤ x3 ∧ x3 ≤ 3) {x4 : Int} (gx4 : 0 ≤ x4 ∧ x4 ≤ 47) {x5 : Int} (gx5 : 1 ≤ x5 ∧ x5 ≤ 15998400) {x6 : Int} (gx6 : 0 ≤ x6 ∧ x6 ≤ 3) (hU : zU [] Zs Z) {k : wz_K} {R : wz_R} {L : qz_L} (hL : qz_fg [true, true, true, true, true, true, true] L = [some (.inr (.inr (some (1, 0, 0)))), some (.inl (i3 x1)), some (.inl (i3 x2)), some (.inl (i3 x3)), some (.inl (i3 x4)), some (.inl (i3 x5)), some (.inl (i3 x6))]) {T : qz_Z × Int} (hP : zE T (zl_408_1 x1 x2 x3 x4 x5 ((3 - x6).toNat + 1) Z x6)) (hk : ∀ (L9 : qz_L) (Z9 : qz_Z) (yx6 : Int), qz_fg [true, true, true, false, true, true, false] L9 = [some (.inr (.inr (some (1, 0, 0)))), some (.inl (i3 x1)), some (.inl (i3 x2)), none, some (.inl (i3 x4)), some (.inl (i3 x5)), none] → zM s Z9 → zC [2] Zs Z9 → zU [] Zs Z9 → (0 ≤ yx6 ∧ yx6 ≤ 3) → zE T ((Z9, yx6)) → k 0 (L9, [], zm Z9 ν)) : wz_loop qb_408_1 65536 k R (L, [], zm Z ν) := by sorry
/- yX12_kJudges -/
def zf_408 (Z : qz_Z) (a1 : Int) : qz_Z := (zlet (zf_398 Z (Z 2 0 0 (3850 + 8 * a1)) (Z 2 0 0 (3851 + 8 * a1))) (fun v6 => (if v6 ≠ 0 then (zlet (zu Z 2 0 0 (3852 + 8 * a1) 2) (fun Z8 => (zlet (zu Z8 2 0 0 (3853 + 8 * a1) v6) (fun Z9 => (zlet2 (zl_408_1 a1 (Z 2 0 0 (3850 + 8 * a1)) (Z 2 0 0 (3851 + 8 * a1)) (Z 2 0 0 (2010 + 16 * (Z 2 0 0 (3850 + 8 * a1)))) v6 4 Z9 0) (fun Z12 y11 => (zlet (zf_272 Z12 (Z 2 0 0 (3850 + 8 * a1)) v6) (fun Z14 => (zlet (zf_403 Z14 1 8 v6 (Z 2 0 0 (2010 + 16 * (Z 2 0 0 (3850 + 8 * a1))))) (fun Z15 => (zlet (zf_403 Z15 8 2 (Z14 2 0 0 (3854 + 8 * a1)) (Z 2 0 0 (2010 + 16 * (Z 2 0 0 (3850 + 8 * a1))))) (fun Z17 => (zlet (zu Z17 2 0 0 (3820 + 5 * (Z17 2 0 0 (200 + 20 * (Z17 2 0 0 (2010 + 16 * (Z 2 0 0 (3850 + 8 * a1))))))) (w3 ((Z17 2 0 0 (3820 + 5 * (Z17 2 0 0 (200 + 20 * (Z17 2 0 0 (2010 + 16 * (Z 2 0 0 (3850 + 8 * a1)))))))) - (Z14 2 0 0 (3854 + 8 * a1))))) (fun Z22 => (zlet (zu Z22 2 0 0 (3823 + 5 * (Z22 2 0 0 (200 + 20 * (Z22 2 0 0 (2010 + 16 * (Z 2 0 0 (3850 + 8 * a1))))))) (w3 ((Z22 2 0 0 (3823 + 5 * (Z22 2 0 0 (200 + 20 * (Z22 2 0 0 (2010 + 16 * (Z 2 0 0 (3850 + 8 * a1)))))))) + (Z14 2 0 0 (3854 + 8 * a1))))) (fun Z28 => (zlet (zf_403 Z28 8 0 (Z28 2 0 0 (3856 + 8 * a1)) (Z 2 0 0 (2010 + 16 * (Z 2 0 0 (3850 + 8 * a1))))) (fun Z30 => Z30)))))))))))))))))) else (zlet (zu Z 2 0 0 (3852 + 8 * a1) 1) (fun Z31 => Z31)))))
theorem sp_408 {s : zSM} {Z : qz_Z} {ν : qz_N} (hZ : zM s Z) {a1 : Int} (ga1 : 0 ≤ a1 ∧ a1 ≤ 11) (hM : s.2 + 3 ≤ 1000000000) : ∃ P : qz_Z, P = zf_408 Z a1 ∧ (qf_408 [.inr (.inr (some (1, 0, 0))), .inl (i3 a1)] (zm Z ν) = some (zm P ν, .inl none) ∧ zM (zb s 3) P ∧ zC [2] Z P ∧ zU [] Z P) := by sorry
/- yX12_kPaysGrowers -/
def zl_413_1 : Nat → qz_Z → Int → qz_Z × Int
  | 0, Z, x1 => (Z, x1)
  | m + 1, Z, x1 => (if (Z 2 0 0 101) ≤ x1 then (Z, x1) else (if (Z 2 0 0 (3820 + 5 * x1)) ≤ 0 then zl_413_1 m Z (x1 + 1) else (zlet (zf_403 Z 0 2 (Z 2 0 0 (3820 + 5 * x1)) (-1)) (fun Z5 => (zlet (zu Z5 2 0 0 (3820 + 5 * x1) 0) (fun Z6 => (zlet (zu Z6 2 0 0 (3824 + 5 * x1) (w3 ((Z6 2 0 0 (3824 + 5 * x1)) + (Z 2 0 0 (3820 + 5 * x1))))) (fun Z9 => zl_413_1 m Z9 (x1 + 1)))))))))
theorem sl_413_1 {s : zSM} {xM9 : Nat} {Zs Z : qz_Z} {ν : qz_N} (hZ : zM (zb s xM9) Z) (hM : s.2 + 7 ≤ 1000000000) (hK : zC [2] Zs Z) {x1 : Int} (gx1 : 0 ≤ x1 ∧ x1 ≤ 6) (hU : zU [] Zs Z) (hx9 : xM9 + 1 * ((6 - x1).toNat) + 1 ≤ 7) {k : wz_K} {R : wz_R} {L : qz_L} (hL : qz_fg [true, true, false] L = [some (.inr (.inr (some (1, 0, 0)))), some (.inl (i3 x1)), none]) {T : qz_Z × Int} (hP : zE T (zl_413_1 ((6 - x1).toNat + 1) Z x1)) (hk : ∀ (L9 : qz_L) (Z9 : qz_Z) (yx1 : Int), qz_fg [false, false, false] L9 = [none, none, none] → zM (zb s 7) Z9 → zC [2] Zs Z9 → zU [] Zs Z9 → (0 ≤ yx1 ∧ yx1 ≤ 6) → zE T ((Z9, yx1)) → k 0 (L9, [], zm Z9 ν)) : wz_loop qb_413_1 65536 k R (L, [], zm Z ν) := by
  refine wz_lp sb_413_1 (fun m x => ∃ xM9 : Nat, ∃ Z : qz_Z, ∃ x1 : Int, qz_fg [true, true, false] x.1 = [some (.inr (.inr (some (1, 0, 0)))), some (.inl (i3 x1)), none] ∧ x.2 = ([], zm Z ν) ∧ xM9 + 1 * m + 1 ≤ 7 ∧ zM (zb s xM9) Z ∧ zC [2] Zs Z ∧ zU [] Zs Z ∧ m = (6 - x1).toNat ∧ (0 ≤ x1 ∧ x1 ≤ 6) ∧ zE T (zl_413_1 (m + 1) Z x1)) ?_ 65536 ((6 - x1).toNat) _ (by omega) ⟨xM9, Z, x1, hL, rfl, hx9, hZ, hK, hU, rfl, gx1, hP⟩
  clear hP gx1 hx9 hZ hK hU hL
  clear x1
  clear Z
  clear xM9
  rintro m ⟨L, st, μ⟩ ⟨xM9, Z, x1, hL, hx, hx9, hZ, hK, hU, hm, gx1, hP⟩
  cases hx
  have hM9 : (zb s xM9).2 + 1 ≤ 1000000000 := by
    show s.2 + xM9 + 1 ≤ 1000000000
    omega
  refine fb_413_1 (i3 x1) _ _ _ _ hL ?_
  have r1 := zM_k hZ 2 0 0 101 (lo := 0) (hi := 6) (by decide) rfl
  refine wz_br (i3Le (zm_rd (Z := Z) (ν := ν) (k := 2) (show ((0 : Nat) : Int) = 0 from rfl) (show ((0 : Nat) : Int) = 0 from rfl) (show ((101 : Nat) : Int) = 101 from rfl)) (rfl : i3 x1 = i3 x1) (by omega) (by omega) (by omega) (by omega)) (fun h2 => ?_) (fun h2 => ?_)
  · replace hP := zE_p hP h2
    exact hk _ _ _ (zconso rfl (zconso rfl (zconso rfl rfl))) (zmx0 hZ (by omega)) hK hU (by omega)  hP
  · replace hP := zE_n hP h2
    refine wz_i0 (i3O (n := 4400) (i3A (i3A (show (3820 : Int32) = i3 3820 from rfl) (i3M (show (5 : Int32) = i3 5 from rfl) (rfl : i3 x1 = i3 x1))) (show (0 : Int32) = i3 0 from rfl)) (by omega) (by omega) (by omega)) ?_
    have r3 := zM_f hZ 2 0 0 (3820 + 5 * x1)
    refine wz_br (i3Le (zm_rd (Z := Z) (ν := ν) (k := 2) (show ((0 : Nat) : Int) = 0 from rfl) (show ((0 : Nat) : Int) = 0 from rfl) (i3I (y := (3820 + 5 * x1)) (i3A (i3A (show (3820 : Int32) = i3 3820 from rfl) (i3M (show (5 : Int32) = i3 5 from rfl) (rfl : i3 x1 = i3 x1))) (show (0 : Int32) = i3 0 from rfl)) (by omega) (by omega) (by omega))) (show (0 : Int32) = i3 0 from rfl) (by omega) (by omega) (by omega) (by omega)) (fun h4 => ?_) (fun h4 => ?_)
    · replace hP := zE_p hP h4
      obtain ⟨m2, rfl⟩ : ∃ m2, m = m2 + 1 := ⟨m - 1, by omega⟩
      exact wz_k1 ⟨m2, by omega, xM9, Z, (x1 + 1), (zconso rfl (zconso (zvo (i3A (rfl : i3 x1 = i3 x1) (show (1 : Int32) = i3 1 from rfl))) (zconso rfl rfl))), rfl, by omega, hZ, hK, hU, by omega, by omega,  hP⟩
    · replace hP := zE_n hP h4
      obtain ⟨Z5, hZ5, c9, hZ5I, kZ5, jZ5⟩ := sp_403 (ν := ν) hZ (a1 := 0) (by omega) (a2 := 2) (by omega) (a3 := (Z 2 0 0 (3820 + 5 * x1))) (by omega) (a4 := (-1)) (by omega) (zbh (c := 0) (k := 1) hM9 (Nat.le_of_ble_eq_true rfl))
      have hZ5U : zU [] Zs Z5 := zU_t hU jZ5 zU_b0
      have hZ5K : zC [2] Zs Z5 := zC_t hK kZ5 (by decide)
      replace hP := zl_e hP hZ5
      refine wz_cV_of (zas (zcons rfl (zcons (zvi (show (0 : Int32) = i3 0 from rfl)) (zcons (zvi (show (2 : Int32) = i3 2 from rfl)) (zcons (zvi (zm_rd (Z := Z) (ν := ν) (k := 2) (show ((0 : Nat) : Int) = 0 from rfl) (show ((0 : Nat) : Int) = 0 from rfl) (i3I (y := (3820 + 5 * x1)) (i3A (i3A (show (3820 : Int32) = i3 3820 from rfl) (i3M (show (5 : Int32) = i3 5 from rfl) (rfl : i3 x1 = i3 x1))) (show (0 : Int32) = i3 0 from rfl)) (by omega) (by omega) (by omega)))) (zcons (zvi (show (-1 : Int32) = i3 (-1) from rfl)) rfl))))) c9) ?_
      clear c9
      refine wz_i0 (i3O (n := 4400) (i3A (i3A (show (3820 : Int32) = i3 3820 from rfl) (i3M (show (5 : Int32) = i3 5 from rfl) (rfl : i3 x1 = i3 x1))) (show (0 : Int32) = i3 0 from rfl)) (by omega) (by omega) (by omega)) ?_
      obtain ⟨Z6, hZ6⟩ := zx (zu Z5 2 0 0 (3820 + 5 * x1) 0)
      replace hP := zl_e hP hZ6
      have hZ6I := zM_02 hZ5I hZ6 (by simp only [zsp]; omega)
      have hZ6U : zU [] Zs Z6 := zU_u hZ5U hZ6 (Or.inl rfl)
      have hZ6K : zC [2] Zs Z6 := zC_u hZ5K hZ6 (zcl_2w (by omega) rfl)
      intro μ9 e9
      replace e9 := e9.trans (zm_wI (Z := Z5) (ν := ν) hZ6 (show ((0 : Nat) : Int) = 0 from rfl) (show ((0 : Nat) : Int) = 0 from rfl) (i3I (y := (3820 + 5 * x1)) (i3A (i3A (show (3820 : Int32) = i3 3820 from rfl) (i3M (show (5 : Int32) = i3 5 from rfl) (rfl : i3 x1 = i3 x1))) (show (0 : Int32) = i3 0 from rfl)) (by omega) (by omega) (by omega)) (show (0 : Int32) = i3 0 from rfl))
      subst e9
      refine wz_i0 (i3O (n := 4400) (i3A (i3A (show (3820 : Int32) = i3 3820 from rfl) (i3M (show (5 : Int32) = i3 5 from rfl) (rfl : i3 x1 = i3 x1))) (show (4 : Int32) = i3 4 from rfl)) (by omega) (by omega) (by omega)) ?_
      refine wz_i0 (i3O (n := 4400) (i3A (i3A (show (3820 : Int32) = i3 3820 from rfl) (i3M (show (5 : Int32) = i3 5 from rfl) (rfl : i3 x1 = i3 x1))) (show (4 : Int32) = i3 4 from rfl)) (by omega) (by omega) (by omega)) ?_
      have r7 := zM_f hZ6I 2 0 0 (3824 + 5 * x1)
      have r8 := w3_r ((Z6 2 0 0 (3824 + 5 * x1)) + (Z 2 0 0 (3820 + 5 * x1)))
      obtain ⟨Z9, hZ9⟩ := zx (zu Z6 2 0 0 (3824 + 5 * x1) (w3 ((Z6 2 0 0 (3824 + 5 * x1)) + (Z 2 0 0 (3820 + 5 * x1)))))
      replace hP := zl_e hP hZ9
      have hZ9I := zM_u2 hZ6I hZ9 (lo := -2147483648) (hi := 2147483647) (zs_3820_4 (x := x1) (by omega) (by omega) (by omega)) (by omega) ⟨by decide, by decide⟩ (by simp only [zsp]; omega)
      have hZ9U : zU [] Zs Z9 := zU_u hZ6U hZ9 (Or.inl rfl)
      have hZ9K : zC [2] Zs Z9 := zC_u hZ6K hZ9 (zcl_2w (by omega) rfl)
      intro μ9 e9
      replace e9 := e9.trans (zm_wI (Z := Z6) (ν := ν) hZ9 (show ((0 : Nat) : Int) = 0 from rfl) (show ((0 : Nat) : Int) = 0 from rfl) (i3I (y := (3824 + 5 * x1)) (i3A (i3A (show (3820 : Int32) = i3 3820 from rfl) (i3M (show (5 : Int32) = i3 5 from rfl) (rfl : i3 x1 = i3 x1))) (show (4 : Int32) = i3 4 from rfl)) (by omega) (by omega) (by omega)) (i3W (i3A (zm_rd (Z := Z6) (ν := ν) (k := 2) (show ((0 : Nat) : Int) = 0 from rfl) (show ((0 : Nat) : Int) = 0 from rfl) (i3I (y := (3824 + 5 * x1)) (i3A (i3A (show (3820 : Int32) = i3 3820 from rfl) (i3M (show (5 : Int32) = i3 5 from rfl) (rfl : i3 x1 = i3 x1))) (show (4 : Int32) = i3 4 from rfl)) (by omega) (by omega) (by omega))) (zm_rd (Z := Z) (ν := ν) (k := 2) (show ((0 : Nat) : Int) = 0 from rfl) (show ((0 : Nat) : Int) = 0 from rfl) (i3I (y := (3820 + 5 * x1)) (i3A (i3A (show (3820 : Int32) = i3 3820 from rfl) (i3M (show (5 : Int32) = i3 5 from rfl) (rfl : i3 x1 = i3 x1))) (show (0 : Int32) = i3 0 from rfl)) (by omega) (by omega) (by omega))))))
      subst e9
      obtain ⟨m2, rfl⟩ : ∃ m2, m = m2 + 1 := ⟨m - 1, by omega⟩
      exact wz_k1 ⟨m2, by omega, xM9 + 1, Z9, (x1 + 1), (zconso rfl (zconso (zvo (i3A (rfl : i3 x1 = i3 x1) (show (1 : Int32) = i3 1 from rfl))) (zconso rfl rfl))), rfl, by omega, (zmt hZ9I rfl), hZ9K, hZ9U, by omega, by omega,  hP⟩
/- yX12_kPaysGrowers -/
def zf_413 (Z : qz_Z) : qz_Z := (zlet2 (zl_413_1 7 Z 0) (fun Z2 y1 => Z2))
theorem sp_413 {s : zSM} {Z : qz_Z} {ν : qz_N} (hZ : zM s Z) (hM : s.2 + 7 ≤ 1000000000) : ∃ P : qz_Z, P = zf_413 Z ∧ (qf_413 [.inr (.inr (some (1, 0, 0)))] (zm Z ν) = some (zm P ν, .inl none) ∧ zM (zb s 7) P ∧ zC [2] Z P ∧ zU [] Z P) := by
  obtain ⟨P, hP⟩ := zx (zf_413 Z)
  refine zc_V (Q := fun P => zM (zb s 7) P ∧ zC [2] Z P ∧ zU [] Z P) hP (fw_413  _ _ ?_)
  replace hP : zE P (zf_413 Z) := hP
  unfold zf_413 at hP
  refine sl_413_1 (ν := ν) (zm0 hZ) (zbh (c := 0) (k := 7) hM (Nat.le_of_ble_eq_true rfl)) (xM9 := 0) zC_r (x1 := 0) (by omega) zU_r (Nat.le_of_ble_eq_true rfl)  (zconso rfl (zconso (zvo (show (0 : Int32) = i3 0 from rfl)) (zconso rfl rfl))) rfl ?_
  intro L3 Z2 y1 hL3 hZ2I kZ2 jZ2 gy1 q9
  replace hP := zl_e2 hP (Eq.symm q9)
  clear q9
  have hZ2U : zU [] Z Z2 := zU_t zU_r jZ2 zU_b0
  have hZ2K : zC [2] Z Z2 := zC_t zC_r kZ2 (by decide)
  refine fc_413_2  _ _ _ _ hL3 ?_
  exact zlV hP ⟨hZ2I, hZ2K, hZ2U⟩
/- yX12_rClosed -/
def zl_463_1 : Nat → qz_Z → Int → qz_Z × Int
  | 0, Z, x1 => (Z, x1)
  | m + 1, Z, x1 => (if (Z 2 0 0 1200) ≤ x1 then (Z, x1) else (zlet (zu Z 2 0 0 (1218 + 12 * x1) 0) (fun Z3 => zl_463_1 m Z3 (x1 + 1))))
theorem sl_463_1 {s : zSM} {Zs Z : qz_Z} {ν : qz_N} (hZ : zM s Z) (hM : s.2 + 0 ≤ 1000000000) (hK : zC [2] Zs Z) {x1 : Int} (gx1 : 0 ≤ x1 ∧ x1 ≤ 6) (hU : zU [] Zs Z) {k : wz_K} {R : wz_R} {L : qz_L} (hL : qz_fg [true, true] L = [some (.inr (.inr (some (1, 0, 0)))), some (.inl (i3 x1))]) {T : qz_Z × Int} (hP : zE T (zl_463_1 ((6 - x1).toNat + 1) Z x1)) (hk : ∀ (L9 : qz_L) (Z9 : qz_Z) (yx1 : Int), qz_fg [false, false] L9 = [none, none] → zM s Z9 → zC [2] Zs Z9 → zU [] Zs Z9 → (0 ≤ yx1 ∧ yx1 ≤ 6) → zE T ((Z9, yx1)) → k 0 (L9, [], zm Z9 ν)) : wz_loop qb_463_1 65536 k R (L, [], zm Z ν) := by
  refine wz_lp sb_463_1 (fun m x => ∃ Z : qz_Z, ∃ x1 : Int, qz_fg [true, true] x.1 = [some (.inr (.inr (some (1, 0, 0)))), some (.inl (i3 x1))] ∧ x.2 = ([], zm Z ν) ∧ zM s Z ∧ zC [2] Zs Z ∧ zU [] Zs Z ∧ m = (6 - x1).toNat ∧ (0 ≤ x1 ∧ x1 ≤ 6) ∧ zE T (zl_463_1 (m + 1) Z x1)) ?_ 65536 ((6 - x1).toNat) _ (by omega) ⟨Z, x1, hL, rfl, hZ, hK, hU, rfl, gx1, hP⟩
  clear hP gx1 hZ hK hU hL
  clear x1
  clear Z
  rintro m ⟨L, st, μ⟩ ⟨Z, x1, hL, hx, hZ, hK, hU, hm, gx1, hP⟩
  cases hx
  refine fb_463_1 (i3 x1) _ _ _ _ hL ?_
  have r1 := zM_k hZ 2 0 0 1200 (lo := 0) (hi := 6) (by decide) rfl
  refine wz_br (i3Le (zm_rd (Z := Z) (ν := ν) (k := 2) (show ((0 : Nat) : Int) = 0 from rfl) (show ((0 : Nat) : Int) = 0 from rfl) (show ((1200 : Nat) : Int) = 1200 from rfl)) (rfl : i3 x1 = i3 x1) (by omega) (by omega) (by omega) (by omega)) (fun h2 => ?_) (fun h2 => ?_)
  · replace hP := zE_p hP h2
    exact hk _ _ _ (zconso rfl (zconso rfl rfl)) hZ hK hU (by omega)  hP
  · replace hP := zE_n hP h2
    refine wz_i0 (i3O (n := 4400) (i3A (i3A (show (1210 : Int32) = i3 1210 from rfl) (i3M (show (12 : Int32) = i3 12 from rfl) (rfl : i3 x1 = i3 x1))) (show (8 : Int32) = i3 8 from rfl)) (by omega) (by omega) (by omega)) ?_
    obtain ⟨Z3, hZ3⟩ := zx (zu Z 2 0 0 (1218 + 12 * x1) 0)
    replace hP := zl_e hP hZ3
    have hZ3I := zM_02 hZ hZ3 (by simp only [zsp]; omega)
    have hZ3U : zU [] Zs Z3 := zU_u hU hZ3 (Or.inl rfl)
    have hZ3K : zC [2] Zs Z3 := zC_u hK hZ3 (zcl_2w (by omega) rfl)
    intro μ9 e9
    replace e9 := e9.trans (zm_wI (Z := Z) (ν := ν) hZ3 (show ((0 : Nat) : Int) = 0 from rfl) (show ((0 : Nat) : Int) = 0 from rfl) (i3I (y := (1218 + 12 * x1)) (i3A (i3A (show (1210 : Int32) = i3 1210 from rfl) (i3M (show (12 : Int32) = i3 12 from rfl) (rfl : i3 x1 = i3 x1))) (show (8 : Int32) = i3 8 from rfl)) (by omega) (by omega) (by omega)) (show (0 : Int32) = i3 0 from rfl))
    subst e9
    obtain ⟨m2, rfl⟩ : ∃ m2, m = m2 + 1 := ⟨m - 1, by omega⟩
    exact wz_k1 ⟨m2, by omega, Z3, (x1 + 1), (zconso rfl (zconso (zvo (i3A (rfl : i3 x1 = i3 x1) (show (1 : Int32) = i3 1 from rfl))) rfl)), rfl, hZ3I, hZ3K, hZ3U, by omega, by omega,  hP⟩
/- yX12_rClosed -/
def zf_463 (Z : qz_Z) : qz_Z := (zlet2 (zl_463_1 7 Z 0) (fun Z2 y1 => Z2))
theorem sp_463 {s : zSM} {Z : qz_Z} {ν : qz_N} (hZ : zM s Z) (hM : s.2 + 0 ≤ 1000000000) : ∃ P : qz_Z, P = zf_463 Z ∧ (qf_463 [.inr (.inr (some (1, 0, 0)))] (zm Z ν) = some (zm P ν, .inl none) ∧ zM s P ∧ zC [2] Z P ∧ zU [] Z P) := by
  obtain ⟨P, hP⟩ := zx (zf_463 Z)
  refine zc_V (Q := fun P => zM s P ∧ zC [2] Z P ∧ zU [] Z P) hP (fw_463  _ _ ?_)
  replace hP : zE P (zf_463 Z) := hP
  unfold zf_463 at hP
  refine sl_463_1 (ν := ν) hZ (zbh (c := 0) (k := 0) hM (Nat.le_of_ble_eq_true rfl)) zC_r (x1 := 0) (by omega) zU_r  (zconso rfl (zconso (zvo (show (0 : Int32) = i3 0 from rfl)) rfl)) rfl ?_
  intro L3 Z2 y1 hL3 hZ2I kZ2 jZ2 gy1 q9
  replace hP := zl_e2 hP (Eq.symm q9)
  clear q9
  have hZ2U : zU [] Z Z2 := zU_t zU_r jZ2 zU_b0
  have hZ2K : zC [2] Z Z2 := zC_t zC_r kZ2 (by decide)
  refine fc_463_2  _ _ _ _ hL3 ?_
  exact zlV hP ⟨hZ2I, hZ2K, hZ2U⟩
/- yX12_rWorked -/
def zl_492_1 : Nat → qz_Z → Int → Int → Int × Int
  | 0, Z, x1, x2 => (x1, x2)
  | m + 1, Z, x1, x2 => (if (Z 2 0 0 1200) ≤ x2 then (x1, x2) else zl_492_1 m Z (w3 (x1 + (Z 2 0 0 (1218 + 12 * x2)))) (x2 + 1))
theorem sl_492_1 {s : zSM} {Z : qz_Z} {ν : qz_N} (hZ : zM s Z) (hM : s.2 + 0 ≤ 1000000000) {x1 : Int} (gx1 : -2147483648 ≤ x1 ∧ x1 ≤ 2147483647) {x2 : Int} (gx2 : 0 ≤ x2 ∧ x2 ≤ 6) {k : wz_K} {R : wz_R} {L : qz_L} (hL : qz_fg [true, true, true] L = [some (.inr (.inr (some (1, 0, 0)))), some (.inl (i3 x1)), some (.inl (i3 x2))]) {T : Int × Int} (hP : zE T (zl_492_1 ((6 - x2).toNat + 1) Z x1 x2)) (hk : ∀ (L9 : qz_L) (yx1 yx2 : Int), qz_fg [false, true, false] L9 = [none, some (.inl (i3 yx1)), none] → (-2147483648 ≤ yx1 ∧ yx1 ≤ 2147483647) → (0 ≤ yx2 ∧ yx2 ≤ 6) → zE T ((yx1, yx2)) → k 0 (L9, [], zm Z ν)) : wz_loop qb_492_1 65536 k R (L, [], zm Z ν) := by
  refine wz_lp sb_492_1 (fun m x => ∃ x1 : Int, ∃ x2 : Int, qz_fg [true, true, true] x.1 = [some (.inr (.inr (some (1, 0, 0)))), some (.inl (i3 x1)), some (.inl (i3 x2))] ∧ x.2 = ([], zm Z ν) ∧ m = (6 - x2).toNat ∧ (-2147483648 ≤ x1 ∧ x1 ≤ 2147483647) ∧ (0 ≤ x2 ∧ x2 ≤ 6) ∧ zE T (zl_492_1 (m + 1) Z x1 x2)) ?_ 65536 ((6 - x2).toNat) _ (by omega) ⟨x1, x2, hL, rfl, rfl, gx1, gx2, hP⟩
  clear hP gx1 gx2 hL
  clear x1 x2
  rintro m ⟨L, st, μ⟩ ⟨x1, x2, hL, hx, hm, gx1, gx2, hP⟩
  cases hx
  refine fb_492_1 (i3 x1) (i3 x2) _ _ _ _ hL ?_
  have r1 := zM_k hZ 2 0 0 1200 (lo := 0) (hi := 6) (by decide) rfl
  refine wz_br (i3Le (zm_rd (Z := Z) (ν := ν) (k := 2) (show ((0 : Nat) : Int) = 0 from rfl) (show ((0 : Nat) : Int) = 0 from rfl) (show ((1200 : Nat) : Int) = 1200 from rfl)) (rfl : i3 x2 = i3 x2) (by omega) (by omega) (by omega) (by omega)) (fun h2 => ?_) (fun h2 => ?_)
  · replace hP := zE_p hP h2
    exact hk _ _ _ (zconso rfl (zconso (zvo (rfl : i3 x1 = i3 x1)) (zconso rfl rfl)))  (by omega) (by omega)  hP
  · replace hP := zE_n hP h2
    refine wz_i0 (i3O (n := 4400) (i3A (i3A (show (1210 : Int32) = i3 1210 from rfl) (i3M (show (12 : Int32) = i3 12 from rfl) (rfl : i3 x2 = i3 x2))) (show (8 : Int32) = i3 8 from rfl)) (by omega) (by omega) (by omega)) ?_
    have r3 := zM_f hZ 2 0 0 (1218 + 12 * x2)
    have r4 := w3_r (x1 + (Z 2 0 0 (1218 + 12 * x2)))
    obtain ⟨m2, rfl⟩ : ∃ m2, m = m2 + 1 := ⟨m - 1, by omega⟩
    exact wz_k1 ⟨m2, by omega, (w3 (x1 + (Z 2 0 0 (1218 + 12 * x2)))), (x2 + 1), (zconso rfl (zconso (zvo (i3W (i3A (rfl : i3 x1 = i3 x1) (zm_rd (Z := Z) (ν := ν) (k := 2) (show ((0 : Nat) : Int) = 0 from rfl) (show ((0 : Nat) : Int) = 0 from rfl) (i3I (y := (1218 + 12 * x2)) (i3A (i3A (show (1210 : Int32) = i3 1210 from rfl) (i3M (show (12 : Int32) = i3 12 from rfl) (rfl : i3 x2 = i3 x2))) (show (8 : Int32) = i3 8 from rfl)) (by omega) (by omega) (by omega)))))) (zconso (zvo (i3A (rfl : i3 x2 = i3 x2) (show (1 : Int32) = i3 1 from rfl))) rfl))), rfl,  by omega, by omega, by omega,  hP⟩
/- yX12_rWorked -/
def zf_492 (Z : qz_Z) : Int := (zlet2 (zl_492_1 7 Z 0 0) (fun y1 y2 => y1))
theorem sp_492 {s : zSM} {Z : qz_Z} {ν : qz_N} (hZ : zM s Z) (hM : s.2 + 0 ≤ 1000000000) : ∃ P : Int, P = zf_492 Z ∧ (qf_492 [.inr (.inr (some (1, 0, 0)))] (zm Z ν) = some (zm Z ν, .inl (some (.inl (i3 P)))) ∧ -2147483648 ≤ P ∧ P ≤ 2147483647) := by
  obtain ⟨P, hP⟩ := zx (zf_492 Z)
  refine zc_R (Q := fun P => -2147483648 ≤ P ∧ P ≤ 2147483647) hP (fw_492  _ _ ?_)
  replace hP : zE P (zf_492 Z) := hP
  unfold zf_492 at hP
  refine sl_492_1 (ν := ν) hZ (zbh (c := 0) (k := 0) hM (Nat.le_of_ble_eq_true rfl)) (x1 := 0) (by omega) (x2 := 0) (by omega)  (zconso rfl (zconso (zvo (show (0 : Int32) = i3 0 from rfl)) (zconso (zvo (show (0 : Int32) = i3 0 from rfl)) rfl))) rfl ?_
  intro L3 y1 y2 hL3 gy1 gy2 q9
  replace hP := zl_e2 hP (Eq.symm q9)
  clear q9
  refine fc_492_2 (i3 y1) _ _ _ _ hL3 ?_
  exact zlR hP (rfl : i3 y1 = i3 y1) ⟨by omega, by omega⟩
/- yX12_kClose -/
def zl_402_1 (x1 : Int) : Nat → qz_Z → Int → qz_Z × Int
  | 0, Z, x2 => (Z, x2)
  | m + 1, Z, x2 => (if (Z 2 0 0 3815) ≤ x2 then (Z, x2) else (if (Z 2 0 0 (3852 + 8 * x2)) ≠ 0 then zl_402_1 x1 m Z (x2 + 1) else (zlet (zf_408 Z x2) (fun Z5 => zl_402_1 x1 m Z5 (x2 + 1)))))
theorem sl_402_1 {s : zSM} {xM9 : Nat} {Zs Z : qz_Z} {ν : qz_N} (hZ : zM (zb s xM9) Z) (hM : s.2 + 39 ≤ 1000000000) (hK : zC [2] Zs Z) {x1 : Int} (gx1 : 0 ≤ x1 ∧ x1 ≤ 27) {x2 : Int} (gx2 : 0 ≤ x2 ∧ x2 ≤ 12) (hU : zU [] Zs Z) (hx9 : xM9 + 3 * ((12 - x2).toNat) + 3 ≤ 39) {k : wz_K} {R : wz_R} {L : qz_L} (hL : qz_fg [true, true, true] L = [some (.inr (.inr (some (1, 0, 0)))), some (.inl (i3 x1)), some (.inl (i3 x2))]) {T : qz_Z × Int} (hP : zE T (zl_402_1 x1 ((12 - x2).toNat + 1) Z x2)) (hk : ∀ (L9 : qz_L) (Z9 : qz_Z) (yx2 : Int), qz_fg [true, true, false] L9 = [some (.inr (.inr (some (1, 0, 0)))), some (.inl (i3 x1)), none] → zM (zb s 39) Z9 → zC [2] Zs Z9 → zU [] Zs Z9 → (0 ≤ yx2 ∧ yx2 ≤ 12) → zE T ((Z9, yx2)) → k 0 (L9, [], zm Z9 ν)) : wz_loop qb_402_1 65536 k R (L, [], zm Z ν) := by
  refine wz_lp sb_402_1 (fun m x => ∃ xM9 : Nat, ∃ Z : qz_Z, ∃ x2 : Int, qz_fg [true, true, true] x.1 = [some (.inr (.inr (some (1, 0, 0)))), some (.inl (i3 x1)), some (.inl (i3 x2))] ∧ x.2 = ([], zm Z ν) ∧ xM9 + 3 * m + 3 ≤ 39 ∧ zM (zb s xM9) Z ∧ zC [2] Zs Z ∧ zU [] Zs Z ∧ m = (12 - x2).toNat ∧ (0 ≤ x2 ∧ x2 ≤ 12) ∧ zE T (zl_402_1 x1 (m + 1) Z x2)) ?_ 65536 ((12 - x2).toNat) _ (by omega) ⟨xM9, Z, x2, hL, rfl, hx9, hZ, hK, hU, rfl, gx2, hP⟩
  clear hP gx2 hx9 hZ hK hU hL
  clear x2
  clear Z
  clear xM9
  rintro m ⟨L, st, μ⟩ ⟨xM9, Z, x2, hL, hx, hx9, hZ, hK, hU, hm, gx2, hP⟩
  cases hx
  have hM9 : (zb s xM9).2 + 3 ≤ 1000000000 := by
    show s.2 + xM9 + 3 ≤ 1000000000
    omega
  refine fb_402_1 (i3 x1) (i3 x2) _ _ _ _ hL ?_
  have r1 := zM_k hZ 2 0 0 3815 (lo := 0) (hi := 12) (by decide) rfl
  refine wz_br (i3Le (zm_rd (Z := Z) (ν := ν) (k := 2) (show ((0 : Nat) : Int) = 0 from rfl) (show ((0 : Nat) : Int) = 0 from rfl) (show ((3815 : Nat) : Int) = 3815 from rfl)) (rfl : i3 x2 = i3 x2) (by omega) (by omega) (by omega) (by omega)) (fun h2 => ?_) (fun h2 => ?_)
  · replace hP := zE_p hP h2
    exact hk _ _ _ (zconso rfl (zconso (zvo (rfl : i3 x1 = i3 x1)) (zconso rfl rfl))) (zmx0 hZ (by omega)) hK hU (by omega)  hP
  · replace hP := zE_n hP h2
    refine wz_i0 (i3O (n := 4400) (i3A (i3A (show (3850 : Int32) = i3 3850 from rfl) (i3M (show (8 : Int32) = i3 8 from rfl) (rfl : i3 x2 = i3 x2))) (show (2 : Int32) = i3 2 from rfl)) (by omega) (by omega) (by omega)) ?_
    have r3 := zM_k hZ 2 0 0 (3852 + 8 * x2) (lo := 0) (hi := 2) (by decide) (zs_3850_2 (x := x2) (by omega) (by omega) (by omega))
    refine wz_br (i3NE (zm_rd (Z := Z) (ν := ν) (k := 2) (show ((0 : Nat) : Int) = 0 from rfl) (show ((0 : Nat) : Int) = 0 from rfl) (i3I (y := (3852 + 8 * x2)) (i3A (i3A (show (3850 : Int32) = i3 3850 from rfl) (i3M (show (8 : Int32) = i3 8 from rfl) (rfl : i3 x2 = i3 x2))) (show (2 : Int32) = i3 2 from rfl)) (by omega) (by omega) (by omega))) (show (0 : Int32) = i3 0 from rfl) (by omega) (by omega) (by omega) (by omega)) (fun h4 => ?_) (fun h4 => ?_)
    · replace hP := zE_p hP h4
      obtain ⟨m2, rfl⟩ : ∃ m2, m = m2 + 1 := ⟨m - 1, by omega⟩
      exact wz_k1 ⟨m2, by omega, xM9, Z, (x2 + 1), (zconso rfl (zconso (zvo (rfl : i3 x1 = i3 x1)) (zconso (zvo (i3A (rfl : i3 x2 = i3 x2) (show (1 : Int32) = i3 1 from rfl))) rfl))), rfl, by omega, hZ, hK, hU, by omega, by omega,  hP⟩
    · replace hP := zE_n hP h4
      obtain ⟨Z5, hZ5, c9, hZ5I, kZ5, jZ5⟩ := sp_408 (ν := ν) hZ (a1 := x2) (by omega) (zbh (c := 0) (k := 3) hM9 (Nat.le_of_ble_eq_true rfl))
      have hZ5U : zU [] Zs Z5 := zU_t hU jZ5 zU_b0
      have hZ5K : zC [2] Zs Z5 := zC_t hK kZ5 (by decide)
      replace hP := zl_e hP hZ5
      refine wz_cV_of (zas (zcons rfl (zcons (zvi (rfl : i3 x2 = i3 x2)) rfl)) c9) ?_
      clear c9
      obtain ⟨m2, rfl⟩ : ∃ m2, m = m2 + 1 := ⟨m - 1, by omega⟩
      exact wz_k1 ⟨m2, by omega, xM9 + 3, Z5, (x2 + 1), (zconso rfl (zconso (zvo (rfl : i3 x1 = i3 x1)) (zconso (zvo (i3A (rfl : i3 x2 = i3 x2) (show (1 : Int32) = i3 1 from rfl))) rfl))), rfl, by omega, (zmt hZ5I rfl), hZ5K, hZ5U, by omega, by omega,  hP⟩
