/- yX2_shortestTrip -/
def zl_56_1 (x0b : Int) (x3 : Int) (x1 : Int) : Nat → qz_Z → Int → Int → qz_Z × Int × Int
  | 0, Z, x4, x5 => (Z, x4, x5)
  | m + 1, Z, x4, x5 => (if 5 ≤ x5 then (Z, x4, x5) else (zlet (zu Z 69 0 0 x5 (-1)) (fun Z3 => (if (z2 (fun x y => x &&& y) (z2 (fun x y => x >>> (y &&& 31)) x1 x5) 1) ≠ 1 then zl_56_1 x0b x3 x1 m Z3 x4 (x5 + 1) else (zlet (zu Z3 200 x3 0 x4 x5) (fun Z8 => zl_56_1 x0b x3 x1 m Z8 (x4 + 1) (x5 + 1)))))))
theorem sl_56_1 {s : zSM} {Zs Z : qz_Z} {ν : qz_N} (hZ : zH s Z) (hM : s.2 + 0 ≤ 1000000000) (hs : s.1 = none) {n9 : Nat} (hn : ν.2.2.2.1 = n9) (x0b : Nat) (x3 : Nat) (hSx3 : zSh ν x3 50 5) (gAx3 : zA (0) 4 x3 Z) {x1 : Int} (gx1 : 0 ≤ x1 ∧ x1 ≤ 31) {x4 : Int} (gx4 : 0 ≤ x4 ∧ x4 ≤ 5) {x5 : Int} (gx5 : 0 ≤ x5 ∧ x5 ≤ 5) (hK : zL [69] [x3] n9 Zs Z) (hU : zU [] Zs Z) (gr0 : x4 ≤ x5) {k : wz_K} {R : wz_R} {L : qz_L} (hL : qz_fg [true, true, true, true, true, true, false, false, false] L = [some (.inr (.inr (some (10, x0b, 0)))), some (.inl (i3 x1)), some (.inr (.inr (some (69, 0, 0)))), some (.inr (.inr (some (200, x3, 0)))), some (.inl (i3 x4)), some (.inl (i3 x5)), none, none, none]) {T : qz_Z × Int × Int} (hP : zE T (zl_56_1 x0b x3 x1 ((5 - x5).toNat + 1) Z x4 x5)) (hk : ∀ (L9 : qz_L) (Z9 : qz_Z) (yx4 yx5 : Int), qz_fg [true, false, true, true, true, false, false, false, false] L9 = [some (.inr (.inr (some (10, x0b, 0)))), none, some (.inr (.inr (some (69, 0, 0)))), some (.inr (.inr (some (200, x3, 0)))), some (.inl (i3 yx4)), none, none, none, none] → zH s Z9 → zL [69] [x3] n9 Zs Z9 → zU [] Zs Z9 → zA (0) 4 x3 Z9 → (0 ≤ yx4 ∧ yx4 ≤ 5) → (0 ≤ yx5 ∧ yx5 ≤ 5) → (yx4 ≤ yx5) → zE T ((Z9, yx4, yx5)) → k 0 (L9, [], zm Z9 ν)) : wz_loop qb_56_1 65536 k R (L, [], zm Z ν) := by
  refine wz_lp sb_56_1 (fun m x => ∃ Z : qz_Z, ∃ x4 : Int, ∃ x5 : Int, qz_fg [true, true, true, true, true, true, false, false, false] x.1 = [some (.inr (.inr (some (10, x0b, 0)))), some (.inl (i3 x1)), some (.inr (.inr (some (69, 0, 0)))), some (.inr (.inr (some (200, x3, 0)))), some (.inl (i3 x4)), some (.inl (i3 x5)), none, none, none] ∧ x.2 = ([], zm Z ν) ∧ zH s Z ∧ zL [69] [x3] n9 Zs Z ∧ zU [] Zs Z ∧ zA (0) 4 x3 Z ∧ m = (5 - x5).toNat ∧ (0 ≤ x4 ∧ x4 ≤ 5) ∧ (0 ≤ x5 ∧ x5 ≤ 5) ∧ (x4 ≤ x5) ∧ zE T (zl_56_1 x0b x3 x1 (m + 1) Z x4 x5)) ?_ 65536 ((5 - x5).toNat) _ (by omega) ⟨Z, x4, x5, hL, rfl, hZ, hK, hU, gAx3, rfl, gx4, gx5, gr0, hP⟩
  clear hP gr0 gx4 gx5 hZ hK hU gAx3 hL
  clear x4 x5
  clear Z
  rintro m ⟨L, st, μ⟩ ⟨Z, x4, x5, hL, hx, hZ, hK, hU, gAx3, hm, gx4, gx5, gr0, hP⟩
  cases hx
  refine fb_56_1 x0b (i3 x1) (69, 0, 0) x3 (i3 x4) (i3 x5) _ _ _ _ hL ?_
  have r1 := hSx3.1
  refine wz_br (i3Le (show (5 : Int32) = i3 5 from rfl) (rfl : i3 x5 = i3 x5) (by omega) (by omega) (by omega) (by omega)) (fun h2 => ?_) (fun h2 => ?_)
  · replace hP := zE_p hP h2
    exact hk _ _ _ _ (zconso rfl (zconso rfl (zconso rfl (zconso rfl (zconso (zvo (rfl : i3 x4 = i3 x4)) (zconso rfl (zconso rfl (zconso rfl (zconso rfl rfl))))))))) hZ hK hU gAx3 (by omega) (by omega) (by omega) hP
  · replace hP := zE_n hP h2
    refine wz_i1 rfl ?_
    refine wz_i0 (i3O (n := 24) (rfl : i3 x5 = i3 x5) (by omega) (by omega) (by omega)) ?_
    obtain ⟨Z3, hZ3⟩ := zx (zu Z 69 0 0 x5 (-1))
    replace hP := zl_e hP hZ3
    have hZ3I := zH_u hZ hZ3 (lo := -2147483648) (hi := 2147483647) (by decide) rfl (by omega) ⟨by decide, by decide⟩ (Or.inl (by decide)) rfl
    have hZ3U : zU [] Zs Z3 := zU_u hU hZ3 (Or.inl rfl)
    have hZ3K : zL [69] [x3] n9 Zs Z3 := zL_u hK hZ3 rfl
    intro μ9 e9
    replace e9 := e9.trans (zm_wI (Z := Z) (ν := ν) hZ3 (show ((0 : Nat) : Int) = 0 from rfl) (show ((0 : Nat) : Int) = 0 from rfl) (i3I (y := x5) (rfl : i3 x5 = i3 x5) (by omega) (by omega) (by omega)) (show (-1 : Int32) = i3 (-1) from rfl))
    subst e9
    have r4 := z2_r (fun x y => x >>> (y &&& 31)) x1 x5
    have r5 := z2_r (fun x y => x &&& y) (z2 (fun x y => x >>> (y &&& 31)) x1 x5) 1
    have r6 := z2_and (z2 (fun x y => x >>> (y &&& 31)) x1 x5) (y := 1) (by omega) (by omega)
    refine wz_br (i3NE (i3Z (fun x y => x &&& y) (i3Z (fun x y => x >>> (y &&& 31)) (rfl : i3 x1 = i3 x1) (rfl : i3 x5 = i3 x5)) (show (1 : Int32) = i3 1 from rfl)) (show (1 : Int32) = i3 1 from rfl) (by omega) (by omega) (by omega) (by omega)) (fun h7 => ?_) (fun h7 => ?_)
    · replace hP := zE_p hP h7
      obtain ⟨m2, rfl⟩ : ∃ m2, m = m2 + 1 := ⟨m - 1, by omega⟩
      exact wz_k1 ⟨m2, by omega, Z3, x4, (x5 + 1), (zconso rfl (zconso (zvo (rfl : i3 x1 = i3 x1)) (zconso rfl (zconso rfl (zconso (zvo (rfl : i3 x4 = i3 x4)) (zconso (zvo (i3A (rfl : i3 x5 = i3 x5) (show (1 : Int32) = i3 1 from rfl))) (zconso rfl (zconso rfl (zconso rfl rfl))))))))), rfl, hZ3I, hZ3K, hZ3U, (zA_o gAx3 hZ3 (fun q => absurd q.1 (by decide))), by omega, by omega, by omega, by omega,  hP⟩
    · replace hP := zE_n hP h7
      refine wz_i1 (by rw [zSh_t hSx3]; rfl) ?_
      refine wz_i0 (by rw [zSh_l hSx3]; exact i3O (n := 5) (rfl : i3 x4 = i3 x4) (by omega) (by omega) (by omega)) ?_
      obtain ⟨Z8, hZ8⟩ := zx (zu Z3 200 x3 0 x4 x5)
      replace hP := zl_e hP hZ8
      have hZ8I := zH_200 hZ3I hZ8 (by omega) hs
      have hZ8U : zU [] Zs Z8 := zU_u hZ3U hZ8 (Or.inl rfl)
      have hZ8K : zL [69] [x3] n9 Zs Z8 := zL_a hZ3K hZ8 (Or.inl (by simp))
      intro μ9 e9
      replace e9 := e9.trans (zm_wI (Z := Z3) (ν := ν) hZ8 (rfl : ((x3 : Nat) : Int) = x3) (show ((0 : Nat) : Int) = 0 from rfl) (i3I (y := x4) (rfl : i3 x4 = i3 x4) (by omega) (by omega) (by omega)) (rfl : i3 x5 = i3 x5))
      subst e9
      obtain ⟨m2, rfl⟩ : ∃ m2, m = m2 + 1 := ⟨m - 1, by omega⟩
      exact wz_k1 ⟨m2, by omega, Z8, (x4 + 1), (x5 + 1), (zconso rfl (zconso (zvo (rfl : i3 x1 = i3 x1)) (zconso rfl (zconso rfl (zconso (zvo (i3A (rfl : i3 x4 = i3 x4) (show (1 : Int32) = i3 1 from rfl))) (zconso (zvo (i3A (rfl : i3 x5 = i3 x5) (show (1 : Int32) = i3 1 from rfl))) (zconso rfl (zconso rfl (zconso rfl rfl))))))))), rfl, hZ8I, hZ8K, hZ8U, (zA_w (zA_o gAx3 hZ3 (fun q => absurd q.1 (by decide))) hZ8 (by omega)), by omega, by omega, by omega, by omega,  hP⟩
/- yX2_shortestTrip -/
def zl_56_2 (x0b : Int) (x3 : Int) (x4 : Int) : Nat → qz_Z → Int → Int → Int → qz_Z × Int × Int × Int
  | 0, Z, x5, x6, x7 => (Z, x5, x6, x7)
  | m + 1, Z, x5, x6, x7 => (if 120 ≤ x7 then (Z, x5, x6, x7) else (if x6 = 0 then (Z, x5, x6, x7) else (zlet (zf_47 Z x0b x3 x4) (fun v4 => (if x5 = (-1) then (zlet (zpy Z 200 x3 0 69 0 0 0 x4) (fun Z6 => (zlet2 (zf_1070 Z6 x3 x4) (fun Z7 v8 => zl_56_2 x0b x3 x4 m Z7 v4 v8 (x7 + 1))))) else (if x5 ≤ v4 then (zlet2 (zf_1070 Z x3 x4) (fun Z10 v11 => zl_56_2 x0b x3 x4 m Z10 x5 v11 (x7 + 1))) else (zlet (zpy Z 200 x3 0 69 0 0 0 x4) (fun Z12 => (zlet2 (zf_1070 Z12 x3 x4) (fun Z13 v14 => zl_56_2 x0b x3 x4 m Z13 v4 v14 (x7 + 1)))))))))))
theorem sl_56_2 {s : zSM} {Zs Z : qz_Z} {ν : qz_N} (hZ : zH s Z) (hM : s.2 + 0 ≤ 1000000000) (hs : s.1 = none) {n9 : Nat} (hn : ν.2.2.2.1 = n9) (x0b : Nat) (x3 : Nat) (hSx3 : zSh ν x3 50 5) (gAx3 : zA (0) 4 x3 Z) {x4 : Int} (gx4 : 0 ≤ x4 ∧ x4 ≤ 5) {x5 : Int} (gx5 : -1 ≤ x5 ∧ x5 ≤ 72) {x6 : Int} (gx6 : 0 ≤ x6 ∧ x6 ≤ 1) {x7 : Int} (gx7 : 0 ≤ x7 ∧ x7 ≤ 120) (hK : zL [69] [x3] n9 Zs Z) (hU : zU [] Zs Z) {k : wz_K} {R : wz_R} {L : qz_L} (hL : qz_fg [true, false, true, true, true, true, true, true, false] L = [some (.inr (.inr (some (10, x0b, 0)))), none, some (.inr (.inr (some (69, 0, 0)))), some (.inr (.inr (some (200, x3, 0)))), some (.inl (i3 x4)), some (.inl (i3 x5)), some (.inl (i3 x6)), some (.inl (i3 x7)), none]) {T : qz_Z × Int × Int × Int} (hP : zE T (zl_56_2 x0b x3 x4 ((120 - x7).toNat + 1) Z x5 x6 x7)) (hk : ∀ (L9 : qz_L) (Z9 : qz_Z) (yx5 yx6 yx7 : Int), qz_fg [false, false, false, false, false, true, false, false, false] L9 = [none, none, none, none, none, some (.inl (i3 yx5)), none, none, none] → zH s Z9 → zL [69] [x3] n9 Zs Z9 → zU [] Zs Z9 → zA (0) 4 x3 Z9 → (-1 ≤ yx5 ∧ yx5 ≤ 72) → (0 ≤ yx6 ∧ yx6 ≤ 1) → (0 ≤ yx7 ∧ yx7 ≤ 120) → zE T ((Z9, yx5, yx6, yx7)) → k 0 (L9, [], zm Z9 ν)) : wz_loop qb_56_2 65536 k R (L, [], zm Z ν) := by
  refine wz_lp sb_56_2 (fun m x => ∃ Z : qz_Z, ∃ x5 : Int, ∃ x6 : Int, ∃ x7 : Int, qz_fg [true, false, true, true, true, true, true, true, false] x.1 = [some (.inr (.inr (some (10, x0b, 0)))), none, some (.inr (.inr (some (69, 0, 0)))), some (.inr (.inr (some (200, x3, 0)))), some (.inl (i3 x4)), some (.inl (i3 x5)), some (.inl (i3 x6)), some (.inl (i3 x7)), none] ∧ x.2 = ([], zm Z ν) ∧ zH s Z ∧ zL [69] [x3] n9 Zs Z ∧ zU [] Zs Z ∧ zA (0) 4 x3 Z ∧ m = (120 - x7).toNat ∧ (-1 ≤ x5 ∧ x5 ≤ 72) ∧ (0 ≤ x6 ∧ x6 ≤ 1) ∧ (0 ≤ x7 ∧ x7 ≤ 120) ∧ zE T (zl_56_2 x0b x3 x4 (m + 1) Z x5 x6 x7)) ?_ 65536 ((120 - x7).toNat) _ (by omega) ⟨Z, x5, x6, x7, hL, rfl, hZ, hK, hU, gAx3, rfl, gx5, gx6, gx7, hP⟩
  clear hP gx5 gx6 gx7 hZ hK hU gAx3 hL
  clear x5 x6 x7
  clear Z
  rintro m ⟨L, st, μ⟩ ⟨Z, x5, x6, x7, hL, hx, hZ, hK, hU, gAx3, hm, gx5, gx6, gx7, hP⟩
  cases hx
  refine fb_56_2 x0b (69, 0, 0) x3 (i3 x4) (i3 x5) (i3 x6) (i3 x7) _ _ _ _ hL ?_
  have r1 := hSx3.1
  refine wz_br (i3Le (show (120 : Int32) = i3 120 from rfl) (rfl : i3 x7 = i3 x7) (by omega) (by omega) (by omega) (by omega)) (fun h2 => ?_) (fun h2 => ?_)
  · replace hP := zE_p hP h2
    exact hk _ _ _ _ _ (zconso rfl (zconso rfl (zconso rfl (zconso rfl (zconso rfl (zconso (zvo (rfl : i3 x5 = i3 x5)) (zconso rfl (zconso rfl (zconso rfl rfl))))))))) hZ hK hU gAx3 (by omega) (by omega) (by omega)  hP
  · replace hP := zE_n hP h2
    refine wz_br (i3E (rfl : i3 x6 = i3 x6) (show (0 : Int32) = i3 0 from rfl) (by omega) (by omega) (by omega) (by omega)) (fun h3 => ?_) (fun h3 => ?_)
    · replace hP := zE_p hP h3
      exact hk _ _ _ _ _ (zconso rfl (zconso rfl (zconso rfl (zconso rfl (zconso rfl (zconso (zvo (rfl : i3 x5 = i3 x5)) (zconso rfl (zconso rfl (zconso rfl rfl))))))))) hZ hK hU gAx3 (by omega) (by omega) (by omega)  hP
    · replace hP := zE_n hP h3
      obtain ⟨v4, hv4, c9, lv4, uv4⟩ := sp_47 (ν := ν) hZ x0b x3 hSx3 gAx3 (a2 := x4) (by omega) (zbh (c := 0) (k := 0) hM (Nat.le_of_ble_eq_true rfl))
      replace hP := zl_e hP hv4
      refine wz_cI_of (zas (zcons rfl (zcons rfl (zcons (zvi (rfl : i3 x4 = i3 x4)) rfl))) c9) ?_
      clear c9
      refine wz_br (i3E (rfl : i3 x5 = i3 x5) (show (-1 : Int32) = i3 (-1) from rfl) (by omega) (by omega) (by omega) (by omega)) (fun h5 => ?_) (fun h5 => ?_)
      · replace hP := zE_p hP h5
        refine wz_i1 (by rw [zSh_t hSx3]; rfl) ?_
        obtain ⟨Z6, hZ6⟩ := zx (zpy Z 200 x3 0 69 0 0 0 x4)
        replace hP := zl_e hP hZ6
        refine ⟨zpy_c (d := 0) (l1 := 5) (l2 := 24) (rfl : i3 x4 = i3 x4) (zSh_l hSx3) rfl (by omega) (by omega) (by omega), ?_⟩
        intro μ9 e9
        replace e9 := e9.trans (zm_py (ν := ν) (d := 0) hZ6 (rfl : ((x3 : Nat) : Int) = x3) (show ((0 : Nat) : Int) = 0 from rfl) (show ((0 : Nat) : Int) = 0 from rfl) (show ((0 : Nat) : Int) = 0 from rfl) (rfl : i3 x4 = i3 x4) (by omega) (by omega))
        subst e9
        have hZ6I := zH_pk69 hZ hZ6 hs
        have hZ6K : zL [69] [x3] n9 Zs Z6 := zL_pk hK hZ6 (by decide)
        have hZ6U : zU [] Zs Z6 := zU_p hU hZ6 (Or.inl rfl)
        obtain ⟨Z7, v8, hv8, c9, hZ7I, kZ7, jZ7, lv8, uv8, aZ7_a0b⟩ := sp_1070 (ν := ν) hZ6I hs hn x3 hSx3 (zA_p gAx3 hZ6 (fun q => absurd q.1 (by decide))) (a1 := x4) (by omega) (zbh (c := 0) (k := 0) hM (Nat.le_of_ble_eq_true rfl))
        have hZ7U : zU [] Zs Z7 := zU_t hZ6U jZ7 zU_b0
        have hZ7K : zL [69] [x3] n9 Zs Z7 := zL_t hZ6K kZ7 (by decide) (zL_b1 (Or.inl (by simp)) zL_b0) (by omega)
        replace hP := zl_e2 hP hv8
        refine wz_cI_of (zas (zcons rfl (zcons (zvi (rfl : i3 x4 = i3 x4)) rfl)) c9) ?_
        clear c9 hv8
        obtain ⟨m2, rfl⟩ : ∃ m2, m = m2 + 1 := ⟨m - 1, by omega⟩
        exact wz_k1 ⟨m2, by omega, Z7, v4, v8, (x7 + 1), (zconso rfl (zconso rfl (zconso rfl (zconso rfl (zconso (zvo (rfl : i3 x4 = i3 x4)) (zconso (zvo (rfl : i3 v4 = i3 v4)) (zconso (zvo (rfl : i3 v8 = i3 v8)) (zconso (zvo (i3A (rfl : i3 x7 = i3 x7) (show (1 : Int32) = i3 1 from rfl))) (zconso rfl rfl))))))))), rfl, hZ7I, hZ7K, hZ7U, aZ7_a0b, by omega, by omega, by omega, by omega,  hP⟩
      · replace hP := zE_n hP h5
        refine wz_br (i3Le (rfl : i3 x5 = i3 x5) (rfl : i3 v4 = i3 v4) (by omega) (by omega) (by omega) (by omega)) (fun h9 => ?_) (fun h9 => ?_)
        · replace hP := zE_p hP h9
          obtain ⟨Z10, v11, hv11, c9, hZ10I, kZ10, jZ10, lv11, uv11, aZ10_a0b⟩ := sp_1070 (ν := ν) hZ hs hn x3 hSx3 gAx3 (a1 := x4) (by omega) (zbh (c := 0) (k := 0) hM (Nat.le_of_ble_eq_true rfl))
          have hZ10U : zU [] Zs Z10 := zU_t hU jZ10 zU_b0
          have hZ10K : zL [69] [x3] n9 Zs Z10 := zL_t hK kZ10 (by decide) (zL_b1 (Or.inl (by simp)) zL_b0) (by omega)
          replace hP := zl_e2 hP hv11
          refine wz_cI_of (zas (zcons rfl (zcons (zvi (rfl : i3 x4 = i3 x4)) rfl)) c9) ?_
          clear c9 hv11
          obtain ⟨m2, rfl⟩ : ∃ m2, m = m2 + 1 := ⟨m - 1, by omega⟩
          exact wz_k1 ⟨m2, by omega, Z10, x5, v11, (x7 + 1), (zconso rfl (zconso rfl (zconso rfl (zconso rfl (zconso (zvo (rfl : i3 x4 = i3 x4)) (zconso (zvo (rfl : i3 x5 = i3 x5)) (zconso (zvo (rfl : i3 v11 = i3 v11)) (zconso (zvo (i3A (rfl : i3 x7 = i3 x7) (show (1 : Int32) = i3 1 from rfl))) (zconso rfl rfl))))))))), rfl, hZ10I, hZ10K, hZ10U, aZ10_a0b, by omega, by omega, by omega, by omega,  hP⟩
        · replace hP := zE_n hP h9
          refine wz_i1 (by rw [zSh_t hSx3]; rfl) ?_
          obtain ⟨Z12, hZ12⟩ := zx (zpy Z 200 x3 0 69 0 0 0 x4)
          replace hP := zl_e hP hZ12
          refine ⟨zpy_c (d := 0) (l1 := 5) (l2 := 24) (rfl : i3 x4 = i3 x4) (zSh_l hSx3) rfl (by omega) (by omega) (by omega), ?_⟩
          intro μ9 e9
          replace e9 := e9.trans (zm_py (ν := ν) (d := 0) hZ12 (rfl : ((x3 : Nat) : Int) = x3) (show ((0 : Nat) : Int) = 0 from rfl) (show ((0 : Nat) : Int) = 0 from rfl) (show ((0 : Nat) : Int) = 0 from rfl) (rfl : i3 x4 = i3 x4) (by omega) (by omega))
          subst e9
          have hZ12I := zH_pk69 hZ hZ12 hs
          have hZ12K : zL [69] [x3] n9 Zs Z12 := zL_pk hK hZ12 (by decide)
          have hZ12U : zU [] Zs Z12 := zU_p hU hZ12 (Or.inl rfl)
          obtain ⟨Z13, v14, hv14, c9, hZ13I, kZ13, jZ13, lv14, uv14, aZ13_a0b⟩ := sp_1070 (ν := ν) hZ12I hs hn x3 hSx3 (zA_p gAx3 hZ12 (fun q => absurd q.1 (by decide))) (a1 := x4) (by omega) (zbh (c := 0) (k := 0) hM (Nat.le_of_ble_eq_true rfl))
          have hZ13U : zU [] Zs Z13 := zU_t hZ12U jZ13 zU_b0
          have hZ13K : zL [69] [x3] n9 Zs Z13 := zL_t hZ12K kZ13 (by decide) (zL_b1 (Or.inl (by simp)) zL_b0) (by omega)
          replace hP := zl_e2 hP hv14
          refine wz_cI_of (zas (zcons rfl (zcons (zvi (rfl : i3 x4 = i3 x4)) rfl)) c9) ?_
          clear c9 hv14
          obtain ⟨m2, rfl⟩ : ∃ m2, m = m2 + 1 := ⟨m - 1, by omega⟩
          exact wz_k1 ⟨m2, by omega, Z13, v4, v14, (x7 + 1), (zconso rfl (zconso rfl (zconso rfl (zconso rfl (zconso (zvo (rfl : i3 x4 = i3 x4)) (zconso (zvo (rfl : i3 v4 = i3 v4)) (zconso (zvo (rfl : i3 v14 = i3 v14)) (zconso (zvo (i3A (rfl : i3 x7 = i3 x7) (show (1 : Int32) = i3 1 from rfl))) (zconso rfl rfl))))))))), rfl, hZ13I, hZ13K, hZ13U, aZ13_a0b, by omega, by omega, by omega, by omega,  hP⟩
/- yX2_shortestTrip -/
def zf_56 (Z : qz_Z) (n9 : Int) (a0b : Int) (a1 : Int) : qz_Z × Int × Int := (zlet (zzi Z n9) (fun Z1 => (zlet (n9 + 1) (fun n3 => (zlet3 (zl_56_1 a0b n9 a1 6 Z1 0 0) (fun Z6 y4 y5 => (zlet4 (zl_56_2 a0b n9 y4 121 Z6 (-1) 1 0) (fun Z11 y8 y9 y10 => (Z11, n3, y8)))))))))
theorem sp_56 {s : zSM} {Z : qz_Z} {ν : qz_N} (hZ : zH s Z) (hs : s.1 = none) {n9 : Nat} (hn : ν.2.2.2.1 = n9) (a0b : Nat) {a1 : Int} (ga1 : 0 ≤ a1 ∧ a1 ≤ 31) (hM : s.2 + 0 ≤ 1000000000) : ∃ (Z1 : qz_Z) (ν1 : qz_N) (n1 : Nat) (P : Int), (Z1, (n1 : Int), P) = zf_56 Z n9 a0b a1 ∧ (qf_56 [.inr (.inr (some (10, a0b, 0))), .inl (i3 a1), .inr (.inr (some (69, 0, 0)))] (zm Z ν) = some (zm Z1 ν1, .inl (some (.inl (i3 P)))) ∧ zH s Z1 ∧ zL [69] [] n9 Z Z1 ∧ zU [] Z Z1 ∧ ν1.2.2.2.1 = n1 ∧ zGl 5 ν ν1 ∧ n9 ≤ n1 ∧ n1 ≤ n9 + 1 ∧ -1 ≤ P ∧ P ≤ 72) := by
  obtain ⟨P, hP⟩ := zx (zf_56 Z n9 a0b a1)
  refine zc_Wn (Q := fun Z1 ν1 n1 P => zH s Z1 ∧ zL [69] [] n9 Z Z1 ∧ zU [] Z Z1 ∧ ν1.2.2.2.1 = n1 ∧ zGl 5 ν ν1 ∧ n9 ≤ n1 ∧ n1 ≤ n9 + 1 ∧ -1 ≤ P ∧ P ≤ 72) hP (fw_56 a0b (i3 a1) (69, 0, 0) _ _ ?_)
  replace hP : zE P (zf_56 Z n9 a0b a1) := hP
  unfold zf_56 at hP
  obtain ⟨Z1, hZ1⟩ := zx (zzr Z n9)
  obtain ⟨ν2, hν2⟩ := zx (nal ν 50 1 5 1 5)
  obtain ⟨n3, hn3⟩ : ∃ m : Nat, m = n9 + 1 := ⟨_, rfl⟩
  replace hP := zl_e hP (hZ1.trans zzi_e)
  replace hP := zl_e hP (show ((n3 : Nat) : Int) = ((n9 : Nat) : Int) + 1 from by omega)
  intro μ9 e9
  replace e9 := zal_e e9 hn hZ1 hν2
  subst e9
  rw [show qz_na (zm Z ν) = n9 from hn]
  have hZ1I := zH_z hZ hZ1 hs
  have hZ1K : zL [69] [] n9 Z Z1 := zL_z2 zL_r (by omega) hZ1
  have hZ1U : zU [] Z Z1 := zU_z zU_r hZ1
  have hnν2 := (nal_na hn hν2).trans hn3.symm
  have hGν2 := zGl_al (K := 5) zGl_r hν2 (by decide)
  have hSν2 := zSh_new hn hν2
  have gAν2 := zA_new (lo := 0) (hi := 4) hZ1 ⟨by decide, by decide⟩
  refine sl_56_1 (ν := ν2) hZ1I (zbh (c := 0) (k := 0) hM (Nat.le_of_ble_eq_true rfl)) hs hnν2 a0b n9 hSν2 gAν2 (x1 := a1) (by omega) (x4 := 0) (by omega) (x5 := 0) (by omega) zL_r zU_r (by omega) (zconso rfl (zconso (zvo (rfl : i3 a1 = i3 a1)) (zconso rfl (zconso rfl (zconso (zvo (show (0 : Int32) = i3 0 from rfl)) (zconso (zvo (show (0 : Int32) = i3 0 from rfl)) (zconso rfl (zconso rfl (zconso rfl rfl))))))))) rfl ?_
  intro L7 Z6 y4 y5 hL7 hZ6I kZ6 jZ6 aZ6_x3 gy4 gy5 gL7_0 q9
  replace hP := zl_e3 hP (Eq.symm q9)
  clear q9
  have hZ6U : zU [] Z Z6 := zU_t hZ1U jZ6 zU_b0
  have hZ6K : zL [69] [] n9 Z Z6 := zL_t hZ1K kZ6 (by decide) (zL_b1 (Or.inr (by omega)) zL_b0) (by omega)
  refine fc_56_4 _ _ _ (i3 y4) _ _ _ _ hL7 ?_
  refine sl_56_2 (ν := ν2) hZ6I (zbh (c := 0) (k := 0) hM (Nat.le_of_ble_eq_true rfl)) hs hnν2 a0b n9 hSν2 aZ6_x3 (x4 := y4) (by omega) (x5 := (-1)) (by omega) (x6 := 1) (by omega) (x7 := 0) (by omega) zL_r zU_r  (zconso rfl (zconso rfl (zconso rfl (zconso rfl (zconso (zvo (rfl : i3 y4 = i3 y4)) (zconso (zvo (show (-1 : Int32) = i3 (-1) from rfl)) (zconso (zvo (show (1 : Int32) = i3 1 from rfl)) (zconso (zvo (show (0 : Int32) = i3 0 from rfl)) (zconso rfl rfl))))))))) rfl ?_
  intro L12 Z11 y8 y9 y10 hL12 hZ11I kZ11 jZ11 aZ11_x3 gy8 gy9 gy10 q9
  replace hP := zl_e4 hP (Eq.symm q9)
  clear q9
  have hZ11U : zU [] Z Z11 := zU_t hZ6U jZ11 zU_b0
  have hZ11K : zL [69] [] n9 Z Z11 := zL_t hZ6K kZ11 (by decide) (zL_b1 (Or.inr (by omega)) zL_b0) (by omega)
  refine fc_56_3 (i3 y8) _ _ _ _ hL12 ?_
  exact zlWn hP (rfl : i3 y8 = i3 y8) ⟨hZ11I, hZ11K, hZ11U, hnν2, hGν2, by omega, by omega, by omega, by omega⟩
/- yX2_shortestTrip (2) -/
def zl_1056_1 (x0b : Int) (x2b : Int) (x3 : Int) (x1 : Int) : Nat → qz_Z → Int → Int → qz_Z × Int × Int
  | 0, Z, x4, x5 => (Z, x4, x5)
  | m + 1, Z, x4, x5 => (if 5 ≤ x5 then (Z, x4, x5) else (zlet (zu Z 200 x2b 0 x5 (-1)) (fun Z4 => (if (z2 (fun x y => x &&& y) (z2 (fun x y => x >>> (y &&& 31)) x1 x5) 1) ≠ 1 then zl_1056_1 x0b x2b x3 x1 m Z4 x4 (x5 + 1) else (zlet (zu Z4 200 x3 0 x4 x5) (fun Z9 => zl_1056_1 x0b x2b x3 x1 m Z9 (x4 + 1) (x5 + 1)))))))
theorem sl_1056_1 {s : zSM} {Zs Z : qz_Z} {ν : qz_N} (hZ : zH s Z) (hM : s.2 + 0 ≤ 1000000000) (hs : s.1 = none) {n9 : Nat} (hn : ν.2.2.2.1 = n9) (x0b : Nat) (x2b : Nat) (hSx2 : zSh ν x2b 50 5) (gAx2 : zA (-1) 4 x2b Z) (x3 : Nat) (hSx3 : zSh ν x3 50 5) (gAx3 : zA (0) 4 x3 Z) {x1 : Int} (gx1 : 0 ≤ x1 ∧ x1 ≤ 31) {x4 : Int} (gx4 : 0 ≤ x4 ∧ x4 ≤ 5) {x5 : Int} (gx5 : 0 ≤ x5 ∧ x5 ≤ 5) (hK : zL [] [x2b, x3] n9 Zs Z) (hU : zU [] Zs Z) (gd0 : x2b ≠ x3) (gr0 : x4 ≤ x5) {k : wz_K} {R : wz_R} {L : qz_L} (hL : qz_fg [true, true, true, true, true, true, false, false, false] L = [some (.inr (.inr (some (10, x0b, 0)))), some (.inl (i3 x1)), some (.inr (.inr (some (200, x2b, 0)))), some (.inr (.inr (some (200, x3, 0)))), some (.inl (i3 x4)), some (.inl (i3 x5)), none, none, none]) {T : qz_Z × Int × Int} (hP : zE T (zl_1056_1 x0b x2b x3 x1 ((5 - x5).toNat + 1) Z x4 x5)) (hk : ∀ (L9 : qz_L) (Z9 : qz_Z) (yx4 yx5 : Int), qz_fg [true, false, true, true, true, false, false, false, false] L9 = [some (.inr (.inr (some (10, x0b, 0)))), none, some (.inr (.inr (some (200, x2b, 0)))), some (.inr (.inr (some (200, x3, 0)))), some (.inl (i3 yx4)), none, none, none, none] → zH s Z9 → zL [] [x2b, x3] n9 Zs Z9 → zU [] Zs Z9 → zA (-1) 4 x2b Z9 → zA (0) 4 x3 Z9 → (0 ≤ yx4 ∧ yx4 ≤ 5) → (0 ≤ yx5 ∧ yx5 ≤ 5) → (yx4 ≤ yx5) → zE T ((Z9, yx4, yx5)) → k 0 (L9, [], zm Z9 ν)) : wz_loop qb_56_1 65536 k R (L, [], zm Z ν) := by
  refine wz_lp sb_56_1 (fun m x => ∃ Z : qz_Z, ∃ x4 : Int, ∃ x5 : Int, qz_fg [true, true, true, true, true, true, false, false, false] x.1 = [some (.inr (.inr (some (10, x0b, 0)))), some (.inl (i3 x1)), some (.inr (.inr (some (200, x2b, 0)))), some (.inr (.inr (some (200, x3, 0)))), some (.inl (i3 x4)), some (.inl (i3 x5)), none, none, none] ∧ x.2 = ([], zm Z ν) ∧ zH s Z ∧ zL [] [x2b, x3] n9 Zs Z ∧ zU [] Zs Z ∧ zA (-1) 4 x2b Z ∧ zA (0) 4 x3 Z ∧ m = (5 - x5).toNat ∧ (0 ≤ x4 ∧ x4 ≤ 5) ∧ (0 ≤ x5 ∧ x5 ≤ 5) ∧ (x4 ≤ x5) ∧ zE T (zl_1056_1 x0b x2b x3 x1 (m + 1) Z x4 x5)) ?_ 65536 ((5 - x5).toNat) _ (by omega) ⟨Z, x4, x5, hL, rfl, hZ, hK, hU, gAx2, gAx3, rfl, gx4, gx5, gr0, hP⟩
  clear hP gr0 gx4 gx5 hZ hK hU gAx2 gAx3 hL
  clear x4 x5
  clear Z
  rintro m ⟨L, st, μ⟩ ⟨Z, x4, x5, hL, hx, hZ, hK, hU, gAx2, gAx3, hm, gx4, gx5, gr0, hP⟩
  cases hx
  refine fb_56_1 x0b (i3 x1) (200, x2b, 0) x3 (i3 x4) (i3 x5) _ _ _ _ hL ?_
  have r1 := hSx2.1
  have r2 := hSx3.1
  refine wz_br (i3Le (show (5 : Int32) = i3 5 from rfl) (rfl : i3 x5 = i3 x5) (by omega) (by omega) (by omega) (by omega)) (fun h3 => ?_) (fun h3 => ?_)
  · replace hP := zE_p hP h3
    exact hk _ _ _ _ (zconso rfl (zconso rfl (zconso rfl (zconso rfl (zconso (zvo (rfl : i3 x4 = i3 x4)) (zconso rfl (zconso rfl (zconso rfl (zconso rfl rfl))))))))) hZ hK hU gAx2 gAx3 (by omega) (by omega) (by omega) hP
  · replace hP := zE_n hP h3
    refine wz_i1 (by rw [zSh_t hSx2]; rfl) ?_
    refine wz_i0 (by rw [zSh_l hSx2]; exact i3O (n := 5) (rfl : i3 x5 = i3 x5) (by omega) (by omega) (by omega)) ?_
    obtain ⟨Z4, hZ4⟩ := zx (zu Z 200 x2b 0 x5 (-1))
    replace hP := zl_e hP hZ4
    have hZ4I := zH_200 hZ hZ4 (by omega) hs
    have hZ4U : zU [] Zs Z4 := zU_u hU hZ4 (Or.inl rfl)
    have hZ4K : zL [] [x2b, x3] n9 Zs Z4 := zL_a hK hZ4 (Or.inl (by simp))
    intro μ9 e9
    replace e9 := e9.trans (zm_wI (Z := Z) (ν := ν) hZ4 (rfl : ((x2b : Nat) : Int) = x2b) (show ((0 : Nat) : Int) = 0 from rfl) (i3I (y := x5) (rfl : i3 x5 = i3 x5) (by omega) (by omega) (by omega)) (show (-1 : Int32) = i3 (-1) from rfl))
    subst e9
    have r5 := z2_r (fun x y => x >>> (y &&& 31)) x1 x5
    have r6 := z2_r (fun x y => x &&& y) (z2 (fun x y => x >>> (y &&& 31)) x1 x5) 1
    have r7 := z2_and (z2 (fun x y => x >>> (y &&& 31)) x1 x5) (y := 1) (by omega) (by omega)
    refine wz_br (i3NE (i3Z (fun x y => x &&& y) (i3Z (fun x y => x >>> (y &&& 31)) (rfl : i3 x1 = i3 x1) (rfl : i3 x5 = i3 x5)) (show (1 : Int32) = i3 1 from rfl)) (show (1 : Int32) = i3 1 from rfl) (by omega) (by omega) (by omega) (by omega)) (fun h8 => ?_) (fun h8 => ?_)
    · replace hP := zE_p hP h8
      obtain ⟨m2, rfl⟩ : ∃ m2, m = m2 + 1 := ⟨m - 1, by omega⟩
      exact wz_k1 ⟨m2, by omega, Z4, x4, (x5 + 1), (zconso rfl (zconso (zvo (rfl : i3 x1 = i3 x1)) (zconso rfl (zconso rfl (zconso (zvo (rfl : i3 x4 = i3 x4)) (zconso (zvo (i3A (rfl : i3 x5 = i3 x5) (show (1 : Int32) = i3 1 from rfl))) (zconso rfl (zconso rfl (zconso rfl rfl))))))))), rfl, hZ4I, hZ4K, hZ4U, (zA_w gAx2 hZ4 (by omega)), (zA_o gAx3 hZ4 (fun q => absurd q.2 (by omega))), by omega, by omega, by omega, by omega,  hP⟩
    · replace hP := zE_n hP h8
      refine wz_i1 (by rw [zSh_t hSx3]; rfl) ?_
      refine wz_i0 (by rw [zSh_l hSx3]; exact i3O (n := 5) (rfl : i3 x4 = i3 x4) (by omega) (by omega) (by omega)) ?_
      obtain ⟨Z9, hZ9⟩ := zx (zu Z4 200 x3 0 x4 x5)
      replace hP := zl_e hP hZ9
      have hZ9I := zH_200 hZ4I hZ9 (by omega) hs
      have hZ9U : zU [] Zs Z9 := zU_u hZ4U hZ9 (Or.inl rfl)
      have hZ9K : zL [] [x2b, x3] n9 Zs Z9 := zL_a hZ4K hZ9 (Or.inl (by simp))
      intro μ9 e9
      replace e9 := e9.trans (zm_wI (Z := Z4) (ν := ν) hZ9 (rfl : ((x3 : Nat) : Int) = x3) (show ((0 : Nat) : Int) = 0 from rfl) (i3I (y := x4) (rfl : i3 x4 = i3 x4) (by omega) (by omega) (by omega)) (rfl : i3 x5 = i3 x5))
      subst e9
      obtain ⟨m2, rfl⟩ : ∃ m2, m = m2 + 1 := ⟨m - 1, by omega⟩
      exact wz_k1 ⟨m2, by omega, Z9, (x4 + 1), (x5 + 1), (zconso rfl (zconso (zvo (rfl : i3 x1 = i3 x1)) (zconso rfl (zconso rfl (zconso (zvo (i3A (rfl : i3 x4 = i3 x4) (show (1 : Int32) = i3 1 from rfl))) (zconso (zvo (i3A (rfl : i3 x5 = i3 x5) (show (1 : Int32) = i3 1 from rfl))) (zconso rfl (zconso rfl (zconso rfl rfl))))))))), rfl, hZ9I, hZ9K, hZ9U, (zA_o (zA_w gAx2 hZ4 (by omega)) hZ9 (fun q => absurd q.2 (by omega))), (zA_w (zA_o gAx3 hZ4 (fun q => absurd q.2 (by omega))) hZ9 (by omega)), by omega, by omega, by omega, by omega,  hP⟩
/- yX2_shortestTrip (2) -/
def zl_1056_2 (x0b : Int) (x2b : Int) (x3 : Int) (x4 : Int) : Nat → qz_Z → Int → Int → Int → qz_Z × Int × Int × Int
  | 0, Z, x5, x6, x7 => (Z, x5, x6, x7)
  | m + 1, Z, x5, x6, x7 => (if 120 ≤ x7 then (Z, x5, x6, x7) else (if x6 = 0 then (Z, x5, x6, x7) else (zlet (zf_47 Z x0b x3 x4) (fun v5 => (if x5 = (-1) then (zlet (zpy Z 200 x3 0 200 x2b 0 0 x4) (fun Z7 => (zlet2 (zf_1070 Z7 x3 x4) (fun Z8 v9 => zl_1056_2 x0b x2b x3 x4 m Z8 v5 v9 (x7 + 1))))) else (if x5 ≤ v5 then (zlet2 (zf_1070 Z x3 x4) (fun Z11 v12 => zl_1056_2 x0b x2b x3 x4 m Z11 x5 v12 (x7 + 1))) else (zlet (zpy Z 200 x3 0 200 x2b 0 0 x4) (fun Z13 => (zlet2 (zf_1070 Z13 x3 x4) (fun Z14 v15 => zl_1056_2 x0b x2b x3 x4 m Z14 v5 v15 (x7 + 1)))))))))))
theorem sl_1056_2 {s : zSM} {Zs Z : qz_Z} {ν : qz_N} (hZ : zH s Z) (hM : s.2 + 0 ≤ 1000000000) (hs : s.1 = none) {n9 : Nat} (hn : ν.2.2.2.1 = n9) (x0b : Nat) (x2b : Nat) (hSx2 : zSh ν x2b 50 5) (gAx2 : zA (-1) 4 x2b Z) (x3 : Nat) (hSx3 : zSh ν x3 50 5) (gAx3 : zA (0) 4 x3 Z) {x4 : Int} (gx4 : 0 ≤ x4 ∧ x4 ≤ 5) {x5 : Int} (gx5 : -1 ≤ x5 ∧ x5 ≤ 72) {x6 : Int} (gx6 : 0 ≤ x6 ∧ x6 ≤ 1) {x7 : Int} (gx7 : 0 ≤ x7 ∧ x7 ≤ 120) (hK : zL [] [x2b, x3] n9 Zs Z) (hU : zU [] Zs Z) (gd0 : x2b ≠ x3) {k : wz_K} {R : wz_R} {L : qz_L} (hL : qz_fg [true, false, true, true, true, true, true, true, false] L = [some (.inr (.inr (some (10, x0b, 0)))), none, some (.inr (.inr (some (200, x2b, 0)))), some (.inr (.inr (some (200, x3, 0)))), some (.inl (i3 x4)), some (.inl (i3 x5)), some (.inl (i3 x6)), some (.inl (i3 x7)), none]) {T : qz_Z × Int × Int × Int} (hP : zE T (zl_1056_2 x0b x2b x3 x4 ((120 - x7).toNat + 1) Z x5 x6 x7)) (hk : ∀ (L9 : qz_L) (Z9 : qz_Z) (yx5 yx6 yx7 : Int), qz_fg [false, false, false, false, false, true, false, false, false] L9 = [none, none, none, none, none, some (.inl (i3 yx5)), none, none, none] → zH s Z9 → zL [] [x2b, x3] n9 Zs Z9 → zU [] Zs Z9 → zA (-1) 4 x2b Z9 → zA (0) 4 x3 Z9 → (-1 ≤ yx5 ∧ yx5 ≤ 72) → (0 ≤ yx6 ∧ yx6 ≤ 1) → (0 ≤ yx7 ∧ yx7 ≤ 120) → zE T ((Z9, yx5, yx6, yx7)) → k 0 (L9, [], zm Z9 ν)) : wz_loop qb_56_2 65536 k R (L, [], zm Z ν) := by
  refine wz_lp sb_56_2 (fun m x => ∃ Z : qz_Z, ∃ x5 : Int, ∃ x6 : Int, ∃ x7 : Int, qz_fg [true, false, true, true, true, true, true, true, false] x.1 = [some (.inr (.inr (some (10, x0b, 0)))), none, some (.inr (.inr (some (200, x2b, 0)))), some (.inr (.inr (some (200, x3, 0)))), some (.inl (i3 x4)), some (.inl (i3 x5)), some (.inl (i3 x6)), some (.inl (i3 x7)), none] ∧ x.2 = ([], zm Z ν) ∧ zH s Z ∧ zL [] [x2b, x3] n9 Zs Z ∧ zU [] Zs Z ∧ zA (-1) 4 x2b Z ∧ zA (0) 4 x3 Z ∧ m = (120 - x7).toNat ∧ (-1 ≤ x5 ∧ x5 ≤ 72) ∧ (0 ≤ x6 ∧ x6 ≤ 1) ∧ (0 ≤ x7 ∧ x7 ≤ 120) ∧ zE T (zl_1056_2 x0b x2b x3 x4 (m + 1) Z x5 x6 x7)) ?_ 65536 ((120 - x7).toNat) _ (by omega) ⟨Z, x5, x6, x7, hL, rfl, hZ, hK, hU, gAx2, gAx3, rfl, gx5, gx6, gx7, hP⟩
  clear hP gx5 gx6 gx7 hZ hK hU gAx2 gAx3 hL
  clear x5 x6 x7
  clear Z
  rintro m ⟨L, st, μ⟩ ⟨Z, x5, x6, x7, hL, hx, hZ, hK, hU, gAx2, gAx3, hm, gx5, gx6, gx7, hP⟩
  cases hx
  refine fb_56_2 x0b (200, x2b, 0) x3 (i3 x4) (i3 x5) (i3 x6) (i3 x7) _ _ _ _ hL ?_
  have r1 := hSx2.1
  have r2 := hSx3.1
  refine wz_br (i3Le (show (120 : Int32) = i3 120 from rfl) (rfl : i3 x7 = i3 x7) (by omega) (by omega) (by omega) (by omega)) (fun h3 => ?_) (fun h3 => ?_)
  · replace hP := zE_p hP h3
    exact hk _ _ _ _ _ (zconso rfl (zconso rfl (zconso rfl (zconso rfl (zconso rfl (zconso (zvo (rfl : i3 x5 = i3 x5)) (zconso rfl (zconso rfl (zconso rfl rfl))))))))) hZ hK hU gAx2 gAx3 (by omega) (by omega) (by omega)  hP
  · replace hP := zE_n hP h3
    refine wz_br (i3E (rfl : i3 x6 = i3 x6) (show (0 : Int32) = i3 0 from rfl) (by omega) (by omega) (by omega) (by omega)) (fun h4 => ?_) (fun h4 => ?_)
    · replace hP := zE_p hP h4
      exact hk _ _ _ _ _ (zconso rfl (zconso rfl (zconso rfl (zconso rfl (zconso rfl (zconso (zvo (rfl : i3 x5 = i3 x5)) (zconso rfl (zconso rfl (zconso rfl rfl))))))))) hZ hK hU gAx2 gAx3 (by omega) (by omega) (by omega)  hP
    · replace hP := zE_n hP h4
      obtain ⟨v5, hv5, c9, lv5, uv5⟩ := sp_47 (ν := ν) hZ x0b x3 hSx3 gAx3 (a2 := x4) (by omega) (zbh (c := 0) (k := 0) hM (Nat.le_of_ble_eq_true rfl))
      replace hP := zl_e hP hv5
      refine wz_cI_of (zas (zcons rfl (zcons rfl (zcons (zvi (rfl : i3 x4 = i3 x4)) rfl))) c9) ?_
      clear c9
      refine wz_br (i3E (rfl : i3 x5 = i3 x5) (show (-1 : Int32) = i3 (-1) from rfl) (by omega) (by omega) (by omega) (by omega)) (fun h6 => ?_) (fun h6 => ?_)
      · replace hP := zE_p hP h6
        refine wz_i1 (by rw [zSh_t hSx3, zSh_t hSx2]; rfl) ?_
        obtain ⟨Z7, hZ7⟩ := zx (zpy Z 200 x3 0 200 x2b 0 0 x4)
        replace hP := zl_e hP hZ7
        refine ⟨zpy_c (d := 0) (l1 := 5) (l2 := 5) (rfl : i3 x4 = i3 x4) (zSh_l hSx3) (zSh_l hSx2) (by omega) (by omega) (by omega), ?_⟩
        intro μ9 e9
        replace e9 := e9.trans (zm_py (ν := ν) (d := 0) hZ7 (rfl : ((x3 : Nat) : Int) = x3) (show ((0 : Nat) : Int) = 0 from rfl) (rfl : ((x2b : Nat) : Int) = x2b) (show ((0 : Nat) : Int) = 0 from rfl) (rfl : i3 x4 = i3 x4) (by omega) (by omega))
        subst e9
        have hZ7I := zH_pa hZ hZ7 hs
        have hZ7K : zL [] [x2b, x3] n9 Zs Z7 := zL_pa hK hZ7 (Or.inl (by simp))
        have hZ7A := zA_pa gAx2 (zA_wk gAx3 (by decide) (by decide)) hZ7
        have hZ7U : zU [] Zs Z7 := zU_p hU hZ7 (Or.inl rfl)
        obtain ⟨Z8, v9, hv9, c9, hZ8I, kZ8, jZ8, lv9, uv9, aZ8_a0b⟩ := sp_1070 (ν := ν) hZ7I hs hn x3 hSx3 (zA_p gAx3 hZ7 (fun q => absurd q.2 (by omega))) (a1 := x4) (by omega) (zbh (c := 0) (k := 0) hM (Nat.le_of_ble_eq_true rfl))
        have hZ8U : zU [] Zs Z8 := zU_t hZ7U jZ8 zU_b0
        have hZ8K : zL [] [x2b, x3] n9 Zs Z8 := zL_t hZ7K kZ8 (by decide) (zL_b1 (Or.inl (by simp)) zL_b0) (by omega)
        replace hP := zl_e2 hP hv9
        refine wz_cI_of (zas (zcons rfl (zcons (zvi (rfl : i3 x4 = i3 x4)) rfl)) c9) ?_
        clear c9 hv9
        obtain ⟨m2, rfl⟩ : ∃ m2, m = m2 + 1 := ⟨m - 1, by omega⟩
        exact wz_k1 ⟨m2, by omega, Z8, v5, v9, (x7 + 1), (zconso rfl (zconso rfl (zconso rfl (zconso rfl (zconso (zvo (rfl : i3 x4 = i3 x4)) (zconso (zvo (rfl : i3 v5 = i3 v5)) (zconso (zvo (rfl : i3 v9 = i3 v9)) (zconso (zvo (i3A (rfl : i3 x7 = i3 x7) (show (1 : Int32) = i3 1 from rfl))) (zconso rfl rfl))))))))), rfl, hZ8I, hZ8K, hZ8U, (zA_l hZ7A kZ8 (by decide) (zA_b1 (by omega) zA_b0) (by omega)), aZ8_a0b, by omega, by omega, by omega, by omega,  hP⟩
      · replace hP := zE_n hP h6
        refine wz_br (i3Le (rfl : i3 x5 = i3 x5) (rfl : i3 v5 = i3 v5) (by omega) (by omega) (by omega) (by omega)) (fun h10 => ?_) (fun h10 => ?_)
        · replace hP := zE_p hP h10
          obtain ⟨Z11, v12, hv12, c9, hZ11I, kZ11, jZ11, lv12, uv12, aZ11_a0b⟩ := sp_1070 (ν := ν) hZ hs hn x3 hSx3 gAx3 (a1 := x4) (by omega) (zbh (c := 0) (k := 0) hM (Nat.le_of_ble_eq_true rfl))
          have hZ11U : zU [] Zs Z11 := zU_t hU jZ11 zU_b0
          have hZ11K : zL [] [x2b, x3] n9 Zs Z11 := zL_t hK kZ11 (by decide) (zL_b1 (Or.inl (by simp)) zL_b0) (by omega)
          replace hP := zl_e2 hP hv12
          refine wz_cI_of (zas (zcons rfl (zcons (zvi (rfl : i3 x4 = i3 x4)) rfl)) c9) ?_
          clear c9 hv12
          obtain ⟨m2, rfl⟩ : ∃ m2, m = m2 + 1 := ⟨m - 1, by omega⟩
          exact wz_k1 ⟨m2, by omega, Z11, x5, v12, (x7 + 1), (zconso rfl (zconso rfl (zconso rfl (zconso rfl (zconso (zvo (rfl : i3 x4 = i3 x4)) (zconso (zvo (rfl : i3 x5 = i3 x5)) (zconso (zvo (rfl : i3 v12 = i3 v12)) (zconso (zvo (i3A (rfl : i3 x7 = i3 x7) (show (1 : Int32) = i3 1 from rfl))) (zconso rfl rfl))))))))), rfl, hZ11I, hZ11K, hZ11U, (zA_l gAx2 kZ11 (by decide) (zA_b1 (by omega) zA_b0) (by omega)), aZ11_a0b, by omega, by omega, by omega, by omega,  hP⟩
        · replace hP := zE_n hP h10
          refine wz_i1 (by rw [zSh_t hSx3, zSh_t hSx2]; rfl) ?_
          obtain ⟨Z13, hZ13⟩ := zx (zpy Z 200 x3 0 200 x2b 0 0 x4)
          replace hP := zl_e hP hZ13
          refine ⟨zpy_c (d := 0) (l1 := 5) (l2 := 5) (rfl : i3 x4 = i3 x4) (zSh_l hSx3) (zSh_l hSx2) (by omega) (by omega) (by omega), ?_⟩
          intro μ9 e9
          replace e9 := e9.trans (zm_py (ν := ν) (d := 0) hZ13 (rfl : ((x3 : Nat) : Int) = x3) (show ((0 : Nat) : Int) = 0 from rfl) (rfl : ((x2b : Nat) : Int) = x2b) (show ((0 : Nat) : Int) = 0 from rfl) (rfl : i3 x4 = i3 x4) (by omega) (by omega))
          subst e9
          have hZ13I := zH_pa hZ hZ13 hs
          have hZ13K : zL [] [x2b, x3] n9 Zs Z13 := zL_pa hK hZ13 (Or.inl (by simp))
          have hZ13A := zA_pa gAx2 (zA_wk gAx3 (by decide) (by decide)) hZ13
          have hZ13U : zU [] Zs Z13 := zU_p hU hZ13 (Or.inl rfl)
          obtain ⟨Z14, v15, hv15, c9, hZ14I, kZ14, jZ14, lv15, uv15, aZ14_a0b⟩ := sp_1070 (ν := ν) hZ13I hs hn x3 hSx3 (zA_p gAx3 hZ13 (fun q => absurd q.2 (by omega))) (a1 := x4) (by omega) (zbh (c := 0) (k := 0) hM (Nat.le_of_ble_eq_true rfl))
          have hZ14U : zU [] Zs Z14 := zU_t hZ13U jZ14 zU_b0
          have hZ14K : zL [] [x2b, x3] n9 Zs Z14 := zL_t hZ13K kZ14 (by decide) (zL_b1 (Or.inl (by simp)) zL_b0) (by omega)
          replace hP := zl_e2 hP hv15
          refine wz_cI_of (zas (zcons rfl (zcons (zvi (rfl : i3 x4 = i3 x4)) rfl)) c9) ?_
          clear c9 hv15
          obtain ⟨m2, rfl⟩ : ∃ m2, m = m2 + 1 := ⟨m - 1, by omega⟩
          exact wz_k1 ⟨m2, by omega, Z14, v5, v15, (x7 + 1), (zconso rfl (zconso rfl (zconso rfl (zconso rfl (zconso (zvo (rfl : i3 x4 = i3 x4)) (zconso (zvo (rfl : i3 v5 = i3 v5)) (zconso (zvo (rfl : i3 v15 = i3 v15)) (zconso (zvo (i3A (rfl : i3 x7 = i3 x7) (show (1 : Int32) = i3 1 from rfl))) (zconso rfl rfl))))))))), rfl, hZ14I, hZ14K, hZ14U, (zA_l hZ13A kZ14 (by decide) (zA_b1 (by omega) zA_b0) (by omega)), aZ14_a0b, by omega, by omega, by omega, by omega,  hP⟩
/- yX2_shortestTrip (2) -/
def zf_1056 (Z : qz_Z) (n9 : Int) (a0b : Int) (a1 : Int) (a2b : Int) : qz_Z × Int × Int := (zlet (zzi Z n9) (fun Z2 => (zlet (n9 + 1) (fun n4 => (zlet3 (zl_1056_1 a0b a2b n9 a1 6 Z2 0 0) (fun Z7 y5 y6 => (zlet4 (zl_1056_2 a0b a2b n9 y5 121 Z7 (-1) 1 0) (fun Z12 y9 y10 y11 => (Z12, n4, y9)))))))))
theorem sp_1056 {s : zSM} {Z : qz_Z} {ν : qz_N} (hZ : zH s Z) (hs : s.1 = none) {n9 : Nat} (hn : ν.2.2.2.1 = n9) (a0b : Nat) {a1 : Int} (ga1 : 0 ≤ a1 ∧ a1 ≤ 31) (a2b : Nat) (hSa2 : zSh ν a2b 50 5) (gAa2 : zA (-1) 4 a2b Z) (hM : s.2 + 0 ≤ 1000000000) : ∃ (Z1 : qz_Z) (ν1 : qz_N) (n1 : Nat) (P : Int), (Z1, (n1 : Int), P) = zf_1056 Z n9 a0b a1 a2b ∧ (qf_56 [.inr (.inr (some (10, a0b, 0))), .inl (i3 a1), .inr (.inr (some (200, a2b, 0)))] (zm Z ν) = some (zm Z1 ν1, .inl (some (.inl (i3 P)))) ∧ zH s Z1 ∧ zL [] [a2b] n9 Z Z1 ∧ zU [] Z Z1 ∧ ν1.2.2.2.1 = n1 ∧ zGl 5 ν ν1 ∧ n9 ≤ n1 ∧ n1 ≤ n9 + 1 ∧ -1 ≤ P ∧ P ≤ 72 ∧ zA (-1) 4 a2b Z1) := by
  obtain ⟨P, hP⟩ := zx (zf_1056 Z n9 a0b a1 a2b)
  refine zc_Wn (Q := fun Z1 ν1 n1 P => zH s Z1 ∧ zL [] [a2b] n9 Z Z1 ∧ zU [] Z Z1 ∧ ν1.2.2.2.1 = n1 ∧ zGl 5 ν ν1 ∧ n9 ≤ n1 ∧ n1 ≤ n9 + 1 ∧ -1 ≤ P ∧ P ≤ 72 ∧ zA (-1) 4 a2b Z1) hP (fw_56 a0b (i3 a1) (200, a2b, 0) _ _ ?_)
  replace hP : zE P (zf_1056 Z n9 a0b a1 a2b) := hP
  unfold zf_1056 at hP
  have r1 := hSa2.1
  obtain ⟨Z2, hZ2⟩ := zx (zzr Z n9)
  obtain ⟨ν3, hν3⟩ := zx (nal ν 50 1 5 1 5)
  obtain ⟨n4, hn4⟩ : ∃ m : Nat, m = n9 + 1 := ⟨_, rfl⟩
  replace hP := zl_e hP (hZ2.trans zzi_e)
  replace hP := zl_e hP (show ((n4 : Nat) : Int) = ((n9 : Nat) : Int) + 1 from by omega)
  intro μ9 e9
  replace e9 := zal_e e9 hn hZ2 hν3
  subst e9
  rw [show qz_na (zm Z ν) = n9 from hn]
  have hZ2I := zH_z hZ hZ2 hs
  have hZ2K : zL [] [a2b] n9 Z Z2 := zL_z2 zL_r (by omega) hZ2
  have hZ2U : zU [] Z Z2 := zU_z zU_r hZ2
  have hnν3 := (nal_na hn hν3).trans hn4.symm
  have hGν3 := zGl_al (K := 5) zGl_r hν3 (by decide)
  have hSν3 := zSh_new hn hν3
  have gAν3 := zA_new (lo := 0) (hi := 4) hZ2 ⟨by decide, by decide⟩
  refine sl_1056_1 (ν := ν3) hZ2I (zbh (c := 0) (k := 0) hM (Nat.le_of_ble_eq_true rfl)) hs hnν3 a0b a2b (zSh_al hSa2 hν3) (zA_z gAa2 hZ2 (by omega)) n9 hSν3 gAν3 (x1 := a1) (by omega) (x4 := 0) (by omega) (x5 := 0) (by omega) zL_r zU_r (by omega) (by omega) (zconso rfl (zconso (zvo (rfl : i3 a1 = i3 a1)) (zconso rfl (zconso rfl (zconso (zvo (show (0 : Int32) = i3 0 from rfl)) (zconso (zvo (show (0 : Int32) = i3 0 from rfl)) (zconso rfl (zconso rfl (zconso rfl rfl))))))))) rfl ?_
  intro L8 Z7 y5 y6 hL8 hZ7I kZ7 jZ7 aZ7_x2 aZ7_x3 gy5 gy6 gL8_0 q9
  replace hP := zl_e3 hP (Eq.symm q9)
  clear q9
  have hZ7U : zU [] Z Z7 := zU_t hZ2U jZ7 zU_b0
  have hZ7K : zL [] [a2b] n9 Z Z7 := zL_t hZ2K kZ7 (by decide) (zL_b1 (Or.inl (by simp)) (zL_b1 (Or.inr (by omega)) zL_b0)) (by omega)
  refine fc_56_4 _ _ _ (i3 y5) _ _ _ _ hL8 ?_
  refine sl_1056_2 (ν := ν3) hZ7I (zbh (c := 0) (k := 0) hM (Nat.le_of_ble_eq_true rfl)) hs hnν3 a0b a2b (zSh_al hSa2 hν3) aZ7_x2 n9 hSν3 aZ7_x3 (x4 := y5) (by omega) (x5 := (-1)) (by omega) (x6 := 1) (by omega) (x7 := 0) (by omega) zL_r zU_r (by omega)  (zconso rfl (zconso rfl (zconso rfl (zconso rfl (zconso (zvo (rfl : i3 y5 = i3 y5)) (zconso (zvo (show (-1 : Int32) = i3 (-1) from rfl)) (zconso (zvo (show (1 : Int32) = i3 1 from rfl)) (zconso (zvo (show (0 : Int32) = i3 0 from rfl)) (zconso rfl rfl))))))))) rfl ?_
  intro L13 Z12 y9 y10 y11 hL13 hZ12I kZ12 jZ12 aZ12_x2 aZ12_x3 gy9 gy10 gy11 q9
  replace hP := zl_e4 hP (Eq.symm q9)
  clear q9
  have hZ12U : zU [] Z Z12 := zU_t hZ7U jZ12 zU_b0
  have hZ12K : zL [] [a2b] n9 Z Z12 := zL_t hZ7K kZ12 (by decide) (zL_b1 (Or.inl (by simp)) (zL_b1 (Or.inr (by omega)) zL_b0)) (by omega)
  refine fc_56_3 (i3 y9) _ _ _ _ hL13 ?_
  exact zlWn hP (rfl : i3 y9 = i3 y9) ⟨hZ12I, hZ12K, hZ12U, hnν3, hGν3, by omega, by omega, by omega, by omega, aZ12_x2⟩
/- yX2_townsOf -/
def zl_59_1 (x0b : Int) (x1 : Int) : Nat → qz_Z → Int → Int → Int × Int
  | 0, Z, x2, x3 => (x2, x3)
  | m + 1, Z, x2, x3 => (if (Z 11 x0b 0 6) ≤ x3 then (x2, x3) else (if (Z 47 x0b x3 10) ≠ x1 then zl_59_1 x0b x1 m Z x2 (x3 + 1) else zl_59_1 x0b x1 m Z (z2 (fun x y => x ||| y) x2 (z2 (fun x y => x <<< (y &&& 31)) 1 (Z 45 x0b (Z 47 x0b x3 1) 0))) (x3 + 1)))
theorem sl_59_1 {s : zSM} {Z : qz_Z} {ν : qz_N} (hZ : zH s Z) (hM : s.2 + 0 ≤ 1000000000) (x0b : Nat) {x1 : Int} (gx1 : 0 ≤ x1 ∧ x1 ≤ 3) {x2 : Int} (gx2 : 0 ≤ x2 ∧ x2 ≤ 31) {x3 : Int} (gx3 : 0 ≤ x3 ∧ x3 ≤ 60) {k : wz_K} {R : wz_R} {L : qz_L} (hL : qz_fg [true, true, true, true] L = [some (.inr (.inr (some (10, x0b, 0)))), some (.inl (i3 x1)), some (.inl (i3 x2)), some (.inl (i3 x3))]) {T : Int × Int} (hP : zE T (zl_59_1 x0b x1 ((60 - x3).toNat + 1) Z x2 x3)) (hk : ∀ (L9 : qz_L) (yx2 yx3 : Int), qz_fg [false, false, true, false] L9 = [none, none, some (.inl (i3 yx2)), none] → (0 ≤ yx2 ∧ yx2 ≤ 31) → (0 ≤ yx3 ∧ yx3 ≤ 60) → zE T ((yx2, yx3)) → k 0 (L9, [], zm Z ν)) : wz_loop qb_59_1 65536 k R (L, [], zm Z ν) := by
  refine wz_lp sb_59_1 (fun m x => ∃ x2 : Int, ∃ x3 : Int, qz_fg [true, true, true, true] x.1 = [some (.inr (.inr (some (10, x0b, 0)))), some (.inl (i3 x1)), some (.inl (i3 x2)), some (.inl (i3 x3))] ∧ x.2 = ([], zm Z ν) ∧ m = (60 - x3).toNat ∧ (0 ≤ x2 ∧ x2 ≤ 31) ∧ (0 ≤ x3 ∧ x3 ≤ 60) ∧ zE T (zl_59_1 x0b x1 (m + 1) Z x2 x3)) ?_ 65536 ((60 - x3).toNat) _ (by omega) ⟨x2, x3, hL, rfl, rfl, gx2, gx3, hP⟩
  clear hP gx2 gx3 hL
  clear x2 x3
  rintro m ⟨L, st, μ⟩ ⟨x2, x3, hL, hx, hm, gx2, gx3, hP⟩
  cases hx
  refine fb_59_1 x0b (i3 x1) (i3 x2) (i3 x3) _ _ _ _ hL ?_
  have r1 := zH_k hZ 11 x0b 0 6 (lo := 0) (hi := 60) (by decide) rfl
  refine wz_br (i3Le (zm_rd (Z := Z) (ν := ν) (k := 11) (rfl : ((x0b : Nat) : Int) = x0b) (show ((0 : Nat) : Int) = 0 from rfl) (show ((6 : Nat) : Int) = 6 from rfl)) (rfl : i3 x3 = i3 x3) (by omega) (by omega) (by omega) (by omega)) (fun h2 => ?_) (fun h2 => ?_)
  · replace hP := zE_p hP h2
    exact hk _ _ _ (zconso rfl (zconso rfl (zconso (zvo (rfl : i3 x2 = i3 x2)) (zconso rfl rfl))))  (by omega) (by omega)  hP
  · replace hP := zE_n hP h2
    refine wz_i0 (i3O (n := 60) (rfl : i3 x3 = i3 x3) (by omega) (by omega) (by omega)) ?_
    have r3 := zH_k hZ 47 x0b x3 10 (lo := -1) (hi := 3) (by decide) rfl
    have r4 := zH_lt hZ x0b x3
    refine wz_br (i3NE (zm_rd (Z := Z) (ν := ν) (k := 47) (rfl : ((x0b : Nat) : Int) = x0b) (i3I (y := x3) (rfl : i3 x3 = i3 x3) (by omega) (by omega) (by omega)) (show ((10 : Nat) : Int) = 10 from rfl)) (rfl : i3 x1 = i3 x1) (by omega) (by omega) (by omega) (by omega)) (fun h5 => ?_) (fun h5 => ?_)
    · replace hP := zE_p hP h5
      obtain ⟨m2, rfl⟩ : ∃ m2, m = m2 + 1 := ⟨m - 1, by omega⟩
      exact wz_k1 ⟨m2, by omega, x2, (x3 + 1), (zconso rfl (zconso (zvo (rfl : i3 x1 = i3 x1)) (zconso (zvo (rfl : i3 x2 = i3 x2)) (zconso (zvo (i3A (rfl : i3 x3 = i3 x3) (show (1 : Int32) = i3 1 from rfl))) rfl)))), rfl,  by omega, by omega, by omega,  hP⟩
    · replace hP := zE_n hP h5
      refine wz_i0 (i3O (n := 60) (rfl : i3 x3 = i3 x3) (by omega) (by omega) (by omega)) ?_
      have r6 := zH_k hZ 47 x0b x3 1 (lo := 0) (hi := 7) (by decide) rfl
      refine wz_i0 (i3O (n := 8) (zm_rd (Z := Z) (ν := ν) (k := 47) (rfl : ((x0b : Nat) : Int) = x0b) (i3I (y := x3) (rfl : i3 x3 = i3 x3) (by omega) (by omega) (by omega)) (show ((1 : Nat) : Int) = 1 from rfl)) (by omega) (by omega) (by omega)) ?_
      have r7 := zH_k hZ 45 x0b (Z 47 x0b x3 1) 0 (lo := 0) (hi := 4) (by decide) rfl
      have r8 := z2_r (fun x y => x <<< (y &&& 31)) 1 (Z 45 x0b (Z 47 x0b x3 1) 0)
      have r9 := z2_shl4 (n := (Z 45 x0b (Z 47 x0b x3 1) 0)) (by omega) (by omega)
      have r10 := z2_r (fun x y => x ||| y) x2 (z2 (fun x y => x <<< (y &&& 31)) 1 (Z 45 x0b (Z 47 x0b x3 1) 0))
      have r11 := z2_or5 (x := x2) (y := (z2 (fun x y => x <<< (y &&& 31)) 1 (Z 45 x0b (Z 47 x0b x3 1) 0))) (by omega) (by omega)
      obtain ⟨m2, rfl⟩ : ∃ m2, m = m2 + 1 := ⟨m - 1, by omega⟩
      exact wz_k1 ⟨m2, by omega, (z2 (fun x y => x ||| y) x2 (z2 (fun x y => x <<< (y &&& 31)) 1 (Z 45 x0b (Z 47 x0b x3 1) 0))), (x3 + 1), (zconso rfl (zconso (zvo (rfl : i3 x1 = i3 x1)) (zconso (zvo (i3Z (fun x y => x ||| y) (rfl : i3 x2 = i3 x2) (i3Z (fun x y => x <<< (y &&& 31)) (show (1 : Int32) = i3 1 from rfl) (zm_rd (Z := Z) (ν := ν) (k := 45) (rfl : ((x0b : Nat) : Int) = x0b) (i3I (y := (Z 47 x0b x3 1)) (zm_rd (Z := Z) (ν := ν) (k := 47) (rfl : ((x0b : Nat) : Int) = x0b) (i3I (y := x3) (rfl : i3 x3 = i3 x3) (by omega) (by omega) (by omega)) (show ((1 : Nat) : Int) = 1 from rfl)) (by omega) (by omega) (by omega)) (show ((0 : Nat) : Int) = 0 from rfl))))) (zconso (zvo (i3A (rfl : i3 x3 = i3 x3) (show (1 : Int32) = i3 1 from rfl))) rfl)))), rfl,  by omega, by omega, by omega,  hP⟩
/- yX2_townsOf -/
def zf_59 (Z : qz_Z) (a0b : Int) (a1 : Int) : Int := (zlet2 (zl_59_1 a0b a1 61 Z 0 0) (fun y1 y2 => y1))
theorem sp_59 {s : zSM} {Z : qz_Z} {ν : qz_N} (hZ : zH s Z) (a0b : Nat) {a1 : Int} (ga1 : 0 ≤ a1 ∧ a1 ≤ 3) (hM : s.2 + 0 ≤ 1000000000) : ∃ P : Int, P = zf_59 Z a0b a1 ∧ (qf_59 [.inr (.inr (some (10, a0b, 0))), .inl (i3 a1)] (zm Z ν) = some (zm Z ν, .inl (some (.inl (i3 P)))) ∧ 0 ≤ P ∧ P ≤ 31) := by
  obtain ⟨P, hP⟩ := zx (zf_59 Z a0b a1)
  refine zc_R (Q := fun P => 0 ≤ P ∧ P ≤ 31) hP (fw_59 a0b (i3 a1) _ _ ?_)
  replace hP : zE P (zf_59 Z a0b a1) := hP
  unfold zf_59 at hP
  refine sl_59_1 (ν := ν) hZ (zbh (c := 0) (k := 0) hM (Nat.le_of_ble_eq_true rfl)) a0b (x1 := a1) (by omega) (x2 := 0) (by omega) (x3 := 0) (by omega)  (zconso rfl (zconso (zvo (rfl : i3 a1 = i3 a1)) (zconso (zvo (show (0 : Int32) = i3 0 from rfl)) (zconso (zvo (show (0 : Int32) = i3 0 from rfl)) rfl)))) rfl ?_
  intro L3 y1 y2 hL3 gy1 gy2 q9
  replace hP := zl_e2 hP (Eq.symm q9)
  clear q9
  refine fc_59_2 (i3 y1) _ _ _ _ hL3 ?_
  exact zlR hP (rfl : i3 y1 = i3 y1) ⟨by omega, by omega⟩
/- yX2_goIfDue -/
def zl_45_1 (x0b : Int) (x2ij : Int) (x4 : Int) : Nat → qz_Z → Int → Int → Int → qz_Z × Int × Int × Int
  | 0, Z, x5, x6, x7 => (Z, x5, x6, x7)
  | m + 1, Z, x5, x6, x7 => (if 5 ≤ x7 then (Z, x5, x6, x7) else (if (Z 200 x4 0 x7) = (-1) then (zlet (zu Z 50 x0b x2ij (12 + x7) (Z 200 x4 0 x7)) (fun Z4 => (zlet (zu Z4 50 x0b x2ij (17 + x7) (-1)) (fun Z6 => zl_45_1 x0b x2ij x4 m Z6 x5 x6 (x7 + 1))))) else (zlet (zu Z 50 x0b x2ij (12 + x7) (Z 200 x4 0 x7)) (fun Z8 => (zlet (zu Z8 50 x0b x2ij (17 + x7) (x6 + (Z 40 x0b x5 (Z 200 x4 0 x7)))) (fun Z11 => zl_45_1 x0b x2ij x4 m Z11 (Z 200 x4 0 x7) (x6 + (Z 40 x0b x5 (Z 200 x4 0 x7))) (x7 + 1)))))))
theorem sl_45_1 {gg : Int} {s : zSM} {Zs Z : qz_Z} {ν : qz_N} (hZ : zH s Z) (hM : s.2 + 0 ≤ 1000000000) (hK : zC [50] Zs Z) (x0b : Nat) (x2i : Nat) {x2ij : Int} (ex2i : (x2i : Int) = x2ij) (gx2ij : 0 ≤ x2ij ∧ x2ij ≤ 3) (x4 : Nat) (hSx4 : zSh ν x4 50 5) (gAx4 : zA (-1) 4 x4 Z) {x5 : Int} (gx5 : 0 ≤ x5 ∧ x5 ≤ 5) {x6 : Int} (gx6 : 0 ≤ x6 ∧ x6 ≤ 731) {x7 : Int} (gx7 : 0 ≤ x7 ∧ x7 ≤ 5) (hU : zU [x0b] Zs Z) (gr0 : x6 ≤ 671 + 12 * x7) (gr1 : zpt Z x0b = gg) {k : wz_K} {R : wz_R} {L : qz_L} (hL : qz_fg [true, false, true, false, true, true, true, true, false] L = [some (.inr (.inr (some (10, x0b, 0)))), none, some (.inr (.inr (some (50, x0b, x2i)))), none, some (.inr (.inr (some (200, x4, 0)))), some (.inl (i3 x5)), some (.inl (i3 x6)), some (.inl (i3 x7)), none]) {T : qz_Z × Int × Int × Int} (hP : zE T (zl_45_1 x0b x2ij x4 ((5 - x7).toNat + 1) Z x5 x6 x7)) (hk : ∀ (L9 : qz_L) (Z9 : qz_Z) (yx5 yx6 yx7 : Int), qz_fg [false, false, false, false, false, false, false, false, false] L9 = [none, none, none, none, none, none, none, none, none] → zH s Z9 → zC [50] Zs Z9 → zU [x0b] Zs Z9 → zA (-1) 4 x4 Z9 → (0 ≤ yx5 ∧ yx5 ≤ 5) → (0 ≤ yx6 ∧ yx6 ≤ 731) → (0 ≤ yx7 ∧ yx7 ≤ 5) → (yx6 ≤ 671 + 12 * yx7) → (zpt Z9 x0b = gg) → zE T ((Z9, yx5, yx6, yx7)) → k 0 (L9, [], zm Z9 ν)) : wz_loop qb_45_1 65536 k R (L, [], zm Z ν) := by
  refine wz_lp sb_45_1 (fun m x => ∃ Z : qz_Z, ∃ x5 : Int, ∃ x6 : Int, ∃ x7 : Int, qz_fg [true, false, true, false, true, true, true, true, false] x.1 = [some (.inr (.inr (some (10, x0b, 0)))), none, some (.inr (.inr (some (50, x0b, x2i)))), none, some (.inr (.inr (some (200, x4, 0)))), some (.inl (i3 x5)), some (.inl (i3 x6)), some (.inl (i3 x7)), none] ∧ x.2 = ([], zm Z ν) ∧ zH s Z ∧ zC [50] Zs Z ∧ zU [x0b] Zs Z ∧ zA (-1) 4 x4 Z ∧ m = (5 - x7).toNat ∧ (0 ≤ x5 ∧ x5 ≤ 5) ∧ (0 ≤ x6 ∧ x6 ≤ 731) ∧ (0 ≤ x7 ∧ x7 ≤ 5) ∧ (x6 ≤ 671 + 12 * x7) ∧ (zpt Z x0b = gg) ∧ zE T (zl_45_1 x0b x2ij x4 (m + 1) Z x5 x6 x7)) ?_ 65536 ((5 - x7).toNat) _ (by omega) ⟨Z, x5, x6, x7, hL, rfl, hZ, hK, hU, gAx4, rfl, gx5, gx6, gx7, gr0, gr1, hP⟩
  clear hP gr0 gr1 gx5 gx6 gx7 hZ hK hU gAx4 hL
  clear x5 x6 x7
  clear Z
  rintro m ⟨L, st, μ⟩ ⟨Z, x5, x6, x7, hL, hx, hZ, hK, hU, gAx4, hm, gx5, gx6, gx7, gr0, gr1, hP⟩
  cases hx
  refine fb_45_1 x0b x2i x4 (i3 x5) (i3 x6) (i3 x7) _ _ _ _ hL ?_
  refine wz_br (i3Le (show (5 : Int32) = i3 5 from rfl) (rfl : i3 x7 = i3 x7) (by omega) (by omega) (by omega) (by omega)) (fun h1 => ?_) (fun h1 => ?_)
  · replace hP := zE_p hP h1
    exact hk _ _ _ _ _ (zconso rfl (zconso rfl (zconso rfl (zconso rfl (zconso rfl (zconso rfl (zconso rfl (zconso rfl (zconso rfl rfl))))))))) hZ hK hU gAx4 (by omega) (by omega) (by omega) (by omega) (by omega) hP
  · replace hP := zE_n hP h1
    refine wz_i1 (by rw [zSh_t hSx4]; rfl) ?_
    refine wz_i0 (by rw [zSh_l hSx4]; exact i3O (n := 5) (rfl : i3 x7 = i3 x7) (by omega) (by omega) (by omega)) ?_
    have r2 := gAx4 x7
    refine wz_br (i3E (zm_rd (Z := Z) (ν := ν) (k := 200) (rfl : ((x4 : Nat) : Int) = x4) (show ((0 : Nat) : Int) = 0 from rfl) (i3I (y := x7) (rfl : i3 x7 = i3 x7) (by omega) (by omega) (by omega))) (show (-1 : Int32) = i3 (-1) from rfl) (by omega) (by omega) (by omega) (by omega)) (fun h3 => ?_) (fun h3 => ?_)
    · replace hP := zE_p hP h3
      refine wz_i0 (i3O (n := 22) (i3A (show (12 : Int32) = i3 12 from rfl) (rfl : i3 x7 = i3 x7)) (by omega) (by omega) (by omega)) ?_
      obtain ⟨Z4, hZ4⟩ := zx (zu Z 50 x0b x2ij (12 + x7) (Z 200 x4 0 x7))
      replace hP := zl_e hP hZ4
      have hZ4I := zH_u hZ hZ4 (lo := -1) (hi := 4) (by decide) (zrn_of (lo := 12) (n := 5) (by decide) (by decide +kernel) (by omega) (by omega)) (by omega) ⟨by decide, by decide⟩ (Or.inl (by decide)) rfl
      have hZ4U : zU [x0b] Zs Z4 := zU_u hU hZ4 (Or.inr (List.Mem.head _))
      have r5 := zpt_50 (b := x0b) hZ4 (by omega)
      have hZ4K : zC [50] Zs Z4 := zC_u hK hZ4 rfl
      intro μ9 e9
      replace e9 := e9.trans (zm_wI (Z := Z) (ν := ν) hZ4 (rfl : ((x0b : Nat) : Int) = x0b) ex2i (i3I (y := (12 + x7)) (i3A (show (12 : Int32) = i3 12 from rfl) (rfl : i3 x7 = i3 x7)) (by omega) (by omega) (by omega)) (zm_rd (Z := Z) (ν := ν) (k := 200) (rfl : ((x4 : Nat) : Int) = x4) (show ((0 : Nat) : Int) = 0 from rfl) (i3I (y := x7) (rfl : i3 x7 = i3 x7) (by omega) (by omega) (by omega))))
      subst e9
      refine wz_i0 (Eq.trans (i3NE (zm_rd (Z := Z) (ν := ν) (k := 200) (rfl : ((x4 : Nat) : Int) = x4) (show ((0 : Nat) : Int) = 0 from rfl) (i3I (y := x7) (rfl : i3 x7 = i3 x7) (by omega) (by omega) (by omega))) (show (-1 : Int32) = i3 (-1) from rfl) (by omega) (by omega) (by omega) (by omega)) (decide_eq_false (by omega))) ?_
      refine wz_i0 (i3O (n := 22) (i3A (show (17 : Int32) = i3 17 from rfl) (rfl : i3 x7 = i3 x7)) (by omega) (by omega) (by omega)) ?_
      obtain ⟨Z6, hZ6⟩ := zx (zu Z4 50 x0b x2ij (17 + x7) (-1))
      replace hP := zl_e hP hZ6
      have hZ6I := zH_u hZ4I hZ6 (lo := -1) (hi := 743) (by decide) (zrn_of (lo := 17) (n := 5) (by decide) (by decide +kernel) (by omega) (by omega)) (by omega) ⟨by decide, by decide⟩ (Or.inl (by decide)) rfl
      have hZ6U : zU [x0b] Zs Z6 := zU_u hZ4U hZ6 (Or.inr (List.Mem.head _))
      have r7 := zpt_50 (b := x0b) hZ6 (by omega)
      have hZ6K : zC [50] Zs Z6 := zC_u hZ4K hZ6 rfl
      intro μ9 e9
      replace e9 := e9.trans (zm_wI (Z := Z4) (ν := ν) hZ6 (rfl : ((x0b : Nat) : Int) = x0b) ex2i (i3I (y := (17 + x7)) (i3A (show (17 : Int32) = i3 17 from rfl) (rfl : i3 x7 = i3 x7)) (by omega) (by omega) (by omega)) (show (-1 : Int32) = i3 (-1) from rfl))
      subst e9
      obtain ⟨m2, rfl⟩ : ∃ m2, m = m2 + 1 := ⟨m - 1, by omega⟩
      exact wz_k1 ⟨m2, by omega, Z6, x5, x6, (x7 + 1), (zconso rfl (zconso rfl (zconso rfl (zconso rfl (zconso rfl (zconso (zvo (rfl : i3 x5 = i3 x5)) (zconso (zvo (rfl : i3 x6 = i3 x6)) (zconso (zvo (i3A (rfl : i3 x7 = i3 x7) (show (1 : Int32) = i3 1 from rfl))) (zconso rfl rfl))))))))), rfl, hZ6I, hZ6K, hZ6U, (zA_o (zA_o gAx4 hZ4 (fun q => absurd q.1 (by decide))) hZ6 (fun q => absurd q.1 (by decide))), by omega, by omega, by omega, by omega, by omega, by omega,  hP⟩
    · replace hP := zE_n hP h3
      refine wz_i0 (i3O (n := 6) (rfl : i3 x5 = i3 x5) (by omega) (by omega) (by omega)) ?_
      refine wz_i0 (i3O (n := 6) (zm_rd (Z := Z) (ν := ν) (k := 200) (rfl : ((x4 : Nat) : Int) = x4) (show ((0 : Nat) : Int) = 0 from rfl) (i3I (y := x7) (rfl : i3 x7 = i3 x7) (by omega) (by omega) (by omega))) (by omega) (by omega) (by omega)) ?_
      refine wz_i0 (i3O (n := 22) (i3A (show (12 : Int32) = i3 12 from rfl) (rfl : i3 x7 = i3 x7)) (by omega) (by omega) (by omega)) ?_
      obtain ⟨Z8, hZ8⟩ := zx (zu Z 50 x0b x2ij (12 + x7) (Z 200 x4 0 x7))
      replace hP := zl_e hP hZ8
      have hZ8I := zH_u hZ hZ8 (lo := -1) (hi := 4) (by decide) (zrn_of (lo := 12) (n := 5) (by decide) (by decide +kernel) (by omega) (by omega)) (by omega) ⟨by decide, by decide⟩ (Or.inl (by decide)) rfl
      have hZ8U : zU [x0b] Zs Z8 := zU_u hU hZ8 (Or.inr (List.Mem.head _))
      have r9 := zpt_50 (b := x0b) hZ8 (by omega)
      have hZ8K : zC [50] Zs Z8 := zC_u hK hZ8 rfl
      intro μ9 e9
      replace e9 := e9.trans (zm_wI (Z := Z) (ν := ν) hZ8 (rfl : ((x0b : Nat) : Int) = x0b) ex2i (i3I (y := (12 + x7)) (i3A (show (12 : Int32) = i3 12 from rfl) (rfl : i3 x7 = i3 x7)) (by omega) (by omega) (by omega)) (zm_rd (Z := Z) (ν := ν) (k := 200) (rfl : ((x4 : Nat) : Int) = x4) (show ((0 : Nat) : Int) = 0 from rfl) (i3I (y := x7) (rfl : i3 x7 = i3 x7) (by omega) (by omega) (by omega))))
      subst e9
      refine wz_i1 (Eq.trans (i3NE (zm_rd (Z := Z) (ν := ν) (k := 200) (rfl : ((x4 : Nat) : Int) = x4) (show ((0 : Nat) : Int) = 0 from rfl) (i3I (y := x7) (rfl : i3 x7 = i3 x7) (by omega) (by omega) (by omega))) (show (-1 : Int32) = i3 (-1) from rfl) (by omega) (by omega) (by omega) (by omega)) (decide_eq_true (by omega))) ?_
      refine wz_i0 (i3O (n := 22) (i3A (show (17 : Int32) = i3 17 from rfl) (rfl : i3 x7 = i3 x7)) (by omega) (by omega) (by omega)) ?_
      have r10 := zH_k hZ 40 x0b x5 (Z 200 x4 0 x7) (lo := 0) (hi := 12) (by decide) (zrc_40 (by omega) (by omega))
      obtain ⟨Z11, hZ11⟩ := zx (zu Z8 50 x0b x2ij (17 + x7) (x6 + (Z 40 x0b x5 (Z 200 x4 0 x7))))
      replace hP := zl_e hP hZ11
      have hZ11I := zH_u hZ8I hZ11 (lo := -1) (hi := 743) (by decide) (zrn_of (lo := 17) (n := 5) (by decide) (by decide +kernel) (by omega) (by omega)) (by omega) ⟨by decide, by decide⟩ (Or.inl (by decide)) rfl
      have hZ11U : zU [x0b] Zs Z11 := zU_u hZ8U hZ11 (Or.inr (List.Mem.head _))
      have r12 := zpt_50 (b := x0b) hZ11 (by omega)
      have hZ11K : zC [50] Zs Z11 := zC_u hZ8K hZ11 rfl
      intro μ9 e9
      replace e9 := e9.trans (zm_wI (Z := Z8) (ν := ν) hZ11 (rfl : ((x0b : Nat) : Int) = x0b) ex2i (i3I (y := (17 + x7)) (i3A (show (17 : Int32) = i3 17 from rfl) (rfl : i3 x7 = i3 x7)) (by omega) (by omega) (by omega)) (i3A (rfl : i3 x6 = i3 x6) (zm_rd (Z := Z) (ν := ν) (k := 40) (rfl : ((x0b : Nat) : Int) = x0b) (i3I (y := x5) (rfl : i3 x5 = i3 x5) (by omega) (by omega) (by omega)) (i3I (y := (Z 200 x4 0 x7)) (zm_rd (Z := Z) (ν := ν) (k := 200) (rfl : ((x4 : Nat) : Int) = x4) (show ((0 : Nat) : Int) = 0 from rfl) (i3I (y := x7) (rfl : i3 x7 = i3 x7) (by omega) (by omega) (by omega))) (by omega) (by omega) (by omega)))))
      subst e9
      obtain ⟨m2, rfl⟩ : ∃ m2, m = m2 + 1 := ⟨m - 1, by omega⟩
      exact wz_k1 ⟨m2, by omega, Z11, (Z 200 x4 0 x7), (x6 + (Z 40 x0b x5 (Z 200 x4 0 x7))), (x7 + 1), (zconso rfl (zconso rfl (zconso rfl (zconso rfl (zconso rfl (zconso (zvo (zm_rd (Z := Z) (ν := ν) (k := 200) (rfl : ((x4 : Nat) : Int) = x4) (show ((0 : Nat) : Int) = 0 from rfl) (i3I (y := x7) (rfl : i3 x7 = i3 x7) (by omega) (by omega) (by omega)))) (zconso (zvo (i3A (rfl : i3 x6 = i3 x6) (zm_rd (Z := Z) (ν := ν) (k := 40) (rfl : ((x0b : Nat) : Int) = x0b) (i3I (y := x5) (rfl : i3 x5 = i3 x5) (by omega) (by omega) (by omega)) (i3I (y := (Z 200 x4 0 x7)) (zm_rd (Z := Z) (ν := ν) (k := 200) (rfl : ((x4 : Nat) : Int) = x4) (show ((0 : Nat) : Int) = 0 from rfl) (i3I (y := x7) (rfl : i3 x7 = i3 x7) (by omega) (by omega) (by omega))) (by omega) (by omega) (by omega))))) (zconso (zvo (i3A (rfl : i3 x7 = i3 x7) (show (1 : Int32) = i3 1 from rfl))) (zconso rfl rfl))))))))), rfl, hZ11I, hZ11K, hZ11U, (zA_o (zA_o gAx4 hZ8 (fun q => absurd q.1 (by decide))) hZ11 (fun q => absurd q.1 (by decide))), by omega, by omega, by omega, by omega, by omega, by omega,  hP⟩
/- yX2_goIfDue -/
def zf_45 (Z : qz_Z) (n9 : Int) (a0b : Int) (a1 : Int) : qz_Z × Int := (if (Z 50 a0b a1 2) = 1 then (Z, n9) else (if (Z 50 a0b a1 3) = (Z 11 a0b 0 13) then (zlet (zu Z 50 a0b a1 3 (-1)) (fun Z6 => (zlet (zf_59 Z6 a0b a1) (fun v8 => (if v8 ≠ 0 then (zlet (zzi Z6 n9) (fun Z10 => (zlet (n9 + 1) (fun n12 => (zlet3 (zf_1056 Z10 n12 a0b v8 n9) (fun Z14 n17 v15 => (zlet (zu Z14 50 a0b a1 6 v15) (fun Z19 => (zlet (zu Z19 50 a0b a1 2 1) (fun Z21 => (zlet (zu Z21 50 a0b a1 7 (Z21 11 a0b 0 13)) (fun Z25 => (zlet (zu Z25 50 a0b a1 8 ((Z25 11 a0b 0 13) + (Z25 50 a0b a1 6))) (fun Z31 => (zlet (zu Z31 50 a0b a1 11 (w3 ((Z31 50 a0b a1 11) + 1))) (fun Z35 => (zlet4 (zl_45_1 a0b a1 n9 6 Z35 5 (Z35 11 a0b 0 13) 0) (fun Z42 y39 y40 y41 => (Z42, n17))))))))))))))))))) else (Z6, n9)))))) else (Z, n9)))
theorem sp_45 {s : zSM} {Z : qz_Z} {ν : qz_N} (hZ : zH s Z) (hs : s.1 = none) {n9 : Nat} (hn : ν.2.2.2.1 = n9) (a0b : Nat) {a1 : Int} (ga1 : 0 ≤ a1 ∧ a1 ≤ 3) (hM : s.2 + 0 ≤ 1000000000) : ∃ (Z1 : qz_Z) (ν1 : qz_N) (n1 : Nat), (Z1, (n1 : Int)) = zf_45 Z n9 a0b a1 ∧ (qf_45 [.inr (.inr (some (10, a0b, 0))), .inl (i3 a1)] (zm Z ν) = some (zm Z1 ν1, .inl none) ∧ zH s Z1 ∧ zL [50] [] n9 Z Z1 ∧ zU [a0b] Z Z1 ∧ ν1.2.2.2.1 = n1 ∧ zGl 5 ν ν1 ∧ n9 ≤ n1 ∧ n1 ≤ n9 + 2 ∧ zpt Z1 a0b + n1 ≤ zpt Z a0b + n9) := by
  obtain ⟨P, hP⟩ := zx (zf_45 Z n9 a0b a1)
  refine zc_Vn (Q := fun Z1 ν1 n1 => zH s Z1 ∧ zL [50] [] n9 Z Z1 ∧ zU [a0b] Z Z1 ∧ ν1.2.2.2.1 = n1 ∧ zGl 5 ν ν1 ∧ n9 ≤ n1 ∧ n1 ≤ n9 + 2 ∧ zpt Z1 a0b + n1 ≤ zpt Z a0b + n9) hP (fw_45 a0b (i3 a1) _ _ ?_)
  replace hP : zE P (zf_45 Z n9 a0b a1) := hP
  unfold zf_45 at hP
  refine wz_i0 (i3O (n := 4) (rfl : i3 a1 = i3 a1) (by omega) (by omega) (by omega)) ?_
  have r1 := zH_k hZ 50 a0b a1 2 (lo := 0) (hi := 1) (by decide) rfl
  refine wz_br (i3E (zm_rd (Z := Z) (ν := ν) (k := 50) (rfl : ((a0b : Nat) : Int) = a0b) (i3I (y := a1) (rfl : i3 a1 = i3 a1) (by omega) (by omega) (by omega)) (show ((2 : Nat) : Int) = 2 from rfl)) (show (1 : Int32) = i3 1 from rfl) (by omega) (by omega) (by omega) (by omega)) (fun h2 => ?_) (fun h2 => ?_)
  · replace hP := zE_p hP h2
    exact zlVn hP ⟨hZ, zL_r, zU_r, hn, zGl_r, by omega, by omega, by omega⟩
  · replace hP := zE_n hP h2
    have r3 := zH_k hZ 50 a0b a1 3 (lo := -1) (hi := 671) (by decide) rfl
    have r4 := zH_k hZ 11 a0b 0 13 (lo := 0) (hi := 671) (by decide) rfl
    refine wz_br (i3E (zm_rd (Z := Z) (ν := ν) (k := 50) (rfl : ((a0b : Nat) : Int) = a0b) (i3I (y := a1) (rfl : i3 a1 = i3 a1) (by omega) (by omega) (by omega)) (show ((3 : Nat) : Int) = 3 from rfl)) (zm_rd (Z := Z) (ν := ν) (k := 11) (rfl : ((a0b : Nat) : Int) = a0b) (show ((0 : Nat) : Int) = 0 from rfl) (show ((13 : Nat) : Int) = 13 from rfl)) (by omega) (by omega) (by omega) (by omega)) (fun h5 => ?_) (fun h5 => ?_)
    · replace hP := zE_p hP h5
      obtain ⟨Z6, hZ6⟩ := zx (zu Z 50 a0b a1 3 (-1))
      replace hP := zl_e hP hZ6
      have hZ6I := zH_u hZ hZ6 (lo := -1) (hi := 671) (by decide) rfl (by omega) ⟨by decide, by decide⟩ (Or.inl (by decide)) rfl
      have hZ6U : zU [a0b] Z Z6 := zU_u zU_r hZ6 (Or.inr (List.Mem.head _))
      have r7 := zpt_50w (b := a0b) hZ6 (by omega) (by omega)
      have hZ6K : zL [50] [] n9 Z Z6 := zL_u zL_r hZ6 (by decide)
      intro μ9 e9
      replace e9 := e9.trans (zm_wI (Z := Z) (ν := ν) hZ6 (rfl : ((a0b : Nat) : Int) = a0b) (i3I (y := a1) (rfl : i3 a1 = i3 a1) (by omega) (by omega) (by omega)) (show ((3 : Nat) : Int) = 3 from rfl) (show (-1 : Int32) = i3 (-1) from rfl))
      subst e9
      obtain ⟨v8, hv8, c9, lv8, uv8⟩ := sp_59 (ν := ν) hZ6I a0b (a1 := a1) (by omega) (zbh (c := 0) (k := 0) hM (Nat.le_of_ble_eq_true rfl))
      replace hP := zl_e hP hv8
      refine wz_cI_of (zas (zcons rfl (zcons (zvi (rfl : i3 a1 = i3 a1)) rfl)) c9) ?_
      clear c9
      refine wz_br (i3NE (rfl : i3 v8 = i3 v8) (show (0 : Int32) = i3 0 from rfl) (by omega) (by omega) (by omega) (by omega)) (fun h9 => ?_) (fun h9 => ?_)
      · replace hP := zE_p hP h9
        obtain ⟨Z10, hZ10⟩ := zx (zzr Z6 n9)
        obtain ⟨ν11, hν11⟩ := zx (nal ν 50 1 5 1 5)
        obtain ⟨n12, hn12⟩ : ∃ m : Nat, m = n9 + 1 := ⟨_, rfl⟩
        replace hP := zl_e hP (hZ10.trans zzi_e)
        replace hP := zl_e hP (show ((n12 : Nat) : Int) = ((n9 : Nat) : Int) + 1 from by omega)
        intro μ9 e9
        replace e9 := zal_e e9 hn hZ10 hν11
        subst e9
        rw [show qz_na (zm Z6 ν) = n9 from hn]
        have hZ10I := zH_z hZ6I hZ10 hs
        have hZ10K : zL [50] [] n9 Z Z10 := zL_z2 hZ6K (by omega) hZ10
        have hZ10U : zU [a0b] Z Z10 := zU_z hZ6U hZ10
        have r13 := zpt_z (b := a0b) hZ10
        have hnν11 := (nal_na hn hν11).trans hn12.symm
        have hGν11 := zGl_al (K := 5) zGl_r hν11 (by decide)
        have hSν11 := zSh_new hn hν11
        have gAν11 := zA_new (lo := -1) (hi := 4) hZ10 ⟨by decide, by decide⟩
        obtain ⟨Z14, ν16, n17, v15, hv15, c9, hZ14I, kZ14, jZ14, hnν16, gν16, b1ν16, b2ν16, lv15, uv15, aZ14_a2b⟩ := sp_1056 (ν := ν11) hZ10I hs hnν11 a0b (a1 := v8) (by omega) n9 hSν11 gAν11 (zbh (c := 0) (k := 0) hM (Nat.le_of_ble_eq_true rfl))
        have hZ14U : zU [a0b] Z Z14 := zU_t hZ10U jZ14 zU_b0
        have r18 := zpt_l (b := a0b) kZ14 (by decide)
        have hZ14K : zL [50] [] n9 Z Z14 := zL_t hZ10K kZ14 (by decide) (zL_b1 (Or.inr (by omega)) zL_b0) (by omega)
        replace hP := zl_e3 hP hv15
        refine wz_cI_of (zas (zcons rfl (zcons (zvi (rfl : i3 v8 = i3 v8)) (zcons rfl rfl))) c9) ?_
        clear c9 hv15
        have hGν16 := zGl_t (K := 5) hGν11 gν16
        obtain ⟨Z19, hZ19⟩ := zx (zu Z14 50 a0b a1 6 v15)
        replace hP := zl_e hP hZ19
        have hZ19I := zH_u hZ14I hZ19 (lo := -2147483648) (hi := 2147483647) (by decide) rfl (by omega) ⟨by decide, by decide⟩ (Or.inl (by decide)) rfl
        have hZ19U : zU [a0b] Z Z19 := zU_u hZ14U hZ19 (Or.inr (List.Mem.head _))
        have r20 := zpt_50 (b := a0b) hZ19 (by omega)
        have hZ19K : zL [50] [] n9 Z Z19 := zL_u hZ14K hZ19 (by decide)
        intro μ9 e9
        replace e9 := e9.trans (zm_wI (Z := Z14) (ν := ν16) hZ19 (rfl : ((a0b : Nat) : Int) = a0b) (i3I (y := a1) (rfl : i3 a1 = i3 a1) (by omega) (by omega) (by omega)) (show ((6 : Nat) : Int) = 6 from rfl) (rfl : i3 v15 = i3 v15))
        subst e9
        obtain ⟨Z21, hZ21⟩ := zx (zu Z19 50 a0b a1 2 1)
        replace hP := zl_e hP hZ21
        have hZ21I := zH_u hZ19I hZ21 (lo := 0) (hi := 1) (by decide) rfl (by omega) ⟨by decide, by decide⟩ (Or.inl (by decide)) rfl
        have hZ21U : zU [a0b] Z Z21 := zU_u hZ19U hZ21 (Or.inr (List.Mem.head _))
        have r22 := zpt_50 (b := a0b) hZ21 (by omega)
        have hZ21K : zL [50] [] n9 Z Z21 := zL_u hZ19K hZ21 (by decide)
        intro μ9 e9
        replace e9 := e9.trans (zm_wI (Z := Z19) (ν := ν16) hZ21 (rfl : ((a0b : Nat) : Int) = a0b) (i3I (y := a1) (rfl : i3 a1 = i3 a1) (by omega) (by omega) (by omega)) (show ((2 : Nat) : Int) = 2 from rfl) (show (1 : Int32) = i3 1 from rfl))
        subst e9
        have r23 := zH_k hZ21I 11 a0b 0 13 (lo := 0) (hi := 671) (by decide) rfl
        have q24 := (zu_ne (k' := 11) (b' := a0b) (i' := 0) (j' := 13) hZ21 (fun q => absurd q.1 (by decide))).trans ((zu_ne (k' := 11) (b' := a0b) (i' := 0) (j' := 13) hZ19 (fun q => absurd q.1 (by decide))).trans ((zL_e kZ14 11 a0b 0 13 (by decide) (by decide)).trans ((zz_o hZ10 (k := 11) (b := a0b) (i := 0) (j := 13) (by decide)).trans (zu_ne (k' := 11) (b' := a0b) (i' := 0) (j' := 13) hZ6 (fun q => absurd q.1 (by decide))))))
        obtain ⟨Z25, hZ25⟩ := zx (zu Z21 50 a0b a1 7 (Z21 11 a0b 0 13))
        replace hP := zl_e hP hZ25
        have hZ25I := zH_u hZ21I hZ25 (lo := -1) (hi := 671) (by decide) rfl (by omega) ⟨by decide, by decide⟩ (Or.inl (by decide)) rfl
        have hZ25U : zU [a0b] Z Z25 := zU_u hZ21U hZ25 (Or.inr (List.Mem.head _))
        have r26 := zpt_50 (b := a0b) hZ25 (by omega)
        have hZ25K : zL [50] [] n9 Z Z25 := zL_u hZ21K hZ25 (by decide)
        intro μ9 e9
        replace e9 := e9.trans (zm_wI (Z := Z21) (ν := ν16) hZ25 (rfl : ((a0b : Nat) : Int) = a0b) (i3I (y := a1) (rfl : i3 a1 = i3 a1) (by omega) (by omega) (by omega)) (show ((7 : Nat) : Int) = 7 from rfl) (zm_rd (Z := Z21) (ν := ν16) (k := 11) (rfl : ((a0b : Nat) : Int) = a0b) (show ((0 : Nat) : Int) = 0 from rfl) (show ((13 : Nat) : Int) = 13 from rfl)))
        subst e9
        have r27 := zH_k hZ25I 11 a0b 0 13 (lo := 0) (hi := 671) (by decide) rfl
        have q28 := zu_ne (k' := 11) (b' := a0b) (i' := 0) (j' := 13) hZ25 (fun q => absurd q.1 (by decide))
        have r29 := zH_f hZ25I 50 a0b a1 6
        have q30 := (zu_ne (k' := 50) (b' := a0b) (i' := a1) (j' := 6) hZ25 (fun q => absurd q.2.2.2 (by decide))).trans ((zu_ne (k' := 50) (b' := a0b) (i' := a1) (j' := 6) hZ21 (fun q => absurd q.2.2.2 (by decide))).trans (zu_at hZ19))
        obtain ⟨Z31, hZ31⟩ := zx (zu Z25 50 a0b a1 8 ((Z25 11 a0b 0 13) + (Z25 50 a0b a1 6)))
        replace hP := zl_e hP hZ31
        have hZ31I := zH_u hZ25I hZ31 (lo := -1) (hi := 743) (by decide) rfl (by omega) ⟨by decide, by decide⟩ (Or.inl (by decide)) rfl
        have hZ31U : zU [a0b] Z Z31 := zU_u hZ25U hZ31 (Or.inr (List.Mem.head _))
        have r32 := zpt_50 (b := a0b) hZ31 (by omega)
        have hZ31K : zL [50] [] n9 Z Z31 := zL_u hZ25K hZ31 (by decide)
        intro μ9 e9
        replace e9 := e9.trans (zm_wI (Z := Z25) (ν := ν16) hZ31 (rfl : ((a0b : Nat) : Int) = a0b) (i3I (y := a1) (rfl : i3 a1 = i3 a1) (by omega) (by omega) (by omega)) (show ((8 : Nat) : Int) = 8 from rfl) (i3A (zm_rd (Z := Z25) (ν := ν16) (k := 11) (rfl : ((a0b : Nat) : Int) = a0b) (show ((0 : Nat) : Int) = 0 from rfl) (show ((13 : Nat) : Int) = 13 from rfl)) (zm_rd (Z := Z25) (ν := ν16) (k := 50) (rfl : ((a0b : Nat) : Int) = a0b) (i3I (y := a1) (rfl : i3 a1 = i3 a1) (by omega) (by omega) (by omega)) (show ((6 : Nat) : Int) = 6 from rfl))))
        subst e9
        have r33 := zH_f hZ31I 50 a0b a1 11
        have r34 := w3_r ((Z31 50 a0b a1 11) + 1)
        obtain ⟨Z35, hZ35⟩ := zx (zu Z31 50 a0b a1 11 (w3 ((Z31 50 a0b a1 11) + 1)))
        replace hP := zl_e hP hZ35
        have hZ35I := zH_u hZ31I hZ35 (lo := -2147483648) (hi := 2147483647) (by decide) rfl (by omega) ⟨by decide, by decide⟩ (Or.inl (by decide)) rfl
        have hZ35U : zU [a0b] Z Z35 := zU_u hZ31U hZ35 (Or.inr (List.Mem.head _))
        have r36 := zpt_50 (b := a0b) hZ35 (by omega)
        have hZ35K : zL [50] [] n9 Z Z35 := zL_u hZ31K hZ35 (by decide)
        intro μ9 e9
        replace e9 := e9.trans (zm_wI (Z := Z31) (ν := ν16) hZ35 (rfl : ((a0b : Nat) : Int) = a0b) (i3I (y := a1) (rfl : i3 a1 = i3 a1) (by omega) (by omega) (by omega)) (show ((11 : Nat) : Int) = 11 from rfl) (i3W (i3A (zm_rd (Z := Z31) (ν := ν16) (k := 50) (rfl : ((a0b : Nat) : Int) = a0b) (i3I (y := a1) (rfl : i3 a1 = i3 a1) (by omega) (by omega) (by omega)) (show ((11 : Nat) : Int) = 11 from rfl)) (show (1 : Int32) = i3 1 from rfl))))
        subst e9
        have r37 := zH_k hZ35I 11 a0b 0 13 (lo := 0) (hi := 671) (by decide) rfl
        have q38 := (zu_ne (k' := 11) (b' := a0b) (i' := 0) (j' := 13) hZ35 (fun q => absurd q.1 (by decide))).trans (zu_ne (k' := 11) (b' := a0b) (i' := 0) (j' := 13) hZ31 (fun q => absurd q.1 (by decide)))
        refine sl_45_1 (ν := ν16) hZ35I (zbh (c := 0) (k := 0) hM (Nat.le_of_ble_eq_true rfl)) zC_r a0b _ (i3I (y := a1) (rfl : i3 a1 = i3 a1) (by omega) (by omega) (by omega)) (by omega) n9 (zSh_Gl hSν11 gν16) (zA_o (zA_o (zA_o (zA_o (zA_o aZ14_a2b hZ19 (fun q => absurd q.1 (by decide))) hZ21 (fun q => absurd q.1 (by decide))) hZ25 (fun q => absurd q.1 (by decide))) hZ31 (fun q => absurd q.1 (by decide))) hZ35 (fun q => absurd q.1 (by decide))) (x5 := 5) (by omega) (x6 := (Z35 11 a0b 0 13)) (by omega) (x7 := 0) (by omega) zU_r (gg := zpt Z35 a0b) (by omega) (by omega) (zconso rfl (zconso rfl (zconso rfl (zconso rfl (zconso rfl (zconso (zvo (show (5 : Int32) = i3 5 from rfl)) (zconso (zvo (zm_rd (Z := Z35) (ν := ν16) (k := 11) (rfl : ((a0b : Nat) : Int) = a0b) (show ((0 : Nat) : Int) = 0 from rfl) (show ((13 : Nat) : Int) = 13 from rfl))) (zconso (zvo (show (0 : Int32) = i3 0 from rfl)) (zconso rfl rfl))))))))) rfl ?_
        intro L43 Z42 y39 y40 y41 hL43 hZ42I kZ42 jZ42 aZ42_x4 gy39 gy40 gy41 gL43_0 gL43_1 q9
        replace hP := zl_e4 hP (Eq.symm q9)
        clear q9
        have hZ42U : zU [a0b] Z Z42 := zU_t hZ35U jZ42 (zU_b1 (List.Mem.head _) zU_b0)
        have hZ42K : zL [50] [] n9 Z Z42 := zL_c hZ35K kZ42 (by decide)
        refine fc_45_2  _ _ _ _ hL43 ?_
        exact zlVn hP ⟨hZ42I, hZ42K, hZ42U, hnν16, hGν16, by omega, by omega, by omega⟩
      · replace hP := zE_n hP h9
        exact zlVn hP ⟨hZ6I, hZ6K, hZ6U, hn, zGl_r, by omega, by omega, by omega⟩
    · replace hP := zE_n hP h5
      exact zlVn hP ⟨hZ, zL_r, zU_r, hn, zGl_r, by omega, by omega, by omega⟩
/- yX7_kindOf -/
def zf_135 (Z : qz_Z) (a0b : Int) (a1b : Int) (a1ij : Int) (a2b : Int) (a2ij : Int) : Int := (zlet (zf_100 Z a0b a2b a2ij) (fun v1 => (if v1 ≠ 3 then (if (Z 44 a2b a2ij 8) < 24 then (if (Z 51 a1b a1ij 1) < 1 then (-1) else (if (Z 44 a2b a2ij 9) = (-1) then (-1) else (if v1 ≤ (Z 44 a2b a2ij 9) then (-1) else 2))) else (if (Z 44 a2b a2ij 9) < 0 then (if (Z 51 a1b a1ij 1) < 1 then (-1) else (-1)) else (if 2 < (Z 44 a2b a2ij 9) then (if (Z 51 a1b a1ij 1) < 1 then (-1) else (-1)) else 1))) else 0)))
theorem sp_135 {s : zSM} {Z : qz_Z} {ν : qz_N} (hZ : zH s Z) (a0b : Nat) (a1b : Nat) (a1i : Nat) {a1ij : Int} (ea1i : (a1i : Int) = a1ij) (ga1i : 0 ≤ a1ij ∧ a1ij ≤ 1) (a2b : Nat) (a2i : Nat) {a2ij : Int} (ea2i : (a2i : Int) = a2ij) (ga2i : 0 ≤ a2ij ∧ a2ij ≤ 47) (hM : s.2 + 0 ≤ 1000000000) : ∃ P : Int, P = zf_135 Z a0b a1b a1ij a2b a2ij ∧ (qf_135 [.inr (.inr (some (10, a0b, 0))), .inr (.inr (some (51, a1b, a1i))), .inr (.inr (some (44, a2b, a2i)))] (zm Z ν) = some (zm Z ν, .inl (some (.inl (i3 P)))) ∧ -1 ≤ P ∧ P ≤ 2) := by
  obtain ⟨P, hP⟩ := zx (zf_135 Z a0b a1b a1ij a2b a2ij)
  refine zc_R (Q := fun P => -1 ≤ P ∧ P ≤ 2) hP (fw_135 a0b a1b a1i a2b a2i _ _ ?_)
  replace hP : zE P (zf_135 Z a0b a1b a1ij a2b a2ij) := hP
  unfold zf_135 at hP
  obtain ⟨v1, hv1, c9, lv1, uv1⟩ := sp_100 (ν := ν) hZ a0b a2b _ ea2i (by omega) (zbh (c := 0) (k := 0) hM (Nat.le_of_ble_eq_true rfl))
  replace hP := zl_e hP hv1
  refine wz_cI_of (zas (zcons rfl (zcons rfl rfl)) c9) ?_
  clear c9
  refine wz_br (i3NE (rfl : i3 v1 = i3 v1) (show (3 : Int32) = i3 3 from rfl) (by omega) (by omega) (by omega) (by omega)) (fun h2 => ?_) (fun h2 => ?_)
  · replace hP := zE_p hP h2
    have r3 := zH_k hZ 44 a2b a2ij 8 (lo := 0) (hi := 999) (by decide) rfl
    refine wz_br (i3L (zm_rd (Z := Z) (ν := ν) (k := 44) (rfl : ((a2b : Nat) : Int) = a2b) ea2i (show ((8 : Nat) : Int) = 8 from rfl)) (show (24 : Int32) = i3 24 from rfl) (by omega) (by omega) (by omega) (by omega)) (fun h4 => ?_) (fun h4 => ?_)
    · replace hP := zE_p hP h4
      have r5 := zH_k hZ 51 a1b a1ij 1 (lo := 0) (hi := 3) (by decide) rfl
      refine wz_br (i3L (zm_rd (Z := Z) (ν := ν) (k := 51) (rfl : ((a1b : Nat) : Int) = a1b) ea1i (show ((1 : Nat) : Int) = 1 from rfl)) (show (1 : Int32) = i3 1 from rfl) (by omega) (by omega) (by omega) (by omega)) (fun h6 => ?_) (fun h6 => ?_)
      · replace hP := zE_p hP h6
        exact zlR hP (show (-1 : Int32) = i3 (-1) from rfl) ⟨by omega, by omega⟩
      · replace hP := zE_n hP h6
        have r7 := zH_k hZ 44 a2b a2ij 9 (lo := -1) (hi := 3) (by decide) rfl
        refine wz_br (i3E (zm_rd (Z := Z) (ν := ν) (k := 44) (rfl : ((a2b : Nat) : Int) = a2b) ea2i (show ((9 : Nat) : Int) = 9 from rfl)) (show (-1 : Int32) = i3 (-1) from rfl) (by omega) (by omega) (by omega) (by omega)) (fun h8 => ?_) (fun h8 => ?_)
        · replace hP := zE_p hP h8
          exact zlR hP (show (-1 : Int32) = i3 (-1) from rfl) ⟨by omega, by omega⟩
        · replace hP := zE_n hP h8
          refine wz_br (i3Le (rfl : i3 v1 = i3 v1) (zm_rd (Z := Z) (ν := ν) (k := 44) (rfl : ((a2b : Nat) : Int) = a2b) ea2i (show ((9 : Nat) : Int) = 9 from rfl)) (by omega) (by omega) (by omega) (by omega)) (fun h9 => ?_) (fun h9 => ?_)
          · replace hP := zE_p hP h9
            exact zlR hP (show (-1 : Int32) = i3 (-1) from rfl) ⟨by omega, by omega⟩
          · replace hP := zE_n hP h9
            exact zlR hP (show (2 : Int32) = i3 2 from rfl) ⟨by omega, by omega⟩
    · replace hP := zE_n hP h4
      have r10 := zH_k hZ 44 a2b a2ij 9 (lo := -1) (hi := 3) (by decide) rfl
      refine wz_br (i3L (zm_rd (Z := Z) (ν := ν) (k := 44) (rfl : ((a2b : Nat) : Int) = a2b) ea2i (show ((9 : Nat) : Int) = 9 from rfl)) (show (0 : Int32) = i3 0 from rfl) (by omega) (by omega) (by omega) (by omega)) (fun h11 => ?_) (fun h11 => ?_)
      · replace hP := zE_p hP h11
        have r12 := zH_k hZ 51 a1b a1ij 1 (lo := 0) (hi := 3) (by decide) rfl
        refine wz_br (i3L (zm_rd (Z := Z) (ν := ν) (k := 51) (rfl : ((a1b : Nat) : Int) = a1b) ea1i (show ((1 : Nat) : Int) = 1 from rfl)) (show (1 : Int32) = i3 1 from rfl) (by omega) (by omega) (by omega) (by omega)) (fun h13 => ?_) (fun h13 => ?_)
        · replace hP := zE_p hP h13
          exact zlR hP (show (-1 : Int32) = i3 (-1) from rfl) ⟨by omega, by omega⟩
        · replace hP := zE_n hP h13
          refine wz_i1 (Eq.trans (i3E (zm_rd (Z := Z) (ν := ν) (k := 44) (rfl : ((a2b : Nat) : Int) = a2b) ea2i (show ((9 : Nat) : Int) = 9 from rfl)) (show (-1 : Int32) = i3 (-1) from rfl) (by omega) (by omega) (by omega) (by omega)) (decide_eq_true (by omega))) ?_
          exact zlR hP (show (-1 : Int32) = i3 (-1) from rfl) ⟨by omega, by omega⟩
      · replace hP := zE_n hP h11
        refine wz_br (i3L (show (2 : Int32) = i3 2 from rfl) (zm_rd (Z := Z) (ν := ν) (k := 44) (rfl : ((a2b : Nat) : Int) = a2b) ea2i (show ((9 : Nat) : Int) = 9 from rfl)) (by omega) (by omega) (by omega) (by omega)) (fun h14 => ?_) (fun h14 => ?_)
        · replace hP := zE_p hP h14
          have r15 := zH_k hZ 51 a1b a1ij 1 (lo := 0) (hi := 3) (by decide) rfl
          refine wz_br (i3L (zm_rd (Z := Z) (ν := ν) (k := 51) (rfl : ((a1b : Nat) : Int) = a1b) ea1i (show ((1 : Nat) : Int) = 1 from rfl)) (show (1 : Int32) = i3 1 from rfl) (by omega) (by omega) (by omega) (by omega)) (fun h16 => ?_) (fun h16 => ?_)
          · replace hP := zE_p hP h16
            exact zlR hP (show (-1 : Int32) = i3 (-1) from rfl) ⟨by omega, by omega⟩
          · replace hP := zE_n hP h16
            refine wz_i0 (Eq.trans (i3E (zm_rd (Z := Z) (ν := ν) (k := 44) (rfl : ((a2b : Nat) : Int) = a2b) ea2i (show ((9 : Nat) : Int) = 9 from rfl)) (show (-1 : Int32) = i3 (-1) from rfl) (by omega) (by omega) (by omega) (by omega)) (decide_eq_false (by omega))) ?_
            refine wz_i1 (Eq.trans (i3Le (rfl : i3 v1 = i3 v1) (zm_rd (Z := Z) (ν := ν) (k := 44) (rfl : ((a2b : Nat) : Int) = a2b) ea2i (show ((9 : Nat) : Int) = 9 from rfl)) (by omega) (by omega) (by omega) (by omega)) (decide_eq_true (by omega))) ?_
            exact zlR hP (show (-1 : Int32) = i3 (-1) from rfl) ⟨by omega, by omega⟩
        · replace hP := zE_n hP h14
          exact zlR hP (show (1 : Int32) = i3 1 from rfl) ⟨by omega, by omega⟩
  · replace hP := zE_n hP h2
    exact zlR hP (show (0 : Int32) = i3 0 from rfl) ⟨by omega, by omega⟩
/- yX7_look -/
def zl_136_1 (x0b : Int) (x3ij : Int) (x1 : Int) (x2 : Int) (x4 : Int) : Nat → qz_Z → Int → Int → qz_Z × Int × Int
  | 0, Z, x5, x6 => (Z, x5, x6)
  | m + 1, Z, x5, x6 => (if (Z 11 x0b 0 3) ≤ x6 then (Z, x5, x6) else (if (Z 44 x0b x6 12) ≠ x4 then zl_136_1 x0b x3ij x1 x2 x4 m Z x5 (x6 + 1) else (zlet (zf_135 Z x0b x0b x3ij x0b x6) (fun v5 => (if v5 = (-1) then zl_136_1 x0b x3ij x1 x2 x4 m Z x5 (x6 + 1) else (zlet (zu Z 52 x0b ((Z 11 x0b 0 11) % 24) 0 x1) (fun Z8 => (zlet (zu Z8 52 x0b ((Z 11 x0b 0 11) % 24) 1 (Z8 11 x0b 0 13)) (fun Z10 => (zlet (zu Z10 52 x0b ((Z 11 x0b 0 11) % 24) 2 x6) (fun Z11 => (zlet (zu Z11 52 x0b ((Z 11 x0b 0 11) % 24) 3 v5) (fun Z12 => (zlet (zu Z12 52 x0b ((Z 11 x0b 0 11) % 24) 4 x2) (fun Z13 => (zlet (zu Z13 52 x0b ((Z 11 x0b 0 11) % 24) 5 (Z13 44 x0b x6 9)) (fun Z15 => (zlet (zu Z15 11 x0b 0 11 ((Z15 11 x0b 0 11) + 1)) (fun Z18 => (if v5 ≠ 0 then (if v5 ≠ 1 then (zlet (zf_100 Z18 x0b x0b x6) (fun v21 => (zlet (zu Z18 44 x0b x6 9 v21) (fun Z22 => (if (Z22 13 x0b 0 3) ≠ 0 then (zlet (zu Z22 14 x0b 0 0 (w3 ((Z22 14 x0b 0 0) - (Z22 13 x0b 0 3)))) (fun Z27 => (zlet (zu Z27 14 x0b 0 7 (w3 ((Z27 14 x0b 0 7) + (Z22 13 x0b 0 3)))) (fun Z30 => (zlet (zu Z30 53 x0b ((Z30 11 x0b 0 12) % 60) 0 0) (fun Z32 => (zlet (zu Z32 53 x0b ((Z30 11 x0b 0 12) % 60) 1 7) (fun Z33 => (zlet (zu Z33 53 x0b ((Z30 11 x0b 0 12) % 60) 2 (Z22 13 x0b 0 3)) (fun Z34 => (zlet (zu Z34 53 x0b ((Z30 11 x0b 0 12) % 60) 3 x6) (fun Z35 => (zlet (zu Z35 53 x0b ((Z30 11 x0b 0 12) % 60) 4 (Z35 11 x0b 0 13)) (fun Z38 => (zlet (zu Z38 11 x0b 0 12 ((Z38 11 x0b 0 12) + 1)) (fun Z41 => zl_136_1 x0b x3ij x1 x2 x4 m Z41 (x5 + 1) (x6 + 1))))))))))))))))) else zl_136_1 x0b x3ij x1 x2 x4 m Z22 (x5 + 1) (x6 + 1)))))) else (zlet (zu Z18 44 x0b x6 9 3) (fun Z42 => (if (Z42 13 x0b 0 3) ≠ 0 then (zlet (zu Z42 14 x0b 0 0 (w3 ((Z42 14 x0b 0 0) - (Z42 13 x0b 0 3)))) (fun Z47 => (zlet (zu Z47 14 x0b 0 7 (w3 ((Z47 14 x0b 0 7) + (Z42 13 x0b 0 3)))) (fun Z50 => (zlet (zu Z50 53 x0b ((Z50 11 x0b 0 12) % 60) 0 0) (fun Z52 => (zlet (zu Z52 53 x0b ((Z50 11 x0b 0 12) % 60) 1 7) (fun Z53 => (zlet (zu Z53 53 x0b ((Z50 11 x0b 0 12) % 60) 2 (Z42 13 x0b 0 3)) (fun Z54 => (zlet (zu Z54 53 x0b ((Z50 11 x0b 0 12) % 60) 3 x6) (fun Z55 => (zlet (zu Z55 53 x0b ((Z50 11 x0b 0 12) % 60) 4 (Z55 11 x0b 0 13)) (fun Z58 => (zlet (zu Z58 11 x0b 0 12 ((Z58 11 x0b 0 12) + 1)) (fun Z61 => zl_136_1 x0b x3ij x1 x2 x4 m Z61 (x5 + 1) (x6 + 1))))))))))))))))) else zl_136_1 x0b x3ij x1 x2 x4 m Z42 (x5 + 1) (x6 + 1))))) else (zlet2 (zf_105 Z18 x0b x6 3) (fun Z62 v63 => (zlet (zu Z62 51 x0b x3ij 6 (w3 ((Z62 51 x0b x3ij 6) + 1))) (fun Z66 => (if (Z66 13 x0b 0 3) ≠ 0 then (zlet (zu Z66 14 x0b 0 0 (w3 ((Z66 14 x0b 0 0) - (Z66 13 x0b 0 3)))) (fun Z71 => (zlet (zu Z71 14 x0b 0 7 (w3 ((Z71 14 x0b 0 7) + (Z66 13 x0b 0 3)))) (fun Z74 => (zlet (zu Z74 53 x0b ((Z74 11 x0b 0 12) % 60) 0 0) (fun Z76 => (zlet (zu Z76 53 x0b ((Z74 11 x0b 0 12) % 60) 1 7) (fun Z77 => (zlet (zu Z77 53 x0b ((Z74 11 x0b 0 12) % 60) 2 (Z66 13 x0b 0 3)) (fun Z78 => (zlet (zu Z78 53 x0b ((Z74 11 x0b 0 12) % 60) 3 x6) (fun Z79 => (zlet (zu Z79 53 x0b ((Z74 11 x0b 0 12) % 60) 4 (Z79 11 x0b 0 13)) (fun Z82 => (zlet (zu Z82 11 x0b 0 12 ((Z82 11 x0b 0 12) + 1)) (fun Z85 => zl_136_1 x0b x3ij x1 x2 x4 m Z85 (x5 + 1) (x6 + 1))))))))))))))))) else zl_136_1 x0b x3ij x1 x2 x4 m Z66 (x5 + 1) (x6 + 1))))))))))))))))))))))))))
theorem sl_136_1 {s : zSM} {xM9 : Nat} {Zs Z : qz_Z} {ν : qz_N} (hZ : zH (zb s xM9) Z) (hM : s.2 + 3185 ≤ 1000000000) (hK : zC [14, 43, 44, 45, 46, 47, 48, 49, 51, 52, 53, 1111, 1112] Zs Z) (x0b : Nat) (x3i : Nat) {x3ij : Int} (ex3i : (x3i : Int) = x3ij) (gx3ij : 0 ≤ x3ij ∧ x3ij ≤ 1) {x1 : Int} (gx1 : 0 ≤ x1 ∧ x1 ≤ 1) {x2 : Int} (gx2 : 0 ≤ x2 ∧ x2 ≤ 9) {x4 : Int} (gx4 : -1 ≤ x4 ∧ x4 ≤ 8) {x5 : Int} (gx5 : 0 ≤ x5 ∧ x5 ≤ 48) {x6 : Int} (gx6 : 0 ≤ x6 ∧ x6 ≤ 48) (hU : zU [x0b] Zs Z) (hLtx0b : zLt x0b Z) (hx9 : xM9 + 65 * ((48 - x6).toNat) + 65 ≤ 3185) (gr0 : x5 ≤ x6) {k : wz_K} {R : wz_R} {L : qz_L} (hL : qz_fg [true, true, true, true, true, true, true, false, false] L = [some (.inr (.inr (some (10, x0b, 0)))), some (.inl (i3 x1)), some (.inl (i3 x2)), some (.inr (.inr (some (51, x0b, x3i)))), some (.inl (i3 x4)), some (.inl (i3 x5)), some (.inl (i3 x6)), none, none]) {T : qz_Z × Int × Int} (hP : zE T (zl_136_1 x0b x3ij x1 x2 x4 ((48 - x6).toNat + 1) Z x5 x6)) (hk : ∀ (L9 : qz_L) (Z9 : qz_Z) (yx5 yx6 : Int), qz_fg [true, false, false, true, true, true, false, false, false] L9 = [some (.inr (.inr (some (10, x0b, 0)))), none, none, some (.inr (.inr (some (51, x0b, x3i)))), some (.inl (i3 x4)), some (.inl (i3 yx5)), none, none, none] → zH (zb s 3185) Z9 → zC [14, 43, 44, 45, 46, 47, 48, 49, 51, 52, 53, 1111, 1112] Zs Z9 → zU [x0b] Zs Z9 → zLt x0b Z9 → (0 ≤ yx5 ∧ yx5 ≤ 48) → (0 ≤ yx6 ∧ yx6 ≤ 48) → (yx5 ≤ yx6) → zE T ((Z9, yx5, yx6)) → k 0 (L9, [], zm Z9 ν)) : wz_loop qb_136_1 65536 k R (L, [], zm Z ν) := by
  refine wz_lp sb_136_1 (fun m x => ∃ xM9 : Nat, ∃ Z : qz_Z, ∃ x5 : Int, ∃ x6 : Int, qz_fg [true, true, true, true, true, true, true, false, false] x.1 = [some (.inr (.inr (some (10, x0b, 0)))), some (.inl (i3 x1)), some (.inl (i3 x2)), some (.inr (.inr (some (51, x0b, x3i)))), some (.inl (i3 x4)), some (.inl (i3 x5)), some (.inl (i3 x6)), none, none] ∧ x.2 = ([], zm Z ν) ∧ xM9 + 65 * m + 65 ≤ 3185 ∧ zH (zb s xM9) Z ∧ zC [14, 43, 44, 45, 46, 47, 48, 49, 51, 52, 53, 1111, 1112] Zs Z ∧ zU [x0b] Zs Z ∧ zLt x0b Z ∧ m = (48 - x6).toNat ∧ (0 ≤ x5 ∧ x5 ≤ 48) ∧ (0 ≤ x6 ∧ x6 ≤ 48) ∧ (x5 ≤ x6) ∧ zE T (zl_136_1 x0b x3ij x1 x2 x4 (m + 1) Z x5 x6)) ?_ 65536 ((48 - x6).toNat) _ (by omega) ⟨xM9, Z, x5, x6, hL, rfl, hx9, hZ, hK, hU, hLtx0b, rfl, gx5, gx6, gr0, hP⟩
  clear hP gr0 gx5 gx6 hx9 hZ hK hU hLtx0b hL
  clear x5 x6
  clear Z
  clear xM9
  rintro m ⟨L, st, μ⟩ ⟨xM9, Z, x5, x6, hL, hx, hx9, hZ, hK, hU, hLtx0b, hm, gx5, gx6, gr0, hP⟩
  cases hx
  have hM9 : (zb s xM9).2 + 65 ≤ 1000000000 := by
    show s.2 + xM9 + 65 ≤ 1000000000
    omega
  refine fb_136_1 x0b (i3 x1) (i3 x2) x3i (i3 x4) (i3 x5) (i3 x6) _ _ _ _ hL ?_
  have r1 := zH_k hZ 11 x0b 0 3 (lo := 0) (hi := 48) (by decide) rfl
  refine wz_br (i3Le (zm_rd (Z := Z) (ν := ν) (k := 11) (rfl : ((x0b : Nat) : Int) = x0b) (show ((0 : Nat) : Int) = 0 from rfl) (show ((3 : Nat) : Int) = 3 from rfl)) (rfl : i3 x6 = i3 x6) (by omega) (by omega) (by omega) (by omega)) (fun h2 => ?_) (fun h2 => ?_)
  · replace hP := zE_p hP h2
    exact hk _ _ _ _ (zconso rfl (zconso rfl (zconso rfl (zconso rfl (zconso (zvo (rfl : i3 x4 = i3 x4)) (zconso (zvo (rfl : i3 x5 = i3 x5)) (zconso rfl (zconso rfl (zconso rfl rfl))))))))) (zbx0 hZ (by omega)) hK hU hLtx0b (by omega) (by omega) (by omega) hP
  · replace hP := zE_n hP h2
    refine wz_i0 (i3O (n := 48) (rfl : i3 x6 = i3 x6) (by omega) (by omega) (by omega)) ?_
    have r3 := zH_k hZ 44 x0b x6 12 (lo := -1) (hi := 6) (by decide) rfl
    refine wz_br (i3NE (zm_rd (Z := Z) (ν := ν) (k := 44) (rfl : ((x0b : Nat) : Int) = x0b) (i3I (y := x6) (rfl : i3 x6 = i3 x6) (by omega) (by omega) (by omega)) (show ((12 : Nat) : Int) = 12 from rfl)) (rfl : i3 x4 = i3 x4) (by omega) (by omega) (by omega) (by omega)) (fun h4 => ?_) (fun h4 => ?_)
    · replace hP := zE_p hP h4
      obtain ⟨m2, rfl⟩ : ∃ m2, m = m2 + 1 := ⟨m - 1, by omega⟩
      exact wz_k1 ⟨m2, by omega, xM9, Z, x5, (x6 + 1), (zconso rfl (zconso (zvo (rfl : i3 x1 = i3 x1)) (zconso (zvo (rfl : i3 x2 = i3 x2)) (zconso rfl (zconso (zvo (rfl : i3 x4 = i3 x4)) (zconso (zvo (rfl : i3 x5 = i3 x5)) (zconso (zvo (i3A (rfl : i3 x6 = i3 x6) (show (1 : Int32) = i3 1 from rfl))) (zconso rfl (zconso rfl rfl))))))))), rfl, by omega, hZ, hK, hU, hLtx0b, by omega, by omega, by omega, by omega,  hP⟩
    · replace hP := zE_n hP h4
      obtain ⟨v5, hv5, c9, lv5, uv5⟩ := sp_135 (ν := ν) hZ x0b x0b _ ex3i (by omega) x0b _ (i3I (y := x6) (rfl : i3 x6 = i3 x6) (by omega) (by omega) (by omega)) (by omega) (zbh (c := 0) (k := 0) hM9 (Nat.le_of_ble_eq_true rfl))
      replace hP := zl_e hP hv5
      refine wz_cI_of (zas (zcons rfl (zcons rfl (zcons rfl rfl))) c9) ?_
      clear c9
      refine wz_br (i3E (rfl : i3 v5 = i3 v5) (show (-1 : Int32) = i3 (-1) from rfl) (by omega) (by omega) (by omega) (by omega)) (fun h6 => ?_) (fun h6 => ?_)
      · replace hP := zE_p hP h6
        obtain ⟨m2, rfl⟩ : ∃ m2, m = m2 + 1 := ⟨m - 1, by omega⟩
        exact wz_k1 ⟨m2, by omega, xM9, Z, x5, (x6 + 1), (zconso rfl (zconso (zvo (rfl : i3 x1 = i3 x1)) (zconso (zvo (rfl : i3 x2 = i3 x2)) (zconso rfl (zconso (zvo (rfl : i3 x4 = i3 x4)) (zconso (zvo (rfl : i3 x5 = i3 x5)) (zconso (zvo (i3A (rfl : i3 x6 = i3 x6) (show (1 : Int32) = i3 1 from rfl))) (zconso rfl (zconso rfl rfl))))))))), rfl, by omega, hZ, hK, hU, hLtx0b, by omega, by omega, by omega, by omega,  hP⟩
      · replace hP := zE_n hP h6
        have r7 := zH_c11 hZ x0b (zbh (c := 0) (k := 0) hM9 (Nat.le_of_ble_eq_true rfl))
        refine wz_i0 (i3O (n := 24) (i3R (zm_rd (Z := Z) (ν := ν) (k := 11) (rfl : ((x0b : Nat) : Int) = x0b) (show ((0 : Nat) : Int) = 0 from rfl) (show ((11 : Nat) : Int) = 11 from rfl)) (show (24 : Int32) = i3 24 from rfl) (by omega) (by omega) (by omega) (by omega)) (by omega) (by omega) (by omega)) ?_
        obtain ⟨Z8, hZ8⟩ := zx (zu Z 52 x0b ((Z 11 x0b 0 11) % 24) 0 x1)
        replace hP := zl_e hP hZ8
        have hZ8I := zH_u hZ hZ8 (lo := 0) (hi := 1) (by decide) rfl (by omega) ⟨by decide, by decide⟩ (Or.inl (by decide)) rfl
        have hZ8U : zU [x0b] Zs Z8 := zU_u hU hZ8 (Or.inr (List.Mem.head _))
        have hZ8K : zC [14, 43, 44, 45, 46, 47, 48, 49, 51, 52, 53, 1111, 1112] Zs Z8 := zC_u hK hZ8 (by decide)
        intro μ9 e9
        replace e9 := e9.trans (zm_wI (Z := Z) (ν := ν) hZ8 (rfl : ((x0b : Nat) : Int) = x0b) (i3I (y := ((Z 11 x0b 0 11) % 24)) (i3R (zm_rd (Z := Z) (ν := ν) (k := 11) (rfl : ((x0b : Nat) : Int) = x0b) (show ((0 : Nat) : Int) = 0 from rfl) (show ((11 : Nat) : Int) = 11 from rfl)) (show (24 : Int32) = i3 24 from rfl) (by omega) (by omega) (by omega) (by omega)) (by omega) (by omega) (by omega)) (show ((0 : Nat) : Int) = 0 from rfl) (rfl : i3 x1 = i3 x1))
        subst e9
        have r9 := zH_k hZ8I 11 x0b 0 13 (lo := 0) (hi := 671) (by decide) rfl
        obtain ⟨Z10, hZ10⟩ := zx (zu Z8 52 x0b ((Z 11 x0b 0 11) % 24) 1 (Z8 11 x0b 0 13))
        replace hP := zl_e hP hZ10
        have hZ10I := zH_u hZ8I hZ10 (lo := 0) (hi := 671) (by decide) rfl (by omega) ⟨by decide, by decide⟩ (Or.inl (by decide)) rfl
        have hZ10U : zU [x0b] Zs Z10 := zU_u hZ8U hZ10 (Or.inr (List.Mem.head _))
        have hZ10K : zC [14, 43, 44, 45, 46, 47, 48, 49, 51, 52, 53, 1111, 1112] Zs Z10 := zC_u hZ8K hZ10 (by decide)
        intro μ9 e9
        replace e9 := e9.trans (zm_wI (Z := Z8) (ν := ν) hZ10 (rfl : ((x0b : Nat) : Int) = x0b) (i3I (y := ((Z 11 x0b 0 11) % 24)) (i3R (zm_rd (Z := Z) (ν := ν) (k := 11) (rfl : ((x0b : Nat) : Int) = x0b) (show ((0 : Nat) : Int) = 0 from rfl) (show ((11 : Nat) : Int) = 11 from rfl)) (show (24 : Int32) = i3 24 from rfl) (by omega) (by omega) (by omega) (by omega)) (by omega) (by omega) (by omega)) (show ((1 : Nat) : Int) = 1 from rfl) (zm_rd (Z := Z8) (ν := ν) (k := 11) (rfl : ((x0b : Nat) : Int) = x0b) (show ((0 : Nat) : Int) = 0 from rfl) (show ((13 : Nat) : Int) = 13 from rfl)))
        subst e9
        obtain ⟨Z11, hZ11⟩ := zx (zu Z10 52 x0b ((Z 11 x0b 0 11) % 24) 2 x6)
        replace hP := zl_e hP hZ11
        have hZ11I := zH_u hZ10I hZ11 (lo := 0) (hi := 47) (by decide) rfl (by omega) ⟨by decide, by decide⟩ (Or.inl (by decide)) rfl
        have hZ11U : zU [x0b] Zs Z11 := zU_u hZ10U hZ11 (Or.inr (List.Mem.head _))
        have hZ11K : zC [14, 43, 44, 45, 46, 47, 48, 49, 51, 52, 53, 1111, 1112] Zs Z11 := zC_u hZ10K hZ11 (by decide)
        intro μ9 e9
        replace e9 := e9.trans (zm_wI (Z := Z10) (ν := ν) hZ11 (rfl : ((x0b : Nat) : Int) = x0b) (i3I (y := ((Z 11 x0b 0 11) % 24)) (i3R (zm_rd (Z := Z) (ν := ν) (k := 11) (rfl : ((x0b : Nat) : Int) = x0b) (show ((0 : Nat) : Int) = 0 from rfl) (show ((11 : Nat) : Int) = 11 from rfl)) (show (24 : Int32) = i3 24 from rfl) (by omega) (by omega) (by omega) (by omega)) (by omega) (by omega) (by omega)) (show ((2 : Nat) : Int) = 2 from rfl) (rfl : i3 x6 = i3 x6))
        subst e9
        obtain ⟨Z12, hZ12⟩ := zx (zu Z11 52 x0b ((Z 11 x0b 0 11) % 24) 3 v5)
        replace hP := zl_e hP hZ12
        have hZ12I := zH_u hZ11I hZ12 (lo := 0) (hi := 2) (by decide) rfl (by omega) ⟨by decide, by decide⟩ (Or.inl (by decide)) rfl
        have hZ12U : zU [x0b] Zs Z12 := zU_u hZ11U hZ12 (Or.inr (List.Mem.head _))
        have hZ12K : zC [14, 43, 44, 45, 46, 47, 48, 49, 51, 52, 53, 1111, 1112] Zs Z12 := zC_u hZ11K hZ12 (by decide)
        intro μ9 e9
        replace e9 := e9.trans (zm_wI (Z := Z11) (ν := ν) hZ12 (rfl : ((x0b : Nat) : Int) = x0b) (i3I (y := ((Z 11 x0b 0 11) % 24)) (i3R (zm_rd (Z := Z) (ν := ν) (k := 11) (rfl : ((x0b : Nat) : Int) = x0b) (show ((0 : Nat) : Int) = 0 from rfl) (show ((11 : Nat) : Int) = 11 from rfl)) (show (24 : Int32) = i3 24 from rfl) (by omega) (by omega) (by omega) (by omega)) (by omega) (by omega) (by omega)) (show ((3 : Nat) : Int) = 3 from rfl) (rfl : i3 v5 = i3 v5))
        subst e9
        obtain ⟨Z13, hZ13⟩ := zx (zu Z12 52 x0b ((Z 11 x0b 0 11) % 24) 4 x2)
        replace hP := zl_e hP hZ13
        have hZ13I := zH_u hZ12I hZ13 (lo := 0) (hi := 9) (by decide) rfl (by omega) ⟨by decide, by decide⟩ (Or.inl (by decide)) rfl
        have hZ13U : zU [x0b] Zs Z13 := zU_u hZ12U hZ13 (Or.inr (List.Mem.head _))
        have hZ13K : zC [14, 43, 44, 45, 46, 47, 48, 49, 51, 52, 53, 1111, 1112] Zs Z13 := zC_u hZ12K hZ13 (by decide)
        intro μ9 e9
        replace e9 := e9.trans (zm_wI (Z := Z12) (ν := ν) hZ13 (rfl : ((x0b : Nat) : Int) = x0b) (i3I (y := ((Z 11 x0b 0 11) % 24)) (i3R (zm_rd (Z := Z) (ν := ν) (k := 11) (rfl : ((x0b : Nat) : Int) = x0b) (show ((0 : Nat) : Int) = 0 from rfl) (show ((11 : Nat) : Int) = 11 from rfl)) (show (24 : Int32) = i3 24 from rfl) (by omega) (by omega) (by omega) (by omega)) (by omega) (by omega) (by omega)) (show ((4 : Nat) : Int) = 4 from rfl) (rfl : i3 x2 = i3 x2))
        subst e9
        refine wz_i0 (i3O (n := 48) (rfl : i3 x6 = i3 x6) (by omega) (by omega) (by omega)) ?_
        have r14 := zH_k hZ13I 44 x0b x6 9 (lo := -1) (hi := 3) (by decide) rfl
        obtain ⟨Z15, hZ15⟩ := zx (zu Z13 52 x0b ((Z 11 x0b 0 11) % 24) 5 (Z13 44 x0b x6 9))
        replace hP := zl_e hP hZ15
        have hZ15I := zH_u hZ13I hZ15 (lo := -1) (hi := 3) (by decide) rfl (by omega) ⟨by decide, by decide⟩ (Or.inl (by decide)) rfl
        have hZ15U : zU [x0b] Zs Z15 := zU_u hZ13U hZ15 (Or.inr (List.Mem.head _))
        have hZ15K : zC [14, 43, 44, 45, 46, 47, 48, 49, 51, 52, 53, 1111, 1112] Zs Z15 := zC_u hZ13K hZ15 (by decide)
        intro μ9 e9
        replace e9 := e9.trans (zm_wI (Z := Z13) (ν := ν) hZ15 (rfl : ((x0b : Nat) : Int) = x0b) (i3I (y := ((Z 11 x0b 0 11) % 24)) (i3R (zm_rd (Z := Z) (ν := ν) (k := 11) (rfl : ((x0b : Nat) : Int) = x0b) (show ((0 : Nat) : Int) = 0 from rfl) (show ((11 : Nat) : Int) = 11 from rfl)) (show (24 : Int32) = i3 24 from rfl) (by omega) (by omega) (by omega) (by omega)) (by omega) (by omega) (by omega)) (show ((5 : Nat) : Int) = 5 from rfl) (zm_rd (Z := Z13) (ν := ν) (k := 44) (rfl : ((x0b : Nat) : Int) = x0b) (i3I (y := x6) (rfl : i3 x6 = i3 x6) (by omega) (by omega) (by omega)) (show ((9 : Nat) : Int) = 9 from rfl)))
        subst e9
        have r16 := zH_c11 hZ15I x0b (zbh (c := 0) (k := 0) hM9 (Nat.le_of_ble_eq_true rfl))
        have q17 := (zu_ne (k' := 11) (b' := x0b) (i' := 0) (j' := 11) hZ15 (fun q => absurd q.1 (by decide))).trans ((zu_ne (k' := 11) (b' := x0b) (i' := 0) (j' := 11) hZ13 (fun q => absurd q.1 (by decide))).trans ((zu_ne (k' := 11) (b' := x0b) (i' := 0) (j' := 11) hZ12 (fun q => absurd q.1 (by decide))).trans ((zu_ne (k' := 11) (b' := x0b) (i' := 0) (j' := 11) hZ11 (fun q => absurd q.1 (by decide))).trans ((zu_ne (k' := 11) (b' := x0b) (i' := 0) (j' := 11) hZ10 (fun q => absurd q.1 (by decide))).trans (zu_ne (k' := 11) (b' := x0b) (i' := 0) (j' := 11) hZ8 (fun q => absurd q.1 (by decide)))))))
        obtain ⟨Z18, hZ18⟩ := zx (zu Z15 11 x0b 0 11 ((Z15 11 x0b 0 11) + 1))
        replace hP := zl_e hP hZ18
        have hZ18I := zH_i11 hZ15I hZ18 (zbh (c := 0) (k := 1) hM9 (Nat.le_of_ble_eq_true rfl)) (by omega)
        have hZ18U : zU [x0b] Zs Z18 := zU_u hZ15U hZ18 (Or.inr (List.Mem.head _))
        have hZ18K : zC [14, 43, 44, 45, 46, 47, 48, 49, 51, 52, 53, 1111, 1112] Zs Z18 := zC_u hZ15K hZ18 (by decide)
        intro μ9 e9
        replace e9 := e9.trans (zm_wI (Z := Z15) (ν := ν) hZ18 (rfl : ((x0b : Nat) : Int) = x0b) (show ((0 : Nat) : Int) = 0 from rfl) (show ((11 : Nat) : Int) = 11 from rfl) (i3A (zm_rd (Z := Z15) (ν := ν) (k := 11) (rfl : ((x0b : Nat) : Int) = x0b) (show ((0 : Nat) : Int) = 0 from rfl) (show ((11 : Nat) : Int) = 11 from rfl)) (show (1 : Int32) = i3 1 from rfl)))
        subst e9
        refine wz_br (i3NE (rfl : i3 v5 = i3 v5) (show (0 : Int32) = i3 0 from rfl) (by omega) (by omega) (by omega) (by omega)) (fun h19 => ?_) (fun h19 => ?_)
        · replace hP := zE_p hP h19
          refine wz_br (i3NE (rfl : i3 v5 = i3 v5) (show (1 : Int32) = i3 1 from rfl) (by omega) (by omega) (by omega) (by omega)) (fun h20 => ?_) (fun h20 => ?_)
          · replace hP := zE_p hP h20
            obtain ⟨v21, hv21, c9, lv21, uv21⟩ := sp_100 (ν := ν) hZ18I x0b x0b _ (i3I (y := x6) (rfl : i3 x6 = i3 x6) (by omega) (by omega) (by omega)) (by omega) (zbh (c := 1) (k := 0) hM9 (Nat.le_of_ble_eq_true rfl))
            replace hP := zl_e hP hv21
            refine wz_cI_of (zas (zcons rfl (zcons rfl rfl)) c9) ?_
            clear c9
            obtain ⟨Z22, hZ22⟩ := zx (zu Z18 44 x0b x6 9 v21)
            replace hP := zl_e hP hZ22
            have hZ22I := zH_u hZ18I hZ22 (lo := -1) (hi := 3) (by decide) rfl (by omega) ⟨by decide, by decide⟩ (Or.inl (by decide)) rfl
            have hZ22U : zU [x0b] Zs Z22 := zU_u hZ18U hZ22 (Or.inr (List.Mem.head _))
            have hZ22K : zC [14, 43, 44, 45, 46, 47, 48, 49, 51, 52, 53, 1111, 1112] Zs Z22 := zC_u hZ18K hZ22 (by decide)
            intro μ9 e9
            replace e9 := e9.trans (zm_wI (Z := Z18) (ν := ν) hZ22 (rfl : ((x0b : Nat) : Int) = x0b) (i3I (y := x6) (rfl : i3 x6 = i3 x6) (by omega) (by omega) (by omega)) (show ((9 : Nat) : Int) = 9 from rfl) (rfl : i3 v21 = i3 v21))
            subst e9
            have r23 := zH_k hZ22I 13 x0b 0 3 (lo := 0) (hi := 99999) (by decide) rfl
            refine wz_br (i3NE (zm_rd (Z := Z22) (ν := ν) (k := 13) (rfl : ((x0b : Nat) : Int) = x0b) (show ((0 : Nat) : Int) = 0 from rfl) (show ((3 : Nat) : Int) = 3 from rfl)) (show (0 : Int32) = i3 0 from rfl) (by omega) (by omega) (by omega) (by omega)) (fun h24 => ?_) (fun h24 => ?_)
            · replace hP := zE_p hP h24
              have r25 := zH_f hZ22I 14 x0b 0 0
              have r26 := w3_r ((Z22 14 x0b 0 0) - (Z22 13 x0b 0 3))
              obtain ⟨Z27, hZ27⟩ := zx (zu Z22 14 x0b 0 0 (w3 ((Z22 14 x0b 0 0) - (Z22 13 x0b 0 3))))
              replace hP := zl_e hP hZ27
              have hZ27I := zH_u hZ22I hZ27 (lo := -2147483648) (hi := 2147483647) (by decide) rfl (by omega) ⟨by decide, by decide⟩ (Or.inl (by decide)) rfl
              have hZ27U : zU [x0b] Zs Z27 := zU_u hZ22U hZ27 (Or.inr (List.Mem.head _))
              have hZ27K : zC [14, 43, 44, 45, 46, 47, 48, 49, 51, 52, 53, 1111, 1112] Zs Z27 := zC_u hZ22K hZ27 (by decide)
              intro μ9 e9
              replace e9 := e9.trans (zm_wI (Z := Z22) (ν := ν) hZ27 (rfl : ((x0b : Nat) : Int) = x0b) (show ((0 : Nat) : Int) = 0 from rfl) (show ((0 : Nat) : Int) = 0 from rfl) (i3W (i3S (zm_rd (Z := Z22) (ν := ν) (k := 14) (rfl : ((x0b : Nat) : Int) = x0b) (show ((0 : Nat) : Int) = 0 from rfl) (show ((0 : Nat) : Int) = 0 from rfl)) (zm_rd (Z := Z22) (ν := ν) (k := 13) (rfl : ((x0b : Nat) : Int) = x0b) (show ((0 : Nat) : Int) = 0 from rfl) (show ((3 : Nat) : Int) = 3 from rfl)))))
              subst e9
              have r28 := zH_f hZ27I 14 x0b 0 7
              have r29 := w3_r ((Z27 14 x0b 0 7) + (Z22 13 x0b 0 3))
              obtain ⟨Z30, hZ30⟩ := zx (zu Z27 14 x0b 0 7 (w3 ((Z27 14 x0b 0 7) + (Z22 13 x0b 0 3))))
              replace hP := zl_e hP hZ30
              have hZ30I := zH_u hZ27I hZ30 (lo := -2147483648) (hi := 2147483647) (by decide) rfl (by omega) ⟨by decide, by decide⟩ (Or.inl (by decide)) rfl
              have hZ30U : zU [x0b] Zs Z30 := zU_u hZ27U hZ30 (Or.inr (List.Mem.head _))
              have hZ30K : zC [14, 43, 44, 45, 46, 47, 48, 49, 51, 52, 53, 1111, 1112] Zs Z30 := zC_u hZ27K hZ30 (by decide)
              intro μ9 e9
              replace e9 := e9.trans (zm_wI (Z := Z27) (ν := ν) hZ30 (rfl : ((x0b : Nat) : Int) = x0b) (show ((0 : Nat) : Int) = 0 from rfl) (show ((7 : Nat) : Int) = 7 from rfl) (i3W (i3A (zm_rd (Z := Z27) (ν := ν) (k := 14) (rfl : ((x0b : Nat) : Int) = x0b) (show ((0 : Nat) : Int) = 0 from rfl) (show ((7 : Nat) : Int) = 7 from rfl)) (zm_rd (Z := Z22) (ν := ν) (k := 13) (rfl : ((x0b : Nat) : Int) = x0b) (show ((0 : Nat) : Int) = 0 from rfl) (show ((3 : Nat) : Int) = 3 from rfl)))))
              subst e9
              have r31 := zH_c12 hZ30I x0b (zbh (c := 1) (k := 0) hM9 (Nat.le_of_ble_eq_true rfl))
              refine wz_i0 (i3O (n := 60) (i3R (zm_rd (Z := Z30) (ν := ν) (k := 11) (rfl : ((x0b : Nat) : Int) = x0b) (show ((0 : Nat) : Int) = 0 from rfl) (show ((12 : Nat) : Int) = 12 from rfl)) (show (60 : Int32) = i3 60 from rfl) (by omega) (by omega) (by omega) (by omega)) (by omega) (by omega) (by omega)) ?_
              obtain ⟨Z32, hZ32⟩ := zx (zu Z30 53 x0b ((Z30 11 x0b 0 12) % 60) 0 0)
              replace hP := zl_e hP hZ32
              have hZ32I := zH_0 hZ30I hZ32 (by decide) (Or.inl (by decide))
              have hZ32U : zU [x0b] Zs Z32 := zU_u hZ30U hZ32 (Or.inr (List.Mem.head _))
              have hZ32K : zC [14, 43, 44, 45, 46, 47, 48, 49, 51, 52, 53, 1111, 1112] Zs Z32 := zC_u hZ30K hZ32 (by decide)
              intro μ9 e9
              replace e9 := e9.trans (zm_wI (Z := Z30) (ν := ν) hZ32 (rfl : ((x0b : Nat) : Int) = x0b) (i3I (y := ((Z30 11 x0b 0 12) % 60)) (i3R (zm_rd (Z := Z30) (ν := ν) (k := 11) (rfl : ((x0b : Nat) : Int) = x0b) (show ((0 : Nat) : Int) = 0 from rfl) (show ((12 : Nat) : Int) = 12 from rfl)) (show (60 : Int32) = i3 60 from rfl) (by omega) (by omega) (by omega) (by omega)) (by omega) (by omega) (by omega)) (show ((0 : Nat) : Int) = 0 from rfl) (show (0 : Int32) = i3 0 from rfl))
              subst e9
              obtain ⟨Z33, hZ33⟩ := zx (zu Z32 53 x0b ((Z30 11 x0b 0 12) % 60) 1 7)
              replace hP := zl_e hP hZ33
              have hZ33I := zH_u hZ32I hZ33 (lo := -2147483648) (hi := 2147483647) (by decide) rfl (by omega) ⟨by decide, by decide⟩ (Or.inl (by decide)) rfl
              have hZ33U : zU [x0b] Zs Z33 := zU_u hZ32U hZ33 (Or.inr (List.Mem.head _))
              have hZ33K : zC [14, 43, 44, 45, 46, 47, 48, 49, 51, 52, 53, 1111, 1112] Zs Z33 := zC_u hZ32K hZ33 (by decide)
              intro μ9 e9
              replace e9 := e9.trans (zm_wI (Z := Z32) (ν := ν) hZ33 (rfl : ((x0b : Nat) : Int) = x0b) (i3I (y := ((Z30 11 x0b 0 12) % 60)) (i3R (zm_rd (Z := Z30) (ν := ν) (k := 11) (rfl : ((x0b : Nat) : Int) = x0b) (show ((0 : Nat) : Int) = 0 from rfl) (show ((12 : Nat) : Int) = 12 from rfl)) (show (60 : Int32) = i3 60 from rfl) (by omega) (by omega) (by omega) (by omega)) (by omega) (by omega) (by omega)) (show ((1 : Nat) : Int) = 1 from rfl) (show (7 : Int32) = i3 7 from rfl))
              subst e9
              obtain ⟨Z34, hZ34⟩ := zx (zu Z33 53 x0b ((Z30 11 x0b 0 12) % 60) 2 (Z22 13 x0b 0 3))
              replace hP := zl_e hP hZ34
              have hZ34I := zH_u hZ33I hZ34 (lo := -2147483648) (hi := 2147483647) (by decide) rfl (by omega) ⟨by decide, by decide⟩ (Or.inl (by decide)) rfl
              have hZ34U : zU [x0b] Zs Z34 := zU_u hZ33U hZ34 (Or.inr (List.Mem.head _))
              have hZ34K : zC [14, 43, 44, 45, 46, 47, 48, 49, 51, 52, 53, 1111, 1112] Zs Z34 := zC_u hZ33K hZ34 (by decide)
              intro μ9 e9
              replace e9 := e9.trans (zm_wI (Z := Z33) (ν := ν) hZ34 (rfl : ((x0b : Nat) : Int) = x0b) (i3I (y := ((Z30 11 x0b 0 12) % 60)) (i3R (zm_rd (Z := Z30) (ν := ν) (k := 11) (rfl : ((x0b : Nat) : Int) = x0b) (show ((0 : Nat) : Int) = 0 from rfl) (show ((12 : Nat) : Int) = 12 from rfl)) (show (60 : Int32) = i3 60 from rfl) (by omega) (by omega) (by omega) (by omega)) (by omega) (by omega) (by omega)) (show ((2 : Nat) : Int) = 2 from rfl) (zm_rd (Z := Z22) (ν := ν) (k := 13) (rfl : ((x0b : Nat) : Int) = x0b) (show ((0 : Nat) : Int) = 0 from rfl) (show ((3 : Nat) : Int) = 3 from rfl)))
              subst e9
              obtain ⟨Z35, hZ35⟩ := zx (zu Z34 53 x0b ((Z30 11 x0b 0 12) % 60) 3 x6)
              replace hP := zl_e hP hZ35
              have hZ35I := zH_u hZ34I hZ35 (lo := -2147483648) (hi := 2147483647) (by decide) rfl (by omega) ⟨by decide, by decide⟩ (Or.inl (by decide)) rfl
              have hZ35U : zU [x0b] Zs Z35 := zU_u hZ34U hZ35 (Or.inr (List.Mem.head _))
              have hZ35K : zC [14, 43, 44, 45, 46, 47, 48, 49, 51, 52, 53, 1111, 1112] Zs Z35 := zC_u hZ34K hZ35 (by decide)
              intro μ9 e9
              replace e9 := e9.trans (zm_wI (Z := Z34) (ν := ν) hZ35 (rfl : ((x0b : Nat) : Int) = x0b) (i3I (y := ((Z30 11 x0b 0 12) % 60)) (i3R (zm_rd (Z := Z30) (ν := ν) (k := 11) (rfl : ((x0b : Nat) : Int) = x0b) (show ((0 : Nat) : Int) = 0 from rfl) (show ((12 : Nat) : Int) = 12 from rfl)) (show (60 : Int32) = i3 60 from rfl) (by omega) (by omega) (by omega) (by omega)) (by omega) (by omega) (by omega)) (show ((3 : Nat) : Int) = 3 from rfl) (rfl : i3 x6 = i3 x6))
              subst e9
              have r36 := zH_k hZ35I 11 x0b 0 13 (lo := 0) (hi := 671) (by decide) rfl
              have q37 := (zu_ne (k' := 11) (b' := x0b) (i' := 0) (j' := 13) hZ35 (fun q => absurd q.1 (by decide))).trans ((zu_ne (k' := 11) (b' := x0b) (i' := 0) (j' := 13) hZ34 (fun q => absurd q.1 (by decide))).trans ((zu_ne (k' := 11) (b' := x0b) (i' := 0) (j' := 13) hZ33 (fun q => absurd q.1 (by decide))).trans ((zu_ne (k' := 11) (b' := x0b) (i' := 0) (j' := 13) hZ32 (fun q => absurd q.1 (by decide))).trans ((zu_ne (k' := 11) (b' := x0b) (i' := 0) (j' := 13) hZ30 (fun q => absurd q.1 (by decide))).trans ((zu_ne (k' := 11) (b' := x0b) (i' := 0) (j' := 13) hZ27 (fun q => absurd q.1 (by decide))).trans ((zu_ne (k' := 11) (b' := x0b) (i' := 0) (j' := 13) hZ22 (fun q => absurd q.1 (by decide))).trans ((zu_ne (k' := 11) (b' := x0b) (i' := 0) (j' := 13) hZ18 (fun q => absurd q.2.2.2 (by decide))).trans ((zu_ne (k' := 11) (b' := x0b) (i' := 0) (j' := 13) hZ15 (fun q => absurd q.1 (by decide))).trans ((zu_ne (k' := 11) (b' := x0b) (i' := 0) (j' := 13) hZ13 (fun q => absurd q.1 (by decide))).trans ((zu_ne (k' := 11) (b' := x0b) (i' := 0) (j' := 13) hZ12 (fun q => absurd q.1 (by decide))).trans ((zu_ne (k' := 11) (b' := x0b) (i' := 0) (j' := 13) hZ11 (fun q => absurd q.1 (by decide))).trans (zu_ne (k' := 11) (b' := x0b) (i' := 0) (j' := 13) hZ10 (fun q => absurd q.1 (by decide))))))))))))))
              obtain ⟨Z38, hZ38⟩ := zx (zu Z35 53 x0b ((Z30 11 x0b 0 12) % 60) 4 (Z35 11 x0b 0 13))
              replace hP := zl_e hP hZ38
              have hZ38I := zH_u hZ35I hZ38 (lo := -2147483648) (hi := 2147483647) (by decide) rfl (by omega) ⟨by decide, by decide⟩ (Or.inl (by decide)) rfl
              have hZ38U : zU [x0b] Zs Z38 := zU_u hZ35U hZ38 (Or.inr (List.Mem.head _))
              have hZ38K : zC [14, 43, 44, 45, 46, 47, 48, 49, 51, 52, 53, 1111, 1112] Zs Z38 := zC_u hZ35K hZ38 (by decide)
              intro μ9 e9
              replace e9 := e9.trans (zm_wI (Z := Z35) (ν := ν) hZ38 (rfl : ((x0b : Nat) : Int) = x0b) (i3I (y := ((Z30 11 x0b 0 12) % 60)) (i3R (zm_rd (Z := Z30) (ν := ν) (k := 11) (rfl : ((x0b : Nat) : Int) = x0b) (show ((0 : Nat) : Int) = 0 from rfl) (show ((12 : Nat) : Int) = 12 from rfl)) (show (60 : Int32) = i3 60 from rfl) (by omega) (by omega) (by omega) (by omega)) (by omega) (by omega) (by omega)) (show ((4 : Nat) : Int) = 4 from rfl) (zm_rd (Z := Z35) (ν := ν) (k := 11) (rfl : ((x0b : Nat) : Int) = x0b) (show ((0 : Nat) : Int) = 0 from rfl) (show ((13 : Nat) : Int) = 13 from rfl)))
              subst e9
              have r39 := zH_c12 hZ38I x0b (zbh (c := 1) (k := 0) hM9 (Nat.le_of_ble_eq_true rfl))
              have q40 := (zu_ne (k' := 11) (b' := x0b) (i' := 0) (j' := 12) hZ38 (fun q => absurd q.1 (by decide))).trans ((zu_ne (k' := 11) (b' := x0b) (i' := 0) (j' := 12) hZ35 (fun q => absurd q.1 (by decide))).trans ((zu_ne (k' := 11) (b' := x0b) (i' := 0) (j' := 12) hZ34 (fun q => absurd q.1 (by decide))).trans ((zu_ne (k' := 11) (b' := x0b) (i' := 0) (j' := 12) hZ33 (fun q => absurd q.1 (by decide))).trans (zu_ne (k' := 11) (b' := x0b) (i' := 0) (j' := 12) hZ32 (fun q => absurd q.1 (by decide))))))
              obtain ⟨Z41, hZ41⟩ := zx (zu Z38 11 x0b 0 12 ((Z38 11 x0b 0 12) + 1))
              replace hP := zl_e hP hZ41
              have hZ41I := zH_i12 hZ38I hZ41 (zbh (c := 1) (k := 1) hM9 (Nat.le_of_ble_eq_true rfl)) (by omega)
              replace hZ41I := zbt (c := 2) hZ41I rfl
              have hZ41U : zU [x0b] Zs Z41 := zU_u hZ38U hZ41 (Or.inr (List.Mem.head _))
              have hZ41K : zC [14, 43, 44, 45, 46, 47, 48, 49, 51, 52, 53, 1111, 1112] Zs Z41 := zC_u hZ38K hZ41 (by decide)
              intro μ9 e9
              replace e9 := e9.trans (zm_wI (Z := Z38) (ν := ν) hZ41 (rfl : ((x0b : Nat) : Int) = x0b) (show ((0 : Nat) : Int) = 0 from rfl) (show ((12 : Nat) : Int) = 12 from rfl) (i3A (zm_rd (Z := Z38) (ν := ν) (k := 11) (rfl : ((x0b : Nat) : Int) = x0b) (show ((0 : Nat) : Int) = 0 from rfl) (show ((12 : Nat) : Int) = 12 from rfl)) (show (1 : Int32) = i3 1 from rfl)))
              subst e9
              obtain ⟨m2, rfl⟩ : ∃ m2, m = m2 + 1 := ⟨m - 1, by omega⟩
              exact wz_k1 ⟨m2, by omega, xM9 + 2, Z41, (x5 + 1), (x6 + 1), (zconso rfl (zconso (zvo (rfl : i3 x1 = i3 x1)) (zconso (zvo (rfl : i3 x2 = i3 x2)) (zconso rfl (zconso (zvo (rfl : i3 x4 = i3 x4)) (zconso (zvo (i3A (rfl : i3 x5 = i3 x5) (show (1 : Int32) = i3 1 from rfl))) (zconso (zvo (i3A (rfl : i3 x6 = i3 x6) (show (1 : Int32) = i3 1 from rfl))) (zconso rfl (zconso rfl rfl))))))))), rfl, by omega, (zbt hZ41I rfl), hZ41K, hZ41U, (zLt_o (zLt_o (zLt_o (zLt_o (zLt_o (zLt_o (zLt_o (zLt_o (zLt_o (zLt_o (zLt_o (zLt_o (zLt_o (zLt_o (zLt_o (zLt_o hLtx0b hZ8 ⟨by decide, .inl (by decide)⟩) hZ10 ⟨by decide, .inl (by decide)⟩) hZ11 ⟨by decide, .inl (by decide)⟩) hZ12 ⟨by decide, .inl (by decide)⟩) hZ13 ⟨by decide, .inl (by decide)⟩) hZ15 ⟨by decide, .inl (by decide)⟩) hZ18 ⟨by decide, .inl (by decide)⟩) hZ22 ⟨by decide, .inl (by decide)⟩) hZ27 ⟨by decide, .inl (by decide)⟩) hZ30 ⟨by decide, .inl (by decide)⟩) hZ32 ⟨by decide, .inl (by decide)⟩) hZ33 ⟨by decide, .inl (by decide)⟩) hZ34 ⟨by decide, .inl (by decide)⟩) hZ35 ⟨by decide, .inl (by decide)⟩) hZ38 ⟨by decide, .inl (by decide)⟩) hZ41 ⟨by decide, .inl (by decide)⟩), by omega, by omega, by omega, by omega,  hP⟩
            · replace hP := zE_n hP h24
              obtain ⟨m2, rfl⟩ : ∃ m2, m = m2 + 1 := ⟨m - 1, by omega⟩
              exact wz_k1 ⟨m2, by omega, xM9 + 1, Z22, (x5 + 1), (x6 + 1), (zconso rfl (zconso (zvo (rfl : i3 x1 = i3 x1)) (zconso (zvo (rfl : i3 x2 = i3 x2)) (zconso rfl (zconso (zvo (rfl : i3 x4 = i3 x4)) (zconso (zvo (i3A (rfl : i3 x5 = i3 x5) (show (1 : Int32) = i3 1 from rfl))) (zconso (zvo (i3A (rfl : i3 x6 = i3 x6) (show (1 : Int32) = i3 1 from rfl))) (zconso rfl (zconso rfl rfl))))))))), rfl, by omega, (zbt hZ22I rfl), hZ22K, hZ22U, (zLt_o (zLt_o (zLt_o (zLt_o (zLt_o (zLt_o (zLt_o (zLt_o hLtx0b hZ8 ⟨by decide, .inl (by decide)⟩) hZ10 ⟨by decide, .inl (by decide)⟩) hZ11 ⟨by decide, .inl (by decide)⟩) hZ12 ⟨by decide, .inl (by decide)⟩) hZ13 ⟨by decide, .inl (by decide)⟩) hZ15 ⟨by decide, .inl (by decide)⟩) hZ18 ⟨by decide, .inl (by decide)⟩) hZ22 ⟨by decide, .inl (by decide)⟩), by omega, by omega, by omega, by omega,  hP⟩
          · replace hP := zE_n hP h20
            obtain ⟨Z42, hZ42⟩ := zx (zu Z18 44 x0b x6 9 3)
            replace hP := zl_e hP hZ42
            have hZ42I := zH_u hZ18I hZ42 (lo := -1) (hi := 3) (by decide) rfl (by omega) ⟨by decide, by decide⟩ (Or.inl (by decide)) rfl
            have hZ42U : zU [x0b] Zs Z42 := zU_u hZ18U hZ42 (Or.inr (List.Mem.head _))
            have hZ42K : zC [14, 43, 44, 45, 46, 47, 48, 49, 51, 52, 53, 1111, 1112] Zs Z42 := zC_u hZ18K hZ42 (by decide)
            intro μ9 e9
            replace e9 := e9.trans (zm_wI (Z := Z18) (ν := ν) hZ42 (rfl : ((x0b : Nat) : Int) = x0b) (i3I (y := x6) (rfl : i3 x6 = i3 x6) (by omega) (by omega) (by omega)) (show ((9 : Nat) : Int) = 9 from rfl) (show (3 : Int32) = i3 3 from rfl))
            subst e9
            have r43 := zH_k hZ42I 13 x0b 0 3 (lo := 0) (hi := 99999) (by decide) rfl
            refine wz_br (i3NE (zm_rd (Z := Z42) (ν := ν) (k := 13) (rfl : ((x0b : Nat) : Int) = x0b) (show ((0 : Nat) : Int) = 0 from rfl) (show ((3 : Nat) : Int) = 3 from rfl)) (show (0 : Int32) = i3 0 from rfl) (by omega) (by omega) (by omega) (by omega)) (fun h44 => ?_) (fun h44 => ?_)
            · replace hP := zE_p hP h44
              have r45 := zH_f hZ42I 14 x0b 0 0
              have r46 := w3_r ((Z42 14 x0b 0 0) - (Z42 13 x0b 0 3))
              obtain ⟨Z47, hZ47⟩ := zx (zu Z42 14 x0b 0 0 (w3 ((Z42 14 x0b 0 0) - (Z42 13 x0b 0 3))))
              replace hP := zl_e hP hZ47
              have hZ47I := zH_u hZ42I hZ47 (lo := -2147483648) (hi := 2147483647) (by decide) rfl (by omega) ⟨by decide, by decide⟩ (Or.inl (by decide)) rfl
              have hZ47U : zU [x0b] Zs Z47 := zU_u hZ42U hZ47 (Or.inr (List.Mem.head _))
              have hZ47K : zC [14, 43, 44, 45, 46, 47, 48, 49, 51, 52, 53, 1111, 1112] Zs Z47 := zC_u hZ42K hZ47 (by decide)
              intro μ9 e9
              replace e9 := e9.trans (zm_wI (Z := Z42) (ν := ν) hZ47 (rfl : ((x0b : Nat) : Int) = x0b) (show ((0 : Nat) : Int) = 0 from rfl) (show ((0 : Nat) : Int) = 0 from rfl) (i3W (i3S (zm_rd (Z := Z42) (ν := ν) (k := 14) (rfl : ((x0b : Nat) : Int) = x0b) (show ((0 : Nat) : Int) = 0 from rfl) (show ((0 : Nat) : Int) = 0 from rfl)) (zm_rd (Z := Z42) (ν := ν) (k := 13) (rfl : ((x0b : Nat) : Int) = x0b) (show ((0 : Nat) : Int) = 0 from rfl) (show ((3 : Nat) : Int) = 3 from rfl)))))
              subst e9
              have r48 := zH_f hZ47I 14 x0b 0 7
              have r49 := w3_r ((Z47 14 x0b 0 7) + (Z42 13 x0b 0 3))
              obtain ⟨Z50, hZ50⟩ := zx (zu Z47 14 x0b 0 7 (w3 ((Z47 14 x0b 0 7) + (Z42 13 x0b 0 3))))
              replace hP := zl_e hP hZ50
              have hZ50I := zH_u hZ47I hZ50 (lo := -2147483648) (hi := 2147483647) (by decide) rfl (by omega) ⟨by decide, by decide⟩ (Or.inl (by decide)) rfl
              have hZ50U : zU [x0b] Zs Z50 := zU_u hZ47U hZ50 (Or.inr (List.Mem.head _))
              have hZ50K : zC [14, 43, 44, 45, 46, 47, 48, 49, 51, 52, 53, 1111, 1112] Zs Z50 := zC_u hZ47K hZ50 (by decide)
              intro μ9 e9
              replace e9 := e9.trans (zm_wI (Z := Z47) (ν := ν) hZ50 (rfl : ((x0b : Nat) : Int) = x0b) (show ((0 : Nat) : Int) = 0 from rfl) (show ((7 : Nat) : Int) = 7 from rfl) (i3W (i3A (zm_rd (Z := Z47) (ν := ν) (k := 14) (rfl : ((x0b : Nat) : Int) = x0b) (show ((0 : Nat) : Int) = 0 from rfl) (show ((7 : Nat) : Int) = 7 from rfl)) (zm_rd (Z := Z42) (ν := ν) (k := 13) (rfl : ((x0b : Nat) : Int) = x0b) (show ((0 : Nat) : Int) = 0 from rfl) (show ((3 : Nat) : Int) = 3 from rfl)))))
              subst e9
              have r51 := zH_c12 hZ50I x0b (zbh (c := 1) (k := 0) hM9 (Nat.le_of_ble_eq_true rfl))
              refine wz_i0 (i3O (n := 60) (i3R (zm_rd (Z := Z50) (ν := ν) (k := 11) (rfl : ((x0b : Nat) : Int) = x0b) (show ((0 : Nat) : Int) = 0 from rfl) (show ((12 : Nat) : Int) = 12 from rfl)) (show (60 : Int32) = i3 60 from rfl) (by omega) (by omega) (by omega) (by omega)) (by omega) (by omega) (by omega)) ?_
              obtain ⟨Z52, hZ52⟩ := zx (zu Z50 53 x0b ((Z50 11 x0b 0 12) % 60) 0 0)
              replace hP := zl_e hP hZ52
              have hZ52I := zH_0 hZ50I hZ52 (by decide) (Or.inl (by decide))
              have hZ52U : zU [x0b] Zs Z52 := zU_u hZ50U hZ52 (Or.inr (List.Mem.head _))
              have hZ52K : zC [14, 43, 44, 45, 46, 47, 48, 49, 51, 52, 53, 1111, 1112] Zs Z52 := zC_u hZ50K hZ52 (by decide)
              intro μ9 e9
              replace e9 := e9.trans (zm_wI (Z := Z50) (ν := ν) hZ52 (rfl : ((x0b : Nat) : Int) = x0b) (i3I (y := ((Z50 11 x0b 0 12) % 60)) (i3R (zm_rd (Z := Z50) (ν := ν) (k := 11) (rfl : ((x0b : Nat) : Int) = x0b) (show ((0 : Nat) : Int) = 0 from rfl) (show ((12 : Nat) : Int) = 12 from rfl)) (show (60 : Int32) = i3 60 from rfl) (by omega) (by omega) (by omega) (by omega)) (by omega) (by omega) (by omega)) (show ((0 : Nat) : Int) = 0 from rfl) (show (0 : Int32) = i3 0 from rfl))
              subst e9
              obtain ⟨Z53, hZ53⟩ := zx (zu Z52 53 x0b ((Z50 11 x0b 0 12) % 60) 1 7)
              replace hP := zl_e hP hZ53
              have hZ53I := zH_u hZ52I hZ53 (lo := -2147483648) (hi := 2147483647) (by decide) rfl (by omega) ⟨by decide, by decide⟩ (Or.inl (by decide)) rfl
              have hZ53U : zU [x0b] Zs Z53 := zU_u hZ52U hZ53 (Or.inr (List.Mem.head _))
              have hZ53K : zC [14, 43, 44, 45, 46, 47, 48, 49, 51, 52, 53, 1111, 1112] Zs Z53 := zC_u hZ52K hZ53 (by decide)
              intro μ9 e9
              replace e9 := e9.trans (zm_wI (Z := Z52) (ν := ν) hZ53 (rfl : ((x0b : Nat) : Int) = x0b) (i3I (y := ((Z50 11 x0b 0 12) % 60)) (i3R (zm_rd (Z := Z50) (ν := ν) (k := 11) (rfl : ((x0b : Nat) : Int) = x0b) (show ((0 : Nat) : Int) = 0 from rfl) (show ((12 : Nat) : Int) = 12 from rfl)) (show (60 : Int32) = i3 60 from rfl) (by omega) (by omega) (by omega) (by omega)) (by omega) (by omega) (by omega)) (show ((1 : Nat) : Int) = 1 from rfl) (show (7 : Int32) = i3 7 from rfl))
              subst e9
              obtain ⟨Z54, hZ54⟩ := zx (zu Z53 53 x0b ((Z50 11 x0b 0 12) % 60) 2 (Z42 13 x0b 0 3))
              replace hP := zl_e hP hZ54
              have hZ54I := zH_u hZ53I hZ54 (lo := -2147483648) (hi := 2147483647) (by decide) rfl (by omega) ⟨by decide, by decide⟩ (Or.inl (by decide)) rfl
              have hZ54U : zU [x0b] Zs Z54 := zU_u hZ53U hZ54 (Or.inr (List.Mem.head _))
              have hZ54K : zC [14, 43, 44, 45, 46, 47, 48, 49, 51, 52, 53, 1111, 1112] Zs Z54 := zC_u hZ53K hZ54 (by decide)
              intro μ9 e9
              replace e9 := e9.trans (zm_wI (Z := Z53) (ν := ν) hZ54 (rfl : ((x0b : Nat) : Int) = x0b) (i3I (y := ((Z50 11 x0b 0 12) % 60)) (i3R (zm_rd (Z := Z50) (ν := ν) (k := 11) (rfl : ((x0b : Nat) : Int) = x0b) (show ((0 : Nat) : Int) = 0 from rfl) (show ((12 : Nat) : Int) = 12 from rfl)) (show (60 : Int32) = i3 60 from rfl) (by omega) (by omega) (by omega) (by omega)) (by omega) (by omega) (by omega)) (show ((2 : Nat) : Int) = 2 from rfl) (zm_rd (Z := Z42) (ν := ν) (k := 13) (rfl : ((x0b : Nat) : Int) = x0b) (show ((0 : Nat) : Int) = 0 from rfl) (show ((3 : Nat) : Int) = 3 from rfl)))
              subst e9
              obtain ⟨Z55, hZ55⟩ := zx (zu Z54 53 x0b ((Z50 11 x0b 0 12) % 60) 3 x6)
              replace hP := zl_e hP hZ55
              have hZ55I := zH_u hZ54I hZ55 (lo := -2147483648) (hi := 2147483647) (by decide) rfl (by omega) ⟨by decide, by decide⟩ (Or.inl (by decide)) rfl
              have hZ55U : zU [x0b] Zs Z55 := zU_u hZ54U hZ55 (Or.inr (List.Mem.head _))
              have hZ55K : zC [14, 43, 44, 45, 46, 47, 48, 49, 51, 52, 53, 1111, 1112] Zs Z55 := zC_u hZ54K hZ55 (by decide)
              intro μ9 e9
              replace e9 := e9.trans (zm_wI (Z := Z54) (ν := ν) hZ55 (rfl : ((x0b : Nat) : Int) = x0b) (i3I (y := ((Z50 11 x0b 0 12) % 60)) (i3R (zm_rd (Z := Z50) (ν := ν) (k := 11) (rfl : ((x0b : Nat) : Int) = x0b) (show ((0 : Nat) : Int) = 0 from rfl) (show ((12 : Nat) : Int) = 12 from rfl)) (show (60 : Int32) = i3 60 from rfl) (by omega) (by omega) (by omega) (by omega)) (by omega) (by omega) (by omega)) (show ((3 : Nat) : Int) = 3 from rfl) (rfl : i3 x6 = i3 x6))
              subst e9
              have r56 := zH_k hZ55I 11 x0b 0 13 (lo := 0) (hi := 671) (by decide) rfl
              have q57 := (zu_ne (k' := 11) (b' := x0b) (i' := 0) (j' := 13) hZ55 (fun q => absurd q.1 (by decide))).trans ((zu_ne (k' := 11) (b' := x0b) (i' := 0) (j' := 13) hZ54 (fun q => absurd q.1 (by decide))).trans ((zu_ne (k' := 11) (b' := x0b) (i' := 0) (j' := 13) hZ53 (fun q => absurd q.1 (by decide))).trans ((zu_ne (k' := 11) (b' := x0b) (i' := 0) (j' := 13) hZ52 (fun q => absurd q.1 (by decide))).trans ((zu_ne (k' := 11) (b' := x0b) (i' := 0) (j' := 13) hZ50 (fun q => absurd q.1 (by decide))).trans ((zu_ne (k' := 11) (b' := x0b) (i' := 0) (j' := 13) hZ47 (fun q => absurd q.1 (by decide))).trans ((zu_ne (k' := 11) (b' := x0b) (i' := 0) (j' := 13) hZ42 (fun q => absurd q.1 (by decide))).trans ((zu_ne (k' := 11) (b' := x0b) (i' := 0) (j' := 13) hZ18 (fun q => absurd q.2.2.2 (by decide))).trans ((zu_ne (k' := 11) (b' := x0b) (i' := 0) (j' := 13) hZ15 (fun q => absurd q.1 (by decide))).trans ((zu_ne (k' := 11) (b' := x0b) (i' := 0) (j' := 13) hZ13 (fun q => absurd q.1 (by decide))).trans ((zu_ne (k' := 11) (b' := x0b) (i' := 0) (j' := 13) hZ12 (fun q => absurd q.1 (by decide))).trans ((zu_ne (k' := 11) (b' := x0b) (i' := 0) (j' := 13) hZ11 (fun q => absurd q.1 (by decide))).trans (zu_ne (k' := 11) (b' := x0b) (i' := 0) (j' := 13) hZ10 (fun q => absurd q.1 (by decide))))))))))))))
              obtain ⟨Z58, hZ58⟩ := zx (zu Z55 53 x0b ((Z50 11 x0b 0 12) % 60) 4 (Z55 11 x0b 0 13))
              replace hP := zl_e hP hZ58
              have hZ58I := zH_u hZ55I hZ58 (lo := -2147483648) (hi := 2147483647) (by decide) rfl (by omega) ⟨by decide, by decide⟩ (Or.inl (by decide)) rfl
              have hZ58U : zU [x0b] Zs Z58 := zU_u hZ55U hZ58 (Or.inr (List.Mem.head _))
              have hZ58K : zC [14, 43, 44, 45, 46, 47, 48, 49, 51, 52, 53, 1111, 1112] Zs Z58 := zC_u hZ55K hZ58 (by decide)
              intro μ9 e9
              replace e9 := e9.trans (zm_wI (Z := Z55) (ν := ν) hZ58 (rfl : ((x0b : Nat) : Int) = x0b) (i3I (y := ((Z50 11 x0b 0 12) % 60)) (i3R (zm_rd (Z := Z50) (ν := ν) (k := 11) (rfl : ((x0b : Nat) : Int) = x0b) (show ((0 : Nat) : Int) = 0 from rfl) (show ((12 : Nat) : Int) = 12 from rfl)) (show (60 : Int32) = i3 60 from rfl) (by omega) (by omega) (by omega) (by omega)) (by omega) (by omega) (by omega)) (show ((4 : Nat) : Int) = 4 from rfl) (zm_rd (Z := Z55) (ν := ν) (k := 11) (rfl : ((x0b : Nat) : Int) = x0b) (show ((0 : Nat) : Int) = 0 from rfl) (show ((13 : Nat) : Int) = 13 from rfl)))
              subst e9
              have r59 := zH_c12 hZ58I x0b (zbh (c := 1) (k := 0) hM9 (Nat.le_of_ble_eq_true rfl))
              have q60 := (zu_ne (k' := 11) (b' := x0b) (i' := 0) (j' := 12) hZ58 (fun q => absurd q.1 (by decide))).trans ((zu_ne (k' := 11) (b' := x0b) (i' := 0) (j' := 12) hZ55 (fun q => absurd q.1 (by decide))).trans ((zu_ne (k' := 11) (b' := x0b) (i' := 0) (j' := 12) hZ54 (fun q => absurd q.1 (by decide))).trans ((zu_ne (k' := 11) (b' := x0b) (i' := 0) (j' := 12) hZ53 (fun q => absurd q.1 (by decide))).trans (zu_ne (k' := 11) (b' := x0b) (i' := 0) (j' := 12) hZ52 (fun q => absurd q.1 (by decide))))))
              obtain ⟨Z61, hZ61⟩ := zx (zu Z58 11 x0b 0 12 ((Z58 11 x0b 0 12) + 1))
              replace hP := zl_e hP hZ61
              have hZ61I := zH_i12 hZ58I hZ61 (zbh (c := 1) (k := 1) hM9 (Nat.le_of_ble_eq_true rfl)) (by omega)
              replace hZ61I := zbt (c := 2) hZ61I rfl
              have hZ61U : zU [x0b] Zs Z61 := zU_u hZ58U hZ61 (Or.inr (List.Mem.head _))
              have hZ61K : zC [14, 43, 44, 45, 46, 47, 48, 49, 51, 52, 53, 1111, 1112] Zs Z61 := zC_u hZ58K hZ61 (by decide)
              intro μ9 e9
              replace e9 := e9.trans (zm_wI (Z := Z58) (ν := ν) hZ61 (rfl : ((x0b : Nat) : Int) = x0b) (show ((0 : Nat) : Int) = 0 from rfl) (show ((12 : Nat) : Int) = 12 from rfl) (i3A (zm_rd (Z := Z58) (ν := ν) (k := 11) (rfl : ((x0b : Nat) : Int) = x0b) (show ((0 : Nat) : Int) = 0 from rfl) (show ((12 : Nat) : Int) = 12 from rfl)) (show (1 : Int32) = i3 1 from rfl)))
              subst e9
              obtain ⟨m2, rfl⟩ : ∃ m2, m = m2 + 1 := ⟨m - 1, by omega⟩
              exact wz_k1 ⟨m2, by omega, xM9 + 2, Z61, (x5 + 1), (x6 + 1), (zconso rfl (zconso (zvo (rfl : i3 x1 = i3 x1)) (zconso (zvo (rfl : i3 x2 = i3 x2)) (zconso rfl (zconso (zvo (rfl : i3 x4 = i3 x4)) (zconso (zvo (i3A (rfl : i3 x5 = i3 x5) (show (1 : Int32) = i3 1 from rfl))) (zconso (zvo (i3A (rfl : i3 x6 = i3 x6) (show (1 : Int32) = i3 1 from rfl))) (zconso rfl (zconso rfl rfl))))))))), rfl, by omega, (zbt hZ61I rfl), hZ61K, hZ61U, (zLt_o (zLt_o (zLt_o (zLt_o (zLt_o (zLt_o (zLt_o (zLt_o (zLt_o (zLt_o (zLt_o (zLt_o (zLt_o (zLt_o (zLt_o (zLt_o hLtx0b hZ8 ⟨by decide, .inl (by decide)⟩) hZ10 ⟨by decide, .inl (by decide)⟩) hZ11 ⟨by decide, .inl (by decide)⟩) hZ12 ⟨by decide, .inl (by decide)⟩) hZ13 ⟨by decide, .inl (by decide)⟩) hZ15 ⟨by decide, .inl (by decide)⟩) hZ18 ⟨by decide, .inl (by decide)⟩) hZ42 ⟨by decide, .inl (by decide)⟩) hZ47 ⟨by decide, .inl (by decide)⟩) hZ50 ⟨by decide, .inl (by decide)⟩) hZ52 ⟨by decide, .inl (by decide)⟩) hZ53 ⟨by decide, .inl (by decide)⟩) hZ54 ⟨by decide, .inl (by decide)⟩) hZ55 ⟨by decide, .inl (by decide)⟩) hZ58 ⟨by decide, .inl (by decide)⟩) hZ61 ⟨by decide, .inl (by decide)⟩), by omega, by omega, by omega, by omega,  hP⟩
            · replace hP := zE_n hP h44
              obtain ⟨m2, rfl⟩ : ∃ m2, m = m2 + 1 := ⟨m - 1, by omega⟩
              exact wz_k1 ⟨m2, by omega, xM9 + 1, Z42, (x5 + 1), (x6 + 1), (zconso rfl (zconso (zvo (rfl : i3 x1 = i3 x1)) (zconso (zvo (rfl : i3 x2 = i3 x2)) (zconso rfl (zconso (zvo (rfl : i3 x4 = i3 x4)) (zconso (zvo (i3A (rfl : i3 x5 = i3 x5) (show (1 : Int32) = i3 1 from rfl))) (zconso (zvo (i3A (rfl : i3 x6 = i3 x6) (show (1 : Int32) = i3 1 from rfl))) (zconso rfl (zconso rfl rfl))))))))), rfl, by omega, (zbt hZ42I rfl), hZ42K, hZ42U, (zLt_o (zLt_o (zLt_o (zLt_o (zLt_o (zLt_o (zLt_o (zLt_o hLtx0b hZ8 ⟨by decide, .inl (by decide)⟩) hZ10 ⟨by decide, .inl (by decide)⟩) hZ11 ⟨by decide, .inl (by decide)⟩) hZ12 ⟨by decide, .inl (by decide)⟩) hZ13 ⟨by decide, .inl (by decide)⟩) hZ15 ⟨by decide, .inl (by decide)⟩) hZ18 ⟨by decide, .inl (by decide)⟩) hZ42 ⟨by decide, .inl (by decide)⟩), by omega, by omega, by omega, by omega,  hP⟩
        · replace hP := zE_n hP h19
          obtain ⟨Z62, v63, hv63, c9, hZ62I, kZ62, jZ62, lv63, uv63, tZ62_a0b⟩ := sp_105 (ν := ν) hZ18I x0b (a1 := x6) (by omega) (a2 := 3) (by omega) (zLt_o (zLt_o (zLt_o (zLt_o (zLt_o (zLt_o (zLt_o hLtx0b hZ8 ⟨by decide, .inl (by decide)⟩) hZ10 ⟨by decide, .inl (by decide)⟩) hZ11 ⟨by decide, .inl (by decide)⟩) hZ12 ⟨by decide, .inl (by decide)⟩) hZ13 ⟨by decide, .inl (by decide)⟩) hZ15 ⟨by decide, .inl (by decide)⟩) hZ18 ⟨by decide, .inl (by decide)⟩) (zbh (c := 1) (k := 63) hM9 (Nat.le_of_ble_eq_true rfl))
          have hZ62U : zU [x0b] Zs Z62 := zU_t hZ18U jZ62 (zU_b1 (List.Mem.head _) zU_b0)
          have hZ62K : zC [14, 43, 44, 45, 46, 47, 48, 49, 51, 52, 53, 1111, 1112] Zs Z62 := zC_t hZ18K kZ62 (by decide)
          replace hZ62I := zbt (c := 64) hZ62I rfl
          replace hP := zl_e2 hP hv63
          refine wz_cI_of (zas (zcons rfl (zcons (zvi (rfl : i3 x6 = i3 x6)) (zcons (zvi (show (3 : Int32) = i3 3 from rfl)) rfl))) c9) ?_
          clear c9 hv63
          have r64 := zH_f hZ62I 51 x0b x3ij 6
          have r65 := w3_r ((Z62 51 x0b x3ij 6) + 1)
          obtain ⟨Z66, hZ66⟩ := zx (zu Z62 51 x0b x3ij 6 (w3 ((Z62 51 x0b x3ij 6) + 1)))
          replace hP := zl_e hP hZ66
          have hZ66I := zH_u hZ62I hZ66 (lo := -2147483648) (hi := 2147483647) (by decide) rfl (by omega) ⟨by decide, by decide⟩ (Or.inl (by decide)) rfl
          have hZ66U : zU [x0b] Zs Z66 := zU_u hZ62U hZ66 (Or.inr (List.Mem.head _))
          have hZ66K : zC [14, 43, 44, 45, 46, 47, 48, 49, 51, 52, 53, 1111, 1112] Zs Z66 := zC_u hZ62K hZ66 (by decide)
          intro μ9 e9
          replace e9 := e9.trans (zm_wI (Z := Z62) (ν := ν) hZ66 (rfl : ((x0b : Nat) : Int) = x0b) ex3i (show ((6 : Nat) : Int) = 6 from rfl) (i3W (i3A (zm_rd (Z := Z62) (ν := ν) (k := 51) (rfl : ((x0b : Nat) : Int) = x0b) ex3i (show ((6 : Nat) : Int) = 6 from rfl)) (show (1 : Int32) = i3 1 from rfl))))
          subst e9
          have r67 := zH_k hZ66I 13 x0b 0 3 (lo := 0) (hi := 99999) (by decide) rfl
          refine wz_br (i3NE (zm_rd (Z := Z66) (ν := ν) (k := 13) (rfl : ((x0b : Nat) : Int) = x0b) (show ((0 : Nat) : Int) = 0 from rfl) (show ((3 : Nat) : Int) = 3 from rfl)) (show (0 : Int32) = i3 0 from rfl) (by omega) (by omega) (by omega) (by omega)) (fun h68 => ?_) (fun h68 => ?_)
          · replace hP := zE_p hP h68
            have r69 := zH_f hZ66I 14 x0b 0 0
            have r70 := w3_r ((Z66 14 x0b 0 0) - (Z66 13 x0b 0 3))
            obtain ⟨Z71, hZ71⟩ := zx (zu Z66 14 x0b 0 0 (w3 ((Z66 14 x0b 0 0) - (Z66 13 x0b 0 3))))
            replace hP := zl_e hP hZ71
            have hZ71I := zH_u hZ66I hZ71 (lo := -2147483648) (hi := 2147483647) (by decide) rfl (by omega) ⟨by decide, by decide⟩ (Or.inl (by decide)) rfl
            have hZ71U : zU [x0b] Zs Z71 := zU_u hZ66U hZ71 (Or.inr (List.Mem.head _))
            have hZ71K : zC [14, 43, 44, 45, 46, 47, 48, 49, 51, 52, 53, 1111, 1112] Zs Z71 := zC_u hZ66K hZ71 (by decide)
            intro μ9 e9
            replace e9 := e9.trans (zm_wI (Z := Z66) (ν := ν) hZ71 (rfl : ((x0b : Nat) : Int) = x0b) (show ((0 : Nat) : Int) = 0 from rfl) (show ((0 : Nat) : Int) = 0 from rfl) (i3W (i3S (zm_rd (Z := Z66) (ν := ν) (k := 14) (rfl : ((x0b : Nat) : Int) = x0b) (show ((0 : Nat) : Int) = 0 from rfl) (show ((0 : Nat) : Int) = 0 from rfl)) (zm_rd (Z := Z66) (ν := ν) (k := 13) (rfl : ((x0b : Nat) : Int) = x0b) (show ((0 : Nat) : Int) = 0 from rfl) (show ((3 : Nat) : Int) = 3 from rfl)))))
            subst e9
            have r72 := zH_f hZ71I 14 x0b 0 7
            have r73 := w3_r ((Z71 14 x0b 0 7) + (Z66 13 x0b 0 3))
            obtain ⟨Z74, hZ74⟩ := zx (zu Z71 14 x0b 0 7 (w3 ((Z71 14 x0b 0 7) + (Z66 13 x0b 0 3))))
            replace hP := zl_e hP hZ74
            have hZ74I := zH_u hZ71I hZ74 (lo := -2147483648) (hi := 2147483647) (by decide) rfl (by omega) ⟨by decide, by decide⟩ (Or.inl (by decide)) rfl
            have hZ74U : zU [x0b] Zs Z74 := zU_u hZ71U hZ74 (Or.inr (List.Mem.head _))
            have hZ74K : zC [14, 43, 44, 45, 46, 47, 48, 49, 51, 52, 53, 1111, 1112] Zs Z74 := zC_u hZ71K hZ74 (by decide)
            intro μ9 e9
            replace e9 := e9.trans (zm_wI (Z := Z71) (ν := ν) hZ74 (rfl : ((x0b : Nat) : Int) = x0b) (show ((0 : Nat) : Int) = 0 from rfl) (show ((7 : Nat) : Int) = 7 from rfl) (i3W (i3A (zm_rd (Z := Z71) (ν := ν) (k := 14) (rfl : ((x0b : Nat) : Int) = x0b) (show ((0 : Nat) : Int) = 0 from rfl) (show ((7 : Nat) : Int) = 7 from rfl)) (zm_rd (Z := Z66) (ν := ν) (k := 13) (rfl : ((x0b : Nat) : Int) = x0b) (show ((0 : Nat) : Int) = 0 from rfl) (show ((3 : Nat) : Int) = 3 from rfl)))))
            subst e9
            have r75 := zH_c12 hZ74I x0b (zbh (c := 64) (k := 0) hM9 (Nat.le_of_ble_eq_true rfl))
            refine wz_i0 (i3O (n := 60) (i3R (zm_rd (Z := Z74) (ν := ν) (k := 11) (rfl : ((x0b : Nat) : Int) = x0b) (show ((0 : Nat) : Int) = 0 from rfl) (show ((12 : Nat) : Int) = 12 from rfl)) (show (60 : Int32) = i3 60 from rfl) (by omega) (by omega) (by omega) (by omega)) (by omega) (by omega) (by omega)) ?_
            obtain ⟨Z76, hZ76⟩ := zx (zu Z74 53 x0b ((Z74 11 x0b 0 12) % 60) 0 0)
            replace hP := zl_e hP hZ76
            have hZ76I := zH_0 hZ74I hZ76 (by decide) (Or.inl (by decide))
            have hZ76U : zU [x0b] Zs Z76 := zU_u hZ74U hZ76 (Or.inr (List.Mem.head _))
            have hZ76K : zC [14, 43, 44, 45, 46, 47, 48, 49, 51, 52, 53, 1111, 1112] Zs Z76 := zC_u hZ74K hZ76 (by decide)
            intro μ9 e9
            replace e9 := e9.trans (zm_wI (Z := Z74) (ν := ν) hZ76 (rfl : ((x0b : Nat) : Int) = x0b) (i3I (y := ((Z74 11 x0b 0 12) % 60)) (i3R (zm_rd (Z := Z74) (ν := ν) (k := 11) (rfl : ((x0b : Nat) : Int) = x0b) (show ((0 : Nat) : Int) = 0 from rfl) (show ((12 : Nat) : Int) = 12 from rfl)) (show (60 : Int32) = i3 60 from rfl) (by omega) (by omega) (by omega) (by omega)) (by omega) (by omega) (by omega)) (show ((0 : Nat) : Int) = 0 from rfl) (show (0 : Int32) = i3 0 from rfl))
            subst e9
            obtain ⟨Z77, hZ77⟩ := zx (zu Z76 53 x0b ((Z74 11 x0b 0 12) % 60) 1 7)
            replace hP := zl_e hP hZ77
            have hZ77I := zH_u hZ76I hZ77 (lo := -2147483648) (hi := 2147483647) (by decide) rfl (by omega) ⟨by decide, by decide⟩ (Or.inl (by decide)) rfl
            have hZ77U : zU [x0b] Zs Z77 := zU_u hZ76U hZ77 (Or.inr (List.Mem.head _))
            have hZ77K : zC [14, 43, 44, 45, 46, 47, 48, 49, 51, 52, 53, 1111, 1112] Zs Z77 := zC_u hZ76K hZ77 (by decide)
            intro μ9 e9
            replace e9 := e9.trans (zm_wI (Z := Z76) (ν := ν) hZ77 (rfl : ((x0b : Nat) : Int) = x0b) (i3I (y := ((Z74 11 x0b 0 12) % 60)) (i3R (zm_rd (Z := Z74) (ν := ν) (k := 11) (rfl : ((x0b : Nat) : Int) = x0b) (show ((0 : Nat) : Int) = 0 from rfl) (show ((12 : Nat) : Int) = 12 from rfl)) (show (60 : Int32) = i3 60 from rfl) (by omega) (by omega) (by omega) (by omega)) (by omega) (by omega) (by omega)) (show ((1 : Nat) : Int) = 1 from rfl) (show (7 : Int32) = i3 7 from rfl))
            subst e9
            obtain ⟨Z78, hZ78⟩ := zx (zu Z77 53 x0b ((Z74 11 x0b 0 12) % 60) 2 (Z66 13 x0b 0 3))
            replace hP := zl_e hP hZ78
            have hZ78I := zH_u hZ77I hZ78 (lo := -2147483648) (hi := 2147483647) (by decide) rfl (by omega) ⟨by decide, by decide⟩ (Or.inl (by decide)) rfl
            have hZ78U : zU [x0b] Zs Z78 := zU_u hZ77U hZ78 (Or.inr (List.Mem.head _))
            have hZ78K : zC [14, 43, 44, 45, 46, 47, 48, 49, 51, 52, 53, 1111, 1112] Zs Z78 := zC_u hZ77K hZ78 (by decide)
            intro μ9 e9
            replace e9 := e9.trans (zm_wI (Z := Z77) (ν := ν) hZ78 (rfl : ((x0b : Nat) : Int) = x0b) (i3I (y := ((Z74 11 x0b 0 12) % 60)) (i3R (zm_rd (Z := Z74) (ν := ν) (k := 11) (rfl : ((x0b : Nat) : Int) = x0b) (show ((0 : Nat) : Int) = 0 from rfl) (show ((12 : Nat) : Int) = 12 from rfl)) (show (60 : Int32) = i3 60 from rfl) (by omega) (by omega) (by omega) (by omega)) (by omega) (by omega) (by omega)) (show ((2 : Nat) : Int) = 2 from rfl) (zm_rd (Z := Z66) (ν := ν) (k := 13) (rfl : ((x0b : Nat) : Int) = x0b) (show ((0 : Nat) : Int) = 0 from rfl) (show ((3 : Nat) : Int) = 3 from rfl)))
            subst e9
            obtain ⟨Z79, hZ79⟩ := zx (zu Z78 53 x0b ((Z74 11 x0b 0 12) % 60) 3 x6)
            replace hP := zl_e hP hZ79
            have hZ79I := zH_u hZ78I hZ79 (lo := -2147483648) (hi := 2147483647) (by decide) rfl (by omega) ⟨by decide, by decide⟩ (Or.inl (by decide)) rfl
            have hZ79U : zU [x0b] Zs Z79 := zU_u hZ78U hZ79 (Or.inr (List.Mem.head _))
            have hZ79K : zC [14, 43, 44, 45, 46, 47, 48, 49, 51, 52, 53, 1111, 1112] Zs Z79 := zC_u hZ78K hZ79 (by decide)
            intro μ9 e9
            replace e9 := e9.trans (zm_wI (Z := Z78) (ν := ν) hZ79 (rfl : ((x0b : Nat) : Int) = x0b) (i3I (y := ((Z74 11 x0b 0 12) % 60)) (i3R (zm_rd (Z := Z74) (ν := ν) (k := 11) (rfl : ((x0b : Nat) : Int) = x0b) (show ((0 : Nat) : Int) = 0 from rfl) (show ((12 : Nat) : Int) = 12 from rfl)) (show (60 : Int32) = i3 60 from rfl) (by omega) (by omega) (by omega) (by omega)) (by omega) (by omega) (by omega)) (show ((3 : Nat) : Int) = 3 from rfl) (rfl : i3 x6 = i3 x6))
            subst e9
            have r80 := zH_k hZ79I 11 x0b 0 13 (lo := 0) (hi := 671) (by decide) rfl
            have q81 := (zu_ne (k' := 11) (b' := x0b) (i' := 0) (j' := 13) hZ79 (fun q => absurd q.1 (by decide))).trans ((zu_ne (k' := 11) (b' := x0b) (i' := 0) (j' := 13) hZ78 (fun q => absurd q.1 (by decide))).trans ((zu_ne (k' := 11) (b' := x0b) (i' := 0) (j' := 13) hZ77 (fun q => absurd q.1 (by decide))).trans ((zu_ne (k' := 11) (b' := x0b) (i' := 0) (j' := 13) hZ76 (fun q => absurd q.1 (by decide))).trans ((zu_ne (k' := 11) (b' := x0b) (i' := 0) (j' := 13) hZ74 (fun q => absurd q.1 (by decide))).trans ((zu_ne (k' := 11) (b' := x0b) (i' := 0) (j' := 13) hZ71 (fun q => absurd q.1 (by decide))).trans ((zu_ne (k' := 11) (b' := x0b) (i' := 0) (j' := 13) hZ66 (fun q => absurd q.1 (by decide))).trans ((kZ62 11 x0b 0 13 (by decide)).trans ((zu_ne (k' := 11) (b' := x0b) (i' := 0) (j' := 13) hZ18 (fun q => absurd q.2.2.2 (by decide))).trans ((zu_ne (k' := 11) (b' := x0b) (i' := 0) (j' := 13) hZ15 (fun q => absurd q.1 (by decide))).trans ((zu_ne (k' := 11) (b' := x0b) (i' := 0) (j' := 13) hZ13 (fun q => absurd q.1 (by decide))).trans ((zu_ne (k' := 11) (b' := x0b) (i' := 0) (j' := 13) hZ12 (fun q => absurd q.1 (by decide))).trans ((zu_ne (k' := 11) (b' := x0b) (i' := 0) (j' := 13) hZ11 (fun q => absurd q.1 (by decide))).trans (zu_ne (k' := 11) (b' := x0b) (i' := 0) (j' := 13) hZ10 (fun q => absurd q.1 (by decide)))))))))))))))
            obtain ⟨Z82, hZ82⟩ := zx (zu Z79 53 x0b ((Z74 11 x0b 0 12) % 60) 4 (Z79 11 x0b 0 13))
            replace hP := zl_e hP hZ82
            have hZ82I := zH_u hZ79I hZ82 (lo := -2147483648) (hi := 2147483647) (by decide) rfl (by omega) ⟨by decide, by decide⟩ (Or.inl (by decide)) rfl
            have hZ82U : zU [x0b] Zs Z82 := zU_u hZ79U hZ82 (Or.inr (List.Mem.head _))
            have hZ82K : zC [14, 43, 44, 45, 46, 47, 48, 49, 51, 52, 53, 1111, 1112] Zs Z82 := zC_u hZ79K hZ82 (by decide)
            intro μ9 e9
            replace e9 := e9.trans (zm_wI (Z := Z79) (ν := ν) hZ82 (rfl : ((x0b : Nat) : Int) = x0b) (i3I (y := ((Z74 11 x0b 0 12) % 60)) (i3R (zm_rd (Z := Z74) (ν := ν) (k := 11) (rfl : ((x0b : Nat) : Int) = x0b) (show ((0 : Nat) : Int) = 0 from rfl) (show ((12 : Nat) : Int) = 12 from rfl)) (show (60 : Int32) = i3 60 from rfl) (by omega) (by omega) (by omega) (by omega)) (by omega) (by omega) (by omega)) (show ((4 : Nat) : Int) = 4 from rfl) (zm_rd (Z := Z79) (ν := ν) (k := 11) (rfl : ((x0b : Nat) : Int) = x0b) (show ((0 : Nat) : Int) = 0 from rfl) (show ((13 : Nat) : Int) = 13 from rfl)))
            subst e9
            have r83 := zH_c12 hZ82I x0b (zbh (c := 64) (k := 0) hM9 (Nat.le_of_ble_eq_true rfl))
            have q84 := (zu_ne (k' := 11) (b' := x0b) (i' := 0) (j' := 12) hZ82 (fun q => absurd q.1 (by decide))).trans ((zu_ne (k' := 11) (b' := x0b) (i' := 0) (j' := 12) hZ79 (fun q => absurd q.1 (by decide))).trans ((zu_ne (k' := 11) (b' := x0b) (i' := 0) (j' := 12) hZ78 (fun q => absurd q.1 (by decide))).trans ((zu_ne (k' := 11) (b' := x0b) (i' := 0) (j' := 12) hZ77 (fun q => absurd q.1 (by decide))).trans (zu_ne (k' := 11) (b' := x0b) (i' := 0) (j' := 12) hZ76 (fun q => absurd q.1 (by decide))))))
            obtain ⟨Z85, hZ85⟩ := zx (zu Z82 11 x0b 0 12 ((Z82 11 x0b 0 12) + 1))
            replace hP := zl_e hP hZ85
            have hZ85I := zH_i12 hZ82I hZ85 (zbh (c := 64) (k := 1) hM9 (Nat.le_of_ble_eq_true rfl)) (by omega)
            replace hZ85I := zbt (c := 65) hZ85I rfl
            have hZ85U : zU [x0b] Zs Z85 := zU_u hZ82U hZ85 (Or.inr (List.Mem.head _))
            have hZ85K : zC [14, 43, 44, 45, 46, 47, 48, 49, 51, 52, 53, 1111, 1112] Zs Z85 := zC_u hZ82K hZ85 (by decide)
            intro μ9 e9
            replace e9 := e9.trans (zm_wI (Z := Z82) (ν := ν) hZ85 (rfl : ((x0b : Nat) : Int) = x0b) (show ((0 : Nat) : Int) = 0 from rfl) (show ((12 : Nat) : Int) = 12 from rfl) (i3A (zm_rd (Z := Z82) (ν := ν) (k := 11) (rfl : ((x0b : Nat) : Int) = x0b) (show ((0 : Nat) : Int) = 0 from rfl) (show ((12 : Nat) : Int) = 12 from rfl)) (show (1 : Int32) = i3 1 from rfl)))
            subst e9
            obtain ⟨m2, rfl⟩ : ∃ m2, m = m2 + 1 := ⟨m - 1, by omega⟩
            exact wz_k1 ⟨m2, by omega, xM9 + 65, Z85, (x5 + 1), (x6 + 1), (zconso rfl (zconso (zvo (rfl : i3 x1 = i3 x1)) (zconso (zvo (rfl : i3 x2 = i3 x2)) (zconso rfl (zconso (zvo (rfl : i3 x4 = i3 x4)) (zconso (zvo (i3A (rfl : i3 x5 = i3 x5) (show (1 : Int32) = i3 1 from rfl))) (zconso (zvo (i3A (rfl : i3 x6 = i3 x6) (show (1 : Int32) = i3 1 from rfl))) (zconso rfl (zconso rfl rfl))))))))), rfl, by omega, (zbt hZ85I rfl), hZ85K, hZ85U, (zLt_o (zLt_o (zLt_o (zLt_o (zLt_o (zLt_o (zLt_o (zLt_o (zLt_o tZ62_a0b hZ66 ⟨by decide, .inl (by decide)⟩) hZ71 ⟨by decide, .inl (by decide)⟩) hZ74 ⟨by decide, .inl (by decide)⟩) hZ76 ⟨by decide, .inl (by decide)⟩) hZ77 ⟨by decide, .inl (by decide)⟩) hZ78 ⟨by decide, .inl (by decide)⟩) hZ79 ⟨by decide, .inl (by decide)⟩) hZ82 ⟨by decide, .inl (by decide)⟩) hZ85 ⟨by decide, .inl (by decide)⟩), by omega, by omega, by omega, by omega,  hP⟩
          · replace hP := zE_n hP h68
            obtain ⟨m2, rfl⟩ : ∃ m2, m = m2 + 1 := ⟨m - 1, by omega⟩
            exact wz_k1 ⟨m2, by omega, xM9 + 64, Z66, (x5 + 1), (x6 + 1), (zconso rfl (zconso (zvo (rfl : i3 x1 = i3 x1)) (zconso (zvo (rfl : i3 x2 = i3 x2)) (zconso rfl (zconso (zvo (rfl : i3 x4 = i3 x4)) (zconso (zvo (i3A (rfl : i3 x5 = i3 x5) (show (1 : Int32) = i3 1 from rfl))) (zconso (zvo (i3A (rfl : i3 x6 = i3 x6) (show (1 : Int32) = i3 1 from rfl))) (zconso rfl (zconso rfl rfl))))))))), rfl, by omega, (zbt hZ66I rfl), hZ66K, hZ66U, (zLt_o tZ62_a0b hZ66 ⟨by decide, .inl (by decide)⟩), by omega, by omega, by omega, by omega,  hP⟩
/- yX7_look -/
def zf_136 (Z : qz_Z) (a0b : Int) (a1 : Int) (a2 : Int) : qz_Z × Int := (if a2 ≠ 7 then (zlet3 (zl_136_1 a0b a1 a1 a2 (a2 - 1) 49 Z 0 0) (fun Z4 y2 y3 => (zlet (zu Z4 51 a0b a1 5 (w3 ((Z4 51 a0b a1 5) + y2))) (fun Z8 => (zlet (zu Z8 51 a0b a1 4 (w3 ((Z8 51 a0b a1 4) + 1))) (fun Z11 => (zlet (zu Z11 51 a0b a1 7 (Z11 11 a0b 0 13)) (fun Z13 => (if (a2 - 1) < 0 then (Z13, y2) else (if 6 ≤ (a2 - 1) then (Z13, y2) else (if y2 < (4 - (Z13 51 a0b a1 1)) then (Z13, y2) else (zlet (zu Z13 43 a0b ((-1) + a2) 10 ((Z13 11 a0b 0 13) + 24)) (fun Z20 => (Z20, y2)))))))))))))) else (zlet3 (zl_136_1 a0b a1 a1 a2 6 49 Z 0 0) (fun Z23 y21 y22 => (zlet (zu Z23 51 a0b a1 5 (w3 ((Z23 51 a0b a1 5) + y21))) (fun Z27 => (zlet (zu Z27 51 a0b a1 4 (w3 ((Z27 51 a0b a1 4) + 1))) (fun Z30 => (zlet (zu Z30 51 a0b a1 7 (Z30 11 a0b 0 13)) (fun Z32 => (Z32, y21))))))))))
theorem sp_136 {s : zSM} {Z : qz_Z} {ν : qz_N} (hZ : zH s Z) (a0b : Nat) {a1 : Int} (ga1 : 0 ≤ a1 ∧ a1 ≤ 1) {a2 : Int} (ga2 : 0 ≤ a2 ∧ a2 ≤ 9) (hLta0b : zLt a0b Z) (hM : s.2 + 3185 ≤ 1000000000) : ∃ (Z1 : qz_Z) (P : Int), (Z1, P) = zf_136 Z a0b a1 a2 ∧ (qf_136 [.inr (.inr (some (10, a0b, 0))), .inl (i3 a1), .inl (i3 a2)] (zm Z ν) = some (zm Z1 ν, .inl (some (.inl (i3 P)))) ∧ zH (zb s 3185) Z1 ∧ zC [14, 43, 44, 45, 46, 47, 48, 49, 51, 52, 53, 1111, 1112] Z Z1 ∧ zU [a0b] Z Z1 ∧ 0 ≤ P ∧ P ≤ 48 ∧ zLt a0b Z1) := by
  obtain ⟨P, hP⟩ := zx (zf_136 Z a0b a1 a2)
  refine zc_W (Q := fun Z1 P => zH (zb s 3185) Z1 ∧ zC [14, 43, 44, 45, 46, 47, 48, 49, 51, 52, 53, 1111, 1112] Z Z1 ∧ zU [a0b] Z Z1 ∧ 0 ≤ P ∧ P ≤ 48 ∧ zLt a0b Z1) hP (fw_136 a0b (i3 a1) (i3 a2) _ _ ?_)
  replace hP : zE P (zf_136 Z a0b a1 a2) := hP
  unfold zf_136 at hP
  refine wz_i0 (i3O (n := 2) (rfl : i3 a1 = i3 a1) (by omega) (by omega) (by omega)) ?_
  refine wz_br (i3NE (rfl : i3 a2 = i3 a2) (show (7 : Int32) = i3 7 from rfl) (by omega) (by omega) (by omega) (by omega)) (fun h1 => ?_) (fun h1 => ?_)
  · replace hP := zE_p hP h1
    refine sl_136_1 (ν := ν) (zb0 hZ) (zbh (c := 0) (k := 3185) hM (Nat.le_of_ble_eq_true rfl)) (xM9 := 0) zC_r a0b _ (i3I (y := a1) (rfl : i3 a1 = i3 a1) (by omega) (by omega) (by omega)) (by omega) (x1 := a1) (by omega) (x2 := a2) (by omega) (x4 := (a2 - 1)) (by omega) (x5 := 0) (by omega) (x6 := 0) (by omega) zU_r hLta0b (Nat.le_of_ble_eq_true rfl) (by omega) (zconso rfl (zconso (zvo (rfl : i3 a1 = i3 a1)) (zconso (zvo (rfl : i3 a2 = i3 a2)) (zconso rfl (zconso (zvo (i3S (rfl : i3 a2 = i3 a2) (show (1 : Int32) = i3 1 from rfl))) (zconso (zvo (show (0 : Int32) = i3 0 from rfl)) (zconso (zvo (show (0 : Int32) = i3 0 from rfl)) (zconso rfl (zconso rfl rfl))))))))) rfl ?_
    intro L5 Z4 y2 y3 hL5 hZ4I kZ4 jZ4 tZ4_x0b gy2 gy3 gL5_0 q9
    replace hP := zl_e3 hP (Eq.symm q9)
    clear q9
    have hZ4U : zU [a0b] Z Z4 := zU_t zU_r jZ4 (zU_b1 (List.Mem.head _) zU_b0)
    have hZ4K : zC [14, 43, 44, 45, 46, 47, 48, 49, 51, 52, 53, 1111, 1112] Z Z4 := zC_t zC_r kZ4 (by decide)
    refine fc_136_2 _ _ (i3 (a2 - 1)) (i3 y2) _ _ _ _ hL5 ?_
    have r6 := zH_f hZ4I 51 a0b a1 5
    have r7 := w3_r ((Z4 51 a0b a1 5) + y2)
    obtain ⟨Z8, hZ8⟩ := zx (zu Z4 51 a0b a1 5 (w3 ((Z4 51 a0b a1 5) + y2)))
    replace hP := zl_e hP hZ8
    have hZ8I := zH_u hZ4I hZ8 (lo := -2147483648) (hi := 2147483647) (by decide) rfl (by omega) ⟨by decide, by decide⟩ (Or.inl (by decide)) rfl
    have hZ8U : zU [a0b] Z Z8 := zU_u hZ4U hZ8 (Or.inr (List.Mem.head _))
    have hZ8K : zC [14, 43, 44, 45, 46, 47, 48, 49, 51, 52, 53, 1111, 1112] Z Z8 := zC_u hZ4K hZ8 (by decide)
    intro μ9 e9
    replace e9 := e9.trans (zm_wI (Z := Z4) (ν := ν) hZ8 (rfl : ((a0b : Nat) : Int) = a0b) (i3I (y := a1) (rfl : i3 a1 = i3 a1) (by omega) (by omega) (by omega)) (show ((5 : Nat) : Int) = 5 from rfl) (i3W (i3A (zm_rd (Z := Z4) (ν := ν) (k := 51) (rfl : ((a0b : Nat) : Int) = a0b) (i3I (y := a1) (rfl : i3 a1 = i3 a1) (by omega) (by omega) (by omega)) (show ((5 : Nat) : Int) = 5 from rfl)) (rfl : i3 y2 = i3 y2))))
    subst e9
    have r9 := zH_f hZ8I 51 a0b a1 4
    have r10 := w3_r ((Z8 51 a0b a1 4) + 1)
    obtain ⟨Z11, hZ11⟩ := zx (zu Z8 51 a0b a1 4 (w3 ((Z8 51 a0b a1 4) + 1)))
    replace hP := zl_e hP hZ11
    have hZ11I := zH_u hZ8I hZ11 (lo := -2147483648) (hi := 2147483647) (by decide) rfl (by omega) ⟨by decide, by decide⟩ (Or.inl (by decide)) rfl
    have hZ11U : zU [a0b] Z Z11 := zU_u hZ8U hZ11 (Or.inr (List.Mem.head _))
    have hZ11K : zC [14, 43, 44, 45, 46, 47, 48, 49, 51, 52, 53, 1111, 1112] Z Z11 := zC_u hZ8K hZ11 (by decide)
    intro μ9 e9
    replace e9 := e9.trans (zm_wI (Z := Z8) (ν := ν) hZ11 (rfl : ((a0b : Nat) : Int) = a0b) (i3I (y := a1) (rfl : i3 a1 = i3 a1) (by omega) (by omega) (by omega)) (show ((4 : Nat) : Int) = 4 from rfl) (i3W (i3A (zm_rd (Z := Z8) (ν := ν) (k := 51) (rfl : ((a0b : Nat) : Int) = a0b) (i3I (y := a1) (rfl : i3 a1 = i3 a1) (by omega) (by omega) (by omega)) (show ((4 : Nat) : Int) = 4 from rfl)) (show (1 : Int32) = i3 1 from rfl))))
    subst e9
    have r12 := zH_k hZ11I 11 a0b 0 13 (lo := 0) (hi := 671) (by decide) rfl
    obtain ⟨Z13, hZ13⟩ := zx (zu Z11 51 a0b a1 7 (Z11 11 a0b 0 13))
    replace hP := zl_e hP hZ13
    have hZ13I := zH_u hZ11I hZ13 (lo := -1) (hi := 671) (by decide) rfl (by omega) ⟨by decide, by decide⟩ (Or.inl (by decide)) rfl
    have hZ13U : zU [a0b] Z Z13 := zU_u hZ11U hZ13 (Or.inr (List.Mem.head _))
    have hZ13K : zC [14, 43, 44, 45, 46, 47, 48, 49, 51, 52, 53, 1111, 1112] Z Z13 := zC_u hZ11K hZ13 (by decide)
    intro μ9 e9
    replace e9 := e9.trans (zm_wI (Z := Z11) (ν := ν) hZ13 (rfl : ((a0b : Nat) : Int) = a0b) (i3I (y := a1) (rfl : i3 a1 = i3 a1) (by omega) (by omega) (by omega)) (show ((7 : Nat) : Int) = 7 from rfl) (zm_rd (Z := Z11) (ν := ν) (k := 11) (rfl : ((a0b : Nat) : Int) = a0b) (show ((0 : Nat) : Int) = 0 from rfl) (show ((13 : Nat) : Int) = 13 from rfl)))
    subst e9
    refine wz_br (i3L (rfl : i3 (a2 - 1) = i3 (a2 - 1)) (show (0 : Int32) = i3 0 from rfl) (by omega) (by omega) (by omega) (by omega)) (fun h14 => ?_) (fun h14 => ?_)
    · replace hP := zE_p hP h14
      exact zlW hP (rfl : i3 y2 = i3 y2) ⟨hZ13I, hZ13K, hZ13U, by omega, by omega, (zLt_o (zLt_o (zLt_o tZ4_x0b hZ8 ⟨by decide, .inl (by decide)⟩) hZ11 ⟨by decide, .inl (by decide)⟩) hZ13 ⟨by decide, .inl (by decide)⟩)⟩
    · replace hP := zE_n hP h14
      refine wz_br (i3Le (show (6 : Int32) = i3 6 from rfl) (rfl : i3 (a2 - 1) = i3 (a2 - 1)) (by omega) (by omega) (by omega) (by omega)) (fun h15 => ?_) (fun h15 => ?_)
      · replace hP := zE_p hP h15
        exact zlW hP (rfl : i3 y2 = i3 y2) ⟨hZ13I, hZ13K, hZ13U, by omega, by omega, (zLt_o (zLt_o (zLt_o tZ4_x0b hZ8 ⟨by decide, .inl (by decide)⟩) hZ11 ⟨by decide, .inl (by decide)⟩) hZ13 ⟨by decide, .inl (by decide)⟩)⟩
      · replace hP := zE_n hP h15
        have r16 := zH_k hZ13I 51 a0b a1 1 (lo := 0) (hi := 3) (by decide) rfl
        refine wz_br (i3L (rfl : i3 y2 = i3 y2) (i3S (show (4 : Int32) = i3 4 from rfl) (zm_rd (Z := Z13) (ν := ν) (k := 51) (rfl : ((a0b : Nat) : Int) = a0b) (i3I (y := a1) (rfl : i3 a1 = i3 a1) (by omega) (by omega) (by omega)) (show ((1 : Nat) : Int) = 1 from rfl))) (by omega) (by omega) (by omega) (by omega)) (fun h17 => ?_) (fun h17 => ?_)
        · replace hP := zE_p hP h17
          exact zlW hP (rfl : i3 y2 = i3 y2) ⟨hZ13I, hZ13K, hZ13U, by omega, by omega, (zLt_o (zLt_o (zLt_o tZ4_x0b hZ8 ⟨by decide, .inl (by decide)⟩) hZ11 ⟨by decide, .inl (by decide)⟩) hZ13 ⟨by decide, .inl (by decide)⟩)⟩
        · replace hP := zE_n hP h17
          refine wz_i0 (i3O (n := 6) (rfl : i3 (a2 - 1) = i3 (a2 - 1)) (by omega) (by omega) (by omega)) ?_
          have r18 := zH_k hZ13I 11 a0b 0 13 (lo := 0) (hi := 671) (by decide) rfl
          have q19 := zu_ne (k' := 11) (b' := a0b) (i' := 0) (j' := 13) hZ13 (fun q => absurd q.1 (by decide))
          obtain ⟨Z20, hZ20⟩ := zx (zu Z13 43 a0b ((-1) + a2) 10 ((Z13 11 a0b 0 13) + 24))
          replace hP := zl_e hP hZ20
          have hZ20I := zH_u hZ13I hZ20 (lo := -1) (hi := 695) (by decide) rfl (by omega) ⟨by decide, by decide⟩ (Or.inl (by decide)) rfl
          have hZ20U : zU [a0b] Z Z20 := zU_u hZ13U hZ20 (Or.inr (List.Mem.head _))
          have hZ20K : zC [14, 43, 44, 45, 46, 47, 48, 49, 51, 52, 53, 1111, 1112] Z Z20 := zC_u hZ13K hZ20 (by decide)
          intro μ9 e9
          replace e9 := e9.trans (zm_wI (Z := Z13) (ν := ν) hZ20 (rfl : ((a0b : Nat) : Int) = a0b) (i3I (y := ((-1) + a2)) (rfl : i3 (a2 - 1) = i3 (a2 - 1)) (by omega) (by omega) (by omega)) (show ((10 : Nat) : Int) = 10 from rfl) (i3A (zm_rd (Z := Z13) (ν := ν) (k := 11) (rfl : ((a0b : Nat) : Int) = a0b) (show ((0 : Nat) : Int) = 0 from rfl) (show ((13 : Nat) : Int) = 13 from rfl)) (show (24 : Int32) = i3 24 from rfl)))
          subst e9
          exact zlW hP (rfl : i3 y2 = i3 y2) ⟨hZ20I, hZ20K, hZ20U, by omega, by omega, (zLt_o (zLt_o (zLt_o (zLt_o tZ4_x0b hZ8 ⟨by decide, .inl (by decide)⟩) hZ11 ⟨by decide, .inl (by decide)⟩) hZ13 ⟨by decide, .inl (by decide)⟩) hZ20 ⟨by decide, .inl (by decide)⟩)⟩
  · replace hP := zE_n hP h1
    refine sl_136_1 (ν := ν) (zb0 hZ) (zbh (c := 0) (k := 3185) hM (Nat.le_of_ble_eq_true rfl)) (xM9 := 0) zC_r a0b _ (i3I (y := a1) (rfl : i3 a1 = i3 a1) (by omega) (by omega) (by omega)) (by omega) (x1 := a1) (by omega) (x2 := a2) (by omega) (x4 := 6) (by omega) (x5 := 0) (by omega) (x6 := 0) (by omega) zU_r hLta0b (Nat.le_of_ble_eq_true rfl) (by omega) (zconso rfl (zconso (zvo (rfl : i3 a1 = i3 a1)) (zconso (zvo (rfl : i3 a2 = i3 a2)) (zconso rfl (zconso (zvo (show (6 : Int32) = i3 6 from rfl)) (zconso (zvo (show (0 : Int32) = i3 0 from rfl)) (zconso (zvo (show (0 : Int32) = i3 0 from rfl)) (zconso rfl (zconso rfl rfl))))))))) rfl ?_
    intro L24 Z23 y21 y22 hL24 hZ23I kZ23 jZ23 tZ23_x0b gy21 gy22 gL24_0 q9
    replace hP := zl_e3 hP (Eq.symm q9)
    clear q9
    have hZ23U : zU [a0b] Z Z23 := zU_t zU_r jZ23 (zU_b1 (List.Mem.head _) zU_b0)
    have hZ23K : zC [14, 43, 44, 45, 46, 47, 48, 49, 51, 52, 53, 1111, 1112] Z Z23 := zC_t zC_r kZ23 (by decide)
    refine fc_136_2 _ _ (i3 6) (i3 y21) _ _ _ _ hL24 ?_
    have r25 := zH_f hZ23I 51 a0b a1 5
    have r26 := w3_r ((Z23 51 a0b a1 5) + y21)
    obtain ⟨Z27, hZ27⟩ := zx (zu Z23 51 a0b a1 5 (w3 ((Z23 51 a0b a1 5) + y21)))
    replace hP := zl_e hP hZ27
    have hZ27I := zH_u hZ23I hZ27 (lo := -2147483648) (hi := 2147483647) (by decide) rfl (by omega) ⟨by decide, by decide⟩ (Or.inl (by decide)) rfl
    have hZ27U : zU [a0b] Z Z27 := zU_u hZ23U hZ27 (Or.inr (List.Mem.head _))
    have hZ27K : zC [14, 43, 44, 45, 46, 47, 48, 49, 51, 52, 53, 1111, 1112] Z Z27 := zC_u hZ23K hZ27 (by decide)
    intro μ9 e9
    replace e9 := e9.trans (zm_wI (Z := Z23) (ν := ν) hZ27 (rfl : ((a0b : Nat) : Int) = a0b) (i3I (y := a1) (rfl : i3 a1 = i3 a1) (by omega) (by omega) (by omega)) (show ((5 : Nat) : Int) = 5 from rfl) (i3W (i3A (zm_rd (Z := Z23) (ν := ν) (k := 51) (rfl : ((a0b : Nat) : Int) = a0b) (i3I (y := a1) (rfl : i3 a1 = i3 a1) (by omega) (by omega) (by omega)) (show ((5 : Nat) : Int) = 5 from rfl)) (rfl : i3 y21 = i3 y21))))
    subst e9
    have r28 := zH_f hZ27I 51 a0b a1 4
    have r29 := w3_r ((Z27 51 a0b a1 4) + 1)
    obtain ⟨Z30, hZ30⟩ := zx (zu Z27 51 a0b a1 4 (w3 ((Z27 51 a0b a1 4) + 1)))
    replace hP := zl_e hP hZ30
    have hZ30I := zH_u hZ27I hZ30 (lo := -2147483648) (hi := 2147483647) (by decide) rfl (by omega) ⟨by decide, by decide⟩ (Or.inl (by decide)) rfl
    have hZ30U : zU [a0b] Z Z30 := zU_u hZ27U hZ30 (Or.inr (List.Mem.head _))
    have hZ30K : zC [14, 43, 44, 45, 46, 47, 48, 49, 51, 52, 53, 1111, 1112] Z Z30 := zC_u hZ27K hZ30 (by decide)
    intro μ9 e9
    replace e9 := e9.trans (zm_wI (Z := Z27) (ν := ν) hZ30 (rfl : ((a0b : Nat) : Int) = a0b) (i3I (y := a1) (rfl : i3 a1 = i3 a1) (by omega) (by omega) (by omega)) (show ((4 : Nat) : Int) = 4 from rfl) (i3W (i3A (zm_rd (Z := Z27) (ν := ν) (k := 51) (rfl : ((a0b : Nat) : Int) = a0b) (i3I (y := a1) (rfl : i3 a1 = i3 a1) (by omega) (by omega) (by omega)) (show ((4 : Nat) : Int) = 4 from rfl)) (show (1 : Int32) = i3 1 from rfl))))
    subst e9
    have r31 := zH_k hZ30I 11 a0b 0 13 (lo := 0) (hi := 671) (by decide) rfl
    obtain ⟨Z32, hZ32⟩ := zx (zu Z30 51 a0b a1 7 (Z30 11 a0b 0 13))
    replace hP := zl_e hP hZ32
    have hZ32I := zH_u hZ30I hZ32 (lo := -1) (hi := 671) (by decide) rfl (by omega) ⟨by decide, by decide⟩ (Or.inl (by decide)) rfl
    have hZ32U : zU [a0b] Z Z32 := zU_u hZ30U hZ32 (Or.inr (List.Mem.head _))
    have hZ32K : zC [14, 43, 44, 45, 46, 47, 48, 49, 51, 52, 53, 1111, 1112] Z Z32 := zC_u hZ30K hZ32 (by decide)
    intro μ9 e9
    replace e9 := e9.trans (zm_wI (Z := Z30) (ν := ν) hZ32 (rfl : ((a0b : Nat) : Int) = a0b) (i3I (y := a1) (rfl : i3 a1 = i3 a1) (by omega) (by omega) (by omega)) (show ((7 : Nat) : Int) = 7 from rfl) (zm_rd (Z := Z30) (ν := ν) (k := 11) (rfl : ((a0b : Nat) : Int) = a0b) (show ((0 : Nat) : Int) = 0 from rfl) (show ((13 : Nat) : Int) = 13 from rfl)))
    subst e9
    refine wz_i0 (Eq.trans (i3L (rfl : i3 6 = i3 6) (show (0 : Int32) = i3 0 from rfl) (by omega) (by omega) (by omega) (by omega)) (decide_eq_false (by omega))) ?_
    refine wz_i1 (Eq.trans (i3Le (show (6 : Int32) = i3 6 from rfl) (rfl : i3 6 = i3 6) (by omega) (by omega) (by omega) (by omega)) (decide_eq_true (by omega))) ?_
    exact zlW hP (rfl : i3 y21 = i3 y21) ⟨hZ32I, hZ32K, hZ32U, by omega, by omega, (zLt_o (zLt_o (zLt_o tZ23_x0b hZ27 ⟨by decide, .inl (by decide)⟩) hZ30 ⟨by decide, .inl (by decide)⟩) hZ32 ⟨by decide, .inl (by decide)⟩)⟩
/- yX7_stopAt -/
def zl_139_1 (x3 : Int) : Nat → qz_Z → Int → Int → Int × Int
  | 0, Z, x4, x5 => (x4, x5)
  | m + 1, Z, x4, x5 => (if x3 ≤ x5 then (x4, x5) else zl_139_1 x3 m Z (x4 / 10) (x5 + 1))
theorem sl_139_1 {s : zSM} {Z : qz_Z} {ν : qz_N} (hZ : zH s Z) (hM : s.2 + 0 ≤ 1000000000) {x3 : Int} (gx3 : -24 ≤ x3 ∧ x3 ≤ 27) {x4 : Int} (gx4 : 0 ≤ x4 ∧ x4 ≤ 999999) {x5 : Int} (gx5 : 0 ≤ x5 ∧ x5 ≤ 27) {k : wz_K} {R : wz_R} {L : qz_L} (hL : qz_fg [false, false, false, true, true, true] L = [none, none, none, some (.inl (i3 x3)), some (.inl (i3 x4)), some (.inl (i3 x5))]) {T : Int × Int} (hP : zE T (zl_139_1 x3 ((27 - x5).toNat + 1) Z x4 x5)) (hk : ∀ (L9 : qz_L) (yx4 yx5 : Int), qz_fg [false, false, false, false, true, false] L9 = [none, none, none, none, some (.inl (i3 yx4)), none] → (0 ≤ yx4 ∧ yx4 ≤ 999999) → (0 ≤ yx5 ∧ yx5 ≤ 27) → zE T ((yx4, yx5)) → k 0 (L9, [], zm Z ν)) : wz_loop qb_139_1 65536 k R (L, [], zm Z ν) := by
  refine wz_lp sb_139_1 (fun m x => ∃ x4 : Int, ∃ x5 : Int, qz_fg [false, false, false, true, true, true] x.1 = [none, none, none, some (.inl (i3 x3)), some (.inl (i3 x4)), some (.inl (i3 x5))] ∧ x.2 = ([], zm Z ν) ∧ m = (27 - x5).toNat ∧ (0 ≤ x4 ∧ x4 ≤ 999999) ∧ (0 ≤ x5 ∧ x5 ≤ 27) ∧ zE T (zl_139_1 x3 (m + 1) Z x4 x5)) ?_ 65536 ((27 - x5).toNat) _ (by omega) ⟨x4, x5, hL, rfl, rfl, gx4, gx5, hP⟩
  clear hP gx4 gx5 hL
  clear x4 x5
  rintro m ⟨L, st, μ⟩ ⟨x4, x5, hL, hx, hm, gx4, gx5, hP⟩
  cases hx
  refine fb_139_1 (i3 x3) (i3 x4) (i3 x5) _ _ _ _ hL ?_
  refine wz_br (i3Le (rfl : i3 x3 = i3 x3) (rfl : i3 x5 = i3 x5) (by omega) (by omega) (by omega) (by omega)) (fun h1 => ?_) (fun h1 => ?_)
  · replace hP := zE_p hP h1
    exact hk _ _ _ (zconso rfl (zconso rfl (zconso rfl (zconso rfl (zconso (zvo (rfl : i3 x4 = i3 x4)) (zconso rfl rfl))))))  (by omega) (by omega)  hP
  · replace hP := zE_n hP h1
    obtain ⟨m2, rfl⟩ : ∃ m2, m = m2 + 1 := ⟨m - 1, by omega⟩
    exact wz_k1 ⟨m2, by omega, (x4 / 10), (x5 + 1), (zconso rfl (zconso rfl (zconso rfl (zconso (zvo (rfl : i3 x3 = i3 x3)) (zconso (zvo (i3D (rfl : i3 x4 = i3 x4) (show (10 : Int32) = i3 10 from rfl) (by omega) (by omega) (by omega) (by omega))) (zconso (zvo (i3A (rfl : i3 x5 = i3 x5) (show (1 : Int32) = i3 1 from rfl))) rfl)))))), rfl,  by omega, by omega, by omega,  hP⟩
/- yX7_stopAt -/
def zf_139 (Z : qz_Z) (a0b : Int) (a0ij : Int) (a1 : Int) : Int := (zlet (zf_133 Z (Z 51 a0b a0ij 3)) (fun v2 => (if ((a1 % 24) - (Z 51 a0b a0ij 0)) < 0 then (-1) else (if ((v2 - 1) - ((a1 % 24) - (Z 51 a0b a0ij 0))) < 0 then (-1) else (if (z2 (fun x y => x &&& y) (z2 (fun x y => x >>> (y &&& 31)) (Z 51 a0b a0ij 2) ((a1 / 24) % 7)) 1) ≠ 0 then (zlet2 (zl_139_1 ((v2 - 1) - ((a1 % 24) - (Z 51 a0b a0ij 0))) 28 Z (Z 51 a0b a0ij 3) 0) (fun y11 y12 => (y11 % 10))) else (-1))))))
theorem sp_139 {s : zSM} {Z : qz_Z} {ν : qz_N} (hZ : zH s Z) (a0b : Nat) (a0i : Nat) {a0ij : Int} (ea0i : (a0i : Int) = a0ij) (ga0i : 0 ≤ a0ij ∧ a0ij ≤ 1) {a1 : Int} (ga1 : 0 ≤ a1 ∧ a1 ≤ 671) (hM : s.2 + 0 ≤ 1000000000) : ∃ P : Int, P = zf_139 Z a0b a0ij a1 ∧ (qf_139 [.inr (.inr (some (51, a0b, a0i))), .inl (i3 a1)] (zm Z ν) = some (zm Z ν, .inl (some (.inl (i3 P)))) ∧ -1 ≤ P ∧ P ≤ 9) := by
  obtain ⟨P, hP⟩ := zx (zf_139 Z a0b a0ij a1)
  refine zc_R (Q := fun P => -1 ≤ P ∧ P ≤ 9) hP (fw_139 a0b a0i (i3 a1) _ _ ?_)
  replace hP : zE P (zf_139 Z a0b a0ij a1) := hP
  unfold zf_139 at hP
  have r1 := zH_k hZ 51 a0b a0ij 3 (lo := 0) (hi := 999999) (by decide) rfl
  obtain ⟨v2, hv2, c9, lv2, uv2⟩ := sp_133z (ν := ν) hZ (a0 := (Z 51 a0b a0ij 3)) (by omega) (zbh (c := 0) (k := 0) hM (Nat.le_of_ble_eq_true rfl))
  replace hP := zl_e hP hv2
  refine wz_cI_of (zas (zcons (zvi (zm_rd (Z := Z) (ν := ν) (k := 51) (rfl : ((a0b : Nat) : Int) = a0b) ea0i (show ((3 : Nat) : Int) = 3 from rfl))) rfl) c9) ?_
  clear c9
  have r3 := zH_k hZ 51 a0b a0ij 0 (lo := 0) (hi := 18) (by decide) rfl
  refine wz_br (i3L (i3S (i3R (rfl : i3 a1 = i3 a1) (show (24 : Int32) = i3 24 from rfl) (by omega) (by omega) (by omega) (by omega)) (zm_rd (Z := Z) (ν := ν) (k := 51) (rfl : ((a0b : Nat) : Int) = a0b) ea0i (show ((0 : Nat) : Int) = 0 from rfl))) (show (0 : Int32) = i3 0 from rfl) (by omega) (by omega) (by omega) (by omega)) (fun h4 => ?_) (fun h4 => ?_)
  · replace hP := zE_p hP h4
    exact zlR hP (show (-1 : Int32) = i3 (-1) from rfl) ⟨by omega, by omega⟩
  · replace hP := zE_n hP h4
    refine wz_br (i3L (i3S (i3S (rfl : i3 v2 = i3 v2) (show (1 : Int32) = i3 1 from rfl)) (i3S (i3R (rfl : i3 a1 = i3 a1) (show (24 : Int32) = i3 24 from rfl) (by omega) (by omega) (by omega) (by omega)) (zm_rd (Z := Z) (ν := ν) (k := 51) (rfl : ((a0b : Nat) : Int) = a0b) ea0i (show ((0 : Nat) : Int) = 0 from rfl)))) (show (0 : Int32) = i3 0 from rfl) (by omega) (by omega) (by omega) (by omega)) (fun h5 => ?_) (fun h5 => ?_)
    · replace hP := zE_p hP h5
      exact zlR hP (show (-1 : Int32) = i3 (-1) from rfl) ⟨by omega, by omega⟩
    · replace hP := zE_n hP h5
      have r6 := zH_k hZ 51 a0b a0ij 2 (lo := 0) (hi := 127) (by decide) rfl
      have r7 := z2_r (fun x y => x >>> (y &&& 31)) (Z 51 a0b a0ij 2) ((a1 / 24) % 7)
      have r8 := z2_r (fun x y => x &&& y) (z2 (fun x y => x >>> (y &&& 31)) (Z 51 a0b a0ij 2) ((a1 / 24) % 7)) 1
      have r9 := z2_and (z2 (fun x y => x >>> (y &&& 31)) (Z 51 a0b a0ij 2) ((a1 / 24) % 7)) (y := 1) (by omega) (by omega)
      refine wz_br (i3NE (i3Z (fun x y => x &&& y) (i3Z (fun x y => x >>> (y &&& 31)) (zm_rd (Z := Z) (ν := ν) (k := 51) (rfl : ((a0b : Nat) : Int) = a0b) ea0i (show ((2 : Nat) : Int) = 2 from rfl)) (i3R (i3D (rfl : i3 a1 = i3 a1) (show (24 : Int32) = i3 24 from rfl) (by omega) (by omega) (by omega) (by omega)) (show (7 : Int32) = i3 7 from rfl) (by omega) (by omega) (by omega) (by omega))) (show (1 : Int32) = i3 1 from rfl)) (show (0 : Int32) = i3 0 from rfl) (by omega) (by omega) (by omega) (by omega)) (fun h10 => ?_) (fun h10 => ?_)
      · replace hP := zE_p hP h10
        refine sl_139_1 (ν := ν) hZ (zbh (c := 0) (k := 0) hM (Nat.le_of_ble_eq_true rfl)) (x3 := ((v2 - 1) - ((a1 % 24) - (Z 51 a0b a0ij 0)))) (by omega) (x4 := (Z 51 a0b a0ij 3)) (by omega) (x5 := 0) (by omega)  (zconso rfl (zconso rfl (zconso rfl (zconso (zvo (i3S (i3S (rfl : i3 v2 = i3 v2) (show (1 : Int32) = i3 1 from rfl)) (i3S (i3R (rfl : i3 a1 = i3 a1) (show (24 : Int32) = i3 24 from rfl) (by omega) (by omega) (by omega) (by omega)) (zm_rd (Z := Z) (ν := ν) (k := 51) (rfl : ((a0b : Nat) : Int) = a0b) ea0i (show ((0 : Nat) : Int) = 0 from rfl))))) (zconso (zvo (zm_rd (Z := Z) (ν := ν) (k := 51) (rfl : ((a0b : Nat) : Int) = a0b) ea0i (show ((3 : Nat) : Int) = 3 from rfl))) (zconso (zvo (show (0 : Int32) = i3 0 from rfl)) rfl)))))) rfl ?_
        intro L13 y11 y12 hL13 gy11 gy12 q9
        replace hP := zl_e2 hP (Eq.symm q9)
        clear q9
        refine fc_139_2 (i3 y11) _ _ _ _ hL13 ?_
        exact zlR hP (i3R (rfl : i3 y11 = i3 y11) (show (10 : Int32) = i3 10 from rfl) (by omega) (by omega) (by omega) (by omega)) ⟨by omega, by omega⟩
      · replace hP := zE_n hP h10
        exact zlR hP (show (-1 : Int32) = i3 (-1) from rfl) ⟨by omega, by omega⟩
/- yX10_findWarmth -/
def zf_168 (Z : qz_Z) (a0b : Int) (a0ij : Int) (a1 : Int) : qz_Z := (if a1 ≤ (Z 43 a0b a0ij 5) then (if ((Z 43 a0b a0ij 5) - ((Z 43 a0b a0ij 2) + (Z 43 a0b a0ij 7))) ≤ a1 then (if (Z 43 a0b a0ij 3) ≤ a1 then (if (a1 - (Z 43 a0b a0ij 1)) ≤ (Z 43 a0b a0ij 3) then (if (Z 43 a0b a0ij 3) = a1 then (zlet (zu Z 43 a0b a0ij 5 (Z 43 a0b a0ij 3)) (fun Z11 => (zlet (zu Z11 43 a0b a0ij 7 0) (fun Z12 => Z12)))) else (zlet (zu Z 43 a0b a0ij 8 (w3 ((Z 43 a0b a0ij 8) + 1))) (fun Z15 => (zlet (zu Z15 43 a0b a0ij 9 (w3 ((Z15 43 a0b a0ij 9) + 1))) (fun Z18 => (zlet (zu Z18 43 a0b a0ij 5 (Z 43 a0b a0ij 3)) (fun Z19 => (zlet (zu Z19 43 a0b a0ij 7 0) (fun Z20 => Z20))))))))) else (if (a1 - (Z 43 a0b a0ij 1)) = a1 then (zlet (zu Z 43 a0b a0ij 5 (a1 - (Z 43 a0b a0ij 1))) (fun Z22 => (zlet (zu Z22 43 a0b a0ij 7 0) (fun Z23 => Z23)))) else (zlet (zu Z 43 a0b a0ij 8 (w3 ((Z 43 a0b a0ij 8) + 1))) (fun Z26 => (zlet (zu Z26 43 a0b a0ij 9 (w3 ((Z26 43 a0b a0ij 9) + 1))) (fun Z29 => (zlet (zu Z29 43 a0b a0ij 5 (a1 - (Z 43 a0b a0ij 1))) (fun Z30 => (zlet (zu Z30 43 a0b a0ij 7 0) (fun Z31 => Z31)))))))))) else (if (Z 43 a0b a0ij 3) ≤ (a1 + (Z 43 a0b a0ij 1)) then (if (Z 43 a0b a0ij 3) = a1 then (zlet (zu Z 43 a0b a0ij 5 (Z 43 a0b a0ij 3)) (fun Z35 => (zlet (zu Z35 43 a0b a0ij 7 0) (fun Z36 => Z36)))) else (zlet (zu Z 43 a0b a0ij 8 (w3 ((Z 43 a0b a0ij 8) + 1))) (fun Z39 => (zlet (zu Z39 43 a0b a0ij 9 (w3 ((Z39 43 a0b a0ij 9) + 1))) (fun Z42 => (zlet (zu Z42 43 a0b a0ij 5 (Z 43 a0b a0ij 3)) (fun Z43 => (zlet (zu Z43 43 a0b a0ij 7 0) (fun Z44 => Z44))))))))) else (if (a1 + (Z 43 a0b a0ij 1)) = a1 then (zlet (zu Z 43 a0b a0ij 5 (a1 + (Z 43 a0b a0ij 1))) (fun Z46 => (zlet (zu Z46 43 a0b a0ij 7 0) (fun Z47 => Z47)))) else (zlet (zu Z 43 a0b a0ij 8 (w3 ((Z 43 a0b a0ij 8) + 1))) (fun Z50 => (zlet (zu Z50 43 a0b a0ij 9 (w3 ((Z50 43 a0b a0ij 9) + 1))) (fun Z53 => (zlet (zu Z53 43 a0b a0ij 5 (a1 + (Z 43 a0b a0ij 1))) (fun Z54 => (zlet (zu Z54 43 a0b a0ij 7 0) (fun Z55 => Z55))))))))))) else (if (Z 43 a0b a0ij 3) ≤ ((Z 43 a0b a0ij 5) - ((Z 43 a0b a0ij 2) + (Z 43 a0b a0ij 7))) then (if (((Z 43 a0b a0ij 5) - ((Z 43 a0b a0ij 2) + (Z 43 a0b a0ij 7))) - (Z 43 a0b a0ij 1)) ≤ (Z 43 a0b a0ij 3) then (if (Z 43 a0b a0ij 3) = ((Z 43 a0b a0ij 5) - ((Z 43 a0b a0ij 2) + (Z 43 a0b a0ij 7))) then (zlet (zu Z 43 a0b a0ij 5 (Z 43 a0b a0ij 3)) (fun Z61 => (zlet (zu Z61 43 a0b a0ij 7 0) (fun Z62 => Z62)))) else (zlet (zu Z 43 a0b a0ij 8 (w3 ((Z 43 a0b a0ij 8) + 1))) (fun Z65 => (zlet (zu Z65 43 a0b a0ij 9 (w3 ((Z65 43 a0b a0ij 9) + 1))) (fun Z68 => (zlet (zu Z68 43 a0b a0ij 5 (Z 43 a0b a0ij 3)) (fun Z69 => (zlet (zu Z69 43 a0b a0ij 7 0) (fun Z70 => Z70))))))))) else (if (((Z 43 a0b a0ij 5) - ((Z 43 a0b a0ij 2) + (Z 43 a0b a0ij 7))) - (Z 43 a0b a0ij 1)) = ((Z 43 a0b a0ij 5) - ((Z 43 a0b a0ij 2) + (Z 43 a0b a0ij 7))) then (zlet (zu Z 43 a0b a0ij 5 (((Z 43 a0b a0ij 5) - ((Z 43 a0b a0ij 2) + (Z 43 a0b a0ij 7))) - (Z 43 a0b a0ij 1))) (fun Z72 => (zlet (zu Z72 43 a0b a0ij 7 0) (fun Z73 => Z73)))) else (zlet (zu Z 43 a0b a0ij 8 (w3 ((Z 43 a0b a0ij 8) + 1))) (fun Z76 => (zlet (zu Z76 43 a0b a0ij 9 (w3 ((Z76 43 a0b a0ij 9) + 1))) (fun Z79 => (zlet (zu Z79 43 a0b a0ij 5 (((Z 43 a0b a0ij 5) - ((Z 43 a0b a0ij 2) + (Z 43 a0b a0ij 7))) - (Z 43 a0b a0ij 1))) (fun Z80 => (zlet (zu Z80 43 a0b a0ij 7 0) (fun Z81 => Z81)))))))))) else (if (Z 43 a0b a0ij 3) ≤ (((Z 43 a0b a0ij 5) - ((Z 43 a0b a0ij 2) + (Z 43 a0b a0ij 7))) + (Z 43 a0b a0ij 1)) then (if (Z 43 a0b a0ij 3) = ((Z 43 a0b a0ij 5) - ((Z 43 a0b a0ij 2) + (Z 43 a0b a0ij 7))) then (zlet (zu Z 43 a0b a0ij 5 (Z 43 a0b a0ij 3)) (fun Z85 => (zlet (zu Z85 43 a0b a0ij 7 0) (fun Z86 => Z86)))) else (zlet (zu Z 43 a0b a0ij 8 (w3 ((Z 43 a0b a0ij 8) + 1))) (fun Z89 => (zlet (zu Z89 43 a0b a0ij 9 (w3 ((Z89 43 a0b a0ij 9) + 1))) (fun Z92 => (zlet (zu Z92 43 a0b a0ij 5 (Z 43 a0b a0ij 3)) (fun Z93 => (zlet (zu Z93 43 a0b a0ij 7 0) (fun Z94 => Z94))))))))) else (if (((Z 43 a0b a0ij 5) - ((Z 43 a0b a0ij 2) + (Z 43 a0b a0ij 7))) + (Z 43 a0b a0ij 1)) = ((Z 43 a0b a0ij 5) - ((Z 43 a0b a0ij 2) + (Z 43 a0b a0ij 7))) then (zlet (zu Z 43 a0b a0ij 5 (((Z 43 a0b a0ij 5) - ((Z 43 a0b a0ij 2) + (Z 43 a0b a0ij 7))) + (Z 43 a0b a0ij 1))) (fun Z96 => (zlet (zu Z96 43 a0b a0ij 7 0) (fun Z97 => Z97)))) else (zlet (zu Z 43 a0b a0ij 8 (w3 ((Z 43 a0b a0ij 8) + 1))) (fun Z100 => (zlet (zu Z100 43 a0b a0ij 9 (w3 ((Z100 43 a0b a0ij 9) + 1))) (fun Z103 => (zlet (zu Z103 43 a0b a0ij 5 (((Z 43 a0b a0ij 5) - ((Z 43 a0b a0ij 2) + (Z 43 a0b a0ij 7))) + (Z 43 a0b a0ij 1))) (fun Z104 => (zlet (zu Z104 43 a0b a0ij 7 0) (fun Z105 => Z105)))))))))))) else (if a1 ≤ ((Z 43 a0b a0ij 5) + ((Z 43 a0b a0ij 2) + (Z 43 a0b a0ij 7))) then (if (Z 43 a0b a0ij 3) ≤ a1 then (if (a1 - (Z 43 a0b a0ij 1)) ≤ (Z 43 a0b a0ij 3) then (if (Z 43 a0b a0ij 3) = a1 then (zlet (zu Z 43 a0b a0ij 5 (Z 43 a0b a0ij 3)) (fun Z114 => (zlet (zu Z114 43 a0b a0ij 7 0) (fun Z115 => Z115)))) else (zlet (zu Z 43 a0b a0ij 8 (w3 ((Z 43 a0b a0ij 8) + 1))) (fun Z118 => (zlet (zu Z118 43 a0b a0ij 9 (w3 ((Z118 43 a0b a0ij 9) + 1))) (fun Z121 => (zlet (zu Z121 43 a0b a0ij 5 (Z 43 a0b a0ij 3)) (fun Z122 => (zlet (zu Z122 43 a0b a0ij 7 0) (fun Z123 => Z123))))))))) else (if (a1 - (Z 43 a0b a0ij 1)) = a1 then (zlet (zu Z 43 a0b a0ij 5 (a1 - (Z 43 a0b a0ij 1))) (fun Z125 => (zlet (zu Z125 43 a0b a0ij 7 0) (fun Z126 => Z126)))) else (zlet (zu Z 43 a0b a0ij 8 (w3 ((Z 43 a0b a0ij 8) + 1))) (fun Z129 => (zlet (zu Z129 43 a0b a0ij 9 (w3 ((Z129 43 a0b a0ij 9) + 1))) (fun Z132 => (zlet (zu Z132 43 a0b a0ij 5 (a1 - (Z 43 a0b a0ij 1))) (fun Z133 => (zlet (zu Z133 43 a0b a0ij 7 0) (fun Z134 => Z134)))))))))) else (if (Z 43 a0b a0ij 3) ≤ (a1 + (Z 43 a0b a0ij 1)) then (if (Z 43 a0b a0ij 3) = a1 then (zlet (zu Z 43 a0b a0ij 5 (Z 43 a0b a0ij 3)) (fun Z138 => (zlet (zu Z138 43 a0b a0ij 7 0) (fun Z139 => Z139)))) else (zlet (zu Z 43 a0b a0ij 8 (w3 ((Z 43 a0b a0ij 8) + 1))) (fun Z142 => (zlet (zu Z142 43 a0b a0ij 9 (w3 ((Z142 43 a0b a0ij 9) + 1))) (fun Z145 => (zlet (zu Z145 43 a0b a0ij 5 (Z 43 a0b a0ij 3)) (fun Z146 => (zlet (zu Z146 43 a0b a0ij 7 0) (fun Z147 => Z147))))))))) else (if (a1 + (Z 43 a0b a0ij 1)) = a1 then (zlet (zu Z 43 a0b a0ij 5 (a1 + (Z 43 a0b a0ij 1))) (fun Z149 => (zlet (zu Z149 43 a0b a0ij 7 0) (fun Z150 => Z150)))) else (zlet (zu Z 43 a0b a0ij 8 (w3 ((Z 43 a0b a0ij 8) + 1))) (fun Z153 => (zlet (zu Z153 43 a0b a0ij 9 (w3 ((Z153 43 a0b a0ij 9) + 1))) (fun Z156 => (zlet (zu Z156 43 a0b a0ij 5 (a1 + (Z 43 a0b a0ij 1))) (fun Z157 => (zlet (zu Z157 43 a0b a0ij 7 0) (fun Z158 => Z158))))))))))) else (if (Z 43 a0b a0ij 3) ≤ ((Z 43 a0b a0ij 5) + ((Z 43 a0b a0ij 2) + (Z 43 a0b a0ij 7))) then (if (((Z 43 a0b a0ij 5) + ((Z 43 a0b a0ij 2) + (Z 43 a0b a0ij 7))) - (Z 43 a0b a0ij 1)) ≤ (Z 43 a0b a0ij 3) then (if (Z 43 a0b a0ij 3) = ((Z 43 a0b a0ij 5) + ((Z 43 a0b a0ij 2) + (Z 43 a0b a0ij 7))) then (zlet (zu Z 43 a0b a0ij 5 (Z 43 a0b a0ij 3)) (fun Z164 => (zlet (zu Z164 43 a0b a0ij 7 0) (fun Z165 => Z165)))) else (zlet (zu Z 43 a0b a0ij 8 (w3 ((Z 43 a0b a0ij 8) + 1))) (fun Z168 => (zlet (zu Z168 43 a0b a0ij 9 (w3 ((Z168 43 a0b a0ij 9) + 1))) (fun Z171 => (zlet (zu Z171 43 a0b a0ij 5 (Z 43 a0b a0ij 3)) (fun Z172 => (zlet (zu Z172 43 a0b a0ij 7 0) (fun Z173 => Z173))))))))) else (if (((Z 43 a0b a0ij 5) + ((Z 43 a0b a0ij 2) + (Z 43 a0b a0ij 7))) - (Z 43 a0b a0ij 1)) = ((Z 43 a0b a0ij 5) + ((Z 43 a0b a0ij 2) + (Z 43 a0b a0ij 7))) then (zlet (zu Z 43 a0b a0ij 5 (((Z 43 a0b a0ij 5) + ((Z 43 a0b a0ij 2) + (Z 43 a0b a0ij 7))) - (Z 43 a0b a0ij 1))) (fun Z175 => (zlet (zu Z175 43 a0b a0ij 7 0) (fun Z176 => Z176)))) else (zlet (zu Z 43 a0b a0ij 8 (w3 ((Z 43 a0b a0ij 8) + 1))) (fun Z179 => (zlet (zu Z179 43 a0b a0ij 9 (w3 ((Z179 43 a0b a0ij 9) + 1))) (fun Z182 => (zlet (zu Z182 43 a0b a0ij 5 (((Z 43 a0b a0ij 5) + ((Z 43 a0b a0ij 2) + (Z 43 a0b a0ij 7))) - (Z 43 a0b a0ij 1))) (fun Z183 => (zlet (zu Z183 43 a0b a0ij 7 0) (fun Z184 => Z184)))))))))) else (if (Z 43 a0b a0ij 3) ≤ (((Z 43 a0b a0ij 5) + ((Z 43 a0b a0ij 2) + (Z 43 a0b a0ij 7))) + (Z 43 a0b a0ij 1)) then (if (Z 43 a0b a0ij 3) = ((Z 43 a0b a0ij 5) + ((Z 43 a0b a0ij 2) + (Z 43 a0b a0ij 7))) then (zlet (zu Z 43 a0b a0ij 5 (Z 43 a0b a0ij 3)) (fun Z188 => (zlet (zu Z188 43 a0b a0ij 7 0) (fun Z189 => Z189)))) else (zlet (zu Z 43 a0b a0ij 8 (w3 ((Z 43 a0b a0ij 8) + 1))) (fun Z192 => (zlet (zu Z192 43 a0b a0ij 9 (w3 ((Z192 43 a0b a0ij 9) + 1))) (fun Z195 => (zlet (zu Z195 43 a0b a0ij 5 (Z 43 a0b a0ij 3)) (fun Z196 => (zlet (zu Z196 43 a0b a0ij 7 0) (fun Z197 => Z197))))))))) else (if (((Z 43 a0b a0ij 5) + ((Z 43 a0b a0ij 2) + (Z 43 a0b a0ij 7))) + (Z 43 a0b a0ij 1)) = ((Z 43 a0b a0ij 5) + ((Z 43 a0b a0ij 2) + (Z 43 a0b a0ij 7))) then (zlet (zu Z 43 a0b a0ij 5 (((Z 43 a0b a0ij 5) + ((Z 43 a0b a0ij 2) + (Z 43 a0b a0ij 7))) + (Z 43 a0b a0ij 1))) (fun Z199 => (zlet (zu Z199 43 a0b a0ij 7 0) (fun Z200 => Z200)))) else (zlet (zu Z 43 a0b a0ij 8 (w3 ((Z 43 a0b a0ij 8) + 1))) (fun Z203 => (zlet (zu Z203 43 a0b a0ij 9 (w3 ((Z203 43 a0b a0ij 9) + 1))) (fun Z206 => (zlet (zu Z206 43 a0b a0ij 5 (((Z 43 a0b a0ij 5) + ((Z 43 a0b a0ij 2) + (Z 43 a0b a0ij 7))) + (Z 43 a0b a0ij 1))) (fun Z207 => (zlet (zu Z207 43 a0b a0ij 7 0) (fun Z208 => Z208)))))))))))))
theorem sp_168 {s : zSM} {Z : qz_Z} {ν : qz_N} (hZ : zH s Z) (a0b : Nat) (a0i : Nat) {a0ij : Int} (ea0i : (a0i : Int) = a0ij) (ga0i : 0 ≤ a0ij ∧ a0ij ≤ 5) {a1 : Int} (ga1 : 0 ≤ a1 ∧ a1 ≤ 40) (hM : s.2 + 0 ≤ 1000000000) : ∃ P : qz_Z, P = zf_168 Z a0b a0ij a1 ∧ (qf_168 [.inr (.inr (some (43, a0b, a0i))), .inl (i3 a1)] (zm Z ν) = some (zm P ν, .inl none) ∧ zH s P ∧ zC [43] Z P ∧ zU [a0b] Z P) := by
  obtain ⟨P, hP⟩ := zx (zf_168 Z a0b a0ij a1)
  refine zc_V (Q := fun P => zH s P ∧ zC [43] Z P ∧ zU [a0b] Z P) hP (fw_168 a0b a0i (i3 a1) _ _ ?_)
  replace hP : zE P (zf_168 Z a0b a0ij a1) := hP
  unfold zf_168 at hP
  have r1 := zH_k hZ 43 a0b a0ij 5 (lo := 0) (hi := 40) (by decide) rfl
  refine wz_br (i3Le (rfl : i3 a1 = i3 a1) (zm_rd (Z := Z) (ν := ν) (k := 43) (rfl : ((a0b : Nat) : Int) = a0b) ea0i (show ((5 : Nat) : Int) = 5 from rfl)) (by omega) (by omega) (by omega) (by omega)) (fun h2 => ?_) (fun h2 => ?_)
  · replace hP := zE_p hP h2
    have r3 := zH_k hZ 43 a0b a0ij 2 (lo := 0) (hi := 9) (by decide) rfl
    have r4 := zH_d hZ a0b a0ij (zbh (c := 0) (k := 0) hM (Nat.le_of_ble_eq_true rfl))
    refine wz_br (i3Le (i3S (zm_rd (Z := Z) (ν := ν) (k := 43) (rfl : ((a0b : Nat) : Int) = a0b) ea0i (show ((5 : Nat) : Int) = 5 from rfl)) (i3A (zm_rd (Z := Z) (ν := ν) (k := 43) (rfl : ((a0b : Nat) : Int) = a0b) ea0i (show ((2 : Nat) : Int) = 2 from rfl)) (zm_rd (Z := Z) (ν := ν) (k := 43) (rfl : ((a0b : Nat) : Int) = a0b) ea0i (show ((7 : Nat) : Int) = 7 from rfl)))) (rfl : i3 a1 = i3 a1) (by omega) (by omega) (by omega) (by omega)) (fun h5 => ?_) (fun h5 => ?_)
    · replace hP := zE_p hP h5
      have r6 := zH_k hZ 43 a0b a0ij 3 (lo := 0) (hi := 40) (by decide) rfl
      refine wz_br (i3Le (zm_rd (Z := Z) (ν := ν) (k := 43) (rfl : ((a0b : Nat) : Int) = a0b) ea0i (show ((3 : Nat) : Int) = 3 from rfl)) (rfl : i3 a1 = i3 a1) (by omega) (by omega) (by omega) (by omega)) (fun h7 => ?_) (fun h7 => ?_)
      · replace hP := zE_p hP h7
        have r8 := zH_k hZ 43 a0b a0ij 1 (lo := 0) (hi := 9) (by decide) rfl
        refine wz_br (i3Le (i3S (rfl : i3 a1 = i3 a1) (zm_rd (Z := Z) (ν := ν) (k := 43) (rfl : ((a0b : Nat) : Int) = a0b) ea0i (show ((1 : Nat) : Int) = 1 from rfl))) (zm_rd (Z := Z) (ν := ν) (k := 43) (rfl : ((a0b : Nat) : Int) = a0b) ea0i (show ((3 : Nat) : Int) = 3 from rfl)) (by omega) (by omega) (by omega) (by omega)) (fun h9 => ?_) (fun h9 => ?_)
        · replace hP := zE_p hP h9
          refine wz_br (i3E (zm_rd (Z := Z) (ν := ν) (k := 43) (rfl : ((a0b : Nat) : Int) = a0b) ea0i (show ((3 : Nat) : Int) = 3 from rfl)) (rfl : i3 a1 = i3 a1) (by omega) (by omega) (by omega) (by omega)) (fun h10 => ?_) (fun h10 => ?_)
          · replace hP := zE_p hP h10
            obtain ⟨Z11, hZ11⟩ := zx (zu Z 43 a0b a0ij 5 (Z 43 a0b a0ij 3))
            replace hP := zl_e hP hZ11
            have hZ11I := zH_u hZ hZ11 (lo := 0) (hi := 40) (by decide) rfl (by omega) ⟨by decide, by decide⟩ (Or.inl (by decide)) rfl
            have hZ11U : zU [a0b] Z Z11 := zU_u zU_r hZ11 (Or.inr (List.Mem.head _))
            have hZ11K : zC [43] Z Z11 := zC_u zC_r hZ11 (by decide)
            intro μ9 e9
            replace e9 := e9.trans (zm_wI (Z := Z) (ν := ν) hZ11 (rfl : ((a0b : Nat) : Int) = a0b) ea0i (show ((5 : Nat) : Int) = 5 from rfl) (zm_rd (Z := Z) (ν := ν) (k := 43) (rfl : ((a0b : Nat) : Int) = a0b) ea0i (show ((3 : Nat) : Int) = 3 from rfl)))
            subst e9
            obtain ⟨Z12, hZ12⟩ := zx (zu Z11 43 a0b a0ij 7 0)
            replace hP := zl_e hP hZ12
            have hZ12I := zH_0 hZ11I hZ12 (by decide) (Or.inl (by decide))
            have hZ12U : zU [a0b] Z Z12 := zU_u hZ11U hZ12 (Or.inr (List.Mem.head _))
            have hZ12K : zC [43] Z Z12 := zC_u hZ11K hZ12 (by decide)
            intro μ9 e9
            replace e9 := e9.trans (zm_wI (Z := Z11) (ν := ν) hZ12 (rfl : ((a0b : Nat) : Int) = a0b) ea0i (show ((7 : Nat) : Int) = 7 from rfl) (show (0 : Int32) = i3 0 from rfl))
            subst e9
            exact zlV hP ⟨hZ12I, hZ12K, hZ12U⟩
          · replace hP := zE_n hP h10
            have r13 := zH_f hZ 43 a0b a0ij 8
            have r14 := w3_r ((Z 43 a0b a0ij 8) + 1)
            obtain ⟨Z15, hZ15⟩ := zx (zu Z 43 a0b a0ij 8 (w3 ((Z 43 a0b a0ij 8) + 1)))
            replace hP := zl_e hP hZ15
            have hZ15I := zH_u hZ hZ15 (lo := -2147483648) (hi := 2147483647) (by decide) rfl (by omega) ⟨by decide, by decide⟩ (Or.inl (by decide)) rfl
            have hZ15U : zU [a0b] Z Z15 := zU_u zU_r hZ15 (Or.inr (List.Mem.head _))
            have hZ15K : zC [43] Z Z15 := zC_u zC_r hZ15 (by decide)
            intro μ9 e9
            replace e9 := e9.trans (zm_wI (Z := Z) (ν := ν) hZ15 (rfl : ((a0b : Nat) : Int) = a0b) ea0i (show ((8 : Nat) : Int) = 8 from rfl) (i3W (i3A (zm_rd (Z := Z) (ν := ν) (k := 43) (rfl : ((a0b : Nat) : Int) = a0b) ea0i (show ((8 : Nat) : Int) = 8 from rfl)) (show (1 : Int32) = i3 1 from rfl))))
            subst e9
            have r16 := zH_f hZ15I 43 a0b a0ij 9
            have r17 := w3_r ((Z15 43 a0b a0ij 9) + 1)
            obtain ⟨Z18, hZ18⟩ := zx (zu Z15 43 a0b a0ij 9 (w3 ((Z15 43 a0b a0ij 9) + 1)))
            replace hP := zl_e hP hZ18
            have hZ18I := zH_u hZ15I hZ18 (lo := -2147483648) (hi := 2147483647) (by decide) rfl (by omega) ⟨by decide, by decide⟩ (Or.inl (by decide)) rfl
            have hZ18U : zU [a0b] Z Z18 := zU_u hZ15U hZ18 (Or.inr (List.Mem.head _))
            have hZ18K : zC [43] Z Z18 := zC_u hZ15K hZ18 (by decide)
            intro μ9 e9
            replace e9 := e9.trans (zm_wI (Z := Z15) (ν := ν) hZ18 (rfl : ((a0b : Nat) : Int) = a0b) ea0i (show ((9 : Nat) : Int) = 9 from rfl) (i3W (i3A (zm_rd (Z := Z15) (ν := ν) (k := 43) (rfl : ((a0b : Nat) : Int) = a0b) ea0i (show ((9 : Nat) : Int) = 9 from rfl)) (show (1 : Int32) = i3 1 from rfl))))
            subst e9
            obtain ⟨Z19, hZ19⟩ := zx (zu Z18 43 a0b a0ij 5 (Z 43 a0b a0ij 3))
            replace hP := zl_e hP hZ19
            have hZ19I := zH_u hZ18I hZ19 (lo := 0) (hi := 40) (by decide) rfl (by omega) ⟨by decide, by decide⟩ (Or.inl (by decide)) rfl
            have hZ19U : zU [a0b] Z Z19 := zU_u hZ18U hZ19 (Or.inr (List.Mem.head _))
            have hZ19K : zC [43] Z Z19 := zC_u hZ18K hZ19 (by decide)
            intro μ9 e9
            replace e9 := e9.trans (zm_wI (Z := Z18) (ν := ν) hZ19 (rfl : ((a0b : Nat) : Int) = a0b) ea0i (show ((5 : Nat) : Int) = 5 from rfl) (zm_rd (Z := Z) (ν := ν) (k := 43) (rfl : ((a0b : Nat) : Int) = a0b) ea0i (show ((3 : Nat) : Int) = 3 from rfl)))
            subst e9
            obtain ⟨Z20, hZ20⟩ := zx (zu Z19 43 a0b a0ij 7 0)
            replace hP := zl_e hP hZ20
            have hZ20I := zH_0 hZ19I hZ20 (by decide) (Or.inl (by decide))
            have hZ20U : zU [a0b] Z Z20 := zU_u hZ19U hZ20 (Or.inr (List.Mem.head _))
            have hZ20K : zC [43] Z Z20 := zC_u hZ19K hZ20 (by decide)
            intro μ9 e9
            replace e9 := e9.trans (zm_wI (Z := Z19) (ν := ν) hZ20 (rfl : ((a0b : Nat) : Int) = a0b) ea0i (show ((7 : Nat) : Int) = 7 from rfl) (show (0 : Int32) = i3 0 from rfl))
            subst e9
            exact zlV hP ⟨hZ20I, hZ20K, hZ20U⟩
        · replace hP := zE_n hP h9
          refine wz_br (i3E (i3S (rfl : i3 a1 = i3 a1) (zm_rd (Z := Z) (ν := ν) (k := 43) (rfl : ((a0b : Nat) : Int) = a0b) ea0i (show ((1 : Nat) : Int) = 1 from rfl))) (rfl : i3 a1 = i3 a1) (by omega) (by omega) (by omega) (by omega)) (fun h21 => ?_) (fun h21 => ?_)
          · replace hP := zE_p hP h21
            obtain ⟨Z22, hZ22⟩ := zx (zu Z 43 a0b a0ij 5 (a1 - (Z 43 a0b a0ij 1)))
            replace hP := zl_e hP hZ22
            have hZ22I := zH_u hZ hZ22 (lo := 0) (hi := 40) (by decide) rfl (by omega) ⟨by decide, by decide⟩ (Or.inl (by decide)) rfl
            have hZ22U : zU [a0b] Z Z22 := zU_u zU_r hZ22 (Or.inr (List.Mem.head _))
            have hZ22K : zC [43] Z Z22 := zC_u zC_r hZ22 (by decide)
            intro μ9 e9
            replace e9 := e9.trans (zm_wI (Z := Z) (ν := ν) hZ22 (rfl : ((a0b : Nat) : Int) = a0b) ea0i (show ((5 : Nat) : Int) = 5 from rfl) (i3S (rfl : i3 a1 = i3 a1) (zm_rd (Z := Z) (ν := ν) (k := 43) (rfl : ((a0b : Nat) : Int) = a0b) ea0i (show ((1 : Nat) : Int) = 1 from rfl))))
            subst e9
            obtain ⟨Z23, hZ23⟩ := zx (zu Z22 43 a0b a0ij 7 0)
            replace hP := zl_e hP hZ23
            have hZ23I := zH_0 hZ22I hZ23 (by decide) (Or.inl (by decide))
            have hZ23U : zU [a0b] Z Z23 := zU_u hZ22U hZ23 (Or.inr (List.Mem.head _))
            have hZ23K : zC [43] Z Z23 := zC_u hZ22K hZ23 (by decide)
            intro μ9 e9
            replace e9 := e9.trans (zm_wI (Z := Z22) (ν := ν) hZ23 (rfl : ((a0b : Nat) : Int) = a0b) ea0i (show ((7 : Nat) : Int) = 7 from rfl) (show (0 : Int32) = i3 0 from rfl))
            subst e9
            exact zlV hP ⟨hZ23I, hZ23K, hZ23U⟩
          · replace hP := zE_n hP h21
            have r24 := zH_f hZ 43 a0b a0ij 8
            have r25 := w3_r ((Z 43 a0b a0ij 8) + 1)
            obtain ⟨Z26, hZ26⟩ := zx (zu Z 43 a0b a0ij 8 (w3 ((Z 43 a0b a0ij 8) + 1)))
            replace hP := zl_e hP hZ26
            have hZ26I := zH_u hZ hZ26 (lo := -2147483648) (hi := 2147483647) (by decide) rfl (by omega) ⟨by decide, by decide⟩ (Or.inl (by decide)) rfl
            have hZ26U : zU [a0b] Z Z26 := zU_u zU_r hZ26 (Or.inr (List.Mem.head _))
            have hZ26K : zC [43] Z Z26 := zC_u zC_r hZ26 (by decide)
            intro μ9 e9
            replace e9 := e9.trans (zm_wI (Z := Z) (ν := ν) hZ26 (rfl : ((a0b : Nat) : Int) = a0b) ea0i (show ((8 : Nat) : Int) = 8 from rfl) (i3W (i3A (zm_rd (Z := Z) (ν := ν) (k := 43) (rfl : ((a0b : Nat) : Int) = a0b) ea0i (show ((8 : Nat) : Int) = 8 from rfl)) (show (1 : Int32) = i3 1 from rfl))))
            subst e9
            have r27 := zH_f hZ26I 43 a0b a0ij 9
            have r28 := w3_r ((Z26 43 a0b a0ij 9) + 1)
            obtain ⟨Z29, hZ29⟩ := zx (zu Z26 43 a0b a0ij 9 (w3 ((Z26 43 a0b a0ij 9) + 1)))
            replace hP := zl_e hP hZ29
            have hZ29I := zH_u hZ26I hZ29 (lo := -2147483648) (hi := 2147483647) (by decide) rfl (by omega) ⟨by decide, by decide⟩ (Or.inl (by decide)) rfl
            have hZ29U : zU [a0b] Z Z29 := zU_u hZ26U hZ29 (Or.inr (List.Mem.head _))
            have hZ29K : zC [43] Z Z29 := zC_u hZ26K hZ29 (by decide)
            intro μ9 e9
            replace e9 := e9.trans (zm_wI (Z := Z26) (ν := ν) hZ29 (rfl : ((a0b : Nat) : Int) = a0b) ea0i (show ((9 : Nat) : Int) = 9 from rfl) (i3W (i3A (zm_rd (Z := Z26) (ν := ν) (k := 43) (rfl : ((a0b : Nat) : Int) = a0b) ea0i (show ((9 : Nat) : Int) = 9 from rfl)) (show (1 : Int32) = i3 1 from rfl))))
            subst e9
            obtain ⟨Z30, hZ30⟩ := zx (zu Z29 43 a0b a0ij 5 (a1 - (Z 43 a0b a0ij 1)))
            replace hP := zl_e hP hZ30
            have hZ30I := zH_u hZ29I hZ30 (lo := 0) (hi := 40) (by decide) rfl (by omega) ⟨by decide, by decide⟩ (Or.inl (by decide)) rfl
            have hZ30U : zU [a0b] Z Z30 := zU_u hZ29U hZ30 (Or.inr (List.Mem.head _))
            have hZ30K : zC [43] Z Z30 := zC_u hZ29K hZ30 (by decide)
            intro μ9 e9
            replace e9 := e9.trans (zm_wI (Z := Z29) (ν := ν) hZ30 (rfl : ((a0b : Nat) : Int) = a0b) ea0i (show ((5 : Nat) : Int) = 5 from rfl) (i3S (rfl : i3 a1 = i3 a1) (zm_rd (Z := Z) (ν := ν) (k := 43) (rfl : ((a0b : Nat) : Int) = a0b) ea0i (show ((1 : Nat) : Int) = 1 from rfl))))
            subst e9
            obtain ⟨Z31, hZ31⟩ := zx (zu Z30 43 a0b a0ij 7 0)
            replace hP := zl_e hP hZ31
            have hZ31I := zH_0 hZ30I hZ31 (by decide) (Or.inl (by decide))
            have hZ31U : zU [a0b] Z Z31 := zU_u hZ30U hZ31 (Or.inr (List.Mem.head _))
            have hZ31K : zC [43] Z Z31 := zC_u hZ30K hZ31 (by decide)
            intro μ9 e9
            replace e9 := e9.trans (zm_wI (Z := Z30) (ν := ν) hZ31 (rfl : ((a0b : Nat) : Int) = a0b) ea0i (show ((7 : Nat) : Int) = 7 from rfl) (show (0 : Int32) = i3 0 from rfl))
            subst e9
            exact zlV hP ⟨hZ31I, hZ31K, hZ31U⟩
      · replace hP := zE_n hP h7
        have r32 := zH_k hZ 43 a0b a0ij 1 (lo := 0) (hi := 9) (by decide) rfl
        refine wz_br (i3Le (zm_rd (Z := Z) (ν := ν) (k := 43) (rfl : ((a0b : Nat) : Int) = a0b) ea0i (show ((3 : Nat) : Int) = 3 from rfl)) (i3A (rfl : i3 a1 = i3 a1) (zm_rd (Z := Z) (ν := ν) (k := 43) (rfl : ((a0b : Nat) : Int) = a0b) ea0i (show ((1 : Nat) : Int) = 1 from rfl))) (by omega) (by omega) (by omega) (by omega)) (fun h33 => ?_) (fun h33 => ?_)
        · replace hP := zE_p hP h33
          refine wz_br (i3E (zm_rd (Z := Z) (ν := ν) (k := 43) (rfl : ((a0b : Nat) : Int) = a0b) ea0i (show ((3 : Nat) : Int) = 3 from rfl)) (rfl : i3 a1 = i3 a1) (by omega) (by omega) (by omega) (by omega)) (fun h34 => ?_) (fun h34 => ?_)
          · replace hP := zE_p hP h34
            obtain ⟨Z35, hZ35⟩ := zx (zu Z 43 a0b a0ij 5 (Z 43 a0b a0ij 3))
            replace hP := zl_e hP hZ35
            have hZ35I := zH_u hZ hZ35 (lo := 0) (hi := 40) (by decide) rfl (by omega) ⟨by decide, by decide⟩ (Or.inl (by decide)) rfl
            have hZ35U : zU [a0b] Z Z35 := zU_u zU_r hZ35 (Or.inr (List.Mem.head _))
            have hZ35K : zC [43] Z Z35 := zC_u zC_r hZ35 (by decide)
            intro μ9 e9
            replace e9 := e9.trans (zm_wI (Z := Z) (ν := ν) hZ35 (rfl : ((a0b : Nat) : Int) = a0b) ea0i (show ((5 : Nat) : Int) = 5 from rfl) (zm_rd (Z := Z) (ν := ν) (k := 43) (rfl : ((a0b : Nat) : Int) = a0b) ea0i (show ((3 : Nat) : Int) = 3 from rfl)))
            subst e9
            obtain ⟨Z36, hZ36⟩ := zx (zu Z35 43 a0b a0ij 7 0)
            replace hP := zl_e hP hZ36
            have hZ36I := zH_0 hZ35I hZ36 (by decide) (Or.inl (by decide))
            have hZ36U : zU [a0b] Z Z36 := zU_u hZ35U hZ36 (Or.inr (List.Mem.head _))
            have hZ36K : zC [43] Z Z36 := zC_u hZ35K hZ36 (by decide)
            intro μ9 e9
            replace e9 := e9.trans (zm_wI (Z := Z35) (ν := ν) hZ36 (rfl : ((a0b : Nat) : Int) = a0b) ea0i (show ((7 : Nat) : Int) = 7 from rfl) (show (0 : Int32) = i3 0 from rfl))
            subst e9
            exact zlV hP ⟨hZ36I, hZ36K, hZ36U⟩
          · replace hP := zE_n hP h34
            have r37 := zH_f hZ 43 a0b a0ij 8
            have r38 := w3_r ((Z 43 a0b a0ij 8) + 1)
            obtain ⟨Z39, hZ39⟩ := zx (zu Z 43 a0b a0ij 8 (w3 ((Z 43 a0b a0ij 8) + 1)))
            replace hP := zl_e hP hZ39
            have hZ39I := zH_u hZ hZ39 (lo := -2147483648) (hi := 2147483647) (by decide) rfl (by omega) ⟨by decide, by decide⟩ (Or.inl (by decide)) rfl
            have hZ39U : zU [a0b] Z Z39 := zU_u zU_r hZ39 (Or.inr (List.Mem.head _))
            have hZ39K : zC [43] Z Z39 := zC_u zC_r hZ39 (by decide)
            intro μ9 e9
            replace e9 := e9.trans (zm_wI (Z := Z) (ν := ν) hZ39 (rfl : ((a0b : Nat) : Int) = a0b) ea0i (show ((8 : Nat) : Int) = 8 from rfl) (i3W (i3A (zm_rd (Z := Z) (ν := ν) (k := 43) (rfl : ((a0b : Nat) : Int) = a0b) ea0i (show ((8 : Nat) : Int) = 8 from rfl)) (show (1 : Int32) = i3 1 from rfl))))
            subst e9
            have r40 := zH_f hZ39I 43 a0b a0ij 9
            have r41 := w3_r ((Z39 43 a0b a0ij 9) + 1)
            obtain ⟨Z42, hZ42⟩ := zx (zu Z39 43 a0b a0ij 9 (w3 ((Z39 43 a0b a0ij 9) + 1)))
            replace hP := zl_e hP hZ42
            have hZ42I := zH_u hZ39I hZ42 (lo := -2147483648) (hi := 2147483647) (by decide) rfl (by omega) ⟨by decide, by decide⟩ (Or.inl (by decide)) rfl
            have hZ42U : zU [a0b] Z Z42 := zU_u hZ39U hZ42 (Or.inr (List.Mem.head _))
            have hZ42K : zC [43] Z Z42 := zC_u hZ39K hZ42 (by decide)
            intro μ9 e9
            replace e9 := e9.trans (zm_wI (Z := Z39) (ν := ν) hZ42 (rfl : ((a0b : Nat) : Int) = a0b) ea0i (show ((9 : Nat) : Int) = 9 from rfl) (i3W (i3A (zm_rd (Z := Z39) (ν := ν) (k := 43) (rfl : ((a0b : Nat) : Int) = a0b) ea0i (show ((9 : Nat) : Int) = 9 from rfl)) (show (1 : Int32) = i3 1 from rfl))))
            subst e9
            obtain ⟨Z43, hZ43⟩ := zx (zu Z42 43 a0b a0ij 5 (Z 43 a0b a0ij 3))
            replace hP := zl_e hP hZ43
            have hZ43I := zH_u hZ42I hZ43 (lo := 0) (hi := 40) (by decide) rfl (by omega) ⟨by decide, by decide⟩ (Or.inl (by decide)) rfl
            have hZ43U : zU [a0b] Z Z43 := zU_u hZ42U hZ43 (Or.inr (List.Mem.head _))
            have hZ43K : zC [43] Z Z43 := zC_u hZ42K hZ43 (by decide)
            intro μ9 e9
            replace e9 := e9.trans (zm_wI (Z := Z42) (ν := ν) hZ43 (rfl : ((a0b : Nat) : Int) = a0b) ea0i (show ((5 : Nat) : Int) = 5 from rfl) (zm_rd (Z := Z) (ν := ν) (k := 43) (rfl : ((a0b : Nat) : Int) = a0b) ea0i (show ((3 : Nat) : Int) = 3 from rfl)))
            subst e9
            obtain ⟨Z44, hZ44⟩ := zx (zu Z43 43 a0b a0ij 7 0)
            replace hP := zl_e hP hZ44
            have hZ44I := zH_0 hZ43I hZ44 (by decide) (Or.inl (by decide))
            have hZ44U : zU [a0b] Z Z44 := zU_u hZ43U hZ44 (Or.inr (List.Mem.head _))
            have hZ44K : zC [43] Z Z44 := zC_u hZ43K hZ44 (by decide)
            intro μ9 e9
            replace e9 := e9.trans (zm_wI (Z := Z43) (ν := ν) hZ44 (rfl : ((a0b : Nat) : Int) = a0b) ea0i (show ((7 : Nat) : Int) = 7 from rfl) (show (0 : Int32) = i3 0 from rfl))
            subst e9
            exact zlV hP ⟨hZ44I, hZ44K, hZ44U⟩
        · replace hP := zE_n hP h33
          refine wz_br (i3E (i3A (rfl : i3 a1 = i3 a1) (zm_rd (Z := Z) (ν := ν) (k := 43) (rfl : ((a0b : Nat) : Int) = a0b) ea0i (show ((1 : Nat) : Int) = 1 from rfl))) (rfl : i3 a1 = i3 a1) (by omega) (by omega) (by omega) (by omega)) (fun h45 => ?_) (fun h45 => ?_)
          · replace hP := zE_p hP h45
            obtain ⟨Z46, hZ46⟩ := zx (zu Z 43 a0b a0ij 5 (a1 + (Z 43 a0b a0ij 1)))
            replace hP := zl_e hP hZ46
            have hZ46I := zH_u hZ hZ46 (lo := 0) (hi := 40) (by decide) rfl (by omega) ⟨by decide, by decide⟩ (Or.inl (by decide)) rfl
            have hZ46U : zU [a0b] Z Z46 := zU_u zU_r hZ46 (Or.inr (List.Mem.head _))
            have hZ46K : zC [43] Z Z46 := zC_u zC_r hZ46 (by decide)
            intro μ9 e9
            replace e9 := e9.trans (zm_wI (Z := Z) (ν := ν) hZ46 (rfl : ((a0b : Nat) : Int) = a0b) ea0i (show ((5 : Nat) : Int) = 5 from rfl) (i3A (rfl : i3 a1 = i3 a1) (zm_rd (Z := Z) (ν := ν) (k := 43) (rfl : ((a0b : Nat) : Int) = a0b) ea0i (show ((1 : Nat) : Int) = 1 from rfl))))
            subst e9
            obtain ⟨Z47, hZ47⟩ := zx (zu Z46 43 a0b a0ij 7 0)
            replace hP := zl_e hP hZ47
            have hZ47I := zH_0 hZ46I hZ47 (by decide) (Or.inl (by decide))
            have hZ47U : zU [a0b] Z Z47 := zU_u hZ46U hZ47 (Or.inr (List.Mem.head _))
            have hZ47K : zC [43] Z Z47 := zC_u hZ46K hZ47 (by decide)
            intro μ9 e9
            replace e9 := e9.trans (zm_wI (Z := Z46) (ν := ν) hZ47 (rfl : ((a0b : Nat) : Int) = a0b) ea0i (show ((7 : Nat) : Int) = 7 from rfl) (show (0 : Int32) = i3 0 from rfl))
            subst e9
            exact zlV hP ⟨hZ47I, hZ47K, hZ47U⟩
          · replace hP := zE_n hP h45
            have r48 := zH_f hZ 43 a0b a0ij 8
            have r49 := w3_r ((Z 43 a0b a0ij 8) + 1)
            obtain ⟨Z50, hZ50⟩ := zx (zu Z 43 a0b a0ij 8 (w3 ((Z 43 a0b a0ij 8) + 1)))
            replace hP := zl_e hP hZ50
            have hZ50I := zH_u hZ hZ50 (lo := -2147483648) (hi := 2147483647) (by decide) rfl (by omega) ⟨by decide, by decide⟩ (Or.inl (by decide)) rfl
            have hZ50U : zU [a0b] Z Z50 := zU_u zU_r hZ50 (Or.inr (List.Mem.head _))
            have hZ50K : zC [43] Z Z50 := zC_u zC_r hZ50 (by decide)
            intro μ9 e9
            replace e9 := e9.trans (zm_wI (Z := Z) (ν := ν) hZ50 (rfl : ((a0b : Nat) : Int) = a0b) ea0i (show ((8 : Nat) : Int) = 8 from rfl) (i3W (i3A (zm_rd (Z := Z) (ν := ν) (k := 43) (rfl : ((a0b : Nat) : Int) = a0b) ea0i (show ((8 : Nat) : Int) = 8 from rfl)) (show (1 : Int32) = i3 1 from rfl))))
            subst e9
            have r51 := zH_f hZ50I 43 a0b a0ij 9
            have r52 := w3_r ((Z50 43 a0b a0ij 9) + 1)
            obtain ⟨Z53, hZ53⟩ := zx (zu Z50 43 a0b a0ij 9 (w3 ((Z50 43 a0b a0ij 9) + 1)))
            replace hP := zl_e hP hZ53
            have hZ53I := zH_u hZ50I hZ53 (lo := -2147483648) (hi := 2147483647) (by decide) rfl (by omega) ⟨by decide, by decide⟩ (Or.inl (by decide)) rfl
            have hZ53U : zU [a0b] Z Z53 := zU_u hZ50U hZ53 (Or.inr (List.Mem.head _))
            have hZ53K : zC [43] Z Z53 := zC_u hZ50K hZ53 (by decide)
            intro μ9 e9
            replace e9 := e9.trans (zm_wI (Z := Z50) (ν := ν) hZ53 (rfl : ((a0b : Nat) : Int) = a0b) ea0i (show ((9 : Nat) : Int) = 9 from rfl) (i3W (i3A (zm_rd (Z := Z50) (ν := ν) (k := 43) (rfl : ((a0b : Nat) : Int) = a0b) ea0i (show ((9 : Nat) : Int) = 9 from rfl)) (show (1 : Int32) = i3 1 from rfl))))
            subst e9
            obtain ⟨Z54, hZ54⟩ := zx (zu Z53 43 a0b a0ij 5 (a1 + (Z 43 a0b a0ij 1)))
            replace hP := zl_e hP hZ54
            have hZ54I := zH_u hZ53I hZ54 (lo := 0) (hi := 40) (by decide) rfl (by omega) ⟨by decide, by decide⟩ (Or.inl (by decide)) rfl
            have hZ54U : zU [a0b] Z Z54 := zU_u hZ53U hZ54 (Or.inr (List.Mem.head _))
            have hZ54K : zC [43] Z Z54 := zC_u hZ53K hZ54 (by decide)
            intro μ9 e9
            replace e9 := e9.trans (zm_wI (Z := Z53) (ν := ν) hZ54 (rfl : ((a0b : Nat) : Int) = a0b) ea0i (show ((5 : Nat) : Int) = 5 from rfl) (i3A (rfl : i3 a1 = i3 a1) (zm_rd (Z := Z) (ν := ν) (k := 43) (rfl : ((a0b : Nat) : Int) = a0b) ea0i (show ((1 : Nat) : Int) = 1 from rfl))))
            subst e9
            obtain ⟨Z55, hZ55⟩ := zx (zu Z54 43 a0b a0ij 7 0)
            replace hP := zl_e hP hZ55
            have hZ55I := zH_0 hZ54I hZ55 (by decide) (Or.inl (by decide))
            have hZ55U : zU [a0b] Z Z55 := zU_u hZ54U hZ55 (Or.inr (List.Mem.head _))
            have hZ55K : zC [43] Z Z55 := zC_u hZ54K hZ55 (by decide)
            intro μ9 e9
            replace e9 := e9.trans (zm_wI (Z := Z54) (ν := ν) hZ55 (rfl : ((a0b : Nat) : Int) = a0b) ea0i (show ((7 : Nat) : Int) = 7 from rfl) (show (0 : Int32) = i3 0 from rfl))
            subst e9
            exact zlV hP ⟨hZ55I, hZ55K, hZ55U⟩
    · replace hP := zE_n hP h5
      have r56 := zH_k hZ 43 a0b a0ij 3 (lo := 0) (hi := 40) (by decide) rfl
      refine wz_br (i3Le (zm_rd (Z := Z) (ν := ν) (k := 43) (rfl : ((a0b : Nat) : Int) = a0b) ea0i (show ((3 : Nat) : Int) = 3 from rfl)) (i3S (zm_rd (Z := Z) (ν := ν) (k := 43) (rfl : ((a0b : Nat) : Int) = a0b) ea0i (show ((5 : Nat) : Int) = 5 from rfl)) (i3A (zm_rd (Z := Z) (ν := ν) (k := 43) (rfl : ((a0b : Nat) : Int) = a0b) ea0i (show ((2 : Nat) : Int) = 2 from rfl)) (zm_rd (Z := Z) (ν := ν) (k := 43) (rfl : ((a0b : Nat) : Int) = a0b) ea0i (show ((7 : Nat) : Int) = 7 from rfl)))) (by omega) (by omega) (by omega) (by omega)) (fun h57 => ?_) (fun h57 => ?_)
      · replace hP := zE_p hP h57
        have r58 := zH_k hZ 43 a0b a0ij 1 (lo := 0) (hi := 9) (by decide) rfl
        refine wz_br (i3Le (i3S (i3S (zm_rd (Z := Z) (ν := ν) (k := 43) (rfl : ((a0b : Nat) : Int) = a0b) ea0i (show ((5 : Nat) : Int) = 5 from rfl)) (i3A (zm_rd (Z := Z) (ν := ν) (k := 43) (rfl : ((a0b : Nat) : Int) = a0b) ea0i (show ((2 : Nat) : Int) = 2 from rfl)) (zm_rd (Z := Z) (ν := ν) (k := 43) (rfl : ((a0b : Nat) : Int) = a0b) ea0i (show ((7 : Nat) : Int) = 7 from rfl)))) (zm_rd (Z := Z) (ν := ν) (k := 43) (rfl : ((a0b : Nat) : Int) = a0b) ea0i (show ((1 : Nat) : Int) = 1 from rfl))) (zm_rd (Z := Z) (ν := ν) (k := 43) (rfl : ((a0b : Nat) : Int) = a0b) ea0i (show ((3 : Nat) : Int) = 3 from rfl)) (by omega) (by omega) (by omega) (by omega)) (fun h59 => ?_) (fun h59 => ?_)
        · replace hP := zE_p hP h59
          refine wz_br (i3E (zm_rd (Z := Z) (ν := ν) (k := 43) (rfl : ((a0b : Nat) : Int) = a0b) ea0i (show ((3 : Nat) : Int) = 3 from rfl)) (i3S (zm_rd (Z := Z) (ν := ν) (k := 43) (rfl : ((a0b : Nat) : Int) = a0b) ea0i (show ((5 : Nat) : Int) = 5 from rfl)) (i3A (zm_rd (Z := Z) (ν := ν) (k := 43) (rfl : ((a0b : Nat) : Int) = a0b) ea0i (show ((2 : Nat) : Int) = 2 from rfl)) (zm_rd (Z := Z) (ν := ν) (k := 43) (rfl : ((a0b : Nat) : Int) = a0b) ea0i (show ((7 : Nat) : Int) = 7 from rfl)))) (by omega) (by omega) (by omega) (by omega)) (fun h60 => ?_) (fun h60 => ?_)
          · replace hP := zE_p hP h60
            obtain ⟨Z61, hZ61⟩ := zx (zu Z 43 a0b a0ij 5 (Z 43 a0b a0ij 3))
            replace hP := zl_e hP hZ61
            have hZ61I := zH_u hZ hZ61 (lo := 0) (hi := 40) (by decide) rfl (by omega) ⟨by decide, by decide⟩ (Or.inl (by decide)) rfl
            have hZ61U : zU [a0b] Z Z61 := zU_u zU_r hZ61 (Or.inr (List.Mem.head _))
            have hZ61K : zC [43] Z Z61 := zC_u zC_r hZ61 (by decide)
            intro μ9 e9
            replace e9 := e9.trans (zm_wI (Z := Z) (ν := ν) hZ61 (rfl : ((a0b : Nat) : Int) = a0b) ea0i (show ((5 : Nat) : Int) = 5 from rfl) (zm_rd (Z := Z) (ν := ν) (k := 43) (rfl : ((a0b : Nat) : Int) = a0b) ea0i (show ((3 : Nat) : Int) = 3 from rfl)))
            subst e9
            obtain ⟨Z62, hZ62⟩ := zx (zu Z61 43 a0b a0ij 7 0)
            replace hP := zl_e hP hZ62
            have hZ62I := zH_0 hZ61I hZ62 (by decide) (Or.inl (by decide))
            have hZ62U : zU [a0b] Z Z62 := zU_u hZ61U hZ62 (Or.inr (List.Mem.head _))
            have hZ62K : zC [43] Z Z62 := zC_u hZ61K hZ62 (by decide)
            intro μ9 e9
            replace e9 := e9.trans (zm_wI (Z := Z61) (ν := ν) hZ62 (rfl : ((a0b : Nat) : Int) = a0b) ea0i (show ((7 : Nat) : Int) = 7 from rfl) (show (0 : Int32) = i3 0 from rfl))
            subst e9
            exact zlV hP ⟨hZ62I, hZ62K, hZ62U⟩
          · replace hP := zE_n hP h60
            have r63 := zH_f hZ 43 a0b a0ij 8
            have r64 := w3_r ((Z 43 a0b a0ij 8) + 1)
            obtain ⟨Z65, hZ65⟩ := zx (zu Z 43 a0b a0ij 8 (w3 ((Z 43 a0b a0ij 8) + 1)))
            replace hP := zl_e hP hZ65
            have hZ65I := zH_u hZ hZ65 (lo := -2147483648) (hi := 2147483647) (by decide) rfl (by omega) ⟨by decide, by decide⟩ (Or.inl (by decide)) rfl
            have hZ65U : zU [a0b] Z Z65 := zU_u zU_r hZ65 (Or.inr (List.Mem.head _))
            have hZ65K : zC [43] Z Z65 := zC_u zC_r hZ65 (by decide)
            intro μ9 e9
            replace e9 := e9.trans (zm_wI (Z := Z) (ν := ν) hZ65 (rfl : ((a0b : Nat) : Int) = a0b) ea0i (show ((8 : Nat) : Int) = 8 from rfl) (i3W (i3A (zm_rd (Z := Z) (ν := ν) (k := 43) (rfl : ((a0b : Nat) : Int) = a0b) ea0i (show ((8 : Nat) : Int) = 8 from rfl)) (show (1 : Int32) = i3 1 from rfl))))
            subst e9
            have r66 := zH_f hZ65I 43 a0b a0ij 9
            have r67 := w3_r ((Z65 43 a0b a0ij 9) + 1)
            obtain ⟨Z68, hZ68⟩ := zx (zu Z65 43 a0b a0ij 9 (w3 ((Z65 43 a0b a0ij 9) + 1)))
            replace hP := zl_e hP hZ68
            have hZ68I := zH_u hZ65I hZ68 (lo := -2147483648) (hi := 2147483647) (by decide) rfl (by omega) ⟨by decide, by decide⟩ (Or.inl (by decide)) rfl
            have hZ68U : zU [a0b] Z Z68 := zU_u hZ65U hZ68 (Or.inr (List.Mem.head _))
            have hZ68K : zC [43] Z Z68 := zC_u hZ65K hZ68 (by decide)
            intro μ9 e9
            replace e9 := e9.trans (zm_wI (Z := Z65) (ν := ν) hZ68 (rfl : ((a0b : Nat) : Int) = a0b) ea0i (show ((9 : Nat) : Int) = 9 from rfl) (i3W (i3A (zm_rd (Z := Z65) (ν := ν) (k := 43) (rfl : ((a0b : Nat) : Int) = a0b) ea0i (show ((9 : Nat) : Int) = 9 from rfl)) (show (1 : Int32) = i3 1 from rfl))))
            subst e9
            obtain ⟨Z69, hZ69⟩ := zx (zu Z68 43 a0b a0ij 5 (Z 43 a0b a0ij 3))
            replace hP := zl_e hP hZ69
            have hZ69I := zH_u hZ68I hZ69 (lo := 0) (hi := 40) (by decide) rfl (by omega) ⟨by decide, by decide⟩ (Or.inl (by decide)) rfl
            have hZ69U : zU [a0b] Z Z69 := zU_u hZ68U hZ69 (Or.inr (List.Mem.head _))
            have hZ69K : zC [43] Z Z69 := zC_u hZ68K hZ69 (by decide)
            intro μ9 e9
            replace e9 := e9.trans (zm_wI (Z := Z68) (ν := ν) hZ69 (rfl : ((a0b : Nat) : Int) = a0b) ea0i (show ((5 : Nat) : Int) = 5 from rfl) (zm_rd (Z := Z) (ν := ν) (k := 43) (rfl : ((a0b : Nat) : Int) = a0b) ea0i (show ((3 : Nat) : Int) = 3 from rfl)))
            subst e9
            obtain ⟨Z70, hZ70⟩ := zx (zu Z69 43 a0b a0ij 7 0)
            replace hP := zl_e hP hZ70
            have hZ70I := zH_0 hZ69I hZ70 (by decide) (Or.inl (by decide))
            have hZ70U : zU [a0b] Z Z70 := zU_u hZ69U hZ70 (Or.inr (List.Mem.head _))
            have hZ70K : zC [43] Z Z70 := zC_u hZ69K hZ70 (by decide)
            intro μ9 e9
            replace e9 := e9.trans (zm_wI (Z := Z69) (ν := ν) hZ70 (rfl : ((a0b : Nat) : Int) = a0b) ea0i (show ((7 : Nat) : Int) = 7 from rfl) (show (0 : Int32) = i3 0 from rfl))
            subst e9
            exact zlV hP ⟨hZ70I, hZ70K, hZ70U⟩
        · replace hP := zE_n hP h59
          refine wz_br (i3E (i3S (i3S (zm_rd (Z := Z) (ν := ν) (k := 43) (rfl : ((a0b : Nat) : Int) = a0b) ea0i (show ((5 : Nat) : Int) = 5 from rfl)) (i3A (zm_rd (Z := Z) (ν := ν) (k := 43) (rfl : ((a0b : Nat) : Int) = a0b) ea0i (show ((2 : Nat) : Int) = 2 from rfl)) (zm_rd (Z := Z) (ν := ν) (k := 43) (rfl : ((a0b : Nat) : Int) = a0b) ea0i (show ((7 : Nat) : Int) = 7 from rfl)))) (zm_rd (Z := Z) (ν := ν) (k := 43) (rfl : ((a0b : Nat) : Int) = a0b) ea0i (show ((1 : Nat) : Int) = 1 from rfl))) (i3S (zm_rd (Z := Z) (ν := ν) (k := 43) (rfl : ((a0b : Nat) : Int) = a0b) ea0i (show ((5 : Nat) : Int) = 5 from rfl)) (i3A (zm_rd (Z := Z) (ν := ν) (k := 43) (rfl : ((a0b : Nat) : Int) = a0b) ea0i (show ((2 : Nat) : Int) = 2 from rfl)) (zm_rd (Z := Z) (ν := ν) (k := 43) (rfl : ((a0b : Nat) : Int) = a0b) ea0i (show ((7 : Nat) : Int) = 7 from rfl)))) (by omega) (by omega) (by omega) (by omega)) (fun h71 => ?_) (fun h71 => ?_)
          · replace hP := zE_p hP h71
            obtain ⟨Z72, hZ72⟩ := zx (zu Z 43 a0b a0ij 5 (((Z 43 a0b a0ij 5) - ((Z 43 a0b a0ij 2) + (Z 43 a0b a0ij 7))) - (Z 43 a0b a0ij 1)))
            replace hP := zl_e hP hZ72
            have hZ72I := zH_u hZ hZ72 (lo := 0) (hi := 40) (by decide) rfl (by omega) ⟨by decide, by decide⟩ (Or.inl (by decide)) rfl
            have hZ72U : zU [a0b] Z Z72 := zU_u zU_r hZ72 (Or.inr (List.Mem.head _))
            have hZ72K : zC [43] Z Z72 := zC_u zC_r hZ72 (by decide)
            intro μ9 e9
            replace e9 := e9.trans (zm_wI (Z := Z) (ν := ν) hZ72 (rfl : ((a0b : Nat) : Int) = a0b) ea0i (show ((5 : Nat) : Int) = 5 from rfl) (i3S (i3S (zm_rd (Z := Z) (ν := ν) (k := 43) (rfl : ((a0b : Nat) : Int) = a0b) ea0i (show ((5 : Nat) : Int) = 5 from rfl)) (i3A (zm_rd (Z := Z) (ν := ν) (k := 43) (rfl : ((a0b : Nat) : Int) = a0b) ea0i (show ((2 : Nat) : Int) = 2 from rfl)) (zm_rd (Z := Z) (ν := ν) (k := 43) (rfl : ((a0b : Nat) : Int) = a0b) ea0i (show ((7 : Nat) : Int) = 7 from rfl)))) (zm_rd (Z := Z) (ν := ν) (k := 43) (rfl : ((a0b : Nat) : Int) = a0b) ea0i (show ((1 : Nat) : Int) = 1 from rfl))))
            subst e9
            obtain ⟨Z73, hZ73⟩ := zx (zu Z72 43 a0b a0ij 7 0)
            replace hP := zl_e hP hZ73
            have hZ73I := zH_0 hZ72I hZ73 (by decide) (Or.inl (by decide))
            have hZ73U : zU [a0b] Z Z73 := zU_u hZ72U hZ73 (Or.inr (List.Mem.head _))
            have hZ73K : zC [43] Z Z73 := zC_u hZ72K hZ73 (by decide)
            intro μ9 e9
            replace e9 := e9.trans (zm_wI (Z := Z72) (ν := ν) hZ73 (rfl : ((a0b : Nat) : Int) = a0b) ea0i (show ((7 : Nat) : Int) = 7 from rfl) (show (0 : Int32) = i3 0 from rfl))
            subst e9
            exact zlV hP ⟨hZ73I, hZ73K, hZ73U⟩
          · replace hP := zE_n hP h71
            have r74 := zH_f hZ 43 a0b a0ij 8
            have r75 := w3_r ((Z 43 a0b a0ij 8) + 1)
            obtain ⟨Z76, hZ76⟩ := zx (zu Z 43 a0b a0ij 8 (w3 ((Z 43 a0b a0ij 8) + 1)))
            replace hP := zl_e hP hZ76
            have hZ76I := zH_u hZ hZ76 (lo := -2147483648) (hi := 2147483647) (by decide) rfl (by omega) ⟨by decide, by decide⟩ (Or.inl (by decide)) rfl
            have hZ76U : zU [a0b] Z Z76 := zU_u zU_r hZ76 (Or.inr (List.Mem.head _))
            have hZ76K : zC [43] Z Z76 := zC_u zC_r hZ76 (by decide)
            intro μ9 e9
            replace e9 := e9.trans (zm_wI (Z := Z) (ν := ν) hZ76 (rfl : ((a0b : Nat) : Int) = a0b) ea0i (show ((8 : Nat) : Int) = 8 from rfl) (i3W (i3A (zm_rd (Z := Z) (ν := ν) (k := 43) (rfl : ((a0b : Nat) : Int) = a0b) ea0i (show ((8 : Nat) : Int) = 8 from rfl)) (show (1 : Int32) = i3 1 from rfl))))
            subst e9
            have r77 := zH_f hZ76I 43 a0b a0ij 9
            have r78 := w3_r ((Z76 43 a0b a0ij 9) + 1)
            obtain ⟨Z79, hZ79⟩ := zx (zu Z76 43 a0b a0ij 9 (w3 ((Z76 43 a0b a0ij 9) + 1)))
            replace hP := zl_e hP hZ79
            have hZ79I := zH_u hZ76I hZ79 (lo := -2147483648) (hi := 2147483647) (by decide) rfl (by omega) ⟨by decide, by decide⟩ (Or.inl (by decide)) rfl
            have hZ79U : zU [a0b] Z Z79 := zU_u hZ76U hZ79 (Or.inr (List.Mem.head _))
            have hZ79K : zC [43] Z Z79 := zC_u hZ76K hZ79 (by decide)
            intro μ9 e9
            replace e9 := e9.trans (zm_wI (Z := Z76) (ν := ν) hZ79 (rfl : ((a0b : Nat) : Int) = a0b) ea0i (show ((9 : Nat) : Int) = 9 from rfl) (i3W (i3A (zm_rd (Z := Z76) (ν := ν) (k := 43) (rfl : ((a0b : Nat) : Int) = a0b) ea0i (show ((9 : Nat) : Int) = 9 from rfl)) (show (1 : Int32) = i3 1 from rfl))))
            subst e9
            obtain ⟨Z80, hZ80⟩ := zx (zu Z79 43 a0b a0ij 5 (((Z 43 a0b a0ij 5) - ((Z 43 a0b a0ij 2) + (Z 43 a0b a0ij 7))) - (Z 43 a0b a0ij 1)))
            replace hP := zl_e hP hZ80
            have hZ80I := zH_u hZ79I hZ80 (lo := 0) (hi := 40) (by decide) rfl (by omega) ⟨by decide, by decide⟩ (Or.inl (by decide)) rfl
            have hZ80U : zU [a0b] Z Z80 := zU_u hZ79U hZ80 (Or.inr (List.Mem.head _))
            have hZ80K : zC [43] Z Z80 := zC_u hZ79K hZ80 (by decide)
            intro μ9 e9
            replace e9 := e9.trans (zm_wI (Z := Z79) (ν := ν) hZ80 (rfl : ((a0b : Nat) : Int) = a0b) ea0i (show ((5 : Nat) : Int) = 5 from rfl) (i3S (i3S (zm_rd (Z := Z) (ν := ν) (k := 43) (rfl : ((a0b : Nat) : Int) = a0b) ea0i (show ((5 : Nat) : Int) = 5 from rfl)) (i3A (zm_rd (Z := Z) (ν := ν) (k := 43) (rfl : ((a0b : Nat) : Int) = a0b) ea0i (show ((2 : Nat) : Int) = 2 from rfl)) (zm_rd (Z := Z) (ν := ν) (k := 43) (rfl : ((a0b : Nat) : Int) = a0b) ea0i (show ((7 : Nat) : Int) = 7 from rfl)))) (zm_rd (Z := Z) (ν := ν) (k := 43) (rfl : ((a0b : Nat) : Int) = a0b) ea0i (show ((1 : Nat) : Int) = 1 from rfl))))
            subst e9
            obtain ⟨Z81, hZ81⟩ := zx (zu Z80 43 a0b a0ij 7 0)
            replace hP := zl_e hP hZ81
            have hZ81I := zH_0 hZ80I hZ81 (by decide) (Or.inl (by decide))
            have hZ81U : zU [a0b] Z Z81 := zU_u hZ80U hZ81 (Or.inr (List.Mem.head _))
            have hZ81K : zC [43] Z Z81 := zC_u hZ80K hZ81 (by decide)
            intro μ9 e9
            replace e9 := e9.trans (zm_wI (Z := Z80) (ν := ν) hZ81 (rfl : ((a0b : Nat) : Int) = a0b) ea0i (show ((7 : Nat) : Int) = 7 from rfl) (show (0 : Int32) = i3 0 from rfl))
            subst e9
            exact zlV hP ⟨hZ81I, hZ81K, hZ81U⟩
      · replace hP := zE_n hP h57
        have r82 := zH_k hZ 43 a0b a0ij 1 (lo := 0) (hi := 9) (by decide) rfl
        refine wz_br (i3Le (zm_rd (Z := Z) (ν := ν) (k := 43) (rfl : ((a0b : Nat) : Int) = a0b) ea0i (show ((3 : Nat) : Int) = 3 from rfl)) (i3A (i3S (zm_rd (Z := Z) (ν := ν) (k := 43) (rfl : ((a0b : Nat) : Int) = a0b) ea0i (show ((5 : Nat) : Int) = 5 from rfl)) (i3A (zm_rd (Z := Z) (ν := ν) (k := 43) (rfl : ((a0b : Nat) : Int) = a0b) ea0i (show ((2 : Nat) : Int) = 2 from rfl)) (zm_rd (Z := Z) (ν := ν) (k := 43) (rfl : ((a0b : Nat) : Int) = a0b) ea0i (show ((7 : Nat) : Int) = 7 from rfl)))) (zm_rd (Z := Z) (ν := ν) (k := 43) (rfl : ((a0b : Nat) : Int) = a0b) ea0i (show ((1 : Nat) : Int) = 1 from rfl))) (by omega) (by omega) (by omega) (by omega)) (fun h83 => ?_) (fun h83 => ?_)
        · replace hP := zE_p hP h83
          refine wz_br (i3E (zm_rd (Z := Z) (ν := ν) (k := 43) (rfl : ((a0b : Nat) : Int) = a0b) ea0i (show ((3 : Nat) : Int) = 3 from rfl)) (i3S (zm_rd (Z := Z) (ν := ν) (k := 43) (rfl : ((a0b : Nat) : Int) = a0b) ea0i (show ((5 : Nat) : Int) = 5 from rfl)) (i3A (zm_rd (Z := Z) (ν := ν) (k := 43) (rfl : ((a0b : Nat) : Int) = a0b) ea0i (show ((2 : Nat) : Int) = 2 from rfl)) (zm_rd (Z := Z) (ν := ν) (k := 43) (rfl : ((a0b : Nat) : Int) = a0b) ea0i (show ((7 : Nat) : Int) = 7 from rfl)))) (by omega) (by omega) (by omega) (by omega)) (fun h84 => ?_) (fun h84 => ?_)
          · replace hP := zE_p hP h84
            obtain ⟨Z85, hZ85⟩ := zx (zu Z 43 a0b a0ij 5 (Z 43 a0b a0ij 3))
            replace hP := zl_e hP hZ85
            have hZ85I := zH_u hZ hZ85 (lo := 0) (hi := 40) (by decide) rfl (by omega) ⟨by decide, by decide⟩ (Or.inl (by decide)) rfl
            have hZ85U : zU [a0b] Z Z85 := zU_u zU_r hZ85 (Or.inr (List.Mem.head _))
            have hZ85K : zC [43] Z Z85 := zC_u zC_r hZ85 (by decide)
            intro μ9 e9
            replace e9 := e9.trans (zm_wI (Z := Z) (ν := ν) hZ85 (rfl : ((a0b : Nat) : Int) = a0b) ea0i (show ((5 : Nat) : Int) = 5 from rfl) (zm_rd (Z := Z) (ν := ν) (k := 43) (rfl : ((a0b : Nat) : Int) = a0b) ea0i (show ((3 : Nat) : Int) = 3 from rfl)))
            subst e9
            obtain ⟨Z86, hZ86⟩ := zx (zu Z85 43 a0b a0ij 7 0)
            replace hP := zl_e hP hZ86
            have hZ86I := zH_0 hZ85I hZ86 (by decide) (Or.inl (by decide))
            have hZ86U : zU [a0b] Z Z86 := zU_u hZ85U hZ86 (Or.inr (List.Mem.head _))
            have hZ86K : zC [43] Z Z86 := zC_u hZ85K hZ86 (by decide)
            intro μ9 e9
            replace e9 := e9.trans (zm_wI (Z := Z85) (ν := ν) hZ86 (rfl : ((a0b : Nat) : Int) = a0b) ea0i (show ((7 : Nat) : Int) = 7 from rfl) (show (0 : Int32) = i3 0 from rfl))
            subst e9
            exact zlV hP ⟨hZ86I, hZ86K, hZ86U⟩
          · replace hP := zE_n hP h84
            have r87 := zH_f hZ 43 a0b a0ij 8
            have r88 := w3_r ((Z 43 a0b a0ij 8) + 1)
            obtain ⟨Z89, hZ89⟩ := zx (zu Z 43 a0b a0ij 8 (w3 ((Z 43 a0b a0ij 8) + 1)))
            replace hP := zl_e hP hZ89
            have hZ89I := zH_u hZ hZ89 (lo := -2147483648) (hi := 2147483647) (by decide) rfl (by omega) ⟨by decide, by decide⟩ (Or.inl (by decide)) rfl
            have hZ89U : zU [a0b] Z Z89 := zU_u zU_r hZ89 (Or.inr (List.Mem.head _))
            have hZ89K : zC [43] Z Z89 := zC_u zC_r hZ89 (by decide)
            intro μ9 e9
            replace e9 := e9.trans (zm_wI (Z := Z) (ν := ν) hZ89 (rfl : ((a0b : Nat) : Int) = a0b) ea0i (show ((8 : Nat) : Int) = 8 from rfl) (i3W (i3A (zm_rd (Z := Z) (ν := ν) (k := 43) (rfl : ((a0b : Nat) : Int) = a0b) ea0i (show ((8 : Nat) : Int) = 8 from rfl)) (show (1 : Int32) = i3 1 from rfl))))
            subst e9
            have r90 := zH_f hZ89I 43 a0b a0ij 9
            have r91 := w3_r ((Z89 43 a0b a0ij 9) + 1)
            obtain ⟨Z92, hZ92⟩ := zx (zu Z89 43 a0b a0ij 9 (w3 ((Z89 43 a0b a0ij 9) + 1)))
            replace hP := zl_e hP hZ92
            have hZ92I := zH_u hZ89I hZ92 (lo := -2147483648) (hi := 2147483647) (by decide) rfl (by omega) ⟨by decide, by decide⟩ (Or.inl (by decide)) rfl
            have hZ92U : zU [a0b] Z Z92 := zU_u hZ89U hZ92 (Or.inr (List.Mem.head _))
            have hZ92K : zC [43] Z Z92 := zC_u hZ89K hZ92 (by decide)
            intro μ9 e9
            replace e9 := e9.trans (zm_wI (Z := Z89) (ν := ν) hZ92 (rfl : ((a0b : Nat) : Int) = a0b) ea0i (show ((9 : Nat) : Int) = 9 from rfl) (i3W (i3A (zm_rd (Z := Z89) (ν := ν) (k := 43) (rfl : ((a0b : Nat) : Int) = a0b) ea0i (show ((9 : Nat) : Int) = 9 from rfl)) (show (1 : Int32) = i3 1 from rfl))))
            subst e9
            obtain ⟨Z93, hZ93⟩ := zx (zu Z92 43 a0b a0ij 5 (Z 43 a0b a0ij 3))
            replace hP := zl_e hP hZ93
            have hZ93I := zH_u hZ92I hZ93 (lo := 0) (hi := 40) (by decide) rfl (by omega) ⟨by decide, by decide⟩ (Or.inl (by decide)) rfl
            have hZ93U : zU [a0b] Z Z93 := zU_u hZ92U hZ93 (Or.inr (List.Mem.head _))
            have hZ93K : zC [43] Z Z93 := zC_u hZ92K hZ93 (by decide)
            intro μ9 e9
            replace e9 := e9.trans (zm_wI (Z := Z92) (ν := ν) hZ93 (rfl : ((a0b : Nat) : Int) = a0b) ea0i (show ((5 : Nat) : Int) = 5 from rfl) (zm_rd (Z := Z) (ν := ν) (k := 43) (rfl : ((a0b : Nat) : Int) = a0b) ea0i (show ((3 : Nat) : Int) = 3 from rfl)))
            subst e9
            obtain ⟨Z94, hZ94⟩ := zx (zu Z93 43 a0b a0ij 7 0)
            replace hP := zl_e hP hZ94
            have hZ94I := zH_0 hZ93I hZ94 (by decide) (Or.inl (by decide))
            have hZ94U : zU [a0b] Z Z94 := zU_u hZ93U hZ94 (Or.inr (List.Mem.head _))
            have hZ94K : zC [43] Z Z94 := zC_u hZ93K hZ94 (by decide)
            intro μ9 e9
            replace e9 := e9.trans (zm_wI (Z := Z93) (ν := ν) hZ94 (rfl : ((a0b : Nat) : Int) = a0b) ea0i (show ((7 : Nat) : Int) = 7 from rfl) (show (0 : Int32) = i3 0 from rfl))
            subst e9
            exact zlV hP ⟨hZ94I, hZ94K, hZ94U⟩
        · replace hP := zE_n hP h83
          refine wz_br (i3E (i3A (i3S (zm_rd (Z := Z) (ν := ν) (k := 43) (rfl : ((a0b : Nat) : Int) = a0b) ea0i (show ((5 : Nat) : Int) = 5 from rfl)) (i3A (zm_rd (Z := Z) (ν := ν) (k := 43) (rfl : ((a0b : Nat) : Int) = a0b) ea0i (show ((2 : Nat) : Int) = 2 from rfl)) (zm_rd (Z := Z) (ν := ν) (k := 43) (rfl : ((a0b : Nat) : Int) = a0b) ea0i (show ((7 : Nat) : Int) = 7 from rfl)))) (zm_rd (Z := Z) (ν := ν) (k := 43) (rfl : ((a0b : Nat) : Int) = a0b) ea0i (show ((1 : Nat) : Int) = 1 from rfl))) (i3S (zm_rd (Z := Z) (ν := ν) (k := 43) (rfl : ((a0b : Nat) : Int) = a0b) ea0i (show ((5 : Nat) : Int) = 5 from rfl)) (i3A (zm_rd (Z := Z) (ν := ν) (k := 43) (rfl : ((a0b : Nat) : Int) = a0b) ea0i (show ((2 : Nat) : Int) = 2 from rfl)) (zm_rd (Z := Z) (ν := ν) (k := 43) (rfl : ((a0b : Nat) : Int) = a0b) ea0i (show ((7 : Nat) : Int) = 7 from rfl)))) (by omega) (by omega) (by omega) (by omega)) (fun h95 => ?_) (fun h95 => ?_)
          · replace hP := zE_p hP h95
            obtain ⟨Z96, hZ96⟩ := zx (zu Z 43 a0b a0ij 5 (((Z 43 a0b a0ij 5) - ((Z 43 a0b a0ij 2) + (Z 43 a0b a0ij 7))) + (Z 43 a0b a0ij 1)))
            replace hP := zl_e hP hZ96
            have hZ96I := zH_u hZ hZ96 (lo := 0) (hi := 40) (by decide) rfl (by omega) ⟨by decide, by decide⟩ (Or.inl (by decide)) rfl
            have hZ96U : zU [a0b] Z Z96 := zU_u zU_r hZ96 (Or.inr (List.Mem.head _))
            have hZ96K : zC [43] Z Z96 := zC_u zC_r hZ96 (by decide)
            intro μ9 e9
            replace e9 := e9.trans (zm_wI (Z := Z) (ν := ν) hZ96 (rfl : ((a0b : Nat) : Int) = a0b) ea0i (show ((5 : Nat) : Int) = 5 from rfl) (i3A (i3S (zm_rd (Z := Z) (ν := ν) (k := 43) (rfl : ((a0b : Nat) : Int) = a0b) ea0i (show ((5 : Nat) : Int) = 5 from rfl)) (i3A (zm_rd (Z := Z) (ν := ν) (k := 43) (rfl : ((a0b : Nat) : Int) = a0b) ea0i (show ((2 : Nat) : Int) = 2 from rfl)) (zm_rd (Z := Z) (ν := ν) (k := 43) (rfl : ((a0b : Nat) : Int) = a0b) ea0i (show ((7 : Nat) : Int) = 7 from rfl)))) (zm_rd (Z := Z) (ν := ν) (k := 43) (rfl : ((a0b : Nat) : Int) = a0b) ea0i (show ((1 : Nat) : Int) = 1 from rfl))))
            subst e9
            obtain ⟨Z97, hZ97⟩ := zx (zu Z96 43 a0b a0ij 7 0)
            replace hP := zl_e hP hZ97
            have hZ97I := zH_0 hZ96I hZ97 (by decide) (Or.inl (by decide))
            have hZ97U : zU [a0b] Z Z97 := zU_u hZ96U hZ97 (Or.inr (List.Mem.head _))
            have hZ97K : zC [43] Z Z97 := zC_u hZ96K hZ97 (by decide)
            intro μ9 e9
            replace e9 := e9.trans (zm_wI (Z := Z96) (ν := ν) hZ97 (rfl : ((a0b : Nat) : Int) = a0b) ea0i (show ((7 : Nat) : Int) = 7 from rfl) (show (0 : Int32) = i3 0 from rfl))
            subst e9
            exact zlV hP ⟨hZ97I, hZ97K, hZ97U⟩
          · replace hP := zE_n hP h95
            have r98 := zH_f hZ 43 a0b a0ij 8
            have r99 := w3_r ((Z 43 a0b a0ij 8) + 1)
            obtain ⟨Z100, hZ100⟩ := zx (zu Z 43 a0b a0ij 8 (w3 ((Z 43 a0b a0ij 8) + 1)))
            replace hP := zl_e hP hZ100
            have hZ100I := zH_u hZ hZ100 (lo := -2147483648) (hi := 2147483647) (by decide) rfl (by omega) ⟨by decide, by decide⟩ (Or.inl (by decide)) rfl
            have hZ100U : zU [a0b] Z Z100 := zU_u zU_r hZ100 (Or.inr (List.Mem.head _))
            have hZ100K : zC [43] Z Z100 := zC_u zC_r hZ100 (by decide)
            intro μ9 e9
            replace e9 := e9.trans (zm_wI (Z := Z) (ν := ν) hZ100 (rfl : ((a0b : Nat) : Int) = a0b) ea0i (show ((8 : Nat) : Int) = 8 from rfl) (i3W (i3A (zm_rd (Z := Z) (ν := ν) (k := 43) (rfl : ((a0b : Nat) : Int) = a0b) ea0i (show ((8 : Nat) : Int) = 8 from rfl)) (show (1 : Int32) = i3 1 from rfl))))
            subst e9
            have r101 := zH_f hZ100I 43 a0b a0ij 9
            have r102 := w3_r ((Z100 43 a0b a0ij 9) + 1)
            obtain ⟨Z103, hZ103⟩ := zx (zu Z100 43 a0b a0ij 9 (w3 ((Z100 43 a0b a0ij 9) + 1)))
            replace hP := zl_e hP hZ103
            have hZ103I := zH_u hZ100I hZ103 (lo := -2147483648) (hi := 2147483647) (by decide) rfl (by omega) ⟨by decide, by decide⟩ (Or.inl (by decide)) rfl
            have hZ103U : zU [a0b] Z Z103 := zU_u hZ100U hZ103 (Or.inr (List.Mem.head _))
            have hZ103K : zC [43] Z Z103 := zC_u hZ100K hZ103 (by decide)
            intro μ9 e9
            replace e9 := e9.trans (zm_wI (Z := Z100) (ν := ν) hZ103 (rfl : ((a0b : Nat) : Int) = a0b) ea0i (show ((9 : Nat) : Int) = 9 from rfl) (i3W (i3A (zm_rd (Z := Z100) (ν := ν) (k := 43) (rfl : ((a0b : Nat) : Int) = a0b) ea0i (show ((9 : Nat) : Int) = 9 from rfl)) (show (1 : Int32) = i3 1 from rfl))))
            subst e9
            obtain ⟨Z104, hZ104⟩ := zx (zu Z103 43 a0b a0ij 5 (((Z 43 a0b a0ij 5) - ((Z 43 a0b a0ij 2) + (Z 43 a0b a0ij 7))) + (Z 43 a0b a0ij 1)))
            replace hP := zl_e hP hZ104
            have hZ104I := zH_u hZ103I hZ104 (lo := 0) (hi := 40) (by decide) rfl (by omega) ⟨by decide, by decide⟩ (Or.inl (by decide)) rfl
            have hZ104U : zU [a0b] Z Z104 := zU_u hZ103U hZ104 (Or.inr (List.Mem.head _))
            have hZ104K : zC [43] Z Z104 := zC_u hZ103K hZ104 (by decide)
            intro μ9 e9
            replace e9 := e9.trans (zm_wI (Z := Z103) (ν := ν) hZ104 (rfl : ((a0b : Nat) : Int) = a0b) ea0i (show ((5 : Nat) : Int) = 5 from rfl) (i3A (i3S (zm_rd (Z := Z) (ν := ν) (k := 43) (rfl : ((a0b : Nat) : Int) = a0b) ea0i (show ((5 : Nat) : Int) = 5 from rfl)) (i3A (zm_rd (Z := Z) (ν := ν) (k := 43) (rfl : ((a0b : Nat) : Int) = a0b) ea0i (show ((2 : Nat) : Int) = 2 from rfl)) (zm_rd (Z := Z) (ν := ν) (k := 43) (rfl : ((a0b : Nat) : Int) = a0b) ea0i (show ((7 : Nat) : Int) = 7 from rfl)))) (zm_rd (Z := Z) (ν := ν) (k := 43) (rfl : ((a0b : Nat) : Int) = a0b) ea0i (show ((1 : Nat) : Int) = 1 from rfl))))
            subst e9
            obtain ⟨Z105, hZ105⟩ := zx (zu Z104 43 a0b a0ij 7 0)
            replace hP := zl_e hP hZ105
            have hZ105I := zH_0 hZ104I hZ105 (by decide) (Or.inl (by decide))
            have hZ105U : zU [a0b] Z Z105 := zU_u hZ104U hZ105 (Or.inr (List.Mem.head _))
            have hZ105K : zC [43] Z Z105 := zC_u hZ104K hZ105 (by decide)
            intro μ9 e9
            replace e9 := e9.trans (zm_wI (Z := Z104) (ν := ν) hZ105 (rfl : ((a0b : Nat) : Int) = a0b) ea0i (show ((7 : Nat) : Int) = 7 from rfl) (show (0 : Int32) = i3 0 from rfl))
            subst e9
            exact zlV hP ⟨hZ105I, hZ105K, hZ105U⟩
  · replace hP := zE_n hP h2
    have r106 := zH_k hZ 43 a0b a0ij 2 (lo := 0) (hi := 9) (by decide) rfl
    have r107 := zH_d hZ a0b a0ij (zbh (c := 0) (k := 0) hM (Nat.le_of_ble_eq_true rfl))
    refine wz_br (i3Le (rfl : i3 a1 = i3 a1) (i3A (zm_rd (Z := Z) (ν := ν) (k := 43) (rfl : ((a0b : Nat) : Int) = a0b) ea0i (show ((5 : Nat) : Int) = 5 from rfl)) (i3A (zm_rd (Z := Z) (ν := ν) (k := 43) (rfl : ((a0b : Nat) : Int) = a0b) ea0i (show ((2 : Nat) : Int) = 2 from rfl)) (zm_rd (Z := Z) (ν := ν) (k := 43) (rfl : ((a0b : Nat) : Int) = a0b) ea0i (show ((7 : Nat) : Int) = 7 from rfl)))) (by omega) (by omega) (by omega) (by omega)) (fun h108 => ?_) (fun h108 => ?_)
    · replace hP := zE_p hP h108
      have r109 := zH_k hZ 43 a0b a0ij 3 (lo := 0) (hi := 40) (by decide) rfl
      refine wz_br (i3Le (zm_rd (Z := Z) (ν := ν) (k := 43) (rfl : ((a0b : Nat) : Int) = a0b) ea0i (show ((3 : Nat) : Int) = 3 from rfl)) (rfl : i3 a1 = i3 a1) (by omega) (by omega) (by omega) (by omega)) (fun h110 => ?_) (fun h110 => ?_)
      · replace hP := zE_p hP h110
        have r111 := zH_k hZ 43 a0b a0ij 1 (lo := 0) (hi := 9) (by decide) rfl
        refine wz_br (i3Le (i3S (rfl : i3 a1 = i3 a1) (zm_rd (Z := Z) (ν := ν) (k := 43) (rfl : ((a0b : Nat) : Int) = a0b) ea0i (show ((1 : Nat) : Int) = 1 from rfl))) (zm_rd (Z := Z) (ν := ν) (k := 43) (rfl : ((a0b : Nat) : Int) = a0b) ea0i (show ((3 : Nat) : Int) = 3 from rfl)) (by omega) (by omega) (by omega) (by omega)) (fun h112 => ?_) (fun h112 => ?_)
        · replace hP := zE_p hP h112
          refine wz_br (i3E (zm_rd (Z := Z) (ν := ν) (k := 43) (rfl : ((a0b : Nat) : Int) = a0b) ea0i (show ((3 : Nat) : Int) = 3 from rfl)) (rfl : i3 a1 = i3 a1) (by omega) (by omega) (by omega) (by omega)) (fun h113 => ?_) (fun h113 => ?_)
          · replace hP := zE_p hP h113
            obtain ⟨Z114, hZ114⟩ := zx (zu Z 43 a0b a0ij 5 (Z 43 a0b a0ij 3))
            replace hP := zl_e hP hZ114
            have hZ114I := zH_u hZ hZ114 (lo := 0) (hi := 40) (by decide) rfl (by omega) ⟨by decide, by decide⟩ (Or.inl (by decide)) rfl
            have hZ114U : zU [a0b] Z Z114 := zU_u zU_r hZ114 (Or.inr (List.Mem.head _))
            have hZ114K : zC [43] Z Z114 := zC_u zC_r hZ114 (by decide)
            intro μ9 e9
            replace e9 := e9.trans (zm_wI (Z := Z) (ν := ν) hZ114 (rfl : ((a0b : Nat) : Int) = a0b) ea0i (show ((5 : Nat) : Int) = 5 from rfl) (zm_rd (Z := Z) (ν := ν) (k := 43) (rfl : ((a0b : Nat) : Int) = a0b) ea0i (show ((3 : Nat) : Int) = 3 from rfl)))
            subst e9
            obtain ⟨Z115, hZ115⟩ := zx (zu Z114 43 a0b a0ij 7 0)
            replace hP := zl_e hP hZ115
            have hZ115I := zH_0 hZ114I hZ115 (by decide) (Or.inl (by decide))
            have hZ115U : zU [a0b] Z Z115 := zU_u hZ114U hZ115 (Or.inr (List.Mem.head _))
            have hZ115K : zC [43] Z Z115 := zC_u hZ114K hZ115 (by decide)
            intro μ9 e9
            replace e9 := e9.trans (zm_wI (Z := Z114) (ν := ν) hZ115 (rfl : ((a0b : Nat) : Int) = a0b) ea0i (show ((7 : Nat) : Int) = 7 from rfl) (show (0 : Int32) = i3 0 from rfl))
            subst e9
            exact zlV hP ⟨hZ115I, hZ115K, hZ115U⟩
          · replace hP := zE_n hP h113
            have r116 := zH_f hZ 43 a0b a0ij 8
            have r117 := w3_r ((Z 43 a0b a0ij 8) + 1)
            obtain ⟨Z118, hZ118⟩ := zx (zu Z 43 a0b a0ij 8 (w3 ((Z 43 a0b a0ij 8) + 1)))
            replace hP := zl_e hP hZ118
            have hZ118I := zH_u hZ hZ118 (lo := -2147483648) (hi := 2147483647) (by decide) rfl (by omega) ⟨by decide, by decide⟩ (Or.inl (by decide)) rfl
            have hZ118U : zU [a0b] Z Z118 := zU_u zU_r hZ118 (Or.inr (List.Mem.head _))
            have hZ118K : zC [43] Z Z118 := zC_u zC_r hZ118 (by decide)
            intro μ9 e9
            replace e9 := e9.trans (zm_wI (Z := Z) (ν := ν) hZ118 (rfl : ((a0b : Nat) : Int) = a0b) ea0i (show ((8 : Nat) : Int) = 8 from rfl) (i3W (i3A (zm_rd (Z := Z) (ν := ν) (k := 43) (rfl : ((a0b : Nat) : Int) = a0b) ea0i (show ((8 : Nat) : Int) = 8 from rfl)) (show (1 : Int32) = i3 1 from rfl))))
            subst e9
            have r119 := zH_f hZ118I 43 a0b a0ij 9
            have r120 := w3_r ((Z118 43 a0b a0ij 9) + 1)
            obtain ⟨Z121, hZ121⟩ := zx (zu Z118 43 a0b a0ij 9 (w3 ((Z118 43 a0b a0ij 9) + 1)))
            replace hP := zl_e hP hZ121
            have hZ121I := zH_u hZ118I hZ121 (lo := -2147483648) (hi := 2147483647) (by decide) rfl (by omega) ⟨by decide, by decide⟩ (Or.inl (by decide)) rfl
            have hZ121U : zU [a0b] Z Z121 := zU_u hZ118U hZ121 (Or.inr (List.Mem.head _))
            have hZ121K : zC [43] Z Z121 := zC_u hZ118K hZ121 (by decide)
            intro μ9 e9
            replace e9 := e9.trans (zm_wI (Z := Z118) (ν := ν) hZ121 (rfl : ((a0b : Nat) : Int) = a0b) ea0i (show ((9 : Nat) : Int) = 9 from rfl) (i3W (i3A (zm_rd (Z := Z118) (ν := ν) (k := 43) (rfl : ((a0b : Nat) : Int) = a0b) ea0i (show ((9 : Nat) : Int) = 9 from rfl)) (show (1 : Int32) = i3 1 from rfl))))
            subst e9
            obtain ⟨Z122, hZ122⟩ := zx (zu Z121 43 a0b a0ij 5 (Z 43 a0b a0ij 3))
            replace hP := zl_e hP hZ122
            have hZ122I := zH_u hZ121I hZ122 (lo := 0) (hi := 40) (by decide) rfl (by omega) ⟨by decide, by decide⟩ (Or.inl (by decide)) rfl
            have hZ122U : zU [a0b] Z Z122 := zU_u hZ121U hZ122 (Or.inr (List.Mem.head _))
            have hZ122K : zC [43] Z Z122 := zC_u hZ121K hZ122 (by decide)
            intro μ9 e9
            replace e9 := e9.trans (zm_wI (Z := Z121) (ν := ν) hZ122 (rfl : ((a0b : Nat) : Int) = a0b) ea0i (show ((5 : Nat) : Int) = 5 from rfl) (zm_rd (Z := Z) (ν := ν) (k := 43) (rfl : ((a0b : Nat) : Int) = a0b) ea0i (show ((3 : Nat) : Int) = 3 from rfl)))
            subst e9
            obtain ⟨Z123, hZ123⟩ := zx (zu Z122 43 a0b a0ij 7 0)
            replace hP := zl_e hP hZ123
            have hZ123I := zH_0 hZ122I hZ123 (by decide) (Or.inl (by decide))
            have hZ123U : zU [a0b] Z Z123 := zU_u hZ122U hZ123 (Or.inr (List.Mem.head _))
            have hZ123K : zC [43] Z Z123 := zC_u hZ122K hZ123 (by decide)
            intro μ9 e9
            replace e9 := e9.trans (zm_wI (Z := Z122) (ν := ν) hZ123 (rfl : ((a0b : Nat) : Int) = a0b) ea0i (show ((7 : Nat) : Int) = 7 from rfl) (show (0 : Int32) = i3 0 from rfl))
            subst e9
            exact zlV hP ⟨hZ123I, hZ123K, hZ123U⟩
        · replace hP := zE_n hP h112
          refine wz_br (i3E (i3S (rfl : i3 a1 = i3 a1) (zm_rd (Z := Z) (ν := ν) (k := 43) (rfl : ((a0b : Nat) : Int) = a0b) ea0i (show ((1 : Nat) : Int) = 1 from rfl))) (rfl : i3 a1 = i3 a1) (by omega) (by omega) (by omega) (by omega)) (fun h124 => ?_) (fun h124 => ?_)
          · replace hP := zE_p hP h124
            obtain ⟨Z125, hZ125⟩ := zx (zu Z 43 a0b a0ij 5 (a1 - (Z 43 a0b a0ij 1)))
            replace hP := zl_e hP hZ125
            have hZ125I := zH_u hZ hZ125 (lo := 0) (hi := 40) (by decide) rfl (by omega) ⟨by decide, by decide⟩ (Or.inl (by decide)) rfl
            have hZ125U : zU [a0b] Z Z125 := zU_u zU_r hZ125 (Or.inr (List.Mem.head _))
            have hZ125K : zC [43] Z Z125 := zC_u zC_r hZ125 (by decide)
            intro μ9 e9
            replace e9 := e9.trans (zm_wI (Z := Z) (ν := ν) hZ125 (rfl : ((a0b : Nat) : Int) = a0b) ea0i (show ((5 : Nat) : Int) = 5 from rfl) (i3S (rfl : i3 a1 = i3 a1) (zm_rd (Z := Z) (ν := ν) (k := 43) (rfl : ((a0b : Nat) : Int) = a0b) ea0i (show ((1 : Nat) : Int) = 1 from rfl))))
            subst e9
            obtain ⟨Z126, hZ126⟩ := zx (zu Z125 43 a0b a0ij 7 0)
            replace hP := zl_e hP hZ126
            have hZ126I := zH_0 hZ125I hZ126 (by decide) (Or.inl (by decide))
            have hZ126U : zU [a0b] Z Z126 := zU_u hZ125U hZ126 (Or.inr (List.Mem.head _))
            have hZ126K : zC [43] Z Z126 := zC_u hZ125K hZ126 (by decide)
            intro μ9 e9
            replace e9 := e9.trans (zm_wI (Z := Z125) (ν := ν) hZ126 (rfl : ((a0b : Nat) : Int) = a0b) ea0i (show ((7 : Nat) : Int) = 7 from rfl) (show (0 : Int32) = i3 0 from rfl))
            subst e9
            exact zlV hP ⟨hZ126I, hZ126K, hZ126U⟩
          · replace hP := zE_n hP h124
            have r127 := zH_f hZ 43 a0b a0ij 8
            have r128 := w3_r ((Z 43 a0b a0ij 8) + 1)
            obtain ⟨Z129, hZ129⟩ := zx (zu Z 43 a0b a0ij 8 (w3 ((Z 43 a0b a0ij 8) + 1)))
            replace hP := zl_e hP hZ129
            have hZ129I := zH_u hZ hZ129 (lo := -2147483648) (hi := 2147483647) (by decide) rfl (by omega) ⟨by decide, by decide⟩ (Or.inl (by decide)) rfl
            have hZ129U : zU [a0b] Z Z129 := zU_u zU_r hZ129 (Or.inr (List.Mem.head _))
            have hZ129K : zC [43] Z Z129 := zC_u zC_r hZ129 (by decide)
            intro μ9 e9
            replace e9 := e9.trans (zm_wI (Z := Z) (ν := ν) hZ129 (rfl : ((a0b : Nat) : Int) = a0b) ea0i (show ((8 : Nat) : Int) = 8 from rfl) (i3W (i3A (zm_rd (Z := Z) (ν := ν) (k := 43) (rfl : ((a0b : Nat) : Int) = a0b) ea0i (show ((8 : Nat) : Int) = 8 from rfl)) (show (1 : Int32) = i3 1 from rfl))))
            subst e9
            have r130 := zH_f hZ129I 43 a0b a0ij 9
            have r131 := w3_r ((Z129 43 a0b a0ij 9) + 1)
            obtain ⟨Z132, hZ132⟩ := zx (zu Z129 43 a0b a0ij 9 (w3 ((Z129 43 a0b a0ij 9) + 1)))
            replace hP := zl_e hP hZ132
            have hZ132I := zH_u hZ129I hZ132 (lo := -2147483648) (hi := 2147483647) (by decide) rfl (by omega) ⟨by decide, by decide⟩ (Or.inl (by decide)) rfl
            have hZ132U : zU [a0b] Z Z132 := zU_u hZ129U hZ132 (Or.inr (List.Mem.head _))
            have hZ132K : zC [43] Z Z132 := zC_u hZ129K hZ132 (by decide)
            intro μ9 e9
            replace e9 := e9.trans (zm_wI (Z := Z129) (ν := ν) hZ132 (rfl : ((a0b : Nat) : Int) = a0b) ea0i (show ((9 : Nat) : Int) = 9 from rfl) (i3W (i3A (zm_rd (Z := Z129) (ν := ν) (k := 43) (rfl : ((a0b : Nat) : Int) = a0b) ea0i (show ((9 : Nat) : Int) = 9 from rfl)) (show (1 : Int32) = i3 1 from rfl))))
            subst e9
            obtain ⟨Z133, hZ133⟩ := zx (zu Z132 43 a0b a0ij 5 (a1 - (Z 43 a0b a0ij 1)))
            replace hP := zl_e hP hZ133
            have hZ133I := zH_u hZ132I hZ133 (lo := 0) (hi := 40) (by decide) rfl (by omega) ⟨by decide, by decide⟩ (Or.inl (by decide)) rfl
            have hZ133U : zU [a0b] Z Z133 := zU_u hZ132U hZ133 (Or.inr (List.Mem.head _))
            have hZ133K : zC [43] Z Z133 := zC_u hZ132K hZ133 (by decide)
            intro μ9 e9
            replace e9 := e9.trans (zm_wI (Z := Z132) (ν := ν) hZ133 (rfl : ((a0b : Nat) : Int) = a0b) ea0i (show ((5 : Nat) : Int) = 5 from rfl) (i3S (rfl : i3 a1 = i3 a1) (zm_rd (Z := Z) (ν := ν) (k := 43) (rfl : ((a0b : Nat) : Int) = a0b) ea0i (show ((1 : Nat) : Int) = 1 from rfl))))
            subst e9
            obtain ⟨Z134, hZ134⟩ := zx (zu Z133 43 a0b a0ij 7 0)
            replace hP := zl_e hP hZ134
            have hZ134I := zH_0 hZ133I hZ134 (by decide) (Or.inl (by decide))
            have hZ134U : zU [a0b] Z Z134 := zU_u hZ133U hZ134 (Or.inr (List.Mem.head _))
            have hZ134K : zC [43] Z Z134 := zC_u hZ133K hZ134 (by decide)
            intro μ9 e9
            replace e9 := e9.trans (zm_wI (Z := Z133) (ν := ν) hZ134 (rfl : ((a0b : Nat) : Int) = a0b) ea0i (show ((7 : Nat) : Int) = 7 from rfl) (show (0 : Int32) = i3 0 from rfl))
            subst e9
            exact zlV hP ⟨hZ134I, hZ134K, hZ134U⟩
      · replace hP := zE_n hP h110
        have r135 := zH_k hZ 43 a0b a0ij 1 (lo := 0) (hi := 9) (by decide) rfl
        refine wz_br (i3Le (zm_rd (Z := Z) (ν := ν) (k := 43) (rfl : ((a0b : Nat) : Int) = a0b) ea0i (show ((3 : Nat) : Int) = 3 from rfl)) (i3A (rfl : i3 a1 = i3 a1) (zm_rd (Z := Z) (ν := ν) (k := 43) (rfl : ((a0b : Nat) : Int) = a0b) ea0i (show ((1 : Nat) : Int) = 1 from rfl))) (by omega) (by omega) (by omega) (by omega)) (fun h136 => ?_) (fun h136 => ?_)
        · replace hP := zE_p hP h136
          refine wz_br (i3E (zm_rd (Z := Z) (ν := ν) (k := 43) (rfl : ((a0b : Nat) : Int) = a0b) ea0i (show ((3 : Nat) : Int) = 3 from rfl)) (rfl : i3 a1 = i3 a1) (by omega) (by omega) (by omega) (by omega)) (fun h137 => ?_) (fun h137 => ?_)
          · replace hP := zE_p hP h137
            obtain ⟨Z138, hZ138⟩ := zx (zu Z 43 a0b a0ij 5 (Z 43 a0b a0ij 3))
            replace hP := zl_e hP hZ138
            have hZ138I := zH_u hZ hZ138 (lo := 0) (hi := 40) (by decide) rfl (by omega) ⟨by decide, by decide⟩ (Or.inl (by decide)) rfl
            have hZ138U : zU [a0b] Z Z138 := zU_u zU_r hZ138 (Or.inr (List.Mem.head _))
            have hZ138K : zC [43] Z Z138 := zC_u zC_r hZ138 (by decide)
            intro μ9 e9
            replace e9 := e9.trans (zm_wI (Z := Z) (ν := ν) hZ138 (rfl : ((a0b : Nat) : Int) = a0b) ea0i (show ((5 : Nat) : Int) = 5 from rfl) (zm_rd (Z := Z) (ν := ν) (k := 43) (rfl : ((a0b : Nat) : Int) = a0b) ea0i (show ((3 : Nat) : Int) = 3 from rfl)))
            subst e9
            obtain ⟨Z139, hZ139⟩ := zx (zu Z138 43 a0b a0ij 7 0)
            replace hP := zl_e hP hZ139
            have hZ139I := zH_0 hZ138I hZ139 (by decide) (Or.inl (by decide))
            have hZ139U : zU [a0b] Z Z139 := zU_u hZ138U hZ139 (Or.inr (List.Mem.head _))
            have hZ139K : zC [43] Z Z139 := zC_u hZ138K hZ139 (by decide)
            intro μ9 e9
            replace e9 := e9.trans (zm_wI (Z := Z138) (ν := ν) hZ139 (rfl : ((a0b : Nat) : Int) = a0b) ea0i (show ((7 : Nat) : Int) = 7 from rfl) (show (0 : Int32) = i3 0 from rfl))
            subst e9
            exact zlV hP ⟨hZ139I, hZ139K, hZ139U⟩
          · replace hP := zE_n hP h137
            have r140 := zH_f hZ 43 a0b a0ij 8
            have r141 := w3_r ((Z 43 a0b a0ij 8) + 1)
            obtain ⟨Z142, hZ142⟩ := zx (zu Z 43 a0b a0ij 8 (w3 ((Z 43 a0b a0ij 8) + 1)))
            replace hP := zl_e hP hZ142
            have hZ142I := zH_u hZ hZ142 (lo := -2147483648) (hi := 2147483647) (by decide) rfl (by omega) ⟨by decide, by decide⟩ (Or.inl (by decide)) rfl
            have hZ142U : zU [a0b] Z Z142 := zU_u zU_r hZ142 (Or.inr (List.Mem.head _))
            have hZ142K : zC [43] Z Z142 := zC_u zC_r hZ142 (by decide)
            intro μ9 e9
            replace e9 := e9.trans (zm_wI (Z := Z) (ν := ν) hZ142 (rfl : ((a0b : Nat) : Int) = a0b) ea0i (show ((8 : Nat) : Int) = 8 from rfl) (i3W (i3A (zm_rd (Z := Z) (ν := ν) (k := 43) (rfl : ((a0b : Nat) : Int) = a0b) ea0i (show ((8 : Nat) : Int) = 8 from rfl)) (show (1 : Int32) = i3 1 from rfl))))
            subst e9
            have r143 := zH_f hZ142I 43 a0b a0ij 9
            have r144 := w3_r ((Z142 43 a0b a0ij 9) + 1)
            obtain ⟨Z145, hZ145⟩ := zx (zu Z142 43 a0b a0ij 9 (w3 ((Z142 43 a0b a0ij 9) + 1)))
            replace hP := zl_e hP hZ145
            have hZ145I := zH_u hZ142I hZ145 (lo := -2147483648) (hi := 2147483647) (by decide) rfl (by omega) ⟨by decide, by decide⟩ (Or.inl (by decide)) rfl
            have hZ145U : zU [a0b] Z Z145 := zU_u hZ142U hZ145 (Or.inr (List.Mem.head _))
            have hZ145K : zC [43] Z Z145 := zC_u hZ142K hZ145 (by decide)
            intro μ9 e9
            replace e9 := e9.trans (zm_wI (Z := Z142) (ν := ν) hZ145 (rfl : ((a0b : Nat) : Int) = a0b) ea0i (show ((9 : Nat) : Int) = 9 from rfl) (i3W (i3A (zm_rd (Z := Z142) (ν := ν) (k := 43) (rfl : ((a0b : Nat) : Int) = a0b) ea0i (show ((9 : Nat) : Int) = 9 from rfl)) (show (1 : Int32) = i3 1 from rfl))))
            subst e9
            obtain ⟨Z146, hZ146⟩ := zx (zu Z145 43 a0b a0ij 5 (Z 43 a0b a0ij 3))
            replace hP := zl_e hP hZ146
            have hZ146I := zH_u hZ145I hZ146 (lo := 0) (hi := 40) (by decide) rfl (by omega) ⟨by decide, by decide⟩ (Or.inl (by decide)) rfl
            have hZ146U : zU [a0b] Z Z146 := zU_u hZ145U hZ146 (Or.inr (List.Mem.head _))
            have hZ146K : zC [43] Z Z146 := zC_u hZ145K hZ146 (by decide)
            intro μ9 e9
            replace e9 := e9.trans (zm_wI (Z := Z145) (ν := ν) hZ146 (rfl : ((a0b : Nat) : Int) = a0b) ea0i (show ((5 : Nat) : Int) = 5 from rfl) (zm_rd (Z := Z) (ν := ν) (k := 43) (rfl : ((a0b : Nat) : Int) = a0b) ea0i (show ((3 : Nat) : Int) = 3 from rfl)))
            subst e9
            obtain ⟨Z147, hZ147⟩ := zx (zu Z146 43 a0b a0ij 7 0)
            replace hP := zl_e hP hZ147
            have hZ147I := zH_0 hZ146I hZ147 (by decide) (Or.inl (by decide))
            have hZ147U : zU [a0b] Z Z147 := zU_u hZ146U hZ147 (Or.inr (List.Mem.head _))
            have hZ147K : zC [43] Z Z147 := zC_u hZ146K hZ147 (by decide)
            intro μ9 e9
            replace e9 := e9.trans (zm_wI (Z := Z146) (ν := ν) hZ147 (rfl : ((a0b : Nat) : Int) = a0b) ea0i (show ((7 : Nat) : Int) = 7 from rfl) (show (0 : Int32) = i3 0 from rfl))
            subst e9
            exact zlV hP ⟨hZ147I, hZ147K, hZ147U⟩
        · replace hP := zE_n hP h136
          refine wz_br (i3E (i3A (rfl : i3 a1 = i3 a1) (zm_rd (Z := Z) (ν := ν) (k := 43) (rfl : ((a0b : Nat) : Int) = a0b) ea0i (show ((1 : Nat) : Int) = 1 from rfl))) (rfl : i3 a1 = i3 a1) (by omega) (by omega) (by omega) (by omega)) (fun h148 => ?_) (fun h148 => ?_)
          · replace hP := zE_p hP h148
            obtain ⟨Z149, hZ149⟩ := zx (zu Z 43 a0b a0ij 5 (a1 + (Z 43 a0b a0ij 1)))
            replace hP := zl_e hP hZ149
            have hZ149I := zH_u hZ hZ149 (lo := 0) (hi := 40) (by decide) rfl (by omega) ⟨by decide, by decide⟩ (Or.inl (by decide)) rfl
            have hZ149U : zU [a0b] Z Z149 := zU_u zU_r hZ149 (Or.inr (List.Mem.head _))
            have hZ149K : zC [43] Z Z149 := zC_u zC_r hZ149 (by decide)
            intro μ9 e9
            replace e9 := e9.trans (zm_wI (Z := Z) (ν := ν) hZ149 (rfl : ((a0b : Nat) : Int) = a0b) ea0i (show ((5 : Nat) : Int) = 5 from rfl) (i3A (rfl : i3 a1 = i3 a1) (zm_rd (Z := Z) (ν := ν) (k := 43) (rfl : ((a0b : Nat) : Int) = a0b) ea0i (show ((1 : Nat) : Int) = 1 from rfl))))
            subst e9
            obtain ⟨Z150, hZ150⟩ := zx (zu Z149 43 a0b a0ij 7 0)
            replace hP := zl_e hP hZ150
            have hZ150I := zH_0 hZ149I hZ150 (by decide) (Or.inl (by decide))
            have hZ150U : zU [a0b] Z Z150 := zU_u hZ149U hZ150 (Or.inr (List.Mem.head _))
            have hZ150K : zC [43] Z Z150 := zC_u hZ149K hZ150 (by decide)
            intro μ9 e9
            replace e9 := e9.trans (zm_wI (Z := Z149) (ν := ν) hZ150 (rfl : ((a0b : Nat) : Int) = a0b) ea0i (show ((7 : Nat) : Int) = 7 from rfl) (show (0 : Int32) = i3 0 from rfl))
            subst e9
            exact zlV hP ⟨hZ150I, hZ150K, hZ150U⟩
          · replace hP := zE_n hP h148
            have r151 := zH_f hZ 43 a0b a0ij 8
            have r152 := w3_r ((Z 43 a0b a0ij 8) + 1)
            obtain ⟨Z153, hZ153⟩ := zx (zu Z 43 a0b a0ij 8 (w3 ((Z 43 a0b a0ij 8) + 1)))
            replace hP := zl_e hP hZ153
            have hZ153I := zH_u hZ hZ153 (lo := -2147483648) (hi := 2147483647) (by decide) rfl (by omega) ⟨by decide, by decide⟩ (Or.inl (by decide)) rfl
            have hZ153U : zU [a0b] Z Z153 := zU_u zU_r hZ153 (Or.inr (List.Mem.head _))
            have hZ153K : zC [43] Z Z153 := zC_u zC_r hZ153 (by decide)
            intro μ9 e9
            replace e9 := e9.trans (zm_wI (Z := Z) (ν := ν) hZ153 (rfl : ((a0b : Nat) : Int) = a0b) ea0i (show ((8 : Nat) : Int) = 8 from rfl) (i3W (i3A (zm_rd (Z := Z) (ν := ν) (k := 43) (rfl : ((a0b : Nat) : Int) = a0b) ea0i (show ((8 : Nat) : Int) = 8 from rfl)) (show (1 : Int32) = i3 1 from rfl))))
            subst e9
            have r154 := zH_f hZ153I 43 a0b a0ij 9
            have r155 := w3_r ((Z153 43 a0b a0ij 9) + 1)
            obtain ⟨Z156, hZ156⟩ := zx (zu Z153 43 a0b a0ij 9 (w3 ((Z153 43 a0b a0ij 9) + 1)))
            replace hP := zl_e hP hZ156
            have hZ156I := zH_u hZ153I hZ156 (lo := -2147483648) (hi := 2147483647) (by decide) rfl (by omega) ⟨by decide, by decide⟩ (Or.inl (by decide)) rfl
            have hZ156U : zU [a0b] Z Z156 := zU_u hZ153U hZ156 (Or.inr (List.Mem.head _))
            have hZ156K : zC [43] Z Z156 := zC_u hZ153K hZ156 (by decide)
            intro μ9 e9
            replace e9 := e9.trans (zm_wI (Z := Z153) (ν := ν) hZ156 (rfl : ((a0b : Nat) : Int) = a0b) ea0i (show ((9 : Nat) : Int) = 9 from rfl) (i3W (i3A (zm_rd (Z := Z153) (ν := ν) (k := 43) (rfl : ((a0b : Nat) : Int) = a0b) ea0i (show ((9 : Nat) : Int) = 9 from rfl)) (show (1 : Int32) = i3 1 from rfl))))
            subst e9
            obtain ⟨Z157, hZ157⟩ := zx (zu Z156 43 a0b a0ij 5 (a1 + (Z 43 a0b a0ij 1)))
            replace hP := zl_e hP hZ157
            have hZ157I := zH_u hZ156I hZ157 (lo := 0) (hi := 40) (by decide) rfl (by omega) ⟨by decide, by decide⟩ (Or.inl (by decide)) rfl
            have hZ157U : zU [a0b] Z Z157 := zU_u hZ156U hZ157 (Or.inr (List.Mem.head _))
            have hZ157K : zC [43] Z Z157 := zC_u hZ156K hZ157 (by decide)
            intro μ9 e9
            replace e9 := e9.trans (zm_wI (Z := Z156) (ν := ν) hZ157 (rfl : ((a0b : Nat) : Int) = a0b) ea0i (show ((5 : Nat) : Int) = 5 from rfl) (i3A (rfl : i3 a1 = i3 a1) (zm_rd (Z := Z) (ν := ν) (k := 43) (rfl : ((a0b : Nat) : Int) = a0b) ea0i (show ((1 : Nat) : Int) = 1 from rfl))))
            subst e9
            obtain ⟨Z158, hZ158⟩ := zx (zu Z157 43 a0b a0ij 7 0)
            replace hP := zl_e hP hZ158
            have hZ158I := zH_0 hZ157I hZ158 (by decide) (Or.inl (by decide))
            have hZ158U : zU [a0b] Z Z158 := zU_u hZ157U hZ158 (Or.inr (List.Mem.head _))
            have hZ158K : zC [43] Z Z158 := zC_u hZ157K hZ158 (by decide)
            intro μ9 e9
            replace e9 := e9.trans (zm_wI (Z := Z157) (ν := ν) hZ158 (rfl : ((a0b : Nat) : Int) = a0b) ea0i (show ((7 : Nat) : Int) = 7 from rfl) (show (0 : Int32) = i3 0 from rfl))
            subst e9
            exact zlV hP ⟨hZ158I, hZ158K, hZ158U⟩
    · replace hP := zE_n hP h108
      have r159 := zH_k hZ 43 a0b a0ij 3 (lo := 0) (hi := 40) (by decide) rfl
      refine wz_br (i3Le (zm_rd (Z := Z) (ν := ν) (k := 43) (rfl : ((a0b : Nat) : Int) = a0b) ea0i (show ((3 : Nat) : Int) = 3 from rfl)) (i3A (zm_rd (Z := Z) (ν := ν) (k := 43) (rfl : ((a0b : Nat) : Int) = a0b) ea0i (show ((5 : Nat) : Int) = 5 from rfl)) (i3A (zm_rd (Z := Z) (ν := ν) (k := 43) (rfl : ((a0b : Nat) : Int) = a0b) ea0i (show ((2 : Nat) : Int) = 2 from rfl)) (zm_rd (Z := Z) (ν := ν) (k := 43) (rfl : ((a0b : Nat) : Int) = a0b) ea0i (show ((7 : Nat) : Int) = 7 from rfl)))) (by omega) (by omega) (by omega) (by omega)) (fun h160 => ?_) (fun h160 => ?_)
      · replace hP := zE_p hP h160
        have r161 := zH_k hZ 43 a0b a0ij 1 (lo := 0) (hi := 9) (by decide) rfl
        refine wz_br (i3Le (i3S (i3A (zm_rd (Z := Z) (ν := ν) (k := 43) (rfl : ((a0b : Nat) : Int) = a0b) ea0i (show ((5 : Nat) : Int) = 5 from rfl)) (i3A (zm_rd (Z := Z) (ν := ν) (k := 43) (rfl : ((a0b : Nat) : Int) = a0b) ea0i (show ((2 : Nat) : Int) = 2 from rfl)) (zm_rd (Z := Z) (ν := ν) (k := 43) (rfl : ((a0b : Nat) : Int) = a0b) ea0i (show ((7 : Nat) : Int) = 7 from rfl)))) (zm_rd (Z := Z) (ν := ν) (k := 43) (rfl : ((a0b : Nat) : Int) = a0b) ea0i (show ((1 : Nat) : Int) = 1 from rfl))) (zm_rd (Z := Z) (ν := ν) (k := 43) (rfl : ((a0b : Nat) : Int) = a0b) ea0i (show ((3 : Nat) : Int) = 3 from rfl)) (by omega) (by omega) (by omega) (by omega)) (fun h162 => ?_) (fun h162 => ?_)
        · replace hP := zE_p hP h162
          refine wz_br (i3E (zm_rd (Z := Z) (ν := ν) (k := 43) (rfl : ((a0b : Nat) : Int) = a0b) ea0i (show ((3 : Nat) : Int) = 3 from rfl)) (i3A (zm_rd (Z := Z) (ν := ν) (k := 43) (rfl : ((a0b : Nat) : Int) = a0b) ea0i (show ((5 : Nat) : Int) = 5 from rfl)) (i3A (zm_rd (Z := Z) (ν := ν) (k := 43) (rfl : ((a0b : Nat) : Int) = a0b) ea0i (show ((2 : Nat) : Int) = 2 from rfl)) (zm_rd (Z := Z) (ν := ν) (k := 43) (rfl : ((a0b : Nat) : Int) = a0b) ea0i (show ((7 : Nat) : Int) = 7 from rfl)))) (by omega) (by omega) (by omega) (by omega)) (fun h163 => ?_) (fun h163 => ?_)
          · replace hP := zE_p hP h163
            obtain ⟨Z164, hZ164⟩ := zx (zu Z 43 a0b a0ij 5 (Z 43 a0b a0ij 3))
            replace hP := zl_e hP hZ164
            have hZ164I := zH_u hZ hZ164 (lo := 0) (hi := 40) (by decide) rfl (by omega) ⟨by decide, by decide⟩ (Or.inl (by decide)) rfl
            have hZ164U : zU [a0b] Z Z164 := zU_u zU_r hZ164 (Or.inr (List.Mem.head _))
            have hZ164K : zC [43] Z Z164 := zC_u zC_r hZ164 (by decide)
            intro μ9 e9
            replace e9 := e9.trans (zm_wI (Z := Z) (ν := ν) hZ164 (rfl : ((a0b : Nat) : Int) = a0b) ea0i (show ((5 : Nat) : Int) = 5 from rfl) (zm_rd (Z := Z) (ν := ν) (k := 43) (rfl : ((a0b : Nat) : Int) = a0b) ea0i (show ((3 : Nat) : Int) = 3 from rfl)))
            subst e9
            obtain ⟨Z165, hZ165⟩ := zx (zu Z164 43 a0b a0ij 7 0)
            replace hP := zl_e hP hZ165
            have hZ165I := zH_0 hZ164I hZ165 (by decide) (Or.inl (by decide))
            have hZ165U : zU [a0b] Z Z165 := zU_u hZ164U hZ165 (Or.inr (List.Mem.head _))
            have hZ165K : zC [43] Z Z165 := zC_u hZ164K hZ165 (by decide)
            intro μ9 e9
            replace e9 := e9.trans (zm_wI (Z := Z164) (ν := ν) hZ165 (rfl : ((a0b : Nat) : Int) = a0b) ea0i (show ((7 : Nat) : Int) = 7 from rfl) (show (0 : Int32) = i3 0 from rfl))
            subst e9
            exact zlV hP ⟨hZ165I, hZ165K, hZ165U⟩
          · replace hP := zE_n hP h163
            have r166 := zH_f hZ 43 a0b a0ij 8
            have r167 := w3_r ((Z 43 a0b a0ij 8) + 1)
            obtain ⟨Z168, hZ168⟩ := zx (zu Z 43 a0b a0ij 8 (w3 ((Z 43 a0b a0ij 8) + 1)))
            replace hP := zl_e hP hZ168
            have hZ168I := zH_u hZ hZ168 (lo := -2147483648) (hi := 2147483647) (by decide) rfl (by omega) ⟨by decide, by decide⟩ (Or.inl (by decide)) rfl
            have hZ168U : zU [a0b] Z Z168 := zU_u zU_r hZ168 (Or.inr (List.Mem.head _))
            have hZ168K : zC [43] Z Z168 := zC_u zC_r hZ168 (by decide)
            intro μ9 e9
            replace e9 := e9.trans (zm_wI (Z := Z) (ν := ν) hZ168 (rfl : ((a0b : Nat) : Int) = a0b) ea0i (show ((8 : Nat) : Int) = 8 from rfl) (i3W (i3A (zm_rd (Z := Z) (ν := ν) (k := 43) (rfl : ((a0b : Nat) : Int) = a0b) ea0i (show ((8 : Nat) : Int) = 8 from rfl)) (show (1 : Int32) = i3 1 from rfl))))
            subst e9
            have r169 := zH_f hZ168I 43 a0b a0ij 9
            have r170 := w3_r ((Z168 43 a0b a0ij 9) + 1)
            obtain ⟨Z171, hZ171⟩ := zx (zu Z168 43 a0b a0ij 9 (w3 ((Z168 43 a0b a0ij 9) + 1)))
            replace hP := zl_e hP hZ171
            have hZ171I := zH_u hZ168I hZ171 (lo := -2147483648) (hi := 2147483647) (by decide) rfl (by omega) ⟨by decide, by decide⟩ (Or.inl (by decide)) rfl
            have hZ171U : zU [a0b] Z Z171 := zU_u hZ168U hZ171 (Or.inr (List.Mem.head _))
            have hZ171K : zC [43] Z Z171 := zC_u hZ168K hZ171 (by decide)
            intro μ9 e9
            replace e9 := e9.trans (zm_wI (Z := Z168) (ν := ν) hZ171 (rfl : ((a0b : Nat) : Int) = a0b) ea0i (show ((9 : Nat) : Int) = 9 from rfl) (i3W (i3A (zm_rd (Z := Z168) (ν := ν) (k := 43) (rfl : ((a0b : Nat) : Int) = a0b) ea0i (show ((9 : Nat) : Int) = 9 from rfl)) (show (1 : Int32) = i3 1 from rfl))))
            subst e9
            obtain ⟨Z172, hZ172⟩ := zx (zu Z171 43 a0b a0ij 5 (Z 43 a0b a0ij 3))
            replace hP := zl_e hP hZ172
            have hZ172I := zH_u hZ171I hZ172 (lo := 0) (hi := 40) (by decide) rfl (by omega) ⟨by decide, by decide⟩ (Or.inl (by decide)) rfl
            have hZ172U : zU [a0b] Z Z172 := zU_u hZ171U hZ172 (Or.inr (List.Mem.head _))
            have hZ172K : zC [43] Z Z172 := zC_u hZ171K hZ172 (by decide)
            intro μ9 e9
            replace e9 := e9.trans (zm_wI (Z := Z171) (ν := ν) hZ172 (rfl : ((a0b : Nat) : Int) = a0b) ea0i (show ((5 : Nat) : Int) = 5 from rfl) (zm_rd (Z := Z) (ν := ν) (k := 43) (rfl : ((a0b : Nat) : Int) = a0b) ea0i (show ((3 : Nat) : Int) = 3 from rfl)))
            subst e9
            obtain ⟨Z173, hZ173⟩ := zx (zu Z172 43 a0b a0ij 7 0)
            replace hP := zl_e hP hZ173
            have hZ173I := zH_0 hZ172I hZ173 (by decide) (Or.inl (by decide))
            have hZ173U : zU [a0b] Z Z173 := zU_u hZ172U hZ173 (Or.inr (List.Mem.head _))
            have hZ173K : zC [43] Z Z173 := zC_u hZ172K hZ173 (by decide)
            intro μ9 e9
            replace e9 := e9.trans (zm_wI (Z := Z172) (ν := ν) hZ173 (rfl : ((a0b : Nat) : Int) = a0b) ea0i (show ((7 : Nat) : Int) = 7 from rfl) (show (0 : Int32) = i3 0 from rfl))
            subst e9
            exact zlV hP ⟨hZ173I, hZ173K, hZ173U⟩
        · replace hP := zE_n hP h162
          refine wz_br (i3E (i3S (i3A (zm_rd (Z := Z) (ν := ν) (k := 43) (rfl : ((a0b : Nat) : Int) = a0b) ea0i (show ((5 : Nat) : Int) = 5 from rfl)) (i3A (zm_rd (Z := Z) (ν := ν) (k := 43) (rfl : ((a0b : Nat) : Int) = a0b) ea0i (show ((2 : Nat) : Int) = 2 from rfl)) (zm_rd (Z := Z) (ν := ν) (k := 43) (rfl : ((a0b : Nat) : Int) = a0b) ea0i (show ((7 : Nat) : Int) = 7 from rfl)))) (zm_rd (Z := Z) (ν := ν) (k := 43) (rfl : ((a0b : Nat) : Int) = a0b) ea0i (show ((1 : Nat) : Int) = 1 from rfl))) (i3A (zm_rd (Z := Z) (ν := ν) (k := 43) (rfl : ((a0b : Nat) : Int) = a0b) ea0i (show ((5 : Nat) : Int) = 5 from rfl)) (i3A (zm_rd (Z := Z) (ν := ν) (k := 43) (rfl : ((a0b : Nat) : Int) = a0b) ea0i (show ((2 : Nat) : Int) = 2 from rfl)) (zm_rd (Z := Z) (ν := ν) (k := 43) (rfl : ((a0b : Nat) : Int) = a0b) ea0i (show ((7 : Nat) : Int) = 7 from rfl)))) (by omega) (by omega) (by omega) (by omega)) (fun h174 => ?_) (fun h174 => ?_)
          · replace hP := zE_p hP h174
            obtain ⟨Z175, hZ175⟩ := zx (zu Z 43 a0b a0ij 5 (((Z 43 a0b a0ij 5) + ((Z 43 a0b a0ij 2) + (Z 43 a0b a0ij 7))) - (Z 43 a0b a0ij 1)))
            replace hP := zl_e hP hZ175
            have hZ175I := zH_u hZ hZ175 (lo := 0) (hi := 40) (by decide) rfl (by omega) ⟨by decide, by decide⟩ (Or.inl (by decide)) rfl
            have hZ175U : zU [a0b] Z Z175 := zU_u zU_r hZ175 (Or.inr (List.Mem.head _))
            have hZ175K : zC [43] Z Z175 := zC_u zC_r hZ175 (by decide)
            intro μ9 e9
            replace e9 := e9.trans (zm_wI (Z := Z) (ν := ν) hZ175 (rfl : ((a0b : Nat) : Int) = a0b) ea0i (show ((5 : Nat) : Int) = 5 from rfl) (i3S (i3A (zm_rd (Z := Z) (ν := ν) (k := 43) (rfl : ((a0b : Nat) : Int) = a0b) ea0i (show ((5 : Nat) : Int) = 5 from rfl)) (i3A (zm_rd (Z := Z) (ν := ν) (k := 43) (rfl : ((a0b : Nat) : Int) = a0b) ea0i (show ((2 : Nat) : Int) = 2 from rfl)) (zm_rd (Z := Z) (ν := ν) (k := 43) (rfl : ((a0b : Nat) : Int) = a0b) ea0i (show ((7 : Nat) : Int) = 7 from rfl)))) (zm_rd (Z := Z) (ν := ν) (k := 43) (rfl : ((a0b : Nat) : Int) = a0b) ea0i (show ((1 : Nat) : Int) = 1 from rfl))))
            subst e9
            obtain ⟨Z176, hZ176⟩ := zx (zu Z175 43 a0b a0ij 7 0)
            replace hP := zl_e hP hZ176
            have hZ176I := zH_0 hZ175I hZ176 (by decide) (Or.inl (by decide))
            have hZ176U : zU [a0b] Z Z176 := zU_u hZ175U hZ176 (Or.inr (List.Mem.head _))
            have hZ176K : zC [43] Z Z176 := zC_u hZ175K hZ176 (by decide)
            intro μ9 e9
            replace e9 := e9.trans (zm_wI (Z := Z175) (ν := ν) hZ176 (rfl : ((a0b : Nat) : Int) = a0b) ea0i (show ((7 : Nat) : Int) = 7 from rfl) (show (0 : Int32) = i3 0 from rfl))
            subst e9
            exact zlV hP ⟨hZ176I, hZ176K, hZ176U⟩
          · replace hP := zE_n hP h174
            have r177 := zH_f hZ 43 a0b a0ij 8
            have r178 := w3_r ((Z 43 a0b a0ij 8) + 1)
            obtain ⟨Z179, hZ179⟩ := zx (zu Z 43 a0b a0ij 8 (w3 ((Z 43 a0b a0ij 8) + 1)))
            replace hP := zl_e hP hZ179
            have hZ179I := zH_u hZ hZ179 (lo := -2147483648) (hi := 2147483647) (by decide) rfl (by omega) ⟨by decide, by decide⟩ (Or.inl (by decide)) rfl
            have hZ179U : zU [a0b] Z Z179 := zU_u zU_r hZ179 (Or.inr (List.Mem.head _))
            have hZ179K : zC [43] Z Z179 := zC_u zC_r hZ179 (by decide)
            intro μ9 e9
            replace e9 := e9.trans (zm_wI (Z := Z) (ν := ν) hZ179 (rfl : ((a0b : Nat) : Int) = a0b) ea0i (show ((8 : Nat) : Int) = 8 from rfl) (i3W (i3A (zm_rd (Z := Z) (ν := ν) (k := 43) (rfl : ((a0b : Nat) : Int) = a0b) ea0i (show ((8 : Nat) : Int) = 8 from rfl)) (show (1 : Int32) = i3 1 from rfl))))
            subst e9
            have r180 := zH_f hZ179I 43 a0b a0ij 9
            have r181 := w3_r ((Z179 43 a0b a0ij 9) + 1)
            obtain ⟨Z182, hZ182⟩ := zx (zu Z179 43 a0b a0ij 9 (w3 ((Z179 43 a0b a0ij 9) + 1)))
            replace hP := zl_e hP hZ182
            have hZ182I := zH_u hZ179I hZ182 (lo := -2147483648) (hi := 2147483647) (by decide) rfl (by omega) ⟨by decide, by decide⟩ (Or.inl (by decide)) rfl
            have hZ182U : zU [a0b] Z Z182 := zU_u hZ179U hZ182 (Or.inr (List.Mem.head _))
            have hZ182K : zC [43] Z Z182 := zC_u hZ179K hZ182 (by decide)
            intro μ9 e9
            replace e9 := e9.trans (zm_wI (Z := Z179) (ν := ν) hZ182 (rfl : ((a0b : Nat) : Int) = a0b) ea0i (show ((9 : Nat) : Int) = 9 from rfl) (i3W (i3A (zm_rd (Z := Z179) (ν := ν) (k := 43) (rfl : ((a0b : Nat) : Int) = a0b) ea0i (show ((9 : Nat) : Int) = 9 from rfl)) (show (1 : Int32) = i3 1 from rfl))))
            subst e9
            obtain ⟨Z183, hZ183⟩ := zx (zu Z182 43 a0b a0ij 5 (((Z 43 a0b a0ij 5) + ((Z 43 a0b a0ij 2) + (Z 43 a0b a0ij 7))) - (Z 43 a0b a0ij 1)))
            replace hP := zl_e hP hZ183
            have hZ183I := zH_u hZ182I hZ183 (lo := 0) (hi := 40) (by decide) rfl (by omega) ⟨by decide, by decide⟩ (Or.inl (by decide)) rfl
            have hZ183U : zU [a0b] Z Z183 := zU_u hZ182U hZ183 (Or.inr (List.Mem.head _))
            have hZ183K : zC [43] Z Z183 := zC_u hZ182K hZ183 (by decide)
            intro μ9 e9
            replace e9 := e9.trans (zm_wI (Z := Z182) (ν := ν) hZ183 (rfl : ((a0b : Nat) : Int) = a0b) ea0i (show ((5 : Nat) : Int) = 5 from rfl) (i3S (i3A (zm_rd (Z := Z) (ν := ν) (k := 43) (rfl : ((a0b : Nat) : Int) = a0b) ea0i (show ((5 : Nat) : Int) = 5 from rfl)) (i3A (zm_rd (Z := Z) (ν := ν) (k := 43) (rfl : ((a0b : Nat) : Int) = a0b) ea0i (show ((2 : Nat) : Int) = 2 from rfl)) (zm_rd (Z := Z) (ν := ν) (k := 43) (rfl : ((a0b : Nat) : Int) = a0b) ea0i (show ((7 : Nat) : Int) = 7 from rfl)))) (zm_rd (Z := Z) (ν := ν) (k := 43) (rfl : ((a0b : Nat) : Int) = a0b) ea0i (show ((1 : Nat) : Int) = 1 from rfl))))
            subst e9
            obtain ⟨Z184, hZ184⟩ := zx (zu Z183 43 a0b a0ij 7 0)
            replace hP := zl_e hP hZ184
            have hZ184I := zH_0 hZ183I hZ184 (by decide) (Or.inl (by decide))
            have hZ184U : zU [a0b] Z Z184 := zU_u hZ183U hZ184 (Or.inr (List.Mem.head _))
            have hZ184K : zC [43] Z Z184 := zC_u hZ183K hZ184 (by decide)
            intro μ9 e9
            replace e9 := e9.trans (zm_wI (Z := Z183) (ν := ν) hZ184 (rfl : ((a0b : Nat) : Int) = a0b) ea0i (show ((7 : Nat) : Int) = 7 from rfl) (show (0 : Int32) = i3 0 from rfl))
            subst e9
            exact zlV hP ⟨hZ184I, hZ184K, hZ184U⟩
      · replace hP := zE_n hP h160
        have r185 := zH_k hZ 43 a0b a0ij 1 (lo := 0) (hi := 9) (by decide) rfl
        refine wz_br (i3Le (zm_rd (Z := Z) (ν := ν) (k := 43) (rfl : ((a0b : Nat) : Int) = a0b) ea0i (show ((3 : Nat) : Int) = 3 from rfl)) (i3A (i3A (zm_rd (Z := Z) (ν := ν) (k := 43) (rfl : ((a0b : Nat) : Int) = a0b) ea0i (show ((5 : Nat) : Int) = 5 from rfl)) (i3A (zm_rd (Z := Z) (ν := ν) (k := 43) (rfl : ((a0b : Nat) : Int) = a0b) ea0i (show ((2 : Nat) : Int) = 2 from rfl)) (zm_rd (Z := Z) (ν := ν) (k := 43) (rfl : ((a0b : Nat) : Int) = a0b) ea0i (show ((7 : Nat) : Int) = 7 from rfl)))) (zm_rd (Z := Z) (ν := ν) (k := 43) (rfl : ((a0b : Nat) : Int) = a0b) ea0i (show ((1 : Nat) : Int) = 1 from rfl))) (by omega) (by omega) (by omega) (by omega)) (fun h186 => ?_) (fun h186 => ?_)
        · replace hP := zE_p hP h186
          refine wz_br (i3E (zm_rd (Z := Z) (ν := ν) (k := 43) (rfl : ((a0b : Nat) : Int) = a0b) ea0i (show ((3 : Nat) : Int) = 3 from rfl)) (i3A (zm_rd (Z := Z) (ν := ν) (k := 43) (rfl : ((a0b : Nat) : Int) = a0b) ea0i (show ((5 : Nat) : Int) = 5 from rfl)) (i3A (zm_rd (Z := Z) (ν := ν) (k := 43) (rfl : ((a0b : Nat) : Int) = a0b) ea0i (show ((2 : Nat) : Int) = 2 from rfl)) (zm_rd (Z := Z) (ν := ν) (k := 43) (rfl : ((a0b : Nat) : Int) = a0b) ea0i (show ((7 : Nat) : Int) = 7 from rfl)))) (by omega) (by omega) (by omega) (by omega)) (fun h187 => ?_) (fun h187 => ?_)
          · replace hP := zE_p hP h187
            obtain ⟨Z188, hZ188⟩ := zx (zu Z 43 a0b a0ij 5 (Z 43 a0b a0ij 3))
            replace hP := zl_e hP hZ188
            have hZ188I := zH_u hZ hZ188 (lo := 0) (hi := 40) (by decide) rfl (by omega) ⟨by decide, by decide⟩ (Or.inl (by decide)) rfl
            have hZ188U : zU [a0b] Z Z188 := zU_u zU_r hZ188 (Or.inr (List.Mem.head _))
            have hZ188K : zC [43] Z Z188 := zC_u zC_r hZ188 (by decide)
            intro μ9 e9
            replace e9 := e9.trans (zm_wI (Z := Z) (ν := ν) hZ188 (rfl : ((a0b : Nat) : Int) = a0b) ea0i (show ((5 : Nat) : Int) = 5 from rfl) (zm_rd (Z := Z) (ν := ν) (k := 43) (rfl : ((a0b : Nat) : Int) = a0b) ea0i (show ((3 : Nat) : Int) = 3 from rfl)))
            subst e9
            obtain ⟨Z189, hZ189⟩ := zx (zu Z188 43 a0b a0ij 7 0)
            replace hP := zl_e hP hZ189
            have hZ189I := zH_0 hZ188I hZ189 (by decide) (Or.inl (by decide))
            have hZ189U : zU [a0b] Z Z189 := zU_u hZ188U hZ189 (Or.inr (List.Mem.head _))
            have hZ189K : zC [43] Z Z189 := zC_u hZ188K hZ189 (by decide)
            intro μ9 e9
            replace e9 := e9.trans (zm_wI (Z := Z188) (ν := ν) hZ189 (rfl : ((a0b : Nat) : Int) = a0b) ea0i (show ((7 : Nat) : Int) = 7 from rfl) (show (0 : Int32) = i3 0 from rfl))
            subst e9
            exact zlV hP ⟨hZ189I, hZ189K, hZ189U⟩
          · replace hP := zE_n hP h187
            have r190 := zH_f hZ 43 a0b a0ij 8
            have r191 := w3_r ((Z 43 a0b a0ij 8) + 1)
            obtain ⟨Z192, hZ192⟩ := zx (zu Z 43 a0b a0ij 8 (w3 ((Z 43 a0b a0ij 8) + 1)))
            replace hP := zl_e hP hZ192
            have hZ192I := zH_u hZ hZ192 (lo := -2147483648) (hi := 2147483647) (by decide) rfl (by omega) ⟨by decide, by decide⟩ (Or.inl (by decide)) rfl
            have hZ192U : zU [a0b] Z Z192 := zU_u zU_r hZ192 (Or.inr (List.Mem.head _))
            have hZ192K : zC [43] Z Z192 := zC_u zC_r hZ192 (by decide)
            intro μ9 e9
            replace e9 := e9.trans (zm_wI (Z := Z) (ν := ν) hZ192 (rfl : ((a0b : Nat) : Int) = a0b) ea0i (show ((8 : Nat) : Int) = 8 from rfl) (i3W (i3A (zm_rd (Z := Z) (ν := ν) (k := 43) (rfl : ((a0b : Nat) : Int) = a0b) ea0i (show ((8 : Nat) : Int) = 8 from rfl)) (show (1 : Int32) = i3 1 from rfl))))
            subst e9
            have r193 := zH_f hZ192I 43 a0b a0ij 9
            have r194 := w3_r ((Z192 43 a0b a0ij 9) + 1)
            obtain ⟨Z195, hZ195⟩ := zx (zu Z192 43 a0b a0ij 9 (w3 ((Z192 43 a0b a0ij 9) + 1)))
            replace hP := zl_e hP hZ195
            have hZ195I := zH_u hZ192I hZ195 (lo := -2147483648) (hi := 2147483647) (by decide) rfl (by omega) ⟨by decide, by decide⟩ (Or.inl (by decide)) rfl
            have hZ195U : zU [a0b] Z Z195 := zU_u hZ192U hZ195 (Or.inr (List.Mem.head _))
            have hZ195K : zC [43] Z Z195 := zC_u hZ192K hZ195 (by decide)
            intro μ9 e9
            replace e9 := e9.trans (zm_wI (Z := Z192) (ν := ν) hZ195 (rfl : ((a0b : Nat) : Int) = a0b) ea0i (show ((9 : Nat) : Int) = 9 from rfl) (i3W (i3A (zm_rd (Z := Z192) (ν := ν) (k := 43) (rfl : ((a0b : Nat) : Int) = a0b) ea0i (show ((9 : Nat) : Int) = 9 from rfl)) (show (1 : Int32) = i3 1 from rfl))))
            subst e9
            obtain ⟨Z196, hZ196⟩ := zx (zu Z195 43 a0b a0ij 5 (Z 43 a0b a0ij 3))
            replace hP := zl_e hP hZ196
            have hZ196I := zH_u hZ195I hZ196 (lo := 0) (hi := 40) (by decide) rfl (by omega) ⟨by decide, by decide⟩ (Or.inl (by decide)) rfl
            have hZ196U : zU [a0b] Z Z196 := zU_u hZ195U hZ196 (Or.inr (List.Mem.head _))
            have hZ196K : zC [43] Z Z196 := zC_u hZ195K hZ196 (by decide)
            intro μ9 e9
            replace e9 := e9.trans (zm_wI (Z := Z195) (ν := ν) hZ196 (rfl : ((a0b : Nat) : Int) = a0b) ea0i (show ((5 : Nat) : Int) = 5 from rfl) (zm_rd (Z := Z) (ν := ν) (k := 43) (rfl : ((a0b : Nat) : Int) = a0b) ea0i (show ((3 : Nat) : Int) = 3 from rfl)))
            subst e9
            obtain ⟨Z197, hZ197⟩ := zx (zu Z196 43 a0b a0ij 7 0)
            replace hP := zl_e hP hZ197
            have hZ197I := zH_0 hZ196I hZ197 (by decide) (Or.inl (by decide))
            have hZ197U : zU [a0b] Z Z197 := zU_u hZ196U hZ197 (Or.inr (List.Mem.head _))
            have hZ197K : zC [43] Z Z197 := zC_u hZ196K hZ197 (by decide)
            intro μ9 e9
            replace e9 := e9.trans (zm_wI (Z := Z196) (ν := ν) hZ197 (rfl : ((a0b : Nat) : Int) = a0b) ea0i (show ((7 : Nat) : Int) = 7 from rfl) (show (0 : Int32) = i3 0 from rfl))
            subst e9
            exact zlV hP ⟨hZ197I, hZ197K, hZ197U⟩
        · replace hP := zE_n hP h186
          refine wz_br (i3E (i3A (i3A (zm_rd (Z := Z) (ν := ν) (k := 43) (rfl : ((a0b : Nat) : Int) = a0b) ea0i (show ((5 : Nat) : Int) = 5 from rfl)) (i3A (zm_rd (Z := Z) (ν := ν) (k := 43) (rfl : ((a0b : Nat) : Int) = a0b) ea0i (show ((2 : Nat) : Int) = 2 from rfl)) (zm_rd (Z := Z) (ν := ν) (k := 43) (rfl : ((a0b : Nat) : Int) = a0b) ea0i (show ((7 : Nat) : Int) = 7 from rfl)))) (zm_rd (Z := Z) (ν := ν) (k := 43) (rfl : ((a0b : Nat) : Int) = a0b) ea0i (show ((1 : Nat) : Int) = 1 from rfl))) (i3A (zm_rd (Z := Z) (ν := ν) (k := 43) (rfl : ((a0b : Nat) : Int) = a0b) ea0i (show ((5 : Nat) : Int) = 5 from rfl)) (i3A (zm_rd (Z := Z) (ν := ν) (k := 43) (rfl : ((a0b : Nat) : Int) = a0b) ea0i (show ((2 : Nat) : Int) = 2 from rfl)) (zm_rd (Z := Z) (ν := ν) (k := 43) (rfl : ((a0b : Nat) : Int) = a0b) ea0i (show ((7 : Nat) : Int) = 7 from rfl)))) (by omega) (by omega) (by omega) (by omega)) (fun h198 => ?_) (fun h198 => ?_)
          · replace hP := zE_p hP h198
            obtain ⟨Z199, hZ199⟩ := zx (zu Z 43 a0b a0ij 5 (((Z 43 a0b a0ij 5) + ((Z 43 a0b a0ij 2) + (Z 43 a0b a0ij 7))) + (Z 43 a0b a0ij 1)))
            replace hP := zl_e hP hZ199
            have hZ199I := zH_u hZ hZ199 (lo := 0) (hi := 40) (by decide) rfl (by omega) ⟨by decide, by decide⟩ (Or.inl (by decide)) rfl
            have hZ199U : zU [a0b] Z Z199 := zU_u zU_r hZ199 (Or.inr (List.Mem.head _))
            have hZ199K : zC [43] Z Z199 := zC_u zC_r hZ199 (by decide)
            intro μ9 e9
            replace e9 := e9.trans (zm_wI (Z := Z) (ν := ν) hZ199 (rfl : ((a0b : Nat) : Int) = a0b) ea0i (show ((5 : Nat) : Int) = 5 from rfl) (i3A (i3A (zm_rd (Z := Z) (ν := ν) (k := 43) (rfl : ((a0b : Nat) : Int) = a0b) ea0i (show ((5 : Nat) : Int) = 5 from rfl)) (i3A (zm_rd (Z := Z) (ν := ν) (k := 43) (rfl : ((a0b : Nat) : Int) = a0b) ea0i (show ((2 : Nat) : Int) = 2 from rfl)) (zm_rd (Z := Z) (ν := ν) (k := 43) (rfl : ((a0b : Nat) : Int) = a0b) ea0i (show ((7 : Nat) : Int) = 7 from rfl)))) (zm_rd (Z := Z) (ν := ν) (k := 43) (rfl : ((a0b : Nat) : Int) = a0b) ea0i (show ((1 : Nat) : Int) = 1 from rfl))))
            subst e9
            obtain ⟨Z200, hZ200⟩ := zx (zu Z199 43 a0b a0ij 7 0)
            replace hP := zl_e hP hZ200
            have hZ200I := zH_0 hZ199I hZ200 (by decide) (Or.inl (by decide))
            have hZ200U : zU [a0b] Z Z200 := zU_u hZ199U hZ200 (Or.inr (List.Mem.head _))
            have hZ200K : zC [43] Z Z200 := zC_u hZ199K hZ200 (by decide)
            intro μ9 e9
            replace e9 := e9.trans (zm_wI (Z := Z199) (ν := ν) hZ200 (rfl : ((a0b : Nat) : Int) = a0b) ea0i (show ((7 : Nat) : Int) = 7 from rfl) (show (0 : Int32) = i3 0 from rfl))
            subst e9
            exact zlV hP ⟨hZ200I, hZ200K, hZ200U⟩
          · replace hP := zE_n hP h198
            have r201 := zH_f hZ 43 a0b a0ij 8
            have r202 := w3_r ((Z 43 a0b a0ij 8) + 1)
            obtain ⟨Z203, hZ203⟩ := zx (zu Z 43 a0b a0ij 8 (w3 ((Z 43 a0b a0ij 8) + 1)))
            replace hP := zl_e hP hZ203
            have hZ203I := zH_u hZ hZ203 (lo := -2147483648) (hi := 2147483647) (by decide) rfl (by omega) ⟨by decide, by decide⟩ (Or.inl (by decide)) rfl
            have hZ203U : zU [a0b] Z Z203 := zU_u zU_r hZ203 (Or.inr (List.Mem.head _))
            have hZ203K : zC [43] Z Z203 := zC_u zC_r hZ203 (by decide)
            intro μ9 e9
            replace e9 := e9.trans (zm_wI (Z := Z) (ν := ν) hZ203 (rfl : ((a0b : Nat) : Int) = a0b) ea0i (show ((8 : Nat) : Int) = 8 from rfl) (i3W (i3A (zm_rd (Z := Z) (ν := ν) (k := 43) (rfl : ((a0b : Nat) : Int) = a0b) ea0i (show ((8 : Nat) : Int) = 8 from rfl)) (show (1 : Int32) = i3 1 from rfl))))
            subst e9
            have r204 := zH_f hZ203I 43 a0b a0ij 9
            have r205 := w3_r ((Z203 43 a0b a0ij 9) + 1)
            obtain ⟨Z206, hZ206⟩ := zx (zu Z203 43 a0b a0ij 9 (w3 ((Z203 43 a0b a0ij 9) + 1)))
            replace hP := zl_e hP hZ206
            have hZ206I := zH_u hZ203I hZ206 (lo := -2147483648) (hi := 2147483647) (by decide) rfl (by omega) ⟨by decide, by decide⟩ (Or.inl (by decide)) rfl
            have hZ206U : zU [a0b] Z Z206 := zU_u hZ203U hZ206 (Or.inr (List.Mem.head _))
            have hZ206K : zC [43] Z Z206 := zC_u hZ203K hZ206 (by decide)
            intro μ9 e9
            replace e9 := e9.trans (zm_wI (Z := Z203) (ν := ν) hZ206 (rfl : ((a0b : Nat) : Int) = a0b) ea0i (show ((9 : Nat) : Int) = 9 from rfl) (i3W (i3A (zm_rd (Z := Z203) (ν := ν) (k := 43) (rfl : ((a0b : Nat) : Int) = a0b) ea0i (show ((9 : Nat) : Int) = 9 from rfl)) (show (1 : Int32) = i3 1 from rfl))))
            subst e9
            obtain ⟨Z207, hZ207⟩ := zx (zu Z206 43 a0b a0ij 5 (((Z 43 a0b a0ij 5) + ((Z 43 a0b a0ij 2) + (Z 43 a0b a0ij 7))) + (Z 43 a0b a0ij 1)))
            replace hP := zl_e hP hZ207
            have hZ207I := zH_u hZ206I hZ207 (lo := 0) (hi := 40) (by decide) rfl (by omega) ⟨by decide, by decide⟩ (Or.inl (by decide)) rfl
            have hZ207U : zU [a0b] Z Z207 := zU_u hZ206U hZ207 (Or.inr (List.Mem.head _))
            have hZ207K : zC [43] Z Z207 := zC_u hZ206K hZ207 (by decide)
            intro μ9 e9
            replace e9 := e9.trans (zm_wI (Z := Z206) (ν := ν) hZ207 (rfl : ((a0b : Nat) : Int) = a0b) ea0i (show ((5 : Nat) : Int) = 5 from rfl) (i3A (i3A (zm_rd (Z := Z) (ν := ν) (k := 43) (rfl : ((a0b : Nat) : Int) = a0b) ea0i (show ((5 : Nat) : Int) = 5 from rfl)) (i3A (zm_rd (Z := Z) (ν := ν) (k := 43) (rfl : ((a0b : Nat) : Int) = a0b) ea0i (show ((2 : Nat) : Int) = 2 from rfl)) (zm_rd (Z := Z) (ν := ν) (k := 43) (rfl : ((a0b : Nat) : Int) = a0b) ea0i (show ((7 : Nat) : Int) = 7 from rfl)))) (zm_rd (Z := Z) (ν := ν) (k := 43) (rfl : ((a0b : Nat) : Int) = a0b) ea0i (show ((1 : Nat) : Int) = 1 from rfl))))
            subst e9
            obtain ⟨Z208, hZ208⟩ := zx (zu Z207 43 a0b a0ij 7 0)
            replace hP := zl_e hP hZ208
            have hZ208I := zH_0 hZ207I hZ208 (by decide) (Or.inl (by decide))
            have hZ208U : zU [a0b] Z Z208 := zU_u hZ207U hZ208 (Or.inr (List.Mem.head _))
            have hZ208K : zC [43] Z Z208 := zC_u hZ207K hZ208 (by decide)
            intro μ9 e9
            replace e9 := e9.trans (zm_wI (Z := Z207) (ν := ν) hZ208 (rfl : ((a0b : Nat) : Int) = a0b) ea0i (show ((7 : Nat) : Int) = 7 from rfl) (show (0 : Int32) = i3 0 from rfl))
            subst e9
            exact zlV hP ⟨hZ208I, hZ208K, hZ208U⟩
/- yX10_growOlder -/
def zl_171_1 (x0b : Int) (x1 : Int) : Nat → qz_Z → Int → qz_Z × Int
  | 0, Z, x2 => (Z, x2)
  | m + 1, Z, x2 => (if (Z 11 x0b 0 2) ≤ x2 then (Z, x2) else (zlet (zf_168 Z x0b x2 x1) (fun Z3 => zl_171_1 x0b x1 m Z3 (x2 + 1))))
theorem sl_171_1 {s : zSM} {Zs Z : qz_Z} {ν : qz_N} (hZ : zH s Z) (hM : s.2 + 0 ≤ 1000000000) (hK : zC [43] Zs Z) (x0b : Nat) {x1 : Int} (gx1 : 0 ≤ x1 ∧ x1 ≤ 40) {x2 : Int} (gx2 : 0 ≤ x2 ∧ x2 ≤ 6) (hU : zU [x0b] Zs Z) {k : wz_K} {R : wz_R} {L : qz_L} (hL : qz_fg [true, true, true, false, false, false, false, false] L = [some (.inr (.inr (some (10, x0b, 0)))), some (.inl (i3 x1)), some (.inl (i3 x2)), none, none, none, none, none]) {T : qz_Z × Int} (hP : zE T (zl_171_1 x0b x1 ((6 - x2).toNat + 1) Z x2)) (hk : ∀ (L9 : qz_L) (Z9 : qz_Z) (yx2 : Int), qz_fg [true, true, false, false, false, false, false, false] L9 = [some (.inr (.inr (some (10, x0b, 0)))), some (.inl (i3 x1)), none, none, none, none, none, none] → zH s Z9 → zC [43] Zs Z9 → zU [x0b] Zs Z9 → (0 ≤ yx2 ∧ yx2 ≤ 6) → zE T ((Z9, yx2)) → k 0 (L9, [], zm Z9 ν)) : wz_loop qb_171_1 65536 k R (L, [], zm Z ν) := by
  refine wz_lp sb_171_1 (fun m x => ∃ Z : qz_Z, ∃ x2 : Int, qz_fg [true, true, true, false, false, false, false, false] x.1 = [some (.inr (.inr (some (10, x0b, 0)))), some (.inl (i3 x1)), some (.inl (i3 x2)), none, none, none, none, none] ∧ x.2 = ([], zm Z ν) ∧ zH s Z ∧ zC [43] Zs Z ∧ zU [x0b] Zs Z ∧ m = (6 - x2).toNat ∧ (0 ≤ x2 ∧ x2 ≤ 6) ∧ zE T (zl_171_1 x0b x1 (m + 1) Z x2)) ?_ 65536 ((6 - x2).toNat) _ (by omega) ⟨Z, x2, hL, rfl, hZ, hK, hU, rfl, gx2, hP⟩
  clear hP gx2 hZ hK hU hL
  clear x2
  clear Z
  rintro m ⟨L, st, μ⟩ ⟨Z, x2, hL, hx, hZ, hK, hU, hm, gx2, hP⟩
  cases hx
  refine fb_171_1 x0b (i3 x1) (i3 x2) _ _ _ _ hL ?_
  have r1 := zH_k hZ 11 x0b 0 2 (lo := 0) (hi := 6) (by decide) rfl
  refine wz_br (i3Le (zm_rd (Z := Z) (ν := ν) (k := 11) (rfl : ((x0b : Nat) : Int) = x0b) (show ((0 : Nat) : Int) = 0 from rfl) (show ((2 : Nat) : Int) = 2 from rfl)) (rfl : i3 x2 = i3 x2) (by omega) (by omega) (by omega) (by omega)) (fun h2 => ?_) (fun h2 => ?_)
  · replace hP := zE_p hP h2
    exact hk _ _ _ (zconso rfl (zconso (zvo (rfl : i3 x1 = i3 x1)) (zconso rfl (zconso rfl (zconso rfl (zconso rfl (zconso rfl (zconso rfl rfl)))))))) hZ hK hU (by omega)  hP
  · replace hP := zE_n hP h2
    refine wz_i0 (i3O (n := 6) (rfl : i3 x2 = i3 x2) (by omega) (by omega) (by omega)) ?_
    obtain ⟨Z3, hZ3, c9, hZ3I, kZ3, jZ3⟩ := sp_168 (ν := ν) hZ x0b _ (i3I (y := x2) (rfl : i3 x2 = i3 x2) (by omega) (by omega) (by omega)) (by omega) (a1 := x1) (by omega) (zbh (c := 0) (k := 0) hM (Nat.le_of_ble_eq_true rfl))
    have hZ3U : zU [x0b] Zs Z3 := zU_t hU jZ3 (zU_b1 (List.Mem.head _) zU_b0)
    have hZ3K : zC [43] Zs Z3 := zC_t hK kZ3 (by decide)
    replace hP := zl_e hP hZ3
    refine wz_cV_of (zas (zcons rfl (zcons (zvi (rfl : i3 x1 = i3 x1)) rfl)) c9) ?_
    clear c9
    obtain ⟨m2, rfl⟩ : ∃ m2, m = m2 + 1 := ⟨m - 1, by omega⟩
    exact wz_k1 ⟨m2, by omega, Z3, (x2 + 1), (zconso rfl (zconso (zvo (rfl : i3 x1 = i3 x1)) (zconso (zvo (i3A (rfl : i3 x2 = i3 x2) (show (1 : Int32) = i3 1 from rfl))) (zconso rfl (zconso rfl (zconso rfl (zconso rfl (zconso rfl rfl)))))))), rfl, hZ3I, hZ3K, hZ3U, by omega, by omega,  hP⟩
/- yX10_growOlder -/
def zl_171_2 (x0b : Int) (x1 : Int) : Nat → qz_Z → Int → qz_Z × Int
  | 0, Z, x2 => (Z, x2)
  | m + 1, Z, x2 => (if (Z 11 x0b 0 3) ≤ x2 then (Z, x2) else (if (Z 44 x0b x2 12) = (-1) then zl_171_2 x0b x1 m Z (x2 + 1) else (if (Z 44 x0b x2 12) ≠ 6 then (if (Z 43 x0b (Z 44 x0b x2 12) 4) ≠ 1 then (zlet (zu Z 44 x0b x2 7 (min ((Z 44 x0b x2 7) + (((Z 41 x0b (Z 44 x0b x2 1) 0) * (max 0 ((Z 43 x0b (Z 44 x0b x2 12) 5) - (Z 41 x0b (Z 44 x0b x2 1) 1)))) / 8)) 2000)) (fun Z14 => (if (Z14 41 x0b (Z 44 x0b x2 1) 2) ≤ (Z 43 x0b (Z 44 x0b x2 12) 5) then (zlet (zu Z14 44 x0b x2 8 (Z14 44 x0b x2 8)) (fun Z18 => zl_171_2 x0b x1 m Z18 (x2 + 1))) else (zlet (zu Z14 44 x0b x2 8 (min ((Z14 44 x0b x2 8) + 1) 999)) (fun Z20 => zl_171_2 x0b x1 m Z20 (x2 + 1)))))) else (zlet (zu Z 44 x0b x2 7 (min ((Z 44 x0b x2 7) + (2 * (((Z 41 x0b (Z 44 x0b x2 1) 0) * (max 0 ((Z 43 x0b (Z 44 x0b x2 12) 5) - (Z 41 x0b (Z 44 x0b x2 1) 1)))) / 8))) 2000)) (fun Z26 => (if (Z26 41 x0b (Z 44 x0b x2 1) 2) ≤ (Z 43 x0b (Z 44 x0b x2 12) 5) then (zlet (zu Z26 44 x0b x2 8 (Z26 44 x0b x2 8)) (fun Z30 => zl_171_2 x0b x1 m Z30 (x2 + 1))) else (zlet (zu Z26 44 x0b x2 8 (min ((Z26 44 x0b x2 8) + 1) 999)) (fun Z32 => zl_171_2 x0b x1 m Z32 (x2 + 1))))))) else (zlet (zu Z 44 x0b x2 7 (min ((Z 44 x0b x2 7) + (((Z 41 x0b (Z 44 x0b x2 1) 0) * (max 0 (x1 - (Z 41 x0b (Z 44 x0b x2 1) 1)))) / 8)) 2000)) (fun Z37 => (if (Z37 41 x0b (Z 44 x0b x2 1) 2) ≤ x1 then (zlet (zu Z37 44 x0b x2 8 (Z37 44 x0b x2 8)) (fun Z41 => zl_171_2 x0b x1 m Z41 (x2 + 1))) else (zlet (zu Z37 44 x0b x2 8 (min ((Z37 44 x0b x2 8) + 1) 999)) (fun Z43 => zl_171_2 x0b x1 m Z43 (x2 + 1)))))))))
theorem sl_171_2 {s : zSM} {Zs Z : qz_Z} {ν : qz_N} (hZ : zH s Z) (hM : s.2 + 0 ≤ 1000000000) (hK : zC [44] Zs Z) (x0b : Nat) {x1 : Int} (gx1 : 0 ≤ x1 ∧ x1 ≤ 40) {x2 : Int} (gx2 : 0 ≤ x2 ∧ x2 ≤ 48) (hU : zU [x0b] Zs Z) {k : wz_K} {R : wz_R} {L : qz_L} (hL : qz_fg [true, true, true, false, false, false, false, false] L = [some (.inr (.inr (some (10, x0b, 0)))), some (.inl (i3 x1)), some (.inl (i3 x2)), none, none, none, none, none]) {T : qz_Z × Int} (hP : zE T (zl_171_2 x0b x1 ((48 - x2).toNat + 1) Z x2)) (hk : ∀ (L9 : qz_L) (Z9 : qz_Z) (yx2 : Int), qz_fg [true, false, false, false, false, false, false, false] L9 = [some (.inr (.inr (some (10, x0b, 0)))), none, none, none, none, none, none, none] → zH s Z9 → zC [44] Zs Z9 → zU [x0b] Zs Z9 → (0 ≤ yx2 ∧ yx2 ≤ 48) → zE T ((Z9, yx2)) → k 0 (L9, [], zm Z9 ν)) : wz_loop qb_171_2 65536 k R (L, [], zm Z ν) := by
  refine wz_lp sb_171_2 (fun m x => ∃ Z : qz_Z, ∃ x2 : Int, qz_fg [true, true, true, false, false, false, false, false] x.1 = [some (.inr (.inr (some (10, x0b, 0)))), some (.inl (i3 x1)), some (.inl (i3 x2)), none, none, none, none, none] ∧ x.2 = ([], zm Z ν) ∧ zH s Z ∧ zC [44] Zs Z ∧ zU [x0b] Zs Z ∧ m = (48 - x2).toNat ∧ (0 ≤ x2 ∧ x2 ≤ 48) ∧ zE T (zl_171_2 x0b x1 (m + 1) Z x2)) ?_ 65536 ((48 - x2).toNat) _ (by omega) ⟨Z, x2, hL, rfl, hZ, hK, hU, rfl, gx2, hP⟩
  clear hP gx2 hZ hK hU hL
  clear x2
  clear Z
  rintro m ⟨L, st, μ⟩ ⟨Z, x2, hL, hx, hZ, hK, hU, hm, gx2, hP⟩
  cases hx
  refine fb_171_2 x0b (i3 x1) (i3 x2) _ _ _ _ hL ?_
  have r1 := zH_k hZ 11 x0b 0 3 (lo := 0) (hi := 48) (by decide) rfl
  refine wz_br (i3Le (zm_rd (Z := Z) (ν := ν) (k := 11) (rfl : ((x0b : Nat) : Int) = x0b) (show ((0 : Nat) : Int) = 0 from rfl) (show ((3 : Nat) : Int) = 3 from rfl)) (rfl : i3 x2 = i3 x2) (by omega) (by omega) (by omega) (by omega)) (fun h2 => ?_) (fun h2 => ?_)
  · replace hP := zE_p hP h2
    exact hk _ _ _ (zconso rfl (zconso rfl (zconso rfl (zconso rfl (zconso rfl (zconso rfl (zconso rfl (zconso rfl rfl)))))))) hZ hK hU (by omega)  hP
  · replace hP := zE_n hP h2
    refine wz_i0 (i3O (n := 48) (rfl : i3 x2 = i3 x2) (by omega) (by omega) (by omega)) ?_
    have r3 := zH_k hZ 44 x0b x2 12 (lo := -1) (hi := 6) (by decide) rfl
    refine wz_br (i3E (zm_rd (Z := Z) (ν := ν) (k := 44) (rfl : ((x0b : Nat) : Int) = x0b) (i3I (y := x2) (rfl : i3 x2 = i3 x2) (by omega) (by omega) (by omega)) (show ((12 : Nat) : Int) = 12 from rfl)) (show (-1 : Int32) = i3 (-1) from rfl) (by omega) (by omega) (by omega) (by omega)) (fun h4 => ?_) (fun h4 => ?_)
    · replace hP := zE_p hP h4
      obtain ⟨m2, rfl⟩ : ∃ m2, m = m2 + 1 := ⟨m - 1, by omega⟩
      exact wz_k1 ⟨m2, by omega, Z, (x2 + 1), (zconso rfl (zconso (zvo (rfl : i3 x1 = i3 x1)) (zconso (zvo (i3A (rfl : i3 x2 = i3 x2) (show (1 : Int32) = i3 1 from rfl))) (zconso rfl (zconso rfl (zconso rfl (zconso rfl (zconso rfl rfl)))))))), rfl, hZ, hK, hU, by omega, by omega,  hP⟩
    · replace hP := zE_n hP h4
      have r5 := zH_k hZ 44 x0b x2 1 (lo := 0) (hi := 4) (by decide) rfl
      refine wz_i0 (i3O (n := 5) (zm_rd (Z := Z) (ν := ν) (k := 44) (rfl : ((x0b : Nat) : Int) = x0b) (i3I (y := x2) (rfl : i3 x2 = i3 x2) (by omega) (by omega) (by omega)) (show ((1 : Nat) : Int) = 1 from rfl)) (by omega) (by omega) (by omega)) ?_
      refine wz_br (i3NE (zm_rd (Z := Z) (ν := ν) (k := 44) (rfl : ((x0b : Nat) : Int) = x0b) (i3I (y := x2) (rfl : i3 x2 = i3 x2) (by omega) (by omega) (by omega)) (show ((12 : Nat) : Int) = 12 from rfl)) (show (6 : Int32) = i3 6 from rfl) (by omega) (by omega) (by omega) (by omega)) (fun h6 => ?_) (fun h6 => ?_)
      · replace hP := zE_p hP h6
        refine wz_i0 (i3O (n := 6) (zm_rd (Z := Z) (ν := ν) (k := 44) (rfl : ((x0b : Nat) : Int) = x0b) (i3I (y := x2) (rfl : i3 x2 = i3 x2) (by omega) (by omega) (by omega)) (show ((12 : Nat) : Int) = 12 from rfl)) (by omega) (by omega) (by omega)) ?_
        refine wz_i0 (Eq.trans (i3E (zm_rd (Z := Z) (ν := ν) (k := 44) (rfl : ((x0b : Nat) : Int) = x0b) (i3I (y := x2) (rfl : i3 x2 = i3 x2) (by omega) (by omega) (by omega)) (show ((12 : Nat) : Int) = 12 from rfl)) (show (6 : Int32) = i3 6 from rfl) (by omega) (by omega) (by omega) (by omega)) (decide_eq_false (by omega))) ?_
        refine wz_i0 (i3O (n := 6) (zm_rd (Z := Z) (ν := ν) (k := 44) (rfl : ((x0b : Nat) : Int) = x0b) (i3I (y := x2) (rfl : i3 x2 = i3 x2) (by omega) (by omega) (by omega)) (show ((12 : Nat) : Int) = 12 from rfl)) (by omega) (by omega) (by omega)) ?_
        have r7 := zH_k hZ 43 x0b (Z 44 x0b x2 12) 4 (lo := 0) (hi := 1) (by decide) rfl
        refine wz_br (i3NE (zm_rd (Z := Z) (ν := ν) (k := 43) (rfl : ((x0b : Nat) : Int) = x0b) (i3I (y := (Z 44 x0b x2 12)) (zm_rd (Z := Z) (ν := ν) (k := 44) (rfl : ((x0b : Nat) : Int) = x0b) (i3I (y := x2) (rfl : i3 x2 = i3 x2) (by omega) (by omega) (by omega)) (show ((12 : Nat) : Int) = 12 from rfl)) (by omega) (by omega) (by omega)) (show ((4 : Nat) : Int) = 4 from rfl)) (show (1 : Int32) = i3 1 from rfl) (by omega) (by omega) (by omega) (by omega)) (fun h8 => ?_) (fun h8 => ?_)
        · replace hP := zE_p hP h8
          have r9 := zH_k hZ 44 x0b x2 7 (lo := 0) (hi := 2000) (by decide) rfl
          have r10 := zH_k hZ 41 x0b (Z 44 x0b x2 1) 0 (lo := 0) (hi := 9) (by decide) rfl
          have r11 := zH_k hZ 43 x0b (Z 44 x0b x2 12) 5 (lo := 0) (hi := 40) (by decide) rfl
          have r12 := zH_k hZ 41 x0b (Z 44 x0b x2 1) 1 (lo := 0) (hi := 12) (by decide) rfl
          have r13 := z_mul (x := (Z 41 x0b (Z 44 x0b x2 1) 0)) (y := (max 0 ((Z 43 x0b (Z 44 x0b x2 12) 5) - (Z 41 x0b (Z 44 x0b x2 1) 1)))) (a := 9) (b := 40) (by omega) (by omega) (by omega) (by omega)
          obtain ⟨Z14, hZ14⟩ := zx (zu Z 44 x0b x2 7 (min ((Z 44 x0b x2 7) + (((Z 41 x0b (Z 44 x0b x2 1) 0) * (max 0 ((Z 43 x0b (Z 44 x0b x2 12) 5) - (Z 41 x0b (Z 44 x0b x2 1) 1)))) / 8)) 2000))
          replace hP := zl_e hP hZ14
          have hZ14I := zH_u hZ hZ14 (lo := 0) (hi := 2000) (by decide) rfl (by omega) ⟨by decide, by decide⟩ (Or.inl (by decide)) rfl
          have hZ14U : zU [x0b] Zs Z14 := zU_u hU hZ14 (Or.inr (List.Mem.head _))
          have hZ14K : zC [44] Zs Z14 := zC_u hK hZ14 (by decide)
          intro μ9 e9
          replace e9 := e9.trans (zm_wI (Z := Z) (ν := ν) hZ14 (rfl : ((x0b : Nat) : Int) = x0b) (i3I (y := x2) (rfl : i3 x2 = i3 x2) (by omega) (by omega) (by omega)) (show ((7 : Nat) : Int) = 7 from rfl) (i3Mn (i3A (zm_rd (Z := Z) (ν := ν) (k := 44) (rfl : ((x0b : Nat) : Int) = x0b) (i3I (y := x2) (rfl : i3 x2 = i3 x2) (by omega) (by omega) (by omega)) (show ((7 : Nat) : Int) = 7 from rfl)) (i3D (i3M (zm_rd (Z := Z) (ν := ν) (k := 41) (rfl : ((x0b : Nat) : Int) = x0b) (i3I (y := (Z 44 x0b x2 1)) (zm_rd (Z := Z) (ν := ν) (k := 44) (rfl : ((x0b : Nat) : Int) = x0b) (i3I (y := x2) (rfl : i3 x2 = i3 x2) (by omega) (by omega) (by omega)) (show ((1 : Nat) : Int) = 1 from rfl)) (by omega) (by omega) (by omega)) (show ((0 : Nat) : Int) = 0 from rfl)) (i3Mx (show (0 : Int32) = i3 0 from rfl) (i3S (zm_rd (Z := Z) (ν := ν) (k := 43) (rfl : ((x0b : Nat) : Int) = x0b) (i3I (y := (Z 44 x0b x2 12)) (zm_rd (Z := Z) (ν := ν) (k := 44) (rfl : ((x0b : Nat) : Int) = x0b) (i3I (y := x2) (rfl : i3 x2 = i3 x2) (by omega) (by omega) (by omega)) (show ((12 : Nat) : Int) = 12 from rfl)) (by omega) (by omega) (by omega)) (show ((5 : Nat) : Int) = 5 from rfl)) (zm_rd (Z := Z) (ν := ν) (k := 41) (rfl : ((x0b : Nat) : Int) = x0b) (i3I (y := (Z 44 x0b x2 1)) (zm_rd (Z := Z) (ν := ν) (k := 44) (rfl : ((x0b : Nat) : Int) = x0b) (i3I (y := x2) (rfl : i3 x2 = i3 x2) (by omega) (by omega) (by omega)) (show ((1 : Nat) : Int) = 1 from rfl)) (by omega) (by omega) (by omega)) (show ((1 : Nat) : Int) = 1 from rfl))) (by omega) (by omega) (by omega) (by omega))) (show (8 : Int32) = i3 8 from rfl) (by omega) (by omega) (by omega) (by omega))) (show (2000 : Int32) = i3 2000 from rfl) (by omega) (by omega) (by omega) (by omega)))
          subst e9
          have r15 := zH_k hZ14I 41 x0b (Z 44 x0b x2 1) 2 (lo := 0) (hi := 12) (by decide) rfl
          refine wz_br (i3Le (zm_rd (Z := Z14) (ν := ν) (k := 41) (rfl : ((x0b : Nat) : Int) = x0b) (i3I (y := (Z 44 x0b x2 1)) (zm_rd (Z := Z) (ν := ν) (k := 44) (rfl : ((x0b : Nat) : Int) = x0b) (i3I (y := x2) (rfl : i3 x2 = i3 x2) (by omega) (by omega) (by omega)) (show ((1 : Nat) : Int) = 1 from rfl)) (by omega) (by omega) (by omega)) (show ((2 : Nat) : Int) = 2 from rfl)) (zm_rd (Z := Z) (ν := ν) (k := 43) (rfl : ((x0b : Nat) : Int) = x0b) (i3I (y := (Z 44 x0b x2 12)) (zm_rd (Z := Z) (ν := ν) (k := 44) (rfl : ((x0b : Nat) : Int) = x0b) (i3I (y := x2) (rfl : i3 x2 = i3 x2) (by omega) (by omega) (by omega)) (show ((12 : Nat) : Int) = 12 from rfl)) (by omega) (by omega) (by omega)) (show ((5 : Nat) : Int) = 5 from rfl)) (by omega) (by omega) (by omega) (by omega)) (fun h16 => ?_) (fun h16 => ?_)
          · replace hP := zE_p hP h16
            have r17 := zH_k hZ14I 44 x0b x2 8 (lo := 0) (hi := 999) (by decide) rfl
            obtain ⟨Z18, hZ18⟩ := zx (zu Z14 44 x0b x2 8 (Z14 44 x0b x2 8))
            replace hP := zl_e hP hZ18
            have hZ18I := zH_u hZ14I hZ18 (lo := 0) (hi := 999) (by decide) rfl (by omega) ⟨by decide, by decide⟩ (Or.inl (by decide)) rfl
            have hZ18U : zU [x0b] Zs Z18 := zU_u hZ14U hZ18 (Or.inr (List.Mem.head _))
            have hZ18K : zC [44] Zs Z18 := zC_u hZ14K hZ18 (by decide)
            intro μ9 e9
            replace e9 := e9.trans (zm_wI (Z := Z14) (ν := ν) hZ18 (rfl : ((x0b : Nat) : Int) = x0b) (i3I (y := x2) (rfl : i3 x2 = i3 x2) (by omega) (by omega) (by omega)) (show ((8 : Nat) : Int) = 8 from rfl) (zm_rd (Z := Z14) (ν := ν) (k := 44) (rfl : ((x0b : Nat) : Int) = x0b) (i3I (y := x2) (rfl : i3 x2 = i3 x2) (by omega) (by omega) (by omega)) (show ((8 : Nat) : Int) = 8 from rfl)))
            subst e9
            obtain ⟨m2, rfl⟩ : ∃ m2, m = m2 + 1 := ⟨m - 1, by omega⟩
            exact wz_k1 ⟨m2, by omega, Z18, (x2 + 1), (zconso rfl (zconso (zvo (rfl : i3 x1 = i3 x1)) (zconso (zvo (i3A (rfl : i3 x2 = i3 x2) (show (1 : Int32) = i3 1 from rfl))) (zconso rfl (zconso rfl (zconso rfl (zconso rfl (zconso rfl rfl)))))))), rfl, hZ18I, hZ18K, hZ18U, by omega, by omega,  hP⟩
          · replace hP := zE_n hP h16
            have r19 := zH_k hZ14I 44 x0b x2 8 (lo := 0) (hi := 999) (by decide) rfl
            obtain ⟨Z20, hZ20⟩ := zx (zu Z14 44 x0b x2 8 (min ((Z14 44 x0b x2 8) + 1) 999))
            replace hP := zl_e hP hZ20
            have hZ20I := zH_u hZ14I hZ20 (lo := 0) (hi := 999) (by decide) rfl (by omega) ⟨by decide, by decide⟩ (Or.inl (by decide)) rfl
            have hZ20U : zU [x0b] Zs Z20 := zU_u hZ14U hZ20 (Or.inr (List.Mem.head _))
            have hZ20K : zC [44] Zs Z20 := zC_u hZ14K hZ20 (by decide)
            intro μ9 e9
            replace e9 := e9.trans (zm_wI (Z := Z14) (ν := ν) hZ20 (rfl : ((x0b : Nat) : Int) = x0b) (i3I (y := x2) (rfl : i3 x2 = i3 x2) (by omega) (by omega) (by omega)) (show ((8 : Nat) : Int) = 8 from rfl) (i3Mn (i3A (zm_rd (Z := Z14) (ν := ν) (k := 44) (rfl : ((x0b : Nat) : Int) = x0b) (i3I (y := x2) (rfl : i3 x2 = i3 x2) (by omega) (by omega) (by omega)) (show ((8 : Nat) : Int) = 8 from rfl)) (show (1 : Int32) = i3 1 from rfl)) (show (999 : Int32) = i3 999 from rfl) (by omega) (by omega) (by omega) (by omega)))
            subst e9
            obtain ⟨m2, rfl⟩ : ∃ m2, m = m2 + 1 := ⟨m - 1, by omega⟩
            exact wz_k1 ⟨m2, by omega, Z20, (x2 + 1), (zconso rfl (zconso (zvo (rfl : i3 x1 = i3 x1)) (zconso (zvo (i3A (rfl : i3 x2 = i3 x2) (show (1 : Int32) = i3 1 from rfl))) (zconso rfl (zconso rfl (zconso rfl (zconso rfl (zconso rfl rfl)))))))), rfl, hZ20I, hZ20K, hZ20U, by omega, by omega,  hP⟩
        · replace hP := zE_n hP h8
          have r21 := zH_k hZ 44 x0b x2 7 (lo := 0) (hi := 2000) (by decide) rfl
          have r22 := zH_k hZ 41 x0b (Z 44 x0b x2 1) 0 (lo := 0) (hi := 9) (by decide) rfl
          have r23 := zH_k hZ 43 x0b (Z 44 x0b x2 12) 5 (lo := 0) (hi := 40) (by decide) rfl
          have r24 := zH_k hZ 41 x0b (Z 44 x0b x2 1) 1 (lo := 0) (hi := 12) (by decide) rfl
          have r25 := z_mul (x := (Z 41 x0b (Z 44 x0b x2 1) 0)) (y := (max 0 ((Z 43 x0b (Z 44 x0b x2 12) 5) - (Z 41 x0b (Z 44 x0b x2 1) 1)))) (a := 9) (b := 40) (by omega) (by omega) (by omega) (by omega)
          obtain ⟨Z26, hZ26⟩ := zx (zu Z 44 x0b x2 7 (min ((Z 44 x0b x2 7) + (2 * (((Z 41 x0b (Z 44 x0b x2 1) 0) * (max 0 ((Z 43 x0b (Z 44 x0b x2 12) 5) - (Z 41 x0b (Z 44 x0b x2 1) 1)))) / 8))) 2000))
          replace hP := zl_e hP hZ26
          have hZ26I := zH_u hZ hZ26 (lo := 0) (hi := 2000) (by decide) rfl (by omega) ⟨by decide, by decide⟩ (Or.inl (by decide)) rfl
          have hZ26U : zU [x0b] Zs Z26 := zU_u hU hZ26 (Or.inr (List.Mem.head _))
          have hZ26K : zC [44] Zs Z26 := zC_u hK hZ26 (by decide)
          intro μ9 e9
          replace e9 := e9.trans (zm_wI (Z := Z) (ν := ν) hZ26 (rfl : ((x0b : Nat) : Int) = x0b) (i3I (y := x2) (rfl : i3 x2 = i3 x2) (by omega) (by omega) (by omega)) (show ((7 : Nat) : Int) = 7 from rfl) (i3Mn (i3A (zm_rd (Z := Z) (ν := ν) (k := 44) (rfl : ((x0b : Nat) : Int) = x0b) (i3I (y := x2) (rfl : i3 x2 = i3 x2) (by omega) (by omega) (by omega)) (show ((7 : Nat) : Int) = 7 from rfl)) (i3M (show (2 : Int32) = i3 2 from rfl) (i3D (i3M (zm_rd (Z := Z) (ν := ν) (k := 41) (rfl : ((x0b : Nat) : Int) = x0b) (i3I (y := (Z 44 x0b x2 1)) (zm_rd (Z := Z) (ν := ν) (k := 44) (rfl : ((x0b : Nat) : Int) = x0b) (i3I (y := x2) (rfl : i3 x2 = i3 x2) (by omega) (by omega) (by omega)) (show ((1 : Nat) : Int) = 1 from rfl)) (by omega) (by omega) (by omega)) (show ((0 : Nat) : Int) = 0 from rfl)) (i3Mx (show (0 : Int32) = i3 0 from rfl) (i3S (zm_rd (Z := Z) (ν := ν) (k := 43) (rfl : ((x0b : Nat) : Int) = x0b) (i3I (y := (Z 44 x0b x2 12)) (zm_rd (Z := Z) (ν := ν) (k := 44) (rfl : ((x0b : Nat) : Int) = x0b) (i3I (y := x2) (rfl : i3 x2 = i3 x2) (by omega) (by omega) (by omega)) (show ((12 : Nat) : Int) = 12 from rfl)) (by omega) (by omega) (by omega)) (show ((5 : Nat) : Int) = 5 from rfl)) (zm_rd (Z := Z) (ν := ν) (k := 41) (rfl : ((x0b : Nat) : Int) = x0b) (i3I (y := (Z 44 x0b x2 1)) (zm_rd (Z := Z) (ν := ν) (k := 44) (rfl : ((x0b : Nat) : Int) = x0b) (i3I (y := x2) (rfl : i3 x2 = i3 x2) (by omega) (by omega) (by omega)) (show ((1 : Nat) : Int) = 1 from rfl)) (by omega) (by omega) (by omega)) (show ((1 : Nat) : Int) = 1 from rfl))) (by omega) (by omega) (by omega) (by omega))) (show (8 : Int32) = i3 8 from rfl) (by omega) (by omega) (by omega) (by omega)))) (show (2000 : Int32) = i3 2000 from rfl) (by omega) (by omega) (by omega) (by omega)))
          subst e9
          have r27 := zH_k hZ26I 41 x0b (Z 44 x0b x2 1) 2 (lo := 0) (hi := 12) (by decide) rfl
          refine wz_br (i3Le (zm_rd (Z := Z26) (ν := ν) (k := 41) (rfl : ((x0b : Nat) : Int) = x0b) (i3I (y := (Z 44 x0b x2 1)) (zm_rd (Z := Z) (ν := ν) (k := 44) (rfl : ((x0b : Nat) : Int) = x0b) (i3I (y := x2) (rfl : i3 x2 = i3 x2) (by omega) (by omega) (by omega)) (show ((1 : Nat) : Int) = 1 from rfl)) (by omega) (by omega) (by omega)) (show ((2 : Nat) : Int) = 2 from rfl)) (zm_rd (Z := Z) (ν := ν) (k := 43) (rfl : ((x0b : Nat) : Int) = x0b) (i3I (y := (Z 44 x0b x2 12)) (zm_rd (Z := Z) (ν := ν) (k := 44) (rfl : ((x0b : Nat) : Int) = x0b) (i3I (y := x2) (rfl : i3 x2 = i3 x2) (by omega) (by omega) (by omega)) (show ((12 : Nat) : Int) = 12 from rfl)) (by omega) (by omega) (by omega)) (show ((5 : Nat) : Int) = 5 from rfl)) (by omega) (by omega) (by omega) (by omega)) (fun h28 => ?_) (fun h28 => ?_)
          · replace hP := zE_p hP h28
            have r29 := zH_k hZ26I 44 x0b x2 8 (lo := 0) (hi := 999) (by decide) rfl
            obtain ⟨Z30, hZ30⟩ := zx (zu Z26 44 x0b x2 8 (Z26 44 x0b x2 8))
            replace hP := zl_e hP hZ30
            have hZ30I := zH_u hZ26I hZ30 (lo := 0) (hi := 999) (by decide) rfl (by omega) ⟨by decide, by decide⟩ (Or.inl (by decide)) rfl
            have hZ30U : zU [x0b] Zs Z30 := zU_u hZ26U hZ30 (Or.inr (List.Mem.head _))
            have hZ30K : zC [44] Zs Z30 := zC_u hZ26K hZ30 (by decide)
            intro μ9 e9
            replace e9 := e9.trans (zm_wI (Z := Z26) (ν := ν) hZ30 (rfl : ((x0b : Nat) : Int) = x0b) (i3I (y := x2) (rfl : i3 x2 = i3 x2) (by omega) (by omega) (by omega)) (show ((8 : Nat) : Int) = 8 from rfl) (zm_rd (Z := Z26) (ν := ν) (k := 44) (rfl : ((x0b : Nat) : Int) = x0b) (i3I (y := x2) (rfl : i3 x2 = i3 x2) (by omega) (by omega) (by omega)) (show ((8 : Nat) : Int) = 8 from rfl)))
            subst e9
            obtain ⟨m2, rfl⟩ : ∃ m2, m = m2 + 1 := ⟨m - 1, by omega⟩
            exact wz_k1 ⟨m2, by omega, Z30, (x2 + 1), (zconso rfl (zconso (zvo (rfl : i3 x1 = i3 x1)) (zconso (zvo (i3A (rfl : i3 x2 = i3 x2) (show (1 : Int32) = i3 1 from rfl))) (zconso rfl (zconso rfl (zconso rfl (zconso rfl (zconso rfl rfl)))))))), rfl, hZ30I, hZ30K, hZ30U, by omega, by omega,  hP⟩
          · replace hP := zE_n hP h28
            have r31 := zH_k hZ26I 44 x0b x2 8 (lo := 0) (hi := 999) (by decide) rfl
            obtain ⟨Z32, hZ32⟩ := zx (zu Z26 44 x0b x2 8 (min ((Z26 44 x0b x2 8) + 1) 999))
            replace hP := zl_e hP hZ32
            have hZ32I := zH_u hZ26I hZ32 (lo := 0) (hi := 999) (by decide) rfl (by omega) ⟨by decide, by decide⟩ (Or.inl (by decide)) rfl
            have hZ32U : zU [x0b] Zs Z32 := zU_u hZ26U hZ32 (Or.inr (List.Mem.head _))
            have hZ32K : zC [44] Zs Z32 := zC_u hZ26K hZ32 (by decide)
            intro μ9 e9
            replace e9 := e9.trans (zm_wI (Z := Z26) (ν := ν) hZ32 (rfl : ((x0b : Nat) : Int) = x0b) (i3I (y := x2) (rfl : i3 x2 = i3 x2) (by omega) (by omega) (by omega)) (show ((8 : Nat) : Int) = 8 from rfl) (i3Mn (i3A (zm_rd (Z := Z26) (ν := ν) (k := 44) (rfl : ((x0b : Nat) : Int) = x0b) (i3I (y := x2) (rfl : i3 x2 = i3 x2) (by omega) (by omega) (by omega)) (show ((8 : Nat) : Int) = 8 from rfl)) (show (1 : Int32) = i3 1 from rfl)) (show (999 : Int32) = i3 999 from rfl) (by omega) (by omega) (by omega) (by omega)))
            subst e9
            obtain ⟨m2, rfl⟩ : ∃ m2, m = m2 + 1 := ⟨m - 1, by omega⟩
            exact wz_k1 ⟨m2, by omega, Z32, (x2 + 1), (zconso rfl (zconso (zvo (rfl : i3 x1 = i3 x1)) (zconso (zvo (i3A (rfl : i3 x2 = i3 x2) (show (1 : Int32) = i3 1 from rfl))) (zconso rfl (zconso rfl (zconso rfl (zconso rfl (zconso rfl rfl)))))))), rfl, hZ32I, hZ32K, hZ32U, by omega, by omega,  hP⟩
      · replace hP := zE_n hP h6
        refine wz_i1 (Eq.trans (i3E (zm_rd (Z := Z) (ν := ν) (k := 44) (rfl : ((x0b : Nat) : Int) = x0b) (i3I (y := x2) (rfl : i3 x2 = i3 x2) (by omega) (by omega) (by omega)) (show ((12 : Nat) : Int) = 12 from rfl)) (show (6 : Int32) = i3 6 from rfl) (by omega) (by omega) (by omega) (by omega)) (decide_eq_true (by omega))) ?_
        have r33 := zH_k hZ 44 x0b x2 7 (lo := 0) (hi := 2000) (by decide) rfl
        have r34 := zH_k hZ 41 x0b (Z 44 x0b x2 1) 0 (lo := 0) (hi := 9) (by decide) rfl
        have r35 := zH_k hZ 41 x0b (Z 44 x0b x2 1) 1 (lo := 0) (hi := 12) (by decide) rfl
        have r36 := z_mul (x := (Z 41 x0b (Z 44 x0b x2 1) 0)) (y := (max 0 (x1 - (Z 41 x0b (Z 44 x0b x2 1) 1)))) (a := 9) (b := 40) (by omega) (by omega) (by omega) (by omega)
        obtain ⟨Z37, hZ37⟩ := zx (zu Z 44 x0b x2 7 (min ((Z 44 x0b x2 7) + (((Z 41 x0b (Z 44 x0b x2 1) 0) * (max 0 (x1 - (Z 41 x0b (Z 44 x0b x2 1) 1)))) / 8)) 2000))
        replace hP := zl_e hP hZ37
        have hZ37I := zH_u hZ hZ37 (lo := 0) (hi := 2000) (by decide) rfl (by omega) ⟨by decide, by decide⟩ (Or.inl (by decide)) rfl
        have hZ37U : zU [x0b] Zs Z37 := zU_u hU hZ37 (Or.inr (List.Mem.head _))
        have hZ37K : zC [44] Zs Z37 := zC_u hK hZ37 (by decide)
        intro μ9 e9
        replace e9 := e9.trans (zm_wI (Z := Z) (ν := ν) hZ37 (rfl : ((x0b : Nat) : Int) = x0b) (i3I (y := x2) (rfl : i3 x2 = i3 x2) (by omega) (by omega) (by omega)) (show ((7 : Nat) : Int) = 7 from rfl) (i3Mn (i3A (zm_rd (Z := Z) (ν := ν) (k := 44) (rfl : ((x0b : Nat) : Int) = x0b) (i3I (y := x2) (rfl : i3 x2 = i3 x2) (by omega) (by omega) (by omega)) (show ((7 : Nat) : Int) = 7 from rfl)) (i3D (i3M (zm_rd (Z := Z) (ν := ν) (k := 41) (rfl : ((x0b : Nat) : Int) = x0b) (i3I (y := (Z 44 x0b x2 1)) (zm_rd (Z := Z) (ν := ν) (k := 44) (rfl : ((x0b : Nat) : Int) = x0b) (i3I (y := x2) (rfl : i3 x2 = i3 x2) (by omega) (by omega) (by omega)) (show ((1 : Nat) : Int) = 1 from rfl)) (by omega) (by omega) (by omega)) (show ((0 : Nat) : Int) = 0 from rfl)) (i3Mx (show (0 : Int32) = i3 0 from rfl) (i3S (rfl : i3 x1 = i3 x1) (zm_rd (Z := Z) (ν := ν) (k := 41) (rfl : ((x0b : Nat) : Int) = x0b) (i3I (y := (Z 44 x0b x2 1)) (zm_rd (Z := Z) (ν := ν) (k := 44) (rfl : ((x0b : Nat) : Int) = x0b) (i3I (y := x2) (rfl : i3 x2 = i3 x2) (by omega) (by omega) (by omega)) (show ((1 : Nat) : Int) = 1 from rfl)) (by omega) (by omega) (by omega)) (show ((1 : Nat) : Int) = 1 from rfl))) (by omega) (by omega) (by omega) (by omega))) (show (8 : Int32) = i3 8 from rfl) (by omega) (by omega) (by omega) (by omega))) (show (2000 : Int32) = i3 2000 from rfl) (by omega) (by omega) (by omega) (by omega)))
        subst e9
        have r38 := zH_k hZ37I 41 x0b (Z 44 x0b x2 1) 2 (lo := 0) (hi := 12) (by decide) rfl
        refine wz_br (i3Le (zm_rd (Z := Z37) (ν := ν) (k := 41) (rfl : ((x0b : Nat) : Int) = x0b) (i3I (y := (Z 44 x0b x2 1)) (zm_rd (Z := Z) (ν := ν) (k := 44) (rfl : ((x0b : Nat) : Int) = x0b) (i3I (y := x2) (rfl : i3 x2 = i3 x2) (by omega) (by omega) (by omega)) (show ((1 : Nat) : Int) = 1 from rfl)) (by omega) (by omega) (by omega)) (show ((2 : Nat) : Int) = 2 from rfl)) (rfl : i3 x1 = i3 x1) (by omega) (by omega) (by omega) (by omega)) (fun h39 => ?_) (fun h39 => ?_)
        · replace hP := zE_p hP h39
          have r40 := zH_k hZ37I 44 x0b x2 8 (lo := 0) (hi := 999) (by decide) rfl
          obtain ⟨Z41, hZ41⟩ := zx (zu Z37 44 x0b x2 8 (Z37 44 x0b x2 8))
          replace hP := zl_e hP hZ41
          have hZ41I := zH_u hZ37I hZ41 (lo := 0) (hi := 999) (by decide) rfl (by omega) ⟨by decide, by decide⟩ (Or.inl (by decide)) rfl
          have hZ41U : zU [x0b] Zs Z41 := zU_u hZ37U hZ41 (Or.inr (List.Mem.head _))
          have hZ41K : zC [44] Zs Z41 := zC_u hZ37K hZ41 (by decide)
          intro μ9 e9
          replace e9 := e9.trans (zm_wI (Z := Z37) (ν := ν) hZ41 (rfl : ((x0b : Nat) : Int) = x0b) (i3I (y := x2) (rfl : i3 x2 = i3 x2) (by omega) (by omega) (by omega)) (show ((8 : Nat) : Int) = 8 from rfl) (zm_rd (Z := Z37) (ν := ν) (k := 44) (rfl : ((x0b : Nat) : Int) = x0b) (i3I (y := x2) (rfl : i3 x2 = i3 x2) (by omega) (by omega) (by omega)) (show ((8 : Nat) : Int) = 8 from rfl)))
          subst e9
          obtain ⟨m2, rfl⟩ : ∃ m2, m = m2 + 1 := ⟨m - 1, by omega⟩
          exact wz_k1 ⟨m2, by omega, Z41, (x2 + 1), (zconso rfl (zconso (zvo (rfl : i3 x1 = i3 x1)) (zconso (zvo (i3A (rfl : i3 x2 = i3 x2) (show (1 : Int32) = i3 1 from rfl))) (zconso rfl (zconso rfl (zconso rfl (zconso rfl (zconso rfl rfl)))))))), rfl, hZ41I, hZ41K, hZ41U, by omega, by omega,  hP⟩
        · replace hP := zE_n hP h39
          have r42 := zH_k hZ37I 44 x0b x2 8 (lo := 0) (hi := 999) (by decide) rfl
          obtain ⟨Z43, hZ43⟩ := zx (zu Z37 44 x0b x2 8 (min ((Z37 44 x0b x2 8) + 1) 999))
          replace hP := zl_e hP hZ43
          have hZ43I := zH_u hZ37I hZ43 (lo := 0) (hi := 999) (by decide) rfl (by omega) ⟨by decide, by decide⟩ (Or.inl (by decide)) rfl
          have hZ43U : zU [x0b] Zs Z43 := zU_u hZ37U hZ43 (Or.inr (List.Mem.head _))
          have hZ43K : zC [44] Zs Z43 := zC_u hZ37K hZ43 (by decide)
          intro μ9 e9
          replace e9 := e9.trans (zm_wI (Z := Z37) (ν := ν) hZ43 (rfl : ((x0b : Nat) : Int) = x0b) (i3I (y := x2) (rfl : i3 x2 = i3 x2) (by omega) (by omega) (by omega)) (show ((8 : Nat) : Int) = 8 from rfl) (i3Mn (i3A (zm_rd (Z := Z37) (ν := ν) (k := 44) (rfl : ((x0b : Nat) : Int) = x0b) (i3I (y := x2) (rfl : i3 x2 = i3 x2) (by omega) (by omega) (by omega)) (show ((8 : Nat) : Int) = 8 from rfl)) (show (1 : Int32) = i3 1 from rfl)) (show (999 : Int32) = i3 999 from rfl) (by omega) (by omega) (by omega) (by omega)))
          subst e9
          obtain ⟨m2, rfl⟩ : ∃ m2, m = m2 + 1 := ⟨m - 1, by omega⟩
          exact wz_k1 ⟨m2, by omega, Z43, (x2 + 1), (zconso rfl (zconso (zvo (rfl : i3 x1 = i3 x1)) (zconso (zvo (i3A (rfl : i3 x2 = i3 x2) (show (1 : Int32) = i3 1 from rfl))) (zconso rfl (zconso rfl (zconso rfl (zconso rfl (zconso rfl rfl)))))))), rfl, hZ43I, hZ43K, hZ43U, by omega, by omega,  hP⟩
/- yX10_growOlder -/
def zl_171_3 (x0b : Int) : Nat → qz_Z → Int → qz_Z × Int
  | 0, Z, x2 => (Z, x2)
  | m + 1, Z, x2 => (if (Z 11 x0b 0 6) ≤ x2 then (Z, x2) else (if (Z 47 x0b x2 9) ≠ 1 then zl_171_3 x0b m Z (x2 + 1) else (zlet (zu Z 47 x0b x2 11 (min ((Z 47 x0b x2 11) + (((Z 41 x0b (Z 44 x0b (Z 47 x0b x2 0) 1) 0) * (max 0 ((Z 50 x0b (Z 47 x0b x2 10) 1) - (Z 41 x0b (Z 44 x0b (Z 47 x0b x2 0) 1) 1)))) / 8)) 2000)) (fun Z14 => (if (Z14 41 x0b (Z 44 x0b (Z 47 x0b x2 0) 1) 2) ≤ (Z 50 x0b (Z 47 x0b x2 10) 1) then (zlet (zu Z14 47 x0b x2 12 (Z14 47 x0b x2 12)) (fun Z18 => zl_171_3 x0b m Z18 (x2 + 1))) else (zlet (zu Z14 47 x0b x2 12 (min ((Z14 47 x0b x2 12) + 1) 999)) (fun Z20 => zl_171_3 x0b m Z20 (x2 + 1))))))))
theorem sl_171_3 {s : zSM} {Zs Z : qz_Z} {ν : qz_N} (hZ : zH s Z) (hM : s.2 + 0 ≤ 1000000000) (hK : zC [47] Zs Z) (x0b : Nat) {x2 : Int} (gx2 : 0 ≤ x2 ∧ x2 ≤ 60) (hU : zU [x0b] Zs Z) {k : wz_K} {R : wz_R} {L : qz_L} (hL : qz_fg [true, false, true, false, false, false, false, false] L = [some (.inr (.inr (some (10, x0b, 0)))), none, some (.inl (i3 x2)), none, none, none, none, none]) {T : qz_Z × Int} (hP : zE T (zl_171_3 x0b ((60 - x2).toNat + 1) Z x2)) (hk : ∀ (L9 : qz_L) (Z9 : qz_Z) (yx2 : Int), qz_fg [false, false, false, false, false, false, false, false] L9 = [none, none, none, none, none, none, none, none] → zH s Z9 → zC [47] Zs Z9 → zU [x0b] Zs Z9 → (0 ≤ yx2 ∧ yx2 ≤ 60) → zE T ((Z9, yx2)) → k 0 (L9, [], zm Z9 ν)) : wz_loop qb_171_3 65536 k R (L, [], zm Z ν) := by
  refine wz_lp sb_171_3 (fun m x => ∃ Z : qz_Z, ∃ x2 : Int, qz_fg [true, false, true, false, false, false, false, false] x.1 = [some (.inr (.inr (some (10, x0b, 0)))), none, some (.inl (i3 x2)), none, none, none, none, none] ∧ x.2 = ([], zm Z ν) ∧ zH s Z ∧ zC [47] Zs Z ∧ zU [x0b] Zs Z ∧ m = (60 - x2).toNat ∧ (0 ≤ x2 ∧ x2 ≤ 60) ∧ zE T (zl_171_3 x0b (m + 1) Z x2)) ?_ 65536 ((60 - x2).toNat) _ (by omega) ⟨Z, x2, hL, rfl, hZ, hK, hU, rfl, gx2, hP⟩
  clear hP gx2 hZ hK hU hL
  clear x2
  clear Z
  rintro m ⟨L, st, μ⟩ ⟨Z, x2, hL, hx, hZ, hK, hU, hm, gx2, hP⟩
  cases hx
  refine fb_171_3 x0b (i3 x2) _ _ _ _ hL ?_
  have r1 := zH_k hZ 11 x0b 0 6 (lo := 0) (hi := 60) (by decide) rfl
  refine wz_br (i3Le (zm_rd (Z := Z) (ν := ν) (k := 11) (rfl : ((x0b : Nat) : Int) = x0b) (show ((0 : Nat) : Int) = 0 from rfl) (show ((6 : Nat) : Int) = 6 from rfl)) (rfl : i3 x2 = i3 x2) (by omega) (by omega) (by omega) (by omega)) (fun h2 => ?_) (fun h2 => ?_)
  · replace hP := zE_p hP h2
    exact hk _ _ _ (zconso rfl (zconso rfl (zconso rfl (zconso rfl (zconso rfl (zconso rfl (zconso rfl (zconso rfl rfl)))))))) hZ hK hU (by omega)  hP
  · replace hP := zE_n hP h2
    refine wz_i0 (i3O (n := 60) (rfl : i3 x2 = i3 x2) (by omega) (by omega) (by omega)) ?_
    have r3 := zH_k hZ 47 x0b x2 9 (lo := 0) (hi := 3) (by decide) rfl
    have r4 := zH_lt hZ x0b x2
    refine wz_br (i3NE (zm_rd (Z := Z) (ν := ν) (k := 47) (rfl : ((x0b : Nat) : Int) = x0b) (i3I (y := x2) (rfl : i3 x2 = i3 x2) (by omega) (by omega) (by omega)) (show ((9 : Nat) : Int) = 9 from rfl)) (show (1 : Int32) = i3 1 from rfl) (by omega) (by omega) (by omega) (by omega)) (fun h5 => ?_) (fun h5 => ?_)
    · replace hP := zE_p hP h5
      obtain ⟨m2, rfl⟩ : ∃ m2, m = m2 + 1 := ⟨m - 1, by omega⟩
      exact wz_k1 ⟨m2, by omega, Z, (x2 + 1), (zconso rfl (zconso rfl (zconso (zvo (i3A (rfl : i3 x2 = i3 x2) (show (1 : Int32) = i3 1 from rfl))) (zconso rfl (zconso rfl (zconso rfl (zconso rfl (zconso rfl rfl)))))))), rfl, hZ, hK, hU, by omega, by omega,  hP⟩
    · replace hP := zE_n hP h5
      have r6 := zH_k hZ 47 x0b x2 0 (lo := 0) (hi := 47) (by decide) rfl
      refine wz_i0 (i3O (n := 48) (zm_rd (Z := Z) (ν := ν) (k := 47) (rfl : ((x0b : Nat) : Int) = x0b) (i3I (y := x2) (rfl : i3 x2 = i3 x2) (by omega) (by omega) (by omega)) (show ((0 : Nat) : Int) = 0 from rfl)) (by omega) (by omega) (by omega)) ?_
      have r7 := zH_k hZ 44 x0b (Z 47 x0b x2 0) 1 (lo := 0) (hi := 4) (by decide) rfl
      refine wz_i0 (i3O (n := 5) (zm_rd (Z := Z) (ν := ν) (k := 44) (rfl : ((x0b : Nat) : Int) = x0b) (i3I (y := (Z 47 x0b x2 0)) (zm_rd (Z := Z) (ν := ν) (k := 47) (rfl : ((x0b : Nat) : Int) = x0b) (i3I (y := x2) (rfl : i3 x2 = i3 x2) (by omega) (by omega) (by omega)) (show ((0 : Nat) : Int) = 0 from rfl)) (by omega) (by omega) (by omega)) (show ((1 : Nat) : Int) = 1 from rfl)) (by omega) (by omega) (by omega)) ?_
      have r8 := zH_k hZ 47 x0b x2 10 (lo := -1) (hi := 3) (by decide) rfl
      refine wz_i0 (i3O (n := 4) (zm_rd (Z := Z) (ν := ν) (k := 47) (rfl : ((x0b : Nat) : Int) = x0b) (i3I (y := x2) (rfl : i3 x2 = i3 x2) (by omega) (by omega) (by omega)) (show ((10 : Nat) : Int) = 10 from rfl)) (by omega) (by omega) (by omega)) ?_
      have r9 := zH_k hZ 47 x0b x2 11 (lo := 0) (hi := 2000) (by decide) rfl
      have r10 := zH_k hZ 41 x0b (Z 44 x0b (Z 47 x0b x2 0) 1) 0 (lo := 0) (hi := 9) (by decide) rfl
      have r11 := zH_k hZ 50 x0b (Z 47 x0b x2 10) 1 (lo := 0) (hi := 40) (by decide) rfl
      have r12 := zH_k hZ 41 x0b (Z 44 x0b (Z 47 x0b x2 0) 1) 1 (lo := 0) (hi := 12) (by decide) rfl
      have r13 := z_mul (x := (Z 41 x0b (Z 44 x0b (Z 47 x0b x2 0) 1) 0)) (y := (max 0 ((Z 50 x0b (Z 47 x0b x2 10) 1) - (Z 41 x0b (Z 44 x0b (Z 47 x0b x2 0) 1) 1)))) (a := 9) (b := 40) (by omega) (by omega) (by omega) (by omega)
      obtain ⟨Z14, hZ14⟩ := zx (zu Z 47 x0b x2 11 (min ((Z 47 x0b x2 11) + (((Z 41 x0b (Z 44 x0b (Z 47 x0b x2 0) 1) 0) * (max 0 ((Z 50 x0b (Z 47 x0b x2 10) 1) - (Z 41 x0b (Z 44 x0b (Z 47 x0b x2 0) 1) 1)))) / 8)) 2000))
      replace hP := zl_e hP hZ14
      have hZ14I := zH_u hZ hZ14 (lo := 0) (hi := 2000) (by decide) rfl (by omega) ⟨by decide, by decide⟩ (Or.inl (by decide)) rfl
      have hZ14U : zU [x0b] Zs Z14 := zU_u hU hZ14 (Or.inr (List.Mem.head _))
      have hZ14K : zC [47] Zs Z14 := zC_u hK hZ14 (by decide)
      intro μ9 e9
      replace e9 := e9.trans (zm_wI (Z := Z) (ν := ν) hZ14 (rfl : ((x0b : Nat) : Int) = x0b) (i3I (y := x2) (rfl : i3 x2 = i3 x2) (by omega) (by omega) (by omega)) (show ((11 : Nat) : Int) = 11 from rfl) (i3Mn (i3A (zm_rd (Z := Z) (ν := ν) (k := 47) (rfl : ((x0b : Nat) : Int) = x0b) (i3I (y := x2) (rfl : i3 x2 = i3 x2) (by omega) (by omega) (by omega)) (show ((11 : Nat) : Int) = 11 from rfl)) (i3D (i3M (zm_rd (Z := Z) (ν := ν) (k := 41) (rfl : ((x0b : Nat) : Int) = x0b) (i3I (y := (Z 44 x0b (Z 47 x0b x2 0) 1)) (zm_rd (Z := Z) (ν := ν) (k := 44) (rfl : ((x0b : Nat) : Int) = x0b) (i3I (y := (Z 47 x0b x2 0)) (zm_rd (Z := Z) (ν := ν) (k := 47) (rfl : ((x0b : Nat) : Int) = x0b) (i3I (y := x2) (rfl : i3 x2 = i3 x2) (by omega) (by omega) (by omega)) (show ((0 : Nat) : Int) = 0 from rfl)) (by omega) (by omega) (by omega)) (show ((1 : Nat) : Int) = 1 from rfl)) (by omega) (by omega) (by omega)) (show ((0 : Nat) : Int) = 0 from rfl)) (i3Mx (show (0 : Int32) = i3 0 from rfl) (i3S (zm_rd (Z := Z) (ν := ν) (k := 50) (rfl : ((x0b : Nat) : Int) = x0b) (i3I (y := (Z 47 x0b x2 10)) (zm_rd (Z := Z) (ν := ν) (k := 47) (rfl : ((x0b : Nat) : Int) = x0b) (i3I (y := x2) (rfl : i3 x2 = i3 x2) (by omega) (by omega) (by omega)) (show ((10 : Nat) : Int) = 10 from rfl)) (by omega) (by omega) (by omega)) (show ((1 : Nat) : Int) = 1 from rfl)) (zm_rd (Z := Z) (ν := ν) (k := 41) (rfl : ((x0b : Nat) : Int) = x0b) (i3I (y := (Z 44 x0b (Z 47 x0b x2 0) 1)) (zm_rd (Z := Z) (ν := ν) (k := 44) (rfl : ((x0b : Nat) : Int) = x0b) (i3I (y := (Z 47 x0b x2 0)) (zm_rd (Z := Z) (ν := ν) (k := 47) (rfl : ((x0b : Nat) : Int) = x0b) (i3I (y := x2) (rfl : i3 x2 = i3 x2) (by omega) (by omega) (by omega)) (show ((0 : Nat) : Int) = 0 from rfl)) (by omega) (by omega) (by omega)) (show ((1 : Nat) : Int) = 1 from rfl)) (by omega) (by omega) (by omega)) (show ((1 : Nat) : Int) = 1 from rfl))) (by omega) (by omega) (by omega) (by omega))) (show (8 : Int32) = i3 8 from rfl) (by omega) (by omega) (by omega) (by omega))) (show (2000 : Int32) = i3 2000 from rfl) (by omega) (by omega) (by omega) (by omega)))
      subst e9
      have r15 := zH_k hZ14I 41 x0b (Z 44 x0b (Z 47 x0b x2 0) 1) 2 (lo := 0) (hi := 12) (by decide) rfl
      refine wz_br (i3Le (zm_rd (Z := Z14) (ν := ν) (k := 41) (rfl : ((x0b : Nat) : Int) = x0b) (i3I (y := (Z 44 x0b (Z 47 x0b x2 0) 1)) (zm_rd (Z := Z) (ν := ν) (k := 44) (rfl : ((x0b : Nat) : Int) = x0b) (i3I (y := (Z 47 x0b x2 0)) (zm_rd (Z := Z) (ν := ν) (k := 47) (rfl : ((x0b : Nat) : Int) = x0b) (i3I (y := x2) (rfl : i3 x2 = i3 x2) (by omega) (by omega) (by omega)) (show ((0 : Nat) : Int) = 0 from rfl)) (by omega) (by omega) (by omega)) (show ((1 : Nat) : Int) = 1 from rfl)) (by omega) (by omega) (by omega)) (show ((2 : Nat) : Int) = 2 from rfl)) (zm_rd (Z := Z) (ν := ν) (k := 50) (rfl : ((x0b : Nat) : Int) = x0b) (i3I (y := (Z 47 x0b x2 10)) (zm_rd (Z := Z) (ν := ν) (k := 47) (rfl : ((x0b : Nat) : Int) = x0b) (i3I (y := x2) (rfl : i3 x2 = i3 x2) (by omega) (by omega) (by omega)) (show ((10 : Nat) : Int) = 10 from rfl)) (by omega) (by omega) (by omega)) (show ((1 : Nat) : Int) = 1 from rfl)) (by omega) (by omega) (by omega) (by omega)) (fun h16 => ?_) (fun h16 => ?_)
      · replace hP := zE_p hP h16
        have r17 := zH_k hZ14I 47 x0b x2 12 (lo := 0) (hi := 999) (by decide) rfl
        obtain ⟨Z18, hZ18⟩ := zx (zu Z14 47 x0b x2 12 (Z14 47 x0b x2 12))
        replace hP := zl_e hP hZ18
        have hZ18I := zH_u hZ14I hZ18 (lo := 0) (hi := 999) (by decide) rfl (by omega) ⟨by decide, by decide⟩ (Or.inl (by decide)) rfl
        have hZ18U : zU [x0b] Zs Z18 := zU_u hZ14U hZ18 (Or.inr (List.Mem.head _))
        have hZ18K : zC [47] Zs Z18 := zC_u hZ14K hZ18 (by decide)
        intro μ9 e9
        replace e9 := e9.trans (zm_wI (Z := Z14) (ν := ν) hZ18 (rfl : ((x0b : Nat) : Int) = x0b) (i3I (y := x2) (rfl : i3 x2 = i3 x2) (by omega) (by omega) (by omega)) (show ((12 : Nat) : Int) = 12 from rfl) (zm_rd (Z := Z14) (ν := ν) (k := 47) (rfl : ((x0b : Nat) : Int) = x0b) (i3I (y := x2) (rfl : i3 x2 = i3 x2) (by omega) (by omega) (by omega)) (show ((12 : Nat) : Int) = 12 from rfl)))
        subst e9
        obtain ⟨m2, rfl⟩ : ∃ m2, m = m2 + 1 := ⟨m - 1, by omega⟩
        exact wz_k1 ⟨m2, by omega, Z18, (x2 + 1), (zconso rfl (zconso rfl (zconso (zvo (i3A (rfl : i3 x2 = i3 x2) (show (1 : Int32) = i3 1 from rfl))) (zconso rfl (zconso rfl (zconso rfl (zconso rfl (zconso rfl rfl)))))))), rfl, hZ18I, hZ18K, hZ18U, by omega, by omega,  hP⟩
      · replace hP := zE_n hP h16
        have r19 := zH_k hZ14I 47 x0b x2 12 (lo := 0) (hi := 999) (by decide) rfl
        obtain ⟨Z20, hZ20⟩ := zx (zu Z14 47 x0b x2 12 (min ((Z14 47 x0b x2 12) + 1) 999))
        replace hP := zl_e hP hZ20
        have hZ20I := zH_u hZ14I hZ20 (lo := 0) (hi := 999) (by decide) rfl (by omega) ⟨by decide, by decide⟩ (Or.inl (by decide)) rfl
        have hZ20U : zU [x0b] Zs Z20 := zU_u hZ14U hZ20 (Or.inr (List.Mem.head _))
        have hZ20K : zC [47] Zs Z20 := zC_u hZ14K hZ20 (by decide)
        intro μ9 e9
        replace e9 := e9.trans (zm_wI (Z := Z14) (ν := ν) hZ20 (rfl : ((x0b : Nat) : Int) = x0b) (i3I (y := x2) (rfl : i3 x2 = i3 x2) (by omega) (by omega) (by omega)) (show ((12 : Nat) : Int) = 12 from rfl) (i3Mn (i3A (zm_rd (Z := Z14) (ν := ν) (k := 47) (rfl : ((x0b : Nat) : Int) = x0b) (i3I (y := x2) (rfl : i3 x2 = i3 x2) (by omega) (by omega) (by omega)) (show ((12 : Nat) : Int) = 12 from rfl)) (show (1 : Int32) = i3 1 from rfl)) (show (999 : Int32) = i3 999 from rfl) (by omega) (by omega) (by omega) (by omega)))
        subst e9
        obtain ⟨m2, rfl⟩ : ∃ m2, m = m2 + 1 := ⟨m - 1, by omega⟩
        exact wz_k1 ⟨m2, by omega, Z20, (x2 + 1), (zconso rfl (zconso rfl (zconso (zvo (i3A (rfl : i3 x2 = i3 x2) (show (1 : Int32) = i3 1 from rfl))) (zconso rfl (zconso rfl (zconso rfl (zconso rfl (zconso rfl rfl)))))))), rfl, hZ20I, hZ20K, hZ20U, by omega, by omega,  hP⟩
/- yX10_growOlder -/
def zf_171 (Z : qz_Z) (a0b : Int) : qz_Z := (zlet2 (zl_171_1 a0b (Z 12 a0b 0 ((Z 11 a0b 0 13) / 24)) 7 Z 0) (fun Z4 y3 => (zlet2 (zl_171_2 a0b (Z 12 a0b 0 ((Z 11 a0b 0 13) / 24)) 49 Z4 0) (fun Z7 y6 => (zlet2 (zl_171_3 a0b 61 Z7 0) (fun Z10 y9 => Z10))))))
theorem sp_171 {s : zSM} {Z : qz_Z} {ν : qz_N} (hZ : zH s Z) (a0b : Nat) (hM : s.2 + 0 ≤ 1000000000) : ∃ P : qz_Z, P = zf_171 Z a0b ∧ (qf_171 [.inr (.inr (some (10, a0b, 0)))] (zm Z ν) = some (zm P ν, .inl none) ∧ zH s P ∧ zC [43, 44, 47] Z P ∧ zU [a0b] Z P) := by
  obtain ⟨P, hP⟩ := zx (zf_171 Z a0b)
  refine zc_V (Q := fun P => zH s P ∧ zC [43, 44, 47] Z P ∧ zU [a0b] Z P) hP (fw_171 a0b _ _ ?_)
  replace hP : zE P (zf_171 Z a0b) := hP
  unfold zf_171 at hP
  have r1 := zH_k hZ 11 a0b 0 13 (lo := 0) (hi := 671) (by decide) rfl
  refine wz_i0 (i3O (n := 28) (i3D (zm_rd (Z := Z) (ν := ν) (k := 11) (rfl : ((a0b : Nat) : Int) = a0b) (show ((0 : Nat) : Int) = 0 from rfl) (show ((13 : Nat) : Int) = 13 from rfl)) (show (24 : Int32) = i3 24 from rfl) (by omega) (by omega) (by omega) (by omega)) (by omega) (by omega) (by omega)) ?_
  have r2 := zH_k hZ 12 a0b 0 ((Z 11 a0b 0 13) / 24) (lo := 0) (hi := 40) (by decide) (zrc_12 (by omega) (by omega))
  refine sl_171_1 (ν := ν) hZ (zbh (c := 0) (k := 0) hM (Nat.le_of_ble_eq_true rfl)) zC_r a0b (x1 := (Z 12 a0b 0 ((Z 11 a0b 0 13) / 24))) (by omega) (x2 := 0) (by omega) zU_r  (zconso rfl (zconso (zvo (zm_rd (Z := Z) (ν := ν) (k := 12) (rfl : ((a0b : Nat) : Int) = a0b) (show ((0 : Nat) : Int) = 0 from rfl) (i3I (y := ((Z 11 a0b 0 13) / 24)) (i3D (zm_rd (Z := Z) (ν := ν) (k := 11) (rfl : ((a0b : Nat) : Int) = a0b) (show ((0 : Nat) : Int) = 0 from rfl) (show ((13 : Nat) : Int) = 13 from rfl)) (show (24 : Int32) = i3 24 from rfl) (by omega) (by omega) (by omega) (by omega)) (by omega) (by omega) (by omega)))) (zconso (zvo (show (0 : Int32) = i3 0 from rfl)) (zconso rfl (zconso rfl (zconso rfl (zconso rfl (zconso rfl rfl)))))))) rfl ?_
  intro L5 Z4 y3 hL5 hZ4I kZ4 jZ4 gy3 q9
  replace hP := zl_e2 hP (Eq.symm q9)
  clear q9
  have hZ4U : zU [a0b] Z Z4 := zU_t zU_r jZ4 (zU_b1 (List.Mem.head _) zU_b0)
  have hZ4K : zC [43, 44, 47] Z Z4 := zC_t zC_r kZ4 (by decide)
  refine fc_171_6 _ (i3 (Z 12 a0b 0 ((Z 11 a0b 0 13) / 24))) _ _ _ _ hL5 ?_
  refine sl_171_2 (ν := ν) hZ4I (zbh (c := 0) (k := 0) hM (Nat.le_of_ble_eq_true rfl)) zC_r a0b (x1 := (Z 12 a0b 0 ((Z 11 a0b 0 13) / 24))) (by omega) (x2 := 0) (by omega) zU_r  (zconso rfl (zconso (zvo (rfl : i3 (Z 12 a0b 0 ((Z 11 a0b 0 13) / 24)) = i3 (Z 12 a0b 0 ((Z 11 a0b 0 13) / 24)))) (zconso (zvo (show (0 : Int32) = i3 0 from rfl)) (zconso rfl (zconso rfl (zconso rfl (zconso rfl (zconso rfl rfl)))))))) rfl ?_
  intro L8 Z7 y6 hL8 hZ7I kZ7 jZ7 gy6 q9
  replace hP := zl_e2 hP (Eq.symm q9)
  clear q9
  have hZ7U : zU [a0b] Z Z7 := zU_t hZ4U jZ7 (zU_b1 (List.Mem.head _) zU_b0)
  have hZ7K : zC [43, 44, 47] Z Z7 := zC_t hZ4K kZ7 (by decide)
  refine fc_171_5 _ _ _ _ _ hL8 ?_
  refine sl_171_3 (ν := ν) hZ7I (zbh (c := 0) (k := 0) hM (Nat.le_of_ble_eq_true rfl)) zC_r a0b (x2 := 0) (by omega) zU_r  (zconso rfl (zconso rfl (zconso (zvo (show (0 : Int32) = i3 0 from rfl)) (zconso rfl (zconso rfl (zconso rfl (zconso rfl (zconso rfl rfl)))))))) rfl ?_
  intro L11 Z10 y9 hL11 hZ10I kZ10 jZ10 gy9 q9
  replace hP := zl_e2 hP (Eq.symm q9)
  clear q9
  have hZ10U : zU [a0b] Z Z10 := zU_t hZ7U jZ10 (zU_b1 (List.Mem.head _) zU_b0)
  have hZ10K : zC [43, 44, 47] Z Z10 := zC_t hZ7K kZ10 (by decide)
  refine fc_171_4  _ _ _ _ hL11 ?_
  exact zlV hP ⟨hZ10I, hZ10K, hZ10U⟩
/- yX6_letHours -/
def zl_118_1 (x0b : Int) (x1 : Int) (x2 : Int) : Nat → qz_Z → Int → qz_Z × Int
  | 0, Z, x3 => (Z, x3)
  | m + 1, Z, x3 => (if (Z 11 x0b 0 9) ≤ x3 then (Z, x3) else (zlet (zf_139 Z x0b x3 (Z 11 x0b 0 13)) (fun v4 => (if v4 = (-1) then zl_118_1 x0b x1 x2 m Z (x3 + 1) else (zlet2 (zf_136 Z x0b x3 v4) (fun Z6 v7 => zl_118_1 x0b x1 x2 m Z6 (x3 + 1)))))))
theorem sl_118_1 {s : zSM} {xM9 : Nat} {Zs Z : qz_Z} {ν : qz_N} (hZ : zH (zb s xM9) Z) (hM : s.2 + 9555 ≤ 1000000000) (hK : zC [14, 43, 44, 45, 46, 47, 48, 49, 51, 52, 53, 1111, 1112] Zs Z) (x0b : Nat) {x1 : Int} (gx1 : 1 ≤ x1 ∧ x1 ≤ 72) {x2 : Int} (gx2 : 0 ≤ x2 ∧ x2 ≤ 71) {x3 : Int} (gx3 : 0 ≤ x3 ∧ x3 ≤ 2) (hU : zU [x0b] Zs Z) (hLtx0b : zLt x0b Z) (hx9 : xM9 + 3185 * ((2 - x3).toNat) + 3185 ≤ 9555) {k : wz_K} {R : wz_R} {L : qz_L} (hL : qz_fg [true, true, true, true, false, false] L = [some (.inr (.inr (some (10, x0b, 0)))), some (.inl (i3 x1)), some (.inl (i3 x2)), some (.inl (i3 x3)), none, none]) {T : qz_Z × Int} (hP : zE T (zl_118_1 x0b x1 x2 ((2 - x3).toNat + 1) Z x3)) (hk : ∀ (L9 : qz_L) (Z9 : qz_Z) (yx3 : Int), qz_fg [true, true, true, false, false, false] L9 = [some (.inr (.inr (some (10, x0b, 0)))), some (.inl (i3 x1)), some (.inl (i3 x2)), none, none, none] → zH (zb s 9555) Z9 → zC [14, 43, 44, 45, 46, 47, 48, 49, 51, 52, 53, 1111, 1112] Zs Z9 → zU [x0b] Zs Z9 → zLt x0b Z9 → (0 ≤ yx3 ∧ yx3 ≤ 2) → zE T ((Z9, yx3)) → k 0 (L9, [], zm Z9 ν)) : wz_loop qb_118_1 65536 k R (L, [], zm Z ν) := by
  refine wz_lp sb_118_1 (fun m x => ∃ xM9 : Nat, ∃ Z : qz_Z, ∃ x3 : Int, qz_fg [true, true, true, true, false, false] x.1 = [some (.inr (.inr (some (10, x0b, 0)))), some (.inl (i3 x1)), some (.inl (i3 x2)), some (.inl (i3 x3)), none, none] ∧ x.2 = ([], zm Z ν) ∧ xM9 + 3185 * m + 3185 ≤ 9555 ∧ zH (zb s xM9) Z ∧ zC [14, 43, 44, 45, 46, 47, 48, 49, 51, 52, 53, 1111, 1112] Zs Z ∧ zU [x0b] Zs Z ∧ zLt x0b Z ∧ m = (2 - x3).toNat ∧ (0 ≤ x3 ∧ x3 ≤ 2) ∧ zE T (zl_118_1 x0b x1 x2 (m + 1) Z x3)) ?_ 65536 ((2 - x3).toNat) _ (by omega) ⟨xM9, Z, x3, hL, rfl, hx9, hZ, hK, hU, hLtx0b, rfl, gx3, hP⟩
  clear hP gx3 hx9 hZ hK hU hLtx0b hL
  clear x3
  clear Z
  clear xM9
  rintro m ⟨L, st, μ⟩ ⟨xM9, Z, x3, hL, hx, hx9, hZ, hK, hU, hLtx0b, hm, gx3, hP⟩
  cases hx
  have hM9 : (zb s xM9).2 + 3185 ≤ 1000000000 := by
    show s.2 + xM9 + 3185 ≤ 1000000000
    omega
  refine fb_118_1 x0b (i3 x1) (i3 x2) (i3 x3) _ _ _ _ hL ?_
  have r1 := zH_k hZ 11 x0b 0 9 (lo := 0) (hi := 2) (by decide) rfl
  refine wz_br (i3Le (zm_rd (Z := Z) (ν := ν) (k := 11) (rfl : ((x0b : Nat) : Int) = x0b) (show ((0 : Nat) : Int) = 0 from rfl) (show ((9 : Nat) : Int) = 9 from rfl)) (rfl : i3 x3 = i3 x3) (by omega) (by omega) (by omega) (by omega)) (fun h2 => ?_) (fun h2 => ?_)
  · replace hP := zE_p hP h2
    exact hk _ _ _ (zconso rfl (zconso (zvo (rfl : i3 x1 = i3 x1)) (zconso (zvo (rfl : i3 x2 = i3 x2)) (zconso rfl (zconso rfl (zconso rfl rfl)))))) (zbx0 hZ (by omega)) hK hU hLtx0b (by omega)  hP
  · replace hP := zE_n hP h2
    refine wz_i0 (i3O (n := 2) (rfl : i3 x3 = i3 x3) (by omega) (by omega) (by omega)) ?_
    have r3 := zH_k hZ 11 x0b 0 13 (lo := 0) (hi := 671) (by decide) rfl
    obtain ⟨v4, hv4, c9, lv4, uv4⟩ := sp_139 (ν := ν) hZ x0b _ (i3I (y := x3) (rfl : i3 x3 = i3 x3) (by omega) (by omega) (by omega)) (by omega) (a1 := (Z 11 x0b 0 13)) (by omega) (zbh (c := 0) (k := 0) hM9 (Nat.le_of_ble_eq_true rfl))
    replace hP := zl_e hP hv4
    refine wz_cI_of (zas (zcons rfl (zcons (zvi (zm_rd (Z := Z) (ν := ν) (k := 11) (rfl : ((x0b : Nat) : Int) = x0b) (show ((0 : Nat) : Int) = 0 from rfl) (show ((13 : Nat) : Int) = 13 from rfl))) rfl)) c9) ?_
    clear c9
    refine wz_br (i3E (rfl : i3 v4 = i3 v4) (show (-1 : Int32) = i3 (-1) from rfl) (by omega) (by omega) (by omega) (by omega)) (fun h5 => ?_) (fun h5 => ?_)
    · replace hP := zE_p hP h5
      obtain ⟨m2, rfl⟩ : ∃ m2, m = m2 + 1 := ⟨m - 1, by omega⟩
      exact wz_k1 ⟨m2, by omega, xM9, Z, (x3 + 1), (zconso rfl (zconso (zvo (rfl : i3 x1 = i3 x1)) (zconso (zvo (rfl : i3 x2 = i3 x2)) (zconso (zvo (i3A (rfl : i3 x3 = i3 x3) (show (1 : Int32) = i3 1 from rfl))) (zconso rfl (zconso rfl rfl)))))), rfl, by omega, hZ, hK, hU, hLtx0b, by omega, by omega,  hP⟩
    · replace hP := zE_n hP h5
      obtain ⟨Z6, v7, hv7, c9, hZ6I, kZ6, jZ6, lv7, uv7, tZ6_a0b⟩ := sp_136 (ν := ν) hZ x0b (a1 := x3) (by omega) (a2 := v4) (by omega) hLtx0b (zbh (c := 0) (k := 3185) hM9 (Nat.le_of_ble_eq_true rfl))
      have hZ6U : zU [x0b] Zs Z6 := zU_t hU jZ6 (zU_b1 (List.Mem.head _) zU_b0)
      have r8 := zpt_c (b := x0b) kZ6 (by decide)
      have hZ6K : zC [14, 43, 44, 45, 46, 47, 48, 49, 51, 52, 53, 1111, 1112] Zs Z6 := zC_t hK kZ6 (by decide)
      replace hP := zl_e2 hP hv7
      refine wz_cI_of (zas (zcons rfl (zcons (zvi (rfl : i3 x3 = i3 x3)) (zcons (zvi (rfl : i3 v4 = i3 v4)) rfl))) c9) ?_
      clear c9 hv7
      obtain ⟨m2, rfl⟩ : ∃ m2, m = m2 + 1 := ⟨m - 1, by omega⟩
      exact wz_k1 ⟨m2, by omega, xM9 + 3185, Z6, (x3 + 1), (zconso rfl (zconso (zvo (rfl : i3 x1 = i3 x1)) (zconso (zvo (rfl : i3 x2 = i3 x2)) (zconso (zvo (i3A (rfl : i3 x3 = i3 x3) (show (1 : Int32) = i3 1 from rfl))) (zconso rfl (zconso rfl rfl)))))), rfl, by omega, (zbt hZ6I rfl), hZ6K, hZ6U, tZ6_a0b, by omega, by omega,  hP⟩
/- yX6_letHours -/
def zl_118_2 (x0b : Int) (x1 : Int) (x2 : Int) (x3 : Int) (x4 : Int) : Nat → qz_Z → Int → qz_Z × Int
  | 0, Z, x5 => (Z, x5)
  | m + 1, Z, x5 => (if x4 ≤ x5 then (Z, x5) else (zlet (zf_73 Z x0b x3) (fun Z3 => zl_118_2 x0b x1 x2 x3 x4 m Z3 (x5 + 1))))
theorem sl_118_2 {s : zSM} {xM9 : Nat} {Zs Z : qz_Z} {ν : qz_N} (hZ : zH (zb s xM9) Z) (hM : s.2 + 574 ≤ 1000000000) (hK : zC [14, 42, 44, 45, 46, 47, 48, 49, 53, 1106, 1112] Zs Z) (x0b : Nat) {x1 : Int} (gx1 : 1 ≤ x1 ∧ x1 ≤ 72) {x2 : Int} (gx2 : 0 ≤ x2 ∧ x2 ≤ 71) {x3 : Int} (gx3 : 0 ≤ x3 ∧ x3 ≤ 1) {x4 : Int} (gx4 : 0 ≤ x4 ∧ x4 ≤ 6) {x5 : Int} (gx5 : 0 ≤ x5 ∧ x5 ≤ 6) (hU : zU [x0b] Zs Z) (hLtx0b : zLt x0b Z) (hx9 : xM9 + 82 * ((6 - x5).toNat) + 82 ≤ 574) (gr0 : x4 ≤ x5 + Z 48 x0b x3 5) {k : wz_K} {R : wz_R} {L : qz_L} (hL : qz_fg [true, true, true, true, true, true] L = [some (.inr (.inr (some (10, x0b, 0)))), some (.inl (i3 x1)), some (.inl (i3 x2)), some (.inl (i3 x3)), some (.inl (i3 x4)), some (.inl (i3 x5))]) {T : qz_Z × Int} (hP : zE T (zl_118_2 x0b x1 x2 x3 x4 ((6 - x5).toNat + 1) Z x5)) (hk : ∀ (L9 : qz_L) (Z9 : qz_Z) (yx5 : Int), qz_fg [true, true, true, true, false, false] L9 = [some (.inr (.inr (some (10, x0b, 0)))), some (.inl (i3 x1)), some (.inl (i3 x2)), some (.inl (i3 x3)), none, none] → zH (zb s 574) Z9 → zC [14, 42, 44, 45, 46, 47, 48, 49, 53, 1106, 1112] Zs Z9 → zU [x0b] Zs Z9 → zLt x0b Z9 → (0 ≤ yx5 ∧ yx5 ≤ 6) → (x4 ≤ yx5 + Z9 48 x0b x3 5) → zE T ((Z9, yx5)) → k 0 (L9, [], zm Z9 ν)) : wz_loop qb_118_2 65536 k R (L, [], zm Z ν) := by
  refine wz_lp sb_118_2 (fun m x => ∃ xM9 : Nat, ∃ Z : qz_Z, ∃ x5 : Int, qz_fg [true, true, true, true, true, true] x.1 = [some (.inr (.inr (some (10, x0b, 0)))), some (.inl (i3 x1)), some (.inl (i3 x2)), some (.inl (i3 x3)), some (.inl (i3 x4)), some (.inl (i3 x5))] ∧ x.2 = ([], zm Z ν) ∧ xM9 + 82 * m + 82 ≤ 574 ∧ zH (zb s xM9) Z ∧ zC [14, 42, 44, 45, 46, 47, 48, 49, 53, 1106, 1112] Zs Z ∧ zU [x0b] Zs Z ∧ zLt x0b Z ∧ m = (6 - x5).toNat ∧ (0 ≤ x5 ∧ x5 ≤ 6) ∧ (x4 ≤ x5 + Z 48 x0b x3 5) ∧ zE T (zl_118_2 x0b x1 x2 x3 x4 (m + 1) Z x5)) ?_ 65536 ((6 - x5).toNat) _ (by omega) ⟨xM9, Z, x5, hL, rfl, hx9, hZ, hK, hU, hLtx0b, rfl, gx5, gr0, hP⟩
  clear hP gr0 gx5 hx9 hZ hK hU hLtx0b hL
  clear x5
  clear Z
  clear xM9
  rintro m ⟨L, st, μ⟩ ⟨xM9, Z, x5, hL, hx, hx9, hZ, hK, hU, hLtx0b, hm, gx5, gr0, hP⟩
  cases hx
  have hM9 : (zb s xM9).2 + 82 ≤ 1000000000 := by
    show s.2 + xM9 + 82 ≤ 1000000000
    omega
  refine fb_118_2 x0b (i3 x1) (i3 x2) (i3 x3) (i3 x4) (i3 x5) _ _ _ _ hL ?_
  have r1 := zH_k hZ 48 x0b x3 5 (lo := 0) (hi := 12) (by decide) rfl
  refine wz_br (i3Le (rfl : i3 x4 = i3 x4) (rfl : i3 x5 = i3 x5) (by omega) (by omega) (by omega) (by omega)) (fun h2 => ?_) (fun h2 => ?_)
  · replace hP := zE_p hP h2
    exact hk _ _ _ (zconso rfl (zconso (zvo (rfl : i3 x1 = i3 x1)) (zconso (zvo (rfl : i3 x2 = i3 x2)) (zconso (zvo (rfl : i3 x3 = i3 x3)) (zconso rfl (zconso rfl rfl)))))) (zbx0 hZ (by omega)) hK hU hLtx0b (by omega) (by omega) hP
  · replace hP := zE_n hP h2
    obtain ⟨Z3, hZ3, c9, hZ3I, kZ3, jZ3, tZ3_a0b, wZ30⟩ := sp_73 (ν := ν) hZ x0b (a1 := x3) (by omega) (by omega) hLtx0b (zbh (c := 0) (k := 82) hM9 (Nat.le_of_ble_eq_true rfl))
    have hZ3U : zU [x0b] Zs Z3 := zU_t hU jZ3 (zU_b1 (List.Mem.head _) zU_b0)
    have r4 := zpt_c (b := x0b) kZ3 (by decide)
    have hZ3K : zC [14, 42, 44, 45, 46, 47, 48, 49, 53, 1106, 1112] Zs Z3 := zC_t hK kZ3 (by decide)
    replace hP := zl_e hP hZ3
    refine wz_cV_of (zas (zcons rfl (zcons (zvi (rfl : i3 x3 = i3 x3)) rfl)) c9) ?_
    clear c9
    have r5 := zH_k hZ3I 48 x0b x3 5 (lo := 0) (hi := 12) (by decide) rfl
    obtain ⟨m2, rfl⟩ : ∃ m2, m = m2 + 1 := ⟨m - 1, by omega⟩
    exact wz_k1 ⟨m2, by omega, xM9 + 82, Z3, (x5 + 1), (zconso rfl (zconso (zvo (rfl : i3 x1 = i3 x1)) (zconso (zvo (rfl : i3 x2 = i3 x2)) (zconso (zvo (rfl : i3 x3 = i3 x3)) (zconso (zvo (rfl : i3 x4 = i3 x4)) (zconso (zvo (i3A (rfl : i3 x5 = i3 x5) (show (1 : Int32) = i3 1 from rfl))) rfl)))))), rfl, by omega, (zbt hZ3I rfl), hZ3K, hZ3U, tZ3_a0b, by omega, by omega, by omega,  hP⟩
/- yX6_letHours -/
def zl_118_4 (x0b : Int) (x1 : Int) (x2 : Int) : Nat → qz_Z → Int → qz_Z × Int
  | 0, Z, x3 => (Z, x3)
  | m + 1, Z, x3 => (if (Z 11 x0b 0 7) ≤ x3 then (Z, x3) else (if (((Z 11 x0b 0 13) % 24) - (Z 48 x0b x3 0)) < 0 then (zlet2 (zl_118_2 x0b x1 x2 x3 0 7 Z 0) (fun Z7 y6 => zl_118_4 x0b x1 x2 m Z7 (x3 + 1))) else (if (Z 48 x0b x3 1) ≤ (((Z 11 x0b 0 13) % 24) - (Z 48 x0b x3 0)) then (zlet2 (zl_118_2 x0b x1 x2 x3 0 7 Z 0) (fun Z15 y14 => zl_118_4 x0b x1 x2 m Z15 (x3 + 1))) else (zlet2 (zl_118_2 x0b x1 x2 x3 (min (Z 48 x0b x3 5) (Z 48 x0b x3 2)) 7 Z 0) (fun Z23 y22 => zl_118_4 x0b x1 x2 m Z23 (x3 + 1))))))
theorem sl_118_4 {s : zSM} {xM9 : Nat} {Zs Z : qz_Z} {ν : qz_N} (hZ : zH (zb s xM9) Z) (hM : s.2 + 1722 ≤ 1000000000) (hK : zC [14, 42, 44, 45, 46, 47, 48, 49, 53, 1106, 1112] Zs Z) (x0b : Nat) {x1 : Int} (gx1 : 1 ≤ x1 ∧ x1 ≤ 72) {x2 : Int} (gx2 : 0 ≤ x2 ∧ x2 ≤ 71) {x3 : Int} (gx3 : 0 ≤ x3 ∧ x3 ≤ 2) (hU : zU [x0b] Zs Z) (hLtx0b : zLt x0b Z) (hx9 : xM9 + 574 * ((2 - x3).toNat) + 574 ≤ 1722) {k : wz_K} {R : wz_R} {L : qz_L} (hL : qz_fg [true, true, true, true, false, false] L = [some (.inr (.inr (some (10, x0b, 0)))), some (.inl (i3 x1)), some (.inl (i3 x2)), some (.inl (i3 x3)), none, none]) {T : qz_Z × Int} (hP : zE T (zl_118_4 x0b x1 x2 ((2 - x3).toNat + 1) Z x3)) (hk : ∀ (L9 : qz_L) (Z9 : qz_Z) (yx3 : Int), qz_fg [true, true, true, false, false, false] L9 = [some (.inr (.inr (some (10, x0b, 0)))), some (.inl (i3 x1)), some (.inl (i3 x2)), none, none, none] → zH (zb s 1722) Z9 → zC [14, 42, 44, 45, 46, 47, 48, 49, 53, 1106, 1112] Zs Z9 → zU [x0b] Zs Z9 → zLt x0b Z9 → (0 ≤ yx3 ∧ yx3 ≤ 2) → zE T ((Z9, yx3)) → k 0 (L9, [], zm Z9 ν)) : wz_loop qb_118_4 65536 k R (L, [], zm Z ν) := by
  refine wz_lp sb_118_4 (fun m x => ∃ xM9 : Nat, ∃ Z : qz_Z, ∃ x3 : Int, qz_fg [true, true, true, true, false, false] x.1 = [some (.inr (.inr (some (10, x0b, 0)))), some (.inl (i3 x1)), some (.inl (i3 x2)), some (.inl (i3 x3)), none, none] ∧ x.2 = ([], zm Z ν) ∧ xM9 + 574 * m + 574 ≤ 1722 ∧ zH (zb s xM9) Z ∧ zC [14, 42, 44, 45, 46, 47, 48, 49, 53, 1106, 1112] Zs Z ∧ zU [x0b] Zs Z ∧ zLt x0b Z ∧ m = (2 - x3).toNat ∧ (0 ≤ x3 ∧ x3 ≤ 2) ∧ zE T (zl_118_4 x0b x1 x2 (m + 1) Z x3)) ?_ 65536 ((2 - x3).toNat) _ (by omega) ⟨xM9, Z, x3, hL, rfl, hx9, hZ, hK, hU, hLtx0b, rfl, gx3, hP⟩
  clear hP gx3 hx9 hZ hK hU hLtx0b hL
  clear x3
  clear Z
  clear xM9
  rintro m ⟨L, st, μ⟩ ⟨xM9, Z, x3, hL, hx, hx9, hZ, hK, hU, hLtx0b, hm, gx3, hP⟩
  cases hx
  have hM9 : (zb s xM9).2 + 574 ≤ 1000000000 := by
    show s.2 + xM9 + 574 ≤ 1000000000
    omega
  refine fb_118_4 x0b (i3 x1) (i3 x2) (i3 x3) _ _ _ _ hL ?_
  have r1 := zH_k hZ 11 x0b 0 7 (lo := 0) (hi := 2) (by decide) rfl
  refine wz_br (i3Le (zm_rd (Z := Z) (ν := ν) (k := 11) (rfl : ((x0b : Nat) : Int) = x0b) (show ((0 : Nat) : Int) = 0 from rfl) (show ((7 : Nat) : Int) = 7 from rfl)) (rfl : i3 x3 = i3 x3) (by omega) (by omega) (by omega) (by omega)) (fun h2 => ?_) (fun h2 => ?_)
  · replace hP := zE_p hP h2
    exact hk _ _ _ (zconso rfl (zconso (zvo (rfl : i3 x1 = i3 x1)) (zconso (zvo (rfl : i3 x2 = i3 x2)) (zconso rfl (zconso rfl (zconso rfl rfl)))))) (zbx0 hZ (by omega)) hK hU hLtx0b (by omega)  hP
  · replace hP := zE_n hP h2
    refine wz_i0 (i3O (n := 2) (rfl : i3 x3 = i3 x3) (by omega) (by omega) (by omega)) ?_
    refine wz_i0 (i3O (n := 2) (rfl : i3 x3 = i3 x3) (by omega) (by omega) (by omega)) ?_
    have r3 := zH_k hZ 11 x0b 0 13 (lo := 0) (hi := 671) (by decide) rfl
    have r4 := zH_k hZ 48 x0b x3 0 (lo := 0) (hi := 23) (by decide) rfl
    refine wz_br (i3L (i3S (i3R (zm_rd (Z := Z) (ν := ν) (k := 11) (rfl : ((x0b : Nat) : Int) = x0b) (show ((0 : Nat) : Int) = 0 from rfl) (show ((13 : Nat) : Int) = 13 from rfl)) (show (24 : Int32) = i3 24 from rfl) (by omega) (by omega) (by omega) (by omega)) (zm_rd (Z := Z) (ν := ν) (k := 48) (rfl : ((x0b : Nat) : Int) = x0b) (i3I (y := x3) (rfl : i3 x3 = i3 x3) (by omega) (by omega) (by omega)) (show ((0 : Nat) : Int) = 0 from rfl))) (show (0 : Int32) = i3 0 from rfl) (by omega) (by omega) (by omega) (by omega)) (fun h5 => ?_) (fun h5 => ?_)
    · replace hP := zE_p hP h5
      have r8 := zH_k hZ 48 x0b x3 5 (lo := 0) (hi := 12) (by decide) rfl
      refine sl_118_2 (ν := ν) (zb0 hZ) (zbh (c := 0) (k := 574) hM9 (Nat.le_of_ble_eq_true rfl)) (xM9 := 0) zC_r x0b (x1 := x1) (by omega) (x2 := x2) (by omega) (x3 := x3) (by omega) (x4 := 0) (by omega) (x5 := 0) (by omega) zU_r hLtx0b (Nat.le_of_ble_eq_true rfl) (by omega) (zconso rfl (zconso (zvo (rfl : i3 x1 = i3 x1)) (zconso (zvo (rfl : i3 x2 = i3 x2)) (zconso (zvo (rfl : i3 x3 = i3 x3)) (zconso (zvo (show (0 : Int32) = i3 0 from rfl)) (zconso (zvo (show (0 : Int32) = i3 0 from rfl)) rfl)))))) rfl ?_
      intro L9 Z7 y6 hL9 hZ7I kZ7 jZ7 tZ7_x0b gy6 gL9_0 q9
      replace hP := zl_e2 hP (Eq.symm q9)
      clear q9
      have hZ7U : zU [x0b] Zs Z7 := zU_t hU jZ7 (zU_b1 (List.Mem.head _) zU_b0)
      have r10 := zpt_c (b := x0b) kZ7 (by decide)
      have hZ7K : zC [14, 42, 44, 45, 46, 47, 48, 49, 53, 1106, 1112] Zs Z7 := zC_t hK kZ7 (by decide)
      have r11 := zH_k hZ7I 48 x0b x3 5 (lo := 0) (hi := 12) (by decide) rfl
      refine fc_118_3 _ (i3 x1) (i3 x2) (i3 x3) _ _ _ _ hL9 ?_
      obtain ⟨m2, rfl⟩ : ∃ m2, m = m2 + 1 := ⟨m - 1, by omega⟩
      refine wz_kbs (n := 1) (?_)
      exact wz_k1 ⟨m2, by omega, xM9 + 574, Z7, (x3 + 1), (zconso rfl (zconso (zvo (rfl : i3 x1 = i3 x1)) (zconso (zvo (rfl : i3 x2 = i3 x2)) (zconso (zvo (i3A (rfl : i3 x3 = i3 x3) (show (1 : Int32) = i3 1 from rfl))) (zconso rfl (zconso rfl rfl)))))), rfl, by omega, (zbt hZ7I rfl), hZ7K, hZ7U, tZ7_x0b, by omega, by omega,  hP⟩
    · replace hP := zE_n hP h5
      refine wz_i0 (i3O (n := 2) (rfl : i3 x3 = i3 x3) (by omega) (by omega) (by omega)) ?_
      have r12 := zH_k hZ 48 x0b x3 1 (lo := 0) (hi := 6) (by decide) rfl
      refine wz_br (i3Le (zm_rd (Z := Z) (ν := ν) (k := 48) (rfl : ((x0b : Nat) : Int) = x0b) (i3I (y := x3) (rfl : i3 x3 = i3 x3) (by omega) (by omega) (by omega)) (show ((1 : Nat) : Int) = 1 from rfl)) (i3S (i3R (zm_rd (Z := Z) (ν := ν) (k := 11) (rfl : ((x0b : Nat) : Int) = x0b) (show ((0 : Nat) : Int) = 0 from rfl) (show ((13 : Nat) : Int) = 13 from rfl)) (show (24 : Int32) = i3 24 from rfl) (by omega) (by omega) (by omega) (by omega)) (zm_rd (Z := Z) (ν := ν) (k := 48) (rfl : ((x0b : Nat) : Int) = x0b) (i3I (y := x3) (rfl : i3 x3 = i3 x3) (by omega) (by omega) (by omega)) (show ((0 : Nat) : Int) = 0 from rfl))) (by omega) (by omega) (by omega) (by omega)) (fun h13 => ?_) (fun h13 => ?_)
      · replace hP := zE_p hP h13
        have r16 := zH_k hZ 48 x0b x3 5 (lo := 0) (hi := 12) (by decide) rfl
        refine sl_118_2 (ν := ν) (zb0 hZ) (zbh (c := 0) (k := 574) hM9 (Nat.le_of_ble_eq_true rfl)) (xM9 := 0) zC_r x0b (x1 := x1) (by omega) (x2 := x2) (by omega) (x3 := x3) (by omega) (x4 := 0) (by omega) (x5 := 0) (by omega) zU_r hLtx0b (Nat.le_of_ble_eq_true rfl) (by omega) (zconso rfl (zconso (zvo (rfl : i3 x1 = i3 x1)) (zconso (zvo (rfl : i3 x2 = i3 x2)) (zconso (zvo (rfl : i3 x3 = i3 x3)) (zconso (zvo (show (0 : Int32) = i3 0 from rfl)) (zconso (zvo (show (0 : Int32) = i3 0 from rfl)) rfl)))))) rfl ?_
        intro L17 Z15 y14 hL17 hZ15I kZ15 jZ15 tZ15_x0b gy14 gL17_0 q9
        replace hP := zl_e2 hP (Eq.symm q9)
        clear q9
        have hZ15U : zU [x0b] Zs Z15 := zU_t hU jZ15 (zU_b1 (List.Mem.head _) zU_b0)
        have r18 := zpt_c (b := x0b) kZ15 (by decide)
        have hZ15K : zC [14, 42, 44, 45, 46, 47, 48, 49, 53, 1106, 1112] Zs Z15 := zC_t hK kZ15 (by decide)
        have r19 := zH_k hZ15I 48 x0b x3 5 (lo := 0) (hi := 12) (by decide) rfl
        refine fc_118_3 _ (i3 x1) (i3 x2) (i3 x3) _ _ _ _ hL17 ?_
        obtain ⟨m2, rfl⟩ : ∃ m2, m = m2 + 1 := ⟨m - 1, by omega⟩
        refine wz_kbs (n := 1) (?_)
        exact wz_k1 ⟨m2, by omega, xM9 + 574, Z15, (x3 + 1), (zconso rfl (zconso (zvo (rfl : i3 x1 = i3 x1)) (zconso (zvo (rfl : i3 x2 = i3 x2)) (zconso (zvo (i3A (rfl : i3 x3 = i3 x3) (show (1 : Int32) = i3 1 from rfl))) (zconso rfl (zconso rfl rfl)))))), rfl, by omega, (zbt hZ15I rfl), hZ15K, hZ15U, tZ15_x0b, by omega, by omega,  hP⟩
      · replace hP := zE_n hP h13
        have r20 := zH_k hZ 48 x0b x3 5 (lo := 0) (hi := 12) (by decide) rfl
        have r21 := zH_k hZ 48 x0b x3 2 (lo := 0) (hi := 6) (by decide) rfl
        refine sl_118_2 (ν := ν) (zb0 hZ) (zbh (c := 0) (k := 574) hM9 (Nat.le_of_ble_eq_true rfl)) (xM9 := 0) zC_r x0b (x1 := x1) (by omega) (x2 := x2) (by omega) (x3 := x3) (by omega) (x4 := (min (Z 48 x0b x3 5) (Z 48 x0b x3 2))) (by omega) (x5 := 0) (by omega) zU_r hLtx0b (Nat.le_of_ble_eq_true rfl) (by omega) (zconso rfl (zconso (zvo (rfl : i3 x1 = i3 x1)) (zconso (zvo (rfl : i3 x2 = i3 x2)) (zconso (zvo (rfl : i3 x3 = i3 x3)) (zconso (zvo (i3Mn (zm_rd (Z := Z) (ν := ν) (k := 48) (rfl : ((x0b : Nat) : Int) = x0b) (i3I (y := x3) (rfl : i3 x3 = i3 x3) (by omega) (by omega) (by omega)) (show ((5 : Nat) : Int) = 5 from rfl)) (zm_rd (Z := Z) (ν := ν) (k := 48) (rfl : ((x0b : Nat) : Int) = x0b) (i3I (y := x3) (rfl : i3 x3 = i3 x3) (by omega) (by omega) (by omega)) (show ((2 : Nat) : Int) = 2 from rfl)) (by omega) (by omega) (by omega) (by omega))) (zconso (zvo (show (0 : Int32) = i3 0 from rfl)) rfl)))))) rfl ?_
        intro L24 Z23 y22 hL24 hZ23I kZ23 jZ23 tZ23_x0b gy22 gL24_0 q9
        replace hP := zl_e2 hP (Eq.symm q9)
        clear q9
        have hZ23U : zU [x0b] Zs Z23 := zU_t hU jZ23 (zU_b1 (List.Mem.head _) zU_b0)
        have r25 := zpt_c (b := x0b) kZ23 (by decide)
        have hZ23K : zC [14, 42, 44, 45, 46, 47, 48, 49, 53, 1106, 1112] Zs Z23 := zC_t hK kZ23 (by decide)
        have r26 := zH_k hZ23I 48 x0b x3 5 (lo := 0) (hi := 12) (by decide) rfl
        refine fc_118_3 _ (i3 x1) (i3 x2) (i3 x3) _ _ _ _ hL24 ?_
        obtain ⟨m2, rfl⟩ : ∃ m2, m = m2 + 1 := ⟨m - 1, by omega⟩
        refine wz_kbs (n := 1) (?_)
        exact wz_k1 ⟨m2, by omega, xM9 + 574, Z23, (x3 + 1), (zconso rfl (zconso (zvo (rfl : i3 x1 = i3 x1)) (zconso (zvo (rfl : i3 x2 = i3 x2)) (zconso (zvo (i3A (rfl : i3 x3 = i3 x3) (show (1 : Int32) = i3 1 from rfl))) (zconso rfl (zconso rfl rfl)))))), rfl, by omega, (zbt hZ23I rfl), hZ23K, hZ23U, tZ23_x0b, by omega, by omega,  hP⟩
/- yX6_letHours -/
def zl_118_5 (x0b : Int) (x1 : Int) (x2 : Int) : Nat → qz_Z → Int → Int → qz_Z × Int × Int
  | 0, Z, n8, x3 => (Z, n8, x3)
  | m + 1, Z, n8, x3 => (if (Z 11 x0b 0 8) ≤ x3 then (Z, n8, x3) else (zlet2 (zf_45 Z n8 x0b x3) (fun Z3 n5 => zl_118_5 x0b x1 x2 m Z3 n5 (x3 + 1))))
theorem sl_118_5 {gg : Int} {s : zSM} {Zs Z : qz_Z} {νs : qz_N} {ν : qz_N} (hZ : zH s Z) (hM : s.2 + 0 ≤ 1000000000) (hs : s.1 = none) {n9 n8 : Nat} (hn : ν.2.2.2.1 = n8) (h98 : n9 ≤ n8) (hG : zGl 5 νs ν) (x0b : Nat) {x1 : Int} (gx1 : 1 ≤ x1 ∧ x1 ≤ 72) {x2 : Int} (gx2 : 0 ≤ x2 ∧ x2 ≤ 71) {x3 : Int} (gx3 : 0 ≤ x3 ∧ x3 ≤ 4) (hK : zL [50] [] n9 Zs Z) (hU : zU [x0b] Zs Z) (hLtx0b : zLt x0b Z) (gr0 : zpt Z x0b + n8 ≤ gg) {k : wz_K} {R : wz_R} {L : qz_L} (hL : qz_fg [true, true, true, true, false, false] L = [some (.inr (.inr (some (10, x0b, 0)))), some (.inl (i3 x1)), some (.inl (i3 x2)), some (.inl (i3 x3)), none, none]) {T : qz_Z × Int × Int} (hP : zE T (zl_118_5 x0b x1 x2 ((4 - x3).toNat + 1) Z n8 x3)) (hk : ∀ (L9 : qz_L) (Z9 : qz_Z) (ν9 : qz_N) (n7 : Nat) (yx3 : Int), qz_fg [true, true, true, false, false, false] L9 = [some (.inr (.inr (some (10, x0b, 0)))), some (.inl (i3 x1)), some (.inl (i3 x2)), none, none, none] → zH s Z9 → zL [50] [] n9 Zs Z9 → zU [x0b] Zs Z9 → ν9.2.2.2.1 = n7 → zGl 5 νs ν9 → n9 ≤ n7 → zLt x0b Z9 → (0 ≤ yx3 ∧ yx3 ≤ 4) → (zpt Z9 x0b + n7 ≤ gg) → zE T ((Z9, (n7 : Int), yx3)) → k 0 (L9, [], zm Z9 ν9)) : wz_loop qb_118_5 65536 k R (L, [], zm Z ν) := by
  refine wz_lp sb_118_5 (fun m x => ∃ Z : qz_Z, ∃ ν : qz_N, ∃ n8 : Nat, ∃ x3 : Int, qz_fg [true, true, true, true, false, false] x.1 = [some (.inr (.inr (some (10, x0b, 0)))), some (.inl (i3 x1)), some (.inl (i3 x2)), some (.inl (i3 x3)), none, none] ∧ x.2 = ([], zm Z ν) ∧ zH s Z ∧ zL [50] [] n9 Zs Z ∧ zU [x0b] Zs Z ∧ ν.2.2.2.1 = n8 ∧ n9 ≤ n8 ∧ zGl 5 νs ν ∧ zLt x0b Z ∧ m = (4 - x3).toNat ∧ (0 ≤ x3 ∧ x3 ≤ 4) ∧ (zpt Z x0b + n8 ≤ gg) ∧ zE T (zl_118_5 x0b x1 x2 (m + 1) Z n8 x3)) ?_ 65536 ((4 - x3).toNat) _ (by omega) ⟨Z, ν, n8, x3, hL, rfl, hZ, hK, hU, hn, h98, hG, hLtx0b, rfl, gx3, gr0, hP⟩
  clear hP gr0 gx3 hZ hK hU hn h98 hG hLtx0b hL
  clear x3
  clear Z n8
  clear ν
  rintro m ⟨L, st, μ⟩ ⟨Z, ν, n8, x3, hL, hx, hZ, hK, hU, hn, h98, hG, hLtx0b, hm, gx3, gr0, hP⟩
  cases hx
  refine fb_118_5 x0b (i3 x1) (i3 x2) (i3 x3) _ _ _ _ hL ?_
  have r1 := zH_k hZ 11 x0b 0 8 (lo := 0) (hi := 4) (by decide) rfl
  refine wz_br (i3Le (zm_rd (Z := Z) (ν := ν) (k := 11) (rfl : ((x0b : Nat) : Int) = x0b) (show ((0 : Nat) : Int) = 0 from rfl) (show ((8 : Nat) : Int) = 8 from rfl)) (rfl : i3 x3 = i3 x3) (by omega) (by omega) (by omega) (by omega)) (fun h2 => ?_) (fun h2 => ?_)
  · replace hP := zE_p hP h2
    exact hk _ _ _ _ _ (zconso rfl (zconso (zvo (rfl : i3 x1 = i3 x1)) (zconso (zvo (rfl : i3 x2 = i3 x2)) (zconso rfl (zconso rfl (zconso rfl rfl)))))) hZ hK hU hn hG (by omega) hLtx0b (by omega) (by omega) hP
  · replace hP := zE_n hP h2
    obtain ⟨Z3, ν4, n5, hZ3, c9, hZ3I, kZ3, jZ3, hnν4, gν4, b1ν4, b2ν4, wZ30⟩ := sp_45 (ν := ν) hZ hs hn x0b (a1 := x3) (by omega) (zbh (c := 0) (k := 0) hM (Nat.le_of_ble_eq_true rfl))
    have hZ3U : zU [x0b] Zs Z3 := zU_t hU jZ3 (zU_b1 (List.Mem.head _) zU_b0)
    have hZ3K : zL [50] [] n9 Zs Z3 := zL_t hK kZ3 (by decide) zL_b0 (by omega)
    replace hP := zl_e2 hP hZ3
    refine wz_cV_of (zas (zcons rfl (zcons (zvi (rfl : i3 x3 = i3 x3)) rfl)) c9) ?_
    clear c9
    have hGν4 := zGl_t (K := 5) hG gν4
    obtain ⟨m2, rfl⟩ : ∃ m2, m = m2 + 1 := ⟨m - 1, by omega⟩
    exact wz_k1 ⟨m2, by omega, Z3, ν4, n5, (x3 + 1), (zconso rfl (zconso (zvo (rfl : i3 x1 = i3 x1)) (zconso (zvo (rfl : i3 x2 = i3 x2)) (zconso (zvo (i3A (rfl : i3 x3 = i3 x3) (show (1 : Int32) = i3 1 from rfl))) (zconso rfl (zconso rfl rfl)))))), rfl, hZ3I, hZ3K, hZ3U, hnν4, by omega, hGν4, (zLt_l hLtx0b kZ3 rfl), by omega, by omega, by omega,  hP⟩
/- yX6_letHours -/
def zl_118_9 (x0b : Int) (x1 : Int) : Nat → qz_Z → Int → Int → qz_Z × Int × Int
  | 0, Z, n8, x2 => (Z, n8, x2)
  | m + 1, Z, n8, x2 => (if x1 ≤ x2 then (Z, n8, x2) else (zlet (zu Z 11 x0b 0 13 ((Z 11 x0b 0 13) + 1)) (fun Z3 => (zlet (zf_39 Z3 x0b) (fun Z5 => (zlet (zf_171 Z5 x0b) (fun Z6 => (zlet2 (zl_118_1 x0b x1 x2 3 Z6 0) (fun Z9 y8 => (zlet2 (zl_118_4 x0b x1 x2 3 Z9 0) (fun Z13 y12 => (zlet3 (zl_118_5 x0b x1 x2 5 Z13 n8 0) (fun Z17 n20 y16 => (if ((Z17 11 x0b 0 13) % 24) ≠ 0 then zl_118_9 x0b x1 m Z17 n20 (x2 + 1) else (zlet (zf_17 Z17 x0b) (fun Z24 => (zlet2 (zf_4 Z24 n20 x0b) (fun Z26 n28 => zl_118_9 x0b x1 m Z26 n28 (x2 + 1)))))))))))))))))))
theorem sl_118_9 {gg : Int} {s : zSM} {xM9 : Nat} {Zs Z : qz_Z} {νs : qz_N} {ν : qz_N} (hZ : zH (zb s xM9) Z) (hM : s.2 + 827528 ≤ 1000000000) (hs : s.1 = none) {n9 n8 : Nat} (hn : ν.2.2.2.1 = n8) (h98 : n9 ≤ n8) (hG : zGl 5 νs ν) (x0b : Nat) {x1 : Int} (gx1 : 1 ≤ x1 ∧ x1 ≤ 72) {x2 : Int} (gx2 : 0 ≤ x2 ∧ x2 ≤ 72) (hK : zL [14, 42, 43, 44, 45, 46, 47, 48, 49, 50, 51, 52, 53, 54, 1106, 1111, 1112, 1113] [] n9 Zs Z) (hU : zU [x0b] Zs Z) (hLtx0b : zLt x0b Z) (hx9 : xM9 + 11336 * ((72 - x2).toNat) + 11336 ≤ 827528) (gr0 : zpt Z x0b + n8 ≤ gg) (gr1 : Z 11 x0b 0 13 + (x1 - x2) ≤ 671) {k : wz_K} {R : wz_R} {L : qz_L} (hL : qz_fg [true, true, true, false, false, false] L = [some (.inr (.inr (some (10, x0b, 0)))), some (.inl (i3 x1)), some (.inl (i3 x2)), none, none, none]) {T : qz_Z × Int × Int} (hP : zE T (zl_118_9 x0b x1 ((72 - x2).toNat + 1) Z n8 x2)) (hk : ∀ (L9 : qz_L) (Z9 : qz_Z) (ν9 : qz_N) (n7 : Nat) (yx2 : Int), qz_fg [true, false, false, false, false, false] L9 = [some (.inr (.inr (some (10, x0b, 0)))), none, none, none, none, none] → zH (zb s 827528) Z9 → zL [14, 42, 43, 44, 45, 46, 47, 48, 49, 50, 51, 52, 53, 54, 1106, 1111, 1112, 1113] [] n9 Zs Z9 → zU [x0b] Zs Z9 → ν9.2.2.2.1 = n7 → zGl 5 νs ν9 → n9 ≤ n7 → zLt x0b Z9 → (0 ≤ yx2 ∧ yx2 ≤ 72) → (zpt Z9 x0b + n7 ≤ gg) → (Z9 11 x0b 0 13 + (x1 - yx2) ≤ 671) → zE T ((Z9, (n7 : Int), yx2)) → k 0 (L9, [], zm Z9 ν9)) : wz_loop qb_118_9 65536 k R (L, [], zm Z ν) := by
  refine wz_lp sb_118_9 (fun m x => ∃ xM9 : Nat, ∃ Z : qz_Z, ∃ ν : qz_N, ∃ n8 : Nat, ∃ x2 : Int, qz_fg [true, true, true, false, false, false] x.1 = [some (.inr (.inr (some (10, x0b, 0)))), some (.inl (i3 x1)), some (.inl (i3 x2)), none, none, none] ∧ x.2 = ([], zm Z ν) ∧ xM9 + 11336 * m + 11336 ≤ 827528 ∧ zH (zb s xM9) Z ∧ zL [14, 42, 43, 44, 45, 46, 47, 48, 49, 50, 51, 52, 53, 54, 1106, 1111, 1112, 1113] [] n9 Zs Z ∧ zU [x0b] Zs Z ∧ ν.2.2.2.1 = n8 ∧ n9 ≤ n8 ∧ zGl 5 νs ν ∧ zLt x0b Z ∧ m = (72 - x2).toNat ∧ (0 ≤ x2 ∧ x2 ≤ 72) ∧ (zpt Z x0b + n8 ≤ gg) ∧ (Z 11 x0b 0 13 + (x1 - x2) ≤ 671) ∧ zE T (zl_118_9 x0b x1 (m + 1) Z n8 x2)) ?_ 65536 ((72 - x2).toNat) _ (by omega) ⟨xM9, Z, ν, n8, x2, hL, rfl, hx9, hZ, hK, hU, hn, h98, hG, hLtx0b, rfl, gx2, gr0, gr1, hP⟩
  clear hP gr0 gr1 gx2 hx9 hZ hK hU hn h98 hG hLtx0b hL
  clear x2
  clear Z n8
  clear ν
  clear xM9
  rintro m ⟨L, st, μ⟩ ⟨xM9, Z, ν, n8, x2, hL, hx, hx9, hZ, hK, hU, hn, h98, hG, hLtx0b, hm, gx2, gr0, gr1, hP⟩
  cases hx
  have hM9 : (zb s xM9).2 + 11336 ≤ 1000000000 := by
    show s.2 + xM9 + 11336 ≤ 1000000000
    omega
  refine fb_118_9 x0b (i3 x1) (i3 x2) _ _ _ _ hL ?_
  have r1 := zH_k hZ 11 x0b 0 13 (lo := 0) (hi := 671) (by decide) rfl
  refine wz_br (i3Le (rfl : i3 x1 = i3 x1) (rfl : i3 x2 = i3 x2) (by omega) (by omega) (by omega) (by omega)) (fun h2 => ?_) (fun h2 => ?_)
  · replace hP := zE_p hP h2
    exact hk _ _ _ _ _ (zconso rfl (zconso rfl (zconso rfl (zconso rfl (zconso rfl (zconso rfl rfl)))))) (zbx0 hZ (by omega)) hK hU hn hG (by omega) hLtx0b (by omega) (by omega) (by omega) hP
  · replace hP := zE_n hP h2
    obtain ⟨Z3, hZ3⟩ := zx (zu Z 11 x0b 0 13 ((Z 11 x0b 0 13) + 1))
    replace hP := zl_e hP hZ3
    have hZ3I := zH_u hZ hZ3 (lo := 0) (hi := 671) (by decide) rfl (by omega) ⟨by decide, by decide⟩ (Or.inl (by decide)) rfl
    have hZ3U : zU [x0b] Zs Z3 := zU_u hU hZ3 (Or.inr (List.Mem.head _))
    have r4 := zpt_0 (b := x0b) hZ3 (by decide)
    have hZ3K : zL [14, 42, 43, 44, 45, 46, 47, 48, 49, 50, 51, 52, 53, 54, 1106, 1111, 1112, 1113] [] n9 Zs Z3 := zL_u hK hZ3 (by decide)
    intro μ9 e9
    replace e9 := e9.trans (zm_wI (Z := Z) (ν := ν) hZ3 (rfl : ((x0b : Nat) : Int) = x0b) (show ((0 : Nat) : Int) = 0 from rfl) (show ((13 : Nat) : Int) = 13 from rfl) (i3A (zm_rd (Z := Z) (ν := ν) (k := 11) (rfl : ((x0b : Nat) : Int) = x0b) (show ((0 : Nat) : Int) = 0 from rfl) (show ((13 : Nat) : Int) = 13 from rfl)) (show (1 : Int32) = i3 1 from rfl)))
    subst e9
    obtain ⟨Z5, hZ5, c9, hZ5I, kZ5, jZ5, wZ50⟩ := sp_39 (ν := ν) hZ3I x0b (zbh (c := 0) (k := 5) hM9 (Nat.le_of_ble_eq_true rfl))
    have hZ5U : zU [x0b] Zs Z5 := zU_t hZ3U jZ5 (zU_b1 (List.Mem.head _) zU_b0)
    have hZ5K : zL [14, 42, 43, 44, 45, 46, 47, 48, 49, 50, 51, 52, 53, 54, 1106, 1111, 1112, 1113] [] n9 Zs Z5 := zL_c hZ3K kZ5 (by decide)
    replace hP := zl_e hP hZ5
    refine wz_cV_of (zas (zcons rfl rfl) c9) ?_
    clear c9
    obtain ⟨Z6, hZ6, c9, hZ6I, kZ6, jZ6⟩ := sp_171 (ν := ν) hZ5I x0b (zbh (c := 5) (k := 0) hM9 (Nat.le_of_ble_eq_true rfl))
    have hZ6U : zU [x0b] Zs Z6 := zU_t hZ5U jZ6 (zU_b1 (List.Mem.head _) zU_b0)
    have r7 := zpt_c (b := x0b) kZ6 (by decide)
    have hZ6K : zL [14, 42, 43, 44, 45, 46, 47, 48, 49, 50, 51, 52, 53, 54, 1106, 1111, 1112, 1113] [] n9 Zs Z6 := zL_c hZ5K kZ6 (by decide)
    replace hP := zl_e hP hZ6
    refine wz_cV_of (zas (zcons rfl rfl) c9) ?_
    clear c9
    refine sl_118_1 (ν := ν) (zb0 hZ6I) (zbh (c := 5) (k := 9555) hM9 (Nat.le_of_ble_eq_true rfl)) (xM9 := 0) zC_r x0b (x1 := x1) (by omega) (x2 := x2) (by omega) (x3 := 0) (by omega) zU_r (zLt_c (zLt_c (zLt_o hLtx0b hZ3 ⟨by decide, .inl (by decide)⟩) kZ5 rfl) kZ6 rfl) (Nat.le_of_ble_eq_true rfl)  (zconso rfl (zconso (zvo (rfl : i3 x1 = i3 x1)) (zconso (zvo (rfl : i3 x2 = i3 x2)) (zconso (zvo (show (0 : Int32) = i3 0 from rfl)) (zconso rfl (zconso rfl rfl)))))) rfl ?_
    intro L10 Z9 y8 hL10 hZ9I kZ9 jZ9 tZ9_x0b gy8 q9
    replace hP := zl_e2 hP (Eq.symm q9)
    clear q9
    replace hZ9I := zbt (c := 9560) hZ9I rfl
    have hZ9U : zU [x0b] Zs Z9 := zU_t hZ6U jZ9 (zU_b1 (List.Mem.head _) zU_b0)
    have r11 := zpt_c (b := x0b) kZ9 (by decide)
    have hZ9K : zL [14, 42, 43, 44, 45, 46, 47, 48, 49, 50, 51, 52, 53, 54, 1106, 1111, 1112, 1113] [] n9 Zs Z9 := zL_c hZ6K kZ9 (by decide)
    refine fc_118_8 _ (i3 x1) (i3 x2) _ _ _ _ hL10 ?_
    refine sl_118_4 (ν := ν) (zb0 hZ9I) (zbh (c := 9560) (k := 1722) hM9 (Nat.le_of_ble_eq_true rfl)) (xM9 := 0) zC_r x0b (x1 := x1) (by omega) (x2 := x2) (by omega) (x3 := 0) (by omega) zU_r tZ9_x0b (Nat.le_of_ble_eq_true rfl)  (zconso rfl (zconso (zvo (rfl : i3 x1 = i3 x1)) (zconso (zvo (rfl : i3 x2 = i3 x2)) (zconso (zvo (show (0 : Int32) = i3 0 from rfl)) (zconso rfl (zconso rfl rfl)))))) rfl ?_
    intro L14 Z13 y12 hL14 hZ13I kZ13 jZ13 tZ13_x0b gy12 q9
    replace hP := zl_e2 hP (Eq.symm q9)
    clear q9
    replace hZ13I := zbt (c := 11282) hZ13I rfl
    have hZ13U : zU [x0b] Zs Z13 := zU_t hZ9U jZ13 (zU_b1 (List.Mem.head _) zU_b0)
    have r15 := zpt_c (b := x0b) kZ13 (by decide)
    have hZ13K : zL [14, 42, 43, 44, 45, 46, 47, 48, 49, 50, 51, 52, 53, 54, 1106, 1111, 1112, 1113] [] n9 Zs Z13 := zL_c hZ9K kZ13 (by decide)
    refine fc_118_7 _ (i3 x1) (i3 x2) _ _ _ _ hL14 ?_
    refine sl_118_5 (ν := ν) hZ13I (zbh (c := 11282) (k := 0) hM9 (Nat.le_of_ble_eq_true rfl)) hs hn (Nat.le_refl _) zGl_r x0b (x1 := x1) (by omega) (x2 := x2) (by omega) (x3 := 0) (by omega) zL_r zU_r tZ13_x0b (gg := zpt Z13 x0b + n8) (by omega) (zconso rfl (zconso (zvo (rfl : i3 x1 = i3 x1)) (zconso (zvo (rfl : i3 x2 = i3 x2)) (zconso (zvo (show (0 : Int32) = i3 0 from rfl)) (zconso rfl (zconso rfl rfl)))))) rfl ?_
    intro L18 Z17 ν19 n20 y16 hL18 hZ17I kZ17 jZ17 hnν19 gν19 b1ν19 tZ17_x0b gy16 gL18_0 q9
    replace hP := zl_e3 hP (Eq.symm q9)
    clear q9
    have hZ17U : zU [x0b] Zs Z17 := zU_t hZ13U jZ17 (zU_b1 (List.Mem.head _) zU_b0)
    have hZ17K : zL [14, 42, 43, 44, 45, 46, 47, 48, 49, 50, 51, 52, 53, 54, 1106, 1111, 1112, 1113] [] n9 Zs Z17 := zL_t hZ13K kZ17 (by decide) zL_b0 (by omega)
    have hGν19 := zGl_t hG gν19
    refine fc_118_6 _ (i3 x1) (i3 x2) _ _ _ _ hL18 ?_
    have r21 := zH_k hZ17I 11 x0b 0 13 (lo := 0) (hi := 671) (by decide) rfl
    have q22 := (zL_e kZ17 11 x0b 0 13 (by decide) (by decide)).trans ((kZ13 11 x0b 0 13 (by decide)).trans ((kZ9 11 x0b 0 13 (by decide)).trans ((kZ6 11 x0b 0 13 (by decide)).trans ((kZ5 11 x0b 0 13 (by decide)).trans (zu_at hZ3)))))
    refine wz_br (i3NE (i3R (zm_rd (Z := Z17) (ν := ν19) (k := 11) (rfl : ((x0b : Nat) : Int) = x0b) (show ((0 : Nat) : Int) = 0 from rfl) (show ((13 : Nat) : Int) = 13 from rfl)) (show (24 : Int32) = i3 24 from rfl) (by omega) (by omega) (by omega) (by omega)) (show (0 : Int32) = i3 0 from rfl) (by omega) (by omega) (by omega) (by omega)) (fun h23 => ?_) (fun h23 => ?_)
    · replace hP := zE_p hP h23
      obtain ⟨m2, rfl⟩ : ∃ m2, m = m2 + 1 := ⟨m - 1, by omega⟩
      refine wz_kbs (n := 1) (?_)
      exact wz_k1 ⟨m2, by omega, xM9 + 11282, Z17, ν19, n20, (x2 + 1), (zconso rfl (zconso (zvo (rfl : i3 x1 = i3 x1)) (zconso (zvo (i3A (rfl : i3 x2 = i3 x2) (show (1 : Int32) = i3 1 from rfl))) (zconso rfl (zconso rfl (zconso rfl rfl)))))), rfl, by omega, (zbt hZ17I rfl), hZ17K, hZ17U, hnν19, by omega, hGν19, tZ17_x0b, by omega, by omega, by omega, by omega,  hP⟩
    · replace hP := zE_n hP h23
      obtain ⟨Z24, hZ24, c9, hZ24I, kZ24, jZ24⟩ := sp_17 (ν := ν19) hZ17I x0b (zbh (c := 11282) (k := 0) hM9 (Nat.le_of_ble_eq_true rfl))
      have hZ24U : zU [x0b] Zs Z24 := zU_t hZ17U jZ24 (zU_b1 (List.Mem.head _) zU_b0)
      have r25 := zpt_c (b := x0b) kZ24 (by decide)
      have hZ24K : zL [14, 42, 43, 44, 45, 46, 47, 48, 49, 50, 51, 52, 53, 54, 1106, 1111, 1112, 1113] [] n9 Zs Z24 := zL_c hZ17K kZ24 (by decide)
      replace hP := zl_e hP hZ24
      refine wz_cV_of (zas (zcons rfl rfl) c9) ?_
      clear c9
      obtain ⟨Z26, ν27, n28, hZ26, c9, hZ26I, kZ26, jZ26, hnν27, gν27, b1ν27, wZ260⟩ := sp_4 (ν := ν19) hZ24I hs hnν19 x0b (zbh (c := 11282) (k := 54) hM9 (Nat.le_of_ble_eq_true rfl))
      have hZ26U : zU [x0b] Zs Z26 := zU_t hZ24U jZ26 (zU_b1 (List.Mem.head _) zU_b0)
      have hZ26K : zL [14, 42, 43, 44, 45, 46, 47, 48, 49, 50, 51, 52, 53, 54, 1106, 1111, 1112, 1113] [] n9 Zs Z26 := zL_t hZ24K kZ26 (by decide) zL_b0 (by omega)
      replace hZ26I := zbt (c := 11336) hZ26I rfl
      replace hP := zl_e2 hP hZ26
      refine wz_cV_of (zas (zcons rfl rfl) c9) ?_
      clear c9
      have hGν27 := zGl_t (K := 5) hGν19 gν27
      have r29 := zH_k hZ26I 11 x0b 0 13 (lo := 0) (hi := 671) (by decide) rfl
      have q30 := (zL_e kZ26 11 x0b 0 13 (by decide) (by decide)).trans (kZ24 11 x0b 0 13 (by decide))
      obtain ⟨m2, rfl⟩ : ∃ m2, m = m2 + 1 := ⟨m - 1, by omega⟩
      refine wz_kbs (n := 1) (?_)
      exact wz_k1 ⟨m2, by omega, xM9 + 11336, Z26, ν27, n28, (x2 + 1), (zconso rfl (zconso (zvo (rfl : i3 x1 = i3 x1)) (zconso (zvo (i3A (rfl : i3 x2 = i3 x2) (show (1 : Int32) = i3 1 from rfl))) (zconso rfl (zconso rfl (zconso rfl rfl)))))), rfl, by omega, (zbt hZ26I rfl), hZ26K, hZ26U, hnν27, by omega, hGν27, (zLt_l (zLt_c tZ17_x0b kZ24 rfl) kZ26 rfl), by omega, by omega, by omega, by omega,  hP⟩
/- yX6_letHours -/
def zf_118 (Z : qz_Z) (n9 : Int) (hb : Int) (a1 : Int) : qz_Z × Int × Int := (zlet3 (zl_118_9 hb a1 73 Z n9 0) (fun Z3 n6 y2 => (Z3, n6, (Z3 11 hb 0 13))))
theorem sp_118 {s : zSM} {Z : qz_Z} {ν : qz_N} (hZ : zH s Z) (hs : s.1 = none) {n9 : Nat} (hn : ν.2.2.2.1 = n9) (hb : Nat) {a1 : Int} (ga1 : 1 ≤ a1 ∧ a1 ≤ 72) (gx0 : Z 11 hb 0 13 + a1 ≤ 671) (hLthb : zLt hb Z) (hM : s.2 + 827528 ≤ 1000000000) : ∃ (Z1 : qz_Z) (ν1 : qz_N) (n1 : Nat) (P : Int), (Z1, (n1 : Int), P) = zf_118 Z n9 hb a1 ∧ (qf_118 [.inr (.inr (some (10, hb, 0))), .inl (i3 a1)] (zm Z ν) = some (zm Z1 ν1, .inl (some (.inl (i3 P)))) ∧ zH (zb s 827528) Z1 ∧ zL [14, 42, 43, 44, 45, 46, 47, 48, 49, 50, 51, 52, 53, 54, 1106, 1111, 1112, 1113] [] n9 Z Z1 ∧ zU [hb] Z Z1 ∧ ν1.2.2.2.1 = n1 ∧ zGl 5 ν ν1 ∧ n9 ≤ n1 ∧ 0 ≤ P ∧ P ≤ 671 ∧ zLt hb Z1 ∧ zpt Z1 hb + n1 ≤ zpt Z hb + n9) := by
  obtain ⟨P, hP⟩ := zx (zf_118 Z n9 hb a1)
  refine zc_Wn (Q := fun Z1 ν1 n1 P => zH (zb s 827528) Z1 ∧ zL [14, 42, 43, 44, 45, 46, 47, 48, 49, 50, 51, 52, 53, 54, 1106, 1111, 1112, 1113] [] n9 Z Z1 ∧ zU [hb] Z Z1 ∧ ν1.2.2.2.1 = n1 ∧ zGl 5 ν ν1 ∧ n9 ≤ n1 ∧ 0 ≤ P ∧ P ≤ 671 ∧ zLt hb Z1 ∧ zpt Z1 hb + n1 ≤ zpt Z hb + n9) hP (fw_118 hb (i3 a1) _ _ ?_)
  replace hP : zE P (zf_118 Z n9 hb a1) := hP
  unfold zf_118 at hP
  have r1 := zH_k hZ 11 hb 0 13 (lo := 0) (hi := 671) (by decide) rfl
  refine sl_118_9 (ν := ν) (zb0 hZ) (zbh (c := 0) (k := 827528) hM (Nat.le_of_ble_eq_true rfl)) (xM9 := 0) hs hn (Nat.le_refl _) zGl_r hb (x1 := a1) (by omega) (x2 := 0) (by omega) zL_r zU_r hLthb (gg := zpt Z hb + n9) (Nat.le_of_ble_eq_true rfl) (by omega) (by omega) (zconso rfl (zconso (zvo (rfl : i3 a1 = i3 a1)) (zconso (zvo (show (0 : Int32) = i3 0 from rfl)) (zconso rfl (zconso rfl (zconso rfl rfl)))))) rfl ?_
  intro L4 Z3 ν5 n6 y2 hL4 hZ3I kZ3 jZ3 hnν5 gν5 b1ν5 tZ3_x0b gy2 gL4_0 gL4_1 q9
  replace hP := zl_e3 hP (Eq.symm q9)
  clear q9
  have hZ3U : zU [hb] Z Z3 := zU_t zU_r jZ3 (zU_b1 (List.Mem.head _) zU_b0)
  have hZ3K : zL [14, 42, 43, 44, 45, 46, 47, 48, 49, 50, 51, 52, 53, 54, 1106, 1111, 1112, 1113] [] n9 Z Z3 := zL_t zL_r kZ3 (by decide) zL_b0 (by omega)
  have hGν5 := zGl_t zGl_r gν5
  have r7 := zH_k hZ3I 11 hb 0 13 (lo := 0) (hi := 671) (by decide) rfl
  refine fc_118_10 _ _ _ _ _ hL4 ?_
  exact zlWn hP (zm_rd (Z := Z3) (ν := ν5) (k := 11) (rfl : ((hb : Nat) : Int) = hb) (show ((0 : Nat) : Int) = 0 from rfl) (show ((13 : Nat) : Int) = 13 from rfl)) ⟨hZ3I, hZ3K, hZ3U, hnν5, hGν5, by omega, by omega, by omega, tZ3_x0b, by omega⟩
/- yX11_buyer -/
def zx_191 (Z : qz_Z) (a1 : Int) (a2 : Int) (a3 : Int) : qz_Z × Int × Int := (if 0 ≤ a1 ∧ a1 < 5 then (if 0 ≤ a2 ∧ a2 ≤ 9999999 then (if 0 ≤ a3 ∧ a3 ≤ 14 then (if 8 ≤ (Z 11 0 0 4) then (Z, 0, 15) else (zlet (zdd Z 10 a1 a2 a3 0 0 0) (fun Z8 => (zlet (zu Z8 45 0 (Z8 11 0 0 4) 0 a1) (fun Z11 => (zlet (zu Z11 45 0 (Z8 11 0 0 4) 1 a2) (fun Z12 => (zlet (zu Z12 45 0 (Z8 11 0 0 4) 2 a3) (fun Z13 => (zlet (zu Z13 11 0 0 4 ((Z13 11 0 0 4) + 1)) (fun Z16 => (Z16, (Z13 11 0 0 4), 0)))))))))))) else (Z, 0, 13)) else (Z, 0, 13)) else (Z, 0, 24))
theorem sx_191 {M : Nat} {Z : qz_Z} {ν : qz_N} (hZ : zH ((none, M) : zSM) Z) (hM : ((none, M) : zSM).2 + 0 ≤ 1000000000) {a1 : Int} (ga1 : -2147483648 ≤ a1 ∧ a1 ≤ 2147483647) {a2 : Int} (ga2 : -2147483648 ≤ a2 ∧ a2 ≤ 2147483647) {a3 : Int} (ga3 : -2147483648 ≤ a3 ∧ a3 ≤ 2147483647) : ∃ (Z1 : qz_Z) (ν1 : qz_N) (v E : Int), (Z1, v, E) = zx_191 Z a1 a2 a3 ∧ qf_191 [.inr (.inr (some (0, 0, 0))), .inl (i3 a1), .inl (i3 a2), .inl (i3 a3)] (zm Z ν) = some (zm Z1 ν1, zoX v E) ∧ (fun Z1 ν1 => zH ((none, M) : zSM) Z1 ∧ zC [3, 12, 13, 14, 40, 41, 42, 43, 44, 45, 46, 47, 48, 49, 50, 51, 52, 53, 54, 61, 68, 1099, 1100, 1101, 1102, 1103, 1104, 1105, 1106, 1107, 1108, 1109, 1110, 1111, 1112, 1113, 1114, 1115, 1116] Z Z1 ∧ zU [0, 2, 3, 4, 5, 6, 7, 8, 9] Z Z1 ∧ zG 1 6 ν ν1) Z1 ν1 := by
  obtain ⟨P, hP⟩ := zx (zx_191 Z a1 a2 a3)
  refine zc_G (Q := fun Z1 ν1 => zH ((none, M) : zSM) Z1 ∧ zC [3, 12, 13, 14, 40, 41, 42, 43, 44, 45, 46, 47, 48, 49, 50, 51, 52, 53, 54, 61, 68, 1099, 1100, 1101, 1102, 1103, 1104, 1105, 1106, 1107, 1108, 1109, 1110, 1111, 1112, 1113, 1114, 1115, 1116] Z Z1 ∧ zU [0, 2, 3, 4, 5, 6, 7, 8, 9] Z Z1 ∧ zG 1 6 ν ν1) hP (fw_191 (i3 a1) (i3 a2) (i3 a3) _ _ ?_)
  replace hP : zE P (zx_191 Z a1 a2 a3) := hP
  unfold zx_191 at hP
  refine wz_thing (rfl : i3 a1 = i3 a1) (show (5 : Int32) = i3 5 from rfl) (by omega) (by omega) (by omega) (by omega) (fun h1 => ?_) (fun h1 => ?_)
  · replace hP := zE_p hP h1
    refine wz_inR (rfl : i3 a2 = i3 a2) (show (0 : Int32) = i3 0 from rfl) (show (9999999 : Int32) = i3 9999999 from rfl) (by omega) (by omega) (by omega) (by omega) (by omega) (by omega) (fun h2 => ?_) (fun h2 => ?_)
    · replace hP := zE_p hP h2
      refine wz_inR (rfl : i3 a3 = i3 a3) (show (0 : Int32) = i3 0 from rfl) (show (14 : Int32) = i3 14 from rfl) (by omega) (by omega) (by omega) (by omega) (by omega) (by omega) (fun h3 => ?_) (fun h3 => ?_)
      · replace hP := zE_p hP h3
        have r4 := zH_k hZ 11 0 0 4 (lo := 0) (hi := 8) (by decide) rfl
        refine wz_br (i3Le (show (8 : Int32) = i3 8 from rfl) (zm_rd (Z := Z) (ν := ν) (k := 11) (show ((0 : Nat) : Int) = 0 from rfl) (show ((0 : Nat) : Int) = 0 from rfl) (show ((4 : Nat) : Int) = 4 from rfl)) (by omega) (by omega) (by omega) (by omega)) (fun h5 => ?_) (fun h5 => ?_)
        · replace hP := zE_p hP h5
          refine wz_inT_n (show (0 : Int32) = i3 0 from rfl) (by omega) (by omega) (by omega) ?_
          exact zlGe (E := 14) hP ⟨hZ, zC_r, zU_r, zG_w (zG_k rfl) (Nat.le_of_ble_eq_true rfl) (Nat.le_of_ble_eq_true rfl)⟩
        · replace hP := zE_n hP h5
          refine wz_inT_y (show (1 : Int32) = i3 1 from rfl) (by omega) (by omega) (by omega) ?_
          refine dc_J (zcons rfl (zcons (zvi (show (10 : Int32) = i3 10 from rfl)) (zcons (zvi (rfl : i3 a1 = i3 a1)) (zcons (zvi (rfl : i3 a2 = i3 a2)) (zcons (zvi (rfl : i3 a3 = i3 a3)) (zcons (zvi (show (0 : Int32) = i3 0 from rfl)) (zcons (zvi (show (0 : Int32) = i3 0 from rfl)) (zcons (zvi (show (0 : Int32) = i3 0 from rfl)) rfl)))))))) (dg (hZ).1 (by omega) (by omega) (by omega) (by omega) (by omega) (by omega) (by omega) ?_)
          have hZ8I := zH_dd hZ (a1 := 10) (a2 := a1) (a3 := a2) (a4 := a3) (a5 := 0) (a6 := 0) (a7 := 0) (by omega) (by omega) (by omega) (by omega) (by omega) (by omega) (by omega)
          have kZ8 : zC [3, 12, 13, 14, 40, 41, 42, 43, 44, 45, 46, 47, 48, 49, 50, 51, 52, 53, 54, 61, 68, 1099, 1100, 1101, 1102, 1103, 1104, 1105, 1106, 1107, 1108, 1109, 1110, 1111, 1112, 1113, 1114, 1115, 1116] Z (zdd Z 10 a1 a2 a3 0 0 0) := zC_k zdd_K (by decide) (by decide)
          have hZ8A : (zdd Z 10 a1 a2 a3 0 0 0) 68 0 0 0 = 10 ∧ (zdd Z 10 a1 a2 a3 0 0 0) 68 0 0 1 = a1 ∧ (zdd Z 10 a1 a2 a3 0 0 0) 68 0 0 2 = a2 ∧ (zdd Z 10 a1 a2 a3 0 0 0) 68 0 0 3 = a3 ∧ (zdd Z 10 a1 a2 a3 0 0 0) 68 0 0 4 = 0 ∧ (zdd Z 10 a1 a2 a3 0 0 0) 68 0 0 5 = 0 ∧ (zdd Z 10 a1 a2 a3 0 0 0) 68 0 0 6 = 0 := ⟨zdd_68, zdd_68, zdd_68, zdd_68, zdd_68, zdd_68, zdd_68⟩
          obtain ⟨Z8, hZ8⟩ := zx (zdd Z 10 a1 a2 a3 0 0 0)
          have dZ8 : ∀ {k : Nat} {i j : Int}, zhall k = true → ¬ (k = 11 ∧ (j = 15 ∨ j = 16)) → Z8 k 0 i j = Z k 0 i j := fun hk hj => by rw [hZ8]; exact zdd_h (hZ).1 hk hj
          have jZ8 : zU [0, 2, 3, 4, 5, 6, 7, 8, 9] Z (zdd Z 10 a1 a2 a3 0 0 0) := zU_dd (hZ).1
          rw [← hZ8] at hZ8I kZ8 jZ8 hZ8A ⊢
          have hZ8U : zU [0, 2, 3, 4, 5, 6, 7, 8, 9] Z Z8 := zU_t zU_r jZ8 (zU_b1 (List.Mem.head _) (zU_b1 (List.Mem.tail _ (List.Mem.head _)) (zU_b1 (List.Mem.tail _ (List.Mem.tail _ (List.Mem.head _))) (zU_b1 (List.Mem.tail _ (List.Mem.tail _ (List.Mem.tail _ (List.Mem.head _)))) (zU_b1 (List.Mem.tail _ (List.Mem.tail _ (List.Mem.tail _ (List.Mem.tail _ (List.Mem.head _))))) (zU_b1 (List.Mem.tail _ (List.Mem.tail _ (List.Mem.tail _ (List.Mem.tail _ (List.Mem.tail _ (List.Mem.head _)))))) (zU_b1 (List.Mem.tail _ (List.Mem.tail _ (List.Mem.tail _ (List.Mem.tail _ (List.Mem.tail _ (List.Mem.tail _ (List.Mem.head _))))))) (zU_b1 (List.Mem.tail _ (List.Mem.tail _ (List.Mem.tail _ (List.Mem.tail _ (List.Mem.tail _ (List.Mem.tail _ (List.Mem.tail _ (List.Mem.head _)))))))) (zU_b1 (List.Mem.tail _ (List.Mem.tail _ (List.Mem.tail _ (List.Mem.tail _ (List.Mem.tail _ (List.Mem.tail _ (List.Mem.tail _ (List.Mem.tail _ (List.Mem.head _))))))))) zU_b0)))))))))
          replace hP := zl_e hP hZ8
          have hZ8K : zC [3, 12, 13, 14, 40, 41, 42, 43, 44, 45, 46, 47, 48, 49, 50, 51, 52, 53, 54, 61, 68, 1099, 1100, 1101, 1102, 1103, 1104, 1105, 1106, 1107, 1108, 1109, 1110, 1111, 1112, 1113, 1114, 1115, 1116] Z Z8 := zC_t zC_r kZ8 (by decide)
          clear kZ8 hZ8
          refine fw_121 _ _ _ _ ?_
          refine wz_i1 rfl ?_
          refine wz_i0 (i3O (n := 7) (show (0 : Int32) = i3 0 from rfl) (by omega) (by omega) (by omega)) ?_
          refine wz_i0 (Eq.trans (i3To (Eq.trans (zm_rd (Z := Z8) (ν := ν) (k := 68) (show ((0 : Nat) : Int) = 0 from rfl) (show ((0 : Nat) : Int) = 0 from rfl) (show ((0 : Nat) : Int) = 0 from rfl)) (congrArg i3 ((hZ8A.1)))) (by omega) (by omega)) (decide_eq_false (by omega))) ?_
          refine wz_i0 (Eq.trans (i3T (Eq.trans (zm_rd (Z := Z8) (ν := ν) (k := 68) (show ((0 : Nat) : Int) = 0 from rfl) (show ((0 : Nat) : Int) = 0 from rfl) (show ((0 : Nat) : Int) = 0 from rfl)) (congrArg i3 ((hZ8A.1)))) (by omega) (by omega)) (decide_eq_false (by omega))) ?_
          refine wz_i0 (Eq.trans (i3T (Eq.trans (zm_rd (Z := Z8) (ν := ν) (k := 68) (show ((0 : Nat) : Int) = 0 from rfl) (show ((0 : Nat) : Int) = 0 from rfl) (show ((0 : Nat) : Int) = 0 from rfl)) (congrArg i3 ((hZ8A.1)))) (by omega) (by omega)) (decide_eq_false (by omega))) ?_
          refine wz_i0 (Eq.trans (i3T (Eq.trans (zm_rd (Z := Z8) (ν := ν) (k := 68) (show ((0 : Nat) : Int) = 0 from rfl) (show ((0 : Nat) : Int) = 0 from rfl) (show ((0 : Nat) : Int) = 0 from rfl)) (congrArg i3 ((hZ8A.1)))) (by omega) (by omega)) (decide_eq_false (by omega))) ?_
          refine wz_i0 (Eq.trans (i3T (Eq.trans (zm_rd (Z := Z8) (ν := ν) (k := 68) (show ((0 : Nat) : Int) = 0 from rfl) (show ((0 : Nat) : Int) = 0 from rfl) (show ((0 : Nat) : Int) = 0 from rfl)) (congrArg i3 ((hZ8A.1)))) (by omega) (by omega)) (decide_eq_false (by omega))) ?_
          refine wz_i0 (Eq.trans (i3T (Eq.trans (zm_rd (Z := Z8) (ν := ν) (k := 68) (show ((0 : Nat) : Int) = 0 from rfl) (show ((0 : Nat) : Int) = 0 from rfl) (show ((0 : Nat) : Int) = 0 from rfl)) (congrArg i3 ((hZ8A.1)))) (by omega) (by omega)) (decide_eq_false (by omega))) ?_
          refine wz_i0 (Eq.trans (i3T (Eq.trans (zm_rd (Z := Z8) (ν := ν) (k := 68) (show ((0 : Nat) : Int) = 0 from rfl) (show ((0 : Nat) : Int) = 0 from rfl) (show ((0 : Nat) : Int) = 0 from rfl)) (congrArg i3 ((hZ8A.1)))) (by omega) (by omega)) (decide_eq_false (by omega))) ?_
          refine wz_i0 (Eq.trans (i3T (Eq.trans (zm_rd (Z := Z8) (ν := ν) (k := 68) (show ((0 : Nat) : Int) = 0 from rfl) (show ((0 : Nat) : Int) = 0 from rfl) (show ((0 : Nat) : Int) = 0 from rfl)) (congrArg i3 ((hZ8A.1)))) (by omega) (by omega)) (decide_eq_false (by omega))) ?_
          refine wz_i0 (Eq.trans (i3T (Eq.trans (zm_rd (Z := Z8) (ν := ν) (k := 68) (show ((0 : Nat) : Int) = 0 from rfl) (show ((0 : Nat) : Int) = 0 from rfl) (show ((0 : Nat) : Int) = 0 from rfl)) (congrArg i3 ((hZ8A.1)))) (by omega) (by omega)) (decide_eq_false (by omega))) ?_
          refine wz_i0 (Eq.trans (i3T (Eq.trans (zm_rd (Z := Z8) (ν := ν) (k := 68) (show ((0 : Nat) : Int) = 0 from rfl) (show ((0 : Nat) : Int) = 0 from rfl) (show ((0 : Nat) : Int) = 0 from rfl)) (congrArg i3 ((hZ8A.1)))) (by omega) (by omega)) (decide_eq_false (by omega))) ?_
          refine wz_i0 (Eq.trans (i3T (Eq.trans (zm_rd (Z := Z8) (ν := ν) (k := 68) (show ((0 : Nat) : Int) = 0 from rfl) (show ((0 : Nat) : Int) = 0 from rfl) (show ((0 : Nat) : Int) = 0 from rfl)) (congrArg i3 ((hZ8A.1)))) (by omega) (by omega)) (decide_eq_false (by omega))) ?_
          refine wz_i1 (Eq.trans (i3T (Eq.trans (zm_rd (Z := Z8) (ν := ν) (k := 68) (show ((0 : Nat) : Int) = 0 from rfl) (show ((0 : Nat) : Int) = 0 from rfl) (show ((0 : Nat) : Int) = 0 from rfl)) (congrArg i3 ((hZ8A.1)))) (by omega) (by omega)) (decide_eq_true (by omega))) ?_
          refine wz_i1 rfl ?_
          refine wz_i0 (i3O (n := 7) (show (1 : Int32) = i3 1 from rfl) (by omega) (by omega) (by omega)) ?_
          refine wz_i1 rfl ?_
          refine wz_i0 (i3O (n := 7) (show (2 : Int32) = i3 2 from rfl) (by omega) (by omega) (by omega)) ?_
          refine wz_i1 rfl ?_
          refine wz_i0 (i3O (n := 7) (show (3 : Int32) = i3 3 from rfl) (by omega) (by omega) (by omega)) ?_
          have r9 := zH_k hZ8I 11 0 0 4 (lo := 0) (hi := 8) (by decide) rfl
          have q10 := dZ8 (k := 11) (i := 0) (j := 4) (by decide) (by omega)
          refine wz_i0 (i3O (n := 8) (zm_rd (Z := Z8) (ν := ν) (k := 11) (show ((0 : Nat) : Int) = 0 from rfl) (show ((0 : Nat) : Int) = 0 from rfl) (show ((4 : Nat) : Int) = 4 from rfl)) (by omega) (by omega) (by omega)) ?_
          obtain ⟨Z11, hZ11⟩ := zx (zu Z8 45 0 (Z8 11 0 0 4) 0 a1)
          replace hP := zl_e hP hZ11
          have hZ11I := zH_u hZ8I hZ11 (lo := 0) (hi := 4) (by decide) rfl (by omega) ⟨by decide, by decide⟩ (Or.inl (by decide)) rfl
          have hZ11U : zU [0, 2, 3, 4, 5, 6, 7, 8, 9] Z Z11 := zU_u hZ8U hZ11 (Or.inr (List.Mem.head _))
          have hZ11K : zC [3, 12, 13, 14, 40, 41, 42, 43, 44, 45, 46, 47, 48, 49, 50, 51, 52, 53, 54, 61, 68, 1099, 1100, 1101, 1102, 1103, 1104, 1105, 1106, 1107, 1108, 1109, 1110, 1111, 1112, 1113, 1114, 1115, 1116] Z Z11 := zC_u hZ8K hZ11 (by decide)
          intro μ9 e9
          replace e9 := e9.trans (zm_wI (Z := Z8) (ν := ν) hZ11 (show ((0 : Nat) : Int) = 0 from rfl) (i3I (y := (Z8 11 0 0 4)) (zm_rd (Z := Z8) (ν := ν) (k := 11) (show ((0 : Nat) : Int) = 0 from rfl) (show ((0 : Nat) : Int) = 0 from rfl) (show ((4 : Nat) : Int) = 4 from rfl)) (by omega) (by omega) (by omega)) (show ((0 : Nat) : Int) = 0 from rfl) (Eq.trans (zm_rd (Z := Z8) (ν := ν) (k := 68) (show ((0 : Nat) : Int) = 0 from rfl) (show ((0 : Nat) : Int) = 0 from rfl) (show ((1 : Nat) : Int) = 1 from rfl)) (congrArg i3 ((hZ8A.2.1)))))
          subst e9
          obtain ⟨Z12, hZ12⟩ := zx (zu Z11 45 0 (Z8 11 0 0 4) 1 a2)
          replace hP := zl_e hP hZ12
          have hZ12I := zH_u hZ11I hZ12 (lo := 0) (hi := 9999999) (by decide) rfl (by omega) ⟨by decide, by decide⟩ (Or.inl (by decide)) rfl
          have hZ12U : zU [0, 2, 3, 4, 5, 6, 7, 8, 9] Z Z12 := zU_u hZ11U hZ12 (Or.inr (List.Mem.head _))
          have hZ12K : zC [3, 12, 13, 14, 40, 41, 42, 43, 44, 45, 46, 47, 48, 49, 50, 51, 52, 53, 54, 61, 68, 1099, 1100, 1101, 1102, 1103, 1104, 1105, 1106, 1107, 1108, 1109, 1110, 1111, 1112, 1113, 1114, 1115, 1116] Z Z12 := zC_u hZ11K hZ12 (by decide)
          intro μ9 e9
          replace e9 := e9.trans (zm_wI (Z := Z11) (ν := ν) hZ12 (show ((0 : Nat) : Int) = 0 from rfl) (i3I (y := (Z8 11 0 0 4)) (zm_rd (Z := Z8) (ν := ν) (k := 11) (show ((0 : Nat) : Int) = 0 from rfl) (show ((0 : Nat) : Int) = 0 from rfl) (show ((4 : Nat) : Int) = 4 from rfl)) (by omega) (by omega) (by omega)) (show ((1 : Nat) : Int) = 1 from rfl) (Eq.trans (zm_rd (Z := Z8) (ν := ν) (k := 68) (show ((0 : Nat) : Int) = 0 from rfl) (show ((0 : Nat) : Int) = 0 from rfl) (show ((2 : Nat) : Int) = 2 from rfl)) (congrArg i3 ((hZ8A.2.2.1)))))
          subst e9
          obtain ⟨Z13, hZ13⟩ := zx (zu Z12 45 0 (Z8 11 0 0 4) 2 a3)
          replace hP := zl_e hP hZ13
          have hZ13I := zH_u hZ12I hZ13 (lo := 0) (hi := 14) (by decide) rfl (by omega) ⟨by decide, by decide⟩ (Or.inl (by decide)) rfl
          have hZ13U : zU [0, 2, 3, 4, 5, 6, 7, 8, 9] Z Z13 := zU_u hZ12U hZ13 (Or.inr (List.Mem.head _))
          have hZ13K : zC [3, 12, 13, 14, 40, 41, 42, 43, 44, 45, 46, 47, 48, 49, 50, 51, 52, 53, 54, 61, 68, 1099, 1100, 1101, 1102, 1103, 1104, 1105, 1106, 1107, 1108, 1109, 1110, 1111, 1112, 1113, 1114, 1115, 1116] Z Z13 := zC_u hZ12K hZ13 (by decide)
          intro μ9 e9
          replace e9 := e9.trans (zm_wI (Z := Z12) (ν := ν) hZ13 (show ((0 : Nat) : Int) = 0 from rfl) (i3I (y := (Z8 11 0 0 4)) (zm_rd (Z := Z8) (ν := ν) (k := 11) (show ((0 : Nat) : Int) = 0 from rfl) (show ((0 : Nat) : Int) = 0 from rfl) (show ((4 : Nat) : Int) = 4 from rfl)) (by omega) (by omega) (by omega)) (show ((2 : Nat) : Int) = 2 from rfl) (Eq.trans (zm_rd (Z := Z8) (ν := ν) (k := 68) (show ((0 : Nat) : Int) = 0 from rfl) (show ((0 : Nat) : Int) = 0 from rfl) (show ((3 : Nat) : Int) = 3 from rfl)) (congrArg i3 ((hZ8A.2.2.2.1)))))
          subst e9
          have r14 := zH_k hZ13I 11 0 0 4 (lo := 0) (hi := 8) (by decide) rfl
          have q15 := (zu_ne (k' := 11) (b' := 0) (i' := 0) (j' := 4) hZ13 (fun q => absurd q.1 (by decide))).trans ((zu_ne (k' := 11) (b' := 0) (i' := 0) (j' := 4) hZ12 (fun q => absurd q.1 (by decide))).trans (zu_ne (k' := 11) (b' := 0) (i' := 0) (j' := 4) hZ11 (fun q => absurd q.1 (by decide))))
          obtain ⟨Z16, hZ16⟩ := zx (zu Z13 11 0 0 4 ((Z13 11 0 0 4) + 1))
          replace hP := zl_e hP hZ16
          have hZ16I := zH_u hZ13I hZ16 (lo := 0) (hi := 8) (by decide) rfl (by omega) ⟨by decide, by decide⟩ (Or.inl (by decide)) rfl
          have hZ16U : zU [0, 2, 3, 4, 5, 6, 7, 8, 9] Z Z16 := zU_u hZ13U hZ16 (Or.inr (List.Mem.head _))
          have hZ16K : zC [3, 12, 13, 14, 40, 41, 42, 43, 44, 45, 46, 47, 48, 49, 50, 51, 52, 53, 54, 61, 68, 1099, 1100, 1101, 1102, 1103, 1104, 1105, 1106, 1107, 1108, 1109, 1110, 1111, 1112, 1113, 1114, 1115, 1116] Z Z16 := zC_u hZ13K hZ16 (by decide)
          intro μ9 e9
          replace e9 := e9.trans (zm_wI (Z := Z13) (ν := ν) hZ16 (show ((0 : Nat) : Int) = 0 from rfl) (show ((0 : Nat) : Int) = 0 from rfl) (show ((4 : Nat) : Int) = 4 from rfl) (i3A (zm_rd (Z := Z13) (ν := ν) (k := 11) (show ((0 : Nat) : Int) = 0 from rfl) (show ((0 : Nat) : Int) = 0 from rfl) (show ((4 : Nat) : Int) = 4 from rfl)) (show (1 : Int32) = i3 1 from rfl)))
          subst e9
          exact zlG hP (zm_rd (Z := Z13) (ν := ν) (k := 11) (show ((0 : Nat) : Int) = 0 from rfl) (show ((0 : Nat) : Int) = 0 from rfl) (show ((4 : Nat) : Int) = 4 from rfl)) ⟨hZ16I, hZ16K, hZ16U, zG_w zG_r (Nat.le_of_ble_eq_true rfl) (Nat.le_of_ble_eq_true rfl)⟩
      · replace hP := zE_n hP h3
        exact zlGe (E := 12) hP ⟨hZ, zC_r, zU_r, zG_w (zG_k rfl) (Nat.le_of_ble_eq_true rfl) (Nat.le_of_ble_eq_true rfl)⟩
    · replace hP := zE_n hP h2
      exact zlGe (E := 12) hP ⟨hZ, zC_r, zU_r, zG_w (zG_k rfl) (Nat.le_of_ble_eq_true rfl) (Nat.le_of_ble_eq_true rfl)⟩
  · replace hP := zE_n hP h1
    exact zlGe (E := 23) hP ⟨hZ, zC_r, zU_r, zG_w (zG_k rfl) (Nat.le_of_ble_eq_true rfl) (Nat.le_of_ble_eq_true rfl)⟩
/- yX11_cancel -/
def zx_192 (Z : qz_Z) (a1 : Int) : qz_Z × Int × Int := (if a1 < 0 then (Z, 0, 24) else (if a1 < (Z 11 0 0 5) then (if (Z 46 0 a1 7) ≠ 0 then (Z, 0, 15) else (zlet (zdd Z 12 a1 0 0 0 0 0) (fun Z6 => (zlet (zu Z6 46 0 a1 6 0) (fun Z7 => (zlet (zu Z7 46 0 a1 7 1) (fun Z8 => (Z8, (Z6 46 0 a1 6), 0)))))))) else (Z, 0, 24)))
theorem sx_192 {M : Nat} {Z : qz_Z} {ν : qz_N} (hZ : zH ((none, M) : zSM) Z) (hM : ((none, M) : zSM).2 + 0 ≤ 1000000000) {a1 : Int} (ga1 : -2147483648 ≤ a1 ∧ a1 ≤ 2147483647) : ∃ (Z1 : qz_Z) (ν1 : qz_N) (v E : Int), (Z1, v, E) = zx_192 Z a1 ∧ qf_192 [.inr (.inr (some (0, 0, 0))), .inl (i3 a1)] (zm Z ν) = some (zm Z1 ν1, zoX v E) ∧ (fun Z1 ν1 => zH ((none, M) : zSM) Z1 ∧ zC [3, 12, 13, 14, 40, 41, 42, 43, 44, 45, 46, 47, 48, 49, 50, 51, 52, 53, 54, 61, 68, 1099, 1100, 1101, 1102, 1103, 1104, 1105, 1106, 1107, 1108, 1109, 1110, 1111, 1112, 1113, 1114, 1115, 1116] Z Z1 ∧ zU [0, 2, 3, 4, 5, 6, 7, 8, 9] Z Z1 ∧ zG 1 6 ν ν1) Z1 ν1 := by
  obtain ⟨P, hP⟩ := zx (zx_192 Z a1)
  refine zc_G (Q := fun Z1 ν1 => zH ((none, M) : zSM) Z1 ∧ zC [3, 12, 13, 14, 40, 41, 42, 43, 44, 45, 46, 47, 48, 49, 50, 51, 52, 53, 54, 61, 68, 1099, 1100, 1101, 1102, 1103, 1104, 1105, 1106, 1107, 1108, 1109, 1110, 1111, 1112, 1113, 1114, 1115, 1116] Z Z1 ∧ zU [0, 2, 3, 4, 5, 6, 7, 8, 9] Z Z1 ∧ zG 1 6 ν ν1) hP (fw_192 (i3 a1) _ _ ?_)
  replace hP : zE P (zx_192 Z a1) := hP
  unfold zx_192 at hP
  refine wz_br (i3L (rfl : i3 a1 = i3 a1) (show (0 : Int32) = i3 0 from rfl) (by omega) (by omega) (by omega) (by omega)) (fun h1 => ?_) (fun h1 => ?_)
  · replace hP := zE_p hP h1
    exact zlGe (E := 23) hP ⟨hZ, zC_r, zU_r, zG_w (zG_k rfl) (Nat.le_of_ble_eq_true rfl) (Nat.le_of_ble_eq_true rfl)⟩
  · replace hP := zE_n hP h1
    have r2 := zH_k hZ 11 0 0 5 (lo := 0) (hi := 24) (by decide) rfl
    refine wz_br (i3L (rfl : i3 a1 = i3 a1) (zm_rd (Z := Z) (ν := ν) (k := 11) (show ((0 : Nat) : Int) = 0 from rfl) (show ((0 : Nat) : Int) = 0 from rfl) (show ((5 : Nat) : Int) = 5 from rfl)) (by omega) (by omega) (by omega) (by omega)) (fun h3 => ?_) (fun h3 => ?_)
    · replace hP := zE_p hP h3
      refine wz_i0 (i3O (n := 24) (rfl : i3 a1 = i3 a1) (by omega) (by omega) (by omega)) ?_
      have r4 := zH_k hZ 46 0 a1 7 (lo := 0) (hi := 1) (by decide) rfl
      refine wz_br (i3NE (zm_rd (Z := Z) (ν := ν) (k := 46) (show ((0 : Nat) : Int) = 0 from rfl) (i3I (y := a1) (rfl : i3 a1 = i3 a1) (by omega) (by omega) (by omega)) (show ((7 : Nat) : Int) = 7 from rfl)) (show (0 : Int32) = i3 0 from rfl) (by omega) (by omega) (by omega) (by omega)) (fun h5 => ?_) (fun h5 => ?_)
      · replace hP := zE_p hP h5
        exact zlGe (E := 14) hP ⟨hZ, zC_r, zU_r, zG_w (zG_k rfl) (Nat.le_of_ble_eq_true rfl) (Nat.le_of_ble_eq_true rfl)⟩
      · replace hP := zE_n hP h5
        refine dc_J (zcons rfl (zcons (zvi (show (12 : Int32) = i3 12 from rfl)) (zcons (zvi (rfl : i3 a1 = i3 a1)) (zcons (zvi (show (0 : Int32) = i3 0 from rfl)) (zcons (zvi (show (0 : Int32) = i3 0 from rfl)) (zcons (zvi (show (0 : Int32) = i3 0 from rfl)) (zcons (zvi (show (0 : Int32) = i3 0 from rfl)) (zcons (zvi (show (0 : Int32) = i3 0 from rfl)) rfl)))))))) (dg (hZ).1 (by omega) (by omega) (by omega) (by omega) (by omega) (by omega) (by omega) ?_)
        have hZ6I := zH_dd hZ (a1 := 12) (a2 := a1) (a3 := 0) (a4 := 0) (a5 := 0) (a6 := 0) (a7 := 0) (by omega) (by omega) (by omega) (by omega) (by omega) (by omega) (by omega)
        have kZ6 : zC [3, 12, 13, 14, 40, 41, 42, 43, 44, 45, 46, 47, 48, 49, 50, 51, 52, 53, 54, 61, 68, 1099, 1100, 1101, 1102, 1103, 1104, 1105, 1106, 1107, 1108, 1109, 1110, 1111, 1112, 1113, 1114, 1115, 1116] Z (zdd Z 12 a1 0 0 0 0 0) := zC_k zdd_K (by decide) (by decide)
        have hZ6A : (zdd Z 12 a1 0 0 0 0 0) 68 0 0 0 = 12 ∧ (zdd Z 12 a1 0 0 0 0 0) 68 0 0 1 = a1 ∧ (zdd Z 12 a1 0 0 0 0 0) 68 0 0 2 = 0 ∧ (zdd Z 12 a1 0 0 0 0 0) 68 0 0 3 = 0 ∧ (zdd Z 12 a1 0 0 0 0 0) 68 0 0 4 = 0 ∧ (zdd Z 12 a1 0 0 0 0 0) 68 0 0 5 = 0 ∧ (zdd Z 12 a1 0 0 0 0 0) 68 0 0 6 = 0 := ⟨zdd_68, zdd_68, zdd_68, zdd_68, zdd_68, zdd_68, zdd_68⟩
        obtain ⟨Z6, hZ6⟩ := zx (zdd Z 12 a1 0 0 0 0 0)
        have dZ6 : ∀ {k : Nat} {i j : Int}, zhall k = true → ¬ (k = 11 ∧ (j = 15 ∨ j = 16)) → Z6 k 0 i j = Z k 0 i j := fun hk hj => by rw [hZ6]; exact zdd_h (hZ).1 hk hj
        have jZ6 : zU [0, 2, 3, 4, 5, 6, 7, 8, 9] Z (zdd Z 12 a1 0 0 0 0 0) := zU_dd (hZ).1
        rw [← hZ6] at hZ6I kZ6 jZ6 hZ6A ⊢
        have hZ6U : zU [0, 2, 3, 4, 5, 6, 7, 8, 9] Z Z6 := zU_t zU_r jZ6 (zU_b1 (List.Mem.head _) (zU_b1 (List.Mem.tail _ (List.Mem.head _)) (zU_b1 (List.Mem.tail _ (List.Mem.tail _ (List.Mem.head _))) (zU_b1 (List.Mem.tail _ (List.Mem.tail _ (List.Mem.tail _ (List.Mem.head _)))) (zU_b1 (List.Mem.tail _ (List.Mem.tail _ (List.Mem.tail _ (List.Mem.tail _ (List.Mem.head _))))) (zU_b1 (List.Mem.tail _ (List.Mem.tail _ (List.Mem.tail _ (List.Mem.tail _ (List.Mem.tail _ (List.Mem.head _)))))) (zU_b1 (List.Mem.tail _ (List.Mem.tail _ (List.Mem.tail _ (List.Mem.tail _ (List.Mem.tail _ (List.Mem.tail _ (List.Mem.head _))))))) (zU_b1 (List.Mem.tail _ (List.Mem.tail _ (List.Mem.tail _ (List.Mem.tail _ (List.Mem.tail _ (List.Mem.tail _ (List.Mem.tail _ (List.Mem.head _)))))))) (zU_b1 (List.Mem.tail _ (List.Mem.tail _ (List.Mem.tail _ (List.Mem.tail _ (List.Mem.tail _ (List.Mem.tail _ (List.Mem.tail _ (List.Mem.tail _ (List.Mem.head _))))))))) zU_b0)))))))))
        replace hP := zl_e hP hZ6
        have hZ6K : zC [3, 12, 13, 14, 40, 41, 42, 43, 44, 45, 46, 47, 48, 49, 50, 51, 52, 53, 54, 61, 68, 1099, 1100, 1101, 1102, 1103, 1104, 1105, 1106, 1107, 1108, 1109, 1110, 1111, 1112, 1113, 1114, 1115, 1116] Z Z6 := zC_t zC_r kZ6 (by decide)
        clear kZ6 hZ6
        refine fw_121 _ _ _ _ ?_
        refine wz_i1 rfl ?_
        refine wz_i0 (i3O (n := 7) (show (0 : Int32) = i3 0 from rfl) (by omega) (by omega) (by omega)) ?_
        refine wz_i0 (Eq.trans (i3To (Eq.trans (zm_rd (Z := Z6) (ν := ν) (k := 68) (show ((0 : Nat) : Int) = 0 from rfl) (show ((0 : Nat) : Int) = 0 from rfl) (show ((0 : Nat) : Int) = 0 from rfl)) (congrArg i3 ((hZ6A.1)))) (by omega) (by omega)) (decide_eq_false (by omega))) ?_
        refine wz_i0 (Eq.trans (i3T (Eq.trans (zm_rd (Z := Z6) (ν := ν) (k := 68) (show ((0 : Nat) : Int) = 0 from rfl) (show ((0 : Nat) : Int) = 0 from rfl) (show ((0 : Nat) : Int) = 0 from rfl)) (congrArg i3 ((hZ6A.1)))) (by omega) (by omega)) (decide_eq_false (by omega))) ?_
        refine wz_i0 (Eq.trans (i3T (Eq.trans (zm_rd (Z := Z6) (ν := ν) (k := 68) (show ((0 : Nat) : Int) = 0 from rfl) (show ((0 : Nat) : Int) = 0 from rfl) (show ((0 : Nat) : Int) = 0 from rfl)) (congrArg i3 ((hZ6A.1)))) (by omega) (by omega)) (decide_eq_false (by omega))) ?_
        refine wz_i0 (Eq.trans (i3T (Eq.trans (zm_rd (Z := Z6) (ν := ν) (k := 68) (show ((0 : Nat) : Int) = 0 from rfl) (show ((0 : Nat) : Int) = 0 from rfl) (show ((0 : Nat) : Int) = 0 from rfl)) (congrArg i3 ((hZ6A.1)))) (by omega) (by omega)) (decide_eq_false (by omega))) ?_
        refine wz_i0 (Eq.trans (i3T (Eq.trans (zm_rd (Z := Z6) (ν := ν) (k := 68) (show ((0 : Nat) : Int) = 0 from rfl) (show ((0 : Nat) : Int) = 0 from rfl) (show ((0 : Nat) : Int) = 0 from rfl)) (congrArg i3 ((hZ6A.1)))) (by omega) (by omega)) (decide_eq_false (by omega))) ?_
        refine wz_i0 (Eq.trans (i3T (Eq.trans (zm_rd (Z := Z6) (ν := ν) (k := 68) (show ((0 : Nat) : Int) = 0 from rfl) (show ((0 : Nat) : Int) = 0 from rfl) (show ((0 : Nat) : Int) = 0 from rfl)) (congrArg i3 ((hZ6A.1)))) (by omega) (by omega)) (decide_eq_false (by omega))) ?_
        refine wz_i0 (Eq.trans (i3T (Eq.trans (zm_rd (Z := Z6) (ν := ν) (k := 68) (show ((0 : Nat) : Int) = 0 from rfl) (show ((0 : Nat) : Int) = 0 from rfl) (show ((0 : Nat) : Int) = 0 from rfl)) (congrArg i3 ((hZ6A.1)))) (by omega) (by omega)) (decide_eq_false (by omega))) ?_
        refine wz_i0 (Eq.trans (i3T (Eq.trans (zm_rd (Z := Z6) (ν := ν) (k := 68) (show ((0 : Nat) : Int) = 0 from rfl) (show ((0 : Nat) : Int) = 0 from rfl) (show ((0 : Nat) : Int) = 0 from rfl)) (congrArg i3 ((hZ6A.1)))) (by omega) (by omega)) (decide_eq_false (by omega))) ?_
        refine wz_i0 (Eq.trans (i3T (Eq.trans (zm_rd (Z := Z6) (ν := ν) (k := 68) (show ((0 : Nat) : Int) = 0 from rfl) (show ((0 : Nat) : Int) = 0 from rfl) (show ((0 : Nat) : Int) = 0 from rfl)) (congrArg i3 ((hZ6A.1)))) (by omega) (by omega)) (decide_eq_false (by omega))) ?_
        refine wz_i0 (Eq.trans (i3T (Eq.trans (zm_rd (Z := Z6) (ν := ν) (k := 68) (show ((0 : Nat) : Int) = 0 from rfl) (show ((0 : Nat) : Int) = 0 from rfl) (show ((0 : Nat) : Int) = 0 from rfl)) (congrArg i3 ((hZ6A.1)))) (by omega) (by omega)) (decide_eq_false (by omega))) ?_
        refine wz_i0 (Eq.trans (i3T (Eq.trans (zm_rd (Z := Z6) (ν := ν) (k := 68) (show ((0 : Nat) : Int) = 0 from rfl) (show ((0 : Nat) : Int) = 0 from rfl) (show ((0 : Nat) : Int) = 0 from rfl)) (congrArg i3 ((hZ6A.1)))) (by omega) (by omega)) (decide_eq_false (by omega))) ?_
        refine wz_i0 (Eq.trans (i3T (Eq.trans (zm_rd (Z := Z6) (ν := ν) (k := 68) (show ((0 : Nat) : Int) = 0 from rfl) (show ((0 : Nat) : Int) = 0 from rfl) (show ((0 : Nat) : Int) = 0 from rfl)) (congrArg i3 ((hZ6A.1)))) (by omega) (by omega)) (decide_eq_false (by omega))) ?_
        refine wz_i0 (Eq.trans (i3T (Eq.trans (zm_rd (Z := Z6) (ν := ν) (k := 68) (show ((0 : Nat) : Int) = 0 from rfl) (show ((0 : Nat) : Int) = 0 from rfl) (show ((0 : Nat) : Int) = 0 from rfl)) (congrArg i3 ((hZ6A.1)))) (by omega) (by omega)) (decide_eq_false (by omega))) ?_
        refine wz_i1 (Eq.trans (i3T (Eq.trans (zm_rd (Z := Z6) (ν := ν) (k := 68) (show ((0 : Nat) : Int) = 0 from rfl) (show ((0 : Nat) : Int) = 0 from rfl) (show ((0 : Nat) : Int) = 0 from rfl)) (congrArg i3 ((hZ6A.1)))) (by omega) (by omega)) (decide_eq_true (by omega))) ?_
        refine wz_i1 rfl ?_
        refine wz_i0 (i3O (n := 7) (show (1 : Int32) = i3 1 from rfl) (by omega) (by omega) (by omega)) ?_
        refine wz_i0 (i3O (n := 24) (Eq.trans (zm_rd (Z := Z6) (ν := ν) (k := 68) (show ((0 : Nat) : Int) = 0 from rfl) (show ((0 : Nat) : Int) = 0 from rfl) (show ((1 : Nat) : Int) = 1 from rfl)) (congrArg i3 ((hZ6A.2.1)))) (by omega) (by omega) (by omega)) ?_
        obtain ⟨Z7, hZ7⟩ := zx (zu Z6 46 0 a1 6 0)
        replace hP := zl_e hP hZ7
        have hZ7I := zH_0 hZ6I hZ7 (by decide) (Or.inl (by decide))
        have hZ7U : zU [0, 2, 3, 4, 5, 6, 7, 8, 9] Z Z7 := zU_u hZ6U hZ7 (Or.inr (List.Mem.head _))
        have hZ7K : zC [3, 12, 13, 14, 40, 41, 42, 43, 44, 45, 46, 47, 48, 49, 50, 51, 52, 53, 54, 61, 68, 1099, 1100, 1101, 1102, 1103, 1104, 1105, 1106, 1107, 1108, 1109, 1110, 1111, 1112, 1113, 1114, 1115, 1116] Z Z7 := zC_u hZ6K hZ7 (by decide)
        intro μ9 e9
        replace e9 := e9.trans (zm_wI (Z := Z6) (ν := ν) hZ7 (show ((0 : Nat) : Int) = 0 from rfl) (i3I (y := a1) (Eq.trans (zm_rd (Z := Z6) (ν := ν) (k := 68) (show ((0 : Nat) : Int) = 0 from rfl) (show ((0 : Nat) : Int) = 0 from rfl) (show ((1 : Nat) : Int) = 1 from rfl)) (congrArg i3 ((hZ6A.2.1)))) (by omega) (by omega) (by omega)) (show ((6 : Nat) : Int) = 6 from rfl) (show (0 : Int32) = i3 0 from rfl))
        subst e9
        obtain ⟨Z8, hZ8⟩ := zx (zu Z7 46 0 a1 7 1)
        replace hP := zl_e hP hZ8
        have hZ8I := zH_u hZ7I hZ8 (lo := 0) (hi := 1) (by decide) rfl (by omega) ⟨by decide, by decide⟩ (Or.inl (by decide)) rfl
        have hZ8U : zU [0, 2, 3, 4, 5, 6, 7, 8, 9] Z Z8 := zU_u hZ7U hZ8 (Or.inr (List.Mem.head _))
        have hZ8K : zC [3, 12, 13, 14, 40, 41, 42, 43, 44, 45, 46, 47, 48, 49, 50, 51, 52, 53, 54, 61, 68, 1099, 1100, 1101, 1102, 1103, 1104, 1105, 1106, 1107, 1108, 1109, 1110, 1111, 1112, 1113, 1114, 1115, 1116] Z Z8 := zC_u hZ7K hZ8 (by decide)
        intro μ9 e9
        replace e9 := e9.trans (zm_wI (Z := Z7) (ν := ν) hZ8 (show ((0 : Nat) : Int) = 0 from rfl) (i3I (y := a1) (Eq.trans (zm_rd (Z := Z6) (ν := ν) (k := 68) (show ((0 : Nat) : Int) = 0 from rfl) (show ((0 : Nat) : Int) = 0 from rfl) (show ((1 : Nat) : Int) = 1 from rfl)) (congrArg i3 ((hZ6A.2.1)))) (by omega) (by omega) (by omega)) (show ((7 : Nat) : Int) = 7 from rfl) (show (1 : Int32) = i3 1 from rfl))
        subst e9
        have r9 := zH_k hZ6I 46 0 a1 6 (lo := 0) (hi := 99) (by decide) rfl
        exact zlG hP (zm_rd (Z := Z6) (ν := ν) (k := 46) (show ((0 : Nat) : Int) = 0 from rfl) (i3I (y := a1) (Eq.trans (zm_rd (Z := Z6) (ν := ν) (k := 68) (show ((0 : Nat) : Int) = 0 from rfl) (show ((0 : Nat) : Int) = 0 from rfl) (show ((1 : Nat) : Int) = 1 from rfl)) (congrArg i3 ((hZ6A.2.1)))) (by omega) (by omega) (by omega)) (show ((6 : Nat) : Int) = 6 from rfl)) ⟨hZ8I, hZ8K, hZ8U, zG_w zG_r (Nat.le_of_ble_eq_true rfl) (Nat.le_of_ble_eq_true rfl)⟩
    · replace hP := zE_n hP h3
      exact zlGe (E := 23) hP ⟨hZ, zC_r, zU_r, zG_w (zG_k rfl) (Nat.le_of_ble_eq_true rfl) (Nat.le_of_ble_eq_true rfl)⟩
/- yX11_clock -/
def zx_193 (Z : qz_Z) (a1 : Int) (a2 : Int) (a3 : Int) (a4 : Int) (a5 : Int) : qz_Z × Int × Int := (if 0 ≤ a1 ∧ a1 ≤ 23 then (if 1 ≤ a2 ∧ a2 ≤ (min (24 - a1) 6) then (if 1 ≤ a3 ∧ a3 ≤ 6 then (if 1 ≤ a4 ∧ a4 ≤ 500 then (if 0 ≤ a5 ∧ a5 ≤ 9 then (if 2 ≤ (Z 11 0 0 7) then (Z, 0, 15) else (zlet (zdd Z 14 a1 a2 a3 a4 a5 0) (fun Z10 => (zlet (zu Z10 48 0 (Z10 11 0 0 7) 0 a1) (fun Z13 => (zlet (zu Z13 48 0 (Z10 11 0 0 7) 1 a2) (fun Z14 => (zlet (zu Z14 48 0 (Z10 11 0 0 7) 2 a3) (fun Z15 => (zlet (zu Z15 48 0 (Z10 11 0 0 7) 3 a4) (fun Z16 => (zlet (zu Z16 48 0 (Z10 11 0 0 7) 4 a5) (fun Z17 => (zlet (zu Z17 48 0 (Z10 11 0 0 7) 6 (-1)) (fun Z18 => (zlet (zu Z18 48 0 (Z10 11 0 0 7) 7 (-1)) (fun Z19 => (zlet (zu Z19 11 0 0 7 ((Z19 11 0 0 7) + 1)) (fun Z22 => (Z22, (Z19 11 0 0 7), 0)))))))))))))))))))) else (Z, 0, 13)) else (Z, 0, 13)) else (Z, 0, 13)) else (Z, 0, 13)) else (Z, 0, 13))
theorem sx_193 {M : Nat} {Z : qz_Z} {ν : qz_N} (hZ : zH ((none, M) : zSM) Z) (hM : ((none, M) : zSM).2 + 0 ≤ 1000000000) {a1 : Int} (ga1 : -2147483648 ≤ a1 ∧ a1 ≤ 2147483647) {a2 : Int} (ga2 : -2147483648 ≤ a2 ∧ a2 ≤ 2147483647) {a3 : Int} (ga3 : -2147483648 ≤ a3 ∧ a3 ≤ 2147483647) {a4 : Int} (ga4 : -2147483648 ≤ a4 ∧ a4 ≤ 2147483647) {a5 : Int} (ga5 : -2147483648 ≤ a5 ∧ a5 ≤ 2147483647) : ∃ (Z1 : qz_Z) (ν1 : qz_N) (v E : Int), (Z1, v, E) = zx_193 Z a1 a2 a3 a4 a5 ∧ qf_193 [.inr (.inr (some (0, 0, 0))), .inl (i3 a1), .inl (i3 a2), .inl (i3 a3), .inl (i3 a4), .inl (i3 a5)] (zm Z ν) = some (zm Z1 ν1, zoX v E) ∧ (fun Z1 ν1 => zH ((none, M) : zSM) Z1 ∧ zC [3, 12, 13, 14, 40, 41, 42, 43, 44, 45, 46, 47, 48, 49, 50, 51, 52, 53, 54, 61, 68, 1099, 1100, 1101, 1102, 1103, 1104, 1105, 1106, 1107, 1108, 1109, 1110, 1111, 1112, 1113, 1114, 1115, 1116] Z Z1 ∧ zU [0, 2, 3, 4, 5, 6, 7, 8, 9] Z Z1 ∧ zG 1 6 ν ν1) Z1 ν1 := by
  obtain ⟨P, hP⟩ := zx (zx_193 Z a1 a2 a3 a4 a5)
  refine zc_G (Q := fun Z1 ν1 => zH ((none, M) : zSM) Z1 ∧ zC [3, 12, 13, 14, 40, 41, 42, 43, 44, 45, 46, 47, 48, 49, 50, 51, 52, 53, 54, 61, 68, 1099, 1100, 1101, 1102, 1103, 1104, 1105, 1106, 1107, 1108, 1109, 1110, 1111, 1112, 1113, 1114, 1115, 1116] Z Z1 ∧ zU [0, 2, 3, 4, 5, 6, 7, 8, 9] Z Z1 ∧ zG 1 6 ν ν1) hP (fw_193 (i3 a1) (i3 a2) (i3 a3) (i3 a4) (i3 a5) _ _ ?_)
  replace hP : zE P (zx_193 Z a1 a2 a3 a4 a5) := hP
  unfold zx_193 at hP
  refine wz_inR (rfl : i3 a1 = i3 a1) (show (0 : Int32) = i3 0 from rfl) (show (23 : Int32) = i3 23 from rfl) (by omega) (by omega) (by omega) (by omega) (by omega) (by omega) (fun h1 => ?_) (fun h1 => ?_)
  · replace hP := zE_p hP h1
    refine wz_inR (rfl : i3 a2 = i3 a2) (show (1 : Int32) = i3 1 from rfl) (i3Mn (i3S (show (24 : Int32) = i3 24 from rfl) (rfl : i3 a1 = i3 a1)) (show (6 : Int32) = i3 6 from rfl) (by omega) (by omega) (by omega) (by omega)) (by omega) (by omega) (by omega) (by omega) (by omega) (by omega) (fun h2 => ?_) (fun h2 => ?_)
    · replace hP := zE_p hP h2
      refine wz_inR (rfl : i3 a3 = i3 a3) (show (1 : Int32) = i3 1 from rfl) (show (6 : Int32) = i3 6 from rfl) (by omega) (by omega) (by omega) (by omega) (by omega) (by omega) (fun h3 => ?_) (fun h3 => ?_)
      · replace hP := zE_p hP h3
        refine wz_inR (rfl : i3 a4 = i3 a4) (show (1 : Int32) = i3 1 from rfl) (show (500 : Int32) = i3 500 from rfl) (by omega) (by omega) (by omega) (by omega) (by omega) (by omega) (fun h4 => ?_) (fun h4 => ?_)
        · replace hP := zE_p hP h4
          refine wz_inR (rfl : i3 a5 = i3 a5) (show (0 : Int32) = i3 0 from rfl) (show (9 : Int32) = i3 9 from rfl) (by omega) (by omega) (by omega) (by omega) (by omega) (by omega) (fun h5 => ?_) (fun h5 => ?_)
          · replace hP := zE_p hP h5
            have r6 := zH_k hZ 11 0 0 7 (lo := 0) (hi := 2) (by decide) rfl
            refine wz_br (i3Le (show (2 : Int32) = i3 2 from rfl) (zm_rd (Z := Z) (ν := ν) (k := 11) (show ((0 : Nat) : Int) = 0 from rfl) (show ((0 : Nat) : Int) = 0 from rfl) (show ((7 : Nat) : Int) = 7 from rfl)) (by omega) (by omega) (by omega) (by omega)) (fun h7 => ?_) (fun h7 => ?_)
            · replace hP := zE_p hP h7
              refine wz_inT_n (show (0 : Int32) = i3 0 from rfl) (by omega) (by omega) (by omega) ?_
              exact zlGe (E := 14) hP ⟨hZ, zC_r, zU_r, zG_w (zG_k rfl) (Nat.le_of_ble_eq_true rfl) (Nat.le_of_ble_eq_true rfl)⟩
            · replace hP := zE_n hP h7
              refine wz_inT_y (show (1 : Int32) = i3 1 from rfl) (by omega) (by omega) (by omega) ?_
              refine dc_J (zcons rfl (zcons (zvi (show (14 : Int32) = i3 14 from rfl)) (zcons (zvi (rfl : i3 a1 = i3 a1)) (zcons (zvi (rfl : i3 a2 = i3 a2)) (zcons (zvi (rfl : i3 a3 = i3 a3)) (zcons (zvi (rfl : i3 a4 = i3 a4)) (zcons (zvi (rfl : i3 a5 = i3 a5)) (zcons (zvi (show (0 : Int32) = i3 0 from rfl)) rfl)))))))) (dg (hZ).1 (by omega) (by omega) (by omega) (by omega) (by omega) (by omega) (by omega) ?_)
              have hZ10I := zH_dd hZ (a1 := 14) (a2 := a1) (a3 := a2) (a4 := a3) (a5 := a4) (a6 := a5) (a7 := 0) (by omega) (by omega) (by omega) (by omega) (by omega) (by omega) (by omega)
              have kZ10 : zC [3, 12, 13, 14, 40, 41, 42, 43, 44, 45, 46, 47, 48, 49, 50, 51, 52, 53, 54, 61, 68, 1099, 1100, 1101, 1102, 1103, 1104, 1105, 1106, 1107, 1108, 1109, 1110, 1111, 1112, 1113, 1114, 1115, 1116] Z (zdd Z 14 a1 a2 a3 a4 a5 0) := zC_k zdd_K (by decide) (by decide)
              have hZ10A : (zdd Z 14 a1 a2 a3 a4 a5 0) 68 0 0 0 = 14 ∧ (zdd Z 14 a1 a2 a3 a4 a5 0) 68 0 0 1 = a1 ∧ (zdd Z 14 a1 a2 a3 a4 a5 0) 68 0 0 2 = a2 ∧ (zdd Z 14 a1 a2 a3 a4 a5 0) 68 0 0 3 = a3 ∧ (zdd Z 14 a1 a2 a3 a4 a5 0) 68 0 0 4 = a4 ∧ (zdd Z 14 a1 a2 a3 a4 a5 0) 68 0 0 5 = a5 ∧ (zdd Z 14 a1 a2 a3 a4 a5 0) 68 0 0 6 = 0 := ⟨zdd_68, zdd_68, zdd_68, zdd_68, zdd_68, zdd_68, zdd_68⟩
              obtain ⟨Z10, hZ10⟩ := zx (zdd Z 14 a1 a2 a3 a4 a5 0)
              have dZ10 : ∀ {k : Nat} {i j : Int}, zhall k = true → ¬ (k = 11 ∧ (j = 15 ∨ j = 16)) → Z10 k 0 i j = Z k 0 i j := fun hk hj => by rw [hZ10]; exact zdd_h (hZ).1 hk hj
              have jZ10 : zU [0, 2, 3, 4, 5, 6, 7, 8, 9] Z (zdd Z 14 a1 a2 a3 a4 a5 0) := zU_dd (hZ).1
              rw [← hZ10] at hZ10I kZ10 jZ10 hZ10A ⊢
              have hZ10U : zU [0, 2, 3, 4, 5, 6, 7, 8, 9] Z Z10 := zU_t zU_r jZ10 (zU_b1 (List.Mem.head _) (zU_b1 (List.Mem.tail _ (List.Mem.head _)) (zU_b1 (List.Mem.tail _ (List.Mem.tail _ (List.Mem.head _))) (zU_b1 (List.Mem.tail _ (List.Mem.tail _ (List.Mem.tail _ (List.Mem.head _)))) (zU_b1 (List.Mem.tail _ (List.Mem.tail _ (List.Mem.tail _ (List.Mem.tail _ (List.Mem.head _))))) (zU_b1 (List.Mem.tail _ (List.Mem.tail _ (List.Mem.tail _ (List.Mem.tail _ (List.Mem.tail _ (List.Mem.head _)))))) (zU_b1 (List.Mem.tail _ (List.Mem.tail _ (List.Mem.tail _ (List.Mem.tail _ (List.Mem.tail _ (List.Mem.tail _ (List.Mem.head _))))))) (zU_b1 (List.Mem.tail _ (List.Mem.tail _ (List.Mem.tail _ (List.Mem.tail _ (List.Mem.tail _ (List.Mem.tail _ (List.Mem.tail _ (List.Mem.head _)))))))) (zU_b1 (List.Mem.tail _ (List.Mem.tail _ (List.Mem.tail _ (List.Mem.tail _ (List.Mem.tail _ (List.Mem.tail _ (List.Mem.tail _ (List.Mem.tail _ (List.Mem.head _))))))))) zU_b0)))))))))
              replace hP := zl_e hP hZ10
              have hZ10K : zC [3, 12, 13, 14, 40, 41, 42, 43, 44, 45, 46, 47, 48, 49, 50, 51, 52, 53, 54, 61, 68, 1099, 1100, 1101, 1102, 1103, 1104, 1105, 1106, 1107, 1108, 1109, 1110, 1111, 1112, 1113, 1114, 1115, 1116] Z Z10 := zC_t zC_r kZ10 (by decide)
              clear kZ10 hZ10
              refine fw_121 _ _ _ _ ?_
              refine wz_i1 rfl ?_
              refine wz_i0 (i3O (n := 7) (show (0 : Int32) = i3 0 from rfl) (by omega) (by omega) (by omega)) ?_
              refine wz_i0 (Eq.trans (i3To (Eq.trans (zm_rd (Z := Z10) (ν := ν) (k := 68) (show ((0 : Nat) : Int) = 0 from rfl) (show ((0 : Nat) : Int) = 0 from rfl) (show ((0 : Nat) : Int) = 0 from rfl)) (congrArg i3 ((hZ10A.1)))) (by omega) (by omega)) (decide_eq_false (by omega))) ?_
              refine wz_i0 (Eq.trans (i3T (Eq.trans (zm_rd (Z := Z10) (ν := ν) (k := 68) (show ((0 : Nat) : Int) = 0 from rfl) (show ((0 : Nat) : Int) = 0 from rfl) (show ((0 : Nat) : Int) = 0 from rfl)) (congrArg i3 ((hZ10A.1)))) (by omega) (by omega)) (decide_eq_false (by omega))) ?_
              refine wz_i0 (Eq.trans (i3T (Eq.trans (zm_rd (Z := Z10) (ν := ν) (k := 68) (show ((0 : Nat) : Int) = 0 from rfl) (show ((0 : Nat) : Int) = 0 from rfl) (show ((0 : Nat) : Int) = 0 from rfl)) (congrArg i3 ((hZ10A.1)))) (by omega) (by omega)) (decide_eq_false (by omega))) ?_
              refine wz_i0 (Eq.trans (i3T (Eq.trans (zm_rd (Z := Z10) (ν := ν) (k := 68) (show ((0 : Nat) : Int) = 0 from rfl) (show ((0 : Nat) : Int) = 0 from rfl) (show ((0 : Nat) : Int) = 0 from rfl)) (congrArg i3 ((hZ10A.1)))) (by omega) (by omega)) (decide_eq_false (by omega))) ?_
              refine wz_i0 (Eq.trans (i3T (Eq.trans (zm_rd (Z := Z10) (ν := ν) (k := 68) (show ((0 : Nat) : Int) = 0 from rfl) (show ((0 : Nat) : Int) = 0 from rfl) (show ((0 : Nat) : Int) = 0 from rfl)) (congrArg i3 ((hZ10A.1)))) (by omega) (by omega)) (decide_eq_false (by omega))) ?_
              refine wz_i0 (Eq.trans (i3T (Eq.trans (zm_rd (Z := Z10) (ν := ν) (k := 68) (show ((0 : Nat) : Int) = 0 from rfl) (show ((0 : Nat) : Int) = 0 from rfl) (show ((0 : Nat) : Int) = 0 from rfl)) (congrArg i3 ((hZ10A.1)))) (by omega) (by omega)) (decide_eq_false (by omega))) ?_
              refine wz_i0 (Eq.trans (i3T (Eq.trans (zm_rd (Z := Z10) (ν := ν) (k := 68) (show ((0 : Nat) : Int) = 0 from rfl) (show ((0 : Nat) : Int) = 0 from rfl) (show ((0 : Nat) : Int) = 0 from rfl)) (congrArg i3 ((hZ10A.1)))) (by omega) (by omega)) (decide_eq_false (by omega))) ?_
              refine wz_i0 (Eq.trans (i3T (Eq.trans (zm_rd (Z := Z10) (ν := ν) (k := 68) (show ((0 : Nat) : Int) = 0 from rfl) (show ((0 : Nat) : Int) = 0 from rfl) (show ((0 : Nat) : Int) = 0 from rfl)) (congrArg i3 ((hZ10A.1)))) (by omega) (by omega)) (decide_eq_false (by omega))) ?_
              refine wz_i0 (Eq.trans (i3T (Eq.trans (zm_rd (Z := Z10) (ν := ν) (k := 68) (show ((0 : Nat) : Int) = 0 from rfl) (show ((0 : Nat) : Int) = 0 from rfl) (show ((0 : Nat) : Int) = 0 from rfl)) (congrArg i3 ((hZ10A.1)))) (by omega) (by omega)) (decide_eq_false (by omega))) ?_
              refine wz_i0 (Eq.trans (i3T (Eq.trans (zm_rd (Z := Z10) (ν := ν) (k := 68) (show ((0 : Nat) : Int) = 0 from rfl) (show ((0 : Nat) : Int) = 0 from rfl) (show ((0 : Nat) : Int) = 0 from rfl)) (congrArg i3 ((hZ10A.1)))) (by omega) (by omega)) (decide_eq_false (by omega))) ?_
              refine wz_i0 (Eq.trans (i3T (Eq.trans (zm_rd (Z := Z10) (ν := ν) (k := 68) (show ((0 : Nat) : Int) = 0 from rfl) (show ((0 : Nat) : Int) = 0 from rfl) (show ((0 : Nat) : Int) = 0 from rfl)) (congrArg i3 ((hZ10A.1)))) (by omega) (by omega)) (decide_eq_false (by omega))) ?_
              refine wz_i0 (Eq.trans (i3T (Eq.trans (zm_rd (Z := Z10) (ν := ν) (k := 68) (show ((0 : Nat) : Int) = 0 from rfl) (show ((0 : Nat) : Int) = 0 from rfl) (show ((0 : Nat) : Int) = 0 from rfl)) (congrArg i3 ((hZ10A.1)))) (by omega) (by omega)) (decide_eq_false (by omega))) ?_
              refine wz_i0 (Eq.trans (i3T (Eq.trans (zm_rd (Z := Z10) (ν := ν) (k := 68) (show ((0 : Nat) : Int) = 0 from rfl) (show ((0 : Nat) : Int) = 0 from rfl) (show ((0 : Nat) : Int) = 0 from rfl)) (congrArg i3 ((hZ10A.1)))) (by omega) (by omega)) (decide_eq_false (by omega))) ?_
              refine wz_i0 (Eq.trans (i3T (Eq.trans (zm_rd (Z := Z10) (ν := ν) (k := 68) (show ((0 : Nat) : Int) = 0 from rfl) (show ((0 : Nat) : Int) = 0 from rfl) (show ((0 : Nat) : Int) = 0 from rfl)) (congrArg i3 ((hZ10A.1)))) (by omega) (by omega)) (decide_eq_false (by omega))) ?_
              refine wz_i0 (Eq.trans (i3T (Eq.trans (zm_rd (Z := Z10) (ν := ν) (k := 68) (show ((0 : Nat) : Int) = 0 from rfl) (show ((0 : Nat) : Int) = 0 from rfl) (show ((0 : Nat) : Int) = 0 from rfl)) (congrArg i3 ((hZ10A.1)))) (by omega) (by omega)) (decide_eq_false (by omega))) ?_
              refine wz_i1 (Eq.trans (i3T (Eq.trans (zm_rd (Z := Z10) (ν := ν) (k := 68) (show ((0 : Nat) : Int) = 0 from rfl) (show ((0 : Nat) : Int) = 0 from rfl) (show ((0 : Nat) : Int) = 0 from rfl)) (congrArg i3 ((hZ10A.1)))) (by omega) (by omega)) (decide_eq_true (by omega))) ?_
              refine wz_i1 rfl ?_
              refine wz_i0 (i3O (n := 7) (show (1 : Int32) = i3 1 from rfl) (by omega) (by omega) (by omega)) ?_
              refine wz_i1 rfl ?_
              refine wz_i0 (i3O (n := 7) (show (2 : Int32) = i3 2 from rfl) (by omega) (by omega) (by omega)) ?_
              refine wz_i1 rfl ?_
              refine wz_i0 (i3O (n := 7) (show (3 : Int32) = i3 3 from rfl) (by omega) (by omega) (by omega)) ?_
              refine wz_i1 rfl ?_
              refine wz_i0 (i3O (n := 7) (show (4 : Int32) = i3 4 from rfl) (by omega) (by omega) (by omega)) ?_
              refine wz_i1 rfl ?_
              refine wz_i0 (i3O (n := 7) (show (5 : Int32) = i3 5 from rfl) (by omega) (by omega) (by omega)) ?_
              have r11 := zH_k hZ10I 11 0 0 7 (lo := 0) (hi := 2) (by decide) rfl
              have q12 := dZ10 (k := 11) (i := 0) (j := 7) (by decide) (by omega)
              refine wz_i0 (i3O (n := 2) (zm_rd (Z := Z10) (ν := ν) (k := 11) (show ((0 : Nat) : Int) = 0 from rfl) (show ((0 : Nat) : Int) = 0 from rfl) (show ((7 : Nat) : Int) = 7 from rfl)) (by omega) (by omega) (by omega)) ?_
              obtain ⟨Z13, hZ13⟩ := zx (zu Z10 48 0 (Z10 11 0 0 7) 0 a1)
              replace hP := zl_e hP hZ13
              have hZ13I := zH_u hZ10I hZ13 (lo := 0) (hi := 23) (by decide) rfl (by omega) ⟨by decide, by decide⟩ (Or.inl (by decide)) rfl
              have hZ13U : zU [0, 2, 3, 4, 5, 6, 7, 8, 9] Z Z13 := zU_u hZ10U hZ13 (Or.inr (List.Mem.head _))
              have hZ13K : zC [3, 12, 13, 14, 40, 41, 42, 43, 44, 45, 46, 47, 48, 49, 50, 51, 52, 53, 54, 61, 68, 1099, 1100, 1101, 1102, 1103, 1104, 1105, 1106, 1107, 1108, 1109, 1110, 1111, 1112, 1113, 1114, 1115, 1116] Z Z13 := zC_u hZ10K hZ13 (by decide)
              intro μ9 e9
              replace e9 := e9.trans (zm_wI (Z := Z10) (ν := ν) hZ13 (show ((0 : Nat) : Int) = 0 from rfl) (i3I (y := (Z10 11 0 0 7)) (zm_rd (Z := Z10) (ν := ν) (k := 11) (show ((0 : Nat) : Int) = 0 from rfl) (show ((0 : Nat) : Int) = 0 from rfl) (show ((7 : Nat) : Int) = 7 from rfl)) (by omega) (by omega) (by omega)) (show ((0 : Nat) : Int) = 0 from rfl) (Eq.trans (zm_rd (Z := Z10) (ν := ν) (k := 68) (show ((0 : Nat) : Int) = 0 from rfl) (show ((0 : Nat) : Int) = 0 from rfl) (show ((1 : Nat) : Int) = 1 from rfl)) (congrArg i3 ((hZ10A.2.1)))))
              subst e9
              obtain ⟨Z14, hZ14⟩ := zx (zu Z13 48 0 (Z10 11 0 0 7) 1 a2)
              replace hP := zl_e hP hZ14
              have hZ14I := zH_u hZ13I hZ14 (lo := 0) (hi := 6) (by decide) rfl (by omega) ⟨by decide, by decide⟩ (Or.inl (by decide)) rfl
              have hZ14U : zU [0, 2, 3, 4, 5, 6, 7, 8, 9] Z Z14 := zU_u hZ13U hZ14 (Or.inr (List.Mem.head _))
              have hZ14K : zC [3, 12, 13, 14, 40, 41, 42, 43, 44, 45, 46, 47, 48, 49, 50, 51, 52, 53, 54, 61, 68, 1099, 1100, 1101, 1102, 1103, 1104, 1105, 1106, 1107, 1108, 1109, 1110, 1111, 1112, 1113, 1114, 1115, 1116] Z Z14 := zC_u hZ13K hZ14 (by decide)
              intro μ9 e9
              replace e9 := e9.trans (zm_wI (Z := Z13) (ν := ν) hZ14 (show ((0 : Nat) : Int) = 0 from rfl) (i3I (y := (Z10 11 0 0 7)) (zm_rd (Z := Z10) (ν := ν) (k := 11) (show ((0 : Nat) : Int) = 0 from rfl) (show ((0 : Nat) : Int) = 0 from rfl) (show ((7 : Nat) : Int) = 7 from rfl)) (by omega) (by omega) (by omega)) (show ((1 : Nat) : Int) = 1 from rfl) (Eq.trans (zm_rd (Z := Z10) (ν := ν) (k := 68) (show ((0 : Nat) : Int) = 0 from rfl) (show ((0 : Nat) : Int) = 0 from rfl) (show ((2 : Nat) : Int) = 2 from rfl)) (congrArg i3 ((hZ10A.2.2.1)))))
              subst e9
              obtain ⟨Z15, hZ15⟩ := zx (zu Z14 48 0 (Z10 11 0 0 7) 2 a3)
              replace hP := zl_e hP hZ15
              have hZ15I := zH_u hZ14I hZ15 (lo := 0) (hi := 6) (by decide) rfl (by omega) ⟨by decide, by decide⟩ (Or.inl (by decide)) rfl
              have hZ15U : zU [0, 2, 3, 4, 5, 6, 7, 8, 9] Z Z15 := zU_u hZ14U hZ15 (Or.inr (List.Mem.head _))
              have hZ15K : zC [3, 12, 13, 14, 40, 41, 42, 43, 44, 45, 46, 47, 48, 49, 50, 51, 52, 53, 54, 61, 68, 1099, 1100, 1101, 1102, 1103, 1104, 1105, 1106, 1107, 1108, 1109, 1110, 1111, 1112, 1113, 1114, 1115, 1116] Z Z15 := zC_u hZ14K hZ15 (by decide)
              intro μ9 e9
              replace e9 := e9.trans (zm_wI (Z := Z14) (ν := ν) hZ15 (show ((0 : Nat) : Int) = 0 from rfl) (i3I (y := (Z10 11 0 0 7)) (zm_rd (Z := Z10) (ν := ν) (k := 11) (show ((0 : Nat) : Int) = 0 from rfl) (show ((0 : Nat) : Int) = 0 from rfl) (show ((7 : Nat) : Int) = 7 from rfl)) (by omega) (by omega) (by omega)) (show ((2 : Nat) : Int) = 2 from rfl) (Eq.trans (zm_rd (Z := Z10) (ν := ν) (k := 68) (show ((0 : Nat) : Int) = 0 from rfl) (show ((0 : Nat) : Int) = 0 from rfl) (show ((3 : Nat) : Int) = 3 from rfl)) (congrArg i3 ((hZ10A.2.2.2.1)))))
              subst e9
              obtain ⟨Z16, hZ16⟩ := zx (zu Z15 48 0 (Z10 11 0 0 7) 3 a4)
              replace hP := zl_e hP hZ16
              have hZ16I := zH_u hZ15I hZ16 (lo := 0) (hi := 500) (by decide) rfl (by omega) ⟨by decide, by decide⟩ (Or.inl (by decide)) rfl
              have hZ16U : zU [0, 2, 3, 4, 5, 6, 7, 8, 9] Z Z16 := zU_u hZ15U hZ16 (Or.inr (List.Mem.head _))
              have hZ16K : zC [3, 12, 13, 14, 40, 41, 42, 43, 44, 45, 46, 47, 48, 49, 50, 51, 52, 53, 54, 61, 68, 1099, 1100, 1101, 1102, 1103, 1104, 1105, 1106, 1107, 1108, 1109, 1110, 1111, 1112, 1113, 1114, 1115, 1116] Z Z16 := zC_u hZ15K hZ16 (by decide)
              intro μ9 e9
              replace e9 := e9.trans (zm_wI (Z := Z15) (ν := ν) hZ16 (show ((0 : Nat) : Int) = 0 from rfl) (i3I (y := (Z10 11 0 0 7)) (zm_rd (Z := Z10) (ν := ν) (k := 11) (show ((0 : Nat) : Int) = 0 from rfl) (show ((0 : Nat) : Int) = 0 from rfl) (show ((7 : Nat) : Int) = 7 from rfl)) (by omega) (by omega) (by omega)) (show ((3 : Nat) : Int) = 3 from rfl) (Eq.trans (zm_rd (Z := Z10) (ν := ν) (k := 68) (show ((0 : Nat) : Int) = 0 from rfl) (show ((0 : Nat) : Int) = 0 from rfl) (show ((4 : Nat) : Int) = 4 from rfl)) (congrArg i3 ((hZ10A.2.2.2.2.1)))))
              subst e9
              obtain ⟨Z17, hZ17⟩ := zx (zu Z16 48 0 (Z10 11 0 0 7) 4 a5)
              replace hP := zl_e hP hZ17
              have hZ17I := zH_u hZ16I hZ17 (lo := 0) (hi := 9) (by decide) rfl (by omega) ⟨by decide, by decide⟩ (Or.inl (by decide)) rfl
              have hZ17U : zU [0, 2, 3, 4, 5, 6, 7, 8, 9] Z Z17 := zU_u hZ16U hZ17 (Or.inr (List.Mem.head _))
              have hZ17K : zC [3, 12, 13, 14, 40, 41, 42, 43, 44, 45, 46, 47, 48, 49, 50, 51, 52, 53, 54, 61, 68, 1099, 1100, 1101, 1102, 1103, 1104, 1105, 1106, 1107, 1108, 1109, 1110, 1111, 1112, 1113, 1114, 1115, 1116] Z Z17 := zC_u hZ16K hZ17 (by decide)
              intro μ9 e9
              replace e9 := e9.trans (zm_wI (Z := Z16) (ν := ν) hZ17 (show ((0 : Nat) : Int) = 0 from rfl) (i3I (y := (Z10 11 0 0 7)) (zm_rd (Z := Z10) (ν := ν) (k := 11) (show ((0 : Nat) : Int) = 0 from rfl) (show ((0 : Nat) : Int) = 0 from rfl) (show ((7 : Nat) : Int) = 7 from rfl)) (by omega) (by omega) (by omega)) (show ((4 : Nat) : Int) = 4 from rfl) (Eq.trans (zm_rd (Z := Z10) (ν := ν) (k := 68) (show ((0 : Nat) : Int) = 0 from rfl) (show ((0 : Nat) : Int) = 0 from rfl) (show ((5 : Nat) : Int) = 5 from rfl)) (congrArg i3 ((hZ10A.2.2.2.2.2.1)))))
              subst e9
              obtain ⟨Z18, hZ18⟩ := zx (zu Z17 48 0 (Z10 11 0 0 7) 6 (-1))
              replace hP := zl_e hP hZ18
              have hZ18I := zH_u hZ17I hZ18 (lo := -1) (hi := 9999) (by decide) rfl (by omega) ⟨by decide, by decide⟩ (Or.inl (by decide)) rfl
              have hZ18U : zU [0, 2, 3, 4, 5, 6, 7, 8, 9] Z Z18 := zU_u hZ17U hZ18 (Or.inr (List.Mem.head _))
              have hZ18K : zC [3, 12, 13, 14, 40, 41, 42, 43, 44, 45, 46, 47, 48, 49, 50, 51, 52, 53, 54, 61, 68, 1099, 1100, 1101, 1102, 1103, 1104, 1105, 1106, 1107, 1108, 1109, 1110, 1111, 1112, 1113, 1114, 1115, 1116] Z Z18 := zC_u hZ17K hZ18 (by decide)
              intro μ9 e9
              replace e9 := e9.trans (zm_wI (Z := Z17) (ν := ν) hZ18 (show ((0 : Nat) : Int) = 0 from rfl) (i3I (y := (Z10 11 0 0 7)) (zm_rd (Z := Z10) (ν := ν) (k := 11) (show ((0 : Nat) : Int) = 0 from rfl) (show ((0 : Nat) : Int) = 0 from rfl) (show ((7 : Nat) : Int) = 7 from rfl)) (by omega) (by omega) (by omega)) (show ((6 : Nat) : Int) = 6 from rfl) (show (-1 : Int32) = i3 (-1) from rfl))
              subst e9
              obtain ⟨Z19, hZ19⟩ := zx (zu Z18 48 0 (Z10 11 0 0 7) 7 (-1))
              replace hP := zl_e hP hZ19
              have hZ19I := zH_u hZ18I hZ19 (lo := -1) (hi := 47) (by decide) rfl (by omega) ⟨by decide, by decide⟩ (Or.inl (by decide)) rfl
              have hZ19U : zU [0, 2, 3, 4, 5, 6, 7, 8, 9] Z Z19 := zU_u hZ18U hZ19 (Or.inr (List.Mem.head _))
              have hZ19K : zC [3, 12, 13, 14, 40, 41, 42, 43, 44, 45, 46, 47, 48, 49, 50, 51, 52, 53, 54, 61, 68, 1099, 1100, 1101, 1102, 1103, 1104, 1105, 1106, 1107, 1108, 1109, 1110, 1111, 1112, 1113, 1114, 1115, 1116] Z Z19 := zC_u hZ18K hZ19 (by decide)
              intro μ9 e9
              replace e9 := e9.trans (zm_wI (Z := Z18) (ν := ν) hZ19 (show ((0 : Nat) : Int) = 0 from rfl) (i3I (y := (Z10 11 0 0 7)) (zm_rd (Z := Z10) (ν := ν) (k := 11) (show ((0 : Nat) : Int) = 0 from rfl) (show ((0 : Nat) : Int) = 0 from rfl) (show ((7 : Nat) : Int) = 7 from rfl)) (by omega) (by omega) (by omega)) (show ((7 : Nat) : Int) = 7 from rfl) (show (-1 : Int32) = i3 (-1) from rfl))
              subst e9
              have r20 := zH_k hZ19I 11 0 0 7 (lo := 0) (hi := 2) (by decide) rfl
              have q21 := (zu_ne (k' := 11) (b' := 0) (i' := 0) (j' := 7) hZ19 (fun q => absurd q.1 (by decide))).trans ((zu_ne (k' := 11) (b' := 0) (i' := 0) (j' := 7) hZ18 (fun q => absurd q.1 (by decide))).trans ((zu_ne (k' := 11) (b' := 0) (i' := 0) (j' := 7) hZ17 (fun q => absurd q.1 (by decide))).trans ((zu_ne (k' := 11) (b' := 0) (i' := 0) (j' := 7) hZ16 (fun q => absurd q.1 (by decide))).trans ((zu_ne (k' := 11) (b' := 0) (i' := 0) (j' := 7) hZ15 (fun q => absurd q.1 (by decide))).trans ((zu_ne (k' := 11) (b' := 0) (i' := 0) (j' := 7) hZ14 (fun q => absurd q.1 (by decide))).trans (zu_ne (k' := 11) (b' := 0) (i' := 0) (j' := 7) hZ13 (fun q => absurd q.1 (by decide))))))))
              obtain ⟨Z22, hZ22⟩ := zx (zu Z19 11 0 0 7 ((Z19 11 0 0 7) + 1))
              replace hP := zl_e hP hZ22
              have hZ22I := zH_u hZ19I hZ22 (lo := 0) (hi := 2) (by decide) rfl (by omega) ⟨by decide, by decide⟩ (Or.inl (by decide)) rfl
              have hZ22U : zU [0, 2, 3, 4, 5, 6, 7, 8, 9] Z Z22 := zU_u hZ19U hZ22 (Or.inr (List.Mem.head _))
              have hZ22K : zC [3, 12, 13, 14, 40, 41, 42, 43, 44, 45, 46, 47, 48, 49, 50, 51, 52, 53, 54, 61, 68, 1099, 1100, 1101, 1102, 1103, 1104, 1105, 1106, 1107, 1108, 1109, 1110, 1111, 1112, 1113, 1114, 1115, 1116] Z Z22 := zC_u hZ19K hZ22 (by decide)
              intro μ9 e9
              replace e9 := e9.trans (zm_wI (Z := Z19) (ν := ν) hZ22 (show ((0 : Nat) : Int) = 0 from rfl) (show ((0 : Nat) : Int) = 0 from rfl) (show ((7 : Nat) : Int) = 7 from rfl) (i3A (zm_rd (Z := Z19) (ν := ν) (k := 11) (show ((0 : Nat) : Int) = 0 from rfl) (show ((0 : Nat) : Int) = 0 from rfl) (show ((7 : Nat) : Int) = 7 from rfl)) (show (1 : Int32) = i3 1 from rfl)))
              subst e9
              exact zlG hP (zm_rd (Z := Z19) (ν := ν) (k := 11) (show ((0 : Nat) : Int) = 0 from rfl) (show ((0 : Nat) : Int) = 0 from rfl) (show ((7 : Nat) : Int) = 7 from rfl)) ⟨hZ22I, hZ22K, hZ22U, zG_w zG_r (Nat.le_of_ble_eq_true rfl) (Nat.le_of_ble_eq_true rfl)⟩
          · replace hP := zE_n hP h5
            exact zlGe (E := 12) hP ⟨hZ, zC_r, zU_r, zG_w (zG_k rfl) (Nat.le_of_ble_eq_true rfl) (Nat.le_of_ble_eq_true rfl)⟩
        · replace hP := zE_n hP h4
          exact zlGe (E := 12) hP ⟨hZ, zC_r, zU_r, zG_w (zG_k rfl) (Nat.le_of_ble_eq_true rfl) (Nat.le_of_ble_eq_true rfl)⟩
      · replace hP := zE_n hP h3
        exact zlGe (E := 12) hP ⟨hZ, zC_r, zU_r, zG_w (zG_k rfl) (Nat.le_of_ble_eq_true rfl) (Nat.le_of_ble_eq_true rfl)⟩
    · replace hP := zE_n hP h2
      exact zlGe (E := 12) hP ⟨hZ, zC_r, zU_r, zG_w (zG_k rfl) (Nat.le_of_ble_eq_true rfl) (Nat.le_of_ble_eq_true rfl)⟩
  · replace hP := zE_n hP h1
    exact zlGe (E := 12) hP ⟨hZ, zC_r, zU_r, zG_w (zG_k rfl) (Nat.le_of_ble_eq_true rfl) (Nat.le_of_ble_eq_true rfl)⟩
