/- yX12_bFirstDue -/
def zl_269_1 (x1 : Int) (x2 : Int) (x3 : Int) (x4 : Int) : Nat → qz_Z → Int → Int → Int × Int
  | 0, Z, x5, x6 => (x5, x6)
  | m + 1, Z, x5, x6 => (if (Z 2 0 0 2000) ≤ x6 then (x5, x6) else (if (Z 2 0 0 (2011 + 16 * x6)) ≠ x1 then zl_269_1 x1 x2 x3 x4 m Z x5 (x6 + 1) else (if (Z 2 0 0 (1810 + 2 * x6)) ≤ 0 then zl_269_1 x1 x2 x3 x4 m Z x5 (x6 + 1) else (if x2 < (Z 2 0 0 (1811 + 2 * x6)) then zl_269_1 x1 x2 x3 x4 m Z x5 (x6 + 1) else (if x3 < (Z 2 0 0 (1811 + 2 * x6)) then (if x5 = (-1) then zl_269_1 x1 x2 x3 x4 m Z x6 (x6 + 1) else (if (Z 2 0 0 (1811 + 2 * x5)) ≤ (Z 2 0 0 (1811 + 2 * x6)) then zl_269_1 x1 x2 x3 x4 m Z x5 (x6 + 1) else zl_269_1 x1 x2 x3 x4 m Z x6 (x6 + 1))) else (if (Z 2 0 0 (1811 + 2 * x6)) ≠ x3 then zl_269_1 x1 x2 x3 x4 m Z x5 (x6 + 1) else (if x6 ≤ x4 then zl_269_1 x1 x2 x3 x4 m Z x5 (x6 + 1) else (if x5 = (-1) then zl_269_1 x1 x2 x3 x4 m Z x6 (x6 + 1) else (if (Z 2 0 0 (1811 + 2 * x5)) ≤ (Z 2 0 0 (1811 + 2 * x6)) then zl_269_1 x1 x2 x3 x4 m Z x5 (x6 + 1) else zl_269_1 x1 x2 x3 x4 m Z x6 (x6 + 1))))))))))
theorem sl_269_1 {s : zSM} {Z : qz_Z} {ν : qz_N} (hZ : zM s Z) (hM : s.2 + 0 ≤ 1000000000) {x1 : Int} (gx1 : 0 ≤ x1 ∧ x1 ≤ 7) {x2 : Int} (gx2 : -1 ≤ x2 ∧ x2 ≤ 27) {x3 : Int} (gx3 : -1 ≤ x3 ∧ x3 ≤ 41) {x4 : Int} (gx4 : -1 ≤ x4 ∧ x4 ≤ 59) {x5 : Int} (gx5 : -1 ≤ x5 ∧ x5 ≤ 59) {x6 : Int} (gx6 : 0 ≤ x6 ∧ x6 ≤ 60) (gr0 : x5 = -1 ∨ x3 < Z 2 0 0 (1811 + 2 * x5) ∨ Z 2 0 0 (1811 + 2 * x5) = x3 ∧ x4 < x5) {k : wz_K} {R : wz_R} {L : qz_L} (hL : qz_fg [true, true, true, true, true, true, true, false, false] L = [some (.inr (.inr (some (1, 0, 0)))), some (.inl (i3 x1)), some (.inl (i3 x2)), some (.inl (i3 x3)), some (.inl (i3 x4)), some (.inl (i3 x5)), some (.inl (i3 x6)), none, none]) {T : Int × Int} (hP : zE T (zl_269_1 x1 x2 x3 x4 ((60 - x6).toNat + 1) Z x5 x6)) (hk : ∀ (L9 : qz_L) (yx5 yx6 : Int), qz_fg [false, false, false, false, false, true, false, false, false] L9 = [none, none, none, none, none, some (.inl (i3 yx5)), none, none, none] → (-1 ≤ yx5 ∧ yx5 ≤ 59) → (0 ≤ yx6 ∧ yx6 ≤ 60) → (yx5 = -1 ∨ x3 < Z 2 0 0 (1811 + 2 * yx5) ∨ Z 2 0 0 (1811 + 2 * yx5) = x3 ∧ x4 < yx5) → zE T ((yx5, yx6)) → k 0 (L9, [], zm Z ν)) : wz_loop qb_269_1 65536 k R (L, [], zm Z ν) := by
  refine wz_lp sb_269_1 (fun m x => ∃ x5 : Int, ∃ x6 : Int, qz_fg [true, true, true, true, true, true, true, false, false] x.1 = [some (.inr (.inr (some (1, 0, 0)))), some (.inl (i3 x1)), some (.inl (i3 x2)), some (.inl (i3 x3)), some (.inl (i3 x4)), some (.inl (i3 x5)), some (.inl (i3 x6)), none, none] ∧ x.2 = ([], zm Z ν) ∧ m = (60 - x6).toNat ∧ (-1 ≤ x5 ∧ x5 ≤ 59) ∧ (0 ≤ x6 ∧ x6 ≤ 60) ∧ (x5 = -1 ∨ x3 < Z 2 0 0 (1811 + 2 * x5) ∨ Z 2 0 0 (1811 + 2 * x5) = x3 ∧ x4 < x5) ∧ zE T (zl_269_1 x1 x2 x3 x4 (m + 1) Z x5 x6)) ?_ 65536 ((60 - x6).toNat) _ (by omega) ⟨x5, x6, hL, rfl, rfl, gx5, gx6, gr0, hP⟩
  clear hP gr0 gx5 gx6 hL
  clear x5 x6
  rintro m ⟨L, st, μ⟩ ⟨x5, x6, hL, hx, hm, gx5, gx6, gr0, hP⟩
  cases hx
  refine fb_269_1 (i3 x1) (i3 x2) (i3 x3) (i3 x4) (i3 x5) (i3 x6) _ _ _ _ hL ?_
  have r1 := zM_f hZ 2 0 0 (1811 + 2 * x5)
  have r2 := zM_k hZ 2 0 0 2000 (lo := 0) (hi := 60) (by decide) rfl
  refine wz_br (i3Le (zm_rd (Z := Z) (ν := ν) (k := 2) (show ((0 : Nat) : Int) = 0 from rfl) (show ((0 : Nat) : Int) = 0 from rfl) (show ((2000 : Nat) : Int) = 2000 from rfl)) (rfl : i3 x6 = i3 x6) (by omega) (by omega) (by omega) (by omega)) (fun h3 => ?_) (fun h3 => ?_)
  · replace hP := zE_p hP h3
    exact hk _ _ _ (zconso rfl (zconso rfl (zconso rfl (zconso rfl (zconso rfl (zconso (zvo (rfl : i3 x5 = i3 x5)) (zconso rfl (zconso rfl (zconso rfl rfl)))))))))  (by omega) (by omega) (by omega) hP
  · replace hP := zE_n hP h3
    refine wz_i0 (i3O (n := 4400) (i3A (i3A (show (1810 : Int32) = i3 1810 from rfl) (i3M (show (2 : Int32) = i3 2 from rfl) (rfl : i3 x6 = i3 x6))) (show (1 : Int32) = i3 1 from rfl)) (by omega) (by omega) (by omega)) ?_
    refine wz_i0 (i3O (n := 4400) (i3A (i3A (show (2010 : Int32) = i3 2010 from rfl) (i3M (show (16 : Int32) = i3 16 from rfl) (rfl : i3 x6 = i3 x6))) (show (1 : Int32) = i3 1 from rfl)) (by omega) (by omega) (by omega)) ?_
    have r4 := zM_k hZ 2 0 0 (2011 + 16 * x6) (lo := 0) (hi := 7) (by decide) (zs_2010_1 (x := x6) (by omega) (by omega) (by omega))
    refine wz_br (i3NE (zm_rd (Z := Z) (ν := ν) (k := 2) (show ((0 : Nat) : Int) = 0 from rfl) (show ((0 : Nat) : Int) = 0 from rfl) (i3I (y := (2011 + 16 * x6)) (i3A (i3A (show (2010 : Int32) = i3 2010 from rfl) (i3M (show (16 : Int32) = i3 16 from rfl) (rfl : i3 x6 = i3 x6))) (show (1 : Int32) = i3 1 from rfl)) (by omega) (by omega) (by omega))) (rfl : i3 x1 = i3 x1) (by omega) (by omega) (by omega) (by omega)) (fun h5 => ?_) (fun h5 => ?_)
    · replace hP := zE_p hP h5
      obtain ⟨m2, rfl⟩ : ∃ m2, m = m2 + 1 := ⟨m - 1, by omega⟩
      exact wz_k1 ⟨m2, by omega, x5, (x6 + 1), (zconso rfl (zconso (zvo (rfl : i3 x1 = i3 x1)) (zconso (zvo (rfl : i3 x2 = i3 x2)) (zconso (zvo (rfl : i3 x3 = i3 x3)) (zconso (zvo (rfl : i3 x4 = i3 x4)) (zconso (zvo (rfl : i3 x5 = i3 x5)) (zconso (zvo (i3A (rfl : i3 x6 = i3 x6) (show (1 : Int32) = i3 1 from rfl))) (zconso rfl (zconso rfl rfl))))))))), rfl,  by omega, by omega, by omega, by omega,  hP⟩
    · replace hP := zE_n hP h5
      refine wz_i0 (i3O (n := 4400) (i3A (show (1810 : Int32) = i3 1810 from rfl) (i3M (show (2 : Int32) = i3 2 from rfl) (rfl : i3 x6 = i3 x6))) (by omega) (by omega) (by omega)) ?_
      have r6 := zM_f hZ 2 0 0 (1810 + 2 * x6)
      refine wz_br (i3Le (zm_rd (Z := Z) (ν := ν) (k := 2) (show ((0 : Nat) : Int) = 0 from rfl) (show ((0 : Nat) : Int) = 0 from rfl) (i3I (y := (1810 + 2 * x6)) (i3A (show (1810 : Int32) = i3 1810 from rfl) (i3M (show (2 : Int32) = i3 2 from rfl) (rfl : i3 x6 = i3 x6))) (by omega) (by omega) (by omega))) (show (0 : Int32) = i3 0 from rfl) (by omega) (by omega) (by omega) (by omega)) (fun h7 => ?_) (fun h7 => ?_)
      · replace hP := zE_p hP h7
        obtain ⟨m2, rfl⟩ : ∃ m2, m = m2 + 1 := ⟨m - 1, by omega⟩
        exact wz_k1 ⟨m2, by omega, x5, (x6 + 1), (zconso rfl (zconso (zvo (rfl : i3 x1 = i3 x1)) (zconso (zvo (rfl : i3 x2 = i3 x2)) (zconso (zvo (rfl : i3 x3 = i3 x3)) (zconso (zvo (rfl : i3 x4 = i3 x4)) (zconso (zvo (rfl : i3 x5 = i3 x5)) (zconso (zvo (i3A (rfl : i3 x6 = i3 x6) (show (1 : Int32) = i3 1 from rfl))) (zconso rfl (zconso rfl rfl))))))))), rfl,  by omega, by omega, by omega, by omega,  hP⟩
      · replace hP := zE_n hP h7
        have r8 := zM_k hZ 2 0 0 (1811 + 2 * x6) (lo := 0) (hi := 41) (by decide) (zs_1810_1 (x := x6) (by omega) (by omega) (by omega))
        refine wz_br (i3L (rfl : i3 x2 = i3 x2) (zm_rd (Z := Z) (ν := ν) (k := 2) (show ((0 : Nat) : Int) = 0 from rfl) (show ((0 : Nat) : Int) = 0 from rfl) (i3I (y := (1811 + 2 * x6)) (i3A (i3A (show (1810 : Int32) = i3 1810 from rfl) (i3M (show (2 : Int32) = i3 2 from rfl) (rfl : i3 x6 = i3 x6))) (show (1 : Int32) = i3 1 from rfl)) (by omega) (by omega) (by omega))) (by omega) (by omega) (by omega) (by omega)) (fun h9 => ?_) (fun h9 => ?_)
        · replace hP := zE_p hP h9
          obtain ⟨m2, rfl⟩ : ∃ m2, m = m2 + 1 := ⟨m - 1, by omega⟩
          exact wz_k1 ⟨m2, by omega, x5, (x6 + 1), (zconso rfl (zconso (zvo (rfl : i3 x1 = i3 x1)) (zconso (zvo (rfl : i3 x2 = i3 x2)) (zconso (zvo (rfl : i3 x3 = i3 x3)) (zconso (zvo (rfl : i3 x4 = i3 x4)) (zconso (zvo (rfl : i3 x5 = i3 x5)) (zconso (zvo (i3A (rfl : i3 x6 = i3 x6) (show (1 : Int32) = i3 1 from rfl))) (zconso rfl (zconso rfl rfl))))))))), rfl,  by omega, by omega, by omega, by omega,  hP⟩
        · replace hP := zE_n hP h9
          refine wz_br (i3L (rfl : i3 x3 = i3 x3) (zm_rd (Z := Z) (ν := ν) (k := 2) (show ((0 : Nat) : Int) = 0 from rfl) (show ((0 : Nat) : Int) = 0 from rfl) (i3I (y := (1811 + 2 * x6)) (i3A (i3A (show (1810 : Int32) = i3 1810 from rfl) (i3M (show (2 : Int32) = i3 2 from rfl) (rfl : i3 x6 = i3 x6))) (show (1 : Int32) = i3 1 from rfl)) (by omega) (by omega) (by omega))) (by omega) (by omega) (by omega) (by omega)) (fun h10 => ?_) (fun h10 => ?_)
          · replace hP := zE_p hP h10
            refine wz_br (i3E (rfl : i3 x5 = i3 x5) (show (-1 : Int32) = i3 (-1) from rfl) (by omega) (by omega) (by omega) (by omega)) (fun h11 => ?_) (fun h11 => ?_)
            · replace hP := zE_p hP h11
              obtain ⟨m2, rfl⟩ : ∃ m2, m = m2 + 1 := ⟨m - 1, by omega⟩
              exact wz_k1 ⟨m2, by omega, x6, (x6 + 1), (zconso rfl (zconso (zvo (rfl : i3 x1 = i3 x1)) (zconso (zvo (rfl : i3 x2 = i3 x2)) (zconso (zvo (rfl : i3 x3 = i3 x3)) (zconso (zvo (rfl : i3 x4 = i3 x4)) (zconso (zvo (rfl : i3 x6 = i3 x6)) (zconso (zvo (i3A (rfl : i3 x6 = i3 x6) (show (1 : Int32) = i3 1 from rfl))) (zconso rfl (zconso rfl rfl))))))))), rfl,  by omega, by omega, by omega, by omega,  hP⟩
            · replace hP := zE_n hP h11
              refine wz_i0 (i3O (n := 4400) (i3A (i3A (show (1810 : Int32) = i3 1810 from rfl) (i3M (show (2 : Int32) = i3 2 from rfl) (rfl : i3 x5 = i3 x5))) (show (1 : Int32) = i3 1 from rfl)) (by omega) (by omega) (by omega)) ?_
              have r12 := zM_k hZ 2 0 0 (1811 + 2 * x5) (lo := 0) (hi := 41) (by decide) (zs_1810_1 (x := x5) (by omega) (by omega) (by omega))
              refine wz_br (i3Le (zm_rd (Z := Z) (ν := ν) (k := 2) (show ((0 : Nat) : Int) = 0 from rfl) (show ((0 : Nat) : Int) = 0 from rfl) (i3I (y := (1811 + 2 * x5)) (i3A (i3A (show (1810 : Int32) = i3 1810 from rfl) (i3M (show (2 : Int32) = i3 2 from rfl) (rfl : i3 x5 = i3 x5))) (show (1 : Int32) = i3 1 from rfl)) (by omega) (by omega) (by omega))) (zm_rd (Z := Z) (ν := ν) (k := 2) (show ((0 : Nat) : Int) = 0 from rfl) (show ((0 : Nat) : Int) = 0 from rfl) (i3I (y := (1811 + 2 * x6)) (i3A (i3A (show (1810 : Int32) = i3 1810 from rfl) (i3M (show (2 : Int32) = i3 2 from rfl) (rfl : i3 x6 = i3 x6))) (show (1 : Int32) = i3 1 from rfl)) (by omega) (by omega) (by omega))) (by omega) (by omega) (by omega) (by omega)) (fun h13 => ?_) (fun h13 => ?_)
              · replace hP := zE_p hP h13
                obtain ⟨m2, rfl⟩ : ∃ m2, m = m2 + 1 := ⟨m - 1, by omega⟩
                exact wz_k1 ⟨m2, by omega, x5, (x6 + 1), (zconso rfl (zconso (zvo (rfl : i3 x1 = i3 x1)) (zconso (zvo (rfl : i3 x2 = i3 x2)) (zconso (zvo (rfl : i3 x3 = i3 x3)) (zconso (zvo (rfl : i3 x4 = i3 x4)) (zconso (zvo (rfl : i3 x5 = i3 x5)) (zconso (zvo (i3A (rfl : i3 x6 = i3 x6) (show (1 : Int32) = i3 1 from rfl))) (zconso rfl (zconso rfl rfl))))))))), rfl,  by omega, by omega, by omega, by omega,  hP⟩
              · replace hP := zE_n hP h13
                obtain ⟨m2, rfl⟩ : ∃ m2, m = m2 + 1 := ⟨m - 1, by omega⟩
                exact wz_k1 ⟨m2, by omega, x6, (x6 + 1), (zconso rfl (zconso (zvo (rfl : i3 x1 = i3 x1)) (zconso (zvo (rfl : i3 x2 = i3 x2)) (zconso (zvo (rfl : i3 x3 = i3 x3)) (zconso (zvo (rfl : i3 x4 = i3 x4)) (zconso (zvo (rfl : i3 x6 = i3 x6)) (zconso (zvo (i3A (rfl : i3 x6 = i3 x6) (show (1 : Int32) = i3 1 from rfl))) (zconso rfl (zconso rfl rfl))))))))), rfl,  by omega, by omega, by omega, by omega,  hP⟩
          · replace hP := zE_n hP h10
            refine wz_br (i3NE (zm_rd (Z := Z) (ν := ν) (k := 2) (show ((0 : Nat) : Int) = 0 from rfl) (show ((0 : Nat) : Int) = 0 from rfl) (i3I (y := (1811 + 2 * x6)) (i3A (i3A (show (1810 : Int32) = i3 1810 from rfl) (i3M (show (2 : Int32) = i3 2 from rfl) (rfl : i3 x6 = i3 x6))) (show (1 : Int32) = i3 1 from rfl)) (by omega) (by omega) (by omega))) (rfl : i3 x3 = i3 x3) (by omega) (by omega) (by omega) (by omega)) (fun h14 => ?_) (fun h14 => ?_)
            · replace hP := zE_p hP h14
              obtain ⟨m2, rfl⟩ : ∃ m2, m = m2 + 1 := ⟨m - 1, by omega⟩
              exact wz_k1 ⟨m2, by omega, x5, (x6 + 1), (zconso rfl (zconso (zvo (rfl : i3 x1 = i3 x1)) (zconso (zvo (rfl : i3 x2 = i3 x2)) (zconso (zvo (rfl : i3 x3 = i3 x3)) (zconso (zvo (rfl : i3 x4 = i3 x4)) (zconso (zvo (rfl : i3 x5 = i3 x5)) (zconso (zvo (i3A (rfl : i3 x6 = i3 x6) (show (1 : Int32) = i3 1 from rfl))) (zconso rfl (zconso rfl rfl))))))))), rfl,  by omega, by omega, by omega, by omega,  hP⟩
            · replace hP := zE_n hP h14
              refine wz_br (i3Le (rfl : i3 x6 = i3 x6) (rfl : i3 x4 = i3 x4) (by omega) (by omega) (by omega) (by omega)) (fun h15 => ?_) (fun h15 => ?_)
              · replace hP := zE_p hP h15
                obtain ⟨m2, rfl⟩ : ∃ m2, m = m2 + 1 := ⟨m - 1, by omega⟩
                exact wz_k1 ⟨m2, by omega, x5, (x6 + 1), (zconso rfl (zconso (zvo (rfl : i3 x1 = i3 x1)) (zconso (zvo (rfl : i3 x2 = i3 x2)) (zconso (zvo (rfl : i3 x3 = i3 x3)) (zconso (zvo (rfl : i3 x4 = i3 x4)) (zconso (zvo (rfl : i3 x5 = i3 x5)) (zconso (zvo (i3A (rfl : i3 x6 = i3 x6) (show (1 : Int32) = i3 1 from rfl))) (zconso rfl (zconso rfl rfl))))))))), rfl,  by omega, by omega, by omega, by omega,  hP⟩
              · replace hP := zE_n hP h15
                refine wz_br (i3E (rfl : i3 x5 = i3 x5) (show (-1 : Int32) = i3 (-1) from rfl) (by omega) (by omega) (by omega) (by omega)) (fun h16 => ?_) (fun h16 => ?_)
                · replace hP := zE_p hP h16
                  obtain ⟨m2, rfl⟩ : ∃ m2, m = m2 + 1 := ⟨m - 1, by omega⟩
                  exact wz_k1 ⟨m2, by omega, x6, (x6 + 1), (zconso rfl (zconso (zvo (rfl : i3 x1 = i3 x1)) (zconso (zvo (rfl : i3 x2 = i3 x2)) (zconso (zvo (rfl : i3 x3 = i3 x3)) (zconso (zvo (rfl : i3 x4 = i3 x4)) (zconso (zvo (rfl : i3 x6 = i3 x6)) (zconso (zvo (i3A (rfl : i3 x6 = i3 x6) (show (1 : Int32) = i3 1 from rfl))) (zconso rfl (zconso rfl rfl))))))))), rfl,  by omega, by omega, by omega, by omega,  hP⟩
                · replace hP := zE_n hP h16
                  refine wz_i0 (i3O (n := 4400) (i3A (i3A (show (1810 : Int32) = i3 1810 from rfl) (i3M (show (2 : Int32) = i3 2 from rfl) (rfl : i3 x5 = i3 x5))) (show (1 : Int32) = i3 1 from rfl)) (by omega) (by omega) (by omega)) ?_
                  have r17 := zM_k hZ 2 0 0 (1811 + 2 * x5) (lo := 0) (hi := 41) (by decide) (zs_1810_1 (x := x5) (by omega) (by omega) (by omega))
                  refine wz_br (i3Le (zm_rd (Z := Z) (ν := ν) (k := 2) (show ((0 : Nat) : Int) = 0 from rfl) (show ((0 : Nat) : Int) = 0 from rfl) (i3I (y := (1811 + 2 * x5)) (i3A (i3A (show (1810 : Int32) = i3 1810 from rfl) (i3M (show (2 : Int32) = i3 2 from rfl) (rfl : i3 x5 = i3 x5))) (show (1 : Int32) = i3 1 from rfl)) (by omega) (by omega) (by omega))) (zm_rd (Z := Z) (ν := ν) (k := 2) (show ((0 : Nat) : Int) = 0 from rfl) (show ((0 : Nat) : Int) = 0 from rfl) (i3I (y := (1811 + 2 * x6)) (i3A (i3A (show (1810 : Int32) = i3 1810 from rfl) (i3M (show (2 : Int32) = i3 2 from rfl) (rfl : i3 x6 = i3 x6))) (show (1 : Int32) = i3 1 from rfl)) (by omega) (by omega) (by omega))) (by omega) (by omega) (by omega) (by omega)) (fun h18 => ?_) (fun h18 => ?_)
                  · replace hP := zE_p hP h18
                    obtain ⟨m2, rfl⟩ : ∃ m2, m = m2 + 1 := ⟨m - 1, by omega⟩
                    exact wz_k1 ⟨m2, by omega, x5, (x6 + 1), (zconso rfl (zconso (zvo (rfl : i3 x1 = i3 x1)) (zconso (zvo (rfl : i3 x2 = i3 x2)) (zconso (zvo (rfl : i3 x3 = i3 x3)) (zconso (zvo (rfl : i3 x4 = i3 x4)) (zconso (zvo (rfl : i3 x5 = i3 x5)) (zconso (zvo (i3A (rfl : i3 x6 = i3 x6) (show (1 : Int32) = i3 1 from rfl))) (zconso rfl (zconso rfl rfl))))))))), rfl,  by omega, by omega, by omega, by omega,  hP⟩
                  · replace hP := zE_n hP h18
                    obtain ⟨m2, rfl⟩ : ∃ m2, m = m2 + 1 := ⟨m - 1, by omega⟩
                    exact wz_k1 ⟨m2, by omega, x6, (x6 + 1), (zconso rfl (zconso (zvo (rfl : i3 x1 = i3 x1)) (zconso (zvo (rfl : i3 x2 = i3 x2)) (zconso (zvo (rfl : i3 x3 = i3 x3)) (zconso (zvo (rfl : i3 x4 = i3 x4)) (zconso (zvo (rfl : i3 x6 = i3 x6)) (zconso (zvo (i3A (rfl : i3 x6 = i3 x6) (show (1 : Int32) = i3 1 from rfl))) (zconso rfl (zconso rfl rfl))))))))), rfl,  by omega, by omega, by omega, by omega,  hP⟩
/- yX12_bFirstDue -/
def zf_269 (Z : qz_Z) (a1 : Int) (a2 : Int) (a3 : Int) (a4 : Int) : Int := (zlet2 (zl_269_1 a1 a2 a3 a4 61 Z (-1) 0) (fun y1 y2 => y1))
theorem sp_269 {s : zSM} {Z : qz_Z} {ν : qz_N} (hZ : zM s Z) {a1 : Int} (ga1 : 0 ≤ a1 ∧ a1 ≤ 7) {a2 : Int} (ga2 : -1 ≤ a2 ∧ a2 ≤ 27) {a3 : Int} (ga3 : -1 ≤ a3 ∧ a3 ≤ 41) {a4 : Int} (ga4 : -1 ≤ a4 ∧ a4 ≤ 59) (hM : s.2 + 0 ≤ 1000000000) : ∃ P : Int, P = zf_269 Z a1 a2 a3 a4 ∧ (qf_269 [.inr (.inr (some (1, 0, 0))), .inl (i3 a1), .inl (i3 a2), .inl (i3 a3), .inl (i3 a4)] (zm Z ν) = some (zm Z ν, .inl (some (.inl (i3 P)))) ∧ -1 ≤ P ∧ P ≤ 59 ∧ (P = -1 ∨ a3 < Z 2 0 0 (1811 + 2 * P) ∨ Z 2 0 0 (1811 + 2 * P) = a3 ∧ a4 < P)) := by
  obtain ⟨P, hP⟩ := zx (zf_269 Z a1 a2 a3 a4)
  refine zc_R (Q := fun P => -1 ≤ P ∧ P ≤ 59 ∧ (P = -1 ∨ a3 < Z 2 0 0 (1811 + 2 * P) ∨ Z 2 0 0 (1811 + 2 * P) = a3 ∧ a4 < P)) hP (fw_269 (i3 a1) (i3 a2) (i3 a3) (i3 a4) _ _ ?_)
  replace hP : zE P (zf_269 Z a1 a2 a3 a4) := hP
  unfold zf_269 at hP
  have r3 := zM_f hZ 2 0 0 1809
  refine sl_269_1 (ν := ν) hZ (zbh (c := 0) (k := 0) hM (Nat.le_of_ble_eq_true rfl)) (x1 := a1) (by omega) (x2 := a2) (by omega) (x3 := a3) (by omega) (x4 := a4) (by omega) (x5 := (-1)) (by omega) (x6 := 0) (by omega) (by omega) (zconso rfl (zconso (zvo (rfl : i3 a1 = i3 a1)) (zconso (zvo (rfl : i3 a2 = i3 a2)) (zconso (zvo (rfl : i3 a3 = i3 a3)) (zconso (zvo (rfl : i3 a4 = i3 a4)) (zconso (zvo (show (-1 : Int32) = i3 (-1) from rfl)) (zconso (zvo (show (0 : Int32) = i3 0 from rfl)) (zconso rfl (zconso rfl rfl))))))))) rfl ?_
  intro L4 y1 y2 hL4 gy1 gy2 gL4_0 q9
  replace hP := zl_e2 hP (Eq.symm q9)
  clear q9
  refine fc_269_2 (i3 y1) _ _ _ _ hL4 ?_
  exact zlR hP (rfl : i3 y1 = i3 y1) ⟨by omega, by omega, by omega⟩
/- yX12_bPays -/
def zl_281_1 (x1 : Int) (x2 : Int) : Nat → qz_Z → Int → qz_Z × Int
  | 0, Z, x3 => (Z, x3)
  | m + 1, Z, x3 => (if x3 = (-1) then (Z, x3) else (if (Z 2 0 0 (1810 + 2 * x3)) ≤ (Z 2 0 0 (1413 + 12 * x1)) then (zlet (zu Z 2 0 0 (1413 + 12 * x1) (w3 ((Z 2 0 0 (1413 + 12 * x1)) - (Z 2 0 0 (1810 + 2 * x3))))) (fun Z8 => (zlet (zu Z8 2 0 0 (1810 + 2 * x3) (w3 ((Z8 2 0 0 (1810 + 2 * x3)) - (Z 2 0 0 (1810 + 2 * x3))))) (fun Z12 => (if (Z12 2 0 0 (1810 + 2 * x3)) ≤ 0 then (zlet (zu Z12 2 0 0 (1414 + 12 * x1) (Z12 2 0 0 (1414 + 12 * x1))) (fun Z17 => (zlet (zf_269 Z17 x1 x2 (Z17 2 0 0 (1811 + 2 * x3)) x3) (fun v21 => zl_281_1 x1 x2 m Z17 v21)))) else (zlet (zu Z12 2 0 0 (1414 + 12 * x1) 1) (fun Z25 => (zlet (zf_269 Z25 x1 x2 (Z25 2 0 0 (1811 + 2 * x3)) x3) (fun v29 => zl_281_1 x1 x2 m Z25 v29))))))))) else (zlet (zu Z 2 0 0 (1413 + 12 * x1) ((Z 2 0 0 (1413 + 12 * x1)) - (Z 2 0 0 (1413 + 12 * x1)))) (fun Z33 => (zlet (zu Z33 2 0 0 (1810 + 2 * x3) (w3 ((Z33 2 0 0 (1810 + 2 * x3)) - (Z 2 0 0 (1413 + 12 * x1))))) (fun Z37 => (if (Z37 2 0 0 (1810 + 2 * x3)) ≤ 0 then (zlet (zu Z37 2 0 0 (1414 + 12 * x1) (Z37 2 0 0 (1414 + 12 * x1))) (fun Z42 => (zlet (zf_269 Z42 x1 x2 (Z42 2 0 0 (1811 + 2 * x3)) x3) (fun v46 => zl_281_1 x1 x2 m Z42 v46)))) else (zlet (zu Z37 2 0 0 (1414 + 12 * x1) 1) (fun Z50 => (zlet (zf_269 Z50 x1 x2 (Z50 2 0 0 (1811 + 2 * x3)) x3) (fun v54 => zl_281_1 x1 x2 m Z50 v54)))))))))))
theorem sl_281_1 {s : zSM} {Zs Z : qz_Z} {ν : qz_N} (hZ : zM s Z) (hM : s.2 + 0 ≤ 1000000000) (hK : zC [2] Zs Z) {x1 : Int} (gx1 : 0 ≤ x1 ∧ x1 ≤ 7) {x2 : Int} (gx2 : 0 ≤ x2 ∧ x2 ≤ 27) {x3 : Int} (gx3 : -1 ≤ x3 ∧ x3 ≤ 59) (hU : zU [] Zs Z) (gm9 : (if x3 = -1 then (0 : Int) else 2600 - (60 * Z 2 0 0 (1811 + 2 * x3) + x3)).toNat ≤ 2600) {k : wz_K} {R : wz_R} {L : qz_L} (hL : qz_fg [true, true, true, true, false, false] L = [some (.inr (.inr (some (1, 0, 0)))), some (.inl (i3 x1)), some (.inl (i3 x2)), some (.inl (i3 x3)), none, none]) {T : qz_Z × Int} (hP : zE T (zl_281_1 x1 x2 (2600 + 1) Z x3)) (hk : ∀ (L9 : qz_L) (Z9 : qz_Z) (yx3 : Int), qz_fg [false, false, false, false, false, false] L9 = [none, none, none, none, none, none] → zM s Z9 → zC [2] Zs Z9 → zU [] Zs Z9 → (-1 ≤ yx3 ∧ yx3 ≤ 59) → zE T ((Z9, yx3)) → k 0 (L9, [], zm Z9 ν)) : wz_loop qb_281_1 65536 k R (L, [], zm Z ν) := by
  refine wz_lp sb_281_1 (fun m x => ∃ Z : qz_Z, ∃ x3 : Int, qz_fg [true, true, true, true, false, false] x.1 = [some (.inr (.inr (some (1, 0, 0)))), some (.inl (i3 x1)), some (.inl (i3 x2)), some (.inl (i3 x3)), none, none] ∧ x.2 = ([], zm Z ν) ∧ zM s Z ∧ zC [2] Zs Z ∧ zU [] Zs Z ∧ (if x3 = -1 then (0 : Int) else 2600 - (60 * Z 2 0 0 (1811 + 2 * x3) + x3)).toNat ≤ m ∧ (-1 ≤ x3 ∧ x3 ≤ 59) ∧ zE T (zl_281_1 x1 x2 (m + 1) Z x3)) ?_ 65536 (2600) _ (by omega) ⟨Z, x3, hL, rfl, hZ, hK, hU, gm9, gx3, hP⟩
  clear hP gm9 gx3 hZ hK hU hL
  clear x3
  clear Z
  rintro m ⟨L, st, μ⟩ ⟨Z, x3, hL, hx, hZ, hK, hU, hm, gx3, hP⟩
  cases hx
  refine fb_281_1 (i3 x1) (i3 x2) (i3 x3) _ _ _ _ hL ?_
  have r1 := zM_f hZ 2 0 0 (1811 + 2 * x3)
  have r2 := zM_py hZ x3
  refine wz_br (i3E (rfl : i3 x3 = i3 x3) (show (-1 : Int32) = i3 (-1) from rfl) (by omega) (by omega) (by omega) (by omega)) (fun h3 => ?_) (fun h3 => ?_)
  · replace hP := zE_p hP h3
    exact hk _ _ _ (zconso rfl (zconso rfl (zconso rfl (zconso rfl (zconso rfl (zconso rfl rfl)))))) hZ hK hU (by omega)  hP
  · replace hP := zE_n hP h3
    refine wz_i0 (i3O (n := 4400) (i3A (i3A (show (1410 : Int32) = i3 1410 from rfl) (i3M (show (12 : Int32) = i3 12 from rfl) (rfl : i3 x1 = i3 x1))) (show (3 : Int32) = i3 3 from rfl)) (by omega) (by omega) (by omega)) ?_
    refine wz_i0 (i3O (n := 4400) (i3A (show (1810 : Int32) = i3 1810 from rfl) (i3M (show (2 : Int32) = i3 2 from rfl) (rfl : i3 x3 = i3 x3))) (by omega) (by omega) (by omega)) ?_
    have r4 := zM_f hZ 2 0 0 (1810 + 2 * x3)
    have r5 := zM_f hZ 2 0 0 (1413 + 12 * x1)
    refine wz_br (i3Le (zm_rd (Z := Z) (ν := ν) (k := 2) (show ((0 : Nat) : Int) = 0 from rfl) (show ((0 : Nat) : Int) = 0 from rfl) (i3I (y := (1810 + 2 * x3)) (i3A (show (1810 : Int32) = i3 1810 from rfl) (i3M (show (2 : Int32) = i3 2 from rfl) (rfl : i3 x3 = i3 x3))) (by omega) (by omega) (by omega))) (zm_rd (Z := Z) (ν := ν) (k := 2) (show ((0 : Nat) : Int) = 0 from rfl) (show ((0 : Nat) : Int) = 0 from rfl) (i3I (y := (1413 + 12 * x1)) (i3A (i3A (show (1410 : Int32) = i3 1410 from rfl) (i3M (show (12 : Int32) = i3 12 from rfl) (rfl : i3 x1 = i3 x1))) (show (3 : Int32) = i3 3 from rfl)) (by omega) (by omega) (by omega))) (by omega) (by omega) (by omega) (by omega)) (fun h6 => ?_) (fun h6 => ?_)
    · replace hP := zE_p hP h6
      refine wz_i0 (i3O (n := 4400) (i3A (show (1810 : Int32) = i3 1810 from rfl) (i3M (show (2 : Int32) = i3 2 from rfl) (rfl : i3 x3 = i3 x3))) (by omega) (by omega) (by omega)) ?_
      refine wz_i0 (i3O (n := 4400) (i3A (i3A (show (1410 : Int32) = i3 1410 from rfl) (i3M (show (12 : Int32) = i3 12 from rfl) (rfl : i3 x1 = i3 x1))) (show (3 : Int32) = i3 3 from rfl)) (by omega) (by omega) (by omega)) ?_
      refine wz_i0 (i3O (n := 4400) (i3A (i3A (show (1410 : Int32) = i3 1410 from rfl) (i3M (show (12 : Int32) = i3 12 from rfl) (rfl : i3 x1 = i3 x1))) (show (3 : Int32) = i3 3 from rfl)) (by omega) (by omega) (by omega)) ?_
      have r7 := w3_r ((Z 2 0 0 (1413 + 12 * x1)) - (Z 2 0 0 (1810 + 2 * x3)))
      obtain ⟨Z8, hZ8⟩ := zx (zu Z 2 0 0 (1413 + 12 * x1) (w3 ((Z 2 0 0 (1413 + 12 * x1)) - (Z 2 0 0 (1810 + 2 * x3)))))
      replace hP := zl_e hP hZ8
      have hZ8I := zM_u2 hZ hZ8 (lo := -2147483648) (hi := 2147483647) (zs_1410_3 (x := x1) (by omega) (by omega) (by omega)) (by omega) ⟨by decide, by decide⟩ (by simp only [zsp]; omega)
      have hZ8U : zU [] Zs Z8 := zU_u hU hZ8 (Or.inl rfl)
      have hZ8K : zC [2] Zs Z8 := zC_u hK hZ8 (zcl_2w (by omega) rfl)
      intro μ9 e9
      replace e9 := e9.trans (zm_wI (Z := Z) (ν := ν) hZ8 (show ((0 : Nat) : Int) = 0 from rfl) (show ((0 : Nat) : Int) = 0 from rfl) (i3I (y := (1413 + 12 * x1)) (i3A (i3A (show (1410 : Int32) = i3 1410 from rfl) (i3M (show (12 : Int32) = i3 12 from rfl) (rfl : i3 x1 = i3 x1))) (show (3 : Int32) = i3 3 from rfl)) (by omega) (by omega) (by omega)) (i3W (i3S (zm_rd (Z := Z) (ν := ν) (k := 2) (show ((0 : Nat) : Int) = 0 from rfl) (show ((0 : Nat) : Int) = 0 from rfl) (i3I (y := (1413 + 12 * x1)) (i3A (i3A (show (1410 : Int32) = i3 1410 from rfl) (i3M (show (12 : Int32) = i3 12 from rfl) (rfl : i3 x1 = i3 x1))) (show (3 : Int32) = i3 3 from rfl)) (by omega) (by omega) (by omega))) (zm_rd (Z := Z) (ν := ν) (k := 2) (show ((0 : Nat) : Int) = 0 from rfl) (show ((0 : Nat) : Int) = 0 from rfl) (i3I (y := (1810 + 2 * x3)) (i3A (show (1810 : Int32) = i3 1810 from rfl) (i3M (show (2 : Int32) = i3 2 from rfl) (rfl : i3 x3 = i3 x3))) (by omega) (by omega) (by omega))))))
      subst e9
      refine wz_i0 (i3O (n := 4400) (i3A (show (1810 : Int32) = i3 1810 from rfl) (i3M (show (2 : Int32) = i3 2 from rfl) (rfl : i3 x3 = i3 x3))) (by omega) (by omega) (by omega)) ?_
      refine wz_i0 (i3O (n := 4400) (i3A (show (1810 : Int32) = i3 1810 from rfl) (i3M (show (2 : Int32) = i3 2 from rfl) (rfl : i3 x3 = i3 x3))) (by omega) (by omega) (by omega)) ?_
      have r9 := zM_f hZ8I 2 0 0 (1810 + 2 * x3)
      have q10 := zu_ne (k' := 2) (b' := 0) (i' := 0) (j' := (1810 + 2 * x3)) hZ8 (fun q => absurd q.2.2.2 (by omega))
      have r11 := w3_r ((Z8 2 0 0 (1810 + 2 * x3)) - (Z 2 0 0 (1810 + 2 * x3)))
      obtain ⟨Z12, hZ12⟩ := zx (zu Z8 2 0 0 (1810 + 2 * x3) (w3 ((Z8 2 0 0 (1810 + 2 * x3)) - (Z 2 0 0 (1810 + 2 * x3)))))
      replace hP := zl_e hP hZ12
      have hZ12I := zM_u2 hZ8I hZ12 (lo := -2147483648) (hi := 2147483647) (zs_1810_0 (x := x3) (by omega) (by omega) (by omega)) (by omega) ⟨by decide, by decide⟩ (by simp only [zsp]; omega)
      have hZ12U : zU [] Zs Z12 := zU_u hZ8U hZ12 (Or.inl rfl)
      have hZ12K : zC [2] Zs Z12 := zC_u hZ8K hZ12 (zcl_2w (by omega) rfl)
      intro μ9 e9
      replace e9 := e9.trans (zm_wI (Z := Z8) (ν := ν) hZ12 (show ((0 : Nat) : Int) = 0 from rfl) (show ((0 : Nat) : Int) = 0 from rfl) (i3I (y := (1810 + 2 * x3)) (i3A (show (1810 : Int32) = i3 1810 from rfl) (i3M (show (2 : Int32) = i3 2 from rfl) (rfl : i3 x3 = i3 x3))) (by omega) (by omega) (by omega)) (i3W (i3S (zm_rd (Z := Z8) (ν := ν) (k := 2) (show ((0 : Nat) : Int) = 0 from rfl) (show ((0 : Nat) : Int) = 0 from rfl) (i3I (y := (1810 + 2 * x3)) (i3A (show (1810 : Int32) = i3 1810 from rfl) (i3M (show (2 : Int32) = i3 2 from rfl) (rfl : i3 x3 = i3 x3))) (by omega) (by omega) (by omega))) (zm_rd (Z := Z) (ν := ν) (k := 2) (show ((0 : Nat) : Int) = 0 from rfl) (show ((0 : Nat) : Int) = 0 from rfl) (i3I (y := (1810 + 2 * x3)) (i3A (show (1810 : Int32) = i3 1810 from rfl) (i3M (show (2 : Int32) = i3 2 from rfl) (rfl : i3 x3 = i3 x3))) (by omega) (by omega) (by omega))))))
      subst e9
      refine wz_i0 (i3O (n := 4400) (i3A (show (1810 : Int32) = i3 1810 from rfl) (i3M (show (2 : Int32) = i3 2 from rfl) (rfl : i3 x3 = i3 x3))) (by omega) (by omega) (by omega)) ?_
      have r13 := zM_f hZ12I 2 0 0 (1810 + 2 * x3)
      have q14 := zu_at hZ12
      refine wz_br (i3Le (zm_rd (Z := Z12) (ν := ν) (k := 2) (show ((0 : Nat) : Int) = 0 from rfl) (show ((0 : Nat) : Int) = 0 from rfl) (i3I (y := (1810 + 2 * x3)) (i3A (show (1810 : Int32) = i3 1810 from rfl) (i3M (show (2 : Int32) = i3 2 from rfl) (rfl : i3 x3 = i3 x3))) (by omega) (by omega) (by omega))) (show (0 : Int32) = i3 0 from rfl) (by omega) (by omega) (by omega) (by omega)) (fun h15 => ?_) (fun h15 => ?_)
      · replace hP := zE_p hP h15
        refine wz_i0 (i3O (n := 4400) (i3A (i3A (show (1410 : Int32) = i3 1410 from rfl) (i3M (show (12 : Int32) = i3 12 from rfl) (rfl : i3 x1 = i3 x1))) (show (4 : Int32) = i3 4 from rfl)) (by omega) (by omega) (by omega)) ?_
        refine wz_i0 (i3O (n := 4400) (i3A (i3A (show (1410 : Int32) = i3 1410 from rfl) (i3M (show (12 : Int32) = i3 12 from rfl) (rfl : i3 x1 = i3 x1))) (show (4 : Int32) = i3 4 from rfl)) (by omega) (by omega) (by omega)) ?_
        have r16 := zM_k hZ12I 2 0 0 (1414 + 12 * x1) (lo := 0) (hi := 1) (by decide) (zs_1410_4 (x := x1) (by omega) (by omega) (by omega))
        obtain ⟨Z17, hZ17⟩ := zx (zu Z12 2 0 0 (1414 + 12 * x1) (Z12 2 0 0 (1414 + 12 * x1)))
        replace hP := zl_e hP hZ17
        have hZ17I := zM_u2 hZ12I hZ17 (lo := 0) (hi := 1) (zs_1410_4 (x := x1) (by omega) (by omega) (by omega)) (by omega) ⟨by decide, by decide⟩ (by simp only [zsp]; omega)
        have hZ17U : zU [] Zs Z17 := zU_u hZ12U hZ17 (Or.inl rfl)
        have hZ17K : zC [2] Zs Z17 := zC_u hZ12K hZ17 (zcl_2w (by omega) rfl)
        intro μ9 e9
        replace e9 := e9.trans (zm_wI (Z := Z12) (ν := ν) hZ17 (show ((0 : Nat) : Int) = 0 from rfl) (show ((0 : Nat) : Int) = 0 from rfl) (i3I (y := (1414 + 12 * x1)) (i3A (i3A (show (1410 : Int32) = i3 1410 from rfl) (i3M (show (12 : Int32) = i3 12 from rfl) (rfl : i3 x1 = i3 x1))) (show (4 : Int32) = i3 4 from rfl)) (by omega) (by omega) (by omega)) (zm_rd (Z := Z12) (ν := ν) (k := 2) (show ((0 : Nat) : Int) = 0 from rfl) (show ((0 : Nat) : Int) = 0 from rfl) (i3I (y := (1414 + 12 * x1)) (i3A (i3A (show (1410 : Int32) = i3 1410 from rfl) (i3M (show (12 : Int32) = i3 12 from rfl) (rfl : i3 x1 = i3 x1))) (show (4 : Int32) = i3 4 from rfl)) (by omega) (by omega) (by omega))))
        subst e9
        refine wz_i0 (i3O (n := 4400) (i3A (i3A (show (1810 : Int32) = i3 1810 from rfl) (i3M (show (2 : Int32) = i3 2 from rfl) (rfl : i3 x3 = i3 x3))) (show (1 : Int32) = i3 1 from rfl)) (by omega) (by omega) (by omega)) ?_
        have r18 := zM_f hZ17I 2 0 0 (1811 + 2 * x3)
        have r19 := zM_py hZ17I x3
        have q20 := (zu_ne (k' := 2) (b' := 0) (i' := 0) (j' := (1811 + 2 * x3)) hZ17 (fun q => absurd q.2.2.2 (by omega))).trans ((zu_ne (k' := 2) (b' := 0) (i' := 0) (j' := (1811 + 2 * x3)) hZ12 (fun q => absurd q.2.2.2 (by omega))).trans (zu_ne (k' := 2) (b' := 0) (i' := 0) (j' := (1811 + 2 * x3)) hZ8 (fun q => absurd q.2.2.2 (by omega))))
        obtain ⟨v21, hv21, c9, lv21, uv21, wv210⟩ := sp_269 (ν := ν) hZ17I (a1 := x1) (by omega) (a2 := x2) (by omega) (a3 := (Z17 2 0 0 (1811 + 2 * x3))) (by omega) (a4 := x3) (by omega) (zbh (c := 0) (k := 0) hM (Nat.le_of_ble_eq_true rfl))
        replace hP := zl_e hP hv21
        refine wz_cI_of (zas (zcons rfl (zcons (zvi (rfl : i3 x1 = i3 x1)) (zcons (zvi (rfl : i3 x2 = i3 x2)) (zcons (zvi (zm_rd (Z := Z17) (ν := ν) (k := 2) (show ((0 : Nat) : Int) = 0 from rfl) (show ((0 : Nat) : Int) = 0 from rfl) (i3I (y := (1811 + 2 * x3)) (i3A (i3A (show (1810 : Int32) = i3 1810 from rfl) (i3M (show (2 : Int32) = i3 2 from rfl) (rfl : i3 x3 = i3 x3))) (show (1 : Int32) = i3 1 from rfl)) (by omega) (by omega) (by omega)))) (zcons (zvi (rfl : i3 x3 = i3 x3)) rfl))))) c9) ?_
        clear c9
        have r22 := zM_f hZ17I 2 0 0 (1811 + 2 * v21)
        have r23 := zM_py hZ17I v21
        have w24 : v21 = -1 ∨ (Z17 2 0 0 (1811 + 2 * x3)) < Z17 2 0 0 (1811 + 2 * v21) ∨ Z17 2 0 0 (1811 + 2 * v21) = (Z17 2 0 0 (1811 + 2 * x3)) ∧ x3 < v21 := wv210
        obtain ⟨m2, rfl⟩ : ∃ m2, m = m2 + 1 := ⟨m - 1, by omega⟩
        exact wz_k1 ⟨m2, by omega, Z17, v21, (zconso rfl (zconso (zvo (rfl : i3 x1 = i3 x1)) (zconso (zvo (rfl : i3 x2 = i3 x2)) (zconso (zvo (rfl : i3 v21 = i3 v21)) (zconso rfl (zconso rfl rfl)))))), rfl, hZ17I, hZ17K, hZ17U, by omega, by omega,  hP⟩
      · replace hP := zE_n hP h15
        refine wz_i0 (i3O (n := 4400) (i3A (i3A (show (1410 : Int32) = i3 1410 from rfl) (i3M (show (12 : Int32) = i3 12 from rfl) (rfl : i3 x1 = i3 x1))) (show (4 : Int32) = i3 4 from rfl)) (by omega) (by omega) (by omega)) ?_
        obtain ⟨Z25, hZ25⟩ := zx (zu Z12 2 0 0 (1414 + 12 * x1) 1)
        replace hP := zl_e hP hZ25
        have hZ25I := zM_u2 hZ12I hZ25 (lo := 0) (hi := 1) (zs_1410_4 (x := x1) (by omega) (by omega) (by omega)) (by omega) ⟨by decide, by decide⟩ (by simp only [zsp]; omega)
        have hZ25U : zU [] Zs Z25 := zU_u hZ12U hZ25 (Or.inl rfl)
        have hZ25K : zC [2] Zs Z25 := zC_u hZ12K hZ25 (zcl_2w (by omega) rfl)
        intro μ9 e9
        replace e9 := e9.trans (zm_wI (Z := Z12) (ν := ν) hZ25 (show ((0 : Nat) : Int) = 0 from rfl) (show ((0 : Nat) : Int) = 0 from rfl) (i3I (y := (1414 + 12 * x1)) (i3A (i3A (show (1410 : Int32) = i3 1410 from rfl) (i3M (show (12 : Int32) = i3 12 from rfl) (rfl : i3 x1 = i3 x1))) (show (4 : Int32) = i3 4 from rfl)) (by omega) (by omega) (by omega)) (show (1 : Int32) = i3 1 from rfl))
        subst e9
        refine wz_i0 (i3O (n := 4400) (i3A (i3A (show (1810 : Int32) = i3 1810 from rfl) (i3M (show (2 : Int32) = i3 2 from rfl) (rfl : i3 x3 = i3 x3))) (show (1 : Int32) = i3 1 from rfl)) (by omega) (by omega) (by omega)) ?_
        have r26 := zM_f hZ25I 2 0 0 (1811 + 2 * x3)
        have r27 := zM_py hZ25I x3
        have q28 := (zu_ne (k' := 2) (b' := 0) (i' := 0) (j' := (1811 + 2 * x3)) hZ25 (fun q => absurd q.2.2.2 (by omega))).trans ((zu_ne (k' := 2) (b' := 0) (i' := 0) (j' := (1811 + 2 * x3)) hZ12 (fun q => absurd q.2.2.2 (by omega))).trans (zu_ne (k' := 2) (b' := 0) (i' := 0) (j' := (1811 + 2 * x3)) hZ8 (fun q => absurd q.2.2.2 (by omega))))
        obtain ⟨v29, hv29, c9, lv29, uv29, wv290⟩ := sp_269 (ν := ν) hZ25I (a1 := x1) (by omega) (a2 := x2) (by omega) (a3 := (Z25 2 0 0 (1811 + 2 * x3))) (by omega) (a4 := x3) (by omega) (zbh (c := 0) (k := 0) hM (Nat.le_of_ble_eq_true rfl))
        replace hP := zl_e hP hv29
        refine wz_cI_of (zas (zcons rfl (zcons (zvi (rfl : i3 x1 = i3 x1)) (zcons (zvi (rfl : i3 x2 = i3 x2)) (zcons (zvi (zm_rd (Z := Z25) (ν := ν) (k := 2) (show ((0 : Nat) : Int) = 0 from rfl) (show ((0 : Nat) : Int) = 0 from rfl) (i3I (y := (1811 + 2 * x3)) (i3A (i3A (show (1810 : Int32) = i3 1810 from rfl) (i3M (show (2 : Int32) = i3 2 from rfl) (rfl : i3 x3 = i3 x3))) (show (1 : Int32) = i3 1 from rfl)) (by omega) (by omega) (by omega)))) (zcons (zvi (rfl : i3 x3 = i3 x3)) rfl))))) c9) ?_
        clear c9
        have r30 := zM_f hZ25I 2 0 0 (1811 + 2 * v29)
        have r31 := zM_py hZ25I v29
        have w32 : v29 = -1 ∨ (Z25 2 0 0 (1811 + 2 * x3)) < Z25 2 0 0 (1811 + 2 * v29) ∨ Z25 2 0 0 (1811 + 2 * v29) = (Z25 2 0 0 (1811 + 2 * x3)) ∧ x3 < v29 := wv290
        obtain ⟨m2, rfl⟩ : ∃ m2, m = m2 + 1 := ⟨m - 1, by omega⟩
        exact wz_k1 ⟨m2, by omega, Z25, v29, (zconso rfl (zconso (zvo (rfl : i3 x1 = i3 x1)) (zconso (zvo (rfl : i3 x2 = i3 x2)) (zconso (zvo (rfl : i3 v29 = i3 v29)) (zconso rfl (zconso rfl rfl)))))), rfl, hZ25I, hZ25K, hZ25U, by omega, by omega,  hP⟩
    · replace hP := zE_n hP h6
      refine wz_i0 (i3O (n := 4400) (i3A (i3A (show (1410 : Int32) = i3 1410 from rfl) (i3M (show (12 : Int32) = i3 12 from rfl) (rfl : i3 x1 = i3 x1))) (show (3 : Int32) = i3 3 from rfl)) (by omega) (by omega) (by omega)) ?_
      refine wz_i0 (i3O (n := 4400) (i3A (i3A (show (1410 : Int32) = i3 1410 from rfl) (i3M (show (12 : Int32) = i3 12 from rfl) (rfl : i3 x1 = i3 x1))) (show (3 : Int32) = i3 3 from rfl)) (by omega) (by omega) (by omega)) ?_
      obtain ⟨Z33, hZ33⟩ := zx (zu Z 2 0 0 (1413 + 12 * x1) ((Z 2 0 0 (1413 + 12 * x1)) - (Z 2 0 0 (1413 + 12 * x1))))
      replace hP := zl_e hP hZ33
      have hZ33I := zM_u2 hZ hZ33 (lo := -2147483648) (hi := 2147483647) (zs_1410_3 (x := x1) (by omega) (by omega) (by omega)) (by omega) ⟨by decide, by decide⟩ (by simp only [zsp]; omega)
      have hZ33U : zU [] Zs Z33 := zU_u hU hZ33 (Or.inl rfl)
      have hZ33K : zC [2] Zs Z33 := zC_u hK hZ33 (zcl_2w (by omega) rfl)
      intro μ9 e9
      replace e9 := e9.trans (zm_wI (Z := Z) (ν := ν) hZ33 (show ((0 : Nat) : Int) = 0 from rfl) (show ((0 : Nat) : Int) = 0 from rfl) (i3I (y := (1413 + 12 * x1)) (i3A (i3A (show (1410 : Int32) = i3 1410 from rfl) (i3M (show (12 : Int32) = i3 12 from rfl) (rfl : i3 x1 = i3 x1))) (show (3 : Int32) = i3 3 from rfl)) (by omega) (by omega) (by omega)) (i3S (zm_rd (Z := Z) (ν := ν) (k := 2) (show ((0 : Nat) : Int) = 0 from rfl) (show ((0 : Nat) : Int) = 0 from rfl) (i3I (y := (1413 + 12 * x1)) (i3A (i3A (show (1410 : Int32) = i3 1410 from rfl) (i3M (show (12 : Int32) = i3 12 from rfl) (rfl : i3 x1 = i3 x1))) (show (3 : Int32) = i3 3 from rfl)) (by omega) (by omega) (by omega))) (zm_rd (Z := Z) (ν := ν) (k := 2) (show ((0 : Nat) : Int) = 0 from rfl) (show ((0 : Nat) : Int) = 0 from rfl) (i3I (y := (1413 + 12 * x1)) (i3A (i3A (show (1410 : Int32) = i3 1410 from rfl) (i3M (show (12 : Int32) = i3 12 from rfl) (rfl : i3 x1 = i3 x1))) (show (3 : Int32) = i3 3 from rfl)) (by omega) (by omega) (by omega)))))
      subst e9
      refine wz_i0 (i3O (n := 4400) (i3A (show (1810 : Int32) = i3 1810 from rfl) (i3M (show (2 : Int32) = i3 2 from rfl) (rfl : i3 x3 = i3 x3))) (by omega) (by omega) (by omega)) ?_
      refine wz_i0 (i3O (n := 4400) (i3A (show (1810 : Int32) = i3 1810 from rfl) (i3M (show (2 : Int32) = i3 2 from rfl) (rfl : i3 x3 = i3 x3))) (by omega) (by omega) (by omega)) ?_
      have r34 := zM_f hZ33I 2 0 0 (1810 + 2 * x3)
      have q35 := zu_ne (k' := 2) (b' := 0) (i' := 0) (j' := (1810 + 2 * x3)) hZ33 (fun q => absurd q.2.2.2 (by omega))
      have r36 := w3_r ((Z33 2 0 0 (1810 + 2 * x3)) - (Z 2 0 0 (1413 + 12 * x1)))
      obtain ⟨Z37, hZ37⟩ := zx (zu Z33 2 0 0 (1810 + 2 * x3) (w3 ((Z33 2 0 0 (1810 + 2 * x3)) - (Z 2 0 0 (1413 + 12 * x1)))))
      replace hP := zl_e hP hZ37
      have hZ37I := zM_u2 hZ33I hZ37 (lo := -2147483648) (hi := 2147483647) (zs_1810_0 (x := x3) (by omega) (by omega) (by omega)) (by omega) ⟨by decide, by decide⟩ (by simp only [zsp]; omega)
      have hZ37U : zU [] Zs Z37 := zU_u hZ33U hZ37 (Or.inl rfl)
      have hZ37K : zC [2] Zs Z37 := zC_u hZ33K hZ37 (zcl_2w (by omega) rfl)
      intro μ9 e9
      replace e9 := e9.trans (zm_wI (Z := Z33) (ν := ν) hZ37 (show ((0 : Nat) : Int) = 0 from rfl) (show ((0 : Nat) : Int) = 0 from rfl) (i3I (y := (1810 + 2 * x3)) (i3A (show (1810 : Int32) = i3 1810 from rfl) (i3M (show (2 : Int32) = i3 2 from rfl) (rfl : i3 x3 = i3 x3))) (by omega) (by omega) (by omega)) (i3W (i3S (zm_rd (Z := Z33) (ν := ν) (k := 2) (show ((0 : Nat) : Int) = 0 from rfl) (show ((0 : Nat) : Int) = 0 from rfl) (i3I (y := (1810 + 2 * x3)) (i3A (show (1810 : Int32) = i3 1810 from rfl) (i3M (show (2 : Int32) = i3 2 from rfl) (rfl : i3 x3 = i3 x3))) (by omega) (by omega) (by omega))) (zm_rd (Z := Z) (ν := ν) (k := 2) (show ((0 : Nat) : Int) = 0 from rfl) (show ((0 : Nat) : Int) = 0 from rfl) (i3I (y := (1413 + 12 * x1)) (i3A (i3A (show (1410 : Int32) = i3 1410 from rfl) (i3M (show (12 : Int32) = i3 12 from rfl) (rfl : i3 x1 = i3 x1))) (show (3 : Int32) = i3 3 from rfl)) (by omega) (by omega) (by omega))))))
      subst e9
      refine wz_i0 (i3O (n := 4400) (i3A (show (1810 : Int32) = i3 1810 from rfl) (i3M (show (2 : Int32) = i3 2 from rfl) (rfl : i3 x3 = i3 x3))) (by omega) (by omega) (by omega)) ?_
      have r38 := zM_f hZ37I 2 0 0 (1810 + 2 * x3)
      have q39 := zu_at hZ37
      refine wz_br (i3Le (zm_rd (Z := Z37) (ν := ν) (k := 2) (show ((0 : Nat) : Int) = 0 from rfl) (show ((0 : Nat) : Int) = 0 from rfl) (i3I (y := (1810 + 2 * x3)) (i3A (show (1810 : Int32) = i3 1810 from rfl) (i3M (show (2 : Int32) = i3 2 from rfl) (rfl : i3 x3 = i3 x3))) (by omega) (by omega) (by omega))) (show (0 : Int32) = i3 0 from rfl) (by omega) (by omega) (by omega) (by omega)) (fun h40 => ?_) (fun h40 => ?_)
      · replace hP := zE_p hP h40
        refine wz_i0 (i3O (n := 4400) (i3A (i3A (show (1410 : Int32) = i3 1410 from rfl) (i3M (show (12 : Int32) = i3 12 from rfl) (rfl : i3 x1 = i3 x1))) (show (4 : Int32) = i3 4 from rfl)) (by omega) (by omega) (by omega)) ?_
        refine wz_i0 (i3O (n := 4400) (i3A (i3A (show (1410 : Int32) = i3 1410 from rfl) (i3M (show (12 : Int32) = i3 12 from rfl) (rfl : i3 x1 = i3 x1))) (show (4 : Int32) = i3 4 from rfl)) (by omega) (by omega) (by omega)) ?_
        have r41 := zM_k hZ37I 2 0 0 (1414 + 12 * x1) (lo := 0) (hi := 1) (by decide) (zs_1410_4 (x := x1) (by omega) (by omega) (by omega))
        obtain ⟨Z42, hZ42⟩ := zx (zu Z37 2 0 0 (1414 + 12 * x1) (Z37 2 0 0 (1414 + 12 * x1)))
        replace hP := zl_e hP hZ42
        have hZ42I := zM_u2 hZ37I hZ42 (lo := 0) (hi := 1) (zs_1410_4 (x := x1) (by omega) (by omega) (by omega)) (by omega) ⟨by decide, by decide⟩ (by simp only [zsp]; omega)
        have hZ42U : zU [] Zs Z42 := zU_u hZ37U hZ42 (Or.inl rfl)
        have hZ42K : zC [2] Zs Z42 := zC_u hZ37K hZ42 (zcl_2w (by omega) rfl)
        intro μ9 e9
        replace e9 := e9.trans (zm_wI (Z := Z37) (ν := ν) hZ42 (show ((0 : Nat) : Int) = 0 from rfl) (show ((0 : Nat) : Int) = 0 from rfl) (i3I (y := (1414 + 12 * x1)) (i3A (i3A (show (1410 : Int32) = i3 1410 from rfl) (i3M (show (12 : Int32) = i3 12 from rfl) (rfl : i3 x1 = i3 x1))) (show (4 : Int32) = i3 4 from rfl)) (by omega) (by omega) (by omega)) (zm_rd (Z := Z37) (ν := ν) (k := 2) (show ((0 : Nat) : Int) = 0 from rfl) (show ((0 : Nat) : Int) = 0 from rfl) (i3I (y := (1414 + 12 * x1)) (i3A (i3A (show (1410 : Int32) = i3 1410 from rfl) (i3M (show (12 : Int32) = i3 12 from rfl) (rfl : i3 x1 = i3 x1))) (show (4 : Int32) = i3 4 from rfl)) (by omega) (by omega) (by omega))))
        subst e9
        refine wz_i0 (i3O (n := 4400) (i3A (i3A (show (1810 : Int32) = i3 1810 from rfl) (i3M (show (2 : Int32) = i3 2 from rfl) (rfl : i3 x3 = i3 x3))) (show (1 : Int32) = i3 1 from rfl)) (by omega) (by omega) (by omega)) ?_
        have r43 := zM_f hZ42I 2 0 0 (1811 + 2 * x3)
        have r44 := zM_py hZ42I x3
        have q45 := (zu_ne (k' := 2) (b' := 0) (i' := 0) (j' := (1811 + 2 * x3)) hZ42 (fun q => absurd q.2.2.2 (by omega))).trans ((zu_ne (k' := 2) (b' := 0) (i' := 0) (j' := (1811 + 2 * x3)) hZ37 (fun q => absurd q.2.2.2 (by omega))).trans (zu_ne (k' := 2) (b' := 0) (i' := 0) (j' := (1811 + 2 * x3)) hZ33 (fun q => absurd q.2.2.2 (by omega))))
        obtain ⟨v46, hv46, c9, lv46, uv46, wv460⟩ := sp_269 (ν := ν) hZ42I (a1 := x1) (by omega) (a2 := x2) (by omega) (a3 := (Z42 2 0 0 (1811 + 2 * x3))) (by omega) (a4 := x3) (by omega) (zbh (c := 0) (k := 0) hM (Nat.le_of_ble_eq_true rfl))
        replace hP := zl_e hP hv46
        refine wz_cI_of (zas (zcons rfl (zcons (zvi (rfl : i3 x1 = i3 x1)) (zcons (zvi (rfl : i3 x2 = i3 x2)) (zcons (zvi (zm_rd (Z := Z42) (ν := ν) (k := 2) (show ((0 : Nat) : Int) = 0 from rfl) (show ((0 : Nat) : Int) = 0 from rfl) (i3I (y := (1811 + 2 * x3)) (i3A (i3A (show (1810 : Int32) = i3 1810 from rfl) (i3M (show (2 : Int32) = i3 2 from rfl) (rfl : i3 x3 = i3 x3))) (show (1 : Int32) = i3 1 from rfl)) (by omega) (by omega) (by omega)))) (zcons (zvi (rfl : i3 x3 = i3 x3)) rfl))))) c9) ?_
        clear c9
        have r47 := zM_f hZ42I 2 0 0 (1811 + 2 * v46)
        have r48 := zM_py hZ42I v46
        have w49 : v46 = -1 ∨ (Z42 2 0 0 (1811 + 2 * x3)) < Z42 2 0 0 (1811 + 2 * v46) ∨ Z42 2 0 0 (1811 + 2 * v46) = (Z42 2 0 0 (1811 + 2 * x3)) ∧ x3 < v46 := wv460
        obtain ⟨m2, rfl⟩ : ∃ m2, m = m2 + 1 := ⟨m - 1, by omega⟩
        exact wz_k1 ⟨m2, by omega, Z42, v46, (zconso rfl (zconso (zvo (rfl : i3 x1 = i3 x1)) (zconso (zvo (rfl : i3 x2 = i3 x2)) (zconso (zvo (rfl : i3 v46 = i3 v46)) (zconso rfl (zconso rfl rfl)))))), rfl, hZ42I, hZ42K, hZ42U, by omega, by omega,  hP⟩
      · replace hP := zE_n hP h40
        refine wz_i0 (i3O (n := 4400) (i3A (i3A (show (1410 : Int32) = i3 1410 from rfl) (i3M (show (12 : Int32) = i3 12 from rfl) (rfl : i3 x1 = i3 x1))) (show (4 : Int32) = i3 4 from rfl)) (by omega) (by omega) (by omega)) ?_
        obtain ⟨Z50, hZ50⟩ := zx (zu Z37 2 0 0 (1414 + 12 * x1) 1)
        replace hP := zl_e hP hZ50
        have hZ50I := zM_u2 hZ37I hZ50 (lo := 0) (hi := 1) (zs_1410_4 (x := x1) (by omega) (by omega) (by omega)) (by omega) ⟨by decide, by decide⟩ (by simp only [zsp]; omega)
        have hZ50U : zU [] Zs Z50 := zU_u hZ37U hZ50 (Or.inl rfl)
        have hZ50K : zC [2] Zs Z50 := zC_u hZ37K hZ50 (zcl_2w (by omega) rfl)
        intro μ9 e9
        replace e9 := e9.trans (zm_wI (Z := Z37) (ν := ν) hZ50 (show ((0 : Nat) : Int) = 0 from rfl) (show ((0 : Nat) : Int) = 0 from rfl) (i3I (y := (1414 + 12 * x1)) (i3A (i3A (show (1410 : Int32) = i3 1410 from rfl) (i3M (show (12 : Int32) = i3 12 from rfl) (rfl : i3 x1 = i3 x1))) (show (4 : Int32) = i3 4 from rfl)) (by omega) (by omega) (by omega)) (show (1 : Int32) = i3 1 from rfl))
        subst e9
        refine wz_i0 (i3O (n := 4400) (i3A (i3A (show (1810 : Int32) = i3 1810 from rfl) (i3M (show (2 : Int32) = i3 2 from rfl) (rfl : i3 x3 = i3 x3))) (show (1 : Int32) = i3 1 from rfl)) (by omega) (by omega) (by omega)) ?_
        have r51 := zM_f hZ50I 2 0 0 (1811 + 2 * x3)
        have r52 := zM_py hZ50I x3
        have q53 := (zu_ne (k' := 2) (b' := 0) (i' := 0) (j' := (1811 + 2 * x3)) hZ50 (fun q => absurd q.2.2.2 (by omega))).trans ((zu_ne (k' := 2) (b' := 0) (i' := 0) (j' := (1811 + 2 * x3)) hZ37 (fun q => absurd q.2.2.2 (by omega))).trans (zu_ne (k' := 2) (b' := 0) (i' := 0) (j' := (1811 + 2 * x3)) hZ33 (fun q => absurd q.2.2.2 (by omega))))
        obtain ⟨v54, hv54, c9, lv54, uv54, wv540⟩ := sp_269 (ν := ν) hZ50I (a1 := x1) (by omega) (a2 := x2) (by omega) (a3 := (Z50 2 0 0 (1811 + 2 * x3))) (by omega) (a4 := x3) (by omega) (zbh (c := 0) (k := 0) hM (Nat.le_of_ble_eq_true rfl))
        replace hP := zl_e hP hv54
        refine wz_cI_of (zas (zcons rfl (zcons (zvi (rfl : i3 x1 = i3 x1)) (zcons (zvi (rfl : i3 x2 = i3 x2)) (zcons (zvi (zm_rd (Z := Z50) (ν := ν) (k := 2) (show ((0 : Nat) : Int) = 0 from rfl) (show ((0 : Nat) : Int) = 0 from rfl) (i3I (y := (1811 + 2 * x3)) (i3A (i3A (show (1810 : Int32) = i3 1810 from rfl) (i3M (show (2 : Int32) = i3 2 from rfl) (rfl : i3 x3 = i3 x3))) (show (1 : Int32) = i3 1 from rfl)) (by omega) (by omega) (by omega)))) (zcons (zvi (rfl : i3 x3 = i3 x3)) rfl))))) c9) ?_
        clear c9
        have r55 := zM_f hZ50I 2 0 0 (1811 + 2 * v54)
        have r56 := zM_py hZ50I v54
        have w57 : v54 = -1 ∨ (Z50 2 0 0 (1811 + 2 * x3)) < Z50 2 0 0 (1811 + 2 * v54) ∨ Z50 2 0 0 (1811 + 2 * v54) = (Z50 2 0 0 (1811 + 2 * x3)) ∧ x3 < v54 := wv540
        obtain ⟨m2, rfl⟩ : ∃ m2, m = m2 + 1 := ⟨m - 1, by omega⟩
        exact wz_k1 ⟨m2, by omega, Z50, v54, (zconso rfl (zconso (zvo (rfl : i3 x1 = i3 x1)) (zconso (zvo (rfl : i3 x2 = i3 x2)) (zconso (zvo (rfl : i3 v54 = i3 v54)) (zconso rfl (zconso rfl rfl)))))), rfl, hZ50I, hZ50K, hZ50U, by omega, by omega,  hP⟩
/- yX12_bPays -/
def zf_281 (Z : qz_Z) (a1 : Int) (a2 : Int) : qz_Z := (zlet (zu Z 2 0 0 (1414 + 12 * a1) 0) (fun Z1 => (zlet (zf_269 Z1 a1 a2 (-1) (-1)) (fun v2 => (zlet2 (zl_281_1 a1 a2 2601 Z1 v2) (fun Z7 y6 => Z7))))))
theorem sp_281 {s : zSM} {Z : qz_Z} {ν : qz_N} (hZ : zM s Z) {a1 : Int} (ga1 : 0 ≤ a1 ∧ a1 ≤ 7) {a2 : Int} (ga2 : 0 ≤ a2 ∧ a2 ≤ 27) (hM : s.2 + 0 ≤ 1000000000) : ∃ P : qz_Z, P = zf_281 Z a1 a2 ∧ (qf_281 [.inr (.inr (some (1, 0, 0))), .inl (i3 a1), .inl (i3 a2)] (zm Z ν) = some (zm P ν, .inl none) ∧ zM s P ∧ zC [2] Z P ∧ zU [] Z P) := by
  obtain ⟨P, hP⟩ := zx (zf_281 Z a1 a2)
  refine zc_V (Q := fun P => zM s P ∧ zC [2] Z P ∧ zU [] Z P) hP (fw_281 (i3 a1) (i3 a2) _ _ ?_)
  replace hP : zE P (zf_281 Z a1 a2) := hP
  unfold zf_281 at hP
  refine wz_i0 (i3O (n := 4400) (i3A (i3A (show (1410 : Int32) = i3 1410 from rfl) (i3M (show (12 : Int32) = i3 12 from rfl) (rfl : i3 a1 = i3 a1))) (show (4 : Int32) = i3 4 from rfl)) (by omega) (by omega) (by omega)) ?_
  obtain ⟨Z1, hZ1⟩ := zx (zu Z 2 0 0 (1414 + 12 * a1) 0)
  replace hP := zl_e hP hZ1
  have hZ1I := zM_02 hZ hZ1 (by simp only [zsp]; omega)
  have hZ1U : zU [] Z Z1 := zU_u zU_r hZ1 (Or.inl rfl)
  have hZ1K : zC [2] Z Z1 := zC_u zC_r hZ1 (zcl_2w (by omega) rfl)
  intro μ9 e9
  replace e9 := e9.trans (zm_wI (Z := Z) (ν := ν) hZ1 (show ((0 : Nat) : Int) = 0 from rfl) (show ((0 : Nat) : Int) = 0 from rfl) (i3I (y := (1414 + 12 * a1)) (i3A (i3A (show (1410 : Int32) = i3 1410 from rfl) (i3M (show (12 : Int32) = i3 12 from rfl) (rfl : i3 a1 = i3 a1))) (show (4 : Int32) = i3 4 from rfl)) (by omega) (by omega) (by omega)) (show (0 : Int32) = i3 0 from rfl))
  subst e9
  obtain ⟨v2, hv2, c9, lv2, uv2, wv20⟩ := sp_269 (ν := ν) hZ1I (a1 := a1) (by omega) (a2 := a2) (by omega) (a3 := (-1)) (by omega) (a4 := (-1)) (by omega) (zbh (c := 0) (k := 0) hM (Nat.le_of_ble_eq_true rfl))
  replace hP := zl_e hP hv2
  refine wz_cI_of (zas (zcons rfl (zcons (zvi (rfl : i3 a1 = i3 a1)) (zcons (zvi (rfl : i3 a2 = i3 a2)) (zcons (zvi (show (-1 : Int32) = i3 (-1) from rfl)) (zcons (zvi (show (-1 : Int32) = i3 (-1) from rfl)) rfl))))) c9) ?_
  clear c9
  have r3 := zM_f hZ1I 2 0 0 (1811 + 2 * v2)
  have r4 := zM_py hZ1I v2
  have w5 : v2 = -1 ∨ (-1) < Z1 2 0 0 (1811 + 2 * v2) ∨ Z1 2 0 0 (1811 + 2 * v2) = (-1) ∧ (-1) < v2 := wv20
  refine sl_281_1 (ν := ν) hZ1I (zbh (c := 0) (k := 0) hM (Nat.le_of_ble_eq_true rfl)) zC_r (x1 := a1) (by omega) (x2 := a2) (by omega) (x3 := v2) (by omega) zU_r (by omega) (zconso rfl (zconso (zvo (rfl : i3 a1 = i3 a1)) (zconso (zvo (rfl : i3 a2 = i3 a2)) (zconso (zvo (rfl : i3 v2 = i3 v2)) (zconso rfl (zconso rfl rfl)))))) rfl ?_
  intro L8 Z7 y6 hL8 hZ7I kZ7 jZ7 gy6 q9
  replace hP := zl_e2 hP (Eq.symm q9)
  clear q9
  have hZ7U : zU [] Z Z7 := zU_t hZ1U jZ7 zU_b0
  have hZ7K : zC [2] Z Z7 := zC_t hZ1K kZ7 (by decide)
  refine fc_281_2  _ _ _ _ hL8 ?_
  exact zlV hP ⟨hZ7I, hZ7K, hZ7U⟩
/- yX12_bClose -/
def zl_265_1 (x1 : Int) : Nat → qz_Z → Int → qz_Z × Int
  | 0, Z, x2 => (Z, x2)
  | m + 1, Z, x2 => (if (Z 2 0 0 1400) ≤ x2 then (Z, x2) else (zlet (zf_281 Z x2 x1) (fun Z3 => zl_265_1 x1 m Z3 (x2 + 1))))
theorem sl_265_1 {s : zSM} {Zs Z : qz_Z} {ν : qz_N} (hZ : zM s Z) (hM : s.2 + 0 ≤ 1000000000) (hK : zC [2] Zs Z) {x1 : Int} (gx1 : 0 ≤ x1 ∧ x1 ≤ 27) {x2 : Int} (gx2 : 0 ≤ x2 ∧ x2 ≤ 8) (hU : zU [] Zs Z) {k : wz_K} {R : wz_R} {L : qz_L} (hL : qz_fg [true, true, true] L = [some (.inr (.inr (some (1, 0, 0)))), some (.inl (i3 x1)), some (.inl (i3 x2))]) {T : qz_Z × Int} (hP : zE T (zl_265_1 x1 ((8 - x2).toNat + 1) Z x2)) (hk : ∀ (L9 : qz_L) (Z9 : qz_Z) (yx2 : Int), qz_fg [true, false, false] L9 = [some (.inr (.inr (some (1, 0, 0)))), none, none] → zM s Z9 → zC [2] Zs Z9 → zU [] Zs Z9 → (0 ≤ yx2 ∧ yx2 ≤ 8) → zE T ((Z9, yx2)) → k 0 (L9, [], zm Z9 ν)) : wz_loop qb_265_1 65536 k R (L, [], zm Z ν) := by
  refine wz_lp sb_265_1 (fun m x => ∃ Z : qz_Z, ∃ x2 : Int, qz_fg [true, true, true] x.1 = [some (.inr (.inr (some (1, 0, 0)))), some (.inl (i3 x1)), some (.inl (i3 x2))] ∧ x.2 = ([], zm Z ν) ∧ zM s Z ∧ zC [2] Zs Z ∧ zU [] Zs Z ∧ m = (8 - x2).toNat ∧ (0 ≤ x2 ∧ x2 ≤ 8) ∧ zE T (zl_265_1 x1 (m + 1) Z x2)) ?_ 65536 ((8 - x2).toNat) _ (by omega) ⟨Z, x2, hL, rfl, hZ, hK, hU, rfl, gx2, hP⟩
  clear hP gx2 hZ hK hU hL
  clear x2
  clear Z
  rintro m ⟨L, st, μ⟩ ⟨Z, x2, hL, hx, hZ, hK, hU, hm, gx2, hP⟩
  cases hx
  refine fb_265_1 (i3 x1) (i3 x2) _ _ _ _ hL ?_
  have r1 := zM_k hZ 2 0 0 1400 (lo := 0) (hi := 8) (by decide) rfl
  refine wz_br (i3Le (zm_rd (Z := Z) (ν := ν) (k := 2) (show ((0 : Nat) : Int) = 0 from rfl) (show ((0 : Nat) : Int) = 0 from rfl) (show ((1400 : Nat) : Int) = 1400 from rfl)) (rfl : i3 x2 = i3 x2) (by omega) (by omega) (by omega) (by omega)) (fun h2 => ?_) (fun h2 => ?_)
  · replace hP := zE_p hP h2
    exact hk _ _ _ (zconso rfl (zconso rfl (zconso rfl rfl))) hZ hK hU (by omega)  hP
  · replace hP := zE_n hP h2
    obtain ⟨Z3, hZ3, c9, hZ3I, kZ3, jZ3⟩ := sp_281 (ν := ν) hZ (a1 := x2) (by omega) (a2 := x1) (by omega) (zbh (c := 0) (k := 0) hM (Nat.le_of_ble_eq_true rfl))
    have hZ3U : zU [] Zs Z3 := zU_t hU jZ3 zU_b0
    have hZ3K : zC [2] Zs Z3 := zC_t hK kZ3 (by decide)
    replace hP := zl_e hP hZ3
    refine wz_cV_of (zas (zcons rfl (zcons (zvi (rfl : i3 x2 = i3 x2)) (zcons (zvi (rfl : i3 x1 = i3 x1)) rfl))) c9) ?_
    clear c9
    obtain ⟨m2, rfl⟩ : ∃ m2, m = m2 + 1 := ⟨m - 1, by omega⟩
    exact wz_k1 ⟨m2, by omega, Z3, (x2 + 1), (zconso rfl (zconso (zvo (rfl : i3 x1 = i3 x1)) (zconso (zvo (i3A (rfl : i3 x2 = i3 x2) (show (1 : Int32) = i3 1 from rfl))) rfl))), rfl, hZ3I, hZ3K, hZ3U, by omega, by omega,  hP⟩
/- yX12_bClose -/
def zl_265_2 : Nat → qz_Z → Int → qz_Z × Int
  | 0, Z, x2 => (Z, x2)
  | m + 1, Z, x2 => (if (Z 2 0 0 1401) ≤ x2 then (Z, x2) else (if (Z 2 0 0 (1517 + 12 * x2)) ≠ 0 then zl_265_2 m Z (x2 + 1) else (if (z2 (fun x y => x &&& y) (z2 (fun x y => x >>> (y &&& 31)) (Z 2 0 0 (1515 + 12 * x2)) (((Z 2 0 0 0) / 24) % 7)) 1) ≠ 1 then zl_265_2 m Z (x2 + 1) else (zlet (zu Z 2 0 0 (1516 + 12 * x2) (Z 2 0 0 (1513 + 12 * x2))) (fun Z12 => zl_265_2 m Z12 (x2 + 1))))))
theorem sl_265_2 {s : zSM} {Zs Z : qz_Z} {ν : qz_N} (hZ : zM s Z) (hM : s.2 + 0 ≤ 1000000000) (hK : zC [2] Zs Z) {x2 : Int} (gx2 : 0 ≤ x2 ∧ x2 ≤ 24) (hU : zU [] Zs Z) {k : wz_K} {R : wz_R} {L : qz_L} (hL : qz_fg [true, false, true] L = [some (.inr (.inr (some (1, 0, 0)))), none, some (.inl (i3 x2))]) {T : qz_Z × Int} (hP : zE T (zl_265_2 ((24 - x2).toNat + 1) Z x2)) (hk : ∀ (L9 : qz_L) (Z9 : qz_Z) (yx2 : Int), qz_fg [false, false, false] L9 = [none, none, none] → zM s Z9 → zC [2] Zs Z9 → zU [] Zs Z9 → (0 ≤ yx2 ∧ yx2 ≤ 24) → zE T ((Z9, yx2)) → k 0 (L9, [], zm Z9 ν)) : wz_loop qb_265_2 65536 k R (L, [], zm Z ν) := by
  refine wz_lp sb_265_2 (fun m x => ∃ Z : qz_Z, ∃ x2 : Int, qz_fg [true, false, true] x.1 = [some (.inr (.inr (some (1, 0, 0)))), none, some (.inl (i3 x2))] ∧ x.2 = ([], zm Z ν) ∧ zM s Z ∧ zC [2] Zs Z ∧ zU [] Zs Z ∧ m = (24 - x2).toNat ∧ (0 ≤ x2 ∧ x2 ≤ 24) ∧ zE T (zl_265_2 (m + 1) Z x2)) ?_ 65536 ((24 - x2).toNat) _ (by omega) ⟨Z, x2, hL, rfl, hZ, hK, hU, rfl, gx2, hP⟩
  clear hP gx2 hZ hK hU hL
  clear x2
  clear Z
  rintro m ⟨L, st, μ⟩ ⟨Z, x2, hL, hx, hZ, hK, hU, hm, gx2, hP⟩
  cases hx
  refine fb_265_2 (i3 x2) _ _ _ _ hL ?_
  have r1 := zM_k hZ 2 0 0 1401 (lo := 0) (hi := 24) (by decide) rfl
  refine wz_br (i3Le (zm_rd (Z := Z) (ν := ν) (k := 2) (show ((0 : Nat) : Int) = 0 from rfl) (show ((0 : Nat) : Int) = 0 from rfl) (show ((1401 : Nat) : Int) = 1401 from rfl)) (rfl : i3 x2 = i3 x2) (by omega) (by omega) (by omega) (by omega)) (fun h2 => ?_) (fun h2 => ?_)
  · replace hP := zE_p hP h2
    exact hk _ _ _ (zconso rfl (zconso rfl (zconso rfl rfl))) hZ hK hU (by omega)  hP
  · replace hP := zE_n hP h2
    refine wz_i0 (i3O (n := 4400) (i3A (i3A (show (1510 : Int32) = i3 1510 from rfl) (i3M (show (12 : Int32) = i3 12 from rfl) (rfl : i3 x2 = i3 x2))) (show (7 : Int32) = i3 7 from rfl)) (by omega) (by omega) (by omega)) ?_
    have r3 := zM_k hZ 2 0 0 (1517 + 12 * x2) (lo := 0) (hi := 1) (by decide) (zs_1510_7 (x := x2) (by omega) (by omega) (by omega))
    refine wz_br (i3NE (zm_rd (Z := Z) (ν := ν) (k := 2) (show ((0 : Nat) : Int) = 0 from rfl) (show ((0 : Nat) : Int) = 0 from rfl) (i3I (y := (1517 + 12 * x2)) (i3A (i3A (show (1510 : Int32) = i3 1510 from rfl) (i3M (show (12 : Int32) = i3 12 from rfl) (rfl : i3 x2 = i3 x2))) (show (7 : Int32) = i3 7 from rfl)) (by omega) (by omega) (by omega))) (show (0 : Int32) = i3 0 from rfl) (by omega) (by omega) (by omega) (by omega)) (fun h4 => ?_) (fun h4 => ?_)
    · replace hP := zE_p hP h4
      obtain ⟨m2, rfl⟩ : ∃ m2, m = m2 + 1 := ⟨m - 1, by omega⟩
      exact wz_k1 ⟨m2, by omega, Z, (x2 + 1), (zconso rfl (zconso rfl (zconso (zvo (i3A (rfl : i3 x2 = i3 x2) (show (1 : Int32) = i3 1 from rfl))) rfl))), rfl, hZ, hK, hU, by omega, by omega,  hP⟩
    · replace hP := zE_n hP h4
      refine wz_i0 (i3O (n := 4400) (i3A (i3A (show (1510 : Int32) = i3 1510 from rfl) (i3M (show (12 : Int32) = i3 12 from rfl) (rfl : i3 x2 = i3 x2))) (show (5 : Int32) = i3 5 from rfl)) (by omega) (by omega) (by omega)) ?_
      have r5 := zM_k hZ 2 0 0 (1515 + 12 * x2) (lo := 0) (hi := 127) (by decide) (zs_1510_5 (x := x2) (by omega) (by omega) (by omega))
      have r6 := zM_k hZ 2 0 0 0 (lo := 0) (hi := 671) (by decide) rfl
      have r7 := z2_r (fun x y => x >>> (y &&& 31)) (Z 2 0 0 (1515 + 12 * x2)) (((Z 2 0 0 0) / 24) % 7)
      have r8 := z2_r (fun x y => x &&& y) (z2 (fun x y => x >>> (y &&& 31)) (Z 2 0 0 (1515 + 12 * x2)) (((Z 2 0 0 0) / 24) % 7)) 1
      have r9 := z2_and (z2 (fun x y => x >>> (y &&& 31)) (Z 2 0 0 (1515 + 12 * x2)) (((Z 2 0 0 0) / 24) % 7)) (y := 1) (by omega) (by omega)
      refine wz_br (i3NE (i3Z (fun x y => x &&& y) (i3Z (fun x y => x >>> (y &&& 31)) (zm_rd (Z := Z) (ν := ν) (k := 2) (show ((0 : Nat) : Int) = 0 from rfl) (show ((0 : Nat) : Int) = 0 from rfl) (i3I (y := (1515 + 12 * x2)) (i3A (i3A (show (1510 : Int32) = i3 1510 from rfl) (i3M (show (12 : Int32) = i3 12 from rfl) (rfl : i3 x2 = i3 x2))) (show (5 : Int32) = i3 5 from rfl)) (by omega) (by omega) (by omega))) (i3R (i3D (zm_rd (Z := Z) (ν := ν) (k := 2) (show ((0 : Nat) : Int) = 0 from rfl) (show ((0 : Nat) : Int) = 0 from rfl) (show ((0 : Nat) : Int) = 0 from rfl)) (show (24 : Int32) = i3 24 from rfl) (by omega) (by omega) (by omega) (by omega)) (show (7 : Int32) = i3 7 from rfl) (by omega) (by omega) (by omega) (by omega))) (show (1 : Int32) = i3 1 from rfl)) (show (1 : Int32) = i3 1 from rfl) (by omega) (by omega) (by omega) (by omega)) (fun h10 => ?_) (fun h10 => ?_)
      · replace hP := zE_p hP h10
        obtain ⟨m2, rfl⟩ : ∃ m2, m = m2 + 1 := ⟨m - 1, by omega⟩
        exact wz_k1 ⟨m2, by omega, Z, (x2 + 1), (zconso rfl (zconso rfl (zconso (zvo (i3A (rfl : i3 x2 = i3 x2) (show (1 : Int32) = i3 1 from rfl))) rfl))), rfl, hZ, hK, hU, by omega, by omega,  hP⟩
      · replace hP := zE_n hP h10
        refine wz_i0 (i3O (n := 4400) (i3A (i3A (show (1510 : Int32) = i3 1510 from rfl) (i3M (show (12 : Int32) = i3 12 from rfl) (rfl : i3 x2 = i3 x2))) (show (3 : Int32) = i3 3 from rfl)) (by omega) (by omega) (by omega)) ?_
        refine wz_i0 (i3O (n := 4400) (i3A (i3A (show (1510 : Int32) = i3 1510 from rfl) (i3M (show (12 : Int32) = i3 12 from rfl) (rfl : i3 x2 = i3 x2))) (show (6 : Int32) = i3 6 from rfl)) (by omega) (by omega) (by omega)) ?_
        have r11 := zM_k hZ 2 0 0 (1513 + 12 * x2) (lo := 0) (hi := 99) (by decide) (zs_1510_3 (x := x2) (by omega) (by omega) (by omega))
        obtain ⟨Z12, hZ12⟩ := zx (zu Z 2 0 0 (1516 + 12 * x2) (Z 2 0 0 (1513 + 12 * x2)))
        replace hP := zl_e hP hZ12
        have hZ12I := zM_u2 hZ hZ12 (lo := 0) (hi := 99) (zs_1510_6 (x := x2) (by omega) (by omega) (by omega)) (by omega) ⟨by decide, by decide⟩ (by simp only [zsp]; omega)
        have hZ12U : zU [] Zs Z12 := zU_u hU hZ12 (Or.inl rfl)
        have hZ12K : zC [2] Zs Z12 := zC_u hK hZ12 (zcl_2w (by omega) rfl)
        intro μ9 e9
        replace e9 := e9.trans (zm_wI (Z := Z) (ν := ν) hZ12 (show ((0 : Nat) : Int) = 0 from rfl) (show ((0 : Nat) : Int) = 0 from rfl) (i3I (y := (1516 + 12 * x2)) (i3A (i3A (show (1510 : Int32) = i3 1510 from rfl) (i3M (show (12 : Int32) = i3 12 from rfl) (rfl : i3 x2 = i3 x2))) (show (6 : Int32) = i3 6 from rfl)) (by omega) (by omega) (by omega)) (zm_rd (Z := Z) (ν := ν) (k := 2) (show ((0 : Nat) : Int) = 0 from rfl) (show ((0 : Nat) : Int) = 0 from rfl) (i3I (y := (1513 + 12 * x2)) (i3A (i3A (show (1510 : Int32) = i3 1510 from rfl) (i3M (show (12 : Int32) = i3 12 from rfl) (rfl : i3 x2 = i3 x2))) (show (3 : Int32) = i3 3 from rfl)) (by omega) (by omega) (by omega))))
        subst e9
        obtain ⟨m2, rfl⟩ : ∃ m2, m = m2 + 1 := ⟨m - 1, by omega⟩
        exact wz_k1 ⟨m2, by omega, Z12, (x2 + 1), (zconso rfl (zconso rfl (zconso (zvo (i3A (rfl : i3 x2 = i3 x2) (show (1 : Int32) = i3 1 from rfl))) rfl))), rfl, hZ12I, hZ12K, hZ12U, by omega, by omega,  hP⟩
/- yX12_bClose -/
def zf_265 (Z : qz_Z) (a1 : Int) : qz_Z := (zlet2 (zl_265_1 a1 9 Z 0) (fun Z2 y1 => (zlet2 (zl_265_2 25 Z2 0) (fun Z5 y4 => Z5))))
theorem sp_265 {s : zSM} {Z : qz_Z} {ν : qz_N} (hZ : zM s Z) {a1 : Int} (ga1 : 0 ≤ a1 ∧ a1 ≤ 27) (hM : s.2 + 0 ≤ 1000000000) : ∃ P : qz_Z, P = zf_265 Z a1 ∧ (qf_265 [.inr (.inr (some (1, 0, 0))), .inl (i3 a1)] (zm Z ν) = some (zm P ν, .inl none) ∧ zM s P ∧ zC [2] Z P ∧ zU [] Z P) := by
  obtain ⟨P, hP⟩ := zx (zf_265 Z a1)
  refine zc_V (Q := fun P => zM s P ∧ zC [2] Z P ∧ zU [] Z P) hP (fw_265 (i3 a1) _ _ ?_)
  replace hP : zE P (zf_265 Z a1) := hP
  unfold zf_265 at hP
  refine sl_265_1 (ν := ν) hZ (zbh (c := 0) (k := 0) hM (Nat.le_of_ble_eq_true rfl)) zC_r (x1 := a1) (by omega) (x2 := 0) (by omega) zU_r  (zconso rfl (zconso (zvo (rfl : i3 a1 = i3 a1)) (zconso (zvo (show (0 : Int32) = i3 0 from rfl)) rfl))) rfl ?_
  intro L3 Z2 y1 hL3 hZ2I kZ2 jZ2 gy1 q9
  replace hP := zl_e2 hP (Eq.symm q9)
  clear q9
  have hZ2U : zU [] Z Z2 := zU_t zU_r jZ2 zU_b0
  have hZ2K : zC [2] Z Z2 := zC_t zC_r kZ2 (by decide)
  refine fc_265_4  _ _ _ _ hL3 ?_
  refine sl_265_2 (ν := ν) hZ2I (zbh (c := 0) (k := 0) hM (Nat.le_of_ble_eq_true rfl)) zC_r (x2 := 0) (by omega) zU_r  (zconso rfl (zconso rfl (zconso (zvo (show (0 : Int32) = i3 0 from rfl)) rfl))) rfl ?_
  intro L6 Z5 y4 hL6 hZ5I kZ5 jZ5 gy4 q9
  replace hP := zl_e2 hP (Eq.symm q9)
  clear q9
  have hZ5U : zU [] Z Z5 := zU_t hZ2U jZ5 zU_b0
  have hZ5K : zC [2] Z Z5 := zC_t hZ2K kZ5 (by decide)
  refine fc_265_3  _ _ _ _ hL6 ?_
  exact zlV hP ⟨hZ5I, hZ5K, hZ5U⟩
/- yX12_cHour -/
def zl_301_1 (x1 : Int) : Nat → qz_Z → Int → qz_Z × Int
  | 0, Z, x2 => (Z, x2)
  | m + 1, Z, x2 => (if (Z 2 0 0 (3012 + 60 * x1)) ≤ x2 then (Z, x2) else (if ((Z 2 0 0 0) % 24) < (Z 2 0 0 (3010 + 60 * x1)) then (Z, x2) else (if (((Z 2 0 0 (3010 + 60 * x1)) + (Z 2 0 0 (3011 + 60 * x1))) - 1) < ((Z 2 0 0 0) % 24) then (Z, x2) else (if (Z 2 0 0 (3015 + 60 * x1)) ≤ 0 then (Z, x2) else (zlet (zf_309 Z x1) (fun Z14 => zl_301_1 x1 m Z14 (x2 + 1)))))))
/- yX12_cHour -/
def zl_301_3 : Nat → qz_Z → Int → qz_Z × Int
  | 0, Z, x1 => (Z, x1)
  | m + 1, Z, x1 => (if (Z 2 0 0 3000) ≤ x1 then (Z, x1) else (zlet2 (zl_301_1 x1 7 Z 0) (fun Z4 y3 => zl_301_3 m Z4 (x1 + 1))))
/- yX12_cHour -/
def zf_301 (Z : qz_Z) : qz_Z := (zlet2 (zl_301_3 3 Z 0) (fun Z2 y1 => Z2))
/- yX12_iKeep -/
def zl_363_1 (x1 : Int) (x2 : Int) (x3 : Int) (x4 : Int) (x5 : Int) : Nat → qz_Z → Int → qz_Z × Int
  | 0, Z, x6 => (Z, x6)
  | m + 1, Z, x6 => (if 138 ≤ x6 then (Z, x6) else (zlet (zu Z 2 0 0 (3560 + x6) (Z 2 0 0 (3566 + x6))) (fun Z4 => zl_363_1 x1 x2 x3 x4 x5 m Z4 (x6 + 1))))
theorem sl_363_1 {s : zSM} {Zs Z : qz_Z} {ν : qz_N} (hZ : zM s Z) (hM : s.2 + 0 ≤ 1000000000) (hK : zC [2] Zs Z) {x1 : Int} (gx1 : 0 ≤ x1 ∧ x1 ≤ 1) {x2 : Int} (gx2 : 0 ≤ x2 ∧ x2 ≤ 47) {x3 : Int} (gx3 : 0 ≤ x3 ∧ x3 ≤ 2) {x4 : Int} (gx4 : 0 ≤ x4 ∧ x4 ≤ 9) {x5 : Int} (gx5 : -1 ≤ x5 ∧ x5 ≤ 3) {x6 : Int} (gx6 : 0 ≤ x6 ∧ x6 ≤ 138) (hU : zU [] Zs Z) (gr0 : Z 2 0 0 3501 = 24) {k : wz_K} {R : wz_R} {L : qz_L} (hL : qz_fg [true, true, true, true, true, true, true] L = [some (.inr (.inr (some (1, 0, 0)))), some (.inl (i3 x1)), some (.inl (i3 x2)), some (.inl (i3 x3)), some (.inl (i3 x4)), some (.inl (i3 x5)), some (.inl (i3 x6))]) {T : qz_Z × Int} (hP : zE T (zl_363_1 x1 x2 x3 x4 x5 ((138 - x6).toNat + 1) Z x6)) (hk : ∀ (L9 : qz_L) (Z9 : qz_Z) (yx6 : Int), qz_fg [true, true, true, true, true, true, false] L9 = [some (.inr (.inr (some (1, 0, 0)))), some (.inl (i3 x1)), some (.inl (i3 x2)), some (.inl (i3 x3)), some (.inl (i3 x4)), some (.inl (i3 x5)), none] → zM s Z9 → zC [2] Zs Z9 → zU [] Zs Z9 → (0 ≤ yx6 ∧ yx6 ≤ 138) → (Z9 2 0 0 3501 = 24) → zE T ((Z9, yx6)) → k 0 (L9, [], zm Z9 ν)) : wz_loop qb_363_1 65536 k R (L, [], zm Z ν) := by
  refine wz_lp sb_363_1 (fun m x => ∃ Z : qz_Z, ∃ x6 : Int, qz_fg [true, true, true, true, true, true, true] x.1 = [some (.inr (.inr (some (1, 0, 0)))), some (.inl (i3 x1)), some (.inl (i3 x2)), some (.inl (i3 x3)), some (.inl (i3 x4)), some (.inl (i3 x5)), some (.inl (i3 x6))] ∧ x.2 = ([], zm Z ν) ∧ zM s Z ∧ zC [2] Zs Z ∧ zU [] Zs Z ∧ m = (138 - x6).toNat ∧ (0 ≤ x6 ∧ x6 ≤ 138) ∧ (Z 2 0 0 3501 = 24) ∧ zE T (zl_363_1 x1 x2 x3 x4 x5 (m + 1) Z x6)) ?_ 65536 ((138 - x6).toNat) _ (by omega) ⟨Z, x6, hL, rfl, hZ, hK, hU, rfl, gx6, gr0, hP⟩
  clear hP gr0 gx6 hZ hK hU hL
  clear x6
  clear Z
  rintro m ⟨L, st, μ⟩ ⟨Z, x6, hL, hx, hZ, hK, hU, hm, gx6, gr0, hP⟩
  cases hx
  refine fb_363_1 (i3 x1) (i3 x2) (i3 x3) (i3 x4) (i3 x5) (i3 x6) _ _ _ _ hL ?_
  have r1 := zM_k hZ 2 0 0 3501 (lo := 0) (hi := 24) (by decide) rfl
  refine wz_br (i3Le (show (138 : Int32) = i3 138 from rfl) (rfl : i3 x6 = i3 x6) (by omega) (by omega) (by omega) (by omega)) (fun h2 => ?_) (fun h2 => ?_)
  · replace hP := zE_p hP h2
    exact hk _ _ _ (zconso rfl (zconso (zvo (rfl : i3 x1 = i3 x1)) (zconso (zvo (rfl : i3 x2 = i3 x2)) (zconso (zvo (rfl : i3 x3 = i3 x3)) (zconso (zvo (rfl : i3 x4 = i3 x4)) (zconso (zvo (rfl : i3 x5 = i3 x5)) (zconso rfl rfl))))))) hZ hK hU (by omega) (by omega) hP
  · replace hP := zE_n hP h2
    refine wz_i0 (i3O (n := 4400) (i3A (i3A (show (3560 : Int32) = i3 3560 from rfl) (rfl : i3 x6 = i3 x6)) (show (6 : Int32) = i3 6 from rfl)) (by omega) (by omega) (by omega)) ?_
    refine wz_i0 (i3O (n := 4400) (i3A (show (3560 : Int32) = i3 3560 from rfl) (rfl : i3 x6 = i3 x6)) (by omega) (by omega) (by omega)) ?_
    have r3 := zM_f hZ 2 0 0 (3566 + x6)
    obtain ⟨Z4, hZ4⟩ := zx (zu Z 2 0 0 (3560 + x6) (Z 2 0 0 (3566 + x6)))
    replace hP := zl_e hP hZ4
    have hZ4I := zM_c2 hZ hZ4 (by omega) (by omega) (by simp only [zsp]; omega)
    have hZ4U : zU [] Zs Z4 := zU_u hU hZ4 (Or.inl rfl)
    have hZ4K : zC [2] Zs Z4 := zC_u hK hZ4 (zcl_2w (by omega) rfl)
    intro μ9 e9
    replace e9 := e9.trans (zm_wI (Z := Z) (ν := ν) hZ4 (show ((0 : Nat) : Int) = 0 from rfl) (show ((0 : Nat) : Int) = 0 from rfl) (i3I (y := (3560 + x6)) (i3A (show (3560 : Int32) = i3 3560 from rfl) (rfl : i3 x6 = i3 x6)) (by omega) (by omega) (by omega)) (zm_rd (Z := Z) (ν := ν) (k := 2) (show ((0 : Nat) : Int) = 0 from rfl) (show ((0 : Nat) : Int) = 0 from rfl) (i3I (y := (3566 + x6)) (i3A (i3A (show (3560 : Int32) = i3 3560 from rfl) (rfl : i3 x6 = i3 x6)) (show (6 : Int32) = i3 6 from rfl)) (by omega) (by omega) (by omega))))
    subst e9
    have r5 := zM_k hZ4I 2 0 0 3501 (lo := 0) (hi := 24) (by decide) rfl
    have q6 := zu_ne (k' := 2) (b' := 0) (i' := 0) (j' := 3501) hZ4 (fun q => absurd q.2.2.2 (by omega))
    obtain ⟨m2, rfl⟩ : ∃ m2, m = m2 + 1 := ⟨m - 1, by omega⟩
    exact wz_k1 ⟨m2, by omega, Z4, (x6 + 1), (zconso rfl (zconso (zvo (rfl : i3 x1 = i3 x1)) (zconso (zvo (rfl : i3 x2 = i3 x2)) (zconso (zvo (rfl : i3 x3 = i3 x3)) (zconso (zvo (rfl : i3 x4 = i3 x4)) (zconso (zvo (rfl : i3 x5 = i3 x5)) (zconso (zvo (i3A (rfl : i3 x6 = i3 x6) (show (1 : Int32) = i3 1 from rfl))) rfl))))))), rfl, hZ4I, hZ4K, hZ4U, by omega, by omega, by omega,  hP⟩
/- yX12_iKeep -/
def zf_363 (Z : qz_Z) (a1 : Int) (a2 : Int) (a3 : Int) (a4 : Int) (a5 : Int) : qz_Z := (if (Z 2 0 0 3501) ≠ 24 then (zlet (zu Z 2 0 0 (3560 + 6 * (Z 2 0 0 3501)) a1) (fun Z3 => (zlet (zu Z3 2 0 0 (3561 + 6 * (Z 2 0 0 3501)) (Z3 2 0 0 0)) (fun Z5 => (zlet (zu Z5 2 0 0 (3562 + 6 * (Z 2 0 0 3501)) a2) (fun Z6 => (zlet (zu Z6 2 0 0 (3563 + 6 * (Z 2 0 0 3501)) a3) (fun Z7 => (zlet (zu Z7 2 0 0 (3564 + 6 * (Z 2 0 0 3501)) a4) (fun Z8 => (zlet (zu Z8 2 0 0 (3565 + 6 * (Z 2 0 0 3501)) a5) (fun Z9 => (zlet (zu Z9 2 0 0 3501 ((Z9 2 0 0 3501) + 1)) (fun Z12 => Z12)))))))))))))) else (zlet2 (zl_363_1 a1 a2 a3 a4 a5 139 Z 0) (fun Z14 y13 => (zlet (zu Z14 2 0 0 3501 ((Z14 2 0 0 3501) - 1)) (fun Z17 => (zlet (zu Z17 2 0 0 (3560 + 6 * (Z17 2 0 0 3501)) a1) (fun Z20 => (zlet (zu Z20 2 0 0 (3561 + 6 * (Z17 2 0 0 3501)) (Z20 2 0 0 0)) (fun Z22 => (zlet (zu Z22 2 0 0 (3562 + 6 * (Z17 2 0 0 3501)) a2) (fun Z23 => (zlet (zu Z23 2 0 0 (3563 + 6 * (Z17 2 0 0 3501)) a3) (fun Z24 => (zlet (zu Z24 2 0 0 (3564 + 6 * (Z17 2 0 0 3501)) a4) (fun Z25 => (zlet (zu Z25 2 0 0 (3565 + 6 * (Z17 2 0 0 3501)) a5) (fun Z26 => (zlet (zu Z26 2 0 0 3501 ((Z26 2 0 0 3501) + 1)) (fun Z29 => Z29)))))))))))))))))))
theorem sp_363 {s : zSM} {Z : qz_Z} {ν : qz_N} (hZ : zM s Z) {a1 : Int} (ga1 : 0 ≤ a1 ∧ a1 ≤ 1) {a2 : Int} (ga2 : 0 ≤ a2 ∧ a2 ≤ 47) {a3 : Int} (ga3 : 0 ≤ a3 ∧ a3 ≤ 2) {a4 : Int} (ga4 : 0 ≤ a4 ∧ a4 ≤ 9) {a5 : Int} (ga5 : -1 ≤ a5 ∧ a5 ≤ 3) (hM : s.2 + 0 ≤ 1000000000) : ∃ P : qz_Z, P = zf_363 Z a1 a2 a3 a4 a5 ∧ (qf_363 [.inr (.inr (some (1, 0, 0))), .inl (i3 a1), .inl (i3 a2), .inl (i3 a3), .inl (i3 a4), .inl (i3 a5)] (zm Z ν) = some (zm P ν, .inl none) ∧ zM s P ∧ zC [2] Z P ∧ zU [] Z P) := by
  obtain ⟨P, hP⟩ := zx (zf_363 Z a1 a2 a3 a4 a5)
  refine zc_V (Q := fun P => zM s P ∧ zC [2] Z P ∧ zU [] Z P) hP (fw_363 (i3 a1) (i3 a2) (i3 a3) (i3 a4) (i3 a5) _ _ ?_)
  replace hP : zE P (zf_363 Z a1 a2 a3 a4 a5) := hP
  unfold zf_363 at hP
  have r1 := zM_k hZ 2 0 0 3501 (lo := 0) (hi := 24) (by decide) rfl
  refine wz_br (i3NE (zm_rd (Z := Z) (ν := ν) (k := 2) (show ((0 : Nat) : Int) = 0 from rfl) (show ((0 : Nat) : Int) = 0 from rfl) (show ((3501 : Nat) : Int) = 3501 from rfl)) (show (24 : Int32) = i3 24 from rfl) (by omega) (by omega) (by omega) (by omega)) (fun h2 => ?_) (fun h2 => ?_)
  · replace hP := zE_p hP h2
    refine fc_363_3 (i3 a1) (i3 a2) (i3 a3) (i3 a4) (i3 a5) _ _ _ _ (zconso rfl (zconso (zvo (rfl : i3 a1 = i3 a1)) (zconso (zvo (rfl : i3 a2 = i3 a2)) (zconso (zvo (rfl : i3 a3 = i3 a3)) (zconso (zvo (rfl : i3 a4 = i3 a4)) (zconso (zvo (rfl : i3 a5 = i3 a5)) (zconso rfl rfl))))))) ?_
    refine wz_i0 (i3O (n := 4400) (i3A (show (3560 : Int32) = i3 3560 from rfl) (i3M (show (6 : Int32) = i3 6 from rfl) (zm_rd (Z := Z) (ν := ν) (k := 2) (show ((0 : Nat) : Int) = 0 from rfl) (show ((0 : Nat) : Int) = 0 from rfl) (show ((3501 : Nat) : Int) = 3501 from rfl)))) (by omega) (by omega) (by omega)) ?_
    obtain ⟨Z3, hZ3⟩ := zx (zu Z 2 0 0 (3560 + 6 * (Z 2 0 0 3501)) a1)
    replace hP := zl_e hP hZ3
    have hZ3I := zM_u2 hZ hZ3 (lo := 0) (hi := 1) (zs_3560_0 (x := (Z 2 0 0 3501)) (by omega) (by omega) (by omega)) (by omega) ⟨by decide, by decide⟩ (by simp only [zsp]; omega)
    have hZ3U : zU [] Z Z3 := zU_u zU_r hZ3 (Or.inl rfl)
    have hZ3K : zC [2] Z Z3 := zC_u zC_r hZ3 (zcl_2w (by omega) rfl)
    intro μ9 e9
    replace e9 := e9.trans (zm_wI (Z := Z) (ν := ν) hZ3 (show ((0 : Nat) : Int) = 0 from rfl) (show ((0 : Nat) : Int) = 0 from rfl) (i3I (y := (3560 + 6 * (Z 2 0 0 3501))) (i3A (show (3560 : Int32) = i3 3560 from rfl) (i3M (show (6 : Int32) = i3 6 from rfl) (zm_rd (Z := Z) (ν := ν) (k := 2) (show ((0 : Nat) : Int) = 0 from rfl) (show ((0 : Nat) : Int) = 0 from rfl) (show ((3501 : Nat) : Int) = 3501 from rfl)))) (by omega) (by omega) (by omega)) (rfl : i3 a1 = i3 a1))
    subst e9
    refine wz_i0 (i3O (n := 4400) (i3A (i3A (show (3560 : Int32) = i3 3560 from rfl) (i3M (show (6 : Int32) = i3 6 from rfl) (zm_rd (Z := Z) (ν := ν) (k := 2) (show ((0 : Nat) : Int) = 0 from rfl) (show ((0 : Nat) : Int) = 0 from rfl) (show ((3501 : Nat) : Int) = 3501 from rfl)))) (show (1 : Int32) = i3 1 from rfl)) (by omega) (by omega) (by omega)) ?_
    have r4 := zM_k hZ3I 2 0 0 0 (lo := 0) (hi := 671) (by decide) rfl
    obtain ⟨Z5, hZ5⟩ := zx (zu Z3 2 0 0 (3561 + 6 * (Z 2 0 0 3501)) (Z3 2 0 0 0))
    replace hP := zl_e hP hZ5
    have hZ5I := zM_u2 hZ3I hZ5 (lo := 0) (hi := 671) (zs_3560_1 (x := (Z 2 0 0 3501)) (by omega) (by omega) (by omega)) (by omega) ⟨by decide, by decide⟩ (by simp only [zsp]; omega)
    have hZ5U : zU [] Z Z5 := zU_u hZ3U hZ5 (Or.inl rfl)
    have hZ5K : zC [2] Z Z5 := zC_u hZ3K hZ5 (zcl_2w (by omega) rfl)
    intro μ9 e9
    replace e9 := e9.trans (zm_wI (Z := Z3) (ν := ν) hZ5 (show ((0 : Nat) : Int) = 0 from rfl) (show ((0 : Nat) : Int) = 0 from rfl) (i3I (y := (3561 + 6 * (Z 2 0 0 3501))) (i3A (i3A (show (3560 : Int32) = i3 3560 from rfl) (i3M (show (6 : Int32) = i3 6 from rfl) (zm_rd (Z := Z) (ν := ν) (k := 2) (show ((0 : Nat) : Int) = 0 from rfl) (show ((0 : Nat) : Int) = 0 from rfl) (show ((3501 : Nat) : Int) = 3501 from rfl)))) (show (1 : Int32) = i3 1 from rfl)) (by omega) (by omega) (by omega)) (zm_rd (Z := Z3) (ν := ν) (k := 2) (show ((0 : Nat) : Int) = 0 from rfl) (show ((0 : Nat) : Int) = 0 from rfl) (show ((0 : Nat) : Int) = 0 from rfl)))
    subst e9
    refine wz_i0 (i3O (n := 4400) (i3A (i3A (show (3560 : Int32) = i3 3560 from rfl) (i3M (show (6 : Int32) = i3 6 from rfl) (zm_rd (Z := Z) (ν := ν) (k := 2) (show ((0 : Nat) : Int) = 0 from rfl) (show ((0 : Nat) : Int) = 0 from rfl) (show ((3501 : Nat) : Int) = 3501 from rfl)))) (show (2 : Int32) = i3 2 from rfl)) (by omega) (by omega) (by omega)) ?_
    obtain ⟨Z6, hZ6⟩ := zx (zu Z5 2 0 0 (3562 + 6 * (Z 2 0 0 3501)) a2)
    replace hP := zl_e hP hZ6
    have hZ6I := zM_u2 hZ5I hZ6 (lo := 0) (hi := 47) (zs_3560_2 (x := (Z 2 0 0 3501)) (by omega) (by omega) (by omega)) (by omega) ⟨by decide, by decide⟩ (by simp only [zsp]; omega)
    have hZ6U : zU [] Z Z6 := zU_u hZ5U hZ6 (Or.inl rfl)
    have hZ6K : zC [2] Z Z6 := zC_u hZ5K hZ6 (zcl_2w (by omega) rfl)
    intro μ9 e9
    replace e9 := e9.trans (zm_wI (Z := Z5) (ν := ν) hZ6 (show ((0 : Nat) : Int) = 0 from rfl) (show ((0 : Nat) : Int) = 0 from rfl) (i3I (y := (3562 + 6 * (Z 2 0 0 3501))) (i3A (i3A (show (3560 : Int32) = i3 3560 from rfl) (i3M (show (6 : Int32) = i3 6 from rfl) (zm_rd (Z := Z) (ν := ν) (k := 2) (show ((0 : Nat) : Int) = 0 from rfl) (show ((0 : Nat) : Int) = 0 from rfl) (show ((3501 : Nat) : Int) = 3501 from rfl)))) (show (2 : Int32) = i3 2 from rfl)) (by omega) (by omega) (by omega)) (rfl : i3 a2 = i3 a2))
    subst e9
    refine wz_i0 (i3O (n := 4400) (i3A (i3A (show (3560 : Int32) = i3 3560 from rfl) (i3M (show (6 : Int32) = i3 6 from rfl) (zm_rd (Z := Z) (ν := ν) (k := 2) (show ((0 : Nat) : Int) = 0 from rfl) (show ((0 : Nat) : Int) = 0 from rfl) (show ((3501 : Nat) : Int) = 3501 from rfl)))) (show (3 : Int32) = i3 3 from rfl)) (by omega) (by omega) (by omega)) ?_
    obtain ⟨Z7, hZ7⟩ := zx (zu Z6 2 0 0 (3563 + 6 * (Z 2 0 0 3501)) a3)
    replace hP := zl_e hP hZ7
    have hZ7I := zM_u2 hZ6I hZ7 (lo := 0) (hi := 2) (zs_3560_3 (x := (Z 2 0 0 3501)) (by omega) (by omega) (by omega)) (by omega) ⟨by decide, by decide⟩ (by simp only [zsp]; omega)
    have hZ7U : zU [] Z Z7 := zU_u hZ6U hZ7 (Or.inl rfl)
    have hZ7K : zC [2] Z Z7 := zC_u hZ6K hZ7 (zcl_2w (by omega) rfl)
    intro μ9 e9
    replace e9 := e9.trans (zm_wI (Z := Z6) (ν := ν) hZ7 (show ((0 : Nat) : Int) = 0 from rfl) (show ((0 : Nat) : Int) = 0 from rfl) (i3I (y := (3563 + 6 * (Z 2 0 0 3501))) (i3A (i3A (show (3560 : Int32) = i3 3560 from rfl) (i3M (show (6 : Int32) = i3 6 from rfl) (zm_rd (Z := Z) (ν := ν) (k := 2) (show ((0 : Nat) : Int) = 0 from rfl) (show ((0 : Nat) : Int) = 0 from rfl) (show ((3501 : Nat) : Int) = 3501 from rfl)))) (show (3 : Int32) = i3 3 from rfl)) (by omega) (by omega) (by omega)) (rfl : i3 a3 = i3 a3))
    subst e9
    refine wz_i0 (i3O (n := 4400) (i3A (i3A (show (3560 : Int32) = i3 3560 from rfl) (i3M (show (6 : Int32) = i3 6 from rfl) (zm_rd (Z := Z) (ν := ν) (k := 2) (show ((0 : Nat) : Int) = 0 from rfl) (show ((0 : Nat) : Int) = 0 from rfl) (show ((3501 : Nat) : Int) = 3501 from rfl)))) (show (4 : Int32) = i3 4 from rfl)) (by omega) (by omega) (by omega)) ?_
    obtain ⟨Z8, hZ8⟩ := zx (zu Z7 2 0 0 (3564 + 6 * (Z 2 0 0 3501)) a4)
    replace hP := zl_e hP hZ8
    have hZ8I := zM_u2 hZ7I hZ8 (lo := 0) (hi := 9) (zs_3560_4 (x := (Z 2 0 0 3501)) (by omega) (by omega) (by omega)) (by omega) ⟨by decide, by decide⟩ (by simp only [zsp]; omega)
    have hZ8U : zU [] Z Z8 := zU_u hZ7U hZ8 (Or.inl rfl)
    have hZ8K : zC [2] Z Z8 := zC_u hZ7K hZ8 (zcl_2w (by omega) rfl)
    intro μ9 e9
    replace e9 := e9.trans (zm_wI (Z := Z7) (ν := ν) hZ8 (show ((0 : Nat) : Int) = 0 from rfl) (show ((0 : Nat) : Int) = 0 from rfl) (i3I (y := (3564 + 6 * (Z 2 0 0 3501))) (i3A (i3A (show (3560 : Int32) = i3 3560 from rfl) (i3M (show (6 : Int32) = i3 6 from rfl) (zm_rd (Z := Z) (ν := ν) (k := 2) (show ((0 : Nat) : Int) = 0 from rfl) (show ((0 : Nat) : Int) = 0 from rfl) (show ((3501 : Nat) : Int) = 3501 from rfl)))) (show (4 : Int32) = i3 4 from rfl)) (by omega) (by omega) (by omega)) (rfl : i3 a4 = i3 a4))
    subst e9
    refine wz_i0 (i3O (n := 4400) (i3A (i3A (show (3560 : Int32) = i3 3560 from rfl) (i3M (show (6 : Int32) = i3 6 from rfl) (zm_rd (Z := Z) (ν := ν) (k := 2) (show ((0 : Nat) : Int) = 0 from rfl) (show ((0 : Nat) : Int) = 0 from rfl) (show ((3501 : Nat) : Int) = 3501 from rfl)))) (show (5 : Int32) = i3 5 from rfl)) (by omega) (by omega) (by omega)) ?_
    obtain ⟨Z9, hZ9⟩ := zx (zu Z8 2 0 0 (3565 + 6 * (Z 2 0 0 3501)) a5)
    replace hP := zl_e hP hZ9
    have hZ9I := zM_u2 hZ8I hZ9 (lo := -1) (hi := 3) (zs_3560_5 (x := (Z 2 0 0 3501)) (by omega) (by omega) (by omega)) (by omega) ⟨by decide, by decide⟩ (by simp only [zsp]; omega)
    have hZ9U : zU [] Z Z9 := zU_u hZ8U hZ9 (Or.inl rfl)
    have hZ9K : zC [2] Z Z9 := zC_u hZ8K hZ9 (zcl_2w (by omega) rfl)
    intro μ9 e9
    replace e9 := e9.trans (zm_wI (Z := Z8) (ν := ν) hZ9 (show ((0 : Nat) : Int) = 0 from rfl) (show ((0 : Nat) : Int) = 0 from rfl) (i3I (y := (3565 + 6 * (Z 2 0 0 3501))) (i3A (i3A (show (3560 : Int32) = i3 3560 from rfl) (i3M (show (6 : Int32) = i3 6 from rfl) (zm_rd (Z := Z) (ν := ν) (k := 2) (show ((0 : Nat) : Int) = 0 from rfl) (show ((0 : Nat) : Int) = 0 from rfl) (show ((3501 : Nat) : Int) = 3501 from rfl)))) (show (5 : Int32) = i3 5 from rfl)) (by omega) (by omega) (by omega)) (rfl : i3 a5 = i3 a5))
    subst e9
    have r10 := zM_k hZ9I 2 0 0 3501 (lo := 0) (hi := 24) (by decide) rfl
    have q11 := (zu_ne (k' := 2) (b' := 0) (i' := 0) (j' := 3501) hZ9 (fun q => absurd q.2.2.2 (by omega))).trans ((zu_ne (k' := 2) (b' := 0) (i' := 0) (j' := 3501) hZ8 (fun q => absurd q.2.2.2 (by omega))).trans ((zu_ne (k' := 2) (b' := 0) (i' := 0) (j' := 3501) hZ7 (fun q => absurd q.2.2.2 (by omega))).trans ((zu_ne (k' := 2) (b' := 0) (i' := 0) (j' := 3501) hZ6 (fun q => absurd q.2.2.2 (by omega))).trans ((zu_ne (k' := 2) (b' := 0) (i' := 0) (j' := 3501) hZ5 (fun q => absurd q.2.2.2 (by omega))).trans (zu_ne (k' := 2) (b' := 0) (i' := 0) (j' := 3501) hZ3 (fun q => absurd q.2.2.2 (by omega)))))))
    obtain ⟨Z12, hZ12⟩ := zx (zu Z9 2 0 0 3501 ((Z9 2 0 0 3501) + 1))
    replace hP := zl_e hP hZ12
    have hZ12I := zM_u2 hZ9I hZ12 (lo := 0) (hi := 24) rfl (by omega) ⟨by decide, by decide⟩ (by simp only [zsp]; omega)
    have hZ12U : zU [] Z Z12 := zU_u hZ9U hZ12 (Or.inl rfl)
    have hZ12K : zC [2] Z Z12 := zC_u hZ9K hZ12 (by decide)
    intro μ9 e9
    replace e9 := e9.trans (zm_wI (Z := Z9) (ν := ν) hZ12 (show ((0 : Nat) : Int) = 0 from rfl) (show ((0 : Nat) : Int) = 0 from rfl) (show ((3501 : Nat) : Int) = 3501 from rfl) (i3A (zm_rd (Z := Z9) (ν := ν) (k := 2) (show ((0 : Nat) : Int) = 0 from rfl) (show ((0 : Nat) : Int) = 0 from rfl) (show ((3501 : Nat) : Int) = 3501 from rfl)) (show (1 : Int32) = i3 1 from rfl)))
    subst e9
    exact zlV hP ⟨hZ12I, hZ12K, hZ12U⟩
  · replace hP := zE_n hP h2
    refine sl_363_1 (ν := ν) hZ (zbh (c := 0) (k := 0) hM (Nat.le_of_ble_eq_true rfl)) zC_r (x1 := a1) (by omega) (x2 := a2) (by omega) (x3 := a3) (by omega) (x4 := a4) (by omega) (x5 := a5) (by omega) (x6 := 0) (by omega) zU_r (by omega) (zconso rfl (zconso (zvo (rfl : i3 a1 = i3 a1)) (zconso (zvo (rfl : i3 a2 = i3 a2)) (zconso (zvo (rfl : i3 a3 = i3 a3)) (zconso (zvo (rfl : i3 a4 = i3 a4)) (zconso (zvo (rfl : i3 a5 = i3 a5)) (zconso (zvo (show (0 : Int32) = i3 0 from rfl)) rfl))))))) rfl ?_
    intro L15 Z14 y13 hL15 hZ14I kZ14 jZ14 gy13 gL15_0 q9
    replace hP := zl_e2 hP (Eq.symm q9)
    clear q9
    have hZ14U : zU [] Z Z14 := zU_t zU_r jZ14 zU_b0
    have hZ14K : zC [2] Z Z14 := zC_t zC_r kZ14 (by decide)
    have r16 := zM_k hZ14I 2 0 0 3501 (lo := 0) (hi := 24) (by decide) rfl
    refine fc_363_2 (i3 a1) (i3 a2) (i3 a3) (i3 a4) (i3 a5) _ _ _ _ hL15 ?_
    obtain ⟨Z17, hZ17⟩ := zx (zu Z14 2 0 0 3501 ((Z14 2 0 0 3501) - 1))
    replace hP := zl_e hP hZ17
    have hZ17I := zM_u2 hZ14I hZ17 (lo := 0) (hi := 24) rfl (by omega) ⟨by decide, by decide⟩ (by simp only [zsp]; omega)
    have hZ17U : zU [] Z Z17 := zU_u hZ14U hZ17 (Or.inl rfl)
    have hZ17K : zC [2] Z Z17 := zC_u hZ14K hZ17 (by decide)
    intro μ9 e9
    replace e9 := e9.trans (zm_wI (Z := Z14) (ν := ν) hZ17 (show ((0 : Nat) : Int) = 0 from rfl) (show ((0 : Nat) : Int) = 0 from rfl) (show ((3501 : Nat) : Int) = 3501 from rfl) (i3S (zm_rd (Z := Z14) (ν := ν) (k := 2) (show ((0 : Nat) : Int) = 0 from rfl) (show ((0 : Nat) : Int) = 0 from rfl) (show ((3501 : Nat) : Int) = 3501 from rfl)) (show (1 : Int32) = i3 1 from rfl)))
    subst e9
    refine wz_kb0 (wz_sk0 ?_)
    refine fc_363_3 (i3 a1) (i3 a2) (i3 a3) (i3 a4) (i3 a5) _ _ _ _ (zconso rfl (zconso (zvo (rfl : i3 a1 = i3 a1)) (zconso (zvo (rfl : i3 a2 = i3 a2)) (zconso (zvo (rfl : i3 a3 = i3 a3)) (zconso (zvo (rfl : i3 a4 = i3 a4)) (zconso (zvo (rfl : i3 a5 = i3 a5)) (zconso rfl rfl))))))) ?_
    have r18 := zM_k hZ17I 2 0 0 3501 (lo := 0) (hi := 24) (by decide) rfl
    have q19 := zu_at hZ17
    refine wz_i0 (i3O (n := 4400) (i3A (show (3560 : Int32) = i3 3560 from rfl) (i3M (show (6 : Int32) = i3 6 from rfl) (zm_rd (Z := Z17) (ν := ν) (k := 2) (show ((0 : Nat) : Int) = 0 from rfl) (show ((0 : Nat) : Int) = 0 from rfl) (show ((3501 : Nat) : Int) = 3501 from rfl)))) (by omega) (by omega) (by omega)) ?_
    obtain ⟨Z20, hZ20⟩ := zx (zu Z17 2 0 0 (3560 + 6 * (Z17 2 0 0 3501)) a1)
    replace hP := zl_e hP hZ20
    have hZ20I := zM_u2 hZ17I hZ20 (lo := 0) (hi := 1) (zs_3560_0 (x := (Z17 2 0 0 3501)) (by omega) (by omega) (by omega)) (by omega) ⟨by decide, by decide⟩ (by simp only [zsp]; omega)
    have hZ20U : zU [] Z Z20 := zU_u hZ17U hZ20 (Or.inl rfl)
    have hZ20K : zC [2] Z Z20 := zC_u hZ17K hZ20 (zcl_2w (by omega) rfl)
    intro μ9 e9
    replace e9 := e9.trans (zm_wI (Z := Z17) (ν := ν) hZ20 (show ((0 : Nat) : Int) = 0 from rfl) (show ((0 : Nat) : Int) = 0 from rfl) (i3I (y := (3560 + 6 * (Z17 2 0 0 3501))) (i3A (show (3560 : Int32) = i3 3560 from rfl) (i3M (show (6 : Int32) = i3 6 from rfl) (zm_rd (Z := Z17) (ν := ν) (k := 2) (show ((0 : Nat) : Int) = 0 from rfl) (show ((0 : Nat) : Int) = 0 from rfl) (show ((3501 : Nat) : Int) = 3501 from rfl)))) (by omega) (by omega) (by omega)) (rfl : i3 a1 = i3 a1))
    subst e9
    refine wz_i0 (i3O (n := 4400) (i3A (i3A (show (3560 : Int32) = i3 3560 from rfl) (i3M (show (6 : Int32) = i3 6 from rfl) (zm_rd (Z := Z17) (ν := ν) (k := 2) (show ((0 : Nat) : Int) = 0 from rfl) (show ((0 : Nat) : Int) = 0 from rfl) (show ((3501 : Nat) : Int) = 3501 from rfl)))) (show (1 : Int32) = i3 1 from rfl)) (by omega) (by omega) (by omega)) ?_
    have r21 := zM_k hZ20I 2 0 0 0 (lo := 0) (hi := 671) (by decide) rfl
    obtain ⟨Z22, hZ22⟩ := zx (zu Z20 2 0 0 (3561 + 6 * (Z17 2 0 0 3501)) (Z20 2 0 0 0))
    replace hP := zl_e hP hZ22
    have hZ22I := zM_u2 hZ20I hZ22 (lo := 0) (hi := 671) (zs_3560_1 (x := (Z17 2 0 0 3501)) (by omega) (by omega) (by omega)) (by omega) ⟨by decide, by decide⟩ (by simp only [zsp]; omega)
    have hZ22U : zU [] Z Z22 := zU_u hZ20U hZ22 (Or.inl rfl)
    have hZ22K : zC [2] Z Z22 := zC_u hZ20K hZ22 (zcl_2w (by omega) rfl)
    intro μ9 e9
    replace e9 := e9.trans (zm_wI (Z := Z20) (ν := ν) hZ22 (show ((0 : Nat) : Int) = 0 from rfl) (show ((0 : Nat) : Int) = 0 from rfl) (i3I (y := (3561 + 6 * (Z17 2 0 0 3501))) (i3A (i3A (show (3560 : Int32) = i3 3560 from rfl) (i3M (show (6 : Int32) = i3 6 from rfl) (zm_rd (Z := Z17) (ν := ν) (k := 2) (show ((0 : Nat) : Int) = 0 from rfl) (show ((0 : Nat) : Int) = 0 from rfl) (show ((3501 : Nat) : Int) = 3501 from rfl)))) (show (1 : Int32) = i3 1 from rfl)) (by omega) (by omega) (by omega)) (zm_rd (Z := Z20) (ν := ν) (k := 2) (show ((0 : Nat) : Int) = 0 from rfl) (show ((0 : Nat) : Int) = 0 from rfl) (show ((0 : Nat) : Int) = 0 from rfl)))
    subst e9
    refine wz_i0 (i3O (n := 4400) (i3A (i3A (show (3560 : Int32) = i3 3560 from rfl) (i3M (show (6 : Int32) = i3 6 from rfl) (zm_rd (Z := Z17) (ν := ν) (k := 2) (show ((0 : Nat) : Int) = 0 from rfl) (show ((0 : Nat) : Int) = 0 from rfl) (show ((3501 : Nat) : Int) = 3501 from rfl)))) (show (2 : Int32) = i3 2 from rfl)) (by omega) (by omega) (by omega)) ?_
    obtain ⟨Z23, hZ23⟩ := zx (zu Z22 2 0 0 (3562 + 6 * (Z17 2 0 0 3501)) a2)
    replace hP := zl_e hP hZ23
    have hZ23I := zM_u2 hZ22I hZ23 (lo := 0) (hi := 47) (zs_3560_2 (x := (Z17 2 0 0 3501)) (by omega) (by omega) (by omega)) (by omega) ⟨by decide, by decide⟩ (by simp only [zsp]; omega)
    have hZ23U : zU [] Z Z23 := zU_u hZ22U hZ23 (Or.inl rfl)
    have hZ23K : zC [2] Z Z23 := zC_u hZ22K hZ23 (zcl_2w (by omega) rfl)
    intro μ9 e9
    replace e9 := e9.trans (zm_wI (Z := Z22) (ν := ν) hZ23 (show ((0 : Nat) : Int) = 0 from rfl) (show ((0 : Nat) : Int) = 0 from rfl) (i3I (y := (3562 + 6 * (Z17 2 0 0 3501))) (i3A (i3A (show (3560 : Int32) = i3 3560 from rfl) (i3M (show (6 : Int32) = i3 6 from rfl) (zm_rd (Z := Z17) (ν := ν) (k := 2) (show ((0 : Nat) : Int) = 0 from rfl) (show ((0 : Nat) : Int) = 0 from rfl) (show ((3501 : Nat) : Int) = 3501 from rfl)))) (show (2 : Int32) = i3 2 from rfl)) (by omega) (by omega) (by omega)) (rfl : i3 a2 = i3 a2))
    subst e9
    refine wz_i0 (i3O (n := 4400) (i3A (i3A (show (3560 : Int32) = i3 3560 from rfl) (i3M (show (6 : Int32) = i3 6 from rfl) (zm_rd (Z := Z17) (ν := ν) (k := 2) (show ((0 : Nat) : Int) = 0 from rfl) (show ((0 : Nat) : Int) = 0 from rfl) (show ((3501 : Nat) : Int) = 3501 from rfl)))) (show (3 : Int32) = i3 3 from rfl)) (by omega) (by omega) (by omega)) ?_
    obtain ⟨Z24, hZ24⟩ := zx (zu Z23 2 0 0 (3563 + 6 * (Z17 2 0 0 3501)) a3)
    replace hP := zl_e hP hZ24
    have hZ24I := zM_u2 hZ23I hZ24 (lo := 0) (hi := 2) (zs_3560_3 (x := (Z17 2 0 0 3501)) (by omega) (by omega) (by omega)) (by omega) ⟨by decide, by decide⟩ (by simp only [zsp]; omega)
    have hZ24U : zU [] Z Z24 := zU_u hZ23U hZ24 (Or.inl rfl)
    have hZ24K : zC [2] Z Z24 := zC_u hZ23K hZ24 (zcl_2w (by omega) rfl)
    intro μ9 e9
    replace e9 := e9.trans (zm_wI (Z := Z23) (ν := ν) hZ24 (show ((0 : Nat) : Int) = 0 from rfl) (show ((0 : Nat) : Int) = 0 from rfl) (i3I (y := (3563 + 6 * (Z17 2 0 0 3501))) (i3A (i3A (show (3560 : Int32) = i3 3560 from rfl) (i3M (show (6 : Int32) = i3 6 from rfl) (zm_rd (Z := Z17) (ν := ν) (k := 2) (show ((0 : Nat) : Int) = 0 from rfl) (show ((0 : Nat) : Int) = 0 from rfl) (show ((3501 : Nat) : Int) = 3501 from rfl)))) (show (3 : Int32) = i3 3 from rfl)) (by omega) (by omega) (by omega)) (rfl : i3 a3 = i3 a3))
    subst e9
    refine wz_i0 (i3O (n := 4400) (i3A (i3A (show (3560 : Int32) = i3 3560 from rfl) (i3M (show (6 : Int32) = i3 6 from rfl) (zm_rd (Z := Z17) (ν := ν) (k := 2) (show ((0 : Nat) : Int) = 0 from rfl) (show ((0 : Nat) : Int) = 0 from rfl) (show ((3501 : Nat) : Int) = 3501 from rfl)))) (show (4 : Int32) = i3 4 from rfl)) (by omega) (by omega) (by omega)) ?_
    obtain ⟨Z25, hZ25⟩ := zx (zu Z24 2 0 0 (3564 + 6 * (Z17 2 0 0 3501)) a4)
    replace hP := zl_e hP hZ25
    have hZ25I := zM_u2 hZ24I hZ25 (lo := 0) (hi := 9) (zs_3560_4 (x := (Z17 2 0 0 3501)) (by omega) (by omega) (by omega)) (by omega) ⟨by decide, by decide⟩ (by simp only [zsp]; omega)
    have hZ25U : zU [] Z Z25 := zU_u hZ24U hZ25 (Or.inl rfl)
    have hZ25K : zC [2] Z Z25 := zC_u hZ24K hZ25 (zcl_2w (by omega) rfl)
    intro μ9 e9
    replace e9 := e9.trans (zm_wI (Z := Z24) (ν := ν) hZ25 (show ((0 : Nat) : Int) = 0 from rfl) (show ((0 : Nat) : Int) = 0 from rfl) (i3I (y := (3564 + 6 * (Z17 2 0 0 3501))) (i3A (i3A (show (3560 : Int32) = i3 3560 from rfl) (i3M (show (6 : Int32) = i3 6 from rfl) (zm_rd (Z := Z17) (ν := ν) (k := 2) (show ((0 : Nat) : Int) = 0 from rfl) (show ((0 : Nat) : Int) = 0 from rfl) (show ((3501 : Nat) : Int) = 3501 from rfl)))) (show (4 : Int32) = i3 4 from rfl)) (by omega) (by omega) (by omega)) (rfl : i3 a4 = i3 a4))
    subst e9
    refine wz_i0 (i3O (n := 4400) (i3A (i3A (show (3560 : Int32) = i3 3560 from rfl) (i3M (show (6 : Int32) = i3 6 from rfl) (zm_rd (Z := Z17) (ν := ν) (k := 2) (show ((0 : Nat) : Int) = 0 from rfl) (show ((0 : Nat) : Int) = 0 from rfl) (show ((3501 : Nat) : Int) = 3501 from rfl)))) (show (5 : Int32) = i3 5 from rfl)) (by omega) (by omega) (by omega)) ?_
    obtain ⟨Z26, hZ26⟩ := zx (zu Z25 2 0 0 (3565 + 6 * (Z17 2 0 0 3501)) a5)
    replace hP := zl_e hP hZ26
    have hZ26I := zM_u2 hZ25I hZ26 (lo := -1) (hi := 3) (zs_3560_5 (x := (Z17 2 0 0 3501)) (by omega) (by omega) (by omega)) (by omega) ⟨by decide, by decide⟩ (by simp only [zsp]; omega)
    have hZ26U : zU [] Z Z26 := zU_u hZ25U hZ26 (Or.inl rfl)
    have hZ26K : zC [2] Z Z26 := zC_u hZ25K hZ26 (zcl_2w (by omega) rfl)
    intro μ9 e9
    replace e9 := e9.trans (zm_wI (Z := Z25) (ν := ν) hZ26 (show ((0 : Nat) : Int) = 0 from rfl) (show ((0 : Nat) : Int) = 0 from rfl) (i3I (y := (3565 + 6 * (Z17 2 0 0 3501))) (i3A (i3A (show (3560 : Int32) = i3 3560 from rfl) (i3M (show (6 : Int32) = i3 6 from rfl) (zm_rd (Z := Z17) (ν := ν) (k := 2) (show ((0 : Nat) : Int) = 0 from rfl) (show ((0 : Nat) : Int) = 0 from rfl) (show ((3501 : Nat) : Int) = 3501 from rfl)))) (show (5 : Int32) = i3 5 from rfl)) (by omega) (by omega) (by omega)) (rfl : i3 a5 = i3 a5))
    subst e9
    have r27 := zM_k hZ26I 2 0 0 3501 (lo := 0) (hi := 24) (by decide) rfl
    have q28 := (zu_ne (k' := 2) (b' := 0) (i' := 0) (j' := 3501) hZ26 (fun q => absurd q.2.2.2 (by omega))).trans ((zu_ne (k' := 2) (b' := 0) (i' := 0) (j' := 3501) hZ25 (fun q => absurd q.2.2.2 (by omega))).trans ((zu_ne (k' := 2) (b' := 0) (i' := 0) (j' := 3501) hZ24 (fun q => absurd q.2.2.2 (by omega))).trans ((zu_ne (k' := 2) (b' := 0) (i' := 0) (j' := 3501) hZ23 (fun q => absurd q.2.2.2 (by omega))).trans ((zu_ne (k' := 2) (b' := 0) (i' := 0) (j' := 3501) hZ22 (fun q => absurd q.2.2.2 (by omega))).trans (zu_ne (k' := 2) (b' := 0) (i' := 0) (j' := 3501) hZ20 (fun q => absurd q.2.2.2 (by omega)))))))
    obtain ⟨Z29, hZ29⟩ := zx (zu Z26 2 0 0 3501 ((Z26 2 0 0 3501) + 1))
    replace hP := zl_e hP hZ29
    have hZ29I := zM_u2 hZ26I hZ29 (lo := 0) (hi := 24) rfl (by omega) ⟨by decide, by decide⟩ (by simp only [zsp]; omega)
    have hZ29U : zU [] Z Z29 := zU_u hZ26U hZ29 (Or.inl rfl)
    have hZ29K : zC [2] Z Z29 := zC_u hZ26K hZ29 (by decide)
    intro μ9 e9
    replace e9 := e9.trans (zm_wI (Z := Z26) (ν := ν) hZ29 (show ((0 : Nat) : Int) = 0 from rfl) (show ((0 : Nat) : Int) = 0 from rfl) (show ((3501 : Nat) : Int) = 3501 from rfl) (i3A (zm_rd (Z := Z26) (ν := ν) (k := 2) (show ((0 : Nat) : Int) = 0 from rfl) (show ((0 : Nat) : Int) = 0 from rfl) (show ((3501 : Nat) : Int) = 3501 from rfl)) (show (1 : Int32) = i3 1 from rfl)))
    subst e9
    exact zlV hP ⟨hZ29I, hZ29K, hZ29U⟩
/- yX12_iFinds -/
def zf_357 (Z : qz_Z) (a1 : Int) (a2 : Int) (a3 : Int) (a4 : Int) : qz_Z := (if a3 ≠ 0 then (if a3 ≠ 1 then (zlet (zf_326 Z a2) (fun v3 => (zlet (zu Z 2 0 0 (209 + 20 * a2) v3) (fun Z4 => (zlet (zu Z4 2 0 0 (3525 + 10 * a1) (w3 ((Z4 2 0 0 (3525 + 10 * a1)) + 1))) (fun Z7 => (zlet (zf_363 Z7 a1 a2 a3 a4 (Z 2 0 0 (209 + 20 * a2))) (fun Z9 => (zlet (zf_403 Z9 0 7 (Z9 2 0 0 3813) a2) (fun Z11 => Z11)))))))))) else (zlet (zu Z 2 0 0 (209 + 20 * a2) 3) (fun Z12 => (zlet (zu Z12 2 0 0 (3525 + 10 * a1) (w3 ((Z12 2 0 0 (3525 + 10 * a1)) + 1))) (fun Z15 => (zlet (zf_363 Z15 a1 a2 a3 a4 (Z 2 0 0 (209 + 20 * a2))) (fun Z17 => (zlet (zf_403 Z17 0 7 (Z17 2 0 0 3813) a2) (fun Z19 => Z19))))))))) else (zlet (zf_431 Z a2 3) (fun Z20 => (zlet (zu Z20 2 0 0 (3526 + 10 * a1) (w3 ((Z20 2 0 0 (3526 + 10 * a1)) + 1))) (fun Z23 => (zlet (zu Z23 2 0 0 (3525 + 10 * a1) (w3 ((Z23 2 0 0 (3525 + 10 * a1)) + 1))) (fun Z26 => (zlet (zf_363 Z26 a1 a2 a3 a4 (Z 2 0 0 (209 + 20 * a2))) (fun Z28 => (zlet (zf_403 Z28 0 7 (Z28 2 0 0 3813) a2) (fun Z30 => Z30)))))))))))
theorem sp_357 {s : zSM} {Z : qz_Z} {ν : qz_N} (hZ : zM s Z) {a1 : Int} (ga1 : 0 ≤ a1 ∧ a1 ≤ 1) {a2 : Int} (ga2 : 0 ≤ a2 ∧ a2 ≤ 47) {a3 : Int} (ga3 : 0 ≤ a3 ∧ a3 ≤ 2) {a4 : Int} (ga4 : 0 ≤ a4 ∧ a4 ≤ 9) (hM : s.2 + 124 ≤ 1000000000) : ∃ P : qz_Z, P = zf_357 Z a1 a2 a3 a4 ∧ (qf_357 [.inr (.inr (some (1, 0, 0))), .inl (i3 a1), .inl (i3 a2), .inl (i3 a3), .inl (i3 a4)] (zm Z ν) = some (zm P ν, .inl none) ∧ zM (zb s 124) P ∧ zC [2] Z P ∧ zU [] Z P) := by
  obtain ⟨P, hP⟩ := zx (zf_357 Z a1 a2 a3 a4)
  refine zc_V (Q := fun P => zM (zb s 124) P ∧ zC [2] Z P ∧ zU [] Z P) hP (fw_357 (i3 a1) (i3 a2) (i3 a3) (i3 a4) _ _ ?_)
  replace hP : zE P (zf_357 Z a1 a2 a3 a4) := hP
  unfold zf_357 at hP
  refine wz_i0 (i3O (n := 4400) (i3A (i3A (show (200 : Int32) = i3 200 from rfl) (i3M (show (20 : Int32) = i3 20 from rfl) (rfl : i3 a2 = i3 a2))) (show (9 : Int32) = i3 9 from rfl)) (by omega) (by omega) (by omega)) ?_
  refine wz_br (i3NE (rfl : i3 a3 = i3 a3) (show (0 : Int32) = i3 0 from rfl) (by omega) (by omega) (by omega) (by omega)) (fun h1 => ?_) (fun h1 => ?_)
  · replace hP := zE_p hP h1
    refine wz_br (i3NE (rfl : i3 a3 = i3 a3) (show (1 : Int32) = i3 1 from rfl) (by omega) (by omega) (by omega) (by omega)) (fun h2 => ?_) (fun h2 => ?_)
    · replace hP := zE_p hP h2
      obtain ⟨v3, hv3, c9, lv3, uv3⟩ := sp_326 (ν := ν) hZ (a1 := a2) (by omega) (zbh (c := 0) (k := 0) hM (Nat.le_of_ble_eq_true rfl))
      replace hP := zl_e hP hv3
      refine wz_cI_of (zas (zcons rfl (zcons (zvi (rfl : i3 a2 = i3 a2)) rfl)) c9) ?_
      clear c9
      refine wz_i0 (i3O (n := 4400) (i3A (i3A (show (200 : Int32) = i3 200 from rfl) (i3M (show (20 : Int32) = i3 20 from rfl) (rfl : i3 a2 = i3 a2))) (show (9 : Int32) = i3 9 from rfl)) (by omega) (by omega) (by omega)) ?_
      obtain ⟨Z4, hZ4⟩ := zx (zu Z 2 0 0 (209 + 20 * a2) v3)
      replace hP := zl_e hP hZ4
      have hZ4I := zM_u2 hZ hZ4 (lo := -1) (hi := 3) (zs_200_9 (x := a2) (by omega) (by omega) (by omega)) (by omega) ⟨by decide, by decide⟩ (by simp only [zsp]; omega)
      have hZ4U : zU [] Z Z4 := zU_u zU_r hZ4 (Or.inl rfl)
      have hZ4K : zC [2] Z Z4 := zC_u zC_r hZ4 (zcl_2w (by omega) rfl)
      intro μ9 e9
      replace e9 := e9.trans (zm_wI (Z := Z) (ν := ν) hZ4 (show ((0 : Nat) : Int) = 0 from rfl) (show ((0 : Nat) : Int) = 0 from rfl) (i3I (y := (209 + 20 * a2)) (i3A (i3A (show (200 : Int32) = i3 200 from rfl) (i3M (show (20 : Int32) = i3 20 from rfl) (rfl : i3 a2 = i3 a2))) (show (9 : Int32) = i3 9 from rfl)) (by omega) (by omega) (by omega)) (rfl : i3 v3 = i3 v3))
      subst e9
      refine wz_i0 (i3O (n := 4400) (i3A (i3A (show (3520 : Int32) = i3 3520 from rfl) (i3M (show (10 : Int32) = i3 10 from rfl) (rfl : i3 a1 = i3 a1))) (show (5 : Int32) = i3 5 from rfl)) (by omega) (by omega) (by omega)) ?_
      refine wz_i0 (i3O (n := 4400) (i3A (i3A (show (3520 : Int32) = i3 3520 from rfl) (i3M (show (10 : Int32) = i3 10 from rfl) (rfl : i3 a1 = i3 a1))) (show (5 : Int32) = i3 5 from rfl)) (by omega) (by omega) (by omega)) ?_
      have r5 := zM_f hZ4I 2 0 0 (3525 + 10 * a1)
      have r6 := w3_r ((Z4 2 0 0 (3525 + 10 * a1)) + 1)
      obtain ⟨Z7, hZ7⟩ := zx (zu Z4 2 0 0 (3525 + 10 * a1) (w3 ((Z4 2 0 0 (3525 + 10 * a1)) + 1)))
      replace hP := zl_e hP hZ7
      have hZ7I := zM_u2 hZ4I hZ7 (lo := -2147483648) (hi := 2147483647) (zs_3520_5 (x := a1) (by omega) (by omega) (by omega)) (by omega) ⟨by decide, by decide⟩ (by simp only [zsp]; omega)
      have hZ7U : zU [] Z Z7 := zU_u hZ4U hZ7 (Or.inl rfl)
      have hZ7K : zC [2] Z Z7 := zC_u hZ4K hZ7 (zcl_2w (by omega) rfl)
      intro μ9 e9
      replace e9 := e9.trans (zm_wI (Z := Z4) (ν := ν) hZ7 (show ((0 : Nat) : Int) = 0 from rfl) (show ((0 : Nat) : Int) = 0 from rfl) (i3I (y := (3525 + 10 * a1)) (i3A (i3A (show (3520 : Int32) = i3 3520 from rfl) (i3M (show (10 : Int32) = i3 10 from rfl) (rfl : i3 a1 = i3 a1))) (show (5 : Int32) = i3 5 from rfl)) (by omega) (by omega) (by omega)) (i3W (i3A (zm_rd (Z := Z4) (ν := ν) (k := 2) (show ((0 : Nat) : Int) = 0 from rfl) (show ((0 : Nat) : Int) = 0 from rfl) (i3I (y := (3525 + 10 * a1)) (i3A (i3A (show (3520 : Int32) = i3 3520 from rfl) (i3M (show (10 : Int32) = i3 10 from rfl) (rfl : i3 a1 = i3 a1))) (show (5 : Int32) = i3 5 from rfl)) (by omega) (by omega) (by omega))) (show (1 : Int32) = i3 1 from rfl))))
      subst e9
      have r8 := zM_k hZ 2 0 0 (209 + 20 * a2) (lo := -1) (hi := 3) (by decide) (zs_200_9 (x := a2) (by omega) (by omega) (by omega))
      obtain ⟨Z9, hZ9, c9, hZ9I, kZ9, jZ9⟩ := sp_363 (ν := ν) hZ7I (a1 := a1) (by omega) (a2 := a2) (by omega) (a3 := a3) (by omega) (a4 := a4) (by omega) (a5 := (Z 2 0 0 (209 + 20 * a2))) (by omega) (zbh (c := 0) (k := 0) hM (Nat.le_of_ble_eq_true rfl))
      have hZ9U : zU [] Z Z9 := zU_t hZ7U jZ9 zU_b0
      have hZ9K : zC [2] Z Z9 := zC_t hZ7K kZ9 (by decide)
      replace hP := zl_e hP hZ9
      refine wz_cV_of (zas (zcons rfl (zcons (zvi (rfl : i3 a1 = i3 a1)) (zcons (zvi (rfl : i3 a2 = i3 a2)) (zcons (zvi (rfl : i3 a3 = i3 a3)) (zcons (zvi (rfl : i3 a4 = i3 a4)) (zcons (zvi (zm_rd (Z := Z) (ν := ν) (k := 2) (show ((0 : Nat) : Int) = 0 from rfl) (show ((0 : Nat) : Int) = 0 from rfl) (i3I (y := (209 + 20 * a2)) (i3A (i3A (show (200 : Int32) = i3 200 from rfl) (i3M (show (20 : Int32) = i3 20 from rfl) (rfl : i3 a2 = i3 a2))) (show (9 : Int32) = i3 9 from rfl)) (by omega) (by omega) (by omega)))) rfl)))))) c9) ?_
      clear c9
      have r10 := zM_k hZ9I 2 0 0 3813 (lo := 0) (hi := 99999) (by decide) rfl
      obtain ⟨Z11, hZ11, c9, hZ11I, kZ11, jZ11⟩ := sp_403 (ν := ν) hZ9I (a1 := 0) (by omega) (a2 := 7) (by omega) (a3 := (Z9 2 0 0 3813)) (by omega) (a4 := a2) (by omega) (zbh (c := 0) (k := 1) hM (Nat.le_of_ble_eq_true rfl))
      have hZ11U : zU [] Z Z11 := zU_t hZ9U jZ11 zU_b0
      have hZ11K : zC [2] Z Z11 := zC_t hZ9K kZ11 (by decide)
      replace hP := zl_e hP hZ11
      refine wz_cV_of (zas (zcons rfl (zcons (zvi (show (0 : Int32) = i3 0 from rfl)) (zcons (zvi (show (7 : Int32) = i3 7 from rfl)) (zcons (zvi (zm_rd (Z := Z9) (ν := ν) (k := 2) (show ((0 : Nat) : Int) = 0 from rfl) (show ((0 : Nat) : Int) = 0 from rfl) (show ((3813 : Nat) : Int) = 3813 from rfl))) (zcons (zvi (rfl : i3 a2 = i3 a2)) rfl))))) c9) ?_
      clear c9
      exact zlV hP ⟨(zmw (a := 1) (c := 124) hZ11I (Nat.le_of_ble_eq_true rfl)), hZ11K, hZ11U⟩
    · replace hP := zE_n hP h2
      refine wz_i0 (i3O (n := 4400) (i3A (i3A (show (200 : Int32) = i3 200 from rfl) (i3M (show (20 : Int32) = i3 20 from rfl) (rfl : i3 a2 = i3 a2))) (show (9 : Int32) = i3 9 from rfl)) (by omega) (by omega) (by omega)) ?_
      obtain ⟨Z12, hZ12⟩ := zx (zu Z 2 0 0 (209 + 20 * a2) 3)
      replace hP := zl_e hP hZ12
      have hZ12I := zM_u2 hZ hZ12 (lo := -1) (hi := 3) (zs_200_9 (x := a2) (by omega) (by omega) (by omega)) (by omega) ⟨by decide, by decide⟩ (by simp only [zsp]; omega)
      have hZ12U : zU [] Z Z12 := zU_u zU_r hZ12 (Or.inl rfl)
      have hZ12K : zC [2] Z Z12 := zC_u zC_r hZ12 (zcl_2w (by omega) rfl)
      intro μ9 e9
      replace e9 := e9.trans (zm_wI (Z := Z) (ν := ν) hZ12 (show ((0 : Nat) : Int) = 0 from rfl) (show ((0 : Nat) : Int) = 0 from rfl) (i3I (y := (209 + 20 * a2)) (i3A (i3A (show (200 : Int32) = i3 200 from rfl) (i3M (show (20 : Int32) = i3 20 from rfl) (rfl : i3 a2 = i3 a2))) (show (9 : Int32) = i3 9 from rfl)) (by omega) (by omega) (by omega)) (show (3 : Int32) = i3 3 from rfl))
      subst e9
      refine wz_i0 (i3O (n := 4400) (i3A (i3A (show (3520 : Int32) = i3 3520 from rfl) (i3M (show (10 : Int32) = i3 10 from rfl) (rfl : i3 a1 = i3 a1))) (show (5 : Int32) = i3 5 from rfl)) (by omega) (by omega) (by omega)) ?_
      refine wz_i0 (i3O (n := 4400) (i3A (i3A (show (3520 : Int32) = i3 3520 from rfl) (i3M (show (10 : Int32) = i3 10 from rfl) (rfl : i3 a1 = i3 a1))) (show (5 : Int32) = i3 5 from rfl)) (by omega) (by omega) (by omega)) ?_
      have r13 := zM_f hZ12I 2 0 0 (3525 + 10 * a1)
      have r14 := w3_r ((Z12 2 0 0 (3525 + 10 * a1)) + 1)
      obtain ⟨Z15, hZ15⟩ := zx (zu Z12 2 0 0 (3525 + 10 * a1) (w3 ((Z12 2 0 0 (3525 + 10 * a1)) + 1)))
      replace hP := zl_e hP hZ15
      have hZ15I := zM_u2 hZ12I hZ15 (lo := -2147483648) (hi := 2147483647) (zs_3520_5 (x := a1) (by omega) (by omega) (by omega)) (by omega) ⟨by decide, by decide⟩ (by simp only [zsp]; omega)
      have hZ15U : zU [] Z Z15 := zU_u hZ12U hZ15 (Or.inl rfl)
      have hZ15K : zC [2] Z Z15 := zC_u hZ12K hZ15 (zcl_2w (by omega) rfl)
      intro μ9 e9
      replace e9 := e9.trans (zm_wI (Z := Z12) (ν := ν) hZ15 (show ((0 : Nat) : Int) = 0 from rfl) (show ((0 : Nat) : Int) = 0 from rfl) (i3I (y := (3525 + 10 * a1)) (i3A (i3A (show (3520 : Int32) = i3 3520 from rfl) (i3M (show (10 : Int32) = i3 10 from rfl) (rfl : i3 a1 = i3 a1))) (show (5 : Int32) = i3 5 from rfl)) (by omega) (by omega) (by omega)) (i3W (i3A (zm_rd (Z := Z12) (ν := ν) (k := 2) (show ((0 : Nat) : Int) = 0 from rfl) (show ((0 : Nat) : Int) = 0 from rfl) (i3I (y := (3525 + 10 * a1)) (i3A (i3A (show (3520 : Int32) = i3 3520 from rfl) (i3M (show (10 : Int32) = i3 10 from rfl) (rfl : i3 a1 = i3 a1))) (show (5 : Int32) = i3 5 from rfl)) (by omega) (by omega) (by omega))) (show (1 : Int32) = i3 1 from rfl))))
      subst e9
      have r16 := zM_k hZ 2 0 0 (209 + 20 * a2) (lo := -1) (hi := 3) (by decide) (zs_200_9 (x := a2) (by omega) (by omega) (by omega))
      obtain ⟨Z17, hZ17, c9, hZ17I, kZ17, jZ17⟩ := sp_363 (ν := ν) hZ15I (a1 := a1) (by omega) (a2 := a2) (by omega) (a3 := a3) (by omega) (a4 := a4) (by omega) (a5 := (Z 2 0 0 (209 + 20 * a2))) (by omega) (zbh (c := 0) (k := 0) hM (Nat.le_of_ble_eq_true rfl))
      have hZ17U : zU [] Z Z17 := zU_t hZ15U jZ17 zU_b0
      have hZ17K : zC [2] Z Z17 := zC_t hZ15K kZ17 (by decide)
      replace hP := zl_e hP hZ17
      refine wz_cV_of (zas (zcons rfl (zcons (zvi (rfl : i3 a1 = i3 a1)) (zcons (zvi (rfl : i3 a2 = i3 a2)) (zcons (zvi (rfl : i3 a3 = i3 a3)) (zcons (zvi (rfl : i3 a4 = i3 a4)) (zcons (zvi (zm_rd (Z := Z) (ν := ν) (k := 2) (show ((0 : Nat) : Int) = 0 from rfl) (show ((0 : Nat) : Int) = 0 from rfl) (i3I (y := (209 + 20 * a2)) (i3A (i3A (show (200 : Int32) = i3 200 from rfl) (i3M (show (20 : Int32) = i3 20 from rfl) (rfl : i3 a2 = i3 a2))) (show (9 : Int32) = i3 9 from rfl)) (by omega) (by omega) (by omega)))) rfl)))))) c9) ?_
      clear c9
      have r18 := zM_k hZ17I 2 0 0 3813 (lo := 0) (hi := 99999) (by decide) rfl
      obtain ⟨Z19, hZ19, c9, hZ19I, kZ19, jZ19⟩ := sp_403 (ν := ν) hZ17I (a1 := 0) (by omega) (a2 := 7) (by omega) (a3 := (Z17 2 0 0 3813)) (by omega) (a4 := a2) (by omega) (zbh (c := 0) (k := 1) hM (Nat.le_of_ble_eq_true rfl))
      have hZ19U : zU [] Z Z19 := zU_t hZ17U jZ19 zU_b0
      have hZ19K : zC [2] Z Z19 := zC_t hZ17K kZ19 (by decide)
      replace hP := zl_e hP hZ19
      refine wz_cV_of (zas (zcons rfl (zcons (zvi (show (0 : Int32) = i3 0 from rfl)) (zcons (zvi (show (7 : Int32) = i3 7 from rfl)) (zcons (zvi (zm_rd (Z := Z17) (ν := ν) (k := 2) (show ((0 : Nat) : Int) = 0 from rfl) (show ((0 : Nat) : Int) = 0 from rfl) (show ((3813 : Nat) : Int) = 3813 from rfl))) (zcons (zvi (rfl : i3 a2 = i3 a2)) rfl))))) c9) ?_
      clear c9
      exact zlV hP ⟨(zmw (a := 1) (c := 124) hZ19I (Nat.le_of_ble_eq_true rfl)), hZ19K, hZ19U⟩
  · replace hP := zE_n hP h1
    obtain ⟨Z20, hZ20, c9, hZ20I, kZ20, jZ20⟩ := sp_431 (ν := ν) hZ (a1 := a2) (by omega) (a2 := 3) (by omega) (zbh (c := 0) (k := 123) hM (Nat.le_of_ble_eq_true rfl))
    have hZ20U : zU [] Z Z20 := zU_t zU_r jZ20 zU_b0
    have hZ20K : zC [2] Z Z20 := zC_t zC_r kZ20 (by decide)
    replace hP := zl_e hP hZ20
    refine wz_cV_of (zas (zcons rfl (zcons (zvi (rfl : i3 a2 = i3 a2)) (zcons (zvi (show (3 : Int32) = i3 3 from rfl)) rfl))) c9) ?_
    clear c9
    refine wz_i0 (i3O (n := 4400) (i3A (i3A (show (3520 : Int32) = i3 3520 from rfl) (i3M (show (10 : Int32) = i3 10 from rfl) (rfl : i3 a1 = i3 a1))) (show (6 : Int32) = i3 6 from rfl)) (by omega) (by omega) (by omega)) ?_
    refine wz_i0 (i3O (n := 4400) (i3A (i3A (show (3520 : Int32) = i3 3520 from rfl) (i3M (show (10 : Int32) = i3 10 from rfl) (rfl : i3 a1 = i3 a1))) (show (6 : Int32) = i3 6 from rfl)) (by omega) (by omega) (by omega)) ?_
    have r21 := zM_f hZ20I 2 0 0 (3526 + 10 * a1)
    have r22 := w3_r ((Z20 2 0 0 (3526 + 10 * a1)) + 1)
    obtain ⟨Z23, hZ23⟩ := zx (zu Z20 2 0 0 (3526 + 10 * a1) (w3 ((Z20 2 0 0 (3526 + 10 * a1)) + 1)))
    replace hP := zl_e hP hZ23
    have hZ23I := zM_u2 hZ20I hZ23 (lo := -2147483648) (hi := 2147483647) (zs_3520_6 (x := a1) (by omega) (by omega) (by omega)) (by omega) ⟨by decide, by decide⟩ (by simp only [zsp]; omega)
    have hZ23U : zU [] Z Z23 := zU_u hZ20U hZ23 (Or.inl rfl)
    have hZ23K : zC [2] Z Z23 := zC_u hZ20K hZ23 (zcl_2w (by omega) rfl)
    intro μ9 e9
    replace e9 := e9.trans (zm_wI (Z := Z20) (ν := ν) hZ23 (show ((0 : Nat) : Int) = 0 from rfl) (show ((0 : Nat) : Int) = 0 from rfl) (i3I (y := (3526 + 10 * a1)) (i3A (i3A (show (3520 : Int32) = i3 3520 from rfl) (i3M (show (10 : Int32) = i3 10 from rfl) (rfl : i3 a1 = i3 a1))) (show (6 : Int32) = i3 6 from rfl)) (by omega) (by omega) (by omega)) (i3W (i3A (zm_rd (Z := Z20) (ν := ν) (k := 2) (show ((0 : Nat) : Int) = 0 from rfl) (show ((0 : Nat) : Int) = 0 from rfl) (i3I (y := (3526 + 10 * a1)) (i3A (i3A (show (3520 : Int32) = i3 3520 from rfl) (i3M (show (10 : Int32) = i3 10 from rfl) (rfl : i3 a1 = i3 a1))) (show (6 : Int32) = i3 6 from rfl)) (by omega) (by omega) (by omega))) (show (1 : Int32) = i3 1 from rfl))))
    subst e9
    refine wz_i0 (i3O (n := 4400) (i3A (i3A (show (3520 : Int32) = i3 3520 from rfl) (i3M (show (10 : Int32) = i3 10 from rfl) (rfl : i3 a1 = i3 a1))) (show (5 : Int32) = i3 5 from rfl)) (by omega) (by omega) (by omega)) ?_
    refine wz_i0 (i3O (n := 4400) (i3A (i3A (show (3520 : Int32) = i3 3520 from rfl) (i3M (show (10 : Int32) = i3 10 from rfl) (rfl : i3 a1 = i3 a1))) (show (5 : Int32) = i3 5 from rfl)) (by omega) (by omega) (by omega)) ?_
    have r24 := zM_f hZ23I 2 0 0 (3525 + 10 * a1)
    have r25 := w3_r ((Z23 2 0 0 (3525 + 10 * a1)) + 1)
    obtain ⟨Z26, hZ26⟩ := zx (zu Z23 2 0 0 (3525 + 10 * a1) (w3 ((Z23 2 0 0 (3525 + 10 * a1)) + 1)))
    replace hP := zl_e hP hZ26
    have hZ26I := zM_u2 hZ23I hZ26 (lo := -2147483648) (hi := 2147483647) (zs_3520_5 (x := a1) (by omega) (by omega) (by omega)) (by omega) ⟨by decide, by decide⟩ (by simp only [zsp]; omega)
    have hZ26U : zU [] Z Z26 := zU_u hZ23U hZ26 (Or.inl rfl)
    have hZ26K : zC [2] Z Z26 := zC_u hZ23K hZ26 (zcl_2w (by omega) rfl)
    intro μ9 e9
    replace e9 := e9.trans (zm_wI (Z := Z23) (ν := ν) hZ26 (show ((0 : Nat) : Int) = 0 from rfl) (show ((0 : Nat) : Int) = 0 from rfl) (i3I (y := (3525 + 10 * a1)) (i3A (i3A (show (3520 : Int32) = i3 3520 from rfl) (i3M (show (10 : Int32) = i3 10 from rfl) (rfl : i3 a1 = i3 a1))) (show (5 : Int32) = i3 5 from rfl)) (by omega) (by omega) (by omega)) (i3W (i3A (zm_rd (Z := Z23) (ν := ν) (k := 2) (show ((0 : Nat) : Int) = 0 from rfl) (show ((0 : Nat) : Int) = 0 from rfl) (i3I (y := (3525 + 10 * a1)) (i3A (i3A (show (3520 : Int32) = i3 3520 from rfl) (i3M (show (10 : Int32) = i3 10 from rfl) (rfl : i3 a1 = i3 a1))) (show (5 : Int32) = i3 5 from rfl)) (by omega) (by omega) (by omega))) (show (1 : Int32) = i3 1 from rfl))))
    subst e9
    have r27 := zM_k hZ 2 0 0 (209 + 20 * a2) (lo := -1) (hi := 3) (by decide) (zs_200_9 (x := a2) (by omega) (by omega) (by omega))
    obtain ⟨Z28, hZ28, c9, hZ28I, kZ28, jZ28⟩ := sp_363 (ν := ν) hZ26I (a1 := a1) (by omega) (a2 := a2) (by omega) (a3 := a3) (by omega) (a4 := a4) (by omega) (a5 := (Z 2 0 0 (209 + 20 * a2))) (by omega) (zbh (c := 123) (k := 0) hM (Nat.le_of_ble_eq_true rfl))
    have hZ28U : zU [] Z Z28 := zU_t hZ26U jZ28 zU_b0
    have hZ28K : zC [2] Z Z28 := zC_t hZ26K kZ28 (by decide)
    replace hP := zl_e hP hZ28
    refine wz_cV_of (zas (zcons rfl (zcons (zvi (rfl : i3 a1 = i3 a1)) (zcons (zvi (rfl : i3 a2 = i3 a2)) (zcons (zvi (rfl : i3 a3 = i3 a3)) (zcons (zvi (rfl : i3 a4 = i3 a4)) (zcons (zvi (zm_rd (Z := Z) (ν := ν) (k := 2) (show ((0 : Nat) : Int) = 0 from rfl) (show ((0 : Nat) : Int) = 0 from rfl) (i3I (y := (209 + 20 * a2)) (i3A (i3A (show (200 : Int32) = i3 200 from rfl) (i3M (show (20 : Int32) = i3 20 from rfl) (rfl : i3 a2 = i3 a2))) (show (9 : Int32) = i3 9 from rfl)) (by omega) (by omega) (by omega)))) rfl)))))) c9) ?_
    clear c9
    have r29 := zM_k hZ28I 2 0 0 3813 (lo := 0) (hi := 99999) (by decide) rfl
    obtain ⟨Z30, hZ30, c9, hZ30I, kZ30, jZ30⟩ := sp_403 (ν := ν) hZ28I (a1 := 0) (by omega) (a2 := 7) (by omega) (a3 := (Z28 2 0 0 3813)) (by omega) (a4 := a2) (by omega) (zbh (c := 123) (k := 1) hM (Nat.le_of_ble_eq_true rfl))
    have hZ30U : zU [] Z Z30 := zU_t hZ28U jZ30 zU_b0
    have hZ30K : zC [2] Z Z30 := zC_t hZ28K kZ30 (by decide)
    replace hZ30I := zmt (c := 124) hZ30I rfl
    replace hP := zl_e hP hZ30
    refine wz_cV_of (zas (zcons rfl (zcons (zvi (show (0 : Int32) = i3 0 from rfl)) (zcons (zvi (show (7 : Int32) = i3 7 from rfl)) (zcons (zvi (zm_rd (Z := Z28) (ν := ν) (k := 2) (show ((0 : Nat) : Int) = 0 from rfl) (show ((0 : Nat) : Int) = 0 from rfl) (show ((3813 : Nat) : Int) = 3813 from rfl))) (zcons (zvi (rfl : i3 a2 = i3 a2)) rfl))))) c9) ?_
    clear c9
    exact zlV hP ⟨hZ30I, hZ30K, hZ30U⟩
/- yX12_iKind -/
def zf_364 (Z : qz_Z) (a1 : Int) (a2 : Int) : Int := (if ((Z 2 0 0 (113 + 5 * (Z 2 0 0 (201 + 20 * a2)))) - (Z 2 0 0 (114 + 5 * (Z 2 0 0 (201 + 20 * a2))))) ≤ (Z 2 0 0 (207 + 20 * a2)) then (if ((Z 2 0 0 (113 + 5 * (Z 2 0 0 (201 + 20 * a2)))) + (Z 2 0 0 (114 + 5 * (Z 2 0 0 (201 + 20 * a2))))) < (Z 2 0 0 (207 + 20 * a2)) then (if ((Z 2 0 0 (113 + 5 * (Z 2 0 0 (201 + 20 * a2)))) + (3 * (Z 2 0 0 (114 + 5 * (Z 2 0 0 (201 + 20 * a2)))))) < (Z 2 0 0 (207 + 20 * a2)) then 0 else (if (Z 2 0 0 (208 + 20 * a2)) < 24 then (if (Z 2 0 0 (3521 + 10 * a1)) < 1 then (-1) else (if (Z 2 0 0 (209 + 20 * a2)) = (-1) then (-1) else (zlet (zf_326 Z a2) (fun v14 => (if v14 ≤ (Z 2 0 0 (209 + 20 * a2)) then (-1) else 2))))) else (if (Z 2 0 0 (209 + 20 * a2)) < 0 then (if (Z 2 0 0 (3521 + 10 * a1)) < 1 then (-1) else (-1)) else (if 2 < (Z 2 0 0 (209 + 20 * a2)) then (if (Z 2 0 0 (3521 + 10 * a1)) < 1 then (-1) else (zlet (zf_326 Z a2) (fun v23 => (-1)))) else 1)))) else (if (Z 2 0 0 (208 + 20 * a2)) < 24 then (if (Z 2 0 0 (3521 + 10 * a1)) < 1 then (-1) else (if (Z 2 0 0 (209 + 20 * a2)) = (-1) then (-1) else (zlet (zf_326 Z a2) (fun v30 => (if v30 ≤ (Z 2 0 0 (209 + 20 * a2)) then (-1) else 2))))) else (if (Z 2 0 0 (209 + 20 * a2)) < 0 then (if (Z 2 0 0 (3521 + 10 * a1)) < 1 then (-1) else (-1)) else (if 2 < (Z 2 0 0 (209 + 20 * a2)) then (if (Z 2 0 0 (3521 + 10 * a1)) < 1 then (-1) else (zlet (zf_326 Z a2) (fun v39 => (-1)))) else 1)))) else (if (Z 2 0 0 (208 + 20 * a2)) < 24 then (if (Z 2 0 0 (3521 + 10 * a1)) < 1 then (-1) else (if (Z 2 0 0 (209 + 20 * a2)) = (-1) then (-1) else (zlet (zf_326 Z a2) (fun v46 => (if v46 ≤ (Z 2 0 0 (209 + 20 * a2)) then (-1) else 2))))) else (if (Z 2 0 0 (209 + 20 * a2)) < 0 then (if (Z 2 0 0 (3521 + 10 * a1)) < 1 then (-1) else (-1)) else (if 2 < (Z 2 0 0 (209 + 20 * a2)) then (if (Z 2 0 0 (3521 + 10 * a1)) < 1 then (-1) else (zlet (zf_326 Z a2) (fun v55 => (-1)))) else 1))))
theorem sp_364 {s : zSM} {Z : qz_Z} {ν : qz_N} (hZ : zM s Z) {a1 : Int} (ga1 : 0 ≤ a1 ∧ a1 ≤ 1) {a2 : Int} (ga2 : 0 ≤ a2 ∧ a2 ≤ 47) (hM : s.2 + 0 ≤ 1000000000) : ∃ P : Int, P = zf_364 Z a1 a2 ∧ (qf_364 [.inr (.inr (some (1, 0, 0))), .inl (i3 a1), .inl (i3 a2)] (zm Z ν) = some (zm Z ν, .inl (some (.inl (i3 P)))) ∧ -1 ≤ P ∧ P ≤ 2) := by
  obtain ⟨P, hP⟩ := zx (zf_364 Z a1 a2)
  refine zc_R (Q := fun P => -1 ≤ P ∧ P ≤ 2) hP (fw_364 (i3 a1) (i3 a2) _ _ ?_)
  replace hP : zE P (zf_364 Z a1 a2) := hP
  unfold zf_364 at hP
  refine wz_i0 (i3O (n := 4400) (i3A (i3A (show (200 : Int32) = i3 200 from rfl) (i3M (show (20 : Int32) = i3 20 from rfl) (rfl : i3 a2 = i3 a2))) (show (9 : Int32) = i3 9 from rfl)) (by omega) (by omega) (by omega)) ?_
  refine wz_i0 (i3O (n := 4400) (i3A (i3A (show (200 : Int32) = i3 200 from rfl) (i3M (show (20 : Int32) = i3 20 from rfl) (rfl : i3 a2 = i3 a2))) (show (1 : Int32) = i3 1 from rfl)) (by omega) (by omega) (by omega)) ?_
  refine wz_i0 (i3O (n := 4400) (i3A (i3A (show (200 : Int32) = i3 200 from rfl) (i3M (show (20 : Int32) = i3 20 from rfl) (rfl : i3 a2 = i3 a2))) (show (7 : Int32) = i3 7 from rfl)) (by omega) (by omega) (by omega)) ?_
  have r1 := zM_k hZ 2 0 0 (201 + 20 * a2) (lo := 0) (hi := 4) (by decide) (zs_200_1 (x := a2) (by omega) (by omega) (by omega))
  refine wz_i0 (i3O (n := 4400) (i3A (i3A (show (110 : Int32) = i3 110 from rfl) (i3M (show (5 : Int32) = i3 5 from rfl) (zm_rd (Z := Z) (ν := ν) (k := 2) (show ((0 : Nat) : Int) = 0 from rfl) (show ((0 : Nat) : Int) = 0 from rfl) (i3I (y := (201 + 20 * a2)) (i3A (i3A (show (200 : Int32) = i3 200 from rfl) (i3M (show (20 : Int32) = i3 20 from rfl) (rfl : i3 a2 = i3 a2))) (show (1 : Int32) = i3 1 from rfl)) (by omega) (by omega) (by omega))))) (show (3 : Int32) = i3 3 from rfl)) (by omega) (by omega) (by omega)) ?_
  refine wz_i0 (i3O (n := 4400) (i3A (i3A (show (110 : Int32) = i3 110 from rfl) (i3M (show (5 : Int32) = i3 5 from rfl) (zm_rd (Z := Z) (ν := ν) (k := 2) (show ((0 : Nat) : Int) = 0 from rfl) (show ((0 : Nat) : Int) = 0 from rfl) (i3I (y := (201 + 20 * a2)) (i3A (i3A (show (200 : Int32) = i3 200 from rfl) (i3M (show (20 : Int32) = i3 20 from rfl) (rfl : i3 a2 = i3 a2))) (show (1 : Int32) = i3 1 from rfl)) (by omega) (by omega) (by omega))))) (show (4 : Int32) = i3 4 from rfl)) (by omega) (by omega) (by omega)) ?_
  have r2 := zM_k hZ 2 0 0 (113 + 5 * (Z 2 0 0 (201 + 20 * a2))) (lo := 0) (hi := 600) (by decide) (zs_110_3 (x := (Z 2 0 0 (201 + 20 * a2))) (by omega) (by omega) (by omega))
  have r3 := zM_k hZ 2 0 0 (114 + 5 * (Z 2 0 0 (201 + 20 * a2))) (lo := 0) (hi := 99) (by decide) (zs_110_4 (x := (Z 2 0 0 (201 + 20 * a2))) (by omega) (by omega) (by omega))
  have r4 := zM_k hZ 2 0 0 (207 + 20 * a2) (lo := 0) (hi := 2000) (by decide) (zs_200_7 (x := a2) (by omega) (by omega) (by omega))
  refine wz_br (i3Le (i3S (zm_rd (Z := Z) (ν := ν) (k := 2) (show ((0 : Nat) : Int) = 0 from rfl) (show ((0 : Nat) : Int) = 0 from rfl) (i3I (y := (113 + 5 * (Z 2 0 0 (201 + 20 * a2)))) (i3A (i3A (show (110 : Int32) = i3 110 from rfl) (i3M (show (5 : Int32) = i3 5 from rfl) (zm_rd (Z := Z) (ν := ν) (k := 2) (show ((0 : Nat) : Int) = 0 from rfl) (show ((0 : Nat) : Int) = 0 from rfl) (i3I (y := (201 + 20 * a2)) (i3A (i3A (show (200 : Int32) = i3 200 from rfl) (i3M (show (20 : Int32) = i3 20 from rfl) (rfl : i3 a2 = i3 a2))) (show (1 : Int32) = i3 1 from rfl)) (by omega) (by omega) (by omega))))) (show (3 : Int32) = i3 3 from rfl)) (by omega) (by omega) (by omega))) (zm_rd (Z := Z) (ν := ν) (k := 2) (show ((0 : Nat) : Int) = 0 from rfl) (show ((0 : Nat) : Int) = 0 from rfl) (i3I (y := (114 + 5 * (Z 2 0 0 (201 + 20 * a2)))) (i3A (i3A (show (110 : Int32) = i3 110 from rfl) (i3M (show (5 : Int32) = i3 5 from rfl) (zm_rd (Z := Z) (ν := ν) (k := 2) (show ((0 : Nat) : Int) = 0 from rfl) (show ((0 : Nat) : Int) = 0 from rfl) (i3I (y := (201 + 20 * a2)) (i3A (i3A (show (200 : Int32) = i3 200 from rfl) (i3M (show (20 : Int32) = i3 20 from rfl) (rfl : i3 a2 = i3 a2))) (show (1 : Int32) = i3 1 from rfl)) (by omega) (by omega) (by omega))))) (show (4 : Int32) = i3 4 from rfl)) (by omega) (by omega) (by omega)))) (zm_rd (Z := Z) (ν := ν) (k := 2) (show ((0 : Nat) : Int) = 0 from rfl) (show ((0 : Nat) : Int) = 0 from rfl) (i3I (y := (207 + 20 * a2)) (i3A (i3A (show (200 : Int32) = i3 200 from rfl) (i3M (show (20 : Int32) = i3 20 from rfl) (rfl : i3 a2 = i3 a2))) (show (7 : Int32) = i3 7 from rfl)) (by omega) (by omega) (by omega))) (by omega) (by omega) (by omega) (by omega)) (fun h5 => ?_) (fun h5 => ?_)
  · replace hP := zE_p hP h5
    refine wz_br (i3L (i3A (zm_rd (Z := Z) (ν := ν) (k := 2) (show ((0 : Nat) : Int) = 0 from rfl) (show ((0 : Nat) : Int) = 0 from rfl) (i3I (y := (113 + 5 * (Z 2 0 0 (201 + 20 * a2)))) (i3A (i3A (show (110 : Int32) = i3 110 from rfl) (i3M (show (5 : Int32) = i3 5 from rfl) (zm_rd (Z := Z) (ν := ν) (k := 2) (show ((0 : Nat) : Int) = 0 from rfl) (show ((0 : Nat) : Int) = 0 from rfl) (i3I (y := (201 + 20 * a2)) (i3A (i3A (show (200 : Int32) = i3 200 from rfl) (i3M (show (20 : Int32) = i3 20 from rfl) (rfl : i3 a2 = i3 a2))) (show (1 : Int32) = i3 1 from rfl)) (by omega) (by omega) (by omega))))) (show (3 : Int32) = i3 3 from rfl)) (by omega) (by omega) (by omega))) (zm_rd (Z := Z) (ν := ν) (k := 2) (show ((0 : Nat) : Int) = 0 from rfl) (show ((0 : Nat) : Int) = 0 from rfl) (i3I (y := (114 + 5 * (Z 2 0 0 (201 + 20 * a2)))) (i3A (i3A (show (110 : Int32) = i3 110 from rfl) (i3M (show (5 : Int32) = i3 5 from rfl) (zm_rd (Z := Z) (ν := ν) (k := 2) (show ((0 : Nat) : Int) = 0 from rfl) (show ((0 : Nat) : Int) = 0 from rfl) (i3I (y := (201 + 20 * a2)) (i3A (i3A (show (200 : Int32) = i3 200 from rfl) (i3M (show (20 : Int32) = i3 20 from rfl) (rfl : i3 a2 = i3 a2))) (show (1 : Int32) = i3 1 from rfl)) (by omega) (by omega) (by omega))))) (show (4 : Int32) = i3 4 from rfl)) (by omega) (by omega) (by omega)))) (zm_rd (Z := Z) (ν := ν) (k := 2) (show ((0 : Nat) : Int) = 0 from rfl) (show ((0 : Nat) : Int) = 0 from rfl) (i3I (y := (207 + 20 * a2)) (i3A (i3A (show (200 : Int32) = i3 200 from rfl) (i3M (show (20 : Int32) = i3 20 from rfl) (rfl : i3 a2 = i3 a2))) (show (7 : Int32) = i3 7 from rfl)) (by omega) (by omega) (by omega))) (by omega) (by omega) (by omega) (by omega)) (fun h6 => ?_) (fun h6 => ?_)
    · replace hP := zE_p hP h6
      refine wz_br (i3L (i3A (zm_rd (Z := Z) (ν := ν) (k := 2) (show ((0 : Nat) : Int) = 0 from rfl) (show ((0 : Nat) : Int) = 0 from rfl) (i3I (y := (113 + 5 * (Z 2 0 0 (201 + 20 * a2)))) (i3A (i3A (show (110 : Int32) = i3 110 from rfl) (i3M (show (5 : Int32) = i3 5 from rfl) (zm_rd (Z := Z) (ν := ν) (k := 2) (show ((0 : Nat) : Int) = 0 from rfl) (show ((0 : Nat) : Int) = 0 from rfl) (i3I (y := (201 + 20 * a2)) (i3A (i3A (show (200 : Int32) = i3 200 from rfl) (i3M (show (20 : Int32) = i3 20 from rfl) (rfl : i3 a2 = i3 a2))) (show (1 : Int32) = i3 1 from rfl)) (by omega) (by omega) (by omega))))) (show (3 : Int32) = i3 3 from rfl)) (by omega) (by omega) (by omega))) (i3M (show (3 : Int32) = i3 3 from rfl) (zm_rd (Z := Z) (ν := ν) (k := 2) (show ((0 : Nat) : Int) = 0 from rfl) (show ((0 : Nat) : Int) = 0 from rfl) (i3I (y := (114 + 5 * (Z 2 0 0 (201 + 20 * a2)))) (i3A (i3A (show (110 : Int32) = i3 110 from rfl) (i3M (show (5 : Int32) = i3 5 from rfl) (zm_rd (Z := Z) (ν := ν) (k := 2) (show ((0 : Nat) : Int) = 0 from rfl) (show ((0 : Nat) : Int) = 0 from rfl) (i3I (y := (201 + 20 * a2)) (i3A (i3A (show (200 : Int32) = i3 200 from rfl) (i3M (show (20 : Int32) = i3 20 from rfl) (rfl : i3 a2 = i3 a2))) (show (1 : Int32) = i3 1 from rfl)) (by omega) (by omega) (by omega))))) (show (4 : Int32) = i3 4 from rfl)) (by omega) (by omega) (by omega))))) (zm_rd (Z := Z) (ν := ν) (k := 2) (show ((0 : Nat) : Int) = 0 from rfl) (show ((0 : Nat) : Int) = 0 from rfl) (i3I (y := (207 + 20 * a2)) (i3A (i3A (show (200 : Int32) = i3 200 from rfl) (i3M (show (20 : Int32) = i3 20 from rfl) (rfl : i3 a2 = i3 a2))) (show (7 : Int32) = i3 7 from rfl)) (by omega) (by omega) (by omega))) (by omega) (by omega) (by omega) (by omega)) (fun h7 => ?_) (fun h7 => ?_)
      · replace hP := zE_p hP h7
        exact zlR hP (show (0 : Int32) = i3 0 from rfl) ⟨by omega, by omega⟩
      · replace hP := zE_n hP h7
        refine wz_i0 (i3O (n := 4400) (i3A (i3A (show (200 : Int32) = i3 200 from rfl) (i3M (show (20 : Int32) = i3 20 from rfl) (rfl : i3 a2 = i3 a2))) (show (8 : Int32) = i3 8 from rfl)) (by omega) (by omega) (by omega)) ?_
        have r8 := zM_k hZ 2 0 0 (208 + 20 * a2) (lo := 0) (hi := 999) (by decide) (zs_200_8 (x := a2) (by omega) (by omega) (by omega))
        refine wz_br (i3L (zm_rd (Z := Z) (ν := ν) (k := 2) (show ((0 : Nat) : Int) = 0 from rfl) (show ((0 : Nat) : Int) = 0 from rfl) (i3I (y := (208 + 20 * a2)) (i3A (i3A (show (200 : Int32) = i3 200 from rfl) (i3M (show (20 : Int32) = i3 20 from rfl) (rfl : i3 a2 = i3 a2))) (show (8 : Int32) = i3 8 from rfl)) (by omega) (by omega) (by omega))) (show (24 : Int32) = i3 24 from rfl) (by omega) (by omega) (by omega) (by omega)) (fun h9 => ?_) (fun h9 => ?_)
        · replace hP := zE_p hP h9
          refine wz_i0 (i3O (n := 4400) (i3A (i3A (show (3520 : Int32) = i3 3520 from rfl) (i3M (show (10 : Int32) = i3 10 from rfl) (rfl : i3 a1 = i3 a1))) (show (1 : Int32) = i3 1 from rfl)) (by omega) (by omega) (by omega)) ?_
          have r10 := zM_k hZ 2 0 0 (3521 + 10 * a1) (lo := 0) (hi := 3) (by decide) (zs_3520_1 (x := a1) (by omega) (by omega) (by omega))
          refine wz_br (i3L (zm_rd (Z := Z) (ν := ν) (k := 2) (show ((0 : Nat) : Int) = 0 from rfl) (show ((0 : Nat) : Int) = 0 from rfl) (i3I (y := (3521 + 10 * a1)) (i3A (i3A (show (3520 : Int32) = i3 3520 from rfl) (i3M (show (10 : Int32) = i3 10 from rfl) (rfl : i3 a1 = i3 a1))) (show (1 : Int32) = i3 1 from rfl)) (by omega) (by omega) (by omega))) (show (1 : Int32) = i3 1 from rfl) (by omega) (by omega) (by omega) (by omega)) (fun h11 => ?_) (fun h11 => ?_)
          · replace hP := zE_p hP h11
            exact zlR hP (show (-1 : Int32) = i3 (-1) from rfl) ⟨by omega, by omega⟩
          · replace hP := zE_n hP h11
            have r12 := zM_k hZ 2 0 0 (209 + 20 * a2) (lo := -1) (hi := 3) (by decide) (zs_200_9 (x := a2) (by omega) (by omega) (by omega))
            refine wz_br (i3E (zm_rd (Z := Z) (ν := ν) (k := 2) (show ((0 : Nat) : Int) = 0 from rfl) (show ((0 : Nat) : Int) = 0 from rfl) (i3I (y := (209 + 20 * a2)) (i3A (i3A (show (200 : Int32) = i3 200 from rfl) (i3M (show (20 : Int32) = i3 20 from rfl) (rfl : i3 a2 = i3 a2))) (show (9 : Int32) = i3 9 from rfl)) (by omega) (by omega) (by omega))) (show (-1 : Int32) = i3 (-1) from rfl) (by omega) (by omega) (by omega) (by omega)) (fun h13 => ?_) (fun h13 => ?_)
            · replace hP := zE_p hP h13
              exact zlR hP (show (-1 : Int32) = i3 (-1) from rfl) ⟨by omega, by omega⟩
            · replace hP := zE_n hP h13
              obtain ⟨v14, hv14, c9, lv14, uv14⟩ := sp_326 (ν := ν) hZ (a1 := a2) (by omega) (zbh (c := 0) (k := 0) hM (Nat.le_of_ble_eq_true rfl))
              replace hP := zl_e hP hv14
              refine wz_cI_of (zas (zcons rfl (zcons (zvi (rfl : i3 a2 = i3 a2)) rfl)) c9) ?_
              clear c9
              refine wz_br (i3Le (rfl : i3 v14 = i3 v14) (zm_rd (Z := Z) (ν := ν) (k := 2) (show ((0 : Nat) : Int) = 0 from rfl) (show ((0 : Nat) : Int) = 0 from rfl) (i3I (y := (209 + 20 * a2)) (i3A (i3A (show (200 : Int32) = i3 200 from rfl) (i3M (show (20 : Int32) = i3 20 from rfl) (rfl : i3 a2 = i3 a2))) (show (9 : Int32) = i3 9 from rfl)) (by omega) (by omega) (by omega))) (by omega) (by omega) (by omega) (by omega)) (fun h15 => ?_) (fun h15 => ?_)
              · replace hP := zE_p hP h15
                exact zlR hP (show (-1 : Int32) = i3 (-1) from rfl) ⟨by omega, by omega⟩
              · replace hP := zE_n hP h15
                exact zlR hP (show (2 : Int32) = i3 2 from rfl) ⟨by omega, by omega⟩
        · replace hP := zE_n hP h9
          have r16 := zM_k hZ 2 0 0 (209 + 20 * a2) (lo := -1) (hi := 3) (by decide) (zs_200_9 (x := a2) (by omega) (by omega) (by omega))
          refine wz_br (i3L (zm_rd (Z := Z) (ν := ν) (k := 2) (show ((0 : Nat) : Int) = 0 from rfl) (show ((0 : Nat) : Int) = 0 from rfl) (i3I (y := (209 + 20 * a2)) (i3A (i3A (show (200 : Int32) = i3 200 from rfl) (i3M (show (20 : Int32) = i3 20 from rfl) (rfl : i3 a2 = i3 a2))) (show (9 : Int32) = i3 9 from rfl)) (by omega) (by omega) (by omega))) (show (0 : Int32) = i3 0 from rfl) (by omega) (by omega) (by omega) (by omega)) (fun h17 => ?_) (fun h17 => ?_)
          · replace hP := zE_p hP h17
            refine wz_i0 (i3O (n := 4400) (i3A (i3A (show (3520 : Int32) = i3 3520 from rfl) (i3M (show (10 : Int32) = i3 10 from rfl) (rfl : i3 a1 = i3 a1))) (show (1 : Int32) = i3 1 from rfl)) (by omega) (by omega) (by omega)) ?_
            have r18 := zM_k hZ 2 0 0 (3521 + 10 * a1) (lo := 0) (hi := 3) (by decide) (zs_3520_1 (x := a1) (by omega) (by omega) (by omega))
            refine wz_br (i3L (zm_rd (Z := Z) (ν := ν) (k := 2) (show ((0 : Nat) : Int) = 0 from rfl) (show ((0 : Nat) : Int) = 0 from rfl) (i3I (y := (3521 + 10 * a1)) (i3A (i3A (show (3520 : Int32) = i3 3520 from rfl) (i3M (show (10 : Int32) = i3 10 from rfl) (rfl : i3 a1 = i3 a1))) (show (1 : Int32) = i3 1 from rfl)) (by omega) (by omega) (by omega))) (show (1 : Int32) = i3 1 from rfl) (by omega) (by omega) (by omega) (by omega)) (fun h19 => ?_) (fun h19 => ?_)
            · replace hP := zE_p hP h19
              exact zlR hP (show (-1 : Int32) = i3 (-1) from rfl) ⟨by omega, by omega⟩
            · replace hP := zE_n hP h19
              refine wz_i1 (Eq.trans (i3E (zm_rd (Z := Z) (ν := ν) (k := 2) (show ((0 : Nat) : Int) = 0 from rfl) (show ((0 : Nat) : Int) = 0 from rfl) (i3I (y := (209 + 20 * a2)) (i3A (i3A (show (200 : Int32) = i3 200 from rfl) (i3M (show (20 : Int32) = i3 20 from rfl) (rfl : i3 a2 = i3 a2))) (show (9 : Int32) = i3 9 from rfl)) (by omega) (by omega) (by omega))) (show (-1 : Int32) = i3 (-1) from rfl) (by omega) (by omega) (by omega) (by omega)) (decide_eq_true (by omega))) ?_
              exact zlR hP (show (-1 : Int32) = i3 (-1) from rfl) ⟨by omega, by omega⟩
          · replace hP := zE_n hP h17
            refine wz_br (i3L (show (2 : Int32) = i3 2 from rfl) (zm_rd (Z := Z) (ν := ν) (k := 2) (show ((0 : Nat) : Int) = 0 from rfl) (show ((0 : Nat) : Int) = 0 from rfl) (i3I (y := (209 + 20 * a2)) (i3A (i3A (show (200 : Int32) = i3 200 from rfl) (i3M (show (20 : Int32) = i3 20 from rfl) (rfl : i3 a2 = i3 a2))) (show (9 : Int32) = i3 9 from rfl)) (by omega) (by omega) (by omega))) (by omega) (by omega) (by omega) (by omega)) (fun h20 => ?_) (fun h20 => ?_)
            · replace hP := zE_p hP h20
              refine wz_i0 (i3O (n := 4400) (i3A (i3A (show (3520 : Int32) = i3 3520 from rfl) (i3M (show (10 : Int32) = i3 10 from rfl) (rfl : i3 a1 = i3 a1))) (show (1 : Int32) = i3 1 from rfl)) (by omega) (by omega) (by omega)) ?_
              have r21 := zM_k hZ 2 0 0 (3521 + 10 * a1) (lo := 0) (hi := 3) (by decide) (zs_3520_1 (x := a1) (by omega) (by omega) (by omega))
              refine wz_br (i3L (zm_rd (Z := Z) (ν := ν) (k := 2) (show ((0 : Nat) : Int) = 0 from rfl) (show ((0 : Nat) : Int) = 0 from rfl) (i3I (y := (3521 + 10 * a1)) (i3A (i3A (show (3520 : Int32) = i3 3520 from rfl) (i3M (show (10 : Int32) = i3 10 from rfl) (rfl : i3 a1 = i3 a1))) (show (1 : Int32) = i3 1 from rfl)) (by omega) (by omega) (by omega))) (show (1 : Int32) = i3 1 from rfl) (by omega) (by omega) (by omega) (by omega)) (fun h22 => ?_) (fun h22 => ?_)
              · replace hP := zE_p hP h22
                exact zlR hP (show (-1 : Int32) = i3 (-1) from rfl) ⟨by omega, by omega⟩
              · replace hP := zE_n hP h22
                refine wz_i0 (Eq.trans (i3E (zm_rd (Z := Z) (ν := ν) (k := 2) (show ((0 : Nat) : Int) = 0 from rfl) (show ((0 : Nat) : Int) = 0 from rfl) (i3I (y := (209 + 20 * a2)) (i3A (i3A (show (200 : Int32) = i3 200 from rfl) (i3M (show (20 : Int32) = i3 20 from rfl) (rfl : i3 a2 = i3 a2))) (show (9 : Int32) = i3 9 from rfl)) (by omega) (by omega) (by omega))) (show (-1 : Int32) = i3 (-1) from rfl) (by omega) (by omega) (by omega) (by omega)) (decide_eq_false (by omega))) ?_
                obtain ⟨v23, hv23, c9, lv23, uv23⟩ := sp_326 (ν := ν) hZ (a1 := a2) (by omega) (zbh (c := 0) (k := 0) hM (Nat.le_of_ble_eq_true rfl))
                replace hP := zl_e hP hv23
                refine wz_cI_of (zas (zcons rfl (zcons (zvi (rfl : i3 a2 = i3 a2)) rfl)) c9) ?_
                clear c9
                refine wz_i1 (Eq.trans (i3Le (rfl : i3 v23 = i3 v23) (zm_rd (Z := Z) (ν := ν) (k := 2) (show ((0 : Nat) : Int) = 0 from rfl) (show ((0 : Nat) : Int) = 0 from rfl) (i3I (y := (209 + 20 * a2)) (i3A (i3A (show (200 : Int32) = i3 200 from rfl) (i3M (show (20 : Int32) = i3 20 from rfl) (rfl : i3 a2 = i3 a2))) (show (9 : Int32) = i3 9 from rfl)) (by omega) (by omega) (by omega))) (by omega) (by omega) (by omega) (by omega)) (decide_eq_true (by omega))) ?_
                exact zlR hP (show (-1 : Int32) = i3 (-1) from rfl) ⟨by omega, by omega⟩
            · replace hP := zE_n hP h20
              exact zlR hP (show (1 : Int32) = i3 1 from rfl) ⟨by omega, by omega⟩
    · replace hP := zE_n hP h6
      refine wz_i0 (i3O (n := 4400) (i3A (i3A (show (200 : Int32) = i3 200 from rfl) (i3M (show (20 : Int32) = i3 20 from rfl) (rfl : i3 a2 = i3 a2))) (show (8 : Int32) = i3 8 from rfl)) (by omega) (by omega) (by omega)) ?_
      have r24 := zM_k hZ 2 0 0 (208 + 20 * a2) (lo := 0) (hi := 999) (by decide) (zs_200_8 (x := a2) (by omega) (by omega) (by omega))
      refine wz_br (i3L (zm_rd (Z := Z) (ν := ν) (k := 2) (show ((0 : Nat) : Int) = 0 from rfl) (show ((0 : Nat) : Int) = 0 from rfl) (i3I (y := (208 + 20 * a2)) (i3A (i3A (show (200 : Int32) = i3 200 from rfl) (i3M (show (20 : Int32) = i3 20 from rfl) (rfl : i3 a2 = i3 a2))) (show (8 : Int32) = i3 8 from rfl)) (by omega) (by omega) (by omega))) (show (24 : Int32) = i3 24 from rfl) (by omega) (by omega) (by omega) (by omega)) (fun h25 => ?_) (fun h25 => ?_)
      · replace hP := zE_p hP h25
        refine wz_i0 (i3O (n := 4400) (i3A (i3A (show (3520 : Int32) = i3 3520 from rfl) (i3M (show (10 : Int32) = i3 10 from rfl) (rfl : i3 a1 = i3 a1))) (show (1 : Int32) = i3 1 from rfl)) (by omega) (by omega) (by omega)) ?_
        have r26 := zM_k hZ 2 0 0 (3521 + 10 * a1) (lo := 0) (hi := 3) (by decide) (zs_3520_1 (x := a1) (by omega) (by omega) (by omega))
        refine wz_br (i3L (zm_rd (Z := Z) (ν := ν) (k := 2) (show ((0 : Nat) : Int) = 0 from rfl) (show ((0 : Nat) : Int) = 0 from rfl) (i3I (y := (3521 + 10 * a1)) (i3A (i3A (show (3520 : Int32) = i3 3520 from rfl) (i3M (show (10 : Int32) = i3 10 from rfl) (rfl : i3 a1 = i3 a1))) (show (1 : Int32) = i3 1 from rfl)) (by omega) (by omega) (by omega))) (show (1 : Int32) = i3 1 from rfl) (by omega) (by omega) (by omega) (by omega)) (fun h27 => ?_) (fun h27 => ?_)
        · replace hP := zE_p hP h27
          exact zlR hP (show (-1 : Int32) = i3 (-1) from rfl) ⟨by omega, by omega⟩
        · replace hP := zE_n hP h27
          have r28 := zM_k hZ 2 0 0 (209 + 20 * a2) (lo := -1) (hi := 3) (by decide) (zs_200_9 (x := a2) (by omega) (by omega) (by omega))
          refine wz_br (i3E (zm_rd (Z := Z) (ν := ν) (k := 2) (show ((0 : Nat) : Int) = 0 from rfl) (show ((0 : Nat) : Int) = 0 from rfl) (i3I (y := (209 + 20 * a2)) (i3A (i3A (show (200 : Int32) = i3 200 from rfl) (i3M (show (20 : Int32) = i3 20 from rfl) (rfl : i3 a2 = i3 a2))) (show (9 : Int32) = i3 9 from rfl)) (by omega) (by omega) (by omega))) (show (-1 : Int32) = i3 (-1) from rfl) (by omega) (by omega) (by omega) (by omega)) (fun h29 => ?_) (fun h29 => ?_)
          · replace hP := zE_p hP h29
            exact zlR hP (show (-1 : Int32) = i3 (-1) from rfl) ⟨by omega, by omega⟩
          · replace hP := zE_n hP h29
            obtain ⟨v30, hv30, c9, lv30, uv30⟩ := sp_326 (ν := ν) hZ (a1 := a2) (by omega) (zbh (c := 0) (k := 0) hM (Nat.le_of_ble_eq_true rfl))
            replace hP := zl_e hP hv30
            refine wz_cI_of (zas (zcons rfl (zcons (zvi (rfl : i3 a2 = i3 a2)) rfl)) c9) ?_
            clear c9
            refine wz_br (i3Le (rfl : i3 v30 = i3 v30) (zm_rd (Z := Z) (ν := ν) (k := 2) (show ((0 : Nat) : Int) = 0 from rfl) (show ((0 : Nat) : Int) = 0 from rfl) (i3I (y := (209 + 20 * a2)) (i3A (i3A (show (200 : Int32) = i3 200 from rfl) (i3M (show (20 : Int32) = i3 20 from rfl) (rfl : i3 a2 = i3 a2))) (show (9 : Int32) = i3 9 from rfl)) (by omega) (by omega) (by omega))) (by omega) (by omega) (by omega) (by omega)) (fun h31 => ?_) (fun h31 => ?_)
            · replace hP := zE_p hP h31
              exact zlR hP (show (-1 : Int32) = i3 (-1) from rfl) ⟨by omega, by omega⟩
            · replace hP := zE_n hP h31
              exact zlR hP (show (2 : Int32) = i3 2 from rfl) ⟨by omega, by omega⟩
      · replace hP := zE_n hP h25
        have r32 := zM_k hZ 2 0 0 (209 + 20 * a2) (lo := -1) (hi := 3) (by decide) (zs_200_9 (x := a2) (by omega) (by omega) (by omega))
        refine wz_br (i3L (zm_rd (Z := Z) (ν := ν) (k := 2) (show ((0 : Nat) : Int) = 0 from rfl) (show ((0 : Nat) : Int) = 0 from rfl) (i3I (y := (209 + 20 * a2)) (i3A (i3A (show (200 : Int32) = i3 200 from rfl) (i3M (show (20 : Int32) = i3 20 from rfl) (rfl : i3 a2 = i3 a2))) (show (9 : Int32) = i3 9 from rfl)) (by omega) (by omega) (by omega))) (show (0 : Int32) = i3 0 from rfl) (by omega) (by omega) (by omega) (by omega)) (fun h33 => ?_) (fun h33 => ?_)
        · replace hP := zE_p hP h33
          refine wz_i0 (i3O (n := 4400) (i3A (i3A (show (3520 : Int32) = i3 3520 from rfl) (i3M (show (10 : Int32) = i3 10 from rfl) (rfl : i3 a1 = i3 a1))) (show (1 : Int32) = i3 1 from rfl)) (by omega) (by omega) (by omega)) ?_
          have r34 := zM_k hZ 2 0 0 (3521 + 10 * a1) (lo := 0) (hi := 3) (by decide) (zs_3520_1 (x := a1) (by omega) (by omega) (by omega))
          refine wz_br (i3L (zm_rd (Z := Z) (ν := ν) (k := 2) (show ((0 : Nat) : Int) = 0 from rfl) (show ((0 : Nat) : Int) = 0 from rfl) (i3I (y := (3521 + 10 * a1)) (i3A (i3A (show (3520 : Int32) = i3 3520 from rfl) (i3M (show (10 : Int32) = i3 10 from rfl) (rfl : i3 a1 = i3 a1))) (show (1 : Int32) = i3 1 from rfl)) (by omega) (by omega) (by omega))) (show (1 : Int32) = i3 1 from rfl) (by omega) (by omega) (by omega) (by omega)) (fun h35 => ?_) (fun h35 => ?_)
          · replace hP := zE_p hP h35
            exact zlR hP (show (-1 : Int32) = i3 (-1) from rfl) ⟨by omega, by omega⟩
          · replace hP := zE_n hP h35
            refine wz_i1 (Eq.trans (i3E (zm_rd (Z := Z) (ν := ν) (k := 2) (show ((0 : Nat) : Int) = 0 from rfl) (show ((0 : Nat) : Int) = 0 from rfl) (i3I (y := (209 + 20 * a2)) (i3A (i3A (show (200 : Int32) = i3 200 from rfl) (i3M (show (20 : Int32) = i3 20 from rfl) (rfl : i3 a2 = i3 a2))) (show (9 : Int32) = i3 9 from rfl)) (by omega) (by omega) (by omega))) (show (-1 : Int32) = i3 (-1) from rfl) (by omega) (by omega) (by omega) (by omega)) (decide_eq_true (by omega))) ?_
            exact zlR hP (show (-1 : Int32) = i3 (-1) from rfl) ⟨by omega, by omega⟩
        · replace hP := zE_n hP h33
          refine wz_br (i3L (show (2 : Int32) = i3 2 from rfl) (zm_rd (Z := Z) (ν := ν) (k := 2) (show ((0 : Nat) : Int) = 0 from rfl) (show ((0 : Nat) : Int) = 0 from rfl) (i3I (y := (209 + 20 * a2)) (i3A (i3A (show (200 : Int32) = i3 200 from rfl) (i3M (show (20 : Int32) = i3 20 from rfl) (rfl : i3 a2 = i3 a2))) (show (9 : Int32) = i3 9 from rfl)) (by omega) (by omega) (by omega))) (by omega) (by omega) (by omega) (by omega)) (fun h36 => ?_) (fun h36 => ?_)
          · replace hP := zE_p hP h36
            refine wz_i0 (i3O (n := 4400) (i3A (i3A (show (3520 : Int32) = i3 3520 from rfl) (i3M (show (10 : Int32) = i3 10 from rfl) (rfl : i3 a1 = i3 a1))) (show (1 : Int32) = i3 1 from rfl)) (by omega) (by omega) (by omega)) ?_
            have r37 := zM_k hZ 2 0 0 (3521 + 10 * a1) (lo := 0) (hi := 3) (by decide) (zs_3520_1 (x := a1) (by omega) (by omega) (by omega))
            refine wz_br (i3L (zm_rd (Z := Z) (ν := ν) (k := 2) (show ((0 : Nat) : Int) = 0 from rfl) (show ((0 : Nat) : Int) = 0 from rfl) (i3I (y := (3521 + 10 * a1)) (i3A (i3A (show (3520 : Int32) = i3 3520 from rfl) (i3M (show (10 : Int32) = i3 10 from rfl) (rfl : i3 a1 = i3 a1))) (show (1 : Int32) = i3 1 from rfl)) (by omega) (by omega) (by omega))) (show (1 : Int32) = i3 1 from rfl) (by omega) (by omega) (by omega) (by omega)) (fun h38 => ?_) (fun h38 => ?_)
            · replace hP := zE_p hP h38
              exact zlR hP (show (-1 : Int32) = i3 (-1) from rfl) ⟨by omega, by omega⟩
            · replace hP := zE_n hP h38
              refine wz_i0 (Eq.trans (i3E (zm_rd (Z := Z) (ν := ν) (k := 2) (show ((0 : Nat) : Int) = 0 from rfl) (show ((0 : Nat) : Int) = 0 from rfl) (i3I (y := (209 + 20 * a2)) (i3A (i3A (show (200 : Int32) = i3 200 from rfl) (i3M (show (20 : Int32) = i3 20 from rfl) (rfl : i3 a2 = i3 a2))) (show (9 : Int32) = i3 9 from rfl)) (by omega) (by omega) (by omega))) (show (-1 : Int32) = i3 (-1) from rfl) (by omega) (by omega) (by omega) (by omega)) (decide_eq_false (by omega))) ?_
              obtain ⟨v39, hv39, c9, lv39, uv39⟩ := sp_326 (ν := ν) hZ (a1 := a2) (by omega) (zbh (c := 0) (k := 0) hM (Nat.le_of_ble_eq_true rfl))
              replace hP := zl_e hP hv39
              refine wz_cI_of (zas (zcons rfl (zcons (zvi (rfl : i3 a2 = i3 a2)) rfl)) c9) ?_
              clear c9
              refine wz_i1 (Eq.trans (i3Le (rfl : i3 v39 = i3 v39) (zm_rd (Z := Z) (ν := ν) (k := 2) (show ((0 : Nat) : Int) = 0 from rfl) (show ((0 : Nat) : Int) = 0 from rfl) (i3I (y := (209 + 20 * a2)) (i3A (i3A (show (200 : Int32) = i3 200 from rfl) (i3M (show (20 : Int32) = i3 20 from rfl) (rfl : i3 a2 = i3 a2))) (show (9 : Int32) = i3 9 from rfl)) (by omega) (by omega) (by omega))) (by omega) (by omega) (by omega) (by omega)) (decide_eq_true (by omega))) ?_
              exact zlR hP (show (-1 : Int32) = i3 (-1) from rfl) ⟨by omega, by omega⟩
          · replace hP := zE_n hP h36
            exact zlR hP (show (1 : Int32) = i3 1 from rfl) ⟨by omega, by omega⟩
  · replace hP := zE_n hP h5
    refine wz_i0 (i3O (n := 4400) (i3A (i3A (show (200 : Int32) = i3 200 from rfl) (i3M (show (20 : Int32) = i3 20 from rfl) (rfl : i3 a2 = i3 a2))) (show (8 : Int32) = i3 8 from rfl)) (by omega) (by omega) (by omega)) ?_
    have r40 := zM_k hZ 2 0 0 (208 + 20 * a2) (lo := 0) (hi := 999) (by decide) (zs_200_8 (x := a2) (by omega) (by omega) (by omega))
    refine wz_br (i3L (zm_rd (Z := Z) (ν := ν) (k := 2) (show ((0 : Nat) : Int) = 0 from rfl) (show ((0 : Nat) : Int) = 0 from rfl) (i3I (y := (208 + 20 * a2)) (i3A (i3A (show (200 : Int32) = i3 200 from rfl) (i3M (show (20 : Int32) = i3 20 from rfl) (rfl : i3 a2 = i3 a2))) (show (8 : Int32) = i3 8 from rfl)) (by omega) (by omega) (by omega))) (show (24 : Int32) = i3 24 from rfl) (by omega) (by omega) (by omega) (by omega)) (fun h41 => ?_) (fun h41 => ?_)
    · replace hP := zE_p hP h41
      refine wz_i0 (i3O (n := 4400) (i3A (i3A (show (3520 : Int32) = i3 3520 from rfl) (i3M (show (10 : Int32) = i3 10 from rfl) (rfl : i3 a1 = i3 a1))) (show (1 : Int32) = i3 1 from rfl)) (by omega) (by omega) (by omega)) ?_
      have r42 := zM_k hZ 2 0 0 (3521 + 10 * a1) (lo := 0) (hi := 3) (by decide) (zs_3520_1 (x := a1) (by omega) (by omega) (by omega))
      refine wz_br (i3L (zm_rd (Z := Z) (ν := ν) (k := 2) (show ((0 : Nat) : Int) = 0 from rfl) (show ((0 : Nat) : Int) = 0 from rfl) (i3I (y := (3521 + 10 * a1)) (i3A (i3A (show (3520 : Int32) = i3 3520 from rfl) (i3M (show (10 : Int32) = i3 10 from rfl) (rfl : i3 a1 = i3 a1))) (show (1 : Int32) = i3 1 from rfl)) (by omega) (by omega) (by omega))) (show (1 : Int32) = i3 1 from rfl) (by omega) (by omega) (by omega) (by omega)) (fun h43 => ?_) (fun h43 => ?_)
      · replace hP := zE_p hP h43
        exact zlR hP (show (-1 : Int32) = i3 (-1) from rfl) ⟨by omega, by omega⟩
      · replace hP := zE_n hP h43
        have r44 := zM_k hZ 2 0 0 (209 + 20 * a2) (lo := -1) (hi := 3) (by decide) (zs_200_9 (x := a2) (by omega) (by omega) (by omega))
        refine wz_br (i3E (zm_rd (Z := Z) (ν := ν) (k := 2) (show ((0 : Nat) : Int) = 0 from rfl) (show ((0 : Nat) : Int) = 0 from rfl) (i3I (y := (209 + 20 * a2)) (i3A (i3A (show (200 : Int32) = i3 200 from rfl) (i3M (show (20 : Int32) = i3 20 from rfl) (rfl : i3 a2 = i3 a2))) (show (9 : Int32) = i3 9 from rfl)) (by omega) (by omega) (by omega))) (show (-1 : Int32) = i3 (-1) from rfl) (by omega) (by omega) (by omega) (by omega)) (fun h45 => ?_) (fun h45 => ?_)
        · replace hP := zE_p hP h45
          exact zlR hP (show (-1 : Int32) = i3 (-1) from rfl) ⟨by omega, by omega⟩
        · replace hP := zE_n hP h45
          obtain ⟨v46, hv46, c9, lv46, uv46⟩ := sp_326 (ν := ν) hZ (a1 := a2) (by omega) (zbh (c := 0) (k := 0) hM (Nat.le_of_ble_eq_true rfl))
          replace hP := zl_e hP hv46
          refine wz_cI_of (zas (zcons rfl (zcons (zvi (rfl : i3 a2 = i3 a2)) rfl)) c9) ?_
          clear c9
          refine wz_br (i3Le (rfl : i3 v46 = i3 v46) (zm_rd (Z := Z) (ν := ν) (k := 2) (show ((0 : Nat) : Int) = 0 from rfl) (show ((0 : Nat) : Int) = 0 from rfl) (i3I (y := (209 + 20 * a2)) (i3A (i3A (show (200 : Int32) = i3 200 from rfl) (i3M (show (20 : Int32) = i3 20 from rfl) (rfl : i3 a2 = i3 a2))) (show (9 : Int32) = i3 9 from rfl)) (by omega) (by omega) (by omega))) (by omega) (by omega) (by omega) (by omega)) (fun h47 => ?_) (fun h47 => ?_)
          · replace hP := zE_p hP h47
            exact zlR hP (show (-1 : Int32) = i3 (-1) from rfl) ⟨by omega, by omega⟩
          · replace hP := zE_n hP h47
            exact zlR hP (show (2 : Int32) = i3 2 from rfl) ⟨by omega, by omega⟩
    · replace hP := zE_n hP h41
      have r48 := zM_k hZ 2 0 0 (209 + 20 * a2) (lo := -1) (hi := 3) (by decide) (zs_200_9 (x := a2) (by omega) (by omega) (by omega))
      refine wz_br (i3L (zm_rd (Z := Z) (ν := ν) (k := 2) (show ((0 : Nat) : Int) = 0 from rfl) (show ((0 : Nat) : Int) = 0 from rfl) (i3I (y := (209 + 20 * a2)) (i3A (i3A (show (200 : Int32) = i3 200 from rfl) (i3M (show (20 : Int32) = i3 20 from rfl) (rfl : i3 a2 = i3 a2))) (show (9 : Int32) = i3 9 from rfl)) (by omega) (by omega) (by omega))) (show (0 : Int32) = i3 0 from rfl) (by omega) (by omega) (by omega) (by omega)) (fun h49 => ?_) (fun h49 => ?_)
      · replace hP := zE_p hP h49
        refine wz_i0 (i3O (n := 4400) (i3A (i3A (show (3520 : Int32) = i3 3520 from rfl) (i3M (show (10 : Int32) = i3 10 from rfl) (rfl : i3 a1 = i3 a1))) (show (1 : Int32) = i3 1 from rfl)) (by omega) (by omega) (by omega)) ?_
        have r50 := zM_k hZ 2 0 0 (3521 + 10 * a1) (lo := 0) (hi := 3) (by decide) (zs_3520_1 (x := a1) (by omega) (by omega) (by omega))
        refine wz_br (i3L (zm_rd (Z := Z) (ν := ν) (k := 2) (show ((0 : Nat) : Int) = 0 from rfl) (show ((0 : Nat) : Int) = 0 from rfl) (i3I (y := (3521 + 10 * a1)) (i3A (i3A (show (3520 : Int32) = i3 3520 from rfl) (i3M (show (10 : Int32) = i3 10 from rfl) (rfl : i3 a1 = i3 a1))) (show (1 : Int32) = i3 1 from rfl)) (by omega) (by omega) (by omega))) (show (1 : Int32) = i3 1 from rfl) (by omega) (by omega) (by omega) (by omega)) (fun h51 => ?_) (fun h51 => ?_)
        · replace hP := zE_p hP h51
          exact zlR hP (show (-1 : Int32) = i3 (-1) from rfl) ⟨by omega, by omega⟩
        · replace hP := zE_n hP h51
          refine wz_i1 (Eq.trans (i3E (zm_rd (Z := Z) (ν := ν) (k := 2) (show ((0 : Nat) : Int) = 0 from rfl) (show ((0 : Nat) : Int) = 0 from rfl) (i3I (y := (209 + 20 * a2)) (i3A (i3A (show (200 : Int32) = i3 200 from rfl) (i3M (show (20 : Int32) = i3 20 from rfl) (rfl : i3 a2 = i3 a2))) (show (9 : Int32) = i3 9 from rfl)) (by omega) (by omega) (by omega))) (show (-1 : Int32) = i3 (-1) from rfl) (by omega) (by omega) (by omega) (by omega)) (decide_eq_true (by omega))) ?_
          exact zlR hP (show (-1 : Int32) = i3 (-1) from rfl) ⟨by omega, by omega⟩
      · replace hP := zE_n hP h49
        refine wz_br (i3L (show (2 : Int32) = i3 2 from rfl) (zm_rd (Z := Z) (ν := ν) (k := 2) (show ((0 : Nat) : Int) = 0 from rfl) (show ((0 : Nat) : Int) = 0 from rfl) (i3I (y := (209 + 20 * a2)) (i3A (i3A (show (200 : Int32) = i3 200 from rfl) (i3M (show (20 : Int32) = i3 20 from rfl) (rfl : i3 a2 = i3 a2))) (show (9 : Int32) = i3 9 from rfl)) (by omega) (by omega) (by omega))) (by omega) (by omega) (by omega) (by omega)) (fun h52 => ?_) (fun h52 => ?_)
        · replace hP := zE_p hP h52
          refine wz_i0 (i3O (n := 4400) (i3A (i3A (show (3520 : Int32) = i3 3520 from rfl) (i3M (show (10 : Int32) = i3 10 from rfl) (rfl : i3 a1 = i3 a1))) (show (1 : Int32) = i3 1 from rfl)) (by omega) (by omega) (by omega)) ?_
          have r53 := zM_k hZ 2 0 0 (3521 + 10 * a1) (lo := 0) (hi := 3) (by decide) (zs_3520_1 (x := a1) (by omega) (by omega) (by omega))
          refine wz_br (i3L (zm_rd (Z := Z) (ν := ν) (k := 2) (show ((0 : Nat) : Int) = 0 from rfl) (show ((0 : Nat) : Int) = 0 from rfl) (i3I (y := (3521 + 10 * a1)) (i3A (i3A (show (3520 : Int32) = i3 3520 from rfl) (i3M (show (10 : Int32) = i3 10 from rfl) (rfl : i3 a1 = i3 a1))) (show (1 : Int32) = i3 1 from rfl)) (by omega) (by omega) (by omega))) (show (1 : Int32) = i3 1 from rfl) (by omega) (by omega) (by omega) (by omega)) (fun h54 => ?_) (fun h54 => ?_)
          · replace hP := zE_p hP h54
            exact zlR hP (show (-1 : Int32) = i3 (-1) from rfl) ⟨by omega, by omega⟩
          · replace hP := zE_n hP h54
            refine wz_i0 (Eq.trans (i3E (zm_rd (Z := Z) (ν := ν) (k := 2) (show ((0 : Nat) : Int) = 0 from rfl) (show ((0 : Nat) : Int) = 0 from rfl) (i3I (y := (209 + 20 * a2)) (i3A (i3A (show (200 : Int32) = i3 200 from rfl) (i3M (show (20 : Int32) = i3 20 from rfl) (rfl : i3 a2 = i3 a2))) (show (9 : Int32) = i3 9 from rfl)) (by omega) (by omega) (by omega))) (show (-1 : Int32) = i3 (-1) from rfl) (by omega) (by omega) (by omega) (by omega)) (decide_eq_false (by omega))) ?_
            obtain ⟨v55, hv55, c9, lv55, uv55⟩ := sp_326 (ν := ν) hZ (a1 := a2) (by omega) (zbh (c := 0) (k := 0) hM (Nat.le_of_ble_eq_true rfl))
            replace hP := zl_e hP hv55
            refine wz_cI_of (zas (zcons rfl (zcons (zvi (rfl : i3 a2 = i3 a2)) rfl)) c9) ?_
            clear c9
            refine wz_i1 (Eq.trans (i3Le (rfl : i3 v55 = i3 v55) (zm_rd (Z := Z) (ν := ν) (k := 2) (show ((0 : Nat) : Int) = 0 from rfl) (show ((0 : Nat) : Int) = 0 from rfl) (i3I (y := (209 + 20 * a2)) (i3A (i3A (show (200 : Int32) = i3 200 from rfl) (i3M (show (20 : Int32) = i3 20 from rfl) (rfl : i3 a2 = i3 a2))) (show (9 : Int32) = i3 9 from rfl)) (by omega) (by omega) (by omega))) (by omega) (by omega) (by omega) (by omega)) (decide_eq_true (by omega))) ?_
            exact zlR hP (show (-1 : Int32) = i3 (-1) from rfl) ⟨by omega, by omega⟩
        · replace hP := zE_n hP h52
          exact zlR hP (show (1 : Int32) = i3 1 from rfl) ⟨by omega, by omega⟩
/- yX12_iLook -/
def zl_365_1 (x1 : Int) (x2 : Int) (x3 : Int) : Nat → qz_Z → Int → Int → qz_Z × Int × Int
  | 0, Z, x4, x5 => (Z, x4, x5)
  | m + 1, Z, x4, x5 => (if (Z 2 0 0 102) ≤ x5 then (Z, x4, x5) else (if 1 < (Z 2 0 0 (210 + 20 * x5)) then zl_365_1 x1 x2 x3 m Z x4 (x5 + 1) else (if (Z 2 0 0 (211 + 20 * x5)) ≠ x3 then zl_365_1 x1 x2 x3 m Z x4 (x5 + 1) else (zlet (zf_364 Z x1 x5) (fun v8 => (if v8 = (-1) then zl_365_1 x1 x2 x3 m Z x4 (x5 + 1) else (zlet (zf_357 Z x1 x5 v8 x2) (fun Z10 => zl_365_1 x1 x2 x3 m Z10 (x4 + 1) (x5 + 1)))))))))
theorem sl_365_1 {s : zSM} {xM9 : Nat} {Zs Z : qz_Z} {ν : qz_N} (hZ : zM (zb s xM9) Z) (hM : s.2 + 6076 ≤ 1000000000) (hK : zC [2] Zs Z) {x1 : Int} (gx1 : 0 ≤ x1 ∧ x1 ≤ 1) {x2 : Int} (gx2 : 0 ≤ x2 ∧ x2 ≤ 9) {x3 : Int} (gx3 : -1 ≤ x3 ∧ x3 ≤ 8) {x4 : Int} (gx4 : 0 ≤ x4 ∧ x4 ≤ 48) {x5 : Int} (gx5 : 0 ≤ x5 ∧ x5 ≤ 48) (hU : zU [] Zs Z) (hx9 : xM9 + 124 * ((48 - x5).toNat) + 124 ≤ 6076) (gr0 : x4 ≤ x5) {k : wz_K} {R : wz_R} {L : qz_L} (hL : qz_fg [true, true, true, true, true, true, false, false] L = [some (.inr (.inr (some (1, 0, 0)))), some (.inl (i3 x1)), some (.inl (i3 x2)), some (.inl (i3 x3)), some (.inl (i3 x4)), some (.inl (i3 x5)), none, none]) {T : qz_Z × Int × Int} (hP : zE T (zl_365_1 x1 x2 x3 ((48 - x5).toNat + 1) Z x4 x5)) (hk : ∀ (L9 : qz_L) (Z9 : qz_Z) (yx4 yx5 : Int), qz_fg [true, true, false, true, true, false, false, false] L9 = [some (.inr (.inr (some (1, 0, 0)))), some (.inl (i3 x1)), none, some (.inl (i3 x3)), some (.inl (i3 yx4)), none, none, none] → zM (zb s 6076) Z9 → zC [2] Zs Z9 → zU [] Zs Z9 → (0 ≤ yx4 ∧ yx4 ≤ 48) → (0 ≤ yx5 ∧ yx5 ≤ 48) → (yx4 ≤ yx5) → zE T ((Z9, yx4, yx5)) → k 0 (L9, [], zm Z9 ν)) : wz_loop qb_365_1 65536 k R (L, [], zm Z ν) := by
  refine wz_lp sb_365_1 (fun m x => ∃ xM9 : Nat, ∃ Z : qz_Z, ∃ x4 : Int, ∃ x5 : Int, qz_fg [true, true, true, true, true, true, false, false] x.1 = [some (.inr (.inr (some (1, 0, 0)))), some (.inl (i3 x1)), some (.inl (i3 x2)), some (.inl (i3 x3)), some (.inl (i3 x4)), some (.inl (i3 x5)), none, none] ∧ x.2 = ([], zm Z ν) ∧ xM9 + 124 * m + 124 ≤ 6076 ∧ zM (zb s xM9) Z ∧ zC [2] Zs Z ∧ zU [] Zs Z ∧ m = (48 - x5).toNat ∧ (0 ≤ x4 ∧ x4 ≤ 48) ∧ (0 ≤ x5 ∧ x5 ≤ 48) ∧ (x4 ≤ x5) ∧ zE T (zl_365_1 x1 x2 x3 (m + 1) Z x4 x5)) ?_ 65536 ((48 - x5).toNat) _ (by omega) ⟨xM9, Z, x4, x5, hL, rfl, hx9, hZ, hK, hU, rfl, gx4, gx5, gr0, hP⟩
  clear hP gr0 gx4 gx5 hx9 hZ hK hU hL
  clear x4 x5
  clear Z
  clear xM9
  rintro m ⟨L, st, μ⟩ ⟨xM9, Z, x4, x5, hL, hx, hx9, hZ, hK, hU, hm, gx4, gx5, gr0, hP⟩
  cases hx
  have hM9 : (zb s xM9).2 + 124 ≤ 1000000000 := by
    show s.2 + xM9 + 124 ≤ 1000000000
    omega
  refine fb_365_1 (i3 x1) (i3 x2) (i3 x3) (i3 x4) (i3 x5) _ _ _ _ hL ?_
  have r1 := zM_k hZ 2 0 0 102 (lo := 0) (hi := 48) (by decide) rfl
  refine wz_br (i3Le (zm_rd (Z := Z) (ν := ν) (k := 2) (show ((0 : Nat) : Int) = 0 from rfl) (show ((0 : Nat) : Int) = 0 from rfl) (show ((102 : Nat) : Int) = 102 from rfl)) (rfl : i3 x5 = i3 x5) (by omega) (by omega) (by omega) (by omega)) (fun h2 => ?_) (fun h2 => ?_)
  · replace hP := zE_p hP h2
    exact hk _ _ _ _ (zconso rfl (zconso (zvo (rfl : i3 x1 = i3 x1)) (zconso rfl (zconso (zvo (rfl : i3 x3 = i3 x3)) (zconso (zvo (rfl : i3 x4 = i3 x4)) (zconso rfl (zconso rfl (zconso rfl rfl)))))))) (zmx0 hZ (by omega)) hK hU (by omega) (by omega) (by omega) hP
  · replace hP := zE_n hP h2
    refine wz_i0 (i3O (n := 4400) (i3A (i3A (show (200 : Int32) = i3 200 from rfl) (i3M (show (20 : Int32) = i3 20 from rfl) (rfl : i3 x5 = i3 x5))) (show (10 : Int32) = i3 10 from rfl)) (by omega) (by omega) (by omega)) ?_
    have r3 := zM_k hZ 2 0 0 (210 + 20 * x5) (lo := 0) (hi := 4) (by decide) (zs_200_10 (x := x5) (by omega) (by omega) (by omega))
    have r4 := zM_pl hZ x5
    refine wz_br (i3L (show (1 : Int32) = i3 1 from rfl) (zm_rd (Z := Z) (ν := ν) (k := 2) (show ((0 : Nat) : Int) = 0 from rfl) (show ((0 : Nat) : Int) = 0 from rfl) (i3I (y := (210 + 20 * x5)) (i3A (i3A (show (200 : Int32) = i3 200 from rfl) (i3M (show (20 : Int32) = i3 20 from rfl) (rfl : i3 x5 = i3 x5))) (show (10 : Int32) = i3 10 from rfl)) (by omega) (by omega) (by omega))) (by omega) (by omega) (by omega) (by omega)) (fun h5 => ?_) (fun h5 => ?_)
    · replace hP := zE_p hP h5
      obtain ⟨m2, rfl⟩ : ∃ m2, m = m2 + 1 := ⟨m - 1, by omega⟩
      exact wz_k1 ⟨m2, by omega, xM9, Z, x4, (x5 + 1), (zconso rfl (zconso (zvo (rfl : i3 x1 = i3 x1)) (zconso (zvo (rfl : i3 x2 = i3 x2)) (zconso (zvo (rfl : i3 x3 = i3 x3)) (zconso (zvo (rfl : i3 x4 = i3 x4)) (zconso (zvo (i3A (rfl : i3 x5 = i3 x5) (show (1 : Int32) = i3 1 from rfl))) (zconso rfl (zconso rfl rfl)))))))), rfl, by omega, hZ, hK, hU, by omega, by omega, by omega, by omega,  hP⟩
    · replace hP := zE_n hP h5
      refine wz_i0 (i3O (n := 4400) (i3A (i3A (show (200 : Int32) = i3 200 from rfl) (i3M (show (20 : Int32) = i3 20 from rfl) (rfl : i3 x5 = i3 x5))) (show (11 : Int32) = i3 11 from rfl)) (by omega) (by omega) (by omega)) ?_
      have r6 := zM_k hZ 2 0 0 (211 + 20 * x5) (lo := -1) (hi := 6) (by decide) (zs_200_11 (x := x5) (by omega) (by omega) (by omega))
      refine wz_br (i3NE (zm_rd (Z := Z) (ν := ν) (k := 2) (show ((0 : Nat) : Int) = 0 from rfl) (show ((0 : Nat) : Int) = 0 from rfl) (i3I (y := (211 + 20 * x5)) (i3A (i3A (show (200 : Int32) = i3 200 from rfl) (i3M (show (20 : Int32) = i3 20 from rfl) (rfl : i3 x5 = i3 x5))) (show (11 : Int32) = i3 11 from rfl)) (by omega) (by omega) (by omega))) (rfl : i3 x3 = i3 x3) (by omega) (by omega) (by omega) (by omega)) (fun h7 => ?_) (fun h7 => ?_)
      · replace hP := zE_p hP h7
        obtain ⟨m2, rfl⟩ : ∃ m2, m = m2 + 1 := ⟨m - 1, by omega⟩
        exact wz_k1 ⟨m2, by omega, xM9, Z, x4, (x5 + 1), (zconso rfl (zconso (zvo (rfl : i3 x1 = i3 x1)) (zconso (zvo (rfl : i3 x2 = i3 x2)) (zconso (zvo (rfl : i3 x3 = i3 x3)) (zconso (zvo (rfl : i3 x4 = i3 x4)) (zconso (zvo (i3A (rfl : i3 x5 = i3 x5) (show (1 : Int32) = i3 1 from rfl))) (zconso rfl (zconso rfl rfl)))))))), rfl, by omega, hZ, hK, hU, by omega, by omega, by omega, by omega,  hP⟩
      · replace hP := zE_n hP h7
        obtain ⟨v8, hv8, c9, lv8, uv8⟩ := sp_364 (ν := ν) hZ (a1 := x1) (by omega) (a2 := x5) (by omega) (zbh (c := 0) (k := 0) hM9 (Nat.le_of_ble_eq_true rfl))
        replace hP := zl_e hP hv8
        refine wz_cI_of (zas (zcons rfl (zcons (zvi (rfl : i3 x1 = i3 x1)) (zcons (zvi (rfl : i3 x5 = i3 x5)) rfl))) c9) ?_
        clear c9
        refine wz_br (i3E (rfl : i3 v8 = i3 v8) (show (-1 : Int32) = i3 (-1) from rfl) (by omega) (by omega) (by omega) (by omega)) (fun h9 => ?_) (fun h9 => ?_)
        · replace hP := zE_p hP h9
          obtain ⟨m2, rfl⟩ : ∃ m2, m = m2 + 1 := ⟨m - 1, by omega⟩
          exact wz_k1 ⟨m2, by omega, xM9, Z, x4, (x5 + 1), (zconso rfl (zconso (zvo (rfl : i3 x1 = i3 x1)) (zconso (zvo (rfl : i3 x2 = i3 x2)) (zconso (zvo (rfl : i3 x3 = i3 x3)) (zconso (zvo (rfl : i3 x4 = i3 x4)) (zconso (zvo (i3A (rfl : i3 x5 = i3 x5) (show (1 : Int32) = i3 1 from rfl))) (zconso rfl (zconso rfl rfl)))))))), rfl, by omega, hZ, hK, hU, by omega, by omega, by omega, by omega,  hP⟩
        · replace hP := zE_n hP h9
          obtain ⟨Z10, hZ10, c9, hZ10I, kZ10, jZ10⟩ := sp_357 (ν := ν) hZ (a1 := x1) (by omega) (a2 := x5) (by omega) (a3 := v8) (by omega) (a4 := x2) (by omega) (zbh (c := 0) (k := 124) hM9 (Nat.le_of_ble_eq_true rfl))
          have hZ10U : zU [] Zs Z10 := zU_t hU jZ10 zU_b0
          have hZ10K : zC [2] Zs Z10 := zC_t hK kZ10 (by decide)
          replace hP := zl_e hP hZ10
          refine wz_cV_of (zas (zcons rfl (zcons (zvi (rfl : i3 x1 = i3 x1)) (zcons (zvi (rfl : i3 x5 = i3 x5)) (zcons (zvi (rfl : i3 v8 = i3 v8)) (zcons (zvi (rfl : i3 x2 = i3 x2)) rfl))))) c9) ?_
          clear c9
          obtain ⟨m2, rfl⟩ : ∃ m2, m = m2 + 1 := ⟨m - 1, by omega⟩
          exact wz_k1 ⟨m2, by omega, xM9 + 124, Z10, (x4 + 1), (x5 + 1), (zconso rfl (zconso (zvo (rfl : i3 x1 = i3 x1)) (zconso (zvo (rfl : i3 x2 = i3 x2)) (zconso (zvo (rfl : i3 x3 = i3 x3)) (zconso (zvo (i3A (rfl : i3 x4 = i3 x4) (show (1 : Int32) = i3 1 from rfl))) (zconso (zvo (i3A (rfl : i3 x5 = i3 x5) (show (1 : Int32) = i3 1 from rfl))) (zconso rfl (zconso rfl rfl)))))))), rfl, by omega, (zmt hZ10I rfl), hZ10K, hZ10U, by omega, by omega, by omega, by omega,  hP⟩
/- yX12_iLook -/
def zf_365 (Z : qz_Z) (a1 : Int) (a2 : Int) : qz_Z × Int := (if a2 ≠ 7 then (zlet3 (zl_365_1 a1 a2 (a2 - 1) 49 Z 0 0) (fun Z4 y2 y3 => (zlet (zu Z4 2 0 0 (3524 + 10 * a1) (w3 ((Z4 2 0 0 (3524 + 10 * a1)) + 1))) (fun Z8 => (zlet (zu Z8 2 0 0 (3527 + 10 * a1) (Z8 2 0 0 0)) (fun Z10 => (if (a2 - 1) = 6 then (Z10, y2) else (if y2 < (4 - (Z10 2 0 0 (3521 + 10 * a1))) then (Z10, y2) else (zlet (zu Z10 2 0 0 (3509 + a2) ((Z10 2 0 0 0) + 24)) (fun Z16 => (Z16, y2))))))))))) else (zlet3 (zl_365_1 a1 a2 6 49 Z 0 0) (fun Z19 y17 y18 => (zlet (zu Z19 2 0 0 (3524 + 10 * a1) (w3 ((Z19 2 0 0 (3524 + 10 * a1)) + 1))) (fun Z23 => (zlet (zu Z23 2 0 0 (3527 + 10 * a1) (Z23 2 0 0 0)) (fun Z25 => (Z25, y17))))))))
theorem sp_365 {s : zSM} {Z : qz_Z} {ν : qz_N} (hZ : zM s Z) {a1 : Int} (ga1 : 0 ≤ a1 ∧ a1 ≤ 1) {a2 : Int} (ga2 : 0 ≤ a2 ∧ a2 ≤ 9) (hM : s.2 + 6076 ≤ 1000000000) : ∃ (Z1 : qz_Z) (P : Int), (Z1, P) = zf_365 Z a1 a2 ∧ (qf_365 [.inr (.inr (some (1, 0, 0))), .inl (i3 a1), .inl (i3 a2)] (zm Z ν) = some (zm Z1 ν, .inl (some (.inl (i3 P)))) ∧ zM (zb s 6076) Z1 ∧ zC [2] Z Z1 ∧ zU [] Z Z1 ∧ 0 ≤ P ∧ P ≤ 48) := by
  obtain ⟨P, hP⟩ := zx (zf_365 Z a1 a2)
  refine zc_W (Q := fun Z1 P => zM (zb s 6076) Z1 ∧ zC [2] Z Z1 ∧ zU [] Z Z1 ∧ 0 ≤ P ∧ P ≤ 48) hP (fw_365 (i3 a1) (i3 a2) _ _ ?_)
  replace hP : zE P (zf_365 Z a1 a2) := hP
  unfold zf_365 at hP
  refine wz_br (i3NE (rfl : i3 a2 = i3 a2) (show (7 : Int32) = i3 7 from rfl) (by omega) (by omega) (by omega) (by omega)) (fun h1 => ?_) (fun h1 => ?_)
  · replace hP := zE_p hP h1
    refine sl_365_1 (ν := ν) (zm0 hZ) (zbh (c := 0) (k := 6076) hM (Nat.le_of_ble_eq_true rfl)) (xM9 := 0) zC_r (x1 := a1) (by omega) (x2 := a2) (by omega) (x3 := (a2 - 1)) (by omega) (x4 := 0) (by omega) (x5 := 0) (by omega) zU_r (Nat.le_of_ble_eq_true rfl) (by omega) (zconso rfl (zconso (zvo (rfl : i3 a1 = i3 a1)) (zconso (zvo (rfl : i3 a2 = i3 a2)) (zconso (zvo (i3S (rfl : i3 a2 = i3 a2) (show (1 : Int32) = i3 1 from rfl))) (zconso (zvo (show (0 : Int32) = i3 0 from rfl)) (zconso (zvo (show (0 : Int32) = i3 0 from rfl)) (zconso rfl (zconso rfl rfl)))))))) rfl ?_
    intro L5 Z4 y2 y3 hL5 hZ4I kZ4 jZ4 gy2 gy3 gL5_0 q9
    replace hP := zl_e3 hP (Eq.symm q9)
    clear q9
    have hZ4U : zU [] Z Z4 := zU_t zU_r jZ4 zU_b0
    have hZ4K : zC [2] Z Z4 := zC_t zC_r kZ4 (by decide)
    refine fc_365_2 (i3 a1) (i3 (a2 - 1)) (i3 y2) _ _ _ _ hL5 ?_
    refine wz_i0 (i3O (n := 4400) (i3A (i3A (show (3520 : Int32) = i3 3520 from rfl) (i3M (show (10 : Int32) = i3 10 from rfl) (rfl : i3 a1 = i3 a1))) (show (4 : Int32) = i3 4 from rfl)) (by omega) (by omega) (by omega)) ?_
    refine wz_i0 (i3O (n := 4400) (i3A (i3A (show (3520 : Int32) = i3 3520 from rfl) (i3M (show (10 : Int32) = i3 10 from rfl) (rfl : i3 a1 = i3 a1))) (show (4 : Int32) = i3 4 from rfl)) (by omega) (by omega) (by omega)) ?_
    have r6 := zM_f hZ4I 2 0 0 (3524 + 10 * a1)
    have r7 := w3_r ((Z4 2 0 0 (3524 + 10 * a1)) + 1)
    obtain ⟨Z8, hZ8⟩ := zx (zu Z4 2 0 0 (3524 + 10 * a1) (w3 ((Z4 2 0 0 (3524 + 10 * a1)) + 1)))
    replace hP := zl_e hP hZ8
    have hZ8I := zM_u2 hZ4I hZ8 (lo := -2147483648) (hi := 2147483647) (zs_3520_4 (x := a1) (by omega) (by omega) (by omega)) (by omega) ⟨by decide, by decide⟩ (by simp only [zsp]; omega)
    have hZ8U : zU [] Z Z8 := zU_u hZ4U hZ8 (Or.inl rfl)
    have hZ8K : zC [2] Z Z8 := zC_u hZ4K hZ8 (zcl_2w (by omega) rfl)
    intro μ9 e9
    replace e9 := e9.trans (zm_wI (Z := Z4) (ν := ν) hZ8 (show ((0 : Nat) : Int) = 0 from rfl) (show ((0 : Nat) : Int) = 0 from rfl) (i3I (y := (3524 + 10 * a1)) (i3A (i3A (show (3520 : Int32) = i3 3520 from rfl) (i3M (show (10 : Int32) = i3 10 from rfl) (rfl : i3 a1 = i3 a1))) (show (4 : Int32) = i3 4 from rfl)) (by omega) (by omega) (by omega)) (i3W (i3A (zm_rd (Z := Z4) (ν := ν) (k := 2) (show ((0 : Nat) : Int) = 0 from rfl) (show ((0 : Nat) : Int) = 0 from rfl) (i3I (y := (3524 + 10 * a1)) (i3A (i3A (show (3520 : Int32) = i3 3520 from rfl) (i3M (show (10 : Int32) = i3 10 from rfl) (rfl : i3 a1 = i3 a1))) (show (4 : Int32) = i3 4 from rfl)) (by omega) (by omega) (by omega))) (show (1 : Int32) = i3 1 from rfl))))
    subst e9
    refine wz_i0 (i3O (n := 4400) (i3A (i3A (show (3520 : Int32) = i3 3520 from rfl) (i3M (show (10 : Int32) = i3 10 from rfl) (rfl : i3 a1 = i3 a1))) (show (7 : Int32) = i3 7 from rfl)) (by omega) (by omega) (by omega)) ?_
    have r9 := zM_k hZ8I 2 0 0 0 (lo := 0) (hi := 671) (by decide) rfl
    obtain ⟨Z10, hZ10⟩ := zx (zu Z8 2 0 0 (3527 + 10 * a1) (Z8 2 0 0 0))
    replace hP := zl_e hP hZ10
    have hZ10I := zM_u2 hZ8I hZ10 (lo := -1) (hi := 671) (zs_3520_7 (x := a1) (by omega) (by omega) (by omega)) (by omega) ⟨by decide, by decide⟩ (by simp only [zsp]; omega)
    have hZ10U : zU [] Z Z10 := zU_u hZ8U hZ10 (Or.inl rfl)
    have hZ10K : zC [2] Z Z10 := zC_u hZ8K hZ10 (zcl_2w (by omega) rfl)
    intro μ9 e9
    replace e9 := e9.trans (zm_wI (Z := Z8) (ν := ν) hZ10 (show ((0 : Nat) : Int) = 0 from rfl) (show ((0 : Nat) : Int) = 0 from rfl) (i3I (y := (3527 + 10 * a1)) (i3A (i3A (show (3520 : Int32) = i3 3520 from rfl) (i3M (show (10 : Int32) = i3 10 from rfl) (rfl : i3 a1 = i3 a1))) (show (7 : Int32) = i3 7 from rfl)) (by omega) (by omega) (by omega)) (zm_rd (Z := Z8) (ν := ν) (k := 2) (show ((0 : Nat) : Int) = 0 from rfl) (show ((0 : Nat) : Int) = 0 from rfl) (show ((0 : Nat) : Int) = 0 from rfl)))
    subst e9
    refine wz_br (i3E (rfl : i3 (a2 - 1) = i3 (a2 - 1)) (show (6 : Int32) = i3 6 from rfl) (by omega) (by omega) (by omega) (by omega)) (fun h11 => ?_) (fun h11 => ?_)
    · replace hP := zE_p hP h11
      exact zlW hP (rfl : i3 y2 = i3 y2) ⟨hZ10I, hZ10K, hZ10U, by omega, by omega⟩
    · replace hP := zE_n hP h11
      refine wz_i0 (i3O (n := 4400) (i3A (i3A (show (3520 : Int32) = i3 3520 from rfl) (i3M (show (10 : Int32) = i3 10 from rfl) (rfl : i3 a1 = i3 a1))) (show (1 : Int32) = i3 1 from rfl)) (by omega) (by omega) (by omega)) ?_
      have r12 := zM_k hZ10I 2 0 0 (3521 + 10 * a1) (lo := 0) (hi := 3) (by decide) (zs_3520_1 (x := a1) (by omega) (by omega) (by omega))
      refine wz_br (i3L (rfl : i3 y2 = i3 y2) (i3S (show (4 : Int32) = i3 4 from rfl) (zm_rd (Z := Z10) (ν := ν) (k := 2) (show ((0 : Nat) : Int) = 0 from rfl) (show ((0 : Nat) : Int) = 0 from rfl) (i3I (y := (3521 + 10 * a1)) (i3A (i3A (show (3520 : Int32) = i3 3520 from rfl) (i3M (show (10 : Int32) = i3 10 from rfl) (rfl : i3 a1 = i3 a1))) (show (1 : Int32) = i3 1 from rfl)) (by omega) (by omega) (by omega)))) (by omega) (by omega) (by omega) (by omega)) (fun h13 => ?_) (fun h13 => ?_)
      · replace hP := zE_p hP h13
        exact zlW hP (rfl : i3 y2 = i3 y2) ⟨hZ10I, hZ10K, hZ10U, by omega, by omega⟩
      · replace hP := zE_n hP h13
        refine wz_i0 (i3O (n := 4400) (i3A (show (3510 : Int32) = i3 3510 from rfl) (rfl : i3 (a2 - 1) = i3 (a2 - 1))) (by omega) (by omega) (by omega)) ?_
        have r14 := zM_k hZ10I 2 0 0 0 (lo := 0) (hi := 671) (by decide) rfl
        have q15 := zu_ne (k' := 2) (b' := 0) (i' := 0) (j' := 0) hZ10 (fun q => absurd q.2.2.2 (by omega))
        obtain ⟨Z16, hZ16⟩ := zx (zu Z10 2 0 0 (3509 + a2) ((Z10 2 0 0 0) + 24))
        replace hP := zl_e hP hZ16
        have hZ16I := zM_u2 hZ10I hZ16 (lo := 0) (hi := 695) (zs_3509 (by omega) (by omega)) (by omega) ⟨by decide, by decide⟩ (by simp only [zsp]; omega)
        have hZ16U : zU [] Z Z16 := zU_u hZ10U hZ16 (Or.inl rfl)
        have hZ16K : zC [2] Z Z16 := zC_u hZ10K hZ16 (zcl_2w (by omega) rfl)
        intro μ9 e9
        replace e9 := e9.trans (zm_wI (Z := Z10) (ν := ν) hZ16 (show ((0 : Nat) : Int) = 0 from rfl) (show ((0 : Nat) : Int) = 0 from rfl) (i3I (y := (3509 + a2)) (i3A (show (3510 : Int32) = i3 3510 from rfl) (rfl : i3 (a2 - 1) = i3 (a2 - 1))) (by omega) (by omega) (by omega)) (i3A (zm_rd (Z := Z10) (ν := ν) (k := 2) (show ((0 : Nat) : Int) = 0 from rfl) (show ((0 : Nat) : Int) = 0 from rfl) (show ((0 : Nat) : Int) = 0 from rfl)) (show (24 : Int32) = i3 24 from rfl)))
        subst e9
        exact zlW hP (rfl : i3 y2 = i3 y2) ⟨hZ16I, hZ16K, hZ16U, by omega, by omega⟩
  · replace hP := zE_n hP h1
    refine sl_365_1 (ν := ν) (zm0 hZ) (zbh (c := 0) (k := 6076) hM (Nat.le_of_ble_eq_true rfl)) (xM9 := 0) zC_r (x1 := a1) (by omega) (x2 := a2) (by omega) (x3 := 6) (by omega) (x4 := 0) (by omega) (x5 := 0) (by omega) zU_r (Nat.le_of_ble_eq_true rfl) (by omega) (zconso rfl (zconso (zvo (rfl : i3 a1 = i3 a1)) (zconso (zvo (rfl : i3 a2 = i3 a2)) (zconso (zvo (show (6 : Int32) = i3 6 from rfl)) (zconso (zvo (show (0 : Int32) = i3 0 from rfl)) (zconso (zvo (show (0 : Int32) = i3 0 from rfl)) (zconso rfl (zconso rfl rfl)))))))) rfl ?_
    intro L20 Z19 y17 y18 hL20 hZ19I kZ19 jZ19 gy17 gy18 gL20_0 q9
    replace hP := zl_e3 hP (Eq.symm q9)
    clear q9
    have hZ19U : zU [] Z Z19 := zU_t zU_r jZ19 zU_b0
    have hZ19K : zC [2] Z Z19 := zC_t zC_r kZ19 (by decide)
    refine fc_365_2 (i3 a1) (i3 6) (i3 y17) _ _ _ _ hL20 ?_
    refine wz_i0 (i3O (n := 4400) (i3A (i3A (show (3520 : Int32) = i3 3520 from rfl) (i3M (show (10 : Int32) = i3 10 from rfl) (rfl : i3 a1 = i3 a1))) (show (4 : Int32) = i3 4 from rfl)) (by omega) (by omega) (by omega)) ?_
    refine wz_i0 (i3O (n := 4400) (i3A (i3A (show (3520 : Int32) = i3 3520 from rfl) (i3M (show (10 : Int32) = i3 10 from rfl) (rfl : i3 a1 = i3 a1))) (show (4 : Int32) = i3 4 from rfl)) (by omega) (by omega) (by omega)) ?_
    have r21 := zM_f hZ19I 2 0 0 (3524 + 10 * a1)
    have r22 := w3_r ((Z19 2 0 0 (3524 + 10 * a1)) + 1)
    obtain ⟨Z23, hZ23⟩ := zx (zu Z19 2 0 0 (3524 + 10 * a1) (w3 ((Z19 2 0 0 (3524 + 10 * a1)) + 1)))
    replace hP := zl_e hP hZ23
    have hZ23I := zM_u2 hZ19I hZ23 (lo := -2147483648) (hi := 2147483647) (zs_3520_4 (x := a1) (by omega) (by omega) (by omega)) (by omega) ⟨by decide, by decide⟩ (by simp only [zsp]; omega)
    have hZ23U : zU [] Z Z23 := zU_u hZ19U hZ23 (Or.inl rfl)
    have hZ23K : zC [2] Z Z23 := zC_u hZ19K hZ23 (zcl_2w (by omega) rfl)
    intro μ9 e9
    replace e9 := e9.trans (zm_wI (Z := Z19) (ν := ν) hZ23 (show ((0 : Nat) : Int) = 0 from rfl) (show ((0 : Nat) : Int) = 0 from rfl) (i3I (y := (3524 + 10 * a1)) (i3A (i3A (show (3520 : Int32) = i3 3520 from rfl) (i3M (show (10 : Int32) = i3 10 from rfl) (rfl : i3 a1 = i3 a1))) (show (4 : Int32) = i3 4 from rfl)) (by omega) (by omega) (by omega)) (i3W (i3A (zm_rd (Z := Z19) (ν := ν) (k := 2) (show ((0 : Nat) : Int) = 0 from rfl) (show ((0 : Nat) : Int) = 0 from rfl) (i3I (y := (3524 + 10 * a1)) (i3A (i3A (show (3520 : Int32) = i3 3520 from rfl) (i3M (show (10 : Int32) = i3 10 from rfl) (rfl : i3 a1 = i3 a1))) (show (4 : Int32) = i3 4 from rfl)) (by omega) (by omega) (by omega))) (show (1 : Int32) = i3 1 from rfl))))
    subst e9
    refine wz_i0 (i3O (n := 4400) (i3A (i3A (show (3520 : Int32) = i3 3520 from rfl) (i3M (show (10 : Int32) = i3 10 from rfl) (rfl : i3 a1 = i3 a1))) (show (7 : Int32) = i3 7 from rfl)) (by omega) (by omega) (by omega)) ?_
    have r24 := zM_k hZ23I 2 0 0 0 (lo := 0) (hi := 671) (by decide) rfl
    obtain ⟨Z25, hZ25⟩ := zx (zu Z23 2 0 0 (3527 + 10 * a1) (Z23 2 0 0 0))
    replace hP := zl_e hP hZ25
    have hZ25I := zM_u2 hZ23I hZ25 (lo := -1) (hi := 671) (zs_3520_7 (x := a1) (by omega) (by omega) (by omega)) (by omega) ⟨by decide, by decide⟩ (by simp only [zsp]; omega)
    have hZ25U : zU [] Z Z25 := zU_u hZ23U hZ25 (Or.inl rfl)
    have hZ25K : zC [2] Z Z25 := zC_u hZ23K hZ25 (zcl_2w (by omega) rfl)
    intro μ9 e9
    replace e9 := e9.trans (zm_wI (Z := Z23) (ν := ν) hZ25 (show ((0 : Nat) : Int) = 0 from rfl) (show ((0 : Nat) : Int) = 0 from rfl) (i3I (y := (3527 + 10 * a1)) (i3A (i3A (show (3520 : Int32) = i3 3520 from rfl) (i3M (show (10 : Int32) = i3 10 from rfl) (rfl : i3 a1 = i3 a1))) (show (7 : Int32) = i3 7 from rfl)) (by omega) (by omega) (by omega)) (zm_rd (Z := Z23) (ν := ν) (k := 2) (show ((0 : Nat) : Int) = 0 from rfl) (show ((0 : Nat) : Int) = 0 from rfl) (show ((0 : Nat) : Int) = 0 from rfl)))
    subst e9
    refine wz_i1 (Eq.trans (i3E (rfl : i3 6 = i3 6) (show (6 : Int32) = i3 6 from rfl) (by omega) (by omega) (by omega) (by omega)) (decide_eq_true (by omega))) ?_
    exact zlW hP (rfl : i3 y17 = i3 y17) ⟨hZ25I, hZ25K, hZ25U, by omega, by omega⟩
/- yX12_iHour -/
def zl_358_1 : Nat → qz_Z → Int → qz_Z × Int
  | 0, Z, x1 => (Z, x1)
  | m + 1, Z, x1 => (if (Z 2 0 0 3500) ≤ x1 then (Z, x1) else (zlet (zf_355 Z x1 (Z 2 0 0 0)) (fun v4 => (if v4 ≤ 0 then zl_358_1 m Z (x1 + 1) else (zlet2 (zf_365 Z x1 v4) (fun Z6 v7 => zl_358_1 m Z6 (x1 + 1)))))))
theorem sl_358_1 {s : zSM} {xM9 : Nat} {Zs Z : qz_Z} {ν : qz_N} (hZ : zM (zb s xM9) Z) (hM : s.2 + 18228 ≤ 1000000000) (hK : zC [2] Zs Z) {x1 : Int} (gx1 : 0 ≤ x1 ∧ x1 ≤ 2) (hU : zU [] Zs Z) (hx9 : xM9 + 6076 * ((2 - x1).toNat) + 6076 ≤ 18228) {k : wz_K} {R : wz_R} {L : qz_L} (hL : qz_fg [true, true, false] L = [some (.inr (.inr (some (1, 0, 0)))), some (.inl (i3 x1)), none]) {T : qz_Z × Int} (hP : zE T (zl_358_1 ((2 - x1).toNat + 1) Z x1)) (hk : ∀ (L9 : qz_L) (Z9 : qz_Z) (yx1 : Int), qz_fg [false, false, false] L9 = [none, none, none] → zM (zb s 18228) Z9 → zC [2] Zs Z9 → zU [] Zs Z9 → (0 ≤ yx1 ∧ yx1 ≤ 2) → zE T ((Z9, yx1)) → k 0 (L9, [], zm Z9 ν)) : wz_loop qb_358_1 65536 k R (L, [], zm Z ν) := by
  refine wz_lp sb_358_1 (fun m x => ∃ xM9 : Nat, ∃ Z : qz_Z, ∃ x1 : Int, qz_fg [true, true, false] x.1 = [some (.inr (.inr (some (1, 0, 0)))), some (.inl (i3 x1)), none] ∧ x.2 = ([], zm Z ν) ∧ xM9 + 6076 * m + 6076 ≤ 18228 ∧ zM (zb s xM9) Z ∧ zC [2] Zs Z ∧ zU [] Zs Z ∧ m = (2 - x1).toNat ∧ (0 ≤ x1 ∧ x1 ≤ 2) ∧ zE T (zl_358_1 (m + 1) Z x1)) ?_ 65536 ((2 - x1).toNat) _ (by omega) ⟨xM9, Z, x1, hL, rfl, hx9, hZ, hK, hU, rfl, gx1, hP⟩
  clear hP gx1 hx9 hZ hK hU hL
  clear x1
  clear Z
  clear xM9
  rintro m ⟨L, st, μ⟩ ⟨xM9, Z, x1, hL, hx, hx9, hZ, hK, hU, hm, gx1, hP⟩
  cases hx
  have hM9 : (zb s xM9).2 + 6076 ≤ 1000000000 := by
    show s.2 + xM9 + 6076 ≤ 1000000000
    omega
  refine fb_358_1 (i3 x1) _ _ _ _ hL ?_
  have r1 := zM_k hZ 2 0 0 3500 (lo := 0) (hi := 2) (by decide) rfl
  refine wz_br (i3Le (zm_rd (Z := Z) (ν := ν) (k := 2) (show ((0 : Nat) : Int) = 0 from rfl) (show ((0 : Nat) : Int) = 0 from rfl) (show ((3500 : Nat) : Int) = 3500 from rfl)) (rfl : i3 x1 = i3 x1) (by omega) (by omega) (by omega) (by omega)) (fun h2 => ?_) (fun h2 => ?_)
  · replace hP := zE_p hP h2
    exact hk _ _ _ (zconso rfl (zconso rfl (zconso rfl rfl))) (zmx0 hZ (by omega)) hK hU (by omega)  hP
  · replace hP := zE_n hP h2
    have r3 := zM_k hZ 2 0 0 0 (lo := 0) (hi := 671) (by decide) rfl
    obtain ⟨v4, hv4, c9, lv4, uv4⟩ := sp_355 (ν := ν) hZ (a1 := x1) (by omega) (a2 := (Z 2 0 0 0)) (by omega) (zbh (c := 0) (k := 0) hM9 (Nat.le_of_ble_eq_true rfl))
    replace hP := zl_e hP hv4
    refine wz_cI_of (zas (zcons rfl (zcons (zvi (rfl : i3 x1 = i3 x1)) (zcons (zvi (zm_rd (Z := Z) (ν := ν) (k := 2) (show ((0 : Nat) : Int) = 0 from rfl) (show ((0 : Nat) : Int) = 0 from rfl) (show ((0 : Nat) : Int) = 0 from rfl))) rfl))) c9) ?_
    clear c9
    refine wz_br (i3Le (rfl : i3 v4 = i3 v4) (show (0 : Int32) = i3 0 from rfl) (by omega) (by omega) (by omega) (by omega)) (fun h5 => ?_) (fun h5 => ?_)
    · replace hP := zE_p hP h5
      obtain ⟨m2, rfl⟩ : ∃ m2, m = m2 + 1 := ⟨m - 1, by omega⟩
      exact wz_k1 ⟨m2, by omega, xM9, Z, (x1 + 1), (zconso rfl (zconso (zvo (i3A (rfl : i3 x1 = i3 x1) (show (1 : Int32) = i3 1 from rfl))) (zconso rfl rfl))), rfl, by omega, hZ, hK, hU, by omega, by omega,  hP⟩
    · replace hP := zE_n hP h5
      obtain ⟨Z6, v7, hv7, c9, hZ6I, kZ6, jZ6, lv7, uv7⟩ := sp_365 (ν := ν) hZ (a1 := x1) (by omega) (a2 := v4) (by omega) (zbh (c := 0) (k := 6076) hM9 (Nat.le_of_ble_eq_true rfl))
      have hZ6U : zU [] Zs Z6 := zU_t hU jZ6 zU_b0
      have hZ6K : zC [2] Zs Z6 := zC_t hK kZ6 (by decide)
      replace hP := zl_e2 hP hv7
      refine wz_cI_of (zas (zcons rfl (zcons (zvi (rfl : i3 x1 = i3 x1)) (zcons (zvi (rfl : i3 v4 = i3 v4)) rfl))) c9) ?_
      clear c9 hv7
      obtain ⟨m2, rfl⟩ : ∃ m2, m = m2 + 1 := ⟨m - 1, by omega⟩
      exact wz_k1 ⟨m2, by omega, xM9 + 6076, Z6, (x1 + 1), (zconso rfl (zconso (zvo (i3A (rfl : i3 x1 = i3 x1) (show (1 : Int32) = i3 1 from rfl))) (zconso rfl rfl))), rfl, by omega, (zmt hZ6I rfl), hZ6K, hZ6U, by omega, by omega,  hP⟩
/- yX12_iHour -/
def zf_358 (Z : qz_Z) : qz_Z := (zlet2 (zl_358_1 3 Z 0) (fun Z2 y1 => Z2))
theorem sp_358 {s : zSM} {Z : qz_Z} {ν : qz_N} (hZ : zM s Z) (hM : s.2 + 18228 ≤ 1000000000) : ∃ P : qz_Z, P = zf_358 Z ∧ (qf_358 [.inr (.inr (some (1, 0, 0)))] (zm Z ν) = some (zm P ν, .inl none) ∧ zM (zb s 18228) P ∧ zC [2] Z P ∧ zU [] Z P) := by
  obtain ⟨P, hP⟩ := zx (zf_358 Z)
  refine zc_V (Q := fun P => zM (zb s 18228) P ∧ zC [2] Z P ∧ zU [] Z P) hP (fw_358  _ _ ?_)
  replace hP : zE P (zf_358 Z) := hP
  unfold zf_358 at hP
  refine sl_358_1 (ν := ν) (zm0 hZ) (zbh (c := 0) (k := 18228) hM (Nat.le_of_ble_eq_true rfl)) (xM9 := 0) zC_r (x1 := 0) (by omega) zU_r (Nat.le_of_ble_eq_true rfl)  (zconso rfl (zconso (zvo (show (0 : Int32) = i3 0 from rfl)) (zconso rfl rfl))) rfl ?_
  intro L3 Z2 y1 hL3 hZ2I kZ2 jZ2 gy1 q9
  replace hP := zl_e2 hP (Eq.symm q9)
  clear q9
  have hZ2U : zU [] Z Z2 := zU_t zU_r jZ2 zU_b0
  have hZ2K : zC [2] Z Z2 := zC_t zC_r kZ2 (by decide)
  refine fc_358_2  _ _ _ _ hL3 ?_
  exact zlV hP ⟨hZ2I, hZ2K, hZ2U⟩
/- yX12_bGiven -/
def zf_272 (Z : qz_Z) (a1 : Int) (a2 : Int) : qz_Z := (if (Z 2 0 0 (1810 + 2 * a1)) ≤ a2 then (zlet (zu Z 2 0 0 (1810 + 2 * a1) ((Z 2 0 0 (1810 + 2 * a1)) - (Z 2 0 0 (1810 + 2 * a1)))) (fun Z3 => (zlet (zu Z3 2 0 0 (1413 + 12 * (Z 2 0 0 (2011 + 16 * a1))) (w3 ((Z3 2 0 0 (1413 + 12 * (Z 2 0 0 (2011 + 16 * a1)))) + (w3 (a2 - (Z 2 0 0 (1810 + 2 * a1))))))) (fun Z8 => (zlet (zu Z8 2 0 0 (1416 + 12 * (Z 2 0 0 (2011 + 16 * a1))) (w3 ((Z8 2 0 0 (1416 + 12 * (Z 2 0 0 (2011 + 16 * a1)))) + a2))) (fun Z11 => Z11)))))) else (zlet (zu Z 2 0 0 (1810 + 2 * a1) ((Z 2 0 0 (1810 + 2 * a1)) - a2)) (fun Z12 => (zlet (zu Z12 2 0 0 (1413 + 12 * (Z 2 0 0 (2011 + 16 * a1))) ((Z12 2 0 0 (1413 + 12 * (Z 2 0 0 (2011 + 16 * a1)))) + (a2 - a2))) (fun Z15 => (zlet (zu Z15 2 0 0 (1416 + 12 * (Z 2 0 0 (2011 + 16 * a1))) (w3 ((Z15 2 0 0 (1416 + 12 * (Z 2 0 0 (2011 + 16 * a1)))) + a2))) (fun Z18 => Z18)))))))
theorem sp_272 {s : zSM} {Z : qz_Z} {ν : qz_N} (hZ : zM s Z) {a1 : Int} (ga1 : 0 ≤ a1 ∧ a1 ≤ 59) {a2 : Int} (ga2 : 1 ≤ a2 ∧ a2 ≤ 15998400) (hM : s.2 + 0 ≤ 1000000000) : ∃ P : qz_Z, P = zf_272 Z a1 a2 ∧ (qf_272 [.inr (.inr (some (1, 0, 0))), .inl (i3 a1), .inl (i3 a2)] (zm Z ν) = some (zm P ν, .inl none) ∧ zM s P ∧ zC [2] Z P ∧ zU [] Z P) := by
  obtain ⟨P, hP⟩ := zx (zf_272 Z a1 a2)
  refine zc_V (Q := fun P => zM s P ∧ zC [2] Z P ∧ zU [] Z P) hP (fw_272 (i3 a1) (i3 a2) _ _ ?_)
  replace hP : zE P (zf_272 Z a1 a2) := hP
  unfold zf_272 at hP
  refine wz_i0 (i3O (n := 4400) (i3A (i3A (show (2010 : Int32) = i3 2010 from rfl) (i3M (show (16 : Int32) = i3 16 from rfl) (rfl : i3 a1 = i3 a1))) (show (1 : Int32) = i3 1 from rfl)) (by omega) (by omega) (by omega)) ?_
  refine wz_i0 (i3O (n := 4400) (i3A (show (1810 : Int32) = i3 1810 from rfl) (i3M (show (2 : Int32) = i3 2 from rfl) (rfl : i3 a1 = i3 a1))) (by omega) (by omega) (by omega)) ?_
  have r1 := zM_f hZ 2 0 0 (1810 + 2 * a1)
  refine wz_br (i3Le (zm_rd (Z := Z) (ν := ν) (k := 2) (show ((0 : Nat) : Int) = 0 from rfl) (show ((0 : Nat) : Int) = 0 from rfl) (i3I (y := (1810 + 2 * a1)) (i3A (show (1810 : Int32) = i3 1810 from rfl) (i3M (show (2 : Int32) = i3 2 from rfl) (rfl : i3 a1 = i3 a1))) (by omega) (by omega) (by omega))) (rfl : i3 a2 = i3 a2) (by omega) (by omega) (by omega) (by omega)) (fun h2 => ?_) (fun h2 => ?_)
  · replace hP := zE_p hP h2
    refine wz_i0 (i3O (n := 4400) (i3A (show (1810 : Int32) = i3 1810 from rfl) (i3M (show (2 : Int32) = i3 2 from rfl) (rfl : i3 a1 = i3 a1))) (by omega) (by omega) (by omega)) ?_
    refine wz_i0 (i3O (n := 4400) (i3A (show (1810 : Int32) = i3 1810 from rfl) (i3M (show (2 : Int32) = i3 2 from rfl) (rfl : i3 a1 = i3 a1))) (by omega) (by omega) (by omega)) ?_
    refine wz_i0 (i3O (n := 4400) (i3A (show (1810 : Int32) = i3 1810 from rfl) (i3M (show (2 : Int32) = i3 2 from rfl) (rfl : i3 a1 = i3 a1))) (by omega) (by omega) (by omega)) ?_
    obtain ⟨Z3, hZ3⟩ := zx (zu Z 2 0 0 (1810 + 2 * a1) ((Z 2 0 0 (1810 + 2 * a1)) - (Z 2 0 0 (1810 + 2 * a1))))
    replace hP := zl_e hP hZ3
    have hZ3I := zM_u2 hZ hZ3 (lo := -2147483648) (hi := 2147483647) (zs_1810_0 (x := a1) (by omega) (by omega) (by omega)) (by omega) ⟨by decide, by decide⟩ (by simp only [zsp]; omega)
    have hZ3U : zU [] Z Z3 := zU_u zU_r hZ3 (Or.inl rfl)
    have hZ3K : zC [2] Z Z3 := zC_u zC_r hZ3 (zcl_2w (by omega) rfl)
    intro μ9 e9
    replace e9 := e9.trans (zm_wI (Z := Z) (ν := ν) hZ3 (show ((0 : Nat) : Int) = 0 from rfl) (show ((0 : Nat) : Int) = 0 from rfl) (i3I (y := (1810 + 2 * a1)) (i3A (show (1810 : Int32) = i3 1810 from rfl) (i3M (show (2 : Int32) = i3 2 from rfl) (rfl : i3 a1 = i3 a1))) (by omega) (by omega) (by omega)) (i3S (zm_rd (Z := Z) (ν := ν) (k := 2) (show ((0 : Nat) : Int) = 0 from rfl) (show ((0 : Nat) : Int) = 0 from rfl) (i3I (y := (1810 + 2 * a1)) (i3A (show (1810 : Int32) = i3 1810 from rfl) (i3M (show (2 : Int32) = i3 2 from rfl) (rfl : i3 a1 = i3 a1))) (by omega) (by omega) (by omega))) (zm_rd (Z := Z) (ν := ν) (k := 2) (show ((0 : Nat) : Int) = 0 from rfl) (show ((0 : Nat) : Int) = 0 from rfl) (i3I (y := (1810 + 2 * a1)) (i3A (show (1810 : Int32) = i3 1810 from rfl) (i3M (show (2 : Int32) = i3 2 from rfl) (rfl : i3 a1 = i3 a1))) (by omega) (by omega) (by omega)))))
    subst e9
    have r4 := zM_k hZ 2 0 0 (2011 + 16 * a1) (lo := 0) (hi := 7) (by decide) (zs_2010_1 (x := a1) (by omega) (by omega) (by omega))
    refine wz_i0 (i3O (n := 4400) (i3A (i3A (show (1410 : Int32) = i3 1410 from rfl) (i3M (show (12 : Int32) = i3 12 from rfl) (zm_rd (Z := Z) (ν := ν) (k := 2) (show ((0 : Nat) : Int) = 0 from rfl) (show ((0 : Nat) : Int) = 0 from rfl) (i3I (y := (2011 + 16 * a1)) (i3A (i3A (show (2010 : Int32) = i3 2010 from rfl) (i3M (show (16 : Int32) = i3 16 from rfl) (rfl : i3 a1 = i3 a1))) (show (1 : Int32) = i3 1 from rfl)) (by omega) (by omega) (by omega))))) (show (3 : Int32) = i3 3 from rfl)) (by omega) (by omega) (by omega)) ?_
    refine wz_i0 (i3O (n := 4400) (i3A (i3A (show (1410 : Int32) = i3 1410 from rfl) (i3M (show (12 : Int32) = i3 12 from rfl) (zm_rd (Z := Z) (ν := ν) (k := 2) (show ((0 : Nat) : Int) = 0 from rfl) (show ((0 : Nat) : Int) = 0 from rfl) (i3I (y := (2011 + 16 * a1)) (i3A (i3A (show (2010 : Int32) = i3 2010 from rfl) (i3M (show (16 : Int32) = i3 16 from rfl) (rfl : i3 a1 = i3 a1))) (show (1 : Int32) = i3 1 from rfl)) (by omega) (by omega) (by omega))))) (show (3 : Int32) = i3 3 from rfl)) (by omega) (by omega) (by omega)) ?_
    have r5 := zM_f hZ3I 2 0 0 (1413 + 12 * (Z 2 0 0 (2011 + 16 * a1)))
    have r6 := w3_r (a2 - (Z 2 0 0 (1810 + 2 * a1)))
    have r7 := w3_r ((Z3 2 0 0 (1413 + 12 * (Z 2 0 0 (2011 + 16 * a1)))) + (w3 (a2 - (Z 2 0 0 (1810 + 2 * a1)))))
    obtain ⟨Z8, hZ8⟩ := zx (zu Z3 2 0 0 (1413 + 12 * (Z 2 0 0 (2011 + 16 * a1))) (w3 ((Z3 2 0 0 (1413 + 12 * (Z 2 0 0 (2011 + 16 * a1)))) + (w3 (a2 - (Z 2 0 0 (1810 + 2 * a1)))))))
    replace hP := zl_e hP hZ8
    have hZ8I := zM_u2 hZ3I hZ8 (lo := -2147483648) (hi := 2147483647) (zs_1410_3 (x := (Z 2 0 0 (2011 + 16 * a1))) (by omega) (by omega) (by omega)) (by omega) ⟨by decide, by decide⟩ (by simp only [zsp]; omega)
    have hZ8U : zU [] Z Z8 := zU_u hZ3U hZ8 (Or.inl rfl)
    have hZ8K : zC [2] Z Z8 := zC_u hZ3K hZ8 (zcl_2w (by omega) rfl)
    intro μ9 e9
    replace e9 := e9.trans (zm_wI (Z := Z3) (ν := ν) hZ8 (show ((0 : Nat) : Int) = 0 from rfl) (show ((0 : Nat) : Int) = 0 from rfl) (i3I (y := (1413 + 12 * (Z 2 0 0 (2011 + 16 * a1)))) (i3A (i3A (show (1410 : Int32) = i3 1410 from rfl) (i3M (show (12 : Int32) = i3 12 from rfl) (zm_rd (Z := Z) (ν := ν) (k := 2) (show ((0 : Nat) : Int) = 0 from rfl) (show ((0 : Nat) : Int) = 0 from rfl) (i3I (y := (2011 + 16 * a1)) (i3A (i3A (show (2010 : Int32) = i3 2010 from rfl) (i3M (show (16 : Int32) = i3 16 from rfl) (rfl : i3 a1 = i3 a1))) (show (1 : Int32) = i3 1 from rfl)) (by omega) (by omega) (by omega))))) (show (3 : Int32) = i3 3 from rfl)) (by omega) (by omega) (by omega)) (i3W (i3A (zm_rd (Z := Z3) (ν := ν) (k := 2) (show ((0 : Nat) : Int) = 0 from rfl) (show ((0 : Nat) : Int) = 0 from rfl) (i3I (y := (1413 + 12 * (Z 2 0 0 (2011 + 16 * a1)))) (i3A (i3A (show (1410 : Int32) = i3 1410 from rfl) (i3M (show (12 : Int32) = i3 12 from rfl) (zm_rd (Z := Z) (ν := ν) (k := 2) (show ((0 : Nat) : Int) = 0 from rfl) (show ((0 : Nat) : Int) = 0 from rfl) (i3I (y := (2011 + 16 * a1)) (i3A (i3A (show (2010 : Int32) = i3 2010 from rfl) (i3M (show (16 : Int32) = i3 16 from rfl) (rfl : i3 a1 = i3 a1))) (show (1 : Int32) = i3 1 from rfl)) (by omega) (by omega) (by omega))))) (show (3 : Int32) = i3 3 from rfl)) (by omega) (by omega) (by omega))) (i3W (i3S (rfl : i3 a2 = i3 a2) (zm_rd (Z := Z) (ν := ν) (k := 2) (show ((0 : Nat) : Int) = 0 from rfl) (show ((0 : Nat) : Int) = 0 from rfl) (i3I (y := (1810 + 2 * a1)) (i3A (show (1810 : Int32) = i3 1810 from rfl) (i3M (show (2 : Int32) = i3 2 from rfl) (rfl : i3 a1 = i3 a1))) (by omega) (by omega) (by omega))))))))
    subst e9
    refine wz_i0 (i3O (n := 4400) (i3A (i3A (show (1410 : Int32) = i3 1410 from rfl) (i3M (show (12 : Int32) = i3 12 from rfl) (zm_rd (Z := Z) (ν := ν) (k := 2) (show ((0 : Nat) : Int) = 0 from rfl) (show ((0 : Nat) : Int) = 0 from rfl) (i3I (y := (2011 + 16 * a1)) (i3A (i3A (show (2010 : Int32) = i3 2010 from rfl) (i3M (show (16 : Int32) = i3 16 from rfl) (rfl : i3 a1 = i3 a1))) (show (1 : Int32) = i3 1 from rfl)) (by omega) (by omega) (by omega))))) (show (6 : Int32) = i3 6 from rfl)) (by omega) (by omega) (by omega)) ?_
    refine wz_i0 (i3O (n := 4400) (i3A (i3A (show (1410 : Int32) = i3 1410 from rfl) (i3M (show (12 : Int32) = i3 12 from rfl) (zm_rd (Z := Z) (ν := ν) (k := 2) (show ((0 : Nat) : Int) = 0 from rfl) (show ((0 : Nat) : Int) = 0 from rfl) (i3I (y := (2011 + 16 * a1)) (i3A (i3A (show (2010 : Int32) = i3 2010 from rfl) (i3M (show (16 : Int32) = i3 16 from rfl) (rfl : i3 a1 = i3 a1))) (show (1 : Int32) = i3 1 from rfl)) (by omega) (by omega) (by omega))))) (show (6 : Int32) = i3 6 from rfl)) (by omega) (by omega) (by omega)) ?_
    have r9 := zM_f hZ8I 2 0 0 (1416 + 12 * (Z 2 0 0 (2011 + 16 * a1)))
    have r10 := w3_r ((Z8 2 0 0 (1416 + 12 * (Z 2 0 0 (2011 + 16 * a1)))) + a2)
    obtain ⟨Z11, hZ11⟩ := zx (zu Z8 2 0 0 (1416 + 12 * (Z 2 0 0 (2011 + 16 * a1))) (w3 ((Z8 2 0 0 (1416 + 12 * (Z 2 0 0 (2011 + 16 * a1)))) + a2)))
    replace hP := zl_e hP hZ11
    have hZ11I := zM_u2 hZ8I hZ11 (lo := -2147483648) (hi := 2147483647) (zs_1410_6 (x := (Z 2 0 0 (2011 + 16 * a1))) (by omega) (by omega) (by omega)) (by omega) ⟨by decide, by decide⟩ (by simp only [zsp]; omega)
    have hZ11U : zU [] Z Z11 := zU_u hZ8U hZ11 (Or.inl rfl)
    have hZ11K : zC [2] Z Z11 := zC_u hZ8K hZ11 (zcl_2w (by omega) rfl)
    intro μ9 e9
    replace e9 := e9.trans (zm_wI (Z := Z8) (ν := ν) hZ11 (show ((0 : Nat) : Int) = 0 from rfl) (show ((0 : Nat) : Int) = 0 from rfl) (i3I (y := (1416 + 12 * (Z 2 0 0 (2011 + 16 * a1)))) (i3A (i3A (show (1410 : Int32) = i3 1410 from rfl) (i3M (show (12 : Int32) = i3 12 from rfl) (zm_rd (Z := Z) (ν := ν) (k := 2) (show ((0 : Nat) : Int) = 0 from rfl) (show ((0 : Nat) : Int) = 0 from rfl) (i3I (y := (2011 + 16 * a1)) (i3A (i3A (show (2010 : Int32) = i3 2010 from rfl) (i3M (show (16 : Int32) = i3 16 from rfl) (rfl : i3 a1 = i3 a1))) (show (1 : Int32) = i3 1 from rfl)) (by omega) (by omega) (by omega))))) (show (6 : Int32) = i3 6 from rfl)) (by omega) (by omega) (by omega)) (i3W (i3A (zm_rd (Z := Z8) (ν := ν) (k := 2) (show ((0 : Nat) : Int) = 0 from rfl) (show ((0 : Nat) : Int) = 0 from rfl) (i3I (y := (1416 + 12 * (Z 2 0 0 (2011 + 16 * a1)))) (i3A (i3A (show (1410 : Int32) = i3 1410 from rfl) (i3M (show (12 : Int32) = i3 12 from rfl) (zm_rd (Z := Z) (ν := ν) (k := 2) (show ((0 : Nat) : Int) = 0 from rfl) (show ((0 : Nat) : Int) = 0 from rfl) (i3I (y := (2011 + 16 * a1)) (i3A (i3A (show (2010 : Int32) = i3 2010 from rfl) (i3M (show (16 : Int32) = i3 16 from rfl) (rfl : i3 a1 = i3 a1))) (show (1 : Int32) = i3 1 from rfl)) (by omega) (by omega) (by omega))))) (show (6 : Int32) = i3 6 from rfl)) (by omega) (by omega) (by omega))) (rfl : i3 a2 = i3 a2))))
    subst e9
    exact zlV hP ⟨hZ11I, hZ11K, hZ11U⟩
  · replace hP := zE_n hP h2
    refine wz_i0 (i3O (n := 4400) (i3A (show (1810 : Int32) = i3 1810 from rfl) (i3M (show (2 : Int32) = i3 2 from rfl) (rfl : i3 a1 = i3 a1))) (by omega) (by omega) (by omega)) ?_
    refine wz_i0 (i3O (n := 4400) (i3A (show (1810 : Int32) = i3 1810 from rfl) (i3M (show (2 : Int32) = i3 2 from rfl) (rfl : i3 a1 = i3 a1))) (by omega) (by omega) (by omega)) ?_
    obtain ⟨Z12, hZ12⟩ := zx (zu Z 2 0 0 (1810 + 2 * a1) ((Z 2 0 0 (1810 + 2 * a1)) - a2))
    replace hP := zl_e hP hZ12
    have hZ12I := zM_u2 hZ hZ12 (lo := -2147483648) (hi := 2147483647) (zs_1810_0 (x := a1) (by omega) (by omega) (by omega)) (by omega) ⟨by decide, by decide⟩ (by simp only [zsp]; omega)
    have hZ12U : zU [] Z Z12 := zU_u zU_r hZ12 (Or.inl rfl)
    have hZ12K : zC [2] Z Z12 := zC_u zC_r hZ12 (zcl_2w (by omega) rfl)
    intro μ9 e9
    replace e9 := e9.trans (zm_wI (Z := Z) (ν := ν) hZ12 (show ((0 : Nat) : Int) = 0 from rfl) (show ((0 : Nat) : Int) = 0 from rfl) (i3I (y := (1810 + 2 * a1)) (i3A (show (1810 : Int32) = i3 1810 from rfl) (i3M (show (2 : Int32) = i3 2 from rfl) (rfl : i3 a1 = i3 a1))) (by omega) (by omega) (by omega)) (i3S (zm_rd (Z := Z) (ν := ν) (k := 2) (show ((0 : Nat) : Int) = 0 from rfl) (show ((0 : Nat) : Int) = 0 from rfl) (i3I (y := (1810 + 2 * a1)) (i3A (show (1810 : Int32) = i3 1810 from rfl) (i3M (show (2 : Int32) = i3 2 from rfl) (rfl : i3 a1 = i3 a1))) (by omega) (by omega) (by omega))) (rfl : i3 a2 = i3 a2)))
    subst e9
    have r13 := zM_k hZ 2 0 0 (2011 + 16 * a1) (lo := 0) (hi := 7) (by decide) (zs_2010_1 (x := a1) (by omega) (by omega) (by omega))
    refine wz_i0 (i3O (n := 4400) (i3A (i3A (show (1410 : Int32) = i3 1410 from rfl) (i3M (show (12 : Int32) = i3 12 from rfl) (zm_rd (Z := Z) (ν := ν) (k := 2) (show ((0 : Nat) : Int) = 0 from rfl) (show ((0 : Nat) : Int) = 0 from rfl) (i3I (y := (2011 + 16 * a1)) (i3A (i3A (show (2010 : Int32) = i3 2010 from rfl) (i3M (show (16 : Int32) = i3 16 from rfl) (rfl : i3 a1 = i3 a1))) (show (1 : Int32) = i3 1 from rfl)) (by omega) (by omega) (by omega))))) (show (3 : Int32) = i3 3 from rfl)) (by omega) (by omega) (by omega)) ?_
    refine wz_i0 (i3O (n := 4400) (i3A (i3A (show (1410 : Int32) = i3 1410 from rfl) (i3M (show (12 : Int32) = i3 12 from rfl) (zm_rd (Z := Z) (ν := ν) (k := 2) (show ((0 : Nat) : Int) = 0 from rfl) (show ((0 : Nat) : Int) = 0 from rfl) (i3I (y := (2011 + 16 * a1)) (i3A (i3A (show (2010 : Int32) = i3 2010 from rfl) (i3M (show (16 : Int32) = i3 16 from rfl) (rfl : i3 a1 = i3 a1))) (show (1 : Int32) = i3 1 from rfl)) (by omega) (by omega) (by omega))))) (show (3 : Int32) = i3 3 from rfl)) (by omega) (by omega) (by omega)) ?_
    have r14 := zM_f hZ12I 2 0 0 (1413 + 12 * (Z 2 0 0 (2011 + 16 * a1)))
    obtain ⟨Z15, hZ15⟩ := zx (zu Z12 2 0 0 (1413 + 12 * (Z 2 0 0 (2011 + 16 * a1))) ((Z12 2 0 0 (1413 + 12 * (Z 2 0 0 (2011 + 16 * a1)))) + (a2 - a2)))
    replace hP := zl_e hP hZ15
    have hZ15I := zM_u2 hZ12I hZ15 (lo := -2147483648) (hi := 2147483647) (zs_1410_3 (x := (Z 2 0 0 (2011 + 16 * a1))) (by omega) (by omega) (by omega)) (by omega) ⟨by decide, by decide⟩ (by simp only [zsp]; omega)
    have hZ15U : zU [] Z Z15 := zU_u hZ12U hZ15 (Or.inl rfl)
    have hZ15K : zC [2] Z Z15 := zC_u hZ12K hZ15 (zcl_2w (by omega) rfl)
    intro μ9 e9
    replace e9 := e9.trans (zm_wI (Z := Z12) (ν := ν) hZ15 (show ((0 : Nat) : Int) = 0 from rfl) (show ((0 : Nat) : Int) = 0 from rfl) (i3I (y := (1413 + 12 * (Z 2 0 0 (2011 + 16 * a1)))) (i3A (i3A (show (1410 : Int32) = i3 1410 from rfl) (i3M (show (12 : Int32) = i3 12 from rfl) (zm_rd (Z := Z) (ν := ν) (k := 2) (show ((0 : Nat) : Int) = 0 from rfl) (show ((0 : Nat) : Int) = 0 from rfl) (i3I (y := (2011 + 16 * a1)) (i3A (i3A (show (2010 : Int32) = i3 2010 from rfl) (i3M (show (16 : Int32) = i3 16 from rfl) (rfl : i3 a1 = i3 a1))) (show (1 : Int32) = i3 1 from rfl)) (by omega) (by omega) (by omega))))) (show (3 : Int32) = i3 3 from rfl)) (by omega) (by omega) (by omega)) (i3A (zm_rd (Z := Z12) (ν := ν) (k := 2) (show ((0 : Nat) : Int) = 0 from rfl) (show ((0 : Nat) : Int) = 0 from rfl) (i3I (y := (1413 + 12 * (Z 2 0 0 (2011 + 16 * a1)))) (i3A (i3A (show (1410 : Int32) = i3 1410 from rfl) (i3M (show (12 : Int32) = i3 12 from rfl) (zm_rd (Z := Z) (ν := ν) (k := 2) (show ((0 : Nat) : Int) = 0 from rfl) (show ((0 : Nat) : Int) = 0 from rfl) (i3I (y := (2011 + 16 * a1)) (i3A (i3A (show (2010 : Int32) = i3 2010 from rfl) (i3M (show (16 : Int32) = i3 16 from rfl) (rfl : i3 a1 = i3 a1))) (show (1 : Int32) = i3 1 from rfl)) (by omega) (by omega) (by omega))))) (show (3 : Int32) = i3 3 from rfl)) (by omega) (by omega) (by omega))) (i3S (rfl : i3 a2 = i3 a2) (rfl : i3 a2 = i3 a2))))
    subst e9
    refine wz_i0 (i3O (n := 4400) (i3A (i3A (show (1410 : Int32) = i3 1410 from rfl) (i3M (show (12 : Int32) = i3 12 from rfl) (zm_rd (Z := Z) (ν := ν) (k := 2) (show ((0 : Nat) : Int) = 0 from rfl) (show ((0 : Nat) : Int) = 0 from rfl) (i3I (y := (2011 + 16 * a1)) (i3A (i3A (show (2010 : Int32) = i3 2010 from rfl) (i3M (show (16 : Int32) = i3 16 from rfl) (rfl : i3 a1 = i3 a1))) (show (1 : Int32) = i3 1 from rfl)) (by omega) (by omega) (by omega))))) (show (6 : Int32) = i3 6 from rfl)) (by omega) (by omega) (by omega)) ?_
    refine wz_i0 (i3O (n := 4400) (i3A (i3A (show (1410 : Int32) = i3 1410 from rfl) (i3M (show (12 : Int32) = i3 12 from rfl) (zm_rd (Z := Z) (ν := ν) (k := 2) (show ((0 : Nat) : Int) = 0 from rfl) (show ((0 : Nat) : Int) = 0 from rfl) (i3I (y := (2011 + 16 * a1)) (i3A (i3A (show (2010 : Int32) = i3 2010 from rfl) (i3M (show (16 : Int32) = i3 16 from rfl) (rfl : i3 a1 = i3 a1))) (show (1 : Int32) = i3 1 from rfl)) (by omega) (by omega) (by omega))))) (show (6 : Int32) = i3 6 from rfl)) (by omega) (by omega) (by omega)) ?_
    have r16 := zM_f hZ15I 2 0 0 (1416 + 12 * (Z 2 0 0 (2011 + 16 * a1)))
    have r17 := w3_r ((Z15 2 0 0 (1416 + 12 * (Z 2 0 0 (2011 + 16 * a1)))) + a2)
    obtain ⟨Z18, hZ18⟩ := zx (zu Z15 2 0 0 (1416 + 12 * (Z 2 0 0 (2011 + 16 * a1))) (w3 ((Z15 2 0 0 (1416 + 12 * (Z 2 0 0 (2011 + 16 * a1)))) + a2)))
    replace hP := zl_e hP hZ18
    have hZ18I := zM_u2 hZ15I hZ18 (lo := -2147483648) (hi := 2147483647) (zs_1410_6 (x := (Z 2 0 0 (2011 + 16 * a1))) (by omega) (by omega) (by omega)) (by omega) ⟨by decide, by decide⟩ (by simp only [zsp]; omega)
    have hZ18U : zU [] Z Z18 := zU_u hZ15U hZ18 (Or.inl rfl)
    have hZ18K : zC [2] Z Z18 := zC_u hZ15K hZ18 (zcl_2w (by omega) rfl)
    intro μ9 e9
    replace e9 := e9.trans (zm_wI (Z := Z15) (ν := ν) hZ18 (show ((0 : Nat) : Int) = 0 from rfl) (show ((0 : Nat) : Int) = 0 from rfl) (i3I (y := (1416 + 12 * (Z 2 0 0 (2011 + 16 * a1)))) (i3A (i3A (show (1410 : Int32) = i3 1410 from rfl) (i3M (show (12 : Int32) = i3 12 from rfl) (zm_rd (Z := Z) (ν := ν) (k := 2) (show ((0 : Nat) : Int) = 0 from rfl) (show ((0 : Nat) : Int) = 0 from rfl) (i3I (y := (2011 + 16 * a1)) (i3A (i3A (show (2010 : Int32) = i3 2010 from rfl) (i3M (show (16 : Int32) = i3 16 from rfl) (rfl : i3 a1 = i3 a1))) (show (1 : Int32) = i3 1 from rfl)) (by omega) (by omega) (by omega))))) (show (6 : Int32) = i3 6 from rfl)) (by omega) (by omega) (by omega)) (i3W (i3A (zm_rd (Z := Z15) (ν := ν) (k := 2) (show ((0 : Nat) : Int) = 0 from rfl) (show ((0 : Nat) : Int) = 0 from rfl) (i3I (y := (1416 + 12 * (Z 2 0 0 (2011 + 16 * a1)))) (i3A (i3A (show (1410 : Int32) = i3 1410 from rfl) (i3M (show (12 : Int32) = i3 12 from rfl) (zm_rd (Z := Z) (ν := ν) (k := 2) (show ((0 : Nat) : Int) = 0 from rfl) (show ((0 : Nat) : Int) = 0 from rfl) (i3I (y := (2011 + 16 * a1)) (i3A (i3A (show (2010 : Int32) = i3 2010 from rfl) (i3M (show (16 : Int32) = i3 16 from rfl) (rfl : i3 a1 = i3 a1))) (show (1 : Int32) = i3 1 from rfl)) (by omega) (by omega) (by omega))))) (show (6 : Int32) = i3 6 from rfl)) (by omega) (by omega) (by omega))) (rfl : i3 a2 = i3 a2))))
    subst e9
    exact zlV hP ⟨hZ18I, hZ18K, hZ18U⟩
/- yX12_kJudges -/
def zl_408_1 (x1 : Int) (x2 : Int) (x3 : Int) (x4 : Int) (x5 : Int) : Nat → qz_Z → Int → qz_Z × Int
  | 0, Z, x6 => (Z, x6)
  | m + 1, Z, x6 => (if 3 ≤ x6 then (Z, x6) else (zlet (zf_423 Z x2 x3 0) (fun v10 => (zlet (zf_423 Z x2 x3 1) (fun v12 => (zlet (zf_423 Z x2 x3 2) (fun v14 => (if ((v10 + v12) + v14) ≠ 0 then (zlet (zf_418 Z x5 v10 v12 v14 x6) (fun v17 => (zlet (zu Z 2 0 0 (3854 + 8 * x1 + x6) v17) (fun Z18 => zl_408_1 x1 x2 x3 x4 x5 m Z18 (x6 + 1))))) else (zlet (zf_418 Z x5 v10 1 v14 x6) (fun v35 => (zlet (zu Z 2 0 0 (3854 + 8 * x1 + x6) v35) (fun Z36 => zl_408_1 x1 x2 x3 x4 x5 m Z36 (x6 + 1)))))))))))))
theorem sl_408_1 {s : zSM} {Zs Z : qz_Z} {ν : qz_N} (hZ : zM s Z) (hM : s.2 + 0 ≤ 1000000000) (hK : zC [2] Zs Z) {x1 : Int} (gx1 : 0 ≤ x1 ∧ x1 ≤ 11) {x2 : Int} (gx2 : 0 ≤ x2 ∧ x2 ≤ 59) {x3 : Int} (gx3 : 0 ≤ x3 ∧ x3 ≤ 3) {x4 : Int} (gx4 : 0 ≤ x4 ∧ x4 ≤ 47) {x5 : Int} (gx5 : 1 ≤ x5 ∧ x5 ≤ 15998400) {x6 : Int} (gx6 : 0 ≤ x6 ∧ x6 ≤ 3) (hU : zU [] Zs Z) (gr0 : Z 2 0 0 (2018 + 16 * x2) ≤ Z 2 0 0 (2024 + 16 * x2)) (gr1 : Z 2 0 0 (2024 + 16 * x2) ≤ Z 2 0 0 (2021 + 16 * x2)) (gr2 : 0 ≤ Z 2 0 0 (2025 + 16 * x2)) (gr3 : Z 2 0 0 (2025 + 16 * x2) ≤ Z 2 0 0 (2022 + 16 * x2)) (gr4 : Z 2 0 0 (2016 + 16 * x2) ≤ Z 2 0 0 (2023 + 16 * x2)) (gr5 : Z 2 0 0 (2023 + 16 * x2) ≤ Z 2 0 0 (40 + x2)) {k : wz_K} {R : wz_R} {L : qz_L} (hL : qz_fg [true, true, true, true, true, true, true] L = [some (.inr (.inr (some (1, 0, 0)))), some (.inl (i3 x1)), some (.inl (i3 x2)), some (.inl (i3 x3)), some (.inl (i3 x4)), some (.inl (i3 x5)), some (.inl (i3 x6))]) {T : qz_Z × Int} (hP : zE T (zl_408_1 x1 x2 x3 x4 x5 ((3 - x6).toNat + 1) Z x6)) (hk : ∀ (L9 : qz_L) (Z9 : qz_Z) (yx6 : Int), qz_fg [true, true, true, false, true, true, false] L9 = [some (.inr (.inr (some (1, 0, 0)))), some (.inl (i3 x1)), some (.inl (i3 x2)), none, some (.inl (i3 x4)), some (.inl (i3 x5)), none] → zM s Z9 → zC [2] Zs Z9 → zU [] Zs Z9 → (0 ≤ yx6 ∧ yx6 ≤ 3) → (Z9 2 0 0 (2018 + 16 * x2) ≤ Z9 2 0 0 (2024 + 16 * x2)) → (Z9 2 0 0 (2024 + 16 * x2) ≤ Z9 2 0 0 (2021 + 16 * x2)) → (0 ≤ Z9 2 0 0 (2025 + 16 * x2)) → (Z9 2 0 0 (2025 + 16 * x2) ≤ Z9 2 0 0 (2022 + 16 * x2)) → (Z9 2 0 0 (2016 + 16 * x2) ≤ Z9 2 0 0 (2023 + 16 * x2)) → (Z9 2 0 0 (2023 + 16 * x2) ≤ Z9 2 0 0 (40 + x2)) → zE T ((Z9, yx6)) → k 0 (L9, [], zm Z9 ν)) : wz_loop qb_408_1 65536 k R (L, [], zm Z ν) := by
  refine wz_lp sb_408_1 (fun m x => ∃ Z : qz_Z, ∃ x6 : Int, qz_fg [true, true, true, true, true, true, true] x.1 = [some (.inr (.inr (some (1, 0, 0)))), some (.inl (i3 x1)), some (.inl (i3 x2)), some (.inl (i3 x3)), some (.inl (i3 x4)), some (.inl (i3 x5)), some (.inl (i3 x6))] ∧ x.2 = ([], zm Z ν) ∧ zM s Z ∧ zC [2] Zs Z ∧ zU [] Zs Z ∧ m = (3 - x6).toNat ∧ (0 ≤ x6 ∧ x6 ≤ 3) ∧ (Z 2 0 0 (2018 + 16 * x2) ≤ Z 2 0 0 (2024 + 16 * x2)) ∧ (Z 2 0 0 (2024 + 16 * x2) ≤ Z 2 0 0 (2021 + 16 * x2)) ∧ (0 ≤ Z 2 0 0 (2025 + 16 * x2)) ∧ (Z 2 0 0 (2025 + 16 * x2) ≤ Z 2 0 0 (2022 + 16 * x2)) ∧ (Z 2 0 0 (2016 + 16 * x2) ≤ Z 2 0 0 (2023 + 16 * x2)) ∧ (Z 2 0 0 (2023 + 16 * x2) ≤ Z 2 0 0 (40 + x2)) ∧ zE T (zl_408_1 x1 x2 x3 x4 x5 (m + 1) Z x6)) ?_ 65536 ((3 - x6).toNat) _ (by omega) ⟨Z, x6, hL, rfl, hZ, hK, hU, rfl, gx6, gr0, gr1, gr2, gr3, gr4, gr5, hP⟩
  clear hP gr0 gr1 gr2 gr3 gr4 gr5 gx6 hZ hK hU hL
  clear x6
  clear Z
  rintro m ⟨L, st, μ⟩ ⟨Z, x6, hL, hx, hZ, hK, hU, hm, gx6, gr0, gr1, gr2, gr3, gr4, gr5, hP⟩
  cases hx
  refine fb_408_1 (i3 x1) (i3 x2) (i3 x3) (i3 x4) (i3 x5) (i3 x6) _ _ _ _ hL ?_
  have r1 := zM_k hZ 2 0 0 (2018 + 16 * x2) (lo := 0) (hi := 2000) (by decide) (zs_2010_8 (x := x2) (by omega) (by omega) (by omega))
  have r2 := zM_k hZ 2 0 0 (2024 + 16 * x2) (lo := -1) (hi := 2000) (by decide) (zs_2010_14 (x := x2) (by omega) (by omega) (by omega))
  have r3 := zM_k hZ 2 0 0 (2021 + 16 * x2) (lo := 0) (hi := 2000) (by decide) (zs_2010_11 (x := x2) (by omega) (by omega) (by omega))
  have r4 := zM_k hZ 2 0 0 (2025 + 16 * x2) (lo := -1) (hi := 999) (by decide) (zs_2010_15 (x := x2) (by omega) (by omega) (by omega))
  have r5 := zM_k hZ 2 0 0 (2022 + 16 * x2) (lo := 0) (hi := 999) (by decide) (zs_2010_12 (x := x2) (by omega) (by omega) (by omega))
  have r6 := zM_k hZ 2 0 0 (2016 + 16 * x2) (lo := 0) (hi := 671) (by decide) (zs_2010_6 (x := x2) (by omega) (by omega) (by omega))
  have r7 := zM_k hZ 2 0 0 (2023 + 16 * x2) (lo := -1) (hi := 671) (by decide) (zs_2010_13 (x := x2) (by omega) (by omega) (by omega))
  have r8 := zM_k hZ 2 0 0 (40 + x2) (lo := -1) (hi := 671) (by decide) (zs_40 (by omega) (by omega))
  refine wz_br (i3Le (show (3 : Int32) = i3 3 from rfl) (rfl : i3 x6 = i3 x6) (by omega) (by omega) (by omega) (by omega)) (fun h9 => ?_) (fun h9 => ?_)
  · replace hP := zE_p hP h9
    exact hk _ _ _ (zconso rfl (zconso (zvo (rfl : i3 x1 = i3 x1)) (zconso (zvo (rfl : i3 x2 = i3 x2)) (zconso rfl (zconso (zvo (rfl : i3 x4 = i3 x4)) (zconso (zvo (rfl : i3 x5 = i3 x5)) (zconso rfl rfl))))))) hZ hK hU (by omega) (by omega) (by omega) (by omega) (by omega) (by omega) (by omega) hP
  · replace hP := zE_n hP h9
    obtain ⟨v10, hv10, c9, lv10, uv10, wv100⟩ := sp_423 (ν := ν) hZ (a1 := x2) (by omega) (a2 := x3) (by omega) (a3 := 0) (by omega) (by omega) (by omega) (by omega) (by omega) (by omega) (by omega) (zbh (c := 0) (k := 0) hM (Nat.le_of_ble_eq_true rfl))
    replace hP := zl_e hP hv10
    refine wz_cI_of (zas (zcons rfl (zcons (zvi (rfl : i3 x2 = i3 x2)) (zcons (zvi (rfl : i3 x3 = i3 x3)) (zcons (zvi (show (0 : Int32) = i3 0 from rfl)) rfl)))) c9) ?_
    clear c9
    have w11 : 0 ≤ v10 := wv100
    obtain ⟨v12, hv12, c9, lv12, uv12, wv120⟩ := sp_423 (ν := ν) hZ (a1 := x2) (by omega) (a2 := x3) (by omega) (a3 := 1) (by omega) (by omega) (by omega) (by omega) (by omega) (by omega) (by omega) (zbh (c := 0) (k := 0) hM (Nat.le_of_ble_eq_true rfl))
    replace hP := zl_e hP hv12
    refine wz_cI_of (zas (zcons rfl (zcons (zvi (rfl : i3 x2 = i3 x2)) (zcons (zvi (rfl : i3 x3 = i3 x3)) (zcons (zvi (show (1 : Int32) = i3 1 from rfl)) rfl)))) c9) ?_
    clear c9
    have w13 : 0 ≤ v12 := wv120
    obtain ⟨v14, hv14, c9, lv14, uv14, wv140⟩ := sp_423 (ν := ν) hZ (a1 := x2) (by omega) (a2 := x3) (by omega) (a3 := 2) (by omega) (by omega) (by omega) (by omega) (by omega) (by omega) (by omega) (zbh (c := 0) (k := 0) hM (Nat.le_of_ble_eq_true rfl))
    replace hP := zl_e hP hv14
    refine wz_cI_of (zas (zcons rfl (zcons (zvi (rfl : i3 x2 = i3 x2)) (zcons (zvi (rfl : i3 x3 = i3 x3)) (zcons (zvi (show (2 : Int32) = i3 2 from rfl)) rfl)))) c9) ?_
    clear c9
    have w15 : 0 ≤ v14 := wv140
    refine wz_br (i3NE (i3A (i3A (rfl : i3 v10 = i3 v10) (rfl : i3 v12 = i3 v12)) (rfl : i3 v14 = i3 v14)) (show (0 : Int32) = i3 0 from rfl) (by omega) (by omega) (by omega) (by omega)) (fun h16 => ?_) (fun h16 => ?_)
    · replace hP := zE_p hP h16
      obtain ⟨v17, hv17, c9, lv17, uv17⟩ := sp_418 (ν := ν) hZ (a0 := x5) (by omega) (a1 := v10) (by omega) (a2 := v12) (by omega) (a3 := v14) (by omega) (a4 := x6) (by omega) (by omega) (zbh (c := 0) (k := 0) hM (Nat.le_of_ble_eq_true rfl))
      replace hP := zl_e hP hv17
      refine wz_cI_of (zas (zcons (zvi (rfl : i3 x5 = i3 x5)) (zcons (zvi (rfl : i3 v10 = i3 v10)) (zcons (zvi (rfl : i3 v12 = i3 v12)) (zcons (zvi (rfl : i3 v14 = i3 v14)) (zcons (zvi (rfl : i3 x6 = i3 x6)) rfl))))) c9) ?_
      clear c9
      refine wz_i0 (i3O (n := 4400) (i3A (i3A (show (3850 : Int32) = i3 3850 from rfl) (i3M (show (8 : Int32) = i3 8 from rfl) (rfl : i3 x1 = i3 x1))) (i3A (show (4 : Int32) = i3 4 from rfl) (rfl : i3 x6 = i3 x6))) (by omega) (by omega) (by omega)) ?_
      obtain ⟨Z18, hZ18⟩ := zx (zu Z 2 0 0 (3854 + 8 * x1 + x6) v17)
      replace hP := zl_e hP hZ18
      have hZ18I := zM_u2 hZ hZ18 (lo := -2147483648) (hi := 2147483647) (zsx (zsb_3850 (by omega) (by omega)) (c0 := 4) (n := 3) (by decide +kernel) (by omega) (by omega)) (by omega) ⟨by decide, by decide⟩ (by simp only [zsp]; omega)
      have hZ18U : zU [] Zs Z18 := zU_u hU hZ18 (Or.inl rfl)
      have hZ18K : zC [2] Zs Z18 := zC_u hK hZ18 (zcl_2w (by omega) rfl)
      intro μ9 e9
      replace e9 := e9.trans (zm_wI (Z := Z) (ν := ν) hZ18 (show ((0 : Nat) : Int) = 0 from rfl) (show ((0 : Nat) : Int) = 0 from rfl) (i3I (y := (3854 + 8 * x1 + x6)) (i3A (i3A (show (3850 : Int32) = i3 3850 from rfl) (i3M (show (8 : Int32) = i3 8 from rfl) (rfl : i3 x1 = i3 x1))) (i3A (show (4 : Int32) = i3 4 from rfl) (rfl : i3 x6 = i3 x6))) (by omega) (by omega) (by omega)) (rfl : i3 v17 = i3 v17))
      subst e9
      have r19 := zM_k hZ18I 2 0 0 (2018 + 16 * x2) (lo := 0) (hi := 2000) (by decide) (zs_2010_8 (x := x2) (by omega) (by omega) (by omega))
      have q20 := zu_ne (k' := 2) (b' := 0) (i' := 0) (j' := (2018 + 16 * x2)) hZ18 (fun q => absurd q.2.2.2 (by omega))
      have r21 := zM_k hZ18I 2 0 0 (2024 + 16 * x2) (lo := -1) (hi := 2000) (by decide) (zs_2010_14 (x := x2) (by omega) (by omega) (by omega))
      have q22 := zu_ne (k' := 2) (b' := 0) (i' := 0) (j' := (2024 + 16 * x2)) hZ18 (fun q => absurd q.2.2.2 (by omega))
      have r23 := zM_k hZ18I 2 0 0 (2021 + 16 * x2) (lo := 0) (hi := 2000) (by decide) (zs_2010_11 (x := x2) (by omega) (by omega) (by omega))
      have q24 := zu_ne (k' := 2) (b' := 0) (i' := 0) (j' := (2021 + 16 * x2)) hZ18 (fun q => absurd q.2.2.2 (by omega))
      have r25 := zM_k hZ18I 2 0 0 (2025 + 16 * x2) (lo := -1) (hi := 999) (by decide) (zs_2010_15 (x := x2) (by omega) (by omega) (by omega))
      have q26 := zu_ne (k' := 2) (b' := 0) (i' := 0) (j' := (2025 + 16 * x2)) hZ18 (fun q => absurd q.2.2.2 (by omega))
      have r27 := zM_k hZ18I 2 0 0 (2022 + 16 * x2) (lo := 0) (hi := 999) (by decide) (zs_2010_12 (x := x2) (by omega) (by omega) (by omega))
      have q28 := zu_ne (k' := 2) (b' := 0) (i' := 0) (j' := (2022 + 16 * x2)) hZ18 (fun q => absurd q.2.2.2 (by omega))
      have r29 := zM_k hZ18I 2 0 0 (2016 + 16 * x2) (lo := 0) (hi := 671) (by decide) (zs_2010_6 (x := x2) (by omega) (by omega) (by omega))
      have q30 := zu_ne (k' := 2) (b' := 0) (i' := 0) (j' := (2016 + 16 * x2)) hZ18 (fun q => absurd q.2.2.2 (by omega))
      have r31 := zM_k hZ18I 2 0 0 (2023 + 16 * x2) (lo := -1) (hi := 671) (by decide) (zs_2010_13 (x := x2) (by omega) (by omega) (by omega))
      have q32 := zu_ne (k' := 2) (b' := 0) (i' := 0) (j' := (2023 + 16 * x2)) hZ18 (fun q => absurd q.2.2.2 (by omega))
      have r33 := zM_k hZ18I 2 0 0 (40 + x2) (lo := -1) (hi := 671) (by decide) (zs_40 (by omega) (by omega))
      have q34 := zu_ne (k' := 2) (b' := 0) (i' := 0) (j' := (40 + x2)) hZ18 (fun q => absurd q.2.2.2 (by omega))
      obtain ⟨m2, rfl⟩ : ∃ m2, m = m2 + 1 := ⟨m - 1, by omega⟩
      exact wz_k1 ⟨m2, by omega, Z18, (x6 + 1), (zconso rfl (zconso (zvo (rfl : i3 x1 = i3 x1)) (zconso (zvo (rfl : i3 x2 = i3 x2)) (zconso (zvo (rfl : i3 x3 = i3 x3)) (zconso (zvo (rfl : i3 x4 = i3 x4)) (zconso (zvo (rfl : i3 x5 = i3 x5)) (zconso (zvo (i3A (rfl : i3 x6 = i3 x6) (show (1 : Int32) = i3 1 from rfl))) rfl))))))), rfl, hZ18I, hZ18K, hZ18U, by omega, by omega, by omega, by omega, by omega, by omega, by omega, by omega,  hP⟩
    · replace hP := zE_n hP h16
      obtain ⟨v35, hv35, c9, lv35, uv35⟩ := sp_418 (ν := ν) hZ (a0 := x5) (by omega) (a1 := v10) (by omega) (a2 := 1) (by omega) (a3 := v14) (by omega) (a4 := x6) (by omega) (by omega) (zbh (c := 0) (k := 0) hM (Nat.le_of_ble_eq_true rfl))
      replace hP := zl_e hP hv35
      refine wz_cI_of (zas (zcons (zvi (rfl : i3 x5 = i3 x5)) (zcons (zvi (rfl : i3 v10 = i3 v10)) (zcons (zvi (show (1 : Int32) = i3 1 from rfl)) (zcons (zvi (rfl : i3 v14 = i3 v14)) (zcons (zvi (rfl : i3 x6 = i3 x6)) rfl))))) c9) ?_
      clear c9
      refine wz_i0 (i3O (n := 4400) (i3A (i3A (show (3850 : Int32) = i3 3850 from rfl) (i3M (show (8 : Int32) = i3 8 from rfl) (rfl : i3 x1 = i3 x1))) (i3A (show (4 : Int32) = i3 4 from rfl) (rfl : i3 x6 = i3 x6))) (by omega) (by omega) (by omega)) ?_
      obtain ⟨Z36, hZ36⟩ := zx (zu Z 2 0 0 (3854 + 8 * x1 + x6) v35)
      replace hP := zl_e hP hZ36
      have hZ36I := zM_u2 hZ hZ36 (lo := -2147483648) (hi := 2147483647) (zsx (zsb_3850 (by omega) (by omega)) (c0 := 4) (n := 3) (by decide +kernel) (by omega) (by omega)) (by omega) ⟨by decide, by decide⟩ (by simp only [zsp]; omega)
      have hZ36U : zU [] Zs Z36 := zU_u hU hZ36 (Or.inl rfl)
      have hZ36K : zC [2] Zs Z36 := zC_u hK hZ36 (zcl_2w (by omega) rfl)
      intro μ9 e9
      replace e9 := e9.trans (zm_wI (Z := Z) (ν := ν) hZ36 (show ((0 : Nat) : Int) = 0 from rfl) (show ((0 : Nat) : Int) = 0 from rfl) (i3I (y := (3854 + 8 * x1 + x6)) (i3A (i3A (show (3850 : Int32) = i3 3850 from rfl) (i3M (show (8 : Int32) = i3 8 from rfl) (rfl : i3 x1 = i3 x1))) (i3A (show (4 : Int32) = i3 4 from rfl) (rfl : i3 x6 = i3 x6))) (by omega) (by omega) (by omega)) (rfl : i3 v35 = i3 v35))
      subst e9
      have r37 := zM_k hZ36I 2 0 0 (2018 + 16 * x2) (lo := 0) (hi := 2000) (by decide) (zs_2010_8 (x := x2) (by omega) (by omega) (by omega))
      have q38 := zu_ne (k' := 2) (b' := 0) (i' := 0) (j' := (2018 + 16 * x2)) hZ36 (fun q => absurd q.2.2.2 (by omega))
      have r39 := zM_k hZ36I 2 0 0 (2024 + 16 * x2) (lo := -1) (hi := 2000) (by decide) (zs_2010_14 (x := x2) (by omega) (by omega) (by omega))
      have q40 := zu_ne (k' := 2) (b' := 0) (i' := 0) (j' := (2024 + 16 * x2)) hZ36 (fun q => absurd q.2.2.2 (by omega))
      have r41 := zM_k hZ36I 2 0 0 (2021 + 16 * x2) (lo := 0) (hi := 2000) (by decide) (zs_2010_11 (x := x2) (by omega) (by omega) (by omega))
      have q42 := zu_ne (k' := 2) (b' := 0) (i' := 0) (j' := (2021 + 16 * x2)) hZ36 (fun q => absurd q.2.2.2 (by omega))
      have r43 := zM_k hZ36I 2 0 0 (2025 + 16 * x2) (lo := -1) (hi := 999) (by decide) (zs_2010_15 (x := x2) (by omega) (by omega) (by omega))
      have q44 := zu_ne (k' := 2) (b' := 0) (i' := 0) (j' := (2025 + 16 * x2)) hZ36 (fun q => absurd q.2.2.2 (by omega))
      have r45 := zM_k hZ36I 2 0 0 (2022 + 16 * x2) (lo := 0) (hi := 999) (by decide) (zs_2010_12 (x := x2) (by omega) (by omega) (by omega))
      have q46 := zu_ne (k' := 2) (b' := 0) (i' := 0) (j' := (2022 + 16 * x2)) hZ36 (fun q => absurd q.2.2.2 (by omega))
      have r47 := zM_k hZ36I 2 0 0 (2016 + 16 * x2) (lo := 0) (hi := 671) (by decide) (zs_2010_6 (x := x2) (by omega) (by omega) (by omega))
      have q48 := zu_ne (k' := 2) (b' := 0) (i' := 0) (j' := (2016 + 16 * x2)) hZ36 (fun q => absurd q.2.2.2 (by omega))
      have r49 := zM_k hZ36I 2 0 0 (2023 + 16 * x2) (lo := -1) (hi := 671) (by decide) (zs_2010_13 (x := x2) (by omega) (by omega) (by omega))
      have q50 := zu_ne (k' := 2) (b' := 0) (i' := 0) (j' := (2023 + 16 * x2)) hZ36 (fun q => absurd q.2.2.2 (by omega))
      have r51 := zM_k hZ36I 2 0 0 (40 + x2) (lo := -1) (hi := 671) (by decide) (zs_40 (by omega) (by omega))
      have q52 := zu_ne (k' := 2) (b' := 0) (i' := 0) (j' := (40 + x2)) hZ36 (fun q => absurd q.2.2.2 (by omega))
      obtain ⟨m2, rfl⟩ : ∃ m2, m = m2 + 1 := ⟨m - 1, by omega⟩
      exact wz_k1 ⟨m2, by omega, Z36, (x6 + 1), (zconso rfl (zconso (zvo (rfl : i3 x1 = i3 x1)) (zconso (zvo (rfl : i3 x2 = i3 x2)) (zconso (zvo (rfl : i3 x3 = i3 x3)) (zconso (zvo (rfl : i3 x4 = i3 x4)) (zconso (zvo (rfl : i3 x5 = i3 x5)) (zconso (zvo (i3A (rfl : i3 x6 = i3 x6) (show (1 : Int32) = i3 1 from rfl))) rfl))))))), rfl, hZ36I, hZ36K, hZ36U, by omega, by omega, by omega, by omega, by omega, by omega, by omega, by omega,  hP⟩
/- yX12_kJudges -/
def zf_408 (Z : qz_Z) (a1 : Int) : qz_Z := (zlet (zf_398 Z (Z 2 0 0 (3850 + 8 * a1)) (Z 2 0 0 (3851 + 8 * a1))) (fun v16 => (if v16 ≠ 0 then (zlet (zu Z 2 0 0 (3852 + 8 * a1) 2) (fun Z18 => (zlet (zu Z18 2 0 0 (3853 + 8 * a1) v16) (fun Z19 => (zlet2 (zl_408_1 a1 (Z 2 0 0 (3850 + 8 * a1)) (Z 2 0 0 (3851 + 8 * a1)) (Z 2 0 0 (2010 + 16 * (Z 2 0 0 (3850 + 8 * a1)))) v16 4 Z19 0) (fun Z22 y21 => (zlet (zf_272 Z22 (Z 2 0 0 (3850 + 8 * a1)) v16) (fun Z48 => (zlet (zf_403 Z48 1 8 v16 (Z 2 0 0 (2010 + 16 * (Z 2 0 0 (3850 + 8 * a1))))) (fun Z49 => (zlet (zf_403 Z49 8 2 (Z48 2 0 0 (3854 + 8 * a1)) (Z 2 0 0 (2010 + 16 * (Z 2 0 0 (3850 + 8 * a1))))) (fun Z51 => (zlet (zu Z51 2 0 0 (3820 + 5 * (Z51 2 0 0 (200 + 20 * (Z51 2 0 0 (2010 + 16 * (Z 2 0 0 (3850 + 8 * a1))))))) (w3 ((Z51 2 0 0 (3820 + 5 * (Z51 2 0 0 (200 + 20 * (Z51 2 0 0 (2010 + 16 * (Z 2 0 0 (3850 + 8 * a1)))))))) - (Z48 2 0 0 (3854 + 8 * a1))))) (fun Z56 => (zlet (zu Z56 2 0 0 (3823 + 5 * (Z56 2 0 0 (200 + 20 * (Z56 2 0 0 (2010 + 16 * (Z 2 0 0 (3850 + 8 * a1))))))) (w3 ((Z56 2 0 0 (3823 + 5 * (Z56 2 0 0 (200 + 20 * (Z56 2 0 0 (2010 + 16 * (Z 2 0 0 (3850 + 8 * a1)))))))) + (Z48 2 0 0 (3854 + 8 * a1))))) (fun Z62 => (zlet (zf_403 Z62 8 0 (Z62 2 0 0 (3856 + 8 * a1)) (Z 2 0 0 (2010 + 16 * (Z 2 0 0 (3850 + 8 * a1))))) (fun Z64 => Z64)))))))))))))))))) else (zlet (zu Z 2 0 0 (3852 + 8 * a1) 1) (fun Z65 => Z65)))))
theorem sp_408 {s : zSM} {Z : qz_Z} {ν : qz_N} (hZ : zM s Z) {a1 : Int} (ga1 : 0 ≤ a1 ∧ a1 ≤ 11) (gx0 : a1 < Z 2 0 0 3815) (gx1 : Z 2 0 0 (2018 + 16 * Z 2 0 0 (3850 + 8 * a1)) ≤ Z 2 0 0 (2024 + 16 * Z 2 0 0 (3850 + 8 * a1))) (gx2 : Z 2 0 0 (2024 + 16 * Z 2 0 0 (3850 + 8 * a1)) ≤ Z 2 0 0 (2021 + 16 * Z 2 0 0 (3850 + 8 * a1))) (gx3 : 0 ≤ Z 2 0 0 (2025 + 16 * Z 2 0 0 (3850 + 8 * a1))) (gx4 : Z 2 0 0 (2025 + 16 * Z 2 0 0 (3850 + 8 * a1)) ≤ Z 2 0 0 (2022 + 16 * Z 2 0 0 (3850 + 8 * a1))) (gx5 : Z 2 0 0 (2016 + 16 * Z 2 0 0 (3850 + 8 * a1)) ≤ Z 2 0 0 (2023 + 16 * Z 2 0 0 (3850 + 8 * a1))) (gx6 : Z 2 0 0 (2023 + 16 * Z 2 0 0 (3850 + 8 * a1)) ≤ Z 2 0 0 (40 + Z 2 0 0 (3850 + 8 * a1))) (hM : s.2 + 3 ≤ 1000000000) : ∃ P : qz_Z, P = zf_408 Z a1 ∧ (qf_408 [.inr (.inr (some (1, 0, 0))), .inl (i3 a1)] (zm Z ν) = some (zm P ν, .inl none) ∧ zM (zb s 3) P ∧ zC [2] Z P ∧ zU [] Z P) := by
  obtain ⟨P, hP⟩ := zx (zf_408 Z a1)
  refine zc_V (Q := fun P => zM (zb s 3) P ∧ zC [2] Z P ∧ zU [] Z P) hP (fw_408 (i3 a1) _ _ ?_)
  replace hP : zE P (zf_408 Z a1) := hP
  unfold zf_408 at hP
  have r1 := zM_qc hZ a1 (by omega) (by omega) gx0
  have r2 := zM_k hZ 2 0 0 3815 (lo := 0) (hi := 12) (by decide) rfl
  have r3 := zM_k hZ 2 0 0 (3850 + 8 * a1) (lo := 0) (hi := 59) (by decide) (zs_3850_0 (x := a1) (by omega) (by omega) (by omega))
  have r4 := zM_k hZ 2 0 0 (2018 + 16 * (Z 2 0 0 (3850 + 8 * a1))) (lo := 0) (hi := 2000) (by decide) (zs_2010_8 (x := (Z 2 0 0 (3850 + 8 * a1))) (by omega) (by omega) (by omega))
  have r5 := zM_k hZ 2 0 0 (2024 + 16 * (Z 2 0 0 (3850 + 8 * a1))) (lo := -1) (hi := 2000) (by decide) (zs_2010_14 (x := (Z 2 0 0 (3850 + 8 * a1))) (by omega) (by omega) (by omega))
  have r6 := zM_k hZ 2 0 0 (2021 + 16 * (Z 2 0 0 (3850 + 8 * a1))) (lo := 0) (hi := 2000) (by decide) (zs_2010_11 (x := (Z 2 0 0 (3850 + 8 * a1))) (by omega) (by omega) (by omega))
  have r7 := zM_k hZ 2 0 0 (2025 + 16 * (Z 2 0 0 (3850 + 8 * a1))) (lo := -1) (hi := 999) (by decide) (zs_2010_15 (x := (Z 2 0 0 (3850 + 8 * a1))) (by omega) (by omega) (by omega))
  have r8 := zM_k hZ 2 0 0 (2022 + 16 * (Z 2 0 0 (3850 + 8 * a1))) (lo := 0) (hi := 999) (by decide) (zs_2010_12 (x := (Z 2 0 0 (3850 + 8 * a1))) (by omega) (by omega) (by omega))
  have r9 := zM_k hZ 2 0 0 (2016 + 16 * (Z 2 0 0 (3850 + 8 * a1))) (lo := 0) (hi := 671) (by decide) (zs_2010_6 (x := (Z 2 0 0 (3850 + 8 * a1))) (by omega) (by omega) (by omega))
  have r10 := zM_k hZ 2 0 0 (2023 + 16 * (Z 2 0 0 (3850 + 8 * a1))) (lo := -1) (hi := 671) (by decide) (zs_2010_13 (x := (Z 2 0 0 (3850 + 8 * a1))) (by omega) (by omega) (by omega))
  have r11 := zM_k hZ 2 0 0 (40 + (Z 2 0 0 (3850 + 8 * a1))) (lo := -1) (hi := 671) (by decide) (zs_40 (by omega) (by omega))
  refine wz_i0 (i3O (n := 4400) (i3A (i3A (show (3850 : Int32) = i3 3850 from rfl) (i3M (show (8 : Int32) = i3 8 from rfl) (rfl : i3 a1 = i3 a1))) (show (0 : Int32) = i3 0 from rfl)) (by omega) (by omega) (by omega)) ?_
  refine wz_i0 (i3O (n := 4400) (i3A (i3A (show (3850 : Int32) = i3 3850 from rfl) (i3M (show (8 : Int32) = i3 8 from rfl) (rfl : i3 a1 = i3 a1))) (show (1 : Int32) = i3 1 from rfl)) (by omega) (by omega) (by omega)) ?_
  refine wz_i0 (i3O (n := 4400) (i3A (i3A (show (2010 : Int32) = i3 2010 from rfl) (i3M (show (16 : Int32) = i3 16 from rfl) (zm_rd (Z := Z) (ν := ν) (k := 2) (show ((0 : Nat) : Int) = 0 from rfl) (show ((0 : Nat) : Int) = 0 from rfl) (i3I (y := (3850 + 8 * a1)) (i3A (i3A (show (3850 : Int32) = i3 3850 from rfl) (i3M (show (8 : Int32) = i3 8 from rfl) (rfl : i3 a1 = i3 a1))) (show (0 : Int32) = i3 0 from rfl)) (by omega) (by omega) (by omega))))) (show (0 : Int32) = i3 0 from rfl)) (by omega) (by omega) (by omega)) ?_
  have r12 := zM_k hZ 2 0 0 (3851 + 8 * a1) (lo := 0) (hi := 3) (by decide) (zs_3850_1 (x := a1) (by omega) (by omega) (by omega))
  have r13 := zM_k hZ 2 0 0 (2013 + 16 * (Z 2 0 0 (3850 + 8 * a1))) (lo := 0) (hi := 40) (by decide) (zs_2010_3 (x := (Z 2 0 0 (3850 + 8 * a1))) (by omega) (by omega) (by omega))
  have r14 := zM_cr hZ (Z 2 0 0 (3850 + 8 * a1))
  have r15 := zM_k hZ 2 0 0 2000 (lo := 0) (hi := 60) (by decide) rfl
  obtain ⟨v16, hv16, c9, lv16, uv16⟩ := sp_398 (ν := ν) hZ (a1 := (Z 2 0 0 (3850 + 8 * a1))) (by omega) (a2 := (Z 2 0 0 (3851 + 8 * a1))) (by omega) (by omega) (zbh (c := 0) (k := 0) hM (Nat.le_of_ble_eq_true rfl))
  replace hP := zl_e hP hv16
  refine wz_cI_of (zas (zcons rfl (zcons (zvi (zm_rd (Z := Z) (ν := ν) (k := 2) (show ((0 : Nat) : Int) = 0 from rfl) (show ((0 : Nat) : Int) = 0 from rfl) (i3I (y := (3850 + 8 * a1)) (i3A (i3A (show (3850 : Int32) = i3 3850 from rfl) (i3M (show (8 : Int32) = i3 8 from rfl) (rfl : i3 a1 = i3 a1))) (show (0 : Int32) = i3 0 from rfl)) (by omega) (by omega) (by omega)))) (zcons (zvi (zm_rd (Z := Z) (ν := ν) (k := 2) (show ((0 : Nat) : Int) = 0 from rfl) (show ((0 : Nat) : Int) = 0 from rfl) (i3I (y := (3851 + 8 * a1)) (i3A (i3A (show (3850 : Int32) = i3 3850 from rfl) (i3M (show (8 : Int32) = i3 8 from rfl) (rfl : i3 a1 = i3 a1))) (show (1 : Int32) = i3 1 from rfl)) (by omega) (by omega) (by omega)))) rfl))) c9) ?_
  clear c9
  refine wz_br (i3NE (rfl : i3 v16 = i3 v16) (show (0 : Int32) = i3 0 from rfl) (by omega) (by omega) (by omega) (by omega)) (fun h17 => ?_) (fun h17 => ?_)
  · replace hP := zE_p hP h17
    refine wz_i0 (i3O (n := 4400) (i3A (i3A (show (3850 : Int32) = i3 3850 from rfl) (i3M (show (8 : Int32) = i3 8 from rfl) (rfl : i3 a1 = i3 a1))) (show (2 : Int32) = i3 2 from rfl)) (by omega) (by omega) (by omega)) ?_
    obtain ⟨Z18, hZ18⟩ := zx (zu Z 2 0 0 (3852 + 8 * a1) 2)
    replace hP := zl_e hP hZ18
    have hZ18I := zM_u2 hZ hZ18 (lo := 0) (hi := 2) (zs_3850_2 (x := a1) (by omega) (by omega) (by omega)) (by omega) ⟨by decide, by decide⟩ (by simp only [zsp]; omega)
    have hZ18U : zU [] Z Z18 := zU_u zU_r hZ18 (Or.inl rfl)
    have hZ18K : zC [2] Z Z18 := zC_u zC_r hZ18 (zcl_2w (by omega) rfl)
    intro μ9 e9
    replace e9 := e9.trans (zm_wI (Z := Z) (ν := ν) hZ18 (show ((0 : Nat) : Int) = 0 from rfl) (show ((0 : Nat) : Int) = 0 from rfl) (i3I (y := (3852 + 8 * a1)) (i3A (i3A (show (3850 : Int32) = i3 3850 from rfl) (i3M (show (8 : Int32) = i3 8 from rfl) (rfl : i3 a1 = i3 a1))) (show (2 : Int32) = i3 2 from rfl)) (by omega) (by omega) (by omega)) (show (2 : Int32) = i3 2 from rfl))
    subst e9
    refine wz_i1 (Eq.trans (i3NE (rfl : i3 v16 = i3 v16) (show (0 : Int32) = i3 0 from rfl) (by omega) (by omega) (by omega) (by omega)) (decide_eq_true (by omega))) ?_
    refine wz_i0 (i3O (n := 4400) (i3A (i3A (show (3850 : Int32) = i3 3850 from rfl) (i3M (show (8 : Int32) = i3 8 from rfl) (rfl : i3 a1 = i3 a1))) (show (3 : Int32) = i3 3 from rfl)) (by omega) (by omega) (by omega)) ?_
    obtain ⟨Z19, hZ19⟩ := zx (zu Z18 2 0 0 (3853 + 8 * a1) v16)
    replace hP := zl_e hP hZ19
    have hZ19I := zM_u2 hZ18I hZ19 (lo := -2147483648) (hi := 2147483647) (zs_3850_3 (x := a1) (by omega) (by omega) (by omega)) (by omega) ⟨by decide, by decide⟩ (by simp only [zsp]; omega)
    have hZ19U : zU [] Z Z19 := zU_u hZ18U hZ19 (Or.inl rfl)
    have hZ19K : zC [2] Z Z19 := zC_u hZ18K hZ19 (zcl_2w (by omega) rfl)
    intro μ9 e9
    replace e9 := e9.trans (zm_wI (Z := Z18) (ν := ν) hZ19 (show ((0 : Nat) : Int) = 0 from rfl) (show ((0 : Nat) : Int) = 0 from rfl) (i3I (y := (3853 + 8 * a1)) (i3A (i3A (show (3850 : Int32) = i3 3850 from rfl) (i3M (show (8 : Int32) = i3 8 from rfl) (rfl : i3 a1 = i3 a1))) (show (3 : Int32) = i3 3 from rfl)) (by omega) (by omega) (by omega)) (rfl : i3 v16 = i3 v16))
    subst e9
    have r20 := zM_k hZ 2 0 0 (2010 + 16 * (Z 2 0 0 (3850 + 8 * a1))) (lo := 0) (hi := 47) (by decide) (zs_2010_0 (x := (Z 2 0 0 (3850 + 8 * a1))) (by omega) (by omega) (by omega))
    have r23 := zM_k hZ19I 2 0 0 (2018 + 16 * (Z 2 0 0 (3850 + 8 * a1))) (lo := 0) (hi := 2000) (by decide) (zs_2010_8 (x := (Z 2 0 0 (3850 + 8 * a1))) (by omega) (by omega) (by omega))
    have q24 := (zu_ne (k' := 2) (b' := 0) (i' := 0) (j' := (2018 + 16 * (Z 2 0 0 (3850 + 8 * a1)))) hZ19 (fun q => absurd q.2.2.2 (by omega))).trans (zu_ne (k' := 2) (b' := 0) (i' := 0) (j' := (2018 + 16 * (Z 2 0 0 (3850 + 8 * a1)))) hZ18 (fun q => absurd q.2.2.2 (by omega)))
    have r25 := zM_k hZ19I 2 0 0 (2024 + 16 * (Z 2 0 0 (3850 + 8 * a1))) (lo := -1) (hi := 2000) (by decide) (zs_2010_14 (x := (Z 2 0 0 (3850 + 8 * a1))) (by omega) (by omega) (by omega))
    have q26 := (zu_ne (k' := 2) (b' := 0) (i' := 0) (j' := (2024 + 16 * (Z 2 0 0 (3850 + 8 * a1)))) hZ19 (fun q => absurd q.2.2.2 (by omega))).trans (zu_ne (k' := 2) (b' := 0) (i' := 0) (j' := (2024 + 16 * (Z 2 0 0 (3850 + 8 * a1)))) hZ18 (fun q => absurd q.2.2.2 (by omega)))
    have r27 := zM_k hZ19I 2 0 0 (2021 + 16 * (Z 2 0 0 (3850 + 8 * a1))) (lo := 0) (hi := 2000) (by decide) (zs_2010_11 (x := (Z 2 0 0 (3850 + 8 * a1))) (by omega) (by omega) (by omega))
    have q28 := (zu_ne (k' := 2) (b' := 0) (i' := 0) (j' := (2021 + 16 * (Z 2 0 0 (3850 + 8 * a1)))) hZ19 (fun q => absurd q.2.2.2 (by omega))).trans (zu_ne (k' := 2) (b' := 0) (i' := 0) (j' := (2021 + 16 * (Z 2 0 0 (3850 + 8 * a1)))) hZ18 (fun q => absurd q.2.2.2 (by omega)))
    have r29 := zM_k hZ19I 2 0 0 (2025 + 16 * (Z 2 0 0 (3850 + 8 * a1))) (lo := -1) (hi := 999) (by decide) (zs_2010_15 (x := (Z 2 0 0 (3850 + 8 * a1))) (by omega) (by omega) (by omega))
    have q30 := (zu_ne (k' := 2) (b' := 0) (i' := 0) (j' := (2025 + 16 * (Z 2 0 0 (3850 + 8 * a1)))) hZ19 (fun q => absurd q.2.2.2 (by omega))).trans (zu_ne (k' := 2) (b' := 0) (i' := 0) (j' := (2025 + 16 * (Z 2 0 0 (3850 + 8 * a1)))) hZ18 (fun q => absurd q.2.2.2 (by omega)))
    have r31 := zM_k hZ19I 2 0 0 (2022 + 16 * (Z 2 0 0 (3850 + 8 * a1))) (lo := 0) (hi := 999) (by decide) (zs_2010_12 (x := (Z 2 0 0 (3850 + 8 * a1))) (by omega) (by omega) (by omega))
    have q32 := (zu_ne (k' := 2) (b' := 0) (i' := 0) (j' := (2022 + 16 * (Z 2 0 0 (3850 + 8 * a1)))) hZ19 (fun q => absurd q.2.2.2 (by omega))).trans (zu_ne (k' := 2) (b' := 0) (i' := 0) (j' := (2022 + 16 * (Z 2 0 0 (3850 + 8 * a1)))) hZ18 (fun q => absurd q.2.2.2 (by omega)))
    have r33 := zM_k hZ19I 2 0 0 (2016 + 16 * (Z 2 0 0 (3850 + 8 * a1))) (lo := 0) (hi := 671) (by decide) (zs_2010_6 (x := (Z 2 0 0 (3850 + 8 * a1))) (by omega) (by omega) (by omega))
    have q34 := (zu_ne (k' := 2) (b' := 0) (i' := 0) (j' := (2016 + 16 * (Z 2 0 0 (3850 + 8 * a1)))) hZ19 (fun q => absurd q.2.2.2 (by omega))).trans (zu_ne (k' := 2) (b' := 0) (i' := 0) (j' := (2016 + 16 * (Z 2 0 0 (3850 + 8 * a1)))) hZ18 (fun q => absurd q.2.2.2 (by omega)))
    have r35 := zM_k hZ19I 2 0 0 (2023 + 16 * (Z 2 0 0 (3850 + 8 * a1))) (lo := -1) (hi := 671) (by decide) (zs_2010_13 (x := (Z 2 0 0 (3850 + 8 * a1))) (by omega) (by omega) (by omega))
    have q36 := (zu_ne (k' := 2) (b' := 0) (i' := 0) (j' := (2023 + 16 * (Z 2 0 0 (3850 + 8 * a1)))) hZ19 (fun q => absurd q.2.2.2 (by omega))).trans (zu_ne (k' := 2) (b' := 0) (i' := 0) (j' := (2023 + 16 * (Z 2 0 0 (3850 + 8 * a1)))) hZ18 (fun q => absurd q.2.2.2 (by omega)))
    have r37 := zM_k hZ19I 2 0 0 (40 + (Z 2 0 0 (3850 + 8 * a1))) (lo := -1) (hi := 671) (by decide) (zs_40 (by omega) (by omega))
    have q38 := (zu_ne (k' := 2) (b' := 0) (i' := 0) (j' := (40 + (Z 2 0 0 (3850 + 8 * a1)))) hZ19 (fun q => absurd q.2.2.2 (by omega))).trans (zu_ne (k' := 2) (b' := 0) (i' := 0) (j' := (40 + (Z 2 0 0 (3850 + 8 * a1)))) hZ18 (fun q => absurd q.2.2.2 (by omega)))
    refine sl_408_1 (ν := ν) hZ19I (zbh (c := 0) (k := 0) hM (Nat.le_of_ble_eq_true rfl)) zC_r (x1 := a1) (by omega) (x2 := (Z 2 0 0 (3850 + 8 * a1))) (by omega) (x3 := (Z 2 0 0 (3851 + 8 * a1))) (by omega) (x4 := (Z 2 0 0 (2010 + 16 * (Z 2 0 0 (3850 + 8 * a1))))) (by omega) (x5 := v16) (by omega) (x6 := 0) (by omega) zU_r (by omega) (by omega) (by omega) (by omega) (by omega) (by omega) (zconso rfl (zconso (zvo (rfl : i3 a1 = i3 a1)) (zconso (zvo (zm_rd (Z := Z) (ν := ν) (k := 2) (show ((0 : Nat) : Int) = 0 from rfl) (show ((0 : Nat) : Int) = 0 from rfl) (i3I (y := (3850 + 8 * a1)) (i3A (i3A (show (3850 : Int32) = i3 3850 from rfl) (i3M (show (8 : Int32) = i3 8 from rfl) (rfl : i3 a1 = i3 a1))) (show (0 : Int32) = i3 0 from rfl)) (by omega) (by omega) (by omega)))) (zconso (zvo (zm_rd (Z := Z) (ν := ν) (k := 2) (show ((0 : Nat) : Int) = 0 from rfl) (show ((0 : Nat) : Int) = 0 from rfl) (i3I (y := (3851 + 8 * a1)) (i3A (i3A (show (3850 : Int32) = i3 3850 from rfl) (i3M (show (8 : Int32) = i3 8 from rfl) (rfl : i3 a1 = i3 a1))) (show (1 : Int32) = i3 1 from rfl)) (by omega) (by omega) (by omega)))) (zconso (zvo (zm_rd (Z := Z) (ν := ν) (k := 2) (show ((0 : Nat) : Int) = 0 from rfl) (show ((0 : Nat) : Int) = 0 from rfl) (i3I (y := (2010 + 16 * (Z 2 0 0 (3850 + 8 * a1)))) (i3A (i3A (show (2010 : Int32) = i3 2010 from rfl) (i3M (show (16 : Int32) = i3 16 from rfl) (zm_rd (Z := Z) (ν := ν) (k := 2) (show ((0 : Nat) : Int) = 0 from rfl) (show ((0 : Nat) : Int) = 0 from rfl) (i3I (y := (3850 + 8 * a1)) (i3A (i3A (show (3850 : Int32) = i3 3850 from rfl) (i3M (show (8 : Int32) = i3 8 from rfl) (rfl : i3 a1 = i3 a1))) (show (0 : Int32) = i3 0 from rfl)) (by omega) (by omega) (by omega))))) (show (0 : Int32) = i3 0 from rfl)) (by omega) (by omega) (by omega)))) (zconso (zvo (rfl : i3 v16 = i3 v16)) (zconso (zvo (show (0 : Int32) = i3 0 from rfl)) rfl))))))) rfl ?_
    intro L39 Z22 y21 hL39 hZ22I kZ22 jZ22 gy21 gL39_0 gL39_1 gL39_2 gL39_3 gL39_4 gL39_5 q9
    replace hP := zl_e2 hP (Eq.symm q9)
    clear q9
    have hZ22U : zU [] Z Z22 := zU_t hZ19U jZ22 zU_b0
    have hZ22K : zC [2] Z Z22 := zC_t hZ19K kZ22 (by decide)
    have r40 := zM_k hZ22I 2 0 0 (2018 + 16 * (Z 2 0 0 (3850 + 8 * a1))) (lo := 0) (hi := 2000) (by decide) (zs_2010_8 (x := (Z 2 0 0 (3850 + 8 * a1))) (by omega) (by omega) (by omega))
    have r41 := zM_k hZ22I 2 0 0 (2024 + 16 * (Z 2 0 0 (3850 + 8 * a1))) (lo := -1) (hi := 2000) (by decide) (zs_2010_14 (x := (Z 2 0 0 (3850 + 8 * a1))) (by omega) (by omega) (by omega))
    have r42 := zM_k hZ22I 2 0 0 (2021 + 16 * (Z 2 0 0 (3850 + 8 * a1))) (lo := 0) (hi := 2000) (by decide) (zs_2010_11 (x := (Z 2 0 0 (3850 + 8 * a1))) (by omega) (by omega) (by omega))
    have r43 := zM_k hZ22I 2 0 0 (2025 + 16 * (Z 2 0 0 (3850 + 8 * a1))) (lo := -1) (hi := 999) (by decide) (zs_2010_15 (x := (Z 2 0 0 (3850 + 8 * a1))) (by omega) (by omega) (by omega))
    have r44 := zM_k hZ22I 2 0 0 (2022 + 16 * (Z 2 0 0 (3850 + 8 * a1))) (lo := 0) (hi := 999) (by decide) (zs_2010_12 (x := (Z 2 0 0 (3850 + 8 * a1))) (by omega) (by omega) (by omega))
    have r45 := zM_k hZ22I 2 0 0 (2016 + 16 * (Z 2 0 0 (3850 + 8 * a1))) (lo := 0) (hi := 671) (by decide) (zs_2010_6 (x := (Z 2 0 0 (3850 + 8 * a1))) (by omega) (by omega) (by omega))
    have r46 := zM_k hZ22I 2 0 0 (2023 + 16 * (Z 2 0 0 (3850 + 8 * a1))) (lo := -1) (hi := 671) (by decide) (zs_2010_13 (x := (Z 2 0 0 (3850 + 8 * a1))) (by omega) (by omega) (by omega))
    have r47 := zM_k hZ22I 2 0 0 (40 + (Z 2 0 0 (3850 + 8 * a1))) (lo := -1) (hi := 671) (by decide) (zs_40 (by omega) (by omega))
    refine fc_408_2 (i3 a1) (i3 (Z 2 0 0 (3850 + 8 * a1))) (i3 (Z 2 0 0 (2010 + 16 * (Z 2 0 0 (3850 + 8 * a1))))) (i3 v16) _ _ _ _ hL39 ?_
    obtain ⟨Z48, hZ48, c9, hZ48I, kZ48, jZ48⟩ := sp_272 (ν := ν) hZ22I (a1 := (Z 2 0 0 (3850 + 8 * a1))) (by omega) (a2 := v16) (by omega) (zbh (c := 0) (k := 0) hM (Nat.le_of_ble_eq_true rfl))
    have hZ48U : zU [] Z Z48 := zU_t hZ22U jZ48 zU_b0
    have hZ48K : zC [2] Z Z48 := zC_t hZ22K kZ48 (by decide)
    replace hP := zl_e hP hZ48
    refine wz_cV_of (zas (zcons rfl (zcons (zvi (rfl : i3 (Z 2 0 0 (3850 + 8 * a1)) = i3 (Z 2 0 0 (3850 + 8 * a1)))) (zcons (zvi (rfl : i3 v16 = i3 v16)) rfl))) c9) ?_
    clear c9
    refine wz_i0 (i3O (n := 4400) (i3A (i3A (show (3850 : Int32) = i3 3850 from rfl) (i3M (show (8 : Int32) = i3 8 from rfl) (rfl : i3 a1 = i3 a1))) (show (4 : Int32) = i3 4 from rfl)) (by omega) (by omega) (by omega)) ?_
    obtain ⟨Z49, hZ49, c9, hZ49I, kZ49, jZ49⟩ := sp_403 (ν := ν) hZ48I (a1 := 1) (by omega) (a2 := 8) (by omega) (a3 := v16) (by omega) (a4 := (Z 2 0 0 (2010 + 16 * (Z 2 0 0 (3850 + 8 * a1))))) (by omega) (zbh (c := 0) (k := 1) hM (Nat.le_of_ble_eq_true rfl))
    have hZ49U : zU [] Z Z49 := zU_t hZ48U jZ49 zU_b0
    have hZ49K : zC [2] Z Z49 := zC_t hZ48K kZ49 (by decide)
    replace hP := zl_e hP hZ49
    refine wz_cV_of (zas (zcons rfl (zcons (zvi (show (1 : Int32) = i3 1 from rfl)) (zcons (zvi (show (8 : Int32) = i3 8 from rfl)) (zcons (zvi (rfl : i3 v16 = i3 v16)) (zcons (zvi (rfl : i3 (Z 2 0 0 (2010 + 16 * (Z 2 0 0 (3850 + 8 * a1)))) = i3 (Z 2 0 0 (2010 + 16 * (Z 2 0 0 (3850 + 8 * a1)))))) rfl))))) c9) ?_
    clear c9
    have r50 := zM_f hZ48I 2 0 0 (3854 + 8 * a1)
    obtain ⟨Z51, hZ51, c9, hZ51I, kZ51, jZ51⟩ := sp_403 (ν := ν) hZ49I (a1 := 8) (by omega) (a2 := 2) (by omega) (a3 := (Z48 2 0 0 (3854 + 8 * a1))) (by omega) (a4 := (Z 2 0 0 (2010 + 16 * (Z 2 0 0 (3850 + 8 * a1))))) (by omega) (zbh (c := 1) (k := 1) hM (Nat.le_of_ble_eq_true rfl))
    have hZ51U : zU [] Z Z51 := zU_t hZ49U jZ51 zU_b0
    have hZ51K : zC [2] Z Z51 := zC_t hZ49K kZ51 (by decide)
    replace hZ51I := zmt (c := 2) hZ51I rfl
    replace hP := zl_e hP hZ51
    refine wz_cV_of (zas (zcons rfl (zcons (zvi (show (8 : Int32) = i3 8 from rfl)) (zcons (zvi (show (2 : Int32) = i3 2 from rfl)) (zcons (zvi (zm_rd (Z := Z48) (ν := ν) (k := 2) (show ((0 : Nat) : Int) = 0 from rfl) (show ((0 : Nat) : Int) = 0 from rfl) (i3I (y := (3854 + 8 * a1)) (i3A (i3A (show (3850 : Int32) = i3 3850 from rfl) (i3M (show (8 : Int32) = i3 8 from rfl) (rfl : i3 a1 = i3 a1))) (show (4 : Int32) = i3 4 from rfl)) (by omega) (by omega) (by omega)))) (zcons (zvi (rfl : i3 (Z 2 0 0 (2010 + 16 * (Z 2 0 0 (3850 + 8 * a1)))) = i3 (Z 2 0 0 (2010 + 16 * (Z 2 0 0 (3850 + 8 * a1)))))) rfl))))) c9) ?_
    clear c9
    refine wz_i0 (i3O (n := 4400) (i3A (i3A (show (2010 : Int32) = i3 2010 from rfl) (i3M (show (16 : Int32) = i3 16 from rfl) (rfl : i3 (Z 2 0 0 (3850 + 8 * a1)) = i3 (Z 2 0 0 (3850 + 8 * a1))))) (show (0 : Int32) = i3 0 from rfl)) (by omega) (by omega) (by omega)) ?_
    have r52 := zM_k hZ51I 2 0 0 (2010 + 16 * (Z 2 0 0 (3850 + 8 * a1))) (lo := 0) (hi := 47) (by decide) (zs_2010_0 (x := (Z 2 0 0 (3850 + 8 * a1))) (by omega) (by omega) (by omega))
    refine wz_i0 (i3O (n := 4400) (i3A (i3A (show (200 : Int32) = i3 200 from rfl) (i3M (show (20 : Int32) = i3 20 from rfl) (zm_rd (Z := Z51) (ν := ν) (k := 2) (show ((0 : Nat) : Int) = 0 from rfl) (show ((0 : Nat) : Int) = 0 from rfl) (i3I (y := (2010 + 16 * (Z 2 0 0 (3850 + 8 * a1)))) (i3A (i3A (show (2010 : Int32) = i3 2010 from rfl) (i3M (show (16 : Int32) = i3 16 from rfl) (rfl : i3 (Z 2 0 0 (3850 + 8 * a1)) = i3 (Z 2 0 0 (3850 + 8 * a1))))) (show (0 : Int32) = i3 0 from rfl)) (by omega) (by omega) (by omega))))) (show (0 : Int32) = i3 0 from rfl)) (by omega) (by omega) (by omega)) ?_
    have r53 := zM_k hZ51I 2 0 0 (200 + 20 * (Z51 2 0 0 (2010 + 16 * (Z 2 0 0 (3850 + 8 * a1))))) (lo := 0) (hi := 5) (by decide) (zs_200_0 (x := (Z51 2 0 0 (2010 + 16 * (Z 2 0 0 (3850 + 8 * a1))))) (by omega) (by omega) (by omega))
    refine wz_i0 (i3O (n := 4400) (i3A (i3A (show (3820 : Int32) = i3 3820 from rfl) (i3M (show (5 : Int32) = i3 5 from rfl) (zm_rd (Z := Z51) (ν := ν) (k := 2) (show ((0 : Nat) : Int) = 0 from rfl) (show ((0 : Nat) : Int) = 0 from rfl) (i3I (y := (200 + 20 * (Z51 2 0 0 (2010 + 16 * (Z 2 0 0 (3850 + 8 * a1)))))) (i3A (i3A (show (200 : Int32) = i3 200 from rfl) (i3M (show (20 : Int32) = i3 20 from rfl) (zm_rd (Z := Z51) (ν := ν) (k := 2) (show ((0 : Nat) : Int) = 0 from rfl) (show ((0 : Nat) : Int) = 0 from rfl) (i3I (y := (2010 + 16 * (Z 2 0 0 (3850 + 8 * a1)))) (i3A (i3A (show (2010 : Int32) = i3 2010 from rfl) (i3M (show (16 : Int32) = i3 16 from rfl) (rfl : i3 (Z 2 0 0 (3850 + 8 * a1)) = i3 (Z 2 0 0 (3850 + 8 * a1))))) (show (0 : Int32) = i3 0 from rfl)) (by omega) (by omega) (by omega))))) (show (0 : Int32) = i3 0 from rfl)) (by omega) (by omega) (by omega))))) (show (0 : Int32) = i3 0 from rfl)) (by omega) (by omega) (by omega)) ?_
    refine wz_i0 (i3O (n := 4400) (i3A (i3A (show (3820 : Int32) = i3 3820 from rfl) (i3M (show (5 : Int32) = i3 5 from rfl) (zm_rd (Z := Z51) (ν := ν) (k := 2) (show ((0 : Nat) : Int) = 0 from rfl) (show ((0 : Nat) : Int) = 0 from rfl) (i3I (y := (200 + 20 * (Z51 2 0 0 (2010 + 16 * (Z 2 0 0 (3850 + 8 * a1)))))) (i3A (i3A (show (200 : Int32) = i3 200 from rfl) (i3M (show (20 : Int32) = i3 20 from rfl) (zm_rd (Z := Z51) (ν := ν) (k := 2) (show ((0 : Nat) : Int) = 0 from rfl) (show ((0 : Nat) : Int) = 0 from rfl) (i3I (y := (2010 + 16 * (Z 2 0 0 (3850 + 8 * a1)))) (i3A (i3A (show (2010 : Int32) = i3 2010 from rfl) (i3M (show (16 : Int32) = i3 16 from rfl) (rfl : i3 (Z 2 0 0 (3850 + 8 * a1)) = i3 (Z 2 0 0 (3850 + 8 * a1))))) (show (0 : Int32) = i3 0 from rfl)) (by omega) (by omega) (by omega))))) (show (0 : Int32) = i3 0 from rfl)) (by omega) (by omega) (by omega))))) (show (0 : Int32) = i3 0 from rfl)) (by omega) (by omega) (by omega)) ?_
    have r54 := zM_f hZ51I 2 0 0 (3820 + 5 * (Z51 2 0 0 (200 + 20 * (Z51 2 0 0 (2010 + 16 * (Z 2 0 0 (3850 + 8 * a1)))))))
    have r55 := w3_r ((Z51 2 0 0 (3820 + 5 * (Z51 2 0 0 (200 + 20 * (Z51 2 0 0 (2010 + 16 * (Z 2 0 0 (3850 + 8 * a1)))))))) - (Z48 2 0 0 (3854 + 8 * a1)))
    obtain ⟨Z56, hZ56⟩ := zx (zu Z51 2 0 0 (3820 + 5 * (Z51 2 0 0 (200 + 20 * (Z51 2 0 0 (2010 + 16 * (Z 2 0 0 (3850 + 8 * a1))))))) (w3 ((Z51 2 0 0 (3820 + 5 * (Z51 2 0 0 (200 + 20 * (Z51 2 0 0 (2010 + 16 * (Z 2 0 0 (3850 + 8 * a1)))))))) - (Z48 2 0 0 (3854 + 8 * a1)))))
    replace hP := zl_e hP hZ56
    have hZ56I := zM_u2 hZ51I hZ56 (lo := -2147483648) (hi := 2147483647) (zs_3820_0 (x := (Z51 2 0 0 (200 + 20 * (Z51 2 0 0 (2010 + 16 * (Z 2 0 0 (3850 + 8 * a1))))))) (by omega) (by omega) (by omega)) (by omega) ⟨by decide, by decide⟩ (by simp only [zsp]; omega)
    have hZ56U : zU [] Z Z56 := zU_u hZ51U hZ56 (Or.inl rfl)
    have hZ56K : zC [2] Z Z56 := zC_u hZ51K hZ56 (zcl_2w (by omega) rfl)
    intro μ9 e9
    replace e9 := e9.trans (zm_wI (Z := Z51) (ν := ν) hZ56 (show ((0 : Nat) : Int) = 0 from rfl) (show ((0 : Nat) : Int) = 0 from rfl) (i3I (y := (3820 + 5 * (Z51 2 0 0 (200 + 20 * (Z51 2 0 0 (2010 + 16 * (Z 2 0 0 (3850 + 8 * a1)))))))) (i3A (i3A (show (3820 : Int32) = i3 3820 from rfl) (i3M (show (5 : Int32) = i3 5 from rfl) (zm_rd (Z := Z51) (ν := ν) (k := 2) (show ((0 : Nat) : Int) = 0 from rfl) (show ((0 : Nat) : Int) = 0 from rfl) (i3I (y := (200 + 20 * (Z51 2 0 0 (2010 + 16 * (Z 2 0 0 (3850 + 8 * a1)))))) (i3A (i3A (show (200 : Int32) = i3 200 from rfl) (i3M (show (20 : Int32) = i3 20 from rfl) (zm_rd (Z := Z51) (ν := ν) (k := 2) (show ((0 : Nat) : Int) = 0 from rfl) (show ((0 : Nat) : Int) = 0 from rfl) (i3I (y := (2010 + 16 * (Z 2 0 0 (3850 + 8 * a1)))) (i3A (i3A (show (2010 : Int32) = i3 2010 from rfl) (i3M (show (16 : Int32) = i3 16 from rfl) (rfl : i3 (Z 2 0 0 (3850 + 8 * a1)) = i3 (Z 2 0 0 (3850 + 8 * a1))))) (show (0 : Int32) = i3 0 from rfl)) (by omega) (by omega) (by omega))))) (show (0 : Int32) = i3 0 from rfl)) (by omega) (by omega) (by omega))))) (show (0 : Int32) = i3 0 from rfl)) (by omega) (by omega) (by omega)) (i3W (i3S (zm_rd (Z := Z51) (ν := ν) (k := 2) (show ((0 : Nat) : Int) = 0 from rfl) (show ((0 : Nat) : Int) = 0 from rfl) (i3I (y := (3820 + 5 * (Z51 2 0 0 (200 + 20 * (Z51 2 0 0 (2010 + 16 * (Z 2 0 0 (3850 + 8 * a1)))))))) (i3A (i3A (show (3820 : Int32) = i3 3820 from rfl) (i3M (show (5 : Int32) = i3 5 from rfl) (zm_rd (Z := Z51) (ν := ν) (k := 2) (show ((0 : Nat) : Int) = 0 from rfl) (show ((0 : Nat) : Int) = 0 from rfl) (i3I (y := (200 + 20 * (Z51 2 0 0 (2010 + 16 * (Z 2 0 0 (3850 + 8 * a1)))))) (i3A (i3A (show (200 : Int32) = i3 200 from rfl) (i3M (show (20 : Int32) = i3 20 from rfl) (zm_rd (Z := Z51) (ν := ν) (k := 2) (show ((0 : Nat) : Int) = 0 from rfl) (show ((0 : Nat) : Int) = 0 from rfl) (i3I (y := (2010 + 16 * (Z 2 0 0 (3850 + 8 * a1)))) (i3A (i3A (show (2010 : Int32) = i3 2010 from rfl) (i3M (show (16 : Int32) = i3 16 from rfl) (rfl : i3 (Z 2 0 0 (3850 + 8 * a1)) = i3 (Z 2 0 0 (3850 + 8 * a1))))) (show (0 : Int32) = i3 0 from rfl)) (by omega) (by omega) (by omega))))) (show (0 : Int32) = i3 0 from rfl)) (by omega) (by omega) (by omega))))) (show (0 : Int32) = i3 0 from rfl)) (by omega) (by omega) (by omega))) (zm_rd (Z := Z48) (ν := ν) (k := 2) (show ((0 : Nat) : Int) = 0 from rfl) (show ((0 : Nat) : Int) = 0 from rfl) (i3I (y := (3854 + 8 * a1)) (i3A (i3A (show (3850 : Int32) = i3 3850 from rfl) (i3M (show (8 : Int32) = i3 8 from rfl) (rfl : i3 a1 = i3 a1))) (show (4 : Int32) = i3 4 from rfl)) (by omega) (by omega) (by omega))))))
    subst e9
    refine wz_i0 (i3O (n := 4400) (i3A (i3A (show (2010 : Int32) = i3 2010 from rfl) (i3M (show (16 : Int32) = i3 16 from rfl) (rfl : i3 (Z 2 0 0 (3850 + 8 * a1)) = i3 (Z 2 0 0 (3850 + 8 * a1))))) (show (0 : Int32) = i3 0 from rfl)) (by omega) (by omega) (by omega)) ?_
    have r57 := zM_k hZ56I 2 0 0 (2010 + 16 * (Z 2 0 0 (3850 + 8 * a1))) (lo := 0) (hi := 47) (by decide) (zs_2010_0 (x := (Z 2 0 0 (3850 + 8 * a1))) (by omega) (by omega) (by omega))
    have q58 := zu_ne (k' := 2) (b' := 0) (i' := 0) (j' := (2010 + 16 * (Z 2 0 0 (3850 + 8 * a1)))) hZ56 (fun q => absurd q.2.2.2 (by omega))
    refine wz_i0 (i3O (n := 4400) (i3A (i3A (show (200 : Int32) = i3 200 from rfl) (i3M (show (20 : Int32) = i3 20 from rfl) (zm_rd (Z := Z56) (ν := ν) (k := 2) (show ((0 : Nat) : Int) = 0 from rfl) (show ((0 : Nat) : Int) = 0 from rfl) (i3I (y := (2010 + 16 * (Z 2 0 0 (3850 + 8 * a1)))) (i3A (i3A (show (2010 : Int32) = i3 2010 from rfl) (i3M (show (16 : Int32) = i3 16 from rfl) (rfl : i3 (Z 2 0 0 (3850 + 8 * a1)) = i3 (Z 2 0 0 (3850 + 8 * a1))))) (show (0 : Int32) = i3 0 from rfl)) (by omega) (by omega) (by omega))))) (show (0 : Int32) = i3 0 from rfl)) (by omega) (by omega) (by omega)) ?_
    have r59 := zM_k hZ56I 2 0 0 (200 + 20 * (Z56 2 0 0 (2010 + 16 * (Z 2 0 0 (3850 + 8 * a1))))) (lo := 0) (hi := 5) (by decide) (zs_200_0 (x := (Z56 2 0 0 (2010 + 16 * (Z 2 0 0 (3850 + 8 * a1))))) (by omega) (by omega) (by omega))
    refine wz_i0 (i3O (n := 4400) (i3A (i3A (show (3820 : Int32) = i3 3820 from rfl) (i3M (show (5 : Int32) = i3 5 from rfl) (zm_rd (Z := Z56) (ν := ν) (k := 2) (show ((0 : Nat) : Int) = 0 from rfl) (show ((0 : Nat) : Int) = 0 from rfl) (i3I (y := (200 + 20 * (Z56 2 0 0 (2010 + 16 * (Z 2 0 0 (3850 + 8 * a1)))))) (i3A (i3A (show (200 : Int32) = i3 200 from rfl) (i3M (show (20 : Int32) = i3 20 from rfl) (zm_rd (Z := Z56) (ν := ν) (k := 2) (show ((0 : Nat) : Int) = 0 from rfl) (show ((0 : Nat) : Int) = 0 from rfl) (i3I (y := (2010 + 16 * (Z 2 0 0 (3850 + 8 * a1)))) (i3A (i3A (show (2010 : Int32) = i3 2010 from rfl) (i3M (show (16 : Int32) = i3 16 from rfl) (rfl : i3 (Z 2 0 0 (3850 + 8 * a1)) = i3 (Z 2 0 0 (3850 + 8 * a1))))) (show (0 : Int32) = i3 0 from rfl)) (by omega) (by omega) (by omega))))) (show (0 : Int32) = i3 0 from rfl)) (by omega) (by omega) (by omega))))) (show (3 : Int32) = i3 3 from rfl)) (by omega) (by omega) (by omega)) ?_
    refine wz_i0 (i3O (n := 4400) (i3A (i3A (show (3820 : Int32) = i3 3820 from rfl) (i3M (show (5 : Int32) = i3 5 from rfl) (zm_rd (Z := Z56) (ν := ν) (k := 2) (show ((0 : Nat) : Int) = 0 from rfl) (show ((0 : Nat) : Int) = 0 from rfl) (i3I (y := (200 + 20 * (Z56 2 0 0 (2010 + 16 * (Z 2 0 0 (3850 + 8 * a1)))))) (i3A (i3A (show (200 : Int32) = i3 200 from rfl) (i3M (show (20 : Int32) = i3 20 from rfl) (zm_rd (Z := Z56) (ν := ν) (k := 2) (show ((0 : Nat) : Int) = 0 from rfl) (show ((0 : Nat) : Int) = 0 from rfl) (i3I (y := (2010 + 16 * (Z 2 0 0 (3850 + 8 * a1)))) (i3A (i3A (show (2010 : Int32) = i3 2010 from rfl) (i3M (show (16 : Int32) = i3 16 from rfl) (rfl : i3 (Z 2 0 0 (3850 + 8 * a1)) = i3 (Z 2 0 0 (3850 + 8 * a1))))) (show (0 : Int32) = i3 0 from rfl)) (by omega) (by omega) (by omega))))) (show (0 : Int32) = i3 0 from rfl)) (by omega) (by omega) (by omega))))) (show (3 : Int32) = i3 3 from rfl)) (by omega) (by omega) (by omega)) ?_
    have r60 := zM_f hZ56I 2 0 0 (3823 + 5 * (Z56 2 0 0 (200 + 20 * (Z56 2 0 0 (2010 + 16 * (Z 2 0 0 (3850 + 8 * a1)))))))
    have r61 := w3_r ((Z56 2 0 0 (3823 + 5 * (Z56 2 0 0 (200 + 20 * (Z56 2 0 0 (2010 + 16 * (Z 2 0 0 (3850 + 8 * a1)))))))) + (Z48 2 0 0 (3854 + 8 * a1)))
    obtain ⟨Z62, hZ62⟩ := zx (zu Z56 2 0 0 (3823 + 5 * (Z56 2 0 0 (200 + 20 * (Z56 2 0 0 (2010 + 16 * (Z 2 0 0 (3850 + 8 * a1))))))) (w3 ((Z56 2 0 0 (3823 + 5 * (Z56 2 0 0 (200 + 20 * (Z56 2 0 0 (2010 + 16 * (Z 2 0 0 (3850 + 8 * a1)))))))) + (Z48 2 0 0 (3854 + 8 * a1)))))
    replace hP := zl_e hP hZ62
    have hZ62I := zM_u2 hZ56I hZ62 (lo := -2147483648) (hi := 2147483647) (zs_3820_3 (x := (Z56 2 0 0 (200 + 20 * (Z56 2 0 0 (2010 + 16 * (Z 2 0 0 (3850 + 8 * a1))))))) (by omega) (by omega) (by omega)) (by omega) ⟨by decide, by decide⟩ (by simp only [zsp]; omega)
    have hZ62U : zU [] Z Z62 := zU_u hZ56U hZ62 (Or.inl rfl)
    have hZ62K : zC [2] Z Z62 := zC_u hZ56K hZ62 (zcl_2w (by omega) rfl)
    intro μ9 e9
    replace e9 := e9.trans (zm_wI (Z := Z56) (ν := ν) hZ62 (show ((0 : Nat) : Int) = 0 from rfl) (show ((0 : Nat) : Int) = 0 from rfl) (i3I (y := (3823 + 5 * (Z56 2 0 0 (200 + 20 * (Z56 2 0 0 (2010 + 16 * (Z 2 0 0 (3850 + 8 * a1)))))))) (i3A (i3A (show (3820 : Int32) = i3 3820 from rfl) (i3M (show (5 : Int32) = i3 5 from rfl) (zm_rd (Z := Z56) (ν := ν) (k := 2) (show ((0 : Nat) : Int) = 0 from rfl) (show ((0 : Nat) : Int) = 0 from rfl) (i3I (y := (200 + 20 * (Z56 2 0 0 (2010 + 16 * (Z 2 0 0 (3850 + 8 * a1)))))) (i3A (i3A (show (200 : Int32) = i3 200 from rfl) (i3M (show (20 : Int32) = i3 20 from rfl) (zm_rd (Z := Z56) (ν := ν) (k := 2) (show ((0 : Nat) : Int) = 0 from rfl) (show ((0 : Nat) : Int) = 0 from rfl) (i3I (y := (2010 + 16 * (Z 2 0 0 (3850 + 8 * a1)))) (i3A (i3A (show (2010 : Int32) = i3 2010 from rfl) (i3M (show (16 : Int32) = i3 16 from rfl) (rfl : i3 (Z 2 0 0 (3850 + 8 * a1)) = i3 (Z 2 0 0 (3850 + 8 * a1))))) (show (0 : Int32) = i3 0 from rfl)) (by omega) (by omega) (by omega))))) (show (0 : Int32) = i3 0 from rfl)) (by omega) (by omega) (by omega))))) (show (3 : Int32) = i3 3 from rfl)) (by omega) (by omega) (by omega)) (i3W (i3A (zm_rd (Z := Z56) (ν := ν) (k := 2) (show ((0 : Nat) : Int) = 0 from rfl) (show ((0 : Nat) : Int) = 0 from rfl) (i3I (y := (3823 + 5 * (Z56 2 0 0 (200 + 20 * (Z56 2 0 0 (2010 + 16 * (Z 2 0 0 (3850 + 8 * a1)))))))) (i3A (i3A (show (3820 : Int32) = i3 3820 from rfl) (i3M (show (5 : Int32) = i3 5 from rfl) (zm_rd (Z := Z56) (ν := ν) (k := 2) (show ((0 : Nat) : Int) = 0 from rfl) (show ((0 : Nat) : Int) = 0 from rfl) (i3I (y := (200 + 20 * (Z56 2 0 0 (2010 + 16 * (Z 2 0 0 (3850 + 8 * a1)))))) (i3A (i3A (show (200 : Int32) = i3 200 from rfl) (i3M (show (20 : Int32) = i3 20 from rfl) (zm_rd (Z := Z56) (ν := ν) (k := 2) (show ((0 : Nat) : Int) = 0 from rfl) (show ((0 : Nat) : Int) = 0 from rfl) (i3I (y := (2010 + 16 * (Z 2 0 0 (3850 + 8 * a1)))) (i3A (i3A (show (2010 : Int32) = i3 2010 from rfl) (i3M (show (16 : Int32) = i3 16 from rfl) (rfl : i3 (Z 2 0 0 (3850 + 8 * a1)) = i3 (Z 2 0 0 (3850 + 8 * a1))))) (show (0 : Int32) = i3 0 from rfl)) (by omega) (by omega) (by omega))))) (show (0 : Int32) = i3 0 from rfl)) (by omega) (by omega) (by omega))))) (show (3 : Int32) = i3 3 from rfl)) (by omega) (by omega) (by omega))) (zm_rd (Z := Z48) (ν := ν) (k := 2) (show ((0 : Nat) : Int) = 0 from rfl) (show ((0 : Nat) : Int) = 0 from rfl) (i3I (y := (3854 + 8 * a1)) (i3A (i3A (show (3850 : Int32) = i3 3850 from rfl) (i3M (show (8 : Int32) = i3 8 from rfl) (rfl : i3 a1 = i3 a1))) (show (4 : Int32) = i3 4 from rfl)) (by omega) (by omega) (by omega))))))
    subst e9
    refine wz_i0 (i3O (n := 4400) (i3A (i3A (show (3850 : Int32) = i3 3850 from rfl) (i3M (show (8 : Int32) = i3 8 from rfl) (rfl : i3 a1 = i3 a1))) (show (6 : Int32) = i3 6 from rfl)) (by omega) (by omega) (by omega)) ?_
    have r63 := zM_f hZ62I 2 0 0 (3856 + 8 * a1)
    obtain ⟨Z64, hZ64, c9, hZ64I, kZ64, jZ64⟩ := sp_403 (ν := ν) hZ62I (a1 := 8) (by omega) (a2 := 0) (by omega) (a3 := (Z62 2 0 0 (3856 + 8 * a1))) (by omega) (a4 := (Z 2 0 0 (2010 + 16 * (Z 2 0 0 (3850 + 8 * a1))))) (by omega) (zbh (c := 2) (k := 1) hM (Nat.le_of_ble_eq_true rfl))
    have hZ64U : zU [] Z Z64 := zU_t hZ62U jZ64 zU_b0
    have hZ64K : zC [2] Z Z64 := zC_t hZ62K kZ64 (by decide)
    replace hZ64I := zmt (c := 3) hZ64I rfl
    replace hP := zl_e hP hZ64
    refine wz_cV_of (zas (zcons rfl (zcons (zvi (show (8 : Int32) = i3 8 from rfl)) (zcons (zvi (show (0 : Int32) = i3 0 from rfl)) (zcons (zvi (zm_rd (Z := Z62) (ν := ν) (k := 2) (show ((0 : Nat) : Int) = 0 from rfl) (show ((0 : Nat) : Int) = 0 from rfl) (i3I (y := (3856 + 8 * a1)) (i3A (i3A (show (3850 : Int32) = i3 3850 from rfl) (i3M (show (8 : Int32) = i3 8 from rfl) (rfl : i3 a1 = i3 a1))) (show (6 : Int32) = i3 6 from rfl)) (by omega) (by omega) (by omega)))) (zcons (zvi (rfl : i3 (Z 2 0 0 (2010 + 16 * (Z 2 0 0 (3850 + 8 * a1)))) = i3 (Z 2 0 0 (2010 + 16 * (Z 2 0 0 (3850 + 8 * a1)))))) rfl))))) c9) ?_
    clear c9
    exact zlV hP ⟨hZ64I, hZ64K, hZ64U⟩
  · replace hP := zE_n hP h17
    refine wz_i0 (i3O (n := 4400) (i3A (i3A (show (3850 : Int32) = i3 3850 from rfl) (i3M (show (8 : Int32) = i3 8 from rfl) (rfl : i3 a1 = i3 a1))) (show (2 : Int32) = i3 2 from rfl)) (by omega) (by omega) (by omega)) ?_
    obtain ⟨Z65, hZ65⟩ := zx (zu Z 2 0 0 (3852 + 8 * a1) 1)
    replace hP := zl_e hP hZ65
    have hZ65I := zM_u2 hZ hZ65 (lo := 0) (hi := 2) (zs_3850_2 (x := a1) (by omega) (by omega) (by omega)) (by omega) ⟨by decide, by decide⟩ (by simp only [zsp]; omega)
    have hZ65U : zU [] Z Z65 := zU_u zU_r hZ65 (Or.inl rfl)
    have hZ65K : zC [2] Z Z65 := zC_u zC_r hZ65 (zcl_2w (by omega) rfl)
    intro μ9 e9
    replace e9 := e9.trans (zm_wI (Z := Z) (ν := ν) hZ65 (show ((0 : Nat) : Int) = 0 from rfl) (show ((0 : Nat) : Int) = 0 from rfl) (i3I (y := (3852 + 8 * a1)) (i3A (i3A (show (3850 : Int32) = i3 3850 from rfl) (i3M (show (8 : Int32) = i3 8 from rfl) (rfl : i3 a1 = i3 a1))) (show (2 : Int32) = i3 2 from rfl)) (by omega) (by omega) (by omega)) (show (1 : Int32) = i3 1 from rfl))
    subst e9
    refine wz_i0 (Eq.trans (i3NE (rfl : i3 v16 = i3 v16) (show (0 : Int32) = i3 0 from rfl) (by omega) (by omega) (by omega) (by omega)) (decide_eq_false (by omega))) ?_
    exact zlV hP ⟨(zmw (a := 0) (c := 3) hZ65I (Nat.le_of_ble_eq_true rfl)), hZ65K, hZ65U⟩
/- yX12_kPaysGrowers -/
def zl_413_1 : Nat → qz_Z → Int → qz_Z × Int
  | 0, Z, x1 => (Z, x1)
  | m + 1, Z, x1 => (if (Z 2 0 0 101) ≤ x1 then (Z, x1) else (if (Z 2 0 0 (3820 + 5 * x1)) ≤ 0 then zl_413_1 m Z (x1 + 1) else (zlet (zf_403 Z 0 2 (Z 2 0 0 (3820 + 5 * x1)) (-1)) (fun Z5 => (zlet (zu Z5 2 0 0 (3820 + 5 * x1) 0) (fun Z6 => (zlet (zu Z6 2 0 0 (3824 + 5 * x1) (w3 ((Z6 2 0 0 (3824 + 5 * x1)) + (Z 2 0 0 (3820 + 5 * x1))))) (fun Z9 => zl_413_1 m Z9 (x1 + 1)))))))))
theorem sl_413_1 {s : zSM} {xM9 : Nat} {Zs Z : qz_Z} {ν : qz_N} (hZ : zM (zb s xM9) Z) (hM : s.2 + 7 ≤ 1000000000) (hK : zC [2] Zs Z) {x1 : Int} (gx1 : 0 ≤ x1 ∧ x1 ≤ 6) (hU : zU [] Zs Z) (hx9 : xM9 + 1 * ((6 - x1).toNat) + 1 ≤ 7) {k : wz_K} {R : wz_R} {L : qz_L} (hL : qz_fg [true, true, false] L = [some (.inr (.inr (some (1, 0, 0)))), some (.inl (i3 x1)), none]) {T : qz_Z × Int} (hP : zE T (zl_413_1 ((6 - x1).toNat + 1) Z x1)) (hk : ∀ (L9 : qz_L) (Z9 : qz_Z) (yx1 : Int), qz_fg [false, false, false] L9 = [none, none, none] → zM (zb s 7) Z9 → zC [2] Zs Z9 → zU [] Zs Z9 → (0 ≤ yx1 ∧ yx1 ≤ 6) → zE T ((Z9, yx1)) → k 0 (L9, [], zm Z9 ν)) : wz_loop qb_413_1 65536 k R (L, [], zm Z ν) := by
  refine wz_lp sb_413_1 (fun m x => ∃ xM9 : Nat, ∃ Z : qz_Z, ∃ x1 : Int, qz_fg [true, true, false] x.1 = [some (.inr (.inr (some (1, 0, 0)))), some (.inl (i3 x1)), none] ∧ x.2 = ([], zm Z ν) ∧ xM9 + 1 * m + 1 ≤ 7 ∧ zM (zb s xM9) Z ∧ zC [2] Zs Z ∧ zU [] Zs Z ∧ m = (6 - x1).toNat ∧ (0 ≤ x1 ∧ x1 ≤ 6) ∧ zE T (zl_413_1 (m + 1) Z x1)) ?_ 65536 ((6 - x1).toNat) _ (by omega) ⟨xM9, Z, x1, hL, rfl, hx9, hZ, hK, hU, rfl, gx1, hP⟩
  clear hP gx1 hx9 hZ hK hU hL
  clear x1
  clear Z
  clear xM9
  rintro m ⟨L, st, μ⟩ ⟨xM9, Z, x1, hL, hx, hx9, hZ, hK, hU, hm, gx1, hP⟩
  cases hx
  have hM9 : (zb s xM9).2 + 1 ≤ 1000000000 := by
    show s.2 + xM9 + 1 ≤ 1000000000
    omega
  refine fb_413_1 (i3 x1) _ _ _ _ hL ?_
  have r1 := zM_k hZ 2 0 0 101 (lo := 0) (hi := 6) (by decide) rfl
  refine wz_br (i3Le (zm_rd (Z := Z) (ν := ν) (k := 2) (show ((0 : Nat) : Int) = 0 from rfl) (show ((0 : Nat) : Int) = 0 from rfl) (show ((101 : Nat) : Int) = 101 from rfl)) (rfl : i3 x1 = i3 x1) (by omega) (by omega) (by omega) (by omega)) (fun h2 => ?_) (fun h2 => ?_)
  · replace hP := zE_p hP h2
    exact hk _ _ _ (zconso rfl (zconso rfl (zconso rfl rfl))) (zmx0 hZ (by omega)) hK hU (by omega)  hP
  · replace hP := zE_n hP h2
    refine wz_i0 (i3O (n := 4400) (i3A (i3A (show (3820 : Int32) = i3 3820 from rfl) (i3M (show (5 : Int32) = i3 5 from rfl) (rfl : i3 x1 = i3 x1))) (show (0 : Int32) = i3 0 from rfl)) (by omega) (by omega) (by omega)) ?_
    have r3 := zM_f hZ 2 0 0 (3820 + 5 * x1)
    refine wz_br (i3Le (zm_rd (Z := Z) (ν := ν) (k := 2) (show ((0 : Nat) : Int) = 0 from rfl) (show ((0 : Nat) : Int) = 0 from rfl) (i3I (y := (3820 + 5 * x1)) (i3A (i3A (show (3820 : Int32) = i3 3820 from rfl) (i3M (show (5 : Int32) = i3 5 from rfl) (rfl : i3 x1 = i3 x1))) (show (0 : Int32) = i3 0 from rfl)) (by omega) (by omega) (by omega))) (show (0 : Int32) = i3 0 from rfl) (by omega) (by omega) (by omega) (by omega)) (fun h4 => ?_) (fun h4 => ?_)
    · replace hP := zE_p hP h4
      obtain ⟨m2, rfl⟩ : ∃ m2, m = m2 + 1 := ⟨m - 1, by omega⟩
      exact wz_k1 ⟨m2, by omega, xM9, Z, (x1 + 1), (zconso rfl (zconso (zvo (i3A (rfl : i3 x1 = i3 x1) (show (1 : Int32) = i3 1 from rfl))) (zconso rfl rfl))), rfl, by omega, hZ, hK, hU, by omega, by omega,  hP⟩
    · replace hP := zE_n hP h4
      obtain ⟨Z5, hZ5, c9, hZ5I, kZ5, jZ5⟩ := sp_403 (ν := ν) hZ (a1 := 0) (by omega) (a2 := 2) (by omega) (a3 := (Z 2 0 0 (3820 + 5 * x1))) (by omega) (a4 := (-1)) (by omega) (zbh (c := 0) (k := 1) hM9 (Nat.le_of_ble_eq_true rfl))
      have hZ5U : zU [] Zs Z5 := zU_t hU jZ5 zU_b0
      have hZ5K : zC [2] Zs Z5 := zC_t hK kZ5 (by decide)
      replace hP := zl_e hP hZ5
      refine wz_cV_of (zas (zcons rfl (zcons (zvi (show (0 : Int32) = i3 0 from rfl)) (zcons (zvi (show (2 : Int32) = i3 2 from rfl)) (zcons (zvi (zm_rd (Z := Z) (ν := ν) (k := 2) (show ((0 : Nat) : Int) = 0 from rfl) (show ((0 : Nat) : Int) = 0 from rfl) (i3I (y := (3820 + 5 * x1)) (i3A (i3A (show (3820 : Int32) = i3 3820 from rfl) (i3M (show (5 : Int32) = i3 5 from rfl) (rfl : i3 x1 = i3 x1))) (show (0 : Int32) = i3 0 from rfl)) (by omega) (by omega) (by omega)))) (zcons (zvi (show (-1 : Int32) = i3 (-1) from rfl)) rfl))))) c9) ?_
      clear c9
      refine wz_i0 (i3O (n := 4400) (i3A (i3A (show (3820 : Int32) = i3 3820 from rfl) (i3M (show (5 : Int32) = i3 5 from rfl) (rfl : i3 x1 = i3 x1))) (show (0 : Int32) = i3 0 from rfl)) (by omega) (by omega) (by omega)) ?_
      obtain ⟨Z6, hZ6⟩ := zx (zu Z5 2 0 0 (3820 + 5 * x1) 0)
      replace hP := zl_e hP hZ6
      have hZ6I := zM_02 hZ5I hZ6 (by simp only [zsp]; omega)
      have hZ6U : zU [] Zs Z6 := zU_u hZ5U hZ6 (Or.inl rfl)
      have hZ6K : zC [2] Zs Z6 := zC_u hZ5K hZ6 (zcl_2w (by omega) rfl)
      intro μ9 e9
      replace e9 := e9.trans (zm_wI (Z := Z5) (ν := ν) hZ6 (show ((0 : Nat) : Int) = 0 from rfl) (show ((0 : Nat) : Int) = 0 from rfl) (i3I (y := (3820 + 5 * x1)) (i3A (i3A (show (3820 : Int32) = i3 3820 from rfl) (i3M (show (5 : Int32) = i3 5 from rfl) (rfl : i3 x1 = i3 x1))) (show (0 : Int32) = i3 0 from rfl)) (by omega) (by omega) (by omega)) (show (0 : Int32) = i3 0 from rfl))
      subst e9
      refine wz_i0 (i3O (n := 4400) (i3A (i3A (show (3820 : Int32) = i3 3820 from rfl) (i3M (show (5 : Int32) = i3 5 from rfl) (rfl : i3 x1 = i3 x1))) (show (4 : Int32) = i3 4 from rfl)) (by omega) (by omega) (by omega)) ?_
      refine wz_i0 (i3O (n := 4400) (i3A (i3A (show (3820 : Int32) = i3 3820 from rfl) (i3M (show (5 : Int32) = i3 5 from rfl) (rfl : i3 x1 = i3 x1))) (show (4 : Int32) = i3 4 from rfl)) (by omega) (by omega) (by omega)) ?_
      have r7 := zM_f hZ6I 2 0 0 (3824 + 5 * x1)
      have r8 := w3_r ((Z6 2 0 0 (3824 + 5 * x1)) + (Z 2 0 0 (3820 + 5 * x1)))
      obtain ⟨Z9, hZ9⟩ := zx (zu Z6 2 0 0 (3824 + 5 * x1) (w3 ((Z6 2 0 0 (3824 + 5 * x1)) + (Z 2 0 0 (3820 + 5 * x1)))))
      replace hP := zl_e hP hZ9
      have hZ9I := zM_u2 hZ6I hZ9 (lo := -2147483648) (hi := 2147483647) (zs_3820_4 (x := x1) (by omega) (by omega) (by omega)) (by omega) ⟨by decide, by decide⟩ (by simp only [zsp]; omega)
      have hZ9U : zU [] Zs Z9 := zU_u hZ6U hZ9 (Or.inl rfl)
      have hZ9K : zC [2] Zs Z9 := zC_u hZ6K hZ9 (zcl_2w (by omega) rfl)
      intro μ9 e9
      replace e9 := e9.trans (zm_wI (Z := Z6) (ν := ν) hZ9 (show ((0 : Nat) : Int) = 0 from rfl) (show ((0 : Nat) : Int) = 0 from rfl) (i3I (y := (3824 + 5 * x1)) (i3A (i3A (show (3820 : Int32) = i3 3820 from rfl) (i3M (show (5 : Int32) = i3 5 from rfl) (rfl : i3 x1 = i3 x1))) (show (4 : Int32) = i3 4 from rfl)) (by omega) (by omega) (by omega)) (i3W (i3A (zm_rd (Z := Z6) (ν := ν) (k := 2) (show ((0 : Nat) : Int) = 0 from rfl) (show ((0 : Nat) : Int) = 0 from rfl) (i3I (y := (3824 + 5 * x1)) (i3A (i3A (show (3820 : Int32) = i3 3820 from rfl) (i3M (show (5 : Int32) = i3 5 from rfl) (rfl : i3 x1 = i3 x1))) (show (4 : Int32) = i3 4 from rfl)) (by omega) (by omega) (by omega))) (zm_rd (Z := Z) (ν := ν) (k := 2) (show ((0 : Nat) : Int) = 0 from rfl) (show ((0 : Nat) : Int) = 0 from rfl) (i3I (y := (3820 + 5 * x1)) (i3A (i3A (show (3820 : Int32) = i3 3820 from rfl) (i3M (show (5 : Int32) = i3 5 from rfl) (rfl : i3 x1 = i3 x1))) (show (0 : Int32) = i3 0 from rfl)) (by omega) (by omega) (by omega))))))
      subst e9
      obtain ⟨m2, rfl⟩ : ∃ m2, m = m2 + 1 := ⟨m - 1, by omega⟩
      exact wz_k1 ⟨m2, by omega, xM9 + 1, Z9, (x1 + 1), (zconso rfl (zconso (zvo (i3A (rfl : i3 x1 = i3 x1) (show (1 : Int32) = i3 1 from rfl))) (zconso rfl rfl))), rfl, by omega, (zmt hZ9I rfl), hZ9K, hZ9U, by omega, by omega,  hP⟩
/- yX12_kPaysGrowers -/
def zf_413 (Z : qz_Z) : qz_Z := (zlet2 (zl_413_1 7 Z 0) (fun Z2 y1 => Z2))
theorem sp_413 {s : zSM} {Z : qz_Z} {ν : qz_N} (hZ : zM s Z) (hM : s.2 + 7 ≤ 1000000000) : ∃ P : qz_Z, P = zf_413 Z ∧ (qf_413 [.inr (.inr (some (1, 0, 0)))] (zm Z ν) = some (zm P ν, .inl none) ∧ zM (zb s 7) P ∧ zC [2] Z P ∧ zU [] Z P) := by
  obtain ⟨P, hP⟩ := zx (zf_413 Z)
  refine zc_V (Q := fun P => zM (zb s 7) P ∧ zC [2] Z P ∧ zU [] Z P) hP (fw_413  _ _ ?_)
  replace hP : zE P (zf_413 Z) := hP
  unfold zf_413 at hP
  refine sl_413_1 (ν := ν) (zm0 hZ) (zbh (c := 0) (k := 7) hM (Nat.le_of_ble_eq_true rfl)) (xM9 := 0) zC_r (x1 := 0) (by omega) zU_r (Nat.le_of_ble_eq_true rfl)  (zconso rfl (zconso (zvo (show (0 : Int32) = i3 0 from rfl)) (zconso rfl rfl))) rfl ?_
  intro L3 Z2 y1 hL3 hZ2I kZ2 jZ2 gy1 q9
  replace hP := zl_e2 hP (Eq.symm q9)
  clear q9
  have hZ2U : zU [] Z Z2 := zU_t zU_r jZ2 zU_b0
  have hZ2K : zC [2] Z Z2 := zC_t zC_r kZ2 (by decide)
  refine fc_413_2  _ _ _ _ hL3 ?_
  exact zlV hP ⟨hZ2I, hZ2K, hZ2U⟩
/- yX12_rClosed -/
def zl_463_1 : Nat → qz_Z → Int → qz_Z × Int
  | 0, Z, x1 => (Z, x1)
  | m + 1, Z, x1 => (if (Z 2 0 0 1200) ≤ x1 then (Z, x1) else (zlet (zu Z 2 0 0 (1218 + 12 * x1) 0) (fun Z3 => zl_463_1 m Z3 (x1 + 1))))
theorem sl_463_1 {s : zSM} {Zs Z : qz_Z} {ν : qz_N} (hZ : zM s Z) (hM : s.2 + 0 ≤ 1000000000) (hK : zC [2] Zs Z) {x1 : Int} (gx1 : 0 ≤ x1 ∧ x1 ≤ 6) (hU : zU [] Zs Z) {k : wz_K} {R : wz_R} {L : qz_L} (hL : qz_fg [true, true] L = [some (.inr (.inr (some (1, 0, 0)))), some (.inl (i3 x1))]) {T : qz_Z × Int} (hP : zE T (zl_463_1 ((6 - x1).toNat + 1) Z x1)) (hk : ∀ (L9 : qz_L) (Z9 : qz_Z) (yx1 : Int), qz_fg [false, false] L9 = [none, none] → zM s Z9 → zC [2] Zs Z9 → zU [] Zs Z9 → (0 ≤ yx1 ∧ yx1 ≤ 6) → zE T ((Z9, yx1)) → k 0 (L9, [], zm Z9 ν)) : wz_loop qb_463_1 65536 k R (L, [], zm Z ν) := by
  refine wz_lp sb_463_1 (fun m x => ∃ Z : qz_Z, ∃ x1 : Int, qz_fg [true, true] x.1 = [some (.inr (.inr (some (1, 0, 0)))), some (.inl (i3 x1))] ∧ x.2 = ([], zm Z ν) ∧ zM s Z ∧ zC [2] Zs Z ∧ zU [] Zs Z ∧ m = (6 - x1).toNat ∧ (0 ≤ x1 ∧ x1 ≤ 6) ∧ zE T (zl_463_1 (m + 1) Z x1)) ?_ 65536 ((6 - x1).toNat) _ (by omega) ⟨Z, x1, hL, rfl, hZ, hK, hU, rfl, gx1, hP⟩
  clear hP gx1 hZ hK hU hL
  clear x1
  clear Z
  rintro m ⟨L, st, μ⟩ ⟨Z, x1, hL, hx, hZ, hK, hU, hm, gx1, hP⟩
  cases hx
  refine fb_463_1 (i3 x1) _ _ _ _ hL ?_
  have r1 := zM_k hZ 2 0 0 1200 (lo := 0) (hi := 6) (by decide) rfl
  refine wz_br (i3Le (zm_rd (Z := Z) (ν := ν) (k := 2) (show ((0 : Nat) : Int) = 0 from rfl) (show ((0 : Nat) : Int) = 0 from rfl) (show ((1200 : Nat) : Int) = 1200 from rfl)) (rfl : i3 x1 = i3 x1) (by omega) (by omega) (by omega) (by omega)) (fun h2 => ?_) (fun h2 => ?_)
  · replace hP := zE_p hP h2
    exact hk _ _ _ (zconso rfl (zconso rfl rfl)) hZ hK hU (by omega)  hP
  · replace hP := zE_n hP h2
    refine wz_i0 (i3O (n := 4400) (i3A (i3A (show (1210 : Int32) = i3 1210 from rfl) (i3M (show (12 : Int32) = i3 12 from rfl) (rfl : i3 x1 = i3 x1))) (show (8 : Int32) = i3 8 from rfl)) (by omega) (by omega) (by omega)) ?_
    obtain ⟨Z3, hZ3⟩ := zx (zu Z 2 0 0 (1218 + 12 * x1) 0)
    replace hP := zl_e hP hZ3
    have hZ3I := zM_02 hZ hZ3 (by simp only [zsp]; omega)
    have hZ3U : zU [] Zs Z3 := zU_u hU hZ3 (Or.inl rfl)
    have hZ3K : zC [2] Zs Z3 := zC_u hK hZ3 (zcl_2w (by omega) rfl)
    intro μ9 e9
    replace e9 := e9.trans (zm_wI (Z := Z) (ν := ν) hZ3 (show ((0 : Nat) : Int) = 0 from rfl) (show ((0 : Nat) : Int) = 0 from rfl) (i3I (y := (1218 + 12 * x1)) (i3A (i3A (show (1210 : Int32) = i3 1210 from rfl) (i3M (show (12 : Int32) = i3 12 from rfl) (rfl : i3 x1 = i3 x1))) (show (8 : Int32) = i3 8 from rfl)) (by omega) (by omega) (by omega)) (show (0 : Int32) = i3 0 from rfl))
    subst e9
    obtain ⟨m2, rfl⟩ : ∃ m2, m = m2 + 1 := ⟨m - 1, by omega⟩
    exact wz_k1 ⟨m2, by omega, Z3, (x1 + 1), (zconso rfl (zconso (zvo (i3A (rfl : i3 x1 = i3 x1) (show (1 : Int32) = i3 1 from rfl))) rfl)), rfl, hZ3I, hZ3K, hZ3U, by omega, by omega,  hP⟩
/- yX12_rClosed -/
def zf_463 (Z : qz_Z) : qz_Z := (zlet2 (zl_463_1 7 Z 0) (fun Z2 y1 => Z2))
theorem sp_463 {s : zSM} {Z : qz_Z} {ν : qz_N} (hZ : zM s Z) (hM : s.2 + 0 ≤ 1000000000) : ∃ P : qz_Z, P = zf_463 Z ∧ (qf_463 [.inr (.inr (some (1, 0, 0)))] (zm Z ν) = some (zm P ν, .inl none) ∧ zM s P ∧ zC [2] Z P ∧ zU [] Z P) := by
  obtain ⟨P, hP⟩ := zx (zf_463 Z)
  refine zc_V (Q := fun P => zM s P ∧ zC [2] Z P ∧ zU [] Z P) hP (fw_463  _ _ ?_)
  replace hP : zE P (zf_463 Z) := hP
  unfold zf_463 at hP
  refine sl_463_1 (ν := ν) hZ (zbh (c := 0) (k := 0) hM (Nat.le_of_ble_eq_true rfl)) zC_r (x1 := 0) (by omega) zU_r  (zconso rfl (zconso (zvo (show (0 : Int32) = i3 0 from rfl)) rfl)) rfl ?_
  intro L3 Z2 y1 hL3 hZ2I kZ2 jZ2 gy1 q9
  replace hP := zl_e2 hP (Eq.symm q9)
  clear q9
  have hZ2U : zU [] Z Z2 := zU_t zU_r jZ2 zU_b0
  have hZ2K : zC [2] Z Z2 := zC_t zC_r kZ2 (by decide)
  refine fc_463_2  _ _ _ _ hL3 ?_
  exact zlV hP ⟨hZ2I, hZ2K, hZ2U⟩
/- yX12_rWorked -/
def zl_492_1 : Nat → qz_Z → Int → Int → Int × Int
  | 0, Z, x1, x2 => (x1, x2)
  | m + 1, Z, x1, x2 => (if (Z 2 0 0 1200) ≤ x2 then (x1, x2) else zl_492_1 m Z (w3 (x1 + (Z 2 0 0 (1218 + 12 * x2)))) (x2 + 1))
theorem sl_492_1 {s : zSM} {Z : qz_Z} {ν : qz_N} (hZ : zM s Z) (hM : s.2 + 0 ≤ 1000000000) {x1 : Int} (gx1 : -2147483648 ≤ x1 ∧ x1 ≤ 2147483647) {x2 : Int} (gx2 : 0 ≤ x2 ∧ x2 ≤ 6) {k : wz_K} {R : wz_R} {L : qz_L} (hL : qz_fg [true, true, true] L = [some (.inr (.inr (some (1, 0, 0)))), some (.inl (i3 x1)), some (.inl (i3 x2))]) {T : Int × Int} (hP : zE T (zl_492_1 ((6 - x2).toNat + 1) Z x1 x2)) (hk : ∀ (L9 : qz_L) (yx1 yx2 : Int), qz_fg [false, true, false] L9 = [none, some (.inl (i3 yx1)), none] → (-2147483648 ≤ yx1 ∧ yx1 ≤ 2147483647) → (0 ≤ yx2 ∧ yx2 ≤ 6) → zE T ((yx1, yx2)) → k 0 (L9, [], zm Z ν)) : wz_loop qb_492_1 65536 k R (L, [], zm Z ν) := by
  refine wz_lp sb_492_1 (fun m x => ∃ x1 : Int, ∃ x2 : Int, qz_fg [true, true, true] x.1 = [some (.inr (.inr (some (1, 0, 0)))), some (.inl (i3 x1)), some (.inl (i3 x2))] ∧ x.2 = ([], zm Z ν) ∧ m = (6 - x2).toNat ∧ (-2147483648 ≤ x1 ∧ x1 ≤ 2147483647) ∧ (0 ≤ x2 ∧ x2 ≤ 6) ∧ zE T (zl_492_1 (m + 1) Z x1 x2)) ?_ 65536 ((6 - x2).toNat) _ (by omega) ⟨x1, x2, hL, rfl, rfl, gx1, gx2, hP⟩
  clear hP gx1 gx2 hL
  clear x1 x2
  rintro m ⟨L, st, μ⟩ ⟨x1, x2, hL, hx, hm, gx1, gx2, hP⟩
  cases hx
  refine fb_492_1 (i3 x1) (i3 x2) _ _ _ _ hL ?_
  have r1 := zM_k hZ 2 0 0 1200 (lo := 0) (hi := 6) (by decide) rfl
  refine wz_br (i3Le (zm_rd (Z := Z) (ν := ν) (k := 2) (show ((0 : Nat) : Int) = 0 from rfl) (show ((0 : Nat) : Int) = 0 from rfl) (show ((1200 : Nat) : Int) = 1200 from rfl)) (rfl : i3 x2 = i3 x2) (by omega) (by omega) (by omega) (by omega)) (fun h2 => ?_) (fun h2 => ?_)
  · replace hP := zE_p hP h2
    exact hk _ _ _ (zconso rfl (zconso (zvo (rfl : i3 x1 = i3 x1)) (zconso rfl rfl)))  (by omega) (by omega)  hP
  · replace hP := zE_n hP h2
    refine wz_i0 (i3O (n := 4400) (i3A (i3A (show (1210 : Int32) = i3 1210 from rfl) (i3M (show (12 : Int32) = i3 12 from rfl) (rfl : i3 x2 = i3 x2))) (show (8 : Int32) = i3 8 from rfl)) (by omega) (by omega) (by omega)) ?_
    have r3 := zM_f hZ 2 0 0 (1218 + 12 * x2)
    have r4 := w3_r (x1 + (Z 2 0 0 (1218 + 12 * x2)))
    obtain ⟨m2, rfl⟩ : ∃ m2, m = m2 + 1 := ⟨m - 1, by omega⟩
    exact wz_k1 ⟨m2, by omega, (w3 (x1 + (Z 2 0 0 (1218 + 12 * x2)))), (x2 + 1), (zconso rfl (zconso (zvo (i3W (i3A (rfl : i3 x1 = i3 x1) (zm_rd (Z := Z) (ν := ν) (k := 2) (show ((0 : Nat) : Int) = 0 from rfl) (show ((0 : Nat) : Int) = 0 from rfl) (i3I (y := (1218 + 12 * x2)) (i3A (i3A (show (1210 : Int32) = i3 1210 from rfl) (i3M (show (12 : Int32) = i3 12 from rfl) (rfl : i3 x2 = i3 x2))) (show (8 : Int32) = i3 8 from rfl)) (by omega) (by omega) (by omega)))))) (zconso (zvo (i3A (rfl : i3 x2 = i3 x2) (show (1 : Int32) = i3 1 from rfl))) rfl))), rfl,  by omega, by omega, by omega,  hP⟩
/- yX12_rWorked -/
def zf_492 (Z : qz_Z) : Int := (zlet2 (zl_492_1 7 Z 0 0) (fun y1 y2 => y1))
theorem sp_492 {s : zSM} {Z : qz_Z} {ν : qz_N} (hZ : zM s Z) (hM : s.2 + 0 ≤ 1000000000) : ∃ P : Int, P = zf_492 Z ∧ (qf_492 [.inr (.inr (some (1, 0, 0)))] (zm Z ν) = some (zm Z ν, .inl (some (.inl (i3 P)))) ∧ -2147483648 ≤ P ∧ P ≤ 2147483647) := by
  obtain ⟨P, hP⟩ := zx (zf_492 Z)
  refine zc_R (Q := fun P => -2147483648 ≤ P ∧ P ≤ 2147483647) hP (fw_492  _ _ ?_)
  replace hP : zE P (zf_492 Z) := hP
  unfold zf_492 at hP
  refine sl_492_1 (ν := ν) hZ (zbh (c := 0) (k := 0) hM (Nat.le_of_ble_eq_true rfl)) (x1 := 0) (by omega) (x2 := 0) (by omega)  (zconso rfl (zconso (zvo (show (0 : Int32) = i3 0 from rfl)) (zconso (zvo (show (0 : Int32) = i3 0 from rfl)) rfl))) rfl ?_
  intro L3 y1 y2 hL3 gy1 gy2 q9
  replace hP := zl_e2 hP (Eq.symm q9)
  clear q9
  refine fc_492_2 (i3 y1) _ _ _ _ hL3 ?_
  exact zlR hP (rfl : i3 y1 = i3 y1) ⟨by omega, by omega⟩
/- yX12_kClose -/
def zl_402_1 (x1 : Int) : Nat → qz_Z → Int → qz_Z × Int
  | 0, Z, x2 => (Z, x2)
  | m + 1, Z, x2 => (if (Z 2 0 0 3815) ≤ x2 then (Z, x2) else (if (Z 2 0 0 (3852 + 8 * x2)) ≠ 0 then zl_402_1 x1 m Z (x2 + 1) else (zlet (zf_408 Z x2) (fun Z14 => zl_402_1 x1 m Z14 (x2 + 1)))))
/- yX12_kClose -/
def zf_402 (Z : qz_Z) (a1 : Int) : qz_Z := (zlet (zf_492 Z) (fun v1 => (zlet (zf_403 Z 0 4 (w3 ((Z 2 0 0 3811) * v1)) (-1)) (fun Z4 => (zlet (zf_463 Z4) (fun Z5 => (zlet2 (zl_402_1 a1 13 Z5 0) (fun Z7 y6 => (if (a1 % 7) ≠ 6 then (if (Z7 2 0 0 3803) ≤ 0 then (zlet (zf_403 Z7 9 3 (w3 (-(Z7 2 0 0 3803))) (-1)) (fun Z13 => (if (Z13 2 0 0 3804) ≤ 0 then (zlet (zf_403 Z13 9 4 (w3 (-(Z13 2 0 0 3804))) (-1)) (fun Z17 => (if (Z17 2 0 0 3805) ≤ 0 then (zlet (zf_403 Z17 9 5 (w3 (-(Z17 2 0 0 3805))) (-1)) (fun Z21 => (if (Z21 2 0 0 3806) ≤ 0 then (zlet (zf_403 Z21 9 6 (w3 (-(Z21 2 0 0 3806))) (-1)) (fun Z25 => (if (Z25 2 0 0 3807) ≤ 0 then (zlet (zf_403 Z25 9 7 (w3 (-(Z25 2 0 0 3807))) (-1)) (fun Z29 => (if (Z29 2 0 0 3808) ≤ 0 then (zlet (zf_403 Z29 9 8 (w3 (-(Z29 2 0 0 3808))) (-1)) (fun Z33 => Z33)) else (zlet (zf_403 Z29 8 9 (Z29 2 0 0 3808) (-1)) (fun Z34 => Z34))))) else (zlet (zf_403 Z25 7 9 (Z25 2 0 0 3807) (-1)) (fun Z35 => (if (Z35 2 0 0 3808) ≤ 0 then (zlet (zf_403 Z35 9 8 (w3 (-(Z35 2 0 0 3808))) (-1)) (fun Z39 => Z39)) else (zlet (zf_403 Z35 8 9 (Z35 2 0 0 3808) (-1)) (fun Z40 => Z40)))))))) else (zlet (zf_403 Z21 6 9 (Z21 2 0 0 3806) (-1)) (fun Z41 => (if (Z41 2 0 0 3807) ≤ 0 then (zlet (zf_403 Z41 9 7 (w3 (-(Z41 2 0 0 3807))) (-1)) (fun Z45 => (if (Z45 2 0 0 3808) ≤ 0 then (zlet (zf_403 Z45 9 8 (w3 (-(Z45 2 0 0 3808))) (-1)) (fun Z49 => Z49)) else (zlet (zf_403 Z45 8 9 (Z45 2 0 0 3808) (-1)) (fun Z50 => Z50))))) else (zlet (zf_403 Z41 7 9 (Z41 2 0 0 3807) (-1)) (fun Z51 => (if (Z51 2 0 0 3808) ≤ 0 then (zlet (zf_403 Z51 9 8 (w3 (-(Z51 2 0 0 3808))) (-1)) (fun Z55 => Z55)) else (zlet (zf_403 Z51 8 9 (Z51 2 0 0 3808) (-1)) (fun Z56 => Z56))))))))))) else (zlet (zf_403 Z17 5 9 (Z17 2 0 0 3805) (-1)) (fun Z57 => (if (Z57 2 0 0 3806) ≤ 0 then (zlet (zf_403 Z57 9 6 (w3 (-(Z57 2 0 0 3806))) (-1)) (fun Z61 => (if (Z61 2 0 0 3807) ≤ 0 then (zlet (zf_403 Z61 9 7 (w3 (-(Z61 2 0 0 3807))) (-1)) (fun Z65 => (if (Z65 2 0 0 3808) ≤ 0 then (zlet (zf_403 Z65 9 8 (w3 (-(Z65 2 0 0 3808))) (-1)) (fun Z69 => Z69)) else (zlet (zf_403 Z65 8 9 (Z65 2 0 0 3808) (-1)) (fun Z70 => Z70))))) else (zlet (zf_403 Z61 7 9 (Z61 2 0 0 3807) (-1)) (fun Z71 => (if (Z71 2 0 0 3808) ≤ 0 then (zlet (zf_403 Z71 9 8 (w3 (-(Z71 2 0 0 3808))) (-1)) (fun Z75 => Z75)) else (zlet (zf_403 Z71 8 9 (Z71 2 0 0 3808) (-1)) (fun Z76 => Z76)))))))) else (zlet (zf_403 Z57 6 9 (Z57 2 0 0 3806) (-1)) (fun Z77 => (if (Z77 2 0 0 3807) ≤ 0 then (zlet (zf_403 Z77 9 7 (w3 (-(Z77 2 0 0 3807))) (-1)) (fun Z81 => (if (Z81 2 0 0 3808) ≤ 0 then (zlet (zf_403 Z81 9 8 (w3 (-(Z81 2 0 0 3808))) (-1)) (fun Z85 => Z85)) else (zlet (zf_403 Z81 8 9 (Z81 2 0 0 3808) (-1)) (fun Z86 => Z86))))) else (zlet (zf_403 Z77 7 9 (Z77 2 0 0 3807) (-1)) (fun Z87 => (if (Z87 2 0 0 3808) ≤ 0 then (zlet (zf_403 Z87 9 8 (w3 (-(Z87 2 0 0 3808))) (-1)) (fun Z91 => Z91)) else (zlet (zf_403 Z87 8 9 (Z87 2 0 0 3808) (-1)) (fun Z92 => Z92)))))))))))))) else (zlet (zf_403 Z13 4 9 (Z13 2 0 0 3804) (-1)) (fun Z93 => (if (Z93 2 0 0 3805) ≤ 0 then (zlet (zf_403 Z93 9 5 (w3 (-(Z93 2 0 0 3805))) (-1)) (fun Z97 => (if (Z97 2 0 0 3806) ≤ 0 then (zlet (zf_403 Z97 9 6 (w3 (-(Z97 2 0 0 3806))) (-1)) (fun Z101 => (if (Z101 2 0 0 3807) ≤ 0 then (zlet (zf_403 Z101 9 7 (w3 (-(Z101 2 0 0 3807))) (-1)) (fun Z105 => (if (Z105 2 0 0 3808) ≤ 0 then (zlet (zf_403 Z105 9 8 (w3 (-(Z105 2 0 0 3808))) (-1)) (fun Z109 => Z109)) else (zlet (zf_403 Z105 8 9 (Z105 2 0 0 3808) (-1)) (fun Z110 => Z110))))) else (zlet (zf_403 Z101 7 9 (Z101 2 0 0 3807) (-1)) (fun Z111 => (if (Z111 2 0 0 3808) ≤ 0 then (zlet (zf_403 Z111 9 8 (w3 (-(Z111 2 0 0 3808))) (-1)) (fun Z115 => Z115)) else (zlet (zf_403 Z111 8 9 (Z111 2 0 0 3808) (-1)) (fun Z116 => Z116)))))))) else (zlet (zf_403 Z97 6 9 (Z97 2 0 0 3806) (-1)) (fun Z117 => (if (Z117 2 0 0 3807) ≤ 0 then (zlet (zf_403 Z117 9 7 (w3 (-(Z117 2 0 0 3807))) (-1)) (fun Z121 => (if (Z121 2 0 0 3808) ≤ 0 then (zlet (zf_403 Z121 9 8 (w3 (-(Z121 2 0 0 3808))) (-1)) (fun Z125 => Z125)) else (zlet (zf_403 Z121 8 9 (Z121 2 0 0 3808) (-1)) (fun Z126 => Z126))))) else (zlet (zf_403 Z117 7 9 (Z117 2 0 0 3807) (-1)) (fun Z127 => (if (Z127 2 0 0 3808) ≤ 0 then (zlet (zf_403 Z127 9 8 (w3 (-(Z127 2 0 0 3808))) (-1)) (fun Z131 => Z131)) else (zlet (zf_403 Z127 8 9 (Z127 2 0 0 3808) (-1)) (fun Z132 => Z132))))))))))) else (zlet (zf_403 Z93 5 9 (Z93 2 0 0 3805) (-1)) (fun Z133 => (if (Z133 2 0 0 3806) ≤ 0 then (zlet (zf_403 Z133 9 6 (w3 (-(Z133 2 0 0 3806))) (-1)) (fun Z137 => (if (Z137 2 0 0 3807) ≤ 0 then (zlet (zf_403 Z137 9 7 (w3 (-(Z137 2 0 0 3807))) (-1)) (fun Z141 => (if (Z141 2 0 0 3808) ≤ 0 then (zlet (zf_403 Z141 9 8 (w3 (-(Z141 2 0 0 3808))) (-1)) (fun Z145 => Z145)) else (zlet (zf_403 Z141 8 9 (Z141 2 0 0 3808) (-1)) (fun Z146 => Z146))))) else (zlet (zf_403 Z137 7 9 (Z137 2 0 0 3807) (-1)) (fun Z147 => (if (Z147 2 0 0 3808) ≤ 0 then (zlet (zf_403 Z147 9 8 (w3 (-(Z147 2 0 0 3808))) (-1)) (fun Z151 => Z151)) else (zlet (zf_403 Z147 8 9 (Z147 2 0 0 3808) (-1)) (fun Z152 => Z152)))))))) else (zlet (zf_403 Z133 6 9 (Z133 2 0 0 3806) (-1)) (fun Z153 => (if (Z153 2 0 0 3807) ≤ 0 then (zlet (zf_403 Z153 9 7 (w3 (-(Z153 2 0 0 3807))) (-1)) (fun Z157 => (if (Z157 2 0 0 3808) ≤ 0 then (zlet (zf_403 Z157 9 8 (w3 (-(Z157 2 0 0 3808))) (-1)) (fun Z161 => Z161)) else (zlet (zf_403 Z157 8 9 (Z157 2 0 0 3808) (-1)) (fun Z162 => Z162))))) else (zlet (zf_403 Z153 7 9 (Z153 2 0 0 3807) (-1)) (fun Z163 => (if (Z163 2 0 0 3808) ≤ 0 then (zlet (zf_403 Z163 9 8 (w3 (-(Z163 2 0 0 3808))) (-1)) (fun Z167 => Z167)) else (zlet (zf_403 Z163 8 9 (Z163 2 0 0 3808) (-1)) (fun Z168 => Z168))))))))))))))))) else (zlet (zf_403 Z7 3 9 (Z7 2 0 0 3803) (-1)) (fun Z169 => (if (Z169 2 0 0 3804) ≤ 0 then (zlet (zf_403 Z169 9 4 (w3 (-(Z169 2 0 0 3804))) (-1)) (fun Z173 => (if (Z173 2 0 0 3805) ≤ 0 then (zlet (zf_403 Z173 9 5 (w3 (-(Z173 2 0 0 3805))) (-1)) (fun Z177 => (if (Z177 2 0 0 3806) ≤ 0 then (zlet (zf_403 Z177 9 6 (w3 (-(Z177 2 0 0 3806))) (-1)) (fun Z181 => (if (Z181 2 0 0 3807) ≤ 0 then (zlet (zf_403 Z181 9 7 (w3 (-(Z181 2 0 0 3807))) (-1)) (fun Z185 => (if (Z185 2 0 0 3808) ≤ 0 then (zlet (zf_403 Z185 9 8 (w3 (-(Z185 2 0 0 3808))) (-1)) (fun Z189 => Z189)) else (zlet (zf_403 Z185 8 9 (Z185 2 0 0 3808) (-1)) (fun Z190 => Z190))))) else (zlet (zf_403 Z181 7 9 (Z181 2 0 0 3807) (-1)) (fun Z191 => (if (Z191 2 0 0 3808) ≤ 0 then (zlet (zf_403 Z191 9 8 (w3 (-(Z191 2 0 0 3808))) (-1)) (fun Z195 => Z195)) else (zlet (zf_403 Z191 8 9 (Z191 2 0 0 3808) (-1)) (fun Z196 => Z196)))))))) else (zlet (zf_403 Z177 6 9 (Z177 2 0 0 3806) (-1)) (fun Z197 => (if (Z197 2 0 0 3807) ≤ 0 then (zlet (zf_403 Z197 9 7 (w3 (-(Z197 2 0 0 3807))) (-1)) (fun Z201 => (if (Z201 2 0 0 3808) ≤ 0 then (zlet (zf_403 Z201 9 8 (w3 (-(Z201 2 0 0 3808))) (-1)) (fun Z205 => Z205)) else (zlet (zf_403 Z201 8 9 (Z201 2 0 0 3808) (-1)) (fun Z206 => Z206))))) else (zlet (zf_403 Z197 7 9 (Z197 2 0 0 3807) (-1)) (fun Z207 => (if (Z207 2 0 0 3808) ≤ 0 then (zlet (zf_403 Z207 9 8 (w3 (-(Z207 2 0 0 3808))) (-1)) (fun Z211 => Z211)) else (zlet (zf_403 Z207 8 9 (Z207 2 0 0 3808) (-1)) (fun Z212 => Z212))))))))))) else (zlet (zf_403 Z173 5 9 (Z173 2 0 0 3805) (-1)) (fun Z213 => (if (Z213 2 0 0 3806) ≤ 0 then (zlet (zf_403 Z213 9 6 (w3 (-(Z213 2 0 0 3806))) (-1)) (fun Z217 => (if (Z217 2 0 0 3807) ≤ 0 then (zlet (zf_403 Z217 9 7 (w3 (-(Z217 2 0 0 3807))) (-1)) (fun Z221 => (if (Z221 2 0 0 3808) ≤ 0 then (zlet (zf_403 Z221 9 8 (w3 (-(Z221 2 0 0 3808))) (-1)) (fun Z225 => Z225)) else (zlet (zf_403 Z221 8 9 (Z221 2 0 0 3808) (-1)) (fun Z226 => Z226))))) else (zlet (zf_403 Z217 7 9 (Z217 2 0 0 3807) (-1)) (fun Z227 => (if (Z227 2 0 0 3808) ≤ 0 then (zlet (zf_403 Z227 9 8 (w3 (-(Z227 2 0 0 3808))) (-1)) (fun Z231 => Z231)) else (zlet (zf_403 Z227 8 9 (Z227 2 0 0 3808) (-1)) (fun Z232 => Z232)))))))) else (zlet (zf_403 Z213 6 9 (Z213 2 0 0 3806) (-1)) (fun Z233 => (if (Z233 2 0 0 3807) ≤ 0 then (zlet (zf_403 Z233 9 7 (w3 (-(Z233 2 0 0 3807))) (-1)) (fun Z237 => (if (Z237 2 0 0 3808) ≤ 0 then (zlet (zf_403 Z237 9 8 (w3 (-(Z237 2 0 0 3808))) (-1)) (fun Z241 => Z241)) else (zlet (zf_403 Z237 8 9 (Z237 2 0 0 3808) (-1)) (fun Z242 => Z242))))) else (zlet (zf_403 Z233 7 9 (Z233 2 0 0 3807) (-1)) (fun Z243 => (if (Z243 2 0 0 3808) ≤ 0 then (zlet (zf_403 Z243 9 8 (w3 (-(Z243 2 0 0 3808))) (-1)) (fun Z247 => Z247)) else (zlet (zf_403 Z243 8 9 (Z243 2 0 0 3808) (-1)) (fun Z248 => Z248)))))))))))))) else (zlet (zf_403 Z169 4 9 (Z169 2 0 0 3804) (-1)) (fun Z249 => (if (Z249 2 0 0 3805) ≤ 0 then (zlet (zf_403 Z249 9 5 (w3 (-(Z249 2 0 0 3805))) (-1)) (fun Z253 => (if (Z253 2 0 0 3806) ≤ 0 then (zlet (zf_403 Z253 9 6 (w3 (-(Z253 2 0 0 3806))) (-1)) (fun Z257 => (if (Z257 2 0 0 3807) ≤ 0 then (zlet (zf_403 Z257 9 7 (w3 (-(Z257 2 0 0 3807))) (-1)) (fun Z261 => (if (Z261 2 0 0 3808) ≤ 0 then (zlet (zf_403 Z261 9 8 (w3 (-(Z261 2 0 0 3808))) (-1)) (fun Z265 => Z265)) else (zlet (zf_403 Z261 8 9 (Z261 2 0 0 3808) (-1)) (fun Z266 => Z266))))) else (zlet (zf_403 Z257 7 9 (Z257 2 0 0 3807) (-1)) (fun Z267 => (if (Z267 2 0 0 3808) ≤ 0 then (zlet (zf_403 Z267 9 8 (w3 (-(Z267 2 0 0 3808))) (-1)) (fun Z271 => Z271)) else (zlet (zf_403 Z267 8 9 (Z267 2 0 0 3808) (-1)) (fun Z272 => Z272)))))))) else (zlet (zf_403 Z253 6 9 (Z253 2 0 0 3806) (-1)) (fun Z273 => (if (Z273 2 0 0 3807) ≤ 0 then (zlet (zf_403 Z273 9 7 (w3 (-(Z273 2 0 0 3807))) (-1)) (fun Z277 => (if (Z277 2 0 0 3808) ≤ 0 then (zlet (zf_403 Z277 9 8 (w3 (-(Z277 2 0 0 3808))) (-1)) (fun Z281 => Z281)) else (zlet (zf_403 Z277 8 9 (Z277 2 0 0 3808) (-1)) (fun Z282 => Z282))))) else (zlet (zf_403 Z273 7 9 (Z273 2 0 0 3807) (-1)) (fun Z283 => (if (Z283 2 0 0 3808) ≤ 0 then (zlet (zf_403 Z283 9 8 (w3 (-(Z283 2 0 0 3808))) (-1)) (fun Z287 => Z287)) else (zlet (zf_403 Z283 8 9 (Z283 2 0 0 3808) (-1)) (fun Z288 => Z288))))))))))) else (zlet (zf_403 Z249 5 9 (Z249 2 0 0 3805) (-1)) (fun Z289 => (if (Z289 2 0 0 3806) ≤ 0 then (zlet (zf_403 Z289 9 6 (w3 (-(Z289 2 0 0 3806))) (-1)) (fun Z293 => (if (Z293 2 0 0 3807) ≤ 0 then (zlet (zf_403 Z293 9 7 (w3 (-(Z293 2 0 0 3807))) (-1)) (fun Z297 => (if (Z297 2 0 0 3808) ≤ 0 then (zlet (zf_403 Z297 9 8 (w3 (-(Z297 2 0 0 3808))) (-1)) (fun Z301 => Z301)) else (zlet (zf_403 Z297 8 9 (Z297 2 0 0 3808) (-1)) (fun Z302 => Z302))))) else (zlet (zf_403 Z293 7 9 (Z293 2 0 0 3807) (-1)) (fun Z303 => (if (Z303 2 0 0 3808) ≤ 0 then (zlet (zf_403 Z303 9 8 (w3 (-(Z303 2 0 0 3808))) (-1)) (fun Z307 => Z307)) else (zlet (zf_403 Z303 8 9 (Z303 2 0 0 3808) (-1)) (fun Z308 => Z308)))))))) else (zlet (zf_403 Z289 6 9 (Z289 2 0 0 3806) (-1)) (fun Z309 => (if (Z309 2 0 0 3807) ≤ 0 then (zlet (zf_403 Z309 9 7 (w3 (-(Z309 2 0 0 3807))) (-1)) (fun Z313 => (if (Z313 2 0 0 3808) ≤ 0 then (zlet (zf_403 Z313 9 8 (w3 (-(Z313 2 0 0 3808))) (-1)) (fun Z317 => Z317)) else (zlet (zf_403 Z313 8 9 (Z313 2 0 0 3808) (-1)) (fun Z318 => Z318))))) else (zlet (zf_403 Z309 7 9 (Z309 2 0 0 3807) (-1)) (fun Z319 => (if (Z319 2 0 0 3808) ≤ 0 then (zlet (zf_403 Z319 9 8 (w3 (-(Z319 2 0 0 3808))) (-1)) (fun Z323 => Z323)) else (zlet (zf_403 Z319 8 9 (Z319 2 0 0 3808) (-1)) (fun Z324 => Z324)))))))))))))))))) else (zlet (zf_413 Z7) (fun Z325 => (if (Z325 2 0 0 3803) ≤ 0 then (zlet (zf_403 Z325 9 3 (w3 (-(Z325 2 0 0 3803))) (-1)) (fun Z329 => (if (Z329 2 0 0 3804) ≤ 0 then (zlet (zf_403 Z329 9 4 (w3 (-(Z329 2 0 0 3804))) (-1)) (fun Z333 => (if (Z333 2 0 0 3805) ≤ 0 then (zlet (zf_403 Z333 9 5 (w3 (-(Z333 2 0 0 3805))) (-1)) (fun Z337 => (if (Z337 2 0 0 3806) ≤ 0 then (zlet (zf_403 Z337 9 6 (w3 (-(Z337 2 0 0 3806))) (-1)) (fun Z341 => (if (Z341 2 0 0 3807) ≤ 0 then (zlet (zf_403 Z341 9 7 (w3 (-(Z341 2 0 0 3807))) (-1)) (fun Z345 => (if (Z345 2 0 0 3808) ≤ 0 then (zlet (zf_403 Z345 9 8 (w3 (-(Z345 2 0 0 3808))) (-1)) (fun Z349 => Z349)) else (zlet (zf_403 Z345 8 9 (Z345 2 0 0 3808) (-1)) (fun Z350 => Z350))))) else (zlet (zf_403 Z341 7 9 (Z341 2 0 0 3807) (-1)) (fun Z351 => (if (Z351 2 0 0 3808) ≤ 0 then (zlet (zf_403 Z351 9 8 (w3 (-(Z351 2 0 0 3808))) (-1)) (fun Z355 => Z355)) else (zlet (zf_403 Z351 8 9 (Z351 2 0 0 3808) (-1)) (fun Z356 => Z356)))))))) else (zlet (zf_403 Z337 6 9 (Z337 2 0 0 3806) (-1)) (fun Z357 => (if (Z357 2 0 0 3807) ≤ 0 then (zlet (zf_403 Z357 9 7 (w3 (-(Z357 2 0 0 3807))) (-1)) (fun Z361 => (if (Z361 2 0 0 3808) ≤ 0 then (zlet (zf_403 Z361 9 8 (w3 (-(Z361 2 0 0 3808))) (-1)) (fun Z365 => Z365)) else (zlet (zf_403 Z361 8 9 (Z361 2 0 0 3808) (-1)) (fun Z366 => Z366))))) else (zlet (zf_403 Z357 7 9 (Z357 2 0 0 3807) (-1)) (fun Z367 => (if (Z367 2 0 0 3808) ≤ 0 then (zlet (zf_403 Z367 9 8 (w3 (-(Z367 2 0 0 3808))) (-1)) (fun Z371 => Z371)) else (zlet (zf_403 Z367 8 9 (Z367 2 0 0 3808) (-1)) (fun Z372 => Z372))))))))))) else (zlet (zf_403 Z333 5 9 (Z333 2 0 0 3805) (-1)) (fun Z373 => (if (Z373 2 0 0 3806) ≤ 0 then (zlet (zf_403 Z373 9 6 (w3 (-(Z373 2 0 0 3806))) (-1)) (fun Z377 => (if (Z377 2 0 0 3807) ≤ 0 then (zlet (zf_403 Z377 9 7 (w3 (-(Z377 2 0 0 3807))) (-1)) (fun Z381 => (if (Z381 2 0 0 3808) ≤ 0 then (zlet (zf_403 Z381 9 8 (w3 (-(Z381 2 0 0 3808))) (-1)) (fun Z385 => Z385)) else (zlet (zf_403 Z381 8 9 (Z381 2 0 0 3808) (-1)) (fun Z386 => Z386))))) else (zlet (zf_403 Z377 7 9 (Z377 2 0 0 3807) (-1)) (fun Z387 => (if (Z387 2 0 0 3808) ≤ 0 then (zlet (zf_403 Z387 9 8 (w3 (-(Z387 2 0 0 3808))) (-1)) (fun Z391 => Z391)) else (zlet (zf_403 Z387 8 9 (Z387 2 0 0 3808) (-1)) (fun Z392 => Z392)))))))) else (zlet (zf_403 Z373 6 9 (Z373 2 0 0 3806) (-1)) (fun Z393 => (if (Z393 2 0 0 3807) ≤ 0 then (zlet (zf_403 Z393 9 7 (w3 (-(Z393 2 0 0 3807))) (-1)) (fun Z397 => (if (Z397 2 0 0 3808) ≤ 0 then (zlet (zf_403 Z397 9 8 (w3 (-(Z397 2 0 0 3808))) (-1)) (fun Z401 => Z401)) else (zlet (zf_403 Z397 8 9 (Z397 2 0 0 3808) (-1)) (fun Z402 => Z402))))) else (zlet (zf_403 Z393 7 9 (Z393 2 0 0 3807) (-1)) (fun Z403 => (if (Z403 2 0 0 3808) ≤ 0 then (zlet (zf_403 Z403 9 8 (w3 (-(Z403 2 0 0 3808))) (-1)) (fun Z407 => Z407)) else (zlet (zf_403 Z403 8 9 (Z403 2 0 0 3808) (-1)) (fun Z408 => Z408)))))))))))))) else (zlet (zf_403 Z329 4 9 (Z329 2 0 0 3804) (-1)) (fun Z409 => (if (Z409 2 0 0 3805) ≤ 0 then (zlet (zf_403 Z409 9 5 (w3 (-(Z409 2 0 0 3805))) (-1)) (fun Z413 => (if (Z413 2 0 0 3806) ≤ 0 then (zlet (zf_403 Z413 9 6 (w3 (-(Z413 2 0 0 3806))) (-1)) (fun Z417 => (if (Z417 2 0 0 3807) ≤ 0 then (zlet (zf_403 Z417 9 7 (w3 (-(Z417 2 0 0 3807))) (-1)) (fun Z421 => (if (Z421 2 0 0 3808) ≤ 0 then (zlet (zf_403 Z421 9 8 (w3 (-(Z421 2 0 0 3808))) (-1)) (fun Z425 => Z425)) else (zlet (zf_403 Z421 8 9 (Z421 2 0 0 3808) (-1)) (fun Z426 => Z426))))) else (zlet (zf_403 Z417 7 9 (Z417 2 0 0 3807) (-1)) (fun Z427 => (if (Z427 2 0 0 3808) ≤ 0 then (zlet (zf_403 Z427 9 8 (w3 (-(Z427 2 0 0 3808))) (-1)) (fun Z431 => Z431)) else (zlet (zf_403 Z427 8 9 (Z427 2 0 0 3808) (-1)) (fun Z432 => Z432)))))))) else (zlet (zf_403 Z413 6 9 (Z413 2 0 0 3806) (-1)) (fun Z433 => (if (Z433 2 0 0 3807) ≤ 0 then (zlet (zf_403 Z433 9 7 (w3 (-(Z433 2 0 0 3807))) (-1)) (fun Z437 => (if (Z437 2 0 0 3808) ≤ 0 then (zlet (zf_403 Z437 9 8 (w3 (-(Z437 2 0 0 3808))) (-1)) (fun Z441 => Z441)) else (zlet (zf_403 Z437 8 9 (Z437 2 0 0 3808) (-1)) (fun Z442 => Z442))))) else (zlet (zf_403 Z433 7 9 (Z433 2 0 0 3807) (-1)) (fun Z443 => (if (Z443 2 0 0 3808) ≤ 0 then (zlet (zf_403 Z443 9 8 (w3 (-(Z443 2 0 0 3808))) (-1)) (fun Z447 => Z447)) else (zlet (zf_403 Z443 8 9 (Z443 2 0 0 3808) (-1)) (fun Z448 => Z448))))))))))) else (zlet (zf_403 Z409 5 9 (Z409 2 0 0 3805) (-1)) (fun Z449 => (if (Z449 2 0 0 3806) ≤ 0 then (zlet (zf_403 Z449 9 6 (w3 (-(Z449 2 0 0 3806))) (-1)) (fun Z453 => (if (Z453 2 0 0 3807) ≤ 0 then (zlet (zf_403 Z453 9 7 (w3 (-(Z453 2 0 0 3807))) (-1)) (fun Z457 => (if (Z457 2 0 0 3808) ≤ 0 then (zlet (zf_403 Z457 9 8 (w3 (-(Z457 2 0 0 3808))) (-1)) (fun Z461 => Z461)) else (zlet (zf_403 Z457 8 9 (Z457 2 0 0 3808) (-1)) (fun Z462 => Z462))))) else (zlet (zf_403 Z453 7 9 (Z453 2 0 0 3807) (-1)) (fun Z463 => (if (Z463 2 0 0 3808) ≤ 0 then (zlet (zf_403 Z463 9 8 (w3 (-(Z463 2 0 0 3808))) (-1)) (fun Z467 => Z467)) else (zlet (zf_403 Z463 8 9 (Z463 2 0 0 3808) (-1)) (fun Z468 => Z468)))))))) else (zlet (zf_403 Z449 6 9 (Z449 2 0 0 3806) (-1)) (fun Z469 => (if (Z469 2 0 0 3807) ≤ 0 then (zlet (zf_403 Z469 9 7 (w3 (-(Z469 2 0 0 3807))) (-1)) (fun Z473 => (if (Z473 2 0 0 3808) ≤ 0 then (zlet (zf_403 Z473 9 8 (w3 (-(Z473 2 0 0 3808))) (-1)) (fun Z477 => Z477)) else (zlet (zf_403 Z473 8 9 (Z473 2 0 0 3808) (-1)) (fun Z478 => Z478))))) else (zlet (zf_403 Z469 7 9 (Z469 2 0 0 3807) (-1)) (fun Z479 => (if (Z479 2 0 0 3808) ≤ 0 then (zlet (zf_403 Z479 9 8 (w3 (-(Z479 2 0 0 3808))) (-1)) (fun Z483 => Z483)) else (zlet (zf_403 Z479 8 9 (Z479 2 0 0 3808) (-1)) (fun Z484 => Z484))))))))))))))))) else (zlet (zf_403 Z325 3 9 (Z325 2 0 0 3803) (-1)) (fun Z485 => (if (Z485 2 0 0 3804) ≤ 0 then (zlet (zf_403 Z485 9 4 (w3 (-(Z485 2 0 0 3804))) (-1)) (fun Z489 => (if (Z489 2 0 0 3805) ≤ 0 then (zlet (zf_403 Z489 9 5 (w3 (-(Z489 2 0 0 3805))) (-1)) (fun Z493 => (if (Z493 2 0 0 3806) ≤ 0 then (zlet (zf_403 Z493 9 6 (w3 (-(Z493 2 0 0 3806))) (-1)) (fun Z497 => (if (Z497 2 0 0 3807) ≤ 0 then (zlet (zf_403 Z497 9 7 (w3 (-(Z497 2 0 0 3807))) (-1)) (fun Z501 => (if (Z501 2 0 0 3808) ≤ 0 then (zlet (zf_403 Z501 9 8 (w3 (-(Z501 2 0 0 3808))) (-1)) (fun Z505 => Z505)) else (zlet (zf_403 Z501 8 9 (Z501 2 0 0 3808) (-1)) (fun Z506 => Z506))))) else (zlet (zf_403 Z497 7 9 (Z497 2 0 0 3807) (-1)) (fun Z507 => (if (Z507 2 0 0 3808) ≤ 0 then (zlet (zf_403 Z507 9 8 (w3 (-(Z507 2 0 0 3808))) (-1)) (fun Z511 => Z511)) else (zlet (zf_403 Z507 8 9 (Z507 2 0 0 3808) (-1)) (fun Z512 => Z512)))))))) else (zlet (zf_403 Z493 6 9 (Z493 2 0 0 3806) (-1)) (fun Z513 => (if (Z513 2 0 0 3807) ≤ 0 then (zlet (zf_403 Z513 9 7 (w3 (-(Z513 2 0 0 3807))) (-1)) (fun Z517 => (if (Z517 2 0 0 3808) ≤ 0 then (zlet (zf_403 Z517 9 8 (w3 (-(Z517 2 0 0 3808))) (-1)) (fun Z521 => Z521)) else (zlet (zf_403 Z517 8 9 (Z517 2 0 0 3808) (-1)) (fun Z522 => Z522))))) else (zlet (zf_403 Z513 7 9 (Z513 2 0 0 3807) (-1)) (fun Z523 => (if (Z523 2 0 0 3808) ≤ 0 then (zlet (zf_403 Z523 9 8 (w3 (-(Z523 2 0 0 3808))) (-1)) (fun Z527 => Z527)) else (zlet (zf_403 Z523 8 9 (Z523 2 0 0 3808) (-1)) (fun Z528 => Z528))))))))))) else (zlet (zf_403 Z489 5 9 (Z489 2 0 0 3805) (-1)) (fun Z529 => (if (Z529 2 0 0 3806) ≤ 0 then (zlet (zf_403 Z529 9 6 (w3 (-(Z529 2 0 0 3806))) (-1)) (fun Z533 => (if (Z533 2 0 0 3807) ≤ 0 then (zlet (zf_403 Z533 9 7 (w3 (-(Z533 2 0 0 3807))) (-1)) (fun Z537 => (if (Z537 2 0 0 3808) ≤ 0 then (zlet (zf_403 Z537 9 8 (w3 (-(Z537 2 0 0 3808))) (-1)) (fun Z541 => Z541)) else (zlet (zf_403 Z537 8 9 (Z537 2 0 0 3808) (-1)) (fun Z542 => Z542))))) else (zlet (zf_403 Z533 7 9 (Z533 2 0 0 3807) (-1)) (fun Z543 => (if (Z543 2 0 0 3808) ≤ 0 then (zlet (zf_403 Z543 9 8 (w3 (-(Z543 2 0 0 3808))) (-1)) (fun Z547 => Z547)) else (zlet (zf_403 Z543 8 9 (Z543 2 0 0 3808) (-1)) (fun Z548 => Z548)))))))) else (zlet (zf_403 Z529 6 9 (Z529 2 0 0 3806) (-1)) (fun Z549 => (if (Z549 2 0 0 3807) ≤ 0 then (zlet (zf_403 Z549 9 7 (w3 (-(Z549 2 0 0 3807))) (-1)) (fun Z553 => (if (Z553 2 0 0 3808) ≤ 0 then (zlet (zf_403 Z553 9 8 (w3 (-(Z553 2 0 0 3808))) (-1)) (fun Z557 => Z557)) else (zlet (zf_403 Z553 8 9 (Z553 2 0 0 3808) (-1)) (fun Z558 => Z558))))) else (zlet (zf_403 Z549 7 9 (Z549 2 0 0 3807) (-1)) (fun Z559 => (if (Z559 2 0 0 3808) ≤ 0 then (zlet (zf_403 Z559 9 8 (w3 (-(Z559 2 0 0 3808))) (-1)) (fun Z563 => Z563)) else (zlet (zf_403 Z559 8 9 (Z559 2 0 0 3808) (-1)) (fun Z564 => Z564)))))))))))))) else (zlet (zf_403 Z485 4 9 (Z485 2 0 0 3804) (-1)) (fun Z565 => (if (Z565 2 0 0 3805) ≤ 0 then (zlet (zf_403 Z565 9 5 (w3 (-(Z565 2 0 0 3805))) (-1)) (fun Z569 => (if (Z569 2 0 0 3806) ≤ 0 then (zlet (zf_403 Z569 9 6 (w3 (-(Z569 2 0 0 3806))) (-1)) (fun Z573 => (if (Z573 2 0 0 3807) ≤ 0 then (zlet (zf_403 Z573 9 7 (w3 (-(Z573 2 0 0 3807))) (-1)) (fun Z577 => (if (Z577 2 0 0 3808) ≤ 0 then (zlet (zf_403 Z577 9 8 (w3 (-(Z577 2 0 0 3808))) (-1)) (fun Z581 => Z581)) else (zlet (zf_403 Z577 8 9 (Z577 2 0 0 3808) (-1)) (fun Z582 => Z582))))) else (zlet (zf_403 Z573 7 9 (Z573 2 0 0 3807) (-1)) (fun Z583 => (if (Z583 2 0 0 3808) ≤ 0 then (zlet (zf_403 Z583 9 8 (w3 (-(Z583 2 0 0 3808))) (-1)) (fun Z587 => Z587)) else (zlet (zf_403 Z583 8 9 (Z583 2 0 0 3808) (-1)) (fun Z588 => Z588)))))))) else (zlet (zf_403 Z569 6 9 (Z569 2 0 0 3806) (-1)) (fun Z589 => (if (Z589 2 0 0 3807) ≤ 0 then (zlet (zf_403 Z589 9 7 (w3 (-(Z589 2 0 0 3807))) (-1)) (fun Z593 => (if (Z593 2 0 0 3808) ≤ 0 then (zlet (zf_403 Z593 9 8 (w3 (-(Z593 2 0 0 3808))) (-1)) (fun Z597 => Z597)) else (zlet (zf_403 Z593 8 9 (Z593 2 0 0 3808) (-1)) (fun Z598 => Z598))))) else (zlet (zf_403 Z589 7 9 (Z589 2 0 0 3807) (-1)) (fun Z599 => (if (Z599 2 0 0 3808) ≤ 0 then (zlet (zf_403 Z599 9 8 (w3 (-(Z599 2 0 0 3808))) (-1)) (fun Z603 => Z603)) else (zlet (zf_403 Z599 8 9 (Z599 2 0 0 3808) (-1)) (fun Z604 => Z604))))))))))) else (zlet (zf_403 Z565 5 9 (Z565 2 0 0 3805) (-1)) (fun Z605 => (if (Z605 2 0 0 3806) ≤ 0 then (zlet (zf_403 Z605 9 6 (w3 (-(Z605 2 0 0 3806))) (-1)) (fun Z609 => (if (Z609 2 0 0 3807) ≤ 0 then (zlet (zf_403 Z609 9 7 (w3 (-(Z609 2 0 0 3807))) (-1)) (fun Z613 => (if (Z613 2 0 0 3808) ≤ 0 then (zlet (zf_403 Z613 9 8 (w3 (-(Z613 2 0 0 3808))) (-1)) (fun Z617 => Z617)) else (zlet (zf_403 Z613 8 9 (Z613 2 0 0 3808) (-1)) (fun Z618 => Z618))))) else (zlet (zf_403 Z609 7 9 (Z609 2 0 0 3807) (-1)) (fun Z619 => (if (Z619 2 0 0 3808) ≤ 0 then (zlet (zf_403 Z619 9 8 (w3 (-(Z619 2 0 0 3808))) (-1)) (fun Z623 => Z623)) else (zlet (zf_403 Z619 8 9 (Z619 2 0 0 3808) (-1)) (fun Z624 => Z624)))))))) else (zlet (zf_403 Z605 6 9 (Z605 2 0 0 3806) (-1)) (fun Z625 => (if (Z625 2 0 0 3807) ≤ 0 then (zlet (zf_403 Z625 9 7 (w3 (-(Z625 2 0 0 3807))) (-1)) (fun Z629 => (if (Z629 2 0 0 3808) ≤ 0 then (zlet (zf_403 Z629 9 8 (w3 (-(Z629 2 0 0 3808))) (-1)) (fun Z633 => Z633)) else (zlet (zf_403 Z629 8 9 (Z629 2 0 0 3808) (-1)) (fun Z634 => Z634))))) else (zlet (zf_403 Z625 7 9 (Z625 2 0 0 3807) (-1)) (fun Z635 => (if (Z635 2 0 0 3808) ≤ 0 then (zlet (zf_403 Z635 9 8 (w3 (-(Z635 2 0 0 3808))) (-1)) (fun Z639 => Z639)) else (zlet (zf_403 Z635 8 9 (Z635 2 0 0 3808) (-1)) (fun Z640 => Z640)))))))))))))))))))))))))))))
/- yX12_tIsAt -/
def zl_515_1 (x1 : Int) (x2 : Int) : Nat → qz_Z → Int → qz_Z × Int
  | 0, Z, x3 => (Z, x3)
  | m + 1, Z, x3 => (if (Z 2 0 0 2000) ≤ x3 then (Z, x3) else (if (Z 2 0 0 (2019 + 16 * x3)) ≠ 1 then zl_515_1 x1 x2 m Z (x3 + 1) else (if (Z 2 0 0 (2020 + 16 * x3)) ≠ x1 then zl_515_1 x1 x2 m Z (x3 + 1) else (if (Z 2 0 0 (1410 + 12 * (Z 2 0 0 (2011 + 16 * x3)))) ≠ x2 then zl_515_1 x1 x2 m Z (x3 + 1) else (zlet (zu Z 2 0 0 (2019 + 16 * x3) 2) (fun Z11 => (zlet (zu Z11 2 0 0 (2020 + 16 * x3) (-1)) (fun Z12 => (zlet (zu Z12 2 0 0 (40 + x3) (Z12 2 0 0 0)) (fun Z17 => zl_515_1 x1 x2 m Z17 (x3 + 1)))))))))))
theorem sl_515_1 {s : zSM} {Zs Z : qz_Z} {ν : qz_N} (hZ : zM s Z) (hM : s.2 + 0 ≤ 1000000000) (hK : zC [2] Zs Z) {x1 : Int} (gx1 : 0 ≤ x1 ∧ x1 ≤ 3) {x2 : Int} (gx2 : 0 ≤ x2 ∧ x2 ≤ 4) {x3 : Int} (gx3 : 0 ≤ x3 ∧ x3 ≤ 60) (hU : zU [] Zs Z) {k : wz_K} {R : wz_R} {L : qz_L} (hL : qz_fg [true, true, true, true] L = [some (.inr (.inr (some (1, 0, 0)))), some (.inl (i3 x1)), some (.inl (i3 x2)), some (.inl (i3 x3))]) {T : qz_Z × Int} (hP : zE T (zl_515_1 x1 x2 ((60 - x3).toNat + 1) Z x3)) (hk : ∀ (L9 : qz_L) (Z9 : qz_Z) (yx3 : Int), qz_fg [false, false, false, false] L9 = [none, none, none, none] → zM s Z9 → zC [2] Zs Z9 → zU [] Zs Z9 → (0 ≤ yx3 ∧ yx3 ≤ 60) → zE T ((Z9, yx3)) → k 0 (L9, [], zm Z9 ν)) : wz_loop qb_515_1 65536 k R (L, [], zm Z ν) := by
  refine wz_lp sb_515_1 (fun m x => ∃ Z : qz_Z, ∃ x3 : Int, qz_fg [true, true, true, true] x.1 = [some (.inr (.inr (some (1, 0, 0)))), some (.inl (i3 x1)), some (.inl (i3 x2)), some (.inl (i3 x3))] ∧ x.2 = ([], zm Z ν) ∧ zM s Z ∧ zC [2] Zs Z ∧ zU [] Zs Z ∧ m = (60 - x3).toNat ∧ (0 ≤ x3 ∧ x3 ≤ 60) ∧ zE T (zl_515_1 x1 x2 (m + 1) Z x3)) ?_ 65536 ((60 - x3).toNat) _ (by omega) ⟨Z, x3, hL, rfl, hZ, hK, hU, rfl, gx3, hP⟩
  clear hP gx3 hZ hK hU hL
  clear x3
  clear Z
  rintro m ⟨L, st, μ⟩ ⟨Z, x3, hL, hx, hZ, hK, hU, hm, gx3, hP⟩
  cases hx
  refine fb_515_1 (i3 x1) (i3 x2) (i3 x3) _ _ _ _ hL ?_
  have r1 := zM_k hZ 2 0 0 2000 (lo := 0) (hi := 60) (by decide) rfl
  refine wz_br (i3Le (zm_rd (Z := Z) (ν := ν) (k := 2) (show ((0 : Nat) : Int) = 0 from rfl) (show ((0 : Nat) : Int) = 0 from rfl) (show ((2000 : Nat) : Int) = 2000 from rfl)) (rfl : i3 x3 = i3 x3) (by omega) (by omega) (by omega) (by omega)) (fun h2 => ?_) (fun h2 => ?_)
  · replace hP := zE_p hP h2
    exact hk _ _ _ (zconso rfl (zconso rfl (zconso rfl (zconso rfl rfl)))) hZ hK hU (by omega)  hP
  · replace hP := zE_n hP h2
    refine wz_i0 (i3O (n := 4400) (i3A (i3A (show (2010 : Int32) = i3 2010 from rfl) (i3M (show (16 : Int32) = i3 16 from rfl) (rfl : i3 x3 = i3 x3))) (show (9 : Int32) = i3 9 from rfl)) (by omega) (by omega) (by omega)) ?_
    have r3 := zM_k hZ 2 0 0 (2019 + 16 * x3) (lo := 0) (hi := 3) (by decide) (zs_2010_9 (x := x3) (by omega) (by omega) (by omega))
    have r4 := zM_lt2 hZ x3
    refine wz_br (i3NE (zm_rd (Z := Z) (ν := ν) (k := 2) (show ((0 : Nat) : Int) = 0 from rfl) (show ((0 : Nat) : Int) = 0 from rfl) (i3I (y := (2019 + 16 * x3)) (i3A (i3A (show (2010 : Int32) = i3 2010 from rfl) (i3M (show (16 : Int32) = i3 16 from rfl) (rfl : i3 x3 = i3 x3))) (show (9 : Int32) = i3 9 from rfl)) (by omega) (by omega) (by omega))) (show (1 : Int32) = i3 1 from rfl) (by omega) (by omega) (by omega) (by omega)) (fun h5 => ?_) (fun h5 => ?_)
    · replace hP := zE_p hP h5
      obtain ⟨m2, rfl⟩ : ∃ m2, m = m2 + 1 := ⟨m - 1, by omega⟩
      exact wz_k1 ⟨m2, by omega, Z, (x3 + 1), (zconso rfl (zconso (zvo (rfl : i3 x1 = i3 x1)) (zconso (zvo (rfl : i3 x2 = i3 x2)) (zconso (zvo (i3A (rfl : i3 x3 = i3 x3) (show (1 : Int32) = i3 1 from rfl))) rfl)))), rfl, hZ, hK, hU, by omega, by omega,  hP⟩
    · replace hP := zE_n hP h5
      refine wz_i0 (i3O (n := 4400) (i3A (i3A (show (2010 : Int32) = i3 2010 from rfl) (i3M (show (16 : Int32) = i3 16 from rfl) (rfl : i3 x3 = i3 x3))) (show (10 : Int32) = i3 10 from rfl)) (by omega) (by omega) (by omega)) ?_
      have r6 := zM_k hZ 2 0 0 (2020 + 16 * x3) (lo := -1) (hi := 3) (by decide) (zs_2010_10 (x := x3) (by omega) (by omega) (by omega))
      refine wz_br (i3NE (zm_rd (Z := Z) (ν := ν) (k := 2) (show ((0 : Nat) : Int) = 0 from rfl) (show ((0 : Nat) : Int) = 0 from rfl) (i3I (y := (2020 + 16 * x3)) (i3A (i3A (show (2010 : Int32) = i3 2010 from rfl) (i3M (show (16 : Int32) = i3 16 from rfl) (rfl : i3 x3 = i3 x3))) (show (10 : Int32) = i3 10 from rfl)) (by omega) (by omega) (by omega))) (rfl : i3 x1 = i3 x1) (by omega) (by omega) (by omega) (by omega)) (fun h7 => ?_) (fun h7 => ?_)
      · replace hP := zE_p hP h7
        obtain ⟨m2, rfl⟩ : ∃ m2, m = m2 + 1 := ⟨m - 1, by omega⟩
        exact wz_k1 ⟨m2, by omega, Z, (x3 + 1), (zconso rfl (zconso (zvo (rfl : i3 x1 = i3 x1)) (zconso (zvo (rfl : i3 x2 = i3 x2)) (zconso (zvo (i3A (rfl : i3 x3 = i3 x3) (show (1 : Int32) = i3 1 from rfl))) rfl)))), rfl, hZ, hK, hU, by omega, by omega,  hP⟩
      · replace hP := zE_n hP h7
        refine wz_i0 (i3O (n := 4400) (i3A (i3A (show (2010 : Int32) = i3 2010 from rfl) (i3M (show (16 : Int32) = i3 16 from rfl) (rfl : i3 x3 = i3 x3))) (show (1 : Int32) = i3 1 from rfl)) (by omega) (by omega) (by omega)) ?_
        have r8 := zM_k hZ 2 0 0 (2011 + 16 * x3) (lo := 0) (hi := 7) (by decide) (zs_2010_1 (x := x3) (by omega) (by omega) (by omega))
        refine wz_i0 (i3O (n := 4400) (i3A (i3A (show (1410 : Int32) = i3 1410 from rfl) (i3M (show (12 : Int32) = i3 12 from rfl) (zm_rd (Z := Z) (ν := ν) (k := 2) (show ((0 : Nat) : Int) = 0 from rfl) (show ((0 : Nat) : Int) = 0 from rfl) (i3I (y := (2011 + 16 * x3)) (i3A (i3A (show (2010 : Int32) = i3 2010 from rfl) (i3M (show (16 : Int32) = i3 16 from rfl) (rfl : i3 x3 = i3 x3))) (show (1 : Int32) = i3 1 from rfl)) (by omega) (by omega) (by omega))))) (show (0 : Int32) = i3 0 from rfl)) (by omega) (by omega) (by omega)) ?_
        have r9 := zM_k hZ 2 0 0 (1410 + 12 * (Z 2 0 0 (2011 + 16 * x3))) (lo := 0) (hi := 4) (by decide) (zs_1410_0 (x := (Z 2 0 0 (2011 + 16 * x3))) (by omega) (by omega) (by omega))
        refine wz_br (i3NE (zm_rd (Z := Z) (ν := ν) (k := 2) (show ((0 : Nat) : Int) = 0 from rfl) (show ((0 : Nat) : Int) = 0 from rfl) (i3I (y := (1410 + 12 * (Z 2 0 0 (2011 + 16 * x3)))) (i3A (i3A (show (1410 : Int32) = i3 1410 from rfl) (i3M (show (12 : Int32) = i3 12 from rfl) (zm_rd (Z := Z) (ν := ν) (k := 2) (show ((0 : Nat) : Int) = 0 from rfl) (show ((0 : Nat) : Int) = 0 from rfl) (i3I (y := (2011 + 16 * x3)) (i3A (i3A (show (2010 : Int32) = i3 2010 from rfl) (i3M (show (16 : Int32) = i3 16 from rfl) (rfl : i3 x3 = i3 x3))) (show (1 : Int32) = i3 1 from rfl)) (by omega) (by omega) (by omega))))) (show (0 : Int32) = i3 0 from rfl)) (by omega) (by omega) (by omega))) (rfl : i3 x2 = i3 x2) (by omega) (by omega) (by omega) (by omega)) (fun h10 => ?_) (fun h10 => ?_)
        · replace hP := zE_p hP h10
          obtain ⟨m2, rfl⟩ : ∃ m2, m = m2 + 1 := ⟨m - 1, by omega⟩
          exact wz_k1 ⟨m2, by omega, Z, (x3 + 1), (zconso rfl (zconso (zvo (rfl : i3 x1 = i3 x1)) (zconso (zvo (rfl : i3 x2 = i3 x2)) (zconso (zvo (i3A (rfl : i3 x3 = i3 x3) (show (1 : Int32) = i3 1 from rfl))) rfl)))), rfl, hZ, hK, hU, by omega, by omega,  hP⟩
        · replace hP := zE_n hP h10
          refine wz_i0 (i3O (n := 4400) (i3A (i3A (show (2010 : Int32) = i3 2010 from rfl) (i3M (show (16 : Int32) = i3 16 from rfl) (rfl : i3 x3 = i3 x3))) (show (9 : Int32) = i3 9 from rfl)) (by omega) (by omega) (by omega)) ?_
          obtain ⟨Z11, hZ11⟩ := zx (zu Z 2 0 0 (2019 + 16 * x3) 2)
          replace hP := zl_e hP hZ11
          have hZ11I := zM_st2 hZ hZ11 (q := x3) (by omega) (by omega) (by omega) (by omega)
          have hZ11U : zU [] Zs Z11 := zU_u hU hZ11 (Or.inl rfl)
          have hZ11K : zC [2] Zs Z11 := zC_u hK hZ11 (zcl_2w (by omega) rfl)
          intro μ9 e9
          replace e9 := e9.trans (zm_wI (Z := Z) (ν := ν) hZ11 (show ((0 : Nat) : Int) = 0 from rfl) (show ((0 : Nat) : Int) = 0 from rfl) (i3I (y := (2019 + 16 * x3)) (i3A (i3A (show (2010 : Int32) = i3 2010 from rfl) (i3M (show (16 : Int32) = i3 16 from rfl) (rfl : i3 x3 = i3 x3))) (show (9 : Int32) = i3 9 from rfl)) (by omega) (by omega) (by omega)) (show (2 : Int32) = i3 2 from rfl))
          subst e9
          refine wz_i0 (i3O (n := 4400) (i3A (i3A (show (2010 : Int32) = i3 2010 from rfl) (i3M (show (16 : Int32) = i3 16 from rfl) (rfl : i3 x3 = i3 x3))) (show (10 : Int32) = i3 10 from rfl)) (by omega) (by omega) (by omega)) ?_
          obtain ⟨Z12, hZ12⟩ := zx (zu Z11 2 0 0 (2020 + 16 * x3) (-1))
          replace hP := zl_e hP hZ12
          have r13 := zM_k hZ11I 2 0 0 (2019 + 16 * x3) (lo := 0) (hi := 3) (by decide) (zs_2010_9 (x := x3) (by omega) (by omega) (by omega))
          have r14 := zM_lt2 hZ11I x3
          have q15 := zu_at hZ11
          have hZ12I := zM_tr2 hZ11I hZ12 (q := x3) (by omega) (by omega) (by omega) (by omega)
          have hZ12U : zU [] Zs Z12 := zU_u hZ11U hZ12 (Or.inl rfl)
          have hZ12K : zC [2] Zs Z12 := zC_u hZ11K hZ12 (zcl_2w (by omega) rfl)
          intro μ9 e9
          replace e9 := e9.trans (zm_wI (Z := Z11) (ν := ν) hZ12 (show ((0 : Nat) : Int) = 0 from rfl) (show ((0 : Nat) : Int) = 0 from rfl) (i3I (y := (2020 + 16 * x3)) (i3A (i3A (show (2010 : Int32) = i3 2010 from rfl) (i3M (show (16 : Int32) = i3 16 from rfl) (rfl : i3 x3 = i3 x3))) (show (10 : Int32) = i3 10 from rfl)) (by omega) (by omega) (by omega)) (show (-1 : Int32) = i3 (-1) from rfl))
          subst e9
          refine wz_i0 (i3O (n := 4400) (i3A (show (40 : Int32) = i3 40 from rfl) (rfl : i3 x3 = i3 x3)) (by omega) (by omega) (by omega)) ?_
          have r16 := zM_k hZ12I 2 0 0 0 (lo := 0) (hi := 671) (by decide) rfl
          obtain ⟨Z17, hZ17⟩ := zx (zu Z12 2 0 0 (40 + x3) (Z12 2 0 0 0))
          replace hP := zl_e hP hZ17
          have hZ17I := zM_u2 hZ12I hZ17 (lo := -1) (hi := 671) (zs_40 (by omega) (by omega)) (by omega) ⟨by decide, by decide⟩ (by simp only [zsp]; omega)
          have hZ17U : zU [] Zs Z17 := zU_u hZ12U hZ17 (Or.inl rfl)
          have hZ17K : zC [2] Zs Z17 := zC_u hZ12K hZ17 (zcl_2w (by omega) rfl)
          intro μ9 e9
          replace e9 := e9.trans (zm_wI (Z := Z12) (ν := ν) hZ17 (show ((0 : Nat) : Int) = 0 from rfl) (show ((0 : Nat) : Int) = 0 from rfl) (i3I (y := (40 + x3)) (i3A (show (40 : Int32) = i3 40 from rfl) (rfl : i3 x3 = i3 x3)) (by omega) (by omega) (by omega)) (zm_rd (Z := Z12) (ν := ν) (k := 2) (show ((0 : Nat) : Int) = 0 from rfl) (show ((0 : Nat) : Int) = 0 from rfl) (show ((0 : Nat) : Int) = 0 from rfl)))
          subst e9
          obtain ⟨m2, rfl⟩ : ∃ m2, m = m2 + 1 := ⟨m - 1, by omega⟩
          exact wz_k1 ⟨m2, by omega, Z17, (x3 + 1), (zconso rfl (zconso (zvo (rfl : i3 x1 = i3 x1)) (zconso (zvo (rfl : i3 x2 = i3 x2)) (zconso (zvo (i3A (rfl : i3 x3 = i3 x3) (show (1 : Int32) = i3 1 from rfl))) rfl)))), rfl, hZ17I, hZ17K, hZ17U, by omega, by omega,  hP⟩
/- yX12_tIsAt -/
def zf_515 (Z : qz_Z) (a1 : Int) (a2 : Int) : qz_Z := (zlet2 (zl_515_1 a1 a2 61 Z 0) (fun Z2 y1 => Z2))
theorem sp_515 {s : zSM} {Z : qz_Z} {ν : qz_N} (hZ : zM s Z) {a1 : Int} (ga1 : 0 ≤ a1 ∧ a1 ≤ 3) {a2 : Int} (ga2 : 0 ≤ a2 ∧ a2 ≤ 4) (hM : s.2 + 0 ≤ 1000000000) : ∃ P : qz_Z, P = zf_515 Z a1 a2 ∧ (qf_515 [.inr (.inr (some (1, 0, 0))), .inl (i3 a1), .inl (i3 a2)] (zm Z ν) = some (zm P ν, .inl none) ∧ zM s P ∧ zC [2] Z P ∧ zU [] Z P) := by
  obtain ⟨P, hP⟩ := zx (zf_515 Z a1 a2)
  refine zc_V (Q := fun P => zM s P ∧ zC [2] Z P ∧ zU [] Z P) hP (fw_515 (i3 a1) (i3 a2) _ _ ?_)
  replace hP : zE P (zf_515 Z a1 a2) := hP
  unfold zf_515 at hP
  refine sl_515_1 (ν := ν) hZ (zbh (c := 0) (k := 0) hM (Nat.le_of_ble_eq_true rfl)) zC_r (x1 := a1) (by omega) (x2 := a2) (by omega) (x3 := 0) (by omega) zU_r  (zconso rfl (zconso (zvo (rfl : i3 a1 = i3 a1)) (zconso (zvo (rfl : i3 a2 = i3 a2)) (zconso (zvo (show (0 : Int32) = i3 0 from rfl)) rfl)))) rfl ?_
  intro L3 Z2 y1 hL3 hZ2I kZ2 jZ2 gy1 q9
  replace hP := zl_e2 hP (Eq.symm q9)
  clear q9
  have hZ2U : zU [] Z Z2 := zU_t zU_r jZ2 zU_b0
  have hZ2K : zC [2] Z Z2 := zC_t zC_r kZ2 (by decide)
  refine fc_515_2  _ _ _ _ hL3 ?_
  exact zlV hP ⟨hZ2I, hZ2K, hZ2U⟩
/- yX12_tArrives -/
def zl_506_1 (x1 : Int) : Nat → qz_Z → Int → qz_Z × Int
  | 0, Z, x2 => (Z, x2)
  | m + 1, Z, x2 => (if (Z 2 0 0 (3258 + 24 * x1)) ≤ x2 then (Z, x2) else (if (Z 2 0 0 (3264 + 24 * x1 + x2)) ≠ (Z 2 0 0 0) then zl_506_1 x1 m Z (x2 + 1) else (zlet (zf_515 Z x1 (Z 2 0 0 (3259 + 24 * x1 + x2))) (fun Z7 => zl_506_1 x1 m Z7 (x2 + 1)))))
theorem sl_506_1 {s : zSM} {Zs Z : qz_Z} {ν : qz_N} (hZ : zM s Z) (hM : s.2 + 0 ≤ 1000000000) (hK : zC [2] Zs Z) {x1 : Int} (gx1 : 0 ≤ x1 ∧ x1 ≤ 3) {x2 : Int} (gx2 : 0 ≤ x2 ∧ x2 ≤ 5) (hU : zU [] Zs Z) {k : wz_K} {R : wz_R} {L : qz_L} (hL : qz_fg [true, true, true] L = [some (.inr (.inr (some (1, 0, 0)))), some (.inl (i3 x1)), some (.inl (i3 x2))]) {T : qz_Z × Int} (hP : zE T (zl_506_1 x1 ((5 - x2).toNat + 1) Z x2)) (hk : ∀ (L9 : qz_L) (Z9 : qz_Z) (yx2 : Int), qz_fg [true, true, false] L9 = [some (.inr (.inr (some (1, 0, 0)))), some (.inl (i3 x1)), none] → zM s Z9 → zC [2] Zs Z9 → zU [] Zs Z9 → (0 ≤ yx2 ∧ yx2 ≤ 5) → zE T ((Z9, yx2)) → k 0 (L9, [], zm Z9 ν)) : wz_loop qb_506_1 65536 k R (L, [], zm Z ν) := by
  refine wz_lp sb_506_1 (fun m x => ∃ Z : qz_Z, ∃ x2 : Int, qz_fg [true, true, true] x.1 = [some (.inr (.inr (some (1, 0, 0)))), some (.inl (i3 x1)), some (.inl (i3 x2))] ∧ x.2 = ([], zm Z ν) ∧ zM s Z ∧ zC [2] Zs Z ∧ zU [] Zs Z ∧ m = (5 - x2).toNat ∧ (0 ≤ x2 ∧ x2 ≤ 5) ∧ zE T (zl_506_1 x1 (m + 1) Z x2)) ?_ 65536 ((5 - x2).toNat) _ (by omega) ⟨Z, x2, hL, rfl, hZ, hK, hU, rfl, gx2, hP⟩
  clear hP gx2 hZ hK hU hL
  clear x2
  clear Z
  rintro m ⟨L, st, μ⟩ ⟨Z, x2, hL, hx, hZ, hK, hU, hm, gx2, hP⟩
  cases hx
  refine fb_506_1 (i3 x1) (i3 x2) _ _ _ _ hL ?_
  refine wz_i0 (i3O (n := 4400) (i3A (i3A (show (3250 : Int32) = i3 3250 from rfl) (i3M (show (24 : Int32) = i3 24 from rfl) (rfl : i3 x1 = i3 x1))) (show (8 : Int32) = i3 8 from rfl)) (by omega) (by omega) (by omega)) ?_
  have r1 := zM_k hZ 2 0 0 (3258 + 24 * x1) (lo := 0) (hi := 5) (by decide) (zs_3250_8 (x := x1) (by omega) (by omega) (by omega))
  refine wz_br (i3Le (zm_rd (Z := Z) (ν := ν) (k := 2) (show ((0 : Nat) : Int) = 0 from rfl) (show ((0 : Nat) : Int) = 0 from rfl) (i3I (y := (3258 + 24 * x1)) (i3A (i3A (show (3250 : Int32) = i3 3250 from rfl) (i3M (show (24 : Int32) = i3 24 from rfl) (rfl : i3 x1 = i3 x1))) (show (8 : Int32) = i3 8 from rfl)) (by omega) (by omega) (by omega))) (rfl : i3 x2 = i3 x2) (by omega) (by omega) (by omega) (by omega)) (fun h2 => ?_) (fun h2 => ?_)
  · replace hP := zE_p hP h2
    exact hk _ _ _ (zconso rfl (zconso (zvo (rfl : i3 x1 = i3 x1)) (zconso rfl rfl))) hZ hK hU (by omega)  hP
  · replace hP := zE_n hP h2
    refine wz_i0 (i3O (n := 4400) (i3A (i3A (show (3250 : Int32) = i3 3250 from rfl) (i3M (show (24 : Int32) = i3 24 from rfl) (rfl : i3 x1 = i3 x1))) (i3A (show (14 : Int32) = i3 14 from rfl) (rfl : i3 x2 = i3 x2))) (by omega) (by omega) (by omega)) ?_
    have r3 := zM_k hZ 2 0 0 (3264 + 24 * x1 + x2) (lo := 0) (hi := 743) (by decide) (zsx (zsb_3250 (by omega) (by omega)) (c0 := 14) (n := 5) (by decide +kernel) (by omega) (by omega))
    have r4 := zM_k hZ 2 0 0 0 (lo := 0) (hi := 671) (by decide) rfl
    refine wz_br (i3NE (zm_rd (Z := Z) (ν := ν) (k := 2) (show ((0 : Nat) : Int) = 0 from rfl) (show ((0 : Nat) : Int) = 0 from rfl) (i3I (y := (3264 + 24 * x1 + x2)) (i3A (i3A (show (3250 : Int32) = i3 3250 from rfl) (i3M (show (24 : Int32) = i3 24 from rfl) (rfl : i3 x1 = i3 x1))) (i3A (show (14 : Int32) = i3 14 from rfl) (rfl : i3 x2 = i3 x2))) (by omega) (by omega) (by omega))) (zm_rd (Z := Z) (ν := ν) (k := 2) (show ((0 : Nat) : Int) = 0 from rfl) (show ((0 : Nat) : Int) = 0 from rfl) (show ((0 : Nat) : Int) = 0 from rfl)) (by omega) (by omega) (by omega) (by omega)) (fun h5 => ?_) (fun h5 => ?_)
    · replace hP := zE_p hP h5
      obtain ⟨m2, rfl⟩ : ∃ m2, m = m2 + 1 := ⟨m - 1, by omega⟩
      exact wz_k1 ⟨m2, by omega, Z, (x2 + 1), (zconso rfl (zconso (zvo (rfl : i3 x1 = i3 x1)) (zconso (zvo (i3A (rfl : i3 x2 = i3 x2) (show (1 : Int32) = i3 1 from rfl))) rfl))), rfl, hZ, hK, hU, by omega, by omega,  hP⟩
    · replace hP := zE_n hP h5
      refine wz_i0 (i3O (n := 4400) (i3A (i3A (show (3250 : Int32) = i3 3250 from rfl) (i3M (show (24 : Int32) = i3 24 from rfl) (rfl : i3 x1 = i3 x1))) (i3A (show (9 : Int32) = i3 9 from rfl) (rfl : i3 x2 = i3 x2))) (by omega) (by omega) (by omega)) ?_
      have r6 := zM_k hZ 2 0 0 (3259 + 24 * x1 + x2) (lo := 0) (hi := 4) (by decide) (zsx (zsb_3250 (by omega) (by omega)) (c0 := 9) (n := 5) (by decide +kernel) (by omega) (by omega))
      obtain ⟨Z7, hZ7, c9, hZ7I, kZ7, jZ7⟩ := sp_515 (ν := ν) hZ (a1 := x1) (by omega) (a2 := (Z 2 0 0 (3259 + 24 * x1 + x2))) (by omega) (zbh (c := 0) (k := 0) hM (Nat.le_of_ble_eq_true rfl))
      have hZ7U : zU [] Zs Z7 := zU_t hU jZ7 zU_b0
      have hZ7K : zC [2] Zs Z7 := zC_t hK kZ7 (by decide)
      replace hP := zl_e hP hZ7
      refine wz_cV_of (zas (zcons rfl (zcons (zvi (rfl : i3 x1 = i3 x1)) (zcons (zvi (zm_rd (Z := Z) (ν := ν) (k := 2) (show ((0 : Nat) : Int) = 0 from rfl) (show ((0 : Nat) : Int) = 0 from rfl) (i3I (y := (3259 + 24 * x1 + x2)) (i3A (i3A (show (3250 : Int32) = i3 3250 from rfl) (i3M (show (24 : Int32) = i3 24 from rfl) (rfl : i3 x1 = i3 x1))) (i3A (show (9 : Int32) = i3 9 from rfl) (rfl : i3 x2 = i3 x2))) (by omega) (by omega) (by omega)))) rfl))) c9) ?_
      clear c9
      obtain ⟨m2, rfl⟩ : ∃ m2, m = m2 + 1 := ⟨m - 1, by omega⟩
      exact wz_k1 ⟨m2, by omega, Z7, (x2 + 1), (zconso rfl (zconso (zvo (rfl : i3 x1 = i3 x1)) (zconso (zvo (i3A (rfl : i3 x2 = i3 x2) (show (1 : Int32) = i3 1 from rfl))) rfl))), rfl, hZ7I, hZ7K, hZ7U, by omega, by omega,  hP⟩
/- yX12_tArrives -/
def zf_506 (Z : qz_Z) (a1 : Int) : qz_Z := (zlet2 (zl_506_1 a1 6 Z 0) (fun Z2 y1 => (if (Z2 2 0 0 (3269 + 24 * a1)) ≠ (Z2 2 0 0 0) then Z2 else (zlet (zu Z2 2 0 0 (3252 + 24 * a1) 0) (fun Z7 => (zlet (zu Z7 2 0 0 (3256 + 24 * a1) (w3 ((Z7 2 0 0 (3256 + 24 * a1)) + (Z7 2 0 0 (3255 + 24 * a1))))) (fun Z11 => (zlet (zf_403 Z11 0 5 (w3 ((Z11 2 0 0 3812) * (Z11 2 0 0 (3255 + 24 * a1)))) (-1)) (fun Z16 => Z16)))))))))
theorem sp_506 {s : zSM} {Z : qz_Z} {ν : qz_N} (hZ : zM s Z) {a1 : Int} (ga1 : 0 ≤ a1 ∧ a1 ≤ 3) (hM : s.2 + 1 ≤ 1000000000) : ∃ P : qz_Z, P = zf_506 Z a1 ∧ (qf_506 [.inr (.inr (some (1, 0, 0))), .inl (i3 a1)] (zm Z ν) = some (zm P ν, .inl none) ∧ zM (zb s 1) P ∧ zC [2] Z P ∧ zU [] Z P) := by
  obtain ⟨P, hP⟩ := zx (zf_506 Z a1)
  refine zc_V (Q := fun P => zM (zb s 1) P ∧ zC [2] Z P ∧ zU [] Z P) hP (fw_506 (i3 a1) _ _ ?_)
  replace hP : zE P (zf_506 Z a1) := hP
  unfold zf_506 at hP
  refine sl_506_1 (ν := ν) hZ (zbh (c := 0) (k := 0) hM (Nat.le_of_ble_eq_true rfl)) zC_r (x1 := a1) (by omega) (x2 := 0) (by omega) zU_r  (zconso rfl (zconso (zvo (rfl : i3 a1 = i3 a1)) (zconso (zvo (show (0 : Int32) = i3 0 from rfl)) rfl))) rfl ?_
  intro L3 Z2 y1 hL3 hZ2I kZ2 jZ2 gy1 q9
  replace hP := zl_e2 hP (Eq.symm q9)
  clear q9
  have hZ2U : zU [] Z Z2 := zU_t zU_r jZ2 zU_b0
  have hZ2K : zC [2] Z Z2 := zC_t zC_r kZ2 (by decide)
  refine fc_506_2 (i3 a1) _ _ _ _ hL3 ?_
  refine wz_i0 (i3O (n := 4400) (i3A (i3A (show (3250 : Int32) = i3 3250 from rfl) (i3M (show (24 : Int32) = i3 24 from rfl) (rfl : i3 a1 = i3 a1))) (show (19 : Int32) = i3 19 from rfl)) (by omega) (by omega) (by omega)) ?_
  have r4 := zM_k hZ2I 2 0 0 (3269 + 24 * a1) (lo := 0) (hi := 743) (by decide) (zs_3250_19 (x := a1) (by omega) (by omega) (by omega))
  have r5 := zM_k hZ2I 2 0 0 0 (lo := 0) (hi := 671) (by decide) rfl
  refine wz_br (i3NE (zm_rd (Z := Z2) (ν := ν) (k := 2) (show ((0 : Nat) : Int) = 0 from rfl) (show ((0 : Nat) : Int) = 0 from rfl) (i3I (y := (3269 + 24 * a1)) (i3A (i3A (show (3250 : Int32) = i3 3250 from rfl) (i3M (show (24 : Int32) = i3 24 from rfl) (rfl : i3 a1 = i3 a1))) (show (19 : Int32) = i3 19 from rfl)) (by omega) (by omega) (by omega))) (zm_rd (Z := Z2) (ν := ν) (k := 2) (show ((0 : Nat) : Int) = 0 from rfl) (show ((0 : Nat) : Int) = 0 from rfl) (show ((0 : Nat) : Int) = 0 from rfl)) (by omega) (by omega) (by omega) (by omega)) (fun h6 => ?_) (fun h6 => ?_)
  · replace hP := zE_p hP h6
    exact zlV hP ⟨(zmw (a := 0) (c := 1) hZ2I (Nat.le_of_ble_eq_true rfl)), hZ2K, hZ2U⟩
  · replace hP := zE_n hP h6
    refine wz_i0 (i3O (n := 4400) (i3A (i3A (show (3250 : Int32) = i3 3250 from rfl) (i3M (show (24 : Int32) = i3 24 from rfl) (rfl : i3 a1 = i3 a1))) (show (2 : Int32) = i3 2 from rfl)) (by omega) (by omega) (by omega)) ?_
    obtain ⟨Z7, hZ7⟩ := zx (zu Z2 2 0 0 (3252 + 24 * a1) 0)
    replace hP := zl_e hP hZ7
    have hZ7I := zM_02 hZ2I hZ7 (by simp only [zsp]; omega)
    have hZ7U : zU [] Z Z7 := zU_u hZ2U hZ7 (Or.inl rfl)
    have hZ7K : zC [2] Z Z7 := zC_u hZ2K hZ7 (zcl_2w (by omega) rfl)
    intro μ9 e9
    replace e9 := e9.trans (zm_wI (Z := Z2) (ν := ν) hZ7 (show ((0 : Nat) : Int) = 0 from rfl) (show ((0 : Nat) : Int) = 0 from rfl) (i3I (y := (3252 + 24 * a1)) (i3A (i3A (show (3250 : Int32) = i3 3250 from rfl) (i3M (show (24 : Int32) = i3 24 from rfl) (rfl : i3 a1 = i3 a1))) (show (2 : Int32) = i3 2 from rfl)) (by omega) (by omega) (by omega)) (show (0 : Int32) = i3 0 from rfl))
    subst e9
    refine wz_i0 (i3O (n := 4400) (i3A (i3A (show (3250 : Int32) = i3 3250 from rfl) (i3M (show (24 : Int32) = i3 24 from rfl) (rfl : i3 a1 = i3 a1))) (show (6 : Int32) = i3 6 from rfl)) (by omega) (by omega) (by omega)) ?_
    refine wz_i0 (i3O (n := 4400) (i3A (i3A (show (3250 : Int32) = i3 3250 from rfl) (i3M (show (24 : Int32) = i3 24 from rfl) (rfl : i3 a1 = i3 a1))) (show (5 : Int32) = i3 5 from rfl)) (by omega) (by omega) (by omega)) ?_
    refine wz_i0 (i3O (n := 4400) (i3A (i3A (show (3250 : Int32) = i3 3250 from rfl) (i3M (show (24 : Int32) = i3 24 from rfl) (rfl : i3 a1 = i3 a1))) (show (6 : Int32) = i3 6 from rfl)) (by omega) (by omega) (by omega)) ?_
    have r8 := zM_f hZ7I 2 0 0 (3256 + 24 * a1)
    have r9 := zM_f hZ7I 2 0 0 (3255 + 24 * a1)
    have r10 := w3_r ((Z7 2 0 0 (3256 + 24 * a1)) + (Z7 2 0 0 (3255 + 24 * a1)))
    obtain ⟨Z11, hZ11⟩ := zx (zu Z7 2 0 0 (3256 + 24 * a1) (w3 ((Z7 2 0 0 (3256 + 24 * a1)) + (Z7 2 0 0 (3255 + 24 * a1)))))
    replace hP := zl_e hP hZ11
    have hZ11I := zM_u2 hZ7I hZ11 (lo := -2147483648) (hi := 2147483647) (zs_3250_6 (x := a1) (by omega) (by omega) (by omega)) (by omega) ⟨by decide, by decide⟩ (by simp only [zsp]; omega)
    have hZ11U : zU [] Z Z11 := zU_u hZ7U hZ11 (Or.inl rfl)
    have hZ11K : zC [2] Z Z11 := zC_u hZ7K hZ11 (zcl_2w (by omega) rfl)
    intro μ9 e9
    replace e9 := e9.trans (zm_wI (Z := Z7) (ν := ν) hZ11 (show ((0 : Nat) : Int) = 0 from rfl) (show ((0 : Nat) : Int) = 0 from rfl) (i3I (y := (3256 + 24 * a1)) (i3A (i3A (show (3250 : Int32) = i3 3250 from rfl) (i3M (show (24 : Int32) = i3 24 from rfl) (rfl : i3 a1 = i3 a1))) (show (6 : Int32) = i3 6 from rfl)) (by omega) (by omega) (by omega)) (i3W (i3A (zm_rd (Z := Z7) (ν := ν) (k := 2) (show ((0 : Nat) : Int) = 0 from rfl) (show ((0 : Nat) : Int) = 0 from rfl) (i3I (y := (3256 + 24 * a1)) (i3A (i3A (show (3250 : Int32) = i3 3250 from rfl) (i3M (show (24 : Int32) = i3 24 from rfl) (rfl : i3 a1 = i3 a1))) (show (6 : Int32) = i3 6 from rfl)) (by omega) (by omega) (by omega))) (zm_rd (Z := Z7) (ν := ν) (k := 2) (show ((0 : Nat) : Int) = 0 from rfl) (show ((0 : Nat) : Int) = 0 from rfl) (i3I (y := (3255 + 24 * a1)) (i3A (i3A (show (3250 : Int32) = i3 3250 from rfl) (i3M (show (24 : Int32) = i3 24 from rfl) (rfl : i3 a1 = i3 a1))) (show (5 : Int32) = i3 5 from rfl)) (by omega) (by omega) (by omega))))))
    subst e9
    refine wz_i0 (i3O (n := 4400) (i3A (i3A (show (3250 : Int32) = i3 3250 from rfl) (i3M (show (24 : Int32) = i3 24 from rfl) (rfl : i3 a1 = i3 a1))) (show (5 : Int32) = i3 5 from rfl)) (by omega) (by omega) (by omega)) ?_
    have r12 := zM_k hZ11I 2 0 0 3812 (lo := 0) (hi := 99999) (by decide) rfl
    have r13 := zM_f hZ11I 2 0 0 (3255 + 24 * a1)
    have q14 := zu_ne (k' := 2) (b' := 0) (i' := 0) (j' := (3255 + 24 * a1)) hZ11 (fun q => absurd q.2.2.2 (by omega))
    have r15 := w3_r ((Z11 2 0 0 3812) * (Z11 2 0 0 (3255 + 24 * a1)))
    obtain ⟨Z16, hZ16, c9, hZ16I, kZ16, jZ16⟩ := sp_403 (ν := ν) hZ11I (a1 := 0) (by omega) (a2 := 5) (by omega) (a3 := (w3 ((Z11 2 0 0 3812) * (Z11 2 0 0 (3255 + 24 * a1))))) (by omega) (a4 := (-1)) (by omega) (zbh (c := 0) (k := 1) hM (Nat.le_of_ble_eq_true rfl))
    have hZ16U : zU [] Z Z16 := zU_t hZ11U jZ16 zU_b0
    have hZ16K : zC [2] Z Z16 := zC_t hZ11K kZ16 (by decide)
    replace hP := zl_e hP hZ16
    refine wz_cV_of (zas (zcons rfl (zcons (zvi (show (0 : Int32) = i3 0 from rfl)) (zcons (zvi (show (5 : Int32) = i3 5 from rfl)) (zcons (zvi (i3W (i3M (zm_rd (Z := Z11) (ν := ν) (k := 2) (show ((0 : Nat) : Int) = 0 from rfl) (show ((0 : Nat) : Int) = 0 from rfl) (show ((3812 : Nat) : Int) = 3812 from rfl)) (zm_rd (Z := Z11) (ν := ν) (k := 2) (show ((0 : Nat) : Int) = 0 from rfl) (show ((0 : Nat) : Int) = 0 from rfl) (i3I (y := (3255 + 24 * a1)) (i3A (i3A (show (3250 : Int32) = i3 3250 from rfl) (i3M (show (24 : Int32) = i3 24 from rfl) (rfl : i3 a1 = i3 a1))) (show (5 : Int32) = i3 5 from rfl)) (by omega) (by omega) (by omega)))))) (zcons (zvi (show (-1 : Int32) = i3 (-1) from rfl)) rfl))))) c9) ?_
    clear c9
    exact zlV hP ⟨hZ16I, hZ16K, hZ16U⟩
/- yX12_tArrive -/
def zl_505_1 : Nat → qz_Z → Int → qz_Z × Int
  | 0, Z, x1 => (Z, x1)
  | m + 1, Z, x1 => (if (Z 2 0 0 3200) ≤ x1 then (Z, x1) else (if (Z 2 0 0 (3252 + 24 * x1)) ≠ 1 then zl_505_1 m Z (x1 + 1) else (zlet (zf_506 Z x1) (fun Z5 => zl_505_1 m Z5 (x1 + 1)))))
theorem sl_505_1 {s : zSM} {xM9 : Nat} {Zs Z : qz_Z} {ν : qz_N} (hZ : zM (zb s xM9) Z) (hM : s.2 + 5 ≤ 1000000000) (hK : zC [2] Zs Z) {x1 : Int} (gx1 : 0 ≤ x1 ∧ x1 ≤ 4) (hU : zU [] Zs Z) (hx9 : xM9 + 1 * ((4 - x1).toNat) + 1 ≤ 5) {k : wz_K} {R : wz_R} {L : qz_L} (hL : qz_fg [true, true] L = [some (.inr (.inr (some (1, 0, 0)))), some (.inl (i3 x1))]) {T : qz_Z × Int} (hP : zE T (zl_505_1 ((4 - x1).toNat + 1) Z x1)) (hk : ∀ (L9 : qz_L) (Z9 : qz_Z) (yx1 : Int), qz_fg [false, false] L9 = [none, none] → zM (zb s 5) Z9 → zC [2] Zs Z9 → zU [] Zs Z9 → (0 ≤ yx1 ∧ yx1 ≤ 4) → zE T ((Z9, yx1)) → k 0 (L9, [], zm Z9 ν)) : wz_loop qb_505_1 65536 k R (L, [], zm Z ν) := by
  refine wz_lp sb_505_1 (fun m x => ∃ xM9 : Nat, ∃ Z : qz_Z, ∃ x1 : Int, qz_fg [true, true] x.1 = [some (.inr (.inr (some (1, 0, 0)))), some (.inl (i3 x1))] ∧ x.2 = ([], zm Z ν) ∧ xM9 + 1 * m + 1 ≤ 5 ∧ zM (zb s xM9) Z ∧ zC [2] Zs Z ∧ zU [] Zs Z ∧ m = (4 - x1).toNat ∧ (0 ≤ x1 ∧ x1 ≤ 4) ∧ zE T (zl_505_1 (m + 1) Z x1)) ?_ 65536 ((4 - x1).toNat) _ (by omega) ⟨xM9, Z, x1, hL, rfl, hx9, hZ, hK, hU, rfl, gx1, hP⟩
  clear hP gx1 hx9 hZ hK hU hL
  clear x1
  clear Z
  clear xM9
  rintro m ⟨L, st, μ⟩ ⟨xM9, Z, x1, hL, hx, hx9, hZ, hK, hU, hm, gx1, hP⟩
  cases hx
  have hM9 : (zb s xM9).2 + 1 ≤ 1000000000 := by
    show s.2 + xM9 + 1 ≤ 1000000000
    omega
  refine fb_505_1 (i3 x1) _ _ _ _ hL ?_
  have r1 := zM_k hZ 2 0 0 3200 (lo := 0) (hi := 4) (by decide) rfl
  refine wz_br (i3Le (zm_rd (Z := Z) (ν := ν) (k := 2) (show ((0 : Nat) : Int) = 0 from rfl) (show ((0 : Nat) : Int) = 0 from rfl) (show ((3200 : Nat) : Int) = 3200 from rfl)) (rfl : i3 x1 = i3 x1) (by omega) (by omega) (by omega) (by omega)) (fun h2 => ?_) (fun h2 => ?_)
  · replace hP := zE_p hP h2
    exact hk _ _ _ (zconso rfl (zconso rfl rfl)) (zmx0 hZ (by omega)) hK hU (by omega)  hP
  · replace hP := zE_n hP h2
    refine wz_i0 (i3O (n := 4400) (i3A (i3A (show (3250 : Int32) = i3 3250 from rfl) (i3M (show (24 : Int32) = i3 24 from rfl) (rfl : i3 x1 = i3 x1))) (show (2 : Int32) = i3 2 from rfl)) (by omega) (by omega) (by omega)) ?_
    have r3 := zM_k hZ 2 0 0 (3252 + 24 * x1) (lo := 0) (hi := 1) (by decide) (zs_3250_2 (x := x1) (by omega) (by omega) (by omega))
    refine wz_br (i3NE (zm_rd (Z := Z) (ν := ν) (k := 2) (show ((0 : Nat) : Int) = 0 from rfl) (show ((0 : Nat) : Int) = 0 from rfl) (i3I (y := (3252 + 24 * x1)) (i3A (i3A (show (3250 : Int32) = i3 3250 from rfl) (i3M (show (24 : Int32) = i3 24 from rfl) (rfl : i3 x1 = i3 x1))) (show (2 : Int32) = i3 2 from rfl)) (by omega) (by omega) (by omega))) (show (1 : Int32) = i3 1 from rfl) (by omega) (by omega) (by omega) (by omega)) (fun h4 => ?_) (fun h4 => ?_)
    · replace hP := zE_p hP h4
      obtain ⟨m2, rfl⟩ : ∃ m2, m = m2 + 1 := ⟨m - 1, by omega⟩
      exact wz_k1 ⟨m2, by omega, xM9, Z, (x1 + 1), (zconso rfl (zconso (zvo (i3A (rfl : i3 x1 = i3 x1) (show (1 : Int32) = i3 1 from rfl))) rfl)), rfl, by omega, hZ, hK, hU, by omega, by omega,  hP⟩
    · replace hP := zE_n hP h4
      obtain ⟨Z5, hZ5, c9, hZ5I, kZ5, jZ5⟩ := sp_506 (ν := ν) hZ (a1 := x1) (by omega) (zbh (c := 0) (k := 1) hM9 (Nat.le_of_ble_eq_true rfl))
      have hZ5U : zU [] Zs Z5 := zU_t hU jZ5 zU_b0
      have hZ5K : zC [2] Zs Z5 := zC_t hK kZ5 (by decide)
      replace hP := zl_e hP hZ5
      refine wz_cV_of (zas (zcons rfl (zcons (zvi (rfl : i3 x1 = i3 x1)) rfl)) c9) ?_
      clear c9
      obtain ⟨m2, rfl⟩ : ∃ m2, m = m2 + 1 := ⟨m - 1, by omega⟩
      exact wz_k1 ⟨m2, by omega, xM9 + 1, Z5, (x1 + 1), (zconso rfl (zconso (zvo (i3A (rfl : i3 x1 = i3 x1) (show (1 : Int32) = i3 1 from rfl))) rfl)), rfl, by omega, (zmt hZ5I rfl), hZ5K, hZ5U, by omega, by omega,  hP⟩
/- yX12_tArrive -/
def zf_505 (Z : qz_Z) : qz_Z := (zlet2 (zl_505_1 5 Z 0) (fun Z2 y1 => Z2))
theorem sp_505 {s : zSM} {Z : qz_Z} {ν : qz_N} (hZ : zM s Z) (hM : s.2 + 5 ≤ 1000000000) : ∃ P : qz_Z, P = zf_505 Z ∧ (qf_505 [.inr (.inr (some (1, 0, 0)))] (zm Z ν) = some (zm P ν, .inl none) ∧ zM (zb s 5) P ∧ zC [2] Z P ∧ zU [] Z P) := by
  obtain ⟨P, hP⟩ := zx (zf_505 Z)
  refine zc_V (Q := fun P => zM (zb s 5) P ∧ zC [2] Z P ∧ zU [] Z P) hP (fw_505  _ _ ?_)
  replace hP : zE P (zf_505 Z) := hP
  unfold zf_505 at hP
  refine sl_505_1 (ν := ν) (zm0 hZ) (zbh (c := 0) (k := 5) hM (Nat.le_of_ble_eq_true rfl)) (xM9 := 0) zC_r (x1 := 0) (by omega) zU_r (Nat.le_of_ble_eq_true rfl)  (zconso rfl (zconso (zvo (show (0 : Int32) = i3 0 from rfl)) rfl)) rfl ?_
  intro L3 Z2 y1 hL3 hZ2I kZ2 jZ2 gy1 q9
  replace hP := zl_e2 hP (Eq.symm q9)
  clear q9
  have hZ2U : zU [] Z Z2 := zU_t zU_r jZ2 zU_b0
  have hZ2K : zC [2] Z Z2 := zC_t zC_r kZ2 (by decide)
  refine fc_505_2  _ _ _ _ hL3 ?_
  exact zlV hP ⟨hZ2I, hZ2K, hZ2U⟩
/- yX12_tGoes -/
def zl_513_1 (x1 : Int) : Nat → qz_Z → Int → Int → Int → qz_Z × Int × Int × Int
  | 0, Z, x2, x3, x4 => (Z, x2, x3, x4)
  | m + 1, Z, x2, x3, x4 => (if (Z 1 0 0 24) ≤ x4 then (Z, x2, x3, x4) else (zlet (zu Z 2 0 0 (3259 + 24 * x1 + x4) (Z 96 0 0 x4)) (fun Z4 => (zlet (zu Z4 2 0 0 (3264 + 24 * x1 + x4) (x3 + (Z 2 0 0 (3210 + 6 * x2 + (Z 96 0 0 x4))))) (fun Z6 => zl_513_1 x1 m Z6 (Z 96 0 0 x4) (x3 + (Z 2 0 0 (3210 + 6 * x2 + (Z 96 0 0 x4)))) (x4 + 1))))))
theorem sl_513_1 {s : zSM} {Zs Z : qz_Z} {ν : qz_N} (hZ : zM s Z) (hM : s.2 + 0 ≤ 1000000000) (hK : zC [2] Zs Z) {x1 : Int} (gx1 : 0 ≤ x1 ∧ x1 ≤ 3) {x2 : Int} (gx2 : 0 ≤ x2 ∧ x2 ≤ 5) {x3 : Int} (gx3 : 0 ≤ x3 ∧ x3 ≤ 731) {x4 : Int} (gx4 : 0 ≤ x4 ∧ x4 ≤ 5) (hU : zU [] Zs Z) (gr0 : x3 ≤ 671 + 12 * x4) {k : wz_K} {R : wz_R} {L : qz_L} (hL : qz_fg [true, true, true, true, true] L = [some (.inr (.inr (some (1, 0, 0)))), some (.inl (i3 x1)), some (.inl (i3 x2)), some (.inl (i3 x3)), some (.inl (i3 x4))]) {T : qz_Z × Int × Int × Int} (hP : zE T (zl_513_1 x1 ((5 - x4).toNat + 1) Z x2 x3 x4)) (hk : ∀ (L9 : qz_L) (Z9 : qz_Z) (yx2 yx3 yx4 : Int), qz_fg [true, true, true, true, false] L9 = [some (.inr (.inr (some (1, 0, 0)))), some (.inl (i3 x1)), some (.inl (i3 yx2)), some (.inl (i3 yx3)), none] → zM s Z9 → zC [2] Zs Z9 → zU [] Zs Z9 → (0 ≤ yx2 ∧ yx2 ≤ 5) → (0 ≤ yx3 ∧ yx3 ≤ 731) → (0 ≤ yx4 ∧ yx4 ≤ 5) → (yx3 ≤ 671 + 12 * yx4) → zE T ((Z9, yx2, yx3, yx4)) → k 0 (L9, [], zm Z9 ν)) : wz_loop qb_513_1 65536 k R (L, [], zm Z ν) := by
  refine wz_lp sb_513_1 (fun m x => ∃ Z : qz_Z, ∃ x2 : Int, ∃ x3 : Int, ∃ x4 : Int, qz_fg [true, true, true, true, true] x.1 = [some (.inr (.inr (some (1, 0, 0)))), some (.inl (i3 x1)), some (.inl (i3 x2)), some (.inl (i3 x3)), some (.inl (i3 x4))] ∧ x.2 = ([], zm Z ν) ∧ zM s Z ∧ zC [2] Zs Z ∧ zU [] Zs Z ∧ m = (5 - x4).toNat ∧ (0 ≤ x2 ∧ x2 ≤ 5) ∧ (0 ≤ x3 ∧ x3 ≤ 731) ∧ (0 ≤ x4 ∧ x4 ≤ 5) ∧ (x3 ≤ 671 + 12 * x4) ∧ zE T (zl_513_1 x1 (m + 1) Z x2 x3 x4)) ?_ 65536 ((5 - x4).toNat) _ (by omega) ⟨Z, x2, x3, x4, hL, rfl, hZ, hK, hU, rfl, gx2, gx3, gx4, gr0, hP⟩
  clear hP gr0 gx2 gx3 gx4 hZ hK hU hL
  clear x2 x3 x4
  clear Z
  rintro m ⟨L, st, μ⟩ ⟨Z, x2, x3, x4, hL, hx, hZ, hK, hU, hm, gx2, gx3, gx4, gr0, hP⟩
  cases hx
  refine fb_513_1 (i3 x1) (i3 x2) (i3 x3) (i3 x4) _ _ _ _ hL ?_
  have r1 := zM_k hZ 1 0 0 24 (lo := 0) (hi := 5) (by decide) rfl
  refine wz_br (i3Le (zm_rd (Z := Z) (ν := ν) (k := 1) (show ((0 : Nat) : Int) = 0 from rfl) (show ((0 : Nat) : Int) = 0 from rfl) (show ((24 : Nat) : Int) = 24 from rfl)) (rfl : i3 x4 = i3 x4) (by omega) (by omega) (by omega) (by omega)) (fun h2 => ?_) (fun h2 => ?_)
  · replace hP := zE_p hP h2
    exact hk _ _ _ _ _ (zconso rfl (zconso (zvo (rfl : i3 x1 = i3 x1)) (zconso (zvo (rfl : i3 x2 = i3 x2)) (zconso (zvo (rfl : i3 x3 = i3 x3)) (zconso rfl rfl))))) hZ hK hU (by omega) (by omega) (by omega) (by omega) hP
  · replace hP := zE_n hP h2
    refine wz_i0 (i3O (n := 5) (rfl : i3 x4 = i3 x4) (by omega) (by omega) (by omega)) ?_
    have r3 := zM_k hZ 96 0 0 x4 (lo := 0) (hi := 4) (by decide) rfl
    refine wz_i0 (i3O (n := 4400) (i3A (i3A (show (3210 : Int32) = i3 3210 from rfl) (i3M (show (6 : Int32) = i3 6 from rfl) (rfl : i3 x2 = i3 x2))) (zm_rd (Z := Z) (ν := ν) (k := 96) (show ((0 : Nat) : Int) = 0 from rfl) (show ((0 : Nat) : Int) = 0 from rfl) (i3I (y := x4) (rfl : i3 x4 = i3 x4) (by omega) (by omega) (by omega)))) (by omega) (by omega) (by omega)) ?_
    refine wz_i0 (i3O (n := 5) (rfl : i3 x4 = i3 x4) (by omega) (by omega) (by omega)) ?_
    refine wz_i0 (i3O (n := 4400) (i3A (i3A (show (3250 : Int32) = i3 3250 from rfl) (i3M (show (24 : Int32) = i3 24 from rfl) (rfl : i3 x1 = i3 x1))) (i3A (show (9 : Int32) = i3 9 from rfl) (rfl : i3 x4 = i3 x4))) (by omega) (by omega) (by omega)) ?_
    obtain ⟨Z4, hZ4⟩ := zx (zu Z 2 0 0 (3259 + 24 * x1 + x4) (Z 96 0 0 x4))
    replace hP := zl_e hP hZ4
    have hZ4I := zM_u2 hZ hZ4 (lo := 0) (hi := 4) (zsx (zsb_3250 (by omega) (by omega)) (c0 := 9) (n := 5) (by decide +kernel) (by omega) (by omega)) (by omega) ⟨by decide, by decide⟩ (by simp only [zsp]; omega)
    have hZ4U : zU [] Zs Z4 := zU_u hU hZ4 (Or.inl rfl)
    have hZ4K : zC [2] Zs Z4 := zC_u hK hZ4 (zcl_2w (by omega) rfl)
    intro μ9 e9
    replace e9 := e9.trans (zm_wI (Z := Z) (ν := ν) hZ4 (show ((0 : Nat) : Int) = 0 from rfl) (show ((0 : Nat) : Int) = 0 from rfl) (i3I (y := (3259 + 24 * x1 + x4)) (i3A (i3A (show (3250 : Int32) = i3 3250 from rfl) (i3M (show (24 : Int32) = i3 24 from rfl) (rfl : i3 x1 = i3 x1))) (i3A (show (9 : Int32) = i3 9 from rfl) (rfl : i3 x4 = i3 x4))) (by omega) (by omega) (by omega)) (zm_rd (Z := Z) (ν := ν) (k := 96) (show ((0 : Nat) : Int) = 0 from rfl) (show ((0 : Nat) : Int) = 0 from rfl) (i3I (y := x4) (rfl : i3 x4 = i3 x4) (by omega) (by omega) (by omega))))
    subst e9
    refine wz_i0 (i3O (n := 4400) (i3A (i3A (show (3250 : Int32) = i3 3250 from rfl) (i3M (show (24 : Int32) = i3 24 from rfl) (rfl : i3 x1 = i3 x1))) (i3A (show (14 : Int32) = i3 14 from rfl) (rfl : i3 x4 = i3 x4))) (by omega) (by omega) (by omega)) ?_
    have r5 := zM_k hZ 2 0 0 (3210 + 6 * x2 + (Z 96 0 0 x4)) (lo := 0) (hi := 12) (by decide) (zs_3210 (by omega) (by omega))
    obtain ⟨Z6, hZ6⟩ := zx (zu Z4 2 0 0 (3264 + 24 * x1 + x4) (x3 + (Z 2 0 0 (3210 + 6 * x2 + (Z 96 0 0 x4)))))
    replace hP := zl_e hP hZ6
    have hZ6I := zM_u2 hZ4I hZ6 (lo := 0) (hi := 743) (zsx (zsb_3250 (by omega) (by omega)) (c0 := 14) (n := 5) (by decide +kernel) (by omega) (by omega)) (by omega) ⟨by decide, by decide⟩ (by simp only [zsp]; omega)
    have hZ6U : zU [] Zs Z6 := zU_u hZ4U hZ6 (Or.inl rfl)
    have hZ6K : zC [2] Zs Z6 := zC_u hZ4K hZ6 (zcl_2w (by omega) rfl)
    intro μ9 e9
    replace e9 := e9.trans (zm_wI (Z := Z4) (ν := ν) hZ6 (show ((0 : Nat) : Int) = 0 from rfl) (show ((0 : Nat) : Int) = 0 from rfl) (i3I (y := (3264 + 24 * x1 + x4)) (i3A (i3A (show (3250 : Int32) = i3 3250 from rfl) (i3M (show (24 : Int32) = i3 24 from rfl) (rfl : i3 x1 = i3 x1))) (i3A (show (14 : Int32) = i3 14 from rfl) (rfl : i3 x4 = i3 x4))) (by omega) (by omega) (by omega)) (i3A (rfl : i3 x3 = i3 x3) (zm_rd (Z := Z) (ν := ν) (k := 2) (show ((0 : Nat) : Int) = 0 from rfl) (show ((0 : Nat) : Int) = 0 from rfl) (i3I (y := (3210 + 6 * x2 + (Z 96 0 0 x4))) (i3A (i3A (show (3210 : Int32) = i3 3210 from rfl) (i3M (show (6 : Int32) = i3 6 from rfl) (rfl : i3 x2 = i3 x2))) (zm_rd (Z := Z) (ν := ν) (k := 96) (show ((0 : Nat) : Int) = 0 from rfl) (show ((0 : Nat) : Int) = 0 from rfl) (i3I (y := x4) (rfl : i3 x4 = i3 x4) (by omega) (by omega) (by omega)))) (by omega) (by omega) (by omega)))))
    subst e9
    obtain ⟨m2, rfl⟩ : ∃ m2, m = m2 + 1 := ⟨m - 1, by omega⟩
    exact wz_k1 ⟨m2, by omega, Z6, (Z 96 0 0 x4), (x3 + (Z 2 0 0 (3210 + 6 * x2 + (Z 96 0 0 x4)))), (x4 + 1), (zconso rfl (zconso (zvo (rfl : i3 x1 = i3 x1)) (zconso (zvo (zm_rd (Z := Z) (ν := ν) (k := 96) (show ((0 : Nat) : Int) = 0 from rfl) (show ((0 : Nat) : Int) = 0 from rfl) (i3I (y := x4) (rfl : i3 x4 = i3 x4) (by omega) (by omega) (by omega)))) (zconso (zvo (i3A (rfl : i3 x3 = i3 x3) (zm_rd (Z := Z) (ν := ν) (k := 2) (show ((0 : Nat) : Int) = 0 from rfl) (show ((0 : Nat) : Int) = 0 from rfl) (i3I (y := (3210 + 6 * x2 + (Z 96 0 0 x4))) (i3A (i3A (show (3210 : Int32) = i3 3210 from rfl) (i3M (show (6 : Int32) = i3 6 from rfl) (rfl : i3 x2 = i3 x2))) (zm_rd (Z := Z) (ν := ν) (k := 96) (show ((0 : Nat) : Int) = 0 from rfl) (show ((0 : Nat) : Int) = 0 from rfl) (i3I (y := x4) (rfl : i3 x4 = i3 x4) (by omega) (by omega) (by omega)))) (by omega) (by omega) (by omega))))) (zconso (zvo (i3A (rfl : i3 x4 = i3 x4) (show (1 : Int32) = i3 1 from rfl))) rfl))))), rfl, hZ6I, hZ6K, hZ6U, by omega, by omega, by omega, by omega, by omega,  hP⟩
/- yX12_tGoes -/
def zf_513 (Z : qz_Z) (a1 : Int) : qz_Z := (zlet (zf_527 Z a1) (fun v1 => (zlet (zf_511 Z v1) (fun Z2 => (zlet (zu Z2 2 0 0 (3252 + 24 * a1) 1) (fun Z3 => (zlet (zu Z3 2 0 0 (3254 + 24 * a1) (Z3 2 0 0 0)) (fun Z5 => (zlet (zu Z5 2 0 0 (3255 + 24 * a1) (Z5 1 0 0 25)) (fun Z7 => (zlet (zu Z7 2 0 0 (3257 + 24 * a1) (w3 ((Z7 2 0 0 (3257 + 24 * a1)) + 1))) (fun Z10 => (zlet (zu Z10 2 0 0 (3258 + 24 * a1) (Z10 1 0 0 24)) (fun Z12 => (zlet4 (zl_513_1 a1 6 Z12 5 (Z12 2 0 0 0) 0) (fun Z18 y15 y16 y17 => (zlet (zu Z18 2 0 0 (3269 + 24 * a1) (y16 + (Z18 2 0 0 (3215 + 6 * y15)))) (fun Z21 => Z21))))))))))))))))))
theorem sp_513 {s : zSM} {Z : qz_Z} {ν : qz_N} (hZ : zM s Z) {a1 : Int} (ga1 : 0 ≤ a1 ∧ a1 ≤ 3) (hM : s.2 + 0 ≤ 1000000000) : ∃ P : qz_Z, P = zf_513 Z a1 ∧ (qf_513 [.inr (.inr (some (1, 0, 0))), .inl (i3 a1)] (zm Z ν) = some (zm P ν, .inl none) ∧ zM s P ∧ zC [1, 2, 95, 96] Z P ∧ zU [] Z P) := by
  obtain ⟨P, hP⟩ := zx (zf_513 Z a1)
  refine zc_V (Q := fun P => zM s P ∧ zC [1, 2, 95, 96] Z P ∧ zU [] Z P) hP (fw_513 (i3 a1) _ _ ?_)
  replace hP : zE P (zf_513 Z a1) := hP
  unfold zf_513 at hP
  obtain ⟨v1, hv1, c9, lv1, uv1⟩ := sp_527 (ν := ν) hZ (a1 := a1) (by omega) (zbh (c := 0) (k := 0) hM (Nat.le_of_ble_eq_true rfl))
  replace hP := zl_e hP hv1
  refine wz_cI_of (zas (zcons rfl (zcons (zvi (rfl : i3 a1 = i3 a1)) rfl)) c9) ?_
  clear c9
  obtain ⟨Z2, hZ2, c9, hZ2I, kZ2, jZ2⟩ := sp_511 (ν := ν) hZ (a1 := v1) (by omega) (zbh (c := 0) (k := 0) hM (Nat.le_of_ble_eq_true rfl))
  have hZ2U : zU [] Z Z2 := zU_t zU_r jZ2 zU_b0
  have hZ2K : zC [1, 2, 95, 96] Z Z2 := zC_t zC_r kZ2 (by decide)
  replace hP := zl_e hP hZ2
  refine wz_cV_of (zas (zcons rfl (zcons (zvi (rfl : i3 v1 = i3 v1)) rfl)) c9) ?_
  clear c9
  refine wz_i0 (i3O (n := 4400) (i3A (i3A (show (3250 : Int32) = i3 3250 from rfl) (i3M (show (24 : Int32) = i3 24 from rfl) (rfl : i3 a1 = i3 a1))) (show (2 : Int32) = i3 2 from rfl)) (by omega) (by omega) (by omega)) ?_
  obtain ⟨Z3, hZ3⟩ := zx (zu Z2 2 0 0 (3252 + 24 * a1) 1)
  replace hP := zl_e hP hZ3
  have hZ3I := zM_u2 hZ2I hZ3 (lo := 0) (hi := 1) (zs_3250_2 (x := a1) (by omega) (by omega) (by omega)) (by omega) ⟨by decide, by decide⟩ (by simp only [zsp]; omega)
  have hZ3U : zU [] Z Z3 := zU_u hZ2U hZ3 (Or.inl rfl)
  have hZ3K : zC [1, 2, 95, 96] Z Z3 := zC_u hZ2K hZ3 (zcl_2w (by omega) rfl)
  intro μ9 e9
  replace e9 := e9.trans (zm_wI (Z := Z2) (ν := ν) hZ3 (show ((0 : Nat) : Int) = 0 from rfl) (show ((0 : Nat) : Int) = 0 from rfl) (i3I (y := (3252 + 24 * a1)) (i3A (i3A (show (3250 : Int32) = i3 3250 from rfl) (i3M (show (24 : Int32) = i3 24 from rfl) (rfl : i3 a1 = i3 a1))) (show (2 : Int32) = i3 2 from rfl)) (by omega) (by omega) (by omega)) (show (1 : Int32) = i3 1 from rfl))
  subst e9
  refine wz_i0 (i3O (n := 4400) (i3A (i3A (show (3250 : Int32) = i3 3250 from rfl) (i3M (show (24 : Int32) = i3 24 from rfl) (rfl : i3 a1 = i3 a1))) (show (4 : Int32) = i3 4 from rfl)) (by omega) (by omega) (by omega)) ?_
  have r4 := zM_k hZ3I 2 0 0 0 (lo := 0) (hi := 671) (by decide) rfl
  obtain ⟨Z5, hZ5⟩ := zx (zu Z3 2 0 0 (3254 + 24 * a1) (Z3 2 0 0 0))
  replace hP := zl_e hP hZ5
  have hZ5I := zM_u2 hZ3I hZ5 (lo := -1) (hi := 671) (zs_3250_4 (x := a1) (by omega) (by omega) (by omega)) (by omega) ⟨by decide, by decide⟩ (by simp only [zsp]; omega)
  have hZ5U : zU [] Z Z5 := zU_u hZ3U hZ5 (Or.inl rfl)
  have hZ5K : zC [1, 2, 95, 96] Z Z5 := zC_u hZ3K hZ5 (zcl_2w (by omega) rfl)
  intro μ9 e9
  replace e9 := e9.trans (zm_wI (Z := Z3) (ν := ν) hZ5 (show ((0 : Nat) : Int) = 0 from rfl) (show ((0 : Nat) : Int) = 0 from rfl) (i3I (y := (3254 + 24 * a1)) (i3A (i3A (show (3250 : Int32) = i3 3250 from rfl) (i3M (show (24 : Int32) = i3 24 from rfl) (rfl : i3 a1 = i3 a1))) (show (4 : Int32) = i3 4 from rfl)) (by omega) (by omega) (by omega)) (zm_rd (Z := Z3) (ν := ν) (k := 2) (show ((0 : Nat) : Int) = 0 from rfl) (show ((0 : Nat) : Int) = 0 from rfl) (show ((0 : Nat) : Int) = 0 from rfl)))
  subst e9
  refine wz_i0 (i3O (n := 4400) (i3A (i3A (show (3250 : Int32) = i3 3250 from rfl) (i3M (show (24 : Int32) = i3 24 from rfl) (rfl : i3 a1 = i3 a1))) (show (5 : Int32) = i3 5 from rfl)) (by omega) (by omega) (by omega)) ?_
  have r6 := zM_f hZ5I 1 0 0 25
  obtain ⟨Z7, hZ7⟩ := zx (zu Z5 2 0 0 (3255 + 24 * a1) (Z5 1 0 0 25))
  replace hP := zl_e hP hZ7
  have hZ7I := zM_u2 hZ5I hZ7 (lo := -2147483648) (hi := 2147483647) (zs_3250_5 (x := a1) (by omega) (by omega) (by omega)) (by omega) ⟨by decide, by decide⟩ (by simp only [zsp]; omega)
  have hZ7U : zU [] Z Z7 := zU_u hZ5U hZ7 (Or.inl rfl)
  have hZ7K : zC [1, 2, 95, 96] Z Z7 := zC_u hZ5K hZ7 (zcl_2w (by omega) rfl)
  intro μ9 e9
  replace e9 := e9.trans (zm_wI (Z := Z5) (ν := ν) hZ7 (show ((0 : Nat) : Int) = 0 from rfl) (show ((0 : Nat) : Int) = 0 from rfl) (i3I (y := (3255 + 24 * a1)) (i3A (i3A (show (3250 : Int32) = i3 3250 from rfl) (i3M (show (24 : Int32) = i3 24 from rfl) (rfl : i3 a1 = i3 a1))) (show (5 : Int32) = i3 5 from rfl)) (by omega) (by omega) (by omega)) (zm_rd (Z := Z5) (ν := ν) (k := 1) (show ((0 : Nat) : Int) = 0 from rfl) (show ((0 : Nat) : Int) = 0 from rfl) (show ((25 : Nat) : Int) = 25 from rfl)))
  subst e9
  refine wz_i0 (i3O (n := 4400) (i3A (i3A (show (3250 : Int32) = i3 3250 from rfl) (i3M (show (24 : Int32) = i3 24 from rfl) (rfl : i3 a1 = i3 a1))) (show (7 : Int32) = i3 7 from rfl)) (by omega) (by omega) (by omega)) ?_
  refine wz_i0 (i3O (n := 4400) (i3A (i3A (show (3250 : Int32) = i3 3250 from rfl) (i3M (show (24 : Int32) = i3 24 from rfl) (rfl : i3 a1 = i3 a1))) (show (7 : Int32) = i3 7 from rfl)) (by omega) (by omega) (by omega)) ?_
  have r8 := zM_f hZ7I 2 0 0 (3257 + 24 * a1)
  have r9 := w3_r ((Z7 2 0 0 (3257 + 24 * a1)) + 1)
  obtain ⟨Z10, hZ10⟩ := zx (zu Z7 2 0 0 (3257 + 24 * a1) (w3 ((Z7 2 0 0 (3257 + 24 * a1)) + 1)))
  replace hP := zl_e hP hZ10
  have hZ10I := zM_u2 hZ7I hZ10 (lo := -2147483648) (hi := 2147483647) (zs_3250_7 (x := a1) (by omega) (by omega) (by omega)) (by omega) ⟨by decide, by decide⟩ (by simp only [zsp]; omega)
  have hZ10U : zU [] Z Z10 := zU_u hZ7U hZ10 (Or.inl rfl)
  have hZ10K : zC [1, 2, 95, 96] Z Z10 := zC_u hZ7K hZ10 (zcl_2w (by omega) rfl)
  intro μ9 e9
  replace e9 := e9.trans (zm_wI (Z := Z7) (ν := ν) hZ10 (show ((0 : Nat) : Int) = 0 from rfl) (show ((0 : Nat) : Int) = 0 from rfl) (i3I (y := (3257 + 24 * a1)) (i3A (i3A (show (3250 : Int32) = i3 3250 from rfl) (i3M (show (24 : Int32) = i3 24 from rfl) (rfl : i3 a1 = i3 a1))) (show (7 : Int32) = i3 7 from rfl)) (by omega) (by omega) (by omega)) (i3W (i3A (zm_rd (Z := Z7) (ν := ν) (k := 2) (show ((0 : Nat) : Int) = 0 from rfl) (show ((0 : Nat) : Int) = 0 from rfl) (i3I (y := (3257 + 24 * a1)) (i3A (i3A (show (3250 : Int32) = i3 3250 from rfl) (i3M (show (24 : Int32) = i3 24 from rfl) (rfl : i3 a1 = i3 a1))) (show (7 : Int32) = i3 7 from rfl)) (by omega) (by omega) (by omega))) (show (1 : Int32) = i3 1 from rfl))))
  subst e9
  refine wz_i0 (i3O (n := 4400) (i3A (i3A (show (3250 : Int32) = i3 3250 from rfl) (i3M (show (24 : Int32) = i3 24 from rfl) (rfl : i3 a1 = i3 a1))) (show (8 : Int32) = i3 8 from rfl)) (by omega) (by omega) (by omega)) ?_
  have r11 := zM_k hZ10I 1 0 0 24 (lo := 0) (hi := 5) (by decide) rfl
  obtain ⟨Z12, hZ12⟩ := zx (zu Z10 2 0 0 (3258 + 24 * a1) (Z10 1 0 0 24))
  replace hP := zl_e hP hZ12
  have hZ12I := zM_u2 hZ10I hZ12 (lo := 0) (hi := 5) (zs_3250_8 (x := a1) (by omega) (by omega) (by omega)) (by omega) ⟨by decide, by decide⟩ (by simp only [zsp]; omega)
  have hZ12U : zU [] Z Z12 := zU_u hZ10U hZ12 (Or.inl rfl)
  have hZ12K : zC [1, 2, 95, 96] Z Z12 := zC_u hZ10K hZ12 (zcl_2w (by omega) rfl)
  intro μ9 e9
  replace e9 := e9.trans (zm_wI (Z := Z10) (ν := ν) hZ12 (show ((0 : Nat) : Int) = 0 from rfl) (show ((0 : Nat) : Int) = 0 from rfl) (i3I (y := (3258 + 24 * a1)) (i3A (i3A (show (3250 : Int32) = i3 3250 from rfl) (i3M (show (24 : Int32) = i3 24 from rfl) (rfl : i3 a1 = i3 a1))) (show (8 : Int32) = i3 8 from rfl)) (by omega) (by omega) (by omega)) (zm_rd (Z := Z10) (ν := ν) (k := 1) (show ((0 : Nat) : Int) = 0 from rfl) (show ((0 : Nat) : Int) = 0 from rfl) (show ((24 : Nat) : Int) = 24 from rfl)))
  subst e9
  have r13 := zM_k hZ12I 2 0 0 0 (lo := 0) (hi := 671) (by decide) rfl
  have q14 := (zu_ne (k' := 2) (b' := 0) (i' := 0) (j' := 0) hZ12 (fun q => absurd q.2.2.2 (by omega))).trans ((zu_ne (k' := 2) (b' := 0) (i' := 0) (j' := 0) hZ10 (fun q => absurd q.2.2.2 (by omega))).trans ((zu_ne (k' := 2) (b' := 0) (i' := 0) (j' := 0) hZ7 (fun q => absurd q.2.2.2 (by omega))).trans (zu_ne (k' := 2) (b' := 0) (i' := 0) (j' := 0) hZ5 (fun q => absurd q.2.2.2 (by omega)))))
  refine sl_513_1 (ν := ν) hZ12I (zbh (c := 0) (k := 0) hM (Nat.le_of_ble_eq_true rfl)) zC_r (x1 := a1) (by omega) (x2 := 5) (by omega) (x3 := (Z12 2 0 0 0)) (by omega) (x4 := 0) (by omega) zU_r (by omega) (zconso rfl (zconso (zvo (rfl : i3 a1 = i3 a1)) (zconso (zvo (show (5 : Int32) = i3 5 from rfl)) (zconso (zvo (zm_rd (Z := Z12) (ν := ν) (k := 2) (show ((0 : Nat) : Int) = 0 from rfl) (show ((0 : Nat) : Int) = 0 from rfl) (show ((0 : Nat) : Int) = 0 from rfl))) (zconso (zvo (show (0 : Int32) = i3 0 from rfl)) rfl))))) rfl ?_
  intro L19 Z18 y15 y16 y17 hL19 hZ18I kZ18 jZ18 gy15 gy16 gy17 gL19_0 q9
  replace hP := zl_e4 hP (Eq.symm q9)
  clear q9
  have hZ18U : zU [] Z Z18 := zU_t hZ12U jZ18 zU_b0
  have hZ18K : zC [1, 2, 95, 96] Z Z18 := zC_t hZ12K kZ18 (by decide)
  refine fc_513_2 (i3 a1) (i3 y15) (i3 y16) _ _ _ _ hL19 ?_
  refine wz_i0 (i3O (n := 4400) (i3A (i3A (show (3210 : Int32) = i3 3210 from rfl) (i3M (show (6 : Int32) = i3 6 from rfl) (rfl : i3 y15 = i3 y15))) (show (5 : Int32) = i3 5 from rfl)) (by omega) (by omega) (by omega)) ?_
  refine wz_i0 (i3O (n := 4400) (i3A (i3A (show (3250 : Int32) = i3 3250 from rfl) (i3M (show (24 : Int32) = i3 24 from rfl) (rfl : i3 a1 = i3 a1))) (show (19 : Int32) = i3 19 from rfl)) (by omega) (by omega) (by omega)) ?_
  have r20 := zM_k hZ18I 2 0 0 (3215 + 6 * y15) (lo := 0) (hi := 12) (by decide) (zs_3210 (by omega) (by omega))
  obtain ⟨Z21, hZ21⟩ := zx (zu Z18 2 0 0 (3269 + 24 * a1) (y16 + (Z18 2 0 0 (3215 + 6 * y15))))
  replace hP := zl_e hP hZ21
  have hZ21I := zM_u2 hZ18I hZ21 (lo := 0) (hi := 743) (zs_3250_19 (x := a1) (by omega) (by omega) (by omega)) (by omega) ⟨by decide, by decide⟩ (by simp only [zsp]; omega)
  have hZ21U : zU [] Z Z21 := zU_u hZ18U hZ21 (Or.inl rfl)
  have hZ21K : zC [1, 2, 95, 96] Z Z21 := zC_u hZ18K hZ21 (zcl_2w (by omega) rfl)
  intro μ9 e9
  replace e9 := e9.trans (zm_wI (Z := Z18) (ν := ν) hZ21 (show ((0 : Nat) : Int) = 0 from rfl) (show ((0 : Nat) : Int) = 0 from rfl) (i3I (y := (3269 + 24 * a1)) (i3A (i3A (show (3250 : Int32) = i3 3250 from rfl) (i3M (show (24 : Int32) = i3 24 from rfl) (rfl : i3 a1 = i3 a1))) (show (19 : Int32) = i3 19 from rfl)) (by omega) (by omega) (by omega)) (i3A (rfl : i3 y16 = i3 y16) (zm_rd (Z := Z18) (ν := ν) (k := 2) (show ((0 : Nat) : Int) = 0 from rfl) (show ((0 : Nat) : Int) = 0 from rfl) (i3I (y := (3215 + 6 * y15)) (i3A (i3A (show (3210 : Int32) = i3 3210 from rfl) (i3M (show (6 : Int32) = i3 6 from rfl) (rfl : i3 y15 = i3 y15))) (show (5 : Int32) = i3 5 from rfl)) (by omega) (by omega) (by omega)))))
  subst e9
  exact zlV hP ⟨hZ21I, hZ21K, hZ21U⟩
/- yX12_tGo -/
def zl_512_1 : Nat → qz_Z → Int → qz_Z × Int
  | 0, Z, x1 => (Z, x1)
  | m + 1, Z, x1 => (if (Z 2 0 0 3200) ≤ x1 then (Z, x1) else (if (Z 2 0 0 (3252 + 24 * x1)) ≠ 1 then (if (Z 2 0 0 (3253 + 24 * x1)) ≠ (Z 2 0 0 0) then zl_512_1 m Z (x1 + 1) else (zlet (zu Z 2 0 0 (3253 + 24 * x1) (-1)) (fun Z8 => (zlet (zf_518 Z8 x1 0) (fun v9 => (if v9 ≤ 0 then zl_512_1 m Z8 (x1 + 1) else (zlet (zf_513 Z8 x1) (fun Z11 => zl_512_1 m Z11 (x1 + 1))))))))) else zl_512_1 m Z (x1 + 1)))
theorem sl_512_1 {s : zSM} {Zs Z : qz_Z} {ν : qz_N} (hZ : zM s Z) (hM : s.2 + 0 ≤ 1000000000) (hK : zC [1, 2, 95, 96] Zs Z) {x1 : Int} (gx1 : 0 ≤ x1 ∧ x1 ≤ 4) (hU : zU [] Zs Z) {k : wz_K} {R : wz_R} {L : qz_L} (hL : qz_fg [true, true] L = [some (.inr (.inr (some (1, 0, 0)))), some (.inl (i3 x1))]) {T : qz_Z × Int} (hP : zE T (zl_512_1 ((4 - x1).toNat + 1) Z x1)) (hk : ∀ (L9 : qz_L) (Z9 : qz_Z) (yx1 : Int), qz_fg [false, false] L9 = [none, none] → zM s Z9 → zC [1, 2, 95, 96] Zs Z9 → zU [] Zs Z9 → (0 ≤ yx1 ∧ yx1 ≤ 4) → zE T ((Z9, yx1)) → k 0 (L9, [], zm Z9 ν)) : wz_loop qb_512_1 65536 k R (L, [], zm Z ν) := by
  refine wz_lp sb_512_1 (fun m x => ∃ Z : qz_Z, ∃ x1 : Int, qz_fg [true, true] x.1 = [some (.inr (.inr (some (1, 0, 0)))), some (.inl (i3 x1))] ∧ x.2 = ([], zm Z ν) ∧ zM s Z ∧ zC [1, 2, 95, 96] Zs Z ∧ zU [] Zs Z ∧ m = (4 - x1).toNat ∧ (0 ≤ x1 ∧ x1 ≤ 4) ∧ zE T (zl_512_1 (m + 1) Z x1)) ?_ 65536 ((4 - x1).toNat) _ (by omega) ⟨Z, x1, hL, rfl, hZ, hK, hU, rfl, gx1, hP⟩
  clear hP gx1 hZ hK hU hL
  clear x1
  clear Z
  rintro m ⟨L, st, μ⟩ ⟨Z, x1, hL, hx, hZ, hK, hU, hm, gx1, hP⟩
  cases hx
  refine fb_512_1 (i3 x1) _ _ _ _ hL ?_
  have r1 := zM_k hZ 2 0 0 3200 (lo := 0) (hi := 4) (by decide) rfl
  refine wz_br (i3Le (zm_rd (Z := Z) (ν := ν) (k := 2) (show ((0 : Nat) : Int) = 0 from rfl) (show ((0 : Nat) : Int) = 0 from rfl) (show ((3200 : Nat) : Int) = 3200 from rfl)) (rfl : i3 x1 = i3 x1) (by omega) (by omega) (by omega) (by omega)) (fun h2 => ?_) (fun h2 => ?_)
  · replace hP := zE_p hP h2
    exact hk _ _ _ (zconso rfl (zconso rfl rfl)) hZ hK hU (by omega)  hP
  · replace hP := zE_n hP h2
    refine wz_i0 (i3O (n := 4400) (i3A (i3A (show (3250 : Int32) = i3 3250 from rfl) (i3M (show (24 : Int32) = i3 24 from rfl) (rfl : i3 x1 = i3 x1))) (show (2 : Int32) = i3 2 from rfl)) (by omega) (by omega) (by omega)) ?_
    have r3 := zM_k hZ 2 0 0 (3252 + 24 * x1) (lo := 0) (hi := 1) (by decide) (zs_3250_2 (x := x1) (by omega) (by omega) (by omega))
    refine wz_br (i3NE (zm_rd (Z := Z) (ν := ν) (k := 2) (show ((0 : Nat) : Int) = 0 from rfl) (show ((0 : Nat) : Int) = 0 from rfl) (i3I (y := (3252 + 24 * x1)) (i3A (i3A (show (3250 : Int32) = i3 3250 from rfl) (i3M (show (24 : Int32) = i3 24 from rfl) (rfl : i3 x1 = i3 x1))) (show (2 : Int32) = i3 2 from rfl)) (by omega) (by omega) (by omega))) (show (1 : Int32) = i3 1 from rfl) (by omega) (by omega) (by omega) (by omega)) (fun h4 => ?_) (fun h4 => ?_)
    · replace hP := zE_p hP h4
      refine wz_i0 (i3O (n := 4400) (i3A (i3A (show (3250 : Int32) = i3 3250 from rfl) (i3M (show (24 : Int32) = i3 24 from rfl) (rfl : i3 x1 = i3 x1))) (show (3 : Int32) = i3 3 from rfl)) (by omega) (by omega) (by omega)) ?_
      have r5 := zM_k hZ 2 0 0 (3253 + 24 * x1) (lo := -1) (hi := 671) (by decide) (zs_3250_3 (x := x1) (by omega) (by omega) (by omega))
      have r6 := zM_k hZ 2 0 0 0 (lo := 0) (hi := 671) (by decide) rfl
      refine wz_br (i3NE (zm_rd (Z := Z) (ν := ν) (k := 2) (show ((0 : Nat) : Int) = 0 from rfl) (show ((0 : Nat) : Int) = 0 from rfl) (i3I (y := (3253 + 24 * x1)) (i3A (i3A (show (3250 : Int32) = i3 3250 from rfl) (i3M (show (24 : Int32) = i3 24 from rfl) (rfl : i3 x1 = i3 x1))) (show (3 : Int32) = i3 3 from rfl)) (by omega) (by omega) (by omega))) (zm_rd (Z := Z) (ν := ν) (k := 2) (show ((0 : Nat) : Int) = 0 from rfl) (show ((0 : Nat) : Int) = 0 from rfl) (show ((0 : Nat) : Int) = 0 from rfl)) (by omega) (by omega) (by omega) (by omega)) (fun h7 => ?_) (fun h7 => ?_)
      · replace hP := zE_p hP h7
        obtain ⟨m2, rfl⟩ : ∃ m2, m = m2 + 1 := ⟨m - 1, by omega⟩
        exact wz_k1 ⟨m2, by omega, Z, (x1 + 1), (zconso rfl (zconso (zvo (i3A (rfl : i3 x1 = i3 x1) (show (1 : Int32) = i3 1 from rfl))) rfl)), rfl, hZ, hK, hU, by omega, by omega,  hP⟩
      · replace hP := zE_n hP h7
        refine wz_i0 (i3O (n := 4400) (i3A (i3A (show (3250 : Int32) = i3 3250 from rfl) (i3M (show (24 : Int32) = i3 24 from rfl) (rfl : i3 x1 = i3 x1))) (show (3 : Int32) = i3 3 from rfl)) (by omega) (by omega) (by omega)) ?_
        obtain ⟨Z8, hZ8⟩ := zx (zu Z 2 0 0 (3253 + 24 * x1) (-1))
        replace hP := zl_e hP hZ8
        have hZ8I := zM_u2 hZ hZ8 (lo := -1) (hi := 671) (zs_3250_3 (x := x1) (by omega) (by omega) (by omega)) (by omega) ⟨by decide, by decide⟩ (by simp only [zsp]; omega)
        have hZ8U : zU [] Zs Z8 := zU_u hU hZ8 (Or.inl rfl)
        have hZ8K : zC [1, 2, 95, 96] Zs Z8 := zC_u hK hZ8 (zcl_2w (by omega) rfl)
        intro μ9 e9
        replace e9 := e9.trans (zm_wI (Z := Z) (ν := ν) hZ8 (show ((0 : Nat) : Int) = 0 from rfl) (show ((0 : Nat) : Int) = 0 from rfl) (i3I (y := (3253 + 24 * x1)) (i3A (i3A (show (3250 : Int32) = i3 3250 from rfl) (i3M (show (24 : Int32) = i3 24 from rfl) (rfl : i3 x1 = i3 x1))) (show (3 : Int32) = i3 3 from rfl)) (by omega) (by omega) (by omega)) (show (-1 : Int32) = i3 (-1) from rfl))
        subst e9
        obtain ⟨v9, hv9, c9, lv9, uv9⟩ := sp_518 (ν := ν) hZ8I (a1 := x1) (by omega) (a2 := 0) (by omega) (zbh (c := 0) (k := 0) hM (Nat.le_of_ble_eq_true rfl))
        replace hP := zl_e hP hv9
        refine wz_cI_of (zas (zcons rfl (zcons (zvi (rfl : i3 x1 = i3 x1)) (zcons (zvi (show (0 : Int32) = i3 0 from rfl)) rfl))) c9) ?_
        clear c9
        refine wz_br (i3Le (rfl : i3 v9 = i3 v9) (show (0 : Int32) = i3 0 from rfl) (by omega) (by omega) (by omega) (by omega)) (fun h10 => ?_) (fun h10 => ?_)
        · replace hP := zE_p hP h10
          obtain ⟨m2, rfl⟩ : ∃ m2, m = m2 + 1 := ⟨m - 1, by omega⟩
          exact wz_k1 ⟨m2, by omega, Z8, (x1 + 1), (zconso rfl (zconso (zvo (i3A (rfl : i3 x1 = i3 x1) (show (1 : Int32) = i3 1 from rfl))) rfl)), rfl, hZ8I, hZ8K, hZ8U, by omega, by omega,  hP⟩
        · replace hP := zE_n hP h10
          obtain ⟨Z11, hZ11, c9, hZ11I, kZ11, jZ11⟩ := sp_513 (ν := ν) hZ8I (a1 := x1) (by omega) (zbh (c := 0) (k := 0) hM (Nat.le_of_ble_eq_true rfl))
          have hZ11U : zU [] Zs Z11 := zU_t hZ8U jZ11 zU_b0
          have hZ11K : zC [1, 2, 95, 96] Zs Z11 := zC_t hZ8K kZ11 (by decide)
          replace hP := zl_e hP hZ11
          refine wz_cV_of (zas (zcons rfl (zcons (zvi (rfl : i3 x1 = i3 x1)) rfl)) c9) ?_
          clear c9
          obtain ⟨m2, rfl⟩ : ∃ m2, m = m2 + 1 := ⟨m - 1, by omega⟩
          exact wz_k1 ⟨m2, by omega, Z11, (x1 + 1), (zconso rfl (zconso (zvo (i3A (rfl : i3 x1 = i3 x1) (show (1 : Int32) = i3 1 from rfl))) rfl)), rfl, hZ11I, hZ11K, hZ11U, by omega, by omega,  hP⟩
    · replace hP := zE_n hP h4
      obtain ⟨m2, rfl⟩ : ∃ m2, m = m2 + 1 := ⟨m - 1, by omega⟩
      exact wz_k1 ⟨m2, by omega, Z, (x1 + 1), (zconso rfl (zconso (zvo (i3A (rfl : i3 x1 = i3 x1) (show (1 : Int32) = i3 1 from rfl))) rfl)), rfl, hZ, hK, hU, by omega, by omega,  hP⟩
/- yX12_tGo -/
def zf_512 (Z : qz_Z) : qz_Z := (zlet2 (zl_512_1 5 Z 0) (fun Z2 y1 => Z2))
theorem sp_512 {s : zSM} {Z : qz_Z} {ν : qz_N} (hZ : zM s Z) (hM : s.2 + 0 ≤ 1000000000) : ∃ P : qz_Z, P = zf_512 Z ∧ (qf_512 [.inr (.inr (some (1, 0, 0)))] (zm Z ν) = some (zm P ν, .inl none) ∧ zM s P ∧ zC [1, 2, 95, 96] Z P ∧ zU [] Z P) := by
  obtain ⟨P, hP⟩ := zx (zf_512 Z)
  refine zc_V (Q := fun P => zM s P ∧ zC [1, 2, 95, 96] Z P ∧ zU [] Z P) hP (fw_512  _ _ ?_)
  replace hP : zE P (zf_512 Z) := hP
  unfold zf_512 at hP
  refine sl_512_1 (ν := ν) hZ (zbh (c := 0) (k := 0) hM (Nat.le_of_ble_eq_true rfl)) zC_r (x1 := 0) (by omega) zU_r  (zconso rfl (zconso (zvo (show (0 : Int32) = i3 0 from rfl)) rfl)) rfl ?_
  intro L3 Z2 y1 hL3 hZ2I kZ2 jZ2 gy1 q9
  replace hP := zl_e2 hP (Eq.symm q9)
  clear q9
  have hZ2U : zU [] Z Z2 := zU_t zU_r jZ2 zU_b0
  have hZ2K : zC [1, 2, 95, 96] Z Z2 := zC_t zC_r kZ2 (by decide)
  refine fc_512_2  _ _ _ _ hL3 ?_
  exact zlV hP ⟨hZ2I, hZ2K, hZ2U⟩
/- yX12_xHour -/
def zf_553 (Z : qz_Z) : qz_Z := (zlet (zu Z 2 0 0 0 ((Z 2 0 0 0) + 1)) (fun Z2 => (zlet (zf_505 Z2) (fun Z3 => (zlet (zf_471 Z3) (fun Z4 => (zlet (zf_358 Z4) (fun Z5 => (zlet (zf_301 Z5) (fun Z6 => (zlet (zf_512 Z6) (fun Z7 => (if ((Z7 2 0 0 0) % 24) ≠ 0 then Z7 else (zlet (zf_265 Z7 (((Z7 2 0 0 0) / 24) - 1)) (fun Z11 => (zlet (zf_402 Z11 (((Z11 2 0 0 0) / 24) - 1)) (fun Z14 => Z14)))))))))))))))))
/- yX12_pass -/
def zl_450_1 (x1 : Int) : Nat → qz_Z → Int → qz_Z × Int
  | 0, Z, x2 => (Z, x2)
  | m + 1, Z, x2 => (if x1 ≤ x2 then (Z, x2) else (zlet (zf_553 Z) (fun Z3 => zl_450_1 x1 m Z3 (x2 + 1))))
/- yX12_pass -/
def zy_450 (Z : qz_Z) (dm : qz_Z → Int → Int → Int → Int → Int → Int → Int → qz_Z) (a1 : Int) : qz_Z × Int := (if a1 < 1 then (zlet (zu Z 1 0 0 2 1) (fun Z5 => (Z5, 0))) else (if 72 < a1 then (zlet (zu Z 1 0 0 2 1) (fun Z7 => (Z7, 0))) else (zlet (zu Z 1 0 0 2 0) (fun Z8 => (if 671 < ((Z8 2 0 0 0) + a1) then (zlet (zu Z8 1 0 0 2 2) (fun Z11 => (Z11, 0))) else (zlet (zu Z8 1 0 0 2 0) (fun Z12 => (zlet (dm Z12 27 a1 0 0 0 0 0) (fun Z19 => (zlet2 (zl_450_1 a1 73 Z19 0) (fun Z21 y20 => (zlet (zu Z21 1 0 0 2 0) (fun Z23 => (Z23, (Z23 2 0 0 0)))))))))))))))
/- yX12_pay -/
def zy_451 (Z : qz_Z) (dm : qz_Z → Int → Int → Int → Int → Int → Int → Int → qz_Z) (a1 : Int) (a2 : Int) : qz_Z × Int := (if a1 < 0 then (zlet (zu Z 1 0 0 2 1) (fun Z5 => (Z5, 0))) else (if ((Z 2 0 0 1400) - 1) < a1 then (zlet (zu Z 1 0 0 2 1) (fun Z8 => (Z8, 0))) else (zlet (zu Z 1 0 0 2 0) (fun Z9 => (if a2 < 1 then (zlet (zu Z9 1 0 0 2 2) (fun Z11 => (Z11, 0))) else (if 9999999 < a2 then (zlet (zu Z9 1 0 0 2 2) (fun Z13 => (Z13, 0))) else (zlet (zu Z9 1 0 0 2 0) (fun Z14 => (if 99999999 < (w3 ((Z14 2 0 0 (1413 + 12 * a1)) + a2)) then (zlet (zu Z14 1 0 0 2 3) (fun Z18 => (Z18, 0))) else (zlet (zu Z14 1 0 0 2 0) (fun Z19 => (zlet (dm Z19 14 a1 a2 0 0 0 0) (fun Z26 => (zlet (zu Z26 2 0 0 (1413 + 12 * a1) (w3 ((Z26 2 0 0 (1413 + 12 * a1)) + a2))) (fun Z30 => (zlet (zu Z30 2 0 0 (1415 + 12 * a1) (w3 ((Z30 2 0 0 (1415 + 12 * a1)) + a2))) (fun Z33 => (zlet (zf_403 Z33 1 0 a2 (-1)) (fun Z34 => (Z34, (Z34 2 0 0 (1413 + 12 * a1))))))))))))))))))))))
theorem sy_451 {s : zSM} {Z : qz_Z} {ν : qz_N} (hZ : zM s Z) (gq : Z 1 0 0 35 = 0) (hM : s.2 + 1 ≤ 1000000000) {a1 : Int} (ga1 : -2147483648 ≤ a1 ∧ a1 ≤ 2147483647) {a2 : Int} (ga2 : -2147483648 ≤ a2 ∧ a2 ≤ 2147483647) {dk : qz_Z → qz_Z} {dm : qz_Z → Int → Int → Int → Int → Int → Int → Int → qz_Z} {ν1 : qz_N} (hdm : zDm s ν ν1 Z dk dm) : ∃ (Z1 : qz_Z) (ν2 : qz_N) (v : Int), (Z1, v) = zy_451 Z dm a1 a2 ∧ (ν2 = ν ∨ ν2 = ν1) ∧ qf_451 [.inr (.inr (some (1, 0, 0))), .inl (i3 a1), .inl (i3 a2)] (zm Z ν) = some (zm Z1 ν2, .inl (some (.inl (i3 v)))) ∧ (fun Z1 => zM (zb s 1) Z1 ∧ zC [1, 2, 101, 102, 200] Z Z1 ∧ zU [] Z Z1) Z1 := by
  obtain ⟨P, hP⟩ := zx (zy_451 Z dm a1 a2)
  refine zc_Y (Q := fun Z1 => zM (zb s 1) Z1 ∧ zC [1, 2, 101, 102, 200] Z Z1 ∧ zU [] Z Z1) hP (fw_451 (i3 a1) (i3 a2) _ _ ?_)
  replace hP : zE P (zy_451 Z dm a1 a2) := hP
  unfold zy_451 at hP
  have r1 := zM_k hZ 1 0 0 35 (lo := 0) (hi := 1) (by decide) rfl
  have r2 := zM_k hZ 1 0 0 34 (lo := 0) (hi := 8) (by decide) rfl
  have r3 := zM_f hZ 1 0 0 37
  refine wz_br (i3L (rfl : i3 a1 = i3 a1) (show (0 : Int32) = i3 0 from rfl) (by omega) (by omega) (by omega) (by omega)) (fun h4 => ?_) (fun h4 => ?_)
  · replace hP := zE_p hP h4
    obtain ⟨Z5, hZ5⟩ := zx (zu Z 1 0 0 2 1)
    replace hP := zl_e hP hZ5
    have hZ5I := zM_u hZ hZ5 (lo := -2147483648) (hi := 2147483647) (by decide) rfl (by omega) ⟨by decide, by decide⟩ (Or.inr (by decide)) rfl
    have hZ5U : zU [] Z Z5 := zU_u zU_r hZ5 (Or.inl rfl)
    have hZ5K : zC [1, 2, 101, 102, 200] Z Z5 := zC_u zC_r hZ5 (by decide)
    intro μ9 e9
    replace e9 := e9.trans (zm_wI (Z := Z) (ν := ν) hZ5 (show ((0 : Nat) : Int) = 0 from rfl) (show ((0 : Nat) : Int) = 0 from rfl) (show ((2 : Nat) : Int) = 2 from rfl) (show (1 : Int32) = i3 1 from rfl))
    subst e9
    exact zlY hP (show (0 : Int32) = i3 0 from rfl) (.inl rfl) ⟨(zmw (a := 0) (c := 1) hZ5I (Nat.le_of_ble_eq_true rfl)), hZ5K, hZ5U⟩
  · replace hP := zE_n hP h4
    have r6 := zM_k hZ 2 0 0 1400 (lo := 0) (hi := 8) (by decide) rfl
    refine wz_br (i3L (i3S (zm_rd (Z := Z) (ν := ν) (k := 2) (show ((0 : Nat) : Int) = 0 from rfl) (show ((0 : Nat) : Int) = 0 from rfl) (show ((1400 : Nat) : Int) = 1400 from rfl)) (show (1 : Int32) = i3 1 from rfl)) (rfl : i3 a1 = i3 a1) (by omega) (by omega) (by omega) (by omega)) (fun h7 => ?_) (fun h7 => ?_)
    · replace hP := zE_p hP h7
      obtain ⟨Z8, hZ8⟩ := zx (zu Z 1 0 0 2 1)
      replace hP := zl_e hP hZ8
      have hZ8I := zM_u hZ hZ8 (lo := -2147483648) (hi := 2147483647) (by decide) rfl (by omega) ⟨by decide, by decide⟩ (Or.inr (by decide)) rfl
      have hZ8U : zU [] Z Z8 := zU_u zU_r hZ8 (Or.inl rfl)
      have hZ8K : zC [1, 2, 101, 102, 200] Z Z8 := zC_u zC_r hZ8 (by decide)
      intro μ9 e9
      replace e9 := e9.trans (zm_wI (Z := Z) (ν := ν) hZ8 (show ((0 : Nat) : Int) = 0 from rfl) (show ((0 : Nat) : Int) = 0 from rfl) (show ((2 : Nat) : Int) = 2 from rfl) (show (1 : Int32) = i3 1 from rfl))
      subst e9
      exact zlY hP (show (0 : Int32) = i3 0 from rfl) (.inl rfl) ⟨(zmw (a := 0) (c := 1) hZ8I (Nat.le_of_ble_eq_true rfl)), hZ8K, hZ8U⟩
    · replace hP := zE_n hP h7
      obtain ⟨Z9, hZ9⟩ := zx (zu Z 1 0 0 2 0)
      replace hP := zl_e hP hZ9
      have hZ9I := zM_0 hZ hZ9 (by decide) (Or.inr (by decide))
      have hZ9U : zU [] Z Z9 := zU_u zU_r hZ9 (Or.inl rfl)
      have hZ9K : zC [1, 2, 101, 102, 200] Z Z9 := zC_u zC_r hZ9 (by decide)
      intro μ9 e9
      replace e9 := e9.trans (zm_wI (Z := Z) (ν := ν) hZ9 (show ((0 : Nat) : Int) = 0 from rfl) (show ((0 : Nat) : Int) = 0 from rfl) (show ((2 : Nat) : Int) = 2 from rfl) (show (0 : Int32) = i3 0 from rfl))
      subst e9
      refine wz_br (i3L (rfl : i3 a2 = i3 a2) (show (1 : Int32) = i3 1 from rfl) (by omega) (by omega) (by omega) (by omega)) (fun h10 => ?_) (fun h10 => ?_)
      · replace hP := zE_p hP h10
        obtain ⟨Z11, hZ11⟩ := zx (zu Z9 1 0 0 2 2)
        replace hP := zl_e hP hZ11
        have hZ11I := zM_u hZ9I hZ11 (lo := -2147483648) (hi := 2147483647) (by decide) rfl (by omega) ⟨by decide, by decide⟩ (Or.inr (by decide)) rfl
        have hZ11U : zU [] Z Z11 := zU_u hZ9U hZ11 (Or.inl rfl)
        have hZ11K : zC [1, 2, 101, 102, 200] Z Z11 := zC_u hZ9K hZ11 (by decide)
        intro μ9 e9
        replace e9 := e9.trans (zm_wI (Z := Z9) (ν := ν) hZ11 (show ((0 : Nat) : Int) = 0 from rfl) (show ((0 : Nat) : Int) = 0 from rfl) (show ((2 : Nat) : Int) = 2 from rfl) (show (2 : Int32) = i3 2 from rfl))
        subst e9
        exact zlY hP (show (0 : Int32) = i3 0 from rfl) (.inl rfl) ⟨(zmw (a := 0) (c := 1) hZ11I (Nat.le_of_ble_eq_true rfl)), hZ11K, hZ11U⟩
      · replace hP := zE_n hP h10
        refine wz_br (i3L (show (9999999 : Int32) = i3 9999999 from rfl) (rfl : i3 a2 = i3 a2) (by omega) (by omega) (by omega) (by omega)) (fun h12 => ?_) (fun h12 => ?_)
        · replace hP := zE_p hP h12
          obtain ⟨Z13, hZ13⟩ := zx (zu Z9 1 0 0 2 2)
          replace hP := zl_e hP hZ13
          have hZ13I := zM_u hZ9I hZ13 (lo := -2147483648) (hi := 2147483647) (by decide) rfl (by omega) ⟨by decide, by decide⟩ (Or.inr (by decide)) rfl
          have hZ13U : zU [] Z Z13 := zU_u hZ9U hZ13 (Or.inl rfl)
          have hZ13K : zC [1, 2, 101, 102, 200] Z Z13 := zC_u hZ9K hZ13 (by decide)
          intro μ9 e9
          replace e9 := e9.trans (zm_wI (Z := Z9) (ν := ν) hZ13 (show ((0 : Nat) : Int) = 0 from rfl) (show ((0 : Nat) : Int) = 0 from rfl) (show ((2 : Nat) : Int) = 2 from rfl) (show (2 : Int32) = i3 2 from rfl))
          subst e9
          exact zlY hP (show (0 : Int32) = i3 0 from rfl) (.inl rfl) ⟨(zmw (a := 0) (c := 1) hZ13I (Nat.le_of_ble_eq_true rfl)), hZ13K, hZ13U⟩
        · replace hP := zE_n hP h12
          obtain ⟨Z14, hZ14⟩ := zx (zu Z9 1 0 0 2 0)
          replace hP := zl_e hP hZ14
          have hZ14I := zM_0 hZ9I hZ14 (by decide) (Or.inr (by decide))
          have hZ14U : zU [] Z Z14 := zU_u hZ9U hZ14 (Or.inl rfl)
          have hZ14K : zC [1, 2, 101, 102, 200] Z Z14 := zC_u hZ9K hZ14 (by decide)
          intro μ9 e9
          replace e9 := e9.trans (zm_wI (Z := Z9) (ν := ν) hZ14 (show ((0 : Nat) : Int) = 0 from rfl) (show ((0 : Nat) : Int) = 0 from rfl) (show ((2 : Nat) : Int) = 2 from rfl) (show (0 : Int32) = i3 0 from rfl))
          subst e9
          refine wz_i0 (i3O (n := 4400) (i3A (i3A (show (1410 : Int32) = i3 1410 from rfl) (i3M (show (12 : Int32) = i3 12 from rfl) (rfl : i3 a1 = i3 a1))) (show (3 : Int32) = i3 3 from rfl)) (by omega) (by omega) (by omega)) ?_
          have r15 := zM_f hZ14I 2 0 0 (1413 + 12 * a1)
          have r16 := w3_r ((Z14 2 0 0 (1413 + 12 * a1)) + a2)
          refine wz_br (i3L (show (99999999 : Int32) = i3 99999999 from rfl) (i3W (i3A (zm_rd (Z := Z14) (ν := ν) (k := 2) (show ((0 : Nat) : Int) = 0 from rfl) (show ((0 : Nat) : Int) = 0 from rfl) (i3I (y := (1413 + 12 * a1)) (i3A (i3A (show (1410 : Int32) = i3 1410 from rfl) (i3M (show (12 : Int32) = i3 12 from rfl) (rfl : i3 a1 = i3 a1))) (show (3 : Int32) = i3 3 from rfl)) (by omega) (by omega) (by omega))) (rfl : i3 a2 = i3 a2))) (by omega) (by omega) (by omega) (by omega)) (fun h17 => ?_) (fun h17 => ?_)
          · replace hP := zE_p hP h17
            obtain ⟨Z18, hZ18⟩ := zx (zu Z14 1 0 0 2 3)
            replace hP := zl_e hP hZ18
            have hZ18I := zM_u hZ14I hZ18 (lo := -2147483648) (hi := 2147483647) (by decide) rfl (by omega) ⟨by decide, by decide⟩ (Or.inr (by decide)) rfl
            have hZ18U : zU [] Z Z18 := zU_u hZ14U hZ18 (Or.inl rfl)
            have hZ18K : zC [1, 2, 101, 102, 200] Z Z18 := zC_u hZ14K hZ18 (by decide)
            intro μ9 e9
            replace e9 := e9.trans (zm_wI (Z := Z14) (ν := ν) hZ18 (show ((0 : Nat) : Int) = 0 from rfl) (show ((0 : Nat) : Int) = 0 from rfl) (show ((2 : Nat) : Int) = 2 from rfl) (show (3 : Int32) = i3 3 from rfl))
            subst e9
            exact zlY hP (show (0 : Int32) = i3 0 from rfl) (.inl rfl) ⟨(zmw (a := 0) (c := 1) hZ18I (Nat.le_of_ble_eq_true rfl)), hZ18K, hZ18U⟩
          · replace hP := zE_n hP h17
            obtain ⟨Z19, hZ19⟩ := zx (zu Z14 1 0 0 2 0)
            replace hP := zl_e hP hZ19
            have hZ19I := zM_0 hZ14I hZ19 (by decide) (Or.inr (by decide))
            have hZ19U : zU [] Z Z19 := zU_u hZ14U hZ19 (Or.inl rfl)
            have hZ19K : zC [1, 2, 101, 102, 200] Z Z19 := zC_u hZ14K hZ19 (by decide)
            intro μ9 e9
            replace e9 := e9.trans (zm_wI (Z := Z14) (ν := ν) hZ19 (show ((0 : Nat) : Int) = 0 from rfl) (show ((0 : Nat) : Int) = 0 from rfl) (show ((2 : Nat) : Int) = 2 from rfl) (show (0 : Int32) = i3 0 from rfl))
            subst e9
            have r20 := zM_k hZ19I 1 0 0 35 (lo := 0) (hi := 1) (by decide) rfl
            have q21 := (zu_ne (k' := 1) (b' := 0) (i' := 0) (j' := 35) hZ19 (fun q => absurd q.2.2.2 (by decide))).trans ((zu_ne (k' := 1) (b' := 0) (i' := 0) (j' := 35) hZ14 (fun q => absurd q.2.2.2 (by decide))).trans (zu_ne (k' := 1) (b' := 0) (i' := 0) (j' := 35) hZ9 (fun q => absurd q.2.2.2 (by decide))))
            refine wz_i0 (Eq.trans (i3NE (zm_rd (Z := Z19) (ν := ν) (k := 1) (show ((0 : Nat) : Int) = 0 from rfl) (show ((0 : Nat) : Int) = 0 from rfl) (show ((35 : Nat) : Int) = 35 from rfl)) (show (0 : Int32) = i3 0 from rfl) (by omega) (by omega) (by omega) (by omega)) (decide_eq_false (by omega))) ?_
            have r22 := zM_k hZ19I 1 0 0 34 (lo := 0) (hi := 8) (by decide) rfl
            have q23 := (zu_ne (k' := 1) (b' := 0) (i' := 0) (j' := 34) hZ19 (fun q => absurd q.2.2.2 (by decide))).trans ((zu_ne (k' := 1) (b' := 0) (i' := 0) (j' := 34) hZ14 (fun q => absurd q.2.2.2 (by decide))).trans (zu_ne (k' := 1) (b' := 0) (i' := 0) (j' := 34) hZ9 (fun q => absurd q.2.2.2 (by decide))))
            have r24 := zM_f hZ19I 1 0 0 37
            have q25 := (zu_ne (k' := 1) (b' := 0) (i' := 0) (j' := 37) hZ19 (fun q => absurd q.2.2.2 (by decide))).trans ((zu_ne (k' := 1) (b' := 0) (i' := 0) (j' := 37) hZ14 (fun q => absurd q.2.2.2 (by decide))).trans (zu_ne (k' := 1) (b' := 0) (i' := 0) (j' := 37) hZ9 (fun q => absurd q.2.2.2 (by decide))))
            obtain ⟨c8, c9, hZ26I, dZ26⟩ := hdm Z19 14 a1 a2 0 0 0 0 hZ19I (by omega) (by omega) (by omega) (by omega) (by omega) (by omega) (by omega) (by omega) (by omega) (by omega)
            obtain ⟨Z26, hZ26⟩ := zx (dm Z19 14 a1 a2 0 0 0 0)
            rw [← hZ26] at c9 hZ26I dZ26
            replace hP := zl_e hP hZ26
            refine wz_cV_of (zas (zcons rfl (zcons (zvi (show (-1 : Int32) = i3 (-1) from rfl)) rfl)) c8) ?_
            refine wz_cV_of (zas (zcons rfl (zcons (zvi (show (14 : Int32) = i3 14 from rfl)) (zcons (zvi (rfl : i3 a1 = i3 a1)) (zcons (zvi (rfl : i3 a2 = i3 a2)) (zcons (zvi (show (0 : Int32) = i3 0 from rfl)) (zcons (zvi (show (0 : Int32) = i3 0 from rfl)) (zcons (zvi (show (0 : Int32) = i3 0 from rfl)) (zcons (zvi (show (0 : Int32) = i3 0 from rfl)) rfl)))))))) c9) ?_
            clear c8 c9
            have hZ26K : zC [1, 2, 101, 102, 200] Z Z26 := zC_t hZ19K (zMd_C dZ26) (by decide)
            have hZ26U : zU [] Z Z26 := zU_t hZ19U (zMd_U dZ26) zU_b0
            refine wz_i0 (i3O (n := 4400) (i3A (i3A (show (1410 : Int32) = i3 1410 from rfl) (i3M (show (12 : Int32) = i3 12 from rfl) (rfl : i3 a1 = i3 a1))) (show (3 : Int32) = i3 3 from rfl)) (by omega) (by omega) (by omega)) ?_
            refine wz_i0 (i3O (n := 4400) (i3A (i3A (show (1410 : Int32) = i3 1410 from rfl) (i3M (show (12 : Int32) = i3 12 from rfl) (rfl : i3 a1 = i3 a1))) (show (3 : Int32) = i3 3 from rfl)) (by omega) (by omega) (by omega)) ?_
            have r27 := zM_f hZ26I 2 0 0 (1413 + 12 * a1)
            have q28 := (dZ26 2 0 0 (1413 + 12 * a1) (by simp)).trans (zu_ne (k' := 2) (b' := 0) (i' := 0) (j' := (1413 + 12 * a1)) hZ19 (fun q => absurd q.1 (by decide)))
            have r29 := w3_r ((Z26 2 0 0 (1413 + 12 * a1)) + a2)
            obtain ⟨Z30, hZ30⟩ := zx (zu Z26 2 0 0 (1413 + 12 * a1) (w3 ((Z26 2 0 0 (1413 + 12 * a1)) + a2)))
            replace hP := zl_e hP hZ30
            have hZ30I := zM_u2 hZ26I hZ30 (lo := -2147483648) (hi := 2147483647) (zs_1410_3 (x := a1) (by omega) (by omega) (by omega)) (by omega) ⟨by decide, by decide⟩ (by simp only [zsp]; omega)
            have hZ30U : zU [] Z Z30 := zU_u hZ26U hZ30 (Or.inl rfl)
            have hZ30K : zC [1, 2, 101, 102, 200] Z Z30 := zC_u hZ26K hZ30 (zcl_2w (by omega) rfl)
            intro μ9 e9
            replace e9 := e9.trans (zm_wI (Z := Z26) (ν := ν1) hZ30 (show ((0 : Nat) : Int) = 0 from rfl) (show ((0 : Nat) : Int) = 0 from rfl) (i3I (y := (1413 + 12 * a1)) (i3A (i3A (show (1410 : Int32) = i3 1410 from rfl) (i3M (show (12 : Int32) = i3 12 from rfl) (rfl : i3 a1 = i3 a1))) (show (3 : Int32) = i3 3 from rfl)) (by omega) (by omega) (by omega)) (i3W (i3A (zm_rd (Z := Z26) (ν := ν1) (k := 2) (show ((0 : Nat) : Int) = 0 from rfl) (show ((0 : Nat) : Int) = 0 from rfl) (i3I (y := (1413 + 12 * a1)) (i3A (i3A (show (1410 : Int32) = i3 1410 from rfl) (i3M (show (12 : Int32) = i3 12 from rfl) (rfl : i3 a1 = i3 a1))) (show (3 : Int32) = i3 3 from rfl)) (by omega) (by omega) (by omega))) (rfl : i3 a2 = i3 a2))))
            subst e9
            refine wz_i0 (i3O (n := 4400) (i3A (i3A (show (1410 : Int32) = i3 1410 from rfl) (i3M (show (12 : Int32) = i3 12 from rfl) (rfl : i3 a1 = i3 a1))) (show (5 : Int32) = i3 5 from rfl)) (by omega) (by omega) (by omega)) ?_
            refine wz_i0 (i3O (n := 4400) (i3A (i3A (show (1410 : Int32) = i3 1410 from rfl) (i3M (show (12 : Int32) = i3 12 from rfl) (rfl : i3 a1 = i3 a1))) (show (5 : Int32) = i3 5 from rfl)) (by omega) (by omega) (by omega)) ?_
            have r31 := zM_f hZ30I 2 0 0 (1415 + 12 * a1)
            have r32 := w3_r ((Z30 2 0 0 (1415 + 12 * a1)) + a2)
            obtain ⟨Z33, hZ33⟩ := zx (zu Z30 2 0 0 (1415 + 12 * a1) (w3 ((Z30 2 0 0 (1415 + 12 * a1)) + a2)))
            replace hP := zl_e hP hZ33
            have hZ33I := zM_u2 hZ30I hZ33 (lo := -2147483648) (hi := 2147483647) (zs_1410_5 (x := a1) (by omega) (by omega) (by omega)) (by omega) ⟨by decide, by decide⟩ (by simp only [zsp]; omega)
            have hZ33U : zU [] Z Z33 := zU_u hZ30U hZ33 (Or.inl rfl)
            have hZ33K : zC [1, 2, 101, 102, 200] Z Z33 := zC_u hZ30K hZ33 (zcl_2w (by omega) rfl)
            intro μ9 e9
            replace e9 := e9.trans (zm_wI (Z := Z30) (ν := ν1) hZ33 (show ((0 : Nat) : Int) = 0 from rfl) (show ((0 : Nat) : Int) = 0 from rfl) (i3I (y := (1415 + 12 * a1)) (i3A (i3A (show (1410 : Int32) = i3 1410 from rfl) (i3M (show (12 : Int32) = i3 12 from rfl) (rfl : i3 a1 = i3 a1))) (show (5 : Int32) = i3 5 from rfl)) (by omega) (by omega) (by omega)) (i3W (i3A (zm_rd (Z := Z30) (ν := ν1) (k := 2) (show ((0 : Nat) : Int) = 0 from rfl) (show ((0 : Nat) : Int) = 0 from rfl) (i3I (y := (1415 + 12 * a1)) (i3A (i3A (show (1410 : Int32) = i3 1410 from rfl) (i3M (show (12 : Int32) = i3 12 from rfl) (rfl : i3 a1 = i3 a1))) (show (5 : Int32) = i3 5 from rfl)) (by omega) (by omega) (by omega))) (rfl : i3 a2 = i3 a2))))
            subst e9
            obtain ⟨Z34, hZ34, c9, hZ34I, kZ34, jZ34⟩ := sp_403 (ν := ν1) hZ33I (a1 := 1) (by omega) (a2 := 0) (by omega) (a3 := a2) (by omega) (a4 := (-1)) (by omega) (zbh (c := 0) (k := 1) hM (Nat.le_of_ble_eq_true rfl))
            have hZ34U : zU [] Z Z34 := zU_t hZ33U jZ34 zU_b0
            have hZ34K : zC [1, 2, 101, 102, 200] Z Z34 := zC_t hZ33K kZ34 (by decide)
            replace hP := zl_e hP hZ34
            refine wz_cV_of (zas (zcons rfl (zcons (zvi (show (1 : Int32) = i3 1 from rfl)) (zcons (zvi (show (0 : Int32) = i3 0 from rfl)) (zcons (zvi (rfl : i3 a2 = i3 a2)) (zcons (zvi (show (-1 : Int32) = i3 (-1) from rfl)) rfl))))) c9) ?_
            clear c9
            refine wz_i0 (i3O (n := 4400) (i3A (i3A (show (1410 : Int32) = i3 1410 from rfl) (i3M (show (12 : Int32) = i3 12 from rfl) (rfl : i3 a1 = i3 a1))) (show (3 : Int32) = i3 3 from rfl)) (by omega) (by omega) (by omega)) ?_
            have r35 := zM_f hZ34I 2 0 0 (1413 + 12 * a1)
            exact zlY hP (zm_rd (Z := Z34) (ν := ν1) (k := 2) (show ((0 : Nat) : Int) = 0 from rfl) (show ((0 : Nat) : Int) = 0 from rfl) (i3I (y := (1413 + 12 * a1)) (i3A (i3A (show (1410 : Int32) = i3 1410 from rfl) (i3M (show (12 : Int32) = i3 12 from rfl) (rfl : i3 a1 = i3 a1))) (show (3 : Int32) = i3 3 from rfl)) (by omega) (by omega) (by omega))) (.inr rfl) ⟨hZ34I, hZ34K, hZ34U⟩

theorem sq_451 {s : zSM} {Z : qz_Z} {ν : qz_N} (hZ : zM s Z) (gq : Z 1 0 0 35 = 1) (hM : s.2 + 1 ≤ 1000000000) {a1 : Int} (ga1 : -2147483648 ≤ a1 ∧ a1 ≤ 2147483647) {a2 : Int} (ga2 : -2147483648 ≤ a2 ∧ a2 ≤ 2147483647) {ν1 : qz_N} : ∃ (Z1 : qz_Z) (ν2 : qz_N) (v : Int), (Z1, v) = zy_451 Z zq0 a1 a2 ∧ (ν2 = ν ∨ ν2 = ν1) ∧ qf_451 [.inr (.inr (some (1, 0, 0))), .inl (i3 a1), .inl (i3 a2)] (zm Z ν) = some (zm Z1 ν2, .inl (some (.inl (i3 v)))) ∧ (fun Z1 => zM (zb s 1) Z1 ∧ zC [1, 2] Z Z1 ∧ zU [] Z Z1) Z1 := by
  obtain ⟨P, hP⟩ := zx (zy_451 Z zq0 a1 a2)
  refine zc_Y (Q := fun Z1 => zM (zb s 1) Z1 ∧ zC [1, 2] Z Z1 ∧ zU [] Z Z1) hP (fw_451 (i3 a1) (i3 a2) _ _ ?_)
  replace hP : zE P (zy_451 Z zq0 a1 a2) := hP
  unfold zy_451 at hP
  have r1 := zM_k hZ 1 0 0 35 (lo := 0) (hi := 1) (by decide) rfl
  have r2 := zM_k hZ 1 0 0 34 (lo := 0) (hi := 8) (by decide) rfl
  have r3 := zM_f hZ 1 0 0 37
  refine wz_br (i3L (rfl : i3 a1 = i3 a1) (show (0 : Int32) = i3 0 from rfl) (by omega) (by omega) (by omega) (by omega)) (fun h4 => ?_) (fun h4 => ?_)
  · replace hP := zE_p hP h4
    obtain ⟨Z5, hZ5⟩ := zx (zu Z 1 0 0 2 1)
    replace hP := zl_e hP hZ5
    have hZ5I := zM_u hZ hZ5 (lo := -2147483648) (hi := 2147483647) (by decide) rfl (by omega) ⟨by decide, by decide⟩ (Or.inr (by decide)) rfl
    have hZ5U : zU [] Z Z5 := zU_u zU_r hZ5 (Or.inl rfl)
    have hZ5K : zC [1, 2] Z Z5 := zC_u zC_r hZ5 (by decide)
    intro μ9 e9
    replace e9 := e9.trans (zm_wI (Z := Z) (ν := ν) hZ5 (show ((0 : Nat) : Int) = 0 from rfl) (show ((0 : Nat) : Int) = 0 from rfl) (show ((2 : Nat) : Int) = 2 from rfl) (show (1 : Int32) = i3 1 from rfl))
    subst e9
    exact zlY hP (show (0 : Int32) = i3 0 from rfl) (.inl rfl) ⟨(zmw (a := 0) (c := 1) hZ5I (Nat.le_of_ble_eq_true rfl)), hZ5K, hZ5U⟩
  · replace hP := zE_n hP h4
    have r6 := zM_k hZ 2 0 0 1400 (lo := 0) (hi := 8) (by decide) rfl
    refine wz_br (i3L (i3S (zm_rd (Z := Z) (ν := ν) (k := 2) (show ((0 : Nat) : Int) = 0 from rfl) (show ((0 : Nat) : Int) = 0 from rfl) (show ((1400 : Nat) : Int) = 1400 from rfl)) (show (1 : Int32) = i3 1 from rfl)) (rfl : i3 a1 = i3 a1) (by omega) (by omega) (by omega) (by omega)) (fun h7 => ?_) (fun h7 => ?_)
    · replace hP := zE_p hP h7
      obtain ⟨Z8, hZ8⟩ := zx (zu Z 1 0 0 2 1)
      replace hP := zl_e hP hZ8
      have hZ8I := zM_u hZ hZ8 (lo := -2147483648) (hi := 2147483647) (by decide) rfl (by omega) ⟨by decide, by decide⟩ (Or.inr (by decide)) rfl
      have hZ8U : zU [] Z Z8 := zU_u zU_r hZ8 (Or.inl rfl)
      have hZ8K : zC [1, 2] Z Z8 := zC_u zC_r hZ8 (by decide)
      intro μ9 e9
      replace e9 := e9.trans (zm_wI (Z := Z) (ν := ν) hZ8 (show ((0 : Nat) : Int) = 0 from rfl) (show ((0 : Nat) : Int) = 0 from rfl) (show ((2 : Nat) : Int) = 2 from rfl) (show (1 : Int32) = i3 1 from rfl))
      subst e9
      exact zlY hP (show (0 : Int32) = i3 0 from rfl) (.inl rfl) ⟨(zmw (a := 0) (c := 1) hZ8I (Nat.le_of_ble_eq_true rfl)), hZ8K, hZ8U⟩
    · replace hP := zE_n hP h7
      obtain ⟨Z9, hZ9⟩ := zx (zu Z 1 0 0 2 0)
      replace hP := zl_e hP hZ9
      have hZ9I := zM_0 hZ hZ9 (by decide) (Or.inr (by decide))
      have hZ9U : zU [] Z Z9 := zU_u zU_r hZ9 (Or.inl rfl)
      have hZ9K : zC [1, 2] Z Z9 := zC_u zC_r hZ9 (by decide)
      intro μ9 e9
      replace e9 := e9.trans (zm_wI (Z := Z) (ν := ν) hZ9 (show ((0 : Nat) : Int) = 0 from rfl) (show ((0 : Nat) : Int) = 0 from rfl) (show ((2 : Nat) : Int) = 2 from rfl) (show (0 : Int32) = i3 0 from rfl))
      subst e9
      refine wz_br (i3L (rfl : i3 a2 = i3 a2) (show (1 : Int32) = i3 1 from rfl) (by omega) (by omega) (by omega) (by omega)) (fun h10 => ?_) (fun h10 => ?_)
      · replace hP := zE_p hP h10
        obtain ⟨Z11, hZ11⟩ := zx (zu Z9 1 0 0 2 2)
        replace hP := zl_e hP hZ11
        have hZ11I := zM_u hZ9I hZ11 (lo := -2147483648) (hi := 2147483647) (by decide) rfl (by omega) ⟨by decide, by decide⟩ (Or.inr (by decide)) rfl
        have hZ11U : zU [] Z Z11 := zU_u hZ9U hZ11 (Or.inl rfl)
        have hZ11K : zC [1, 2] Z Z11 := zC_u hZ9K hZ11 (by decide)
        intro μ9 e9
        replace e9 := e9.trans (zm_wI (Z := Z9) (ν := ν) hZ11 (show ((0 : Nat) : Int) = 0 from rfl) (show ((0 : Nat) : Int) = 0 from rfl) (show ((2 : Nat) : Int) = 2 from rfl) (show (2 : Int32) = i3 2 from rfl))
        subst e9
        exact zlY hP (show (0 : Int32) = i3 0 from rfl) (.inl rfl) ⟨(zmw (a := 0) (c := 1) hZ11I (Nat.le_of_ble_eq_true rfl)), hZ11K, hZ11U⟩
      · replace hP := zE_n hP h10
        refine wz_br (i3L (show (9999999 : Int32) = i3 9999999 from rfl) (rfl : i3 a2 = i3 a2) (by omega) (by omega) (by omega) (by omega)) (fun h12 => ?_) (fun h12 => ?_)
        · replace hP := zE_p hP h12
          obtain ⟨Z13, hZ13⟩ := zx (zu Z9 1 0 0 2 2)
          replace hP := zl_e hP hZ13
          have hZ13I := zM_u hZ9I hZ13 (lo := -2147483648) (hi := 2147483647) (by decide) rfl (by omega) ⟨by decide, by decide⟩ (Or.inr (by decide)) rfl
          have hZ13U : zU [] Z Z13 := zU_u hZ9U hZ13 (Or.inl rfl)
          have hZ13K : zC [1, 2] Z Z13 := zC_u hZ9K hZ13 (by decide)
          intro μ9 e9
          replace e9 := e9.trans (zm_wI (Z := Z9) (ν := ν) hZ13 (show ((0 : Nat) : Int) = 0 from rfl) (show ((0 : Nat) : Int) = 0 from rfl) (show ((2 : Nat) : Int) = 2 from rfl) (show (2 : Int32) = i3 2 from rfl))
          subst e9
          exact zlY hP (show (0 : Int32) = i3 0 from rfl) (.inl rfl) ⟨(zmw (a := 0) (c := 1) hZ13I (Nat.le_of_ble_eq_true rfl)), hZ13K, hZ13U⟩
        · replace hP := zE_n hP h12
          obtain ⟨Z14, hZ14⟩ := zx (zu Z9 1 0 0 2 0)
          replace hP := zl_e hP hZ14
          have hZ14I := zM_0 hZ9I hZ14 (by decide) (Or.inr (by decide))
          have hZ14U : zU [] Z Z14 := zU_u hZ9U hZ14 (Or.inl rfl)
          have hZ14K : zC [1, 2] Z Z14 := zC_u hZ9K hZ14 (by decide)
          intro μ9 e9
          replace e9 := e9.trans (zm_wI (Z := Z9) (ν := ν) hZ14 (show ((0 : Nat) : Int) = 0 from rfl) (show ((0 : Nat) : Int) = 0 from rfl) (show ((2 : Nat) : Int) = 2 from rfl) (show (0 : Int32) = i3 0 from rfl))
          subst e9
          refine wz_i0 (i3O (n := 4400) (i3A (i3A (show (1410 : Int32) = i3 1410 from rfl) (i3M (show (12 : Int32) = i3 12 from rfl) (rfl : i3 a1 = i3 a1))) (show (3 : Int32) = i3 3 from rfl)) (by omega) (by omega) (by omega)) ?_
          have r15 := zM_f hZ14I 2 0 0 (1413 + 12 * a1)
          have r16 := w3_r ((Z14 2 0 0 (1413 + 12 * a1)) + a2)
          refine wz_br (i3L (show (99999999 : Int32) = i3 99999999 from rfl) (i3W (i3A (zm_rd (Z := Z14) (ν := ν) (k := 2) (show ((0 : Nat) : Int) = 0 from rfl) (show ((0 : Nat) : Int) = 0 from rfl) (i3I (y := (1413 + 12 * a1)) (i3A (i3A (show (1410 : Int32) = i3 1410 from rfl) (i3M (show (12 : Int32) = i3 12 from rfl) (rfl : i3 a1 = i3 a1))) (show (3 : Int32) = i3 3 from rfl)) (by omega) (by omega) (by omega))) (rfl : i3 a2 = i3 a2))) (by omega) (by omega) (by omega) (by omega)) (fun h17 => ?_) (fun h17 => ?_)
          · replace hP := zE_p hP h17
            obtain ⟨Z18, hZ18⟩ := zx (zu Z14 1 0 0 2 3)
            replace hP := zl_e hP hZ18
            have hZ18I := zM_u hZ14I hZ18 (lo := -2147483648) (hi := 2147483647) (by decide) rfl (by omega) ⟨by decide, by decide⟩ (Or.inr (by decide)) rfl
            have hZ18U : zU [] Z Z18 := zU_u hZ14U hZ18 (Or.inl rfl)
            have hZ18K : zC [1, 2] Z Z18 := zC_u hZ14K hZ18 (by decide)
            intro μ9 e9
            replace e9 := e9.trans (zm_wI (Z := Z14) (ν := ν) hZ18 (show ((0 : Nat) : Int) = 0 from rfl) (show ((0 : Nat) : Int) = 0 from rfl) (show ((2 : Nat) : Int) = 2 from rfl) (show (3 : Int32) = i3 3 from rfl))
            subst e9
            exact zlY hP (show (0 : Int32) = i3 0 from rfl) (.inl rfl) ⟨(zmw (a := 0) (c := 1) hZ18I (Nat.le_of_ble_eq_true rfl)), hZ18K, hZ18U⟩
          · replace hP := zE_n hP h17
            obtain ⟨Z19, hZ19⟩ := zx (zu Z14 1 0 0 2 0)
            replace hP := zl_e hP hZ19
            have hZ19I := zM_0 hZ14I hZ19 (by decide) (Or.inr (by decide))
            have hZ19U : zU [] Z Z19 := zU_u hZ14U hZ19 (Or.inl rfl)
            have hZ19K : zC [1, 2] Z Z19 := zC_u hZ14K hZ19 (by decide)
            intro μ9 e9
            replace e9 := e9.trans (zm_wI (Z := Z14) (ν := ν) hZ19 (show ((0 : Nat) : Int) = 0 from rfl) (show ((0 : Nat) : Int) = 0 from rfl) (show ((2 : Nat) : Int) = 2 from rfl) (show (0 : Int32) = i3 0 from rfl))
            subst e9
            have r20 := zM_k hZ19I 1 0 0 35 (lo := 0) (hi := 1) (by decide) rfl
            have q21 := (zu_ne (k' := 1) (b' := 0) (i' := 0) (j' := 35) hZ19 (fun q => absurd q.2.2.2 (by decide))).trans ((zu_ne (k' := 1) (b' := 0) (i' := 0) (j' := 35) hZ14 (fun q => absurd q.2.2.2 (by decide))).trans (zu_ne (k' := 1) (b' := 0) (i' := 0) (j' := 35) hZ9 (fun q => absurd q.2.2.2 (by decide))))
            refine wz_i1 (Eq.trans (i3NE (zm_rd (Z := Z19) (ν := ν) (k := 1) (show ((0 : Nat) : Int) = 0 from rfl) (show ((0 : Nat) : Int) = 0 from rfl) (show ((35 : Nat) : Int) = 35 from rfl)) (show (0 : Int32) = i3 0 from rfl) (by omega) (by omega) (by omega) (by omega)) (decide_eq_true (by omega))) ?_
            replace hP := zl_q hP (rfl : _ = Z19)
            refine wz_i0 (i3O (n := 4400) (i3A (i3A (show (1410 : Int32) = i3 1410 from rfl) (i3M (show (12 : Int32) = i3 12 from rfl) (rfl : i3 a1 = i3 a1))) (show (3 : Int32) = i3 3 from rfl)) (by omega) (by omega) (by omega)) ?_
            refine wz_i0 (i3O (n := 4400) (i3A (i3A (show (1410 : Int32) = i3 1410 from rfl) (i3M (show (12 : Int32) = i3 12 from rfl) (rfl : i3 a1 = i3 a1))) (show (3 : Int32) = i3 3 from rfl)) (by omega) (by omega) (by omega)) ?_
            have r22 := zM_f hZ19I 2 0 0 (1413 + 12 * a1)
            have q23 := zu_ne (k' := 2) (b' := 0) (i' := 0) (j' := (1413 + 12 * a1)) hZ19 (fun q => absurd q.1 (by decide))
            have r24 := w3_r ((Z19 2 0 0 (1413 + 12 * a1)) + a2)
            obtain ⟨Z25, hZ25⟩ := zx (zu Z19 2 0 0 (1413 + 12 * a1) (w3 ((Z19 2 0 0 (1413 + 12 * a1)) + a2)))
            replace hP := zl_e hP hZ25
            have hZ25I := zM_u2 hZ19I hZ25 (lo := -2147483648) (hi := 2147483647) (zs_1410_3 (x := a1) (by omega) (by omega) (by omega)) (by omega) ⟨by decide, by decide⟩ (by simp only [zsp]; omega)
            have hZ25U : zU [] Z Z25 := zU_u hZ19U hZ25 (Or.inl rfl)
            have hZ25K : zC [1, 2] Z Z25 := zC_u hZ19K hZ25 (zcl_2w (by omega) rfl)
            intro μ9 e9
            replace e9 := e9.trans (zm_wI (Z := Z19) (ν := ν) hZ25 (show ((0 : Nat) : Int) = 0 from rfl) (show ((0 : Nat) : Int) = 0 from rfl) (i3I (y := (1413 + 12 * a1)) (i3A (i3A (show (1410 : Int32) = i3 1410 from rfl) (i3M (show (12 : Int32) = i3 12 from rfl) (rfl : i3 a1 = i3 a1))) (show (3 : Int32) = i3 3 from rfl)) (by omega) (by omega) (by omega)) (i3W (i3A (zm_rd (Z := Z19) (ν := ν) (k := 2) (show ((0 : Nat) : Int) = 0 from rfl) (show ((0 : Nat) : Int) = 0 from rfl) (i3I (y := (1413 + 12 * a1)) (i3A (i3A (show (1410 : Int32) = i3 1410 from rfl) (i3M (show (12 : Int32) = i3 12 from rfl) (rfl : i3 a1 = i3 a1))) (show (3 : Int32) = i3 3 from rfl)) (by omega) (by omega) (by omega))) (rfl : i3 a2 = i3 a2))))
            subst e9
            refine wz_i0 (i3O (n := 4400) (i3A (i3A (show (1410 : Int32) = i3 1410 from rfl) (i3M (show (12 : Int32) = i3 12 from rfl) (rfl : i3 a1 = i3 a1))) (show (5 : Int32) = i3 5 from rfl)) (by omega) (by omega) (by omega)) ?_
            refine wz_i0 (i3O (n := 4400) (i3A (i3A (show (1410 : Int32) = i3 1410 from rfl) (i3M (show (12 : Int32) = i3 12 from rfl) (rfl : i3 a1 = i3 a1))) (show (5 : Int32) = i3 5 from rfl)) (by omega) (by omega) (by omega)) ?_
            have r26 := zM_f hZ25I 2 0 0 (1415 + 12 * a1)
            have r27 := w3_r ((Z25 2 0 0 (1415 + 12 * a1)) + a2)
            obtain ⟨Z28, hZ28⟩ := zx (zu Z25 2 0 0 (1415 + 12 * a1) (w3 ((Z25 2 0 0 (1415 + 12 * a1)) + a2)))
            replace hP := zl_e hP hZ28
            have hZ28I := zM_u2 hZ25I hZ28 (lo := -2147483648) (hi := 2147483647) (zs_1410_5 (x := a1) (by omega) (by omega) (by omega)) (by omega) ⟨by decide, by decide⟩ (by simp only [zsp]; omega)
            have hZ28U : zU [] Z Z28 := zU_u hZ25U hZ28 (Or.inl rfl)
            have hZ28K : zC [1, 2] Z Z28 := zC_u hZ25K hZ28 (zcl_2w (by omega) rfl)
            intro μ9 e9
            replace e9 := e9.trans (zm_wI (Z := Z25) (ν := ν) hZ28 (show ((0 : Nat) : Int) = 0 from rfl) (show ((0 : Nat) : Int) = 0 from rfl) (i3I (y := (1415 + 12 * a1)) (i3A (i3A (show (1410 : Int32) = i3 1410 from rfl) (i3M (show (12 : Int32) = i3 12 from rfl) (rfl : i3 a1 = i3 a1))) (show (5 : Int32) = i3 5 from rfl)) (by omega) (by omega) (by omega)) (i3W (i3A (zm_rd (Z := Z25) (ν := ν) (k := 2) (show ((0 : Nat) : Int) = 0 from rfl) (show ((0 : Nat) : Int) = 0 from rfl) (i3I (y := (1415 + 12 * a1)) (i3A (i3A (show (1410 : Int32) = i3 1410 from rfl) (i3M (show (12 : Int32) = i3 12 from rfl) (rfl : i3 a1 = i3 a1))) (show (5 : Int32) = i3 5 from rfl)) (by omega) (by omega) (by omega))) (rfl : i3 a2 = i3 a2))))
            subst e9
            obtain ⟨Z29, hZ29, c9, hZ29I, kZ29, jZ29⟩ := sp_403 (ν := ν) hZ28I (a1 := 1) (by omega) (a2 := 0) (by omega) (a3 := a2) (by omega) (a4 := (-1)) (by omega) (zbh (c := 0) (k := 1) hM (Nat.le_of_ble_eq_true rfl))
            have hZ29U : zU [] Z Z29 := zU_t hZ28U jZ29 zU_b0
            have hZ29K : zC [1, 2] Z Z29 := zC_t hZ28K kZ29 (by decide)
            replace hP := zl_e hP hZ29
            refine wz_cV_of (zas (zcons rfl (zcons (zvi (show (1 : Int32) = i3 1 from rfl)) (zcons (zvi (show (0 : Int32) = i3 0 from rfl)) (zcons (zvi (rfl : i3 a2 = i3 a2)) (zcons (zvi (show (-1 : Int32) = i3 (-1) from rfl)) rfl))))) c9) ?_
            clear c9
            refine wz_i0 (i3O (n := 4400) (i3A (i3A (show (1410 : Int32) = i3 1410 from rfl) (i3M (show (12 : Int32) = i3 12 from rfl) (rfl : i3 a1 = i3 a1))) (show (3 : Int32) = i3 3 from rfl)) (by omega) (by omega) (by omega)) ?_
            have r30 := zM_f hZ29I 2 0 0 (1413 + 12 * a1)
            exact zlY hP (zm_rd (Z := Z29) (ν := ν) (k := 2) (show ((0 : Nat) : Int) = 0 from rfl) (show ((0 : Nat) : Int) = 0 from rfl) (i3I (y := (1413 + 12 * a1)) (i3A (i3A (show (1410 : Int32) = i3 1410 from rfl) (i3M (show (12 : Int32) = i3 12 from rfl) (rfl : i3 a1 = i3 a1))) (show (3 : Int32) = i3 3 from rfl)) (by omega) (by omega) (by omega))) (.inl rfl) ⟨hZ29I, hZ29K, hZ29U⟩
/- yX12_rMayPut -/
def zf_477 (Z : qz_Z) (a1 : Int) (a2 : Int) : Int := (if 1 < (Z 2 0 0 (210 + 20 * a1)) then 0 else (if (Z 2 0 0 (211 + 20 * a1)) = a2 then 0 else (zlet (zf_390 Z (Z 2 0 0 (211 + 20 * a1))) (fun v7 => (if v7 ≠ 0 then 0 else (zlet (zf_390 Z a2) (fun v9 => (if v9 ≠ 0 then 0 else (if a2 ≠ 6 then (zlet (zf_488 Z a2) (fun v12 => (if ((Z 2 0 0 (1210 + 12 * a2)) - v12) ≤ 0 then 0 else 1))) else (zlet (zf_488 Z a2) (fun v15 => (if (12 - v15) ≤ 0 then 0 else 1))))))))))))
theorem sp_477 {s : zSM} {Z : qz_Z} {ν : qz_N} (hZ : zM s Z) {a1 : Int} (ga1 : 0 ≤ a1 ∧ a1 ≤ 47) {a2 : Int} (ga2 : 0 ≤ a2 ∧ a2 ≤ 6) (hM : s.2 + 0 ≤ 1000000000) : ∃ P : Int, P = zf_477 Z a1 a2 ∧ (qf_477 [.inr (.inr (some (1, 0, 0))), .inl (i3 a1), .inl (i3 a2)] (zm Z ν) = some (zm Z ν, .inl (some (.inl (i3 P)))) ∧ 0 ≤ P ∧ P ≤ 1) := by
  obtain ⟨P, hP⟩ := zx (zf_477 Z a1 a2)
  refine zc_R (Q := fun P => 0 ≤ P ∧ P ≤ 1) hP (fw_477 (i3 a1) (i3 a2) _ _ ?_)
  replace hP : zE P (zf_477 Z a1 a2) := hP
  unfold zf_477 at hP
  refine wz_i0 (i3O (n := 4400) (i3A (i3A (show (200 : Int32) = i3 200 from rfl) (i3M (show (20 : Int32) = i3 20 from rfl) (rfl : i3 a1 = i3 a1))) (show (10 : Int32) = i3 10 from rfl)) (by omega) (by omega) (by omega)) ?_
  have r1 := zM_k hZ 2 0 0 (210 + 20 * a1) (lo := 0) (hi := 4) (by decide) (zs_200_10 (x := a1) (by omega) (by omega) (by omega))
  have r2 := zM_pl hZ a1
  have r3 := zM_k hZ 2 0 0 102 (lo := 0) (hi := 48) (by decide) rfl
  refine wz_br (i3L (show (1 : Int32) = i3 1 from rfl) (zm_rd (Z := Z) (ν := ν) (k := 2) (show ((0 : Nat) : Int) = 0 from rfl) (show ((0 : Nat) : Int) = 0 from rfl) (i3I (y := (210 + 20 * a1)) (i3A (i3A (show (200 : Int32) = i3 200 from rfl) (i3M (show (20 : Int32) = i3 20 from rfl) (rfl : i3 a1 = i3 a1))) (show (10 : Int32) = i3 10 from rfl)) (by omega) (by omega) (by omega))) (by omega) (by omega) (by omega) (by omega)) (fun h4 => ?_) (fun h4 => ?_)
  · replace hP := zE_p hP h4
    exact zlR hP (show (0 : Int32) = i3 0 from rfl) ⟨by omega, by omega⟩
  · replace hP := zE_n hP h4
    refine wz_i0 (i3O (n := 4400) (i3A (i3A (show (200 : Int32) = i3 200 from rfl) (i3M (show (20 : Int32) = i3 20 from rfl) (rfl : i3 a1 = i3 a1))) (show (11 : Int32) = i3 11 from rfl)) (by omega) (by omega) (by omega)) ?_
    have r5 := zM_k hZ 2 0 0 (211 + 20 * a1) (lo := -1) (hi := 6) (by decide) (zs_200_11 (x := a1) (by omega) (by omega) (by omega))
    refine wz_br (i3E (zm_rd (Z := Z) (ν := ν) (k := 2) (show ((0 : Nat) : Int) = 0 from rfl) (show ((0 : Nat) : Int) = 0 from rfl) (i3I (y := (211 + 20 * a1)) (i3A (i3A (show (200 : Int32) = i3 200 from rfl) (i3M (show (20 : Int32) = i3 20 from rfl) (rfl : i3 a1 = i3 a1))) (show (11 : Int32) = i3 11 from rfl)) (by omega) (by omega) (by omega))) (rfl : i3 a2 = i3 a2) (by omega) (by omega) (by omega) (by omega)) (fun h6 => ?_) (fun h6 => ?_)
    · replace hP := zE_p hP h6
      exact zlR hP (show (0 : Int32) = i3 0 from rfl) ⟨by omega, by omega⟩
    · replace hP := zE_n hP h6
      refine wz_i0 (i3O (n := 4400) (i3A (i3A (show (200 : Int32) = i3 200 from rfl) (i3M (show (20 : Int32) = i3 20 from rfl) (rfl : i3 a1 = i3 a1))) (show (11 : Int32) = i3 11 from rfl)) (by omega) (by omega) (by omega)) ?_
      obtain ⟨v7, hv7, c9, lv7, uv7⟩ := sp_390 (ν := ν) hZ (a1 := (Z 2 0 0 (211 + 20 * a1))) (by omega) (zbh (c := 0) (k := 0) hM (Nat.le_of_ble_eq_true rfl))
      replace hP := zl_e hP hv7
      refine wz_cI_of (zas (zcons rfl (zcons (zvi (zm_rd (Z := Z) (ν := ν) (k := 2) (show ((0 : Nat) : Int) = 0 from rfl) (show ((0 : Nat) : Int) = 0 from rfl) (i3I (y := (211 + 20 * a1)) (i3A (i3A (show (200 : Int32) = i3 200 from rfl) (i3M (show (20 : Int32) = i3 20 from rfl) (rfl : i3 a1 = i3 a1))) (show (11 : Int32) = i3 11 from rfl)) (by omega) (by omega) (by omega)))) rfl)) c9) ?_
      clear c9
      refine wz_br (i3NE (rfl : i3 v7 = i3 v7) (show (0 : Int32) = i3 0 from rfl) (by omega) (by omega) (by omega) (by omega)) (fun h8 => ?_) (fun h8 => ?_)
      · replace hP := zE_p hP h8
        exact zlR hP (show (0 : Int32) = i3 0 from rfl) ⟨by omega, by omega⟩
      · replace hP := zE_n hP h8
        obtain ⟨v9, hv9, c9, lv9, uv9⟩ := sp_390 (ν := ν) hZ (a1 := a2) (by omega) (zbh (c := 0) (k := 0) hM (Nat.le_of_ble_eq_true rfl))
        replace hP := zl_e hP hv9
        refine wz_cI_of (zas (zcons rfl (zcons (zvi (rfl : i3 a2 = i3 a2)) rfl)) c9) ?_
        clear c9
        refine wz_br (i3NE (rfl : i3 v9 = i3 v9) (show (0 : Int32) = i3 0 from rfl) (by omega) (by omega) (by omega) (by omega)) (fun h10 => ?_) (fun h10 => ?_)
        · replace hP := zE_p hP h10
          exact zlR hP (show (0 : Int32) = i3 0 from rfl) ⟨by omega, by omega⟩
        · replace hP := zE_n hP h10
          refine wz_br (i3NE (rfl : i3 a2 = i3 a2) (show (6 : Int32) = i3 6 from rfl) (by omega) (by omega) (by omega) (by omega)) (fun h11 => ?_) (fun h11 => ?_)
          · replace hP := zE_p hP h11
            refine wz_i0 (i3O (n := 4400) (i3A (i3A (show (1210 : Int32) = i3 1210 from rfl) (i3M (show (12 : Int32) = i3 12 from rfl) (rfl : i3 a2 = i3 a2))) (show (0 : Int32) = i3 0 from rfl)) (by omega) (by omega) (by omega)) ?_
            obtain ⟨v12, hv12, c9, lv12, uv12⟩ := sp_488 (ν := ν) hZ (a1 := a2) (by omega) (zbh (c := 0) (k := 0) hM (Nat.le_of_ble_eq_true rfl))
            replace hP := zl_e hP hv12
            refine wz_cI_of (zas (zcons rfl (zcons (zvi (rfl : i3 a2 = i3 a2)) rfl)) c9) ?_
            clear c9
            have r13 := zM_k hZ 2 0 0 (1210 + 12 * a2) (lo := 0) (hi := 12) (by decide) (zs_1210_0 (x := a2) (by omega) (by omega) (by omega))
            refine wz_br (i3Le (i3S (zm_rd (Z := Z) (ν := ν) (k := 2) (show ((0 : Nat) : Int) = 0 from rfl) (show ((0 : Nat) : Int) = 0 from rfl) (i3I (y := (1210 + 12 * a2)) (i3A (i3A (show (1210 : Int32) = i3 1210 from rfl) (i3M (show (12 : Int32) = i3 12 from rfl) (rfl : i3 a2 = i3 a2))) (show (0 : Int32) = i3 0 from rfl)) (by omega) (by omega) (by omega))) (rfl : i3 v12 = i3 v12)) (show (0 : Int32) = i3 0 from rfl) (by omega) (by omega) (by omega) (by omega)) (fun h14 => ?_) (fun h14 => ?_)
            · replace hP := zE_p hP h14
              exact zlR hP (show (0 : Int32) = i3 0 from rfl) ⟨by omega, by omega⟩
            · replace hP := zE_n hP h14
              exact zlR hP (show (1 : Int32) = i3 1 from rfl) ⟨by omega, by omega⟩
          · replace hP := zE_n hP h11
            obtain ⟨v15, hv15, c9, lv15, uv15⟩ := sp_488 (ν := ν) hZ (a1 := a2) (by omega) (zbh (c := 0) (k := 0) hM (Nat.le_of_ble_eq_true rfl))
            replace hP := zl_e hP hv15
            refine wz_cI_of (zas (zcons rfl (zcons (zvi (rfl : i3 a2 = i3 a2)) rfl)) c9) ?_
            clear c9
            refine wz_br (i3Le (i3S (show (12 : Int32) = i3 12 from rfl) (rfl : i3 v15 = i3 v15)) (show (0 : Int32) = i3 0 from rfl) (by omega) (by omega) (by omega) (by omega)) (fun h16 => ?_) (fun h16 => ?_)
            · replace hP := zE_p hP h16
              exact zlR hP (show (0 : Int32) = i3 0 from rfl) ⟨by omega, by omega⟩
            · replace hP := zE_n hP h16
              exact zlR hP (show (1 : Int32) = i3 1 from rfl) ⟨by omega, by omega⟩
