/- yX1_tellParcel -/
def zf_36 (Z : qz_Z) (a0b : Int) (a1b : Int) (a1ij : Int) (a2 : Int) : Int := (if (Z 47 a1b a1ij 9) ≠ 0 then (if a2 < 11 ∨ 13 < a2 then (Z 47 a1b a1ij a2) else (if a2 = 11 then (Z 47 a1b a1ij 11) else (if a2 = 12 then (Z 47 a1b a1ij 12) else (if ((Z 41 a0b (Z 44 a0b (Z 47 a1b a1ij 0) 1) 3) - (Z 41 a0b (Z 44 a0b (Z 47 a1b a1ij 0) 1) 4)) ≤ (Z 47 a1b a1ij 11) then (if ((Z 41 a0b (Z 44 a0b (Z 47 a1b a1ij 0) 1) 3) + (Z 41 a0b (Z 44 a0b (Z 47 a1b a1ij 0) 1) 4)) < (Z 47 a1b a1ij 11) then (if ((Z 41 a0b (Z 44 a0b (Z 47 a1b a1ij 0) 1) 3) + (3 * (Z 41 a0b (Z 44 a0b (Z 47 a1b a1ij 0) 1) 4))) < (Z 47 a1b a1ij 11) then 3 else 2) else 1) else 0)))) else (if a2 < 11 ∨ 13 < a2 then (Z 47 a1b a1ij a2) else (if a2 = 11 then (Z 44 a0b (Z 47 a1b a1ij 0) 7) else (if a2 = 12 then (Z 44 a0b (Z 47 a1b a1ij 0) 8) else (if ((Z 41 a0b (Z 44 a0b (Z 47 a1b a1ij 0) 1) 3) - (Z 41 a0b (Z 44 a0b (Z 47 a1b a1ij 0) 1) 4)) ≤ (Z 44 a0b (Z 47 a1b a1ij 0) 7) then (if ((Z 41 a0b (Z 44 a0b (Z 47 a1b a1ij 0) 1) 3) + (Z 41 a0b (Z 44 a0b (Z 47 a1b a1ij 0) 1) 4)) < (Z 44 a0b (Z 47 a1b a1ij 0) 7) then (if ((Z 41 a0b (Z 44 a0b (Z 47 a1b a1ij 0) 1) 3) + (3 * (Z 41 a0b (Z 44 a0b (Z 47 a1b a1ij 0) 1) 4))) < (Z 44 a0b (Z 47 a1b a1ij 0) 7) then 3 else 2) else 1) else 0)))))
theorem sp_36 {s : zSM} {Z : qz_Z} {ν : qz_N} (hZ : zH s Z) (a0b : Nat) (a1b : Nat) (a1i : Nat) {a1ij : Int} (ea1i : (a1i : Int) = a1ij) (ga1i : 0 ≤ a1ij ∧ a1ij ≤ 59) {a2 : Int} (ga2 : 0 ≤ a2 ∧ a2 ≤ 20) (hM : s.2 + 0 ≤ 1000000000) : ∃ P : Int, P = zf_36 Z a0b a1b a1ij a2 ∧ (qf_36 [.inr (.inr (some (10, a0b, 0))), .inr (.inr (some (47, a1b, a1i))), .inl (i3 a2)] (zm Z ν) = some (zm Z ν, .inl (some (.inl (i3 P)))) ∧ -2147483648 ≤ P ∧ P ≤ 2147483647) := by
  obtain ⟨P, hP⟩ := zx (zf_36 Z a0b a1b a1ij a2)
  refine zc_R (Q := fun P => -2147483648 ≤ P ∧ P ≤ 2147483647) hP (fw_36 a0b a1b a1i (i3 a2) _ _ ?_)
  replace hP : zE P (zf_36 Z a0b a1b a1ij a2) := hP
  unfold zf_36 at hP
  have r1 := zH_k hZ 47 a1b a1ij 0 (lo := 0) (hi := 47) (by decide) rfl
  refine wz_i0 (i3O (n := 48) (zm_rd (Z := Z) (ν := ν) (k := 47) (rfl : ((a1b : Nat) : Int) = a1b) ea1i (show ((0 : Nat) : Int) = 0 from rfl)) (by omega) (by omega) (by omega)) ?_
  have r2 := zH_k hZ 47 a1b a1ij 9 (lo := 0) (hi := 3) (by decide) rfl
  have r3 := zH_lt hZ a1b a1ij
  refine wz_br (i3NE (zm_rd (Z := Z) (ν := ν) (k := 47) (rfl : ((a1b : Nat) : Int) = a1b) ea1i (show ((9 : Nat) : Int) = 9 from rfl)) (show (0 : Int32) = i3 0 from rfl) (by omega) (by omega) (by omega) (by omega)) (fun h4 => ?_) (fun h4 => ?_)
  · replace hP := zE_p hP h4
    refine wz_br (i3To (rfl : i3 a2 = i3 a2) (by omega) (by omega)) (fun h5 => ?_) (fun h5 => ?_)
    · replace hP := zE_p hP h5
      refine wz_i0 (i3O (n := 21) (rfl : i3 a2 = i3 a2) (by omega) (by omega) (by omega)) ?_
      have r6 := zH_f hZ 47 a1b a1ij a2
      exact zlR hP (zm_rd (Z := Z) (ν := ν) (k := 47) (rfl : ((a1b : Nat) : Int) = a1b) ea1i (i3I (y := a2) (rfl : i3 a2 = i3 a2) (by omega) (by omega) (by omega))) ⟨by omega, by omega⟩
    · replace hP := zE_n hP h5
      refine wz_br (i3T (rfl : i3 a2 = i3 a2) (by omega) (by omega)) (fun h7 => ?_) (fun h7 => ?_)
      · replace hP := zE_p hP h7
        have r8 := zH_k hZ 47 a1b a1ij 11 (lo := 0) (hi := 2000) (by decide) rfl
        exact zlR hP (zm_rd (Z := Z) (ν := ν) (k := 47) (rfl : ((a1b : Nat) : Int) = a1b) ea1i (show ((11 : Nat) : Int) = 11 from rfl)) ⟨by omega, by omega⟩
      · replace hP := zE_n hP h7
        refine wz_br (i3T (rfl : i3 a2 = i3 a2) (by omega) (by omega)) (fun h9 => ?_) (fun h9 => ?_)
        · replace hP := zE_p hP h9
          have r10 := zH_k hZ 47 a1b a1ij 12 (lo := 0) (hi := 999) (by decide) rfl
          exact zlR hP (zm_rd (Z := Z) (ν := ν) (k := 47) (rfl : ((a1b : Nat) : Int) = a1b) ea1i (show ((12 : Nat) : Int) = 12 from rfl)) ⟨by omega, by omega⟩
        · replace hP := zE_n hP h9
          refine wz_i1 (Eq.trans (i3T (rfl : i3 a2 = i3 a2) (by omega) (by omega)) (decide_eq_true (by omega))) ?_
          have r11 := zH_k hZ 44 a0b (Z 47 a1b a1ij 0) 1 (lo := 0) (hi := 4) (by decide) rfl
          refine wz_i0 (i3O (n := 5) (zm_rd (Z := Z) (ν := ν) (k := 44) (rfl : ((a0b : Nat) : Int) = a0b) (i3I (y := (Z 47 a1b a1ij 0)) (zm_rd (Z := Z) (ν := ν) (k := 47) (rfl : ((a1b : Nat) : Int) = a1b) ea1i (show ((0 : Nat) : Int) = 0 from rfl)) (by omega) (by omega) (by omega)) (show ((1 : Nat) : Int) = 1 from rfl)) (by omega) (by omega) (by omega)) ?_
          refine wz_i0 (i3O (n := 5) (zm_rd (Z := Z) (ν := ν) (k := 44) (rfl : ((a0b : Nat) : Int) = a0b) (i3I (y := (Z 47 a1b a1ij 0)) (zm_rd (Z := Z) (ν := ν) (k := 47) (rfl : ((a1b : Nat) : Int) = a1b) ea1i (show ((0 : Nat) : Int) = 0 from rfl)) (by omega) (by omega) (by omega)) (show ((1 : Nat) : Int) = 1 from rfl)) (by omega) (by omega) (by omega)) ?_
          have r12 := zH_k hZ 41 a0b (Z 44 a0b (Z 47 a1b a1ij 0) 1) 3 (lo := 0) (hi := 600) (by decide) rfl
          have r13 := zH_k hZ 41 a0b (Z 44 a0b (Z 47 a1b a1ij 0) 1) 4 (lo := 0) (hi := 99) (by decide) rfl
          have r14 := zH_k hZ 47 a1b a1ij 11 (lo := 0) (hi := 2000) (by decide) rfl
          refine wz_br (i3Le (i3S (zm_rd (Z := Z) (ν := ν) (k := 41) (rfl : ((a0b : Nat) : Int) = a0b) (i3I (y := (Z 44 a0b (Z 47 a1b a1ij 0) 1)) (zm_rd (Z := Z) (ν := ν) (k := 44) (rfl : ((a0b : Nat) : Int) = a0b) (i3I (y := (Z 47 a1b a1ij 0)) (zm_rd (Z := Z) (ν := ν) (k := 47) (rfl : ((a1b : Nat) : Int) = a1b) ea1i (show ((0 : Nat) : Int) = 0 from rfl)) (by omega) (by omega) (by omega)) (show ((1 : Nat) : Int) = 1 from rfl)) (by omega) (by omega) (by omega)) (show ((3 : Nat) : Int) = 3 from rfl)) (zm_rd (Z := Z) (ν := ν) (k := 41) (rfl : ((a0b : Nat) : Int) = a0b) (i3I (y := (Z 44 a0b (Z 47 a1b a1ij 0) 1)) (zm_rd (Z := Z) (ν := ν) (k := 44) (rfl : ((a0b : Nat) : Int) = a0b) (i3I (y := (Z 47 a1b a1ij 0)) (zm_rd (Z := Z) (ν := ν) (k := 47) (rfl : ((a1b : Nat) : Int) = a1b) ea1i (show ((0 : Nat) : Int) = 0 from rfl)) (by omega) (by omega) (by omega)) (show ((1 : Nat) : Int) = 1 from rfl)) (by omega) (by omega) (by omega)) (show ((4 : Nat) : Int) = 4 from rfl))) (zm_rd (Z := Z) (ν := ν) (k := 47) (rfl : ((a1b : Nat) : Int) = a1b) ea1i (show ((11 : Nat) : Int) = 11 from rfl)) (by omega) (by omega) (by omega) (by omega)) (fun h15 => ?_) (fun h15 => ?_)
          · replace hP := zE_p hP h15
            refine wz_br (i3L (i3A (zm_rd (Z := Z) (ν := ν) (k := 41) (rfl : ((a0b : Nat) : Int) = a0b) (i3I (y := (Z 44 a0b (Z 47 a1b a1ij 0) 1)) (zm_rd (Z := Z) (ν := ν) (k := 44) (rfl : ((a0b : Nat) : Int) = a0b) (i3I (y := (Z 47 a1b a1ij 0)) (zm_rd (Z := Z) (ν := ν) (k := 47) (rfl : ((a1b : Nat) : Int) = a1b) ea1i (show ((0 : Nat) : Int) = 0 from rfl)) (by omega) (by omega) (by omega)) (show ((1 : Nat) : Int) = 1 from rfl)) (by omega) (by omega) (by omega)) (show ((3 : Nat) : Int) = 3 from rfl)) (zm_rd (Z := Z) (ν := ν) (k := 41) (rfl : ((a0b : Nat) : Int) = a0b) (i3I (y := (Z 44 a0b (Z 47 a1b a1ij 0) 1)) (zm_rd (Z := Z) (ν := ν) (k := 44) (rfl : ((a0b : Nat) : Int) = a0b) (i3I (y := (Z 47 a1b a1ij 0)) (zm_rd (Z := Z) (ν := ν) (k := 47) (rfl : ((a1b : Nat) : Int) = a1b) ea1i (show ((0 : Nat) : Int) = 0 from rfl)) (by omega) (by omega) (by omega)) (show ((1 : Nat) : Int) = 1 from rfl)) (by omega) (by omega) (by omega)) (show ((4 : Nat) : Int) = 4 from rfl))) (zm_rd (Z := Z) (ν := ν) (k := 47) (rfl : ((a1b : Nat) : Int) = a1b) ea1i (show ((11 : Nat) : Int) = 11 from rfl)) (by omega) (by omega) (by omega) (by omega)) (fun h16 => ?_) (fun h16 => ?_)
            · replace hP := zE_p hP h16
              refine wz_br (i3L (i3A (zm_rd (Z := Z) (ν := ν) (k := 41) (rfl : ((a0b : Nat) : Int) = a0b) (i3I (y := (Z 44 a0b (Z 47 a1b a1ij 0) 1)) (zm_rd (Z := Z) (ν := ν) (k := 44) (rfl : ((a0b : Nat) : Int) = a0b) (i3I (y := (Z 47 a1b a1ij 0)) (zm_rd (Z := Z) (ν := ν) (k := 47) (rfl : ((a1b : Nat) : Int) = a1b) ea1i (show ((0 : Nat) : Int) = 0 from rfl)) (by omega) (by omega) (by omega)) (show ((1 : Nat) : Int) = 1 from rfl)) (by omega) (by omega) (by omega)) (show ((3 : Nat) : Int) = 3 from rfl)) (i3M (show (3 : Int32) = i3 3 from rfl) (zm_rd (Z := Z) (ν := ν) (k := 41) (rfl : ((a0b : Nat) : Int) = a0b) (i3I (y := (Z 44 a0b (Z 47 a1b a1ij 0) 1)) (zm_rd (Z := Z) (ν := ν) (k := 44) (rfl : ((a0b : Nat) : Int) = a0b) (i3I (y := (Z 47 a1b a1ij 0)) (zm_rd (Z := Z) (ν := ν) (k := 47) (rfl : ((a1b : Nat) : Int) = a1b) ea1i (show ((0 : Nat) : Int) = 0 from rfl)) (by omega) (by omega) (by omega)) (show ((1 : Nat) : Int) = 1 from rfl)) (by omega) (by omega) (by omega)) (show ((4 : Nat) : Int) = 4 from rfl)))) (zm_rd (Z := Z) (ν := ν) (k := 47) (rfl : ((a1b : Nat) : Int) = a1b) ea1i (show ((11 : Nat) : Int) = 11 from rfl)) (by omega) (by omega) (by omega) (by omega)) (fun h17 => ?_) (fun h17 => ?_)
              · replace hP := zE_p hP h17
                exact zlR hP (show (3 : Int32) = i3 3 from rfl) ⟨by omega, by omega⟩
              · replace hP := zE_n hP h17
                exact zlR hP (show (2 : Int32) = i3 2 from rfl) ⟨by omega, by omega⟩
            · replace hP := zE_n hP h16
              exact zlR hP (show (1 : Int32) = i3 1 from rfl) ⟨by omega, by omega⟩
          · replace hP := zE_n hP h15
            exact zlR hP (show (0 : Int32) = i3 0 from rfl) ⟨by omega, by omega⟩
  · replace hP := zE_n hP h4
    refine wz_br (i3To (rfl : i3 a2 = i3 a2) (by omega) (by omega)) (fun h18 => ?_) (fun h18 => ?_)
    · replace hP := zE_p hP h18
      refine wz_i0 (i3O (n := 21) (rfl : i3 a2 = i3 a2) (by omega) (by omega) (by omega)) ?_
      have r19 := zH_f hZ 47 a1b a1ij a2
      exact zlR hP (zm_rd (Z := Z) (ν := ν) (k := 47) (rfl : ((a1b : Nat) : Int) = a1b) ea1i (i3I (y := a2) (rfl : i3 a2 = i3 a2) (by omega) (by omega) (by omega))) ⟨by omega, by omega⟩
    · replace hP := zE_n hP h18
      refine wz_br (i3T (rfl : i3 a2 = i3 a2) (by omega) (by omega)) (fun h20 => ?_) (fun h20 => ?_)
      · replace hP := zE_p hP h20
        have r21 := zH_k hZ 44 a0b (Z 47 a1b a1ij 0) 7 (lo := 0) (hi := 2000) (by decide) rfl
        exact zlR hP (zm_rd (Z := Z) (ν := ν) (k := 44) (rfl : ((a0b : Nat) : Int) = a0b) (i3I (y := (Z 47 a1b a1ij 0)) (zm_rd (Z := Z) (ν := ν) (k := 47) (rfl : ((a1b : Nat) : Int) = a1b) ea1i (show ((0 : Nat) : Int) = 0 from rfl)) (by omega) (by omega) (by omega)) (show ((7 : Nat) : Int) = 7 from rfl)) ⟨by omega, by omega⟩
      · replace hP := zE_n hP h20
        refine wz_br (i3T (rfl : i3 a2 = i3 a2) (by omega) (by omega)) (fun h22 => ?_) (fun h22 => ?_)
        · replace hP := zE_p hP h22
          have r23 := zH_k hZ 44 a0b (Z 47 a1b a1ij 0) 8 (lo := 0) (hi := 999) (by decide) rfl
          exact zlR hP (zm_rd (Z := Z) (ν := ν) (k := 44) (rfl : ((a0b : Nat) : Int) = a0b) (i3I (y := (Z 47 a1b a1ij 0)) (zm_rd (Z := Z) (ν := ν) (k := 47) (rfl : ((a1b : Nat) : Int) = a1b) ea1i (show ((0 : Nat) : Int) = 0 from rfl)) (by omega) (by omega) (by omega)) (show ((8 : Nat) : Int) = 8 from rfl)) ⟨by omega, by omega⟩
        · replace hP := zE_n hP h22
          refine wz_i1 (Eq.trans (i3T (rfl : i3 a2 = i3 a2) (by omega) (by omega)) (decide_eq_true (by omega))) ?_
          have r24 := zH_k hZ 44 a0b (Z 47 a1b a1ij 0) 1 (lo := 0) (hi := 4) (by decide) rfl
          refine wz_i0 (i3O (n := 5) (zm_rd (Z := Z) (ν := ν) (k := 44) (rfl : ((a0b : Nat) : Int) = a0b) (i3I (y := (Z 47 a1b a1ij 0)) (zm_rd (Z := Z) (ν := ν) (k := 47) (rfl : ((a1b : Nat) : Int) = a1b) ea1i (show ((0 : Nat) : Int) = 0 from rfl)) (by omega) (by omega) (by omega)) (show ((1 : Nat) : Int) = 1 from rfl)) (by omega) (by omega) (by omega)) ?_
          refine wz_i0 (i3O (n := 5) (zm_rd (Z := Z) (ν := ν) (k := 44) (rfl : ((a0b : Nat) : Int) = a0b) (i3I (y := (Z 47 a1b a1ij 0)) (zm_rd (Z := Z) (ν := ν) (k := 47) (rfl : ((a1b : Nat) : Int) = a1b) ea1i (show ((0 : Nat) : Int) = 0 from rfl)) (by omega) (by omega) (by omega)) (show ((1 : Nat) : Int) = 1 from rfl)) (by omega) (by omega) (by omega)) ?_
          have r25 := zH_k hZ 41 a0b (Z 44 a0b (Z 47 a1b a1ij 0) 1) 3 (lo := 0) (hi := 600) (by decide) rfl
          have r26 := zH_k hZ 41 a0b (Z 44 a0b (Z 47 a1b a1ij 0) 1) 4 (lo := 0) (hi := 99) (by decide) rfl
          have r27 := zH_k hZ 44 a0b (Z 47 a1b a1ij 0) 7 (lo := 0) (hi := 2000) (by decide) rfl
          refine wz_br (i3Le (i3S (zm_rd (Z := Z) (ν := ν) (k := 41) (rfl : ((a0b : Nat) : Int) = a0b) (i3I (y := (Z 44 a0b (Z 47 a1b a1ij 0) 1)) (zm_rd (Z := Z) (ν := ν) (k := 44) (rfl : ((a0b : Nat) : Int) = a0b) (i3I (y := (Z 47 a1b a1ij 0)) (zm_rd (Z := Z) (ν := ν) (k := 47) (rfl : ((a1b : Nat) : Int) = a1b) ea1i (show ((0 : Nat) : Int) = 0 from rfl)) (by omega) (by omega) (by omega)) (show ((1 : Nat) : Int) = 1 from rfl)) (by omega) (by omega) (by omega)) (show ((3 : Nat) : Int) = 3 from rfl)) (zm_rd (Z := Z) (ν := ν) (k := 41) (rfl : ((a0b : Nat) : Int) = a0b) (i3I (y := (Z 44 a0b (Z 47 a1b a1ij 0) 1)) (zm_rd (Z := Z) (ν := ν) (k := 44) (rfl : ((a0b : Nat) : Int) = a0b) (i3I (y := (Z 47 a1b a1ij 0)) (zm_rd (Z := Z) (ν := ν) (k := 47) (rfl : ((a1b : Nat) : Int) = a1b) ea1i (show ((0 : Nat) : Int) = 0 from rfl)) (by omega) (by omega) (by omega)) (show ((1 : Nat) : Int) = 1 from rfl)) (by omega) (by omega) (by omega)) (show ((4 : Nat) : Int) = 4 from rfl))) (zm_rd (Z := Z) (ν := ν) (k := 44) (rfl : ((a0b : Nat) : Int) = a0b) (i3I (y := (Z 47 a1b a1ij 0)) (zm_rd (Z := Z) (ν := ν) (k := 47) (rfl : ((a1b : Nat) : Int) = a1b) ea1i (show ((0 : Nat) : Int) = 0 from rfl)) (by omega) (by omega) (by omega)) (show ((7 : Nat) : Int) = 7 from rfl)) (by omega) (by omega) (by omega) (by omega)) (fun h28 => ?_) (fun h28 => ?_)
          · replace hP := zE_p hP h28
            refine wz_br (i3L (i3A (zm_rd (Z := Z) (ν := ν) (k := 41) (rfl : ((a0b : Nat) : Int) = a0b) (i3I (y := (Z 44 a0b (Z 47 a1b a1ij 0) 1)) (zm_rd (Z := Z) (ν := ν) (k := 44) (rfl : ((a0b : Nat) : Int) = a0b) (i3I (y := (Z 47 a1b a1ij 0)) (zm_rd (Z := Z) (ν := ν) (k := 47) (rfl : ((a1b : Nat) : Int) = a1b) ea1i (show ((0 : Nat) : Int) = 0 from rfl)) (by omega) (by omega) (by omega)) (show ((1 : Nat) : Int) = 1 from rfl)) (by omega) (by omega) (by omega)) (show ((3 : Nat) : Int) = 3 from rfl)) (zm_rd (Z := Z) (ν := ν) (k := 41) (rfl : ((a0b : Nat) : Int) = a0b) (i3I (y := (Z 44 a0b (Z 47 a1b a1ij 0) 1)) (zm_rd (Z := Z) (ν := ν) (k := 44) (rfl : ((a0b : Nat) : Int) = a0b) (i3I (y := (Z 47 a1b a1ij 0)) (zm_rd (Z := Z) (ν := ν) (k := 47) (rfl : ((a1b : Nat) : Int) = a1b) ea1i (show ((0 : Nat) : Int) = 0 from rfl)) (by omega) (by omega) (by omega)) (show ((1 : Nat) : Int) = 1 from rfl)) (by omega) (by omega) (by omega)) (show ((4 : Nat) : Int) = 4 from rfl))) (zm_rd (Z := Z) (ν := ν) (k := 44) (rfl : ((a0b : Nat) : Int) = a0b) (i3I (y := (Z 47 a1b a1ij 0)) (zm_rd (Z := Z) (ν := ν) (k := 47) (rfl : ((a1b : Nat) : Int) = a1b) ea1i (show ((0 : Nat) : Int) = 0 from rfl)) (by omega) (by omega) (by omega)) (show ((7 : Nat) : Int) = 7 from rfl)) (by omega) (by omega) (by omega) (by omega)) (fun h29 => ?_) (fun h29 => ?_)
            · replace hP := zE_p hP h29
              refine wz_br (i3L (i3A (zm_rd (Z := Z) (ν := ν) (k := 41) (rfl : ((a0b : Nat) : Int) = a0b) (i3I (y := (Z 44 a0b (Z 47 a1b a1ij 0) 1)) (zm_rd (Z := Z) (ν := ν) (k := 44) (rfl : ((a0b : Nat) : Int) = a0b) (i3I (y := (Z 47 a1b a1ij 0)) (zm_rd (Z := Z) (ν := ν) (k := 47) (rfl : ((a1b : Nat) : Int) = a1b) ea1i (show ((0 : Nat) : Int) = 0 from rfl)) (by omega) (by omega) (by omega)) (show ((1 : Nat) : Int) = 1 from rfl)) (by omega) (by omega) (by omega)) (show ((3 : Nat) : Int) = 3 from rfl)) (i3M (show (3 : Int32) = i3 3 from rfl) (zm_rd (Z := Z) (ν := ν) (k := 41) (rfl : ((a0b : Nat) : Int) = a0b) (i3I (y := (Z 44 a0b (Z 47 a1b a1ij 0) 1)) (zm_rd (Z := Z) (ν := ν) (k := 44) (rfl : ((a0b : Nat) : Int) = a0b) (i3I (y := (Z 47 a1b a1ij 0)) (zm_rd (Z := Z) (ν := ν) (k := 47) (rfl : ((a1b : Nat) : Int) = a1b) ea1i (show ((0 : Nat) : Int) = 0 from rfl)) (by omega) (by omega) (by omega)) (show ((1 : Nat) : Int) = 1 from rfl)) (by omega) (by omega) (by omega)) (show ((4 : Nat) : Int) = 4 from rfl)))) (zm_rd (Z := Z) (ν := ν) (k := 44) (rfl : ((a0b : Nat) : Int) = a0b) (i3I (y := (Z 47 a1b a1ij 0)) (zm_rd (Z := Z) (ν := ν) (k := 47) (rfl : ((a1b : Nat) : Int) = a1b) ea1i (show ((0 : Nat) : Int) = 0 from rfl)) (by omega) (by omega) (by omega)) (show ((7 : Nat) : Int) = 7 from rfl)) (by omega) (by omega) (by omega) (by omega)) (fun h30 => ?_) (fun h30 => ?_)
              · replace hP := zE_p hP h30
                exact zlR hP (show (3 : Int32) = i3 3 from rfl) ⟨by omega, by omega⟩
              · replace hP := zE_n hP h30
                exact zlR hP (show (2 : Int32) = i3 2 from rfl) ⟨by omega, by omega⟩
            · replace hP := zE_n hP h29
              exact zlR hP (show (1 : Int32) = i3 1 from rfl) ⟨by omega, by omega⟩
          · replace hP := zE_n hP h28
            exact zlR hP (show (0 : Int32) = i3 0 from rfl) ⟨by omega, by omega⟩
/- yX11_parcel -/
def zx_226 (Z : qz_Z) (a1 : Int) (a2 : Int) : qz_Z × Int × Int := (if 0 ≤ a1 ∧ a1 < (Z 11 0 0 6) then (if 0 ≤ a2 ∧ a2 ≤ 20 then (zlet (zf_36 Z 0 0 a1 a2) (fun v4 => (Z, v4, 0))) else (Z, 0, 13)) else (Z, 0, 24))
theorem sx_226 {M : Nat} {Z : qz_Z} {ν : qz_N} (hZ : zH ((none, M) : zSM) Z) (hM : ((none, M) : zSM).2 + 0 ≤ 1000000000) {a1 : Int} (ga1 : -2147483648 ≤ a1 ∧ a1 ≤ 2147483647) {a2 : Int} (ga2 : -2147483648 ≤ a2 ∧ a2 ≤ 2147483647) : ∃ (Z1 : qz_Z) (ν1 : qz_N) (v E : Int), (Z1, v, E) = zx_226 Z a1 a2 ∧ qf_226 [.inr (.inr (some (0, 0, 0))), .inl (i3 a1), .inl (i3 a2)] (zm Z ν) = some (zm Z1 ν1, zoX v E) ∧ (fun Z1 ν1 => zH ((none, M) : zSM) Z1 ∧ zC [] Z Z1 ∧ zU [] Z Z1 ∧ zG 1 6 ν ν1) Z1 ν1 := by
  obtain ⟨P, hP⟩ := zx (zx_226 Z a1 a2)
  refine zc_G (Q := fun Z1 ν1 => zH ((none, M) : zSM) Z1 ∧ zC [] Z Z1 ∧ zU [] Z Z1 ∧ zG 1 6 ν ν1) hP (fw_226 (i3 a1) (i3 a2) _ _ ?_)
  replace hP : zE P (zx_226 Z a1 a2) := hP
  unfold zx_226 at hP
  have r1 := zH_k hZ 11 0 0 6 (lo := 0) (hi := 60) (by decide) rfl
  refine wz_thing (rfl : i3 a1 = i3 a1) (zm_rd (Z := Z) (ν := ν) (k := 11) (show ((0 : Nat) : Int) = 0 from rfl) (show ((0 : Nat) : Int) = 0 from rfl) (show ((6 : Nat) : Int) = 6 from rfl)) (by omega) (by omega) (by omega) (by omega) (fun h2 => ?_) (fun h2 => ?_)
  · replace hP := zE_p hP h2
    refine wz_inR (rfl : i3 a2 = i3 a2) (show (0 : Int32) = i3 0 from rfl) (show (20 : Int32) = i3 20 from rfl) (by omega) (by omega) (by omega) (by omega) (by omega) (by omega) (fun h3 => ?_) (fun h3 => ?_)
    · replace hP := zE_p hP h3
      refine wz_i0 (i3O (n := 60) (rfl : i3 a1 = i3 a1) (by omega) (by omega) (by omega)) ?_
      obtain ⟨v4, hv4, c9, lv4, uv4⟩ := sp_36 (ν := ν) hZ 0 0 _ (i3I (y := a1) (rfl : i3 a1 = i3 a1) (by omega) (by omega) (by omega)) (by omega) (a2 := a2) (by omega) (zbh (c := 0) (k := 0) hM (Nat.le_of_ble_eq_true rfl))
      replace hP := zl_e hP hv4
      refine wz_cI_of (zas (zcons rfl (zcons rfl (zcons (zvi (rfl : i3 a2 = i3 a2)) rfl))) c9) ?_
      clear c9
      exact zlG hP (rfl : i3 v4 = i3 v4) ⟨hZ, zC_r, zU_r, zG_w zG_r (Nat.le_of_ble_eq_true rfl) (Nat.le_of_ble_eq_true rfl)⟩
    · replace hP := zE_n hP h3
      exact zlGe (E := 12) hP ⟨hZ, zC_r, zU_r, zG_w (zG_k rfl) (Nat.le_of_ble_eq_true rfl) (Nat.le_of_ble_eq_true rfl)⟩
  · replace hP := zE_n hP h2
    exact zlGe (E := 23) hP ⟨hZ, zC_r, zU_r, zG_w (zG_k rfl) (Nat.le_of_ble_eq_true rfl) (Nat.le_of_ble_eq_true rfl)⟩
/- yX11_pass -/
def zx_227 (Z : qz_Z) (n9 : Int) (a1 : Int) : qz_Z × Int × Int := (if 1 ≤ a1 ∧ a1 ≤ 72 then (if 671 < ((Z 11 0 0 13) + a1) then (Z, 0, 15) else (zlet (zdd Z 27 a1 0 0 0 0 0) (fun Z6 => (zlet3 (zf_118 Z6 n9 0 a1) (fun Z9 n12 v10 => (Z9, v10, 0)))))) else (Z, 0, 13))
theorem sx_227 {M : Nat} {Z : qz_Z} {ν : qz_N} (hZ : zH ((none, M) : zSM) Z) (hM : ((none, M) : zSM).2 + 827528 ≤ 1000000000) {n9 : Nat} (hn : ν.2.2.2.1 = n9) {a1 : Int} (ga1 : -2147483648 ≤ a1 ∧ a1 ≤ 2147483647) (hLt0 : zLt 0 Z) : ∃ (Z1 : qz_Z) (ν1 : qz_N) (v E : Int), (Z1, v, E) = zx_227 Z n9 a1 ∧ qf_227 [.inr (.inr (some (0, 0, 0))), .inl (i3 a1)] (zm Z ν) = some (zm Z1 ν1, zoX v E) ∧ (fun Z1 ν1 => zH (zb ((none, M) : zSM) 827528) Z1 ∧ zL [3, 12, 13, 14, 40, 41, 42, 43, 44, 45, 46, 47, 48, 49, 50, 51, 52, 53, 54, 61, 68, 1099, 1100, 1101, 1102, 1103, 1104, 1105, 1106, 1107, 1108, 1109, 1110, 1111, 1112, 1113, 1114, 1115, 1116] [] n9 Z Z1 ∧ zU [0, 2, 3, 4, 5, 6, 7, 8, 9] Z Z1 ∧ zG 44 220 ν ν1) Z1 ν1 := by
  obtain ⟨P, hP⟩ := zx (zx_227 Z n9 a1)
  refine zc_G (Q := fun Z1 ν1 => zH (zb ((none, M) : zSM) 827528) Z1 ∧ zL [3, 12, 13, 14, 40, 41, 42, 43, 44, 45, 46, 47, 48, 49, 50, 51, 52, 53, 54, 61, 68, 1099, 1100, 1101, 1102, 1103, 1104, 1105, 1106, 1107, 1108, 1109, 1110, 1111, 1112, 1113, 1114, 1115, 1116] [] n9 Z Z1 ∧ zU [0, 2, 3, 4, 5, 6, 7, 8, 9] Z Z1 ∧ zG 44 220 ν ν1) hP (fw_227 (i3 a1) _ _ ?_)
  replace hP : zE P (zx_227 Z n9 a1) := hP
  unfold zx_227 at hP
  have hs : ((none, M) : zSM).1 = none := rfl
  refine wz_inR (rfl : i3 a1 = i3 a1) (show (1 : Int32) = i3 1 from rfl) (show (72 : Int32) = i3 72 from rfl) (by omega) (by omega) (by omega) (by omega) (by omega) (by omega) (fun h1 => ?_) (fun h1 => ?_)
  · replace hP := zE_p hP h1
    have r2 := zH_k hZ 11 0 0 13 (lo := 0) (hi := 671) (by decide) rfl
    refine wz_br (i3L (show (671 : Int32) = i3 671 from rfl) (i3A (zm_rd (Z := Z) (ν := ν) (k := 11) (show ((0 : Nat) : Int) = 0 from rfl) (show ((0 : Nat) : Int) = 0 from rfl) (show ((13 : Nat) : Int) = 13 from rfl)) (rfl : i3 a1 = i3 a1)) (by omega) (by omega) (by omega) (by omega)) (fun h3 => ?_) (fun h3 => ?_)
    · replace hP := zE_p hP h3
      refine wz_inT_n (show (0 : Int32) = i3 0 from rfl) (by omega) (by omega) (by omega) ?_
      exact zlGe (E := 14) hP ⟨(zbw (a := 0) (c := 827528) hZ (Nat.le_of_ble_eq_true rfl)), zL_r, zU_r, zG_w (zG_k rfl) (Nat.le_of_ble_eq_true rfl) (Nat.le_of_ble_eq_true rfl)⟩
    · replace hP := zE_n hP h3
      refine wz_inT_y (show (1 : Int32) = i3 1 from rfl) (by omega) (by omega) (by omega) ?_
      refine dc_J (zcons rfl (zcons (zvi (show (27 : Int32) = i3 27 from rfl)) (zcons (zvi (rfl : i3 a1 = i3 a1)) (zcons (zvi (show (0 : Int32) = i3 0 from rfl)) (zcons (zvi (show (0 : Int32) = i3 0 from rfl)) (zcons (zvi (show (0 : Int32) = i3 0 from rfl)) (zcons (zvi (show (0 : Int32) = i3 0 from rfl)) (zcons (zvi (show (0 : Int32) = i3 0 from rfl)) rfl)))))))) (dg (hZ).1 (by omega) (by omega) (by omega) (by omega) (by omega) (by omega) (by omega) ?_)
      have hZ6I := zH_dd hZ (a1 := 27) (a2 := a1) (a3 := 0) (a4 := 0) (a5 := 0) (a6 := 0) (a7 := 0) (by omega) (by omega) (by omega) (by omega) (by omega) (by omega) (by omega)
      have kZ6 : zC [3, 12, 13, 14, 40, 41, 42, 43, 44, 45, 46, 47, 48, 49, 50, 51, 52, 53, 54, 61, 68, 1099, 1100, 1101, 1102, 1103, 1104, 1105, 1106, 1107, 1108, 1109, 1110, 1111, 1112, 1113, 1114, 1115, 1116] Z (zdd Z 27 a1 0 0 0 0 0) := zC_k zdd_K (by decide) (by decide)
      have hZ6A : (zdd Z 27 a1 0 0 0 0 0) 68 0 0 0 = 27 ∧ (zdd Z 27 a1 0 0 0 0 0) 68 0 0 1 = a1 ∧ (zdd Z 27 a1 0 0 0 0 0) 68 0 0 2 = 0 ∧ (zdd Z 27 a1 0 0 0 0 0) 68 0 0 3 = 0 ∧ (zdd Z 27 a1 0 0 0 0 0) 68 0 0 4 = 0 ∧ (zdd Z 27 a1 0 0 0 0 0) 68 0 0 5 = 0 ∧ (zdd Z 27 a1 0 0 0 0 0) 68 0 0 6 = 0 := ⟨zdd_68, zdd_68, zdd_68, zdd_68, zdd_68, zdd_68, zdd_68⟩
      obtain ⟨Z6, hZ6⟩ := zx (zdd Z 27 a1 0 0 0 0 0)
      have dZ6 : ∀ {k : Nat} {i j : Int}, zhall k = true → ¬ (k = 11 ∧ (j = 15 ∨ j = 16)) → Z6 k 0 i j = Z k 0 i j := fun hk hj => by rw [hZ6]; exact zdd_h (hZ).1 hk hj
      have jZ6 : zU [0, 2, 3, 4, 5, 6, 7, 8, 9] Z (zdd Z 27 a1 0 0 0 0 0) := zU_dd (hZ).1
      rw [← hZ6] at hZ6I kZ6 jZ6 hZ6A ⊢
      have hZ6U : zU [0, 2, 3, 4, 5, 6, 7, 8, 9] Z Z6 := zU_t zU_r jZ6 (zU_b1 (List.Mem.head _) (zU_b1 (List.Mem.tail _ (List.Mem.head _)) (zU_b1 (List.Mem.tail _ (List.Mem.tail _ (List.Mem.head _))) (zU_b1 (List.Mem.tail _ (List.Mem.tail _ (List.Mem.tail _ (List.Mem.head _)))) (zU_b1 (List.Mem.tail _ (List.Mem.tail _ (List.Mem.tail _ (List.Mem.tail _ (List.Mem.head _))))) (zU_b1 (List.Mem.tail _ (List.Mem.tail _ (List.Mem.tail _ (List.Mem.tail _ (List.Mem.tail _ (List.Mem.head _)))))) (zU_b1 (List.Mem.tail _ (List.Mem.tail _ (List.Mem.tail _ (List.Mem.tail _ (List.Mem.tail _ (List.Mem.tail _ (List.Mem.head _))))))) (zU_b1 (List.Mem.tail _ (List.Mem.tail _ (List.Mem.tail _ (List.Mem.tail _ (List.Mem.tail _ (List.Mem.tail _ (List.Mem.tail _ (List.Mem.head _)))))))) (zU_b1 (List.Mem.tail _ (List.Mem.tail _ (List.Mem.tail _ (List.Mem.tail _ (List.Mem.tail _ (List.Mem.tail _ (List.Mem.tail _ (List.Mem.tail _ (List.Mem.head _))))))))) zU_b0)))))))))
      replace hP := zl_e hP hZ6
      have hZ6K : zL [3, 12, 13, 14, 40, 41, 42, 43, 44, 45, 46, 47, 48, 49, 50, 51, 52, 53, 54, 61, 68, 1099, 1100, 1101, 1102, 1103, 1104, 1105, 1106, 1107, 1108, 1109, 1110, 1111, 1112, 1113, 1114, 1115, 1116] [] n9 Z Z6 := zL_c zL_r kZ6 (by decide)
      clear kZ6 hZ6
      refine fw_121 _ _ _ _ ?_
      refine wz_i1 rfl ?_
      refine wz_i0 (i3O (n := 7) (show (0 : Int32) = i3 0 from rfl) (by omega) (by omega) (by omega)) ?_
      refine wz_i1 (Eq.trans (i3To (Eq.trans (zm_rd (Z := Z6) (ν := ν) (k := 68) (show ((0 : Nat) : Int) = 0 from rfl) (show ((0 : Nat) : Int) = 0 from rfl) (show ((0 : Nat) : Int) = 0 from rfl)) (congrArg i3 ((hZ6A.1)))) (by omega) (by omega)) (decide_eq_true (by omega))) ?_
      refine wz_i1 rfl ?_
      refine wz_i0 (i3O (n := 7) (show (1 : Int32) = i3 1 from rfl) (by omega) (by omega) (by omega)) ?_
      have r7 := zH_k hZ6I 11 0 0 13 (lo := 0) (hi := 671) (by decide) rfl
      have q8 := dZ6 (k := 11) (i := 0) (j := 13) (by decide) (by omega)
      obtain ⟨Z9, ν11, n12, v10, hv10, c9, hZ9I, kZ9, jZ9, hnν11, gν11, b1ν11, lv10, uv10, tZ9_hb, wv100⟩ := sp_118 (ν := ν) hZ6I hs hn 0 (a1 := a1) (by omega) (show Z6 11 0 0 13 + a1 ≤ 671 from by omega) (zLt_d hLt0 dZ6) (zbh (c := 0) (k := 827528) hM (Nat.le_of_ble_eq_true rfl))
      have hZ9U : zU [0, 2, 3, 4, 5, 6, 7, 8, 9] Z Z9 := zU_t hZ6U jZ9 (zU_b1 (List.Mem.head _) zU_b0)
      have hZ9K : zL [3, 12, 13, 14, 40, 41, 42, 43, 44, 45, 46, 47, 48, 49, 50, 51, 52, 53, 54, 61, 68, 1099, 1100, 1101, 1102, 1103, 1104, 1105, 1106, 1107, 1108, 1109, 1110, 1111, 1112, 1113, 1114, 1115, 1116] [] n9 Z Z9 := zL_t hZ6K kZ9 (by decide) zL_b0 (by omega)
      have r13 := zpt_b Z6 0; have r14 := zpt_b Z9 0
      replace hP := zl_e3 hP hv10
      refine wz_cI_of (zas (zcons rfl (zcons (zvi (Eq.trans (zm_rd (Z := Z6) (ν := ν) (k := 68) (show ((0 : Nat) : Int) = 0 from rfl) (show ((0 : Nat) : Int) = 0 from rfl) (show ((1 : Nat) : Int) = 1 from rfl)) (congrArg i3 ((hZ6A.2.1))))) rfl)) c9) ?_
      clear c9 hv10
      have r15 : zpt Z9 0 + n12 ≤ zpt Z6 0 + n9 := wv100
      have hGν11 := zGl_t (K := 5) zGl_r gν11
      exact zlG hP (rfl : i3 v10 = i3 v10) ⟨hZ9I, hZ9K, hZ9U, zGl_c (c := 44) hGν11 hn hnν11 (by omega) (Nat.le_of_ble_eq_true rfl) (Nat.le_of_ble_eq_true rfl)⟩
  · replace hP := zE_n hP h1
    exact zlGe (E := 12) hP ⟨(zbw (a := 0) (c := 827528) hZ (Nat.le_of_ble_eq_true rfl)), zL_r, zU_r, zG_w (zG_k rfl) (Nat.le_of_ble_eq_true rfl) (Nat.le_of_ble_eq_true rfl)⟩
/- yX11_pay -/
def zx_228 (Z : qz_Z) (a1 : Int) (a2 : Int) : qz_Z × Int × Int := (if 0 ≤ a1 ∧ a1 < (Z 11 0 0 4) then (if 1 ≤ a2 ∧ a2 ≤ 9999999 then (if (99999999 - a2) < (Z 45 0 a1 3) then (Z, 0, 15) else (zlet (zdd Z 13 a1 a2 0 0 0 0) (fun Z8 => (zlet2 (zf_31 Z8 0 a1 a2) (fun Z9 v10 => (Z9, v10, 0)))))) else (Z, 0, 13)) else (Z, 0, 24))
theorem sx_228 {M : Nat} {Z : qz_Z} {ν : qz_N} (hZ : zH ((none, M) : zSM) Z) (hM : ((none, M) : zSM).2 + 1 ≤ 1000000000) {a1 : Int} (ga1 : -2147483648 ≤ a1 ∧ a1 ≤ 2147483647) {a2 : Int} (ga2 : -2147483648 ≤ a2 ∧ a2 ≤ 2147483647) : ∃ (Z1 : qz_Z) (ν1 : qz_N) (v E : Int), (Z1, v, E) = zx_228 Z a1 a2 ∧ qf_228 [.inr (.inr (some (0, 0, 0))), .inl (i3 a1), .inl (i3 a2)] (zm Z ν) = some (zm Z1 ν1, zoX v E) ∧ (fun Z1 ν1 => zH (zb ((none, M) : zSM) 1) Z1 ∧ zC [3, 12, 13, 14, 40, 41, 42, 43, 44, 45, 46, 47, 48, 49, 50, 51, 52, 53, 54, 61, 68, 1099, 1100, 1101, 1102, 1103, 1104, 1105, 1106, 1107, 1108, 1109, 1110, 1111, 1112, 1113, 1114, 1115, 1116] Z Z1 ∧ zU [0, 2, 3, 4, 5, 6, 7, 8, 9] Z Z1 ∧ zG 1 6 ν ν1) Z1 ν1 := by
  obtain ⟨P, hP⟩ := zx (zx_228 Z a1 a2)
  refine zc_G (Q := fun Z1 ν1 => zH (zb ((none, M) : zSM) 1) Z1 ∧ zC [3, 12, 13, 14, 40, 41, 42, 43, 44, 45, 46, 47, 48, 49, 50, 51, 52, 53, 54, 61, 68, 1099, 1100, 1101, 1102, 1103, 1104, 1105, 1106, 1107, 1108, 1109, 1110, 1111, 1112, 1113, 1114, 1115, 1116] Z Z1 ∧ zU [0, 2, 3, 4, 5, 6, 7, 8, 9] Z Z1 ∧ zG 1 6 ν ν1) hP (fw_228 (i3 a1) (i3 a2) _ _ ?_)
  replace hP : zE P (zx_228 Z a1 a2) := hP
  unfold zx_228 at hP
  have r1 := zH_k hZ 11 0 0 4 (lo := 0) (hi := 8) (by decide) rfl
  refine wz_thing (rfl : i3 a1 = i3 a1) (zm_rd (Z := Z) (ν := ν) (k := 11) (show ((0 : Nat) : Int) = 0 from rfl) (show ((0 : Nat) : Int) = 0 from rfl) (show ((4 : Nat) : Int) = 4 from rfl)) (by omega) (by omega) (by omega) (by omega) (fun h2 => ?_) (fun h2 => ?_)
  · replace hP := zE_p hP h2
    refine wz_inR (rfl : i3 a2 = i3 a2) (show (1 : Int32) = i3 1 from rfl) (show (9999999 : Int32) = i3 9999999 from rfl) (by omega) (by omega) (by omega) (by omega) (by omega) (by omega) (fun h3 => ?_) (fun h3 => ?_)
    · replace hP := zE_p hP h3
      refine wz_i0 (i3O (n := 8) (rfl : i3 a1 = i3 a1) (by omega) (by omega) (by omega)) ?_
      have r4 := zH_f hZ 45 0 a1 3
      refine wz_br (i3L (i3S (show (99999999 : Int32) = i3 99999999 from rfl) (rfl : i3 a2 = i3 a2)) (zm_rd (Z := Z) (ν := ν) (k := 45) (show ((0 : Nat) : Int) = 0 from rfl) (i3I (y := a1) (rfl : i3 a1 = i3 a1) (by omega) (by omega) (by omega)) (show ((3 : Nat) : Int) = 3 from rfl)) (by omega) (by omega) (by omega) (by omega)) (fun h5 => ?_) (fun h5 => ?_)
      · replace hP := zE_p hP h5
        refine wz_inT_n (show (0 : Int32) = i3 0 from rfl) (by omega) (by omega) (by omega) ?_
        exact zlGe (E := 14) hP ⟨(zbw (a := 0) (c := 1) hZ (Nat.le_of_ble_eq_true rfl)), zC_r, zU_r, zG_w (zG_k rfl) (Nat.le_of_ble_eq_true rfl) (Nat.le_of_ble_eq_true rfl)⟩
      · replace hP := zE_n hP h5
        refine wz_inT_y (show (1 : Int32) = i3 1 from rfl) (by omega) (by omega) (by omega) ?_
        refine dc_J (zcons rfl (zcons (zvi (show (13 : Int32) = i3 13 from rfl)) (zcons (zvi (rfl : i3 a1 = i3 a1)) (zcons (zvi (rfl : i3 a2 = i3 a2)) (zcons (zvi (show (0 : Int32) = i3 0 from rfl)) (zcons (zvi (show (0 : Int32) = i3 0 from rfl)) (zcons (zvi (show (0 : Int32) = i3 0 from rfl)) (zcons (zvi (show (0 : Int32) = i3 0 from rfl)) rfl)))))))) (dg (hZ).1 (by omega) (by omega) (by omega) (by omega) (by omega) (by omega) (by omega) ?_)
        have hZ8I := zH_dd hZ (a1 := 13) (a2 := a1) (a3 := a2) (a4 := 0) (a5 := 0) (a6 := 0) (a7 := 0) (by omega) (by omega) (by omega) (by omega) (by omega) (by omega) (by omega)
        have kZ8 : zC [3, 12, 13, 14, 40, 41, 42, 43, 44, 45, 46, 47, 48, 49, 50, 51, 52, 53, 54, 61, 68, 1099, 1100, 1101, 1102, 1103, 1104, 1105, 1106, 1107, 1108, 1109, 1110, 1111, 1112, 1113, 1114, 1115, 1116] Z (zdd Z 13 a1 a2 0 0 0 0) := zC_k zdd_K (by decide) (by decide)
        have hZ8A : (zdd Z 13 a1 a2 0 0 0 0) 68 0 0 0 = 13 ∧ (zdd Z 13 a1 a2 0 0 0 0) 68 0 0 1 = a1 ∧ (zdd Z 13 a1 a2 0 0 0 0) 68 0 0 2 = a2 ∧ (zdd Z 13 a1 a2 0 0 0 0) 68 0 0 3 = 0 ∧ (zdd Z 13 a1 a2 0 0 0 0) 68 0 0 4 = 0 ∧ (zdd Z 13 a1 a2 0 0 0 0) 68 0 0 5 = 0 ∧ (zdd Z 13 a1 a2 0 0 0 0) 68 0 0 6 = 0 := ⟨zdd_68, zdd_68, zdd_68, zdd_68, zdd_68, zdd_68, zdd_68⟩
        obtain ⟨Z8, hZ8⟩ := zx (zdd Z 13 a1 a2 0 0 0 0)
        have dZ8 : ∀ {k : Nat} {i j : Int}, zhall k = true → ¬ (k = 11 ∧ (j = 15 ∨ j = 16)) → Z8 k 0 i j = Z k 0 i j := fun hk hj => by rw [hZ8]; exact zdd_h (hZ).1 hk hj
        have jZ8 : zU [0, 2, 3, 4, 5, 6, 7, 8, 9] Z (zdd Z 13 a1 a2 0 0 0 0) := zU_dd (hZ).1
        rw [← hZ8] at hZ8I kZ8 jZ8 hZ8A ⊢
        have hZ8U : zU [0, 2, 3, 4, 5, 6, 7, 8, 9] Z Z8 := zU_t zU_r jZ8 (zU_b1 (List.Mem.head _) (zU_b1 (List.Mem.tail _ (List.Mem.head _)) (zU_b1 (List.Mem.tail _ (List.Mem.tail _ (List.Mem.head _))) (zU_b1 (List.Mem.tail _ (List.Mem.tail _ (List.Mem.tail _ (List.Mem.head _)))) (zU_b1 (List.Mem.tail _ (List.Mem.tail _ (List.Mem.tail _ (List.Mem.tail _ (List.Mem.head _))))) (zU_b1 (List.Mem.tail _ (List.Mem.tail _ (List.Mem.tail _ (List.Mem.tail _ (List.Mem.tail _ (List.Mem.head _)))))) (zU_b1 (List.Mem.tail _ (List.Mem.tail _ (List.Mem.tail _ (List.Mem.tail _ (List.Mem.tail _ (List.Mem.tail _ (List.Mem.head _))))))) (zU_b1 (List.Mem.tail _ (List.Mem.tail _ (List.Mem.tail _ (List.Mem.tail _ (List.Mem.tail _ (List.Mem.tail _ (List.Mem.tail _ (List.Mem.head _)))))))) (zU_b1 (List.Mem.tail _ (List.Mem.tail _ (List.Mem.tail _ (List.Mem.tail _ (List.Mem.tail _ (List.Mem.tail _ (List.Mem.tail _ (List.Mem.tail _ (List.Mem.head _))))))))) zU_b0)))))))))
        replace hP := zl_e hP hZ8
        have hZ8K : zC [3, 12, 13, 14, 40, 41, 42, 43, 44, 45, 46, 47, 48, 49, 50, 51, 52, 53, 54, 61, 68, 1099, 1100, 1101, 1102, 1103, 1104, 1105, 1106, 1107, 1108, 1109, 1110, 1111, 1112, 1113, 1114, 1115, 1116] Z Z8 := zC_t zC_r kZ8 (by decide)
        clear kZ8 hZ8
        refine fw_121 _ _ _ _ ?_
        refine wz_i1 rfl ?_
        refine wz_i0 (i3O (n := 7) (show (0 : Int32) = i3 0 from rfl) (by omega) (by omega) (by omega)) ?_
        refine wz_i0 (Eq.trans (i3To (Eq.trans (zm_rd (Z := Z8) (ν := ν) (k := 68) (show ((0 : Nat) : Int) = 0 from rfl) (show ((0 : Nat) : Int) = 0 from rfl) (show ((0 : Nat) : Int) = 0 from rfl)) (congrArg i3 ((hZ8A.1)))) (by omega) (by omega)) (decide_eq_false (by omega))) ?_
        refine wz_i0 (Eq.trans (i3T (Eq.trans (zm_rd (Z := Z8) (ν := ν) (k := 68) (show ((0 : Nat) : Int) = 0 from rfl) (show ((0 : Nat) : Int) = 0 from rfl) (show ((0 : Nat) : Int) = 0 from rfl)) (congrArg i3 ((hZ8A.1)))) (by omega) (by omega)) (decide_eq_false (by omega))) ?_
        refine wz_i0 (Eq.trans (i3T (Eq.trans (zm_rd (Z := Z8) (ν := ν) (k := 68) (show ((0 : Nat) : Int) = 0 from rfl) (show ((0 : Nat) : Int) = 0 from rfl) (show ((0 : Nat) : Int) = 0 from rfl)) (congrArg i3 ((hZ8A.1)))) (by omega) (by omega)) (decide_eq_false (by omega))) ?_
        refine wz_i0 (Eq.trans (i3T (Eq.trans (zm_rd (Z := Z8) (ν := ν) (k := 68) (show ((0 : Nat) : Int) = 0 from rfl) (show ((0 : Nat) : Int) = 0 from rfl) (show ((0 : Nat) : Int) = 0 from rfl)) (congrArg i3 ((hZ8A.1)))) (by omega) (by omega)) (decide_eq_false (by omega))) ?_
        refine wz_i0 (Eq.trans (i3T (Eq.trans (zm_rd (Z := Z8) (ν := ν) (k := 68) (show ((0 : Nat) : Int) = 0 from rfl) (show ((0 : Nat) : Int) = 0 from rfl) (show ((0 : Nat) : Int) = 0 from rfl)) (congrArg i3 ((hZ8A.1)))) (by omega) (by omega)) (decide_eq_false (by omega))) ?_
        refine wz_i0 (Eq.trans (i3T (Eq.trans (zm_rd (Z := Z8) (ν := ν) (k := 68) (show ((0 : Nat) : Int) = 0 from rfl) (show ((0 : Nat) : Int) = 0 from rfl) (show ((0 : Nat) : Int) = 0 from rfl)) (congrArg i3 ((hZ8A.1)))) (by omega) (by omega)) (decide_eq_false (by omega))) ?_
        refine wz_i0 (Eq.trans (i3T (Eq.trans (zm_rd (Z := Z8) (ν := ν) (k := 68) (show ((0 : Nat) : Int) = 0 from rfl) (show ((0 : Nat) : Int) = 0 from rfl) (show ((0 : Nat) : Int) = 0 from rfl)) (congrArg i3 ((hZ8A.1)))) (by omega) (by omega)) (decide_eq_false (by omega))) ?_
        refine wz_i0 (Eq.trans (i3T (Eq.trans (zm_rd (Z := Z8) (ν := ν) (k := 68) (show ((0 : Nat) : Int) = 0 from rfl) (show ((0 : Nat) : Int) = 0 from rfl) (show ((0 : Nat) : Int) = 0 from rfl)) (congrArg i3 ((hZ8A.1)))) (by omega) (by omega)) (decide_eq_false (by omega))) ?_
        refine wz_i0 (Eq.trans (i3T (Eq.trans (zm_rd (Z := Z8) (ν := ν) (k := 68) (show ((0 : Nat) : Int) = 0 from rfl) (show ((0 : Nat) : Int) = 0 from rfl) (show ((0 : Nat) : Int) = 0 from rfl)) (congrArg i3 ((hZ8A.1)))) (by omega) (by omega)) (decide_eq_false (by omega))) ?_
        refine wz_i0 (Eq.trans (i3T (Eq.trans (zm_rd (Z := Z8) (ν := ν) (k := 68) (show ((0 : Nat) : Int) = 0 from rfl) (show ((0 : Nat) : Int) = 0 from rfl) (show ((0 : Nat) : Int) = 0 from rfl)) (congrArg i3 ((hZ8A.1)))) (by omega) (by omega)) (decide_eq_false (by omega))) ?_
        refine wz_i0 (Eq.trans (i3T (Eq.trans (zm_rd (Z := Z8) (ν := ν) (k := 68) (show ((0 : Nat) : Int) = 0 from rfl) (show ((0 : Nat) : Int) = 0 from rfl) (show ((0 : Nat) : Int) = 0 from rfl)) (congrArg i3 ((hZ8A.1)))) (by omega) (by omega)) (decide_eq_false (by omega))) ?_
        refine wz_i0 (Eq.trans (i3T (Eq.trans (zm_rd (Z := Z8) (ν := ν) (k := 68) (show ((0 : Nat) : Int) = 0 from rfl) (show ((0 : Nat) : Int) = 0 from rfl) (show ((0 : Nat) : Int) = 0 from rfl)) (congrArg i3 ((hZ8A.1)))) (by omega) (by omega)) (decide_eq_false (by omega))) ?_
        refine wz_i0 (Eq.trans (i3T (Eq.trans (zm_rd (Z := Z8) (ν := ν) (k := 68) (show ((0 : Nat) : Int) = 0 from rfl) (show ((0 : Nat) : Int) = 0 from rfl) (show ((0 : Nat) : Int) = 0 from rfl)) (congrArg i3 ((hZ8A.1)))) (by omega) (by omega)) (decide_eq_false (by omega))) ?_
        refine wz_i0 (Eq.trans (i3T (Eq.trans (zm_rd (Z := Z8) (ν := ν) (k := 68) (show ((0 : Nat) : Int) = 0 from rfl) (show ((0 : Nat) : Int) = 0 from rfl) (show ((0 : Nat) : Int) = 0 from rfl)) (congrArg i3 ((hZ8A.1)))) (by omega) (by omega)) (decide_eq_false (by omega))) ?_
        refine wz_i1 (Eq.trans (i3T (Eq.trans (zm_rd (Z := Z8) (ν := ν) (k := 68) (show ((0 : Nat) : Int) = 0 from rfl) (show ((0 : Nat) : Int) = 0 from rfl) (show ((0 : Nat) : Int) = 0 from rfl)) (congrArg i3 ((hZ8A.1)))) (by omega) (by omega)) (decide_eq_true (by omega))) ?_
        refine wz_i1 rfl ?_
        refine wz_i0 (i3O (n := 7) (show (1 : Int32) = i3 1 from rfl) (by omega) (by omega) (by omega)) ?_
        refine wz_i1 rfl ?_
        refine wz_i0 (i3O (n := 7) (show (2 : Int32) = i3 2 from rfl) (by omega) (by omega) (by omega)) ?_
        obtain ⟨Z9, v10, hv10, c9, hZ9I, kZ9, jZ9, lv10, uv10⟩ := sp_31 (ν := ν) hZ8I 0 (a1 := a1) (by omega) (a2 := a2) (by omega) (zbh (c := 0) (k := 1) hM (Nat.le_of_ble_eq_true rfl))
        have hZ9U : zU [0, 2, 3, 4, 5, 6, 7, 8, 9] Z Z9 := zU_t hZ8U jZ9 (zU_b1 (List.Mem.head _) zU_b0)
        have hZ9K : zC [3, 12, 13, 14, 40, 41, 42, 43, 44, 45, 46, 47, 48, 49, 50, 51, 52, 53, 54, 61, 68, 1099, 1100, 1101, 1102, 1103, 1104, 1105, 1106, 1107, 1108, 1109, 1110, 1111, 1112, 1113, 1114, 1115, 1116] Z Z9 := zC_t hZ8K kZ9 (by decide)
        replace hP := zl_e2 hP hv10
        refine wz_cI_of (zas (zcons rfl (zcons (zvi (Eq.trans (zm_rd (Z := Z8) (ν := ν) (k := 68) (show ((0 : Nat) : Int) = 0 from rfl) (show ((0 : Nat) : Int) = 0 from rfl) (show ((1 : Nat) : Int) = 1 from rfl)) (congrArg i3 ((hZ8A.2.1))))) (zcons (zvi (Eq.trans (zm_rd (Z := Z8) (ν := ν) (k := 68) (show ((0 : Nat) : Int) = 0 from rfl) (show ((0 : Nat) : Int) = 0 from rfl) (show ((2 : Nat) : Int) = 2 from rfl)) (congrArg i3 ((hZ8A.2.2.1))))) rfl))) c9) ?_
        clear c9 hv10
        exact zlG hP (rfl : i3 v10 = i3 v10) ⟨hZ9I, hZ9K, hZ9U, zG_w zG_r (Nat.le_of_ble_eq_true rfl) (Nat.le_of_ble_eq_true rfl)⟩
    · replace hP := zE_n hP h3
      exact zlGe (E := 12) hP ⟨(zbw (a := 0) (c := 1) hZ (Nat.le_of_ble_eq_true rfl)), zC_r, zU_r, zG_w (zG_k rfl) (Nat.le_of_ble_eq_true rfl) (Nat.le_of_ble_eq_true rfl)⟩
  · replace hP := zE_n hP h2
    exact zlGe (E := 23) hP ⟨(zbw (a := 0) (c := 1) hZ (Nat.le_of_ble_eq_true rfl)), zC_r, zU_r, zG_w (zG_k rfl) (Nat.le_of_ble_eq_true rfl) (Nat.le_of_ble_eq_true rfl)⟩
/- yX10_putFault -/
def zf_178 (Z : qz_Z) (a0b : Int) (a1 : Int) (a2 : Int) : Int := (if a1 < 0 then 1 else (if (Z 11 a0b 0 3) ≤ a1 then 1 else (if a2 < (-1) then 1 else (if a2 < (Z 11 a0b 0 2) then (if a2 ≠ (-1) then (if (Z 44 a0b a1 10) = 0 then (if (Z 44 a0b a1 12) = a2 then 3 else (if (Z 44 a0b a1 12) < 0 then (if (Z 11 a0b 0 2) ≤ a2 then (zlet (zf_182 Z a0b a2) (fun v14 => (if ((Z 43 a0b a2 0) - v14) ≤ 0 then 3 else 0))) else (if (Z 43 a0b a2 10) ≤ (Z 11 a0b 0 13) then (zlet (zf_182 Z a0b a2) (fun v20 => (if ((Z 43 a0b a2 0) - v20) ≤ 0 then 3 else 0))) else 3)) else (if (Z 11 a0b 0 2) ≤ (Z 44 a0b a1 12) then (if (Z 11 a0b 0 2) ≤ a2 then (zlet (zf_182 Z a0b a2) (fun v25 => (if ((Z 43 a0b a2 0) - v25) ≤ 0 then 3 else 0))) else (if (Z 43 a0b a2 10) ≤ (Z 11 a0b 0 13) then (zlet (zf_182 Z a0b a2) (fun v31 => (if ((Z 43 a0b a2 0) - v31) ≤ 0 then 3 else 0))) else 3)) else (if (Z 43 a0b (Z 44 a0b a1 12) 10) ≤ (Z 11 a0b 0 13) then (if (Z 11 a0b 0 2) ≤ a2 then (zlet (zf_182 Z a0b a2) (fun v38 => (if ((Z 43 a0b a2 0) - v38) ≤ 0 then 3 else 0))) else (if (Z 43 a0b a2 10) ≤ (Z 11 a0b 0 13) then (zlet (zf_182 Z a0b a2) (fun v43 => (if ((Z 43 a0b a2 0) - v43) ≤ 0 then 3 else 0))) else 3)) else 3)))) else (if (Z 44 a0b a1 10) ≠ 1 then 3 else (if (Z 44 a0b a1 12) = a2 then 3 else (if (Z 44 a0b a1 12) < 0 then (if (Z 11 a0b 0 2) ≤ a2 then (zlet (zf_182 Z a0b a2) (fun v51 => (if ((Z 43 a0b a2 0) - v51) ≤ 0 then 3 else 0))) else (if (Z 43 a0b a2 10) ≤ (Z 11 a0b 0 13) then (zlet (zf_182 Z a0b a2) (fun v57 => (if ((Z 43 a0b a2 0) - v57) ≤ 0 then 3 else 0))) else 3)) else (if (Z 11 a0b 0 2) ≤ (Z 44 a0b a1 12) then (if (Z 11 a0b 0 2) ≤ a2 then (zlet (zf_182 Z a0b a2) (fun v62 => (if ((Z 43 a0b a2 0) - v62) ≤ 0 then 3 else 0))) else (if (Z 43 a0b a2 10) ≤ (Z 11 a0b 0 13) then (zlet (zf_182 Z a0b a2) (fun v68 => (if ((Z 43 a0b a2 0) - v68) ≤ 0 then 3 else 0))) else 3)) else (if (Z 43 a0b (Z 44 a0b a1 12) 10) ≤ (Z 11 a0b 0 13) then (if (Z 11 a0b 0 2) ≤ a2 then (zlet (zf_182 Z a0b a2) (fun v75 => (if ((Z 43 a0b a2 0) - v75) ≤ 0 then 3 else 0))) else (if (Z 43 a0b a2 10) ≤ (Z 11 a0b 0 13) then (zlet (zf_182 Z a0b a2) (fun v80 => (if ((Z 43 a0b a2 0) - v80) ≤ 0 then 3 else 0))) else 3)) else 3)))))) else (if (Z 44 a0b a1 10) = 0 then (if (Z 44 a0b a1 12) = 6 then 3 else (if (Z 44 a0b a1 12) < 0 then (zlet (zf_182 Z a0b 6) (fun v88 => (if (12 - v88) ≤ 0 then 3 else 0))) else (if (Z 11 a0b 0 2) ≤ (Z 44 a0b a1 12) then (zlet (zf_182 Z a0b 6) (fun v91 => (if (12 - v91) ≤ 0 then 3 else 0))) else (if (Z 43 a0b (Z 44 a0b a1 12) 10) ≤ (Z 11 a0b 0 13) then (zlet (zf_182 Z a0b 6) (fun v96 => (if (12 - v96) ≤ 0 then 3 else 0))) else 3)))) else (if (Z 44 a0b a1 10) ≠ 1 then 3 else (if (Z 44 a0b a1 12) = 6 then 3 else (if (Z 44 a0b a1 12) < 0 then (zlet (zf_182 Z a0b 6) (fun v102 => (if (12 - v102) ≤ 0 then 3 else 0))) else (if (Z 11 a0b 0 2) ≤ (Z 44 a0b a1 12) then (zlet (zf_182 Z a0b 6) (fun v105 => (if (12 - v105) ≤ 0 then 3 else 0))) else (if (Z 43 a0b (Z 44 a0b a1 12) 10) ≤ (Z 11 a0b 0 13) then (zlet (zf_182 Z a0b 6) (fun v110 => (if (12 - v110) ≤ 0 then 3 else 0))) else 3))))))) else 1))))
theorem sp_178 {s : zSM} {Z : qz_Z} {ν : qz_N} (hZ : zH s Z) (a0b : Nat) {a1 : Int} (ga1 : -2147483648 ≤ a1 ∧ a1 ≤ 2147483647) {a2 : Int} (ga2 : -2147483648 ≤ a2 ∧ a2 ≤ 2147483647) (hM : s.2 + 0 ≤ 1000000000) : ∃ P : Int, P = zf_178 Z a0b a1 a2 ∧ (qf_178 [.inr (.inr (some (10, a0b, 0))), .inl (i3 a1), .inl (i3 a2)] (zm Z ν) = some (zm Z ν, .inl (some (.inl (i3 P)))) ∧ 0 ≤ P ∧ P ≤ 3) := by
  obtain ⟨P, hP⟩ := zx (zf_178 Z a0b a1 a2)
  refine zc_R (Q := fun P => 0 ≤ P ∧ P ≤ 3) hP (fw_178 a0b (i3 a1) (i3 a2) _ _ ?_)
  replace hP : zE P (zf_178 Z a0b a1 a2) := hP
  unfold zf_178 at hP
  refine wz_br (i3L (rfl : i3 a1 = i3 a1) (show (0 : Int32) = i3 0 from rfl) (by omega) (by omega) (by omega) (by omega)) (fun h1 => ?_) (fun h1 => ?_)
  · replace hP := zE_p hP h1
    exact zlR hP (show (1 : Int32) = i3 1 from rfl) ⟨by omega, by omega⟩
  · replace hP := zE_n hP h1
    have r2 := zH_k hZ 11 a0b 0 3 (lo := 0) (hi := 48) (by decide) rfl
    refine wz_br (i3Le (zm_rd (Z := Z) (ν := ν) (k := 11) (rfl : ((a0b : Nat) : Int) = a0b) (show ((0 : Nat) : Int) = 0 from rfl) (show ((3 : Nat) : Int) = 3 from rfl)) (rfl : i3 a1 = i3 a1) (by omega) (by omega) (by omega) (by omega)) (fun h3 => ?_) (fun h3 => ?_)
    · replace hP := zE_p hP h3
      exact zlR hP (show (1 : Int32) = i3 1 from rfl) ⟨by omega, by omega⟩
    · replace hP := zE_n hP h3
      refine wz_br (i3L (rfl : i3 a2 = i3 a2) (show (-1 : Int32) = i3 (-1) from rfl) (by omega) (by omega) (by omega) (by omega)) (fun h4 => ?_) (fun h4 => ?_)
      · replace hP := zE_p hP h4
        exact zlR hP (show (1 : Int32) = i3 1 from rfl) ⟨by omega, by omega⟩
      · replace hP := zE_n hP h4
        have r5 := zH_k hZ 11 a0b 0 2 (lo := 0) (hi := 6) (by decide) rfl
        refine wz_br (i3L (rfl : i3 a2 = i3 a2) (zm_rd (Z := Z) (ν := ν) (k := 11) (rfl : ((a0b : Nat) : Int) = a0b) (show ((0 : Nat) : Int) = 0 from rfl) (show ((2 : Nat) : Int) = 2 from rfl)) (by omega) (by omega) (by omega) (by omega)) (fun h6 => ?_) (fun h6 => ?_)
        · replace hP := zE_p hP h6
          refine wz_i0 (i3O (n := 48) (rfl : i3 a1 = i3 a1) (by omega) (by omega) (by omega)) ?_
          refine wz_br (i3NE (rfl : i3 a2 = i3 a2) (show (-1 : Int32) = i3 (-1) from rfl) (by omega) (by omega) (by omega) (by omega)) (fun h7 => ?_) (fun h7 => ?_)
          · replace hP := zE_p hP h7
            have r8 := zH_k hZ 44 a0b a1 10 (lo := 0) (hi := 4) (by decide) rfl
            refine wz_br (i3E (zm_rd (Z := Z) (ν := ν) (k := 44) (rfl : ((a0b : Nat) : Int) = a0b) (i3I (y := a1) (rfl : i3 a1 = i3 a1) (by omega) (by omega) (by omega)) (show ((10 : Nat) : Int) = 10 from rfl)) (show (0 : Int32) = i3 0 from rfl) (by omega) (by omega) (by omega) (by omega)) (fun h9 => ?_) (fun h9 => ?_)
            · replace hP := zE_p hP h9
              have r10 := zH_k hZ 44 a0b a1 12 (lo := -1) (hi := 6) (by decide) rfl
              refine wz_br (i3E (zm_rd (Z := Z) (ν := ν) (k := 44) (rfl : ((a0b : Nat) : Int) = a0b) (i3I (y := a1) (rfl : i3 a1 = i3 a1) (by omega) (by omega) (by omega)) (show ((12 : Nat) : Int) = 12 from rfl)) (rfl : i3 a2 = i3 a2) (by omega) (by omega) (by omega) (by omega)) (fun h11 => ?_) (fun h11 => ?_)
              · replace hP := zE_p hP h11
                exact zlR hP (show (3 : Int32) = i3 3 from rfl) ⟨by omega, by omega⟩
              · replace hP := zE_n hP h11
                refine wz_br (i3L (zm_rd (Z := Z) (ν := ν) (k := 44) (rfl : ((a0b : Nat) : Int) = a0b) (i3I (y := a1) (rfl : i3 a1 = i3 a1) (by omega) (by omega) (by omega)) (show ((12 : Nat) : Int) = 12 from rfl)) (show (0 : Int32) = i3 0 from rfl) (by omega) (by omega) (by omega) (by omega)) (fun h12 => ?_) (fun h12 => ?_)
                · replace hP := zE_p hP h12
                  refine wz_i0 (Eq.trans (i3L (rfl : i3 a2 = i3 a2) (show (0 : Int32) = i3 0 from rfl) (by omega) (by omega) (by omega) (by omega)) (decide_eq_false (by omega))) ?_
                  refine wz_br (i3Le (zm_rd (Z := Z) (ν := ν) (k := 11) (rfl : ((a0b : Nat) : Int) = a0b) (show ((0 : Nat) : Int) = 0 from rfl) (show ((2 : Nat) : Int) = 2 from rfl)) (rfl : i3 a2 = i3 a2) (by omega) (by omega) (by omega) (by omega)) (fun h13 => ?_) (fun h13 => ?_)
                  · replace hP := zE_p hP h13
                    refine wz_i1 (Eq.trans (i3NE (rfl : i3 a2 = i3 a2) (show (6 : Int32) = i3 6 from rfl) (by omega) (by omega) (by omega) (by omega)) (decide_eq_true (by omega))) ?_
                    refine wz_i0 (i3O (n := 6) (rfl : i3 a2 = i3 a2) (by omega) (by omega) (by omega)) ?_
                    obtain ⟨v14, hv14, c9, lv14, uv14⟩ := sp_182 (ν := ν) hZ a0b (a1 := a2) (by omega) (zbh (c := 0) (k := 0) hM (Nat.le_of_ble_eq_true rfl))
                    replace hP := zl_e hP hv14
                    refine wz_cI_of (zas (zcons rfl (zcons (zvi (rfl : i3 a2 = i3 a2)) rfl)) c9) ?_
                    clear c9
                    have r15 := zH_k hZ 43 a0b a2 0 (lo := 0) (hi := 12) (by decide) rfl
                    refine wz_br (i3Le (i3S (zm_rd (Z := Z) (ν := ν) (k := 43) (rfl : ((a0b : Nat) : Int) = a0b) (i3I (y := a2) (rfl : i3 a2 = i3 a2) (by omega) (by omega) (by omega)) (show ((0 : Nat) : Int) = 0 from rfl)) (rfl : i3 v14 = i3 v14)) (show (0 : Int32) = i3 0 from rfl) (by omega) (by omega) (by omega) (by omega)) (fun h16 => ?_) (fun h16 => ?_)
                    · replace hP := zE_p hP h16
                      exact zlR hP (show (3 : Int32) = i3 3 from rfl) ⟨by omega, by omega⟩
                    · replace hP := zE_n hP h16
                      exact zlR hP (show (0 : Int32) = i3 0 from rfl) ⟨by omega, by omega⟩
                  · replace hP := zE_n hP h13
                    refine wz_i0 (i3O (n := 6) (rfl : i3 a2 = i3 a2) (by omega) (by omega) (by omega)) ?_
                    have r17 := zH_k hZ 43 a0b a2 10 (lo := -1) (hi := 695) (by decide) rfl
                    have r18 := zH_k hZ 11 a0b 0 13 (lo := 0) (hi := 671) (by decide) rfl
                    refine wz_br (i3Le (zm_rd (Z := Z) (ν := ν) (k := 43) (rfl : ((a0b : Nat) : Int) = a0b) (i3I (y := a2) (rfl : i3 a2 = i3 a2) (by omega) (by omega) (by omega)) (show ((10 : Nat) : Int) = 10 from rfl)) (zm_rd (Z := Z) (ν := ν) (k := 11) (rfl : ((a0b : Nat) : Int) = a0b) (show ((0 : Nat) : Int) = 0 from rfl) (show ((13 : Nat) : Int) = 13 from rfl)) (by omega) (by omega) (by omega) (by omega)) (fun h19 => ?_) (fun h19 => ?_)
                    · replace hP := zE_p hP h19
                      refine wz_i1 (Eq.trans (i3NE (rfl : i3 a2 = i3 a2) (show (6 : Int32) = i3 6 from rfl) (by omega) (by omega) (by omega) (by omega)) (decide_eq_true (by omega))) ?_
                      refine wz_i0 (i3O (n := 6) (rfl : i3 a2 = i3 a2) (by omega) (by omega) (by omega)) ?_
                      obtain ⟨v20, hv20, c9, lv20, uv20⟩ := sp_182 (ν := ν) hZ a0b (a1 := a2) (by omega) (zbh (c := 0) (k := 0) hM (Nat.le_of_ble_eq_true rfl))
                      replace hP := zl_e hP hv20
                      refine wz_cI_of (zas (zcons rfl (zcons (zvi (rfl : i3 a2 = i3 a2)) rfl)) c9) ?_
                      clear c9
                      have r21 := zH_k hZ 43 a0b a2 0 (lo := 0) (hi := 12) (by decide) rfl
                      refine wz_br (i3Le (i3S (zm_rd (Z := Z) (ν := ν) (k := 43) (rfl : ((a0b : Nat) : Int) = a0b) (i3I (y := a2) (rfl : i3 a2 = i3 a2) (by omega) (by omega) (by omega)) (show ((0 : Nat) : Int) = 0 from rfl)) (rfl : i3 v20 = i3 v20)) (show (0 : Int32) = i3 0 from rfl) (by omega) (by omega) (by omega) (by omega)) (fun h22 => ?_) (fun h22 => ?_)
                      · replace hP := zE_p hP h22
                        exact zlR hP (show (3 : Int32) = i3 3 from rfl) ⟨by omega, by omega⟩
                      · replace hP := zE_n hP h22
                        exact zlR hP (show (0 : Int32) = i3 0 from rfl) ⟨by omega, by omega⟩
                    · replace hP := zE_n hP h19
                      exact zlR hP (show (3 : Int32) = i3 3 from rfl) ⟨by omega, by omega⟩
                · replace hP := zE_n hP h12
                  refine wz_br (i3Le (zm_rd (Z := Z) (ν := ν) (k := 11) (rfl : ((a0b : Nat) : Int) = a0b) (show ((0 : Nat) : Int) = 0 from rfl) (show ((2 : Nat) : Int) = 2 from rfl)) (zm_rd (Z := Z) (ν := ν) (k := 44) (rfl : ((a0b : Nat) : Int) = a0b) (i3I (y := a1) (rfl : i3 a1 = i3 a1) (by omega) (by omega) (by omega)) (show ((12 : Nat) : Int) = 12 from rfl)) (by omega) (by omega) (by omega) (by omega)) (fun h23 => ?_) (fun h23 => ?_)
                  · replace hP := zE_p hP h23
                    refine wz_i0 (Eq.trans (i3L (rfl : i3 a2 = i3 a2) (show (0 : Int32) = i3 0 from rfl) (by omega) (by omega) (by omega) (by omega)) (decide_eq_false (by omega))) ?_
                    refine wz_br (i3Le (zm_rd (Z := Z) (ν := ν) (k := 11) (rfl : ((a0b : Nat) : Int) = a0b) (show ((0 : Nat) : Int) = 0 from rfl) (show ((2 : Nat) : Int) = 2 from rfl)) (rfl : i3 a2 = i3 a2) (by omega) (by omega) (by omega) (by omega)) (fun h24 => ?_) (fun h24 => ?_)
                    · replace hP := zE_p hP h24
                      refine wz_i1 (Eq.trans (i3NE (rfl : i3 a2 = i3 a2) (show (6 : Int32) = i3 6 from rfl) (by omega) (by omega) (by omega) (by omega)) (decide_eq_true (by omega))) ?_
                      refine wz_i0 (i3O (n := 6) (rfl : i3 a2 = i3 a2) (by omega) (by omega) (by omega)) ?_
                      obtain ⟨v25, hv25, c9, lv25, uv25⟩ := sp_182 (ν := ν) hZ a0b (a1 := a2) (by omega) (zbh (c := 0) (k := 0) hM (Nat.le_of_ble_eq_true rfl))
                      replace hP := zl_e hP hv25
                      refine wz_cI_of (zas (zcons rfl (zcons (zvi (rfl : i3 a2 = i3 a2)) rfl)) c9) ?_
                      clear c9
                      have r26 := zH_k hZ 43 a0b a2 0 (lo := 0) (hi := 12) (by decide) rfl
                      refine wz_br (i3Le (i3S (zm_rd (Z := Z) (ν := ν) (k := 43) (rfl : ((a0b : Nat) : Int) = a0b) (i3I (y := a2) (rfl : i3 a2 = i3 a2) (by omega) (by omega) (by omega)) (show ((0 : Nat) : Int) = 0 from rfl)) (rfl : i3 v25 = i3 v25)) (show (0 : Int32) = i3 0 from rfl) (by omega) (by omega) (by omega) (by omega)) (fun h27 => ?_) (fun h27 => ?_)
                      · replace hP := zE_p hP h27
                        exact zlR hP (show (3 : Int32) = i3 3 from rfl) ⟨by omega, by omega⟩
                      · replace hP := zE_n hP h27
                        exact zlR hP (show (0 : Int32) = i3 0 from rfl) ⟨by omega, by omega⟩
                    · replace hP := zE_n hP h24
                      refine wz_i0 (i3O (n := 6) (rfl : i3 a2 = i3 a2) (by omega) (by omega) (by omega)) ?_
                      have r28 := zH_k hZ 43 a0b a2 10 (lo := -1) (hi := 695) (by decide) rfl
                      have r29 := zH_k hZ 11 a0b 0 13 (lo := 0) (hi := 671) (by decide) rfl
                      refine wz_br (i3Le (zm_rd (Z := Z) (ν := ν) (k := 43) (rfl : ((a0b : Nat) : Int) = a0b) (i3I (y := a2) (rfl : i3 a2 = i3 a2) (by omega) (by omega) (by omega)) (show ((10 : Nat) : Int) = 10 from rfl)) (zm_rd (Z := Z) (ν := ν) (k := 11) (rfl : ((a0b : Nat) : Int) = a0b) (show ((0 : Nat) : Int) = 0 from rfl) (show ((13 : Nat) : Int) = 13 from rfl)) (by omega) (by omega) (by omega) (by omega)) (fun h30 => ?_) (fun h30 => ?_)
                      · replace hP := zE_p hP h30
                        refine wz_i1 (Eq.trans (i3NE (rfl : i3 a2 = i3 a2) (show (6 : Int32) = i3 6 from rfl) (by omega) (by omega) (by omega) (by omega)) (decide_eq_true (by omega))) ?_
                        refine wz_i0 (i3O (n := 6) (rfl : i3 a2 = i3 a2) (by omega) (by omega) (by omega)) ?_
                        obtain ⟨v31, hv31, c9, lv31, uv31⟩ := sp_182 (ν := ν) hZ a0b (a1 := a2) (by omega) (zbh (c := 0) (k := 0) hM (Nat.le_of_ble_eq_true rfl))
                        replace hP := zl_e hP hv31
                        refine wz_cI_of (zas (zcons rfl (zcons (zvi (rfl : i3 a2 = i3 a2)) rfl)) c9) ?_
                        clear c9
                        have r32 := zH_k hZ 43 a0b a2 0 (lo := 0) (hi := 12) (by decide) rfl
                        refine wz_br (i3Le (i3S (zm_rd (Z := Z) (ν := ν) (k := 43) (rfl : ((a0b : Nat) : Int) = a0b) (i3I (y := a2) (rfl : i3 a2 = i3 a2) (by omega) (by omega) (by omega)) (show ((0 : Nat) : Int) = 0 from rfl)) (rfl : i3 v31 = i3 v31)) (show (0 : Int32) = i3 0 from rfl) (by omega) (by omega) (by omega) (by omega)) (fun h33 => ?_) (fun h33 => ?_)
                        · replace hP := zE_p hP h33
                          exact zlR hP (show (3 : Int32) = i3 3 from rfl) ⟨by omega, by omega⟩
                        · replace hP := zE_n hP h33
                          exact zlR hP (show (0 : Int32) = i3 0 from rfl) ⟨by omega, by omega⟩
                      · replace hP := zE_n hP h30
                        exact zlR hP (show (3 : Int32) = i3 3 from rfl) ⟨by omega, by omega⟩
                  · replace hP := zE_n hP h23
                    refine wz_i0 (i3O (n := 6) (zm_rd (Z := Z) (ν := ν) (k := 44) (rfl : ((a0b : Nat) : Int) = a0b) (i3I (y := a1) (rfl : i3 a1 = i3 a1) (by omega) (by omega) (by omega)) (show ((12 : Nat) : Int) = 12 from rfl)) (by omega) (by omega) (by omega)) ?_
                    have r34 := zH_k hZ 43 a0b (Z 44 a0b a1 12) 10 (lo := -1) (hi := 695) (by decide) rfl
                    have r35 := zH_k hZ 11 a0b 0 13 (lo := 0) (hi := 671) (by decide) rfl
                    refine wz_br (i3Le (zm_rd (Z := Z) (ν := ν) (k := 43) (rfl : ((a0b : Nat) : Int) = a0b) (i3I (y := (Z 44 a0b a1 12)) (zm_rd (Z := Z) (ν := ν) (k := 44) (rfl : ((a0b : Nat) : Int) = a0b) (i3I (y := a1) (rfl : i3 a1 = i3 a1) (by omega) (by omega) (by omega)) (show ((12 : Nat) : Int) = 12 from rfl)) (by omega) (by omega) (by omega)) (show ((10 : Nat) : Int) = 10 from rfl)) (zm_rd (Z := Z) (ν := ν) (k := 11) (rfl : ((a0b : Nat) : Int) = a0b) (show ((0 : Nat) : Int) = 0 from rfl) (show ((13 : Nat) : Int) = 13 from rfl)) (by omega) (by omega) (by omega) (by omega)) (fun h36 => ?_) (fun h36 => ?_)
                    · replace hP := zE_p hP h36
                      refine wz_i0 (Eq.trans (i3L (rfl : i3 a2 = i3 a2) (show (0 : Int32) = i3 0 from rfl) (by omega) (by omega) (by omega) (by omega)) (decide_eq_false (by omega))) ?_
                      refine wz_br (i3Le (zm_rd (Z := Z) (ν := ν) (k := 11) (rfl : ((a0b : Nat) : Int) = a0b) (show ((0 : Nat) : Int) = 0 from rfl) (show ((2 : Nat) : Int) = 2 from rfl)) (rfl : i3 a2 = i3 a2) (by omega) (by omega) (by omega) (by omega)) (fun h37 => ?_) (fun h37 => ?_)
                      · replace hP := zE_p hP h37
                        refine wz_i1 (Eq.trans (i3NE (rfl : i3 a2 = i3 a2) (show (6 : Int32) = i3 6 from rfl) (by omega) (by omega) (by omega) (by omega)) (decide_eq_true (by omega))) ?_
                        refine wz_i0 (i3O (n := 6) (rfl : i3 a2 = i3 a2) (by omega) (by omega) (by omega)) ?_
                        obtain ⟨v38, hv38, c9, lv38, uv38⟩ := sp_182 (ν := ν) hZ a0b (a1 := a2) (by omega) (zbh (c := 0) (k := 0) hM (Nat.le_of_ble_eq_true rfl))
                        replace hP := zl_e hP hv38
                        refine wz_cI_of (zas (zcons rfl (zcons (zvi (rfl : i3 a2 = i3 a2)) rfl)) c9) ?_
                        clear c9
                        have r39 := zH_k hZ 43 a0b a2 0 (lo := 0) (hi := 12) (by decide) rfl
                        refine wz_br (i3Le (i3S (zm_rd (Z := Z) (ν := ν) (k := 43) (rfl : ((a0b : Nat) : Int) = a0b) (i3I (y := a2) (rfl : i3 a2 = i3 a2) (by omega) (by omega) (by omega)) (show ((0 : Nat) : Int) = 0 from rfl)) (rfl : i3 v38 = i3 v38)) (show (0 : Int32) = i3 0 from rfl) (by omega) (by omega) (by omega) (by omega)) (fun h40 => ?_) (fun h40 => ?_)
                        · replace hP := zE_p hP h40
                          exact zlR hP (show (3 : Int32) = i3 3 from rfl) ⟨by omega, by omega⟩
                        · replace hP := zE_n hP h40
                          exact zlR hP (show (0 : Int32) = i3 0 from rfl) ⟨by omega, by omega⟩
                      · replace hP := zE_n hP h37
                        refine wz_i0 (i3O (n := 6) (rfl : i3 a2 = i3 a2) (by omega) (by omega) (by omega)) ?_
                        have r41 := zH_k hZ 43 a0b a2 10 (lo := -1) (hi := 695) (by decide) rfl
                        refine wz_br (i3Le (zm_rd (Z := Z) (ν := ν) (k := 43) (rfl : ((a0b : Nat) : Int) = a0b) (i3I (y := a2) (rfl : i3 a2 = i3 a2) (by omega) (by omega) (by omega)) (show ((10 : Nat) : Int) = 10 from rfl)) (zm_rd (Z := Z) (ν := ν) (k := 11) (rfl : ((a0b : Nat) : Int) = a0b) (show ((0 : Nat) : Int) = 0 from rfl) (show ((13 : Nat) : Int) = 13 from rfl)) (by omega) (by omega) (by omega) (by omega)) (fun h42 => ?_) (fun h42 => ?_)
                        · replace hP := zE_p hP h42
                          refine wz_i1 (Eq.trans (i3NE (rfl : i3 a2 = i3 a2) (show (6 : Int32) = i3 6 from rfl) (by omega) (by omega) (by omega) (by omega)) (decide_eq_true (by omega))) ?_
                          refine wz_i0 (i3O (n := 6) (rfl : i3 a2 = i3 a2) (by omega) (by omega) (by omega)) ?_
                          obtain ⟨v43, hv43, c9, lv43, uv43⟩ := sp_182 (ν := ν) hZ a0b (a1 := a2) (by omega) (zbh (c := 0) (k := 0) hM (Nat.le_of_ble_eq_true rfl))
                          replace hP := zl_e hP hv43
                          refine wz_cI_of (zas (zcons rfl (zcons (zvi (rfl : i3 a2 = i3 a2)) rfl)) c9) ?_
                          clear c9
                          have r44 := zH_k hZ 43 a0b a2 0 (lo := 0) (hi := 12) (by decide) rfl
                          refine wz_br (i3Le (i3S (zm_rd (Z := Z) (ν := ν) (k := 43) (rfl : ((a0b : Nat) : Int) = a0b) (i3I (y := a2) (rfl : i3 a2 = i3 a2) (by omega) (by omega) (by omega)) (show ((0 : Nat) : Int) = 0 from rfl)) (rfl : i3 v43 = i3 v43)) (show (0 : Int32) = i3 0 from rfl) (by omega) (by omega) (by omega) (by omega)) (fun h45 => ?_) (fun h45 => ?_)
                          · replace hP := zE_p hP h45
                            exact zlR hP (show (3 : Int32) = i3 3 from rfl) ⟨by omega, by omega⟩
                          · replace hP := zE_n hP h45
                            exact zlR hP (show (0 : Int32) = i3 0 from rfl) ⟨by omega, by omega⟩
                        · replace hP := zE_n hP h42
                          exact zlR hP (show (3 : Int32) = i3 3 from rfl) ⟨by omega, by omega⟩
                    · replace hP := zE_n hP h36
                      exact zlR hP (show (3 : Int32) = i3 3 from rfl) ⟨by omega, by omega⟩
            · replace hP := zE_n hP h9
              refine wz_br (i3NE (zm_rd (Z := Z) (ν := ν) (k := 44) (rfl : ((a0b : Nat) : Int) = a0b) (i3I (y := a1) (rfl : i3 a1 = i3 a1) (by omega) (by omega) (by omega)) (show ((10 : Nat) : Int) = 10 from rfl)) (show (1 : Int32) = i3 1 from rfl) (by omega) (by omega) (by omega) (by omega)) (fun h46 => ?_) (fun h46 => ?_)
              · replace hP := zE_p hP h46
                exact zlR hP (show (3 : Int32) = i3 3 from rfl) ⟨by omega, by omega⟩
              · replace hP := zE_n hP h46
                have r47 := zH_k hZ 44 a0b a1 12 (lo := -1) (hi := 6) (by decide) rfl
                refine wz_br (i3E (zm_rd (Z := Z) (ν := ν) (k := 44) (rfl : ((a0b : Nat) : Int) = a0b) (i3I (y := a1) (rfl : i3 a1 = i3 a1) (by omega) (by omega) (by omega)) (show ((12 : Nat) : Int) = 12 from rfl)) (rfl : i3 a2 = i3 a2) (by omega) (by omega) (by omega) (by omega)) (fun h48 => ?_) (fun h48 => ?_)
                · replace hP := zE_p hP h48
                  exact zlR hP (show (3 : Int32) = i3 3 from rfl) ⟨by omega, by omega⟩
                · replace hP := zE_n hP h48
                  refine wz_br (i3L (zm_rd (Z := Z) (ν := ν) (k := 44) (rfl : ((a0b : Nat) : Int) = a0b) (i3I (y := a1) (rfl : i3 a1 = i3 a1) (by omega) (by omega) (by omega)) (show ((12 : Nat) : Int) = 12 from rfl)) (show (0 : Int32) = i3 0 from rfl) (by omega) (by omega) (by omega) (by omega)) (fun h49 => ?_) (fun h49 => ?_)
                  · replace hP := zE_p hP h49
                    refine wz_i0 (Eq.trans (i3L (rfl : i3 a2 = i3 a2) (show (0 : Int32) = i3 0 from rfl) (by omega) (by omega) (by omega) (by omega)) (decide_eq_false (by omega))) ?_
                    refine wz_br (i3Le (zm_rd (Z := Z) (ν := ν) (k := 11) (rfl : ((a0b : Nat) : Int) = a0b) (show ((0 : Nat) : Int) = 0 from rfl) (show ((2 : Nat) : Int) = 2 from rfl)) (rfl : i3 a2 = i3 a2) (by omega) (by omega) (by omega) (by omega)) (fun h50 => ?_) (fun h50 => ?_)
                    · replace hP := zE_p hP h50
                      refine wz_i1 (Eq.trans (i3NE (rfl : i3 a2 = i3 a2) (show (6 : Int32) = i3 6 from rfl) (by omega) (by omega) (by omega) (by omega)) (decide_eq_true (by omega))) ?_
                      refine wz_i0 (i3O (n := 6) (rfl : i3 a2 = i3 a2) (by omega) (by omega) (by omega)) ?_
                      obtain ⟨v51, hv51, c9, lv51, uv51⟩ := sp_182 (ν := ν) hZ a0b (a1 := a2) (by omega) (zbh (c := 0) (k := 0) hM (Nat.le_of_ble_eq_true rfl))
                      replace hP := zl_e hP hv51
                      refine wz_cI_of (zas (zcons rfl (zcons (zvi (rfl : i3 a2 = i3 a2)) rfl)) c9) ?_
                      clear c9
                      have r52 := zH_k hZ 43 a0b a2 0 (lo := 0) (hi := 12) (by decide) rfl
                      refine wz_br (i3Le (i3S (zm_rd (Z := Z) (ν := ν) (k := 43) (rfl : ((a0b : Nat) : Int) = a0b) (i3I (y := a2) (rfl : i3 a2 = i3 a2) (by omega) (by omega) (by omega)) (show ((0 : Nat) : Int) = 0 from rfl)) (rfl : i3 v51 = i3 v51)) (show (0 : Int32) = i3 0 from rfl) (by omega) (by omega) (by omega) (by omega)) (fun h53 => ?_) (fun h53 => ?_)
                      · replace hP := zE_p hP h53
                        exact zlR hP (show (3 : Int32) = i3 3 from rfl) ⟨by omega, by omega⟩
                      · replace hP := zE_n hP h53
                        exact zlR hP (show (0 : Int32) = i3 0 from rfl) ⟨by omega, by omega⟩
                    · replace hP := zE_n hP h50
                      refine wz_i0 (i3O (n := 6) (rfl : i3 a2 = i3 a2) (by omega) (by omega) (by omega)) ?_
                      have r54 := zH_k hZ 43 a0b a2 10 (lo := -1) (hi := 695) (by decide) rfl
                      have r55 := zH_k hZ 11 a0b 0 13 (lo := 0) (hi := 671) (by decide) rfl
                      refine wz_br (i3Le (zm_rd (Z := Z) (ν := ν) (k := 43) (rfl : ((a0b : Nat) : Int) = a0b) (i3I (y := a2) (rfl : i3 a2 = i3 a2) (by omega) (by omega) (by omega)) (show ((10 : Nat) : Int) = 10 from rfl)) (zm_rd (Z := Z) (ν := ν) (k := 11) (rfl : ((a0b : Nat) : Int) = a0b) (show ((0 : Nat) : Int) = 0 from rfl) (show ((13 : Nat) : Int) = 13 from rfl)) (by omega) (by omega) (by omega) (by omega)) (fun h56 => ?_) (fun h56 => ?_)
                      · replace hP := zE_p hP h56
                        refine wz_i1 (Eq.trans (i3NE (rfl : i3 a2 = i3 a2) (show (6 : Int32) = i3 6 from rfl) (by omega) (by omega) (by omega) (by omega)) (decide_eq_true (by omega))) ?_
                        refine wz_i0 (i3O (n := 6) (rfl : i3 a2 = i3 a2) (by omega) (by omega) (by omega)) ?_
                        obtain ⟨v57, hv57, c9, lv57, uv57⟩ := sp_182 (ν := ν) hZ a0b (a1 := a2) (by omega) (zbh (c := 0) (k := 0) hM (Nat.le_of_ble_eq_true rfl))
                        replace hP := zl_e hP hv57
                        refine wz_cI_of (zas (zcons rfl (zcons (zvi (rfl : i3 a2 = i3 a2)) rfl)) c9) ?_
                        clear c9
                        have r58 := zH_k hZ 43 a0b a2 0 (lo := 0) (hi := 12) (by decide) rfl
                        refine wz_br (i3Le (i3S (zm_rd (Z := Z) (ν := ν) (k := 43) (rfl : ((a0b : Nat) : Int) = a0b) (i3I (y := a2) (rfl : i3 a2 = i3 a2) (by omega) (by omega) (by omega)) (show ((0 : Nat) : Int) = 0 from rfl)) (rfl : i3 v57 = i3 v57)) (show (0 : Int32) = i3 0 from rfl) (by omega) (by omega) (by omega) (by omega)) (fun h59 => ?_) (fun h59 => ?_)
                        · replace hP := zE_p hP h59
                          exact zlR hP (show (3 : Int32) = i3 3 from rfl) ⟨by omega, by omega⟩
                        · replace hP := zE_n hP h59
                          exact zlR hP (show (0 : Int32) = i3 0 from rfl) ⟨by omega, by omega⟩
                      · replace hP := zE_n hP h56
                        exact zlR hP (show (3 : Int32) = i3 3 from rfl) ⟨by omega, by omega⟩
                  · replace hP := zE_n hP h49
                    refine wz_br (i3Le (zm_rd (Z := Z) (ν := ν) (k := 11) (rfl : ((a0b : Nat) : Int) = a0b) (show ((0 : Nat) : Int) = 0 from rfl) (show ((2 : Nat) : Int) = 2 from rfl)) (zm_rd (Z := Z) (ν := ν) (k := 44) (rfl : ((a0b : Nat) : Int) = a0b) (i3I (y := a1) (rfl : i3 a1 = i3 a1) (by omega) (by omega) (by omega)) (show ((12 : Nat) : Int) = 12 from rfl)) (by omega) (by omega) (by omega) (by omega)) (fun h60 => ?_) (fun h60 => ?_)
                    · replace hP := zE_p hP h60
                      refine wz_i0 (Eq.trans (i3L (rfl : i3 a2 = i3 a2) (show (0 : Int32) = i3 0 from rfl) (by omega) (by omega) (by omega) (by omega)) (decide_eq_false (by omega))) ?_
                      refine wz_br (i3Le (zm_rd (Z := Z) (ν := ν) (k := 11) (rfl : ((a0b : Nat) : Int) = a0b) (show ((0 : Nat) : Int) = 0 from rfl) (show ((2 : Nat) : Int) = 2 from rfl)) (rfl : i3 a2 = i3 a2) (by omega) (by omega) (by omega) (by omega)) (fun h61 => ?_) (fun h61 => ?_)
                      · replace hP := zE_p hP h61
                        refine wz_i1 (Eq.trans (i3NE (rfl : i3 a2 = i3 a2) (show (6 : Int32) = i3 6 from rfl) (by omega) (by omega) (by omega) (by omega)) (decide_eq_true (by omega))) ?_
                        refine wz_i0 (i3O (n := 6) (rfl : i3 a2 = i3 a2) (by omega) (by omega) (by omega)) ?_
                        obtain ⟨v62, hv62, c9, lv62, uv62⟩ := sp_182 (ν := ν) hZ a0b (a1 := a2) (by omega) (zbh (c := 0) (k := 0) hM (Nat.le_of_ble_eq_true rfl))
                        replace hP := zl_e hP hv62
                        refine wz_cI_of (zas (zcons rfl (zcons (zvi (rfl : i3 a2 = i3 a2)) rfl)) c9) ?_
                        clear c9
                        have r63 := zH_k hZ 43 a0b a2 0 (lo := 0) (hi := 12) (by decide) rfl
                        refine wz_br (i3Le (i3S (zm_rd (Z := Z) (ν := ν) (k := 43) (rfl : ((a0b : Nat) : Int) = a0b) (i3I (y := a2) (rfl : i3 a2 = i3 a2) (by omega) (by omega) (by omega)) (show ((0 : Nat) : Int) = 0 from rfl)) (rfl : i3 v62 = i3 v62)) (show (0 : Int32) = i3 0 from rfl) (by omega) (by omega) (by omega) (by omega)) (fun h64 => ?_) (fun h64 => ?_)
                        · replace hP := zE_p hP h64
                          exact zlR hP (show (3 : Int32) = i3 3 from rfl) ⟨by omega, by omega⟩
                        · replace hP := zE_n hP h64
                          exact zlR hP (show (0 : Int32) = i3 0 from rfl) ⟨by omega, by omega⟩
                      · replace hP := zE_n hP h61
                        refine wz_i0 (i3O (n := 6) (rfl : i3 a2 = i3 a2) (by omega) (by omega) (by omega)) ?_
                        have r65 := zH_k hZ 43 a0b a2 10 (lo := -1) (hi := 695) (by decide) rfl
                        have r66 := zH_k hZ 11 a0b 0 13 (lo := 0) (hi := 671) (by decide) rfl
                        refine wz_br (i3Le (zm_rd (Z := Z) (ν := ν) (k := 43) (rfl : ((a0b : Nat) : Int) = a0b) (i3I (y := a2) (rfl : i3 a2 = i3 a2) (by omega) (by omega) (by omega)) (show ((10 : Nat) : Int) = 10 from rfl)) (zm_rd (Z := Z) (ν := ν) (k := 11) (rfl : ((a0b : Nat) : Int) = a0b) (show ((0 : Nat) : Int) = 0 from rfl) (show ((13 : Nat) : Int) = 13 from rfl)) (by omega) (by omega) (by omega) (by omega)) (fun h67 => ?_) (fun h67 => ?_)
                        · replace hP := zE_p hP h67
                          refine wz_i1 (Eq.trans (i3NE (rfl : i3 a2 = i3 a2) (show (6 : Int32) = i3 6 from rfl) (by omega) (by omega) (by omega) (by omega)) (decide_eq_true (by omega))) ?_
                          refine wz_i0 (i3O (n := 6) (rfl : i3 a2 = i3 a2) (by omega) (by omega) (by omega)) ?_
                          obtain ⟨v68, hv68, c9, lv68, uv68⟩ := sp_182 (ν := ν) hZ a0b (a1 := a2) (by omega) (zbh (c := 0) (k := 0) hM (Nat.le_of_ble_eq_true rfl))
                          replace hP := zl_e hP hv68
                          refine wz_cI_of (zas (zcons rfl (zcons (zvi (rfl : i3 a2 = i3 a2)) rfl)) c9) ?_
                          clear c9
                          have r69 := zH_k hZ 43 a0b a2 0 (lo := 0) (hi := 12) (by decide) rfl
                          refine wz_br (i3Le (i3S (zm_rd (Z := Z) (ν := ν) (k := 43) (rfl : ((a0b : Nat) : Int) = a0b) (i3I (y := a2) (rfl : i3 a2 = i3 a2) (by omega) (by omega) (by omega)) (show ((0 : Nat) : Int) = 0 from rfl)) (rfl : i3 v68 = i3 v68)) (show (0 : Int32) = i3 0 from rfl) (by omega) (by omega) (by omega) (by omega)) (fun h70 => ?_) (fun h70 => ?_)
                          · replace hP := zE_p hP h70
                            exact zlR hP (show (3 : Int32) = i3 3 from rfl) ⟨by omega, by omega⟩
                          · replace hP := zE_n hP h70
                            exact zlR hP (show (0 : Int32) = i3 0 from rfl) ⟨by omega, by omega⟩
                        · replace hP := zE_n hP h67
                          exact zlR hP (show (3 : Int32) = i3 3 from rfl) ⟨by omega, by omega⟩
                    · replace hP := zE_n hP h60
                      refine wz_i0 (i3O (n := 6) (zm_rd (Z := Z) (ν := ν) (k := 44) (rfl : ((a0b : Nat) : Int) = a0b) (i3I (y := a1) (rfl : i3 a1 = i3 a1) (by omega) (by omega) (by omega)) (show ((12 : Nat) : Int) = 12 from rfl)) (by omega) (by omega) (by omega)) ?_
                      have r71 := zH_k hZ 43 a0b (Z 44 a0b a1 12) 10 (lo := -1) (hi := 695) (by decide) rfl
                      have r72 := zH_k hZ 11 a0b 0 13 (lo := 0) (hi := 671) (by decide) rfl
                      refine wz_br (i3Le (zm_rd (Z := Z) (ν := ν) (k := 43) (rfl : ((a0b : Nat) : Int) = a0b) (i3I (y := (Z 44 a0b a1 12)) (zm_rd (Z := Z) (ν := ν) (k := 44) (rfl : ((a0b : Nat) : Int) = a0b) (i3I (y := a1) (rfl : i3 a1 = i3 a1) (by omega) (by omega) (by omega)) (show ((12 : Nat) : Int) = 12 from rfl)) (by omega) (by omega) (by omega)) (show ((10 : Nat) : Int) = 10 from rfl)) (zm_rd (Z := Z) (ν := ν) (k := 11) (rfl : ((a0b : Nat) : Int) = a0b) (show ((0 : Nat) : Int) = 0 from rfl) (show ((13 : Nat) : Int) = 13 from rfl)) (by omega) (by omega) (by omega) (by omega)) (fun h73 => ?_) (fun h73 => ?_)
                      · replace hP := zE_p hP h73
                        refine wz_i0 (Eq.trans (i3L (rfl : i3 a2 = i3 a2) (show (0 : Int32) = i3 0 from rfl) (by omega) (by omega) (by omega) (by omega)) (decide_eq_false (by omega))) ?_
                        refine wz_br (i3Le (zm_rd (Z := Z) (ν := ν) (k := 11) (rfl : ((a0b : Nat) : Int) = a0b) (show ((0 : Nat) : Int) = 0 from rfl) (show ((2 : Nat) : Int) = 2 from rfl)) (rfl : i3 a2 = i3 a2) (by omega) (by omega) (by omega) (by omega)) (fun h74 => ?_) (fun h74 => ?_)
                        · replace hP := zE_p hP h74
                          refine wz_i1 (Eq.trans (i3NE (rfl : i3 a2 = i3 a2) (show (6 : Int32) = i3 6 from rfl) (by omega) (by omega) (by omega) (by omega)) (decide_eq_true (by omega))) ?_
                          refine wz_i0 (i3O (n := 6) (rfl : i3 a2 = i3 a2) (by omega) (by omega) (by omega)) ?_
                          obtain ⟨v75, hv75, c9, lv75, uv75⟩ := sp_182 (ν := ν) hZ a0b (a1 := a2) (by omega) (zbh (c := 0) (k := 0) hM (Nat.le_of_ble_eq_true rfl))
                          replace hP := zl_e hP hv75
                          refine wz_cI_of (zas (zcons rfl (zcons (zvi (rfl : i3 a2 = i3 a2)) rfl)) c9) ?_
                          clear c9
                          have r76 := zH_k hZ 43 a0b a2 0 (lo := 0) (hi := 12) (by decide) rfl
                          refine wz_br (i3Le (i3S (zm_rd (Z := Z) (ν := ν) (k := 43) (rfl : ((a0b : Nat) : Int) = a0b) (i3I (y := a2) (rfl : i3 a2 = i3 a2) (by omega) (by omega) (by omega)) (show ((0 : Nat) : Int) = 0 from rfl)) (rfl : i3 v75 = i3 v75)) (show (0 : Int32) = i3 0 from rfl) (by omega) (by omega) (by omega) (by omega)) (fun h77 => ?_) (fun h77 => ?_)
                          · replace hP := zE_p hP h77
                            exact zlR hP (show (3 : Int32) = i3 3 from rfl) ⟨by omega, by omega⟩
                          · replace hP := zE_n hP h77
                            exact zlR hP (show (0 : Int32) = i3 0 from rfl) ⟨by omega, by omega⟩
                        · replace hP := zE_n hP h74
                          refine wz_i0 (i3O (n := 6) (rfl : i3 a2 = i3 a2) (by omega) (by omega) (by omega)) ?_
                          have r78 := zH_k hZ 43 a0b a2 10 (lo := -1) (hi := 695) (by decide) rfl
                          refine wz_br (i3Le (zm_rd (Z := Z) (ν := ν) (k := 43) (rfl : ((a0b : Nat) : Int) = a0b) (i3I (y := a2) (rfl : i3 a2 = i3 a2) (by omega) (by omega) (by omega)) (show ((10 : Nat) : Int) = 10 from rfl)) (zm_rd (Z := Z) (ν := ν) (k := 11) (rfl : ((a0b : Nat) : Int) = a0b) (show ((0 : Nat) : Int) = 0 from rfl) (show ((13 : Nat) : Int) = 13 from rfl)) (by omega) (by omega) (by omega) (by omega)) (fun h79 => ?_) (fun h79 => ?_)
                          · replace hP := zE_p hP h79
                            refine wz_i1 (Eq.trans (i3NE (rfl : i3 a2 = i3 a2) (show (6 : Int32) = i3 6 from rfl) (by omega) (by omega) (by omega) (by omega)) (decide_eq_true (by omega))) ?_
                            refine wz_i0 (i3O (n := 6) (rfl : i3 a2 = i3 a2) (by omega) (by omega) (by omega)) ?_
                            obtain ⟨v80, hv80, c9, lv80, uv80⟩ := sp_182 (ν := ν) hZ a0b (a1 := a2) (by omega) (zbh (c := 0) (k := 0) hM (Nat.le_of_ble_eq_true rfl))
                            replace hP := zl_e hP hv80
                            refine wz_cI_of (zas (zcons rfl (zcons (zvi (rfl : i3 a2 = i3 a2)) rfl)) c9) ?_
                            clear c9
                            have r81 := zH_k hZ 43 a0b a2 0 (lo := 0) (hi := 12) (by decide) rfl
                            refine wz_br (i3Le (i3S (zm_rd (Z := Z) (ν := ν) (k := 43) (rfl : ((a0b : Nat) : Int) = a0b) (i3I (y := a2) (rfl : i3 a2 = i3 a2) (by omega) (by omega) (by omega)) (show ((0 : Nat) : Int) = 0 from rfl)) (rfl : i3 v80 = i3 v80)) (show (0 : Int32) = i3 0 from rfl) (by omega) (by omega) (by omega) (by omega)) (fun h82 => ?_) (fun h82 => ?_)
                            · replace hP := zE_p hP h82
                              exact zlR hP (show (3 : Int32) = i3 3 from rfl) ⟨by omega, by omega⟩
                            · replace hP := zE_n hP h82
                              exact zlR hP (show (0 : Int32) = i3 0 from rfl) ⟨by omega, by omega⟩
                          · replace hP := zE_n hP h79
                            exact zlR hP (show (3 : Int32) = i3 3 from rfl) ⟨by omega, by omega⟩
                      · replace hP := zE_n hP h73
                        exact zlR hP (show (3 : Int32) = i3 3 from rfl) ⟨by omega, by omega⟩
          · replace hP := zE_n hP h7
            have r83 := zH_k hZ 44 a0b a1 10 (lo := 0) (hi := 4) (by decide) rfl
            refine wz_br (i3E (zm_rd (Z := Z) (ν := ν) (k := 44) (rfl : ((a0b : Nat) : Int) = a0b) (i3I (y := a1) (rfl : i3 a1 = i3 a1) (by omega) (by omega) (by omega)) (show ((10 : Nat) : Int) = 10 from rfl)) (show (0 : Int32) = i3 0 from rfl) (by omega) (by omega) (by omega) (by omega)) (fun h84 => ?_) (fun h84 => ?_)
            · replace hP := zE_p hP h84
              have r85 := zH_k hZ 44 a0b a1 12 (lo := -1) (hi := 6) (by decide) rfl
              refine wz_br (i3E (zm_rd (Z := Z) (ν := ν) (k := 44) (rfl : ((a0b : Nat) : Int) = a0b) (i3I (y := a1) (rfl : i3 a1 = i3 a1) (by omega) (by omega) (by omega)) (show ((12 : Nat) : Int) = 12 from rfl)) (show (6 : Int32) = i3 6 from rfl) (by omega) (by omega) (by omega) (by omega)) (fun h86 => ?_) (fun h86 => ?_)
              · replace hP := zE_p hP h86
                exact zlR hP (show (3 : Int32) = i3 3 from rfl) ⟨by omega, by omega⟩
              · replace hP := zE_n hP h86
                refine wz_br (i3L (zm_rd (Z := Z) (ν := ν) (k := 44) (rfl : ((a0b : Nat) : Int) = a0b) (i3I (y := a1) (rfl : i3 a1 = i3 a1) (by omega) (by omega) (by omega)) (show ((12 : Nat) : Int) = 12 from rfl)) (show (0 : Int32) = i3 0 from rfl) (by omega) (by omega) (by omega) (by omega)) (fun h87 => ?_) (fun h87 => ?_)
                · replace hP := zE_p hP h87
                  refine wz_i1 (Eq.trans (i3Le (zm_rd (Z := Z) (ν := ν) (k := 11) (rfl : ((a0b : Nat) : Int) = a0b) (show ((0 : Nat) : Int) = 0 from rfl) (show ((2 : Nat) : Int) = 2 from rfl)) (show (6 : Int32) = i3 6 from rfl) (by omega) (by omega) (by omega) (by omega)) (decide_eq_true (by omega))) ?_
                  obtain ⟨v88, hv88, c9, lv88, uv88⟩ := sp_182 (ν := ν) hZ a0b (a1 := 6) (by omega) (zbh (c := 0) (k := 0) hM (Nat.le_of_ble_eq_true rfl))
                  replace hP := zl_e hP hv88
                  refine wz_cI_of (zas (zcons rfl (zcons (zvi (show (6 : Int32) = i3 6 from rfl)) rfl)) c9) ?_
                  clear c9
                  refine wz_br (i3Le (i3S (show (12 : Int32) = i3 12 from rfl) (rfl : i3 v88 = i3 v88)) (show (0 : Int32) = i3 0 from rfl) (by omega) (by omega) (by omega) (by omega)) (fun h89 => ?_) (fun h89 => ?_)
                  · replace hP := zE_p hP h89
                    exact zlR hP (show (3 : Int32) = i3 3 from rfl) ⟨by omega, by omega⟩
                  · replace hP := zE_n hP h89
                    exact zlR hP (show (0 : Int32) = i3 0 from rfl) ⟨by omega, by omega⟩
                · replace hP := zE_n hP h87
                  refine wz_br (i3Le (zm_rd (Z := Z) (ν := ν) (k := 11) (rfl : ((a0b : Nat) : Int) = a0b) (show ((0 : Nat) : Int) = 0 from rfl) (show ((2 : Nat) : Int) = 2 from rfl)) (zm_rd (Z := Z) (ν := ν) (k := 44) (rfl : ((a0b : Nat) : Int) = a0b) (i3I (y := a1) (rfl : i3 a1 = i3 a1) (by omega) (by omega) (by omega)) (show ((12 : Nat) : Int) = 12 from rfl)) (by omega) (by omega) (by omega) (by omega)) (fun h90 => ?_) (fun h90 => ?_)
                  · replace hP := zE_p hP h90
                    refine wz_i1 (Eq.trans (i3Le (zm_rd (Z := Z) (ν := ν) (k := 11) (rfl : ((a0b : Nat) : Int) = a0b) (show ((0 : Nat) : Int) = 0 from rfl) (show ((2 : Nat) : Int) = 2 from rfl)) (show (6 : Int32) = i3 6 from rfl) (by omega) (by omega) (by omega) (by omega)) (decide_eq_true (by omega))) ?_
                    obtain ⟨v91, hv91, c9, lv91, uv91⟩ := sp_182 (ν := ν) hZ a0b (a1 := 6) (by omega) (zbh (c := 0) (k := 0) hM (Nat.le_of_ble_eq_true rfl))
                    replace hP := zl_e hP hv91
                    refine wz_cI_of (zas (zcons rfl (zcons (zvi (show (6 : Int32) = i3 6 from rfl)) rfl)) c9) ?_
                    clear c9
                    refine wz_br (i3Le (i3S (show (12 : Int32) = i3 12 from rfl) (rfl : i3 v91 = i3 v91)) (show (0 : Int32) = i3 0 from rfl) (by omega) (by omega) (by omega) (by omega)) (fun h92 => ?_) (fun h92 => ?_)
                    · replace hP := zE_p hP h92
                      exact zlR hP (show (3 : Int32) = i3 3 from rfl) ⟨by omega, by omega⟩
                    · replace hP := zE_n hP h92
                      exact zlR hP (show (0 : Int32) = i3 0 from rfl) ⟨by omega, by omega⟩
                  · replace hP := zE_n hP h90
                    refine wz_i0 (i3O (n := 6) (zm_rd (Z := Z) (ν := ν) (k := 44) (rfl : ((a0b : Nat) : Int) = a0b) (i3I (y := a1) (rfl : i3 a1 = i3 a1) (by omega) (by omega) (by omega)) (show ((12 : Nat) : Int) = 12 from rfl)) (by omega) (by omega) (by omega)) ?_
                    have r93 := zH_k hZ 43 a0b (Z 44 a0b a1 12) 10 (lo := -1) (hi := 695) (by decide) rfl
                    have r94 := zH_k hZ 11 a0b 0 13 (lo := 0) (hi := 671) (by decide) rfl
                    refine wz_br (i3Le (zm_rd (Z := Z) (ν := ν) (k := 43) (rfl : ((a0b : Nat) : Int) = a0b) (i3I (y := (Z 44 a0b a1 12)) (zm_rd (Z := Z) (ν := ν) (k := 44) (rfl : ((a0b : Nat) : Int) = a0b) (i3I (y := a1) (rfl : i3 a1 = i3 a1) (by omega) (by omega) (by omega)) (show ((12 : Nat) : Int) = 12 from rfl)) (by omega) (by omega) (by omega)) (show ((10 : Nat) : Int) = 10 from rfl)) (zm_rd (Z := Z) (ν := ν) (k := 11) (rfl : ((a0b : Nat) : Int) = a0b) (show ((0 : Nat) : Int) = 0 from rfl) (show ((13 : Nat) : Int) = 13 from rfl)) (by omega) (by omega) (by omega) (by omega)) (fun h95 => ?_) (fun h95 => ?_)
                    · replace hP := zE_p hP h95
                      refine wz_i1 (Eq.trans (i3Le (zm_rd (Z := Z) (ν := ν) (k := 11) (rfl : ((a0b : Nat) : Int) = a0b) (show ((0 : Nat) : Int) = 0 from rfl) (show ((2 : Nat) : Int) = 2 from rfl)) (show (6 : Int32) = i3 6 from rfl) (by omega) (by omega) (by omega) (by omega)) (decide_eq_true (by omega))) ?_
                      obtain ⟨v96, hv96, c9, lv96, uv96⟩ := sp_182 (ν := ν) hZ a0b (a1 := 6) (by omega) (zbh (c := 0) (k := 0) hM (Nat.le_of_ble_eq_true rfl))
                      replace hP := zl_e hP hv96
                      refine wz_cI_of (zas (zcons rfl (zcons (zvi (show (6 : Int32) = i3 6 from rfl)) rfl)) c9) ?_
                      clear c9
                      refine wz_br (i3Le (i3S (show (12 : Int32) = i3 12 from rfl) (rfl : i3 v96 = i3 v96)) (show (0 : Int32) = i3 0 from rfl) (by omega) (by omega) (by omega) (by omega)) (fun h97 => ?_) (fun h97 => ?_)
                      · replace hP := zE_p hP h97
                        exact zlR hP (show (3 : Int32) = i3 3 from rfl) ⟨by omega, by omega⟩
                      · replace hP := zE_n hP h97
                        exact zlR hP (show (0 : Int32) = i3 0 from rfl) ⟨by omega, by omega⟩
                    · replace hP := zE_n hP h95
                      exact zlR hP (show (3 : Int32) = i3 3 from rfl) ⟨by omega, by omega⟩
            · replace hP := zE_n hP h84
              refine wz_br (i3NE (zm_rd (Z := Z) (ν := ν) (k := 44) (rfl : ((a0b : Nat) : Int) = a0b) (i3I (y := a1) (rfl : i3 a1 = i3 a1) (by omega) (by omega) (by omega)) (show ((10 : Nat) : Int) = 10 from rfl)) (show (1 : Int32) = i3 1 from rfl) (by omega) (by omega) (by omega) (by omega)) (fun h98 => ?_) (fun h98 => ?_)
              · replace hP := zE_p hP h98
                exact zlR hP (show (3 : Int32) = i3 3 from rfl) ⟨by omega, by omega⟩
              · replace hP := zE_n hP h98
                have r99 := zH_k hZ 44 a0b a1 12 (lo := -1) (hi := 6) (by decide) rfl
                refine wz_br (i3E (zm_rd (Z := Z) (ν := ν) (k := 44) (rfl : ((a0b : Nat) : Int) = a0b) (i3I (y := a1) (rfl : i3 a1 = i3 a1) (by omega) (by omega) (by omega)) (show ((12 : Nat) : Int) = 12 from rfl)) (show (6 : Int32) = i3 6 from rfl) (by omega) (by omega) (by omega) (by omega)) (fun h100 => ?_) (fun h100 => ?_)
                · replace hP := zE_p hP h100
                  exact zlR hP (show (3 : Int32) = i3 3 from rfl) ⟨by omega, by omega⟩
                · replace hP := zE_n hP h100
                  refine wz_br (i3L (zm_rd (Z := Z) (ν := ν) (k := 44) (rfl : ((a0b : Nat) : Int) = a0b) (i3I (y := a1) (rfl : i3 a1 = i3 a1) (by omega) (by omega) (by omega)) (show ((12 : Nat) : Int) = 12 from rfl)) (show (0 : Int32) = i3 0 from rfl) (by omega) (by omega) (by omega) (by omega)) (fun h101 => ?_) (fun h101 => ?_)
                  · replace hP := zE_p hP h101
                    refine wz_i1 (Eq.trans (i3Le (zm_rd (Z := Z) (ν := ν) (k := 11) (rfl : ((a0b : Nat) : Int) = a0b) (show ((0 : Nat) : Int) = 0 from rfl) (show ((2 : Nat) : Int) = 2 from rfl)) (show (6 : Int32) = i3 6 from rfl) (by omega) (by omega) (by omega) (by omega)) (decide_eq_true (by omega))) ?_
                    obtain ⟨v102, hv102, c9, lv102, uv102⟩ := sp_182 (ν := ν) hZ a0b (a1 := 6) (by omega) (zbh (c := 0) (k := 0) hM (Nat.le_of_ble_eq_true rfl))
                    replace hP := zl_e hP hv102
                    refine wz_cI_of (zas (zcons rfl (zcons (zvi (show (6 : Int32) = i3 6 from rfl)) rfl)) c9) ?_
                    clear c9
                    refine wz_br (i3Le (i3S (show (12 : Int32) = i3 12 from rfl) (rfl : i3 v102 = i3 v102)) (show (0 : Int32) = i3 0 from rfl) (by omega) (by omega) (by omega) (by omega)) (fun h103 => ?_) (fun h103 => ?_)
                    · replace hP := zE_p hP h103
                      exact zlR hP (show (3 : Int32) = i3 3 from rfl) ⟨by omega, by omega⟩
                    · replace hP := zE_n hP h103
                      exact zlR hP (show (0 : Int32) = i3 0 from rfl) ⟨by omega, by omega⟩
                  · replace hP := zE_n hP h101
                    refine wz_br (i3Le (zm_rd (Z := Z) (ν := ν) (k := 11) (rfl : ((a0b : Nat) : Int) = a0b) (show ((0 : Nat) : Int) = 0 from rfl) (show ((2 : Nat) : Int) = 2 from rfl)) (zm_rd (Z := Z) (ν := ν) (k := 44) (rfl : ((a0b : Nat) : Int) = a0b) (i3I (y := a1) (rfl : i3 a1 = i3 a1) (by omega) (by omega) (by omega)) (show ((12 : Nat) : Int) = 12 from rfl)) (by omega) (by omega) (by omega) (by omega)) (fun h104 => ?_) (fun h104 => ?_)
                    · replace hP := zE_p hP h104
                      refine wz_i1 (Eq.trans (i3Le (zm_rd (Z := Z) (ν := ν) (k := 11) (rfl : ((a0b : Nat) : Int) = a0b) (show ((0 : Nat) : Int) = 0 from rfl) (show ((2 : Nat) : Int) = 2 from rfl)) (show (6 : Int32) = i3 6 from rfl) (by omega) (by omega) (by omega) (by omega)) (decide_eq_true (by omega))) ?_
                      obtain ⟨v105, hv105, c9, lv105, uv105⟩ := sp_182 (ν := ν) hZ a0b (a1 := 6) (by omega) (zbh (c := 0) (k := 0) hM (Nat.le_of_ble_eq_true rfl))
                      replace hP := zl_e hP hv105
                      refine wz_cI_of (zas (zcons rfl (zcons (zvi (show (6 : Int32) = i3 6 from rfl)) rfl)) c9) ?_
                      clear c9
                      refine wz_br (i3Le (i3S (show (12 : Int32) = i3 12 from rfl) (rfl : i3 v105 = i3 v105)) (show (0 : Int32) = i3 0 from rfl) (by omega) (by omega) (by omega) (by omega)) (fun h106 => ?_) (fun h106 => ?_)
                      · replace hP := zE_p hP h106
                        exact zlR hP (show (3 : Int32) = i3 3 from rfl) ⟨by omega, by omega⟩
                      · replace hP := zE_n hP h106
                        exact zlR hP (show (0 : Int32) = i3 0 from rfl) ⟨by omega, by omega⟩
                    · replace hP := zE_n hP h104
                      refine wz_i0 (i3O (n := 6) (zm_rd (Z := Z) (ν := ν) (k := 44) (rfl : ((a0b : Nat) : Int) = a0b) (i3I (y := a1) (rfl : i3 a1 = i3 a1) (by omega) (by omega) (by omega)) (show ((12 : Nat) : Int) = 12 from rfl)) (by omega) (by omega) (by omega)) ?_
                      have r107 := zH_k hZ 43 a0b (Z 44 a0b a1 12) 10 (lo := -1) (hi := 695) (by decide) rfl
                      have r108 := zH_k hZ 11 a0b 0 13 (lo := 0) (hi := 671) (by decide) rfl
                      refine wz_br (i3Le (zm_rd (Z := Z) (ν := ν) (k := 43) (rfl : ((a0b : Nat) : Int) = a0b) (i3I (y := (Z 44 a0b a1 12)) (zm_rd (Z := Z) (ν := ν) (k := 44) (rfl : ((a0b : Nat) : Int) = a0b) (i3I (y := a1) (rfl : i3 a1 = i3 a1) (by omega) (by omega) (by omega)) (show ((12 : Nat) : Int) = 12 from rfl)) (by omega) (by omega) (by omega)) (show ((10 : Nat) : Int) = 10 from rfl)) (zm_rd (Z := Z) (ν := ν) (k := 11) (rfl : ((a0b : Nat) : Int) = a0b) (show ((0 : Nat) : Int) = 0 from rfl) (show ((13 : Nat) : Int) = 13 from rfl)) (by omega) (by omega) (by omega) (by omega)) (fun h109 => ?_) (fun h109 => ?_)
                      · replace hP := zE_p hP h109
                        refine wz_i1 (Eq.trans (i3Le (zm_rd (Z := Z) (ν := ν) (k := 11) (rfl : ((a0b : Nat) : Int) = a0b) (show ((0 : Nat) : Int) = 0 from rfl) (show ((2 : Nat) : Int) = 2 from rfl)) (show (6 : Int32) = i3 6 from rfl) (by omega) (by omega) (by omega) (by omega)) (decide_eq_true (by omega))) ?_
                        obtain ⟨v110, hv110, c9, lv110, uv110⟩ := sp_182 (ν := ν) hZ a0b (a1 := 6) (by omega) (zbh (c := 0) (k := 0) hM (Nat.le_of_ble_eq_true rfl))
                        replace hP := zl_e hP hv110
                        refine wz_cI_of (zas (zcons rfl (zcons (zvi (show (6 : Int32) = i3 6 from rfl)) rfl)) c9) ?_
                        clear c9
                        refine wz_br (i3Le (i3S (show (12 : Int32) = i3 12 from rfl) (rfl : i3 v110 = i3 v110)) (show (0 : Int32) = i3 0 from rfl) (by omega) (by omega) (by omega) (by omega)) (fun h111 => ?_) (fun h111 => ?_)
                        · replace hP := zE_p hP h111
                          exact zlR hP (show (3 : Int32) = i3 3 from rfl) ⟨by omega, by omega⟩
                        · replace hP := zE_n hP h111
                          exact zlR hP (show (0 : Int32) = i3 0 from rfl) ⟨by omega, by omega⟩
                      · replace hP := zE_n hP h109
                        exact zlR hP (show (3 : Int32) = i3 3 from rfl) ⟨by omega, by omega⟩
        · replace hP := zE_n hP h6
          exact zlR hP (show (1 : Int32) = i3 1 from rfl) ⟨by omega, by omega⟩
/- yX11_put -/
def zx_230 (Z : qz_Z) (a1 : Int) (a2 : Int) : qz_Z × Int × Int := (if a1 < 0 then (Z, 0, 24) else (if (Z 11 0 0 3) ≤ a1 then (Z, 0, 24) else (if a2 < (-1) then (Z, 0, 24) else (if a2 < (Z 11 0 0 2) then (if a2 ≠ (-1) then (if (Z 44 0 a1 10) = 0 then (if (Z 44 0 a1 12) = a2 then (Z, 0, 15) else (if (Z 44 0 a1 12) < 0 then (if (Z 11 0 0 2) ≤ a2 then (zlet (zf_182 Z 0 a2) (fun v14 => (if ((Z 43 0 a2 0) - v14) ≤ 0 then (Z, 0, 15) else (zlet (zdd Z 8 a1 a2 0 0 0 0) (fun Z17 => (zlet (zf_175 Z17 0 0 a1 a2) (fun Z18 => (zlet (zf_182 Z18 0 a2) (fun v19 => (Z18, ((Z18 43 0 a2 0) - v19), 0)))))))))) else (if (Z 43 0 a2 10) ≤ (Z 11 0 0 13) then (zlet (zf_182 Z 0 a2) (fun v24 => (if ((Z 43 0 a2 0) - v24) ≤ 0 then (Z, 0, 15) else (zlet (zdd Z 8 a1 a2 0 0 0 0) (fun Z27 => (zlet (zf_175 Z27 0 0 a1 a2) (fun Z28 => (zlet (zf_182 Z28 0 a2) (fun v29 => (Z28, ((Z28 43 0 a2 0) - v29), 0)))))))))) else (Z, 0, 15))) else (if (Z 11 0 0 2) ≤ (Z 44 0 a1 12) then (if (Z 11 0 0 2) ≤ a2 then (zlet (zf_182 Z 0 a2) (fun v33 => (if ((Z 43 0 a2 0) - v33) ≤ 0 then (Z, 0, 15) else (zlet (zdd Z 8 a1 a2 0 0 0 0) (fun Z36 => (zlet (zf_175 Z36 0 0 a1 a2) (fun Z37 => (zlet (zf_182 Z37 0 a2) (fun v38 => (Z37, ((Z37 43 0 a2 0) - v38), 0)))))))))) else (if (Z 43 0 a2 10) ≤ (Z 11 0 0 13) then (zlet (zf_182 Z 0 a2) (fun v43 => (if ((Z 43 0 a2 0) - v43) ≤ 0 then (Z, 0, 15) else (zlet (zdd Z 8 a1 a2 0 0 0 0) (fun Z46 => (zlet (zf_175 Z46 0 0 a1 a2) (fun Z47 => (zlet (zf_182 Z47 0 a2) (fun v48 => (Z47, ((Z47 43 0 a2 0) - v48), 0)))))))))) else (Z, 0, 15))) else (if (Z 43 0 (Z 44 0 a1 12) 10) ≤ (Z 11 0 0 13) then (if (Z 11 0 0 2) ≤ a2 then (zlet (zf_182 Z 0 a2) (fun v54 => (if ((Z 43 0 a2 0) - v54) ≤ 0 then (Z, 0, 15) else (zlet (zdd Z 8 a1 a2 0 0 0 0) (fun Z57 => (zlet (zf_175 Z57 0 0 a1 a2) (fun Z58 => (zlet (zf_182 Z58 0 a2) (fun v59 => (Z58, ((Z58 43 0 a2 0) - v59), 0)))))))))) else (if (Z 43 0 a2 10) ≤ (Z 11 0 0 13) then (zlet (zf_182 Z 0 a2) (fun v63 => (if ((Z 43 0 a2 0) - v63) ≤ 0 then (Z, 0, 15) else (zlet (zdd Z 8 a1 a2 0 0 0 0) (fun Z66 => (zlet (zf_175 Z66 0 0 a1 a2) (fun Z67 => (zlet (zf_182 Z67 0 a2) (fun v68 => (Z67, ((Z67 43 0 a2 0) - v68), 0)))))))))) else (Z, 0, 15))) else (Z, 0, 15))))) else (if (Z 44 0 a1 10) ≠ 1 then (Z, 0, 15) else (if (Z 44 0 a1 12) = a2 then (Z, 0, 15) else (if (Z 44 0 a1 12) < 0 then (if (Z 11 0 0 2) ≤ a2 then (zlet (zf_182 Z 0 a2) (fun v75 => (if ((Z 43 0 a2 0) - v75) ≤ 0 then (Z, 0, 15) else (zlet (zdd Z 8 a1 a2 0 0 0 0) (fun Z78 => (zlet (zf_175 Z78 0 0 a1 a2) (fun Z79 => (zlet (zf_182 Z79 0 a2) (fun v80 => (Z79, ((Z79 43 0 a2 0) - v80), 0)))))))))) else (if (Z 43 0 a2 10) ≤ (Z 11 0 0 13) then (zlet (zf_182 Z 0 a2) (fun v85 => (if ((Z 43 0 a2 0) - v85) ≤ 0 then (Z, 0, 15) else (zlet (zdd Z 8 a1 a2 0 0 0 0) (fun Z88 => (zlet (zf_175 Z88 0 0 a1 a2) (fun Z89 => (zlet (zf_182 Z89 0 a2) (fun v90 => (Z89, ((Z89 43 0 a2 0) - v90), 0)))))))))) else (Z, 0, 15))) else (if (Z 11 0 0 2) ≤ (Z 44 0 a1 12) then (if (Z 11 0 0 2) ≤ a2 then (zlet (zf_182 Z 0 a2) (fun v94 => (if ((Z 43 0 a2 0) - v94) ≤ 0 then (Z, 0, 15) else (zlet (zdd Z 8 a1 a2 0 0 0 0) (fun Z97 => (zlet (zf_175 Z97 0 0 a1 a2) (fun Z98 => (zlet (zf_182 Z98 0 a2) (fun v99 => (Z98, ((Z98 43 0 a2 0) - v99), 0)))))))))) else (if (Z 43 0 a2 10) ≤ (Z 11 0 0 13) then (zlet (zf_182 Z 0 a2) (fun v104 => (if ((Z 43 0 a2 0) - v104) ≤ 0 then (Z, 0, 15) else (zlet (zdd Z 8 a1 a2 0 0 0 0) (fun Z107 => (zlet (zf_175 Z107 0 0 a1 a2) (fun Z108 => (zlet (zf_182 Z108 0 a2) (fun v109 => (Z108, ((Z108 43 0 a2 0) - v109), 0)))))))))) else (Z, 0, 15))) else (if (Z 43 0 (Z 44 0 a1 12) 10) ≤ (Z 11 0 0 13) then (if (Z 11 0 0 2) ≤ a2 then (zlet (zf_182 Z 0 a2) (fun v115 => (if ((Z 43 0 a2 0) - v115) ≤ 0 then (Z, 0, 15) else (zlet (zdd Z 8 a1 a2 0 0 0 0) (fun Z118 => (zlet (zf_175 Z118 0 0 a1 a2) (fun Z119 => (zlet (zf_182 Z119 0 a2) (fun v120 => (Z119, ((Z119 43 0 a2 0) - v120), 0)))))))))) else (if (Z 43 0 a2 10) ≤ (Z 11 0 0 13) then (zlet (zf_182 Z 0 a2) (fun v124 => (if ((Z 43 0 a2 0) - v124) ≤ 0 then (Z, 0, 15) else (zlet (zdd Z 8 a1 a2 0 0 0 0) (fun Z127 => (zlet (zf_175 Z127 0 0 a1 a2) (fun Z128 => (zlet (zf_182 Z128 0 a2) (fun v129 => (Z128, ((Z128 43 0 a2 0) - v129), 0)))))))))) else (Z, 0, 15))) else (Z, 0, 15))))))) else (if (Z 44 0 a1 10) = 0 then (if (Z 44 0 a1 12) = 6 then (Z, 0, 15) else (if (Z 44 0 a1 12) < 0 then (zlet (zf_182 Z 0 6) (fun v136 => (if (12 - v136) ≤ 0 then (Z, 0, 15) else (zlet (zdd Z 8 a1 a2 0 0 0 0) (fun Z138 => (zlet (zf_175 Z138 0 0 a1 6) (fun Z139 => (zlet (zf_182 Z139 0 6) (fun v140 => (Z139, (12 - v140), 0)))))))))) else (if (Z 11 0 0 2) ≤ (Z 44 0 a1 12) then (zlet (zf_182 Z 0 6) (fun v142 => (if (12 - v142) ≤ 0 then (Z, 0, 15) else (zlet (zdd Z 8 a1 a2 0 0 0 0) (fun Z144 => (zlet (zf_175 Z144 0 0 a1 6) (fun Z145 => (zlet (zf_182 Z145 0 6) (fun v146 => (Z145, (12 - v146), 0)))))))))) else (if (Z 43 0 (Z 44 0 a1 12) 10) ≤ (Z 11 0 0 13) then (zlet (zf_182 Z 0 6) (fun v150 => (if (12 - v150) ≤ 0 then (Z, 0, 15) else (zlet (zdd Z 8 a1 a2 0 0 0 0) (fun Z152 => (zlet (zf_175 Z152 0 0 a1 6) (fun Z153 => (zlet (zf_182 Z153 0 6) (fun v154 => (Z153, (12 - v154), 0)))))))))) else (Z, 0, 15))))) else (if (Z 44 0 a1 10) ≠ 1 then (Z, 0, 15) else (if (Z 44 0 a1 12) = 6 then (Z, 0, 15) else (if (Z 44 0 a1 12) < 0 then (zlet (zf_182 Z 0 6) (fun v159 => (if (12 - v159) ≤ 0 then (Z, 0, 15) else (zlet (zdd Z 8 a1 a2 0 0 0 0) (fun Z161 => (zlet (zf_175 Z161 0 0 a1 6) (fun Z162 => (zlet (zf_182 Z162 0 6) (fun v163 => (Z162, (12 - v163), 0)))))))))) else (if (Z 11 0 0 2) ≤ (Z 44 0 a1 12) then (zlet (zf_182 Z 0 6) (fun v165 => (if (12 - v165) ≤ 0 then (Z, 0, 15) else (zlet (zdd Z 8 a1 a2 0 0 0 0) (fun Z167 => (zlet (zf_175 Z167 0 0 a1 6) (fun Z168 => (zlet (zf_182 Z168 0 6) (fun v169 => (Z168, (12 - v169), 0)))))))))) else (if (Z 43 0 (Z 44 0 a1 12) 10) ≤ (Z 11 0 0 13) then (zlet (zf_182 Z 0 6) (fun v173 => (if (12 - v173) ≤ 0 then (Z, 0, 15) else (zlet (zdd Z 8 a1 a2 0 0 0 0) (fun Z175 => (zlet (zf_175 Z175 0 0 a1 6) (fun Z176 => (zlet (zf_182 Z176 0 6) (fun v177 => (Z176, (12 - v177), 0)))))))))) else (Z, 0, 15)))))))) else (Z, 0, 24)))))
theorem sx_230 {M : Nat} {Z : qz_Z} {ν : qz_N} (hZ : zH ((none, M) : zSM) Z) (hM : ((none, M) : zSM).2 + 2 ≤ 1000000000) {a1 : Int} (ga1 : -2147483648 ≤ a1 ∧ a1 ≤ 2147483647) {a2 : Int} (ga2 : -2147483648 ≤ a2 ∧ a2 ≤ 2147483647) : ∃ (Z1 : qz_Z) (ν1 : qz_N) (v E : Int), (Z1, v, E) = zx_230 Z a1 a2 ∧ qf_230 [.inr (.inr (some (0, 0, 0))), .inl (i3 a1), .inl (i3 a2)] (zm Z ν) = some (zm Z1 ν1, zoX v E) ∧ (fun Z1 ν1 => zH (zb ((none, M) : zSM) 2) Z1 ∧ zC [3, 12, 13, 14, 40, 41, 42, 43, 44, 45, 46, 47, 48, 49, 50, 51, 52, 53, 54, 61, 68, 1099, 1100, 1101, 1102, 1103, 1104, 1105, 1106, 1107, 1108, 1109, 1110, 1111, 1112, 1113, 1114, 1115, 1116] Z Z1 ∧ zU [0, 2, 3, 4, 5, 6, 7, 8, 9] Z Z1 ∧ zG 1 6 ν ν1) Z1 ν1 := by
  obtain ⟨P, hP⟩ := zx (zx_230 Z a1 a2)
  refine zc_G (Q := fun Z1 ν1 => zH (zb ((none, M) : zSM) 2) Z1 ∧ zC [3, 12, 13, 14, 40, 41, 42, 43, 44, 45, 46, 47, 48, 49, 50, 51, 52, 53, 54, 61, 68, 1099, 1100, 1101, 1102, 1103, 1104, 1105, 1106, 1107, 1108, 1109, 1110, 1111, 1112, 1113, 1114, 1115, 1116] Z Z1 ∧ zU [0, 2, 3, 4, 5, 6, 7, 8, 9] Z Z1 ∧ zG 1 6 ν ν1) hP (fw_230 (i3 a1) (i3 a2) _ _ ?_)
  replace hP : zE P (zx_230 Z a1 a2) := hP
  unfold zx_230 at hP
  refine fw_178 _ _ _ _ _ ?_
  refine wz_br (i3L (rfl : i3 a1 = i3 a1) (show (0 : Int32) = i3 0 from rfl) (by omega) (by omega) (by omega) (by omega)) (fun h1 => ?_) (fun h1 => ?_)
  · replace hP := zE_p hP h1
    refine wz_i0 (Eq.trans (i3NE (show (1 : Int32) = i3 1 from rfl) (show (1 : Int32) = i3 1 from rfl) (by omega) (by omega) (by omega) (by omega)) (decide_eq_false (by omega))) ?_
    exact zlGe (E := 23) hP ⟨(zbw (a := 0) (c := 2) hZ (Nat.le_of_ble_eq_true rfl)), zC_r, zU_r, zG_w (zG_k rfl) (Nat.le_of_ble_eq_true rfl) (Nat.le_of_ble_eq_true rfl)⟩
  · replace hP := zE_n hP h1
    have r2 := zH_k hZ 11 0 0 3 (lo := 0) (hi := 48) (by decide) rfl
    refine wz_br (i3Le (zm_rd (Z := Z) (ν := ν) (k := 11) (show ((0 : Nat) : Int) = 0 from rfl) (show ((0 : Nat) : Int) = 0 from rfl) (show ((3 : Nat) : Int) = 3 from rfl)) (rfl : i3 a1 = i3 a1) (by omega) (by omega) (by omega) (by omega)) (fun h3 => ?_) (fun h3 => ?_)
    · replace hP := zE_p hP h3
      refine wz_i0 (Eq.trans (i3NE (show (1 : Int32) = i3 1 from rfl) (show (1 : Int32) = i3 1 from rfl) (by omega) (by omega) (by omega) (by omega)) (decide_eq_false (by omega))) ?_
      exact zlGe (E := 23) hP ⟨(zbw (a := 0) (c := 2) hZ (Nat.le_of_ble_eq_true rfl)), zC_r, zU_r, zG_w (zG_k rfl) (Nat.le_of_ble_eq_true rfl) (Nat.le_of_ble_eq_true rfl)⟩
    · replace hP := zE_n hP h3
      refine wz_br (i3L (rfl : i3 a2 = i3 a2) (show (-1 : Int32) = i3 (-1) from rfl) (by omega) (by omega) (by omega) (by omega)) (fun h4 => ?_) (fun h4 => ?_)
      · replace hP := zE_p hP h4
        refine wz_i0 (Eq.trans (i3NE (show (1 : Int32) = i3 1 from rfl) (show (1 : Int32) = i3 1 from rfl) (by omega) (by omega) (by omega) (by omega)) (decide_eq_false (by omega))) ?_
        exact zlGe (E := 23) hP ⟨(zbw (a := 0) (c := 2) hZ (Nat.le_of_ble_eq_true rfl)), zC_r, zU_r, zG_w (zG_k rfl) (Nat.le_of_ble_eq_true rfl) (Nat.le_of_ble_eq_true rfl)⟩
      · replace hP := zE_n hP h4
        have r5 := zH_k hZ 11 0 0 2 (lo := 0) (hi := 6) (by decide) rfl
        refine wz_br (i3L (rfl : i3 a2 = i3 a2) (zm_rd (Z := Z) (ν := ν) (k := 11) (show ((0 : Nat) : Int) = 0 from rfl) (show ((0 : Nat) : Int) = 0 from rfl) (show ((2 : Nat) : Int) = 2 from rfl)) (by omega) (by omega) (by omega) (by omega)) (fun h6 => ?_) (fun h6 => ?_)
        · replace hP := zE_p hP h6
          refine wz_i0 (i3O (n := 48) (rfl : i3 a1 = i3 a1) (by omega) (by omega) (by omega)) ?_
          refine wz_br (i3NE (rfl : i3 a2 = i3 a2) (show (-1 : Int32) = i3 (-1) from rfl) (by omega) (by omega) (by omega) (by omega)) (fun h7 => ?_) (fun h7 => ?_)
          · replace hP := zE_p hP h7
            have r8 := zH_k hZ 44 0 a1 10 (lo := 0) (hi := 4) (by decide) rfl
            refine wz_br (i3E (zm_rd (Z := Z) (ν := ν) (k := 44) (show ((0 : Nat) : Int) = 0 from rfl) (i3I (y := a1) (rfl : i3 a1 = i3 a1) (by omega) (by omega) (by omega)) (show ((10 : Nat) : Int) = 10 from rfl)) (show (0 : Int32) = i3 0 from rfl) (by omega) (by omega) (by omega) (by omega)) (fun h9 => ?_) (fun h9 => ?_)
            · replace hP := zE_p hP h9
              have r10 := zH_k hZ 44 0 a1 12 (lo := -1) (hi := 6) (by decide) rfl
              refine wz_br (i3E (zm_rd (Z := Z) (ν := ν) (k := 44) (show ((0 : Nat) : Int) = 0 from rfl) (i3I (y := a1) (rfl : i3 a1 = i3 a1) (by omega) (by omega) (by omega)) (show ((12 : Nat) : Int) = 12 from rfl)) (rfl : i3 a2 = i3 a2) (by omega) (by omega) (by omega) (by omega)) (fun h11 => ?_) (fun h11 => ?_)
              · replace hP := zE_p hP h11
                refine wz_i1 (Eq.trans (i3NE (show (3 : Int32) = i3 3 from rfl) (show (1 : Int32) = i3 1 from rfl) (by omega) (by omega) (by omega) (by omega)) (decide_eq_true (by omega))) ?_
                refine wz_i1 (Eq.trans (i3NE (show (3 : Int32) = i3 3 from rfl) (show (2 : Int32) = i3 2 from rfl) (by omega) (by omega) (by omega) (by omega)) (decide_eq_true (by omega))) ?_
                refine wz_i0 (Eq.trans (i3NE (show (3 : Int32) = i3 3 from rfl) (show (3 : Int32) = i3 3 from rfl) (by omega) (by omega) (by omega) (by omega)) (decide_eq_false (by omega))) ?_
                exact zlGe (E := 14) hP ⟨(zbw (a := 0) (c := 2) hZ (Nat.le_of_ble_eq_true rfl)), zC_r, zU_r, zG_w (zG_k rfl) (Nat.le_of_ble_eq_true rfl) (Nat.le_of_ble_eq_true rfl)⟩
              · replace hP := zE_n hP h11
                refine wz_br (i3L (zm_rd (Z := Z) (ν := ν) (k := 44) (show ((0 : Nat) : Int) = 0 from rfl) (i3I (y := a1) (rfl : i3 a1 = i3 a1) (by omega) (by omega) (by omega)) (show ((12 : Nat) : Int) = 12 from rfl)) (show (0 : Int32) = i3 0 from rfl) (by omega) (by omega) (by omega) (by omega)) (fun h12 => ?_) (fun h12 => ?_)
                · replace hP := zE_p hP h12
                  refine wz_i0 (Eq.trans (i3L (rfl : i3 a2 = i3 a2) (show (0 : Int32) = i3 0 from rfl) (by omega) (by omega) (by omega) (by omega)) (decide_eq_false (by omega))) ?_
                  refine wz_br (i3Le (zm_rd (Z := Z) (ν := ν) (k := 11) (show ((0 : Nat) : Int) = 0 from rfl) (show ((0 : Nat) : Int) = 0 from rfl) (show ((2 : Nat) : Int) = 2 from rfl)) (rfl : i3 a2 = i3 a2) (by omega) (by omega) (by omega) (by omega)) (fun h13 => ?_) (fun h13 => ?_)
                  · replace hP := zE_p hP h13
                    refine wz_i1 (Eq.trans (i3NE (rfl : i3 a2 = i3 a2) (show (6 : Int32) = i3 6 from rfl) (by omega) (by omega) (by omega) (by omega)) (decide_eq_true (by omega))) ?_
                    refine wz_i0 (i3O (n := 6) (rfl : i3 a2 = i3 a2) (by omega) (by omega) (by omega)) ?_
                    obtain ⟨v14, hv14, c9, lv14, uv14⟩ := sp_182 (ν := ν) hZ 0 (a1 := a2) (by omega) (zbh (c := 0) (k := 0) hM (Nat.le_of_ble_eq_true rfl))
                    replace hP := zl_e hP hv14
                    refine wz_cI_of (zas (zcons rfl (zcons (zvi (rfl : i3 a2 = i3 a2)) rfl)) c9) ?_
                    clear c9
                    have r15 := zH_k hZ 43 0 a2 0 (lo := 0) (hi := 12) (by decide) rfl
                    refine wz_br (i3Le (i3S (zm_rd (Z := Z) (ν := ν) (k := 43) (show ((0 : Nat) : Int) = 0 from rfl) (i3I (y := a2) (rfl : i3 a2 = i3 a2) (by omega) (by omega) (by omega)) (show ((0 : Nat) : Int) = 0 from rfl)) (rfl : i3 v14 = i3 v14)) (show (0 : Int32) = i3 0 from rfl) (by omega) (by omega) (by omega) (by omega)) (fun h16 => ?_) (fun h16 => ?_)
                    · replace hP := zE_p hP h16
                      refine wz_i1 (Eq.trans (i3NE (show (3 : Int32) = i3 3 from rfl) (show (1 : Int32) = i3 1 from rfl) (by omega) (by omega) (by omega) (by omega)) (decide_eq_true (by omega))) ?_
                      refine wz_i1 (Eq.trans (i3NE (show (3 : Int32) = i3 3 from rfl) (show (2 : Int32) = i3 2 from rfl) (by omega) (by omega) (by omega) (by omega)) (decide_eq_true (by omega))) ?_
                      refine wz_i0 (Eq.trans (i3NE (show (3 : Int32) = i3 3 from rfl) (show (3 : Int32) = i3 3 from rfl) (by omega) (by omega) (by omega) (by omega)) (decide_eq_false (by omega))) ?_
                      exact zlGe (E := 14) hP ⟨(zbw (a := 0) (c := 2) hZ (Nat.le_of_ble_eq_true rfl)), zC_r, zU_r, zG_w (zG_k rfl) (Nat.le_of_ble_eq_true rfl) (Nat.le_of_ble_eq_true rfl)⟩
                    · replace hP := zE_n hP h16
                      refine wz_i1 (Eq.trans (i3NE (show (0 : Int32) = i3 0 from rfl) (show (1 : Int32) = i3 1 from rfl) (by omega) (by omega) (by omega) (by omega)) (decide_eq_true (by omega))) ?_
                      refine wz_i1 (Eq.trans (i3NE (show (0 : Int32) = i3 0 from rfl) (show (2 : Int32) = i3 2 from rfl) (by omega) (by omega) (by omega) (by omega)) (decide_eq_true (by omega))) ?_
                      refine wz_i1 (Eq.trans (i3NE (show (0 : Int32) = i3 0 from rfl) (show (3 : Int32) = i3 3 from rfl) (by omega) (by omega) (by omega) (by omega)) (decide_eq_true (by omega))) ?_
                      refine dc_J (zcons rfl (zcons (zvi (show (8 : Int32) = i3 8 from rfl)) (zcons (zvi (rfl : i3 a1 = i3 a1)) (zcons (zvi (rfl : i3 a2 = i3 a2)) (zcons (zvi (show (0 : Int32) = i3 0 from rfl)) (zcons (zvi (show (0 : Int32) = i3 0 from rfl)) (zcons (zvi (show (0 : Int32) = i3 0 from rfl)) (zcons (zvi (show (0 : Int32) = i3 0 from rfl)) rfl)))))))) (dg (hZ).1 (by omega) (by omega) (by omega) (by omega) (by omega) (by omega) (by omega) ?_)
                      have hZ17I := zH_dd hZ (a1 := 8) (a2 := a1) (a3 := a2) (a4 := 0) (a5 := 0) (a6 := 0) (a7 := 0) (by omega) (by omega) (by omega) (by omega) (by omega) (by omega) (by omega)
                      have kZ17 : zC [3, 12, 13, 14, 40, 41, 42, 43, 44, 45, 46, 47, 48, 49, 50, 51, 52, 53, 54, 61, 68, 1099, 1100, 1101, 1102, 1103, 1104, 1105, 1106, 1107, 1108, 1109, 1110, 1111, 1112, 1113, 1114, 1115, 1116] Z (zdd Z 8 a1 a2 0 0 0 0) := zC_k zdd_K (by decide) (by decide)
                      have hZ17A : (zdd Z 8 a1 a2 0 0 0 0) 68 0 0 0 = 8 ∧ (zdd Z 8 a1 a2 0 0 0 0) 68 0 0 1 = a1 ∧ (zdd Z 8 a1 a2 0 0 0 0) 68 0 0 2 = a2 ∧ (zdd Z 8 a1 a2 0 0 0 0) 68 0 0 3 = 0 ∧ (zdd Z 8 a1 a2 0 0 0 0) 68 0 0 4 = 0 ∧ (zdd Z 8 a1 a2 0 0 0 0) 68 0 0 5 = 0 ∧ (zdd Z 8 a1 a2 0 0 0 0) 68 0 0 6 = 0 := ⟨zdd_68, zdd_68, zdd_68, zdd_68, zdd_68, zdd_68, zdd_68⟩
                      obtain ⟨Z17, hZ17⟩ := zx (zdd Z 8 a1 a2 0 0 0 0)
                      have dZ17 : ∀ {k : Nat} {i j : Int}, zhall k = true → ¬ (k = 11 ∧ (j = 15 ∨ j = 16)) → Z17 k 0 i j = Z k 0 i j := fun hk hj => by rw [hZ17]; exact zdd_h (hZ).1 hk hj
                      have jZ17 : zU [0, 2, 3, 4, 5, 6, 7, 8, 9] Z (zdd Z 8 a1 a2 0 0 0 0) := zU_dd (hZ).1
                      rw [← hZ17] at hZ17I kZ17 jZ17 hZ17A ⊢
                      have hZ17U : zU [0, 2, 3, 4, 5, 6, 7, 8, 9] Z Z17 := zU_t zU_r jZ17 (zU_b1 (List.Mem.head _) (zU_b1 (List.Mem.tail _ (List.Mem.head _)) (zU_b1 (List.Mem.tail _ (List.Mem.tail _ (List.Mem.head _))) (zU_b1 (List.Mem.tail _ (List.Mem.tail _ (List.Mem.tail _ (List.Mem.head _)))) (zU_b1 (List.Mem.tail _ (List.Mem.tail _ (List.Mem.tail _ (List.Mem.tail _ (List.Mem.head _))))) (zU_b1 (List.Mem.tail _ (List.Mem.tail _ (List.Mem.tail _ (List.Mem.tail _ (List.Mem.tail _ (List.Mem.head _)))))) (zU_b1 (List.Mem.tail _ (List.Mem.tail _ (List.Mem.tail _ (List.Mem.tail _ (List.Mem.tail _ (List.Mem.tail _ (List.Mem.head _))))))) (zU_b1 (List.Mem.tail _ (List.Mem.tail _ (List.Mem.tail _ (List.Mem.tail _ (List.Mem.tail _ (List.Mem.tail _ (List.Mem.tail _ (List.Mem.head _)))))))) (zU_b1 (List.Mem.tail _ (List.Mem.tail _ (List.Mem.tail _ (List.Mem.tail _ (List.Mem.tail _ (List.Mem.tail _ (List.Mem.tail _ (List.Mem.tail _ (List.Mem.head _))))))))) zU_b0)))))))))
                      replace hP := zl_e hP hZ17
                      have hZ17K : zC [3, 12, 13, 14, 40, 41, 42, 43, 44, 45, 46, 47, 48, 49, 50, 51, 52, 53, 54, 61, 68, 1099, 1100, 1101, 1102, 1103, 1104, 1105, 1106, 1107, 1108, 1109, 1110, 1111, 1112, 1113, 1114, 1115, 1116] Z Z17 := zC_t zC_r kZ17 (by decide)
                      clear kZ17 hZ17
                      refine fw_121 _ _ _ _ ?_
                      refine wz_i1 rfl ?_
                      refine wz_i0 (i3O (n := 7) (show (0 : Int32) = i3 0 from rfl) (by omega) (by omega) (by omega)) ?_
                      refine wz_i0 (Eq.trans (i3To (Eq.trans (zm_rd (Z := Z17) (ν := ν) (k := 68) (show ((0 : Nat) : Int) = 0 from rfl) (show ((0 : Nat) : Int) = 0 from rfl) (show ((0 : Nat) : Int) = 0 from rfl)) (congrArg i3 ((hZ17A.1)))) (by omega) (by omega)) (decide_eq_false (by omega))) ?_
                      refine wz_i0 (Eq.trans (i3T (Eq.trans (zm_rd (Z := Z17) (ν := ν) (k := 68) (show ((0 : Nat) : Int) = 0 from rfl) (show ((0 : Nat) : Int) = 0 from rfl) (show ((0 : Nat) : Int) = 0 from rfl)) (congrArg i3 ((hZ17A.1)))) (by omega) (by omega)) (decide_eq_false (by omega))) ?_
                      refine wz_i0 (Eq.trans (i3T (Eq.trans (zm_rd (Z := Z17) (ν := ν) (k := 68) (show ((0 : Nat) : Int) = 0 from rfl) (show ((0 : Nat) : Int) = 0 from rfl) (show ((0 : Nat) : Int) = 0 from rfl)) (congrArg i3 ((hZ17A.1)))) (by omega) (by omega)) (decide_eq_false (by omega))) ?_
                      refine wz_i0 (Eq.trans (i3T (Eq.trans (zm_rd (Z := Z17) (ν := ν) (k := 68) (show ((0 : Nat) : Int) = 0 from rfl) (show ((0 : Nat) : Int) = 0 from rfl) (show ((0 : Nat) : Int) = 0 from rfl)) (congrArg i3 ((hZ17A.1)))) (by omega) (by omega)) (decide_eq_false (by omega))) ?_
                      refine wz_i0 (Eq.trans (i3T (Eq.trans (zm_rd (Z := Z17) (ν := ν) (k := 68) (show ((0 : Nat) : Int) = 0 from rfl) (show ((0 : Nat) : Int) = 0 from rfl) (show ((0 : Nat) : Int) = 0 from rfl)) (congrArg i3 ((hZ17A.1)))) (by omega) (by omega)) (decide_eq_false (by omega))) ?_
                      refine wz_i0 (Eq.trans (i3T (Eq.trans (zm_rd (Z := Z17) (ν := ν) (k := 68) (show ((0 : Nat) : Int) = 0 from rfl) (show ((0 : Nat) : Int) = 0 from rfl) (show ((0 : Nat) : Int) = 0 from rfl)) (congrArg i3 ((hZ17A.1)))) (by omega) (by omega)) (decide_eq_false (by omega))) ?_
                      refine wz_i0 (Eq.trans (i3T (Eq.trans (zm_rd (Z := Z17) (ν := ν) (k := 68) (show ((0 : Nat) : Int) = 0 from rfl) (show ((0 : Nat) : Int) = 0 from rfl) (show ((0 : Nat) : Int) = 0 from rfl)) (congrArg i3 ((hZ17A.1)))) (by omega) (by omega)) (decide_eq_false (by omega))) ?_
                      refine wz_i0 (Eq.trans (i3T (Eq.trans (zm_rd (Z := Z17) (ν := ν) (k := 68) (show ((0 : Nat) : Int) = 0 from rfl) (show ((0 : Nat) : Int) = 0 from rfl) (show ((0 : Nat) : Int) = 0 from rfl)) (congrArg i3 ((hZ17A.1)))) (by omega) (by omega)) (decide_eq_false (by omega))) ?_
                      refine wz_i0 (Eq.trans (i3T (Eq.trans (zm_rd (Z := Z17) (ν := ν) (k := 68) (show ((0 : Nat) : Int) = 0 from rfl) (show ((0 : Nat) : Int) = 0 from rfl) (show ((0 : Nat) : Int) = 0 from rfl)) (congrArg i3 ((hZ17A.1)))) (by omega) (by omega)) (decide_eq_false (by omega))) ?_
                      refine wz_i1 (Eq.trans (i3T (Eq.trans (zm_rd (Z := Z17) (ν := ν) (k := 68) (show ((0 : Nat) : Int) = 0 from rfl) (show ((0 : Nat) : Int) = 0 from rfl) (show ((0 : Nat) : Int) = 0 from rfl)) (congrArg i3 ((hZ17A.1)))) (by omega) (by omega)) (decide_eq_true (by omega))) ?_
                      refine wz_i1 rfl ?_
                      refine wz_i0 (i3O (n := 7) (show (1 : Int32) = i3 1 from rfl) (by omega) (by omega) (by omega)) ?_
                      refine wz_i1 rfl ?_
                      refine wz_i0 (i3O (n := 7) (show (2 : Int32) = i3 2 from rfl) (by omega) (by omega) (by omega)) ?_
                      refine wz_i1 (Eq.trans (i3NE (Eq.trans (zm_rd (Z := Z17) (ν := ν) (k := 68) (show ((0 : Nat) : Int) = 0 from rfl) (show ((0 : Nat) : Int) = 0 from rfl) (show ((2 : Nat) : Int) = 2 from rfl)) (congrArg i3 ((hZ17A.2.2.1)))) (show (-1 : Int32) = i3 (-1) from rfl) (by omega) (by omega) (by omega) (by omega)) (decide_eq_true (by omega))) ?_
                      refine wz_i0 (i3O (n := 48) (Eq.trans (zm_rd (Z := Z17) (ν := ν) (k := 68) (show ((0 : Nat) : Int) = 0 from rfl) (show ((0 : Nat) : Int) = 0 from rfl) (show ((1 : Nat) : Int) = 1 from rfl)) (congrArg i3 ((hZ17A.2.1)))) (by omega) (by omega) (by omega)) ?_
                      obtain ⟨Z18, hZ18, c9, hZ18I, kZ18, jZ18⟩ := sp_175 (ν := ν) hZ17I 0 0 _ (i3I (y := a1) (Eq.trans (zm_rd (Z := Z17) (ν := ν) (k := 68) (show ((0 : Nat) : Int) = 0 from rfl) (show ((0 : Nat) : Int) = 0 from rfl) (show ((1 : Nat) : Int) = 1 from rfl)) (congrArg i3 ((hZ17A.2.1)))) (by omega) (by omega) (by omega)) (by omega) (a2 := a2) (by omega) (zbh (c := 0) (k := 2) hM (Nat.le_of_ble_eq_true rfl))
                      have hZ18U : zU [0, 2, 3, 4, 5, 6, 7, 8, 9] Z Z18 := zU_t hZ17U jZ18 (zU_b1 (List.Mem.head _) (zU_b1 (List.Mem.head _) zU_b0))
                      have hZ18K : zC [3, 12, 13, 14, 40, 41, 42, 43, 44, 45, 46, 47, 48, 49, 50, 51, 52, 53, 54, 61, 68, 1099, 1100, 1101, 1102, 1103, 1104, 1105, 1106, 1107, 1108, 1109, 1110, 1111, 1112, 1113, 1114, 1115, 1116] Z Z18 := zC_t hZ17K kZ18 (by decide)
                      replace hP := zl_e hP hZ18
                      refine wz_cV_of (zas (zcons rfl (zcons rfl (zcons (zvi (Eq.trans (zm_rd (Z := Z17) (ν := ν) (k := 68) (show ((0 : Nat) : Int) = 0 from rfl) (show ((0 : Nat) : Int) = 0 from rfl) (show ((2 : Nat) : Int) = 2 from rfl)) (congrArg i3 ((hZ17A.2.2.1))))) rfl))) c9) ?_
                      clear c9
                      refine wz_i1 (Eq.trans (i3NE (Eq.trans (zm_rd (Z := Z17) (ν := ν) (k := 68) (show ((0 : Nat) : Int) = 0 from rfl) (show ((0 : Nat) : Int) = 0 from rfl) (show ((2 : Nat) : Int) = 2 from rfl)) (congrArg i3 ((hZ17A.2.2.1)))) (show (6 : Int32) = i3 6 from rfl) (by omega) (by omega) (by omega) (by omega)) (decide_eq_true (by omega))) ?_
                      refine wz_i0 (i3O (n := 6) (Eq.trans (zm_rd (Z := Z17) (ν := ν) (k := 68) (show ((0 : Nat) : Int) = 0 from rfl) (show ((0 : Nat) : Int) = 0 from rfl) (show ((2 : Nat) : Int) = 2 from rfl)) (congrArg i3 ((hZ17A.2.2.1)))) (by omega) (by omega) (by omega)) ?_
                      obtain ⟨v19, hv19, c9, lv19, uv19⟩ := sp_182 (ν := ν) hZ18I 0 (a1 := a2) (by omega) (zbh (c := 2) (k := 0) hM (Nat.le_of_ble_eq_true rfl))
                      replace hP := zl_e hP hv19
                      refine wz_cI_of (zas (zcons rfl (zcons (zvi (Eq.trans (zm_rd (Z := Z17) (ν := ν) (k := 68) (show ((0 : Nat) : Int) = 0 from rfl) (show ((0 : Nat) : Int) = 0 from rfl) (show ((2 : Nat) : Int) = 2 from rfl)) (congrArg i3 ((hZ17A.2.2.1))))) rfl)) c9) ?_
                      clear c9
                      have r20 := zH_k hZ18I 43 0 a2 0 (lo := 0) (hi := 12) (by decide) rfl
                      exact zlG hP (i3S (zm_rd (Z := Z18) (ν := ν) (k := 43) (show ((0 : Nat) : Int) = 0 from rfl) (i3I (y := a2) (Eq.trans (zm_rd (Z := Z17) (ν := ν) (k := 68) (show ((0 : Nat) : Int) = 0 from rfl) (show ((0 : Nat) : Int) = 0 from rfl) (show ((2 : Nat) : Int) = 2 from rfl)) (congrArg i3 ((hZ17A.2.2.1)))) (by omega) (by omega) (by omega)) (show ((0 : Nat) : Int) = 0 from rfl)) (rfl : i3 v19 = i3 v19)) ⟨hZ18I, hZ18K, hZ18U, zG_w zG_r (Nat.le_of_ble_eq_true rfl) (Nat.le_of_ble_eq_true rfl)⟩
                  · replace hP := zE_n hP h13
                    refine wz_i0 (i3O (n := 6) (rfl : i3 a2 = i3 a2) (by omega) (by omega) (by omega)) ?_
                    have r21 := zH_k hZ 43 0 a2 10 (lo := -1) (hi := 695) (by decide) rfl
                    have r22 := zH_k hZ 11 0 0 13 (lo := 0) (hi := 671) (by decide) rfl
                    refine wz_br (i3Le (zm_rd (Z := Z) (ν := ν) (k := 43) (show ((0 : Nat) : Int) = 0 from rfl) (i3I (y := a2) (rfl : i3 a2 = i3 a2) (by omega) (by omega) (by omega)) (show ((10 : Nat) : Int) = 10 from rfl)) (zm_rd (Z := Z) (ν := ν) (k := 11) (show ((0 : Nat) : Int) = 0 from rfl) (show ((0 : Nat) : Int) = 0 from rfl) (show ((13 : Nat) : Int) = 13 from rfl)) (by omega) (by omega) (by omega) (by omega)) (fun h23 => ?_) (fun h23 => ?_)
                    · replace hP := zE_p hP h23
                      refine wz_i1 (Eq.trans (i3NE (rfl : i3 a2 = i3 a2) (show (6 : Int32) = i3 6 from rfl) (by omega) (by omega) (by omega) (by omega)) (decide_eq_true (by omega))) ?_
                      refine wz_i0 (i3O (n := 6) (rfl : i3 a2 = i3 a2) (by omega) (by omega) (by omega)) ?_
                      obtain ⟨v24, hv24, c9, lv24, uv24⟩ := sp_182 (ν := ν) hZ 0 (a1 := a2) (by omega) (zbh (c := 0) (k := 0) hM (Nat.le_of_ble_eq_true rfl))
                      replace hP := zl_e hP hv24
                      refine wz_cI_of (zas (zcons rfl (zcons (zvi (rfl : i3 a2 = i3 a2)) rfl)) c9) ?_
                      clear c9
                      have r25 := zH_k hZ 43 0 a2 0 (lo := 0) (hi := 12) (by decide) rfl
                      refine wz_br (i3Le (i3S (zm_rd (Z := Z) (ν := ν) (k := 43) (show ((0 : Nat) : Int) = 0 from rfl) (i3I (y := a2) (rfl : i3 a2 = i3 a2) (by omega) (by omega) (by omega)) (show ((0 : Nat) : Int) = 0 from rfl)) (rfl : i3 v24 = i3 v24)) (show (0 : Int32) = i3 0 from rfl) (by omega) (by omega) (by omega) (by omega)) (fun h26 => ?_) (fun h26 => ?_)
                      · replace hP := zE_p hP h26
                        refine wz_i1 (Eq.trans (i3NE (show (3 : Int32) = i3 3 from rfl) (show (1 : Int32) = i3 1 from rfl) (by omega) (by omega) (by omega) (by omega)) (decide_eq_true (by omega))) ?_
                        refine wz_i1 (Eq.trans (i3NE (show (3 : Int32) = i3 3 from rfl) (show (2 : Int32) = i3 2 from rfl) (by omega) (by omega) (by omega) (by omega)) (decide_eq_true (by omega))) ?_
                        refine wz_i0 (Eq.trans (i3NE (show (3 : Int32) = i3 3 from rfl) (show (3 : Int32) = i3 3 from rfl) (by omega) (by omega) (by omega) (by omega)) (decide_eq_false (by omega))) ?_
                        exact zlGe (E := 14) hP ⟨(zbw (a := 0) (c := 2) hZ (Nat.le_of_ble_eq_true rfl)), zC_r, zU_r, zG_w (zG_k rfl) (Nat.le_of_ble_eq_true rfl) (Nat.le_of_ble_eq_true rfl)⟩
                      · replace hP := zE_n hP h26
                        refine wz_i1 (Eq.trans (i3NE (show (0 : Int32) = i3 0 from rfl) (show (1 : Int32) = i3 1 from rfl) (by omega) (by omega) (by omega) (by omega)) (decide_eq_true (by omega))) ?_
                        refine wz_i1 (Eq.trans (i3NE (show (0 : Int32) = i3 0 from rfl) (show (2 : Int32) = i3 2 from rfl) (by omega) (by omega) (by omega) (by omega)) (decide_eq_true (by omega))) ?_
                        refine wz_i1 (Eq.trans (i3NE (show (0 : Int32) = i3 0 from rfl) (show (3 : Int32) = i3 3 from rfl) (by omega) (by omega) (by omega) (by omega)) (decide_eq_true (by omega))) ?_
                        refine dc_J (zcons rfl (zcons (zvi (show (8 : Int32) = i3 8 from rfl)) (zcons (zvi (rfl : i3 a1 = i3 a1)) (zcons (zvi (rfl : i3 a2 = i3 a2)) (zcons (zvi (show (0 : Int32) = i3 0 from rfl)) (zcons (zvi (show (0 : Int32) = i3 0 from rfl)) (zcons (zvi (show (0 : Int32) = i3 0 from rfl)) (zcons (zvi (show (0 : Int32) = i3 0 from rfl)) rfl)))))))) (dg (hZ).1 (by omega) (by omega) (by omega) (by omega) (by omega) (by omega) (by omega) ?_)
                        have hZ27I := zH_dd hZ (a1 := 8) (a2 := a1) (a3 := a2) (a4 := 0) (a5 := 0) (a6 := 0) (a7 := 0) (by omega) (by omega) (by omega) (by omega) (by omega) (by omega) (by omega)
                        have kZ27 : zC [3, 12, 13, 14, 40, 41, 42, 43, 44, 45, 46, 47, 48, 49, 50, 51, 52, 53, 54, 61, 68, 1099, 1100, 1101, 1102, 1103, 1104, 1105, 1106, 1107, 1108, 1109, 1110, 1111, 1112, 1113, 1114, 1115, 1116] Z (zdd Z 8 a1 a2 0 0 0 0) := zC_k zdd_K (by decide) (by decide)
                        have hZ27A : (zdd Z 8 a1 a2 0 0 0 0) 68 0 0 0 = 8 ∧ (zdd Z 8 a1 a2 0 0 0 0) 68 0 0 1 = a1 ∧ (zdd Z 8 a1 a2 0 0 0 0) 68 0 0 2 = a2 ∧ (zdd Z 8 a1 a2 0 0 0 0) 68 0 0 3 = 0 ∧ (zdd Z 8 a1 a2 0 0 0 0) 68 0 0 4 = 0 ∧ (zdd Z 8 a1 a2 0 0 0 0) 68 0 0 5 = 0 ∧ (zdd Z 8 a1 a2 0 0 0 0) 68 0 0 6 = 0 := ⟨zdd_68, zdd_68, zdd_68, zdd_68, zdd_68, zdd_68, zdd_68⟩
                        obtain ⟨Z27, hZ27⟩ := zx (zdd Z 8 a1 a2 0 0 0 0)
                        have dZ27 : ∀ {k : Nat} {i j : Int}, zhall k = true → ¬ (k = 11 ∧ (j = 15 ∨ j = 16)) → Z27 k 0 i j = Z k 0 i j := fun hk hj => by rw [hZ27]; exact zdd_h (hZ).1 hk hj
                        have jZ27 : zU [0, 2, 3, 4, 5, 6, 7, 8, 9] Z (zdd Z 8 a1 a2 0 0 0 0) := zU_dd (hZ).1
                        rw [← hZ27] at hZ27I kZ27 jZ27 hZ27A ⊢
                        have hZ27U : zU [0, 2, 3, 4, 5, 6, 7, 8, 9] Z Z27 := zU_t zU_r jZ27 (zU_b1 (List.Mem.head _) (zU_b1 (List.Mem.tail _ (List.Mem.head _)) (zU_b1 (List.Mem.tail _ (List.Mem.tail _ (List.Mem.head _))) (zU_b1 (List.Mem.tail _ (List.Mem.tail _ (List.Mem.tail _ (List.Mem.head _)))) (zU_b1 (List.Mem.tail _ (List.Mem.tail _ (List.Mem.tail _ (List.Mem.tail _ (List.Mem.head _))))) (zU_b1 (List.Mem.tail _ (List.Mem.tail _ (List.Mem.tail _ (List.Mem.tail _ (List.Mem.tail _ (List.Mem.head _)))))) (zU_b1 (List.Mem.tail _ (List.Mem.tail _ (List.Mem.tail _ (List.Mem.tail _ (List.Mem.tail _ (List.Mem.tail _ (List.Mem.head _))))))) (zU_b1 (List.Mem.tail _ (List.Mem.tail _ (List.Mem.tail _ (List.Mem.tail _ (List.Mem.tail _ (List.Mem.tail _ (List.Mem.tail _ (List.Mem.head _)))))))) (zU_b1 (List.Mem.tail _ (List.Mem.tail _ (List.Mem.tail _ (List.Mem.tail _ (List.Mem.tail _ (List.Mem.tail _ (List.Mem.tail _ (List.Mem.tail _ (List.Mem.head _))))))))) zU_b0)))))))))
                        replace hP := zl_e hP hZ27
                        have hZ27K : zC [3, 12, 13, 14, 40, 41, 42, 43, 44, 45, 46, 47, 48, 49, 50, 51, 52, 53, 54, 61, 68, 1099, 1100, 1101, 1102, 1103, 1104, 1105, 1106, 1107, 1108, 1109, 1110, 1111, 1112, 1113, 1114, 1115, 1116] Z Z27 := zC_t zC_r kZ27 (by decide)
                        clear kZ27 hZ27
                        refine fw_121 _ _ _ _ ?_
                        refine wz_i1 rfl ?_
                        refine wz_i0 (i3O (n := 7) (show (0 : Int32) = i3 0 from rfl) (by omega) (by omega) (by omega)) ?_
                        refine wz_i0 (Eq.trans (i3To (Eq.trans (zm_rd (Z := Z27) (ν := ν) (k := 68) (show ((0 : Nat) : Int) = 0 from rfl) (show ((0 : Nat) : Int) = 0 from rfl) (show ((0 : Nat) : Int) = 0 from rfl)) (congrArg i3 ((hZ27A.1)))) (by omega) (by omega)) (decide_eq_false (by omega))) ?_
                        refine wz_i0 (Eq.trans (i3T (Eq.trans (zm_rd (Z := Z27) (ν := ν) (k := 68) (show ((0 : Nat) : Int) = 0 from rfl) (show ((0 : Nat) : Int) = 0 from rfl) (show ((0 : Nat) : Int) = 0 from rfl)) (congrArg i3 ((hZ27A.1)))) (by omega) (by omega)) (decide_eq_false (by omega))) ?_
                        refine wz_i0 (Eq.trans (i3T (Eq.trans (zm_rd (Z := Z27) (ν := ν) (k := 68) (show ((0 : Nat) : Int) = 0 from rfl) (show ((0 : Nat) : Int) = 0 from rfl) (show ((0 : Nat) : Int) = 0 from rfl)) (congrArg i3 ((hZ27A.1)))) (by omega) (by omega)) (decide_eq_false (by omega))) ?_
                        refine wz_i0 (Eq.trans (i3T (Eq.trans (zm_rd (Z := Z27) (ν := ν) (k := 68) (show ((0 : Nat) : Int) = 0 from rfl) (show ((0 : Nat) : Int) = 0 from rfl) (show ((0 : Nat) : Int) = 0 from rfl)) (congrArg i3 ((hZ27A.1)))) (by omega) (by omega)) (decide_eq_false (by omega))) ?_
                        refine wz_i0 (Eq.trans (i3T (Eq.trans (zm_rd (Z := Z27) (ν := ν) (k := 68) (show ((0 : Nat) : Int) = 0 from rfl) (show ((0 : Nat) : Int) = 0 from rfl) (show ((0 : Nat) : Int) = 0 from rfl)) (congrArg i3 ((hZ27A.1)))) (by omega) (by omega)) (decide_eq_false (by omega))) ?_
                        refine wz_i0 (Eq.trans (i3T (Eq.trans (zm_rd (Z := Z27) (ν := ν) (k := 68) (show ((0 : Nat) : Int) = 0 from rfl) (show ((0 : Nat) : Int) = 0 from rfl) (show ((0 : Nat) : Int) = 0 from rfl)) (congrArg i3 ((hZ27A.1)))) (by omega) (by omega)) (decide_eq_false (by omega))) ?_
                        refine wz_i0 (Eq.trans (i3T (Eq.trans (zm_rd (Z := Z27) (ν := ν) (k := 68) (show ((0 : Nat) : Int) = 0 from rfl) (show ((0 : Nat) : Int) = 0 from rfl) (show ((0 : Nat) : Int) = 0 from rfl)) (congrArg i3 ((hZ27A.1)))) (by omega) (by omega)) (decide_eq_false (by omega))) ?_
                        refine wz_i0 (Eq.trans (i3T (Eq.trans (zm_rd (Z := Z27) (ν := ν) (k := 68) (show ((0 : Nat) : Int) = 0 from rfl) (show ((0 : Nat) : Int) = 0 from rfl) (show ((0 : Nat) : Int) = 0 from rfl)) (congrArg i3 ((hZ27A.1)))) (by omega) (by omega)) (decide_eq_false (by omega))) ?_
                        refine wz_i0 (Eq.trans (i3T (Eq.trans (zm_rd (Z := Z27) (ν := ν) (k := 68) (show ((0 : Nat) : Int) = 0 from rfl) (show ((0 : Nat) : Int) = 0 from rfl) (show ((0 : Nat) : Int) = 0 from rfl)) (congrArg i3 ((hZ27A.1)))) (by omega) (by omega)) (decide_eq_false (by omega))) ?_
                        refine wz_i1 (Eq.trans (i3T (Eq.trans (zm_rd (Z := Z27) (ν := ν) (k := 68) (show ((0 : Nat) : Int) = 0 from rfl) (show ((0 : Nat) : Int) = 0 from rfl) (show ((0 : Nat) : Int) = 0 from rfl)) (congrArg i3 ((hZ27A.1)))) (by omega) (by omega)) (decide_eq_true (by omega))) ?_
                        refine wz_i1 rfl ?_
                        refine wz_i0 (i3O (n := 7) (show (1 : Int32) = i3 1 from rfl) (by omega) (by omega) (by omega)) ?_
                        refine wz_i1 rfl ?_
                        refine wz_i0 (i3O (n := 7) (show (2 : Int32) = i3 2 from rfl) (by omega) (by omega) (by omega)) ?_
                        refine wz_i1 (Eq.trans (i3NE (Eq.trans (zm_rd (Z := Z27) (ν := ν) (k := 68) (show ((0 : Nat) : Int) = 0 from rfl) (show ((0 : Nat) : Int) = 0 from rfl) (show ((2 : Nat) : Int) = 2 from rfl)) (congrArg i3 ((hZ27A.2.2.1)))) (show (-1 : Int32) = i3 (-1) from rfl) (by omega) (by omega) (by omega) (by omega)) (decide_eq_true (by omega))) ?_
                        refine wz_i0 (i3O (n := 48) (Eq.trans (zm_rd (Z := Z27) (ν := ν) (k := 68) (show ((0 : Nat) : Int) = 0 from rfl) (show ((0 : Nat) : Int) = 0 from rfl) (show ((1 : Nat) : Int) = 1 from rfl)) (congrArg i3 ((hZ27A.2.1)))) (by omega) (by omega) (by omega)) ?_
                        obtain ⟨Z28, hZ28, c9, hZ28I, kZ28, jZ28⟩ := sp_175 (ν := ν) hZ27I 0 0 _ (i3I (y := a1) (Eq.trans (zm_rd (Z := Z27) (ν := ν) (k := 68) (show ((0 : Nat) : Int) = 0 from rfl) (show ((0 : Nat) : Int) = 0 from rfl) (show ((1 : Nat) : Int) = 1 from rfl)) (congrArg i3 ((hZ27A.2.1)))) (by omega) (by omega) (by omega)) (by omega) (a2 := a2) (by omega) (zbh (c := 0) (k := 2) hM (Nat.le_of_ble_eq_true rfl))
                        have hZ28U : zU [0, 2, 3, 4, 5, 6, 7, 8, 9] Z Z28 := zU_t hZ27U jZ28 (zU_b1 (List.Mem.head _) (zU_b1 (List.Mem.head _) zU_b0))
                        have hZ28K : zC [3, 12, 13, 14, 40, 41, 42, 43, 44, 45, 46, 47, 48, 49, 50, 51, 52, 53, 54, 61, 68, 1099, 1100, 1101, 1102, 1103, 1104, 1105, 1106, 1107, 1108, 1109, 1110, 1111, 1112, 1113, 1114, 1115, 1116] Z Z28 := zC_t hZ27K kZ28 (by decide)
                        replace hP := zl_e hP hZ28
                        refine wz_cV_of (zas (zcons rfl (zcons rfl (zcons (zvi (Eq.trans (zm_rd (Z := Z27) (ν := ν) (k := 68) (show ((0 : Nat) : Int) = 0 from rfl) (show ((0 : Nat) : Int) = 0 from rfl) (show ((2 : Nat) : Int) = 2 from rfl)) (congrArg i3 ((hZ27A.2.2.1))))) rfl))) c9) ?_
                        clear c9
                        refine wz_i1 (Eq.trans (i3NE (Eq.trans (zm_rd (Z := Z27) (ν := ν) (k := 68) (show ((0 : Nat) : Int) = 0 from rfl) (show ((0 : Nat) : Int) = 0 from rfl) (show ((2 : Nat) : Int) = 2 from rfl)) (congrArg i3 ((hZ27A.2.2.1)))) (show (6 : Int32) = i3 6 from rfl) (by omega) (by omega) (by omega) (by omega)) (decide_eq_true (by omega))) ?_
                        refine wz_i0 (i3O (n := 6) (Eq.trans (zm_rd (Z := Z27) (ν := ν) (k := 68) (show ((0 : Nat) : Int) = 0 from rfl) (show ((0 : Nat) : Int) = 0 from rfl) (show ((2 : Nat) : Int) = 2 from rfl)) (congrArg i3 ((hZ27A.2.2.1)))) (by omega) (by omega) (by omega)) ?_
                        obtain ⟨v29, hv29, c9, lv29, uv29⟩ := sp_182 (ν := ν) hZ28I 0 (a1 := a2) (by omega) (zbh (c := 2) (k := 0) hM (Nat.le_of_ble_eq_true rfl))
                        replace hP := zl_e hP hv29
                        refine wz_cI_of (zas (zcons rfl (zcons (zvi (Eq.trans (zm_rd (Z := Z27) (ν := ν) (k := 68) (show ((0 : Nat) : Int) = 0 from rfl) (show ((0 : Nat) : Int) = 0 from rfl) (show ((2 : Nat) : Int) = 2 from rfl)) (congrArg i3 ((hZ27A.2.2.1))))) rfl)) c9) ?_
                        clear c9
                        have r30 := zH_k hZ28I 43 0 a2 0 (lo := 0) (hi := 12) (by decide) rfl
                        exact zlG hP (i3S (zm_rd (Z := Z28) (ν := ν) (k := 43) (show ((0 : Nat) : Int) = 0 from rfl) (i3I (y := a2) (Eq.trans (zm_rd (Z := Z27) (ν := ν) (k := 68) (show ((0 : Nat) : Int) = 0 from rfl) (show ((0 : Nat) : Int) = 0 from rfl) (show ((2 : Nat) : Int) = 2 from rfl)) (congrArg i3 ((hZ27A.2.2.1)))) (by omega) (by omega) (by omega)) (show ((0 : Nat) : Int) = 0 from rfl)) (rfl : i3 v29 = i3 v29)) ⟨hZ28I, hZ28K, hZ28U, zG_w zG_r (Nat.le_of_ble_eq_true rfl) (Nat.le_of_ble_eq_true rfl)⟩
                    · replace hP := zE_n hP h23
                      refine wz_i1 (Eq.trans (i3NE (show (3 : Int32) = i3 3 from rfl) (show (1 : Int32) = i3 1 from rfl) (by omega) (by omega) (by omega) (by omega)) (decide_eq_true (by omega))) ?_
                      refine wz_i1 (Eq.trans (i3NE (show (3 : Int32) = i3 3 from rfl) (show (2 : Int32) = i3 2 from rfl) (by omega) (by omega) (by omega) (by omega)) (decide_eq_true (by omega))) ?_
                      refine wz_i0 (Eq.trans (i3NE (show (3 : Int32) = i3 3 from rfl) (show (3 : Int32) = i3 3 from rfl) (by omega) (by omega) (by omega) (by omega)) (decide_eq_false (by omega))) ?_
                      exact zlGe (E := 14) hP ⟨(zbw (a := 0) (c := 2) hZ (Nat.le_of_ble_eq_true rfl)), zC_r, zU_r, zG_w (zG_k rfl) (Nat.le_of_ble_eq_true rfl) (Nat.le_of_ble_eq_true rfl)⟩
                · replace hP := zE_n hP h12
                  refine wz_br (i3Le (zm_rd (Z := Z) (ν := ν) (k := 11) (show ((0 : Nat) : Int) = 0 from rfl) (show ((0 : Nat) : Int) = 0 from rfl) (show ((2 : Nat) : Int) = 2 from rfl)) (zm_rd (Z := Z) (ν := ν) (k := 44) (show ((0 : Nat) : Int) = 0 from rfl) (i3I (y := a1) (rfl : i3 a1 = i3 a1) (by omega) (by omega) (by omega)) (show ((12 : Nat) : Int) = 12 from rfl)) (by omega) (by omega) (by omega) (by omega)) (fun h31 => ?_) (fun h31 => ?_)
                  · replace hP := zE_p hP h31
                    refine wz_i0 (Eq.trans (i3L (rfl : i3 a2 = i3 a2) (show (0 : Int32) = i3 0 from rfl) (by omega) (by omega) (by omega) (by omega)) (decide_eq_false (by omega))) ?_
                    refine wz_br (i3Le (zm_rd (Z := Z) (ν := ν) (k := 11) (show ((0 : Nat) : Int) = 0 from rfl) (show ((0 : Nat) : Int) = 0 from rfl) (show ((2 : Nat) : Int) = 2 from rfl)) (rfl : i3 a2 = i3 a2) (by omega) (by omega) (by omega) (by omega)) (fun h32 => ?_) (fun h32 => ?_)
                    · replace hP := zE_p hP h32
                      refine wz_i1 (Eq.trans (i3NE (rfl : i3 a2 = i3 a2) (show (6 : Int32) = i3 6 from rfl) (by omega) (by omega) (by omega) (by omega)) (decide_eq_true (by omega))) ?_
                      refine wz_i0 (i3O (n := 6) (rfl : i3 a2 = i3 a2) (by omega) (by omega) (by omega)) ?_
                      obtain ⟨v33, hv33, c9, lv33, uv33⟩ := sp_182 (ν := ν) hZ 0 (a1 := a2) (by omega) (zbh (c := 0) (k := 0) hM (Nat.le_of_ble_eq_true rfl))
                      replace hP := zl_e hP hv33
                      refine wz_cI_of (zas (zcons rfl (zcons (zvi (rfl : i3 a2 = i3 a2)) rfl)) c9) ?_
                      clear c9
                      have r34 := zH_k hZ 43 0 a2 0 (lo := 0) (hi := 12) (by decide) rfl
                      refine wz_br (i3Le (i3S (zm_rd (Z := Z) (ν := ν) (k := 43) (show ((0 : Nat) : Int) = 0 from rfl) (i3I (y := a2) (rfl : i3 a2 = i3 a2) (by omega) (by omega) (by omega)) (show ((0 : Nat) : Int) = 0 from rfl)) (rfl : i3 v33 = i3 v33)) (show (0 : Int32) = i3 0 from rfl) (by omega) (by omega) (by omega) (by omega)) (fun h35 => ?_) (fun h35 => ?_)
                      · replace hP := zE_p hP h35
                        refine wz_i1 (Eq.trans (i3NE (show (3 : Int32) = i3 3 from rfl) (show (1 : Int32) = i3 1 from rfl) (by omega) (by omega) (by omega) (by omega)) (decide_eq_true (by omega))) ?_
                        refine wz_i1 (Eq.trans (i3NE (show (3 : Int32) = i3 3 from rfl) (show (2 : Int32) = i3 2 from rfl) (by omega) (by omega) (by omega) (by omega)) (decide_eq_true (by omega))) ?_
                        refine wz_i0 (Eq.trans (i3NE (show (3 : Int32) = i3 3 from rfl) (show (3 : Int32) = i3 3 from rfl) (by omega) (by omega) (by omega) (by omega)) (decide_eq_false (by omega))) ?_
                        exact zlGe (E := 14) hP ⟨(zbw (a := 0) (c := 2) hZ (Nat.le_of_ble_eq_true rfl)), zC_r, zU_r, zG_w (zG_k rfl) (Nat.le_of_ble_eq_true rfl) (Nat.le_of_ble_eq_true rfl)⟩
                      · replace hP := zE_n hP h35
                        refine wz_i1 (Eq.trans (i3NE (show (0 : Int32) = i3 0 from rfl) (show (1 : Int32) = i3 1 from rfl) (by omega) (by omega) (by omega) (by omega)) (decide_eq_true (by omega))) ?_
                        refine wz_i1 (Eq.trans (i3NE (show (0 : Int32) = i3 0 from rfl) (show (2 : Int32) = i3 2 from rfl) (by omega) (by omega) (by omega) (by omega)) (decide_eq_true (by omega))) ?_
                        refine wz_i1 (Eq.trans (i3NE (show (0 : Int32) = i3 0 from rfl) (show (3 : Int32) = i3 3 from rfl) (by omega) (by omega) (by omega) (by omega)) (decide_eq_true (by omega))) ?_
                        refine dc_J (zcons rfl (zcons (zvi (show (8 : Int32) = i3 8 from rfl)) (zcons (zvi (rfl : i3 a1 = i3 a1)) (zcons (zvi (rfl : i3 a2 = i3 a2)) (zcons (zvi (show (0 : Int32) = i3 0 from rfl)) (zcons (zvi (show (0 : Int32) = i3 0 from rfl)) (zcons (zvi (show (0 : Int32) = i3 0 from rfl)) (zcons (zvi (show (0 : Int32) = i3 0 from rfl)) rfl)))))))) (dg (hZ).1 (by omega) (by omega) (by omega) (by omega) (by omega) (by omega) (by omega) ?_)
                        have hZ36I := zH_dd hZ (a1 := 8) (a2 := a1) (a3 := a2) (a4 := 0) (a5 := 0) (a6 := 0) (a7 := 0) (by omega) (by omega) (by omega) (by omega) (by omega) (by omega) (by omega)
                        have kZ36 : zC [3, 12, 13, 14, 40, 41, 42, 43, 44, 45, 46, 47, 48, 49, 50, 51, 52, 53, 54, 61, 68, 1099, 1100, 1101, 1102, 1103, 1104, 1105, 1106, 1107, 1108, 1109, 1110, 1111, 1112, 1113, 1114, 1115, 1116] Z (zdd Z 8 a1 a2 0 0 0 0) := zC_k zdd_K (by decide) (by decide)
                        have hZ36A : (zdd Z 8 a1 a2 0 0 0 0) 68 0 0 0 = 8 ∧ (zdd Z 8 a1 a2 0 0 0 0) 68 0 0 1 = a1 ∧ (zdd Z 8 a1 a2 0 0 0 0) 68 0 0 2 = a2 ∧ (zdd Z 8 a1 a2 0 0 0 0) 68 0 0 3 = 0 ∧ (zdd Z 8 a1 a2 0 0 0 0) 68 0 0 4 = 0 ∧ (zdd Z 8 a1 a2 0 0 0 0) 68 0 0 5 = 0 ∧ (zdd Z 8 a1 a2 0 0 0 0) 68 0 0 6 = 0 := ⟨zdd_68, zdd_68, zdd_68, zdd_68, zdd_68, zdd_68, zdd_68⟩
                        obtain ⟨Z36, hZ36⟩ := zx (zdd Z 8 a1 a2 0 0 0 0)
                        have dZ36 : ∀ {k : Nat} {i j : Int}, zhall k = true → ¬ (k = 11 ∧ (j = 15 ∨ j = 16)) → Z36 k 0 i j = Z k 0 i j := fun hk hj => by rw [hZ36]; exact zdd_h (hZ).1 hk hj
                        have jZ36 : zU [0, 2, 3, 4, 5, 6, 7, 8, 9] Z (zdd Z 8 a1 a2 0 0 0 0) := zU_dd (hZ).1
                        rw [← hZ36] at hZ36I kZ36 jZ36 hZ36A ⊢
                        have hZ36U : zU [0, 2, 3, 4, 5, 6, 7, 8, 9] Z Z36 := zU_t zU_r jZ36 (zU_b1 (List.Mem.head _) (zU_b1 (List.Mem.tail _ (List.Mem.head _)) (zU_b1 (List.Mem.tail _ (List.Mem.tail _ (List.Mem.head _))) (zU_b1 (List.Mem.tail _ (List.Mem.tail _ (List.Mem.tail _ (List.Mem.head _)))) (zU_b1 (List.Mem.tail _ (List.Mem.tail _ (List.Mem.tail _ (List.Mem.tail _ (List.Mem.head _))))) (zU_b1 (List.Mem.tail _ (List.Mem.tail _ (List.Mem.tail _ (List.Mem.tail _ (List.Mem.tail _ (List.Mem.head _)))))) (zU_b1 (List.Mem.tail _ (List.Mem.tail _ (List.Mem.tail _ (List.Mem.tail _ (List.Mem.tail _ (List.Mem.tail _ (List.Mem.head _))))))) (zU_b1 (List.Mem.tail _ (List.Mem.tail _ (List.Mem.tail _ (List.Mem.tail _ (List.Mem.tail _ (List.Mem.tail _ (List.Mem.tail _ (List.Mem.head _)))))))) (zU_b1 (List.Mem.tail _ (List.Mem.tail _ (List.Mem.tail _ (List.Mem.tail _ (List.Mem.tail _ (List.Mem.tail _ (List.Mem.tail _ (List.Mem.tail _ (List.Mem.head _))))))))) zU_b0)))))))))
                        replace hP := zl_e hP hZ36
                        have hZ36K : zC [3, 12, 13, 14, 40, 41, 42, 43, 44, 45, 46, 47, 48, 49, 50, 51, 52, 53, 54, 61, 68, 1099, 1100, 1101, 1102, 1103, 1104, 1105, 1106, 1107, 1108, 1109, 1110, 1111, 1112, 1113, 1114, 1115, 1116] Z Z36 := zC_t zC_r kZ36 (by decide)
                        clear kZ36 hZ36
                        refine fw_121 _ _ _ _ ?_
                        refine wz_i1 rfl ?_
                        refine wz_i0 (i3O (n := 7) (show (0 : Int32) = i3 0 from rfl) (by omega) (by omega) (by omega)) ?_
                        refine wz_i0 (Eq.trans (i3To (Eq.trans (zm_rd (Z := Z36) (ν := ν) (k := 68) (show ((0 : Nat) : Int) = 0 from rfl) (show ((0 : Nat) : Int) = 0 from rfl) (show ((0 : Nat) : Int) = 0 from rfl)) (congrArg i3 ((hZ36A.1)))) (by omega) (by omega)) (decide_eq_false (by omega))) ?_
                        refine wz_i0 (Eq.trans (i3T (Eq.trans (zm_rd (Z := Z36) (ν := ν) (k := 68) (show ((0 : Nat) : Int) = 0 from rfl) (show ((0 : Nat) : Int) = 0 from rfl) (show ((0 : Nat) : Int) = 0 from rfl)) (congrArg i3 ((hZ36A.1)))) (by omega) (by omega)) (decide_eq_false (by omega))) ?_
                        refine wz_i0 (Eq.trans (i3T (Eq.trans (zm_rd (Z := Z36) (ν := ν) (k := 68) (show ((0 : Nat) : Int) = 0 from rfl) (show ((0 : Nat) : Int) = 0 from rfl) (show ((0 : Nat) : Int) = 0 from rfl)) (congrArg i3 ((hZ36A.1)))) (by omega) (by omega)) (decide_eq_false (by omega))) ?_
                        refine wz_i0 (Eq.trans (i3T (Eq.trans (zm_rd (Z := Z36) (ν := ν) (k := 68) (show ((0 : Nat) : Int) = 0 from rfl) (show ((0 : Nat) : Int) = 0 from rfl) (show ((0 : Nat) : Int) = 0 from rfl)) (congrArg i3 ((hZ36A.1)))) (by omega) (by omega)) (decide_eq_false (by omega))) ?_
                        refine wz_i0 (Eq.trans (i3T (Eq.trans (zm_rd (Z := Z36) (ν := ν) (k := 68) (show ((0 : Nat) : Int) = 0 from rfl) (show ((0 : Nat) : Int) = 0 from rfl) (show ((0 : Nat) : Int) = 0 from rfl)) (congrArg i3 ((hZ36A.1)))) (by omega) (by omega)) (decide_eq_false (by omega))) ?_
                        refine wz_i0 (Eq.trans (i3T (Eq.trans (zm_rd (Z := Z36) (ν := ν) (k := 68) (show ((0 : Nat) : Int) = 0 from rfl) (show ((0 : Nat) : Int) = 0 from rfl) (show ((0 : Nat) : Int) = 0 from rfl)) (congrArg i3 ((hZ36A.1)))) (by omega) (by omega)) (decide_eq_false (by omega))) ?_
                        refine wz_i0 (Eq.trans (i3T (Eq.trans (zm_rd (Z := Z36) (ν := ν) (k := 68) (show ((0 : Nat) : Int) = 0 from rfl) (show ((0 : Nat) : Int) = 0 from rfl) (show ((0 : Nat) : Int) = 0 from rfl)) (congrArg i3 ((hZ36A.1)))) (by omega) (by omega)) (decide_eq_false (by omega))) ?_
                        refine wz_i0 (Eq.trans (i3T (Eq.trans (zm_rd (Z := Z36) (ν := ν) (k := 68) (show ((0 : Nat) : Int) = 0 from rfl) (show ((0 : Nat) : Int) = 0 from rfl) (show ((0 : Nat) : Int) = 0 from rfl)) (congrArg i3 ((hZ36A.1)))) (by omega) (by omega)) (decide_eq_false (by omega))) ?_
                        refine wz_i0 (Eq.trans (i3T (Eq.trans (zm_rd (Z := Z36) (ν := ν) (k := 68) (show ((0 : Nat) : Int) = 0 from rfl) (show ((0 : Nat) : Int) = 0 from rfl) (show ((0 : Nat) : Int) = 0 from rfl)) (congrArg i3 ((hZ36A.1)))) (by omega) (by omega)) (decide_eq_false (by omega))) ?_
                        refine wz_i1 (Eq.trans (i3T (Eq.trans (zm_rd (Z := Z36) (ν := ν) (k := 68) (show ((0 : Nat) : Int) = 0 from rfl) (show ((0 : Nat) : Int) = 0 from rfl) (show ((0 : Nat) : Int) = 0 from rfl)) (congrArg i3 ((hZ36A.1)))) (by omega) (by omega)) (decide_eq_true (by omega))) ?_
                        refine wz_i1 rfl ?_
                        refine wz_i0 (i3O (n := 7) (show (1 : Int32) = i3 1 from rfl) (by omega) (by omega) (by omega)) ?_
                        refine wz_i1 rfl ?_
                        refine wz_i0 (i3O (n := 7) (show (2 : Int32) = i3 2 from rfl) (by omega) (by omega) (by omega)) ?_
                        refine wz_i1 (Eq.trans (i3NE (Eq.trans (zm_rd (Z := Z36) (ν := ν) (k := 68) (show ((0 : Nat) : Int) = 0 from rfl) (show ((0 : Nat) : Int) = 0 from rfl) (show ((2 : Nat) : Int) = 2 from rfl)) (congrArg i3 ((hZ36A.2.2.1)))) (show (-1 : Int32) = i3 (-1) from rfl) (by omega) (by omega) (by omega) (by omega)) (decide_eq_true (by omega))) ?_
                        refine wz_i0 (i3O (n := 48) (Eq.trans (zm_rd (Z := Z36) (ν := ν) (k := 68) (show ((0 : Nat) : Int) = 0 from rfl) (show ((0 : Nat) : Int) = 0 from rfl) (show ((1 : Nat) : Int) = 1 from rfl)) (congrArg i3 ((hZ36A.2.1)))) (by omega) (by omega) (by omega)) ?_
                        obtain ⟨Z37, hZ37, c9, hZ37I, kZ37, jZ37⟩ := sp_175 (ν := ν) hZ36I 0 0 _ (i3I (y := a1) (Eq.trans (zm_rd (Z := Z36) (ν := ν) (k := 68) (show ((0 : Nat) : Int) = 0 from rfl) (show ((0 : Nat) : Int) = 0 from rfl) (show ((1 : Nat) : Int) = 1 from rfl)) (congrArg i3 ((hZ36A.2.1)))) (by omega) (by omega) (by omega)) (by omega) (a2 := a2) (by omega) (zbh (c := 0) (k := 2) hM (Nat.le_of_ble_eq_true rfl))
                        have hZ37U : zU [0, 2, 3, 4, 5, 6, 7, 8, 9] Z Z37 := zU_t hZ36U jZ37 (zU_b1 (List.Mem.head _) (zU_b1 (List.Mem.head _) zU_b0))
                        have hZ37K : zC [3, 12, 13, 14, 40, 41, 42, 43, 44, 45, 46, 47, 48, 49, 50, 51, 52, 53, 54, 61, 68, 1099, 1100, 1101, 1102, 1103, 1104, 1105, 1106, 1107, 1108, 1109, 1110, 1111, 1112, 1113, 1114, 1115, 1116] Z Z37 := zC_t hZ36K kZ37 (by decide)
                        replace hP := zl_e hP hZ37
                        refine wz_cV_of (zas (zcons rfl (zcons rfl (zcons (zvi (Eq.trans (zm_rd (Z := Z36) (ν := ν) (k := 68) (show ((0 : Nat) : Int) = 0 from rfl) (show ((0 : Nat) : Int) = 0 from rfl) (show ((2 : Nat) : Int) = 2 from rfl)) (congrArg i3 ((hZ36A.2.2.1))))) rfl))) c9) ?_
                        clear c9
                        refine wz_i1 (Eq.trans (i3NE (Eq.trans (zm_rd (Z := Z36) (ν := ν) (k := 68) (show ((0 : Nat) : Int) = 0 from rfl) (show ((0 : Nat) : Int) = 0 from rfl) (show ((2 : Nat) : Int) = 2 from rfl)) (congrArg i3 ((hZ36A.2.2.1)))) (show (6 : Int32) = i3 6 from rfl) (by omega) (by omega) (by omega) (by omega)) (decide_eq_true (by omega))) ?_
                        refine wz_i0 (i3O (n := 6) (Eq.trans (zm_rd (Z := Z36) (ν := ν) (k := 68) (show ((0 : Nat) : Int) = 0 from rfl) (show ((0 : Nat) : Int) = 0 from rfl) (show ((2 : Nat) : Int) = 2 from rfl)) (congrArg i3 ((hZ36A.2.2.1)))) (by omega) (by omega) (by omega)) ?_
                        obtain ⟨v38, hv38, c9, lv38, uv38⟩ := sp_182 (ν := ν) hZ37I 0 (a1 := a2) (by omega) (zbh (c := 2) (k := 0) hM (Nat.le_of_ble_eq_true rfl))
                        replace hP := zl_e hP hv38
                        refine wz_cI_of (zas (zcons rfl (zcons (zvi (Eq.trans (zm_rd (Z := Z36) (ν := ν) (k := 68) (show ((0 : Nat) : Int) = 0 from rfl) (show ((0 : Nat) : Int) = 0 from rfl) (show ((2 : Nat) : Int) = 2 from rfl)) (congrArg i3 ((hZ36A.2.2.1))))) rfl)) c9) ?_
                        clear c9
                        have r39 := zH_k hZ37I 43 0 a2 0 (lo := 0) (hi := 12) (by decide) rfl
                        exact zlG hP (i3S (zm_rd (Z := Z37) (ν := ν) (k := 43) (show ((0 : Nat) : Int) = 0 from rfl) (i3I (y := a2) (Eq.trans (zm_rd (Z := Z36) (ν := ν) (k := 68) (show ((0 : Nat) : Int) = 0 from rfl) (show ((0 : Nat) : Int) = 0 from rfl) (show ((2 : Nat) : Int) = 2 from rfl)) (congrArg i3 ((hZ36A.2.2.1)))) (by omega) (by omega) (by omega)) (show ((0 : Nat) : Int) = 0 from rfl)) (rfl : i3 v38 = i3 v38)) ⟨hZ37I, hZ37K, hZ37U, zG_w zG_r (Nat.le_of_ble_eq_true rfl) (Nat.le_of_ble_eq_true rfl)⟩
                    · replace hP := zE_n hP h32
                      refine wz_i0 (i3O (n := 6) (rfl : i3 a2 = i3 a2) (by omega) (by omega) (by omega)) ?_
                      have r40 := zH_k hZ 43 0 a2 10 (lo := -1) (hi := 695) (by decide) rfl
                      have r41 := zH_k hZ 11 0 0 13 (lo := 0) (hi := 671) (by decide) rfl
                      refine wz_br (i3Le (zm_rd (Z := Z) (ν := ν) (k := 43) (show ((0 : Nat) : Int) = 0 from rfl) (i3I (y := a2) (rfl : i3 a2 = i3 a2) (by omega) (by omega) (by omega)) (show ((10 : Nat) : Int) = 10 from rfl)) (zm_rd (Z := Z) (ν := ν) (k := 11) (show ((0 : Nat) : Int) = 0 from rfl) (show ((0 : Nat) : Int) = 0 from rfl) (show ((13 : Nat) : Int) = 13 from rfl)) (by omega) (by omega) (by omega) (by omega)) (fun h42 => ?_) (fun h42 => ?_)
                      · replace hP := zE_p hP h42
                        refine wz_i1 (Eq.trans (i3NE (rfl : i3 a2 = i3 a2) (show (6 : Int32) = i3 6 from rfl) (by omega) (by omega) (by omega) (by omega)) (decide_eq_true (by omega))) ?_
                        refine wz_i0 (i3O (n := 6) (rfl : i3 a2 = i3 a2) (by omega) (by omega) (by omega)) ?_
                        obtain ⟨v43, hv43, c9, lv43, uv43⟩ := sp_182 (ν := ν) hZ 0 (a1 := a2) (by omega) (zbh (c := 0) (k := 0) hM (Nat.le_of_ble_eq_true rfl))
                        replace hP := zl_e hP hv43
                        refine wz_cI_of (zas (zcons rfl (zcons (zvi (rfl : i3 a2 = i3 a2)) rfl)) c9) ?_
                        clear c9
                        have r44 := zH_k hZ 43 0 a2 0 (lo := 0) (hi := 12) (by decide) rfl
                        refine wz_br (i3Le (i3S (zm_rd (Z := Z) (ν := ν) (k := 43) (show ((0 : Nat) : Int) = 0 from rfl) (i3I (y := a2) (rfl : i3 a2 = i3 a2) (by omega) (by omega) (by omega)) (show ((0 : Nat) : Int) = 0 from rfl)) (rfl : i3 v43 = i3 v43)) (show (0 : Int32) = i3 0 from rfl) (by omega) (by omega) (by omega) (by omega)) (fun h45 => ?_) (fun h45 => ?_)
                        · replace hP := zE_p hP h45
                          refine wz_i1 (Eq.trans (i3NE (show (3 : Int32) = i3 3 from rfl) (show (1 : Int32) = i3 1 from rfl) (by omega) (by omega) (by omega) (by omega)) (decide_eq_true (by omega))) ?_
                          refine wz_i1 (Eq.trans (i3NE (show (3 : Int32) = i3 3 from rfl) (show (2 : Int32) = i3 2 from rfl) (by omega) (by omega) (by omega) (by omega)) (decide_eq_true (by omega))) ?_
                          refine wz_i0 (Eq.trans (i3NE (show (3 : Int32) = i3 3 from rfl) (show (3 : Int32) = i3 3 from rfl) (by omega) (by omega) (by omega) (by omega)) (decide_eq_false (by omega))) ?_
                          exact zlGe (E := 14) hP ⟨(zbw (a := 0) (c := 2) hZ (Nat.le_of_ble_eq_true rfl)), zC_r, zU_r, zG_w (zG_k rfl) (Nat.le_of_ble_eq_true rfl) (Nat.le_of_ble_eq_true rfl)⟩
                        · replace hP := zE_n hP h45
                          refine wz_i1 (Eq.trans (i3NE (show (0 : Int32) = i3 0 from rfl) (show (1 : Int32) = i3 1 from rfl) (by omega) (by omega) (by omega) (by omega)) (decide_eq_true (by omega))) ?_
                          refine wz_i1 (Eq.trans (i3NE (show (0 : Int32) = i3 0 from rfl) (show (2 : Int32) = i3 2 from rfl) (by omega) (by omega) (by omega) (by omega)) (decide_eq_true (by omega))) ?_
                          refine wz_i1 (Eq.trans (i3NE (show (0 : Int32) = i3 0 from rfl) (show (3 : Int32) = i3 3 from rfl) (by omega) (by omega) (by omega) (by omega)) (decide_eq_true (by omega))) ?_
                          refine dc_J (zcons rfl (zcons (zvi (show (8 : Int32) = i3 8 from rfl)) (zcons (zvi (rfl : i3 a1 = i3 a1)) (zcons (zvi (rfl : i3 a2 = i3 a2)) (zcons (zvi (show (0 : Int32) = i3 0 from rfl)) (zcons (zvi (show (0 : Int32) = i3 0 from rfl)) (zcons (zvi (show (0 : Int32) = i3 0 from rfl)) (zcons (zvi (show (0 : Int32) = i3 0 from rfl)) rfl)))))))) (dg (hZ).1 (by omega) (by omega) (by omega) (by omega) (by omega) (by omega) (by omega) ?_)
                          have hZ46I := zH_dd hZ (a1 := 8) (a2 := a1) (a3 := a2) (a4 := 0) (a5 := 0) (a6 := 0) (a7 := 0) (by omega) (by omega) (by omega) (by omega) (by omega) (by omega) (by omega)
                          have kZ46 : zC [3, 12, 13, 14, 40, 41, 42, 43, 44, 45, 46, 47, 48, 49, 50, 51, 52, 53, 54, 61, 68, 1099, 1100, 1101, 1102, 1103, 1104, 1105, 1106, 1107, 1108, 1109, 1110, 1111, 1112, 1113, 1114, 1115, 1116] Z (zdd Z 8 a1 a2 0 0 0 0) := zC_k zdd_K (by decide) (by decide)
                          have hZ46A : (zdd Z 8 a1 a2 0 0 0 0) 68 0 0 0 = 8 ∧ (zdd Z 8 a1 a2 0 0 0 0) 68 0 0 1 = a1 ∧ (zdd Z 8 a1 a2 0 0 0 0) 68 0 0 2 = a2 ∧ (zdd Z 8 a1 a2 0 0 0 0) 68 0 0 3 = 0 ∧ (zdd Z 8 a1 a2 0 0 0 0) 68 0 0 4 = 0 ∧ (zdd Z 8 a1 a2 0 0 0 0) 68 0 0 5 = 0 ∧ (zdd Z 8 a1 a2 0 0 0 0) 68 0 0 6 = 0 := ⟨zdd_68, zdd_68, zdd_68, zdd_68, zdd_68, zdd_68, zdd_68⟩
                          obtain ⟨Z46, hZ46⟩ := zx (zdd Z 8 a1 a2 0 0 0 0)
                          have dZ46 : ∀ {k : Nat} {i j : Int}, zhall k = true → ¬ (k = 11 ∧ (j = 15 ∨ j = 16)) → Z46 k 0 i j = Z k 0 i j := fun hk hj => by rw [hZ46]; exact zdd_h (hZ).1 hk hj
                          have jZ46 : zU [0, 2, 3, 4, 5, 6, 7, 8, 9] Z (zdd Z 8 a1 a2 0 0 0 0) := zU_dd (hZ).1
                          rw [← hZ46] at hZ46I kZ46 jZ46 hZ46A ⊢
                          have hZ46U : zU [0, 2, 3, 4, 5, 6, 7, 8, 9] Z Z46 := zU_t zU_r jZ46 (zU_b1 (List.Mem.head _) (zU_b1 (List.Mem.tail _ (List.Mem.head _)) (zU_b1 (List.Mem.tail _ (List.Mem.tail _ (List.Mem.head _))) (zU_b1 (List.Mem.tail _ (List.Mem.tail _ (List.Mem.tail _ (List.Mem.head _)))) (zU_b1 (List.Mem.tail _ (List.Mem.tail _ (List.Mem.tail _ (List.Mem.tail _ (List.Mem.head _))))) (zU_b1 (List.Mem.tail _ (List.Mem.tail _ (List.Mem.tail _ (List.Mem.tail _ (List.Mem.tail _ (List.Mem.head _)))))) (zU_b1 (List.Mem.tail _ (List.Mem.tail _ (List.Mem.tail _ (List.Mem.tail _ (List.Mem.tail _ (List.Mem.tail _ (List.Mem.head _))))))) (zU_b1 (List.Mem.tail _ (List.Mem.tail _ (List.Mem.tail _ (List.Mem.tail _ (List.Mem.tail _ (List.Mem.tail _ (List.Mem.tail _ (List.Mem.head _)))))))) (zU_b1 (List.Mem.tail _ (List.Mem.tail _ (List.Mem.tail _ (List.Mem.tail _ (List.Mem.tail _ (List.Mem.tail _ (List.Mem.tail _ (List.Mem.tail _ (List.Mem.head _))))))))) zU_b0)))))))))
                          replace hP := zl_e hP hZ46
                          have hZ46K : zC [3, 12, 13, 14, 40, 41, 42, 43, 44, 45, 46, 47, 48, 49, 50, 51, 52, 53, 54, 61, 68, 1099, 1100, 1101, 1102, 1103, 1104, 1105, 1106, 1107, 1108, 1109, 1110, 1111, 1112, 1113, 1114, 1115, 1116] Z Z46 := zC_t zC_r kZ46 (by decide)
                          clear kZ46 hZ46
                          refine fw_121 _ _ _ _ ?_
                          refine wz_i1 rfl ?_
                          refine wz_i0 (i3O (n := 7) (show (0 : Int32) = i3 0 from rfl) (by omega) (by omega) (by omega)) ?_
                          refine wz_i0 (Eq.trans (i3To (Eq.trans (zm_rd (Z := Z46) (ν := ν) (k := 68) (show ((0 : Nat) : Int) = 0 from rfl) (show ((0 : Nat) : Int) = 0 from rfl) (show ((0 : Nat) : Int) = 0 from rfl)) (congrArg i3 ((hZ46A.1)))) (by omega) (by omega)) (decide_eq_false (by omega))) ?_
                          refine wz_i0 (Eq.trans (i3T (Eq.trans (zm_rd (Z := Z46) (ν := ν) (k := 68) (show ((0 : Nat) : Int) = 0 from rfl) (show ((0 : Nat) : Int) = 0 from rfl) (show ((0 : Nat) : Int) = 0 from rfl)) (congrArg i3 ((hZ46A.1)))) (by omega) (by omega)) (decide_eq_false (by omega))) ?_
                          refine wz_i0 (Eq.trans (i3T (Eq.trans (zm_rd (Z := Z46) (ν := ν) (k := 68) (show ((0 : Nat) : Int) = 0 from rfl) (show ((0 : Nat) : Int) = 0 from rfl) (show ((0 : Nat) : Int) = 0 from rfl)) (congrArg i3 ((hZ46A.1)))) (by omega) (by omega)) (decide_eq_false (by omega))) ?_
                          refine wz_i0 (Eq.trans (i3T (Eq.trans (zm_rd (Z := Z46) (ν := ν) (k := 68) (show ((0 : Nat) : Int) = 0 from rfl) (show ((0 : Nat) : Int) = 0 from rfl) (show ((0 : Nat) : Int) = 0 from rfl)) (congrArg i3 ((hZ46A.1)))) (by omega) (by omega)) (decide_eq_false (by omega))) ?_
                          refine wz_i0 (Eq.trans (i3T (Eq.trans (zm_rd (Z := Z46) (ν := ν) (k := 68) (show ((0 : Nat) : Int) = 0 from rfl) (show ((0 : Nat) : Int) = 0 from rfl) (show ((0 : Nat) : Int) = 0 from rfl)) (congrArg i3 ((hZ46A.1)))) (by omega) (by omega)) (decide_eq_false (by omega))) ?_
                          refine wz_i0 (Eq.trans (i3T (Eq.trans (zm_rd (Z := Z46) (ν := ν) (k := 68) (show ((0 : Nat) : Int) = 0 from rfl) (show ((0 : Nat) : Int) = 0 from rfl) (show ((0 : Nat) : Int) = 0 from rfl)) (congrArg i3 ((hZ46A.1)))) (by omega) (by omega)) (decide_eq_false (by omega))) ?_
                          refine wz_i0 (Eq.trans (i3T (Eq.trans (zm_rd (Z := Z46) (ν := ν) (k := 68) (show ((0 : Nat) : Int) = 0 from rfl) (show ((0 : Nat) : Int) = 0 from rfl) (show ((0 : Nat) : Int) = 0 from rfl)) (congrArg i3 ((hZ46A.1)))) (by omega) (by omega)) (decide_eq_false (by omega))) ?_
                          refine wz_i0 (Eq.trans (i3T (Eq.trans (zm_rd (Z := Z46) (ν := ν) (k := 68) (show ((0 : Nat) : Int) = 0 from rfl) (show ((0 : Nat) : Int) = 0 from rfl) (show ((0 : Nat) : Int) = 0 from rfl)) (congrArg i3 ((hZ46A.1)))) (by omega) (by omega)) (decide_eq_false (by omega))) ?_
                          refine wz_i0 (Eq.trans (i3T (Eq.trans (zm_rd (Z := Z46) (ν := ν) (k := 68) (show ((0 : Nat) : Int) = 0 from rfl) (show ((0 : Nat) : Int) = 0 from rfl) (show ((0 : Nat) : Int) = 0 from rfl)) (congrArg i3 ((hZ46A.1)))) (by omega) (by omega)) (decide_eq_false (by omega))) ?_
                          refine wz_i1 (Eq.trans (i3T (Eq.trans (zm_rd (Z := Z46) (ν := ν) (k := 68) (show ((0 : Nat) : Int) = 0 from rfl) (show ((0 : Nat) : Int) = 0 from rfl) (show ((0 : Nat) : Int) = 0 from rfl)) (congrArg i3 ((hZ46A.1)))) (by omega) (by omega)) (decide_eq_true (by omega))) ?_
                          refine wz_i1 rfl ?_
                          refine wz_i0 (i3O (n := 7) (show (1 : Int32) = i3 1 from rfl) (by omega) (by omega) (by omega)) ?_
                          refine wz_i1 rfl ?_
                          refine wz_i0 (i3O (n := 7) (show (2 : Int32) = i3 2 from rfl) (by omega) (by omega) (by omega)) ?_
                          refine wz_i1 (Eq.trans (i3NE (Eq.trans (zm_rd (Z := Z46) (ν := ν) (k := 68) (show ((0 : Nat) : Int) = 0 from rfl) (show ((0 : Nat) : Int) = 0 from rfl) (show ((2 : Nat) : Int) = 2 from rfl)) (congrArg i3 ((hZ46A.2.2.1)))) (show (-1 : Int32) = i3 (-1) from rfl) (by omega) (by omega) (by omega) (by omega)) (decide_eq_true (by omega))) ?_
                          refine wz_i0 (i3O (n := 48) (Eq.trans (zm_rd (Z := Z46) (ν := ν) (k := 68) (show ((0 : Nat) : Int) = 0 from rfl) (show ((0 : Nat) : Int) = 0 from rfl) (show ((1 : Nat) : Int) = 1 from rfl)) (congrArg i3 ((hZ46A.2.1)))) (by omega) (by omega) (by omega)) ?_
                          obtain ⟨Z47, hZ47, c9, hZ47I, kZ47, jZ47⟩ := sp_175 (ν := ν) hZ46I 0 0 _ (i3I (y := a1) (Eq.trans (zm_rd (Z := Z46) (ν := ν) (k := 68) (show ((0 : Nat) : Int) = 0 from rfl) (show ((0 : Nat) : Int) = 0 from rfl) (show ((1 : Nat) : Int) = 1 from rfl)) (congrArg i3 ((hZ46A.2.1)))) (by omega) (by omega) (by omega)) (by omega) (a2 := a2) (by omega) (zbh (c := 0) (k := 2) hM (Nat.le_of_ble_eq_true rfl))
                          have hZ47U : zU [0, 2, 3, 4, 5, 6, 7, 8, 9] Z Z47 := zU_t hZ46U jZ47 (zU_b1 (List.Mem.head _) (zU_b1 (List.Mem.head _) zU_b0))
                          have hZ47K : zC [3, 12, 13, 14, 40, 41, 42, 43, 44, 45, 46, 47, 48, 49, 50, 51, 52, 53, 54, 61, 68, 1099, 1100, 1101, 1102, 1103, 1104, 1105, 1106, 1107, 1108, 1109, 1110, 1111, 1112, 1113, 1114, 1115, 1116] Z Z47 := zC_t hZ46K kZ47 (by decide)
                          replace hP := zl_e hP hZ47
                          refine wz_cV_of (zas (zcons rfl (zcons rfl (zcons (zvi (Eq.trans (zm_rd (Z := Z46) (ν := ν) (k := 68) (show ((0 : Nat) : Int) = 0 from rfl) (show ((0 : Nat) : Int) = 0 from rfl) (show ((2 : Nat) : Int) = 2 from rfl)) (congrArg i3 ((hZ46A.2.2.1))))) rfl))) c9) ?_
                          clear c9
                          refine wz_i1 (Eq.trans (i3NE (Eq.trans (zm_rd (Z := Z46) (ν := ν) (k := 68) (show ((0 : Nat) : Int) = 0 from rfl) (show ((0 : Nat) : Int) = 0 from rfl) (show ((2 : Nat) : Int) = 2 from rfl)) (congrArg i3 ((hZ46A.2.2.1)))) (show (6 : Int32) = i3 6 from rfl) (by omega) (by omega) (by omega) (by omega)) (decide_eq_true (by omega))) ?_
                          refine wz_i0 (i3O (n := 6) (Eq.trans (zm_rd (Z := Z46) (ν := ν) (k := 68) (show ((0 : Nat) : Int) = 0 from rfl) (show ((0 : Nat) : Int) = 0 from rfl) (show ((2 : Nat) : Int) = 2 from rfl)) (congrArg i3 ((hZ46A.2.2.1)))) (by omega) (by omega) (by omega)) ?_
                          obtain ⟨v48, hv48, c9, lv48, uv48⟩ := sp_182 (ν := ν) hZ47I 0 (a1 := a2) (by omega) (zbh (c := 2) (k := 0) hM (Nat.le_of_ble_eq_true rfl))
                          replace hP := zl_e hP hv48
                          refine wz_cI_of (zas (zcons rfl (zcons (zvi (Eq.trans (zm_rd (Z := Z46) (ν := ν) (k := 68) (show ((0 : Nat) : Int) = 0 from rfl) (show ((0 : Nat) : Int) = 0 from rfl) (show ((2 : Nat) : Int) = 2 from rfl)) (congrArg i3 ((hZ46A.2.2.1))))) rfl)) c9) ?_
                          clear c9
                          have r49 := zH_k hZ47I 43 0 a2 0 (lo := 0) (hi := 12) (by decide) rfl
                          exact zlG hP (i3S (zm_rd (Z := Z47) (ν := ν) (k := 43) (show ((0 : Nat) : Int) = 0 from rfl) (i3I (y := a2) (Eq.trans (zm_rd (Z := Z46) (ν := ν) (k := 68) (show ((0 : Nat) : Int) = 0 from rfl) (show ((0 : Nat) : Int) = 0 from rfl) (show ((2 : Nat) : Int) = 2 from rfl)) (congrArg i3 ((hZ46A.2.2.1)))) (by omega) (by omega) (by omega)) (show ((0 : Nat) : Int) = 0 from rfl)) (rfl : i3 v48 = i3 v48)) ⟨hZ47I, hZ47K, hZ47U, zG_w zG_r (Nat.le_of_ble_eq_true rfl) (Nat.le_of_ble_eq_true rfl)⟩
                      · replace hP := zE_n hP h42
                        refine wz_i1 (Eq.trans (i3NE (show (3 : Int32) = i3 3 from rfl) (show (1 : Int32) = i3 1 from rfl) (by omega) (by omega) (by omega) (by omega)) (decide_eq_true (by omega))) ?_
                        refine wz_i1 (Eq.trans (i3NE (show (3 : Int32) = i3 3 from rfl) (show (2 : Int32) = i3 2 from rfl) (by omega) (by omega) (by omega) (by omega)) (decide_eq_true (by omega))) ?_
                        refine wz_i0 (Eq.trans (i3NE (show (3 : Int32) = i3 3 from rfl) (show (3 : Int32) = i3 3 from rfl) (by omega) (by omega) (by omega) (by omega)) (decide_eq_false (by omega))) ?_
                        exact zlGe (E := 14) hP ⟨(zbw (a := 0) (c := 2) hZ (Nat.le_of_ble_eq_true rfl)), zC_r, zU_r, zG_w (zG_k rfl) (Nat.le_of_ble_eq_true rfl) (Nat.le_of_ble_eq_true rfl)⟩
                  · replace hP := zE_n hP h31
                    refine wz_i0 (i3O (n := 6) (zm_rd (Z := Z) (ν := ν) (k := 44) (show ((0 : Nat) : Int) = 0 from rfl) (i3I (y := a1) (rfl : i3 a1 = i3 a1) (by omega) (by omega) (by omega)) (show ((12 : Nat) : Int) = 12 from rfl)) (by omega) (by omega) (by omega)) ?_
                    have r50 := zH_k hZ 43 0 (Z 44 0 a1 12) 10 (lo := -1) (hi := 695) (by decide) rfl
                    have r51 := zH_k hZ 11 0 0 13 (lo := 0) (hi := 671) (by decide) rfl
                    refine wz_br (i3Le (zm_rd (Z := Z) (ν := ν) (k := 43) (show ((0 : Nat) : Int) = 0 from rfl) (i3I (y := (Z 44 0 a1 12)) (zm_rd (Z := Z) (ν := ν) (k := 44) (show ((0 : Nat) : Int) = 0 from rfl) (i3I (y := a1) (rfl : i3 a1 = i3 a1) (by omega) (by omega) (by omega)) (show ((12 : Nat) : Int) = 12 from rfl)) (by omega) (by omega) (by omega)) (show ((10 : Nat) : Int) = 10 from rfl)) (zm_rd (Z := Z) (ν := ν) (k := 11) (show ((0 : Nat) : Int) = 0 from rfl) (show ((0 : Nat) : Int) = 0 from rfl) (show ((13 : Nat) : Int) = 13 from rfl)) (by omega) (by omega) (by omega) (by omega)) (fun h52 => ?_) (fun h52 => ?_)
                    · replace hP := zE_p hP h52
                      refine wz_i0 (Eq.trans (i3L (rfl : i3 a2 = i3 a2) (show (0 : Int32) = i3 0 from rfl) (by omega) (by omega) (by omega) (by omega)) (decide_eq_false (by omega))) ?_
                      refine wz_br (i3Le (zm_rd (Z := Z) (ν := ν) (k := 11) (show ((0 : Nat) : Int) = 0 from rfl) (show ((0 : Nat) : Int) = 0 from rfl) (show ((2 : Nat) : Int) = 2 from rfl)) (rfl : i3 a2 = i3 a2) (by omega) (by omega) (by omega) (by omega)) (fun h53 => ?_) (fun h53 => ?_)
                      · replace hP := zE_p hP h53
                        refine wz_i1 (Eq.trans (i3NE (rfl : i3 a2 = i3 a2) (show (6 : Int32) = i3 6 from rfl) (by omega) (by omega) (by omega) (by omega)) (decide_eq_true (by omega))) ?_
                        refine wz_i0 (i3O (n := 6) (rfl : i3 a2 = i3 a2) (by omega) (by omega) (by omega)) ?_
                        obtain ⟨v54, hv54, c9, lv54, uv54⟩ := sp_182 (ν := ν) hZ 0 (a1 := a2) (by omega) (zbh (c := 0) (k := 0) hM (Nat.le_of_ble_eq_true rfl))
                        replace hP := zl_e hP hv54
                        refine wz_cI_of (zas (zcons rfl (zcons (zvi (rfl : i3 a2 = i3 a2)) rfl)) c9) ?_
                        clear c9
                        have r55 := zH_k hZ 43 0 a2 0 (lo := 0) (hi := 12) (by decide) rfl
                        refine wz_br (i3Le (i3S (zm_rd (Z := Z) (ν := ν) (k := 43) (show ((0 : Nat) : Int) = 0 from rfl) (i3I (y := a2) (rfl : i3 a2 = i3 a2) (by omega) (by omega) (by omega)) (show ((0 : Nat) : Int) = 0 from rfl)) (rfl : i3 v54 = i3 v54)) (show (0 : Int32) = i3 0 from rfl) (by omega) (by omega) (by omega) (by omega)) (fun h56 => ?_) (fun h56 => ?_)
                        · replace hP := zE_p hP h56
                          refine wz_i1 (Eq.trans (i3NE (show (3 : Int32) = i3 3 from rfl) (show (1 : Int32) = i3 1 from rfl) (by omega) (by omega) (by omega) (by omega)) (decide_eq_true (by omega))) ?_
                          refine wz_i1 (Eq.trans (i3NE (show (3 : Int32) = i3 3 from rfl) (show (2 : Int32) = i3 2 from rfl) (by omega) (by omega) (by omega) (by omega)) (decide_eq_true (by omega))) ?_
                          refine wz_i0 (Eq.trans (i3NE (show (3 : Int32) = i3 3 from rfl) (show (3 : Int32) = i3 3 from rfl) (by omega) (by omega) (by omega) (by omega)) (decide_eq_false (by omega))) ?_
                          exact zlGe (E := 14) hP ⟨(zbw (a := 0) (c := 2) hZ (Nat.le_of_ble_eq_true rfl)), zC_r, zU_r, zG_w (zG_k rfl) (Nat.le_of_ble_eq_true rfl) (Nat.le_of_ble_eq_true rfl)⟩
                        · replace hP := zE_n hP h56
                          refine wz_i1 (Eq.trans (i3NE (show (0 : Int32) = i3 0 from rfl) (show (1 : Int32) = i3 1 from rfl) (by omega) (by omega) (by omega) (by omega)) (decide_eq_true (by omega))) ?_
                          refine wz_i1 (Eq.trans (i3NE (show (0 : Int32) = i3 0 from rfl) (show (2 : Int32) = i3 2 from rfl) (by omega) (by omega) (by omega) (by omega)) (decide_eq_true (by omega))) ?_
                          refine wz_i1 (Eq.trans (i3NE (show (0 : Int32) = i3 0 from rfl) (show (3 : Int32) = i3 3 from rfl) (by omega) (by omega) (by omega) (by omega)) (decide_eq_true (by omega))) ?_
                          refine dc_J (zcons rfl (zcons (zvi (show (8 : Int32) = i3 8 from rfl)) (zcons (zvi (rfl : i3 a1 = i3 a1)) (zcons (zvi (rfl : i3 a2 = i3 a2)) (zcons (zvi (show (0 : Int32) = i3 0 from rfl)) (zcons (zvi (show (0 : Int32) = i3 0 from rfl)) (zcons (zvi (show (0 : Int32) = i3 0 from rfl)) (zcons (zvi (show (0 : Int32) = i3 0 from rfl)) rfl)))))))) (dg (hZ).1 (by omega) (by omega) (by omega) (by omega) (by omega) (by omega) (by omega) ?_)
                          have hZ57I := zH_dd hZ (a1 := 8) (a2 := a1) (a3 := a2) (a4 := 0) (a5 := 0) (a6 := 0) (a7 := 0) (by omega) (by omega) (by omega) (by omega) (by omega) (by omega) (by omega)
                          have kZ57 : zC [3, 12, 13, 14, 40, 41, 42, 43, 44, 45, 46, 47, 48, 49, 50, 51, 52, 53, 54, 61, 68, 1099, 1100, 1101, 1102, 1103, 1104, 1105, 1106, 1107, 1108, 1109, 1110, 1111, 1112, 1113, 1114, 1115, 1116] Z (zdd Z 8 a1 a2 0 0 0 0) := zC_k zdd_K (by decide) (by decide)
                          have hZ57A : (zdd Z 8 a1 a2 0 0 0 0) 68 0 0 0 = 8 ∧ (zdd Z 8 a1 a2 0 0 0 0) 68 0 0 1 = a1 ∧ (zdd Z 8 a1 a2 0 0 0 0) 68 0 0 2 = a2 ∧ (zdd Z 8 a1 a2 0 0 0 0) 68 0 0 3 = 0 ∧ (zdd Z 8 a1 a2 0 0 0 0) 68 0 0 4 = 0 ∧ (zdd Z 8 a1 a2 0 0 0 0) 68 0 0 5 = 0 ∧ (zdd Z 8 a1 a2 0 0 0 0) 68 0 0 6 = 0 := ⟨zdd_68, zdd_68, zdd_68, zdd_68, zdd_68, zdd_68, zdd_68⟩
                          obtain ⟨Z57, hZ57⟩ := zx (zdd Z 8 a1 a2 0 0 0 0)
                          have dZ57 : ∀ {k : Nat} {i j : Int}, zhall k = true → ¬ (k = 11 ∧ (j = 15 ∨ j = 16)) → Z57 k 0 i j = Z k 0 i j := fun hk hj => by rw [hZ57]; exact zdd_h (hZ).1 hk hj
                          have jZ57 : zU [0, 2, 3, 4, 5, 6, 7, 8, 9] Z (zdd Z 8 a1 a2 0 0 0 0) := zU_dd (hZ).1
                          rw [← hZ57] at hZ57I kZ57 jZ57 hZ57A ⊢
                          have hZ57U : zU [0, 2, 3, 4, 5, 6, 7, 8, 9] Z Z57 := zU_t zU_r jZ57 (zU_b1 (List.Mem.head _) (zU_b1 (List.Mem.tail _ (List.Mem.head _)) (zU_b1 (List.Mem.tail _ (List.Mem.tail _ (List.Mem.head _))) (zU_b1 (List.Mem.tail _ (List.Mem.tail _ (List.Mem.tail _ (List.Mem.head _)))) (zU_b1 (List.Mem.tail _ (List.Mem.tail _ (List.Mem.tail _ (List.Mem.tail _ (List.Mem.head _))))) (zU_b1 (List.Mem.tail _ (List.Mem.tail _ (List.Mem.tail _ (List.Mem.tail _ (List.Mem.tail _ (List.Mem.head _)))))) (zU_b1 (List.Mem.tail _ (List.Mem.tail _ (List.Mem.tail _ (List.Mem.tail _ (List.Mem.tail _ (List.Mem.tail _ (List.Mem.head _))))))) (zU_b1 (List.Mem.tail _ (List.Mem.tail _ (List.Mem.tail _ (List.Mem.tail _ (List.Mem.tail _ (List.Mem.tail _ (List.Mem.tail _ (List.Mem.head _)))))))) (zU_b1 (List.Mem.tail _ (List.Mem.tail _ (List.Mem.tail _ (List.Mem.tail _ (List.Mem.tail _ (List.Mem.tail _ (List.Mem.tail _ (List.Mem.tail _ (List.Mem.head _))))))))) zU_b0)))))))))
                          replace hP := zl_e hP hZ57
                          have hZ57K : zC [3, 12, 13, 14, 40, 41, 42, 43, 44, 45, 46, 47, 48, 49, 50, 51, 52, 53, 54, 61, 68, 1099, 1100, 1101, 1102, 1103, 1104, 1105, 1106, 1107, 1108, 1109, 1110, 1111, 1112, 1113, 1114, 1115, 1116] Z Z57 := zC_t zC_r kZ57 (by decide)
                          clear kZ57 hZ57
                          refine fw_121 _ _ _ _ ?_
                          refine wz_i1 rfl ?_
                          refine wz_i0 (i3O (n := 7) (show (0 : Int32) = i3 0 from rfl) (by omega) (by omega) (by omega)) ?_
                          refine wz_i0 (Eq.trans (i3To (Eq.trans (zm_rd (Z := Z57) (ν := ν) (k := 68) (show ((0 : Nat) : Int) = 0 from rfl) (show ((0 : Nat) : Int) = 0 from rfl) (show ((0 : Nat) : Int) = 0 from rfl)) (congrArg i3 ((hZ57A.1)))) (by omega) (by omega)) (decide_eq_false (by omega))) ?_
                          refine wz_i0 (Eq.trans (i3T (Eq.trans (zm_rd (Z := Z57) (ν := ν) (k := 68) (show ((0 : Nat) : Int) = 0 from rfl) (show ((0 : Nat) : Int) = 0 from rfl) (show ((0 : Nat) : Int) = 0 from rfl)) (congrArg i3 ((hZ57A.1)))) (by omega) (by omega)) (decide_eq_false (by omega))) ?_
                          refine wz_i0 (Eq.trans (i3T (Eq.trans (zm_rd (Z := Z57) (ν := ν) (k := 68) (show ((0 : Nat) : Int) = 0 from rfl) (show ((0 : Nat) : Int) = 0 from rfl) (show ((0 : Nat) : Int) = 0 from rfl)) (congrArg i3 ((hZ57A.1)))) (by omega) (by omega)) (decide_eq_false (by omega))) ?_
                          refine wz_i0 (Eq.trans (i3T (Eq.trans (zm_rd (Z := Z57) (ν := ν) (k := 68) (show ((0 : Nat) : Int) = 0 from rfl) (show ((0 : Nat) : Int) = 0 from rfl) (show ((0 : Nat) : Int) = 0 from rfl)) (congrArg i3 ((hZ57A.1)))) (by omega) (by omega)) (decide_eq_false (by omega))) ?_
                          refine wz_i0 (Eq.trans (i3T (Eq.trans (zm_rd (Z := Z57) (ν := ν) (k := 68) (show ((0 : Nat) : Int) = 0 from rfl) (show ((0 : Nat) : Int) = 0 from rfl) (show ((0 : Nat) : Int) = 0 from rfl)) (congrArg i3 ((hZ57A.1)))) (by omega) (by omega)) (decide_eq_false (by omega))) ?_
                          refine wz_i0 (Eq.trans (i3T (Eq.trans (zm_rd (Z := Z57) (ν := ν) (k := 68) (show ((0 : Nat) : Int) = 0 from rfl) (show ((0 : Nat) : Int) = 0 from rfl) (show ((0 : Nat) : Int) = 0 from rfl)) (congrArg i3 ((hZ57A.1)))) (by omega) (by omega)) (decide_eq_false (by omega))) ?_
                          refine wz_i0 (Eq.trans (i3T (Eq.trans (zm_rd (Z := Z57) (ν := ν) (k := 68) (show ((0 : Nat) : Int) = 0 from rfl) (show ((0 : Nat) : Int) = 0 from rfl) (show ((0 : Nat) : Int) = 0 from rfl)) (congrArg i3 ((hZ57A.1)))) (by omega) (by omega)) (decide_eq_false (by omega))) ?_
                          refine wz_i0 (Eq.trans (i3T (Eq.trans (zm_rd (Z := Z57) (ν := ν) (k := 68) (show ((0 : Nat) : Int) = 0 from rfl) (show ((0 : Nat) : Int) = 0 from rfl) (show ((0 : Nat) : Int) = 0 from rfl)) (congrArg i3 ((hZ57A.1)))) (by omega) (by omega)) (decide_eq_false (by omega))) ?_
                          refine wz_i0 (Eq.trans (i3T (Eq.trans (zm_rd (Z := Z57) (ν := ν) (k := 68) (show ((0 : Nat) : Int) = 0 from rfl) (show ((0 : Nat) : Int) = 0 from rfl) (show ((0 : Nat) : Int) = 0 from rfl)) (congrArg i3 ((hZ57A.1)))) (by omega) (by omega)) (decide_eq_false (by omega))) ?_
                          refine wz_i1 (Eq.trans (i3T (Eq.trans (zm_rd (Z := Z57) (ν := ν) (k := 68) (show ((0 : Nat) : Int) = 0 from rfl) (show ((0 : Nat) : Int) = 0 from rfl) (show ((0 : Nat) : Int) = 0 from rfl)) (congrArg i3 ((hZ57A.1)))) (by omega) (by omega)) (decide_eq_true (by omega))) ?_
                          refine wz_i1 rfl ?_
                          refine wz_i0 (i3O (n := 7) (show (1 : Int32) = i3 1 from rfl) (by omega) (by omega) (by omega)) ?_
                          refine wz_i1 rfl ?_
                          refine wz_i0 (i3O (n := 7) (show (2 : Int32) = i3 2 from rfl) (by omega) (by omega) (by omega)) ?_
                          refine wz_i1 (Eq.trans (i3NE (Eq.trans (zm_rd (Z := Z57) (ν := ν) (k := 68) (show ((0 : Nat) : Int) = 0 from rfl) (show ((0 : Nat) : Int) = 0 from rfl) (show ((2 : Nat) : Int) = 2 from rfl)) (congrArg i3 ((hZ57A.2.2.1)))) (show (-1 : Int32) = i3 (-1) from rfl) (by omega) (by omega) (by omega) (by omega)) (decide_eq_true (by omega))) ?_
                          refine wz_i0 (i3O (n := 48) (Eq.trans (zm_rd (Z := Z57) (ν := ν) (k := 68) (show ((0 : Nat) : Int) = 0 from rfl) (show ((0 : Nat) : Int) = 0 from rfl) (show ((1 : Nat) : Int) = 1 from rfl)) (congrArg i3 ((hZ57A.2.1)))) (by omega) (by omega) (by omega)) ?_
                          obtain ⟨Z58, hZ58, c9, hZ58I, kZ58, jZ58⟩ := sp_175 (ν := ν) hZ57I 0 0 _ (i3I (y := a1) (Eq.trans (zm_rd (Z := Z57) (ν := ν) (k := 68) (show ((0 : Nat) : Int) = 0 from rfl) (show ((0 : Nat) : Int) = 0 from rfl) (show ((1 : Nat) : Int) = 1 from rfl)) (congrArg i3 ((hZ57A.2.1)))) (by omega) (by omega) (by omega)) (by omega) (a2 := a2) (by omega) (zbh (c := 0) (k := 2) hM (Nat.le_of_ble_eq_true rfl))
                          have hZ58U : zU [0, 2, 3, 4, 5, 6, 7, 8, 9] Z Z58 := zU_t hZ57U jZ58 (zU_b1 (List.Mem.head _) (zU_b1 (List.Mem.head _) zU_b0))
                          have hZ58K : zC [3, 12, 13, 14, 40, 41, 42, 43, 44, 45, 46, 47, 48, 49, 50, 51, 52, 53, 54, 61, 68, 1099, 1100, 1101, 1102, 1103, 1104, 1105, 1106, 1107, 1108, 1109, 1110, 1111, 1112, 1113, 1114, 1115, 1116] Z Z58 := zC_t hZ57K kZ58 (by decide)
                          replace hP := zl_e hP hZ58
                          refine wz_cV_of (zas (zcons rfl (zcons rfl (zcons (zvi (Eq.trans (zm_rd (Z := Z57) (ν := ν) (k := 68) (show ((0 : Nat) : Int) = 0 from rfl) (show ((0 : Nat) : Int) = 0 from rfl) (show ((2 : Nat) : Int) = 2 from rfl)) (congrArg i3 ((hZ57A.2.2.1))))) rfl))) c9) ?_
                          clear c9
                          refine wz_i1 (Eq.trans (i3NE (Eq.trans (zm_rd (Z := Z57) (ν := ν) (k := 68) (show ((0 : Nat) : Int) = 0 from rfl) (show ((0 : Nat) : Int) = 0 from rfl) (show ((2 : Nat) : Int) = 2 from rfl)) (congrArg i3 ((hZ57A.2.2.1)))) (show (6 : Int32) = i3 6 from rfl) (by omega) (by omega) (by omega) (by omega)) (decide_eq_true (by omega))) ?_
                          refine wz_i0 (i3O (n := 6) (Eq.trans (zm_rd (Z := Z57) (ν := ν) (k := 68) (show ((0 : Nat) : Int) = 0 from rfl) (show ((0 : Nat) : Int) = 0 from rfl) (show ((2 : Nat) : Int) = 2 from rfl)) (congrArg i3 ((hZ57A.2.2.1)))) (by omega) (by omega) (by omega)) ?_
                          obtain ⟨v59, hv59, c9, lv59, uv59⟩ := sp_182 (ν := ν) hZ58I 0 (a1 := a2) (by omega) (zbh (c := 2) (k := 0) hM (Nat.le_of_ble_eq_true rfl))
                          replace hP := zl_e hP hv59
                          refine wz_cI_of (zas (zcons rfl (zcons (zvi (Eq.trans (zm_rd (Z := Z57) (ν := ν) (k := 68) (show ((0 : Nat) : Int) = 0 from rfl) (show ((0 : Nat) : Int) = 0 from rfl) (show ((2 : Nat) : Int) = 2 from rfl)) (congrArg i3 ((hZ57A.2.2.1))))) rfl)) c9) ?_
                          clear c9
                          have r60 := zH_k hZ58I 43 0 a2 0 (lo := 0) (hi := 12) (by decide) rfl
                          exact zlG hP (i3S (zm_rd (Z := Z58) (ν := ν) (k := 43) (show ((0 : Nat) : Int) = 0 from rfl) (i3I (y := a2) (Eq.trans (zm_rd (Z := Z57) (ν := ν) (k := 68) (show ((0 : Nat) : Int) = 0 from rfl) (show ((0 : Nat) : Int) = 0 from rfl) (show ((2 : Nat) : Int) = 2 from rfl)) (congrArg i3 ((hZ57A.2.2.1)))) (by omega) (by omega) (by omega)) (show ((0 : Nat) : Int) = 0 from rfl)) (rfl : i3 v59 = i3 v59)) ⟨hZ58I, hZ58K, hZ58U, zG_w zG_r (Nat.le_of_ble_eq_true rfl) (Nat.le_of_ble_eq_true rfl)⟩
                      · replace hP := zE_n hP h53
                        refine wz_i0 (i3O (n := 6) (rfl : i3 a2 = i3 a2) (by omega) (by omega) (by omega)) ?_
                        have r61 := zH_k hZ 43 0 a2 10 (lo := -1) (hi := 695) (by decide) rfl
                        refine wz_br (i3Le (zm_rd (Z := Z) (ν := ν) (k := 43) (show ((0 : Nat) : Int) = 0 from rfl) (i3I (y := a2) (rfl : i3 a2 = i3 a2) (by omega) (by omega) (by omega)) (show ((10 : Nat) : Int) = 10 from rfl)) (zm_rd (Z := Z) (ν := ν) (k := 11) (show ((0 : Nat) : Int) = 0 from rfl) (show ((0 : Nat) : Int) = 0 from rfl) (show ((13 : Nat) : Int) = 13 from rfl)) (by omega) (by omega) (by omega) (by omega)) (fun h62 => ?_) (fun h62 => ?_)
                        · replace hP := zE_p hP h62
                          refine wz_i1 (Eq.trans (i3NE (rfl : i3 a2 = i3 a2) (show (6 : Int32) = i3 6 from rfl) (by omega) (by omega) (by omega) (by omega)) (decide_eq_true (by omega))) ?_
                          refine wz_i0 (i3O (n := 6) (rfl : i3 a2 = i3 a2) (by omega) (by omega) (by omega)) ?_
                          obtain ⟨v63, hv63, c9, lv63, uv63⟩ := sp_182 (ν := ν) hZ 0 (a1 := a2) (by omega) (zbh (c := 0) (k := 0) hM (Nat.le_of_ble_eq_true rfl))
                          replace hP := zl_e hP hv63
                          refine wz_cI_of (zas (zcons rfl (zcons (zvi (rfl : i3 a2 = i3 a2)) rfl)) c9) ?_
                          clear c9
                          have r64 := zH_k hZ 43 0 a2 0 (lo := 0) (hi := 12) (by decide) rfl
                          refine wz_br (i3Le (i3S (zm_rd (Z := Z) (ν := ν) (k := 43) (show ((0 : Nat) : Int) = 0 from rfl) (i3I (y := a2) (rfl : i3 a2 = i3 a2) (by omega) (by omega) (by omega)) (show ((0 : Nat) : Int) = 0 from rfl)) (rfl : i3 v63 = i3 v63)) (show (0 : Int32) = i3 0 from rfl) (by omega) (by omega) (by omega) (by omega)) (fun h65 => ?_) (fun h65 => ?_)
                          · replace hP := zE_p hP h65
                            refine wz_i1 (Eq.trans (i3NE (show (3 : Int32) = i3 3 from rfl) (show (1 : Int32) = i3 1 from rfl) (by omega) (by omega) (by omega) (by omega)) (decide_eq_true (by omega))) ?_
                            refine wz_i1 (Eq.trans (i3NE (show (3 : Int32) = i3 3 from rfl) (show (2 : Int32) = i3 2 from rfl) (by omega) (by omega) (by omega) (by omega)) (decide_eq_true (by omega))) ?_
                            refine wz_i0 (Eq.trans (i3NE (show (3 : Int32) = i3 3 from rfl) (show (3 : Int32) = i3 3 from rfl) (by omega) (by omega) (by omega) (by omega)) (decide_eq_false (by omega))) ?_
                            exact zlGe (E := 14) hP ⟨(zbw (a := 0) (c := 2) hZ (Nat.le_of_ble_eq_true rfl)), zC_r, zU_r, zG_w (zG_k rfl) (Nat.le_of_ble_eq_true rfl) (Nat.le_of_ble_eq_true rfl)⟩
                          · replace hP := zE_n hP h65
                            refine wz_i1 (Eq.trans (i3NE (show (0 : Int32) = i3 0 from rfl) (show (1 : Int32) = i3 1 from rfl) (by omega) (by omega) (by omega) (by omega)) (decide_eq_true (by omega))) ?_
                            refine wz_i1 (Eq.trans (i3NE (show (0 : Int32) = i3 0 from rfl) (show (2 : Int32) = i3 2 from rfl) (by omega) (by omega) (by omega) (by omega)) (decide_eq_true (by omega))) ?_
                            refine wz_i1 (Eq.trans (i3NE (show (0 : Int32) = i3 0 from rfl) (show (3 : Int32) = i3 3 from rfl) (by omega) (by omega) (by omega) (by omega)) (decide_eq_true (by omega))) ?_
                            refine dc_J (zcons rfl (zcons (zvi (show (8 : Int32) = i3 8 from rfl)) (zcons (zvi (rfl : i3 a1 = i3 a1)) (zcons (zvi (rfl : i3 a2 = i3 a2)) (zcons (zvi (show (0 : Int32) = i3 0 from rfl)) (zcons (zvi (show (0 : Int32) = i3 0 from rfl)) (zcons (zvi (show (0 : Int32) = i3 0 from rfl)) (zcons (zvi (show (0 : Int32) = i3 0 from rfl)) rfl)))))))) (dg (hZ).1 (by omega) (by omega) (by omega) (by omega) (by omega) (by omega) (by omega) ?_)
                            have hZ66I := zH_dd hZ (a1 := 8) (a2 := a1) (a3 := a2) (a4 := 0) (a5 := 0) (a6 := 0) (a7 := 0) (by omega) (by omega) (by omega) (by omega) (by omega) (by omega) (by omega)
                            have kZ66 : zC [3, 12, 13, 14, 40, 41, 42, 43, 44, 45, 46, 47, 48, 49, 50, 51, 52, 53, 54, 61, 68, 1099, 1100, 1101, 1102, 1103, 1104, 1105, 1106, 1107, 1108, 1109, 1110, 1111, 1112, 1113, 1114, 1115, 1116] Z (zdd Z 8 a1 a2 0 0 0 0) := zC_k zdd_K (by decide) (by decide)
                            have hZ66A : (zdd Z 8 a1 a2 0 0 0 0) 68 0 0 0 = 8 ∧ (zdd Z 8 a1 a2 0 0 0 0) 68 0 0 1 = a1 ∧ (zdd Z 8 a1 a2 0 0 0 0) 68 0 0 2 = a2 ∧ (zdd Z 8 a1 a2 0 0 0 0) 68 0 0 3 = 0 ∧ (zdd Z 8 a1 a2 0 0 0 0) 68 0 0 4 = 0 ∧ (zdd Z 8 a1 a2 0 0 0 0) 68 0 0 5 = 0 ∧ (zdd Z 8 a1 a2 0 0 0 0) 68 0 0 6 = 0 := ⟨zdd_68, zdd_68, zdd_68, zdd_68, zdd_68, zdd_68, zdd_68⟩
                            obtain ⟨Z66, hZ66⟩ := zx (zdd Z 8 a1 a2 0 0 0 0)
                            have dZ66 : ∀ {k : Nat} {i j : Int}, zhall k = true → ¬ (k = 11 ∧ (j = 15 ∨ j = 16)) → Z66 k 0 i j = Z k 0 i j := fun hk hj => by rw [hZ66]; exact zdd_h (hZ).1 hk hj
                            have jZ66 : zU [0, 2, 3, 4, 5, 6, 7, 8, 9] Z (zdd Z 8 a1 a2 0 0 0 0) := zU_dd (hZ).1
                            rw [← hZ66] at hZ66I kZ66 jZ66 hZ66A ⊢
                            have hZ66U : zU [0, 2, 3, 4, 5, 6, 7, 8, 9] Z Z66 := zU_t zU_r jZ66 (zU_b1 (List.Mem.head _) (zU_b1 (List.Mem.tail _ (List.Mem.head _)) (zU_b1 (List.Mem.tail _ (List.Mem.tail _ (List.Mem.head _))) (zU_b1 (List.Mem.tail _ (List.Mem.tail _ (List.Mem.tail _ (List.Mem.head _)))) (zU_b1 (List.Mem.tail _ (List.Mem.tail _ (List.Mem.tail _ (List.Mem.tail _ (List.Mem.head _))))) (zU_b1 (List.Mem.tail _ (List.Mem.tail _ (List.Mem.tail _ (List.Mem.tail _ (List.Mem.tail _ (List.Mem.head _)))))) (zU_b1 (List.Mem.tail _ (List.Mem.tail _ (List.Mem.tail _ (List.Mem.tail _ (List.Mem.tail _ (List.Mem.tail _ (List.Mem.head _))))))) (zU_b1 (List.Mem.tail _ (List.Mem.tail _ (List.Mem.tail _ (List.Mem.tail _ (List.Mem.tail _ (List.Mem.tail _ (List.Mem.tail _ (List.Mem.head _)))))))) (zU_b1 (List.Mem.tail _ (List.Mem.tail _ (List.Mem.tail _ (List.Mem.tail _ (List.Mem.tail _ (List.Mem.tail _ (List.Mem.tail _ (List.Mem.tail _ (List.Mem.head _))))))))) zU_b0)))))))))
                            replace hP := zl_e hP hZ66
                            have hZ66K : zC [3, 12, 13, 14, 40, 41, 42, 43, 44, 45, 46, 47, 48, 49, 50, 51, 52, 53, 54, 61, 68, 1099, 1100, 1101, 1102, 1103, 1104, 1105, 1106, 1107, 1108, 1109, 1110, 1111, 1112, 1113, 1114, 1115, 1116] Z Z66 := zC_t zC_r kZ66 (by decide)
                            clear kZ66 hZ66
                            refine fw_121 _ _ _ _ ?_
                            refine wz_i1 rfl ?_
                            refine wz_i0 (i3O (n := 7) (show (0 : Int32) = i3 0 from rfl) (by omega) (by omega) (by omega)) ?_
                            refine wz_i0 (Eq.trans (i3To (Eq.trans (zm_rd (Z := Z66) (ν := ν) (k := 68) (show ((0 : Nat) : Int) = 0 from rfl) (show ((0 : Nat) : Int) = 0 from rfl) (show ((0 : Nat) : Int) = 0 from rfl)) (congrArg i3 ((hZ66A.1)))) (by omega) (by omega)) (decide_eq_false (by omega))) ?_
                            refine wz_i0 (Eq.trans (i3T (Eq.trans (zm_rd (Z := Z66) (ν := ν) (k := 68) (show ((0 : Nat) : Int) = 0 from rfl) (show ((0 : Nat) : Int) = 0 from rfl) (show ((0 : Nat) : Int) = 0 from rfl)) (congrArg i3 ((hZ66A.1)))) (by omega) (by omega)) (decide_eq_false (by omega))) ?_
                            refine wz_i0 (Eq.trans (i3T (Eq.trans (zm_rd (Z := Z66) (ν := ν) (k := 68) (show ((0 : Nat) : Int) = 0 from rfl) (show ((0 : Nat) : Int) = 0 from rfl) (show ((0 : Nat) : Int) = 0 from rfl)) (congrArg i3 ((hZ66A.1)))) (by omega) (by omega)) (decide_eq_false (by omega))) ?_
                            refine wz_i0 (Eq.trans (i3T (Eq.trans (zm_rd (Z := Z66) (ν := ν) (k := 68) (show ((0 : Nat) : Int) = 0 from rfl) (show ((0 : Nat) : Int) = 0 from rfl) (show ((0 : Nat) : Int) = 0 from rfl)) (congrArg i3 ((hZ66A.1)))) (by omega) (by omega)) (decide_eq_false (by omega))) ?_
                            refine wz_i0 (Eq.trans (i3T (Eq.trans (zm_rd (Z := Z66) (ν := ν) (k := 68) (show ((0 : Nat) : Int) = 0 from rfl) (show ((0 : Nat) : Int) = 0 from rfl) (show ((0 : Nat) : Int) = 0 from rfl)) (congrArg i3 ((hZ66A.1)))) (by omega) (by omega)) (decide_eq_false (by omega))) ?_
                            refine wz_i0 (Eq.trans (i3T (Eq.trans (zm_rd (Z := Z66) (ν := ν) (k := 68) (show ((0 : Nat) : Int) = 0 from rfl) (show ((0 : Nat) : Int) = 0 from rfl) (show ((0 : Nat) : Int) = 0 from rfl)) (congrArg i3 ((hZ66A.1)))) (by omega) (by omega)) (decide_eq_false (by omega))) ?_
                            refine wz_i0 (Eq.trans (i3T (Eq.trans (zm_rd (Z := Z66) (ν := ν) (k := 68) (show ((0 : Nat) : Int) = 0 from rfl) (show ((0 : Nat) : Int) = 0 from rfl) (show ((0 : Nat) : Int) = 0 from rfl)) (congrArg i3 ((hZ66A.1)))) (by omega) (by omega)) (decide_eq_false (by omega))) ?_
                            refine wz_i0 (Eq.trans (i3T (Eq.trans (zm_rd (Z := Z66) (ν := ν) (k := 68) (show ((0 : Nat) : Int) = 0 from rfl) (show ((0 : Nat) : Int) = 0 from rfl) (show ((0 : Nat) : Int) = 0 from rfl)) (congrArg i3 ((hZ66A.1)))) (by omega) (by omega)) (decide_eq_false (by omega))) ?_
                            refine wz_i0 (Eq.trans (i3T (Eq.trans (zm_rd (Z := Z66) (ν := ν) (k := 68) (show ((0 : Nat) : Int) = 0 from rfl) (show ((0 : Nat) : Int) = 0 from rfl) (show ((0 : Nat) : Int) = 0 from rfl)) (congrArg i3 ((hZ66A.1)))) (by omega) (by omega)) (decide_eq_false (by omega))) ?_
                            refine wz_i1 (Eq.trans (i3T (Eq.trans (zm_rd (Z := Z66) (ν := ν) (k := 68) (show ((0 : Nat) : Int) = 0 from rfl) (show ((0 : Nat) : Int) = 0 from rfl) (show ((0 : Nat) : Int) = 0 from rfl)) (congrArg i3 ((hZ66A.1)))) (by omega) (by omega)) (decide_eq_true (by omega))) ?_
                            refine wz_i1 rfl ?_
                            refine wz_i0 (i3O (n := 7) (show (1 : Int32) = i3 1 from rfl) (by omega) (by omega) (by omega)) ?_
                            refine wz_i1 rfl ?_
                            refine wz_i0 (i3O (n := 7) (show (2 : Int32) = i3 2 from rfl) (by omega) (by omega) (by omega)) ?_
                            refine wz_i1 (Eq.trans (i3NE (Eq.trans (zm_rd (Z := Z66) (ν := ν) (k := 68) (show ((0 : Nat) : Int) = 0 from rfl) (show ((0 : Nat) : Int) = 0 from rfl) (show ((2 : Nat) : Int) = 2 from rfl)) (congrArg i3 ((hZ66A.2.2.1)))) (show (-1 : Int32) = i3 (-1) from rfl) (by omega) (by omega) (by omega) (by omega)) (decide_eq_true (by omega))) ?_
                            refine wz_i0 (i3O (n := 48) (Eq.trans (zm_rd (Z := Z66) (ν := ν) (k := 68) (show ((0 : Nat) : Int) = 0 from rfl) (show ((0 : Nat) : Int) = 0 from rfl) (show ((1 : Nat) : Int) = 1 from rfl)) (congrArg i3 ((hZ66A.2.1)))) (by omega) (by omega) (by omega)) ?_
                            obtain ⟨Z67, hZ67, c9, hZ67I, kZ67, jZ67⟩ := sp_175 (ν := ν) hZ66I 0 0 _ (i3I (y := a1) (Eq.trans (zm_rd (Z := Z66) (ν := ν) (k := 68) (show ((0 : Nat) : Int) = 0 from rfl) (show ((0 : Nat) : Int) = 0 from rfl) (show ((1 : Nat) : Int) = 1 from rfl)) (congrArg i3 ((hZ66A.2.1)))) (by omega) (by omega) (by omega)) (by omega) (a2 := a2) (by omega) (zbh (c := 0) (k := 2) hM (Nat.le_of_ble_eq_true rfl))
                            have hZ67U : zU [0, 2, 3, 4, 5, 6, 7, 8, 9] Z Z67 := zU_t hZ66U jZ67 (zU_b1 (List.Mem.head _) (zU_b1 (List.Mem.head _) zU_b0))
                            have hZ67K : zC [3, 12, 13, 14, 40, 41, 42, 43, 44, 45, 46, 47, 48, 49, 50, 51, 52, 53, 54, 61, 68, 1099, 1100, 1101, 1102, 1103, 1104, 1105, 1106, 1107, 1108, 1109, 1110, 1111, 1112, 1113, 1114, 1115, 1116] Z Z67 := zC_t hZ66K kZ67 (by decide)
                            replace hP := zl_e hP hZ67
                            refine wz_cV_of (zas (zcons rfl (zcons rfl (zcons (zvi (Eq.trans (zm_rd (Z := Z66) (ν := ν) (k := 68) (show ((0 : Nat) : Int) = 0 from rfl) (show ((0 : Nat) : Int) = 0 from rfl) (show ((2 : Nat) : Int) = 2 from rfl)) (congrArg i3 ((hZ66A.2.2.1))))) rfl))) c9) ?_
                            clear c9
                            refine wz_i1 (Eq.trans (i3NE (Eq.trans (zm_rd (Z := Z66) (ν := ν) (k := 68) (show ((0 : Nat) : Int) = 0 from rfl) (show ((0 : Nat) : Int) = 0 from rfl) (show ((2 : Nat) : Int) = 2 from rfl)) (congrArg i3 ((hZ66A.2.2.1)))) (show (6 : Int32) = i3 6 from rfl) (by omega) (by omega) (by omega) (by omega)) (decide_eq_true (by omega))) ?_
                            refine wz_i0 (i3O (n := 6) (Eq.trans (zm_rd (Z := Z66) (ν := ν) (k := 68) (show ((0 : Nat) : Int) = 0 from rfl) (show ((0 : Nat) : Int) = 0 from rfl) (show ((2 : Nat) : Int) = 2 from rfl)) (congrArg i3 ((hZ66A.2.2.1)))) (by omega) (by omega) (by omega)) ?_
                            obtain ⟨v68, hv68, c9, lv68, uv68⟩ := sp_182 (ν := ν) hZ67I 0 (a1 := a2) (by omega) (zbh (c := 2) (k := 0) hM (Nat.le_of_ble_eq_true rfl))
                            replace hP := zl_e hP hv68
                            refine wz_cI_of (zas (zcons rfl (zcons (zvi (Eq.trans (zm_rd (Z := Z66) (ν := ν) (k := 68) (show ((0 : Nat) : Int) = 0 from rfl) (show ((0 : Nat) : Int) = 0 from rfl) (show ((2 : Nat) : Int) = 2 from rfl)) (congrArg i3 ((hZ66A.2.2.1))))) rfl)) c9) ?_
                            clear c9
                            have r69 := zH_k hZ67I 43 0 a2 0 (lo := 0) (hi := 12) (by decide) rfl
                            exact zlG hP (i3S (zm_rd (Z := Z67) (ν := ν) (k := 43) (show ((0 : Nat) : Int) = 0 from rfl) (i3I (y := a2) (Eq.trans (zm_rd (Z := Z66) (ν := ν) (k := 68) (show ((0 : Nat) : Int) = 0 from rfl) (show ((0 : Nat) : Int) = 0 from rfl) (show ((2 : Nat) : Int) = 2 from rfl)) (congrArg i3 ((hZ66A.2.2.1)))) (by omega) (by omega) (by omega)) (show ((0 : Nat) : Int) = 0 from rfl)) (rfl : i3 v68 = i3 v68)) ⟨hZ67I, hZ67K, hZ67U, zG_w zG_r (Nat.le_of_ble_eq_true rfl) (Nat.le_of_ble_eq_true rfl)⟩
                        · replace hP := zE_n hP h62
                          refine wz_i1 (Eq.trans (i3NE (show (3 : Int32) = i3 3 from rfl) (show (1 : Int32) = i3 1 from rfl) (by omega) (by omega) (by omega) (by omega)) (decide_eq_true (by omega))) ?_
                          refine wz_i1 (Eq.trans (i3NE (show (3 : Int32) = i3 3 from rfl) (show (2 : Int32) = i3 2 from rfl) (by omega) (by omega) (by omega) (by omega)) (decide_eq_true (by omega))) ?_
                          refine wz_i0 (Eq.trans (i3NE (show (3 : Int32) = i3 3 from rfl) (show (3 : Int32) = i3 3 from rfl) (by omega) (by omega) (by omega) (by omega)) (decide_eq_false (by omega))) ?_
                          exact zlGe (E := 14) hP ⟨(zbw (a := 0) (c := 2) hZ (Nat.le_of_ble_eq_true rfl)), zC_r, zU_r, zG_w (zG_k rfl) (Nat.le_of_ble_eq_true rfl) (Nat.le_of_ble_eq_true rfl)⟩
                    · replace hP := zE_n hP h52
                      refine wz_i1 (Eq.trans (i3NE (show (3 : Int32) = i3 3 from rfl) (show (1 : Int32) = i3 1 from rfl) (by omega) (by omega) (by omega) (by omega)) (decide_eq_true (by omega))) ?_
                      refine wz_i1 (Eq.trans (i3NE (show (3 : Int32) = i3 3 from rfl) (show (2 : Int32) = i3 2 from rfl) (by omega) (by omega) (by omega) (by omega)) (decide_eq_true (by omega))) ?_
                      refine wz_i0 (Eq.trans (i3NE (show (3 : Int32) = i3 3 from rfl) (show (3 : Int32) = i3 3 from rfl) (by omega) (by omega) (by omega) (by omega)) (decide_eq_false (by omega))) ?_
                      exact zlGe (E := 14) hP ⟨(zbw (a := 0) (c := 2) hZ (Nat.le_of_ble_eq_true rfl)), zC_r, zU_r, zG_w (zG_k rfl) (Nat.le_of_ble_eq_true rfl) (Nat.le_of_ble_eq_true rfl)⟩
            · replace hP := zE_n hP h9
              refine wz_br (i3NE (zm_rd (Z := Z) (ν := ν) (k := 44) (show ((0 : Nat) : Int) = 0 from rfl) (i3I (y := a1) (rfl : i3 a1 = i3 a1) (by omega) (by omega) (by omega)) (show ((10 : Nat) : Int) = 10 from rfl)) (show (1 : Int32) = i3 1 from rfl) (by omega) (by omega) (by omega) (by omega)) (fun h70 => ?_) (fun h70 => ?_)
              · replace hP := zE_p hP h70
                refine wz_i1 (Eq.trans (i3NE (show (3 : Int32) = i3 3 from rfl) (show (1 : Int32) = i3 1 from rfl) (by omega) (by omega) (by omega) (by omega)) (decide_eq_true (by omega))) ?_
                refine wz_i1 (Eq.trans (i3NE (show (3 : Int32) = i3 3 from rfl) (show (2 : Int32) = i3 2 from rfl) (by omega) (by omega) (by omega) (by omega)) (decide_eq_true (by omega))) ?_
                refine wz_i0 (Eq.trans (i3NE (show (3 : Int32) = i3 3 from rfl) (show (3 : Int32) = i3 3 from rfl) (by omega) (by omega) (by omega) (by omega)) (decide_eq_false (by omega))) ?_
                exact zlGe (E := 14) hP ⟨(zbw (a := 0) (c := 2) hZ (Nat.le_of_ble_eq_true rfl)), zC_r, zU_r, zG_w (zG_k rfl) (Nat.le_of_ble_eq_true rfl) (Nat.le_of_ble_eq_true rfl)⟩
              · replace hP := zE_n hP h70
                have r71 := zH_k hZ 44 0 a1 12 (lo := -1) (hi := 6) (by decide) rfl
                refine wz_br (i3E (zm_rd (Z := Z) (ν := ν) (k := 44) (show ((0 : Nat) : Int) = 0 from rfl) (i3I (y := a1) (rfl : i3 a1 = i3 a1) (by omega) (by omega) (by omega)) (show ((12 : Nat) : Int) = 12 from rfl)) (rfl : i3 a2 = i3 a2) (by omega) (by omega) (by omega) (by omega)) (fun h72 => ?_) (fun h72 => ?_)
                · replace hP := zE_p hP h72
                  refine wz_i1 (Eq.trans (i3NE (show (3 : Int32) = i3 3 from rfl) (show (1 : Int32) = i3 1 from rfl) (by omega) (by omega) (by omega) (by omega)) (decide_eq_true (by omega))) ?_
                  refine wz_i1 (Eq.trans (i3NE (show (3 : Int32) = i3 3 from rfl) (show (2 : Int32) = i3 2 from rfl) (by omega) (by omega) (by omega) (by omega)) (decide_eq_true (by omega))) ?_
                  refine wz_i0 (Eq.trans (i3NE (show (3 : Int32) = i3 3 from rfl) (show (3 : Int32) = i3 3 from rfl) (by omega) (by omega) (by omega) (by omega)) (decide_eq_false (by omega))) ?_
                  exact zlGe (E := 14) hP ⟨(zbw (a := 0) (c := 2) hZ (Nat.le_of_ble_eq_true rfl)), zC_r, zU_r, zG_w (zG_k rfl) (Nat.le_of_ble_eq_true rfl) (Nat.le_of_ble_eq_true rfl)⟩
                · replace hP := zE_n hP h72
                  refine wz_br (i3L (zm_rd (Z := Z) (ν := ν) (k := 44) (show ((0 : Nat) : Int) = 0 from rfl) (i3I (y := a1) (rfl : i3 a1 = i3 a1) (by omega) (by omega) (by omega)) (show ((12 : Nat) : Int) = 12 from rfl)) (show (0 : Int32) = i3 0 from rfl) (by omega) (by omega) (by omega) (by omega)) (fun h73 => ?_) (fun h73 => ?_)
                  · replace hP := zE_p hP h73
                    refine wz_i0 (Eq.trans (i3L (rfl : i3 a2 = i3 a2) (show (0 : Int32) = i3 0 from rfl) (by omega) (by omega) (by omega) (by omega)) (decide_eq_false (by omega))) ?_
                    refine wz_br (i3Le (zm_rd (Z := Z) (ν := ν) (k := 11) (show ((0 : Nat) : Int) = 0 from rfl) (show ((0 : Nat) : Int) = 0 from rfl) (show ((2 : Nat) : Int) = 2 from rfl)) (rfl : i3 a2 = i3 a2) (by omega) (by omega) (by omega) (by omega)) (fun h74 => ?_) (fun h74 => ?_)
                    · replace hP := zE_p hP h74
                      refine wz_i1 (Eq.trans (i3NE (rfl : i3 a2 = i3 a2) (show (6 : Int32) = i3 6 from rfl) (by omega) (by omega) (by omega) (by omega)) (decide_eq_true (by omega))) ?_
                      refine wz_i0 (i3O (n := 6) (rfl : i3 a2 = i3 a2) (by omega) (by omega) (by omega)) ?_
                      obtain ⟨v75, hv75, c9, lv75, uv75⟩ := sp_182 (ν := ν) hZ 0 (a1 := a2) (by omega) (zbh (c := 0) (k := 0) hM (Nat.le_of_ble_eq_true rfl))
                      replace hP := zl_e hP hv75
                      refine wz_cI_of (zas (zcons rfl (zcons (zvi (rfl : i3 a2 = i3 a2)) rfl)) c9) ?_
                      clear c9
                      have r76 := zH_k hZ 43 0 a2 0 (lo := 0) (hi := 12) (by decide) rfl
                      refine wz_br (i3Le (i3S (zm_rd (Z := Z) (ν := ν) (k := 43) (show ((0 : Nat) : Int) = 0 from rfl) (i3I (y := a2) (rfl : i3 a2 = i3 a2) (by omega) (by omega) (by omega)) (show ((0 : Nat) : Int) = 0 from rfl)) (rfl : i3 v75 = i3 v75)) (show (0 : Int32) = i3 0 from rfl) (by omega) (by omega) (by omega) (by omega)) (fun h77 => ?_) (fun h77 => ?_)
                      · replace hP := zE_p hP h77
                        refine wz_i1 (Eq.trans (i3NE (show (3 : Int32) = i3 3 from rfl) (show (1 : Int32) = i3 1 from rfl) (by omega) (by omega) (by omega) (by omega)) (decide_eq_true (by omega))) ?_
                        refine wz_i1 (Eq.trans (i3NE (show (3 : Int32) = i3 3 from rfl) (show (2 : Int32) = i3 2 from rfl) (by omega) (by omega) (by omega) (by omega)) (decide_eq_true (by omega))) ?_
                        refine wz_i0 (Eq.trans (i3NE (show (3 : Int32) = i3 3 from rfl) (show (3 : Int32) = i3 3 from rfl) (by omega) (by omega) (by omega) (by omega)) (decide_eq_false (by omega))) ?_
                        exact zlGe (E := 14) hP ⟨(zbw (a := 0) (c := 2) hZ (Nat.le_of_ble_eq_true rfl)), zC_r, zU_r, zG_w (zG_k rfl) (Nat.le_of_ble_eq_true rfl) (Nat.le_of_ble_eq_true rfl)⟩
                      · replace hP := zE_n hP h77
                        refine wz_i1 (Eq.trans (i3NE (show (0 : Int32) = i3 0 from rfl) (show (1 : Int32) = i3 1 from rfl) (by omega) (by omega) (by omega) (by omega)) (decide_eq_true (by omega))) ?_
                        refine wz_i1 (Eq.trans (i3NE (show (0 : Int32) = i3 0 from rfl) (show (2 : Int32) = i3 2 from rfl) (by omega) (by omega) (by omega) (by omega)) (decide_eq_true (by omega))) ?_
                        refine wz_i1 (Eq.trans (i3NE (show (0 : Int32) = i3 0 from rfl) (show (3 : Int32) = i3 3 from rfl) (by omega) (by omega) (by omega) (by omega)) (decide_eq_true (by omega))) ?_
                        refine dc_J (zcons rfl (zcons (zvi (show (8 : Int32) = i3 8 from rfl)) (zcons (zvi (rfl : i3 a1 = i3 a1)) (zcons (zvi (rfl : i3 a2 = i3 a2)) (zcons (zvi (show (0 : Int32) = i3 0 from rfl)) (zcons (zvi (show (0 : Int32) = i3 0 from rfl)) (zcons (zvi (show (0 : Int32) = i3 0 from rfl)) (zcons (zvi (show (0 : Int32) = i3 0 from rfl)) rfl)))))))) (dg (hZ).1 (by omega) (by omega) (by omega) (by omega) (by omega) (by omega) (by omega) ?_)
                        have hZ78I := zH_dd hZ (a1 := 8) (a2 := a1) (a3 := a2) (a4 := 0) (a5 := 0) (a6 := 0) (a7 := 0) (by omega) (by omega) (by omega) (by omega) (by omega) (by omega) (by omega)
                        have kZ78 : zC [3, 12, 13, 14, 40, 41, 42, 43, 44, 45, 46, 47, 48, 49, 50, 51, 52, 53, 54, 61, 68, 1099, 1100, 1101, 1102, 1103, 1104, 1105, 1106, 1107, 1108, 1109, 1110, 1111, 1112, 1113, 1114, 1115, 1116] Z (zdd Z 8 a1 a2 0 0 0 0) := zC_k zdd_K (by decide) (by decide)
                        have hZ78A : (zdd Z 8 a1 a2 0 0 0 0) 68 0 0 0 = 8 ∧ (zdd Z 8 a1 a2 0 0 0 0) 68 0 0 1 = a1 ∧ (zdd Z 8 a1 a2 0 0 0 0) 68 0 0 2 = a2 ∧ (zdd Z 8 a1 a2 0 0 0 0) 68 0 0 3 = 0 ∧ (zdd Z 8 a1 a2 0 0 0 0) 68 0 0 4 = 0 ∧ (zdd Z 8 a1 a2 0 0 0 0) 68 0 0 5 = 0 ∧ (zdd Z 8 a1 a2 0 0 0 0) 68 0 0 6 = 0 := ⟨zdd_68, zdd_68, zdd_68, zdd_68, zdd_68, zdd_68, zdd_68⟩
                        obtain ⟨Z78, hZ78⟩ := zx (zdd Z 8 a1 a2 0 0 0 0)
                        have dZ78 : ∀ {k : Nat} {i j : Int}, zhall k = true → ¬ (k = 11 ∧ (j = 15 ∨ j = 16)) → Z78 k 0 i j = Z k 0 i j := fun hk hj => by rw [hZ78]; exact zdd_h (hZ).1 hk hj
                        have jZ78 : zU [0, 2, 3, 4, 5, 6, 7, 8, 9] Z (zdd Z 8 a1 a2 0 0 0 0) := zU_dd (hZ).1
                        rw [← hZ78] at hZ78I kZ78 jZ78 hZ78A ⊢
                        have hZ78U : zU [0, 2, 3, 4, 5, 6, 7, 8, 9] Z Z78 := zU_t zU_r jZ78 (zU_b1 (List.Mem.head _) (zU_b1 (List.Mem.tail _ (List.Mem.head _)) (zU_b1 (List.Mem.tail _ (List.Mem.tail _ (List.Mem.head _))) (zU_b1 (List.Mem.tail _ (List.Mem.tail _ (List.Mem.tail _ (List.Mem.head _)))) (zU_b1 (List.Mem.tail _ (List.Mem.tail _ (List.Mem.tail _ (List.Mem.tail _ (List.Mem.head _))))) (zU_b1 (List.Mem.tail _ (List.Mem.tail _ (List.Mem.tail _ (List.Mem.tail _ (List.Mem.tail _ (List.Mem.head _)))))) (zU_b1 (List.Mem.tail _ (List.Mem.tail _ (List.Mem.tail _ (List.Mem.tail _ (List.Mem.tail _ (List.Mem.tail _ (List.Mem.head _))))))) (zU_b1 (List.Mem.tail _ (List.Mem.tail _ (List.Mem.tail _ (List.Mem.tail _ (List.Mem.tail _ (List.Mem.tail _ (List.Mem.tail _ (List.Mem.head _)))))))) (zU_b1 (List.Mem.tail _ (List.Mem.tail _ (List.Mem.tail _ (List.Mem.tail _ (List.Mem.tail _ (List.Mem.tail _ (List.Mem.tail _ (List.Mem.tail _ (List.Mem.head _))))))))) zU_b0)))))))))
                        replace hP := zl_e hP hZ78
                        have hZ78K : zC [3, 12, 13, 14, 40, 41, 42, 43, 44, 45, 46, 47, 48, 49, 50, 51, 52, 53, 54, 61, 68, 1099, 1100, 1101, 1102, 1103, 1104, 1105, 1106, 1107, 1108, 1109, 1110, 1111, 1112, 1113, 1114, 1115, 1116] Z Z78 := zC_t zC_r kZ78 (by decide)
                        clear kZ78 hZ78
                        refine fw_121 _ _ _ _ ?_
                        refine wz_i1 rfl ?_
                        refine wz_i0 (i3O (n := 7) (show (0 : Int32) = i3 0 from rfl) (by omega) (by omega) (by omega)) ?_
                        refine wz_i0 (Eq.trans (i3To (Eq.trans (zm_rd (Z := Z78) (ν := ν) (k := 68) (show ((0 : Nat) : Int) = 0 from rfl) (show ((0 : Nat) : Int) = 0 from rfl) (show ((0 : Nat) : Int) = 0 from rfl)) (congrArg i3 ((hZ78A.1)))) (by omega) (by omega)) (decide_eq_false (by omega))) ?_
                        refine wz_i0 (Eq.trans (i3T (Eq.trans (zm_rd (Z := Z78) (ν := ν) (k := 68) (show ((0 : Nat) : Int) = 0 from rfl) (show ((0 : Nat) : Int) = 0 from rfl) (show ((0 : Nat) : Int) = 0 from rfl)) (congrArg i3 ((hZ78A.1)))) (by omega) (by omega)) (decide_eq_false (by omega))) ?_
                        refine wz_i0 (Eq.trans (i3T (Eq.trans (zm_rd (Z := Z78) (ν := ν) (k := 68) (show ((0 : Nat) : Int) = 0 from rfl) (show ((0 : Nat) : Int) = 0 from rfl) (show ((0 : Nat) : Int) = 0 from rfl)) (congrArg i3 ((hZ78A.1)))) (by omega) (by omega)) (decide_eq_false (by omega))) ?_
                        refine wz_i0 (Eq.trans (i3T (Eq.trans (zm_rd (Z := Z78) (ν := ν) (k := 68) (show ((0 : Nat) : Int) = 0 from rfl) (show ((0 : Nat) : Int) = 0 from rfl) (show ((0 : Nat) : Int) = 0 from rfl)) (congrArg i3 ((hZ78A.1)))) (by omega) (by omega)) (decide_eq_false (by omega))) ?_
                        refine wz_i0 (Eq.trans (i3T (Eq.trans (zm_rd (Z := Z78) (ν := ν) (k := 68) (show ((0 : Nat) : Int) = 0 from rfl) (show ((0 : Nat) : Int) = 0 from rfl) (show ((0 : Nat) : Int) = 0 from rfl)) (congrArg i3 ((hZ78A.1)))) (by omega) (by omega)) (decide_eq_false (by omega))) ?_
                        refine wz_i0 (Eq.trans (i3T (Eq.trans (zm_rd (Z := Z78) (ν := ν) (k := 68) (show ((0 : Nat) : Int) = 0 from rfl) (show ((0 : Nat) : Int) = 0 from rfl) (show ((0 : Nat) : Int) = 0 from rfl)) (congrArg i3 ((hZ78A.1)))) (by omega) (by omega)) (decide_eq_false (by omega))) ?_
                        refine wz_i0 (Eq.trans (i3T (Eq.trans (zm_rd (Z := Z78) (ν := ν) (k := 68) (show ((0 : Nat) : Int) = 0 from rfl) (show ((0 : Nat) : Int) = 0 from rfl) (show ((0 : Nat) : Int) = 0 from rfl)) (congrArg i3 ((hZ78A.1)))) (by omega) (by omega)) (decide_eq_false (by omega))) ?_
                        refine wz_i0 (Eq.trans (i3T (Eq.trans (zm_rd (Z := Z78) (ν := ν) (k := 68) (show ((0 : Nat) : Int) = 0 from rfl) (show ((0 : Nat) : Int) = 0 from rfl) (show ((0 : Nat) : Int) = 0 from rfl)) (congrArg i3 ((hZ78A.1)))) (by omega) (by omega)) (decide_eq_false (by omega))) ?_
                        refine wz_i0 (Eq.trans (i3T (Eq.trans (zm_rd (Z := Z78) (ν := ν) (k := 68) (show ((0 : Nat) : Int) = 0 from rfl) (show ((0 : Nat) : Int) = 0 from rfl) (show ((0 : Nat) : Int) = 0 from rfl)) (congrArg i3 ((hZ78A.1)))) (by omega) (by omega)) (decide_eq_false (by omega))) ?_
                        refine wz_i1 (Eq.trans (i3T (Eq.trans (zm_rd (Z := Z78) (ν := ν) (k := 68) (show ((0 : Nat) : Int) = 0 from rfl) (show ((0 : Nat) : Int) = 0 from rfl) (show ((0 : Nat) : Int) = 0 from rfl)) (congrArg i3 ((hZ78A.1)))) (by omega) (by omega)) (decide_eq_true (by omega))) ?_
                        refine wz_i1 rfl ?_
                        refine wz_i0 (i3O (n := 7) (show (1 : Int32) = i3 1 from rfl) (by omega) (by omega) (by omega)) ?_
                        refine wz_i1 rfl ?_
                        refine wz_i0 (i3O (n := 7) (show (2 : Int32) = i3 2 from rfl) (by omega) (by omega) (by omega)) ?_
                        refine wz_i1 (Eq.trans (i3NE (Eq.trans (zm_rd (Z := Z78) (ν := ν) (k := 68) (show ((0 : Nat) : Int) = 0 from rfl) (show ((0 : Nat) : Int) = 0 from rfl) (show ((2 : Nat) : Int) = 2 from rfl)) (congrArg i3 ((hZ78A.2.2.1)))) (show (-1 : Int32) = i3 (-1) from rfl) (by omega) (by omega) (by omega) (by omega)) (decide_eq_true (by omega))) ?_
                        refine wz_i0 (i3O (n := 48) (Eq.trans (zm_rd (Z := Z78) (ν := ν) (k := 68) (show ((0 : Nat) : Int) = 0 from rfl) (show ((0 : Nat) : Int) = 0 from rfl) (show ((1 : Nat) : Int) = 1 from rfl)) (congrArg i3 ((hZ78A.2.1)))) (by omega) (by omega) (by omega)) ?_
                        obtain ⟨Z79, hZ79, c9, hZ79I, kZ79, jZ79⟩ := sp_175 (ν := ν) hZ78I 0 0 _ (i3I (y := a1) (Eq.trans (zm_rd (Z := Z78) (ν := ν) (k := 68) (show ((0 : Nat) : Int) = 0 from rfl) (show ((0 : Nat) : Int) = 0 from rfl) (show ((1 : Nat) : Int) = 1 from rfl)) (congrArg i3 ((hZ78A.2.1)))) (by omega) (by omega) (by omega)) (by omega) (a2 := a2) (by omega) (zbh (c := 0) (k := 2) hM (Nat.le_of_ble_eq_true rfl))
                        have hZ79U : zU [0, 2, 3, 4, 5, 6, 7, 8, 9] Z Z79 := zU_t hZ78U jZ79 (zU_b1 (List.Mem.head _) (zU_b1 (List.Mem.head _) zU_b0))
                        have hZ79K : zC [3, 12, 13, 14, 40, 41, 42, 43, 44, 45, 46, 47, 48, 49, 50, 51, 52, 53, 54, 61, 68, 1099, 1100, 1101, 1102, 1103, 1104, 1105, 1106, 1107, 1108, 1109, 1110, 1111, 1112, 1113, 1114, 1115, 1116] Z Z79 := zC_t hZ78K kZ79 (by decide)
                        replace hP := zl_e hP hZ79
                        refine wz_cV_of (zas (zcons rfl (zcons rfl (zcons (zvi (Eq.trans (zm_rd (Z := Z78) (ν := ν) (k := 68) (show ((0 : Nat) : Int) = 0 from rfl) (show ((0 : Nat) : Int) = 0 from rfl) (show ((2 : Nat) : Int) = 2 from rfl)) (congrArg i3 ((hZ78A.2.2.1))))) rfl))) c9) ?_
                        clear c9
                        refine wz_i1 (Eq.trans (i3NE (Eq.trans (zm_rd (Z := Z78) (ν := ν) (k := 68) (show ((0 : Nat) : Int) = 0 from rfl) (show ((0 : Nat) : Int) = 0 from rfl) (show ((2 : Nat) : Int) = 2 from rfl)) (congrArg i3 ((hZ78A.2.2.1)))) (show (6 : Int32) = i3 6 from rfl) (by omega) (by omega) (by omega) (by omega)) (decide_eq_true (by omega))) ?_
                        refine wz_i0 (i3O (n := 6) (Eq.trans (zm_rd (Z := Z78) (ν := ν) (k := 68) (show ((0 : Nat) : Int) = 0 from rfl) (show ((0 : Nat) : Int) = 0 from rfl) (show ((2 : Nat) : Int) = 2 from rfl)) (congrArg i3 ((hZ78A.2.2.1)))) (by omega) (by omega) (by omega)) ?_
                        obtain ⟨v80, hv80, c9, lv80, uv80⟩ := sp_182 (ν := ν) hZ79I 0 (a1 := a2) (by omega) (zbh (c := 2) (k := 0) hM (Nat.le_of_ble_eq_true rfl))
                        replace hP := zl_e hP hv80
                        refine wz_cI_of (zas (zcons rfl (zcons (zvi (Eq.trans (zm_rd (Z := Z78) (ν := ν) (k := 68) (show ((0 : Nat) : Int) = 0 from rfl) (show ((0 : Nat) : Int) = 0 from rfl) (show ((2 : Nat) : Int) = 2 from rfl)) (congrArg i3 ((hZ78A.2.2.1))))) rfl)) c9) ?_
                        clear c9
                        have r81 := zH_k hZ79I 43 0 a2 0 (lo := 0) (hi := 12) (by decide) rfl
                        exact zlG hP (i3S (zm_rd (Z := Z79) (ν := ν) (k := 43) (show ((0 : Nat) : Int) = 0 from rfl) (i3I (y := a2) (Eq.trans (zm_rd (Z := Z78) (ν := ν) (k := 68) (show ((0 : Nat) : Int) = 0 from rfl) (show ((0 : Nat) : Int) = 0 from rfl) (show ((2 : Nat) : Int) = 2 from rfl)) (congrArg i3 ((hZ78A.2.2.1)))) (by omega) (by omega) (by omega)) (show ((0 : Nat) : Int) = 0 from rfl)) (rfl : i3 v80 = i3 v80)) ⟨hZ79I, hZ79K, hZ79U, zG_w zG_r (Nat.le_of_ble_eq_true rfl) (Nat.le_of_ble_eq_true rfl)⟩
                    · replace hP := zE_n hP h74
                      refine wz_i0 (i3O (n := 6) (rfl : i3 a2 = i3 a2) (by omega) (by omega) (by omega)) ?_
                      have r82 := zH_k hZ 43 0 a2 10 (lo := -1) (hi := 695) (by decide) rfl
                      have r83 := zH_k hZ 11 0 0 13 (lo := 0) (hi := 671) (by decide) rfl
                      refine wz_br (i3Le (zm_rd (Z := Z) (ν := ν) (k := 43) (show ((0 : Nat) : Int) = 0 from rfl) (i3I (y := a2) (rfl : i3 a2 = i3 a2) (by omega) (by omega) (by omega)) (show ((10 : Nat) : Int) = 10 from rfl)) (zm_rd (Z := Z) (ν := ν) (k := 11) (show ((0 : Nat) : Int) = 0 from rfl) (show ((0 : Nat) : Int) = 0 from rfl) (show ((13 : Nat) : Int) = 13 from rfl)) (by omega) (by omega) (by omega) (by omega)) (fun h84 => ?_) (fun h84 => ?_)
                      · replace hP := zE_p hP h84
                        refine wz_i1 (Eq.trans (i3NE (rfl : i3 a2 = i3 a2) (show (6 : Int32) = i3 6 from rfl) (by omega) (by omega) (by omega) (by omega)) (decide_eq_true (by omega))) ?_
                        refine wz_i0 (i3O (n := 6) (rfl : i3 a2 = i3 a2) (by omega) (by omega) (by omega)) ?_
                        obtain ⟨v85, hv85, c9, lv85, uv85⟩ := sp_182 (ν := ν) hZ 0 (a1 := a2) (by omega) (zbh (c := 0) (k := 0) hM (Nat.le_of_ble_eq_true rfl))
                        replace hP := zl_e hP hv85
                        refine wz_cI_of (zas (zcons rfl (zcons (zvi (rfl : i3 a2 = i3 a2)) rfl)) c9) ?_
                        clear c9
                        have r86 := zH_k hZ 43 0 a2 0 (lo := 0) (hi := 12) (by decide) rfl
                        refine wz_br (i3Le (i3S (zm_rd (Z := Z) (ν := ν) (k := 43) (show ((0 : Nat) : Int) = 0 from rfl) (i3I (y := a2) (rfl : i3 a2 = i3 a2) (by omega) (by omega) (by omega)) (show ((0 : Nat) : Int) = 0 from rfl)) (rfl : i3 v85 = i3 v85)) (show (0 : Int32) = i3 0 from rfl) (by omega) (by omega) (by omega) (by omega)) (fun h87 => ?_) (fun h87 => ?_)
                        · replace hP := zE_p hP h87
                          refine wz_i1 (Eq.trans (i3NE (show (3 : Int32) = i3 3 from rfl) (show (1 : Int32) = i3 1 from rfl) (by omega) (by omega) (by omega) (by omega)) (decide_eq_true (by omega))) ?_
                          refine wz_i1 (Eq.trans (i3NE (show (3 : Int32) = i3 3 from rfl) (show (2 : Int32) = i3 2 from rfl) (by omega) (by omega) (by omega) (by omega)) (decide_eq_true (by omega))) ?_
                          refine wz_i0 (Eq.trans (i3NE (show (3 : Int32) = i3 3 from rfl) (show (3 : Int32) = i3 3 from rfl) (by omega) (by omega) (by omega) (by omega)) (decide_eq_false (by omega))) ?_
                          exact zlGe (E := 14) hP ⟨(zbw (a := 0) (c := 2) hZ (Nat.le_of_ble_eq_true rfl)), zC_r, zU_r, zG_w (zG_k rfl) (Nat.le_of_ble_eq_true rfl) (Nat.le_of_ble_eq_true rfl)⟩
                        · replace hP := zE_n hP h87
                          refine wz_i1 (Eq.trans (i3NE (show (0 : Int32) = i3 0 from rfl) (show (1 : Int32) = i3 1 from rfl) (by omega) (by omega) (by omega) (by omega)) (decide_eq_true (by omega))) ?_
                          refine wz_i1 (Eq.trans (i3NE (show (0 : Int32) = i3 0 from rfl) (show (2 : Int32) = i3 2 from rfl) (by omega) (by omega) (by omega) (by omega)) (decide_eq_true (by omega))) ?_
                          refine wz_i1 (Eq.trans (i3NE (show (0 : Int32) = i3 0 from rfl) (show (3 : Int32) = i3 3 from rfl) (by omega) (by omega) (by omega) (by omega)) (decide_eq_true (by omega))) ?_
                          refine dc_J (zcons rfl (zcons (zvi (show (8 : Int32) = i3 8 from rfl)) (zcons (zvi (rfl : i3 a1 = i3 a1)) (zcons (zvi (rfl : i3 a2 = i3 a2)) (zcons (zvi (show (0 : Int32) = i3 0 from rfl)) (zcons (zvi (show (0 : Int32) = i3 0 from rfl)) (zcons (zvi (show (0 : Int32) = i3 0 from rfl)) (zcons (zvi (show (0 : Int32) = i3 0 from rfl)) rfl)))))))) (dg (hZ).1 (by omega) (by omega) (by omega) (by omega) (by omega) (by omega) (by omega) ?_)
                          have hZ88I := zH_dd hZ (a1 := 8) (a2 := a1) (a3 := a2) (a4 := 0) (a5 := 0) (a6 := 0) (a7 := 0) (by omega) (by omega) (by omega) (by omega) (by omega) (by omega) (by omega)
                          have kZ88 : zC [3, 12, 13, 14, 40, 41, 42, 43, 44, 45, 46, 47, 48, 49, 50, 51, 52, 53, 54, 61, 68, 1099, 1100, 1101, 1102, 1103, 1104, 1105, 1106, 1107, 1108, 1109, 1110, 1111, 1112, 1113, 1114, 1115, 1116] Z (zdd Z 8 a1 a2 0 0 0 0) := zC_k zdd_K (by decide) (by decide)
                          have hZ88A : (zdd Z 8 a1 a2 0 0 0 0) 68 0 0 0 = 8 ∧ (zdd Z 8 a1 a2 0 0 0 0) 68 0 0 1 = a1 ∧ (zdd Z 8 a1 a2 0 0 0 0) 68 0 0 2 = a2 ∧ (zdd Z 8 a1 a2 0 0 0 0) 68 0 0 3 = 0 ∧ (zdd Z 8 a1 a2 0 0 0 0) 68 0 0 4 = 0 ∧ (zdd Z 8 a1 a2 0 0 0 0) 68 0 0 5 = 0 ∧ (zdd Z 8 a1 a2 0 0 0 0) 68 0 0 6 = 0 := ⟨zdd_68, zdd_68, zdd_68, zdd_68, zdd_68, zdd_68, zdd_68⟩
                          obtain ⟨Z88, hZ88⟩ := zx (zdd Z 8 a1 a2 0 0 0 0)
                          have dZ88 : ∀ {k : Nat} {i j : Int}, zhall k = true → ¬ (k = 11 ∧ (j = 15 ∨ j = 16)) → Z88 k 0 i j = Z k 0 i j := fun hk hj => by rw [hZ88]; exact zdd_h (hZ).1 hk hj
                          have jZ88 : zU [0, 2, 3, 4, 5, 6, 7, 8, 9] Z (zdd Z 8 a1 a2 0 0 0 0) := zU_dd (hZ).1
                          rw [← hZ88] at hZ88I kZ88 jZ88 hZ88A ⊢
                          have hZ88U : zU [0, 2, 3, 4, 5, 6, 7, 8, 9] Z Z88 := zU_t zU_r jZ88 (zU_b1 (List.Mem.head _) (zU_b1 (List.Mem.tail _ (List.Mem.head _)) (zU_b1 (List.Mem.tail _ (List.Mem.tail _ (List.Mem.head _))) (zU_b1 (List.Mem.tail _ (List.Mem.tail _ (List.Mem.tail _ (List.Mem.head _)))) (zU_b1 (List.Mem.tail _ (List.Mem.tail _ (List.Mem.tail _ (List.Mem.tail _ (List.Mem.head _))))) (zU_b1 (List.Mem.tail _ (List.Mem.tail _ (List.Mem.tail _ (List.Mem.tail _ (List.Mem.tail _ (List.Mem.head _)))))) (zU_b1 (List.Mem.tail _ (List.Mem.tail _ (List.Mem.tail _ (List.Mem.tail _ (List.Mem.tail _ (List.Mem.tail _ (List.Mem.head _))))))) (zU_b1 (List.Mem.tail _ (List.Mem.tail _ (List.Mem.tail _ (List.Mem.tail _ (List.Mem.tail _ (List.Mem.tail _ (List.Mem.tail _ (List.Mem.head _)))))))) (zU_b1 (List.Mem.tail _ (List.Mem.tail _ (List.Mem.tail _ (List.Mem.tail _ (List.Mem.tail _ (List.Mem.tail _ (List.Mem.tail _ (List.Mem.tail _ (List.Mem.head _))))))))) zU_b0)))))))))
                          replace hP := zl_e hP hZ88
                          have hZ88K : zC [3, 12, 13, 14, 40, 41, 42, 43, 44, 45, 46, 47, 48, 49, 50, 51, 52, 53, 54, 61, 68, 1099, 1100, 1101, 1102, 1103, 1104, 1105, 1106, 1107, 1108, 1109, 1110, 1111, 1112, 1113, 1114, 1115, 1116] Z Z88 := zC_t zC_r kZ88 (by decide)
                          clear kZ88 hZ88
                          refine fw_121 _ _ _ _ ?_
                          refine wz_i1 rfl ?_
                          refine wz_i0 (i3O (n := 7) (show (0 : Int32) = i3 0 from rfl) (by omega) (by omega) (by omega)) ?_
                          refine wz_i0 (Eq.trans (i3To (Eq.trans (zm_rd (Z := Z88) (ν := ν) (k := 68) (show ((0 : Nat) : Int) = 0 from rfl) (show ((0 : Nat) : Int) = 0 from rfl) (show ((0 : Nat) : Int) = 0 from rfl)) (congrArg i3 ((hZ88A.1)))) (by omega) (by omega)) (decide_eq_false (by omega))) ?_
                          refine wz_i0 (Eq.trans (i3T (Eq.trans (zm_rd (Z := Z88) (ν := ν) (k := 68) (show ((0 : Nat) : Int) = 0 from rfl) (show ((0 : Nat) : Int) = 0 from rfl) (show ((0 : Nat) : Int) = 0 from rfl)) (congrArg i3 ((hZ88A.1)))) (by omega) (by omega)) (decide_eq_false (by omega))) ?_
                          refine wz_i0 (Eq.trans (i3T (Eq.trans (zm_rd (Z := Z88) (ν := ν) (k := 68) (show ((0 : Nat) : Int) = 0 from rfl) (show ((0 : Nat) : Int) = 0 from rfl) (show ((0 : Nat) : Int) = 0 from rfl)) (congrArg i3 ((hZ88A.1)))) (by omega) (by omega)) (decide_eq_false (by omega))) ?_
                          refine wz_i0 (Eq.trans (i3T (Eq.trans (zm_rd (Z := Z88) (ν := ν) (k := 68) (show ((0 : Nat) : Int) = 0 from rfl) (show ((0 : Nat) : Int) = 0 from rfl) (show ((0 : Nat) : Int) = 0 from rfl)) (congrArg i3 ((hZ88A.1)))) (by omega) (by omega)) (decide_eq_false (by omega))) ?_
                          refine wz_i0 (Eq.trans (i3T (Eq.trans (zm_rd (Z := Z88) (ν := ν) (k := 68) (show ((0 : Nat) : Int) = 0 from rfl) (show ((0 : Nat) : Int) = 0 from rfl) (show ((0 : Nat) : Int) = 0 from rfl)) (congrArg i3 ((hZ88A.1)))) (by omega) (by omega)) (decide_eq_false (by omega))) ?_
                          refine wz_i0 (Eq.trans (i3T (Eq.trans (zm_rd (Z := Z88) (ν := ν) (k := 68) (show ((0 : Nat) : Int) = 0 from rfl) (show ((0 : Nat) : Int) = 0 from rfl) (show ((0 : Nat) : Int) = 0 from rfl)) (congrArg i3 ((hZ88A.1)))) (by omega) (by omega)) (decide_eq_false (by omega))) ?_
                          refine wz_i0 (Eq.trans (i3T (Eq.trans (zm_rd (Z := Z88) (ν := ν) (k := 68) (show ((0 : Nat) : Int) = 0 from rfl) (show ((0 : Nat) : Int) = 0 from rfl) (show ((0 : Nat) : Int) = 0 from rfl)) (congrArg i3 ((hZ88A.1)))) (by omega) (by omega)) (decide_eq_false (by omega))) ?_
                          refine wz_i0 (Eq.trans (i3T (Eq.trans (zm_rd (Z := Z88) (ν := ν) (k := 68) (show ((0 : Nat) : Int) = 0 from rfl) (show ((0 : Nat) : Int) = 0 from rfl) (show ((0 : Nat) : Int) = 0 from rfl)) (congrArg i3 ((hZ88A.1)))) (by omega) (by omega)) (decide_eq_false (by omega))) ?_
                          refine wz_i0 (Eq.trans (i3T (Eq.trans (zm_rd (Z := Z88) (ν := ν) (k := 68) (show ((0 : Nat) : Int) = 0 from rfl) (show ((0 : Nat) : Int) = 0 from rfl) (show ((0 : Nat) : Int) = 0 from rfl)) (congrArg i3 ((hZ88A.1)))) (by omega) (by omega)) (decide_eq_false (by omega))) ?_
                          refine wz_i1 (Eq.trans (i3T (Eq.trans (zm_rd (Z := Z88) (ν := ν) (k := 68) (show ((0 : Nat) : Int) = 0 from rfl) (show ((0 : Nat) : Int) = 0 from rfl) (show ((0 : Nat) : Int) = 0 from rfl)) (congrArg i3 ((hZ88A.1)))) (by omega) (by omega)) (decide_eq_true (by omega))) ?_
                          refine wz_i1 rfl ?_
                          refine wz_i0 (i3O (n := 7) (show (1 : Int32) = i3 1 from rfl) (by omega) (by omega) (by omega)) ?_
                          refine wz_i1 rfl ?_
                          refine wz_i0 (i3O (n := 7) (show (2 : Int32) = i3 2 from rfl) (by omega) (by omega) (by omega)) ?_
                          refine wz_i1 (Eq.trans (i3NE (Eq.trans (zm_rd (Z := Z88) (ν := ν) (k := 68) (show ((0 : Nat) : Int) = 0 from rfl) (show ((0 : Nat) : Int) = 0 from rfl) (show ((2 : Nat) : Int) = 2 from rfl)) (congrArg i3 ((hZ88A.2.2.1)))) (show (-1 : Int32) = i3 (-1) from rfl) (by omega) (by omega) (by omega) (by omega)) (decide_eq_true (by omega))) ?_
                          refine wz_i0 (i3O (n := 48) (Eq.trans (zm_rd (Z := Z88) (ν := ν) (k := 68) (show ((0 : Nat) : Int) = 0 from rfl) (show ((0 : Nat) : Int) = 0 from rfl) (show ((1 : Nat) : Int) = 1 from rfl)) (congrArg i3 ((hZ88A.2.1)))) (by omega) (by omega) (by omega)) ?_
                          obtain ⟨Z89, hZ89, c9, hZ89I, kZ89, jZ89⟩ := sp_175 (ν := ν) hZ88I 0 0 _ (i3I (y := a1) (Eq.trans (zm_rd (Z := Z88) (ν := ν) (k := 68) (show ((0 : Nat) : Int) = 0 from rfl) (show ((0 : Nat) : Int) = 0 from rfl) (show ((1 : Nat) : Int) = 1 from rfl)) (congrArg i3 ((hZ88A.2.1)))) (by omega) (by omega) (by omega)) (by omega) (a2 := a2) (by omega) (zbh (c := 0) (k := 2) hM (Nat.le_of_ble_eq_true rfl))
                          have hZ89U : zU [0, 2, 3, 4, 5, 6, 7, 8, 9] Z Z89 := zU_t hZ88U jZ89 (zU_b1 (List.Mem.head _) (zU_b1 (List.Mem.head _) zU_b0))
                          have hZ89K : zC [3, 12, 13, 14, 40, 41, 42, 43, 44, 45, 46, 47, 48, 49, 50, 51, 52, 53, 54, 61, 68, 1099, 1100, 1101, 1102, 1103, 1104, 1105, 1106, 1107, 1108, 1109, 1110, 1111, 1112, 1113, 1114, 1115, 1116] Z Z89 := zC_t hZ88K kZ89 (by decide)
                          replace hP := zl_e hP hZ89
                          refine wz_cV_of (zas (zcons rfl (zcons rfl (zcons (zvi (Eq.trans (zm_rd (Z := Z88) (ν := ν) (k := 68) (show ((0 : Nat) : Int) = 0 from rfl) (show ((0 : Nat) : Int) = 0 from rfl) (show ((2 : Nat) : Int) = 2 from rfl)) (congrArg i3 ((hZ88A.2.2.1))))) rfl))) c9) ?_
                          clear c9
                          refine wz_i1 (Eq.trans (i3NE (Eq.trans (zm_rd (Z := Z88) (ν := ν) (k := 68) (show ((0 : Nat) : Int) = 0 from rfl) (show ((0 : Nat) : Int) = 0 from rfl) (show ((2 : Nat) : Int) = 2 from rfl)) (congrArg i3 ((hZ88A.2.2.1)))) (show (6 : Int32) = i3 6 from rfl) (by omega) (by omega) (by omega) (by omega)) (decide_eq_true (by omega))) ?_
                          refine wz_i0 (i3O (n := 6) (Eq.trans (zm_rd (Z := Z88) (ν := ν) (k := 68) (show ((0 : Nat) : Int) = 0 from rfl) (show ((0 : Nat) : Int) = 0 from rfl) (show ((2 : Nat) : Int) = 2 from rfl)) (congrArg i3 ((hZ88A.2.2.1)))) (by omega) (by omega) (by omega)) ?_
                          obtain ⟨v90, hv90, c9, lv90, uv90⟩ := sp_182 (ν := ν) hZ89I 0 (a1 := a2) (by omega) (zbh (c := 2) (k := 0) hM (Nat.le_of_ble_eq_true rfl))
                          replace hP := zl_e hP hv90
                          refine wz_cI_of (zas (zcons rfl (zcons (zvi (Eq.trans (zm_rd (Z := Z88) (ν := ν) (k := 68) (show ((0 : Nat) : Int) = 0 from rfl) (show ((0 : Nat) : Int) = 0 from rfl) (show ((2 : Nat) : Int) = 2 from rfl)) (congrArg i3 ((hZ88A.2.2.1))))) rfl)) c9) ?_
                          clear c9
                          have r91 := zH_k hZ89I 43 0 a2 0 (lo := 0) (hi := 12) (by decide) rfl
                          exact zlG hP (i3S (zm_rd (Z := Z89) (ν := ν) (k := 43) (show ((0 : Nat) : Int) = 0 from rfl) (i3I (y := a2) (Eq.trans (zm_rd (Z := Z88) (ν := ν) (k := 68) (show ((0 : Nat) : Int) = 0 from rfl) (show ((0 : Nat) : Int) = 0 from rfl) (show ((2 : Nat) : Int) = 2 from rfl)) (congrArg i3 ((hZ88A.2.2.1)))) (by omega) (by omega) (by omega)) (show ((0 : Nat) : Int) = 0 from rfl)) (rfl : i3 v90 = i3 v90)) ⟨hZ89I, hZ89K, hZ89U, zG_w zG_r (Nat.le_of_ble_eq_true rfl) (Nat.le_of_ble_eq_true rfl)⟩
                      · replace hP := zE_n hP h84
                        refine wz_i1 (Eq.trans (i3NE (show (3 : Int32) = i3 3 from rfl) (show (1 : Int32) = i3 1 from rfl) (by omega) (by omega) (by omega) (by omega)) (decide_eq_true (by omega))) ?_
                        refine wz_i1 (Eq.trans (i3NE (show (3 : Int32) = i3 3 from rfl) (show (2 : Int32) = i3 2 from rfl) (by omega) (by omega) (by omega) (by omega)) (decide_eq_true (by omega))) ?_
                        refine wz_i0 (Eq.trans (i3NE (show (3 : Int32) = i3 3 from rfl) (show (3 : Int32) = i3 3 from rfl) (by omega) (by omega) (by omega) (by omega)) (decide_eq_false (by omega))) ?_
                        exact zlGe (E := 14) hP ⟨(zbw (a := 0) (c := 2) hZ (Nat.le_of_ble_eq_true rfl)), zC_r, zU_r, zG_w (zG_k rfl) (Nat.le_of_ble_eq_true rfl) (Nat.le_of_ble_eq_true rfl)⟩
                  · replace hP := zE_n hP h73
                    refine wz_br (i3Le (zm_rd (Z := Z) (ν := ν) (k := 11) (show ((0 : Nat) : Int) = 0 from rfl) (show ((0 : Nat) : Int) = 0 from rfl) (show ((2 : Nat) : Int) = 2 from rfl)) (zm_rd (Z := Z) (ν := ν) (k := 44) (show ((0 : Nat) : Int) = 0 from rfl) (i3I (y := a1) (rfl : i3 a1 = i3 a1) (by omega) (by omega) (by omega)) (show ((12 : Nat) : Int) = 12 from rfl)) (by omega) (by omega) (by omega) (by omega)) (fun h92 => ?_) (fun h92 => ?_)
                    · replace hP := zE_p hP h92
                      refine wz_i0 (Eq.trans (i3L (rfl : i3 a2 = i3 a2) (show (0 : Int32) = i3 0 from rfl) (by omega) (by omega) (by omega) (by omega)) (decide_eq_false (by omega))) ?_
                      refine wz_br (i3Le (zm_rd (Z := Z) (ν := ν) (k := 11) (show ((0 : Nat) : Int) = 0 from rfl) (show ((0 : Nat) : Int) = 0 from rfl) (show ((2 : Nat) : Int) = 2 from rfl)) (rfl : i3 a2 = i3 a2) (by omega) (by omega) (by omega) (by omega)) (fun h93 => ?_) (fun h93 => ?_)
                      · replace hP := zE_p hP h93
                        refine wz_i1 (Eq.trans (i3NE (rfl : i3 a2 = i3 a2) (show (6 : Int32) = i3 6 from rfl) (by omega) (by omega) (by omega) (by omega)) (decide_eq_true (by omega))) ?_
                        refine wz_i0 (i3O (n := 6) (rfl : i3 a2 = i3 a2) (by omega) (by omega) (by omega)) ?_
                        obtain ⟨v94, hv94, c9, lv94, uv94⟩ := sp_182 (ν := ν) hZ 0 (a1 := a2) (by omega) (zbh (c := 0) (k := 0) hM (Nat.le_of_ble_eq_true rfl))
                        replace hP := zl_e hP hv94
                        refine wz_cI_of (zas (zcons rfl (zcons (zvi (rfl : i3 a2 = i3 a2)) rfl)) c9) ?_
                        clear c9
                        have r95 := zH_k hZ 43 0 a2 0 (lo := 0) (hi := 12) (by decide) rfl
                        refine wz_br (i3Le (i3S (zm_rd (Z := Z) (ν := ν) (k := 43) (show ((0 : Nat) : Int) = 0 from rfl) (i3I (y := a2) (rfl : i3 a2 = i3 a2) (by omega) (by omega) (by omega)) (show ((0 : Nat) : Int) = 0 from rfl)) (rfl : i3 v94 = i3 v94)) (show (0 : Int32) = i3 0 from rfl) (by omega) (by omega) (by omega) (by omega)) (fun h96 => ?_) (fun h96 => ?_)
                        · replace hP := zE_p hP h96
                          refine wz_i1 (Eq.trans (i3NE (show (3 : Int32) = i3 3 from rfl) (show (1 : Int32) = i3 1 from rfl) (by omega) (by omega) (by omega) (by omega)) (decide_eq_true (by omega))) ?_
                          refine wz_i1 (Eq.trans (i3NE (show (3 : Int32) = i3 3 from rfl) (show (2 : Int32) = i3 2 from rfl) (by omega) (by omega) (by omega) (by omega)) (decide_eq_true (by omega))) ?_
                          refine wz_i0 (Eq.trans (i3NE (show (3 : Int32) = i3 3 from rfl) (show (3 : Int32) = i3 3 from rfl) (by omega) (by omega) (by omega) (by omega)) (decide_eq_false (by omega))) ?_
                          exact zlGe (E := 14) hP ⟨(zbw (a := 0) (c := 2) hZ (Nat.le_of_ble_eq_true rfl)), zC_r, zU_r, zG_w (zG_k rfl) (Nat.le_of_ble_eq_true rfl) (Nat.le_of_ble_eq_true rfl)⟩
                        · replace hP := zE_n hP h96
                          refine wz_i1 (Eq.trans (i3NE (show (0 : Int32) = i3 0 from rfl) (show (1 : Int32) = i3 1 from rfl) (by omega) (by omega) (by omega) (by omega)) (decide_eq_true (by omega))) ?_
                          refine wz_i1 (Eq.trans (i3NE (show (0 : Int32) = i3 0 from rfl) (show (2 : Int32) = i3 2 from rfl) (by omega) (by omega) (by omega) (by omega)) (decide_eq_true (by omega))) ?_
                          refine wz_i1 (Eq.trans (i3NE (show (0 : Int32) = i3 0 from rfl) (show (3 : Int32) = i3 3 from rfl) (by omega) (by omega) (by omega) (by omega)) (decide_eq_true (by omega))) ?_
                          refine dc_J (zcons rfl (zcons (zvi (show (8 : Int32) = i3 8 from rfl)) (zcons (zvi (rfl : i3 a1 = i3 a1)) (zcons (zvi (rfl : i3 a2 = i3 a2)) (zcons (zvi (show (0 : Int32) = i3 0 from rfl)) (zcons (zvi (show (0 : Int32) = i3 0 from rfl)) (zcons (zvi (show (0 : Int32) = i3 0 from rfl)) (zcons (zvi (show (0 : Int32) = i3 0 from rfl)) rfl)))))))) (dg (hZ).1 (by omega) (by omega) (by omega) (by omega) (by omega) (by omega) (by omega) ?_)
                          have hZ97I := zH_dd hZ (a1 := 8) (a2 := a1) (a3 := a2) (a4 := 0) (a5 := 0) (a6 := 0) (a7 := 0) (by omega) (by omega) (by omega) (by omega) (by omega) (by omega) (by omega)
                          have kZ97 : zC [3, 12, 13, 14, 40, 41, 42, 43, 44, 45, 46, 47, 48, 49, 50, 51, 52, 53, 54, 61, 68, 1099, 1100, 1101, 1102, 1103, 1104, 1105, 1106, 1107, 1108, 1109, 1110, 1111, 1112, 1113, 1114, 1115, 1116] Z (zdd Z 8 a1 a2 0 0 0 0) := zC_k zdd_K (by decide) (by decide)
                          have hZ97A : (zdd Z 8 a1 a2 0 0 0 0) 68 0 0 0 = 8 ∧ (zdd Z 8 a1 a2 0 0 0 0) 68 0 0 1 = a1 ∧ (zdd Z 8 a1 a2 0 0 0 0) 68 0 0 2 = a2 ∧ (zdd Z 8 a1 a2 0 0 0 0) 68 0 0 3 = 0 ∧ (zdd Z 8 a1 a2 0 0 0 0) 68 0 0 4 = 0 ∧ (zdd Z 8 a1 a2 0 0 0 0) 68 0 0 5 = 0 ∧ (zdd Z 8 a1 a2 0 0 0 0) 68 0 0 6 = 0 := ⟨zdd_68, zdd_68, zdd_68, zdd_68, zdd_68, zdd_68, zdd_68⟩
                          obtain ⟨Z97, hZ97⟩ := zx (zdd Z 8 a1 a2 0 0 0 0)
                          have dZ97 : ∀ {k : Nat} {i j : Int}, zhall k = true → ¬ (k = 11 ∧ (j = 15 ∨ j = 16)) → Z97 k 0 i j = Z k 0 i j := fun hk hj => by rw [hZ97]; exact zdd_h (hZ).1 hk hj
                          have jZ97 : zU [0, 2, 3, 4, 5, 6, 7, 8, 9] Z (zdd Z 8 a1 a2 0 0 0 0) := zU_dd (hZ).1
                          rw [← hZ97] at hZ97I kZ97 jZ97 hZ97A ⊢
                          have hZ97U : zU [0, 2, 3, 4, 5, 6, 7, 8, 9] Z Z97 := zU_t zU_r jZ97 (zU_b1 (List.Mem.head _) (zU_b1 (List.Mem.tail _ (List.Mem.head _)) (zU_b1 (List.Mem.tail _ (List.Mem.tail _ (List.Mem.head _))) (zU_b1 (List.Mem.tail _ (List.Mem.tail _ (List.Mem.tail _ (List.Mem.head _)))) (zU_b1 (List.Mem.tail _ (List.Mem.tail _ (List.Mem.tail _ (List.Mem.tail _ (List.Mem.head _))))) (zU_b1 (List.Mem.tail _ (List.Mem.tail _ (List.Mem.tail _ (List.Mem.tail _ (List.Mem.tail _ (List.Mem.head _)))))) (zU_b1 (List.Mem.tail _ (List.Mem.tail _ (List.Mem.tail _ (List.Mem.tail _ (List.Mem.tail _ (List.Mem.tail _ (List.Mem.head _))))))) (zU_b1 (List.Mem.tail _ (List.Mem.tail _ (List.Mem.tail _ (List.Mem.tail _ (List.Mem.tail _ (List.Mem.tail _ (List.Mem.tail _ (List.Mem.head _)))))))) (zU_b1 (List.Mem.tail _ (List.Mem.tail _ (List.Mem.tail _ (List.Mem.tail _ (List.Mem.tail _ (List.Mem.tail _ (List.Mem.tail _ (List.Mem.tail _ (List.Mem.head _))))))))) zU_b0)))))))))
                          replace hP := zl_e hP hZ97
                          have hZ97K : zC [3, 12, 13, 14, 40, 41, 42, 43, 44, 45, 46, 47, 48, 49, 50, 51, 52, 53, 54, 61, 68, 1099, 1100, 1101, 1102, 1103, 1104, 1105, 1106, 1107, 1108, 1109, 1110, 1111, 1112, 1113, 1114, 1115, 1116] Z Z97 := zC_t zC_r kZ97 (by decide)
                          clear kZ97 hZ97
                          refine fw_121 _ _ _ _ ?_
                          refine wz_i1 rfl ?_
                          refine wz_i0 (i3O (n := 7) (show (0 : Int32) = i3 0 from rfl) (by omega) (by omega) (by omega)) ?_
                          refine wz_i0 (Eq.trans (i3To (Eq.trans (zm_rd (Z := Z97) (ν := ν) (k := 68) (show ((0 : Nat) : Int) = 0 from rfl) (show ((0 : Nat) : Int) = 0 from rfl) (show ((0 : Nat) : Int) = 0 from rfl)) (congrArg i3 ((hZ97A.1)))) (by omega) (by omega)) (decide_eq_false (by omega))) ?_
                          refine wz_i0 (Eq.trans (i3T (Eq.trans (zm_rd (Z := Z97) (ν := ν) (k := 68) (show ((0 : Nat) : Int) = 0 from rfl) (show ((0 : Nat) : Int) = 0 from rfl) (show ((0 : Nat) : Int) = 0 from rfl)) (congrArg i3 ((hZ97A.1)))) (by omega) (by omega)) (decide_eq_false (by omega))) ?_
                          refine wz_i0 (Eq.trans (i3T (Eq.trans (zm_rd (Z := Z97) (ν := ν) (k := 68) (show ((0 : Nat) : Int) = 0 from rfl) (show ((0 : Nat) : Int) = 0 from rfl) (show ((0 : Nat) : Int) = 0 from rfl)) (congrArg i3 ((hZ97A.1)))) (by omega) (by omega)) (decide_eq_false (by omega))) ?_
                          refine wz_i0 (Eq.trans (i3T (Eq.trans (zm_rd (Z := Z97) (ν := ν) (k := 68) (show ((0 : Nat) : Int) = 0 from rfl) (show ((0 : Nat) : Int) = 0 from rfl) (show ((0 : Nat) : Int) = 0 from rfl)) (congrArg i3 ((hZ97A.1)))) (by omega) (by omega)) (decide_eq_false (by omega))) ?_
                          refine wz_i0 (Eq.trans (i3T (Eq.trans (zm_rd (Z := Z97) (ν := ν) (k := 68) (show ((0 : Nat) : Int) = 0 from rfl) (show ((0 : Nat) : Int) = 0 from rfl) (show ((0 : Nat) : Int) = 0 from rfl)) (congrArg i3 ((hZ97A.1)))) (by omega) (by omega)) (decide_eq_false (by omega))) ?_
                          refine wz_i0 (Eq.trans (i3T (Eq.trans (zm_rd (Z := Z97) (ν := ν) (k := 68) (show ((0 : Nat) : Int) = 0 from rfl) (show ((0 : Nat) : Int) = 0 from rfl) (show ((0 : Nat) : Int) = 0 from rfl)) (congrArg i3 ((hZ97A.1)))) (by omega) (by omega)) (decide_eq_false (by omega))) ?_
                          refine wz_i0 (Eq.trans (i3T (Eq.trans (zm_rd (Z := Z97) (ν := ν) (k := 68) (show ((0 : Nat) : Int) = 0 from rfl) (show ((0 : Nat) : Int) = 0 from rfl) (show ((0 : Nat) : Int) = 0 from rfl)) (congrArg i3 ((hZ97A.1)))) (by omega) (by omega)) (decide_eq_false (by omega))) ?_
                          refine wz_i0 (Eq.trans (i3T (Eq.trans (zm_rd (Z := Z97) (ν := ν) (k := 68) (show ((0 : Nat) : Int) = 0 from rfl) (show ((0 : Nat) : Int) = 0 from rfl) (show ((0 : Nat) : Int) = 0 from rfl)) (congrArg i3 ((hZ97A.1)))) (by omega) (by omega)) (decide_eq_false (by omega))) ?_
                          refine wz_i0 (Eq.trans (i3T (Eq.trans (zm_rd (Z := Z97) (ν := ν) (k := 68) (show ((0 : Nat) : Int) = 0 from rfl) (show ((0 : Nat) : Int) = 0 from rfl) (show ((0 : Nat) : Int) = 0 from rfl)) (congrArg i3 ((hZ97A.1)))) (by omega) (by omega)) (decide_eq_false (by omega))) ?_
                          refine wz_i1 (Eq.trans (i3T (Eq.trans (zm_rd (Z := Z97) (ν := ν) (k := 68) (show ((0 : Nat) : Int) = 0 from rfl) (show ((0 : Nat) : Int) = 0 from rfl) (show ((0 : Nat) : Int) = 0 from rfl)) (congrArg i3 ((hZ97A.1)))) (by omega) (by omega)) (decide_eq_true (by omega))) ?_
                          refine wz_i1 rfl ?_
                          refine wz_i0 (i3O (n := 7) (show (1 : Int32) = i3 1 from rfl) (by omega) (by omega) (by omega)) ?_
                          refine wz_i1 rfl ?_
                          refine wz_i0 (i3O (n := 7) (show (2 : Int32) = i3 2 from rfl) (by omega) (by omega) (by omega)) ?_
                          refine wz_i1 (Eq.trans (i3NE (Eq.trans (zm_rd (Z := Z97) (ν := ν) (k := 68) (show ((0 : Nat) : Int) = 0 from rfl) (show ((0 : Nat) : Int) = 0 from rfl) (show ((2 : Nat) : Int) = 2 from rfl)) (congrArg i3 ((hZ97A.2.2.1)))) (show (-1 : Int32) = i3 (-1) from rfl) (by omega) (by omega) (by omega) (by omega)) (decide_eq_true (by omega))) ?_
                          refine wz_i0 (i3O (n := 48) (Eq.trans (zm_rd (Z := Z97) (ν := ν) (k := 68) (show ((0 : Nat) : Int) = 0 from rfl) (show ((0 : Nat) : Int) = 0 from rfl) (show ((1 : Nat) : Int) = 1 from rfl)) (congrArg i3 ((hZ97A.2.1)))) (by omega) (by omega) (by omega)) ?_
                          obtain ⟨Z98, hZ98, c9, hZ98I, kZ98, jZ98⟩ := sp_175 (ν := ν) hZ97I 0 0 _ (i3I (y := a1) (Eq.trans (zm_rd (Z := Z97) (ν := ν) (k := 68) (show ((0 : Nat) : Int) = 0 from rfl) (show ((0 : Nat) : Int) = 0 from rfl) (show ((1 : Nat) : Int) = 1 from rfl)) (congrArg i3 ((hZ97A.2.1)))) (by omega) (by omega) (by omega)) (by omega) (a2 := a2) (by omega) (zbh (c := 0) (k := 2) hM (Nat.le_of_ble_eq_true rfl))
                          have hZ98U : zU [0, 2, 3, 4, 5, 6, 7, 8, 9] Z Z98 := zU_t hZ97U jZ98 (zU_b1 (List.Mem.head _) (zU_b1 (List.Mem.head _) zU_b0))
                          have hZ98K : zC [3, 12, 13, 14, 40, 41, 42, 43, 44, 45, 46, 47, 48, 49, 50, 51, 52, 53, 54, 61, 68, 1099, 1100, 1101, 1102, 1103, 1104, 1105, 1106, 1107, 1108, 1109, 1110, 1111, 1112, 1113, 1114, 1115, 1116] Z Z98 := zC_t hZ97K kZ98 (by decide)
                          replace hP := zl_e hP hZ98
                          refine wz_cV_of (zas (zcons rfl (zcons rfl (zcons (zvi (Eq.trans (zm_rd (Z := Z97) (ν := ν) (k := 68) (show ((0 : Nat) : Int) = 0 from rfl) (show ((0 : Nat) : Int) = 0 from rfl) (show ((2 : Nat) : Int) = 2 from rfl)) (congrArg i3 ((hZ97A.2.2.1))))) rfl))) c9) ?_
                          clear c9
                          refine wz_i1 (Eq.trans (i3NE (Eq.trans (zm_rd (Z := Z97) (ν := ν) (k := 68) (show ((0 : Nat) : Int) = 0 from rfl) (show ((0 : Nat) : Int) = 0 from rfl) (show ((2 : Nat) : Int) = 2 from rfl)) (congrArg i3 ((hZ97A.2.2.1)))) (show (6 : Int32) = i3 6 from rfl) (by omega) (by omega) (by omega) (by omega)) (decide_eq_true (by omega))) ?_
                          refine wz_i0 (i3O (n := 6) (Eq.trans (zm_rd (Z := Z97) (ν := ν) (k := 68) (show ((0 : Nat) : Int) = 0 from rfl) (show ((0 : Nat) : Int) = 0 from rfl) (show ((2 : Nat) : Int) = 2 from rfl)) (congrArg i3 ((hZ97A.2.2.1)))) (by omega) (by omega) (by omega)) ?_
                          obtain ⟨v99, hv99, c9, lv99, uv99⟩ := sp_182 (ν := ν) hZ98I 0 (a1 := a2) (by omega) (zbh (c := 2) (k := 0) hM (Nat.le_of_ble_eq_true rfl))
                          replace hP := zl_e hP hv99
                          refine wz_cI_of (zas (zcons rfl (zcons (zvi (Eq.trans (zm_rd (Z := Z97) (ν := ν) (k := 68) (show ((0 : Nat) : Int) = 0 from rfl) (show ((0 : Nat) : Int) = 0 from rfl) (show ((2 : Nat) : Int) = 2 from rfl)) (congrArg i3 ((hZ97A.2.2.1))))) rfl)) c9) ?_
                          clear c9
                          have r100 := zH_k hZ98I 43 0 a2 0 (lo := 0) (hi := 12) (by decide) rfl
                          exact zlG hP (i3S (zm_rd (Z := Z98) (ν := ν) (k := 43) (show ((0 : Nat) : Int) = 0 from rfl) (i3I (y := a2) (Eq.trans (zm_rd (Z := Z97) (ν := ν) (k := 68) (show ((0 : Nat) : Int) = 0 from rfl) (show ((0 : Nat) : Int) = 0 from rfl) (show ((2 : Nat) : Int) = 2 from rfl)) (congrArg i3 ((hZ97A.2.2.1)))) (by omega) (by omega) (by omega)) (show ((0 : Nat) : Int) = 0 from rfl)) (rfl : i3 v99 = i3 v99)) ⟨hZ98I, hZ98K, hZ98U, zG_w zG_r (Nat.le_of_ble_eq_true rfl) (Nat.le_of_ble_eq_true rfl)⟩
                      · replace hP := zE_n hP h93
                        refine wz_i0 (i3O (n := 6) (rfl : i3 a2 = i3 a2) (by omega) (by omega) (by omega)) ?_
                        have r101 := zH_k hZ 43 0 a2 10 (lo := -1) (hi := 695) (by decide) rfl
                        have r102 := zH_k hZ 11 0 0 13 (lo := 0) (hi := 671) (by decide) rfl
                        refine wz_br (i3Le (zm_rd (Z := Z) (ν := ν) (k := 43) (show ((0 : Nat) : Int) = 0 from rfl) (i3I (y := a2) (rfl : i3 a2 = i3 a2) (by omega) (by omega) (by omega)) (show ((10 : Nat) : Int) = 10 from rfl)) (zm_rd (Z := Z) (ν := ν) (k := 11) (show ((0 : Nat) : Int) = 0 from rfl) (show ((0 : Nat) : Int) = 0 from rfl) (show ((13 : Nat) : Int) = 13 from rfl)) (by omega) (by omega) (by omega) (by omega)) (fun h103 => ?_) (fun h103 => ?_)
                        · replace hP := zE_p hP h103
                          refine wz_i1 (Eq.trans (i3NE (rfl : i3 a2 = i3 a2) (show (6 : Int32) = i3 6 from rfl) (by omega) (by omega) (by omega) (by omega)) (decide_eq_true (by omega))) ?_
                          refine wz_i0 (i3O (n := 6) (rfl : i3 a2 = i3 a2) (by omega) (by omega) (by omega)) ?_
                          obtain ⟨v104, hv104, c9, lv104, uv104⟩ := sp_182 (ν := ν) hZ 0 (a1 := a2) (by omega) (zbh (c := 0) (k := 0) hM (Nat.le_of_ble_eq_true rfl))
                          replace hP := zl_e hP hv104
                          refine wz_cI_of (zas (zcons rfl (zcons (zvi (rfl : i3 a2 = i3 a2)) rfl)) c9) ?_
                          clear c9
                          have r105 := zH_k hZ 43 0 a2 0 (lo := 0) (hi := 12) (by decide) rfl
                          refine wz_br (i3Le (i3S (zm_rd (Z := Z) (ν := ν) (k := 43) (show ((0 : Nat) : Int) = 0 from rfl) (i3I (y := a2) (rfl : i3 a2 = i3 a2) (by omega) (by omega) (by omega)) (show ((0 : Nat) : Int) = 0 from rfl)) (rfl : i3 v104 = i3 v104)) (show (0 : Int32) = i3 0 from rfl) (by omega) (by omega) (by omega) (by omega)) (fun h106 => ?_) (fun h106 => ?_)
                          · replace hP := zE_p hP h106
                            refine wz_i1 (Eq.trans (i3NE (show (3 : Int32) = i3 3 from rfl) (show (1 : Int32) = i3 1 from rfl) (by omega) (by omega) (by omega) (by omega)) (decide_eq_true (by omega))) ?_
                            refine wz_i1 (Eq.trans (i3NE (show (3 : Int32) = i3 3 from rfl) (show (2 : Int32) = i3 2 from rfl) (by omega) (by omega) (by omega) (by omega)) (decide_eq_true (by omega))) ?_
                            refine wz_i0 (Eq.trans (i3NE (show (3 : Int32) = i3 3 from rfl) (show (3 : Int32) = i3 3 from rfl) (by omega) (by omega) (by omega) (by omega)) (decide_eq_false (by omega))) ?_
                            exact zlGe (E := 14) hP ⟨(zbw (a := 0) (c := 2) hZ (Nat.le_of_ble_eq_true rfl)), zC_r, zU_r, zG_w (zG_k rfl) (Nat.le_of_ble_eq_true rfl) (Nat.le_of_ble_eq_true rfl)⟩
                          · replace hP := zE_n hP h106
                            refine wz_i1 (Eq.trans (i3NE (show (0 : Int32) = i3 0 from rfl) (show (1 : Int32) = i3 1 from rfl) (by omega) (by omega) (by omega) (by omega)) (decide_eq_true (by omega))) ?_
                            refine wz_i1 (Eq.trans (i3NE (show (0 : Int32) = i3 0 from rfl) (show (2 : Int32) = i3 2 from rfl) (by omega) (by omega) (by omega) (by omega)) (decide_eq_true (by omega))) ?_
                            refine wz_i1 (Eq.trans (i3NE (show (0 : Int32) = i3 0 from rfl) (show (3 : Int32) = i3 3 from rfl) (by omega) (by omega) (by omega) (by omega)) (decide_eq_true (by omega))) ?_
                            refine dc_J (zcons rfl (zcons (zvi (show (8 : Int32) = i3 8 from rfl)) (zcons (zvi (rfl : i3 a1 = i3 a1)) (zcons (zvi (rfl : i3 a2 = i3 a2)) (zcons (zvi (show (0 : Int32) = i3 0 from rfl)) (zcons (zvi (show (0 : Int32) = i3 0 from rfl)) (zcons (zvi (show (0 : Int32) = i3 0 from rfl)) (zcons (zvi (show (0 : Int32) = i3 0 from rfl)) rfl)))))))) (dg (hZ).1 (by omega) (by omega) (by omega) (by omega) (by omega) (by omega) (by omega) ?_)
                            have hZ107I := zH_dd hZ (a1 := 8) (a2 := a1) (a3 := a2) (a4 := 0) (a5 := 0) (a6 := 0) (a7 := 0) (by omega) (by omega) (by omega) (by omega) (by omega) (by omega) (by omega)
                            have kZ107 : zC [3, 12, 13, 14, 40, 41, 42, 43, 44, 45, 46, 47, 48, 49, 50, 51, 52, 53, 54, 61, 68, 1099, 1100, 1101, 1102, 1103, 1104, 1105, 1106, 1107, 1108, 1109, 1110, 1111, 1112, 1113, 1114, 1115, 1116] Z (zdd Z 8 a1 a2 0 0 0 0) := zC_k zdd_K (by decide) (by decide)
                            have hZ107A : (zdd Z 8 a1 a2 0 0 0 0) 68 0 0 0 = 8 ∧ (zdd Z 8 a1 a2 0 0 0 0) 68 0 0 1 = a1 ∧ (zdd Z 8 a1 a2 0 0 0 0) 68 0 0 2 = a2 ∧ (zdd Z 8 a1 a2 0 0 0 0) 68 0 0 3 = 0 ∧ (zdd Z 8 a1 a2 0 0 0 0) 68 0 0 4 = 0 ∧ (zdd Z 8 a1 a2 0 0 0 0) 68 0 0 5 = 0 ∧ (zdd Z 8 a1 a2 0 0 0 0) 68 0 0 6 = 0 := ⟨zdd_68, zdd_68, zdd_68, zdd_68, zdd_68, zdd_68, zdd_68⟩
                            obtain ⟨Z107, hZ107⟩ := zx (zdd Z 8 a1 a2 0 0 0 0)
                            have dZ107 : ∀ {k : Nat} {i j : Int}, zhall k = true → ¬ (k = 11 ∧ (j = 15 ∨ j = 16)) → Z107 k 0 i j = Z k 0 i j := fun hk hj => by rw [hZ107]; exact zdd_h (hZ).1 hk hj
                            have jZ107 : zU [0, 2, 3, 4, 5, 6, 7, 8, 9] Z (zdd Z 8 a1 a2 0 0 0 0) := zU_dd (hZ).1
                            rw [← hZ107] at hZ107I kZ107 jZ107 hZ107A ⊢
                            have hZ107U : zU [0, 2, 3, 4, 5, 6, 7, 8, 9] Z Z107 := zU_t zU_r jZ107 (zU_b1 (List.Mem.head _) (zU_b1 (List.Mem.tail _ (List.Mem.head _)) (zU_b1 (List.Mem.tail _ (List.Mem.tail _ (List.Mem.head _))) (zU_b1 (List.Mem.tail _ (List.Mem.tail _ (List.Mem.tail _ (List.Mem.head _)))) (zU_b1 (List.Mem.tail _ (List.Mem.tail _ (List.Mem.tail _ (List.Mem.tail _ (List.Mem.head _))))) (zU_b1 (List.Mem.tail _ (List.Mem.tail _ (List.Mem.tail _ (List.Mem.tail _ (List.Mem.tail _ (List.Mem.head _)))))) (zU_b1 (List.Mem.tail _ (List.Mem.tail _ (List.Mem.tail _ (List.Mem.tail _ (List.Mem.tail _ (List.Mem.tail _ (List.Mem.head _))))))) (zU_b1 (List.Mem.tail _ (List.Mem.tail _ (List.Mem.tail _ (List.Mem.tail _ (List.Mem.tail _ (List.Mem.tail _ (List.Mem.tail _ (List.Mem.head _)))))))) (zU_b1 (List.Mem.tail _ (List.Mem.tail _ (List.Mem.tail _ (List.Mem.tail _ (List.Mem.tail _ (List.Mem.tail _ (List.Mem.tail _ (List.Mem.tail _ (List.Mem.head _))))))))) zU_b0)))))))))
                            replace hP := zl_e hP hZ107
                            have hZ107K : zC [3, 12, 13, 14, 40, 41, 42, 43, 44, 45, 46, 47, 48, 49, 50, 51, 52, 53, 54, 61, 68, 1099, 1100, 1101, 1102, 1103, 1104, 1105, 1106, 1107, 1108, 1109, 1110, 1111, 1112, 1113, 1114, 1115, 1116] Z Z107 := zC_t zC_r kZ107 (by decide)
                            clear kZ107 hZ107
                            refine fw_121 _ _ _ _ ?_
                            refine wz_i1 rfl ?_
                            refine wz_i0 (i3O (n := 7) (show (0 : Int32) = i3 0 from rfl) (by omega) (by omega) (by omega)) ?_
                            refine wz_i0 (Eq.trans (i3To (Eq.trans (zm_rd (Z := Z107) (ν := ν) (k := 68) (show ((0 : Nat) : Int) = 0 from rfl) (show ((0 : Nat) : Int) = 0 from rfl) (show ((0 : Nat) : Int) = 0 from rfl)) (congrArg i3 ((hZ107A.1)))) (by omega) (by omega)) (decide_eq_false (by omega))) ?_
                            refine wz_i0 (Eq.trans (i3T (Eq.trans (zm_rd (Z := Z107) (ν := ν) (k := 68) (show ((0 : Nat) : Int) = 0 from rfl) (show ((0 : Nat) : Int) = 0 from rfl) (show ((0 : Nat) : Int) = 0 from rfl)) (congrArg i3 ((hZ107A.1)))) (by omega) (by omega)) (decide_eq_false (by omega))) ?_
                            refine wz_i0 (Eq.trans (i3T (Eq.trans (zm_rd (Z := Z107) (ν := ν) (k := 68) (show ((0 : Nat) : Int) = 0 from rfl) (show ((0 : Nat) : Int) = 0 from rfl) (show ((0 : Nat) : Int) = 0 from rfl)) (congrArg i3 ((hZ107A.1)))) (by omega) (by omega)) (decide_eq_false (by omega))) ?_
                            refine wz_i0 (Eq.trans (i3T (Eq.trans (zm_rd (Z := Z107) (ν := ν) (k := 68) (show ((0 : Nat) : Int) = 0 from rfl) (show ((0 : Nat) : Int) = 0 from rfl) (show ((0 : Nat) : Int) = 0 from rfl)) (congrArg i3 ((hZ107A.1)))) (by omega) (by omega)) (decide_eq_false (by omega))) ?_
                            refine wz_i0 (Eq.trans (i3T (Eq.trans (zm_rd (Z := Z107) (ν := ν) (k := 68) (show ((0 : Nat) : Int) = 0 from rfl) (show ((0 : Nat) : Int) = 0 from rfl) (show ((0 : Nat) : Int) = 0 from rfl)) (congrArg i3 ((hZ107A.1)))) (by omega) (by omega)) (decide_eq_false (by omega))) ?_
                            refine wz_i0 (Eq.trans (i3T (Eq.trans (zm_rd (Z := Z107) (ν := ν) (k := 68) (show ((0 : Nat) : Int) = 0 from rfl) (show ((0 : Nat) : Int) = 0 from rfl) (show ((0 : Nat) : Int) = 0 from rfl)) (congrArg i3 ((hZ107A.1)))) (by omega) (by omega)) (decide_eq_false (by omega))) ?_
                            refine wz_i0 (Eq.trans (i3T (Eq.trans (zm_rd (Z := Z107) (ν := ν) (k := 68) (show ((0 : Nat) : Int) = 0 from rfl) (show ((0 : Nat) : Int) = 0 from rfl) (show ((0 : Nat) : Int) = 0 from rfl)) (congrArg i3 ((hZ107A.1)))) (by omega) (by omega)) (decide_eq_false (by omega))) ?_
                            refine wz_i0 (Eq.trans (i3T (Eq.trans (zm_rd (Z := Z107) (ν := ν) (k := 68) (show ((0 : Nat) : Int) = 0 from rfl) (show ((0 : Nat) : Int) = 0 from rfl) (show ((0 : Nat) : Int) = 0 from rfl)) (congrArg i3 ((hZ107A.1)))) (by omega) (by omega)) (decide_eq_false (by omega))) ?_
                            refine wz_i0 (Eq.trans (i3T (Eq.trans (zm_rd (Z := Z107) (ν := ν) (k := 68) (show ((0 : Nat) : Int) = 0 from rfl) (show ((0 : Nat) : Int) = 0 from rfl) (show ((0 : Nat) : Int) = 0 from rfl)) (congrArg i3 ((hZ107A.1)))) (by omega) (by omega)) (decide_eq_false (by omega))) ?_
                            refine wz_i1 (Eq.trans (i3T (Eq.trans (zm_rd (Z := Z107) (ν := ν) (k := 68) (show ((0 : Nat) : Int) = 0 from rfl) (show ((0 : Nat) : Int) = 0 from rfl) (show ((0 : Nat) : Int) = 0 from rfl)) (congrArg i3 ((hZ107A.1)))) (by omega) (by omega)) (decide_eq_true (by omega))) ?_
                            refine wz_i1 rfl ?_
                            refine wz_i0 (i3O (n := 7) (show (1 : Int32) = i3 1 from rfl) (by omega) (by omega) (by omega)) ?_
                            refine wz_i1 rfl ?_
                            refine wz_i0 (i3O (n := 7) (show (2 : Int32) = i3 2 from rfl) (by omega) (by omega) (by omega)) ?_
                            refine wz_i1 (Eq.trans (i3NE (Eq.trans (zm_rd (Z := Z107) (ν := ν) (k := 68) (show ((0 : Nat) : Int) = 0 from rfl) (show ((0 : Nat) : Int) = 0 from rfl) (show ((2 : Nat) : Int) = 2 from rfl)) (congrArg i3 ((hZ107A.2.2.1)))) (show (-1 : Int32) = i3 (-1) from rfl) (by omega) (by omega) (by omega) (by omega)) (decide_eq_true (by omega))) ?_
                            refine wz_i0 (i3O (n := 48) (Eq.trans (zm_rd (Z := Z107) (ν := ν) (k := 68) (show ((0 : Nat) : Int) = 0 from rfl) (show ((0 : Nat) : Int) = 0 from rfl) (show ((1 : Nat) : Int) = 1 from rfl)) (congrArg i3 ((hZ107A.2.1)))) (by omega) (by omega) (by omega)) ?_
                            obtain ⟨Z108, hZ108, c9, hZ108I, kZ108, jZ108⟩ := sp_175 (ν := ν) hZ107I 0 0 _ (i3I (y := a1) (Eq.trans (zm_rd (Z := Z107) (ν := ν) (k := 68) (show ((0 : Nat) : Int) = 0 from rfl) (show ((0 : Nat) : Int) = 0 from rfl) (show ((1 : Nat) : Int) = 1 from rfl)) (congrArg i3 ((hZ107A.2.1)))) (by omega) (by omega) (by omega)) (by omega) (a2 := a2) (by omega) (zbh (c := 0) (k := 2) hM (Nat.le_of_ble_eq_true rfl))
                            have hZ108U : zU [0, 2, 3, 4, 5, 6, 7, 8, 9] Z Z108 := zU_t hZ107U jZ108 (zU_b1 (List.Mem.head _) (zU_b1 (List.Mem.head _) zU_b0))
                            have hZ108K : zC [3, 12, 13, 14, 40, 41, 42, 43, 44, 45, 46, 47, 48, 49, 50, 51, 52, 53, 54, 61, 68, 1099, 1100, 1101, 1102, 1103, 1104, 1105, 1106, 1107, 1108, 1109, 1110, 1111, 1112, 1113, 1114, 1115, 1116] Z Z108 := zC_t hZ107K kZ108 (by decide)
                            replace hP := zl_e hP hZ108
                            refine wz_cV_of (zas (zcons rfl (zcons rfl (zcons (zvi (Eq.trans (zm_rd (Z := Z107) (ν := ν) (k := 68) (show ((0 : Nat) : Int) = 0 from rfl) (show ((0 : Nat) : Int) = 0 from rfl) (show ((2 : Nat) : Int) = 2 from rfl)) (congrArg i3 ((hZ107A.2.2.1))))) rfl))) c9) ?_
                            clear c9
                            refine wz_i1 (Eq.trans (i3NE (Eq.trans (zm_rd (Z := Z107) (ν := ν) (k := 68) (show ((0 : Nat) : Int) = 0 from rfl) (show ((0 : Nat) : Int) = 0 from rfl) (show ((2 : Nat) : Int) = 2 from rfl)) (congrArg i3 ((hZ107A.2.2.1)))) (show (6 : Int32) = i3 6 from rfl) (by omega) (by omega) (by omega) (by omega)) (decide_eq_true (by omega))) ?_
                            refine wz_i0 (i3O (n := 6) (Eq.trans (zm_rd (Z := Z107) (ν := ν) (k := 68) (show ((0 : Nat) : Int) = 0 from rfl) (show ((0 : Nat) : Int) = 0 from rfl) (show ((2 : Nat) : Int) = 2 from rfl)) (congrArg i3 ((hZ107A.2.2.1)))) (by omega) (by omega) (by omega)) ?_
                            obtain ⟨v109, hv109, c9, lv109, uv109⟩ := sp_182 (ν := ν) hZ108I 0 (a1 := a2) (by omega) (zbh (c := 2) (k := 0) hM (Nat.le_of_ble_eq_true rfl))
                            replace hP := zl_e hP hv109
                            refine wz_cI_of (zas (zcons rfl (zcons (zvi (Eq.trans (zm_rd (Z := Z107) (ν := ν) (k := 68) (show ((0 : Nat) : Int) = 0 from rfl) (show ((0 : Nat) : Int) = 0 from rfl) (show ((2 : Nat) : Int) = 2 from rfl)) (congrArg i3 ((hZ107A.2.2.1))))) rfl)) c9) ?_
                            clear c9
                            have r110 := zH_k hZ108I 43 0 a2 0 (lo := 0) (hi := 12) (by decide) rfl
                            exact zlG hP (i3S (zm_rd (Z := Z108) (ν := ν) (k := 43) (show ((0 : Nat) : Int) = 0 from rfl) (i3I (y := a2) (Eq.trans (zm_rd (Z := Z107) (ν := ν) (k := 68) (show ((0 : Nat) : Int) = 0 from rfl) (show ((0 : Nat) : Int) = 0 from rfl) (show ((2 : Nat) : Int) = 2 from rfl)) (congrArg i3 ((hZ107A.2.2.1)))) (by omega) (by omega) (by omega)) (show ((0 : Nat) : Int) = 0 from rfl)) (rfl : i3 v109 = i3 v109)) ⟨hZ108I, hZ108K, hZ108U, zG_w zG_r (Nat.le_of_ble_eq_true rfl) (Nat.le_of_ble_eq_true rfl)⟩
                        · replace hP := zE_n hP h103
                          refine wz_i1 (Eq.trans (i3NE (show (3 : Int32) = i3 3 from rfl) (show (1 : Int32) = i3 1 from rfl) (by omega) (by omega) (by omega) (by omega)) (decide_eq_true (by omega))) ?_
                          refine wz_i1 (Eq.trans (i3NE (show (3 : Int32) = i3 3 from rfl) (show (2 : Int32) = i3 2 from rfl) (by omega) (by omega) (by omega) (by omega)) (decide_eq_true (by omega))) ?_
                          refine wz_i0 (Eq.trans (i3NE (show (3 : Int32) = i3 3 from rfl) (show (3 : Int32) = i3 3 from rfl) (by omega) (by omega) (by omega) (by omega)) (decide_eq_false (by omega))) ?_
                          exact zlGe (E := 14) hP ⟨(zbw (a := 0) (c := 2) hZ (Nat.le_of_ble_eq_true rfl)), zC_r, zU_r, zG_w (zG_k rfl) (Nat.le_of_ble_eq_true rfl) (Nat.le_of_ble_eq_true rfl)⟩
                    · replace hP := zE_n hP h92
                      refine wz_i0 (i3O (n := 6) (zm_rd (Z := Z) (ν := ν) (k := 44) (show ((0 : Nat) : Int) = 0 from rfl) (i3I (y := a1) (rfl : i3 a1 = i3 a1) (by omega) (by omega) (by omega)) (show ((12 : Nat) : Int) = 12 from rfl)) (by omega) (by omega) (by omega)) ?_
                      have r111 := zH_k hZ 43 0 (Z 44 0 a1 12) 10 (lo := -1) (hi := 695) (by decide) rfl
                      have r112 := zH_k hZ 11 0 0 13 (lo := 0) (hi := 671) (by decide) rfl
                      refine wz_br (i3Le (zm_rd (Z := Z) (ν := ν) (k := 43) (show ((0 : Nat) : Int) = 0 from rfl) (i3I (y := (Z 44 0 a1 12)) (zm_rd (Z := Z) (ν := ν) (k := 44) (show ((0 : Nat) : Int) = 0 from rfl) (i3I (y := a1) (rfl : i3 a1 = i3 a1) (by omega) (by omega) (by omega)) (show ((12 : Nat) : Int) = 12 from rfl)) (by omega) (by omega) (by omega)) (show ((10 : Nat) : Int) = 10 from rfl)) (zm_rd (Z := Z) (ν := ν) (k := 11) (show ((0 : Nat) : Int) = 0 from rfl) (show ((0 : Nat) : Int) = 0 from rfl) (show ((13 : Nat) : Int) = 13 from rfl)) (by omega) (by omega) (by omega) (by omega)) (fun h113 => ?_) (fun h113 => ?_)
                      · replace hP := zE_p hP h113
                        refine wz_i0 (Eq.trans (i3L (rfl : i3 a2 = i3 a2) (show (0 : Int32) = i3 0 from rfl) (by omega) (by omega) (by omega) (by omega)) (decide_eq_false (by omega))) ?_
                        refine wz_br (i3Le (zm_rd (Z := Z) (ν := ν) (k := 11) (show ((0 : Nat) : Int) = 0 from rfl) (show ((0 : Nat) : Int) = 0 from rfl) (show ((2 : Nat) : Int) = 2 from rfl)) (rfl : i3 a2 = i3 a2) (by omega) (by omega) (by omega) (by omega)) (fun h114 => ?_) (fun h114 => ?_)
                        · replace hP := zE_p hP h114
                          refine wz_i1 (Eq.trans (i3NE (rfl : i3 a2 = i3 a2) (show (6 : Int32) = i3 6 from rfl) (by omega) (by omega) (by omega) (by omega)) (decide_eq_true (by omega))) ?_
                          refine wz_i0 (i3O (n := 6) (rfl : i3 a2 = i3 a2) (by omega) (by omega) (by omega)) ?_
                          obtain ⟨v115, hv115, c9, lv115, uv115⟩ := sp_182 (ν := ν) hZ 0 (a1 := a2) (by omega) (zbh (c := 0) (k := 0) hM (Nat.le_of_ble_eq_true rfl))
                          replace hP := zl_e hP hv115
                          refine wz_cI_of (zas (zcons rfl (zcons (zvi (rfl : i3 a2 = i3 a2)) rfl)) c9) ?_
                          clear c9
                          have r116 := zH_k hZ 43 0 a2 0 (lo := 0) (hi := 12) (by decide) rfl
                          refine wz_br (i3Le (i3S (zm_rd (Z := Z) (ν := ν) (k := 43) (show ((0 : Nat) : Int) = 0 from rfl) (i3I (y := a2) (rfl : i3 a2 = i3 a2) (by omega) (by omega) (by omega)) (show ((0 : Nat) : Int) = 0 from rfl)) (rfl : i3 v115 = i3 v115)) (show (0 : Int32) = i3 0 from rfl) (by omega) (by omega) (by omega) (by omega)) (fun h117 => ?_) (fun h117 => ?_)
                          · replace hP := zE_p hP h117
                            refine wz_i1 (Eq.trans (i3NE (show (3 : Int32) = i3 3 from rfl) (show (1 : Int32) = i3 1 from rfl) (by omega) (by omega) (by omega) (by omega)) (decide_eq_true (by omega))) ?_
                            refine wz_i1 (Eq.trans (i3NE (show (3 : Int32) = i3 3 from rfl) (show (2 : Int32) = i3 2 from rfl) (by omega) (by omega) (by omega) (by omega)) (decide_eq_true (by omega))) ?_
                            refine wz_i0 (Eq.trans (i3NE (show (3 : Int32) = i3 3 from rfl) (show (3 : Int32) = i3 3 from rfl) (by omega) (by omega) (by omega) (by omega)) (decide_eq_false (by omega))) ?_
                            exact zlGe (E := 14) hP ⟨(zbw (a := 0) (c := 2) hZ (Nat.le_of_ble_eq_true rfl)), zC_r, zU_r, zG_w (zG_k rfl) (Nat.le_of_ble_eq_true rfl) (Nat.le_of_ble_eq_true rfl)⟩
                          · replace hP := zE_n hP h117
                            refine wz_i1 (Eq.trans (i3NE (show (0 : Int32) = i3 0 from rfl) (show (1 : Int32) = i3 1 from rfl) (by omega) (by omega) (by omega) (by omega)) (decide_eq_true (by omega))) ?_
                            refine wz_i1 (Eq.trans (i3NE (show (0 : Int32) = i3 0 from rfl) (show (2 : Int32) = i3 2 from rfl) (by omega) (by omega) (by omega) (by omega)) (decide_eq_true (by omega))) ?_
                            refine wz_i1 (Eq.trans (i3NE (show (0 : Int32) = i3 0 from rfl) (show (3 : Int32) = i3 3 from rfl) (by omega) (by omega) (by omega) (by omega)) (decide_eq_true (by omega))) ?_
                            refine dc_J (zcons rfl (zcons (zvi (show (8 : Int32) = i3 8 from rfl)) (zcons (zvi (rfl : i3 a1 = i3 a1)) (zcons (zvi (rfl : i3 a2 = i3 a2)) (zcons (zvi (show (0 : Int32) = i3 0 from rfl)) (zcons (zvi (show (0 : Int32) = i3 0 from rfl)) (zcons (zvi (show (0 : Int32) = i3 0 from rfl)) (zcons (zvi (show (0 : Int32) = i3 0 from rfl)) rfl)))))))) (dg (hZ).1 (by omega) (by omega) (by omega) (by omega) (by omega) (by omega) (by omega) ?_)
                            have hZ118I := zH_dd hZ (a1 := 8) (a2 := a1) (a3 := a2) (a4 := 0) (a5 := 0) (a6 := 0) (a7 := 0) (by omega) (by omega) (by omega) (by omega) (by omega) (by omega) (by omega)
                            have kZ118 : zC [3, 12, 13, 14, 40, 41, 42, 43, 44, 45, 46, 47, 48, 49, 50, 51, 52, 53, 54, 61, 68, 1099, 1100, 1101, 1102, 1103, 1104, 1105, 1106, 1107, 1108, 1109, 1110, 1111, 1112, 1113, 1114, 1115, 1116] Z (zdd Z 8 a1 a2 0 0 0 0) := zC_k zdd_K (by decide) (by decide)
                            have hZ118A : (zdd Z 8 a1 a2 0 0 0 0) 68 0 0 0 = 8 ∧ (zdd Z 8 a1 a2 0 0 0 0) 68 0 0 1 = a1 ∧ (zdd Z 8 a1 a2 0 0 0 0) 68 0 0 2 = a2 ∧ (zdd Z 8 a1 a2 0 0 0 0) 68 0 0 3 = 0 ∧ (zdd Z 8 a1 a2 0 0 0 0) 68 0 0 4 = 0 ∧ (zdd Z 8 a1 a2 0 0 0 0) 68 0 0 5 = 0 ∧ (zdd Z 8 a1 a2 0 0 0 0) 68 0 0 6 = 0 := ⟨zdd_68, zdd_68, zdd_68, zdd_68, zdd_68, zdd_68, zdd_68⟩
                            obtain ⟨Z118, hZ118⟩ := zx (zdd Z 8 a1 a2 0 0 0 0)
                            have dZ118 : ∀ {k : Nat} {i j : Int}, zhall k = true → ¬ (k = 11 ∧ (j = 15 ∨ j = 16)) → Z118 k 0 i j = Z k 0 i j := fun hk hj => by rw [hZ118]; exact zdd_h (hZ).1 hk hj
                            have jZ118 : zU [0, 2, 3, 4, 5, 6, 7, 8, 9] Z (zdd Z 8 a1 a2 0 0 0 0) := zU_dd (hZ).1
                            rw [← hZ118] at hZ118I kZ118 jZ118 hZ118A ⊢
                            have hZ118U : zU [0, 2, 3, 4, 5, 6, 7, 8, 9] Z Z118 := zU_t zU_r jZ118 (zU_b1 (List.Mem.head _) (zU_b1 (List.Mem.tail _ (List.Mem.head _)) (zU_b1 (List.Mem.tail _ (List.Mem.tail _ (List.Mem.head _))) (zU_b1 (List.Mem.tail _ (List.Mem.tail _ (List.Mem.tail _ (List.Mem.head _)))) (zU_b1 (List.Mem.tail _ (List.Mem.tail _ (List.Mem.tail _ (List.Mem.tail _ (List.Mem.head _))))) (zU_b1 (List.Mem.tail _ (List.Mem.tail _ (List.Mem.tail _ (List.Mem.tail _ (List.Mem.tail _ (List.Mem.head _)))))) (zU_b1 (List.Mem.tail _ (List.Mem.tail _ (List.Mem.tail _ (List.Mem.tail _ (List.Mem.tail _ (List.Mem.tail _ (List.Mem.head _))))))) (zU_b1 (List.Mem.tail _ (List.Mem.tail _ (List.Mem.tail _ (List.Mem.tail _ (List.Mem.tail _ (List.Mem.tail _ (List.Mem.tail _ (List.Mem.head _)))))))) (zU_b1 (List.Mem.tail _ (List.Mem.tail _ (List.Mem.tail _ (List.Mem.tail _ (List.Mem.tail _ (List.Mem.tail _ (List.Mem.tail _ (List.Mem.tail _ (List.Mem.head _))))))))) zU_b0)))))))))
                            replace hP := zl_e hP hZ118
                            have hZ118K : zC [3, 12, 13, 14, 40, 41, 42, 43, 44, 45, 46, 47, 48, 49, 50, 51, 52, 53, 54, 61, 68, 1099, 1100, 1101, 1102, 1103, 1104, 1105, 1106, 1107, 1108, 1109, 1110, 1111, 1112, 1113, 1114, 1115, 1116] Z Z118 := zC_t zC_r kZ118 (by decide)
                            clear kZ118 hZ118
                            refine fw_121 _ _ _ _ ?_
                            refine wz_i1 rfl ?_
                            refine wz_i0 (i3O (n := 7) (show (0 : Int32) = i3 0 from rfl) (by omega) (by omega) (by omega)) ?_
                            refine wz_i0 (Eq.trans (i3To (Eq.trans (zm_rd (Z := Z118) (ν := ν) (k := 68) (show ((0 : Nat) : Int) = 0 from rfl) (show ((0 : Nat) : Int) = 0 from rfl) (show ((0 : Nat) : Int) = 0 from rfl)) (congrArg i3 ((hZ118A.1)))) (by omega) (by omega)) (decide_eq_false (by omega))) ?_
                            refine wz_i0 (Eq.trans (i3T (Eq.trans (zm_rd (Z := Z118) (ν := ν) (k := 68) (show ((0 : Nat) : Int) = 0 from rfl) (show ((0 : Nat) : Int) = 0 from rfl) (show ((0 : Nat) : Int) = 0 from rfl)) (congrArg i3 ((hZ118A.1)))) (by omega) (by omega)) (decide_eq_false (by omega))) ?_
                            refine wz_i0 (Eq.trans (i3T (Eq.trans (zm_rd (Z := Z118) (ν := ν) (k := 68) (show ((0 : Nat) : Int) = 0 from rfl) (show ((0 : Nat) : Int) = 0 from rfl) (show ((0 : Nat) : Int) = 0 from rfl)) (congrArg i3 ((hZ118A.1)))) (by omega) (by omega)) (decide_eq_false (by omega))) ?_
                            refine wz_i0 (Eq.trans (i3T (Eq.trans (zm_rd (Z := Z118) (ν := ν) (k := 68) (show ((0 : Nat) : Int) = 0 from rfl) (show ((0 : Nat) : Int) = 0 from rfl) (show ((0 : Nat) : Int) = 0 from rfl)) (congrArg i3 ((hZ118A.1)))) (by omega) (by omega)) (decide_eq_false (by omega))) ?_
                            refine wz_i0 (Eq.trans (i3T (Eq.trans (zm_rd (Z := Z118) (ν := ν) (k := 68) (show ((0 : Nat) : Int) = 0 from rfl) (show ((0 : Nat) : Int) = 0 from rfl) (show ((0 : Nat) : Int) = 0 from rfl)) (congrArg i3 ((hZ118A.1)))) (by omega) (by omega)) (decide_eq_false (by omega))) ?_
                            refine wz_i0 (Eq.trans (i3T (Eq.trans (zm_rd (Z := Z118) (ν := ν) (k := 68) (show ((0 : Nat) : Int) = 0 from rfl) (show ((0 : Nat) : Int) = 0 from rfl) (show ((0 : Nat) : Int) = 0 from rfl)) (congrArg i3 ((hZ118A.1)))) (by omega) (by omega)) (decide_eq_false (by omega))) ?_
                            refine wz_i0 (Eq.trans (i3T (Eq.trans (zm_rd (Z := Z118) (ν := ν) (k := 68) (show ((0 : Nat) : Int) = 0 from rfl) (show ((0 : Nat) : Int) = 0 from rfl) (show ((0 : Nat) : Int) = 0 from rfl)) (congrArg i3 ((hZ118A.1)))) (by omega) (by omega)) (decide_eq_false (by omega))) ?_
                            refine wz_i0 (Eq.trans (i3T (Eq.trans (zm_rd (Z := Z118) (ν := ν) (k := 68) (show ((0 : Nat) : Int) = 0 from rfl) (show ((0 : Nat) : Int) = 0 from rfl) (show ((0 : Nat) : Int) = 0 from rfl)) (congrArg i3 ((hZ118A.1)))) (by omega) (by omega)) (decide_eq_false (by omega))) ?_
                            refine wz_i0 (Eq.trans (i3T (Eq.trans (zm_rd (Z := Z118) (ν := ν) (k := 68) (show ((0 : Nat) : Int) = 0 from rfl) (show ((0 : Nat) : Int) = 0 from rfl) (show ((0 : Nat) : Int) = 0 from rfl)) (congrArg i3 ((hZ118A.1)))) (by omega) (by omega)) (decide_eq_false (by omega))) ?_
                            refine wz_i1 (Eq.trans (i3T (Eq.trans (zm_rd (Z := Z118) (ν := ν) (k := 68) (show ((0 : Nat) : Int) = 0 from rfl) (show ((0 : Nat) : Int) = 0 from rfl) (show ((0 : Nat) : Int) = 0 from rfl)) (congrArg i3 ((hZ118A.1)))) (by omega) (by omega)) (decide_eq_true (by omega))) ?_
                            refine wz_i1 rfl ?_
                            refine wz_i0 (i3O (n := 7) (show (1 : Int32) = i3 1 from rfl) (by omega) (by omega) (by omega)) ?_
                            refine wz_i1 rfl ?_
                            refine wz_i0 (i3O (n := 7) (show (2 : Int32) = i3 2 from rfl) (by omega) (by omega) (by omega)) ?_
                            refine wz_i1 (Eq.trans (i3NE (Eq.trans (zm_rd (Z := Z118) (ν := ν) (k := 68) (show ((0 : Nat) : Int) = 0 from rfl) (show ((0 : Nat) : Int) = 0 from rfl) (show ((2 : Nat) : Int) = 2 from rfl)) (congrArg i3 ((hZ118A.2.2.1)))) (show (-1 : Int32) = i3 (-1) from rfl) (by omega) (by omega) (by omega) (by omega)) (decide_eq_true (by omega))) ?_
                            refine wz_i0 (i3O (n := 48) (Eq.trans (zm_rd (Z := Z118) (ν := ν) (k := 68) (show ((0 : Nat) : Int) = 0 from rfl) (show ((0 : Nat) : Int) = 0 from rfl) (show ((1 : Nat) : Int) = 1 from rfl)) (congrArg i3 ((hZ118A.2.1)))) (by omega) (by omega) (by omega)) ?_
                            obtain ⟨Z119, hZ119, c9, hZ119I, kZ119, jZ119⟩ := sp_175 (ν := ν) hZ118I 0 0 _ (i3I (y := a1) (Eq.trans (zm_rd (Z := Z118) (ν := ν) (k := 68) (show ((0 : Nat) : Int) = 0 from rfl) (show ((0 : Nat) : Int) = 0 from rfl) (show ((1 : Nat) : Int) = 1 from rfl)) (congrArg i3 ((hZ118A.2.1)))) (by omega) (by omega) (by omega)) (by omega) (a2 := a2) (by omega) (zbh (c := 0) (k := 2) hM (Nat.le_of_ble_eq_true rfl))
                            have hZ119U : zU [0, 2, 3, 4, 5, 6, 7, 8, 9] Z Z119 := zU_t hZ118U jZ119 (zU_b1 (List.Mem.head _) (zU_b1 (List.Mem.head _) zU_b0))
                            have hZ119K : zC [3, 12, 13, 14, 40, 41, 42, 43, 44, 45, 46, 47, 48, 49, 50, 51, 52, 53, 54, 61, 68, 1099, 1100, 1101, 1102, 1103, 1104, 1105, 1106, 1107, 1108, 1109, 1110, 1111, 1112, 1113, 1114, 1115, 1116] Z Z119 := zC_t hZ118K kZ119 (by decide)
                            replace hP := zl_e hP hZ119
                            refine wz_cV_of (zas (zcons rfl (zcons rfl (zcons (zvi (Eq.trans (zm_rd (Z := Z118) (ν := ν) (k := 68) (show ((0 : Nat) : Int) = 0 from rfl) (show ((0 : Nat) : Int) = 0 from rfl) (show ((2 : Nat) : Int) = 2 from rfl)) (congrArg i3 ((hZ118A.2.2.1))))) rfl))) c9) ?_
                            clear c9
                            refine wz_i1 (Eq.trans (i3NE (Eq.trans (zm_rd (Z := Z118) (ν := ν) (k := 68) (show ((0 : Nat) : Int) = 0 from rfl) (show ((0 : Nat) : Int) = 0 from rfl) (show ((2 : Nat) : Int) = 2 from rfl)) (congrArg i3 ((hZ118A.2.2.1)))) (show (6 : Int32) = i3 6 from rfl) (by omega) (by omega) (by omega) (by omega)) (decide_eq_true (by omega))) ?_
                            refine wz_i0 (i3O (n := 6) (Eq.trans (zm_rd (Z := Z118) (ν := ν) (k := 68) (show ((0 : Nat) : Int) = 0 from rfl) (show ((0 : Nat) : Int) = 0 from rfl) (show ((2 : Nat) : Int) = 2 from rfl)) (congrArg i3 ((hZ118A.2.2.1)))) (by omega) (by omega) (by omega)) ?_
                            obtain ⟨v120, hv120, c9, lv120, uv120⟩ := sp_182 (ν := ν) hZ119I 0 (a1 := a2) (by omega) (zbh (c := 2) (k := 0) hM (Nat.le_of_ble_eq_true rfl))
                            replace hP := zl_e hP hv120
                            refine wz_cI_of (zas (zcons rfl (zcons (zvi (Eq.trans (zm_rd (Z := Z118) (ν := ν) (k := 68) (show ((0 : Nat) : Int) = 0 from rfl) (show ((0 : Nat) : Int) = 0 from rfl) (show ((2 : Nat) : Int) = 2 from rfl)) (congrArg i3 ((hZ118A.2.2.1))))) rfl)) c9) ?_
                            clear c9
                            have r121 := zH_k hZ119I 43 0 a2 0 (lo := 0) (hi := 12) (by decide) rfl
                            exact zlG hP (i3S (zm_rd (Z := Z119) (ν := ν) (k := 43) (show ((0 : Nat) : Int) = 0 from rfl) (i3I (y := a2) (Eq.trans (zm_rd (Z := Z118) (ν := ν) (k := 68) (show ((0 : Nat) : Int) = 0 from rfl) (show ((0 : Nat) : Int) = 0 from rfl) (show ((2 : Nat) : Int) = 2 from rfl)) (congrArg i3 ((hZ118A.2.2.1)))) (by omega) (by omega) (by omega)) (show ((0 : Nat) : Int) = 0 from rfl)) (rfl : i3 v120 = i3 v120)) ⟨hZ119I, hZ119K, hZ119U, zG_w zG_r (Nat.le_of_ble_eq_true rfl) (Nat.le_of_ble_eq_true rfl)⟩
                        · replace hP := zE_n hP h114
                          refine wz_i0 (i3O (n := 6) (rfl : i3 a2 = i3 a2) (by omega) (by omega) (by omega)) ?_
                          have r122 := zH_k hZ 43 0 a2 10 (lo := -1) (hi := 695) (by decide) rfl
                          refine wz_br (i3Le (zm_rd (Z := Z) (ν := ν) (k := 43) (show ((0 : Nat) : Int) = 0 from rfl) (i3I (y := a2) (rfl : i3 a2 = i3 a2) (by omega) (by omega) (by omega)) (show ((10 : Nat) : Int) = 10 from rfl)) (zm_rd (Z := Z) (ν := ν) (k := 11) (show ((0 : Nat) : Int) = 0 from rfl) (show ((0 : Nat) : Int) = 0 from rfl) (show ((13 : Nat) : Int) = 13 from rfl)) (by omega) (by omega) (by omega) (by omega)) (fun h123 => ?_) (fun h123 => ?_)
                          · replace hP := zE_p hP h123
                            refine wz_i1 (Eq.trans (i3NE (rfl : i3 a2 = i3 a2) (show (6 : Int32) = i3 6 from rfl) (by omega) (by omega) (by omega) (by omega)) (decide_eq_true (by omega))) ?_
                            refine wz_i0 (i3O (n := 6) (rfl : i3 a2 = i3 a2) (by omega) (by omega) (by omega)) ?_
                            obtain ⟨v124, hv124, c9, lv124, uv124⟩ := sp_182 (ν := ν) hZ 0 (a1 := a2) (by omega) (zbh (c := 0) (k := 0) hM (Nat.le_of_ble_eq_true rfl))
                            replace hP := zl_e hP hv124
                            refine wz_cI_of (zas (zcons rfl (zcons (zvi (rfl : i3 a2 = i3 a2)) rfl)) c9) ?_
                            clear c9
                            have r125 := zH_k hZ 43 0 a2 0 (lo := 0) (hi := 12) (by decide) rfl
                            refine wz_br (i3Le (i3S (zm_rd (Z := Z) (ν := ν) (k := 43) (show ((0 : Nat) : Int) = 0 from rfl) (i3I (y := a2) (rfl : i3 a2 = i3 a2) (by omega) (by omega) (by omega)) (show ((0 : Nat) : Int) = 0 from rfl)) (rfl : i3 v124 = i3 v124)) (show (0 : Int32) = i3 0 from rfl) (by omega) (by omega) (by omega) (by omega)) (fun h126 => ?_) (fun h126 => ?_)
                            · replace hP := zE_p hP h126
                              refine wz_i1 (Eq.trans (i3NE (show (3 : Int32) = i3 3 from rfl) (show (1 : Int32) = i3 1 from rfl) (by omega) (by omega) (by omega) (by omega)) (decide_eq_true (by omega))) ?_
                              refine wz_i1 (Eq.trans (i3NE (show (3 : Int32) = i3 3 from rfl) (show (2 : Int32) = i3 2 from rfl) (by omega) (by omega) (by omega) (by omega)) (decide_eq_true (by omega))) ?_
                              refine wz_i0 (Eq.trans (i3NE (show (3 : Int32) = i3 3 from rfl) (show (3 : Int32) = i3 3 from rfl) (by omega) (by omega) (by omega) (by omega)) (decide_eq_false (by omega))) ?_
                              exact zlGe (E := 14) hP ⟨(zbw (a := 0) (c := 2) hZ (Nat.le_of_ble_eq_true rfl)), zC_r, zU_r, zG_w (zG_k rfl) (Nat.le_of_ble_eq_true rfl) (Nat.le_of_ble_eq_true rfl)⟩
                            · replace hP := zE_n hP h126
                              refine wz_i1 (Eq.trans (i3NE (show (0 : Int32) = i3 0 from rfl) (show (1 : Int32) = i3 1 from rfl) (by omega) (by omega) (by omega) (by omega)) (decide_eq_true (by omega))) ?_
                              refine wz_i1 (Eq.trans (i3NE (show (0 : Int32) = i3 0 from rfl) (show (2 : Int32) = i3 2 from rfl) (by omega) (by omega) (by omega) (by omega)) (decide_eq_true (by omega))) ?_
                              refine wz_i1 (Eq.trans (i3NE (show (0 : Int32) = i3 0 from rfl) (show (3 : Int32) = i3 3 from rfl) (by omega) (by omega) (by omega) (by omega)) (decide_eq_true (by omega))) ?_
                              refine dc_J (zcons rfl (zcons (zvi (show (8 : Int32) = i3 8 from rfl)) (zcons (zvi (rfl : i3 a1 = i3 a1)) (zcons (zvi (rfl : i3 a2 = i3 a2)) (zcons (zvi (show (0 : Int32) = i3 0 from rfl)) (zcons (zvi (show (0 : Int32) = i3 0 from rfl)) (zcons (zvi (show (0 : Int32) = i3 0 from rfl)) (zcons (zvi (show (0 : Int32) = i3 0 from rfl)) rfl)))))))) (dg (hZ).1 (by omega) (by omega) (by omega) (by omega) (by omega) (by omega) (by omega) ?_)
                              have hZ127I := zH_dd hZ (a1 := 8) (a2 := a1) (a3 := a2) (a4 := 0) (a5 := 0) (a6 := 0) (a7 := 0) (by omega) (by omega) (by omega) (by omega) (by omega) (by omega) (by omega)
                              have kZ127 : zC [3, 12, 13, 14, 40, 41, 42, 43, 44, 45, 46, 47, 48, 49, 50, 51, 52, 53, 54, 61, 68, 1099, 1100, 1101, 1102, 1103, 1104, 1105, 1106, 1107, 1108, 1109, 1110, 1111, 1112, 1113, 1114, 1115, 1116] Z (zdd Z 8 a1 a2 0 0 0 0) := zC_k zdd_K (by decide) (by decide)
                              have hZ127A : (zdd Z 8 a1 a2 0 0 0 0) 68 0 0 0 = 8 ∧ (zdd Z 8 a1 a2 0 0 0 0) 68 0 0 1 = a1 ∧ (zdd Z 8 a1 a2 0 0 0 0) 68 0 0 2 = a2 ∧ (zdd Z 8 a1 a2 0 0 0 0) 68 0 0 3 = 0 ∧ (zdd Z 8 a1 a2 0 0 0 0) 68 0 0 4 = 0 ∧ (zdd Z 8 a1 a2 0 0 0 0) 68 0 0 5 = 0 ∧ (zdd Z 8 a1 a2 0 0 0 0) 68 0 0 6 = 0 := ⟨zdd_68, zdd_68, zdd_68, zdd_68, zdd_68, zdd_68, zdd_68⟩
                              obtain ⟨Z127, hZ127⟩ := zx (zdd Z 8 a1 a2 0 0 0 0)
                              have dZ127 : ∀ {k : Nat} {i j : Int}, zhall k = true → ¬ (k = 11 ∧ (j = 15 ∨ j = 16)) → Z127 k 0 i j = Z k 0 i j := fun hk hj => by rw [hZ127]; exact zdd_h (hZ).1 hk hj
                              have jZ127 : zU [0, 2, 3, 4, 5, 6, 7, 8, 9] Z (zdd Z 8 a1 a2 0 0 0 0) := zU_dd (hZ).1
                              rw [← hZ127] at hZ127I kZ127 jZ127 hZ127A ⊢
                              have hZ127U : zU [0, 2, 3, 4, 5, 6, 7, 8, 9] Z Z127 := zU_t zU_r jZ127 (zU_b1 (List.Mem.head _) (zU_b1 (List.Mem.tail _ (List.Mem.head _)) (zU_b1 (List.Mem.tail _ (List.Mem.tail _ (List.Mem.head _))) (zU_b1 (List.Mem.tail _ (List.Mem.tail _ (List.Mem.tail _ (List.Mem.head _)))) (zU_b1 (List.Mem.tail _ (List.Mem.tail _ (List.Mem.tail _ (List.Mem.tail _ (List.Mem.head _))))) (zU_b1 (List.Mem.tail _ (List.Mem.tail _ (List.Mem.tail _ (List.Mem.tail _ (List.Mem.tail _ (List.Mem.head _)))))) (zU_b1 (List.Mem.tail _ (List.Mem.tail _ (List.Mem.tail _ (List.Mem.tail _ (List.Mem.tail _ (List.Mem.tail _ (List.Mem.head _))))))) (zU_b1 (List.Mem.tail _ (List.Mem.tail _ (List.Mem.tail _ (List.Mem.tail _ (List.Mem.tail _ (List.Mem.tail _ (List.Mem.tail _ (List.Mem.head _)))))))) (zU_b1 (List.Mem.tail _ (List.Mem.tail _ (List.Mem.tail _ (List.Mem.tail _ (List.Mem.tail _ (List.Mem.tail _ (List.Mem.tail _ (List.Mem.tail _ (List.Mem.head _))))))))) zU_b0)))))))))
                              replace hP := zl_e hP hZ127
                              have hZ127K : zC [3, 12, 13, 14, 40, 41, 42, 43, 44, 45, 46, 47, 48, 49, 50, 51, 52, 53, 54, 61, 68, 1099, 1100, 1101, 1102, 1103, 1104, 1105, 1106, 1107, 1108, 1109, 1110, 1111, 1112, 1113, 1114, 1115, 1116] Z Z127 := zC_t zC_r kZ127 (by decide)
                              clear kZ127 hZ127
                              refine fw_121 _ _ _ _ ?_
                              refine wz_i1 rfl ?_
                              refine wz_i0 (i3O (n := 7) (show (0 : Int32) = i3 0 from rfl) (by omega) (by omega) (by omega)) ?_
                              refine wz_i0 (Eq.trans (i3To (Eq.trans (zm_rd (Z := Z127) (ν := ν) (k := 68) (show ((0 : Nat) : Int) = 0 from rfl) (show ((0 : Nat) : Int) = 0 from rfl) (show ((0 : Nat) : Int) = 0 from rfl)) (congrArg i3 ((hZ127A.1)))) (by omega) (by omega)) (decide_eq_false (by omega))) ?_
                              refine wz_i0 (Eq.trans (i3T (Eq.trans (zm_rd (Z := Z127) (ν := ν) (k := 68) (show ((0 : Nat) : Int) = 0 from rfl) (show ((0 : Nat) : Int) = 0 from rfl) (show ((0 : Nat) : Int) = 0 from rfl)) (congrArg i3 ((hZ127A.1)))) (by omega) (by omega)) (decide_eq_false (by omega))) ?_
                              refine wz_i0 (Eq.trans (i3T (Eq.trans (zm_rd (Z := Z127) (ν := ν) (k := 68) (show ((0 : Nat) : Int) = 0 from rfl) (show ((0 : Nat) : Int) = 0 from rfl) (show ((0 : Nat) : Int) = 0 from rfl)) (congrArg i3 ((hZ127A.1)))) (by omega) (by omega)) (decide_eq_false (by omega))) ?_
                              refine wz_i0 (Eq.trans (i3T (Eq.trans (zm_rd (Z := Z127) (ν := ν) (k := 68) (show ((0 : Nat) : Int) = 0 from rfl) (show ((0 : Nat) : Int) = 0 from rfl) (show ((0 : Nat) : Int) = 0 from rfl)) (congrArg i3 ((hZ127A.1)))) (by omega) (by omega)) (decide_eq_false (by omega))) ?_
                              refine wz_i0 (Eq.trans (i3T (Eq.trans (zm_rd (Z := Z127) (ν := ν) (k := 68) (show ((0 : Nat) : Int) = 0 from rfl) (show ((0 : Nat) : Int) = 0 from rfl) (show ((0 : Nat) : Int) = 0 from rfl)) (congrArg i3 ((hZ127A.1)))) (by omega) (by omega)) (decide_eq_false (by omega))) ?_
                              refine wz_i0 (Eq.trans (i3T (Eq.trans (zm_rd (Z := Z127) (ν := ν) (k := 68) (show ((0 : Nat) : Int) = 0 from rfl) (show ((0 : Nat) : Int) = 0 from rfl) (show ((0 : Nat) : Int) = 0 from rfl)) (congrArg i3 ((hZ127A.1)))) (by omega) (by omega)) (decide_eq_false (by omega))) ?_
                              refine wz_i0 (Eq.trans (i3T (Eq.trans (zm_rd (Z := Z127) (ν := ν) (k := 68) (show ((0 : Nat) : Int) = 0 from rfl) (show ((0 : Nat) : Int) = 0 from rfl) (show ((0 : Nat) : Int) = 0 from rfl)) (congrArg i3 ((hZ127A.1)))) (by omega) (by omega)) (decide_eq_false (by omega))) ?_
                              refine wz_i0 (Eq.trans (i3T (Eq.trans (zm_rd (Z := Z127) (ν := ν) (k := 68) (show ((0 : Nat) : Int) = 0 from rfl) (show ((0 : Nat) : Int) = 0 from rfl) (show ((0 : Nat) : Int) = 0 from rfl)) (congrArg i3 ((hZ127A.1)))) (by omega) (by omega)) (decide_eq_false (by omega))) ?_
                              refine wz_i0 (Eq.trans (i3T (Eq.trans (zm_rd (Z := Z127) (ν := ν) (k := 68) (show ((0 : Nat) : Int) = 0 from rfl) (show ((0 : Nat) : Int) = 0 from rfl) (show ((0 : Nat) : Int) = 0 from rfl)) (congrArg i3 ((hZ127A.1)))) (by omega) (by omega)) (decide_eq_false (by omega))) ?_
                              refine wz_i1 (Eq.trans (i3T (Eq.trans (zm_rd (Z := Z127) (ν := ν) (k := 68) (show ((0 : Nat) : Int) = 0 from rfl) (show ((0 : Nat) : Int) = 0 from rfl) (show ((0 : Nat) : Int) = 0 from rfl)) (congrArg i3 ((hZ127A.1)))) (by omega) (by omega)) (decide_eq_true (by omega))) ?_
                              refine wz_i1 rfl ?_
                              refine wz_i0 (i3O (n := 7) (show (1 : Int32) = i3 1 from rfl) (by omega) (by omega) (by omega)) ?_
                              refine wz_i1 rfl ?_
                              refine wz_i0 (i3O (n := 7) (show (2 : Int32) = i3 2 from rfl) (by omega) (by omega) (by omega)) ?_
                              refine wz_i1 (Eq.trans (i3NE (Eq.trans (zm_rd (Z := Z127) (ν := ν) (k := 68) (show ((0 : Nat) : Int) = 0 from rfl) (show ((0 : Nat) : Int) = 0 from rfl) (show ((2 : Nat) : Int) = 2 from rfl)) (congrArg i3 ((hZ127A.2.2.1)))) (show (-1 : Int32) = i3 (-1) from rfl) (by omega) (by omega) (by omega) (by omega)) (decide_eq_true (by omega))) ?_
                              refine wz_i0 (i3O (n := 48) (Eq.trans (zm_rd (Z := Z127) (ν := ν) (k := 68) (show ((0 : Nat) : Int) = 0 from rfl) (show ((0 : Nat) : Int) = 0 from rfl) (show ((1 : Nat) : Int) = 1 from rfl)) (congrArg i3 ((hZ127A.2.1)))) (by omega) (by omega) (by omega)) ?_
                              obtain ⟨Z128, hZ128, c9, hZ128I, kZ128, jZ128⟩ := sp_175 (ν := ν) hZ127I 0 0 _ (i3I (y := a1) (Eq.trans (zm_rd (Z := Z127) (ν := ν) (k := 68) (show ((0 : Nat) : Int) = 0 from rfl) (show ((0 : Nat) : Int) = 0 from rfl) (show ((1 : Nat) : Int) = 1 from rfl)) (congrArg i3 ((hZ127A.2.1)))) (by omega) (by omega) (by omega)) (by omega) (a2 := a2) (by omega) (zbh (c := 0) (k := 2) hM (Nat.le_of_ble_eq_true rfl))
                              have hZ128U : zU [0, 2, 3, 4, 5, 6, 7, 8, 9] Z Z128 := zU_t hZ127U jZ128 (zU_b1 (List.Mem.head _) (zU_b1 (List.Mem.head _) zU_b0))
                              have hZ128K : zC [3, 12, 13, 14, 40, 41, 42, 43, 44, 45, 46, 47, 48, 49, 50, 51, 52, 53, 54, 61, 68, 1099, 1100, 1101, 1102, 1103, 1104, 1105, 1106, 1107, 1108, 1109, 1110, 1111, 1112, 1113, 1114, 1115, 1116] Z Z128 := zC_t hZ127K kZ128 (by decide)
                              replace hP := zl_e hP hZ128
                              refine wz_cV_of (zas (zcons rfl (zcons rfl (zcons (zvi (Eq.trans (zm_rd (Z := Z127) (ν := ν) (k := 68) (show ((0 : Nat) : Int) = 0 from rfl) (show ((0 : Nat) : Int) = 0 from rfl) (show ((2 : Nat) : Int) = 2 from rfl)) (congrArg i3 ((hZ127A.2.2.1))))) rfl))) c9) ?_
                              clear c9
                              refine wz_i1 (Eq.trans (i3NE (Eq.trans (zm_rd (Z := Z127) (ν := ν) (k := 68) (show ((0 : Nat) : Int) = 0 from rfl) (show ((0 : Nat) : Int) = 0 from rfl) (show ((2 : Nat) : Int) = 2 from rfl)) (congrArg i3 ((hZ127A.2.2.1)))) (show (6 : Int32) = i3 6 from rfl) (by omega) (by omega) (by omega) (by omega)) (decide_eq_true (by omega))) ?_
                              refine wz_i0 (i3O (n := 6) (Eq.trans (zm_rd (Z := Z127) (ν := ν) (k := 68) (show ((0 : Nat) : Int) = 0 from rfl) (show ((0 : Nat) : Int) = 0 from rfl) (show ((2 : Nat) : Int) = 2 from rfl)) (congrArg i3 ((hZ127A.2.2.1)))) (by omega) (by omega) (by omega)) ?_
                              obtain ⟨v129, hv129, c9, lv129, uv129⟩ := sp_182 (ν := ν) hZ128I 0 (a1 := a2) (by omega) (zbh (c := 2) (k := 0) hM (Nat.le_of_ble_eq_true rfl))
                              replace hP := zl_e hP hv129
                              refine wz_cI_of (zas (zcons rfl (zcons (zvi (Eq.trans (zm_rd (Z := Z127) (ν := ν) (k := 68) (show ((0 : Nat) : Int) = 0 from rfl) (show ((0 : Nat) : Int) = 0 from rfl) (show ((2 : Nat) : Int) = 2 from rfl)) (congrArg i3 ((hZ127A.2.2.1))))) rfl)) c9) ?_
                              clear c9
                              have r130 := zH_k hZ128I 43 0 a2 0 (lo := 0) (hi := 12) (by decide) rfl
                              exact zlG hP (i3S (zm_rd (Z := Z128) (ν := ν) (k := 43) (show ((0 : Nat) : Int) = 0 from rfl) (i3I (y := a2) (Eq.trans (zm_rd (Z := Z127) (ν := ν) (k := 68) (show ((0 : Nat) : Int) = 0 from rfl) (show ((0 : Nat) : Int) = 0 from rfl) (show ((2 : Nat) : Int) = 2 from rfl)) (congrArg i3 ((hZ127A.2.2.1)))) (by omega) (by omega) (by omega)) (show ((0 : Nat) : Int) = 0 from rfl)) (rfl : i3 v129 = i3 v129)) ⟨hZ128I, hZ128K, hZ128U, zG_w zG_r (Nat.le_of_ble_eq_true rfl) (Nat.le_of_ble_eq_true rfl)⟩
                          · replace hP := zE_n hP h123
                            refine wz_i1 (Eq.trans (i3NE (show (3 : Int32) = i3 3 from rfl) (show (1 : Int32) = i3 1 from rfl) (by omega) (by omega) (by omega) (by omega)) (decide_eq_true (by omega))) ?_
                            refine wz_i1 (Eq.trans (i3NE (show (3 : Int32) = i3 3 from rfl) (show (2 : Int32) = i3 2 from rfl) (by omega) (by omega) (by omega) (by omega)) (decide_eq_true (by omega))) ?_
                            refine wz_i0 (Eq.trans (i3NE (show (3 : Int32) = i3 3 from rfl) (show (3 : Int32) = i3 3 from rfl) (by omega) (by omega) (by omega) (by omega)) (decide_eq_false (by omega))) ?_
                            exact zlGe (E := 14) hP ⟨(zbw (a := 0) (c := 2) hZ (Nat.le_of_ble_eq_true rfl)), zC_r, zU_r, zG_w (zG_k rfl) (Nat.le_of_ble_eq_true rfl) (Nat.le_of_ble_eq_true rfl)⟩
                      · replace hP := zE_n hP h113
                        refine wz_i1 (Eq.trans (i3NE (show (3 : Int32) = i3 3 from rfl) (show (1 : Int32) = i3 1 from rfl) (by omega) (by omega) (by omega) (by omega)) (decide_eq_true (by omega))) ?_
                        refine wz_i1 (Eq.trans (i3NE (show (3 : Int32) = i3 3 from rfl) (show (2 : Int32) = i3 2 from rfl) (by omega) (by omega) (by omega) (by omega)) (decide_eq_true (by omega))) ?_
                        refine wz_i0 (Eq.trans (i3NE (show (3 : Int32) = i3 3 from rfl) (show (3 : Int32) = i3 3 from rfl) (by omega) (by omega) (by omega) (by omega)) (decide_eq_false (by omega))) ?_
                        exact zlGe (E := 14) hP ⟨(zbw (a := 0) (c := 2) hZ (Nat.le_of_ble_eq_true rfl)), zC_r, zU_r, zG_w (zG_k rfl) (Nat.le_of_ble_eq_true rfl) (Nat.le_of_ble_eq_true rfl)⟩
          · replace hP := zE_n hP h7
            have r131 := zH_k hZ 44 0 a1 10 (lo := 0) (hi := 4) (by decide) rfl
            refine wz_br (i3E (zm_rd (Z := Z) (ν := ν) (k := 44) (show ((0 : Nat) : Int) = 0 from rfl) (i3I (y := a1) (rfl : i3 a1 = i3 a1) (by omega) (by omega) (by omega)) (show ((10 : Nat) : Int) = 10 from rfl)) (show (0 : Int32) = i3 0 from rfl) (by omega) (by omega) (by omega) (by omega)) (fun h132 => ?_) (fun h132 => ?_)
            · replace hP := zE_p hP h132
              have r133 := zH_k hZ 44 0 a1 12 (lo := -1) (hi := 6) (by decide) rfl
              refine wz_br (i3E (zm_rd (Z := Z) (ν := ν) (k := 44) (show ((0 : Nat) : Int) = 0 from rfl) (i3I (y := a1) (rfl : i3 a1 = i3 a1) (by omega) (by omega) (by omega)) (show ((12 : Nat) : Int) = 12 from rfl)) (show (6 : Int32) = i3 6 from rfl) (by omega) (by omega) (by omega) (by omega)) (fun h134 => ?_) (fun h134 => ?_)
              · replace hP := zE_p hP h134
                refine wz_i1 (Eq.trans (i3NE (show (3 : Int32) = i3 3 from rfl) (show (1 : Int32) = i3 1 from rfl) (by omega) (by omega) (by omega) (by omega)) (decide_eq_true (by omega))) ?_
                refine wz_i1 (Eq.trans (i3NE (show (3 : Int32) = i3 3 from rfl) (show (2 : Int32) = i3 2 from rfl) (by omega) (by omega) (by omega) (by omega)) (decide_eq_true (by omega))) ?_
                refine wz_i0 (Eq.trans (i3NE (show (3 : Int32) = i3 3 from rfl) (show (3 : Int32) = i3 3 from rfl) (by omega) (by omega) (by omega) (by omega)) (decide_eq_false (by omega))) ?_
                exact zlGe (E := 14) hP ⟨(zbw (a := 0) (c := 2) hZ (Nat.le_of_ble_eq_true rfl)), zC_r, zU_r, zG_w (zG_k rfl) (Nat.le_of_ble_eq_true rfl) (Nat.le_of_ble_eq_true rfl)⟩
              · replace hP := zE_n hP h134
                refine wz_br (i3L (zm_rd (Z := Z) (ν := ν) (k := 44) (show ((0 : Nat) : Int) = 0 from rfl) (i3I (y := a1) (rfl : i3 a1 = i3 a1) (by omega) (by omega) (by omega)) (show ((12 : Nat) : Int) = 12 from rfl)) (show (0 : Int32) = i3 0 from rfl) (by omega) (by omega) (by omega) (by omega)) (fun h135 => ?_) (fun h135 => ?_)
                · replace hP := zE_p hP h135
                  refine wz_i1 (Eq.trans (i3Le (zm_rd (Z := Z) (ν := ν) (k := 11) (show ((0 : Nat) : Int) = 0 from rfl) (show ((0 : Nat) : Int) = 0 from rfl) (show ((2 : Nat) : Int) = 2 from rfl)) (show (6 : Int32) = i3 6 from rfl) (by omega) (by omega) (by omega) (by omega)) (decide_eq_true (by omega))) ?_
                  obtain ⟨v136, hv136, c9, lv136, uv136⟩ := sp_182 (ν := ν) hZ 0 (a1 := 6) (by omega) (zbh (c := 0) (k := 0) hM (Nat.le_of_ble_eq_true rfl))
                  replace hP := zl_e hP hv136
                  refine wz_cI_of (zas (zcons rfl (zcons (zvi (show (6 : Int32) = i3 6 from rfl)) rfl)) c9) ?_
                  clear c9
                  refine wz_br (i3Le (i3S (show (12 : Int32) = i3 12 from rfl) (rfl : i3 v136 = i3 v136)) (show (0 : Int32) = i3 0 from rfl) (by omega) (by omega) (by omega) (by omega)) (fun h137 => ?_) (fun h137 => ?_)
                  · replace hP := zE_p hP h137
                    refine wz_i1 (Eq.trans (i3NE (show (3 : Int32) = i3 3 from rfl) (show (1 : Int32) = i3 1 from rfl) (by omega) (by omega) (by omega) (by omega)) (decide_eq_true (by omega))) ?_
                    refine wz_i1 (Eq.trans (i3NE (show (3 : Int32) = i3 3 from rfl) (show (2 : Int32) = i3 2 from rfl) (by omega) (by omega) (by omega) (by omega)) (decide_eq_true (by omega))) ?_
                    refine wz_i0 (Eq.trans (i3NE (show (3 : Int32) = i3 3 from rfl) (show (3 : Int32) = i3 3 from rfl) (by omega) (by omega) (by omega) (by omega)) (decide_eq_false (by omega))) ?_
                    exact zlGe (E := 14) hP ⟨(zbw (a := 0) (c := 2) hZ (Nat.le_of_ble_eq_true rfl)), zC_r, zU_r, zG_w (zG_k rfl) (Nat.le_of_ble_eq_true rfl) (Nat.le_of_ble_eq_true rfl)⟩
                  · replace hP := zE_n hP h137
                    refine wz_i1 (Eq.trans (i3NE (show (0 : Int32) = i3 0 from rfl) (show (1 : Int32) = i3 1 from rfl) (by omega) (by omega) (by omega) (by omega)) (decide_eq_true (by omega))) ?_
                    refine wz_i1 (Eq.trans (i3NE (show (0 : Int32) = i3 0 from rfl) (show (2 : Int32) = i3 2 from rfl) (by omega) (by omega) (by omega) (by omega)) (decide_eq_true (by omega))) ?_
                    refine wz_i1 (Eq.trans (i3NE (show (0 : Int32) = i3 0 from rfl) (show (3 : Int32) = i3 3 from rfl) (by omega) (by omega) (by omega) (by omega)) (decide_eq_true (by omega))) ?_
                    refine dc_J (zcons rfl (zcons (zvi (show (8 : Int32) = i3 8 from rfl)) (zcons (zvi (rfl : i3 a1 = i3 a1)) (zcons (zvi (rfl : i3 a2 = i3 a2)) (zcons (zvi (show (0 : Int32) = i3 0 from rfl)) (zcons (zvi (show (0 : Int32) = i3 0 from rfl)) (zcons (zvi (show (0 : Int32) = i3 0 from rfl)) (zcons (zvi (show (0 : Int32) = i3 0 from rfl)) rfl)))))))) (dg (hZ).1 (by omega) (by omega) (by omega) (by omega) (by omega) (by omega) (by omega) ?_)
                    have hZ138I := zH_dd hZ (a1 := 8) (a2 := a1) (a3 := a2) (a4 := 0) (a5 := 0) (a6 := 0) (a7 := 0) (by omega) (by omega) (by omega) (by omega) (by omega) (by omega) (by omega)
                    have kZ138 : zC [3, 12, 13, 14, 40, 41, 42, 43, 44, 45, 46, 47, 48, 49, 50, 51, 52, 53, 54, 61, 68, 1099, 1100, 1101, 1102, 1103, 1104, 1105, 1106, 1107, 1108, 1109, 1110, 1111, 1112, 1113, 1114, 1115, 1116] Z (zdd Z 8 a1 a2 0 0 0 0) := zC_k zdd_K (by decide) (by decide)
                    have hZ138A : (zdd Z 8 a1 a2 0 0 0 0) 68 0 0 0 = 8 ∧ (zdd Z 8 a1 a2 0 0 0 0) 68 0 0 1 = a1 ∧ (zdd Z 8 a1 a2 0 0 0 0) 68 0 0 2 = a2 ∧ (zdd Z 8 a1 a2 0 0 0 0) 68 0 0 3 = 0 ∧ (zdd Z 8 a1 a2 0 0 0 0) 68 0 0 4 = 0 ∧ (zdd Z 8 a1 a2 0 0 0 0) 68 0 0 5 = 0 ∧ (zdd Z 8 a1 a2 0 0 0 0) 68 0 0 6 = 0 := ⟨zdd_68, zdd_68, zdd_68, zdd_68, zdd_68, zdd_68, zdd_68⟩
                    obtain ⟨Z138, hZ138⟩ := zx (zdd Z 8 a1 a2 0 0 0 0)
                    have dZ138 : ∀ {k : Nat} {i j : Int}, zhall k = true → ¬ (k = 11 ∧ (j = 15 ∨ j = 16)) → Z138 k 0 i j = Z k 0 i j := fun hk hj => by rw [hZ138]; exact zdd_h (hZ).1 hk hj
                    have jZ138 : zU [0, 2, 3, 4, 5, 6, 7, 8, 9] Z (zdd Z 8 a1 a2 0 0 0 0) := zU_dd (hZ).1
                    rw [← hZ138] at hZ138I kZ138 jZ138 hZ138A ⊢
                    have hZ138U : zU [0, 2, 3, 4, 5, 6, 7, 8, 9] Z Z138 := zU_t zU_r jZ138 (zU_b1 (List.Mem.head _) (zU_b1 (List.Mem.tail _ (List.Mem.head _)) (zU_b1 (List.Mem.tail _ (List.Mem.tail _ (List.Mem.head _))) (zU_b1 (List.Mem.tail _ (List.Mem.tail _ (List.Mem.tail _ (List.Mem.head _)))) (zU_b1 (List.Mem.tail _ (List.Mem.tail _ (List.Mem.tail _ (List.Mem.tail _ (List.Mem.head _))))) (zU_b1 (List.Mem.tail _ (List.Mem.tail _ (List.Mem.tail _ (List.Mem.tail _ (List.Mem.tail _ (List.Mem.head _)))))) (zU_b1 (List.Mem.tail _ (List.Mem.tail _ (List.Mem.tail _ (List.Mem.tail _ (List.Mem.tail _ (List.Mem.tail _ (List.Mem.head _))))))) (zU_b1 (List.Mem.tail _ (List.Mem.tail _ (List.Mem.tail _ (List.Mem.tail _ (List.Mem.tail _ (List.Mem.tail _ (List.Mem.tail _ (List.Mem.head _)))))))) (zU_b1 (List.Mem.tail _ (List.Mem.tail _ (List.Mem.tail _ (List.Mem.tail _ (List.Mem.tail _ (List.Mem.tail _ (List.Mem.tail _ (List.Mem.tail _ (List.Mem.head _))))))))) zU_b0)))))))))
                    replace hP := zl_e hP hZ138
                    have hZ138K : zC [3, 12, 13, 14, 40, 41, 42, 43, 44, 45, 46, 47, 48, 49, 50, 51, 52, 53, 54, 61, 68, 1099, 1100, 1101, 1102, 1103, 1104, 1105, 1106, 1107, 1108, 1109, 1110, 1111, 1112, 1113, 1114, 1115, 1116] Z Z138 := zC_t zC_r kZ138 (by decide)
                    clear kZ138 hZ138
                    refine fw_121 _ _ _ _ ?_
                    refine wz_i1 rfl ?_
                    refine wz_i0 (i3O (n := 7) (show (0 : Int32) = i3 0 from rfl) (by omega) (by omega) (by omega)) ?_
                    refine wz_i0 (Eq.trans (i3To (Eq.trans (zm_rd (Z := Z138) (ν := ν) (k := 68) (show ((0 : Nat) : Int) = 0 from rfl) (show ((0 : Nat) : Int) = 0 from rfl) (show ((0 : Nat) : Int) = 0 from rfl)) (congrArg i3 ((hZ138A.1)))) (by omega) (by omega)) (decide_eq_false (by omega))) ?_
                    refine wz_i0 (Eq.trans (i3T (Eq.trans (zm_rd (Z := Z138) (ν := ν) (k := 68) (show ((0 : Nat) : Int) = 0 from rfl) (show ((0 : Nat) : Int) = 0 from rfl) (show ((0 : Nat) : Int) = 0 from rfl)) (congrArg i3 ((hZ138A.1)))) (by omega) (by omega)) (decide_eq_false (by omega))) ?_
                    refine wz_i0 (Eq.trans (i3T (Eq.trans (zm_rd (Z := Z138) (ν := ν) (k := 68) (show ((0 : Nat) : Int) = 0 from rfl) (show ((0 : Nat) : Int) = 0 from rfl) (show ((0 : Nat) : Int) = 0 from rfl)) (congrArg i3 ((hZ138A.1)))) (by omega) (by omega)) (decide_eq_false (by omega))) ?_
                    refine wz_i0 (Eq.trans (i3T (Eq.trans (zm_rd (Z := Z138) (ν := ν) (k := 68) (show ((0 : Nat) : Int) = 0 from rfl) (show ((0 : Nat) : Int) = 0 from rfl) (show ((0 : Nat) : Int) = 0 from rfl)) (congrArg i3 ((hZ138A.1)))) (by omega) (by omega)) (decide_eq_false (by omega))) ?_
                    refine wz_i0 (Eq.trans (i3T (Eq.trans (zm_rd (Z := Z138) (ν := ν) (k := 68) (show ((0 : Nat) : Int) = 0 from rfl) (show ((0 : Nat) : Int) = 0 from rfl) (show ((0 : Nat) : Int) = 0 from rfl)) (congrArg i3 ((hZ138A.1)))) (by omega) (by omega)) (decide_eq_false (by omega))) ?_
                    refine wz_i0 (Eq.trans (i3T (Eq.trans (zm_rd (Z := Z138) (ν := ν) (k := 68) (show ((0 : Nat) : Int) = 0 from rfl) (show ((0 : Nat) : Int) = 0 from rfl) (show ((0 : Nat) : Int) = 0 from rfl)) (congrArg i3 ((hZ138A.1)))) (by omega) (by omega)) (decide_eq_false (by omega))) ?_
                    refine wz_i0 (Eq.trans (i3T (Eq.trans (zm_rd (Z := Z138) (ν := ν) (k := 68) (show ((0 : Nat) : Int) = 0 from rfl) (show ((0 : Nat) : Int) = 0 from rfl) (show ((0 : Nat) : Int) = 0 from rfl)) (congrArg i3 ((hZ138A.1)))) (by omega) (by omega)) (decide_eq_false (by omega))) ?_
                    refine wz_i0 (Eq.trans (i3T (Eq.trans (zm_rd (Z := Z138) (ν := ν) (k := 68) (show ((0 : Nat) : Int) = 0 from rfl) (show ((0 : Nat) : Int) = 0 from rfl) (show ((0 : Nat) : Int) = 0 from rfl)) (congrArg i3 ((hZ138A.1)))) (by omega) (by omega)) (decide_eq_false (by omega))) ?_
                    refine wz_i0 (Eq.trans (i3T (Eq.trans (zm_rd (Z := Z138) (ν := ν) (k := 68) (show ((0 : Nat) : Int) = 0 from rfl) (show ((0 : Nat) : Int) = 0 from rfl) (show ((0 : Nat) : Int) = 0 from rfl)) (congrArg i3 ((hZ138A.1)))) (by omega) (by omega)) (decide_eq_false (by omega))) ?_
                    refine wz_i1 (Eq.trans (i3T (Eq.trans (zm_rd (Z := Z138) (ν := ν) (k := 68) (show ((0 : Nat) : Int) = 0 from rfl) (show ((0 : Nat) : Int) = 0 from rfl) (show ((0 : Nat) : Int) = 0 from rfl)) (congrArg i3 ((hZ138A.1)))) (by omega) (by omega)) (decide_eq_true (by omega))) ?_
                    refine wz_i1 rfl ?_
                    refine wz_i0 (i3O (n := 7) (show (1 : Int32) = i3 1 from rfl) (by omega) (by omega) (by omega)) ?_
                    refine wz_i1 rfl ?_
                    refine wz_i0 (i3O (n := 7) (show (2 : Int32) = i3 2 from rfl) (by omega) (by omega) (by omega)) ?_
                    refine wz_i0 (Eq.trans (i3NE (Eq.trans (zm_rd (Z := Z138) (ν := ν) (k := 68) (show ((0 : Nat) : Int) = 0 from rfl) (show ((0 : Nat) : Int) = 0 from rfl) (show ((2 : Nat) : Int) = 2 from rfl)) (congrArg i3 ((hZ138A.2.2.1)))) (show (-1 : Int32) = i3 (-1) from rfl) (by omega) (by omega) (by omega) (by omega)) (decide_eq_false (by omega))) ?_
                    refine wz_i0 (i3O (n := 48) (Eq.trans (zm_rd (Z := Z138) (ν := ν) (k := 68) (show ((0 : Nat) : Int) = 0 from rfl) (show ((0 : Nat) : Int) = 0 from rfl) (show ((1 : Nat) : Int) = 1 from rfl)) (congrArg i3 ((hZ138A.2.1)))) (by omega) (by omega) (by omega)) ?_
                    obtain ⟨Z139, hZ139, c9, hZ139I, kZ139, jZ139⟩ := sp_175 (ν := ν) hZ138I 0 0 _ (i3I (y := a1) (Eq.trans (zm_rd (Z := Z138) (ν := ν) (k := 68) (show ((0 : Nat) : Int) = 0 from rfl) (show ((0 : Nat) : Int) = 0 from rfl) (show ((1 : Nat) : Int) = 1 from rfl)) (congrArg i3 ((hZ138A.2.1)))) (by omega) (by omega) (by omega)) (by omega) (a2 := 6) (by omega) (zbh (c := 0) (k := 2) hM (Nat.le_of_ble_eq_true rfl))
                    have hZ139U : zU [0, 2, 3, 4, 5, 6, 7, 8, 9] Z Z139 := zU_t hZ138U jZ139 (zU_b1 (List.Mem.head _) (zU_b1 (List.Mem.head _) zU_b0))
                    have hZ139K : zC [3, 12, 13, 14, 40, 41, 42, 43, 44, 45, 46, 47, 48, 49, 50, 51, 52, 53, 54, 61, 68, 1099, 1100, 1101, 1102, 1103, 1104, 1105, 1106, 1107, 1108, 1109, 1110, 1111, 1112, 1113, 1114, 1115, 1116] Z Z139 := zC_t hZ138K kZ139 (by decide)
                    replace hP := zl_e hP hZ139
                    refine wz_cV_of (zas (zcons rfl (zcons rfl (zcons (zvi (show (6 : Int32) = i3 6 from rfl)) rfl))) c9) ?_
                    clear c9
                    obtain ⟨v140, hv140, c9, lv140, uv140⟩ := sp_182 (ν := ν) hZ139I 0 (a1 := 6) (by omega) (zbh (c := 2) (k := 0) hM (Nat.le_of_ble_eq_true rfl))
                    replace hP := zl_e hP hv140
                    refine wz_cI_of (zas (zcons rfl (zcons (zvi (show (6 : Int32) = i3 6 from rfl)) rfl)) c9) ?_
                    clear c9
                    exact zlG hP (i3S (show (12 : Int32) = i3 12 from rfl) (rfl : i3 v140 = i3 v140)) ⟨hZ139I, hZ139K, hZ139U, zG_w zG_r (Nat.le_of_ble_eq_true rfl) (Nat.le_of_ble_eq_true rfl)⟩
                · replace hP := zE_n hP h135
                  refine wz_br (i3Le (zm_rd (Z := Z) (ν := ν) (k := 11) (show ((0 : Nat) : Int) = 0 from rfl) (show ((0 : Nat) : Int) = 0 from rfl) (show ((2 : Nat) : Int) = 2 from rfl)) (zm_rd (Z := Z) (ν := ν) (k := 44) (show ((0 : Nat) : Int) = 0 from rfl) (i3I (y := a1) (rfl : i3 a1 = i3 a1) (by omega) (by omega) (by omega)) (show ((12 : Nat) : Int) = 12 from rfl)) (by omega) (by omega) (by omega) (by omega)) (fun h141 => ?_) (fun h141 => ?_)
                  · replace hP := zE_p hP h141
                    refine wz_i1 (Eq.trans (i3Le (zm_rd (Z := Z) (ν := ν) (k := 11) (show ((0 : Nat) : Int) = 0 from rfl) (show ((0 : Nat) : Int) = 0 from rfl) (show ((2 : Nat) : Int) = 2 from rfl)) (show (6 : Int32) = i3 6 from rfl) (by omega) (by omega) (by omega) (by omega)) (decide_eq_true (by omega))) ?_
                    obtain ⟨v142, hv142, c9, lv142, uv142⟩ := sp_182 (ν := ν) hZ 0 (a1 := 6) (by omega) (zbh (c := 0) (k := 0) hM (Nat.le_of_ble_eq_true rfl))
                    replace hP := zl_e hP hv142
                    refine wz_cI_of (zas (zcons rfl (zcons (zvi (show (6 : Int32) = i3 6 from rfl)) rfl)) c9) ?_
                    clear c9
                    refine wz_br (i3Le (i3S (show (12 : Int32) = i3 12 from rfl) (rfl : i3 v142 = i3 v142)) (show (0 : Int32) = i3 0 from rfl) (by omega) (by omega) (by omega) (by omega)) (fun h143 => ?_) (fun h143 => ?_)
                    · replace hP := zE_p hP h143
                      refine wz_i1 (Eq.trans (i3NE (show (3 : Int32) = i3 3 from rfl) (show (1 : Int32) = i3 1 from rfl) (by omega) (by omega) (by omega) (by omega)) (decide_eq_true (by omega))) ?_
                      refine wz_i1 (Eq.trans (i3NE (show (3 : Int32) = i3 3 from rfl) (show (2 : Int32) = i3 2 from rfl) (by omega) (by omega) (by omega) (by omega)) (decide_eq_true (by omega))) ?_
                      refine wz_i0 (Eq.trans (i3NE (show (3 : Int32) = i3 3 from rfl) (show (3 : Int32) = i3 3 from rfl) (by omega) (by omega) (by omega) (by omega)) (decide_eq_false (by omega))) ?_
                      exact zlGe (E := 14) hP ⟨(zbw (a := 0) (c := 2) hZ (Nat.le_of_ble_eq_true rfl)), zC_r, zU_r, zG_w (zG_k rfl) (Nat.le_of_ble_eq_true rfl) (Nat.le_of_ble_eq_true rfl)⟩
                    · replace hP := zE_n hP h143
                      refine wz_i1 (Eq.trans (i3NE (show (0 : Int32) = i3 0 from rfl) (show (1 : Int32) = i3 1 from rfl) (by omega) (by omega) (by omega) (by omega)) (decide_eq_true (by omega))) ?_
                      refine wz_i1 (Eq.trans (i3NE (show (0 : Int32) = i3 0 from rfl) (show (2 : Int32) = i3 2 from rfl) (by omega) (by omega) (by omega) (by omega)) (decide_eq_true (by omega))) ?_
                      refine wz_i1 (Eq.trans (i3NE (show (0 : Int32) = i3 0 from rfl) (show (3 : Int32) = i3 3 from rfl) (by omega) (by omega) (by omega) (by omega)) (decide_eq_true (by omega))) ?_
                      refine dc_J (zcons rfl (zcons (zvi (show (8 : Int32) = i3 8 from rfl)) (zcons (zvi (rfl : i3 a1 = i3 a1)) (zcons (zvi (rfl : i3 a2 = i3 a2)) (zcons (zvi (show (0 : Int32) = i3 0 from rfl)) (zcons (zvi (show (0 : Int32) = i3 0 from rfl)) (zcons (zvi (show (0 : Int32) = i3 0 from rfl)) (zcons (zvi (show (0 : Int32) = i3 0 from rfl)) rfl)))))))) (dg (hZ).1 (by omega) (by omega) (by omega) (by omega) (by omega) (by omega) (by omega) ?_)
                      have hZ144I := zH_dd hZ (a1 := 8) (a2 := a1) (a3 := a2) (a4 := 0) (a5 := 0) (a6 := 0) (a7 := 0) (by omega) (by omega) (by omega) (by omega) (by omega) (by omega) (by omega)
                      have kZ144 : zC [3, 12, 13, 14, 40, 41, 42, 43, 44, 45, 46, 47, 48, 49, 50, 51, 52, 53, 54, 61, 68, 1099, 1100, 1101, 1102, 1103, 1104, 1105, 1106, 1107, 1108, 1109, 1110, 1111, 1112, 1113, 1114, 1115, 1116] Z (zdd Z 8 a1 a2 0 0 0 0) := zC_k zdd_K (by decide) (by decide)
                      have hZ144A : (zdd Z 8 a1 a2 0 0 0 0) 68 0 0 0 = 8 ∧ (zdd Z 8 a1 a2 0 0 0 0) 68 0 0 1 = a1 ∧ (zdd Z 8 a1 a2 0 0 0 0) 68 0 0 2 = a2 ∧ (zdd Z 8 a1 a2 0 0 0 0) 68 0 0 3 = 0 ∧ (zdd Z 8 a1 a2 0 0 0 0) 68 0 0 4 = 0 ∧ (zdd Z 8 a1 a2 0 0 0 0) 68 0 0 5 = 0 ∧ (zdd Z 8 a1 a2 0 0 0 0) 68 0 0 6 = 0 := ⟨zdd_68, zdd_68, zdd_68, zdd_68, zdd_68, zdd_68, zdd_68⟩
                      obtain ⟨Z144, hZ144⟩ := zx (zdd Z 8 a1 a2 0 0 0 0)
                      have dZ144 : ∀ {k : Nat} {i j : Int}, zhall k = true → ¬ (k = 11 ∧ (j = 15 ∨ j = 16)) → Z144 k 0 i j = Z k 0 i j := fun hk hj => by rw [hZ144]; exact zdd_h (hZ).1 hk hj
                      have jZ144 : zU [0, 2, 3, 4, 5, 6, 7, 8, 9] Z (zdd Z 8 a1 a2 0 0 0 0) := zU_dd (hZ).1
                      rw [← hZ144] at hZ144I kZ144 jZ144 hZ144A ⊢
                      have hZ144U : zU [0, 2, 3, 4, 5, 6, 7, 8, 9] Z Z144 := zU_t zU_r jZ144 (zU_b1 (List.Mem.head _) (zU_b1 (List.Mem.tail _ (List.Mem.head _)) (zU_b1 (List.Mem.tail _ (List.Mem.tail _ (List.Mem.head _))) (zU_b1 (List.Mem.tail _ (List.Mem.tail _ (List.Mem.tail _ (List.Mem.head _)))) (zU_b1 (List.Mem.tail _ (List.Mem.tail _ (List.Mem.tail _ (List.Mem.tail _ (List.Mem.head _))))) (zU_b1 (List.Mem.tail _ (List.Mem.tail _ (List.Mem.tail _ (List.Mem.tail _ (List.Mem.tail _ (List.Mem.head _)))))) (zU_b1 (List.Mem.tail _ (List.Mem.tail _ (List.Mem.tail _ (List.Mem.tail _ (List.Mem.tail _ (List.Mem.tail _ (List.Mem.head _))))))) (zU_b1 (List.Mem.tail _ (List.Mem.tail _ (List.Mem.tail _ (List.Mem.tail _ (List.Mem.tail _ (List.Mem.tail _ (List.Mem.tail _ (List.Mem.head _)))))))) (zU_b1 (List.Mem.tail _ (List.Mem.tail _ (List.Mem.tail _ (List.Mem.tail _ (List.Mem.tail _ (List.Mem.tail _ (List.Mem.tail _ (List.Mem.tail _ (List.Mem.head _))))))))) zU_b0)))))))))
                      replace hP := zl_e hP hZ144
                      have hZ144K : zC [3, 12, 13, 14, 40, 41, 42, 43, 44, 45, 46, 47, 48, 49, 50, 51, 52, 53, 54, 61, 68, 1099, 1100, 1101, 1102, 1103, 1104, 1105, 1106, 1107, 1108, 1109, 1110, 1111, 1112, 1113, 1114, 1115, 1116] Z Z144 := zC_t zC_r kZ144 (by decide)
                      clear kZ144 hZ144
                      refine fw_121 _ _ _ _ ?_
                      refine wz_i1 rfl ?_
                      refine wz_i0 (i3O (n := 7) (show (0 : Int32) = i3 0 from rfl) (by omega) (by omega) (by omega)) ?_
                      refine wz_i0 (Eq.trans (i3To (Eq.trans (zm_rd (Z := Z144) (ν := ν) (k := 68) (show ((0 : Nat) : Int) = 0 from rfl) (show ((0 : Nat) : Int) = 0 from rfl) (show ((0 : Nat) : Int) = 0 from rfl)) (congrArg i3 ((hZ144A.1)))) (by omega) (by omega)) (decide_eq_false (by omega))) ?_
                      refine wz_i0 (Eq.trans (i3T (Eq.trans (zm_rd (Z := Z144) (ν := ν) (k := 68) (show ((0 : Nat) : Int) = 0 from rfl) (show ((0 : Nat) : Int) = 0 from rfl) (show ((0 : Nat) : Int) = 0 from rfl)) (congrArg i3 ((hZ144A.1)))) (by omega) (by omega)) (decide_eq_false (by omega))) ?_
                      refine wz_i0 (Eq.trans (i3T (Eq.trans (zm_rd (Z := Z144) (ν := ν) (k := 68) (show ((0 : Nat) : Int) = 0 from rfl) (show ((0 : Nat) : Int) = 0 from rfl) (show ((0 : Nat) : Int) = 0 from rfl)) (congrArg i3 ((hZ144A.1)))) (by omega) (by omega)) (decide_eq_false (by omega))) ?_
                      refine wz_i0 (Eq.trans (i3T (Eq.trans (zm_rd (Z := Z144) (ν := ν) (k := 68) (show ((0 : Nat) : Int) = 0 from rfl) (show ((0 : Nat) : Int) = 0 from rfl) (show ((0 : Nat) : Int) = 0 from rfl)) (congrArg i3 ((hZ144A.1)))) (by omega) (by omega)) (decide_eq_false (by omega))) ?_
                      refine wz_i0 (Eq.trans (i3T (Eq.trans (zm_rd (Z := Z144) (ν := ν) (k := 68) (show ((0 : Nat) : Int) = 0 from rfl) (show ((0 : Nat) : Int) = 0 from rfl) (show ((0 : Nat) : Int) = 0 from rfl)) (congrArg i3 ((hZ144A.1)))) (by omega) (by omega)) (decide_eq_false (by omega))) ?_
                      refine wz_i0 (Eq.trans (i3T (Eq.trans (zm_rd (Z := Z144) (ν := ν) (k := 68) (show ((0 : Nat) : Int) = 0 from rfl) (show ((0 : Nat) : Int) = 0 from rfl) (show ((0 : Nat) : Int) = 0 from rfl)) (congrArg i3 ((hZ144A.1)))) (by omega) (by omega)) (decide_eq_false (by omega))) ?_
                      refine wz_i0 (Eq.trans (i3T (Eq.trans (zm_rd (Z := Z144) (ν := ν) (k := 68) (show ((0 : Nat) : Int) = 0 from rfl) (show ((0 : Nat) : Int) = 0 from rfl) (show ((0 : Nat) : Int) = 0 from rfl)) (congrArg i3 ((hZ144A.1)))) (by omega) (by omega)) (decide_eq_false (by omega))) ?_
                      refine wz_i0 (Eq.trans (i3T (Eq.trans (zm_rd (Z := Z144) (ν := ν) (k := 68) (show ((0 : Nat) : Int) = 0 from rfl) (show ((0 : Nat) : Int) = 0 from rfl) (show ((0 : Nat) : Int) = 0 from rfl)) (congrArg i3 ((hZ144A.1)))) (by omega) (by omega)) (decide_eq_false (by omega))) ?_
                      refine wz_i0 (Eq.trans (i3T (Eq.trans (zm_rd (Z := Z144) (ν := ν) (k := 68) (show ((0 : Nat) : Int) = 0 from rfl) (show ((0 : Nat) : Int) = 0 from rfl) (show ((0 : Nat) : Int) = 0 from rfl)) (congrArg i3 ((hZ144A.1)))) (by omega) (by omega)) (decide_eq_false (by omega))) ?_
                      refine wz_i1 (Eq.trans (i3T (Eq.trans (zm_rd (Z := Z144) (ν := ν) (k := 68) (show ((0 : Nat) : Int) = 0 from rfl) (show ((0 : Nat) : Int) = 0 from rfl) (show ((0 : Nat) : Int) = 0 from rfl)) (congrArg i3 ((hZ144A.1)))) (by omega) (by omega)) (decide_eq_true (by omega))) ?_
                      refine wz_i1 rfl ?_
                      refine wz_i0 (i3O (n := 7) (show (1 : Int32) = i3 1 from rfl) (by omega) (by omega) (by omega)) ?_
                      refine wz_i1 rfl ?_
                      refine wz_i0 (i3O (n := 7) (show (2 : Int32) = i3 2 from rfl) (by omega) (by omega) (by omega)) ?_
                      refine wz_i0 (Eq.trans (i3NE (Eq.trans (zm_rd (Z := Z144) (ν := ν) (k := 68) (show ((0 : Nat) : Int) = 0 from rfl) (show ((0 : Nat) : Int) = 0 from rfl) (show ((2 : Nat) : Int) = 2 from rfl)) (congrArg i3 ((hZ144A.2.2.1)))) (show (-1 : Int32) = i3 (-1) from rfl) (by omega) (by omega) (by omega) (by omega)) (decide_eq_false (by omega))) ?_
                      refine wz_i0 (i3O (n := 48) (Eq.trans (zm_rd (Z := Z144) (ν := ν) (k := 68) (show ((0 : Nat) : Int) = 0 from rfl) (show ((0 : Nat) : Int) = 0 from rfl) (show ((1 : Nat) : Int) = 1 from rfl)) (congrArg i3 ((hZ144A.2.1)))) (by omega) (by omega) (by omega)) ?_
                      obtain ⟨Z145, hZ145, c9, hZ145I, kZ145, jZ145⟩ := sp_175 (ν := ν) hZ144I 0 0 _ (i3I (y := a1) (Eq.trans (zm_rd (Z := Z144) (ν := ν) (k := 68) (show ((0 : Nat) : Int) = 0 from rfl) (show ((0 : Nat) : Int) = 0 from rfl) (show ((1 : Nat) : Int) = 1 from rfl)) (congrArg i3 ((hZ144A.2.1)))) (by omega) (by omega) (by omega)) (by omega) (a2 := 6) (by omega) (zbh (c := 0) (k := 2) hM (Nat.le_of_ble_eq_true rfl))
                      have hZ145U : zU [0, 2, 3, 4, 5, 6, 7, 8, 9] Z Z145 := zU_t hZ144U jZ145 (zU_b1 (List.Mem.head _) (zU_b1 (List.Mem.head _) zU_b0))
                      have hZ145K : zC [3, 12, 13, 14, 40, 41, 42, 43, 44, 45, 46, 47, 48, 49, 50, 51, 52, 53, 54, 61, 68, 1099, 1100, 1101, 1102, 1103, 1104, 1105, 1106, 1107, 1108, 1109, 1110, 1111, 1112, 1113, 1114, 1115, 1116] Z Z145 := zC_t hZ144K kZ145 (by decide)
                      replace hP := zl_e hP hZ145
                      refine wz_cV_of (zas (zcons rfl (zcons rfl (zcons (zvi (show (6 : Int32) = i3 6 from rfl)) rfl))) c9) ?_
                      clear c9
                      obtain ⟨v146, hv146, c9, lv146, uv146⟩ := sp_182 (ν := ν) hZ145I 0 (a1 := 6) (by omega) (zbh (c := 2) (k := 0) hM (Nat.le_of_ble_eq_true rfl))
                      replace hP := zl_e hP hv146
                      refine wz_cI_of (zas (zcons rfl (zcons (zvi (show (6 : Int32) = i3 6 from rfl)) rfl)) c9) ?_
                      clear c9
                      exact zlG hP (i3S (show (12 : Int32) = i3 12 from rfl) (rfl : i3 v146 = i3 v146)) ⟨hZ145I, hZ145K, hZ145U, zG_w zG_r (Nat.le_of_ble_eq_true rfl) (Nat.le_of_ble_eq_true rfl)⟩
                  · replace hP := zE_n hP h141
                    refine wz_i0 (i3O (n := 6) (zm_rd (Z := Z) (ν := ν) (k := 44) (show ((0 : Nat) : Int) = 0 from rfl) (i3I (y := a1) (rfl : i3 a1 = i3 a1) (by omega) (by omega) (by omega)) (show ((12 : Nat) : Int) = 12 from rfl)) (by omega) (by omega) (by omega)) ?_
                    have r147 := zH_k hZ 43 0 (Z 44 0 a1 12) 10 (lo := -1) (hi := 695) (by decide) rfl
                    have r148 := zH_k hZ 11 0 0 13 (lo := 0) (hi := 671) (by decide) rfl
                    refine wz_br (i3Le (zm_rd (Z := Z) (ν := ν) (k := 43) (show ((0 : Nat) : Int) = 0 from rfl) (i3I (y := (Z 44 0 a1 12)) (zm_rd (Z := Z) (ν := ν) (k := 44) (show ((0 : Nat) : Int) = 0 from rfl) (i3I (y := a1) (rfl : i3 a1 = i3 a1) (by omega) (by omega) (by omega)) (show ((12 : Nat) : Int) = 12 from rfl)) (by omega) (by omega) (by omega)) (show ((10 : Nat) : Int) = 10 from rfl)) (zm_rd (Z := Z) (ν := ν) (k := 11) (show ((0 : Nat) : Int) = 0 from rfl) (show ((0 : Nat) : Int) = 0 from rfl) (show ((13 : Nat) : Int) = 13 from rfl)) (by omega) (by omega) (by omega) (by omega)) (fun h149 => ?_) (fun h149 => ?_)
                    · replace hP := zE_p hP h149
                      refine wz_i1 (Eq.trans (i3Le (zm_rd (Z := Z) (ν := ν) (k := 11) (show ((0 : Nat) : Int) = 0 from rfl) (show ((0 : Nat) : Int) = 0 from rfl) (show ((2 : Nat) : Int) = 2 from rfl)) (show (6 : Int32) = i3 6 from rfl) (by omega) (by omega) (by omega) (by omega)) (decide_eq_true (by omega))) ?_
                      obtain ⟨v150, hv150, c9, lv150, uv150⟩ := sp_182 (ν := ν) hZ 0 (a1 := 6) (by omega) (zbh (c := 0) (k := 0) hM (Nat.le_of_ble_eq_true rfl))
                      replace hP := zl_e hP hv150
                      refine wz_cI_of (zas (zcons rfl (zcons (zvi (show (6 : Int32) = i3 6 from rfl)) rfl)) c9) ?_
                      clear c9
                      refine wz_br (i3Le (i3S (show (12 : Int32) = i3 12 from rfl) (rfl : i3 v150 = i3 v150)) (show (0 : Int32) = i3 0 from rfl) (by omega) (by omega) (by omega) (by omega)) (fun h151 => ?_) (fun h151 => ?_)
                      · replace hP := zE_p hP h151
                        refine wz_i1 (Eq.trans (i3NE (show (3 : Int32) = i3 3 from rfl) (show (1 : Int32) = i3 1 from rfl) (by omega) (by omega) (by omega) (by omega)) (decide_eq_true (by omega))) ?_
                        refine wz_i1 (Eq.trans (i3NE (show (3 : Int32) = i3 3 from rfl) (show (2 : Int32) = i3 2 from rfl) (by omega) (by omega) (by omega) (by omega)) (decide_eq_true (by omega))) ?_
                        refine wz_i0 (Eq.trans (i3NE (show (3 : Int32) = i3 3 from rfl) (show (3 : Int32) = i3 3 from rfl) (by omega) (by omega) (by omega) (by omega)) (decide_eq_false (by omega))) ?_
                        exact zlGe (E := 14) hP ⟨(zbw (a := 0) (c := 2) hZ (Nat.le_of_ble_eq_true rfl)), zC_r, zU_r, zG_w (zG_k rfl) (Nat.le_of_ble_eq_true rfl) (Nat.le_of_ble_eq_true rfl)⟩
                      · replace hP := zE_n hP h151
                        refine wz_i1 (Eq.trans (i3NE (show (0 : Int32) = i3 0 from rfl) (show (1 : Int32) = i3 1 from rfl) (by omega) (by omega) (by omega) (by omega)) (decide_eq_true (by omega))) ?_
                        refine wz_i1 (Eq.trans (i3NE (show (0 : Int32) = i3 0 from rfl) (show (2 : Int32) = i3 2 from rfl) (by omega) (by omega) (by omega) (by omega)) (decide_eq_true (by omega))) ?_
                        refine wz_i1 (Eq.trans (i3NE (show (0 : Int32) = i3 0 from rfl) (show (3 : Int32) = i3 3 from rfl) (by omega) (by omega) (by omega) (by omega)) (decide_eq_true (by omega))) ?_
                        refine dc_J (zcons rfl (zcons (zvi (show (8 : Int32) = i3 8 from rfl)) (zcons (zvi (rfl : i3 a1 = i3 a1)) (zcons (zvi (rfl : i3 a2 = i3 a2)) (zcons (zvi (show (0 : Int32) = i3 0 from rfl)) (zcons (zvi (show (0 : Int32) = i3 0 from rfl)) (zcons (zvi (show (0 : Int32) = i3 0 from rfl)) (zcons (zvi (show (0 : Int32) = i3 0 from rfl)) rfl)))))))) (dg (hZ).1 (by omega) (by omega) (by omega) (by omega) (by omega) (by omega) (by omega) ?_)
                        have hZ152I := zH_dd hZ (a1 := 8) (a2 := a1) (a3 := a2) (a4 := 0) (a5 := 0) (a6 := 0) (a7 := 0) (by omega) (by omega) (by omega) (by omega) (by omega) (by omega) (by omega)
                        have kZ152 : zC [3, 12, 13, 14, 40, 41, 42, 43, 44, 45, 46, 47, 48, 49, 50, 51, 52, 53, 54, 61, 68, 1099, 1100, 1101, 1102, 1103, 1104, 1105, 1106, 1107, 1108, 1109, 1110, 1111, 1112, 1113, 1114, 1115, 1116] Z (zdd Z 8 a1 a2 0 0 0 0) := zC_k zdd_K (by decide) (by decide)
                        have hZ152A : (zdd Z 8 a1 a2 0 0 0 0) 68 0 0 0 = 8 ∧ (zdd Z 8 a1 a2 0 0 0 0) 68 0 0 1 = a1 ∧ (zdd Z 8 a1 a2 0 0 0 0) 68 0 0 2 = a2 ∧ (zdd Z 8 a1 a2 0 0 0 0) 68 0 0 3 = 0 ∧ (zdd Z 8 a1 a2 0 0 0 0) 68 0 0 4 = 0 ∧ (zdd Z 8 a1 a2 0 0 0 0) 68 0 0 5 = 0 ∧ (zdd Z 8 a1 a2 0 0 0 0) 68 0 0 6 = 0 := ⟨zdd_68, zdd_68, zdd_68, zdd_68, zdd_68, zdd_68, zdd_68⟩
                        obtain ⟨Z152, hZ152⟩ := zx (zdd Z 8 a1 a2 0 0 0 0)
                        have dZ152 : ∀ {k : Nat} {i j : Int}, zhall k = true → ¬ (k = 11 ∧ (j = 15 ∨ j = 16)) → Z152 k 0 i j = Z k 0 i j := fun hk hj => by rw [hZ152]; exact zdd_h (hZ).1 hk hj
                        have jZ152 : zU [0, 2, 3, 4, 5, 6, 7, 8, 9] Z (zdd Z 8 a1 a2 0 0 0 0) := zU_dd (hZ).1
                        rw [← hZ152] at hZ152I kZ152 jZ152 hZ152A ⊢
                        have hZ152U : zU [0, 2, 3, 4, 5, 6, 7, 8, 9] Z Z152 := zU_t zU_r jZ152 (zU_b1 (List.Mem.head _) (zU_b1 (List.Mem.tail _ (List.Mem.head _)) (zU_b1 (List.Mem.tail _ (List.Mem.tail _ (List.Mem.head _))) (zU_b1 (List.Mem.tail _ (List.Mem.tail _ (List.Mem.tail _ (List.Mem.head _)))) (zU_b1 (List.Mem.tail _ (List.Mem.tail _ (List.Mem.tail _ (List.Mem.tail _ (List.Mem.head _))))) (zU_b1 (List.Mem.tail _ (List.Mem.tail _ (List.Mem.tail _ (List.Mem.tail _ (List.Mem.tail _ (List.Mem.head _)))))) (zU_b1 (List.Mem.tail _ (List.Mem.tail _ (List.Mem.tail _ (List.Mem.tail _ (List.Mem.tail _ (List.Mem.tail _ (List.Mem.head _))))))) (zU_b1 (List.Mem.tail _ (List.Mem.tail _ (List.Mem.tail _ (List.Mem.tail _ (List.Mem.tail _ (List.Mem.tail _ (List.Mem.tail _ (List.Mem.head _)))))))) (zU_b1 (List.Mem.tail _ (List.Mem.tail _ (List.Mem.tail _ (List.Mem.tail _ (List.Mem.tail _ (List.Mem.tail _ (List.Mem.tail _ (List.Mem.tail _ (List.Mem.head _))))))))) zU_b0)))))))))
                        replace hP := zl_e hP hZ152
                        have hZ152K : zC [3, 12, 13, 14, 40, 41, 42, 43, 44, 45, 46, 47, 48, 49, 50, 51, 52, 53, 54, 61, 68, 1099, 1100, 1101, 1102, 1103, 1104, 1105, 1106, 1107, 1108, 1109, 1110, 1111, 1112, 1113, 1114, 1115, 1116] Z Z152 := zC_t zC_r kZ152 (by decide)
                        clear kZ152 hZ152
                        refine fw_121 _ _ _ _ ?_
                        refine wz_i1 rfl ?_
                        refine wz_i0 (i3O (n := 7) (show (0 : Int32) = i3 0 from rfl) (by omega) (by omega) (by omega)) ?_
                        refine wz_i0 (Eq.trans (i3To (Eq.trans (zm_rd (Z := Z152) (ν := ν) (k := 68) (show ((0 : Nat) : Int) = 0 from rfl) (show ((0 : Nat) : Int) = 0 from rfl) (show ((0 : Nat) : Int) = 0 from rfl)) (congrArg i3 ((hZ152A.1)))) (by omega) (by omega)) (decide_eq_false (by omega))) ?_
                        refine wz_i0 (Eq.trans (i3T (Eq.trans (zm_rd (Z := Z152) (ν := ν) (k := 68) (show ((0 : Nat) : Int) = 0 from rfl) (show ((0 : Nat) : Int) = 0 from rfl) (show ((0 : Nat) : Int) = 0 from rfl)) (congrArg i3 ((hZ152A.1)))) (by omega) (by omega)) (decide_eq_false (by omega))) ?_
                        refine wz_i0 (Eq.trans (i3T (Eq.trans (zm_rd (Z := Z152) (ν := ν) (k := 68) (show ((0 : Nat) : Int) = 0 from rfl) (show ((0 : Nat) : Int) = 0 from rfl) (show ((0 : Nat) : Int) = 0 from rfl)) (congrArg i3 ((hZ152A.1)))) (by omega) (by omega)) (decide_eq_false (by omega))) ?_
                        refine wz_i0 (Eq.trans (i3T (Eq.trans (zm_rd (Z := Z152) (ν := ν) (k := 68) (show ((0 : Nat) : Int) = 0 from rfl) (show ((0 : Nat) : Int) = 0 from rfl) (show ((0 : Nat) : Int) = 0 from rfl)) (congrArg i3 ((hZ152A.1)))) (by omega) (by omega)) (decide_eq_false (by omega))) ?_
                        refine wz_i0 (Eq.trans (i3T (Eq.trans (zm_rd (Z := Z152) (ν := ν) (k := 68) (show ((0 : Nat) : Int) = 0 from rfl) (show ((0 : Nat) : Int) = 0 from rfl) (show ((0 : Nat) : Int) = 0 from rfl)) (congrArg i3 ((hZ152A.1)))) (by omega) (by omega)) (decide_eq_false (by omega))) ?_
                        refine wz_i0 (Eq.trans (i3T (Eq.trans (zm_rd (Z := Z152) (ν := ν) (k := 68) (show ((0 : Nat) : Int) = 0 from rfl) (show ((0 : Nat) : Int) = 0 from rfl) (show ((0 : Nat) : Int) = 0 from rfl)) (congrArg i3 ((hZ152A.1)))) (by omega) (by omega)) (decide_eq_false (by omega))) ?_
                        refine wz_i0 (Eq.trans (i3T (Eq.trans (zm_rd (Z := Z152) (ν := ν) (k := 68) (show ((0 : Nat) : Int) = 0 from rfl) (show ((0 : Nat) : Int) = 0 from rfl) (show ((0 : Nat) : Int) = 0 from rfl)) (congrArg i3 ((hZ152A.1)))) (by omega) (by omega)) (decide_eq_false (by omega))) ?_
                        refine wz_i0 (Eq.trans (i3T (Eq.trans (zm_rd (Z := Z152) (ν := ν) (k := 68) (show ((0 : Nat) : Int) = 0 from rfl) (show ((0 : Nat) : Int) = 0 from rfl) (show ((0 : Nat) : Int) = 0 from rfl)) (congrArg i3 ((hZ152A.1)))) (by omega) (by omega)) (decide_eq_false (by omega))) ?_
                        refine wz_i0 (Eq.trans (i3T (Eq.trans (zm_rd (Z := Z152) (ν := ν) (k := 68) (show ((0 : Nat) : Int) = 0 from rfl) (show ((0 : Nat) : Int) = 0 from rfl) (show ((0 : Nat) : Int) = 0 from rfl)) (congrArg i3 ((hZ152A.1)))) (by omega) (by omega)) (decide_eq_false (by omega))) ?_
                        refine wz_i1 (Eq.trans (i3T (Eq.trans (zm_rd (Z := Z152) (ν := ν) (k := 68) (show ((0 : Nat) : Int) = 0 from rfl) (show ((0 : Nat) : Int) = 0 from rfl) (show ((0 : Nat) : Int) = 0 from rfl)) (congrArg i3 ((hZ152A.1)))) (by omega) (by omega)) (decide_eq_true (by omega))) ?_
                        refine wz_i1 rfl ?_
                        refine wz_i0 (i3O (n := 7) (show (1 : Int32) = i3 1 from rfl) (by omega) (by omega) (by omega)) ?_
                        refine wz_i1 rfl ?_
                        refine wz_i0 (i3O (n := 7) (show (2 : Int32) = i3 2 from rfl) (by omega) (by omega) (by omega)) ?_
                        refine wz_i0 (Eq.trans (i3NE (Eq.trans (zm_rd (Z := Z152) (ν := ν) (k := 68) (show ((0 : Nat) : Int) = 0 from rfl) (show ((0 : Nat) : Int) = 0 from rfl) (show ((2 : Nat) : Int) = 2 from rfl)) (congrArg i3 ((hZ152A.2.2.1)))) (show (-1 : Int32) = i3 (-1) from rfl) (by omega) (by omega) (by omega) (by omega)) (decide_eq_false (by omega))) ?_
                        refine wz_i0 (i3O (n := 48) (Eq.trans (zm_rd (Z := Z152) (ν := ν) (k := 68) (show ((0 : Nat) : Int) = 0 from rfl) (show ((0 : Nat) : Int) = 0 from rfl) (show ((1 : Nat) : Int) = 1 from rfl)) (congrArg i3 ((hZ152A.2.1)))) (by omega) (by omega) (by omega)) ?_
                        obtain ⟨Z153, hZ153, c9, hZ153I, kZ153, jZ153⟩ := sp_175 (ν := ν) hZ152I 0 0 _ (i3I (y := a1) (Eq.trans (zm_rd (Z := Z152) (ν := ν) (k := 68) (show ((0 : Nat) : Int) = 0 from rfl) (show ((0 : Nat) : Int) = 0 from rfl) (show ((1 : Nat) : Int) = 1 from rfl)) (congrArg i3 ((hZ152A.2.1)))) (by omega) (by omega) (by omega)) (by omega) (a2 := 6) (by omega) (zbh (c := 0) (k := 2) hM (Nat.le_of_ble_eq_true rfl))
                        have hZ153U : zU [0, 2, 3, 4, 5, 6, 7, 8, 9] Z Z153 := zU_t hZ152U jZ153 (zU_b1 (List.Mem.head _) (zU_b1 (List.Mem.head _) zU_b0))
                        have hZ153K : zC [3, 12, 13, 14, 40, 41, 42, 43, 44, 45, 46, 47, 48, 49, 50, 51, 52, 53, 54, 61, 68, 1099, 1100, 1101, 1102, 1103, 1104, 1105, 1106, 1107, 1108, 1109, 1110, 1111, 1112, 1113, 1114, 1115, 1116] Z Z153 := zC_t hZ152K kZ153 (by decide)
                        replace hP := zl_e hP hZ153
                        refine wz_cV_of (zas (zcons rfl (zcons rfl (zcons (zvi (show (6 : Int32) = i3 6 from rfl)) rfl))) c9) ?_
                        clear c9
                        obtain ⟨v154, hv154, c9, lv154, uv154⟩ := sp_182 (ν := ν) hZ153I 0 (a1 := 6) (by omega) (zbh (c := 2) (k := 0) hM (Nat.le_of_ble_eq_true rfl))
                        replace hP := zl_e hP hv154
                        refine wz_cI_of (zas (zcons rfl (zcons (zvi (show (6 : Int32) = i3 6 from rfl)) rfl)) c9) ?_
                        clear c9
                        exact zlG hP (i3S (show (12 : Int32) = i3 12 from rfl) (rfl : i3 v154 = i3 v154)) ⟨hZ153I, hZ153K, hZ153U, zG_w zG_r (Nat.le_of_ble_eq_true rfl) (Nat.le_of_ble_eq_true rfl)⟩
                    · replace hP := zE_n hP h149
                      refine wz_i1 (Eq.trans (i3NE (show (3 : Int32) = i3 3 from rfl) (show (1 : Int32) = i3 1 from rfl) (by omega) (by omega) (by omega) (by omega)) (decide_eq_true (by omega))) ?_
                      refine wz_i1 (Eq.trans (i3NE (show (3 : Int32) = i3 3 from rfl) (show (2 : Int32) = i3 2 from rfl) (by omega) (by omega) (by omega) (by omega)) (decide_eq_true (by omega))) ?_
                      refine wz_i0 (Eq.trans (i3NE (show (3 : Int32) = i3 3 from rfl) (show (3 : Int32) = i3 3 from rfl) (by omega) (by omega) (by omega) (by omega)) (decide_eq_false (by omega))) ?_
                      exact zlGe (E := 14) hP ⟨(zbw (a := 0) (c := 2) hZ (Nat.le_of_ble_eq_true rfl)), zC_r, zU_r, zG_w (zG_k rfl) (Nat.le_of_ble_eq_true rfl) (Nat.le_of_ble_eq_true rfl)⟩
            · replace hP := zE_n hP h132
              refine wz_br (i3NE (zm_rd (Z := Z) (ν := ν) (k := 44) (show ((0 : Nat) : Int) = 0 from rfl) (i3I (y := a1) (rfl : i3 a1 = i3 a1) (by omega) (by omega) (by omega)) (show ((10 : Nat) : Int) = 10 from rfl)) (show (1 : Int32) = i3 1 from rfl) (by omega) (by omega) (by omega) (by omega)) (fun h155 => ?_) (fun h155 => ?_)
              · replace hP := zE_p hP h155
                refine wz_i1 (Eq.trans (i3NE (show (3 : Int32) = i3 3 from rfl) (show (1 : Int32) = i3 1 from rfl) (by omega) (by omega) (by omega) (by omega)) (decide_eq_true (by omega))) ?_
                refine wz_i1 (Eq.trans (i3NE (show (3 : Int32) = i3 3 from rfl) (show (2 : Int32) = i3 2 from rfl) (by omega) (by omega) (by omega) (by omega)) (decide_eq_true (by omega))) ?_
                refine wz_i0 (Eq.trans (i3NE (show (3 : Int32) = i3 3 from rfl) (show (3 : Int32) = i3 3 from rfl) (by omega) (by omega) (by omega) (by omega)) (decide_eq_false (by omega))) ?_
                exact zlGe (E := 14) hP ⟨(zbw (a := 0) (c := 2) hZ (Nat.le_of_ble_eq_true rfl)), zC_r, zU_r, zG_w (zG_k rfl) (Nat.le_of_ble_eq_true rfl) (Nat.le_of_ble_eq_true rfl)⟩
              · replace hP := zE_n hP h155
                have r156 := zH_k hZ 44 0 a1 12 (lo := -1) (hi := 6) (by decide) rfl
                refine wz_br (i3E (zm_rd (Z := Z) (ν := ν) (k := 44) (show ((0 : Nat) : Int) = 0 from rfl) (i3I (y := a1) (rfl : i3 a1 = i3 a1) (by omega) (by omega) (by omega)) (show ((12 : Nat) : Int) = 12 from rfl)) (show (6 : Int32) = i3 6 from rfl) (by omega) (by omega) (by omega) (by omega)) (fun h157 => ?_) (fun h157 => ?_)
                · replace hP := zE_p hP h157
                  refine wz_i1 (Eq.trans (i3NE (show (3 : Int32) = i3 3 from rfl) (show (1 : Int32) = i3 1 from rfl) (by omega) (by omega) (by omega) (by omega)) (decide_eq_true (by omega))) ?_
                  refine wz_i1 (Eq.trans (i3NE (show (3 : Int32) = i3 3 from rfl) (show (2 : Int32) = i3 2 from rfl) (by omega) (by omega) (by omega) (by omega)) (decide_eq_true (by omega))) ?_
                  refine wz_i0 (Eq.trans (i3NE (show (3 : Int32) = i3 3 from rfl) (show (3 : Int32) = i3 3 from rfl) (by omega) (by omega) (by omega) (by omega)) (decide_eq_false (by omega))) ?_
                  exact zlGe (E := 14) hP ⟨(zbw (a := 0) (c := 2) hZ (Nat.le_of_ble_eq_true rfl)), zC_r, zU_r, zG_w (zG_k rfl) (Nat.le_of_ble_eq_true rfl) (Nat.le_of_ble_eq_true rfl)⟩
                · replace hP := zE_n hP h157
                  refine wz_br (i3L (zm_rd (Z := Z) (ν := ν) (k := 44) (show ((0 : Nat) : Int) = 0 from rfl) (i3I (y := a1) (rfl : i3 a1 = i3 a1) (by omega) (by omega) (by omega)) (show ((12 : Nat) : Int) = 12 from rfl)) (show (0 : Int32) = i3 0 from rfl) (by omega) (by omega) (by omega) (by omega)) (fun h158 => ?_) (fun h158 => ?_)
                  · replace hP := zE_p hP h158
                    refine wz_i1 (Eq.trans (i3Le (zm_rd (Z := Z) (ν := ν) (k := 11) (show ((0 : Nat) : Int) = 0 from rfl) (show ((0 : Nat) : Int) = 0 from rfl) (show ((2 : Nat) : Int) = 2 from rfl)) (show (6 : Int32) = i3 6 from rfl) (by omega) (by omega) (by omega) (by omega)) (decide_eq_true (by omega))) ?_
                    obtain ⟨v159, hv159, c9, lv159, uv159⟩ := sp_182 (ν := ν) hZ 0 (a1 := 6) (by omega) (zbh (c := 0) (k := 0) hM (Nat.le_of_ble_eq_true rfl))
                    replace hP := zl_e hP hv159
                    refine wz_cI_of (zas (zcons rfl (zcons (zvi (show (6 : Int32) = i3 6 from rfl)) rfl)) c9) ?_
                    clear c9
                    refine wz_br (i3Le (i3S (show (12 : Int32) = i3 12 from rfl) (rfl : i3 v159 = i3 v159)) (show (0 : Int32) = i3 0 from rfl) (by omega) (by omega) (by omega) (by omega)) (fun h160 => ?_) (fun h160 => ?_)
                    · replace hP := zE_p hP h160
                      refine wz_i1 (Eq.trans (i3NE (show (3 : Int32) = i3 3 from rfl) (show (1 : Int32) = i3 1 from rfl) (by omega) (by omega) (by omega) (by omega)) (decide_eq_true (by omega))) ?_
                      refine wz_i1 (Eq.trans (i3NE (show (3 : Int32) = i3 3 from rfl) (show (2 : Int32) = i3 2 from rfl) (by omega) (by omega) (by omega) (by omega)) (decide_eq_true (by omega))) ?_
                      refine wz_i0 (Eq.trans (i3NE (show (3 : Int32) = i3 3 from rfl) (show (3 : Int32) = i3 3 from rfl) (by omega) (by omega) (by omega) (by omega)) (decide_eq_false (by omega))) ?_
                      exact zlGe (E := 14) hP ⟨(zbw (a := 0) (c := 2) hZ (Nat.le_of_ble_eq_true rfl)), zC_r, zU_r, zG_w (zG_k rfl) (Nat.le_of_ble_eq_true rfl) (Nat.le_of_ble_eq_true rfl)⟩
                    · replace hP := zE_n hP h160
                      refine wz_i1 (Eq.trans (i3NE (show (0 : Int32) = i3 0 from rfl) (show (1 : Int32) = i3 1 from rfl) (by omega) (by omega) (by omega) (by omega)) (decide_eq_true (by omega))) ?_
                      refine wz_i1 (Eq.trans (i3NE (show (0 : Int32) = i3 0 from rfl) (show (2 : Int32) = i3 2 from rfl) (by omega) (by omega) (by omega) (by omega)) (decide_eq_true (by omega))) ?_
                      refine wz_i1 (Eq.trans (i3NE (show (0 : Int32) = i3 0 from rfl) (show (3 : Int32) = i3 3 from rfl) (by omega) (by omega) (by omega) (by omega)) (decide_eq_true (by omega))) ?_
                      refine dc_J (zcons rfl (zcons (zvi (show (8 : Int32) = i3 8 from rfl)) (zcons (zvi (rfl : i3 a1 = i3 a1)) (zcons (zvi (rfl : i3 a2 = i3 a2)) (zcons (zvi (show (0 : Int32) = i3 0 from rfl)) (zcons (zvi (show (0 : Int32) = i3 0 from rfl)) (zcons (zvi (show (0 : Int32) = i3 0 from rfl)) (zcons (zvi (show (0 : Int32) = i3 0 from rfl)) rfl)))))))) (dg (hZ).1 (by omega) (by omega) (by omega) (by omega) (by omega) (by omega) (by omega) ?_)
                      have hZ161I := zH_dd hZ (a1 := 8) (a2 := a1) (a3 := a2) (a4 := 0) (a5 := 0) (a6 := 0) (a7 := 0) (by omega) (by omega) (by omega) (by omega) (by omega) (by omega) (by omega)
                      have kZ161 : zC [3, 12, 13, 14, 40, 41, 42, 43, 44, 45, 46, 47, 48, 49, 50, 51, 52, 53, 54, 61, 68, 1099, 1100, 1101, 1102, 1103, 1104, 1105, 1106, 1107, 1108, 1109, 1110, 1111, 1112, 1113, 1114, 1115, 1116] Z (zdd Z 8 a1 a2 0 0 0 0) := zC_k zdd_K (by decide) (by decide)
                      have hZ161A : (zdd Z 8 a1 a2 0 0 0 0) 68 0 0 0 = 8 ∧ (zdd Z 8 a1 a2 0 0 0 0) 68 0 0 1 = a1 ∧ (zdd Z 8 a1 a2 0 0 0 0) 68 0 0 2 = a2 ∧ (zdd Z 8 a1 a2 0 0 0 0) 68 0 0 3 = 0 ∧ (zdd Z 8 a1 a2 0 0 0 0) 68 0 0 4 = 0 ∧ (zdd Z 8 a1 a2 0 0 0 0) 68 0 0 5 = 0 ∧ (zdd Z 8 a1 a2 0 0 0 0) 68 0 0 6 = 0 := ⟨zdd_68, zdd_68, zdd_68, zdd_68, zdd_68, zdd_68, zdd_68⟩
                      obtain ⟨Z161, hZ161⟩ := zx (zdd Z 8 a1 a2 0 0 0 0)
                      have dZ161 : ∀ {k : Nat} {i j : Int}, zhall k = true → ¬ (k = 11 ∧ (j = 15 ∨ j = 16)) → Z161 k 0 i j = Z k 0 i j := fun hk hj => by rw [hZ161]; exact zdd_h (hZ).1 hk hj
                      have jZ161 : zU [0, 2, 3, 4, 5, 6, 7, 8, 9] Z (zdd Z 8 a1 a2 0 0 0 0) := zU_dd (hZ).1
                      rw [← hZ161] at hZ161I kZ161 jZ161 hZ161A ⊢
                      have hZ161U : zU [0, 2, 3, 4, 5, 6, 7, 8, 9] Z Z161 := zU_t zU_r jZ161 (zU_b1 (List.Mem.head _) (zU_b1 (List.Mem.tail _ (List.Mem.head _)) (zU_b1 (List.Mem.tail _ (List.Mem.tail _ (List.Mem.head _))) (zU_b1 (List.Mem.tail _ (List.Mem.tail _ (List.Mem.tail _ (List.Mem.head _)))) (zU_b1 (List.Mem.tail _ (List.Mem.tail _ (List.Mem.tail _ (List.Mem.tail _ (List.Mem.head _))))) (zU_b1 (List.Mem.tail _ (List.Mem.tail _ (List.Mem.tail _ (List.Mem.tail _ (List.Mem.tail _ (List.Mem.head _)))))) (zU_b1 (List.Mem.tail _ (List.Mem.tail _ (List.Mem.tail _ (List.Mem.tail _ (List.Mem.tail _ (List.Mem.tail _ (List.Mem.head _))))))) (zU_b1 (List.Mem.tail _ (List.Mem.tail _ (List.Mem.tail _ (List.Mem.tail _ (List.Mem.tail _ (List.Mem.tail _ (List.Mem.tail _ (List.Mem.head _)))))))) (zU_b1 (List.Mem.tail _ (List.Mem.tail _ (List.Mem.tail _ (List.Mem.tail _ (List.Mem.tail _ (List.Mem.tail _ (List.Mem.tail _ (List.Mem.tail _ (List.Mem.head _))))))))) zU_b0)))))))))
                      replace hP := zl_e hP hZ161
                      have hZ161K : zC [3, 12, 13, 14, 40, 41, 42, 43, 44, 45, 46, 47, 48, 49, 50, 51, 52, 53, 54, 61, 68, 1099, 1100, 1101, 1102, 1103, 1104, 1105, 1106, 1107, 1108, 1109, 1110, 1111, 1112, 1113, 1114, 1115, 1116] Z Z161 := zC_t zC_r kZ161 (by decide)
                      clear kZ161 hZ161
                      refine fw_121 _ _ _ _ ?_
                      refine wz_i1 rfl ?_
                      refine wz_i0 (i3O (n := 7) (show (0 : Int32) = i3 0 from rfl) (by omega) (by omega) (by omega)) ?_
                      refine wz_i0 (Eq.trans (i3To (Eq.trans (zm_rd (Z := Z161) (ν := ν) (k := 68) (show ((0 : Nat) : Int) = 0 from rfl) (show ((0 : Nat) : Int) = 0 from rfl) (show ((0 : Nat) : Int) = 0 from rfl)) (congrArg i3 ((hZ161A.1)))) (by omega) (by omega)) (decide_eq_false (by omega))) ?_
                      refine wz_i0 (Eq.trans (i3T (Eq.trans (zm_rd (Z := Z161) (ν := ν) (k := 68) (show ((0 : Nat) : Int) = 0 from rfl) (show ((0 : Nat) : Int) = 0 from rfl) (show ((0 : Nat) : Int) = 0 from rfl)) (congrArg i3 ((hZ161A.1)))) (by omega) (by omega)) (decide_eq_false (by omega))) ?_
                      refine wz_i0 (Eq.trans (i3T (Eq.trans (zm_rd (Z := Z161) (ν := ν) (k := 68) (show ((0 : Nat) : Int) = 0 from rfl) (show ((0 : Nat) : Int) = 0 from rfl) (show ((0 : Nat) : Int) = 0 from rfl)) (congrArg i3 ((hZ161A.1)))) (by omega) (by omega)) (decide_eq_false (by omega))) ?_
                      refine wz_i0 (Eq.trans (i3T (Eq.trans (zm_rd (Z := Z161) (ν := ν) (k := 68) (show ((0 : Nat) : Int) = 0 from rfl) (show ((0 : Nat) : Int) = 0 from rfl) (show ((0 : Nat) : Int) = 0 from rfl)) (congrArg i3 ((hZ161A.1)))) (by omega) (by omega)) (decide_eq_false (by omega))) ?_
                      refine wz_i0 (Eq.trans (i3T (Eq.trans (zm_rd (Z := Z161) (ν := ν) (k := 68) (show ((0 : Nat) : Int) = 0 from rfl) (show ((0 : Nat) : Int) = 0 from rfl) (show ((0 : Nat) : Int) = 0 from rfl)) (congrArg i3 ((hZ161A.1)))) (by omega) (by omega)) (decide_eq_false (by omega))) ?_
                      refine wz_i0 (Eq.trans (i3T (Eq.trans (zm_rd (Z := Z161) (ν := ν) (k := 68) (show ((0 : Nat) : Int) = 0 from rfl) (show ((0 : Nat) : Int) = 0 from rfl) (show ((0 : Nat) : Int) = 0 from rfl)) (congrArg i3 ((hZ161A.1)))) (by omega) (by omega)) (decide_eq_false (by omega))) ?_
                      refine wz_i0 (Eq.trans (i3T (Eq.trans (zm_rd (Z := Z161) (ν := ν) (k := 68) (show ((0 : Nat) : Int) = 0 from rfl) (show ((0 : Nat) : Int) = 0 from rfl) (show ((0 : Nat) : Int) = 0 from rfl)) (congrArg i3 ((hZ161A.1)))) (by omega) (by omega)) (decide_eq_false (by omega))) ?_
                      refine wz_i0 (Eq.trans (i3T (Eq.trans (zm_rd (Z := Z161) (ν := ν) (k := 68) (show ((0 : Nat) : Int) = 0 from rfl) (show ((0 : Nat) : Int) = 0 from rfl) (show ((0 : Nat) : Int) = 0 from rfl)) (congrArg i3 ((hZ161A.1)))) (by omega) (by omega)) (decide_eq_false (by omega))) ?_
                      refine wz_i0 (Eq.trans (i3T (Eq.trans (zm_rd (Z := Z161) (ν := ν) (k := 68) (show ((0 : Nat) : Int) = 0 from rfl) (show ((0 : Nat) : Int) = 0 from rfl) (show ((0 : Nat) : Int) = 0 from rfl)) (congrArg i3 ((hZ161A.1)))) (by omega) (by omega)) (decide_eq_false (by omega))) ?_
                      refine wz_i1 (Eq.trans (i3T (Eq.trans (zm_rd (Z := Z161) (ν := ν) (k := 68) (show ((0 : Nat) : Int) = 0 from rfl) (show ((0 : Nat) : Int) = 0 from rfl) (show ((0 : Nat) : Int) = 0 from rfl)) (congrArg i3 ((hZ161A.1)))) (by omega) (by omega)) (decide_eq_true (by omega))) ?_
                      refine wz_i1 rfl ?_
                      refine wz_i0 (i3O (n := 7) (show (1 : Int32) = i3 1 from rfl) (by omega) (by omega) (by omega)) ?_
                      refine wz_i1 rfl ?_
                      refine wz_i0 (i3O (n := 7) (show (2 : Int32) = i3 2 from rfl) (by omega) (by omega) (by omega)) ?_
                      refine wz_i0 (Eq.trans (i3NE (Eq.trans (zm_rd (Z := Z161) (ν := ν) (k := 68) (show ((0 : Nat) : Int) = 0 from rfl) (show ((0 : Nat) : Int) = 0 from rfl) (show ((2 : Nat) : Int) = 2 from rfl)) (congrArg i3 ((hZ161A.2.2.1)))) (show (-1 : Int32) = i3 (-1) from rfl) (by omega) (by omega) (by omega) (by omega)) (decide_eq_false (by omega))) ?_
                      refine wz_i0 (i3O (n := 48) (Eq.trans (zm_rd (Z := Z161) (ν := ν) (k := 68) (show ((0 : Nat) : Int) = 0 from rfl) (show ((0 : Nat) : Int) = 0 from rfl) (show ((1 : Nat) : Int) = 1 from rfl)) (congrArg i3 ((hZ161A.2.1)))) (by omega) (by omega) (by omega)) ?_
                      obtain ⟨Z162, hZ162, c9, hZ162I, kZ162, jZ162⟩ := sp_175 (ν := ν) hZ161I 0 0 _ (i3I (y := a1) (Eq.trans (zm_rd (Z := Z161) (ν := ν) (k := 68) (show ((0 : Nat) : Int) = 0 from rfl) (show ((0 : Nat) : Int) = 0 from rfl) (show ((1 : Nat) : Int) = 1 from rfl)) (congrArg i3 ((hZ161A.2.1)))) (by omega) (by omega) (by omega)) (by omega) (a2 := 6) (by omega) (zbh (c := 0) (k := 2) hM (Nat.le_of_ble_eq_true rfl))
                      have hZ162U : zU [0, 2, 3, 4, 5, 6, 7, 8, 9] Z Z162 := zU_t hZ161U jZ162 (zU_b1 (List.Mem.head _) (zU_b1 (List.Mem.head _) zU_b0))
                      have hZ162K : zC [3, 12, 13, 14, 40, 41, 42, 43, 44, 45, 46, 47, 48, 49, 50, 51, 52, 53, 54, 61, 68, 1099, 1100, 1101, 1102, 1103, 1104, 1105, 1106, 1107, 1108, 1109, 1110, 1111, 1112, 1113, 1114, 1115, 1116] Z Z162 := zC_t hZ161K kZ162 (by decide)
                      replace hP := zl_e hP hZ162
                      refine wz_cV_of (zas (zcons rfl (zcons rfl (zcons (zvi (show (6 : Int32) = i3 6 from rfl)) rfl))) c9) ?_
                      clear c9
                      obtain ⟨v163, hv163, c9, lv163, uv163⟩ := sp_182 (ν := ν) hZ162I 0 (a1 := 6) (by omega) (zbh (c := 2) (k := 0) hM (Nat.le_of_ble_eq_true rfl))
                      replace hP := zl_e hP hv163
                      refine wz_cI_of (zas (zcons rfl (zcons (zvi (show (6 : Int32) = i3 6 from rfl)) rfl)) c9) ?_
                      clear c9
                      exact zlG hP (i3S (show (12 : Int32) = i3 12 from rfl) (rfl : i3 v163 = i3 v163)) ⟨hZ162I, hZ162K, hZ162U, zG_w zG_r (Nat.le_of_ble_eq_true rfl) (Nat.le_of_ble_eq_true rfl)⟩
                  · replace hP := zE_n hP h158
                    refine wz_br (i3Le (zm_rd (Z := Z) (ν := ν) (k := 11) (show ((0 : Nat) : Int) = 0 from rfl) (show ((0 : Nat) : Int) = 0 from rfl) (show ((2 : Nat) : Int) = 2 from rfl)) (zm_rd (Z := Z) (ν := ν) (k := 44) (show ((0 : Nat) : Int) = 0 from rfl) (i3I (y := a1) (rfl : i3 a1 = i3 a1) (by omega) (by omega) (by omega)) (show ((12 : Nat) : Int) = 12 from rfl)) (by omega) (by omega) (by omega) (by omega)) (fun h164 => ?_) (fun h164 => ?_)
                    · replace hP := zE_p hP h164
                      refine wz_i1 (Eq.trans (i3Le (zm_rd (Z := Z) (ν := ν) (k := 11) (show ((0 : Nat) : Int) = 0 from rfl) (show ((0 : Nat) : Int) = 0 from rfl) (show ((2 : Nat) : Int) = 2 from rfl)) (show (6 : Int32) = i3 6 from rfl) (by omega) (by omega) (by omega) (by omega)) (decide_eq_true (by omega))) ?_
                      obtain ⟨v165, hv165, c9, lv165, uv165⟩ := sp_182 (ν := ν) hZ 0 (a1 := 6) (by omega) (zbh (c := 0) (k := 0) hM (Nat.le_of_ble_eq_true rfl))
                      replace hP := zl_e hP hv165
                      refine wz_cI_of (zas (zcons rfl (zcons (zvi (show (6 : Int32) = i3 6 from rfl)) rfl)) c9) ?_
                      clear c9
                      refine wz_br (i3Le (i3S (show (12 : Int32) = i3 12 from rfl) (rfl : i3 v165 = i3 v165)) (show (0 : Int32) = i3 0 from rfl) (by omega) (by omega) (by omega) (by omega)) (fun h166 => ?_) (fun h166 => ?_)
                      · replace hP := zE_p hP h166
                        refine wz_i1 (Eq.trans (i3NE (show (3 : Int32) = i3 3 from rfl) (show (1 : Int32) = i3 1 from rfl) (by omega) (by omega) (by omega) (by omega)) (decide_eq_true (by omega))) ?_
                        refine wz_i1 (Eq.trans (i3NE (show (3 : Int32) = i3 3 from rfl) (show (2 : Int32) = i3 2 from rfl) (by omega) (by omega) (by omega) (by omega)) (decide_eq_true (by omega))) ?_
                        refine wz_i0 (Eq.trans (i3NE (show (3 : Int32) = i3 3 from rfl) (show (3 : Int32) = i3 3 from rfl) (by omega) (by omega) (by omega) (by omega)) (decide_eq_false (by omega))) ?_
                        exact zlGe (E := 14) hP ⟨(zbw (a := 0) (c := 2) hZ (Nat.le_of_ble_eq_true rfl)), zC_r, zU_r, zG_w (zG_k rfl) (Nat.le_of_ble_eq_true rfl) (Nat.le_of_ble_eq_true rfl)⟩
                      · replace hP := zE_n hP h166
                        refine wz_i1 (Eq.trans (i3NE (show (0 : Int32) = i3 0 from rfl) (show (1 : Int32) = i3 1 from rfl) (by omega) (by omega) (by omega) (by omega)) (decide_eq_true (by omega))) ?_
                        refine wz_i1 (Eq.trans (i3NE (show (0 : Int32) = i3 0 from rfl) (show (2 : Int32) = i3 2 from rfl) (by omega) (by omega) (by omega) (by omega)) (decide_eq_true (by omega))) ?_
                        refine wz_i1 (Eq.trans (i3NE (show (0 : Int32) = i3 0 from rfl) (show (3 : Int32) = i3 3 from rfl) (by omega) (by omega) (by omega) (by omega)) (decide_eq_true (by omega))) ?_
                        refine dc_J (zcons rfl (zcons (zvi (show (8 : Int32) = i3 8 from rfl)) (zcons (zvi (rfl : i3 a1 = i3 a1)) (zcons (zvi (rfl : i3 a2 = i3 a2)) (zcons (zvi (show (0 : Int32) = i3 0 from rfl)) (zcons (zvi (show (0 : Int32) = i3 0 from rfl)) (zcons (zvi (show (0 : Int32) = i3 0 from rfl)) (zcons (zvi (show (0 : Int32) = i3 0 from rfl)) rfl)))))))) (dg (hZ).1 (by omega) (by omega) (by omega) (by omega) (by omega) (by omega) (by omega) ?_)
                        have hZ167I := zH_dd hZ (a1 := 8) (a2 := a1) (a3 := a2) (a4 := 0) (a5 := 0) (a6 := 0) (a7 := 0) (by omega) (by omega) (by omega) (by omega) (by omega) (by omega) (by omega)
                        have kZ167 : zC [3, 12, 13, 14, 40, 41, 42, 43, 44, 45, 46, 47, 48, 49, 50, 51, 52, 53, 54, 61, 68, 1099, 1100, 1101, 1102, 1103, 1104, 1105, 1106, 1107, 1108, 1109, 1110, 1111, 1112, 1113, 1114, 1115, 1116] Z (zdd Z 8 a1 a2 0 0 0 0) := zC_k zdd_K (by decide) (by decide)
                        have hZ167A : (zdd Z 8 a1 a2 0 0 0 0) 68 0 0 0 = 8 ∧ (zdd Z 8 a1 a2 0 0 0 0) 68 0 0 1 = a1 ∧ (zdd Z 8 a1 a2 0 0 0 0) 68 0 0 2 = a2 ∧ (zdd Z 8 a1 a2 0 0 0 0) 68 0 0 3 = 0 ∧ (zdd Z 8 a1 a2 0 0 0 0) 68 0 0 4 = 0 ∧ (zdd Z 8 a1 a2 0 0 0 0) 68 0 0 5 = 0 ∧ (zdd Z 8 a1 a2 0 0 0 0) 68 0 0 6 = 0 := ⟨zdd_68, zdd_68, zdd_68, zdd_68, zdd_68, zdd_68, zdd_68⟩
                        obtain ⟨Z167, hZ167⟩ := zx (zdd Z 8 a1 a2 0 0 0 0)
                        have dZ167 : ∀ {k : Nat} {i j : Int}, zhall k = true → ¬ (k = 11 ∧ (j = 15 ∨ j = 16)) → Z167 k 0 i j = Z k 0 i j := fun hk hj => by rw [hZ167]; exact zdd_h (hZ).1 hk hj
                        have jZ167 : zU [0, 2, 3, 4, 5, 6, 7, 8, 9] Z (zdd Z 8 a1 a2 0 0 0 0) := zU_dd (hZ).1
                        rw [← hZ167] at hZ167I kZ167 jZ167 hZ167A ⊢
                        have hZ167U : zU [0, 2, 3, 4, 5, 6, 7, 8, 9] Z Z167 := zU_t zU_r jZ167 (zU_b1 (List.Mem.head _) (zU_b1 (List.Mem.tail _ (List.Mem.head _)) (zU_b1 (List.Mem.tail _ (List.Mem.tail _ (List.Mem.head _))) (zU_b1 (List.Mem.tail _ (List.Mem.tail _ (List.Mem.tail _ (List.Mem.head _)))) (zU_b1 (List.Mem.tail _ (List.Mem.tail _ (List.Mem.tail _ (List.Mem.tail _ (List.Mem.head _))))) (zU_b1 (List.Mem.tail _ (List.Mem.tail _ (List.Mem.tail _ (List.Mem.tail _ (List.Mem.tail _ (List.Mem.head _)))))) (zU_b1 (List.Mem.tail _ (List.Mem.tail _ (List.Mem.tail _ (List.Mem.tail _ (List.Mem.tail _ (List.Mem.tail _ (List.Mem.head _))))))) (zU_b1 (List.Mem.tail _ (List.Mem.tail _ (List.Mem.tail _ (List.Mem.tail _ (List.Mem.tail _ (List.Mem.tail _ (List.Mem.tail _ (List.Mem.head _)))))))) (zU_b1 (List.Mem.tail _ (List.Mem.tail _ (List.Mem.tail _ (List.Mem.tail _ (List.Mem.tail _ (List.Mem.tail _ (List.Mem.tail _ (List.Mem.tail _ (List.Mem.head _))))))))) zU_b0)))))))))
                        replace hP := zl_e hP hZ167
                        have hZ167K : zC [3, 12, 13, 14, 40, 41, 42, 43, 44, 45, 46, 47, 48, 49, 50, 51, 52, 53, 54, 61, 68, 1099, 1100, 1101, 1102, 1103, 1104, 1105, 1106, 1107, 1108, 1109, 1110, 1111, 1112, 1113, 1114, 1115, 1116] Z Z167 := zC_t zC_r kZ167 (by decide)
                        clear kZ167 hZ167
                        refine fw_121 _ _ _ _ ?_
                        refine wz_i1 rfl ?_
                        refine wz_i0 (i3O (n := 7) (show (0 : Int32) = i3 0 from rfl) (by omega) (by omega) (by omega)) ?_
                        refine wz_i0 (Eq.trans (i3To (Eq.trans (zm_rd (Z := Z167) (ν := ν) (k := 68) (show ((0 : Nat) : Int) = 0 from rfl) (show ((0 : Nat) : Int) = 0 from rfl) (show ((0 : Nat) : Int) = 0 from rfl)) (congrArg i3 ((hZ167A.1)))) (by omega) (by omega)) (decide_eq_false (by omega))) ?_
                        refine wz_i0 (Eq.trans (i3T (Eq.trans (zm_rd (Z := Z167) (ν := ν) (k := 68) (show ((0 : Nat) : Int) = 0 from rfl) (show ((0 : Nat) : Int) = 0 from rfl) (show ((0 : Nat) : Int) = 0 from rfl)) (congrArg i3 ((hZ167A.1)))) (by omega) (by omega)) (decide_eq_false (by omega))) ?_
                        refine wz_i0 (Eq.trans (i3T (Eq.trans (zm_rd (Z := Z167) (ν := ν) (k := 68) (show ((0 : Nat) : Int) = 0 from rfl) (show ((0 : Nat) : Int) = 0 from rfl) (show ((0 : Nat) : Int) = 0 from rfl)) (congrArg i3 ((hZ167A.1)))) (by omega) (by omega)) (decide_eq_false (by omega))) ?_
                        refine wz_i0 (Eq.trans (i3T (Eq.trans (zm_rd (Z := Z167) (ν := ν) (k := 68) (show ((0 : Nat) : Int) = 0 from rfl) (show ((0 : Nat) : Int) = 0 from rfl) (show ((0 : Nat) : Int) = 0 from rfl)) (congrArg i3 ((hZ167A.1)))) (by omega) (by omega)) (decide_eq_false (by omega))) ?_
                        refine wz_i0 (Eq.trans (i3T (Eq.trans (zm_rd (Z := Z167) (ν := ν) (k := 68) (show ((0 : Nat) : Int) = 0 from rfl) (show ((0 : Nat) : Int) = 0 from rfl) (show ((0 : Nat) : Int) = 0 from rfl)) (congrArg i3 ((hZ167A.1)))) (by omega) (by omega)) (decide_eq_false (by omega))) ?_
                        refine wz_i0 (Eq.trans (i3T (Eq.trans (zm_rd (Z := Z167) (ν := ν) (k := 68) (show ((0 : Nat) : Int) = 0 from rfl) (show ((0 : Nat) : Int) = 0 from rfl) (show ((0 : Nat) : Int) = 0 from rfl)) (congrArg i3 ((hZ167A.1)))) (by omega) (by omega)) (decide_eq_false (by omega))) ?_
                        refine wz_i0 (Eq.trans (i3T (Eq.trans (zm_rd (Z := Z167) (ν := ν) (k := 68) (show ((0 : Nat) : Int) = 0 from rfl) (show ((0 : Nat) : Int) = 0 from rfl) (show ((0 : Nat) : Int) = 0 from rfl)) (congrArg i3 ((hZ167A.1)))) (by omega) (by omega)) (decide_eq_false (by omega))) ?_
                        refine wz_i0 (Eq.trans (i3T (Eq.trans (zm_rd (Z := Z167) (ν := ν) (k := 68) (show ((0 : Nat) : Int) = 0 from rfl) (show ((0 : Nat) : Int) = 0 from rfl) (show ((0 : Nat) : Int) = 0 from rfl)) (congrArg i3 ((hZ167A.1)))) (by omega) (by omega)) (decide_eq_false (by omega))) ?_
                        refine wz_i0 (Eq.trans (i3T (Eq.trans (zm_rd (Z := Z167) (ν := ν) (k := 68) (show ((0 : Nat) : Int) = 0 from rfl) (show ((0 : Nat) : Int) = 0 from rfl) (show ((0 : Nat) : Int) = 0 from rfl)) (congrArg i3 ((hZ167A.1)))) (by omega) (by omega)) (decide_eq_false (by omega))) ?_
                        refine wz_i1 (Eq.trans (i3T (Eq.trans (zm_rd (Z := Z167) (ν := ν) (k := 68) (show ((0 : Nat) : Int) = 0 from rfl) (show ((0 : Nat) : Int) = 0 from rfl) (show ((0 : Nat) : Int) = 0 from rfl)) (congrArg i3 ((hZ167A.1)))) (by omega) (by omega)) (decide_eq_true (by omega))) ?_
                        refine wz_i1 rfl ?_
                        refine wz_i0 (i3O (n := 7) (show (1 : Int32) = i3 1 from rfl) (by omega) (by omega) (by omega)) ?_
                        refine wz_i1 rfl ?_
                        refine wz_i0 (i3O (n := 7) (show (2 : Int32) = i3 2 from rfl) (by omega) (by omega) (by omega)) ?_
                        refine wz_i0 (Eq.trans (i3NE (Eq.trans (zm_rd (Z := Z167) (ν := ν) (k := 68) (show ((0 : Nat) : Int) = 0 from rfl) (show ((0 : Nat) : Int) = 0 from rfl) (show ((2 : Nat) : Int) = 2 from rfl)) (congrArg i3 ((hZ167A.2.2.1)))) (show (-1 : Int32) = i3 (-1) from rfl) (by omega) (by omega) (by omega) (by omega)) (decide_eq_false (by omega))) ?_
                        refine wz_i0 (i3O (n := 48) (Eq.trans (zm_rd (Z := Z167) (ν := ν) (k := 68) (show ((0 : Nat) : Int) = 0 from rfl) (show ((0 : Nat) : Int) = 0 from rfl) (show ((1 : Nat) : Int) = 1 from rfl)) (congrArg i3 ((hZ167A.2.1)))) (by omega) (by omega) (by omega)) ?_
                        obtain ⟨Z168, hZ168, c9, hZ168I, kZ168, jZ168⟩ := sp_175 (ν := ν) hZ167I 0 0 _ (i3I (y := a1) (Eq.trans (zm_rd (Z := Z167) (ν := ν) (k := 68) (show ((0 : Nat) : Int) = 0 from rfl) (show ((0 : Nat) : Int) = 0 from rfl) (show ((1 : Nat) : Int) = 1 from rfl)) (congrArg i3 ((hZ167A.2.1)))) (by omega) (by omega) (by omega)) (by omega) (a2 := 6) (by omega) (zbh (c := 0) (k := 2) hM (Nat.le_of_ble_eq_true rfl))
                        have hZ168U : zU [0, 2, 3, 4, 5, 6, 7, 8, 9] Z Z168 := zU_t hZ167U jZ168 (zU_b1 (List.Mem.head _) (zU_b1 (List.Mem.head _) zU_b0))
                        have hZ168K : zC [3, 12, 13, 14, 40, 41, 42, 43, 44, 45, 46, 47, 48, 49, 50, 51, 52, 53, 54, 61, 68, 1099, 1100, 1101, 1102, 1103, 1104, 1105, 1106, 1107, 1108, 1109, 1110, 1111, 1112, 1113, 1114, 1115, 1116] Z Z168 := zC_t hZ167K kZ168 (by decide)
                        replace hP := zl_e hP hZ168
                        refine wz_cV_of (zas (zcons rfl (zcons rfl (zcons (zvi (show (6 : Int32) = i3 6 from rfl)) rfl))) c9) ?_
                        clear c9
                        obtain ⟨v169, hv169, c9, lv169, uv169⟩ := sp_182 (ν := ν) hZ168I 0 (a1 := 6) (by omega) (zbh (c := 2) (k := 0) hM (Nat.le_of_ble_eq_true rfl))
                        replace hP := zl_e hP hv169
                        refine wz_cI_of (zas (zcons rfl (zcons (zvi (show (6 : Int32) = i3 6 from rfl)) rfl)) c9) ?_
                        clear c9
                        exact zlG hP (i3S (show (12 : Int32) = i3 12 from rfl) (rfl : i3 v169 = i3 v169)) ⟨hZ168I, hZ168K, hZ168U, zG_w zG_r (Nat.le_of_ble_eq_true rfl) (Nat.le_of_ble_eq_true rfl)⟩
                    · replace hP := zE_n hP h164
                      refine wz_i0 (i3O (n := 6) (zm_rd (Z := Z) (ν := ν) (k := 44) (show ((0 : Nat) : Int) = 0 from rfl) (i3I (y := a1) (rfl : i3 a1 = i3 a1) (by omega) (by omega) (by omega)) (show ((12 : Nat) : Int) = 12 from rfl)) (by omega) (by omega) (by omega)) ?_
                      have r170 := zH_k hZ 43 0 (Z 44 0 a1 12) 10 (lo := -1) (hi := 695) (by decide) rfl
                      have r171 := zH_k hZ 11 0 0 13 (lo := 0) (hi := 671) (by decide) rfl
                      refine wz_br (i3Le (zm_rd (Z := Z) (ν := ν) (k := 43) (show ((0 : Nat) : Int) = 0 from rfl) (i3I (y := (Z 44 0 a1 12)) (zm_rd (Z := Z) (ν := ν) (k := 44) (show ((0 : Nat) : Int) = 0 from rfl) (i3I (y := a1) (rfl : i3 a1 = i3 a1) (by omega) (by omega) (by omega)) (show ((12 : Nat) : Int) = 12 from rfl)) (by omega) (by omega) (by omega)) (show ((10 : Nat) : Int) = 10 from rfl)) (zm_rd (Z := Z) (ν := ν) (k := 11) (show ((0 : Nat) : Int) = 0 from rfl) (show ((0 : Nat) : Int) = 0 from rfl) (show ((13 : Nat) : Int) = 13 from rfl)) (by omega) (by omega) (by omega) (by omega)) (fun h172 => ?_) (fun h172 => ?_)
                      · replace hP := zE_p hP h172
                        refine wz_i1 (Eq.trans (i3Le (zm_rd (Z := Z) (ν := ν) (k := 11) (show ((0 : Nat) : Int) = 0 from rfl) (show ((0 : Nat) : Int) = 0 from rfl) (show ((2 : Nat) : Int) = 2 from rfl)) (show (6 : Int32) = i3 6 from rfl) (by omega) (by omega) (by omega) (by omega)) (decide_eq_true (by omega))) ?_
                        obtain ⟨v173, hv173, c9, lv173, uv173⟩ := sp_182 (ν := ν) hZ 0 (a1 := 6) (by omega) (zbh (c := 0) (k := 0) hM (Nat.le_of_ble_eq_true rfl))
                        replace hP := zl_e hP hv173
                        refine wz_cI_of (zas (zcons rfl (zcons (zvi (show (6 : Int32) = i3 6 from rfl)) rfl)) c9) ?_
                        clear c9
                        refine wz_br (i3Le (i3S (show (12 : Int32) = i3 12 from rfl) (rfl : i3 v173 = i3 v173)) (show (0 : Int32) = i3 0 from rfl) (by omega) (by omega) (by omega) (by omega)) (fun h174 => ?_) (fun h174 => ?_)
                        · replace hP := zE_p hP h174
                          refine wz_i1 (Eq.trans (i3NE (show (3 : Int32) = i3 3 from rfl) (show (1 : Int32) = i3 1 from rfl) (by omega) (by omega) (by omega) (by omega)) (decide_eq_true (by omega))) ?_
                          refine wz_i1 (Eq.trans (i3NE (show (3 : Int32) = i3 3 from rfl) (show (2 : Int32) = i3 2 from rfl) (by omega) (by omega) (by omega) (by omega)) (decide_eq_true (by omega))) ?_
                          refine wz_i0 (Eq.trans (i3NE (show (3 : Int32) = i3 3 from rfl) (show (3 : Int32) = i3 3 from rfl) (by omega) (by omega) (by omega) (by omega)) (decide_eq_false (by omega))) ?_
                          exact zlGe (E := 14) hP ⟨(zbw (a := 0) (c := 2) hZ (Nat.le_of_ble_eq_true rfl)), zC_r, zU_r, zG_w (zG_k rfl) (Nat.le_of_ble_eq_true rfl) (Nat.le_of_ble_eq_true rfl)⟩
                        · replace hP := zE_n hP h174
                          refine wz_i1 (Eq.trans (i3NE (show (0 : Int32) = i3 0 from rfl) (show (1 : Int32) = i3 1 from rfl) (by omega) (by omega) (by omega) (by omega)) (decide_eq_true (by omega))) ?_
                          refine wz_i1 (Eq.trans (i3NE (show (0 : Int32) = i3 0 from rfl) (show (2 : Int32) = i3 2 from rfl) (by omega) (by omega) (by omega) (by omega)) (decide_eq_true (by omega))) ?_
                          refine wz_i1 (Eq.trans (i3NE (show (0 : Int32) = i3 0 from rfl) (show (3 : Int32) = i3 3 from rfl) (by omega) (by omega) (by omega) (by omega)) (decide_eq_true (by omega))) ?_
                          refine dc_J (zcons rfl (zcons (zvi (show (8 : Int32) = i3 8 from rfl)) (zcons (zvi (rfl : i3 a1 = i3 a1)) (zcons (zvi (rfl : i3 a2 = i3 a2)) (zcons (zvi (show (0 : Int32) = i3 0 from rfl)) (zcons (zvi (show (0 : Int32) = i3 0 from rfl)) (zcons (zvi (show (0 : Int32) = i3 0 from rfl)) (zcons (zvi (show (0 : Int32) = i3 0 from rfl)) rfl)))))))) (dg (hZ).1 (by omega) (by omega) (by omega) (by omega) (by omega) (by omega) (by omega) ?_)
                          have hZ175I := zH_dd hZ (a1 := 8) (a2 := a1) (a3 := a2) (a4 := 0) (a5 := 0) (a6 := 0) (a7 := 0) (by omega) (by omega) (by omega) (by omega) (by omega) (by omega) (by omega)
                          have kZ175 : zC [3, 12, 13, 14, 40, 41, 42, 43, 44, 45, 46, 47, 48, 49, 50, 51, 52, 53, 54, 61, 68, 1099, 1100, 1101, 1102, 1103, 1104, 1105, 1106, 1107, 1108, 1109, 1110, 1111, 1112, 1113, 1114, 1115, 1116] Z (zdd Z 8 a1 a2 0 0 0 0) := zC_k zdd_K (by decide) (by decide)
                          have hZ175A : (zdd Z 8 a1 a2 0 0 0 0) 68 0 0 0 = 8 ∧ (zdd Z 8 a1 a2 0 0 0 0) 68 0 0 1 = a1 ∧ (zdd Z 8 a1 a2 0 0 0 0) 68 0 0 2 = a2 ∧ (zdd Z 8 a1 a2 0 0 0 0) 68 0 0 3 = 0 ∧ (zdd Z 8 a1 a2 0 0 0 0) 68 0 0 4 = 0 ∧ (zdd Z 8 a1 a2 0 0 0 0) 68 0 0 5 = 0 ∧ (zdd Z 8 a1 a2 0 0 0 0) 68 0 0 6 = 0 := ⟨zdd_68, zdd_68, zdd_68, zdd_68, zdd_68, zdd_68, zdd_68⟩
                          obtain ⟨Z175, hZ175⟩ := zx (zdd Z 8 a1 a2 0 0 0 0)
                          have dZ175 : ∀ {k : Nat} {i j : Int}, zhall k = true → ¬ (k = 11 ∧ (j = 15 ∨ j = 16)) → Z175 k 0 i j = Z k 0 i j := fun hk hj => by rw [hZ175]; exact zdd_h (hZ).1 hk hj
                          have jZ175 : zU [0, 2, 3, 4, 5, 6, 7, 8, 9] Z (zdd Z 8 a1 a2 0 0 0 0) := zU_dd (hZ).1
                          rw [← hZ175] at hZ175I kZ175 jZ175 hZ175A ⊢
                          have hZ175U : zU [0, 2, 3, 4, 5, 6, 7, 8, 9] Z Z175 := zU_t zU_r jZ175 (zU_b1 (List.Mem.head _) (zU_b1 (List.Mem.tail _ (List.Mem.head _)) (zU_b1 (List.Mem.tail _ (List.Mem.tail _ (List.Mem.head _))) (zU_b1 (List.Mem.tail _ (List.Mem.tail _ (List.Mem.tail _ (List.Mem.head _)))) (zU_b1 (List.Mem.tail _ (List.Mem.tail _ (List.Mem.tail _ (List.Mem.tail _ (List.Mem.head _))))) (zU_b1 (List.Mem.tail _ (List.Mem.tail _ (List.Mem.tail _ (List.Mem.tail _ (List.Mem.tail _ (List.Mem.head _)))))) (zU_b1 (List.Mem.tail _ (List.Mem.tail _ (List.Mem.tail _ (List.Mem.tail _ (List.Mem.tail _ (List.Mem.tail _ (List.Mem.head _))))))) (zU_b1 (List.Mem.tail _ (List.Mem.tail _ (List.Mem.tail _ (List.Mem.tail _ (List.Mem.tail _ (List.Mem.tail _ (List.Mem.tail _ (List.Mem.head _)))))))) (zU_b1 (List.Mem.tail _ (List.Mem.tail _ (List.Mem.tail _ (List.Mem.tail _ (List.Mem.tail _ (List.Mem.tail _ (List.Mem.tail _ (List.Mem.tail _ (List.Mem.head _))))))))) zU_b0)))))))))
                          replace hP := zl_e hP hZ175
                          have hZ175K : zC [3, 12, 13, 14, 40, 41, 42, 43, 44, 45, 46, 47, 48, 49, 50, 51, 52, 53, 54, 61, 68, 1099, 1100, 1101, 1102, 1103, 1104, 1105, 1106, 1107, 1108, 1109, 1110, 1111, 1112, 1113, 1114, 1115, 1116] Z Z175 := zC_t zC_r kZ175 (by decide)
                          clear kZ175 hZ175
                          refine fw_121 _ _ _ _ ?_
                          refine wz_i1 rfl ?_
                          refine wz_i0 (i3O (n := 7) (show (0 : Int32) = i3 0 from rfl) (by omega) (by omega) (by omega)) ?_
                          refine wz_i0 (Eq.trans (i3To (Eq.trans (zm_rd (Z := Z175) (ν := ν) (k := 68) (show ((0 : Nat) : Int) = 0 from rfl) (show ((0 : Nat) : Int) = 0 from rfl) (show ((0 : Nat) : Int) = 0 from rfl)) (congrArg i3 ((hZ175A.1)))) (by omega) (by omega)) (decide_eq_false (by omega))) ?_
                          refine wz_i0 (Eq.trans (i3T (Eq.trans (zm_rd (Z := Z175) (ν := ν) (k := 68) (show ((0 : Nat) : Int) = 0 from rfl) (show ((0 : Nat) : Int) = 0 from rfl) (show ((0 : Nat) : Int) = 0 from rfl)) (congrArg i3 ((hZ175A.1)))) (by omega) (by omega)) (decide_eq_false (by omega))) ?_
                          refine wz_i0 (Eq.trans (i3T (Eq.trans (zm_rd (Z := Z175) (ν := ν) (k := 68) (show ((0 : Nat) : Int) = 0 from rfl) (show ((0 : Nat) : Int) = 0 from rfl) (show ((0 : Nat) : Int) = 0 from rfl)) (congrArg i3 ((hZ175A.1)))) (by omega) (by omega)) (decide_eq_false (by omega))) ?_
                          refine wz_i0 (Eq.trans (i3T (Eq.trans (zm_rd (Z := Z175) (ν := ν) (k := 68) (show ((0 : Nat) : Int) = 0 from rfl) (show ((0 : Nat) : Int) = 0 from rfl) (show ((0 : Nat) : Int) = 0 from rfl)) (congrArg i3 ((hZ175A.1)))) (by omega) (by omega)) (decide_eq_false (by omega))) ?_
                          refine wz_i0 (Eq.trans (i3T (Eq.trans (zm_rd (Z := Z175) (ν := ν) (k := 68) (show ((0 : Nat) : Int) = 0 from rfl) (show ((0 : Nat) : Int) = 0 from rfl) (show ((0 : Nat) : Int) = 0 from rfl)) (congrArg i3 ((hZ175A.1)))) (by omega) (by omega)) (decide_eq_false (by omega))) ?_
                          refine wz_i0 (Eq.trans (i3T (Eq.trans (zm_rd (Z := Z175) (ν := ν) (k := 68) (show ((0 : Nat) : Int) = 0 from rfl) (show ((0 : Nat) : Int) = 0 from rfl) (show ((0 : Nat) : Int) = 0 from rfl)) (congrArg i3 ((hZ175A.1)))) (by omega) (by omega)) (decide_eq_false (by omega))) ?_
                          refine wz_i0 (Eq.trans (i3T (Eq.trans (zm_rd (Z := Z175) (ν := ν) (k := 68) (show ((0 : Nat) : Int) = 0 from rfl) (show ((0 : Nat) : Int) = 0 from rfl) (show ((0 : Nat) : Int) = 0 from rfl)) (congrArg i3 ((hZ175A.1)))) (by omega) (by omega)) (decide_eq_false (by omega))) ?_
                          refine wz_i0 (Eq.trans (i3T (Eq.trans (zm_rd (Z := Z175) (ν := ν) (k := 68) (show ((0 : Nat) : Int) = 0 from rfl) (show ((0 : Nat) : Int) = 0 from rfl) (show ((0 : Nat) : Int) = 0 from rfl)) (congrArg i3 ((hZ175A.1)))) (by omega) (by omega)) (decide_eq_false (by omega))) ?_
                          refine wz_i0 (Eq.trans (i3T (Eq.trans (zm_rd (Z := Z175) (ν := ν) (k := 68) (show ((0 : Nat) : Int) = 0 from rfl) (show ((0 : Nat) : Int) = 0 from rfl) (show ((0 : Nat) : Int) = 0 from rfl)) (congrArg i3 ((hZ175A.1)))) (by omega) (by omega)) (decide_eq_false (by omega))) ?_
                          refine wz_i1 (Eq.trans (i3T (Eq.trans (zm_rd (Z := Z175) (ν := ν) (k := 68) (show ((0 : Nat) : Int) = 0 from rfl) (show ((0 : Nat) : Int) = 0 from rfl) (show ((0 : Nat) : Int) = 0 from rfl)) (congrArg i3 ((hZ175A.1)))) (by omega) (by omega)) (decide_eq_true (by omega))) ?_
                          refine wz_i1 rfl ?_
                          refine wz_i0 (i3O (n := 7) (show (1 : Int32) = i3 1 from rfl) (by omega) (by omega) (by omega)) ?_
                          refine wz_i1 rfl ?_
                          refine wz_i0 (i3O (n := 7) (show (2 : Int32) = i3 2 from rfl) (by omega) (by omega) (by omega)) ?_
                          refine wz_i0 (Eq.trans (i3NE (Eq.trans (zm_rd (Z := Z175) (ν := ν) (k := 68) (show ((0 : Nat) : Int) = 0 from rfl) (show ((0 : Nat) : Int) = 0 from rfl) (show ((2 : Nat) : Int) = 2 from rfl)) (congrArg i3 ((hZ175A.2.2.1)))) (show (-1 : Int32) = i3 (-1) from rfl) (by omega) (by omega) (by omega) (by omega)) (decide_eq_false (by omega))) ?_
                          refine wz_i0 (i3O (n := 48) (Eq.trans (zm_rd (Z := Z175) (ν := ν) (k := 68) (show ((0 : Nat) : Int) = 0 from rfl) (show ((0 : Nat) : Int) = 0 from rfl) (show ((1 : Nat) : Int) = 1 from rfl)) (congrArg i3 ((hZ175A.2.1)))) (by omega) (by omega) (by omega)) ?_
                          obtain ⟨Z176, hZ176, c9, hZ176I, kZ176, jZ176⟩ := sp_175 (ν := ν) hZ175I 0 0 _ (i3I (y := a1) (Eq.trans (zm_rd (Z := Z175) (ν := ν) (k := 68) (show ((0 : Nat) : Int) = 0 from rfl) (show ((0 : Nat) : Int) = 0 from rfl) (show ((1 : Nat) : Int) = 1 from rfl)) (congrArg i3 ((hZ175A.2.1)))) (by omega) (by omega) (by omega)) (by omega) (a2 := 6) (by omega) (zbh (c := 0) (k := 2) hM (Nat.le_of_ble_eq_true rfl))
                          have hZ176U : zU [0, 2, 3, 4, 5, 6, 7, 8, 9] Z Z176 := zU_t hZ175U jZ176 (zU_b1 (List.Mem.head _) (zU_b1 (List.Mem.head _) zU_b0))
                          have hZ176K : zC [3, 12, 13, 14, 40, 41, 42, 43, 44, 45, 46, 47, 48, 49, 50, 51, 52, 53, 54, 61, 68, 1099, 1100, 1101, 1102, 1103, 1104, 1105, 1106, 1107, 1108, 1109, 1110, 1111, 1112, 1113, 1114, 1115, 1116] Z Z176 := zC_t hZ175K kZ176 (by decide)
                          replace hP := zl_e hP hZ176
                          refine wz_cV_of (zas (zcons rfl (zcons rfl (zcons (zvi (show (6 : Int32) = i3 6 from rfl)) rfl))) c9) ?_
                          clear c9
                          obtain ⟨v177, hv177, c9, lv177, uv177⟩ := sp_182 (ν := ν) hZ176I 0 (a1 := 6) (by omega) (zbh (c := 2) (k := 0) hM (Nat.le_of_ble_eq_true rfl))
                          replace hP := zl_e hP hv177
                          refine wz_cI_of (zas (zcons rfl (zcons (zvi (show (6 : Int32) = i3 6 from rfl)) rfl)) c9) ?_
                          clear c9
                          exact zlG hP (i3S (show (12 : Int32) = i3 12 from rfl) (rfl : i3 v177 = i3 v177)) ⟨hZ176I, hZ176K, hZ176U, zG_w zG_r (Nat.le_of_ble_eq_true rfl) (Nat.le_of_ble_eq_true rfl)⟩
                      · replace hP := zE_n hP h172
                        refine wz_i1 (Eq.trans (i3NE (show (3 : Int32) = i3 3 from rfl) (show (1 : Int32) = i3 1 from rfl) (by omega) (by omega) (by omega) (by omega)) (decide_eq_true (by omega))) ?_
                        refine wz_i1 (Eq.trans (i3NE (show (3 : Int32) = i3 3 from rfl) (show (2 : Int32) = i3 2 from rfl) (by omega) (by omega) (by omega) (by omega)) (decide_eq_true (by omega))) ?_
                        refine wz_i0 (Eq.trans (i3NE (show (3 : Int32) = i3 3 from rfl) (show (3 : Int32) = i3 3 from rfl) (by omega) (by omega) (by omega) (by omega)) (decide_eq_false (by omega))) ?_
                        exact zlGe (E := 14) hP ⟨(zbw (a := 0) (c := 2) hZ (Nat.le_of_ble_eq_true rfl)), zC_r, zU_r, zG_w (zG_k rfl) (Nat.le_of_ble_eq_true rfl) (Nat.le_of_ble_eq_true rfl)⟩
        · replace hP := zE_n hP h6
          refine wz_i0 (Eq.trans (i3NE (show (1 : Int32) = i3 1 from rfl) (show (1 : Int32) = i3 1 from rfl) (by omega) (by omega) (by omega) (by omega)) (decide_eq_false (by omega))) ?_
          exact zlGe (E := 23) hP ⟨(zbw (a := 0) (c := 2) hZ (Nat.le_of_ble_eq_true rfl)), zC_r, zU_r, zG_w (zG_k rfl) (Nat.le_of_ble_eq_true rfl) (Nat.le_of_ble_eq_true rfl)⟩
/- yX0_canQuarrel -/
def zl_3_1 (x0b : Int) (x1 : Int) : Nat → qz_Z → Int → Int → Int × Int
  | 0, Z, x3, x4 => (x3, x4)
  | m + 1, Z, x3, x4 => (if (Z 11 x0b 0 10) ≤ x4 then (x3, x4) else (if (Z 54 x0b x4 0) = x1 then zl_3_1 x0b x1 m Z (z2 (fun x y => x &&& y) x3 0) (x4 + 1) else zl_3_1 x0b x1 m Z (z2 (fun x y => x &&& y) x3 1) (x4 + 1)))
theorem sl_3_1 {s : zSM} {Z : qz_Z} {ν : qz_N} (hZ : zH s Z) (hM : s.2 + 0 ≤ 1000000000) (x0b : Nat) {x1 : Int} (gx1 : 0 ≤ x1 ∧ x1 ≤ 59) {x3 : Int} (gx3 : 0 ≤ x3 ∧ x3 ≤ 1) {x4 : Int} (gx4 : 0 ≤ x4 ∧ x4 ≤ 12) (gr0 : x3 = 0 ∨ Z 11 x0b 0 10 < 12) {k : wz_K} {R : wz_R} {L : qz_L} (hL : qz_fg [true, true, false, true, true] L = [some (.inr (.inr (some (10, x0b, 0)))), some (.inl (i3 x1)), none, some (.inl (i3 x3)), some (.inl (i3 x4))]) {T : Int × Int} (hP : zE T (zl_3_1 x0b x1 ((12 - x4).toNat + 1) Z x3 x4)) (hk : ∀ (L9 : qz_L) (yx3 yx4 : Int), qz_fg [false, false, false, true, false] L9 = [none, none, none, some (.inl (i3 yx3)), none] → (0 ≤ yx3 ∧ yx3 ≤ 1) → (0 ≤ yx4 ∧ yx4 ≤ 12) → (yx3 = 0 ∨ Z 11 x0b 0 10 < 12) → zE T ((yx3, yx4)) → k 0 (L9, [], zm Z ν)) : wz_loop qb_3_1 65536 k R (L, [], zm Z ν) := by
  refine wz_lp sb_3_1 (fun m x => ∃ x3 : Int, ∃ x4 : Int, qz_fg [true, true, false, true, true] x.1 = [some (.inr (.inr (some (10, x0b, 0)))), some (.inl (i3 x1)), none, some (.inl (i3 x3)), some (.inl (i3 x4))] ∧ x.2 = ([], zm Z ν) ∧ m = (12 - x4).toNat ∧ (0 ≤ x3 ∧ x3 ≤ 1) ∧ (0 ≤ x4 ∧ x4 ≤ 12) ∧ (x3 = 0 ∨ Z 11 x0b 0 10 < 12) ∧ zE T (zl_3_1 x0b x1 (m + 1) Z x3 x4)) ?_ 65536 ((12 - x4).toNat) _ (by omega) ⟨x3, x4, hL, rfl, rfl, gx3, gx4, gr0, hP⟩
  clear hP gr0 gx3 gx4 hL
  clear x3 x4
  rintro m ⟨L, st, μ⟩ ⟨x3, x4, hL, hx, hm, gx3, gx4, gr0, hP⟩
  cases hx
  refine fb_3_1 x0b (i3 x1) (i3 x3) (i3 x4) _ _ _ _ hL ?_
  have r1 := zH_k hZ 11 x0b 0 10 (lo := 0) (hi := 12) (by decide) rfl
  refine wz_br (i3Le (zm_rd (Z := Z) (ν := ν) (k := 11) (rfl : ((x0b : Nat) : Int) = x0b) (show ((0 : Nat) : Int) = 0 from rfl) (show ((10 : Nat) : Int) = 10 from rfl)) (rfl : i3 x4 = i3 x4) (by omega) (by omega) (by omega) (by omega)) (fun h2 => ?_) (fun h2 => ?_)
  · replace hP := zE_p hP h2
    exact hk _ _ _ (zconso rfl (zconso rfl (zconso rfl (zconso (zvo (rfl : i3 x3 = i3 x3)) (zconso rfl rfl)))))  (by omega) (by omega) (by omega) hP
  · replace hP := zE_n hP h2
    refine wz_i0 (i3O (n := 12) (rfl : i3 x4 = i3 x4) (by omega) (by omega) (by omega)) ?_
    have r3 := zH_k hZ 54 x0b x4 0 (lo := 0) (hi := 59) (by decide) rfl
    refine wz_br (i3E (zm_rd (Z := Z) (ν := ν) (k := 54) (rfl : ((x0b : Nat) : Int) = x0b) (i3I (y := x4) (rfl : i3 x4 = i3 x4) (by omega) (by omega) (by omega)) (show ((0 : Nat) : Int) = 0 from rfl)) (rfl : i3 x1 = i3 x1) (by omega) (by omega) (by omega) (by omega)) (fun h4 => ?_) (fun h4 => ?_)
    · replace hP := zE_p hP h4
      have r5 := z2_r (fun x y => x &&& y) x3 0
      have r6 := z2_andl 0 (x := x3) (by omega) (by omega)
      have r7 := z2_and x3 (y := 0) (by omega) (by omega)
      obtain ⟨m2, rfl⟩ : ∃ m2, m = m2 + 1 := ⟨m - 1, by omega⟩
      exact wz_k1 ⟨m2, by omega, (z2 (fun x y => x &&& y) x3 0), (x4 + 1), (zconso rfl (zconso (zvo (rfl : i3 x1 = i3 x1)) (zconso rfl (zconso (zvo (i3Z (fun x y => x &&& y) (rfl : i3 x3 = i3 x3) (show (0 : Int32) = i3 0 from rfl))) (zconso (zvo (i3A (rfl : i3 x4 = i3 x4) (show (1 : Int32) = i3 1 from rfl))) rfl))))), rfl,  by omega, by omega, by omega, by omega,  hP⟩
    · replace hP := zE_n hP h4
      have r8 := z2_r (fun x y => x &&& y) x3 1
      have r9 := z2_andl 1 (x := x3) (by omega) (by omega)
      have r10 := z2_and x3 (y := 1) (by omega) (by omega)
      obtain ⟨m2, rfl⟩ : ∃ m2, m = m2 + 1 := ⟨m - 1, by omega⟩
      exact wz_k1 ⟨m2, by omega, (z2 (fun x y => x &&& y) x3 1), (x4 + 1), (zconso rfl (zconso (zvo (rfl : i3 x1 = i3 x1)) (zconso rfl (zconso (zvo (i3Z (fun x y => x &&& y) (rfl : i3 x3 = i3 x3) (show (1 : Int32) = i3 1 from rfl))) (zconso (zvo (i3A (rfl : i3 x4 = i3 x4) (show (1 : Int32) = i3 1 from rfl))) rfl))))), rfl,  by omega, by omega, by omega, by omega,  hP⟩
/- yX0_canQuarrel -/
def zf_3 (Z : qz_Z) (a0b : Int) (a1 : Int) : Int := (if (Z 47 a0b a1 9) ≠ 2 then (zlet2 (zl_3_1 a0b a1 13 Z 0 0) (fun y4 y5 => y4)) else (if 48 < ((Z 11 a0b 0 13) - (Z 47 a0b a1 17)) then (zlet2 (zl_3_1 a0b a1 13 Z 0 0) (fun y11 y12 => y11)) else (if 12 ≤ (Z 11 a0b 0 10) then (zlet2 (zl_3_1 a0b a1 13 Z 0 0) (fun y17 y18 => y17)) else (zlet2 (zl_3_1 a0b a1 13 Z 1 0) (fun y20 y21 => y20)))))
theorem sp_3 {s : zSM} {Z : qz_Z} {ν : qz_N} (hZ : zH s Z) (a0b : Nat) {a1 : Int} (ga1 : 0 ≤ a1 ∧ a1 ≤ 59) (hM : s.2 + 0 ≤ 1000000000) : ∃ P : Int, P = zf_3 Z a0b a1 ∧ (qf_3 [.inr (.inr (some (10, a0b, 0))), .inl (i3 a1)] (zm Z ν) = some (zm Z ν, .inl (some (.inl (i3 P)))) ∧ 0 ≤ P ∧ P ≤ 1 ∧ (P = 0 ∨ Z 11 a0b 0 10 < 12)) := by
  obtain ⟨P, hP⟩ := zx (zf_3 Z a0b a1)
  refine zc_R (Q := fun P => 0 ≤ P ∧ P ≤ 1 ∧ (P = 0 ∨ Z 11 a0b 0 10 < 12)) hP (fw_3 a0b (i3 a1) _ _ ?_)
  replace hP : zE P (zf_3 Z a0b a1) := hP
  unfold zf_3 at hP
  refine wz_i0 (i3O (n := 60) (rfl : i3 a1 = i3 a1) (by omega) (by omega) (by omega)) ?_
  have r1 := zH_k hZ 47 a0b a1 9 (lo := 0) (hi := 3) (by decide) rfl
  have r2 := zH_lt hZ a0b a1
  refine wz_br (i3NE (zm_rd (Z := Z) (ν := ν) (k := 47) (rfl : ((a0b : Nat) : Int) = a0b) (i3I (y := a1) (rfl : i3 a1 = i3 a1) (by omega) (by omega) (by omega)) (show ((9 : Nat) : Int) = 9 from rfl)) (show (2 : Int32) = i3 2 from rfl) (by omega) (by omega) (by omega) (by omega)) (fun h3 => ?_) (fun h3 => ?_)
  · replace hP := zE_p hP h3
    have r6 := zH_k hZ 11 a0b 0 10 (lo := 0) (hi := 12) (by decide) rfl
    refine sl_3_1 (ν := ν) hZ (zbh (c := 0) (k := 0) hM (Nat.le_of_ble_eq_true rfl)) a0b (x1 := a1) (by omega) (x3 := 0) (by omega) (x4 := 0) (by omega) (by omega) (zconso rfl (zconso (zvo (rfl : i3 a1 = i3 a1)) (zconso rfl (zconso (zvo (show (0 : Int32) = i3 0 from rfl)) (zconso (zvo (show (0 : Int32) = i3 0 from rfl)) rfl))))) rfl ?_
    intro L7 y4 y5 hL7 gy4 gy5 gL7_0 q9
    replace hP := zl_e2 hP (Eq.symm q9)
    clear q9
    refine fc_3_2 (i3 y4) _ _ _ _ hL7 ?_
    refine wz_i1 (i3B (rfl : i3 y4 = i3 y4) (by omega)) ?_
    exact zlR hP (rfl : i3 y4 = i3 y4) ⟨by omega, by omega, by omega⟩
  · replace hP := zE_n hP h3
    have r8 := zH_k hZ 11 a0b 0 13 (lo := 0) (hi := 671) (by decide) rfl
    have r9 := zH_k hZ 47 a0b a1 17 (lo := -1) (hi := 671) (by decide) rfl
    refine wz_br (i3L (show (48 : Int32) = i3 48 from rfl) (i3S (zm_rd (Z := Z) (ν := ν) (k := 11) (rfl : ((a0b : Nat) : Int) = a0b) (show ((0 : Nat) : Int) = 0 from rfl) (show ((13 : Nat) : Int) = 13 from rfl)) (zm_rd (Z := Z) (ν := ν) (k := 47) (rfl : ((a0b : Nat) : Int) = a0b) (i3I (y := a1) (rfl : i3 a1 = i3 a1) (by omega) (by omega) (by omega)) (show ((17 : Nat) : Int) = 17 from rfl))) (by omega) (by omega) (by omega) (by omega)) (fun h10 => ?_) (fun h10 => ?_)
    · replace hP := zE_p hP h10
      have r13 := zH_k hZ 11 a0b 0 10 (lo := 0) (hi := 12) (by decide) rfl
      refine sl_3_1 (ν := ν) hZ (zbh (c := 0) (k := 0) hM (Nat.le_of_ble_eq_true rfl)) a0b (x1 := a1) (by omega) (x3 := 0) (by omega) (x4 := 0) (by omega) (by omega) (zconso rfl (zconso (zvo (rfl : i3 a1 = i3 a1)) (zconso rfl (zconso (zvo (show (0 : Int32) = i3 0 from rfl)) (zconso (zvo (show (0 : Int32) = i3 0 from rfl)) rfl))))) rfl ?_
      intro L14 y11 y12 hL14 gy11 gy12 gL14_0 q9
      replace hP := zl_e2 hP (Eq.symm q9)
      clear q9
      refine fc_3_2 (i3 y11) _ _ _ _ hL14 ?_
      refine wz_i1 (i3B (rfl : i3 y11 = i3 y11) (by omega)) ?_
      exact zlR hP (rfl : i3 y11 = i3 y11) ⟨by omega, by omega, by omega⟩
    · replace hP := zE_n hP h10
      have r15 := zH_k hZ 11 a0b 0 10 (lo := 0) (hi := 12) (by decide) rfl
      refine wz_br (i3Le (show (12 : Int32) = i3 12 from rfl) (zm_rd (Z := Z) (ν := ν) (k := 11) (rfl : ((a0b : Nat) : Int) = a0b) (show ((0 : Nat) : Int) = 0 from rfl) (show ((10 : Nat) : Int) = 10 from rfl)) (by omega) (by omega) (by omega) (by omega)) (fun h16 => ?_) (fun h16 => ?_)
      · replace hP := zE_p hP h16
        refine sl_3_1 (ν := ν) hZ (zbh (c := 0) (k := 0) hM (Nat.le_of_ble_eq_true rfl)) a0b (x1 := a1) (by omega) (x3 := 0) (by omega) (x4 := 0) (by omega) (by omega) (zconso rfl (zconso (zvo (rfl : i3 a1 = i3 a1)) (zconso rfl (zconso (zvo (show (0 : Int32) = i3 0 from rfl)) (zconso (zvo (show (0 : Int32) = i3 0 from rfl)) rfl))))) rfl ?_
        intro L19 y17 y18 hL19 gy17 gy18 gL19_0 q9
        replace hP := zl_e2 hP (Eq.symm q9)
        clear q9
        refine fc_3_2 (i3 y17) _ _ _ _ hL19 ?_
        refine wz_i1 (i3B (rfl : i3 y17 = i3 y17) (by omega)) ?_
        exact zlR hP (rfl : i3 y17 = i3 y17) ⟨by omega, by omega, by omega⟩
      · replace hP := zE_n hP h16
        refine sl_3_1 (ν := ν) hZ (zbh (c := 0) (k := 0) hM (Nat.le_of_ble_eq_true rfl)) a0b (x1 := a1) (by omega) (x3 := 1) (by omega) (x4 := 0) (by omega) (by omega) (zconso rfl (zconso (zvo (rfl : i3 a1 = i3 a1)) (zconso rfl (zconso (zvo (show (1 : Int32) = i3 1 from rfl)) (zconso (zvo (show (0 : Int32) = i3 0 from rfl)) rfl))))) rfl ?_
        intro L22 y20 y21 hL22 gy20 gy21 gL22_0 q9
        replace hP := zl_e2 hP (Eq.symm q9)
        clear q9
        refine fc_3_2 (i3 y20) _ _ _ _ hL22 ?_
        refine wz_i1 (i3B (rfl : i3 y20 = i3 y20) (by omega)) ?_
        exact zlR hP (rfl : i3 y20 = i3 y20) ⟨by omega, by omega, by omega⟩
/- yX11_quarrel -/
def zx_231 (Z : qz_Z) (a1 : Int) (a2 : Int) : qz_Z × Int × Int := (if 0 ≤ a1 ∧ a1 < (Z 11 0 0 6) then (if 0 ≤ a2 ∧ a2 ≤ 3 then (zlet (zf_3 Z 0 a1) (fun v4 => (if v4 ≠ 0 then (zlet (zdd Z 25 a1 a2 0 0 0 0) (fun Z8 => (zlet (zu Z8 54 0 (Z8 11 0 0 10) 0 a1) (fun Z11 => (zlet (zu Z11 54 0 (Z8 11 0 0 10) 1 a2) (fun Z12 => (zlet (zu Z12 54 0 (Z8 11 0 0 10) 2 0) (fun Z13 => (zlet (zu Z13 54 0 (Z8 11 0 0 10) 7 (Z13 11 0 0 13)) (fun Z15 => (zlet (zu Z15 11 0 0 10 ((Z15 11 0 0 10) + 1)) (fun Z18 => (Z18, (Z15 11 0 0 10), 0))))))))))))) else (Z, 0, 15)))) else (Z, 0, 13)) else (Z, 0, 24))
theorem sx_231 {M : Nat} {Z : qz_Z} {ν : qz_N} (hZ : zH ((none, M) : zSM) Z) (hM : ((none, M) : zSM).2 + 0 ≤ 1000000000) {a1 : Int} (ga1 : -2147483648 ≤ a1 ∧ a1 ≤ 2147483647) {a2 : Int} (ga2 : -2147483648 ≤ a2 ∧ a2 ≤ 2147483647) : ∃ (Z1 : qz_Z) (ν1 : qz_N) (v E : Int), (Z1, v, E) = zx_231 Z a1 a2 ∧ qf_231 [.inr (.inr (some (0, 0, 0))), .inl (i3 a1), .inl (i3 a2)] (zm Z ν) = some (zm Z1 ν1, zoX v E) ∧ (fun Z1 ν1 => zH ((none, M) : zSM) Z1 ∧ zC [3, 12, 13, 14, 40, 41, 42, 43, 44, 45, 46, 47, 48, 49, 50, 51, 52, 53, 54, 61, 68, 1099, 1100, 1101, 1102, 1103, 1104, 1105, 1106, 1107, 1108, 1109, 1110, 1111, 1112, 1113, 1114, 1115, 1116] Z Z1 ∧ zU [0, 2, 3, 4, 5, 6, 7, 8, 9] Z Z1 ∧ zG 1 6 ν ν1) Z1 ν1 := by
  obtain ⟨P, hP⟩ := zx (zx_231 Z a1 a2)
  refine zc_G (Q := fun Z1 ν1 => zH ((none, M) : zSM) Z1 ∧ zC [3, 12, 13, 14, 40, 41, 42, 43, 44, 45, 46, 47, 48, 49, 50, 51, 52, 53, 54, 61, 68, 1099, 1100, 1101, 1102, 1103, 1104, 1105, 1106, 1107, 1108, 1109, 1110, 1111, 1112, 1113, 1114, 1115, 1116] Z Z1 ∧ zU [0, 2, 3, 4, 5, 6, 7, 8, 9] Z Z1 ∧ zG 1 6 ν ν1) hP (fw_231 (i3 a1) (i3 a2) _ _ ?_)
  replace hP : zE P (zx_231 Z a1 a2) := hP
  unfold zx_231 at hP
  have r1 := zH_k hZ 11 0 0 6 (lo := 0) (hi := 60) (by decide) rfl
  refine wz_thing (rfl : i3 a1 = i3 a1) (zm_rd (Z := Z) (ν := ν) (k := 11) (show ((0 : Nat) : Int) = 0 from rfl) (show ((0 : Nat) : Int) = 0 from rfl) (show ((6 : Nat) : Int) = 6 from rfl)) (by omega) (by omega) (by omega) (by omega) (fun h2 => ?_) (fun h2 => ?_)
  · replace hP := zE_p hP h2
    refine wz_inR (rfl : i3 a2 = i3 a2) (show (0 : Int32) = i3 0 from rfl) (show (3 : Int32) = i3 3 from rfl) (by omega) (by omega) (by omega) (by omega) (by omega) (by omega) (fun h3 => ?_) (fun h3 => ?_)
    · replace hP := zE_p hP h3
      obtain ⟨v4, hv4, c9, lv4, uv4, wv40⟩ := sp_3 (ν := ν) hZ 0 (a1 := a1) (by omega) (zbh (c := 0) (k := 0) hM (Nat.le_of_ble_eq_true rfl))
      replace hP := zl_e hP hv4
      refine wz_cI_of (zas (zcons rfl (zcons (zvi (rfl : i3 a1 = i3 a1)) rfl)) c9) ?_
      clear c9
      have r5 := zH_k hZ 11 0 0 10 (lo := 0) (hi := 12) (by decide) rfl
      have w6 : v4 = 0 ∨ Z 11 0 0 10 < 12 := wv40
      refine wz_inT (rfl : i3 v4 = i3 v4) (by omega) (by omega) (fun h7 => ?_) (fun h7 => ?_)
      · replace hP := zE_p hP h7
        refine dc_J (zcons rfl (zcons (zvi (show (25 : Int32) = i3 25 from rfl)) (zcons (zvi (rfl : i3 a1 = i3 a1)) (zcons (zvi (rfl : i3 a2 = i3 a2)) (zcons (zvi (show (0 : Int32) = i3 0 from rfl)) (zcons (zvi (show (0 : Int32) = i3 0 from rfl)) (zcons (zvi (show (0 : Int32) = i3 0 from rfl)) (zcons (zvi (show (0 : Int32) = i3 0 from rfl)) rfl)))))))) (dg (hZ).1 (by omega) (by omega) (by omega) (by omega) (by omega) (by omega) (by omega) ?_)
        have hZ8I := zH_dd hZ (a1 := 25) (a2 := a1) (a3 := a2) (a4 := 0) (a5 := 0) (a6 := 0) (a7 := 0) (by omega) (by omega) (by omega) (by omega) (by omega) (by omega) (by omega)
        have kZ8 : zC [3, 12, 13, 14, 40, 41, 42, 43, 44, 45, 46, 47, 48, 49, 50, 51, 52, 53, 54, 61, 68, 1099, 1100, 1101, 1102, 1103, 1104, 1105, 1106, 1107, 1108, 1109, 1110, 1111, 1112, 1113, 1114, 1115, 1116] Z (zdd Z 25 a1 a2 0 0 0 0) := zC_k zdd_K (by decide) (by decide)
        have hZ8A : (zdd Z 25 a1 a2 0 0 0 0) 68 0 0 0 = 25 ∧ (zdd Z 25 a1 a2 0 0 0 0) 68 0 0 1 = a1 ∧ (zdd Z 25 a1 a2 0 0 0 0) 68 0 0 2 = a2 ∧ (zdd Z 25 a1 a2 0 0 0 0) 68 0 0 3 = 0 ∧ (zdd Z 25 a1 a2 0 0 0 0) 68 0 0 4 = 0 ∧ (zdd Z 25 a1 a2 0 0 0 0) 68 0 0 5 = 0 ∧ (zdd Z 25 a1 a2 0 0 0 0) 68 0 0 6 = 0 := ⟨zdd_68, zdd_68, zdd_68, zdd_68, zdd_68, zdd_68, zdd_68⟩
        obtain ⟨Z8, hZ8⟩ := zx (zdd Z 25 a1 a2 0 0 0 0)
        have dZ8 : ∀ {k : Nat} {i j : Int}, zhall k = true → ¬ (k = 11 ∧ (j = 15 ∨ j = 16)) → Z8 k 0 i j = Z k 0 i j := fun hk hj => by rw [hZ8]; exact zdd_h (hZ).1 hk hj
        have jZ8 : zU [0, 2, 3, 4, 5, 6, 7, 8, 9] Z (zdd Z 25 a1 a2 0 0 0 0) := zU_dd (hZ).1
        rw [← hZ8] at hZ8I kZ8 jZ8 hZ8A ⊢
        have hZ8U : zU [0, 2, 3, 4, 5, 6, 7, 8, 9] Z Z8 := zU_t zU_r jZ8 (zU_b1 (List.Mem.head _) (zU_b1 (List.Mem.tail _ (List.Mem.head _)) (zU_b1 (List.Mem.tail _ (List.Mem.tail _ (List.Mem.head _))) (zU_b1 (List.Mem.tail _ (List.Mem.tail _ (List.Mem.tail _ (List.Mem.head _)))) (zU_b1 (List.Mem.tail _ (List.Mem.tail _ (List.Mem.tail _ (List.Mem.tail _ (List.Mem.head _))))) (zU_b1 (List.Mem.tail _ (List.Mem.tail _ (List.Mem.tail _ (List.Mem.tail _ (List.Mem.tail _ (List.Mem.head _)))))) (zU_b1 (List.Mem.tail _ (List.Mem.tail _ (List.Mem.tail _ (List.Mem.tail _ (List.Mem.tail _ (List.Mem.tail _ (List.Mem.head _))))))) (zU_b1 (List.Mem.tail _ (List.Mem.tail _ (List.Mem.tail _ (List.Mem.tail _ (List.Mem.tail _ (List.Mem.tail _ (List.Mem.tail _ (List.Mem.head _)))))))) (zU_b1 (List.Mem.tail _ (List.Mem.tail _ (List.Mem.tail _ (List.Mem.tail _ (List.Mem.tail _ (List.Mem.tail _ (List.Mem.tail _ (List.Mem.tail _ (List.Mem.head _))))))))) zU_b0)))))))))
        replace hP := zl_e hP hZ8
        have hZ8K : zC [3, 12, 13, 14, 40, 41, 42, 43, 44, 45, 46, 47, 48, 49, 50, 51, 52, 53, 54, 61, 68, 1099, 1100, 1101, 1102, 1103, 1104, 1105, 1106, 1107, 1108, 1109, 1110, 1111, 1112, 1113, 1114, 1115, 1116] Z Z8 := zC_t zC_r kZ8 (by decide)
        clear kZ8 hZ8
        refine fw_121 _ _ _ _ ?_
        refine wz_i1 rfl ?_
        refine wz_i0 (i3O (n := 7) (show (0 : Int32) = i3 0 from rfl) (by omega) (by omega) (by omega)) ?_
        refine wz_i0 (Eq.trans (i3To (Eq.trans (zm_rd (Z := Z8) (ν := ν) (k := 68) (show ((0 : Nat) : Int) = 0 from rfl) (show ((0 : Nat) : Int) = 0 from rfl) (show ((0 : Nat) : Int) = 0 from rfl)) (congrArg i3 ((hZ8A.1)))) (by omega) (by omega)) (decide_eq_false (by omega))) ?_
        refine wz_i0 (Eq.trans (i3T (Eq.trans (zm_rd (Z := Z8) (ν := ν) (k := 68) (show ((0 : Nat) : Int) = 0 from rfl) (show ((0 : Nat) : Int) = 0 from rfl) (show ((0 : Nat) : Int) = 0 from rfl)) (congrArg i3 ((hZ8A.1)))) (by omega) (by omega)) (decide_eq_false (by omega))) ?_
        refine wz_i0 (Eq.trans (i3T (Eq.trans (zm_rd (Z := Z8) (ν := ν) (k := 68) (show ((0 : Nat) : Int) = 0 from rfl) (show ((0 : Nat) : Int) = 0 from rfl) (show ((0 : Nat) : Int) = 0 from rfl)) (congrArg i3 ((hZ8A.1)))) (by omega) (by omega)) (decide_eq_false (by omega))) ?_
        refine wz_i0 (Eq.trans (i3T (Eq.trans (zm_rd (Z := Z8) (ν := ν) (k := 68) (show ((0 : Nat) : Int) = 0 from rfl) (show ((0 : Nat) : Int) = 0 from rfl) (show ((0 : Nat) : Int) = 0 from rfl)) (congrArg i3 ((hZ8A.1)))) (by omega) (by omega)) (decide_eq_false (by omega))) ?_
        refine wz_i0 (Eq.trans (i3T (Eq.trans (zm_rd (Z := Z8) (ν := ν) (k := 68) (show ((0 : Nat) : Int) = 0 from rfl) (show ((0 : Nat) : Int) = 0 from rfl) (show ((0 : Nat) : Int) = 0 from rfl)) (congrArg i3 ((hZ8A.1)))) (by omega) (by omega)) (decide_eq_false (by omega))) ?_
        refine wz_i0 (Eq.trans (i3T (Eq.trans (zm_rd (Z := Z8) (ν := ν) (k := 68) (show ((0 : Nat) : Int) = 0 from rfl) (show ((0 : Nat) : Int) = 0 from rfl) (show ((0 : Nat) : Int) = 0 from rfl)) (congrArg i3 ((hZ8A.1)))) (by omega) (by omega)) (decide_eq_false (by omega))) ?_
        refine wz_i0 (Eq.trans (i3T (Eq.trans (zm_rd (Z := Z8) (ν := ν) (k := 68) (show ((0 : Nat) : Int) = 0 from rfl) (show ((0 : Nat) : Int) = 0 from rfl) (show ((0 : Nat) : Int) = 0 from rfl)) (congrArg i3 ((hZ8A.1)))) (by omega) (by omega)) (decide_eq_false (by omega))) ?_
        refine wz_i0 (Eq.trans (i3T (Eq.trans (zm_rd (Z := Z8) (ν := ν) (k := 68) (show ((0 : Nat) : Int) = 0 from rfl) (show ((0 : Nat) : Int) = 0 from rfl) (show ((0 : Nat) : Int) = 0 from rfl)) (congrArg i3 ((hZ8A.1)))) (by omega) (by omega)) (decide_eq_false (by omega))) ?_
        refine wz_i0 (Eq.trans (i3T (Eq.trans (zm_rd (Z := Z8) (ν := ν) (k := 68) (show ((0 : Nat) : Int) = 0 from rfl) (show ((0 : Nat) : Int) = 0 from rfl) (show ((0 : Nat) : Int) = 0 from rfl)) (congrArg i3 ((hZ8A.1)))) (by omega) (by omega)) (decide_eq_false (by omega))) ?_
        refine wz_i0 (Eq.trans (i3T (Eq.trans (zm_rd (Z := Z8) (ν := ν) (k := 68) (show ((0 : Nat) : Int) = 0 from rfl) (show ((0 : Nat) : Int) = 0 from rfl) (show ((0 : Nat) : Int) = 0 from rfl)) (congrArg i3 ((hZ8A.1)))) (by omega) (by omega)) (decide_eq_false (by omega))) ?_
        refine wz_i0 (Eq.trans (i3T (Eq.trans (zm_rd (Z := Z8) (ν := ν) (k := 68) (show ((0 : Nat) : Int) = 0 from rfl) (show ((0 : Nat) : Int) = 0 from rfl) (show ((0 : Nat) : Int) = 0 from rfl)) (congrArg i3 ((hZ8A.1)))) (by omega) (by omega)) (decide_eq_false (by omega))) ?_
        refine wz_i0 (Eq.trans (i3T (Eq.trans (zm_rd (Z := Z8) (ν := ν) (k := 68) (show ((0 : Nat) : Int) = 0 from rfl) (show ((0 : Nat) : Int) = 0 from rfl) (show ((0 : Nat) : Int) = 0 from rfl)) (congrArg i3 ((hZ8A.1)))) (by omega) (by omega)) (decide_eq_false (by omega))) ?_
        refine wz_i0 (Eq.trans (i3T (Eq.trans (zm_rd (Z := Z8) (ν := ν) (k := 68) (show ((0 : Nat) : Int) = 0 from rfl) (show ((0 : Nat) : Int) = 0 from rfl) (show ((0 : Nat) : Int) = 0 from rfl)) (congrArg i3 ((hZ8A.1)))) (by omega) (by omega)) (decide_eq_false (by omega))) ?_
        refine wz_i0 (Eq.trans (i3T (Eq.trans (zm_rd (Z := Z8) (ν := ν) (k := 68) (show ((0 : Nat) : Int) = 0 from rfl) (show ((0 : Nat) : Int) = 0 from rfl) (show ((0 : Nat) : Int) = 0 from rfl)) (congrArg i3 ((hZ8A.1)))) (by omega) (by omega)) (decide_eq_false (by omega))) ?_
        refine wz_i0 (Eq.trans (i3T (Eq.trans (zm_rd (Z := Z8) (ν := ν) (k := 68) (show ((0 : Nat) : Int) = 0 from rfl) (show ((0 : Nat) : Int) = 0 from rfl) (show ((0 : Nat) : Int) = 0 from rfl)) (congrArg i3 ((hZ8A.1)))) (by omega) (by omega)) (decide_eq_false (by omega))) ?_
        refine wz_i0 (Eq.trans (i3T (Eq.trans (zm_rd (Z := Z8) (ν := ν) (k := 68) (show ((0 : Nat) : Int) = 0 from rfl) (show ((0 : Nat) : Int) = 0 from rfl) (show ((0 : Nat) : Int) = 0 from rfl)) (congrArg i3 ((hZ8A.1)))) (by omega) (by omega)) (decide_eq_false (by omega))) ?_
        refine wz_i0 (Eq.trans (i3T (Eq.trans (zm_rd (Z := Z8) (ν := ν) (k := 68) (show ((0 : Nat) : Int) = 0 from rfl) (show ((0 : Nat) : Int) = 0 from rfl) (show ((0 : Nat) : Int) = 0 from rfl)) (congrArg i3 ((hZ8A.1)))) (by omega) (by omega)) (decide_eq_false (by omega))) ?_
        refine wz_i0 (Eq.trans (i3T (Eq.trans (zm_rd (Z := Z8) (ν := ν) (k := 68) (show ((0 : Nat) : Int) = 0 from rfl) (show ((0 : Nat) : Int) = 0 from rfl) (show ((0 : Nat) : Int) = 0 from rfl)) (congrArg i3 ((hZ8A.1)))) (by omega) (by omega)) (decide_eq_false (by omega))) ?_
        refine wz_i0 (Eq.trans (i3T (Eq.trans (zm_rd (Z := Z8) (ν := ν) (k := 68) (show ((0 : Nat) : Int) = 0 from rfl) (show ((0 : Nat) : Int) = 0 from rfl) (show ((0 : Nat) : Int) = 0 from rfl)) (congrArg i3 ((hZ8A.1)))) (by omega) (by omega)) (decide_eq_false (by omega))) ?_
        refine wz_i0 (Eq.trans (i3T (Eq.trans (zm_rd (Z := Z8) (ν := ν) (k := 68) (show ((0 : Nat) : Int) = 0 from rfl) (show ((0 : Nat) : Int) = 0 from rfl) (show ((0 : Nat) : Int) = 0 from rfl)) (congrArg i3 ((hZ8A.1)))) (by omega) (by omega)) (decide_eq_false (by omega))) ?_
        refine wz_i0 (Eq.trans (i3T (Eq.trans (zm_rd (Z := Z8) (ν := ν) (k := 68) (show ((0 : Nat) : Int) = 0 from rfl) (show ((0 : Nat) : Int) = 0 from rfl) (show ((0 : Nat) : Int) = 0 from rfl)) (congrArg i3 ((hZ8A.1)))) (by omega) (by omega)) (decide_eq_false (by omega))) ?_
        refine wz_i0 (Eq.trans (i3T (Eq.trans (zm_rd (Z := Z8) (ν := ν) (k := 68) (show ((0 : Nat) : Int) = 0 from rfl) (show ((0 : Nat) : Int) = 0 from rfl) (show ((0 : Nat) : Int) = 0 from rfl)) (congrArg i3 ((hZ8A.1)))) (by omega) (by omega)) (decide_eq_false (by omega))) ?_
        refine wz_i0 (Eq.trans (i3T (Eq.trans (zm_rd (Z := Z8) (ν := ν) (k := 68) (show ((0 : Nat) : Int) = 0 from rfl) (show ((0 : Nat) : Int) = 0 from rfl) (show ((0 : Nat) : Int) = 0 from rfl)) (congrArg i3 ((hZ8A.1)))) (by omega) (by omega)) (decide_eq_false (by omega))) ?_
        refine wz_i0 (Eq.trans (i3T (Eq.trans (zm_rd (Z := Z8) (ν := ν) (k := 68) (show ((0 : Nat) : Int) = 0 from rfl) (show ((0 : Nat) : Int) = 0 from rfl) (show ((0 : Nat) : Int) = 0 from rfl)) (congrArg i3 ((hZ8A.1)))) (by omega) (by omega)) (decide_eq_false (by omega))) ?_
        refine wz_i0 (Eq.trans (i3T (Eq.trans (zm_rd (Z := Z8) (ν := ν) (k := 68) (show ((0 : Nat) : Int) = 0 from rfl) (show ((0 : Nat) : Int) = 0 from rfl) (show ((0 : Nat) : Int) = 0 from rfl)) (congrArg i3 ((hZ8A.1)))) (by omega) (by omega)) (decide_eq_false (by omega))) ?_
        refine wz_i0 (Eq.trans (i3T (Eq.trans (zm_rd (Z := Z8) (ν := ν) (k := 68) (show ((0 : Nat) : Int) = 0 from rfl) (show ((0 : Nat) : Int) = 0 from rfl) (show ((0 : Nat) : Int) = 0 from rfl)) (congrArg i3 ((hZ8A.1)))) (by omega) (by omega)) (decide_eq_false (by omega))) ?_
        refine wz_i1 (Eq.trans (i3T (Eq.trans (zm_rd (Z := Z8) (ν := ν) (k := 68) (show ((0 : Nat) : Int) = 0 from rfl) (show ((0 : Nat) : Int) = 0 from rfl) (show ((0 : Nat) : Int) = 0 from rfl)) (congrArg i3 ((hZ8A.1)))) (by omega) (by omega)) (decide_eq_true (by omega))) ?_
        refine wz_i1 rfl ?_
        refine wz_i0 (i3O (n := 7) (show (1 : Int32) = i3 1 from rfl) (by omega) (by omega) (by omega)) ?_
        refine wz_i1 rfl ?_
        refine wz_i0 (i3O (n := 7) (show (2 : Int32) = i3 2 from rfl) (by omega) (by omega) (by omega)) ?_
        have r9 := zH_k hZ8I 11 0 0 10 (lo := 0) (hi := 12) (by decide) rfl
        have q10 := dZ8 (k := 11) (i := 0) (j := 10) (by decide) (by omega)
        refine wz_i0 (i3O (n := 12) (zm_rd (Z := Z8) (ν := ν) (k := 11) (show ((0 : Nat) : Int) = 0 from rfl) (show ((0 : Nat) : Int) = 0 from rfl) (show ((10 : Nat) : Int) = 10 from rfl)) (by omega) (by omega) (by omega)) ?_
        obtain ⟨Z11, hZ11⟩ := zx (zu Z8 54 0 (Z8 11 0 0 10) 0 a1)
        replace hP := zl_e hP hZ11
        have hZ11I := zH_u hZ8I hZ11 (lo := 0) (hi := 59) (by decide) rfl (by omega) ⟨by decide, by decide⟩ (Or.inl (by decide)) rfl
        have hZ11U : zU [0, 2, 3, 4, 5, 6, 7, 8, 9] Z Z11 := zU_u hZ8U hZ11 (Or.inr (List.Mem.head _))
        have hZ11K : zC [3, 12, 13, 14, 40, 41, 42, 43, 44, 45, 46, 47, 48, 49, 50, 51, 52, 53, 54, 61, 68, 1099, 1100, 1101, 1102, 1103, 1104, 1105, 1106, 1107, 1108, 1109, 1110, 1111, 1112, 1113, 1114, 1115, 1116] Z Z11 := zC_u hZ8K hZ11 (by decide)
        intro μ9 e9
        replace e9 := e9.trans (zm_wI (Z := Z8) (ν := ν) hZ11 (show ((0 : Nat) : Int) = 0 from rfl) (i3I (y := (Z8 11 0 0 10)) (zm_rd (Z := Z8) (ν := ν) (k := 11) (show ((0 : Nat) : Int) = 0 from rfl) (show ((0 : Nat) : Int) = 0 from rfl) (show ((10 : Nat) : Int) = 10 from rfl)) (by omega) (by omega) (by omega)) (show ((0 : Nat) : Int) = 0 from rfl) (Eq.trans (zm_rd (Z := Z8) (ν := ν) (k := 68) (show ((0 : Nat) : Int) = 0 from rfl) (show ((0 : Nat) : Int) = 0 from rfl) (show ((1 : Nat) : Int) = 1 from rfl)) (congrArg i3 ((hZ8A.2.1)))))
        subst e9
        obtain ⟨Z12, hZ12⟩ := zx (zu Z11 54 0 (Z8 11 0 0 10) 1 a2)
        replace hP := zl_e hP hZ12
        have hZ12I := zH_u hZ11I hZ12 (lo := 0) (hi := 3) (by decide) rfl (by omega) ⟨by decide, by decide⟩ (Or.inl (by decide)) rfl
        have hZ12U : zU [0, 2, 3, 4, 5, 6, 7, 8, 9] Z Z12 := zU_u hZ11U hZ12 (Or.inr (List.Mem.head _))
        have hZ12K : zC [3, 12, 13, 14, 40, 41, 42, 43, 44, 45, 46, 47, 48, 49, 50, 51, 52, 53, 54, 61, 68, 1099, 1100, 1101, 1102, 1103, 1104, 1105, 1106, 1107, 1108, 1109, 1110, 1111, 1112, 1113, 1114, 1115, 1116] Z Z12 := zC_u hZ11K hZ12 (by decide)
        intro μ9 e9
        replace e9 := e9.trans (zm_wI (Z := Z11) (ν := ν) hZ12 (show ((0 : Nat) : Int) = 0 from rfl) (i3I (y := (Z8 11 0 0 10)) (zm_rd (Z := Z8) (ν := ν) (k := 11) (show ((0 : Nat) : Int) = 0 from rfl) (show ((0 : Nat) : Int) = 0 from rfl) (show ((10 : Nat) : Int) = 10 from rfl)) (by omega) (by omega) (by omega)) (show ((1 : Nat) : Int) = 1 from rfl) (Eq.trans (zm_rd (Z := Z8) (ν := ν) (k := 68) (show ((0 : Nat) : Int) = 0 from rfl) (show ((0 : Nat) : Int) = 0 from rfl) (show ((2 : Nat) : Int) = 2 from rfl)) (congrArg i3 ((hZ8A.2.2.1)))))
        subst e9
        obtain ⟨Z13, hZ13⟩ := zx (zu Z12 54 0 (Z8 11 0 0 10) 2 0)
        replace hP := zl_e hP hZ13
        have hZ13I := zH_0 hZ12I hZ13 (by decide) (Or.inl (by decide))
        have hZ13U : zU [0, 2, 3, 4, 5, 6, 7, 8, 9] Z Z13 := zU_u hZ12U hZ13 (Or.inr (List.Mem.head _))
        have hZ13K : zC [3, 12, 13, 14, 40, 41, 42, 43, 44, 45, 46, 47, 48, 49, 50, 51, 52, 53, 54, 61, 68, 1099, 1100, 1101, 1102, 1103, 1104, 1105, 1106, 1107, 1108, 1109, 1110, 1111, 1112, 1113, 1114, 1115, 1116] Z Z13 := zC_u hZ12K hZ13 (by decide)
        intro μ9 e9
        replace e9 := e9.trans (zm_wI (Z := Z12) (ν := ν) hZ13 (show ((0 : Nat) : Int) = 0 from rfl) (i3I (y := (Z8 11 0 0 10)) (zm_rd (Z := Z8) (ν := ν) (k := 11) (show ((0 : Nat) : Int) = 0 from rfl) (show ((0 : Nat) : Int) = 0 from rfl) (show ((10 : Nat) : Int) = 10 from rfl)) (by omega) (by omega) (by omega)) (show ((2 : Nat) : Int) = 2 from rfl) (show (0 : Int32) = i3 0 from rfl))
        subst e9
        have r14 := zH_k hZ13I 11 0 0 13 (lo := 0) (hi := 671) (by decide) rfl
        obtain ⟨Z15, hZ15⟩ := zx (zu Z13 54 0 (Z8 11 0 0 10) 7 (Z13 11 0 0 13))
        replace hP := zl_e hP hZ15
        have hZ15I := zH_u hZ13I hZ15 (lo := 0) (hi := 671) (by decide) rfl (by omega) ⟨by decide, by decide⟩ (Or.inl (by decide)) rfl
        have hZ15U : zU [0, 2, 3, 4, 5, 6, 7, 8, 9] Z Z15 := zU_u hZ13U hZ15 (Or.inr (List.Mem.head _))
        have hZ15K : zC [3, 12, 13, 14, 40, 41, 42, 43, 44, 45, 46, 47, 48, 49, 50, 51, 52, 53, 54, 61, 68, 1099, 1100, 1101, 1102, 1103, 1104, 1105, 1106, 1107, 1108, 1109, 1110, 1111, 1112, 1113, 1114, 1115, 1116] Z Z15 := zC_u hZ13K hZ15 (by decide)
        intro μ9 e9
        replace e9 := e9.trans (zm_wI (Z := Z13) (ν := ν) hZ15 (show ((0 : Nat) : Int) = 0 from rfl) (i3I (y := (Z8 11 0 0 10)) (zm_rd (Z := Z8) (ν := ν) (k := 11) (show ((0 : Nat) : Int) = 0 from rfl) (show ((0 : Nat) : Int) = 0 from rfl) (show ((10 : Nat) : Int) = 10 from rfl)) (by omega) (by omega) (by omega)) (show ((7 : Nat) : Int) = 7 from rfl) (zm_rd (Z := Z13) (ν := ν) (k := 11) (show ((0 : Nat) : Int) = 0 from rfl) (show ((0 : Nat) : Int) = 0 from rfl) (show ((13 : Nat) : Int) = 13 from rfl)))
        subst e9
        have r16 := zH_k hZ15I 11 0 0 10 (lo := 0) (hi := 12) (by decide) rfl
        have q17 := (zu_ne (k' := 11) (b' := 0) (i' := 0) (j' := 10) hZ15 (fun q => absurd q.1 (by decide))).trans ((zu_ne (k' := 11) (b' := 0) (i' := 0) (j' := 10) hZ13 (fun q => absurd q.1 (by decide))).trans ((zu_ne (k' := 11) (b' := 0) (i' := 0) (j' := 10) hZ12 (fun q => absurd q.1 (by decide))).trans (zu_ne (k' := 11) (b' := 0) (i' := 0) (j' := 10) hZ11 (fun q => absurd q.1 (by decide)))))
        obtain ⟨Z18, hZ18⟩ := zx (zu Z15 11 0 0 10 ((Z15 11 0 0 10) + 1))
        replace hP := zl_e hP hZ18
        have hZ18I := zH_u hZ15I hZ18 (lo := 0) (hi := 12) (by decide) rfl (by omega) ⟨by decide, by decide⟩ (Or.inl (by decide)) rfl
        have hZ18U : zU [0, 2, 3, 4, 5, 6, 7, 8, 9] Z Z18 := zU_u hZ15U hZ18 (Or.inr (List.Mem.head _))
        have hZ18K : zC [3, 12, 13, 14, 40, 41, 42, 43, 44, 45, 46, 47, 48, 49, 50, 51, 52, 53, 54, 61, 68, 1099, 1100, 1101, 1102, 1103, 1104, 1105, 1106, 1107, 1108, 1109, 1110, 1111, 1112, 1113, 1114, 1115, 1116] Z Z18 := zC_u hZ15K hZ18 (by decide)
        intro μ9 e9
        replace e9 := e9.trans (zm_wI (Z := Z15) (ν := ν) hZ18 (show ((0 : Nat) : Int) = 0 from rfl) (show ((0 : Nat) : Int) = 0 from rfl) (show ((10 : Nat) : Int) = 10 from rfl) (i3A (zm_rd (Z := Z15) (ν := ν) (k := 11) (show ((0 : Nat) : Int) = 0 from rfl) (show ((0 : Nat) : Int) = 0 from rfl) (show ((10 : Nat) : Int) = 10 from rfl)) (show (1 : Int32) = i3 1 from rfl)))
        subst e9
        exact zlG hP (zm_rd (Z := Z15) (ν := ν) (k := 11) (show ((0 : Nat) : Int) = 0 from rfl) (show ((0 : Nat) : Int) = 0 from rfl) (show ((10 : Nat) : Int) = 10 from rfl)) ⟨hZ18I, hZ18K, hZ18U, zG_w zG_r (Nat.le_of_ble_eq_true rfl) (Nat.le_of_ble_eq_true rfl)⟩
      · replace hP := zE_n hP h7
        exact zlGe (E := 14) hP ⟨hZ, zC_r, zU_r, zG_w (zG_k rfl) (Nat.le_of_ble_eq_true rfl) (Nat.le_of_ble_eq_true rfl)⟩
    · replace hP := zE_n hP h3
      exact zlGe (E := 12) hP ⟨hZ, zC_r, zU_r, zG_w (zG_k rfl) (Nat.le_of_ble_eq_true rfl) (Nat.le_of_ble_eq_true rfl)⟩
  · replace hP := zE_n hP h2
    exact zlGe (E := 23) hP ⟨hZ, zC_r, zU_r, zG_w (zG_k rfl) (Nat.le_of_ble_eq_true rfl) (Nat.le_of_ble_eq_true rfl)⟩
/- yX11_quarrelled -/
def zx_232 (Z : qz_Z) (a1 : Int) (a2 : Int) : qz_Z × Int × Int := (if 0 ≤ a1 ∧ a1 < (Z 11 0 0 10) then (if 0 ≤ a2 ∧ a2 ≤ 7 then (Z, (Z 54 0 a1 a2), 0) else (Z, 0, 13)) else (Z, 0, 24))
theorem sx_232 {M : Nat} {Z : qz_Z} {ν : qz_N} (hZ : zH ((none, M) : zSM) Z) (hM : ((none, M) : zSM).2 + 0 ≤ 1000000000) {a1 : Int} (ga1 : -2147483648 ≤ a1 ∧ a1 ≤ 2147483647) {a2 : Int} (ga2 : -2147483648 ≤ a2 ∧ a2 ≤ 2147483647) : ∃ (Z1 : qz_Z) (ν1 : qz_N) (v E : Int), (Z1, v, E) = zx_232 Z a1 a2 ∧ qf_232 [.inr (.inr (some (0, 0, 0))), .inl (i3 a1), .inl (i3 a2)] (zm Z ν) = some (zm Z1 ν1, zoX v E) ∧ (fun Z1 ν1 => zH ((none, M) : zSM) Z1 ∧ zC [] Z Z1 ∧ zU [] Z Z1 ∧ zG 1 6 ν ν1) Z1 ν1 := by
  obtain ⟨P, hP⟩ := zx (zx_232 Z a1 a2)
  refine zc_G (Q := fun Z1 ν1 => zH ((none, M) : zSM) Z1 ∧ zC [] Z Z1 ∧ zU [] Z Z1 ∧ zG 1 6 ν ν1) hP (fw_232 (i3 a1) (i3 a2) _ _ ?_)
  replace hP : zE P (zx_232 Z a1 a2) := hP
  unfold zx_232 at hP
  have r1 := zH_k hZ 11 0 0 10 (lo := 0) (hi := 12) (by decide) rfl
  refine wz_thing (rfl : i3 a1 = i3 a1) (zm_rd (Z := Z) (ν := ν) (k := 11) (show ((0 : Nat) : Int) = 0 from rfl) (show ((0 : Nat) : Int) = 0 from rfl) (show ((10 : Nat) : Int) = 10 from rfl)) (by omega) (by omega) (by omega) (by omega) (fun h2 => ?_) (fun h2 => ?_)
  · replace hP := zE_p hP h2
    refine wz_inR (rfl : i3 a2 = i3 a2) (show (0 : Int32) = i3 0 from rfl) (show (7 : Int32) = i3 7 from rfl) (by omega) (by omega) (by omega) (by omega) (by omega) (by omega) (fun h3 => ?_) (fun h3 => ?_)
    · replace hP := zE_p hP h3
      refine wz_i0 (i3O (n := 12) (rfl : i3 a1 = i3 a1) (by omega) (by omega) (by omega)) ?_
      refine wz_i0 (i3O (n := 8) (rfl : i3 a2 = i3 a2) (by omega) (by omega) (by omega)) ?_
      have r4 := zH_f hZ 54 0 a1 a2
      exact zlG hP (zm_rd (Z := Z) (ν := ν) (k := 54) (show ((0 : Nat) : Int) = 0 from rfl) (i3I (y := a1) (rfl : i3 a1 = i3 a1) (by omega) (by omega) (by omega)) (i3I (y := a2) (rfl : i3 a2 = i3 a2) (by omega) (by omega) (by omega))) ⟨hZ, zC_r, zU_r, zG_w zG_r (Nat.le_of_ble_eq_true rfl) (Nat.le_of_ble_eq_true rfl)⟩
    · replace hP := zE_n hP h3
      exact zlGe (E := 12) hP ⟨hZ, zC_r, zU_r, zG_w (zG_k rfl) (Nat.le_of_ble_eq_true rfl) (Nat.le_of_ble_eq_true rfl)⟩
  · replace hP := zE_n hP h2
    exact zlGe (E := 23) hP ⟨hZ, zC_r, zU_r, zG_w (zG_k rfl) (Nat.le_of_ble_eq_true rfl) (Nat.le_of_ble_eq_true rfl)⟩
