/- yX12_ordered -/
def zy_442 (Z : qz_Z) (a1 : Int) (a2 : Int) : qz_Z × Int := (if a1 < 0 then (zlet (zu Z 1 0 0 2 1) (fun Z5 => (Z5, 0))) else (if ((Z 2 0 0 1401) - 1) < a1 then (zlet (zu Z 1 0 0 2 1) (fun Z8 => (Z8, 0))) else (zlet (zu Z 1 0 0 2 0) (fun Z9 => (if a2 < 0 then (zlet (zu Z9 1 0 0 2 2) (fun Z11 => (Z11, 0))) else (if 9 < a2 then (zlet (zu Z9 1 0 0 2 2) (fun Z13 => (Z13, 0))) else (zlet (zu Z9 1 0 0 2 0) (fun Z14 => (if a2 ≠ 8 then (if a2 ≠ 9 then (Z14, (Z14 2 0 0 (1510 + 12 * a1 + a2))) else (zlet (zf_260 Z14 a1) (fun v18 => (if v18 = 0 then (Z14, 0) else (Z14, 1))))) else (zlet (zf_267 Z14 2 a1 (-1)) (fun v22 => (Z14, v22))))))))))))
theorem sy_442 {s : zSM} {Z : qz_Z} {ν : qz_N} (hZ : zM s Z) (gq : Z 1 0 0 35 = 0) (hM : s.2 + 0 ≤ 1000000000) {a1 : Int} (ga1 : -2147483648 ≤ a1 ∧ a1 ≤ 2147483647) {a2 : Int} (ga2 : -2147483648 ≤ a2 ∧ a2 ≤ 2147483647) {ν1 : qz_N} : ∃ (Z1 : qz_Z) (ν2 : qz_N) (v : Int), (Z1, v) = zy_442 Z a1 a2 ∧ (ν2 = ν ∨ ν2 = ν1) ∧ qf_442 [.inr (.inr (some (1, 0, 0))), .inl (i3 a1), .inl (i3 a2)] (zm Z ν) = some (zm Z1 ν2, .inl (some (.inl (i3 v)))) ∧ (fun Z1 => zM s Z1 ∧ zC [1] Z Z1 ∧ zU [] Z Z1) Z1 := by
  obtain ⟨P, hP⟩ := zx (zy_442 Z a1 a2)
  refine zc_Y (Q := fun Z1 => zM s Z1 ∧ zC [1] Z Z1 ∧ zU [] Z Z1) hP (fw_442 (i3 a1) (i3 a2) _ _ ?_)
  replace hP : zE P (zy_442 Z a1 a2) := hP
  unfold zy_442 at hP
  have r1 := zM_k hZ 1 0 0 35 (lo := 0) (hi := 1) (by decide) rfl
  have r2 := zM_k hZ 1 0 0 34 (lo := 0) (hi := 8) (by decide) rfl
  have r3 := zM_f hZ 1 0 0 37
  refine wz_br (i3L (rfl : i3 a1 = i3 a1) (show (0 : Int32) = i3 0 from rfl) (by omega) (by omega) (by omega) (by omega)) (fun h4 => ?_) (fun h4 => ?_)
  · replace hP := zE_p hP h4
    obtain ⟨Z5, hZ5⟩ := zx (zu Z 1 0 0 2 1)
    replace hP := zl_e hP hZ5
    have hZ5I := zM_u hZ hZ5 (lo := -2147483648) (hi := 2147483647) (by decide) rfl (by omega) ⟨by decide, by decide⟩ (Or.inr (by decide)) rfl
    have hZ5U : zU [] Z Z5 := zU_u zU_r hZ5 (Or.inl rfl)
    have hZ5K : zC [1] Z Z5 := zC_u zC_r hZ5 (by decide)
    intro μ9 e9
    replace e9 := e9.trans (zm_wI (Z := Z) (ν := ν) hZ5 (show ((0 : Nat) : Int) = 0 from rfl) (show ((0 : Nat) : Int) = 0 from rfl) (show ((2 : Nat) : Int) = 2 from rfl) (show (1 : Int32) = i3 1 from rfl))
    subst e9
    exact zlY hP (show (0 : Int32) = i3 0 from rfl) (.inl rfl) ⟨hZ5I, hZ5K, hZ5U⟩
  · replace hP := zE_n hP h4
    have r6 := zM_k hZ 2 0 0 1401 (lo := 0) (hi := 24) (by decide) rfl
    refine wz_br (i3L (i3S (zm_rd (Z := Z) (ν := ν) (k := 2) (show ((0 : Nat) : Int) = 0 from rfl) (show ((0 : Nat) : Int) = 0 from rfl) (show ((1401 : Nat) : Int) = 1401 from rfl)) (show (1 : Int32) = i3 1 from rfl)) (rfl : i3 a1 = i3 a1) (by omega) (by omega) (by omega) (by omega)) (fun h7 => ?_) (fun h7 => ?_)
    · replace hP := zE_p hP h7
      obtain ⟨Z8, hZ8⟩ := zx (zu Z 1 0 0 2 1)
      replace hP := zl_e hP hZ8
      have hZ8I := zM_u hZ hZ8 (lo := -2147483648) (hi := 2147483647) (by decide) rfl (by omega) ⟨by decide, by decide⟩ (Or.inr (by decide)) rfl
      have hZ8U : zU [] Z Z8 := zU_u zU_r hZ8 (Or.inl rfl)
      have hZ8K : zC [1] Z Z8 := zC_u zC_r hZ8 (by decide)
      intro μ9 e9
      replace e9 := e9.trans (zm_wI (Z := Z) (ν := ν) hZ8 (show ((0 : Nat) : Int) = 0 from rfl) (show ((0 : Nat) : Int) = 0 from rfl) (show ((2 : Nat) : Int) = 2 from rfl) (show (1 : Int32) = i3 1 from rfl))
      subst e9
      exact zlY hP (show (0 : Int32) = i3 0 from rfl) (.inl rfl) ⟨hZ8I, hZ8K, hZ8U⟩
    · replace hP := zE_n hP h7
      obtain ⟨Z9, hZ9⟩ := zx (zu Z 1 0 0 2 0)
      replace hP := zl_e hP hZ9
      have hZ9I := zM_0 hZ hZ9 (by decide) (Or.inr (by decide))
      have hZ9U : zU [] Z Z9 := zU_u zU_r hZ9 (Or.inl rfl)
      have hZ9K : zC [1] Z Z9 := zC_u zC_r hZ9 (by decide)
      intro μ9 e9
      replace e9 := e9.trans (zm_wI (Z := Z) (ν := ν) hZ9 (show ((0 : Nat) : Int) = 0 from rfl) (show ((0 : Nat) : Int) = 0 from rfl) (show ((2 : Nat) : Int) = 2 from rfl) (show (0 : Int32) = i3 0 from rfl))
      subst e9
      refine wz_br (i3L (rfl : i3 a2 = i3 a2) (show (0 : Int32) = i3 0 from rfl) (by omega) (by omega) (by omega) (by omega)) (fun h10 => ?_) (fun h10 => ?_)
      · replace hP := zE_p hP h10
        obtain ⟨Z11, hZ11⟩ := zx (zu Z9 1 0 0 2 2)
        replace hP := zl_e hP hZ11
        have hZ11I := zM_u hZ9I hZ11 (lo := -2147483648) (hi := 2147483647) (by decide) rfl (by omega) ⟨by decide, by decide⟩ (Or.inr (by decide)) rfl
        have hZ11U : zU [] Z Z11 := zU_u hZ9U hZ11 (Or.inl rfl)
        have hZ11K : zC [1] Z Z11 := zC_u hZ9K hZ11 (by decide)
        intro μ9 e9
        replace e9 := e9.trans (zm_wI (Z := Z9) (ν := ν) hZ11 (show ((0 : Nat) : Int) = 0 from rfl) (show ((0 : Nat) : Int) = 0 from rfl) (show ((2 : Nat) : Int) = 2 from rfl) (show (2 : Int32) = i3 2 from rfl))
        subst e9
        exact zlY hP (show (0 : Int32) = i3 0 from rfl) (.inl rfl) ⟨hZ11I, hZ11K, hZ11U⟩
      · replace hP := zE_n hP h10
        refine wz_br (i3L (show (9 : Int32) = i3 9 from rfl) (rfl : i3 a2 = i3 a2) (by omega) (by omega) (by omega) (by omega)) (fun h12 => ?_) (fun h12 => ?_)
        · replace hP := zE_p hP h12
          obtain ⟨Z13, hZ13⟩ := zx (zu Z9 1 0 0 2 2)
          replace hP := zl_e hP hZ13
          have hZ13I := zM_u hZ9I hZ13 (lo := -2147483648) (hi := 2147483647) (by decide) rfl (by omega) ⟨by decide, by decide⟩ (Or.inr (by decide)) rfl
          have hZ13U : zU [] Z Z13 := zU_u hZ9U hZ13 (Or.inl rfl)
          have hZ13K : zC [1] Z Z13 := zC_u hZ9K hZ13 (by decide)
          intro μ9 e9
          replace e9 := e9.trans (zm_wI (Z := Z9) (ν := ν) hZ13 (show ((0 : Nat) : Int) = 0 from rfl) (show ((0 : Nat) : Int) = 0 from rfl) (show ((2 : Nat) : Int) = 2 from rfl) (show (2 : Int32) = i3 2 from rfl))
          subst e9
          exact zlY hP (show (0 : Int32) = i3 0 from rfl) (.inl rfl) ⟨hZ13I, hZ13K, hZ13U⟩
        · replace hP := zE_n hP h12
          obtain ⟨Z14, hZ14⟩ := zx (zu Z9 1 0 0 2 0)
          replace hP := zl_e hP hZ14
          have hZ14I := zM_0 hZ9I hZ14 (by decide) (Or.inr (by decide))
          have hZ14U : zU [] Z Z14 := zU_u hZ9U hZ14 (Or.inl rfl)
          have hZ14K : zC [1] Z Z14 := zC_u hZ9K hZ14 (by decide)
          intro μ9 e9
          replace e9 := e9.trans (zm_wI (Z := Z9) (ν := ν) hZ14 (show ((0 : Nat) : Int) = 0 from rfl) (show ((0 : Nat) : Int) = 0 from rfl) (show ((2 : Nat) : Int) = 2 from rfl) (show (0 : Int32) = i3 0 from rfl))
          subst e9
          refine wz_br (i3NE (rfl : i3 a2 = i3 a2) (show (8 : Int32) = i3 8 from rfl) (by omega) (by omega) (by omega) (by omega)) (fun h15 => ?_) (fun h15 => ?_)
          · replace hP := zE_p hP h15
            refine wz_br (i3NE (rfl : i3 a2 = i3 a2) (show (9 : Int32) = i3 9 from rfl) (by omega) (by omega) (by omega) (by omega)) (fun h16 => ?_) (fun h16 => ?_)
            · replace hP := zE_p hP h16
              refine wz_i0 (i3O (n := 4400) (i3A (i3A (show (1510 : Int32) = i3 1510 from rfl) (i3M (show (12 : Int32) = i3 12 from rfl) (rfl : i3 a1 = i3 a1))) (rfl : i3 a2 = i3 a2)) (by omega) (by omega) (by omega)) ?_
              have r17 := zM_f hZ14I 2 0 0 (1510 + 12 * a1 + a2)
              exact zlY hP (zm_rd (Z := Z14) (ν := ν) (k := 2) (show ((0 : Nat) : Int) = 0 from rfl) (show ((0 : Nat) : Int) = 0 from rfl) (i3I (y := (1510 + 12 * a1 + a2)) (i3A (i3A (show (1510 : Int32) = i3 1510 from rfl) (i3M (show (12 : Int32) = i3 12 from rfl) (rfl : i3 a1 = i3 a1))) (rfl : i3 a2 = i3 a2)) (by omega) (by omega) (by omega))) (.inl rfl) ⟨hZ14I, hZ14K, hZ14U⟩
            · replace hP := zE_n hP h16
              obtain ⟨v18, hv18, c9, lv18, uv18, wv180⟩ := sp_260 (ν := ν) hZ14I (a1 := a1) (by omega) (zbh (c := 0) (k := 0) hM (Nat.le_of_ble_eq_true rfl))
              replace hP := zl_e hP hv18
              refine wz_cI_of (zas (zcons rfl (zcons (zvi (rfl : i3 a1 = i3 a1)) rfl)) c9) ?_
              clear c9
              have r19 := zM_k hZ14I 2 0 0 (1516 + 12 * a1) (lo := 0) (hi := 99) (by decide) (zs_1510_6 (x := a1) (by omega) (by omega) (by omega))
              have w20 : v18 = 0 ∨ 1 ≤ Z14 2 0 0 (1516 + 12 * a1) := wv180
              refine wz_br (i3E (rfl : i3 v18 = i3 v18) (show (0 : Int32) = i3 0 from rfl) (by omega) (by omega) (by omega) (by omega)) (fun h21 => ?_) (fun h21 => ?_)
              · replace hP := zE_p hP h21
                exact zlY hP (show (0 : Int32) = i3 0 from rfl) (.inl rfl) ⟨hZ14I, hZ14K, hZ14U⟩
              · replace hP := zE_n hP h21
                exact zlY hP (show (1 : Int32) = i3 1 from rfl) (.inl rfl) ⟨hZ14I, hZ14K, hZ14U⟩
          · replace hP := zE_n hP h15
            obtain ⟨v22, hv22, c9, lv22, uv22⟩ := sp_267 (ν := ν) hZ14I (a1 := 2) (by omega) (a2 := a1) (by omega) (a3 := (-1)) (by omega) (zbh (c := 0) (k := 0) hM (Nat.le_of_ble_eq_true rfl))
            replace hP := zl_e hP hv22
            refine wz_cI_of (zas (zcons rfl (zcons (zvi (show (2 : Int32) = i3 2 from rfl)) (zcons (zvi (rfl : i3 a1 = i3 a1)) (zcons (zvi (show (-1 : Int32) = i3 (-1) from rfl)) rfl)))) c9) ?_
            clear c9
            exact zlY hP (rfl : i3 v22 = i3 v22) (.inl rfl) ⟨hZ14I, hZ14K, hZ14U⟩
/- yX12_outside -/
def zy_443 (Z : qz_Z) (dm : qz_Z → Int → Int → Int → Int → Int → Int → Int → qz_Z) (a1 : Int) (a2 : Int) : qz_Z × Int := (if a1 < 0 then (zlet (zu Z 1 0 0 2 1) (fun Z5 => (Z5, 0))) else (if 27 < a1 then (zlet (zu Z 1 0 0 2 1) (fun Z7 => (Z7, 0))) else (if a2 < 0 then (zlet (zu Z 1 0 0 2 1) (fun Z9 => (Z9, 0))) else (if 40 < a2 then (zlet (zu Z 1 0 0 2 1) (fun Z11 => (Z11, 0))) else (zlet (zu Z 1 0 0 2 0) (fun Z12 => (if a1 < ((Z12 2 0 0 0) / 24) then (zlet (zu Z12 1 0 0 2 2) (fun Z15 => (Z15, 0))) else (zlet (zu Z12 1 0 0 2 0) (fun Z16 => (zlet (dm Z16 8 a1 a2 0 0 0 0) (fun Z23 => (zlet (zu Z23 2 0 0 (1300 + a1) a2) (fun Z24 => (Z24, (Z23 2 0 0 (1300 + a1))))))))))))))))
theorem sy_443 {s : zSM} {Z : qz_Z} {ν : qz_N} (hZ : zM s Z) (gq : Z 1 0 0 35 = 0) (hM : s.2 + 0 ≤ 1000000000) {a1 : Int} (ga1 : -2147483648 ≤ a1 ∧ a1 ≤ 2147483647) {a2 : Int} (ga2 : -2147483648 ≤ a2 ∧ a2 ≤ 2147483647) {dk : qz_Z → qz_Z} {dm : qz_Z → Int → Int → Int → Int → Int → Int → Int → qz_Z} {ν1 : qz_N} (hdm : zDm s ν ν1 Z dk dm) : ∃ (Z1 : qz_Z) (ν2 : qz_N) (v : Int), (Z1, v) = zy_443 Z dm a1 a2 ∧ (ν2 = ν ∨ ν2 = ν1) ∧ qf_443 [.inr (.inr (some (1, 0, 0))), .inl (i3 a1), .inl (i3 a2)] (zm Z ν) = some (zm Z1 ν2, .inl (some (.inl (i3 v)))) ∧ (fun Z1 => zM s Z1 ∧ zC [1, 2, 101, 102, 200] Z Z1 ∧ zU [] Z Z1) Z1 := by
  obtain ⟨P, hP⟩ := zx (zy_443 Z dm a1 a2)
  refine zc_Y (Q := fun Z1 => zM s Z1 ∧ zC [1, 2, 101, 102, 200] Z Z1 ∧ zU [] Z Z1) hP (fw_443 (i3 a1) (i3 a2) _ _ ?_)
  replace hP : zE P (zy_443 Z dm a1 a2) := hP
  unfold zy_443 at hP
  have r1 := zM_k hZ 1 0 0 35 (lo := 0) (hi := 1) (by decide) rfl
  have r2 := zM_k hZ 1 0 0 34 (lo := 0) (hi := 8) (by decide) rfl
  have r3 := zM_f hZ 1 0 0 37
  refine wz_br (i3L (rfl : i3 a1 = i3 a1) (show (0 : Int32) = i3 0 from rfl) (by omega) (by omega) (by omega) (by omega)) (fun h4 => ?_) (fun h4 => ?_)
  · replace hP := zE_p hP h4
    obtain ⟨Z5, hZ5⟩ := zx (zu Z 1 0 0 2 1)
    replace hP := zl_e hP hZ5
    have hZ5I := zM_u hZ hZ5 (lo := -2147483648) (hi := 2147483647) (by decide) rfl (by omega) ⟨by decide, by decide⟩ (Or.inr (by decide)) rfl
    have hZ5U : zU [] Z Z5 := zU_u zU_r hZ5 (Or.inl rfl)
    have hZ5K : zC [1, 2, 101, 102, 200] Z Z5 := zC_u zC_r hZ5 (by decide)
    intro μ9 e9
    replace e9 := e9.trans (zm_wI (Z := Z) (ν := ν) hZ5 (show ((0 : Nat) : Int) = 0 from rfl) (show ((0 : Nat) : Int) = 0 from rfl) (show ((2 : Nat) : Int) = 2 from rfl) (show (1 : Int32) = i3 1 from rfl))
    subst e9
    exact zlY hP (show (0 : Int32) = i3 0 from rfl) (.inl rfl) ⟨hZ5I, hZ5K, hZ5U⟩
  · replace hP := zE_n hP h4
    refine wz_br (i3L (show (27 : Int32) = i3 27 from rfl) (rfl : i3 a1 = i3 a1) (by omega) (by omega) (by omega) (by omega)) (fun h6 => ?_) (fun h6 => ?_)
    · replace hP := zE_p hP h6
      obtain ⟨Z7, hZ7⟩ := zx (zu Z 1 0 0 2 1)
      replace hP := zl_e hP hZ7
      have hZ7I := zM_u hZ hZ7 (lo := -2147483648) (hi := 2147483647) (by decide) rfl (by omega) ⟨by decide, by decide⟩ (Or.inr (by decide)) rfl
      have hZ7U : zU [] Z Z7 := zU_u zU_r hZ7 (Or.inl rfl)
      have hZ7K : zC [1, 2, 101, 102, 200] Z Z7 := zC_u zC_r hZ7 (by decide)
      intro μ9 e9
      replace e9 := e9.trans (zm_wI (Z := Z) (ν := ν) hZ7 (show ((0 : Nat) : Int) = 0 from rfl) (show ((0 : Nat) : Int) = 0 from rfl) (show ((2 : Nat) : Int) = 2 from rfl) (show (1 : Int32) = i3 1 from rfl))
      subst e9
      exact zlY hP (show (0 : Int32) = i3 0 from rfl) (.inl rfl) ⟨hZ7I, hZ7K, hZ7U⟩
    · replace hP := zE_n hP h6
      refine wz_br (i3L (rfl : i3 a2 = i3 a2) (show (0 : Int32) = i3 0 from rfl) (by omega) (by omega) (by omega) (by omega)) (fun h8 => ?_) (fun h8 => ?_)
      · replace hP := zE_p hP h8
        obtain ⟨Z9, hZ9⟩ := zx (zu Z 1 0 0 2 1)
        replace hP := zl_e hP hZ9
        have hZ9I := zM_u hZ hZ9 (lo := -2147483648) (hi := 2147483647) (by decide) rfl (by omega) ⟨by decide, by decide⟩ (Or.inr (by decide)) rfl
        have hZ9U : zU [] Z Z9 := zU_u zU_r hZ9 (Or.inl rfl)
        have hZ9K : zC [1, 2, 101, 102, 200] Z Z9 := zC_u zC_r hZ9 (by decide)
        intro μ9 e9
        replace e9 := e9.trans (zm_wI (Z := Z) (ν := ν) hZ9 (show ((0 : Nat) : Int) = 0 from rfl) (show ((0 : Nat) : Int) = 0 from rfl) (show ((2 : Nat) : Int) = 2 from rfl) (show (1 : Int32) = i3 1 from rfl))
        subst e9
        exact zlY hP (show (0 : Int32) = i3 0 from rfl) (.inl rfl) ⟨hZ9I, hZ9K, hZ9U⟩
      · replace hP := zE_n hP h8
        refine wz_br (i3L (show (40 : Int32) = i3 40 from rfl) (rfl : i3 a2 = i3 a2) (by omega) (by omega) (by omega) (by omega)) (fun h10 => ?_) (fun h10 => ?_)
        · replace hP := zE_p hP h10
          obtain ⟨Z11, hZ11⟩ := zx (zu Z 1 0 0 2 1)
          replace hP := zl_e hP hZ11
          have hZ11I := zM_u hZ hZ11 (lo := -2147483648) (hi := 2147483647) (by decide) rfl (by omega) ⟨by decide, by decide⟩ (Or.inr (by decide)) rfl
          have hZ11U : zU [] Z Z11 := zU_u zU_r hZ11 (Or.inl rfl)
          have hZ11K : zC [1, 2, 101, 102, 200] Z Z11 := zC_u zC_r hZ11 (by decide)
          intro μ9 e9
          replace e9 := e9.trans (zm_wI (Z := Z) (ν := ν) hZ11 (show ((0 : Nat) : Int) = 0 from rfl) (show ((0 : Nat) : Int) = 0 from rfl) (show ((2 : Nat) : Int) = 2 from rfl) (show (1 : Int32) = i3 1 from rfl))
          subst e9
          exact zlY hP (show (0 : Int32) = i3 0 from rfl) (.inl rfl) ⟨hZ11I, hZ11K, hZ11U⟩
        · replace hP := zE_n hP h10
          obtain ⟨Z12, hZ12⟩ := zx (zu Z 1 0 0 2 0)
          replace hP := zl_e hP hZ12
          have hZ12I := zM_0 hZ hZ12 (by decide) (Or.inr (by decide))
          have hZ12U : zU [] Z Z12 := zU_u zU_r hZ12 (Or.inl rfl)
          have hZ12K : zC [1, 2, 101, 102, 200] Z Z12 := zC_u zC_r hZ12 (by decide)
          intro μ9 e9
          replace e9 := e9.trans (zm_wI (Z := Z) (ν := ν) hZ12 (show ((0 : Nat) : Int) = 0 from rfl) (show ((0 : Nat) : Int) = 0 from rfl) (show ((2 : Nat) : Int) = 2 from rfl) (show (0 : Int32) = i3 0 from rfl))
          subst e9
          have r13 := zM_k hZ12I 2 0 0 0 (lo := 0) (hi := 671) (by decide) rfl
          refine wz_br (i3L (rfl : i3 a1 = i3 a1) (i3D (zm_rd (Z := Z12) (ν := ν) (k := 2) (show ((0 : Nat) : Int) = 0 from rfl) (show ((0 : Nat) : Int) = 0 from rfl) (show ((0 : Nat) : Int) = 0 from rfl)) (show (24 : Int32) = i3 24 from rfl) (by omega) (by omega) (by omega) (by omega)) (by omega) (by omega) (by omega) (by omega)) (fun h14 => ?_) (fun h14 => ?_)
          · replace hP := zE_p hP h14
            obtain ⟨Z15, hZ15⟩ := zx (zu Z12 1 0 0 2 2)
            replace hP := zl_e hP hZ15
            have hZ15I := zM_u hZ12I hZ15 (lo := -2147483648) (hi := 2147483647) (by decide) rfl (by omega) ⟨by decide, by decide⟩ (Or.inr (by decide)) rfl
            have hZ15U : zU [] Z Z15 := zU_u hZ12U hZ15 (Or.inl rfl)
            have hZ15K : zC [1, 2, 101, 102, 200] Z Z15 := zC_u hZ12K hZ15 (by decide)
            intro μ9 e9
            replace e9 := e9.trans (zm_wI (Z := Z12) (ν := ν) hZ15 (show ((0 : Nat) : Int) = 0 from rfl) (show ((0 : Nat) : Int) = 0 from rfl) (show ((2 : Nat) : Int) = 2 from rfl) (show (2 : Int32) = i3 2 from rfl))
            subst e9
            exact zlY hP (show (0 : Int32) = i3 0 from rfl) (.inl rfl) ⟨hZ15I, hZ15K, hZ15U⟩
          · replace hP := zE_n hP h14
            obtain ⟨Z16, hZ16⟩ := zx (zu Z12 1 0 0 2 0)
            replace hP := zl_e hP hZ16
            have hZ16I := zM_0 hZ12I hZ16 (by decide) (Or.inr (by decide))
            have hZ16U : zU [] Z Z16 := zU_u hZ12U hZ16 (Or.inl rfl)
            have hZ16K : zC [1, 2, 101, 102, 200] Z Z16 := zC_u hZ12K hZ16 (by decide)
            intro μ9 e9
            replace e9 := e9.trans (zm_wI (Z := Z12) (ν := ν) hZ16 (show ((0 : Nat) : Int) = 0 from rfl) (show ((0 : Nat) : Int) = 0 from rfl) (show ((2 : Nat) : Int) = 2 from rfl) (show (0 : Int32) = i3 0 from rfl))
            subst e9
            have r17 := zM_k hZ16I 1 0 0 35 (lo := 0) (hi := 1) (by decide) rfl
            have q18 := (zu_ne (k' := 1) (b' := 0) (i' := 0) (j' := 35) hZ16 (fun q => absurd q.2.2.2 (by decide))).trans (zu_ne (k' := 1) (b' := 0) (i' := 0) (j' := 35) hZ12 (fun q => absurd q.2.2.2 (by decide)))
            refine wz_i0 (Eq.trans (i3NE (zm_rd (Z := Z16) (ν := ν) (k := 1) (show ((0 : Nat) : Int) = 0 from rfl) (show ((0 : Nat) : Int) = 0 from rfl) (show ((35 : Nat) : Int) = 35 from rfl)) (show (0 : Int32) = i3 0 from rfl) (by omega) (by omega) (by omega) (by omega)) (decide_eq_false (by omega))) ?_
            have r19 := zM_k hZ16I 1 0 0 34 (lo := 0) (hi := 8) (by decide) rfl
            have q20 := (zu_ne (k' := 1) (b' := 0) (i' := 0) (j' := 34) hZ16 (fun q => absurd q.2.2.2 (by decide))).trans (zu_ne (k' := 1) (b' := 0) (i' := 0) (j' := 34) hZ12 (fun q => absurd q.2.2.2 (by decide)))
            have r21 := zM_f hZ16I 1 0 0 37
            have q22 := (zu_ne (k' := 1) (b' := 0) (i' := 0) (j' := 37) hZ16 (fun q => absurd q.2.2.2 (by decide))).trans (zu_ne (k' := 1) (b' := 0) (i' := 0) (j' := 37) hZ12 (fun q => absurd q.2.2.2 (by decide)))
            obtain ⟨c8, c9, hZ23I, dZ23⟩ := hdm Z16 8 a1 a2 0 0 0 0 hZ16I (by omega) (by omega) (by omega) (by omega) (by omega) (by omega) (by omega) (by omega) (by omega) (by omega)
            obtain ⟨Z23, hZ23⟩ := zx (dm Z16 8 a1 a2 0 0 0 0)
            rw [← hZ23] at c9 hZ23I dZ23
            replace hP := zl_e hP hZ23
            refine wz_cV_of (zas (zcons rfl (zcons (zvi (show (-1 : Int32) = i3 (-1) from rfl)) rfl)) c8) ?_
            refine wz_cV_of (zas (zcons rfl (zcons (zvi (show (8 : Int32) = i3 8 from rfl)) (zcons (zvi (rfl : i3 a1 = i3 a1)) (zcons (zvi (rfl : i3 a2 = i3 a2)) (zcons (zvi (show (0 : Int32) = i3 0 from rfl)) (zcons (zvi (show (0 : Int32) = i3 0 from rfl)) (zcons (zvi (show (0 : Int32) = i3 0 from rfl)) (zcons (zvi (show (0 : Int32) = i3 0 from rfl)) rfl)))))))) c9) ?_
            clear c8 c9
            have hZ23K : zC [1, 2, 101, 102, 200] Z Z23 := zC_t hZ16K (zMd_C dZ23) (by decide)
            have hZ23U : zU [] Z Z23 := zU_t hZ16U (zMd_U dZ23) zU_b0
            refine wz_i0 (i3O (n := 4400) (i3A (show (1300 : Int32) = i3 1300 from rfl) (rfl : i3 a1 = i3 a1)) (by omega) (by omega) (by omega)) ?_
            refine wz_i0 (i3O (n := 4400) (i3A (show (1300 : Int32) = i3 1300 from rfl) (rfl : i3 a1 = i3 a1)) (by omega) (by omega) (by omega)) ?_
            obtain ⟨Z24, hZ24⟩ := zx (zu Z23 2 0 0 (1300 + a1) a2)
            replace hP := zl_e hP hZ24
            have hZ24I := zM_u2 hZ23I hZ24 (lo := 0) (hi := 40) (zs_1300 (by omega) (by omega)) (by omega) ⟨by decide, by decide⟩ (by simp only [zsp]; omega)
            have hZ24U : zU [] Z Z24 := zU_u hZ23U hZ24 (Or.inl rfl)
            have hZ24K : zC [1, 2, 101, 102, 200] Z Z24 := zC_u hZ23K hZ24 (zcl_2w (by omega) rfl)
            intro μ9 e9
            replace e9 := e9.trans (zm_wI (Z := Z23) (ν := ν1) hZ24 (show ((0 : Nat) : Int) = 0 from rfl) (show ((0 : Nat) : Int) = 0 from rfl) (i3I (y := (1300 + a1)) (i3A (show (1300 : Int32) = i3 1300 from rfl) (rfl : i3 a1 = i3 a1)) (by omega) (by omega) (by omega)) (rfl : i3 a2 = i3 a2))
            subst e9
            have r25 := zM_k hZ23I 2 0 0 (1300 + a1) (lo := 0) (hi := 40) (by decide) (zs_1300 (by omega) (by omega))
            exact zlY hP (zm_rd (Z := Z23) (ν := ν1) (k := 2) (show ((0 : Nat) : Int) = 0 from rfl) (show ((0 : Nat) : Int) = 0 from rfl) (i3I (y := (1300 + a1)) (i3A (show (1300 : Int32) = i3 1300 from rfl) (rfl : i3 a1 = i3 a1)) (by omega) (by omega) (by omega))) (.inr rfl) ⟨hZ24I, hZ24K, hZ24U⟩
/- yX12_owed -/
def zy_444 (Z : qz_Z) (a1 : Int) (a2 : Int) : qz_Z × Int := (if a1 < 0 then (zlet (zu Z 1 0 0 2 1) (fun Z5 => (Z5, 0))) else (if ((Z 2 0 0 101) - 1) < a1 then (zlet (zu Z 1 0 0 2 1) (fun Z8 => (Z8, 0))) else (zlet (zu Z 1 0 0 2 0) (fun Z9 => (if a2 < 0 then (zlet (zu Z9 1 0 0 2 2) (fun Z11 => (Z11, 0))) else (if 4 < a2 then (zlet (zu Z9 1 0 0 2 2) (fun Z13 => (Z13, 0))) else (zlet (zu Z9 1 0 0 2 0) (fun Z14 => (Z14, (Z14 2 0 0 (3820 + 5 * a1 + a2)))))))))))
theorem sy_444 {s : zSM} {Z : qz_Z} {ν : qz_N} (hZ : zM s Z) (gq : Z 1 0 0 35 = 0) (hM : s.2 + 0 ≤ 1000000000) {a1 : Int} (ga1 : -2147483648 ≤ a1 ∧ a1 ≤ 2147483647) {a2 : Int} (ga2 : -2147483648 ≤ a2 ∧ a2 ≤ 2147483647) {ν1 : qz_N} : ∃ (Z1 : qz_Z) (ν2 : qz_N) (v : Int), (Z1, v) = zy_444 Z a1 a2 ∧ (ν2 = ν ∨ ν2 = ν1) ∧ qf_444 [.inr (.inr (some (1, 0, 0))), .inl (i3 a1), .inl (i3 a2)] (zm Z ν) = some (zm Z1 ν2, .inl (some (.inl (i3 v)))) ∧ (fun Z1 => zM s Z1 ∧ zC [1] Z Z1 ∧ zU [] Z Z1) Z1 := by
  obtain ⟨P, hP⟩ := zx (zy_444 Z a1 a2)
  refine zc_Y (Q := fun Z1 => zM s Z1 ∧ zC [1] Z Z1 ∧ zU [] Z Z1) hP (fw_444 (i3 a1) (i3 a2) _ _ ?_)
  replace hP : zE P (zy_444 Z a1 a2) := hP
  unfold zy_444 at hP
  have r1 := zM_k hZ 1 0 0 35 (lo := 0) (hi := 1) (by decide) rfl
  have r2 := zM_k hZ 1 0 0 34 (lo := 0) (hi := 8) (by decide) rfl
  have r3 := zM_f hZ 1 0 0 37
  refine wz_br (i3L (rfl : i3 a1 = i3 a1) (show (0 : Int32) = i3 0 from rfl) (by omega) (by omega) (by omega) (by omega)) (fun h4 => ?_) (fun h4 => ?_)
  · replace hP := zE_p hP h4
    obtain ⟨Z5, hZ5⟩ := zx (zu Z 1 0 0 2 1)
    replace hP := zl_e hP hZ5
    have hZ5I := zM_u hZ hZ5 (lo := -2147483648) (hi := 2147483647) (by decide) rfl (by omega) ⟨by decide, by decide⟩ (Or.inr (by decide)) rfl
    have hZ5U : zU [] Z Z5 := zU_u zU_r hZ5 (Or.inl rfl)
    have hZ5K : zC [1] Z Z5 := zC_u zC_r hZ5 (by decide)
    intro μ9 e9
    replace e9 := e9.trans (zm_wI (Z := Z) (ν := ν) hZ5 (show ((0 : Nat) : Int) = 0 from rfl) (show ((0 : Nat) : Int) = 0 from rfl) (show ((2 : Nat) : Int) = 2 from rfl) (show (1 : Int32) = i3 1 from rfl))
    subst e9
    exact zlY hP (show (0 : Int32) = i3 0 from rfl) (.inl rfl) ⟨hZ5I, hZ5K, hZ5U⟩
  · replace hP := zE_n hP h4
    have r6 := zM_k hZ 2 0 0 101 (lo := 0) (hi := 6) (by decide) rfl
    refine wz_br (i3L (i3S (zm_rd (Z := Z) (ν := ν) (k := 2) (show ((0 : Nat) : Int) = 0 from rfl) (show ((0 : Nat) : Int) = 0 from rfl) (show ((101 : Nat) : Int) = 101 from rfl)) (show (1 : Int32) = i3 1 from rfl)) (rfl : i3 a1 = i3 a1) (by omega) (by omega) (by omega) (by omega)) (fun h7 => ?_) (fun h7 => ?_)
    · replace hP := zE_p hP h7
      obtain ⟨Z8, hZ8⟩ := zx (zu Z 1 0 0 2 1)
      replace hP := zl_e hP hZ8
      have hZ8I := zM_u hZ hZ8 (lo := -2147483648) (hi := 2147483647) (by decide) rfl (by omega) ⟨by decide, by decide⟩ (Or.inr (by decide)) rfl
      have hZ8U : zU [] Z Z8 := zU_u zU_r hZ8 (Or.inl rfl)
      have hZ8K : zC [1] Z Z8 := zC_u zC_r hZ8 (by decide)
      intro μ9 e9
      replace e9 := e9.trans (zm_wI (Z := Z) (ν := ν) hZ8 (show ((0 : Nat) : Int) = 0 from rfl) (show ((0 : Nat) : Int) = 0 from rfl) (show ((2 : Nat) : Int) = 2 from rfl) (show (1 : Int32) = i3 1 from rfl))
      subst e9
      exact zlY hP (show (0 : Int32) = i3 0 from rfl) (.inl rfl) ⟨hZ8I, hZ8K, hZ8U⟩
    · replace hP := zE_n hP h7
      obtain ⟨Z9, hZ9⟩ := zx (zu Z 1 0 0 2 0)
      replace hP := zl_e hP hZ9
      have hZ9I := zM_0 hZ hZ9 (by decide) (Or.inr (by decide))
      have hZ9U : zU [] Z Z9 := zU_u zU_r hZ9 (Or.inl rfl)
      have hZ9K : zC [1] Z Z9 := zC_u zC_r hZ9 (by decide)
      intro μ9 e9
      replace e9 := e9.trans (zm_wI (Z := Z) (ν := ν) hZ9 (show ((0 : Nat) : Int) = 0 from rfl) (show ((0 : Nat) : Int) = 0 from rfl) (show ((2 : Nat) : Int) = 2 from rfl) (show (0 : Int32) = i3 0 from rfl))
      subst e9
      refine wz_br (i3L (rfl : i3 a2 = i3 a2) (show (0 : Int32) = i3 0 from rfl) (by omega) (by omega) (by omega) (by omega)) (fun h10 => ?_) (fun h10 => ?_)
      · replace hP := zE_p hP h10
        obtain ⟨Z11, hZ11⟩ := zx (zu Z9 1 0 0 2 2)
        replace hP := zl_e hP hZ11
        have hZ11I := zM_u hZ9I hZ11 (lo := -2147483648) (hi := 2147483647) (by decide) rfl (by omega) ⟨by decide, by decide⟩ (Or.inr (by decide)) rfl
        have hZ11U : zU [] Z Z11 := zU_u hZ9U hZ11 (Or.inl rfl)
        have hZ11K : zC [1] Z Z11 := zC_u hZ9K hZ11 (by decide)
        intro μ9 e9
        replace e9 := e9.trans (zm_wI (Z := Z9) (ν := ν) hZ11 (show ((0 : Nat) : Int) = 0 from rfl) (show ((0 : Nat) : Int) = 0 from rfl) (show ((2 : Nat) : Int) = 2 from rfl) (show (2 : Int32) = i3 2 from rfl))
        subst e9
        exact zlY hP (show (0 : Int32) = i3 0 from rfl) (.inl rfl) ⟨hZ11I, hZ11K, hZ11U⟩
      · replace hP := zE_n hP h10
        refine wz_br (i3L (show (4 : Int32) = i3 4 from rfl) (rfl : i3 a2 = i3 a2) (by omega) (by omega) (by omega) (by omega)) (fun h12 => ?_) (fun h12 => ?_)
        · replace hP := zE_p hP h12
          obtain ⟨Z13, hZ13⟩ := zx (zu Z9 1 0 0 2 2)
          replace hP := zl_e hP hZ13
          have hZ13I := zM_u hZ9I hZ13 (lo := -2147483648) (hi := 2147483647) (by decide) rfl (by omega) ⟨by decide, by decide⟩ (Or.inr (by decide)) rfl
          have hZ13U : zU [] Z Z13 := zU_u hZ9U hZ13 (Or.inl rfl)
          have hZ13K : zC [1] Z Z13 := zC_u hZ9K hZ13 (by decide)
          intro μ9 e9
          replace e9 := e9.trans (zm_wI (Z := Z9) (ν := ν) hZ13 (show ((0 : Nat) : Int) = 0 from rfl) (show ((0 : Nat) : Int) = 0 from rfl) (show ((2 : Nat) : Int) = 2 from rfl) (show (2 : Int32) = i3 2 from rfl))
          subst e9
          exact zlY hP (show (0 : Int32) = i3 0 from rfl) (.inl rfl) ⟨hZ13I, hZ13K, hZ13U⟩
        · replace hP := zE_n hP h12
          obtain ⟨Z14, hZ14⟩ := zx (zu Z9 1 0 0 2 0)
          replace hP := zl_e hP hZ14
          have hZ14I := zM_0 hZ9I hZ14 (by decide) (Or.inr (by decide))
          have hZ14U : zU [] Z Z14 := zU_u hZ9U hZ14 (Or.inl rfl)
          have hZ14K : zC [1] Z Z14 := zC_u hZ9K hZ14 (by decide)
          intro μ9 e9
          replace e9 := e9.trans (zm_wI (Z := Z9) (ν := ν) hZ14 (show ((0 : Nat) : Int) = 0 from rfl) (show ((0 : Nat) : Int) = 0 from rfl) (show ((2 : Nat) : Int) = 2 from rfl) (show (0 : Int32) = i3 0 from rfl))
          subst e9
          refine wz_i0 (i3O (n := 4400) (i3A (i3A (show (3820 : Int32) = i3 3820 from rfl) (i3M (show (5 : Int32) = i3 5 from rfl) (rfl : i3 a1 = i3 a1))) (rfl : i3 a2 = i3 a2)) (by omega) (by omega) (by omega)) ?_
          have r15 := zM_f hZ14I 2 0 0 (3820 + 5 * a1 + a2)
          exact zlY hP (zm_rd (Z := Z14) (ν := ν) (k := 2) (show ((0 : Nat) : Int) = 0 from rfl) (show ((0 : Nat) : Int) = 0 from rfl) (i3I (y := (3820 + 5 * a1 + a2)) (i3A (i3A (show (3820 : Int32) = i3 3820 from rfl) (i3M (show (5 : Int32) = i3 5 from rfl) (rfl : i3 a1 = i3 a1))) (rfl : i3 a2 = i3 a2)) (by omega) (by omega) (by omega))) (.inl rfl) ⟨hZ14I, hZ14K, hZ14U⟩
/- yX12_bOpenBills -/
def zl_278_1 (x1 : Int) : Nat → qz_Z → Int → Int → Int × Int
  | 0, Z, x2, x3 => (x2, x3)
  | m + 1, Z, x2, x3 => (if (Z 2 0 0 2000) ≤ x3 then (x2, x3) else (if (Z 2 0 0 (2011 + 16 * x3)) ≠ x1 then zl_278_1 x1 m Z (x2 + 0) (x3 + 1) else (if (Z 2 0 0 (1810 + 2 * x3)) ≤ 0 then zl_278_1 x1 m Z (x2 + 0) (x3 + 1) else zl_278_1 x1 m Z (x2 + 1) (x3 + 1))))
theorem sl_278_1 {s : zSM} {Z : qz_Z} {ν : qz_N} (hZ : zM s Z) (hM : s.2 + 0 ≤ 1000000000) {x1 : Int} (gx1 : 0 ≤ x1 ∧ x1 ≤ 7) {x2 : Int} (gx2 : 0 ≤ x2 ∧ x2 ≤ 60) {x3 : Int} (gx3 : 0 ≤ x3 ∧ x3 ≤ 60) (gr0 : x2 ≤ x3) {k : wz_K} {R : wz_R} {L : qz_L} (hL : qz_fg [true, true, true, true] L = [some (.inr (.inr (some (1, 0, 0)))), some (.inl (i3 x1)), some (.inl (i3 x2)), some (.inl (i3 x3))]) {T : Int × Int} (hP : zE T (zl_278_1 x1 ((60 - x3).toNat + 1) Z x2 x3)) (hk : ∀ (L9 : qz_L) (yx2 yx3 : Int), qz_fg [false, false, true, false] L9 = [none, none, some (.inl (i3 yx2)), none] → (0 ≤ yx2 ∧ yx2 ≤ 60) → (0 ≤ yx3 ∧ yx3 ≤ 60) → (yx2 ≤ yx3) → zE T ((yx2, yx3)) → k 0 (L9, [], zm Z ν)) : wz_loop qb_278_1 65536 k R (L, [], zm Z ν) := by
  refine wz_lp sb_278_1 (fun m x => ∃ x2 : Int, ∃ x3 : Int, qz_fg [true, true, true, true] x.1 = [some (.inr (.inr (some (1, 0, 0)))), some (.inl (i3 x1)), some (.inl (i3 x2)), some (.inl (i3 x3))] ∧ x.2 = ([], zm Z ν) ∧ m = (60 - x3).toNat ∧ (0 ≤ x2 ∧ x2 ≤ 60) ∧ (0 ≤ x3 ∧ x3 ≤ 60) ∧ (x2 ≤ x3) ∧ zE T (zl_278_1 x1 (m + 1) Z x2 x3)) ?_ 65536 ((60 - x3).toNat) _ (by omega) ⟨x2, x3, hL, rfl, rfl, gx2, gx3, gr0, hP⟩
  clear hP gr0 gx2 gx3 hL
  clear x2 x3
  rintro m ⟨L, st, μ⟩ ⟨x2, x3, hL, hx, hm, gx2, gx3, gr0, hP⟩
  cases hx
  refine fb_278_1 (i3 x1) (i3 x2) (i3 x3) _ _ _ _ hL ?_
  have r1 := zM_k hZ 2 0 0 2000 (lo := 0) (hi := 60) (by decide) rfl
  refine wz_br (i3Le (zm_rd (Z := Z) (ν := ν) (k := 2) (show ((0 : Nat) : Int) = 0 from rfl) (show ((0 : Nat) : Int) = 0 from rfl) (show ((2000 : Nat) : Int) = 2000 from rfl)) (rfl : i3 x3 = i3 x3) (by omega) (by omega) (by omega) (by omega)) (fun h2 => ?_) (fun h2 => ?_)
  · replace hP := zE_p hP h2
    exact hk _ _ _ (zconso rfl (zconso rfl (zconso (zvo (rfl : i3 x2 = i3 x2)) (zconso rfl rfl))))  (by omega) (by omega) (by omega) hP
  · replace hP := zE_n hP h2
    refine wz_i0 (i3O (n := 4400) (i3A (i3A (show (2010 : Int32) = i3 2010 from rfl) (i3M (show (16 : Int32) = i3 16 from rfl) (rfl : i3 x3 = i3 x3))) (show (1 : Int32) = i3 1 from rfl)) (by omega) (by omega) (by omega)) ?_
    have r3 := zM_k hZ 2 0 0 (2011 + 16 * x3) (lo := 0) (hi := 7) (by decide) (zs_2010_1 (x := x3) (by omega) (by omega) (by omega))
    refine wz_br (i3NE (zm_rd (Z := Z) (ν := ν) (k := 2) (show ((0 : Nat) : Int) = 0 from rfl) (show ((0 : Nat) : Int) = 0 from rfl) (i3I (y := (2011 + 16 * x3)) (i3A (i3A (show (2010 : Int32) = i3 2010 from rfl) (i3M (show (16 : Int32) = i3 16 from rfl) (rfl : i3 x3 = i3 x3))) (show (1 : Int32) = i3 1 from rfl)) (by omega) (by omega) (by omega))) (rfl : i3 x1 = i3 x1) (by omega) (by omega) (by omega) (by omega)) (fun h4 => ?_) (fun h4 => ?_)
    · replace hP := zE_p hP h4
      obtain ⟨m2, rfl⟩ : ∃ m2, m = m2 + 1 := ⟨m - 1, by omega⟩
      exact wz_k1 ⟨m2, by omega, (x2 + 0), (x3 + 1), (zconso rfl (zconso (zvo (rfl : i3 x1 = i3 x1)) (zconso (zvo (i3A (rfl : i3 x2 = i3 x2) (show (0 : Int32) = i3 0 from rfl))) (zconso (zvo (i3A (rfl : i3 x3 = i3 x3) (show (1 : Int32) = i3 1 from rfl))) rfl)))), rfl,  by omega, by omega, by omega, by omega,  hP⟩
    · replace hP := zE_n hP h4
      refine wz_i0 (i3O (n := 4400) (i3A (show (1810 : Int32) = i3 1810 from rfl) (i3M (show (2 : Int32) = i3 2 from rfl) (rfl : i3 x3 = i3 x3))) (by omega) (by omega) (by omega)) ?_
      have r5 := zM_f hZ 2 0 0 (1810 + 2 * x3)
      refine wz_br (i3Le (zm_rd (Z := Z) (ν := ν) (k := 2) (show ((0 : Nat) : Int) = 0 from rfl) (show ((0 : Nat) : Int) = 0 from rfl) (i3I (y := (1810 + 2 * x3)) (i3A (show (1810 : Int32) = i3 1810 from rfl) (i3M (show (2 : Int32) = i3 2 from rfl) (rfl : i3 x3 = i3 x3))) (by omega) (by omega) (by omega))) (show (0 : Int32) = i3 0 from rfl) (by omega) (by omega) (by omega) (by omega)) (fun h6 => ?_) (fun h6 => ?_)
      · replace hP := zE_p hP h6
        obtain ⟨m2, rfl⟩ : ∃ m2, m = m2 + 1 := ⟨m - 1, by omega⟩
        exact wz_k1 ⟨m2, by omega, (x2 + 0), (x3 + 1), (zconso rfl (zconso (zvo (rfl : i3 x1 = i3 x1)) (zconso (zvo (i3A (rfl : i3 x2 = i3 x2) (show (0 : Int32) = i3 0 from rfl))) (zconso (zvo (i3A (rfl : i3 x3 = i3 x3) (show (1 : Int32) = i3 1 from rfl))) rfl)))), rfl,  by omega, by omega, by omega, by omega,  hP⟩
      · replace hP := zE_n hP h6
        obtain ⟨m2, rfl⟩ : ∃ m2, m = m2 + 1 := ⟨m - 1, by omega⟩
        exact wz_k1 ⟨m2, by omega, (x2 + 1), (x3 + 1), (zconso rfl (zconso (zvo (rfl : i3 x1 = i3 x1)) (zconso (zvo (i3A (rfl : i3 x2 = i3 x2) (show (1 : Int32) = i3 1 from rfl))) (zconso (zvo (i3A (rfl : i3 x3 = i3 x3) (show (1 : Int32) = i3 1 from rfl))) rfl)))), rfl,  by omega, by omega, by omega, by omega,  hP⟩
/- yX12_bOpenBills -/
def zf_278 (Z : qz_Z) (a1 : Int) : Int := (zlet2 (zl_278_1 a1 61 Z 0 0) (fun y1 y2 => y1))
theorem sp_278 {s : zSM} {Z : qz_Z} {ν : qz_N} (hZ : zM s Z) {a1 : Int} (ga1 : 0 ≤ a1 ∧ a1 ≤ 7) (hM : s.2 + 0 ≤ 1000000000) : ∃ P : Int, P = zf_278 Z a1 ∧ (qf_278 [.inr (.inr (some (1, 0, 0))), .inl (i3 a1)] (zm Z ν) = some (zm Z ν, .inl (some (.inl (i3 P)))) ∧ 0 ≤ P ∧ P ≤ 60) := by
  obtain ⟨P, hP⟩ := zx (zf_278 Z a1)
  refine zc_R (Q := fun P => 0 ≤ P ∧ P ≤ 60) hP (fw_278 (i3 a1) _ _ ?_)
  replace hP : zE P (zf_278 Z a1) := hP
  unfold zf_278 at hP
  refine sl_278_1 (ν := ν) hZ (zbh (c := 0) (k := 0) hM (Nat.le_of_ble_eq_true rfl)) (x1 := a1) (by omega) (x2 := 0) (by omega) (x3 := 0) (by omega) (by omega) (zconso rfl (zconso (zvo (rfl : i3 a1 = i3 a1)) (zconso (zvo (show (0 : Int32) = i3 0 from rfl)) (zconso (zvo (show (0 : Int32) = i3 0 from rfl)) rfl)))) rfl ?_
  intro L3 y1 y2 hL3 gy1 gy2 gL3_0 q9
  replace hP := zl_e2 hP (Eq.symm q9)
  clear q9
  refine fc_278_2 (i3 y1) _ _ _ _ hL3 ?_
  exact zlR hP (rfl : i3 y1 = i3 y1) ⟨by omega, by omega⟩
/- yX12_bOrders -/
def zl_279_1 (x1 : Int) : Nat → qz_Z → Int → Int → Int × Int
  | 0, Z, x2, x3 => (x2, x3)
  | m + 1, Z, x2, x3 => (if (Z 2 0 0 1401) ≤ x3 then (x2, x3) else (if (Z 2 0 0 (1510 + 12 * x3)) ≠ x1 then zl_279_1 x1 m Z (x2 + 0) (x3 + 1) else zl_279_1 x1 m Z (x2 + 1) (x3 + 1)))
theorem sl_279_1 {s : zSM} {Z : qz_Z} {ν : qz_N} (hZ : zM s Z) (hM : s.2 + 0 ≤ 1000000000) {x1 : Int} (gx1 : 0 ≤ x1 ∧ x1 ≤ 7) {x2 : Int} (gx2 : 0 ≤ x2 ∧ x2 ≤ 24) {x3 : Int} (gx3 : 0 ≤ x3 ∧ x3 ≤ 24) (gr0 : x2 ≤ x3) {k : wz_K} {R : wz_R} {L : qz_L} (hL : qz_fg [true, true, true, true] L = [some (.inr (.inr (some (1, 0, 0)))), some (.inl (i3 x1)), some (.inl (i3 x2)), some (.inl (i3 x3))]) {T : Int × Int} (hP : zE T (zl_279_1 x1 ((24 - x3).toNat + 1) Z x2 x3)) (hk : ∀ (L9 : qz_L) (yx2 yx3 : Int), qz_fg [false, false, true, false] L9 = [none, none, some (.inl (i3 yx2)), none] → (0 ≤ yx2 ∧ yx2 ≤ 24) → (0 ≤ yx3 ∧ yx3 ≤ 24) → (yx2 ≤ yx3) → zE T ((yx2, yx3)) → k 0 (L9, [], zm Z ν)) : wz_loop qb_279_1 65536 k R (L, [], zm Z ν) := by
  refine wz_lp sb_279_1 (fun m x => ∃ x2 : Int, ∃ x3 : Int, qz_fg [true, true, true, true] x.1 = [some (.inr (.inr (some (1, 0, 0)))), some (.inl (i3 x1)), some (.inl (i3 x2)), some (.inl (i3 x3))] ∧ x.2 = ([], zm Z ν) ∧ m = (24 - x3).toNat ∧ (0 ≤ x2 ∧ x2 ≤ 24) ∧ (0 ≤ x3 ∧ x3 ≤ 24) ∧ (x2 ≤ x3) ∧ zE T (zl_279_1 x1 (m + 1) Z x2 x3)) ?_ 65536 ((24 - x3).toNat) _ (by omega) ⟨x2, x3, hL, rfl, rfl, gx2, gx3, gr0, hP⟩
  clear hP gr0 gx2 gx3 hL
  clear x2 x3
  rintro m ⟨L, st, μ⟩ ⟨x2, x3, hL, hx, hm, gx2, gx3, gr0, hP⟩
  cases hx
  refine fb_279_1 (i3 x1) (i3 x2) (i3 x3) _ _ _ _ hL ?_
  have r1 := zM_k hZ 2 0 0 1401 (lo := 0) (hi := 24) (by decide) rfl
  refine wz_br (i3Le (zm_rd (Z := Z) (ν := ν) (k := 2) (show ((0 : Nat) : Int) = 0 from rfl) (show ((0 : Nat) : Int) = 0 from rfl) (show ((1401 : Nat) : Int) = 1401 from rfl)) (rfl : i3 x3 = i3 x3) (by omega) (by omega) (by omega) (by omega)) (fun h2 => ?_) (fun h2 => ?_)
  · replace hP := zE_p hP h2
    exact hk _ _ _ (zconso rfl (zconso rfl (zconso (zvo (rfl : i3 x2 = i3 x2)) (zconso rfl rfl))))  (by omega) (by omega) (by omega) hP
  · replace hP := zE_n hP h2
    refine wz_i0 (i3O (n := 4400) (i3A (i3A (show (1510 : Int32) = i3 1510 from rfl) (i3M (show (12 : Int32) = i3 12 from rfl) (rfl : i3 x3 = i3 x3))) (show (0 : Int32) = i3 0 from rfl)) (by omega) (by omega) (by omega)) ?_
    have r3 := zM_k hZ 2 0 0 (1510 + 12 * x3) (lo := 0) (hi := 7) (by decide) (zs_1510_0 (x := x3) (by omega) (by omega) (by omega))
    refine wz_br (i3NE (zm_rd (Z := Z) (ν := ν) (k := 2) (show ((0 : Nat) : Int) = 0 from rfl) (show ((0 : Nat) : Int) = 0 from rfl) (i3I (y := (1510 + 12 * x3)) (i3A (i3A (show (1510 : Int32) = i3 1510 from rfl) (i3M (show (12 : Int32) = i3 12 from rfl) (rfl : i3 x3 = i3 x3))) (show (0 : Int32) = i3 0 from rfl)) (by omega) (by omega) (by omega))) (rfl : i3 x1 = i3 x1) (by omega) (by omega) (by omega) (by omega)) (fun h4 => ?_) (fun h4 => ?_)
    · replace hP := zE_p hP h4
      obtain ⟨m2, rfl⟩ : ∃ m2, m = m2 + 1 := ⟨m - 1, by omega⟩
      exact wz_k1 ⟨m2, by omega, (x2 + 0), (x3 + 1), (zconso rfl (zconso (zvo (rfl : i3 x1 = i3 x1)) (zconso (zvo (i3A (rfl : i3 x2 = i3 x2) (show (0 : Int32) = i3 0 from rfl))) (zconso (zvo (i3A (rfl : i3 x3 = i3 x3) (show (1 : Int32) = i3 1 from rfl))) rfl)))), rfl,  by omega, by omega, by omega, by omega,  hP⟩
    · replace hP := zE_n hP h4
      obtain ⟨m2, rfl⟩ : ∃ m2, m = m2 + 1 := ⟨m - 1, by omega⟩
      exact wz_k1 ⟨m2, by omega, (x2 + 1), (x3 + 1), (zconso rfl (zconso (zvo (rfl : i3 x1 = i3 x1)) (zconso (zvo (i3A (rfl : i3 x2 = i3 x2) (show (1 : Int32) = i3 1 from rfl))) (zconso (zvo (i3A (rfl : i3 x3 = i3 x3) (show (1 : Int32) = i3 1 from rfl))) rfl)))), rfl,  by omega, by omega, by omega, by omega,  hP⟩
/- yX12_bOrders -/
def zf_279 (Z : qz_Z) (a1 : Int) : Int := (zlet2 (zl_279_1 a1 25 Z 0 0) (fun y1 y2 => y1))
theorem sp_279 {s : zSM} {Z : qz_Z} {ν : qz_N} (hZ : zM s Z) {a1 : Int} (ga1 : 0 ≤ a1 ∧ a1 ≤ 7) (hM : s.2 + 0 ≤ 1000000000) : ∃ P : Int, P = zf_279 Z a1 ∧ (qf_279 [.inr (.inr (some (1, 0, 0))), .inl (i3 a1)] (zm Z ν) = some (zm Z ν, .inl (some (.inl (i3 P)))) ∧ 0 ≤ P ∧ P ≤ 24) := by
  obtain ⟨P, hP⟩ := zx (zf_279 Z a1)
  refine zc_R (Q := fun P => 0 ≤ P ∧ P ≤ 24) hP (fw_279 (i3 a1) _ _ ?_)
  replace hP : zE P (zf_279 Z a1) := hP
  unfold zf_279 at hP
  refine sl_279_1 (ν := ν) hZ (zbh (c := 0) (k := 0) hM (Nat.le_of_ble_eq_true rfl)) (x1 := a1) (by omega) (x2 := 0) (by omega) (x3 := 0) (by omega) (by omega) (zconso rfl (zconso (zvo (rfl : i3 a1 = i3 a1)) (zconso (zvo (show (0 : Int32) = i3 0 from rfl)) (zconso (zvo (show (0 : Int32) = i3 0 from rfl)) rfl)))) rfl ?_
  intro L3 y1 y2 hL3 gy1 gy2 gL3_0 q9
  replace hP := zl_e2 hP (Eq.symm q9)
  clear q9
  refine fc_279_2 (i3 y1) _ _ _ _ hL3 ?_
  exact zlR hP (rfl : i3 y1 = i3 y1) ⟨by omega, by omega⟩
/- yX12_bOverdue -/
def zl_280_1 (x1 : Int) : Nat → qz_Z → Int → Int → Int × Int
  | 0, Z, x2, x3 => (x2, x3)
  | m + 1, Z, x2, x3 => (if (Z 2 0 0 2000) ≤ x3 then (x2, x3) else (if (Z 2 0 0 (2011 + 16 * x3)) ≠ x1 then zl_280_1 x1 m Z (x2 + 0) (x3 + 1) else (if ((Z 2 0 0 0) / 24) ≤ (Z 2 0 0 (1811 + 2 * x3)) then zl_280_1 x1 m Z (x2 + 0) (x3 + 1) else zl_280_1 x1 m Z (w3 (x2 + (Z 2 0 0 (1810 + 2 * x3)))) (x3 + 1))))
theorem sl_280_1 {s : zSM} {Z : qz_Z} {ν : qz_N} (hZ : zM s Z) (hM : s.2 + 0 ≤ 1000000000) {x1 : Int} (gx1 : 0 ≤ x1 ∧ x1 ≤ 7) {x2 : Int} (gx2 : -2147483648 ≤ x2 ∧ x2 ≤ 2147483647) {x3 : Int} (gx3 : 0 ≤ x3 ∧ x3 ≤ 60) {k : wz_K} {R : wz_R} {L : qz_L} (hL : qz_fg [true, true, true, true] L = [some (.inr (.inr (some (1, 0, 0)))), some (.inl (i3 x1)), some (.inl (i3 x2)), some (.inl (i3 x3))]) {T : Int × Int} (hP : zE T (zl_280_1 x1 ((60 - x3).toNat + 1) Z x2 x3)) (hk : ∀ (L9 : qz_L) (yx2 yx3 : Int), qz_fg [false, false, true, false] L9 = [none, none, some (.inl (i3 yx2)), none] → (-2147483648 ≤ yx2 ∧ yx2 ≤ 2147483647) → (0 ≤ yx3 ∧ yx3 ≤ 60) → zE T ((yx2, yx3)) → k 0 (L9, [], zm Z ν)) : wz_loop qb_280_1 65536 k R (L, [], zm Z ν) := by
  refine wz_lp sb_280_1 (fun m x => ∃ x2 : Int, ∃ x3 : Int, qz_fg [true, true, true, true] x.1 = [some (.inr (.inr (some (1, 0, 0)))), some (.inl (i3 x1)), some (.inl (i3 x2)), some (.inl (i3 x3))] ∧ x.2 = ([], zm Z ν) ∧ m = (60 - x3).toNat ∧ (-2147483648 ≤ x2 ∧ x2 ≤ 2147483647) ∧ (0 ≤ x3 ∧ x3 ≤ 60) ∧ zE T (zl_280_1 x1 (m + 1) Z x2 x3)) ?_ 65536 ((60 - x3).toNat) _ (by omega) ⟨x2, x3, hL, rfl, rfl, gx2, gx3, hP⟩
  clear hP gx2 gx3 hL
  clear x2 x3
  rintro m ⟨L, st, μ⟩ ⟨x2, x3, hL, hx, hm, gx2, gx3, hP⟩
  cases hx
  refine fb_280_1 (i3 x1) (i3 x2) (i3 x3) _ _ _ _ hL ?_
  have r1 := zM_k hZ 2 0 0 2000 (lo := 0) (hi := 60) (by decide) rfl
  refine wz_br (i3Le (zm_rd (Z := Z) (ν := ν) (k := 2) (show ((0 : Nat) : Int) = 0 from rfl) (show ((0 : Nat) : Int) = 0 from rfl) (show ((2000 : Nat) : Int) = 2000 from rfl)) (rfl : i3 x3 = i3 x3) (by omega) (by omega) (by omega) (by omega)) (fun h2 => ?_) (fun h2 => ?_)
  · replace hP := zE_p hP h2
    exact hk _ _ _ (zconso rfl (zconso rfl (zconso (zvo (rfl : i3 x2 = i3 x2)) (zconso rfl rfl))))  (by omega) (by omega)  hP
  · replace hP := zE_n hP h2
    refine wz_i0 (i3O (n := 4400) (i3A (i3A (show (2010 : Int32) = i3 2010 from rfl) (i3M (show (16 : Int32) = i3 16 from rfl) (rfl : i3 x3 = i3 x3))) (show (1 : Int32) = i3 1 from rfl)) (by omega) (by omega) (by omega)) ?_
    have r3 := zM_k hZ 2 0 0 (2011 + 16 * x3) (lo := 0) (hi := 7) (by decide) (zs_2010_1 (x := x3) (by omega) (by omega) (by omega))
    refine wz_br (i3NE (zm_rd (Z := Z) (ν := ν) (k := 2) (show ((0 : Nat) : Int) = 0 from rfl) (show ((0 : Nat) : Int) = 0 from rfl) (i3I (y := (2011 + 16 * x3)) (i3A (i3A (show (2010 : Int32) = i3 2010 from rfl) (i3M (show (16 : Int32) = i3 16 from rfl) (rfl : i3 x3 = i3 x3))) (show (1 : Int32) = i3 1 from rfl)) (by omega) (by omega) (by omega))) (rfl : i3 x1 = i3 x1) (by omega) (by omega) (by omega) (by omega)) (fun h4 => ?_) (fun h4 => ?_)
    · replace hP := zE_p hP h4
      obtain ⟨m2, rfl⟩ : ∃ m2, m = m2 + 1 := ⟨m - 1, by omega⟩
      exact wz_k1 ⟨m2, by omega, (x2 + 0), (x3 + 1), (zconso rfl (zconso (zvo (rfl : i3 x1 = i3 x1)) (zconso (zvo (i3A (rfl : i3 x2 = i3 x2) (show (0 : Int32) = i3 0 from rfl))) (zconso (zvo (i3A (rfl : i3 x3 = i3 x3) (show (1 : Int32) = i3 1 from rfl))) rfl)))), rfl,  by omega, by omega, by omega,  hP⟩
    · replace hP := zE_n hP h4
      refine wz_i0 (i3O (n := 4400) (i3A (i3A (show (1810 : Int32) = i3 1810 from rfl) (i3M (show (2 : Int32) = i3 2 from rfl) (rfl : i3 x3 = i3 x3))) (show (1 : Int32) = i3 1 from rfl)) (by omega) (by omega) (by omega)) ?_
      have r5 := zM_k hZ 2 0 0 0 (lo := 0) (hi := 671) (by decide) rfl
      have r6 := zM_k hZ 2 0 0 (1811 + 2 * x3) (lo := 0) (hi := 41) (by decide) (zs_1810_1 (x := x3) (by omega) (by omega) (by omega))
      refine wz_br (i3Le (i3D (zm_rd (Z := Z) (ν := ν) (k := 2) (show ((0 : Nat) : Int) = 0 from rfl) (show ((0 : Nat) : Int) = 0 from rfl) (show ((0 : Nat) : Int) = 0 from rfl)) (show (24 : Int32) = i3 24 from rfl) (by omega) (by omega) (by omega) (by omega)) (zm_rd (Z := Z) (ν := ν) (k := 2) (show ((0 : Nat) : Int) = 0 from rfl) (show ((0 : Nat) : Int) = 0 from rfl) (i3I (y := (1811 + 2 * x3)) (i3A (i3A (show (1810 : Int32) = i3 1810 from rfl) (i3M (show (2 : Int32) = i3 2 from rfl) (rfl : i3 x3 = i3 x3))) (show (1 : Int32) = i3 1 from rfl)) (by omega) (by omega) (by omega))) (by omega) (by omega) (by omega) (by omega)) (fun h7 => ?_) (fun h7 => ?_)
      · replace hP := zE_p hP h7
        obtain ⟨m2, rfl⟩ : ∃ m2, m = m2 + 1 := ⟨m - 1, by omega⟩
        exact wz_k1 ⟨m2, by omega, (x2 + 0), (x3 + 1), (zconso rfl (zconso (zvo (rfl : i3 x1 = i3 x1)) (zconso (zvo (i3A (rfl : i3 x2 = i3 x2) (show (0 : Int32) = i3 0 from rfl))) (zconso (zvo (i3A (rfl : i3 x3 = i3 x3) (show (1 : Int32) = i3 1 from rfl))) rfl)))), rfl,  by omega, by omega, by omega,  hP⟩
      · replace hP := zE_n hP h7
        refine wz_i0 (i3O (n := 4400) (i3A (show (1810 : Int32) = i3 1810 from rfl) (i3M (show (2 : Int32) = i3 2 from rfl) (rfl : i3 x3 = i3 x3))) (by omega) (by omega) (by omega)) ?_
        have r8 := zM_f hZ 2 0 0 (1810 + 2 * x3)
        have r9 := w3_r (x2 + (Z 2 0 0 (1810 + 2 * x3)))
        obtain ⟨m2, rfl⟩ : ∃ m2, m = m2 + 1 := ⟨m - 1, by omega⟩
        exact wz_k1 ⟨m2, by omega, (w3 (x2 + (Z 2 0 0 (1810 + 2 * x3)))), (x3 + 1), (zconso rfl (zconso (zvo (rfl : i3 x1 = i3 x1)) (zconso (zvo (i3W (i3A (rfl : i3 x2 = i3 x2) (zm_rd (Z := Z) (ν := ν) (k := 2) (show ((0 : Nat) : Int) = 0 from rfl) (show ((0 : Nat) : Int) = 0 from rfl) (i3I (y := (1810 + 2 * x3)) (i3A (show (1810 : Int32) = i3 1810 from rfl) (i3M (show (2 : Int32) = i3 2 from rfl) (rfl : i3 x3 = i3 x3))) (by omega) (by omega) (by omega)))))) (zconso (zvo (i3A (rfl : i3 x3 = i3 x3) (show (1 : Int32) = i3 1 from rfl))) rfl)))), rfl,  by omega, by omega, by omega,  hP⟩
/- yX12_bOverdue -/
def zf_280 (Z : qz_Z) (a1 : Int) : Int := (zlet2 (zl_280_1 a1 61 Z 0 0) (fun y1 y2 => y1))
theorem sp_280 {s : zSM} {Z : qz_Z} {ν : qz_N} (hZ : zM s Z) {a1 : Int} (ga1 : 0 ≤ a1 ∧ a1 ≤ 7) (hM : s.2 + 0 ≤ 1000000000) : ∃ P : Int, P = zf_280 Z a1 ∧ (qf_280 [.inr (.inr (some (1, 0, 0))), .inl (i3 a1)] (zm Z ν) = some (zm Z ν, .inl (some (.inl (i3 P)))) ∧ -2147483648 ≤ P ∧ P ≤ 2147483647) := by
  obtain ⟨P, hP⟩ := zx (zf_280 Z a1)
  refine zc_R (Q := fun P => -2147483648 ≤ P ∧ P ≤ 2147483647) hP (fw_280 (i3 a1) _ _ ?_)
  replace hP : zE P (zf_280 Z a1) := hP
  unfold zf_280 at hP
  refine sl_280_1 (ν := ν) hZ (zbh (c := 0) (k := 0) hM (Nat.le_of_ble_eq_true rfl)) (x1 := a1) (by omega) (x2 := 0) (by omega) (x3 := 0) (by omega)  (zconso rfl (zconso (zvo (rfl : i3 a1 = i3 a1)) (zconso (zvo (show (0 : Int32) = i3 0 from rfl)) (zconso (zvo (show (0 : Int32) = i3 0 from rfl)) rfl)))) rfl ?_
  intro L3 y1 y2 hL3 gy1 gy2 q9
  replace hP := zl_e2 hP (Eq.symm q9)
  clear q9
  refine fc_280_2 (i3 y1) _ _ _ _ hL3 ?_
  exact zlR hP (rfl : i3 y1 = i3 y1) ⟨by omega, by omega⟩
/- yX12_owes -/
def zy_445 (Z : qz_Z) (a1 : Int) (a2 : Int) : qz_Z × Int := (if a1 < 0 then (zlet (zu Z 1 0 0 2 1) (fun Z5 => (Z5, 0))) else (if ((Z 2 0 0 1400) - 1) < a1 then (zlet (zu Z 1 0 0 2 1) (fun Z8 => (Z8, 0))) else (zlet (zu Z 1 0 0 2 0) (fun Z9 => (if a2 < 0 then (zlet (zu Z9 1 0 0 2 2) (fun Z11 => (Z11, 0))) else (if 14 < a2 then (zlet (zu Z9 1 0 0 2 2) (fun Z13 => (Z13, 0))) else (zlet (zu Z9 1 0 0 2 0) (fun Z14 => (if a2 < 4 ∨ 14 < a2 then (Z14, (Z14 2 0 0 (1410 + 12 * a1 + a2))) else (if a2 = 4 then (zlet (zf_289 Z14 a1) (fun v18 => (Z14, v18))) else (if a2 = 5 then (zlet (zf_289 Z14 a1) (fun v21 => (Z14, (w3 ((w3 ((Z14 2 0 0 (1411 + 12 * a1)) + (Z14 2 0 0 (1413 + 12 * a1)))) - v21))))) else (if a2 = 6 then (zlet (zf_280 Z14 a1) (fun v28 => (Z14, v28))) else (if a2 = 7 then (Z14, (Z14 2 0 0 (1414 + 12 * a1))) else (if a2 = 8 then (zlet (zf_278 Z14 a1) (fun v32 => (Z14, v32))) else (if a2 = 9 then (zlet (zf_267 Z14 1 a1 (-1)) (fun v34 => (Z14, v34))) else (if a2 = 10 then (zlet (zf_267 Z14 1 a1 2) (fun v36 => (Z14, v36))) else (if a2 = 11 then (zlet (zf_267 Z14 1 a1 3) (fun v38 => (Z14, v38))) else (if a2 = 12 then (Z14, (Z14 2 0 0 (1415 + 12 * a1))) else (if a2 = 13 then (Z14, (Z14 2 0 0 (1416 + 12 * a1))) else (zlet (zf_279 Z14 a1) (fun v43 => (Z14, v43))))))))))))))))))))))
theorem sy_445 {s : zSM} {Z : qz_Z} {ν : qz_N} (hZ : zM s Z) (gq : Z 1 0 0 35 = 0) (hM : s.2 + 0 ≤ 1000000000) {a1 : Int} (ga1 : -2147483648 ≤ a1 ∧ a1 ≤ 2147483647) {a2 : Int} (ga2 : -2147483648 ≤ a2 ∧ a2 ≤ 2147483647) {ν1 : qz_N} : ∃ (Z1 : qz_Z) (ν2 : qz_N) (v : Int), (Z1, v) = zy_445 Z a1 a2 ∧ (ν2 = ν ∨ ν2 = ν1) ∧ qf_445 [.inr (.inr (some (1, 0, 0))), .inl (i3 a1), .inl (i3 a2)] (zm Z ν) = some (zm Z1 ν2, .inl (some (.inl (i3 v)))) ∧ (fun Z1 => zM s Z1 ∧ zC [1] Z Z1 ∧ zU [] Z Z1) Z1 := by
  obtain ⟨P, hP⟩ := zx (zy_445 Z a1 a2)
  refine zc_Y (Q := fun Z1 => zM s Z1 ∧ zC [1] Z Z1 ∧ zU [] Z Z1) hP (fw_445 (i3 a1) (i3 a2) _ _ ?_)
  replace hP : zE P (zy_445 Z a1 a2) := hP
  unfold zy_445 at hP
  have r1 := zM_k hZ 1 0 0 35 (lo := 0) (hi := 1) (by decide) rfl
  have r2 := zM_k hZ 1 0 0 34 (lo := 0) (hi := 8) (by decide) rfl
  have r3 := zM_f hZ 1 0 0 37
  refine wz_br (i3L (rfl : i3 a1 = i3 a1) (show (0 : Int32) = i3 0 from rfl) (by omega) (by omega) (by omega) (by omega)) (fun h4 => ?_) (fun h4 => ?_)
  · replace hP := zE_p hP h4
    obtain ⟨Z5, hZ5⟩ := zx (zu Z 1 0 0 2 1)
    replace hP := zl_e hP hZ5
    have hZ5I := zM_u hZ hZ5 (lo := -2147483648) (hi := 2147483647) (by decide) rfl (by omega) ⟨by decide, by decide⟩ (Or.inr (by decide)) rfl
    have hZ5U : zU [] Z Z5 := zU_u zU_r hZ5 (Or.inl rfl)
    have hZ5K : zC [1] Z Z5 := zC_u zC_r hZ5 (by decide)
    intro μ9 e9
    replace e9 := e9.trans (zm_wI (Z := Z) (ν := ν) hZ5 (show ((0 : Nat) : Int) = 0 from rfl) (show ((0 : Nat) : Int) = 0 from rfl) (show ((2 : Nat) : Int) = 2 from rfl) (show (1 : Int32) = i3 1 from rfl))
    subst e9
    exact zlY hP (show (0 : Int32) = i3 0 from rfl) (.inl rfl) ⟨hZ5I, hZ5K, hZ5U⟩
  · replace hP := zE_n hP h4
    have r6 := zM_k hZ 2 0 0 1400 (lo := 0) (hi := 8) (by decide) rfl
    refine wz_br (i3L (i3S (zm_rd (Z := Z) (ν := ν) (k := 2) (show ((0 : Nat) : Int) = 0 from rfl) (show ((0 : Nat) : Int) = 0 from rfl) (show ((1400 : Nat) : Int) = 1400 from rfl)) (show (1 : Int32) = i3 1 from rfl)) (rfl : i3 a1 = i3 a1) (by omega) (by omega) (by omega) (by omega)) (fun h7 => ?_) (fun h7 => ?_)
    · replace hP := zE_p hP h7
      obtain ⟨Z8, hZ8⟩ := zx (zu Z 1 0 0 2 1)
      replace hP := zl_e hP hZ8
      have hZ8I := zM_u hZ hZ8 (lo := -2147483648) (hi := 2147483647) (by decide) rfl (by omega) ⟨by decide, by decide⟩ (Or.inr (by decide)) rfl
      have hZ8U : zU [] Z Z8 := zU_u zU_r hZ8 (Or.inl rfl)
      have hZ8K : zC [1] Z Z8 := zC_u zC_r hZ8 (by decide)
      intro μ9 e9
      replace e9 := e9.trans (zm_wI (Z := Z) (ν := ν) hZ8 (show ((0 : Nat) : Int) = 0 from rfl) (show ((0 : Nat) : Int) = 0 from rfl) (show ((2 : Nat) : Int) = 2 from rfl) (show (1 : Int32) = i3 1 from rfl))
      subst e9
      exact zlY hP (show (0 : Int32) = i3 0 from rfl) (.inl rfl) ⟨hZ8I, hZ8K, hZ8U⟩
    · replace hP := zE_n hP h7
      obtain ⟨Z9, hZ9⟩ := zx (zu Z 1 0 0 2 0)
      replace hP := zl_e hP hZ9
      have hZ9I := zM_0 hZ hZ9 (by decide) (Or.inr (by decide))
      have hZ9U : zU [] Z Z9 := zU_u zU_r hZ9 (Or.inl rfl)
      have hZ9K : zC [1] Z Z9 := zC_u zC_r hZ9 (by decide)
      intro μ9 e9
      replace e9 := e9.trans (zm_wI (Z := Z) (ν := ν) hZ9 (show ((0 : Nat) : Int) = 0 from rfl) (show ((0 : Nat) : Int) = 0 from rfl) (show ((2 : Nat) : Int) = 2 from rfl) (show (0 : Int32) = i3 0 from rfl))
      subst e9
      refine wz_br (i3L (rfl : i3 a2 = i3 a2) (show (0 : Int32) = i3 0 from rfl) (by omega) (by omega) (by omega) (by omega)) (fun h10 => ?_) (fun h10 => ?_)
      · replace hP := zE_p hP h10
        obtain ⟨Z11, hZ11⟩ := zx (zu Z9 1 0 0 2 2)
        replace hP := zl_e hP hZ11
        have hZ11I := zM_u hZ9I hZ11 (lo := -2147483648) (hi := 2147483647) (by decide) rfl (by omega) ⟨by decide, by decide⟩ (Or.inr (by decide)) rfl
        have hZ11U : zU [] Z Z11 := zU_u hZ9U hZ11 (Or.inl rfl)
        have hZ11K : zC [1] Z Z11 := zC_u hZ9K hZ11 (by decide)
        intro μ9 e9
        replace e9 := e9.trans (zm_wI (Z := Z9) (ν := ν) hZ11 (show ((0 : Nat) : Int) = 0 from rfl) (show ((0 : Nat) : Int) = 0 from rfl) (show ((2 : Nat) : Int) = 2 from rfl) (show (2 : Int32) = i3 2 from rfl))
        subst e9
        exact zlY hP (show (0 : Int32) = i3 0 from rfl) (.inl rfl) ⟨hZ11I, hZ11K, hZ11U⟩
      · replace hP := zE_n hP h10
        refine wz_br (i3L (show (14 : Int32) = i3 14 from rfl) (rfl : i3 a2 = i3 a2) (by omega) (by omega) (by omega) (by omega)) (fun h12 => ?_) (fun h12 => ?_)
        · replace hP := zE_p hP h12
          obtain ⟨Z13, hZ13⟩ := zx (zu Z9 1 0 0 2 2)
          replace hP := zl_e hP hZ13
          have hZ13I := zM_u hZ9I hZ13 (lo := -2147483648) (hi := 2147483647) (by decide) rfl (by omega) ⟨by decide, by decide⟩ (Or.inr (by decide)) rfl
          have hZ13U : zU [] Z Z13 := zU_u hZ9U hZ13 (Or.inl rfl)
          have hZ13K : zC [1] Z Z13 := zC_u hZ9K hZ13 (by decide)
          intro μ9 e9
          replace e9 := e9.trans (zm_wI (Z := Z9) (ν := ν) hZ13 (show ((0 : Nat) : Int) = 0 from rfl) (show ((0 : Nat) : Int) = 0 from rfl) (show ((2 : Nat) : Int) = 2 from rfl) (show (2 : Int32) = i3 2 from rfl))
          subst e9
          exact zlY hP (show (0 : Int32) = i3 0 from rfl) (.inl rfl) ⟨hZ13I, hZ13K, hZ13U⟩
        · replace hP := zE_n hP h12
          obtain ⟨Z14, hZ14⟩ := zx (zu Z9 1 0 0 2 0)
          replace hP := zl_e hP hZ14
          have hZ14I := zM_0 hZ9I hZ14 (by decide) (Or.inr (by decide))
          have hZ14U : zU [] Z Z14 := zU_u hZ9U hZ14 (Or.inl rfl)
          have hZ14K : zC [1] Z Z14 := zC_u hZ9K hZ14 (by decide)
          intro μ9 e9
          replace e9 := e9.trans (zm_wI (Z := Z9) (ν := ν) hZ14 (show ((0 : Nat) : Int) = 0 from rfl) (show ((0 : Nat) : Int) = 0 from rfl) (show ((2 : Nat) : Int) = 2 from rfl) (show (0 : Int32) = i3 0 from rfl))
          subst e9
          refine wz_br (i3To (rfl : i3 a2 = i3 a2) (by omega) (by omega)) (fun h15 => ?_) (fun h15 => ?_)
          · replace hP := zE_p hP h15
            refine wz_i0 (i3O (n := 4400) (i3A (i3A (show (1410 : Int32) = i3 1410 from rfl) (i3M (show (12 : Int32) = i3 12 from rfl) (rfl : i3 a1 = i3 a1))) (rfl : i3 a2 = i3 a2)) (by omega) (by omega) (by omega)) ?_
            have r16 := zM_f hZ14I 2 0 0 (1410 + 12 * a1 + a2)
            exact zlY hP (zm_rd (Z := Z14) (ν := ν) (k := 2) (show ((0 : Nat) : Int) = 0 from rfl) (show ((0 : Nat) : Int) = 0 from rfl) (i3I (y := (1410 + 12 * a1 + a2)) (i3A (i3A (show (1410 : Int32) = i3 1410 from rfl) (i3M (show (12 : Int32) = i3 12 from rfl) (rfl : i3 a1 = i3 a1))) (rfl : i3 a2 = i3 a2)) (by omega) (by omega) (by omega))) (.inl rfl) ⟨hZ14I, hZ14K, hZ14U⟩
          · replace hP := zE_n hP h15
            refine wz_br (i3T (rfl : i3 a2 = i3 a2) (by omega) (by omega)) (fun h17 => ?_) (fun h17 => ?_)
            · replace hP := zE_p hP h17
              obtain ⟨v18, hv18, c9, lv18, uv18⟩ := sp_289 (ν := ν) hZ14I (a1 := a1) (by omega) (zbh (c := 0) (k := 0) hM (Nat.le_of_ble_eq_true rfl))
              replace hP := zl_e hP hv18
              refine wz_cI_of (zas (zcons rfl (zcons (zvi (rfl : i3 a1 = i3 a1)) rfl)) c9) ?_
              clear c9
              have r19 := zrs_e hv18
              exact zlY hP (rfl : i3 v18 = i3 v18) (.inl rfl) ⟨hZ14I, hZ14K, hZ14U⟩
            · replace hP := zE_n hP h17
              refine wz_br (i3T (rfl : i3 a2 = i3 a2) (by omega) (by omega)) (fun h20 => ?_) (fun h20 => ?_)
              · replace hP := zE_p hP h20
                refine wz_i0 (i3O (n := 4400) (i3A (i3A (show (1410 : Int32) = i3 1410 from rfl) (i3M (show (12 : Int32) = i3 12 from rfl) (rfl : i3 a1 = i3 a1))) (show (1 : Int32) = i3 1 from rfl)) (by omega) (by omega) (by omega)) ?_
                refine wz_i0 (i3O (n := 4400) (i3A (i3A (show (1410 : Int32) = i3 1410 from rfl) (i3M (show (12 : Int32) = i3 12 from rfl) (rfl : i3 a1 = i3 a1))) (show (3 : Int32) = i3 3 from rfl)) (by omega) (by omega) (by omega)) ?_
                obtain ⟨v21, hv21, c9, lv21, uv21⟩ := sp_289 (ν := ν) hZ14I (a1 := a1) (by omega) (zbh (c := 0) (k := 0) hM (Nat.le_of_ble_eq_true rfl))
                replace hP := zl_e hP hv21
                refine wz_cI_of (zas (zcons rfl (zcons (zvi (rfl : i3 a1 = i3 a1)) rfl)) c9) ?_
                clear c9
                have r22 := zrs_e hv21
                have r23 := zM_k hZ14I 2 0 0 (1411 + 12 * a1) (lo := 0) (hi := 9999999) (by decide) (zs_1410_1 (x := a1) (by omega) (by omega) (by omega))
                have r24 := zM_f hZ14I 2 0 0 (1413 + 12 * a1)
                have r25 := w3_r ((Z14 2 0 0 (1411 + 12 * a1)) + (Z14 2 0 0 (1413 + 12 * a1)))
                have r26 := w3_r ((w3 ((Z14 2 0 0 (1411 + 12 * a1)) + (Z14 2 0 0 (1413 + 12 * a1)))) - v21)
                exact zlY hP (i3W (i3S (i3W (i3A (zm_rd (Z := Z14) (ν := ν) (k := 2) (show ((0 : Nat) : Int) = 0 from rfl) (show ((0 : Nat) : Int) = 0 from rfl) (i3I (y := (1411 + 12 * a1)) (i3A (i3A (show (1410 : Int32) = i3 1410 from rfl) (i3M (show (12 : Int32) = i3 12 from rfl) (rfl : i3 a1 = i3 a1))) (show (1 : Int32) = i3 1 from rfl)) (by omega) (by omega) (by omega))) (zm_rd (Z := Z14) (ν := ν) (k := 2) (show ((0 : Nat) : Int) = 0 from rfl) (show ((0 : Nat) : Int) = 0 from rfl) (i3I (y := (1413 + 12 * a1)) (i3A (i3A (show (1410 : Int32) = i3 1410 from rfl) (i3M (show (12 : Int32) = i3 12 from rfl) (rfl : i3 a1 = i3 a1))) (show (3 : Int32) = i3 3 from rfl)) (by omega) (by omega) (by omega))))) (rfl : i3 v21 = i3 v21))) (.inl rfl) ⟨hZ14I, hZ14K, hZ14U⟩
              · replace hP := zE_n hP h20
                refine wz_br (i3T (rfl : i3 a2 = i3 a2) (by omega) (by omega)) (fun h27 => ?_) (fun h27 => ?_)
                · replace hP := zE_p hP h27
                  obtain ⟨v28, hv28, c9, lv28, uv28⟩ := sp_280 (ν := ν) hZ14I (a1 := a1) (by omega) (zbh (c := 0) (k := 0) hM (Nat.le_of_ble_eq_true rfl))
                  replace hP := zl_e hP hv28
                  refine wz_cI_of (zas (zcons rfl (zcons (zvi (rfl : i3 a1 = i3 a1)) rfl)) c9) ?_
                  clear c9
                  exact zlY hP (rfl : i3 v28 = i3 v28) (.inl rfl) ⟨hZ14I, hZ14K, hZ14U⟩
                · replace hP := zE_n hP h27
                  refine wz_br (i3T (rfl : i3 a2 = i3 a2) (by omega) (by omega)) (fun h29 => ?_) (fun h29 => ?_)
                  · replace hP := zE_p hP h29
                    refine wz_i0 (i3O (n := 4400) (i3A (i3A (show (1410 : Int32) = i3 1410 from rfl) (i3M (show (12 : Int32) = i3 12 from rfl) (rfl : i3 a1 = i3 a1))) (show (4 : Int32) = i3 4 from rfl)) (by omega) (by omega) (by omega)) ?_
                    have r30 := zM_k hZ14I 2 0 0 (1414 + 12 * a1) (lo := 0) (hi := 1) (by decide) (zs_1410_4 (x := a1) (by omega) (by omega) (by omega))
                    exact zlY hP (zm_rd (Z := Z14) (ν := ν) (k := 2) (show ((0 : Nat) : Int) = 0 from rfl) (show ((0 : Nat) : Int) = 0 from rfl) (i3I (y := (1414 + 12 * a1)) (i3A (i3A (show (1410 : Int32) = i3 1410 from rfl) (i3M (show (12 : Int32) = i3 12 from rfl) (rfl : i3 a1 = i3 a1))) (show (4 : Int32) = i3 4 from rfl)) (by omega) (by omega) (by omega))) (.inl rfl) ⟨hZ14I, hZ14K, hZ14U⟩
                  · replace hP := zE_n hP h29
                    refine wz_br (i3T (rfl : i3 a2 = i3 a2) (by omega) (by omega)) (fun h31 => ?_) (fun h31 => ?_)
                    · replace hP := zE_p hP h31
                      obtain ⟨v32, hv32, c9, lv32, uv32⟩ := sp_278 (ν := ν) hZ14I (a1 := a1) (by omega) (zbh (c := 0) (k := 0) hM (Nat.le_of_ble_eq_true rfl))
                      replace hP := zl_e hP hv32
                      refine wz_cI_of (zas (zcons rfl (zcons (zvi (rfl : i3 a1 = i3 a1)) rfl)) c9) ?_
                      clear c9
                      exact zlY hP (rfl : i3 v32 = i3 v32) (.inl rfl) ⟨hZ14I, hZ14K, hZ14U⟩
                    · replace hP := zE_n hP h31
                      refine wz_br (i3T (rfl : i3 a2 = i3 a2) (by omega) (by omega)) (fun h33 => ?_) (fun h33 => ?_)
                      · replace hP := zE_p hP h33
                        obtain ⟨v34, hv34, c9, lv34, uv34⟩ := sp_267 (ν := ν) hZ14I (a1 := 1) (by omega) (a2 := a1) (by omega) (a3 := (-1)) (by omega) (zbh (c := 0) (k := 0) hM (Nat.le_of_ble_eq_true rfl))
                        replace hP := zl_e hP hv34
                        refine wz_cI_of (zas (zcons rfl (zcons (zvi (show (1 : Int32) = i3 1 from rfl)) (zcons (zvi (rfl : i3 a1 = i3 a1)) (zcons (zvi (show (-1 : Int32) = i3 (-1) from rfl)) rfl)))) c9) ?_
                        clear c9
                        exact zlY hP (rfl : i3 v34 = i3 v34) (.inl rfl) ⟨hZ14I, hZ14K, hZ14U⟩
                      · replace hP := zE_n hP h33
                        refine wz_br (i3T (rfl : i3 a2 = i3 a2) (by omega) (by omega)) (fun h35 => ?_) (fun h35 => ?_)
                        · replace hP := zE_p hP h35
                          obtain ⟨v36, hv36, c9, lv36, uv36⟩ := sp_267 (ν := ν) hZ14I (a1 := 1) (by omega) (a2 := a1) (by omega) (a3 := 2) (by omega) (zbh (c := 0) (k := 0) hM (Nat.le_of_ble_eq_true rfl))
                          replace hP := zl_e hP hv36
                          refine wz_cI_of (zas (zcons rfl (zcons (zvi (show (1 : Int32) = i3 1 from rfl)) (zcons (zvi (rfl : i3 a1 = i3 a1)) (zcons (zvi (show (2 : Int32) = i3 2 from rfl)) rfl)))) c9) ?_
                          clear c9
                          exact zlY hP (rfl : i3 v36 = i3 v36) (.inl rfl) ⟨hZ14I, hZ14K, hZ14U⟩
                        · replace hP := zE_n hP h35
                          refine wz_br (i3T (rfl : i3 a2 = i3 a2) (by omega) (by omega)) (fun h37 => ?_) (fun h37 => ?_)
                          · replace hP := zE_p hP h37
                            obtain ⟨v38, hv38, c9, lv38, uv38⟩ := sp_267 (ν := ν) hZ14I (a1 := 1) (by omega) (a2 := a1) (by omega) (a3 := 3) (by omega) (zbh (c := 0) (k := 0) hM (Nat.le_of_ble_eq_true rfl))
                            replace hP := zl_e hP hv38
                            refine wz_cI_of (zas (zcons rfl (zcons (zvi (show (1 : Int32) = i3 1 from rfl)) (zcons (zvi (rfl : i3 a1 = i3 a1)) (zcons (zvi (show (3 : Int32) = i3 3 from rfl)) rfl)))) c9) ?_
                            clear c9
                            exact zlY hP (rfl : i3 v38 = i3 v38) (.inl rfl) ⟨hZ14I, hZ14K, hZ14U⟩
                          · replace hP := zE_n hP h37
                            refine wz_br (i3T (rfl : i3 a2 = i3 a2) (by omega) (by omega)) (fun h39 => ?_) (fun h39 => ?_)
                            · replace hP := zE_p hP h39
                              refine wz_i0 (i3O (n := 4400) (i3A (i3A (show (1410 : Int32) = i3 1410 from rfl) (i3M (show (12 : Int32) = i3 12 from rfl) (rfl : i3 a1 = i3 a1))) (show (5 : Int32) = i3 5 from rfl)) (by omega) (by omega) (by omega)) ?_
                              have r40 := zM_f hZ14I 2 0 0 (1415 + 12 * a1)
                              exact zlY hP (zm_rd (Z := Z14) (ν := ν) (k := 2) (show ((0 : Nat) : Int) = 0 from rfl) (show ((0 : Nat) : Int) = 0 from rfl) (i3I (y := (1415 + 12 * a1)) (i3A (i3A (show (1410 : Int32) = i3 1410 from rfl) (i3M (show (12 : Int32) = i3 12 from rfl) (rfl : i3 a1 = i3 a1))) (show (5 : Int32) = i3 5 from rfl)) (by omega) (by omega) (by omega))) (.inl rfl) ⟨hZ14I, hZ14K, hZ14U⟩
                            · replace hP := zE_n hP h39
                              refine wz_br (i3T (rfl : i3 a2 = i3 a2) (by omega) (by omega)) (fun h41 => ?_) (fun h41 => ?_)
                              · replace hP := zE_p hP h41
                                refine wz_i0 (i3O (n := 4400) (i3A (i3A (show (1410 : Int32) = i3 1410 from rfl) (i3M (show (12 : Int32) = i3 12 from rfl) (rfl : i3 a1 = i3 a1))) (show (6 : Int32) = i3 6 from rfl)) (by omega) (by omega) (by omega)) ?_
                                have r42 := zM_f hZ14I 2 0 0 (1416 + 12 * a1)
                                exact zlY hP (zm_rd (Z := Z14) (ν := ν) (k := 2) (show ((0 : Nat) : Int) = 0 from rfl) (show ((0 : Nat) : Int) = 0 from rfl) (i3I (y := (1416 + 12 * a1)) (i3A (i3A (show (1410 : Int32) = i3 1410 from rfl) (i3M (show (12 : Int32) = i3 12 from rfl) (rfl : i3 a1 = i3 a1))) (show (6 : Int32) = i3 6 from rfl)) (by omega) (by omega) (by omega))) (.inl rfl) ⟨hZ14I, hZ14K, hZ14U⟩
                              · replace hP := zE_n hP h41
                                refine wz_i1 (Eq.trans (i3T (rfl : i3 a2 = i3 a2) (by omega) (by omega)) (decide_eq_true (by omega))) ?_
                                obtain ⟨v43, hv43, c9, lv43, uv43⟩ := sp_279 (ν := ν) hZ14I (a1 := a1) (by omega) (zbh (c := 0) (k := 0) hM (Nat.le_of_ble_eq_true rfl))
                                replace hP := zl_e hP hv43
                                refine wz_cI_of (zas (zcons rfl (zcons (zvi (rfl : i3 a1 = i3 a1)) rfl)) c9) ?_
                                clear c9
                                exact zlY hP (rfl : i3 v43 = i3 v43) (.inl rfl) ⟨hZ14I, hZ14K, hZ14U⟩
/- yX12_rPallet -/
def zf_480 (Z : qz_Z) (a1 : Int) (a2 : Int) : Int := (if a2 < 11 ∨ 15 < a2 then (Z 2 0 0 (200 + 20 * a1 + a2)) else (if a2 = 11 then (if ((Z 2 0 0 (113 + 5 * (Z 2 0 0 (201 + 20 * a1)))) - (Z 2 0 0 (114 + 5 * (Z 2 0 0 (201 + 20 * a1))))) ≤ (Z 2 0 0 (207 + 20 * a1)) then (if ((Z 2 0 0 (113 + 5 * (Z 2 0 0 (201 + 20 * a1)))) + (Z 2 0 0 (114 + 5 * (Z 2 0 0 (201 + 20 * a1))))) < (Z 2 0 0 (207 + 20 * a1)) then (if ((Z 2 0 0 (113 + 5 * (Z 2 0 0 (201 + 20 * a1)))) + (3 * (Z 2 0 0 (114 + 5 * (Z 2 0 0 (201 + 20 * a1)))))) < (Z 2 0 0 (207 + 20 * a1)) then 3 else 2) else 1) else 0) else (if a2 = 12 then (Z 2 0 0 (211 + 20 * a1)) else (if a2 = 13 then (zlet (zf_435 Z a1) (fun v16 => v16)) else (if a2 = 14 then (Z 2 0 0 (212 + 20 * a1)) else (Z 2 0 0 (213 + 20 * a1)))))))
theorem sp_480 {s : zSM} {Z : qz_Z} {ν : qz_N} (hZ : zM s Z) {a1 : Int} (ga1 : 0 ≤ a1 ∧ a1 ≤ 47) {a2 : Int} (ga2 : 0 ≤ a2 ∧ a2 ≤ 15) (hM : s.2 + 0 ≤ 1000000000) : ∃ P : Int, P = zf_480 Z a1 a2 ∧ (qf_480 [.inr (.inr (some (1, 0, 0))), .inl (i3 a1), .inl (i3 a2)] (zm Z ν) = some (zm Z ν, .inl (some (.inl (i3 P)))) ∧ -2147483648 ≤ P ∧ P ≤ 2147483647) := by
  obtain ⟨P, hP⟩ := zx (zf_480 Z a1 a2)
  refine zc_R (Q := fun P => -2147483648 ≤ P ∧ P ≤ 2147483647) hP (fw_480 (i3 a1) (i3 a2) _ _ ?_)
  replace hP : zE P (zf_480 Z a1 a2) := hP
  unfold zf_480 at hP
  refine wz_br (i3To (rfl : i3 a2 = i3 a2) (by omega) (by omega)) (fun h1 => ?_) (fun h1 => ?_)
  · replace hP := zE_p hP h1
    refine wz_i0 (i3O (n := 4400) (i3A (i3A (show (200 : Int32) = i3 200 from rfl) (i3M (show (20 : Int32) = i3 20 from rfl) (rfl : i3 a1 = i3 a1))) (rfl : i3 a2 = i3 a2)) (by omega) (by omega) (by omega)) ?_
    have r2 := zM_f hZ 2 0 0 (200 + 20 * a1 + a2)
    exact zlR hP (zm_rd (Z := Z) (ν := ν) (k := 2) (show ((0 : Nat) : Int) = 0 from rfl) (show ((0 : Nat) : Int) = 0 from rfl) (i3I (y := (200 + 20 * a1 + a2)) (i3A (i3A (show (200 : Int32) = i3 200 from rfl) (i3M (show (20 : Int32) = i3 20 from rfl) (rfl : i3 a1 = i3 a1))) (rfl : i3 a2 = i3 a2)) (by omega) (by omega) (by omega))) ⟨by omega, by omega⟩
  · replace hP := zE_n hP h1
    refine wz_br (i3T (rfl : i3 a2 = i3 a2) (by omega) (by omega)) (fun h3 => ?_) (fun h3 => ?_)
    · replace hP := zE_p hP h3
      refine wz_i0 (i3O (n := 4400) (i3A (i3A (show (200 : Int32) = i3 200 from rfl) (i3M (show (20 : Int32) = i3 20 from rfl) (rfl : i3 a1 = i3 a1))) (show (1 : Int32) = i3 1 from rfl)) (by omega) (by omega) (by omega)) ?_
      refine wz_i0 (i3O (n := 4400) (i3A (i3A (show (200 : Int32) = i3 200 from rfl) (i3M (show (20 : Int32) = i3 20 from rfl) (rfl : i3 a1 = i3 a1))) (show (7 : Int32) = i3 7 from rfl)) (by omega) (by omega) (by omega)) ?_
      have r4 := zM_k hZ 2 0 0 (201 + 20 * a1) (lo := 0) (hi := 4) (by decide) (zs_200_1 (x := a1) (by omega) (by omega) (by omega))
      refine wz_i0 (i3O (n := 4400) (i3A (i3A (show (110 : Int32) = i3 110 from rfl) (i3M (show (5 : Int32) = i3 5 from rfl) (zm_rd (Z := Z) (ν := ν) (k := 2) (show ((0 : Nat) : Int) = 0 from rfl) (show ((0 : Nat) : Int) = 0 from rfl) (i3I (y := (201 + 20 * a1)) (i3A (i3A (show (200 : Int32) = i3 200 from rfl) (i3M (show (20 : Int32) = i3 20 from rfl) (rfl : i3 a1 = i3 a1))) (show (1 : Int32) = i3 1 from rfl)) (by omega) (by omega) (by omega))))) (show (3 : Int32) = i3 3 from rfl)) (by omega) (by omega) (by omega)) ?_
      refine wz_i0 (i3O (n := 4400) (i3A (i3A (show (110 : Int32) = i3 110 from rfl) (i3M (show (5 : Int32) = i3 5 from rfl) (zm_rd (Z := Z) (ν := ν) (k := 2) (show ((0 : Nat) : Int) = 0 from rfl) (show ((0 : Nat) : Int) = 0 from rfl) (i3I (y := (201 + 20 * a1)) (i3A (i3A (show (200 : Int32) = i3 200 from rfl) (i3M (show (20 : Int32) = i3 20 from rfl) (rfl : i3 a1 = i3 a1))) (show (1 : Int32) = i3 1 from rfl)) (by omega) (by omega) (by omega))))) (show (4 : Int32) = i3 4 from rfl)) (by omega) (by omega) (by omega)) ?_
      have r5 := zM_k hZ 2 0 0 (113 + 5 * (Z 2 0 0 (201 + 20 * a1))) (lo := 0) (hi := 600) (by decide) (zs_110_3 (x := (Z 2 0 0 (201 + 20 * a1))) (by omega) (by omega) (by omega))
      have r6 := zM_k hZ 2 0 0 (114 + 5 * (Z 2 0 0 (201 + 20 * a1))) (lo := 0) (hi := 99) (by decide) (zs_110_4 (x := (Z 2 0 0 (201 + 20 * a1))) (by omega) (by omega) (by omega))
      have r7 := zM_k hZ 2 0 0 (207 + 20 * a1) (lo := 0) (hi := 2000) (by decide) (zs_200_7 (x := a1) (by omega) (by omega) (by omega))
      refine wz_br (i3Le (i3S (zm_rd (Z := Z) (ν := ν) (k := 2) (show ((0 : Nat) : Int) = 0 from rfl) (show ((0 : Nat) : Int) = 0 from rfl) (i3I (y := (113 + 5 * (Z 2 0 0 (201 + 20 * a1)))) (i3A (i3A (show (110 : Int32) = i3 110 from rfl) (i3M (show (5 : Int32) = i3 5 from rfl) (zm_rd (Z := Z) (ν := ν) (k := 2) (show ((0 : Nat) : Int) = 0 from rfl) (show ((0 : Nat) : Int) = 0 from rfl) (i3I (y := (201 + 20 * a1)) (i3A (i3A (show (200 : Int32) = i3 200 from rfl) (i3M (show (20 : Int32) = i3 20 from rfl) (rfl : i3 a1 = i3 a1))) (show (1 : Int32) = i3 1 from rfl)) (by omega) (by omega) (by omega))))) (show (3 : Int32) = i3 3 from rfl)) (by omega) (by omega) (by omega))) (zm_rd (Z := Z) (ν := ν) (k := 2) (show ((0 : Nat) : Int) = 0 from rfl) (show ((0 : Nat) : Int) = 0 from rfl) (i3I (y := (114 + 5 * (Z 2 0 0 (201 + 20 * a1)))) (i3A (i3A (show (110 : Int32) = i3 110 from rfl) (i3M (show (5 : Int32) = i3 5 from rfl) (zm_rd (Z := Z) (ν := ν) (k := 2) (show ((0 : Nat) : Int) = 0 from rfl) (show ((0 : Nat) : Int) = 0 from rfl) (i3I (y := (201 + 20 * a1)) (i3A (i3A (show (200 : Int32) = i3 200 from rfl) (i3M (show (20 : Int32) = i3 20 from rfl) (rfl : i3 a1 = i3 a1))) (show (1 : Int32) = i3 1 from rfl)) (by omega) (by omega) (by omega))))) (show (4 : Int32) = i3 4 from rfl)) (by omega) (by omega) (by omega)))) (zm_rd (Z := Z) (ν := ν) (k := 2) (show ((0 : Nat) : Int) = 0 from rfl) (show ((0 : Nat) : Int) = 0 from rfl) (i3I (y := (207 + 20 * a1)) (i3A (i3A (show (200 : Int32) = i3 200 from rfl) (i3M (show (20 : Int32) = i3 20 from rfl) (rfl : i3 a1 = i3 a1))) (show (7 : Int32) = i3 7 from rfl)) (by omega) (by omega) (by omega))) (by omega) (by omega) (by omega) (by omega)) (fun h8 => ?_) (fun h8 => ?_)
      · replace hP := zE_p hP h8
        refine wz_br (i3L (i3A (zm_rd (Z := Z) (ν := ν) (k := 2) (show ((0 : Nat) : Int) = 0 from rfl) (show ((0 : Nat) : Int) = 0 from rfl) (i3I (y := (113 + 5 * (Z 2 0 0 (201 + 20 * a1)))) (i3A (i3A (show (110 : Int32) = i3 110 from rfl) (i3M (show (5 : Int32) = i3 5 from rfl) (zm_rd (Z := Z) (ν := ν) (k := 2) (show ((0 : Nat) : Int) = 0 from rfl) (show ((0 : Nat) : Int) = 0 from rfl) (i3I (y := (201 + 20 * a1)) (i3A (i3A (show (200 : Int32) = i3 200 from rfl) (i3M (show (20 : Int32) = i3 20 from rfl) (rfl : i3 a1 = i3 a1))) (show (1 : Int32) = i3 1 from rfl)) (by omega) (by omega) (by omega))))) (show (3 : Int32) = i3 3 from rfl)) (by omega) (by omega) (by omega))) (zm_rd (Z := Z) (ν := ν) (k := 2) (show ((0 : Nat) : Int) = 0 from rfl) (show ((0 : Nat) : Int) = 0 from rfl) (i3I (y := (114 + 5 * (Z 2 0 0 (201 + 20 * a1)))) (i3A (i3A (show (110 : Int32) = i3 110 from rfl) (i3M (show (5 : Int32) = i3 5 from rfl) (zm_rd (Z := Z) (ν := ν) (k := 2) (show ((0 : Nat) : Int) = 0 from rfl) (show ((0 : Nat) : Int) = 0 from rfl) (i3I (y := (201 + 20 * a1)) (i3A (i3A (show (200 : Int32) = i3 200 from rfl) (i3M (show (20 : Int32) = i3 20 from rfl) (rfl : i3 a1 = i3 a1))) (show (1 : Int32) = i3 1 from rfl)) (by omega) (by omega) (by omega))))) (show (4 : Int32) = i3 4 from rfl)) (by omega) (by omega) (by omega)))) (zm_rd (Z := Z) (ν := ν) (k := 2) (show ((0 : Nat) : Int) = 0 from rfl) (show ((0 : Nat) : Int) = 0 from rfl) (i3I (y := (207 + 20 * a1)) (i3A (i3A (show (200 : Int32) = i3 200 from rfl) (i3M (show (20 : Int32) = i3 20 from rfl) (rfl : i3 a1 = i3 a1))) (show (7 : Int32) = i3 7 from rfl)) (by omega) (by omega) (by omega))) (by omega) (by omega) (by omega) (by omega)) (fun h9 => ?_) (fun h9 => ?_)
        · replace hP := zE_p hP h9
          refine wz_br (i3L (i3A (zm_rd (Z := Z) (ν := ν) (k := 2) (show ((0 : Nat) : Int) = 0 from rfl) (show ((0 : Nat) : Int) = 0 from rfl) (i3I (y := (113 + 5 * (Z 2 0 0 (201 + 20 * a1)))) (i3A (i3A (show (110 : Int32) = i3 110 from rfl) (i3M (show (5 : Int32) = i3 5 from rfl) (zm_rd (Z := Z) (ν := ν) (k := 2) (show ((0 : Nat) : Int) = 0 from rfl) (show ((0 : Nat) : Int) = 0 from rfl) (i3I (y := (201 + 20 * a1)) (i3A (i3A (show (200 : Int32) = i3 200 from rfl) (i3M (show (20 : Int32) = i3 20 from rfl) (rfl : i3 a1 = i3 a1))) (show (1 : Int32) = i3 1 from rfl)) (by omega) (by omega) (by omega))))) (show (3 : Int32) = i3 3 from rfl)) (by omega) (by omega) (by omega))) (i3M (show (3 : Int32) = i3 3 from rfl) (zm_rd (Z := Z) (ν := ν) (k := 2) (show ((0 : Nat) : Int) = 0 from rfl) (show ((0 : Nat) : Int) = 0 from rfl) (i3I (y := (114 + 5 * (Z 2 0 0 (201 + 20 * a1)))) (i3A (i3A (show (110 : Int32) = i3 110 from rfl) (i3M (show (5 : Int32) = i3 5 from rfl) (zm_rd (Z := Z) (ν := ν) (k := 2) (show ((0 : Nat) : Int) = 0 from rfl) (show ((0 : Nat) : Int) = 0 from rfl) (i3I (y := (201 + 20 * a1)) (i3A (i3A (show (200 : Int32) = i3 200 from rfl) (i3M (show (20 : Int32) = i3 20 from rfl) (rfl : i3 a1 = i3 a1))) (show (1 : Int32) = i3 1 from rfl)) (by omega) (by omega) (by omega))))) (show (4 : Int32) = i3 4 from rfl)) (by omega) (by omega) (by omega))))) (zm_rd (Z := Z) (ν := ν) (k := 2) (show ((0 : Nat) : Int) = 0 from rfl) (show ((0 : Nat) : Int) = 0 from rfl) (i3I (y := (207 + 20 * a1)) (i3A (i3A (show (200 : Int32) = i3 200 from rfl) (i3M (show (20 : Int32) = i3 20 from rfl) (rfl : i3 a1 = i3 a1))) (show (7 : Int32) = i3 7 from rfl)) (by omega) (by omega) (by omega))) (by omega) (by omega) (by omega) (by omega)) (fun h10 => ?_) (fun h10 => ?_)
          · replace hP := zE_p hP h10
            exact zlR hP (show (3 : Int32) = i3 3 from rfl) ⟨by omega, by omega⟩
          · replace hP := zE_n hP h10
            exact zlR hP (show (2 : Int32) = i3 2 from rfl) ⟨by omega, by omega⟩
        · replace hP := zE_n hP h9
          exact zlR hP (show (1 : Int32) = i3 1 from rfl) ⟨by omega, by omega⟩
      · replace hP := zE_n hP h8
        exact zlR hP (show (0 : Int32) = i3 0 from rfl) ⟨by omega, by omega⟩
    · replace hP := zE_n hP h3
      refine wz_br (i3T (rfl : i3 a2 = i3 a2) (by omega) (by omega)) (fun h11 => ?_) (fun h11 => ?_)
      · replace hP := zE_p hP h11
        refine wz_i0 (i3O (n := 4400) (i3A (i3A (show (200 : Int32) = i3 200 from rfl) (i3M (show (20 : Int32) = i3 20 from rfl) (rfl : i3 a1 = i3 a1))) (show (11 : Int32) = i3 11 from rfl)) (by omega) (by omega) (by omega)) ?_
        have r12 := zM_k hZ 2 0 0 (211 + 20 * a1) (lo := -1) (hi := 6) (by decide) (zs_200_11 (x := a1) (by omega) (by omega) (by omega))
        have r13 := zM_pl hZ a1
        have r14 := zM_k hZ 2 0 0 102 (lo := 0) (hi := 48) (by decide) rfl
        exact zlR hP (zm_rd (Z := Z) (ν := ν) (k := 2) (show ((0 : Nat) : Int) = 0 from rfl) (show ((0 : Nat) : Int) = 0 from rfl) (i3I (y := (211 + 20 * a1)) (i3A (i3A (show (200 : Int32) = i3 200 from rfl) (i3M (show (20 : Int32) = i3 20 from rfl) (rfl : i3 a1 = i3 a1))) (show (11 : Int32) = i3 11 from rfl)) (by omega) (by omega) (by omega))) ⟨by omega, by omega⟩
      · replace hP := zE_n hP h11
        refine wz_br (i3T (rfl : i3 a2 = i3 a2) (by omega) (by omega)) (fun h15 => ?_) (fun h15 => ?_)
        · replace hP := zE_p hP h15
          obtain ⟨v16, hv16, c9, lv16, uv16⟩ := sp_435 (ν := ν) hZ (a1 := a1) (by omega) (zbh (c := 0) (k := 0) hM (Nat.le_of_ble_eq_true rfl))
          replace hP := zl_e hP hv16
          refine wz_cI_of (zas (zcons rfl (zcons (zvi (rfl : i3 a1 = i3 a1)) rfl)) c9) ?_
          clear c9
          exact zlR hP (rfl : i3 v16 = i3 v16) ⟨by omega, by omega⟩
        · replace hP := zE_n hP h15
          refine wz_br (i3T (rfl : i3 a2 = i3 a2) (by omega) (by omega)) (fun h17 => ?_) (fun h17 => ?_)
          · replace hP := zE_p hP h17
            refine wz_i0 (i3O (n := 4400) (i3A (i3A (show (200 : Int32) = i3 200 from rfl) (i3M (show (20 : Int32) = i3 20 from rfl) (rfl : i3 a1 = i3 a1))) (show (12 : Int32) = i3 12 from rfl)) (by omega) (by omega) (by omega)) ?_
            have r18 := zM_f hZ 2 0 0 (212 + 20 * a1)
            exact zlR hP (zm_rd (Z := Z) (ν := ν) (k := 2) (show ((0 : Nat) : Int) = 0 from rfl) (show ((0 : Nat) : Int) = 0 from rfl) (i3I (y := (212 + 20 * a1)) (i3A (i3A (show (200 : Int32) = i3 200 from rfl) (i3M (show (20 : Int32) = i3 20 from rfl) (rfl : i3 a1 = i3 a1))) (show (12 : Int32) = i3 12 from rfl)) (by omega) (by omega) (by omega))) ⟨by omega, by omega⟩
          · replace hP := zE_n hP h17
            refine wz_i1 (Eq.trans (i3T (rfl : i3 a2 = i3 a2) (by omega) (by omega)) (decide_eq_true (by omega))) ?_
            refine wz_i0 (i3O (n := 4400) (i3A (i3A (show (200 : Int32) = i3 200 from rfl) (i3M (show (20 : Int32) = i3 20 from rfl) (rfl : i3 a1 = i3 a1))) (show (13 : Int32) = i3 13 from rfl)) (by omega) (by omega) (by omega)) ?_
            have r19 := zM_k hZ 2 0 0 (213 + 20 * a1) (lo := -1) (hi := 20) (by decide) (zs_200_13 (x := a1) (by omega) (by omega) (by omega))
            exact zlR hP (zm_rd (Z := Z) (ν := ν) (k := 2) (show ((0 : Nat) : Int) = 0 from rfl) (show ((0 : Nat) : Int) = 0 from rfl) (i3I (y := (213 + 20 * a1)) (i3A (i3A (show (200 : Int32) = i3 200 from rfl) (i3M (show (20 : Int32) = i3 20 from rfl) (rfl : i3 a1 = i3 a1))) (show (13 : Int32) = i3 13 from rfl)) (by omega) (by omega) (by omega))) ⟨by omega, by omega⟩
/- yX12_pallet -/
def zy_448 (Z : qz_Z) (a1 : Int) (a2 : Int) : qz_Z × Int := (if a1 < 0 then (zlet (zu Z 1 0 0 2 1) (fun Z5 => (Z5, 0))) else (if ((Z 2 0 0 102) - 1) < a1 then (zlet (zu Z 1 0 0 2 1) (fun Z8 => (Z8, 0))) else (zlet (zu Z 1 0 0 2 0) (fun Z9 => (if a2 < 0 then (zlet (zu Z9 1 0 0 2 2) (fun Z11 => (Z11, 0))) else (if 15 < a2 then (zlet (zu Z9 1 0 0 2 2) (fun Z13 => (Z13, 0))) else (zlet (zu Z9 1 0 0 2 0) (fun Z14 => (zlet (zf_480 Z14 a1 a2) (fun v15 => (Z14, v15)))))))))))
theorem sy_448 {s : zSM} {Z : qz_Z} {ν : qz_N} (hZ : zM s Z) (gq : Z 1 0 0 35 = 0) (hM : s.2 + 0 ≤ 1000000000) {a1 : Int} (ga1 : -2147483648 ≤ a1 ∧ a1 ≤ 2147483647) {a2 : Int} (ga2 : -2147483648 ≤ a2 ∧ a2 ≤ 2147483647) {ν1 : qz_N} : ∃ (Z1 : qz_Z) (ν2 : qz_N) (v : Int), (Z1, v) = zy_448 Z a1 a2 ∧ (ν2 = ν ∨ ν2 = ν1) ∧ qf_448 [.inr (.inr (some (1, 0, 0))), .inl (i3 a1), .inl (i3 a2)] (zm Z ν) = some (zm Z1 ν2, .inl (some (.inl (i3 v)))) ∧ (fun Z1 => zM s Z1 ∧ zC [1] Z Z1 ∧ zU [] Z Z1) Z1 := by
  obtain ⟨P, hP⟩ := zx (zy_448 Z a1 a2)
  refine zc_Y (Q := fun Z1 => zM s Z1 ∧ zC [1] Z Z1 ∧ zU [] Z Z1) hP (fw_448 (i3 a1) (i3 a2) _ _ ?_)
  replace hP : zE P (zy_448 Z a1 a2) := hP
  unfold zy_448 at hP
  have r1 := zM_k hZ 1 0 0 35 (lo := 0) (hi := 1) (by decide) rfl
  have r2 := zM_k hZ 1 0 0 34 (lo := 0) (hi := 8) (by decide) rfl
  have r3 := zM_f hZ 1 0 0 37
  refine wz_br (i3L (rfl : i3 a1 = i3 a1) (show (0 : Int32) = i3 0 from rfl) (by omega) (by omega) (by omega) (by omega)) (fun h4 => ?_) (fun h4 => ?_)
  · replace hP := zE_p hP h4
    obtain ⟨Z5, hZ5⟩ := zx (zu Z 1 0 0 2 1)
    replace hP := zl_e hP hZ5
    have hZ5I := zM_u hZ hZ5 (lo := -2147483648) (hi := 2147483647) (by decide) rfl (by omega) ⟨by decide, by decide⟩ (Or.inr (by decide)) rfl
    have hZ5U : zU [] Z Z5 := zU_u zU_r hZ5 (Or.inl rfl)
    have hZ5K : zC [1] Z Z5 := zC_u zC_r hZ5 (by decide)
    intro μ9 e9
    replace e9 := e9.trans (zm_wI (Z := Z) (ν := ν) hZ5 (show ((0 : Nat) : Int) = 0 from rfl) (show ((0 : Nat) : Int) = 0 from rfl) (show ((2 : Nat) : Int) = 2 from rfl) (show (1 : Int32) = i3 1 from rfl))
    subst e9
    exact zlY hP (show (0 : Int32) = i3 0 from rfl) (.inl rfl) ⟨hZ5I, hZ5K, hZ5U⟩
  · replace hP := zE_n hP h4
    have r6 := zM_k hZ 2 0 0 102 (lo := 0) (hi := 48) (by decide) rfl
    refine wz_br (i3L (i3S (zm_rd (Z := Z) (ν := ν) (k := 2) (show ((0 : Nat) : Int) = 0 from rfl) (show ((0 : Nat) : Int) = 0 from rfl) (show ((102 : Nat) : Int) = 102 from rfl)) (show (1 : Int32) = i3 1 from rfl)) (rfl : i3 a1 = i3 a1) (by omega) (by omega) (by omega) (by omega)) (fun h7 => ?_) (fun h7 => ?_)
    · replace hP := zE_p hP h7
      obtain ⟨Z8, hZ8⟩ := zx (zu Z 1 0 0 2 1)
      replace hP := zl_e hP hZ8
      have hZ8I := zM_u hZ hZ8 (lo := -2147483648) (hi := 2147483647) (by decide) rfl (by omega) ⟨by decide, by decide⟩ (Or.inr (by decide)) rfl
      have hZ8U : zU [] Z Z8 := zU_u zU_r hZ8 (Or.inl rfl)
      have hZ8K : zC [1] Z Z8 := zC_u zC_r hZ8 (by decide)
      intro μ9 e9
      replace e9 := e9.trans (zm_wI (Z := Z) (ν := ν) hZ8 (show ((0 : Nat) : Int) = 0 from rfl) (show ((0 : Nat) : Int) = 0 from rfl) (show ((2 : Nat) : Int) = 2 from rfl) (show (1 : Int32) = i3 1 from rfl))
      subst e9
      exact zlY hP (show (0 : Int32) = i3 0 from rfl) (.inl rfl) ⟨hZ8I, hZ8K, hZ8U⟩
    · replace hP := zE_n hP h7
      obtain ⟨Z9, hZ9⟩ := zx (zu Z 1 0 0 2 0)
      replace hP := zl_e hP hZ9
      have hZ9I := zM_0 hZ hZ9 (by decide) (Or.inr (by decide))
      have hZ9U : zU [] Z Z9 := zU_u zU_r hZ9 (Or.inl rfl)
      have hZ9K : zC [1] Z Z9 := zC_u zC_r hZ9 (by decide)
      intro μ9 e9
      replace e9 := e9.trans (zm_wI (Z := Z) (ν := ν) hZ9 (show ((0 : Nat) : Int) = 0 from rfl) (show ((0 : Nat) : Int) = 0 from rfl) (show ((2 : Nat) : Int) = 2 from rfl) (show (0 : Int32) = i3 0 from rfl))
      subst e9
      refine wz_br (i3L (rfl : i3 a2 = i3 a2) (show (0 : Int32) = i3 0 from rfl) (by omega) (by omega) (by omega) (by omega)) (fun h10 => ?_) (fun h10 => ?_)
      · replace hP := zE_p hP h10
        obtain ⟨Z11, hZ11⟩ := zx (zu Z9 1 0 0 2 2)
        replace hP := zl_e hP hZ11
        have hZ11I := zM_u hZ9I hZ11 (lo := -2147483648) (hi := 2147483647) (by decide) rfl (by omega) ⟨by decide, by decide⟩ (Or.inr (by decide)) rfl
        have hZ11U : zU [] Z Z11 := zU_u hZ9U hZ11 (Or.inl rfl)
        have hZ11K : zC [1] Z Z11 := zC_u hZ9K hZ11 (by decide)
        intro μ9 e9
        replace e9 := e9.trans (zm_wI (Z := Z9) (ν := ν) hZ11 (show ((0 : Nat) : Int) = 0 from rfl) (show ((0 : Nat) : Int) = 0 from rfl) (show ((2 : Nat) : Int) = 2 from rfl) (show (2 : Int32) = i3 2 from rfl))
        subst e9
        exact zlY hP (show (0 : Int32) = i3 0 from rfl) (.inl rfl) ⟨hZ11I, hZ11K, hZ11U⟩
      · replace hP := zE_n hP h10
        refine wz_br (i3L (show (15 : Int32) = i3 15 from rfl) (rfl : i3 a2 = i3 a2) (by omega) (by omega) (by omega) (by omega)) (fun h12 => ?_) (fun h12 => ?_)
        · replace hP := zE_p hP h12
          obtain ⟨Z13, hZ13⟩ := zx (zu Z9 1 0 0 2 2)
          replace hP := zl_e hP hZ13
          have hZ13I := zM_u hZ9I hZ13 (lo := -2147483648) (hi := 2147483647) (by decide) rfl (by omega) ⟨by decide, by decide⟩ (Or.inr (by decide)) rfl
          have hZ13U : zU [] Z Z13 := zU_u hZ9U hZ13 (Or.inl rfl)
          have hZ13K : zC [1] Z Z13 := zC_u hZ9K hZ13 (by decide)
          intro μ9 e9
          replace e9 := e9.trans (zm_wI (Z := Z9) (ν := ν) hZ13 (show ((0 : Nat) : Int) = 0 from rfl) (show ((0 : Nat) : Int) = 0 from rfl) (show ((2 : Nat) : Int) = 2 from rfl) (show (2 : Int32) = i3 2 from rfl))
          subst e9
          exact zlY hP (show (0 : Int32) = i3 0 from rfl) (.inl rfl) ⟨hZ13I, hZ13K, hZ13U⟩
        · replace hP := zE_n hP h12
          obtain ⟨Z14, hZ14⟩ := zx (zu Z9 1 0 0 2 0)
          replace hP := zl_e hP hZ14
          have hZ14I := zM_0 hZ9I hZ14 (by decide) (Or.inr (by decide))
          have hZ14U : zU [] Z Z14 := zU_u hZ9U hZ14 (Or.inl rfl)
          have hZ14K : zC [1] Z Z14 := zC_u hZ9K hZ14 (by decide)
          intro μ9 e9
          replace e9 := e9.trans (zm_wI (Z := Z9) (ν := ν) hZ14 (show ((0 : Nat) : Int) = 0 from rfl) (show ((0 : Nat) : Int) = 0 from rfl) (show ((2 : Nat) : Int) = 2 from rfl) (show (0 : Int32) = i3 0 from rfl))
          subst e9
          obtain ⟨v15, hv15, c9, lv15, uv15⟩ := sp_480 (ν := ν) hZ14I (a1 := a1) (by omega) (a2 := a2) (by omega) (zbh (c := 0) (k := 0) hM (Nat.le_of_ble_eq_true rfl))
          replace hP := zl_e hP hv15
          refine wz_cI_of (zas (zcons rfl (zcons (zvi (rfl : i3 a1 = i3 a1)) (zcons (zvi (rfl : i3 a2 = i3 a2)) rfl))) c9) ?_
          clear c9
          exact zlY hP (rfl : i3 v15 = i3 v15) (.inl rfl) ⟨hZ14I, hZ14K, hZ14U⟩
/- yX12_parcel -/
def zy_449 (Z : qz_Z) (a1 : Int) (a2 : Int) : qz_Z × Int := (if a1 < 0 then (zlet (zu Z 1 0 0 2 1) (fun Z5 => (Z5, 0))) else (if ((Z 2 0 0 2000) - 1) < a1 then (zlet (zu Z 1 0 0 2 1) (fun Z8 => (Z8, 0))) else (zlet (zu Z 1 0 0 2 0) (fun Z9 => (if a2 < 0 then (zlet (zu Z9 1 0 0 2 2) (fun Z11 => (Z11, 0))) else (if 20 < a2 then (zlet (zu Z9 1 0 0 2 2) (fun Z13 => (Z13, 0))) else (zlet (zu Z9 1 0 0 2 0) (fun Z14 => (if a2 < 11 ∨ 20 < a2 then (Z14, (Z14 2 0 0 (2010 + 16 * a1 + a2))) else (if a2 = 11 then (if (Z14 2 0 0 (2019 + 16 * a1)) ≠ 0 then (Z14, (Z14 2 0 0 (2021 + 16 * a1))) else (Z14, (Z14 2 0 0 (207 + 20 * (Z14 2 0 0 (2010 + 16 * a1)))))) else (if a2 = 12 then (if (Z14 2 0 0 (2019 + 16 * a1)) ≠ 0 then (Z14, (Z14 2 0 0 (2022 + 16 * a1))) else (Z14, (Z14 2 0 0 (208 + 20 * (Z14 2 0 0 (2010 + 16 * a1)))))) else (if a2 = 13 then (if (Z14 2 0 0 (2019 + 16 * a1)) ≠ 0 then (if ((Z14 2 0 0 (113 + 5 * (Z14 2 0 0 (201 + 20 * (Z14 2 0 0 (2010 + 16 * a1)))))) - (Z14 2 0 0 (114 + 5 * (Z14 2 0 0 (201 + 20 * (Z14 2 0 0 (2010 + 16 * a1))))))) ≤ (Z14 2 0 0 (2021 + 16 * a1)) then (if ((Z14 2 0 0 (113 + 5 * (Z14 2 0 0 (201 + 20 * (Z14 2 0 0 (2010 + 16 * a1)))))) + (Z14 2 0 0 (114 + 5 * (Z14 2 0 0 (201 + 20 * (Z14 2 0 0 (2010 + 16 * a1))))))) < (Z14 2 0 0 (2021 + 16 * a1)) then (if ((Z14 2 0 0 (113 + 5 * (Z14 2 0 0 (201 + 20 * (Z14 2 0 0 (2010 + 16 * a1)))))) + (3 * (Z14 2 0 0 (114 + 5 * (Z14 2 0 0 (201 + 20 * (Z14 2 0 0 (2010 + 16 * a1)))))))) < (Z14 2 0 0 (2021 + 16 * a1)) then (Z14, 3) else (Z14, 2)) else (Z14, 1)) else (Z14, 0)) else (if ((Z14 2 0 0 (113 + 5 * (Z14 2 0 0 (201 + 20 * (Z14 2 0 0 (2010 + 16 * a1)))))) - (Z14 2 0 0 (114 + 5 * (Z14 2 0 0 (201 + 20 * (Z14 2 0 0 (2010 + 16 * a1))))))) ≤ (Z14 2 0 0 (207 + 20 * (Z14 2 0 0 (2010 + 16 * a1)))) then (if ((Z14 2 0 0 (113 + 5 * (Z14 2 0 0 (201 + 20 * (Z14 2 0 0 (2010 + 16 * a1)))))) + (Z14 2 0 0 (114 + 5 * (Z14 2 0 0 (201 + 20 * (Z14 2 0 0 (2010 + 16 * a1))))))) < (Z14 2 0 0 (207 + 20 * (Z14 2 0 0 (2010 + 16 * a1)))) then (if ((Z14 2 0 0 (113 + 5 * (Z14 2 0 0 (201 + 20 * (Z14 2 0 0 (2010 + 16 * a1)))))) + (3 * (Z14 2 0 0 (114 + 5 * (Z14 2 0 0 (201 + 20 * (Z14 2 0 0 (2010 + 16 * a1)))))))) < (Z14 2 0 0 (207 + 20 * (Z14 2 0 0 (2010 + 16 * a1)))) then (Z14, 3) else (Z14, 2)) else (Z14, 1)) else (Z14, 0))) else (if a2 = 14 then (Z14, (Z14 2 0 0 (2009 + 16 * a1 + a2))) else (if a2 = 15 then (Z14, (Z14 2 0 0 (2009 + 16 * a1 + a2))) else (if a2 = 16 then (Z14, (Z14 2 0 0 (2009 + 16 * a1 + a2))) else (if a2 = 17 then (Z14, (Z14 2 0 0 (40 + a1))) else (if a2 = 18 then (Z14, ((Z14 2 0 0 (2013 + 16 * a1)) * (Z14 2 0 0 (2015 + 16 * a1)))) else (if a2 = 19 then (Z14, (Z14 2 0 0 (1810 + 2 * a1))) else (Z14, (Z14 2 0 0 (1811 + 2 * a1)))))))))))))))))))))
theorem sy_449 {s : zSM} {Z : qz_Z} {ν : qz_N} (hZ : zM s Z) (gq : Z 1 0 0 35 = 0) (hM : s.2 + 0 ≤ 1000000000) {a1 : Int} (ga1 : -2147483648 ≤ a1 ∧ a1 ≤ 2147483647) {a2 : Int} (ga2 : -2147483648 ≤ a2 ∧ a2 ≤ 2147483647) {ν1 : qz_N} : ∃ (Z1 : qz_Z) (ν2 : qz_N) (v : Int), (Z1, v) = zy_449 Z a1 a2 ∧ (ν2 = ν ∨ ν2 = ν1) ∧ qf_449 [.inr (.inr (some (1, 0, 0))), .inl (i3 a1), .inl (i3 a2)] (zm Z ν) = some (zm Z1 ν2, .inl (some (.inl (i3 v)))) ∧ (fun Z1 => zM s Z1 ∧ zC [1] Z Z1 ∧ zU [] Z Z1) Z1 := by
  obtain ⟨P, hP⟩ := zx (zy_449 Z a1 a2)
  refine zc_Y (Q := fun Z1 => zM s Z1 ∧ zC [1] Z Z1 ∧ zU [] Z Z1) hP (fw_449 (i3 a1) (i3 a2) _ _ ?_)
  replace hP : zE P (zy_449 Z a1 a2) := hP
  unfold zy_449 at hP
  have r1 := zM_k hZ 1 0 0 35 (lo := 0) (hi := 1) (by decide) rfl
  have r2 := zM_k hZ 1 0 0 34 (lo := 0) (hi := 8) (by decide) rfl
  have r3 := zM_f hZ 1 0 0 37
  refine wz_br (i3L (rfl : i3 a1 = i3 a1) (show (0 : Int32) = i3 0 from rfl) (by omega) (by omega) (by omega) (by omega)) (fun h4 => ?_) (fun h4 => ?_)
  · replace hP := zE_p hP h4
    obtain ⟨Z5, hZ5⟩ := zx (zu Z 1 0 0 2 1)
    replace hP := zl_e hP hZ5
    have hZ5I := zM_u hZ hZ5 (lo := -2147483648) (hi := 2147483647) (by decide) rfl (by omega) ⟨by decide, by decide⟩ (Or.inr (by decide)) rfl
    have hZ5U : zU [] Z Z5 := zU_u zU_r hZ5 (Or.inl rfl)
    have hZ5K : zC [1] Z Z5 := zC_u zC_r hZ5 (by decide)
    intro μ9 e9
    replace e9 := e9.trans (zm_wI (Z := Z) (ν := ν) hZ5 (show ((0 : Nat) : Int) = 0 from rfl) (show ((0 : Nat) : Int) = 0 from rfl) (show ((2 : Nat) : Int) = 2 from rfl) (show (1 : Int32) = i3 1 from rfl))
    subst e9
    exact zlY hP (show (0 : Int32) = i3 0 from rfl) (.inl rfl) ⟨hZ5I, hZ5K, hZ5U⟩
  · replace hP := zE_n hP h4
    have r6 := zM_k hZ 2 0 0 2000 (lo := 0) (hi := 60) (by decide) rfl
    refine wz_br (i3L (i3S (zm_rd (Z := Z) (ν := ν) (k := 2) (show ((0 : Nat) : Int) = 0 from rfl) (show ((0 : Nat) : Int) = 0 from rfl) (show ((2000 : Nat) : Int) = 2000 from rfl)) (show (1 : Int32) = i3 1 from rfl)) (rfl : i3 a1 = i3 a1) (by omega) (by omega) (by omega) (by omega)) (fun h7 => ?_) (fun h7 => ?_)
    · replace hP := zE_p hP h7
      obtain ⟨Z8, hZ8⟩ := zx (zu Z 1 0 0 2 1)
      replace hP := zl_e hP hZ8
      have hZ8I := zM_u hZ hZ8 (lo := -2147483648) (hi := 2147483647) (by decide) rfl (by omega) ⟨by decide, by decide⟩ (Or.inr (by decide)) rfl
      have hZ8U : zU [] Z Z8 := zU_u zU_r hZ8 (Or.inl rfl)
      have hZ8K : zC [1] Z Z8 := zC_u zC_r hZ8 (by decide)
      intro μ9 e9
      replace e9 := e9.trans (zm_wI (Z := Z) (ν := ν) hZ8 (show ((0 : Nat) : Int) = 0 from rfl) (show ((0 : Nat) : Int) = 0 from rfl) (show ((2 : Nat) : Int) = 2 from rfl) (show (1 : Int32) = i3 1 from rfl))
      subst e9
      exact zlY hP (show (0 : Int32) = i3 0 from rfl) (.inl rfl) ⟨hZ8I, hZ8K, hZ8U⟩
    · replace hP := zE_n hP h7
      obtain ⟨Z9, hZ9⟩ := zx (zu Z 1 0 0 2 0)
      replace hP := zl_e hP hZ9
      have hZ9I := zM_0 hZ hZ9 (by decide) (Or.inr (by decide))
      have hZ9U : zU [] Z Z9 := zU_u zU_r hZ9 (Or.inl rfl)
      have hZ9K : zC [1] Z Z9 := zC_u zC_r hZ9 (by decide)
      intro μ9 e9
      replace e9 := e9.trans (zm_wI (Z := Z) (ν := ν) hZ9 (show ((0 : Nat) : Int) = 0 from rfl) (show ((0 : Nat) : Int) = 0 from rfl) (show ((2 : Nat) : Int) = 2 from rfl) (show (0 : Int32) = i3 0 from rfl))
      subst e9
      refine wz_br (i3L (rfl : i3 a2 = i3 a2) (show (0 : Int32) = i3 0 from rfl) (by omega) (by omega) (by omega) (by omega)) (fun h10 => ?_) (fun h10 => ?_)
      · replace hP := zE_p hP h10
        obtain ⟨Z11, hZ11⟩ := zx (zu Z9 1 0 0 2 2)
        replace hP := zl_e hP hZ11
        have hZ11I := zM_u hZ9I hZ11 (lo := -2147483648) (hi := 2147483647) (by decide) rfl (by omega) ⟨by decide, by decide⟩ (Or.inr (by decide)) rfl
        have hZ11U : zU [] Z Z11 := zU_u hZ9U hZ11 (Or.inl rfl)
        have hZ11K : zC [1] Z Z11 := zC_u hZ9K hZ11 (by decide)
        intro μ9 e9
        replace e9 := e9.trans (zm_wI (Z := Z9) (ν := ν) hZ11 (show ((0 : Nat) : Int) = 0 from rfl) (show ((0 : Nat) : Int) = 0 from rfl) (show ((2 : Nat) : Int) = 2 from rfl) (show (2 : Int32) = i3 2 from rfl))
        subst e9
        exact zlY hP (show (0 : Int32) = i3 0 from rfl) (.inl rfl) ⟨hZ11I, hZ11K, hZ11U⟩
      · replace hP := zE_n hP h10
        refine wz_br (i3L (show (20 : Int32) = i3 20 from rfl) (rfl : i3 a2 = i3 a2) (by omega) (by omega) (by omega) (by omega)) (fun h12 => ?_) (fun h12 => ?_)
        · replace hP := zE_p hP h12
          obtain ⟨Z13, hZ13⟩ := zx (zu Z9 1 0 0 2 2)
          replace hP := zl_e hP hZ13
          have hZ13I := zM_u hZ9I hZ13 (lo := -2147483648) (hi := 2147483647) (by decide) rfl (by omega) ⟨by decide, by decide⟩ (Or.inr (by decide)) rfl
          have hZ13U : zU [] Z Z13 := zU_u hZ9U hZ13 (Or.inl rfl)
          have hZ13K : zC [1] Z Z13 := zC_u hZ9K hZ13 (by decide)
          intro μ9 e9
          replace e9 := e9.trans (zm_wI (Z := Z9) (ν := ν) hZ13 (show ((0 : Nat) : Int) = 0 from rfl) (show ((0 : Nat) : Int) = 0 from rfl) (show ((2 : Nat) : Int) = 2 from rfl) (show (2 : Int32) = i3 2 from rfl))
          subst e9
          exact zlY hP (show (0 : Int32) = i3 0 from rfl) (.inl rfl) ⟨hZ13I, hZ13K, hZ13U⟩
        · replace hP := zE_n hP h12
          obtain ⟨Z14, hZ14⟩ := zx (zu Z9 1 0 0 2 0)
          replace hP := zl_e hP hZ14
          have hZ14I := zM_0 hZ9I hZ14 (by decide) (Or.inr (by decide))
          have hZ14U : zU [] Z Z14 := zU_u hZ9U hZ14 (Or.inl rfl)
          have hZ14K : zC [1] Z Z14 := zC_u hZ9K hZ14 (by decide)
          intro μ9 e9
          replace e9 := e9.trans (zm_wI (Z := Z9) (ν := ν) hZ14 (show ((0 : Nat) : Int) = 0 from rfl) (show ((0 : Nat) : Int) = 0 from rfl) (show ((2 : Nat) : Int) = 2 from rfl) (show (0 : Int32) = i3 0 from rfl))
          subst e9
          refine wz_br (i3To (rfl : i3 a2 = i3 a2) (by omega) (by omega)) (fun h15 => ?_) (fun h15 => ?_)
          · replace hP := zE_p hP h15
            refine wz_i0 (i3O (n := 4400) (i3A (i3A (show (2010 : Int32) = i3 2010 from rfl) (i3M (show (16 : Int32) = i3 16 from rfl) (rfl : i3 a1 = i3 a1))) (rfl : i3 a2 = i3 a2)) (by omega) (by omega) (by omega)) ?_
            have r16 := zM_f hZ14I 2 0 0 (2010 + 16 * a1 + a2)
            exact zlY hP (zm_rd (Z := Z14) (ν := ν) (k := 2) (show ((0 : Nat) : Int) = 0 from rfl) (show ((0 : Nat) : Int) = 0 from rfl) (i3I (y := (2010 + 16 * a1 + a2)) (i3A (i3A (show (2010 : Int32) = i3 2010 from rfl) (i3M (show (16 : Int32) = i3 16 from rfl) (rfl : i3 a1 = i3 a1))) (rfl : i3 a2 = i3 a2)) (by omega) (by omega) (by omega))) (.inl rfl) ⟨hZ14I, hZ14K, hZ14U⟩
          · replace hP := zE_n hP h15
            refine wz_br (i3T (rfl : i3 a2 = i3 a2) (by omega) (by omega)) (fun h17 => ?_) (fun h17 => ?_)
            · replace hP := zE_p hP h17
              refine wz_i0 (i3O (n := 4400) (i3A (i3A (show (2010 : Int32) = i3 2010 from rfl) (i3M (show (16 : Int32) = i3 16 from rfl) (rfl : i3 a1 = i3 a1))) (show (9 : Int32) = i3 9 from rfl)) (by omega) (by omega) (by omega)) ?_
              have r18 := zM_k hZ14I 2 0 0 (2019 + 16 * a1) (lo := 0) (hi := 3) (by decide) (zs_2010_9 (x := a1) (by omega) (by omega) (by omega))
              have r19 := zM_lt2 hZ14I a1
              refine wz_br (i3NE (zm_rd (Z := Z14) (ν := ν) (k := 2) (show ((0 : Nat) : Int) = 0 from rfl) (show ((0 : Nat) : Int) = 0 from rfl) (i3I (y := (2019 + 16 * a1)) (i3A (i3A (show (2010 : Int32) = i3 2010 from rfl) (i3M (show (16 : Int32) = i3 16 from rfl) (rfl : i3 a1 = i3 a1))) (show (9 : Int32) = i3 9 from rfl)) (by omega) (by omega) (by omega))) (show (0 : Int32) = i3 0 from rfl) (by omega) (by omega) (by omega) (by omega)) (fun h20 => ?_) (fun h20 => ?_)
              · replace hP := zE_p hP h20
                refine wz_i0 (i3O (n := 4400) (i3A (i3A (show (2010 : Int32) = i3 2010 from rfl) (i3M (show (16 : Int32) = i3 16 from rfl) (rfl : i3 a1 = i3 a1))) (show (11 : Int32) = i3 11 from rfl)) (by omega) (by omega) (by omega)) ?_
                have r21 := zM_k hZ14I 2 0 0 (2021 + 16 * a1) (lo := 0) (hi := 2000) (by decide) (zs_2010_11 (x := a1) (by omega) (by omega) (by omega))
                exact zlY hP (zm_rd (Z := Z14) (ν := ν) (k := 2) (show ((0 : Nat) : Int) = 0 from rfl) (show ((0 : Nat) : Int) = 0 from rfl) (i3I (y := (2021 + 16 * a1)) (i3A (i3A (show (2010 : Int32) = i3 2010 from rfl) (i3M (show (16 : Int32) = i3 16 from rfl) (rfl : i3 a1 = i3 a1))) (show (11 : Int32) = i3 11 from rfl)) (by omega) (by omega) (by omega))) (.inl rfl) ⟨hZ14I, hZ14K, hZ14U⟩
              · replace hP := zE_n hP h20
                refine wz_i0 (i3O (n := 4400) (i3A (i3A (show (2010 : Int32) = i3 2010 from rfl) (i3M (show (16 : Int32) = i3 16 from rfl) (rfl : i3 a1 = i3 a1))) (show (0 : Int32) = i3 0 from rfl)) (by omega) (by omega) (by omega)) ?_
                have r22 := zM_k hZ14I 2 0 0 (2010 + 16 * a1) (lo := 0) (hi := 47) (by decide) (zs_2010_0 (x := a1) (by omega) (by omega) (by omega))
                refine wz_i0 (i3O (n := 4400) (i3A (i3A (show (200 : Int32) = i3 200 from rfl) (i3M (show (20 : Int32) = i3 20 from rfl) (zm_rd (Z := Z14) (ν := ν) (k := 2) (show ((0 : Nat) : Int) = 0 from rfl) (show ((0 : Nat) : Int) = 0 from rfl) (i3I (y := (2010 + 16 * a1)) (i3A (i3A (show (2010 : Int32) = i3 2010 from rfl) (i3M (show (16 : Int32) = i3 16 from rfl) (rfl : i3 a1 = i3 a1))) (show (0 : Int32) = i3 0 from rfl)) (by omega) (by omega) (by omega))))) (show (7 : Int32) = i3 7 from rfl)) (by omega) (by omega) (by omega)) ?_
                have r23 := zM_k hZ14I 2 0 0 (207 + 20 * (Z14 2 0 0 (2010 + 16 * a1))) (lo := 0) (hi := 2000) (by decide) (zs_200_7 (x := (Z14 2 0 0 (2010 + 16 * a1))) (by omega) (by omega) (by omega))
                exact zlY hP (zm_rd (Z := Z14) (ν := ν) (k := 2) (show ((0 : Nat) : Int) = 0 from rfl) (show ((0 : Nat) : Int) = 0 from rfl) (i3I (y := (207 + 20 * (Z14 2 0 0 (2010 + 16 * a1)))) (i3A (i3A (show (200 : Int32) = i3 200 from rfl) (i3M (show (20 : Int32) = i3 20 from rfl) (zm_rd (Z := Z14) (ν := ν) (k := 2) (show ((0 : Nat) : Int) = 0 from rfl) (show ((0 : Nat) : Int) = 0 from rfl) (i3I (y := (2010 + 16 * a1)) (i3A (i3A (show (2010 : Int32) = i3 2010 from rfl) (i3M (show (16 : Int32) = i3 16 from rfl) (rfl : i3 a1 = i3 a1))) (show (0 : Int32) = i3 0 from rfl)) (by omega) (by omega) (by omega))))) (show (7 : Int32) = i3 7 from rfl)) (by omega) (by omega) (by omega))) (.inl rfl) ⟨hZ14I, hZ14K, hZ14U⟩
            · replace hP := zE_n hP h17
              refine wz_br (i3T (rfl : i3 a2 = i3 a2) (by omega) (by omega)) (fun h24 => ?_) (fun h24 => ?_)
              · replace hP := zE_p hP h24
                refine wz_i0 (i3O (n := 4400) (i3A (i3A (show (2010 : Int32) = i3 2010 from rfl) (i3M (show (16 : Int32) = i3 16 from rfl) (rfl : i3 a1 = i3 a1))) (show (9 : Int32) = i3 9 from rfl)) (by omega) (by omega) (by omega)) ?_
                have r25 := zM_k hZ14I 2 0 0 (2019 + 16 * a1) (lo := 0) (hi := 3) (by decide) (zs_2010_9 (x := a1) (by omega) (by omega) (by omega))
                have r26 := zM_lt2 hZ14I a1
                refine wz_br (i3NE (zm_rd (Z := Z14) (ν := ν) (k := 2) (show ((0 : Nat) : Int) = 0 from rfl) (show ((0 : Nat) : Int) = 0 from rfl) (i3I (y := (2019 + 16 * a1)) (i3A (i3A (show (2010 : Int32) = i3 2010 from rfl) (i3M (show (16 : Int32) = i3 16 from rfl) (rfl : i3 a1 = i3 a1))) (show (9 : Int32) = i3 9 from rfl)) (by omega) (by omega) (by omega))) (show (0 : Int32) = i3 0 from rfl) (by omega) (by omega) (by omega) (by omega)) (fun h27 => ?_) (fun h27 => ?_)
                · replace hP := zE_p hP h27
                  refine wz_i0 (i3O (n := 4400) (i3A (i3A (show (2010 : Int32) = i3 2010 from rfl) (i3M (show (16 : Int32) = i3 16 from rfl) (rfl : i3 a1 = i3 a1))) (show (12 : Int32) = i3 12 from rfl)) (by omega) (by omega) (by omega)) ?_
                  have r28 := zM_k hZ14I 2 0 0 (2022 + 16 * a1) (lo := 0) (hi := 999) (by decide) (zs_2010_12 (x := a1) (by omega) (by omega) (by omega))
                  exact zlY hP (zm_rd (Z := Z14) (ν := ν) (k := 2) (show ((0 : Nat) : Int) = 0 from rfl) (show ((0 : Nat) : Int) = 0 from rfl) (i3I (y := (2022 + 16 * a1)) (i3A (i3A (show (2010 : Int32) = i3 2010 from rfl) (i3M (show (16 : Int32) = i3 16 from rfl) (rfl : i3 a1 = i3 a1))) (show (12 : Int32) = i3 12 from rfl)) (by omega) (by omega) (by omega))) (.inl rfl) ⟨hZ14I, hZ14K, hZ14U⟩
                · replace hP := zE_n hP h27
                  refine wz_i0 (i3O (n := 4400) (i3A (i3A (show (2010 : Int32) = i3 2010 from rfl) (i3M (show (16 : Int32) = i3 16 from rfl) (rfl : i3 a1 = i3 a1))) (show (0 : Int32) = i3 0 from rfl)) (by omega) (by omega) (by omega)) ?_
                  have r29 := zM_k hZ14I 2 0 0 (2010 + 16 * a1) (lo := 0) (hi := 47) (by decide) (zs_2010_0 (x := a1) (by omega) (by omega) (by omega))
                  refine wz_i0 (i3O (n := 4400) (i3A (i3A (show (200 : Int32) = i3 200 from rfl) (i3M (show (20 : Int32) = i3 20 from rfl) (zm_rd (Z := Z14) (ν := ν) (k := 2) (show ((0 : Nat) : Int) = 0 from rfl) (show ((0 : Nat) : Int) = 0 from rfl) (i3I (y := (2010 + 16 * a1)) (i3A (i3A (show (2010 : Int32) = i3 2010 from rfl) (i3M (show (16 : Int32) = i3 16 from rfl) (rfl : i3 a1 = i3 a1))) (show (0 : Int32) = i3 0 from rfl)) (by omega) (by omega) (by omega))))) (show (8 : Int32) = i3 8 from rfl)) (by omega) (by omega) (by omega)) ?_
                  have r30 := zM_k hZ14I 2 0 0 (208 + 20 * (Z14 2 0 0 (2010 + 16 * a1))) (lo := 0) (hi := 999) (by decide) (zs_200_8 (x := (Z14 2 0 0 (2010 + 16 * a1))) (by omega) (by omega) (by omega))
                  exact zlY hP (zm_rd (Z := Z14) (ν := ν) (k := 2) (show ((0 : Nat) : Int) = 0 from rfl) (show ((0 : Nat) : Int) = 0 from rfl) (i3I (y := (208 + 20 * (Z14 2 0 0 (2010 + 16 * a1)))) (i3A (i3A (show (200 : Int32) = i3 200 from rfl) (i3M (show (20 : Int32) = i3 20 from rfl) (zm_rd (Z := Z14) (ν := ν) (k := 2) (show ((0 : Nat) : Int) = 0 from rfl) (show ((0 : Nat) : Int) = 0 from rfl) (i3I (y := (2010 + 16 * a1)) (i3A (i3A (show (2010 : Int32) = i3 2010 from rfl) (i3M (show (16 : Int32) = i3 16 from rfl) (rfl : i3 a1 = i3 a1))) (show (0 : Int32) = i3 0 from rfl)) (by omega) (by omega) (by omega))))) (show (8 : Int32) = i3 8 from rfl)) (by omega) (by omega) (by omega))) (.inl rfl) ⟨hZ14I, hZ14K, hZ14U⟩
              · replace hP := zE_n hP h24
                refine wz_br (i3T (rfl : i3 a2 = i3 a2) (by omega) (by omega)) (fun h31 => ?_) (fun h31 => ?_)
                · replace hP := zE_p hP h31
                  refine wz_i0 (i3O (n := 4400) (i3A (i3A (show (2010 : Int32) = i3 2010 from rfl) (i3M (show (16 : Int32) = i3 16 from rfl) (rfl : i3 a1 = i3 a1))) (show (0 : Int32) = i3 0 from rfl)) (by omega) (by omega) (by omega)) ?_
                  have r32 := zM_k hZ14I 2 0 0 (2010 + 16 * a1) (lo := 0) (hi := 47) (by decide) (zs_2010_0 (x := a1) (by omega) (by omega) (by omega))
                  refine wz_i0 (i3O (n := 4400) (i3A (i3A (show (200 : Int32) = i3 200 from rfl) (i3M (show (20 : Int32) = i3 20 from rfl) (zm_rd (Z := Z14) (ν := ν) (k := 2) (show ((0 : Nat) : Int) = 0 from rfl) (show ((0 : Nat) : Int) = 0 from rfl) (i3I (y := (2010 + 16 * a1)) (i3A (i3A (show (2010 : Int32) = i3 2010 from rfl) (i3M (show (16 : Int32) = i3 16 from rfl) (rfl : i3 a1 = i3 a1))) (show (0 : Int32) = i3 0 from rfl)) (by omega) (by omega) (by omega))))) (show (1 : Int32) = i3 1 from rfl)) (by omega) (by omega) (by omega)) ?_
                  refine wz_i0 (i3O (n := 4400) (i3A (i3A (show (2010 : Int32) = i3 2010 from rfl) (i3M (show (16 : Int32) = i3 16 from rfl) (rfl : i3 a1 = i3 a1))) (show (9 : Int32) = i3 9 from rfl)) (by omega) (by omega) (by omega)) ?_
                  have r33 := zM_k hZ14I 2 0 0 (2019 + 16 * a1) (lo := 0) (hi := 3) (by decide) (zs_2010_9 (x := a1) (by omega) (by omega) (by omega))
                  have r34 := zM_lt2 hZ14I a1
                  refine wz_br (i3NE (zm_rd (Z := Z14) (ν := ν) (k := 2) (show ((0 : Nat) : Int) = 0 from rfl) (show ((0 : Nat) : Int) = 0 from rfl) (i3I (y := (2019 + 16 * a1)) (i3A (i3A (show (2010 : Int32) = i3 2010 from rfl) (i3M (show (16 : Int32) = i3 16 from rfl) (rfl : i3 a1 = i3 a1))) (show (9 : Int32) = i3 9 from rfl)) (by omega) (by omega) (by omega))) (show (0 : Int32) = i3 0 from rfl) (by omega) (by omega) (by omega) (by omega)) (fun h35 => ?_) (fun h35 => ?_)
                  · replace hP := zE_p hP h35
                    refine wz_i0 (i3O (n := 4400) (i3A (i3A (show (2010 : Int32) = i3 2010 from rfl) (i3M (show (16 : Int32) = i3 16 from rfl) (rfl : i3 a1 = i3 a1))) (show (11 : Int32) = i3 11 from rfl)) (by omega) (by omega) (by omega)) ?_
                    have r36 := zM_k hZ14I 2 0 0 (201 + 20 * (Z14 2 0 0 (2010 + 16 * a1))) (lo := 0) (hi := 4) (by decide) (zs_200_1 (x := (Z14 2 0 0 (2010 + 16 * a1))) (by omega) (by omega) (by omega))
                    refine wz_i0 (i3O (n := 4400) (i3A (i3A (show (110 : Int32) = i3 110 from rfl) (i3M (show (5 : Int32) = i3 5 from rfl) (zm_rd (Z := Z14) (ν := ν) (k := 2) (show ((0 : Nat) : Int) = 0 from rfl) (show ((0 : Nat) : Int) = 0 from rfl) (i3I (y := (201 + 20 * (Z14 2 0 0 (2010 + 16 * a1)))) (i3A (i3A (show (200 : Int32) = i3 200 from rfl) (i3M (show (20 : Int32) = i3 20 from rfl) (zm_rd (Z := Z14) (ν := ν) (k := 2) (show ((0 : Nat) : Int) = 0 from rfl) (show ((0 : Nat) : Int) = 0 from rfl) (i3I (y := (2010 + 16 * a1)) (i3A (i3A (show (2010 : Int32) = i3 2010 from rfl) (i3M (show (16 : Int32) = i3 16 from rfl) (rfl : i3 a1 = i3 a1))) (show (0 : Int32) = i3 0 from rfl)) (by omega) (by omega) (by omega))))) (show (1 : Int32) = i3 1 from rfl)) (by omega) (by omega) (by omega))))) (show (3 : Int32) = i3 3 from rfl)) (by omega) (by omega) (by omega)) ?_
                    refine wz_i0 (i3O (n := 4400) (i3A (i3A (show (110 : Int32) = i3 110 from rfl) (i3M (show (5 : Int32) = i3 5 from rfl) (zm_rd (Z := Z14) (ν := ν) (k := 2) (show ((0 : Nat) : Int) = 0 from rfl) (show ((0 : Nat) : Int) = 0 from rfl) (i3I (y := (201 + 20 * (Z14 2 0 0 (2010 + 16 * a1)))) (i3A (i3A (show (200 : Int32) = i3 200 from rfl) (i3M (show (20 : Int32) = i3 20 from rfl) (zm_rd (Z := Z14) (ν := ν) (k := 2) (show ((0 : Nat) : Int) = 0 from rfl) (show ((0 : Nat) : Int) = 0 from rfl) (i3I (y := (2010 + 16 * a1)) (i3A (i3A (show (2010 : Int32) = i3 2010 from rfl) (i3M (show (16 : Int32) = i3 16 from rfl) (rfl : i3 a1 = i3 a1))) (show (0 : Int32) = i3 0 from rfl)) (by omega) (by omega) (by omega))))) (show (1 : Int32) = i3 1 from rfl)) (by omega) (by omega) (by omega))))) (show (4 : Int32) = i3 4 from rfl)) (by omega) (by omega) (by omega)) ?_
                    have r37 := zM_k hZ14I 2 0 0 (113 + 5 * (Z14 2 0 0 (201 + 20 * (Z14 2 0 0 (2010 + 16 * a1))))) (lo := 0) (hi := 600) (by decide) (zs_110_3 (x := (Z14 2 0 0 (201 + 20 * (Z14 2 0 0 (2010 + 16 * a1))))) (by omega) (by omega) (by omega))
                    have r38 := zM_k hZ14I 2 0 0 (114 + 5 * (Z14 2 0 0 (201 + 20 * (Z14 2 0 0 (2010 + 16 * a1))))) (lo := 0) (hi := 99) (by decide) (zs_110_4 (x := (Z14 2 0 0 (201 + 20 * (Z14 2 0 0 (2010 + 16 * a1))))) (by omega) (by omega) (by omega))
                    have r39 := zM_k hZ14I 2 0 0 (2021 + 16 * a1) (lo := 0) (hi := 2000) (by decide) (zs_2010_11 (x := a1) (by omega) (by omega) (by omega))
                    refine wz_br (i3Le (i3S (zm_rd (Z := Z14) (ν := ν) (k := 2) (show ((0 : Nat) : Int) = 0 from rfl) (show ((0 : Nat) : Int) = 0 from rfl) (i3I (y := (113 + 5 * (Z14 2 0 0 (201 + 20 * (Z14 2 0 0 (2010 + 16 * a1)))))) (i3A (i3A (show (110 : Int32) = i3 110 from rfl) (i3M (show (5 : Int32) = i3 5 from rfl) (zm_rd (Z := Z14) (ν := ν) (k := 2) (show ((0 : Nat) : Int) = 0 from rfl) (show ((0 : Nat) : Int) = 0 from rfl) (i3I (y := (201 + 20 * (Z14 2 0 0 (2010 + 16 * a1)))) (i3A (i3A (show (200 : Int32) = i3 200 from rfl) (i3M (show (20 : Int32) = i3 20 from rfl) (zm_rd (Z := Z14) (ν := ν) (k := 2) (show ((0 : Nat) : Int) = 0 from rfl) (show ((0 : Nat) : Int) = 0 from rfl) (i3I (y := (2010 + 16 * a1)) (i3A (i3A (show (2010 : Int32) = i3 2010 from rfl) (i3M (show (16 : Int32) = i3 16 from rfl) (rfl : i3 a1 = i3 a1))) (show (0 : Int32) = i3 0 from rfl)) (by omega) (by omega) (by omega))))) (show (1 : Int32) = i3 1 from rfl)) (by omega) (by omega) (by omega))))) (show (3 : Int32) = i3 3 from rfl)) (by omega) (by omega) (by omega))) (zm_rd (Z := Z14) (ν := ν) (k := 2) (show ((0 : Nat) : Int) = 0 from rfl) (show ((0 : Nat) : Int) = 0 from rfl) (i3I (y := (114 + 5 * (Z14 2 0 0 (201 + 20 * (Z14 2 0 0 (2010 + 16 * a1)))))) (i3A (i3A (show (110 : Int32) = i3 110 from rfl) (i3M (show (5 : Int32) = i3 5 from rfl) (zm_rd (Z := Z14) (ν := ν) (k := 2) (show ((0 : Nat) : Int) = 0 from rfl) (show ((0 : Nat) : Int) = 0 from rfl) (i3I (y := (201 + 20 * (Z14 2 0 0 (2010 + 16 * a1)))) (i3A (i3A (show (200 : Int32) = i3 200 from rfl) (i3M (show (20 : Int32) = i3 20 from rfl) (zm_rd (Z := Z14) (ν := ν) (k := 2) (show ((0 : Nat) : Int) = 0 from rfl) (show ((0 : Nat) : Int) = 0 from rfl) (i3I (y := (2010 + 16 * a1)) (i3A (i3A (show (2010 : Int32) = i3 2010 from rfl) (i3M (show (16 : Int32) = i3 16 from rfl) (rfl : i3 a1 = i3 a1))) (show (0 : Int32) = i3 0 from rfl)) (by omega) (by omega) (by omega))))) (show (1 : Int32) = i3 1 from rfl)) (by omega) (by omega) (by omega))))) (show (4 : Int32) = i3 4 from rfl)) (by omega) (by omega) (by omega)))) (zm_rd (Z := Z14) (ν := ν) (k := 2) (show ((0 : Nat) : Int) = 0 from rfl) (show ((0 : Nat) : Int) = 0 from rfl) (i3I (y := (2021 + 16 * a1)) (i3A (i3A (show (2010 : Int32) = i3 2010 from rfl) (i3M (show (16 : Int32) = i3 16 from rfl) (rfl : i3 a1 = i3 a1))) (show (11 : Int32) = i3 11 from rfl)) (by omega) (by omega) (by omega))) (by omega) (by omega) (by omega) (by omega)) (fun h40 => ?_) (fun h40 => ?_)
                    · replace hP := zE_p hP h40
                      refine wz_br (i3L (i3A (zm_rd (Z := Z14) (ν := ν) (k := 2) (show ((0 : Nat) : Int) = 0 from rfl) (show ((0 : Nat) : Int) = 0 from rfl) (i3I (y := (113 + 5 * (Z14 2 0 0 (201 + 20 * (Z14 2 0 0 (2010 + 16 * a1)))))) (i3A (i3A (show (110 : Int32) = i3 110 from rfl) (i3M (show (5 : Int32) = i3 5 from rfl) (zm_rd (Z := Z14) (ν := ν) (k := 2) (show ((0 : Nat) : Int) = 0 from rfl) (show ((0 : Nat) : Int) = 0 from rfl) (i3I (y := (201 + 20 * (Z14 2 0 0 (2010 + 16 * a1)))) (i3A (i3A (show (200 : Int32) = i3 200 from rfl) (i3M (show (20 : Int32) = i3 20 from rfl) (zm_rd (Z := Z14) (ν := ν) (k := 2) (show ((0 : Nat) : Int) = 0 from rfl) (show ((0 : Nat) : Int) = 0 from rfl) (i3I (y := (2010 + 16 * a1)) (i3A (i3A (show (2010 : Int32) = i3 2010 from rfl) (i3M (show (16 : Int32) = i3 16 from rfl) (rfl : i3 a1 = i3 a1))) (show (0 : Int32) = i3 0 from rfl)) (by omega) (by omega) (by omega))))) (show (1 : Int32) = i3 1 from rfl)) (by omega) (by omega) (by omega))))) (show (3 : Int32) = i3 3 from rfl)) (by omega) (by omega) (by omega))) (zm_rd (Z := Z14) (ν := ν) (k := 2) (show ((0 : Nat) : Int) = 0 from rfl) (show ((0 : Nat) : Int) = 0 from rfl) (i3I (y := (114 + 5 * (Z14 2 0 0 (201 + 20 * (Z14 2 0 0 (2010 + 16 * a1)))))) (i3A (i3A (show (110 : Int32) = i3 110 from rfl) (i3M (show (5 : Int32) = i3 5 from rfl) (zm_rd (Z := Z14) (ν := ν) (k := 2) (show ((0 : Nat) : Int) = 0 from rfl) (show ((0 : Nat) : Int) = 0 from rfl) (i3I (y := (201 + 20 * (Z14 2 0 0 (2010 + 16 * a1)))) (i3A (i3A (show (200 : Int32) = i3 200 from rfl) (i3M (show (20 : Int32) = i3 20 from rfl) (zm_rd (Z := Z14) (ν := ν) (k := 2) (show ((0 : Nat) : Int) = 0 from rfl) (show ((0 : Nat) : Int) = 0 from rfl) (i3I (y := (2010 + 16 * a1)) (i3A (i3A (show (2010 : Int32) = i3 2010 from rfl) (i3M (show (16 : Int32) = i3 16 from rfl) (rfl : i3 a1 = i3 a1))) (show (0 : Int32) = i3 0 from rfl)) (by omega) (by omega) (by omega))))) (show (1 : Int32) = i3 1 from rfl)) (by omega) (by omega) (by omega))))) (show (4 : Int32) = i3 4 from rfl)) (by omega) (by omega) (by omega)))) (zm_rd (Z := Z14) (ν := ν) (k := 2) (show ((0 : Nat) : Int) = 0 from rfl) (show ((0 : Nat) : Int) = 0 from rfl) (i3I (y := (2021 + 16 * a1)) (i3A (i3A (show (2010 : Int32) = i3 2010 from rfl) (i3M (show (16 : Int32) = i3 16 from rfl) (rfl : i3 a1 = i3 a1))) (show (11 : Int32) = i3 11 from rfl)) (by omega) (by omega) (by omega))) (by omega) (by omega) (by omega) (by omega)) (fun h41 => ?_) (fun h41 => ?_)
                      · replace hP := zE_p hP h41
                        refine wz_br (i3L (i3A (zm_rd (Z := Z14) (ν := ν) (k := 2) (show ((0 : Nat) : Int) = 0 from rfl) (show ((0 : Nat) : Int) = 0 from rfl) (i3I (y := (113 + 5 * (Z14 2 0 0 (201 + 20 * (Z14 2 0 0 (2010 + 16 * a1)))))) (i3A (i3A (show (110 : Int32) = i3 110 from rfl) (i3M (show (5 : Int32) = i3 5 from rfl) (zm_rd (Z := Z14) (ν := ν) (k := 2) (show ((0 : Nat) : Int) = 0 from rfl) (show ((0 : Nat) : Int) = 0 from rfl) (i3I (y := (201 + 20 * (Z14 2 0 0 (2010 + 16 * a1)))) (i3A (i3A (show (200 : Int32) = i3 200 from rfl) (i3M (show (20 : Int32) = i3 20 from rfl) (zm_rd (Z := Z14) (ν := ν) (k := 2) (show ((0 : Nat) : Int) = 0 from rfl) (show ((0 : Nat) : Int) = 0 from rfl) (i3I (y := (2010 + 16 * a1)) (i3A (i3A (show (2010 : Int32) = i3 2010 from rfl) (i3M (show (16 : Int32) = i3 16 from rfl) (rfl : i3 a1 = i3 a1))) (show (0 : Int32) = i3 0 from rfl)) (by omega) (by omega) (by omega))))) (show (1 : Int32) = i3 1 from rfl)) (by omega) (by omega) (by omega))))) (show (3 : Int32) = i3 3 from rfl)) (by omega) (by omega) (by omega))) (i3M (show (3 : Int32) = i3 3 from rfl) (zm_rd (Z := Z14) (ν := ν) (k := 2) (show ((0 : Nat) : Int) = 0 from rfl) (show ((0 : Nat) : Int) = 0 from rfl) (i3I (y := (114 + 5 * (Z14 2 0 0 (201 + 20 * (Z14 2 0 0 (2010 + 16 * a1)))))) (i3A (i3A (show (110 : Int32) = i3 110 from rfl) (i3M (show (5 : Int32) = i3 5 from rfl) (zm_rd (Z := Z14) (ν := ν) (k := 2) (show ((0 : Nat) : Int) = 0 from rfl) (show ((0 : Nat) : Int) = 0 from rfl) (i3I (y := (201 + 20 * (Z14 2 0 0 (2010 + 16 * a1)))) (i3A (i3A (show (200 : Int32) = i3 200 from rfl) (i3M (show (20 : Int32) = i3 20 from rfl) (zm_rd (Z := Z14) (ν := ν) (k := 2) (show ((0 : Nat) : Int) = 0 from rfl) (show ((0 : Nat) : Int) = 0 from rfl) (i3I (y := (2010 + 16 * a1)) (i3A (i3A (show (2010 : Int32) = i3 2010 from rfl) (i3M (show (16 : Int32) = i3 16 from rfl) (rfl : i3 a1 = i3 a1))) (show (0 : Int32) = i3 0 from rfl)) (by omega) (by omega) (by omega))))) (show (1 : Int32) = i3 1 from rfl)) (by omega) (by omega) (by omega))))) (show (4 : Int32) = i3 4 from rfl)) (by omega) (by omega) (by omega))))) (zm_rd (Z := Z14) (ν := ν) (k := 2) (show ((0 : Nat) : Int) = 0 from rfl) (show ((0 : Nat) : Int) = 0 from rfl) (i3I (y := (2021 + 16 * a1)) (i3A (i3A (show (2010 : Int32) = i3 2010 from rfl) (i3M (show (16 : Int32) = i3 16 from rfl) (rfl : i3 a1 = i3 a1))) (show (11 : Int32) = i3 11 from rfl)) (by omega) (by omega) (by omega))) (by omega) (by omega) (by omega) (by omega)) (fun h42 => ?_) (fun h42 => ?_)
                        · replace hP := zE_p hP h42
                          exact zlY hP (show (3 : Int32) = i3 3 from rfl) (.inl rfl) ⟨hZ14I, hZ14K, hZ14U⟩
                        · replace hP := zE_n hP h42
                          exact zlY hP (show (2 : Int32) = i3 2 from rfl) (.inl rfl) ⟨hZ14I, hZ14K, hZ14U⟩
                      · replace hP := zE_n hP h41
                        exact zlY hP (show (1 : Int32) = i3 1 from rfl) (.inl rfl) ⟨hZ14I, hZ14K, hZ14U⟩
                    · replace hP := zE_n hP h40
                      exact zlY hP (show (0 : Int32) = i3 0 from rfl) (.inl rfl) ⟨hZ14I, hZ14K, hZ14U⟩
                  · replace hP := zE_n hP h35
                    refine wz_i0 (i3O (n := 4400) (i3A (i3A (show (2010 : Int32) = i3 2010 from rfl) (i3M (show (16 : Int32) = i3 16 from rfl) (rfl : i3 a1 = i3 a1))) (show (0 : Int32) = i3 0 from rfl)) (by omega) (by omega) (by omega)) ?_
                    refine wz_i0 (i3O (n := 4400) (i3A (i3A (show (200 : Int32) = i3 200 from rfl) (i3M (show (20 : Int32) = i3 20 from rfl) (zm_rd (Z := Z14) (ν := ν) (k := 2) (show ((0 : Nat) : Int) = 0 from rfl) (show ((0 : Nat) : Int) = 0 from rfl) (i3I (y := (2010 + 16 * a1)) (i3A (i3A (show (2010 : Int32) = i3 2010 from rfl) (i3M (show (16 : Int32) = i3 16 from rfl) (rfl : i3 a1 = i3 a1))) (show (0 : Int32) = i3 0 from rfl)) (by omega) (by omega) (by omega))))) (show (7 : Int32) = i3 7 from rfl)) (by omega) (by omega) (by omega)) ?_
                    have r43 := zM_k hZ14I 2 0 0 (201 + 20 * (Z14 2 0 0 (2010 + 16 * a1))) (lo := 0) (hi := 4) (by decide) (zs_200_1 (x := (Z14 2 0 0 (2010 + 16 * a1))) (by omega) (by omega) (by omega))
                    refine wz_i0 (i3O (n := 4400) (i3A (i3A (show (110 : Int32) = i3 110 from rfl) (i3M (show (5 : Int32) = i3 5 from rfl) (zm_rd (Z := Z14) (ν := ν) (k := 2) (show ((0 : Nat) : Int) = 0 from rfl) (show ((0 : Nat) : Int) = 0 from rfl) (i3I (y := (201 + 20 * (Z14 2 0 0 (2010 + 16 * a1)))) (i3A (i3A (show (200 : Int32) = i3 200 from rfl) (i3M (show (20 : Int32) = i3 20 from rfl) (zm_rd (Z := Z14) (ν := ν) (k := 2) (show ((0 : Nat) : Int) = 0 from rfl) (show ((0 : Nat) : Int) = 0 from rfl) (i3I (y := (2010 + 16 * a1)) (i3A (i3A (show (2010 : Int32) = i3 2010 from rfl) (i3M (show (16 : Int32) = i3 16 from rfl) (rfl : i3 a1 = i3 a1))) (show (0 : Int32) = i3 0 from rfl)) (by omega) (by omega) (by omega))))) (show (1 : Int32) = i3 1 from rfl)) (by omega) (by omega) (by omega))))) (show (3 : Int32) = i3 3 from rfl)) (by omega) (by omega) (by omega)) ?_
                    refine wz_i0 (i3O (n := 4400) (i3A (i3A (show (110 : Int32) = i3 110 from rfl) (i3M (show (5 : Int32) = i3 5 from rfl) (zm_rd (Z := Z14) (ν := ν) (k := 2) (show ((0 : Nat) : Int) = 0 from rfl) (show ((0 : Nat) : Int) = 0 from rfl) (i3I (y := (201 + 20 * (Z14 2 0 0 (2010 + 16 * a1)))) (i3A (i3A (show (200 : Int32) = i3 200 from rfl) (i3M (show (20 : Int32) = i3 20 from rfl) (zm_rd (Z := Z14) (ν := ν) (k := 2) (show ((0 : Nat) : Int) = 0 from rfl) (show ((0 : Nat) : Int) = 0 from rfl) (i3I (y := (2010 + 16 * a1)) (i3A (i3A (show (2010 : Int32) = i3 2010 from rfl) (i3M (show (16 : Int32) = i3 16 from rfl) (rfl : i3 a1 = i3 a1))) (show (0 : Int32) = i3 0 from rfl)) (by omega) (by omega) (by omega))))) (show (1 : Int32) = i3 1 from rfl)) (by omega) (by omega) (by omega))))) (show (4 : Int32) = i3 4 from rfl)) (by omega) (by omega) (by omega)) ?_
                    have r44 := zM_k hZ14I 2 0 0 (113 + 5 * (Z14 2 0 0 (201 + 20 * (Z14 2 0 0 (2010 + 16 * a1))))) (lo := 0) (hi := 600) (by decide) (zs_110_3 (x := (Z14 2 0 0 (201 + 20 * (Z14 2 0 0 (2010 + 16 * a1))))) (by omega) (by omega) (by omega))
                    have r45 := zM_k hZ14I 2 0 0 (114 + 5 * (Z14 2 0 0 (201 + 20 * (Z14 2 0 0 (2010 + 16 * a1))))) (lo := 0) (hi := 99) (by decide) (zs_110_4 (x := (Z14 2 0 0 (201 + 20 * (Z14 2 0 0 (2010 + 16 * a1))))) (by omega) (by omega) (by omega))
                    have r46 := zM_k hZ14I 2 0 0 (207 + 20 * (Z14 2 0 0 (2010 + 16 * a1))) (lo := 0) (hi := 2000) (by decide) (zs_200_7 (x := (Z14 2 0 0 (2010 + 16 * a1))) (by omega) (by omega) (by omega))
                    refine wz_br (i3Le (i3S (zm_rd (Z := Z14) (ν := ν) (k := 2) (show ((0 : Nat) : Int) = 0 from rfl) (show ((0 : Nat) : Int) = 0 from rfl) (i3I (y := (113 + 5 * (Z14 2 0 0 (201 + 20 * (Z14 2 0 0 (2010 + 16 * a1)))))) (i3A (i3A (show (110 : Int32) = i3 110 from rfl) (i3M (show (5 : Int32) = i3 5 from rfl) (zm_rd (Z := Z14) (ν := ν) (k := 2) (show ((0 : Nat) : Int) = 0 from rfl) (show ((0 : Nat) : Int) = 0 from rfl) (i3I (y := (201 + 20 * (Z14 2 0 0 (2010 + 16 * a1)))) (i3A (i3A (show (200 : Int32) = i3 200 from rfl) (i3M (show (20 : Int32) = i3 20 from rfl) (zm_rd (Z := Z14) (ν := ν) (k := 2) (show ((0 : Nat) : Int) = 0 from rfl) (show ((0 : Nat) : Int) = 0 from rfl) (i3I (y := (2010 + 16 * a1)) (i3A (i3A (show (2010 : Int32) = i3 2010 from rfl) (i3M (show (16 : Int32) = i3 16 from rfl) (rfl : i3 a1 = i3 a1))) (show (0 : Int32) = i3 0 from rfl)) (by omega) (by omega) (by omega))))) (show (1 : Int32) = i3 1 from rfl)) (by omega) (by omega) (by omega))))) (show (3 : Int32) = i3 3 from rfl)) (by omega) (by omega) (by omega))) (zm_rd (Z := Z14) (ν := ν) (k := 2) (show ((0 : Nat) : Int) = 0 from rfl) (show ((0 : Nat) : Int) = 0 from rfl) (i3I (y := (114 + 5 * (Z14 2 0 0 (201 + 20 * (Z14 2 0 0 (2010 + 16 * a1)))))) (i3A (i3A (show (110 : Int32) = i3 110 from rfl) (i3M (show (5 : Int32) = i3 5 from rfl) (zm_rd (Z := Z14) (ν := ν) (k := 2) (show ((0 : Nat) : Int) = 0 from rfl) (show ((0 : Nat) : Int) = 0 from rfl) (i3I (y := (201 + 20 * (Z14 2 0 0 (2010 + 16 * a1)))) (i3A (i3A (show (200 : Int32) = i3 200 from rfl) (i3M (show (20 : Int32) = i3 20 from rfl) (zm_rd (Z := Z14) (ν := ν) (k := 2) (show ((0 : Nat) : Int) = 0 from rfl) (show ((0 : Nat) : Int) = 0 from rfl) (i3I (y := (2010 + 16 * a1)) (i3A (i3A (show (2010 : Int32) = i3 2010 from rfl) (i3M (show (16 : Int32) = i3 16 from rfl) (rfl : i3 a1 = i3 a1))) (show (0 : Int32) = i3 0 from rfl)) (by omega) (by omega) (by omega))))) (show (1 : Int32) = i3 1 from rfl)) (by omega) (by omega) (by omega))))) (show (4 : Int32) = i3 4 from rfl)) (by omega) (by omega) (by omega)))) (zm_rd (Z := Z14) (ν := ν) (k := 2) (show ((0 : Nat) : Int) = 0 from rfl) (show ((0 : Nat) : Int) = 0 from rfl) (i3I (y := (207 + 20 * (Z14 2 0 0 (2010 + 16 * a1)))) (i3A (i3A (show (200 : Int32) = i3 200 from rfl) (i3M (show (20 : Int32) = i3 20 from rfl) (zm_rd (Z := Z14) (ν := ν) (k := 2) (show ((0 : Nat) : Int) = 0 from rfl) (show ((0 : Nat) : Int) = 0 from rfl) (i3I (y := (2010 + 16 * a1)) (i3A (i3A (show (2010 : Int32) = i3 2010 from rfl) (i3M (show (16 : Int32) = i3 16 from rfl) (rfl : i3 a1 = i3 a1))) (show (0 : Int32) = i3 0 from rfl)) (by omega) (by omega) (by omega))))) (show (7 : Int32) = i3 7 from rfl)) (by omega) (by omega) (by omega))) (by omega) (by omega) (by omega) (by omega)) (fun h47 => ?_) (fun h47 => ?_)
                    · replace hP := zE_p hP h47
                      refine wz_br (i3L (i3A (zm_rd (Z := Z14) (ν := ν) (k := 2) (show ((0 : Nat) : Int) = 0 from rfl) (show ((0 : Nat) : Int) = 0 from rfl) (i3I (y := (113 + 5 * (Z14 2 0 0 (201 + 20 * (Z14 2 0 0 (2010 + 16 * a1)))))) (i3A (i3A (show (110 : Int32) = i3 110 from rfl) (i3M (show (5 : Int32) = i3 5 from rfl) (zm_rd (Z := Z14) (ν := ν) (k := 2) (show ((0 : Nat) : Int) = 0 from rfl) (show ((0 : Nat) : Int) = 0 from rfl) (i3I (y := (201 + 20 * (Z14 2 0 0 (2010 + 16 * a1)))) (i3A (i3A (show (200 : Int32) = i3 200 from rfl) (i3M (show (20 : Int32) = i3 20 from rfl) (zm_rd (Z := Z14) (ν := ν) (k := 2) (show ((0 : Nat) : Int) = 0 from rfl) (show ((0 : Nat) : Int) = 0 from rfl) (i3I (y := (2010 + 16 * a1)) (i3A (i3A (show (2010 : Int32) = i3 2010 from rfl) (i3M (show (16 : Int32) = i3 16 from rfl) (rfl : i3 a1 = i3 a1))) (show (0 : Int32) = i3 0 from rfl)) (by omega) (by omega) (by omega))))) (show (1 : Int32) = i3 1 from rfl)) (by omega) (by omega) (by omega))))) (show (3 : Int32) = i3 3 from rfl)) (by omega) (by omega) (by omega))) (zm_rd (Z := Z14) (ν := ν) (k := 2) (show ((0 : Nat) : Int) = 0 from rfl) (show ((0 : Nat) : Int) = 0 from rfl) (i3I (y := (114 + 5 * (Z14 2 0 0 (201 + 20 * (Z14 2 0 0 (2010 + 16 * a1)))))) (i3A (i3A (show (110 : Int32) = i3 110 from rfl) (i3M (show (5 : Int32) = i3 5 from rfl) (zm_rd (Z := Z14) (ν := ν) (k := 2) (show ((0 : Nat) : Int) = 0 from rfl) (show ((0 : Nat) : Int) = 0 from rfl) (i3I (y := (201 + 20 * (Z14 2 0 0 (2010 + 16 * a1)))) (i3A (i3A (show (200 : Int32) = i3 200 from rfl) (i3M (show (20 : Int32) = i3 20 from rfl) (zm_rd (Z := Z14) (ν := ν) (k := 2) (show ((0 : Nat) : Int) = 0 from rfl) (show ((0 : Nat) : Int) = 0 from rfl) (i3I (y := (2010 + 16 * a1)) (i3A (i3A (show (2010 : Int32) = i3 2010 from rfl) (i3M (show (16 : Int32) = i3 16 from rfl) (rfl : i3 a1 = i3 a1))) (show (0 : Int32) = i3 0 from rfl)) (by omega) (by omega) (by omega))))) (show (1 : Int32) = i3 1 from rfl)) (by omega) (by omega) (by omega))))) (show (4 : Int32) = i3 4 from rfl)) (by omega) (by omega) (by omega)))) (zm_rd (Z := Z14) (ν := ν) (k := 2) (show ((0 : Nat) : Int) = 0 from rfl) (show ((0 : Nat) : Int) = 0 from rfl) (i3I (y := (207 + 20 * (Z14 2 0 0 (2010 + 16 * a1)))) (i3A (i3A (show (200 : Int32) = i3 200 from rfl) (i3M (show (20 : Int32) = i3 20 from rfl) (zm_rd (Z := Z14) (ν := ν) (k := 2) (show ((0 : Nat) : Int) = 0 from rfl) (show ((0 : Nat) : Int) = 0 from rfl) (i3I (y := (2010 + 16 * a1)) (i3A (i3A (show (2010 : Int32) = i3 2010 from rfl) (i3M (show (16 : Int32) = i3 16 from rfl) (rfl : i3 a1 = i3 a1))) (show (0 : Int32) = i3 0 from rfl)) (by omega) (by omega) (by omega))))) (show (7 : Int32) = i3 7 from rfl)) (by omega) (by omega) (by omega))) (by omega) (by omega) (by omega) (by omega)) (fun h48 => ?_) (fun h48 => ?_)
                      · replace hP := zE_p hP h48
                        refine wz_br (i3L (i3A (zm_rd (Z := Z14) (ν := ν) (k := 2) (show ((0 : Nat) : Int) = 0 from rfl) (show ((0 : Nat) : Int) = 0 from rfl) (i3I (y := (113 + 5 * (Z14 2 0 0 (201 + 20 * (Z14 2 0 0 (2010 + 16 * a1)))))) (i3A (i3A (show (110 : Int32) = i3 110 from rfl) (i3M (show (5 : Int32) = i3 5 from rfl) (zm_rd (Z := Z14) (ν := ν) (k := 2) (show ((0 : Nat) : Int) = 0 from rfl) (show ((0 : Nat) : Int) = 0 from rfl) (i3I (y := (201 + 20 * (Z14 2 0 0 (2010 + 16 * a1)))) (i3A (i3A (show (200 : Int32) = i3 200 from rfl) (i3M (show (20 : Int32) = i3 20 from rfl) (zm_rd (Z := Z14) (ν := ν) (k := 2) (show ((0 : Nat) : Int) = 0 from rfl) (show ((0 : Nat) : Int) = 0 from rfl) (i3I (y := (2010 + 16 * a1)) (i3A (i3A (show (2010 : Int32) = i3 2010 from rfl) (i3M (show (16 : Int32) = i3 16 from rfl) (rfl : i3 a1 = i3 a1))) (show (0 : Int32) = i3 0 from rfl)) (by omega) (by omega) (by omega))))) (show (1 : Int32) = i3 1 from rfl)) (by omega) (by omega) (by omega))))) (show (3 : Int32) = i3 3 from rfl)) (by omega) (by omega) (by omega))) (i3M (show (3 : Int32) = i3 3 from rfl) (zm_rd (Z := Z14) (ν := ν) (k := 2) (show ((0 : Nat) : Int) = 0 from rfl) (show ((0 : Nat) : Int) = 0 from rfl) (i3I (y := (114 + 5 * (Z14 2 0 0 (201 + 20 * (Z14 2 0 0 (2010 + 16 * a1)))))) (i3A (i3A (show (110 : Int32) = i3 110 from rfl) (i3M (show (5 : Int32) = i3 5 from rfl) (zm_rd (Z := Z14) (ν := ν) (k := 2) (show ((0 : Nat) : Int) = 0 from rfl) (show ((0 : Nat) : Int) = 0 from rfl) (i3I (y := (201 + 20 * (Z14 2 0 0 (2010 + 16 * a1)))) (i3A (i3A (show (200 : Int32) = i3 200 from rfl) (i3M (show (20 : Int32) = i3 20 from rfl) (zm_rd (Z := Z14) (ν := ν) (k := 2) (show ((0 : Nat) : Int) = 0 from rfl) (show ((0 : Nat) : Int) = 0 from rfl) (i3I (y := (2010 + 16 * a1)) (i3A (i3A (show (2010 : Int32) = i3 2010 from rfl) (i3M (show (16 : Int32) = i3 16 from rfl) (rfl : i3 a1 = i3 a1))) (show (0 : Int32) = i3 0 from rfl)) (by omega) (by omega) (by omega))))) (show (1 : Int32) = i3 1 from rfl)) (by omega) (by omega) (by omega))))) (show (4 : Int32) = i3 4 from rfl)) (by omega) (by omega) (by omega))))) (zm_rd (Z := Z14) (ν := ν) (k := 2) (show ((0 : Nat) : Int) = 0 from rfl) (show ((0 : Nat) : Int) = 0 from rfl) (i3I (y := (207 + 20 * (Z14 2 0 0 (2010 + 16 * a1)))) (i3A (i3A (show (200 : Int32) = i3 200 from rfl) (i3M (show (20 : Int32) = i3 20 from rfl) (zm_rd (Z := Z14) (ν := ν) (k := 2) (show ((0 : Nat) : Int) = 0 from rfl) (show ((0 : Nat) : Int) = 0 from rfl) (i3I (y := (2010 + 16 * a1)) (i3A (i3A (show (2010 : Int32) = i3 2010 from rfl) (i3M (show (16 : Int32) = i3 16 from rfl) (rfl : i3 a1 = i3 a1))) (show (0 : Int32) = i3 0 from rfl)) (by omega) (by omega) (by omega))))) (show (7 : Int32) = i3 7 from rfl)) (by omega) (by omega) (by omega))) (by omega) (by omega) (by omega) (by omega)) (fun h49 => ?_) (fun h49 => ?_)
                        · replace hP := zE_p hP h49
                          exact zlY hP (show (3 : Int32) = i3 3 from rfl) (.inl rfl) ⟨hZ14I, hZ14K, hZ14U⟩
                        · replace hP := zE_n hP h49
                          exact zlY hP (show (2 : Int32) = i3 2 from rfl) (.inl rfl) ⟨hZ14I, hZ14K, hZ14U⟩
                      · replace hP := zE_n hP h48
                        exact zlY hP (show (1 : Int32) = i3 1 from rfl) (.inl rfl) ⟨hZ14I, hZ14K, hZ14U⟩
                    · replace hP := zE_n hP h47
                      exact zlY hP (show (0 : Int32) = i3 0 from rfl) (.inl rfl) ⟨hZ14I, hZ14K, hZ14U⟩
                · replace hP := zE_n hP h31
                  refine wz_br (i3T (rfl : i3 a2 = i3 a2) (by omega) (by omega)) (fun h50 => ?_) (fun h50 => ?_)
                  · replace hP := zE_p hP h50
                    refine wz_i0 (i3O (n := 4400) (i3A (i3A (show (2010 : Int32) = i3 2010 from rfl) (i3M (show (16 : Int32) = i3 16 from rfl) (rfl : i3 a1 = i3 a1))) (i3S (rfl : i3 a2 = i3 a2) (show (1 : Int32) = i3 1 from rfl))) (by omega) (by omega) (by omega)) ?_
                    have r51 := zM_f hZ14I 2 0 0 (2009 + 16 * a1 + a2)
                    exact zlY hP (zm_rd (Z := Z14) (ν := ν) (k := 2) (show ((0 : Nat) : Int) = 0 from rfl) (show ((0 : Nat) : Int) = 0 from rfl) (i3I (y := (2009 + 16 * a1 + a2)) (i3A (i3A (show (2010 : Int32) = i3 2010 from rfl) (i3M (show (16 : Int32) = i3 16 from rfl) (rfl : i3 a1 = i3 a1))) (i3S (rfl : i3 a2 = i3 a2) (show (1 : Int32) = i3 1 from rfl))) (by omega) (by omega) (by omega))) (.inl rfl) ⟨hZ14I, hZ14K, hZ14U⟩
                  · replace hP := zE_n hP h50
                    refine wz_br (i3T (rfl : i3 a2 = i3 a2) (by omega) (by omega)) (fun h52 => ?_) (fun h52 => ?_)
                    · replace hP := zE_p hP h52
                      refine wz_i0 (i3O (n := 4400) (i3A (i3A (show (2010 : Int32) = i3 2010 from rfl) (i3M (show (16 : Int32) = i3 16 from rfl) (rfl : i3 a1 = i3 a1))) (i3S (rfl : i3 a2 = i3 a2) (show (1 : Int32) = i3 1 from rfl))) (by omega) (by omega) (by omega)) ?_
                      have r53 := zM_f hZ14I 2 0 0 (2009 + 16 * a1 + a2)
                      exact zlY hP (zm_rd (Z := Z14) (ν := ν) (k := 2) (show ((0 : Nat) : Int) = 0 from rfl) (show ((0 : Nat) : Int) = 0 from rfl) (i3I (y := (2009 + 16 * a1 + a2)) (i3A (i3A (show (2010 : Int32) = i3 2010 from rfl) (i3M (show (16 : Int32) = i3 16 from rfl) (rfl : i3 a1 = i3 a1))) (i3S (rfl : i3 a2 = i3 a2) (show (1 : Int32) = i3 1 from rfl))) (by omega) (by omega) (by omega))) (.inl rfl) ⟨hZ14I, hZ14K, hZ14U⟩
                    · replace hP := zE_n hP h52
                      refine wz_br (i3T (rfl : i3 a2 = i3 a2) (by omega) (by omega)) (fun h54 => ?_) (fun h54 => ?_)
                      · replace hP := zE_p hP h54
                        refine wz_i0 (i3O (n := 4400) (i3A (i3A (show (2010 : Int32) = i3 2010 from rfl) (i3M (show (16 : Int32) = i3 16 from rfl) (rfl : i3 a1 = i3 a1))) (i3S (rfl : i3 a2 = i3 a2) (show (1 : Int32) = i3 1 from rfl))) (by omega) (by omega) (by omega)) ?_
                        have r55 := zM_f hZ14I 2 0 0 (2009 + 16 * a1 + a2)
                        exact zlY hP (zm_rd (Z := Z14) (ν := ν) (k := 2) (show ((0 : Nat) : Int) = 0 from rfl) (show ((0 : Nat) : Int) = 0 from rfl) (i3I (y := (2009 + 16 * a1 + a2)) (i3A (i3A (show (2010 : Int32) = i3 2010 from rfl) (i3M (show (16 : Int32) = i3 16 from rfl) (rfl : i3 a1 = i3 a1))) (i3S (rfl : i3 a2 = i3 a2) (show (1 : Int32) = i3 1 from rfl))) (by omega) (by omega) (by omega))) (.inl rfl) ⟨hZ14I, hZ14K, hZ14U⟩
                      · replace hP := zE_n hP h54
                        refine wz_br (i3T (rfl : i3 a2 = i3 a2) (by omega) (by omega)) (fun h56 => ?_) (fun h56 => ?_)
                        · replace hP := zE_p hP h56
                          refine wz_i0 (i3O (n := 4400) (i3A (show (40 : Int32) = i3 40 from rfl) (rfl : i3 a1 = i3 a1)) (by omega) (by omega) (by omega)) ?_
                          have r57 := zM_k hZ14I 2 0 0 (40 + a1) (lo := -1) (hi := 671) (by decide) (zs_40 (by omega) (by omega))
                          exact zlY hP (zm_rd (Z := Z14) (ν := ν) (k := 2) (show ((0 : Nat) : Int) = 0 from rfl) (show ((0 : Nat) : Int) = 0 from rfl) (i3I (y := (40 + a1)) (i3A (show (40 : Int32) = i3 40 from rfl) (rfl : i3 a1 = i3 a1)) (by omega) (by omega) (by omega))) (.inl rfl) ⟨hZ14I, hZ14K, hZ14U⟩
                        · replace hP := zE_n hP h56
                          refine wz_br (i3T (rfl : i3 a2 = i3 a2) (by omega) (by omega)) (fun h58 => ?_) (fun h58 => ?_)
                          · replace hP := zE_p hP h58
                            refine wz_i0 (i3O (n := 4400) (i3A (i3A (show (2010 : Int32) = i3 2010 from rfl) (i3M (show (16 : Int32) = i3 16 from rfl) (rfl : i3 a1 = i3 a1))) (show (3 : Int32) = i3 3 from rfl)) (by omega) (by omega) (by omega)) ?_
                            refine wz_i0 (i3O (n := 4400) (i3A (i3A (show (2010 : Int32) = i3 2010 from rfl) (i3M (show (16 : Int32) = i3 16 from rfl) (rfl : i3 a1 = i3 a1))) (show (5 : Int32) = i3 5 from rfl)) (by omega) (by omega) (by omega)) ?_
                            have r59 := zM_k hZ14I 2 0 0 (2013 + 16 * a1) (lo := 0) (hi := 40) (by decide) (zs_2010_3 (x := a1) (by omega) (by omega) (by omega))
                            have r60 := zM_cr hZ14I a1
                            have r61 := zM_k hZ14I 2 0 0 2000 (lo := 0) (hi := 60) (by decide) rfl
                            have q62 := (zu_ne (k' := 2) (b' := 0) (i' := 0) (j' := 2000) hZ14 (fun q => absurd q.1 (by decide))).trans (zu_ne (k' := 2) (b' := 0) (i' := 0) (j' := 2000) hZ9 (fun q => absurd q.1 (by decide)))
                            have r63 := zM_k hZ14I 2 0 0 (2015 + 16 * a1) (lo := 0) (hi := 9999) (by decide) (zs_2010_5 (x := a1) (by omega) (by omega) (by omega))
                            have r64 := z_mul (x := (Z14 2 0 0 (2013 + 16 * a1))) (y := (Z14 2 0 0 (2015 + 16 * a1))) (a := 40) (b := 9999) (by omega) (by omega) (by omega) (by omega)
                            exact zlY hP (i3M (zm_rd (Z := Z14) (ν := ν) (k := 2) (show ((0 : Nat) : Int) = 0 from rfl) (show ((0 : Nat) : Int) = 0 from rfl) (i3I (y := (2013 + 16 * a1)) (i3A (i3A (show (2010 : Int32) = i3 2010 from rfl) (i3M (show (16 : Int32) = i3 16 from rfl) (rfl : i3 a1 = i3 a1))) (show (3 : Int32) = i3 3 from rfl)) (by omega) (by omega) (by omega))) (zm_rd (Z := Z14) (ν := ν) (k := 2) (show ((0 : Nat) : Int) = 0 from rfl) (show ((0 : Nat) : Int) = 0 from rfl) (i3I (y := (2015 + 16 * a1)) (i3A (i3A (show (2010 : Int32) = i3 2010 from rfl) (i3M (show (16 : Int32) = i3 16 from rfl) (rfl : i3 a1 = i3 a1))) (show (5 : Int32) = i3 5 from rfl)) (by omega) (by omega) (by omega)))) (.inl rfl) ⟨hZ14I, hZ14K, hZ14U⟩
                          · replace hP := zE_n hP h58
                            refine wz_br (i3T (rfl : i3 a2 = i3 a2) (by omega) (by omega)) (fun h65 => ?_) (fun h65 => ?_)
                            · replace hP := zE_p hP h65
                              refine wz_i0 (i3O (n := 4400) (i3A (show (1810 : Int32) = i3 1810 from rfl) (i3M (show (2 : Int32) = i3 2 from rfl) (rfl : i3 a1 = i3 a1))) (by omega) (by omega) (by omega)) ?_
                              have r66 := zM_f hZ14I 2 0 0 (1810 + 2 * a1)
                              exact zlY hP (zm_rd (Z := Z14) (ν := ν) (k := 2) (show ((0 : Nat) : Int) = 0 from rfl) (show ((0 : Nat) : Int) = 0 from rfl) (i3I (y := (1810 + 2 * a1)) (i3A (show (1810 : Int32) = i3 1810 from rfl) (i3M (show (2 : Int32) = i3 2 from rfl) (rfl : i3 a1 = i3 a1))) (by omega) (by omega) (by omega))) (.inl rfl) ⟨hZ14I, hZ14K, hZ14U⟩
                            · replace hP := zE_n hP h65
                              refine wz_i1 (Eq.trans (i3T (rfl : i3 a2 = i3 a2) (by omega) (by omega)) (decide_eq_true (by omega))) ?_
                              refine wz_i0 (i3O (n := 4400) (i3A (i3A (show (1810 : Int32) = i3 1810 from rfl) (i3M (show (2 : Int32) = i3 2 from rfl) (rfl : i3 a1 = i3 a1))) (show (1 : Int32) = i3 1 from rfl)) (by omega) (by omega) (by omega)) ?_
                              have r67 := zM_k hZ14I 2 0 0 (1811 + 2 * a1) (lo := 0) (hi := 41) (by decide) (zs_1810_1 (x := a1) (by omega) (by omega) (by omega))
                              exact zlY hP (zm_rd (Z := Z14) (ν := ν) (k := 2) (show ((0 : Nat) : Int) = 0 from rfl) (show ((0 : Nat) : Int) = 0 from rfl) (i3I (y := (1811 + 2 * a1)) (i3A (i3A (show (1810 : Int32) = i3 1810 from rfl) (i3M (show (2 : Int32) = i3 2 from rfl) (rfl : i3 a1 = i3 a1))) (show (1 : Int32) = i3 1 from rfl)) (by omega) (by omega) (by omega))) (.inl rfl) ⟨hZ14I, hZ14K, hZ14U⟩
/- yX12_bFirstDue -/
def zl_269_1 (x1 : Int) (x2 : Int) (x3 : Int) (x4 : Int) : Nat → qz_Z → Int → Int → Int × Int
  | 0, Z, x5, x6 => (x5, x6)
  | m + 1, Z, x5, x6 => (if (Z 2 0 0 2000) ≤ x6 then (x5, x6) else (if (Z 2 0 0 (2011 + 16 * x6)) ≠ x1 then zl_269_1 x1 x2 x3 x4 m Z x5 (x6 + 1) else (if (Z 2 0 0 (1810 + 2 * x6)) ≤ 0 then zl_269_1 x1 x2 x3 x4 m Z x5 (x6 + 1) else (if x2 < (Z 2 0 0 (1811 + 2 * x6)) then zl_269_1 x1 x2 x3 x4 m Z x5 (x6 + 1) else (if x3 < (Z 2 0 0 (1811 + 2 * x6)) then (if x5 = (-1) then zl_269_1 x1 x2 x3 x4 m Z x6 (x6 + 1) else (if (Z 2 0 0 (1811 + 2 * x5)) ≤ (Z 2 0 0 (1811 + 2 * x6)) then zl_269_1 x1 x2 x3 x4 m Z x5 (x6 + 1) else zl_269_1 x1 x2 x3 x4 m Z x6 (x6 + 1))) else (if (Z 2 0 0 (1811 + 2 * x6)) ≠ x3 then zl_269_1 x1 x2 x3 x4 m Z x5 (x6 + 1) else (if x6 ≤ x4 then zl_269_1 x1 x2 x3 x4 m Z x5 (x6 + 1) else (if x5 = (-1) then zl_269_1 x1 x2 x3 x4 m Z x6 (x6 + 1) else (if (Z 2 0 0 (1811 + 2 * x5)) ≤ (Z 2 0 0 (1811 + 2 * x6)) then zl_269_1 x1 x2 x3 x4 m Z x5 (x6 + 1) else zl_269_1 x1 x2 x3 x4 m Z x6 (x6 + 1))))))))))
theorem sl_269_1 {s : zSM} {Z : qz_Z} {ν : qz_N} (hZ : zM s Z) (hM : s.2 + 0 ≤ 1000000000) {x1 : Int} (gx1 : 0 ≤ x1 ∧ x1 ≤ 7) {x2 : Int} (gx2 : -1 ≤ x2 ∧ x2 ≤ 27) {x3 : Int} (gx3 : -1 ≤ x3 ∧ x3 ≤ 41) {x4 : Int} (gx4 : -1 ≤ x4 ∧ x4 ≤ 59) {x5 : Int} (gx5 : -1 ≤ x5 ∧ x5 ≤ 59) {x6 : Int} (gx6 : 0 ≤ x6 ∧ x6 ≤ 60) (gr0 : x5 = -1 ∨ x3 < Z 2 0 0 (1811 + 2 * x5) ∨ Z 2 0 0 (1811 + 2 * x5) = x3 ∧ x4 < x5) {k : wz_K} {R : wz_R} {L : qz_L} (hL : qz_fg [true, true, true, true, true, true, true, false, false] L = [some (.inr (.inr (some (1, 0, 0)))), some (.inl (i3 x1)), some (.inl (i3 x2)), some (.inl (i3 x3)), some (.inl (i3 x4)), some (.inl (i3 x5)), some (.inl (i3 x6)), none, none]) {T : Int × Int} (hP : zE T (zl_269_1 x1 x2 x3 x4 ((60 - x6).toNat + 1) Z x5 x6)) (hk : ∀ (L9 : qz_L) (yx5 yx6 : Int), qz_fg [false, false, false, false, false, true, false, false, false] L9 = [none, none, none, none, none, some (.inl (i3 yx5)), none, none, none] → (-1 ≤ yx5 ∧ yx5 ≤ 59) → (0 ≤ yx6 ∧ yx6 ≤ 60) → (yx5 = -1 ∨ x3 < Z 2 0 0 (1811 + 2 * yx5) ∨ Z 2 0 0 (1811 + 2 * yx5) = x3 ∧ x4 < yx5) → zE T ((yx5, yx6)) → k 0 (L9, [], zm Z ν)) : wz_loop qb_269_1 65536 k R (L, [], zm Z ν) := by
  refine wz_lp sb_269_1 (fun m x => ∃ x5 : Int, ∃ x6 : Int, qz_fg [true, true, true, true, true, true, true, false, false] x.1 = [some (.inr (.inr (some (1, 0, 0)))), some (.inl (i3 x1)), some (.inl (i3 x2)), some (.inl (i3 x3)), some (.inl (i3 x4)), some (.inl (i3 x5)), some (.inl (i3 x6)), none, none] ∧ x.2 = ([], zm Z ν) ∧ m = (60 - x6).toNat ∧ (-1 ≤ x5 ∧ x5 ≤ 59) ∧ (0 ≤ x6 ∧ x6 ≤ 60) ∧ (x5 = -1 ∨ x3 < Z 2 0 0 (1811 + 2 * x5) ∨ Z 2 0 0 (1811 + 2 * x5) = x3 ∧ x4 < x5) ∧ zE T (zl_269_1 x1 x2 x3 x4 (m + 1) Z x5 x6)) ?_ 65536 ((60 - x6).toNat) _ (by omega) ⟨x5, x6, hL, rfl, rfl, gx5, gx6, gr0, hP⟩
  clear hP gr0 gx5 gx6 hL
  clear x5 x6
  rintro m ⟨L, st, μ⟩ ⟨x5, x6, hL, hx, hm, gx5, gx6, gr0, hP⟩
  cases hx
  refine fb_269_1 (i3 x1) (i3 x2) (i3 x3) (i3 x4) (i3 x5) (i3 x6) _ _ _ _ hL ?_
  have r1 := zM_f hZ 2 0 0 (1811 + 2 * x5)
  have r2 := zM_k hZ 2 0 0 2000 (lo := 0) (hi := 60) (by decide) rfl
  refine wz_br (i3Le (zm_rd (Z := Z) (ν := ν) (k := 2) (show ((0 : Nat) : Int) = 0 from rfl) (show ((0 : Nat) : Int) = 0 from rfl) (show ((2000 : Nat) : Int) = 2000 from rfl)) (rfl : i3 x6 = i3 x6) (by omega) (by omega) (by omega) (by omega)) (fun h3 => ?_) (fun h3 => ?_)
  · replace hP := zE_p hP h3
    exact hk _ _ _ (zconso rfl (zconso rfl (zconso rfl (zconso rfl (zconso rfl (zconso (zvo (rfl : i3 x5 = i3 x5)) (zconso rfl (zconso rfl (zconso rfl rfl)))))))))  (by omega) (by omega) (by omega) hP
  · replace hP := zE_n hP h3
    refine wz_i0 (i3O (n := 4400) (i3A (i3A (show (1810 : Int32) = i3 1810 from rfl) (i3M (show (2 : Int32) = i3 2 from rfl) (rfl : i3 x6 = i3 x6))) (show (1 : Int32) = i3 1 from rfl)) (by omega) (by omega) (by omega)) ?_
    refine wz_i0 (i3O (n := 4400) (i3A (i3A (show (2010 : Int32) = i3 2010 from rfl) (i3M (show (16 : Int32) = i3 16 from rfl) (rfl : i3 x6 = i3 x6))) (show (1 : Int32) = i3 1 from rfl)) (by omega) (by omega) (by omega)) ?_
    have r4 := zM_k hZ 2 0 0 (2011 + 16 * x6) (lo := 0) (hi := 7) (by decide) (zs_2010_1 (x := x6) (by omega) (by omega) (by omega))
    refine wz_br (i3NE (zm_rd (Z := Z) (ν := ν) (k := 2) (show ((0 : Nat) : Int) = 0 from rfl) (show ((0 : Nat) : Int) = 0 from rfl) (i3I (y := (2011 + 16 * x6)) (i3A (i3A (show (2010 : Int32) = i3 2010 from rfl) (i3M (show (16 : Int32) = i3 16 from rfl) (rfl : i3 x6 = i3 x6))) (show (1 : Int32) = i3 1 from rfl)) (by omega) (by omega) (by omega))) (rfl : i3 x1 = i3 x1) (by omega) (by omega) (by omega) (by omega)) (fun h5 => ?_) (fun h5 => ?_)
    · replace hP := zE_p hP h5
      obtain ⟨m2, rfl⟩ : ∃ m2, m = m2 + 1 := ⟨m - 1, by omega⟩
      exact wz_k1 ⟨m2, by omega, x5, (x6 + 1), (zconso rfl (zconso (zvo (rfl : i3 x1 = i3 x1)) (zconso (zvo (rfl : i3 x2 = i3 x2)) (zconso (zvo (rfl : i3 x3 = i3 x3)) (zconso (zvo (rfl : i3 x4 = i3 x4)) (zconso (zvo (rfl : i3 x5 = i3 x5)) (zconso (zvo (i3A (rfl : i3 x6 = i3 x6) (show (1 : Int32) = i3 1 from rfl))) (zconso rfl (zconso rfl rfl))))))))), rfl,  by omega, by omega, by omega, by omega,  hP⟩
    · replace hP := zE_n hP h5
      refine wz_i0 (i3O (n := 4400) (i3A (show (1810 : Int32) = i3 1810 from rfl) (i3M (show (2 : Int32) = i3 2 from rfl) (rfl : i3 x6 = i3 x6))) (by omega) (by omega) (by omega)) ?_
      have r6 := zM_f hZ 2 0 0 (1810 + 2 * x6)
      refine wz_br (i3Le (zm_rd (Z := Z) (ν := ν) (k := 2) (show ((0 : Nat) : Int) = 0 from rfl) (show ((0 : Nat) : Int) = 0 from rfl) (i3I (y := (1810 + 2 * x6)) (i3A (show (1810 : Int32) = i3 1810 from rfl) (i3M (show (2 : Int32) = i3 2 from rfl) (rfl : i3 x6 = i3 x6))) (by omega) (by omega) (by omega))) (show (0 : Int32) = i3 0 from rfl) (by omega) (by omega) (by omega) (by omega)) (fun h7 => ?_) (fun h7 => ?_)
      · replace hP := zE_p hP h7
        obtain ⟨m2, rfl⟩ : ∃ m2, m = m2 + 1 := ⟨m - 1, by omega⟩
        exact wz_k1 ⟨m2, by omega, x5, (x6 + 1), (zconso rfl (zconso (zvo (rfl : i3 x1 = i3 x1)) (zconso (zvo (rfl : i3 x2 = i3 x2)) (zconso (zvo (rfl : i3 x3 = i3 x3)) (zconso (zvo (rfl : i3 x4 = i3 x4)) (zconso (zvo (rfl : i3 x5 = i3 x5)) (zconso (zvo (i3A (rfl : i3 x6 = i3 x6) (show (1 : Int32) = i3 1 from rfl))) (zconso rfl (zconso rfl rfl))))))))), rfl,  by omega, by omega, by omega, by omega,  hP⟩
      · replace hP := zE_n hP h7
        have r8 := zM_k hZ 2 0 0 (1811 + 2 * x6) (lo := 0) (hi := 41) (by decide) (zs_1810_1 (x := x6) (by omega) (by omega) (by omega))
        refine wz_br (i3L (rfl : i3 x2 = i3 x2) (zm_rd (Z := Z) (ν := ν) (k := 2) (show ((0 : Nat) : Int) = 0 from rfl) (show ((0 : Nat) : Int) = 0 from rfl) (i3I (y := (1811 + 2 * x6)) (i3A (i3A (show (1810 : Int32) = i3 1810 from rfl) (i3M (show (2 : Int32) = i3 2 from rfl) (rfl : i3 x6 = i3 x6))) (show (1 : Int32) = i3 1 from rfl)) (by omega) (by omega) (by omega))) (by omega) (by omega) (by omega) (by omega)) (fun h9 => ?_) (fun h9 => ?_)
        · replace hP := zE_p hP h9
          obtain ⟨m2, rfl⟩ : ∃ m2, m = m2 + 1 := ⟨m - 1, by omega⟩
          exact wz_k1 ⟨m2, by omega, x5, (x6 + 1), (zconso rfl (zconso (zvo (rfl : i3 x1 = i3 x1)) (zconso (zvo (rfl : i3 x2 = i3 x2)) (zconso (zvo (rfl : i3 x3 = i3 x3)) (zconso (zvo (rfl : i3 x4 = i3 x4)) (zconso (zvo (rfl : i3 x5 = i3 x5)) (zconso (zvo (i3A (rfl : i3 x6 = i3 x6) (show (1 : Int32) = i3 1 from rfl))) (zconso rfl (zconso rfl rfl))))))))), rfl,  by omega, by omega, by omega, by omega,  hP⟩
        · replace hP := zE_n hP h9
          refine wz_br (i3L (rfl : i3 x3 = i3 x3) (zm_rd (Z := Z) (ν := ν) (k := 2) (show ((0 : Nat) : Int) = 0 from rfl) (show ((0 : Nat) : Int) = 0 from rfl) (i3I (y := (1811 + 2 * x6)) (i3A (i3A (show (1810 : Int32) = i3 1810 from rfl) (i3M (show (2 : Int32) = i3 2 from rfl) (rfl : i3 x6 = i3 x6))) (show (1 : Int32) = i3 1 from rfl)) (by omega) (by omega) (by omega))) (by omega) (by omega) (by omega) (by omega)) (fun h10 => ?_) (fun h10 => ?_)
          · replace hP := zE_p hP h10
            refine wz_br (i3E (rfl : i3 x5 = i3 x5) (show (-1 : Int32) = i3 (-1) from rfl) (by omega) (by omega) (by omega) (by omega)) (fun h11 => ?_) (fun h11 => ?_)
            · replace hP := zE_p hP h11
              obtain ⟨m2, rfl⟩ : ∃ m2, m = m2 + 1 := ⟨m - 1, by omega⟩
              exact wz_k1 ⟨m2, by omega, x6, (x6 + 1), (zconso rfl (zconso (zvo (rfl : i3 x1 = i3 x1)) (zconso (zvo (rfl : i3 x2 = i3 x2)) (zconso (zvo (rfl : i3 x3 = i3 x3)) (zconso (zvo (rfl : i3 x4 = i3 x4)) (zconso (zvo (rfl : i3 x6 = i3 x6)) (zconso (zvo (i3A (rfl : i3 x6 = i3 x6) (show (1 : Int32) = i3 1 from rfl))) (zconso rfl (zconso rfl rfl))))))))), rfl,  by omega, by omega, by omega, by omega,  hP⟩
            · replace hP := zE_n hP h11
              refine wz_i0 (i3O (n := 4400) (i3A (i3A (show (1810 : Int32) = i3 1810 from rfl) (i3M (show (2 : Int32) = i3 2 from rfl) (rfl : i3 x5 = i3 x5))) (show (1 : Int32) = i3 1 from rfl)) (by omega) (by omega) (by omega)) ?_
              have r12 := zM_k hZ 2 0 0 (1811 + 2 * x5) (lo := 0) (hi := 41) (by decide) (zs_1810_1 (x := x5) (by omega) (by omega) (by omega))
              refine wz_br (i3Le (zm_rd (Z := Z) (ν := ν) (k := 2) (show ((0 : Nat) : Int) = 0 from rfl) (show ((0 : Nat) : Int) = 0 from rfl) (i3I (y := (1811 + 2 * x5)) (i3A (i3A (show (1810 : Int32) = i3 1810 from rfl) (i3M (show (2 : Int32) = i3 2 from rfl) (rfl : i3 x5 = i3 x5))) (show (1 : Int32) = i3 1 from rfl)) (by omega) (by omega) (by omega))) (zm_rd (Z := Z) (ν := ν) (k := 2) (show ((0 : Nat) : Int) = 0 from rfl) (show ((0 : Nat) : Int) = 0 from rfl) (i3I (y := (1811 + 2 * x6)) (i3A (i3A (show (1810 : Int32) = i3 1810 from rfl) (i3M (show (2 : Int32) = i3 2 from rfl) (rfl : i3 x6 = i3 x6))) (show (1 : Int32) = i3 1 from rfl)) (by omega) (by omega) (by omega))) (by omega) (by omega) (by omega) (by omega)) (fun h13 => ?_) (fun h13 => ?_)
              · replace hP := zE_p hP h13
                obtain ⟨m2, rfl⟩ : ∃ m2, m = m2 + 1 := ⟨m - 1, by omega⟩
                exact wz_k1 ⟨m2, by omega, x5, (x6 + 1), (zconso rfl (zconso (zvo (rfl : i3 x1 = i3 x1)) (zconso (zvo (rfl : i3 x2 = i3 x2)) (zconso (zvo (rfl : i3 x3 = i3 x3)) (zconso (zvo (rfl : i3 x4 = i3 x4)) (zconso (zvo (rfl : i3 x5 = i3 x5)) (zconso (zvo (i3A (rfl : i3 x6 = i3 x6) (show (1 : Int32) = i3 1 from rfl))) (zconso rfl (zconso rfl rfl))))))))), rfl,  by omega, by omega, by omega, by omega,  hP⟩
              · replace hP := zE_n hP h13
                obtain ⟨m2, rfl⟩ : ∃ m2, m = m2 + 1 := ⟨m - 1, by omega⟩
                exact wz_k1 ⟨m2, by omega, x6, (x6 + 1), (zconso rfl (zconso (zvo (rfl : i3 x1 = i3 x1)) (zconso (zvo (rfl : i3 x2 = i3 x2)) (zconso (zvo (rfl : i3 x3 = i3 x3)) (zconso (zvo (rfl : i3 x4 = i3 x4)) (zconso (zvo (rfl : i3 x6 = i3 x6)) (zconso (zvo (i3A (rfl : i3 x6 = i3 x6) (show (1 : Int32) = i3 1 from rfl))) (zconso rfl (zconso rfl rfl))))))))), rfl,  by omega, by omega, by omega, by omega,  hP⟩
          · replace hP := zE_n hP h10
            refine wz_br (i3NE (zm_rd (Z := Z) (ν := ν) (k := 2) (show ((0 : Nat) : Int) = 0 from rfl) (show ((0 : Nat) : Int) = 0 from rfl) (i3I (y := (1811 + 2 * x6)) (i3A (i3A (show (1810 : Int32) = i3 1810 from rfl) (i3M (show (2 : Int32) = i3 2 from rfl) (rfl : i3 x6 = i3 x6))) (show (1 : Int32) = i3 1 from rfl)) (by omega) (by omega) (by omega))) (rfl : i3 x3 = i3 x3) (by omega) (by omega) (by omega) (by omega)) (fun h14 => ?_) (fun h14 => ?_)
            · replace hP := zE_p hP h14
              obtain ⟨m2, rfl⟩ : ∃ m2, m = m2 + 1 := ⟨m - 1, by omega⟩
              exact wz_k1 ⟨m2, by omega, x5, (x6 + 1), (zconso rfl (zconso (zvo (rfl : i3 x1 = i3 x1)) (zconso (zvo (rfl : i3 x2 = i3 x2)) (zconso (zvo (rfl : i3 x3 = i3 x3)) (zconso (zvo (rfl : i3 x4 = i3 x4)) (zconso (zvo (rfl : i3 x5 = i3 x5)) (zconso (zvo (i3A (rfl : i3 x6 = i3 x6) (show (1 : Int32) = i3 1 from rfl))) (zconso rfl (zconso rfl rfl))))))))), rfl,  by omega, by omega, by omega, by omega,  hP⟩
            · replace hP := zE_n hP h14
              refine wz_br (i3Le (rfl : i3 x6 = i3 x6) (rfl : i3 x4 = i3 x4) (by omega) (by omega) (by omega) (by omega)) (fun h15 => ?_) (fun h15 => ?_)
              · replace hP := zE_p hP h15
                obtain ⟨m2, rfl⟩ : ∃ m2, m = m2 + 1 := ⟨m - 1, by omega⟩
                exact wz_k1 ⟨m2, by omega, x5, (x6 + 1), (zconso rfl (zconso (zvo (rfl : i3 x1 = i3 x1)) (zconso (zvo (rfl : i3 x2 = i3 x2)) (zconso (zvo (rfl : i3 x3 = i3 x3)) (zconso (zvo (rfl : i3 x4 = i3 x4)) (zconso (zvo (rfl : i3 x5 = i3 x5)) (zconso (zvo (i3A (rfl : i3 x6 = i3 x6) (show (1 : Int32) = i3 1 from rfl))) (zconso rfl (zconso rfl rfl))))))))), rfl,  by omega, by omega, by omega, by omega,  hP⟩
              · replace hP := zE_n hP h15
                refine wz_br (i3E (rfl : i3 x5 = i3 x5) (show (-1 : Int32) = i3 (-1) from rfl) (by omega) (by omega) (by omega) (by omega)) (fun h16 => ?_) (fun h16 => ?_)
                · replace hP := zE_p hP h16
                  obtain ⟨m2, rfl⟩ : ∃ m2, m = m2 + 1 := ⟨m - 1, by omega⟩
                  exact wz_k1 ⟨m2, by omega, x6, (x6 + 1), (zconso rfl (zconso (zvo (rfl : i3 x1 = i3 x1)) (zconso (zvo (rfl : i3 x2 = i3 x2)) (zconso (zvo (rfl : i3 x3 = i3 x3)) (zconso (zvo (rfl : i3 x4 = i3 x4)) (zconso (zvo (rfl : i3 x6 = i3 x6)) (zconso (zvo (i3A (rfl : i3 x6 = i3 x6) (show (1 : Int32) = i3 1 from rfl))) (zconso rfl (zconso rfl rfl))))))))), rfl,  by omega, by omega, by omega, by omega,  hP⟩
                · replace hP := zE_n hP h16
                  refine wz_i0 (i3O (n := 4400) (i3A (i3A (show (1810 : Int32) = i3 1810 from rfl) (i3M (show (2 : Int32) = i3 2 from rfl) (rfl : i3 x5 = i3 x5))) (show (1 : Int32) = i3 1 from rfl)) (by omega) (by omega) (by omega)) ?_
                  have r17 := zM_k hZ 2 0 0 (1811 + 2 * x5) (lo := 0) (hi := 41) (by decide) (zs_1810_1 (x := x5) (by omega) (by omega) (by omega))
                  refine wz_br (i3Le (zm_rd (Z := Z) (ν := ν) (k := 2) (show ((0 : Nat) : Int) = 0 from rfl) (show ((0 : Nat) : Int) = 0 from rfl) (i3I (y := (1811 + 2 * x5)) (i3A (i3A (show (1810 : Int32) = i3 1810 from rfl) (i3M (show (2 : Int32) = i3 2 from rfl) (rfl : i3 x5 = i3 x5))) (show (1 : Int32) = i3 1 from rfl)) (by omega) (by omega) (by omega))) (zm_rd (Z := Z) (ν := ν) (k := 2) (show ((0 : Nat) : Int) = 0 from rfl) (show ((0 : Nat) : Int) = 0 from rfl) (i3I (y := (1811 + 2 * x6)) (i3A (i3A (show (1810 : Int32) = i3 1810 from rfl) (i3M (show (2 : Int32) = i3 2 from rfl) (rfl : i3 x6 = i3 x6))) (show (1 : Int32) = i3 1 from rfl)) (by omega) (by omega) (by omega))) (by omega) (by omega) (by omega) (by omega)) (fun h18 => ?_) (fun h18 => ?_)
                  · replace hP := zE_p hP h18
                    obtain ⟨m2, rfl⟩ : ∃ m2, m = m2 + 1 := ⟨m - 1, by omega⟩
                    exact wz_k1 ⟨m2, by omega, x5, (x6 + 1), (zconso rfl (zconso (zvo (rfl : i3 x1 = i3 x1)) (zconso (zvo (rfl : i3 x2 = i3 x2)) (zconso (zvo (rfl : i3 x3 = i3 x3)) (zconso (zvo (rfl : i3 x4 = i3 x4)) (zconso (zvo (rfl : i3 x5 = i3 x5)) (zconso (zvo (i3A (rfl : i3 x6 = i3 x6) (show (1 : Int32) = i3 1 from rfl))) (zconso rfl (zconso rfl rfl))))))))), rfl,  by omega, by omega, by omega, by omega,  hP⟩
                  · replace hP := zE_n hP h18
                    obtain ⟨m2, rfl⟩ : ∃ m2, m = m2 + 1 := ⟨m - 1, by omega⟩
                    exact wz_k1 ⟨m2, by omega, x6, (x6 + 1), (zconso rfl (zconso (zvo (rfl : i3 x1 = i3 x1)) (zconso (zvo (rfl : i3 x2 = i3 x2)) (zconso (zvo (rfl : i3 x3 = i3 x3)) (zconso (zvo (rfl : i3 x4 = i3 x4)) (zconso (zvo (rfl : i3 x6 = i3 x6)) (zconso (zvo (i3A (rfl : i3 x6 = i3 x6) (show (1 : Int32) = i3 1 from rfl))) (zconso rfl (zconso rfl rfl))))))))), rfl,  by omega, by omega, by omega, by omega,  hP⟩
/- yX12_bFirstDue -/
def zf_269 (Z : qz_Z) (a1 : Int) (a2 : Int) (a3 : Int) (a4 : Int) : Int := (zlet2 (zl_269_1 a1 a2 a3 a4 61 Z (-1) 0) (fun y1 y2 => y1))
theorem sp_269 {s : zSM} {Z : qz_Z} {ν : qz_N} (hZ : zM s Z) {a1 : Int} (ga1 : 0 ≤ a1 ∧ a1 ≤ 7) {a2 : Int} (ga2 : -1 ≤ a2 ∧ a2 ≤ 27) {a3 : Int} (ga3 : -1 ≤ a3 ∧ a3 ≤ 41) {a4 : Int} (ga4 : -1 ≤ a4 ∧ a4 ≤ 59) (hM : s.2 + 0 ≤ 1000000000) : ∃ P : Int, P = zf_269 Z a1 a2 a3 a4 ∧ (qf_269 [.inr (.inr (some (1, 0, 0))), .inl (i3 a1), .inl (i3 a2), .inl (i3 a3), .inl (i3 a4)] (zm Z ν) = some (zm Z ν, .inl (some (.inl (i3 P)))) ∧ -1 ≤ P ∧ P ≤ 59 ∧ (P = -1 ∨ a3 < Z 2 0 0 (1811 + 2 * P) ∨ Z 2 0 0 (1811 + 2 * P) = a3 ∧ a4 < P)) := by
  obtain ⟨P, hP⟩ := zx (zf_269 Z a1 a2 a3 a4)
  refine zc_R (Q := fun P => -1 ≤ P ∧ P ≤ 59 ∧ (P = -1 ∨ a3 < Z 2 0 0 (1811 + 2 * P) ∨ Z 2 0 0 (1811 + 2 * P) = a3 ∧ a4 < P)) hP (fw_269 (i3 a1) (i3 a2) (i3 a3) (i3 a4) _ _ ?_)
  replace hP : zE P (zf_269 Z a1 a2 a3 a4) := hP
  unfold zf_269 at hP
  have r3 := zM_f hZ 2 0 0 1809
  refine sl_269_1 (ν := ν) hZ (zbh (c := 0) (k := 0) hM (Nat.le_of_ble_eq_true rfl)) (x1 := a1) (by omega) (x2 := a2) (by omega) (x3 := a3) (by omega) (x4 := a4) (by omega) (x5 := (-1)) (by omega) (x6 := 0) (by omega) (by omega) (zconso rfl (zconso (zvo (rfl : i3 a1 = i3 a1)) (zconso (zvo (rfl : i3 a2 = i3 a2)) (zconso (zvo (rfl : i3 a3 = i3 a3)) (zconso (zvo (rfl : i3 a4 = i3 a4)) (zconso (zvo (show (-1 : Int32) = i3 (-1) from rfl)) (zconso (zvo (show (0 : Int32) = i3 0 from rfl)) (zconso rfl (zconso rfl rfl))))))))) rfl ?_
  intro L4 y1 y2 hL4 gy1 gy2 gL4_0 q9
  replace hP := zl_e2 hP (Eq.symm q9)
  clear q9
  refine fc_269_2 (i3 y1) _ _ _ _ hL4 ?_
  exact zlR hP (rfl : i3 y1 = i3 y1) ⟨by omega, by omega, by omega⟩
/- yX12_bPays -/
def zl_281_1 (x1 : Int) (x2 : Int) : Nat → qz_Z → Int → qz_Z × Int
  | 0, Z, x3 => (Z, x3)
  | m + 1, Z, x3 => (if x3 = (-1) then (Z, x3) else (if (Z 2 0 0 (1810 + 2 * x3)) ≤ (Z 2 0 0 (1413 + 12 * x1)) then (zlet (zu Z 2 0 0 (1413 + 12 * x1) (w3 ((Z 2 0 0 (1413 + 12 * x1)) - (Z 2 0 0 (1810 + 2 * x3))))) (fun Z8 => (zlet (zu Z8 2 0 0 (1810 + 2 * x3) (w3 ((Z8 2 0 0 (1810 + 2 * x3)) - (Z 2 0 0 (1810 + 2 * x3))))) (fun Z12 => (if (Z12 2 0 0 (1810 + 2 * x3)) ≤ 0 then (zlet (zu Z12 2 0 0 (1414 + 12 * x1) (Z12 2 0 0 (1414 + 12 * x1))) (fun Z17 => (zlet (zf_269 Z17 x1 x2 (Z17 2 0 0 (1811 + 2 * x3)) x3) (fun v21 => zl_281_1 x1 x2 m Z17 v21)))) else (zlet (zu Z12 2 0 0 (1414 + 12 * x1) 1) (fun Z25 => (zlet (zf_269 Z25 x1 x2 (Z25 2 0 0 (1811 + 2 * x3)) x3) (fun v29 => zl_281_1 x1 x2 m Z25 v29))))))))) else (zlet (zu Z 2 0 0 (1413 + 12 * x1) ((Z 2 0 0 (1413 + 12 * x1)) - (Z 2 0 0 (1413 + 12 * x1)))) (fun Z33 => (zlet (zu Z33 2 0 0 (1810 + 2 * x3) (w3 ((Z33 2 0 0 (1810 + 2 * x3)) - (Z 2 0 0 (1413 + 12 * x1))))) (fun Z37 => (if (Z37 2 0 0 (1810 + 2 * x3)) ≤ 0 then (zlet (zu Z37 2 0 0 (1414 + 12 * x1) (Z37 2 0 0 (1414 + 12 * x1))) (fun Z42 => (zlet (zf_269 Z42 x1 x2 (Z42 2 0 0 (1811 + 2 * x3)) x3) (fun v46 => zl_281_1 x1 x2 m Z42 v46)))) else (zlet (zu Z37 2 0 0 (1414 + 12 * x1) 1) (fun Z50 => (zlet (zf_269 Z50 x1 x2 (Z50 2 0 0 (1811 + 2 * x3)) x3) (fun v54 => zl_281_1 x1 x2 m Z50 v54)))))))))))
theorem sl_281_1 {s : zSM} {Zs Z : qz_Z} {ν : qz_N} (hZ : zM s Z) (hM : s.2 + 0 ≤ 1000000000) (hK : zC [2] Zs Z) {x1 : Int} (gx1 : 0 ≤ x1 ∧ x1 ≤ 7) {x2 : Int} (gx2 : 0 ≤ x2 ∧ x2 ≤ 27) {x3 : Int} (gx3 : -1 ≤ x3 ∧ x3 ≤ 59) (hU : zU [] Zs Z) (gm9 : (if x3 = -1 then (0 : Int) else 2600 - (60 * Z 2 0 0 (1811 + 2 * x3) + x3)).toNat ≤ 2600) {k : wz_K} {R : wz_R} {L : qz_L} (hL : qz_fg [true, true, true, true, false, false] L = [some (.inr (.inr (some (1, 0, 0)))), some (.inl (i3 x1)), some (.inl (i3 x2)), some (.inl (i3 x3)), none, none]) {T : qz_Z × Int} (hP : zE T (zl_281_1 x1 x2 (2600 + 1) Z x3)) (hk : ∀ (L9 : qz_L) (Z9 : qz_Z) (yx3 : Int), qz_fg [false, false, false, false, false, false] L9 = [none, none, none, none, none, none] → zM s Z9 → zC [2] Zs Z9 → zU [] Zs Z9 → (-1 ≤ yx3 ∧ yx3 ≤ 59) → zE T ((Z9, yx3)) → k 0 (L9, [], zm Z9 ν)) : wz_loop qb_281_1 65536 k R (L, [], zm Z ν) := by
  refine wz_lp sb_281_1 (fun m x => ∃ Z : qz_Z, ∃ x3 : Int, qz_fg [true, true, true, true, false, false] x.1 = [some (.inr (.inr (some (1, 0, 0)))), some (.inl (i3 x1)), some (.inl (i3 x2)), some (.inl (i3 x3)), none, none] ∧ x.2 = ([], zm Z ν) ∧ zM s Z ∧ zC [2] Zs Z ∧ zU [] Zs Z ∧ (if x3 = -1 then (0 : Int) else 2600 - (60 * Z 2 0 0 (1811 + 2 * x3) + x3)).toNat ≤ m ∧ (-1 ≤ x3 ∧ x3 ≤ 59) ∧ zE T (zl_281_1 x1 x2 (m + 1) Z x3)) ?_ 65536 (2600) _ (by omega) ⟨Z, x3, hL, rfl, hZ, hK, hU, gm9, gx3, hP⟩
  clear hP gm9 gx3 hZ hK hU hL
  clear x3
  clear Z
  rintro m ⟨L, st, μ⟩ ⟨Z, x3, hL, hx, hZ, hK, hU, hm, gx3, hP⟩
  cases hx
  refine fb_281_1 (i3 x1) (i3 x2) (i3 x3) _ _ _ _ hL ?_
  have r1 := zM_f hZ 2 0 0 (1811 + 2 * x3)
  have r2 := zM_py hZ x3
  refine wz_br (i3E (rfl : i3 x3 = i3 x3) (show (-1 : Int32) = i3 (-1) from rfl) (by omega) (by omega) (by omega) (by omega)) (fun h3 => ?_) (fun h3 => ?_)
  · replace hP := zE_p hP h3
    exact hk _ _ _ (zconso rfl (zconso rfl (zconso rfl (zconso rfl (zconso rfl (zconso rfl rfl)))))) hZ hK hU (by omega)  hP
  · replace hP := zE_n hP h3
    refine wz_i0 (i3O (n := 4400) (i3A (i3A (show (1410 : Int32) = i3 1410 from rfl) (i3M (show (12 : Int32) = i3 12 from rfl) (rfl : i3 x1 = i3 x1))) (show (3 : Int32) = i3 3 from rfl)) (by omega) (by omega) (by omega)) ?_
    refine wz_i0 (i3O (n := 4400) (i3A (show (1810 : Int32) = i3 1810 from rfl) (i3M (show (2 : Int32) = i3 2 from rfl) (rfl : i3 x3 = i3 x3))) (by omega) (by omega) (by omega)) ?_
    have r4 := zM_f hZ 2 0 0 (1810 + 2 * x3)
    have r5 := zM_f hZ 2 0 0 (1413 + 12 * x1)
    refine wz_br (i3Le (zm_rd (Z := Z) (ν := ν) (k := 2) (show ((0 : Nat) : Int) = 0 from rfl) (show ((0 : Nat) : Int) = 0 from rfl) (i3I (y := (1810 + 2 * x3)) (i3A (show (1810 : Int32) = i3 1810 from rfl) (i3M (show (2 : Int32) = i3 2 from rfl) (rfl : i3 x3 = i3 x3))) (by omega) (by omega) (by omega))) (zm_rd (Z := Z) (ν := ν) (k := 2) (show ((0 : Nat) : Int) = 0 from rfl) (show ((0 : Nat) : Int) = 0 from rfl) (i3I (y := (1413 + 12 * x1)) (i3A (i3A (show (1410 : Int32) = i3 1410 from rfl) (i3M (show (12 : Int32) = i3 12 from rfl) (rfl : i3 x1 = i3 x1))) (show (3 : Int32) = i3 3 from rfl)) (by omega) (by omega) (by omega))) (by omega) (by omega) (by omega) (by omega)) (fun h6 => ?_) (fun h6 => ?_)
    · replace hP := zE_p hP h6
      refine wz_i0 (i3O (n := 4400) (i3A (show (1810 : Int32) = i3 1810 from rfl) (i3M (show (2 : Int32) = i3 2 from rfl) (rfl : i3 x3 = i3 x3))) (by omega) (by omega) (by omega)) ?_
      refine wz_i0 (i3O (n := 4400) (i3A (i3A (show (1410 : Int32) = i3 1410 from rfl) (i3M (show (12 : Int32) = i3 12 from rfl) (rfl : i3 x1 = i3 x1))) (show (3 : Int32) = i3 3 from rfl)) (by omega) (by omega) (by omega)) ?_
      refine wz_i0 (i3O (n := 4400) (i3A (i3A (show (1410 : Int32) = i3 1410 from rfl) (i3M (show (12 : Int32) = i3 12 from rfl) (rfl : i3 x1 = i3 x1))) (show (3 : Int32) = i3 3 from rfl)) (by omega) (by omega) (by omega)) ?_
      have r7 := w3_r ((Z 2 0 0 (1413 + 12 * x1)) - (Z 2 0 0 (1810 + 2 * x3)))
      obtain ⟨Z8, hZ8⟩ := zx (zu Z 2 0 0 (1413 + 12 * x1) (w3 ((Z 2 0 0 (1413 + 12 * x1)) - (Z 2 0 0 (1810 + 2 * x3)))))
      replace hP := zl_e hP hZ8
      have hZ8I := zM_u2 hZ hZ8 (lo := -2147483648) (hi := 2147483647) (zs_1410_3 (x := x1) (by omega) (by omega) (by omega)) (by omega) ⟨by decide, by decide⟩ (by simp only [zsp]; omega)
      have hZ8U : zU [] Zs Z8 := zU_u hU hZ8 (Or.inl rfl)
      have hZ8K : zC [2] Zs Z8 := zC_u hK hZ8 (zcl_2w (by omega) rfl)
      intro μ9 e9
      replace e9 := e9.trans (zm_wI (Z := Z) (ν := ν) hZ8 (show ((0 : Nat) : Int) = 0 from rfl) (show ((0 : Nat) : Int) = 0 from rfl) (i3I (y := (1413 + 12 * x1)) (i3A (i3A (show (1410 : Int32) = i3 1410 from rfl) (i3M (show (12 : Int32) = i3 12 from rfl) (rfl : i3 x1 = i3 x1))) (show (3 : Int32) = i3 3 from rfl)) (by omega) (by omega) (by omega)) (i3W (i3S (zm_rd (Z := Z) (ν := ν) (k := 2) (show ((0 : Nat) : Int) = 0 from rfl) (show ((0 : Nat) : Int) = 0 from rfl) (i3I (y := (1413 + 12 * x1)) (i3A (i3A (show (1410 : Int32) = i3 1410 from rfl) (i3M (show (12 : Int32) = i3 12 from rfl) (rfl : i3 x1 = i3 x1))) (show (3 : Int32) = i3 3 from rfl)) (by omega) (by omega) (by omega))) (zm_rd (Z := Z) (ν := ν) (k := 2) (show ((0 : Nat) : Int) = 0 from rfl) (show ((0 : Nat) : Int) = 0 from rfl) (i3I (y := (1810 + 2 * x3)) (i3A (show (1810 : Int32) = i3 1810 from rfl) (i3M (show (2 : Int32) = i3 2 from rfl) (rfl : i3 x3 = i3 x3))) (by omega) (by omega) (by omega))))))
      subst e9
      refine wz_i0 (i3O (n := 4400) (i3A (show (1810 : Int32) = i3 1810 from rfl) (i3M (show (2 : Int32) = i3 2 from rfl) (rfl : i3 x3 = i3 x3))) (by omega) (by omega) (by omega)) ?_
      refine wz_i0 (i3O (n := 4400) (i3A (show (1810 : Int32) = i3 1810 from rfl) (i3M (show (2 : Int32) = i3 2 from rfl) (rfl : i3 x3 = i3 x3))) (by omega) (by omega) (by omega)) ?_
      have r9 := zM_f hZ8I 2 0 0 (1810 + 2 * x3)
      have q10 := zu_ne (k' := 2) (b' := 0) (i' := 0) (j' := (1810 + 2 * x3)) hZ8 (fun q => absurd q.2.2.2 (by omega))
      have r11 := w3_r ((Z8 2 0 0 (1810 + 2 * x3)) - (Z 2 0 0 (1810 + 2 * x3)))
      obtain ⟨Z12, hZ12⟩ := zx (zu Z8 2 0 0 (1810 + 2 * x3) (w3 ((Z8 2 0 0 (1810 + 2 * x3)) - (Z 2 0 0 (1810 + 2 * x3)))))
      replace hP := zl_e hP hZ12
      have hZ12I := zM_u2 hZ8I hZ12 (lo := -2147483648) (hi := 2147483647) (zs_1810_0 (x := x3) (by omega) (by omega) (by omega)) (by omega) ⟨by decide, by decide⟩ (by simp only [zsp]; omega)
      have hZ12U : zU [] Zs Z12 := zU_u hZ8U hZ12 (Or.inl rfl)
      have hZ12K : zC [2] Zs Z12 := zC_u hZ8K hZ12 (zcl_2w (by omega) rfl)
      intro μ9 e9
      replace e9 := e9.trans (zm_wI (Z := Z8) (ν := ν) hZ12 (show ((0 : Nat) : Int) = 0 from rfl) (show ((0 : Nat) : Int) = 0 from rfl) (i3I (y := (1810 + 2 * x3)) (i3A (show (1810 : Int32) = i3 1810 from rfl) (i3M (show (2 : Int32) = i3 2 from rfl) (rfl : i3 x3 = i3 x3))) (by omega) (by omega) (by omega)) (i3W (i3S (zm_rd (Z := Z8) (ν := ν) (k := 2) (show ((0 : Nat) : Int) = 0 from rfl) (show ((0 : Nat) : Int) = 0 from rfl) (i3I (y := (1810 + 2 * x3)) (i3A (show (1810 : Int32) = i3 1810 from rfl) (i3M (show (2 : Int32) = i3 2 from rfl) (rfl : i3 x3 = i3 x3))) (by omega) (by omega) (by omega))) (zm_rd (Z := Z) (ν := ν) (k := 2) (show ((0 : Nat) : Int) = 0 from rfl) (show ((0 : Nat) : Int) = 0 from rfl) (i3I (y := (1810 + 2 * x3)) (i3A (show (1810 : Int32) = i3 1810 from rfl) (i3M (show (2 : Int32) = i3 2 from rfl) (rfl : i3 x3 = i3 x3))) (by omega) (by omega) (by omega))))))
      subst e9
      refine wz_i0 (i3O (n := 4400) (i3A (show (1810 : Int32) = i3 1810 from rfl) (i3M (show (2 : Int32) = i3 2 from rfl) (rfl : i3 x3 = i3 x3))) (by omega) (by omega) (by omega)) ?_
      have r13 := zM_f hZ12I 2 0 0 (1810 + 2 * x3)
      have q14 := zu_at hZ12
      refine wz_br (i3Le (zm_rd (Z := Z12) (ν := ν) (k := 2) (show ((0 : Nat) : Int) = 0 from rfl) (show ((0 : Nat) : Int) = 0 from rfl) (i3I (y := (1810 + 2 * x3)) (i3A (show (1810 : Int32) = i3 1810 from rfl) (i3M (show (2 : Int32) = i3 2 from rfl) (rfl : i3 x3 = i3 x3))) (by omega) (by omega) (by omega))) (show (0 : Int32) = i3 0 from rfl) (by omega) (by omega) (by omega) (by omega)) (fun h15 => ?_) (fun h15 => ?_)
      · replace hP := zE_p hP h15
        refine wz_i0 (i3O (n := 4400) (i3A (i3A (show (1410 : Int32) = i3 1410 from rfl) (i3M (show (12 : Int32) = i3 12 from rfl) (rfl : i3 x1 = i3 x1))) (show (4 : Int32) = i3 4 from rfl)) (by omega) (by omega) (by omega)) ?_
        refine wz_i0 (i3O (n := 4400) (i3A (i3A (show (1410 : Int32) = i3 1410 from rfl) (i3M (show (12 : Int32) = i3 12 from rfl) (rfl : i3 x1 = i3 x1))) (show (4 : Int32) = i3 4 from rfl)) (by omega) (by omega) (by omega)) ?_
        have r16 := zM_k hZ12I 2 0 0 (1414 + 12 * x1) (lo := 0) (hi := 1) (by decide) (zs_1410_4 (x := x1) (by omega) (by omega) (by omega))
        obtain ⟨Z17, hZ17⟩ := zx (zu Z12 2 0 0 (1414 + 12 * x1) (Z12 2 0 0 (1414 + 12 * x1)))
        replace hP := zl_e hP hZ17
        have hZ17I := zM_u2 hZ12I hZ17 (lo := 0) (hi := 1) (zs_1410_4 (x := x1) (by omega) (by omega) (by omega)) (by omega) ⟨by decide, by decide⟩ (by simp only [zsp]; omega)
        have hZ17U : zU [] Zs Z17 := zU_u hZ12U hZ17 (Or.inl rfl)
        have hZ17K : zC [2] Zs Z17 := zC_u hZ12K hZ17 (zcl_2w (by omega) rfl)
        intro μ9 e9
        replace e9 := e9.trans (zm_wI (Z := Z12) (ν := ν) hZ17 (show ((0 : Nat) : Int) = 0 from rfl) (show ((0 : Nat) : Int) = 0 from rfl) (i3I (y := (1414 + 12 * x1)) (i3A (i3A (show (1410 : Int32) = i3 1410 from rfl) (i3M (show (12 : Int32) = i3 12 from rfl) (rfl : i3 x1 = i3 x1))) (show (4 : Int32) = i3 4 from rfl)) (by omega) (by omega) (by omega)) (zm_rd (Z := Z12) (ν := ν) (k := 2) (show ((0 : Nat) : Int) = 0 from rfl) (show ((0 : Nat) : Int) = 0 from rfl) (i3I (y := (1414 + 12 * x1)) (i3A (i3A (show (1410 : Int32) = i3 1410 from rfl) (i3M (show (12 : Int32) = i3 12 from rfl) (rfl : i3 x1 = i3 x1))) (show (4 : Int32) = i3 4 from rfl)) (by omega) (by omega) (by omega))))
        subst e9
        refine wz_i0 (i3O (n := 4400) (i3A (i3A (show (1810 : Int32) = i3 1810 from rfl) (i3M (show (2 : Int32) = i3 2 from rfl) (rfl : i3 x3 = i3 x3))) (show (1 : Int32) = i3 1 from rfl)) (by omega) (by omega) (by omega)) ?_
        have r18 := zM_f hZ17I 2 0 0 (1811 + 2 * x3)
        have r19 := zM_py hZ17I x3
        have q20 := (zu_ne (k' := 2) (b' := 0) (i' := 0) (j' := (1811 + 2 * x3)) hZ17 (fun q => absurd q.2.2.2 (by omega))).trans ((zu_ne (k' := 2) (b' := 0) (i' := 0) (j' := (1811 + 2 * x3)) hZ12 (fun q => absurd q.2.2.2 (by omega))).trans (zu_ne (k' := 2) (b' := 0) (i' := 0) (j' := (1811 + 2 * x3)) hZ8 (fun q => absurd q.2.2.2 (by omega))))
        obtain ⟨v21, hv21, c9, lv21, uv21, wv210⟩ := sp_269 (ν := ν) hZ17I (a1 := x1) (by omega) (a2 := x2) (by omega) (a3 := (Z17 2 0 0 (1811 + 2 * x3))) (by omega) (a4 := x3) (by omega) (zbh (c := 0) (k := 0) hM (Nat.le_of_ble_eq_true rfl))
        replace hP := zl_e hP hv21
        refine wz_cI_of (zas (zcons rfl (zcons (zvi (rfl : i3 x1 = i3 x1)) (zcons (zvi (rfl : i3 x2 = i3 x2)) (zcons (zvi (zm_rd (Z := Z17) (ν := ν) (k := 2) (show ((0 : Nat) : Int) = 0 from rfl) (show ((0 : Nat) : Int) = 0 from rfl) (i3I (y := (1811 + 2 * x3)) (i3A (i3A (show (1810 : Int32) = i3 1810 from rfl) (i3M (show (2 : Int32) = i3 2 from rfl) (rfl : i3 x3 = i3 x3))) (show (1 : Int32) = i3 1 from rfl)) (by omega) (by omega) (by omega)))) (zcons (zvi (rfl : i3 x3 = i3 x3)) rfl))))) c9) ?_
        clear c9
        have r22 := zM_f hZ17I 2 0 0 (1811 + 2 * v21)
        have r23 := zM_py hZ17I v21
        have w24 : v21 = -1 ∨ (Z17 2 0 0 (1811 + 2 * x3)) < Z17 2 0 0 (1811 + 2 * v21) ∨ Z17 2 0 0 (1811 + 2 * v21) = (Z17 2 0 0 (1811 + 2 * x3)) ∧ x3 < v21 := wv210
        obtain ⟨m2, rfl⟩ : ∃ m2, m = m2 + 1 := ⟨m - 1, by omega⟩
        exact wz_k1 ⟨m2, by omega, Z17, v21, (zconso rfl (zconso (zvo (rfl : i3 x1 = i3 x1)) (zconso (zvo (rfl : i3 x2 = i3 x2)) (zconso (zvo (rfl : i3 v21 = i3 v21)) (zconso rfl (zconso rfl rfl)))))), rfl, hZ17I, hZ17K, hZ17U, by omega, by omega,  hP⟩
      · replace hP := zE_n hP h15
        refine wz_i0 (i3O (n := 4400) (i3A (i3A (show (1410 : Int32) = i3 1410 from rfl) (i3M (show (12 : Int32) = i3 12 from rfl) (rfl : i3 x1 = i3 x1))) (show (4 : Int32) = i3 4 from rfl)) (by omega) (by omega) (by omega)) ?_
        obtain ⟨Z25, hZ25⟩ := zx (zu Z12 2 0 0 (1414 + 12 * x1) 1)
        replace hP := zl_e hP hZ25
        have hZ25I := zM_u2 hZ12I hZ25 (lo := 0) (hi := 1) (zs_1410_4 (x := x1) (by omega) (by omega) (by omega)) (by omega) ⟨by decide, by decide⟩ (by simp only [zsp]; omega)
        have hZ25U : zU [] Zs Z25 := zU_u hZ12U hZ25 (Or.inl rfl)
        have hZ25K : zC [2] Zs Z25 := zC_u hZ12K hZ25 (zcl_2w (by omega) rfl)
        intro μ9 e9
        replace e9 := e9.trans (zm_wI (Z := Z12) (ν := ν) hZ25 (show ((0 : Nat) : Int) = 0 from rfl) (show ((0 : Nat) : Int) = 0 from rfl) (i3I (y := (1414 + 12 * x1)) (i3A (i3A (show (1410 : Int32) = i3 1410 from rfl) (i3M (show (12 : Int32) = i3 12 from rfl) (rfl : i3 x1 = i3 x1))) (show (4 : Int32) = i3 4 from rfl)) (by omega) (by omega) (by omega)) (show (1 : Int32) = i3 1 from rfl))
        subst e9
        refine wz_i0 (i3O (n := 4400) (i3A (i3A (show (1810 : Int32) = i3 1810 from rfl) (i3M (show (2 : Int32) = i3 2 from rfl) (rfl : i3 x3 = i3 x3))) (show (1 : Int32) = i3 1 from rfl)) (by omega) (by omega) (by omega)) ?_
        have r26 := zM_f hZ25I 2 0 0 (1811 + 2 * x3)
        have r27 := zM_py hZ25I x3
        have q28 := (zu_ne (k' := 2) (b' := 0) (i' := 0) (j' := (1811 + 2 * x3)) hZ25 (fun q => absurd q.2.2.2 (by omega))).trans ((zu_ne (k' := 2) (b' := 0) (i' := 0) (j' := (1811 + 2 * x3)) hZ12 (fun q => absurd q.2.2.2 (by omega))).trans (zu_ne (k' := 2) (b' := 0) (i' := 0) (j' := (1811 + 2 * x3)) hZ8 (fun q => absurd q.2.2.2 (by omega))))
        obtain ⟨v29, hv29, c9, lv29, uv29, wv290⟩ := sp_269 (ν := ν) hZ25I (a1 := x1) (by omega) (a2 := x2) (by omega) (a3 := (Z25 2 0 0 (1811 + 2 * x3))) (by omega) (a4 := x3) (by omega) (zbh (c := 0) (k := 0) hM (Nat.le_of_ble_eq_true rfl))
        replace hP := zl_e hP hv29
        refine wz_cI_of (zas (zcons rfl (zcons (zvi (rfl : i3 x1 = i3 x1)) (zcons (zvi (rfl : i3 x2 = i3 x2)) (zcons (zvi (zm_rd (Z := Z25) (ν := ν) (k := 2) (show ((0 : Nat) : Int) = 0 from rfl) (show ((0 : Nat) : Int) = 0 from rfl) (i3I (y := (1811 + 2 * x3)) (i3A (i3A (show (1810 : Int32) = i3 1810 from rfl) (i3M (show (2 : Int32) = i3 2 from rfl) (rfl : i3 x3 = i3 x3))) (show (1 : Int32) = i3 1 from rfl)) (by omega) (by omega) (by omega)))) (zcons (zvi (rfl : i3 x3 = i3 x3)) rfl))))) c9) ?_
        clear c9
        have r30 := zM_f hZ25I 2 0 0 (1811 + 2 * v29)
        have r31 := zM_py hZ25I v29
        have w32 : v29 = -1 ∨ (Z25 2 0 0 (1811 + 2 * x3)) < Z25 2 0 0 (1811 + 2 * v29) ∨ Z25 2 0 0 (1811 + 2 * v29) = (Z25 2 0 0 (1811 + 2 * x3)) ∧ x3 < v29 := wv290
        obtain ⟨m2, rfl⟩ : ∃ m2, m = m2 + 1 := ⟨m - 1, by omega⟩
        exact wz_k1 ⟨m2, by omega, Z25, v29, (zconso rfl (zconso (zvo (rfl : i3 x1 = i3 x1)) (zconso (zvo (rfl : i3 x2 = i3 x2)) (zconso (zvo (rfl : i3 v29 = i3 v29)) (zconso rfl (zconso rfl rfl)))))), rfl, hZ25I, hZ25K, hZ25U, by omega, by omega,  hP⟩
    · replace hP := zE_n hP h6
      refine wz_i0 (i3O (n := 4400) (i3A (i3A (show (1410 : Int32) = i3 1410 from rfl) (i3M (show (12 : Int32) = i3 12 from rfl) (rfl : i3 x1 = i3 x1))) (show (3 : Int32) = i3 3 from rfl)) (by omega) (by omega) (by omega)) ?_
      refine wz_i0 (i3O (n := 4400) (i3A (i3A (show (1410 : Int32) = i3 1410 from rfl) (i3M (show (12 : Int32) = i3 12 from rfl) (rfl : i3 x1 = i3 x1))) (show (3 : Int32) = i3 3 from rfl)) (by omega) (by omega) (by omega)) ?_
      obtain ⟨Z33, hZ33⟩ := zx (zu Z 2 0 0 (1413 + 12 * x1) ((Z 2 0 0 (1413 + 12 * x1)) - (Z 2 0 0 (1413 + 12 * x1))))
      replace hP := zl_e hP hZ33
      have hZ33I := zM_u2 hZ hZ33 (lo := -2147483648) (hi := 2147483647) (zs_1410_3 (x := x1) (by omega) (by omega) (by omega)) (by omega) ⟨by decide, by decide⟩ (by simp only [zsp]; omega)
      have hZ33U : zU [] Zs Z33 := zU_u hU hZ33 (Or.inl rfl)
      have hZ33K : zC [2] Zs Z33 := zC_u hK hZ33 (zcl_2w (by omega) rfl)
      intro μ9 e9
      replace e9 := e9.trans (zm_wI (Z := Z) (ν := ν) hZ33 (show ((0 : Nat) : Int) = 0 from rfl) (show ((0 : Nat) : Int) = 0 from rfl) (i3I (y := (1413 + 12 * x1)) (i3A (i3A (show (1410 : Int32) = i3 1410 from rfl) (i3M (show (12 : Int32) = i3 12 from rfl) (rfl : i3 x1 = i3 x1))) (show (3 : Int32) = i3 3 from rfl)) (by omega) (by omega) (by omega)) (i3S (zm_rd (Z := Z) (ν := ν) (k := 2) (show ((0 : Nat) : Int) = 0 from rfl) (show ((0 : Nat) : Int) = 0 from rfl) (i3I (y := (1413 + 12 * x1)) (i3A (i3A (show (1410 : Int32) = i3 1410 from rfl) (i3M (show (12 : Int32) = i3 12 from rfl) (rfl : i3 x1 = i3 x1))) (show (3 : Int32) = i3 3 from rfl)) (by omega) (by omega) (by omega))) (zm_rd (Z := Z) (ν := ν) (k := 2) (show ((0 : Nat) : Int) = 0 from rfl) (show ((0 : Nat) : Int) = 0 from rfl) (i3I (y := (1413 + 12 * x1)) (i3A (i3A (show (1410 : Int32) = i3 1410 from rfl) (i3M (show (12 : Int32) = i3 12 from rfl) (rfl : i3 x1 = i3 x1))) (show (3 : Int32) = i3 3 from rfl)) (by omega) (by omega) (by omega)))))
      subst e9
      refine wz_i0 (i3O (n := 4400) (i3A (show (1810 : Int32) = i3 1810 from rfl) (i3M (show (2 : Int32) = i3 2 from rfl) (rfl : i3 x3 = i3 x3))) (by omega) (by omega) (by omega)) ?_
      refine wz_i0 (i3O (n := 4400) (i3A (show (1810 : Int32) = i3 1810 from rfl) (i3M (show (2 : Int32) = i3 2 from rfl) (rfl : i3 x3 = i3 x3))) (by omega) (by omega) (by omega)) ?_
      have r34 := zM_f hZ33I 2 0 0 (1810 + 2 * x3)
      have q35 := zu_ne (k' := 2) (b' := 0) (i' := 0) (j' := (1810 + 2 * x3)) hZ33 (fun q => absurd q.2.2.2 (by omega))
      have r36 := w3_r ((Z33 2 0 0 (1810 + 2 * x3)) - (Z 2 0 0 (1413 + 12 * x1)))
      obtain ⟨Z37, hZ37⟩ := zx (zu Z33 2 0 0 (1810 + 2 * x3) (w3 ((Z33 2 0 0 (1810 + 2 * x3)) - (Z 2 0 0 (1413 + 12 * x1)))))
      replace hP := zl_e hP hZ37
      have hZ37I := zM_u2 hZ33I hZ37 (lo := -2147483648) (hi := 2147483647) (zs_1810_0 (x := x3) (by omega) (by omega) (by omega)) (by omega) ⟨by decide, by decide⟩ (by simp only [zsp]; omega)
      have hZ37U : zU [] Zs Z37 := zU_u hZ33U hZ37 (Or.inl rfl)
      have hZ37K : zC [2] Zs Z37 := zC_u hZ33K hZ37 (zcl_2w (by omega) rfl)
      intro μ9 e9
      replace e9 := e9.trans (zm_wI (Z := Z33) (ν := ν) hZ37 (show ((0 : Nat) : Int) = 0 from rfl) (show ((0 : Nat) : Int) = 0 from rfl) (i3I (y := (1810 + 2 * x3)) (i3A (show (1810 : Int32) = i3 1810 from rfl) (i3M (show (2 : Int32) = i3 2 from rfl) (rfl : i3 x3 = i3 x3))) (by omega) (by omega) (by omega)) (i3W (i3S (zm_rd (Z := Z33) (ν := ν) (k := 2) (show ((0 : Nat) : Int) = 0 from rfl) (show ((0 : Nat) : Int) = 0 from rfl) (i3I (y := (1810 + 2 * x3)) (i3A (show (1810 : Int32) = i3 1810 from rfl) (i3M (show (2 : Int32) = i3 2 from rfl) (rfl : i3 x3 = i3 x3))) (by omega) (by omega) (by omega))) (zm_rd (Z := Z) (ν := ν) (k := 2) (show ((0 : Nat) : Int) = 0 from rfl) (show ((0 : Nat) : Int) = 0 from rfl) (i3I (y := (1413 + 12 * x1)) (i3A (i3A (show (1410 : Int32) = i3 1410 from rfl) (i3M (show (12 : Int32) = i3 12 from rfl) (rfl : i3 x1 = i3 x1))) (show (3 : Int32) = i3 3 from rfl)) (by omega) (by omega) (by omega))))))
      subst e9
      refine wz_i0 (i3O (n := 4400) (i3A (show (1810 : Int32) = i3 1810 from rfl) (i3M (show (2 : Int32) = i3 2 from rfl) (rfl : i3 x3 = i3 x3))) (by omega) (by omega) (by omega)) ?_
      have r38 := zM_f hZ37I 2 0 0 (1810 + 2 * x3)
      have q39 := zu_at hZ37
      refine wz_br (i3Le (zm_rd (Z := Z37) (ν := ν) (k := 2) (show ((0 : Nat) : Int) = 0 from rfl) (show ((0 : Nat) : Int) = 0 from rfl) (i3I (y := (1810 + 2 * x3)) (i3A (show (1810 : Int32) = i3 1810 from rfl) (i3M (show (2 : Int32) = i3 2 from rfl) (rfl : i3 x3 = i3 x3))) (by omega) (by omega) (by omega))) (show (0 : Int32) = i3 0 from rfl) (by omega) (by omega) (by omega) (by omega)) (fun h40 => ?_) (fun h40 => ?_)
      · replace hP := zE_p hP h40
        refine wz_i0 (i3O (n := 4400) (i3A (i3A (show (1410 : Int32) = i3 1410 from rfl) (i3M (show (12 : Int32) = i3 12 from rfl) (rfl : i3 x1 = i3 x1))) (show (4 : Int32) = i3 4 from rfl)) (by omega) (by omega) (by omega)) ?_
        refine wz_i0 (i3O (n := 4400) (i3A (i3A (show (1410 : Int32) = i3 1410 from rfl) (i3M (show (12 : Int32) = i3 12 from rfl) (rfl : i3 x1 = i3 x1))) (show (4 : Int32) = i3 4 from rfl)) (by omega) (by omega) (by omega)) ?_
        have r41 := zM_k hZ37I 2 0 0 (1414 + 12 * x1) (lo := 0) (hi := 1) (by decide) (zs_1410_4 (x := x1) (by omega) (by omega) (by omega))
        obtain ⟨Z42, hZ42⟩ := zx (zu Z37 2 0 0 (1414 + 12 * x1) (Z37 2 0 0 (1414 + 12 * x1)))
        replace hP := zl_e hP hZ42
        have hZ42I := zM_u2 hZ37I hZ42 (lo := 0) (hi := 1) (zs_1410_4 (x := x1) (by omega) (by omega) (by omega)) (by omega) ⟨by decide, by decide⟩ (by simp only [zsp]; omega)
        have hZ42U : zU [] Zs Z42 := zU_u hZ37U hZ42 (Or.inl rfl)
        have hZ42K : zC [2] Zs Z42 := zC_u hZ37K hZ42 (zcl_2w (by omega) rfl)
        intro μ9 e9
        replace e9 := e9.trans (zm_wI (Z := Z37) (ν := ν) hZ42 (show ((0 : Nat) : Int) = 0 from rfl) (show ((0 : Nat) : Int) = 0 from rfl) (i3I (y := (1414 + 12 * x1)) (i3A (i3A (show (1410 : Int32) = i3 1410 from rfl) (i3M (show (12 : Int32) = i3 12 from rfl) (rfl : i3 x1 = i3 x1))) (show (4 : Int32) = i3 4 from rfl)) (by omega) (by omega) (by omega)) (zm_rd (Z := Z37) (ν := ν) (k := 2) (show ((0 : Nat) : Int) = 0 from rfl) (show ((0 : Nat) : Int) = 0 from rfl) (i3I (y := (1414 + 12 * x1)) (i3A (i3A (show (1410 : Int32) = i3 1410 from rfl) (i3M (show (12 : Int32) = i3 12 from rfl) (rfl : i3 x1 = i3 x1))) (show (4 : Int32) = i3 4 from rfl)) (by omega) (by omega) (by omega))))
        subst e9
        refine wz_i0 (i3O (n := 4400) (i3A (i3A (show (1810 : Int32) = i3 1810 from rfl) (i3M (show (2 : Int32) = i3 2 from rfl) (rfl : i3 x3 = i3 x3))) (show (1 : Int32) = i3 1 from rfl)) (by omega) (by omega) (by omega)) ?_
        have r43 := zM_f hZ42I 2 0 0 (1811 + 2 * x3)
        have r44 := zM_py hZ42I x3
        have q45 := (zu_ne (k' := 2) (b' := 0) (i' := 0) (j' := (1811 + 2 * x3)) hZ42 (fun q => absurd q.2.2.2 (by omega))).trans ((zu_ne (k' := 2) (b' := 0) (i' := 0) (j' := (1811 + 2 * x3)) hZ37 (fun q => absurd q.2.2.2 (by omega))).trans (zu_ne (k' := 2) (b' := 0) (i' := 0) (j' := (1811 + 2 * x3)) hZ33 (fun q => absurd q.2.2.2 (by omega))))
        obtain ⟨v46, hv46, c9, lv46, uv46, wv460⟩ := sp_269 (ν := ν) hZ42I (a1 := x1) (by omega) (a2 := x2) (by omega) (a3 := (Z42 2 0 0 (1811 + 2 * x3))) (by omega) (a4 := x3) (by omega) (zbh (c := 0) (k := 0) hM (Nat.le_of_ble_eq_true rfl))
        replace hP := zl_e hP hv46
        refine wz_cI_of (zas (zcons rfl (zcons (zvi (rfl : i3 x1 = i3 x1)) (zcons (zvi (rfl : i3 x2 = i3 x2)) (zcons (zvi (zm_rd (Z := Z42) (ν := ν) (k := 2) (show ((0 : Nat) : Int) = 0 from rfl) (show ((0 : Nat) : Int) = 0 from rfl) (i3I (y := (1811 + 2 * x3)) (i3A (i3A (show (1810 : Int32) = i3 1810 from rfl) (i3M (show (2 : Int32) = i3 2 from rfl) (rfl : i3 x3 = i3 x3))) (show (1 : Int32) = i3 1 from rfl)) (by omega) (by omega) (by omega)))) (zcons (zvi (rfl : i3 x3 = i3 x3)) rfl))))) c9) ?_
        clear c9
        have r47 := zM_f hZ42I 2 0 0 (1811 + 2 * v46)
        have r48 := zM_py hZ42I v46
        have w49 : v46 = -1 ∨ (Z42 2 0 0 (1811 + 2 * x3)) < Z42 2 0 0 (1811 + 2 * v46) ∨ Z42 2 0 0 (1811 + 2 * v46) = (Z42 2 0 0 (1811 + 2 * x3)) ∧ x3 < v46 := wv460
        obtain ⟨m2, rfl⟩ : ∃ m2, m = m2 + 1 := ⟨m - 1, by omega⟩
        exact wz_k1 ⟨m2, by omega, Z42, v46, (zconso rfl (zconso (zvo (rfl : i3 x1 = i3 x1)) (zconso (zvo (rfl : i3 x2 = i3 x2)) (zconso (zvo (rfl : i3 v46 = i3 v46)) (zconso rfl (zconso rfl rfl)))))), rfl, hZ42I, hZ42K, hZ42U, by omega, by omega,  hP⟩
      · replace hP := zE_n hP h40
        refine wz_i0 (i3O (n := 4400) (i3A (i3A (show (1410 : Int32) = i3 1410 from rfl) (i3M (show (12 : Int32) = i3 12 from rfl) (rfl : i3 x1 = i3 x1))) (show (4 : Int32) = i3 4 from rfl)) (by omega) (by omega) (by omega)) ?_
        obtain ⟨Z50, hZ50⟩ := zx (zu Z37 2 0 0 (1414 + 12 * x1) 1)
        replace hP := zl_e hP hZ50
        have hZ50I := zM_u2 hZ37I hZ50 (lo := 0) (hi := 1) (zs_1410_4 (x := x1) (by omega) (by omega) (by omega)) (by omega) ⟨by decide, by decide⟩ (by simp only [zsp]; omega)
        have hZ50U : zU [] Zs Z50 := zU_u hZ37U hZ50 (Or.inl rfl)
        have hZ50K : zC [2] Zs Z50 := zC_u hZ37K hZ50 (zcl_2w (by omega) rfl)
        intro μ9 e9
        replace e9 := e9.trans (zm_wI (Z := Z37) (ν := ν) hZ50 (show ((0 : Nat) : Int) = 0 from rfl) (show ((0 : Nat) : Int) = 0 from rfl) (i3I (y := (1414 + 12 * x1)) (i3A (i3A (show (1410 : Int32) = i3 1410 from rfl) (i3M (show (12 : Int32) = i3 12 from rfl) (rfl : i3 x1 = i3 x1))) (show (4 : Int32) = i3 4 from rfl)) (by omega) (by omega) (by omega)) (show (1 : Int32) = i3 1 from rfl))
        subst e9
        refine wz_i0 (i3O (n := 4400) (i3A (i3A (show (1810 : Int32) = i3 1810 from rfl) (i3M (show (2 : Int32) = i3 2 from rfl) (rfl : i3 x3 = i3 x3))) (show (1 : Int32) = i3 1 from rfl)) (by omega) (by omega) (by omega)) ?_
        have r51 := zM_f hZ50I 2 0 0 (1811 + 2 * x3)
        have r52 := zM_py hZ50I x3
        have q53 := (zu_ne (k' := 2) (b' := 0) (i' := 0) (j' := (1811 + 2 * x3)) hZ50 (fun q => absurd q.2.2.2 (by omega))).trans ((zu_ne (k' := 2) (b' := 0) (i' := 0) (j' := (1811 + 2 * x3)) hZ37 (fun q => absurd q.2.2.2 (by omega))).trans (zu_ne (k' := 2) (b' := 0) (i' := 0) (j' := (1811 + 2 * x3)) hZ33 (fun q => absurd q.2.2.2 (by omega))))
        obtain ⟨v54, hv54, c9, lv54, uv54, wv540⟩ := sp_269 (ν := ν) hZ50I (a1 := x1) (by omega) (a2 := x2) (by omega) (a3 := (Z50 2 0 0 (1811 + 2 * x3))) (by omega) (a4 := x3) (by omega) (zbh (c := 0) (k := 0) hM (Nat.le_of_ble_eq_true rfl))
        replace hP := zl_e hP hv54
        refine wz_cI_of (zas (zcons rfl (zcons (zvi (rfl : i3 x1 = i3 x1)) (zcons (zvi (rfl : i3 x2 = i3 x2)) (zcons (zvi (zm_rd (Z := Z50) (ν := ν) (k := 2) (show ((0 : Nat) : Int) = 0 from rfl) (show ((0 : Nat) : Int) = 0 from rfl) (i3I (y := (1811 + 2 * x3)) (i3A (i3A (show (1810 : Int32) = i3 1810 from rfl) (i3M (show (2 : Int32) = i3 2 from rfl) (rfl : i3 x3 = i3 x3))) (show (1 : Int32) = i3 1 from rfl)) (by omega) (by omega) (by omega)))) (zcons (zvi (rfl : i3 x3 = i3 x3)) rfl))))) c9) ?_
        clear c9
        have r55 := zM_f hZ50I 2 0 0 (1811 + 2 * v54)
        have r56 := zM_py hZ50I v54
        have w57 : v54 = -1 ∨ (Z50 2 0 0 (1811 + 2 * x3)) < Z50 2 0 0 (1811 + 2 * v54) ∨ Z50 2 0 0 (1811 + 2 * v54) = (Z50 2 0 0 (1811 + 2 * x3)) ∧ x3 < v54 := wv540
        obtain ⟨m2, rfl⟩ : ∃ m2, m = m2 + 1 := ⟨m - 1, by omega⟩
        exact wz_k1 ⟨m2, by omega, Z50, v54, (zconso rfl (zconso (zvo (rfl : i3 x1 = i3 x1)) (zconso (zvo (rfl : i3 x2 = i3 x2)) (zconso (zvo (rfl : i3 v54 = i3 v54)) (zconso rfl (zconso rfl rfl)))))), rfl, hZ50I, hZ50K, hZ50U, by omega, by omega,  hP⟩
/- yX12_bPays -/
def zf_281 (Z : qz_Z) (a1 : Int) (a2 : Int) : qz_Z := (zlet (zu Z 2 0 0 (1414 + 12 * a1) 0) (fun Z1 => (zlet (zf_269 Z1 a1 a2 (-1) (-1)) (fun v2 => (zlet2 (zl_281_1 a1 a2 2601 Z1 v2) (fun Z7 y6 => Z7))))))
theorem sp_281 {s : zSM} {Z : qz_Z} {ν : qz_N} (hZ : zM s Z) {a1 : Int} (ga1 : 0 ≤ a1 ∧ a1 ≤ 7) {a2 : Int} (ga2 : 0 ≤ a2 ∧ a2 ≤ 27) (hM : s.2 + 0 ≤ 1000000000) : ∃ P : qz_Z, P = zf_281 Z a1 a2 ∧ (qf_281 [.inr (.inr (some (1, 0, 0))), .inl (i3 a1), .inl (i3 a2)] (zm Z ν) = some (zm P ν, .inl none) ∧ zM s P ∧ zC [2] Z P ∧ zU [] Z P) := by
  obtain ⟨P, hP⟩ := zx (zf_281 Z a1 a2)
  refine zc_V (Q := fun P => zM s P ∧ zC [2] Z P ∧ zU [] Z P) hP (fw_281 (i3 a1) (i3 a2) _ _ ?_)
  replace hP : zE P (zf_281 Z a1 a2) := hP
  unfold zf_281 at hP
  refine wz_i0 (i3O (n := 4400) (i3A (i3A (show (1410 : Int32) = i3 1410 from rfl) (i3M (show (12 : Int32) = i3 12 from rfl) (rfl : i3 a1 = i3 a1))) (show (4 : Int32) = i3 4 from rfl)) (by omega) (by omega) (by omega)) ?_
  obtain ⟨Z1, hZ1⟩ := zx (zu Z 2 0 0 (1414 + 12 * a1) 0)
  replace hP := zl_e hP hZ1
  have hZ1I := zM_02 hZ hZ1 (by simp only [zsp]; omega)
  have hZ1U : zU [] Z Z1 := zU_u zU_r hZ1 (Or.inl rfl)
  have hZ1K : zC [2] Z Z1 := zC_u zC_r hZ1 (zcl_2w (by omega) rfl)
  intro μ9 e9
  replace e9 := e9.trans (zm_wI (Z := Z) (ν := ν) hZ1 (show ((0 : Nat) : Int) = 0 from rfl) (show ((0 : Nat) : Int) = 0 from rfl) (i3I (y := (1414 + 12 * a1)) (i3A (i3A (show (1410 : Int32) = i3 1410 from rfl) (i3M (show (12 : Int32) = i3 12 from rfl) (rfl : i3 a1 = i3 a1))) (show (4 : Int32) = i3 4 from rfl)) (by omega) (by omega) (by omega)) (show (0 : Int32) = i3 0 from rfl))
  subst e9
  obtain ⟨v2, hv2, c9, lv2, uv2, wv20⟩ := sp_269 (ν := ν) hZ1I (a1 := a1) (by omega) (a2 := a2) (by omega) (a3 := (-1)) (by omega) (a4 := (-1)) (by omega) (zbh (c := 0) (k := 0) hM (Nat.le_of_ble_eq_true rfl))
  replace hP := zl_e hP hv2
  refine wz_cI_of (zas (zcons rfl (zcons (zvi (rfl : i3 a1 = i3 a1)) (zcons (zvi (rfl : i3 a2 = i3 a2)) (zcons (zvi (show (-1 : Int32) = i3 (-1) from rfl)) (zcons (zvi (show (-1 : Int32) = i3 (-1) from rfl)) rfl))))) c9) ?_
  clear c9
  have r3 := zM_f hZ1I 2 0 0 (1811 + 2 * v2)
  have r4 := zM_py hZ1I v2
  have w5 : v2 = -1 ∨ (-1) < Z1 2 0 0 (1811 + 2 * v2) ∨ Z1 2 0 0 (1811 + 2 * v2) = (-1) ∧ (-1) < v2 := wv20
  refine sl_281_1 (ν := ν) hZ1I (zbh (c := 0) (k := 0) hM (Nat.le_of_ble_eq_true rfl)) zC_r (x1 := a1) (by omega) (x2 := a2) (by omega) (x3 := v2) (by omega) zU_r (by omega) (zconso rfl (zconso (zvo (rfl : i3 a1 = i3 a1)) (zconso (zvo (rfl : i3 a2 = i3 a2)) (zconso (zvo (rfl : i3 v2 = i3 v2)) (zconso rfl (zconso rfl rfl)))))) rfl ?_
  intro L8 Z7 y6 hL8 hZ7I kZ7 jZ7 gy6 q9
  replace hP := zl_e2 hP (Eq.symm q9)
  clear q9
  have hZ7U : zU [] Z Z7 := zU_t hZ1U jZ7 zU_b0
  have hZ7K : zC [2] Z Z7 := zC_t hZ1K kZ7 (by decide)
  refine fc_281_2  _ _ _ _ hL8 ?_
  exact zlV hP ⟨hZ7I, hZ7K, hZ7U⟩
/- yX12_bClose -/
def zl_265_1 (x1 : Int) : Nat → qz_Z → Int → qz_Z × Int
  | 0, Z, x2 => (Z, x2)
  | m + 1, Z, x2 => (if (Z 2 0 0 1400) ≤ x2 then (Z, x2) else (zlet (zf_281 Z x2 x1) (fun Z3 => zl_265_1 x1 m Z3 (x2 + 1))))
theorem sl_265_1 {s : zSM} {Zs Z : qz_Z} {ν : qz_N} (hZ : zM s Z) (hM : s.2 + 0 ≤ 1000000000) (hK : zC [2] Zs Z) {x1 : Int} (gx1 : 0 ≤ x1 ∧ x1 ≤ 27) {x2 : Int} (gx2 : 0 ≤ x2 ∧ x2 ≤ 8) (hU : zU [] Zs Z) {k : wz_K} {R : wz_R} {L : qz_L} (hL : qz_fg [true, true, true] L = [some (.inr (.inr (some (1, 0, 0)))), some (.inl (i3 x1)), some (.inl (i3 x2))]) {T : qz_Z × Int} (hP : zE T (zl_265_1 x1 ((8 - x2).toNat + 1) Z x2)) (hk : ∀ (L9 : qz_L) (Z9 : qz_Z) (yx2 : Int), qz_fg [true, false, false] L9 = [some (.inr (.inr (some (1, 0, 0)))), none, none] → zM s Z9 → zC [2] Zs Z9 → zU [] Zs Z9 → (0 ≤ yx2 ∧ yx2 ≤ 8) → zE T ((Z9, yx2)) → k 0 (L9, [], zm Z9 ν)) : wz_loop qb_265_1 65536 k R (L, [], zm Z ν) := by
  refine wz_lp sb_265_1 (fun m x => ∃ Z : qz_Z, ∃ x2 : Int, qz_fg [true, true, true] x.1 = [some (.inr (.inr (some (1, 0, 0)))), some (.inl (i3 x1)), some (.inl (i3 x2))] ∧ x.2 = ([], zm Z ν) ∧ zM s Z ∧ zC [2] Zs Z ∧ zU [] Zs Z ∧ m = (8 - x2).toNat ∧ (0 ≤ x2 ∧ x2 ≤ 8) ∧ zE T (zl_265_1 x1 (m + 1) Z x2)) ?_ 65536 ((8 - x2).toNat) _ (by omega) ⟨Z, x2, hL, rfl, hZ, hK, hU, rfl, gx2, hP⟩
  clear hP gx2 hZ hK hU hL
  clear x2
  clear Z
  rintro m ⟨L, st, μ⟩ ⟨Z, x2, hL, hx, hZ, hK, hU, hm, gx2, hP⟩
  cases hx
  refine fb_265_1 (i3 x1) (i3 x2) _ _ _ _ hL ?_
  have r1 := zM_k hZ 2 0 0 1400 (lo := 0) (hi := 8) (by decide) rfl
  refine wz_br (i3Le (zm_rd (Z := Z) (ν := ν) (k := 2) (show ((0 : Nat) : Int) = 0 from rfl) (show ((0 : Nat) : Int) = 0 from rfl) (show ((1400 : Nat) : Int) = 1400 from rfl)) (rfl : i3 x2 = i3 x2) (by omega) (by omega) (by omega) (by omega)) (fun h2 => ?_) (fun h2 => ?_)
  · replace hP := zE_p hP h2
    exact hk _ _ _ (zconso rfl (zconso rfl (zconso rfl rfl))) hZ hK hU (by omega)  hP
  · replace hP := zE_n hP h2
    obtain ⟨Z3, hZ3, c9, hZ3I, kZ3, jZ3⟩ := sp_281 (ν := ν) hZ (a1 := x2) (by omega) (a2 := x1) (by omega) (zbh (c := 0) (k := 0) hM (Nat.le_of_ble_eq_true rfl))
    have hZ3U : zU [] Zs Z3 := zU_t hU jZ3 zU_b0
    have hZ3K : zC [2] Zs Z3 := zC_t hK kZ3 (by decide)
    replace hP := zl_e hP hZ3
    refine wz_cV_of (zas (zcons rfl (zcons (zvi (rfl : i3 x2 = i3 x2)) (zcons (zvi (rfl : i3 x1 = i3 x1)) rfl))) c9) ?_
    clear c9
    obtain ⟨m2, rfl⟩ : ∃ m2, m = m2 + 1 := ⟨m - 1, by omega⟩
    exact wz_k1 ⟨m2, by omega, Z3, (x2 + 1), (zconso rfl (zconso (zvo (rfl : i3 x1 = i3 x1)) (zconso (zvo (i3A (rfl : i3 x2 = i3 x2) (show (1 : Int32) = i3 1 from rfl))) rfl))), rfl, hZ3I, hZ3K, hZ3U, by omega, by omega,  hP⟩
/- yX12_bClose -/
def zl_265_2 : Nat → qz_Z → Int → qz_Z × Int
  | 0, Z, x2 => (Z, x2)
  | m + 1, Z, x2 => (if (Z 2 0 0 1401) ≤ x2 then (Z, x2) else (if (Z 2 0 0 (1517 + 12 * x2)) ≠ 0 then zl_265_2 m Z (x2 + 1) else (if (z2 (fun x y => x &&& y) (z2 (fun x y => x >>> (y &&& 31)) (Z 2 0 0 (1515 + 12 * x2)) (((Z 2 0 0 0) / 24) % 7)) 1) ≠ 1 then zl_265_2 m Z (x2 + 1) else (zlet (zu Z 2 0 0 (1516 + 12 * x2) (Z 2 0 0 (1513 + 12 * x2))) (fun Z12 => zl_265_2 m Z12 (x2 + 1))))))
theorem sl_265_2 {s : zSM} {Zs Z : qz_Z} {ν : qz_N} (hZ : zM s Z) (hM : s.2 + 0 ≤ 1000000000) (hK : zC [2] Zs Z) {x2 : Int} (gx2 : 0 ≤ x2 ∧ x2 ≤ 24) (hU : zU [] Zs Z) {k : wz_K} {R : wz_R} {L : qz_L} (hL : qz_fg [true, false, true] L = [some (.inr (.inr (some (1, 0, 0)))), none, some (.inl (i3 x2))]) {T : qz_Z × Int} (hP : zE T (zl_265_2 ((24 - x2).toNat + 1) Z x2)) (hk : ∀ (L9 : qz_L) (Z9 : qz_Z) (yx2 : Int), qz_fg [false, false, false] L9 = [none, none, none] → zM s Z9 → zC [2] Zs Z9 → zU [] Zs Z9 → (0 ≤ yx2 ∧ yx2 ≤ 24) → zE T ((Z9, yx2)) → k 0 (L9, [], zm Z9 ν)) : wz_loop qb_265_2 65536 k R (L, [], zm Z ν) := by
  refine wz_lp sb_265_2 (fun m x => ∃ Z : qz_Z, ∃ x2 : Int, qz_fg [true, false, true] x.1 = [some (.inr (.inr (some (1, 0, 0)))), none, some (.inl (i3 x2))] ∧ x.2 = ([], zm Z ν) ∧ zM s Z ∧ zC [2] Zs Z ∧ zU [] Zs Z ∧ m = (24 - x2).toNat ∧ (0 ≤ x2 ∧ x2 ≤ 24) ∧ zE T (zl_265_2 (m + 1) Z x2)) ?_ 65536 ((24 - x2).toNat) _ (by omega) ⟨Z, x2, hL, rfl, hZ, hK, hU, rfl, gx2, hP⟩
  clear hP gx2 hZ hK hU hL
  clear x2
  clear Z
  rintro m ⟨L, st, μ⟩ ⟨Z, x2, hL, hx, hZ, hK, hU, hm, gx2, hP⟩
  cases hx
  refine fb_265_2 (i3 x2) _ _ _ _ hL ?_
  have r1 := zM_k hZ 2 0 0 1401 (lo := 0) (hi := 24) (by decide) rfl
  refine wz_br (i3Le (zm_rd (Z := Z) (ν := ν) (k := 2) (show ((0 : Nat) : Int) = 0 from rfl) (show ((0 : Nat) : Int) = 0 from rfl) (show ((1401 : Nat) : Int) = 1401 from rfl)) (rfl : i3 x2 = i3 x2) (by omega) (by omega) (by omega) (by omega)) (fun h2 => ?_) (fun h2 => ?_)
  · replace hP := zE_p hP h2
    exact hk _ _ _ (zconso rfl (zconso rfl (zconso rfl rfl))) hZ hK hU (by omega)  hP
  · replace hP := zE_n hP h2
    refine wz_i0 (i3O (n := 4400) (i3A (i3A (show (1510 : Int32) = i3 1510 from rfl) (i3M (show (12 : Int32) = i3 12 from rfl) (rfl : i3 x2 = i3 x2))) (show (7 : Int32) = i3 7 from rfl)) (by omega) (by omega) (by omega)) ?_
    have r3 := zM_k hZ 2 0 0 (1517 + 12 * x2) (lo := 0) (hi := 1) (by decide) (zs_1510_7 (x := x2) (by omega) (by omega) (by omega))
    refine wz_br (i3NE (zm_rd (Z := Z) (ν := ν) (k := 2) (show ((0 : Nat) : Int) = 0 from rfl) (show ((0 : Nat) : Int) = 0 from rfl) (i3I (y := (1517 + 12 * x2)) (i3A (i3A (show (1510 : Int32) = i3 1510 from rfl) (i3M (show (12 : Int32) = i3 12 from rfl) (rfl : i3 x2 = i3 x2))) (show (7 : Int32) = i3 7 from rfl)) (by omega) (by omega) (by omega))) (show (0 : Int32) = i3 0 from rfl) (by omega) (by omega) (by omega) (by omega)) (fun h4 => ?_) (fun h4 => ?_)
    · replace hP := zE_p hP h4
      obtain ⟨m2, rfl⟩ : ∃ m2, m = m2 + 1 := ⟨m - 1, by omega⟩
      exact wz_k1 ⟨m2, by omega, Z, (x2 + 1), (zconso rfl (zconso rfl (zconso (zvo (i3A (rfl : i3 x2 = i3 x2) (show (1 : Int32) = i3 1 from rfl))) rfl))), rfl, hZ, hK, hU, by omega, by omega,  hP⟩
    · replace hP := zE_n hP h4
      refine wz_i0 (i3O (n := 4400) (i3A (i3A (show (1510 : Int32) = i3 1510 from rfl) (i3M (show (12 : Int32) = i3 12 from rfl) (rfl : i3 x2 = i3 x2))) (show (5 : Int32) = i3 5 from rfl)) (by omega) (by omega) (by omega)) ?_
      have r5 := zM_k hZ 2 0 0 (1515 + 12 * x2) (lo := 0) (hi := 127) (by decide) (zs_1510_5 (x := x2) (by omega) (by omega) (by omega))
      have r6 := zM_k hZ 2 0 0 0 (lo := 0) (hi := 671) (by decide) rfl
      have r7 := z2_r (fun x y => x >>> (y &&& 31)) (Z 2 0 0 (1515 + 12 * x2)) (((Z 2 0 0 0) / 24) % 7)
      have r8 := z2_r (fun x y => x &&& y) (z2 (fun x y => x >>> (y &&& 31)) (Z 2 0 0 (1515 + 12 * x2)) (((Z 2 0 0 0) / 24) % 7)) 1
      have r9 := z2_and (z2 (fun x y => x >>> (y &&& 31)) (Z 2 0 0 (1515 + 12 * x2)) (((Z 2 0 0 0) / 24) % 7)) (y := 1) (by omega) (by omega)
      refine wz_br (i3NE (i3Z (fun x y => x &&& y) (i3Z (fun x y => x >>> (y &&& 31)) (zm_rd (Z := Z) (ν := ν) (k := 2) (show ((0 : Nat) : Int) = 0 from rfl) (show ((0 : Nat) : Int) = 0 from rfl) (i3I (y := (1515 + 12 * x2)) (i3A (i3A (show (1510 : Int32) = i3 1510 from rfl) (i3M (show (12 : Int32) = i3 12 from rfl) (rfl : i3 x2 = i3 x2))) (show (5 : Int32) = i3 5 from rfl)) (by omega) (by omega) (by omega))) (i3R (i3D (zm_rd (Z := Z) (ν := ν) (k := 2) (show ((0 : Nat) : Int) = 0 from rfl) (show ((0 : Nat) : Int) = 0 from rfl) (show ((0 : Nat) : Int) = 0 from rfl)) (show (24 : Int32) = i3 24 from rfl) (by omega) (by omega) (by omega) (by omega)) (show (7 : Int32) = i3 7 from rfl) (by omega) (by omega) (by omega) (by omega))) (show (1 : Int32) = i3 1 from rfl)) (show (1 : Int32) = i3 1 from rfl) (by omega) (by omega) (by omega) (by omega)) (fun h10 => ?_) (fun h10 => ?_)
      · replace hP := zE_p hP h10
        obtain ⟨m2, rfl⟩ : ∃ m2, m = m2 + 1 := ⟨m - 1, by omega⟩
        exact wz_k1 ⟨m2, by omega, Z, (x2 + 1), (zconso rfl (zconso rfl (zconso (zvo (i3A (rfl : i3 x2 = i3 x2) (show (1 : Int32) = i3 1 from rfl))) rfl))), rfl, hZ, hK, hU, by omega, by omega,  hP⟩
      · replace hP := zE_n hP h10
        refine wz_i0 (i3O (n := 4400) (i3A (i3A (show (1510 : Int32) = i3 1510 from rfl) (i3M (show (12 : Int32) = i3 12 from rfl) (rfl : i3 x2 = i3 x2))) (show (3 : Int32) = i3 3 from rfl)) (by omega) (by omega) (by omega)) ?_
        refine wz_i0 (i3O (n := 4400) (i3A (i3A (show (1510 : Int32) = i3 1510 from rfl) (i3M (show (12 : Int32) = i3 12 from rfl) (rfl : i3 x2 = i3 x2))) (show (6 : Int32) = i3 6 from rfl)) (by omega) (by omega) (by omega)) ?_
        have r11 := zM_k hZ 2 0 0 (1513 + 12 * x2) (lo := 0) (hi := 99) (by decide) (zs_1510_3 (x := x2) (by omega) (by omega) (by omega))
        obtain ⟨Z12, hZ12⟩ := zx (zu Z 2 0 0 (1516 + 12 * x2) (Z 2 0 0 (1513 + 12 * x2)))
        replace hP := zl_e hP hZ12
        have hZ12I := zM_u2 hZ hZ12 (lo := 0) (hi := 99) (zs_1510_6 (x := x2) (by omega) (by omega) (by omega)) (by omega) ⟨by decide, by decide⟩ (by simp only [zsp]; omega)
        have hZ12U : zU [] Zs Z12 := zU_u hU hZ12 (Or.inl rfl)
        have hZ12K : zC [2] Zs Z12 := zC_u hK hZ12 (zcl_2w (by omega) rfl)
        intro μ9 e9
        replace e9 := e9.trans (zm_wI (Z := Z) (ν := ν) hZ12 (show ((0 : Nat) : Int) = 0 from rfl) (show ((0 : Nat) : Int) = 0 from rfl) (i3I (y := (1516 + 12 * x2)) (i3A (i3A (show (1510 : Int32) = i3 1510 from rfl) (i3M (show (12 : Int32) = i3 12 from rfl) (rfl : i3 x2 = i3 x2))) (show (6 : Int32) = i3 6 from rfl)) (by omega) (by omega) (by omega)) (zm_rd (Z := Z) (ν := ν) (k := 2) (show ((0 : Nat) : Int) = 0 from rfl) (show ((0 : Nat) : Int) = 0 from rfl) (i3I (y := (1513 + 12 * x2)) (i3A (i3A (show (1510 : Int32) = i3 1510 from rfl) (i3M (show (12 : Int32) = i3 12 from rfl) (rfl : i3 x2 = i3 x2))) (show (3 : Int32) = i3 3 from rfl)) (by omega) (by omega) (by omega))))
        subst e9
        obtain ⟨m2, rfl⟩ : ∃ m2, m = m2 + 1 := ⟨m - 1, by omega⟩
        exact wz_k1 ⟨m2, by omega, Z12, (x2 + 1), (zconso rfl (zconso rfl (zconso (zvo (i3A (rfl : i3 x2 = i3 x2) (show (1 : Int32) = i3 1 from rfl))) rfl))), rfl, hZ12I, hZ12K, hZ12U, by omega, by omega,  hP⟩
/- yX12_bClose -/
def zf_265 (Z : qz_Z) (a1 : Int) : qz_Z := (zlet2 (zl_265_1 a1 9 Z 0) (fun Z2 y1 => (zlet2 (zl_265_2 25 Z2 0) (fun Z5 y4 => Z5))))
theorem sp_265 {s : zSM} {Z : qz_Z} {ν : qz_N} (hZ : zM s Z) {a1 : Int} (ga1 : 0 ≤ a1 ∧ a1 ≤ 27) (hM : s.2 + 0 ≤ 1000000000) : ∃ P : qz_Z, P = zf_265 Z a1 ∧ (qf_265 [.inr (.inr (some (1, 0, 0))), .inl (i3 a1)] (zm Z ν) = some (zm P ν, .inl none) ∧ zM s P ∧ zC [2] Z P ∧ zU [] Z P) := by
  obtain ⟨P, hP⟩ := zx (zf_265 Z a1)
  refine zc_V (Q := fun P => zM s P ∧ zC [2] Z P ∧ zU [] Z P) hP (fw_265 (i3 a1) _ _ ?_)
  replace hP : zE P (zf_265 Z a1) := hP
  unfold zf_265 at hP
  refine sl_265_1 (ν := ν) hZ (zbh (c := 0) (k := 0) hM (Nat.le_of_ble_eq_true rfl)) zC_r (x1 := a1) (by omega) (x2 := 0) (by omega) zU_r  (zconso rfl (zconso (zvo (rfl : i3 a1 = i3 a1)) (zconso (zvo (show (0 : Int32) = i3 0 from rfl)) rfl))) rfl ?_
  intro L3 Z2 y1 hL3 hZ2I kZ2 jZ2 gy1 q9
  replace hP := zl_e2 hP (Eq.symm q9)
  clear q9
  have hZ2U : zU [] Z Z2 := zU_t zU_r jZ2 zU_b0
  have hZ2K : zC [2] Z Z2 := zC_t zC_r kZ2 (by decide)
  refine fc_265_4  _ _ _ _ hL3 ?_
  refine sl_265_2 (ν := ν) hZ2I (zbh (c := 0) (k := 0) hM (Nat.le_of_ble_eq_true rfl)) zC_r (x2 := 0) (by omega) zU_r  (zconso rfl (zconso rfl (zconso (zvo (show (0 : Int32) = i3 0 from rfl)) rfl))) rfl ?_
  intro L6 Z5 y4 hL6 hZ5I kZ5 jZ5 gy4 q9
  replace hP := zl_e2 hP (Eq.symm q9)
  clear q9
  have hZ5U : zU [] Z Z5 := zU_t hZ2U jZ5 zU_b0
  have hZ5K : zC [2] Z Z5 := zC_t hZ2K kZ5 (by decide)
  refine fc_265_3  _ _ _ _ hL6 ?_
  exact zlV hP ⟨hZ5I, hZ5K, hZ5U⟩
/- yX12_cHour -/
def zl_301_1 (x1 : Int) : Nat → qz_Z → Int → qz_Z × Int
  | 0, Z, x2 => (Z, x2)
  | m + 1, Z, x2 => (if (Z 2 0 0 (3012 + 60 * x1)) ≤ x2 then (Z, x2) else (if ((Z 2 0 0 0) % 24) < (Z 2 0 0 (3010 + 60 * x1)) then (Z, x2) else (if (((Z 2 0 0 (3010 + 60 * x1)) + (Z 2 0 0 (3011 + 60 * x1))) - 1) < ((Z 2 0 0 0) % 24) then (Z, x2) else (if (Z 2 0 0 (3015 + 60 * x1)) ≤ 0 then (Z, x2) else (zlet (zf_309 Z x1) (fun Z10 => zl_301_1 x1 m Z10 (x2 + 1)))))))
theorem sl_301_1 {s : zSM} {xM9 : Nat} {Zs Z : qz_Z} {ν : qz_N} (hZ : zM (zb s xM9) Z) (hM : s.2 + 574 ≤ 1000000000) (hK : zC [2] Zs Z) {x1 : Int} (gx1 : 0 ≤ x1 ∧ x1 ≤ 1) {x2 : Int} (gx2 : 0 ≤ x2 ∧ x2 ≤ 6) (hU : zU [] Zs Z) (hx9 : xM9 + 82 * ((6 - x2).toNat) + 82 ≤ 574) {k : wz_K} {R : wz_R} {L : qz_L} (hL : qz_fg [true, true, true] L = [some (.inr (.inr (some (1, 0, 0)))), some (.inl (i3 x1)), some (.inl (i3 x2))]) {T : qz_Z × Int} (hP : zE T (zl_301_1 x1 ((6 - x2).toNat + 1) Z x2)) (hk : ∀ (L9 : qz_L) (Z9 : qz_Z) (yx2 : Int), qz_fg [true, true, false] L9 = [some (.inr (.inr (some (1, 0, 0)))), some (.inl (i3 x1)), none] → zM (zb s 574) Z9 → zC [2] Zs Z9 → zU [] Zs Z9 → (0 ≤ yx2 ∧ yx2 ≤ 6) → zE T ((Z9, yx2)) → k 0 (L9, [], zm Z9 ν)) : wz_loop qb_301_1 65536 k R (L, [], zm Z ν) := by
  refine wz_lp sb_301_1 (fun m x => ∃ xM9 : Nat, ∃ Z : qz_Z, ∃ x2 : Int, qz_fg [true, true, true] x.1 = [some (.inr (.inr (some (1, 0, 0)))), some (.inl (i3 x1)), some (.inl (i3 x2))] ∧ x.2 = ([], zm Z ν) ∧ xM9 + 82 * m + 82 ≤ 574 ∧ zM (zb s xM9) Z ∧ zC [2] Zs Z ∧ zU [] Zs Z ∧ m = (6 - x2).toNat ∧ (0 ≤ x2 ∧ x2 ≤ 6) ∧ zE T (zl_301_1 x1 (m + 1) Z x2)) ?_ 65536 ((6 - x2).toNat) _ (by omega) ⟨xM9, Z, x2, hL, rfl, hx9, hZ, hK, hU, rfl, gx2, hP⟩
  clear hP gx2 hx9 hZ hK hU hL
  clear x2
  clear Z
  clear xM9
  rintro m ⟨L, st, μ⟩ ⟨xM9, Z, x2, hL, hx, hx9, hZ, hK, hU, hm, gx2, hP⟩
  cases hx
  have hM9 : (zb s xM9).2 + 82 ≤ 1000000000 := by
    show s.2 + xM9 + 82 ≤ 1000000000
    omega
  refine fb_301_1 (i3 x1) (i3 x2) _ _ _ _ hL ?_
  refine wz_i0 (i3O (n := 4400) (i3A (i3A (show (3010 : Int32) = i3 3010 from rfl) (i3M (show (60 : Int32) = i3 60 from rfl) (rfl : i3 x1 = i3 x1))) (show (2 : Int32) = i3 2 from rfl)) (by omega) (by omega) (by omega)) ?_
  have r1 := zM_k hZ 2 0 0 (3012 + 60 * x1) (lo := 0) (hi := 6) (by decide) (zs_3010_2 (x := (x1 + 0)) (by omega) (by omega) (by omega))
  refine wz_br (i3Le (zm_rd (Z := Z) (ν := ν) (k := 2) (show ((0 : Nat) : Int) = 0 from rfl) (show ((0 : Nat) : Int) = 0 from rfl) (i3I (y := (3012 + 60 * x1)) (i3A (i3A (show (3010 : Int32) = i3 3010 from rfl) (i3M (show (60 : Int32) = i3 60 from rfl) (rfl : i3 x1 = i3 x1))) (show (2 : Int32) = i3 2 from rfl)) (by omega) (by omega) (by omega))) (rfl : i3 x2 = i3 x2) (by omega) (by omega) (by omega) (by omega)) (fun h2 => ?_) (fun h2 => ?_)
  · replace hP := zE_p hP h2
    exact hk _ _ _ (zconso rfl (zconso (zvo (rfl : i3 x1 = i3 x1)) (zconso rfl rfl))) (zmx0 hZ (by omega)) hK hU (by omega)  hP
  · replace hP := zE_n hP h2
    refine wz_i0 (i3O (n := 4400) (i3A (i3A (show (3010 : Int32) = i3 3010 from rfl) (i3M (show (60 : Int32) = i3 60 from rfl) (rfl : i3 x1 = i3 x1))) (show (0 : Int32) = i3 0 from rfl)) (by omega) (by omega) (by omega)) ?_
    refine wz_i0 (i3O (n := 4400) (i3A (i3A (show (3010 : Int32) = i3 3010 from rfl) (i3M (show (60 : Int32) = i3 60 from rfl) (rfl : i3 x1 = i3 x1))) (show (0 : Int32) = i3 0 from rfl)) (by omega) (by omega) (by omega)) ?_
    refine wz_i0 (i3O (n := 4400) (i3A (i3A (show (3010 : Int32) = i3 3010 from rfl) (i3M (show (60 : Int32) = i3 60 from rfl) (rfl : i3 x1 = i3 x1))) (show (1 : Int32) = i3 1 from rfl)) (by omega) (by omega) (by omega)) ?_
    have r3 := zM_k hZ 2 0 0 0 (lo := 0) (hi := 671) (by decide) rfl
    have r4 := zM_k hZ 2 0 0 (3010 + 60 * x1) (lo := 0) (hi := 23) (by decide) (zs_3010_0 (x := (x1 + 0)) (by omega) (by omega) (by omega))
    refine wz_br (i3L (i3R (zm_rd (Z := Z) (ν := ν) (k := 2) (show ((0 : Nat) : Int) = 0 from rfl) (show ((0 : Nat) : Int) = 0 from rfl) (show ((0 : Nat) : Int) = 0 from rfl)) (show (24 : Int32) = i3 24 from rfl) (by omega) (by omega) (by omega) (by omega)) (zm_rd (Z := Z) (ν := ν) (k := 2) (show ((0 : Nat) : Int) = 0 from rfl) (show ((0 : Nat) : Int) = 0 from rfl) (i3I (y := (3010 + 60 * x1)) (i3A (i3A (show (3010 : Int32) = i3 3010 from rfl) (i3M (show (60 : Int32) = i3 60 from rfl) (rfl : i3 x1 = i3 x1))) (show (0 : Int32) = i3 0 from rfl)) (by omega) (by omega) (by omega))) (by omega) (by omega) (by omega) (by omega)) (fun h5 => ?_) (fun h5 => ?_)
    · replace hP := zE_p hP h5
      exact hk _ _ _ (zconso rfl (zconso (zvo (rfl : i3 x1 = i3 x1)) (zconso rfl rfl))) (zmx0 hZ (by omega)) hK hU (by omega)  hP
    · replace hP := zE_n hP h5
      have r6 := zM_k hZ 2 0 0 (3011 + 60 * x1) (lo := 0) (hi := 6) (by decide) (zs_3010_1 (x := (x1 + 0)) (by omega) (by omega) (by omega))
      refine wz_br (i3L (i3S (i3A (zm_rd (Z := Z) (ν := ν) (k := 2) (show ((0 : Nat) : Int) = 0 from rfl) (show ((0 : Nat) : Int) = 0 from rfl) (i3I (y := (3010 + 60 * x1)) (i3A (i3A (show (3010 : Int32) = i3 3010 from rfl) (i3M (show (60 : Int32) = i3 60 from rfl) (rfl : i3 x1 = i3 x1))) (show (0 : Int32) = i3 0 from rfl)) (by omega) (by omega) (by omega))) (zm_rd (Z := Z) (ν := ν) (k := 2) (show ((0 : Nat) : Int) = 0 from rfl) (show ((0 : Nat) : Int) = 0 from rfl) (i3I (y := (3011 + 60 * x1)) (i3A (i3A (show (3010 : Int32) = i3 3010 from rfl) (i3M (show (60 : Int32) = i3 60 from rfl) (rfl : i3 x1 = i3 x1))) (show (1 : Int32) = i3 1 from rfl)) (by omega) (by omega) (by omega)))) (show (1 : Int32) = i3 1 from rfl)) (i3R (zm_rd (Z := Z) (ν := ν) (k := 2) (show ((0 : Nat) : Int) = 0 from rfl) (show ((0 : Nat) : Int) = 0 from rfl) (show ((0 : Nat) : Int) = 0 from rfl)) (show (24 : Int32) = i3 24 from rfl) (by omega) (by omega) (by omega) (by omega)) (by omega) (by omega) (by omega) (by omega)) (fun h7 => ?_) (fun h7 => ?_)
      · replace hP := zE_p hP h7
        exact hk _ _ _ (zconso rfl (zconso (zvo (rfl : i3 x1 = i3 x1)) (zconso rfl rfl))) (zmx0 hZ (by omega)) hK hU (by omega)  hP
      · replace hP := zE_n hP h7
        refine wz_i0 (i3O (n := 4400) (i3A (i3A (show (3010 : Int32) = i3 3010 from rfl) (i3M (show (60 : Int32) = i3 60 from rfl) (rfl : i3 x1 = i3 x1))) (show (5 : Int32) = i3 5 from rfl)) (by omega) (by omega) (by omega)) ?_
        have r8 := zM_k hZ 2 0 0 (3015 + 60 * x1) (lo := 0) (hi := 12) (by decide) (zs_3010_5 (x := (x1 + 0)) (by omega) (by omega) (by omega))
        refine wz_br (i3Le (zm_rd (Z := Z) (ν := ν) (k := 2) (show ((0 : Nat) : Int) = 0 from rfl) (show ((0 : Nat) : Int) = 0 from rfl) (i3I (y := (3015 + 60 * x1)) (i3A (i3A (show (3010 : Int32) = i3 3010 from rfl) (i3M (show (60 : Int32) = i3 60 from rfl) (rfl : i3 x1 = i3 x1))) (show (5 : Int32) = i3 5 from rfl)) (by omega) (by omega) (by omega))) (show (0 : Int32) = i3 0 from rfl) (by omega) (by omega) (by omega) (by omega)) (fun h9 => ?_) (fun h9 => ?_)
        · replace hP := zE_p hP h9
          exact hk _ _ _ (zconso rfl (zconso (zvo (rfl : i3 x1 = i3 x1)) (zconso rfl rfl))) (zmx0 hZ (by omega)) hK hU (by omega)  hP
        · replace hP := zE_n hP h9
          obtain ⟨Z10, hZ10, c9, hZ10I, kZ10, jZ10⟩ := sp_309 (ν := ν) hZ (a1 := x1) (by omega) (by omega) (zbh (c := 0) (k := 82) hM9 (Nat.le_of_ble_eq_true rfl))
          have hZ10U : zU [] Zs Z10 := zU_t hU jZ10 zU_b0
          have hZ10K : zC [2] Zs Z10 := zC_t hK kZ10 (by decide)
          replace hP := zl_e hP hZ10
          refine wz_cV_of (zas (zcons rfl (zcons (zvi (rfl : i3 x1 = i3 x1)) rfl)) c9) ?_
          clear c9
          obtain ⟨m2, rfl⟩ : ∃ m2, m = m2 + 1 := ⟨m - 1, by omega⟩
          exact wz_k1 ⟨m2, by omega, xM9 + 82, Z10, (x2 + 1), (zconso rfl (zconso (zvo (rfl : i3 x1 = i3 x1)) (zconso (zvo (i3A (rfl : i3 x2 = i3 x2) (show (1 : Int32) = i3 1 from rfl))) rfl))), rfl, by omega, (zmt hZ10I rfl), hZ10K, hZ10U, by omega, by omega,  hP⟩
/- yX12_cHour -/
def zl_301_3 : Nat → qz_Z → Int → qz_Z × Int
  | 0, Z, x1 => (Z, x1)
  | m + 1, Z, x1 => (if (Z 2 0 0 3000) ≤ x1 then (Z, x1) else (zlet2 (zl_301_1 x1 7 Z 0) (fun Z4 y3 => zl_301_3 m Z4 (x1 + 1))))
theorem sl_301_3 {s : zSM} {xM9 : Nat} {Zs Z : qz_Z} {ν : qz_N} (hZ : zM (zb s xM9) Z) (hM : s.2 + 1722 ≤ 1000000000) (hK : zC [2] Zs Z) {x1 : Int} (gx1 : 0 ≤ x1 ∧ x1 ≤ 2) (hU : zU [] Zs Z) (hx9 : xM9 + 574 * ((2 - x1).toNat) + 574 ≤ 1722) {k : wz_K} {R : wz_R} {L : qz_L} (hL : qz_fg [true, true, false] L = [some (.inr (.inr (some (1, 0, 0)))), some (.inl (i3 x1)), none]) {T : qz_Z × Int} (hP : zE T (zl_301_3 ((2 - x1).toNat + 1) Z x1)) (hk : ∀ (L9 : qz_L) (Z9 : qz_Z) (yx1 : Int), qz_fg [false, false, false] L9 = [none, none, none] → zM (zb s 1722) Z9 → zC [2] Zs Z9 → zU [] Zs Z9 → (0 ≤ yx1 ∧ yx1 ≤ 2) → zE T ((Z9, yx1)) → k 0 (L9, [], zm Z9 ν)) : wz_loop qb_301_3 65536 k R (L, [], zm Z ν) := by
  refine wz_lp sb_301_3 (fun m x => ∃ xM9 : Nat, ∃ Z : qz_Z, ∃ x1 : Int, qz_fg [true, true, false] x.1 = [some (.inr (.inr (some (1, 0, 0)))), some (.inl (i3 x1)), none] ∧ x.2 = ([], zm Z ν) ∧ xM9 + 574 * m + 574 ≤ 1722 ∧ zM (zb s xM9) Z ∧ zC [2] Zs Z ∧ zU [] Zs Z ∧ m = (2 - x1).toNat ∧ (0 ≤ x1 ∧ x1 ≤ 2) ∧ zE T (zl_301_3 (m + 1) Z x1)) ?_ 65536 ((2 - x1).toNat) _ (by omega) ⟨xM9, Z, x1, hL, rfl, hx9, hZ, hK, hU, rfl, gx1, hP⟩
  clear hP gx1 hx9 hZ hK hU hL
  clear x1
  clear Z
  clear xM9
  rintro m ⟨L, st, μ⟩ ⟨xM9, Z, x1, hL, hx, hx9, hZ, hK, hU, hm, gx1, hP⟩
  cases hx
  have hM9 : (zb s xM9).2 + 574 ≤ 1000000000 := by
    show s.2 + xM9 + 574 ≤ 1000000000
    omega
  refine fb_301_3 (i3 x1) _ _ _ _ hL ?_
  have r1 := zM_k hZ 2 0 0 3000 (lo := 0) (hi := 2) (by decide) rfl
  refine wz_br (i3Le (zm_rd (Z := Z) (ν := ν) (k := 2) (show ((0 : Nat) : Int) = 0 from rfl) (show ((0 : Nat) : Int) = 0 from rfl) (show ((3000 : Nat) : Int) = 3000 from rfl)) (rfl : i3 x1 = i3 x1) (by omega) (by omega) (by omega) (by omega)) (fun h2 => ?_) (fun h2 => ?_)
  · replace hP := zE_p hP h2
    exact hk _ _ _ (zconso rfl (zconso rfl (zconso rfl rfl))) (zmx0 hZ (by omega)) hK hU (by omega)  hP
  · replace hP := zE_n hP h2
    refine sl_301_1 (ν := ν) (zm0 hZ) (zbh (c := 0) (k := 574) hM9 (Nat.le_of_ble_eq_true rfl)) (xM9 := 0) zC_r (x1 := x1) (by omega) (x2 := 0) (by omega) zU_r (Nat.le_of_ble_eq_true rfl)  (zconso rfl (zconso (zvo (rfl : i3 x1 = i3 x1)) (zconso (zvo (show (0 : Int32) = i3 0 from rfl)) rfl))) rfl ?_
    intro L5 Z4 y3 hL5 hZ4I kZ4 jZ4 gy3 q9
    replace hP := zl_e2 hP (Eq.symm q9)
    clear q9
    have hZ4U : zU [] Zs Z4 := zU_t hU jZ4 zU_b0
    have hZ4K : zC [2] Zs Z4 := zC_t hK kZ4 (by decide)
    refine fc_301_2 (i3 x1) _ _ _ _ hL5 ?_
    obtain ⟨m2, rfl⟩ : ∃ m2, m = m2 + 1 := ⟨m - 1, by omega⟩
    refine wz_kbs (n := 1) (?_)
    exact wz_k1 ⟨m2, by omega, xM9 + 574, Z4, (x1 + 1), (zconso rfl (zconso (zvo (i3A (rfl : i3 x1 = i3 x1) (show (1 : Int32) = i3 1 from rfl))) (zconso rfl rfl))), rfl, by omega, (zmt hZ4I rfl), hZ4K, hZ4U, by omega, by omega,  hP⟩
/- yX12_cHour -/
def zf_301 (Z : qz_Z) : qz_Z := (zlet2 (zl_301_3 3 Z 0) (fun Z2 y1 => Z2))
theorem sp_301 {s : zSM} {Z : qz_Z} {ν : qz_N} (hZ : zM s Z) (hM : s.2 + 1722 ≤ 1000000000) : ∃ P : qz_Z, P = zf_301 Z ∧ (qf_301 [.inr (.inr (some (1, 0, 0)))] (zm Z ν) = some (zm P ν, .inl none) ∧ zM (zb s 1722) P ∧ zC [2] Z P ∧ zU [] Z P) := by
  obtain ⟨P, hP⟩ := zx (zf_301 Z)
  refine zc_V (Q := fun P => zM (zb s 1722) P ∧ zC [2] Z P ∧ zU [] Z P) hP (fw_301  _ _ ?_)
  replace hP : zE P (zf_301 Z) := hP
  unfold zf_301 at hP
  refine sl_301_3 (ν := ν) (zm0 hZ) (zbh (c := 0) (k := 1722) hM (Nat.le_of_ble_eq_true rfl)) (xM9 := 0) zC_r (x1 := 0) (by omega) zU_r (Nat.le_of_ble_eq_true rfl)  (zconso rfl (zconso (zvo (show (0 : Int32) = i3 0 from rfl)) (zconso rfl rfl))) rfl ?_
  intro L3 Z2 y1 hL3 hZ2I kZ2 jZ2 gy1 q9
  replace hP := zl_e2 hP (Eq.symm q9)
  clear q9
  have hZ2U : zU [] Z Z2 := zU_t zU_r jZ2 zU_b0
  have hZ2K : zC [2] Z Z2 := zC_t zC_r kZ2 (by decide)
  refine fc_301_4  _ _ _ _ hL3 ?_
  exact zlV hP ⟨hZ2I, hZ2K, hZ2U⟩
/- yX12_iKeep -/
def zl_363_1 (x1 : Int) (x2 : Int) (x3 : Int) (x4 : Int) (x5 : Int) : Nat → qz_Z → Int → qz_Z × Int
  | 0, Z, x6 => (Z, x6)
  | m + 1, Z, x6 => (if 138 ≤ x6 then (Z, x6) else (zlet (zu Z 2 0 0 (3560 + x6) (Z 2 0 0 (3566 + x6))) (fun Z4 => zl_363_1 x1 x2 x3 x4 x5 m Z4 (x6 + 1))))
theorem sl_363_1 {s : zSM} {Zs Z : qz_Z} {ν : qz_N} (hZ : zM s Z) (hM : s.2 + 0 ≤ 1000000000) (hK : zC [2] Zs Z) {x1 : Int} (gx1 : 0 ≤ x1 ∧ x1 ≤ 1) {x2 : Int} (gx2 : 0 ≤ x2 ∧ x2 ≤ 47) {x3 : Int} (gx3 : 0 ≤ x3 ∧ x3 ≤ 2) {x4 : Int} (gx4 : 0 ≤ x4 ∧ x4 ≤ 9) {x5 : Int} (gx5 : -1 ≤ x5 ∧ x5 ≤ 3) {x6 : Int} (gx6 : 0 ≤ x6 ∧ x6 ≤ 138) (hU : zU [] Zs Z) (gr0 : Z 2 0 0 3501 = 24) {k : wz_K} {R : wz_R} {L : qz_L} (hL : qz_fg [true, true, true, true, true, true, true] L = [some (.inr (.inr (some (1, 0, 0)))), some (.inl (i3 x1)), some (.inl (i3 x2)), some (.inl (i3 x3)), some (.inl (i3 x4)), some (.inl (i3 x5)), some (.inl (i3 x6))]) {T : qz_Z × Int} (hP : zE T (zl_363_1 x1 x2 x3 x4 x5 ((138 - x6).toNat + 1) Z x6)) (hk : ∀ (L9 : qz_L) (Z9 : qz_Z) (yx6 : Int), qz_fg [true, true, true, true, true, true, false] L9 = [some (.inr (.inr (some (1, 0, 0)))), some (.inl (i3 x1)), some (.inl (i3 x2)), some (.inl (i3 x3)), some (.inl (i3 x4)), some (.inl (i3 x5)), none] → zM s Z9 → zC [2] Zs Z9 → zU [] Zs Z9 → (0 ≤ yx6 ∧ yx6 ≤ 138) → (Z9 2 0 0 3501 = 24) → zE T ((Z9, yx6)) → k 0 (L9, [], zm Z9 ν)) : wz_loop qb_363_1 65536 k R (L, [], zm Z ν) := by
  refine wz_lp sb_363_1 (fun m x => ∃ Z : qz_Z, ∃ x6 : Int, qz_fg [true, true, true, true, true, true, true] x.1 = [some (.inr (.inr (some (1, 0, 0)))), some (.inl (i3 x1)), some (.inl (i3 x2)), some (.inl (i3 x3)), some (.inl (i3 x4)), some (.inl (i3 x5)), some (.inl (i3 x6))] ∧ x.2 = ([], zm Z ν) ∧ zM s Z ∧ zC [2] Zs Z ∧ zU [] Zs Z ∧ m = (138 - x6).toNat ∧ (0 ≤ x6 ∧ x6 ≤ 138) ∧ (Z 2 0 0 3501 = 24) ∧ zE T (zl_363_1 x1 x2 x3 x4 x5 (m + 1) Z x6)) ?_ 65536 ((138 - x6).toNat) _ (by omega) ⟨Z, x6, hL, rfl, hZ, hK, hU, rfl, gx6, gr0, hP⟩
  clear hP gr0 gx6 hZ hK hU hL
  clear x6
  clear Z
  rintro m ⟨L, st, μ⟩ ⟨Z, x6, hL, hx, hZ, hK, hU, hm, gx6, gr0, hP⟩
  cases hx
  refine fb_363_1 (i3 x1) (i3 x2) (i3 x3) (i3 x4) (i3 x5) (i3 x6) _ _ _ _ hL ?_
  have r1 := zM_k hZ 2 0 0 3501 (lo := 0) (hi := 24) (by decide) rfl
  refine wz_br (i3Le (show (138 : Int32) = i3 138 from rfl) (rfl : i3 x6 = i3 x6) (by omega) (by omega) (by omega) (by omega)) (fun h2 => ?_) (fun h2 => ?_)
  · replace hP := zE_p hP h2
    exact hk _ _ _ (zconso rfl (zconso (zvo (rfl : i3 x1 = i3 x1)) (zconso (zvo (rfl : i3 x2 = i3 x2)) (zconso (zvo (rfl : i3 x3 = i3 x3)) (zconso (zvo (rfl : i3 x4 = i3 x4)) (zconso (zvo (rfl : i3 x5 = i3 x5)) (zconso rfl rfl))))))) hZ hK hU (by omega) (by omega) hP
  · replace hP := zE_n hP h2
    refine wz_i0 (i3O (n := 4400) (i3A (i3A (show (3560 : Int32) = i3 3560 from rfl) (rfl : i3 x6 = i3 x6)) (show (6 : Int32) = i3 6 from rfl)) (by omega) (by omega) (by omega)) ?_
    refine wz_i0 (i3O (n := 4400) (i3A (show (3560 : Int32) = i3 3560 from rfl) (rfl : i3 x6 = i3 x6)) (by omega) (by omega) (by omega)) ?_
    have r3 := zM_f hZ 2 0 0 (3566 + x6)
    obtain ⟨Z4, hZ4⟩ := zx (zu Z 2 0 0 (3560 + x6) (Z 2 0 0 (3566 + x6)))
    replace hP := zl_e hP hZ4
    have hZ4I := zM_c2 hZ hZ4 (by omega) (by omega) (by simp only [zsp]; omega)
    have hZ4U : zU [] Zs Z4 := zU_u hU hZ4 (Or.inl rfl)
    have hZ4K : zC [2] Zs Z4 := zC_u hK hZ4 (zcl_2w (by omega) rfl)
    intro μ9 e9
    replace e9 := e9.trans (zm_wI (Z := Z) (ν := ν) hZ4 (show ((0 : Nat) : Int) = 0 from rfl) (show ((0 : Nat) : Int) = 0 from rfl) (i3I (y := (3560 + x6)) (i3A (show (3560 : Int32) = i3 3560 from rfl) (rfl : i3 x6 = i3 x6)) (by omega) (by omega) (by omega)) (zm_rd (Z := Z) (ν := ν) (k := 2) (show ((0 : Nat) : Int) = 0 from rfl) (show ((0 : Nat) : Int) = 0 from rfl) (i3I (y := (3566 + x6)) (i3A (i3A (show (3560 : Int32) = i3 3560 from rfl) (rfl : i3 x6 = i3 x6)) (show (6 : Int32) = i3 6 from rfl)) (by omega) (by omega) (by omega))))
    subst e9
    have r5 := zM_k hZ4I 2 0 0 3501 (lo := 0) (hi := 24) (by decide) rfl
    have q6 := zu_ne (k' := 2) (b' := 0) (i' := 0) (j' := 3501) hZ4 (fun q => absurd q.2.2.2 (by omega))
    obtain ⟨m2, rfl⟩ : ∃ m2, m = m2 + 1 := ⟨m - 1, by omega⟩
    exact wz_k1 ⟨m2, by omega, Z4, (x6 + 1), (zconso rfl (zconso (zvo (rfl : i3 x1 = i3 x1)) (zconso (zvo (rfl : i3 x2 = i3 x2)) (zconso (zvo (rfl : i3 x3 = i3 x3)) (zconso (zvo (rfl : i3 x4 = i3 x4)) (zconso (zvo (rfl : i3 x5 = i3 x5)) (zconso (zvo (i3A (rfl : i3 x6 = i3 x6) (show (1 : Int32) = i3 1 from rfl))) rfl))))))), rfl, hZ4I, hZ4K, hZ4U, by omega, by omega, by omega,  hP⟩
/- yX12_iKeep -/
def zf_363 (Z : qz_Z) (a1 : Int) (a2 : Int) (a3 : Int) (a4 : Int) (a5 : Int) : qz_Z := (if (Z 2 0 0 3501) ≠ 24 then (zlet (zu Z 2 0 0 (3560 + 6 * (Z 2 0 0 3501)) a1) (fun Z3 => (zlet (zu Z3 2 0 0 (3561 + 6 * (Z 2 0 0 3501)) (Z3 2 0 0 0)) (fun Z5 => (zlet (zu Z5 2 0 0 (3562 + 6 * (Z 2 0 0 3501)) a2) (fun Z6 => (zlet (zu Z6 2 0 0 (3563 + 6 * (Z 2 0 0 3501)) a3) (fun Z7 => (zlet (zu Z7 2 0 0 (3564 + 6 * (Z 2 0 0 3501)) a4) (fun Z8 => (zlet (zu Z8 2 0 0 (3565 + 6 * (Z 2 0 0 3501)) a5) (fun Z9 => (zlet (zu Z9 2 0 0 3501 ((Z9 2 0 0 3501) + 1)) (fun Z12 => Z12)))))))))))))) else (zlet2 (zl_363_1 a1 a2 a3 a4 a5 139 Z 0) (fun Z14 y13 => (zlet (zu Z14 2 0 0 3501 ((Z14 2 0 0 3501) - 1)) (fun Z17 => (zlet (zu Z17 2 0 0 (3560 + 6 * (Z17 2 0 0 3501)) a1) (fun Z20 => (zlet (zu Z20 2 0 0 (3561 + 6 * (Z17 2 0 0 3501)) (Z20 2 0 0 0)) (fun Z22 => (zlet (zu Z22 2 0 0 (3562 + 6 * (Z17 2 0 0 3501)) a2) (fun Z23 => (zlet (zu Z23 2 0 0 (3563 + 6 * (Z17 2 0 0 3501)) a3) (fun Z24 => (zlet (zu Z24 2 0 0 (3564 + 6 * (Z17 2 0 0 3501)) a4) (fun Z25 => (zlet (zu Z25 2 0 0 (3565 + 6 * (Z17 2 0 0 3501)) a5) (fun Z26 => (zlet (zu Z26 2 0 0 3501 ((Z26 2 0 0 3501) + 1)) (fun Z29 => Z29)))))))))))))))))))
theorem sp_363 {s : zSM} {Z : qz_Z} {ν : qz_N} (hZ : zM s Z) {a1 : Int} (ga1 : 0 ≤ a1 ∧ a1 ≤ 1) {a2 : Int} (ga2 : 0 ≤ a2 ∧ a2 ≤ 47) {a3 : Int} (ga3 : 0 ≤ a3 ∧ a3 ≤ 2) {a4 : Int} (ga4 : 0 ≤ a4 ∧ a4 ≤ 9) {a5 : Int} (ga5 : -1 ≤ a5 ∧ a5 ≤ 3) (hM : s.2 + 0 ≤ 1000000000) : ∃ P : qz_Z, P = zf_363 Z a1 a2 a3 a4 a5 ∧ (qf_363 [.inr (.inr (some (1, 0, 0))), .inl (i3 a1), .inl (i3 a2), .inl (i3 a3), .inl (i3 a4), .inl (i3 a5)] (zm Z ν) = some (zm P ν, .inl none) ∧ zM s P ∧ zC [2] Z P ∧ zU [] Z P) := by
  obtain ⟨P, hP⟩ := zx (zf_363 Z a1 a2 a3 a4 a5)
  refine zc_V (Q := fun P => zM s P ∧ zC [2] Z P ∧ zU [] Z P) hP (fw_363 (i3 a1) (i3 a2) (i3 a3) (i3 a4) (i3 a5) _ _ ?_)
  replace hP : zE P (zf_363 Z a1 a2 a3 a4 a5) := hP
  unfold zf_363 at hP
  have r1 := zM_k hZ 2 0 0 3501 (lo := 0) (hi := 24) (by decide) rfl
  refine wz_br (i3NE (zm_rd (Z := Z) (ν := ν) (k := 2) (show ((0 : Nat) : Int) = 0 from rfl) (show ((0 : Nat) : Int) = 0 from rfl) (show ((3501 : Nat) : Int) = 3501 from rfl)) (show (24 : Int32) = i3 24 from rfl) (by omega) (by omega) (by omega) (by omega)) (fun h2 => ?_) (fun h2 => ?_)
  · replace hP := zE_p hP h2
    refine fc_363_3 (i3 a1) (i3 a2) (i3 a3) (i3 a4) (i3 a5) _ _ _ _ (zconso rfl (zconso (zvo (rfl : i3 a1 = i3 a1)) (zconso (zvo (rfl : i3 a2 = i3 a2)) (zconso (zvo (rfl : i3 a3 = i3 a3)) (zconso (zvo (rfl : i3 a4 = i3 a4)) (zconso (zvo (rfl : i3 a5 = i3 a5)) (zconso rfl rfl))))))) ?_
    refine wz_i0 (i3O (n := 4400) (i3A (show (3560 : Int32) = i3 3560 from rfl) (i3M (show (6 : Int32) = i3 6 from rfl) (zm_rd (Z := Z) (ν := ν) (k := 2) (show ((0 : Nat) : Int) = 0 from rfl) (show ((0 : Nat) : Int) = 0 from rfl) (show ((3501 : Nat) : Int) = 3501 from rfl)))) (by omega) (by omega) (by omega)) ?_
    obtain ⟨Z3, hZ3⟩ := zx (zu Z 2 0 0 (3560 + 6 * (Z 2 0 0 3501)) a1)
    replace hP := zl_e hP hZ3
    have hZ3I := zM_u2 hZ hZ3 (lo := 0) (hi := 1) (zs_3560_0 (x := (Z 2 0 0 3501)) (by omega) (by omega) (by omega)) (by omega) ⟨by decide, by decide⟩ (by simp only [zsp]; omega)
    have hZ3U : zU [] Z Z3 := zU_u zU_r hZ3 (Or.inl rfl)
    have hZ3K : zC [2] Z Z3 := zC_u zC_r hZ3 (zcl_2w (by omega) rfl)
    intro μ9 e9
    replace e9 := e9.trans (zm_wI (Z := Z) (ν := ν) hZ3 (show ((0 : Nat) : Int) = 0 from rfl) (show ((0 : Nat) : Int) = 0 from rfl) (i3I (y := (3560 + 6 * (Z 2 0 0 3501))) (i3A (show (3560 : Int32) = i3 3560 from rfl) (i3M (show (6 : Int32) = i3 6 from rfl) (zm_rd (Z := Z) (ν := ν) (k := 2) (show ((0 : Nat) : Int) = 0 from rfl) (show ((0 : Nat) : Int) = 0 from rfl) (show ((3501 : Nat) : Int) = 3501 from rfl)))) (by omega) (by omega) (by omega)) (rfl : i3 a1 = i3 a1))
    subst e9
    refine wz_i0 (i3O (n := 4400) (i3A (i3A (show (3560 : Int32) = i3 3560 from rfl) (i3M (show (6 : Int32) = i3 6 from rfl) (zm_rd (Z := Z) (ν := ν) (k := 2) (show ((0 : Nat) : Int) = 0 from rfl) (show ((0 : Nat) : Int) = 0 from rfl) (show ((3501 : Nat) : Int) = 3501 from rfl)))) (show (1 : Int32) = i3 1 from rfl)) (by omega) (by omega) (by omega)) ?_
    have r4 := zM_k hZ3I 2 0 0 0 (lo := 0) (hi := 671) (by decide) rfl
    obtain ⟨Z5, hZ5⟩ := zx (zu Z3 2 0 0 (3561 + 6 * (Z 2 0 0 3501)) (Z3 2 0 0 0))
    replace hP := zl_e hP hZ5
    have hZ5I := zM_u2 hZ3I hZ5 (lo := 0) (hi := 671) (zs_3560_1 (x := (Z 2 0 0 3501)) (by omega) (by omega) (by omega)) (by omega) ⟨by decide, by decide⟩ (by simp only [zsp]; omega)
    have hZ5U : zU [] Z Z5 := zU_u hZ3U hZ5 (Or.inl rfl)
    have hZ5K : zC [2] Z Z5 := zC_u hZ3K hZ5 (zcl_2w (by omega) rfl)
    intro μ9 e9
    replace e9 := e9.trans (zm_wI (Z := Z3) (ν := ν) hZ5 (show ((0 : Nat) : Int) = 0 from rfl) (show ((0 : Nat) : Int) = 0 from rfl) (i3I (y := (3561 + 6 * (Z 2 0 0 3501))) (i3A (i3A (show (3560 : Int32) = i3 3560 from rfl) (i3M (show (6 : Int32) = i3 6 from rfl) (zm_rd (Z := Z) (ν := ν) (k := 2) (show ((0 : Nat) : Int) = 0 from rfl) (show ((0 : Nat) : Int) = 0 from rfl) (show ((3501 : Nat) : Int) = 3501 from rfl)))) (show (1 : Int32) = i3 1 from rfl)) (by omega) (by omega) (by omega)) (zm_rd (Z := Z3) (ν := ν) (k := 2) (show ((0 : Nat) : Int) = 0 from rfl) (show ((0 : Nat) : Int) = 0 from rfl) (show ((0 : Nat) : Int) = 0 from rfl)))
    subst e9
    refine wz_i0 (i3O (n := 4400) (i3A (i3A (show (3560 : Int32) = i3 3560 from rfl) (i3M (show (6 : Int32) = i3 6 from rfl) (zm_rd (Z := Z) (ν := ν) (k := 2) (show ((0 : Nat) : Int) = 0 from rfl) (show ((0 : Nat) : Int) = 0 from rfl) (show ((3501 : Nat) : Int) = 3501 from rfl)))) (show (2 : Int32) = i3 2 from rfl)) (by omega) (by omega) (by omega)) ?_
    obtain ⟨Z6, hZ6⟩ := zx (zu Z5 2 0 0 (3562 + 6 * (Z 2 0 0 3501)) a2)
    replace hP := zl_e hP hZ6
    have hZ6I := zM_u2 hZ5I hZ6 (lo := 0) (hi := 47) (zs_3560_2 (x := (Z 2 0 0 3501)) (by omega) (by omega) (by omega)) (by omega) ⟨by decide, by decide⟩ (by simp only [zsp]; omega)
    have hZ6U : zU [] Z Z6 := zU_u hZ5U hZ6 (Or.inl rfl)
    have hZ6K : zC [2] Z Z6 := zC_u hZ5K hZ6 (zcl_2w (by omega) rfl)
    intro μ9 e9
    replace e9 := e9.trans (zm_wI (Z := Z5) (ν := ν) hZ6 (show ((0 : Nat) : Int) = 0 from rfl) (show ((0 : Nat) : Int) = 0 from rfl) (i3I (y := (3562 + 6 * (Z 2 0 0 3501))) (i3A (i3A (show (3560 : Int32) = i3 3560 from rfl) (i3M (show (6 : Int32) = i3 6 from rfl) (zm_rd (Z := Z) (ν := ν) (k := 2) (show ((0 : Nat) : Int) = 0 from rfl) (show ((0 : Nat) : Int) = 0 from rfl) (show ((3501 : Nat) : Int) = 3501 from rfl)))) (show (2 : Int32) = i3 2 from rfl)) (by omega) (by omega) (by omega)) (rfl : i3 a2 = i3 a2))
    subst e9
    refine wz_i0 (i3O (n := 4400) (i3A (i3A (show (3560 : Int32) = i3 3560 from rfl) (i3M (show (6 : Int32) = i3 6 from rfl) (zm_rd (Z := Z) (ν := ν) (k := 2) (show ((0 : Nat) : Int) = 0 from rfl) (show ((0 : Nat) : Int) = 0 from rfl) (show ((3501 : Nat) : Int) = 3501 from rfl)))) (show (3 : Int32) = i3 3 from rfl)) (by omega) (by omega) (by omega)) ?_
    obtain ⟨Z7, hZ7⟩ := zx (zu Z6 2 0 0 (3563 + 6 * (Z 2 0 0 3501)) a3)
    replace hP := zl_e hP hZ7
    have hZ7I := zM_u2 hZ6I hZ7 (lo := 0) (hi := 2) (zs_3560_3 (x := (Z 2 0 0 3501)) (by omega) (by omega) (by omega)) (by omega) ⟨by decide, by decide⟩ (by simp only [zsp]; omega)
    have hZ7U : zU [] Z Z7 := zU_u hZ6U hZ7 (Or.inl rfl)
    have hZ7K : zC [2] Z Z7 := zC_u hZ6K hZ7 (zcl_2w (by omega) rfl)
    intro μ9 e9
    replace e9 := e9.trans (zm_wI (Z := Z6) (ν := ν) hZ7 (show ((0 : Nat) : Int) = 0 from rfl) (show ((0 : Nat) : Int) = 0 from rfl) (i3I (y := (3563 + 6 * (Z 2 0 0 3501))) (i3A (i3A (show (3560 : Int32) = i3 3560 from rfl) (i3M (show (6 : Int32) = i3 6 from rfl) (zm_rd (Z := Z) (ν := ν) (k := 2) (show ((0 : Nat) : Int) = 0 from rfl) (show ((0 : Nat) : Int) = 0 from rfl) (show ((3501 : Nat) : Int) = 3501 from rfl)))) (show (3 : Int32) = i3 3 from rfl)) (by omega) (by omega) (by omega)) (rfl : i3 a3 = i3 a3))
    subst e9
    refine wz_i0 (i3O (n := 4400) (i3A (i3A (show (3560 : Int32) = i3 3560 from rfl) (i3M (show (6 : Int32) = i3 6 from rfl) (zm_rd (Z := Z) (ν := ν) (k := 2) (show ((0 : Nat) : Int) = 0 from rfl) (show ((0 : Nat) : Int) = 0 from rfl) (show ((3501 : Nat) : Int) = 3501 from rfl)))) (show (4 : Int32) = i3 4 from rfl)) (by omega) (by omega) (by omega)) ?_
    obtain ⟨Z8, hZ8⟩ := zx (zu Z7 2 0 0 (3564 + 6 * (Z 2 0 0 3501)) a4)
    replace hP := zl_e hP hZ8
    have hZ8I := zM_u2 hZ7I hZ8 (lo := 0) (hi := 9) (zs_3560_4 (x := (Z 2 0 0 3501)) (by omega) (by omega) (by omega)) (by omega) ⟨by decide, by decide⟩ (by simp only [zsp]; omega)
    have hZ8U : zU [] Z Z8 := zU_u hZ7U hZ8 (Or.inl rfl)
    have hZ8K : zC [2] Z Z8 := zC_u hZ7K hZ8 (zcl_2w (by omega) rfl)
    intro μ9 e9
    replace e9 := e9.trans (zm_wI (Z := Z7) (ν := ν) hZ8 (show ((0 : Nat) : Int) = 0 from rfl) (show ((0 : Nat) : Int) = 0 from rfl) (i3I (y := (3564 + 6 * (Z 2 0 0 3501))) (i3A (i3A (show (3560 : Int32) = i3 3560 from rfl) (i3M (show (6 : Int32) = i3 6 from rfl) (zm_rd (Z := Z) (ν := ν) (k := 2) (show ((0 : Nat) : Int) = 0 from rfl) (show ((0 : Nat) : Int) = 0 from rfl) (show ((3501 : Nat) : Int) = 3501 from rfl)))) (show (4 : Int32) = i3 4 from rfl)) (by omega) (by omega) (by omega)) (rfl : i3 a4 = i3 a4))
    subst e9
    refine wz_i0 (i3O (n := 4400) (i3A (i3A (show (3560 : Int32) = i3 3560 from rfl) (i3M (show (6 : Int32) = i3 6 from rfl) (zm_rd (Z := Z) (ν := ν) (k := 2) (show ((0 : Nat) : Int) = 0 from rfl) (show ((0 : Nat) : Int) = 0 from rfl) (show ((3501 : Nat) : Int) = 3501 from rfl)))) (show (5 : Int32) = i3 5 from rfl)) (by omega) (by omega) (by omega)) ?_
    obtain ⟨Z9, hZ9⟩ := zx (zu Z8 2 0 0 (3565 + 6 * (Z 2 0 0 3501)) a5)
    replace hP := zl_e hP hZ9
    have hZ9I := zM_u2 hZ8I hZ9 (lo := -1) (hi := 3) (zs_3560_5 (x := (Z 2 0 0 3501)) (by omega) (by omega) (by omega)) (by omega) ⟨by decide, by decide⟩ (by simp only [zsp]; omega)
    have hZ9U : zU [] Z Z9 := zU_u hZ8U hZ9 (Or.inl rfl)
    have hZ9K : zC [2] Z Z9 := zC_u hZ8K hZ9 (zcl_2w (by omega) rfl)
    intro μ9 e9
    replace e9 := e9.trans (zm_wI (Z := Z8) (ν := ν) hZ9 (show ((0 : Nat) : Int) = 0 from rfl) (show ((0 : Nat) : Int) = 0 from rfl) (i3I (y := (3565 + 6 * (Z 2 0 0 3501))) (i3A (i3A (show (3560 : Int32) = i3 3560 from rfl) (i3M (show (6 : Int32) = i3 6 from rfl) (zm_rd (Z := Z) (ν := ν) (k := 2) (show ((0 : Nat) : Int) = 0 from rfl) (show ((0 : Nat) : Int) = 0 from rfl) (show ((3501 : Nat) : Int) = 3501 from rfl)))) (show (5 : Int32) = i3 5 from rfl)) (by omega) (by omega) (by omega)) (rfl : i3 a5 = i3 a5))
    subst e9
    have r10 := zM_k hZ9I 2 0 0 3501 (lo := 0) (hi := 24) (by decide) rfl
    have q11 := (zu_ne (k' := 2) (b' := 0) (i' := 0) (j' := 3501) hZ9 (fun q => absurd q.2.2.2 (by omega))).trans ((zu_ne (k' := 2) (b' := 0) (i' := 0) (j' := 3501) hZ8 (fun q => absurd q.2.2.2 (by omega))).trans ((zu_ne (k' := 2) (b' := 0) (i' := 0) (j' := 3501) hZ7 (fun q => absurd q.2.2.2 (by omega))).trans ((zu_ne (k' := 2) (b' := 0) (i' := 0) (j' := 3501) hZ6 (fun q => absurd q.2.2.2 (by omega))).trans ((zu_ne (k' := 2) (b' := 0) (i' := 0) (j' := 3501) hZ5 (fun q => absurd q.2.2.2 (by omega))).trans (zu_ne (k' := 2) (b' := 0) (i' := 0) (j' := 3501) hZ3 (fun q => absurd q.2.2.2 (by omega)))))))
    obtain ⟨Z12, hZ12⟩ := zx (zu Z9 2 0 0 3501 ((Z9 2 0 0 3501) + 1))
    replace hP := zl_e hP hZ12
    have hZ12I := zM_u2 hZ9I hZ12 (lo := 0) (hi := 24) rfl (by omega) ⟨by decide, by decide⟩ (by simp only [zsp]; omega)
    have hZ12U : zU [] Z Z12 := zU_u hZ9U hZ12 (Or.inl rfl)
    have hZ12K : zC [2] Z Z12 := zC_u hZ9K hZ12 (by decide)
    intro μ9 e9
    replace e9 := e9.trans (zm_wI (Z := Z9) (ν := ν) hZ12 (show ((0 : Nat) : Int) = 0 from rfl) (show ((0 : Nat) : Int) = 0 from rfl) (show ((3501 : Nat) : Int) = 3501 from rfl) (i3A (zm_rd (Z := Z9) (ν := ν) (k := 2) (show ((0 : Nat) : Int) = 0 from rfl) (show ((0 : Nat) : Int) = 0 from rfl) (show ((3501 : Nat) : Int) = 3501 from rfl)) (show (1 : Int32) = i3 1 from rfl)))
    subst e9
    exact zlV hP ⟨hZ12I, hZ12K, hZ12U⟩
  · replace hP := zE_n hP h2
    refine sl_363_1 (ν := ν) hZ (zbh (c := 0) (k := 0) hM (Nat.le_of_ble_eq_true rfl)) zC_r (x1 := a1) (by omega) (x2 := a2) (by omega) (x3 := a3) (by omega) (x4 := a4) (by omega) (x5 := a5) (by omega) (x6 := 0) (by omega) zU_r (by omega) (zconso rfl (zconso (zvo (rfl : i3 a1 = i3 a1)) (zconso (zvo (rfl : i3 a2 = i3 a2)) (zconso (zvo (rfl : i3 a3 = i3 a3)) (zconso (zvo (rfl : i3 a4 = i3 a4)) (zconso (zvo (rfl : i3 a5 = i3 a5)) (zconso (zvo (show (0 : Int32) = i3 0 from rfl)) rfl))))))) rfl ?_
    intro L15 Z14 y13 hL15 hZ14I kZ14 jZ14 gy13 gL15_0 q9
    replace hP := zl_e2 hP (Eq.symm q9)
    clear q9
    have hZ14U : zU [] Z Z14 := zU_t zU_r jZ14 zU_b0
    have hZ14K : zC [2] Z Z14 := zC_t zC_r kZ14 (by decide)
    have r16 := zM_k hZ14I 2 0 0 3501 (lo := 0) (hi := 24) (by decide) rfl
    refine fc_363_2 (i3 a1) (i3 a2) (i3 a3) (i3 a4) (i3 a5) _ _ _ _ hL15 ?_
    obtain ⟨Z17, hZ17⟩ := zx (zu Z14 2 0 0 3501 ((Z14 2 0 0 3501) - 1))
    replace hP := zl_e hP hZ17
    have hZ17I := zM_u2 hZ14I hZ17 (lo := 0) (hi := 24) rfl (by omega) ⟨by decide, by decide⟩ (by simp only [zsp]; omega)
    have hZ17U : zU [] Z Z17 := zU_u hZ14U hZ17 (Or.inl rfl)
    have hZ17K : zC [2] Z Z17 := zC_u hZ14K hZ17 (by decide)
    intro μ9 e9
    replace e9 := e9.trans (zm_wI (Z := Z14) (ν := ν) hZ17 (show ((0 : Nat) : Int) = 0 from rfl) (show ((0 : Nat) : Int) = 0 from rfl) (show ((3501 : Nat) : Int) = 3501 from rfl) (i3S (zm_rd (Z := Z14) (ν := ν) (k := 2) (show ((0 : Nat) : Int) = 0 from rfl) (show ((0 : Nat) : Int) = 0 from rfl) (show ((3501 : Nat) : Int) = 3501 from rfl)) (show (1 : Int32) = i3 1 from rfl)))
    subst e9
    refine wz_kb0 (wz_sk0 ?_)
    refine fc_363_3 (i3 a1) (i3 a2) (i3 a3) (i3 a4) (i3 a5) _ _ _ _ (zconso rfl (zconso (zvo (rfl : i3 a1 = i3 a1)) (zconso (zvo (rfl : i3 a2 = i3 a2)) (zconso (zvo (rfl : i3 a3 = i3 a3)) (zconso (zvo (rfl : i3 a4 = i3 a4)) (zconso (zvo (rfl : i3 a5 = i3 a5)) (zconso rfl rfl))))))) ?_
    have r18 := zM_k hZ17I 2 0 0 3501 (lo := 0) (hi := 24) (by decide) rfl
    have q19 := zu_at hZ17
    refine wz_i0 (i3O (n := 4400) (i3A (show (3560 : Int32) = i3 3560 from rfl) (i3M (show (6 : Int32) = i3 6 from rfl) (zm_rd (Z := Z17) (ν := ν) (k := 2) (show ((0 : Nat) : Int) = 0 from rfl) (show ((0 : Nat) : Int) = 0 from rfl) (show ((3501 : Nat) : Int) = 3501 from rfl)))) (by omega) (by omega) (by omega)) ?_
    obtain ⟨Z20, hZ20⟩ := zx (zu Z17 2 0 0 (3560 + 6 * (Z17 2 0 0 3501)) a1)
    replace hP := zl_e hP hZ20
    have hZ20I := zM_u2 hZ17I hZ20 (lo := 0) (hi := 1) (zs_3560_0 (x := (Z17 2 0 0 3501)) (by omega) (by omega) (by omega)) (by omega) ⟨by decide, by decide⟩ (by simp only [zsp]; omega)
    have hZ20U : zU [] Z Z20 := zU_u hZ17U hZ20 (Or.inl rfl)
    have hZ20K : zC [2] Z Z20 := zC_u hZ17K hZ20 (zcl_2w (by omega) rfl)
    intro μ9 e9
    replace e9 := e9.trans (zm_wI (Z := Z17) (ν := ν) hZ20 (show ((0 : Nat) : Int) = 0 from rfl) (show ((0 : Nat) : Int) = 0 from rfl) (i3I (y := (3560 + 6 * (Z17 2 0 0 3501))) (i3A (show (3560 : Int32) = i3 3560 from rfl) (i3M (show (6 : Int32) = i3 6 from rfl) (zm_rd (Z := Z17) (ν := ν) (k := 2) (show ((0 : Nat) : Int) = 0 from rfl) (show ((0 : Nat) : Int) = 0 from rfl) (show ((3501 : Nat) : Int) = 3501 from rfl)))) (by omega) (by omega) (by omega)) (rfl : i3 a1 = i3 a1))
    subst e9
    refine wz_i0 (i3O (n := 4400) (i3A (i3A (show (3560 : Int32) = i3 3560 from rfl) (i3M (show (6 : Int32) = i3 6 from rfl) (zm_rd (Z := Z17) (ν := ν) (k := 2) (show ((0 : Nat) : Int) = 0 from rfl) (show ((0 : Nat) : Int) = 0 from rfl) (show ((3501 : Nat) : Int) = 3501 from rfl)))) (show (1 : Int32) = i3 1 from rfl)) (by omega) (by omega) (by omega)) ?_
    have r21 := zM_k hZ20I 2 0 0 0 (lo := 0) (hi := 671) (by decide) rfl
    obtain ⟨Z22, hZ22⟩ := zx (zu Z20 2 0 0 (3561 + 6 * (Z17 2 0 0 3501)) (Z20 2 0 0 0))
    replace hP := zl_e hP hZ22
    have hZ22I := zM_u2 hZ20I hZ22 (lo := 0) (hi := 671) (zs_3560_1 (x := (Z17 2 0 0 3501)) (by omega) (by omega) (by omega)) (by omega) ⟨by decide, by decide⟩ (by simp only [zsp]; omega)
    have hZ22U : zU [] Z Z22 := zU_u hZ20U hZ22 (Or.inl rfl)
    have hZ22K : zC [2] Z Z22 := zC_u hZ20K hZ22 (zcl_2w (by omega) rfl)
    intro μ9 e9
    replace e9 := e9.trans (zm_wI (Z := Z20) (ν := ν) hZ22 (show ((0 : Nat) : Int) = 0 from rfl) (show ((0 : Nat) : Int) = 0 from rfl) (i3I (y := (3561 + 6 * (Z17 2 0 0 3501))) (i3A (i3A (show (3560 : Int32) = i3 3560 from rfl) (i3M (show (6 : Int32) = i3 6 from rfl) (zm_rd (Z := Z17) (ν := ν) (k := 2) (show ((0 : Nat) : Int) = 0 from rfl) (show ((0 : Nat) : Int) = 0 from rfl) (show ((3501 : Nat) : Int) = 3501 from rfl)))) (show (1 : Int32) = i3 1 from rfl)) (by omega) (by omega) (by omega)) (zm_rd (Z := Z20) (ν := ν) (k := 2) (show ((0 : Nat) : Int) = 0 from rfl) (show ((0 : Nat) : Int) = 0 from rfl) (show ((0 : Nat) : Int) = 0 from rfl)))
    subst e9
    refine wz_i0 (i3O (n := 4400) (i3A (i3A (show (3560 : Int32) = i3 3560 from rfl) (i3M (show (6 : Int32) = i3 6 from rfl) (zm_rd (Z := Z17) (ν := ν) (k := 2) (show ((0 : Nat) : Int) = 0 from rfl) (show ((0 : Nat) : Int) = 0 from rfl) (show ((3501 : Nat) : Int) = 3501 from rfl)))) (show (2 : Int32) = i3 2 from rfl)) (by omega) (by omega) (by omega)) ?_
    obtain ⟨Z23, hZ23⟩ := zx (zu Z22 2 0 0 (3562 + 6 * (Z17 2 0 0 3501)) a2)
    replace hP := zl_e hP hZ23
    have hZ23I := zM_u2 hZ22I hZ23 (lo := 0) (hi := 47) (zs_3560_2 (x := (Z17 2 0 0 3501)) (by omega) (by omega) (by omega)) (by omega) ⟨by decide, by decide⟩ (by simp only [zsp]; omega)
    have hZ23U : zU [] Z Z23 := zU_u hZ22U hZ23 (Or.inl rfl)
    have hZ23K : zC [2] Z Z23 := zC_u hZ22K hZ23 (zcl_2w (by omega) rfl)
    intro μ9 e9
    replace e9 := e9.trans (zm_wI (Z := Z22) (ν := ν) hZ23 (show ((0 : Nat) : Int) = 0 from rfl) (show ((0 : Nat) : Int) = 0 from rfl) (i3I (y := (3562 + 6 * (Z17 2 0 0 3501))) (i3A (i3A (show (3560 : Int32) = i3 3560 from rfl) (i3M (show (6 : Int32) = i3 6 from rfl) (zm_rd (Z := Z17) (ν := ν) (k := 2) (show ((0 : Nat) : Int) = 0 from rfl) (show ((0 : Nat) : Int) = 0 from rfl) (show ((3501 : Nat) : Int) = 3501 from rfl)))) (show (2 : Int32) = i3 2 from rfl)) (by omega) (by omega) (by omega)) (rfl : i3 a2 = i3 a2))
    subst e9
    refine wz_i0 (i3O (n := 4400) (i3A (i3A (show (3560 : Int32) = i3 3560 from rfl) (i3M (show (6 : Int32) = i3 6 from rfl) (zm_rd (Z := Z17) (ν := ν) (k := 2) (show ((0 : Nat) : Int) = 0 from rfl) (show ((0 : Nat) : Int) = 0 from rfl) (show ((3501 : Nat) : Int) = 3501 from rfl)))) (show (3 : Int32) = i3 3 from rfl)) (by omega) (by omega) (by omega)) ?_
    obtain ⟨Z24, hZ24⟩ := zx (zu Z23 2 0 0 (3563 + 6 * (Z17 2 0 0 3501)) a3)
    replace hP := zl_e hP hZ24
    have hZ24I := zM_u2 hZ23I hZ24 (lo := 0) (hi := 2) (zs_3560_3 (x := (Z17 2 0 0 3501)) (by omega) (by omega) (by omega)) (by omega) ⟨by decide, by decide⟩ (by simp only [zsp]; omega)
    have hZ24U : zU [] Z Z24 := zU_u hZ23U hZ24 (Or.inl rfl)
    have hZ24K : zC [2] Z Z24 := zC_u hZ23K hZ24 (zcl_2w (by omega) rfl)
    intro μ9 e9
    replace e9 := e9.trans (zm_wI (Z := Z23) (ν := ν) hZ24 (show ((0 : Nat) : Int) = 0 from rfl) (show ((0 : Nat) : Int) = 0 from rfl) (i3I (y := (3563 + 6 * (Z17 2 0 0 3501))) (i3A (i3A (show (3560 : Int32) = i3 3560 from rfl) (i3M (show (6 : Int32) = i3 6 from rfl) (zm_rd (Z := Z17) (ν := ν) (k := 2) (show ((0 : Nat) : Int) = 0 from rfl) (show ((0 : Nat) : Int) = 0 from rfl) (show ((3501 : Nat) : Int) = 3501 from rfl)))) (show (3 : Int32) = i3 3 from rfl)) (by omega) (by omega) (by omega)) (rfl : i3 a3 = i3 a3))
    subst e9
    refine wz_i0 (i3O (n := 4400) (i3A (i3A (show (3560 : Int32) = i3 3560 from rfl) (i3M (show (6 : Int32) = i3 6 from rfl) (zm_rd (Z := Z17) (ν := ν) (k := 2) (show ((0 : Nat) : Int) = 0 from rfl) (show ((0 : Nat) : Int) = 0 from rfl) (show ((3501 : Nat) : Int) = 3501 from rfl)))) (show (4 : Int32) = i3 4 from rfl)) (by omega) (by omega) (by omega)) ?_
    obtain ⟨Z25, hZ25⟩ := zx (zu Z24 2 0 0 (3564 + 6 * (Z17 2 0 0 3501)) a4)
    replace hP := zl_e hP hZ25
    have hZ25I := zM_u2 hZ24I hZ25 (lo := 0) (hi := 9) (zs_3560_4 (x := (Z17 2 0 0 3501)) (by omega) (by omega) (by omega)) (by omega) ⟨by decide, by decide⟩ (by simp only [zsp]; omega)
    have hZ25U : zU [] Z Z25 := zU_u hZ24U hZ25 (Or.inl rfl)
    have hZ25K : zC [2] Z Z25 := zC_u hZ24K hZ25 (zcl_2w (by omega) rfl)
    intro μ9 e9
    replace e9 := e9.trans (zm_wI (Z := Z24) (ν := ν) hZ25 (show ((0 : Nat) : Int) = 0 from rfl) (show ((0 : Nat) : Int) = 0 from rfl) (i3I (y := (3564 + 6 * (Z17 2 0 0 3501))) (i3A (i3A (show (3560 : Int32) = i3 3560 from rfl) (i3M (show (6 : Int32) = i3 6 from rfl) (zm_rd (Z := Z17) (ν := ν) (k := 2) (show ((0 : Nat) : Int) = 0 from rfl) (show ((0 : Nat) : Int) = 0 from rfl) (show ((3501 : Nat) : Int) = 3501 from rfl)))) (show (4 : Int32) = i3 4 from rfl)) (by omega) (by omega) (by omega)) (rfl : i3 a4 = i3 a4))
    subst e9
    refine wz_i0 (i3O (n := 4400) (i3A (i3A (show (3560 : Int32) = i3 3560 from rfl) (i3M (show (6 : Int32) = i3 6 from rfl) (zm_rd (Z := Z17) (ν := ν) (k := 2) (show ((0 : Nat) : Int) = 0 from rfl) (show ((0 : Nat) : Int) = 0 from rfl) (show ((3501 : Nat) : Int) = 3501 from rfl)))) (show (5 : Int32) = i3 5 from rfl)) (by omega) (by omega) (by omega)) ?_
    obtain ⟨Z26, hZ26⟩ := zx (zu Z25 2 0 0 (3565 + 6 * (Z17 2 0 0 3501)) a5)
    replace hP := zl_e hP hZ26
    have hZ26I := zM_u2 hZ25I hZ26 (lo := -1) (hi := 3) (zs_3560_5 (x := (Z17 2 0 0 3501)) (by omega) (by omega) (by omega)) (by omega) ⟨by decide, by decide⟩ (by simp only [zsp]; omega)
    have hZ26U : zU [] Z Z26 := zU_u hZ25U hZ26 (Or.inl rfl)
    have hZ26K : zC [2] Z Z26 := zC_u hZ25K hZ26 (zcl_2w (by omega) rfl)
    intro μ9 e9
    replace e9 := e9.trans (zm_wI (Z := Z25) (ν := ν) hZ26 (show ((0 : Nat) : Int) = 0 from rfl) (show ((0 : Nat) : Int) = 0 from rfl) (i3I (y := (3565 + 6 * (Z17 2 0 0 3501))) (i3A (i3A (show (3560 : Int32) = i3 3560 from rfl) (i3M (show (6 : Int32) = i3 6 from rfl) (zm_rd (Z := Z17) (ν := ν) (k := 2) (show ((0 : Nat) : Int) = 0 from rfl) (show ((0 : Nat) : Int) = 0 from rfl) (show ((3501 : Nat) : Int) = 3501 from rfl)))) (show (5 : Int32) = i3 5 from rfl)) (by omega) (by omega) (by omega)) (rfl : i3 a5 = i3 a5))
    subst e9
    have r27 := zM_k hZ26I 2 0 0 3501 (lo := 0) (hi := 24) (by decide) rfl
    have q28 := (zu_ne (k' := 2) (b' := 0) (i' := 0) (j' := 3501) hZ26 (fun q => absurd q.2.2.2 (by omega))).trans ((zu_ne (k' := 2) (b' := 0) (i' := 0) (j' := 3501) hZ25 (fun q => absurd q.2.2.2 (by omega))).trans ((zu_ne (k' := 2) (b' := 0) (i' := 0) (j' := 3501) hZ24 (fun q => absurd q.2.2.2 (by omega))).trans ((zu_ne (k' := 2) (b' := 0) (i' := 0) (j' := 3501) hZ23 (fun q => absurd q.2.2.2 (by omega))).trans ((zu_ne (k' := 2) (b' := 0) (i' := 0) (j' := 3501) hZ22 (fun q => absurd q.2.2.2 (by omega))).trans (zu_ne (k' := 2) (b' := 0) (i' := 0) (j' := 3501) hZ20 (fun q => absurd q.2.2.2 (by omega)))))))
    obtain ⟨Z29, hZ29⟩ := zx (zu Z26 2 0 0 3501 ((Z26 2 0 0 3501) + 1))
    replace hP := zl_e hP hZ29
    have hZ29I := zM_u2 hZ26I hZ29 (lo := 0) (hi := 24) rfl (by omega) ⟨by decide, by decide⟩ (by simp only [zsp]; omega)
    have hZ29U : zU [] Z Z29 := zU_u hZ26U hZ29 (Or.inl rfl)
    have hZ29K : zC [2] Z Z29 := zC_u hZ26K hZ29 (by decide)
    intro μ9 e9
    replace e9 := e9.trans (zm_wI (Z := Z26) (ν := ν) hZ29 (show ((0 : Nat) : Int) = 0 from rfl) (show ((0 : Nat) : Int) = 0 from rfl) (show ((3501 : Nat) : Int) = 3501 from rfl) (i3A (zm_rd (Z := Z26) (ν := ν) (k := 2) (show ((0 : Nat) : Int) = 0 from rfl) (show ((0 : Nat) : Int) = 0 from rfl) (show ((3501 : Nat) : Int) = 3501 from rfl)) (show (1 : Int32) = i3 1 from rfl)))
    subst e9
    exact zlV hP ⟨hZ29I, hZ29K, hZ29U⟩
/- yX12_iFinds -/
def zf_357 (Z : qz_Z) (a1 : Int) (a2 : Int) (a3 : Int) (a4 : Int) : qz_Z := (if a3 ≠ 0 then (if a3 ≠ 1 then (zlet (zf_326 Z a2) (fun v3 => (zlet (zu Z 2 0 0 (209 + 20 * a2) v3) (fun Z4 => (zlet (zu Z4 2 0 0 (3525 + 10 * a1) (w3 ((Z4 2 0 0 (3525 + 10 * a1)) + 1))) (fun Z7 => (zlet (zf_363 Z7 a1 a2 a3 a4 (Z 2 0 0 (209 + 20 * a2))) (fun Z9 => (zlet (zf_403 Z9 0 7 (Z9 2 0 0 3813) a2) (fun Z11 => Z11)))))))))) else (zlet (zu Z 2 0 0 (209 + 20 * a2) 3) (fun Z12 => (zlet (zu Z12 2 0 0 (3525 + 10 * a1) (w3 ((Z12 2 0 0 (3525 + 10 * a1)) + 1))) (fun Z15 => (zlet (zf_363 Z15 a1 a2 a3 a4 (Z 2 0 0 (209 + 20 * a2))) (fun Z17 => (zlet (zf_403 Z17 0 7 (Z17 2 0 0 3813) a2) (fun Z19 => Z19))))))))) else (zlet (zf_431 Z a2 3) (fun Z20 => (zlet (zu Z20 2 0 0 (3526 + 10 * a1) (w3 ((Z20 2 0 0 (3526 + 10 * a1)) + 1))) (fun Z23 => (zlet (zu Z23 2 0 0 (3525 + 10 * a1) (w3 ((Z23 2 0 0 (3525 + 10 * a1)) + 1))) (fun Z26 => (zlet (zf_363 Z26 a1 a2 a3 a4 (Z 2 0 0 (209 + 20 * a2))) (fun Z28 => (zlet (zf_403 Z28 0 7 (Z28 2 0 0 3813) a2) (fun Z30 => Z30)))))))))))
theorem sp_357 {s : zSM} {Z : qz_Z} {ν : qz_N} (hZ : zM s Z) {a1 : Int} (ga1 : 0 ≤ a1 ∧ a1 ≤ 1) {a2 : Int} (ga2 : 0 ≤ a2 ∧ a2 ≤ 47) {a3 : Int} (ga3 : 0 ≤ a3 ∧ a3 ≤ 2) {a4 : Int} (ga4 : 0 ≤ a4 ∧ a4 ≤ 9) (hM : s.2 + 124 ≤ 1000000000) : ∃ P : qz_Z, P = zf_357 Z a1 a2 a3 a4 ∧ (qf_357 [.inr (.inr (some (1, 0, 0))), .inl (i3 a1), .inl (i3 a2), .inl (i3 a3), .inl (i3 a4)] (zm Z ν) = some (zm P ν, .inl none) ∧ zM (zb s 124) P ∧ zC [2] Z P ∧ zU [] Z P) := by
  obtain ⟨P, hP⟩ := zx (zf_357 Z a1 a2 a3 a4)
  refine zc_V (Q := fun P => zM (zb s 124) P ∧ zC [2] Z P ∧ zU [] Z P) hP (fw_357 (i3 a1) (i3 a2) (i3 a3) (i3 a4) _ _ ?_)
  replace hP : zE P (zf_357 Z a1 a2 a3 a4) := hP
  unfold zf_357 at hP
  refine wz_i0 (i3O (n := 4400) (i3A (i3A (show (200 : Int32) = i3 200 from rfl) (i3M (show (20 : Int32) = i3 20 from rfl) (rfl : i3 a2 = i3 a2))) (show (9 : Int32) = i3 9 from rfl)) (by omega) (by omega) (by omega)) ?_
  refine wz_br (i3NE (rfl : i3 a3 = i3 a3) (show (0 : Int32) = i3 0 from rfl) (by omega) (by omega) (by omega) (by omega)) (fun h1 => ?_) (fun h1 => ?_)
  · replace hP := zE_p hP h1
    refine wz_br (i3NE (rfl : i3 a3 = i3 a3) (show (1 : Int32) = i3 1 from rfl) (by omega) (by omega) (by omega) (by omega)) (fun h2 => ?_) (fun h2 => ?_)
    · replace hP := zE_p hP h2
      obtain ⟨v3, hv3, c9, lv3, uv3⟩ := sp_326 (ν := ν) hZ (a1 := a2) (by omega) (zbh (c := 0) (k := 0) hM (Nat.le_of_ble_eq_true rfl))
      replace hP := zl_e hP hv3
      refine wz_cI_of (zas (zcons rfl (zcons (zvi (rfl : i3 a2 = i3 a2)) rfl)) c9) ?_
      clear c9
      refine wz_i0 (i3O (n := 4400) (i3A (i3A (show (200 : Int32) = i3 200 from rfl) (i3M (show (20 : Int32) = i3 20 from rfl) (rfl : i3 a2 = i3 a2))) (show (9 : Int32) = i3 9 from rfl)) (by omega) (by omega) (by omega)) ?_
      obtain ⟨Z4, hZ4⟩ := zx (zu Z 2 0 0 (209 + 20 * a2) v3)
      replace hP := zl_e hP hZ4
      have hZ4I := zM_u2 hZ hZ4 (lo := -1) (hi := 3) (zs_200_9 (x := a2) (by omega) (by omega) (by omega)) (by omega) ⟨by decide, by decide⟩ (by simp only [zsp]; omega)
      have hZ4U : zU [] Z Z4 := zU_u zU_r hZ4 (Or.inl rfl)
      have hZ4K : zC [2] Z Z4 := zC_u zC_r hZ4 (zcl_2w (by omega) rfl)
      intro μ9 e9
      replace e9 := e9.trans (zm_wI (Z := Z) (ν := ν) hZ4 (show ((0 : Nat) : Int) = 0 from rfl) (show ((0 : Nat) : Int) = 0 from rfl) (i3I (y := (209 + 20 * a2)) (i3A (i3A (show (200 : Int32) = i3 200 from rfl) (i3M (show (20 : Int32) = i3 20 from rfl) (rfl : i3 a2 = i3 a2))) (show (9 : Int32) = i3 9 from rfl)) (by omega) (by omega) (by omega)) (rfl : i3 v3 = i3 v3))
      subst e9
      refine wz_i0 (i3O (n := 4400) (i3A (i3A (show (3520 : Int32) = i3 3520 from rfl) (i3M (show (10 : Int32) = i3 10 from rfl) (rfl : i3 a1 = i3 a1))) (show (5 : Int32) = i3 5 from rfl)) (by omega) (by omega) (by omega)) ?_
      refine wz_i0 (i3O (n := 4400) (i3A (i3A (show (3520 : Int32) = i3 3520 from rfl) (i3M (show (10 : Int32) = i3 10 from rfl) (rfl : i3 a1 = i3 a1))) (show (5 : Int32) = i3 5 from rfl)) (by omega) (by omega) (by omega)) ?_
      have r5 := zM_f hZ4I 2 0 0 (3525 + 10 * a1)
      have r6 := w3_r ((Z4 2 0 0 (3525 + 10 * a1)) + 1)
      obtain ⟨Z7, hZ7⟩ := zx (zu Z4 2 0 0 (3525 + 10 * a1) (w3 ((Z4 2 0 0 (3525 + 10 * a1)) + 1)))
      replace hP := zl_e hP hZ7
      have hZ7I := zM_u2 hZ4I hZ7 (lo := -2147483648) (hi := 2147483647) (zs_3520_5 (x := a1) (by omega) (by omega) (by omega)) (by omega) ⟨by decide, by decide⟩ (by simp only [zsp]; omega)
      have hZ7U : zU [] Z Z7 := zU_u hZ4U hZ7 (Or.inl rfl)
      have hZ7K : zC [2] Z Z7 := zC_u hZ4K hZ7 (zcl_2w (by omega) rfl)
      intro μ9 e9
      replace e9 := e9.trans (zm_wI (Z := Z4) (ν := ν) hZ7 (show ((0 : Nat) : Int) = 0 from rfl) (show ((0 : Nat) : Int) = 0 from rfl) (i3I (y := (3525 + 10 * a1)) (i3A (i3A (show (3520 : Int32) = i3 3520 from rfl) (i3M (show (10 : Int32) = i3 10 from rfl) (rfl : i3 a1 = i3 a1))) (show (5 : Int32) = i3 5 from rfl)) (by omega) (by omega) (by omega)) (i3W (i3A (zm_rd (Z := Z4) (ν := ν) (k := 2) (show ((0 : Nat) : Int) = 0 from rfl) (show ((0 : Nat) : Int) = 0 from rfl) (i3I (y := (3525 + 10 * a1)) (i3A (i3A (show (3520 : Int32) = i3 3520 from rfl) (i3M (show (10 : Int32) = i3 10 from rfl) (rfl : i3 a1 = i3 a1))) (show (5 : Int32) = i3 5 from rfl)) (by omega) (by omega) (by omega))) (show (1 : Int32) = i3 1 from rfl))))
      subst e9
      have r8 := zM_k hZ 2 0 0 (209 + 20 * a2) (lo := -1) (hi := 3) (by decide) (zs_200_9 (x := a2) (by omega) (by omega) (by omega))
      obtain ⟨Z9, hZ9, c9, hZ9I, kZ9, jZ9⟩ := sp_363 (ν := ν) hZ7I (a1 := a1) (by omega) (a2 := a2) (by omega) (a3 := a3) (by omega) (a4 := a4) (by omega) (a5 := (Z 2 0 0 (209 + 20 * a2))) (by omega) (zbh (c := 0) (k := 0) hM (Nat.le_of_ble_eq_true rfl))
      have hZ9U : zU [] Z Z9 := zU_t hZ7U jZ9 zU_b0
      have hZ9K : zC [2] Z Z9 := zC_t hZ7K kZ9 (by decide)
      replace hP := zl_e hP hZ9
      refine wz_cV_of (zas (zcons rfl (zcons (zvi (rfl : i3 a1 = i3 a1)) (zcons (zvi (rfl : i3 a2 = i3 a2)) (zcons (zvi (rfl : i3 a3 = i3 a3)) (zcons (zvi (rfl : i3 a4 = i3 a4)) (zcons (zvi (zm_rd (Z := Z) (ν := ν) (k := 2) (show ((0 : Nat) : Int) = 0 from rfl) (show ((0 : Nat) : Int) = 0 from rfl) (i3I (y := (209 + 20 * a2)) (i3A (i3A (show (200 : Int32) = i3 200 from rfl) (i3M (show (20 : Int32) = i3 20 from rfl) (rfl : i3 a2 = i3 a2))) (show (9 : Int32) = i3 9 from rfl)) (by omega) (by omega) (by omega)))) rfl)))))) c9) ?_
      clear c9
      have r10 := zM_k hZ9I 2 0 0 3813 (lo := 0) (hi := 99999) (by decide) rfl
      obtain ⟨Z11, hZ11, c9, hZ11I, kZ11, jZ11⟩ := sp_403 (ν := ν) hZ9I (a1 := 0) (by omega) (a2 := 7) (by omega) (a3 := (Z9 2 0 0 3813)) (by omega) (a4 := a2) (by omega) (zbh (c := 0) (k := 1) hM (Nat.le_of_ble_eq_true rfl))
      have hZ11U : zU [] Z Z11 := zU_t hZ9U jZ11 zU_b0
      have hZ11K : zC [2] Z Z11 := zC_t hZ9K kZ11 (by decide)
      replace hP := zl_e hP hZ11
      refine wz_cV_of (zas (zcons rfl (zcons (zvi (show (0 : Int32) = i3 0 from rfl)) (zcons (zvi (show (7 : Int32) = i3 7 from rfl)) (zcons (zvi (zm_rd (Z := Z9) (ν := ν) (k := 2) (show ((0 : Nat) : Int) = 0 from rfl) (show ((0 : Nat) : Int) = 0 from rfl) (show ((3813 : Nat) : Int) = 3813 from rfl))) (zcons (zvi (rfl : i3 a2 = i3 a2)) rfl))))) c9) ?_
      clear c9
      exact zlV hP ⟨(zmw (a := 1) (c := 124) hZ11I (Nat.le_of_ble_eq_true rfl)), hZ11K, hZ11U⟩
    · replace hP := zE_n hP h2
      refine wz_i0 (i3O (n := 4400) (i3A (i3A (show (200 : Int32) = i3 200 from rfl) (i3M (show (20 : Int32) = i3 20 from rfl) (rfl : i3 a2 = i3 a2))) (show (9 : Int32) = i3 9 from rfl)) (by omega) (by omega) (by omega)) ?_
      obtain ⟨Z12, hZ12⟩ := zx (zu Z 2 0 0 (209 + 20 * a2) 3)
      replace hP := zl_e hP hZ12
      have hZ12I := zM_u2 hZ hZ12 (lo := -1) (hi := 3) (zs_200_9 (x := a2) (by omega) (by omega) (by omega)) (by omega) ⟨by decide, by decide⟩ (by simp only [zsp]; omega)
      have hZ12U : zU [] Z Z12 := zU_u zU_r hZ12 (Or.inl rfl)
      have hZ12K : zC [2] Z Z12 := zC_u zC_r hZ12 (zcl_2w (by omega) rfl)
      intro μ9 e9
      replace e9 := e9.trans (zm_wI (Z := Z) (ν := ν) hZ12 (show ((0 : Nat) : Int) = 0 from rfl) (show ((0 : Nat) : Int) = 0 from rfl) (i3I (y := (209 + 20 * a2)) (i3A (i3A (show (200 : Int32) = i3 200 from rfl) (i3M (show (20 : Int32) = i3 20 from rfl) (rfl : i3 a2 = i3 a2))) (show (9 : Int32) = i3 9 from rfl)) (by omega) (by omega) (by omega)) (show (3 : Int32) = i3 3 from rfl))
      subst e9
      refine wz_i0 (i3O (n := 4400) (i3A (i3A (show (3520 : Int32) = i3 3520 from rfl) (i3M (show (10 : Int32) = i3 10 from rfl) (rfl : i3 a1 = i3 a1))) (show (5 : Int32) = i3 5 from rfl)) (by omega) (by omega) (by omega)) ?_
      refine wz_i0 (i3O (n := 4400) (i3A (i3A (show (3520 : Int32) = i3 3520 from rfl) (i3M (show (10 : Int32) = i3 10 from rfl) (rfl : i3 a1 = i3 a1))) (show (5 : Int32) = i3 5 from rfl)) (by omega) (by omega) (by omega)) ?_
      have r13 := zM_f hZ12I 2 0 0 (3525 + 10 * a1)
      have r14 := w3_r ((Z12 2 0 0 (3525 + 10 * a1)) + 1)
      obtain ⟨Z15, hZ15⟩ := zx (zu Z12 2 0 0 (3525 + 10 * a1) (w3 ((Z12 2 0 0 (3525 + 10 * a1)) + 1)))
      replace hP := zl_e hP hZ15
      have hZ15I := zM_u2 hZ12I hZ15 (lo := -2147483648) (hi := 2147483647) (zs_3520_5 (x := a1) (by omega) (by omega) (by omega)) (by omega) ⟨by decide, by decide⟩ (by simp only [zsp]; omega)
      have hZ15U : zU [] Z Z15 := zU_u hZ12U hZ15 (Or.inl rfl)
      have hZ15K : zC [2] Z Z15 := zC_u hZ12K hZ15 (zcl_2w (by omega) rfl)
      intro μ9 e9
      replace e9 := e9.trans (zm_wI (Z := Z12) (ν := ν) hZ15 (show ((0 : Nat) : Int) = 0 from rfl) (show ((0 : Nat) : Int) = 0 from rfl) (i3I (y := (3525 + 10 * a1)) (i3A (i3A (show (3520 : Int32) = i3 3520 from rfl) (i3M (show (10 : Int32) = i3 10 from rfl) (rfl : i3 a1 = i3 a1))) (show (5 : Int32) = i3 5 from rfl)) (by omega) (by omega) (by omega)) (i3W (i3A (zm_rd (Z := Z12) (ν := ν) (k := 2) (show ((0 : Nat) : Int) = 0 from rfl) (show ((0 : Nat) : Int) = 0 from rfl) (i3I (y := (3525 + 10 * a1)) (i3A (i3A (show (3520 : Int32) = i3 3520 from rfl) (i3M (show (10 : Int32) = i3 10 from rfl) (rfl : i3 a1 = i3 a1))) (show (5 : Int32) = i3 5 from rfl)) (by omega) (by omega) (by omega))) (show (1 : Int32) = i3 1 from rfl))))
      subst e9
      have r16 := zM_k hZ 2 0 0 (209 + 20 * a2) (lo := -1) (hi := 3) (by decide) (zs_200_9 (x := a2) (by omega) (by omega) (by omega))
      obtain ⟨Z17, hZ17, c9, hZ17I, kZ17, jZ17⟩ := sp_363 (ν := ν) hZ15I (a1 := a1) (by omega) (a2 := a2) (by omega) (a3 := a3) (by omega) (a4 := a4) (by omega) (a5 := (Z 2 0 0 (209 + 20 * a2))) (by omega) (zbh (c := 0) (k := 0) hM (Nat.le_of_ble_eq_true rfl))
      have hZ17U : zU [] Z Z17 := zU_t hZ15U jZ17 zU_b0
      have hZ17K : zC [2] Z Z17 := zC_t hZ15K kZ17 (by decide)
      replace hP := zl_e hP hZ17
      refine wz_cV_of (zas (zcons rfl (zcons (zvi (rfl : i3 a1 = i3 a1)) (zcons (zvi (rfl : i3 a2 = i3 a2)) (zcons (zvi (rfl : i3 a3 = i3 a3)) (zcons (zvi (rfl : i3 a4 = i3 a4)) (zcons (zvi (zm_rd (Z := Z) (ν := ν) (k := 2) (show ((0 : Nat) : Int) = 0 from rfl) (show ((0 : Nat) : Int) = 0 from rfl) (i3I (y := (209 + 20 * a2)) (i3A (i3A (show (200 : Int32) = i3 200 from rfl) (i3M (show (20 : Int32) = i3 20 from rfl) (rfl : i3 a2 = i3 a2))) (show (9 : Int32) = i3 9 from rfl)) (by omega) (by omega) (by omega)))) rfl)))))) c9) ?_
      clear c9
      have r18 := zM_k hZ17I 2 0 0 3813 (lo := 0) (hi := 99999) (by decide) rfl
      obtain ⟨Z19, hZ19, c9, hZ19I, kZ19, jZ19⟩ := sp_403 (ν := ν) hZ17I (a1 := 0) (by omega) (a2 := 7) (by omega) (a3 := (Z17 2 0 0 3813)) (by omega) (a4 := a2) (by omega) (zbh (c := 0) (k := 1) hM (Nat.le_of_ble_eq_true rfl))
      have hZ19U : zU [] Z Z19 := zU_t hZ17U jZ19 zU_b0
      have hZ19K : zC [2] Z Z19 := zC_t hZ17K kZ19 (by decide)
      replace hP := zl_e hP hZ19
      refine wz_cV_of (zas (zcons rfl (zcons (zvi (show (0 : Int32) = i3 0 from rfl)) (zcons (zvi (show (7 : Int32) = i3 7 from rfl)) (zcons (zvi (zm_rd (Z := Z17) (ν := ν) (k := 2) (show ((0 : Nat) : Int) = 0 from rfl) (show ((0 : Nat) : Int) = 0 from rfl) (show ((3813 : Nat) : Int) = 3813 from rfl))) (zcons (zvi (rfl : i3 a2 = i3 a2)) rfl))))) c9) ?_
      clear c9
      exact zlV hP ⟨(zmw (a := 1) (c := 124) hZ19I (Nat.le_of_ble_eq_true rfl)), hZ19K, hZ19U⟩
  · replace hP := zE_n hP h1
    obtain ⟨Z20, hZ20, c9, hZ20I, kZ20, jZ20⟩ := sp_431 (ν := ν) hZ (a1 := a2) (by omega) (a2 := 3) (by omega) (zbh (c := 0) (k := 123) hM (Nat.le_of_ble_eq_true rfl))
    have hZ20U : zU [] Z Z20 := zU_t zU_r jZ20 zU_b0
    have hZ20K : zC [2] Z Z20 := zC_t zC_r kZ20 (by decide)
    replace hP := zl_e hP hZ20
    refine wz_cV_of (zas (zcons rfl (zcons (zvi (rfl : i3 a2 = i3 a2)) (zcons (zvi (show (3 : Int32) = i3 3 from rfl)) rfl))) c9) ?_
    clear c9
    refine wz_i0 (i3O (n := 4400) (i3A (i3A (show (3520 : Int32) = i3 3520 from rfl) (i3M (show (10 : Int32) = i3 10 from rfl) (rfl : i3 a1 = i3 a1))) (show (6 : Int32) = i3 6 from rfl)) (by omega) (by omega) (by omega)) ?_
    refine wz_i0 (i3O (n := 4400) (i3A (i3A (show (3520 : Int32) = i3 3520 from rfl) (i3M (show (10 : Int32) = i3 10 from rfl) (rfl : i3 a1 = i3 a1))) (show (6 : Int32) = i3 6 from rfl)) (by omega) (by omega) (by omega)) ?_
    have r21 := zM_f hZ20I 2 0 0 (3526 + 10 * a1)
    have r22 := w3_r ((Z20 2 0 0 (3526 + 10 * a1)) + 1)
    obtain ⟨Z23, hZ23⟩ := zx (zu Z20 2 0 0 (3526 + 10 * a1) (w3 ((Z20 2 0 0 (3526 + 10 * a1)) + 1)))
    replace hP := zl_e hP hZ23
    have hZ23I := zM_u2 hZ20I hZ23 (lo := -2147483648) (hi := 2147483647) (zs_3520_6 (x := a1) (by omega) (by omega) (by omega)) (by omega) ⟨by decide, by decide⟩ (by simp only [zsp]; omega)
    have hZ23U : zU [] Z Z23 := zU_u hZ20U hZ23 (Or.inl rfl)
    have hZ23K : zC [2] Z Z23 := zC_u hZ20K hZ23 (zcl_2w (by omega) rfl)
    intro μ9 e9
    replace e9 := e9.trans (zm_wI (Z := Z20) (ν := ν) hZ23 (show ((0 : Nat) : Int) = 0 from rfl) (show ((0 : Nat) : Int) = 0 from rfl) (i3I (y := (3526 + 10 * a1)) (i3A (i3A (show (3520 : Int32) = i3 3520 from rfl) (i3M (show (10 : Int32) = i3 10 from rfl) (rfl : i3 a1 = i3 a1))) (show (6 : Int32) = i3 6 from rfl)) (by omega) (by omega) (by omega)) (i3W (i3A (zm_rd (Z := Z20) (ν := ν) (k := 2) (show ((0 : Nat) : Int) = 0 from rfl) (show ((0 : Nat) : Int) = 0 from rfl) (i3I (y := (3526 + 10 * a1)) (i3A (i3A (show (3520 : Int32) = i3 3520 from rfl) (i3M (show (10 : Int32) = i3 10 from rfl) (rfl : i3 a1 = i3 a1))) (show (6 : Int32) = i3 6 from rfl)) (by omega) (by omega) (by omega))) (show (1 : Int32) = i3 1 from rfl))))
    subst e9
    refine wz_i0 (i3O (n := 4400) (i3A (i3A (show (3520 : Int32) = i3 3520 from rfl) (i3M (show (10 : Int32) = i3 10 from rfl) (rfl : i3 a1 = i3 a1))) (show (5 : Int32) = i3 5 from rfl)) (by omega) (by omega) (by omega)) ?_
    refine wz_i0 (i3O (n := 4400) (i3A (i3A (show (3520 : Int32) = i3 3520 from rfl) (i3M (show (10 : Int32) = i3 10 from rfl) (rfl : i3 a1 = i3 a1))) (show (5 : Int32) = i3 5 from rfl)) (by omega) (by omega) (by omega)) ?_
    have r24 := zM_f hZ23I 2 0 0 (3525 + 10 * a1)
    have r25 := w3_r ((Z23 2 0 0 (3525 + 10 * a1)) + 1)
    obtain ⟨Z26, hZ26⟩ := zx (zu Z23 2 0 0 (3525 + 10 * a1) (w3 ((Z23 2 0 0 (3525 + 10 * a1)) + 1)))
    replace hP := zl_e hP hZ26
    have hZ26I := zM_u2 hZ23I hZ26 (lo := -2147483648) (hi := 2147483647) (zs_3520_5 (x := a1) (by omega) (by omega) (by omega)) (by omega) ⟨by decide, by decide⟩ (by simp only [zsp]; omega)
    have hZ26U : zU [] Z Z26 := zU_u hZ23U hZ26 (Or.inl rfl)
    have hZ26K : zC [2] Z Z26 := zC_u hZ23K hZ26 (zcl_2w (by omega) rfl)
    intro μ9 e9
    replace e9 := e9.trans (zm_wI (Z := Z23) (ν := ν) hZ26 (show ((0 : Nat) : Int) = 0 from rfl) (show ((0 : Nat) : Int) = 0 from rfl) (i3I (y := (3525 + 10 * a1)) (i3A (i3A (show (3520 : Int32) = i3 3520 from rfl) (i3M (show (10 : Int32) = i3 10 from rfl) (rfl : i3 a1 = i3 a1))) (show (5 : Int32) = i3 5 from rfl)) (by omega) (by omega) (by omega)) (i3W (i3A (zm_rd (Z := Z23) (ν := ν) (k := 2) (show ((0 : Nat) : Int) = 0 from rfl) (show ((0 : Nat) : Int) = 0 from rfl) (i3I (y := (3525 + 10 * a1)) (i3A (i3A (show (3520 : Int32) = i3 3520 from rfl) (i3M (show (10 : Int32) = i3 10 from rfl) (rfl : i3 a1 = i3 a1))) (show (5 : Int32) = i3 5 from rfl)) (by omega) (by omega) (by omega))) (show (1 : Int32) = i3 1 from rfl))))
    subst e9
    have r27 := zM_k hZ 2 0 0 (209 + 20 * a2) (lo := -1) (hi := 3) (by decide) (zs_200_9 (x := a2) (by omega) (by omega) (by omega))
    obtain ⟨Z28, hZ28, c9, hZ28I, kZ28, jZ28⟩ := sp_363 (ν := ν) hZ26I (a1 := a1) (by omega) (a2 := a2) (by omega) (a3 := a3) (by omega) (a4 := a4) (by omega) (a5 := (Z 2 0 0 (209 + 20 * a2))) (by omega) (zbh (c := 123) (k := 0) hM (Nat.le_of_ble_eq_true rfl))
    have hZ28U : zU [] Z Z28 := zU_t hZ26U jZ28 zU_b0
    have hZ28K : zC [2] Z Z28 := zC_t hZ26K kZ28 (by decide)
    replace hP := zl_e hP hZ28
    refine wz_cV_of (zas (zcons rfl (zcons (zvi (rfl : i3 a1 = i3 a1)) (zcons (zvi (rfl : i3 a2 = i3 a2)) (zcons (zvi (rfl : i3 a3 = i3 a3)) (zcons (zvi (rfl : i3 a4 = i3 a4)) (zcons (zvi (zm_rd (Z := Z) (ν := ν) (k := 2) (show ((0 : Nat) : Int) = 0 from rfl) (show ((0 : Nat) : Int) = 0 from rfl) (i3I (y := (209 + 20 * a2)) (i3A (i3A (show (200 : Int32) = i3 200 from rfl) (i3M (show (20 : Int32) = i3 20 from rfl) (rfl : i3 a2 = i3 a2))) (show (9 : Int32) = i3 9 from rfl)) (by omega) (by omega) (by omega)))) rfl)))))) c9) ?_
    clear c9
    have r29 := zM_k hZ28I 2 0 0 3813 (lo := 0) (hi := 99999) (by decide) rfl
    obtain ⟨Z30, hZ30, c9, hZ30I, kZ30, jZ30⟩ := sp_403 (ν := ν) hZ28I (a1 := 0) (by omega) (a2 := 7) (by omega) (a3 := (Z28 2 0 0 3813)) (by omega) (a4 := a2) (by omega) (zbh (c := 123) (k := 1) hM (Nat.le_of_ble_eq_true rfl))
    have hZ30U : zU [] Z Z30 := zU_t hZ28U jZ30 zU_b0
    have hZ30K : zC [2] Z Z30 := zC_t hZ28K kZ30 (by decide)
    replace hZ30I := zmt (c := 124) hZ30I rfl
    replace hP := zl_e hP hZ30
    refine wz_cV_of (zas (zcons rfl (zcons (zvi (show (0 : Int32) = i3 0 from rfl)) (zcons (zvi (show (7 : Int32) = i3 7 from rfl)) (zcons (zvi (zm_rd (Z := Z28) (ν := ν) (k := 2) (show ((0 : Nat) : Int) = 0 from rfl) (show ((0 : Nat) : Int) = 0 from rfl) (show ((3813 : Nat) : Int) = 3813 from rfl))) (zcons (zvi (rfl : i3 a2 = i3 a2)) rfl))))) c9) ?_
    clear c9
    exact zlV hP ⟨hZ30I, hZ30K, hZ30U⟩
/- yX12_iKind -/
def zf_364 (Z : qz_Z) (a1 : Int) (a2 : Int) : Int := (if ((Z 2 0 0 (113 + 5 * (Z 2 0 0 (201 + 20 * a2)))) - (Z 2 0 0 (114 + 5 * (Z 2 0 0 (201 + 20 * a2))))) ≤ (Z 2 0 0 (207 + 20 * a2)) then (if ((Z 2 0 0 (113 + 5 * (Z 2 0 0 (201 + 20 * a2)))) + (Z 2 0 0 (114 + 5 * (Z 2 0 0 (201 + 20 * a2))))) < (Z 2 0 0 (207 + 20 * a2)) then (if ((Z 2 0 0 (113 + 5 * (Z 2 0 0 (201 + 20 * a2)))) + (3 * (Z 2 0 0 (114 + 5 * (Z 2 0 0 (201 + 20 * a2)))))) < (Z 2 0 0 (207 + 20 * a2)) then 0 else (if (Z 2 0 0 (208 + 20 * a2)) < 24 then (if (Z 2 0 0 (3521 + 10 * a1)) < 1 then (-1) else (if (Z 2 0 0 (209 + 20 * a2)) = (-1) then (-1) else (zlet (zf_326 Z a2) (fun v14 => (if v14 ≤ (Z 2 0 0 (209 + 20 * a2)) then (-1) else 2))))) else (if (Z 2 0 0 (209 + 20 * a2)) < 0 then (if (Z 2 0 0 (3521 + 10 * a1)) < 1 then (-1) else (-1)) else (if 2 < (Z 2 0 0 (209 + 20 * a2)) then (if (Z 2 0 0 (3521 + 10 * a1)) < 1 then (-1) else (zlet (zf_326 Z a2) (fun v23 => (-1)))) else 1)))) else (if (Z 2 0 0 (208 + 20 * a2)) < 24 then (if (Z 2 0 0 (3521 + 10 * a1)) < 1 then (-1) else (if (Z 2 0 0 (209 + 20 * a2)) = (-1) then (-1) else (zlet (zf_326 Z a2) (fun v30 => (if v30 ≤ (Z 2 0 0 (209 + 20 * a2)) then (-1) else 2))))) else (if (Z 2 0 0 (209 + 20 * a2)) < 0 then (if (Z 2 0 0 (3521 + 10 * a1)) < 1 then (-1) else (-1)) else (if 2 < (Z 2 0 0 (209 + 20 * a2)) then (if (Z 2 0 0 (3521 + 10 * a1)) < 1 then (-1) else (zlet (zf_326 Z a2) (fun v39 => (-1)))) else 1)))) else (if (Z 2 0 0 (208 + 20 * a2)) < 24 then (if (Z 2 0 0 (3521 + 10 * a1)) < 1 then (-1) else (if (Z 2 0 0 (209 + 20 * a2)) = (-1) then (-1) else (zlet (zf_326 Z a2) (fun v46 => (if v46 ≤ (Z 2 0 0 (209 + 20 * a2)) then (-1) else 2))))) else (if (Z 2 0 0 (209 + 20 * a2)) < 0 then (if (Z 2 0 0 (3521 + 10 * a1)) < 1 then (-1) else (-1)) else (if 2 < (Z 2 0 0 (209 + 20 * a2)) then (if (Z 2 0 0 (3521 + 10 * a1)) < 1 then (-1) else (zlet (zf_326 Z a2) (fun v55 => (-1)))) else 1))))
theorem sp_364 {s : zSM} {Z : qz_Z} {ν : qz_N} (hZ : zM s Z) {a1 : Int} (ga1 : 0 ≤ a1 ∧ a1 ≤ 1) {a2 : Int} (ga2 : 0 ≤ a2 ∧ a2 ≤ 47) (hM : s.2 + 0 ≤ 1000000000) : ∃ P : Int, P = zf_364 Z a1 a2 ∧ (qf_364 [.inr (.inr (some (1, 0, 0))), .inl (i3 a1), .inl (i3 a2)] (zm Z ν) = some (zm Z ν, .inl (some (.inl (i3 P)))) ∧ -1 ≤ P ∧ P ≤ 2) := by
  obtain ⟨P, hP⟩ := zx (zf_364 Z a1 a2)
  refine zc_R (Q := fun P => -1 ≤ P ∧ P ≤ 2) hP (fw_364 (i3 a1) (i3 a2) _ _ ?_)
  replace hP : zE P (zf_364 Z a1 a2) := hP
  unfold zf_364 at hP
  refine wz_i0 (i3O (n := 4400) (i3A (i3A (show (200 : Int32) = i3 200 from rfl) (i3M (show (20 : Int32) = i3 20 from rfl) (rfl : i3 a2 = i3 a2))) (show (9 : Int32) = i3 9 from rfl)) (by omega) (by omega) (by omega)) ?_
  refine wz_i0 (i3O (n := 4400) (i3A (i3A (show (200 : Int32) = i3 200 from rfl) (i3M (show (20 : Int32) = i3 20 from rfl) (rfl : i3 a2 = i3 a2))) (show (1 : Int32) = i3 1 from rfl)) (by omega) (by omega) (by omega)) ?_
  refine wz_i0 (i3O (n := 4400) (i3A (i3A (show (200 : Int32) = i3 200 from rfl) (i3M (show (20 : Int32) = i3 20 from rfl) (rfl : i3 a2 = i3 a2))) (show (7 : Int32) = i3 7 from rfl)) (by omega) (by omega) (by omega)) ?_
  have r1 := zM_k hZ 2 0 0 (201 + 20 * a2) (lo := 0) (hi := 4) (by decide) (zs_200_1 (x := a2) (by omega) (by omega) (by omega))
  refine wz_i0 (i3O (n := 4400) (i3A (i3A (show (110 : Int32) = i3 110 from rfl) (i3M (show (5 : Int32) = i3 5 from rfl) (zm_rd (Z := Z) (ν := ν) (k := 2) (show ((0 : Nat) : Int) = 0 from rfl) (show ((0 : Nat) : Int) = 0 from rfl) (i3I (y := (201 + 20 * a2)) (i3A (i3A (show (200 : Int32) = i3 200 from rfl) (i3M (show (20 : Int32) = i3 20 from rfl) (rfl : i3 a2 = i3 a2))) (show (1 : Int32) = i3 1 from rfl)) (by omega) (by omega) (by omega))))) (show (3 : Int32) = i3 3 from rfl)) (by omega) (by omega) (by omega)) ?_
  refine wz_i0 (i3O (n := 4400) (i3A (i3A (show (110 : Int32) = i3 110 from rfl) (i3M (show (5 : Int32) = i3 5 from rfl) (zm_rd (Z := Z) (ν := ν) (k := 2) (show ((0 : Nat) : Int) = 0 from rfl) (show ((0 : Nat) : Int) = 0 from rfl) (i3I (y := (201 + 20 * a2)) (i3A (i3A (show (200 : Int32) = i3 200 from rfl) (i3M (show (20 : Int32) = i3 20 from rfl) (rfl : i3 a2 = i3 a2))) (show (1 : Int32) = i3 1 from rfl)) (by omega) (by omega) (by omega))))) (show (4 : Int32) = i3 4 from rfl)) (by omega) (by omega) (by omega)) ?_
  have r2 := zM_k hZ 2 0 0 (113 + 5 * (Z 2 0 0 (201 + 20 * a2))) (lo := 0) (hi := 600) (by decide) (zs_110_3 (x := (Z 2 0 0 (201 + 20 * a2))) (by omega) (by omega) (by omega))
  have r3 := zM_k hZ 2 0 0 (114 + 5 * (Z 2 0 0 (201 + 20 * a2))) (lo := 0) (hi := 99) (by decide) (zs_110_4 (x := (Z 2 0 0 (201 + 20 * a2))) (by omega) (by omega) (by omega))
  have r4 := zM_k hZ 2 0 0 (207 + 20 * a2) (lo := 0) (hi := 2000) (by decide) (zs_200_7 (x := a2) (by omega) (by omega) (by omega))
  refine wz_br (i3Le (i3S (zm_rd (Z := Z) (ν := ν) (k := 2) (show ((0 : Nat) : Int) = 0 from rfl) (show ((0 : Nat) : Int) = 0 from rfl) (i3I (y := (113 + 5 * (Z 2 0 0 (201 + 20 * a2)))) (i3A (i3A (show (110 : Int32) = i3 110 from rfl) (i3M (show (5 : Int32) = i3 5 from rfl) (zm_rd (Z := Z) (ν := ν) (k := 2) (show ((0 : Nat) : Int) = 0 from rfl) (show ((0 : Nat) : Int) = 0 from rfl) (i3I (y := (201 + 20 * a2)) (i3A (i3A (show (200 : Int32) = i3 200 from rfl) (i3M (show (20 : Int32) = i3 20 from rfl) (rfl : i3 a2 = i3 a2))) (show (1 : Int32) = i3 1 from rfl)) (by omega) (by omega) (by omega))))) (show (3 : Int32) = i3 3 from rfl)) (by omega) (by omega) (by omega))) (zm_rd (Z := Z) (ν := ν) (k := 2) (show ((0 : Nat) : Int) = 0 from rfl) (show ((0 : Nat) : Int) = 0 from rfl) (i3I (y := (114 + 5 * (Z 2 0 0 (201 + 20 * a2)))) (i3A (i3A (show (110 : Int32) = i3 110 from rfl) (i3M (show (5 : Int32) = i3 5 from rfl) (zm_rd (Z := Z) (ν := ν) (k := 2) (show ((0 : Nat) : Int) = 0 from rfl) (show ((0 : Nat) : Int) = 0 from rfl) (i3I (y := (201 + 20 * a2)) (i3A (i3A (show (200 : Int32) = i3 200 from rfl) (i3M (show (20 : Int32) = i3 20 from rfl) (rfl : i3 a2 = i3 a2))) (show (1 : Int32) = i3 1 from rfl)) (by omega) (by omega) (by omega))))) (show (4 : Int32) = i3 4 from rfl)) (by omega) (by omega) (by omega)))) (zm_rd (Z := Z) (ν := ν) (k := 2) (show ((0 : Nat) : Int) = 0 from rfl) (show ((0 : Nat) : Int) = 0 from rfl) (i3I (y := (207 + 20 * a2)) (i3A (i3A (show (200 : Int32) = i3 200 from rfl) (i3M (show (20 : Int32) = i3 20 from rfl) (rfl : i3 a2 = i3 a2))) (show (7 : Int32) = i3 7 from rfl)) (by omega) (by omega) (by omega))) (by omega) (by omega) (by omega) (by omega)) (fun h5 => ?_) (fun h5 => ?_)
  · replace hP := zE_p hP h5
    refine wz_br (i3L (i3A (zm_rd (Z := Z) (ν := ν) (k := 2) (show ((0 : Nat) : Int) = 0 from rfl) (show ((0 : Nat) : Int) = 0 from rfl) (i3I (y := (113 + 5 * (Z 2 0 0 (201 + 20 * a2)))) (i3A (i3A (show (110 : Int32) = i3 110 from rfl) (i3M (show (5 : Int32) = i3 5 from rfl) (zm_rd (Z := Z) (ν := ν) (k := 2) (show ((0 : Nat) : Int) = 0 from rfl) (show ((0 : Nat) : Int) = 0 from rfl) (i3I (y := (201 + 20 * a2)) (i3A (i3A (show (200 : Int32) = i3 200 from rfl) (i3M (show (20 : Int32) = i3 20 from rfl) (rfl : i3 a2 = i3 a2))) (show (1 : Int32) = i3 1 from rfl)) (by omega) (by omega) (by omega))))) (show (3 : Int32) = i3 3 from rfl)) (by omega) (by omega) (by omega))) (zm_rd (Z := Z) (ν := ν) (k := 2) (show ((0 : Nat) : Int) = 0 from rfl) (show ((0 : Nat) : Int) = 0 from rfl) (i3I (y := (114 + 5 * (Z 2 0 0 (201 + 20 * a2)))) (i3A (i3A (show (110 : Int32) = i3 110 from rfl) (i3M (show (5 : Int32) = i3 5 from rfl) (zm_rd (Z := Z) (ν := ν) (k := 2) (show ((0 : Nat) : Int) = 0 from rfl) (show ((0 : Nat) : Int) = 0 from rfl) (i3I (y := (201 + 20 * a2)) (i3A (i3A (show (200 : Int32) = i3 200 from rfl) (i3M (show (20 : Int32) = i3 20 from rfl) (rfl : i3 a2 = i3 a2))) (show (1 : Int32) = i3 1 from rfl)) (by omega) (by omega) (by omega))))) (show (4 : Int32) = i3 4 from rfl)) (by omega) (by omega) (by omega)))) (zm_rd (Z := Z) (ν := ν) (k := 2) (show ((0 : Nat) : Int) = 0 from rfl) (show ((0 : Nat) : Int) = 0 from rfl) (i3I (y := (207 + 20 * a2)) (i3A (i3A (show (200 : Int32) = i3 200 from rfl) (i3M (show (20 : Int32) = i3 20 from rfl) (rfl : i3 a2 = i3 a2))) (show (7 : Int32) = i3 7 from rfl)) (by omega) (by omega) (by omega))) (by omega) (by omega) (by omega) (by omega)) (fun h6 => ?_) (fun h6 => ?_)
    · replace hP := zE_p hP h6
      refine wz_br (i3L (i3A (zm_rd (Z := Z) (ν := ν) (k := 2) (show ((0 : Nat) : Int) = 0 from rfl) (show ((0 : Nat) : Int) = 0 from rfl) (i3I (y := (113 + 5 * (Z 2 0 0 (201 + 20 * a2)))) (i3A (i3A (show (110 : Int32) = i3 110 from rfl) (i3M (show (5 : Int32) = i3 5 from rfl) (zm_rd (Z := Z) (ν := ν) (k := 2) (show ((0 : Nat) : Int) = 0 from rfl) (show ((0 : Nat) : Int) = 0 from rfl) (i3I (y := (201 + 20 * a2)) (i3A (i3A (show (200 : Int32) = i3 200 from rfl) (i3M (show (20 : Int32) = i3 20 from rfl) (rfl : i3 a2 = i3 a2))) (show (1 : Int32) = i3 1 from rfl)) (by omega) (by omega) (by omega))))) (show (3 : Int32) = i3 3 from rfl)) (by omega) (by omega) (by omega))) (i3M (show (3 : Int32) = i3 3 from rfl) (zm_rd (Z := Z) (ν := ν) (k := 2) (show ((0 : Nat) : Int) = 0 from rfl) (show ((0 : Nat) : Int) = 0 from rfl) (i3I (y := (114 + 5 * (Z 2 0 0 (201 + 20 * a2)))) (i3A (i3A (show (110 : Int32) = i3 110 from rfl) (i3M (show (5 : Int32) = i3 5 from rfl) (zm_rd (Z := Z) (ν := ν) (k := 2) (show ((0 : Nat) : Int) = 0 from rfl) (show ((0 : Nat) : Int) = 0 from rfl) (i3I (y := (201 + 20 * a2)) (i3A (i3A (show (200 : Int32) = i3 200 from rfl) (i3M (show (20 : Int32) = i3 20 from rfl) (rfl : i3 a2 = i3 a2))) (show (1 : Int32) = i3 1 from rfl)) (by omega) (by omega) (by omega))))) (show (4 : Int32) = i3 4 from rfl)) (by omega) (by omega) (by omega))))) (zm_rd (Z := Z) (ν := ν) (k := 2) (show ((0 : Nat) : Int) = 0 from rfl) (show ((0 : Nat) : Int) = 0 from rfl) (i3I (y := (207 + 20 * a2)) (i3A (i3A (show (200 : Int32) = i3 200 from rfl) (i3M (show (20 : Int32) = i3 20 from rfl) (rfl : i3 a2 = i3 a2))) (show (7 : Int32) = i3 7 from rfl)) (by omega) (by omega) (by omega))) (by omega) (by omega) (by omega) (by omega)) (fun h7 => ?_) (fun h7 => ?_)
      · replace hP := zE_p hP h7
        exact zlR hP (show (0 : Int32) = i3 0 from rfl) ⟨by omega, by omega⟩
      · replace hP := zE_n hP h7
        refine wz_i0 (i3O (n := 4400) (i3A (i3A (show (200 : Int32) = i3 200 from rfl) (i3M (show (20 : Int32) = i3 20 from rfl) (rfl : i3 a2 = i3 a2))) (show (8 : Int32) = i3 8 from rfl)) (by omega) (by omega) (by omega)) ?_
        have r8 := zM_k hZ 2 0 0 (208 + 20 * a2) (lo := 0) (hi := 999) (by decide) (zs_200_8 (x := a2) (by omega) (by omega) (by omega))
        refine wz_br (i3L (zm_rd (Z := Z) (ν := ν) (k := 2) (show ((0 : Nat) : Int) = 0 from rfl) (show ((0 : Nat) : Int) = 0 from rfl) (i3I (y := (208 + 20 * a2)) (i3A (i3A (show (200 : Int32) = i3 200 from rfl) (i3M (show (20 : Int32) = i3 20 from rfl) (rfl : i3 a2 = i3 a2))) (show (8 : Int32) = i3 8 from rfl)) (by omega) (by omega) (by omega))) (show (24 : Int32) = i3 24 from rfl) (by omega) (by omega) (by omega) (by omega)) (fun h9 => ?_) (fun h9 => ?_)
        · replace hP := zE_p hP h9
          refine wz_i0 (i3O (n := 4400) (i3A (i3A (show (3520 : Int32) = i3 3520 from rfl) (i3M (show (10 : Int32) = i3 10 from rfl) (rfl : i3 a1 = i3 a1))) (show (1 : Int32) = i3 1 from rfl)) (by omega) (by omega) (by omega)) ?_
          have r10 := zM_k hZ 2 0 0 (3521 + 10 * a1) (lo := 0) (hi := 3) (by decide) (zs_3520_1 (x := a1) (by omega) (by omega) (by omega))
          refine wz_br (i3L (zm_rd (Z := Z) (ν := ν) (k := 2) (show ((0 : Nat) : Int) = 0 from rfl) (show ((0 : Nat) : Int) = 0 from rfl) (i3I (y := (3521 + 10 * a1)) (i3A (i3A (show (3520 : Int32) = i3 3520 from rfl) (i3M (show (10 : Int32) = i3 10 from rfl) (rfl : i3 a1 = i3 a1))) (show (1 : Int32) = i3 1 from rfl)) (by omega) (by omega) (by omega))) (show (1 : Int32) = i3 1 from rfl) (by omega) (by omega) (by omega) (by omega)) (fun h11 => ?_) (fun h11 => ?_)
          · replace hP := zE_p hP h11
            exact zlR hP (show (-1 : Int32) = i3 (-1) from rfl) ⟨by omega, by omega⟩
          · replace hP := zE_n hP h11
            have r12 := zM_k hZ 2 0 0 (209 + 20 * a2) (lo := -1) (hi := 3) (by decide) (zs_200_9 (x := a2) (by omega) (by omega) (by omega))
            refine wz_br (i3E (zm_rd (Z := Z) (ν := ν) (k := 2) (show ((0 : Nat) : Int) = 0 from rfl) (show ((0 : Nat) : Int) = 0 from rfl) (i3I (y := (209 + 20 * a2)) (i3A (i3A (show (200 : Int32) = i3 200 from rfl) (i3M (show (20 : Int32) = i3 20 from rfl) (rfl : i3 a2 = i3 a2))) (show (9 : Int32) = i3 9 from rfl)) (by omega) (by omega) (by omega))) (show (-1 : Int32) = i3 (-1) from rfl) (by omega) (by omega) (by omega) (by omega)) (fun h13 => ?_) (fun h13 => ?_)
            · replace hP := zE_p hP h13
              exact zlR hP (show (-1 : Int32) = i3 (-1) from rfl) ⟨by omega, by omega⟩
            · replace hP := zE_n hP h13
              obtain ⟨v14, hv14, c9, lv14, uv14⟩ := sp_326 (ν := ν) hZ (a1 := a2) (by omega) (zbh (c := 0) (k := 0) hM (Nat.le_of_ble_eq_true rfl))
              replace hP := zl_e hP hv14
              refine wz_cI_of (zas (zcons rfl (zcons (zvi (rfl : i3 a2 = i3 a2)) rfl)) c9) ?_
              clear c9
              refine wz_br (i3Le (rfl : i3 v14 = i3 v14) (zm_rd (Z := Z) (ν := ν) (k := 2) (show ((0 : Nat) : Int) = 0 from rfl) (show ((0 : Nat) : Int) = 0 from rfl) (i3I (y := (209 + 20 * a2)) (i3A (i3A (show (200 : Int32) = i3 200 from rfl) (i3M (show (20 : Int32) = i3 20 from rfl) (rfl : i3 a2 = i3 a2))) (show (9 : Int32) = i3 9 from rfl)) (by omega) (by omega) (by omega))) (by omega) (by omega) (by omega) (by omega)) (fun h15 => ?_) (fun h15 => ?_)
              · replace hP := zE_p hP h15
                exact zlR hP (show (-1 : Int32) = i3 (-1) from rfl) ⟨by omega, by omega⟩
              · replace hP := zE_n hP h15
                exact zlR hP (show (2 : Int32) = i3 2 from rfl) ⟨by omega, by omega⟩
        · replace hP := zE_n hP h9
          have r16 := zM_k hZ 2 0 0 (209 + 20 * a2) (lo := -1) (hi := 3) (by decide) (zs_200_9 (x := a2) (by omega) (by omega) (by omega))
          refine wz_br (i3L (zm_rd (Z := Z) (ν := ν) (k := 2) (show ((0 : Nat) : Int) = 0 from rfl) (show ((0 : Nat) : Int) = 0 from rfl) (i3I (y := (209 + 20 * a2)) (i3A (i3A (show (200 : Int32) = i3 200 from rfl) (i3M (show (20 : Int32) = i3 20 from rfl) (rfl : i3 a2 = i3 a2))) (show (9 : Int32) = i3 9 from rfl)) (by omega) (by omega) (by omega))) (show (0 : Int32) = i3 0 from rfl) (by omega) (by omega) (by omega) (by omega)) (fun h17 => ?_) (fun h17 => ?_)
          · replace hP := zE_p hP h17
            refine wz_i0 (i3O (n := 4400) (i3A (i3A (show (3520 : Int32) = i3 3520 from rfl) (i3M (show (10 : Int32) = i3 10 from rfl) (rfl : i3 a1 = i3 a1))) (show (1 : Int32) = i3 1 from rfl)) (by omega) (by omega) (by omega)) ?_
            have r18 := zM_k hZ 2 0 0 (3521 + 10 * a1) (lo := 0) (hi := 3) (by decide) (zs_3520_1 (x := a1) (by omega) (by omega) (by omega))
            refine wz_br (i3L (zm_rd (Z := Z) (ν := ν) (k := 2) (show ((0 : Nat) : Int) = 0 from rfl) (show ((0 : Nat) : Int) = 0 from rfl) (i3I (y := (3521 + 10 * a1)) (i3A (i3A (show (3520 : Int32) = i3 3520 from rfl) (i3M (show (10 : Int32) = i3 10 from rfl) (rfl : i3 a1 = i3 a1))) (show (1 : Int32) = i3 1 from rfl)) (by omega) (by omega) (by omega))) (show (1 : Int32) = i3 1 from rfl) (by omega) (by omega) (by omega) (by omega)) (fun h19 => ?_) (fun h19 => ?_)
            · replace hP := zE_p hP h19
              exact zlR hP (show (-1 : Int32) = i3 (-1) from rfl) ⟨by omega, by omega⟩
            · replace hP := zE_n hP h19
              refine wz_i1 (Eq.trans (i3E (zm_rd (Z := Z) (ν := ν) (k := 2) (show ((0 : Nat) : Int) = 0 from rfl) (show ((0 : Nat) : Int) = 0 from rfl) (i3I (y := (209 + 20 * a2)) (i3A (i3A (show (200 : Int32) = i3 200 from rfl) (i3M (show (20 : Int32) = i3 20 from rfl) (rfl : i3 a2 = i3 a2))) (show (9 : Int32) = i3 9 from rfl)) (by omega) (by omega) (by omega))) (show (-1 : Int32) = i3 (-1) from rfl) (by omega) (by omega) (by omega) (by omega)) (decide_eq_true (by omega))) ?_
              exact zlR hP (show (-1 : Int32) = i3 (-1) from rfl) ⟨by omega, by omega⟩
          · replace hP := zE_n hP h17
            refine wz_br (i3L (show (2 : Int32) = i3 2 from rfl) (zm_rd (Z := Z) (ν := ν) (k := 2) (show ((0 : Nat) : Int) = 0 from rfl) (show ((0 : Nat) : Int) = 0 from rfl) (i3I (y := (209 + 20 * a2)) (i3A (i3A (show (200 : Int32) = i3 200 from rfl) (i3M (show (20 : Int32) = i3 20 from rfl) (rfl : i3 a2 = i3 a2))) (show (9 : Int32) = i3 9 from rfl)) (by omega) (by omega) (by omega))) (by omega) (by omega) (by omega) (by omega)) (fun h20 => ?_) (fun h20 => ?_)
            · replace hP := zE_p hP h20
              refine wz_i0 (i3O (n := 4400) (i3A (i3A (show (3520 : Int32) = i3 3520 from rfl) (i3M (show (10 : Int32) = i3 10 from rfl) (rfl : i3 a1 = i3 a1))) (show (1 : Int32) = i3 1 from rfl)) (by omega) (by omega) (by omega)) ?_
              have r21 := zM_k hZ 2 0 0 (3521 + 10 * a1) (lo := 0) (hi := 3) (by decide) (zs_3520_1 (x := a1) (by omega) (by omega) (by omega))
              refine wz_br (i3L (zm_rd (Z := Z) (ν := ν) (k := 2) (show ((0 : Nat) : Int) = 0 from rfl) (show ((0 : Nat) : Int) = 0 from rfl) (i3I (y := (3521 + 10 * a1)) (i3A (i3A (show (3520 : Int32) = i3 3520 from rfl) (i3M (show (10 : Int32) = i3 10 from rfl) (rfl : i3 a1 = i3 a1))) (show (1 : Int32) = i3 1 from rfl)) (by omega) (by omega) (by omega))) (show (1 : Int32) = i3 1 from rfl) (by omega) (by omega) (by omega) (by omega)) (fun h22 => ?_) (fun h22 => ?_)
              · replace hP := zE_p hP h22
                exact zlR hP (show (-1 : Int32) = i3 (-1) from rfl) ⟨by omega, by omega⟩
              · replace hP := zE_n hP h22
                refine wz_i0 (Eq.trans (i3E (zm_rd (Z := Z) (ν := ν) (k := 2) (show ((0 : Nat) : Int) = 0 from rfl) (show ((0 : Nat) : Int) = 0 from rfl) (i3I (y := (209 + 20 * a2)) (i3A (i3A (show (200 : Int32) = i3 200 from rfl) (i3M (show (20 : Int32) = i3 20 from rfl) (rfl : i3 a2 = i3 a2))) (show (9 : Int32) = i3 9 from rfl)) (by omega) (by omega) (by omega))) (show (-1 : Int32) = i3 (-1) from rfl) (by omega) (by omega) (by omega) (by omega)) (decide_eq_false (by omega))) ?_
                obtain ⟨v23, hv23, c9, lv23, uv23⟩ := sp_326 (ν := ν) hZ (a1 := a2) (by omega) (zbh (c := 0) (k := 0) hM (Nat.le_of_ble_eq_true rfl))
                replace hP := zl_e hP hv23
                refine wz_cI_of (zas (zcons rfl (zcons (zvi (rfl : i3 a2 = i3 a2)) rfl)) c9) ?_
                clear c9
                refine wz_i1 (Eq.trans (i3Le (rfl : i3 v23 = i3 v23) (zm_rd (Z := Z) (ν := ν) (k := 2) (show ((0 : Nat) : Int) = 0 from rfl) (show ((0 : Nat) : Int) = 0 from rfl) (i3I (y := (209 + 20 * a2)) (i3A (i3A (show (200 : Int32) = i3 200 from rfl) (i3M (show (20 : Int32) = i3 20 from rfl) (rfl : i3 a2 = i3 a2))) (show (9 : Int32) = i3 9 from rfl)) (by omega) (by omega) (by omega))) (by omega) (by omega) (by omega) (by omega)) (decide_eq_true (by omega))) ?_
                exact zlR hP (show (-1 : Int32) = i3 (-1) from rfl) ⟨by omega, by omega⟩
            · replace hP := zE_n hP h20
              exact zlR hP (show (1 : Int32) = i3 1 from rfl) ⟨by omega, by omega⟩
    · replace hP := zE_n hP h6
      refine wz_i0 (i3O (n := 4400) (i3A (i3A (show (200 : Int32) = i3 200 from rfl) (i3M (show (20 : Int32) = i3 20 from rfl) (rfl : i3 a2 = i3 a2))) (show (8 : Int32) = i3 8 from rfl)) (by omega) (by omega) (by omega)) ?_
      have r24 := zM_k hZ 2 0 0 (208 + 20 * a2) (lo := 0) (hi := 999) (by decide) (zs_200_8 (x := a2) (by omega) (by omega) (by omega))
      refine wz_br (i3L (zm_rd (Z := Z) (ν := ν) (k := 2) (show ((0 : Nat) : Int) = 0 from rfl) (show ((0 : Nat) : Int) = 0 from rfl) (i3I (y := (208 + 20 * a2)) (i3A (i3A (show (200 : Int32) = i3 200 from rfl) (i3M (show (20 : Int32) = i3 20 from rfl) (rfl : i3 a2 = i3 a2))) (show (8 : Int32) = i3 8 from rfl)) (by omega) (by omega) (by omega))) (show (24 : Int32) = i3 24 from rfl) (by omega) (by omega) (by omega) (by omega)) (fun h25 => ?_) (fun h25 => ?_)
      · replace hP := zE_p hP h25
        refine wz_i0 (i3O (n := 4400) (i3A (i3A (show (3520 : Int32) = i3 3520 from rfl) (i3M (show (10 : Int32) = i3 10 from rfl) (rfl : i3 a1 = i3 a1))) (show (1 : Int32) = i3 1 from rfl)) (by omega) (by omega) (by omega)) ?_
        have r26 := zM_k hZ 2 0 0 (3521 + 10 * a1) (lo := 0) (hi := 3) (by decide) (zs_3520_1 (x := a1) (by omega) (by omega) (by omega))
        refine wz_br (i3L (zm_rd (Z := Z) (ν := ν) (k := 2) (show ((0 : Nat) : Int) = 0 from rfl) (show ((0 : Nat) : Int) = 0 from rfl) (i3I (y := (3521 + 10 * a1)) (i3A (i3A (show (3520 : Int32) = i3 3520 from rfl) (i3M (show (10 : Int32) = i3 10 from rfl) (rfl : i3 a1 = i3 a1))) (show (1 : Int32) = i3 1 from rfl)) (by omega) (by omega) (by omega))) (show (1 : Int32) = i3 1 from rfl) (by omega) (by omega) (by omega) (by omega)) (fun h27 => ?_) (fun h27 => ?_)
        · replace hP := zE_p hP h27
          exact zlR hP (show (-1 : Int32) = i3 (-1) from rfl) ⟨by omega, by omega⟩
        · replace hP := zE_n hP h27
          have r28 := zM_k hZ 2 0 0 (209 + 20 * a2) (lo := -1) (hi := 3) (by decide) (zs_200_9 (x := a2) (by omega) (by omega) (by omega))
          refine wz_br (i3E (zm_rd (Z := Z) (ν := ν) (k := 2) (show ((0 : Nat) : Int) = 0 from rfl) (show ((0 : Nat) : Int) = 0 from rfl) (i3I (y := (209 + 20 * a2)) (i3A (i3A (show (200 : Int32) = i3 200 from rfl) (i3M (show (20 : Int32) = i3 20 from rfl) (rfl : i3 a2 = i3 a2))) (show (9 : Int32) = i3 9 from rfl)) (by omega) (by omega) (by omega))) (show (-1 : Int32) = i3 (-1) from rfl) (by omega) (by omega) (by omega) (by omega)) (fun h29 => ?_) (fun h29 => ?_)
          · replace hP := zE_p hP h29
            exact zlR hP (show (-1 : Int32) = i3 (-1) from rfl) ⟨by omega, by omega⟩
          · replace hP := zE_n hP h29
            obtain ⟨v30, hv30, c9, lv30, uv30⟩ := sp_326 (ν := ν) hZ (a1 := a2) (by omega) (zbh (c := 0) (k := 0) hM (Nat.le_of_ble_eq_true rfl))
            replace hP := zl_e hP hv30
            refine wz_cI_of (zas (zcons rfl (zcons (zvi (rfl : i3 a2 = i3 a2)) rfl)) c9) ?_
            clear c9
            refine wz_br (i3Le (rfl : i3 v30 = i3 v30) (zm_rd (Z := Z) (ν := ν) (k := 2) (show ((0 : Nat) : Int) = 0 from rfl) (show ((0 : Nat) : Int) = 0 from rfl) (i3I (y := (209 + 20 * a2)) (i3A (i3A (show (200 : Int32) = i3 200 from rfl) (i3M (show (20 : Int32) = i3 20 from rfl) (rfl : i3 a2 = i3 a2))) (show (9 : Int32) = i3 9 from rfl)) (by omega) (by omega) (by omega))) (by omega) (by omega) (by omega) (by omega)) (fun h31 => ?_) (fun h31 => ?_)
            · replace hP := zE_p hP h31
              exact zlR hP (show (-1 : Int32) = i3 (-1) from rfl) ⟨by omega, by omega⟩
            · replace hP := zE_n hP h31
              exact zlR hP (show (2 : Int32) = i3 2 from rfl) ⟨by omega, by omega⟩
      · replace hP := zE_n hP h25
        have r32 := zM_k hZ 2 0 0 (209 + 20 * a2) (lo := -1) (hi := 3) (by decide) (zs_200_9 (x := a2) (by omega) (by omega) (by omega))
        refine wz_br (i3L (zm_rd (Z := Z) (ν := ν) (k := 2) (show ((0 : Nat) : Int) = 0 from rfl) (show ((0 : Nat) : Int) = 0 from rfl) (i3I (y := (209 + 20 * a2)) (i3A (i3A (show (200 : Int32) = i3 200 from rfl) (i3M (show (20 : Int32) = i3 20 from rfl) (rfl : i3 a2 = i3 a2))) (show (9 : Int32) = i3 9 from rfl)) (by omega) (by omega) (by omega))) (show (0 : Int32) = i3 0 from rfl) (by omega) (by omega) (by omega) (by omega)) (fun h33 => ?_) (fun h33 => ?_)
        · replace hP := zE_p hP h33
          refine wz_i0 (i3O (n := 4400) (i3A (i3A (show (3520 : Int32) = i3 3520 from rfl) (i3M (show (10 : Int32) = i3 10 from rfl) (rfl : i3 a1 = i3 a1))) (show (1 : Int32) = i3 1 from rfl)) (by omega) (by omega) (by omega)) ?_
          have r34 := zM_k hZ 2 0 0 (3521 + 10 * a1) (lo := 0) (hi := 3) (by decide) (zs_3520_1 (x := a1) (by omega) (by omega) (by omega))
          refine wz_br (i3L (zm_rd (Z := Z) (ν := ν) (k := 2) (show ((0 : Nat) : Int) = 0 from rfl) (show ((0 : Nat) : Int) = 0 from rfl) (i3I (y := (3521 + 10 * a1)) (i3A (i3A (show (3520 : Int32) = i3 3520 from rfl) (i3M (show (10 : Int32) = i3 10 from rfl) (rfl : i3 a1 = i3 a1))) (show (1 : Int32) = i3 1 from rfl)) (by omega) (by omega) (by omega))) (show (1 : Int32) = i3 1 from rfl) (by omega) (by omega) (by omega) (by omega)) (fun h35 => ?_) (fun h35 => ?_)
          · replace hP := zE_p hP h35
            exact zlR hP (show (-1 : Int32) = i3 (-1) from rfl) ⟨by omega, by omega⟩
          · replace hP := zE_n hP h35
            refine wz_i1 (Eq.trans (i3E (zm_rd (Z := Z) (ν := ν) (k := 2) (show ((0 : Nat) : Int) = 0 from rfl) (show ((0 : Nat) : Int) = 0 from rfl) (i3I (y := (209 + 20 * a2)) (i3A (i3A (show (200 : Int32) = i3 200 from rfl) (i3M (show (20 : Int32) = i3 20 from rfl) (rfl : i3 a2 = i3 a2))) (show (9 : Int32) = i3 9 from rfl)) (by omega) (by omega) (by omega))) (show (-1 : Int32) = i3 (-1) from rfl) (by omega) (by omega) (by omega) (by omega)) (decide_eq_true (by omega))) ?_
            exact zlR hP (show (-1 : Int32) = i3 (-1) from rfl) ⟨by omega, by omega⟩
        · replace hP := zE_n hP h33
          refine wz_br (i3L (show (2 : Int32) = i3 2 from rfl) (zm_rd (Z := Z) (ν := ν) (k := 2) (show ((0 : Nat) : Int) = 0 from rfl) (show ((0 : Nat) : Int) = 0 from rfl) (i3I (y := (209 + 20 * a2)) (i3A (i3A (show (200 : Int32) = i3 200 from rfl) (i3M (show (20 : Int32) = i3 20 from rfl) (rfl : i3 a2 = i3 a2))) (show (9 : Int32) = i3 9 from rfl)) (by omega) (by omega) (by omega))) (by omega) (by omega) (by omega) (by omega)) (fun h36 => ?_) (fun h36 => ?_)
          · replace hP := zE_p hP h36
            refine wz_i0 (i3O (n := 4400) (i3A (i3A (show (3520 : Int32) = i3 3520 from rfl) (i3M (show (10 : Int32) = i3 10 from rfl) (rfl : i3 a1 = i3 a1))) (show (1 : Int32) = i3 1 from rfl)) (by omega) (by omega) (by omega)) ?_
            have r37 := zM_k hZ 2 0 0 (3521 + 10 * a1) (lo := 0) (hi := 3) (by decide) (zs_3520_1 (x := a1) (by omega) (by omega) (by omega))
            refine wz_br (i3L (zm_rd (Z := Z) (ν := ν) (k := 2) (show ((0 : Nat) : Int) = 0 from rfl) (show ((0 : Nat) : Int) = 0 from rfl) (i3I (y := (3521 + 10 * a1)) (i3A (i3A (show (3520 : Int32) = i3 3520 from rfl) (i3M (show (10 : Int32) = i3 10 from rfl) (rfl : i3 a1 = i3 a1))) (show (1 : Int32) = i3 1 from rfl)) (by omega) (by omega) (by omega))) (show (1 : Int32) = i3 1 from rfl) (by omega) (by omega) (by omega) (by omega)) (fun h38 => ?_) (fun h38 => ?_)
            · replace hP := zE_p hP h38
              exact zlR hP (show (-1 : Int32) = i3 (-1) from rfl) ⟨by omega, by omega⟩
            · replace hP := zE_n hP h38
              refine wz_i0 (Eq.trans (i3E (zm_rd (Z := Z) (ν := ν) (k := 2) (show ((0 : Nat) : Int) = 0 from rfl) (show ((0 : Nat) : Int) = 0 from rfl) (i3I (y := (209 + 20 * a2)) (i3A (i3A (show (200 : Int32) = i3 200 from rfl) (i3M (show (20 : Int32) = i3 20 from rfl) (rfl : i3 a2 = i3 a2))) (show (9 : Int32) = i3 9 from rfl)) (by omega) (by omega) (by omega))) (show (-1 : Int32) = i3 (-1) from rfl) (by omega) (by omega) (by omega) (by omega)) (decide_eq_false (by omega))) ?_
              obtain ⟨v39, hv39, c9, lv39, uv39⟩ := sp_326 (ν := ν) hZ (a1 := a2) (by omega) (zbh (c := 0) (k := 0) hM (Nat.le_of_ble_eq_true rfl))
              replace hP := zl_e hP hv39
              refine wz_cI_of (zas (zcons rfl (zcons (zvi (rfl : i3 a2 = i3 a2)) rfl)) c9) ?_
              clear c9
              refine wz_i1 (Eq.trans (i3Le (rfl : i3 v39 = i3 v39) (zm_rd (Z := Z) (ν := ν) (k := 2) (show ((0 : Nat) : Int) = 0 from rfl) (show ((0 : Nat) : Int) = 0 from rfl) (i3I (y := (209 + 20 * a2)) (i3A (i3A (show (200 : Int32) = i3 200 from rfl) (i3M (show (20 : Int32) = i3 20 from rfl) (rfl : i3 a2 = i3 a2))) (show (9 : Int32) = i3 9 from rfl)) (by omega) (by omega) (by omega))) (by omega) (by omega) (by omega) (by omega)) (decide_eq_true (by omega))) ?_
              exact zlR hP (show (-1 : Int32) = i3 (-1) from rfl) ⟨by omega, by omega⟩
          · replace hP := zE_n hP h36
            exact zlR hP (show (1 : Int32) = i3 1 from rfl) ⟨by omega, by omega⟩
  · replace hP := zE_n hP h5
    refine wz_i0 (i3O (n := 4400) (i3A (i3A (show (200 : Int32) = i3 200 from rfl) (i3M (show (20 : Int32) = i3 20 from rfl) (rfl : i3 a2 = i3 a2))) (show (8 : Int32) = i3 8 from rfl)) (by omega) (by omega) (by omega)) ?_
    have r40 := zM_k hZ 2 0 0 (208 + 20 * a2) (lo := 0) (hi := 999) (by decide) (zs_200_8 (x := a2) (by omega) (by omega) (by omega))
    refine wz_br (i3L (zm_rd (Z := Z) (ν := ν) (k := 2) (show ((0 : Nat) : Int) = 0 from rfl) (show ((0 : Nat) : Int) = 0 from rfl) (i3I (y := (208 + 20 * a2)) (i3A (i3A (show (200 : Int32) = i3 200 from rfl) (i3M (show (20 : Int32) = i3 20 from rfl) (rfl : i3 a2 = i3 a2))) (show (8 : Int32) = i3 8 from rfl)) (by omega) (by omega) (by omega))) (show (24 : Int32) = i3 24 from rfl) (by omega) (by omega) (by omega) (by omega)) (fun h41 => ?_) (fun h41 => ?_)
    · replace hP := zE_p hP h41
      refine wz_i0 (i3O (n := 4400) (i3A (i3A (show (3520 : Int32) = i3 3520 from rfl) (i3M (show (10 : Int32) = i3 10 from rfl) (rfl : i3 a1 = i3 a1))) (show (1 : Int32) = i3 1 from rfl)) (by omega) (by omega) (by omega)) ?_
      have r42 := zM_k hZ 2 0 0 (3521 + 10 * a1) (lo := 0) (hi := 3) (by decide) (zs_3520_1 (x := a1) (by omega) (by omega) (by omega))
      refine wz_br (i3L (zm_rd (Z := Z) (ν := ν) (k := 2) (show ((0 : Nat) : Int) = 0 from rfl) (show ((0 : Nat) : Int) = 0 from rfl) (i3I (y := (3521 + 10 * a1)) (i3A (i3A (show (3520 : Int32) = i3 3520 from rfl) (i3M (show (10 : Int32) = i3 10 from rfl) (rfl : i3 a1 = i3 a1))) (show (1 : Int32) = i3 1 from rfl)) (by omega) (by omega) (by omega))) (show (1 : Int32) = i3 1 from rfl) (by omega) (by omega) (by omega) (by omega)) (fun h43 => ?_) (fun h43 => ?_)
      · replace hP := zE_p hP h43
        exact zlR hP (show (-1 : Int32) = i3 (-1) from rfl) ⟨by omega, by omega⟩
      · replace hP := zE_n hP h43
        have r44 := zM_k hZ 2 0 0 (209 + 20 * a2) (lo := -1) (hi := 3) (by decide) (zs_200_9 (x := a2) (by omega) (by omega) (by omega))
        refine wz_br (i3E (zm_rd (Z := Z) (ν := ν) (k := 2) (show ((0 : Nat) : Int) = 0 from rfl) (show ((0 : Nat) : Int) = 0 from rfl) (i3I (y := (209 + 20 * a2)) (i3A (i3A (show (200 : Int32) = i3 200 from rfl) (i3M (show (20 : Int32) = i3 20 from rfl) (rfl : i3 a2 = i3 a2))) (show (9 : Int32) = i3 9 from rfl)) (by omega) (by omega) (by omega))) (show (-1 : Int32) = i3 (-1) from rfl) (by omega) (by omega) (by omega) (by omega)) (fun h45 => ?_) (fun h45 => ?_)
        · replace hP := zE_p hP h45
          exact zlR hP (show (-1 : Int32) = i3 (-1) from rfl) ⟨by omega, by omega⟩
        · replace hP := zE_n hP h45
          obtain ⟨v46, hv46, c9, lv46, uv46⟩ := sp_326 (ν := ν) hZ (a1 := a2) (by omega) (zbh (c := 0) (k := 0) hM (Nat.le_of_ble_eq_true rfl))
          replace hP := zl_e hP hv46
          refine wz_cI_of (zas (zcons rfl (zcons (zvi (rfl : i3 a2 = i3 a2)) rfl)) c9) ?_
          clear c9
          refine wz_br (i3Le (rfl : i3 v46 = i3 v46) (zm_rd (Z := Z) (ν := ν) (k := 2) (show ((0 : Nat) : Int) = 0 from rfl) (show ((0 : Nat) : Int) = 0 from rfl) (i3I (y := (209 + 20 * a2)) (i3A (i3A (show (200 : Int32) = i3 200 from rfl) (i3M (show (20 : Int32) = i3 20 from rfl) (rfl : i3 a2 = i3 a2))) (show (9 : Int32) = i3 9 from rfl)) (by omega) (by omega) (by omega))) (by omega) (by omega) (by omega) (by omega)) (fun h47 => ?_) (fun h47 => ?_)
          · replace hP := zE_p hP h47
            exact zlR hP (show (-1 : Int32) = i3 (-1) from rfl) ⟨by omega, by omega⟩
          · replace hP := zE_n hP h47
            exact zlR hP (show (2 : Int32) = i3 2 from rfl) ⟨by omega, by omega⟩
    · replace hP := zE_n hP h41
      have r48 := zM_k hZ 2 0 0 (209 + 20 * a2) (lo := -1) (hi := 3) (by decide) (zs_200_9 (x := a2) (by omega) (by omega) (by omega))
      refine wz_br (i3L (zm_rd (Z := Z) (ν := ν) (k := 2) (show ((0 : Nat) : Int) = 0 from rfl) (show ((0 : Nat) : Int) = 0 from rfl) (i3I (y := (209 + 20 * a2)) (i3A (i3A (show (200 : Int32) = i3 200 from rfl) (i3M (show (20 : Int32) = i3 20 from rfl) (rfl : i3 a2 = i3 a2))) (show (9 : Int32) = i3 9 from rfl)) (by omega) (by omega) (by omega))) (show (0 : Int32) = i3 0 from rfl) (by omega) (by omega) (by omega) (by omega)) (fun h49 => ?_) (fun h49 => ?_)
      · replace hP := zE_p hP h49
        refine wz_i0 (i3O (n := 4400) (i3A (i3A (show (3520 : Int32) = i3 3520 from rfl) (i3M (show (10 : Int32) = i3 10 from rfl) (rfl : i3 a1 = i3 a1))) (show (1 : Int32) = i3 1 from rfl)) (by omega) (by omega) (by omega)) ?_
        have r50 := zM_k hZ 2 0 0 (3521 + 10 * a1) (lo := 0) (hi := 3) (by decide) (zs_3520_1 (x := a1) (by omega) (by omega) (by omega))
        refine wz_br (i3L (zm_rd (Z := Z) (ν := ν) (k := 2) (show ((0 : Nat) : Int) = 0 from rfl) (show ((0 : Nat) : Int) = 0 from rfl) (i3I (y := (3521 + 10 * a1)) (i3A (i3A (show (3520 : Int32) = i3 3520 from rfl) (i3M (show (10 : Int32) = i3 10 from rfl) (rfl : i3 a1 = i3 a1))) (show (1 : Int32) = i3 1 from rfl)) (by omega) (by omega) (by omega))) (show (1 : Int32) = i3 1 from rfl) (by omega) (by omega) (by omega) (by omega)) (fun h51 => ?_) (fun h51 => ?_)
        · replace hP := zE_p hP h51
          exact zlR hP (show (-1 : Int32) = i3 (-1) from rfl) ⟨by omega, by omega⟩
        · replace hP := zE_n hP h51
          refine wz_i1 (Eq.trans (i3E (zm_rd (Z := Z) (ν := ν) (k := 2) (show ((0 : Nat) : Int) = 0 from rfl) (show ((0 : Nat) : Int) = 0 from rfl) (i3I (y := (209 + 20 * a2)) (i3A (i3A (show (200 : Int32) = i3 200 from rfl) (i3M (show (20 : Int32) = i3 20 from rfl) (rfl : i3 a2 = i3 a2))) (show (9 : Int32) = i3 9 from rfl)) (by omega) (by omega) (by omega))) (show (-1 : Int32) = i3 (-1) from rfl) (by omega) (by omega) (by omega) (by omega)) (decide_eq_true (by omega))) ?_
          exact zlR hP (show (-1 : Int32) = i3 (-1) from rfl) ⟨by omega, by omega⟩
      · replace hP := zE_n hP h49
        refine wz_br (i3L (show (2 : Int32) = i3 2 from rfl) (zm_rd (Z := Z) (ν := ν) (k := 2) (show ((0 : Nat) : Int) = 0 from rfl) (show ((0 : Nat) : Int) = 0 from rfl) (i3I (y := (209 + 20 * a2)) (i3A (i3A (show (200 : Int32) = i3 200 from rfl) (i3M (show (20 : Int32) = i3 20 from rfl) (rfl : i3 a2 = i3 a2))) (show (9 : Int32) = i3 9 from rfl)) (by omega) (by omega) (by omega))) (by omega) (by omega) (by omega) (by omega)) (fun h52 => ?_) (fun h52 => ?_)
        · replace hP := zE_p hP h52
          refine wz_i0 (i3O (n := 4400) (i3A (i3A (show (3520 : Int32) = i3 3520 from rfl) (i3M (show (10 : Int32) = i3 10 from rfl) (rfl : i3 a1 = i3 a1))) (show (1 : Int32) = i3 1 from rfl)) (by omega) (by omega) (by omega)) ?_
          have r53 := zM_k hZ 2 0 0 (3521 + 10 * a1) (lo := 0) (hi := 3) (by decide) (zs_3520_1 (x := a1) (by omega) (by omega) (by omega))
          refine wz_br (i3L (zm_rd (Z := Z) (ν := ν) (k := 2) (show ((0 : Nat) : Int) = 0 from rfl) (show ((0 : Nat) : Int) = 0 from rfl) (i3I (y := (3521 + 10 * a1)) (i3A (i3A (show (3520 : Int32) = i3 3520 from rfl) (i3M (show (10 : Int32) = i3 10 from rfl) (rfl : i3 a1 = i3 a1))) (show (1 : Int32) = i3 1 from rfl)) (by omega) (by omega) (by omega))) (show (1 : Int32) = i3 1 from rfl) (by omega) (by omega) (by omega) (by omega)) (fun h54 => ?_) (fun h54 => ?_)
          · replace hP := zE_p hP h54
            exact zlR hP (show (-1 : Int32) = i3 (-1) from rfl) ⟨by omega, by omega⟩
          · replace hP := zE_n hP h54
            refine wz_i0 (Eq.trans (i3E (zm_rd (Z := Z) (ν := ν) (k := 2) (show ((0 : Nat) : Int) = 0 from rfl) (show ((0 : Nat) : Int) = 0 from rfl) (i3I (y := (209 + 20 * a2)) (i3A (i3A (show (200 : Int32) = i3 200 from rfl) (i3M (show (20 : Int32) = i3 20 from rfl) (rfl : i3 a2 = i3 a2))) (show (9 : Int32) = i3 9 from rfl)) (by omega) (by omega) (by omega))) (show (-1 : Int32) = i3 (-1) from rfl) (by omega) (by omega) (by omega) (by omega)) (decide_eq_false (by omega))) ?_
            obtain ⟨v55, hv55, c9, lv55, uv55⟩ := sp_326 (ν := ν) hZ (a1 := a2) (by omega) (zbh (c := 0) (k := 0) hM (Nat.le_of_ble_eq_true rfl))
            replace hP := zl_e hP hv55
            refine wz_cI_of (zas (zcons rfl (zcons (zvi (rfl : i3 a2 = i3 a2)) rfl)) c9) ?_
            clear c9
            refine wz_i1 (Eq.trans (i3Le (rfl : i3 v55 = i3 v55) (zm_rd (Z := Z) (ν := ν) (k := 2) (show ((0 : Nat) : Int) = 0 from rfl) (show ((0 : Nat) : Int) = 0 from rfl) (i3I (y := (209 + 20 * a2)) (i3A (i3A (show (200 : Int32) = i3 200 from rfl) (i3M (show (20 : Int32) = i3 20 from rfl) (rfl : i3 a2 = i3 a2))) (show (9 : Int32) = i3 9 from rfl)) (by omega) (by omega) (by omega))) (by omega) (by omega) (by omega) (by omega)) (decide_eq_true (by omega))) ?_
            exact zlR hP (show (-1 : Int32) = i3 (-1) from rfl) ⟨by omega, by omega⟩
        · replace hP := zE_n hP h52
          exact zlR hP (show (1 : Int32) = i3 1 from rfl) ⟨by omega, by omega⟩
/- yX12_iLook -/
def zl_365_1 (x1 : Int) (x2 : Int) (x3 : Int) : Nat → qz_Z → Int → Int → qz_Z × Int × Int
  | 0, Z, x4, x5 => (Z, x4, x5)
  | m + 1, Z, x4, x5 => (if (Z 2 0 0 102) ≤ x5 then (Z, x4, x5) else (if 1 < (Z 2 0 0 (210 + 20 * x5)) then zl_365_1 x1 x2 x3 m Z x4 (x5 + 1) else (if (Z 2 0 0 (211 + 20 * x5)) ≠ x3 then zl_365_1 x1 x2 x3 m Z x4 (x5 + 1) else (zlet (zf_364 Z x1 x5) (fun v8 => (if v8 = (-1) then zl_365_1 x1 x2 x3 m Z x4 (x5 + 1) else (zlet (zf_357 Z x1 x5 v8 x2) (fun Z10 => zl_365_1 x1 x2 x3 m Z10 (x4 + 1) (x5 + 1)))))))))
theorem sl_365_1 {s : zSM} {xM9 : Nat} {Zs Z : qz_Z} {ν : qz_N} (hZ : zM (zb s xM9) Z) (hM : s.2 + 6076 ≤ 1000000000) (hK : zC [2] Zs Z) {x1 : Int} (gx1 : 0 ≤ x1 ∧ x1 ≤ 1) {x2 : Int} (gx2 : 0 ≤ x2 ∧ x2 ≤ 9) {x3 : Int} (gx3 : -1 ≤ x3 ∧ x3 ≤ 8) {x4 : Int} (gx4 : 0 ≤ x4 ∧ x4 ≤ 48) {x5 : Int} (gx5 : 0 ≤ x5 ∧ x5 ≤ 48) (hU : zU [] Zs Z) (hx9 : xM9 + 124 * ((48 - x5).toNat) + 124 ≤ 6076) (gr0 : x4 ≤ x5) {k : wz_K} {R : wz_R} {L : qz_L} (hL : qz_fg [true, true, true, true, true, true, false, false] L = [some (.inr (.inr (some (1, 0, 0)))), some (.inl (i3 x1)), some (.inl (i3 x2)), some (.inl (i3 x3)), some (.inl (i3 x4)), some (.inl (i3 x5)), none, none]) {T : qz_Z × Int × Int} (hP : zE T (zl_365_1 x1 x2 x3 ((48 - x5).toNat + 1) Z x4 x5)) (hk : ∀ (L9 : qz_L) (Z9 : qz_Z) (yx4 yx5 : Int), qz_fg [true, true, false, true, true, false, false, false] L9 = [some (.inr (.inr (some (1, 0, 0)))), some (.inl (i3 x1)), none, some (.inl (i3 x3)), some (.inl (i3 yx4)), none, none, none] → zM (zb s 6076) Z9 → zC [2] Zs Z9 → zU [] Zs Z9 → (0 ≤ yx4 ∧ yx4 ≤ 48) → (0 ≤ yx5 ∧ yx5 ≤ 48) → (yx4 ≤ yx5) → zE T ((Z9, yx4, yx5)) → k 0 (L9, [], zm Z9 ν)) : wz_loop qb_365_1 65536 k R (L, [], zm Z ν) := by
  refine wz_lp sb_365_1 (fun m x => ∃ xM9 : Nat, ∃ Z : qz_Z, ∃ x4 : Int, ∃ x5 : Int, qz_fg [true, true, true, true, true, true, false, false] x.1 = [some (.inr (.inr (some (1, 0, 0)))), some (.inl (i3 x1)), some (.inl (i3 x2)), some (.inl (i3 x3)), some (.inl (i3 x4)), some (.inl (i3 x5)), none, none] ∧ x.2 = ([], zm Z ν) ∧ xM9 + 124 * m + 124 ≤ 6076 ∧ zM (zb s xM9) Z ∧ zC [2] Zs Z ∧ zU [] Zs Z ∧ m = (48 - x5).toNat ∧ (0 ≤ x4 ∧ x4 ≤ 48) ∧ (0 ≤ x5 ∧ x5 ≤ 48) ∧ (x4 ≤ x5) ∧ zE T (zl_365_1 x1 x2 x3 (m + 1) Z x4 x5)) ?_ 65536 ((48 - x5).toNat) _ (by omega) ⟨xM9, Z, x4, x5, hL, rfl, hx9, hZ, hK, hU, rfl, gx4, gx5, gr0, hP⟩
  clear hP gr0 gx4 gx5 hx9 hZ hK hU hL
  clear x4 x5
  clear Z
  clear xM9
  rintro m ⟨L, st, μ⟩ ⟨xM9, Z, x4, x5, hL, hx, hx9, hZ, hK, hU, hm, gx4, gx5, gr0, hP⟩
  cases hx
  have hM9 : (zb s xM9).2 + 124 ≤ 1000000000 := by
    show s.2 + xM9 + 124 ≤ 1000000000
    omega
  refine fb_365_1 (i3 x1) (i3 x2) (i3 x3) (i3 x4) (i3 x5) _ _ _ _ hL ?_
  have r1 := zM_k hZ 2 0 0 102 (lo := 0) (hi := 48) (by decide) rfl
  refine wz_br (i3Le (zm_rd (Z := Z) (ν := ν) (k := 2) (show ((0 : Nat) : Int) = 0 from rfl) (show ((0 : Nat) : Int) = 0 from rfl) (show ((102 : Nat) : Int) = 102 from rfl)) (rfl : i3 x5 = i3 x5) (by omega) (by omega) (by omega) (by omega)) (fun h2 => ?_) (fun h2 => ?_)
  · replace hP := zE_p hP h2
    exact hk _ _ _ _ (zconso rfl (zconso (zvo (rfl : i3 x1 = i3 x1)) (zconso rfl (zconso (zvo (rfl : i3 x3 = i3 x3)) (zconso (zvo (rfl : i3 x4 = i3 x4)) (zconso rfl (zconso rfl (zconso rfl rfl)))))))) (zmx0 hZ (by omega)) hK hU (by omega) (by omega) (by omega) hP
  · replace hP := zE_n hP h2
    refine wz_i0 (i3O (n := 4400) (i3A (i3A (show (200 : Int32) = i3 200 from rfl) (i3M (show (20 : Int32) = i3 20 from rfl) (rfl : i3 x5 = i3 x5))) (show (10 : Int32) = i3 10 from rfl)) (by omega) (by omega) (by omega)) ?_
    have r3 := zM_k hZ 2 0 0 (210 + 20 * x5) (lo := 0) (hi := 4) (by decide) (zs_200_10 (x := x5) (by omega) (by omega) (by omega))
    have r4 := zM_pl hZ x5
    refine wz_br (i3L (show (1 : Int32) = i3 1 from rfl) (zm_rd (Z := Z) (ν := ν) (k := 2) (show ((0 : Nat) : Int) = 0 from rfl) (show ((0 : Nat) : Int) = 0 from rfl) (i3I (y := (210 + 20 * x5)) (i3A (i3A (show (200 : Int32) = i3 200 from rfl) (i3M (show (20 : Int32) = i3 20 from rfl) (rfl : i3 x5 = i3 x5))) (show (10 : Int32) = i3 10 from rfl)) (by omega) (by omega) (by omega))) (by omega) (by omega) (by omega) (by omega)) (fun h5 => ?_) (fun h5 => ?_)
    · replace hP := zE_p hP h5
      obtain ⟨m2, rfl⟩ : ∃ m2, m = m2 + 1 := ⟨m - 1, by omega⟩
      exact wz_k1 ⟨m2, by omega, xM9, Z, x4, (x5 + 1), (zconso rfl (zconso (zvo (rfl : i3 x1 = i3 x1)) (zconso (zvo (rfl : i3 x2 = i3 x2)) (zconso (zvo (rfl : i3 x3 = i3 x3)) (zconso (zvo (rfl : i3 x4 = i3 x4)) (zconso (zvo (i3A (rfl : i3 x5 = i3 x5) (show (1 : Int32) = i3 1 from rfl))) (zconso rfl (zconso rfl rfl)))))))), rfl, by omega, hZ, hK, hU, by omega, by omega, by omega, by omega,  hP⟩
    · replace hP := zE_n hP h5
      refine wz_i0 (i3O (n := 4400) (i3A (i3A (show (200 : Int32) = i3 200 from rfl) (i3M (show (20 : Int32) = i3 20 from rfl) (rfl : i3 x5 = i3 x5))) (show (11 : Int32) = i3 11 from rfl)) (by omega) (by omega) (by omega)) ?_
      have r6 := zM_k hZ 2 0 0 (211 + 20 * x5) (lo := -1) (hi := 6) (by decide) (zs_200_11 (x := x5) (by omega) (by omega) (by omega))
      refine wz_br (i3NE (zm_rd (Z := Z) (ν := ν) (k := 2) (show ((0 : Nat) : Int) = 0 from rfl) (show ((0 : Nat) : Int) = 0 from rfl) (i3I (y := (211 + 20 * x5)) (i3A (i3A (show (200 : Int32) = i3 200 from rfl) (i3M (show (20 : Int32) = i3 20 from rfl) (rfl : i3 x5 = i3 x5))) (show (11 : Int32) = i3 11 from rfl)) (by omega) (by omega) (by omega))) (rfl : i3 x3 = i3 x3) (by omega) (by omega) (by omega) (by omega)) (fun h7 => ?_) (fun h7 => ?_)
      · replace hP := zE_p hP h7
        obtain ⟨m2, rfl⟩ : ∃ m2, m = m2 + 1 := ⟨m - 1, by omega⟩
        exact wz_k1 ⟨m2, by omega, xM9, Z, x4, (x5 + 1), (zconso rfl (zconso (zvo (rfl : i3 x1 = i3 x1)) (zconso (zvo (rfl : i3 x2 = i3 x2)) (zconso (zvo (rfl : i3 x3 = i3 x3)) (zconso (zvo (rfl : i3 x4 = i3 x4)) (zconso (zvo (i3A (rfl : i3 x5 = i3 x5) (show (1 : Int32) = i3 1 from rfl))) (zconso rfl (zconso rfl rfl)))))))), rfl, by omega, hZ, hK, hU, by omega, by omega, by omega, by omega,  hP⟩
      · replace hP := zE_n hP h7
        obtain ⟨v8, hv8, c9, lv8, uv8⟩ := sp_364 (ν := ν) hZ (a1 := x1) (by omega) (a2 := x5) (by omega) (zbh (c := 0) (k := 0) hM9 (Nat.le_of_ble_eq_true rfl))
        replace hP := zl_e hP hv8
        refine wz_cI_of (zas (zcons rfl (zcons (zvi (rfl : i3 x1 = i3 x1)) (zcons (zvi (rfl : i3 x5 = i3 x5)) rfl))) c9) ?_
        clear c9
        refine wz_br (i3E (rfl : i3 v8 = i3 v8) (show (-1 : Int32) = i3 (-1) from rfl) (by omega) (by omega) (by omega) (by omega)) (fun h9 => ?_) (fun h9 => ?_)
        · replace hP := zE_p hP h9
          obtain ⟨m2, rfl⟩ : ∃ m2, m = m2 + 1 := ⟨m - 1, by omega⟩
          exact wz_k1 ⟨m2, by omega, xM9, Z, x4, (x5 + 1), (zconso rfl (zconso (zvo (rfl : i3 x1 = i3 x1)) (zconso (zvo (rfl : i3 x2 = i3 x2)) (zconso (zvo (rfl : i3 x3 = i3 x3)) (zconso (zvo (rfl : i3 x4 = i3 x4)) (zconso (zvo (i3A (rfl : i3 x5 = i3 x5) (show (1 : Int32) = i3 1 from rfl))) (zconso rfl (zconso rfl rfl)))))))), rfl, by omega, hZ, hK, hU, by omega, by omega, by omega, by omega,  hP⟩
        · replace hP := zE_n hP h9
          obtain ⟨Z10, hZ10, c9, hZ10I, kZ10, jZ10⟩ := sp_357 (ν := ν) hZ (a1 := x1) (by omega) (a2 := x5) (by omega) (a3 := v8) (by omega) (a4 := x2) (by omega) (zbh (c := 0) (k := 124) hM9 (Nat.le_of_ble_eq_true rfl))
          have hZ10U : zU [] Zs Z10 := zU_t hU jZ10 zU_b0
          have hZ10K : zC [2] Zs Z10 := zC_t hK kZ10 (by decide)
          replace hP := zl_e hP hZ10
          refine wz_cV_of (zas (zcons rfl (zcons (zvi (rfl : i3 x1 = i3 x1)) (zcons (zvi (rfl : i3 x5 = i3 x5)) (zcons (zvi (rfl : i3 v8 = i3 v8)) (zcons (zvi (rfl : i3 x2 = i3 x2)) rfl))))) c9) ?_
          clear c9
          obtain ⟨m2, rfl⟩ : ∃ m2, m = m2 + 1 := ⟨m - 1, by omega⟩
          exact wz_k1 ⟨m2, by omega, xM9 + 124, Z10, (x4 + 1), (x5 + 1), (zconso rfl (zconso (zvo (rfl : i3 x1 = i3 x1)) (zconso (zvo (rfl : i3 x2 = i3 x2)) (zconso (zvo (rfl : i3 x3 = i3 x3)) (zconso (zvo (i3A (rfl : i3 x4 = i3 x4) (show (1 : Int32) = i3 1 from rfl))) (zconso (zvo (i3A (rfl : i3 x5 = i3 x5) (show (1 : Int32) = i3 1 from rfl))) (zconso rfl (zconso rfl rfl)))))))), rfl, by omega, (zmt hZ10I rfl), hZ10K, hZ10U, by omega, by omega, by omega, by omega,  hP⟩
/- yX12_iLook -/
def zf_365 (Z : qz_Z) (a1 : Int) (a2 : Int) : qz_Z × Int := (if a2 ≠ 7 then (zlet3 (zl_365_1 a1 a2 (a2 - 1) 49 Z 0 0) (fun Z4 y2 y3 => (zlet (zu Z4 2 0 0 (3524 + 10 * a1) (w3 ((Z4 2 0 0 (3524 + 10 * a1)) + 1))) (fun Z8 => (zlet (zu Z8 2 0 0 (3527 + 10 * a1) (Z8 2 0 0 0)) (fun Z10 => (if (a2 - 1) = 6 then (Z10, y2) else (if y2 < (4 - (Z10 2 0 0 (3521 + 10 * a1))) then (Z10, y2) else (zlet (zu Z10 2 0 0 (3509 + a2) ((Z10 2 0 0 0) + 24)) (fun Z16 => (Z16, y2))))))))))) else (zlet3 (zl_365_1 a1 a2 6 49 Z 0 0) (fun Z19 y17 y18 => (zlet (zu Z19 2 0 0 (3524 + 10 * a1) (w3 ((Z19 2 0 0 (3524 + 10 * a1)) + 1))) (fun Z23 => (zlet (zu Z23 2 0 0 (3527 + 10 * a1) (Z23 2 0 0 0)) (fun Z25 => (Z25, y17))))))))
theorem sp_365 {s : zSM} {Z : qz_Z} {ν : qz_N} (hZ : zM s Z) {a1 : Int} (ga1 : 0 ≤ a1 ∧ a1 ≤ 1) {a2 : Int} (ga2 : 0 ≤ a2 ∧ a2 ≤ 9) (hM : s.2 + 6076 ≤ 1000000000) : ∃ (Z1 : qz_Z) (P : Int), (Z1, P) = zf_365 Z a1 a2 ∧ (qf_365 [.inr (.inr (some (1, 0, 0))), .inl (i3 a1), .inl (i3 a2)] (zm Z ν) = some (zm Z1 ν, .inl (some (.inl (i3 P)))) ∧ zM (zb s 6076) Z1 ∧ zC [2] Z Z1 ∧ zU [] Z Z1 ∧ 0 ≤ P ∧ P ≤ 48) := by
  obtain ⟨P, hP⟩ := zx (zf_365 Z a1 a2)
  refine zc_W (Q := fun Z1 P => zM (zb s 6076) Z1 ∧ zC [2] Z Z1 ∧ zU [] Z Z1 ∧ 0 ≤ P ∧ P ≤ 48) hP (fw_365 (i3 a1) (i3 a2) _ _ ?_)
  replace hP : zE P (zf_365 Z a1 a2) := hP
  unfold zf_365 at hP
  refine wz_br (i3NE (rfl : i3 a2 = i3 a2) (show (7 : Int32) = i3 7 from rfl) (by omega) (by omega) (by omega) (by omega)) (fun h1 => ?_) (fun h1 => ?_)
  · replace hP := zE_p hP h1
    refine sl_365_1 (ν := ν) (zm0 hZ) (zbh (c := 0) (k := 6076) hM (Nat.le_of_ble_eq_true rfl)) (xM9 := 0) zC_r (x1 := a1) (by omega) (x2 := a2) (by omega) (x3 := (a2 - 1)) (by omega) (x4 := 0) (by omega) (x5 := 0) (by omega) zU_r (Nat.le_of_ble_eq_true rfl) (by omega) (zconso rfl (zconso (zvo (rfl : i3 a1 = i3 a1)) (zconso (zvo (rfl : i3 a2 = i3 a2)) (zconso (zvo (i3S (rfl : i3 a2 = i3 a2) (show (1 : Int32) = i3 1 from rfl))) (zconso (zvo (show (0 : Int32) = i3 0 from rfl)) (zconso (zvo (show (0 : Int32) = i3 0 from rfl)) (zconso rfl (zconso rfl rfl)))))))) rfl ?_
    intro L5 Z4 y2 y3 hL5 hZ4I kZ4 jZ4 gy2 gy3 gL5_0 q9
    replace hP := zl_e3 hP (Eq.symm q9)
    clear q9
    have hZ4U : zU [] Z Z4 := zU_t zU_r jZ4 zU_b0
    have hZ4K : zC [2] Z Z4 := zC_t zC_r kZ4 (by decide)
    refine fc_365_2 (i3 a1) (i3 (a2 - 1)) (i3 y2) _ _ _ _ hL5 ?_
    refine wz_i0 (i3O (n := 4400) (i3A (i3A (show (3520 : Int32) = i3 3520 from rfl) (i3M (show (10 : Int32) = i3 10 from rfl) (rfl : i3 a1 = i3 a1))) (show (4 : Int32) = i3 4 from rfl)) (by omega) (by omega) (by omega)) ?_
    refine wz_i0 (i3O (n := 4400) (i3A (i3A (show (3520 : Int32) = i3 3520 from rfl) (i3M (show (10 : Int32) = i3 10 from rfl) (rfl : i3 a1 = i3 a1))) (show (4 : Int32) = i3 4 from rfl)) (by omega) (by omega) (by omega)) ?_
    have r6 := zM_f hZ4I 2 0 0 (3524 + 10 * a1)
    have r7 := w3_r ((Z4 2 0 0 (3524 + 10 * a1)) + 1)
    obtain ⟨Z8, hZ8⟩ := zx (zu Z4 2 0 0 (3524 + 10 * a1) (w3 ((Z4 2 0 0 (3524 + 10 * a1)) + 1)))
    replace hP := zl_e hP hZ8
    have hZ8I := zM_u2 hZ4I hZ8 (lo := -2147483648) (hi := 2147483647) (zs_3520_4 (x := a1) (by omega) (by omega) (by omega)) (by omega) ⟨by decide, by decide⟩ (by simp only [zsp]; omega)
    have hZ8U : zU [] Z Z8 := zU_u hZ4U hZ8 (Or.inl rfl)
    have hZ8K : zC [2] Z Z8 := zC_u hZ4K hZ8 (zcl_2w (by omega) rfl)
    intro μ9 e9
    replace e9 := e9.trans (zm_wI (Z := Z4) (ν := ν) hZ8 (show ((0 : Nat) : Int) = 0 from rfl) (show ((0 : Nat) : Int) = 0 from rfl) (i3I (y := (3524 + 10 * a1)) (i3A (i3A (show (3520 : Int32) = i3 3520 from rfl) (i3M (show (10 : Int32) = i3 10 from rfl) (rfl : i3 a1 = i3 a1))) (show (4 : Int32) = i3 4 from rfl)) (by omega) (by omega) (by omega)) (i3W (i3A (zm_rd (Z := Z4) (ν := ν) (k := 2) (show ((0 : Nat) : Int) = 0 from rfl) (show ((0 : Nat) : Int) = 0 from rfl) (i3I (y := (3524 + 10 * a1)) (i3A (i3A (show (3520 : Int32) = i3 3520 from rfl) (i3M (show (10 : Int32) = i3 10 from rfl) (rfl : i3 a1 = i3 a1))) (show (4 : Int32) = i3 4 from rfl)) (by omega) (by omega) (by omega))) (show (1 : Int32) = i3 1 from rfl))))
    subst e9
    refine wz_i0 (i3O (n := 4400) (i3A (i3A (show (3520 : Int32) = i3 3520 from rfl) (i3M (show (10 : Int32) = i3 10 from rfl) (rfl : i3 a1 = i3 a1))) (show (7 : Int32) = i3 7 from rfl)) (by omega) (by omega) (by omega)) ?_
    have r9 := zM_k hZ8I 2 0 0 0 (lo := 0) (hi := 671) (by decide) rfl
    obtain ⟨Z10, hZ10⟩ := zx (zu Z8 2 0 0 (3527 + 10 * a1) (Z8 2 0 0 0))
    replace hP := zl_e hP hZ10
    have hZ10I := zM_u2 hZ8I hZ10 (lo := -1) (hi := 671) (zs_3520_7 (x := a1) (by omega) (by omega) (by omega)) (by omega) ⟨by decide, by decide⟩ (by simp only [zsp]; omega)
    have hZ10U : zU [] Z Z10 := zU_u hZ8U hZ10 (Or.inl rfl)
    have hZ10K : zC [2] Z Z10 := zC_u hZ8K hZ10 (zcl_2w (by omega) rfl)
    intro μ9 e9
    replace e9 := e9.trans (zm_wI (Z := Z8) (ν := ν) hZ10 (show ((0 : Nat) : Int) = 0 from rfl) (show ((0 : Nat) : Int) = 0 from rfl) (i3I (y := (3527 + 10 * a1)) (i3A (i3A (show (3520 : Int32) = i3 3520 from rfl) (i3M (show (10 : Int32) = i3 10 from rfl) (rfl : i3 a1 = i3 a1))) (show (7 : Int32) = i3 7 from rfl)) (by omega) (by omega) (by omega)) (zm_rd (Z := Z8) (ν := ν) (k := 2) (show ((0 : Nat) : Int) = 0 from rfl) (show ((0 : Nat) : Int) = 0 from rfl) (show ((0 : Nat) : Int) = 0 from rfl)))
    subst e9
    refine wz_br (i3E (rfl : i3 (a2 - 1) = i3 (a2 - 1)) (show (6 : Int32) = i3 6 from rfl) (by omega) (by omega) (by omega) (by omega)) (fun h11 => ?_) (fun h11 => ?_)
    · replace hP := zE_p hP h11
      exact zlW hP (rfl : i3 y2 = i3 y2) ⟨hZ10I, hZ10K, hZ10U, by omega, by omega⟩
    · replace hP := zE_n hP h11
      refine wz_i0 (i3O (n := 4400) (i3A (i3A (show (3520 : Int32) = i3 3520 from rfl) (i3M (show (10 : Int32) = i3 10 from rfl) (rfl : i3 a1 = i3 a1))) (show (1 : Int32) = i3 1 from rfl)) (by omega) (by omega) (by omega)) ?_
      have r12 := zM_k hZ10I 2 0 0 (3521 + 10 * a1) (lo := 0) (hi := 3) (by decide) (zs_3520_1 (x := a1) (by omega) (by omega) (by omega))
      refine wz_br (i3L (rfl : i3 y2 = i3 y2) (i3S (show (4 : Int32) = i3 4 from rfl) (zm_rd (Z := Z10) (ν := ν) (k := 2) (show ((0 : Nat) : Int) = 0 from rfl) (show ((0 : Nat) : Int) = 0 from rfl) (i3I (y := (3521 + 10 * a1)) (i3A (i3A (show (3520 : Int32) = i3 3520 from rfl) (i3M (show (10 : Int32) = i3 10 from rfl) (rfl : i3 a1 = i3 a1))) (show (1 : Int32) = i3 1 from rfl)) (by omega) (by omega) (by omega)))) (by omega) (by omega) (by omega) (by omega)) (fun h13 => ?_) (fun h13 => ?_)
      · replace hP := zE_p hP h13
        exact zlW hP (rfl : i3 y2 = i3 y2) ⟨hZ10I, hZ10K, hZ10U, by omega, by omega⟩
      · replace hP := zE_n hP h13
        refine wz_i0 (i3O (n := 4400) (i3A (show (3510 : Int32) = i3 3510 from rfl) (rfl : i3 (a2 - 1) = i3 (a2 - 1))) (by omega) (by omega) (by omega)) ?_
        have r14 := zM_k hZ10I 2 0 0 0 (lo := 0) (hi := 671) (by decide) rfl
        have q15 := zu_ne (k' := 2) (b' := 0) (i' := 0) (j' := 0) hZ10 (fun q => absurd q.2.2.2 (by omega))
        obtain ⟨Z16, hZ16⟩ := zx (zu Z10 2 0 0 (3509 + a2) ((Z10 2 0 0 0) + 24))
        replace hP := zl_e hP hZ16
        have hZ16I := zM_u2 hZ10I hZ16 (lo := 0) (hi := 695) (zs_3509 (by omega) (by omega)) (by omega) ⟨by decide, by decide⟩ (by simp only [zsp]; omega)
        have hZ16U : zU [] Z Z16 := zU_u hZ10U hZ16 (Or.inl rfl)
        have hZ16K : zC [2] Z Z16 := zC_u hZ10K hZ16 (zcl_2w (by omega) rfl)
        intro μ9 e9
        replace e9 := e9.trans (zm_wI (Z := Z10) (ν := ν) hZ16 (show ((0 : Nat) : Int) = 0 from rfl) (show ((0 : Nat) : Int) = 0 from rfl) (i3I (y := (3509 + a2)) (i3A (show (3510 : Int32) = i3 3510 from rfl) (rfl : i3 (a2 - 1) = i3 (a2 - 1))) (by omega) (by omega) (by omega)) (i3A (zm_rd (Z := Z10) (ν := ν) (k := 2) (show ((0 : Nat) : Int) = 0 from rfl) (show ((0 : Nat) : Int) = 0 from rfl) (show ((0 : Nat) : Int) = 0 from rfl)) (show (24 : Int32) = i3 24 from rfl)))
        subst e9
        exact zlW hP (rfl : i3 y2 = i3 y2) ⟨hZ16I, hZ16K, hZ16U, by omega, by omega⟩
  · replace hP := zE_n hP h1
    refine sl_365_1 (ν := ν) (zm0 hZ) (zbh (c := 0) (k := 6076) hM (Nat.le_of_ble_eq_true rfl)) (xM9 := 0) zC_r (x1 := a1) (by omega) (x2 := a2) (by omega) (x3 := 6) (by omega) (x4 := 0) (by omega) (x5 := 0) (by omega) zU_r (Nat.le_of_ble_eq_true rfl) (by omega) (zconso rfl (zconso (zvo (rfl : i3 a1 = i3 a1)) (zconso (zvo (rfl : i3 a2 = i3 a2)) (zconso (zvo (show (6 : Int32) = i3 6 from rfl)) (zconso (zvo (show (0 : Int32) = i3 0 from rfl)) (zconso (zvo (show (0 : Int32) = i3 0 from rfl)) (zconso rfl (zconso rfl rfl)))))))) rfl ?_
    intro L20 Z19 y17 y18 hL20 hZ19I kZ19 jZ19 gy17 gy18 gL20_0 q9
    replace hP := zl_e3 hP (Eq.symm q9)
    clear q9
    have hZ19U : zU [] Z Z19 := zU_t zU_r jZ19 zU_b0
    have hZ19K : zC [2] Z Z19 := zC_t zC_r kZ19 (by decide)
    refine fc_365_2 (i3 a1) (i3 6) (i3 y17) _ _ _ _ hL20 ?_
    refine wz_i0 (i3O (n := 4400) (i3A (i3A (show (3520 : Int32) = i3 3520 from rfl) (i3M (show (10 : Int32) = i3 10 from rfl) (rfl : i3 a1 = i3 a1))) (show (4 : Int32) = i3 4 from rfl)) (by omega) (by omega) (by omega)) ?_
    refine wz_i0 (i3O (n := 4400) (i3A (i3A (show (3520 : Int32) = i3 3520 from rfl) (i3M (show (10 : Int32) = i3 10 from rfl) (rfl : i3 a1 = i3 a1))) (show (4 : Int32) = i3 4 from rfl)) (by omega) (by omega) (by omega)) ?_
    have r21 := zM_f hZ19I 2 0 0 (3524 + 10 * a1)
    have r22 := w3_r ((Z19 2 0 0 (3524 + 10 * a1)) + 1)
    obtain ⟨Z23, hZ23⟩ := zx (zu Z19 2 0 0 (3524 + 10 * a1) (w3 ((Z19 2 0 0 (3524 + 10 * a1)) + 1)))
    replace hP := zl_e hP hZ23
    have hZ23I := zM_u2 hZ19I hZ23 (lo := -2147483648) (hi := 2147483647) (zs_3520_4 (x := a1) (by omega) (by omega) (by omega)) (by omega) ⟨by decide, by decide⟩ (by simp only [zsp]; omega)
    have hZ23U : zU [] Z Z23 := zU_u hZ19U hZ23 (Or.inl rfl)
    have hZ23K : zC [2] Z Z23 := zC_u hZ19K hZ23 (zcl_2w (by omega) rfl)
    intro μ9 e9
    replace e9 := e9.trans (zm_wI (Z := Z19) (ν := ν) hZ23 (show ((0 : Nat) : Int) = 0 from rfl) (show ((0 : Nat) : Int) = 0 from rfl) (i3I (y := (3524 + 10 * a1)) (i3A (i3A (show (3520 : Int32) = i3 3520 from rfl) (i3M (show (10 : Int32) = i3 10 from rfl) (rfl : i3 a1 = i3 a1))) (show (4 : Int32) = i3 4 from rfl)) (by omega) (by omega) (by omega)) (i3W (i3A (zm_rd (Z := Z19) (ν := ν) (k := 2) (show ((0 : Nat) : Int) = 0 from rfl) (show ((0 : Nat) : Int) = 0 from rfl) (i3I (y := (3524 + 10 * a1)) (i3A (i3A (show (3520 : Int32) = i3 3520 from rfl) (i3M (show (10 : Int32) = i3 10 from rfl) (rfl : i3 a1 = i3 a1))) (show (4 : Int32) = i3 4 from rfl)) (by omega) (by omega) (by omega))) (show (1 : Int32) = i3 1 from rfl))))
    subst e9
    refine wz_i0 (i3O (n := 4400) (i3A (i3A (show (3520 : Int32) = i3 3520 from rfl) (i3M (show (10 : Int32) = i3 10 from rfl) (rfl : i3 a1 = i3 a1))) (show (7 : Int32) = i3 7 from rfl)) (by omega) (by omega) (by omega)) ?_
    have r24 := zM_k hZ23I 2 0 0 0 (lo := 0) (hi := 671) (by decide) rfl
    obtain ⟨Z25, hZ25⟩ := zx (zu Z23 2 0 0 (3527 + 10 * a1) (Z23 2 0 0 0))
    replace hP := zl_e hP hZ25
    have hZ25I := zM_u2 hZ23I hZ25 (lo := -1) (hi := 671) (zs_3520_7 (x := a1) (by omega) (by omega) (by omega)) (by omega) ⟨by decide, by decide⟩ (by simp only [zsp]; omega)
    have hZ25U : zU [] Z Z25 := zU_u hZ23U hZ25 (Or.inl rfl)
    have hZ25K : zC [2] Z Z25 := zC_u hZ23K hZ25 (zcl_2w (by omega) rfl)
    intro μ9 e9
    replace e9 := e9.trans (zm_wI (Z := Z23) (ν := ν) hZ25 (show ((0 : Nat) : Int) = 0 from rfl) (show ((0 : Nat) : Int) = 0 from rfl) (i3I (y := (3527 + 10 * a1)) (i3A (i3A (show (3520 : Int32) = i3 3520 from rfl) (i3M (show (10 : Int32) = i3 10 from rfl) (rfl : i3 a1 = i3 a1))) (show (7 : Int32) = i3 7 from rfl)) (by omega) (by omega) (by omega)) (zm_rd (Z := Z23) (ν := ν) (k := 2) (show ((0 : Nat) : Int) = 0 from rfl) (show ((0 : Nat) : Int) = 0 from rfl) (show ((0 : Nat) : Int) = 0 from rfl)))
    subst e9
    refine wz_i1 (Eq.trans (i3E (rfl : i3 6 = i3 6) (show (6 : Int32) = i3 6 from rfl) (by omega) (by omega) (by omega) (by omega)) (decide_eq_true (by omega))) ?_
    exact zlW hP (rfl : i3 y17 = i3 y17) ⟨hZ25I, hZ25K, hZ25U, by omega, by omega⟩
/- yX12_iHour -/
def zl_358_1 : Nat → qz_Z → Int → qz_Z × Int
  | 0, Z, x1 => (Z, x1)
  | m + 1, Z, x1 => (if (Z 2 0 0 3500) ≤ x1 then (Z, x1) else (zlet (zf_355 Z x1 (Z 2 0 0 0)) (fun v4 => (if v4 ≤ 0 then zl_358_1 m Z (x1 + 1) else (zlet2 (zf_365 Z x1 v4) (fun Z6 v7 => zl_358_1 m Z6 (x1 + 1)))))))
theorem sl_358_1 {s : zSM} {xM9 : Nat} {Zs Z : qz_Z} {ν : qz_N} (hZ : zM (zb s xM9) Z) (hM : s.2 + 18228 ≤ 1000000000) (hK : zC [2] Zs Z) {x1 : Int} (gx1 : 0 ≤ x1 ∧ x1 ≤ 2) (hU : zU [] Zs Z) (hx9 : xM9 + 6076 * ((2 - x1).toNat) + 6076 ≤ 18228) {k : wz_K} {R : wz_R} {L : qz_L} (hL : qz_fg [true, true, false] L = [some (.inr (.inr (some (1, 0, 0)))), some (.inl (i3 x1)), none]) {T : qz_Z × Int} (hP : zE T (zl_358_1 ((2 - x1).toNat + 1) Z x1)) (hk : ∀ (L9 : qz_L) (Z9 : qz_Z) (yx1 : Int), qz_fg [false, false, false] L9 = [none, none, none] → zM (zb s 18228) Z9 → zC [2] Zs Z9 → zU [] Zs Z9 → (0 ≤ yx1 ∧ yx1 ≤ 2) → zE T ((Z9, yx1)) → k 0 (L9, [], zm Z9 ν)) : wz_loop qb_358_1 65536 k R (L, [], zm Z ν) := by
  refine wz_lp sb_358_1 (fun m x => ∃ xM9 : Nat, ∃ Z : qz_Z, ∃ x1 : Int, qz_fg [true, true, false] x.1 = [some (.inr (.inr (some (1, 0, 0)))), some (.inl (i3 x1)), none] ∧ x.2 = ([], zm Z ν) ∧ xM9 + 6076 * m + 6076 ≤ 18228 ∧ zM (zb s xM9) Z ∧ zC [2] Zs Z ∧ zU [] Zs Z ∧ m = (2 - x1).toNat ∧ (0 ≤ x1 ∧ x1 ≤ 2) ∧ zE T (zl_358_1 (m + 1) Z x1)) ?_ 65536 ((2 - x1).toNat) _ (by omega) ⟨xM9, Z, x1, hL, rfl, hx9, hZ, hK, hU, rfl, gx1, hP⟩
  clear hP gx1 hx9 hZ hK hU hL
  clear x1
  clear Z
  clear xM9
  rintro m ⟨L, st, μ⟩ ⟨xM9, Z, x1, hL, hx, hx9, hZ, hK, hU, hm, gx1, hP⟩
  cases hx
  have hM9 : (zb s xM9).2 + 6076 ≤ 1000000000 := by
    show s.2 + xM9 + 6076 ≤ 1000000000
    omega
  refine fb_358_1 (i3 x1) _ _ _ _ hL ?_
  have r1 := zM_k hZ 2 0 0 3500 (lo := 0) (hi := 2) (by decide) rfl
  refine wz_br (i3Le (zm_rd (Z := Z) (ν := ν) (k := 2) (show ((0 : Nat) : Int) = 0 from rfl) (show ((0 : Nat) : Int) = 0 from rfl) (show ((3500 : Nat) : Int) = 3500 from rfl)) (rfl : i3 x1 = i3 x1) (by omega) (by omega) (by omega) (by omega)) (fun h2 => ?_) (fun h2 => ?_)
  · replace hP := zE_p hP h2
    exact hk _ _ _ (zconso rfl (zconso rfl (zconso rfl rfl))) (zmx0 hZ (by omega)) hK hU (by omega)  hP
  · replace hP := zE_n hP h2
    have r3 := zM_k hZ 2 0 0 0 (lo := 0) (hi := 671) (by decide) rfl
    obtain ⟨v4, hv4, c9, lv4, uv4⟩ := sp_355 (ν := ν) hZ (a1 := x1) (by omega) (a2 := (Z 2 0 0 0)) (by omega) (zbh (c := 0) (k := 0) hM9 (Nat.le_of_ble_eq_true rfl))
    replace hP := zl_e hP hv4
    refine wz_cI_of (zas (zcons rfl (zcons (zvi (rfl : i3 x1 = i3 x1)) (zcons (zvi (zm_rd (Z := Z) (ν := ν) (k := 2) (show ((0 : Nat) : Int) = 0 from rfl) (show ((0 : Nat) : Int) = 0 from rfl) (show ((0 : Nat) : Int) = 0 from rfl))) rfl))) c9) ?_
    clear c9
    refine wz_br (i3Le (rfl : i3 v4 = i3 v4) (show (0 : Int32) = i3 0 from rfl) (by omega) (by omega) (by omega) (by omega)) (fun h5 => ?_) (fun h5 => ?_)
    · replace hP := zE_p hP h5
      obtain ⟨m2, rfl⟩ : ∃ m2, m = m2 + 1 := ⟨m - 1, by omega⟩
      exact wz_k1 ⟨m2, by omega, xM9, Z, (x1 + 1), (zconso rfl (zconso (zvo (i3A (rfl : i3 x1 = i3 x1) (show (1 : Int32) = i3 1 from rfl))) (zconso rfl rfl))), rfl, by omega, hZ, hK, hU, by omega, by omega,  hP⟩
    · replace hP := zE_n hP h5
      obtain ⟨Z6, v7, hv7, c9, hZ6I, kZ6, jZ6, lv7, uv7⟩ := sp_365 (ν := ν) hZ (a1 := x1) (by omega) (a2 := v4) (by omega) (zbh (c := 0) (k := 6076) hM9 (Nat.le_of_ble_eq_true rfl))
      have hZ6U : zU [] Zs Z6 := zU_t hU jZ6 zU_b0
      have hZ6K : zC [2] Zs Z6 := zC_t hK kZ6 (by decide)
      replace hP := zl_e2 hP hv7
      refine wz_cI_of (zas (zcons rfl (zcons (zvi (rfl : i3 x1 = i3 x1)) (zcons (zvi (rfl : i3 v4 = i3 v4)) rfl))) c9) ?_
      clear c9 hv7
      obtain ⟨m2, rfl⟩ : ∃ m2, m = m2 + 1 := ⟨m - 1, by omega⟩
      exact wz_k1 ⟨m2, by omega, xM9 + 6076, Z6, (x1 + 1), (zconso rfl (zconso (zvo (i3A (rfl : i3 x1 = i3 x1) (show (1 : Int32) = i3 1 from rfl))) (zconso rfl rfl))), rfl, by omega, (zmt hZ6I rfl), hZ6K, hZ6U, by omega, by omega,  hP⟩
/- yX12_iHour -/
def zf_358 (Z : qz_Z) : qz_Z := (zlet2 (zl_358_1 3 Z 0) (fun Z2 y1 => Z2))
theorem sp_358 {s : zSM} {Z : qz_Z} {ν : qz_N} (hZ : zM s Z) (hM : s.2 + 18228 ≤ 1000000000) : ∃ P : qz_Z, P = zf_358 Z ∧ (qf_358 [.inr (.inr (some (1, 0, 0)))] (zm Z ν) = some (zm P ν, .inl none) ∧ zM (zb s 18228) P ∧ zC [2] Z P ∧ zU [] Z P) := by
  obtain ⟨P, hP⟩ := zx (zf_358 Z)
  refine zc_V (Q := fun P => zM (zb s 18228) P ∧ zC [2] Z P ∧ zU [] Z P) hP (fw_358  _ _ ?_)
  replace hP : zE P (zf_358 Z) := hP
  unfold zf_358 at hP
  refine sl_358_1 (ν := ν) (zm0 hZ) (zbh (c := 0) (k := 18228) hM (Nat.le_of_ble_eq_true rfl)) (xM9 := 0) zC_r (x1 := 0) (by omega) zU_r (Nat.le_of_ble_eq_true rfl)  (zconso rfl (zconso (zvo (show (0 : Int32) = i3 0 from rfl)) (zconso rfl rfl))) rfl ?_
  intro L3 Z2 y1 hL3 hZ2I kZ2 jZ2 gy1 q9
  replace hP := zl_e2 hP (Eq.symm q9)
  clear q9
  have hZ2U : zU [] Z Z2 := zU_t zU_r jZ2 zU_b0
  have hZ2K : zC [2] Z Z2 := zC_t zC_r kZ2 (by decide)
  refine fc_358_2  _ _ _ _ hL3 ?_
  exact zlV hP ⟨hZ2I, hZ2K, hZ2U⟩
/- yX12_bGiven -/
def zf_272 (Z : qz_Z) (a1 : Int) (a2 : Int) : qz_Z := (if (Z 2 0 0 (1810 + 2 * a1)) ≤ a2 then (zlet (zu Z 2 0 0 (1810 + 2 * a1) ((Z 2 0 0 (1810 + 2 * a1)) - (Z 2 0 0 (1810 + 2 * a1)))) (fun Z3 => (zlet (zu Z3 2 0 0 (1413 + 12 * (Z 2 0 0 (2011 + 16 * a1))) (w3 ((Z3 2 0 0 (1413 + 12 * (Z 2 0 0 (2011 + 16 * a1)))) + (w3 (a2 - (Z 2 0 0 (1810 + 2 * a1))))))) (fun Z8 => (zlet (zu Z8 2 0 0 (1416 + 12 * (Z 2 0 0 (2011 + 16 * a1))) (w3 ((Z8 2 0 0 (1416 + 12 * (Z 2 0 0 (2011 + 16 * a1)))) + a2))) (fun Z11 => Z11)))))) else (zlet (zu Z 2 0 0 (1810 + 2 * a1) ((Z 2 0 0 (1810 + 2 * a1)) - a2)) (fun Z12 => (zlet (zu Z12 2 0 0 (1413 + 12 * (Z 2 0 0 (2011 + 16 * a1))) ((Z12 2 0 0 (1413 + 12 * (Z 2 0 0 (2011 + 16 * a1)))) + (a2 - a2))) (fun Z15 => (zlet (zu Z15 2 0 0 (1416 + 12 * (Z 2 0 0 (2011 + 16 * a1))) (w3 ((Z15 2 0 0 (1416 + 12 * (Z 2 0 0 (2011 + 16 * a1)))) + a2))) (fun Z18 => Z18)))))))
theorem sp_272 {s : zSM} {Z : qz_Z} {ν : qz_N} (hZ : zM s Z) {a1 : Int} (ga1 : 0 ≤ a1 ∧ a1 ≤ 59) {a2 : Int} (ga2 : 1 ≤ a2 ∧ a2 ≤ 15998400) (hM : s.2 + 0 ≤ 1000000000) : ∃ P : qz_Z, P = zf_272 Z a1 a2 ∧ (qf_272 [.inr (.inr (some (1, 0, 0))), .inl (i3 a1), .inl (i3 a2)] (zm Z ν) = some (zm P ν, .inl none) ∧ zM s P ∧ zC [2] Z P ∧ zU [] Z P) := by
  obtain ⟨P, hP⟩ := zx (zf_272 Z a1 a2)
  refine zc_V (Q := fun P => zM s P ∧ zC [2] Z P ∧ zU [] Z P) hP (fw_272 (i3 a1) (i3 a2) _ _ ?_)
  replace hP : zE P (zf_272 Z a1 a2) := hP
  unfold zf_272 at hP
  refine wz_i0 (i3O (n := 4400) (i3A (i3A (show (2010 : Int32) = i3 2010 from rfl) (i3M (show (16 : Int32) = i3 16 from rfl) (rfl : i3 a1 = i3 a1))) (show (1 : Int32) = i3 1 from rfl)) (by omega) (by omega) (by omega)) ?_
  refine wz_i0 (i3O (n := 4400) (i3A (show (1810 : Int32) = i3 1810 from rfl) (i3M (show (2 : Int32) = i3 2 from rfl) (rfl : i3 a1 = i3 a1))) (by omega) (by omega) (by omega)) ?_
  have r1 := zM_f hZ 2 0 0 (1810 + 2 * a1)
  refine wz_br (i3Le (zm_rd (Z := Z) (ν := ν) (k := 2) (show ((0 : Nat) : Int) = 0 from rfl) (show ((0 : Nat) : Int) = 0 from rfl) (i3I (y := (1810 + 2 * a1)) (i3A (show (1810 : Int32) = i3 1810 from rfl) (i3M (show (2 : Int32) = i3 2 from rfl) (rfl : i3 a1 = i3 a1))) (by omega) (by omega) (by omega))) (rfl : i3 a2 = i3 a2) (by omega) (by omega) (by omega) (by omega)) (fun h2 => ?_) (fun h2 => ?_)
  · replace hP := zE_p hP h2
    refine wz_i0 (i3O (n := 4400) (i3A (show (1810 : Int32) = i3 1810 from rfl) (i3M (show (2 : Int32) = i3 2 from rfl) (rfl : i3 a1 = i3 a1))) (by omega) (by omega) (by omega)) ?_
    refine wz_i0 (i3O (n := 4400) (i3A (show (1810 : Int32) = i3 1810 from rfl) (i3M (show (2 : Int32) = i3 2 from rfl) (rfl : i3 a1 = i3 a1))) (by omega) (by omega) (by omega)) ?_
    refine wz_i0 (i3O (n := 4400) (i3A (show (1810 : Int32) = i3 1810 from rfl) (i3M (show (2 : Int32) = i3 2 from rfl) (rfl : i3 a1 = i3 a1))) (by omega) (by omega) (by omega)) ?_
    obtain ⟨Z3, hZ3⟩ := zx (zu Z 2 0 0 (1810 + 2 * a1) ((Z 2 0 0 (1810 + 2 * a1)) - (Z 2 0 0 (1810 + 2 * a1))))
    replace hP := zl_e hP hZ3
    have hZ3I := zM_u2 hZ hZ3 (lo := -2147483648) (hi := 2147483647) (zs_1810_0 (x := a1) (by omega) (by omega) (by omega)) (by omega) ⟨by decide, by decide⟩ (by simp only [zsp]; omega)
    have hZ3U : zU [] Z Z3 := zU_u zU_r hZ3 (Or.inl rfl)
    have hZ3K : zC [2] Z Z3 := zC_u zC_r hZ3 (zcl_2w (by omega) rfl)
    intro μ9 e9
    replace e9 := e9.trans (zm_wI (Z := Z) (ν := ν) hZ3 (show ((0 : Nat) : Int) = 0 from rfl) (show ((0 : Nat) : Int) = 0 from rfl) (i3I (y := (1810 + 2 * a1)) (i3A (show (1810 : Int32) = i3 1810 from rfl) (i3M (show (2 : Int32) = i3 2 from rfl) (rfl : i3 a1 = i3 a1))) (by omega) (by omega) (by omega)) (i3S (zm_rd (Z := Z) (ν := ν) (k := 2) (show ((0 : Nat) : Int) = 0 from rfl) (show ((0 : Nat) : Int) = 0 from rfl) (i3I (y := (1810 + 2 * a1)) (i3A (show (1810 : Int32) = i3 1810 from rfl) (i3M (show (2 : Int32) = i3 2 from rfl) (rfl : i3 a1 = i3 a1))) (by omega) (by omega) (by omega))) (zm_rd (Z := Z) (ν := ν) (k := 2) (show ((0 : Nat) : Int) = 0 from rfl) (show ((0 : Nat) : Int) = 0 from rfl) (i3I (y := (1810 + 2 * a1)) (i3A (show (1810 : Int32) = i3 1810 from rfl) (i3M (show (2 : Int32) = i3 2 from rfl) (rfl : i3 a1 = i3 a1))) (by omega) (by omega) (by omega)))))
    subst e9
    have r4 := zM_k hZ 2 0 0 (2011 + 16 * a1) (lo := 0) (hi := 7) (by decide) (zs_2010_1 (x := a1) (by omega) (by omega) (by omega))
    refine wz_i0 (i3O (n := 4400) (i3A (i3A (show (1410 : Int32) = i3 1410 from rfl) (i3M (show (12 : Int32) = i3 12 from rfl) (zm_rd (Z := Z) (ν := ν) (k := 2) (show ((0 : Nat) : Int) = 0 from rfl) (show ((0 : Nat) : Int) = 0 from rfl) (i3I (y := (2011 + 16 * a1)) (i3A (i3A (show (2010 : Int32) = i3 2010 from rfl) (i3M (show (16 : Int32) = i3 16 from rfl) (rfl : i3 a1 = i3 a1))) (show (1 : Int32) = i3 1 from rfl)) (by omega) (by omega) (by omega))))) (show (3 : Int32) = i3 3 from rfl)) (by omega) (by omega) (by omega)) ?_
    refine wz_i0 (i3O (n := 4400) (i3A (i3A (show (1410 : Int32) = i3 1410 from rfl) (i3M (show (12 : Int32) = i3 12 from rfl) (zm_rd (Z := Z) (ν := ν) (k := 2) (show ((0 : Nat) : Int) = 0 from rfl) (show ((0 : Nat) : Int) = 0 from rfl) (i3I (y := (2011 + 16 * a1)) (i3A (i3A (show (2010 : Int32) = i3 2010 from rfl) (i3M (show (16 : Int32) = i3 16 from rfl) (rfl : i3 a1 = i3 a1))) (show (1 : Int32) = i3 1 from rfl)) (by omega) (by omega) (by omega))))) (show (3 : Int32) = i3 3 from rfl)) (by omega) (by omega) (by omega)) ?_
    have r5 := zM_f hZ3I 2 0 0 (1413 + 12 * (Z 2 0 0 (2011 + 16 * a1)))
    have r6 := w3_r (a2 - (Z 2 0 0 (1810 + 2 * a1)))
    have r7 := w3_r ((Z3 2 0 0 (1413 + 12 * (Z 2 0 0 (2011 + 16 * a1)))) + (w3 (a2 - (Z 2 0 0 (1810 + 2 * a1)))))
    obtain ⟨Z8, hZ8⟩ := zx (zu Z3 2 0 0 (1413 + 12 * (Z 2 0 0 (2011 + 16 * a1))) (w3 ((Z3 2 0 0 (1413 + 12 * (Z 2 0 0 (2011 + 16 * a1)))) + (w3 (a2 - (Z 2 0 0 (1810 + 2 * a1)))))))
    replace hP := zl_e hP hZ8
    have hZ8I := zM_u2 hZ3I hZ8 (lo := -2147483648) (hi := 2147483647) (zs_1410_3 (x := (Z 2 0 0 (2011 + 16 * a1))) (by omega) (by omega) (by omega)) (by omega) ⟨by decide, by decide⟩ (by simp only [zsp]; omega)
    have hZ8U : zU [] Z Z8 := zU_u hZ3U hZ8 (Or.inl rfl)
    have hZ8K : zC [2] Z Z8 := zC_u hZ3K hZ8 (zcl_2w (by omega) rfl)
    intro μ9 e9
    replace e9 := e9.trans (zm_wI (Z := Z3) (ν := ν) hZ8 (show ((0 : Nat) : Int) = 0 from rfl) (show ((0 : Nat) : Int) = 0 from rfl) (i3I (y := (1413 + 12 * (Z 2 0 0 (2011 + 16 * a1)))) (i3A (i3A (show (1410 : Int32) = i3 1410 from rfl) (i3M (show (12 : Int32) = i3 12 from rfl) (zm_rd (Z := Z) (ν := ν) (k := 2) (show ((0 : Nat) : Int) = 0 from rfl) (show ((0 : Nat) : Int) = 0 from rfl) (i3I (y := (2011 + 16 * a1)) (i3A (i3A (show (2010 : Int32) = i3 2010 from rfl) (i3M (show (16 : Int32) = i3 16 from rfl) (rfl : i3 a1 = i3 a1))) (show (1 : Int32) = i3 1 from rfl)) (by omega) (by omega) (by omega))))) (show (3 : Int32) = i3 3 from rfl)) (by omega) (by omega) (by omega)) (i3W (i3A (zm_rd (Z := Z3) (ν := ν) (k := 2) (show ((0 : Nat) : Int) = 0 from rfl) (show ((0 : Nat) : Int) = 0 from rfl) (i3I (y := (1413 + 12 * (Z 2 0 0 (2011 + 16 * a1)))) (i3A (i3A (show (1410 : Int32) = i3 1410 from rfl) (i3M (show (12 : Int32) = i3 12 from rfl) (zm_rd (Z := Z) (ν := ν) (k := 2) (show ((0 : Nat) : Int) = 0 from rfl) (show ((0 : Nat) : Int) = 0 from rfl) (i3I (y := (2011 + 16 * a1)) (i3A (i3A (show (2010 : Int32) = i3 2010 from rfl) (i3M (show (16 : Int32) = i3 16 from rfl) (rfl : i3 a1 = i3 a1))) (show (1 : Int32) = i3 1 from rfl)) (by omega) (by omega) (by omega))))) (show (3 : Int32) = i3 3 from rfl)) (by omega) (by omega) (by omega))) (i3W (i3S (rfl : i3 a2 = i3 a2) (zm_rd (Z := Z) (ν := ν) (k := 2) (show ((0 : Nat) : Int) = 0 from rfl) (show ((0 : Nat) : Int) = 0 from rfl) (i3I (y := (1810 + 2 * a1)) (i3A (show (1810 : Int32) = i3 1810 from rfl) (i3M (show (2 : Int32) = i3 2 from rfl) (rfl : i3 a1 = i3 a1))) (by omega) (by omega) (by omega))))))))
    subst e9
    refine wz_i0 (i3O (n := 4400) (i3A (i3A (show (1410 : Int32) = i3 1410 from rfl) (i3M (show (12 : Int32) = i3 12 from rfl) (zm_rd (Z := Z) (ν := ν) (k := 2) (show ((0 : Nat) : Int) = 0 from rfl) (show ((0 : Nat) : Int) = 0 from rfl) (i3I (y := (2011 + 16 * a1)) (i3A (i3A (show (2010 : Int32) = i3 2010 from rfl) (i3M (show (16 : Int32) = i3 16 from rfl) (rfl : i3 a1 = i3 a1))) (show (1 : Int32) = i3 1 from rfl)) (by omega) (by omega) (by omega))))) (show (6 : Int32) = i3 6 from rfl)) (by omega) (by omega) (by omega)) ?_
    refine wz_i0 (i3O (n := 4400) (i3A (i3A (show (1410 : Int32) = i3 1410 from rfl) (i3M (show (12 : Int32) = i3 12 from rfl) (zm_rd (Z := Z) (ν := ν) (k := 2) (show ((0 : Nat) : Int) = 0 from rfl) (show ((0 : Nat) : Int) = 0 from rfl) (i3I (y := (2011 + 16 * a1)) (i3A (i3A (show (2010 : Int32) = i3 2010 from rfl) (i3M (show (16 : Int32) = i3 16 from rfl) (rfl : i3 a1 = i3 a1))) (show (1 : Int32) = i3 1 from rfl)) (by omega) (by omega) (by omega))))) (show (6 : Int32) = i3 6 from rfl)) (by omega) (by omega) (by omega)) ?_
    have r9 := zM_f hZ8I 2 0 0 (1416 + 12 * (Z 2 0 0 (2011 + 16 * a1)))
    have r10 := w3_r ((Z8 2 0 0 (1416 + 12 * (Z 2 0 0 (2011 + 16 * a1)))) + a2)
    obtain ⟨Z11, hZ11⟩ := zx (zu Z8 2 0 0 (1416 + 12 * (Z 2 0 0 (2011 + 16 * a1))) (w3 ((Z8 2 0 0 (1416 + 12 * (Z 2 0 0 (2011 + 16 * a1)))) + a2)))
    replace hP := zl_e hP hZ11
    have hZ11I := zM_u2 hZ8I hZ11 (lo := -2147483648) (hi := 2147483647) (zs_1410_6 (x := (Z 2 0 0 (2011 + 16 * a1))) (by omega) (by omega) (by omega)) (by omega) ⟨by decide, by decide⟩ (by simp only [zsp]; omega)
    have hZ11U : zU [] Z Z11 := zU_u hZ8U hZ11 (Or.inl rfl)
    have hZ11K : zC [2] Z Z11 := zC_u hZ8K hZ11 (zcl_2w (by omega) rfl)
    intro μ9 e9
    replace e9 := e9.trans (zm_wI (Z := Z8) (ν := ν) hZ11 (show ((0 : Nat) : Int) = 0 from rfl) (show ((0 : Nat) : Int) = 0 from rfl) (i3I (y := (1416 + 12 * (Z 2 0 0 (2011 + 16 * a1)))) (i3A (i3A (show (1410 : Int32) = i3 1410 from rfl) (i3M (show (12 : Int32) = i3 12 from rfl) (zm_rd (Z := Z) (ν := ν) (k := 2) (show ((0 : Nat) : Int) = 0 from rfl) (show ((0 : Nat) : Int) = 0 from rfl) (i3I (y := (2011 + 16 * a1)) (i3A (i3A (show (2010 : Int32) = i3 2010 from rfl) (i3M (show (16 : Int32) = i3 16 from rfl) (rfl : i3 a1 = i3 a1))) (show (1 : Int32) = i3 1 from rfl)) (by omega) (by omega) (by omega))))) (show (6 : Int32) = i3 6 from rfl)) (by omega) (by omega) (by omega)) (i3W (i3A (zm_rd (Z := Z8) (ν := ν) (k := 2) (show ((0 : Nat) : Int) = 0 from rfl) (show ((0 : Nat) : Int) = 0 from rfl) (i3I (y := (1416 + 12 * (Z 2 0 0 (2011 + 16 * a1)))) (i3A (i3A (show (1410 : Int32) = i3 1410 from rfl) (i3M (show (12 : Int32) = i3 12 from rfl) (zm_rd (Z := Z) (ν := ν) (k := 2) (show ((0 : Nat) : Int) = 0 from rfl) (show ((0 : Nat) : Int) = 0 from rfl) (i3I (y := (2011 + 16 * a1)) (i3A (i3A (show (2010 : Int32) = i3 2010 from rfl) (i3M (show (16 : Int32) = i3 16 from rfl) (rfl : i3 a1 = i3 a1))) (show (1 : Int32) = i3 1 from rfl)) (by omega) (by omega) (by omega))))) (show (6 : Int32) = i3 6 from rfl)) (by omega) (by omega) (by omega))) (rfl : i3 a2 = i3 a2))))
    subst e9
    exact zlV hP ⟨hZ11I, hZ11K, hZ11U⟩
  · replace hP := zE_n hP h2
    refine wz_i0 (i3O (n := 4400) (i3A (show (1810 : Int32) = i3 1810 from rfl) (i3M (show (2 : Int32) = i3 2 from rfl) (rfl : i3 a1 = i3 a1))) (by omega) (by omega) (by omega)) ?_
    refine wz_i0 (i3O (n := 4400) (i3A (show (1810 : Int32) = i3 1810 from rfl) (i3M (show (2 : Int32) = i3 2 from rfl) (rfl : i3 a1 = i3 a1))) (by omega) (by omega) (by omega)) ?_
    obtain ⟨Z12, hZ12⟩ := zx (zu Z 2 0 0 (1810 + 2 * a1) ((Z 2 0 0 (1810 + 2 * a1)) - a2))
    replace hP := zl_e hP hZ12
    have hZ12I := zM_u2 hZ hZ12 (lo := -2147483648) (hi := 2147483647) (zs_1810_0 (x := a1) (by omega) (by omega) (by omega)) (by omega) ⟨by decide, by decide⟩ (by simp only [zsp]; omega)
    have hZ12U : zU [] Z Z12 := zU_u zU_r hZ12 (Or.inl rfl)
    have hZ12K : zC [2] Z Z12 := zC_u zC_r hZ12 (zcl_2w (by omega) rfl)
    intro μ9 e9
    replace e9 := e9.trans (zm_wI (Z := Z) (ν := ν) hZ12 (show ((0 : Nat) : Int) = 0 from rfl) (show ((0 : Nat) : Int) = 0 from rfl) (i3I (y := (1810 + 2 * a1)) (i3A (show (1810 : Int32) = i3 1810 from rfl) (i3M (show (2 : Int32) = i3 2 from rfl) (rfl : i3 a1 = i3 a1))) (by omega) (by omega) (by omega)) (i3S (zm_rd (Z := Z) (ν := ν) (k := 2) (show ((0 : Nat) : Int) = 0 from rfl) (show ((0 : Nat) : Int) = 0 from rfl) (i3I (y := (1810 + 2 * a1)) (i3A (show (1810 : Int32) = i3 1810 from rfl) (i3M (show (2 : Int32) = i3 2 from rfl) (rfl : i3 a1 = i3 a1))) (by omega) (by omega) (by omega))) (rfl : i3 a2 = i3 a2)))
    subst e9
    have r13 := zM_k hZ 2 0 0 (2011 + 16 * a1) (lo := 0) (hi := 7) (by decide) (zs_2010_1 (x := a1) (by omega) (by omega) (by omega))
    refine wz_i0 (i3O (n := 4400) (i3A (i3A (show (1410 : Int32) = i3 1410 from rfl) (i3M (show (12 : Int32) = i3 12 from rfl) (zm_rd (Z := Z) (ν := ν) (k := 2) (show ((0 : Nat) : Int) = 0 from rfl) (show ((0 : Nat) : Int) = 0 from rfl) (i3I (y := (2011 + 16 * a1)) (i3A (i3A (show (2010 : Int32) = i3 2010 from rfl) (i3M (show (16 : Int32) = i3 16 from rfl) (rfl : i3 a1 = i3 a1))) (show (1 : Int32) = i3 1 from rfl)) (by omega) (by omega) (by omega))))) (show (3 : Int32) = i3 3 from rfl)) (by omega) (by omega) (by omega)) ?_
    refine wz_i0 (i3O (n := 4400) (i3A (i3A (show (1410 : Int32) = i3 1410 from rfl) (i3M (show (12 : Int32) = i3 12 from rfl) (zm_rd (Z := Z) (ν := ν) (k := 2) (show ((0 : Nat) : Int) = 0 from rfl) (show ((0 : Nat) : Int) = 0 from rfl) (i3I (y := (2011 + 16 * a1)) (i3A (i3A (show (2010 : Int32) = i3 2010 from rfl) (i3M (show (16 : Int32) = i3 16 from rfl) (rfl : i3 a1 = i3 a1))) (show (1 : Int32) = i3 1 from rfl)) (by omega) (by omega) (by omega))))) (show (3 : Int32) = i3 3 from rfl)) (by omega) (by omega) (by omega)) ?_
    have r14 := zM_f hZ12I 2 0 0 (1413 + 12 * (Z 2 0 0 (2011 + 16 * a1)))
    obtain ⟨Z15, hZ15⟩ := zx (zu Z12 2 0 0 (1413 + 12 * (Z 2 0 0 (2011 + 16 * a1))) ((Z12 2 0 0 (1413 + 12 * (Z 2 0 0 (2011 + 16 * a1)))) + (a2 - a2)))
    replace hP := zl_e hP hZ15
    have hZ15I := zM_u2 hZ12I hZ15 (lo := -2147483648) (hi := 2147483647) (zs_1410_3 (x := (Z 2 0 0 (2011 + 16 * a1))) (by omega) (by omega) (by omega)) (by omega) ⟨by decide, by decide⟩ (by simp only [zsp]; omega)
    have hZ15U : zU [] Z Z15 := zU_u hZ12U hZ15 (Or.inl rfl)
    have hZ15K : zC [2] Z Z15 := zC_u hZ12K hZ15 (zcl_2w (by omega) rfl)
    intro μ9 e9
    replace e9 := e9.trans (zm_wI (Z := Z12) (ν := ν) hZ15 (show ((0 : Nat) : Int) = 0 from rfl) (show ((0 : Nat) : Int) = 0 from rfl) (i3I (y := (1413 + 12 * (Z 2 0 0 (2011 + 16 * a1)))) (i3A (i3A (show (1410 : Int32) = i3 1410 from rfl) (i3M (show (12 : Int32) = i3 12 from rfl) (zm_rd (Z := Z) (ν := ν) (k := 2) (show ((0 : Nat) : Int) = 0 from rfl) (show ((0 : Nat) : Int) = 0 from rfl) (i3I (y := (2011 + 16 * a1)) (i3A (i3A (show (2010 : Int32) = i3 2010 from rfl) (i3M (show (16 : Int32) = i3 16 from rfl) (rfl : i3 a1 = i3 a1))) (show (1 : Int32) = i3 1 from rfl)) (by omega) (by omega) (by omega))))) (show (3 : Int32) = i3 3 from rfl)) (by omega) (by omega) (by omega)) (i3A (zm_rd (Z := Z12) (ν := ν) (k := 2) (show ((0 : Nat) : Int) = 0 from rfl) (show ((0 : Nat) : Int) = 0 from rfl) (i3I (y := (1413 + 12 * (Z 2 0 0 (2011 + 16 * a1)))) (i3A (i3A (show (1410 : Int32) = i3 1410 from rfl) (i3M (show (12 : Int32) = i3 12 from rfl) (zm_rd (Z := Z) (ν := ν) (k := 2) (show ((0 : Nat) : Int) = 0 from rfl) (show ((0 : Nat) : Int) = 0 from rfl) (i3I (y := (2011 + 16 * a1)) (i3A (i3A (show (2010 : Int32) = i3 2010 from rfl) (i3M (show (16 : Int32) = i3 16 from rfl) (rfl : i3 a1 = i3 a1))) (show (1 : Int32) = i3 1 from rfl)) (by omega) (by omega) (by omega))))) (show (3 : Int32) = i3 3 from rfl)) (by omega) (by omega) (by omega))) (i3S (rfl : i3 a2 = i3 a2) (rfl : i3 a2 = i3 a2))))
    subst e9
    refine wz_i0 (i3O (n := 4400) (i3A (i3A (show (1410 : Int32) = i3 1410 from rfl) (i3M (show (12 : Int32) = i3 12 from rfl) (zm_rd (Z := Z) (ν := ν) (k := 2) (show ((0 : Nat) : Int) = 0 from rfl) (show ((0 : Nat) : Int) = 0 from rfl) (i3I (y := (2011 + 16 * a1)) (i3A (i3A (show (2010 : Int32) = i3 2010 from rfl) (i3M (show (16 : Int32) = i3 16 from rfl) (rfl : i3 a1 = i3 a1))) (show (1 : Int32) = i3 1 from rfl)) (by omega) (by omega) (by omega))))) (show (6 : Int32) = i3 6 from rfl)) (by omega) (by omega) (by omega)) ?_
    refine wz_i0 (i3O (n := 4400) (i3A (i3A (show (1410 : Int32) = i3 1410 from rfl) (i3M (show (12 : Int32) = i3 12 from rfl) (zm_rd (Z := Z) (ν := ν) (k := 2) (show ((0 : Nat) : Int) = 0 from rfl) (show ((0 : Nat) : Int) = 0 from rfl) (i3I (y := (2011 + 16 * a1)) (i3A (i3A (show (2010 : Int32) = i3 2010 from rfl) (i3M (show (16 : Int32) = i3 16 from rfl) (rfl : i3 a1 = i3 a1))) (show (1 : Int32) = i3 1 from rfl)) (by omega) (by omega) (by omega))))) (show (6 : Int32) = i3 6 from rfl)) (by omega) (by omega) (by omega)) ?_
    have r16 := zM_f hZ15I 2 0 0 (1416 + 12 * (Z 2 0 0 (2011 + 16 * a1)))
    have r17 := w3_r ((Z15 2 0 0 (1416 + 12 * (Z 2 0 0 (2011 + 16 * a1)))) + a2)
    obtain ⟨Z18, hZ18⟩ := zx (zu Z15 2 0 0 (1416 + 12 * (Z 2 0 0 (2011 + 16 * a1))) (w3 ((Z15 2 0 0 (1416 + 12 * (Z 2 0 0 (2011 + 16 * a1)))) + a2)))
    replace hP := zl_e hP hZ18
    have hZ18I := zM_u2 hZ15I hZ18 (lo := -2147483648) (hi := 2147483647) (zs_1410_6 (x := (Z 2 0 0 (2011 + 16 * a1))) (by omega) (by omega) (by omega)) (by omega) ⟨by decide, by decide⟩ (by simp only [zsp]; omega)
    have hZ18U : zU [] Z Z18 := zU_u hZ15U hZ18 (Or.inl rfl)
    have hZ18K : zC [2] Z Z18 := zC_u hZ15K hZ18 (zcl_2w (by omega) rfl)
    intro μ9 e9
    replace e9 := e9.trans (zm_wI (Z := Z15) (ν := ν) hZ18 (show ((0 : Nat) : Int) = 0 from rfl) (show ((0 : Nat) : Int) = 0 from rfl) (i3I (y := (1416 + 12 * (Z 2 0 0 (2011 + 16 * a1)))) (i3A (i3A (show (1410 : Int32) = i3 1410 from rfl) (i3M (show (12 : Int32) = i3 12 from rfl) (zm_rd (Z := Z) (ν := ν) (k := 2) (show ((0 : Nat) : Int) = 0 from rfl) (show ((0 : Nat) : Int) = 0 from rfl) (i3I (y := (2011 + 16 * a1)) (i3A (i3A (show (2010 : Int32) = i3 2010 from rfl) (i3M (show (16 : Int32) = i3 16 from rfl) (rfl : i3 a1 = i3 a1))) (show (1 : Int32) = i3 1 from rfl)) (by omega) (by omega) (by omega))))) (show (6 : Int32) = i3 6 from rfl)) (by omega) (by omega) (by omega)) (i3W (i3A (zm_rd (Z := Z15) (ν := ν) (k := 2) (show ((0 : Nat) : Int) = 0 from rfl) (show ((0 : Nat) : Int) = 0 from rfl) (i3I (y := (1416 + 12 * (Z 2 0 0 (2011 + 16 * a1)))) (i3A (i3A (show (1410 : Int32) = i3 1410 from rfl) (i3M (show (12 : Int32) = i3 12 from rfl) (zm_rd (Z := Z) (ν := ν) (k := 2) (show ((0 : Nat) : Int) = 0 from rfl) (show ((0 : Nat) : Int) = 0 from rfl) (i3I (y := (2011 + 16 * a1)) (i3A (i3A (show (2010 : Int32) = i3 2010 from rfl) (i3M (show (16 : Int32) = i3 16 from rfl) (rfl : i3 a1 = i3 a1))) (show (1 : Int32) = i3 1 from rfl)) (by omega) (by omega) (by omega))))) (show (6 : Int32) = i3 6 from rfl)) (by omega) (by omega) (by omega))) (rfl : i3 a2 = i3 a2))))
    subst e9
    exact zlV hP ⟨hZ18I, hZ18K, hZ18U⟩
/- yX12_kJudges -/
def zl_408_1 (x1 : Int) (x2 : Int) (x3 : Int) (x4 : Int) (x5 : Int) : Nat → qz_Z → Int → qz_Z × Int
  | 0, Z, x6 => (Z, x6)
  | m + 1, Z, x6 => (if 3 ≤ x6 then (Z, x6) else (zlet (zf_423 Z x2 x3 0) (fun v2 => (zlet (zf_423 Z x2 x3 1) (fun v3 => (zlet (zf_423 Z x2 x3 2) (fun v4 => (if ((v2 + v3) + v4) ≠ 0 then (zlet (zf_418 Z x5 v2 v3 v4 x6) (fun v6 => (zlet (zu Z 2 0 0 (3854 + 8 * x1 + x6) v6) (fun Z7 => zl_408_1 x1 x2 x3 x4 x5 m Z7 (x6 + 1))))) else (zlet (zf_418 Z x5 v2 1 v4 x6) (fun v8 => (zlet (zu Z 2 0 0 (3854 + 8 * x1 + x6) v8) (fun Z9 => zl_408_1 x1 x2 x3 x4 x5 m Z9 (x6 + 1)))))))))))))
theorem sl_408_1 {s : zSM} {Zs Z : qz_Z} {ν : qz_N} (hZ : zM s Z) (hM : s.2 + 0 ≤ 1000000000) (hK : zC [2] Zs Z) {x1 : Int} (gx1 : 0 ≤ x1 ∧ x1 ≤ 11) {x2 : Int} (gx2 : 0 ≤ x2 ∧ x2 ≤ 59) {x3 : Int} (gx3 : 0 ≤ x3 ∧ x3 ≤ 3) {x4 : Int} (gx4 : 0 ≤ x4 ∧ x4 ≤ 47) {x5 : Int} (gx5 : 1 ≤ x5 ∧ x5 ≤ 15998400) {x6 : Int} (gx6 : 0 ≤ x6 ∧ x6 ≤ 3) (hU : zU [] Zs Z) {k : wz_K} {R : wz_R} {L : qz_L} (hL : qz_fg [true, true, true, true, true, true, true] L = [some (.inr (.inr (some (1, 0, 0)))), some (.inl (i3 x1)), some (.inl (i3 x2)), some (.inl (i3 x3)), some (.inl (i3 x4)), some (.inl (i3 x5)), some (.inl (i3 x6))]) {T : qz_Z × Int} (hP : zE T (zl_408_1 x1 x2 x3 x4 x5 ((3 - x6).toNat + 1) Z x6)) (hk : ∀ (L9 : qz_L) (Z9 : qz_Z) (yx6 : Int), qz_fg [true, true, true, false, true, true, false] L9 = [some (.inr (.inr (some (1, 0, 0)))), some (.inl (i3 x1)), some (.inl (i3 x2)), none, some (.inl (i3 x4)), some (.inl (i3 x5)), none] → zM s Z9 → zC [2] Zs Z9 → zU [] Zs Z9 → (0 ≤ yx6 ∧ yx6 ≤ 3) → zE T ((Z9, yx6)) → k 0 (L9, [], zm Z9 ν)) : wz_loop qb_408_1 65536 k R (L, [], zm Z ν) := by
  refine wz_lp sb_408_1 (fun m x => ∃ Z : qz_Z, ∃ x6 : Int, qz_fg [true, true, true, true, true, true, true] x.1 = [some (.inr (.inr (some (1, 0, 0)))), some (.inl (i3 x1)), some (.inl (i3 x2)), some (.inl (i3 x3)), some (.inl (i3 x4)), some (.inl (i3 x5)), some (.inl (i3 x6))] ∧ x.2 = ([], zm Z ν) ∧ zM s Z ∧ zC [2] Zs Z ∧ zU [] Zs Z ∧ m = (3 - x6).toNat ∧ (0 ≤ x6 ∧ x6 ≤ 3) ∧ zE T (zl_408_1 x1 x2 x3 x4 x5 (m + 1) Z x6)) ?_ 65536 ((3 - x6).toNat) _ (by omega) ⟨Z, x6, hL, rfl, hZ, hK, hU, rfl, gx6, hP⟩
  clear hP gx6 hZ hK hU hL
  clear x6
  clear Z
  rintro m ⟨L, st, μ⟩ ⟨Z, x6, hL, hx, hZ, hK, hU, hm, gx6, hP⟩
  cases hx
  refine fb_408_1 (i3 x1) (i3 x2) (i3 x3) (i3 x4) (i3 x5) (i3 x6) _ _ _ _ hL ?_
  refine wz_br (i3Le (show (3 : Int32) = i3 3 from rfl) (rfl : i3 x6 = i3 x6) (by omega) (by omega) (by omega) (by omega)) (fun h1 => ?_) (fun h1 => ?_)
  · replace hP := zE_p hP h1
    exact hk _ _ _ (zconso rfl (zconso (zvo (rfl : i3 x1 = i3 x1)) (zconso (zvo (rfl : i3 x2 = i3 x2)) (zconso rfl (zconso (zvo (rfl : i3 x4 = i3 x4)) (zconso (zvo (rfl : i3 x5 = i3 x5)) (zconso rfl rfl))))))) hZ hK hU (by omega)  hP
  · replace hP := zE_n hP h1
    obtain ⟨v2, hv2, c9, lv2, uv2⟩ := sp_423 (ν := ν) hZ (a1 := x2) (by omega) (a2 := x3) (by omega) (a3 := 0) (by omega) (zbh (c := 0) (k := 0) hM (Nat.le_of_ble_eq_true rfl))
    replace hP := zl_e hP hv2
    refine wz_cI_of (zas (zcons rfl (zcons (zvi (rfl : i3 x2 = i3 x2)) (zcons (zvi (rfl : i3 x3 = i3 x3)) (zcons (zvi (show (0 : Int32) = i3 0 from rfl)) rfl)))) c9) ?_
    clear c9
    obtain ⟨v3, hv3, c9, lv3, uv3⟩ := sp_423 (ν := ν) hZ (a1 := x2) (by omega) (a2 := x3) (by omega) (a3 := 1) (by omega) (zbh (c := 0) (k := 0) hM (Nat.le_of_ble_eq_true rfl))
    replace hP := zl_e hP hv3
    refine wz_cI_of (zas (zcons rfl (zcons (zvi (rfl : i3 x2 = i3 x2)) (zcons (zvi (rfl : i3 x3 = i3 x3)) (zcons (zvi (show (1 : Int32) = i3 1 from rfl)) rfl)))) c9) ?_
    clear c9
    obtain ⟨v4, hv4, c9, lv4, uv4⟩ := sp_423 (ν := ν) hZ (a1 := x2) (by omega) (a2 := x3) (by omega) (a3 := 2) (by omega) (zbh (c := 0) (k := 0) hM (Nat.le_of_ble_eq_true rfl))
    replace hP := zl_e hP hv4
    refine wz_cI_of (zas (zcons rfl (zcons (zvi (rfl : i3 x2 = i3 x2)) (zcons (zvi (rfl : i3 x3 = i3 x3)) (zcons (zvi (show (2 : Int32) = i3 2 from rfl)) rfl)))) c9) ?_
    clear c9
    refine wz_br (i3NE (i3A (i3A (rfl : i3 v2 = i3 v2) (rfl : i3 v3 = i3 v3)) (rfl : i3 v4 = i3 v4)) (show (0 : Int32) = i3 0 from rfl) (by omega) (by omega) (by omega) (by omega)) (fun h5 => ?_) (fun h5 => ?_)
    · replace hP := zE_p hP h5
      obtain ⟨v6, hv6, c9, lv6, uv6⟩ := sp_418 (ν := ν) hZ (a0 := x5) (by omega) (a1 := v2) (by omega) (a2 := v3) (by omega) (a3 := v4) (by omega) (a4 := x6) (by omega) (by omega) (zbh (c := 0) (k := 0) hM (Nat.le_of_ble_eq_true rfl))
      replace hP := zl_e hP hv6
      refine wz_cI_of (zas (zcons (zvi (rfl : i3 x5 = i3 x5)) (zcons (zvi (rfl : i3 v2 = i3 v2)) (zcons (zvi (rfl : i3 v3 = i3 v3)) (zcons (zvi (rfl : i3 v4 = i3 v4)) (zcons (zvi (rfl : i3 x6 = i3 x6)) rfl))))) c9) ?_
      clear c9
      refine wz_i0 (i3O (n := 4400) (i3A (i3A (show (3850 : Int32) = i3 3850 from rfl) (i3M (show (8 : Int32) = i3 8 from rfl) (rfl : i3 x1 = i3 x1))) (i3A (show (4 : Int32) = i3 4 from rfl) (rfl : i3 x6 = i3 x6))) (by omega) (by omega) (by omega)) ?_
      obtain ⟨Z7, hZ7⟩ := zx (zu Z 2 0 0 (3854 + 8 * x1 + x6) v6)
      replace hP := zl_e hP hZ7
      have hZ7I := zM_u2 hZ hZ7 (lo := -2147483648) (hi := 2147483647) (zsx (zsb_3850 (by omega) (by omega)) (c0 := 4) (n := 3) (by decide +kernel) (by omega) (by omega)) (by omega) ⟨by decide, by decide⟩ (by simp only [zsp]; omega)
      have hZ7U : zU [] Zs Z7 := zU_u hU hZ7 (Or.inl rfl)
      have hZ7K : zC [2] Zs Z7 := zC_u hK hZ7 (zcl_2w (by omega) rfl)
      intro μ9 e9
      replace e9 := e9.trans (zm_wI (Z := Z) (ν := ν) hZ7 (show ((0 : Nat) : Int) = 0 from rfl) (show ((0 : Nat) : Int) = 0 from rfl) (i3I (y := (3854 + 8 * x1 + x6)) (i3A (i3A (show (3850 : Int32) = i3 3850 from rfl) (i3M (show (8 : Int32) = i3 8 from rfl) (rfl : i3 x1 = i3 x1))) (i3A (show (4 : Int32) = i3 4 from rfl) (rfl : i3 x6 = i3 x6))) (by omega) (by omega) (by omega)) (rfl : i3 v6 = i3 v6))
      subst e9
      obtain ⟨m2, rfl⟩ : ∃ m2, m = m2 + 1 := ⟨m - 1, by omega⟩
      exact wz_k1 ⟨m2, by omega, Z7, (x6 + 1), (zconso rfl (zconso (zvo (rfl : i3 x1 = i3 x1)) (zconso (zvo (rfl : i3 x2 = i3 x2)) (zconso (zvo (rfl : i3 x3 = i3 x3)) (zconso (zvo (rfl : i3 x4 = i3 x4)) (zconso (zvo (rfl : i3 x5 = i3 x5)) (zconso (zvo (i3A (rfl : i3 x6 = i3 x6) (show (1 : Int32) = i3 1 from rfl))) rfl))))))), rfl, hZ7I, hZ7K, hZ7U, by omega, by omega,  hP⟩
    · replace hP := zE_n hP h5
      obtain ⟨v8, hv8, c9, lv8, uv8⟩ := sp_418 (ν := ν) hZ (a0 := x5) (by omega) (a1 := v2) (by omega) (a2 := 1) (by omega) (a3 := v4) (by omega) (a4 := x6) (by omega) (by omega) (zbh (c := 0) (k := 0) hM (Nat.le_of_ble_eq_true rfl))
      replace hP := zl_e hP hv8
      refine wz_cI_of (zas (zcons (zvi (rfl : i3 x5 = i3 x5)) (zcons (zvi (rfl : i3 v2 = i3 v2)) (zcons (zvi (show (1 : Int32) = i3 1 from rfl)) (zcons (zvi (rfl : i3 v4 = i3 v4)) (zcons (zvi (rfl : i3 x6 = i3 x6)) rfl))))) c9) ?_
      clear c9
      refine wz_i0 (i3O (n := 4400) (i3A (i3A (show (3850 : Int32) = i3 3850 from rfl) (i3M (show (8 : Int32) = i3 8 from rfl) (rfl : i3 x1 = i3 x1))) (i3A (show (4 : Int32) = i3 4 from rfl) (rfl : i3 x6 = i3 x6))) (by omega) (by omega) (by omega)) ?_
      obtain ⟨Z9, hZ9⟩ := zx (zu Z 2 0 0 (3854 + 8 * x1 + x6) v8)
      replace hP := zl_e hP hZ9
      have hZ9I := zM_u2 hZ hZ9 (lo := -2147483648) (hi := 2147483647) (zsx (zsb_3850 (by omega) (by omega)) (c0 := 4) (n := 3) (by decide +kernel) (by omega) (by omega)) (by omega) ⟨by decide, by decide⟩ (by simp only [zsp]; omega)
      have hZ9U : zU [] Zs Z9 := zU_u hU hZ9 (Or.inl rfl)
      have hZ9K : zC [2] Zs Z9 := zC_u hK hZ9 (zcl_2w (by omega) rfl)
      intro μ9 e9
      replace e9 := e9.trans (zm_wI (Z := Z) (ν := ν) hZ9 (show ((0 : Nat) : Int) = 0 from rfl) (show ((0 : Nat) : Int) = 0 from rfl) (i3I (y := (3854 + 8 * x1 + x6)) (i3A (i3A (show (3850 : Int32) = i3 3850 from rfl) (i3M (show (8 : Int32) = i3 8 from rfl) (rfl : i3 x1 = i3 x1))) (i3A (show (4 : Int32) = i3 4 from rfl) (rfl : i3 x6 = i3 x6))) (by omega) (by omega) (by omega)) (rfl : i3 v8 = i3 v8))
      subst e9
      obtain ⟨m2, rfl⟩ : ∃ m2, m = m2 + 1 := ⟨m - 1, by omega⟩
      exact wz_k1 ⟨m2, by omega, Z9, (x6 + 1), (zconso rfl (zconso (zvo (rfl : i3 x1 = i3 x1)) (zconso (zvo (rfl : i3 x2 = i3 x2)) (zconso (zvo (rfl : i3 x3 = i3 x3)) (zconso (zvo (rfl : i3 x4 = i3 x4)) (zconso (zvo (rfl : i3 x5 = i3 x5)) (zconso (zvo (i3A (rfl : i3 x6 = i3 x6) (show (1 : Int32) = i3 1 from rfl))) rfl))))))), rfl, hZ9I, hZ9K, hZ9U, by omega, by omega,  hP⟩
/- yX12_kJudges -/
def zf_408 (Z : qz_Z) (a1 : Int) : qz_Z := (zlet (zf_398 Z (Z 2 0 0 (3850 + 8 * a1)) (Z 2 0 0 (3851 + 8 * a1))) (fun v6 => (if v6 ≠ 0 then (zlet (zu Z 2 0 0 (3852 + 8 * a1) 2) (fun Z8 => (zlet (zu Z8 2 0 0 (3853 + 8 * a1) v6) (fun Z9 => (zlet2 (zl_408_1 a1 (Z 2 0 0 (3850 + 8 * a1)) (Z 2 0 0 (3851 + 8 * a1)) (Z 2 0 0 (2010 + 16 * (Z 2 0 0 (3850 + 8 * a1)))) v6 4 Z9 0) (fun Z12 y11 => (zlet (zf_272 Z12 (Z 2 0 0 (3850 + 8 * a1)) v6) (fun Z14 => (zlet (zf_403 Z14 1 8 v6 (Z 2 0 0 (2010 + 16 * (Z 2 0 0 (3850 + 8 * a1))))) (fun Z15 => (zlet (zf_403 Z15 8 2 (Z14 2 0 0 (3854 + 8 * a1)) (Z 2 0 0 (2010 + 16 * (Z 2 0 0 (3850 + 8 * a1))))) (fun Z17 => (zlet (zu Z17 2 0 0 (3820 + 5 * (Z17 2 0 0 (200 + 20 * (Z17 2 0 0 (2010 + 16 * (Z 2 0 0 (3850 + 8 * a1))))))) (w3 ((Z17 2 0 0 (3820 + 5 * (Z17 2 0 0 (200 + 20 * (Z17 2 0 0 (2010 + 16 * (Z 2 0 0 (3850 + 8 * a1)))))))) - (Z14 2 0 0 (3854 + 8 * a1))))) (fun Z22 => (zlet (zu Z22 2 0 0 (3823 + 5 * (Z22 2 0 0 (200 + 20 * (Z22 2 0 0 (2010 + 16 * (Z 2 0 0 (3850 + 8 * a1))))))) (w3 ((Z22 2 0 0 (3823 + 5 * (Z22 2 0 0 (200 + 20 * (Z22 2 0 0 (2010 + 16 * (Z 2 0 0 (3850 + 8 * a1)))))))) + (Z14 2 0 0 (3854 + 8 * a1))))) (fun Z28 => (zlet (zf_403 Z28 8 0 (Z28 2 0 0 (3856 + 8 * a1)) (Z 2 0 0 (2010 + 16 * (Z 2 0 0 (3850 + 8 * a1))))) (fun Z30 => Z30)))))))))))))))))) else (zlet (zu Z 2 0 0 (3852 + 8 * a1) 1) (fun Z31 => Z31)))))
theorem sp_408 {s : zSM} {Z : qz_Z} {ν : qz_N} (hZ : zM s Z) {a1 : Int} (ga1 : 0 ≤ a1 ∧ a1 ≤ 11) (hM : s.2 + 3 ≤ 1000000000) : ∃ P : qz_Z, P = zf_408 Z a1 ∧ (qf_408 [.inr (.inr (some (1, 0, 0))), .inl (i3 a1)] (zm Z ν) = some (zm P ν, .inl none) ∧ zM (zb s 3) P ∧ zC [2] Z P ∧ zU [] Z P) := by
  obtain ⟨P, hP⟩ := zx (zf_408 Z a1)
  refine zc_V (Q := fun P => zM (zb s 3) P ∧ zC [2] Z P ∧ zU [] Z P) hP (fw_408 (i3 a1) _ _ ?_)
  replace hP : zE P (zf_408 Z a1) := hP
  unfold zf_408 at hP
  refine wz_i0 (i3O (n := 4400) (i3A (i3A (show (3850 : Int32) = i3 3850 from rfl) (i3M (show (8 : Int32) = i3 8 from rfl) (rfl : i3 a1 = i3 a1))) (show (0 : Int32) = i3 0 from rfl)) (by omega) (by omega) (by omega)) ?_
  refine wz_i0 (i3O (n := 4400) (i3A (i3A (show (3850 : Int32) = i3 3850 from rfl) (i3M (show (8 : Int32) = i3 8 from rfl) (rfl : i3 a1 = i3 a1))) (show (1 : Int32) = i3 1 from rfl)) (by omega) (by omega) (by omega)) ?_
  have r1 := zM_k hZ 2 0 0 (3850 + 8 * a1) (lo := 0) (hi := 59) (by decide) (zs_3850_0 (x := a1) (by omega) (by omega) (by omega))
  refine wz_i0 (i3O (n := 4400) (i3A (i3A (show (2010 : Int32) = i3 2010 from rfl) (i3M (show (16 : Int32) = i3 16 from rfl) (zm_rd (Z := Z) (ν := ν) (k := 2) (show ((0 : Nat) : Int) = 0 from rfl) (show ((0 : Nat) : Int) = 0 from rfl) (i3I (y := (3850 + 8 * a1)) (i3A (i3A (show (3850 : Int32) = i3 3850 from rfl) (i3M (show (8 : Int32) = i3 8 from rfl) (rfl : i3 a1 = i3 a1))) (show (0 : Int32) = i3 0 from rfl)) (by omega) (by omega) (by omega))))) (show (0 : Int32) = i3 0 from rfl)) (by omega) (by omega) (by omega)) ?_
  have r2 := zM_k hZ 2 0 0 (3851 + 8 * a1) (lo := 0) (hi := 3) (by decide) (zs_3850_1 (x := a1) (by omega) (by omega) (by omega))
  have r3 := zM_k hZ 2 0 0 (2013 + 16 * (Z 2 0 0 (3850 + 8 * a1))) (lo := 0) (hi := 40) (by decide) (zs_2010_3 (x := (Z 2 0 0 (3850 + 8 * a1))) (by omega) (by omega) (by omega))
  have r4 := zM_cr hZ (Z 2 0 0 (3850 + 8 * a1))
  have r5 := zM_k hZ 2 0 0 2000 (lo := 0) (hi := 60) (by decide) rfl
  obtain ⟨v6, hv6, c9, lv6, uv6⟩ := sp_398 (ν := ν) hZ (a1 := (Z 2 0 0 (3850 + 8 * a1))) (by omega) (a2 := (Z 2 0 0 (3851 + 8 * a1))) (by omega) (by omega) (zbh (c := 0) (k := 0) hM (Nat.le_of_ble_eq_true rfl))
  replace hP := zl_e hP hv6
  refine wz_cI_of (zas (zcons rfl (zcons (zvi (zm_rd (Z := Z) (ν := ν) (k := 2) (show ((0 : Nat) : Int) = 0 from rfl) (show ((0 : Nat) : Int) = 0 from rfl) (i3I (y := (3850 + 8 * a1)) (i3A (i3A (show (3850 : Int32) = i3 3850 from rfl) (i3M (show (8 : Int32) = i3 8 from rfl) (rfl : i3 a1 = i3 a1))) (show (0 : Int32) = i3 0 from rfl)) (by omega) (by omega) (by omega)))) (zcons (zvi (zm_rd (Z := Z) (ν := ν) (k := 2) (show ((0 : Nat) : Int) = 0 from rfl) (show ((0 : Nat) : Int) = 0 from rfl) (i3I (y := (3851 + 8 * a1)) (i3A (i3A (show (3850 : Int32) = i3 3850 from rfl) (i3M (show (8 : Int32) = i3 8 from rfl) (rfl : i3 a1 = i3 a1))) (show (1 : Int32) = i3 1 from rfl)) (by omega) (by omega) (by omega)))) rfl))) c9) ?_
  clear c9
  refine wz_br (i3NE (rfl : i3 v6 = i3 v6) (show (0 : Int32) = i3 0 from rfl) (by omega) (by omega) (by omega) (by omega)) (fun h7 => ?_) (fun h7 => ?_)
  · replace hP := zE_p hP h7
    refine wz_i0 (i3O (n := 4400) (i3A (i3A (show (3850 : Int32) = i3 3850 from rfl) (i3M (show (8 : Int32) = i3 8 from rfl) (rfl : i3 a1 = i3 a1))) (show (2 : Int32) = i3 2 from rfl)) (by omega) (by omega) (by omega)) ?_
    obtain ⟨Z8, hZ8⟩ := zx (zu Z 2 0 0 (3852 + 8 * a1) 2)
    replace hP := zl_e hP hZ8
    have hZ8I := zM_u2 hZ hZ8 (lo := 0) (hi := 2) (zs_3850_2 (x := a1) (by omega) (by omega) (by omega)) (by omega) ⟨by decide, by decide⟩ (by simp only [zsp]; omega)
    have hZ8U : zU [] Z Z8 := zU_u zU_r hZ8 (Or.inl rfl)
    have hZ8K : zC [2] Z Z8 := zC_u zC_r hZ8 (zcl_2w (by omega) rfl)
    intro μ9 e9
    replace e9 := e9.trans (zm_wI (Z := Z) (ν := ν) hZ8 (show ((0 : Nat) : Int) = 0 from rfl) (show ((0 : Nat) : Int) = 0 from rfl) (i3I (y := (3852 + 8 * a1)) (i3A (i3A (show (3850 : Int32) = i3 3850 from rfl) (i3M (show (8 : Int32) = i3 8 from rfl) (rfl : i3 a1 = i3 a1))) (show (2 : Int32) = i3 2 from rfl)) (by omega) (by omega) (by omega)) (show (2 : Int32) = i3 2 from rfl))
    subst e9
    refine wz_i1 (Eq.trans (i3NE (rfl : i3 v6 = i3 v6) (show (0 : Int32) = i3 0 from rfl) (by omega) (by omega) (by omega) (by omega)) (decide_eq_true (by omega))) ?_
    refine wz_i0 (i3O (n := 4400) (i3A (i3A (show (3850 : Int32) = i3 3850 from rfl) (i3M (show (8 : Int32) = i3 8 from rfl) (rfl : i3 a1 = i3 a1))) (show (3 : Int32) = i3 3 from rfl)) (by omega) (by omega) (by omega)) ?_
    obtain ⟨Z9, hZ9⟩ := zx (zu Z8 2 0 0 (3853 + 8 * a1) v6)
    replace hP := zl_e hP hZ9
    have hZ9I := zM_u2 hZ8I hZ9 (lo := -2147483648) (hi := 2147483647) (zs_3850_3 (x := a1) (by omega) (by omega) (by omega)) (by omega) ⟨by decide, by decide⟩ (by simp only [zsp]; omega)
    have hZ9U : zU [] Z Z9 := zU_u hZ8U hZ9 (Or.inl rfl)
    have hZ9K : zC [2] Z Z9 := zC_u hZ8K hZ9 (zcl_2w (by omega) rfl)
    intro μ9 e9
    replace e9 := e9.trans (zm_wI (Z := Z8) (ν := ν) hZ9 (show ((0 : Nat) : Int) = 0 from rfl) (show ((0 : Nat) : Int) = 0 from rfl) (i3I (y := (3853 + 8 * a1)) (i3A (i3A (show (3850 : Int32) = i3 3850 from rfl) (i3M (show (8 : Int32) = i3 8 from rfl) (rfl : i3 a1 = i3 a1))) (show (3 : Int32) = i3 3 from rfl)) (by omega) (by omega) (by omega)) (rfl : i3 v6 = i3 v6))
    subst e9
    have r10 := zM_k hZ 2 0 0 (2010 + 16 * (Z 2 0 0 (3850 + 8 * a1))) (lo := 0) (hi := 47) (by decide) (zs_2010_0 (x := (Z 2 0 0 (3850 + 8 * a1))) (by omega) (by omega) (by omega))
    refine sl_408_1 (ν := ν) hZ9I (zbh (c := 0) (k := 0) hM (Nat.le_of_ble_eq_true rfl)) zC_r (x1 := a1) (by omega) (x2 := (Z 2 0 0 (3850 + 8 * a1))) (by omega) (x3 := (Z 2 0 0 (3851 + 8 * a1))) (by omega) (x4 := (Z 2 0 0 (2010 + 16 * (Z 2 0 0 (3850 + 8 * a1))))) (by omega) (x5 := v6) (by omega) (x6 := 0) (by omega) zU_r  (zconso rfl (zconso (zvo (rfl : i3 a1 = i3 a1)) (zconso (zvo (zm_rd (Z := Z) (ν := ν) (k := 2) (show ((0 : Nat) : Int) = 0 from rfl) (show ((0 : Nat) : Int) = 0 from rfl) (i3I (y := (3850 + 8 * a1)) (i3A (i3A (show (3850 : Int32) = i3 3850 from rfl) (i3M (show (8 : Int32) = i3 8 from rfl) (rfl : i3 a1 = i3 a1))) (show (0 : Int32) = i3 0 from rfl)) (by omega) (by omega) (by omega)))) (zconso (zvo (zm_rd (Z := Z) (ν := ν) (k := 2) (show ((0 : Nat) : Int) = 0 from rfl) (show ((0 : Nat) : Int) = 0 from rfl) (i3I (y := (3851 + 8 * a1)) (i3A (i3A (show (3850 : Int32) = i3 3850 from rfl) (i3M (show (8 : Int32) = i3 8 from rfl) (rfl : i3 a1 = i3 a1))) (show (1 : Int32) = i3 1 from rfl)) (by omega) (by omega) (by omega)))) (zconso (zvo (zm_rd (Z := Z) (ν := ν) (k := 2) (show ((0 : Nat) : Int) = 0 from rfl) (show ((0 : Nat) : Int) = 0 from rfl) (i3I (y := (2010 + 16 * (Z 2 0 0 (3850 + 8 * a1)))) (i3A (i3A (show (2010 : Int32) = i3 2010 from rfl) (i3M (show (16 : Int32) = i3 16 from rfl) (zm_rd (Z := Z) (ν := ν) (k := 2) (show ((0 : Nat) : Int) = 0 from rfl) (show ((0 : Nat) : Int) = 0 from rfl) (i3I (y := (3850 + 8 * a1)) (i3A (i3A (show (3850 : Int32) = i3 3850 from rfl) (i3M (show (8 : Int32) = i3 8 from rfl) (rfl : i3 a1 = i3 a1))) (show (0 : Int32) = i3 0 from rfl)) (by omega) (by omega) (by omega))))) (show (0 : Int32) = i3 0 from rfl)) (by omega) (by omega) (by omega)))) (zconso (zvo (rfl : i3 v6 = i3 v6)) (zconso (zvo (show (0 : Int32) = i3 0 from rfl)) rfl))))))) rfl ?_
    intro L13 Z12 y11 hL13 hZ12I kZ12 jZ12 gy11 q9
    replace hP := zl_e2 hP (Eq.symm q9)
    clear q9
    have hZ12U : zU [] Z Z12 := zU_t hZ9U jZ12 zU_b0
    have hZ12K : zC [2] Z Z12 := zC_t hZ9K kZ12 (by decide)
    refine fc_408_2 (i3 a1) (i3 (Z 2 0 0 (3850 + 8 * a1))) (i3 (Z 2 0 0 (2010 + 16 * (Z 2 0 0 (3850 + 8 * a1))))) (i3 v6) _ _ _ _ hL13 ?_
    obtain ⟨Z14, hZ14, c9, hZ14I, kZ14, jZ14⟩ := sp_272 (ν := ν) hZ12I (a1 := (Z 2 0 0 (3850 + 8 * a1))) (by omega) (a2 := v6) (by omega) (zbh (c := 0) (k := 0) hM (Nat.le_of_ble_eq_true rfl))
    have hZ14U : zU [] Z Z14 := zU_t hZ12U jZ14 zU_b0
    have hZ14K : zC [2] Z Z14 := zC_t hZ12K kZ14 (by decide)
    replace hP := zl_e hP hZ14
    refine wz_cV_of (zas (zcons rfl (zcons (zvi (rfl : i3 (Z 2 0 0 (3850 + 8 * a1)) = i3 (Z 2 0 0 (3850 + 8 * a1)))) (zcons (zvi (rfl : i3 v6 = i3 v6)) rfl))) c9) ?_
    clear c9
    refine wz_i0 (i3O (n := 4400) (i3A (i3A (show (3850 : Int32) = i3 3850 from rfl) (i3M (show (8 : Int32) = i3 8 from rfl) (rfl : i3 a1 = i3 a1))) (show (4 : Int32) = i3 4 from rfl)) (by omega) (by omega) (by omega)) ?_
    obtain ⟨Z15, hZ15, c9, hZ15I, kZ15, jZ15⟩ := sp_403 (ν := ν) hZ14I (a1 := 1) (by omega) (a2 := 8) (by omega) (a3 := v6) (by omega) (a4 := (Z 2 0 0 (2010 + 16 * (Z 2 0 0 (3850 + 8 * a1))))) (by omega) (zbh (c := 0) (k := 1) hM (Nat.le_of_ble_eq_true rfl))
    have hZ15U : zU [] Z Z15 := zU_t hZ14U jZ15 zU_b0
    have hZ15K : zC [2] Z Z15 := zC_t hZ14K kZ15 (by decide)
    replace hP := zl_e hP hZ15
    refine wz_cV_of (zas (zcons rfl (zcons (zvi (show (1 : Int32) = i3 1 from rfl)) (zcons (zvi (show (8 : Int32) = i3 8 from rfl)) (zcons (zvi (rfl : i3 v6 = i3 v6)) (zcons (zvi (rfl : i3 (Z 2 0 0 (2010 + 16 * (Z 2 0 0 (3850 + 8 * a1)))) = i3 (Z 2 0 0 (2010 + 16 * (Z 2 0 0 (3850 + 8 * a1)))))) rfl))))) c9) ?_
    clear c9
    have r16 := zM_f hZ14I 2 0 0 (3854 + 8 * a1)
    obtain ⟨Z17, hZ17, c9, hZ17I, kZ17, jZ17⟩ := sp_403 (ν := ν) hZ15I (a1 := 8) (by omega) (a2 := 2) (by omega) (a3 := (Z14 2 0 0 (3854 + 8 * a1))) (by omega) (a4 := (Z 2 0 0 (2010 + 16 * (Z 2 0 0 (3850 + 8 * a1))))) (by omega) (zbh (c := 1) (k := 1) hM (Nat.le_of_ble_eq_true rfl))
    have hZ17U : zU [] Z Z17 := zU_t hZ15U jZ17 zU_b0
    have hZ17K : zC [2] Z Z17 := zC_t hZ15K kZ17 (by decide)
    replace hZ17I := zmt (c := 2) hZ17I rfl
    replace hP := zl_e hP hZ17
    refine wz_cV_of (zas (zcons rfl (zcons (zvi (show (8 : Int32) = i3 8 from rfl)) (zcons (zvi (show (2 : Int32) = i3 2 from rfl)) (zcons (zvi (zm_rd (Z := Z14) (ν := ν) (k := 2) (show ((0 : Nat) : Int) = 0 from rfl) (show ((0 : Nat) : Int) = 0 from rfl) (i3I (y := (3854 + 8 * a1)) (i3A (i3A (show (3850 : Int32) = i3 3850 from rfl) (i3M (show (8 : Int32) = i3 8 from rfl) (rfl : i3 a1 = i3 a1))) (show (4 : Int32) = i3 4 from rfl)) (by omega) (by omega) (by omega)))) (zcons (zvi (rfl : i3 (Z 2 0 0 (2010 + 16 * (Z 2 0 0 (3850 + 8 * a1)))) = i3 (Z 2 0 0 (2010 + 16 * (Z 2 0 0 (3850 + 8 * a1)))))) rfl))))) c9) ?_
    clear c9
    refine wz_i0 (i3O (n := 4400) (i3A (i3A (show (2010 : Int32) = i3 2010 from rfl) (i3M (show (16 : Int32) = i3 16 from rfl) (rfl : i3 (Z 2 0 0 (3850 + 8 * a1)) = i3 (Z 2 0 0 (3850 + 8 * a1))))) (show (0 : Int32) = i3 0 from rfl)) (by omega) (by omega) (by omega)) ?_
    have r18 := zM_k hZ17I 2 0 0 (2010 + 16 * (Z 2 0 0 (3850 + 8 * a1))) (lo := 0) (hi := 47) (by decide) (zs_2010_0 (x := (Z 2 0 0 (3850 + 8 * a1))) (by omega) (by omega) (by omega))
    refine wz_i0 (i3O (n := 4400) (i3A (i3A (show (200 : Int32) = i3 200 from rfl) (i3M (show (20 : Int32) = i3 20 from rfl) (zm_rd (Z := Z17) (ν := ν) (k := 2) (show ((0 : Nat) : Int) = 0 from rfl) (show ((0 : Nat) : Int) = 0 from rfl) (i3I (y := (2010 + 16 * (Z 2 0 0 (3850 + 8 * a1)))) (i3A (i3A (show (2010 : Int32) = i3 2010 from rfl) (i3M (show (16 : Int32) = i3 16 from rfl) (rfl : i3 (Z 2 0 0 (3850 + 8 * a1)) = i3 (Z 2 0 0 (3850 + 8 * a1))))) (show (0 : Int32) = i3 0 from rfl)) (by omega) (by omega) (by omega))))) (show (0 : Int32) = i3 0 from rfl)) (by omega) (by omega) (by omega)) ?_
    have r19 := zM_k hZ17I 2 0 0 (200 + 20 * (Z17 2 0 0 (2010 + 16 * (Z 2 0 0 (3850 + 8 * a1))))) (lo := 0) (hi := 5) (by decide) (zs_200_0 (x := (Z17 2 0 0 (2010 + 16 * (Z 2 0 0 (3850 + 8 * a1))))) (by omega) (by omega) (by omega))
    refine wz_i0 (i3O (n := 4400) (i3A (i3A (show (3820 : Int32) = i3 3820 from rfl) (i3M (show (5 : Int32) = i3 5 from rfl) (zm_rd (Z := Z17) (ν := ν) (k := 2) (show ((0 : Nat) : Int) = 0 from rfl) (show ((0 : Nat) : Int) = 0 from rfl) (i3I (y := (200 + 20 * (Z17 2 0 0 (2010 + 16 * (Z 2 0 0 (3850 + 8 * a1)))))) (i3A (i3A (show (200 : Int32) = i3 200 from rfl) (i3M (show (20 : Int32) = i3 20 from rfl) (zm_rd (Z := Z17) (ν := ν) (k := 2) (show ((0 : Nat) : Int) = 0 from rfl) (show ((0 : Nat) : Int) = 0 from rfl) (i3I (y := (2010 + 16 * (Z 2 0 0 (3850 + 8 * a1)))) (i3A (i3A (show (2010 : Int32) = i3 2010 from rfl) (i3M (show (16 : Int32) = i3 16 from rfl) (rfl : i3 (Z 2 0 0 (3850 + 8 * a1)) = i3 (Z 2 0 0 (3850 + 8 * a1))))) (show (0 : Int32) = i3 0 from rfl)) (by omega) (by omega) (by omega))))) (show (0 : Int32) = i3 0 from rfl)) (by omega) (by omega) (by omega))))) (show (0 : Int32) = i3 0 from rfl)) (by omega) (by omega) (by omega)) ?_
    refine wz_i0 (i3O (n := 4400) (i3A (i3A (show (3820 : Int32) = i3 3820 from rfl) (i3M (show (5 : Int32) = i3 5 from rfl) (zm_rd (Z := Z17) (ν := ν) (k := 2) (show ((0 : Nat) : Int) = 0 from rfl) (show ((0 : Nat) : Int) = 0 from rfl) (i3I (y := (200 + 20 * (Z17 2 0 0 (2010 + 16 * (Z 2 0 0 (3850 + 8 * a1)))))) (i3A (i3A (show (200 : Int32) = i3 200 from rfl) (i3M (show (20 : Int32) = i3 20 from rfl) (zm_rd (Z := Z17) (ν := ν) (k := 2) (show ((0 : Nat) : Int) = 0 from rfl) (show ((0 : Nat) : Int) = 0 from rfl) (i3I (y := (2010 + 16 * (Z 2 0 0 (3850 + 8 * a1)))) (i3A (i3A (show (2010 : Int32) = i3 2010 from rfl) (i3M (show (16 : Int32) = i3 16 from rfl) (rfl : i3 (Z 2 0 0 (3850 + 8 * a1)) = i3 (Z 2 0 0 (3850 + 8 * a1))))) (show (0 : Int32) = i3 0 from rfl)) (by omega) (by omega) (by omega))))) (show (0 : Int32) = i3 0 from rfl)) (by omega) (by omega) (by omega))))) (show (0 : Int32) = i3 0 from rfl)) (by omega) (by omega) (by omega)) ?_
    have r20 := zM_f hZ17I 2 0 0 (3820 + 5 * (Z17 2 0 0 (200 + 20 * (Z17 2 0 0 (2010 + 16 * (Z 2 0 0 (3850 + 8 * a1)))))))
    have r21 := w3_r ((Z17 2 0 0 (3820 + 5 * (Z17 2 0 0 (200 + 20 * (Z17 2 0 0 (2010 + 16 * (Z 2 0 0 (3850 + 8 * a1)))))))) - (Z14 2 0 0 (3854 + 8 * a1)))
    obtain ⟨Z22, hZ22⟩ := zx (zu Z17 2 0 0 (3820 + 5 * (Z17 2 0 0 (200 + 20 * (Z17 2 0 0 (2010 + 16 * (Z 2 0 0 (3850 + 8 * a1))))))) (w3 ((Z17 2 0 0 (3820 + 5 * (Z17 2 0 0 (200 + 20 * (Z17 2 0 0 (2010 + 16 * (Z 2 0 0 (3850 + 8 * a1)))))))) - (Z14 2 0 0 (3854 + 8 * a1)))))
    replace hP := zl_e hP hZ22
    have hZ22I := zM_u2 hZ17I hZ22 (lo := -2147483648) (hi := 2147483647) (zs_3820_0 (x := (Z17 2 0 0 (200 + 20 * (Z17 2 0 0 (2010 + 16 * (Z 2 0 0 (3850 + 8 * a1))))))) (by omega) (by omega) (by omega)) (by omega) ⟨by decide, by decide⟩ (by simp only [zsp]; omega)
    have hZ22U : zU [] Z Z22 := zU_u hZ17U hZ22 (Or.inl rfl)
    have hZ22K : zC [2] Z Z22 := zC_u hZ17K hZ22 (zcl_2w (by omega) rfl)
    intro μ9 e9
    replace e9 := e9.trans (zm_wI (Z := Z17) (ν := ν) hZ22 (show ((0 : Nat) : Int) = 0 from rfl) (show ((0 : Nat) : Int) = 0 from rfl) (i3I (y := (3820 + 5 * (Z17 2 0 0 (200 + 20 * (Z17 2 0 0 (2010 + 16 * (Z 2 0 0 (3850 + 8 * a1)))))))) (i3A (i3A (show (3820 : Int32) = i3 3820 from rfl) (i3M (show (5 : Int32) = i3 5 from rfl) (zm_rd (Z := Z17) (ν := ν) (k := 2) (show ((0 : Nat) : Int) = 0 from rfl) (show ((0 : Nat) : Int) = 0 from rfl) (i3I (y := (200 + 20 * (Z17 2 0 0 (2010 + 16 * (Z 2 0 0 (3850 + 8 * a1)))))) (i3A (i3A (show (200 : Int32) = i3 200 from rfl) (i3M (show (20 : Int32) = i3 20 from rfl) (zm_rd (Z := Z17) (ν := ν) (k := 2) (show ((0 : Nat) : Int) = 0 from rfl) (show ((0 : Nat) : Int) = 0 from rfl) (i3I (y := (2010 + 16 * (Z 2 0 0 (3850 + 8 * a1)))) (i3A (i3A (show (2010 : Int32) = i3 2010 from rfl) (i3M (show (16 : Int32) = i3 16 from rfl) (rfl : i3 (Z 2 0 0 (3850 + 8 * a1)) = i3 (Z 2 0 0 (3850 + 8 * a1))))) (show (0 : Int32) = i3 0 from rfl)) (by omega) (by omega) (by omega))))) (show (0 : Int32) = i3 0 from rfl)) (by omega) (by omega) (by omega))))) (show (0 : Int32) = i3 0 from rfl)) (by omega) (by omega) (by omega)) (i3W (i3S (zm_rd (Z := Z17) (ν := ν) (k := 2) (show ((0 : Nat) : Int) = 0 from rfl) (show ((0 : Nat) : Int) = 0 from rfl) (i3I (y := (3820 + 5 * (Z17 2 0 0 (200 + 20 * (Z17 2 0 0 (2010 + 16 * (Z 2 0 0 (3850 + 8 * a1)))))))) (i3A (i3A (show (3820 : Int32) = i3 3820 from rfl) (i3M (show (5 : Int32) = i3 5 from rfl) (zm_rd (Z := Z17) (ν := ν) (k := 2) (show ((0 : Nat) : Int) = 0 from rfl) (show ((0 : Nat) : Int) = 0 from rfl) (i3I (y := (200 + 20 * (Z17 2 0 0 (2010 + 16 * (Z 2 0 0 (3850 + 8 * a1)))))) (i3A (i3A (show (200 : Int32) = i3 200 from rfl) (i3M (show (20 : Int32) = i3 20 from rfl) (zm_rd (Z := Z17) (ν := ν) (k := 2) (show ((0 : Nat) : Int) = 0 from rfl) (show ((0 : Nat) : Int) = 0 from rfl) (i3I (y := (2010 + 16 * (Z 2 0 0 (3850 + 8 * a1)))) (i3A (i3A (show (2010 : Int32) = i3 2010 from rfl) (i3M (show (16 : Int32) = i3 16 from rfl) (rfl : i3 (Z 2 0 0 (3850 + 8 * a1)) = i3 (Z 2 0 0 (3850 + 8 * a1))))) (show (0 : Int32) = i3 0 from rfl)) (by omega) (by omega) (by omega))))) (show (0 : Int32) = i3 0 from rfl)) (by omega) (by omega) (by omega))))) (show (0 : Int32) = i3 0 from rfl)) (by omega) (by omega) (by omega))) (zm_rd (Z := Z14) (ν := ν) (k := 2) (show ((0 : Nat) : Int) = 0 from rfl) (show ((0 : Nat) : Int) = 0 from rfl) (i3I (y := (3854 + 8 * a1)) (i3A (i3A (show (3850 : Int32) = i3 3850 from rfl) (i3M (show (8 : Int32) = i3 8 from rfl) (rfl : i3 a1 = i3 a1))) (show (4 : Int32) = i3 4 from rfl)) (by omega) (by omega) (by omega))))))
    subst e9
    refine wz_i0 (i3O (n := 4400) (i3A (i3A (show (2010 : Int32) = i3 2010 from rfl) (i3M (show (16 : Int32) = i3 16 from rfl) (rfl : i3 (Z 2 0 0 (3850 + 8 * a1)) = i3 (Z 2 0 0 (3850 + 8 * a1))))) (show (0 : Int32) = i3 0 from rfl)) (by omega) (by omega) (by omega)) ?_
    have r23 := zM_k hZ22I 2 0 0 (2010 + 16 * (Z 2 0 0 (3850 + 8 * a1))) (lo := 0) (hi := 47) (by decide) (zs_2010_0 (x := (Z 2 0 0 (3850 + 8 * a1))) (by omega) (by omega) (by omega))
    have q24 := zu_ne (k' := 2) (b' := 0) (i' := 0) (j' := (2010 + 16 * (Z 2 0 0 (3850 + 8 * a1)))) hZ22 (fun q => absurd q.2.2.2 (by omega))
    refine wz_i0 (i3O (n := 4400) (i3A (i3A (show (200 : Int32) = i3 200 from rfl) (i3M (show (20 : Int32) = i3 20 from rfl) (zm_rd (Z := Z22) (ν := ν) (k := 2) (show ((0 : Nat) : Int) = 0 from rfl) (show ((0 : Nat) : Int) = 0 from rfl) (i3I (y := (2010 + 16 * (Z 2 0 0 (3850 + 8 * a1)))) (i3A (i3A (show (2010 : Int32) = i3 2010 from rfl) (i3M (show (16 : Int32) = i3 16 from rfl) (rfl : i3 (Z 2 0 0 (3850 + 8 * a1)) = i3 (Z 2 0 0 (3850 + 8 * a1))))) (show (0 : Int32) = i3 0 from rfl)) (by omega) (by omega) (by omega))))) (show (0 : Int32) = i3 0 from rfl)) (by omega) (by omega) (by omega)) ?_
    have r25 := zM_k hZ22I 2 0 0 (200 + 20 * (Z22 2 0 0 (2010 + 16 * (Z 2 0 0 (3850 + 8 * a1))))) (lo := 0) (hi := 5) (by decide) (zs_200_0 (x := (Z22 2 0 0 (2010 + 16 * (Z 2 0 0 (3850 + 8 * a1))))) (by omega) (by omega) (by omega))
    refine wz_i0 (i3O (n := 4400) (i3A (i3A (show (3820 : Int32) = i3 3820 from rfl) (i3M (show (5 : Int32) = i3 5 from rfl) (zm_rd (Z := Z22) (ν := ν) (k := 2) (show ((0 : Nat) : Int) = 0 from rfl) (show ((0 : Nat) : Int) = 0 from rfl) (i3I (y := (200 + 20 * (Z22 2 0 0 (2010 + 16 * (Z 2 0 0 (3850 + 8 * a1)))))) (i3A (i3A (show (200 : Int32) = i3 200 from rfl) (i3M (show (20 : Int32) = i3 20 from rfl) (zm_rd (Z := Z22) (ν := ν) (k := 2) (show ((0 : Nat) : Int) = 0 from rfl) (show ((0 : Nat) : Int) = 0 from rfl) (i3I (y := (2010 + 16 * (Z 2 0 0 (3850 + 8 * a1)))) (i3A (i3A (show (2010 : Int32) = i3 2010 from rfl) (i3M (show (16 : Int32) = i3 16 from rfl) (rfl : i3 (Z 2 0 0 (3850 + 8 * a1)) = i3 (Z 2 0 0 (3850 + 8 * a1))))) (show (0 : Int32) = i3 0 from rfl)) (by omega) (by omega) (by omega))))) (show (0 : Int32) = i3 0 from rfl)) (by omega) (by omega) (by omega))))) (show (3 : Int32) = i3 3 from rfl)) (by omega) (by omega) (by omega)) ?_
    refine wz_i0 (i3O (n := 4400) (i3A (i3A (show (3820 : Int32) = i3 3820 from rfl) (i3M (show (5 : Int32) = i3 5 from rfl) (zm_rd (Z := Z22) (ν := ν) (k := 2) (show ((0 : Nat) : Int) = 0 from rfl) (show ((0 : Nat) : Int) = 0 from rfl) (i3I (y := (200 + 20 * (Z22 2 0 0 (2010 + 16 * (Z 2 0 0 (3850 + 8 * a1)))))) (i3A (i3A (show (200 : Int32) = i3 200 from rfl) (i3M (show (20 : Int32) = i3 20 from rfl) (zm_rd (Z := Z22) (ν := ν) (k := 2) (show ((0 : Nat) : Int) = 0 from rfl) (show ((0 : Nat) : Int) = 0 from rfl) (i3I (y := (2010 + 16 * (Z 2 0 0 (3850 + 8 * a1)))) (i3A (i3A (show (2010 : Int32) = i3 2010 from rfl) (i3M (show (16 : Int32) = i3 16 from rfl) (rfl : i3 (Z 2 0 0 (3850 + 8 * a1)) = i3 (Z 2 0 0 (3850 + 8 * a1))))) (show (0 : Int32) = i3 0 from rfl)) (by omega) (by omega) (by omega))))) (show (0 : Int32) = i3 0 from rfl)) (by omega) (by omega) (by omega))))) (show (3 : Int32) = i3 3 from rfl)) (by omega) (by omega) (by omega)) ?_
    have r26 := zM_f hZ22I 2 0 0 (3823 + 5 * (Z22 2 0 0 (200 + 20 * (Z22 2 0 0 (2010 + 16 * (Z 2 0 0 (3850 + 8 * a1)))))))
    have r27 := w3_r ((Z22 2 0 0 (3823 + 5 * (Z22 2 0 0 (200 + 20 * (Z22 2 0 0 (2010 + 16 * (Z 2 0 0 (3850 + 8 * a1)))))))) + (Z14 2 0 0 (3854 + 8 * a1)))
    obtain ⟨Z28, hZ28⟩ := zx (zu Z22 2 0 0 (3823 + 5 * (Z22 2 0 0 (200 + 20 * (Z22 2 0 0 (2010 + 16 * (Z 2 0 0 (3850 + 8 * a1))))))) (w3 ((Z22 2 0 0 (3823 + 5 * (Z22 2 0 0 (200 + 20 * (Z22 2 0 0 (2010 + 16 * (Z 2 0 0 (3850 + 8 * a1)))))))) + (Z14 2 0 0 (3854 + 8 * a1)))))
    replace hP := zl_e hP hZ28
    have hZ28I := zM_u2 hZ22I hZ28 (lo := -2147483648) (hi := 2147483647) (zs_3820_3 (x := (Z22 2 0 0 (200 + 20 * (Z22 2 0 0 (2010 + 16 * (Z 2 0 0 (3850 + 8 * a1))))))) (by omega) (by omega) (by omega)) (by omega) ⟨by decide, by decide⟩ (by simp only [zsp]; omega)
    have hZ28U : zU [] Z Z28 := zU_u hZ22U hZ28 (Or.inl rfl)
    have hZ28K : zC [2] Z Z28 := zC_u hZ22K hZ28 (zcl_2w (by omega) rfl)
    intro μ9 e9
    replace e9 := e9.trans (zm_wI (Z := Z22) (ν := ν) hZ28 (show ((0 : Nat) : Int) = 0 from rfl) (show ((0 : Nat) : Int) = 0 from rfl) (i3I (y := (3823 + 5 * (Z22 2 0 0 (200 + 20 * (Z22 2 0 0 (2010 + 16 * (Z 2 0 0 (3850 + 8 * a1)))))))) (i3A (i3A (show (3820 : Int32) = i3 3820 from rfl) (i3M (show (5 : Int32) = i3 5 from rfl) (zm_rd (Z := Z22) (ν := ν) (k := 2) (show ((0 : Nat) : Int) = 0 from rfl) (show ((0 : Nat) : Int) = 0 from rfl) (i3I (y := (200 + 20 * (Z22 2 0 0 (2010 + 16 * (Z 2 0 0 (3850 + 8 * a1)))))) (i3A (i3A (show (200 : Int32) = i3 200 from rfl) (i3M (show (20 : Int32) = i3 20 from rfl) (zm_rd (Z := Z22) (ν := ν) (k := 2) (show ((0 : Nat) : Int) = 0 from rfl) (show ((0 : Nat) : Int) = 0 from rfl) (i3I (y := (2010 + 16 * (Z 2 0 0 (3850 + 8 * a1)))) (i3A (i3A (show (2010 : Int32) = i3 2010 from rfl) (i3M (show (16 : Int32) = i3 16 from rfl) (rfl : i3 (Z 2 0 0 (3850 + 8 * a1)) = i3 (Z 2 0 0 (3850 + 8 * a1))))) (show (0 : Int32) = i3 0 from rfl)) (by omega) (by omega) (by omega))))) (show (0 : Int32) = i3 0 from rfl)) (by omega) (by omega) (by omega))))) (show (3 : Int32) = i3 3 from rfl)) (by omega) (by omega) (by omega)) (i3W (i3A (zm_rd (Z := Z22) (ν := ν) (k := 2) (show ((0 : Nat) : Int) = 0 from rfl) (show ((0 : Nat) : Int) = 0 from rfl) (i3I (y := (3823 + 5 * (Z22 2 0 0 (200 + 20 * (Z22 2 0 0 (2010 + 16 * (Z 2 0 0 (3850 + 8 * a1)))))))) (i3A (i3A (show (3820 : Int32) = i3 3820 from rfl) (i3M (show (5 : Int32) = i3 5 from rfl) (zm_rd (Z := Z22) (ν := ν) (k := 2) (show ((0 : Nat) : Int) = 0 from rfl) (show ((0 : Nat) : Int) = 0 from rfl) (i3I (y := (200 + 20 * (Z22 2 0 0 (2010 + 16 * (Z 2 0 0 (3850 + 8 * a1)))))) (i3A (i3A (show (200 : Int32) = i3 200 from rfl) (i3M (show (20 : Int32) = i3 20 from rfl) (zm_rd (Z := Z22) (ν := ν) (k := 2) (show ((0 : Nat) : Int) = 0 from rfl) (show ((0 : Nat) : Int) = 0 from rfl) (i3I (y := (2010 + 16 * (Z 2 0 0 (3850 + 8 * a1)))) (i3A (i3A (show (2010 : Int32) = i3 2010 from rfl) (i3M (show (16 : Int32) = i3 16 from rfl) (rfl : i3 (Z 2 0 0 (3850 + 8 * a1)) = i3 (Z 2 0 0 (3850 + 8 * a1))))) (show (0 : Int32) = i3 0 from rfl)) (by omega) (by omega) (by omega))))) (show (0 : Int32) = i3 0 from rfl)) (by omega) (by omega) (by omega))))) (show (3 : Int32) = i3 3 from rfl)) (by omega) (by omega) (by omega))) (zm_rd (Z := Z14) (ν := ν) (k := 2) (show ((0 : Nat) : Int) = 0 from rfl) (show ((0 : Nat) : Int) = 0 from rfl) (i3I (y := (3854 + 8 * a1)) (i3A (i3A (show (3850 : Int32) = i3 3850 from rfl) (i3M (show (8 : Int32) = i3 8 from rfl) (rfl : i3 a1 = i3 a1))) (show (4 : Int32) = i3 4 from rfl)) (by omega) (by omega) (by omega))))))
    subst e9
    refine wz_i0 (i3O (n := 4400) (i3A (i3A (show (3850 : Int32) = i3 3850 from rfl) (i3M (show (8 : Int32) = i3 8 from rfl) (rfl : i3 a1 = i3 a1))) (show (6 : Int32) = i3 6 from rfl)) (by omega) (by omega) (by omega)) ?_
    have r29 := zM_f hZ28I 2 0 0 (3856 + 8 * a1)
    obtain ⟨Z30, hZ30, c9, hZ30I, kZ30, jZ30⟩ := sp_403 (ν := ν) hZ28I (a1 := 8) (by omega) (a2 := 0) (by omega) (a3 := (Z28 2 0 0 (3856 + 8 * a1))) (by omega) (a4 := (Z 2 0 0 (2010 + 16 * (Z 2 0 0 (3850 + 8 * a1))))) (by omega) (zbh (c := 2) (k := 1) hM (Nat.le_of_ble_eq_true rfl))
    have hZ30U : zU [] Z Z30 := zU_t hZ28U jZ30 zU_b0
    have hZ30K : zC [2] Z Z30 := zC_t hZ28K kZ30 (by decide)
    replace hZ30I := zmt (c := 3) hZ30I rfl
    replace hP := zl_e hP hZ30
    refine wz_cV_of (zas (zcons rfl (zcons (zvi (show (8 : Int32) = i3 8 from rfl)) (zcons (zvi (show (0 : Int32) = i3 0 from rfl)) (zcons (zvi (zm_rd (Z := Z28) (ν := ν) (k := 2) (show ((0 : Nat) : Int) = 0 from rfl) (show ((0 : Nat) : Int) = 0 from rfl) (i3I (y := (3856 + 8 * a1)) (i3A (i3A (show (3850 : Int32) = i3 3850 from rfl) (i3M (show (8 : Int32) = i3 8 from rfl) (rfl : i3 a1 = i3 a1))) (show (6 : Int32) = i3 6 from rfl)) (by omega) (by omega) (by omega)))) (zcons (zvi (rfl : i3 (Z 2 0 0 (2010 + 16 * (Z 2 0 0 (3850 + 8 * a1)))) = i3 (Z 2 0 0 (2010 + 16 * (Z 2 0 0 (3850 + 8 * a1)))))) rfl))))) c9) ?_
    clear c9
    exact zlV hP ⟨hZ30I, hZ30K, hZ30U⟩
  · replace hP := zE_n hP h7
    refine wz_i0 (i3O (n := 4400) (i3A (i3A (show (3850 : Int32) = i3 3850 from rfl) (i3M (show (8 : Int32) = i3 8 from rfl) (rfl : i3 a1 = i3 a1))) (show (2 : Int32) = i3 2 from rfl)) (by omega) (by omega) (by omega)) ?_
    obtain ⟨Z31, hZ31⟩ := zx (zu Z 2 0 0 (3852 + 8 * a1) 1)
    replace hP := zl_e hP hZ31
    have hZ31I := zM_u2 hZ hZ31 (lo := 0) (hi := 2) (zs_3850_2 (x := a1) (by omega) (by omega) (by omega)) (by omega) ⟨by decide, by decide⟩ (by simp only [zsp]; omega)
    have hZ31U : zU [] Z Z31 := zU_u zU_r hZ31 (Or.inl rfl)
    have hZ31K : zC [2] Z Z31 := zC_u zC_r hZ31 (zcl_2w (by omega) rfl)
    intro μ9 e9
    replace e9 := e9.trans (zm_wI (Z := Z) (ν := ν) hZ31 (show ((0 : Nat) : Int) = 0 from rfl) (show ((0 : Nat) : Int) = 0 from rfl) (i3I (y := (3852 + 8 * a1)) (i3A (i3A (show (3850 : Int32) = i3 3850 from rfl) (i3M (show (8 : Int32) = i3 8 from rfl) (rfl : i3 a1 = i3 a1))) (show (2 : Int32) = i3 2 from rfl)) (by omega) (by omega) (by omega)) (show (1 : Int32) = i3 1 from rfl))
    subst e9
    refine wz_i0 (Eq.trans (i3NE (rfl : i3 v6 = i3 v6) (show (0 : Int32) = i3 0 from rfl) (by omega) (by omega) (by omega) (by omega)) (decide_eq_false (by omega))) ?_
    exact zlV hP ⟨(zmw (a := 0) (c := 3) hZ31I (Nat.le_of_ble_eq_true rfl)), hZ31K, hZ31U⟩
/- yX12_kPaysGrowers -/
def zl_413_1 : Nat → qz_Z → Int → qz_Z × Int
  | 0, Z, x1 => (Z, x1)
  | m + 1, Z, x1 => (if (Z 2 0 0 101) ≤ x1 then (Z, x1) else (if (Z 2 0 0 (3820 + 5 * x1)) ≤ 0 then zl_413_1 m Z (x1 + 1) else (zlet (zf_403 Z 0 2 (Z 2 0 0 (3820 + 5 * x1)) (-1)) (fun Z5 => (zlet (zu Z5 2 0 0 (3820 + 5 * x1) 0) (fun Z6 => (zlet (zu Z6 2 0 0 (3824 + 5 * x1) (w3 ((Z6 2 0 0 (3824 + 5 * x1)) + (Z 2 0 0 (3820 + 5 * x1))))) (fun Z9 => zl_413_1 m Z9 (x1 + 1)))))))))
theorem sl_413_1 {s : zSM} {xM9 : Nat} {Zs Z : qz_Z} {ν : qz_N} (hZ : zM (zb s xM9) Z) (hM : s.2 + 7 ≤ 1000000000) (hK : zC [2] Zs Z) {x1 : Int} (gx1 : 0 ≤ x1 ∧ x1 ≤ 6) (hU : zU [] Zs Z) (hx9 : xM9 + 1 * ((6 - x1).toNat) + 1 ≤ 7) {k : wz_K} {R : wz_R} {L : qz_L} (hL : qz_fg [true, true, false] L = [some (.inr (.inr (some (1, 0, 0)))), some (.inl (i3 x1)), none]) {T : qz_Z × Int} (hP : zE T (zl_413_1 ((6 - x1).toNat + 1) Z x1)) (hk : ∀ (L9 : qz_L) (Z9 : qz_Z) (yx1 : Int), qz_fg [false, false, false] L9 = [none, none, none] → zM (zb s 7) Z9 → zC [2] Zs Z9 → zU [] Zs Z9 → (0 ≤ yx1 ∧ yx1 ≤ 6) → zE T ((Z9, yx1)) → k 0 (L9, [], zm Z9 ν)) : wz_loop qb_413_1 65536 k R (L, [], zm Z ν) := by
  refine wz_lp sb_413_1 (fun m x => ∃ xM9 : Nat, ∃ Z : qz_Z, ∃ x1 : Int, qz_fg [true, true, false] x.1 = [some (.inr (.inr (some (1, 0, 0)))), some (.inl (i3 x1)), none] ∧ x.2 = ([], zm Z ν) ∧ xM9 + 1 * m + 1 ≤ 7 ∧ zM (zb s xM9) Z ∧ zC [2] Zs Z ∧ zU [] Zs Z ∧ m = (6 - x1).toNat ∧ (0 ≤ x1 ∧ x1 ≤ 6) ∧ zE T (zl_413_1 (m + 1) Z x1)) ?_ 65536 ((6 - x1).toNat) _ (by omega) ⟨xM9, Z, x1, hL, rfl, hx9, hZ, hK, hU, rfl, gx1, hP⟩
  clear hP gx1 hx9 hZ hK hU hL
  clear x1
  clear Z
  clear xM9
  rintro m ⟨L, st, μ⟩ ⟨xM9, Z, x1, hL, hx, hx9, hZ, hK, hU, hm, gx1, hP⟩
  cases hx
  have hM9 : (zb s xM9).2 + 1 ≤ 1000000000 := by
    show s.2 + xM9 + 1 ≤ 1000000000
    omega
  refine fb_413_1 (i3 x1) _ _ _ _ hL ?_
  have r1 := zM_k hZ 2 0 0 101 (lo := 0) (hi := 6) (by decide) rfl
  refine wz_br (i3Le (zm_rd (Z := Z) (ν := ν) (k := 2) (show ((0 : Nat) : Int) = 0 from rfl) (show ((0 : Nat) : Int) = 0 from rfl) (show ((101 : Nat) : Int) = 101 from rfl)) (rfl : i3 x1 = i3 x1) (by omega) (by omega) (by omega) (by omega)) (fun h2 => ?_) (fun h2 => ?_)
  · replace hP := zE_p hP h2
    exact hk _ _ _ (zconso rfl (zconso rfl (zconso rfl rfl))) (zmx0 hZ (by omega)) hK hU (by omega)  hP
  · replace hP := zE_n hP h2
    refine wz_i0 (i3O (n := 4400) (i3A (i3A (show (3820 : Int32) = i3 3820 from rfl) (i3M (show (5 : Int32) = i3 5 from rfl) (rfl : i3 x1 = i3 x1))) (show (0 : Int32) = i3 0 from rfl)) (by omega) (by omega) (by omega)) ?_
    have r3 := zM_f hZ 2 0 0 (3820 + 5 * x1)
    refine wz_br (i3Le (zm_rd (Z := Z) (ν := ν) (k := 2) (show ((0 : Nat) : Int) = 0 from rfl) (show ((0 : Nat) : Int) = 0 from rfl) (i3I (y := (3820 + 5 * x1)) (i3A (i3A (show (3820 : Int32) = i3 3820 from rfl) (i3M (show (5 : Int32) = i3 5 from rfl) (rfl : i3 x1 = i3 x1))) (show (0 : Int32) = i3 0 from rfl)) (by omega) (by omega) (by omega))) (show (0 : Int32) = i3 0 from rfl) (by omega) (by omega) (by omega) (by omega)) (fun h4 => ?_) (fun h4 => ?_)
    · replace hP := zE_p hP h4
      obtain ⟨m2, rfl⟩ : ∃ m2, m = m2 + 1 := ⟨m - 1, by omega⟩
      exact wz_k1 ⟨m2, by omega, xM9, Z, (x1 + 1), (zconso rfl (zconso (zvo (i3A (rfl : i3 x1 = i3 x1) (show (1 : Int32) = i3 1 from rfl))) (zconso rfl rfl))), rfl, by omega, hZ, hK, hU, by omega, by omega,  hP⟩
    · replace hP := zE_n hP h4
      obtain ⟨Z5, hZ5, c9, hZ5I, kZ5, jZ5⟩ := sp_403 (ν := ν) hZ (a1 := 0) (by omega) (a2 := 2) (by omega) (a3 := (Z 2 0 0 (3820 + 5 * x1))) (by omega) (a4 := (-1)) (by omega) (zbh (c := 0) (k := 1) hM9 (Nat.le_of_ble_eq_true rfl))
      have hZ5U : zU [] Zs Z5 := zU_t hU jZ5 zU_b0
      have hZ5K : zC [2] Zs Z5 := zC_t hK kZ5 (by decide)
      replace hP := zl_e hP hZ5
      refine wz_cV_of (zas (zcons rfl (zcons (zvi (show (0 : Int32) = i3 0 from rfl)) (zcons (zvi (show (2 : Int32) = i3 2 from rfl)) (zcons (zvi (zm_rd (Z := Z) (ν := ν) (k := 2) (show ((0 : Nat) : Int) = 0 from rfl) (show ((0 : Nat) : Int) = 0 from rfl) (i3I (y := (3820 + 5 * x1)) (i3A (i3A (show (3820 : Int32) = i3 3820 from rfl) (i3M (show (5 : Int32) = i3 5 from rfl) (rfl : i3 x1 = i3 x1))) (show (0 : Int32) = i3 0 from rfl)) (by omega) (by omega) (by omega)))) (zcons (zvi (show (-1 : Int32) = i3 (-1) from rfl)) rfl))))) c9) ?_
      clear c9
      refine wz_i0 (i3O (n := 4400) (i3A (i3A (show (3820 : Int32) = i3 3820 from rfl) (i3M (show (5 : Int32) = i3 5 from rfl) (rfl : i3 x1 = i3 x1))) (show (0 : Int32) = i3 0 from rfl)) (by omega) (by omega) (by omega)) ?_
      obtain ⟨Z6, hZ6⟩ := zx (zu Z5 2 0 0 (3820 + 5 * x1) 0)
      replace hP := zl_e hP hZ6
      have hZ6I := zM_02 hZ5I hZ6 (by simp only [zsp]; omega)
      have hZ6U : zU [] Zs Z6 := zU_u hZ5U hZ6 (Or.inl rfl)
      have hZ6K : zC [2] Zs Z6 := zC_u hZ5K hZ6 (zcl_2w (by omega) rfl)
      intro μ9 e9
      replace e9 := e9.trans (zm_wI (Z := Z5) (ν := ν) hZ6 (show ((0 : Nat) : Int) = 0 from rfl) (show ((0 : Nat) : Int) = 0 from rfl) (i3I (y := (3820 + 5 * x1)) (i3A (i3A (show (3820 : Int32) = i3 3820 from rfl) (i3M (show (5 : Int32) = i3 5 from rfl) (rfl : i3 x1 = i3 x1))) (show (0 : Int32) = i3 0 from rfl)) (by omega) (by omega) (by omega)) (show (0 : Int32) = i3 0 from rfl))
      subst e9
      refine wz_i0 (i3O (n := 4400) (i3A (i3A (show (3820 : Int32) = i3 3820 from rfl) (i3M (show (5 : Int32) = i3 5 from rfl) (rfl : i3 x1 = i3 x1))) (show (4 : Int32) = i3 4 from rfl)) (by omega) (by omega) (by omega)) ?_
      refine wz_i0 (i3O (n := 4400) (i3A (i3A (show (3820 : Int32) = i3 3820 from rfl) (i3M (show (5 : Int32) = i3 5 from rfl) (rfl : i3 x1 = i3 x1))) (show (4 : Int32) = i3 4 from rfl)) (by omega) (by omega) (by omega)) ?_
      have r7 := zM_f hZ6I 2 0 0 (3824 + 5 * x1)
      have r8 := w3_r ((Z6 2 0 0 (3824 + 5 * x1)) + (Z 2 0 0 (3820 + 5 * x1)))
      obtain ⟨Z9, hZ9⟩ := zx (zu Z6 2 0 0 (3824 + 5 * x1) (w3 ((Z6 2 0 0 (3824 + 5 * x1)) + (Z 2 0 0 (3820 + 5 * x1)))))
      replace hP := zl_e hP hZ9
      have hZ9I := zM_u2 hZ6I hZ9 (lo := -2147483648) (hi := 2147483647) (zs_3820_4 (x := x1) (by omega) (by omega) (by omega)) (by omega) ⟨by decide, by decide⟩ (by simp only [zsp]; omega)
      have hZ9U : zU [] Zs Z9 := zU_u hZ6U hZ9 (Or.inl rfl)
      have hZ9K : zC [2] Zs Z9 := zC_u hZ6K hZ9 (zcl_2w (by omega) rfl)
      intro μ9 e9
      replace e9 := e9.trans (zm_wI (Z := Z6) (ν := ν) hZ9 (show ((0 : Nat) : Int) = 0 from rfl) (show ((0 : Nat) : Int) = 0 from rfl) (i3I (y := (3824 + 5 * x1)) (i3A (i3A (show (3820 : Int32) = i3 3820 from rfl) (i3M (show (5 : Int32) = i3 5 from rfl) (rfl : i3 x1 = i3 x1))) (show (4 : Int32) = i3 4 from rfl)) (by omega) (by omega) (by omega)) (i3W (i3A (zm_rd (Z := Z6) (ν := ν) (k := 2) (show ((0 : Nat) : Int) = 0 from rfl) (show ((0 : Nat) : Int) = 0 from rfl) (i3I (y := (3824 + 5 * x1)) (i3A (i3A (show (3820 : Int32) = i3 3820 from rfl) (i3M (show (5 : Int32) = i3 5 from rfl) (rfl : i3 x1 = i3 x1))) (show (4 : Int32) = i3 4 from rfl)) (by omega) (by omega) (by omega))) (zm_rd (Z := Z) (ν := ν) (k := 2) (show ((0 : Nat) : Int) = 0 from rfl) (show ((0 : Nat) : Int) = 0 from rfl) (i3I (y := (3820 + 5 * x1)) (i3A (i3A (show (3820 : Int32) = i3 3820 from rfl) (i3M (show (5 : Int32) = i3 5 from rfl) (rfl : i3 x1 = i3 x1))) (show (0 : Int32) = i3 0 from rfl)) (by omega) (by omega) (by omega))))))
      subst e9
      obtain ⟨m2, rfl⟩ : ∃ m2, m = m2 + 1 := ⟨m - 1, by omega⟩
      exact wz_k1 ⟨m2, by omega, xM9 + 1, Z9, (x1 + 1), (zconso rfl (zconso (zvo (i3A (rfl : i3 x1 = i3 x1) (show (1 : Int32) = i3 1 from rfl))) (zconso rfl rfl))), rfl, by omega, (zmt hZ9I rfl), hZ9K, hZ9U, by omega, by omega,  hP⟩
/- yX12_kPaysGrowers -/
def zf_413 (Z : qz_Z) : qz_Z := (zlet2 (zl_413_1 7 Z 0) (fun Z2 y1 => Z2))
theorem sp_413 {s : zSM} {Z : qz_Z} {ν : qz_N} (hZ : zM s Z) (hM : s.2 + 7 ≤ 1000000000) : ∃ P : qz_Z, P = zf_413 Z ∧ (qf_413 [.inr (.inr (some (1, 0, 0)))] (zm Z ν) = some (zm P ν, .inl none) ∧ zM (zb s 7) P ∧ zC [2] Z P ∧ zU [] Z P) := by
  obtain ⟨P, hP⟩ := zx (zf_413 Z)
  refine zc_V (Q := fun P => zM (zb s 7) P ∧ zC [2] Z P ∧ zU [] Z P) hP (fw_413  _ _ ?_)
  replace hP : zE P (zf_413 Z) := hP
  unfold zf_413 at hP
  refine sl_413_1 (ν := ν) (zm0 hZ) (zbh (c := 0) (k := 7) hM (Nat.le_of_ble_eq_true rfl)) (xM9 := 0) zC_r (x1 := 0) (by omega) zU_r (Nat.le_of_ble_eq_true rfl)  (zconso rfl (zconso (zvo (show (0 : Int32) = i3 0 from rfl)) (zconso rfl rfl))) rfl ?_
  intro L3 Z2 y1 hL3 hZ2I kZ2 jZ2 gy1 q9
  replace hP := zl_e2 hP (Eq.symm q9)
  clear q9
  have hZ2U : zU [] Z Z2 := zU_t zU_r jZ2 zU_b0
  have hZ2K : zC [2] Z Z2 := zC_t zC_r kZ2 (by decide)
  refine fc_413_2  _ _ _ _ hL3 ?_
  exact zlV hP ⟨hZ2I, hZ2K, hZ2U⟩
/- yX12_rClosed -/
def zl_463_1 : Nat → qz_Z → Int → qz_Z × Int
  | 0, Z, x1 => (Z, x1)
  | m + 1, Z, x1 => (if (Z 2 0 0 1200) ≤ x1 then (Z, x1) else (zlet (zu Z 2 0 0 (1218 + 12 * x1) 0) (fun Z3 => zl_463_1 m Z3 (x1 + 1))))
theorem sl_463_1 {s : zSM} {Zs Z : qz_Z} {ν : qz_N} (hZ : zM s Z) (hM : s.2 + 0 ≤ 1000000000) (hK : zC [2] Zs Z) {x1 : Int} (gx1 : 0 ≤ x1 ∧ x1 ≤ 6) (hU : zU [] Zs Z) {k : wz_K} {R : wz_R} {L : qz_L} (hL : qz_fg [true, true] L = [some (.inr (.inr (some (1, 0, 0)))), some (.inl (i3 x1))]) {T : qz_Z × Int} (hP : zE T (zl_463_1 ((6 - x1).toNat + 1) Z x1)) (hk : ∀ (L9 : qz_L) (Z9 : qz_Z) (yx1 : Int), qz_fg [false, false] L9 = [none, none] → zM s Z9 → zC [2] Zs Z9 → zU [] Zs Z9 → (0 ≤ yx1 ∧ yx1 ≤ 6) → zE T ((Z9, yx1)) → k 0 (L9, [], zm Z9 ν)) : wz_loop qb_463_1 65536 k R (L, [], zm Z ν) := by
  refine wz_lp sb_463_1 (fun m x => ∃ Z : qz_Z, ∃ x1 : Int, qz_fg [true, true] x.1 = [some (.inr (.inr (some (1, 0, 0)))), some (.inl (i3 x1))] ∧ x.2 = ([], zm Z ν) ∧ zM s Z ∧ zC [2] Zs Z ∧ zU [] Zs Z ∧ m = (6 - x1).toNat ∧ (0 ≤ x1 ∧ x1 ≤ 6) ∧ zE T (zl_463_1 (m + 1) Z x1)) ?_ 65536 ((6 - x1).toNat) _ (by omega) ⟨Z, x1, hL, rfl, hZ, hK, hU, rfl, gx1, hP⟩
  clear hP gx1 hZ hK hU hL
  clear x1
  clear Z
  rintro m ⟨L, st, μ⟩ ⟨Z, x1, hL, hx, hZ, hK, hU, hm, gx1, hP⟩
  cases hx
  refine fb_463_1 (i3 x1) _ _ _ _ hL ?_
  have r1 := zM_k hZ 2 0 0 1200 (lo := 0) (hi := 6) (by decide) rfl
  refine wz_br (i3Le (zm_rd (Z := Z) (ν := ν) (k := 2) (show ((0 : Nat) : Int) = 0 from rfl) (show ((0 : Nat) : Int) = 0 from rfl) (show ((1200 : Nat) : Int) = 1200 from rfl)) (rfl : i3 x1 = i3 x1) (by omega) (by omega) (by omega) (by omega)) (fun h2 => ?_) (fun h2 => ?_)
  · replace hP := zE_p hP h2
    exact hk _ _ _ (zconso rfl (zconso rfl rfl)) hZ hK hU (by omega)  hP
  · replace hP := zE_n hP h2
    refine wz_i0 (i3O (n := 4400) (i3A (i3A (show (1210 : Int32) = i3 1210 from rfl) (i3M (show (12 : Int32) = i3 12 from rfl) (rfl : i3 x1 = i3 x1))) (show (8 : Int32) = i3 8 from rfl)) (by omega) (by omega) (by omega)) ?_
    obtain ⟨Z3, hZ3⟩ := zx (zu Z 2 0 0 (1218 + 12 * x1) 0)
    replace hP := zl_e hP hZ3
    have hZ3I := zM_02 hZ hZ3 (by simp only [zsp]; omega)
    have hZ3U : zU [] Zs Z3 := zU_u hU hZ3 (Or.inl rfl)
    have hZ3K : zC [2] Zs Z3 := zC_u hK hZ3 (zcl_2w (by omega) rfl)
    intro μ9 e9
    replace e9 := e9.trans (zm_wI (Z := Z) (ν := ν) hZ3 (show ((0 : Nat) : Int) = 0 from rfl) (show ((0 : Nat) : Int) = 0 from rfl) (i3I (y := (1218 + 12 * x1)) (i3A (i3A (show (1210 : Int32) = i3 1210 from rfl) (i3M (show (12 : Int32) = i3 12 from rfl) (rfl : i3 x1 = i3 x1))) (show (8 : Int32) = i3 8 from rfl)) (by omega) (by omega) (by omega)) (show (0 : Int32) = i3 0 from rfl))
    subst e9
    obtain ⟨m2, rfl⟩ : ∃ m2, m = m2 + 1 := ⟨m - 1, by omega⟩
    exact wz_k1 ⟨m2, by omega, Z3, (x1 + 1), (zconso rfl (zconso (zvo (i3A (rfl : i3 x1 = i3 x1) (show (1 : Int32) = i3 1 from rfl))) rfl)), rfl, hZ3I, hZ3K, hZ3U, by omega, by omega,  hP⟩
/- yX12_rClosed -/
def zf_463 (Z : qz_Z) : qz_Z := (zlet2 (zl_463_1 7 Z 0) (fun Z2 y1 => Z2))
theorem sp_463 {s : zSM} {Z : qz_Z} {ν : qz_N} (hZ : zM s Z) (hM : s.2 + 0 ≤ 1000000000) : ∃ P : qz_Z, P = zf_463 Z ∧ (qf_463 [.inr (.inr (some (1, 0, 0)))] (zm Z ν) = some (zm P ν, .inl none) ∧ zM s P ∧ zC [2] Z P ∧ zU [] Z P) := by
  obtain ⟨P, hP⟩ := zx (zf_463 Z)
  refine zc_V (Q := fun P => zM s P ∧ zC [2] Z P ∧ zU [] Z P) hP (fw_463  _ _ ?_)
  replace hP : zE P (zf_463 Z) := hP
  unfold zf_463 at hP
  refine sl_463_1 (ν := ν) hZ (zbh (c := 0) (k := 0) hM (Nat.le_of_ble_eq_true rfl)) zC_r (x1 := 0) (by omega) zU_r  (zconso rfl (zconso (zvo (show (0 : Int32) = i3 0 from rfl)) rfl)) rfl ?_
  intro L3 Z2 y1 hL3 hZ2I kZ2 jZ2 gy1 q9
  replace hP := zl_e2 hP (Eq.symm q9)
  clear q9
  have hZ2U : zU [] Z Z2 := zU_t zU_r jZ2 zU_b0
  have hZ2K : zC [2] Z Z2 := zC_t zC_r kZ2 (by decide)
  refine fc_463_2  _ _ _ _ hL3 ?_
  exact zlV hP ⟨hZ2I, hZ2K, hZ2U⟩
/- yX12_rWorked -/
def zl_492_1 : Nat → qz_Z → Int → Int → Int × Int
  | 0, Z, x1, x2 => (x1, x2)
  | m + 1, Z, x1, x2 => (if (Z 2 0 0 1200) ≤ x2 then (x1, x2) else zl_492_1 m Z (w3 (x1 + (Z 2 0 0 (1218 + 12 * x2)))) (x2 + 1))
theorem sl_492_1 {s : zSM} {Z : qz_Z} {ν : qz_N} (hZ : zM s Z) (hM : s.2 + 0 ≤ 1000000000) {x1 : Int} (gx1 : -2147483648 ≤ x1 ∧ x1 ≤ 2147483647) {x2 : Int} (gx2 : 0 ≤ x2 ∧ x2 ≤ 6) {k : wz_K} {R : wz_R} {L : qz_L} (hL : qz_fg [true, true, true] L = [some (.inr (.inr (some (1, 0, 0)))), some (.inl (i3 x1)), some (.inl (i3 x2))]) {T : Int × Int} (hP : zE T (zl_492_1 ((6 - x2).toNat + 1) Z x1 x2)) (hk : ∀ (L9 : qz_L) (yx1 yx2 : Int), qz_fg [false, true, false] L9 = [none, some (.inl (i3 yx1)), none] → (-2147483648 ≤ yx1 ∧ yx1 ≤ 2147483647) → (0 ≤ yx2 ∧ yx2 ≤ 6) → zE T ((yx1, yx2)) → k 0 (L9, [], zm Z ν)) : wz_loop qb_492_1 65536 k R (L, [], zm Z ν) := by
  refine wz_lp sb_492_1 (fun m x => ∃ x1 : Int, ∃ x2 : Int, qz_fg [true, true, true] x.1 = [some (.inr (.inr (some (1, 0, 0)))), some (.inl (i3 x1)), some (.inl (i3 x2))] ∧ x.2 = ([], zm Z ν) ∧ m = (6 - x2).toNat ∧ (-2147483648 ≤ x1 ∧ x1 ≤ 2147483647) ∧ (0 ≤ x2 ∧ x2 ≤ 6) ∧ zE T (zl_492_1 (m + 1) Z x1 x2)) ?_ 65536 ((6 - x2).toNat) _ (by omega) ⟨x1, x2, hL, rfl, rfl, gx1, gx2, hP⟩
  clear hP gx1 gx2 hL
  clear x1 x2
  rintro m ⟨L, st, μ⟩ ⟨x1, x2, hL, hx, hm, gx1, gx2, hP⟩
  cases hx
  refine fb_492_1 (i3 x1) (i3 x2) _ _ _ _ hL ?_
  have r1 := zM_k hZ 2 0 0 1200 (lo := 0) (hi := 6) (by decide) rfl
  refine wz_br (i3Le (zm_rd (Z := Z) (ν := ν) (k := 2) (show ((0 : Nat) : Int) = 0 from rfl) (show ((0 : Nat) : Int) = 0 from rfl) (show ((1200 : Nat) : Int) = 1200 from rfl)) (rfl : i3 x2 = i3 x2) (by omega) (by omega) (by omega) (by omega)) (fun h2 => ?_) (fun h2 => ?_)
  · replace hP := zE_p hP h2
    exact hk _ _ _ (zconso rfl (zconso (zvo (rfl : i3 x1 = i3 x1)) (zconso rfl rfl)))  (by omega) (by omega)  hP
  · replace hP := zE_n hP h2
    refine wz_i0 (i3O (n := 4400) (i3A (i3A (show (1210 : Int32) = i3 1210 from rfl) (i3M (show (12 : Int32) = i3 12 from rfl) (rfl : i3 x2 = i3 x2))) (show (8 : Int32) = i3 8 from rfl)) (by omega) (by omega) (by omega)) ?_
    have r3 := zM_f hZ 2 0 0 (1218 + 12 * x2)
    have r4 := w3_r (x1 + (Z 2 0 0 (1218 + 12 * x2)))
    obtain ⟨m2, rfl⟩ : ∃ m2, m = m2 + 1 := ⟨m - 1, by omega⟩
    exact wz_k1 ⟨m2, by omega, (w3 (x1 + (Z 2 0 0 (1218 + 12 * x2)))), (x2 + 1), (zconso rfl (zconso (zvo (i3W (i3A (rfl : i3 x1 = i3 x1) (zm_rd (Z := Z) (ν := ν) (k := 2) (show ((0 : Nat) : Int) = 0 from rfl) (show ((0 : Nat) : Int) = 0 from rfl) (i3I (y := (1218 + 12 * x2)) (i3A (i3A (show (1210 : Int32) = i3 1210 from rfl) (i3M (show (12 : Int32) = i3 12 from rfl) (rfl : i3 x2 = i3 x2))) (show (8 : Int32) = i3 8 from rfl)) (by omega) (by omega) (by omega)))))) (zconso (zvo (i3A (rfl : i3 x2 = i3 x2) (show (1 : Int32) = i3 1 from rfl))) rfl))), rfl,  by omega, by omega, by omega,  hP⟩
/- yX12_rWorked -/
def zf_492 (Z : qz_Z) : Int := (zlet2 (zl_492_1 7 Z 0 0) (fun y1 y2 => y1))
theorem sp_492 {s : zSM} {Z : qz_Z} {ν : qz_N} (hZ : zM s Z) (hM : s.2 + 0 ≤ 1000000000) : ∃ P : Int, P = zf_492 Z ∧ (qf_492 [.inr (.inr (some (1, 0, 0)))] (zm Z ν) = some (zm Z ν, .inl (some (.inl (i3 P)))) ∧ -2147483648 ≤ P ∧ P ≤ 2147483647) := by
  obtain ⟨P, hP⟩ := zx (zf_492 Z)
  refine zc_R (Q := fun P => -2147483648 ≤ P ∧ P ≤ 2147483647) hP (fw_492  _ _ ?_)
  replace hP : zE P (zf_492 Z) := hP
  unfold zf_492 at hP
  refine sl_492_1 (ν := ν) hZ (zbh (c := 0) (k := 0) hM (Nat.le_of_ble_eq_true rfl)) (x1 := 0) (by omega) (x2 := 0) (by omega)  (zconso rfl (zconso (zvo (show (0 : Int32) = i3 0 from rfl)) (zconso (zvo (show (0 : Int32) = i3 0 from rfl)) rfl))) rfl ?_
  intro L3 y1 y2 hL3 gy1 gy2 q9
  replace hP := zl_e2 hP (Eq.symm q9)
  clear q9
  refine fc_492_2 (i3 y1) _ _ _ _ hL3 ?_
  exact zlR hP (rfl : i3 y1 = i3 y1) ⟨by omega, by omega⟩
/- yX12_kClose -/
def zl_402_1 (x1 : Int) : Nat → qz_Z → Int → qz_Z × Int
  | 0, Z, x2 => (Z, x2)
  | m + 1, Z, x2 => (if (Z 2 0 0 3815) ≤ x2 then (Z, x2) else (if (Z 2 0 0 (3852 + 8 * x2)) ≠ 0 then zl_402_1 x1 m Z (x2 + 1) else (zlet (zf_408 Z x2) (fun Z5 => zl_402_1 x1 m Z5 (x2 + 1)))))
theorem sl_402_1 {s : zSM} {xM9 : Nat} {Zs Z : qz_Z} {ν : qz_N} (hZ : zM (zb s xM9) Z) (hM : s.2 + 39 ≤ 1000000000) (hK : zC [2] Zs Z) {x1 : Int} (gx1 : 0 ≤ x1 ∧ x1 ≤ 27) {x2 : Int} (gx2 : 0 ≤ x2 ∧ x2 ≤ 12) (hU : zU [] Zs Z) (hx9 : xM9 + 3 * ((12 - x2).toNat) + 3 ≤ 39) {k : wz_K} {R : wz_R} {L : qz_L} (hL : qz_fg [true, true, true] L = [some (.inr (.inr (some (1, 0, 0)))), some (.inl (i3 x1)), some (.inl (i3 x2))]) {T : qz_Z × Int} (hP : zE T (zl_402_1 x1 ((12 - x2).toNat + 1) Z x2)) (hk : ∀ (L9 : qz_L) (Z9 : qz_Z) (yx2 : Int), qz_fg [true, true, false] L9 = [some (.inr (.inr (some (1, 0, 0)))), some (.inl (i3 x1)), none] → zM (zb s 39) Z9 → zC [2] Zs Z9 → zU [] Zs Z9 → (0 ≤ yx2 ∧ yx2 ≤ 12) → zE T ((Z9, yx2)) → k 0 (L9, [], zm Z9 ν)) : wz_loop qb_402_1 65536 k R (L, [], zm Z ν) := by
  refine wz_lp sb_402_1 (fun m x => ∃ xM9 : Nat, ∃ Z : qz_Z, ∃ x2 : Int, qz_fg [true, true, true] x.1 = [some (.inr (.inr (some (1, 0, 0)))), some (.inl (i3 x1)), some (.inl (i3 x2))] ∧ x.2 = ([], zm Z ν) ∧ xM9 + 3 * m + 3 ≤ 39 ∧ zM (zb s xM9) Z ∧ zC [2] Zs Z ∧ zU [] Zs Z ∧ m = (12 - x2).toNat ∧ (0 ≤ x2 ∧ x2 ≤ 12) ∧ zE T (zl_402_1 x1 (m + 1) Z x2)) ?_ 65536 ((12 - x2).toNat) _ (by omega) ⟨xM9, Z, x2, hL, rfl, hx9, hZ, hK, hU, rfl, gx2, hP⟩
  clear hP gx2 hx9 hZ hK hU hL
  clear x2
  clear Z
  clear xM9
  rintro m ⟨L, st, μ⟩ ⟨xM9, Z, x2, hL, hx, hx9, hZ, hK, hU, hm, gx2, hP⟩
  cases hx
  have hM9 : (zb s xM9).2 + 3 ≤ 1000000000 := by
    show s.2 + xM9 + 3 ≤ 1000000000
    omega
  refine fb_402_1 (i3 x1) (i3 x2) _ _ _ _ hL ?_
  have r1 := zM_k hZ 2 0 0 3815 (lo := 0) (hi := 12) (by decide) rfl
  refine wz_br (i3Le (zm_rd (Z := Z) (ν := ν) (k := 2) (show ((0 : Nat) : Int) = 0 from rfl) (show ((0 : Nat) : Int) = 0 from rfl) (show ((3815 : Nat) : Int) = 3815 from rfl)) (rfl : i3 x2 = i3 x2) (by omega) (by omega) (by omega) (by omega)) (fun h2 => ?_) (fun h2 => ?_)
  · replace hP := zE_p hP h2
    exact hk _ _ _ (zconso rfl (zconso (zvo (rfl : i3 x1 = i3 x1)) (zconso rfl rfl))) (zmx0 hZ (by omega)) hK hU (by omega)  hP
  · replace hP := zE_n hP h2
    refine wz_i0 (i3O (n := 4400) (i3A (i3A (show (3850 : Int32) = i3 3850 from rfl) (i3M (show (8 : Int32) = i3 8 from rfl) (rfl : i3 x2 = i3 x2))) (show (2 : Int32) = i3 2 from rfl)) (by omega) (by omega) (by omega)) ?_
    have r3 := zM_k hZ 2 0 0 (3852 + 8 * x2) (lo := 0) (hi := 2) (by decide) (zs_3850_2 (x := x2) (by omega) (by omega) (by omega))
    refine wz_br (i3NE (zm_rd (Z := Z) (ν := ν) (k := 2) (show ((0 : Nat) : Int) = 0 from rfl) (show ((0 : Nat) : Int) = 0 from rfl) (i3I (y := (3852 + 8 * x2)) (i3A (i3A (show (3850 : Int32) = i3 3850 from rfl) (i3M (show (8 : Int32) = i3 8 from rfl) (rfl : i3 x2 = i3 x2))) (show (2 : Int32) = i3 2 from rfl)) (by omega) (by omega) (by omega))) (show (0 : Int32) = i3 0 from rfl) (by omega) (by omega) (by omega) (by omega)) (fun h4 => ?_) (fun h4 => ?_)
    · replace hP := zE_p hP h4
      obtain ⟨m2, rfl⟩ : ∃ m2, m = m2 + 1 := ⟨m - 1, by omega⟩
      exact wz_k1 ⟨m2, by omega, xM9, Z, (x2 + 1), (zconso rfl (zconso (zvo (rfl : i3 x1 = i3 x1)) (zconso (zvo (i3A (rfl : i3 x2 = i3 x2) (show (1 : Int32) = i3 1 from rfl))) rfl))), rfl, by omega, hZ, hK, hU, by omega, by omega,  hP⟩
    · replace hP := zE_n hP h4
      obtain ⟨Z5, hZ5, c9, hZ5I, kZ5, jZ5⟩ := sp_408 (ν := ν) hZ (a1 := x2) (by omega) (zbh (c := 0) (k := 3) hM9 (Nat.le_of_ble_eq_true rfl))
      have hZ5U : zU [] Zs Z5 := zU_t hU jZ5 zU_b0
      have hZ5K : zC [2] Zs Z5 := zC_t hK kZ5 (by decide)
      replace hP := zl_e hP hZ5
      refine wz_cV_of (zas (zcons rfl (zcons (zvi (rfl : i3 x2 = i3 x2)) rfl)) c9) ?_
      clear c9
      obtain ⟨m2, rfl⟩ : ∃ m2, m = m2 + 1 := ⟨m - 1, by omega⟩
      exact wz_k1 ⟨m2, by omega, xM9 + 3, Z5, (x2 + 1), (zconso rfl (zconso (zvo (rfl : i3 x1 = i3 x1)) (zconso (zvo (i3A (rfl : i3 x2 = i3 x2) (show (1 : Int32) = i3 1 from rfl))) rfl))), rfl, by omega, (zmt hZ5I rfl), hZ5K, hZ5U, by omega, by omega,  hP⟩
