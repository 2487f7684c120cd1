/- yX12_found -/
def zy_342 (Z : qz_Z) (a1 : Int) (a2 : Int) : qz_Z × Int := (if a1 < 0 then (zlet (zu Z 1 0 0 2 1) (fun Z5 => (Z5, 0))) else (if ((Z 2 0 0 3501) - 1) < a1 then (zlet (zu Z 1 0 0 2 1) (fun Z8 => (Z8, 0))) else (zlet (zu Z 1 0 0 2 0) (fun Z9 => (if a2 < 0 then (zlet (zu Z9 1 0 0 2 2) (fun Z11 => (Z11, 0))) else (if 5 < a2 then (zlet (zu Z9 1 0 0 2 2) (fun Z13 => (Z13, 0))) else (zlet (zu Z9 1 0 0 2 0) (fun Z14 => (Z14, (Z14 2 0 0 (3554 + 6 * (Z14 2 0 0 3501) + (-6) * a1 + a2)))))))))))
theorem sy_342 {s : zSM} {Z : qz_Z} {ν : qz_N} (hZ : zM s Z) (gq : Z 1 0 0 35 = 0) (hM : s.2 + 0 ≤ 1000000000) {a1 : Int} (ga1 : -2147483648 ≤ a1 ∧ a1 ≤ 2147483647) {a2 : Int} (ga2 : -2147483648 ≤ a2 ∧ a2 ≤ 2147483647) {ν1 : qz_N} : ∃ (Z1 : qz_Z) (ν2 : qz_N) (v : Int), (Z1, v) = zy_342 Z a1 a2 ∧ (ν2 = ν ∨ ν2 = ν1) ∧ qf_342 [.inr (.inr (some (1, 0, 0))), .inl (i3 a1), .inl (i3 a2)] (zm Z ν) = some (zm Z1 ν2, .inl (some (.inl (i3 v)))) ∧ (fun Z1 => zM s Z1 ∧ zC [1] Z Z1 ∧ zU [] Z Z1) Z1 := by
  obtain ⟨P, hP⟩ := zx (zy_342 Z a1 a2)
  refine zc_Y (Q := fun Z1 => zM s Z1 ∧ zC [1] Z Z1 ∧ zU [] Z Z1) hP (fw_342 (i3 a1) (i3 a2) _ _ ?_)
  replace hP : zE P (zy_342 Z a1 a2) := hP
  unfold zy_342 at hP
  have r1 := zM_k hZ 1 0 0 35 (lo := 0) (hi := 1) (by decide) rfl
  have r2 := zM_k hZ 1 0 0 34 (lo := 0) (hi := 8) (by decide) rfl
  have r3 := zM_f hZ 1 0 0 37
  refine wz_br (i3L (rfl : i3 a1 = i3 a1) (show (0 : Int32) = i3 0 from rfl) (by omega) (by omega) (by omega) (by omega)) (fun h4 => ?_) (fun h4 => ?_)
  · replace hP := zE_p hP h4
    obtain ⟨Z5, hZ5⟩ := zx (zu Z 1 0 0 2 1)
    replace hP := zl_e hP hZ5
    have hZ5I := zM_u hZ hZ5 (lo := -2147483648) (hi := 2147483647) (by decide) rfl (by omega) ⟨by decide, by decide⟩ (Or.inr (by decide)) rfl
    have hZ5U : zU [] Z Z5 := zU_u zU_r hZ5 (Or.inl rfl)
    have hZ5K : zC [1] Z Z5 := zC_u zC_r hZ5 (by decide)
    intro μ9 e9
    replace e9 := e9.trans (zm_wI (Z := Z) (ν := ν) hZ5 (show ((0 : Nat) : Int) = 0 from rfl) (show ((0 : Nat) : Int) = 0 from rfl) (show ((2 : Nat) : Int) = 2 from rfl) (show (1 : Int32) = i3 1 from rfl))
    subst e9
    exact zlY hP (show (0 : Int32) = i3 0 from rfl) (.inl rfl) ⟨hZ5I, hZ5K, hZ5U⟩
  · replace hP := zE_n hP h4
    have r6 := zM_k hZ 2 0 0 3501 (lo := 0) (hi := 24) (by decide) rfl
    refine wz_br (i3L (i3S (zm_rd (Z := Z) (ν := ν) (k := 2) (show ((0 : Nat) : Int) = 0 from rfl) (show ((0 : Nat) : Int) = 0 from rfl) (show ((3501 : Nat) : Int) = 3501 from rfl)) (show (1 : Int32) = i3 1 from rfl)) (rfl : i3 a1 = i3 a1) (by omega) (by omega) (by omega) (by omega)) (fun h7 => ?_) (fun h7 => ?_)
    · replace hP := zE_p hP h7
      obtain ⟨Z8, hZ8⟩ := zx (zu Z 1 0 0 2 1)
      replace hP := zl_e hP hZ8
      have hZ8I := zM_u hZ hZ8 (lo := -2147483648) (hi := 2147483647) (by decide) rfl (by omega) ⟨by decide, by decide⟩ (Or.inr (by decide)) rfl
      have hZ8U : zU [] Z Z8 := zU_u zU_r hZ8 (Or.inl rfl)
      have hZ8K : zC [1] Z Z8 := zC_u zC_r hZ8 (by decide)
      intro μ9 e9
      replace e9 := e9.trans (zm_wI (Z := Z) (ν := ν) hZ8 (show ((0 : Nat) : Int) = 0 from rfl) (show ((0 : Nat) : Int) = 0 from rfl) (show ((2 : Nat) : Int) = 2 from rfl) (show (1 : Int32) = i3 1 from rfl))
      subst e9
      exact zlY hP (show (0 : Int32) = i3 0 from rfl) (.inl rfl) ⟨hZ8I, hZ8K, hZ8U⟩
    · replace hP := zE_n hP h7
      obtain ⟨Z9, hZ9⟩ := zx (zu Z 1 0 0 2 0)
      replace hP := zl_e hP hZ9
      have hZ9I := zM_0 hZ hZ9 (by decide) (Or.inr (by decide))
      have hZ9U : zU [] Z Z9 := zU_u zU_r hZ9 (Or.inl rfl)
      have hZ9K : zC [1] Z Z9 := zC_u zC_r hZ9 (by decide)
      intro μ9 e9
      replace e9 := e9.trans (zm_wI (Z := Z) (ν := ν) hZ9 (show ((0 : Nat) : Int) = 0 from rfl) (show ((0 : Nat) : Int) = 0 from rfl) (show ((2 : Nat) : Int) = 2 from rfl) (show (0 : Int32) = i3 0 from rfl))
      subst e9
      refine wz_br (i3L (rfl : i3 a2 = i3 a2) (show (0 : Int32) = i3 0 from rfl) (by omega) (by omega) (by omega) (by omega)) (fun h10 => ?_) (fun h10 => ?_)
      · replace hP := zE_p hP h10
        obtain ⟨Z11, hZ11⟩ := zx (zu Z9 1 0 0 2 2)
        replace hP := zl_e hP hZ11
        have hZ11I := zM_u hZ9I hZ11 (lo := -2147483648) (hi := 2147483647) (by decide) rfl (by omega) ⟨by decide, by decide⟩ (Or.inr (by decide)) rfl
        have hZ11U : zU [] Z Z11 := zU_u hZ9U hZ11 (Or.inl rfl)
        have hZ11K : zC [1] Z Z11 := zC_u hZ9K hZ11 (by decide)
        intro μ9 e9
        replace e9 := e9.trans (zm_wI (Z := Z9) (ν := ν) hZ11 (show ((0 : Nat) : Int) = 0 from rfl) (show ((0 : Nat) : Int) = 0 from rfl) (show ((2 : Nat) : Int) = 2 from rfl) (show (2 : Int32) = i3 2 from rfl))
        subst e9
        exact zlY hP (show (0 : Int32) = i3 0 from rfl) (.inl rfl) ⟨hZ11I, hZ11K, hZ11U⟩
      · replace hP := zE_n hP h10
        refine wz_br (i3L (show (5 : Int32) = i3 5 from rfl) (rfl : i3 a2 = i3 a2) (by omega) (by omega) (by omega) (by omega)) (fun h12 => ?_) (fun h12 => ?_)
        · replace hP := zE_p hP h12
          obtain ⟨Z13, hZ13⟩ := zx (zu Z9 1 0 0 2 2)
          replace hP := zl_e hP hZ13
          have hZ13I := zM_u hZ9I hZ13 (lo := -2147483648) (hi := 2147483647) (by decide) rfl (by omega) ⟨by decide, by decide⟩ (Or.inr (by decide)) rfl
          have hZ13U : zU [] Z Z13 := zU_u hZ9U hZ13 (Or.inl rfl)
          have hZ13K : zC [1] Z Z13 := zC_u hZ9K hZ13 (by decide)
          intro μ9 e9
          replace e9 := e9.trans (zm_wI (Z := Z9) (ν := ν) hZ13 (show ((0 : Nat) : Int) = 0 from rfl) (show ((0 : Nat) : Int) = 0 from rfl) (show ((2 : Nat) : Int) = 2 from rfl) (show (2 : Int32) = i3 2 from rfl))
          subst e9
          exact zlY hP (show (0 : Int32) = i3 0 from rfl) (.inl rfl) ⟨hZ13I, hZ13K, hZ13U⟩
        · replace hP := zE_n hP h12
          obtain ⟨Z14, hZ14⟩ := zx (zu Z9 1 0 0 2 0)
          replace hP := zl_e hP hZ14
          have hZ14I := zM_0 hZ9I hZ14 (by decide) (Or.inr (by decide))
          have hZ14U : zU [] Z Z14 := zU_u hZ9U hZ14 (Or.inl rfl)
          have hZ14K : zC [1] Z Z14 := zC_u hZ9K hZ14 (by decide)
          intro μ9 e9
          replace e9 := e9.trans (zm_wI (Z := Z9) (ν := ν) hZ14 (show ((0 : Nat) : Int) = 0 from rfl) (show ((0 : Nat) : Int) = 0 from rfl) (show ((2 : Nat) : Int) = 2 from rfl) (show (0 : Int32) = i3 0 from rfl))
          subst e9
          have r15 := zM_k hZ14I 2 0 0 3501 (lo := 0) (hi := 24) (by decide) rfl
          have q16 := (zu_ne (k' := 2) (b' := 0) (i' := 0) (j' := 3501) hZ14 (fun q => absurd q.1 (by decide))).trans (zu_ne (k' := 2) (b' := 0) (i' := 0) (j' := 3501) hZ9 (fun q => absurd q.1 (by decide)))
          refine wz_i0 (i3O (n := 4400) (i3A (i3A (show (3560 : Int32) = i3 3560 from rfl) (i3M (show (6 : Int32) = i3 6 from rfl) (i3S (i3S (zm_rd (Z := Z14) (ν := ν) (k := 2) (show ((0 : Nat) : Int) = 0 from rfl) (show ((0 : Nat) : Int) = 0 from rfl) (show ((3501 : Nat) : Int) = 3501 from rfl)) (show (1 : Int32) = i3 1 from rfl)) (rfl : i3 a1 = i3 a1)))) (rfl : i3 a2 = i3 a2)) (by omega) (by omega) (by omega)) ?_
          have r17 := zM_f hZ14I 2 0 0 (3554 + 6 * (Z14 2 0 0 3501) + (-6) * a1 + a2)
          exact zlY hP (zm_rd (Z := Z14) (ν := ν) (k := 2) (show ((0 : Nat) : Int) = 0 from rfl) (show ((0 : Nat) : Int) = 0 from rfl) (i3I (y := (3554 + 6 * (Z14 2 0 0 3501) + (-6) * a1 + a2)) (i3A (i3A (show (3560 : Int32) = i3 3560 from rfl) (i3M (show (6 : Int32) = i3 6 from rfl) (i3S (i3S (zm_rd (Z := Z14) (ν := ν) (k := 2) (show ((0 : Nat) : Int) = 0 from rfl) (show ((0 : Nat) : Int) = 0 from rfl) (show ((3501 : Nat) : Int) = 3501 from rfl)) (show (1 : Int32) = i3 1 from rfl)) (rfl : i3 a1 = i3 a1)))) (rfl : i3 a2 = i3 a2)) (by omega) (by omega) (by omega))) (.inl rfl) ⟨hZ14I, hZ14K, hZ14U⟩
/- yX12_gas -/
def zy_344 (Z : qz_Z) (dm : qz_Z → Int → Int → Int → Int → Int → Int → Int → qz_Z) (a1 : Int) (a2 : Int) : qz_Z × Int := (if a1 < 0 then (zlet (zu Z 1 0 0 2 1) (fun Z5 => (Z5, 0))) else (if ((Z 2 0 0 1200) - 1) < a1 then (zlet (zu Z 1 0 0 2 1) (fun Z8 => (Z8, 0))) else (zlet (zu Z 1 0 0 2 0) (fun Z9 => (if a2 = 0 then (zlet (dm Z9 7 a1 0 0 0 0 0) (fun Z17 => (if (Z17 2 0 0 (1214 + 12 * a1)) ≠ 1 then (zlet (zu Z17 2 0 0 (1214 + 12 * a1) 0) (fun Z20 => (Z20, 0))) else (zlet (zu Z17 2 0 0 (1214 + 12 * a1) 0) (fun Z21 => (Z21, 1)))))) else (zlet (dm Z9 7 a1 1 0 0 0 0) (fun Z28 => (if (Z28 2 0 0 (1214 + 12 * a1)) ≠ 1 then (zlet (zu Z28 2 0 0 (1214 + 12 * a1) 1) (fun Z31 => (Z31, 0))) else (zlet (zu Z28 2 0 0 (1214 + 12 * a1) 1) (fun Z32 => (Z32, 1)))))))))))
theorem sy_344 {s : zSM} {Z : qz_Z} {ν : qz_N} (hZ : zM s Z) (gq : Z 1 0 0 35 = 0) (hM : s.2 + 0 ≤ 1000000000) {a1 : Int} (ga1 : -2147483648 ≤ a1 ∧ a1 ≤ 2147483647) {a2 : Int} (ga2 : 0 ≤ a2 ∧ a2 ≤ 1) {dk : qz_Z → qz_Z} {dm : qz_Z → Int → Int → Int → Int → Int → Int → Int → qz_Z} {ν1 : qz_N} (hdm : zDm s ν ν1 Z dk dm) : ∃ (Z1 : qz_Z) (ν2 : qz_N) (v : Int), (Z1, v) = zy_344 Z dm a1 a2 ∧ (ν2 = ν ∨ ν2 = ν1) ∧ qf_344 [.inr (.inr (some (1, 0, 0))), .inl (i3 a1), .inl (i3 a2)] (zm Z ν) = some (zm Z1 ν2, .inl (some (.inl (i3 v)))) ∧ (fun Z1 => zM s Z1 ∧ zC [1, 2, 101, 102, 200] Z Z1 ∧ zU [] Z Z1) Z1 := by
  obtain ⟨P, hP⟩ := zx (zy_344 Z dm a1 a2)
  refine zc_Y (Q := fun Z1 => zM s Z1 ∧ zC [1, 2, 101, 102, 200] Z Z1 ∧ zU [] Z Z1) hP (fw_344 (i3 a1) (i3 a2) _ _ ?_)
  replace hP : zE P (zy_344 Z dm a1 a2) := hP
  unfold zy_344 at hP
  have r1 := zM_k hZ 1 0 0 35 (lo := 0) (hi := 1) (by decide) rfl
  have r2 := zM_k hZ 1 0 0 34 (lo := 0) (hi := 8) (by decide) rfl
  have r3 := zM_f hZ 1 0 0 37
  refine wz_br (i3L (rfl : i3 a1 = i3 a1) (show (0 : Int32) = i3 0 from rfl) (by omega) (by omega) (by omega) (by omega)) (fun h4 => ?_) (fun h4 => ?_)
  · replace hP := zE_p hP h4
    obtain ⟨Z5, hZ5⟩ := zx (zu Z 1 0 0 2 1)
    replace hP := zl_e hP hZ5
    have hZ5I := zM_u hZ hZ5 (lo := -2147483648) (hi := 2147483647) (by decide) rfl (by omega) ⟨by decide, by decide⟩ (Or.inr (by decide)) rfl
    have hZ5U : zU [] Z Z5 := zU_u zU_r hZ5 (Or.inl rfl)
    have hZ5K : zC [1, 2, 101, 102, 200] Z Z5 := zC_u zC_r hZ5 (by decide)
    intro μ9 e9
    replace e9 := e9.trans (zm_wI (Z := Z) (ν := ν) hZ5 (show ((0 : Nat) : Int) = 0 from rfl) (show ((0 : Nat) : Int) = 0 from rfl) (show ((2 : Nat) : Int) = 2 from rfl) (show (1 : Int32) = i3 1 from rfl))
    subst e9
    exact zlY hP (show (0 : Int32) = i3 0 from rfl) (.inl rfl) ⟨hZ5I, hZ5K, hZ5U⟩
  · replace hP := zE_n hP h4
    have r6 := zM_k hZ 2 0 0 1200 (lo := 0) (hi := 6) (by decide) rfl
    refine wz_br (i3L (i3S (zm_rd (Z := Z) (ν := ν) (k := 2) (show ((0 : Nat) : Int) = 0 from rfl) (show ((0 : Nat) : Int) = 0 from rfl) (show ((1200 : Nat) : Int) = 1200 from rfl)) (show (1 : Int32) = i3 1 from rfl)) (rfl : i3 a1 = i3 a1) (by omega) (by omega) (by omega) (by omega)) (fun h7 => ?_) (fun h7 => ?_)
    · replace hP := zE_p hP h7
      obtain ⟨Z8, hZ8⟩ := zx (zu Z 1 0 0 2 1)
      replace hP := zl_e hP hZ8
      have hZ8I := zM_u hZ hZ8 (lo := -2147483648) (hi := 2147483647) (by decide) rfl (by omega) ⟨by decide, by decide⟩ (Or.inr (by decide)) rfl
      have hZ8U : zU [] Z Z8 := zU_u zU_r hZ8 (Or.inl rfl)
      have hZ8K : zC [1, 2, 101, 102, 200] Z Z8 := zC_u zC_r hZ8 (by decide)
      intro μ9 e9
      replace e9 := e9.trans (zm_wI (Z := Z) (ν := ν) hZ8 (show ((0 : Nat) : Int) = 0 from rfl) (show ((0 : Nat) : Int) = 0 from rfl) (show ((2 : Nat) : Int) = 2 from rfl) (show (1 : Int32) = i3 1 from rfl))
      subst e9
      exact zlY hP (show (0 : Int32) = i3 0 from rfl) (.inl rfl) ⟨hZ8I, hZ8K, hZ8U⟩
    · replace hP := zE_n hP h7
      obtain ⟨Z9, hZ9⟩ := zx (zu Z 1 0 0 2 0)
      replace hP := zl_e hP hZ9
      have hZ9I := zM_0 hZ hZ9 (by decide) (Or.inr (by decide))
      have hZ9U : zU [] Z Z9 := zU_u zU_r hZ9 (Or.inl rfl)
      have hZ9K : zC [1, 2, 101, 102, 200] Z Z9 := zC_u zC_r hZ9 (by decide)
      intro μ9 e9
      replace e9 := e9.trans (zm_wI (Z := Z) (ν := ν) hZ9 (show ((0 : Nat) : Int) = 0 from rfl) (show ((0 : Nat) : Int) = 0 from rfl) (show ((2 : Nat) : Int) = 2 from rfl) (show (0 : Int32) = i3 0 from rfl))
      subst e9
      refine wz_br (i3E (rfl : i3 a2 = i3 a2) (show (0 : Int32) = i3 0 from rfl) (by omega) (by omega) (by omega) (by omega)) (fun h10 => ?_) (fun h10 => ?_)
      · replace hP := zE_p hP h10
        have r11 := zM_k hZ9I 1 0 0 35 (lo := 0) (hi := 1) (by decide) rfl
        have q12 := zu_ne (k' := 1) (b' := 0) (i' := 0) (j' := 35) hZ9 (fun q => absurd q.2.2.2 (by decide))
        refine wz_i0 (Eq.trans (i3NE (zm_rd (Z := Z9) (ν := ν) (k := 1) (show ((0 : Nat) : Int) = 0 from rfl) (show ((0 : Nat) : Int) = 0 from rfl) (show ((35 : Nat) : Int) = 35 from rfl)) (show (0 : Int32) = i3 0 from rfl) (by omega) (by omega) (by omega) (by omega)) (decide_eq_false (by omega))) ?_
        have r13 := zM_k hZ9I 1 0 0 34 (lo := 0) (hi := 8) (by decide) rfl
        have q14 := zu_ne (k' := 1) (b' := 0) (i' := 0) (j' := 34) hZ9 (fun q => absurd q.2.2.2 (by decide))
        have r15 := zM_f hZ9I 1 0 0 37
        have q16 := zu_ne (k' := 1) (b' := 0) (i' := 0) (j' := 37) hZ9 (fun q => absurd q.2.2.2 (by decide))
        obtain ⟨c8, c9, hZ17I, dZ17⟩ := hdm Z9 7 a1 0 0 0 0 0 hZ9I (by omega) (by omega) (by omega) (by omega) (by omega) (by omega) (by omega) (by omega) (by omega) (by omega)
        obtain ⟨Z17, hZ17⟩ := zx (dm Z9 7 a1 0 0 0 0 0)
        rw [← hZ17] at c9 hZ17I dZ17
        replace hP := zl_e hP hZ17
        refine wz_cV_of (zas (zcons rfl (zcons (zvi (show (-1 : Int32) = i3 (-1) from rfl)) rfl)) c8) ?_
        refine wz_cV_of (zas (zcons rfl (zcons (zvi (show (7 : Int32) = i3 7 from rfl)) (zcons (zvi (rfl : i3 a1 = i3 a1)) (zcons (zvi (show (0 : Int32) = i3 0 from rfl)) (zcons (zvi (show (0 : Int32) = i3 0 from rfl)) (zcons (zvi (show (0 : Int32) = i3 0 from rfl)) (zcons (zvi (show (0 : Int32) = i3 0 from rfl)) (zcons (zvi (show (0 : Int32) = i3 0 from rfl)) rfl)))))))) c9) ?_
        clear c8 c9
        have hZ17K : zC [1, 2, 101, 102, 200] Z Z17 := zC_t hZ9K (zMd_C dZ17) (by decide)
        have hZ17U : zU [] Z Z17 := zU_t hZ9U (zMd_U dZ17) zU_b0
        refine wz_i0 (i3O (n := 4400) (i3A (i3A (show (1210 : Int32) = i3 1210 from rfl) (i3M (show (12 : Int32) = i3 12 from rfl) (rfl : i3 a1 = i3 a1))) (show (4 : Int32) = i3 4 from rfl)) (by omega) (by omega) (by omega)) ?_
        have r18 := zM_k hZ17I 2 0 0 (1214 + 12 * a1) (lo := 0) (hi := 1) (by decide) (zs_1210_4 (x := a1) (by omega) (by omega) (by omega))
        refine wz_br (i3NE (zm_rd (Z := Z17) (ν := ν1) (k := 2) (show ((0 : Nat) : Int) = 0 from rfl) (show ((0 : Nat) : Int) = 0 from rfl) (i3I (y := (1214 + 12 * a1)) (i3A (i3A (show (1210 : Int32) = i3 1210 from rfl) (i3M (show (12 : Int32) = i3 12 from rfl) (rfl : i3 a1 = i3 a1))) (show (4 : Int32) = i3 4 from rfl)) (by omega) (by omega) (by omega))) (show (1 : Int32) = i3 1 from rfl) (by omega) (by omega) (by omega) (by omega)) (fun h19 => ?_) (fun h19 => ?_)
        · replace hP := zE_p hP h19
          refine wz_i1 (Eq.trans (i3E (rfl : i3 a2 = i3 a2) (show (0 : Int32) = i3 0 from rfl) (by omega) (by omega) (by omega) (by omega)) (decide_eq_true (by omega))) ?_
          refine wz_i0 (i3O (n := 4400) (i3A (i3A (show (1210 : Int32) = i3 1210 from rfl) (i3M (show (12 : Int32) = i3 12 from rfl) (rfl : i3 a1 = i3 a1))) (show (4 : Int32) = i3 4 from rfl)) (by omega) (by omega) (by omega)) ?_
          obtain ⟨Z20, hZ20⟩ := zx (zu Z17 2 0 0 (1214 + 12 * a1) 0)
          replace hP := zl_e hP hZ20
          have hZ20I := zM_02 hZ17I hZ20 (by simp only [zsp]; omega)
          have hZ20U : zU [] Z Z20 := zU_u hZ17U hZ20 (Or.inl rfl)
          have hZ20K : zC [1, 2, 101, 102, 200] Z Z20 := zC_u hZ17K hZ20 (zcl_2w (by omega) rfl)
          intro μ9 e9
          replace e9 := e9.trans (zm_wI (Z := Z17) (ν := ν1) hZ20 (show ((0 : Nat) : Int) = 0 from rfl) (show ((0 : Nat) : Int) = 0 from rfl) (i3I (y := (1214 + 12 * a1)) (i3A (i3A (show (1210 : Int32) = i3 1210 from rfl) (i3M (show (12 : Int32) = i3 12 from rfl) (rfl : i3 a1 = i3 a1))) (show (4 : Int32) = i3 4 from rfl)) (by omega) (by omega) (by omega)) (show (0 : Int32) = i3 0 from rfl))
          subst e9
          exact zlY hP (show (0 : Int32) = i3 0 from rfl) (.inr rfl) ⟨hZ20I, hZ20K, hZ20U⟩
        · replace hP := zE_n hP h19
          refine wz_i1 (Eq.trans (i3E (rfl : i3 a2 = i3 a2) (show (0 : Int32) = i3 0 from rfl) (by omega) (by omega) (by omega) (by omega)) (decide_eq_true (by omega))) ?_
          refine wz_i0 (i3O (n := 4400) (i3A (i3A (show (1210 : Int32) = i3 1210 from rfl) (i3M (show (12 : Int32) = i3 12 from rfl) (rfl : i3 a1 = i3 a1))) (show (4 : Int32) = i3 4 from rfl)) (by omega) (by omega) (by omega)) ?_
          obtain ⟨Z21, hZ21⟩ := zx (zu Z17 2 0 0 (1214 + 12 * a1) 0)
          replace hP := zl_e hP hZ21
          have hZ21I := zM_02 hZ17I hZ21 (by simp only [zsp]; omega)
          have hZ21U : zU [] Z Z21 := zU_u hZ17U hZ21 (Or.inl rfl)
          have hZ21K : zC [1, 2, 101, 102, 200] Z Z21 := zC_u hZ17K hZ21 (zcl_2w (by omega) rfl)
          intro μ9 e9
          replace e9 := e9.trans (zm_wI (Z := Z17) (ν := ν1) hZ21 (show ((0 : Nat) : Int) = 0 from rfl) (show ((0 : Nat) : Int) = 0 from rfl) (i3I (y := (1214 + 12 * a1)) (i3A (i3A (show (1210 : Int32) = i3 1210 from rfl) (i3M (show (12 : Int32) = i3 12 from rfl) (rfl : i3 a1 = i3 a1))) (show (4 : Int32) = i3 4 from rfl)) (by omega) (by omega) (by omega)) (show (0 : Int32) = i3 0 from rfl))
          subst e9
          exact zlY hP (show (1 : Int32) = i3 1 from rfl) (.inr rfl) ⟨hZ21I, hZ21K, hZ21U⟩
      · replace hP := zE_n hP h10
        have r22 := zM_k hZ9I 1 0 0 35 (lo := 0) (hi := 1) (by decide) rfl
        have q23 := zu_ne (k' := 1) (b' := 0) (i' := 0) (j' := 35) hZ9 (fun q => absurd q.2.2.2 (by decide))
        refine wz_i0 (Eq.trans (i3NE (zm_rd (Z := Z9) (ν := ν) (k := 1) (show ((0 : Nat) : Int) = 0 from rfl) (show ((0 : Nat) : Int) = 0 from rfl) (show ((35 : Nat) : Int) = 35 from rfl)) (show (0 : Int32) = i3 0 from rfl) (by omega) (by omega) (by omega) (by omega)) (decide_eq_false (by omega))) ?_
        have r24 := zM_k hZ9I 1 0 0 34 (lo := 0) (hi := 8) (by decide) rfl
        have q25 := zu_ne (k' := 1) (b' := 0) (i' := 0) (j' := 34) hZ9 (fun q => absurd q.2.2.2 (by decide))
        have r26 := zM_f hZ9I 1 0 0 37
        have q27 := zu_ne (k' := 1) (b' := 0) (i' := 0) (j' := 37) hZ9 (fun q => absurd q.2.2.2 (by decide))
        obtain ⟨c8, c9, hZ28I, dZ28⟩ := hdm Z9 7 a1 1 0 0 0 0 hZ9I (by omega) (by omega) (by omega) (by omega) (by omega) (by omega) (by omega) (by omega) (by omega) (by omega)
        obtain ⟨Z28, hZ28⟩ := zx (dm Z9 7 a1 1 0 0 0 0)
        rw [← hZ28] at c9 hZ28I dZ28
        replace hP := zl_e hP hZ28
        refine wz_cV_of (zas (zcons rfl (zcons (zvi (show (-1 : Int32) = i3 (-1) from rfl)) rfl)) c8) ?_
        refine wz_cV_of (zas (zcons rfl (zcons (zvi (show (7 : Int32) = i3 7 from rfl)) (zcons (zvi (rfl : i3 a1 = i3 a1)) (zcons (zvi (show (1 : Int32) = i3 1 from rfl)) (zcons (zvi (show (0 : Int32) = i3 0 from rfl)) (zcons (zvi (show (0 : Int32) = i3 0 from rfl)) (zcons (zvi (show (0 : Int32) = i3 0 from rfl)) (zcons (zvi (show (0 : Int32) = i3 0 from rfl)) rfl)))))))) c9) ?_
        clear c8 c9
        have hZ28K : zC [1, 2, 101, 102, 200] Z Z28 := zC_t hZ9K (zMd_C dZ28) (by decide)
        have hZ28U : zU [] Z Z28 := zU_t hZ9U (zMd_U dZ28) zU_b0
        refine wz_i0 (i3O (n := 4400) (i3A (i3A (show (1210 : Int32) = i3 1210 from rfl) (i3M (show (12 : Int32) = i3 12 from rfl) (rfl : i3 a1 = i3 a1))) (show (4 : Int32) = i3 4 from rfl)) (by omega) (by omega) (by omega)) ?_
        have r29 := zM_k hZ28I 2 0 0 (1214 + 12 * a1) (lo := 0) (hi := 1) (by decide) (zs_1210_4 (x := a1) (by omega) (by omega) (by omega))
        refine wz_br (i3NE (zm_rd (Z := Z28) (ν := ν1) (k := 2) (show ((0 : Nat) : Int) = 0 from rfl) (show ((0 : Nat) : Int) = 0 from rfl) (i3I (y := (1214 + 12 * a1)) (i3A (i3A (show (1210 : Int32) = i3 1210 from rfl) (i3M (show (12 : Int32) = i3 12 from rfl) (rfl : i3 a1 = i3 a1))) (show (4 : Int32) = i3 4 from rfl)) (by omega) (by omega) (by omega))) (show (1 : Int32) = i3 1 from rfl) (by omega) (by omega) (by omega) (by omega)) (fun h30 => ?_) (fun h30 => ?_)
        · replace hP := zE_p hP h30
          refine wz_i0 (Eq.trans (i3E (rfl : i3 a2 = i3 a2) (show (0 : Int32) = i3 0 from rfl) (by omega) (by omega) (by omega) (by omega)) (decide_eq_false (by omega))) ?_
          refine wz_i0 (i3O (n := 4400) (i3A (i3A (show (1210 : Int32) = i3 1210 from rfl) (i3M (show (12 : Int32) = i3 12 from rfl) (rfl : i3 a1 = i3 a1))) (show (4 : Int32) = i3 4 from rfl)) (by omega) (by omega) (by omega)) ?_
          obtain ⟨Z31, hZ31⟩ := zx (zu Z28 2 0 0 (1214 + 12 * a1) 1)
          replace hP := zl_e hP hZ31
          have hZ31I := zM_u2 hZ28I hZ31 (lo := 0) (hi := 1) (zs_1210_4 (x := a1) (by omega) (by omega) (by omega)) (by omega) ⟨by decide, by decide⟩ (by simp only [zsp]; omega)
          have hZ31U : zU [] Z Z31 := zU_u hZ28U hZ31 (Or.inl rfl)
          have hZ31K : zC [1, 2, 101, 102, 200] Z Z31 := zC_u hZ28K hZ31 (zcl_2w (by omega) rfl)
          intro μ9 e9
          replace e9 := e9.trans (zm_wI (Z := Z28) (ν := ν1) hZ31 (show ((0 : Nat) : Int) = 0 from rfl) (show ((0 : Nat) : Int) = 0 from rfl) (i3I (y := (1214 + 12 * a1)) (i3A (i3A (show (1210 : Int32) = i3 1210 from rfl) (i3M (show (12 : Int32) = i3 12 from rfl) (rfl : i3 a1 = i3 a1))) (show (4 : Int32) = i3 4 from rfl)) (by omega) (by omega) (by omega)) (show (1 : Int32) = i3 1 from rfl))
          subst e9
          exact zlY hP (show (0 : Int32) = i3 0 from rfl) (.inr rfl) ⟨hZ31I, hZ31K, hZ31U⟩
        · replace hP := zE_n hP h30
          refine wz_i0 (Eq.trans (i3E (rfl : i3 a2 = i3 a2) (show (0 : Int32) = i3 0 from rfl) (by omega) (by omega) (by omega) (by omega)) (decide_eq_false (by omega))) ?_
          refine wz_i0 (i3O (n := 4400) (i3A (i3A (show (1210 : Int32) = i3 1210 from rfl) (i3M (show (12 : Int32) = i3 12 from rfl) (rfl : i3 a1 = i3 a1))) (show (4 : Int32) = i3 4 from rfl)) (by omega) (by omega) (by omega)) ?_
          obtain ⟨Z32, hZ32⟩ := zx (zu Z28 2 0 0 (1214 + 12 * a1) 1)
          replace hP := zl_e hP hZ32
          have hZ32I := zM_u2 hZ28I hZ32 (lo := 0) (hi := 1) (zs_1210_4 (x := a1) (by omega) (by omega) (by omega)) (by omega) ⟨by decide, by decide⟩ (by simp only [zsp]; omega)
          have hZ32U : zU [] Z Z32 := zU_u hZ28U hZ32 (Or.inl rfl)
          have hZ32K : zC [1, 2, 101, 102, 200] Z Z32 := zC_u hZ28K hZ32 (zcl_2w (by omega) rfl)
          intro μ9 e9
          replace e9 := e9.trans (zm_wI (Z := Z28) (ν := ν1) hZ32 (show ((0 : Nat) : Int) = 0 from rfl) (show ((0 : Nat) : Int) = 0 from rfl) (i3I (y := (1214 + 12 * a1)) (i3A (i3A (show (1210 : Int32) = i3 1210 from rfl) (i3M (show (12 : Int32) = i3 12 from rfl) (rfl : i3 a1 = i3 a1))) (show (4 : Int32) = i3 4 from rfl)) (by omega) (by omega) (by omega)) (show (1 : Int32) = i3 1 from rfl))
          subst e9
          exact zlY hP (show (1 : Int32) = i3 1 from rfl) (.inr rfl) ⟨hZ32I, hZ32K, hZ32U⟩

theorem sq_344 {s : zSM} {Z : qz_Z} {ν : qz_N} (hZ : zM s Z) (gq : Z 1 0 0 35 = 1) (hM : s.2 + 0 ≤ 1000000000) {a1 : Int} (ga1 : -2147483648 ≤ a1 ∧ a1 ≤ 2147483647) {a2 : Int} (ga2 : 0 ≤ a2 ∧ a2 ≤ 1) {ν1 : qz_N} : ∃ (Z1 : qz_Z) (ν2 : qz_N) (v : Int), (Z1, v) = zy_344 Z zq0 a1 a2 ∧ (ν2 = ν ∨ ν2 = ν1) ∧ qf_344 [.inr (.inr (some (1, 0, 0))), .inl (i3 a1), .inl (i3 a2)] (zm Z ν) = some (zm Z1 ν2, .inl (some (.inl (i3 v)))) ∧ (fun Z1 => zM s Z1 ∧ zC [1, 2] Z Z1 ∧ zU [] Z Z1) Z1 := by
  obtain ⟨P, hP⟩ := zx (zy_344 Z zq0 a1 a2)
  refine zc_Y (Q := fun Z1 => zM s Z1 ∧ zC [1, 2] Z Z1 ∧ zU [] Z Z1) hP (fw_344 (i3 a1) (i3 a2) _ _ ?_)
  replace hP : zE P (zy_344 Z zq0 a1 a2) := hP
  unfold zy_344 at hP
  have r1 := zM_k hZ 1 0 0 35 (lo := 0) (hi := 1) (by decide) rfl
  have r2 := zM_k hZ 1 0 0 34 (lo := 0) (hi := 8) (by decide) rfl
  have r3 := zM_f hZ 1 0 0 37
  refine wz_br (i3L (rfl : i3 a1 = i3 a1) (show (0 : Int32) = i3 0 from rfl) (by omega) (by omega) (by omega) (by omega)) (fun h4 => ?_) (fun h4 => ?_)
  · replace hP := zE_p hP h4
    obtain ⟨Z5, hZ5⟩ := zx (zu Z 1 0 0 2 1)
    replace hP := zl_e hP hZ5
    have hZ5I := zM_u hZ hZ5 (lo := -2147483648) (hi := 2147483647) (by decide) rfl (by omega) ⟨by decide, by decide⟩ (Or.inr (by decide)) rfl
    have hZ5U : zU [] Z Z5 := zU_u zU_r hZ5 (Or.inl rfl)
    have hZ5K : zC [1, 2] Z Z5 := zC_u zC_r hZ5 (by decide)
    intro μ9 e9
    replace e9 := e9.trans (zm_wI (Z := Z) (ν := ν) hZ5 (show ((0 : Nat) : Int) = 0 from rfl) (show ((0 : Nat) : Int) = 0 from rfl) (show ((2 : Nat) : Int) = 2 from rfl) (show (1 : Int32) = i3 1 from rfl))
    subst e9
    exact zlY hP (show (0 : Int32) = i3 0 from rfl) (.inl rfl) ⟨hZ5I, hZ5K, hZ5U⟩
  · replace hP := zE_n hP h4
    have r6 := zM_k hZ 2 0 0 1200 (lo := 0) (hi := 6) (by decide) rfl
    refine wz_br (i3L (i3S (zm_rd (Z := Z) (ν := ν) (k := 2) (show ((0 : Nat) : Int) = 0 from rfl) (show ((0 : Nat) : Int) = 0 from rfl) (show ((1200 : Nat) : Int) = 1200 from rfl)) (show (1 : Int32) = i3 1 from rfl)) (rfl : i3 a1 = i3 a1) (by omega) (by omega) (by omega) (by omega)) (fun h7 => ?_) (fun h7 => ?_)
    · replace hP := zE_p hP h7
      obtain ⟨Z8, hZ8⟩ := zx (zu Z 1 0 0 2 1)
      replace hP := zl_e hP hZ8
      have hZ8I := zM_u hZ hZ8 (lo := -2147483648) (hi := 2147483647) (by decide) rfl (by omega) ⟨by decide, by decide⟩ (Or.inr (by decide)) rfl
      have hZ8U : zU [] Z Z8 := zU_u zU_r hZ8 (Or.inl rfl)
      have hZ8K : zC [1, 2] Z Z8 := zC_u zC_r hZ8 (by decide)
      intro μ9 e9
      replace e9 := e9.trans (zm_wI (Z := Z) (ν := ν) hZ8 (show ((0 : Nat) : Int) = 0 from rfl) (show ((0 : Nat) : Int) = 0 from rfl) (show ((2 : Nat) : Int) = 2 from rfl) (show (1 : Int32) = i3 1 from rfl))
      subst e9
      exact zlY hP (show (0 : Int32) = i3 0 from rfl) (.inl rfl) ⟨hZ8I, hZ8K, hZ8U⟩
    · replace hP := zE_n hP h7
      obtain ⟨Z9, hZ9⟩ := zx (zu Z 1 0 0 2 0)
      replace hP := zl_e hP hZ9
      have hZ9I := zM_0 hZ hZ9 (by decide) (Or.inr (by decide))
      have hZ9U : zU [] Z Z9 := zU_u zU_r hZ9 (Or.inl rfl)
      have hZ9K : zC [1, 2] Z Z9 := zC_u zC_r hZ9 (by decide)
      intro μ9 e9
      replace e9 := e9.trans (zm_wI (Z := Z) (ν := ν) hZ9 (show ((0 : Nat) : Int) = 0 from rfl) (show ((0 : Nat) : Int) = 0 from rfl) (show ((2 : Nat) : Int) = 2 from rfl) (show (0 : Int32) = i3 0 from rfl))
      subst e9
      refine wz_br (i3E (rfl : i3 a2 = i3 a2) (show (0 : Int32) = i3 0 from rfl) (by omega) (by omega) (by omega) (by omega)) (fun h10 => ?_) (fun h10 => ?_)
      · replace hP := zE_p hP h10
        have r11 := zM_k hZ9I 1 0 0 35 (lo := 0) (hi := 1) (by decide) rfl
        have q12 := zu_ne (k' := 1) (b' := 0) (i' := 0) (j' := 35) hZ9 (fun q => absurd q.2.2.2 (by decide))
        refine wz_i1 (Eq.trans (i3NE (zm_rd (Z := Z9) (ν := ν) (k := 1) (show ((0 : Nat) : Int) = 0 from rfl) (show ((0 : Nat) : Int) = 0 from rfl) (show ((35 : Nat) : Int) = 35 from rfl)) (show (0 : Int32) = i3 0 from rfl) (by omega) (by omega) (by omega) (by omega)) (decide_eq_true (by omega))) ?_
        replace hP := zl_q hP (rfl : _ = Z9)
        refine wz_i0 (i3O (n := 4400) (i3A (i3A (show (1210 : Int32) = i3 1210 from rfl) (i3M (show (12 : Int32) = i3 12 from rfl) (rfl : i3 a1 = i3 a1))) (show (4 : Int32) = i3 4 from rfl)) (by omega) (by omega) (by omega)) ?_
        have r13 := zM_k hZ9I 2 0 0 (1214 + 12 * a1) (lo := 0) (hi := 1) (by decide) (zs_1210_4 (x := a1) (by omega) (by omega) (by omega))
        refine wz_br (i3NE (zm_rd (Z := Z9) (ν := ν) (k := 2) (show ((0 : Nat) : Int) = 0 from rfl) (show ((0 : Nat) : Int) = 0 from rfl) (i3I (y := (1214 + 12 * a1)) (i3A (i3A (show (1210 : Int32) = i3 1210 from rfl) (i3M (show (12 : Int32) = i3 12 from rfl) (rfl : i3 a1 = i3 a1))) (show (4 : Int32) = i3 4 from rfl)) (by omega) (by omega) (by omega))) (show (1 : Int32) = i3 1 from rfl) (by omega) (by omega) (by omega) (by omega)) (fun h14 => ?_) (fun h14 => ?_)
        · replace hP := zE_p hP h14
          refine wz_i1 (Eq.trans (i3E (rfl : i3 a2 = i3 a2) (show (0 : Int32) = i3 0 from rfl) (by omega) (by omega) (by omega) (by omega)) (decide_eq_true (by omega))) ?_
          refine wz_i0 (i3O (n := 4400) (i3A (i3A (show (1210 : Int32) = i3 1210 from rfl) (i3M (show (12 : Int32) = i3 12 from rfl) (rfl : i3 a1 = i3 a1))) (show (4 : Int32) = i3 4 from rfl)) (by omega) (by omega) (by omega)) ?_
          obtain ⟨Z15, hZ15⟩ := zx (zu Z9 2 0 0 (1214 + 12 * a1) 0)
          replace hP := zl_e hP hZ15
          have hZ15I := zM_02 hZ9I hZ15 (by simp only [zsp]; omega)
          have hZ15U : zU [] Z Z15 := zU_u hZ9U hZ15 (Or.inl rfl)
          have hZ15K : zC [1, 2] Z Z15 := zC_u hZ9K hZ15 (zcl_2w (by omega) rfl)
          intro μ9 e9
          replace e9 := e9.trans (zm_wI (Z := Z9) (ν := ν) hZ15 (show ((0 : Nat) : Int) = 0 from rfl) (show ((0 : Nat) : Int) = 0 from rfl) (i3I (y := (1214 + 12 * a1)) (i3A (i3A (show (1210 : Int32) = i3 1210 from rfl) (i3M (show (12 : Int32) = i3 12 from rfl) (rfl : i3 a1 = i3 a1))) (show (4 : Int32) = i3 4 from rfl)) (by omega) (by omega) (by omega)) (show (0 : Int32) = i3 0 from rfl))
          subst e9
          exact zlY hP (show (0 : Int32) = i3 0 from rfl) (.inl rfl) ⟨hZ15I, hZ15K, hZ15U⟩
        · replace hP := zE_n hP h14
          refine wz_i1 (Eq.trans (i3E (rfl : i3 a2 = i3 a2) (show (0 : Int32) = i3 0 from rfl) (by omega) (by omega) (by omega) (by omega)) (decide_eq_true (by omega))) ?_
          refine wz_i0 (i3O (n := 4400) (i3A (i3A (show (1210 : Int32) = i3 1210 from rfl) (i3M (show (12 : Int32) = i3 12 from rfl) (rfl : i3 a1 = i3 a1))) (show (4 : Int32) = i3 4 from rfl)) (by omega) (by omega) (by omega)) ?_
          obtain ⟨Z16, hZ16⟩ := zx (zu Z9 2 0 0 (1214 + 12 * a1) 0)
          replace hP := zl_e hP hZ16
          have hZ16I := zM_02 hZ9I hZ16 (by simp only [zsp]; omega)
          have hZ16U : zU [] Z Z16 := zU_u hZ9U hZ16 (Or.inl rfl)
          have hZ16K : zC [1, 2] Z Z16 := zC_u hZ9K hZ16 (zcl_2w (by omega) rfl)
          intro μ9 e9
          replace e9 := e9.trans (zm_wI (Z := Z9) (ν := ν) hZ16 (show ((0 : Nat) : Int) = 0 from rfl) (show ((0 : Nat) : Int) = 0 from rfl) (i3I (y := (1214 + 12 * a1)) (i3A (i3A (show (1210 : Int32) = i3 1210 from rfl) (i3M (show (12 : Int32) = i3 12 from rfl) (rfl : i3 a1 = i3 a1))) (show (4 : Int32) = i3 4 from rfl)) (by omega) (by omega) (by omega)) (show (0 : Int32) = i3 0 from rfl))
          subst e9
          exact zlY hP (show (1 : Int32) = i3 1 from rfl) (.inl rfl) ⟨hZ16I, hZ16K, hZ16U⟩
      · replace hP := zE_n hP h10
        have r17 := zM_k hZ9I 1 0 0 35 (lo := 0) (hi := 1) (by decide) rfl
        have q18 := zu_ne (k' := 1) (b' := 0) (i' := 0) (j' := 35) hZ9 (fun q => absurd q.2.2.2 (by decide))
        refine wz_i1 (Eq.trans (i3NE (zm_rd (Z := Z9) (ν := ν) (k := 1) (show ((0 : Nat) : Int) = 0 from rfl) (show ((0 : Nat) : Int) = 0 from rfl) (show ((35 : Nat) : Int) = 35 from rfl)) (show (0 : Int32) = i3 0 from rfl) (by omega) (by omega) (by omega) (by omega)) (decide_eq_true (by omega))) ?_
        replace hP := zl_q hP (rfl : _ = Z9)
        refine wz_i0 (i3O (n := 4400) (i3A (i3A (show (1210 : Int32) = i3 1210 from rfl) (i3M (show (12 : Int32) = i3 12 from rfl) (rfl : i3 a1 = i3 a1))) (show (4 : Int32) = i3 4 from rfl)) (by omega) (by omega) (by omega)) ?_
        have r19 := zM_k hZ9I 2 0 0 (1214 + 12 * a1) (lo := 0) (hi := 1) (by decide) (zs_1210_4 (x := a1) (by omega) (by omega) (by omega))
        refine wz_br (i3NE (zm_rd (Z := Z9) (ν := ν) (k := 2) (show ((0 : Nat) : Int) = 0 from rfl) (show ((0 : Nat) : Int) = 0 from rfl) (i3I (y := (1214 + 12 * a1)) (i3A (i3A (show (1210 : Int32) = i3 1210 from rfl) (i3M (show (12 : Int32) = i3 12 from rfl) (rfl : i3 a1 = i3 a1))) (show (4 : Int32) = i3 4 from rfl)) (by omega) (by omega) (by omega))) (show (1 : Int32) = i3 1 from rfl) (by omega) (by omega) (by omega) (by omega)) (fun h20 => ?_) (fun h20 => ?_)
        · replace hP := zE_p hP h20
          refine wz_i0 (Eq.trans (i3E (rfl : i3 a2 = i3 a2) (show (0 : Int32) = i3 0 from rfl) (by omega) (by omega) (by omega) (by omega)) (decide_eq_false (by omega))) ?_
          refine wz_i0 (i3O (n := 4400) (i3A (i3A (show (1210 : Int32) = i3 1210 from rfl) (i3M (show (12 : Int32) = i3 12 from rfl) (rfl : i3 a1 = i3 a1))) (show (4 : Int32) = i3 4 from rfl)) (by omega) (by omega) (by omega)) ?_
          obtain ⟨Z21, hZ21⟩ := zx (zu Z9 2 0 0 (1214 + 12 * a1) 1)
          replace hP := zl_e hP hZ21
          have hZ21I := zM_u2 hZ9I hZ21 (lo := 0) (hi := 1) (zs_1210_4 (x := a1) (by omega) (by omega) (by omega)) (by omega) ⟨by decide, by decide⟩ (by simp only [zsp]; omega)
          have hZ21U : zU [] Z Z21 := zU_u hZ9U hZ21 (Or.inl rfl)
          have hZ21K : zC [1, 2] Z Z21 := zC_u hZ9K hZ21 (zcl_2w (by omega) rfl)
          intro μ9 e9
          replace e9 := e9.trans (zm_wI (Z := Z9) (ν := ν) hZ21 (show ((0 : Nat) : Int) = 0 from rfl) (show ((0 : Nat) : Int) = 0 from rfl) (i3I (y := (1214 + 12 * a1)) (i3A (i3A (show (1210 : Int32) = i3 1210 from rfl) (i3M (show (12 : Int32) = i3 12 from rfl) (rfl : i3 a1 = i3 a1))) (show (4 : Int32) = i3 4 from rfl)) (by omega) (by omega) (by omega)) (show (1 : Int32) = i3 1 from rfl))
          subst e9
          exact zlY hP (show (0 : Int32) = i3 0 from rfl) (.inl rfl) ⟨hZ21I, hZ21K, hZ21U⟩
        · replace hP := zE_n hP h20
          refine wz_i0 (Eq.trans (i3E (rfl : i3 a2 = i3 a2) (show (0 : Int32) = i3 0 from rfl) (by omega) (by omega) (by omega) (by omega)) (decide_eq_false (by omega))) ?_
          refine wz_i0 (i3O (n := 4400) (i3A (i3A (show (1210 : Int32) = i3 1210 from rfl) (i3M (show (12 : Int32) = i3 12 from rfl) (rfl : i3 a1 = i3 a1))) (show (4 : Int32) = i3 4 from rfl)) (by omega) (by omega) (by omega)) ?_
          obtain ⟨Z22, hZ22⟩ := zx (zu Z9 2 0 0 (1214 + 12 * a1) 1)
          replace hP := zl_e hP hZ22
          have hZ22I := zM_u2 hZ9I hZ22 (lo := 0) (hi := 1) (zs_1210_4 (x := a1) (by omega) (by omega) (by omega)) (by omega) ⟨by decide, by decide⟩ (by simp only [zsp]; omega)
          have hZ22U : zU [] Z Z22 := zU_u hZ9U hZ22 (Or.inl rfl)
          have hZ22K : zC [1, 2] Z Z22 := zC_u hZ9K hZ22 (zcl_2w (by omega) rfl)
          intro μ9 e9
          replace e9 := e9.trans (zm_wI (Z := Z9) (ν := ν) hZ22 (show ((0 : Nat) : Int) = 0 from rfl) (show ((0 : Nat) : Int) = 0 from rfl) (i3I (y := (1214 + 12 * a1)) (i3A (i3A (show (1210 : Int32) = i3 1210 from rfl) (i3M (show (12 : Int32) = i3 12 from rfl) (rfl : i3 a1 = i3 a1))) (show (4 : Int32) = i3 4 from rfl)) (by omega) (by omega) (by omega)) (show (1 : Int32) = i3 1 from rfl))
          subst e9
          exact zlY hP (show (1 : Int32) = i3 1 from rfl) (.inl rfl) ⟨hZ22I, hZ22K, hZ22U⟩
/- yX12_dFound -/
def zl_322_1 (x1 : Int) (x2 : Int) (x3 : Int) : Nat → qz_Z → Int → Int → qz_Z × Int × Int
  | 0, Z, x4, x5 => (Z, x4, x5)
  | m + 1, Z, x4, x5 => (if x3 ≤ x5 then (Z, x4, x5) else (zlet (zu Z 1 0 0 3 (((25173 * (Z 1 0 0 3)) + 13849) % 65536)) (fun Z3 => (if (x2 - x4) ≤ (z2 (fun x y => x - x / y * y) ((Z3 1 0 0 3) / 16) (x1 - x5)) then zl_322_1 x1 x2 x3 m Z3 (x4 + 0) (x5 + 1) else zl_322_1 x1 x2 x3 m Z3 (x4 + 1) (x5 + 1)))))
theorem sl_322_1 {s : zSM} {Zs Z : qz_Z} {ν : qz_N} (hZ : zM s Z) (hM : s.2 + 0 ≤ 1000000000) (hK : zC [1] Zs Z) {x1 : Int} (gx1 : 1 ≤ x1 ∧ x1 ≤ 40) {x2 : Int} (gx2 : 0 ≤ x2 ∧ x2 ≤ 40) {x3 : Int} (gx3 : 1 ≤ x3 ∧ x3 ≤ 20) {x4 : Int} (gx4 : 0 ≤ x4 ∧ x4 ≤ 20) {x5 : Int} (gx5 : 0 ≤ x5 ∧ x5 ≤ 20) (hU : zU [] Zs Z) (gr0 : x4 ≤ x5) (gr1 : x3 ≤ x1) {k : wz_K} {R : wz_R} {L : qz_L} (hL : qz_fg [true, true, true, true, true, true] L = [some (.inr (.inr (some (1, 0, 0)))), some (.inl (i3 x1)), some (.inl (i3 x2)), some (.inl (i3 x3)), some (.inl (i3 x4)), some (.inl (i3 x5))]) {T : qz_Z × Int × Int} (hP : zE T (zl_322_1 x1 x2 x3 ((20 - x5).toNat + 1) Z x4 x5)) (hk : ∀ (L9 : qz_L) (Z9 : qz_Z) (yx4 yx5 : Int), qz_fg [false, false, false, false, true, false] L9 = [none, none, none, none, some (.inl (i3 yx4)), none] → zM s Z9 → zC [1] Zs Z9 → zU [] Zs Z9 → (0 ≤ yx4 ∧ yx4 ≤ 20) → (0 ≤ yx5 ∧ yx5 ≤ 20) → (yx4 ≤ yx5) → (x3 ≤ x1) → zE T ((Z9, yx4, yx5)) → k 0 (L9, [], zm Z9 ν)) : wz_loop qb_322_1 65536 k R (L, [], zm Z ν) := by
  refine wz_lp sb_322_1 (fun m x => ∃ Z : qz_Z, ∃ x4 : Int, ∃ x5 : Int, qz_fg [true, true, true, true, true, true] x.1 = [some (.inr (.inr (some (1, 0, 0)))), some (.inl (i3 x1)), some (.inl (i3 x2)), some (.inl (i3 x3)), some (.inl (i3 x4)), some (.inl (i3 x5))] ∧ x.2 = ([], zm Z ν) ∧ zM s Z ∧ zC [1] Zs Z ∧ zU [] Zs Z ∧ m = (20 - x5).toNat ∧ (0 ≤ x4 ∧ x4 ≤ 20) ∧ (0 ≤ x5 ∧ x5 ≤ 20) ∧ (x4 ≤ x5) ∧ (x3 ≤ x1) ∧ zE T (zl_322_1 x1 x2 x3 (m + 1) Z x4 x5)) ?_ 65536 ((20 - x5).toNat) _ (by omega) ⟨Z, x4, x5, hL, rfl, hZ, hK, hU, rfl, gx4, gx5, gr0, gr1, hP⟩
  clear hP gr0 gr1 gx4 gx5 hZ hK hU hL
  clear x4 x5
  clear Z
  rintro m ⟨L, st, μ⟩ ⟨Z, x4, x5, hL, hx, hZ, hK, hU, hm, gx4, gx5, gr0, gr1, hP⟩
  cases hx
  refine fb_322_1 (i3 x1) (i3 x2) (i3 x3) (i3 x4) (i3 x5) _ _ _ _ hL ?_
  refine wz_br (i3Le (rfl : i3 x3 = i3 x3) (rfl : i3 x5 = i3 x5) (by omega) (by omega) (by omega) (by omega)) (fun h1 => ?_) (fun h1 => ?_)
  · replace hP := zE_p hP h1
    exact hk _ _ _ _ (zconso rfl (zconso rfl (zconso rfl (zconso rfl (zconso (zvo (rfl : i3 x4 = i3 x4)) (zconso rfl rfl)))))) hZ hK hU (by omega) (by omega) (by omega) (by omega) hP
  · replace hP := zE_n hP h1
    have r2 := zM_k hZ 1 0 0 3 (lo := 0) (hi := 65535) (by decide) rfl
    obtain ⟨Z3, hZ3⟩ := zx (zu Z 1 0 0 3 (((25173 * (Z 1 0 0 3)) + 13849) % 65536))
    replace hP := zl_e hP hZ3
    have hZ3I := zM_u hZ hZ3 (lo := 0) (hi := 65535) (by decide) rfl (by omega) ⟨by decide, by decide⟩ (Or.inr (by decide)) rfl
    have hZ3U : zU [] Zs Z3 := zU_u hU hZ3 (Or.inl rfl)
    have hZ3K : zC [1] Zs Z3 := zC_u hK hZ3 (by decide)
    intro μ9 e9
    replace e9 := e9.trans (zm_wI (Z := Z) (ν := ν) hZ3 (show ((0 : Nat) : Int) = 0 from rfl) (show ((0 : Nat) : Int) = 0 from rfl) (show ((3 : Nat) : Int) = 3 from rfl) (i3R (i3A (i3M (show (25173 : Int32) = i3 25173 from rfl) (zm_rd (Z := Z) (ν := ν) (k := 1) (show ((0 : Nat) : Int) = 0 from rfl) (show ((0 : Nat) : Int) = 0 from rfl) (show ((3 : Nat) : Int) = 3 from rfl))) (show (13849 : Int32) = i3 13849 from rfl)) (show (65536 : Int32) = i3 65536 from rfl) (by omega) (by omega) (by omega) (by omega)))
    subst e9
    refine wz_i0 (i3N0 (i3S (rfl : i3 x1 = i3 x1) (rfl : i3 x5 = i3 x5)) (by omega) (by omega) (by omega)) ?_
    have r4 := zM_k hZ3I 1 0 0 3 (lo := 0) (hi := 65535) (by decide) rfl
    have q5 := zu_at hZ3
    have r6 := z2_r (fun x y => x - x / y * y) ((Z3 1 0 0 3) / 16) (x1 - x5)
    refine wz_br (i3Le (i3S (rfl : i3 x2 = i3 x2) (rfl : i3 x4 = i3 x4)) (i3Z (fun x y => x - x / y * y) (i3D (zm_rd (Z := Z3) (ν := ν) (k := 1) (show ((0 : Nat) : Int) = 0 from rfl) (show ((0 : Nat) : Int) = 0 from rfl) (show ((3 : Nat) : Int) = 3 from rfl)) (show (16 : Int32) = i3 16 from rfl) (by omega) (by omega) (by omega) (by omega)) (i3S (rfl : i3 x1 = i3 x1) (rfl : i3 x5 = i3 x5))) (by omega) (by omega) (by omega) (by omega)) (fun h7 => ?_) (fun h7 => ?_)
    · replace hP := zE_p hP h7
      obtain ⟨m2, rfl⟩ : ∃ m2, m = m2 + 1 := ⟨m - 1, by omega⟩
      exact wz_k1 ⟨m2, by omega, Z3, (x4 + 0), (x5 + 1), (zconso rfl (zconso (zvo (rfl : i3 x1 = i3 x1)) (zconso (zvo (rfl : i3 x2 = i3 x2)) (zconso (zvo (rfl : i3 x3 = i3 x3)) (zconso (zvo (i3A (rfl : i3 x4 = i3 x4) (show (0 : Int32) = i3 0 from rfl))) (zconso (zvo (i3A (rfl : i3 x5 = i3 x5) (show (1 : Int32) = i3 1 from rfl))) rfl)))))), rfl, hZ3I, hZ3K, hZ3U, by omega, by omega, by omega, by omega, by omega,  hP⟩
    · replace hP := zE_n hP h7
      obtain ⟨m2, rfl⟩ : ∃ m2, m = m2 + 1 := ⟨m - 1, by omega⟩
      exact wz_k1 ⟨m2, by omega, Z3, (x4 + 1), (x5 + 1), (zconso rfl (zconso (zvo (rfl : i3 x1 = i3 x1)) (zconso (zvo (rfl : i3 x2 = i3 x2)) (zconso (zvo (rfl : i3 x3 = i3 x3)) (zconso (zvo (i3A (rfl : i3 x4 = i3 x4) (show (1 : Int32) = i3 1 from rfl))) (zconso (zvo (i3A (rfl : i3 x5 = i3 x5) (show (1 : Int32) = i3 1 from rfl))) rfl)))))), rfl, hZ3I, hZ3K, hZ3U, by omega, by omega, by omega, by omega, by omega,  hP⟩
/- yX12_dFound -/
def zf_322 (Z : qz_Z) (a1 : Int) (a2 : Int) (a3 : Int) : qz_Z × Int := (zlet3 (zl_322_1 a1 a2 a3 21 Z 0 0) (fun Z3 y1 y2 => (Z3, y1)))
theorem sp_322 {s : zSM} {Z : qz_Z} {ν : qz_N} (hZ : zM s Z) {a1 : Int} (ga1 : 1 ≤ a1 ∧ a1 ≤ 40) {a2 : Int} (ga2 : 0 ≤ a2 ∧ a2 ≤ 40) {a3 : Int} (ga3 : 1 ≤ a3 ∧ a3 ≤ 20) (gx0 : a3 ≤ a1) (hM : s.2 + 0 ≤ 1000000000) : ∃ (Z1 : qz_Z) (P : Int), (Z1, P) = zf_322 Z a1 a2 a3 ∧ (qf_322 [.inr (.inr (some (1, 0, 0))), .inl (i3 a1), .inl (i3 a2), .inl (i3 a3)] (zm Z ν) = some (zm Z1 ν, .inl (some (.inl (i3 P)))) ∧ zM s Z1 ∧ zC [1] Z Z1 ∧ zU [] Z Z1 ∧ 0 ≤ P ∧ P ≤ 20) := by
  obtain ⟨P, hP⟩ := zx (zf_322 Z a1 a2 a3)
  refine zc_W (Q := fun Z1 P => zM s Z1 ∧ zC [1] Z Z1 ∧ zU [] Z Z1 ∧ 0 ≤ P ∧ P ≤ 20) hP (fw_322 (i3 a1) (i3 a2) (i3 a3) _ _ ?_)
  replace hP : zE P (zf_322 Z a1 a2 a3) := hP
  unfold zf_322 at hP
  refine sl_322_1 (ν := ν) hZ (zbh (c := 0) (k := 0) hM (Nat.le_of_ble_eq_true rfl)) zC_r (x1 := a1) (by omega) (x2 := a2) (by omega) (x3 := a3) (by omega) (x4 := 0) (by omega) (x5 := 0) (by omega) zU_r (by omega) (by omega) (zconso rfl (zconso (zvo (rfl : i3 a1 = i3 a1)) (zconso (zvo (rfl : i3 a2 = i3 a2)) (zconso (zvo (rfl : i3 a3 = i3 a3)) (zconso (zvo (show (0 : Int32) = i3 0 from rfl)) (zconso (zvo (show (0 : Int32) = i3 0 from rfl)) rfl)))))) rfl ?_
  intro L4 Z3 y1 y2 hL4 hZ3I kZ3 jZ3 gy1 gy2 gL4_0 gL4_1 q9
  replace hP := zl_e3 hP (Eq.symm q9)
  clear q9
  have hZ3U : zU [] Z Z3 := zU_t zU_r jZ3 zU_b0
  have hZ3K : zC [1] Z Z3 := zC_t zC_r kZ3 (by decide)
  refine fc_322_2 (i3 y1) _ _ _ _ hL4 ?_
  exact zlW hP (rfl : i3 y1 = i3 y1) ⟨hZ3I, hZ3K, hZ3U, by omega, by omega⟩
/- yX12_dLeast -/
def zf_326 (Z : qz_Z) (a1 : Int) : Int := (if ((Z 2 0 0 (113 + 5 * (Z 2 0 0 (201 + 20 * a1)))) - (Z 2 0 0 (114 + 5 * (Z 2 0 0 (201 + 20 * a1))))) ≤ (Z 2 0 0 (207 + 20 * a1)) then (if ((Z 2 0 0 (113 + 5 * (Z 2 0 0 (201 + 20 * a1)))) + (Z 2 0 0 (114 + 5 * (Z 2 0 0 (201 + 20 * a1))))) < (Z 2 0 0 (207 + 20 * a1)) then (if ((Z 2 0 0 (113 + 5 * (Z 2 0 0 (201 + 20 * a1)))) + (3 * (Z 2 0 0 (114 + 5 * (Z 2 0 0 (201 + 20 * a1)))))) < (Z 2 0 0 (207 + 20 * a1)) then 3 else 2) else 0) else 0)
theorem sp_326 {s : zSM} {Z : qz_Z} {ν : qz_N} (hZ : zM s Z) {a1 : Int} (ga1 : 0 ≤ a1 ∧ a1 ≤ 47) (hM : s.2 + 0 ≤ 1000000000) : ∃ P : Int, P = zf_326 Z a1 ∧ (qf_326 [.inr (.inr (some (1, 0, 0))), .inl (i3 a1)] (zm Z ν) = some (zm Z ν, .inl (some (.inl (i3 P)))) ∧ 0 ≤ P ∧ P ≤ 3) := by
  obtain ⟨P, hP⟩ := zx (zf_326 Z a1)
  refine zc_R (Q := fun P => 0 ≤ P ∧ P ≤ 3) hP (fw_326 (i3 a1) _ _ ?_)
  replace hP : zE P (zf_326 Z a1) := hP
  unfold zf_326 at hP
  refine wz_i0 (i3O (n := 4400) (i3A (i3A (show (200 : Int32) = i3 200 from rfl) (i3M (show (20 : Int32) = i3 20 from rfl) (rfl : i3 a1 = i3 a1))) (show (1 : Int32) = i3 1 from rfl)) (by omega) (by omega) (by omega)) ?_
  refine wz_i0 (i3O (n := 4400) (i3A (i3A (show (200 : Int32) = i3 200 from rfl) (i3M (show (20 : Int32) = i3 20 from rfl) (rfl : i3 a1 = i3 a1))) (show (7 : Int32) = i3 7 from rfl)) (by omega) (by omega) (by omega)) ?_
  have r1 := zM_k hZ 2 0 0 (201 + 20 * a1) (lo := 0) (hi := 4) (by decide) (zs_200_1 (x := a1) (by omega) (by omega) (by omega))
  refine wz_i0 (i3O (n := 4400) (i3A (i3A (show (110 : Int32) = i3 110 from rfl) (i3M (show (5 : Int32) = i3 5 from rfl) (zm_rd (Z := Z) (ν := ν) (k := 2) (show ((0 : Nat) : Int) = 0 from rfl) (show ((0 : Nat) : Int) = 0 from rfl) (i3I (y := (201 + 20 * a1)) (i3A (i3A (show (200 : Int32) = i3 200 from rfl) (i3M (show (20 : Int32) = i3 20 from rfl) (rfl : i3 a1 = i3 a1))) (show (1 : Int32) = i3 1 from rfl)) (by omega) (by omega) (by omega))))) (show (3 : Int32) = i3 3 from rfl)) (by omega) (by omega) (by omega)) ?_
  refine wz_i0 (i3O (n := 4400) (i3A (i3A (show (110 : Int32) = i3 110 from rfl) (i3M (show (5 : Int32) = i3 5 from rfl) (zm_rd (Z := Z) (ν := ν) (k := 2) (show ((0 : Nat) : Int) = 0 from rfl) (show ((0 : Nat) : Int) = 0 from rfl) (i3I (y := (201 + 20 * a1)) (i3A (i3A (show (200 : Int32) = i3 200 from rfl) (i3M (show (20 : Int32) = i3 20 from rfl) (rfl : i3 a1 = i3 a1))) (show (1 : Int32) = i3 1 from rfl)) (by omega) (by omega) (by omega))))) (show (4 : Int32) = i3 4 from rfl)) (by omega) (by omega) (by omega)) ?_
  have r2 := zM_k hZ 2 0 0 (113 + 5 * (Z 2 0 0 (201 + 20 * a1))) (lo := 0) (hi := 600) (by decide) (zs_110_3 (x := (Z 2 0 0 (201 + 20 * a1))) (by omega) (by omega) (by omega))
  have r3 := zM_k hZ 2 0 0 (114 + 5 * (Z 2 0 0 (201 + 20 * a1))) (lo := 0) (hi := 99) (by decide) (zs_110_4 (x := (Z 2 0 0 (201 + 20 * a1))) (by omega) (by omega) (by omega))
  have r4 := zM_k hZ 2 0 0 (207 + 20 * a1) (lo := 0) (hi := 2000) (by decide) (zs_200_7 (x := a1) (by omega) (by omega) (by omega))
  refine wz_br (i3Le (i3S (zm_rd (Z := Z) (ν := ν) (k := 2) (show ((0 : Nat) : Int) = 0 from rfl) (show ((0 : Nat) : Int) = 0 from rfl) (i3I (y := (113 + 5 * (Z 2 0 0 (201 + 20 * a1)))) (i3A (i3A (show (110 : Int32) = i3 110 from rfl) (i3M (show (5 : Int32) = i3 5 from rfl) (zm_rd (Z := Z) (ν := ν) (k := 2) (show ((0 : Nat) : Int) = 0 from rfl) (show ((0 : Nat) : Int) = 0 from rfl) (i3I (y := (201 + 20 * a1)) (i3A (i3A (show (200 : Int32) = i3 200 from rfl) (i3M (show (20 : Int32) = i3 20 from rfl) (rfl : i3 a1 = i3 a1))) (show (1 : Int32) = i3 1 from rfl)) (by omega) (by omega) (by omega))))) (show (3 : Int32) = i3 3 from rfl)) (by omega) (by omega) (by omega))) (zm_rd (Z := Z) (ν := ν) (k := 2) (show ((0 : Nat) : Int) = 0 from rfl) (show ((0 : Nat) : Int) = 0 from rfl) (i3I (y := (114 + 5 * (Z 2 0 0 (201 + 20 * a1)))) (i3A (i3A (show (110 : Int32) = i3 110 from rfl) (i3M (show (5 : Int32) = i3 5 from rfl) (zm_rd (Z := Z) (ν := ν) (k := 2) (show ((0 : Nat) : Int) = 0 from rfl) (show ((0 : Nat) : Int) = 0 from rfl) (i3I (y := (201 + 20 * a1)) (i3A (i3A (show (200 : Int32) = i3 200 from rfl) (i3M (show (20 : Int32) = i3 20 from rfl) (rfl : i3 a1 = i3 a1))) (show (1 : Int32) = i3 1 from rfl)) (by omega) (by omega) (by omega))))) (show (4 : Int32) = i3 4 from rfl)) (by omega) (by omega) (by omega)))) (zm_rd (Z := Z) (ν := ν) (k := 2) (show ((0 : Nat) : Int) = 0 from rfl) (show ((0 : Nat) : Int) = 0 from rfl) (i3I (y := (207 + 20 * a1)) (i3A (i3A (show (200 : Int32) = i3 200 from rfl) (i3M (show (20 : Int32) = i3 20 from rfl) (rfl : i3 a1 = i3 a1))) (show (7 : Int32) = i3 7 from rfl)) (by omega) (by omega) (by omega))) (by omega) (by omega) (by omega) (by omega)) (fun h5 => ?_) (fun h5 => ?_)
  · replace hP := zE_p hP h5
    refine wz_br (i3L (i3A (zm_rd (Z := Z) (ν := ν) (k := 2) (show ((0 : Nat) : Int) = 0 from rfl) (show ((0 : Nat) : Int) = 0 from rfl) (i3I (y := (113 + 5 * (Z 2 0 0 (201 + 20 * a1)))) (i3A (i3A (show (110 : Int32) = i3 110 from rfl) (i3M (show (5 : Int32) = i3 5 from rfl) (zm_rd (Z := Z) (ν := ν) (k := 2) (show ((0 : Nat) : Int) = 0 from rfl) (show ((0 : Nat) : Int) = 0 from rfl) (i3I (y := (201 + 20 * a1)) (i3A (i3A (show (200 : Int32) = i3 200 from rfl) (i3M (show (20 : Int32) = i3 20 from rfl) (rfl : i3 a1 = i3 a1))) (show (1 : Int32) = i3 1 from rfl)) (by omega) (by omega) (by omega))))) (show (3 : Int32) = i3 3 from rfl)) (by omega) (by omega) (by omega))) (zm_rd (Z := Z) (ν := ν) (k := 2) (show ((0 : Nat) : Int) = 0 from rfl) (show ((0 : Nat) : Int) = 0 from rfl) (i3I (y := (114 + 5 * (Z 2 0 0 (201 + 20 * a1)))) (i3A (i3A (show (110 : Int32) = i3 110 from rfl) (i3M (show (5 : Int32) = i3 5 from rfl) (zm_rd (Z := Z) (ν := ν) (k := 2) (show ((0 : Nat) : Int) = 0 from rfl) (show ((0 : Nat) : Int) = 0 from rfl) (i3I (y := (201 + 20 * a1)) (i3A (i3A (show (200 : Int32) = i3 200 from rfl) (i3M (show (20 : Int32) = i3 20 from rfl) (rfl : i3 a1 = i3 a1))) (show (1 : Int32) = i3 1 from rfl)) (by omega) (by omega) (by omega))))) (show (4 : Int32) = i3 4 from rfl)) (by omega) (by omega) (by omega)))) (zm_rd (Z := Z) (ν := ν) (k := 2) (show ((0 : Nat) : Int) = 0 from rfl) (show ((0 : Nat) : Int) = 0 from rfl) (i3I (y := (207 + 20 * a1)) (i3A (i3A (show (200 : Int32) = i3 200 from rfl) (i3M (show (20 : Int32) = i3 20 from rfl) (rfl : i3 a1 = i3 a1))) (show (7 : Int32) = i3 7 from rfl)) (by omega) (by omega) (by omega))) (by omega) (by omega) (by omega) (by omega)) (fun h6 => ?_) (fun h6 => ?_)
    · replace hP := zE_p hP h6
      refine wz_br (i3L (i3A (zm_rd (Z := Z) (ν := ν) (k := 2) (show ((0 : Nat) : Int) = 0 from rfl) (show ((0 : Nat) : Int) = 0 from rfl) (i3I (y := (113 + 5 * (Z 2 0 0 (201 + 20 * a1)))) (i3A (i3A (show (110 : Int32) = i3 110 from rfl) (i3M (show (5 : Int32) = i3 5 from rfl) (zm_rd (Z := Z) (ν := ν) (k := 2) (show ((0 : Nat) : Int) = 0 from rfl) (show ((0 : Nat) : Int) = 0 from rfl) (i3I (y := (201 + 20 * a1)) (i3A (i3A (show (200 : Int32) = i3 200 from rfl) (i3M (show (20 : Int32) = i3 20 from rfl) (rfl : i3 a1 = i3 a1))) (show (1 : Int32) = i3 1 from rfl)) (by omega) (by omega) (by omega))))) (show (3 : Int32) = i3 3 from rfl)) (by omega) (by omega) (by omega))) (i3M (show (3 : Int32) = i3 3 from rfl) (zm_rd (Z := Z) (ν := ν) (k := 2) (show ((0 : Nat) : Int) = 0 from rfl) (show ((0 : Nat) : Int) = 0 from rfl) (i3I (y := (114 + 5 * (Z 2 0 0 (201 + 20 * a1)))) (i3A (i3A (show (110 : Int32) = i3 110 from rfl) (i3M (show (5 : Int32) = i3 5 from rfl) (zm_rd (Z := Z) (ν := ν) (k := 2) (show ((0 : Nat) : Int) = 0 from rfl) (show ((0 : Nat) : Int) = 0 from rfl) (i3I (y := (201 + 20 * a1)) (i3A (i3A (show (200 : Int32) = i3 200 from rfl) (i3M (show (20 : Int32) = i3 20 from rfl) (rfl : i3 a1 = i3 a1))) (show (1 : Int32) = i3 1 from rfl)) (by omega) (by omega) (by omega))))) (show (4 : Int32) = i3 4 from rfl)) (by omega) (by omega) (by omega))))) (zm_rd (Z := Z) (ν := ν) (k := 2) (show ((0 : Nat) : Int) = 0 from rfl) (show ((0 : Nat) : Int) = 0 from rfl) (i3I (y := (207 + 20 * a1)) (i3A (i3A (show (200 : Int32) = i3 200 from rfl) (i3M (show (20 : Int32) = i3 20 from rfl) (rfl : i3 a1 = i3 a1))) (show (7 : Int32) = i3 7 from rfl)) (by omega) (by omega) (by omega))) (by omega) (by omega) (by omega) (by omega)) (fun h7 => ?_) (fun h7 => ?_)
      · replace hP := zE_p hP h7
        exact zlR hP (show (3 : Int32) = i3 3 from rfl) ⟨by omega, by omega⟩
      · replace hP := zE_n hP h7
        exact zlR hP (show (2 : Int32) = i3 2 from rfl) ⟨by omega, by omega⟩
    · replace hP := zE_n hP h6
      exact zlR hP (show (0 : Int32) = i3 0 from rfl) ⟨by omega, by omega⟩
  · replace hP := zE_n hP h5
    exact zlR hP (show (0 : Int32) = i3 0 from rfl) ⟨by omega, by omega⟩
/- yX12_grade -/
def zy_345 (Z : qz_Z) (dm : qz_Z → Int → Int → Int → Int → Int → Int → Int → qz_Z) (a1 : Int) (a2 : Int) (a3 : Int) (a4 : Int) : qz_Z × Int := (if a1 < 0 then (zlet (zu Z 1 0 0 2 1) (fun Z5 => (Z5, 0))) else (if ((Z 2 0 0 102) - 1) < a1 then (zlet (zu Z 1 0 0 2 1) (fun Z8 => (Z8, 0))) else (zlet (zu Z 1 0 0 2 0) (fun Z9 => (if a2 < 1 then (zlet (zu Z9 1 0 0 2 2) (fun Z11 => (Z11, 0))) else (if 20 < a2 then (zlet (zu Z9 1 0 0 2 2) (fun Z13 => (Z13, 0))) else (if a3 < 0 then (zlet (zu Z9 1 0 0 2 2) (fun Z15 => (Z15, 0))) else (if 9 < a3 then (zlet (zu Z9 1 0 0 2 2) (fun Z17 => (Z17, 0))) else (if a4 < 0 then (zlet (zu Z9 1 0 0 2 2) (fun Z19 => (Z19, 0))) else (if 65535 < a4 then (zlet (zu Z9 1 0 0 2 2) (fun Z21 => (Z21, 0))) else (zlet (zu Z9 1 0 0 2 0) (fun Z22 => (if (Z22 2 0 0 (210 + 20 * a1)) ≠ 0 then (zlet (zu Z22 1 0 0 2 3) (fun Z28 => (Z28, 0))) else (if (Z22 2 0 0 (204 + 20 * a1)) < a2 then (zlet (zu Z22 1 0 0 2 3) (fun Z31 => (Z31, 0))) else (zlet (zu Z22 1 0 0 2 0) (fun Z32 => (zlet (dm Z32 4 a1 a2 a3 a4 0 0) (fun Z39 => (zlet (zu Z39 1 0 0 3 a4) (fun Z40 => (zlet2 (zf_322 Z40 (Z40 2 0 0 (204 + 20 * a1)) (Z40 2 0 0 (205 + 20 * a1)) a2) (fun Z44 v45 => (if v45 ≠ 0 then (if a3 < v45 then (if ((2 * a3) + 1) < v45 then (zlet (zf_326 Z44 a1) (fun v49 => (zlet (zu Z44 2 0 0 (209 + 20 * a1) 3) (fun Z50 => (zlet (zu Z50 2 0 0 (212 + 20 * a1) (w3 ((Z50 2 0 0 (212 + 20 * a1)) + 1))) (fun Z53 => (zlet (zu Z53 2 0 0 (213 + 20 * a1) v45) (fun Z54 => (zlet (zf_403 Z54 0 6 ((Z54 2 0 0 3810) * a2) a1) (fun Z57 => (Z57, (Z57 2 0 0 (209 + 20 * a1))))))))))))) else (zlet (zf_326 Z44 a1) (fun v59 => (if v59 ≤ 2 then (zlet (zu Z44 2 0 0 (209 + 20 * a1) 2) (fun Z61 => (zlet (zu Z61 2 0 0 (212 + 20 * a1) (w3 ((Z61 2 0 0 (212 + 20 * a1)) + 1))) (fun Z64 => (zlet (zu Z64 2 0 0 (213 + 20 * a1) v45) (fun Z65 => (zlet (zf_403 Z65 0 6 ((Z65 2 0 0 3810) * a2) a1) (fun Z68 => (Z68, (Z68 2 0 0 (209 + 20 * a1))))))))))) else (zlet (zu Z44 2 0 0 (209 + 20 * a1) v59) (fun Z70 => (zlet (zu Z70 2 0 0 (212 + 20 * a1) (w3 ((Z70 2 0 0 (212 + 20 * a1)) + 1))) (fun Z73 => (zlet (zu Z73 2 0 0 (213 + 20 * a1) v45) (fun Z74 => (zlet (zf_403 Z74 0 6 ((Z74 2 0 0 3810) * a2) a1) (fun Z77 => (Z77, (Z77 2 0 0 (209 + 20 * a1))))))))))))))) else (zlet (zf_326 Z44 a1) (fun v79 => (if v79 ≤ 1 then (zlet (zu Z44 2 0 0 (209 + 20 * a1) 1) (fun Z81 => (zlet (zu Z81 2 0 0 (212 + 20 * a1) (w3 ((Z81 2 0 0 (212 + 20 * a1)) + 1))) (fun Z84 => (zlet (zu Z84 2 0 0 (213 + 20 * a1) v45) (fun Z85 => (zlet (zf_403 Z85 0 6 ((Z85 2 0 0 3810) * a2) a1) (fun Z88 => (Z88, (Z88 2 0 0 (209 + 20 * a1))))))))))) else (zlet (zu Z44 2 0 0 (209 + 20 * a1) v79) (fun Z90 => (zlet (zu Z90 2 0 0 (212 + 20 * a1) (w3 ((Z90 2 0 0 (212 + 20 * a1)) + 1))) (fun Z93 => (zlet (zu Z93 2 0 0 (213 + 20 * a1) v45) (fun Z94 => (zlet (zf_403 Z94 0 6 ((Z94 2 0 0 3810) * a2) a1) (fun Z97 => (Z97, (Z97 2 0 0 (209 + 20 * a1))))))))))))))) else (zlet (zf_326 Z44 a1) (fun v99 => (if v99 ≤ 0 then (zlet (zu Z44 2 0 0 (209 + 20 * a1) 0) (fun Z101 => (zlet (zu Z101 2 0 0 (212 + 20 * a1) (w3 ((Z101 2 0 0 (212 + 20 * a1)) + 1))) (fun Z104 => (zlet (zu Z104 2 0 0 (213 + 20 * a1) v45) (fun Z105 => (zlet (zf_403 Z105 0 6 ((Z105 2 0 0 3810) * a2) a1) (fun Z108 => (Z108, (Z108 2 0 0 (209 + 20 * a1))))))))))) else (zlet (zu Z44 2 0 0 (209 + 20 * a1) v99) (fun Z110 => (zlet (zu Z110 2 0 0 (212 + 20 * a1) (w3 ((Z110 2 0 0 (212 + 20 * a1)) + 1))) (fun Z113 => (zlet (zu Z113 2 0 0 (213 + 20 * a1) v45) (fun Z114 => (zlet (zf_403 Z114 0 6 ((Z114 2 0 0 3810) * a2) a1) (fun Z117 => (Z117, (Z117 2 0 0 (209 + 20 * a1)))))))))))))))))))))))))))))))))))))
theorem sy_345 {s : zSM} {Z : qz_Z} {ν : qz_N} (hZ : zM s Z) (gq : Z 1 0 0 35 = 0) (hM : s.2 + 1 ≤ 1000000000) {a1 : Int} (ga1 : -2147483648 ≤ a1 ∧ a1 ≤ 2147483647) {a2 : Int} (ga2 : -2147483648 ≤ a2 ∧ a2 ≤ 2147483647) {a3 : Int} (ga3 : -2147483648 ≤ a3 ∧ a3 ≤ 2147483647) {a4 : Int} (ga4 : -2147483648 ≤ a4 ∧ a4 ≤ 2147483647) {dk : qz_Z → qz_Z} {dm : qz_Z → Int → Int → Int → Int → Int → Int → Int → qz_Z} {ν1 : qz_N} (hdm : zDm s ν ν1 Z dk dm) : ∃ (Z1 : qz_Z) (ν2 : qz_N) (v : Int), (Z1, v) = zy_345 Z dm a1 a2 a3 a4 ∧ (ν2 = ν ∨ ν2 = ν1) ∧ qf_345 [.inr (.inr (some (1, 0, 0))), .inl (i3 a1), .inl (i3 a2), .inl (i3 a3), .inl (i3 a4)] (zm Z ν) = some (zm Z1 ν2, .inl (some (.inl (i3 v)))) ∧ (fun Z1 => zM (zb s 1) Z1 ∧ zC [1, 2, 101, 102, 200] Z Z1 ∧ zU [] Z Z1) Z1 := by
  obtain ⟨P, hP⟩ := zx (zy_345 Z dm a1 a2 a3 a4)
  refine zc_Y (Q := fun Z1 => zM (zb s 1) Z1 ∧ zC [1, 2, 101, 102, 200] Z Z1 ∧ zU [] Z Z1) hP (fw_345 (i3 a1) (i3 a2) (i3 a3) (i3 a4) _ _ ?_)
  replace hP : zE P (zy_345 Z dm a1 a2 a3 a4) := hP
  unfold zy_345 at hP
  have r1 := zM_k hZ 1 0 0 35 (lo := 0) (hi := 1) (by decide) rfl
  have r2 := zM_k hZ 1 0 0 34 (lo := 0) (hi := 8) (by decide) rfl
  have r3 := zM_f hZ 1 0 0 37
  refine wz_br (i3L (rfl : i3 a1 = i3 a1) (show (0 : Int32) = i3 0 from rfl) (by omega) (by omega) (by omega) (by omega)) (fun h4 => ?_) (fun h4 => ?_)
  · replace hP := zE_p hP h4
    obtain ⟨Z5, hZ5⟩ := zx (zu Z 1 0 0 2 1)
    replace hP := zl_e hP hZ5
    have hZ5I := zM_u hZ hZ5 (lo := -2147483648) (hi := 2147483647) (by decide) rfl (by omega) ⟨by decide, by decide⟩ (Or.inr (by decide)) rfl
    have hZ5U : zU [] Z Z5 := zU_u zU_r hZ5 (Or.inl rfl)
    have hZ5K : zC [1, 2, 101, 102, 200] Z Z5 := zC_u zC_r hZ5 (by decide)
    intro μ9 e9
    replace e9 := e9.trans (zm_wI (Z := Z) (ν := ν) hZ5 (show ((0 : Nat) : Int) = 0 from rfl) (show ((0 : Nat) : Int) = 0 from rfl) (show ((2 : Nat) : Int) = 2 from rfl) (show (1 : Int32) = i3 1 from rfl))
    subst e9
    exact zlY hP (show (0 : Int32) = i3 0 from rfl) (.inl rfl) ⟨(zmw (a := 0) (c := 1) hZ5I (Nat.le_of_ble_eq_true rfl)), hZ5K, hZ5U⟩
  · replace hP := zE_n hP h4
    have r6 := zM_k hZ 2 0 0 102 (lo := 0) (hi := 48) (by decide) rfl
    refine wz_br (i3L (i3S (zm_rd (Z := Z) (ν := ν) (k := 2) (show ((0 : Nat) : Int) = 0 from rfl) (show ((0 : Nat) : Int) = 0 from rfl) (show ((102 : Nat) : Int) = 102 from rfl)) (show (1 : Int32) = i3 1 from rfl)) (rfl : i3 a1 = i3 a1) (by omega) (by omega) (by omega) (by omega)) (fun h7 => ?_) (fun h7 => ?_)
    · replace hP := zE_p hP h7
      obtain ⟨Z8, hZ8⟩ := zx (zu Z 1 0 0 2 1)
      replace hP := zl_e hP hZ8
      have hZ8I := zM_u hZ hZ8 (lo := -2147483648) (hi := 2147483647) (by decide) rfl (by omega) ⟨by decide, by decide⟩ (Or.inr (by decide)) rfl
      have hZ8U : zU [] Z Z8 := zU_u zU_r hZ8 (Or.inl rfl)
      have hZ8K : zC [1, 2, 101, 102, 200] Z Z8 := zC_u zC_r hZ8 (by decide)
      intro μ9 e9
      replace e9 := e9.trans (zm_wI (Z := Z) (ν := ν) hZ8 (show ((0 : Nat) : Int) = 0 from rfl) (show ((0 : Nat) : Int) = 0 from rfl) (show ((2 : Nat) : Int) = 2 from rfl) (show (1 : Int32) = i3 1 from rfl))
      subst e9
      exact zlY hP (show (0 : Int32) = i3 0 from rfl) (.inl rfl) ⟨(zmw (a := 0) (c := 1) hZ8I (Nat.le_of_ble_eq_true rfl)), hZ8K, hZ8U⟩
    · replace hP := zE_n hP h7
      obtain ⟨Z9, hZ9⟩ := zx (zu Z 1 0 0 2 0)
      replace hP := zl_e hP hZ9
      have hZ9I := zM_0 hZ hZ9 (by decide) (Or.inr (by decide))
      have hZ9U : zU [] Z Z9 := zU_u zU_r hZ9 (Or.inl rfl)
      have hZ9K : zC [1, 2, 101, 102, 200] Z Z9 := zC_u zC_r hZ9 (by decide)
      intro μ9 e9
      replace e9 := e9.trans (zm_wI (Z := Z) (ν := ν) hZ9 (show ((0 : Nat) : Int) = 0 from rfl) (show ((0 : Nat) : Int) = 0 from rfl) (show ((2 : Nat) : Int) = 2 from rfl) (show (0 : Int32) = i3 0 from rfl))
      subst e9
      refine wz_br (i3L (rfl : i3 a2 = i3 a2) (show (1 : Int32) = i3 1 from rfl) (by omega) (by omega) (by omega) (by omega)) (fun h10 => ?_) (fun h10 => ?_)
      · replace hP := zE_p hP h10
        obtain ⟨Z11, hZ11⟩ := zx (zu Z9 1 0 0 2 2)
        replace hP := zl_e hP hZ11
        have hZ11I := zM_u hZ9I hZ11 (lo := -2147483648) (hi := 2147483647) (by decide) rfl (by omega) ⟨by decide, by decide⟩ (Or.inr (by decide)) rfl
        have hZ11U : zU [] Z Z11 := zU_u hZ9U hZ11 (Or.inl rfl)
        have hZ11K : zC [1, 2, 101, 102, 200] Z Z11 := zC_u hZ9K hZ11 (by decide)
        intro μ9 e9
        replace e9 := e9.trans (zm_wI (Z := Z9) (ν := ν) hZ11 (show ((0 : Nat) : Int) = 0 from rfl) (show ((0 : Nat) : Int) = 0 from rfl) (show ((2 : Nat) : Int) = 2 from rfl) (show (2 : Int32) = i3 2 from rfl))
        subst e9
        exact zlY hP (show (0 : Int32) = i3 0 from rfl) (.inl rfl) ⟨(zmw (a := 0) (c := 1) hZ11I (Nat.le_of_ble_eq_true rfl)), hZ11K, hZ11U⟩
      · replace hP := zE_n hP h10
        refine wz_br (i3L (show (20 : Int32) = i3 20 from rfl) (rfl : i3 a2 = i3 a2) (by omega) (by omega) (by omega) (by omega)) (fun h12 => ?_) (fun h12 => ?_)
        · replace hP := zE_p hP h12
          obtain ⟨Z13, hZ13⟩ := zx (zu Z9 1 0 0 2 2)
          replace hP := zl_e hP hZ13
          have hZ13I := zM_u hZ9I hZ13 (lo := -2147483648) (hi := 2147483647) (by decide) rfl (by omega) ⟨by decide, by decide⟩ (Or.inr (by decide)) rfl
          have hZ13U : zU [] Z Z13 := zU_u hZ9U hZ13 (Or.inl rfl)
          have hZ13K : zC [1, 2, 101, 102, 200] Z Z13 := zC_u hZ9K hZ13 (by decide)
          intro μ9 e9
          replace e9 := e9.trans (zm_wI (Z := Z9) (ν := ν) hZ13 (show ((0 : Nat) : Int) = 0 from rfl) (show ((0 : Nat) : Int) = 0 from rfl) (show ((2 : Nat) : Int) = 2 from rfl) (show (2 : Int32) = i3 2 from rfl))
          subst e9
          exact zlY hP (show (0 : Int32) = i3 0 from rfl) (.inl rfl) ⟨(zmw (a := 0) (c := 1) hZ13I (Nat.le_of_ble_eq_true rfl)), hZ13K, hZ13U⟩
        · replace hP := zE_n hP h12
          refine wz_br (i3L (rfl : i3 a3 = i3 a3) (show (0 : Int32) = i3 0 from rfl) (by omega) (by omega) (by omega) (by omega)) (fun h14 => ?_) (fun h14 => ?_)
          · replace hP := zE_p hP h14
            obtain ⟨Z15, hZ15⟩ := zx (zu Z9 1 0 0 2 2)
            replace hP := zl_e hP hZ15
            have hZ15I := zM_u hZ9I hZ15 (lo := -2147483648) (hi := 2147483647) (by decide) rfl (by omega) ⟨by decide, by decide⟩ (Or.inr (by decide)) rfl
            have hZ15U : zU [] Z Z15 := zU_u hZ9U hZ15 (Or.inl rfl)
            have hZ15K : zC [1, 2, 101, 102, 200] Z Z15 := zC_u hZ9K hZ15 (by decide)
            intro μ9 e9
            replace e9 := e9.trans (zm_wI (Z := Z9) (ν := ν) hZ15 (show ((0 : Nat) : Int) = 0 from rfl) (show ((0 : Nat) : Int) = 0 from rfl) (show ((2 : Nat) : Int) = 2 from rfl) (show (2 : Int32) = i3 2 from rfl))
            subst e9
            exact zlY hP (show (0 : Int32) = i3 0 from rfl) (.inl rfl) ⟨(zmw (a := 0) (c := 1) hZ15I (Nat.le_of_ble_eq_true rfl)), hZ15K, hZ15U⟩
          · replace hP := zE_n hP h14
            refine wz_br (i3L (show (9 : Int32) = i3 9 from rfl) (rfl : i3 a3 = i3 a3) (by omega) (by omega) (by omega) (by omega)) (fun h16 => ?_) (fun h16 => ?_)
            · replace hP := zE_p hP h16
              obtain ⟨Z17, hZ17⟩ := zx (zu Z9 1 0 0 2 2)
              replace hP := zl_e hP hZ17
              have hZ17I := zM_u hZ9I hZ17 (lo := -2147483648) (hi := 2147483647) (by decide) rfl (by omega) ⟨by decide, by decide⟩ (Or.inr (by decide)) rfl
              have hZ17U : zU [] Z Z17 := zU_u hZ9U hZ17 (Or.inl rfl)
              have hZ17K : zC [1, 2, 101, 102, 200] Z Z17 := zC_u hZ9K hZ17 (by decide)
              intro μ9 e9
              replace e9 := e9.trans (zm_wI (Z := Z9) (ν := ν) hZ17 (show ((0 : Nat) : Int) = 0 from rfl) (show ((0 : Nat) : Int) = 0 from rfl) (show ((2 : Nat) : Int) = 2 from rfl) (show (2 : Int32) = i3 2 from rfl))
              subst e9
              exact zlY hP (show (0 : Int32) = i3 0 from rfl) (.inl rfl) ⟨(zmw (a := 0) (c := 1) hZ17I (Nat.le_of_ble_eq_true rfl)), hZ17K, hZ17U⟩
            · replace hP := zE_n hP h16
              refine wz_br (i3L (rfl : i3 a4 = i3 a4) (show (0 : Int32) = i3 0 from rfl) (by omega) (by omega) (by omega) (by omega)) (fun h18 => ?_) (fun h18 => ?_)
              · replace hP := zE_p hP h18
                obtain ⟨Z19, hZ19⟩ := zx (zu Z9 1 0 0 2 2)
                replace hP := zl_e hP hZ19
                have hZ19I := zM_u hZ9I hZ19 (lo := -2147483648) (hi := 2147483647) (by decide) rfl (by omega) ⟨by decide, by decide⟩ (Or.inr (by decide)) rfl
                have hZ19U : zU [] Z Z19 := zU_u hZ9U hZ19 (Or.inl rfl)
                have hZ19K : zC [1, 2, 101, 102, 200] Z Z19 := zC_u hZ9K hZ19 (by decide)
                intro μ9 e9
                replace e9 := e9.trans (zm_wI (Z := Z9) (ν := ν) hZ19 (show ((0 : Nat) : Int) = 0 from rfl) (show ((0 : Nat) : Int) = 0 from rfl) (show ((2 : Nat) : Int) = 2 from rfl) (show (2 : Int32) = i3 2 from rfl))
                subst e9
                exact zlY hP (show (0 : Int32) = i3 0 from rfl) (.inl rfl) ⟨(zmw (a := 0) (c := 1) hZ19I (Nat.le_of_ble_eq_true rfl)), hZ19K, hZ19U⟩
              · replace hP := zE_n hP h18
                refine wz_br (i3L (show (65535 : Int32) = i3 65535 from rfl) (rfl : i3 a4 = i3 a4) (by omega) (by omega) (by omega) (by omega)) (fun h20 => ?_) (fun h20 => ?_)
                · replace hP := zE_p hP h20
                  obtain ⟨Z21, hZ21⟩ := zx (zu Z9 1 0 0 2 2)
                  replace hP := zl_e hP hZ21
                  have hZ21I := zM_u hZ9I hZ21 (lo := -2147483648) (hi := 2147483647) (by decide) rfl (by omega) ⟨by decide, by decide⟩ (Or.inr (by decide)) rfl
                  have hZ21U : zU [] Z Z21 := zU_u hZ9U hZ21 (Or.inl rfl)
                  have hZ21K : zC [1, 2, 101, 102, 200] Z Z21 := zC_u hZ9K hZ21 (by decide)
                  intro μ9 e9
                  replace e9 := e9.trans (zm_wI (Z := Z9) (ν := ν) hZ21 (show ((0 : Nat) : Int) = 0 from rfl) (show ((0 : Nat) : Int) = 0 from rfl) (show ((2 : Nat) : Int) = 2 from rfl) (show (2 : Int32) = i3 2 from rfl))
                  subst e9
                  exact zlY hP (show (0 : Int32) = i3 0 from rfl) (.inl rfl) ⟨(zmw (a := 0) (c := 1) hZ21I (Nat.le_of_ble_eq_true rfl)), hZ21K, hZ21U⟩
                · replace hP := zE_n hP h20
                  obtain ⟨Z22, hZ22⟩ := zx (zu Z9 1 0 0 2 0)
                  replace hP := zl_e hP hZ22
                  have hZ22I := zM_0 hZ9I hZ22 (by decide) (Or.inr (by decide))
                  have hZ22U : zU [] Z Z22 := zU_u hZ9U hZ22 (Or.inl rfl)
                  have hZ22K : zC [1, 2, 101, 102, 200] Z Z22 := zC_u hZ9K hZ22 (by decide)
                  intro μ9 e9
                  replace e9 := e9.trans (zm_wI (Z := Z9) (ν := ν) hZ22 (show ((0 : Nat) : Int) = 0 from rfl) (show ((0 : Nat) : Int) = 0 from rfl) (show ((2 : Nat) : Int) = 2 from rfl) (show (0 : Int32) = i3 0 from rfl))
                  subst e9
                  refine wz_i0 (i3O (n := 4400) (i3A (i3A (show (200 : Int32) = i3 200 from rfl) (i3M (show (20 : Int32) = i3 20 from rfl) (rfl : i3 a1 = i3 a1))) (show (10 : Int32) = i3 10 from rfl)) (by omega) (by omega) (by omega)) ?_
                  have r23 := zM_k hZ22I 2 0 0 (210 + 20 * a1) (lo := 0) (hi := 4) (by decide) (zs_200_10 (x := a1) (by omega) (by omega) (by omega))
                  have r24 := zM_pl hZ22I a1
                  have r25 := zM_k hZ22I 2 0 0 102 (lo := 0) (hi := 48) (by decide) rfl
                  have q26 := (zu_ne (k' := 2) (b' := 0) (i' := 0) (j' := 102) hZ22 (fun q => absurd q.1 (by decide))).trans (zu_ne (k' := 2) (b' := 0) (i' := 0) (j' := 102) hZ9 (fun q => absurd q.1 (by decide)))
                  refine wz_br (i3NE (zm_rd (Z := Z22) (ν := ν) (k := 2) (show ((0 : Nat) : Int) = 0 from rfl) (show ((0 : Nat) : Int) = 0 from rfl) (i3I (y := (210 + 20 * a1)) (i3A (i3A (show (200 : Int32) = i3 200 from rfl) (i3M (show (20 : Int32) = i3 20 from rfl) (rfl : i3 a1 = i3 a1))) (show (10 : Int32) = i3 10 from rfl)) (by omega) (by omega) (by omega))) (show (0 : Int32) = i3 0 from rfl) (by omega) (by omega) (by omega) (by omega)) (fun h27 => ?_) (fun h27 => ?_)
                  · replace hP := zE_p hP h27
                    obtain ⟨Z28, hZ28⟩ := zx (zu Z22 1 0 0 2 3)
                    replace hP := zl_e hP hZ28
                    have hZ28I := zM_u hZ22I hZ28 (lo := -2147483648) (hi := 2147483647) (by decide) rfl (by omega) ⟨by decide, by decide⟩ (Or.inr (by decide)) rfl
                    have hZ28U : zU [] Z Z28 := zU_u hZ22U hZ28 (Or.inl rfl)
                    have hZ28K : zC [1, 2, 101, 102, 200] Z Z28 := zC_u hZ22K hZ28 (by decide)
                    intro μ9 e9
                    replace e9 := e9.trans (zm_wI (Z := Z22) (ν := ν) hZ28 (show ((0 : Nat) : Int) = 0 from rfl) (show ((0 : Nat) : Int) = 0 from rfl) (show ((2 : Nat) : Int) = 2 from rfl) (show (3 : Int32) = i3 3 from rfl))
                    subst e9
                    exact zlY hP (show (0 : Int32) = i3 0 from rfl) (.inl rfl) ⟨(zmw (a := 0) (c := 1) hZ28I (Nat.le_of_ble_eq_true rfl)), hZ28K, hZ28U⟩
                  · replace hP := zE_n hP h27
                    refine wz_i0 (i3O (n := 4400) (i3A (i3A (show (200 : Int32) = i3 200 from rfl) (i3M (show (20 : Int32) = i3 20 from rfl) (rfl : i3 a1 = i3 a1))) (show (4 : Int32) = i3 4 from rfl)) (by omega) (by omega) (by omega)) ?_
                    have r29 := zM_k hZ22I 2 0 0 (204 + 20 * a1) (lo := 0) (hi := 40) (by decide) (zs_200_4 (x := a1) (by omega) (by omega) (by omega))
                    refine wz_br (i3L (zm_rd (Z := Z22) (ν := ν) (k := 2) (show ((0 : Nat) : Int) = 0 from rfl) (show ((0 : Nat) : Int) = 0 from rfl) (i3I (y := (204 + 20 * a1)) (i3A (i3A (show (200 : Int32) = i3 200 from rfl) (i3M (show (20 : Int32) = i3 20 from rfl) (rfl : i3 a1 = i3 a1))) (show (4 : Int32) = i3 4 from rfl)) (by omega) (by omega) (by omega))) (rfl : i3 a2 = i3 a2) (by omega) (by omega) (by omega) (by omega)) (fun h30 => ?_) (fun h30 => ?_)
                    · replace hP := zE_p hP h30
                      obtain ⟨Z31, hZ31⟩ := zx (zu Z22 1 0 0 2 3)
                      replace hP := zl_e hP hZ31
                      have hZ31I := zM_u hZ22I hZ31 (lo := -2147483648) (hi := 2147483647) (by decide) rfl (by omega) ⟨by decide, by decide⟩ (Or.inr (by decide)) rfl
                      have hZ31U : zU [] Z Z31 := zU_u hZ22U hZ31 (Or.inl rfl)
                      have hZ31K : zC [1, 2, 101, 102, 200] Z Z31 := zC_u hZ22K hZ31 (by decide)
                      intro μ9 e9
                      replace e9 := e9.trans (zm_wI (Z := Z22) (ν := ν) hZ31 (show ((0 : Nat) : Int) = 0 from rfl) (show ((0 : Nat) : Int) = 0 from rfl) (show ((2 : Nat) : Int) = 2 from rfl) (show (3 : Int32) = i3 3 from rfl))
                      subst e9
                      exact zlY hP (show (0 : Int32) = i3 0 from rfl) (.inl rfl) ⟨(zmw (a := 0) (c := 1) hZ31I (Nat.le_of_ble_eq_true rfl)), hZ31K, hZ31U⟩
                    · replace hP := zE_n hP h30
                      obtain ⟨Z32, hZ32⟩ := zx (zu Z22 1 0 0 2 0)
                      replace hP := zl_e hP hZ32
                      have hZ32I := zM_0 hZ22I hZ32 (by decide) (Or.inr (by decide))
                      have hZ32U : zU [] Z Z32 := zU_u hZ22U hZ32 (Or.inl rfl)
                      have hZ32K : zC [1, 2, 101, 102, 200] Z Z32 := zC_u hZ22K hZ32 (by decide)
                      intro μ9 e9
                      replace e9 := e9.trans (zm_wI (Z := Z22) (ν := ν) hZ32 (show ((0 : Nat) : Int) = 0 from rfl) (show ((0 : Nat) : Int) = 0 from rfl) (show ((2 : Nat) : Int) = 2 from rfl) (show (0 : Int32) = i3 0 from rfl))
                      subst e9
                      have r33 := zM_k hZ32I 1 0 0 35 (lo := 0) (hi := 1) (by decide) rfl
                      have q34 := (zu_ne (k' := 1) (b' := 0) (i' := 0) (j' := 35) hZ32 (fun q => absurd q.2.2.2 (by decide))).trans ((zu_ne (k' := 1) (b' := 0) (i' := 0) (j' := 35) hZ22 (fun q => absurd q.2.2.2 (by decide))).trans (zu_ne (k' := 1) (b' := 0) (i' := 0) (j' := 35) hZ9 (fun q => absurd q.2.2.2 (by decide))))
                      refine wz_i0 (Eq.trans (i3NE (zm_rd (Z := Z32) (ν := ν) (k := 1) (show ((0 : Nat) : Int) = 0 from rfl) (show ((0 : Nat) : Int) = 0 from rfl) (show ((35 : Nat) : Int) = 35 from rfl)) (show (0 : Int32) = i3 0 from rfl) (by omega) (by omega) (by omega) (by omega)) (decide_eq_false (by omega))) ?_
                      have r35 := zM_k hZ32I 1 0 0 34 (lo := 0) (hi := 8) (by decide) rfl
                      have q36 := (zu_ne (k' := 1) (b' := 0) (i' := 0) (j' := 34) hZ32 (fun q => absurd q.2.2.2 (by decide))).trans ((zu_ne (k' := 1) (b' := 0) (i' := 0) (j' := 34) hZ22 (fun q => absurd q.2.2.2 (by decide))).trans (zu_ne (k' := 1) (b' := 0) (i' := 0) (j' := 34) hZ9 (fun q => absurd q.2.2.2 (by decide))))
                      have r37 := zM_f hZ32I 1 0 0 37
                      have q38 := (zu_ne (k' := 1) (b' := 0) (i' := 0) (j' := 37) hZ32 (fun q => absurd q.2.2.2 (by decide))).trans ((zu_ne (k' := 1) (b' := 0) (i' := 0) (j' := 37) hZ22 (fun q => absurd q.2.2.2 (by decide))).trans (zu_ne (k' := 1) (b' := 0) (i' := 0) (j' := 37) hZ9 (fun q => absurd q.2.2.2 (by decide))))
                      obtain ⟨c8, c9, hZ39I, dZ39⟩ := hdm Z32 4 a1 a2 a3 a4 0 0 hZ32I (by omega) (by omega) (by omega) (by omega) (by omega) (by omega) (by omega) (by omega) (by omega) (by omega)
                      obtain ⟨Z39, hZ39⟩ := zx (dm Z32 4 a1 a2 a3 a4 0 0)
                      rw [← hZ39] at c9 hZ39I dZ39
                      replace hP := zl_e hP hZ39
                      refine wz_cV_of (zas (zcons rfl (zcons (zvi (show (-1 : Int32) = i3 (-1) from rfl)) rfl)) c8) ?_
                      refine wz_cV_of (zas (zcons rfl (zcons (zvi (show (4 : Int32) = i3 4 from rfl)) (zcons (zvi (rfl : i3 a1 = i3 a1)) (zcons (zvi (rfl : i3 a2 = i3 a2)) (zcons (zvi (rfl : i3 a3 = i3 a3)) (zcons (zvi (rfl : i3 a4 = i3 a4)) (zcons (zvi (show (0 : Int32) = i3 0 from rfl)) (zcons (zvi (show (0 : Int32) = i3 0 from rfl)) rfl)))))))) c9) ?_
                      clear c8 c9
                      have hZ39K : zC [1, 2, 101, 102, 200] Z Z39 := zC_t hZ32K (zMd_C dZ39) (by decide)
                      have hZ39U : zU [] Z Z39 := zU_t hZ32U (zMd_U dZ39) zU_b0
                      obtain ⟨Z40, hZ40⟩ := zx (zu Z39 1 0 0 3 a4)
                      replace hP := zl_e hP hZ40
                      have hZ40I := zM_u hZ39I hZ40 (lo := 0) (hi := 65535) (by decide) rfl (by omega) ⟨by decide, by decide⟩ (Or.inr (by decide)) rfl
                      have hZ40U : zU [] Z Z40 := zU_u hZ39U hZ40 (Or.inl rfl)
                      have hZ40K : zC [1, 2, 101, 102, 200] Z Z40 := zC_u hZ39K hZ40 (by decide)
                      intro μ9 e9
                      replace e9 := e9.trans (zm_wI (Z := Z39) (ν := ν1) hZ40 (show ((0 : Nat) : Int) = 0 from rfl) (show ((0 : Nat) : Int) = 0 from rfl) (show ((3 : Nat) : Int) = 3 from rfl) (rfl : i3 a4 = i3 a4))
                      subst e9
                      refine wz_i0 (i3O (n := 4400) (i3A (i3A (show (200 : Int32) = i3 200 from rfl) (i3M (show (20 : Int32) = i3 20 from rfl) (rfl : i3 a1 = i3 a1))) (show (4 : Int32) = i3 4 from rfl)) (by omega) (by omega) (by omega)) ?_
                      refine wz_i0 (i3O (n := 4400) (i3A (i3A (show (200 : Int32) = i3 200 from rfl) (i3M (show (20 : Int32) = i3 20 from rfl) (rfl : i3 a1 = i3 a1))) (show (5 : Int32) = i3 5 from rfl)) (by omega) (by omega) (by omega)) ?_
                      have r41 := zM_k hZ40I 2 0 0 (204 + 20 * a1) (lo := 0) (hi := 40) (by decide) (zs_200_4 (x := a1) (by omega) (by omega) (by omega))
                      have q42 := (zu_ne (k' := 2) (b' := 0) (i' := 0) (j' := (204 + 20 * a1)) hZ40 (fun q => absurd q.1 (by decide))).trans ((dZ39 2 0 0 (204 + 20 * a1) (by simp)).trans (zu_ne (k' := 2) (b' := 0) (i' := 0) (j' := (204 + 20 * a1)) hZ32 (fun q => absurd q.1 (by decide))))
                      have r43 := zM_k hZ40I 2 0 0 (205 + 20 * a1) (lo := 0) (hi := 40) (by decide) (zs_200_5 (x := a1) (by omega) (by omega) (by omega))
                      obtain ⟨Z44, v45, hv45, c9, hZ44I, kZ44, jZ44, lv45, uv45⟩ := sp_322 (ν := ν1) hZ40I (a1 := (Z40 2 0 0 (204 + 20 * a1))) (by omega) (a2 := (Z40 2 0 0 (205 + 20 * a1))) (by omega) (a3 := a2) (by omega) (by omega) (zbh (c := 0) (k := 0) hM (Nat.le_of_ble_eq_true rfl))
                      have hZ44U : zU [] Z Z44 := zU_t hZ40U jZ44 zU_b0
                      have hZ44K : zC [1, 2, 101, 102, 200] Z Z44 := zC_t hZ40K kZ44 (by decide)
                      replace hP := zl_e2 hP hv45
                      refine wz_cI_of (zas (zcons rfl (zcons (zvi (zm_rd (Z := Z40) (ν := ν1) (k := 2) (show ((0 : Nat) : Int) = 0 from rfl) (show ((0 : Nat) : Int) = 0 from rfl) (i3I (y := (204 + 20 * a1)) (i3A (i3A (show (200 : Int32) = i3 200 from rfl) (i3M (show (20 : Int32) = i3 20 from rfl) (rfl : i3 a1 = i3 a1))) (show (4 : Int32) = i3 4 from rfl)) (by omega) (by omega) (by omega)))) (zcons (zvi (zm_rd (Z := Z40) (ν := ν1) (k := 2) (show ((0 : Nat) : Int) = 0 from rfl) (show ((0 : Nat) : Int) = 0 from rfl) (i3I (y := (205 + 20 * a1)) (i3A (i3A (show (200 : Int32) = i3 200 from rfl) (i3M (show (20 : Int32) = i3 20 from rfl) (rfl : i3 a1 = i3 a1))) (show (5 : Int32) = i3 5 from rfl)) (by omega) (by omega) (by omega)))) (zcons (zvi (rfl : i3 a2 = i3 a2)) rfl)))) c9) ?_
                      clear c9 hv45
                      refine wz_br (i3NE (rfl : i3 v45 = i3 v45) (show (0 : Int32) = i3 0 from rfl) (by omega) (by omega) (by omega) (by omega)) (fun h46 => ?_) (fun h46 => ?_)
                      · replace hP := zE_p hP h46
                        refine wz_br (i3L (rfl : i3 a3 = i3 a3) (rfl : i3 v45 = i3 v45) (by omega) (by omega) (by omega) (by omega)) (fun h47 => ?_) (fun h47 => ?_)
                        · replace hP := zE_p hP h47
                          refine wz_br (i3L (i3A (i3M (show (2 : Int32) = i3 2 from rfl) (rfl : i3 a3 = i3 a3)) (show (1 : Int32) = i3 1 from rfl)) (rfl : i3 v45 = i3 v45) (by omega) (by omega) (by omega) (by omega)) (fun h48 => ?_) (fun h48 => ?_)
                          · replace hP := zE_p hP h48
                            obtain ⟨v49, hv49, c9, lv49, uv49⟩ := sp_326 (ν := ν1) hZ44I (a1 := a1) (by omega) (zbh (c := 0) (k := 0) hM (Nat.le_of_ble_eq_true rfl))
                            replace hP := zl_e hP hv49
                            refine wz_cI_of (zas (zcons rfl (zcons (zvi (rfl : i3 a1 = i3 a1)) rfl)) c9) ?_
                            clear c9
                            refine wz_i1 (Eq.trans (i3Le (rfl : i3 v49 = i3 v49) (show (3 : Int32) = i3 3 from rfl) (by omega) (by omega) (by omega) (by omega)) (decide_eq_true (by omega))) ?_
                            refine wz_i0 (i3O (n := 4400) (i3A (i3A (show (200 : Int32) = i3 200 from rfl) (i3M (show (20 : Int32) = i3 20 from rfl) (rfl : i3 a1 = i3 a1))) (show (9 : Int32) = i3 9 from rfl)) (by omega) (by omega) (by omega)) ?_
                            obtain ⟨Z50, hZ50⟩ := zx (zu Z44 2 0 0 (209 + 20 * a1) 3)
                            replace hP := zl_e hP hZ50
                            have hZ50I := zM_u2 hZ44I hZ50 (lo := -1) (hi := 3) (zs_200_9 (x := a1) (by omega) (by omega) (by omega)) (by omega) ⟨by decide, by decide⟩ (by simp only [zsp]; omega)
                            have hZ50U : zU [] Z Z50 := zU_u hZ44U hZ50 (Or.inl rfl)
                            have hZ50K : zC [1, 2, 101, 102, 200] Z Z50 := zC_u hZ44K hZ50 (zcl_2w (by omega) rfl)
                            intro μ9 e9
                            replace e9 := e9.trans (zm_wI (Z := Z44) (ν := ν1) hZ50 (show ((0 : Nat) : Int) = 0 from rfl) (show ((0 : Nat) : Int) = 0 from rfl) (i3I (y := (209 + 20 * a1)) (i3A (i3A (show (200 : Int32) = i3 200 from rfl) (i3M (show (20 : Int32) = i3 20 from rfl) (rfl : i3 a1 = i3 a1))) (show (9 : Int32) = i3 9 from rfl)) (by omega) (by omega) (by omega)) (show (3 : Int32) = i3 3 from rfl))
                            subst e9
                            refine wz_i0 (i3O (n := 4400) (i3A (i3A (show (200 : Int32) = i3 200 from rfl) (i3M (show (20 : Int32) = i3 20 from rfl) (rfl : i3 a1 = i3 a1))) (show (12 : Int32) = i3 12 from rfl)) (by omega) (by omega) (by omega)) ?_
                            refine wz_i0 (i3O (n := 4400) (i3A (i3A (show (200 : Int32) = i3 200 from rfl) (i3M (show (20 : Int32) = i3 20 from rfl) (rfl : i3 a1 = i3 a1))) (show (12 : Int32) = i3 12 from rfl)) (by omega) (by omega) (by omega)) ?_
                            have r51 := zM_f hZ50I 2 0 0 (212 + 20 * a1)
                            have r52 := w3_r ((Z50 2 0 0 (212 + 20 * a1)) + 1)
                            obtain ⟨Z53, hZ53⟩ := zx (zu Z50 2 0 0 (212 + 20 * a1) (w3 ((Z50 2 0 0 (212 + 20 * a1)) + 1)))
                            replace hP := zl_e hP hZ53
                            have hZ53I := zM_u2 hZ50I hZ53 (lo := -2147483648) (hi := 2147483647) (zs_200_12 (x := a1) (by omega) (by omega) (by omega)) (by omega) ⟨by decide, by decide⟩ (by simp only [zsp]; omega)
                            have hZ53U : zU [] Z Z53 := zU_u hZ50U hZ53 (Or.inl rfl)
                            have hZ53K : zC [1, 2, 101, 102, 200] Z Z53 := zC_u hZ50K hZ53 (zcl_2w (by omega) rfl)
                            intro μ9 e9
                            replace e9 := e9.trans (zm_wI (Z := Z50) (ν := ν1) hZ53 (show ((0 : Nat) : Int) = 0 from rfl) (show ((0 : Nat) : Int) = 0 from rfl) (i3I (y := (212 + 20 * a1)) (i3A (i3A (show (200 : Int32) = i3 200 from rfl) (i3M (show (20 : Int32) = i3 20 from rfl) (rfl : i3 a1 = i3 a1))) (show (12 : Int32) = i3 12 from rfl)) (by omega) (by omega) (by omega)) (i3W (i3A (zm_rd (Z := Z50) (ν := ν1) (k := 2) (show ((0 : Nat) : Int) = 0 from rfl) (show ((0 : Nat) : Int) = 0 from rfl) (i3I (y := (212 + 20 * a1)) (i3A (i3A (show (200 : Int32) = i3 200 from rfl) (i3M (show (20 : Int32) = i3 20 from rfl) (rfl : i3 a1 = i3 a1))) (show (12 : Int32) = i3 12 from rfl)) (by omega) (by omega) (by omega))) (show (1 : Int32) = i3 1 from rfl))))
                            subst e9
                            refine wz_i0 (i3O (n := 4400) (i3A (i3A (show (200 : Int32) = i3 200 from rfl) (i3M (show (20 : Int32) = i3 20 from rfl) (rfl : i3 a1 = i3 a1))) (show (13 : Int32) = i3 13 from rfl)) (by omega) (by omega) (by omega)) ?_
                            obtain ⟨Z54, hZ54⟩ := zx (zu Z53 2 0 0 (213 + 20 * a1) v45)
                            replace hP := zl_e hP hZ54
                            have hZ54I := zM_u2 hZ53I hZ54 (lo := -1) (hi := 20) (zs_200_13 (x := a1) (by omega) (by omega) (by omega)) (by omega) ⟨by decide, by decide⟩ (by simp only [zsp]; omega)
                            have hZ54U : zU [] Z Z54 := zU_u hZ53U hZ54 (Or.inl rfl)
                            have hZ54K : zC [1, 2, 101, 102, 200] Z Z54 := zC_u hZ53K hZ54 (zcl_2w (by omega) rfl)
                            intro μ9 e9
                            replace e9 := e9.trans (zm_wI (Z := Z53) (ν := ν1) hZ54 (show ((0 : Nat) : Int) = 0 from rfl) (show ((0 : Nat) : Int) = 0 from rfl) (i3I (y := (213 + 20 * a1)) (i3A (i3A (show (200 : Int32) = i3 200 from rfl) (i3M (show (20 : Int32) = i3 20 from rfl) (rfl : i3 a1 = i3 a1))) (show (13 : Int32) = i3 13 from rfl)) (by omega) (by omega) (by omega)) (rfl : i3 v45 = i3 v45))
                            subst e9
                            have r55 := zM_k hZ54I 2 0 0 3810 (lo := 0) (hi := 99999) (by decide) rfl
                            have r56 := z_mul (x := (Z54 2 0 0 3810)) (y := a2) (a := 99999) (b := 20) (by omega) (by omega) (by omega) (by omega)
                            obtain ⟨Z57, hZ57, c9, hZ57I, kZ57, jZ57⟩ := sp_403 (ν := ν1) hZ54I (a1 := 0) (by omega) (a2 := 6) (by omega) (a3 := ((Z54 2 0 0 3810) * a2)) (by omega) (a4 := a1) (by omega) (zbh (c := 0) (k := 1) hM (Nat.le_of_ble_eq_true rfl))
                            have hZ57U : zU [] Z Z57 := zU_t hZ54U jZ57 zU_b0
                            have hZ57K : zC [1, 2, 101, 102, 200] Z Z57 := zC_t hZ54K kZ57 (by decide)
                            replace hP := zl_e hP hZ57
                            refine wz_cV_of (zas (zcons rfl (zcons (zvi (show (0 : Int32) = i3 0 from rfl)) (zcons (zvi (show (6 : Int32) = i3 6 from rfl)) (zcons (zvi (i3M (zm_rd (Z := Z54) (ν := ν1) (k := 2) (show ((0 : Nat) : Int) = 0 from rfl) (show ((0 : Nat) : Int) = 0 from rfl) (show ((3810 : Nat) : Int) = 3810 from rfl)) (rfl : i3 a2 = i3 a2))) (zcons (zvi (rfl : i3 a1 = i3 a1)) rfl))))) c9) ?_
                            clear c9
                            refine wz_i0 (i3O (n := 4400) (i3A (i3A (show (200 : Int32) = i3 200 from rfl) (i3M (show (20 : Int32) = i3 20 from rfl) (rfl : i3 a1 = i3 a1))) (show (9 : Int32) = i3 9 from rfl)) (by omega) (by omega) (by omega)) ?_
                            have r58 := zM_k hZ57I 2 0 0 (209 + 20 * a1) (lo := -1) (hi := 3) (by decide) (zs_200_9 (x := a1) (by omega) (by omega) (by omega))
                            exact zlY hP (zm_rd (Z := Z57) (ν := ν1) (k := 2) (show ((0 : Nat) : Int) = 0 from rfl) (show ((0 : Nat) : Int) = 0 from rfl) (i3I (y := (209 + 20 * a1)) (i3A (i3A (show (200 : Int32) = i3 200 from rfl) (i3M (show (20 : Int32) = i3 20 from rfl) (rfl : i3 a1 = i3 a1))) (show (9 : Int32) = i3 9 from rfl)) (by omega) (by omega) (by omega))) (.inr rfl) ⟨hZ57I, hZ57K, hZ57U⟩
                          · replace hP := zE_n hP h48
                            obtain ⟨v59, hv59, c9, lv59, uv59⟩ := sp_326 (ν := ν1) hZ44I (a1 := a1) (by omega) (zbh (c := 0) (k := 0) hM (Nat.le_of_ble_eq_true rfl))
                            replace hP := zl_e hP hv59
                            refine wz_cI_of (zas (zcons rfl (zcons (zvi (rfl : i3 a1 = i3 a1)) rfl)) c9) ?_
                            clear c9
                            refine wz_br (i3Le (rfl : i3 v59 = i3 v59) (show (2 : Int32) = i3 2 from rfl) (by omega) (by omega) (by omega) (by omega)) (fun h60 => ?_) (fun h60 => ?_)
                            · replace hP := zE_p hP h60
                              refine wz_i0 (i3O (n := 4400) (i3A (i3A (show (200 : Int32) = i3 200 from rfl) (i3M (show (20 : Int32) = i3 20 from rfl) (rfl : i3 a1 = i3 a1))) (show (9 : Int32) = i3 9 from rfl)) (by omega) (by omega) (by omega)) ?_
                              obtain ⟨Z61, hZ61⟩ := zx (zu Z44 2 0 0 (209 + 20 * a1) 2)
                              replace hP := zl_e hP hZ61
                              have hZ61I := zM_u2 hZ44I hZ61 (lo := -1) (hi := 3) (zs_200_9 (x := a1) (by omega) (by omega) (by omega)) (by omega) ⟨by decide, by decide⟩ (by simp only [zsp]; omega)
                              have hZ61U : zU [] Z Z61 := zU_u hZ44U hZ61 (Or.inl rfl)
                              have hZ61K : zC [1, 2, 101, 102, 200] Z Z61 := zC_u hZ44K hZ61 (zcl_2w (by omega) rfl)
                              intro μ9 e9
                              replace e9 := e9.trans (zm_wI (Z := Z44) (ν := ν1) hZ61 (show ((0 : Nat) : Int) = 0 from rfl) (show ((0 : Nat) : Int) = 0 from rfl) (i3I (y := (209 + 20 * a1)) (i3A (i3A (show (200 : Int32) = i3 200 from rfl) (i3M (show (20 : Int32) = i3 20 from rfl) (rfl : i3 a1 = i3 a1))) (show (9 : Int32) = i3 9 from rfl)) (by omega) (by omega) (by omega)) (show (2 : Int32) = i3 2 from rfl))
                              subst e9
                              refine wz_i0 (i3O (n := 4400) (i3A (i3A (show (200 : Int32) = i3 200 from rfl) (i3M (show (20 : Int32) = i3 20 from rfl) (rfl : i3 a1 = i3 a1))) (show (12 : Int32) = i3 12 from rfl)) (by omega) (by omega) (by omega)) ?_
                              refine wz_i0 (i3O (n := 4400) (i3A (i3A (show (200 : Int32) = i3 200 from rfl) (i3M (show (20 : Int32) = i3 20 from rfl) (rfl : i3 a1 = i3 a1))) (show (12 : Int32) = i3 12 from rfl)) (by omega) (by omega) (by omega)) ?_
                              have r62 := zM_f hZ61I 2 0 0 (212 + 20 * a1)
                              have r63 := w3_r ((Z61 2 0 0 (212 + 20 * a1)) + 1)
                              obtain ⟨Z64, hZ64⟩ := zx (zu Z61 2 0 0 (212 + 20 * a1) (w3 ((Z61 2 0 0 (212 + 20 * a1)) + 1)))
                              replace hP := zl_e hP hZ64
                              have hZ64I := zM_u2 hZ61I hZ64 (lo := -2147483648) (hi := 2147483647) (zs_200_12 (x := a1) (by omega) (by omega) (by omega)) (by omega) ⟨by decide, by decide⟩ (by simp only [zsp]; omega)
                              have hZ64U : zU [] Z Z64 := zU_u hZ61U hZ64 (Or.inl rfl)
                              have hZ64K : zC [1, 2, 101, 102, 200] Z Z64 := zC_u hZ61K hZ64 (zcl_2w (by omega) rfl)
                              intro μ9 e9
                              replace e9 := e9.trans (zm_wI (Z := Z61) (ν := ν1) hZ64 (show ((0 : Nat) : Int) = 0 from rfl) (show ((0 : Nat) : Int) = 0 from rfl) (i3I (y := (212 + 20 * a1)) (i3A (i3A (show (200 : Int32) = i3 200 from rfl) (i3M (show (20 : Int32) = i3 20 from rfl) (rfl : i3 a1 = i3 a1))) (show (12 : Int32) = i3 12 from rfl)) (by omega) (by omega) (by omega)) (i3W (i3A (zm_rd (Z := Z61) (ν := ν1) (k := 2) (show ((0 : Nat) : Int) = 0 from rfl) (show ((0 : Nat) : Int) = 0 from rfl) (i3I (y := (212 + 20 * a1)) (i3A (i3A (show (200 : Int32) = i3 200 from rfl) (i3M (show (20 : Int32) = i3 20 from rfl) (rfl : i3 a1 = i3 a1))) (show (12 : Int32) = i3 12 from rfl)) (by omega) (by omega) (by omega))) (show (1 : Int32) = i3 1 from rfl))))
                              subst e9
                              refine wz_i0 (i3O (n := 4400) (i3A (i3A (show (200 : Int32) = i3 200 from rfl) (i3M (show (20 : Int32) = i3 20 from rfl) (rfl : i3 a1 = i3 a1))) (show (13 : Int32) = i3 13 from rfl)) (by omega) (by omega) (by omega)) ?_
                              obtain ⟨Z65, hZ65⟩ := zx (zu Z64 2 0 0 (213 + 20 * a1) v45)
                              replace hP := zl_e hP hZ65
                              have hZ65I := zM_u2 hZ64I hZ65 (lo := -1) (hi := 20) (zs_200_13 (x := a1) (by omega) (by omega) (by omega)) (by omega) ⟨by decide, by decide⟩ (by simp only [zsp]; omega)
                              have hZ65U : zU [] Z Z65 := zU_u hZ64U hZ65 (Or.inl rfl)
                              have hZ65K : zC [1, 2, 101, 102, 200] Z Z65 := zC_u hZ64K hZ65 (zcl_2w (by omega) rfl)
                              intro μ9 e9
                              replace e9 := e9.trans (zm_wI (Z := Z64) (ν := ν1) hZ65 (show ((0 : Nat) : Int) = 0 from rfl) (show ((0 : Nat) : Int) = 0 from rfl) (i3I (y := (213 + 20 * a1)) (i3A (i3A (show (200 : Int32) = i3 200 from rfl) (i3M (show (20 : Int32) = i3 20 from rfl) (rfl : i3 a1 = i3 a1))) (show (13 : Int32) = i3 13 from rfl)) (by omega) (by omega) (by omega)) (rfl : i3 v45 = i3 v45))
                              subst e9
                              have r66 := zM_k hZ65I 2 0 0 3810 (lo := 0) (hi := 99999) (by decide) rfl
                              have r67 := z_mul (x := (Z65 2 0 0 3810)) (y := a2) (a := 99999) (b := 20) (by omega) (by omega) (by omega) (by omega)
                              obtain ⟨Z68, hZ68, c9, hZ68I, kZ68, jZ68⟩ := sp_403 (ν := ν1) hZ65I (a1 := 0) (by omega) (a2 := 6) (by omega) (a3 := ((Z65 2 0 0 3810) * a2)) (by omega) (a4 := a1) (by omega) (zbh (c := 0) (k := 1) hM (Nat.le_of_ble_eq_true rfl))
                              have hZ68U : zU [] Z Z68 := zU_t hZ65U jZ68 zU_b0
                              have hZ68K : zC [1, 2, 101, 102, 200] Z Z68 := zC_t hZ65K kZ68 (by decide)
                              replace hP := zl_e hP hZ68
                              refine wz_cV_of (zas (zcons rfl (zcons (zvi (show (0 : Int32) = i3 0 from rfl)) (zcons (zvi (show (6 : Int32) = i3 6 from rfl)) (zcons (zvi (i3M (zm_rd (Z := Z65) (ν := ν1) (k := 2) (show ((0 : Nat) : Int) = 0 from rfl) (show ((0 : Nat) : Int) = 0 from rfl) (show ((3810 : Nat) : Int) = 3810 from rfl)) (rfl : i3 a2 = i3 a2))) (zcons (zvi (rfl : i3 a1 = i3 a1)) rfl))))) c9) ?_
                              clear c9
                              refine wz_i0 (i3O (n := 4400) (i3A (i3A (show (200 : Int32) = i3 200 from rfl) (i3M (show (20 : Int32) = i3 20 from rfl) (rfl : i3 a1 = i3 a1))) (show (9 : Int32) = i3 9 from rfl)) (by omega) (by omega) (by omega)) ?_
                              have r69 := zM_k hZ68I 2 0 0 (209 + 20 * a1) (lo := -1) (hi := 3) (by decide) (zs_200_9 (x := a1) (by omega) (by omega) (by omega))
                              exact zlY hP (zm_rd (Z := Z68) (ν := ν1) (k := 2) (show ((0 : Nat) : Int) = 0 from rfl) (show ((0 : Nat) : Int) = 0 from rfl) (i3I (y := (209 + 20 * a1)) (i3A (i3A (show (200 : Int32) = i3 200 from rfl) (i3M (show (20 : Int32) = i3 20 from rfl) (rfl : i3 a1 = i3 a1))) (show (9 : Int32) = i3 9 from rfl)) (by omega) (by omega) (by omega))) (.inr rfl) ⟨hZ68I, hZ68K, hZ68U⟩
                            · replace hP := zE_n hP h60
                              refine wz_i0 (i3O (n := 4400) (i3A (i3A (show (200 : Int32) = i3 200 from rfl) (i3M (show (20 : Int32) = i3 20 from rfl) (rfl : i3 a1 = i3 a1))) (show (9 : Int32) = i3 9 from rfl)) (by omega) (by omega) (by omega)) ?_
                              obtain ⟨Z70, hZ70⟩ := zx (zu Z44 2 0 0 (209 + 20 * a1) v59)
                              replace hP := zl_e hP hZ70
                              have hZ70I := zM_u2 hZ44I hZ70 (lo := -1) (hi := 3) (zs_200_9 (x := a1) (by omega) (by omega) (by omega)) (by omega) ⟨by decide, by decide⟩ (by simp only [zsp]; omega)
                              have hZ70U : zU [] Z Z70 := zU_u hZ44U hZ70 (Or.inl rfl)
                              have hZ70K : zC [1, 2, 101, 102, 200] Z Z70 := zC_u hZ44K hZ70 (zcl_2w (by omega) rfl)
                              intro μ9 e9
                              replace e9 := e9.trans (zm_wI (Z := Z44) (ν := ν1) hZ70 (show ((0 : Nat) : Int) = 0 from rfl) (show ((0 : Nat) : Int) = 0 from rfl) (i3I (y := (209 + 20 * a1)) (i3A (i3A (show (200 : Int32) = i3 200 from rfl) (i3M (show (20 : Int32) = i3 20 from rfl) (rfl : i3 a1 = i3 a1))) (show (9 : Int32) = i3 9 from rfl)) (by omega) (by omega) (by omega)) (rfl : i3 v59 = i3 v59))
                              subst e9
                              refine wz_i0 (i3O (n := 4400) (i3A (i3A (show (200 : Int32) = i3 200 from rfl) (i3M (show (20 : Int32) = i3 20 from rfl) (rfl : i3 a1 = i3 a1))) (show (12 : Int32) = i3 12 from rfl)) (by omega) (by omega) (by omega)) ?_
                              refine wz_i0 (i3O (n := 4400) (i3A (i3A (show (200 : Int32) = i3 200 from rfl) (i3M (show (20 : Int32) = i3 20 from rfl) (rfl : i3 a1 = i3 a1))) (show (12 : Int32) = i3 12 from rfl)) (by omega) (by omega) (by omega)) ?_
                              have r71 := zM_f hZ70I 2 0 0 (212 + 20 * a1)
                              have r72 := w3_r ((Z70 2 0 0 (212 + 20 * a1)) + 1)
                              obtain ⟨Z73, hZ73⟩ := zx (zu Z70 2 0 0 (212 + 20 * a1) (w3 ((Z70 2 0 0 (212 + 20 * a1)) + 1)))
                              replace hP := zl_e hP hZ73
                              have hZ73I := zM_u2 hZ70I hZ73 (lo := -2147483648) (hi := 2147483647) (zs_200_12 (x := a1) (by omega) (by omega) (by omega)) (by omega) ⟨by decide, by decide⟩ (by simp only [zsp]; omega)
                              have hZ73U : zU [] Z Z73 := zU_u hZ70U hZ73 (Or.inl rfl)
                              have hZ73K : zC [1, 2, 101, 102, 200] Z Z73 := zC_u hZ70K hZ73 (zcl_2w (by omega) rfl)
                              intro μ9 e9
                              replace e9 := e9.trans (zm_wI (Z := Z70) (ν := ν1) hZ73 (show ((0 : Nat) : Int) = 0 from rfl) (show ((0 : Nat) : Int) = 0 from rfl) (i3I (y := (212 + 20 * a1)) (i3A (i3A (show (200 : Int32) = i3 200 from rfl) (i3M (show (20 : Int32) = i3 20 from rfl) (rfl : i3 a1 = i3 a1))) (show (12 : Int32) = i3 12 from rfl)) (by omega) (by omega) (by omega)) (i3W (i3A (zm_rd (Z := Z70) (ν := ν1) (k := 2) (show ((0 : Nat) : Int) = 0 from rfl) (show ((0 : Nat) : Int) = 0 from rfl) (i3I (y := (212 + 20 * a1)) (i3A (i3A (show (200 : Int32) = i3 200 from rfl) (i3M (show (20 : Int32) = i3 20 from rfl) (rfl : i3 a1 = i3 a1))) (show (12 : Int32) = i3 12 from rfl)) (by omega) (by omega) (by omega))) (show (1 : Int32) = i3 1 from rfl))))
                              subst e9
                              refine wz_i0 (i3O (n := 4400) (i3A (i3A (show (200 : Int32) = i3 200 from rfl) (i3M (show (20 : Int32) = i3 20 from rfl) (rfl : i3 a1 = i3 a1))) (show (13 : Int32) = i3 13 from rfl)) (by omega) (by omega) (by omega)) ?_
                              obtain ⟨Z74, hZ74⟩ := zx (zu Z73 2 0 0 (213 + 20 * a1) v45)
                              replace hP := zl_e hP hZ74
                              have hZ74I := zM_u2 hZ73I hZ74 (lo := -1) (hi := 20) (zs_200_13 (x := a1) (by omega) (by omega) (by omega)) (by omega) ⟨by decide, by decide⟩ (by simp only [zsp]; omega)
                              have hZ74U : zU [] Z Z74 := zU_u hZ73U hZ74 (Or.inl rfl)
                              have hZ74K : zC [1, 2, 101, 102, 200] Z Z74 := zC_u hZ73K hZ74 (zcl_2w (by omega) rfl)
                              intro μ9 e9
                              replace e9 := e9.trans (zm_wI (Z := Z73) (ν := ν1) hZ74 (show ((0 : Nat) : Int) = 0 from rfl) (show ((0 : Nat) : Int) = 0 from rfl) (i3I (y := (213 + 20 * a1)) (i3A (i3A (show (200 : Int32) = i3 200 from rfl) (i3M (show (20 : Int32) = i3 20 from rfl) (rfl : i3 a1 = i3 a1))) (show (13 : Int32) = i3 13 from rfl)) (by omega) (by omega) (by omega)) (rfl : i3 v45 = i3 v45))
                              subst e9
                              have r75 := zM_k hZ74I 2 0 0 3810 (lo := 0) (hi := 99999) (by decide) rfl
                              have r76 := z_mul (x := (Z74 2 0 0 3810)) (y := a2) (a := 99999) (b := 20) (by omega) (by omega) (by omega) (by omega)
                              obtain ⟨Z77, hZ77, c9, hZ77I, kZ77, jZ77⟩ := sp_403 (ν := ν1) hZ74I (a1 := 0) (by omega) (a2 := 6) (by omega) (a3 := ((Z74 2 0 0 3810) * a2)) (by omega) (a4 := a1) (by omega) (zbh (c := 0) (k := 1) hM (Nat.le_of_ble_eq_true rfl))
                              have hZ77U : zU [] Z Z77 := zU_t hZ74U jZ77 zU_b0
                              have hZ77K : zC [1, 2, 101, 102, 200] Z Z77 := zC_t hZ74K kZ77 (by decide)
                              replace hP := zl_e hP hZ77
                              refine wz_cV_of (zas (zcons rfl (zcons (zvi (show (0 : Int32) = i3 0 from rfl)) (zcons (zvi (show (6 : Int32) = i3 6 from rfl)) (zcons (zvi (i3M (zm_rd (Z := Z74) (ν := ν1) (k := 2) (show ((0 : Nat) : Int) = 0 from rfl) (show ((0 : Nat) : Int) = 0 from rfl) (show ((3810 : Nat) : Int) = 3810 from rfl)) (rfl : i3 a2 = i3 a2))) (zcons (zvi (rfl : i3 a1 = i3 a1)) rfl))))) c9) ?_
                              clear c9
                              refine wz_i0 (i3O (n := 4400) (i3A (i3A (show (200 : Int32) = i3 200 from rfl) (i3M (show (20 : Int32) = i3 20 from rfl) (rfl : i3 a1 = i3 a1))) (show (9 : Int32) = i3 9 from rfl)) (by omega) (by omega) (by omega)) ?_
                              have r78 := zM_k hZ77I 2 0 0 (209 + 20 * a1) (lo := -1) (hi := 3) (by decide) (zs_200_9 (x := a1) (by omega) (by omega) (by omega))
                              exact zlY hP (zm_rd (Z := Z77) (ν := ν1) (k := 2) (show ((0 : Nat) : Int) = 0 from rfl) (show ((0 : Nat) : Int) = 0 from rfl) (i3I (y := (209 + 20 * a1)) (i3A (i3A (show (200 : Int32) = i3 200 from rfl) (i3M (show (20 : Int32) = i3 20 from rfl) (rfl : i3 a1 = i3 a1))) (show (9 : Int32) = i3 9 from rfl)) (by omega) (by omega) (by omega))) (.inr rfl) ⟨hZ77I, hZ77K, hZ77U⟩
                        · replace hP := zE_n hP h47
                          obtain ⟨v79, hv79, c9, lv79, uv79⟩ := sp_326 (ν := ν1) hZ44I (a1 := a1) (by omega) (zbh (c := 0) (k := 0) hM (Nat.le_of_ble_eq_true rfl))
                          replace hP := zl_e hP hv79
                          refine wz_cI_of (zas (zcons rfl (zcons (zvi (rfl : i3 a1 = i3 a1)) rfl)) c9) ?_
                          clear c9
                          refine wz_br (i3Le (rfl : i3 v79 = i3 v79) (show (1 : Int32) = i3 1 from rfl) (by omega) (by omega) (by omega) (by omega)) (fun h80 => ?_) (fun h80 => ?_)
                          · replace hP := zE_p hP h80
                            refine wz_i0 (i3O (n := 4400) (i3A (i3A (show (200 : Int32) = i3 200 from rfl) (i3M (show (20 : Int32) = i3 20 from rfl) (rfl : i3 a1 = i3 a1))) (show (9 : Int32) = i3 9 from rfl)) (by omega) (by omega) (by omega)) ?_
                            obtain ⟨Z81, hZ81⟩ := zx (zu Z44 2 0 0 (209 + 20 * a1) 1)
                            replace hP := zl_e hP hZ81
                            have hZ81I := zM_u2 hZ44I hZ81 (lo := -1) (hi := 3) (zs_200_9 (x := a1) (by omega) (by omega) (by omega)) (by omega) ⟨by decide, by decide⟩ (by simp only [zsp]; omega)
                            have hZ81U : zU [] Z Z81 := zU_u hZ44U hZ81 (Or.inl rfl)
                            have hZ81K : zC [1, 2, 101, 102, 200] Z Z81 := zC_u hZ44K hZ81 (zcl_2w (by omega) rfl)
                            intro μ9 e9
                            replace e9 := e9.trans (zm_wI (Z := Z44) (ν := ν1) hZ81 (show ((0 : Nat) : Int) = 0 from rfl) (show ((0 : Nat) : Int) = 0 from rfl) (i3I (y := (209 + 20 * a1)) (i3A (i3A (show (200 : Int32) = i3 200 from rfl) (i3M (show (20 : Int32) = i3 20 from rfl) (rfl : i3 a1 = i3 a1))) (show (9 : Int32) = i3 9 from rfl)) (by omega) (by omega) (by omega)) (show (1 : Int32) = i3 1 from rfl))
                            subst e9
                            refine wz_i0 (i3O (n := 4400) (i3A (i3A (show (200 : Int32) = i3 200 from rfl) (i3M (show (20 : Int32) = i3 20 from rfl) (rfl : i3 a1 = i3 a1))) (show (12 : Int32) = i3 12 from rfl)) (by omega) (by omega) (by omega)) ?_
                            refine wz_i0 (i3O (n := 4400) (i3A (i3A (show (200 : Int32) = i3 200 from rfl) (i3M (show (20 : Int32) = i3 20 from rfl) (rfl : i3 a1 = i3 a1))) (show (12 : Int32) = i3 12 from rfl)) (by omega) (by omega) (by omega)) ?_
                            have r82 := zM_f hZ81I 2 0 0 (212 + 20 * a1)
                            have r83 := w3_r ((Z81 2 0 0 (212 + 20 * a1)) + 1)
                            obtain ⟨Z84, hZ84⟩ := zx (zu Z81 2 0 0 (212 + 20 * a1) (w3 ((Z81 2 0 0 (212 + 20 * a1)) + 1)))
                            replace hP := zl_e hP hZ84
                            have hZ84I := zM_u2 hZ81I hZ84 (lo := -2147483648) (hi := 2147483647) (zs_200_12 (x := a1) (by omega) (by omega) (by omega)) (by omega) ⟨by decide, by decide⟩ (by simp only [zsp]; omega)
                            have hZ84U : zU [] Z Z84 := zU_u hZ81U hZ84 (Or.inl rfl)
                            have hZ84K : zC [1, 2, 101, 102, 200] Z Z84 := zC_u hZ81K hZ84 (zcl_2w (by omega) rfl)
                            intro μ9 e9
                            replace e9 := e9.trans (zm_wI (Z := Z81) (ν := ν1) hZ84 (show ((0 : Nat) : Int) = 0 from rfl) (show ((0 : Nat) : Int) = 0 from rfl) (i3I (y := (212 + 20 * a1)) (i3A (i3A (show (200 : Int32) = i3 200 from rfl) (i3M (show (20 : Int32) = i3 20 from rfl) (rfl : i3 a1 = i3 a1))) (show (12 : Int32) = i3 12 from rfl)) (by omega) (by omega) (by omega)) (i3W (i3A (zm_rd (Z := Z81) (ν := ν1) (k := 2) (show ((0 : Nat) : Int) = 0 from rfl) (show ((0 : Nat) : Int) = 0 from rfl) (i3I (y := (212 + 20 * a1)) (i3A (i3A (show (200 : Int32) = i3 200 from rfl) (i3M (show (20 : Int32) = i3 20 from rfl) (rfl : i3 a1 = i3 a1))) (show (12 : Int32) = i3 12 from rfl)) (by omega) (by omega) (by omega))) (show (1 : Int32) = i3 1 from rfl))))
                            subst e9
                            refine wz_i0 (i3O (n := 4400) (i3A (i3A (show (200 : Int32) = i3 200 from rfl) (i3M (show (20 : Int32) = i3 20 from rfl) (rfl : i3 a1 = i3 a1))) (show (13 : Int32) = i3 13 from rfl)) (by omega) (by omega) (by omega)) ?_
                            obtain ⟨Z85, hZ85⟩ := zx (zu Z84 2 0 0 (213 + 20 * a1) v45)
                            replace hP := zl_e hP hZ85
                            have hZ85I := zM_u2 hZ84I hZ85 (lo := -1) (hi := 20) (zs_200_13 (x := a1) (by omega) (by omega) (by omega)) (by omega) ⟨by decide, by decide⟩ (by simp only [zsp]; omega)
                            have hZ85U : zU [] Z Z85 := zU_u hZ84U hZ85 (Or.inl rfl)
                            have hZ85K : zC [1, 2, 101, 102, 200] Z Z85 := zC_u hZ84K hZ85 (zcl_2w (by omega) rfl)
                            intro μ9 e9
                            replace e9 := e9.trans (zm_wI (Z := Z84) (ν := ν1) hZ85 (show ((0 : Nat) : Int) = 0 from rfl) (show ((0 : Nat) : Int) = 0 from rfl) (i3I (y := (213 + 20 * a1)) (i3A (i3A (show (200 : Int32) = i3 200 from rfl) (i3M (show (20 : Int32) = i3 20 from rfl) (rfl : i3 a1 = i3 a1))) (show (13 : Int32) = i3 13 from rfl)) (by omega) (by omega) (by omega)) (rfl : i3 v45 = i3 v45))
                            subst e9
                            have r86 := zM_k hZ85I 2 0 0 3810 (lo := 0) (hi := 99999) (by decide) rfl
                            have r87 := z_mul (x := (Z85 2 0 0 3810)) (y := a2) (a := 99999) (b := 20) (by omega) (by omega) (by omega) (by omega)
                            obtain ⟨Z88, hZ88, c9, hZ88I, kZ88, jZ88⟩ := sp_403 (ν := ν1) hZ85I (a1 := 0) (by omega) (a2 := 6) (by omega) (a3 := ((Z85 2 0 0 3810) * a2)) (by omega) (a4 := a1) (by omega) (zbh (c := 0) (k := 1) hM (Nat.le_of_ble_eq_true rfl))
                            have hZ88U : zU [] Z Z88 := zU_t hZ85U jZ88 zU_b0
                            have hZ88K : zC [1, 2, 101, 102, 200] Z Z88 := zC_t hZ85K kZ88 (by decide)
                            replace hP := zl_e hP hZ88
                            refine wz_cV_of (zas (zcons rfl (zcons (zvi (show (0 : Int32) = i3 0 from rfl)) (zcons (zvi (show (6 : Int32) = i3 6 from rfl)) (zcons (zvi (i3M (zm_rd (Z := Z85) (ν := ν1) (k := 2) (show ((0 : Nat) : Int) = 0 from rfl) (show ((0 : Nat) : Int) = 0 from rfl) (show ((3810 : Nat) : Int) = 3810 from rfl)) (rfl : i3 a2 = i3 a2))) (zcons (zvi (rfl : i3 a1 = i3 a1)) rfl))))) c9) ?_
                            clear c9
                            refine wz_i0 (i3O (n := 4400) (i3A (i3A (show (200 : Int32) = i3 200 from rfl) (i3M (show (20 : Int32) = i3 20 from rfl) (rfl : i3 a1 = i3 a1))) (show (9 : Int32) = i3 9 from rfl)) (by omega) (by omega) (by omega)) ?_
                            have r89 := zM_k hZ88I 2 0 0 (209 + 20 * a1) (lo := -1) (hi := 3) (by decide) (zs_200_9 (x := a1) (by omega) (by omega) (by omega))
                            exact zlY hP (zm_rd (Z := Z88) (ν := ν1) (k := 2) (show ((0 : Nat) : Int) = 0 from rfl) (show ((0 : Nat) : Int) = 0 from rfl) (i3I (y := (209 + 20 * a1)) (i3A (i3A (show (200 : Int32) = i3 200 from rfl) (i3M (show (20 : Int32) = i3 20 from rfl) (rfl : i3 a1 = i3 a1))) (show (9 : Int32) = i3 9 from rfl)) (by omega) (by omega) (by omega))) (.inr rfl) ⟨hZ88I, hZ88K, hZ88U⟩
                          · replace hP := zE_n hP h80
                            refine wz_i0 (i3O (n := 4400) (i3A (i3A (show (200 : Int32) = i3 200 from rfl) (i3M (show (20 : Int32) = i3 20 from rfl) (rfl : i3 a1 = i3 a1))) (show (9 : Int32) = i3 9 from rfl)) (by omega) (by omega) (by omega)) ?_
                            obtain ⟨Z90, hZ90⟩ := zx (zu Z44 2 0 0 (209 + 20 * a1) v79)
                            replace hP := zl_e hP hZ90
                            have hZ90I := zM_u2 hZ44I hZ90 (lo := -1) (hi := 3) (zs_200_9 (x := a1) (by omega) (by omega) (by omega)) (by omega) ⟨by decide, by decide⟩ (by simp only [zsp]; omega)
                            have hZ90U : zU [] Z Z90 := zU_u hZ44U hZ90 (Or.inl rfl)
                            have hZ90K : zC [1, 2, 101, 102, 200] Z Z90 := zC_u hZ44K hZ90 (zcl_2w (by omega) rfl)
                            intro μ9 e9
                            replace e9 := e9.trans (zm_wI (Z := Z44) (ν := ν1) hZ90 (show ((0 : Nat) : Int) = 0 from rfl) (show ((0 : Nat) : Int) = 0 from rfl) (i3I (y := (209 + 20 * a1)) (i3A (i3A (show (200 : Int32) = i3 200 from rfl) (i3M (show (20 : Int32) = i3 20 from rfl) (rfl : i3 a1 = i3 a1))) (show (9 : Int32) = i3 9 from rfl)) (by omega) (by omega) (by omega)) (rfl : i3 v79 = i3 v79))
                            subst e9
                            refine wz_i0 (i3O (n := 4400) (i3A (i3A (show (200 : Int32) = i3 200 from rfl) (i3M (show (20 : Int32) = i3 20 from rfl) (rfl : i3 a1 = i3 a1))) (show (12 : Int32) = i3 12 from rfl)) (by omega) (by omega) (by omega)) ?_
                            refine wz_i0 (i3O (n := 4400) (i3A (i3A (show (200 : Int32) = i3 200 from rfl) (i3M (show (20 : Int32) = i3 20 from rfl) (rfl : i3 a1 = i3 a1))) (show (12 : Int32) = i3 12 from rfl)) (by omega) (by omega) (by omega)) ?_
                            have r91 := zM_f hZ90I 2 0 0 (212 + 20 * a1)
                            have r92 := w3_r ((Z90 2 0 0 (212 + 20 * a1)) + 1)
                            obtain ⟨Z93, hZ93⟩ := zx (zu Z90 2 0 0 (212 + 20 * a1) (w3 ((Z90 2 0 0 (212 + 20 * a1)) + 1)))
                            replace hP := zl_e hP hZ93
                            have hZ93I := zM_u2 hZ90I hZ93 (lo := -2147483648) (hi := 2147483647) (zs_200_12 (x := a1) (by omega) (by omega) (by omega)) (by omega) ⟨by decide, by decide⟩ (by simp only [zsp]; omega)
                            have hZ93U : zU [] Z Z93 := zU_u hZ90U hZ93 (Or.inl rfl)
                            have hZ93K : zC [1, 2, 101, 102, 200] Z Z93 := zC_u hZ90K hZ93 (zcl_2w (by omega) rfl)
                            intro μ9 e9
                            replace e9 := e9.trans (zm_wI (Z := Z90) (ν := ν1) hZ93 (show ((0 : Nat) : Int) = 0 from rfl) (show ((0 : Nat) : Int) = 0 from rfl) (i3I (y := (212 + 20 * a1)) (i3A (i3A (show (200 : Int32) = i3 200 from rfl) (i3M (show (20 : Int32) = i3 20 from rfl) (rfl : i3 a1 = i3 a1))) (show (12 : Int32) = i3 12 from rfl)) (by omega) (by omega) (by omega)) (i3W (i3A (zm_rd (Z := Z90) (ν := ν1) (k := 2) (show ((0 : Nat) : Int) = 0 from rfl) (show ((0 : Nat) : Int) = 0 from rfl) (i3I (y := (212 + 20 * a1)) (i3A (i3A (show (200 : Int32) = i3 200 from rfl) (i3M (show (20 : Int32) = i3 20 from rfl) (rfl : i3 a1 = i3 a1))) (show (12 : Int32) = i3 12 from rfl)) (by omega) (by omega) (by omega))) (show (1 : Int32) = i3 1 from rfl))))
                            subst e9
                            refine wz_i0 (i3O (n := 4400) (i3A (i3A (show (200 : Int32) = i3 200 from rfl) (i3M (show (20 : Int32) = i3 20 from rfl) (rfl : i3 a1 = i3 a1))) (show (13 : Int32) = i3 13 from rfl)) (by omega) (by omega) (by omega)) ?_
                            obtain ⟨Z94, hZ94⟩ := zx (zu Z93 2 0 0 (213 + 20 * a1) v45)
                            replace hP := zl_e hP hZ94
                            have hZ94I := zM_u2 hZ93I hZ94 (lo := -1) (hi := 20) (zs_200_13 (x := a1) (by omega) (by omega) (by omega)) (by omega) ⟨by decide, by decide⟩ (by simp only [zsp]; omega)
                            have hZ94U : zU [] Z Z94 := zU_u hZ93U hZ94 (Or.inl rfl)
                            have hZ94K : zC [1, 2, 101, 102, 200] Z Z94 := zC_u hZ93K hZ94 (zcl_2w (by omega) rfl)
                            intro μ9 e9
                            replace e9 := e9.trans (zm_wI (Z := Z93) (ν := ν1) hZ94 (show ((0 : Nat) : Int) = 0 from rfl) (show ((0 : Nat) : Int) = 0 from rfl) (i3I (y := (213 + 20 * a1)) (i3A (i3A (show (200 : Int32) = i3 200 from rfl) (i3M (show (20 : Int32) = i3 20 from rfl) (rfl : i3 a1 = i3 a1))) (show (13 : Int32) = i3 13 from rfl)) (by omega) (by omega) (by omega)) (rfl : i3 v45 = i3 v45))
                            subst e9
                            have r95 := zM_k hZ94I 2 0 0 3810 (lo := 0) (hi := 99999) (by decide) rfl
                            have r96 := z_mul (x := (Z94 2 0 0 3810)) (y := a2) (a := 99999) (b := 20) (by omega) (by omega) (by omega) (by omega)
                            obtain ⟨Z97, hZ97, c9, hZ97I, kZ97, jZ97⟩ := sp_403 (ν := ν1) hZ94I (a1 := 0) (by omega) (a2 := 6) (by omega) (a3 := ((Z94 2 0 0 3810) * a2)) (by omega) (a4 := a1) (by omega) (zbh (c := 0) (k := 1) hM (Nat.le_of_ble_eq_true rfl))
                            have hZ97U : zU [] Z Z97 := zU_t hZ94U jZ97 zU_b0
                            have hZ97K : zC [1, 2, 101, 102, 200] Z Z97 := zC_t hZ94K kZ97 (by decide)
                            replace hP := zl_e hP hZ97
                            refine wz_cV_of (zas (zcons rfl (zcons (zvi (show (0 : Int32) = i3 0 from rfl)) (zcons (zvi (show (6 : Int32) = i3 6 from rfl)) (zcons (zvi (i3M (zm_rd (Z := Z94) (ν := ν1) (k := 2) (show ((0 : Nat) : Int) = 0 from rfl) (show ((0 : Nat) : Int) = 0 from rfl) (show ((3810 : Nat) : Int) = 3810 from rfl)) (rfl : i3 a2 = i3 a2))) (zcons (zvi (rfl : i3 a1 = i3 a1)) rfl))))) c9) ?_
                            clear c9
                            refine wz_i0 (i3O (n := 4400) (i3A (i3A (show (200 : Int32) = i3 200 from rfl) (i3M (show (20 : Int32) = i3 20 from rfl) (rfl : i3 a1 = i3 a1))) (show (9 : Int32) = i3 9 from rfl)) (by omega) (by omega) (by omega)) ?_
                            have r98 := zM_k hZ97I 2 0 0 (209 + 20 * a1) (lo := -1) (hi := 3) (by decide) (zs_200_9 (x := a1) (by omega) (by omega) (by omega))
                            exact zlY hP (zm_rd (Z := Z97) (ν := ν1) (k := 2) (show ((0 : Nat) : Int) = 0 from rfl) (show ((0 : Nat) : Int) = 0 from rfl) (i3I (y := (209 + 20 * a1)) (i3A (i3A (show (200 : Int32) = i3 200 from rfl) (i3M (show (20 : Int32) = i3 20 from rfl) (rfl : i3 a1 = i3 a1))) (show (9 : Int32) = i3 9 from rfl)) (by omega) (by omega) (by omega))) (.inr rfl) ⟨hZ97I, hZ97K, hZ97U⟩
                      · replace hP := zE_n hP h46
                        obtain ⟨v99, hv99, c9, lv99, uv99⟩ := sp_326 (ν := ν1) hZ44I (a1 := a1) (by omega) (zbh (c := 0) (k := 0) hM (Nat.le_of_ble_eq_true rfl))
                        replace hP := zl_e hP hv99
                        refine wz_cI_of (zas (zcons rfl (zcons (zvi (rfl : i3 a1 = i3 a1)) rfl)) c9) ?_
                        clear c9
                        refine wz_br (i3Le (rfl : i3 v99 = i3 v99) (show (0 : Int32) = i3 0 from rfl) (by omega) (by omega) (by omega) (by omega)) (fun h100 => ?_) (fun h100 => ?_)
                        · replace hP := zE_p hP h100
                          refine wz_i0 (i3O (n := 4400) (i3A (i3A (show (200 : Int32) = i3 200 from rfl) (i3M (show (20 : Int32) = i3 20 from rfl) (rfl : i3 a1 = i3 a1))) (show (9 : Int32) = i3 9 from rfl)) (by omega) (by omega) (by omega)) ?_
                          obtain ⟨Z101, hZ101⟩ := zx (zu Z44 2 0 0 (209 + 20 * a1) 0)
                          replace hP := zl_e hP hZ101
                          have hZ101I := zM_02 hZ44I hZ101 (by simp only [zsp]; omega)
                          have hZ101U : zU [] Z Z101 := zU_u hZ44U hZ101 (Or.inl rfl)
                          have hZ101K : zC [1, 2, 101, 102, 200] Z Z101 := zC_u hZ44K hZ101 (zcl_2w (by omega) rfl)
                          intro μ9 e9
                          replace e9 := e9.trans (zm_wI (Z := Z44) (ν := ν1) hZ101 (show ((0 : Nat) : Int) = 0 from rfl) (show ((0 : Nat) : Int) = 0 from rfl) (i3I (y := (209 + 20 * a1)) (i3A (i3A (show (200 : Int32) = i3 200 from rfl) (i3M (show (20 : Int32) = i3 20 from rfl) (rfl : i3 a1 = i3 a1))) (show (9 : Int32) = i3 9 from rfl)) (by omega) (by omega) (by omega)) (show (0 : Int32) = i3 0 from rfl))
                          subst e9
                          refine wz_i0 (i3O (n := 4400) (i3A (i3A (show (200 : Int32) = i3 200 from rfl) (i3M (show (20 : Int32) = i3 20 from rfl) (rfl : i3 a1 = i3 a1))) (show (12 : Int32) = i3 12 from rfl)) (by omega) (by omega) (by omega)) ?_
                          refine wz_i0 (i3O (n := 4400) (i3A (i3A (show (200 : Int32) = i3 200 from rfl) (i3M (show (20 : Int32) = i3 20 from rfl) (rfl : i3 a1 = i3 a1))) (show (12 : Int32) = i3 12 from rfl)) (by omega) (by omega) (by omega)) ?_
                          have r102 := zM_f hZ101I 2 0 0 (212 + 20 * a1)
                          have r103 := w3_r ((Z101 2 0 0 (212 + 20 * a1)) + 1)
                          obtain ⟨Z104, hZ104⟩ := zx (zu Z101 2 0 0 (212 + 20 * a1) (w3 ((Z101 2 0 0 (212 + 20 * a1)) + 1)))
                          replace hP := zl_e hP hZ104
                          have hZ104I := zM_u2 hZ101I hZ104 (lo := -2147483648) (hi := 2147483647) (zs_200_12 (x := a1) (by omega) (by omega) (by omega)) (by omega) ⟨by decide, by decide⟩ (by simp only [zsp]; omega)
                          have hZ104U : zU [] Z Z104 := zU_u hZ101U hZ104 (Or.inl rfl)
                          have hZ104K : zC [1, 2, 101, 102, 200] Z Z104 := zC_u hZ101K hZ104 (zcl_2w (by omega) rfl)
                          intro μ9 e9
                          replace e9 := e9.trans (zm_wI (Z := Z101) (ν := ν1) hZ104 (show ((0 : Nat) : Int) = 0 from rfl) (show ((0 : Nat) : Int) = 0 from rfl) (i3I (y := (212 + 20 * a1)) (i3A (i3A (show (200 : Int32) = i3 200 from rfl) (i3M (show (20 : Int32) = i3 20 from rfl) (rfl : i3 a1 = i3 a1))) (show (12 : Int32) = i3 12 from rfl)) (by omega) (by omega) (by omega)) (i3W (i3A (zm_rd (Z := Z101) (ν := ν1) (k := 2) (show ((0 : Nat) : Int) = 0 from rfl) (show ((0 : Nat) : Int) = 0 from rfl) (i3I (y := (212 + 20 * a1)) (i3A (i3A (show (200 : Int32) = i3 200 from rfl) (i3M (show (20 : Int32) = i3 20 from rfl) (rfl : i3 a1 = i3 a1))) (show (12 : Int32) = i3 12 from rfl)) (by omega) (by omega) (by omega))) (show (1 : Int32) = i3 1 from rfl))))
                          subst e9
                          refine wz_i0 (i3O (n := 4400) (i3A (i3A (show (200 : Int32) = i3 200 from rfl) (i3M (show (20 : Int32) = i3 20 from rfl) (rfl : i3 a1 = i3 a1))) (show (13 : Int32) = i3 13 from rfl)) (by omega) (by omega) (by omega)) ?_
                          obtain ⟨Z105, hZ105⟩ := zx (zu Z104 2 0 0 (213 + 20 * a1) v45)
                          replace hP := zl_e hP hZ105
                          have hZ105I := zM_u2 hZ104I hZ105 (lo := -1) (hi := 20) (zs_200_13 (x := a1) (by omega) (by omega) (by omega)) (by omega) ⟨by decide, by decide⟩ (by simp only [zsp]; omega)
                          have hZ105U : zU [] Z Z105 := zU_u hZ104U hZ105 (Or.inl rfl)
                          have hZ105K : zC [1, 2, 101, 102, 200] Z Z105 := zC_u hZ104K hZ105 (zcl_2w (by omega) rfl)
                          intro μ9 e9
                          replace e9 := e9.trans (zm_wI (Z := Z104) (ν := ν1) hZ105 (show ((0 : Nat) : Int) = 0 from rfl) (show ((0 : Nat) : Int) = 0 from rfl) (i3I (y := (213 + 20 * a1)) (i3A (i3A (show (200 : Int32) = i3 200 from rfl) (i3M (show (20 : Int32) = i3 20 from rfl) (rfl : i3 a1 = i3 a1))) (show (13 : Int32) = i3 13 from rfl)) (by omega) (by omega) (by omega)) (rfl : i3 v45 = i3 v45))
                          subst e9
                          have r106 := zM_k hZ105I 2 0 0 3810 (lo := 0) (hi := 99999) (by decide) rfl
                          have r107 := z_mul (x := (Z105 2 0 0 3810)) (y := a2) (a := 99999) (b := 20) (by omega) (by omega) (by omega) (by omega)
                          obtain ⟨Z108, hZ108, c9, hZ108I, kZ108, jZ108⟩ := sp_403 (ν := ν1) hZ105I (a1 := 0) (by omega) (a2 := 6) (by omega) (a3 := ((Z105 2 0 0 3810) * a2)) (by omega) (a4 := a1) (by omega) (zbh (c := 0) (k := 1) hM (Nat.le_of_ble_eq_true rfl))
                          have hZ108U : zU [] Z Z108 := zU_t hZ105U jZ108 zU_b0
                          have hZ108K : zC [1, 2, 101, 102, 200] Z Z108 := zC_t hZ105K kZ108 (by decide)
                          replace hP := zl_e hP hZ108
                          refine wz_cV_of (zas (zcons rfl (zcons (zvi (show (0 : Int32) = i3 0 from rfl)) (zcons (zvi (show (6 : Int32) = i3 6 from rfl)) (zcons (zvi (i3M (zm_rd (Z := Z105) (ν := ν1) (k := 2) (show ((0 : Nat) : Int) = 0 from rfl) (show ((0 : Nat) : Int) = 0 from rfl) (show ((3810 : Nat) : Int) = 3810 from rfl)) (rfl : i3 a2 = i3 a2))) (zcons (zvi (rfl : i3 a1 = i3 a1)) rfl))))) c9) ?_
                          clear c9
                          refine wz_i0 (i3O (n := 4400) (i3A (i3A (show (200 : Int32) = i3 200 from rfl) (i3M (show (20 : Int32) = i3 20 from rfl) (rfl : i3 a1 = i3 a1))) (show (9 : Int32) = i3 9 from rfl)) (by omega) (by omega) (by omega)) ?_
                          have r109 := zM_k hZ108I 2 0 0 (209 + 20 * a1) (lo := -1) (hi := 3) (by decide) (zs_200_9 (x := a1) (by omega) (by omega) (by omega))
                          exact zlY hP (zm_rd (Z := Z108) (ν := ν1) (k := 2) (show ((0 : Nat) : Int) = 0 from rfl) (show ((0 : Nat) : Int) = 0 from rfl) (i3I (y := (209 + 20 * a1)) (i3A (i3A (show (200 : Int32) = i3 200 from rfl) (i3M (show (20 : Int32) = i3 20 from rfl) (rfl : i3 a1 = i3 a1))) (show (9 : Int32) = i3 9 from rfl)) (by omega) (by omega) (by omega))) (.inr rfl) ⟨hZ108I, hZ108K, hZ108U⟩
                        · replace hP := zE_n hP h100
                          refine wz_i0 (i3O (n := 4400) (i3A (i3A (show (200 : Int32) = i3 200 from rfl) (i3M (show (20 : Int32) = i3 20 from rfl) (rfl : i3 a1 = i3 a1))) (show (9 : Int32) = i3 9 from rfl)) (by omega) (by omega) (by omega)) ?_
                          obtain ⟨Z110, hZ110⟩ := zx (zu Z44 2 0 0 (209 + 20 * a1) v99)
                          replace hP := zl_e hP hZ110
                          have hZ110I := zM_u2 hZ44I hZ110 (lo := -1) (hi := 3) (zs_200_9 (x := a1) (by omega) (by omega) (by omega)) (by omega) ⟨by decide, by decide⟩ (by simp only [zsp]; omega)
                          have hZ110U : zU [] Z Z110 := zU_u hZ44U hZ110 (Or.inl rfl)
                          have hZ110K : zC [1, 2, 101, 102, 200] Z Z110 := zC_u hZ44K hZ110 (zcl_2w (by omega) rfl)
                          intro μ9 e9
                          replace e9 := e9.trans (zm_wI (Z := Z44) (ν := ν1) hZ110 (show ((0 : Nat) : Int) = 0 from rfl) (show ((0 : Nat) : Int) = 0 from rfl) (i3I (y := (209 + 20 * a1)) (i3A (i3A (show (200 : Int32) = i3 200 from rfl) (i3M (show (20 : Int32) = i3 20 from rfl) (rfl : i3 a1 = i3 a1))) (show (9 : Int32) = i3 9 from rfl)) (by omega) (by omega) (by omega)) (rfl : i3 v99 = i3 v99))
                          subst e9
                          refine wz_i0 (i3O (n := 4400) (i3A (i3A (show (200 : Int32) = i3 200 from rfl) (i3M (show (20 : Int32) = i3 20 from rfl) (rfl : i3 a1 = i3 a1))) (show (12 : Int32) = i3 12 from rfl)) (by omega) (by omega) (by omega)) ?_
                          refine wz_i0 (i3O (n := 4400) (i3A (i3A (show (200 : Int32) = i3 200 from rfl) (i3M (show (20 : Int32) = i3 20 from rfl) (rfl : i3 a1 = i3 a1))) (show (12 : Int32) = i3 12 from rfl)) (by omega) (by omega) (by omega)) ?_
                          have r111 := zM_f hZ110I 2 0 0 (212 + 20 * a1)
                          have r112 := w3_r ((Z110 2 0 0 (212 + 20 * a1)) + 1)
                          obtain ⟨Z113, hZ113⟩ := zx (zu Z110 2 0 0 (212 + 20 * a1) (w3 ((Z110 2 0 0 (212 + 20 * a1)) + 1)))
                          replace hP := zl_e hP hZ113
                          have hZ113I := zM_u2 hZ110I hZ113 (lo := -2147483648) (hi := 2147483647) (zs_200_12 (x := a1) (by omega) (by omega) (by omega)) (by omega) ⟨by decide, by decide⟩ (by simp only [zsp]; omega)
                          have hZ113U : zU [] Z Z113 := zU_u hZ110U hZ113 (Or.inl rfl)
                          have hZ113K : zC [1, 2, 101, 102, 200] Z Z113 := zC_u hZ110K hZ113 (zcl_2w (by omega) rfl)
                          intro μ9 e9
                          replace e9 := e9.trans (zm_wI (Z := Z110) (ν := ν1) hZ113 (show ((0 : Nat) : Int) = 0 from rfl) (show ((0 : Nat) : Int) = 0 from rfl) (i3I (y := (212 + 20 * a1)) (i3A (i3A (show (200 : Int32) = i3 200 from rfl) (i3M (show (20 : Int32) = i3 20 from rfl) (rfl : i3 a1 = i3 a1))) (show (12 : Int32) = i3 12 from rfl)) (by omega) (by omega) (by omega)) (i3W (i3A (zm_rd (Z := Z110) (ν := ν1) (k := 2) (show ((0 : Nat) : Int) = 0 from rfl) (show ((0 : Nat) : Int) = 0 from rfl) (i3I (y := (212 + 20 * a1)) (i3A (i3A (show (200 : Int32) = i3 200 from rfl) (i3M (show (20 : Int32) = i3 20 from rfl) (rfl : i3 a1 = i3 a1))) (show (12 : Int32) = i3 12 from rfl)) (by omega) (by omega) (by omega))) (show (1 : Int32) = i3 1 from rfl))))
                          subst e9
                          refine wz_i0 (i3O (n := 4400) (i3A (i3A (show (200 : Int32) = i3 200 from rfl) (i3M (show (20 : Int32) = i3 20 from rfl) (rfl : i3 a1 = i3 a1))) (show (13 : Int32) = i3 13 from rfl)) (by omega) (by omega) (by omega)) ?_
                          obtain ⟨Z114, hZ114⟩ := zx (zu Z113 2 0 0 (213 + 20 * a1) v45)
                          replace hP := zl_e hP hZ114
                          have hZ114I := zM_u2 hZ113I hZ114 (lo := -1) (hi := 20) (zs_200_13 (x := a1) (by omega) (by omega) (by omega)) (by omega) ⟨by decide, by decide⟩ (by simp only [zsp]; omega)
                          have hZ114U : zU [] Z Z114 := zU_u hZ113U hZ114 (Or.inl rfl)
                          have hZ114K : zC [1, 2, 101, 102, 200] Z Z114 := zC_u hZ113K hZ114 (zcl_2w (by omega) rfl)
                          intro μ9 e9
                          replace e9 := e9.trans (zm_wI (Z := Z113) (ν := ν1) hZ114 (show ((0 : Nat) : Int) = 0 from rfl) (show ((0 : Nat) : Int) = 0 from rfl) (i3I (y := (213 + 20 * a1)) (i3A (i3A (show (200 : Int32) = i3 200 from rfl) (i3M (show (20 : Int32) = i3 20 from rfl) (rfl : i3 a1 = i3 a1))) (show (13 : Int32) = i3 13 from rfl)) (by omega) (by omega) (by omega)) (rfl : i3 v45 = i3 v45))
                          subst e9
                          have r115 := zM_k hZ114I 2 0 0 3810 (lo := 0) (hi := 99999) (by decide) rfl
                          have r116 := z_mul (x := (Z114 2 0 0 3810)) (y := a2) (a := 99999) (b := 20) (by omega) (by omega) (by omega) (by omega)
                          obtain ⟨Z117, hZ117, c9, hZ117I, kZ117, jZ117⟩ := sp_403 (ν := ν1) hZ114I (a1 := 0) (by omega) (a2 := 6) (by omega) (a3 := ((Z114 2 0 0 3810) * a2)) (by omega) (a4 := a1) (by omega) (zbh (c := 0) (k := 1) hM (Nat.le_of_ble_eq_true rfl))
                          have hZ117U : zU [] Z Z117 := zU_t hZ114U jZ117 zU_b0
                          have hZ117K : zC [1, 2, 101, 102, 200] Z Z117 := zC_t hZ114K kZ117 (by decide)
                          replace hP := zl_e hP hZ117
                          refine wz_cV_of (zas (zcons rfl (zcons (zvi (show (0 : Int32) = i3 0 from rfl)) (zcons (zvi (show (6 : Int32) = i3 6 from rfl)) (zcons (zvi (i3M (zm_rd (Z := Z114) (ν := ν1) (k := 2) (show ((0 : Nat) : Int) = 0 from rfl) (show ((0 : Nat) : Int) = 0 from rfl) (show ((3810 : Nat) : Int) = 3810 from rfl)) (rfl : i3 a2 = i3 a2))) (zcons (zvi (rfl : i3 a1 = i3 a1)) rfl))))) c9) ?_
                          clear c9
                          refine wz_i0 (i3O (n := 4400) (i3A (i3A (show (200 : Int32) = i3 200 from rfl) (i3M (show (20 : Int32) = i3 20 from rfl) (rfl : i3 a1 = i3 a1))) (show (9 : Int32) = i3 9 from rfl)) (by omega) (by omega) (by omega)) ?_
                          have r118 := zM_k hZ117I 2 0 0 (209 + 20 * a1) (lo := -1) (hi := 3) (by decide) (zs_200_9 (x := a1) (by omega) (by omega) (by omega))
                          exact zlY hP (zm_rd (Z := Z117) (ν := ν1) (k := 2) (show ((0 : Nat) : Int) = 0 from rfl) (show ((0 : Nat) : Int) = 0 from rfl) (i3I (y := (209 + 20 * a1)) (i3A (i3A (show (200 : Int32) = i3 200 from rfl) (i3M (show (20 : Int32) = i3 20 from rfl) (rfl : i3 a1 = i3 a1))) (show (9 : Int32) = i3 9 from rfl)) (by omega) (by omega) (by omega))) (.inr rfl) ⟨hZ117I, hZ117K, hZ117U⟩

theorem sq_345 {s : zSM} {Z : qz_Z} {ν : qz_N} (hZ : zM s Z) (gq : Z 1 0 0 35 = 1) (hM : s.2 + 1 ≤ 1000000000) {a1 : Int} (ga1 : -2147483648 ≤ a1 ∧ a1 ≤ 2147483647) {a2 : Int} (ga2 : -2147483648 ≤ a2 ∧ a2 ≤ 2147483647) {a3 : Int} (ga3 : -2147483648 ≤ a3 ∧ a3 ≤ 2147483647) {a4 : Int} (ga4 : -2147483648 ≤ a4 ∧ a4 ≤ 2147483647) {ν1 : qz_N} : ∃ (Z1 : qz_Z) (ν2 : qz_N) (v : Int), (Z1, v) = zy_345 Z zq0 a1 a2 a3 a4 ∧ (ν2 = ν ∨ ν2 = ν1) ∧ qf_345 [.inr (.inr (some (1, 0, 0))), .inl (i3 a1), .inl (i3 a2), .inl (i3 a3), .inl (i3 a4)] (zm Z ν) = some (zm Z1 ν2, .inl (some (.inl (i3 v)))) ∧ (fun Z1 => zM (zb s 1) Z1 ∧ zC [1, 2] Z Z1 ∧ zU [] Z Z1) Z1 := by
  obtain ⟨P, hP⟩ := zx (zy_345 Z zq0 a1 a2 a3 a4)
  refine zc_Y (Q := fun Z1 => zM (zb s 1) Z1 ∧ zC [1, 2] Z Z1 ∧ zU [] Z Z1) hP (fw_345 (i3 a1) (i3 a2) (i3 a3) (i3 a4) _ _ ?_)
  replace hP : zE P (zy_345 Z zq0 a1 a2 a3 a4) := hP
  unfold zy_345 at hP
  have r1 := zM_k hZ 1 0 0 35 (lo := 0) (hi := 1) (by decide) rfl
  have r2 := zM_k hZ 1 0 0 34 (lo := 0) (hi := 8) (by decide) rfl
  have r3 := zM_f hZ 1 0 0 37
  refine wz_br (i3L (rfl : i3 a1 = i3 a1) (show (0 : Int32) = i3 0 from rfl) (by omega) (by omega) (by omega) (by omega)) (fun h4 => ?_) (fun h4 => ?_)
  · replace hP := zE_p hP h4
    obtain ⟨Z5, hZ5⟩ := zx (zu Z 1 0 0 2 1)
    replace hP := zl_e hP hZ5
    have hZ5I := zM_u hZ hZ5 (lo := -2147483648) (hi := 2147483647) (by decide) rfl (by omega) ⟨by decide, by decide⟩ (Or.inr (by decide)) rfl
    have hZ5U : zU [] Z Z5 := zU_u zU_r hZ5 (Or.inl rfl)
    have hZ5K : zC [1, 2] Z Z5 := zC_u zC_r hZ5 (by decide)
    intro μ9 e9
    replace e9 := e9.trans (zm_wI (Z := Z) (ν := ν) hZ5 (show ((0 : Nat) : Int) = 0 from rfl) (show ((0 : Nat) : Int) = 0 from rfl) (show ((2 : Nat) : Int) = 2 from rfl) (show (1 : Int32) = i3 1 from rfl))
    subst e9
    exact zlY hP (show (0 : Int32) = i3 0 from rfl) (.inl rfl) ⟨(zmw (a := 0) (c := 1) hZ5I (Nat.le_of_ble_eq_true rfl)), hZ5K, hZ5U⟩
  · replace hP := zE_n hP h4
    have r6 := zM_k hZ 2 0 0 102 (lo := 0) (hi := 48) (by decide) rfl
    refine wz_br (i3L (i3S (zm_rd (Z := Z) (ν := ν) (k := 2) (show ((0 : Nat) : Int) = 0 from rfl) (show ((0 : Nat) : Int) = 0 from rfl) (show ((102 : Nat) : Int) = 102 from rfl)) (show (1 : Int32) = i3 1 from rfl)) (rfl : i3 a1 = i3 a1) (by omega) (by omega) (by omega) (by omega)) (fun h7 => ?_) (fun h7 => ?_)
    · replace hP := zE_p hP h7
      obtain ⟨Z8, hZ8⟩ := zx (zu Z 1 0 0 2 1)
      replace hP := zl_e hP hZ8
      have hZ8I := zM_u hZ hZ8 (lo := -2147483648) (hi := 2147483647) (by decide) rfl (by omega) ⟨by decide, by decide⟩ (Or.inr (by decide)) rfl
      have hZ8U : zU [] Z Z8 := zU_u zU_r hZ8 (Or.inl rfl)
      have hZ8K : zC [1, 2] Z Z8 := zC_u zC_r hZ8 (by decide)
      intro μ9 e9
      replace e9 := e9.trans (zm_wI (Z := Z) (ν := ν) hZ8 (show ((0 : Nat) : Int) = 0 from rfl) (show ((0 : Nat) : Int) = 0 from rfl) (show ((2 : Nat) : Int) = 2 from rfl) (show (1 : Int32) = i3 1 from rfl))
      subst e9
      exact zlY hP (show (0 : Int32) = i3 0 from rfl) (.inl rfl) ⟨(zmw (a := 0) (c := 1) hZ8I (Nat.le_of_ble_eq_true rfl)), hZ8K, hZ8U⟩
    · replace hP := zE_n hP h7
      obtain ⟨Z9, hZ9⟩ := zx (zu Z 1 0 0 2 0)
      replace hP := zl_e hP hZ9
      have hZ9I := zM_0 hZ hZ9 (by decide) (Or.inr (by decide))
      have hZ9U : zU [] Z Z9 := zU_u zU_r hZ9 (Or.inl rfl)
      have hZ9K : zC [1, 2] Z Z9 := zC_u zC_r hZ9 (by decide)
      intro μ9 e9
      replace e9 := e9.trans (zm_wI (Z := Z) (ν := ν) hZ9 (show ((0 : Nat) : Int) = 0 from rfl) (show ((0 : Nat) : Int) = 0 from rfl) (show ((2 : Nat) : Int) = 2 from rfl) (show (0 : Int32) = i3 0 from rfl))
      subst e9
      refine wz_br (i3L (rfl : i3 a2 = i3 a2) (show (1 : Int32) = i3 1 from rfl) (by omega) (by omega) (by omega) (by omega)) (fun h10 => ?_) (fun h10 => ?_)
      · replace hP := zE_p hP h10
        obtain ⟨Z11, hZ11⟩ := zx (zu Z9 1 0 0 2 2)
        replace hP := zl_e hP hZ11
        have hZ11I := zM_u hZ9I hZ11 (lo := -2147483648) (hi := 2147483647) (by decide) rfl (by omega) ⟨by decide, by decide⟩ (Or.inr (by decide)) rfl
        have hZ11U : zU [] Z Z11 := zU_u hZ9U hZ11 (Or.inl rfl)
        have hZ11K : zC [1, 2] Z Z11 := zC_u hZ9K hZ11 (by decide)
        intro μ9 e9
        replace e9 := e9.trans (zm_wI (Z := Z9) (ν := ν) hZ11 (show ((0 : Nat) : Int) = 0 from rfl) (show ((0 : Nat) : Int) = 0 from rfl) (show ((2 : Nat) : Int) = 2 from rfl) (show (2 : Int32) = i3 2 from rfl))
        subst e9
        exact zlY hP (show (0 : Int32) = i3 0 from rfl) (.inl rfl) ⟨(zmw (a := 0) (c := 1) hZ11I (Nat.le_of_ble_eq_true rfl)), hZ11K, hZ11U⟩
      · replace hP := zE_n hP h10
        refine wz_br (i3L (show (20 : Int32) = i3 20 from rfl) (rfl : i3 a2 = i3 a2) (by omega) (by omega) (by omega) (by omega)) (fun h12 => ?_) (fun h12 => ?_)
        · replace hP := zE_p hP h12
          obtain ⟨Z13, hZ13⟩ := zx (zu Z9 1 0 0 2 2)
          replace hP := zl_e hP hZ13
          have hZ13I := zM_u hZ9I hZ13 (lo := -2147483648) (hi := 2147483647) (by decide) rfl (by omega) ⟨by decide, by decide⟩ (Or.inr (by decide)) rfl
          have hZ13U : zU [] Z Z13 := zU_u hZ9U hZ13 (Or.inl rfl)
          have hZ13K : zC [1, 2] Z Z13 := zC_u hZ9K hZ13 (by decide)
          intro μ9 e9
          replace e9 := e9.trans (zm_wI (Z := Z9) (ν := ν) hZ13 (show ((0 : Nat) : Int) = 0 from rfl) (show ((0 : Nat) : Int) = 0 from rfl) (show ((2 : Nat) : Int) = 2 from rfl) (show (2 : Int32) = i3 2 from rfl))
          subst e9
          exact zlY hP (show (0 : Int32) = i3 0 from rfl) (.inl rfl) ⟨(zmw (a := 0) (c := 1) hZ13I (Nat.le_of_ble_eq_true rfl)), hZ13K, hZ13U⟩
        · replace hP := zE_n hP h12
          refine wz_br (i3L (rfl : i3 a3 = i3 a3) (show (0 : Int32) = i3 0 from rfl) (by omega) (by omega) (by omega) (by omega)) (fun h14 => ?_) (fun h14 => ?_)
          · replace hP := zE_p hP h14
            obtain ⟨Z15, hZ15⟩ := zx (zu Z9 1 0 0 2 2)
            replace hP := zl_e hP hZ15
            have hZ15I := zM_u hZ9I hZ15 (lo := -2147483648) (hi := 2147483647) (by decide) rfl (by omega) ⟨by decide, by decide⟩ (Or.inr (by decide)) rfl
            have hZ15U : zU [] Z Z15 := zU_u hZ9U hZ15 (Or.inl rfl)
            have hZ15K : zC [1, 2] Z Z15 := zC_u hZ9K hZ15 (by decide)
            intro μ9 e9
            replace e9 := e9.trans (zm_wI (Z := Z9) (ν := ν) hZ15 (show ((0 : Nat) : Int) = 0 from rfl) (show ((0 : Nat) : Int) = 0 from rfl) (show ((2 : Nat) : Int) = 2 from rfl) (show (2 : Int32) = i3 2 from rfl))
            subst e9
            exact zlY hP (show (0 : Int32) = i3 0 from rfl) (.inl rfl) ⟨(zmw (a := 0) (c := 1) hZ15I (Nat.le_of_ble_eq_true rfl)), hZ15K, hZ15U⟩
          · replace hP := zE_n hP h14
            refine wz_br (i3L (show (9 : Int32) = i3 9 from rfl) (rfl : i3 a3 = i3 a3) (by omega) (by omega) (by omega) (by omega)) (fun h16 => ?_) (fun h16 => ?_)
            · replace hP := zE_p hP h16
              obtain ⟨Z17, hZ17⟩ := zx (zu Z9 1 0 0 2 2)
              replace hP := zl_e hP hZ17
              have hZ17I := zM_u hZ9I hZ17 (lo := -2147483648) (hi := 2147483647) (by decide) rfl (by omega) ⟨by decide, by decide⟩ (Or.inr (by decide)) rfl
              have hZ17U : zU [] Z Z17 := zU_u hZ9U hZ17 (Or.inl rfl)
              have hZ17K : zC [1, 2] Z Z17 := zC_u hZ9K hZ17 (by decide)
              intro μ9 e9
              replace e9 := e9.trans (zm_wI (Z := Z9) (ν := ν) hZ17 (show ((0 : Nat) : Int) = 0 from rfl) (show ((0 : Nat) : Int) = 0 from rfl) (show ((2 : Nat) : Int) = 2 from rfl) (show (2 : Int32) = i3 2 from rfl))
              subst e9
              exact zlY hP (show (0 : Int32) = i3 0 from rfl) (.inl rfl) ⟨(zmw (a := 0) (c := 1) hZ17I (Nat.le_of_ble_eq_true rfl)), hZ17K, hZ17U⟩
            · replace hP := zE_n hP h16
              refine wz_br (i3L (rfl : i3 a4 = i3 a4) (show (0 : Int32) = i3 0 from rfl) (by omega) (by omega) (by omega) (by omega)) (fun h18 => ?_) (fun h18 => ?_)
              · replace hP := zE_p hP h18
                obtain ⟨Z19, hZ19⟩ := zx (zu Z9 1 0 0 2 2)
                replace hP := zl_e hP hZ19
                have hZ19I := zM_u hZ9I hZ19 (lo := -2147483648) (hi := 2147483647) (by decide) rfl (by omega) ⟨by decide, by decide⟩ (Or.inr (by decide)) rfl
                have hZ19U : zU [] Z Z19 := zU_u hZ9U hZ19 (Or.inl rfl)
                have hZ19K : zC [1, 2] Z Z19 := zC_u hZ9K hZ19 (by decide)
                intro μ9 e9
                replace e9 := e9.trans (zm_wI (Z := Z9) (ν := ν) hZ19 (show ((0 : Nat) : Int) = 0 from rfl) (show ((0 : Nat) : Int) = 0 from rfl) (show ((2 : Nat) : Int) = 2 from rfl) (show (2 : Int32) = i3 2 from rfl))
                subst e9
                exact zlY hP (show (0 : Int32) = i3 0 from rfl) (.inl rfl) ⟨(zmw (a := 0) (c := 1) hZ19I (Nat.le_of_ble_eq_true rfl)), hZ19K, hZ19U⟩
              · replace hP := zE_n hP h18
                refine wz_br (i3L (show (65535 : Int32) = i3 65535 from rfl) (rfl : i3 a4 = i3 a4) (by omega) (by omega) (by omega) (by omega)) (fun h20 => ?_) (fun h20 => ?_)
                · replace hP := zE_p hP h20
                  obtain ⟨Z21, hZ21⟩ := zx (zu Z9 1 0 0 2 2)
                  replace hP := zl_e hP hZ21
                  have hZ21I := zM_u hZ9I hZ21 (lo := -2147483648) (hi := 2147483647) (by decide) rfl (by omega) ⟨by decide, by decide⟩ (Or.inr (by decide)) rfl
                  have hZ21U : zU [] Z Z21 := zU_u hZ9U hZ21 (Or.inl rfl)
                  have hZ21K : zC [1, 2] Z Z21 := zC_u hZ9K hZ21 (by decide)
                  intro μ9 e9
                  replace e9 := e9.trans (zm_wI (Z := Z9) (ν := ν) hZ21 (show ((0 : Nat) : Int) = 0 from rfl) (show ((0 : Nat) : Int) = 0 from rfl) (show ((2 : Nat) : Int) = 2 from rfl) (show (2 : Int32) = i3 2 from rfl))
                  subst e9
                  exact zlY hP (show (0 : Int32) = i3 0 from rfl) (.inl rfl) ⟨(zmw (a := 0) (c := 1) hZ21I (Nat.le_of_ble_eq_true rfl)), hZ21K, hZ21U⟩
                · replace hP := zE_n hP h20
                  obtain ⟨Z22, hZ22⟩ := zx (zu Z9 1 0 0 2 0)
                  replace hP := zl_e hP hZ22
                  have hZ22I := zM_0 hZ9I hZ22 (by decide) (Or.inr (by decide))
                  have hZ22U : zU [] Z Z22 := zU_u hZ9U hZ22 (Or.inl rfl)
                  have hZ22K : zC [1, 2] Z Z22 := zC_u hZ9K hZ22 (by decide)
                  intro μ9 e9
                  replace e9 := e9.trans (zm_wI (Z := Z9) (ν := ν) hZ22 (show ((0 : Nat) : Int) = 0 from rfl) (show ((0 : Nat) : Int) = 0 from rfl) (show ((2 : Nat) : Int) = 2 from rfl) (show (0 : Int32) = i3 0 from rfl))
                  subst e9
                  refine wz_i0 (i3O (n := 4400) (i3A (i3A (show (200 : Int32) = i3 200 from rfl) (i3M (show (20 : Int32) = i3 20 from rfl) (rfl : i3 a1 = i3 a1))) (show (10 : Int32) = i3 10 from rfl)) (by omega) (by omega) (by omega)) ?_
                  have r23 := zM_k hZ22I 2 0 0 (210 + 20 * a1) (lo := 0) (hi := 4) (by decide) (zs_200_10 (x := a1) (by omega) (by omega) (by omega))
                  have r24 := zM_pl hZ22I a1
                  have r25 := zM_k hZ22I 2 0 0 102 (lo := 0) (hi := 48) (by decide) rfl
                  have q26 := (zu_ne (k' := 2) (b' := 0) (i' := 0) (j' := 102) hZ22 (fun q => absurd q.1 (by decide))).trans (zu_ne (k' := 2) (b' := 0) (i' := 0) (j' := 102) hZ9 (fun q => absurd q.1 (by decide)))
                  refine wz_br (i3NE (zm_rd (Z := Z22) (ν := ν) (k := 2) (show ((0 : Nat) : Int) = 0 from rfl) (show ((0 : Nat) : Int) = 0 from rfl) (i3I (y := (210 + 20 * a1)) (i3A (i3A (show (200 : Int32) = i3 200 from rfl) (i3M (show (20 : Int32) = i3 20 from rfl) (rfl : i3 a1 = i3 a1))) (show (10 : Int32) = i3 10 from rfl)) (by omega) (by omega) (by omega))) (show (0 : Int32) = i3 0 from rfl) (by omega) (by omega) (by omega) (by omega)) (fun h27 => ?_) (fun h27 => ?_)
                  · replace hP := zE_p hP h27
                    obtain ⟨Z28, hZ28⟩ := zx (zu Z22 1 0 0 2 3)
                    replace hP := zl_e hP hZ28
                    have hZ28I := zM_u hZ22I hZ28 (lo := -2147483648) (hi := 2147483647) (by decide) rfl (by omega) ⟨by decide, by decide⟩ (Or.inr (by decide)) rfl
                    have hZ28U : zU [] Z Z28 := zU_u hZ22U hZ28 (Or.inl rfl)
                    have hZ28K : zC [1, 2] Z Z28 := zC_u hZ22K hZ28 (by decide)
                    intro μ9 e9
                    replace e9 := e9.trans (zm_wI (Z := Z22) (ν := ν) hZ28 (show ((0 : Nat) : Int) = 0 from rfl) (show ((0 : Nat) : Int) = 0 from rfl) (show ((2 : Nat) : Int) = 2 from rfl) (show (3 : Int32) = i3 3 from rfl))
                    subst e9
                    exact zlY hP (show (0 : Int32) = i3 0 from rfl) (.inl rfl) ⟨(zmw (a := 0) (c := 1) hZ28I (Nat.le_of_ble_eq_true rfl)), hZ28K, hZ28U⟩
                  · replace hP := zE_n hP h27
                    refine wz_i0 (i3O (n := 4400) (i3A (i3A (show (200 : Int32) = i3 200 from rfl) (i3M (show (20 : Int32) = i3 20 from rfl) (rfl : i3 a1 = i3 a1))) (show (4 : Int32) = i3 4 from rfl)) (by omega) (by omega) (by omega)) ?_
                    have r29 := zM_k hZ22I 2 0 0 (204 + 20 * a1) (lo := 0) (hi := 40) (by decide) (zs_200_4 (x := a1) (by omega) (by omega) (by omega))
                    refine wz_br (i3L (zm_rd (Z := Z22) (ν := ν) (k := 2) (show ((0 : Nat) : Int) = 0 from rfl) (show ((0 : Nat) : Int) = 0 from rfl) (i3I (y := (204 + 20 * a1)) (i3A (i3A (show (200 : Int32) = i3 200 from rfl) (i3M (show (20 : Int32) = i3 20 from rfl) (rfl : i3 a1 = i3 a1))) (show (4 : Int32) = i3 4 from rfl)) (by omega) (by omega) (by omega))) (rfl : i3 a2 = i3 a2) (by omega) (by omega) (by omega) (by omega)) (fun h30 => ?_) (fun h30 => ?_)
                    · replace hP := zE_p hP h30
                      obtain ⟨Z31, hZ31⟩ := zx (zu Z22 1 0 0 2 3)
                      replace hP := zl_e hP hZ31
                      have hZ31I := zM_u hZ22I hZ31 (lo := -2147483648) (hi := 2147483647) (by decide) rfl (by omega) ⟨by decide, by decide⟩ (Or.inr (by decide)) rfl
                      have hZ31U : zU [] Z Z31 := zU_u hZ22U hZ31 (Or.inl rfl)
                      have hZ31K : zC [1, 2] Z Z31 := zC_u hZ22K hZ31 (by decide)
                      intro μ9 e9
                      replace e9 := e9.trans (zm_wI (Z := Z22) (ν := ν) hZ31 (show ((0 : Nat) : Int) = 0 from rfl) (show ((0 : Nat) : Int) = 0 from rfl) (show ((2 : Nat) : Int) = 2 from rfl) (show (3 : Int32) = i3 3 from rfl))
                      subst e9
                      exact zlY hP (show (0 : Int32) = i3 0 from rfl) (.inl rfl) ⟨(zmw (a := 0) (c := 1) hZ31I (Nat.le_of_ble_eq_true rfl)), hZ31K, hZ31U⟩
                    · replace hP := zE_n hP h30
                      obtain ⟨Z32, hZ32⟩ := zx (zu Z22 1 0 0 2 0)
                      replace hP := zl_e hP hZ32
                      have hZ32I := zM_0 hZ22I hZ32 (by decide) (Or.inr (by decide))
                      have hZ32U : zU [] Z Z32 := zU_u hZ22U hZ32 (Or.inl rfl)
                      have hZ32K : zC [1, 2] Z Z32 := zC_u hZ22K hZ32 (by decide)
                      intro μ9 e9
                      replace e9 := e9.trans (zm_wI (Z := Z22) (ν := ν) hZ32 (show ((0 : Nat) : Int) = 0 from rfl) (show ((0 : Nat) : Int) = 0 from rfl) (show ((2 : Nat) : Int) = 2 from rfl) (show (0 : Int32) = i3 0 from rfl))
                      subst e9
                      have r33 := zM_k hZ32I 1 0 0 35 (lo := 0) (hi := 1) (by decide) rfl
                      have q34 := (zu_ne (k' := 1) (b' := 0) (i' := 0) (j' := 35) hZ32 (fun q => absurd q.2.2.2 (by decide))).trans ((zu_ne (k' := 1) (b' := 0) (i' := 0) (j' := 35) hZ22 (fun q => absurd q.2.2.2 (by decide))).trans (zu_ne (k' := 1) (b' := 0) (i' := 0) (j' := 35) hZ9 (fun q => absurd q.2.2.2 (by decide))))
                      refine wz_i1 (Eq.trans (i3NE (zm_rd (Z := Z32) (ν := ν) (k := 1) (show ((0 : Nat) : Int) = 0 from rfl) (show ((0 : Nat) : Int) = 0 from rfl) (show ((35 : Nat) : Int) = 35 from rfl)) (show (0 : Int32) = i3 0 from rfl) (by omega) (by omega) (by omega) (by omega)) (decide_eq_true (by omega))) ?_
                      replace hP := zl_q hP (rfl : _ = Z32)
                      obtain ⟨Z35, hZ35⟩ := zx (zu Z32 1 0 0 3 a4)
                      replace hP := zl_e hP hZ35
                      have hZ35I := zM_u hZ32I hZ35 (lo := 0) (hi := 65535) (by decide) rfl (by omega) ⟨by decide, by decide⟩ (Or.inr (by decide)) rfl
                      have hZ35U : zU [] Z Z35 := zU_u hZ32U hZ35 (Or.inl rfl)
                      have hZ35K : zC [1, 2] Z Z35 := zC_u hZ32K hZ35 (by decide)
                      intro μ9 e9
                      replace e9 := e9.trans (zm_wI (Z := Z32) (ν := ν) hZ35 (show ((0 : Nat) : Int) = 0 from rfl) (show ((0 : Nat) : Int) = 0 from rfl) (show ((3 : Nat) : Int) = 3 from rfl) (rfl : i3 a4 = i3 a4))
                      subst e9
                      refine wz_i0 (i3O (n := 4400) (i3A (i3A (show (200 : Int32) = i3 200 from rfl) (i3M (show (20 : Int32) = i3 20 from rfl) (rfl : i3 a1 = i3 a1))) (show (4 : Int32) = i3 4 from rfl)) (by omega) (by omega) (by omega)) ?_
                      refine wz_i0 (i3O (n := 4400) (i3A (i3A (show (200 : Int32) = i3 200 from rfl) (i3M (show (20 : Int32) = i3 20 from rfl) (rfl : i3 a1 = i3 a1))) (show (5 : Int32) = i3 5 from rfl)) (by omega) (by omega) (by omega)) ?_
                      have r36 := zM_k hZ35I 2 0 0 (204 + 20 * a1) (lo := 0) (hi := 40) (by decide) (zs_200_4 (x := a1) (by omega) (by omega) (by omega))
                      have q37 := (zu_ne (k' := 2) (b' := 0) (i' := 0) (j' := (204 + 20 * a1)) hZ35 (fun q => absurd q.1 (by decide))).trans (zu_ne (k' := 2) (b' := 0) (i' := 0) (j' := (204 + 20 * a1)) hZ32 (fun q => absurd q.1 (by decide)))
                      have r38 := zM_k hZ35I 2 0 0 (205 + 20 * a1) (lo := 0) (hi := 40) (by decide) (zs_200_5 (x := a1) (by omega) (by omega) (by omega))
                      obtain ⟨Z39, v40, hv40, c9, hZ39I, kZ39, jZ39, lv40, uv40⟩ := sp_322 (ν := ν) hZ35I (a1 := (Z35 2 0 0 (204 + 20 * a1))) (by omega) (a2 := (Z35 2 0 0 (205 + 20 * a1))) (by omega) (a3 := a2) (by omega) (by omega) (zbh (c := 0) (k := 0) hM (Nat.le_of_ble_eq_true rfl))
                      have hZ39U : zU [] Z Z39 := zU_t hZ35U jZ39 zU_b0
                      have hZ39K : zC [1, 2] Z Z39 := zC_t hZ35K kZ39 (by decide)
                      replace hP := zl_e2 hP hv40
                      refine wz_cI_of (zas (zcons rfl (zcons (zvi (zm_rd (Z := Z35) (ν := ν) (k := 2) (show ((0 : Nat) : Int) = 0 from rfl) (show ((0 : Nat) : Int) = 0 from rfl) (i3I (y := (204 + 20 * a1)) (i3A (i3A (show (200 : Int32) = i3 200 from rfl) (i3M (show (20 : Int32) = i3 20 from rfl) (rfl : i3 a1 = i3 a1))) (show (4 : Int32) = i3 4 from rfl)) (by omega) (by omega) (by omega)))) (zcons (zvi (zm_rd (Z := Z35) (ν := ν) (k := 2) (show ((0 : Nat) : Int) = 0 from rfl) (show ((0 : Nat) : Int) = 0 from rfl) (i3I (y := (205 + 20 * a1)) (i3A (i3A (show (200 : Int32) = i3 200 from rfl) (i3M (show (20 : Int32) = i3 20 from rfl) (rfl : i3 a1 = i3 a1))) (show (5 : Int32) = i3 5 from rfl)) (by omega) (by omega) (by omega)))) (zcons (zvi (rfl : i3 a2 = i3 a2)) rfl)))) c9) ?_
                      clear c9 hv40
                      refine wz_br (i3NE (rfl : i3 v40 = i3 v40) (show (0 : Int32) = i3 0 from rfl) (by omega) (by omega) (by omega) (by omega)) (fun h41 => ?_) (fun h41 => ?_)
                      · replace hP := zE_p hP h41
                        refine wz_br (i3L (rfl : i3 a3 = i3 a3) (rfl : i3 v40 = i3 v40) (by omega) (by omega) (by omega) (by omega)) (fun h42 => ?_) (fun h42 => ?_)
                        · replace hP := zE_p hP h42
                          refine wz_br (i3L (i3A (i3M (show (2 : Int32) = i3 2 from rfl) (rfl : i3 a3 = i3 a3)) (show (1 : Int32) = i3 1 from rfl)) (rfl : i3 v40 = i3 v40) (by omega) (by omega) (by omega) (by omega)) (fun h43 => ?_) (fun h43 => ?_)
                          · replace hP := zE_p hP h43
                            obtain ⟨v44, hv44, c9, lv44, uv44⟩ := sp_326 (ν := ν) hZ39I (a1 := a1) (by omega) (zbh (c := 0) (k := 0) hM (Nat.le_of_ble_eq_true rfl))
                            replace hP := zl_e hP hv44
                            refine wz_cI_of (zas (zcons rfl (zcons (zvi (rfl : i3 a1 = i3 a1)) rfl)) c9) ?_
                            clear c9
                            refine wz_i1 (Eq.trans (i3Le (rfl : i3 v44 = i3 v44) (show (3 : Int32) = i3 3 from rfl) (by omega) (by omega) (by omega) (by omega)) (decide_eq_true (by omega))) ?_
                            refine wz_i0 (i3O (n := 4400) (i3A (i3A (show (200 : Int32) = i3 200 from rfl) (i3M (show (20 : Int32) = i3 20 from rfl) (rfl : i3 a1 = i3 a1))) (show (9 : Int32) = i3 9 from rfl)) (by omega) (by omega) (by omega)) ?_
                            obtain ⟨Z45, hZ45⟩ := zx (zu Z39 2 0 0 (209 + 20 * a1) 3)
                            replace hP := zl_e hP hZ45
                            have hZ45I := zM_u2 hZ39I hZ45 (lo := -1) (hi := 3) (zs_200_9 (x := a1) (by omega) (by omega) (by omega)) (by omega) ⟨by decide, by decide⟩ (by simp only [zsp]; omega)
                            have hZ45U : zU [] Z Z45 := zU_u hZ39U hZ45 (Or.inl rfl)
                            have hZ45K : zC [1, 2] Z Z45 := zC_u hZ39K hZ45 (zcl_2w (by omega) rfl)
                            intro μ9 e9
                            replace e9 := e9.trans (zm_wI (Z := Z39) (ν := ν) hZ45 (show ((0 : Nat) : Int) = 0 from rfl) (show ((0 : Nat) : Int) = 0 from rfl) (i3I (y := (209 + 20 * a1)) (i3A (i3A (show (200 : Int32) = i3 200 from rfl) (i3M (show (20 : Int32) = i3 20 from rfl) (rfl : i3 a1 = i3 a1))) (show (9 : Int32) = i3 9 from rfl)) (by omega) (by omega) (by omega)) (show (3 : Int32) = i3 3 from rfl))
                            subst e9
                            refine wz_i0 (i3O (n := 4400) (i3A (i3A (show (200 : Int32) = i3 200 from rfl) (i3M (show (20 : Int32) = i3 20 from rfl) (rfl : i3 a1 = i3 a1))) (show (12 : Int32) = i3 12 from rfl)) (by omega) (by omega) (by omega)) ?_
                            refine wz_i0 (i3O (n := 4400) (i3A (i3A (show (200 : Int32) = i3 200 from rfl) (i3M (show (20 : Int32) = i3 20 from rfl) (rfl : i3 a1 = i3 a1))) (show (12 : Int32) = i3 12 from rfl)) (by omega) (by omega) (by omega)) ?_
                            have r46 := zM_f hZ45I 2 0 0 (212 + 20 * a1)
                            have r47 := w3_r ((Z45 2 0 0 (212 + 20 * a1)) + 1)
                            obtain ⟨Z48, hZ48⟩ := zx (zu Z45 2 0 0 (212 + 20 * a1) (w3 ((Z45 2 0 0 (212 + 20 * a1)) + 1)))
                            replace hP := zl_e hP hZ48
                            have hZ48I := zM_u2 hZ45I hZ48 (lo := -2147483648) (hi := 2147483647) (zs_200_12 (x := a1) (by omega) (by omega) (by omega)) (by omega) ⟨by decide, by decide⟩ (by simp only [zsp]; omega)
                            have hZ48U : zU [] Z Z48 := zU_u hZ45U hZ48 (Or.inl rfl)
                            have hZ48K : zC [1, 2] Z Z48 := zC_u hZ45K hZ48 (zcl_2w (by omega) rfl)
                            intro μ9 e9
                            replace e9 := e9.trans (zm_wI (Z := Z45) (ν := ν) hZ48 (show ((0 : Nat) : Int) = 0 from rfl) (show ((0 : Nat) : Int) = 0 from rfl) (i3I (y := (212 + 20 * a1)) (i3A (i3A (show (200 : Int32) = i3 200 from rfl) (i3M (show (20 : Int32) = i3 20 from rfl) (rfl : i3 a1 = i3 a1))) (show (12 : Int32) = i3 12 from rfl)) (by omega) (by omega) (by omega)) (i3W (i3A (zm_rd (Z := Z45) (ν := ν) (k := 2) (show ((0 : Nat) : Int) = 0 from rfl) (show ((0 : Nat) : Int) = 0 from rfl) (i3I (y := (212 + 20 * a1)) (i3A (i3A (show (200 : Int32) = i3 200 from rfl) (i3M (show (20 : Int32) = i3 20 from rfl) (rfl : i3 a1 = i3 a1))) (show (12 : Int32) = i3 12 from rfl)) (by omega) (by omega) (by omega))) (show (1 : Int32) = i3 1 from rfl))))
                            subst e9
                            refine wz_i0 (i3O (n := 4400) (i3A (i3A (show (200 : Int32) = i3 200 from rfl) (i3M (show (20 : Int32) = i3 20 from rfl) (rfl : i3 a1 = i3 a1))) (show (13 : Int32) = i3 13 from rfl)) (by omega) (by omega) (by omega)) ?_
                            obtain ⟨Z49, hZ49⟩ := zx (zu Z48 2 0 0 (213 + 20 * a1) v40)
                            replace hP := zl_e hP hZ49
                            have hZ49I := zM_u2 hZ48I hZ49 (lo := -1) (hi := 20) (zs_200_13 (x := a1) (by omega) (by omega) (by omega)) (by omega) ⟨by decide, by decide⟩ (by simp only [zsp]; omega)
                            have hZ49U : zU [] Z Z49 := zU_u hZ48U hZ49 (Or.inl rfl)
                            have hZ49K : zC [1, 2] Z Z49 := zC_u hZ48K hZ49 (zcl_2w (by omega) rfl)
                            intro μ9 e9
                            replace e9 := e9.trans (zm_wI (Z := Z48) (ν := ν) hZ49 (show ((0 : Nat) : Int) = 0 from rfl) (show ((0 : Nat) : Int) = 0 from rfl) (i3I (y := (213 + 20 * a1)) (i3A (i3A (show (200 : Int32) = i3 200 from rfl) (i3M (show (20 : Int32) = i3 20 from rfl) (rfl : i3 a1 = i3 a1))) (show (13 : Int32) = i3 13 from rfl)) (by omega) (by omega) (by omega)) (rfl : i3 v40 = i3 v40))
                            subst e9
                            have r50 := zM_k hZ49I 2 0 0 3810 (lo := 0) (hi := 99999) (by decide) rfl
                            have r51 := z_mul (x := (Z49 2 0 0 3810)) (y := a2) (a := 99999) (b := 20) (by omega) (by omega) (by omega) (by omega)
                            obtain ⟨Z52, hZ52, c9, hZ52I, kZ52, jZ52⟩ := sp_403 (ν := ν) hZ49I (a1 := 0) (by omega) (a2 := 6) (by omega) (a3 := ((Z49 2 0 0 3810) * a2)) (by omega) (a4 := a1) (by omega) (zbh (c := 0) (k := 1) hM (Nat.le_of_ble_eq_true rfl))
                            have hZ52U : zU [] Z Z52 := zU_t hZ49U jZ52 zU_b0
                            have hZ52K : zC [1, 2] Z Z52 := zC_t hZ49K kZ52 (by decide)
                            replace hP := zl_e hP hZ52
                            refine wz_cV_of (zas (zcons rfl (zcons (zvi (show (0 : Int32) = i3 0 from rfl)) (zcons (zvi (show (6 : Int32) = i3 6 from rfl)) (zcons (zvi (i3M (zm_rd (Z := Z49) (ν := ν) (k := 2) (show ((0 : Nat) : Int) = 0 from rfl) (show ((0 : Nat) : Int) = 0 from rfl) (show ((3810 : Nat) : Int) = 3810 from rfl)) (rfl : i3 a2 = i3 a2))) (zcons (zvi (rfl : i3 a1 = i3 a1)) rfl))))) c9) ?_
                            clear c9
                            refine wz_i0 (i3O (n := 4400) (i3A (i3A (show (200 : Int32) = i3 200 from rfl) (i3M (show (20 : Int32) = i3 20 from rfl) (rfl : i3 a1 = i3 a1))) (show (9 : Int32) = i3 9 from rfl)) (by omega) (by omega) (by omega)) ?_
                            have r53 := zM_k hZ52I 2 0 0 (209 + 20 * a1) (lo := -1) (hi := 3) (by decide) (zs_200_9 (x := a1) (by omega) (by omega) (by omega))
                            exact zlY hP (zm_rd (Z := Z52) (ν := ν) (k := 2) (show ((0 : Nat) : Int) = 0 from rfl) (show ((0 : Nat) : Int) = 0 from rfl) (i3I (y := (209 + 20 * a1)) (i3A (i3A (show (200 : Int32) = i3 200 from rfl) (i3M (show (20 : Int32) = i3 20 from rfl) (rfl : i3 a1 = i3 a1))) (show (9 : Int32) = i3 9 from rfl)) (by omega) (by omega) (by omega))) (.inl rfl) ⟨hZ52I, hZ52K, hZ52U⟩
                          · replace hP := zE_n hP h43
                            obtain ⟨v54, hv54, c9, lv54, uv54⟩ := sp_326 (ν := ν) hZ39I (a1 := a1) (by omega) (zbh (c := 0) (k := 0) hM (Nat.le_of_ble_eq_true rfl))
                            replace hP := zl_e hP hv54
                            refine wz_cI_of (zas (zcons rfl (zcons (zvi (rfl : i3 a1 = i3 a1)) rfl)) c9) ?_
                            clear c9
                            refine wz_br (i3Le (rfl : i3 v54 = i3 v54) (show (2 : Int32) = i3 2 from rfl) (by omega) (by omega) (by omega) (by omega)) (fun h55 => ?_) (fun h55 => ?_)
                            · replace hP := zE_p hP h55
                              refine wz_i0 (i3O (n := 4400) (i3A (i3A (show (200 : Int32) = i3 200 from rfl) (i3M (show (20 : Int32) = i3 20 from rfl) (rfl : i3 a1 = i3 a1))) (show (9 : Int32) = i3 9 from rfl)) (by omega) (by omega) (by omega)) ?_
                              obtain ⟨Z56, hZ56⟩ := zx (zu Z39 2 0 0 (209 + 20 * a1) 2)
                              replace hP := zl_e hP hZ56
                              have hZ56I := zM_u2 hZ39I hZ56 (lo := -1) (hi := 3) (zs_200_9 (x := a1) (by omega) (by omega) (by omega)) (by omega) ⟨by decide, by decide⟩ (by simp only [zsp]; omega)
                              have hZ56U : zU [] Z Z56 := zU_u hZ39U hZ56 (Or.inl rfl)
                              have hZ56K : zC [1, 2] Z Z56 := zC_u hZ39K hZ56 (zcl_2w (by omega) rfl)
                              intro μ9 e9
                              replace e9 := e9.trans (zm_wI (Z := Z39) (ν := ν) hZ56 (show ((0 : Nat) : Int) = 0 from rfl) (show ((0 : Nat) : Int) = 0 from rfl) (i3I (y := (209 + 20 * a1)) (i3A (i3A (show (200 : Int32) = i3 200 from rfl) (i3M (show (20 : Int32) = i3 20 from rfl) (rfl : i3 a1 = i3 a1))) (show (9 : Int32) = i3 9 from rfl)) (by omega) (by omega) (by omega)) (show (2 : Int32) = i3 2 from rfl))
                              subst e9
                              refine wz_i0 (i3O (n := 4400) (i3A (i3A (show (200 : Int32) = i3 200 from rfl) (i3M (show (20 : Int32) = i3 20 from rfl) (rfl : i3 a1 = i3 a1))) (show (12 : Int32) = i3 12 from rfl)) (by omega) (by omega) (by omega)) ?_
                              refine wz_i0 (i3O (n := 4400) (i3A (i3A (show (200 : Int32) = i3 200 from rfl) (i3M (show (20 : Int32) = i3 20 from rfl) (rfl : i3 a1 = i3 a1))) (show (12 : Int32) = i3 12 from rfl)) (by omega) (by omega) (by omega)) ?_
                              have r57 := zM_f hZ56I 2 0 0 (212 + 20 * a1)
                              have r58 := w3_r ((Z56 2 0 0 (212 + 20 * a1)) + 1)
                              obtain ⟨Z59, hZ59⟩ := zx (zu Z56 2 0 0 (212 + 20 * a1) (w3 ((Z56 2 0 0 (212 + 20 * a1)) + 1)))
                              replace hP := zl_e hP hZ59
                              have hZ59I := zM_u2 hZ56I hZ59 (lo := -2147483648) (hi := 2147483647) (zs_200_12 (x := a1) (by omega) (by omega) (by omega)) (by omega) ⟨by decide, by decide⟩ (by simp only [zsp]; omega)
                              have hZ59U : zU [] Z Z59 := zU_u hZ56U hZ59 (Or.inl rfl)
                              have hZ59K : zC [1, 2] Z Z59 := zC_u hZ56K hZ59 (zcl_2w (by omega) rfl)
                              intro μ9 e9
                              replace e9 := e9.trans (zm_wI (Z := Z56) (ν := ν) hZ59 (show ((0 : Nat) : Int) = 0 from rfl) (show ((0 : Nat) : Int) = 0 from rfl) (i3I (y := (212 + 20 * a1)) (i3A (i3A (show (200 : Int32) = i3 200 from rfl) (i3M (show (20 : Int32) = i3 20 from rfl) (rfl : i3 a1 = i3 a1))) (show (12 : Int32) = i3 12 from rfl)) (by omega) (by omega) (by omega)) (i3W (i3A (zm_rd (Z := Z56) (ν := ν) (k := 2) (show ((0 : Nat) : Int) = 0 from rfl) (show ((0 : Nat) : Int) = 0 from rfl) (i3I (y := (212 + 20 * a1)) (i3A (i3A (show (200 : Int32) = i3 200 from rfl) (i3M (show (20 : Int32) = i3 20 from rfl) (rfl : i3 a1 = i3 a1))) (show (12 : Int32) = i3 12 from rfl)) (by omega) (by omega) (by omega))) (show (1 : Int32) = i3 1 from rfl))))
                              subst e9
                              refine wz_i0 (i3O (n := 4400) (i3A (i3A (show (200 : Int32) = i3 200 from rfl) (i3M (show (20 : Int32) = i3 20 from rfl) (rfl : i3 a1 = i3 a1))) (show (13 : Int32) = i3 13 from rfl)) (by omega) (by omega) (by omega)) ?_
                              obtain ⟨Z60, hZ60⟩ := zx (zu Z59 2 0 0 (213 + 20 * a1) v40)
                              replace hP := zl_e hP hZ60
                              have hZ60I := zM_u2 hZ59I hZ60 (lo := -1) (hi := 20) (zs_200_13 (x := a1) (by omega) (by omega) (by omega)) (by omega) ⟨by decide, by decide⟩ (by simp only [zsp]; omega)
                              have hZ60U : zU [] Z Z60 := zU_u hZ59U hZ60 (Or.inl rfl)
                              have hZ60K : zC [1, 2] Z Z60 := zC_u hZ59K hZ60 (zcl_2w (by omega) rfl)
                              intro μ9 e9
                              replace e9 := e9.trans (zm_wI (Z := Z59) (ν := ν) hZ60 (show ((0 : Nat) : Int) = 0 from rfl) (show ((0 : Nat) : Int) = 0 from rfl) (i3I (y := (213 + 20 * a1)) (i3A (i3A (show (200 : Int32) = i3 200 from rfl) (i3M (show (20 : Int32) = i3 20 from rfl) (rfl : i3 a1 = i3 a1))) (show (13 : Int32) = i3 13 from rfl)) (by omega) (by omega) (by omega)) (rfl : i3 v40 = i3 v40))
                              subst e9
                              have r61 := zM_k hZ60I 2 0 0 3810 (lo := 0) (hi := 99999) (by decide) rfl
                              have r62 := z_mul (x := (Z60 2 0 0 3810)) (y := a2) (a := 99999) (b := 20) (by omega) (by omega) (by omega) (by omega)
                              obtain ⟨Z63, hZ63, c9, hZ63I, kZ63, jZ63⟩ := sp_403 (ν := ν) hZ60I (a1 := 0) (by omega) (a2 := 6) (by omega) (a3 := ((Z60 2 0 0 3810) * a2)) (by omega) (a4 := a1) (by omega) (zbh (c := 0) (k := 1) hM (Nat.le_of_ble_eq_true rfl))
                              have hZ63U : zU [] Z Z63 := zU_t hZ60U jZ63 zU_b0
                              have hZ63K : zC [1, 2] Z Z63 := zC_t hZ60K kZ63 (by decide)
                              replace hP := zl_e hP hZ63
                              refine wz_cV_of (zas (zcons rfl (zcons (zvi (show (0 : Int32) = i3 0 from rfl)) (zcons (zvi (show (6 : Int32) = i3 6 from rfl)) (zcons (zvi (i3M (zm_rd (Z := Z60) (ν := ν) (k := 2) (show ((0 : Nat) : Int) = 0 from rfl) (show ((0 : Nat) : Int) = 0 from rfl) (show ((3810 : Nat) : Int) = 3810 from rfl)) (rfl : i3 a2 = i3 a2))) (zcons (zvi (rfl : i3 a1 = i3 a1)) rfl))))) c9) ?_
                              clear c9
                              refine wz_i0 (i3O (n := 4400) (i3A (i3A (show (200 : Int32) = i3 200 from rfl) (i3M (show (20 : Int32) = i3 20 from rfl) (rfl : i3 a1 = i3 a1))) (show (9 : Int32) = i3 9 from rfl)) (by omega) (by omega) (by omega)) ?_
                              have r64 := zM_k hZ63I 2 0 0 (209 + 20 * a1) (lo := -1) (hi := 3) (by decide) (zs_200_9 (x := a1) (by omega) (by omega) (by omega))
                              exact zlY hP (zm_rd (Z := Z63) (ν := ν) (k := 2) (show ((0 : Nat) : Int) = 0 from rfl) (show ((0 : Nat) : Int) = 0 from rfl) (i3I (y := (209 + 20 * a1)) (i3A (i3A (show (200 : Int32) = i3 200 from rfl) (i3M (show (20 : Int32) = i3 20 from rfl) (rfl : i3 a1 = i3 a1))) (show (9 : Int32) = i3 9 from rfl)) (by omega) (by omega) (by omega))) (.inl rfl) ⟨hZ63I, hZ63K, hZ63U⟩
                            · replace hP := zE_n hP h55
                              refine wz_i0 (i3O (n := 4400) (i3A (i3A (show (200 : Int32) = i3 200 from rfl) (i3M (show (20 : Int32) = i3 20 from rfl) (rfl : i3 a1 = i3 a1))) (show (9 : Int32) = i3 9 from rfl)) (by omega) (by omega) (by omega)) ?_
                              obtain ⟨Z65, hZ65⟩ := zx (zu Z39 2 0 0 (209 + 20 * a1) v54)
                              replace hP := zl_e hP hZ65
                              have hZ65I := zM_u2 hZ39I hZ65 (lo := -1) (hi := 3) (zs_200_9 (x := a1) (by omega) (by omega) (by omega)) (by omega) ⟨by decide, by decide⟩ (by simp only [zsp]; omega)
                              have hZ65U : zU [] Z Z65 := zU_u hZ39U hZ65 (Or.inl rfl)
                              have hZ65K : zC [1, 2] Z Z65 := zC_u hZ39K hZ65 (zcl_2w (by omega) rfl)
                              intro μ9 e9
                              replace e9 := e9.trans (zm_wI (Z := Z39) (ν := ν) hZ65 (show ((0 : Nat) : Int) = 0 from rfl) (show ((0 : Nat) : Int) = 0 from rfl) (i3I (y := (209 + 20 * a1)) (i3A (i3A (show (200 : Int32) = i3 200 from rfl) (i3M (show (20 : Int32) = i3 20 from rfl) (rfl : i3 a1 = i3 a1))) (show (9 : Int32) = i3 9 from rfl)) (by omega) (by omega) (by omega)) (rfl : i3 v54 = i3 v54))
                              subst e9
                              refine wz_i0 (i3O (n := 4400) (i3A (i3A (show (200 : Int32) = i3 200 from rfl) (i3M (show (20 : Int32) = i3 20 from rfl) (rfl : i3 a1 = i3 a1))) (show (12 : Int32) = i3 12 from rfl)) (by omega) (by omega) (by omega)) ?_
                              refine wz_i0 (i3O (n := 4400) (i3A (i3A (show (200 : Int32) = i3 200 from rfl) (i3M (show (20 : Int32) = i3 20 from rfl) (rfl : i3 a1 = i3 a1))) (show (12 : Int32) = i3 12 from rfl)) (by omega) (by omega) (by omega)) ?_
                              have r66 := zM_f hZ65I 2 0 0 (212 + 20 * a1)
                              have r67 := w3_r ((Z65 2 0 0 (212 + 20 * a1)) + 1)
                              obtain ⟨Z68, hZ68⟩ := zx (zu Z65 2 0 0 (212 + 20 * a1) (w3 ((Z65 2 0 0 (212 + 20 * a1)) + 1)))
                              replace hP := zl_e hP hZ68
                              have hZ68I := zM_u2 hZ65I hZ68 (lo := -2147483648) (hi := 2147483647) (zs_200_12 (x := a1) (by omega) (by omega) (by omega)) (by omega) ⟨by decide, by decide⟩ (by simp only [zsp]; omega)
                              have hZ68U : zU [] Z Z68 := zU_u hZ65U hZ68 (Or.inl rfl)
                              have hZ68K : zC [1, 2] Z Z68 := zC_u hZ65K hZ68 (zcl_2w (by omega) rfl)
                              intro μ9 e9
                              replace e9 := e9.trans (zm_wI (Z := Z65) (ν := ν) hZ68 (show ((0 : Nat) : Int) = 0 from rfl) (show ((0 : Nat) : Int) = 0 from rfl) (i3I (y := (212 + 20 * a1)) (i3A (i3A (show (200 : Int32) = i3 200 from rfl) (i3M (show (20 : Int32) = i3 20 from rfl) (rfl : i3 a1 = i3 a1))) (show (12 : Int32) = i3 12 from rfl)) (by omega) (by omega) (by omega)) (i3W (i3A (zm_rd (Z := Z65) (ν := ν) (k := 2) (show ((0 : Nat) : Int) = 0 from rfl) (show ((0 : Nat) : Int) = 0 from rfl) (i3I (y := (212 + 20 * a1)) (i3A (i3A (show (200 : Int32) = i3 200 from rfl) (i3M (show (20 : Int32) = i3 20 from rfl) (rfl : i3 a1 = i3 a1))) (show (12 : Int32) = i3 12 from rfl)) (by omega) (by omega) (by omega))) (show (1 : Int32) = i3 1 from rfl))))
                              subst e9
                              refine wz_i0 (i3O (n := 4400) (i3A (i3A (show (200 : Int32) = i3 200 from rfl) (i3M (show (20 : Int32) = i3 20 from rfl) (rfl : i3 a1 = i3 a1))) (show (13 : Int32) = i3 13 from rfl)) (by omega) (by omega) (by omega)) ?_
                              obtain ⟨Z69, hZ69⟩ := zx (zu Z68 2 0 0 (213 + 20 * a1) v40)
                              replace hP := zl_e hP hZ69
                              have hZ69I := zM_u2 hZ68I hZ69 (lo := -1) (hi := 20) (zs_200_13 (x := a1) (by omega) (by omega) (by omega)) (by omega) ⟨by decide, by decide⟩ (by simp only [zsp]; omega)
                              have hZ69U : zU [] Z Z69 := zU_u hZ68U hZ69 (Or.inl rfl)
                              have hZ69K : zC [1, 2] Z Z69 := zC_u hZ68K hZ69 (zcl_2w (by omega) rfl)
                              intro μ9 e9
                              replace e9 := e9.trans (zm_wI (Z := Z68) (ν := ν) hZ69 (show ((0 : Nat) : Int) = 0 from rfl) (show ((0 : Nat) : Int) = 0 from rfl) (i3I (y := (213 + 20 * a1)) (i3A (i3A (show (200 : Int32) = i3 200 from rfl) (i3M (show (20 : Int32) = i3 20 from rfl) (rfl : i3 a1 = i3 a1))) (show (13 : Int32) = i3 13 from rfl)) (by omega) (by omega) (by omega)) (rfl : i3 v40 = i3 v40))
                              subst e9
                              have r70 := zM_k hZ69I 2 0 0 3810 (lo := 0) (hi := 99999) (by decide) rfl
                              have r71 := z_mul (x := (Z69 2 0 0 3810)) (y := a2) (a := 99999) (b := 20) (by omega) (by omega) (by omega) (by omega)
                              obtain ⟨Z72, hZ72, c9, hZ72I, kZ72, jZ72⟩ := sp_403 (ν := ν) hZ69I (a1 := 0) (by omega) (a2 := 6) (by omega) (a3 := ((Z69 2 0 0 3810) * a2)) (by omega) (a4 := a1) (by omega) (zbh (c := 0) (k := 1) hM (Nat.le_of_ble_eq_true rfl))
                              have hZ72U : zU [] Z Z72 := zU_t hZ69U jZ72 zU_b0
                              have hZ72K : zC [1, 2] Z Z72 := zC_t hZ69K kZ72 (by decide)
                              replace hP := zl_e hP hZ72
                              refine wz_cV_of (zas (zcons rfl (zcons (zvi (show (0 : Int32) = i3 0 from rfl)) (zcons (zvi (show (6 : Int32) = i3 6 from rfl)) (zcons (zvi (i3M (zm_rd (Z := Z69) (ν := ν) (k := 2) (show ((0 : Nat) : Int) = 0 from rfl) (show ((0 : Nat) : Int) = 0 from rfl) (show ((3810 : Nat) : Int) = 3810 from rfl)) (rfl : i3 a2 = i3 a2))) (zcons (zvi (rfl : i3 a1 = i3 a1)) rfl))))) c9) ?_
                              clear c9
                              refine wz_i0 (i3O (n := 4400) (i3A (i3A (show (200 : Int32) = i3 200 from rfl) (i3M (show (20 : Int32) = i3 20 from rfl) (rfl : i3 a1 = i3 a1))) (show (9 : Int32) = i3 9 from rfl)) (by omega) (by omega) (by omega)) ?_
                              have r73 := zM_k hZ72I 2 0 0 (209 + 20 * a1) (lo := -1) (hi := 3) (by decide) (zs_200_9 (x := a1) (by omega) (by omega) (by omega))
                              exact zlY hP (zm_rd (Z := Z72) (ν := ν) (k := 2) (show ((0 : Nat) : Int) = 0 from rfl) (show ((0 : Nat) : Int) = 0 from rfl) (i3I (y := (209 + 20 * a1)) (i3A (i3A (show (200 : Int32) = i3 200 from rfl) (i3M (show (20 : Int32) = i3 20 from rfl) (rfl : i3 a1 = i3 a1))) (show (9 : Int32) = i3 9 from rfl)) (by omega) (by omega) (by omega))) (.inl rfl) ⟨hZ72I, hZ72K, hZ72U⟩
                        · replace hP := zE_n hP h42
                          obtain ⟨v74, hv74, c9, lv74, uv74⟩ := sp_326 (ν := ν) hZ39I (a1 := a1) (by omega) (zbh (c := 0) (k := 0) hM (Nat.le_of_ble_eq_true rfl))
                          replace hP := zl_e hP hv74
                          refine wz_cI_of (zas (zcons rfl (zcons (zvi (rfl : i3 a1 = i3 a1)) rfl)) c9) ?_
                          clear c9
                          refine wz_br (i3Le (rfl : i3 v74 = i3 v74) (show (1 : Int32) = i3 1 from rfl) (by omega) (by omega) (by omega) (by omega)) (fun h75 => ?_) (fun h75 => ?_)
                          · replace hP := zE_p hP h75
                            refine wz_i0 (i3O (n := 4400) (i3A (i3A (show (200 : Int32) = i3 200 from rfl) (i3M (show (20 : Int32) = i3 20 from rfl) (rfl : i3 a1 = i3 a1))) (show (9 : Int32) = i3 9 from rfl)) (by omega) (by omega) (by omega)) ?_
                            obtain ⟨Z76, hZ76⟩ := zx (zu Z39 2 0 0 (209 + 20 * a1) 1)
                            replace hP := zl_e hP hZ76
                            have hZ76I := zM_u2 hZ39I hZ76 (lo := -1) (hi := 3) (zs_200_9 (x := a1) (by omega) (by omega) (by omega)) (by omega) ⟨by decide, by decide⟩ (by simp only [zsp]; omega)
                            have hZ76U : zU [] Z Z76 := zU_u hZ39U hZ76 (Or.inl rfl)
                            have hZ76K : zC [1, 2] Z Z76 := zC_u hZ39K hZ76 (zcl_2w (by omega) rfl)
                            intro μ9 e9
                            replace e9 := e9.trans (zm_wI (Z := Z39) (ν := ν) hZ76 (show ((0 : Nat) : Int) = 0 from rfl) (show ((0 : Nat) : Int) = 0 from rfl) (i3I (y := (209 + 20 * a1)) (i3A (i3A (show (200 : Int32) = i3 200 from rfl) (i3M (show (20 : Int32) = i3 20 from rfl) (rfl : i3 a1 = i3 a1))) (show (9 : Int32) = i3 9 from rfl)) (by omega) (by omega) (by omega)) (show (1 : Int32) = i3 1 from rfl))
                            subst e9
                            refine wz_i0 (i3O (n := 4400) (i3A (i3A (show (200 : Int32) = i3 200 from rfl) (i3M (show (20 : Int32) = i3 20 from rfl) (rfl : i3 a1 = i3 a1))) (show (12 : Int32) = i3 12 from rfl)) (by omega) (by omega) (by omega)) ?_
                            refine wz_i0 (i3O (n := 4400) (i3A (i3A (show (200 : Int32) = i3 200 from rfl) (i3M (show (20 : Int32) = i3 20 from rfl) (rfl : i3 a1 = i3 a1))) (show (12 : Int32) = i3 12 from rfl)) (by omega) (by omega) (by omega)) ?_
                            have r77 := zM_f hZ76I 2 0 0 (212 + 20 * a1)
                            have r78 := w3_r ((Z76 2 0 0 (212 + 20 * a1)) + 1)
                            obtain ⟨Z79, hZ79⟩ := zx (zu Z76 2 0 0 (212 + 20 * a1) (w3 ((Z76 2 0 0 (212 + 20 * a1)) + 1)))
                            replace hP := zl_e hP hZ79
                            have hZ79I := zM_u2 hZ76I hZ79 (lo := -2147483648) (hi := 2147483647) (zs_200_12 (x := a1) (by omega) (by omega) (by omega)) (by omega) ⟨by decide, by decide⟩ (by simp only [zsp]; omega)
                            have hZ79U : zU [] Z Z79 := zU_u hZ76U hZ79 (Or.inl rfl)
                            have hZ79K : zC [1, 2] Z Z79 := zC_u hZ76K hZ79 (zcl_2w (by omega) rfl)
                            intro μ9 e9
                            replace e9 := e9.trans (zm_wI (Z := Z76) (ν := ν) hZ79 (show ((0 : Nat) : Int) = 0 from rfl) (show ((0 : Nat) : Int) = 0 from rfl) (i3I (y := (212 + 20 * a1)) (i3A (i3A (show (200 : Int32) = i3 200 from rfl) (i3M (show (20 : Int32) = i3 20 from rfl) (rfl : i3 a1 = i3 a1))) (show (12 : Int32) = i3 12 from rfl)) (by omega) (by omega) (by omega)) (i3W (i3A (zm_rd (Z := Z76) (ν := ν) (k := 2) (show ((0 : Nat) : Int) = 0 from rfl) (show ((0 : Nat) : Int) = 0 from rfl) (i3I (y := (212 + 20 * a1)) (i3A (i3A (show (200 : Int32) = i3 200 from rfl) (i3M (show (20 : Int32) = i3 20 from rfl) (rfl : i3 a1 = i3 a1))) (show (12 : Int32) = i3 12 from rfl)) (by omega) (by omega) (by omega))) (show (1 : Int32) = i3 1 from rfl))))
                            subst e9
                            refine wz_i0 (i3O (n := 4400) (i3A (i3A (show (200 : Int32) = i3 200 from rfl) (i3M (show (20 : Int32) = i3 20 from rfl) (rfl : i3 a1 = i3 a1))) (show (13 : Int32) = i3 13 from rfl)) (by omega) (by omega) (by omega)) ?_
                            obtain ⟨Z80, hZ80⟩ := zx (zu Z79 2 0 0 (213 + 20 * a1) v40)
                            replace hP := zl_e hP hZ80
                            have hZ80I := zM_u2 hZ79I hZ80 (lo := -1) (hi := 20) (zs_200_13 (x := a1) (by omega) (by omega) (by omega)) (by omega) ⟨by decide, by decide⟩ (by simp only [zsp]; omega)
                            have hZ80U : zU [] Z Z80 := zU_u hZ79U hZ80 (Or.inl rfl)
                            have hZ80K : zC [1, 2] Z Z80 := zC_u hZ79K hZ80 (zcl_2w (by omega) rfl)
                            intro μ9 e9
                            replace e9 := e9.trans (zm_wI (Z := Z79) (ν := ν) hZ80 (show ((0 : Nat) : Int) = 0 from rfl) (show ((0 : Nat) : Int) = 0 from rfl) (i3I (y := (213 + 20 * a1)) (i3A (i3A (show (200 : Int32) = i3 200 from rfl) (i3M (show (20 : Int32) = i3 20 from rfl) (rfl : i3 a1 = i3 a1))) (show (13 : Int32) = i3 13 from rfl)) (by omega) (by omega) (by omega)) (rfl : i3 v40 = i3 v40))
                            subst e9
                            have r81 := zM_k hZ80I 2 0 0 3810 (lo := 0) (hi := 99999) (by decide) rfl
                            have r82 := z_mul (x := (Z80 2 0 0 3810)) (y := a2) (a := 99999) (b := 20) (by omega) (by omega) (by omega) (by omega)
                            obtain ⟨Z83, hZ83, c9, hZ83I, kZ83, jZ83⟩ := sp_403 (ν := ν) hZ80I (a1 := 0) (by omega) (a2 := 6) (by omega) (a3 := ((Z80 2 0 0 3810) * a2)) (by omega) (a4 := a1) (by omega) (zbh (c := 0) (k := 1) hM (Nat.le_of_ble_eq_true rfl))
                            have hZ83U : zU [] Z Z83 := zU_t hZ80U jZ83 zU_b0
                            have hZ83K : zC [1, 2] Z Z83 := zC_t hZ80K kZ83 (by decide)
                            replace hP := zl_e hP hZ83
                            refine wz_cV_of (zas (zcons rfl (zcons (zvi (show (0 : Int32) = i3 0 from rfl)) (zcons (zvi (show (6 : Int32) = i3 6 from rfl)) (zcons (zvi (i3M (zm_rd (Z := Z80) (ν := ν) (k := 2) (show ((0 : Nat) : Int) = 0 from rfl) (show ((0 : Nat) : Int) = 0 from rfl) (show ((3810 : Nat) : Int) = 3810 from rfl)) (rfl : i3 a2 = i3 a2))) (zcons (zvi (rfl : i3 a1 = i3 a1)) rfl))))) c9) ?_
                            clear c9
                            refine wz_i0 (i3O (n := 4400) (i3A (i3A (show (200 : Int32) = i3 200 from rfl) (i3M (show (20 : Int32) = i3 20 from rfl) (rfl : i3 a1 = i3 a1))) (show (9 : Int32) = i3 9 from rfl)) (by omega) (by omega) (by omega)) ?_
                            have r84 := zM_k hZ83I 2 0 0 (209 + 20 * a1) (lo := -1) (hi := 3) (by decide) (zs_200_9 (x := a1) (by omega) (by omega) (by omega))
                            exact zlY hP (zm_rd (Z := Z83) (ν := ν) (k := 2) (show ((0 : Nat) : Int) = 0 from rfl) (show ((0 : Nat) : Int) = 0 from rfl) (i3I (y := (209 + 20 * a1)) (i3A (i3A (show (200 : Int32) = i3 200 from rfl) (i3M (show (20 : Int32) = i3 20 from rfl) (rfl : i3 a1 = i3 a1))) (show (9 : Int32) = i3 9 from rfl)) (by omega) (by omega) (by omega))) (.inl rfl) ⟨hZ83I, hZ83K, hZ83U⟩
                          · replace hP := zE_n hP h75
                            refine wz_i0 (i3O (n := 4400) (i3A (i3A (show (200 : Int32) = i3 200 from rfl) (i3M (show (20 : Int32) = i3 20 from rfl) (rfl : i3 a1 = i3 a1))) (show (9 : Int32) = i3 9 from rfl)) (by omega) (by omega) (by omega)) ?_
                            obtain ⟨Z85, hZ85⟩ := zx (zu Z39 2 0 0 (209 + 20 * a1) v74)
                            replace hP := zl_e hP hZ85
                            have hZ85I := zM_u2 hZ39I hZ85 (lo := -1) (hi := 3) (zs_200_9 (x := a1) (by omega) (by omega) (by omega)) (by omega) ⟨by decide, by decide⟩ (by simp only [zsp]; omega)
                            have hZ85U : zU [] Z Z85 := zU_u hZ39U hZ85 (Or.inl rfl)
                            have hZ85K : zC [1, 2] Z Z85 := zC_u hZ39K hZ85 (zcl_2w (by omega) rfl)
                            intro μ9 e9
                            replace e9 := e9.trans (zm_wI (Z := Z39) (ν := ν) hZ85 (show ((0 : Nat) : Int) = 0 from rfl) (show ((0 : Nat) : Int) = 0 from rfl) (i3I (y := (209 + 20 * a1)) (i3A (i3A (show (200 : Int32) = i3 200 from rfl) (i3M (show (20 : Int32) = i3 20 from rfl) (rfl : i3 a1 = i3 a1))) (show (9 : Int32) = i3 9 from rfl)) (by omega) (by omega) (by omega)) (rfl : i3 v74 = i3 v74))
                            subst e9
                            refine wz_i0 (i3O (n := 4400) (i3A (i3A (show (200 : Int32) = i3 200 from rfl) (i3M (show (20 : Int32) = i3 20 from rfl) (rfl : i3 a1 = i3 a1))) (show (12 : Int32) = i3 12 from rfl)) (by omega) (by omega) (by omega)) ?_
                            refine wz_i0 (i3O (n := 4400) (i3A (i3A (show (200 : Int32) = i3 200 from rfl) (i3M (show (20 : Int32) = i3 20 from rfl) (rfl : i3 a1 = i3 a1))) (show (12 : Int32) = i3 12 from rfl)) (by omega) (by omega) (by omega)) ?_
                            have r86 := zM_f hZ85I 2 0 0 (212 + 20 * a1)
                            have r87 := w3_r ((Z85 2 0 0 (212 + 20 * a1)) + 1)
                            obtain ⟨Z88, hZ88⟩ := zx (zu Z85 2 0 0 (212 + 20 * a1) (w3 ((Z85 2 0 0 (212 + 20 * a1)) + 1)))
                            replace hP := zl_e hP hZ88
                            have hZ88I := zM_u2 hZ85I hZ88 (lo := -2147483648) (hi := 2147483647) (zs_200_12 (x := a1) (by omega) (by omega) (by omega)) (by omega) ⟨by decide, by decide⟩ (by simp only [zsp]; omega)
                            have hZ88U : zU [] Z Z88 := zU_u hZ85U hZ88 (Or.inl rfl)
                            have hZ88K : zC [1, 2] Z Z88 := zC_u hZ85K hZ88 (zcl_2w (by omega) rfl)
                            intro μ9 e9
                            replace e9 := e9.trans (zm_wI (Z := Z85) (ν := ν) hZ88 (show ((0 : Nat) : Int) = 0 from rfl) (show ((0 : Nat) : Int) = 0 from rfl) (i3I (y := (212 + 20 * a1)) (i3A (i3A (show (200 : Int32) = i3 200 from rfl) (i3M (show (20 : Int32) = i3 20 from rfl) (rfl : i3 a1 = i3 a1))) (show (12 : Int32) = i3 12 from rfl)) (by omega) (by omega) (by omega)) (i3W (i3A (zm_rd (Z := Z85) (ν := ν) (k := 2) (show ((0 : Nat) : Int) = 0 from rfl) (show ((0 : Nat) : Int) = 0 from rfl) (i3I (y := (212 + 20 * a1)) (i3A (i3A (show (200 : Int32) = i3 200 from rfl) (i3M (show (20 : Int32) = i3 20 from rfl) (rfl : i3 a1 = i3 a1))) (show (12 : Int32) = i3 12 from rfl)) (by omega) (by omega) (by omega))) (show (1 : Int32) = i3 1 from rfl))))
                            subst e9
                            refine wz_i0 (i3O (n := 4400) (i3A (i3A (show (200 : Int32) = i3 200 from rfl) (i3M (show (20 : Int32) = i3 20 from rfl) (rfl : i3 a1 = i3 a1))) (show (13 : Int32) = i3 13 from rfl)) (by omega) (by omega) (by omega)) ?_
                            obtain ⟨Z89, hZ89⟩ := zx (zu Z88 2 0 0 (213 + 20 * a1) v40)
                            replace hP := zl_e hP hZ89
                            have hZ89I := zM_u2 hZ88I hZ89 (lo := -1) (hi := 20) (zs_200_13 (x := a1) (by omega) (by omega) (by omega)) (by omega) ⟨by decide, by decide⟩ (by simp only [zsp]; omega)
                            have hZ89U : zU [] Z Z89 := zU_u hZ88U hZ89 (Or.inl rfl)
                            have hZ89K : zC [1, 2] Z Z89 := zC_u hZ88K hZ89 (zcl_2w (by omega) rfl)
                            intro μ9 e9
                            replace e9 := e9.trans (zm_wI (Z := Z88) (ν := ν) hZ89 (show ((0 : Nat) : Int) = 0 from rfl) (show ((0 : Nat) : Int) = 0 from rfl) (i3I (y := (213 + 20 * a1)) (i3A (i3A (show (200 : Int32) = i3 200 from rfl) (i3M (show (20 : Int32) = i3 20 from rfl) (rfl : i3 a1 = i3 a1))) (show (13 : Int32) = i3 13 from rfl)) (by omega) (by omega) (by omega)) (rfl : i3 v40 = i3 v40))
                            subst e9
                            have r90 := zM_k hZ89I 2 0 0 3810 (lo := 0) (hi := 99999) (by decide) rfl
                            have r91 := z_mul (x := (Z89 2 0 0 3810)) (y := a2) (a := 99999) (b := 20) (by omega) (by omega) (by omega) (by omega)
                            obtain ⟨Z92, hZ92, c9, hZ92I, kZ92, jZ92⟩ := sp_403 (ν := ν) hZ89I (a1 := 0) (by omega) (a2 := 6) (by omega) (a3 := ((Z89 2 0 0 3810) * a2)) (by omega) (a4 := a1) (by omega) (zbh (c := 0) (k := 1) hM (Nat.le_of_ble_eq_true rfl))
                            have hZ92U : zU [] Z Z92 := zU_t hZ89U jZ92 zU_b0
                            have hZ92K : zC [1, 2] Z Z92 := zC_t hZ89K kZ92 (by decide)
                            replace hP := zl_e hP hZ92
                            refine wz_cV_of (zas (zcons rfl (zcons (zvi (show (0 : Int32) = i3 0 from rfl)) (zcons (zvi (show (6 : Int32) = i3 6 from rfl)) (zcons (zvi (i3M (zm_rd (Z := Z89) (ν := ν) (k := 2) (show ((0 : Nat) : Int) = 0 from rfl) (show ((0 : Nat) : Int) = 0 from rfl) (show ((3810 : Nat) : Int) = 3810 from rfl)) (rfl : i3 a2 = i3 a2))) (zcons (zvi (rfl : i3 a1 = i3 a1)) rfl))))) c9) ?_
                            clear c9
                            refine wz_i0 (i3O (n := 4400) (i3A (i3A (show (200 : Int32) = i3 200 from rfl) (i3M (show (20 : Int32) = i3 20 from rfl) (rfl : i3 a1 = i3 a1))) (show (9 : Int32) = i3 9 from rfl)) (by omega) (by omega) (by omega)) ?_
                            have r93 := zM_k hZ92I 2 0 0 (209 + 20 * a1) (lo := -1) (hi := 3) (by decide) (zs_200_9 (x := a1) (by omega) (by omega) (by omega))
                            exact zlY hP (zm_rd (Z := Z92) (ν := ν) (k := 2) (show ((0 : Nat) : Int) = 0 from rfl) (show ((0 : Nat) : Int) = 0 from rfl) (i3I (y := (209 + 20 * a1)) (i3A (i3A (show (200 : Int32) = i3 200 from rfl) (i3M (show (20 : Int32) = i3 20 from rfl) (rfl : i3 a1 = i3 a1))) (show (9 : Int32) = i3 9 from rfl)) (by omega) (by omega) (by omega))) (.inl rfl) ⟨hZ92I, hZ92K, hZ92U⟩
                      · replace hP := zE_n hP h41
                        obtain ⟨v94, hv94, c9, lv94, uv94⟩ := sp_326 (ν := ν) hZ39I (a1 := a1) (by omega) (zbh (c := 0) (k := 0) hM (Nat.le_of_ble_eq_true rfl))
                        replace hP := zl_e hP hv94
                        refine wz_cI_of (zas (zcons rfl (zcons (zvi (rfl : i3 a1 = i3 a1)) rfl)) c9) ?_
                        clear c9
                        refine wz_br (i3Le (rfl : i3 v94 = i3 v94) (show (0 : Int32) = i3 0 from rfl) (by omega) (by omega) (by omega) (by omega)) (fun h95 => ?_) (fun h95 => ?_)
                        · replace hP := zE_p hP h95
                          refine wz_i0 (i3O (n := 4400) (i3A (i3A (show (200 : Int32) = i3 200 from rfl) (i3M (show (20 : Int32) = i3 20 from rfl) (rfl : i3 a1 = i3 a1))) (show (9 : Int32) = i3 9 from rfl)) (by omega) (by omega) (by omega)) ?_
                          obtain ⟨Z96, hZ96⟩ := zx (zu Z39 2 0 0 (209 + 20 * a1) 0)
                          replace hP := zl_e hP hZ96
                          have hZ96I := zM_02 hZ39I hZ96 (by simp only [zsp]; omega)
                          have hZ96U : zU [] Z Z96 := zU_u hZ39U hZ96 (Or.inl rfl)
                          have hZ96K : zC [1, 2] Z Z96 := zC_u hZ39K hZ96 (zcl_2w (by omega) rfl)
                          intro μ9 e9
                          replace e9 := e9.trans (zm_wI (Z := Z39) (ν := ν) hZ96 (show ((0 : Nat) : Int) = 0 from rfl) (show ((0 : Nat) : Int) = 0 from rfl) (i3I (y := (209 + 20 * a1)) (i3A (i3A (show (200 : Int32) = i3 200 from rfl) (i3M (show (20 : Int32) = i3 20 from rfl) (rfl : i3 a1 = i3 a1))) (show (9 : Int32) = i3 9 from rfl)) (by omega) (by omega) (by omega)) (show (0 : Int32) = i3 0 from rfl))
                          subst e9
                          refine wz_i0 (i3O (n := 4400) (i3A (i3A (show (200 : Int32) = i3 200 from rfl) (i3M (show (20 : Int32) = i3 20 from rfl) (rfl : i3 a1 = i3 a1))) (show (12 : Int32) = i3 12 from rfl)) (by omega) (by omega) (by omega)) ?_
                          refine wz_i0 (i3O (n := 4400) (i3A (i3A (show (200 : Int32) = i3 200 from rfl) (i3M (show (20 : Int32) = i3 20 from rfl) (rfl : i3 a1 = i3 a1))) (show (12 : Int32) = i3 12 from rfl)) (by omega) (by omega) (by omega)) ?_
                          have r97 := zM_f hZ96I 2 0 0 (212 + 20 * a1)
                          have r98 := w3_r ((Z96 2 0 0 (212 + 20 * a1)) + 1)
                          obtain ⟨Z99, hZ99⟩ := zx (zu Z96 2 0 0 (212 + 20 * a1) (w3 ((Z96 2 0 0 (212 + 20 * a1)) + 1)))
                          replace hP := zl_e hP hZ99
                          have hZ99I := zM_u2 hZ96I hZ99 (lo := -2147483648) (hi := 2147483647) (zs_200_12 (x := a1) (by omega) (by omega) (by omega)) (by omega) ⟨by decide, by decide⟩ (by simp only [zsp]; omega)
                          have hZ99U : zU [] Z Z99 := zU_u hZ96U hZ99 (Or.inl rfl)
                          have hZ99K : zC [1, 2] Z Z99 := zC_u hZ96K hZ99 (zcl_2w (by omega) rfl)
                          intro μ9 e9
                          replace e9 := e9.trans (zm_wI (Z := Z96) (ν := ν) hZ99 (show ((0 : Nat) : Int) = 0 from rfl) (show ((0 : Nat) : Int) = 0 from rfl) (i3I (y := (212 + 20 * a1)) (i3A (i3A (show (200 : Int32) = i3 200 from rfl) (i3M (show (20 : Int32) = i3 20 from rfl) (rfl : i3 a1 = i3 a1))) (show (12 : Int32) = i3 12 from rfl)) (by omega) (by omega) (by omega)) (i3W (i3A (zm_rd (Z := Z96) (ν := ν) (k := 2) (show ((0 : Nat) : Int) = 0 from rfl) (show ((0 : Nat) : Int) = 0 from rfl) (i3I (y := (212 + 20 * a1)) (i3A (i3A (show (200 : Int32) = i3 200 from rfl) (i3M (show (20 : Int32) = i3 20 from rfl) (rfl : i3 a1 = i3 a1))) (show (12 : Int32) = i3 12 from rfl)) (by omega) (by omega) (by omega))) (show (1 : Int32) = i3 1 from rfl))))
                          subst e9
                          refine wz_i0 (i3O (n := 4400) (i3A (i3A (show (200 : Int32) = i3 200 from rfl) (i3M (show (20 : Int32) = i3 20 from rfl) (rfl : i3 a1 = i3 a1))) (show (13 : Int32) = i3 13 from rfl)) (by omega) (by omega) (by omega)) ?_
                          obtain ⟨Z100, hZ100⟩ := zx (zu Z99 2 0 0 (213 + 20 * a1) v40)
                          replace hP := zl_e hP hZ100
                          have hZ100I := zM_u2 hZ99I hZ100 (lo := -1) (hi := 20) (zs_200_13 (x := a1) (by omega) (by omega) (by omega)) (by omega) ⟨by decide, by decide⟩ (by simp only [zsp]; omega)
                          have hZ100U : zU [] Z Z100 := zU_u hZ99U hZ100 (Or.inl rfl)
                          have hZ100K : zC [1, 2] Z Z100 := zC_u hZ99K hZ100 (zcl_2w (by omega) rfl)
                          intro μ9 e9
                          replace e9 := e9.trans (zm_wI (Z := Z99) (ν := ν) hZ100 (show ((0 : Nat) : Int) = 0 from rfl) (show ((0 : Nat) : Int) = 0 from rfl) (i3I (y := (213 + 20 * a1)) (i3A (i3A (show (200 : Int32) = i3 200 from rfl) (i3M (show (20 : Int32) = i3 20 from rfl) (rfl : i3 a1 = i3 a1))) (show (13 : Int32) = i3 13 from rfl)) (by omega) (by omega) (by omega)) (rfl : i3 v40 = i3 v40))
                          subst e9
                          have r101 := zM_k hZ100I 2 0 0 3810 (lo := 0) (hi := 99999) (by decide) rfl
                          have r102 := z_mul (x := (Z100 2 0 0 3810)) (y := a2) (a := 99999) (b := 20) (by omega) (by omega) (by omega) (by omega)
                          obtain ⟨Z103, hZ103, c9, hZ103I, kZ103, jZ103⟩ := sp_403 (ν := ν) hZ100I (a1 := 0) (by omega) (a2 := 6) (by omega) (a3 := ((Z100 2 0 0 3810) * a2)) (by omega) (a4 := a1) (by omega) (zbh (c := 0) (k := 1) hM (Nat.le_of_ble_eq_true rfl))
                          have hZ103U : zU [] Z Z103 := zU_t hZ100U jZ103 zU_b0
                          have hZ103K : zC [1, 2] Z Z103 := zC_t hZ100K kZ103 (by decide)
                          replace hP := zl_e hP hZ103
                          refine wz_cV_of (zas (zcons rfl (zcons (zvi (show (0 : Int32) = i3 0 from rfl)) (zcons (zvi (show (6 : Int32) = i3 6 from rfl)) (zcons (zvi (i3M (zm_rd (Z := Z100) (ν := ν) (k := 2) (show ((0 : Nat) : Int) = 0 from rfl) (show ((0 : Nat) : Int) = 0 from rfl) (show ((3810 : Nat) : Int) = 3810 from rfl)) (rfl : i3 a2 = i3 a2))) (zcons (zvi (rfl : i3 a1 = i3 a1)) rfl))))) c9) ?_
                          clear c9
                          refine wz_i0 (i3O (n := 4400) (i3A (i3A (show (200 : Int32) = i3 200 from rfl) (i3M (show (20 : Int32) = i3 20 from rfl) (rfl : i3 a1 = i3 a1))) (show (9 : Int32) = i3 9 from rfl)) (by omega) (by omega) (by omega)) ?_
                          have r104 := zM_k hZ103I 2 0 0 (209 + 20 * a1) (lo := -1) (hi := 3) (by decide) (zs_200_9 (x := a1) (by omega) (by omega) (by omega))
                          exact zlY hP (zm_rd (Z := Z103) (ν := ν) (k := 2) (show ((0 : Nat) : Int) = 0 from rfl) (show ((0 : Nat) : Int) = 0 from rfl) (i3I (y := (209 + 20 * a1)) (i3A (i3A (show (200 : Int32) = i3 200 from rfl) (i3M (show (20 : Int32) = i3 20 from rfl) (rfl : i3 a1 = i3 a1))) (show (9 : Int32) = i3 9 from rfl)) (by omega) (by omega) (by omega))) (.inl rfl) ⟨hZ103I, hZ103K, hZ103U⟩
                        · replace hP := zE_n hP h95
                          refine wz_i0 (i3O (n := 4400) (i3A (i3A (show (200 : Int32) = i3 200 from rfl) (i3M (show (20 : Int32) = i3 20 from rfl) (rfl : i3 a1 = i3 a1))) (show (9 : Int32) = i3 9 from rfl)) (by omega) (by omega) (by omega)) ?_
                          obtain ⟨Z105, hZ105⟩ := zx (zu Z39 2 0 0 (209 + 20 * a1) v94)
                          replace hP := zl_e hP hZ105
                          have hZ105I := zM_u2 hZ39I hZ105 (lo := -1) (hi := 3) (zs_200_9 (x := a1) (by omega) (by omega) (by omega)) (by omega) ⟨by decide, by decide⟩ (by simp only [zsp]; omega)
                          have hZ105U : zU [] Z Z105 := zU_u hZ39U hZ105 (Or.inl rfl)
                          have hZ105K : zC [1, 2] Z Z105 := zC_u hZ39K hZ105 (zcl_2w (by omega) rfl)
                          intro μ9 e9
                          replace e9 := e9.trans (zm_wI (Z := Z39) (ν := ν) hZ105 (show ((0 : Nat) : Int) = 0 from rfl) (show ((0 : Nat) : Int) = 0 from rfl) (i3I (y := (209 + 20 * a1)) (i3A (i3A (show (200 : Int32) = i3 200 from rfl) (i3M (show (20 : Int32) = i3 20 from rfl) (rfl : i3 a1 = i3 a1))) (show (9 : Int32) = i3 9 from rfl)) (by omega) (by omega) (by omega)) (rfl : i3 v94 = i3 v94))
                          subst e9
                          refine wz_i0 (i3O (n := 4400) (i3A (i3A (show (200 : Int32) = i3 200 from rfl) (i3M (show (20 : Int32) = i3 20 from rfl) (rfl : i3 a1 = i3 a1))) (show (12 : Int32) = i3 12 from rfl)) (by omega) (by omega) (by omega)) ?_
                          refine wz_i0 (i3O (n := 4400) (i3A (i3A (show (200 : Int32) = i3 200 from rfl) (i3M (show (20 : Int32) = i3 20 from rfl) (rfl : i3 a1 = i3 a1))) (show (12 : Int32) = i3 12 from rfl)) (by omega) (by omega) (by omega)) ?_
                          have r106 := zM_f hZ105I 2 0 0 (212 + 20 * a1)
                          have r107 := w3_r ((Z105 2 0 0 (212 + 20 * a1)) + 1)
                          obtain ⟨Z108, hZ108⟩ := zx (zu Z105 2 0 0 (212 + 20 * a1) (w3 ((Z105 2 0 0 (212 + 20 * a1)) + 1)))
                          replace hP := zl_e hP hZ108
                          have hZ108I := zM_u2 hZ105I hZ108 (lo := -2147483648) (hi := 2147483647) (zs_200_12 (x := a1) (by omega) (by omega) (by omega)) (by omega) ⟨by decide, by decide⟩ (by simp only [zsp]; omega)
                          have hZ108U : zU [] Z Z108 := zU_u hZ105U hZ108 (Or.inl rfl)
                          have hZ108K : zC [1, 2] Z Z108 := zC_u hZ105K hZ108 (zcl_2w (by omega) rfl)
                          intro μ9 e9
                          replace e9 := e9.trans (zm_wI (Z := Z105) (ν := ν) hZ108 (show ((0 : Nat) : Int) = 0 from rfl) (show ((0 : Nat) : Int) = 0 from rfl) (i3I (y := (212 + 20 * a1)) (i3A (i3A (show (200 : Int32) = i3 200 from rfl) (i3M (show (20 : Int32) = i3 20 from rfl) (rfl : i3 a1 = i3 a1))) (show (12 : Int32) = i3 12 from rfl)) (by omega) (by omega) (by omega)) (i3W (i3A (zm_rd (Z := Z105) (ν := ν) (k := 2) (show ((0 : Nat) : Int) = 0 from rfl) (show ((0 : Nat) : Int) = 0 from rfl) (i3I (y := (212 + 20 * a1)) (i3A (i3A (show (200 : Int32) = i3 200 from rfl) (i3M (show (20 : Int32) = i3 20 from rfl) (rfl : i3 a1 = i3 a1))) (show (12 : Int32) = i3 12 from rfl)) (by omega) (by omega) (by omega))) (show (1 : Int32) = i3 1 from rfl))))
                          subst e9
                          refine wz_i0 (i3O (n := 4400) (i3A (i3A (show (200 : Int32) = i3 200 from rfl) (i3M (show (20 : Int32) = i3 20 from rfl) (rfl : i3 a1 = i3 a1))) (show (13 : Int32) = i3 13 from rfl)) (by omega) (by omega) (by omega)) ?_
                          obtain ⟨Z109, hZ109⟩ := zx (zu Z108 2 0 0 (213 + 20 * a1) v40)
                          replace hP := zl_e hP hZ109
                          have hZ109I := zM_u2 hZ108I hZ109 (lo := -1) (hi := 20) (zs_200_13 (x := a1) (by omega) (by omega) (by omega)) (by omega) ⟨by decide, by decide⟩ (by simp only [zsp]; omega)
                          have hZ109U : zU [] Z Z109 := zU_u hZ108U hZ109 (Or.inl rfl)
                          have hZ109K : zC [1, 2] Z Z109 := zC_u hZ108K hZ109 (zcl_2w (by omega) rfl)
                          intro μ9 e9
                          replace e9 := e9.trans (zm_wI (Z := Z108) (ν := ν) hZ109 (show ((0 : Nat) : Int) = 0 from rfl) (show ((0 : Nat) : Int) = 0 from rfl) (i3I (y := (213 + 20 * a1)) (i3A (i3A (show (200 : Int32) = i3 200 from rfl) (i3M (show (20 : Int32) = i3 20 from rfl) (rfl : i3 a1 = i3 a1))) (show (13 : Int32) = i3 13 from rfl)) (by omega) (by omega) (by omega)) (rfl : i3 v40 = i3 v40))
                          subst e9
                          have r110 := zM_k hZ109I 2 0 0 3810 (lo := 0) (hi := 99999) (by decide) rfl
                          have r111 := z_mul (x := (Z109 2 0 0 3810)) (y := a2) (a := 99999) (b := 20) (by omega) (by omega) (by omega) (by omega)
                          obtain ⟨Z112, hZ112, c9, hZ112I, kZ112, jZ112⟩ := sp_403 (ν := ν) hZ109I (a1 := 0) (by omega) (a2 := 6) (by omega) (a3 := ((Z109 2 0 0 3810) * a2)) (by omega) (a4 := a1) (by omega) (zbh (c := 0) (k := 1) hM (Nat.le_of_ble_eq_true rfl))
                          have hZ112U : zU [] Z Z112 := zU_t hZ109U jZ112 zU_b0
                          have hZ112K : zC [1, 2] Z Z112 := zC_t hZ109K kZ112 (by decide)
                          replace hP := zl_e hP hZ112
                          refine wz_cV_of (zas (zcons rfl (zcons (zvi (show (0 : Int32) = i3 0 from rfl)) (zcons (zvi (show (6 : Int32) = i3 6 from rfl)) (zcons (zvi (i3M (zm_rd (Z := Z109) (ν := ν) (k := 2) (show ((0 : Nat) : Int) = 0 from rfl) (show ((0 : Nat) : Int) = 0 from rfl) (show ((3810 : Nat) : Int) = 3810 from rfl)) (rfl : i3 a2 = i3 a2))) (zcons (zvi (rfl : i3 a1 = i3 a1)) rfl))))) c9) ?_
                          clear c9
                          refine wz_i0 (i3O (n := 4400) (i3A (i3A (show (200 : Int32) = i3 200 from rfl) (i3M (show (20 : Int32) = i3 20 from rfl) (rfl : i3 a1 = i3 a1))) (show (9 : Int32) = i3 9 from rfl)) (by omega) (by omega) (by omega)) ?_
                          have r113 := zM_k hZ112I 2 0 0 (209 + 20 * a1) (lo := -1) (hi := 3) (by decide) (zs_200_9 (x := a1) (by omega) (by omega) (by omega))
                          exact zlY hP (zm_rd (Z := Z112) (ν := ν) (k := 2) (show ((0 : Nat) : Int) = 0 from rfl) (show ((0 : Nat) : Int) = 0 from rfl) (i3I (y := (209 + 20 * a1)) (i3A (i3A (show (200 : Int32) = i3 200 from rfl) (i3M (show (20 : Int32) = i3 20 from rfl) (rfl : i3 a1 = i3 a1))) (show (9 : Int32) = i3 9 from rfl)) (by omega) (by omega) (by omega))) (.inl rfl) ⟨hZ112I, hZ112K, hZ112U⟩
/- yX12_grower -/
def zy_347 (Z : qz_Z) (dm : qz_Z → Int → Int → Int → Int → Int → Int → Int → qz_Z) (a1 : Int) (a2 : Int) : qz_Z × Int := (if a1 < 0 then (zlet (zu Z 1 0 0 2 1) (fun Z5 => (Z5, 0))) else (if 25 < a1 then (zlet (zu Z 1 0 0 2 1) (fun Z7 => (Z7, 0))) else (if a2 < 0 then (zlet (zu Z 1 0 0 2 1) (fun Z9 => (Z9, 0))) else (if 9 < a2 then (zlet (zu Z 1 0 0 2 1) (fun Z11 => (Z11, 0))) else (zlet (zu Z 1 0 0 2 0) (fun Z12 => (if 6 ≤ (Z12 2 0 0 101) then (zlet (zu Z12 1 0 0 2 2) (fun Z15 => (Z15, 0))) else (zlet (zu Z12 1 0 0 2 0) (fun Z16 => (zlet (dm Z16 2 a1 a2 0 0 0 0) (fun Z23 => (zlet (zu Z23 2 0 0 (140 + 2 * (Z23 2 0 0 101)) a1) (fun Z26 => (zlet (zu Z26 2 0 0 (141 + 2 * (Z23 2 0 0 101)) a2) (fun Z27 => (zlet (zu Z27 2 0 0 101 ((Z27 2 0 0 101) + 1)) (fun Z30 => (Z30, (Z23 2 0 0 101)))))))))))))))))))
theorem sy_347 {s : zSM} {Z : qz_Z} {ν : qz_N} (hZ : zM s Z) (gq : Z 1 0 0 35 = 0) (hM : s.2 + 0 ≤ 1000000000) {a1 : Int} (ga1 : -2147483648 ≤ a1 ∧ a1 ≤ 2147483647) {a2 : Int} (ga2 : -2147483648 ≤ a2 ∧ a2 ≤ 2147483647) {dk : qz_Z → qz_Z} {dm : qz_Z → Int → Int → Int → Int → Int → Int → Int → qz_Z} {ν1 : qz_N} (hdm : zDm s ν ν1 Z dk dm) : ∃ (Z1 : qz_Z) (ν2 : qz_N) (v : Int), (Z1, v) = zy_347 Z dm a1 a2 ∧ (ν2 = ν ∨ ν2 = ν1) ∧ qf_347 [.inr (.inr (some (1, 0, 0))), .inl (i3 a1), .inl (i3 a2)] (zm Z ν) = some (zm Z1 ν2, .inl (some (.inl (i3 v)))) ∧ (fun Z1 => zM s Z1 ∧ zC [1, 2, 101, 102, 200] Z Z1 ∧ zU [] Z Z1) Z1 := by
  obtain ⟨P, hP⟩ := zx (zy_347 Z dm a1 a2)
  refine zc_Y (Q := fun Z1 => zM s Z1 ∧ zC [1, 2, 101, 102, 200] Z Z1 ∧ zU [] Z Z1) hP (fw_347 (i3 a1) (i3 a2) _ _ ?_)
  replace hP : zE P (zy_347 Z dm a1 a2) := hP
  unfold zy_347 at hP
  have r1 := zM_k hZ 1 0 0 35 (lo := 0) (hi := 1) (by decide) rfl
  have r2 := zM_k hZ 1 0 0 34 (lo := 0) (hi := 8) (by decide) rfl
  have r3 := zM_f hZ 1 0 0 37
  refine wz_br (i3L (rfl : i3 a1 = i3 a1) (show (0 : Int32) = i3 0 from rfl) (by omega) (by omega) (by omega) (by omega)) (fun h4 => ?_) (fun h4 => ?_)
  · replace hP := zE_p hP h4
    obtain ⟨Z5, hZ5⟩ := zx (zu Z 1 0 0 2 1)
    replace hP := zl_e hP hZ5
    have hZ5I := zM_u hZ hZ5 (lo := -2147483648) (hi := 2147483647) (by decide) rfl (by omega) ⟨by decide, by decide⟩ (Or.inr (by decide)) rfl
    have hZ5U : zU [] Z Z5 := zU_u zU_r hZ5 (Or.inl rfl)
    have hZ5K : zC [1, 2, 101, 102, 200] Z Z5 := zC_u zC_r hZ5 (by decide)
    intro μ9 e9
    replace e9 := e9.trans (zm_wI (Z := Z) (ν := ν) hZ5 (show ((0 : Nat) : Int) = 0 from rfl) (show ((0 : Nat) : Int) = 0 from rfl) (show ((2 : Nat) : Int) = 2 from rfl) (show (1 : Int32) = i3 1 from rfl))
    subst e9
    exact zlY hP (show (0 : Int32) = i3 0 from rfl) (.inl rfl) ⟨hZ5I, hZ5K, hZ5U⟩
  · replace hP := zE_n hP h4
    refine wz_br (i3L (show (25 : Int32) = i3 25 from rfl) (rfl : i3 a1 = i3 a1) (by omega) (by omega) (by omega) (by omega)) (fun h6 => ?_) (fun h6 => ?_)
    · replace hP := zE_p hP h6
      obtain ⟨Z7, hZ7⟩ := zx (zu Z 1 0 0 2 1)
      replace hP := zl_e hP hZ7
      have hZ7I := zM_u hZ hZ7 (lo := -2147483648) (hi := 2147483647) (by decide) rfl (by omega) ⟨by decide, by decide⟩ (Or.inr (by decide)) rfl
      have hZ7U : zU [] Z Z7 := zU_u zU_r hZ7 (Or.inl rfl)
      have hZ7K : zC [1, 2, 101, 102, 200] Z Z7 := zC_u zC_r hZ7 (by decide)
      intro μ9 e9
      replace e9 := e9.trans (zm_wI (Z := Z) (ν := ν) hZ7 (show ((0 : Nat) : Int) = 0 from rfl) (show ((0 : Nat) : Int) = 0 from rfl) (show ((2 : Nat) : Int) = 2 from rfl) (show (1 : Int32) = i3 1 from rfl))
      subst e9
      exact zlY hP (show (0 : Int32) = i3 0 from rfl) (.inl rfl) ⟨hZ7I, hZ7K, hZ7U⟩
    · replace hP := zE_n hP h6
      refine wz_br (i3L (rfl : i3 a2 = i3 a2) (show (0 : Int32) = i3 0 from rfl) (by omega) (by omega) (by omega) (by omega)) (fun h8 => ?_) (fun h8 => ?_)
      · replace hP := zE_p hP h8
        obtain ⟨Z9, hZ9⟩ := zx (zu Z 1 0 0 2 1)
        replace hP := zl_e hP hZ9
        have hZ9I := zM_u hZ hZ9 (lo := -2147483648) (hi := 2147483647) (by decide) rfl (by omega) ⟨by decide, by decide⟩ (Or.inr (by decide)) rfl
        have hZ9U : zU [] Z Z9 := zU_u zU_r hZ9 (Or.inl rfl)
        have hZ9K : zC [1, 2, 101, 102, 200] Z Z9 := zC_u zC_r hZ9 (by decide)
        intro μ9 e9
        replace e9 := e9.trans (zm_wI (Z := Z) (ν := ν) hZ9 (show ((0 : Nat) : Int) = 0 from rfl) (show ((0 : Nat) : Int) = 0 from rfl) (show ((2 : Nat) : Int) = 2 from rfl) (show (1 : Int32) = i3 1 from rfl))
        subst e9
        exact zlY hP (show (0 : Int32) = i3 0 from rfl) (.inl rfl) ⟨hZ9I, hZ9K, hZ9U⟩
      · replace hP := zE_n hP h8
        refine wz_br (i3L (show (9 : Int32) = i3 9 from rfl) (rfl : i3 a2 = i3 a2) (by omega) (by omega) (by omega) (by omega)) (fun h10 => ?_) (fun h10 => ?_)
        · replace hP := zE_p hP h10
          obtain ⟨Z11, hZ11⟩ := zx (zu Z 1 0 0 2 1)
          replace hP := zl_e hP hZ11
          have hZ11I := zM_u hZ hZ11 (lo := -2147483648) (hi := 2147483647) (by decide) rfl (by omega) ⟨by decide, by decide⟩ (Or.inr (by decide)) rfl
          have hZ11U : zU [] Z Z11 := zU_u zU_r hZ11 (Or.inl rfl)
          have hZ11K : zC [1, 2, 101, 102, 200] Z Z11 := zC_u zC_r hZ11 (by decide)
          intro μ9 e9
          replace e9 := e9.trans (zm_wI (Z := Z) (ν := ν) hZ11 (show ((0 : Nat) : Int) = 0 from rfl) (show ((0 : Nat) : Int) = 0 from rfl) (show ((2 : Nat) : Int) = 2 from rfl) (show (1 : Int32) = i3 1 from rfl))
          subst e9
          exact zlY hP (show (0 : Int32) = i3 0 from rfl) (.inl rfl) ⟨hZ11I, hZ11K, hZ11U⟩
        · replace hP := zE_n hP h10
          obtain ⟨Z12, hZ12⟩ := zx (zu Z 1 0 0 2 0)
          replace hP := zl_e hP hZ12
          have hZ12I := zM_0 hZ hZ12 (by decide) (Or.inr (by decide))
          have hZ12U : zU [] Z Z12 := zU_u zU_r hZ12 (Or.inl rfl)
          have hZ12K : zC [1, 2, 101, 102, 200] Z Z12 := zC_u zC_r hZ12 (by decide)
          intro μ9 e9
          replace e9 := e9.trans (zm_wI (Z := Z) (ν := ν) hZ12 (show ((0 : Nat) : Int) = 0 from rfl) (show ((0 : Nat) : Int) = 0 from rfl) (show ((2 : Nat) : Int) = 2 from rfl) (show (0 : Int32) = i3 0 from rfl))
          subst e9
          have r13 := zM_k hZ12I 2 0 0 101 (lo := 0) (hi := 6) (by decide) rfl
          refine wz_br (i3Le (show (6 : Int32) = i3 6 from rfl) (zm_rd (Z := Z12) (ν := ν) (k := 2) (show ((0 : Nat) : Int) = 0 from rfl) (show ((0 : Nat) : Int) = 0 from rfl) (show ((101 : Nat) : Int) = 101 from rfl)) (by omega) (by omega) (by omega) (by omega)) (fun h14 => ?_) (fun h14 => ?_)
          · replace hP := zE_p hP h14
            obtain ⟨Z15, hZ15⟩ := zx (zu Z12 1 0 0 2 2)
            replace hP := zl_e hP hZ15
            have hZ15I := zM_u hZ12I hZ15 (lo := -2147483648) (hi := 2147483647) (by decide) rfl (by omega) ⟨by decide, by decide⟩ (Or.inr (by decide)) rfl
            have hZ15U : zU [] Z Z15 := zU_u hZ12U hZ15 (Or.inl rfl)
            have hZ15K : zC [1, 2, 101, 102, 200] Z Z15 := zC_u hZ12K hZ15 (by decide)
            intro μ9 e9
            replace e9 := e9.trans (zm_wI (Z := Z12) (ν := ν) hZ15 (show ((0 : Nat) : Int) = 0 from rfl) (show ((0 : Nat) : Int) = 0 from rfl) (show ((2 : Nat) : Int) = 2 from rfl) (show (2 : Int32) = i3 2 from rfl))
            subst e9
            exact zlY hP (show (0 : Int32) = i3 0 from rfl) (.inl rfl) ⟨hZ15I, hZ15K, hZ15U⟩
          · replace hP := zE_n hP h14
            obtain ⟨Z16, hZ16⟩ := zx (zu Z12 1 0 0 2 0)
            replace hP := zl_e hP hZ16
            have hZ16I := zM_0 hZ12I hZ16 (by decide) (Or.inr (by decide))
            have hZ16U : zU [] Z Z16 := zU_u hZ12U hZ16 (Or.inl rfl)
            have hZ16K : zC [1, 2, 101, 102, 200] Z Z16 := zC_u hZ12K hZ16 (by decide)
            intro μ9 e9
            replace e9 := e9.trans (zm_wI (Z := Z12) (ν := ν) hZ16 (show ((0 : Nat) : Int) = 0 from rfl) (show ((0 : Nat) : Int) = 0 from rfl) (show ((2 : Nat) : Int) = 2 from rfl) (show (0 : Int32) = i3 0 from rfl))
            subst e9
            have r17 := zM_k hZ16I 1 0 0 35 (lo := 0) (hi := 1) (by decide) rfl
            have q18 := (zu_ne (k' := 1) (b' := 0) (i' := 0) (j' := 35) hZ16 (fun q => absurd q.2.2.2 (by decide))).trans (zu_ne (k' := 1) (b' := 0) (i' := 0) (j' := 35) hZ12 (fun q => absurd q.2.2.2 (by decide)))
            refine wz_i0 (Eq.trans (i3NE (zm_rd (Z := Z16) (ν := ν) (k := 1) (show ((0 : Nat) : Int) = 0 from rfl) (show ((0 : Nat) : Int) = 0 from rfl) (show ((35 : Nat) : Int) = 35 from rfl)) (show (0 : Int32) = i3 0 from rfl) (by omega) (by omega) (by omega) (by omega)) (decide_eq_false (by omega))) ?_
            have r19 := zM_k hZ16I 1 0 0 34 (lo := 0) (hi := 8) (by decide) rfl
            have q20 := (zu_ne (k' := 1) (b' := 0) (i' := 0) (j' := 34) hZ16 (fun q => absurd q.2.2.2 (by decide))).trans (zu_ne (k' := 1) (b' := 0) (i' := 0) (j' := 34) hZ12 (fun q => absurd q.2.2.2 (by decide)))
            have r21 := zM_f hZ16I 1 0 0 37
            have q22 := (zu_ne (k' := 1) (b' := 0) (i' := 0) (j' := 37) hZ16 (fun q => absurd q.2.2.2 (by decide))).trans (zu_ne (k' := 1) (b' := 0) (i' := 0) (j' := 37) hZ12 (fun q => absurd q.2.2.2 (by decide)))
            obtain ⟨c8, c9, hZ23I, dZ23⟩ := hdm Z16 2 a1 a2 0 0 0 0 hZ16I (by omega) (by omega) (by omega) (by omega) (by omega) (by omega) (by omega) (by omega) (by omega) (by omega)
            obtain ⟨Z23, hZ23⟩ := zx (dm Z16 2 a1 a2 0 0 0 0)
            rw [← hZ23] at c9 hZ23I dZ23
            replace hP := zl_e hP hZ23
            refine wz_cV_of (zas (zcons rfl (zcons (zvi (show (-1 : Int32) = i3 (-1) from rfl)) rfl)) c8) ?_
            refine wz_cV_of (zas (zcons rfl (zcons (zvi (show (2 : Int32) = i3 2 from rfl)) (zcons (zvi (rfl : i3 a1 = i3 a1)) (zcons (zvi (rfl : i3 a2 = i3 a2)) (zcons (zvi (show (0 : Int32) = i3 0 from rfl)) (zcons (zvi (show (0 : Int32) = i3 0 from rfl)) (zcons (zvi (show (0 : Int32) = i3 0 from rfl)) (zcons (zvi (show (0 : Int32) = i3 0 from rfl)) rfl)))))))) c9) ?_
            clear c8 c9
            have hZ23K : zC [1, 2, 101, 102, 200] Z Z23 := zC_t hZ16K (zMd_C dZ23) (by decide)
            have hZ23U : zU [] Z Z23 := zU_t hZ16U (zMd_U dZ23) zU_b0
            have r24 := zM_k hZ23I 2 0 0 101 (lo := 0) (hi := 6) (by decide) rfl
            have q25 := (dZ23 2 0 0 101 (by simp)).trans (zu_ne (k' := 2) (b' := 0) (i' := 0) (j' := 101) hZ16 (fun q => absurd q.1 (by decide)))
            refine wz_i0 (i3O (n := 4400) (i3A (show (140 : Int32) = i3 140 from rfl) (i3M (show (2 : Int32) = i3 2 from rfl) (zm_rd (Z := Z23) (ν := ν1) (k := 2) (show ((0 : Nat) : Int) = 0 from rfl) (show ((0 : Nat) : Int) = 0 from rfl) (show ((101 : Nat) : Int) = 101 from rfl)))) (by omega) (by omega) (by omega)) ?_
            obtain ⟨Z26, hZ26⟩ := zx (zu Z23 2 0 0 (140 + 2 * (Z23 2 0 0 101)) a1)
            replace hP := zl_e hP hZ26
            have hZ26I := zM_u2 hZ23I hZ26 (lo := 0) (hi := 25) (zs_140_0 (x := (Z23 2 0 0 101)) (by omega) (by omega) (by omega)) (by omega) ⟨by decide, by decide⟩ (by simp only [zsp]; omega)
            have hZ26U : zU [] Z Z26 := zU_u hZ23U hZ26 (Or.inl rfl)
            have hZ26K : zC [1, 2, 101, 102, 200] Z Z26 := zC_u hZ23K hZ26 (zcl_2w (by omega) rfl)
            intro μ9 e9
            replace e9 := e9.trans (zm_wI (Z := Z23) (ν := ν1) hZ26 (show ((0 : Nat) : Int) = 0 from rfl) (show ((0 : Nat) : Int) = 0 from rfl) (i3I (y := (140 + 2 * (Z23 2 0 0 101))) (i3A (show (140 : Int32) = i3 140 from rfl) (i3M (show (2 : Int32) = i3 2 from rfl) (zm_rd (Z := Z23) (ν := ν1) (k := 2) (show ((0 : Nat) : Int) = 0 from rfl) (show ((0 : Nat) : Int) = 0 from rfl) (show ((101 : Nat) : Int) = 101 from rfl)))) (by omega) (by omega) (by omega)) (rfl : i3 a1 = i3 a1))
            subst e9
            refine wz_i0 (i3O (n := 4400) (i3A (i3A (show (140 : Int32) = i3 140 from rfl) (i3M (show (2 : Int32) = i3 2 from rfl) (zm_rd (Z := Z23) (ν := ν1) (k := 2) (show ((0 : Nat) : Int) = 0 from rfl) (show ((0 : Nat) : Int) = 0 from rfl) (show ((101 : Nat) : Int) = 101 from rfl)))) (show (1 : Int32) = i3 1 from rfl)) (by omega) (by omega) (by omega)) ?_
            obtain ⟨Z27, hZ27⟩ := zx (zu Z26 2 0 0 (141 + 2 * (Z23 2 0 0 101)) a2)
            replace hP := zl_e hP hZ27
            have hZ27I := zM_u2 hZ26I hZ27 (lo := 0) (hi := 9) (zs_140_1 (x := (Z23 2 0 0 101)) (by omega) (by omega) (by omega)) (by omega) ⟨by decide, by decide⟩ (by simp only [zsp]; omega)
            have hZ27U : zU [] Z Z27 := zU_u hZ26U hZ27 (Or.inl rfl)
            have hZ27K : zC [1, 2, 101, 102, 200] Z Z27 := zC_u hZ26K hZ27 (zcl_2w (by omega) rfl)
            intro μ9 e9
            replace e9 := e9.trans (zm_wI (Z := Z26) (ν := ν1) hZ27 (show ((0 : Nat) : Int) = 0 from rfl) (show ((0 : Nat) : Int) = 0 from rfl) (i3I (y := (141 + 2 * (Z23 2 0 0 101))) (i3A (i3A (show (140 : Int32) = i3 140 from rfl) (i3M (show (2 : Int32) = i3 2 from rfl) (zm_rd (Z := Z23) (ν := ν1) (k := 2) (show ((0 : Nat) : Int) = 0 from rfl) (show ((0 : Nat) : Int) = 0 from rfl) (show ((101 : Nat) : Int) = 101 from rfl)))) (show (1 : Int32) = i3 1 from rfl)) (by omega) (by omega) (by omega)) (rfl : i3 a2 = i3 a2))
            subst e9
            have r28 := zM_k hZ27I 2 0 0 101 (lo := 0) (hi := 6) (by decide) rfl
            have q29 := (zu_ne (k' := 2) (b' := 0) (i' := 0) (j' := 101) hZ27 (fun q => absurd q.2.2.2 (by omega))).trans (zu_ne (k' := 2) (b' := 0) (i' := 0) (j' := 101) hZ26 (fun q => absurd q.2.2.2 (by omega)))
            obtain ⟨Z30, hZ30⟩ := zx (zu Z27 2 0 0 101 ((Z27 2 0 0 101) + 1))
            replace hP := zl_e hP hZ30
            have hZ30I := zM_u2 hZ27I hZ30 (lo := 0) (hi := 6) rfl (by omega) ⟨by decide, by decide⟩ (by simp only [zsp]; omega)
            have hZ30U : zU [] Z Z30 := zU_u hZ27U hZ30 (Or.inl rfl)
            have hZ30K : zC [1, 2, 101, 102, 200] Z Z30 := zC_u hZ27K hZ30 (by decide)
            intro μ9 e9
            replace e9 := e9.trans (zm_wI (Z := Z27) (ν := ν1) hZ30 (show ((0 : Nat) : Int) = 0 from rfl) (show ((0 : Nat) : Int) = 0 from rfl) (show ((101 : Nat) : Int) = 101 from rfl) (i3A (zm_rd (Z := Z27) (ν := ν1) (k := 2) (show ((0 : Nat) : Int) = 0 from rfl) (show ((0 : Nat) : Int) = 0 from rfl) (show ((101 : Nat) : Int) = 101 from rfl)) (show (1 : Int32) = i3 1 from rfl)))
            subst e9
            exact zlY hP (zm_rd (Z := Z23) (ν := ν1) (k := 2) (show ((0 : Nat) : Int) = 0 from rfl) (show ((0 : Nat) : Int) = 0 from rfl) (show ((101 : Nat) : Int) = 101 from rfl)) (.inr rfl) ⟨hZ30I, hZ30K, hZ30U⟩

theorem sq_347 {s : zSM} {Z : qz_Z} {ν : qz_N} (hZ : zM s Z) (gq : Z 1 0 0 35 = 1) (hM : s.2 + 0 ≤ 1000000000) {a1 : Int} (ga1 : -2147483648 ≤ a1 ∧ a1 ≤ 2147483647) {a2 : Int} (ga2 : -2147483648 ≤ a2 ∧ a2 ≤ 2147483647) {ν1 : qz_N} : ∃ (Z1 : qz_Z) (ν2 : qz_N) (v : Int), (Z1, v) = zy_347 Z zq0 a1 a2 ∧ (ν2 = ν ∨ ν2 = ν1) ∧ qf_347 [.inr (.inr (some (1, 0, 0))), .inl (i3 a1), .inl (i3 a2)] (zm Z ν) = some (zm Z1 ν2, .inl (some (.inl (i3 v)))) ∧ (fun Z1 => zM s Z1 ∧ zC [1, 2] Z Z1 ∧ zU [] Z Z1) Z1 := by
  obtain ⟨P, hP⟩ := zx (zy_347 Z zq0 a1 a2)
  refine zc_Y (Q := fun Z1 => zM s Z1 ∧ zC [1, 2] Z Z1 ∧ zU [] Z Z1) hP (fw_347 (i3 a1) (i3 a2) _ _ ?_)
  replace hP : zE P (zy_347 Z zq0 a1 a2) := hP
  unfold zy_347 at hP
  have r1 := zM_k hZ 1 0 0 35 (lo := 0) (hi := 1) (by decide) rfl
  have r2 := zM_k hZ 1 0 0 34 (lo := 0) (hi := 8) (by decide) rfl
  have r3 := zM_f hZ 1 0 0 37
  refine wz_br (i3L (rfl : i3 a1 = i3 a1) (show (0 : Int32) = i3 0 from rfl) (by omega) (by omega) (by omega) (by omega)) (fun h4 => ?_) (fun h4 => ?_)
  · replace hP := zE_p hP h4
    obtain ⟨Z5, hZ5⟩ := zx (zu Z 1 0 0 2 1)
    replace hP := zl_e hP hZ5
    have hZ5I := zM_u hZ hZ5 (lo := -2147483648) (hi := 2147483647) (by decide) rfl (by omega) ⟨by decide, by decide⟩ (Or.inr (by decide)) rfl
    have hZ5U : zU [] Z Z5 := zU_u zU_r hZ5 (Or.inl rfl)
    have hZ5K : zC [1, 2] Z Z5 := zC_u zC_r hZ5 (by decide)
    intro μ9 e9
    replace e9 := e9.trans (zm_wI (Z := Z) (ν := ν) hZ5 (show ((0 : Nat) : Int) = 0 from rfl) (show ((0 : Nat) : Int) = 0 from rfl) (show ((2 : Nat) : Int) = 2 from rfl) (show (1 : Int32) = i3 1 from rfl))
    subst e9
    exact zlY hP (show (0 : Int32) = i3 0 from rfl) (.inl rfl) ⟨hZ5I, hZ5K, hZ5U⟩
  · replace hP := zE_n hP h4
    refine wz_br (i3L (show (25 : Int32) = i3 25 from rfl) (rfl : i3 a1 = i3 a1) (by omega) (by omega) (by omega) (by omega)) (fun h6 => ?_) (fun h6 => ?_)
    · replace hP := zE_p hP h6
      obtain ⟨Z7, hZ7⟩ := zx (zu Z 1 0 0 2 1)
      replace hP := zl_e hP hZ7
      have hZ7I := zM_u hZ hZ7 (lo := -2147483648) (hi := 2147483647) (by decide) rfl (by omega) ⟨by decide, by decide⟩ (Or.inr (by decide)) rfl
      have hZ7U : zU [] Z Z7 := zU_u zU_r hZ7 (Or.inl rfl)
      have hZ7K : zC [1, 2] Z Z7 := zC_u zC_r hZ7 (by decide)
      intro μ9 e9
      replace e9 := e9.trans (zm_wI (Z := Z) (ν := ν) hZ7 (show ((0 : Nat) : Int) = 0 from rfl) (show ((0 : Nat) : Int) = 0 from rfl) (show ((2 : Nat) : Int) = 2 from rfl) (show (1 : Int32) = i3 1 from rfl))
      subst e9
      exact zlY hP (show (0 : Int32) = i3 0 from rfl) (.inl rfl) ⟨hZ7I, hZ7K, hZ7U⟩
    · replace hP := zE_n hP h6
      refine wz_br (i3L (rfl : i3 a2 = i3 a2) (show (0 : Int32) = i3 0 from rfl) (by omega) (by omega) (by omega) (by omega)) (fun h8 => ?_) (fun h8 => ?_)
      · replace hP := zE_p hP h8
        obtain ⟨Z9, hZ9⟩ := zx (zu Z 1 0 0 2 1)
        replace hP := zl_e hP hZ9
        have hZ9I := zM_u hZ hZ9 (lo := -2147483648) (hi := 2147483647) (by decide) rfl (by omega) ⟨by decide, by decide⟩ (Or.inr (by decide)) rfl
        have hZ9U : zU [] Z Z9 := zU_u zU_r hZ9 (Or.inl rfl)
        have hZ9K : zC [1, 2] Z Z9 := zC_u zC_r hZ9 (by decide)
        intro μ9 e9
        replace e9 := e9.trans (zm_wI (Z := Z) (ν := ν) hZ9 (show ((0 : Nat) : Int) = 0 from rfl) (show ((0 : Nat) : Int) = 0 from rfl) (show ((2 : Nat) : Int) = 2 from rfl) (show (1 : Int32) = i3 1 from rfl))
        subst e9
        exact zlY hP (show (0 : Int32) = i3 0 from rfl) (.inl rfl) ⟨hZ9I, hZ9K, hZ9U⟩
      · replace hP := zE_n hP h8
        refine wz_br (i3L (show (9 : Int32) = i3 9 from rfl) (rfl : i3 a2 = i3 a2) (by omega) (by omega) (by omega) (by omega)) (fun h10 => ?_) (fun h10 => ?_)
        · replace hP := zE_p hP h10
          obtain ⟨Z11, hZ11⟩ := zx (zu Z 1 0 0 2 1)
          replace hP := zl_e hP hZ11
          have hZ11I := zM_u hZ hZ11 (lo := -2147483648) (hi := 2147483647) (by decide) rfl (by omega) ⟨by decide, by decide⟩ (Or.inr (by decide)) rfl
          have hZ11U : zU [] Z Z11 := zU_u zU_r hZ11 (Or.inl rfl)
          have hZ11K : zC [1, 2] Z Z11 := zC_u zC_r hZ11 (by decide)
          intro μ9 e9
          replace e9 := e9.trans (zm_wI (Z := Z) (ν := ν) hZ11 (show ((0 : Nat) : Int) = 0 from rfl) (show ((0 : Nat) : Int) = 0 from rfl) (show ((2 : Nat) : Int) = 2 from rfl) (show (1 : Int32) = i3 1 from rfl))
          subst e9
          exact zlY hP (show (0 : Int32) = i3 0 from rfl) (.inl rfl) ⟨hZ11I, hZ11K, hZ11U⟩
        · replace hP := zE_n hP h10
          obtain ⟨Z12, hZ12⟩ := zx (zu Z 1 0 0 2 0)
          replace hP := zl_e hP hZ12
          have hZ12I := zM_0 hZ hZ12 (by decide) (Or.inr (by decide))
          have hZ12U : zU [] Z Z12 := zU_u zU_r hZ12 (Or.inl rfl)
          have hZ12K : zC [1, 2] Z Z12 := zC_u zC_r hZ12 (by decide)
          intro μ9 e9
          replace e9 := e9.trans (zm_wI (Z := Z) (ν := ν) hZ12 (show ((0 : Nat) : Int) = 0 from rfl) (show ((0 : Nat) : Int) = 0 from rfl) (show ((2 : Nat) : Int) = 2 from rfl) (show (0 : Int32) = i3 0 from rfl))
          subst e9
          have r13 := zM_k hZ12I 2 0 0 101 (lo := 0) (hi := 6) (by decide) rfl
          refine wz_br (i3Le (show (6 : Int32) = i3 6 from rfl) (zm_rd (Z := Z12) (ν := ν) (k := 2) (show ((0 : Nat) : Int) = 0 from rfl) (show ((0 : Nat) : Int) = 0 from rfl) (show ((101 : Nat) : Int) = 101 from rfl)) (by omega) (by omega) (by omega) (by omega)) (fun h14 => ?_) (fun h14 => ?_)
          · replace hP := zE_p hP h14
            obtain ⟨Z15, hZ15⟩ := zx (zu Z12 1 0 0 2 2)
            replace hP := zl_e hP hZ15
            have hZ15I := zM_u hZ12I hZ15 (lo := -2147483648) (hi := 2147483647) (by decide) rfl (by omega) ⟨by decide, by decide⟩ (Or.inr (by decide)) rfl
            have hZ15U : zU [] Z Z15 := zU_u hZ12U hZ15 (Or.inl rfl)
            have hZ15K : zC [1, 2] Z Z15 := zC_u hZ12K hZ15 (by decide)
            intro μ9 e9
            replace e9 := e9.trans (zm_wI (Z := Z12) (ν := ν) hZ15 (show ((0 : Nat) : Int) = 0 from rfl) (show ((0 : Nat) : Int) = 0 from rfl) (show ((2 : Nat) : Int) = 2 from rfl) (show (2 : Int32) = i3 2 from rfl))
            subst e9
            exact zlY hP (show (0 : Int32) = i3 0 from rfl) (.inl rfl) ⟨hZ15I, hZ15K, hZ15U⟩
          · replace hP := zE_n hP h14
            obtain ⟨Z16, hZ16⟩ := zx (zu Z12 1 0 0 2 0)
            replace hP := zl_e hP hZ16
            have hZ16I := zM_0 hZ12I hZ16 (by decide) (Or.inr (by decide))
            have hZ16U : zU [] Z Z16 := zU_u hZ12U hZ16 (Or.inl rfl)
            have hZ16K : zC [1, 2] Z Z16 := zC_u hZ12K hZ16 (by decide)
            intro μ9 e9
            replace e9 := e9.trans (zm_wI (Z := Z12) (ν := ν) hZ16 (show ((0 : Nat) : Int) = 0 from rfl) (show ((0 : Nat) : Int) = 0 from rfl) (show ((2 : Nat) : Int) = 2 from rfl) (show (0 : Int32) = i3 0 from rfl))
            subst e9
            have r17 := zM_k hZ16I 1 0 0 35 (lo := 0) (hi := 1) (by decide) rfl
            have q18 := (zu_ne (k' := 1) (b' := 0) (i' := 0) (j' := 35) hZ16 (fun q => absurd q.2.2.2 (by decide))).trans (zu_ne (k' := 1) (b' := 0) (i' := 0) (j' := 35) hZ12 (fun q => absurd q.2.2.2 (by decide)))
            refine wz_i1 (Eq.trans (i3NE (zm_rd (Z := Z16) (ν := ν) (k := 1) (show ((0 : Nat) : Int) = 0 from rfl) (show ((0 : Nat) : Int) = 0 from rfl) (show ((35 : Nat) : Int) = 35 from rfl)) (show (0 : Int32) = i3 0 from rfl) (by omega) (by omega) (by omega) (by omega)) (decide_eq_true (by omega))) ?_
            replace hP := zl_q hP (rfl : _ = Z16)
            have r19 := zM_k hZ16I 2 0 0 101 (lo := 0) (hi := 6) (by decide) rfl
            have q20 := zu_ne (k' := 2) (b' := 0) (i' := 0) (j' := 101) hZ16 (fun q => absurd q.1 (by decide))
            refine wz_i0 (i3O (n := 4400) (i3A (show (140 : Int32) = i3 140 from rfl) (i3M (show (2 : Int32) = i3 2 from rfl) (zm_rd (Z := Z16) (ν := ν) (k := 2) (show ((0 : Nat) : Int) = 0 from rfl) (show ((0 : Nat) : Int) = 0 from rfl) (show ((101 : Nat) : Int) = 101 from rfl)))) (by omega) (by omega) (by omega)) ?_
            obtain ⟨Z21, hZ21⟩ := zx (zu Z16 2 0 0 (140 + 2 * (Z16 2 0 0 101)) a1)
            replace hP := zl_e hP hZ21
            have hZ21I := zM_u2 hZ16I hZ21 (lo := 0) (hi := 25) (zs_140_0 (x := (Z16 2 0 0 101)) (by omega) (by omega) (by omega)) (by omega) ⟨by decide, by decide⟩ (by simp only [zsp]; omega)
            have hZ21U : zU [] Z Z21 := zU_u hZ16U hZ21 (Or.inl rfl)
            have hZ21K : zC [1, 2] Z Z21 := zC_u hZ16K hZ21 (zcl_2w (by omega) rfl)
            intro μ9 e9
            replace e9 := e9.trans (zm_wI (Z := Z16) (ν := ν) hZ21 (show ((0 : Nat) : Int) = 0 from rfl) (show ((0 : Nat) : Int) = 0 from rfl) (i3I (y := (140 + 2 * (Z16 2 0 0 101))) (i3A (show (140 : Int32) = i3 140 from rfl) (i3M (show (2 : Int32) = i3 2 from rfl) (zm_rd (Z := Z16) (ν := ν) (k := 2) (show ((0 : Nat) : Int) = 0 from rfl) (show ((0 : Nat) : Int) = 0 from rfl) (show ((101 : Nat) : Int) = 101 from rfl)))) (by omega) (by omega) (by omega)) (rfl : i3 a1 = i3 a1))
            subst e9
            refine wz_i0 (i3O (n := 4400) (i3A (i3A (show (140 : Int32) = i3 140 from rfl) (i3M (show (2 : Int32) = i3 2 from rfl) (zm_rd (Z := Z16) (ν := ν) (k := 2) (show ((0 : Nat) : Int) = 0 from rfl) (show ((0 : Nat) : Int) = 0 from rfl) (show ((101 : Nat) : Int) = 101 from rfl)))) (show (1 : Int32) = i3 1 from rfl)) (by omega) (by omega) (by omega)) ?_
            obtain ⟨Z22, hZ22⟩ := zx (zu Z21 2 0 0 (141 + 2 * (Z16 2 0 0 101)) a2)
            replace hP := zl_e hP hZ22
            have hZ22I := zM_u2 hZ21I hZ22 (lo := 0) (hi := 9) (zs_140_1 (x := (Z16 2 0 0 101)) (by omega) (by omega) (by omega)) (by omega) ⟨by decide, by decide⟩ (by simp only [zsp]; omega)
            have hZ22U : zU [] Z Z22 := zU_u hZ21U hZ22 (Or.inl rfl)
            have hZ22K : zC [1, 2] Z Z22 := zC_u hZ21K hZ22 (zcl_2w (by omega) rfl)
            intro μ9 e9
            replace e9 := e9.trans (zm_wI (Z := Z21) (ν := ν) hZ22 (show ((0 : Nat) : Int) = 0 from rfl) (show ((0 : Nat) : Int) = 0 from rfl) (i3I (y := (141 + 2 * (Z16 2 0 0 101))) (i3A (i3A (show (140 : Int32) = i3 140 from rfl) (i3M (show (2 : Int32) = i3 2 from rfl) (zm_rd (Z := Z16) (ν := ν) (k := 2) (show ((0 : Nat) : Int) = 0 from rfl) (show ((0 : Nat) : Int) = 0 from rfl) (show ((101 : Nat) : Int) = 101 from rfl)))) (show (1 : Int32) = i3 1 from rfl)) (by omega) (by omega) (by omega)) (rfl : i3 a2 = i3 a2))
            subst e9
            have r23 := zM_k hZ22I 2 0 0 101 (lo := 0) (hi := 6) (by decide) rfl
            have q24 := (zu_ne (k' := 2) (b' := 0) (i' := 0) (j' := 101) hZ22 (fun q => absurd q.2.2.2 (by omega))).trans (zu_ne (k' := 2) (b' := 0) (i' := 0) (j' := 101) hZ21 (fun q => absurd q.2.2.2 (by omega)))
            obtain ⟨Z25, hZ25⟩ := zx (zu Z22 2 0 0 101 ((Z22 2 0 0 101) + 1))
            replace hP := zl_e hP hZ25
            have hZ25I := zM_u2 hZ22I hZ25 (lo := 0) (hi := 6) rfl (by omega) ⟨by decide, by decide⟩ (by simp only [zsp]; omega)
            have hZ25U : zU [] Z Z25 := zU_u hZ22U hZ25 (Or.inl rfl)
            have hZ25K : zC [1, 2] Z Z25 := zC_u hZ22K hZ25 (by decide)
            intro μ9 e9
            replace e9 := e9.trans (zm_wI (Z := Z22) (ν := ν) hZ25 (show ((0 : Nat) : Int) = 0 from rfl) (show ((0 : Nat) : Int) = 0 from rfl) (show ((101 : Nat) : Int) = 101 from rfl) (i3A (zm_rd (Z := Z22) (ν := ν) (k := 2) (show ((0 : Nat) : Int) = 0 from rfl) (show ((0 : Nat) : Int) = 0 from rfl) (show ((101 : Nat) : Int) = 101 from rfl)) (show (1 : Int32) = i3 1 from rfl)))
            subst e9
            exact zlY hP (zm_rd (Z := Z16) (ν := ν) (k := 2) (show ((0 : Nat) : Int) = 0 from rfl) (show ((0 : Nat) : Int) = 0 from rfl) (show ((101 : Nat) : Int) = 101 from rfl)) (.inl rfl) ⟨hZ25I, hZ25K, hZ25U⟩
/- yX12_dSoldOf -/
def zl_329_1 (x1 : Int) : Nat → qz_Z → Int → Int → Int × Int
  | 0, Z, x2, x3 => (x2, x3)
  | m + 1, Z, x2, x3 => (if (Z 2 0 0 2000) ≤ x3 then (x2, x3) else (if (Z 2 0 0 (2010 + 16 * x3)) ≠ x1 then zl_329_1 x1 m Z (x2 + 0) (x3 + 1) else zl_329_1 x1 m Z (w3 (x2 + (Z 2 0 0 (2013 + 16 * x3)))) (x3 + 1)))
theorem sl_329_1 {s : zSM} {Z : qz_Z} {ν : qz_N} (hZ : zM s Z) (hM : s.2 + 0 ≤ 1000000000) {x1 : Int} (gx1 : 0 ≤ x1 ∧ x1 ≤ 47) {x2 : Int} (gx2 : -2147483648 ≤ x2 ∧ x2 ≤ 2147483647) {x3 : Int} (gx3 : 0 ≤ x3 ∧ x3 ≤ 60) {k : wz_K} {R : wz_R} {L : qz_L} (hL : qz_fg [true, true, true, true] L = [some (.inr (.inr (some (1, 0, 0)))), some (.inl (i3 x1)), some (.inl (i3 x2)), some (.inl (i3 x3))]) {T : Int × Int} (hP : zE T (zl_329_1 x1 ((60 - x3).toNat + 1) Z x2 x3)) (hk : ∀ (L9 : qz_L) (yx2 yx3 : Int), qz_fg [false, false, true, false] L9 = [none, none, some (.inl (i3 yx2)), none] → (-2147483648 ≤ yx2 ∧ yx2 ≤ 2147483647) → (0 ≤ yx3 ∧ yx3 ≤ 60) → zE T ((yx2, yx3)) → k 0 (L9, [], zm Z ν)) : wz_loop qb_329_1 65536 k R (L, [], zm Z ν) := by
  refine wz_lp sb_329_1 (fun m x => ∃ x2 : Int, ∃ x3 : Int, qz_fg [true, true, true, true] x.1 = [some (.inr (.inr (some (1, 0, 0)))), some (.inl (i3 x1)), some (.inl (i3 x2)), some (.inl (i3 x3))] ∧ x.2 = ([], zm Z ν) ∧ m = (60 - x3).toNat ∧ (-2147483648 ≤ x2 ∧ x2 ≤ 2147483647) ∧ (0 ≤ x3 ∧ x3 ≤ 60) ∧ zE T (zl_329_1 x1 (m + 1) Z x2 x3)) ?_ 65536 ((60 - x3).toNat) _ (by omega) ⟨x2, x3, hL, rfl, rfl, gx2, gx3, hP⟩
  clear hP gx2 gx3 hL
  clear x2 x3
  rintro m ⟨L, st, μ⟩ ⟨x2, x3, hL, hx, hm, gx2, gx3, hP⟩
  cases hx
  refine fb_329_1 (i3 x1) (i3 x2) (i3 x3) _ _ _ _ hL ?_
  have r1 := zM_k hZ 2 0 0 2000 (lo := 0) (hi := 60) (by decide) rfl
  refine wz_br (i3Le (zm_rd (Z := Z) (ν := ν) (k := 2) (show ((0 : Nat) : Int) = 0 from rfl) (show ((0 : Nat) : Int) = 0 from rfl) (show ((2000 : Nat) : Int) = 2000 from rfl)) (rfl : i3 x3 = i3 x3) (by omega) (by omega) (by omega) (by omega)) (fun h2 => ?_) (fun h2 => ?_)
  · replace hP := zE_p hP h2
    exact hk _ _ _ (zconso rfl (zconso rfl (zconso (zvo (rfl : i3 x2 = i3 x2)) (zconso rfl rfl))))  (by omega) (by omega)  hP
  · replace hP := zE_n hP h2
    refine wz_i0 (i3O (n := 4400) (i3A (i3A (show (2010 : Int32) = i3 2010 from rfl) (i3M (show (16 : Int32) = i3 16 from rfl) (rfl : i3 x3 = i3 x3))) (show (0 : Int32) = i3 0 from rfl)) (by omega) (by omega) (by omega)) ?_
    have r3 := zM_k hZ 2 0 0 (2010 + 16 * x3) (lo := 0) (hi := 47) (by decide) (zs_2010_0 (x := x3) (by omega) (by omega) (by omega))
    refine wz_br (i3NE (zm_rd (Z := Z) (ν := ν) (k := 2) (show ((0 : Nat) : Int) = 0 from rfl) (show ((0 : Nat) : Int) = 0 from rfl) (i3I (y := (2010 + 16 * x3)) (i3A (i3A (show (2010 : Int32) = i3 2010 from rfl) (i3M (show (16 : Int32) = i3 16 from rfl) (rfl : i3 x3 = i3 x3))) (show (0 : Int32) = i3 0 from rfl)) (by omega) (by omega) (by omega))) (rfl : i3 x1 = i3 x1) (by omega) (by omega) (by omega) (by omega)) (fun h4 => ?_) (fun h4 => ?_)
    · replace hP := zE_p hP h4
      obtain ⟨m2, rfl⟩ : ∃ m2, m = m2 + 1 := ⟨m - 1, by omega⟩
      exact wz_k1 ⟨m2, by omega, (x2 + 0), (x3 + 1), (zconso rfl (zconso (zvo (rfl : i3 x1 = i3 x1)) (zconso (zvo (i3A (rfl : i3 x2 = i3 x2) (show (0 : Int32) = i3 0 from rfl))) (zconso (zvo (i3A (rfl : i3 x3 = i3 x3) (show (1 : Int32) = i3 1 from rfl))) rfl)))), rfl,  by omega, by omega, by omega,  hP⟩
    · replace hP := zE_n hP h4
      refine wz_i0 (i3O (n := 4400) (i3A (i3A (show (2010 : Int32) = i3 2010 from rfl) (i3M (show (16 : Int32) = i3 16 from rfl) (rfl : i3 x3 = i3 x3))) (show (3 : Int32) = i3 3 from rfl)) (by omega) (by omega) (by omega)) ?_
      have r5 := zM_k hZ 2 0 0 (2013 + 16 * x3) (lo := 0) (hi := 40) (by decide) (zs_2010_3 (x := x3) (by omega) (by omega) (by omega))
      have r6 := zM_cr hZ x3
      have r7 := w3_r (x2 + (Z 2 0 0 (2013 + 16 * x3)))
      obtain ⟨m2, rfl⟩ : ∃ m2, m = m2 + 1 := ⟨m - 1, by omega⟩
      exact wz_k1 ⟨m2, by omega, (w3 (x2 + (Z 2 0 0 (2013 + 16 * x3)))), (x3 + 1), (zconso rfl (zconso (zvo (rfl : i3 x1 = i3 x1)) (zconso (zvo (i3W (i3A (rfl : i3 x2 = i3 x2) (zm_rd (Z := Z) (ν := ν) (k := 2) (show ((0 : Nat) : Int) = 0 from rfl) (show ((0 : Nat) : Int) = 0 from rfl) (i3I (y := (2013 + 16 * x3)) (i3A (i3A (show (2010 : Int32) = i3 2010 from rfl) (i3M (show (16 : Int32) = i3 16 from rfl) (rfl : i3 x3 = i3 x3))) (show (3 : Int32) = i3 3 from rfl)) (by omega) (by omega) (by omega)))))) (zconso (zvo (i3A (rfl : i3 x3 = i3 x3) (show (1 : Int32) = i3 1 from rfl))) rfl)))), rfl,  by omega, by omega, by omega,  hP⟩
/- yX12_dSoldOf -/
def zf_329 (Z : qz_Z) (a1 : Int) : Int := (zlet2 (zl_329_1 a1 61 Z 0 0) (fun y1 y2 => y1))
theorem sp_329 {s : zSM} {Z : qz_Z} {ν : qz_N} (hZ : zM s Z) {a1 : Int} (ga1 : 0 ≤ a1 ∧ a1 ≤ 47) (hM : s.2 + 0 ≤ 1000000000) : ∃ P : Int, P = zf_329 Z a1 ∧ (qf_329 [.inr (.inr (some (1, 0, 0))), .inl (i3 a1)] (zm Z ν) = some (zm Z ν, .inl (some (.inl (i3 P)))) ∧ -2147483648 ≤ P ∧ P ≤ 2147483647) := by
  obtain ⟨P, hP⟩ := zx (zf_329 Z a1)
  refine zc_R (Q := fun P => -2147483648 ≤ P ∧ P ≤ 2147483647) hP (fw_329 (i3 a1) _ _ ?_)
  replace hP : zE P (zf_329 Z a1) := hP
  unfold zf_329 at hP
  refine sl_329_1 (ν := ν) hZ (zbh (c := 0) (k := 0) hM (Nat.le_of_ble_eq_true rfl)) (x1 := a1) (by omega) (x2 := 0) (by omega) (x3 := 0) (by omega)  (zconso rfl (zconso (zvo (rfl : i3 a1 = i3 a1)) (zconso (zvo (show (0 : Int32) = i3 0 from rfl)) (zconso (zvo (show (0 : Int32) = i3 0 from rfl)) rfl)))) rfl ?_
  intro L3 y1 y2 hL3 gy1 gy2 q9
  replace hP := zl_e2 hP (Eq.symm q9)
  clear q9
  refine fc_329_2 (i3 y1) _ _ _ _ hL3 ?_
  exact zlR hP (rfl : i3 y1 = i3 y1) ⟨by omega, by omega⟩
/- yX12_dAdds -/
def zf_317 (Z : qz_Z) (a1 : Int) (a2 : Int) : Int := (if a2 < 2 ∨ 7 < a2 then (Z 2 0 0 (204 + 20 * a1)) else (if a2 = 2 then 1 else (if a2 = 3 then (Z 2 0 0 (203 + 20 * a1)) else (if a2 = 4 then (zlet (zf_329 Z a1) (fun v7 => v7)) else (if a2 = 5 then (Z 2 0 0 (206 + 20 * a1)) else (if a2 = 6 then (if 1 < (Z 2 0 0 (210 + 20 * a1)) then 0 else 1) else (if 1 < (Z 2 0 0 (210 + 20 * a1)) then 0 else (if (Z 2 0 0 (209 + 20 * a1)) ≠ (-1) then 0 else 1))))))))
theorem sp_317 {s : zSM} {Z : qz_Z} {ν : qz_N} (hZ : zM s Z) {a1 : Int} (ga1 : 0 ≤ a1 ∧ a1 ≤ 47) {a2 : Int} (ga2 : 2 ≤ a2 ∧ a2 ≤ 8) (hM : s.2 + 0 ≤ 1000000000) : ∃ P : Int, P = zf_317 Z a1 a2 ∧ (qf_317 [.inr (.inr (some (1, 0, 0))), .inl (i3 a1), .inl (i3 a2)] (zm Z ν) = some (zm Z ν, .inl (some (.inl (i3 P)))) ∧ -2147483648 ≤ P ∧ P ≤ 2147483647) := by
  obtain ⟨P, hP⟩ := zx (zf_317 Z a1 a2)
  refine zc_R (Q := fun P => -2147483648 ≤ P ∧ P ≤ 2147483647) hP (fw_317 (i3 a1) (i3 a2) _ _ ?_)
  replace hP : zE P (zf_317 Z a1 a2) := hP
  unfold zf_317 at hP
  refine wz_br (i3To (rfl : i3 a2 = i3 a2) (by omega) (by omega)) (fun h1 => ?_) (fun h1 => ?_)
  · replace hP := zE_p hP h1
    refine wz_i0 (i3O (n := 4400) (i3A (i3A (show (200 : Int32) = i3 200 from rfl) (i3M (show (20 : Int32) = i3 20 from rfl) (rfl : i3 a1 = i3 a1))) (show (4 : Int32) = i3 4 from rfl)) (by omega) (by omega) (by omega)) ?_
    have r2 := zM_k hZ 2 0 0 (204 + 20 * a1) (lo := 0) (hi := 40) (by decide) (zs_200_4 (x := a1) (by omega) (by omega) (by omega))
    exact zlR hP (zm_rd (Z := Z) (ν := ν) (k := 2) (show ((0 : Nat) : Int) = 0 from rfl) (show ((0 : Nat) : Int) = 0 from rfl) (i3I (y := (204 + 20 * a1)) (i3A (i3A (show (200 : Int32) = i3 200 from rfl) (i3M (show (20 : Int32) = i3 20 from rfl) (rfl : i3 a1 = i3 a1))) (show (4 : Int32) = i3 4 from rfl)) (by omega) (by omega) (by omega))) ⟨by omega, by omega⟩
  · replace hP := zE_n hP h1
    refine wz_br (i3T (rfl : i3 a2 = i3 a2) (by omega) (by omega)) (fun h3 => ?_) (fun h3 => ?_)
    · replace hP := zE_p hP h3
      exact zlR hP (show (1 : Int32) = i3 1 from rfl) ⟨by omega, by omega⟩
    · replace hP := zE_n hP h3
      refine wz_br (i3T (rfl : i3 a2 = i3 a2) (by omega) (by omega)) (fun h4 => ?_) (fun h4 => ?_)
      · replace hP := zE_p hP h4
        refine wz_i0 (i3O (n := 4400) (i3A (i3A (show (200 : Int32) = i3 200 from rfl) (i3M (show (20 : Int32) = i3 20 from rfl) (rfl : i3 a1 = i3 a1))) (show (3 : Int32) = i3 3 from rfl)) (by omega) (by omega) (by omega)) ?_
        have r5 := zM_k hZ 2 0 0 (203 + 20 * a1) (lo := 0) (hi := 40) (by decide) (zs_200_3 (x := a1) (by omega) (by omega) (by omega))
        exact zlR hP (zm_rd (Z := Z) (ν := ν) (k := 2) (show ((0 : Nat) : Int) = 0 from rfl) (show ((0 : Nat) : Int) = 0 from rfl) (i3I (y := (203 + 20 * a1)) (i3A (i3A (show (200 : Int32) = i3 200 from rfl) (i3M (show (20 : Int32) = i3 20 from rfl) (rfl : i3 a1 = i3 a1))) (show (3 : Int32) = i3 3 from rfl)) (by omega) (by omega) (by omega))) ⟨by omega, by omega⟩
      · replace hP := zE_n hP h4
        refine wz_br (i3T (rfl : i3 a2 = i3 a2) (by omega) (by omega)) (fun h6 => ?_) (fun h6 => ?_)
        · replace hP := zE_p hP h6
          obtain ⟨v7, hv7, c9, lv7, uv7⟩ := sp_329 (ν := ν) hZ (a1 := a1) (by omega) (zbh (c := 0) (k := 0) hM (Nat.le_of_ble_eq_true rfl))
          replace hP := zl_e hP hv7
          refine wz_cI_of (zas (zcons rfl (zcons (zvi (rfl : i3 a1 = i3 a1)) rfl)) c9) ?_
          clear c9
          exact zlR hP (rfl : i3 v7 = i3 v7) ⟨by omega, by omega⟩
        · replace hP := zE_n hP h6
          refine wz_br (i3T (rfl : i3 a2 = i3 a2) (by omega) (by omega)) (fun h8 => ?_) (fun h8 => ?_)
          · replace hP := zE_p hP h8
            refine wz_i0 (i3O (n := 4400) (i3A (i3A (show (200 : Int32) = i3 200 from rfl) (i3M (show (20 : Int32) = i3 20 from rfl) (rfl : i3 a1 = i3 a1))) (show (6 : Int32) = i3 6 from rfl)) (by omega) (by omega) (by omega)) ?_
            have r9 := zM_f hZ 2 0 0 (206 + 20 * a1)
            exact zlR hP (zm_rd (Z := Z) (ν := ν) (k := 2) (show ((0 : Nat) : Int) = 0 from rfl) (show ((0 : Nat) : Int) = 0 from rfl) (i3I (y := (206 + 20 * a1)) (i3A (i3A (show (200 : Int32) = i3 200 from rfl) (i3M (show (20 : Int32) = i3 20 from rfl) (rfl : i3 a1 = i3 a1))) (show (6 : Int32) = i3 6 from rfl)) (by omega) (by omega) (by omega))) ⟨by omega, by omega⟩
          · replace hP := zE_n hP h8
            refine wz_br (i3T (rfl : i3 a2 = i3 a2) (by omega) (by omega)) (fun h10 => ?_) (fun h10 => ?_)
            · replace hP := zE_p hP h10
              refine wz_i0 (i3O (n := 4400) (i3A (i3A (show (200 : Int32) = i3 200 from rfl) (i3M (show (20 : Int32) = i3 20 from rfl) (rfl : i3 a1 = i3 a1))) (show (10 : Int32) = i3 10 from rfl)) (by omega) (by omega) (by omega)) ?_
              have r11 := zM_k hZ 2 0 0 (210 + 20 * a1) (lo := 0) (hi := 4) (by decide) (zs_200_10 (x := a1) (by omega) (by omega) (by omega))
              have r12 := zM_pl hZ a1
              have r13 := zM_k hZ 2 0 0 102 (lo := 0) (hi := 48) (by decide) rfl
              refine wz_br (i3L (show (1 : Int32) = i3 1 from rfl) (zm_rd (Z := Z) (ν := ν) (k := 2) (show ((0 : Nat) : Int) = 0 from rfl) (show ((0 : Nat) : Int) = 0 from rfl) (i3I (y := (210 + 20 * a1)) (i3A (i3A (show (200 : Int32) = i3 200 from rfl) (i3M (show (20 : Int32) = i3 20 from rfl) (rfl : i3 a1 = i3 a1))) (show (10 : Int32) = i3 10 from rfl)) (by omega) (by omega) (by omega))) (by omega) (by omega) (by omega) (by omega)) (fun h14 => ?_) (fun h14 => ?_)
              · replace hP := zE_p hP h14
                exact zlR hP (show (0 : Int32) = i3 0 from rfl) ⟨by omega, by omega⟩
              · replace hP := zE_n hP h14
                exact zlR hP (show (1 : Int32) = i3 1 from rfl) ⟨by omega, by omega⟩
            · replace hP := zE_n hP h10
              refine wz_i1 (Eq.trans (i3T (rfl : i3 a2 = i3 a2) (by omega) (by omega)) (decide_eq_true (by omega))) ?_
              refine wz_i0 (i3O (n := 4400) (i3A (i3A (show (200 : Int32) = i3 200 from rfl) (i3M (show (20 : Int32) = i3 20 from rfl) (rfl : i3 a1 = i3 a1))) (show (10 : Int32) = i3 10 from rfl)) (by omega) (by omega) (by omega)) ?_
              have r15 := zM_k hZ 2 0 0 (210 + 20 * a1) (lo := 0) (hi := 4) (by decide) (zs_200_10 (x := a1) (by omega) (by omega) (by omega))
              have r16 := zM_pl hZ a1
              have r17 := zM_k hZ 2 0 0 102 (lo := 0) (hi := 48) (by decide) rfl
              refine wz_br (i3L (show (1 : Int32) = i3 1 from rfl) (zm_rd (Z := Z) (ν := ν) (k := 2) (show ((0 : Nat) : Int) = 0 from rfl) (show ((0 : Nat) : Int) = 0 from rfl) (i3I (y := (210 + 20 * a1)) (i3A (i3A (show (200 : Int32) = i3 200 from rfl) (i3M (show (20 : Int32) = i3 20 from rfl) (rfl : i3 a1 = i3 a1))) (show (10 : Int32) = i3 10 from rfl)) (by omega) (by omega) (by omega))) (by omega) (by omega) (by omega) (by omega)) (fun h18 => ?_) (fun h18 => ?_)
              · replace hP := zE_p hP h18
                exact zlR hP (show (0 : Int32) = i3 0 from rfl) ⟨by omega, by omega⟩
              · replace hP := zE_n hP h18
                refine wz_i0 (i3O (n := 4400) (i3A (i3A (show (200 : Int32) = i3 200 from rfl) (i3M (show (20 : Int32) = i3 20 from rfl) (rfl : i3 a1 = i3 a1))) (show (9 : Int32) = i3 9 from rfl)) (by omega) (by omega) (by omega)) ?_
                have r19 := zM_k hZ 2 0 0 (209 + 20 * a1) (lo := -1) (hi := 3) (by decide) (zs_200_9 (x := a1) (by omega) (by omega) (by omega))
                refine wz_br (i3NE (zm_rd (Z := Z) (ν := ν) (k := 2) (show ((0 : Nat) : Int) = 0 from rfl) (show ((0 : Nat) : Int) = 0 from rfl) (i3I (y := (209 + 20 * a1)) (i3A (i3A (show (200 : Int32) = i3 200 from rfl) (i3M (show (20 : Int32) = i3 20 from rfl) (rfl : i3 a1 = i3 a1))) (show (9 : Int32) = i3 9 from rfl)) (by omega) (by omega) (by omega))) (show (-1 : Int32) = i3 (-1) from rfl) (by omega) (by omega) (by omega) (by omega)) (fun h20 => ?_) (fun h20 => ?_)
                · replace hP := zE_p hP h20
                  exact zlR hP (show (0 : Int32) = i3 0 from rfl) ⟨by omega, by omega⟩
                · replace hP := zE_n hP h20
                  exact zlR hP (show (1 : Int32) = i3 1 from rfl) ⟨by omega, by omega⟩
/- yX12_dGrown -/
def zl_324_1 (x1 : Int) (x2 : Int) : Nat → qz_Z → Int → Int → Int × Int
  | 0, Z, x3, x4 => (x3, x4)
  | m + 1, Z, x3, x4 => (if (Z 2 0 0 102) ≤ x4 then (x3, x4) else (if (Z 2 0 0 (200 + 20 * x4)) ≠ x1 then zl_324_1 x1 x2 m Z (x3 + 0) (x4 + 1) else (zlet (zf_317 Z x4 x2) (fun v5 => zl_324_1 x1 x2 m Z (w3 (x3 + v5)) (x4 + 1)))))
theorem sl_324_1 {s : zSM} {Z : qz_Z} {ν : qz_N} (hZ : zM s Z) (hM : s.2 + 0 ≤ 1000000000) {x1 : Int} (gx1 : 0 ≤ x1 ∧ x1 ≤ 5) {x2 : Int} (gx2 : 2 ≤ x2 ∧ x2 ≤ 8) {x3 : Int} (gx3 : -2147483648 ≤ x3 ∧ x3 ≤ 2147483647) {x4 : Int} (gx4 : 0 ≤ x4 ∧ x4 ≤ 48) {k : wz_K} {R : wz_R} {L : qz_L} (hL : qz_fg [true, true, true, true, true] L = [some (.inr (.inr (some (1, 0, 0)))), some (.inl (i3 x1)), some (.inl (i3 x2)), some (.inl (i3 x3)), some (.inl (i3 x4))]) {T : Int × Int} (hP : zE T (zl_324_1 x1 x2 ((48 - x4).toNat + 1) Z x3 x4)) (hk : ∀ (L9 : qz_L) (yx3 yx4 : Int), qz_fg [false, false, false, true, false] L9 = [none, none, none, some (.inl (i3 yx3)), none] → (-2147483648 ≤ yx3 ∧ yx3 ≤ 2147483647) → (0 ≤ yx4 ∧ yx4 ≤ 48) → zE T ((yx3, yx4)) → k 0 (L9, [], zm Z ν)) : wz_loop qb_324_1 65536 k R (L, [], zm Z ν) := by
  refine wz_lp sb_324_1 (fun m x => ∃ x3 : Int, ∃ x4 : Int, qz_fg [true, true, true, true, true] x.1 = [some (.inr (.inr (some (1, 0, 0)))), some (.inl (i3 x1)), some (.inl (i3 x2)), some (.inl (i3 x3)), some (.inl (i3 x4))] ∧ x.2 = ([], zm Z ν) ∧ m = (48 - x4).toNat ∧ (-2147483648 ≤ x3 ∧ x3 ≤ 2147483647) ∧ (0 ≤ x4 ∧ x4 ≤ 48) ∧ zE T (zl_324_1 x1 x2 (m + 1) Z x3 x4)) ?_ 65536 ((48 - x4).toNat) _ (by omega) ⟨x3, x4, hL, rfl, rfl, gx3, gx4, hP⟩
  clear hP gx3 gx4 hL
  clear x3 x4
  rintro m ⟨L, st, μ⟩ ⟨x3, x4, hL, hx, hm, gx3, gx4, hP⟩
  cases hx
  refine fb_324_1 (i3 x1) (i3 x2) (i3 x3) (i3 x4) _ _ _ _ hL ?_
  have r1 := zM_k hZ 2 0 0 102 (lo := 0) (hi := 48) (by decide) rfl
  refine wz_br (i3Le (zm_rd (Z := Z) (ν := ν) (k := 2) (show ((0 : Nat) : Int) = 0 from rfl) (show ((0 : Nat) : Int) = 0 from rfl) (show ((102 : Nat) : Int) = 102 from rfl)) (rfl : i3 x4 = i3 x4) (by omega) (by omega) (by omega) (by omega)) (fun h2 => ?_) (fun h2 => ?_)
  · replace hP := zE_p hP h2
    exact hk _ _ _ (zconso rfl (zconso rfl (zconso rfl (zconso (zvo (rfl : i3 x3 = i3 x3)) (zconso rfl rfl)))))  (by omega) (by omega)  hP
  · replace hP := zE_n hP h2
    refine wz_i0 (i3O (n := 4400) (i3A (i3A (show (200 : Int32) = i3 200 from rfl) (i3M (show (20 : Int32) = i3 20 from rfl) (rfl : i3 x4 = i3 x4))) (show (0 : Int32) = i3 0 from rfl)) (by omega) (by omega) (by omega)) ?_
    have r3 := zM_k hZ 2 0 0 (200 + 20 * x4) (lo := 0) (hi := 5) (by decide) (zs_200_0 (x := x4) (by omega) (by omega) (by omega))
    refine wz_br (i3NE (zm_rd (Z := Z) (ν := ν) (k := 2) (show ((0 : Nat) : Int) = 0 from rfl) (show ((0 : Nat) : Int) = 0 from rfl) (i3I (y := (200 + 20 * x4)) (i3A (i3A (show (200 : Int32) = i3 200 from rfl) (i3M (show (20 : Int32) = i3 20 from rfl) (rfl : i3 x4 = i3 x4))) (show (0 : Int32) = i3 0 from rfl)) (by omega) (by omega) (by omega))) (rfl : i3 x1 = i3 x1) (by omega) (by omega) (by omega) (by omega)) (fun h4 => ?_) (fun h4 => ?_)
    · replace hP := zE_p hP h4
      obtain ⟨m2, rfl⟩ : ∃ m2, m = m2 + 1 := ⟨m - 1, by omega⟩
      exact wz_k1 ⟨m2, by omega, (x3 + 0), (x4 + 1), (zconso rfl (zconso (zvo (rfl : i3 x1 = i3 x1)) (zconso (zvo (rfl : i3 x2 = i3 x2)) (zconso (zvo (i3A (rfl : i3 x3 = i3 x3) (show (0 : Int32) = i3 0 from rfl))) (zconso (zvo (i3A (rfl : i3 x4 = i3 x4) (show (1 : Int32) = i3 1 from rfl))) rfl))))), rfl,  by omega, by omega, by omega,  hP⟩
    · replace hP := zE_n hP h4
      obtain ⟨v5, hv5, c9, lv5, uv5⟩ := sp_317 (ν := ν) hZ (a1 := x4) (by omega) (a2 := x2) (by omega) (zbh (c := 0) (k := 0) hM (Nat.le_of_ble_eq_true rfl))
      replace hP := zl_e hP hv5
      refine wz_cI_of (zas (zcons rfl (zcons (zvi (rfl : i3 x4 = i3 x4)) (zcons (zvi (rfl : i3 x2 = i3 x2)) rfl))) c9) ?_
      clear c9
      have r6 := w3_r (x3 + v5)
      obtain ⟨m2, rfl⟩ : ∃ m2, m = m2 + 1 := ⟨m - 1, by omega⟩
      exact wz_k1 ⟨m2, by omega, (w3 (x3 + v5)), (x4 + 1), (zconso rfl (zconso (zvo (rfl : i3 x1 = i3 x1)) (zconso (zvo (rfl : i3 x2 = i3 x2)) (zconso (zvo (i3W (i3A (rfl : i3 x3 = i3 x3) (rfl : i3 v5 = i3 v5)))) (zconso (zvo (i3A (rfl : i3 x4 = i3 x4) (show (1 : Int32) = i3 1 from rfl))) rfl))))), rfl,  by omega, by omega, by omega,  hP⟩
/- yX12_dGrown -/
def zf_324 (Z : qz_Z) (a1 : Int) (a2 : Int) : Int := (if 2 ≤ a2 then (zlet2 (zl_324_1 a1 a2 49 Z 0 0) (fun y2 y3 => y2)) else (Z 2 0 0 (140 + 2 * a1 + a2)))
theorem sp_324 {s : zSM} {Z : qz_Z} {ν : qz_N} (hZ : zM s Z) {a1 : Int} (ga1 : 0 ≤ a1 ∧ a1 ≤ 5) {a2 : Int} (ga2 : 0 ≤ a2 ∧ a2 ≤ 8) (hM : s.2 + 0 ≤ 1000000000) : ∃ P : Int, P = zf_324 Z a1 a2 ∧ (qf_324 [.inr (.inr (some (1, 0, 0))), .inl (i3 a1), .inl (i3 a2)] (zm Z ν) = some (zm Z ν, .inl (some (.inl (i3 P)))) ∧ -2147483648 ≤ P ∧ P ≤ 2147483647) := by
  obtain ⟨P, hP⟩ := zx (zf_324 Z a1 a2)
  refine zc_R (Q := fun P => -2147483648 ≤ P ∧ P ≤ 2147483647) hP (fw_324 (i3 a1) (i3 a2) _ _ ?_)
  replace hP : zE P (zf_324 Z a1 a2) := hP
  unfold zf_324 at hP
  refine wz_br (i3Le (show (2 : Int32) = i3 2 from rfl) (rfl : i3 a2 = i3 a2) (by omega) (by omega) (by omega) (by omega)) (fun h1 => ?_) (fun h1 => ?_)
  · replace hP := zE_p hP h1
    refine sl_324_1 (ν := ν) hZ (zbh (c := 0) (k := 0) hM (Nat.le_of_ble_eq_true rfl)) (x1 := a1) (by omega) (x2 := a2) (by omega) (x3 := 0) (by omega) (x4 := 0) (by omega)  (zconso rfl (zconso (zvo (rfl : i3 a1 = i3 a1)) (zconso (zvo (rfl : i3 a2 = i3 a2)) (zconso (zvo (show (0 : Int32) = i3 0 from rfl)) (zconso (zvo (show (0 : Int32) = i3 0 from rfl)) rfl))))) rfl ?_
    intro L4 y2 y3 hL4 gy2 gy3 q9
    replace hP := zl_e2 hP (Eq.symm q9)
    clear q9
    refine fc_324_2 (i3 y2) _ _ _ _ hL4 ?_
    exact zlR hP (rfl : i3 y2 = i3 y2) ⟨by omega, by omega⟩
  · replace hP := zE_n hP h1
    refine wz_i0 (i3O (n := 4400) (i3A (i3A (show (140 : Int32) = i3 140 from rfl) (i3M (show (2 : Int32) = i3 2 from rfl) (rfl : i3 a1 = i3 a1))) (rfl : i3 a2 = i3 a2)) (by omega) (by omega) (by omega)) ?_
    have r5 := zM_f hZ 2 0 0 (140 + 2 * a1 + a2)
    exact zlR hP (zm_rd (Z := Z) (ν := ν) (k := 2) (show ((0 : Nat) : Int) = 0 from rfl) (show ((0 : Nat) : Int) = 0 from rfl) (i3I (y := (140 + 2 * a1 + a2)) (i3A (i3A (show (140 : Int32) = i3 140 from rfl) (i3M (show (2 : Int32) = i3 2 from rfl) (rfl : i3 a1 = i3 a1))) (rfl : i3 a2 = i3 a2)) (by omega) (by omega) (by omega))) ⟨by omega, by omega⟩
/- yX12_grown -/
def zy_348 (Z : qz_Z) (a1 : Int) (a2 : Int) : qz_Z × Int := (if a1 < 0 then (zlet (zu Z 1 0 0 2 1) (fun Z5 => (Z5, 0))) else (if ((Z 2 0 0 101) - 1) < a1 then (zlet (zu Z 1 0 0 2 1) (fun Z8 => (Z8, 0))) else (zlet (zu Z 1 0 0 2 0) (fun Z9 => (if a2 < 0 then (zlet (zu Z9 1 0 0 2 2) (fun Z11 => (Z11, 0))) else (if 8 < a2 then (zlet (zu Z9 1 0 0 2 2) (fun Z13 => (Z13, 0))) else (zlet (zu Z9 1 0 0 2 0) (fun Z14 => (zlet (zf_324 Z14 a1 a2) (fun v15 => (Z14, v15)))))))))))
theorem sy_348 {s : zSM} {Z : qz_Z} {ν : qz_N} (hZ : zM s Z) (gq : Z 1 0 0 35 = 0) (hM : s.2 + 0 ≤ 1000000000) {a1 : Int} (ga1 : -2147483648 ≤ a1 ∧ a1 ≤ 2147483647) {a2 : Int} (ga2 : -2147483648 ≤ a2 ∧ a2 ≤ 2147483647) {ν1 : qz_N} : ∃ (Z1 : qz_Z) (ν2 : qz_N) (v : Int), (Z1, v) = zy_348 Z a1 a2 ∧ (ν2 = ν ∨ ν2 = ν1) ∧ qf_348 [.inr (.inr (some (1, 0, 0))), .inl (i3 a1), .inl (i3 a2)] (zm Z ν) = some (zm Z1 ν2, .inl (some (.inl (i3 v)))) ∧ (fun Z1 => zM s Z1 ∧ zC [1] Z Z1 ∧ zU [] Z Z1) Z1 := by
  obtain ⟨P, hP⟩ := zx (zy_348 Z a1 a2)
  refine zc_Y (Q := fun Z1 => zM s Z1 ∧ zC [1] Z Z1 ∧ zU [] Z Z1) hP (fw_348 (i3 a1) (i3 a2) _ _ ?_)
  replace hP : zE P (zy_348 Z a1 a2) := hP
  unfold zy_348 at hP
  have r1 := zM_k hZ 1 0 0 35 (lo := 0) (hi := 1) (by decide) rfl
  have r2 := zM_k hZ 1 0 0 34 (lo := 0) (hi := 8) (by decide) rfl
  have r3 := zM_f hZ 1 0 0 37
  refine wz_br (i3L (rfl : i3 a1 = i3 a1) (show (0 : Int32) = i3 0 from rfl) (by omega) (by omega) (by omega) (by omega)) (fun h4 => ?_) (fun h4 => ?_)
  · replace hP := zE_p hP h4
    obtain ⟨Z5, hZ5⟩ := zx (zu Z 1 0 0 2 1)
    replace hP := zl_e hP hZ5
    have hZ5I := zM_u hZ hZ5 (lo := -2147483648) (hi := 2147483647) (by decide) rfl (by omega) ⟨by decide, by decide⟩ (Or.inr (by decide)) rfl
    have hZ5U : zU [] Z Z5 := zU_u zU_r hZ5 (Or.inl rfl)
    have hZ5K : zC [1] Z Z5 := zC_u zC_r hZ5 (by decide)
    intro μ9 e9
    replace e9 := e9.trans (zm_wI (Z := Z) (ν := ν) hZ5 (show ((0 : Nat) : Int) = 0 from rfl) (show ((0 : Nat) : Int) = 0 from rfl) (show ((2 : Nat) : Int) = 2 from rfl) (show (1 : Int32) = i3 1 from rfl))
    subst e9
    exact zlY hP (show (0 : Int32) = i3 0 from rfl) (.inl rfl) ⟨hZ5I, hZ5K, hZ5U⟩
  · replace hP := zE_n hP h4
    have r6 := zM_k hZ 2 0 0 101 (lo := 0) (hi := 6) (by decide) rfl
    refine wz_br (i3L (i3S (zm_rd (Z := Z) (ν := ν) (k := 2) (show ((0 : Nat) : Int) = 0 from rfl) (show ((0 : Nat) : Int) = 0 from rfl) (show ((101 : Nat) : Int) = 101 from rfl)) (show (1 : Int32) = i3 1 from rfl)) (rfl : i3 a1 = i3 a1) (by omega) (by omega) (by omega) (by omega)) (fun h7 => ?_) (fun h7 => ?_)
    · replace hP := zE_p hP h7
      obtain ⟨Z8, hZ8⟩ := zx (zu Z 1 0 0 2 1)
      replace hP := zl_e hP hZ8
      have hZ8I := zM_u hZ hZ8 (lo := -2147483648) (hi := 2147483647) (by decide) rfl (by omega) ⟨by decide, by decide⟩ (Or.inr (by decide)) rfl
      have hZ8U : zU [] Z Z8 := zU_u zU_r hZ8 (Or.inl rfl)
      have hZ8K : zC [1] Z Z8 := zC_u zC_r hZ8 (by decide)
      intro μ9 e9
      replace e9 := e9.trans (zm_wI (Z := Z) (ν := ν) hZ8 (show ((0 : Nat) : Int) = 0 from rfl) (show ((0 : Nat) : Int) = 0 from rfl) (show ((2 : Nat) : Int) = 2 from rfl) (show (1 : Int32) = i3 1 from rfl))
      subst e9
      exact zlY hP (show (0 : Int32) = i3 0 from rfl) (.inl rfl) ⟨hZ8I, hZ8K, hZ8U⟩
    · replace hP := zE_n hP h7
      obtain ⟨Z9, hZ9⟩ := zx (zu Z 1 0 0 2 0)
      replace hP := zl_e hP hZ9
      have hZ9I := zM_0 hZ hZ9 (by decide) (Or.inr (by decide))
      have hZ9U : zU [] Z Z9 := zU_u zU_r hZ9 (Or.inl rfl)
      have hZ9K : zC [1] Z Z9 := zC_u zC_r hZ9 (by decide)
      intro μ9 e9
      replace e9 := e9.trans (zm_wI (Z := Z) (ν := ν) hZ9 (show ((0 : Nat) : Int) = 0 from rfl) (show ((0 : Nat) : Int) = 0 from rfl) (show ((2 : Nat) : Int) = 2 from rfl) (show (0 : Int32) = i3 0 from rfl))
      subst e9
      refine wz_br (i3L (rfl : i3 a2 = i3 a2) (show (0 : Int32) = i3 0 from rfl) (by omega) (by omega) (by omega) (by omega)) (fun h10 => ?_) (fun h10 => ?_)
      · replace hP := zE_p hP h10
        obtain ⟨Z11, hZ11⟩ := zx (zu Z9 1 0 0 2 2)
        replace hP := zl_e hP hZ11
        have hZ11I := zM_u hZ9I hZ11 (lo := -2147483648) (hi := 2147483647) (by decide) rfl (by omega) ⟨by decide, by decide⟩ (Or.inr (by decide)) rfl
        have hZ11U : zU [] Z Z11 := zU_u hZ9U hZ11 (Or.inl rfl)
        have hZ11K : zC [1] Z Z11 := zC_u hZ9K hZ11 (by decide)
        intro μ9 e9
        replace e9 := e9.trans (zm_wI (Z := Z9) (ν := ν) hZ11 (show ((0 : Nat) : Int) = 0 from rfl) (show ((0 : Nat) : Int) = 0 from rfl) (show ((2 : Nat) : Int) = 2 from rfl) (show (2 : Int32) = i3 2 from rfl))
        subst e9
        exact zlY hP (show (0 : Int32) = i3 0 from rfl) (.inl rfl) ⟨hZ11I, hZ11K, hZ11U⟩
      · replace hP := zE_n hP h10
        refine wz_br (i3L (show (8 : Int32) = i3 8 from rfl) (rfl : i3 a2 = i3 a2) (by omega) (by omega) (by omega) (by omega)) (fun h12 => ?_) (fun h12 => ?_)
        · replace hP := zE_p hP h12
          obtain ⟨Z13, hZ13⟩ := zx (zu Z9 1 0 0 2 2)
          replace hP := zl_e hP hZ13
          have hZ13I := zM_u hZ9I hZ13 (lo := -2147483648) (hi := 2147483647) (by decide) rfl (by omega) ⟨by decide, by decide⟩ (Or.inr (by decide)) rfl
          have hZ13U : zU [] Z Z13 := zU_u hZ9U hZ13 (Or.inl rfl)
          have hZ13K : zC [1] Z Z13 := zC_u hZ9K hZ13 (by decide)
          intro μ9 e9
          replace e9 := e9.trans (zm_wI (Z := Z9) (ν := ν) hZ13 (show ((0 : Nat) : Int) = 0 from rfl) (show ((0 : Nat) : Int) = 0 from rfl) (show ((2 : Nat) : Int) = 2 from rfl) (show (2 : Int32) = i3 2 from rfl))
          subst e9
          exact zlY hP (show (0 : Int32) = i3 0 from rfl) (.inl rfl) ⟨hZ13I, hZ13K, hZ13U⟩
        · replace hP := zE_n hP h12
          obtain ⟨Z14, hZ14⟩ := zx (zu Z9 1 0 0 2 0)
          replace hP := zl_e hP hZ14
          have hZ14I := zM_0 hZ9I hZ14 (by decide) (Or.inr (by decide))
          have hZ14U : zU [] Z Z14 := zU_u hZ9U hZ14 (Or.inl rfl)
          have hZ14K : zC [1] Z Z14 := zC_u hZ9K hZ14 (by decide)
          intro μ9 e9
          replace e9 := e9.trans (zm_wI (Z := Z9) (ν := ν) hZ14 (show ((0 : Nat) : Int) = 0 from rfl) (show ((0 : Nat) : Int) = 0 from rfl) (show ((2 : Nat) : Int) = 2 from rfl) (show (0 : Int32) = i3 0 from rfl))
          subst e9
          obtain ⟨v15, hv15, c9, lv15, uv15⟩ := sp_324 (ν := ν) hZ14I (a1 := a1) (by omega) (a2 := a2) (by omega) (zbh (c := 0) (k := 0) hM (Nat.le_of_ble_eq_true rfl))
          replace hP := zl_e hP hv15
          refine wz_cI_of (zas (zcons rfl (zcons (zvi (rfl : i3 a1 = i3 a1)) (zcons (zvi (rfl : i3 a2 = i3 a2)) rfl))) c9) ?_
          clear c9
          exact zlY hP (rfl : i3 v15 = i3 v15) (.inl rfl) ⟨hZ14I, hZ14K, hZ14U⟩
/- yX12_hand -/
def zy_349 (Z : qz_Z) (a1 : Int) (a2 : Int) : qz_Z × Int := (if a1 < 0 then (zlet (zu Z 1 0 0 2 1) (fun Z5 => (Z5, 0))) else (if ((Z 2 0 0 3000) - 1) < a1 then (zlet (zu Z 1 0 0 2 1) (fun Z8 => (Z8, 0))) else (zlet (zu Z 1 0 0 2 0) (fun Z9 => (if a2 < 0 then (zlet (zu Z9 1 0 0 2 2) (fun Z11 => (Z11, 0))) else (if 12 < a2 then (zlet (zu Z9 1 0 0 2 2) (fun Z13 => (Z13, 0))) else (zlet (zu Z9 1 0 0 2 0) (fun Z14 => (if a2 ≠ 12 then (Z14, (Z14 2 0 0 (3010 + 60 * a1 + a2))) else (if ((Z14 2 0 0 0) % 24) < (Z14 2 0 0 (3010 + 60 * a1)) then (Z14, 0) else (if (((Z14 2 0 0 (3010 + 60 * a1)) + (Z14 2 0 0 (3011 + 60 * a1))) - 1) < ((Z14 2 0 0 0) % 24) then (Z14, 0) else (Z14, 1))))))))))))
theorem sy_349 {s : zSM} {Z : qz_Z} {ν : qz_N} (hZ : zM s Z) (gq : Z 1 0 0 35 = 0) (hM : s.2 + 0 ≤ 1000000000) {a1 : Int} (ga1 : -2147483648 ≤ a1 ∧ a1 ≤ 2147483647) {a2 : Int} (ga2 : -2147483648 ≤ a2 ∧ a2 ≤ 2147483647) {ν1 : qz_N} : ∃ (Z1 : qz_Z) (ν2 : qz_N) (v : Int), (Z1, v) = zy_349 Z a1 a2 ∧ (ν2 = ν ∨ ν2 = ν1) ∧ qf_349 [.inr (.inr (some (1, 0, 0))), .inl (i3 a1), .inl (i3 a2)] (zm Z ν) = some (zm Z1 ν2, .inl (some (.inl (i3 v)))) ∧ (fun Z1 => zM s Z1 ∧ zC [1] Z Z1 ∧ zU [] Z Z1) Z1 := by
  obtain ⟨P, hP⟩ := zx (zy_349 Z a1 a2)
  refine zc_Y (Q := fun Z1 => zM s Z1 ∧ zC [1] Z Z1 ∧ zU [] Z Z1) hP (fw_349 (i3 a1) (i3 a2) _ _ ?_)
  replace hP : zE P (zy_349 Z a1 a2) := hP
  unfold zy_349 at hP
  have r1 := zM_k hZ 1 0 0 35 (lo := 0) (hi := 1) (by decide) rfl
  have r2 := zM_k hZ 1 0 0 34 (lo := 0) (hi := 8) (by decide) rfl
  have r3 := zM_f hZ 1 0 0 37
  refine wz_br (i3L (rfl : i3 a1 = i3 a1) (show (0 : Int32) = i3 0 from rfl) (by omega) (by omega) (by omega) (by omega)) (fun h4 => ?_) (fun h4 => ?_)
  · replace hP := zE_p hP h4
    obtain ⟨Z5, hZ5⟩ := zx (zu Z 1 0 0 2 1)
    replace hP := zl_e hP hZ5
    have hZ5I := zM_u hZ hZ5 (lo := -2147483648) (hi := 2147483647) (by decide) rfl (by omega) ⟨by decide, by decide⟩ (Or.inr (by decide)) rfl
    have hZ5U : zU [] Z Z5 := zU_u zU_r hZ5 (Or.inl rfl)
    have hZ5K : zC [1] Z Z5 := zC_u zC_r hZ5 (by decide)
    intro μ9 e9
    replace e9 := e9.trans (zm_wI (Z := Z) (ν := ν) hZ5 (show ((0 : Nat) : Int) = 0 from rfl) (show ((0 : Nat) : Int) = 0 from rfl) (show ((2 : Nat) : Int) = 2 from rfl) (show (1 : Int32) = i3 1 from rfl))
    subst e9
    exact zlY hP (show (0 : Int32) = i3 0 from rfl) (.inl rfl) ⟨hZ5I, hZ5K, hZ5U⟩
  · replace hP := zE_n hP h4
    have r6 := zM_k hZ 2 0 0 3000 (lo := 0) (hi := 2) (by decide) rfl
    refine wz_br (i3L (i3S (zm_rd (Z := Z) (ν := ν) (k := 2) (show ((0 : Nat) : Int) = 0 from rfl) (show ((0 : Nat) : Int) = 0 from rfl) (show ((3000 : Nat) : Int) = 3000 from rfl)) (show (1 : Int32) = i3 1 from rfl)) (rfl : i3 a1 = i3 a1) (by omega) (by omega) (by omega) (by omega)) (fun h7 => ?_) (fun h7 => ?_)
    · replace hP := zE_p hP h7
      obtain ⟨Z8, hZ8⟩ := zx (zu Z 1 0 0 2 1)
      replace hP := zl_e hP hZ8
      have hZ8I := zM_u hZ hZ8 (lo := -2147483648) (hi := 2147483647) (by decide) rfl (by omega) ⟨by decide, by decide⟩ (Or.inr (by decide)) rfl
      have hZ8U : zU [] Z Z8 := zU_u zU_r hZ8 (Or.inl rfl)
      have hZ8K : zC [1] Z Z8 := zC_u zC_r hZ8 (by decide)
      intro μ9 e9
      replace e9 := e9.trans (zm_wI (Z := Z) (ν := ν) hZ8 (show ((0 : Nat) : Int) = 0 from rfl) (show ((0 : Nat) : Int) = 0 from rfl) (show ((2 : Nat) : Int) = 2 from rfl) (show (1 : Int32) = i3 1 from rfl))
      subst e9
      exact zlY hP (show (0 : Int32) = i3 0 from rfl) (.inl rfl) ⟨hZ8I, hZ8K, hZ8U⟩
    · replace hP := zE_n hP h7
      obtain ⟨Z9, hZ9⟩ := zx (zu Z 1 0 0 2 0)
      replace hP := zl_e hP hZ9
      have hZ9I := zM_0 hZ hZ9 (by decide) (Or.inr (by decide))
      have hZ9U : zU [] Z Z9 := zU_u zU_r hZ9 (Or.inl rfl)
      have hZ9K : zC [1] Z Z9 := zC_u zC_r hZ9 (by decide)
      intro μ9 e9
      replace e9 := e9.trans (zm_wI (Z := Z) (ν := ν) hZ9 (show ((0 : Nat) : Int) = 0 from rfl) (show ((0 : Nat) : Int) = 0 from rfl) (show ((2 : Nat) : Int) = 2 from rfl) (show (0 : Int32) = i3 0 from rfl))
      subst e9
      refine wz_br (i3L (rfl : i3 a2 = i3 a2) (show (0 : Int32) = i3 0 from rfl) (by omega) (by omega) (by omega) (by omega)) (fun h10 => ?_) (fun h10 => ?_)
      · replace hP := zE_p hP h10
        obtain ⟨Z11, hZ11⟩ := zx (zu Z9 1 0 0 2 2)
        replace hP := zl_e hP hZ11
        have hZ11I := zM_u hZ9I hZ11 (lo := -2147483648) (hi := 2147483647) (by decide) rfl (by omega) ⟨by decide, by decide⟩ (Or.inr (by decide)) rfl
        have hZ11U : zU [] Z Z11 := zU_u hZ9U hZ11 (Or.inl rfl)
        have hZ11K : zC [1] Z Z11 := zC_u hZ9K hZ11 (by decide)
        intro μ9 e9
        replace e9 := e9.trans (zm_wI (Z := Z9) (ν := ν) hZ11 (show ((0 : Nat) : Int) = 0 from rfl) (show ((0 : Nat) : Int) = 0 from rfl) (show ((2 : Nat) : Int) = 2 from rfl) (show (2 : Int32) = i3 2 from rfl))
        subst e9
        exact zlY hP (show (0 : Int32) = i3 0 from rfl) (.inl rfl) ⟨hZ11I, hZ11K, hZ11U⟩
      · replace hP := zE_n hP h10
        refine wz_br (i3L (show (12 : Int32) = i3 12 from rfl) (rfl : i3 a2 = i3 a2) (by omega) (by omega) (by omega) (by omega)) (fun h12 => ?_) (fun h12 => ?_)
        · replace hP := zE_p hP h12
          obtain ⟨Z13, hZ13⟩ := zx (zu Z9 1 0 0 2 2)
          replace hP := zl_e hP hZ13
          have hZ13I := zM_u hZ9I hZ13 (lo := -2147483648) (hi := 2147483647) (by decide) rfl (by omega) ⟨by decide, by decide⟩ (Or.inr (by decide)) rfl
          have hZ13U : zU [] Z Z13 := zU_u hZ9U hZ13 (Or.inl rfl)
          have hZ13K : zC [1] Z Z13 := zC_u hZ9K hZ13 (by decide)
          intro μ9 e9
          replace e9 := e9.trans (zm_wI (Z := Z9) (ν := ν) hZ13 (show ((0 : Nat) : Int) = 0 from rfl) (show ((0 : Nat) : Int) = 0 from rfl) (show ((2 : Nat) : Int) = 2 from rfl) (show (2 : Int32) = i3 2 from rfl))
          subst e9
          exact zlY hP (show (0 : Int32) = i3 0 from rfl) (.inl rfl) ⟨hZ13I, hZ13K, hZ13U⟩
        · replace hP := zE_n hP h12
          obtain ⟨Z14, hZ14⟩ := zx (zu Z9 1 0 0 2 0)
          replace hP := zl_e hP hZ14
          have hZ14I := zM_0 hZ9I hZ14 (by decide) (Or.inr (by decide))
          have hZ14U : zU [] Z Z14 := zU_u hZ9U hZ14 (Or.inl rfl)
          have hZ14K : zC [1] Z Z14 := zC_u hZ9K hZ14 (by decide)
          intro μ9 e9
          replace e9 := e9.trans (zm_wI (Z := Z9) (ν := ν) hZ14 (show ((0 : Nat) : Int) = 0 from rfl) (show ((0 : Nat) : Int) = 0 from rfl) (show ((2 : Nat) : Int) = 2 from rfl) (show (0 : Int32) = i3 0 from rfl))
          subst e9
          refine wz_br (i3NE (rfl : i3 a2 = i3 a2) (show (12 : Int32) = i3 12 from rfl) (by omega) (by omega) (by omega) (by omega)) (fun h15 => ?_) (fun h15 => ?_)
          · replace hP := zE_p hP h15
            refine wz_i0 (i3O (n := 4400) (i3A (i3A (show (3010 : Int32) = i3 3010 from rfl) (i3M (show (60 : Int32) = i3 60 from rfl) (rfl : i3 a1 = i3 a1))) (rfl : i3 a2 = i3 a2)) (by omega) (by omega) (by omega)) ?_
            have r16 := zM_f hZ14I 2 0 0 (3010 + 60 * a1 + a2)
            exact zlY hP (zm_rd (Z := Z14) (ν := ν) (k := 2) (show ((0 : Nat) : Int) = 0 from rfl) (show ((0 : Nat) : Int) = 0 from rfl) (i3I (y := (3010 + 60 * a1 + a2)) (i3A (i3A (show (3010 : Int32) = i3 3010 from rfl) (i3M (show (60 : Int32) = i3 60 from rfl) (rfl : i3 a1 = i3 a1))) (rfl : i3 a2 = i3 a2)) (by omega) (by omega) (by omega))) (.inl rfl) ⟨hZ14I, hZ14K, hZ14U⟩
          · replace hP := zE_n hP h15
            refine wz_i0 (i3O (n := 4400) (i3A (i3A (show (3010 : Int32) = i3 3010 from rfl) (i3M (show (60 : Int32) = i3 60 from rfl) (rfl : i3 a1 = i3 a1))) (show (0 : Int32) = i3 0 from rfl)) (by omega) (by omega) (by omega)) ?_
            refine wz_i0 (i3O (n := 4400) (i3A (i3A (show (3010 : Int32) = i3 3010 from rfl) (i3M (show (60 : Int32) = i3 60 from rfl) (rfl : i3 a1 = i3 a1))) (show (0 : Int32) = i3 0 from rfl)) (by omega) (by omega) (by omega)) ?_
            refine wz_i0 (i3O (n := 4400) (i3A (i3A (show (3010 : Int32) = i3 3010 from rfl) (i3M (show (60 : Int32) = i3 60 from rfl) (rfl : i3 a1 = i3 a1))) (show (1 : Int32) = i3 1 from rfl)) (by omega) (by omega) (by omega)) ?_
            have r17 := zM_k hZ14I 2 0 0 0 (lo := 0) (hi := 671) (by decide) rfl
            have r18 := zM_k hZ14I 2 0 0 (3010 + 60 * a1) (lo := 0) (hi := 23) (by decide) (zs_3010_0 (x := (a1 + 0)) (by omega) (by omega) (by omega))
            refine wz_br (i3L (i3R (zm_rd (Z := Z14) (ν := ν) (k := 2) (show ((0 : Nat) : Int) = 0 from rfl) (show ((0 : Nat) : Int) = 0 from rfl) (show ((0 : Nat) : Int) = 0 from rfl)) (show (24 : Int32) = i3 24 from rfl) (by omega) (by omega) (by omega) (by omega)) (zm_rd (Z := Z14) (ν := ν) (k := 2) (show ((0 : Nat) : Int) = 0 from rfl) (show ((0 : Nat) : Int) = 0 from rfl) (i3I (y := (3010 + 60 * a1)) (i3A (i3A (show (3010 : Int32) = i3 3010 from rfl) (i3M (show (60 : Int32) = i3 60 from rfl) (rfl : i3 a1 = i3 a1))) (show (0 : Int32) = i3 0 from rfl)) (by omega) (by omega) (by omega))) (by omega) (by omega) (by omega) (by omega)) (fun h19 => ?_) (fun h19 => ?_)
            · replace hP := zE_p hP h19
              exact zlY hP (show (0 : Int32) = i3 0 from rfl) (.inl rfl) ⟨hZ14I, hZ14K, hZ14U⟩
            · replace hP := zE_n hP h19
              have r20 := zM_k hZ14I 2 0 0 (3011 + 60 * a1) (lo := 0) (hi := 6) (by decide) (zs_3010_1 (x := (a1 + 0)) (by omega) (by omega) (by omega))
              refine wz_br (i3L (i3S (i3A (zm_rd (Z := Z14) (ν := ν) (k := 2) (show ((0 : Nat) : Int) = 0 from rfl) (show ((0 : Nat) : Int) = 0 from rfl) (i3I (y := (3010 + 60 * a1)) (i3A (i3A (show (3010 : Int32) = i3 3010 from rfl) (i3M (show (60 : Int32) = i3 60 from rfl) (rfl : i3 a1 = i3 a1))) (show (0 : Int32) = i3 0 from rfl)) (by omega) (by omega) (by omega))) (zm_rd (Z := Z14) (ν := ν) (k := 2) (show ((0 : Nat) : Int) = 0 from rfl) (show ((0 : Nat) : Int) = 0 from rfl) (i3I (y := (3011 + 60 * a1)) (i3A (i3A (show (3010 : Int32) = i3 3010 from rfl) (i3M (show (60 : Int32) = i3 60 from rfl) (rfl : i3 a1 = i3 a1))) (show (1 : Int32) = i3 1 from rfl)) (by omega) (by omega) (by omega)))) (show (1 : Int32) = i3 1 from rfl)) (i3R (zm_rd (Z := Z14) (ν := ν) (k := 2) (show ((0 : Nat) : Int) = 0 from rfl) (show ((0 : Nat) : Int) = 0 from rfl) (show ((0 : Nat) : Int) = 0 from rfl)) (show (24 : Int32) = i3 24 from rfl) (by omega) (by omega) (by omega) (by omega)) (by omega) (by omega) (by omega) (by omega)) (fun h21 => ?_) (fun h21 => ?_)
              · replace hP := zE_p hP h21
                exact zlY hP (show (0 : Int32) = i3 0 from rfl) (.inl rfl) ⟨hZ14I, hZ14K, hZ14U⟩
              · replace hP := zE_n hP h21
                exact zlY hP (show (1 : Int32) = i3 1 from rfl) (.inl rfl) ⟨hZ14I, hZ14K, hZ14U⟩
/- yX12_tHoursOfRow -/
def zl_514_1 : Nat → qz_Z → Int → Int → Int → Int × Int × Int
  | 0, Z, x1, x2, x3 => (x1, x2, x3)
  | m + 1, Z, x1, x2, x3 => (if (Z 1 0 0 24) ≤ x3 then (x1, x2, x3) else zl_514_1 m Z (w3 (x1 + (Z 2 0 0 (3210 + 6 * x2 + (Z 95 0 0 x3))))) (Z 95 0 0 x3) (x3 + 1))
theorem sl_514_1 {s : zSM} {Z : qz_Z} {ν : qz_N} (hZ : zM s Z) (hM : s.2 + 0 ≤ 1000000000) {x1 : Int} (gx1 : -2147483648 ≤ x1 ∧ x1 ≤ 2147483647) {x2 : Int} (gx2 : 0 ≤ x2 ∧ x2 ≤ 5) {x3 : Int} (gx3 : 0 ≤ x3 ∧ x3 ≤ 5) {k : wz_K} {R : wz_R} {L : qz_L} (hL : qz_fg [true, true, true, true] L = [some (.inr (.inr (some (1, 0, 0)))), some (.inl (i3 x1)), some (.inl (i3 x2)), some (.inl (i3 x3))]) {T : Int × Int × Int} (hP : zE T (zl_514_1 ((5 - x3).toNat + 1) Z x1 x2 x3)) (hk : ∀ (L9 : qz_L) (yx1 yx2 yx3 : Int), qz_fg [true, true, true, false] L9 = [some (.inr (.inr (some (1, 0, 0)))), some (.inl (i3 yx1)), some (.inl (i3 yx2)), none] → (-2147483648 ≤ yx1 ∧ yx1 ≤ 2147483647) → (0 ≤ yx2 ∧ yx2 ≤ 5) → (0 ≤ yx3 ∧ yx3 ≤ 5) → zE T ((yx1, yx2, yx3)) → k 0 (L9, [], zm Z ν)) : wz_loop qb_514_1 65536 k R (L, [], zm Z ν) := by
  refine wz_lp sb_514_1 (fun m x => ∃ x1 : Int, ∃ x2 : Int, ∃ x3 : Int, qz_fg [true, true, true, true] x.1 = [some (.inr (.inr (some (1, 0, 0)))), some (.inl (i3 x1)), some (.inl (i3 x2)), some (.inl (i3 x3))] ∧ x.2 = ([], zm Z ν) ∧ m = (5 - x3).toNat ∧ (-2147483648 ≤ x1 ∧ x1 ≤ 2147483647) ∧ (0 ≤ x2 ∧ x2 ≤ 5) ∧ (0 ≤ x3 ∧ x3 ≤ 5) ∧ zE T (zl_514_1 (m + 1) Z x1 x2 x3)) ?_ 65536 ((5 - x3).toNat) _ (by omega) ⟨x1, x2, x3, hL, rfl, rfl, gx1, gx2, gx3, hP⟩
  clear hP gx1 gx2 gx3 hL
  clear x1 x2 x3
  rintro m ⟨L, st, μ⟩ ⟨x1, x2, x3, hL, hx, hm, gx1, gx2, gx3, hP⟩
  cases hx
  refine fb_514_1 (i3 x1) (i3 x2) (i3 x3) _ _ _ _ hL ?_
  have r1 := zM_k hZ 1 0 0 24 (lo := 0) (hi := 5) (by decide) rfl
  refine wz_br (i3Le (zm_rd (Z := Z) (ν := ν) (k := 1) (show ((0 : Nat) : Int) = 0 from rfl) (show ((0 : Nat) : Int) = 0 from rfl) (show ((24 : Nat) : Int) = 24 from rfl)) (rfl : i3 x3 = i3 x3) (by omega) (by omega) (by omega) (by omega)) (fun h2 => ?_) (fun h2 => ?_)
  · replace hP := zE_p hP h2
    exact hk _ _ _ _ (zconso rfl (zconso (zvo (rfl : i3 x1 = i3 x1)) (zconso (zvo (rfl : i3 x2 = i3 x2)) (zconso rfl rfl))))  (by omega) (by omega) (by omega)  hP
  · replace hP := zE_n hP h2
    refine wz_i0 (i3O (n := 5) (rfl : i3 x3 = i3 x3) (by omega) (by omega) (by omega)) ?_
    have r3 := zM_k hZ 95 0 0 x3 (lo := 0) (hi := 4) (by decide) rfl
    refine wz_i0 (i3O (n := 4400) (i3A (i3A (show (3210 : Int32) = i3 3210 from rfl) (i3M (show (6 : Int32) = i3 6 from rfl) (rfl : i3 x2 = i3 x2))) (zm_rd (Z := Z) (ν := ν) (k := 95) (show ((0 : Nat) : Int) = 0 from rfl) (show ((0 : Nat) : Int) = 0 from rfl) (i3I (y := x3) (rfl : i3 x3 = i3 x3) (by omega) (by omega) (by omega)))) (by omega) (by omega) (by omega)) ?_
    refine wz_i0 (i3O (n := 5) (rfl : i3 x3 = i3 x3) (by omega) (by omega) (by omega)) ?_
    have r4 := zM_k hZ 2 0 0 (3210 + 6 * x2 + (Z 95 0 0 x3)) (lo := 0) (hi := 12) (by decide) (zs_3210 (by omega) (by omega))
    have r5 := w3_r (x1 + (Z 2 0 0 (3210 + 6 * x2 + (Z 95 0 0 x3))))
    obtain ⟨m2, rfl⟩ : ∃ m2, m = m2 + 1 := ⟨m - 1, by omega⟩
    exact wz_k1 ⟨m2, by omega, (w3 (x1 + (Z 2 0 0 (3210 + 6 * x2 + (Z 95 0 0 x3))))), (Z 95 0 0 x3), (x3 + 1), (zconso rfl (zconso (zvo (i3W (i3A (rfl : i3 x1 = i3 x1) (zm_rd (Z := Z) (ν := ν) (k := 2) (show ((0 : Nat) : Int) = 0 from rfl) (show ((0 : Nat) : Int) = 0 from rfl) (i3I (y := (3210 + 6 * x2 + (Z 95 0 0 x3))) (i3A (i3A (show (3210 : Int32) = i3 3210 from rfl) (i3M (show (6 : Int32) = i3 6 from rfl) (rfl : i3 x2 = i3 x2))) (zm_rd (Z := Z) (ν := ν) (k := 95) (show ((0 : Nat) : Int) = 0 from rfl) (show ((0 : Nat) : Int) = 0 from rfl) (i3I (y := x3) (rfl : i3 x3 = i3 x3) (by omega) (by omega) (by omega)))) (by omega) (by omega) (by omega)))))) (zconso (zvo (zm_rd (Z := Z) (ν := ν) (k := 95) (show ((0 : Nat) : Int) = 0 from rfl) (show ((0 : Nat) : Int) = 0 from rfl) (i3I (y := x3) (rfl : i3 x3 = i3 x3) (by omega) (by omega) (by omega)))) (zconso (zvo (i3A (rfl : i3 x3 = i3 x3) (show (1 : Int32) = i3 1 from rfl))) rfl)))), rfl,  by omega, by omega, by omega, by omega,  hP⟩
/- yX12_tHoursOfRow -/
def zf_514 (Z : qz_Z) : Int := (zlet3 (zl_514_1 6 Z 0 5 0) (fun y1 y2 y3 => (if (Z 1 0 0 24) ≠ 0 then (w3 (y1 + (Z 2 0 0 (3215 + 6 * y2)))) else 0)))
theorem sp_514 {s : zSM} {Z : qz_Z} {ν : qz_N} (hZ : zM s Z) (hM : s.2 + 0 ≤ 1000000000) : ∃ P : Int, P = zf_514 Z ∧ (qf_514 [.inr (.inr (some (1, 0, 0)))] (zm Z ν) = some (zm Z ν, .inl (some (.inl (i3 P)))) ∧ -2147483648 ≤ P ∧ P ≤ 2147483647) := by
  obtain ⟨P, hP⟩ := zx (zf_514 Z)
  refine zc_R (Q := fun P => -2147483648 ≤ P ∧ P ≤ 2147483647) hP (fw_514  _ _ ?_)
  replace hP : zE P (zf_514 Z) := hP
  unfold zf_514 at hP
  refine sl_514_1 (ν := ν) hZ (zbh (c := 0) (k := 0) hM (Nat.le_of_ble_eq_true rfl)) (x1 := 0) (by omega) (x2 := 5) (by omega) (x3 := 0) (by omega)  (zconso rfl (zconso (zvo (show (0 : Int32) = i3 0 from rfl)) (zconso (zvo (show (5 : Int32) = i3 5 from rfl)) (zconso (zvo (show (0 : Int32) = i3 0 from rfl)) rfl)))) rfl ?_
  intro L4 y1 y2 y3 hL4 gy1 gy2 gy3 q9
  replace hP := zl_e3 hP (Eq.symm q9)
  clear q9
  refine fc_514_2 (i3 y1) (i3 y2) _ _ _ _ hL4 ?_
  have r5 := zM_k hZ 1 0 0 24 (lo := 0) (hi := 5) (by decide) rfl
  refine wz_br (i3NE (zm_rd (Z := Z) (ν := ν) (k := 1) (show ((0 : Nat) : Int) = 0 from rfl) (show ((0 : Nat) : Int) = 0 from rfl) (show ((24 : Nat) : Int) = 24 from rfl)) (show (0 : Int32) = i3 0 from rfl) (by omega) (by omega) (by omega) (by omega)) (fun h6 => ?_) (fun h6 => ?_)
  · replace hP := zE_p hP h6
    refine wz_i0 (i3O (n := 4400) (i3A (i3A (show (3210 : Int32) = i3 3210 from rfl) (i3M (show (6 : Int32) = i3 6 from rfl) (rfl : i3 y2 = i3 y2))) (show (5 : Int32) = i3 5 from rfl)) (by omega) (by omega) (by omega)) ?_
    have r7 := zM_k hZ 2 0 0 (3215 + 6 * y2) (lo := 0) (hi := 12) (by decide) (zs_3210 (by omega) (by omega))
    have r8 := w3_r (y1 + (Z 2 0 0 (3215 + 6 * y2)))
    exact zlR hP (i3W (i3A (rfl : i3 y1 = i3 y1) (zm_rd (Z := Z) (ν := ν) (k := 2) (show ((0 : Nat) : Int) = 0 from rfl) (show ((0 : Nat) : Int) = 0 from rfl) (i3I (y := (3215 + 6 * y2)) (i3A (i3A (show (3210 : Int32) = i3 3210 from rfl) (i3M (show (6 : Int32) = i3 6 from rfl) (rfl : i3 y2 = i3 y2))) (show (5 : Int32) = i3 5 from rfl)) (by omega) (by omega) (by omega))))) ⟨by omega, by omega⟩
  · replace hP := zE_n hP h6
    exact zlR hP (show (0 : Int32) = i3 0 from rfl) ⟨by omega, by omega⟩
/- yX12_tNextRow -/
def zl_522_1 : Nat → qz_Z → Int → Int
  | 0, Z, x1 => x1
  | m + 1, Z, x1 => (if x1 < 0 then x1 else (if (Z 95 0 0 x1) ≤ (Z 95 0 0 (1 + x1)) then x1 else zl_522_1 m Z (x1 + (-1))))
theorem sl_522_1 {s : zSM} {Z : qz_Z} {ν : qz_N} (hZ : zM s Z) (hM : s.2 + 0 ≤ 1000000000) {x1 : Int} (gx1 : -2 ≤ x1 ∧ x1 ≤ 3) (gr0 : x1 + 2 ≤ Z 1 0 0 24) {k : wz_K} {R : wz_R} {L : qz_L} (hL : qz_fg [true, true, false, false, false, false] L = [some (.inr (.inr (some (1, 0, 0)))), some (.inl (i3 x1)), none, none, none, none]) {T : Int} (hP : zE T (zl_522_1 ((x1 - (-2)).toNat + 1) Z x1)) (hk : ∀ (L9 : qz_L) (yx1 : Int), qz_fg [true, true, false, false, false, false] L9 = [some (.inr (.inr (some (1, 0, 0)))), some (.inl (i3 yx1)), none, none, none, none] → (-2 ≤ yx1 ∧ yx1 ≤ 3) → (yx1 + 2 ≤ Z 1 0 0 24) → zE T (yx1) → k 0 (L9, [], zm Z ν)) : wz_loop qb_522_1 65536 k R (L, [], zm Z ν) := by
  refine wz_lp sb_522_1 (fun m x => ∃ x1 : Int, qz_fg [true, true, false, false, false, false] x.1 = [some (.inr (.inr (some (1, 0, 0)))), some (.inl (i3 x1)), none, none, none, none] ∧ x.2 = ([], zm Z ν) ∧ m = (x1 - (-2)).toNat ∧ (-2 ≤ x1 ∧ x1 ≤ 3) ∧ (x1 + 2 ≤ Z 1 0 0 24) ∧ zE T (zl_522_1 (m + 1) Z x1)) ?_ 65536 ((x1 - (-2)).toNat) _ (by omega) ⟨x1, hL, rfl, rfl, gx1, gr0, hP⟩
  clear hP gr0 gx1 hL
  clear x1
  rintro m ⟨L, st, μ⟩ ⟨x1, hL, hx, hm, gx1, gr0, hP⟩
  cases hx
  refine fb_522_1 (i3 x1) _ _ _ _ hL ?_
  have r1 := zM_k hZ 1 0 0 24 (lo := 0) (hi := 5) (by decide) rfl
  refine wz_br (i3L (rfl : i3 x1 = i3 x1) (show (0 : Int32) = i3 0 from rfl) (by omega) (by omega) (by omega) (by omega)) (fun h2 => ?_) (fun h2 => ?_)
  · replace hP := zE_p hP h2
    exact hk _ _ (zconso rfl (zconso (zvo (rfl : i3 x1 = i3 x1)) (zconso rfl (zconso rfl (zconso rfl (zconso rfl rfl))))))  (by omega) (by omega) hP
  · replace hP := zE_n hP h2
    refine wz_i0 (i3O (n := 5) (rfl : i3 x1 = i3 x1) (by omega) (by omega) (by omega)) ?_
    refine wz_i0 (i3O (n := 5) (i3A (rfl : i3 x1 = i3 x1) (show (1 : Int32) = i3 1 from rfl)) (by omega) (by omega) (by omega)) ?_
    have r3 := zM_k hZ 95 0 0 x1 (lo := 0) (hi := 4) (by decide) rfl
    have r4 := zM_k hZ 95 0 0 (1 + x1) (lo := 0) (hi := 4) (by decide) rfl
    refine wz_br (i3Le (zm_rd (Z := Z) (ν := ν) (k := 95) (show ((0 : Nat) : Int) = 0 from rfl) (show ((0 : Nat) : Int) = 0 from rfl) (i3I (y := x1) (rfl : i3 x1 = i3 x1) (by omega) (by omega) (by omega))) (zm_rd (Z := Z) (ν := ν) (k := 95) (show ((0 : Nat) : Int) = 0 from rfl) (show ((0 : Nat) : Int) = 0 from rfl) (i3I (y := (1 + x1)) (i3A (rfl : i3 x1 = i3 x1) (show (1 : Int32) = i3 1 from rfl)) (by omega) (by omega) (by omega))) (by omega) (by omega) (by omega) (by omega)) (fun h5 => ?_) (fun h5 => ?_)
    · replace hP := zE_p hP h5
      exact hk _ _ (zconso rfl (zconso (zvo (rfl : i3 x1 = i3 x1)) (zconso rfl (zconso rfl (zconso rfl (zconso rfl rfl))))))  (by omega) (by omega) hP
    · replace hP := zE_n hP h5
      obtain ⟨m2, rfl⟩ : ∃ m2, m = m2 + 1 := ⟨m - 1, by omega⟩
      exact wz_k1 ⟨m2, by omega, (x1 + (-1)), (zconso rfl (zconso (zvo (i3A (rfl : i3 x1 = i3 x1) (show (-1 : Int32) = i3 (-1) from rfl))) (zconso rfl (zconso rfl (zconso rfl (zconso rfl rfl)))))), rfl,  by omega, by omega, by omega,  hP⟩
/- yX12_tNextRow -/
def zl_522_2 (x1 : Int) : Nat → qz_Z → Int → Int
  | 0, Z, x2 => x2
  | m + 1, Z, x2 => (if (Z 95 0 0 x1) ≤ (Z 95 0 0 x2) then x2 else zl_522_2 x1 m Z (x2 + (-1)))
theorem sl_522_2 {s : zSM} {Z : qz_Z} {ν : qz_N} (hZ : zM s Z) (hM : s.2 + 0 ≤ 1000000000) {x1 : Int} (gx1 : 0 ≤ x1 ∧ x1 ≤ 3) {x2 : Int} (gx2 : 0 ≤ x2 ∧ x2 ≤ 4) (gr0 : x1 ≤ x2) {k : wz_K} {R : wz_R} {L : qz_L} (hL : qz_fg [true, true, true, false, false, false] L = [some (.inr (.inr (some (1, 0, 0)))), some (.inl (i3 x1)), some (.inl (i3 x2)), none, none, none]) {T : Int} (hP : zE T (zl_522_2 x1 ((x2 + 1).toNat + 1) Z x2)) (hk : ∀ (L9 : qz_L) (yx2 : Int), qz_fg [true, true, true, false, false, false] L9 = [some (.inr (.inr (some (1, 0, 0)))), some (.inl (i3 x1)), some (.inl (i3 yx2)), none, none, none] → (0 ≤ yx2 ∧ yx2 ≤ 4) → (x1 ≤ yx2) → zE T (yx2) → k 0 (L9, [], zm Z ν)) : wz_loop qb_522_2 65536 k R (L, [], zm Z ν) := by
  refine wz_lp sb_522_2 (fun m x => ∃ x2 : Int, qz_fg [true, true, true, false, false, false] x.1 = [some (.inr (.inr (some (1, 0, 0)))), some (.inl (i3 x1)), some (.inl (i3 x2)), none, none, none] ∧ x.2 = ([], zm Z ν) ∧ m = (x2 + 1).toNat ∧ (0 ≤ x2 ∧ x2 ≤ 4) ∧ (x1 ≤ x2) ∧ zE T (zl_522_2 x1 (m + 1) Z x2)) ?_ 65536 ((x2 + 1).toNat) _ (by omega) ⟨x2, hL, rfl, rfl, gx2, gr0, hP⟩
  clear hP gr0 gx2 hL
  clear x2
  rintro m ⟨L, st, μ⟩ ⟨x2, hL, hx, hm, gx2, gr0, hP⟩
  cases hx
  refine fb_522_2 (i3 x1) (i3 x2) _ _ _ _ hL ?_
  have r1 := (fun q => by rw [q] : x2 = x1 → Z 95 0 0 x2 = Z 95 0 0 x1)
  refine wz_i0 (i3O (n := 5) (rfl : i3 x2 = i3 x2) (by omega) (by omega) (by omega)) ?_
  refine wz_i0 (i3O (n := 5) (rfl : i3 x1 = i3 x1) (by omega) (by omega) (by omega)) ?_
  have r2 := zM_k hZ 95 0 0 x1 (lo := 0) (hi := 4) (by decide) rfl
  have r3 := zM_k hZ 95 0 0 x2 (lo := 0) (hi := 4) (by decide) rfl
  refine wz_br (i3Le (zm_rd (Z := Z) (ν := ν) (k := 95) (show ((0 : Nat) : Int) = 0 from rfl) (show ((0 : Nat) : Int) = 0 from rfl) (i3I (y := x1) (rfl : i3 x1 = i3 x1) (by omega) (by omega) (by omega))) (zm_rd (Z := Z) (ν := ν) (k := 95) (show ((0 : Nat) : Int) = 0 from rfl) (show ((0 : Nat) : Int) = 0 from rfl) (i3I (y := x2) (rfl : i3 x2 = i3 x2) (by omega) (by omega) (by omega))) (by omega) (by omega) (by omega) (by omega)) (fun h4 => ?_) (fun h4 => ?_)
  · replace hP := zE_p hP h4
    exact hk _ _ (zconso rfl (zconso (zvo (rfl : i3 x1 = i3 x1)) (zconso (zvo (rfl : i3 x2 = i3 x2)) (zconso rfl (zconso rfl (zconso rfl rfl))))))  (by omega) (by omega) hP
  · replace hP := zE_n hP h4
    obtain ⟨m2, rfl⟩ : ∃ m2, m = m2 + 1 := ⟨m - 1, by omega⟩
    exact wz_k1 ⟨m2, by omega, (x2 + (-1)), (zconso rfl (zconso (zvo (rfl : i3 x1 = i3 x1)) (zconso (zvo (i3A (rfl : i3 x2 = i3 x2) (show (-1 : Int32) = i3 (-1) from rfl))) (zconso rfl (zconso rfl (zconso rfl rfl)))))), rfl,  by omega, by omega, by omega,  hP⟩
/- yX12_tNextRow -/
def zl_522_3 : Nat → qz_Z → Int → Int → qz_Z × Int × Int
  | 0, Z, x4, x5 => (Z, x4, x5)
  | m + 1, Z, x4, x5 => (if x4 ≤ x5 then (Z, x4, x5) else (zlet (zu Z 95 0 0 x5 (Z 95 0 0 x4)) (fun Z3 => (zlet (zu Z3 95 0 0 x4 (Z 95 0 0 x5)) (fun Z5 => zl_522_3 m Z5 (x4 + (-1)) (x5 + 1))))))
theorem sl_522_3 {s : zSM} {Zs Z : qz_Z} {ν : qz_N} (hZ : zM s Z) (hM : s.2 + 0 ≤ 1000000000) (hK : zC [95] Zs Z) {x4 : Int} (gx4 : -1 ≤ x4 ∧ x4 ≤ 4) {x5 : Int} (gx5 : 0 ≤ x5 ∧ x5 ≤ 5) (hU : zU [] Zs Z) {k : wz_K} {R : wz_R} {L : qz_L} (hL : qz_fg [true, false, false, false, true, true] L = [some (.inr (.inr (some (1, 0, 0)))), none, none, none, some (.inl (i3 x4)), some (.inl (i3 x5))]) {T : qz_Z × Int × Int} (hP : zE T (zl_522_3 ((5 - x5).toNat + 1) Z x4 x5)) (hk : ∀ (L9 : qz_L) (Z9 : qz_Z) (yx4 yx5 : Int), qz_fg [false, false, false, false, false, false] L9 = [none, none, none, none, none, none] → zM s Z9 → zC [95] Zs Z9 → zU [] Zs Z9 → (-1 ≤ yx4 ∧ yx4 ≤ 4) → (0 ≤ yx5 ∧ yx5 ≤ 5) → zE T ((Z9, yx4, yx5)) → k 0 (L9, [], zm Z9 ν)) : wz_loop qb_522_3 65536 k R (L, [], zm Z ν) := by
  refine wz_lp sb_522_3 (fun m x => ∃ Z : qz_Z, ∃ x4 : Int, ∃ x5 : Int, qz_fg [true, false, false, false, true, true] x.1 = [some (.inr (.inr (some (1, 0, 0)))), none, none, none, some (.inl (i3 x4)), some (.inl (i3 x5))] ∧ x.2 = ([], zm Z ν) ∧ zM s Z ∧ zC [95] Zs Z ∧ zU [] Zs Z ∧ m = (5 - x5).toNat ∧ (-1 ≤ x4 ∧ x4 ≤ 4) ∧ (0 ≤ x5 ∧ x5 ≤ 5) ∧ zE T (zl_522_3 (m + 1) Z x4 x5)) ?_ 65536 ((5 - x5).toNat) _ (by omega) ⟨Z, x4, x5, hL, rfl, hZ, hK, hU, rfl, gx4, gx5, hP⟩
  clear hP gx4 gx5 hZ hK hU hL
  clear x4 x5
  clear Z
  rintro m ⟨L, st, μ⟩ ⟨Z, x4, x5, hL, hx, hZ, hK, hU, hm, gx4, gx5, hP⟩
  cases hx
  refine fb_522_3 (i3 x4) (i3 x5) _ _ _ _ hL ?_
  refine wz_br (i3Le (rfl : i3 x4 = i3 x4) (rfl : i3 x5 = i3 x5) (by omega) (by omega) (by omega) (by omega)) (fun h1 => ?_) (fun h1 => ?_)
  · replace hP := zE_p hP h1
    exact hk _ _ _ _ (zconso rfl (zconso rfl (zconso rfl (zconso rfl (zconso rfl (zconso rfl rfl)))))) hZ hK hU (by omega) (by omega)  hP
  · replace hP := zE_n hP h1
    refine wz_i0 (i3O (n := 5) (rfl : i3 x5 = i3 x5) (by omega) (by omega) (by omega)) ?_
    refine wz_i0 (i3O (n := 5) (rfl : i3 x4 = i3 x4) (by omega) (by omega) (by omega)) ?_
    refine wz_i0 (i3O (n := 5) (rfl : i3 x5 = i3 x5) (by omega) (by omega) (by omega)) ?_
    have r2 := zM_k hZ 95 0 0 x4 (lo := 0) (hi := 4) (by decide) rfl
    obtain ⟨Z3, hZ3⟩ := zx (zu Z 95 0 0 x5 (Z 95 0 0 x4))
    replace hP := zl_e hP hZ3
    have hZ3I := zM_u hZ hZ3 (lo := 0) (hi := 4) (by decide) rfl (by omega) ⟨by decide, by decide⟩ (Or.inl (by decide)) rfl
    have hZ3U : zU [] Zs Z3 := zU_u hU hZ3 (Or.inl rfl)
    have hZ3K : zC [95] Zs Z3 := zC_u hK hZ3 rfl
    intro μ9 e9
    replace e9 := e9.trans (zm_wI (Z := Z) (ν := ν) hZ3 (show ((0 : Nat) : Int) = 0 from rfl) (show ((0 : Nat) : Int) = 0 from rfl) (i3I (y := x5) (rfl : i3 x5 = i3 x5) (by omega) (by omega) (by omega)) (zm_rd (Z := Z) (ν := ν) (k := 95) (show ((0 : Nat) : Int) = 0 from rfl) (show ((0 : Nat) : Int) = 0 from rfl) (i3I (y := x4) (rfl : i3 x4 = i3 x4) (by omega) (by omega) (by omega))))
    subst e9
    refine wz_i0 (i3O (n := 5) (rfl : i3 x4 = i3 x4) (by omega) (by omega) (by omega)) ?_
    have r4 := zM_k hZ 95 0 0 x5 (lo := 0) (hi := 4) (by decide) rfl
    obtain ⟨Z5, hZ5⟩ := zx (zu Z3 95 0 0 x4 (Z 95 0 0 x5))
    replace hP := zl_e hP hZ5
    have hZ5I := zM_u hZ3I hZ5 (lo := 0) (hi := 4) (by decide) rfl (by omega) ⟨by decide, by decide⟩ (Or.inl (by decide)) rfl
    have hZ5U : zU [] Zs Z5 := zU_u hZ3U hZ5 (Or.inl rfl)
    have hZ5K : zC [95] Zs Z5 := zC_u hZ3K hZ5 rfl
    intro μ9 e9
    replace e9 := e9.trans (zm_wI (Z := Z3) (ν := ν) hZ5 (show ((0 : Nat) : Int) = 0 from rfl) (show ((0 : Nat) : Int) = 0 from rfl) (i3I (y := x4) (rfl : i3 x4 = i3 x4) (by omega) (by omega) (by omega)) (zm_rd (Z := Z) (ν := ν) (k := 95) (show ((0 : Nat) : Int) = 0 from rfl) (show ((0 : Nat) : Int) = 0 from rfl) (i3I (y := x5) (rfl : i3 x5 = i3 x5) (by omega) (by omega) (by omega))))
    subst e9
    obtain ⟨m2, rfl⟩ : ∃ m2, m = m2 + 1 := ⟨m - 1, by omega⟩
    exact wz_k1 ⟨m2, by omega, Z5, (x4 + (-1)), (x5 + 1), (zconso rfl (zconso rfl (zconso rfl (zconso rfl (zconso (zvo (i3A (rfl : i3 x4 = i3 x4) (show (-1 : Int32) = i3 (-1) from rfl))) (zconso (zvo (i3A (rfl : i3 x5 = i3 x5) (show (1 : Int32) = i3 1 from rfl))) rfl)))))), rfl, hZ5I, hZ5K, hZ5U, by omega, by omega, by omega,  hP⟩
/- yX12_tNextRow -/
def zf_522 (Z : qz_Z) : qz_Z × Int := (zlet (zl_522_1 ((((Z 1 0 0 24) - 2) - (-2)).toNat + 1) Z ((Z 1 0 0 24) - 2)) (fun y2 => (if 0 ≤ y2 then (zlet (zl_522_2 y2 ((((Z 1 0 0 24) - 1) + 1).toNat + 1) Z ((Z 1 0 0 24) - 1)) (fun y5 => (zlet (zu Z 95 0 0 y2 (Z 95 0 0 y5)) (fun Z8 => (zlet (zu Z8 95 0 0 y5 (Z 95 0 0 y2)) (fun Z10 => (zlet3 (zl_522_3 ((5 - (y2 + 1)).toNat + 1) Z10 ((Z10 1 0 0 24) - 1) (y2 + 1)) (fun Z15 y13 y14 => (Z15, 1))))))))) else (Z, 0))))
theorem sp_522 {s : zSM} {Z : qz_Z} {ν : qz_N} (hZ : zM s Z) (hM : s.2 + 0 ≤ 1000000000) : ∃ (Z1 : qz_Z) (P : Int), (Z1, P) = zf_522 Z ∧ (qf_522 [.inr (.inr (some (1, 0, 0)))] (zm Z ν) = some (zm Z1 ν, .inl (some (.inl (i3 P)))) ∧ zM s Z1 ∧ zC [95] Z Z1 ∧ zU [] Z Z1 ∧ 0 ≤ P ∧ P ≤ 1) := by
  obtain ⟨P, hP⟩ := zx (zf_522 Z)
  refine zc_W (Q := fun Z1 P => zM s Z1 ∧ zC [95] Z Z1 ∧ zU [] Z Z1 ∧ 0 ≤ P ∧ P ≤ 1) hP (fw_522  _ _ ?_)
  replace hP : zE P (zf_522 Z) := hP
  unfold zf_522 at hP
  have r1 := zM_k hZ 1 0 0 24 (lo := 0) (hi := 5) (by decide) rfl
  refine sl_522_1 (ν := ν) hZ (zbh (c := 0) (k := 0) hM (Nat.le_of_ble_eq_true rfl)) (x1 := ((Z 1 0 0 24) - 2)) (by omega) (by omega) (zconso rfl (zconso (zvo (i3S (zm_rd (Z := Z) (ν := ν) (k := 1) (show ((0 : Nat) : Int) = 0 from rfl) (show ((0 : Nat) : Int) = 0 from rfl) (show ((24 : Nat) : Int) = 24 from rfl)) (show (2 : Int32) = i3 2 from rfl))) (zconso rfl (zconso rfl (zconso rfl (zconso rfl rfl)))))) rfl ?_
  intro L3 y2 hL3 gy2 gL3_0 q9
  replace hP := zl_e hP (Eq.symm q9)
  clear q9
  refine fc_522_6 (i3 y2) _ _ _ _ hL3 ?_
  refine wz_br (i3Le (show (0 : Int32) = i3 0 from rfl) (rfl : i3 y2 = i3 y2) (by omega) (by omega) (by omega) (by omega)) (fun h4 => ?_) (fun h4 => ?_)
  · replace hP := zE_p hP h4
    refine sl_522_2 (ν := ν) hZ (zbh (c := 0) (k := 0) hM (Nat.le_of_ble_eq_true rfl)) (x1 := y2) (by omega) (x2 := ((Z 1 0 0 24) - 1)) (by omega) (by omega) (zconso rfl (zconso (zvo (rfl : i3 y2 = i3 y2)) (zconso (zvo (i3S (zm_rd (Z := Z) (ν := ν) (k := 1) (show ((0 : Nat) : Int) = 0 from rfl) (show ((0 : Nat) : Int) = 0 from rfl) (show ((24 : Nat) : Int) = 24 from rfl)) (show (1 : Int32) = i3 1 from rfl))) (zconso rfl (zconso rfl (zconso rfl rfl)))))) rfl ?_
    intro L6 y5 hL6 gy5 gL6_0 q9
    replace hP := zl_e hP (Eq.symm q9)
    clear q9
    refine fc_522_5 (i3 y2) (i3 y5) _ _ _ _ hL6 ?_
    refine wz_i0 (i3O (n := 5) (rfl : i3 y2 = i3 y2) (by omega) (by omega) (by omega)) ?_
    refine wz_i0 (i3O (n := 5) (rfl : i3 y5 = i3 y5) (by omega) (by omega) (by omega)) ?_
    refine wz_i0 (i3O (n := 5) (rfl : i3 y2 = i3 y2) (by omega) (by omega) (by omega)) ?_
    have r7 := zM_k hZ 95 0 0 y5 (lo := 0) (hi := 4) (by decide) rfl
    obtain ⟨Z8, hZ8⟩ := zx (zu Z 95 0 0 y2 (Z 95 0 0 y5))
    replace hP := zl_e hP hZ8
    have hZ8I := zM_u hZ hZ8 (lo := 0) (hi := 4) (by decide) rfl (by omega) ⟨by decide, by decide⟩ (Or.inl (by decide)) rfl
    have hZ8U : zU [] Z Z8 := zU_u zU_r hZ8 (Or.inl rfl)
    have hZ8K : zC [95] Z Z8 := zC_u zC_r hZ8 rfl
    intro μ9 e9
    replace e9 := e9.trans (zm_wI (Z := Z) (ν := ν) hZ8 (show ((0 : Nat) : Int) = 0 from rfl) (show ((0 : Nat) : Int) = 0 from rfl) (i3I (y := y2) (rfl : i3 y2 = i3 y2) (by omega) (by omega) (by omega)) (zm_rd (Z := Z) (ν := ν) (k := 95) (show ((0 : Nat) : Int) = 0 from rfl) (show ((0 : Nat) : Int) = 0 from rfl) (i3I (y := y5) (rfl : i3 y5 = i3 y5) (by omega) (by omega) (by omega))))
    subst e9
    refine wz_i0 (i3O (n := 5) (rfl : i3 y5 = i3 y5) (by omega) (by omega) (by omega)) ?_
    have r9 := zM_k hZ 95 0 0 y2 (lo := 0) (hi := 4) (by decide) rfl
    obtain ⟨Z10, hZ10⟩ := zx (zu Z8 95 0 0 y5 (Z 95 0 0 y2))
    replace hP := zl_e hP hZ10
    have hZ10I := zM_u hZ8I hZ10 (lo := 0) (hi := 4) (by decide) rfl (by omega) ⟨by decide, by decide⟩ (Or.inl (by decide)) rfl
    have hZ10U : zU [] Z Z10 := zU_u hZ8U hZ10 (Or.inl rfl)
    have hZ10K : zC [95] Z Z10 := zC_u hZ8K hZ10 rfl
    intro μ9 e9
    replace e9 := e9.trans (zm_wI (Z := Z8) (ν := ν) hZ10 (show ((0 : Nat) : Int) = 0 from rfl) (show ((0 : Nat) : Int) = 0 from rfl) (i3I (y := y5) (rfl : i3 y5 = i3 y5) (by omega) (by omega) (by omega)) (zm_rd (Z := Z) (ν := ν) (k := 95) (show ((0 : Nat) : Int) = 0 from rfl) (show ((0 : Nat) : Int) = 0 from rfl) (i3I (y := y2) (rfl : i3 y2 = i3 y2) (by omega) (by omega) (by omega))))
    subst e9
    have r11 := zM_k hZ10I 1 0 0 24 (lo := 0) (hi := 5) (by decide) rfl
    have q12 := (zu_ne (k' := 1) (b' := 0) (i' := 0) (j' := 24) hZ10 (fun q => absurd q.1 (by decide))).trans (zu_ne (k' := 1) (b' := 0) (i' := 0) (j' := 24) hZ8 (fun q => absurd q.1 (by decide)))
    refine sl_522_3 (ν := ν) hZ10I (zbh (c := 0) (k := 0) hM (Nat.le_of_ble_eq_true rfl)) zC_r (x4 := ((Z10 1 0 0 24) - 1)) (by omega) (x5 := (y2 + 1)) (by omega) zU_r  (zconso rfl (zconso rfl (zconso rfl (zconso rfl (zconso (zvo (i3S (zm_rd (Z := Z10) (ν := ν) (k := 1) (show ((0 : Nat) : Int) = 0 from rfl) (show ((0 : Nat) : Int) = 0 from rfl) (show ((24 : Nat) : Int) = 24 from rfl)) (show (1 : Int32) = i3 1 from rfl))) (zconso (zvo (i3A (rfl : i3 y2 = i3 y2) (show (1 : Int32) = i3 1 from rfl))) rfl)))))) rfl ?_
    intro L16 Z15 y13 y14 hL16 hZ15I kZ15 jZ15 gy13 gy14 q9
    replace hP := zl_e3 hP (Eq.symm q9)
    clear q9
    have hZ15U : zU [] Z Z15 := zU_t hZ10U jZ15 zU_b0
    have hZ15K : zC [95] Z Z15 := zC_t hZ10K kZ15 (by decide)
    refine fc_522_4  _ _ _ _ hL16 ?_
    exact zlW hP (show (1 : Int32) = i3 1 from rfl) ⟨hZ15I, hZ15K, hZ15U, by omega, by omega⟩
  · replace hP := zE_n hP h4
    exact zlW hP (show (0 : Int32) = i3 0 from rfl) ⟨hZ, zC_r, zU_r, by omega, by omega⟩
/- yX12_tFindTrip -/
def zl_511_1 (x1 : Int) : Nat → qz_Z → Int → qz_Z × Int
  | 0, Z, x2 => (Z, x2)
  | m + 1, Z, x2 => (if 5 ≤ x2 then (Z, x2) else (if (z2 (fun x y => x &&& y) (z2 (fun x y => x >>> (y &&& 31)) x1 x2) 1) ≠ 1 then zl_511_1 x1 m Z (x2 + 1) else (zlet (zu Z 95 0 0 (Z 1 0 0 24) x2) (fun Z7 => (zlet (zu Z7 1 0 0 24 ((Z7 1 0 0 24) + 1)) (fun Z10 => zl_511_1 x1 m Z10 (x2 + 1)))))))
theorem sl_511_1 {s : zSM} {Zs Z : qz_Z} {ν : qz_N} (hZ : zM s Z) (hM : s.2 + 0 ≤ 1000000000) (hK : zC [1, 95] Zs Z) {x1 : Int} (gx1 : 0 ≤ x1 ∧ x1 ≤ 31) {x2 : Int} (gx2 : 0 ≤ x2 ∧ x2 ≤ 5) (hU : zU [] Zs Z) (gr0 : Z 1 0 0 24 ≤ x2) {k : wz_K} {R : wz_R} {L : qz_L} (hL : qz_fg [true, true, true, false, false] L = [some (.inr (.inr (some (1, 0, 0)))), some (.inl (i3 x1)), some (.inl (i3 x2)), none, none]) {T : qz_Z × Int} (hP : zE T (zl_511_1 x1 ((5 - x2).toNat + 1) Z x2)) (hk : ∀ (L9 : qz_L) (Z9 : qz_Z) (yx2 : Int), qz_fg [true, false, false, false, false] L9 = [some (.inr (.inr (some (1, 0, 0)))), none, none, none, none] → zM s Z9 → zC [1, 95] Zs Z9 → zU [] Zs Z9 → (0 ≤ yx2 ∧ yx2 ≤ 5) → (Z9 1 0 0 24 ≤ yx2) → zE T ((Z9, yx2)) → k 0 (L9, [], zm Z9 ν)) : wz_loop qb_511_1 65536 k R (L, [], zm Z ν) := by
  refine wz_lp sb_511_1 (fun m x => ∃ Z : qz_Z, ∃ x2 : Int, qz_fg [true, true, true, false, false] x.1 = [some (.inr (.inr (some (1, 0, 0)))), some (.inl (i3 x1)), some (.inl (i3 x2)), none, none] ∧ x.2 = ([], zm Z ν) ∧ zM s Z ∧ zC [1, 95] Zs Z ∧ zU [] Zs Z ∧ m = (5 - x2).toNat ∧ (0 ≤ x2 ∧ x2 ≤ 5) ∧ (Z 1 0 0 24 ≤ x2) ∧ zE T (zl_511_1 x1 (m + 1) Z x2)) ?_ 65536 ((5 - x2).toNat) _ (by omega) ⟨Z, x2, hL, rfl, hZ, hK, hU, rfl, gx2, gr0, hP⟩
  clear hP gr0 gx2 hZ hK hU hL
  clear x2
  clear Z
  rintro m ⟨L, st, μ⟩ ⟨Z, x2, hL, hx, hZ, hK, hU, hm, gx2, gr0, hP⟩
  cases hx
  refine fb_511_1 (i3 x1) (i3 x2) _ _ _ _ hL ?_
  have r1 := zM_k hZ 1 0 0 24 (lo := 0) (hi := 5) (by decide) rfl
  refine wz_br (i3Le (show (5 : Int32) = i3 5 from rfl) (rfl : i3 x2 = i3 x2) (by omega) (by omega) (by omega) (by omega)) (fun h2 => ?_) (fun h2 => ?_)
  · replace hP := zE_p hP h2
    exact hk _ _ _ (zconso rfl (zconso rfl (zconso rfl (zconso rfl (zconso rfl rfl))))) hZ hK hU (by omega) (by omega) hP
  · replace hP := zE_n hP h2
    have r3 := z2_r (fun x y => x >>> (y &&& 31)) x1 x2
    have r4 := z2_r (fun x y => x &&& y) (z2 (fun x y => x >>> (y &&& 31)) x1 x2) 1
    have r5 := z2_and (z2 (fun x y => x >>> (y &&& 31)) x1 x2) (y := 1) (by omega) (by omega)
    refine wz_br (i3NE (i3Z (fun x y => x &&& y) (i3Z (fun x y => x >>> (y &&& 31)) (rfl : i3 x1 = i3 x1) (rfl : i3 x2 = i3 x2)) (show (1 : Int32) = i3 1 from rfl)) (show (1 : Int32) = i3 1 from rfl) (by omega) (by omega) (by omega) (by omega)) (fun h6 => ?_) (fun h6 => ?_)
    · replace hP := zE_p hP h6
      obtain ⟨m2, rfl⟩ : ∃ m2, m = m2 + 1 := ⟨m - 1, by omega⟩
      exact wz_k1 ⟨m2, by omega, Z, (x2 + 1), (zconso rfl (zconso (zvo (rfl : i3 x1 = i3 x1)) (zconso (zvo (i3A (rfl : i3 x2 = i3 x2) (show (1 : Int32) = i3 1 from rfl))) (zconso rfl (zconso rfl rfl))))), rfl, hZ, hK, hU, by omega, by omega, by omega,  hP⟩
    · replace hP := zE_n hP h6
      refine wz_i0 (i3O (n := 5) (zm_rd (Z := Z) (ν := ν) (k := 1) (show ((0 : Nat) : Int) = 0 from rfl) (show ((0 : Nat) : Int) = 0 from rfl) (show ((24 : Nat) : Int) = 24 from rfl)) (by omega) (by omega) (by omega)) ?_
      obtain ⟨Z7, hZ7⟩ := zx (zu Z 95 0 0 (Z 1 0 0 24) x2)
      replace hP := zl_e hP hZ7
      have hZ7I := zM_u hZ hZ7 (lo := 0) (hi := 4) (by decide) rfl (by omega) ⟨by decide, by decide⟩ (Or.inl (by decide)) rfl
      have hZ7U : zU [] Zs Z7 := zU_u hU hZ7 (Or.inl rfl)
      have hZ7K : zC [1, 95] Zs Z7 := zC_u hK hZ7 rfl
      intro μ9 e9
      replace e9 := e9.trans (zm_wI (Z := Z) (ν := ν) hZ7 (show ((0 : Nat) : Int) = 0 from rfl) (show ((0 : Nat) : Int) = 0 from rfl) (i3I (y := (Z 1 0 0 24)) (zm_rd (Z := Z) (ν := ν) (k := 1) (show ((0 : Nat) : Int) = 0 from rfl) (show ((0 : Nat) : Int) = 0 from rfl) (show ((24 : Nat) : Int) = 24 from rfl)) (by omega) (by omega) (by omega)) (rfl : i3 x2 = i3 x2))
      subst e9
      have r8 := zM_k hZ7I 1 0 0 24 (lo := 0) (hi := 5) (by decide) rfl
      have q9 := zu_ne (k' := 1) (b' := 0) (i' := 0) (j' := 24) hZ7 (fun q => absurd q.1 (by decide))
      obtain ⟨Z10, hZ10⟩ := zx (zu Z7 1 0 0 24 ((Z7 1 0 0 24) + 1))
      replace hP := zl_e hP hZ10
      have hZ10I := zM_u hZ7I hZ10 (lo := 0) (hi := 5) (by decide) rfl (by omega) ⟨by decide, by decide⟩ (Or.inr (by decide)) rfl
      have hZ10U : zU [] Zs Z10 := zU_u hZ7U hZ10 (Or.inl rfl)
      have hZ10K : zC [1, 95] Zs Z10 := zC_u hZ7K hZ10 (by decide)
      intro μ9 e9
      replace e9 := e9.trans (zm_wI (Z := Z7) (ν := ν) hZ10 (show ((0 : Nat) : Int) = 0 from rfl) (show ((0 : Nat) : Int) = 0 from rfl) (show ((24 : Nat) : Int) = 24 from rfl) (i3A (zm_rd (Z := Z7) (ν := ν) (k := 1) (show ((0 : Nat) : Int) = 0 from rfl) (show ((0 : Nat) : Int) = 0 from rfl) (show ((24 : Nat) : Int) = 24 from rfl)) (show (1 : Int32) = i3 1 from rfl)))
      subst e9
      have r11 := zM_k hZ10I 1 0 0 24 (lo := 0) (hi := 5) (by decide) rfl
      have q12 := zu_at hZ10
      obtain ⟨m2, rfl⟩ : ∃ m2, m = m2 + 1 := ⟨m - 1, by omega⟩
      exact wz_k1 ⟨m2, by omega, Z10, (x2 + 1), (zconso rfl (zconso (zvo (rfl : i3 x1 = i3 x1)) (zconso (zvo (i3A (rfl : i3 x2 = i3 x2) (show (1 : Int32) = i3 1 from rfl))) (zconso rfl (zconso rfl rfl))))), rfl, hZ10I, hZ10K, hZ10U, by omega, by omega, by omega,  hP⟩
/- yX12_tFindTrip -/
def zl_511_2 : Nat → qz_Z → Int → qz_Z × Int
  | 0, Z, x4 => (Z, x4)
  | m + 1, Z, x4 => (if (Z 1 0 0 24) ≤ x4 then (Z, x4) else (zlet (zu Z 96 0 0 x4 (Z 95 0 0 x4)) (fun Z4 => zl_511_2 m Z4 (x4 + 1))))
theorem sl_511_2 {s : zSM} {Zs Z : qz_Z} {ν : qz_N} (hZ : zM s Z) (hM : s.2 + 0 ≤ 1000000000) (hK : zC [96] Zs Z) {x4 : Int} (gx4 : 0 ≤ x4 ∧ x4 ≤ 5) (hU : zU [] Zs Z) {k : wz_K} {R : wz_R} {L : qz_L} (hL : qz_fg [true, false, false, false, true] L = [some (.inr (.inr (some (1, 0, 0)))), none, none, none, some (.inl (i3 x4))]) {T : qz_Z × Int} (hP : zE T (zl_511_2 ((5 - x4).toNat + 1) Z x4)) (hk : ∀ (L9 : qz_L) (Z9 : qz_Z) (yx4 : Int), qz_fg [true, false, false, false, false] L9 = [some (.inr (.inr (some (1, 0, 0)))), none, none, none, none] → zM s Z9 → zC [96] Zs Z9 → zU [] Zs Z9 → (0 ≤ yx4 ∧ yx4 ≤ 5) → zE T ((Z9, yx4)) → k 1 (L9, [], zm Z9 ν)) : wz_loop qb_511_2 65536 k R (L, [], zm Z ν) := by
  refine wz_lp sb_511_2 (fun m x => ∃ Z : qz_Z, ∃ x4 : Int, qz_fg [true, false, false, false, true] x.1 = [some (.inr (.inr (some (1, 0, 0)))), none, none, none, some (.inl (i3 x4))] ∧ x.2 = ([], zm Z ν) ∧ zM s Z ∧ zC [96] Zs Z ∧ zU [] Zs Z ∧ m = (5 - x4).toNat ∧ (0 ≤ x4 ∧ x4 ≤ 5) ∧ zE T (zl_511_2 (m + 1) Z x4)) ?_ 65536 ((5 - x4).toNat) _ (by omega) ⟨Z, x4, hL, rfl, hZ, hK, hU, rfl, gx4, hP⟩
  clear hP gx4 hZ hK hU hL
  clear x4
  clear Z
  rintro m ⟨L, st, μ⟩ ⟨Z, x4, hL, hx, hZ, hK, hU, hm, gx4, hP⟩
  cases hx
  refine fb_511_2 (i3 x4) _ _ _ _ hL ?_
  have r1 := zM_k hZ 1 0 0 24 (lo := 0) (hi := 5) (by decide) rfl
  refine wz_br (i3Le (zm_rd (Z := Z) (ν := ν) (k := 1) (show ((0 : Nat) : Int) = 0 from rfl) (show ((0 : Nat) : Int) = 0 from rfl) (show ((24 : Nat) : Int) = 24 from rfl)) (rfl : i3 x4 = i3 x4) (by omega) (by omega) (by omega) (by omega)) (fun h2 => ?_) (fun h2 => ?_)
  · replace hP := zE_p hP h2
    exact hk _ _ _ (zconso rfl (zconso rfl (zconso rfl (zconso rfl (zconso rfl rfl))))) hZ hK hU (by omega)  hP
  · replace hP := zE_n hP h2
    refine wz_i0 (i3O (n := 5) (rfl : i3 x4 = i3 x4) (by omega) (by omega) (by omega)) ?_
    refine wz_i0 (i3O (n := 5) (rfl : i3 x4 = i3 x4) (by omega) (by omega) (by omega)) ?_
    have r3 := zM_k hZ 95 0 0 x4 (lo := 0) (hi := 4) (by decide) rfl
    obtain ⟨Z4, hZ4⟩ := zx (zu Z 96 0 0 x4 (Z 95 0 0 x4))
    replace hP := zl_e hP hZ4
    have hZ4I := zM_u hZ hZ4 (lo := 0) (hi := 4) (by decide) rfl (by omega) ⟨by decide, by decide⟩ (Or.inl (by decide)) rfl
    have hZ4U : zU [] Zs Z4 := zU_u hU hZ4 (Or.inl rfl)
    have hZ4K : zC [96] Zs Z4 := zC_u hK hZ4 rfl
    intro μ9 e9
    replace e9 := e9.trans (zm_wI (Z := Z) (ν := ν) hZ4 (show ((0 : Nat) : Int) = 0 from rfl) (show ((0 : Nat) : Int) = 0 from rfl) (i3I (y := x4) (rfl : i3 x4 = i3 x4) (by omega) (by omega) (by omega)) (zm_rd (Z := Z) (ν := ν) (k := 95) (show ((0 : Nat) : Int) = 0 from rfl) (show ((0 : Nat) : Int) = 0 from rfl) (i3I (y := x4) (rfl : i3 x4 = i3 x4) (by omega) (by omega) (by omega))))
    subst e9
    obtain ⟨m2, rfl⟩ : ∃ m2, m = m2 + 1 := ⟨m - 1, by omega⟩
    exact wz_k1 ⟨m2, by omega, Z4, (x4 + 1), (zconso rfl (zconso rfl (zconso rfl (zconso rfl (zconso (zvo (i3A (rfl : i3 x4 = i3 x4) (show (1 : Int32) = i3 1 from rfl))) rfl))))), rfl, hZ4I, hZ4K, hZ4U, by omega, by omega,  hP⟩
/- yX12_tFindTrip -/
def zl_511_4 : Nat → qz_Z → Int → qz_Z × Int
  | 0, Z, x2 => (Z, x2)
  | m + 1, Z, x2 => (if x2 = 0 then (Z, x2) else (zlet (zf_514 Z) (fun v7 => (if (Z 1 0 0 25) = (-1) then (zlet (zu Z 1 0 0 25 v7) (fun Z10 => (zlet2 (zl_511_2 6 Z10 0) (fun Z12 y11 => (zlet2 (zf_522 Z12) (fun Z14 v15 => zl_511_4 m Z14 v15)))))) else (if (Z 1 0 0 25) ≤ v7 then (zlet2 (zf_522 Z) (fun Z22 v23 => zl_511_4 m Z22 v23)) else (zlet (zu Z 1 0 0 25 v7) (fun Z29 => (zlet2 (zl_511_2 6 Z29 0) (fun Z31 y30 => (zlet2 (zf_522 Z31) (fun Z33 v34 => zl_511_4 m Z33 v34)))))))))))
theorem sl_511_4 {s : zSM} {Zs Z : qz_Z} {ν : qz_N} (hZ : zM s Z) (hM : s.2 + 0 ≤ 1000000000) (hK : zC [1, 95, 96] Zs Z) {x2 : Int} (gx2 : 0 ≤ x2 ∧ x2 ≤ 1) (hU : zU [] Zs Z) (gm9 : (3125 - (625 * Z 95 0 0 0 + 125 * Z 95 0 0 1 + 25 * Z 95 0 0 2 + 5 * Z 95 0 0 3 + Z 95 0 0 4)).toNat ≤ 3125) {k : wz_K} {R : wz_R} {L : qz_L} (hL : qz_fg [true, false, true, false, false] L = [some (.inr (.inr (some (1, 0, 0)))), none, some (.inl (i3 x2)), none, none]) {T : qz_Z × Int} (hP : zE T (zl_511_4 (3125 + 1) Z x2)) (hk : ∀ (L9 : qz_L) (Z9 : qz_Z) (yx2 : Int), qz_fg [false, false, false, false, false] L9 = [none, none, none, none, none] → zM s Z9 → zC [1, 95, 96] Zs Z9 → zU [] Zs Z9 → (0 ≤ yx2 ∧ yx2 ≤ 1) → zE T ((Z9, yx2)) → k 0 (L9, [], zm Z9 ν)) : wz_loop qb_511_4 65536 k R (L, [], zm Z ν) := by
  sorry
/- yX12_tFindTrip -/
def zf_511 (Z : qz_Z) (a1 : Int) : qz_Z := (zlet (zu Z 1 0 0 24 0) (fun Z1 => (zlet2 (zl_511_1 a1 6 Z1 0) (fun Z3 y2 => (zlet (zu Z3 1 0 0 25 (-1)) (fun Z8 => (zlet2 (zl_511_4 3126 Z8 1) (fun Z10 y9 => Z10))))))))
theorem sp_511 {s : zSM} {Z : qz_Z} {ν : qz_N} (hZ : zM s Z) {a1 : Int} (ga1 : 0 ≤ a1 ∧ a1 ≤ 31) (hM : s.2 + 0 ≤ 1000000000) : ∃ P : qz_Z, P = zf_511 Z a1 ∧ (qf_511 [.inr (.inr (some (1, 0, 0))), .inl (i3 a1)] (zm Z ν) = some (zm P ν, .inl none) ∧ zM s P ∧ zC [1, 95, 96] Z P ∧ zU [] Z P) := by
  obtain ⟨P, hP⟩ := zx (zf_511 Z a1)
  refine zc_V (Q := fun P => zM s P ∧ zC [1, 95, 96] Z P ∧ zU [] Z P) hP (fw_511 (i3 a1) _ _ ?_)
  replace hP : zE P (zf_511 Z a1) := hP
  unfold zf_511 at hP
  obtain ⟨Z1, hZ1⟩ := zx (zu Z 1 0 0 24 0)
  replace hP := zl_e hP hZ1
  have hZ1I := zM_0 hZ hZ1 (by decide) (Or.inr (by decide))
  have hZ1U : zU [] Z Z1 := zU_u zU_r hZ1 (Or.inl rfl)
  have hZ1K : zC [1, 95, 96] Z Z1 := zC_u zC_r hZ1 (by decide)
  intro μ9 e9
  replace e9 := e9.trans (zm_wI (Z := Z) (ν := ν) hZ1 (show ((0 : Nat) : Int) = 0 from rfl) (show ((0 : Nat) : Int) = 0 from rfl) (show ((24 : Nat) : Int) = 24 from rfl) (show (0 : Int32) = i3 0 from rfl))
  subst e9
  have r4 := zM_k hZ1I 1 0 0 24 (lo := 0) (hi := 5) (by decide) rfl
  have q5 := zu_at hZ1
  refine sl_511_1 (ν := ν) hZ1I (zbh (c := 0) (k := 0) hM (Nat.le_of_ble_eq_true rfl)) zC_r (x1 := a1) (by omega) (x2 := 0) (by omega) zU_r (by omega) (zconso rfl (zconso (zvo (rfl : i3 a1 = i3 a1)) (zconso (zvo (show (0 : Int32) = i3 0 from rfl)) (zconso rfl (zconso rfl rfl))))) rfl ?_
  intro L6 Z3 y2 hL6 hZ3I kZ3 jZ3 gy2 gL6_0 q9
  replace hP := zl_e2 hP (Eq.symm q9)
  clear q9
  have hZ3U : zU [] Z Z3 := zU_t hZ1U jZ3 zU_b0
  have hZ3K : zC [1, 95, 96] Z Z3 := zC_t hZ1K kZ3 (by decide)
  have r7 := zM_k hZ3I 1 0 0 24 (lo := 0) (hi := 5) (by decide) rfl
  refine fc_511_6  _ _ _ _ hL6 ?_
  obtain ⟨Z8, hZ8⟩ := zx (zu Z3 1 0 0 25 (-1))
  replace hP := zl_e hP hZ8
  have hZ8I := zM_u hZ3I hZ8 (lo := -2147483648) (hi := 2147483647) (by decide) rfl (by omega) ⟨by decide, by decide⟩ (Or.inr (by decide)) rfl
  have hZ8U : zU [] Z Z8 := zU_u hZ3U hZ8 (Or.inl rfl)
  have hZ8K : zC [1, 95, 96] Z Z8 := zC_u hZ3K hZ8 (by decide)
  intro μ9 e9
  replace e9 := e9.trans (zm_wI (Z := Z3) (ν := ν) hZ8 (show ((0 : Nat) : Int) = 0 from rfl) (show ((0 : Nat) : Int) = 0 from rfl) (show ((25 : Nat) : Int) = 25 from rfl) (show (-1 : Int32) = i3 (-1) from rfl))
  subst e9
  have r11 := zM_k hZ8I 95 0 0 0 (lo := 0) (hi := 4) (by decide) rfl
  have r12 := zM_k hZ8I 95 0 0 1 (lo := 0) (hi := 4) (by decide) rfl
  have r13 := zM_k hZ8I 95 0 0 2 (lo := 0) (hi := 4) (by decide) rfl
  have r14 := zM_k hZ8I 95 0 0 3 (lo := 0) (hi := 4) (by decide) rfl
  have r15 := zM_k hZ8I 95 0 0 4 (lo := 0) (hi := 4) (by decide) rfl
  refine sl_511_4 (ν := ν) hZ8I (zbh (c := 0) (k := 0) hM (Nat.le_of_ble_eq_true rfl)) zC_r (x2 := 1) (by omega) zU_r (by omega) (zconso rfl (zconso rfl (zconso (zvo (show (1 : Int32) = i3 1 from rfl)) (zconso rfl (zconso rfl rfl))))) rfl ?_
  intro L16 Z10 y9 hL16 hZ10I kZ10 jZ10 gy9 q9
  replace hP := zl_e2 hP (Eq.symm q9)
  clear q9
  have hZ10U : zU [] Z Z10 := zU_t hZ8U jZ10 zU_b0
  have hZ10K : zC [1, 95, 96] Z Z10 := zC_t hZ8K kZ10 (by decide)
  refine fc_511_5  _ _ _ _ hL16 ?_
  exact zlV hP ⟨hZ10I, hZ10K, hZ10U⟩
/- yX12_tNext -/
def zl_521_1 (x1 : Int) : Nat → qz_Z → Int → (Int) ⊕ (Int)
  | 0, Z, x2 => (.inl x2)
  | m + 1, Z, x2 => (if (Z 2 0 0 (3258 + 24 * x1)) ≤ x2 then (.inl x2) else (if (Z 2 0 0 (3264 + 24 * x1 + x2)) ≤ (Z 2 0 0 0) then zl_521_1 x1 m Z (x2 + 1) else (.inr (Z 2 0 0 (3259 + 24 * x1 + x2)))))
theorem sl_521_1 {s : zSM} {Z : qz_Z} {ν : qz_N} (hZ : zM s Z) (hM : s.2 + 0 ≤ 1000000000) {x1 : Int} (gx1 : 0 ≤ x1 ∧ x1 ≤ 3) {x2 : Int} (gx2 : 0 ≤ x2 ∧ x2 ≤ 5) {k : wz_K} {R : wz_R} {L : qz_L} (hL : qz_fg [true, true, true] L = [some (.inr (.inr (some (1, 0, 0)))), some (.inl (i3 x1)), some (.inl (i3 x2))]) {T : (Int) ⊕ (Int)} (hP : zE T (zl_521_1 x1 ((5 - x2).toNat + 1) Z x2)) (hk : ∀ (L9 : qz_L) (yx2 : Int), qz_fg [false, false, false] L9 = [none, none, none] → (0 ≤ yx2 ∧ yx2 ≤ 5) → zE T (.inl yx2) → k 0 (L9, [], zm Z ν)) (hr : ∀ (v8 : Int), 0 ≤ v8 → v8 ≤ 4 → zE T (.inr v8) → R (zm Z ν) (.inl (some (.inl (i3 v8))))) : wz_loop qb_521_1 65536 k R (L, [], zm Z ν) := by
  refine wz_lp sb_521_1 (fun m x => ∃ x2 : Int, qz_fg [true, true, true] x.1 = [some (.inr (.inr (some (1, 0, 0)))), some (.inl (i3 x1)), some (.inl (i3 x2))] ∧ x.2 = ([], zm Z ν) ∧ m = (5 - x2).toNat ∧ (0 ≤ x2 ∧ x2 ≤ 5) ∧ zE T (zl_521_1 x1 (m + 1) Z x2)) ?_ 65536 ((5 - x2).toNat) _ (by omega) ⟨x2, hL, rfl, rfl, gx2, hP⟩
  clear hP gx2 hL
  clear x2
  rintro m ⟨L, st, μ⟩ ⟨x2, hL, hx, hm, gx2, hP⟩
  cases hx
  refine fb_521_1 (i3 x1) (i3 x2) _ _ _ _ hL ?_
  refine wz_i0 (i3O (n := 4400) (i3A (i3A (show (3250 : Int32) = i3 3250 from rfl) (i3M (show (24 : Int32) = i3 24 from rfl) (rfl : i3 x1 = i3 x1))) (show (8 : Int32) = i3 8 from rfl)) (by omega) (by omega) (by omega)) ?_
  have r1 := zM_k hZ 2 0 0 (3258 + 24 * x1) (lo := 0) (hi := 5) (by decide) (zs_3250_8 (x := x1) (by omega) (by omega) (by omega))
  refine wz_br (i3Le (zm_rd (Z := Z) (ν := ν) (k := 2) (show ((0 : Nat) : Int) = 0 from rfl) (show ((0 : Nat) : Int) = 0 from rfl) (i3I (y := (3258 + 24 * x1)) (i3A (i3A (show (3250 : Int32) = i3 3250 from rfl) (i3M (show (24 : Int32) = i3 24 from rfl) (rfl : i3 x1 = i3 x1))) (show (8 : Int32) = i3 8 from rfl)) (by omega) (by omega) (by omega))) (rfl : i3 x2 = i3 x2) (by omega) (by omega) (by omega) (by omega)) (fun h2 => ?_) (fun h2 => ?_)
  · replace hP := zE_p hP h2
    exact hk _ _ (zconso rfl (zconso rfl (zconso rfl rfl)))  (by omega)  hP
  · replace hP := zE_n hP h2
    refine wz_i0 (i3O (n := 4400) (i3A (i3A (show (3250 : Int32) = i3 3250 from rfl) (i3M (show (24 : Int32) = i3 24 from rfl) (rfl : i3 x1 = i3 x1))) (i3A (show (14 : Int32) = i3 14 from rfl) (rfl : i3 x2 = i3 x2))) (by omega) (by omega) (by omega)) ?_
    have r3 := zM_k hZ 2 0 0 (3264 + 24 * x1 + x2) (lo := 0) (hi := 743) (by decide) (zsx (zsb_3250 (by omega) (by omega)) (c0 := 14) (n := 5) (by decide +kernel) (by omega) (by omega))
    have r4 := zM_k hZ 2 0 0 0 (lo := 0) (hi := 671) (by decide) rfl
    refine wz_br (i3Le (zm_rd (Z := Z) (ν := ν) (k := 2) (show ((0 : Nat) : Int) = 0 from rfl) (show ((0 : Nat) : Int) = 0 from rfl) (i3I (y := (3264 + 24 * x1 + x2)) (i3A (i3A (show (3250 : Int32) = i3 3250 from rfl) (i3M (show (24 : Int32) = i3 24 from rfl) (rfl : i3 x1 = i3 x1))) (i3A (show (14 : Int32) = i3 14 from rfl) (rfl : i3 x2 = i3 x2))) (by omega) (by omega) (by omega))) (zm_rd (Z := Z) (ν := ν) (k := 2) (show ((0 : Nat) : Int) = 0 from rfl) (show ((0 : Nat) : Int) = 0 from rfl) (show ((0 : Nat) : Int) = 0 from rfl)) (by omega) (by omega) (by omega) (by omega)) (fun h5 => ?_) (fun h5 => ?_)
    · replace hP := zE_p hP h5
      obtain ⟨m2, rfl⟩ : ∃ m2, m = m2 + 1 := ⟨m - 1, by omega⟩
      exact wz_k1 ⟨m2, by omega, (x2 + 1), (zconso rfl (zconso (zvo (rfl : i3 x1 = i3 x1)) (zconso (zvo (i3A (rfl : i3 x2 = i3 x2) (show (1 : Int32) = i3 1 from rfl))) rfl))), rfl,  by omega, by omega,  hP⟩
    · replace hP := zE_n hP h5
      refine wz_i0 (i3O (n := 4400) (i3A (i3A (show (3250 : Int32) = i3 3250 from rfl) (i3M (show (24 : Int32) = i3 24 from rfl) (rfl : i3 x1 = i3 x1))) (i3A (show (9 : Int32) = i3 9 from rfl) (rfl : i3 x2 = i3 x2))) (by omega) (by omega) (by omega)) ?_
      have r6 := zM_k hZ 2 0 0 (3259 + 24 * x1 + x2) (lo := 0) (hi := 4) (by decide) (zsx (zsb_3250 (by omega) (by omega)) (c0 := 9) (n := 5) (by decide +kernel) (by omega) (by omega))
      rw [(zm_rd (Z := Z) (ν := ν) (k := 2) (show ((0 : Nat) : Int) = 0 from rfl) (show ((0 : Nat) : Int) = 0 from rfl) (i3I (y := (3259 + 24 * x1 + x2)) (i3A (i3A (show (3250 : Int32) = i3 3250 from rfl) (i3M (show (24 : Int32) = i3 24 from rfl) (rfl : i3 x1 = i3 x1))) (i3A (show (9 : Int32) = i3 9 from rfl) (rfl : i3 x2 = i3 x2))) (by omega) (by omega) (by omega)))]
      exact hr _ (by omega) (by omega) hP
/- yX12_tNext -/
def zf_521 (Z : qz_Z) (a1 : Int) : Int := (zsum (zl_521_1 a1 6 Z 0) (fun q => zlet q (fun y1 => 5)) (fun r => r))
theorem sp_521 {s : zSM} {Z : qz_Z} {ν : qz_N} (hZ : zM s Z) {a1 : Int} (ga1 : 0 ≤ a1 ∧ a1 ≤ 3) (hM : s.2 + 0 ≤ 1000000000) : ∃ P : Int, P = zf_521 Z a1 ∧ (qf_521 [.inr (.inr (some (1, 0, 0))), .inl (i3 a1)] (zm Z ν) = some (zm Z ν, .inl (some (.inl (i3 P)))) ∧ 0 ≤ P ∧ P ≤ 5) := by
  obtain ⟨P, hP⟩ := zx (zf_521 Z a1)
  refine zc_R (Q := fun P => 0 ≤ P ∧ P ≤ 5) hP (fw_521 (i3 a1) _ _ ?_)
  replace hP : zE P (zf_521 Z a1) := hP
  unfold zf_521 at hP
  refine sl_521_1 (ν := ν) hZ (zbh (c := 0) (k := 0) hM (Nat.le_of_ble_eq_true rfl)) (x1 := a1) (by omega) (x2 := 0) (by omega)  (zconso rfl (zconso (zvo (rfl : i3 a1 = i3 a1)) (zconso (zvo (show (0 : Int32) = i3 0 from rfl)) rfl))) rfl ?_ ?_
  · intro L2 y1 hL2 gy1 q9
    replace hP := zl_sl1 hP (Eq.symm q9)
    clear q9
    refine fc_521_2  _ _ _ _ hL2 ?_
    exact zlR hP (show (5 : Int32) = i3 5 from rfl) ⟨by omega, by omega⟩
  · intro v8 l8 u8 q8
    replace hP := zl_sr hP (Eq.symm q8)
    exact zlR hP rfl ⟨by omega, by omega⟩
/- yX12_tTowns -/
def zl_527_1 (x1 : Int) : Nat → qz_Z → Int → Int → Int × Int
  | 0, Z, x2, x3 => (x2, x3)
  | m + 1, Z, x2, x3 => (if (Z 2 0 0 2000) ≤ x3 then (x2, x3) else (if (Z 2 0 0 (2019 + 16 * x3)) ≠ 1 then zl_527_1 x1 m Z (z2 (fun x y => x ||| y) x2 0) (x3 + 1) else (if (Z 2 0 0 (2020 + 16 * x3)) ≠ x1 then zl_527_1 x1 m Z (z2 (fun x y => x ||| y) x2 0) (x3 + 1) else zl_527_1 x1 m Z (z2 (fun x y => x ||| y) x2 (z2 (fun x y => x <<< (y &&& 31)) 1 (Z 2 0 0 (1410 + 12 * (Z 2 0 0 (2011 + 16 * x3)))))) (x3 + 1))))
theorem sl_527_1 {s : zSM} {Z : qz_Z} {ν : qz_N} (hZ : zM s Z) (hM : s.2 + 0 ≤ 1000000000) {x1 : Int} (gx1 : 0 ≤ x1 ∧ x1 ≤ 3) {x2 : Int} (gx2 : 0 ≤ x2 ∧ x2 ≤ 31) {x3 : Int} (gx3 : 0 ≤ x3 ∧ x3 ≤ 60) {k : wz_K} {R : wz_R} {L : qz_L} (hL : qz_fg [true, true, true, true] L = [some (.inr (.inr (some (1, 0, 0)))), some (.inl (i3 x1)), some (.inl (i3 x2)), some (.inl (i3 x3))]) {T : Int × Int} (hP : zE T (zl_527_1 x1 ((60 - x3).toNat + 1) Z x2 x3)) (hk : ∀ (L9 : qz_L) (yx2 yx3 : Int), qz_fg [false, false, true, false] L9 = [none, none, some (.inl (i3 yx2)), none] → (0 ≤ yx2 ∧ yx2 ≤ 31) → (0 ≤ yx3 ∧ yx3 ≤ 60) → zE T ((yx2, yx3)) → k 0 (L9, [], zm Z ν)) : wz_loop qb_527_1 65536 k R (L, [], zm Z ν) := by
  refine wz_lp sb_527_1 (fun m x => ∃ x2 : Int, ∃ x3 : Int, qz_fg [true, true, true, true] x.1 = [some (.inr (.inr (some (1, 0, 0)))), some (.inl (i3 x1)), some (.inl (i3 x2)), some (.inl (i3 x3))] ∧ x.2 = ([], zm Z ν) ∧ m = (60 - x3).toNat ∧ (0 ≤ x2 ∧ x2 ≤ 31) ∧ (0 ≤ x3 ∧ x3 ≤ 60) ∧ zE T (zl_527_1 x1 (m + 1) Z x2 x3)) ?_ 65536 ((60 - x3).toNat) _ (by omega) ⟨x2, x3, hL, rfl, rfl, gx2, gx3, hP⟩
  clear hP gx2 gx3 hL
  clear x2 x3
  rintro m ⟨L, st, μ⟩ ⟨x2, x3, hL, hx, hm, gx2, gx3, hP⟩
  cases hx
  refine fb_527_1 (i3 x1) (i3 x2) (i3 x3) _ _ _ _ hL ?_
  have r1 := zM_k hZ 2 0 0 2000 (lo := 0) (hi := 60) (by decide) rfl
  refine wz_br (i3Le (zm_rd (Z := Z) (ν := ν) (k := 2) (show ((0 : Nat) : Int) = 0 from rfl) (show ((0 : Nat) : Int) = 0 from rfl) (show ((2000 : Nat) : Int) = 2000 from rfl)) (rfl : i3 x3 = i3 x3) (by omega) (by omega) (by omega) (by omega)) (fun h2 => ?_) (fun h2 => ?_)
  · replace hP := zE_p hP h2
    exact hk _ _ _ (zconso rfl (zconso rfl (zconso (zvo (rfl : i3 x2 = i3 x2)) (zconso rfl rfl))))  (by omega) (by omega)  hP
  · replace hP := zE_n hP h2
    refine wz_i0 (i3O (n := 4400) (i3A (i3A (show (2010 : Int32) = i3 2010 from rfl) (i3M (show (16 : Int32) = i3 16 from rfl) (rfl : i3 x3 = i3 x3))) (show (9 : Int32) = i3 9 from rfl)) (by omega) (by omega) (by omega)) ?_
    have r3 := zM_k hZ 2 0 0 (2019 + 16 * x3) (lo := 0) (hi := 3) (by decide) (zs_2010_9 (x := x3) (by omega) (by omega) (by omega))
    have r4 := zM_lt2 hZ x3
    refine wz_br (i3NE (zm_rd (Z := Z) (ν := ν) (k := 2) (show ((0 : Nat) : Int) = 0 from rfl) (show ((0 : Nat) : Int) = 0 from rfl) (i3I (y := (2019 + 16 * x3)) (i3A (i3A (show (2010 : Int32) = i3 2010 from rfl) (i3M (show (16 : Int32) = i3 16 from rfl) (rfl : i3 x3 = i3 x3))) (show (9 : Int32) = i3 9 from rfl)) (by omega) (by omega) (by omega))) (show (1 : Int32) = i3 1 from rfl) (by omega) (by omega) (by omega) (by omega)) (fun h5 => ?_) (fun h5 => ?_)
    · replace hP := zE_p hP h5
      have r6 := z2_r (fun x y => x ||| y) x2 0
      have r7 := z2_or5 (x := x2) (y := 0) (by omega) (by omega)
      obtain ⟨m2, rfl⟩ : ∃ m2, m = m2 + 1 := ⟨m - 1, by omega⟩
      exact wz_k1 ⟨m2, by omega, (z2 (fun x y => x ||| y) x2 0), (x3 + 1), (zconso rfl (zconso (zvo (rfl : i3 x1 = i3 x1)) (zconso (zvo (i3Z (fun x y => x ||| y) (rfl : i3 x2 = i3 x2) (show (0 : Int32) = i3 0 from rfl))) (zconso (zvo (i3A (rfl : i3 x3 = i3 x3) (show (1 : Int32) = i3 1 from rfl))) rfl)))), rfl,  by omega, by omega, by omega,  hP⟩
    · replace hP := zE_n hP h5
      refine wz_i0 (i3O (n := 4400) (i3A (i3A (show (2010 : Int32) = i3 2010 from rfl) (i3M (show (16 : Int32) = i3 16 from rfl) (rfl : i3 x3 = i3 x3))) (show (10 : Int32) = i3 10 from rfl)) (by omega) (by omega) (by omega)) ?_
      have r8 := zM_k hZ 2 0 0 (2020 + 16 * x3) (lo := -1) (hi := 3) (by decide) (zs_2010_10 (x := x3) (by omega) (by omega) (by omega))
      refine wz_br (i3NE (zm_rd (Z := Z) (ν := ν) (k := 2) (show ((0 : Nat) : Int) = 0 from rfl) (show ((0 : Nat) : Int) = 0 from rfl) (i3I (y := (2020 + 16 * x3)) (i3A (i3A (show (2010 : Int32) = i3 2010 from rfl) (i3M (show (16 : Int32) = i3 16 from rfl) (rfl : i3 x3 = i3 x3))) (show (10 : Int32) = i3 10 from rfl)) (by omega) (by omega) (by omega))) (rfl : i3 x1 = i3 x1) (by omega) (by omega) (by omega) (by omega)) (fun h9 => ?_) (fun h9 => ?_)
      · replace hP := zE_p hP h9
        have r10 := z2_r (fun x y => x ||| y) x2 0
        have r11 := z2_or5 (x := x2) (y := 0) (by omega) (by omega)
        obtain ⟨m2, rfl⟩ : ∃ m2, m = m2 + 1 := ⟨m - 1, by omega⟩
        exact wz_k1 ⟨m2, by omega, (z2 (fun x y => x ||| y) x2 0), (x3 + 1), (zconso rfl (zconso (zvo (rfl : i3 x1 = i3 x1)) (zconso (zvo (i3Z (fun x y => x ||| y) (rfl : i3 x2 = i3 x2) (show (0 : Int32) = i3 0 from rfl))) (zconso (zvo (i3A (rfl : i3 x3 = i3 x3) (show (1 : Int32) = i3 1 from rfl))) rfl)))), rfl,  by omega, by omega, by omega,  hP⟩
      · replace hP := zE_n hP h9
        refine wz_i0 (i3O (n := 4400) (i3A (i3A (show (2010 : Int32) = i3 2010 from rfl) (i3M (show (16 : Int32) = i3 16 from rfl) (rfl : i3 x3 = i3 x3))) (show (1 : Int32) = i3 1 from rfl)) (by omega) (by omega) (by omega)) ?_
        have r12 := zM_k hZ 2 0 0 (2011 + 16 * x3) (lo := 0) (hi := 7) (by decide) (zs_2010_1 (x := x3) (by omega) (by omega) (by omega))
        refine wz_i0 (i3O (n := 4400) (i3A (i3A (show (1410 : Int32) = i3 1410 from rfl) (i3M (show (12 : Int32) = i3 12 from rfl) (zm_rd (Z := Z) (ν := ν) (k := 2) (show ((0 : Nat) : Int) = 0 from rfl) (show ((0 : Nat) : Int) = 0 from rfl) (i3I (y := (2011 + 16 * x3)) (i3A (i3A (show (2010 : Int32) = i3 2010 from rfl) (i3M (show (16 : Int32) = i3 16 from rfl) (rfl : i3 x3 = i3 x3))) (show (1 : Int32) = i3 1 from rfl)) (by omega) (by omega) (by omega))))) (show (0 : Int32) = i3 0 from rfl)) (by omega) (by omega) (by omega)) ?_
        have r13 := zM_k hZ 2 0 0 (1410 + 12 * (Z 2 0 0 (2011 + 16 * x3))) (lo := 0) (hi := 4) (by decide) (zs_1410_0 (x := (Z 2 0 0 (2011 + 16 * x3))) (by omega) (by omega) (by omega))
        have r14 := z2_r (fun x y => x <<< (y &&& 31)) 1 (Z 2 0 0 (1410 + 12 * (Z 2 0 0 (2011 + 16 * x3))))
        have r15 := z2_shl4 (n := (Z 2 0 0 (1410 + 12 * (Z 2 0 0 (2011 + 16 * x3))))) (by omega) (by omega)
        have r16 := z2_r (fun x y => x ||| y) x2 (z2 (fun x y => x <<< (y &&& 31)) 1 (Z 2 0 0 (1410 + 12 * (Z 2 0 0 (2011 + 16 * x3)))))
        have r17 := z2_or5 (x := x2) (y := (z2 (fun x y => x <<< (y &&& 31)) 1 (Z 2 0 0 (1410 + 12 * (Z 2 0 0 (2011 + 16 * x3)))))) (by omega) (by omega)
        obtain ⟨m2, rfl⟩ : ∃ m2, m = m2 + 1 := ⟨m - 1, by omega⟩
        exact wz_k1 ⟨m2, by omega, (z2 (fun x y => x ||| y) x2 (z2 (fun x y => x <<< (y &&& 31)) 1 (Z 2 0 0 (1410 + 12 * (Z 2 0 0 (2011 + 16 * x3)))))), (x3 + 1), (zconso rfl (zconso (zvo (rfl : i3 x1 = i3 x1)) (zconso (zvo (i3Z (fun x y => x ||| y) (rfl : i3 x2 = i3 x2) (i3Z (fun x y => x <<< (y &&& 31)) (show (1 : Int32) = i3 1 from rfl) (zm_rd (Z := Z) (ν := ν) (k := 2) (show ((0 : Nat) : Int) = 0 from rfl) (show ((0 : Nat) : Int) = 0 from rfl) (i3I (y := (1410 + 12 * (Z 2 0 0 (2011 + 16 * x3)))) (i3A (i3A (show (1410 : Int32) = i3 1410 from rfl) (i3M (show (12 : Int32) = i3 12 from rfl) (zm_rd (Z := Z) (ν := ν) (k := 2) (show ((0 : Nat) : Int) = 0 from rfl) (show ((0 : Nat) : Int) = 0 from rfl) (i3I (y := (2011 + 16 * x3)) (i3A (i3A (show (2010 : Int32) = i3 2010 from rfl) (i3M (show (16 : Int32) = i3 16 from rfl) (rfl : i3 x3 = i3 x3))) (show (1 : Int32) = i3 1 from rfl)) (by omega) (by omega) (by omega))))) (show (0 : Int32) = i3 0 from rfl)) (by omega) (by omega) (by omega)))))) (zconso (zvo (i3A (rfl : i3 x3 = i3 x3) (show (1 : Int32) = i3 1 from rfl))) rfl)))), rfl,  by omega, by omega, by omega,  hP⟩
/- yX12_tTowns -/
def zf_527 (Z : qz_Z) (a1 : Int) : Int := (zlet2 (zl_527_1 a1 61 Z 0 0) (fun y1 y2 => y1))
theorem sp_527 {s : zSM} {Z : qz_Z} {ν : qz_N} (hZ : zM s Z) {a1 : Int} (ga1 : 0 ≤ a1 ∧ a1 ≤ 3) (hM : s.2 + 0 ≤ 1000000000) : ∃ P : Int, P = zf_527 Z a1 ∧ (qf_527 [.inr (.inr (some (1, 0, 0))), .inl (i3 a1)] (zm Z ν) = some (zm Z ν, .inl (some (.inl (i3 P)))) ∧ 0 ≤ P ∧ P ≤ 31) := by
  obtain ⟨P, hP⟩ := zx (zf_527 Z a1)
  refine zc_R (Q := fun P => 0 ≤ P ∧ P ≤ 31) hP (fw_527 (i3 a1) _ _ ?_)
  replace hP : zE P (zf_527 Z a1) := hP
  unfold zf_527 at hP
  refine sl_527_1 (ν := ν) hZ (zbh (c := 0) (k := 0) hM (Nat.le_of_ble_eq_true rfl)) (x1 := a1) (by omega) (x2 := 0) (by omega) (x3 := 0) (by omega)  (zconso rfl (zconso (zvo (rfl : i3 a1 = i3 a1)) (zconso (zvo (show (0 : Int32) = i3 0 from rfl)) (zconso (zvo (show (0 : Int32) = i3 0 from rfl)) rfl)))) rfl ?_
  intro L3 y1 y2 hL3 gy1 gy2 q9
  replace hP := zl_e2 hP (Eq.symm q9)
  clear q9
  refine fc_527_2 (i3 y1) _ _ _ _ hL3 ?_
  exact zlR hP (rfl : i3 y1 = i3 y1) ⟨by omega, by omega⟩
/- yX12_haul -/
def zy_350 (Z : qz_Z) (a1 : Int) (a2 : Int) : qz_Z × Int := (if a1 < 0 then (zlet (zu Z 1 0 0 2 1) (fun Z5 => (Z5, 0))) else (if ((Z 2 0 0 3200) - 1) < a1 then (zlet (zu Z 1 0 0 2 1) (fun Z8 => (Z8, 0))) else (zlet (zu Z 1 0 0 2 0) (fun Z9 => (if a2 < 0 then (zlet (zu Z9 1 0 0 2 2) (fun Z11 => (Z11, 0))) else (if 11 < a2 then (zlet (zu Z9 1 0 0 2 2) (fun Z13 => (Z13, 0))) else (zlet (zu Z9 1 0 0 2 0) (fun Z14 => (if a2 < 4 ∨ 11 < a2 then (Z14, (Z14 2 0 0 (3250 + 24 * a1 + a2))) else (if a2 = 4 then (zlet (zf_518 Z14 a1 1) (fun v18 => (Z14, v18))) else (if a2 = 5 then (zlet (zf_518 Z14 a1 0) (fun v20 => (Z14, v20))) else (if a2 = 6 then (if (Z14 2 0 0 (3252 + 24 * a1)) ≠ 1 then (zlet (zf_527 Z14 a1) (fun v24 => (zlet (zf_511 Z14 v24) (fun Z25 => (Z25, (Z25 1 0 0 25)))))) else (Z14, (Z14 2 0 0 (3255 + 24 * a1)))) else (if a2 = 7 then (Z14, (Z14 2 0 0 (3254 + 24 * a1))) else (if a2 = 8 then (if (Z14 2 0 0 (3252 + 24 * a1)) ≠ 1 then (Z14, (-1)) else (Z14, (Z14 2 0 0 (3269 + 24 * a1)))) else (if a2 = 9 then (if (Z14 2 0 0 (3252 + 24 * a1)) ≠ 1 then (Z14, (-1)) else (zlet (zf_521 Z14 a1) (fun v37 => (Z14, v37)))) else (if a2 = 10 then (Z14, (Z14 2 0 0 (3256 + 24 * a1))) else (Z14, (Z14 2 0 0 (3257 + 24 * a1)))))))))))))))))))
theorem sy_350 {s : zSM} {Z : qz_Z} {ν : qz_N} (hZ : zM s Z) (gq : Z 1 0 0 35 = 0) (hM : s.2 + 0 ≤ 1000000000) {a1 : Int} (ga1 : -2147483648 ≤ a1 ∧ a1 ≤ 2147483647) {a2 : Int} (ga2 : -2147483648 ≤ a2 ∧ a2 ≤ 2147483647) {ν1 : qz_N} : ∃ (Z1 : qz_Z) (ν2 : qz_N) (v : Int), (Z1, v) = zy_350 Z a1 a2 ∧ (ν2 = ν ∨ ν2 = ν1) ∧ qf_350 [.inr (.inr (some (1, 0, 0))), .inl (i3 a1), .inl (i3 a2)] (zm Z ν) = some (zm Z1 ν2, .inl (some (.inl (i3 v)))) ∧ (fun Z1 => zM s Z1 ∧ zC [1, 95, 96] Z Z1 ∧ zU [] Z Z1) Z1 := by
  obtain ⟨P, hP⟩ := zx (zy_350 Z a1 a2)
  refine zc_Y (Q := fun Z1 => zM s Z1 ∧ zC [1, 95, 96] Z Z1 ∧ zU [] Z Z1) hP (fw_350 (i3 a1) (i3 a2) _ _ ?_)
  replace hP : zE P (zy_350 Z a1 a2) := hP
  unfold zy_350 at hP
  have r1 := zM_k hZ 1 0 0 35 (lo := 0) (hi := 1) (by decide) rfl
  have r2 := zM_k hZ 1 0 0 34 (lo := 0) (hi := 8) (by decide) rfl
  have r3 := zM_f hZ 1 0 0 37
  refine wz_br (i3L (rfl : i3 a1 = i3 a1) (show (0 : Int32) = i3 0 from rfl) (by omega) (by omega) (by omega) (by omega)) (fun h4 => ?_) (fun h4 => ?_)
  · replace hP := zE_p hP h4
    obtain ⟨Z5, hZ5⟩ := zx (zu Z 1 0 0 2 1)
    replace hP := zl_e hP hZ5
    have hZ5I := zM_u hZ hZ5 (lo := -2147483648) (hi := 2147483647) (by decide) rfl (by omega) ⟨by decide, by decide⟩ (Or.inr (by decide)) rfl
    have hZ5U : zU [] Z Z5 := zU_u zU_r hZ5 (Or.inl rfl)
    have hZ5K : zC [1, 95, 96] Z Z5 := zC_u zC_r hZ5 (by decide)
    intro μ9 e9
    replace e9 := e9.trans (zm_wI (Z := Z) (ν := ν) hZ5 (show ((0 : Nat) : Int) = 0 from rfl) (show ((0 : Nat) : Int) = 0 from rfl) (show ((2 : Nat) : Int) = 2 from rfl) (show (1 : Int32) = i3 1 from rfl))
    subst e9
    exact zlY hP (show (0 : Int32) = i3 0 from rfl) (.inl rfl) ⟨hZ5I, hZ5K, hZ5U⟩
  · replace hP := zE_n hP h4
    have r6 := zM_k hZ 2 0 0 3200 (lo := 0) (hi := 4) (by decide) rfl
    refine wz_br (i3L (i3S (zm_rd (Z := Z) (ν := ν) (k := 2) (show ((0 : Nat) : Int) = 0 from rfl) (show ((0 : Nat) : Int) = 0 from rfl) (show ((3200 : Nat) : Int) = 3200 from rfl)) (show (1 : Int32) = i3 1 from rfl)) (rfl : i3 a1 = i3 a1) (by omega) (by omega) (by omega) (by omega)) (fun h7 => ?_) (fun h7 => ?_)
    · replace hP := zE_p hP h7
      obtain ⟨Z8, hZ8⟩ := zx (zu Z 1 0 0 2 1)
      replace hP := zl_e hP hZ8
      have hZ8I := zM_u hZ hZ8 (lo := -2147483648) (hi := 2147483647) (by decide) rfl (by omega) ⟨by decide, by decide⟩ (Or.inr (by decide)) rfl
      have hZ8U : zU [] Z Z8 := zU_u zU_r hZ8 (Or.inl rfl)
      have hZ8K : zC [1, 95, 96] Z Z8 := zC_u zC_r hZ8 (by decide)
      intro μ9 e9
      replace e9 := e9.trans (zm_wI (Z := Z) (ν := ν) hZ8 (show ((0 : Nat) : Int) = 0 from rfl) (show ((0 : Nat) : Int) = 0 from rfl) (show ((2 : Nat) : Int) = 2 from rfl) (show (1 : Int32) = i3 1 from rfl))
      subst e9
      exact zlY hP (show (0 : Int32) = i3 0 from rfl) (.inl rfl) ⟨hZ8I, hZ8K, hZ8U⟩
    · replace hP := zE_n hP h7
      obtain ⟨Z9, hZ9⟩ := zx (zu Z 1 0 0 2 0)
      replace hP := zl_e hP hZ9
      have hZ9I := zM_0 hZ hZ9 (by decide) (Or.inr (by decide))
      have hZ9U : zU [] Z Z9 := zU_u zU_r hZ9 (Or.inl rfl)
      have hZ9K : zC [1, 95, 96] Z Z9 := zC_u zC_r hZ9 (by decide)
      intro μ9 e9
      replace e9 := e9.trans (zm_wI (Z := Z) (ν := ν) hZ9 (show ((0 : Nat) : Int) = 0 from rfl) (show ((0 : Nat) : Int) = 0 from rfl) (show ((2 : Nat) : Int) = 2 from rfl) (show (0 : Int32) = i3 0 from rfl))
      subst e9
      refine wz_br (i3L (rfl : i3 a2 = i3 a2) (show (0 : Int32) = i3 0 from rfl) (by omega) (by omega) (by omega) (by omega)) (fun h10 => ?_) (fun h10 => ?_)
      · replace hP := zE_p hP h10
        obtain ⟨Z11, hZ11⟩ := zx (zu Z9 1 0 0 2 2)
        replace hP := zl_e hP hZ11
        have hZ11I := zM_u hZ9I hZ11 (lo := -2147483648) (hi := 2147483647) (by decide) rfl (by omega) ⟨by decide, by decide⟩ (Or.inr (by decide)) rfl
        have hZ11U : zU [] Z Z11 := zU_u hZ9U hZ11 (Or.inl rfl)
        have hZ11K : zC [1, 95, 96] Z Z11 := zC_u hZ9K hZ11 (by decide)
        intro μ9 e9
        replace e9 := e9.trans (zm_wI (Z := Z9) (ν := ν) hZ11 (show ((0 : Nat) : Int) = 0 from rfl) (show ((0 : Nat) : Int) = 0 from rfl) (show ((2 : Nat) : Int) = 2 from rfl) (show (2 : Int32) = i3 2 from rfl))
        subst e9
        exact zlY hP (show (0 : Int32) = i3 0 from rfl) (.inl rfl) ⟨hZ11I, hZ11K, hZ11U⟩
      · replace hP := zE_n hP h10
        refine wz_br (i3L (show (11 : Int32) = i3 11 from rfl) (rfl : i3 a2 = i3 a2) (by omega) (by omega) (by omega) (by omega)) (fun h12 => ?_) (fun h12 => ?_)
        · replace hP := zE_p hP h12
          obtain ⟨Z13, hZ13⟩ := zx (zu Z9 1 0 0 2 2)
          replace hP := zl_e hP hZ13
          have hZ13I := zM_u hZ9I hZ13 (lo := -2147483648) (hi := 2147483647) (by decide) rfl (by omega) ⟨by decide, by decide⟩ (Or.inr (by decide)) rfl
          have hZ13U : zU [] Z Z13 := zU_u hZ9U hZ13 (Or.inl rfl)
          have hZ13K : zC [1, 95, 96] Z Z13 := zC_u hZ9K hZ13 (by decide)
          intro μ9 e9
          replace e9 := e9.trans (zm_wI (Z := Z9) (ν := ν) hZ13 (show ((0 : Nat) : Int) = 0 from rfl) (show ((0 : Nat) : Int) = 0 from rfl) (show ((2 : Nat) : Int) = 2 from rfl) (show (2 : Int32) = i3 2 from rfl))
          subst e9
          exact zlY hP (show (0 : Int32) = i3 0 from rfl) (.inl rfl) ⟨hZ13I, hZ13K, hZ13U⟩
        · replace hP := zE_n hP h12
          obtain ⟨Z14, hZ14⟩ := zx (zu Z9 1 0 0 2 0)
          replace hP := zl_e hP hZ14
          have hZ14I := zM_0 hZ9I hZ14 (by decide) (Or.inr (by decide))
          have hZ14U : zU [] Z Z14 := zU_u hZ9U hZ14 (Or.inl rfl)
          have hZ14K : zC [1, 95, 96] Z Z14 := zC_u hZ9K hZ14 (by decide)
          intro μ9 e9
          replace e9 := e9.trans (zm_wI (Z := Z9) (ν := ν) hZ14 (show ((0 : Nat) : Int) = 0 from rfl) (show ((0 : Nat) : Int) = 0 from rfl) (show ((2 : Nat) : Int) = 2 from rfl) (show (0 : Int32) = i3 0 from rfl))
          subst e9
          refine wz_br (i3To (rfl : i3 a2 = i3 a2) (by omega) (by omega)) (fun h15 => ?_) (fun h15 => ?_)
          · replace hP := zE_p hP h15
            refine wz_i0 (i3O (n := 4400) (i3A (i3A (show (3250 : Int32) = i3 3250 from rfl) (i3M (show (24 : Int32) = i3 24 from rfl) (rfl : i3 a1 = i3 a1))) (rfl : i3 a2 = i3 a2)) (by omega) (by omega) (by omega)) ?_
            have r16 := zM_f hZ14I 2 0 0 (3250 + 24 * a1 + a2)
            exact zlY hP (zm_rd (Z := Z14) (ν := ν) (k := 2) (show ((0 : Nat) : Int) = 0 from rfl) (show ((0 : Nat) : Int) = 0 from rfl) (i3I (y := (3250 + 24 * a1 + a2)) (i3A (i3A (show (3250 : Int32) = i3 3250 from rfl) (i3M (show (24 : Int32) = i3 24 from rfl) (rfl : i3 a1 = i3 a1))) (rfl : i3 a2 = i3 a2)) (by omega) (by omega) (by omega))) (.inl rfl) ⟨hZ14I, hZ14K, hZ14U⟩
          · replace hP := zE_n hP h15
            refine wz_br (i3T (rfl : i3 a2 = i3 a2) (by omega) (by omega)) (fun h17 => ?_) (fun h17 => ?_)
            · replace hP := zE_p hP h17
              obtain ⟨v18, hv18, c9, lv18, uv18⟩ := sp_518 (ν := ν) hZ14I (a1 := a1) (by omega) (a2 := 1) (by omega) (zbh (c := 0) (k := 0) hM (Nat.le_of_ble_eq_true rfl))
              replace hP := zl_e hP hv18
              refine wz_cI_of (zas (zcons rfl (zcons (zvi (rfl : i3 a1 = i3 a1)) (zcons (zvi (show (1 : Int32) = i3 1 from rfl)) rfl))) c9) ?_
              clear c9
              exact zlY hP (rfl : i3 v18 = i3 v18) (.inl rfl) ⟨hZ14I, hZ14K, hZ14U⟩
            · replace hP := zE_n hP h17
              refine wz_br (i3T (rfl : i3 a2 = i3 a2) (by omega) (by omega)) (fun h19 => ?_) (fun h19 => ?_)
              · replace hP := zE_p hP h19
                obtain ⟨v20, hv20, c9, lv20, uv20⟩ := sp_518 (ν := ν) hZ14I (a1 := a1) (by omega) (a2 := 0) (by omega) (zbh (c := 0) (k := 0) hM (Nat.le_of_ble_eq_true rfl))
                replace hP := zl_e hP hv20
                refine wz_cI_of (zas (zcons rfl (zcons (zvi (rfl : i3 a1 = i3 a1)) (zcons (zvi (show (0 : Int32) = i3 0 from rfl)) rfl))) c9) ?_
                clear c9
                exact zlY hP (rfl : i3 v20 = i3 v20) (.inl rfl) ⟨hZ14I, hZ14K, hZ14U⟩
              · replace hP := zE_n hP h19
                refine wz_br (i3T (rfl : i3 a2 = i3 a2) (by omega) (by omega)) (fun h21 => ?_) (fun h21 => ?_)
                · replace hP := zE_p hP h21
                  refine wz_i0 (i3O (n := 4400) (i3A (i3A (show (3250 : Int32) = i3 3250 from rfl) (i3M (show (24 : Int32) = i3 24 from rfl) (rfl : i3 a1 = i3 a1))) (show (2 : Int32) = i3 2 from rfl)) (by omega) (by omega) (by omega)) ?_
                  have r22 := zM_k hZ14I 2 0 0 (3252 + 24 * a1) (lo := 0) (hi := 1) (by decide) (zs_3250_2 (x := a1) (by omega) (by omega) (by omega))
                  refine wz_br (i3NE (zm_rd (Z := Z14) (ν := ν) (k := 2) (show ((0 : Nat) : Int) = 0 from rfl) (show ((0 : Nat) : Int) = 0 from rfl) (i3I (y := (3252 + 24 * a1)) (i3A (i3A (show (3250 : Int32) = i3 3250 from rfl) (i3M (show (24 : Int32) = i3 24 from rfl) (rfl : i3 a1 = i3 a1))) (show (2 : Int32) = i3 2 from rfl)) (by omega) (by omega) (by omega))) (show (1 : Int32) = i3 1 from rfl) (by omega) (by omega) (by omega) (by omega)) (fun h23 => ?_) (fun h23 => ?_)
                  · replace hP := zE_p hP h23
                    obtain ⟨v24, hv24, c9, lv24, uv24⟩ := sp_527 (ν := ν) hZ14I (a1 := a1) (by omega) (zbh (c := 0) (k := 0) hM (Nat.le_of_ble_eq_true rfl))
                    replace hP := zl_e hP hv24
                    refine wz_cI_of (zas (zcons rfl (zcons (zvi (rfl : i3 a1 = i3 a1)) rfl)) c9) ?_
                    clear c9
                    obtain ⟨Z25, hZ25, c9, hZ25I, kZ25, jZ25⟩ := sp_511 (ν := ν) hZ14I (a1 := v24) (by omega) (zbh (c := 0) (k := 0) hM (Nat.le_of_ble_eq_true rfl))
                    have hZ25U : zU [] Z Z25 := zU_t hZ14U jZ25 zU_b0
                    have hZ25K : zC [1, 95, 96] Z Z25 := zC_t hZ14K kZ25 (by decide)
                    replace hP := zl_e hP hZ25
                    refine wz_cV_of (zas (zcons rfl (zcons (zvi (rfl : i3 v24 = i3 v24)) rfl)) c9) ?_
                    clear c9
                    have r26 := zM_f hZ25I 1 0 0 25
                    exact zlY hP (zm_rd (Z := Z25) (ν := ν) (k := 1) (show ((0 : Nat) : Int) = 0 from rfl) (show ((0 : Nat) : Int) = 0 from rfl) (show ((25 : Nat) : Int) = 25 from rfl)) (.inl rfl) ⟨hZ25I, hZ25K, hZ25U⟩
                  · replace hP := zE_n hP h23
                    refine wz_i0 (i3O (n := 4400) (i3A (i3A (show (3250 : Int32) = i3 3250 from rfl) (i3M (show (24 : Int32) = i3 24 from rfl) (rfl : i3 a1 = i3 a1))) (show (5 : Int32) = i3 5 from rfl)) (by omega) (by omega) (by omega)) ?_
                    have r27 := zM_f hZ14I 2 0 0 (3255 + 24 * a1)
                    exact zlY hP (zm_rd (Z := Z14) (ν := ν) (k := 2) (show ((0 : Nat) : Int) = 0 from rfl) (show ((0 : Nat) : Int) = 0 from rfl) (i3I (y := (3255 + 24 * a1)) (i3A (i3A (show (3250 : Int32) = i3 3250 from rfl) (i3M (show (24 : Int32) = i3 24 from rfl) (rfl : i3 a1 = i3 a1))) (show (5 : Int32) = i3 5 from rfl)) (by omega) (by omega) (by omega))) (.inl rfl) ⟨hZ14I, hZ14K, hZ14U⟩
                · replace hP := zE_n hP h21
                  refine wz_br (i3T (rfl : i3 a2 = i3 a2) (by omega) (by omega)) (fun h28 => ?_) (fun h28 => ?_)
                  · replace hP := zE_p hP h28
                    refine wz_i0 (i3O (n := 4400) (i3A (i3A (show (3250 : Int32) = i3 3250 from rfl) (i3M (show (24 : Int32) = i3 24 from rfl) (rfl : i3 a1 = i3 a1))) (show (4 : Int32) = i3 4 from rfl)) (by omega) (by omega) (by omega)) ?_
                    have r29 := zM_k hZ14I 2 0 0 (3254 + 24 * a1) (lo := -1) (hi := 671) (by decide) (zs_3250_4 (x := a1) (by omega) (by omega) (by omega))
                    exact zlY hP (zm_rd (Z := Z14) (ν := ν) (k := 2) (show ((0 : Nat) : Int) = 0 from rfl) (show ((0 : Nat) : Int) = 0 from rfl) (i3I (y := (3254 + 24 * a1)) (i3A (i3A (show (3250 : Int32) = i3 3250 from rfl) (i3M (show (24 : Int32) = i3 24 from rfl) (rfl : i3 a1 = i3 a1))) (show (4 : Int32) = i3 4 from rfl)) (by omega) (by omega) (by omega))) (.inl rfl) ⟨hZ14I, hZ14K, hZ14U⟩
                  · replace hP := zE_n hP h28
                    refine wz_br (i3T (rfl : i3 a2 = i3 a2) (by omega) (by omega)) (fun h30 => ?_) (fun h30 => ?_)
                    · replace hP := zE_p hP h30
                      refine wz_i0 (i3O (n := 4400) (i3A (i3A (show (3250 : Int32) = i3 3250 from rfl) (i3M (show (24 : Int32) = i3 24 from rfl) (rfl : i3 a1 = i3 a1))) (show (2 : Int32) = i3 2 from rfl)) (by omega) (by omega) (by omega)) ?_
                      have r31 := zM_k hZ14I 2 0 0 (3252 + 24 * a1) (lo := 0) (hi := 1) (by decide) (zs_3250_2 (x := a1) (by omega) (by omega) (by omega))
                      refine wz_br (i3NE (zm_rd (Z := Z14) (ν := ν) (k := 2) (show ((0 : Nat) : Int) = 0 from rfl) (show ((0 : Nat) : Int) = 0 from rfl) (i3I (y := (3252 + 24 * a1)) (i3A (i3A (show (3250 : Int32) = i3 3250 from rfl) (i3M (show (24 : Int32) = i3 24 from rfl) (rfl : i3 a1 = i3 a1))) (show (2 : Int32) = i3 2 from rfl)) (by omega) (by omega) (by omega))) (show (1 : Int32) = i3 1 from rfl) (by omega) (by omega) (by omega) (by omega)) (fun h32 => ?_) (fun h32 => ?_)
                      · replace hP := zE_p hP h32
                        exact zlY hP (show (-1 : Int32) = i3 (-1) from rfl) (.inl rfl) ⟨hZ14I, hZ14K, hZ14U⟩
                      · replace hP := zE_n hP h32
                        refine wz_i0 (i3O (n := 4400) (i3A (i3A (show (3250 : Int32) = i3 3250 from rfl) (i3M (show (24 : Int32) = i3 24 from rfl) (rfl : i3 a1 = i3 a1))) (show (19 : Int32) = i3 19 from rfl)) (by omega) (by omega) (by omega)) ?_
                        have r33 := zM_k hZ14I 2 0 0 (3269 + 24 * a1) (lo := 0) (hi := 743) (by decide) (zs_3250_19 (x := a1) (by omega) (by omega) (by omega))
                        exact zlY hP (zm_rd (Z := Z14) (ν := ν) (k := 2) (show ((0 : Nat) : Int) = 0 from rfl) (show ((0 : Nat) : Int) = 0 from rfl) (i3I (y := (3269 + 24 * a1)) (i3A (i3A (show (3250 : Int32) = i3 3250 from rfl) (i3M (show (24 : Int32) = i3 24 from rfl) (rfl : i3 a1 = i3 a1))) (show (19 : Int32) = i3 19 from rfl)) (by omega) (by omega) (by omega))) (.inl rfl) ⟨hZ14I, hZ14K, hZ14U⟩
                    · replace hP := zE_n hP h30
                      refine wz_br (i3T (rfl : i3 a2 = i3 a2) (by omega) (by omega)) (fun h34 => ?_) (fun h34 => ?_)
                      · replace hP := zE_p hP h34
                        refine wz_i0 (i3O (n := 4400) (i3A (i3A (show (3250 : Int32) = i3 3250 from rfl) (i3M (show (24 : Int32) = i3 24 from rfl) (rfl : i3 a1 = i3 a1))) (show (2 : Int32) = i3 2 from rfl)) (by omega) (by omega) (by omega)) ?_
                        have r35 := zM_k hZ14I 2 0 0 (3252 + 24 * a1) (lo := 0) (hi := 1) (by decide) (zs_3250_2 (x := a1) (by omega) (by omega) (by omega))
                        refine wz_br (i3NE (zm_rd (Z := Z14) (ν := ν) (k := 2) (show ((0 : Nat) : Int) = 0 from rfl) (show ((0 : Nat) : Int) = 0 from rfl) (i3I (y := (3252 + 24 * a1)) (i3A (i3A (show (3250 : Int32) = i3 3250 from rfl) (i3M (show (24 : Int32) = i3 24 from rfl) (rfl : i3 a1 = i3 a1))) (show (2 : Int32) = i3 2 from rfl)) (by omega) (by omega) (by omega))) (show (1 : Int32) = i3 1 from rfl) (by omega) (by omega) (by omega) (by omega)) (fun h36 => ?_) (fun h36 => ?_)
                        · replace hP := zE_p hP h36
                          exact zlY hP (show (-1 : Int32) = i3 (-1) from rfl) (.inl rfl) ⟨hZ14I, hZ14K, hZ14U⟩
                        · replace hP := zE_n hP h36
                          obtain ⟨v37, hv37, c9, lv37, uv37⟩ := sp_521 (ν := ν) hZ14I (a1 := a1) (by omega) (zbh (c := 0) (k := 0) hM (Nat.le_of_ble_eq_true rfl))
                          replace hP := zl_e hP hv37
                          refine wz_cI_of (zas (zcons rfl (zcons (zvi (rfl : i3 a1 = i3 a1)) rfl)) c9) ?_
                          clear c9
                          exact zlY hP (rfl : i3 v37 = i3 v37) (.inl rfl) ⟨hZ14I, hZ14K, hZ14U⟩
                      · replace hP := zE_n hP h34
                        refine wz_br (i3T (rfl : i3 a2 = i3 a2) (by omega) (by omega)) (fun h38 => ?_) (fun h38 => ?_)
                        · replace hP := zE_p hP h38
                          refine wz_i0 (i3O (n := 4400) (i3A (i3A (show (3250 : Int32) = i3 3250 from rfl) (i3M (show (24 : Int32) = i3 24 from rfl) (rfl : i3 a1 = i3 a1))) (show (6 : Int32) = i3 6 from rfl)) (by omega) (by omega) (by omega)) ?_
                          have r39 := zM_f hZ14I 2 0 0 (3256 + 24 * a1)
                          exact zlY hP (zm_rd (Z := Z14) (ν := ν) (k := 2) (show ((0 : Nat) : Int) = 0 from rfl) (show ((0 : Nat) : Int) = 0 from rfl) (i3I (y := (3256 + 24 * a1)) (i3A (i3A (show (3250 : Int32) = i3 3250 from rfl) (i3M (show (24 : Int32) = i3 24 from rfl) (rfl : i3 a1 = i3 a1))) (show (6 : Int32) = i3 6 from rfl)) (by omega) (by omega) (by omega))) (.inl rfl) ⟨hZ14I, hZ14K, hZ14U⟩
                        · replace hP := zE_n hP h38
                          refine wz_i1 (Eq.trans (i3T (rfl : i3 a2 = i3 a2) (by omega) (by omega)) (decide_eq_true (by omega))) ?_
                          refine wz_i0 (i3O (n := 4400) (i3A (i3A (show (3250 : Int32) = i3 3250 from rfl) (i3M (show (24 : Int32) = i3 24 from rfl) (rfl : i3 a1 = i3 a1))) (show (7 : Int32) = i3 7 from rfl)) (by omega) (by omega) (by omega)) ?_
                          have r40 := zM_f hZ14I 2 0 0 (3257 + 24 * a1)
                          exact zlY hP (zm_rd (Z := Z14) (ν := ν) (k := 2) (show ((0 : Nat) : Int) = 0 from rfl) (show ((0 : Nat) : Int) = 0 from rfl) (i3I (y := (3257 + 24 * a1)) (i3A (i3A (show (3250 : Int32) = i3 3250 from rfl) (i3M (show (24 : Int32) = i3 24 from rfl) (rfl : i3 a1 = i3 a1))) (show (7 : Int32) = i3 7 from rfl)) (by omega) (by omega) (by omega))) (.inl rfl) ⟨hZ14I, hZ14K, hZ14U⟩
/- yX12_iInspector -/
def zl_359_1 (x1 : Int) (x2 : Int) (x3 : Int) : Nat → qz_Z → Int → qz_Z × Int
  | 0, Z, x4 => (Z, x4)
  | m + 1, Z, x4 => (if 10 ≤ x4 then (Z, x4) else (zlet (zu Z 2 0 0 (3520 + 10 * x3 + x4) 0) (fun Z3 => zl_359_1 x1 x2 x3 m Z3 (x4 + 1))))
theorem sl_359_1 {s : zSM} {Zs Z : qz_Z} {ν : qz_N} (hZ : zM s Z) (hM : s.2 + 0 ≤ 1000000000) (hK : zC [2] Zs Z) {x1 : Int} (gx1 : 0 ≤ x1 ∧ x1 ≤ 18) {x2 : Int} (gx2 : 0 ≤ x2 ∧ x2 ≤ 3) {x3 : Int} (gx3 : 0 ≤ x3 ∧ x3 ≤ 2) {x4 : Int} (gx4 : 0 ≤ x4 ∧ x4 ≤ 10) (hU : zU [] Zs Z) (gr0 : Z 2 0 0 3500 = x3) {k : wz_K} {R : wz_R} {L : qz_L} (hL : qz_fg [true, true, true, true, true] L = [some (.inr (.inr (some (1, 0, 0)))), some (.inl (i3 x1)), some (.inl (i3 x2)), some (.inl (i3 x3)), some (.inl (i3 x4))]) {T : qz_Z × Int} (hP : zE T (zl_359_1 x1 x2 x3 ((10 - x4).toNat + 1) Z x4)) (hk : ∀ (L9 : qz_L) (Z9 : qz_Z) (yx4 : Int), qz_fg [true, true, true, true, false] L9 = [some (.inr (.inr (some (1, 0, 0)))), some (.inl (i3 x1)), some (.inl (i3 x2)), some (.inl (i3 x3)), none] → zM s Z9 → zC [2] Zs Z9 → zU [] Zs Z9 → (0 ≤ yx4 ∧ yx4 ≤ 10) → (Z9 2 0 0 3500 = x3) → zE T ((Z9, yx4)) → k 0 (L9, [], zm Z9 ν)) : wz_loop qb_359_1 65536 k R (L, [], zm Z ν) := by
  refine wz_lp sb_359_1 (fun m x => ∃ Z : qz_Z, ∃ x4 : Int, qz_fg [true, true, true, true, true] x.1 = [some (.inr (.inr (some (1, 0, 0)))), some (.inl (i3 x1)), some (.inl (i3 x2)), some (.inl (i3 x3)), some (.inl (i3 x4))] ∧ x.2 = ([], zm Z ν) ∧ zM s Z ∧ zC [2] Zs Z ∧ zU [] Zs Z ∧ m = (10 - x4).toNat ∧ (0 ≤ x4 ∧ x4 ≤ 10) ∧ (Z 2 0 0 3500 = x3) ∧ zE T (zl_359_1 x1 x2 x3 (m + 1) Z x4)) ?_ 65536 ((10 - x4).toNat) _ (by omega) ⟨Z, x4, hL, rfl, hZ, hK, hU, rfl, gx4, gr0, hP⟩
  clear hP gr0 gx4 hZ hK hU hL
  clear x4
  clear Z
  rintro m ⟨L, st, μ⟩ ⟨Z, x4, hL, hx, hZ, hK, hU, hm, gx4, gr0, hP⟩
  cases hx
  refine fb_359_1 (i3 x1) (i3 x2) (i3 x3) (i3 x4) _ _ _ _ hL ?_
  have r1 := zM_k hZ 2 0 0 3500 (lo := 0) (hi := 2) (by decide) rfl
  refine wz_br (i3Le (show (10 : Int32) = i3 10 from rfl) (rfl : i3 x4 = i3 x4) (by omega) (by omega) (by omega) (by omega)) (fun h2 => ?_) (fun h2 => ?_)
  · replace hP := zE_p hP h2
    exact hk _ _ _ (zconso rfl (zconso (zvo (rfl : i3 x1 = i3 x1)) (zconso (zvo (rfl : i3 x2 = i3 x2)) (zconso (zvo (rfl : i3 x3 = i3 x3)) (zconso rfl rfl))))) hZ hK hU (by omega) (by omega) hP
  · replace hP := zE_n hP h2
    refine wz_i0 (i3O (n := 4400) (i3A (i3A (show (3520 : Int32) = i3 3520 from rfl) (i3M (show (10 : Int32) = i3 10 from rfl) (rfl : i3 x3 = i3 x3))) (rfl : i3 x4 = i3 x4)) (by omega) (by omega) (by omega)) ?_
    obtain ⟨Z3, hZ3⟩ := zx (zu Z 2 0 0 (3520 + 10 * x3 + x4) 0)
    replace hP := zl_e hP hZ3
    have hZ3I := zM_02 hZ hZ3 (by simp only [zsp]; omega)
    have hZ3U : zU [] Zs Z3 := zU_u hU hZ3 (Or.inl rfl)
    have hZ3K : zC [2] Zs Z3 := zC_u hK hZ3 (zcl_2w (by omega) rfl)
    intro μ9 e9
    replace e9 := e9.trans (zm_wI (Z := Z) (ν := ν) hZ3 (show ((0 : Nat) : Int) = 0 from rfl) (show ((0 : Nat) : Int) = 0 from rfl) (i3I (y := (3520 + 10 * x3 + x4)) (i3A (i3A (show (3520 : Int32) = i3 3520 from rfl) (i3M (show (10 : Int32) = i3 10 from rfl) (rfl : i3 x3 = i3 x3))) (rfl : i3 x4 = i3 x4)) (by omega) (by omega) (by omega)) (show (0 : Int32) = i3 0 from rfl))
    subst e9
    have r4 := zM_k hZ3I 2 0 0 3500 (lo := 0) (hi := 2) (by decide) rfl
    have q5 := zu_ne (k' := 2) (b' := 0) (i' := 0) (j' := 3500) hZ3 (fun q => absurd q.2.2.2 (by omega))
    obtain ⟨m2, rfl⟩ : ∃ m2, m = m2 + 1 := ⟨m - 1, by omega⟩
    exact wz_k1 ⟨m2, by omega, Z3, (x4 + 1), (zconso rfl (zconso (zvo (rfl : i3 x1 = i3 x1)) (zconso (zvo (rfl : i3 x2 = i3 x2)) (zconso (zvo (rfl : i3 x3 = i3 x3)) (zconso (zvo (i3A (rfl : i3 x4 = i3 x4) (show (1 : Int32) = i3 1 from rfl))) rfl))))), rfl, hZ3I, hZ3K, hZ3U, by omega, by omega, by omega,  hP⟩
/- yX12_iInspector -/
def zf_359 (Z : qz_Z) (a1 : Int) (a2 : Int) : qz_Z × Int := (zlet2 (zl_359_1 a1 a2 (Z 2 0 0 3500) 11 Z 0) (fun Z3 y2 => (zlet (zu Z3 2 0 0 (3520 + 10 * (Z 2 0 0 3500)) a1) (fun Z6 => (zlet (zu Z6 2 0 0 (3521 + 10 * (Z 2 0 0 3500)) a2) (fun Z7 => (zlet (zu Z7 2 0 0 (3527 + 10 * (Z 2 0 0 3500)) (-1)) (fun Z8 => (zlet (zu Z8 2 0 0 3500 ((Z8 2 0 0 3500) + 1)) (fun Z11 => (Z11, (Z 2 0 0 3500))))))))))))
theorem sp_359 {s : zSM} {Z : qz_Z} {ν : qz_N} (hZ : zM s Z) {a1 : Int} (ga1 : 0 ≤ a1 ∧ a1 ≤ 18) {a2 : Int} (ga2 : 0 ≤ a2 ∧ a2 ≤ 3) (gx0 : Z 2 0 0 3500 ≤ 1) (hM : s.2 + 0 ≤ 1000000000) : ∃ (Z1 : qz_Z) (P : Int), (Z1, P) = zf_359 Z a1 a2 ∧ (qf_359 [.inr (.inr (some (1, 0, 0))), .inl (i3 a1), .inl (i3 a2)] (zm Z ν) = some (zm Z1 ν, .inl (some (.inl (i3 P)))) ∧ zM s Z1 ∧ zC [2] Z Z1 ∧ zU [] Z Z1 ∧ 0 ≤ P ∧ P ≤ 2 ∧ Z1 2 0 0 3500 = Z 2 0 0 3500 + 1) := by
  obtain ⟨P, hP⟩ := zx (zf_359 Z a1 a2)
  refine zc_W (Q := fun Z1 P => zM s Z1 ∧ zC [2] Z Z1 ∧ zU [] Z Z1 ∧ 0 ≤ P ∧ P ≤ 2 ∧ Z1 2 0 0 3500 = Z 2 0 0 3500 + 1) hP (fw_359 (i3 a1) (i3 a2) _ _ ?_)
  replace hP : zE P (zf_359 Z a1 a2) := hP
  unfold zf_359 at hP
  have r1 := zM_k hZ 2 0 0 3500 (lo := 0) (hi := 2) (by decide) rfl
  refine sl_359_1 (ν := ν) hZ (zbh (c := 0) (k := 0) hM (Nat.le_of_ble_eq_true rfl)) zC_r (x1 := a1) (by omega) (x2 := a2) (by omega) (x3 := (Z 2 0 0 3500)) (by omega) (x4 := 0) (by omega) zU_r (by omega) (zconso rfl (zconso (zvo (rfl : i3 a1 = i3 a1)) (zconso (zvo (rfl : i3 a2 = i3 a2)) (zconso (zvo (zm_rd (Z := Z) (ν := ν) (k := 2) (show ((0 : Nat) : Int) = 0 from rfl) (show ((0 : Nat) : Int) = 0 from rfl) (show ((3500 : Nat) : Int) = 3500 from rfl))) (zconso (zvo (show (0 : Int32) = i3 0 from rfl)) rfl))))) rfl ?_
  intro L4 Z3 y2 hL4 hZ3I kZ3 jZ3 gy2 gL4_0 q9
  replace hP := zl_e2 hP (Eq.symm q9)
  clear q9
  have hZ3U : zU [] Z Z3 := zU_t zU_r jZ3 zU_b0
  have hZ3K : zC [2] Z Z3 := zC_t zC_r kZ3 (by decide)
  have r5 := zM_k hZ3I 2 0 0 3500 (lo := 0) (hi := 2) (by decide) rfl
  refine fc_359_2 (i3 a1) (i3 a2) (i3 (Z 2 0 0 3500)) _ _ _ _ hL4 ?_
  refine wz_i0 (i3O (n := 4400) (i3A (i3A (show (3520 : Int32) = i3 3520 from rfl) (i3M (show (10 : Int32) = i3 10 from rfl) (rfl : i3 (Z 2 0 0 3500) = i3 (Z 2 0 0 3500)))) (show (0 : Int32) = i3 0 from rfl)) (by omega) (by omega) (by omega)) ?_
  obtain ⟨Z6, hZ6⟩ := zx (zu Z3 2 0 0 (3520 + 10 * (Z 2 0 0 3500)) a1)
  replace hP := zl_e hP hZ6
  have hZ6I := zM_u2 hZ3I hZ6 (lo := 0) (hi := 18) (zs_3520_0 (x := (Z 2 0 0 3500)) (by omega) (by omega) (by omega)) (by omega) ⟨by decide, by decide⟩ (by simp only [zsp]; omega)
  have hZ6U : zU [] Z Z6 := zU_u hZ3U hZ6 (Or.inl rfl)
  have hZ6K : zC [2] Z Z6 := zC_u hZ3K hZ6 (zcl_2w (by omega) rfl)
  intro μ9 e9
  replace e9 := e9.trans (zm_wI (Z := Z3) (ν := ν) hZ6 (show ((0 : Nat) : Int) = 0 from rfl) (show ((0 : Nat) : Int) = 0 from rfl) (i3I (y := (3520 + 10 * (Z 2 0 0 3500))) (i3A (i3A (show (3520 : Int32) = i3 3520 from rfl) (i3M (show (10 : Int32) = i3 10 from rfl) (rfl : i3 (Z 2 0 0 3500) = i3 (Z 2 0 0 3500)))) (show (0 : Int32) = i3 0 from rfl)) (by omega) (by omega) (by omega)) (rfl : i3 a1 = i3 a1))
  subst e9
  refine wz_i0 (i3O (n := 4400) (i3A (i3A (show (3520 : Int32) = i3 3520 from rfl) (i3M (show (10 : Int32) = i3 10 from rfl) (rfl : i3 (Z 2 0 0 3500) = i3 (Z 2 0 0 3500)))) (show (1 : Int32) = i3 1 from rfl)) (by omega) (by omega) (by omega)) ?_
  obtain ⟨Z7, hZ7⟩ := zx (zu Z6 2 0 0 (3521 + 10 * (Z 2 0 0 3500)) a2)
  replace hP := zl_e hP hZ7
  have hZ7I := zM_u2 hZ6I hZ7 (lo := 0) (hi := 3) (zs_3520_1 (x := (Z 2 0 0 3500)) (by omega) (by omega) (by omega)) (by omega) ⟨by decide, by decide⟩ (by simp only [zsp]; omega)
  have hZ7U : zU [] Z Z7 := zU_u hZ6U hZ7 (Or.inl rfl)
  have hZ7K : zC [2] Z Z7 := zC_u hZ6K hZ7 (zcl_2w (by omega) rfl)
  intro μ9 e9
  replace e9 := e9.trans (zm_wI (Z := Z6) (ν := ν) hZ7 (show ((0 : Nat) : Int) = 0 from rfl) (show ((0 : Nat) : Int) = 0 from rfl) (i3I (y := (3521 + 10 * (Z 2 0 0 3500))) (i3A (i3A (show (3520 : Int32) = i3 3520 from rfl) (i3M (show (10 : Int32) = i3 10 from rfl) (rfl : i3 (Z 2 0 0 3500) = i3 (Z 2 0 0 3500)))) (show (1 : Int32) = i3 1 from rfl)) (by omega) (by omega) (by omega)) (rfl : i3 a2 = i3 a2))
  subst e9
  refine wz_i0 (i3O (n := 4400) (i3A (i3A (show (3520 : Int32) = i3 3520 from rfl) (i3M (show (10 : Int32) = i3 10 from rfl) (rfl : i3 (Z 2 0 0 3500) = i3 (Z 2 0 0 3500)))) (show (7 : Int32) = i3 7 from rfl)) (by omega) (by omega) (by omega)) ?_
  obtain ⟨Z8, hZ8⟩ := zx (zu Z7 2 0 0 (3527 + 10 * (Z 2 0 0 3500)) (-1))
  replace hP := zl_e hP hZ8
  have hZ8I := zM_u2 hZ7I hZ8 (lo := -1) (hi := 671) (zs_3520_7 (x := (Z 2 0 0 3500)) (by omega) (by omega) (by omega)) (by omega) ⟨by decide, by decide⟩ (by simp only [zsp]; omega)
  have hZ8U : zU [] Z Z8 := zU_u hZ7U hZ8 (Or.inl rfl)
  have hZ8K : zC [2] Z Z8 := zC_u hZ7K hZ8 (zcl_2w (by omega) rfl)
  intro μ9 e9
  replace e9 := e9.trans (zm_wI (Z := Z7) (ν := ν) hZ8 (show ((0 : Nat) : Int) = 0 from rfl) (show ((0 : Nat) : Int) = 0 from rfl) (i3I (y := (3527 + 10 * (Z 2 0 0 3500))) (i3A (i3A (show (3520 : Int32) = i3 3520 from rfl) (i3M (show (10 : Int32) = i3 10 from rfl) (rfl : i3 (Z 2 0 0 3500) = i3 (Z 2 0 0 3500)))) (show (7 : Int32) = i3 7 from rfl)) (by omega) (by omega) (by omega)) (show (-1 : Int32) = i3 (-1) from rfl))
  subst e9
  have r9 := zM_k hZ8I 2 0 0 3500 (lo := 0) (hi := 2) (by decide) rfl
  have q10 := (zu_ne (k' := 2) (b' := 0) (i' := 0) (j' := 3500) hZ8 (fun q => absurd q.2.2.2 (by omega))).trans ((zu_ne (k' := 2) (b' := 0) (i' := 0) (j' := 3500) hZ7 (fun q => absurd q.2.2.2 (by omega))).trans (zu_ne (k' := 2) (b' := 0) (i' := 0) (j' := 3500) hZ6 (fun q => absurd q.2.2.2 (by omega))))
  obtain ⟨Z11, hZ11⟩ := zx (zu Z8 2 0 0 3500 ((Z8 2 0 0 3500) + 1))
  replace hP := zl_e hP hZ11
  have hZ11I := zM_u2 hZ8I hZ11 (lo := 0) (hi := 2) rfl (by omega) ⟨by decide, by decide⟩ (by simp only [zsp]; omega)
  have hZ11U : zU [] Z Z11 := zU_u hZ8U hZ11 (Or.inl rfl)
  have hZ11K : zC [2] Z Z11 := zC_u hZ8K hZ11 (by decide)
  intro μ9 e9
  replace e9 := e9.trans (zm_wI (Z := Z8) (ν := ν) hZ11 (show ((0 : Nat) : Int) = 0 from rfl) (show ((0 : Nat) : Int) = 0 from rfl) (show ((3500 : Nat) : Int) = 3500 from rfl) (i3A (zm_rd (Z := Z8) (ν := ν) (k := 2) (show ((0 : Nat) : Int) = 0 from rfl) (show ((0 : Nat) : Int) = 0 from rfl) (show ((3500 : Nat) : Int) = 3500 from rfl)) (show (1 : Int32) = i3 1 from rfl)))
  subst e9
  have r12 := zM_k hZ11I 2 0 0 3500 (lo := 0) (hi := 2) (by decide) rfl
  have q13 := zu_at hZ11
  exact zlW hP (rfl : i3 (Z 2 0 0 3500) = i3 (Z 2 0 0 3500)) ⟨hZ11I, hZ11K, hZ11U, by omega, by omega, by omega⟩
/- yX12_inspector -/
def zy_377 (Z : qz_Z) (dm : qz_Z → Int → Int → Int → Int → Int → Int → Int → qz_Z) (a1 : Int) (a2 : Int) : qz_Z × Int := (if a1 < 0 then (zlet (zu Z 1 0 0 2 1) (fun Z5 => (Z5, 0))) else (if 18 < a1 then (zlet (zu Z 1 0 0 2 1) (fun Z7 => (Z7, 0))) else (if a2 < 0 then (zlet (zu Z 1 0 0 2 1) (fun Z9 => (Z9, 0))) else (if 3 < a2 then (zlet (zu Z 1 0 0 2 1) (fun Z11 => (Z11, 0))) else (zlet (zu Z 1 0 0 2 0) (fun Z12 => (if 2 ≤ (Z12 2 0 0 3500) then (zlet (zu Z12 1 0 0 2 2) (fun Z15 => (Z15, 0))) else (zlet (zu Z12 1 0 0 2 0) (fun Z16 => (zlet (dm Z16 23 a1 a2 0 0 0 0) (fun Z23 => (zlet2 (zf_359 Z23 a1 a2) (fun Z26 v27 => (Z26, v27))))))))))))))
theorem sy_377 {s : zSM} {Z : qz_Z} {ν : qz_N} (hZ : zM s Z) (gq : Z 1 0 0 35 = 0) (hM : s.2 + 0 ≤ 1000000000) {a1 : Int} (ga1 : -2147483648 ≤ a1 ∧ a1 ≤ 2147483647) {a2 : Int} (ga2 : -2147483648 ≤ a2 ∧ a2 ≤ 2147483647) {dk : qz_Z → qz_Z} {dm : qz_Z → Int → Int → Int → Int → Int → Int → Int → qz_Z} {ν1 : qz_N} (hdm : zDm s ν ν1 Z dk dm) : ∃ (Z1 : qz_Z) (ν2 : qz_N) (v : Int), (Z1, v) = zy_377 Z dm a1 a2 ∧ (ν2 = ν ∨ ν2 = ν1) ∧ qf_377 [.inr (.inr (some (1, 0, 0))), .inl (i3 a1), .inl (i3 a2)] (zm Z ν) = some (zm Z1 ν2, .inl (some (.inl (i3 v)))) ∧ (fun Z1 => zM s Z1 ∧ zC [1, 2, 101, 102, 200] Z Z1 ∧ zU [] Z Z1) Z1 := by
  obtain ⟨P, hP⟩ := zx (zy_377 Z dm a1 a2)
  refine zc_Y (Q := fun Z1 => zM s Z1 ∧ zC [1, 2, 101, 102, 200] Z Z1 ∧ zU [] Z Z1) hP (fw_377 (i3 a1) (i3 a2) _ _ ?_)
  replace hP : zE P (zy_377 Z dm a1 a2) := hP
  unfold zy_377 at hP
  have r1 := zM_k hZ 1 0 0 35 (lo := 0) (hi := 1) (by decide) rfl
  have r2 := zM_k hZ 1 0 0 34 (lo := 0) (hi := 8) (by decide) rfl
  have r3 := zM_f hZ 1 0 0 37
  refine wz_br (i3L (rfl : i3 a1 = i3 a1) (show (0 : Int32) = i3 0 from rfl) (by omega) (by omega) (by omega) (by omega)) (fun h4 => ?_) (fun h4 => ?_)
  · replace hP := zE_p hP h4
    obtain ⟨Z5, hZ5⟩ := zx (zu Z 1 0 0 2 1)
    replace hP := zl_e hP hZ5
    have hZ5I := zM_u hZ hZ5 (lo := -2147483648) (hi := 2147483647) (by decide) rfl (by omega) ⟨by decide, by decide⟩ (Or.inr (by decide)) rfl
    have hZ5U : zU [] Z Z5 := zU_u zU_r hZ5 (Or.inl rfl)
    have hZ5K : zC [1, 2, 101, 102, 200] Z Z5 := zC_u zC_r hZ5 (by decide)
    intro μ9 e9
    replace e9 := e9.trans (zm_wI (Z := Z) (ν := ν) hZ5 (show ((0 : Nat) : Int) = 0 from rfl) (show ((0 : Nat) : Int) = 0 from rfl) (show ((2 : Nat) : Int) = 2 from rfl) (show (1 : Int32) = i3 1 from rfl))
    subst e9
    exact zlY hP (show (0 : Int32) = i3 0 from rfl) (.inl rfl) ⟨hZ5I, hZ5K, hZ5U⟩
  · replace hP := zE_n hP h4
    refine wz_br (i3L (show (18 : Int32) = i3 18 from rfl) (rfl : i3 a1 = i3 a1) (by omega) (by omega) (by omega) (by omega)) (fun h6 => ?_) (fun h6 => ?_)
    · replace hP := zE_p hP h6
      obtain ⟨Z7, hZ7⟩ := zx (zu Z 1 0 0 2 1)
      replace hP := zl_e hP hZ7
      have hZ7I := zM_u hZ hZ7 (lo := -2147483648) (hi := 2147483647) (by decide) rfl (by omega) ⟨by decide, by decide⟩ (Or.inr (by decide)) rfl
      have hZ7U : zU [] Z Z7 := zU_u zU_r hZ7 (Or.inl rfl)
      have hZ7K : zC [1, 2, 101, 102, 200] Z Z7 := zC_u zC_r hZ7 (by decide)
      intro μ9 e9
      replace e9 := e9.trans (zm_wI (Z := Z) (ν := ν) hZ7 (show ((0 : Nat) : Int) = 0 from rfl) (show ((0 : Nat) : Int) = 0 from rfl) (show ((2 : Nat) : Int) = 2 from rfl) (show (1 : Int32) = i3 1 from rfl))
      subst e9
      exact zlY hP (show (0 : Int32) = i3 0 from rfl) (.inl rfl) ⟨hZ7I, hZ7K, hZ7U⟩
    · replace hP := zE_n hP h6
      refine wz_br (i3L (rfl : i3 a2 = i3 a2) (show (0 : Int32) = i3 0 from rfl) (by omega) (by omega) (by omega) (by omega)) (fun h8 => ?_) (fun h8 => ?_)
      · replace hP := zE_p hP h8
        obtain ⟨Z9, hZ9⟩ := zx (zu Z 1 0 0 2 1)
        replace hP := zl_e hP hZ9
        have hZ9I := zM_u hZ hZ9 (lo := -2147483648) (hi := 2147483647) (by decide) rfl (by omega) ⟨by decide, by decide⟩ (Or.inr (by decide)) rfl
        have hZ9U : zU [] Z Z9 := zU_u zU_r hZ9 (Or.inl rfl)
        have hZ9K : zC [1, 2, 101, 102, 200] Z Z9 := zC_u zC_r hZ9 (by decide)
        intro μ9 e9
        replace e9 := e9.trans (zm_wI (Z := Z) (ν := ν) hZ9 (show ((0 : Nat) : Int) = 0 from rfl) (show ((0 : Nat) : Int) = 0 from rfl) (show ((2 : Nat) : Int) = 2 from rfl) (show (1 : Int32) = i3 1 from rfl))
        subst e9
        exact zlY hP (show (0 : Int32) = i3 0 from rfl) (.inl rfl) ⟨hZ9I, hZ9K, hZ9U⟩
      · replace hP := zE_n hP h8
        refine wz_br (i3L (show (3 : Int32) = i3 3 from rfl) (rfl : i3 a2 = i3 a2) (by omega) (by omega) (by omega) (by omega)) (fun h10 => ?_) (fun h10 => ?_)
        · replace hP := zE_p hP h10
          obtain ⟨Z11, hZ11⟩ := zx (zu Z 1 0 0 2 1)
          replace hP := zl_e hP hZ11
          have hZ11I := zM_u hZ hZ11 (lo := -2147483648) (hi := 2147483647) (by decide) rfl (by omega) ⟨by decide, by decide⟩ (Or.inr (by decide)) rfl
          have hZ11U : zU [] Z Z11 := zU_u zU_r hZ11 (Or.inl rfl)
          have hZ11K : zC [1, 2, 101, 102, 200] Z Z11 := zC_u zC_r hZ11 (by decide)
          intro μ9 e9
          replace e9 := e9.trans (zm_wI (Z := Z) (ν := ν) hZ11 (show ((0 : Nat) : Int) = 0 from rfl) (show ((0 : Nat) : Int) = 0 from rfl) (show ((2 : Nat) : Int) = 2 from rfl) (show (1 : Int32) = i3 1 from rfl))
          subst e9
          exact zlY hP (show (0 : Int32) = i3 0 from rfl) (.inl rfl) ⟨hZ11I, hZ11K, hZ11U⟩
        · replace hP := zE_n hP h10
          obtain ⟨Z12, hZ12⟩ := zx (zu Z 1 0 0 2 0)
          replace hP := zl_e hP hZ12
          have hZ12I := zM_0 hZ hZ12 (by decide) (Or.inr (by decide))
          have hZ12U : zU [] Z Z12 := zU_u zU_r hZ12 (Or.inl rfl)
          have hZ12K : zC [1, 2, 101, 102, 200] Z Z12 := zC_u zC_r hZ12 (by decide)
          intro μ9 e9
          replace e9 := e9.trans (zm_wI (Z := Z) (ν := ν) hZ12 (show ((0 : Nat) : Int) = 0 from rfl) (show ((0 : Nat) : Int) = 0 from rfl) (show ((2 : Nat) : Int) = 2 from rfl) (show (0 : Int32) = i3 0 from rfl))
          subst e9
          have r13 := zM_k hZ12I 2 0 0 3500 (lo := 0) (hi := 2) (by decide) rfl
          refine wz_br (i3Le (show (2 : Int32) = i3 2 from rfl) (zm_rd (Z := Z12) (ν := ν) (k := 2) (show ((0 : Nat) : Int) = 0 from rfl) (show ((0 : Nat) : Int) = 0 from rfl) (show ((3500 : Nat) : Int) = 3500 from rfl)) (by omega) (by omega) (by omega) (by omega)) (fun h14 => ?_) (fun h14 => ?_)
          · replace hP := zE_p hP h14
            obtain ⟨Z15, hZ15⟩ := zx (zu Z12 1 0 0 2 2)
            replace hP := zl_e hP hZ15
            have hZ15I := zM_u hZ12I hZ15 (lo := -2147483648) (hi := 2147483647) (by decide) rfl (by omega) ⟨by decide, by decide⟩ (Or.inr (by decide)) rfl
            have hZ15U : zU [] Z Z15 := zU_u hZ12U hZ15 (Or.inl rfl)
            have hZ15K : zC [1, 2, 101, 102, 200] Z Z15 := zC_u hZ12K hZ15 (by decide)
            intro μ9 e9
            replace e9 := e9.trans (zm_wI (Z := Z12) (ν := ν) hZ15 (show ((0 : Nat) : Int) = 0 from rfl) (show ((0 : Nat) : Int) = 0 from rfl) (show ((2 : Nat) : Int) = 2 from rfl) (show (2 : Int32) = i3 2 from rfl))
            subst e9
            exact zlY hP (show (0 : Int32) = i3 0 from rfl) (.inl rfl) ⟨hZ15I, hZ15K, hZ15U⟩
          · replace hP := zE_n hP h14
            obtain ⟨Z16, hZ16⟩ := zx (zu Z12 1 0 0 2 0)
            replace hP := zl_e hP hZ16
            have hZ16I := zM_0 hZ12I hZ16 (by decide) (Or.inr (by decide))
            have hZ16U : zU [] Z Z16 := zU_u hZ12U hZ16 (Or.inl rfl)
            have hZ16K : zC [1, 2, 101, 102, 200] Z Z16 := zC_u hZ12K hZ16 (by decide)
            intro μ9 e9
            replace e9 := e9.trans (zm_wI (Z := Z12) (ν := ν) hZ16 (show ((0 : Nat) : Int) = 0 from rfl) (show ((0 : Nat) : Int) = 0 from rfl) (show ((2 : Nat) : Int) = 2 from rfl) (show (0 : Int32) = i3 0 from rfl))
            subst e9
            have r17 := zM_k hZ16I 1 0 0 35 (lo := 0) (hi := 1) (by decide) rfl
            have q18 := (zu_ne (k' := 1) (b' := 0) (i' := 0) (j' := 35) hZ16 (fun q => absurd q.2.2.2 (by decide))).trans (zu_ne (k' := 1) (b' := 0) (i' := 0) (j' := 35) hZ12 (fun q => absurd q.2.2.2 (by decide)))
            refine wz_i0 (Eq.trans (i3NE (zm_rd (Z := Z16) (ν := ν) (k := 1) (show ((0 : Nat) : Int) = 0 from rfl) (show ((0 : Nat) : Int) = 0 from rfl) (show ((35 : Nat) : Int) = 35 from rfl)) (show (0 : Int32) = i3 0 from rfl) (by omega) (by omega) (by omega) (by omega)) (decide_eq_false (by omega))) ?_
            have r19 := zM_k hZ16I 1 0 0 34 (lo := 0) (hi := 8) (by decide) rfl
            have q20 := (zu_ne (k' := 1) (b' := 0) (i' := 0) (j' := 34) hZ16 (fun q => absurd q.2.2.2 (by decide))).trans (zu_ne (k' := 1) (b' := 0) (i' := 0) (j' := 34) hZ12 (fun q => absurd q.2.2.2 (by decide)))
            have r21 := zM_f hZ16I 1 0 0 37
            have q22 := (zu_ne (k' := 1) (b' := 0) (i' := 0) (j' := 37) hZ16 (fun q => absurd q.2.2.2 (by decide))).trans (zu_ne (k' := 1) (b' := 0) (i' := 0) (j' := 37) hZ12 (fun q => absurd q.2.2.2 (by decide)))
            obtain ⟨c8, c9, hZ23I, dZ23⟩ := hdm Z16 23 a1 a2 0 0 0 0 hZ16I (by omega) (by omega) (by omega) (by omega) (by omega) (by omega) (by omega) (by omega) (by omega) (by omega)
            obtain ⟨Z23, hZ23⟩ := zx (dm Z16 23 a1 a2 0 0 0 0)
            rw [← hZ23] at c9 hZ23I dZ23
            replace hP := zl_e hP hZ23
            refine wz_cV_of (zas (zcons rfl (zcons (zvi (show (-1 : Int32) = i3 (-1) from rfl)) rfl)) c8) ?_
            refine wz_cV_of (zas (zcons rfl (zcons (zvi (show (23 : Int32) = i3 23 from rfl)) (zcons (zvi (rfl : i3 a1 = i3 a1)) (zcons (zvi (rfl : i3 a2 = i3 a2)) (zcons (zvi (show (0 : Int32) = i3 0 from rfl)) (zcons (zvi (show (0 : Int32) = i3 0 from rfl)) (zcons (zvi (show (0 : Int32) = i3 0 from rfl)) (zcons (zvi (show (0 : Int32) = i3 0 from rfl)) rfl)))))))) c9) ?_
            clear c8 c9
            have hZ23K : zC [1, 2, 101, 102, 200] Z Z23 := zC_t hZ16K (zMd_C dZ23) (by decide)
            have hZ23U : zU [] Z Z23 := zU_t hZ16U (zMd_U dZ23) zU_b0
            have r24 := zM_k hZ23I 2 0 0 3500 (lo := 0) (hi := 2) (by decide) rfl
            have q25 := (dZ23 2 0 0 3500 (by simp)).trans (zu_ne (k' := 2) (b' := 0) (i' := 0) (j' := 3500) hZ16 (fun q => absurd q.1 (by decide)))
            obtain ⟨Z26, v27, hv27, c9, hZ26I, kZ26, jZ26, lv27, uv27, wv270⟩ := sp_359 (ν := ν1) hZ23I (a1 := a1) (by omega) (a2 := a2) (by omega) (by omega) (zbh (c := 0) (k := 0) hM (Nat.le_of_ble_eq_true rfl))
            have hZ26U : zU [] Z Z26 := zU_t hZ23U jZ26 zU_b0
            have hZ26K : zC [1, 2, 101, 102, 200] Z Z26 := zC_t hZ23K kZ26 (by decide)
            replace hP := zl_e2 hP hv27
            refine wz_cI_of (zas (zcons rfl (zcons (zvi (rfl : i3 a1 = i3 a1)) (zcons (zvi (rfl : i3 a2 = i3 a2)) rfl))) c9) ?_
            clear c9 hv27
            have r28 := zM_k hZ26I 2 0 0 3500 (lo := 0) (hi := 2) (by decide) rfl
            exact zlY hP (rfl : i3 v27 = i3 v27) (.inr rfl) ⟨hZ26I, hZ26K, hZ26U⟩

theorem sq_377 {s : zSM} {Z : qz_Z} {ν : qz_N} (hZ : zM s Z) (gq : Z 1 0 0 35 = 1) (hM : s.2 + 0 ≤ 1000000000) {a1 : Int} (ga1 : -2147483648 ≤ a1 ∧ a1 ≤ 2147483647) {a2 : Int} (ga2 : -2147483648 ≤ a2 ∧ a2 ≤ 2147483647) {ν1 : qz_N} : ∃ (Z1 : qz_Z) (ν2 : qz_N) (v : Int), (Z1, v) = zy_377 Z zq0 a1 a2 ∧ (ν2 = ν ∨ ν2 = ν1) ∧ qf_377 [.inr (.inr (some (1, 0, 0))), .inl (i3 a1), .inl (i3 a2)] (zm Z ν) = some (zm Z1 ν2, .inl (some (.inl (i3 v)))) ∧ (fun Z1 => zM s Z1 ∧ zC [1, 2] Z Z1 ∧ zU [] Z Z1) Z1 := by
  obtain ⟨P, hP⟩ := zx (zy_377 Z zq0 a1 a2)
  refine zc_Y (Q := fun Z1 => zM s Z1 ∧ zC [1, 2] Z Z1 ∧ zU [] Z Z1) hP (fw_377 (i3 a1) (i3 a2) _ _ ?_)
  replace hP : zE P (zy_377 Z zq0 a1 a2) := hP
  unfold zy_377 at hP
  have r1 := zM_k hZ 1 0 0 35 (lo := 0) (hi := 1) (by decide) rfl
  have r2 := zM_k hZ 1 0 0 34 (lo := 0) (hi := 8) (by decide) rfl
  have r3 := zM_f hZ 1 0 0 37
  refine wz_br (i3L (rfl : i3 a1 = i3 a1) (show (0 : Int32) = i3 0 from rfl) (by omega) (by omega) (by omega) (by omega)) (fun h4 => ?_) (fun h4 => ?_)
  · replace hP := zE_p hP h4
    obtain ⟨Z5, hZ5⟩ := zx (zu Z 1 0 0 2 1)
    replace hP := zl_e hP hZ5
    have hZ5I := zM_u hZ hZ5 (lo := -2147483648) (hi := 2147483647) (by decide) rfl (by omega) ⟨by decide, by decide⟩ (Or.inr (by decide)) rfl
    have hZ5U : zU [] Z Z5 := zU_u zU_r hZ5 (Or.inl rfl)
    have hZ5K : zC [1, 2] Z Z5 := zC_u zC_r hZ5 (by decide)
    intro μ9 e9
    replace e9 := e9.trans (zm_wI (Z := Z) (ν := ν) hZ5 (show ((0 : Nat) : Int) = 0 from rfl) (show ((0 : Nat) : Int) = 0 from rfl) (show ((2 : Nat) : Int) = 2 from rfl) (show (1 : Int32) = i3 1 from rfl))
    subst e9
    exact zlY hP (show (0 : Int32) = i3 0 from rfl) (.inl rfl) ⟨hZ5I, hZ5K, hZ5U⟩
  · replace hP := zE_n hP h4
    refine wz_br (i3L (show (18 : Int32) = i3 18 from rfl) (rfl : i3 a1 = i3 a1) (by omega) (by omega) (by omega) (by omega)) (fun h6 => ?_) (fun h6 => ?_)
    · replace hP := zE_p hP h6
      obtain ⟨Z7, hZ7⟩ := zx (zu Z 1 0 0 2 1)
      replace hP := zl_e hP hZ7
      have hZ7I := zM_u hZ hZ7 (lo := -2147483648) (hi := 2147483647) (by decide) rfl (by omega) ⟨by decide, by decide⟩ (Or.inr (by decide)) rfl
      have hZ7U : zU [] Z Z7 := zU_u zU_r hZ7 (Or.inl rfl)
      have hZ7K : zC [1, 2] Z Z7 := zC_u zC_r hZ7 (by decide)
      intro μ9 e9
      replace e9 := e9.trans (zm_wI (Z := Z) (ν := ν) hZ7 (show ((0 : Nat) : Int) = 0 from rfl) (show ((0 : Nat) : Int) = 0 from rfl) (show ((2 : Nat) : Int) = 2 from rfl) (show (1 : Int32) = i3 1 from rfl))
      subst e9
      exact zlY hP (show (0 : Int32) = i3 0 from rfl) (.inl rfl) ⟨hZ7I, hZ7K, hZ7U⟩
    · replace hP := zE_n hP h6
      refine wz_br (i3L (rfl : i3 a2 = i3 a2) (show (0 : Int32) = i3 0 from rfl) (by omega) (by omega) (by omega) (by omega)) (fun h8 => ?_) (fun h8 => ?_)
      · replace hP := zE_p hP h8
        obtain ⟨Z9, hZ9⟩ := zx (zu Z 1 0 0 2 1)
        replace hP := zl_e hP hZ9
        have hZ9I := zM_u hZ hZ9 (lo := -2147483648) (hi := 2147483647) (by decide) rfl (by omega) ⟨by decide, by decide⟩ (Or.inr (by decide)) rfl
        have hZ9U : zU [] Z Z9 := zU_u zU_r hZ9 (Or.inl rfl)
        have hZ9K : zC [1, 2] Z Z9 := zC_u zC_r hZ9 (by decide)
        intro μ9 e9
        replace e9 := e9.trans (zm_wI (Z := Z) (ν := ν) hZ9 (show ((0 : Nat) : Int) = 0 from rfl) (show ((0 : Nat) : Int) = 0 from rfl) (show ((2 : Nat) : Int) = 2 from rfl) (show (1 : Int32) = i3 1 from rfl))
        subst e9
        exact zlY hP (show (0 : Int32) = i3 0 from rfl) (.inl rfl) ⟨hZ9I, hZ9K, hZ9U⟩
      · replace hP := zE_n hP h8
        refine wz_br (i3L (show (3 : Int32) = i3 3 from rfl) (rfl : i3 a2 = i3 a2) (by omega) (by omega) (by omega) (by omega)) (fun h10 => ?_) (fun h10 => ?_)
        · replace hP := zE_p hP h10
          obtain ⟨Z11, hZ11⟩ := zx (zu Z 1 0 0 2 1)
          replace hP := zl_e hP hZ11
          have hZ11I := zM_u hZ hZ11 (lo := -2147483648) (hi := 2147483647) (by decide) rfl (by omega) ⟨by decide, by decide⟩ (Or.inr (by decide)) rfl
          have hZ11U : zU [] Z Z11 := zU_u zU_r hZ11 (Or.inl rfl)
          have hZ11K : zC [1, 2] Z Z11 := zC_u zC_r hZ11 (by decide)
          intro μ9 e9
          replace e9 := e9.trans (zm_wI (Z := Z) (ν := ν) hZ11 (show ((0 : Nat) : Int) = 0 from rfl) (show ((0 : Nat) : Int) = 0 from rfl) (show ((2 : Nat) : Int) = 2 from rfl) (show (1 : Int32) = i3 1 from rfl))
          subst e9
          exact zlY hP (show (0 : Int32) = i3 0 from rfl) (.inl rfl) ⟨hZ11I, hZ11K, hZ11U⟩
        · replace hP := zE_n hP h10
          obtain ⟨Z12, hZ12⟩ := zx (zu Z 1 0 0 2 0)
          replace hP := zl_e hP hZ12
          have hZ12I := zM_0 hZ hZ12 (by decide) (Or.inr (by decide))
          have hZ12U : zU [] Z Z12 := zU_u zU_r hZ12 (Or.inl rfl)
          have hZ12K : zC [1, 2] Z Z12 := zC_u zC_r hZ12 (by decide)
          intro μ9 e9
          replace e9 := e9.trans (zm_wI (Z := Z) (ν := ν) hZ12 (show ((0 : Nat) : Int) = 0 from rfl) (show ((0 : Nat) : Int) = 0 from rfl) (show ((2 : Nat) : Int) = 2 from rfl) (show (0 : Int32) = i3 0 from rfl))
          subst e9
          have r13 := zM_k hZ12I 2 0 0 3500 (lo := 0) (hi := 2) (by decide) rfl
          refine wz_br (i3Le (show (2 : Int32) = i3 2 from rfl) (zm_rd (Z := Z12) (ν := ν) (k := 2) (show ((0 : Nat) : Int) = 0 from rfl) (show ((0 : Nat) : Int) = 0 from rfl) (show ((3500 : Nat) : Int) = 3500 from rfl)) (by omega) (by omega) (by omega) (by omega)) (fun h14 => ?_) (fun h14 => ?_)
          · replace hP := zE_p hP h14
            obtain ⟨Z15, hZ15⟩ := zx (zu Z12 1 0 0 2 2)
            replace hP := zl_e hP hZ15
            have hZ15I := zM_u hZ12I hZ15 (lo := -2147483648) (hi := 2147483647) (by decide) rfl (by omega) ⟨by decide, by decide⟩ (Or.inr (by decide)) rfl
            have hZ15U : zU [] Z Z15 := zU_u hZ12U hZ15 (Or.inl rfl)
            have hZ15K : zC [1, 2] Z Z15 := zC_u hZ12K hZ15 (by decide)
            intro μ9 e9
            replace e9 := e9.trans (zm_wI (Z := Z12) (ν := ν) hZ15 (show ((0 : Nat) : Int) = 0 from rfl) (show ((0 : Nat) : Int) = 0 from rfl) (show ((2 : Nat) : Int) = 2 from rfl) (show (2 : Int32) = i3 2 from rfl))
            subst e9
            exact zlY hP (show (0 : Int32) = i3 0 from rfl) (.inl rfl) ⟨hZ15I, hZ15K, hZ15U⟩
          · replace hP := zE_n hP h14
            obtain ⟨Z16, hZ16⟩ := zx (zu Z12 1 0 0 2 0)
            replace hP := zl_e hP hZ16
            have hZ16I := zM_0 hZ12I hZ16 (by decide) (Or.inr (by decide))
            have hZ16U : zU [] Z Z16 := zU_u hZ12U hZ16 (Or.inl rfl)
            have hZ16K : zC [1, 2] Z Z16 := zC_u hZ12K hZ16 (by decide)
            intro μ9 e9
            replace e9 := e9.trans (zm_wI (Z := Z12) (ν := ν) hZ16 (show ((0 : Nat) : Int) = 0 from rfl) (show ((0 : Nat) : Int) = 0 from rfl) (show ((2 : Nat) : Int) = 2 from rfl) (show (0 : Int32) = i3 0 from rfl))
            subst e9
            have r17 := zM_k hZ16I 1 0 0 35 (lo := 0) (hi := 1) (by decide) rfl
            have q18 := (zu_ne (k' := 1) (b' := 0) (i' := 0) (j' := 35) hZ16 (fun q => absurd q.2.2.2 (by decide))).trans (zu_ne (k' := 1) (b' := 0) (i' := 0) (j' := 35) hZ12 (fun q => absurd q.2.2.2 (by decide)))
            refine wz_i1 (Eq.trans (i3NE (zm_rd (Z := Z16) (ν := ν) (k := 1) (show ((0 : Nat) : Int) = 0 from rfl) (show ((0 : Nat) : Int) = 0 from rfl) (show ((35 : Nat) : Int) = 35 from rfl)) (show (0 : Int32) = i3 0 from rfl) (by omega) (by omega) (by omega) (by omega)) (decide_eq_true (by omega))) ?_
            replace hP := zl_q hP (rfl : _ = Z16)
            have r19 := zM_k hZ16I 2 0 0 3500 (lo := 0) (hi := 2) (by decide) rfl
            have q20 := zu_ne (k' := 2) (b' := 0) (i' := 0) (j' := 3500) hZ16 (fun q => absurd q.1 (by decide))
            obtain ⟨Z21, v22, hv22, c9, hZ21I, kZ21, jZ21, lv22, uv22, wv220⟩ := sp_359 (ν := ν) hZ16I (a1 := a1) (by omega) (a2 := a2) (by omega) (by omega) (zbh (c := 0) (k := 0) hM (Nat.le_of_ble_eq_true rfl))
            have hZ21U : zU [] Z Z21 := zU_t hZ16U jZ21 zU_b0
            have hZ21K : zC [1, 2] Z Z21 := zC_t hZ16K kZ21 (by decide)
            replace hP := zl_e2 hP hv22
            refine wz_cI_of (zas (zcons rfl (zcons (zvi (rfl : i3 a1 = i3 a1)) (zcons (zvi (rfl : i3 a2 = i3 a2)) rfl))) c9) ?_
            clear c9 hv22
            have r23 := zM_k hZ21I 2 0 0 3500 (lo := 0) (hi := 2) (by decide) rfl
            exact zlY hP (rfl : i3 v22 = i3 v22) (.inl rfl) ⟨hZ21I, hZ21K, hZ21U⟩
/- yX12_rKept -/
def zf_475 (Z : qz_Z) (a1 : Int) (a2 : Int) : Int := (if a2 < 6 ∨ 10 < a2 then (Z 2 0 0 (1210 + 12 * a1 + a2)) else (if a2 = 6 then (zlet (zf_488 Z a1) (fun v4 => v4)) else (if a2 = 7 then (Z 2 0 0 (1216 + 12 * a1)) else (if a2 = 8 then (Z 2 0 0 (1217 + 12 * a1)) else (if a2 = 9 then (Z 2 0 0 (1218 + 12 * a1)) else (zlet (zf_390 Z a1) (fun v11 => (if v11 = 0 then (-1) else (Z 2 0 0 (3510 + a1))))))))))
theorem sp_475 {s : zSM} {Z : qz_Z} {ν : qz_N} (hZ : zM s Z) {a1 : Int} (ga1 : 0 ≤ a1 ∧ a1 ≤ 5) {a2 : Int} (ga2 : 0 ≤ a2 ∧ a2 ≤ 10) (hM : s.2 + 0 ≤ 1000000000) : ∃ P : Int, P = zf_475 Z a1 a2 ∧ (qf_475 [.inr (.inr (some (1, 0, 0))), .inl (i3 a1), .inl (i3 a2)] (zm Z ν) = some (zm Z ν, .inl (some (.inl (i3 P)))) ∧ -2147483648 ≤ P ∧ P ≤ 2147483647) := by
  obtain ⟨P, hP⟩ := zx (zf_475 Z a1 a2)
  refine zc_R (Q := fun P => -2147483648 ≤ P ∧ P ≤ 2147483647) hP (fw_475 (i3 a1) (i3 a2) _ _ ?_)
  replace hP : zE P (zf_475 Z a1 a2) := hP
  unfold zf_475 at hP
  refine wz_br (i3To (rfl : i3 a2 = i3 a2) (by omega) (by omega)) (fun h1 => ?_) (fun h1 => ?_)
  · replace hP := zE_p hP h1
    refine wz_i0 (i3O (n := 4400) (i3A (i3A (show (1210 : Int32) = i3 1210 from rfl) (i3M (show (12 : Int32) = i3 12 from rfl) (rfl : i3 a1 = i3 a1))) (rfl : i3 a2 = i3 a2)) (by omega) (by omega) (by omega)) ?_
    have r2 := zM_f hZ 2 0 0 (1210 + 12 * a1 + a2)
    exact zlR hP (zm_rd (Z := Z) (ν := ν) (k := 2) (show ((0 : Nat) : Int) = 0 from rfl) (show ((0 : Nat) : Int) = 0 from rfl) (i3I (y := (1210 + 12 * a1 + a2)) (i3A (i3A (show (1210 : Int32) = i3 1210 from rfl) (i3M (show (12 : Int32) = i3 12 from rfl) (rfl : i3 a1 = i3 a1))) (rfl : i3 a2 = i3 a2)) (by omega) (by omega) (by omega))) ⟨by omega, by omega⟩
  · replace hP := zE_n hP h1
    refine wz_br (i3T (rfl : i3 a2 = i3 a2) (by omega) (by omega)) (fun h3 => ?_) (fun h3 => ?_)
    · replace hP := zE_p hP h3
      obtain ⟨v4, hv4, c9, lv4, uv4⟩ := sp_488 (ν := ν) hZ (a1 := a1) (by omega) (zbh (c := 0) (k := 0) hM (Nat.le_of_ble_eq_true rfl))
      replace hP := zl_e hP hv4
      refine wz_cI_of (zas (zcons rfl (zcons (zvi (rfl : i3 a1 = i3 a1)) rfl)) c9) ?_
      clear c9
      exact zlR hP (rfl : i3 v4 = i3 v4) ⟨by omega, by omega⟩
    · replace hP := zE_n hP h3
      refine wz_br (i3T (rfl : i3 a2 = i3 a2) (by omega) (by omega)) (fun h5 => ?_) (fun h5 => ?_)
      · replace hP := zE_p hP h5
        refine wz_i0 (i3O (n := 4400) (i3A (i3A (show (1210 : Int32) = i3 1210 from rfl) (i3M (show (12 : Int32) = i3 12 from rfl) (rfl : i3 a1 = i3 a1))) (show (6 : Int32) = i3 6 from rfl)) (by omega) (by omega) (by omega)) ?_
        have r6 := zM_dr hZ a1 (by omega) (zbh (c := 0) (k := 0) hM (Nat.le_of_ble_eq_true rfl))
        exact zlR hP (zm_rd (Z := Z) (ν := ν) (k := 2) (show ((0 : Nat) : Int) = 0 from rfl) (show ((0 : Nat) : Int) = 0 from rfl) (i3I (y := (1216 + 12 * a1)) (i3A (i3A (show (1210 : Int32) = i3 1210 from rfl) (i3M (show (12 : Int32) = i3 12 from rfl) (rfl : i3 a1 = i3 a1))) (show (6 : Int32) = i3 6 from rfl)) (by omega) (by omega) (by omega))) ⟨by omega, by omega⟩
      · replace hP := zE_n hP h5
        refine wz_br (i3T (rfl : i3 a2 = i3 a2) (by omega) (by omega)) (fun h7 => ?_) (fun h7 => ?_)
        · replace hP := zE_p hP h7
          refine wz_i0 (i3O (n := 4400) (i3A (i3A (show (1210 : Int32) = i3 1210 from rfl) (i3M (show (12 : Int32) = i3 12 from rfl) (rfl : i3 a1 = i3 a1))) (show (7 : Int32) = i3 7 from rfl)) (by omega) (by omega) (by omega)) ?_
          have r8 := zM_f hZ 2 0 0 (1217 + 12 * a1)
          exact zlR hP (zm_rd (Z := Z) (ν := ν) (k := 2) (show ((0 : Nat) : Int) = 0 from rfl) (show ((0 : Nat) : Int) = 0 from rfl) (i3I (y := (1217 + 12 * a1)) (i3A (i3A (show (1210 : Int32) = i3 1210 from rfl) (i3M (show (12 : Int32) = i3 12 from rfl) (rfl : i3 a1 = i3 a1))) (show (7 : Int32) = i3 7 from rfl)) (by omega) (by omega) (by omega))) ⟨by omega, by omega⟩
        · replace hP := zE_n hP h7
          refine wz_br (i3T (rfl : i3 a2 = i3 a2) (by omega) (by omega)) (fun h9 => ?_) (fun h9 => ?_)
          · replace hP := zE_p hP h9
            refine wz_i0 (i3O (n := 4400) (i3A (i3A (show (1210 : Int32) = i3 1210 from rfl) (i3M (show (12 : Int32) = i3 12 from rfl) (rfl : i3 a1 = i3 a1))) (show (8 : Int32) = i3 8 from rfl)) (by omega) (by omega) (by omega)) ?_
            have r10 := zM_f hZ 2 0 0 (1218 + 12 * a1)
            exact zlR hP (zm_rd (Z := Z) (ν := ν) (k := 2) (show ((0 : Nat) : Int) = 0 from rfl) (show ((0 : Nat) : Int) = 0 from rfl) (i3I (y := (1218 + 12 * a1)) (i3A (i3A (show (1210 : Int32) = i3 1210 from rfl) (i3M (show (12 : Int32) = i3 12 from rfl) (rfl : i3 a1 = i3 a1))) (show (8 : Int32) = i3 8 from rfl)) (by omega) (by omega) (by omega))) ⟨by omega, by omega⟩
          · replace hP := zE_n hP h9
            refine wz_i1 (Eq.trans (i3T (rfl : i3 a2 = i3 a2) (by omega) (by omega)) (decide_eq_true (by omega))) ?_
            obtain ⟨v11, hv11, c9, lv11, uv11⟩ := sp_390 (ν := ν) hZ (a1 := a1) (by omega) (zbh (c := 0) (k := 0) hM (Nat.le_of_ble_eq_true rfl))
            replace hP := zl_e hP hv11
            refine wz_cI_of (zas (zcons rfl (zcons (zvi (rfl : i3 a1 = i3 a1)) rfl)) c9) ?_
            clear c9
            refine wz_br (i3E (rfl : i3 v11 = i3 v11) (show (0 : Int32) = i3 0 from rfl) (by omega) (by omega) (by omega) (by omega)) (fun h12 => ?_) (fun h12 => ?_)
            · replace hP := zE_p hP h12
              exact zlR hP (show (-1 : Int32) = i3 (-1) from rfl) ⟨by omega, by omega⟩
            · replace hP := zE_n hP h12
              refine wz_i0 (i3O (n := 4400) (i3A (show (3510 : Int32) = i3 3510 from rfl) (rfl : i3 a1 = i3 a1)) (by omega) (by omega) (by omega)) ?_
              have r13 := zM_k hZ 2 0 0 (3510 + a1) (lo := 0) (hi := 695) (by decide) (zs_3509 (by omega) (by omega))
              exact zlR hP (zm_rd (Z := Z) (ν := ν) (k := 2) (show ((0 : Nat) : Int) = 0 from rfl) (show ((0 : Nat) : Int) = 0 from rfl) (i3I (y := (3510 + a1)) (i3A (show (3510 : Int32) = i3 3510 from rfl) (rfl : i3 a1 = i3 a1)) (by omega) (by omega) (by omega))) ⟨by omega, by omega⟩
/- yX12_kept -/
def zy_425 (Z : qz_Z) (a1 : Int) (a2 : Int) : qz_Z × Int := (if a1 < 0 then (zlet (zu Z 1 0 0 2 1) (fun Z5 => (Z5, 0))) else (if ((Z 2 0 0 1200) - 1) < a1 then (zlet (zu Z 1 0 0 2 1) (fun Z8 => (Z8, 0))) else (zlet (zu Z 1 0 0 2 0) (fun Z9 => (if a2 < 0 then (zlet (zu Z9 1 0 0 2 2) (fun Z11 => (Z11, 0))) else (if 10 < a2 then (zlet (zu Z9 1 0 0 2 2) (fun Z13 => (Z13, 0))) else (zlet (zu Z9 1 0 0 2 0) (fun Z14 => (zlet (zf_475 Z14 a1 a2) (fun v15 => (Z14, v15)))))))))))
theorem sy_425 {s : zSM} {Z : qz_Z} {ν : qz_N} (hZ : zM s Z) (gq : Z 1 0 0 35 = 0) (hM : s.2 + 0 ≤ 1000000000) {a1 : Int} (ga1 : -2147483648 ≤ a1 ∧ a1 ≤ 2147483647) {a2 : Int} (ga2 : -2147483648 ≤ a2 ∧ a2 ≤ 2147483647) {ν1 : qz_N} : ∃ (Z1 : qz_Z) (ν2 : qz_N) (v : Int), (Z1, v) = zy_425 Z a1 a2 ∧ (ν2 = ν ∨ ν2 = ν1) ∧ qf_425 [.inr (.inr (some (1, 0, 0))), .inl (i3 a1), .inl (i3 a2)] (zm Z ν) = some (zm Z1 ν2, .inl (some (.inl (i3 v)))) ∧ (fun Z1 => zM s Z1 ∧ zC [1] Z Z1 ∧ zU [] Z Z1) Z1 := by
  obtain ⟨P, hP⟩ := zx (zy_425 Z a1 a2)
  refine zc_Y (Q := fun Z1 => zM s Z1 ∧ zC [1] Z Z1 ∧ zU [] Z Z1) hP (fw_425 (i3 a1) (i3 a2) _ _ ?_)
  replace hP : zE P (zy_425 Z a1 a2) := hP
  unfold zy_425 at hP
  have r1 := zM_k hZ 1 0 0 35 (lo := 0) (hi := 1) (by decide) rfl
  have r2 := zM_k hZ 1 0 0 34 (lo := 0) (hi := 8) (by decide) rfl
  have r3 := zM_f hZ 1 0 0 37
  refine wz_br (i3L (rfl : i3 a1 = i3 a1) (show (0 : Int32) = i3 0 from rfl) (by omega) (by omega) (by omega) (by omega)) (fun h4 => ?_) (fun h4 => ?_)
  · replace hP := zE_p hP h4
    obtain ⟨Z5, hZ5⟩ := zx (zu Z 1 0 0 2 1)
    replace hP := zl_e hP hZ5
    have hZ5I := zM_u hZ hZ5 (lo := -2147483648) (hi := 2147483647) (by decide) rfl (by omega) ⟨by decide, by decide⟩ (Or.inr (by decide)) rfl
    have hZ5U : zU [] Z Z5 := zU_u zU_r hZ5 (Or.inl rfl)
    have hZ5K : zC [1] Z Z5 := zC_u zC_r hZ5 (by decide)
    intro μ9 e9
    replace e9 := e9.trans (zm_wI (Z := Z) (ν := ν) hZ5 (show ((0 : Nat) : Int) = 0 from rfl) (show ((0 : Nat) : Int) = 0 from rfl) (show ((2 : Nat) : Int) = 2 from rfl) (show (1 : Int32) = i3 1 from rfl))
    subst e9
    exact zlY hP (show (0 : Int32) = i3 0 from rfl) (.inl rfl) ⟨hZ5I, hZ5K, hZ5U⟩
  · replace hP := zE_n hP h4
    have r6 := zM_k hZ 2 0 0 1200 (lo := 0) (hi := 6) (by decide) rfl
    refine wz_br (i3L (i3S (zm_rd (Z := Z) (ν := ν) (k := 2) (show ((0 : Nat) : Int) = 0 from rfl) (show ((0 : Nat) : Int) = 0 from rfl) (show ((1200 : Nat) : Int) = 1200 from rfl)) (show (1 : Int32) = i3 1 from rfl)) (rfl : i3 a1 = i3 a1) (by omega) (by omega) (by omega) (by omega)) (fun h7 => ?_) (fun h7 => ?_)
    · replace hP := zE_p hP h7
      obtain ⟨Z8, hZ8⟩ := zx (zu Z 1 0 0 2 1)
      replace hP := zl_e hP hZ8
      have hZ8I := zM_u hZ hZ8 (lo := -2147483648) (hi := 2147483647) (by decide) rfl (by omega) ⟨by decide, by decide⟩ (Or.inr (by decide)) rfl
      have hZ8U : zU [] Z Z8 := zU_u zU_r hZ8 (Or.inl rfl)
      have hZ8K : zC [1] Z Z8 := zC_u zC_r hZ8 (by decide)
      intro μ9 e9
      replace e9 := e9.trans (zm_wI (Z := Z) (ν := ν) hZ8 (show ((0 : Nat) : Int) = 0 from rfl) (show ((0 : Nat) : Int) = 0 from rfl) (show ((2 : Nat) : Int) = 2 from rfl) (show (1 : Int32) = i3 1 from rfl))
      subst e9
      exact zlY hP (show (0 : Int32) = i3 0 from rfl) (.inl rfl) ⟨hZ8I, hZ8K, hZ8U⟩
    · replace hP := zE_n hP h7
      obtain ⟨Z9, hZ9⟩ := zx (zu Z 1 0 0 2 0)
      replace hP := zl_e hP hZ9
      have hZ9I := zM_0 hZ hZ9 (by decide) (Or.inr (by decide))
      have hZ9U : zU [] Z Z9 := zU_u zU_r hZ9 (Or.inl rfl)
      have hZ9K : zC [1] Z Z9 := zC_u zC_r hZ9 (by decide)
      intro μ9 e9
      replace e9 := e9.trans (zm_wI (Z := Z) (ν := ν) hZ9 (show ((0 : Nat) : Int) = 0 from rfl) (show ((0 : Nat) : Int) = 0 from rfl) (show ((2 : Nat) : Int) = 2 from rfl) (show (0 : Int32) = i3 0 from rfl))
      subst e9
      refine wz_br (i3L (rfl : i3 a2 = i3 a2) (show (0 : Int32) = i3 0 from rfl) (by omega) (by omega) (by omega) (by omega)) (fun h10 => ?_) (fun h10 => ?_)
      · replace hP := zE_p hP h10
        obtain ⟨Z11, hZ11⟩ := zx (zu Z9 1 0 0 2 2)
        replace hP := zl_e hP hZ11
        have hZ11I := zM_u hZ9I hZ11 (lo := -2147483648) (hi := 2147483647) (by decide) rfl (by omega) ⟨by decide, by decide⟩ (Or.inr (by decide)) rfl
        have hZ11U : zU [] Z Z11 := zU_u hZ9U hZ11 (Or.inl rfl)
        have hZ11K : zC [1] Z Z11 := zC_u hZ9K hZ11 (by decide)
        intro μ9 e9
        replace e9 := e9.trans (zm_wI (Z := Z9) (ν := ν) hZ11 (show ((0 : Nat) : Int) = 0 from rfl) (show ((0 : Nat) : Int) = 0 from rfl) (show ((2 : Nat) : Int) = 2 from rfl) (show (2 : Int32) = i3 2 from rfl))
        subst e9
        exact zlY hP (show (0 : Int32) = i3 0 from rfl) (.inl rfl) ⟨hZ11I, hZ11K, hZ11U⟩
      · replace hP := zE_n hP h10
        refine wz_br (i3L (show (10 : Int32) = i3 10 from rfl) (rfl : i3 a2 = i3 a2) (by omega) (by omega) (by omega) (by omega)) (fun h12 => ?_) (fun h12 => ?_)
        · replace hP := zE_p hP h12
          obtain ⟨Z13, hZ13⟩ := zx (zu Z9 1 0 0 2 2)
          replace hP := zl_e hP hZ13
          have hZ13I := zM_u hZ9I hZ13 (lo := -2147483648) (hi := 2147483647) (by decide) rfl (by omega) ⟨by decide, by decide⟩ (Or.inr (by decide)) rfl
          have hZ13U : zU [] Z Z13 := zU_u hZ9U hZ13 (Or.inl rfl)
          have hZ13K : zC [1] Z Z13 := zC_u hZ9K hZ13 (by decide)
          intro μ9 e9
          replace e9 := e9.trans (zm_wI (Z := Z9) (ν := ν) hZ13 (show ((0 : Nat) : Int) = 0 from rfl) (show ((0 : Nat) : Int) = 0 from rfl) (show ((2 : Nat) : Int) = 2 from rfl) (show (2 : Int32) = i3 2 from rfl))
          subst e9
          exact zlY hP (show (0 : Int32) = i3 0 from rfl) (.inl rfl) ⟨hZ13I, hZ13K, hZ13U⟩
        · replace hP := zE_n hP h12
          obtain ⟨Z14, hZ14⟩ := zx (zu Z9 1 0 0 2 0)
          replace hP := zl_e hP hZ14
          have hZ14I := zM_0 hZ9I hZ14 (by decide) (Or.inr (by decide))
          have hZ14U : zU [] Z Z14 := zU_u hZ9U hZ14 (Or.inl rfl)
          have hZ14K : zC [1] Z Z14 := zC_u hZ9K hZ14 (by decide)
          intro μ9 e9
          replace e9 := e9.trans (zm_wI (Z := Z9) (ν := ν) hZ14 (show ((0 : Nat) : Int) = 0 from rfl) (show ((0 : Nat) : Int) = 0 from rfl) (show ((2 : Nat) : Int) = 2 from rfl) (show (0 : Int32) = i3 0 from rfl))
          subst e9
          obtain ⟨v15, hv15, c9, lv15, uv15⟩ := sp_475 (ν := ν) hZ14I (a1 := a1) (by omega) (a2 := a2) (by omega) (zbh (c := 0) (k := 0) hM (Nat.le_of_ble_eq_true rfl))
          replace hP := zl_e hP hv15
          refine wz_cI_of (zas (zcons rfl (zcons (zvi (rfl : i3 a1 = i3 a1)) (zcons (zvi (rfl : i3 a2 = i3 a2)) rfl))) c9) ?_
          clear c9
          exact zlY hP (rfl : i3 v15 = i3 v15) (.inl rfl) ⟨hZ14I, hZ14K, hZ14U⟩
/- yX12_mayLoad -/
def zf_437 (Z : qz_Z) (a1 : Int) (a2 : Int) : Int := (if (Z 2 0 0 (2019 + 16 * a1)) ≠ 0 then 0 else (zlet (zf_390 Z (Z 2 0 0 (211 + 20 * (Z 2 0 0 (2010 + 16 * a1))))) (fun v8 => (if v8 ≠ 0 then 0 else (if (Z 2 0 0 (3252 + 24 * a2)) ≠ 1 then (zlet (zf_518 Z a2 1) (fun v12 => (if (Z 2 0 0 (3250 + 24 * a2)) < (w3 (v12 + (Z 2 0 0 (2013 + 16 * a1)))) then 0 else (zlet (zf_518 Z a2 0) (fun v19 => (if v19 ≤ 0 then (zlet (zf_508 Z) (fun v21 => (if (Z 2 0 0 3201) ≤ v21 then 0 else 1))) else 1)))))) else 0)))))
theorem sp_437 {s : zSM} {Z : qz_Z} {ν : qz_N} (hZ : zM s Z) {a1 : Int} (ga1 : 0 ≤ a1 ∧ a1 ≤ 59) {a2 : Int} (ga2 : 0 ≤ a2 ∧ a2 ≤ 3) (hM : s.2 + 0 ≤ 1000000000) : ∃ P : Int, P = zf_437 Z a1 a2 ∧ (qf_437 [.inr (.inr (some (1, 0, 0))), .inl (i3 a1), .inl (i3 a2)] (zm Z ν) = some (zm Z ν, .inl (some (.inl (i3 P)))) ∧ 0 ≤ P ∧ P ≤ 1) := by
  obtain ⟨P, hP⟩ := zx (zf_437 Z a1 a2)
  refine zc_R (Q := fun P => 0 ≤ P ∧ P ≤ 1) hP (fw_437 (i3 a1) (i3 a2) _ _ ?_)
  replace hP : zE P (zf_437 Z a1 a2) := hP
  unfold zf_437 at hP
  refine wz_i0 (i3O (n := 4400) (i3A (i3A (show (2010 : Int32) = i3 2010 from rfl) (i3M (show (16 : Int32) = i3 16 from rfl) (rfl : i3 a1 = i3 a1))) (show (9 : Int32) = i3 9 from rfl)) (by omega) (by omega) (by omega)) ?_
  have r1 := zM_k hZ 2 0 0 (2019 + 16 * a1) (lo := 0) (hi := 3) (by decide) (zs_2010_9 (x := a1) (by omega) (by omega) (by omega))
  have r2 := zM_lt2 hZ a1
  refine wz_br (i3NE (zm_rd (Z := Z) (ν := ν) (k := 2) (show ((0 : Nat) : Int) = 0 from rfl) (show ((0 : Nat) : Int) = 0 from rfl) (i3I (y := (2019 + 16 * a1)) (i3A (i3A (show (2010 : Int32) = i3 2010 from rfl) (i3M (show (16 : Int32) = i3 16 from rfl) (rfl : i3 a1 = i3 a1))) (show (9 : Int32) = i3 9 from rfl)) (by omega) (by omega) (by omega))) (show (0 : Int32) = i3 0 from rfl) (by omega) (by omega) (by omega) (by omega)) (fun h3 => ?_) (fun h3 => ?_)
  · replace hP := zE_p hP h3
    exact zlR hP (show (0 : Int32) = i3 0 from rfl) ⟨by omega, by omega⟩
  · replace hP := zE_n hP h3
    refine wz_i0 (i3O (n := 4400) (i3A (i3A (show (2010 : Int32) = i3 2010 from rfl) (i3M (show (16 : Int32) = i3 16 from rfl) (rfl : i3 a1 = i3 a1))) (show (0 : Int32) = i3 0 from rfl)) (by omega) (by omega) (by omega)) ?_
    have r4 := zM_k hZ 2 0 0 (2010 + 16 * a1) (lo := 0) (hi := 47) (by decide) (zs_2010_0 (x := a1) (by omega) (by omega) (by omega))
    refine wz_i0 (i3O (n := 4400) (i3A (i3A (show (200 : Int32) = i3 200 from rfl) (i3M (show (20 : Int32) = i3 20 from rfl) (zm_rd (Z := Z) (ν := ν) (k := 2) (show ((0 : Nat) : Int) = 0 from rfl) (show ((0 : Nat) : Int) = 0 from rfl) (i3I (y := (2010 + 16 * a1)) (i3A (i3A (show (2010 : Int32) = i3 2010 from rfl) (i3M (show (16 : Int32) = i3 16 from rfl) (rfl : i3 a1 = i3 a1))) (show (0 : Int32) = i3 0 from rfl)) (by omega) (by omega) (by omega))))) (show (11 : Int32) = i3 11 from rfl)) (by omega) (by omega) (by omega)) ?_
    have r5 := zM_k hZ 2 0 0 (211 + 20 * (Z 2 0 0 (2010 + 16 * a1))) (lo := -1) (hi := 6) (by decide) (zs_200_11 (x := (Z 2 0 0 (2010 + 16 * a1))) (by omega) (by omega) (by omega))
    have r6 := zM_pl hZ (Z 2 0 0 (2010 + 16 * a1))
    have r7 := zM_k hZ 2 0 0 102 (lo := 0) (hi := 48) (by decide) rfl
    obtain ⟨v8, hv8, c9, lv8, uv8⟩ := sp_390 (ν := ν) hZ (a1 := (Z 2 0 0 (211 + 20 * (Z 2 0 0 (2010 + 16 * a1))))) (by omega) (zbh (c := 0) (k := 0) hM (Nat.le_of_ble_eq_true rfl))
    replace hP := zl_e hP hv8
    refine wz_cI_of (zas (zcons rfl (zcons (zvi (zm_rd (Z := Z) (ν := ν) (k := 2) (show ((0 : Nat) : Int) = 0 from rfl) (show ((0 : Nat) : Int) = 0 from rfl) (i3I (y := (211 + 20 * (Z 2 0 0 (2010 + 16 * a1)))) (i3A (i3A (show (200 : Int32) = i3 200 from rfl) (i3M (show (20 : Int32) = i3 20 from rfl) (zm_rd (Z := Z) (ν := ν) (k := 2) (show ((0 : Nat) : Int) = 0 from rfl) (show ((0 : Nat) : Int) = 0 from rfl) (i3I (y := (2010 + 16 * a1)) (i3A (i3A (show (2010 : Int32) = i3 2010 from rfl) (i3M (show (16 : Int32) = i3 16 from rfl) (rfl : i3 a1 = i3 a1))) (show (0 : Int32) = i3 0 from rfl)) (by omega) (by omega) (by omega))))) (show (11 : Int32) = i3 11 from rfl)) (by omega) (by omega) (by omega)))) rfl)) c9) ?_
    clear c9
    refine wz_br (i3NE (rfl : i3 v8 = i3 v8) (show (0 : Int32) = i3 0 from rfl) (by omega) (by omega) (by omega) (by omega)) (fun h9 => ?_) (fun h9 => ?_)
    · replace hP := zE_p hP h9
      exact zlR hP (show (0 : Int32) = i3 0 from rfl) ⟨by omega, by omega⟩
    · replace hP := zE_n hP h9
      refine wz_i0 (i3O (n := 4400) (i3A (i3A (show (3250 : Int32) = i3 3250 from rfl) (i3M (show (24 : Int32) = i3 24 from rfl) (rfl : i3 a2 = i3 a2))) (show (2 : Int32) = i3 2 from rfl)) (by omega) (by omega) (by omega)) ?_
      have r10 := zM_k hZ 2 0 0 (3252 + 24 * a2) (lo := 0) (hi := 1) (by decide) (zs_3250_2 (x := a2) (by omega) (by omega) (by omega))
      refine wz_br (i3NE (zm_rd (Z := Z) (ν := ν) (k := 2) (show ((0 : Nat) : Int) = 0 from rfl) (show ((0 : Nat) : Int) = 0 from rfl) (i3I (y := (3252 + 24 * a2)) (i3A (i3A (show (3250 : Int32) = i3 3250 from rfl) (i3M (show (24 : Int32) = i3 24 from rfl) (rfl : i3 a2 = i3 a2))) (show (2 : Int32) = i3 2 from rfl)) (by omega) (by omega) (by omega))) (show (1 : Int32) = i3 1 from rfl) (by omega) (by omega) (by omega) (by omega)) (fun h11 => ?_) (fun h11 => ?_)
      · replace hP := zE_p hP h11
        obtain ⟨v12, hv12, c9, lv12, uv12⟩ := sp_518 (ν := ν) hZ (a1 := a2) (by omega) (a2 := 1) (by omega) (zbh (c := 0) (k := 0) hM (Nat.le_of_ble_eq_true rfl))
        replace hP := zl_e hP hv12
        refine wz_cI_of (zas (zcons rfl (zcons (zvi (rfl : i3 a2 = i3 a2)) (zcons (zvi (show (1 : Int32) = i3 1 from rfl)) rfl))) c9) ?_
        clear c9
        refine wz_i0 (i3O (n := 4400) (i3A (i3A (show (2010 : Int32) = i3 2010 from rfl) (i3M (show (16 : Int32) = i3 16 from rfl) (rfl : i3 a1 = i3 a1))) (show (3 : Int32) = i3 3 from rfl)) (by omega) (by omega) (by omega)) ?_
        refine wz_i0 (i3O (n := 4400) (i3A (i3A (show (3250 : Int32) = i3 3250 from rfl) (i3M (show (24 : Int32) = i3 24 from rfl) (rfl : i3 a2 = i3 a2))) (show (0 : Int32) = i3 0 from rfl)) (by omega) (by omega) (by omega)) ?_
        have r13 := zM_k hZ 2 0 0 (3250 + 24 * a2) (lo := 0) (hi := 99) (by decide) (zs_3250_0 (x := a2) (by omega) (by omega) (by omega))
        have r14 := zM_k hZ 2 0 0 (2013 + 16 * a1) (lo := 0) (hi := 40) (by decide) (zs_2010_3 (x := a1) (by omega) (by omega) (by omega))
        have r15 := zM_cr hZ a1
        have r16 := zM_k hZ 2 0 0 2000 (lo := 0) (hi := 60) (by decide) rfl
        have r17 := w3_r (v12 + (Z 2 0 0 (2013 + 16 * a1)))
        refine wz_br (i3L (zm_rd (Z := Z) (ν := ν) (k := 2) (show ((0 : Nat) : Int) = 0 from rfl) (show ((0 : Nat) : Int) = 0 from rfl) (i3I (y := (3250 + 24 * a2)) (i3A (i3A (show (3250 : Int32) = i3 3250 from rfl) (i3M (show (24 : Int32) = i3 24 from rfl) (rfl : i3 a2 = i3 a2))) (show (0 : Int32) = i3 0 from rfl)) (by omega) (by omega) (by omega))) (i3W (i3A (rfl : i3 v12 = i3 v12) (zm_rd (Z := Z) (ν := ν) (k := 2) (show ((0 : Nat) : Int) = 0 from rfl) (show ((0 : Nat) : Int) = 0 from rfl) (i3I (y := (2013 + 16 * a1)) (i3A (i3A (show (2010 : Int32) = i3 2010 from rfl) (i3M (show (16 : Int32) = i3 16 from rfl) (rfl : i3 a1 = i3 a1))) (show (3 : Int32) = i3 3 from rfl)) (by omega) (by omega) (by omega))))) (by omega) (by omega) (by omega) (by omega)) (fun h18 => ?_) (fun h18 => ?_)
        · replace hP := zE_p hP h18
          exact zlR hP (show (0 : Int32) = i3 0 from rfl) ⟨by omega, by omega⟩
        · replace hP := zE_n hP h18
          refine wz_i0 (i3O (n := 4400) (i3A (i3A (show (3250 : Int32) = i3 3250 from rfl) (i3M (show (24 : Int32) = i3 24 from rfl) (rfl : i3 a2 = i3 a2))) (show (2 : Int32) = i3 2 from rfl)) (by omega) (by omega) (by omega)) ?_
          refine wz_i1 (Eq.trans (i3NE (zm_rd (Z := Z) (ν := ν) (k := 2) (show ((0 : Nat) : Int) = 0 from rfl) (show ((0 : Nat) : Int) = 0 from rfl) (i3I (y := (3252 + 24 * a2)) (i3A (i3A (show (3250 : Int32) = i3 3250 from rfl) (i3M (show (24 : Int32) = i3 24 from rfl) (rfl : i3 a2 = i3 a2))) (show (2 : Int32) = i3 2 from rfl)) (by omega) (by omega) (by omega))) (show (1 : Int32) = i3 1 from rfl) (by omega) (by omega) (by omega) (by omega)) (decide_eq_true (by omega))) ?_
          obtain ⟨v19, hv19, c9, lv19, uv19⟩ := sp_518 (ν := ν) hZ (a1 := a2) (by omega) (a2 := 0) (by omega) (zbh (c := 0) (k := 0) hM (Nat.le_of_ble_eq_true rfl))
          replace hP := zl_e hP hv19
          refine wz_cI_of (zas (zcons rfl (zcons (zvi (rfl : i3 a2 = i3 a2)) (zcons (zvi (show (0 : Int32) = i3 0 from rfl)) rfl))) c9) ?_
          clear c9
          refine wz_br (i3Le (rfl : i3 v19 = i3 v19) (show (0 : Int32) = i3 0 from rfl) (by omega) (by omega) (by omega) (by omega)) (fun h20 => ?_) (fun h20 => ?_)
          · replace hP := zE_p hP h20
            obtain ⟨v21, hv21, c9, lv21, uv21⟩ := sp_508 (ν := ν) hZ (zbh (c := 0) (k := 0) hM (Nat.le_of_ble_eq_true rfl))
            replace hP := zl_e hP hv21
            refine wz_cI_of (zas (zcons rfl rfl) c9) ?_
            clear c9
            have r22 := zM_k hZ 2 0 0 3201 (lo := 0) (hi := 4) (by decide) rfl
            refine wz_br (i3Le (zm_rd (Z := Z) (ν := ν) (k := 2) (show ((0 : Nat) : Int) = 0 from rfl) (show ((0 : Nat) : Int) = 0 from rfl) (show ((3201 : Nat) : Int) = 3201 from rfl)) (rfl : i3 v21 = i3 v21) (by omega) (by omega) (by omega) (by omega)) (fun h23 => ?_) (fun h23 => ?_)
            · replace hP := zE_p hP h23
              exact zlR hP (show (0 : Int32) = i3 0 from rfl) ⟨by omega, by omega⟩
            · replace hP := zE_n hP h23
              exact zlR hP (show (1 : Int32) = i3 1 from rfl) ⟨by omega, by omega⟩
          · replace hP := zE_n hP h20
            exact zlR hP (show (1 : Int32) = i3 1 from rfl) ⟨by omega, by omega⟩
      · replace hP := zE_n hP h11
        exact zlR hP (show (0 : Int32) = i3 0 from rfl) ⟨by omega, by omega⟩
