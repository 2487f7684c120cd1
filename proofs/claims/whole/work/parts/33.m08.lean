/- yX12_sort -/
def zy_503 (Z : qz_Z) (dm : qz_Z → Int → Int → Int → Int → Int → Int → Int → qz_Z) (a1 : Int) (a2 : Int) (a3 : Int) (a4 : Int) (a5 : Int) : qz_Z × Int := (if a1 < 1 then (zlet (zu Z 1 0 0 2 1) (fun Z5 => (Z5, 0))) else (if 9 < a1 then (zlet (zu Z 1 0 0 2 1) (fun Z7 => (Z7, 0))) else (if a2 < 0 then (zlet (zu Z 1 0 0 2 1) (fun Z9 => (Z9, 0))) else (if 12 < a2 then (zlet (zu Z 1 0 0 2 1) (fun Z11 => (Z11, 0))) else (if a3 < 0 then (zlet (zu Z 1 0 0 2 1) (fun Z13 => (Z13, 0))) else (if 12 < a3 then (zlet (zu Z 1 0 0 2 1) (fun Z15 => (Z15, 0))) else (if a4 < 100 then (zlet (zu Z 1 0 0 2 1) (fun Z17 => (Z17, 0))) else (if 600 < a4 then (zlet (zu Z 1 0 0 2 1) (fun Z19 => (Z19, 0))) else (if a5 < 10 then (zlet (zu Z 1 0 0 2 1) (fun Z21 => (Z21, 0))) else (if 99 < a5 then (zlet (zu Z 1 0 0 2 1) (fun Z23 => (Z23, 0))) else (zlet (zu Z 1 0 0 2 0) (fun Z24 => (if 5 ≤ (Z24 2 0 0 100) then (zlet (zu Z24 1 0 0 2 2) (fun Z27 => (Z27, 0))) else (zlet (zu Z24 1 0 0 2 0) (fun Z28 => (zlet (dm Z28 1 a1 a2 a3 a4 a5 0) (fun Z35 => (zlet (zu Z35 2 0 0 (110 + 5 * (Z35 2 0 0 100)) a1) (fun Z38 => (zlet (zu Z38 2 0 0 (111 + 5 * (Z35 2 0 0 100)) a2) (fun Z39 => (zlet (zu Z39 2 0 0 (112 + 5 * (Z35 2 0 0 100)) a3) (fun Z40 => (zlet (zu Z40 2 0 0 (113 + 5 * (Z35 2 0 0 100)) a4) (fun Z41 => (zlet (zu Z41 2 0 0 (114 + 5 * (Z35 2 0 0 100)) a5) (fun Z42 => (zlet (zu Z42 2 0 0 100 ((Z42 2 0 0 100) + 1)) (fun Z45 => (Z45, (Z35 2 0 0 100)))))))))))))))))))))))))))))))
theorem sy_503 {s : zSM} {Z : qz_Z} {ν : qz_N} (hZ : zM s Z) (gq : Z 1 0 0 35 = 0) (hM : s.2 + 0 ≤ 1000000000) {a1 : Int} (ga1 : -2147483648 ≤ a1 ∧ a1 ≤ 2147483647) {a2 : Int} (ga2 : -2147483648 ≤ a2 ∧ a2 ≤ 2147483647) {a3 : Int} (ga3 : -2147483648 ≤ a3 ∧ a3 ≤ 2147483647) {a4 : Int} (ga4 : -2147483648 ≤ a4 ∧ a4 ≤ 2147483647) {a5 : Int} (ga5 : -2147483648 ≤ a5 ∧ a5 ≤ 2147483647) {dk : qz_Z → qz_Z} {dm : qz_Z → Int → Int → Int → Int → Int → Int → Int → qz_Z} {ν1 : qz_N} (hdm : zDm s ν ν1 Z dk dm) : ∃ (Z1 : qz_Z) (ν2 : qz_N) (v : Int), (Z1, v) = zy_503 Z dm a1 a2 a3 a4 a5 ∧ (ν2 = ν ∨ ν2 = ν1) ∧ qf_503 [.inr (.inr (some (1, 0, 0))), .inl (i3 a1), .inl (i3 a2), .inl (i3 a3), .inl (i3 a4), .inl (i3 a5)] (zm Z ν) = some (zm Z1 ν2, .inl (some (.inl (i3 v)))) ∧ (fun Z1 => zM s Z1 ∧ zC [1, 2, 101, 102, 200] Z Z1 ∧ zU [] Z Z1) Z1 := by
  obtain ⟨P, hP⟩ := zx (zy_503 Z dm a1 a2 a3 a4 a5)
  refine zc_Y (Q := fun Z1 => zM s Z1 ∧ zC [1, 2, 101, 102, 200] Z Z1 ∧ zU [] Z Z1) hP (fw_503 (i3 a1) (i3 a2) (i3 a3) (i3 a4) (i3 a5) _ _ ?_)
  replace hP : zE P (zy_503 Z dm a1 a2 a3 a4 a5) := hP
  unfold zy_503 at hP
  have r1 := zM_k hZ 1 0 0 35 (lo := 0) (hi := 1) (by decide) rfl
  have r2 := zM_k hZ 1 0 0 34 (lo := 0) (hi := 8) (by decide) rfl
  have r3 := zM_f hZ 1 0 0 37
  refine wz_br (i3L (rfl : i3 a1 = i3 a1) (show (1 : Int32) = i3 1 from rfl) (by omega) (by omega) (by omega) (by omega)) (fun h4 => ?_) (fun h4 => ?_)
  · replace hP := zE_p hP h4
    obtain ⟨Z5, hZ5⟩ := zx (zu Z 1 0 0 2 1)
    replace hP := zl_e hP hZ5
    have hZ5I := zM_u hZ hZ5 (lo := -2147483648) (hi := 2147483647) (by decide) rfl (by omega) ⟨by decide, by decide⟩ (Or.inr (by decide)) rfl
    have hZ5U : zU [] Z Z5 := zU_u zU_r hZ5 (Or.inl rfl)
    have hZ5K : zC [1, 2, 101, 102, 200] Z Z5 := zC_u zC_r hZ5 (by decide)
    intro μ9 e9
    replace e9 := e9.trans (zm_wI (Z := Z) (ν := ν) hZ5 (show ((0 : Nat) : Int) = 0 from rfl) (show ((0 : Nat) : Int) = 0 from rfl) (show ((2 : Nat) : Int) = 2 from rfl) (show (1 : Int32) = i3 1 from rfl))
    subst e9
    exact zlY hP (show (0 : Int32) = i3 0 from rfl) (.inl rfl) ⟨hZ5I, hZ5K, hZ5U⟩
  · replace hP := zE_n hP h4
    refine wz_br (i3L (show (9 : Int32) = i3 9 from rfl) (rfl : i3 a1 = i3 a1) (by omega) (by omega) (by omega) (by omega)) (fun h6 => ?_) (fun h6 => ?_)
    · replace hP := zE_p hP h6
      obtain ⟨Z7, hZ7⟩ := zx (zu Z 1 0 0 2 1)
      replace hP := zl_e hP hZ7
      have hZ7I := zM_u hZ hZ7 (lo := -2147483648) (hi := 2147483647) (by decide) rfl (by omega) ⟨by decide, by decide⟩ (Or.inr (by decide)) rfl
      have hZ7U : zU [] Z Z7 := zU_u zU_r hZ7 (Or.inl rfl)
      have hZ7K : zC [1, 2, 101, 102, 200] Z Z7 := zC_u zC_r hZ7 (by decide)
      intro μ9 e9
      replace e9 := e9.trans (zm_wI (Z := Z) (ν := ν) hZ7 (show ((0 : Nat) : Int) = 0 from rfl) (show ((0 : Nat) : Int) = 0 from rfl) (show ((2 : Nat) : Int) = 2 from rfl) (show (1 : Int32) = i3 1 from rfl))
      subst e9
      exact zlY hP (show (0 : Int32) = i3 0 from rfl) (.inl rfl) ⟨hZ7I, hZ7K, hZ7U⟩
    · replace hP := zE_n hP h6
      refine wz_br (i3L (rfl : i3 a2 = i3 a2) (show (0 : Int32) = i3 0 from rfl) (by omega) (by omega) (by omega) (by omega)) (fun h8 => ?_) (fun h8 => ?_)
      · replace hP := zE_p hP h8
        obtain ⟨Z9, hZ9⟩ := zx (zu Z 1 0 0 2 1)
        replace hP := zl_e hP hZ9
        have hZ9I := zM_u hZ hZ9 (lo := -2147483648) (hi := 2147483647) (by decide) rfl (by omega) ⟨by decide, by decide⟩ (Or.inr (by decide)) rfl
        have hZ9U : zU [] Z Z9 := zU_u zU_r hZ9 (Or.inl rfl)
        have hZ9K : zC [1, 2, 101, 102, 200] Z Z9 := zC_u zC_r hZ9 (by decide)
        intro μ9 e9
        replace e9 := e9.trans (zm_wI (Z := Z) (ν := ν) hZ9 (show ((0 : Nat) : Int) = 0 from rfl) (show ((0 : Nat) : Int) = 0 from rfl) (show ((2 : Nat) : Int) = 2 from rfl) (show (1 : Int32) = i3 1 from rfl))
        subst e9
        exact zlY hP (show (0 : Int32) = i3 0 from rfl) (.inl rfl) ⟨hZ9I, hZ9K, hZ9U⟩
      · replace hP := zE_n hP h8
        refine wz_br (i3L (show (12 : Int32) = i3 12 from rfl) (rfl : i3 a2 = i3 a2) (by omega) (by omega) (by omega) (by omega)) (fun h10 => ?_) (fun h10 => ?_)
        · replace hP := zE_p hP h10
          obtain ⟨Z11, hZ11⟩ := zx (zu Z 1 0 0 2 1)
          replace hP := zl_e hP hZ11
          have hZ11I := zM_u hZ hZ11 (lo := -2147483648) (hi := 2147483647) (by decide) rfl (by omega) ⟨by decide, by decide⟩ (Or.inr (by decide)) rfl
          have hZ11U : zU [] Z Z11 := zU_u zU_r hZ11 (Or.inl rfl)
          have hZ11K : zC [1, 2, 101, 102, 200] Z Z11 := zC_u zC_r hZ11 (by decide)
          intro μ9 e9
          replace e9 := e9.trans (zm_wI (Z := Z) (ν := ν) hZ11 (show ((0 : Nat) : Int) = 0 from rfl) (show ((0 : Nat) : Int) = 0 from rfl) (show ((2 : Nat) : Int) = 2 from rfl) (show (1 : Int32) = i3 1 from rfl))
          subst e9
          exact zlY hP (show (0 : Int32) = i3 0 from rfl) (.inl rfl) ⟨hZ11I, hZ11K, hZ11U⟩
        · replace hP := zE_n hP h10
          refine wz_br (i3L (rfl : i3 a3 = i3 a3) (show (0 : Int32) = i3 0 from rfl) (by omega) (by omega) (by omega) (by omega)) (fun h12 => ?_) (fun h12 => ?_)
          · replace hP := zE_p hP h12
            obtain ⟨Z13, hZ13⟩ := zx (zu Z 1 0 0 2 1)
            replace hP := zl_e hP hZ13
            have hZ13I := zM_u hZ hZ13 (lo := -2147483648) (hi := 2147483647) (by decide) rfl (by omega) ⟨by decide, by decide⟩ (Or.inr (by decide)) rfl
            have hZ13U : zU [] Z Z13 := zU_u zU_r hZ13 (Or.inl rfl)
            have hZ13K : zC [1, 2, 101, 102, 200] Z Z13 := zC_u zC_r hZ13 (by decide)
            intro μ9 e9
            replace e9 := e9.trans (zm_wI (Z := Z) (ν := ν) hZ13 (show ((0 : Nat) : Int) = 0 from rfl) (show ((0 : Nat) : Int) = 0 from rfl) (show ((2 : Nat) : Int) = 2 from rfl) (show (1 : Int32) = i3 1 from rfl))
            subst e9
            exact zlY hP (show (0 : Int32) = i3 0 from rfl) (.inl rfl) ⟨hZ13I, hZ13K, hZ13U⟩
          · replace hP := zE_n hP h12
            refine wz_br (i3L (show (12 : Int32) = i3 12 from rfl) (rfl : i3 a3 = i3 a3) (by omega) (by omega) (by omega) (by omega)) (fun h14 => ?_) (fun h14 => ?_)
            · replace hP := zE_p hP h14
              obtain ⟨Z15, hZ15⟩ := zx (zu Z 1 0 0 2 1)
              replace hP := zl_e hP hZ15
              have hZ15I := zM_u hZ hZ15 (lo := -2147483648) (hi := 2147483647) (by decide) rfl (by omega) ⟨by decide, by decide⟩ (Or.inr (by decide)) rfl
              have hZ15U : zU [] Z Z15 := zU_u zU_r hZ15 (Or.inl rfl)
              have hZ15K : zC [1, 2, 101, 102, 200] Z Z15 := zC_u zC_r hZ15 (by decide)
              intro μ9 e9
              replace e9 := e9.trans (zm_wI (Z := Z) (ν := ν) hZ15 (show ((0 : Nat) : Int) = 0 from rfl) (show ((0 : Nat) : Int) = 0 from rfl) (show ((2 : Nat) : Int) = 2 from rfl) (show (1 : Int32) = i3 1 from rfl))
              subst e9
              exact zlY hP (show (0 : Int32) = i3 0 from rfl) (.inl rfl) ⟨hZ15I, hZ15K, hZ15U⟩
            · replace hP := zE_n hP h14
              refine wz_br (i3L (rfl : i3 a4 = i3 a4) (show (100 : Int32) = i3 100 from rfl) (by omega) (by omega) (by omega) (by omega)) (fun h16 => ?_) (fun h16 => ?_)
              · replace hP := zE_p hP h16
                obtain ⟨Z17, hZ17⟩ := zx (zu Z 1 0 0 2 1)
                replace hP := zl_e hP hZ17
                have hZ17I := zM_u hZ hZ17 (lo := -2147483648) (hi := 2147483647) (by decide) rfl (by omega) ⟨by decide, by decide⟩ (Or.inr (by decide)) rfl
                have hZ17U : zU [] Z Z17 := zU_u zU_r hZ17 (Or.inl rfl)
                have hZ17K : zC [1, 2, 101, 102, 200] Z Z17 := zC_u zC_r hZ17 (by decide)
                intro μ9 e9
                replace e9 := e9.trans (zm_wI (Z := Z) (ν := ν) hZ17 (show ((0 : Nat) : Int) = 0 from rfl) (show ((0 : Nat) : Int) = 0 from rfl) (show ((2 : Nat) : Int) = 2 from rfl) (show (1 : Int32) = i3 1 from rfl))
                subst e9
                exact zlY hP (show (0 : Int32) = i3 0 from rfl) (.inl rfl) ⟨hZ17I, hZ17K, hZ17U⟩
              · replace hP := zE_n hP h16
                refine wz_br (i3L (show (600 : Int32) = i3 600 from rfl) (rfl : i3 a4 = i3 a4) (by omega) (by omega) (by omega) (by omega)) (fun h18 => ?_) (fun h18 => ?_)
                · replace hP := zE_p hP h18
                  obtain ⟨Z19, hZ19⟩ := zx (zu Z 1 0 0 2 1)
                  replace hP := zl_e hP hZ19
                  have hZ19I := zM_u hZ hZ19 (lo := -2147483648) (hi := 2147483647) (by decide) rfl (by omega) ⟨by decide, by decide⟩ (Or.inr (by decide)) rfl
                  have hZ19U : zU [] Z Z19 := zU_u zU_r hZ19 (Or.inl rfl)
                  have hZ19K : zC [1, 2, 101, 102, 200] Z Z19 := zC_u zC_r hZ19 (by decide)
                  intro μ9 e9
                  replace e9 := e9.trans (zm_wI (Z := Z) (ν := ν) hZ19 (show ((0 : Nat) : Int) = 0 from rfl) (show ((0 : Nat) : Int) = 0 from rfl) (show ((2 : Nat) : Int) = 2 from rfl) (show (1 : Int32) = i3 1 from rfl))
                  subst e9
                  exact zlY hP (show (0 : Int32) = i3 0 from rfl) (.inl rfl) ⟨hZ19I, hZ19K, hZ19U⟩
                · replace hP := zE_n hP h18
                  refine wz_br (i3L (rfl : i3 a5 = i3 a5) (show (10 : Int32) = i3 10 from rfl) (by omega) (by omega) (by omega) (by omega)) (fun h20 => ?_) (fun h20 => ?_)
                  · replace hP := zE_p hP h20
                    obtain ⟨Z21, hZ21⟩ := zx (zu Z 1 0 0 2 1)
                    replace hP := zl_e hP hZ21
                    have hZ21I := zM_u hZ hZ21 (lo := -2147483648) (hi := 2147483647) (by decide) rfl (by omega) ⟨by decide, by decide⟩ (Or.inr (by decide)) rfl
                    have hZ21U : zU [] Z Z21 := zU_u zU_r hZ21 (Or.inl rfl)
                    have hZ21K : zC [1, 2, 101, 102, 200] Z Z21 := zC_u zC_r hZ21 (by decide)
                    intro μ9 e9
                    replace e9 := e9.trans (zm_wI (Z := Z) (ν := ν) hZ21 (show ((0 : Nat) : Int) = 0 from rfl) (show ((0 : Nat) : Int) = 0 from rfl) (show ((2 : Nat) : Int) = 2 from rfl) (show (1 : Int32) = i3 1 from rfl))
                    subst e9
                    exact zlY hP (show (0 : Int32) = i3 0 from rfl) (.inl rfl) ⟨hZ21I, hZ21K, hZ21U⟩
                  · replace hP := zE_n hP h20
                    refine wz_br (i3L (show (99 : Int32) = i3 99 from rfl) (rfl : i3 a5 = i3 a5) (by omega) (by omega) (by omega) (by omega)) (fun h22 => ?_) (fun h22 => ?_)
                    · replace hP := zE_p hP h22
                      obtain ⟨Z23, hZ23⟩ := zx (zu Z 1 0 0 2 1)
                      replace hP := zl_e hP hZ23
                      have hZ23I := zM_u hZ hZ23 (lo := -2147483648) (hi := 2147483647) (by decide) rfl (by omega) ⟨by decide, by decide⟩ (Or.inr (by decide)) rfl
                      have hZ23U : zU [] Z Z23 := zU_u zU_r hZ23 (Or.inl rfl)
                      have hZ23K : zC [1, 2, 101, 102, 200] Z Z23 := zC_u zC_r hZ23 (by decide)
                      intro μ9 e9
                      replace e9 := e9.trans (zm_wI (Z := Z) (ν := ν) hZ23 (show ((0 : Nat) : Int) = 0 from rfl) (show ((0 : Nat) : Int) = 0 from rfl) (show ((2 : Nat) : Int) = 2 from rfl) (show (1 : Int32) = i3 1 from rfl))
                      subst e9
                      exact zlY hP (show (0 : Int32) = i3 0 from rfl) (.inl rfl) ⟨hZ23I, hZ23K, hZ23U⟩
                    · replace hP := zE_n hP h22
                      obtain ⟨Z24, hZ24⟩ := zx (zu Z 1 0 0 2 0)
                      replace hP := zl_e hP hZ24
                      have hZ24I := zM_0 hZ hZ24 (by decide) (Or.inr (by decide))
                      have hZ24U : zU [] Z Z24 := zU_u zU_r hZ24 (Or.inl rfl)
                      have hZ24K : zC [1, 2, 101, 102, 200] Z Z24 := zC_u zC_r hZ24 (by decide)
                      intro μ9 e9
                      replace e9 := e9.trans (zm_wI (Z := Z) (ν := ν) hZ24 (show ((0 : Nat) : Int) = 0 from rfl) (show ((0 : Nat) : Int) = 0 from rfl) (show ((2 : Nat) : Int) = 2 from rfl) (show (0 : Int32) = i3 0 from rfl))
                      subst e9
                      have r25 := zM_k hZ24I 2 0 0 100 (lo := 0) (hi := 5) (by decide) rfl
                      refine wz_br (i3Le (show (5 : Int32) = i3 5 from rfl) (zm_rd (Z := Z24) (ν := ν) (k := 2) (show ((0 : Nat) : Int) = 0 from rfl) (show ((0 : Nat) : Int) = 0 from rfl) (show ((100 : Nat) : Int) = 100 from rfl)) (by omega) (by omega) (by omega) (by omega)) (fun h26 => ?_) (fun h26 => ?_)
                      · replace hP := zE_p hP h26
                        obtain ⟨Z27, hZ27⟩ := zx (zu Z24 1 0 0 2 2)
                        replace hP := zl_e hP hZ27
                        have hZ27I := zM_u hZ24I hZ27 (lo := -2147483648) (hi := 2147483647) (by decide) rfl (by omega) ⟨by decide, by decide⟩ (Or.inr (by decide)) rfl
                        have hZ27U : zU [] Z Z27 := zU_u hZ24U hZ27 (Or.inl rfl)
                        have hZ27K : zC [1, 2, 101, 102, 200] Z Z27 := zC_u hZ24K hZ27 (by decide)
                        intro μ9 e9
                        replace e9 := e9.trans (zm_wI (Z := Z24) (ν := ν) hZ27 (show ((0 : Nat) : Int) = 0 from rfl) (show ((0 : Nat) : Int) = 0 from rfl) (show ((2 : Nat) : Int) = 2 from rfl) (show (2 : Int32) = i3 2 from rfl))
                        subst e9
                        exact zlY hP (show (0 : Int32) = i3 0 from rfl) (.inl rfl) ⟨hZ27I, hZ27K, hZ27U⟩
                      · replace hP := zE_n hP h26
                        obtain ⟨Z28, hZ28⟩ := zx (zu Z24 1 0 0 2 0)
                        replace hP := zl_e hP hZ28
                        have hZ28I := zM_0 hZ24I hZ28 (by decide) (Or.inr (by decide))
                        have hZ28U : zU [] Z Z28 := zU_u hZ24U hZ28 (Or.inl rfl)
                        have hZ28K : zC [1, 2, 101, 102, 200] Z Z28 := zC_u hZ24K hZ28 (by decide)
                        intro μ9 e9
                        replace e9 := e9.trans (zm_wI (Z := Z24) (ν := ν) hZ28 (show ((0 : Nat) : Int) = 0 from rfl) (show ((0 : Nat) : Int) = 0 from rfl) (show ((2 : Nat) : Int) = 2 from rfl) (show (0 : Int32) = i3 0 from rfl))
                        subst e9
                        have r29 := zM_k hZ28I 1 0 0 35 (lo := 0) (hi := 1) (by decide) rfl
                        have q30 := (zu_ne (k' := 1) (b' := 0) (i' := 0) (j' := 35) hZ28 (fun q => absurd q.2.2.2 (by decide))).trans (zu_ne (k' := 1) (b' := 0) (i' := 0) (j' := 35) hZ24 (fun q => absurd q.2.2.2 (by decide)))
                        refine wz_i0 (Eq.trans (i3NE (zm_rd (Z := Z28) (ν := ν) (k := 1) (show ((0 : Nat) : Int) = 0 from rfl) (show ((0 : Nat) : Int) = 0 from rfl) (show ((35 : Nat) : Int) = 35 from rfl)) (show (0 : Int32) = i3 0 from rfl) (by omega) (by omega) (by omega) (by omega)) (decide_eq_false (by omega))) ?_
                        have r31 := zM_k hZ28I 1 0 0 34 (lo := 0) (hi := 8) (by decide) rfl
                        have q32 := (zu_ne (k' := 1) (b' := 0) (i' := 0) (j' := 34) hZ28 (fun q => absurd q.2.2.2 (by decide))).trans (zu_ne (k' := 1) (b' := 0) (i' := 0) (j' := 34) hZ24 (fun q => absurd q.2.2.2 (by decide)))
                        have r33 := zM_f hZ28I 1 0 0 37
                        have q34 := (zu_ne (k' := 1) (b' := 0) (i' := 0) (j' := 37) hZ28 (fun q => absurd q.2.2.2 (by decide))).trans (zu_ne (k' := 1) (b' := 0) (i' := 0) (j' := 37) hZ24 (fun q => absurd q.2.2.2 (by decide)))
                        obtain ⟨c8, c9, hZ35I, dZ35⟩ := hdm Z28 1 a1 a2 a3 a4 a5 0 hZ28I (by omega) (by omega) (by omega) (by omega) (by omega) (by omega) (by omega) (by omega) (by omega) (by omega)
                        obtain ⟨Z35, hZ35⟩ := zx (dm Z28 1 a1 a2 a3 a4 a5 0)
                        rw [← hZ35] at c9 hZ35I dZ35
                        replace hP := zl_e hP hZ35
                        refine wz_cV_of (zas (zcons rfl (zcons (zvi (show (-1 : Int32) = i3 (-1) from rfl)) rfl)) c8) ?_
                        refine wz_cV_of (zas (zcons rfl (zcons (zvi (show (1 : Int32) = i3 1 from rfl)) (zcons (zvi (rfl : i3 a1 = i3 a1)) (zcons (zvi (rfl : i3 a2 = i3 a2)) (zcons (zvi (rfl : i3 a3 = i3 a3)) (zcons (zvi (rfl : i3 a4 = i3 a4)) (zcons (zvi (rfl : i3 a5 = i3 a5)) (zcons (zvi (show (0 : Int32) = i3 0 from rfl)) rfl)))))))) c9) ?_
                        clear c8 c9
                        have hZ35K : zC [1, 2, 101, 102, 200] Z Z35 := zC_t hZ28K (zMd_C dZ35) (by decide)
                        have hZ35U : zU [] Z Z35 := zU_t hZ28U (zMd_U dZ35) zU_b0
                        have r36 := zM_k hZ35I 2 0 0 100 (lo := 0) (hi := 5) (by decide) rfl
                        have q37 := (dZ35 2 0 0 100 (by simp)).trans (zu_ne (k' := 2) (b' := 0) (i' := 0) (j' := 100) hZ28 (fun q => absurd q.1 (by decide)))
                        refine wz_i0 (i3O (n := 4400) (i3A (show (110 : Int32) = i3 110 from rfl) (i3M (show (5 : Int32) = i3 5 from rfl) (zm_rd (Z := Z35) (ν := ν1) (k := 2) (show ((0 : Nat) : Int) = 0 from rfl) (show ((0 : Nat) : Int) = 0 from rfl) (show ((100 : Nat) : Int) = 100 from rfl)))) (by omega) (by omega) (by omega)) ?_
                        obtain ⟨Z38, hZ38⟩ := zx (zu Z35 2 0 0 (110 + 5 * (Z35 2 0 0 100)) a1)
                        replace hP := zl_e hP hZ38
                        have hZ38I := zM_u2 hZ35I hZ38 (lo := 0) (hi := 9) (zs_110_0 (x := (Z35 2 0 0 100)) (by omega) (by omega) (by omega)) (by omega) ⟨by decide, by decide⟩ (by simp only [zsp]; omega)
                        have hZ38U : zU [] Z Z38 := zU_u hZ35U hZ38 (Or.inl rfl)
                        have hZ38K : zC [1, 2, 101, 102, 200] Z Z38 := zC_u hZ35K hZ38 (zcl_2w (by omega) rfl)
                        intro μ9 e9
                        replace e9 := e9.trans (zm_wI (Z := Z35) (ν := ν1) hZ38 (show ((0 : Nat) : Int) = 0 from rfl) (show ((0 : Nat) : Int) = 0 from rfl) (i3I (y := (110 + 5 * (Z35 2 0 0 100))) (i3A (show (110 : Int32) = i3 110 from rfl) (i3M (show (5 : Int32) = i3 5 from rfl) (zm_rd (Z := Z35) (ν := ν1) (k := 2) (show ((0 : Nat) : Int) = 0 from rfl) (show ((0 : Nat) : Int) = 0 from rfl) (show ((100 : Nat) : Int) = 100 from rfl)))) (by omega) (by omega) (by omega)) (rfl : i3 a1 = i3 a1))
                        subst e9
                        refine wz_i0 (i3O (n := 4400) (i3A (i3A (show (110 : Int32) = i3 110 from rfl) (i3M (show (5 : Int32) = i3 5 from rfl) (zm_rd (Z := Z35) (ν := ν1) (k := 2) (show ((0 : Nat) : Int) = 0 from rfl) (show ((0 : Nat) : Int) = 0 from rfl) (show ((100 : Nat) : Int) = 100 from rfl)))) (show (1 : Int32) = i3 1 from rfl)) (by omega) (by omega) (by omega)) ?_
                        obtain ⟨Z39, hZ39⟩ := zx (zu Z38 2 0 0 (111 + 5 * (Z35 2 0 0 100)) a2)
                        replace hP := zl_e hP hZ39
                        have hZ39I := zM_u2 hZ38I hZ39 (lo := 0) (hi := 12) (zs_110_1 (x := (Z35 2 0 0 100)) (by omega) (by omega) (by omega)) (by omega) ⟨by decide, by decide⟩ (by simp only [zsp]; omega)
                        have hZ39U : zU [] Z Z39 := zU_u hZ38U hZ39 (Or.inl rfl)
                        have hZ39K : zC [1, 2, 101, 102, 200] Z Z39 := zC_u hZ38K hZ39 (zcl_2w (by omega) rfl)
                        intro μ9 e9
                        replace e9 := e9.trans (zm_wI (Z := Z38) (ν := ν1) hZ39 (show ((0 : Nat) : Int) = 0 from rfl) (show ((0 : Nat) : Int) = 0 from rfl) (i3I (y := (111 + 5 * (Z35 2 0 0 100))) (i3A (i3A (show (110 : Int32) = i3 110 from rfl) (i3M (show (5 : Int32) = i3 5 from rfl) (zm_rd (Z := Z35) (ν := ν1) (k := 2) (show ((0 : Nat) : Int) = 0 from rfl) (show ((0 : Nat) : Int) = 0 from rfl) (show ((100 : Nat) : Int) = 100 from rfl)))) (show (1 : Int32) = i3 1 from rfl)) (by omega) (by omega) (by omega)) (rfl : i3 a2 = i3 a2))
                        subst e9
                        refine wz_i0 (i3O (n := 4400) (i3A (i3A (show (110 : Int32) = i3 110 from rfl) (i3M (show (5 : Int32) = i3 5 from rfl) (zm_rd (Z := Z35) (ν := ν1) (k := 2) (show ((0 : Nat) : Int) = 0 from rfl) (show ((0 : Nat) : Int) = 0 from rfl) (show ((100 : Nat) : Int) = 100 from rfl)))) (show (2 : Int32) = i3 2 from rfl)) (by omega) (by omega) (by omega)) ?_
                        obtain ⟨Z40, hZ40⟩ := zx (zu Z39 2 0 0 (112 + 5 * (Z35 2 0 0 100)) a3)
                        replace hP := zl_e hP hZ40
                        have hZ40I := zM_u2 hZ39I hZ40 (lo := 0) (hi := 12) (zs_110_2 (x := (Z35 2 0 0 100)) (by omega) (by omega) (by omega)) (by omega) ⟨by decide, by decide⟩ (by simp only [zsp]; omega)
                        have hZ40U : zU [] Z Z40 := zU_u hZ39U hZ40 (Or.inl rfl)
                        have hZ40K : zC [1, 2, 101, 102, 200] Z Z40 := zC_u hZ39K hZ40 (zcl_2w (by omega) rfl)
                        intro μ9 e9
                        replace e9 := e9.trans (zm_wI (Z := Z39) (ν := ν1) hZ40 (show ((0 : Nat) : Int) = 0 from rfl) (show ((0 : Nat) : Int) = 0 from rfl) (i3I (y := (112 + 5 * (Z35 2 0 0 100))) (i3A (i3A (show (110 : Int32) = i3 110 from rfl) (i3M (show (5 : Int32) = i3 5 from rfl) (zm_rd (Z := Z35) (ν := ν1) (k := 2) (show ((0 : Nat) : Int) = 0 from rfl) (show ((0 : Nat) : Int) = 0 from rfl) (show ((100 : Nat) : Int) = 100 from rfl)))) (show (2 : Int32) = i3 2 from rfl)) (by omega) (by omega) (by omega)) (rfl : i3 a3 = i3 a3))
                        subst e9
                        refine wz_i0 (i3O (n := 4400) (i3A (i3A (show (110 : Int32) = i3 110 from rfl) (i3M (show (5 : Int32) = i3 5 from rfl) (zm_rd (Z := Z35) (ν := ν1) (k := 2) (show ((0 : Nat) : Int) = 0 from rfl) (show ((0 : Nat) : Int) = 0 from rfl) (show ((100 : Nat) : Int) = 100 from rfl)))) (show (3 : Int32) = i3 3 from rfl)) (by omega) (by omega) (by omega)) ?_
                        obtain ⟨Z41, hZ41⟩ := zx (zu Z40 2 0 0 (113 + 5 * (Z35 2 0 0 100)) a4)
                        replace hP := zl_e hP hZ41
                        have hZ41I := zM_u2 hZ40I hZ41 (lo := 0) (hi := 600) (zs_110_3 (x := (Z35 2 0 0 100)) (by omega) (by omega) (by omega)) (by omega) ⟨by decide, by decide⟩ (by simp only [zsp]; omega)
                        have hZ41U : zU [] Z Z41 := zU_u hZ40U hZ41 (Or.inl rfl)
                        have hZ41K : zC [1, 2, 101, 102, 200] Z Z41 := zC_u hZ40K hZ41 (zcl_2w (by omega) rfl)
                        intro μ9 e9
                        replace e9 := e9.trans (zm_wI (Z := Z40) (ν := ν1) hZ41 (show ((0 : Nat) : Int) = 0 from rfl) (show ((0 : Nat) : Int) = 0 from rfl) (i3I (y := (113 + 5 * (Z35 2 0 0 100))) (i3A (i3A (show (110 : Int32) = i3 110 from rfl) (i3M (show (5 : Int32) = i3 5 from rfl) (zm_rd (Z := Z35) (ν := ν1) (k := 2) (show ((0 : Nat) : Int) = 0 from rfl) (show ((0 : Nat) : Int) = 0 from rfl) (show ((100 : Nat) : Int) = 100 from rfl)))) (show (3 : Int32) = i3 3 from rfl)) (by omega) (by omega) (by omega)) (rfl : i3 a4 = i3 a4))
                        subst e9
                        refine wz_i0 (i3O (n := 4400) (i3A (i3A (show (110 : Int32) = i3 110 from rfl) (i3M (show (5 : Int32) = i3 5 from rfl) (zm_rd (Z := Z35) (ν := ν1) (k := 2) (show ((0 : Nat) : Int) = 0 from rfl) (show ((0 : Nat) : Int) = 0 from rfl) (show ((100 : Nat) : Int) = 100 from rfl)))) (show (4 : Int32) = i3 4 from rfl)) (by omega) (by omega) (by omega)) ?_
                        obtain ⟨Z42, hZ42⟩ := zx (zu Z41 2 0 0 (114 + 5 * (Z35 2 0 0 100)) a5)
                        replace hP := zl_e hP hZ42
                        have hZ42I := zM_u2 hZ41I hZ42 (lo := 0) (hi := 99) (zs_110_4 (x := (Z35 2 0 0 100)) (by omega) (by omega) (by omega)) (by omega) ⟨by decide, by decide⟩ (by simp only [zsp]; omega)
                        have hZ42U : zU [] Z Z42 := zU_u hZ41U hZ42 (Or.inl rfl)
                        have hZ42K : zC [1, 2, 101, 102, 200] Z Z42 := zC_u hZ41K hZ42 (zcl_2w (by omega) rfl)
                        intro μ9 e9
                        replace e9 := e9.trans (zm_wI (Z := Z41) (ν := ν1) hZ42 (show ((0 : Nat) : Int) = 0 from rfl) (show ((0 : Nat) : Int) = 0 from rfl) (i3I (y := (114 + 5 * (Z35 2 0 0 100))) (i3A (i3A (show (110 : Int32) = i3 110 from rfl) (i3M (show (5 : Int32) = i3 5 from rfl) (zm_rd (Z := Z35) (ν := ν1) (k := 2) (show ((0 : Nat) : Int) = 0 from rfl) (show ((0 : Nat) : Int) = 0 from rfl) (show ((100 : Nat) : Int) = 100 from rfl)))) (show (4 : Int32) = i3 4 from rfl)) (by omega) (by omega) (by omega)) (rfl : i3 a5 = i3 a5))
                        subst e9
                        have r43 := zM_k hZ42I 2 0 0 100 (lo := 0) (hi := 5) (by decide) rfl
                        have q44 := (zu_ne (k' := 2) (b' := 0) (i' := 0) (j' := 100) hZ42 (fun q => absurd q.2.2.2 (by omega))).trans ((zu_ne (k' := 2) (b' := 0) (i' := 0) (j' := 100) hZ41 (fun q => absurd q.2.2.2 (by omega))).trans ((zu_ne (k' := 2) (b' := 0) (i' := 0) (j' := 100) hZ40 (fun q => absurd q.2.2.2 (by omega))).trans ((zu_ne (k' := 2) (b' := 0) (i' := 0) (j' := 100) hZ39 (fun q => absurd q.2.2.2 (by omega))).trans (zu_ne (k' := 2) (b' := 0) (i' := 0) (j' := 100) hZ38 (fun q => absurd q.2.2.2 (by omega))))))
                        obtain ⟨Z45, hZ45⟩ := zx (zu Z42 2 0 0 100 ((Z42 2 0 0 100) + 1))
                        replace hP := zl_e hP hZ45
                        have hZ45I := zM_u2 hZ42I hZ45 (lo := 0) (hi := 5) rfl (by omega) ⟨by decide, by decide⟩ (by simp only [zsp]; omega)
                        have hZ45U : zU [] Z Z45 := zU_u hZ42U hZ45 (Or.inl rfl)
                        have hZ45K : zC [1, 2, 101, 102, 200] Z Z45 := zC_u hZ42K hZ45 (by decide)
                        intro μ9 e9
                        replace e9 := e9.trans (zm_wI (Z := Z42) (ν := ν1) hZ45 (show ((0 : Nat) : Int) = 0 from rfl) (show ((0 : Nat) : Int) = 0 from rfl) (show ((100 : Nat) : Int) = 100 from rfl) (i3A (zm_rd (Z := Z42) (ν := ν1) (k := 2) (show ((0 : Nat) : Int) = 0 from rfl) (show ((0 : Nat) : Int) = 0 from rfl) (show ((100 : Nat) : Int) = 100 from rfl)) (show (1 : Int32) = i3 1 from rfl)))
                        subst e9
                        exact zlY hP (zm_rd (Z := Z35) (ν := ν1) (k := 2) (show ((0 : Nat) : Int) = 0 from rfl) (show ((0 : Nat) : Int) = 0 from rfl) (show ((100 : Nat) : Int) = 100 from rfl)) (.inr rfl) ⟨hZ45I, hZ45K, hZ45U⟩

theorem sq_503 {s : zSM} {Z : qz_Z} {ν : qz_N} (hZ : zM s Z) (gq : Z 1 0 0 35 = 1) (hM : s.2 + 0 ≤ 1000000000) {a1 : Int} (ga1 : -2147483648 ≤ a1 ∧ a1 ≤ 2147483647) {a2 : Int} (ga2 : -2147483648 ≤ a2 ∧ a2 ≤ 2147483647) {a3 : Int} (ga3 : -2147483648 ≤ a3 ∧ a3 ≤ 2147483647) {a4 : Int} (ga4 : -2147483648 ≤ a4 ∧ a4 ≤ 2147483647) {a5 : Int} (ga5 : -2147483648 ≤ a5 ∧ a5 ≤ 2147483647) {ν1 : qz_N} : ∃ (Z1 : qz_Z) (ν2 : qz_N) (v : Int), (Z1, v) = zy_503 Z zq0 a1 a2 a3 a4 a5 ∧ (ν2 = ν ∨ ν2 = ν1) ∧ qf_503 [.inr (.inr (some (1, 0, 0))), .inl (i3 a1), .inl (i3 a2), .inl (i3 a3), .inl (i3 a4), .inl (i3 a5)] (zm Z ν) = some (zm Z1 ν2, .inl (some (.inl (i3 v)))) ∧ (fun Z1 => zM s Z1 ∧ zC [1, 2] Z Z1 ∧ zU [] Z Z1) Z1 := by
  obtain ⟨P, hP⟩ := zx (zy_503 Z zq0 a1 a2 a3 a4 a5)
  refine zc_Y (Q := fun Z1 => zM s Z1 ∧ zC [1, 2] Z Z1 ∧ zU [] Z Z1) hP (fw_503 (i3 a1) (i3 a2) (i3 a3) (i3 a4) (i3 a5) _ _ ?_)
  replace hP : zE P (zy_503 Z zq0 a1 a2 a3 a4 a5) := hP
  unfold zy_503 at hP
  have r1 := zM_k hZ 1 0 0 35 (lo := 0) (hi := 1) (by decide) rfl
  have r2 := zM_k hZ 1 0 0 34 (lo := 0) (hi := 8) (by decide) rfl
  have r3 := zM_f hZ 1 0 0 37
  refine wz_br (i3L (rfl : i3 a1 = i3 a1) (show (1 : Int32) = i3 1 from rfl) (by omega) (by omega) (by omega) (by omega)) (fun h4 => ?_) (fun h4 => ?_)
  · replace hP := zE_p hP h4
    obtain ⟨Z5, hZ5⟩ := zx (zu Z 1 0 0 2 1)
    replace hP := zl_e hP hZ5
    have hZ5I := zM_u hZ hZ5 (lo := -2147483648) (hi := 2147483647) (by decide) rfl (by omega) ⟨by decide, by decide⟩ (Or.inr (by decide)) rfl
    have hZ5U : zU [] Z Z5 := zU_u zU_r hZ5 (Or.inl rfl)
    have hZ5K : zC [1, 2] Z Z5 := zC_u zC_r hZ5 (by decide)
    intro μ9 e9
    replace e9 := e9.trans (zm_wI (Z := Z) (ν := ν) hZ5 (show ((0 : Nat) : Int) = 0 from rfl) (show ((0 : Nat) : Int) = 0 from rfl) (show ((2 : Nat) : Int) = 2 from rfl) (show (1 : Int32) = i3 1 from rfl))
    subst e9
    exact zlY hP (show (0 : Int32) = i3 0 from rfl) (.inl rfl) ⟨hZ5I, hZ5K, hZ5U⟩
  · replace hP := zE_n hP h4
    refine wz_br (i3L (show (9 : Int32) = i3 9 from rfl) (rfl : i3 a1 = i3 a1) (by omega) (by omega) (by omega) (by omega)) (fun h6 => ?_) (fun h6 => ?_)
    · replace hP := zE_p hP h6
      obtain ⟨Z7, hZ7⟩ := zx (zu Z 1 0 0 2 1)
      replace hP := zl_e hP hZ7
      have hZ7I := zM_u hZ hZ7 (lo := -2147483648) (hi := 2147483647) (by decide) rfl (by omega) ⟨by decide, by decide⟩ (Or.inr (by decide)) rfl
      have hZ7U : zU [] Z Z7 := zU_u zU_r hZ7 (Or.inl rfl)
      have hZ7K : zC [1, 2] Z Z7 := zC_u zC_r hZ7 (by decide)
      intro μ9 e9
      replace e9 := e9.trans (zm_wI (Z := Z) (ν := ν) hZ7 (show ((0 : Nat) : Int) = 0 from rfl) (show ((0 : Nat) : Int) = 0 from rfl) (show ((2 : Nat) : Int) = 2 from rfl) (show (1 : Int32) = i3 1 from rfl))
      subst e9
      exact zlY hP (show (0 : Int32) = i3 0 from rfl) (.inl rfl) ⟨hZ7I, hZ7K, hZ7U⟩
    · replace hP := zE_n hP h6
      refine wz_br (i3L (rfl : i3 a2 = i3 a2) (show (0 : Int32) = i3 0 from rfl) (by omega) (by omega) (by omega) (by omega)) (fun h8 => ?_) (fun h8 => ?_)
      · replace hP := zE_p hP h8
        obtain ⟨Z9, hZ9⟩ := zx (zu Z 1 0 0 2 1)
        replace hP := zl_e hP hZ9
        have hZ9I := zM_u hZ hZ9 (lo := -2147483648) (hi := 2147483647) (by decide) rfl (by omega) ⟨by decide, by decide⟩ (Or.inr (by decide)) rfl
        have hZ9U : zU [] Z Z9 := zU_u zU_r hZ9 (Or.inl rfl)
        have hZ9K : zC [1, 2] Z Z9 := zC_u zC_r hZ9 (by decide)
        intro μ9 e9
        replace e9 := e9.trans (zm_wI (Z := Z) (ν := ν) hZ9 (show ((0 : Nat) : Int) = 0 from rfl) (show ((0 : Nat) : Int) = 0 from rfl) (show ((2 : Nat) : Int) = 2 from rfl) (show (1 : Int32) = i3 1 from rfl))
        subst e9
        exact zlY hP (show (0 : Int32) = i3 0 from rfl) (.inl rfl) ⟨hZ9I, hZ9K, hZ9U⟩
      · replace hP := zE_n hP h8
        refine wz_br (i3L (show (12 : Int32) = i3 12 from rfl) (rfl : i3 a2 = i3 a2) (by omega) (by omega) (by omega) (by omega)) (fun h10 => ?_) (fun h10 => ?_)
        · replace hP := zE_p hP h10
          obtain ⟨Z11, hZ11⟩ := zx (zu Z 1 0 0 2 1)
          replace hP := zl_e hP hZ11
          have hZ11I := zM_u hZ hZ11 (lo := -2147483648) (hi := 2147483647) (by decide) rfl (by omega) ⟨by decide, by decide⟩ (Or.inr (by decide)) rfl
          have hZ11U : zU [] Z Z11 := zU_u zU_r hZ11 (Or.inl rfl)
          have hZ11K : zC [1, 2] Z Z11 := zC_u zC_r hZ11 (by decide)
          intro μ9 e9
          replace e9 := e9.trans (zm_wI (Z := Z) (ν := ν) hZ11 (show ((0 : Nat) : Int) = 0 from rfl) (show ((0 : Nat) : Int) = 0 from rfl) (show ((2 : Nat) : Int) = 2 from rfl) (show (1 : Int32) = i3 1 from rfl))
          subst e9
          exact zlY hP (show (0 : Int32) = i3 0 from rfl) (.inl rfl) ⟨hZ11I, hZ11K, hZ11U⟩
        · replace hP := zE_n hP h10
          refine wz_br (i3L (rfl : i3 a3 = i3 a3) (show (0 : Int32) = i3 0 from rfl) (by omega) (by omega) (by omega) (by omega)) (fun h12 => ?_) (fun h12 => ?_)
          · replace hP := zE_p hP h12
            obtain ⟨Z13, hZ13⟩ := zx (zu Z 1 0 0 2 1)
            replace hP := zl_e hP hZ13
            have hZ13I := zM_u hZ hZ13 (lo := -2147483648) (hi := 2147483647) (by decide) rfl (by omega) ⟨by decide, by decide⟩ (Or.inr (by decide)) rfl
            have hZ13U : zU [] Z Z13 := zU_u zU_r hZ13 (Or.inl rfl)
            have hZ13K : zC [1, 2] Z Z13 := zC_u zC_r hZ13 (by decide)
            intro μ9 e9
            replace e9 := e9.trans (zm_wI (Z := Z) (ν := ν) hZ13 (show ((0 : Nat) : Int) = 0 from rfl) (show ((0 : Nat) : Int) = 0 from rfl) (show ((2 : Nat) : Int) = 2 from rfl) (show (1 : Int32) = i3 1 from rfl))
            subst e9
            exact zlY hP (show (0 : Int32) = i3 0 from rfl) (.inl rfl) ⟨hZ13I, hZ13K, hZ13U⟩
          · replace hP := zE_n hP h12
            refine wz_br (i3L (show (12 : Int32) = i3 12 from rfl) (rfl : i3 a3 = i3 a3) (by omega) (by omega) (by omega) (by omega)) (fun h14 => ?_) (fun h14 => ?_)
            · replace hP := zE_p hP h14
              obtain ⟨Z15, hZ15⟩ := zx (zu Z 1 0 0 2 1)
              replace hP := zl_e hP hZ15
              have hZ15I := zM_u hZ hZ15 (lo := -2147483648) (hi := 2147483647) (by decide) rfl (by omega) ⟨by decide, by decide⟩ (Or.inr (by decide)) rfl
              have hZ15U : zU [] Z Z15 := zU_u zU_r hZ15 (Or.inl rfl)
              have hZ15K : zC [1, 2] Z Z15 := zC_u zC_r hZ15 (by decide)
              intro μ9 e9
              replace e9 := e9.trans (zm_wI (Z := Z) (ν := ν) hZ15 (show ((0 : Nat) : Int) = 0 from rfl) (show ((0 : Nat) : Int) = 0 from rfl) (show ((2 : Nat) : Int) = 2 from rfl) (show (1 : Int32) = i3 1 from rfl))
              subst e9
              exact zlY hP (show (0 : Int32) = i3 0 from rfl) (.inl rfl) ⟨hZ15I, hZ15K, hZ15U⟩
            · replace hP := zE_n hP h14
              refine wz_br (i3L (rfl : i3 a4 = i3 a4) (show (100 : Int32) = i3 100 from rfl) (by omega) (by omega) (by omega) (by omega)) (fun h16 => ?_) (fun h16 => ?_)
              · replace hP := zE_p hP h16
                obtain ⟨Z17, hZ17⟩ := zx (zu Z 1 0 0 2 1)
                replace hP := zl_e hP hZ17
                have hZ17I := zM_u hZ hZ17 (lo := -2147483648) (hi := 2147483647) (by decide) rfl (by omega) ⟨by decide, by decide⟩ (Or.inr (by decide)) rfl
                have hZ17U : zU [] Z Z17 := zU_u zU_r hZ17 (Or.inl rfl)
                have hZ17K : zC [1, 2] Z Z17 := zC_u zC_r hZ17 (by decide)
                intro μ9 e9
                replace e9 := e9.trans (zm_wI (Z := Z) (ν := ν) hZ17 (show ((0 : Nat) : Int) = 0 from rfl) (show ((0 : Nat) : Int) = 0 from rfl) (show ((2 : Nat) : Int) = 2 from rfl) (show (1 : Int32) = i3 1 from rfl))
                subst e9
                exact zlY hP (show (0 : Int32) = i3 0 from rfl) (.inl rfl) ⟨hZ17I, hZ17K, hZ17U⟩
              · replace hP := zE_n hP h16
                refine wz_br (i3L (show (600 : Int32) = i3 600 from rfl) (rfl : i3 a4 = i3 a4) (by omega) (by omega) (by omega) (by omega)) (fun h18 => ?_) (fun h18 => ?_)
                · replace hP := zE_p hP h18
                  obtain ⟨Z19, hZ19⟩ := zx (zu Z 1 0 0 2 1)
                  replace hP := zl_e hP hZ19
                  have hZ19I := zM_u hZ hZ19 (lo := -2147483648) (hi := 2147483647) (by decide) rfl (by omega) ⟨by decide, by decide⟩ (Or.inr (by decide)) rfl
                  have hZ19U : zU [] Z Z19 := zU_u zU_r hZ19 (Or.inl rfl)
                  have hZ19K : zC [1, 2] Z Z19 := zC_u zC_r hZ19 (by decide)
                  intro μ9 e9
                  replace e9 := e9.trans (zm_wI (Z := Z) (ν := ν) hZ19 (show ((0 : Nat) : Int) = 0 from rfl) (show ((0 : Nat) : Int) = 0 from rfl) (show ((2 : Nat) : Int) = 2 from rfl) (show (1 : Int32) = i3 1 from rfl))
                  subst e9
                  exact zlY hP (show (0 : Int32) = i3 0 from rfl) (.inl rfl) ⟨hZ19I, hZ19K, hZ19U⟩
                · replace hP := zE_n hP h18
                  refine wz_br (i3L (rfl : i3 a5 = i3 a5) (show (10 : Int32) = i3 10 from rfl) (by omega) (by omega) (by omega) (by omega)) (fun h20 => ?_) (fun h20 => ?_)
                  · replace hP := zE_p hP h20
                    obtain ⟨Z21, hZ21⟩ := zx (zu Z 1 0 0 2 1)
                    replace hP := zl_e hP hZ21
                    have hZ21I := zM_u hZ hZ21 (lo := -2147483648) (hi := 2147483647) (by decide) rfl (by omega) ⟨by decide, by decide⟩ (Or.inr (by decide)) rfl
                    have hZ21U : zU [] Z Z21 := zU_u zU_r hZ21 (Or.inl rfl)
                    have hZ21K : zC [1, 2] Z Z21 := zC_u zC_r hZ21 (by decide)
                    intro μ9 e9
                    replace e9 := e9.trans (zm_wI (Z := Z) (ν := ν) hZ21 (show ((0 : Nat) : Int) = 0 from rfl) (show ((0 : Nat) : Int) = 0 from rfl) (show ((2 : Nat) : Int) = 2 from rfl) (show (1 : Int32) = i3 1 from rfl))
                    subst e9
                    exact zlY hP (show (0 : Int32) = i3 0 from rfl) (.inl rfl) ⟨hZ21I, hZ21K, hZ21U⟩
                  · replace hP := zE_n hP h20
                    refine wz_br (i3L (show (99 : Int32) = i3 99 from rfl) (rfl : i3 a5 = i3 a5) (by omega) (by omega) (by omega) (by omega)) (fun h22 => ?_) (fun h22 => ?_)
                    · replace hP := zE_p hP h22
                      obtain ⟨Z23, hZ23⟩ := zx (zu Z 1 0 0 2 1)
                      replace hP := zl_e hP hZ23
                      have hZ23I := zM_u hZ hZ23 (lo := -2147483648) (hi := 2147483647) (by decide) rfl (by omega) ⟨by decide, by decide⟩ (Or.inr (by decide)) rfl
                      have hZ23U : zU [] Z Z23 := zU_u zU_r hZ23 (Or.inl rfl)
                      have hZ23K : zC [1, 2] Z Z23 := zC_u zC_r hZ23 (by decide)
                      intro μ9 e9
                      replace e9 := e9.trans (zm_wI (Z := Z) (ν := ν) hZ23 (show ((0 : Nat) : Int) = 0 from rfl) (show ((0 : Nat) : Int) = 0 from rfl) (show ((2 : Nat) : Int) = 2 from rfl) (show (1 : Int32) = i3 1 from rfl))
                      subst e9
                      exact zlY hP (show (0 : Int32) = i3 0 from rfl) (.inl rfl) ⟨hZ23I, hZ23K, hZ23U⟩
                    · replace hP := zE_n hP h22
                      obtain ⟨Z24, hZ24⟩ := zx (zu Z 1 0 0 2 0)
                      replace hP := zl_e hP hZ24
                      have hZ24I := zM_0 hZ hZ24 (by decide) (Or.inr (by decide))
                      have hZ24U : zU [] Z Z24 := zU_u zU_r hZ24 (Or.inl rfl)
                      have hZ24K : zC [1, 2] Z Z24 := zC_u zC_r hZ24 (by decide)
                      intro μ9 e9
                      replace e9 := e9.trans (zm_wI (Z := Z) (ν := ν) hZ24 (show ((0 : Nat) : Int) = 0 from rfl) (show ((0 : Nat) : Int) = 0 from rfl) (show ((2 : Nat) : Int) = 2 from rfl) (show (0 : Int32) = i3 0 from rfl))
                      subst e9
                      have r25 := zM_k hZ24I 2 0 0 100 (lo := 0) (hi := 5) (by decide) rfl
                      refine wz_br (i3Le (show (5 : Int32) = i3 5 from rfl) (zm_rd (Z := Z24) (ν := ν) (k := 2) (show ((0 : Nat) : Int) = 0 from rfl) (show ((0 : Nat) : Int) = 0 from rfl) (show ((100 : Nat) : Int) = 100 from rfl)) (by omega) (by omega) (by omega) (by omega)) (fun h26 => ?_) (fun h26 => ?_)
                      · replace hP := zE_p hP h26
                        obtain ⟨Z27, hZ27⟩ := zx (zu Z24 1 0 0 2 2)
                        replace hP := zl_e hP hZ27
                        have hZ27I := zM_u hZ24I hZ27 (lo := -2147483648) (hi := 2147483647) (by decide) rfl (by omega) ⟨by decide, by decide⟩ (Or.inr (by decide)) rfl
                        have hZ27U : zU [] Z Z27 := zU_u hZ24U hZ27 (Or.inl rfl)
                        have hZ27K : zC [1, 2] Z Z27 := zC_u hZ24K hZ27 (by decide)
                        intro μ9 e9
                        replace e9 := e9.trans (zm_wI (Z := Z24) (ν := ν) hZ27 (show ((0 : Nat) : Int) = 0 from rfl) (show ((0 : Nat) : Int) = 0 from rfl) (show ((2 : Nat) : Int) = 2 from rfl) (show (2 : Int32) = i3 2 from rfl))
                        subst e9
                        exact zlY hP (show (0 : Int32) = i3 0 from rfl) (.inl rfl) ⟨hZ27I, hZ27K, hZ27U⟩
                      · replace hP := zE_n hP h26
                        obtain ⟨Z28, hZ28⟩ := zx (zu Z24 1 0 0 2 0)
                        replace hP := zl_e hP hZ28
                        have hZ28I := zM_0 hZ24I hZ28 (by decide) (Or.inr (by decide))
                        have hZ28U : zU [] Z Z28 := zU_u hZ24U hZ28 (Or.inl rfl)
                        have hZ28K : zC [1, 2] Z Z28 := zC_u hZ24K hZ28 (by decide)
                        intro μ9 e9
                        replace e9 := e9.trans (zm_wI (Z := Z24) (ν := ν) hZ28 (show ((0 : Nat) : Int) = 0 from rfl) (show ((0 : Nat) : Int) = 0 from rfl) (show ((2 : Nat) : Int) = 2 from rfl) (show (0 : Int32) = i3 0 from rfl))
                        subst e9
                        have r29 := zM_k hZ28I 1 0 0 35 (lo := 0) (hi := 1) (by decide) rfl
                        have q30 := (zu_ne (k' := 1) (b' := 0) (i' := 0) (j' := 35) hZ28 (fun q => absurd q.2.2.2 (by decide))).trans (zu_ne (k' := 1) (b' := 0) (i' := 0) (j' := 35) hZ24 (fun q => absurd q.2.2.2 (by decide)))
                        refine wz_i1 (Eq.trans (i3NE (zm_rd (Z := Z28) (ν := ν) (k := 1) (show ((0 : Nat) : Int) = 0 from rfl) (show ((0 : Nat) : Int) = 0 from rfl) (show ((35 : Nat) : Int) = 35 from rfl)) (show (0 : Int32) = i3 0 from rfl) (by omega) (by omega) (by omega) (by omega)) (decide_eq_true (by omega))) ?_
                        replace hP := zl_q hP (rfl : _ = Z28)
                        have r31 := zM_k hZ28I 2 0 0 100 (lo := 0) (hi := 5) (by decide) rfl
                        have q32 := zu_ne (k' := 2) (b' := 0) (i' := 0) (j' := 100) hZ28 (fun q => absurd q.1 (by decide))
                        refine wz_i0 (i3O (n := 4400) (i3A (show (110 : Int32) = i3 110 from rfl) (i3M (show (5 : Int32) = i3 5 from rfl) (zm_rd (Z := Z28) (ν := ν) (k := 2) (show ((0 : Nat) : Int) = 0 from rfl) (show ((0 : Nat) : Int) = 0 from rfl) (show ((100 : Nat) : Int) = 100 from rfl)))) (by omega) (by omega) (by omega)) ?_
                        obtain ⟨Z33, hZ33⟩ := zx (zu Z28 2 0 0 (110 + 5 * (Z28 2 0 0 100)) a1)
                        replace hP := zl_e hP hZ33
                        have hZ33I := zM_u2 hZ28I hZ33 (lo := 0) (hi := 9) (zs_110_0 (x := (Z28 2 0 0 100)) (by omega) (by omega) (by omega)) (by omega) ⟨by decide, by decide⟩ (by simp only [zsp]; omega)
                        have hZ33U : zU [] Z Z33 := zU_u hZ28U hZ33 (Or.inl rfl)
                        have hZ33K : zC [1, 2] Z Z33 := zC_u hZ28K hZ33 (zcl_2w (by omega) rfl)
                        intro μ9 e9
                        replace e9 := e9.trans (zm_wI (Z := Z28) (ν := ν) hZ33 (show ((0 : Nat) : Int) = 0 from rfl) (show ((0 : Nat) : Int) = 0 from rfl) (i3I (y := (110 + 5 * (Z28 2 0 0 100))) (i3A (show (110 : Int32) = i3 110 from rfl) (i3M (show (5 : Int32) = i3 5 from rfl) (zm_rd (Z := Z28) (ν := ν) (k := 2) (show ((0 : Nat) : Int) = 0 from rfl) (show ((0 : Nat) : Int) = 0 from rfl) (show ((100 : Nat) : Int) = 100 from rfl)))) (by omega) (by omega) (by omega)) (rfl : i3 a1 = i3 a1))
                        subst e9
                        refine wz_i0 (i3O (n := 4400) (i3A (i3A (show (110 : Int32) = i3 110 from rfl) (i3M (show (5 : Int32) = i3 5 from rfl) (zm_rd (Z := Z28) (ν := ν) (k := 2) (show ((0 : Nat) : Int) = 0 from rfl) (show ((0 : Nat) : Int) = 0 from rfl) (show ((100 : Nat) : Int) = 100 from rfl)))) (show (1 : Int32) = i3 1 from rfl)) (by omega) (by omega) (by omega)) ?_
                        obtain ⟨Z34, hZ34⟩ := zx (zu Z33 2 0 0 (111 + 5 * (Z28 2 0 0 100)) a2)
                        replace hP := zl_e hP hZ34
                        have hZ34I := zM_u2 hZ33I hZ34 (lo := 0) (hi := 12) (zs_110_1 (x := (Z28 2 0 0 100)) (by omega) (by omega) (by omega)) (by omega) ⟨by decide, by decide⟩ (by simp only [zsp]; omega)
                        have hZ34U : zU [] Z Z34 := zU_u hZ33U hZ34 (Or.inl rfl)
                        have hZ34K : zC [1, 2] Z Z34 := zC_u hZ33K hZ34 (zcl_2w (by omega) rfl)
                        intro μ9 e9
                        replace e9 := e9.trans (zm_wI (Z := Z33) (ν := ν) hZ34 (show ((0 : Nat) : Int) = 0 from rfl) (show ((0 : Nat) : Int) = 0 from rfl) (i3I (y := (111 + 5 * (Z28 2 0 0 100))) (i3A (i3A (show (110 : Int32) = i3 110 from rfl) (i3M (show (5 : Int32) = i3 5 from rfl) (zm_rd (Z := Z28) (ν := ν) (k := 2) (show ((0 : Nat) : Int) = 0 from rfl) (show ((0 : Nat) : Int) = 0 from rfl) (show ((100 : Nat) : Int) = 100 from rfl)))) (show (1 : Int32) = i3 1 from rfl)) (by omega) (by omega) (by omega)) (rfl : i3 a2 = i3 a2))
                        subst e9
                        refine wz_i0 (i3O (n := 4400) (i3A (i3A (show (110 : Int32) = i3 110 from rfl) (i3M (show (5 : Int32) = i3 5 from rfl) (zm_rd (Z := Z28) (ν := ν) (k := 2) (show ((0 : Nat) : Int) = 0 from rfl) (show ((0 : Nat) : Int) = 0 from rfl) (show ((100 : Nat) : Int) = 100 from rfl)))) (show (2 : Int32) = i3 2 from rfl)) (by omega) (by omega) (by omega)) ?_
                        obtain ⟨Z35, hZ35⟩ := zx (zu Z34 2 0 0 (112 + 5 * (Z28 2 0 0 100)) a3)
                        replace hP := zl_e hP hZ35
                        have hZ35I := zM_u2 hZ34I hZ35 (lo := 0) (hi := 12) (zs_110_2 (x := (Z28 2 0 0 100)) (by omega) (by omega) (by omega)) (by omega) ⟨by decide, by decide⟩ (by simp only [zsp]; omega)
                        have hZ35U : zU [] Z Z35 := zU_u hZ34U hZ35 (Or.inl rfl)
                        have hZ35K : zC [1, 2] Z Z35 := zC_u hZ34K hZ35 (zcl_2w (by omega) rfl)
                        intro μ9 e9
                        replace e9 := e9.trans (zm_wI (Z := Z34) (ν := ν) hZ35 (show ((0 : Nat) : Int) = 0 from rfl) (show ((0 : Nat) : Int) = 0 from rfl) (i3I (y := (112 + 5 * (Z28 2 0 0 100))) (i3A (i3A (show (110 : Int32) = i3 110 from rfl) (i3M (show (5 : Int32) = i3 5 from rfl) (zm_rd (Z := Z28) (ν := ν) (k := 2) (show ((0 : Nat) : Int) = 0 from rfl) (show ((0 : Nat) : Int) = 0 from rfl) (show ((100 : Nat) : Int) = 100 from rfl)))) (show (2 : Int32) = i3 2 from rfl)) (by omega) (by omega) (by omega)) (rfl : i3 a3 = i3 a3))
                        subst e9
                        refine wz_i0 (i3O (n := 4400) (i3A (i3A (show (110 : Int32) = i3 110 from rfl) (i3M (show (5 : Int32) = i3 5 from rfl) (zm_rd (Z := Z28) (ν := ν) (k := 2) (show ((0 : Nat) : Int) = 0 from rfl) (show ((0 : Nat) : Int) = 0 from rfl) (show ((100 : Nat) : Int) = 100 from rfl)))) (show (3 : Int32) = i3 3 from rfl)) (by omega) (by omega) (by omega)) ?_
                        obtain ⟨Z36, hZ36⟩ := zx (zu Z35 2 0 0 (113 + 5 * (Z28 2 0 0 100)) a4)
                        replace hP := zl_e hP hZ36
                        have hZ36I := zM_u2 hZ35I hZ36 (lo := 0) (hi := 600) (zs_110_3 (x := (Z28 2 0 0 100)) (by omega) (by omega) (by omega)) (by omega) ⟨by decide, by decide⟩ (by simp only [zsp]; omega)
                        have hZ36U : zU [] Z Z36 := zU_u hZ35U hZ36 (Or.inl rfl)
                        have hZ36K : zC [1, 2] Z Z36 := zC_u hZ35K hZ36 (zcl_2w (by omega) rfl)
                        intro μ9 e9
                        replace e9 := e9.trans (zm_wI (Z := Z35) (ν := ν) hZ36 (show ((0 : Nat) : Int) = 0 from rfl) (show ((0 : Nat) : Int) = 0 from rfl) (i3I (y := (113 + 5 * (Z28 2 0 0 100))) (i3A (i3A (show (110 : Int32) = i3 110 from rfl) (i3M (show (5 : Int32) = i3 5 from rfl) (zm_rd (Z := Z28) (ν := ν) (k := 2) (show ((0 : Nat) : Int) = 0 from rfl) (show ((0 : Nat) : Int) = 0 from rfl) (show ((100 : Nat) : Int) = 100 from rfl)))) (show (3 : Int32) = i3 3 from rfl)) (by omega) (by omega) (by omega)) (rfl : i3 a4 = i3 a4))
                        subst e9
                        refine wz_i0 (i3O (n := 4400) (i3A (i3A (show (110 : Int32) = i3 110 from rfl) (i3M (show (5 : Int32) = i3 5 from rfl) (zm_rd (Z := Z28) (ν := ν) (k := 2) (show ((0 : Nat) : Int) = 0 from rfl) (show ((0 : Nat) : Int) = 0 from rfl) (show ((100 : Nat) : Int) = 100 from rfl)))) (show (4 : Int32) = i3 4 from rfl)) (by omega) (by omega) (by omega)) ?_
                        obtain ⟨Z37, hZ37⟩ := zx (zu Z36 2 0 0 (114 + 5 * (Z28 2 0 0 100)) a5)
                        replace hP := zl_e hP hZ37
                        have hZ37I := zM_u2 hZ36I hZ37 (lo := 0) (hi := 99) (zs_110_4 (x := (Z28 2 0 0 100)) (by omega) (by omega) (by omega)) (by omega) ⟨by decide, by decide⟩ (by simp only [zsp]; omega)
                        have hZ37U : zU [] Z Z37 := zU_u hZ36U hZ37 (Or.inl rfl)
                        have hZ37K : zC [1, 2] Z Z37 := zC_u hZ36K hZ37 (zcl_2w (by omega) rfl)
                        intro μ9 e9
                        replace e9 := e9.trans (zm_wI (Z := Z36) (ν := ν) hZ37 (show ((0 : Nat) : Int) = 0 from rfl) (show ((0 : Nat) : Int) = 0 from rfl) (i3I (y := (114 + 5 * (Z28 2 0 0 100))) (i3A (i3A (show (110 : Int32) = i3 110 from rfl) (i3M (show (5 : Int32) = i3 5 from rfl) (zm_rd (Z := Z28) (ν := ν) (k := 2) (show ((0 : Nat) : Int) = 0 from rfl) (show ((0 : Nat) : Int) = 0 from rfl) (show ((100 : Nat) : Int) = 100 from rfl)))) (show (4 : Int32) = i3 4 from rfl)) (by omega) (by omega) (by omega)) (rfl : i3 a5 = i3 a5))
                        subst e9
                        have r38 := zM_k hZ37I 2 0 0 100 (lo := 0) (hi := 5) (by decide) rfl
                        have q39 := (zu_ne (k' := 2) (b' := 0) (i' := 0) (j' := 100) hZ37 (fun q => absurd q.2.2.2 (by omega))).trans ((zu_ne (k' := 2) (b' := 0) (i' := 0) (j' := 100) hZ36 (fun q => absurd q.2.2.2 (by omega))).trans ((zu_ne (k' := 2) (b' := 0) (i' := 0) (j' := 100) hZ35 (fun q => absurd q.2.2.2 (by omega))).trans ((zu_ne (k' := 2) (b' := 0) (i' := 0) (j' := 100) hZ34 (fun q => absurd q.2.2.2 (by omega))).trans (zu_ne (k' := 2) (b' := 0) (i' := 0) (j' := 100) hZ33 (fun q => absurd q.2.2.2 (by omega))))))
                        obtain ⟨Z40, hZ40⟩ := zx (zu Z37 2 0 0 100 ((Z37 2 0 0 100) + 1))
                        replace hP := zl_e hP hZ40
                        have hZ40I := zM_u2 hZ37I hZ40 (lo := 0) (hi := 5) rfl (by omega) ⟨by decide, by decide⟩ (by simp only [zsp]; omega)
                        have hZ40U : zU [] Z Z40 := zU_u hZ37U hZ40 (Or.inl rfl)
                        have hZ40K : zC [1, 2] Z Z40 := zC_u hZ37K hZ40 (by decide)
                        intro μ9 e9
                        replace e9 := e9.trans (zm_wI (Z := Z37) (ν := ν) hZ40 (show ((0 : Nat) : Int) = 0 from rfl) (show ((0 : Nat) : Int) = 0 from rfl) (show ((100 : Nat) : Int) = 100 from rfl) (i3A (zm_rd (Z := Z37) (ν := ν) (k := 2) (show ((0 : Nat) : Int) = 0 from rfl) (show ((0 : Nat) : Int) = 0 from rfl) (show ((100 : Nat) : Int) = 100 from rfl)) (show (1 : Int32) = i3 1 from rfl)))
                        subst e9
                        exact zlY hP (zm_rd (Z := Z28) (ν := ν) (k := 2) (show ((0 : Nat) : Int) = 0 from rfl) (show ((0 : Nat) : Int) = 0 from rfl) (show ((100 : Nat) : Int) = 100 from rfl)) (.inl rfl) ⟨hZ40I, hZ40K, hZ40U⟩
/- yX12_xPallets -/
def zl_561_1 (x1 : Int) : Nat → qz_Z → Int → Int → Int × Int
  | 0, Z, x2, x3 => (x2, x3)
  | m + 1, Z, x2, x3 => (if (Z 2 0 0 102) ≤ x3 then (x2, x3) else (if (Z 2 0 0 (210 + 20 * x3)) ≠ x1 then zl_561_1 x1 m Z (x2 + 0) (x3 + 1) else zl_561_1 x1 m Z (x2 + 1) (x3 + 1)))
theorem sl_561_1 {s : zSM} {Z : qz_Z} {ν : qz_N} (hZ : zM s Z) (hM : s.2 + 0 ≤ 1000000000) {x1 : Int} (gx1 : 0 ≤ x1 ∧ x1 ≤ 4) {x2 : Int} (gx2 : 0 ≤ x2 ∧ x2 ≤ 48) {x3 : Int} (gx3 : 0 ≤ x3 ∧ x3 ≤ 48) (gr0 : x2 ≤ x3) {k : wz_K} {R : wz_R} {L : qz_L} (hL : qz_fg [true, true, true, true] L = [some (.inr (.inr (some (1, 0, 0)))), some (.inl (i3 x1)), some (.inl (i3 x2)), some (.inl (i3 x3))]) {T : Int × Int} (hP : zE T (zl_561_1 x1 ((48 - x3).toNat + 1) Z x2 x3)) (hk : ∀ (L9 : qz_L) (yx2 yx3 : Int), qz_fg [false, false, true, false] L9 = [none, none, some (.inl (i3 yx2)), none] → (0 ≤ yx2 ∧ yx2 ≤ 48) → (0 ≤ yx3 ∧ yx3 ≤ 48) → (yx2 ≤ yx3) → zE T ((yx2, yx3)) → k 0 (L9, [], zm Z ν)) : wz_loop qb_561_1 65536 k R (L, [], zm Z ν) := by
  refine wz_lp sb_561_1 (fun m x => ∃ x2 : Int, ∃ x3 : Int, qz_fg [true, true, true, true] x.1 = [some (.inr (.inr (some (1, 0, 0)))), some (.inl (i3 x1)), some (.inl (i3 x2)), some (.inl (i3 x3))] ∧ x.2 = ([], zm Z ν) ∧ m = (48 - x3).toNat ∧ (0 ≤ x2 ∧ x2 ≤ 48) ∧ (0 ≤ x3 ∧ x3 ≤ 48) ∧ (x2 ≤ x3) ∧ zE T (zl_561_1 x1 (m + 1) Z x2 x3)) ?_ 65536 ((48 - x3).toNat) _ (by omega) ⟨x2, x3, hL, rfl, rfl, gx2, gx3, gr0, hP⟩
  clear hP gr0 gx2 gx3 hL
  clear x2 x3
  rintro m ⟨L, st, μ⟩ ⟨x2, x3, hL, hx, hm, gx2, gx3, gr0, hP⟩
  cases hx
  refine fb_561_1 (i3 x1) (i3 x2) (i3 x3) _ _ _ _ hL ?_
  have r1 := zM_k hZ 2 0 0 102 (lo := 0) (hi := 48) (by decide) rfl
  refine wz_br (i3Le (zm_rd (Z := Z) (ν := ν) (k := 2) (show ((0 : Nat) : Int) = 0 from rfl) (show ((0 : Nat) : Int) = 0 from rfl) (show ((102 : Nat) : Int) = 102 from rfl)) (rfl : i3 x3 = i3 x3) (by omega) (by omega) (by omega) (by omega)) (fun h2 => ?_) (fun h2 => ?_)
  · replace hP := zE_p hP h2
    exact hk _ _ _ (zconso rfl (zconso rfl (zconso (zvo (rfl : i3 x2 = i3 x2)) (zconso rfl rfl))))  (by omega) (by omega) (by omega) hP
  · replace hP := zE_n hP h2
    refine wz_i0 (i3O (n := 4400) (i3A (i3A (show (200 : Int32) = i3 200 from rfl) (i3M (show (20 : Int32) = i3 20 from rfl) (rfl : i3 x3 = i3 x3))) (show (10 : Int32) = i3 10 from rfl)) (by omega) (by omega) (by omega)) ?_
    have r3 := zM_k hZ 2 0 0 (210 + 20 * x3) (lo := 0) (hi := 4) (by decide) (zs_200_10 (x := x3) (by omega) (by omega) (by omega))
    have r4 := zM_pl hZ x3
    refine wz_br (i3NE (zm_rd (Z := Z) (ν := ν) (k := 2) (show ((0 : Nat) : Int) = 0 from rfl) (show ((0 : Nat) : Int) = 0 from rfl) (i3I (y := (210 + 20 * x3)) (i3A (i3A (show (200 : Int32) = i3 200 from rfl) (i3M (show (20 : Int32) = i3 20 from rfl) (rfl : i3 x3 = i3 x3))) (show (10 : Int32) = i3 10 from rfl)) (by omega) (by omega) (by omega))) (rfl : i3 x1 = i3 x1) (by omega) (by omega) (by omega) (by omega)) (fun h5 => ?_) (fun h5 => ?_)
    · replace hP := zE_p hP h5
      obtain ⟨m2, rfl⟩ : ∃ m2, m = m2 + 1 := ⟨m - 1, by omega⟩
      exact wz_k1 ⟨m2, by omega, (x2 + 0), (x3 + 1), (zconso rfl (zconso (zvo (rfl : i3 x1 = i3 x1)) (zconso (zvo (i3A (rfl : i3 x2 = i3 x2) (show (0 : Int32) = i3 0 from rfl))) (zconso (zvo (i3A (rfl : i3 x3 = i3 x3) (show (1 : Int32) = i3 1 from rfl))) rfl)))), rfl,  by omega, by omega, by omega, by omega,  hP⟩
    · replace hP := zE_n hP h5
      obtain ⟨m2, rfl⟩ : ∃ m2, m = m2 + 1 := ⟨m - 1, by omega⟩
      exact wz_k1 ⟨m2, by omega, (x2 + 1), (x3 + 1), (zconso rfl (zconso (zvo (rfl : i3 x1 = i3 x1)) (zconso (zvo (i3A (rfl : i3 x2 = i3 x2) (show (1 : Int32) = i3 1 from rfl))) (zconso (zvo (i3A (rfl : i3 x3 = i3 x3) (show (1 : Int32) = i3 1 from rfl))) rfl)))), rfl,  by omega, by omega, by omega, by omega,  hP⟩
/- yX12_xPallets -/
def zf_561 (Z : qz_Z) (a1 : Int) : Int := (zlet2 (zl_561_1 a1 49 Z 0 0) (fun y1 y2 => y1))
theorem sp_561 {s : zSM} {Z : qz_Z} {ν : qz_N} (hZ : zM s Z) {a1 : Int} (ga1 : 0 ≤ a1 ∧ a1 ≤ 4) (hM : s.2 + 0 ≤ 1000000000) : ∃ P : Int, P = zf_561 Z a1 ∧ (qf_561 [.inr (.inr (some (1, 0, 0))), .inl (i3 a1)] (zm Z ν) = some (zm Z ν, .inl (some (.inl (i3 P)))) ∧ 0 ≤ P ∧ P ≤ 48) := by
  obtain ⟨P, hP⟩ := zx (zf_561 Z a1)
  refine zc_R (Q := fun P => 0 ≤ P ∧ P ≤ 48) hP (fw_561 (i3 a1) _ _ ?_)
  replace hP : zE P (zf_561 Z a1) := hP
  unfold zf_561 at hP
  refine sl_561_1 (ν := ν) hZ (zbh (c := 0) (k := 0) hM (Nat.le_of_ble_eq_true rfl)) (x1 := a1) (by omega) (x2 := 0) (by omega) (x3 := 0) (by omega) (by omega) (zconso rfl (zconso (zvo (rfl : i3 a1 = i3 a1)) (zconso (zvo (show (0 : Int32) = i3 0 from rfl)) (zconso (zvo (show (0 : Int32) = i3 0 from rfl)) rfl)))) rfl ?_
  intro L3 y1 y2 hL3 gy1 gy2 gL3_0 q9
  replace hP := zl_e2 hP (Eq.symm q9)
  clear q9
  refine fc_561_2 (i3 y1) _ _ _ _ hL3 ?_
  exact zlR hP (rfl : i3 y1 = i3 y1) ⟨by omega, by omega⟩
/- yX12_xParcels -/
def zl_562_1 (x1 : Int) : Nat → qz_Z → Int → Int → Int × Int
  | 0, Z, x2, x3 => (x2, x3)
  | m + 1, Z, x2, x3 => (if (Z 2 0 0 2000) ≤ x3 then (x2, x3) else (if (Z 2 0 0 (2019 + 16 * x3)) ≠ x1 then zl_562_1 x1 m Z (x2 + 0) (x3 + 1) else zl_562_1 x1 m Z (x2 + 1) (x3 + 1)))
theorem sl_562_1 {s : zSM} {Z : qz_Z} {ν : qz_N} (hZ : zM s Z) (hM : s.2 + 0 ≤ 1000000000) {x1 : Int} (gx1 : 0 ≤ x1 ∧ x1 ≤ 3) {x2 : Int} (gx2 : 0 ≤ x2 ∧ x2 ≤ 60) {x3 : Int} (gx3 : 0 ≤ x3 ∧ x3 ≤ 60) (gr0 : x2 ≤ x3) {k : wz_K} {R : wz_R} {L : qz_L} (hL : qz_fg [true, true, true, true] L = [some (.inr (.inr (some (1, 0, 0)))), some (.inl (i3 x1)), some (.inl (i3 x2)), some (.inl (i3 x3))]) {T : Int × Int} (hP : zE T (zl_562_1 x1 ((60 - x3).toNat + 1) Z x2 x3)) (hk : ∀ (L9 : qz_L) (yx2 yx3 : Int), qz_fg [false, false, true, false] L9 = [none, none, some (.inl (i3 yx2)), none] → (0 ≤ yx2 ∧ yx2 ≤ 60) → (0 ≤ yx3 ∧ yx3 ≤ 60) → (yx2 ≤ yx3) → zE T ((yx2, yx3)) → k 0 (L9, [], zm Z ν)) : wz_loop qb_562_1 65536 k R (L, [], zm Z ν) := by
  refine wz_lp sb_562_1 (fun m x => ∃ x2 : Int, ∃ x3 : Int, qz_fg [true, true, true, true] x.1 = [some (.inr (.inr (some (1, 0, 0)))), some (.inl (i3 x1)), some (.inl (i3 x2)), some (.inl (i3 x3))] ∧ x.2 = ([], zm Z ν) ∧ m = (60 - x3).toNat ∧ (0 ≤ x2 ∧ x2 ≤ 60) ∧ (0 ≤ x3 ∧ x3 ≤ 60) ∧ (x2 ≤ x3) ∧ zE T (zl_562_1 x1 (m + 1) Z x2 x3)) ?_ 65536 ((60 - x3).toNat) _ (by omega) ⟨x2, x3, hL, rfl, rfl, gx2, gx3, gr0, hP⟩
  clear hP gr0 gx2 gx3 hL
  clear x2 x3
  rintro m ⟨L, st, μ⟩ ⟨x2, x3, hL, hx, hm, gx2, gx3, gr0, hP⟩
  cases hx
  refine fb_562_1 (i3 x1) (i3 x2) (i3 x3) _ _ _ _ hL ?_
  have r1 := zM_k hZ 2 0 0 2000 (lo := 0) (hi := 60) (by decide) rfl
  refine wz_br (i3Le (zm_rd (Z := Z) (ν := ν) (k := 2) (show ((0 : Nat) : Int) = 0 from rfl) (show ((0 : Nat) : Int) = 0 from rfl) (show ((2000 : Nat) : Int) = 2000 from rfl)) (rfl : i3 x3 = i3 x3) (by omega) (by omega) (by omega) (by omega)) (fun h2 => ?_) (fun h2 => ?_)
  · replace hP := zE_p hP h2
    exact hk _ _ _ (zconso rfl (zconso rfl (zconso (zvo (rfl : i3 x2 = i3 x2)) (zconso rfl rfl))))  (by omega) (by omega) (by omega) hP
  · replace hP := zE_n hP h2
    refine wz_i0 (i3O (n := 4400) (i3A (i3A (show (2010 : Int32) = i3 2010 from rfl) (i3M (show (16 : Int32) = i3 16 from rfl) (rfl : i3 x3 = i3 x3))) (show (9 : Int32) = i3 9 from rfl)) (by omega) (by omega) (by omega)) ?_
    have r3 := zM_k hZ 2 0 0 (2019 + 16 * x3) (lo := 0) (hi := 3) (by decide) (zs_2010_9 (x := x3) (by omega) (by omega) (by omega))
    have r4 := zM_lt2 hZ x3
    refine wz_br (i3NE (zm_rd (Z := Z) (ν := ν) (k := 2) (show ((0 : Nat) : Int) = 0 from rfl) (show ((0 : Nat) : Int) = 0 from rfl) (i3I (y := (2019 + 16 * x3)) (i3A (i3A (show (2010 : Int32) = i3 2010 from rfl) (i3M (show (16 : Int32) = i3 16 from rfl) (rfl : i3 x3 = i3 x3))) (show (9 : Int32) = i3 9 from rfl)) (by omega) (by omega) (by omega))) (rfl : i3 x1 = i3 x1) (by omega) (by omega) (by omega) (by omega)) (fun h5 => ?_) (fun h5 => ?_)
    · replace hP := zE_p hP h5
      obtain ⟨m2, rfl⟩ : ∃ m2, m = m2 + 1 := ⟨m - 1, by omega⟩
      exact wz_k1 ⟨m2, by omega, (x2 + 0), (x3 + 1), (zconso rfl (zconso (zvo (rfl : i3 x1 = i3 x1)) (zconso (zvo (i3A (rfl : i3 x2 = i3 x2) (show (0 : Int32) = i3 0 from rfl))) (zconso (zvo (i3A (rfl : i3 x3 = i3 x3) (show (1 : Int32) = i3 1 from rfl))) rfl)))), rfl,  by omega, by omega, by omega, by omega,  hP⟩
    · replace hP := zE_n hP h5
      obtain ⟨m2, rfl⟩ : ∃ m2, m = m2 + 1 := ⟨m - 1, by omega⟩
      exact wz_k1 ⟨m2, by omega, (x2 + 1), (x3 + 1), (zconso rfl (zconso (zvo (rfl : i3 x1 = i3 x1)) (zconso (zvo (i3A (rfl : i3 x2 = i3 x2) (show (1 : Int32) = i3 1 from rfl))) (zconso (zvo (i3A (rfl : i3 x3 = i3 x3) (show (1 : Int32) = i3 1 from rfl))) rfl)))), rfl,  by omega, by omega, by omega, by omega,  hP⟩
/- yX12_xParcels -/
def zf_562 (Z : qz_Z) (a1 : Int) : Int := (zlet2 (zl_562_1 a1 61 Z 0 0) (fun y1 y2 => y1))
theorem sp_562 {s : zSM} {Z : qz_Z} {ν : qz_N} (hZ : zM s Z) {a1 : Int} (ga1 : 0 ≤ a1 ∧ a1 ≤ 3) (hM : s.2 + 0 ≤ 1000000000) : ∃ P : Int, P = zf_562 Z a1 ∧ (qf_562 [.inr (.inr (some (1, 0, 0))), .inl (i3 a1)] (zm Z ν) = some (zm Z ν, .inl (some (.inl (i3 P)))) ∧ 0 ≤ P ∧ P ≤ 60) := by
  obtain ⟨P, hP⟩ := zx (zf_562 Z a1)
  refine zc_R (Q := fun P => 0 ≤ P ∧ P ≤ 60) hP (fw_562 (i3 a1) _ _ ?_)
  replace hP : zE P (zf_562 Z a1) := hP
  unfold zf_562 at hP
  refine sl_562_1 (ν := ν) hZ (zbh (c := 0) (k := 0) hM (Nat.le_of_ble_eq_true rfl)) (x1 := a1) (by omega) (x2 := 0) (by omega) (x3 := 0) (by omega) (by omega) (zconso rfl (zconso (zvo (rfl : i3 a1 = i3 a1)) (zconso (zvo (show (0 : Int32) = i3 0 from rfl)) (zconso (zvo (show (0 : Int32) = i3 0 from rfl)) rfl)))) rfl ?_
  intro L3 y1 y2 hL3 gy1 gy2 gL3_0 q9
  replace hP := zl_e2 hP (Eq.symm q9)
  clear q9
  refine fc_562_2 (i3 y1) _ _ _ _ hL3 ?_
  exact zlR hP (rfl : i3 y1 = i3 y1) ⟨by omega, by omega⟩
/- yX12_sum -/
def zy_504 (Z : qz_Z) (a1 : Int) : qz_Z × Int := (if a1 < 0 then (zlet (zu Z 1 0 0 2 1) (fun Z5 => (Z5, 0))) else (if 23 < a1 then (zlet (zu Z 1 0 0 2 1) (fun Z7 => (Z7, 0))) else (zlet (zu Z 1 0 0 2 0) (fun Z8 => (if a1 < 5 then (if a1 = 0 then (Z8, (Z8 2 0 0 0)) else (if a1 = 1 then (Z8, (Z8 2 0 0 100)) else (if a1 = 2 then (Z8, (Z8 2 0 0 101)) else (if a1 = 3 then (Z8, (Z8 2 0 0 1200)) else (Z8, (Z8 2 0 0 102)))))) else (if 9 < a1 then (if a1 < 13 then (if a1 = 10 then (Z8, (Z8 2 0 0 1400)) else (if a1 = 11 then (Z8, (Z8 2 0 0 1401)) else (Z8, (Z8 2 0 0 2000)))) else (if 16 < a1 then (if a1 < 0 ∨ 22 < a1 then (Z8, (Z8 1 0 0 49)) else (if a1 = 17 then (Z8, (Z8 2 0 0 3000)) else (if a1 = 18 then (Z8, (Z8 2 0 0 3200)) else (if a1 = 19 then (Z8, (Z8 2 0 0 3500)) else (if a1 = 20 then (Z8, (Z8 2 0 0 3815)) else (if a1 = 21 then (Z8, (Z8 1 0 0 37)) else (Z8, (Z8 1 0 0 34)))))))) else (zlet (zf_562 Z8 (a1 - 13)) (fun v42 => (Z8, v42))))) else (zlet (zf_561 Z8 (a1 - 5)) (fun v43 => (Z8, v43)))))))))
theorem sy_504 {s : zSM} {Z : qz_Z} {ν : qz_N} (hZ : zM s Z) (gq : Z 1 0 0 35 = 0) (hM : s.2 + 0 ≤ 1000000000) {a1 : Int} (ga1 : -2147483648 ≤ a1 ∧ a1 ≤ 2147483647) {ν1 : qz_N} : ∃ (Z1 : qz_Z) (ν2 : qz_N) (v : Int), (Z1, v) = zy_504 Z a1 ∧ (ν2 = ν ∨ ν2 = ν1) ∧ qf_504 [.inr (.inr (some (1, 0, 0))), .inl (i3 a1)] (zm Z ν) = some (zm Z1 ν2, .inl (some (.inl (i3 v)))) ∧ (fun Z1 => zM s Z1 ∧ zC [1] Z Z1 ∧ zU [] Z Z1) Z1 := by
  obtain ⟨P, hP⟩ := zx (zy_504 Z a1)
  refine zc_Y (Q := fun Z1 => zM s Z1 ∧ zC [1] Z Z1 ∧ zU [] Z Z1) hP (fw_504 (i3 a1) _ _ ?_)
  replace hP : zE P (zy_504 Z a1) := hP
  unfold zy_504 at hP
  have r1 := zM_k hZ 1 0 0 35 (lo := 0) (hi := 1) (by decide) rfl
  have r2 := zM_k hZ 1 0 0 34 (lo := 0) (hi := 8) (by decide) rfl
  have r3 := zM_f hZ 1 0 0 37
  refine wz_br (i3L (rfl : i3 a1 = i3 a1) (show (0 : Int32) = i3 0 from rfl) (by omega) (by omega) (by omega) (by omega)) (fun h4 => ?_) (fun h4 => ?_)
  · replace hP := zE_p hP h4
    obtain ⟨Z5, hZ5⟩ := zx (zu Z 1 0 0 2 1)
    replace hP := zl_e hP hZ5
    have hZ5I := zM_u hZ hZ5 (lo := -2147483648) (hi := 2147483647) (by decide) rfl (by omega) ⟨by decide, by decide⟩ (Or.inr (by decide)) rfl
    have hZ5U : zU [] Z Z5 := zU_u zU_r hZ5 (Or.inl rfl)
    have hZ5K : zC [1] Z Z5 := zC_u zC_r hZ5 (by decide)
    intro μ9 e9
    replace e9 := e9.trans (zm_wI (Z := Z) (ν := ν) hZ5 (show ((0 : Nat) : Int) = 0 from rfl) (show ((0 : Nat) : Int) = 0 from rfl) (show ((2 : Nat) : Int) = 2 from rfl) (show (1 : Int32) = i3 1 from rfl))
    subst e9
    exact zlY hP (show (0 : Int32) = i3 0 from rfl) (.inl rfl) ⟨hZ5I, hZ5K, hZ5U⟩
  · replace hP := zE_n hP h4
    refine wz_br (i3L (show (23 : Int32) = i3 23 from rfl) (rfl : i3 a1 = i3 a1) (by omega) (by omega) (by omega) (by omega)) (fun h6 => ?_) (fun h6 => ?_)
    · replace hP := zE_p hP h6
      obtain ⟨Z7, hZ7⟩ := zx (zu Z 1 0 0 2 1)
      replace hP := zl_e hP hZ7
      have hZ7I := zM_u hZ hZ7 (lo := -2147483648) (hi := 2147483647) (by decide) rfl (by omega) ⟨by decide, by decide⟩ (Or.inr (by decide)) rfl
      have hZ7U : zU [] Z Z7 := zU_u zU_r hZ7 (Or.inl rfl)
      have hZ7K : zC [1] Z Z7 := zC_u zC_r hZ7 (by decide)
      intro μ9 e9
      replace e9 := e9.trans (zm_wI (Z := Z) (ν := ν) hZ7 (show ((0 : Nat) : Int) = 0 from rfl) (show ((0 : Nat) : Int) = 0 from rfl) (show ((2 : Nat) : Int) = 2 from rfl) (show (1 : Int32) = i3 1 from rfl))
      subst e9
      exact zlY hP (show (0 : Int32) = i3 0 from rfl) (.inl rfl) ⟨hZ7I, hZ7K, hZ7U⟩
    · replace hP := zE_n hP h6
      obtain ⟨Z8, hZ8⟩ := zx (zu Z 1 0 0 2 0)
      replace hP := zl_e hP hZ8
      have hZ8I := zM_0 hZ hZ8 (by decide) (Or.inr (by decide))
      have hZ8U : zU [] Z Z8 := zU_u zU_r hZ8 (Or.inl rfl)
      have hZ8K : zC [1] Z Z8 := zC_u zC_r hZ8 (by decide)
      intro μ9 e9
      replace e9 := e9.trans (zm_wI (Z := Z) (ν := ν) hZ8 (show ((0 : Nat) : Int) = 0 from rfl) (show ((0 : Nat) : Int) = 0 from rfl) (show ((2 : Nat) : Int) = 2 from rfl) (show (0 : Int32) = i3 0 from rfl))
      subst e9
      refine wz_br (i3L (rfl : i3 a1 = i3 a1) (show (5 : Int32) = i3 5 from rfl) (by omega) (by omega) (by omega) (by omega)) (fun h9 => ?_) (fun h9 => ?_)
      · replace hP := zE_p hP h9
        refine wz_i1 (Eq.trans (i3L (rfl : i3 a1 = i3 a1) (show (13 : Int32) = i3 13 from rfl) (by omega) (by omega) (by omega) (by omega)) (decide_eq_true (by omega))) ?_
        refine wz_i0 (Eq.trans (i3To (rfl : i3 a1 = i3 a1) (by omega) (by omega)) (decide_eq_false (by omega))) ?_
        refine wz_br (i3T (rfl : i3 a1 = i3 a1) (by omega) (by omega)) (fun h10 => ?_) (fun h10 => ?_)
        · replace hP := zE_p hP h10
          have r11 := zM_k hZ8I 2 0 0 0 (lo := 0) (hi := 671) (by decide) rfl
          exact zlY hP (zm_rd (Z := Z8) (ν := ν) (k := 2) (show ((0 : Nat) : Int) = 0 from rfl) (show ((0 : Nat) : Int) = 0 from rfl) (show ((0 : Nat) : Int) = 0 from rfl)) (.inl rfl) ⟨hZ8I, hZ8K, hZ8U⟩
        · replace hP := zE_n hP h10
          refine wz_br (i3T (rfl : i3 a1 = i3 a1) (by omega) (by omega)) (fun h12 => ?_) (fun h12 => ?_)
          · replace hP := zE_p hP h12
            have r13 := zM_k hZ8I 2 0 0 100 (lo := 0) (hi := 5) (by decide) rfl
            exact zlY hP (zm_rd (Z := Z8) (ν := ν) (k := 2) (show ((0 : Nat) : Int) = 0 from rfl) (show ((0 : Nat) : Int) = 0 from rfl) (show ((100 : Nat) : Int) = 100 from rfl)) (.inl rfl) ⟨hZ8I, hZ8K, hZ8U⟩
          · replace hP := zE_n hP h12
            refine wz_br (i3T (rfl : i3 a1 = i3 a1) (by omega) (by omega)) (fun h14 => ?_) (fun h14 => ?_)
            · replace hP := zE_p hP h14
              have r15 := zM_k hZ8I 2 0 0 101 (lo := 0) (hi := 6) (by decide) rfl
              exact zlY hP (zm_rd (Z := Z8) (ν := ν) (k := 2) (show ((0 : Nat) : Int) = 0 from rfl) (show ((0 : Nat) : Int) = 0 from rfl) (show ((101 : Nat) : Int) = 101 from rfl)) (.inl rfl) ⟨hZ8I, hZ8K, hZ8U⟩
            · replace hP := zE_n hP h14
              refine wz_br (i3T (rfl : i3 a1 = i3 a1) (by omega) (by omega)) (fun h16 => ?_) (fun h16 => ?_)
              · replace hP := zE_p hP h16
                have r17 := zM_k hZ8I 2 0 0 1200 (lo := 0) (hi := 6) (by decide) rfl
                exact zlY hP (zm_rd (Z := Z8) (ν := ν) (k := 2) (show ((0 : Nat) : Int) = 0 from rfl) (show ((0 : Nat) : Int) = 0 from rfl) (show ((1200 : Nat) : Int) = 1200 from rfl)) (.inl rfl) ⟨hZ8I, hZ8K, hZ8U⟩
              · replace hP := zE_n hP h16
                refine wz_i1 (Eq.trans (i3T (rfl : i3 a1 = i3 a1) (by omega) (by omega)) (decide_eq_true (by omega))) ?_
                have r18 := zM_k hZ8I 2 0 0 102 (lo := 0) (hi := 48) (by decide) rfl
                exact zlY hP (zm_rd (Z := Z8) (ν := ν) (k := 2) (show ((0 : Nat) : Int) = 0 from rfl) (show ((0 : Nat) : Int) = 0 from rfl) (show ((102 : Nat) : Int) = 102 from rfl)) (.inl rfl) ⟨hZ8I, hZ8K, hZ8U⟩
      · replace hP := zE_n hP h9
        refine wz_br (i3L (show (9 : Int32) = i3 9 from rfl) (rfl : i3 a1 = i3 a1) (by omega) (by omega) (by omega) (by omega)) (fun h19 => ?_) (fun h19 => ?_)
        · replace hP := zE_p hP h19
          refine wz_br (i3L (rfl : i3 a1 = i3 a1) (show (13 : Int32) = i3 13 from rfl) (by omega) (by omega) (by omega) (by omega)) (fun h20 => ?_) (fun h20 => ?_)
          · replace hP := zE_p hP h20
            refine wz_i0 (Eq.trans (i3To (rfl : i3 a1 = i3 a1) (by omega) (by omega)) (decide_eq_false (by omega))) ?_
            refine wz_i0 (Eq.trans (i3T (rfl : i3 a1 = i3 a1) (by omega) (by omega)) (decide_eq_false (by omega))) ?_
            refine wz_i0 (Eq.trans (i3T (rfl : i3 a1 = i3 a1) (by omega) (by omega)) (decide_eq_false (by omega))) ?_
            refine wz_i0 (Eq.trans (i3T (rfl : i3 a1 = i3 a1) (by omega) (by omega)) (decide_eq_false (by omega))) ?_
            refine wz_i0 (Eq.trans (i3T (rfl : i3 a1 = i3 a1) (by omega) (by omega)) (decide_eq_false (by omega))) ?_
            refine wz_i0 (Eq.trans (i3T (rfl : i3 a1 = i3 a1) (by omega) (by omega)) (decide_eq_false (by omega))) ?_
            refine wz_i0 (Eq.trans (i3T (rfl : i3 a1 = i3 a1) (by omega) (by omega)) (decide_eq_false (by omega))) ?_
            refine wz_i0 (Eq.trans (i3T (rfl : i3 a1 = i3 a1) (by omega) (by omega)) (decide_eq_false (by omega))) ?_
            refine wz_i0 (Eq.trans (i3T (rfl : i3 a1 = i3 a1) (by omega) (by omega)) (decide_eq_false (by omega))) ?_
            refine wz_i0 (Eq.trans (i3T (rfl : i3 a1 = i3 a1) (by omega) (by omega)) (decide_eq_false (by omega))) ?_
            refine wz_i0 (Eq.trans (i3T (rfl : i3 a1 = i3 a1) (by omega) (by omega)) (decide_eq_false (by omega))) ?_
            refine wz_br (i3T (rfl : i3 a1 = i3 a1) (by omega) (by omega)) (fun h21 => ?_) (fun h21 => ?_)
            · replace hP := zE_p hP h21
              have r22 := zM_k hZ8I 2 0 0 1400 (lo := 0) (hi := 8) (by decide) rfl
              exact zlY hP (zm_rd (Z := Z8) (ν := ν) (k := 2) (show ((0 : Nat) : Int) = 0 from rfl) (show ((0 : Nat) : Int) = 0 from rfl) (show ((1400 : Nat) : Int) = 1400 from rfl)) (.inl rfl) ⟨hZ8I, hZ8K, hZ8U⟩
            · replace hP := zE_n hP h21
              refine wz_br (i3T (rfl : i3 a1 = i3 a1) (by omega) (by omega)) (fun h23 => ?_) (fun h23 => ?_)
              · replace hP := zE_p hP h23
                have r24 := zM_k hZ8I 2 0 0 1401 (lo := 0) (hi := 24) (by decide) rfl
                exact zlY hP (zm_rd (Z := Z8) (ν := ν) (k := 2) (show ((0 : Nat) : Int) = 0 from rfl) (show ((0 : Nat) : Int) = 0 from rfl) (show ((1401 : Nat) : Int) = 1401 from rfl)) (.inl rfl) ⟨hZ8I, hZ8K, hZ8U⟩
              · replace hP := zE_n hP h23
                refine wz_i1 (Eq.trans (i3T (rfl : i3 a1 = i3 a1) (by omega) (by omega)) (decide_eq_true (by omega))) ?_
                have r25 := zM_k hZ8I 2 0 0 2000 (lo := 0) (hi := 60) (by decide) rfl
                exact zlY hP (zm_rd (Z := Z8) (ν := ν) (k := 2) (show ((0 : Nat) : Int) = 0 from rfl) (show ((0 : Nat) : Int) = 0 from rfl) (show ((2000 : Nat) : Int) = 2000 from rfl)) (.inl rfl) ⟨hZ8I, hZ8K, hZ8U⟩
          · replace hP := zE_n hP h20
            refine wz_br (i3L (show (16 : Int32) = i3 16 from rfl) (rfl : i3 a1 = i3 a1) (by omega) (by omega) (by omega) (by omega)) (fun h26 => ?_) (fun h26 => ?_)
            · replace hP := zE_p hP h26
              refine wz_br (i3To (rfl : i3 a1 = i3 a1) (by omega) (by omega)) (fun h27 => ?_) (fun h27 => ?_)
              · replace hP := zE_p hP h27
                have r28 := zM_k hZ8I 1 0 0 49 (lo := 0) (hi := 120) (by decide) rfl
                exact zlY hP (zm_rd (Z := Z8) (ν := ν) (k := 1) (show ((0 : Nat) : Int) = 0 from rfl) (show ((0 : Nat) : Int) = 0 from rfl) (show ((49 : Nat) : Int) = 49 from rfl)) (.inl rfl) ⟨hZ8I, hZ8K, hZ8U⟩
              · replace hP := zE_n hP h27
                refine wz_i0 (Eq.trans (i3T (rfl : i3 a1 = i3 a1) (by omega) (by omega)) (decide_eq_false (by omega))) ?_
                refine wz_i0 (Eq.trans (i3T (rfl : i3 a1 = i3 a1) (by omega) (by omega)) (decide_eq_false (by omega))) ?_
                refine wz_i0 (Eq.trans (i3T (rfl : i3 a1 = i3 a1) (by omega) (by omega)) (decide_eq_false (by omega))) ?_
                refine wz_i0 (Eq.trans (i3T (rfl : i3 a1 = i3 a1) (by omega) (by omega)) (decide_eq_false (by omega))) ?_
                refine wz_i0 (Eq.trans (i3T (rfl : i3 a1 = i3 a1) (by omega) (by omega)) (decide_eq_false (by omega))) ?_
                refine wz_i0 (Eq.trans (i3T (rfl : i3 a1 = i3 a1) (by omega) (by omega)) (decide_eq_false (by omega))) ?_
                refine wz_i0 (Eq.trans (i3T (rfl : i3 a1 = i3 a1) (by omega) (by omega)) (decide_eq_false (by omega))) ?_
                refine wz_i0 (Eq.trans (i3T (rfl : i3 a1 = i3 a1) (by omega) (by omega)) (decide_eq_false (by omega))) ?_
                refine wz_i0 (Eq.trans (i3T (rfl : i3 a1 = i3 a1) (by omega) (by omega)) (decide_eq_false (by omega))) ?_
                refine wz_i0 (Eq.trans (i3T (rfl : i3 a1 = i3 a1) (by omega) (by omega)) (decide_eq_false (by omega))) ?_
                refine wz_i0 (Eq.trans (i3T (rfl : i3 a1 = i3 a1) (by omega) (by omega)) (decide_eq_false (by omega))) ?_
                refine wz_i0 (Eq.trans (i3T (rfl : i3 a1 = i3 a1) (by omega) (by omega)) (decide_eq_false (by omega))) ?_
                refine wz_i0 (Eq.trans (i3T (rfl : i3 a1 = i3 a1) (by omega) (by omega)) (decide_eq_false (by omega))) ?_
                refine wz_i0 (Eq.trans (i3T (rfl : i3 a1 = i3 a1) (by omega) (by omega)) (decide_eq_false (by omega))) ?_
                refine wz_i0 (Eq.trans (i3T (rfl : i3 a1 = i3 a1) (by omega) (by omega)) (decide_eq_false (by omega))) ?_
                refine wz_i0 (Eq.trans (i3T (rfl : i3 a1 = i3 a1) (by omega) (by omega)) (decide_eq_false (by omega))) ?_
                refine wz_i0 (Eq.trans (i3T (rfl : i3 a1 = i3 a1) (by omega) (by omega)) (decide_eq_false (by omega))) ?_
                refine wz_br (i3T (rfl : i3 a1 = i3 a1) (by omega) (by omega)) (fun h29 => ?_) (fun h29 => ?_)
                · replace hP := zE_p hP h29
                  have r30 := zM_k hZ8I 2 0 0 3000 (lo := 0) (hi := 2) (by decide) rfl
                  exact zlY hP (zm_rd (Z := Z8) (ν := ν) (k := 2) (show ((0 : Nat) : Int) = 0 from rfl) (show ((0 : Nat) : Int) = 0 from rfl) (show ((3000 : Nat) : Int) = 3000 from rfl)) (.inl rfl) ⟨hZ8I, hZ8K, hZ8U⟩
                · replace hP := zE_n hP h29
                  refine wz_br (i3T (rfl : i3 a1 = i3 a1) (by omega) (by omega)) (fun h31 => ?_) (fun h31 => ?_)
                  · replace hP := zE_p hP h31
                    have r32 := zM_k hZ8I 2 0 0 3200 (lo := 0) (hi := 4) (by decide) rfl
                    exact zlY hP (zm_rd (Z := Z8) (ν := ν) (k := 2) (show ((0 : Nat) : Int) = 0 from rfl) (show ((0 : Nat) : Int) = 0 from rfl) (show ((3200 : Nat) : Int) = 3200 from rfl)) (.inl rfl) ⟨hZ8I, hZ8K, hZ8U⟩
                  · replace hP := zE_n hP h31
                    refine wz_br (i3T (rfl : i3 a1 = i3 a1) (by omega) (by omega)) (fun h33 => ?_) (fun h33 => ?_)
                    · replace hP := zE_p hP h33
                      have r34 := zM_k hZ8I 2 0 0 3500 (lo := 0) (hi := 2) (by decide) rfl
                      exact zlY hP (zm_rd (Z := Z8) (ν := ν) (k := 2) (show ((0 : Nat) : Int) = 0 from rfl) (show ((0 : Nat) : Int) = 0 from rfl) (show ((3500 : Nat) : Int) = 3500 from rfl)) (.inl rfl) ⟨hZ8I, hZ8K, hZ8U⟩
                    · replace hP := zE_n hP h33
                      refine wz_br (i3T (rfl : i3 a1 = i3 a1) (by omega) (by omega)) (fun h35 => ?_) (fun h35 => ?_)
                      · replace hP := zE_p hP h35
                        have r36 := zM_k hZ8I 2 0 0 3815 (lo := 0) (hi := 12) (by decide) rfl
                        exact zlY hP (zm_rd (Z := Z8) (ν := ν) (k := 2) (show ((0 : Nat) : Int) = 0 from rfl) (show ((0 : Nat) : Int) = 0 from rfl) (show ((3815 : Nat) : Int) = 3815 from rfl)) (.inl rfl) ⟨hZ8I, hZ8K, hZ8U⟩
                      · replace hP := zE_n hP h35
                        refine wz_br (i3T (rfl : i3 a1 = i3 a1) (by omega) (by omega)) (fun h37 => ?_) (fun h37 => ?_)
                        · replace hP := zE_p hP h37
                          have r38 := zM_f hZ8I 1 0 0 37
                          have q39 := zu_ne (k' := 1) (b' := 0) (i' := 0) (j' := 37) hZ8 (fun q => absurd q.2.2.2 (by decide))
                          exact zlY hP (zm_rd (Z := Z8) (ν := ν) (k := 1) (show ((0 : Nat) : Int) = 0 from rfl) (show ((0 : Nat) : Int) = 0 from rfl) (show ((37 : Nat) : Int) = 37 from rfl)) (.inl rfl) ⟨hZ8I, hZ8K, hZ8U⟩
                        · replace hP := zE_n hP h37
                          refine wz_i1 (Eq.trans (i3T (rfl : i3 a1 = i3 a1) (by omega) (by omega)) (decide_eq_true (by omega))) ?_
                          have r40 := zM_k hZ8I 1 0 0 34 (lo := 0) (hi := 8) (by decide) rfl
                          have q41 := zu_ne (k' := 1) (b' := 0) (i' := 0) (j' := 34) hZ8 (fun q => absurd q.2.2.2 (by decide))
                          exact zlY hP (zm_rd (Z := Z8) (ν := ν) (k := 1) (show ((0 : Nat) : Int) = 0 from rfl) (show ((0 : Nat) : Int) = 0 from rfl) (show ((34 : Nat) : Int) = 34 from rfl)) (.inl rfl) ⟨hZ8I, hZ8K, hZ8U⟩
            · replace hP := zE_n hP h26
              obtain ⟨v42, hv42, c9, lv42, uv42⟩ := sp_562 (ν := ν) hZ8I (a1 := (a1 - 13)) (by omega) (zbh (c := 0) (k := 0) hM (Nat.le_of_ble_eq_true rfl))
              replace hP := zl_e hP hv42
              refine wz_cI_of (zas (zcons rfl (zcons (zvi (i3S (rfl : i3 a1 = i3 a1) (show (13 : Int32) = i3 13 from rfl))) rfl)) c9) ?_
              clear c9
              exact zlY hP (rfl : i3 v42 = i3 v42) (.inl rfl) ⟨hZ8I, hZ8K, hZ8U⟩
        · replace hP := zE_n hP h19
          obtain ⟨v43, hv43, c9, lv43, uv43⟩ := sp_561 (ν := ν) hZ8I (a1 := (a1 - 5)) (by omega) (zbh (c := 0) (k := 0) hM (Nat.le_of_ble_eq_true rfl))
          replace hP := zl_e hP hv43
          refine wz_cI_of (zas (zcons rfl (zcons (zvi (i3S (rfl : i3 a1 = i3 a1) (show (5 : Int32) = i3 5 from rfl))) rfl)) c9) ?_
          clear c9
          exact zlY hP (rfl : i3 v43 = i3 v43) (.inl rfl) ⟨hZ8I, hZ8K, hZ8U⟩
/- yX12_taker -/
def zy_532 (Z : qz_Z) (a1 : Int) (a2 : Int) : qz_Z × Int := (if a1 < 0 then (zlet (zu Z 1 0 0 2 1) (fun Z5 => (Z5, 0))) else (if ((Z 2 0 0 102) - 1) < a1 then (zlet (zu Z 1 0 0 2 1) (fun Z8 => (Z8, 0))) else (zlet (zu Z 1 0 0 2 0) (fun Z9 => (if a2 < 1 then (zlet (zu Z9 1 0 0 2 2) (fun Z11 => (Z11, 0))) else (if 9999 < a2 then (zlet (zu Z9 1 0 0 2 2) (fun Z13 => (Z13, 0))) else (zlet (zu Z9 1 0 0 2 0) (fun Z14 => (zlet (zf_286 Z14 a1 a2) (fun v15 => (Z14, v15)))))))))))
theorem sy_532 {s : zSM} {Z : qz_Z} {ν : qz_N} (hZ : zM s Z) (gq : Z 1 0 0 35 = 0) (hM : s.2 + 0 ≤ 1000000000) {a1 : Int} (ga1 : -2147483648 ≤ a1 ∧ a1 ≤ 2147483647) {a2 : Int} (ga2 : -2147483648 ≤ a2 ∧ a2 ≤ 2147483647) {ν1 : qz_N} : ∃ (Z1 : qz_Z) (ν2 : qz_N) (v : Int), (Z1, v) = zy_532 Z a1 a2 ∧ (ν2 = ν ∨ ν2 = ν1) ∧ qf_532 [.inr (.inr (some (1, 0, 0))), .inl (i3 a1), .inl (i3 a2)] (zm Z ν) = some (zm Z1 ν2, .inl (some (.inl (i3 v)))) ∧ (fun Z1 => zM s Z1 ∧ zC [1] Z Z1 ∧ zU [] Z Z1) Z1 := by
  obtain ⟨P, hP⟩ := zx (zy_532 Z a1 a2)
  refine zc_Y (Q := fun Z1 => zM s Z1 ∧ zC [1] Z Z1 ∧ zU [] Z Z1) hP (fw_532 (i3 a1) (i3 a2) _ _ ?_)
  replace hP : zE P (zy_532 Z a1 a2) := hP
  unfold zy_532 at hP
  have r1 := zM_k hZ 1 0 0 35 (lo := 0) (hi := 1) (by decide) rfl
  have r2 := zM_k hZ 1 0 0 34 (lo := 0) (hi := 8) (by decide) rfl
  have r3 := zM_f hZ 1 0 0 37
  refine wz_br (i3L (rfl : i3 a1 = i3 a1) (show (0 : Int32) = i3 0 from rfl) (by omega) (by omega) (by omega) (by omega)) (fun h4 => ?_) (fun h4 => ?_)
  · replace hP := zE_p hP h4
    obtain ⟨Z5, hZ5⟩ := zx (zu Z 1 0 0 2 1)
    replace hP := zl_e hP hZ5
    have hZ5I := zM_u hZ hZ5 (lo := -2147483648) (hi := 2147483647) (by decide) rfl (by omega) ⟨by decide, by decide⟩ (Or.inr (by decide)) rfl
    have hZ5U : zU [] Z Z5 := zU_u zU_r hZ5 (Or.inl rfl)
    have hZ5K : zC [1] Z Z5 := zC_u zC_r hZ5 (by decide)
    intro μ9 e9
    replace e9 := e9.trans (zm_wI (Z := Z) (ν := ν) hZ5 (show ((0 : Nat) : Int) = 0 from rfl) (show ((0 : Nat) : Int) = 0 from rfl) (show ((2 : Nat) : Int) = 2 from rfl) (show (1 : Int32) = i3 1 from rfl))
    subst e9
    exact zlY hP (show (0 : Int32) = i3 0 from rfl) (.inl rfl) ⟨hZ5I, hZ5K, hZ5U⟩
  · replace hP := zE_n hP h4
    have r6 := zM_k hZ 2 0 0 102 (lo := 0) (hi := 48) (by decide) rfl
    refine wz_br (i3L (i3S (zm_rd (Z := Z) (ν := ν) (k := 2) (show ((0 : Nat) : Int) = 0 from rfl) (show ((0 : Nat) : Int) = 0 from rfl) (show ((102 : Nat) : Int) = 102 from rfl)) (show (1 : Int32) = i3 1 from rfl)) (rfl : i3 a1 = i3 a1) (by omega) (by omega) (by omega) (by omega)) (fun h7 => ?_) (fun h7 => ?_)
    · replace hP := zE_p hP h7
      obtain ⟨Z8, hZ8⟩ := zx (zu Z 1 0 0 2 1)
      replace hP := zl_e hP hZ8
      have hZ8I := zM_u hZ hZ8 (lo := -2147483648) (hi := 2147483647) (by decide) rfl (by omega) ⟨by decide, by decide⟩ (Or.inr (by decide)) rfl
      have hZ8U : zU [] Z Z8 := zU_u zU_r hZ8 (Or.inl rfl)
      have hZ8K : zC [1] Z Z8 := zC_u zC_r hZ8 (by decide)
      intro μ9 e9
      replace e9 := e9.trans (zm_wI (Z := Z) (ν := ν) hZ8 (show ((0 : Nat) : Int) = 0 from rfl) (show ((0 : Nat) : Int) = 0 from rfl) (show ((2 : Nat) : Int) = 2 from rfl) (show (1 : Int32) = i3 1 from rfl))
      subst e9
      exact zlY hP (show (0 : Int32) = i3 0 from rfl) (.inl rfl) ⟨hZ8I, hZ8K, hZ8U⟩
    · replace hP := zE_n hP h7
      obtain ⟨Z9, hZ9⟩ := zx (zu Z 1 0 0 2 0)
      replace hP := zl_e hP hZ9
      have hZ9I := zM_0 hZ hZ9 (by decide) (Or.inr (by decide))
      have hZ9U : zU [] Z Z9 := zU_u zU_r hZ9 (Or.inl rfl)
      have hZ9K : zC [1] Z Z9 := zC_u zC_r hZ9 (by decide)
      intro μ9 e9
      replace e9 := e9.trans (zm_wI (Z := Z) (ν := ν) hZ9 (show ((0 : Nat) : Int) = 0 from rfl) (show ((0 : Nat) : Int) = 0 from rfl) (show ((2 : Nat) : Int) = 2 from rfl) (show (0 : Int32) = i3 0 from rfl))
      subst e9
      refine wz_br (i3L (rfl : i3 a2 = i3 a2) (show (1 : Int32) = i3 1 from rfl) (by omega) (by omega) (by omega) (by omega)) (fun h10 => ?_) (fun h10 => ?_)
      · replace hP := zE_p hP h10
        obtain ⟨Z11, hZ11⟩ := zx (zu Z9 1 0 0 2 2)
        replace hP := zl_e hP hZ11
        have hZ11I := zM_u hZ9I hZ11 (lo := -2147483648) (hi := 2147483647) (by decide) rfl (by omega) ⟨by decide, by decide⟩ (Or.inr (by decide)) rfl
        have hZ11U : zU [] Z Z11 := zU_u hZ9U hZ11 (Or.inl rfl)
        have hZ11K : zC [1] Z Z11 := zC_u hZ9K hZ11 (by decide)
        intro μ9 e9
        replace e9 := e9.trans (zm_wI (Z := Z9) (ν := ν) hZ11 (show ((0 : Nat) : Int) = 0 from rfl) (show ((0 : Nat) : Int) = 0 from rfl) (show ((2 : Nat) : Int) = 2 from rfl) (show (2 : Int32) = i3 2 from rfl))
        subst e9
        exact zlY hP (show (0 : Int32) = i3 0 from rfl) (.inl rfl) ⟨hZ11I, hZ11K, hZ11U⟩
      · replace hP := zE_n hP h10
        refine wz_br (i3L (show (9999 : Int32) = i3 9999 from rfl) (rfl : i3 a2 = i3 a2) (by omega) (by omega) (by omega) (by omega)) (fun h12 => ?_) (fun h12 => ?_)
        · replace hP := zE_p hP h12
          obtain ⟨Z13, hZ13⟩ := zx (zu Z9 1 0 0 2 2)
          replace hP := zl_e hP hZ13
          have hZ13I := zM_u hZ9I hZ13 (lo := -2147483648) (hi := 2147483647) (by decide) rfl (by omega) ⟨by decide, by decide⟩ (Or.inr (by decide)) rfl
          have hZ13U : zU [] Z Z13 := zU_u hZ9U hZ13 (Or.inl rfl)
          have hZ13K : zC [1] Z Z13 := zC_u hZ9K hZ13 (by decide)
          intro μ9 e9
          replace e9 := e9.trans (zm_wI (Z := Z9) (ν := ν) hZ13 (show ((0 : Nat) : Int) = 0 from rfl) (show ((0 : Nat) : Int) = 0 from rfl) (show ((2 : Nat) : Int) = 2 from rfl) (show (2 : Int32) = i3 2 from rfl))
          subst e9
          exact zlY hP (show (0 : Int32) = i3 0 from rfl) (.inl rfl) ⟨hZ13I, hZ13K, hZ13U⟩
        · replace hP := zE_n hP h12
          obtain ⟨Z14, hZ14⟩ := zx (zu Z9 1 0 0 2 0)
          replace hP := zl_e hP hZ14
          have hZ14I := zM_0 hZ9I hZ14 (by decide) (Or.inr (by decide))
          have hZ14U : zU [] Z Z14 := zU_u hZ9U hZ14 (Or.inl rfl)
          have hZ14K : zC [1] Z Z14 := zC_u hZ9K hZ14 (by decide)
          intro μ9 e9
          replace e9 := e9.trans (zm_wI (Z := Z9) (ν := ν) hZ14 (show ((0 : Nat) : Int) = 0 from rfl) (show ((0 : Nat) : Int) = 0 from rfl) (show ((2 : Nat) : Int) = 2 from rfl) (show (0 : Int32) = i3 0 from rfl))
          subst e9
          obtain ⟨v15, hv15, c9, lv15, uv15, wv150⟩ := sp_286 (ν := ν) hZ14I (a1 := a1) (by omega) (a2 := a2) (by omega) (zbh (c := 0) (k := 0) hM (Nat.le_of_ble_eq_true rfl))
          replace hP := zl_e hP hv15
          refine wz_cI_of (zas (zcons rfl (zcons (zvi (rfl : i3 a1 = i3 a1)) (zcons (zvi (rfl : i3 a2 = i3 a2)) rfl))) c9) ?_
          clear c9
          have r16 := zM_f hZ14I 2 0 0 (1510 + 12 * v15)
          have r17 := zM_k hZ14I 2 0 0 2000 (lo := 0) (hi := 60) (by decide) rfl
          have r18 := zM_f hZ14I 2 0 0 (1516 + 12 * v15)
          have r19 := zM_k hZ14I 2 0 0 (204 + 20 * a1) (lo := 0) (hi := 40) (by decide) (zs_200_4 (x := a1) (by omega) (by omega) (by omega))
          have w20 : v15 = -1 ∨ (a2 ≤ zrs Z14 (Z14 2 0 0 (1510 + 12 * v15)) ∧ Z14 2 0 0 2000 ≤ 59 ∧ 1 ≤ Z14 2 0 0 (1516 + 12 * v15) ∧ 1 ≤ Z14 2 0 0 (204 + 20 * a1)) := wv150
          exact zlY hP (rfl : i3 v15 = i3 v15) (.inl rfl) ⟨hZ14I, hZ14K, hZ14U⟩
/- yX12_cTry -/
def zl_313_1 (x1 : Int) (x3 : Int) (x4 : Int) (x5 : Int) (x6 : Int) : Nat → qz_Z → Int → qz_Z × Int
  | 0, Z, x7 => (Z, x7)
  | m + 1, Z, x7 => (if x6 ≤ x7 then (Z, x7) else (zlet (zf_309 Z x1) (fun Z7 => (if (Z7 2 0 0 (204 + 20 * (Z 2 0 0 (3022 + 60 * x1)))) ≠ 0 then (zlet (zu Z7 91 0 0 3 ((Z7 91 0 0 3) + 0)) (fun Z11 => zl_313_1 x1 x3 x4 x5 x6 m Z11 (x7 + 1))) else (zlet (zu Z7 91 0 0 3 (w3 ((Z7 91 0 0 3) + 1))) (fun Z14 => zl_313_1 x1 x3 x4 x5 x6 m Z14 (x7 + 1)))))))
/- yX12_cTry -/
def zf_313 (Z : qz_Z) (a1 : Int) (a2 : Int) : qz_Z := (zlet (zf_351 Z 0) (fun Z1 => (if a2 ≤ (Z1 2 0 0 (3015 + 60 * a1)) then (zlet (zu Z1 91 0 0 3 0) (fun Z4 => (zlet2 (zl_313_1 a1 (Z1 2 0 0 (3021 + 60 * a1)) (Z1 2 0 0 (3019 + 60 * a1)) (Z1 2 0 0 (3020 + 60 * a1)) a2 13 Z4 0) (fun Z9 y8 => (zlet (zu Z9 91 0 0 0 (w3 ((Z9 2 0 0 (3021 + 60 * a1)) - (Z1 2 0 0 (3021 + 60 * a1))))) (fun Z13 => (zlet (zu Z13 91 0 0 1 (w3 ((Z13 2 0 0 (3019 + 60 * a1)) - (Z1 2 0 0 (3019 + 60 * a1))))) (fun Z16 => (zlet (zu Z16 91 0 0 2 (w3 ((Z16 2 0 0 (3020 + 60 * a1)) - (Z1 2 0 0 (3020 + 60 * a1))))) (fun Z19 => (zlet (zu Z19 91 0 0 4 (Z19 2 0 0 (3016 + 60 * a1))) (fun Z21 => (zlet (zf_493 Z21 0) (fun Z22 => Z22)))))))))))))) else (zlet (zu Z1 91 0 0 3 0) (fun Z23 => (zlet2 (zl_313_1 a1 (Z1 2 0 0 (3021 + 60 * a1)) (Z1 2 0 0 (3019 + 60 * a1)) (Z1 2 0 0 (3020 + 60 * a1)) (Z1 2 0 0 (3015 + 60 * a1)) 13 Z23 0) (fun Z28 y27 => (zlet (zu Z28 91 0 0 0 (w3 ((Z28 2 0 0 (3021 + 60 * a1)) - (Z1 2 0 0 (3021 + 60 * a1))))) (fun Z32 => (zlet (zu Z32 91 0 0 1 (w3 ((Z32 2 0 0 (3019 + 60 * a1)) - (Z1 2 0 0 (3019 + 60 * a1))))) (fun Z35 => (zlet (zu Z35 91 0 0 2 (w3 ((Z35 2 0 0 (3020 + 60 * a1)) - (Z1 2 0 0 (3020 + 60 * a1))))) (fun Z38 => (if (Z1 2 0 0 (3015 + 60 * a1)) ≠ 0 then (zlet (zu Z38 91 0 0 4 (Z38 2 0 0 (3016 + 60 * a1))) (fun Z41 => (zlet (zf_493 Z41 0) (fun Z42 => Z42)))) else (zlet (zu Z38 91 0 0 4 (-1)) (fun Z43 => (zlet (zf_493 Z43 0) (fun Z44 => Z44))))))))))))))))))
/- yX12_takings -/
def zy_533 (Z : qz_Z) (a1 : Int) (a2 : Int) (a3 : Int) : qz_Z × Int := (if a1 < 0 then (zlet (zu Z 1 0 0 2 1) (fun Z5 => (Z5, 0))) else (if ((Z 2 0 0 3000) - 1) < a1 then (zlet (zu Z 1 0 0 2 1) (fun Z8 => (Z8, 0))) else (zlet (zu Z 1 0 0 2 0) (fun Z9 => (if a2 < 1 then (zlet (zu Z9 1 0 0 2 2) (fun Z11 => (Z11, 0))) else (if 12 < a2 then (zlet (zu Z9 1 0 0 2 2) (fun Z13 => (Z13, 0))) else (if a3 < 0 then (zlet (zu Z9 1 0 0 2 2) (fun Z15 => (Z15, 0))) else (if 4 < a3 then (zlet (zu Z9 1 0 0 2 2) (fun Z17 => (Z17, 0))) else (zlet (zu Z9 1 0 0 2 0) (fun Z18 => (zlet (zf_313 Z18 a1 a2) (fun Z19 => (Z19, (Z19 91 0 0 a3))))))))))))))
/- yX12_tariff -/
def zy_534 (Z : qz_Z) (dm : qz_Z → Int → Int → Int → Int → Int → Int → Int → qz_Z) (a1 : Int) (a2 : Int) : qz_Z × Int := (if a1 < 0 then (zlet (zu Z 1 0 0 2 1) (fun Z5 => (Z5, 0))) else (if 3 < a1 then (zlet (zu Z 1 0 0 2 1) (fun Z7 => (Z7, 0))) else (if a2 < 0 then (zlet (zu Z 1 0 0 2 1) (fun Z9 => (Z9, 0))) else (if 99999 < a2 then (zlet (zu Z 1 0 0 2 1) (fun Z11 => (Z11, 0))) else (zlet (zu Z 1 0 0 2 0) (fun Z12 => (zlet (dm Z12 25 a1 a2 0 0 0 0) (fun Z19 => (zlet (zu Z19 2 0 0 (3810 + a1) a2) (fun Z20 => (Z20, (Z19 2 0 0 (3810 + a1)))))))))))))
theorem sy_534 {s : zSM} {Z : qz_Z} {ν : qz_N} (hZ : zM s Z) (gq : Z 1 0 0 35 = 0) (hM : s.2 + 0 ≤ 1000000000) {a1 : Int} (ga1 : -2147483648 ≤ a1 ∧ a1 ≤ 2147483647) {a2 : Int} (ga2 : -2147483648 ≤ a2 ∧ a2 ≤ 2147483647) {dk : qz_Z → qz_Z} {dm : qz_Z → Int → Int → Int → Int → Int → Int → Int → qz_Z} {ν1 : qz_N} (hdm : zDm s ν ν1 Z dk dm) : ∃ (Z1 : qz_Z) (ν2 : qz_N) (v : Int), (Z1, v) = zy_534 Z dm a1 a2 ∧ (ν2 = ν ∨ ν2 = ν1) ∧ qf_534 [.inr (.inr (some (1, 0, 0))), .inl (i3 a1), .inl (i3 a2)] (zm Z ν) = some (zm Z1 ν2, .inl (some (.inl (i3 v)))) ∧ (fun Z1 => zM s Z1 ∧ zC [1, 2, 101, 102, 200] Z Z1 ∧ zU [] Z Z1) Z1 := by
  obtain ⟨P, hP⟩ := zx (zy_534 Z dm a1 a2)
  refine zc_Y (Q := fun Z1 => zM s Z1 ∧ zC [1, 2, 101, 102, 200] Z Z1 ∧ zU [] Z Z1) hP (fw_534 (i3 a1) (i3 a2) _ _ ?_)
  replace hP : zE P (zy_534 Z dm a1 a2) := hP
  unfold zy_534 at hP
  have r1 := zM_k hZ 1 0 0 35 (lo := 0) (hi := 1) (by decide) rfl
  have r2 := zM_k hZ 1 0 0 34 (lo := 0) (hi := 8) (by decide) rfl
  have r3 := zM_f hZ 1 0 0 37
  refine wz_br (i3L (rfl : i3 a1 = i3 a1) (show (0 : Int32) = i3 0 from rfl) (by omega) (by omega) (by omega) (by omega)) (fun h4 => ?_) (fun h4 => ?_)
  · replace hP := zE_p hP h4
    obtain ⟨Z5, hZ5⟩ := zx (zu Z 1 0 0 2 1)
    replace hP := zl_e hP hZ5
    have hZ5I := zM_u hZ hZ5 (lo := -2147483648) (hi := 2147483647) (by decide) rfl (by omega) ⟨by decide, by decide⟩ (Or.inr (by decide)) rfl
    have hZ5U : zU [] Z Z5 := zU_u zU_r hZ5 (Or.inl rfl)
    have hZ5K : zC [1, 2, 101, 102, 200] Z Z5 := zC_u zC_r hZ5 (by decide)
    intro μ9 e9
    replace e9 := e9.trans (zm_wI (Z := Z) (ν := ν) hZ5 (show ((0 : Nat) : Int) = 0 from rfl) (show ((0 : Nat) : Int) = 0 from rfl) (show ((2 : Nat) : Int) = 2 from rfl) (show (1 : Int32) = i3 1 from rfl))
    subst e9
    exact zlY hP (show (0 : Int32) = i3 0 from rfl) (.inl rfl) ⟨hZ5I, hZ5K, hZ5U⟩
  · replace hP := zE_n hP h4
    refine wz_br (i3L (show (3 : Int32) = i3 3 from rfl) (rfl : i3 a1 = i3 a1) (by omega) (by omega) (by omega) (by omega)) (fun h6 => ?_) (fun h6 => ?_)
    · replace hP := zE_p hP h6
      obtain ⟨Z7, hZ7⟩ := zx (zu Z 1 0 0 2 1)
      replace hP := zl_e hP hZ7
      have hZ7I := zM_u hZ hZ7 (lo := -2147483648) (hi := 2147483647) (by decide) rfl (by omega) ⟨by decide, by decide⟩ (Or.inr (by decide)) rfl
      have hZ7U : zU [] Z Z7 := zU_u zU_r hZ7 (Or.inl rfl)
      have hZ7K : zC [1, 2, 101, 102, 200] Z Z7 := zC_u zC_r hZ7 (by decide)
      intro μ9 e9
      replace e9 := e9.trans (zm_wI (Z := Z) (ν := ν) hZ7 (show ((0 : Nat) : Int) = 0 from rfl) (show ((0 : Nat) : Int) = 0 from rfl) (show ((2 : Nat) : Int) = 2 from rfl) (show (1 : Int32) = i3 1 from rfl))
      subst e9
      exact zlY hP (show (0 : Int32) = i3 0 from rfl) (.inl rfl) ⟨hZ7I, hZ7K, hZ7U⟩
    · replace hP := zE_n hP h6
      refine wz_br (i3L (rfl : i3 a2 = i3 a2) (show (0 : Int32) = i3 0 from rfl) (by omega) (by omega) (by omega) (by omega)) (fun h8 => ?_) (fun h8 => ?_)
      · replace hP := zE_p hP h8
        obtain ⟨Z9, hZ9⟩ := zx (zu Z 1 0 0 2 1)
        replace hP := zl_e hP hZ9
        have hZ9I := zM_u hZ hZ9 (lo := -2147483648) (hi := 2147483647) (by decide) rfl (by omega) ⟨by decide, by decide⟩ (Or.inr (by decide)) rfl
        have hZ9U : zU [] Z Z9 := zU_u zU_r hZ9 (Or.inl rfl)
        have hZ9K : zC [1, 2, 101, 102, 200] Z Z9 := zC_u zC_r hZ9 (by decide)
        intro μ9 e9
        replace e9 := e9.trans (zm_wI (Z := Z) (ν := ν) hZ9 (show ((0 : Nat) : Int) = 0 from rfl) (show ((0 : Nat) : Int) = 0 from rfl) (show ((2 : Nat) : Int) = 2 from rfl) (show (1 : Int32) = i3 1 from rfl))
        subst e9
        exact zlY hP (show (0 : Int32) = i3 0 from rfl) (.inl rfl) ⟨hZ9I, hZ9K, hZ9U⟩
      · replace hP := zE_n hP h8
        refine wz_br (i3L (show (99999 : Int32) = i3 99999 from rfl) (rfl : i3 a2 = i3 a2) (by omega) (by omega) (by omega) (by omega)) (fun h10 => ?_) (fun h10 => ?_)
        · replace hP := zE_p hP h10
          obtain ⟨Z11, hZ11⟩ := zx (zu Z 1 0 0 2 1)
          replace hP := zl_e hP hZ11
          have hZ11I := zM_u hZ hZ11 (lo := -2147483648) (hi := 2147483647) (by decide) rfl (by omega) ⟨by decide, by decide⟩ (Or.inr (by decide)) rfl
          have hZ11U : zU [] Z Z11 := zU_u zU_r hZ11 (Or.inl rfl)
          have hZ11K : zC [1, 2, 101, 102, 200] Z Z11 := zC_u zC_r hZ11 (by decide)
          intro μ9 e9
          replace e9 := e9.trans (zm_wI (Z := Z) (ν := ν) hZ11 (show ((0 : Nat) : Int) = 0 from rfl) (show ((0 : Nat) : Int) = 0 from rfl) (show ((2 : Nat) : Int) = 2 from rfl) (show (1 : Int32) = i3 1 from rfl))
          subst e9
          exact zlY hP (show (0 : Int32) = i3 0 from rfl) (.inl rfl) ⟨hZ11I, hZ11K, hZ11U⟩
        · replace hP := zE_n hP h10
          obtain ⟨Z12, hZ12⟩ := zx (zu Z 1 0 0 2 0)
          replace hP := zl_e hP hZ12
          have hZ12I := zM_0 hZ hZ12 (by decide) (Or.inr (by decide))
          have hZ12U : zU [] Z Z12 := zU_u zU_r hZ12 (Or.inl rfl)
          have hZ12K : zC [1, 2, 101, 102, 200] Z Z12 := zC_u zC_r hZ12 (by decide)
          intro μ9 e9
          replace e9 := e9.trans (zm_wI (Z := Z) (ν := ν) hZ12 (show ((0 : Nat) : Int) = 0 from rfl) (show ((0 : Nat) : Int) = 0 from rfl) (show ((2 : Nat) : Int) = 2 from rfl) (show (0 : Int32) = i3 0 from rfl))
          subst e9
          have r13 := zM_k hZ12I 1 0 0 35 (lo := 0) (hi := 1) (by decide) rfl
          have q14 := zu_ne (k' := 1) (b' := 0) (i' := 0) (j' := 35) hZ12 (fun q => absurd q.2.2.2 (by decide))
          refine wz_i0 (Eq.trans (i3NE (zm_rd (Z := Z12) (ν := ν) (k := 1) (show ((0 : Nat) : Int) = 0 from rfl) (show ((0 : Nat) : Int) = 0 from rfl) (show ((35 : Nat) : Int) = 35 from rfl)) (show (0 : Int32) = i3 0 from rfl) (by omega) (by omega) (by omega) (by omega)) (decide_eq_false (by omega))) ?_
          have r15 := zM_k hZ12I 1 0 0 34 (lo := 0) (hi := 8) (by decide) rfl
          have q16 := zu_ne (k' := 1) (b' := 0) (i' := 0) (j' := 34) hZ12 (fun q => absurd q.2.2.2 (by decide))
          have r17 := zM_f hZ12I 1 0 0 37
          have q18 := zu_ne (k' := 1) (b' := 0) (i' := 0) (j' := 37) hZ12 (fun q => absurd q.2.2.2 (by decide))
          obtain ⟨c8, c9, hZ19I, dZ19⟩ := hdm Z12 25 a1 a2 0 0 0 0 hZ12I (by omega) (by omega) (by omega) (by omega) (by omega) (by omega) (by omega) (by omega) (by omega) (by omega)
          obtain ⟨Z19, hZ19⟩ := zx (dm Z12 25 a1 a2 0 0 0 0)
          rw [← hZ19] at c9 hZ19I dZ19
          replace hP := zl_e hP hZ19
          refine wz_cV_of (zas (zcons rfl (zcons (zvi (show (-1 : Int32) = i3 (-1) from rfl)) rfl)) c8) ?_
          refine wz_cV_of (zas (zcons rfl (zcons (zvi (show (25 : Int32) = i3 25 from rfl)) (zcons (zvi (rfl : i3 a1 = i3 a1)) (zcons (zvi (rfl : i3 a2 = i3 a2)) (zcons (zvi (show (0 : Int32) = i3 0 from rfl)) (zcons (zvi (show (0 : Int32) = i3 0 from rfl)) (zcons (zvi (show (0 : Int32) = i3 0 from rfl)) (zcons (zvi (show (0 : Int32) = i3 0 from rfl)) rfl)))))))) c9) ?_
          clear c8 c9
          have hZ19K : zC [1, 2, 101, 102, 200] Z Z19 := zC_t hZ12K (zMd_C dZ19) (by decide)
          have hZ19U : zU [] Z Z19 := zU_t hZ12U (zMd_U dZ19) zU_b0
          refine wz_i0 (i3O (n := 4400) (i3A (show (3810 : Int32) = i3 3810 from rfl) (rfl : i3 a1 = i3 a1)) (by omega) (by omega) (by omega)) ?_
          refine wz_i0 (i3O (n := 4400) (i3A (show (3810 : Int32) = i3 3810 from rfl) (rfl : i3 a1 = i3 a1)) (by omega) (by omega) (by omega)) ?_
          obtain ⟨Z20, hZ20⟩ := zx (zu Z19 2 0 0 (3810 + a1) a2)
          replace hP := zl_e hP hZ20
          have hZ20I := zM_u2 hZ19I hZ20 (lo := 0) (hi := 99999) (zs_3810 (by omega) (by omega)) (by omega) ⟨by decide, by decide⟩ (by simp only [zsp]; omega)
          have hZ20U : zU [] Z Z20 := zU_u hZ19U hZ20 (Or.inl rfl)
          have hZ20K : zC [1, 2, 101, 102, 200] Z Z20 := zC_u hZ19K hZ20 (zcl_2w (by omega) rfl)
          intro μ9 e9
          replace e9 := e9.trans (zm_wI (Z := Z19) (ν := ν1) hZ20 (show ((0 : Nat) : Int) = 0 from rfl) (show ((0 : Nat) : Int) = 0 from rfl) (i3I (y := (3810 + a1)) (i3A (show (3810 : Int32) = i3 3810 from rfl) (rfl : i3 a1 = i3 a1)) (by omega) (by omega) (by omega)) (rfl : i3 a2 = i3 a2))
          subst e9
          have r21 := zM_k hZ19I 2 0 0 (3810 + a1) (lo := 0) (hi := 99999) (by decide) (zs_3810 (by omega) (by omega))
          exact zlY hP (zm_rd (Z := Z19) (ν := ν1) (k := 2) (show ((0 : Nat) : Int) = 0 from rfl) (show ((0 : Nat) : Int) = 0 from rfl) (i3I (y := (3810 + a1)) (i3A (show (3810 : Int32) = i3 3810 from rfl) (rfl : i3 a1 = i3 a1)) (by omega) (by omega) (by omega))) (.inr rfl) ⟨hZ20I, hZ20K, hZ20U⟩

theorem sq_534 {s : zSM} {Z : qz_Z} {ν : qz_N} (hZ : zM s Z) (gq : Z 1 0 0 35 = 1) (hM : s.2 + 0 ≤ 1000000000) {a1 : Int} (ga1 : -2147483648 ≤ a1 ∧ a1 ≤ 2147483647) {a2 : Int} (ga2 : -2147483648 ≤ a2 ∧ a2 ≤ 2147483647) {ν1 : qz_N} : ∃ (Z1 : qz_Z) (ν2 : qz_N) (v : Int), (Z1, v) = zy_534 Z zq0 a1 a2 ∧ (ν2 = ν ∨ ν2 = ν1) ∧ qf_534 [.inr (.inr (some (1, 0, 0))), .inl (i3 a1), .inl (i3 a2)] (zm Z ν) = some (zm Z1 ν2, .inl (some (.inl (i3 v)))) ∧ (fun Z1 => zM s Z1 ∧ zC [1, 2] Z Z1 ∧ zU [] Z Z1) Z1 := by
  obtain ⟨P, hP⟩ := zx (zy_534 Z zq0 a1 a2)
  refine zc_Y (Q := fun Z1 => zM s Z1 ∧ zC [1, 2] Z Z1 ∧ zU [] Z Z1) hP (fw_534 (i3 a1) (i3 a2) _ _ ?_)
  replace hP : zE P (zy_534 Z zq0 a1 a2) := hP
  unfold zy_534 at hP
  have r1 := zM_k hZ 1 0 0 35 (lo := 0) (hi := 1) (by decide) rfl
  have r2 := zM_k hZ 1 0 0 34 (lo := 0) (hi := 8) (by decide) rfl
  have r3 := zM_f hZ 1 0 0 37
  refine wz_br (i3L (rfl : i3 a1 = i3 a1) (show (0 : Int32) = i3 0 from rfl) (by omega) (by omega) (by omega) (by omega)) (fun h4 => ?_) (fun h4 => ?_)
  · replace hP := zE_p hP h4
    obtain ⟨Z5, hZ5⟩ := zx (zu Z 1 0 0 2 1)
    replace hP := zl_e hP hZ5
    have hZ5I := zM_u hZ hZ5 (lo := -2147483648) (hi := 2147483647) (by decide) rfl (by omega) ⟨by decide, by decide⟩ (Or.inr (by decide)) rfl
    have hZ5U : zU [] Z Z5 := zU_u zU_r hZ5 (Or.inl rfl)
    have hZ5K : zC [1, 2] Z Z5 := zC_u zC_r hZ5 (by decide)
    intro μ9 e9
    replace e9 := e9.trans (zm_wI (Z := Z) (ν := ν) hZ5 (show ((0 : Nat) : Int) = 0 from rfl) (show ((0 : Nat) : Int) = 0 from rfl) (show ((2 : Nat) : Int) = 2 from rfl) (show (1 : Int32) = i3 1 from rfl))
    subst e9
    exact zlY hP (show (0 : Int32) = i3 0 from rfl) (.inl rfl) ⟨hZ5I, hZ5K, hZ5U⟩
  · replace hP := zE_n hP h4
    refine wz_br (i3L (show (3 : Int32) = i3 3 from rfl) (rfl : i3 a1 = i3 a1) (by omega) (by omega) (by omega) (by omega)) (fun h6 => ?_) (fun h6 => ?_)
    · replace hP := zE_p hP h6
      obtain ⟨Z7, hZ7⟩ := zx (zu Z 1 0 0 2 1)
      replace hP := zl_e hP hZ7
      have hZ7I := zM_u hZ hZ7 (lo := -2147483648) (hi := 2147483647) (by decide) rfl (by omega) ⟨by decide, by decide⟩ (Or.inr (by decide)) rfl
      have hZ7U : zU [] Z Z7 := zU_u zU_r hZ7 (Or.inl rfl)
      have hZ7K : zC [1, 2] Z Z7 := zC_u zC_r hZ7 (by decide)
      intro μ9 e9
      replace e9 := e9.trans (zm_wI (Z := Z) (ν := ν) hZ7 (show ((0 : Nat) : Int) = 0 from rfl) (show ((0 : Nat) : Int) = 0 from rfl) (show ((2 : Nat) : Int) = 2 from rfl) (show (1 : Int32) = i3 1 from rfl))
      subst e9
      exact zlY hP (show (0 : Int32) = i3 0 from rfl) (.inl rfl) ⟨hZ7I, hZ7K, hZ7U⟩
    · replace hP := zE_n hP h6
      refine wz_br (i3L (rfl : i3 a2 = i3 a2) (show (0 : Int32) = i3 0 from rfl) (by omega) (by omega) (by omega) (by omega)) (fun h8 => ?_) (fun h8 => ?_)
      · replace hP := zE_p hP h8
        obtain ⟨Z9, hZ9⟩ := zx (zu Z 1 0 0 2 1)
        replace hP := zl_e hP hZ9
        have hZ9I := zM_u hZ hZ9 (lo := -2147483648) (hi := 2147483647) (by decide) rfl (by omega) ⟨by decide, by decide⟩ (Or.inr (by decide)) rfl
        have hZ9U : zU [] Z Z9 := zU_u zU_r hZ9 (Or.inl rfl)
        have hZ9K : zC [1, 2] Z Z9 := zC_u zC_r hZ9 (by decide)
        intro μ9 e9
        replace e9 := e9.trans (zm_wI (Z := Z) (ν := ν) hZ9 (show ((0 : Nat) : Int) = 0 from rfl) (show ((0 : Nat) : Int) = 0 from rfl) (show ((2 : Nat) : Int) = 2 from rfl) (show (1 : Int32) = i3 1 from rfl))
        subst e9
        exact zlY hP (show (0 : Int32) = i3 0 from rfl) (.inl rfl) ⟨hZ9I, hZ9K, hZ9U⟩
      · replace hP := zE_n hP h8
        refine wz_br (i3L (show (99999 : Int32) = i3 99999 from rfl) (rfl : i3 a2 = i3 a2) (by omega) (by omega) (by omega) (by omega)) (fun h10 => ?_) (fun h10 => ?_)
        · replace hP := zE_p hP h10
          obtain ⟨Z11, hZ11⟩ := zx (zu Z 1 0 0 2 1)
          replace hP := zl_e hP hZ11
          have hZ11I := zM_u hZ hZ11 (lo := -2147483648) (hi := 2147483647) (by decide) rfl (by omega) ⟨by decide, by decide⟩ (Or.inr (by decide)) rfl
          have hZ11U : zU [] Z Z11 := zU_u zU_r hZ11 (Or.inl rfl)
          have hZ11K : zC [1, 2] Z Z11 := zC_u zC_r hZ11 (by decide)
          intro μ9 e9
          replace e9 := e9.trans (zm_wI (Z := Z) (ν := ν) hZ11 (show ((0 : Nat) : Int) = 0 from rfl) (show ((0 : Nat) : Int) = 0 from rfl) (show ((2 : Nat) : Int) = 2 from rfl) (show (1 : Int32) = i3 1 from rfl))
          subst e9
          exact zlY hP (show (0 : Int32) = i3 0 from rfl) (.inl rfl) ⟨hZ11I, hZ11K, hZ11U⟩
        · replace hP := zE_n hP h10
          obtain ⟨Z12, hZ12⟩ := zx (zu Z 1 0 0 2 0)
          replace hP := zl_e hP hZ12
          have hZ12I := zM_0 hZ hZ12 (by decide) (Or.inr (by decide))
          have hZ12U : zU [] Z Z12 := zU_u zU_r hZ12 (Or.inl rfl)
          have hZ12K : zC [1, 2] Z Z12 := zC_u zC_r hZ12 (by decide)
          intro μ9 e9
          replace e9 := e9.trans (zm_wI (Z := Z) (ν := ν) hZ12 (show ((0 : Nat) : Int) = 0 from rfl) (show ((0 : Nat) : Int) = 0 from rfl) (show ((2 : Nat) : Int) = 2 from rfl) (show (0 : Int32) = i3 0 from rfl))
          subst e9
          have r13 := zM_k hZ12I 1 0 0 35 (lo := 0) (hi := 1) (by decide) rfl
          have q14 := zu_ne (k' := 1) (b' := 0) (i' := 0) (j' := 35) hZ12 (fun q => absurd q.2.2.2 (by decide))
          refine wz_i1 (Eq.trans (i3NE (zm_rd (Z := Z12) (ν := ν) (k := 1) (show ((0 : Nat) : Int) = 0 from rfl) (show ((0 : Nat) : Int) = 0 from rfl) (show ((35 : Nat) : Int) = 35 from rfl)) (show (0 : Int32) = i3 0 from rfl) (by omega) (by omega) (by omega) (by omega)) (decide_eq_true (by omega))) ?_
          replace hP := zl_q hP (rfl : _ = Z12)
          refine wz_i0 (i3O (n := 4400) (i3A (show (3810 : Int32) = i3 3810 from rfl) (rfl : i3 a1 = i3 a1)) (by omega) (by omega) (by omega)) ?_
          refine wz_i0 (i3O (n := 4400) (i3A (show (3810 : Int32) = i3 3810 from rfl) (rfl : i3 a1 = i3 a1)) (by omega) (by omega) (by omega)) ?_
          obtain ⟨Z15, hZ15⟩ := zx (zu Z12 2 0 0 (3810 + a1) a2)
          replace hP := zl_e hP hZ15
          have hZ15I := zM_u2 hZ12I hZ15 (lo := 0) (hi := 99999) (zs_3810 (by omega) (by omega)) (by omega) ⟨by decide, by decide⟩ (by simp only [zsp]; omega)
          have hZ15U : zU [] Z Z15 := zU_u hZ12U hZ15 (Or.inl rfl)
          have hZ15K : zC [1, 2] Z Z15 := zC_u hZ12K hZ15 (zcl_2w (by omega) rfl)
          intro μ9 e9
          replace e9 := e9.trans (zm_wI (Z := Z12) (ν := ν) hZ15 (show ((0 : Nat) : Int) = 0 from rfl) (show ((0 : Nat) : Int) = 0 from rfl) (i3I (y := (3810 + a1)) (i3A (show (3810 : Int32) = i3 3810 from rfl) (rfl : i3 a1 = i3 a1)) (by omega) (by omega) (by omega)) (rfl : i3 a2 = i3 a2))
          subst e9
          have r16 := zM_k hZ12I 2 0 0 (3810 + a1) (lo := 0) (hi := 99999) (by decide) (zs_3810 (by omega) (by omega))
          exact zlY hP (zm_rd (Z := Z12) (ν := ν) (k := 2) (show ((0 : Nat) : Int) = 0 from rfl) (show ((0 : Nat) : Int) = 0 from rfl) (i3I (y := (3810 + a1)) (i3A (show (3810 : Int32) = i3 3810 from rfl) (rfl : i3 a1 = i3 a1)) (by omega) (by omega) (by omega))) (.inl rfl) ⟨hZ15I, hZ15K, hZ15U⟩
/- yX12_trip -/
def zy_538 (Z : qz_Z) (a1 : Int) (a2 : Int) : qz_Z × Int := (if a1 < 0 then (zlet (zu Z 1 0 0 2 1) (fun Z5 => (Z5, 0))) else (if ((Z 2 0 0 3200) - 1) < a1 then (zlet (zu Z 1 0 0 2 1) (fun Z8 => (Z8, 0))) else (zlet (zu Z 1 0 0 2 0) (fun Z9 => (if a2 < 0 then (zlet (zu Z9 1 0 0 2 2) (fun Z11 => (Z11, 0))) else (if 4 < a2 then (zlet (zu Z9 1 0 0 2 2) (fun Z13 => (Z13, 0))) else (zlet (zu Z9 1 0 0 2 0) (fun Z14 => (if (Z14 2 0 0 (3252 + 24 * a1)) ≠ 1 then (zlet (zf_527 Z14 a1) (fun v17 => (zlet (zf_511 Z14 v17) (fun Z18 => (if (Z18 1 0 0 24) ≤ a2 then (Z18, (-1)) else (Z18, (Z18 96 0 0 a2))))))) else (if (Z14 2 0 0 (3258 + 24 * a1)) ≤ a2 then (Z14, (-1)) else (Z14, (Z14 2 0 0 (3259 + 24 * a1 + a2)))))))))))))
theorem sy_538 {s : zSM} {Z : qz_Z} {ν : qz_N} (hZ : zM s Z) (gq : Z 1 0 0 35 = 0) (hM : s.2 + 0 ≤ 1000000000) {a1 : Int} (ga1 : -2147483648 ≤ a1 ∧ a1 ≤ 2147483647) {a2 : Int} (ga2 : -2147483648 ≤ a2 ∧ a2 ≤ 2147483647) {ν1 : qz_N} : ∃ (Z1 : qz_Z) (ν2 : qz_N) (v : Int), (Z1, v) = zy_538 Z a1 a2 ∧ (ν2 = ν ∨ ν2 = ν1) ∧ qf_538 [.inr (.inr (some (1, 0, 0))), .inl (i3 a1), .inl (i3 a2)] (zm Z ν) = some (zm Z1 ν2, .inl (some (.inl (i3 v)))) ∧ (fun Z1 => zM s Z1 ∧ zC [1, 95, 96] Z Z1 ∧ zU [] Z Z1) Z1 := by
  obtain ⟨P, hP⟩ := zx (zy_538 Z a1 a2)
  refine zc_Y (Q := fun Z1 => zM s Z1 ∧ zC [1, 95, 96] Z Z1 ∧ zU [] Z Z1) hP (fw_538 (i3 a1) (i3 a2) _ _ ?_)
  replace hP : zE P (zy_538 Z a1 a2) := hP
  unfold zy_538 at hP
  have r1 := zM_k hZ 1 0 0 35 (lo := 0) (hi := 1) (by decide) rfl
  have r2 := zM_k hZ 1 0 0 34 (lo := 0) (hi := 8) (by decide) rfl
  have r3 := zM_f hZ 1 0 0 37
  refine wz_br (i3L (rfl : i3 a1 = i3 a1) (show (0 : Int32) = i3 0 from rfl) (by omega) (by omega) (by omega) (by omega)) (fun h4 => ?_) (fun h4 => ?_)
  · replace hP := zE_p hP h4
    obtain ⟨Z5, hZ5⟩ := zx (zu Z 1 0 0 2 1)
    replace hP := zl_e hP hZ5
    have hZ5I := zM_u hZ hZ5 (lo := -2147483648) (hi := 2147483647) (by decide) rfl (by omega) ⟨by decide, by decide⟩ (Or.inr (by decide)) rfl
    have hZ5U : zU [] Z Z5 := zU_u zU_r hZ5 (Or.inl rfl)
    have hZ5K : zC [1, 95, 96] Z Z5 := zC_u zC_r hZ5 (by decide)
    intro μ9 e9
    replace e9 := e9.trans (zm_wI (Z := Z) (ν := ν) hZ5 (show ((0 : Nat) : Int) = 0 from rfl) (show ((0 : Nat) : Int) = 0 from rfl) (show ((2 : Nat) : Int) = 2 from rfl) (show (1 : Int32) = i3 1 from rfl))
    subst e9
    exact zlY hP (show (0 : Int32) = i3 0 from rfl) (.inl rfl) ⟨hZ5I, hZ5K, hZ5U⟩
  · replace hP := zE_n hP h4
    have r6 := zM_k hZ 2 0 0 3200 (lo := 0) (hi := 4) (by decide) rfl
    refine wz_br (i3L (i3S (zm_rd (Z := Z) (ν := ν) (k := 2) (show ((0 : Nat) : Int) = 0 from rfl) (show ((0 : Nat) : Int) = 0 from rfl) (show ((3200 : Nat) : Int) = 3200 from rfl)) (show (1 : Int32) = i3 1 from rfl)) (rfl : i3 a1 = i3 a1) (by omega) (by omega) (by omega) (by omega)) (fun h7 => ?_) (fun h7 => ?_)
    · replace hP := zE_p hP h7
      obtain ⟨Z8, hZ8⟩ := zx (zu Z 1 0 0 2 1)
      replace hP := zl_e hP hZ8
      have hZ8I := zM_u hZ hZ8 (lo := -2147483648) (hi := 2147483647) (by decide) rfl (by omega) ⟨by decide, by decide⟩ (Or.inr (by decide)) rfl
      have hZ8U : zU [] Z Z8 := zU_u zU_r hZ8 (Or.inl rfl)
      have hZ8K : zC [1, 95, 96] Z Z8 := zC_u zC_r hZ8 (by decide)
      intro μ9 e9
      replace e9 := e9.trans (zm_wI (Z := Z) (ν := ν) hZ8 (show ((0 : Nat) : Int) = 0 from rfl) (show ((0 : Nat) : Int) = 0 from rfl) (show ((2 : Nat) : Int) = 2 from rfl) (show (1 : Int32) = i3 1 from rfl))
      subst e9
      exact zlY hP (show (0 : Int32) = i3 0 from rfl) (.inl rfl) ⟨hZ8I, hZ8K, hZ8U⟩
    · replace hP := zE_n hP h7
      obtain ⟨Z9, hZ9⟩ := zx (zu Z 1 0 0 2 0)
      replace hP := zl_e hP hZ9
      have hZ9I := zM_0 hZ hZ9 (by decide) (Or.inr (by decide))
      have hZ9U : zU [] Z Z9 := zU_u zU_r hZ9 (Or.inl rfl)
      have hZ9K : zC [1, 95, 96] Z Z9 := zC_u zC_r hZ9 (by decide)
      intro μ9 e9
      replace e9 := e9.trans (zm_wI (Z := Z) (ν := ν) hZ9 (show ((0 : Nat) : Int) = 0 from rfl) (show ((0 : Nat) : Int) = 0 from rfl) (show ((2 : Nat) : Int) = 2 from rfl) (show (0 : Int32) = i3 0 from rfl))
      subst e9
      refine wz_br (i3L (rfl : i3 a2 = i3 a2) (show (0 : Int32) = i3 0 from rfl) (by omega) (by omega) (by omega) (by omega)) (fun h10 => ?_) (fun h10 => ?_)
      · replace hP := zE_p hP h10
        obtain ⟨Z11, hZ11⟩ := zx (zu Z9 1 0 0 2 2)
        replace hP := zl_e hP hZ11
        have hZ11I := zM_u hZ9I hZ11 (lo := -2147483648) (hi := 2147483647) (by decide) rfl (by omega) ⟨by decide, by decide⟩ (Or.inr (by decide)) rfl
        have hZ11U : zU [] Z Z11 := zU_u hZ9U hZ11 (Or.inl rfl)
        have hZ11K : zC [1, 95, 96] Z Z11 := zC_u hZ9K hZ11 (by decide)
        intro μ9 e9
        replace e9 := e9.trans (zm_wI (Z := Z9) (ν := ν) hZ11 (show ((0 : Nat) : Int) = 0 from rfl) (show ((0 : Nat) : Int) = 0 from rfl) (show ((2 : Nat) : Int) = 2 from rfl) (show (2 : Int32) = i3 2 from rfl))
        subst e9
        exact zlY hP (show (0 : Int32) = i3 0 from rfl) (.inl rfl) ⟨hZ11I, hZ11K, hZ11U⟩
      · replace hP := zE_n hP h10
        refine wz_br (i3L (show (4 : Int32) = i3 4 from rfl) (rfl : i3 a2 = i3 a2) (by omega) (by omega) (by omega) (by omega)) (fun h12 => ?_) (fun h12 => ?_)
        · replace hP := zE_p hP h12
          obtain ⟨Z13, hZ13⟩ := zx (zu Z9 1 0 0 2 2)
          replace hP := zl_e hP hZ13
          have hZ13I := zM_u hZ9I hZ13 (lo := -2147483648) (hi := 2147483647) (by decide) rfl (by omega) ⟨by decide, by decide⟩ (Or.inr (by decide)) rfl
          have hZ13U : zU [] Z Z13 := zU_u hZ9U hZ13 (Or.inl rfl)
          have hZ13K : zC [1, 95, 96] Z Z13 := zC_u hZ9K hZ13 (by decide)
          intro μ9 e9
          replace e9 := e9.trans (zm_wI (Z := Z9) (ν := ν) hZ13 (show ((0 : Nat) : Int) = 0 from rfl) (show ((0 : Nat) : Int) = 0 from rfl) (show ((2 : Nat) : Int) = 2 from rfl) (show (2 : Int32) = i3 2 from rfl))
          subst e9
          exact zlY hP (show (0 : Int32) = i3 0 from rfl) (.inl rfl) ⟨hZ13I, hZ13K, hZ13U⟩
        · replace hP := zE_n hP h12
          obtain ⟨Z14, hZ14⟩ := zx (zu Z9 1 0 0 2 0)
          replace hP := zl_e hP hZ14
          have hZ14I := zM_0 hZ9I hZ14 (by decide) (Or.inr (by decide))
          have hZ14U : zU [] Z Z14 := zU_u hZ9U hZ14 (Or.inl rfl)
          have hZ14K : zC [1, 95, 96] Z Z14 := zC_u hZ9K hZ14 (by decide)
          intro μ9 e9
          replace e9 := e9.trans (zm_wI (Z := Z9) (ν := ν) hZ14 (show ((0 : Nat) : Int) = 0 from rfl) (show ((0 : Nat) : Int) = 0 from rfl) (show ((2 : Nat) : Int) = 2 from rfl) (show (0 : Int32) = i3 0 from rfl))
          subst e9
          refine wz_i0 (i3O (n := 4400) (i3A (i3A (show (3250 : Int32) = i3 3250 from rfl) (i3M (show (24 : Int32) = i3 24 from rfl) (rfl : i3 a1 = i3 a1))) (show (2 : Int32) = i3 2 from rfl)) (by omega) (by omega) (by omega)) ?_
          have r15 := zM_k hZ14I 2 0 0 (3252 + 24 * a1) (lo := 0) (hi := 1) (by decide) (zs_3250_2 (x := a1) (by omega) (by omega) (by omega))
          refine wz_br (i3NE (zm_rd (Z := Z14) (ν := ν) (k := 2) (show ((0 : Nat) : Int) = 0 from rfl) (show ((0 : Nat) : Int) = 0 from rfl) (i3I (y := (3252 + 24 * a1)) (i3A (i3A (show (3250 : Int32) = i3 3250 from rfl) (i3M (show (24 : Int32) = i3 24 from rfl) (rfl : i3 a1 = i3 a1))) (show (2 : Int32) = i3 2 from rfl)) (by omega) (by omega) (by omega))) (show (1 : Int32) = i3 1 from rfl) (by omega) (by omega) (by omega) (by omega)) (fun h16 => ?_) (fun h16 => ?_)
          · replace hP := zE_p hP h16
            obtain ⟨v17, hv17, c9, lv17, uv17⟩ := sp_527 (ν := ν) hZ14I (a1 := a1) (by omega) (zbh (c := 0) (k := 0) hM (Nat.le_of_ble_eq_true rfl))
            replace hP := zl_e hP hv17
            refine wz_cI_of (zas (zcons rfl (zcons (zvi (rfl : i3 a1 = i3 a1)) rfl)) c9) ?_
            clear c9
            obtain ⟨Z18, hZ18, c9, hZ18I, kZ18, jZ18⟩ := sp_511 (ν := ν) hZ14I (a1 := v17) (by omega) (zbh (c := 0) (k := 0) hM (Nat.le_of_ble_eq_true rfl))
            have hZ18U : zU [] Z Z18 := zU_t hZ14U jZ18 zU_b0
            have hZ18K : zC [1, 95, 96] Z Z18 := zC_t hZ14K kZ18 (by decide)
            replace hP := zl_e hP hZ18
            refine wz_cV_of (zas (zcons rfl (zcons (zvi (rfl : i3 v17 = i3 v17)) rfl)) c9) ?_
            clear c9
            have r19 := zM_k hZ18I 1 0 0 24 (lo := 0) (hi := 5) (by decide) rfl
            refine wz_br (i3Le (zm_rd (Z := Z18) (ν := ν) (k := 1) (show ((0 : Nat) : Int) = 0 from rfl) (show ((0 : Nat) : Int) = 0 from rfl) (show ((24 : Nat) : Int) = 24 from rfl)) (rfl : i3 a2 = i3 a2) (by omega) (by omega) (by omega) (by omega)) (fun h20 => ?_) (fun h20 => ?_)
            · replace hP := zE_p hP h20
              exact zlY hP (show (-1 : Int32) = i3 (-1) from rfl) (.inl rfl) ⟨hZ18I, hZ18K, hZ18U⟩
            · replace hP := zE_n hP h20
              refine wz_i0 (i3O (n := 5) (rfl : i3 a2 = i3 a2) (by omega) (by omega) (by omega)) ?_
              have r21 := zM_k hZ18I 96 0 0 a2 (lo := 0) (hi := 4) (by decide) rfl
              exact zlY hP (zm_rd (Z := Z18) (ν := ν) (k := 96) (show ((0 : Nat) : Int) = 0 from rfl) (show ((0 : Nat) : Int) = 0 from rfl) (i3I (y := a2) (rfl : i3 a2 = i3 a2) (by omega) (by omega) (by omega))) (.inl rfl) ⟨hZ18I, hZ18K, hZ18U⟩
          · replace hP := zE_n hP h16
            refine wz_i0 (i3O (n := 4400) (i3A (i3A (show (3250 : Int32) = i3 3250 from rfl) (i3M (show (24 : Int32) = i3 24 from rfl) (rfl : i3 a1 = i3 a1))) (show (8 : Int32) = i3 8 from rfl)) (by omega) (by omega) (by omega)) ?_
            have r22 := zM_k hZ14I 2 0 0 (3258 + 24 * a1) (lo := 0) (hi := 5) (by decide) (zs_3250_8 (x := a1) (by omega) (by omega) (by omega))
            refine wz_br (i3Le (zm_rd (Z := Z14) (ν := ν) (k := 2) (show ((0 : Nat) : Int) = 0 from rfl) (show ((0 : Nat) : Int) = 0 from rfl) (i3I (y := (3258 + 24 * a1)) (i3A (i3A (show (3250 : Int32) = i3 3250 from rfl) (i3M (show (24 : Int32) = i3 24 from rfl) (rfl : i3 a1 = i3 a1))) (show (8 : Int32) = i3 8 from rfl)) (by omega) (by omega) (by omega))) (rfl : i3 a2 = i3 a2) (by omega) (by omega) (by omega) (by omega)) (fun h23 => ?_) (fun h23 => ?_)
            · replace hP := zE_p hP h23
              exact zlY hP (show (-1 : Int32) = i3 (-1) from rfl) (.inl rfl) ⟨hZ14I, hZ14K, hZ14U⟩
            · replace hP := zE_n hP h23
              refine wz_i0 (i3O (n := 4400) (i3A (i3A (show (3250 : Int32) = i3 3250 from rfl) (i3M (show (24 : Int32) = i3 24 from rfl) (rfl : i3 a1 = i3 a1))) (i3A (show (9 : Int32) = i3 9 from rfl) (rfl : i3 a2 = i3 a2))) (by omega) (by omega) (by omega)) ?_
              have r24 := zM_k hZ14I 2 0 0 (3259 + 24 * a1 + a2) (lo := 0) (hi := 4) (by decide) (zsx (zsb_3250 (by omega) (by omega)) (c0 := 9) (n := 5) (by decide +kernel) (by omega) (by omega))
              exact zlY hP (zm_rd (Z := Z14) (ν := ν) (k := 2) (show ((0 : Nat) : Int) = 0 from rfl) (show ((0 : Nat) : Int) = 0 from rfl) (i3I (y := (3259 + 24 * a1 + a2)) (i3A (i3A (show (3250 : Int32) = i3 3250 from rfl) (i3M (show (24 : Int32) = i3 24 from rfl) (rfl : i3 a1 = i3 a1))) (i3A (show (9 : Int32) = i3 9 from rfl) (rfl : i3 a2 = i3 a2))) (by omega) (by omega) (by omega))) (.inl rfl) ⟨hZ14I, hZ14K, hZ14U⟩
/- yX12_truck -/
def zy_539 (Z : qz_Z) (dm : qz_Z → Int → Int → Int → Int → Int → Int → Int → qz_Z) (a1 : Int) (a2 : Int) : qz_Z × Int := (if a1 < 10 then (zlet (zu Z 1 0 0 2 1) (fun Z5 => (Z5, 0))) else (if 99 < a1 then (zlet (zu Z 1 0 0 2 1) (fun Z7 => (Z7, 0))) else (if a2 < 0 then (zlet (zu Z 1 0 0 2 1) (fun Z9 => (Z9, 0))) else (if 40 < a2 then (zlet (zu Z 1 0 0 2 1) (fun Z11 => (Z11, 0))) else (zlet (zu Z 1 0 0 2 0) (fun Z12 => (if 4 ≤ (Z12 2 0 0 3200) then (zlet (zu Z12 1 0 0 2 2) (fun Z15 => (Z15, 0))) else (zlet (zu Z12 1 0 0 2 0) (fun Z16 => (zlet (dm Z16 20 a1 a2 0 0 0 0) (fun Z23 => (zlet (zu Z23 2 0 0 (3250 + 24 * (Z23 2 0 0 3200)) a1) (fun Z26 => (zlet (zu Z26 2 0 0 (3251 + 24 * (Z23 2 0 0 3200)) a2) (fun Z27 => (zlet (zu Z27 2 0 0 (3253 + 24 * (Z23 2 0 0 3200)) (-1)) (fun Z28 => (zlet (zu Z28 2 0 0 (3254 + 24 * (Z23 2 0 0 3200)) (-1)) (fun Z29 => (zlet (zu Z29 2 0 0 3200 ((Z29 2 0 0 3200) + 1)) (fun Z32 => (Z32, (Z23 2 0 0 3200)))))))))))))))))))))))
theorem sy_539 {s : zSM} {Z : qz_Z} {ν : qz_N} (hZ : zM s Z) (gq : Z 1 0 0 35 = 0) (hM : s.2 + 0 ≤ 1000000000) {a1 : Int} (ga1 : -2147483648 ≤ a1 ∧ a1 ≤ 2147483647) {a2 : Int} (ga2 : -2147483648 ≤ a2 ∧ a2 ≤ 2147483647) {dk : qz_Z → qz_Z} {dm : qz_Z → Int → Int → Int → Int → Int → Int → Int → qz_Z} {ν1 : qz_N} (hdm : zDm s ν ν1 Z dk dm) : ∃ (Z1 : qz_Z) (ν2 : qz_N) (v : Int), (Z1, v) = zy_539 Z dm a1 a2 ∧ (ν2 = ν ∨ ν2 = ν1) ∧ qf_539 [.inr (.inr (some (1, 0, 0))), .inl (i3 a1), .inl (i3 a2)] (zm Z ν) = some (zm Z1 ν2, .inl (some (.inl (i3 v)))) ∧ (fun Z1 => zM s Z1 ∧ zC [1, 2, 101, 102, 200] Z Z1 ∧ zU [] Z Z1) Z1 := by
  obtain ⟨P, hP⟩ := zx (zy_539 Z dm a1 a2)
  refine zc_Y (Q := fun Z1 => zM s Z1 ∧ zC [1, 2, 101, 102, 200] Z Z1 ∧ zU [] Z Z1) hP (fw_539 (i3 a1) (i3 a2) _ _ ?_)
  replace hP : zE P (zy_539 Z dm a1 a2) := hP
  unfold zy_539 at hP
  have r1 := zM_k hZ 1 0 0 35 (lo := 0) (hi := 1) (by decide) rfl
  have r2 := zM_k hZ 1 0 0 34 (lo := 0) (hi := 8) (by decide) rfl
  have r3 := zM_f hZ 1 0 0 37
  refine wz_br (i3L (rfl : i3 a1 = i3 a1) (show (10 : Int32) = i3 10 from rfl) (by omega) (by omega) (by omega) (by omega)) (fun h4 => ?_) (fun h4 => ?_)
  · replace hP := zE_p hP h4
    obtain ⟨Z5, hZ5⟩ := zx (zu Z 1 0 0 2 1)
    replace hP := zl_e hP hZ5
    have hZ5I := zM_u hZ hZ5 (lo := -2147483648) (hi := 2147483647) (by decide) rfl (by omega) ⟨by decide, by decide⟩ (Or.inr (by decide)) rfl
    have hZ5U : zU [] Z Z5 := zU_u zU_r hZ5 (Or.inl rfl)
    have hZ5K : zC [1, 2, 101, 102, 200] Z Z5 := zC_u zC_r hZ5 (by decide)
    intro μ9 e9
    replace e9 := e9.trans (zm_wI (Z := Z) (ν := ν) hZ5 (show ((0 : Nat) : Int) = 0 from rfl) (show ((0 : Nat) : Int) = 0 from rfl) (show ((2 : Nat) : Int) = 2 from rfl) (show (1 : Int32) = i3 1 from rfl))
    subst e9
    exact zlY hP (show (0 : Int32) = i3 0 from rfl) (.inl rfl) ⟨hZ5I, hZ5K, hZ5U⟩
  · replace hP := zE_n hP h4
    refine wz_br (i3L (show (99 : Int32) = i3 99 from rfl) (rfl : i3 a1 = i3 a1) (by omega) (by omega) (by omega) (by omega)) (fun h6 => ?_) (fun h6 => ?_)
    · replace hP := zE_p hP h6
      obtain ⟨Z7, hZ7⟩ := zx (zu Z 1 0 0 2 1)
      replace hP := zl_e hP hZ7
      have hZ7I := zM_u hZ hZ7 (lo := -2147483648) (hi := 2147483647) (by decide) rfl (by omega) ⟨by decide, by decide⟩ (Or.inr (by decide)) rfl
      have hZ7U : zU [] Z Z7 := zU_u zU_r hZ7 (Or.inl rfl)
      have hZ7K : zC [1, 2, 101, 102, 200] Z Z7 := zC_u zC_r hZ7 (by decide)
      intro μ9 e9
      replace e9 := e9.trans (zm_wI (Z := Z) (ν := ν) hZ7 (show ((0 : Nat) : Int) = 0 from rfl) (show ((0 : Nat) : Int) = 0 from rfl) (show ((2 : Nat) : Int) = 2 from rfl) (show (1 : Int32) = i3 1 from rfl))
      subst e9
      exact zlY hP (show (0 : Int32) = i3 0 from rfl) (.inl rfl) ⟨hZ7I, hZ7K, hZ7U⟩
    · replace hP := zE_n hP h6
      refine wz_br (i3L (rfl : i3 a2 = i3 a2) (show (0 : Int32) = i3 0 from rfl) (by omega) (by omega) (by omega) (by omega)) (fun h8 => ?_) (fun h8 => ?_)
      · replace hP := zE_p hP h8
        obtain ⟨Z9, hZ9⟩ := zx (zu Z 1 0 0 2 1)
        replace hP := zl_e hP hZ9
        have hZ9I := zM_u hZ hZ9 (lo := -2147483648) (hi := 2147483647) (by decide) rfl (by omega) ⟨by decide, by decide⟩ (Or.inr (by decide)) rfl
        have hZ9U : zU [] Z Z9 := zU_u zU_r hZ9 (Or.inl rfl)
        have hZ9K : zC [1, 2, 101, 102, 200] Z Z9 := zC_u zC_r hZ9 (by decide)
        intro μ9 e9
        replace e9 := e9.trans (zm_wI (Z := Z) (ν := ν) hZ9 (show ((0 : Nat) : Int) = 0 from rfl) (show ((0 : Nat) : Int) = 0 from rfl) (show ((2 : Nat) : Int) = 2 from rfl) (show (1 : Int32) = i3 1 from rfl))
        subst e9
        exact zlY hP (show (0 : Int32) = i3 0 from rfl) (.inl rfl) ⟨hZ9I, hZ9K, hZ9U⟩
      · replace hP := zE_n hP h8
        refine wz_br (i3L (show (40 : Int32) = i3 40 from rfl) (rfl : i3 a2 = i3 a2) (by omega) (by omega) (by omega) (by omega)) (fun h10 => ?_) (fun h10 => ?_)
        · replace hP := zE_p hP h10
          obtain ⟨Z11, hZ11⟩ := zx (zu Z 1 0 0 2 1)
          replace hP := zl_e hP hZ11
          have hZ11I := zM_u hZ hZ11 (lo := -2147483648) (hi := 2147483647) (by decide) rfl (by omega) ⟨by decide, by decide⟩ (Or.inr (by decide)) rfl
          have hZ11U : zU [] Z Z11 := zU_u zU_r hZ11 (Or.inl rfl)
          have hZ11K : zC [1, 2, 101, 102, 200] Z Z11 := zC_u zC_r hZ11 (by decide)
          intro μ9 e9
          replace e9 := e9.trans (zm_wI (Z := Z) (ν := ν) hZ11 (show ((0 : Nat) : Int) = 0 from rfl) (show ((0 : Nat) : Int) = 0 from rfl) (show ((2 : Nat) : Int) = 2 from rfl) (show (1 : Int32) = i3 1 from rfl))
          subst e9
          exact zlY hP (show (0 : Int32) = i3 0 from rfl) (.inl rfl) ⟨hZ11I, hZ11K, hZ11U⟩
        · replace hP := zE_n hP h10
          obtain ⟨Z12, hZ12⟩ := zx (zu Z 1 0 0 2 0)
          replace hP := zl_e hP hZ12
          have hZ12I := zM_0 hZ hZ12 (by decide) (Or.inr (by decide))
          have hZ12U : zU [] Z Z12 := zU_u zU_r hZ12 (Or.inl rfl)
          have hZ12K : zC [1, 2, 101, 102, 200] Z Z12 := zC_u zC_r hZ12 (by decide)
          intro μ9 e9
          replace e9 := e9.trans (zm_wI (Z := Z) (ν := ν) hZ12 (show ((0 : Nat) : Int) = 0 from rfl) (show ((0 : Nat) : Int) = 0 from rfl) (show ((2 : Nat) : Int) = 2 from rfl) (show (0 : Int32) = i3 0 from rfl))
          subst e9
          have r13 := zM_k hZ12I 2 0 0 3200 (lo := 0) (hi := 4) (by decide) rfl
          refine wz_br (i3Le (show (4 : Int32) = i3 4 from rfl) (zm_rd (Z := Z12) (ν := ν) (k := 2) (show ((0 : Nat) : Int) = 0 from rfl) (show ((0 : Nat) : Int) = 0 from rfl) (show ((3200 : Nat) : Int) = 3200 from rfl)) (by omega) (by omega) (by omega) (by omega)) (fun h14 => ?_) (fun h14 => ?_)
          · replace hP := zE_p hP h14
            obtain ⟨Z15, hZ15⟩ := zx (zu Z12 1 0 0 2 2)
            replace hP := zl_e hP hZ15
            have hZ15I := zM_u hZ12I hZ15 (lo := -2147483648) (hi := 2147483647) (by decide) rfl (by omega) ⟨by decide, by decide⟩ (Or.inr (by decide)) rfl
            have hZ15U : zU [] Z Z15 := zU_u hZ12U hZ15 (Or.inl rfl)
            have hZ15K : zC [1, 2, 101, 102, 200] Z Z15 := zC_u hZ12K hZ15 (by decide)
            intro μ9 e9
            replace e9 := e9.trans (zm_wI (Z := Z12) (ν := ν) hZ15 (show ((0 : Nat) : Int) = 0 from rfl) (show ((0 : Nat) : Int) = 0 from rfl) (show ((2 : Nat) : Int) = 2 from rfl) (show (2 : Int32) = i3 2 from rfl))
            subst e9
            exact zlY hP (show (0 : Int32) = i3 0 from rfl) (.inl rfl) ⟨hZ15I, hZ15K, hZ15U⟩
          · replace hP := zE_n hP h14
            obtain ⟨Z16, hZ16⟩ := zx (zu Z12 1 0 0 2 0)
            replace hP := zl_e hP hZ16
            have hZ16I := zM_0 hZ12I hZ16 (by decide) (Or.inr (by decide))
            have hZ16U : zU [] Z Z16 := zU_u hZ12U hZ16 (Or.inl rfl)
            have hZ16K : zC [1, 2, 101, 102, 200] Z Z16 := zC_u hZ12K hZ16 (by decide)
            intro μ9 e9
            replace e9 := e9.trans (zm_wI (Z := Z12) (ν := ν) hZ16 (show ((0 : Nat) : Int) = 0 from rfl) (show ((0 : Nat) : Int) = 0 from rfl) (show ((2 : Nat) : Int) = 2 from rfl) (show (0 : Int32) = i3 0 from rfl))
            subst e9
            have r17 := zM_k hZ16I 1 0 0 35 (lo := 0) (hi := 1) (by decide) rfl
            have q18 := (zu_ne (k' := 1) (b' := 0) (i' := 0) (j' := 35) hZ16 (fun q => absurd q.2.2.2 (by decide))).trans (zu_ne (k' := 1) (b' := 0) (i' := 0) (j' := 35) hZ12 (fun q => absurd q.2.2.2 (by decide)))
            refine wz_i0 (Eq.trans (i3NE (zm_rd (Z := Z16) (ν := ν) (k := 1) (show ((0 : Nat) : Int) = 0 from rfl) (show ((0 : Nat) : Int) = 0 from rfl) (show ((35 : Nat) : Int) = 35 from rfl)) (show (0 : Int32) = i3 0 from rfl) (by omega) (by omega) (by omega) (by omega)) (decide_eq_false (by omega))) ?_
            have r19 := zM_k hZ16I 1 0 0 34 (lo := 0) (hi := 8) (by decide) rfl
            have q20 := (zu_ne (k' := 1) (b' := 0) (i' := 0) (j' := 34) hZ16 (fun q => absurd q.2.2.2 (by decide))).trans (zu_ne (k' := 1) (b' := 0) (i' := 0) (j' := 34) hZ12 (fun q => absurd q.2.2.2 (by decide)))
            have r21 := zM_f hZ16I 1 0 0 37
            have q22 := (zu_ne (k' := 1) (b' := 0) (i' := 0) (j' := 37) hZ16 (fun q => absurd q.2.2.2 (by decide))).trans (zu_ne (k' := 1) (b' := 0) (i' := 0) (j' := 37) hZ12 (fun q => absurd q.2.2.2 (by decide)))
            obtain ⟨c8, c9, hZ23I, dZ23⟩ := hdm Z16 20 a1 a2 0 0 0 0 hZ16I (by omega) (by omega) (by omega) (by omega) (by omega) (by omega) (by omega) (by omega) (by omega) (by omega)
            obtain ⟨Z23, hZ23⟩ := zx (dm Z16 20 a1 a2 0 0 0 0)
            rw [← hZ23] at c9 hZ23I dZ23
            replace hP := zl_e hP hZ23
            refine wz_cV_of (zas (zcons rfl (zcons (zvi (show (-1 : Int32) = i3 (-1) from rfl)) rfl)) c8) ?_
            refine wz_cV_of (zas (zcons rfl (zcons (zvi (show (20 : Int32) = i3 20 from rfl)) (zcons (zvi (rfl : i3 a1 = i3 a1)) (zcons (zvi (rfl : i3 a2 = i3 a2)) (zcons (zvi (show (0 : Int32) = i3 0 from rfl)) (zcons (zvi (show (0 : Int32) = i3 0 from rfl)) (zcons (zvi (show (0 : Int32) = i3 0 from rfl)) (zcons (zvi (show (0 : Int32) = i3 0 from rfl)) rfl)))))))) c9) ?_
            clear c8 c9
            have hZ23K : zC [1, 2, 101, 102, 200] Z Z23 := zC_t hZ16K (zMd_C dZ23) (by decide)
            have hZ23U : zU [] Z Z23 := zU_t hZ16U (zMd_U dZ23) zU_b0
            have r24 := zM_k hZ23I 2 0 0 3200 (lo := 0) (hi := 4) (by decide) rfl
            have q25 := (dZ23 2 0 0 3200 (by simp)).trans (zu_ne (k' := 2) (b' := 0) (i' := 0) (j' := 3200) hZ16 (fun q => absurd q.1 (by decide)))
            refine wz_i0 (i3O (n := 4400) (i3A (i3A (show (3250 : Int32) = i3 3250 from rfl) (i3M (show (24 : Int32) = i3 24 from rfl) (zm_rd (Z := Z23) (ν := ν1) (k := 2) (show ((0 : Nat) : Int) = 0 from rfl) (show ((0 : Nat) : Int) = 0 from rfl) (show ((3200 : Nat) : Int) = 3200 from rfl)))) (show (0 : Int32) = i3 0 from rfl)) (by omega) (by omega) (by omega)) ?_
            obtain ⟨Z26, hZ26⟩ := zx (zu Z23 2 0 0 (3250 + 24 * (Z23 2 0 0 3200)) a1)
            replace hP := zl_e hP hZ26
            have hZ26I := zM_u2 hZ23I hZ26 (lo := 0) (hi := 99) (zs_3250_0 (x := (Z23 2 0 0 3200)) (by omega) (by omega) (by omega)) (by omega) ⟨by decide, by decide⟩ (by simp only [zsp]; omega)
            have hZ26U : zU [] Z Z26 := zU_u hZ23U hZ26 (Or.inl rfl)
            have hZ26K : zC [1, 2, 101, 102, 200] Z Z26 := zC_u hZ23K hZ26 (zcl_2w (by omega) rfl)
            intro μ9 e9
            replace e9 := e9.trans (zm_wI (Z := Z23) (ν := ν1) hZ26 (show ((0 : Nat) : Int) = 0 from rfl) (show ((0 : Nat) : Int) = 0 from rfl) (i3I (y := (3250 + 24 * (Z23 2 0 0 3200))) (i3A (i3A (show (3250 : Int32) = i3 3250 from rfl) (i3M (show (24 : Int32) = i3 24 from rfl) (zm_rd (Z := Z23) (ν := ν1) (k := 2) (show ((0 : Nat) : Int) = 0 from rfl) (show ((0 : Nat) : Int) = 0 from rfl) (show ((3200 : Nat) : Int) = 3200 from rfl)))) (show (0 : Int32) = i3 0 from rfl)) (by omega) (by omega) (by omega)) (rfl : i3 a1 = i3 a1))
            subst e9
            refine wz_i0 (i3O (n := 4400) (i3A (i3A (show (3250 : Int32) = i3 3250 from rfl) (i3M (show (24 : Int32) = i3 24 from rfl) (zm_rd (Z := Z23) (ν := ν1) (k := 2) (show ((0 : Nat) : Int) = 0 from rfl) (show ((0 : Nat) : Int) = 0 from rfl) (show ((3200 : Nat) : Int) = 3200 from rfl)))) (show (1 : Int32) = i3 1 from rfl)) (by omega) (by omega) (by omega)) ?_
            obtain ⟨Z27, hZ27⟩ := zx (zu Z26 2 0 0 (3251 + 24 * (Z23 2 0 0 3200)) a2)
            replace hP := zl_e hP hZ27
            have hZ27I := zM_u2 hZ26I hZ27 (lo := 0) (hi := 40) (zs_3250_1 (x := (Z23 2 0 0 3200)) (by omega) (by omega) (by omega)) (by omega) ⟨by decide, by decide⟩ (by simp only [zsp]; omega)
            have hZ27U : zU [] Z Z27 := zU_u hZ26U hZ27 (Or.inl rfl)
            have hZ27K : zC [1, 2, 101, 102, 200] Z Z27 := zC_u hZ26K hZ27 (zcl_2w (by omega) rfl)
            intro μ9 e9
            replace e9 := e9.trans (zm_wI (Z := Z26) (ν := ν1) hZ27 (show ((0 : Nat) : Int) = 0 from rfl) (show ((0 : Nat) : Int) = 0 from rfl) (i3I (y := (3251 + 24 * (Z23 2 0 0 3200))) (i3A (i3A (show (3250 : Int32) = i3 3250 from rfl) (i3M (show (24 : Int32) = i3 24 from rfl) (zm_rd (Z := Z23) (ν := ν1) (k := 2) (show ((0 : Nat) : Int) = 0 from rfl) (show ((0 : Nat) : Int) = 0 from rfl) (show ((3200 : Nat) : Int) = 3200 from rfl)))) (show (1 : Int32) = i3 1 from rfl)) (by omega) (by omega) (by omega)) (rfl : i3 a2 = i3 a2))
            subst e9
            refine wz_i0 (i3O (n := 4400) (i3A (i3A (show (3250 : Int32) = i3 3250 from rfl) (i3M (show (24 : Int32) = i3 24 from rfl) (zm_rd (Z := Z23) (ν := ν1) (k := 2) (show ((0 : Nat) : Int) = 0 from rfl) (show ((0 : Nat) : Int) = 0 from rfl) (show ((3200 : Nat) : Int) = 3200 from rfl)))) (show (3 : Int32) = i3 3 from rfl)) (by omega) (by omega) (by omega)) ?_
            obtain ⟨Z28, hZ28⟩ := zx (zu Z27 2 0 0 (3253 + 24 * (Z23 2 0 0 3200)) (-1))
            replace hP := zl_e hP hZ28
            have hZ28I := zM_u2 hZ27I hZ28 (lo := -1) (hi := 671) (zs_3250_3 (x := (Z23 2 0 0 3200)) (by omega) (by omega) (by omega)) (by omega) ⟨by decide, by decide⟩ (by simp only [zsp]; omega)
            have hZ28U : zU [] Z Z28 := zU_u hZ27U hZ28 (Or.inl rfl)
            have hZ28K : zC [1, 2, 101, 102, 200] Z Z28 := zC_u hZ27K hZ28 (zcl_2w (by omega) rfl)
            intro μ9 e9
            replace e9 := e9.trans (zm_wI (Z := Z27) (ν := ν1) hZ28 (show ((0 : Nat) : Int) = 0 from rfl) (show ((0 : Nat) : Int) = 0 from rfl) (i3I (y := (3253 + 24 * (Z23 2 0 0 3200))) (i3A (i3A (show (3250 : Int32) = i3 3250 from rfl) (i3M (show (24 : Int32) = i3 24 from rfl) (zm_rd (Z := Z23) (ν := ν1) (k := 2) (show ((0 : Nat) : Int) = 0 from rfl) (show ((0 : Nat) : Int) = 0 from rfl) (show ((3200 : Nat) : Int) = 3200 from rfl)))) (show (3 : Int32) = i3 3 from rfl)) (by omega) (by omega) (by omega)) (show (-1 : Int32) = i3 (-1) from rfl))
            subst e9
            refine wz_i0 (i3O (n := 4400) (i3A (i3A (show (3250 : Int32) = i3 3250 from rfl) (i3M (show (24 : Int32) = i3 24 from rfl) (zm_rd (Z := Z23) (ν := ν1) (k := 2) (show ((0 : Nat) : Int) = 0 from rfl) (show ((0 : Nat) : Int) = 0 from rfl) (show ((3200 : Nat) : Int) = 3200 from rfl)))) (show (4 : Int32) = i3 4 from rfl)) (by omega) (by omega) (by omega)) ?_
            obtain ⟨Z29, hZ29⟩ := zx (zu Z28 2 0 0 (3254 + 24 * (Z23 2 0 0 3200)) (-1))
            replace hP := zl_e hP hZ29
            have hZ29I := zM_u2 hZ28I hZ29 (lo := -1) (hi := 671) (zs_3250_4 (x := (Z23 2 0 0 3200)) (by omega) (by omega) (by omega)) (by omega) ⟨by decide, by decide⟩ (by simp only [zsp]; omega)
            have hZ29U : zU [] Z Z29 := zU_u hZ28U hZ29 (Or.inl rfl)
            have hZ29K : zC [1, 2, 101, 102, 200] Z Z29 := zC_u hZ28K hZ29 (zcl_2w (by omega) rfl)
            intro μ9 e9
            replace e9 := e9.trans (zm_wI (Z := Z28) (ν := ν1) hZ29 (show ((0 : Nat) : Int) = 0 from rfl) (show ((0 : Nat) : Int) = 0 from rfl) (i3I (y := (3254 + 24 * (Z23 2 0 0 3200))) (i3A (i3A (show (3250 : Int32) = i3 3250 from rfl) (i3M (show (24 : Int32) = i3 24 from rfl) (zm_rd (Z := Z23) (ν := ν1) (k := 2) (show ((0 : Nat) : Int) = 0 from rfl) (show ((0 : Nat) : Int) = 0 from rfl) (show ((3200 : Nat) : Int) = 3200 from rfl)))) (show (4 : Int32) = i3 4 from rfl)) (by omega) (by omega) (by omega)) (show (-1 : Int32) = i3 (-1) from rfl))
            subst e9
            have r30 := zM_k hZ29I 2 0 0 3200 (lo := 0) (hi := 4) (by decide) rfl
            have q31 := (zu_ne (k' := 2) (b' := 0) (i' := 0) (j' := 3200) hZ29 (fun q => absurd q.2.2.2 (by omega))).trans ((zu_ne (k' := 2) (b' := 0) (i' := 0) (j' := 3200) hZ28 (fun q => absurd q.2.2.2 (by omega))).trans ((zu_ne (k' := 2) (b' := 0) (i' := 0) (j' := 3200) hZ27 (fun q => absurd q.2.2.2 (by omega))).trans (zu_ne (k' := 2) (b' := 0) (i' := 0) (j' := 3200) hZ26 (fun q => absurd q.2.2.2 (by omega)))))
            obtain ⟨Z32, hZ32⟩ := zx (zu Z29 2 0 0 3200 ((Z29 2 0 0 3200) + 1))
            replace hP := zl_e hP hZ32
            have hZ32I := zM_u2 hZ29I hZ32 (lo := 0) (hi := 4) rfl (by omega) ⟨by decide, by decide⟩ (by simp only [zsp]; omega)
            have hZ32U : zU [] Z Z32 := zU_u hZ29U hZ32 (Or.inl rfl)
            have hZ32K : zC [1, 2, 101, 102, 200] Z Z32 := zC_u hZ29K hZ32 (by decide)
            intro μ9 e9
            replace e9 := e9.trans (zm_wI (Z := Z29) (ν := ν1) hZ32 (show ((0 : Nat) : Int) = 0 from rfl) (show ((0 : Nat) : Int) = 0 from rfl) (show ((3200 : Nat) : Int) = 3200 from rfl) (i3A (zm_rd (Z := Z29) (ν := ν1) (k := 2) (show ((0 : Nat) : Int) = 0 from rfl) (show ((0 : Nat) : Int) = 0 from rfl) (show ((3200 : Nat) : Int) = 3200 from rfl)) (show (1 : Int32) = i3 1 from rfl)))
            subst e9
            exact zlY hP (zm_rd (Z := Z23) (ν := ν1) (k := 2) (show ((0 : Nat) : Int) = 0 from rfl) (show ((0 : Nat) : Int) = 0 from rfl) (show ((3200 : Nat) : Int) = 3200 from rfl)) (.inr rfl) ⟨hZ32I, hZ32K, hZ32U⟩

theorem sq_539 {s : zSM} {Z : qz_Z} {ν : qz_N} (hZ : zM s Z) (gq : Z 1 0 0 35 = 1) (hM : s.2 + 0 ≤ 1000000000) {a1 : Int} (ga1 : -2147483648 ≤ a1 ∧ a1 ≤ 2147483647) {a2 : Int} (ga2 : -2147483648 ≤ a2 ∧ a2 ≤ 2147483647) {ν1 : qz_N} : ∃ (Z1 : qz_Z) (ν2 : qz_N) (v : Int), (Z1, v) = zy_539 Z zq0 a1 a2 ∧ (ν2 = ν ∨ ν2 = ν1) ∧ qf_539 [.inr (.inr (some (1, 0, 0))), .inl (i3 a1), .inl (i3 a2)] (zm Z ν) = some (zm Z1 ν2, .inl (some (.inl (i3 v)))) ∧ (fun Z1 => zM s Z1 ∧ zC [1, 2] Z Z1 ∧ zU [] Z Z1) Z1 := by
  obtain ⟨P, hP⟩ := zx (zy_539 Z zq0 a1 a2)
  refine zc_Y (Q := fun Z1 => zM s Z1 ∧ zC [1, 2] Z Z1 ∧ zU [] Z Z1) hP (fw_539 (i3 a1) (i3 a2) _ _ ?_)
  replace hP : zE P (zy_539 Z zq0 a1 a2) := hP
  unfold zy_539 at hP
  have r1 := zM_k hZ 1 0 0 35 (lo := 0) (hi := 1) (by decide) rfl
  have r2 := zM_k hZ 1 0 0 34 (lo := 0) (hi := 8) (by decide) rfl
  have r3 := zM_f hZ 1 0 0 37
  refine wz_br (i3L (rfl : i3 a1 = i3 a1) (show (10 : Int32) = i3 10 from rfl) (by omega) (by omega) (by omega) (by omega)) (fun h4 => ?_) (fun h4 => ?_)
  · replace hP := zE_p hP h4
    obtain ⟨Z5, hZ5⟩ := zx (zu Z 1 0 0 2 1)
    replace hP := zl_e hP hZ5
    have hZ5I := zM_u hZ hZ5 (lo := -2147483648) (hi := 2147483647) (by decide) rfl (by omega) ⟨by decide, by decide⟩ (Or.inr (by decide)) rfl
    have hZ5U : zU [] Z Z5 := zU_u zU_r hZ5 (Or.inl rfl)
    have hZ5K : zC [1, 2] Z Z5 := zC_u zC_r hZ5 (by decide)
    intro μ9 e9
    replace e9 := e9.trans (zm_wI (Z := Z) (ν := ν) hZ5 (show ((0 : Nat) : Int) = 0 from rfl) (show ((0 : Nat) : Int) = 0 from rfl) (show ((2 : Nat) : Int) = 2 from rfl) (show (1 : Int32) = i3 1 from rfl))
    subst e9
    exact zlY hP (show (0 : Int32) = i3 0 from rfl) (.inl rfl) ⟨hZ5I, hZ5K, hZ5U⟩
  · replace hP := zE_n hP h4
    refine wz_br (i3L (show (99 : Int32) = i3 99 from rfl) (rfl : i3 a1 = i3 a1) (by omega) (by omega) (by omega) (by omega)) (fun h6 => ?_) (fun h6 => ?_)
    · replace hP := zE_p hP h6
      obtain ⟨Z7, hZ7⟩ := zx (zu Z 1 0 0 2 1)
      replace hP := zl_e hP hZ7
      have hZ7I := zM_u hZ hZ7 (lo := -2147483648) (hi := 2147483647) (by decide) rfl (by omega) ⟨by decide, by decide⟩ (Or.inr (by decide)) rfl
      have hZ7U : zU [] Z Z7 := zU_u zU_r hZ7 (Or.inl rfl)
      have hZ7K : zC [1, 2] Z Z7 := zC_u zC_r hZ7 (by decide)
      intro μ9 e9
      replace e9 := e9.trans (zm_wI (Z := Z) (ν := ν) hZ7 (show ((0 : Nat) : Int) = 0 from rfl) (show ((0 : Nat) : Int) = 0 from rfl) (show ((2 : Nat) : Int) = 2 from rfl) (show (1 : Int32) = i3 1 from rfl))
      subst e9
      exact zlY hP (show (0 : Int32) = i3 0 from rfl) (.inl rfl) ⟨hZ7I, hZ7K, hZ7U⟩
    · replace hP := zE_n hP h6
      refine wz_br (i3L (rfl : i3 a2 = i3 a2) (show (0 : Int32) = i3 0 from rfl) (by omega) (by omega) (by omega) (by omega)) (fun h8 => ?_) (fun h8 => ?_)
      · replace hP := zE_p hP h8
        obtain ⟨Z9, hZ9⟩ := zx (zu Z 1 0 0 2 1)
        replace hP := zl_e hP hZ9
        have hZ9I := zM_u hZ hZ9 (lo := -2147483648) (hi := 2147483647) (by decide) rfl (by omega) ⟨by decide, by decide⟩ (Or.inr (by decide)) rfl
        have hZ9U : zU [] Z Z9 := zU_u zU_r hZ9 (Or.inl rfl)
        have hZ9K : zC [1, 2] Z Z9 := zC_u zC_r hZ9 (by decide)
        intro μ9 e9
        replace e9 := e9.trans (zm_wI (Z := Z) (ν := ν) hZ9 (show ((0 : Nat) : Int) = 0 from rfl) (show ((0 : Nat) : Int) = 0 from rfl) (show ((2 : Nat) : Int) = 2 from rfl) (show (1 : Int32) = i3 1 from rfl))
        subst e9
        exact zlY hP (show (0 : Int32) = i3 0 from rfl) (.inl rfl) ⟨hZ9I, hZ9K, hZ9U⟩
      · replace hP := zE_n hP h8
        refine wz_br (i3L (show (40 : Int32) = i3 40 from rfl) (rfl : i3 a2 = i3 a2) (by omega) (by omega) (by omega) (by omega)) (fun h10 => ?_) (fun h10 => ?_)
        · replace hP := zE_p hP h10
          obtain ⟨Z11, hZ11⟩ := zx (zu Z 1 0 0 2 1)
          replace hP := zl_e hP hZ11
          have hZ11I := zM_u hZ hZ11 (lo := -2147483648) (hi := 2147483647) (by decide) rfl (by omega) ⟨by decide, by decide⟩ (Or.inr (by decide)) rfl
          have hZ11U : zU [] Z Z11 := zU_u zU_r hZ11 (Or.inl rfl)
          have hZ11K : zC [1, 2] Z Z11 := zC_u zC_r hZ11 (by decide)
          intro μ9 e9
          replace e9 := e9.trans (zm_wI (Z := Z) (ν := ν) hZ11 (show ((0 : Nat) : Int) = 0 from rfl) (show ((0 : Nat) : Int) = 0 from rfl) (show ((2 : Nat) : Int) = 2 from rfl) (show (1 : Int32) = i3 1 from rfl))
          subst e9
          exact zlY hP (show (0 : Int32) = i3 0 from rfl) (.inl rfl) ⟨hZ11I, hZ11K, hZ11U⟩
        · replace hP := zE_n hP h10
          obtain ⟨Z12, hZ12⟩ := zx (zu Z 1 0 0 2 0)
          replace hP := zl_e hP hZ12
          have hZ12I := zM_0 hZ hZ12 (by decide) (Or.inr (by decide))
          have hZ12U : zU [] Z Z12 := zU_u zU_r hZ12 (Or.inl rfl)
          have hZ12K : zC [1, 2] Z Z12 := zC_u zC_r hZ12 (by decide)
          intro μ9 e9
          replace e9 := e9.trans (zm_wI (Z := Z) (ν := ν) hZ12 (show ((0 : Nat) : Int) = 0 from rfl) (show ((0 : Nat) : Int) = 0 from rfl) (show ((2 : Nat) : Int) = 2 from rfl) (show (0 : Int32) = i3 0 from rfl))
          subst e9
          have r13 := zM_k hZ12I 2 0 0 3200 (lo := 0) (hi := 4) (by decide) rfl
          refine wz_br (i3Le (show (4 : Int32) = i3 4 from rfl) (zm_rd (Z := Z12) (ν := ν) (k := 2) (show ((0 : Nat) : Int) = 0 from rfl) (show ((0 : Nat) : Int) = 0 from rfl) (show ((3200 : Nat) : Int) = 3200 from rfl)) (by omega) (by omega) (by omega) (by omega)) (fun h14 => ?_) (fun h14 => ?_)
          · replace hP := zE_p hP h14
            obtain ⟨Z15, hZ15⟩ := zx (zu Z12 1 0 0 2 2)
            replace hP := zl_e hP hZ15
            have hZ15I := zM_u hZ12I hZ15 (lo := -2147483648) (hi := 2147483647) (by decide) rfl (by omega) ⟨by decide, by decide⟩ (Or.inr (by decide)) rfl
            have hZ15U : zU [] Z Z15 := zU_u hZ12U hZ15 (Or.inl rfl)
            have hZ15K : zC [1, 2] Z Z15 := zC_u hZ12K hZ15 (by decide)
            intro μ9 e9
            replace e9 := e9.trans (zm_wI (Z := Z12) (ν := ν) hZ15 (show ((0 : Nat) : Int) = 0 from rfl) (show ((0 : Nat) : Int) = 0 from rfl) (show ((2 : Nat) : Int) = 2 from rfl) (show (2 : Int32) = i3 2 from rfl))
            subst e9
            exact zlY hP (show (0 : Int32) = i3 0 from rfl) (.inl rfl) ⟨hZ15I, hZ15K, hZ15U⟩
          · replace hP := zE_n hP h14
            obtain ⟨Z16, hZ16⟩ := zx (zu Z12 1 0 0 2 0)
            replace hP := zl_e hP hZ16
            have hZ16I := zM_0 hZ12I hZ16 (by decide) (Or.inr (by decide))
            have hZ16U : zU [] Z Z16 := zU_u hZ12U hZ16 (Or.inl rfl)
            have hZ16K : zC [1, 2] Z Z16 := zC_u hZ12K hZ16 (by decide)
            intro μ9 e9
            replace e9 := e9.trans (zm_wI (Z := Z12) (ν := ν) hZ16 (show ((0 : Nat) : Int) = 0 from rfl) (show ((0 : Nat) : Int) = 0 from rfl) (show ((2 : Nat) : Int) = 2 from rfl) (show (0 : Int32) = i3 0 from rfl))
            subst e9
            have r17 := zM_k hZ16I 1 0 0 35 (lo := 0) (hi := 1) (by decide) rfl
            have q18 := (zu_ne (k' := 1) (b' := 0) (i' := 0) (j' := 35) hZ16 (fun q => absurd q.2.2.2 (by decide))).trans (zu_ne (k' := 1) (b' := 0) (i' := 0) (j' := 35) hZ12 (fun q => absurd q.2.2.2 (by decide)))
            refine wz_i1 (Eq.trans (i3NE (zm_rd (Z := Z16) (ν := ν) (k := 1) (show ((0 : Nat) : Int) = 0 from rfl) (show ((0 : Nat) : Int) = 0 from rfl) (show ((35 : Nat) : Int) = 35 from rfl)) (show (0 : Int32) = i3 0 from rfl) (by omega) (by omega) (by omega) (by omega)) (decide_eq_true (by omega))) ?_
            replace hP := zl_q hP (rfl : _ = Z16)
            have r19 := zM_k hZ16I 2 0 0 3200 (lo := 0) (hi := 4) (by decide) rfl
            have q20 := zu_ne (k' := 2) (b' := 0) (i' := 0) (j' := 3200) hZ16 (fun q => absurd q.1 (by decide))
            refine wz_i0 (i3O (n := 4400) (i3A (i3A (show (3250 : Int32) = i3 3250 from rfl) (i3M (show (24 : Int32) = i3 24 from rfl) (zm_rd (Z := Z16) (ν := ν) (k := 2) (show ((0 : Nat) : Int) = 0 from rfl) (show ((0 : Nat) : Int) = 0 from rfl) (show ((3200 : Nat) : Int) = 3200 from rfl)))) (show (0 : Int32) = i3 0 from rfl)) (by omega) (by omega) (by omega)) ?_
            obtain ⟨Z21, hZ21⟩ := zx (zu Z16 2 0 0 (3250 + 24 * (Z16 2 0 0 3200)) a1)
            replace hP := zl_e hP hZ21
            have hZ21I := zM_u2 hZ16I hZ21 (lo := 0) (hi := 99) (zs_3250_0 (x := (Z16 2 0 0 3200)) (by omega) (by omega) (by omega)) (by omega) ⟨by decide, by decide⟩ (by simp only [zsp]; omega)
            have hZ21U : zU [] Z Z21 := zU_u hZ16U hZ21 (Or.inl rfl)
            have hZ21K : zC [1, 2] Z Z21 := zC_u hZ16K hZ21 (zcl_2w (by omega) rfl)
            intro μ9 e9
            replace e9 := e9.trans (zm_wI (Z := Z16) (ν := ν) hZ21 (show ((0 : Nat) : Int) = 0 from rfl) (show ((0 : Nat) : Int) = 0 from rfl) (i3I (y := (3250 + 24 * (Z16 2 0 0 3200))) (i3A (i3A (show (3250 : Int32) = i3 3250 from rfl) (i3M (show (24 : Int32) = i3 24 from rfl) (zm_rd (Z := Z16) (ν := ν) (k := 2) (show ((0 : Nat) : Int) = 0 from rfl) (show ((0 : Nat) : Int) = 0 from rfl) (show ((3200 : Nat) : Int) = 3200 from rfl)))) (show (0 : Int32) = i3 0 from rfl)) (by omega) (by omega) (by omega)) (rfl : i3 a1 = i3 a1))
            subst e9
            refine wz_i0 (i3O (n := 4400) (i3A (i3A (show (3250 : Int32) = i3 3250 from rfl) (i3M (show (24 : Int32) = i3 24 from rfl) (zm_rd (Z := Z16) (ν := ν) (k := 2) (show ((0 : Nat) : Int) = 0 from rfl) (show ((0 : Nat) : Int) = 0 from rfl) (show ((3200 : Nat) : Int) = 3200 from rfl)))) (show (1 : Int32) = i3 1 from rfl)) (by omega) (by omega) (by omega)) ?_
            obtain ⟨Z22, hZ22⟩ := zx (zu Z21 2 0 0 (3251 + 24 * (Z16 2 0 0 3200)) a2)
            replace hP := zl_e hP hZ22
            have hZ22I := zM_u2 hZ21I hZ22 (lo := 0) (hi := 40) (zs_3250_1 (x := (Z16 2 0 0 3200)) (by omega) (by omega) (by omega)) (by omega) ⟨by decide, by decide⟩ (by simp only [zsp]; omega)
            have hZ22U : zU [] Z Z22 := zU_u hZ21U hZ22 (Or.inl rfl)
            have hZ22K : zC [1, 2] Z Z22 := zC_u hZ21K hZ22 (zcl_2w (by omega) rfl)
            intro μ9 e9
            replace e9 := e9.trans (zm_wI (Z := Z21) (ν := ν) hZ22 (show ((0 : Nat) : Int) = 0 from rfl) (show ((0 : Nat) : Int) = 0 from rfl) (i3I (y := (3251 + 24 * (Z16 2 0 0 3200))) (i3A (i3A (show (3250 : Int32) = i3 3250 from rfl) (i3M (show (24 : Int32) = i3 24 from rfl) (zm_rd (Z := Z16) (ν := ν) (k := 2) (show ((0 : Nat) : Int) = 0 from rfl) (show ((0 : Nat) : Int) = 0 from rfl) (show ((3200 : Nat) : Int) = 3200 from rfl)))) (show (1 : Int32) = i3 1 from rfl)) (by omega) (by omega) (by omega)) (rfl : i3 a2 = i3 a2))
            subst e9
            refine wz_i0 (i3O (n := 4400) (i3A (i3A (show (3250 : Int32) = i3 3250 from rfl) (i3M (show (24 : Int32) = i3 24 from rfl) (zm_rd (Z := Z16) (ν := ν) (k := 2) (show ((0 : Nat) : Int) = 0 from rfl) (show ((0 : Nat) : Int) = 0 from rfl) (show ((3200 : Nat) : Int) = 3200 from rfl)))) (show (3 : Int32) = i3 3 from rfl)) (by omega) (by omega) (by omega)) ?_
            obtain ⟨Z23, hZ23⟩ := zx (zu Z22 2 0 0 (3253 + 24 * (Z16 2 0 0 3200)) (-1))
            replace hP := zl_e hP hZ23
            have hZ23I := zM_u2 hZ22I hZ23 (lo := -1) (hi := 671) (zs_3250_3 (x := (Z16 2 0 0 3200)) (by omega) (by omega) (by omega)) (by omega) ⟨by decide, by decide⟩ (by simp only [zsp]; omega)
            have hZ23U : zU [] Z Z23 := zU_u hZ22U hZ23 (Or.inl rfl)
            have hZ23K : zC [1, 2] Z Z23 := zC_u hZ22K hZ23 (zcl_2w (by omega) rfl)
            intro μ9 e9
            replace e9 := e9.trans (zm_wI (Z := Z22) (ν := ν) hZ23 (show ((0 : Nat) : Int) = 0 from rfl) (show ((0 : Nat) : Int) = 0 from rfl) (i3I (y := (3253 + 24 * (Z16 2 0 0 3200))) (i3A (i3A (show (3250 : Int32) = i3 3250 from rfl) (i3M (show (24 : Int32) = i3 24 from rfl) (zm_rd (Z := Z16) (ν := ν) (k := 2) (show ((0 : Nat) : Int) = 0 from rfl) (show ((0 : Nat) : Int) = 0 from rfl) (show ((3200 : Nat) : Int) = 3200 from rfl)))) (show (3 : Int32) = i3 3 from rfl)) (by omega) (by omega) (by omega)) (show (-1 : Int32) = i3 (-1) from rfl))
            subst e9
            refine wz_i0 (i3O (n := 4400) (i3A (i3A (show (3250 : Int32) = i3 3250 from rfl) (i3M (show (24 : Int32) = i3 24 from rfl) (zm_rd (Z := Z16) (ν := ν) (k := 2) (show ((0 : Nat) : Int) = 0 from rfl) (show ((0 : Nat) : Int) = 0 from rfl) (show ((3200 : Nat) : Int) = 3200 from rfl)))) (show (4 : Int32) = i3 4 from rfl)) (by omega) (by omega) (by omega)) ?_
            obtain ⟨Z24, hZ24⟩ := zx (zu Z23 2 0 0 (3254 + 24 * (Z16 2 0 0 3200)) (-1))
            replace hP := zl_e hP hZ24
            have hZ24I := zM_u2 hZ23I hZ24 (lo := -1) (hi := 671) (zs_3250_4 (x := (Z16 2 0 0 3200)) (by omega) (by omega) (by omega)) (by omega) ⟨by decide, by decide⟩ (by simp only [zsp]; omega)
            have hZ24U : zU [] Z Z24 := zU_u hZ23U hZ24 (Or.inl rfl)
            have hZ24K : zC [1, 2] Z Z24 := zC_u hZ23K hZ24 (zcl_2w (by omega) rfl)
            intro μ9 e9
            replace e9 := e9.trans (zm_wI (Z := Z23) (ν := ν) hZ24 (show ((0 : Nat) : Int) = 0 from rfl) (show ((0 : Nat) : Int) = 0 from rfl) (i3I (y := (3254 + 24 * (Z16 2 0 0 3200))) (i3A (i3A (show (3250 : Int32) = i3 3250 from rfl) (i3M (show (24 : Int32) = i3 24 from rfl) (zm_rd (Z := Z16) (ν := ν) (k := 2) (show ((0 : Nat) : Int) = 0 from rfl) (show ((0 : Nat) : Int) = 0 from rfl) (show ((3200 : Nat) : Int) = 3200 from rfl)))) (show (4 : Int32) = i3 4 from rfl)) (by omega) (by omega) (by omega)) (show (-1 : Int32) = i3 (-1) from rfl))
            subst e9
            have r25 := zM_k hZ24I 2 0 0 3200 (lo := 0) (hi := 4) (by decide) rfl
            have q26 := (zu_ne (k' := 2) (b' := 0) (i' := 0) (j' := 3200) hZ24 (fun q => absurd q.2.2.2 (by omega))).trans ((zu_ne (k' := 2) (b' := 0) (i' := 0) (j' := 3200) hZ23 (fun q => absurd q.2.2.2 (by omega))).trans ((zu_ne (k' := 2) (b' := 0) (i' := 0) (j' := 3200) hZ22 (fun q => absurd q.2.2.2 (by omega))).trans (zu_ne (k' := 2) (b' := 0) (i' := 0) (j' := 3200) hZ21 (fun q => absurd q.2.2.2 (by omega)))))
            obtain ⟨Z27, hZ27⟩ := zx (zu Z24 2 0 0 3200 ((Z24 2 0 0 3200) + 1))
            replace hP := zl_e hP hZ27
            have hZ27I := zM_u2 hZ24I hZ27 (lo := 0) (hi := 4) rfl (by omega) ⟨by decide, by decide⟩ (by simp only [zsp]; omega)
            have hZ27U : zU [] Z Z27 := zU_u hZ24U hZ27 (Or.inl rfl)
            have hZ27K : zC [1, 2] Z Z27 := zC_u hZ24K hZ27 (by decide)
            intro μ9 e9
            replace e9 := e9.trans (zm_wI (Z := Z24) (ν := ν) hZ27 (show ((0 : Nat) : Int) = 0 from rfl) (show ((0 : Nat) : Int) = 0 from rfl) (show ((3200 : Nat) : Int) = 3200 from rfl) (i3A (zm_rd (Z := Z24) (ν := ν) (k := 2) (show ((0 : Nat) : Int) = 0 from rfl) (show ((0 : Nat) : Int) = 0 from rfl) (show ((3200 : Nat) : Int) = 3200 from rfl)) (show (1 : Int32) = i3 1 from rfl)))
            subst e9
            exact zlY hP (zm_rd (Z := Z16) (ν := ν) (k := 2) (show ((0 : Nat) : Int) = 0 from rfl) (show ((0 : Nat) : Int) = 0 from rfl) (show ((3200 : Nat) : Int) = 3200 from rfl)) (.inl rfl) ⟨hZ27I, hZ27K, hZ27U⟩
/- yX12_way -/
def zy_543 (Z : qz_Z) (dm : qz_Z → Int → Int → Int → Int → Int → Int → Int → qz_Z) (a1 : Int) (a2 : Int) (a3 : Int) : qz_Z × Int := (if a1 < 0 then (zlet (zu Z 1 0 0 2 1) (fun Z5 => (Z5, 0))) else (if 5 < a1 then (zlet (zu Z 1 0 0 2 1) (fun Z7 => (Z7, 0))) else (if a2 < 0 then (zlet (zu Z 1 0 0 2 1) (fun Z9 => (Z9, 0))) else (if 5 < a2 then (zlet (zu Z 1 0 0 2 1) (fun Z11 => (Z11, 0))) else (zlet (zu Z 1 0 0 2 0) (fun Z12 => (if a1 = a2 then (zlet (zu Z12 1 0 0 2 2) (fun Z14 => (Z14, 0))) else (if a3 < 1 then (zlet (zu Z12 1 0 0 2 2) (fun Z16 => (Z16, 0))) else (if 12 < a3 then (zlet (zu Z12 1 0 0 2 2) (fun Z18 => (Z18, 0))) else (zlet (zu Z12 1 0 0 2 0) (fun Z19 => (zlet (dm Z19 18 a1 a2 a3 0 0 0) (fun Z26 => (zlet (zu Z26 2 0 0 (3210 + 6 * a1 + a2) a3) (fun Z27 => (zlet (zu Z27 2 0 0 (3210 + 6 * a2 + a1) a3) (fun Z28 => (Z28, (Z26 2 0 0 (3210 + 6 * a1 + a2))))))))))))))))))))
theorem sy_543 {s : zSM} {Z : qz_Z} {ν : qz_N} (hZ : zM s Z) (gq : Z 1 0 0 35 = 0) (hM : s.2 + 0 ≤ 1000000000) {a1 : Int} (ga1 : -2147483648 ≤ a1 ∧ a1 ≤ 2147483647) {a2 : Int} (ga2 : -2147483648 ≤ a2 ∧ a2 ≤ 2147483647) {a3 : Int} (ga3 : -2147483648 ≤ a3 ∧ a3 ≤ 2147483647) {dk : qz_Z → qz_Z} {dm : qz_Z → Int → Int → Int → Int → Int → Int → Int → qz_Z} {ν1 : qz_N} (hdm : zDm s ν ν1 Z dk dm) : ∃ (Z1 : qz_Z) (ν2 : qz_N) (v : Int), (Z1, v) = zy_543 Z dm a1 a2 a3 ∧ (ν2 = ν ∨ ν2 = ν1) ∧ qf_543 [.inr (.inr (some (1, 0, 0))), .inl (i3 a1), .inl (i3 a2), .inl (i3 a3)] (zm Z ν) = some (zm Z1 ν2, .inl (some (.inl (i3 v)))) ∧ (fun Z1 => zM s Z1 ∧ zC [1, 2, 101, 102, 200] Z Z1 ∧ zU [] Z Z1) Z1 := by
  obtain ⟨P, hP⟩ := zx (zy_543 Z dm a1 a2 a3)
  refine zc_Y (Q := fun Z1 => zM s Z1 ∧ zC [1, 2, 101, 102, 200] Z Z1 ∧ zU [] Z Z1) hP (fw_543 (i3 a1) (i3 a2) (i3 a3) _ _ ?_)
  replace hP : zE P (zy_543 Z dm a1 a2 a3) := hP
  unfold zy_543 at hP
  have r1 := zM_k hZ 1 0 0 35 (lo := 0) (hi := 1) (by decide) rfl
  have r2 := zM_k hZ 1 0 0 34 (lo := 0) (hi := 8) (by decide) rfl
  have r3 := zM_f hZ 1 0 0 37
  refine wz_br (i3L (rfl : i3 a1 = i3 a1) (show (0 : Int32) = i3 0 from rfl) (by omega) (by omega) (by omega) (by omega)) (fun h4 => ?_) (fun h4 => ?_)
  · replace hP := zE_p hP h4
    obtain ⟨Z5, hZ5⟩ := zx (zu Z 1 0 0 2 1)
    replace hP := zl_e hP hZ5
    have hZ5I := zM_u hZ hZ5 (lo := -2147483648) (hi := 2147483647) (by decide) rfl (by omega) ⟨by decide, by decide⟩ (Or.inr (by decide)) rfl
    have hZ5U : zU [] Z Z5 := zU_u zU_r hZ5 (Or.inl rfl)
    have hZ5K : zC [1, 2, 101, 102, 200] Z Z5 := zC_u zC_r hZ5 (by decide)
    intro μ9 e9
    replace e9 := e9.trans (zm_wI (Z := Z) (ν := ν) hZ5 (show ((0 : Nat) : Int) = 0 from rfl) (show ((0 : Nat) : Int) = 0 from rfl) (show ((2 : Nat) : Int) = 2 from rfl) (show (1 : Int32) = i3 1 from rfl))
    subst e9
    exact zlY hP (show (0 : Int32) = i3 0 from rfl) (.inl rfl) ⟨hZ5I, hZ5K, hZ5U⟩
  · replace hP := zE_n hP h4
    refine wz_br (i3L (show (5 : Int32) = i3 5 from rfl) (rfl : i3 a1 = i3 a1) (by omega) (by omega) (by omega) (by omega)) (fun h6 => ?_) (fun h6 => ?_)
    · replace hP := zE_p hP h6
      obtain ⟨Z7, hZ7⟩ := zx (zu Z 1 0 0 2 1)
      replace hP := zl_e hP hZ7
      have hZ7I := zM_u hZ hZ7 (lo := -2147483648) (hi := 2147483647) (by decide) rfl (by omega) ⟨by decide, by decide⟩ (Or.inr (by decide)) rfl
      have hZ7U : zU [] Z Z7 := zU_u zU_r hZ7 (Or.inl rfl)
      have hZ7K : zC [1, 2, 101, 102, 200] Z Z7 := zC_u zC_r hZ7 (by decide)
      intro μ9 e9
      replace e9 := e9.trans (zm_wI (Z := Z) (ν := ν) hZ7 (show ((0 : Nat) : Int) = 0 from rfl) (show ((0 : Nat) : Int) = 0 from rfl) (show ((2 : Nat) : Int) = 2 from rfl) (show (1 : Int32) = i3 1 from rfl))
      subst e9
      exact zlY hP (show (0 : Int32) = i3 0 from rfl) (.inl rfl) ⟨hZ7I, hZ7K, hZ7U⟩
    · replace hP := zE_n hP h6
      refine wz_br (i3L (rfl : i3 a2 = i3 a2) (show (0 : Int32) = i3 0 from rfl) (by omega) (by omega) (by omega) (by omega)) (fun h8 => ?_) (fun h8 => ?_)
      · replace hP := zE_p hP h8
        obtain ⟨Z9, hZ9⟩ := zx (zu Z 1 0 0 2 1)
        replace hP := zl_e hP hZ9
        have hZ9I := zM_u hZ hZ9 (lo := -2147483648) (hi := 2147483647) (by decide) rfl (by omega) ⟨by decide, by decide⟩ (Or.inr (by decide)) rfl
        have hZ9U : zU [] Z Z9 := zU_u zU_r hZ9 (Or.inl rfl)
        have hZ9K : zC [1, 2, 101, 102, 200] Z Z9 := zC_u zC_r hZ9 (by decide)
        intro μ9 e9
        replace e9 := e9.trans (zm_wI (Z := Z) (ν := ν) hZ9 (show ((0 : Nat) : Int) = 0 from rfl) (show ((0 : Nat) : Int) = 0 from rfl) (show ((2 : Nat) : Int) = 2 from rfl) (show (1 : Int32) = i3 1 from rfl))
        subst e9
        exact zlY hP (show (0 : Int32) = i3 0 from rfl) (.inl rfl) ⟨hZ9I, hZ9K, hZ9U⟩
      · replace hP := zE_n hP h8
        refine wz_br (i3L (show (5 : Int32) = i3 5 from rfl) (rfl : i3 a2 = i3 a2) (by omega) (by omega) (by omega) (by omega)) (fun h10 => ?_) (fun h10 => ?_)
        · replace hP := zE_p hP h10
          obtain ⟨Z11, hZ11⟩ := zx (zu Z 1 0 0 2 1)
          replace hP := zl_e hP hZ11
          have hZ11I := zM_u hZ hZ11 (lo := -2147483648) (hi := 2147483647) (by decide) rfl (by omega) ⟨by decide, by decide⟩ (Or.inr (by decide)) rfl
          have hZ11U : zU [] Z Z11 := zU_u zU_r hZ11 (Or.inl rfl)
          have hZ11K : zC [1, 2, 101, 102, 200] Z Z11 := zC_u zC_r hZ11 (by decide)
          intro μ9 e9
          replace e9 := e9.trans (zm_wI (Z := Z) (ν := ν) hZ11 (show ((0 : Nat) : Int) = 0 from rfl) (show ((0 : Nat) : Int) = 0 from rfl) (show ((2 : Nat) : Int) = 2 from rfl) (show (1 : Int32) = i3 1 from rfl))
          subst e9
          exact zlY hP (show (0 : Int32) = i3 0 from rfl) (.inl rfl) ⟨hZ11I, hZ11K, hZ11U⟩
        · replace hP := zE_n hP h10
          obtain ⟨Z12, hZ12⟩ := zx (zu Z 1 0 0 2 0)
          replace hP := zl_e hP hZ12
          have hZ12I := zM_0 hZ hZ12 (by decide) (Or.inr (by decide))
          have hZ12U : zU [] Z Z12 := zU_u zU_r hZ12 (Or.inl rfl)
          have hZ12K : zC [1, 2, 101, 102, 200] Z Z12 := zC_u zC_r hZ12 (by decide)
          intro μ9 e9
          replace e9 := e9.trans (zm_wI (Z := Z) (ν := ν) hZ12 (show ((0 : Nat) : Int) = 0 from rfl) (show ((0 : Nat) : Int) = 0 from rfl) (show ((2 : Nat) : Int) = 2 from rfl) (show (0 : Int32) = i3 0 from rfl))
          subst e9
          refine wz_br (i3E (rfl : i3 a1 = i3 a1) (rfl : i3 a2 = i3 a2) (by omega) (by omega) (by omega) (by omega)) (fun h13 => ?_) (fun h13 => ?_)
          · replace hP := zE_p hP h13
            obtain ⟨Z14, hZ14⟩ := zx (zu Z12 1 0 0 2 2)
            replace hP := zl_e hP hZ14
            have hZ14I := zM_u hZ12I hZ14 (lo := -2147483648) (hi := 2147483647) (by decide) rfl (by omega) ⟨by decide, by decide⟩ (Or.inr (by decide)) rfl
            have hZ14U : zU [] Z Z14 := zU_u hZ12U hZ14 (Or.inl rfl)
            have hZ14K : zC [1, 2, 101, 102, 200] Z Z14 := zC_u hZ12K hZ14 (by decide)
            intro μ9 e9
            replace e9 := e9.trans (zm_wI (Z := Z12) (ν := ν) hZ14 (show ((0 : Nat) : Int) = 0 from rfl) (show ((0 : Nat) : Int) = 0 from rfl) (show ((2 : Nat) : Int) = 2 from rfl) (show (2 : Int32) = i3 2 from rfl))
            subst e9
            exact zlY hP (show (0 : Int32) = i3 0 from rfl) (.inl rfl) ⟨hZ14I, hZ14K, hZ14U⟩
          · replace hP := zE_n hP h13
            refine wz_br (i3L (rfl : i3 a3 = i3 a3) (show (1 : Int32) = i3 1 from rfl) (by omega) (by omega) (by omega) (by omega)) (fun h15 => ?_) (fun h15 => ?_)
            · replace hP := zE_p hP h15
              obtain ⟨Z16, hZ16⟩ := zx (zu Z12 1 0 0 2 2)
              replace hP := zl_e hP hZ16
              have hZ16I := zM_u hZ12I hZ16 (lo := -2147483648) (hi := 2147483647) (by decide) rfl (by omega) ⟨by decide, by decide⟩ (Or.inr (by decide)) rfl
              have hZ16U : zU [] Z Z16 := zU_u hZ12U hZ16 (Or.inl rfl)
              have hZ16K : zC [1, 2, 101, 102, 200] Z Z16 := zC_u hZ12K hZ16 (by decide)
              intro μ9 e9
              replace e9 := e9.trans (zm_wI (Z := Z12) (ν := ν) hZ16 (show ((0 : Nat) : Int) = 0 from rfl) (show ((0 : Nat) : Int) = 0 from rfl) (show ((2 : Nat) : Int) = 2 from rfl) (show (2 : Int32) = i3 2 from rfl))
              subst e9
              exact zlY hP (show (0 : Int32) = i3 0 from rfl) (.inl rfl) ⟨hZ16I, hZ16K, hZ16U⟩
            · replace hP := zE_n hP h15
              refine wz_br (i3L (show (12 : Int32) = i3 12 from rfl) (rfl : i3 a3 = i3 a3) (by omega) (by omega) (by omega) (by omega)) (fun h17 => ?_) (fun h17 => ?_)
              · replace hP := zE_p hP h17
                obtain ⟨Z18, hZ18⟩ := zx (zu Z12 1 0 0 2 2)
                replace hP := zl_e hP hZ18
                have hZ18I := zM_u hZ12I hZ18 (lo := -2147483648) (hi := 2147483647) (by decide) rfl (by omega) ⟨by decide, by decide⟩ (Or.inr (by decide)) rfl
                have hZ18U : zU [] Z Z18 := zU_u hZ12U hZ18 (Or.inl rfl)
                have hZ18K : zC [1, 2, 101, 102, 200] Z Z18 := zC_u hZ12K hZ18 (by decide)
                intro μ9 e9
                replace e9 := e9.trans (zm_wI (Z := Z12) (ν := ν) hZ18 (show ((0 : Nat) : Int) = 0 from rfl) (show ((0 : Nat) : Int) = 0 from rfl) (show ((2 : Nat) : Int) = 2 from rfl) (show (2 : Int32) = i3 2 from rfl))
                subst e9
                exact zlY hP (show (0 : Int32) = i3 0 from rfl) (.inl rfl) ⟨hZ18I, hZ18K, hZ18U⟩
              · replace hP := zE_n hP h17
                obtain ⟨Z19, hZ19⟩ := zx (zu Z12 1 0 0 2 0)
                replace hP := zl_e hP hZ19
                have hZ19I := zM_0 hZ12I hZ19 (by decide) (Or.inr (by decide))
                have hZ19U : zU [] Z Z19 := zU_u hZ12U hZ19 (Or.inl rfl)
                have hZ19K : zC [1, 2, 101, 102, 200] Z Z19 := zC_u hZ12K hZ19 (by decide)
                intro μ9 e9
                replace e9 := e9.trans (zm_wI (Z := Z12) (ν := ν) hZ19 (show ((0 : Nat) : Int) = 0 from rfl) (show ((0 : Nat) : Int) = 0 from rfl) (show ((2 : Nat) : Int) = 2 from rfl) (show (0 : Int32) = i3 0 from rfl))
                subst e9
                have r20 := zM_k hZ19I 1 0 0 35 (lo := 0) (hi := 1) (by decide) rfl
                have q21 := (zu_ne (k' := 1) (b' := 0) (i' := 0) (j' := 35) hZ19 (fun q => absurd q.2.2.2 (by decide))).trans (zu_ne (k' := 1) (b' := 0) (i' := 0) (j' := 35) hZ12 (fun q => absurd q.2.2.2 (by decide)))
                refine wz_i0 (Eq.trans (i3NE (zm_rd (Z := Z19) (ν := ν) (k := 1) (show ((0 : Nat) : Int) = 0 from rfl) (show ((0 : Nat) : Int) = 0 from rfl) (show ((35 : Nat) : Int) = 35 from rfl)) (show (0 : Int32) = i3 0 from rfl) (by omega) (by omega) (by omega) (by omega)) (decide_eq_false (by omega))) ?_
                have r22 := zM_k hZ19I 1 0 0 34 (lo := 0) (hi := 8) (by decide) rfl
                have q23 := (zu_ne (k' := 1) (b' := 0) (i' := 0) (j' := 34) hZ19 (fun q => absurd q.2.2.2 (by decide))).trans (zu_ne (k' := 1) (b' := 0) (i' := 0) (j' := 34) hZ12 (fun q => absurd q.2.2.2 (by decide)))
                have r24 := zM_f hZ19I 1 0 0 37
                have q25 := (zu_ne (k' := 1) (b' := 0) (i' := 0) (j' := 37) hZ19 (fun q => absurd q.2.2.2 (by decide))).trans (zu_ne (k' := 1) (b' := 0) (i' := 0) (j' := 37) hZ12 (fun q => absurd q.2.2.2 (by decide)))
                obtain ⟨c8, c9, hZ26I, dZ26⟩ := hdm Z19 18 a1 a2 a3 0 0 0 hZ19I (by omega) (by omega) (by omega) (by omega) (by omega) (by omega) (by omega) (by omega) (by omega) (by omega)
                obtain ⟨Z26, hZ26⟩ := zx (dm Z19 18 a1 a2 a3 0 0 0)
                rw [← hZ26] at c9 hZ26I dZ26
                replace hP := zl_e hP hZ26
                refine wz_cV_of (zas (zcons rfl (zcons (zvi (show (-1 : Int32) = i3 (-1) from rfl)) rfl)) c8) ?_
                refine wz_cV_of (zas (zcons rfl (zcons (zvi (show (18 : Int32) = i3 18 from rfl)) (zcons (zvi (rfl : i3 a1 = i3 a1)) (zcons (zvi (rfl : i3 a2 = i3 a2)) (zcons (zvi (rfl : i3 a3 = i3 a3)) (zcons (zvi (show (0 : Int32) = i3 0 from rfl)) (zcons (zvi (show (0 : Int32) = i3 0 from rfl)) (zcons (zvi (show (0 : Int32) = i3 0 from rfl)) rfl)))))))) c9) ?_
                clear c8 c9
                have hZ26K : zC [1, 2, 101, 102, 200] Z Z26 := zC_t hZ19K (zMd_C dZ26) (by decide)
                have hZ26U : zU [] Z Z26 := zU_t hZ19U (zMd_U dZ26) zU_b0
                refine wz_i0 (i3O (n := 4400) (i3A (i3A (show (3210 : Int32) = i3 3210 from rfl) (i3M (show (6 : Int32) = i3 6 from rfl) (rfl : i3 a1 = i3 a1))) (rfl : i3 a2 = i3 a2)) (by omega) (by omega) (by omega)) ?_
                refine wz_i0 (i3O (n := 4400) (i3A (i3A (show (3210 : Int32) = i3 3210 from rfl) (i3M (show (6 : Int32) = i3 6 from rfl) (rfl : i3 a1 = i3 a1))) (rfl : i3 a2 = i3 a2)) (by omega) (by omega) (by omega)) ?_
                obtain ⟨Z27, hZ27⟩ := zx (zu Z26 2 0 0 (3210 + 6 * a1 + a2) a3)
                replace hP := zl_e hP hZ27
                have hZ27I := zM_u2 hZ26I hZ27 (lo := 0) (hi := 12) (zs_3210 (by omega) (by omega)) (by omega) ⟨by decide, by decide⟩ (by simp only [zsp]; omega)
                have hZ27U : zU [] Z Z27 := zU_u hZ26U hZ27 (Or.inl rfl)
                have hZ27K : zC [1, 2, 101, 102, 200] Z Z27 := zC_u hZ26K hZ27 (zcl_2w (by omega) rfl)
                intro μ9 e9
                replace e9 := e9.trans (zm_wI (Z := Z26) (ν := ν1) hZ27 (show ((0 : Nat) : Int) = 0 from rfl) (show ((0 : Nat) : Int) = 0 from rfl) (i3I (y := (3210 + 6 * a1 + a2)) (i3A (i3A (show (3210 : Int32) = i3 3210 from rfl) (i3M (show (6 : Int32) = i3 6 from rfl) (rfl : i3 a1 = i3 a1))) (rfl : i3 a2 = i3 a2)) (by omega) (by omega) (by omega)) (rfl : i3 a3 = i3 a3))
                subst e9
                refine wz_i0 (i3O (n := 4400) (i3A (i3A (show (3210 : Int32) = i3 3210 from rfl) (i3M (show (6 : Int32) = i3 6 from rfl) (rfl : i3 a2 = i3 a2))) (rfl : i3 a1 = i3 a1)) (by omega) (by omega) (by omega)) ?_
                obtain ⟨Z28, hZ28⟩ := zx (zu Z27 2 0 0 (3210 + 6 * a2 + a1) a3)
                replace hP := zl_e hP hZ28
                have hZ28I := zM_u2 hZ27I hZ28 (lo := 0) (hi := 12) (zs_3210 (by omega) (by omega)) (by omega) ⟨by decide, by decide⟩ (by simp only [zsp]; omega)
                have hZ28U : zU [] Z Z28 := zU_u hZ27U hZ28 (Or.inl rfl)
                have hZ28K : zC [1, 2, 101, 102, 200] Z Z28 := zC_u hZ27K hZ28 (zcl_2w (by omega) rfl)
                intro μ9 e9
                replace e9 := e9.trans (zm_wI (Z := Z27) (ν := ν1) hZ28 (show ((0 : Nat) : Int) = 0 from rfl) (show ((0 : Nat) : Int) = 0 from rfl) (i3I (y := (3210 + 6 * a2 + a1)) (i3A (i3A (show (3210 : Int32) = i3 3210 from rfl) (i3M (show (6 : Int32) = i3 6 from rfl) (rfl : i3 a2 = i3 a2))) (rfl : i3 a1 = i3 a1)) (by omega) (by omega) (by omega)) (rfl : i3 a3 = i3 a3))
                subst e9
                have r29 := zM_k hZ26I 2 0 0 (3210 + 6 * a1 + a2) (lo := 0) (hi := 12) (by decide) (zs_3210 (by omega) (by omega))
                exact zlY hP (zm_rd (Z := Z26) (ν := ν1) (k := 2) (show ((0 : Nat) : Int) = 0 from rfl) (show ((0 : Nat) : Int) = 0 from rfl) (i3I (y := (3210 + 6 * a1 + a2)) (i3A (i3A (show (3210 : Int32) = i3 3210 from rfl) (i3M (show (6 : Int32) = i3 6 from rfl) (rfl : i3 a1 = i3 a1))) (rfl : i3 a2 = i3 a2)) (by omega) (by omega) (by omega))) (.inr rfl) ⟨hZ28I, hZ28K, hZ28U⟩

theorem sq_543 {s : zSM} {Z : qz_Z} {ν : qz_N} (hZ : zM s Z) (gq : Z 1 0 0 35 = 1) (hM : s.2 + 0 ≤ 1000000000) {a1 : Int} (ga1 : -2147483648 ≤ a1 ∧ a1 ≤ 2147483647) {a2 : Int} (ga2 : -2147483648 ≤ a2 ∧ a2 ≤ 2147483647) {a3 : Int} (ga3 : -2147483648 ≤ a3 ∧ a3 ≤ 2147483647) {ν1 : qz_N} : ∃ (Z1 : qz_Z) (ν2 : qz_N) (v : Int), (Z1, v) = zy_543 Z zq0 a1 a2 a3 ∧ (ν2 = ν ∨ ν2 = ν1) ∧ qf_543 [.inr (.inr (some (1, 0, 0))), .inl (i3 a1), .inl (i3 a2), .inl (i3 a3)] (zm Z ν) = some (zm Z1 ν2, .inl (some (.inl (i3 v)))) ∧ (fun Z1 => zM s Z1 ∧ zC [1, 2] Z Z1 ∧ zU [] Z Z1) Z1 := by
  obtain ⟨P, hP⟩ := zx (zy_543 Z zq0 a1 a2 a3)
  refine zc_Y (Q := fun Z1 => zM s Z1 ∧ zC [1, 2] Z Z1 ∧ zU [] Z Z1) hP (fw_543 (i3 a1) (i3 a2) (i3 a3) _ _ ?_)
  replace hP : zE P (zy_543 Z zq0 a1 a2 a3) := hP
  unfold zy_543 at hP
  have r1 := zM_k hZ 1 0 0 35 (lo := 0) (hi := 1) (by decide) rfl
  have r2 := zM_k hZ 1 0 0 34 (lo := 0) (hi := 8) (by decide) rfl
  have r3 := zM_f hZ 1 0 0 37
  refine wz_br (i3L (rfl : i3 a1 = i3 a1) (show (0 : Int32) = i3 0 from rfl) (by omega) (by omega) (by omega) (by omega)) (fun h4 => ?_) (fun h4 => ?_)
  · replace hP := zE_p hP h4
    obtain ⟨Z5, hZ5⟩ := zx (zu Z 1 0 0 2 1)
    replace hP := zl_e hP hZ5
    have hZ5I := zM_u hZ hZ5 (lo := -2147483648) (hi := 2147483647) (by decide) rfl (by omega) ⟨by decide, by decide⟩ (Or.inr (by decide)) rfl
    have hZ5U : zU [] Z Z5 := zU_u zU_r hZ5 (Or.inl rfl)
    have hZ5K : zC [1, 2] Z Z5 := zC_u zC_r hZ5 (by decide)
    intro μ9 e9
    replace e9 := e9.trans (zm_wI (Z := Z) (ν := ν) hZ5 (show ((0 : Nat) : Int) = 0 from rfl) (show ((0 : Nat) : Int) = 0 from rfl) (show ((2 : Nat) : Int) = 2 from rfl) (show (1 : Int32) = i3 1 from rfl))
    subst e9
    exact zlY hP (show (0 : Int32) = i3 0 from rfl) (.inl rfl) ⟨hZ5I, hZ5K, hZ5U⟩
  · replace hP := zE_n hP h4
    refine wz_br (i3L (show (5 : Int32) = i3 5 from rfl) (rfl : i3 a1 = i3 a1) (by omega) (by omega) (by omega) (by omega)) (fun h6 => ?_) (fun h6 => ?_)
    · replace hP := zE_p hP h6
      obtain ⟨Z7, hZ7⟩ := zx (zu Z 1 0 0 2 1)
      replace hP := zl_e hP hZ7
      have hZ7I := zM_u hZ hZ7 (lo := -2147483648) (hi := 2147483647) (by decide) rfl (by omega) ⟨by decide, by decide⟩ (Or.inr (by decide)) rfl
      have hZ7U : zU [] Z Z7 := zU_u zU_r hZ7 (Or.inl rfl)
      have hZ7K : zC [1, 2] Z Z7 := zC_u zC_r hZ7 (by decide)
      intro μ9 e9
      replace e9 := e9.trans (zm_wI (Z := Z) (ν := ν) hZ7 (show ((0 : Nat) : Int) = 0 from rfl) (show ((0 : Nat) : Int) = 0 from rfl) (show ((2 : Nat) : Int) = 2 from rfl) (show (1 : Int32) = i3 1 from rfl))
      subst e9
      exact zlY hP (show (0 : Int32) = i3 0 from rfl) (.inl rfl) ⟨hZ7I, hZ7K, hZ7U⟩
    · replace hP := zE_n hP h6
      refine wz_br (i3L (rfl : i3 a2 = i3 a2) (show (0 : Int32) = i3 0 from rfl) (by omega) (by omega) (by omega) (by omega)) (fun h8 => ?_) (fun h8 => ?_)
      · replace hP := zE_p hP h8
        obtain ⟨Z9, hZ9⟩ := zx (zu Z 1 0 0 2 1)
        replace hP := zl_e hP hZ9
        have hZ9I := zM_u hZ hZ9 (lo := -2147483648) (hi := 2147483647) (by decide) rfl (by omega) ⟨by decide, by decide⟩ (Or.inr (by decide)) rfl
        have hZ9U : zU [] Z Z9 := zU_u zU_r hZ9 (Or.inl rfl)
        have hZ9K : zC [1, 2] Z Z9 := zC_u zC_r hZ9 (by decide)
        intro μ9 e9
        replace e9 := e9.trans (zm_wI (Z := Z) (ν := ν) hZ9 (show ((0 : Nat) : Int) = 0 from rfl) (show ((0 : Nat) : Int) = 0 from rfl) (show ((2 : Nat) : Int) = 2 from rfl) (show (1 : Int32) = i3 1 from rfl))
        subst e9
        exact zlY hP (show (0 : Int32) = i3 0 from rfl) (.inl rfl) ⟨hZ9I, hZ9K, hZ9U⟩
      · replace hP := zE_n hP h8
        refine wz_br (i3L (show (5 : Int32) = i3 5 from rfl) (rfl : i3 a2 = i3 a2) (by omega) (by omega) (by omega) (by omega)) (fun h10 => ?_) (fun h10 => ?_)
        · replace hP := zE_p hP h10
          obtain ⟨Z11, hZ11⟩ := zx (zu Z 1 0 0 2 1)
          replace hP := zl_e hP hZ11
          have hZ11I := zM_u hZ hZ11 (lo := -2147483648) (hi := 2147483647) (by decide) rfl (by omega) ⟨by decide, by decide⟩ (Or.inr (by decide)) rfl
          have hZ11U : zU [] Z Z11 := zU_u zU_r hZ11 (Or.inl rfl)
          have hZ11K : zC [1, 2] Z Z11 := zC_u zC_r hZ11 (by decide)
          intro μ9 e9
          replace e9 := e9.trans (zm_wI (Z := Z) (ν := ν) hZ11 (show ((0 : Nat) : Int) = 0 from rfl) (show ((0 : Nat) : Int) = 0 from rfl) (show ((2 : Nat) : Int) = 2 from rfl) (show (1 : Int32) = i3 1 from rfl))
          subst e9
          exact zlY hP (show (0 : Int32) = i3 0 from rfl) (.inl rfl) ⟨hZ11I, hZ11K, hZ11U⟩
        · replace hP := zE_n hP h10
          obtain ⟨Z12, hZ12⟩ := zx (zu Z 1 0 0 2 0)
          replace hP := zl_e hP hZ12
          have hZ12I := zM_0 hZ hZ12 (by decide) (Or.inr (by decide))
          have hZ12U : zU [] Z Z12 := zU_u zU_r hZ12 (Or.inl rfl)
          have hZ12K : zC [1, 2] Z Z12 := zC_u zC_r hZ12 (by decide)
          intro μ9 e9
          replace e9 := e9.trans (zm_wI (Z := Z) (ν := ν) hZ12 (show ((0 : Nat) : Int) = 0 from rfl) (show ((0 : Nat) : Int) = 0 from rfl) (show ((2 : Nat) : Int) = 2 from rfl) (show (0 : Int32) = i3 0 from rfl))
          subst e9
          refine wz_br (i3E (rfl : i3 a1 = i3 a1) (rfl : i3 a2 = i3 a2) (by omega) (by omega) (by omega) (by omega)) (fun h13 => ?_) (fun h13 => ?_)
          · replace hP := zE_p hP h13
            obtain ⟨Z14, hZ14⟩ := zx (zu Z12 1 0 0 2 2)
            replace hP := zl_e hP hZ14
            have hZ14I := zM_u hZ12I hZ14 (lo := -2147483648) (hi := 2147483647) (by decide) rfl (by omega) ⟨by decide, by decide⟩ (Or.inr (by decide)) rfl
            have hZ14U : zU [] Z Z14 := zU_u hZ12U hZ14 (Or.inl rfl)
            have hZ14K : zC [1, 2] Z Z14 := zC_u hZ12K hZ14 (by decide)
            intro μ9 e9
            replace e9 := e9.trans (zm_wI (Z := Z12) (ν := ν) hZ14 (show ((0 : Nat) : Int) = 0 from rfl) (show ((0 : Nat) : Int) = 0 from rfl) (show ((2 : Nat) : Int) = 2 from rfl) (show (2 : Int32) = i3 2 from rfl))
            subst e9
            exact zlY hP (show (0 : Int32) = i3 0 from rfl) (.inl rfl) ⟨hZ14I, hZ14K, hZ14U⟩
          · replace hP := zE_n hP h13
            refine wz_br (i3L (rfl : i3 a3 = i3 a3) (show (1 : Int32) = i3 1 from rfl) (by omega) (by omega) (by omega) (by omega)) (fun h15 => ?_) (fun h15 => ?_)
            · replace hP := zE_p hP h15
              obtain ⟨Z16, hZ16⟩ := zx (zu Z12 1 0 0 2 2)
              replace hP := zl_e hP hZ16
              have hZ16I := zM_u hZ12I hZ16 (lo := -2147483648) (hi := 2147483647) (by decide) rfl (by omega) ⟨by decide, by decide⟩ (Or.inr (by decide)) rfl
              have hZ16U : zU [] Z Z16 := zU_u hZ12U hZ16 (Or.inl rfl)
              have hZ16K : zC [1, 2] Z Z16 := zC_u hZ12K hZ16 (by decide)
              intro μ9 e9
              replace e9 := e9.trans (zm_wI (Z := Z12) (ν := ν) hZ16 (show ((0 : Nat) : Int) = 0 from rfl) (show ((0 : Nat) : Int) = 0 from rfl) (show ((2 : Nat) : Int) = 2 from rfl) (show (2 : Int32) = i3 2 from rfl))
              subst e9
              exact zlY hP (show (0 : Int32) = i3 0 from rfl) (.inl rfl) ⟨hZ16I, hZ16K, hZ16U⟩
            · replace hP := zE_n hP h15
              refine wz_br (i3L (show (12 : Int32) = i3 12 from rfl) (rfl : i3 a3 = i3 a3) (by omega) (by omega) (by omega) (by omega)) (fun h17 => ?_) (fun h17 => ?_)
              · replace hP := zE_p hP h17
                obtain ⟨Z18, hZ18⟩ := zx (zu Z12 1 0 0 2 2)
                replace hP := zl_e hP hZ18
                have hZ18I := zM_u hZ12I hZ18 (lo := -2147483648) (hi := 2147483647) (by decide) rfl (by omega) ⟨by decide, by decide⟩ (Or.inr (by decide)) rfl
                have hZ18U : zU [] Z Z18 := zU_u hZ12U hZ18 (Or.inl rfl)
                have hZ18K : zC [1, 2] Z Z18 := zC_u hZ12K hZ18 (by decide)
                intro μ9 e9
                replace e9 := e9.trans (zm_wI (Z := Z12) (ν := ν) hZ18 (show ((0 : Nat) : Int) = 0 from rfl) (show ((0 : Nat) : Int) = 0 from rfl) (show ((2 : Nat) : Int) = 2 from rfl) (show (2 : Int32) = i3 2 from rfl))
                subst e9
                exact zlY hP (show (0 : Int32) = i3 0 from rfl) (.inl rfl) ⟨hZ18I, hZ18K, hZ18U⟩
              · replace hP := zE_n hP h17
                obtain ⟨Z19, hZ19⟩ := zx (zu Z12 1 0 0 2 0)
                replace hP := zl_e hP hZ19
                have hZ19I := zM_0 hZ12I hZ19 (by decide) (Or.inr (by decide))
                have hZ19U : zU [] Z Z19 := zU_u hZ12U hZ19 (Or.inl rfl)
                have hZ19K : zC [1, 2] Z Z19 := zC_u hZ12K hZ19 (by decide)
                intro μ9 e9
                replace e9 := e9.trans (zm_wI (Z := Z12) (ν := ν) hZ19 (show ((0 : Nat) : Int) = 0 from rfl) (show ((0 : Nat) : Int) = 0 from rfl) (show ((2 : Nat) : Int) = 2 from rfl) (show (0 : Int32) = i3 0 from rfl))
                subst e9
                have r20 := zM_k hZ19I 1 0 0 35 (lo := 0) (hi := 1) (by decide) rfl
                have q21 := (zu_ne (k' := 1) (b' := 0) (i' := 0) (j' := 35) hZ19 (fun q => absurd q.2.2.2 (by decide))).trans (zu_ne (k' := 1) (b' := 0) (i' := 0) (j' := 35) hZ12 (fun q => absurd q.2.2.2 (by decide)))
                refine wz_i1 (Eq.trans (i3NE (zm_rd (Z := Z19) (ν := ν) (k := 1) (show ((0 : Nat) : Int) = 0 from rfl) (show ((0 : Nat) : Int) = 0 from rfl) (show ((35 : Nat) : Int) = 35 from rfl)) (show (0 : Int32) = i3 0 from rfl) (by omega) (by omega) (by omega) (by omega)) (decide_eq_true (by omega))) ?_
                replace hP := zl_q hP (rfl : _ = Z19)
                refine wz_i0 (i3O (n := 4400) (i3A (i3A (show (3210 : Int32) = i3 3210 from rfl) (i3M (show (6 : Int32) = i3 6 from rfl) (rfl : i3 a1 = i3 a1))) (rfl : i3 a2 = i3 a2)) (by omega) (by omega) (by omega)) ?_
                refine wz_i0 (i3O (n := 4400) (i3A (i3A (show (3210 : Int32) = i3 3210 from rfl) (i3M (show (6 : Int32) = i3 6 from rfl) (rfl : i3 a1 = i3 a1))) (rfl : i3 a2 = i3 a2)) (by omega) (by omega) (by omega)) ?_
                obtain ⟨Z22, hZ22⟩ := zx (zu Z19 2 0 0 (3210 + 6 * a1 + a2) a3)
                replace hP := zl_e hP hZ22
                have hZ22I := zM_u2 hZ19I hZ22 (lo := 0) (hi := 12) (zs_3210 (by omega) (by omega)) (by omega) ⟨by decide, by decide⟩ (by simp only [zsp]; omega)
                have hZ22U : zU [] Z Z22 := zU_u hZ19U hZ22 (Or.inl rfl)
                have hZ22K : zC [1, 2] Z Z22 := zC_u hZ19K hZ22 (zcl_2w (by omega) rfl)
                intro μ9 e9
                replace e9 := e9.trans (zm_wI (Z := Z19) (ν := ν) hZ22 (show ((0 : Nat) : Int) = 0 from rfl) (show ((0 : Nat) : Int) = 0 from rfl) (i3I (y := (3210 + 6 * a1 + a2)) (i3A (i3A (show (3210 : Int32) = i3 3210 from rfl) (i3M (show (6 : Int32) = i3 6 from rfl) (rfl : i3 a1 = i3 a1))) (rfl : i3 a2 = i3 a2)) (by omega) (by omega) (by omega)) (rfl : i3 a3 = i3 a3))
                subst e9
                refine wz_i0 (i3O (n := 4400) (i3A (i3A (show (3210 : Int32) = i3 3210 from rfl) (i3M (show (6 : Int32) = i3 6 from rfl) (rfl : i3 a2 = i3 a2))) (rfl : i3 a1 = i3 a1)) (by omega) (by omega) (by omega)) ?_
                obtain ⟨Z23, hZ23⟩ := zx (zu Z22 2 0 0 (3210 + 6 * a2 + a1) a3)
                replace hP := zl_e hP hZ23
                have hZ23I := zM_u2 hZ22I hZ23 (lo := 0) (hi := 12) (zs_3210 (by omega) (by omega)) (by omega) ⟨by decide, by decide⟩ (by simp only [zsp]; omega)
                have hZ23U : zU [] Z Z23 := zU_u hZ22U hZ23 (Or.inl rfl)
                have hZ23K : zC [1, 2] Z Z23 := zC_u hZ22K hZ23 (zcl_2w (by omega) rfl)
                intro μ9 e9
                replace e9 := e9.trans (zm_wI (Z := Z22) (ν := ν) hZ23 (show ((0 : Nat) : Int) = 0 from rfl) (show ((0 : Nat) : Int) = 0 from rfl) (i3I (y := (3210 + 6 * a2 + a1)) (i3A (i3A (show (3210 : Int32) = i3 3210 from rfl) (i3M (show (6 : Int32) = i3 6 from rfl) (rfl : i3 a2 = i3 a2))) (rfl : i3 a1 = i3 a1)) (by omega) (by omega) (by omega)) (rfl : i3 a3 = i3 a3))
                subst e9
                have r24 := zM_k hZ19I 2 0 0 (3210 + 6 * a1 + a2) (lo := 0) (hi := 12) (by decide) (zs_3210 (by omega) (by omega))
                exact zlY hP (zm_rd (Z := Z19) (ν := ν) (k := 2) (show ((0 : Nat) : Int) = 0 from rfl) (show ((0 : Nat) : Int) = 0 from rfl) (i3I (y := (3210 + 6 * a1 + a2)) (i3A (i3A (show (3210 : Int32) = i3 3210 from rfl) (i3M (show (6 : Int32) = i3 6 from rfl) (rfl : i3 a1 = i3 a1))) (rfl : i3 a2 = i3 a2)) (by omega) (by omega) (by omega))) (.inl rfl) ⟨hZ23I, hZ23K, hZ23U⟩
/- yX12_withdraw -/
def zy_546 (Z : qz_Z) (dm : qz_Z → Int → Int → Int → Int → Int → Int → Int → qz_Z) (a1 : Int) : qz_Z × Int := (if a1 < 0 then (zlet (zu Z 1 0 0 2 1) (fun Z5 => (Z5, 0))) else (if ((Z 2 0 0 102) - 1) < a1 then (zlet (zu Z 1 0 0 2 1) (fun Z8 => (Z8, 0))) else (zlet (zu Z 1 0 0 2 0) (fun Z9 => (if (Z9 2 0 0 (210 + 20 * a1)) ≠ 1 then (zlet (zu Z9 1 0 0 2 2) (fun Z15 => (Z15, 0))) else (zlet (zu Z9 1 0 0 2 0) (fun Z16 => (zlet (dm Z16 17 a1 0 0 0 0 0) (fun Z23 => (zlet (zf_305 Z23 a1) (fun v24 => (zlet (zf_305 Z23 a1) (fun v25 => (if v25 = (-1) then (zlet (zu Z23 2 0 0 (210 + 20 * a1) 0) (fun Z27 => (Z27, (Z27 2 0 0 (3015 + 60 * v24))))) else (zlet (zf_306 Z23 v25 a1) (fun v36 => (zlet (zf_312 Z23 v25 v36) (fun Z41 => (zlet (zu Z41 2 0 0 (210 + 20 * a1) 0) (fun Z49 => (Z49, (Z49 2 0 0 (3015 + 60 * v24)))))))))))))))))))))))
theorem sy_546 {s : zSM} {Z : qz_Z} {ν : qz_N} (hZ : zM s Z) (gq : Z 1 0 0 35 = 0) (hM : s.2 + 0 ≤ 1000000000) {a1 : Int} (ga1 : -2147483648 ≤ a1 ∧ a1 ≤ 2147483647) {dk : qz_Z → qz_Z} {dm : qz_Z → Int → Int → Int → Int → Int → Int → Int → qz_Z} {ν1 : qz_N} (hdm : zDm s ν ν1 Z dk dm) : ∃ (Z1 : qz_Z) (ν2 : qz_N) (v : Int), (Z1, v) = zy_546 Z dm a1 ∧ (ν2 = ν ∨ ν2 = ν1) ∧ qf_546 [.inr (.inr (some (1, 0, 0))), .inl (i3 a1)] (zm Z ν) = some (zm Z1 ν2, .inl (some (.inl (i3 v)))) ∧ (fun Z1 => zM s Z1 ∧ zC [1, 2, 101, 102, 200] Z Z1 ∧ zU [] Z Z1) Z1 := by
  obtain ⟨P, hP⟩ := zx (zy_546 Z dm a1)
  refine zc_Y (Q := fun Z1 => zM s Z1 ∧ zC [1, 2, 101, 102, 200] Z Z1 ∧ zU [] Z Z1) hP (fw_546 (i3 a1) _ _ ?_)
  replace hP : zE P (zy_546 Z dm a1) := hP
  unfold zy_546 at hP
  have r1 := zM_k hZ 1 0 0 35 (lo := 0) (hi := 1) (by decide) rfl
  have r2 := zM_k hZ 1 0 0 34 (lo := 0) (hi := 8) (by decide) rfl
  have r3 := zM_f hZ 1 0 0 37
  refine wz_br (i3L (rfl : i3 a1 = i3 a1) (show (0 : Int32) = i3 0 from rfl) (by omega) (by omega) (by omega) (by omega)) (fun h4 => ?_) (fun h4 => ?_)
  · replace hP := zE_p hP h4
    obtain ⟨Z5, hZ5⟩ := zx (zu Z 1 0 0 2 1)
    replace hP := zl_e hP hZ5
    have hZ5I := zM_u hZ hZ5 (lo := -2147483648) (hi := 2147483647) (by decide) rfl (by omega) ⟨by decide, by decide⟩ (Or.inr (by decide)) rfl
    have hZ5U : zU [] Z Z5 := zU_u zU_r hZ5 (Or.inl rfl)
    have hZ5K : zC [1, 2, 101, 102, 200] Z Z5 := zC_u zC_r hZ5 (by decide)
    intro μ9 e9
    replace e9 := e9.trans (zm_wI (Z := Z) (ν := ν) hZ5 (show ((0 : Nat) : Int) = 0 from rfl) (show ((0 : Nat) : Int) = 0 from rfl) (show ((2 : Nat) : Int) = 2 from rfl) (show (1 : Int32) = i3 1 from rfl))
    subst e9
    exact zlY hP (show (0 : Int32) = i3 0 from rfl) (.inl rfl) ⟨hZ5I, hZ5K, hZ5U⟩
  · replace hP := zE_n hP h4
    have r6 := zM_k hZ 2 0 0 102 (lo := 0) (hi := 48) (by decide) rfl
    refine wz_br (i3L (i3S (zm_rd (Z := Z) (ν := ν) (k := 2) (show ((0 : Nat) : Int) = 0 from rfl) (show ((0 : Nat) : Int) = 0 from rfl) (show ((102 : Nat) : Int) = 102 from rfl)) (show (1 : Int32) = i3 1 from rfl)) (rfl : i3 a1 = i3 a1) (by omega) (by omega) (by omega) (by omega)) (fun h7 => ?_) (fun h7 => ?_)
    · replace hP := zE_p hP h7
      obtain ⟨Z8, hZ8⟩ := zx (zu Z 1 0 0 2 1)
      replace hP := zl_e hP hZ8
      have hZ8I := zM_u hZ hZ8 (lo := -2147483648) (hi := 2147483647) (by decide) rfl (by omega) ⟨by decide, by decide⟩ (Or.inr (by decide)) rfl
      have hZ8U : zU [] Z Z8 := zU_u zU_r hZ8 (Or.inl rfl)
      have hZ8K : zC [1, 2, 101, 102, 200] Z Z8 := zC_u zC_r hZ8 (by decide)
      intro μ9 e9
      replace e9 := e9.trans (zm_wI (Z := Z) (ν := ν) hZ8 (show ((0 : Nat) : Int) = 0 from rfl) (show ((0 : Nat) : Int) = 0 from rfl) (show ((2 : Nat) : Int) = 2 from rfl) (show (1 : Int32) = i3 1 from rfl))
      subst e9
      exact zlY hP (show (0 : Int32) = i3 0 from rfl) (.inl rfl) ⟨hZ8I, hZ8K, hZ8U⟩
    · replace hP := zE_n hP h7
      obtain ⟨Z9, hZ9⟩ := zx (zu Z 1 0 0 2 0)
      replace hP := zl_e hP hZ9
      have hZ9I := zM_0 hZ hZ9 (by decide) (Or.inr (by decide))
      have hZ9U : zU [] Z Z9 := zU_u zU_r hZ9 (Or.inl rfl)
      have hZ9K : zC [1, 2, 101, 102, 200] Z Z9 := zC_u zC_r hZ9 (by decide)
      intro μ9 e9
      replace e9 := e9.trans (zm_wI (Z := Z) (ν := ν) hZ9 (show ((0 : Nat) : Int) = 0 from rfl) (show ((0 : Nat) : Int) = 0 from rfl) (show ((2 : Nat) : Int) = 2 from rfl) (show (0 : Int32) = i3 0 from rfl))
      subst e9
      refine wz_i0 (i3O (n := 4400) (i3A (i3A (show (200 : Int32) = i3 200 from rfl) (i3M (show (20 : Int32) = i3 20 from rfl) (rfl : i3 a1 = i3 a1))) (show (10 : Int32) = i3 10 from rfl)) (by omega) (by omega) (by omega)) ?_
      have r10 := zM_k hZ9I 2 0 0 (210 + 20 * a1) (lo := 0) (hi := 4) (by decide) (zs_200_10 (x := a1) (by omega) (by omega) (by omega))
      have r11 := zM_pl hZ9I a1
      have r12 := zM_k hZ9I 2 0 0 102 (lo := 0) (hi := 48) (by decide) rfl
      have q13 := zu_ne (k' := 2) (b' := 0) (i' := 0) (j' := 102) hZ9 (fun q => absurd q.1 (by decide))
      refine wz_br (i3NE (zm_rd (Z := Z9) (ν := ν) (k := 2) (show ((0 : Nat) : Int) = 0 from rfl) (show ((0 : Nat) : Int) = 0 from rfl) (i3I (y := (210 + 20 * a1)) (i3A (i3A (show (200 : Int32) = i3 200 from rfl) (i3M (show (20 : Int32) = i3 20 from rfl) (rfl : i3 a1 = i3 a1))) (show (10 : Int32) = i3 10 from rfl)) (by omega) (by omega) (by omega))) (show (1 : Int32) = i3 1 from rfl) (by omega) (by omega) (by omega) (by omega)) (fun h14 => ?_) (fun h14 => ?_)
      · replace hP := zE_p hP h14
        obtain ⟨Z15, hZ15⟩ := zx (zu Z9 1 0 0 2 2)
        replace hP := zl_e hP hZ15
        have hZ15I := zM_u hZ9I hZ15 (lo := -2147483648) (hi := 2147483647) (by decide) rfl (by omega) ⟨by decide, by decide⟩ (Or.inr (by decide)) rfl
        have hZ15U : zU [] Z Z15 := zU_u hZ9U hZ15 (Or.inl rfl)
        have hZ15K : zC [1, 2, 101, 102, 200] Z Z15 := zC_u hZ9K hZ15 (by decide)
        intro μ9 e9
        replace e9 := e9.trans (zm_wI (Z := Z9) (ν := ν) hZ15 (show ((0 : Nat) : Int) = 0 from rfl) (show ((0 : Nat) : Int) = 0 from rfl) (show ((2 : Nat) : Int) = 2 from rfl) (show (2 : Int32) = i3 2 from rfl))
        subst e9
        exact zlY hP (show (0 : Int32) = i3 0 from rfl) (.inl rfl) ⟨hZ15I, hZ15K, hZ15U⟩
      · replace hP := zE_n hP h14
        obtain ⟨Z16, hZ16⟩ := zx (zu Z9 1 0 0 2 0)
        replace hP := zl_e hP hZ16
        have hZ16I := zM_0 hZ9I hZ16 (by decide) (Or.inr (by decide))
        have hZ16U : zU [] Z Z16 := zU_u hZ9U hZ16 (Or.inl rfl)
        have hZ16K : zC [1, 2, 101, 102, 200] Z Z16 := zC_u hZ9K hZ16 (by decide)
        intro μ9 e9
        replace e9 := e9.trans (zm_wI (Z := Z9) (ν := ν) hZ16 (show ((0 : Nat) : Int) = 0 from rfl) (show ((0 : Nat) : Int) = 0 from rfl) (show ((2 : Nat) : Int) = 2 from rfl) (show (0 : Int32) = i3 0 from rfl))
        subst e9
        have r17 := zM_k hZ16I 1 0 0 35 (lo := 0) (hi := 1) (by decide) rfl
        have q18 := (zu_ne (k' := 1) (b' := 0) (i' := 0) (j' := 35) hZ16 (fun q => absurd q.2.2.2 (by decide))).trans (zu_ne (k' := 1) (b' := 0) (i' := 0) (j' := 35) hZ9 (fun q => absurd q.2.2.2 (by decide)))
        refine wz_i0 (Eq.trans (i3NE (zm_rd (Z := Z16) (ν := ν) (k := 1) (show ((0 : Nat) : Int) = 0 from rfl) (show ((0 : Nat) : Int) = 0 from rfl) (show ((35 : Nat) : Int) = 35 from rfl)) (show (0 : Int32) = i3 0 from rfl) (by omega) (by omega) (by omega) (by omega)) (decide_eq_false (by omega))) ?_
        have r19 := zM_k hZ16I 1 0 0 34 (lo := 0) (hi := 8) (by decide) rfl
        have q20 := (zu_ne (k' := 1) (b' := 0) (i' := 0) (j' := 34) hZ16 (fun q => absurd q.2.2.2 (by decide))).trans (zu_ne (k' := 1) (b' := 0) (i' := 0) (j' := 34) hZ9 (fun q => absurd q.2.2.2 (by decide)))
        have r21 := zM_f hZ16I 1 0 0 37
        have q22 := (zu_ne (k' := 1) (b' := 0) (i' := 0) (j' := 37) hZ16 (fun q => absurd q.2.2.2 (by decide))).trans (zu_ne (k' := 1) (b' := 0) (i' := 0) (j' := 37) hZ9 (fun q => absurd q.2.2.2 (by decide)))
        obtain ⟨c8, c9, hZ23I, dZ23⟩ := hdm Z16 17 a1 0 0 0 0 0 hZ16I (by omega) (by omega) (by omega) (by omega) (by omega) (by omega) (by omega) (by omega) (by omega) (by omega)
        obtain ⟨Z23, hZ23⟩ := zx (dm Z16 17 a1 0 0 0 0 0)
        rw [← hZ23] at c9 hZ23I dZ23
        replace hP := zl_e hP hZ23
        refine wz_cV_of (zas (zcons rfl (zcons (zvi (show (-1 : Int32) = i3 (-1) from rfl)) rfl)) c8) ?_
        refine wz_cV_of (zas (zcons rfl (zcons (zvi (show (17 : Int32) = i3 17 from rfl)) (zcons (zvi (rfl : i3 a1 = i3 a1)) (zcons (zvi (show (0 : Int32) = i3 0 from rfl)) (zcons (zvi (show (0 : Int32) = i3 0 from rfl)) (zcons (zvi (show (0 : Int32) = i3 0 from rfl)) (zcons (zvi (show (0 : Int32) = i3 0 from rfl)) (zcons (zvi (show (0 : Int32) = i3 0 from rfl)) rfl)))))))) c9) ?_
        clear c8 c9
        have hZ23K : zC [1, 2, 101, 102, 200] Z Z23 := zC_t hZ16K (zMd_C dZ23) (by decide)
        have hZ23U : zU [] Z Z23 := zU_t hZ16U (zMd_U dZ23) zU_b0
        obtain ⟨v24, hv24, c9, lv24, uv24⟩ := sp_305 (ν := ν1) hZ23I (a1 := a1) (by omega) (zbh (c := 0) (k := 0) hM (Nat.le_of_ble_eq_true rfl))
        replace hP := zl_e hP hv24
        refine wz_cI_of (zas (zcons rfl (zcons (zvi (rfl : i3 a1 = i3 a1)) rfl)) c9) ?_
        clear c9
        obtain ⟨v25, hv25, c9, lv25, uv25⟩ := sp_305 (ν := ν1) hZ23I (a1 := a1) (by omega) (zbh (c := 0) (k := 0) hM (Nat.le_of_ble_eq_true rfl))
        replace hP := zl_e hP hv25
        refine wz_cI_of (zas (zcons rfl (zcons (zvi (rfl : i3 a1 = i3 a1)) rfl)) c9) ?_
        clear c9
        refine wz_br (i3E (rfl : i3 v25 = i3 v25) (show (-1 : Int32) = i3 (-1) from rfl) (by omega) (by omega) (by omega) (by omega)) (fun h26 => ?_) (fun h26 => ?_)
        · replace hP := zE_p hP h26
          refine wz_i0 (i3O (n := 4400) (i3A (i3A (show (200 : Int32) = i3 200 from rfl) (i3M (show (20 : Int32) = i3 20 from rfl) (rfl : i3 a1 = i3 a1))) (show (10 : Int32) = i3 10 from rfl)) (by omega) (by omega) (by omega)) ?_
          obtain ⟨Z27, hZ27⟩ := zx (zu Z23 2 0 0 (210 + 20 * a1) 0)
          replace hP := zl_e hP hZ27
          have r28 := zM_k hZ23I 2 0 0 (210 + 20 * a1) (lo := 0) (hi := 4) (by decide) (zs_200_10 (x := a1) (by omega) (by omega) (by omega))
          have r29 := zM_pl hZ23I a1
          have r30 := zM_k hZ23I 2 0 0 102 (lo := 0) (hi := 48) (by decide) rfl
          have q31 := (dZ23 2 0 0 102 (by simp)).trans (zu_ne (k' := 2) (b' := 0) (i' := 0) (j' := 102) hZ16 (fun q => absurd q.1 (by decide)))
          have q32 := (dZ23 2 0 0 (210 + 20 * a1) (by simp)).trans (zu_ne (k' := 2) (b' := 0) (i' := 0) (j' := (210 + 20 * a1)) hZ16 (fun q => absurd q.1 (by decide)))
          have r33 := zM_k hZ23I 2 0 0 (211 + 20 * a1) (lo := -1) (hi := 6) (by decide) (zs_200_11 (x := a1) (by omega) (by omega) (by omega))
          have hZ27I := zM_ps2 hZ23I hZ27 (q := a1) (by omega) (by omega) (by omega) (by omega)
          have hZ27U : zU [] Z Z27 := zU_u hZ23U hZ27 (Or.inl rfl)
          have hZ27K : zC [1, 2, 101, 102, 200] Z Z27 := zC_u hZ23K hZ27 (zcl_2w (by omega) rfl)
          intro μ9 e9
          replace e9 := e9.trans (zm_wI (Z := Z23) (ν := ν1) hZ27 (show ((0 : Nat) : Int) = 0 from rfl) (show ((0 : Nat) : Int) = 0 from rfl) (i3I (y := (210 + 20 * a1)) (i3A (i3A (show (200 : Int32) = i3 200 from rfl) (i3M (show (20 : Int32) = i3 20 from rfl) (rfl : i3 a1 = i3 a1))) (show (10 : Int32) = i3 10 from rfl)) (by omega) (by omega) (by omega)) (show (0 : Int32) = i3 0 from rfl))
          subst e9
          refine wz_i0 (i3O (n := 4400) (i3A (i3A (show (3010 : Int32) = i3 3010 from rfl) (i3M (show (60 : Int32) = i3 60 from rfl) (rfl : i3 v24 = i3 v24))) (show (5 : Int32) = i3 5 from rfl)) (by omega) (by omega) (by omega)) ?_
          have r34 := zM_f hZ27I 2 0 0 (3015 + 60 * v24)
          have r35 := zM_lc hZ27I v24
          exact zlY hP (zm_rd (Z := Z27) (ν := ν1) (k := 2) (show ((0 : Nat) : Int) = 0 from rfl) (show ((0 : Nat) : Int) = 0 from rfl) (i3I (y := (3015 + 60 * v24)) (i3A (i3A (show (3010 : Int32) = i3 3010 from rfl) (i3M (show (60 : Int32) = i3 60 from rfl) (rfl : i3 v24 = i3 v24))) (show (5 : Int32) = i3 5 from rfl)) (by omega) (by omega) (by omega))) (.inr rfl) ⟨hZ27I, hZ27K, hZ27U⟩
        · replace hP := zE_n hP h26
          obtain ⟨v36, hv36, c9, lv36, uv36, wv360⟩ := sp_306 (ν := ν1) hZ23I (a1 := v25) (by omega) (a2 := a1) (by omega) (zbh (c := 0) (k := 0) hM (Nat.le_of_ble_eq_true rfl))
          replace hP := zl_e hP hv36
          refine wz_cI_of (zas (zcons rfl (zcons (zvi (rfl : i3 v25 = i3 v25)) (zcons (zvi (rfl : i3 a1 = i3 a1)) rfl))) c9) ?_
          clear c9
          have r37 := zM_f hZ23I 2 0 0 (3015 + 60 * v25)
          have r38 := zM_lc hZ23I v25
          have w39 : v36 < Z23 2 0 0 (3015 + 60 * v25) := wv360
          have r40 := z306 hv25 hv36
          obtain ⟨Z41, hZ41, c9, hZ41I, kZ41, jZ41⟩ := sp_312 (ν := ν1) hZ23I (a1 := v25) (by omega) (a2 := v36) (by omega) (by omega) (zbh (c := 0) (k := 0) hM (Nat.le_of_ble_eq_true rfl))
          have hZ41U : zU [] Z Z41 := zU_t hZ23U jZ41 zU_b0
          have hZ41K : zC [1, 2, 101, 102, 200] Z Z41 := zC_t hZ23K kZ41 (by decide)
          replace hP := zl_e hP hZ41
          refine wz_cV_of (zas (zcons rfl (zcons (zvi (rfl : i3 v25 = i3 v25)) (zcons (zvi (rfl : i3 v36 = i3 v36)) rfl))) c9) ?_
          clear c9
          have r42 := zM_k hZ23I 2 0 0 102 (lo := 0) (hi := 48) (by decide) rfl
          have q43 := (dZ23 2 0 0 102 (by simp)).trans (zu_ne (k' := 2) (b' := 0) (i' := 0) (j' := 102) hZ16 (fun q => absurd q.1 (by decide)))
          have q44 : Z41 2 0 0 102 = Z23 2 0 0 102 := zn_312 hZ41 (by omega) (by omega) ⟨by omega, by omega⟩ (by omega)
          have r45 := zM_k hZ23I 2 0 0 (210 + 20 * a1) (lo := 0) (hi := 4) (by decide) (zs_200_10 (x := a1) (by omega) (by omega) (by omega))
          have r46 := zM_pl hZ23I a1
          have q47 := (dZ23 2 0 0 (210 + 20 * a1) (by simp)).trans (zu_ne (k' := 2) (b' := 0) (i' := 0) (j' := (210 + 20 * a1)) hZ16 (fun q => absurd q.1 (by decide)))
          have q48 : Z41 2 0 0 (210 + 20 * a1) = Z23 2 0 0 (210 + 20 * a1) := zn_312 hZ41 (by omega) (by omega) ⟨by omega, by omega⟩ (by omega)
          refine wz_i0 (i3O (n := 4400) (i3A (i3A (show (200 : Int32) = i3 200 from rfl) (i3M (show (20 : Int32) = i3 20 from rfl) (rfl : i3 a1 = i3 a1))) (show (10 : Int32) = i3 10 from rfl)) (by omega) (by omega) (by omega)) ?_
          obtain ⟨Z49, hZ49⟩ := zx (zu Z41 2 0 0 (210 + 20 * a1) 0)
          replace hP := zl_e hP hZ49
          have r50 := zM_k hZ41I 2 0 0 (210 + 20 * a1) (lo := 0) (hi := 4) (by decide) (zs_200_10 (x := a1) (by omega) (by omega) (by omega))
          have r51 := zM_pl hZ41I a1
          have r52 := zM_k hZ41I 2 0 0 102 (lo := 0) (hi := 48) (by decide) rfl
          have r53 := zM_k hZ41I 2 0 0 (211 + 20 * a1) (lo := -1) (hi := 6) (by decide) (zs_200_11 (x := a1) (by omega) (by omega) (by omega))
          have hZ49I := zM_ps2 hZ41I hZ49 (q := a1) (by omega) (by omega) (by omega) (by omega)
          have hZ49U : zU [] Z Z49 := zU_u hZ41U hZ49 (Or.inl rfl)
          have hZ49K : zC [1, 2, 101, 102, 200] Z Z49 := zC_u hZ41K hZ49 (zcl_2w (by omega) rfl)
          intro μ9 e9
          replace e9 := e9.trans (zm_wI (Z := Z41) (ν := ν1) hZ49 (show ((0 : Nat) : Int) = 0 from rfl) (show ((0 : Nat) : Int) = 0 from rfl) (i3I (y := (210 + 20 * a1)) (i3A (i3A (show (200 : Int32) = i3 200 from rfl) (i3M (show (20 : Int32) = i3 20 from rfl) (rfl : i3 a1 = i3 a1))) (show (10 : Int32) = i3 10 from rfl)) (by omega) (by omega) (by omega)) (show (0 : Int32) = i3 0 from rfl))
          subst e9
          refine wz_i0 (i3O (n := 4400) (i3A (i3A (show (3010 : Int32) = i3 3010 from rfl) (i3M (show (60 : Int32) = i3 60 from rfl) (rfl : i3 v24 = i3 v24))) (show (5 : Int32) = i3 5 from rfl)) (by omega) (by omega) (by omega)) ?_
          have r54 := zM_f hZ49I 2 0 0 (3015 + 60 * v24)
          have r55 := zM_lc hZ49I v24
          exact zlY hP (zm_rd (Z := Z49) (ν := ν1) (k := 2) (show ((0 : Nat) : Int) = 0 from rfl) (show ((0 : Nat) : Int) = 0 from rfl) (i3I (y := (3015 + 60 * v24)) (i3A (i3A (show (3010 : Int32) = i3 3010 from rfl) (i3M (show (60 : Int32) = i3 60 from rfl) (rfl : i3 v24 = i3 v24))) (show (5 : Int32) = i3 5 from rfl)) (by omega) (by omega) (by omega))) (.inr rfl) ⟨hZ49I, hZ49K, hZ49U⟩

theorem sq_546 {s : zSM} {Z : qz_Z} {ν : qz_N} (hZ : zM s Z) (gq : Z 1 0 0 35 = 1) (hM : s.2 + 0 ≤ 1000000000) {a1 : Int} (ga1 : -2147483648 ≤ a1 ∧ a1 ≤ 2147483647) {ν1 : qz_N} : ∃ (Z1 : qz_Z) (ν2 : qz_N) (v : Int), (Z1, v) = zy_546 Z zq0 a1 ∧ (ν2 = ν ∨ ν2 = ν1) ∧ qf_546 [.inr (.inr (some (1, 0, 0))), .inl (i3 a1)] (zm Z ν) = some (zm Z1 ν2, .inl (some (.inl (i3 v)))) ∧ (fun Z1 => zM s Z1 ∧ zC [1, 2] Z Z1 ∧ zU [] Z Z1) Z1 := by
  obtain ⟨P, hP⟩ := zx (zy_546 Z zq0 a1)
  refine zc_Y (Q := fun Z1 => zM s Z1 ∧ zC [1, 2] Z Z1 ∧ zU [] Z Z1) hP (fw_546 (i3 a1) _ _ ?_)
  replace hP : zE P (zy_546 Z zq0 a1) := hP
  unfold zy_546 at hP
  have r1 := zM_k hZ 1 0 0 35 (lo := 0) (hi := 1) (by decide) rfl
  have r2 := zM_k hZ 1 0 0 34 (lo := 0) (hi := 8) (by decide) rfl
  have r3 := zM_f hZ 1 0 0 37
  refine wz_br (i3L (rfl : i3 a1 = i3 a1) (show (0 : Int32) = i3 0 from rfl) (by omega) (by omega) (by omega) (by omega)) (fun h4 => ?_) (fun h4 => ?_)
  · replace hP := zE_p hP h4
    obtain ⟨Z5, hZ5⟩ := zx (zu Z 1 0 0 2 1)
    replace hP := zl_e hP hZ5
    have hZ5I := zM_u hZ hZ5 (lo := -2147483648) (hi := 2147483647) (by decide) rfl (by omega) ⟨by decide, by decide⟩ (Or.inr (by decide)) rfl
    have hZ5U : zU [] Z Z5 := zU_u zU_r hZ5 (Or.inl rfl)
    have hZ5K : zC [1, 2] Z Z5 := zC_u zC_r hZ5 (by decide)
    intro μ9 e9
    replace e9 := e9.trans (zm_wI (Z := Z) (ν := ν) hZ5 (show ((0 : Nat) : Int) = 0 from rfl) (show ((0 : Nat) : Int) = 0 from rfl) (show ((2 : Nat) : Int) = 2 from rfl) (show (1 : Int32) = i3 1 from rfl))
    subst e9
    exact zlY hP (show (0 : Int32) = i3 0 from rfl) (.inl rfl) ⟨hZ5I, hZ5K, hZ5U⟩
  · replace hP := zE_n hP h4
    have r6 := zM_k hZ 2 0 0 102 (lo := 0) (hi := 48) (by decide) rfl
    refine wz_br (i3L (i3S (zm_rd (Z := Z) (ν := ν) (k := 2) (show ((0 : Nat) : Int) = 0 from rfl) (show ((0 : Nat) : Int) = 0 from rfl) (show ((102 : Nat) : Int) = 102 from rfl)) (show (1 : Int32) = i3 1 from rfl)) (rfl : i3 a1 = i3 a1) (by omega) (by omega) (by omega) (by omega)) (fun h7 => ?_) (fun h7 => ?_)
    · replace hP := zE_p hP h7
      obtain ⟨Z8, hZ8⟩ := zx (zu Z 1 0 0 2 1)
      replace hP := zl_e hP hZ8
      have hZ8I := zM_u hZ hZ8 (lo := -2147483648) (hi := 2147483647) (by decide) rfl (by omega) ⟨by decide, by decide⟩ (Or.inr (by decide)) rfl
      have hZ8U : zU [] Z Z8 := zU_u zU_r hZ8 (Or.inl rfl)
      have hZ8K : zC [1, 2] Z Z8 := zC_u zC_r hZ8 (by decide)
      intro μ9 e9
      replace e9 := e9.trans (zm_wI (Z := Z) (ν := ν) hZ8 (show ((0 : Nat) : Int) = 0 from rfl) (show ((0 : Nat) : Int) = 0 from rfl) (show ((2 : Nat) : Int) = 2 from rfl) (show (1 : Int32) = i3 1 from rfl))
      subst e9
      exact zlY hP (show (0 : Int32) = i3 0 from rfl) (.inl rfl) ⟨hZ8I, hZ8K, hZ8U⟩
    · replace hP := zE_n hP h7
      obtain ⟨Z9, hZ9⟩ := zx (zu Z 1 0 0 2 0)
      replace hP := zl_e hP hZ9
      have hZ9I := zM_0 hZ hZ9 (by decide) (Or.inr (by decide))
      have hZ9U : zU [] Z Z9 := zU_u zU_r hZ9 (Or.inl rfl)
      have hZ9K : zC [1, 2] Z Z9 := zC_u zC_r hZ9 (by decide)
      intro μ9 e9
      replace e9 := e9.trans (zm_wI (Z := Z) (ν := ν) hZ9 (show ((0 : Nat) : Int) = 0 from rfl) (show ((0 : Nat) : Int) = 0 from rfl) (show ((2 : Nat) : Int) = 2 from rfl) (show (0 : Int32) = i3 0 from rfl))
      subst e9
      refine wz_i0 (i3O (n := 4400) (i3A (i3A (show (200 : Int32) = i3 200 from rfl) (i3M (show (20 : Int32) = i3 20 from rfl) (rfl : i3 a1 = i3 a1))) (show (10 : Int32) = i3 10 from rfl)) (by omega) (by omega) (by omega)) ?_
      have r10 := zM_k hZ9I 2 0 0 (210 + 20 * a1) (lo := 0) (hi := 4) (by decide) (zs_200_10 (x := a1) (by omega) (by omega) (by omega))
      have r11 := zM_pl hZ9I a1
      have r12 := zM_k hZ9I 2 0 0 102 (lo := 0) (hi := 48) (by decide) rfl
      have q13 := zu_ne (k' := 2) (b' := 0) (i' := 0) (j' := 102) hZ9 (fun q => absurd q.1 (by decide))
      refine wz_br (i3NE (zm_rd (Z := Z9) (ν := ν) (k := 2) (show ((0 : Nat) : Int) = 0 from rfl) (show ((0 : Nat) : Int) = 0 from rfl) (i3I (y := (210 + 20 * a1)) (i3A (i3A (show (200 : Int32) = i3 200 from rfl) (i3M (show (20 : Int32) = i3 20 from rfl) (rfl : i3 a1 = i3 a1))) (show (10 : Int32) = i3 10 from rfl)) (by omega) (by omega) (by omega))) (show (1 : Int32) = i3 1 from rfl) (by omega) (by omega) (by omega) (by omega)) (fun h14 => ?_) (fun h14 => ?_)
      · replace hP := zE_p hP h14
        obtain ⟨Z15, hZ15⟩ := zx (zu Z9 1 0 0 2 2)
        replace hP := zl_e hP hZ15
        have hZ15I := zM_u hZ9I hZ15 (lo := -2147483648) (hi := 2147483647) (by decide) rfl (by omega) ⟨by decide, by decide⟩ (Or.inr (by decide)) rfl
        have hZ15U : zU [] Z Z15 := zU_u hZ9U hZ15 (Or.inl rfl)
        have hZ15K : zC [1, 2] Z Z15 := zC_u hZ9K hZ15 (by decide)
        intro μ9 e9
        replace e9 := e9.trans (zm_wI (Z := Z9) (ν := ν) hZ15 (show ((0 : Nat) : Int) = 0 from rfl) (show ((0 : Nat) : Int) = 0 from rfl) (show ((2 : Nat) : Int) = 2 from rfl) (show (2 : Int32) = i3 2 from rfl))
        subst e9
        exact zlY hP (show (0 : Int32) = i3 0 from rfl) (.inl rfl) ⟨hZ15I, hZ15K, hZ15U⟩
      · replace hP := zE_n hP h14
        obtain ⟨Z16, hZ16⟩ := zx (zu Z9 1 0 0 2 0)
        replace hP := zl_e hP hZ16
        have hZ16I := zM_0 hZ9I hZ16 (by decide) (Or.inr (by decide))
        have hZ16U : zU [] Z Z16 := zU_u hZ9U hZ16 (Or.inl rfl)
        have hZ16K : zC [1, 2] Z Z16 := zC_u hZ9K hZ16 (by decide)
        intro μ9 e9
        replace e9 := e9.trans (zm_wI (Z := Z9) (ν := ν) hZ16 (show ((0 : Nat) : Int) = 0 from rfl) (show ((0 : Nat) : Int) = 0 from rfl) (show ((2 : Nat) : Int) = 2 from rfl) (show (0 : Int32) = i3 0 from rfl))
        subst e9
        have r17 := zM_k hZ16I 1 0 0 35 (lo := 0) (hi := 1) (by decide) rfl
        have q18 := (zu_ne (k' := 1) (b' := 0) (i' := 0) (j' := 35) hZ16 (fun q => absurd q.2.2.2 (by decide))).trans (zu_ne (k' := 1) (b' := 0) (i' := 0) (j' := 35) hZ9 (fun q => absurd q.2.2.2 (by decide)))
        refine wz_i1 (Eq.trans (i3NE (zm_rd (Z := Z16) (ν := ν) (k := 1) (show ((0 : Nat) : Int) = 0 from rfl) (show ((0 : Nat) : Int) = 0 from rfl) (show ((35 : Nat) : Int) = 35 from rfl)) (show (0 : Int32) = i3 0 from rfl) (by omega) (by omega) (by omega) (by omega)) (decide_eq_true (by omega))) ?_
        replace hP := zl_q hP (rfl : _ = Z16)
        obtain ⟨v19, hv19, c9, lv19, uv19⟩ := sp_305 (ν := ν) hZ16I (a1 := a1) (by omega) (zbh (c := 0) (k := 0) hM (Nat.le_of_ble_eq_true rfl))
        replace hP := zl_e hP hv19
        refine wz_cI_of (zas (zcons rfl (zcons (zvi (rfl : i3 a1 = i3 a1)) rfl)) c9) ?_
        clear c9
        obtain ⟨v20, hv20, c9, lv20, uv20⟩ := sp_305 (ν := ν) hZ16I (a1 := a1) (by omega) (zbh (c := 0) (k := 0) hM (Nat.le_of_ble_eq_true rfl))
        replace hP := zl_e hP hv20
        refine wz_cI_of (zas (zcons rfl (zcons (zvi (rfl : i3 a1 = i3 a1)) rfl)) c9) ?_
        clear c9
        refine wz_br (i3E (rfl : i3 v20 = i3 v20) (show (-1 : Int32) = i3 (-1) from rfl) (by omega) (by omega) (by omega) (by omega)) (fun h21 => ?_) (fun h21 => ?_)
        · replace hP := zE_p hP h21
          refine wz_i0 (i3O (n := 4400) (i3A (i3A (show (200 : Int32) = i3 200 from rfl) (i3M (show (20 : Int32) = i3 20 from rfl) (rfl : i3 a1 = i3 a1))) (show (10 : Int32) = i3 10 from rfl)) (by omega) (by omega) (by omega)) ?_
          obtain ⟨Z22, hZ22⟩ := zx (zu Z16 2 0 0 (210 + 20 * a1) 0)
          replace hP := zl_e hP hZ22
          have r23 := zM_k hZ16I 2 0 0 (210 + 20 * a1) (lo := 0) (hi := 4) (by decide) (zs_200_10 (x := a1) (by omega) (by omega) (by omega))
          have r24 := zM_pl hZ16I a1
          have r25 := zM_k hZ16I 2 0 0 102 (lo := 0) (hi := 48) (by decide) rfl
          have q26 := zu_ne (k' := 2) (b' := 0) (i' := 0) (j' := 102) hZ16 (fun q => absurd q.1 (by decide))
          have q27 := zu_ne (k' := 2) (b' := 0) (i' := 0) (j' := (210 + 20 * a1)) hZ16 (fun q => absurd q.1 (by decide))
          have r28 := zM_k hZ16I 2 0 0 (211 + 20 * a1) (lo := -1) (hi := 6) (by decide) (zs_200_11 (x := a1) (by omega) (by omega) (by omega))
          have hZ22I := zM_ps2 hZ16I hZ22 (q := a1) (by omega) (by omega) (by omega) (by omega)
          have hZ22U : zU [] Z Z22 := zU_u hZ16U hZ22 (Or.inl rfl)
          have hZ22K : zC [1, 2] Z Z22 := zC_u hZ16K hZ22 (zcl_2w (by omega) rfl)
          intro μ9 e9
          replace e9 := e9.trans (zm_wI (Z := Z16) (ν := ν) hZ22 (show ((0 : Nat) : Int) = 0 from rfl) (show ((0 : Nat) : Int) = 0 from rfl) (i3I (y := (210 + 20 * a1)) (i3A (i3A (show (200 : Int32) = i3 200 from rfl) (i3M (show (20 : Int32) = i3 20 from rfl) (rfl : i3 a1 = i3 a1))) (show (10 : Int32) = i3 10 from rfl)) (by omega) (by omega) (by omega)) (show (0 : Int32) = i3 0 from rfl))
          subst e9
          refine wz_i0 (i3O (n := 4400) (i3A (i3A (show (3010 : Int32) = i3 3010 from rfl) (i3M (show (60 : Int32) = i3 60 from rfl) (rfl : i3 v19 = i3 v19))) (show (5 : Int32) = i3 5 from rfl)) (by omega) (by omega) (by omega)) ?_
          have r29 := zM_f hZ22I 2 0 0 (3015 + 60 * v19)
          have r30 := zM_lc hZ22I v19
          exact zlY hP (zm_rd (Z := Z22) (ν := ν) (k := 2) (show ((0 : Nat) : Int) = 0 from rfl) (show ((0 : Nat) : Int) = 0 from rfl) (i3I (y := (3015 + 60 * v19)) (i3A (i3A (show (3010 : Int32) = i3 3010 from rfl) (i3M (show (60 : Int32) = i3 60 from rfl) (rfl : i3 v19 = i3 v19))) (show (5 : Int32) = i3 5 from rfl)) (by omega) (by omega) (by omega))) (.inl rfl) ⟨hZ22I, hZ22K, hZ22U⟩
        · replace hP := zE_n hP h21
          obtain ⟨v31, hv31, c9, lv31, uv31, wv310⟩ := sp_306 (ν := ν) hZ16I (a1 := v20) (by omega) (a2 := a1) (by omega) (zbh (c := 0) (k := 0) hM (Nat.le_of_ble_eq_true rfl))
          replace hP := zl_e hP hv31
          refine wz_cI_of (zas (zcons rfl (zcons (zvi (rfl : i3 v20 = i3 v20)) (zcons (zvi (rfl : i3 a1 = i3 a1)) rfl))) c9) ?_
          clear c9
          have r32 := zM_f hZ16I 2 0 0 (3015 + 60 * v20)
          have r33 := zM_lc hZ16I v20
          have w34 : v31 < Z16 2 0 0 (3015 + 60 * v20) := wv310
          have r35 := z306 hv20 hv31
          obtain ⟨Z36, hZ36, c9, hZ36I, kZ36, jZ36⟩ := sp_312 (ν := ν) hZ16I (a1 := v20) (by omega) (a2 := v31) (by omega) (by omega) (zbh (c := 0) (k := 0) hM (Nat.le_of_ble_eq_true rfl))
          have hZ36U : zU [] Z Z36 := zU_t hZ16U jZ36 zU_b0
          have hZ36K : zC [1, 2] Z Z36 := zC_t hZ16K kZ36 (by decide)
          replace hP := zl_e hP hZ36
          refine wz_cV_of (zas (zcons rfl (zcons (zvi (rfl : i3 v20 = i3 v20)) (zcons (zvi (rfl : i3 v31 = i3 v31)) rfl))) c9) ?_
          clear c9
          have r37 := zM_k hZ16I 2 0 0 102 (lo := 0) (hi := 48) (by decide) rfl
          have q38 := zu_ne (k' := 2) (b' := 0) (i' := 0) (j' := 102) hZ16 (fun q => absurd q.1 (by decide))
          have q39 : Z36 2 0 0 102 = Z16 2 0 0 102 := zn_312 hZ36 (by omega) (by omega) ⟨by omega, by omega⟩ (by omega)
          have r40 := zM_k hZ16I 2 0 0 (210 + 20 * a1) (lo := 0) (hi := 4) (by decide) (zs_200_10 (x := a1) (by omega) (by omega) (by omega))
          have r41 := zM_pl hZ16I a1
          have q42 := zu_ne (k' := 2) (b' := 0) (i' := 0) (j' := (210 + 20 * a1)) hZ16 (fun q => absurd q.1 (by decide))
          have q43 : Z36 2 0 0 (210 + 20 * a1) = Z16 2 0 0 (210 + 20 * a1) := zn_312 hZ36 (by omega) (by omega) ⟨by omega, by omega⟩ (by omega)
          refine wz_i0 (i3O (n := 4400) (i3A (i3A (show (200 : Int32) = i3 200 from rfl) (i3M (show (20 : Int32) = i3 20 from rfl) (rfl : i3 a1 = i3 a1))) (show (10 : Int32) = i3 10 from rfl)) (by omega) (by omega) (by omega)) ?_
          obtain ⟨Z44, hZ44⟩ := zx (zu Z36 2 0 0 (210 + 20 * a1) 0)
          replace hP := zl_e hP hZ44
          have r45 := zM_k hZ36I 2 0 0 (210 + 20 * a1) (lo := 0) (hi := 4) (by decide) (zs_200_10 (x := a1) (by omega) (by omega) (by omega))
          have r46 := zM_pl hZ36I a1
          have r47 := zM_k hZ36I 2 0 0 102 (lo := 0) (hi := 48) (by decide) rfl
          have r48 := zM_k hZ36I 2 0 0 (211 + 20 * a1) (lo := -1) (hi := 6) (by decide) (zs_200_11 (x := a1) (by omega) (by omega) (by omega))
          have hZ44I := zM_ps2 hZ36I hZ44 (q := a1) (by omega) (by omega) (by omega) (by omega)
          have hZ44U : zU [] Z Z44 := zU_u hZ36U hZ44 (Or.inl rfl)
          have hZ44K : zC [1, 2] Z Z44 := zC_u hZ36K hZ44 (zcl_2w (by omega) rfl)
          intro μ9 e9
          replace e9 := e9.trans (zm_wI (Z := Z36) (ν := ν) hZ44 (show ((0 : Nat) : Int) = 0 from rfl) (show ((0 : Nat) : Int) = 0 from rfl) (i3I (y := (210 + 20 * a1)) (i3A (i3A (show (200 : Int32) = i3 200 from rfl) (i3M (show (20 : Int32) = i3 20 from rfl) (rfl : i3 a1 = i3 a1))) (show (10 : Int32) = i3 10 from rfl)) (by omega) (by omega) (by omega)) (show (0 : Int32) = i3 0 from rfl))
          subst e9
          refine wz_i0 (i3O (n := 4400) (i3A (i3A (show (3010 : Int32) = i3 3010 from rfl) (i3M (show (60 : Int32) = i3 60 from rfl) (rfl : i3 v19 = i3 v19))) (show (5 : Int32) = i3 5 from rfl)) (by omega) (by omega) (by omega)) ?_
          have r49 := zM_f hZ44I 2 0 0 (3015 + 60 * v19)
          have r50 := zM_lc hZ44I v19
          exact zlY hP (zm_rd (Z := Z44) (ν := ν) (k := 2) (show ((0 : Nat) : Int) = 0 from rfl) (show ((0 : Nat) : Int) = 0 from rfl) (i3I (y := (3015 + 60 * v19)) (i3A (i3A (show (3010 : Int32) = i3 3010 from rfl) (i3M (show (60 : Int32) = i3 60 from rfl) (rfl : i3 v19 = i3 v19))) (show (5 : Int32) = i3 5 from rfl)) (by omega) (by omega) (by omega))) (.inl rfl) ⟨hZ44I, hZ44K, hZ44U⟩
/- yX12_iSearch -/
def zl_369_1 (x1 : Int) (x2 : Int) : Nat → qz_Z → Int → qz_Z × Int
  | 0, Z, x3 => (Z, x3)
  | m + 1, Z, x3 => (if 4400 ≤ x3 then (Z, x3) else (zlet (zu Z 2 0 0 x3 (Z 100 0 0 x3)) (fun Z5 => zl_369_1 x1 x2 m Z5 (x3 + 1))))
theorem sl_369_1 {s : zSM} {Zs Z : qz_Z} {ν : qz_N} (hZ : zM s Z) (hM : s.2 + 0 ≤ 1000000000) (hK : zC [2, 1200] Zs Z) {x1 : Int} (gx1 : 0 ≤ x1 ∧ x1 ≤ 1) {x2 : Int} (gx2 : 111 ≤ x2 ∧ x2 ≤ 777) {x3 : Int} (gx3 : 0 ≤ x3 ∧ x3 ≤ 4400) (hU : zU [] Zs Z) (gr0 : x3 = 0 ∨ Z 2 0 0 0 = Z 100 0 0 0) (gs0 : x3 = 0) {k : wz_K} {R : wz_R} {L : qz_L} (hL : qz_fg [true, true, true, true, false] L = [some (.inr (.inr (some (1, 0, 0)))), some (.inl (i3 x1)), some (.inl (i3 x2)), some (.inl (i3 x3)), none]) {T : qz_Z × Int} (hP : zE T (zl_369_1 x1 x2 ((4400 - x3).toNat + 1) Z x3)) (hk : ∀ (L9 : qz_L) (Z9 : qz_Z) (yx3 : Int), qz_fg [true, true, true, false, false] L9 = [some (.inr (.inr (some (1, 0, 0)))), some (.inl (i3 x1)), some (.inl (i3 x2)), none, none] → zM s Z9 → zC [2, 1200] Zs Z9 → zU [] Zs Z9 → (0 ≤ yx3 ∧ yx3 ≤ 4400) → (yx3 = 0 ∨ Z9 2 0 0 0 = Z9 100 0 0 0) → (4400 ≤ yx3) → zE T ((Z9, yx3)) → k 0 (L9, [], zm Z9 ν)) : wz_loop qb_369_1 65536 k R (L, [], zm Z ν) := by
  subst gs0
  have key : ∀ (m : Nat) (n : Int), 0 ≤ n → n ≤ 4400 → 4400 - n ≤ m → zl_369_1 x1 x2 (m + 1) (zpq Z 100 0 0 0 2 0 0 0 n) n = (zpq Z 100 0 0 0 2 0 0 0 4400, 4400) := by
    intro m
    induction m with
    | zero =>
      intro n h0 h1 h2
      have : n = 4400 := by omega
      subst this
      rfl
    | succ m ih =>
      intro n h0 h1 h2
      by_cases q : 4400 ≤ n
      · have : n = 4400 := by omega
        subst this
        exact if_pos (by decide)
      · have e : zl_369_1 x1 x2 (m + 1 + 1) (zpq Z 100 0 0 0 2 0 0 0 n) n = zl_369_1 x1 x2 (m + 1) (zu (zpq Z 100 0 0 0 2 0 0 0 n) 2 0 0 n (zpq Z 100 0 0 0 2 0 0 0 n 100 0 0 n)) (n + 1) := if_neg q
        rw [e, ← zpq_s (by decide) h0 (by omega) (by omega)]
        exact ih (n + 1) (by omega) (by omega) (by omega)
  have hT := key 4400 0 (by omega) (by omega) (by omega)
  rw [zpq_0] at hT
  replace hP : zE T (zpq Z 100 0 0 0 2 0 0 0 4400, 4400) := hP.trans hT
  refine wz_lp sb_369_1 (fun m x => ∃ n : Int, qz_fg [true, true, true, true, false] x.1 = [some (.inr (.inr (some (1, 0, 0)))), some (.inl (i3 x1)), some (.inl (i3 x2)), some (.inl (i3 n)), none] ∧ x.2 = ([], zm (zpq Z 100 0 0 0 2 0 0 0 n) ν) ∧ 0 ≤ n ∧ n ≤ 4400 ∧ m = (4400 - n).toNat) ?_ 65536 4400 _ (by omega) ⟨0, hL, by rw [zpq_0], by omega, by omega, by omega⟩
  clear hL
  rintro m ⟨L, st, μ⟩ ⟨n, hL, hx, h0, h1, hm⟩
  cases hx
  refine fb_369_1 (i3 x1) (i3 x2) (i3 n) _ _ _ _ hL ?_
  refine wz_br (i3Le (show (4400 : Int32) = i3 4400 from rfl) (rfl : i3 n = i3 n) (by omega) (by omega) (by omega) (by omega)) (fun q => ?_) (fun q => ?_)
  · have hn : n = 4400 := by omega
    subst hn
    exact hk _ _ 4400 (zconso rfl (zconso (zvo (rfl : i3 x1 = i3 x1)) (zconso (zvo (rfl : i3 x2 = i3 x2)) (zconso rfl (zconso rfl rfl))))) (zM_pq hZ (c := 0) (c1 := 0) (by decide) (by decide) (by omega) (by omega) rfl) (zC_pq hK (fun j => (show [2, 1200].contains (if j = 0 then 1200 else 2) = true by split <;> rfl))) (zU_pq hU rfl) (by omega) (.inr ((show zpq Z 100 0 0 0 2 0 0 0 4400 2 0 0 0 = Z 100 0 0 0 from rfl).trans (zpq_ne (by decide)).symm)) (by omega) hP
  · refine wz_i0 (i3O (n := 4400) (rfl : i3 n = i3 n) (by omega) (by omega) (by omega)) ?_
    refine wz_i0 (i3O (n := 4400) (rfl : i3 n = i3 n) (by omega) (by omega) (by omega)) ?_
    obtain ⟨Z2, hZ2⟩ := zx (zpq Z 100 0 0 0 2 0 0 0 (n + 1))
    have hz := hZ2.trans (zpq_s (by decide) h0 (by omega : n = 0 + n) (by omega : n = 0 + n))
    intro μ9 e9
    replace e9 := e9.trans (zm_wI (ν := ν) hz (show ((0 : Nat) : Int) = 0 from rfl) (show ((0 : Nat) : Int) = 0 from rfl) (i3I (y := n) (rfl : i3 n = i3 n) (by omega) (by omega) (by omega)) (zm_rd (ν := ν) (k := 100) (show ((0 : Nat) : Int) = 0 from rfl) (show ((0 : Nat) : Int) = 0 from rfl) (i3I (y := n) (rfl : i3 n = i3 n) (by omega) (by omega) (by omega))))
    subst e9
    obtain ⟨m2, rfl⟩ : ∃ m2, m = m2 + 1 := ⟨m - 1, by omega⟩
    exact wz_k1 ⟨m2, by omega, n + 1, (zconso rfl (zconso (zvo (rfl : i3 x1 = i3 x1)) (zconso (zvo (rfl : i3 x2 = i3 x2)) (zconso (zvo (i3A (rfl : i3 n = i3 n) (show (1 : Int32) = i3 1 from rfl))) (zconso rfl rfl))))), by rw [hZ2], by omega, by omega, by omega⟩
/- yX12_iSearch -/
def zl_369_2 (x1 : Int) (x2 : Int) : Nat → qz_Z → Int → Int → qz_Z × Int × Int
  | 0, Z, x3, x4 => (Z, x3, x4)
  | m + 1, Z, x3, x4 => (if 3 ≤ x4 then (Z, x3, x4) else (zlet (zu Z 2 0 0 0 ((Z 2 0 0 0) + 1)) (fun Z3 => (zlet (zf_471 Z3) (fun Z4 => (zlet (zf_373 Z4 x2 x4) (fun v5 => (zlet2 (zf_365 Z4 x1 v5) (fun Z6 v7 => zl_369_2 x1 x2 m Z6 (w3 (x3 + v7)) (x4 + 1))))))))))
theorem sl_369_2 {s : zSM} {xM9 : Nat} {Zs Z : qz_Z} {ν : qz_N} (hZ : zM (zb s xM9) Z) (hM : s.2 + 24304 ≤ 1000000000) (hK : zC [2, 1200] Zs Z) {x1 : Int} (gx1 : 0 ≤ x1 ∧ x1 ≤ 1) {x2 : Int} (gx2 : 111 ≤ x2 ∧ x2 ≤ 777) {x3 : Int} (gx3 : -2147483648 ≤ x3 ∧ x3 ≤ 2147483647) {x4 : Int} (gx4 : 0 ≤ x4 ∧ x4 ≤ 3) (hU : zU [] Zs Z) (hx9 : xM9 + 6076 * ((3 - x4).toNat) + 6076 ≤ 24304) (gr0 : Z 2 0 0 0 ≤ 668 + x4) {k : wz_K} {R : wz_R} {L : qz_L} (hL : qz_fg [true, true, true, true, true] L = [some (.inr (.inr (some (1, 0, 0)))), some (.inl (i3 x1)), some (.inl (i3 x2)), some (.inl (i3 x3)), some (.inl (i3 x4))]) {T : qz_Z × Int × Int} (hP : zE T (zl_369_2 x1 x2 ((3 - x4).toNat + 1) Z x3 x4)) (hk : ∀ (L9 : qz_L) (Z9 : qz_Z) (yx3 yx4 : Int), qz_fg [false, false, false, true, false] L9 = [none, none, none, some (.inl (i3 yx3)), none] → zM (zb s 24304) Z9 → zC [2, 1200] Zs Z9 → zU [] Zs Z9 → (-2147483648 ≤ yx3 ∧ yx3 ≤ 2147483647) → (0 ≤ yx4 ∧ yx4 ≤ 3) → (Z9 2 0 0 0 ≤ 668 + yx4) → zE T ((Z9, yx3, yx4)) → k 0 (L9, [], zm Z9 ν)) : wz_loop qb_369_2 65536 k R (L, [], zm Z ν) := by
  refine wz_lp sb_369_2 (fun m x => ∃ xM9 : Nat, ∃ Z : qz_Z, ∃ x3 : Int, ∃ x4 : Int, qz_fg [true, true, true, true, true] x.1 = [some (.inr (.inr (some (1, 0, 0)))), some (.inl (i3 x1)), some (.inl (i3 x2)), some (.inl (i3 x3)), some (.inl (i3 x4))] ∧ x.2 = ([], zm Z ν) ∧ xM9 + 6076 * m + 6076 ≤ 24304 ∧ zM (zb s xM9) Z ∧ zC [2, 1200] Zs Z ∧ zU [] Zs Z ∧ m = (3 - x4).toNat ∧ (-2147483648 ≤ x3 ∧ x3 ≤ 2147483647) ∧ (0 ≤ x4 ∧ x4 ≤ 3) ∧ (Z 2 0 0 0 ≤ 668 + x4) ∧ zE T (zl_369_2 x1 x2 (m + 1) Z x3 x4)) ?_ 65536 ((3 - x4).toNat) _ (by omega) ⟨xM9, Z, x3, x4, hL, rfl, hx9, hZ, hK, hU, rfl, gx3, gx4, gr0, hP⟩
  clear hP gr0 gx3 gx4 hx9 hZ hK hU hL
  clear x3 x4
  clear Z
  clear xM9
  rintro m ⟨L, st, μ⟩ ⟨xM9, Z, x3, x4, hL, hx, hx9, hZ, hK, hU, hm, gx3, gx4, gr0, hP⟩
  cases hx
  have hM9 : (zb s xM9).2 + 6076 ≤ 1000000000 := by
    show s.2 + xM9 + 6076 ≤ 1000000000
    omega
  refine fb_369_2 (i3 x1) (i3 x2) (i3 x3) (i3 x4) _ _ _ _ hL ?_
  have r1 := zM_k hZ 2 0 0 0 (lo := 0) (hi := 671) (by decide) rfl
  refine wz_br (i3Le (show (3 : Int32) = i3 3 from rfl) (rfl : i3 x4 = i3 x4) (by omega) (by omega) (by omega) (by omega)) (fun h2 => ?_) (fun h2 => ?_)
  · replace hP := zE_p hP h2
    exact hk _ _ _ _ (zconso rfl (zconso rfl (zconso rfl (zconso (zvo (rfl : i3 x3 = i3 x3)) (zconso rfl rfl))))) (zmx0 hZ (by omega)) hK hU (by omega) (by omega) (by omega) hP
  · replace hP := zE_n hP h2
    obtain ⟨Z3, hZ3⟩ := zx (zu Z 2 0 0 0 ((Z 2 0 0 0) + 1))
    replace hP := zl_e hP hZ3
    have hZ3I := zM_u2 hZ hZ3 (lo := 0) (hi := 671) rfl (by omega) ⟨by decide, by decide⟩ (by simp only [zsp]; omega)
    have hZ3U : zU [] Zs Z3 := zU_u hU hZ3 (Or.inl rfl)
    have hZ3K : zC [2, 1200] Zs Z3 := zC_u hK hZ3 (by decide)
    intro μ9 e9
    replace e9 := e9.trans (zm_wI (Z := Z) (ν := ν) hZ3 (show ((0 : Nat) : Int) = 0 from rfl) (show ((0 : Nat) : Int) = 0 from rfl) (show ((0 : Nat) : Int) = 0 from rfl) (i3A (zm_rd (Z := Z) (ν := ν) (k := 2) (show ((0 : Nat) : Int) = 0 from rfl) (show ((0 : Nat) : Int) = 0 from rfl) (show ((0 : Nat) : Int) = 0 from rfl)) (show (1 : Int32) = i3 1 from rfl)))
    subst e9
    obtain ⟨Z4, hZ4, c9, hZ4I, kZ4, jZ4⟩ := sp_471 (ν := ν) hZ3I (zbh (c := 0) (k := 0) hM9 (Nat.le_of_ble_eq_true rfl))
    have hZ4U : zU [] Zs Z4 := zU_t hZ3U jZ4 zU_b0
    have hZ4K : zC [2, 1200] Zs Z4 := zC_t hZ3K kZ4 (by decide)
    replace hP := zl_e hP hZ4
    refine wz_cV_of (zas (zcons rfl rfl) c9) ?_
    clear c9
    obtain ⟨v5, hv5, c9, lv5, uv5⟩ := sp_373 (ν := ν) hZ4I (a0 := x2) (by omega) (a1 := x4) (by omega) (zbh (c := 0) (k := 0) hM9 (Nat.le_of_ble_eq_true rfl))
    replace hP := zl_e hP hv5
    refine wz_cI_of (zas (zcons (zvi (rfl : i3 x2 = i3 x2)) (zcons (zvi (rfl : i3 x4 = i3 x4)) rfl)) c9) ?_
    clear c9
    obtain ⟨Z6, v7, hv7, c9, hZ6I, kZ6, jZ6, lv7, uv7⟩ := sp_365 (ν := ν) hZ4I (a1 := x1) (by omega) (a2 := v5) (by omega) (zbh (c := 0) (k := 6076) hM9 (Nat.le_of_ble_eq_true rfl))
    have hZ6U : zU [] Zs Z6 := zU_t hZ4U jZ6 zU_b0
    have hZ6K : zC [2, 1200] Zs Z6 := zC_t hZ4K kZ6 (by decide)
    replace hP := zl_e2 hP hv7
    refine wz_cI_of (zas (zcons rfl (zcons (zvi (rfl : i3 x1 = i3 x1)) (zcons (zvi (rfl : i3 v5 = i3 v5)) rfl))) c9) ?_
    clear c9 hv7
    have r8 := w3_r (x3 + v7)
    have r9 := zM_k hZ6I 2 0 0 0 (lo := 0) (hi := 671) (by decide) rfl
    have q10 := (kZ6 2 0 0 0 (by decide)).trans ((kZ4 2 0 0 0 (by decide)).trans (zu_at hZ3))
    obtain ⟨m2, rfl⟩ : ∃ m2, m = m2 + 1 := ⟨m - 1, by omega⟩
    exact wz_k1 ⟨m2, by omega, xM9 + 6076, Z6, (w3 (x3 + v7)), (x4 + 1), (zconso rfl (zconso (zvo (rfl : i3 x1 = i3 x1)) (zconso (zvo (rfl : i3 x2 = i3 x2)) (zconso (zvo (i3W (i3A (rfl : i3 x3 = i3 x3) (rfl : i3 v7 = i3 v7)))) (zconso (zvo (i3A (rfl : i3 x4 = i3 x4) (show (1 : Int32) = i3 1 from rfl))) rfl))))), rfl, by omega, (zmt hZ6I rfl), hZ6K, hZ6U, by omega, by omega, by omega, by omega,  hP⟩
/- yX12_iSearch -/
def zf_369 (Z : qz_Z) (a1 : Int) (a2 : Int) : qz_Z × Int := (zlet2 (zl_369_1 a1 a2 4401 Z 0) (fun Z3 y2 => (zlet3 (zl_369_2 a1 a2 4 Z3 0 0) (fun Z11 y9 y10 => (Z11, y9)))))
theorem sp_369 {s : zSM} {Z : qz_Z} {ν : qz_N} (hZ : zM s Z) {a1 : Int} (ga1 : 0 ≤ a1 ∧ a1 ≤ 1) {a2 : Int} (ga2 : 111 ≤ a2 ∧ a2 ≤ 777) (gx0 : Z 100 0 0 0 ≤ 668) (hM : s.2 + 24304 ≤ 1000000000) : ∃ (Z1 : qz_Z) (P : Int), (Z1, P) = zf_369 Z a1 a2 ∧ (qf_369 [.inr (.inr (some (1, 0, 0))), .inl (i3 a1), .inl (i3 a2)] (zm Z ν) = some (zm Z1 ν, .inl (some (.inl (i3 P)))) ∧ zM (zb s 24304) Z1 ∧ zC [2, 1200] Z Z1 ∧ zU [] Z Z1 ∧ -2147483648 ≤ P ∧ P ≤ 2147483647) := by
  obtain ⟨P, hP⟩ := zx (zf_369 Z a1 a2)
  refine zc_W (Q := fun Z1 P => zM (zb s 24304) Z1 ∧ zC [2, 1200] Z Z1 ∧ zU [] Z Z1 ∧ -2147483648 ≤ P ∧ P ≤ 2147483647) hP (fw_369 (i3 a1) (i3 a2) _ _ ?_)
  replace hP : zE P (zf_369 Z a1 a2) := hP
  unfold zf_369 at hP
  have r1 := zM_f hZ 100 0 0 0
  have r4 := zM_k hZ 2 0 0 0 (lo := 0) (hi := 671) (by decide) rfl
  refine sl_369_1 (ν := ν) hZ (zbh (c := 0) (k := 0) hM (Nat.le_of_ble_eq_true rfl)) zC_r (x1 := a1) (by omega) (x2 := a2) (by omega) (x3 := 0) (by omega) zU_r (by omega) (by omega) (zconso rfl (zconso (zvo (rfl : i3 a1 = i3 a1)) (zconso (zvo (rfl : i3 a2 = i3 a2)) (zconso (zvo (show (0 : Int32) = i3 0 from rfl)) (zconso rfl rfl))))) rfl ?_
  intro L5 Z3 y2 hL5 hZ3I kZ3 jZ3 gy2 gL5_0 gL5_1 q9
  replace hP := zl_e2 hP (Eq.symm q9)
  clear q9
  have hZ3U : zU [] Z Z3 := zU_t zU_r jZ3 zU_b0
  have hZ3K : zC [2, 1200] Z Z3 := zC_t zC_r kZ3 (by decide)
  have r6 := zM_k hZ3I 2 0 0 0 (lo := 0) (hi := 671) (by decide) rfl
  have r7 := zM_f hZ3I 100 0 0 0
  have q8 := kZ3 100 0 0 0 (by decide)
  refine fc_369_4 (i3 a1) (i3 a2) _ _ _ _ hL5 ?_
  refine sl_369_2 (ν := ν) (zm0 hZ3I) (zbh (c := 0) (k := 24304) hM (Nat.le_of_ble_eq_true rfl)) (xM9 := 0) zC_r (x1 := a1) (by omega) (x2 := a2) (by omega) (x3 := 0) (by omega) (x4 := 0) (by omega) zU_r (Nat.le_of_ble_eq_true rfl) (by omega) (zconso rfl (zconso (zvo (rfl : i3 a1 = i3 a1)) (zconso (zvo (rfl : i3 a2 = i3 a2)) (zconso (zvo (show (0 : Int32) = i3 0 from rfl)) (zconso (zvo (show (0 : Int32) = i3 0 from rfl)) rfl))))) rfl ?_
  intro L12 Z11 y9 y10 hL12 hZ11I kZ11 jZ11 gy9 gy10 gL12_0 q9
  replace hP := zl_e3 hP (Eq.symm q9)
  clear q9
  have hZ11U : zU [] Z Z11 := zU_t hZ3U jZ11 zU_b0
  have hZ11K : zC [2, 1200] Z Z11 := zC_t hZ3K kZ11 (by decide)
  have r13 := zM_k hZ11I 2 0 0 0 (lo := 0) (hi := 671) (by decide) rfl
  refine fc_369_3 (i3 y9) _ _ _ _ hL12 ?_
  exact zlW hP (rfl : i3 y9 = i3 y9) ⟨hZ11I, hZ11K, hZ11U, by omega, by omega⟩
/- yX12_iFindMost -/
def zl_356_1 (x1 : Int) : Nat → qz_Z → Int → qz_Z × Int
  | 0, Z, x3 => (Z, x3)
  | m + 1, Z, x3 => (if 4400 ≤ x3 then (Z, x3) else (zlet (zu Z 100 0 0 x3 (Z 2 0 0 x3)) (fun Z5 => zl_356_1 x1 m Z5 (x3 + 1))))
theorem sl_356_1 {s : zSM} {Zs Z : qz_Z} {ν : qz_N} (hZ : zM s Z) (hM : s.2 + 0 ≤ 1000000000) (hK : zC [100] Zs Z) {x1 : Int} (gx1 : 0 ≤ x1 ∧ x1 ≤ 1) {x3 : Int} (gx3 : 0 ≤ x3 ∧ x3 ≤ 4400) (hU : zU [] Zs Z) (gr0 : x3 = 0 ∨ Z 100 0 0 0 = Z 2 0 0 0) (gs0 : x3 = 0) {k : wz_K} {R : wz_R} {L : qz_L} (hL : qz_fg [true, true, false, true, false, false, false] L = [some (.inr (.inr (some (1, 0, 0)))), some (.inl (i3 x1)), none, some (.inl (i3 x3)), none, none, none]) {T : qz_Z × Int} (hP : zE T (zl_356_1 x1 ((4400 - x3).toNat + 1) Z x3)) (hk : ∀ (L9 : qz_L) (Z9 : qz_Z) (yx3 : Int), qz_fg [true, true, false, false, false, false, false] L9 = [some (.inr (.inr (some (1, 0, 0)))), some (.inl (i3 x1)), none, none, none, none, none] → zM s Z9 → zC [100] Zs Z9 → zU [] Zs Z9 → (0 ≤ yx3 ∧ yx3 ≤ 4400) → (yx3 = 0 ∨ Z9 100 0 0 0 = Z9 2 0 0 0) → (4400 ≤ yx3) → zE T ((Z9, yx3)) → k 0 (L9, [], zm Z9 ν)) : wz_loop qb_356_1 65536 k R (L, [], zm Z ν) := by
  subst gs0
  have key : ∀ (m : Nat) (n : Int), 0 ≤ n → n ≤ 4400 → 4400 - n ≤ m → zl_356_1 x1 (m + 1) (zpq Z 2 0 0 0 100 0 0 0 n) n = (zpq Z 2 0 0 0 100 0 0 0 4400, 4400) := by
    intro m
    induction m with
    | zero =>
      intro n h0 h1 h2
      have : n = 4400 := by omega
      subst this
      rfl
    | succ m ih =>
      intro n h0 h1 h2
      by_cases q : 4400 ≤ n
      · have : n = 4400 := by omega
        subst this
        exact if_pos (by decide)
      · have e : zl_356_1 x1 (m + 1 + 1) (zpq Z 2 0 0 0 100 0 0 0 n) n = zl_356_1 x1 (m + 1) (zu (zpq Z 2 0 0 0 100 0 0 0 n) 100 0 0 n (zpq Z 2 0 0 0 100 0 0 0 n 2 0 0 n)) (n + 1) := if_neg q
        rw [e, ← zpq_s (by decide) h0 (by omega) (by omega)]
        exact ih (n + 1) (by omega) (by omega) (by omega)
  have hT := key 4400 0 (by omega) (by omega) (by omega)
  rw [zpq_0] at hT
  replace hP : zE T (zpq Z 2 0 0 0 100 0 0 0 4400, 4400) := hP.trans hT
  refine wz_lp sb_356_1 (fun m x => ∃ n : Int, qz_fg [true, true, false, true, false, false, false] x.1 = [some (.inr (.inr (some (1, 0, 0)))), some (.inl (i3 x1)), none, some (.inl (i3 n)), none, none, none] ∧ x.2 = ([], zm (zpq Z 2 0 0 0 100 0 0 0 n) ν) ∧ 0 ≤ n ∧ n ≤ 4400 ∧ m = (4400 - n).toNat) ?_ 65536 4400 _ (by omega) ⟨0, hL, by rw [zpq_0], by omega, by omega, by omega⟩
  clear hL
  rintro m ⟨L, st, μ⟩ ⟨n, hL, hx, h0, h1, hm⟩
  cases hx
  refine fb_356_1 (i3 x1) (i3 n) _ _ _ _ hL ?_
  refine wz_br (i3Le (show (4400 : Int32) = i3 4400 from rfl) (rfl : i3 n = i3 n) (by omega) (by omega) (by omega) (by omega)) (fun q => ?_) (fun q => ?_)
  · have hn : n = 4400 := by omega
    subst hn
    exact hk _ _ 4400 (zconso rfl (zconso (zvo (rfl : i3 x1 = i3 x1)) (zconso rfl (zconso rfl (zconso rfl (zconso rfl (zconso rfl rfl))))))) (zM_pq hZ (c := 0) (c1 := 0) (by decide) (by decide) (by omega) (by omega) rfl) (zC_pq hK (fun j => rfl)) (zU_pq hU rfl) (by omega) (.inr ((show zpq Z 2 0 0 0 100 0 0 0 4400 100 0 0 0 = Z 2 0 0 0 from rfl).trans (zpq_ne (by decide)).symm)) (by omega) hP
  · refine wz_i0 (i3O (n := 4400) (rfl : i3 n = i3 n) (by omega) (by omega) (by omega)) ?_
    refine wz_i0 (i3O (n := 4400) (rfl : i3 n = i3 n) (by omega) (by omega) (by omega)) ?_
    obtain ⟨Z2, hZ2⟩ := zx (zpq Z 2 0 0 0 100 0 0 0 (n + 1))
    have hz := hZ2.trans (zpq_s (by decide) h0 (by omega : n = 0 + n) (by omega : n = 0 + n))
    intro μ9 e9
    replace e9 := e9.trans (zm_wI (ν := ν) hz (show ((0 : Nat) : Int) = 0 from rfl) (show ((0 : Nat) : Int) = 0 from rfl) (i3I (y := n) (rfl : i3 n = i3 n) (by omega) (by omega) (by omega)) (zm_rd (ν := ν) (k := 2) (show ((0 : Nat) : Int) = 0 from rfl) (show ((0 : Nat) : Int) = 0 from rfl) (i3I (y := n) (rfl : i3 n = i3 n) (by omega) (by omega) (by omega))))
    subst e9
    obtain ⟨m2, rfl⟩ : ∃ m2, m = m2 + 1 := ⟨m - 1, by omega⟩
    exact wz_k1 ⟨m2, by omega, n + 1, (zconso rfl (zconso (zvo (rfl : i3 x1 = i3 x1)) (zconso rfl (zconso (zvo (i3A (rfl : i3 n = i3 n) (show (1 : Int32) = i3 1 from rfl))) (zconso rfl (zconso rfl (zconso rfl rfl))))))), by rw [hZ2], by omega, by omega, by omega⟩
/- yX12_iFindMost -/
def zl_356_2 (x1 : Int) (x3 : Int) : Nat → qz_Z → Int → qz_Z × Int
  | 0, Z, x4 => (Z, x4)
  | m + 1, Z, x4 => (if ((x3 * x3) * x3) ≤ x4 then (Z, x4) else (if (Z 2 0 0 1200) ≤ ((x4 / x3) / x3) then (if (Z 2 0 0 1200) ≤ ((x4 / x3) % x3) then (if (Z 2 0 0 1200) ≤ (x4 % x3) then (zlet2 (zf_369 Z x1 777) (fun Z13 v14 => (if v14 ≤ (Z13 1 0 0 31) then zl_356_2 x1 x3 m Z13 (x4 + 1) else (zlet (zu Z13 1 0 0 31 v14) (fun Z19 => (zlet (zu Z19 1 0 0 32 777) (fun Z20 => zl_356_2 x1 x3 m Z20 (x4 + 1)))))))) else (zlet2 (zf_369 Z x1 (770 + ((x4 % x3) + 1))) (fun Z23 v24 => (if v24 ≤ (Z23 1 0 0 31) then zl_356_2 x1 x3 m Z23 (x4 + 1) else (zlet (zu Z23 1 0 0 31 v24) (fun Z29 => (zlet (zu Z29 1 0 0 32 (770 + ((x4 % x3) + 1))) (fun Z30 => zl_356_2 x1 x3 m Z30 (x4 + 1))))))))) else (if (Z 2 0 0 1200) ≤ (x4 % x3) then (zlet2 (zf_369 Z x1 ((700 + (10 * (((x4 / x3) % x3) + 1))) + 7)) (fun Z35 v36 => (if v36 ≤ (Z35 1 0 0 31) then zl_356_2 x1 x3 m Z35 (x4 + 1) else (zlet (zu Z35 1 0 0 31 v36) (fun Z41 => (zlet (zu Z41 1 0 0 32 ((700 + (10 * (((x4 / x3) % x3) + 1))) + 7)) (fun Z42 => zl_356_2 x1 x3 m Z42 (x4 + 1)))))))) else (zlet2 (zf_369 Z x1 ((700 + (10 * (((x4 / x3) % x3) + 1))) + ((x4 % x3) + 1))) (fun Z45 v46 => (if v46 ≤ (Z45 1 0 0 31) then zl_356_2 x1 x3 m Z45 (x4 + 1) else (zlet (zu Z45 1 0 0 31 v46) (fun Z51 => (zlet (zu Z51 1 0 0 32 ((700 + (10 * (((x4 / x3) % x3) + 1))) + ((x4 % x3) + 1))) (fun Z52 => zl_356_2 x1 x3 m Z52 (x4 + 1)))))))))) else (if (Z 2 0 0 1200) ≤ ((x4 / x3) % x3) then (if (Z 2 0 0 1200) ≤ (x4 % x3) then (zlet2 (zf_369 Z x1 (((100 * (((x4 / x3) / x3) + 1)) + 70) + 7)) (fun Z59 v60 => (if v60 ≤ (Z59 1 0 0 31) then zl_356_2 x1 x3 m Z59 (x4 + 1) else (zlet (zu Z59 1 0 0 31 v60) (fun Z65 => (zlet (zu Z65 1 0 0 32 (((100 * (((x4 / x3) / x3) + 1)) + 70) + 7)) (fun Z66 => zl_356_2 x1 x3 m Z66 (x4 + 1)))))))) else (zlet2 (zf_369 Z x1 (((100 * (((x4 / x3) / x3) + 1)) + 70) + ((x4 % x3) + 1))) (fun Z69 v70 => (if v70 ≤ (Z69 1 0 0 31) then zl_356_2 x1 x3 m Z69 (x4 + 1) else (zlet (zu Z69 1 0 0 31 v70) (fun Z75 => (zlet (zu Z75 1 0 0 32 (((100 * (((x4 / x3) / x3) + 1)) + 70) + ((x4 % x3) + 1))) (fun Z76 => zl_356_2 x1 x3 m Z76 (x4 + 1))))))))) else (if (Z 2 0 0 1200) ≤ (x4 % x3) then (zlet2 (zf_369 Z x1 (((100 * (((x4 / x3) / x3) + 1)) + (10 * (((x4 / x3) % x3) + 1))) + 7)) (fun Z81 v82 => (if v82 ≤ (Z81 1 0 0 31) then zl_356_2 x1 x3 m Z81 (x4 + 1) else (zlet (zu Z81 1 0 0 31 v82) (fun Z87 => (zlet (zu Z87 1 0 0 32 (((100 * (((x4 / x3) / x3) + 1)) + (10 * (((x4 / x3) % x3) + 1))) + 7)) (fun Z88 => zl_356_2 x1 x3 m Z88 (x4 + 1)))))))) else (zlet2 (zf_369 Z x1 (((100 * (((x4 / x3) / x3) + 1)) + (10 * (((x4 / x3) % x3) + 1))) + ((x4 % x3) + 1))) (fun Z91 v92 => (if v92 ≤ (Z91 1 0 0 31) then zl_356_2 x1 x3 m Z91 (x4 + 1) else (zlet (zu Z91 1 0 0 31 v92) (fun Z97 => (zlet (zu Z97 1 0 0 32 (((100 * (((x4 / x3) / x3) + 1)) + (10 * (((x4 / x3) % x3) + 1))) + ((x4 % x3) + 1))) (fun Z98 => zl_356_2 x1 x3 m Z98 (x4 + 1))))))))))))
theorem sl_356_2 {s : zSM} {xM9 : Nat} {Zs Z : qz_Z} {ν : qz_N} (hZ : zM (zb s xM9) Z) (hM : s.2 + 8360576 ≤ 1000000000) (hK : zC [1, 2, 1200] Zs Z) {x1 : Int} (gx1 : 0 ≤ x1 ∧ x1 ≤ 1) {x3 : Int} (gx3 : 1 ≤ x3 ∧ x3 ≤ 7) {x4 : Int} (gx4 : 0 ≤ x4 ∧ x4 ≤ 343) (hU : zU [] Zs Z) (hx9 : xM9 + 24304 * ((343 - x4).toNat) + 24304 ≤ 8360576) (gr0 : Z 100 0 0 0 ≤ 668) {k : wz_K} {R : wz_R} {L : qz_L} (hL : qz_fg [true, true, false, true, true, false, false] L = [some (.inr (.inr (some (1, 0, 0)))), some (.inl (i3 x1)), none, some (.inl (i3 x3)), some (.inl (i3 x4)), none, none]) {T : qz_Z × Int} (hP : zE T (zl_356_2 x1 x3 ((343 - x4).toNat + 1) Z x4)) (hk : ∀ (L9 : qz_L) (Z9 : qz_Z) (yx4 : Int), qz_fg [true, false, false, false, false, false, false] L9 = [some (.inr (.inr (some (1, 0, 0)))), none, none, none, none, none, none] → zM (zb s 8360576) Z9 → zC [1, 2, 1200] Zs Z9 → zU [] Zs Z9 → (0 ≤ yx4 ∧ yx4 ≤ 343) → (Z9 100 0 0 0 ≤ 668) → zE T ((Z9, yx4)) → k 0 (L9, [], zm Z9 ν)) : wz_loop qb_356_2 65536 k R (L, [], zm Z ν) := by
  refine wz_lp sb_356_2 (fun m x => ∃ xM9 : Nat, ∃ Z : qz_Z, ∃ x4 : Int, qz_fg [true, true, false, true, true, false, false] x.1 = [some (.inr (.inr (some (1, 0, 0)))), some (.inl (i3 x1)), none, some (.inl (i3 x3)), some (.inl (i3 x4)), none, none] ∧ x.2 = ([], zm Z ν) ∧ xM9 + 24304 * m + 24304 ≤ 8360576 ∧ zM (zb s xM9) Z ∧ zC [1, 2, 1200] Zs Z ∧ zU [] Zs Z ∧ m = (343 - x4).toNat ∧ (0 ≤ x4 ∧ x4 ≤ 343) ∧ (Z 100 0 0 0 ≤ 668) ∧ zE T (zl_356_2 x1 x3 (m + 1) Z x4)) ?_ 65536 ((343 - x4).toNat) _ (by omega) ⟨xM9, Z, x4, hL, rfl, hx9, hZ, hK, hU, rfl, gx4, gr0, hP⟩
  clear hP gr0 gx4 hx9 hZ hK hU hL
  clear x4
  clear Z
  clear xM9
  rintro m ⟨L, st, μ⟩ ⟨xM9, Z, x4, hL, hx, hx9, hZ, hK, hU, hm, gx4, gr0, hP⟩
  cases hx
  have hM9 : (zb s xM9).2 + 24304 ≤ 1000000000 := by
    show s.2 + xM9 + 24304 ≤ 1000000000
    omega
  refine fb_356_2 (i3 x1) (i3 x3) (i3 x4) _ _ _ _ hL ?_
  have r1 := zM_f hZ 100 0 0 0
  have r2 := z_mul (x := x3) (y := x3) (a := 7) (b := 7) (by omega) (by omega) (by omega) (by omega)
  have r3 := z_mul (x := (x3 * x3)) (y := x3) (a := 49) (b := 7) (by omega) (by omega) (by omega) (by omega)
  refine wz_br (i3Le (i3M (i3M (rfl : i3 x3 = i3 x3) (rfl : i3 x3 = i3 x3)) (rfl : i3 x3 = i3 x3)) (rfl : i3 x4 = i3 x4) (by omega) (by omega) (by omega) (by omega)) (fun h4 => ?_) (fun h4 => ?_)
  · replace hP := zE_p hP h4
    exact hk _ _ _ (zconso rfl (zconso rfl (zconso rfl (zconso rfl (zconso rfl (zconso rfl (zconso rfl rfl))))))) (zmx0 hZ (by omega)) hK hU (by omega) (by omega) hP
  · replace hP := zE_n hP h4
    refine wz_i0 (i3N0 (rfl : i3 x3 = i3 x3) (by omega) (by omega) (by omega)) ?_
    refine wz_i0 (i3N0 (rfl : i3 x3 = i3 x3) (by omega) (by omega) (by omega)) ?_
    have r5 := zM_k hZ 2 0 0 1200 (lo := 0) (hi := 6) (by decide) rfl
    have r6 := z_div (x := x4) (y := x3) (by omega) (by omega)
    have r7 := z_div (x := (x4 / x3)) (y := x3) (by omega) (by omega)
    refine wz_br (i3Le (zm_rd (Z := Z) (ν := ν) (k := 2) (show ((0 : Nat) : Int) = 0 from rfl) (show ((0 : Nat) : Int) = 0 from rfl) (show ((1200 : Nat) : Int) = 1200 from rfl)) (i3D (i3D (rfl : i3 x4 = i3 x4) (rfl : i3 x3 = i3 x3) (by omega) (by omega) (by omega) (by omega)) (rfl : i3 x3 = i3 x3) (by omega) (by omega) (by omega) (by omega)) (by omega) (by omega) (by omega) (by omega)) (fun h8 => ?_) (fun h8 => ?_)
    · replace hP := zE_p hP h8
      refine wz_i0 (i3N0 (rfl : i3 x3 = i3 x3) (by omega) (by omega) (by omega)) ?_
      refine wz_i0 (i3N0 (rfl : i3 x3 = i3 x3) (by omega) (by omega) (by omega)) ?_
      have r9 := z_mod (x4 / x3) (y := x3) (by omega)
      refine wz_br (i3Le (zm_rd (Z := Z) (ν := ν) (k := 2) (show ((0 : Nat) : Int) = 0 from rfl) (show ((0 : Nat) : Int) = 0 from rfl) (show ((1200 : Nat) : Int) = 1200 from rfl)) (i3R (i3D (rfl : i3 x4 = i3 x4) (rfl : i3 x3 = i3 x3) (by omega) (by omega) (by omega) (by omega)) (rfl : i3 x3 = i3 x3) (by omega) (by omega) (by omega) (by omega)) (by omega) (by omega) (by omega) (by omega)) (fun h10 => ?_) (fun h10 => ?_)
      · replace hP := zE_p hP h10
        refine wz_i0 (i3N0 (rfl : i3 x3 = i3 x3) (by omega) (by omega) (by omega)) ?_
        have r11 := z_mod x4 (y := x3) (by omega)
        refine wz_br (i3Le (zm_rd (Z := Z) (ν := ν) (k := 2) (show ((0 : Nat) : Int) = 0 from rfl) (show ((0 : Nat) : Int) = 0 from rfl) (show ((1200 : Nat) : Int) = 1200 from rfl)) (i3R (rfl : i3 x4 = i3 x4) (rfl : i3 x3 = i3 x3) (by omega) (by omega) (by omega) (by omega)) (by omega) (by omega) (by omega) (by omega)) (fun h12 => ?_) (fun h12 => ?_)
        · replace hP := zE_p hP h12
          obtain ⟨Z13, v14, hv14, c9, hZ13I, kZ13, jZ13, lv14, uv14⟩ := sp_369 (ν := ν) hZ (a1 := x1) (by omega) (a2 := 777) (by omega) (by omega) (zbh (c := 0) (k := 24304) hM9 (Nat.le_of_ble_eq_true rfl))
          have hZ13U : zU [] Zs Z13 := zU_t hU jZ13 zU_b0
          have hZ13K : zC [1, 2, 1200] Zs Z13 := zC_t hK kZ13 (by decide)
          replace hP := zl_e2 hP hv14
          refine wz_cI_of (zas (zcons rfl (zcons (zvi (rfl : i3 x1 = i3 x1)) (zcons (zvi (show (777 : Int32) = i3 777 from rfl)) rfl))) c9) ?_
          clear c9 hv14
          have r15 := zM_f hZ13I 1 0 0 31
          refine wz_br (i3Le (rfl : i3 v14 = i3 v14) (zm_rd (Z := Z13) (ν := ν) (k := 1) (show ((0 : Nat) : Int) = 0 from rfl) (show ((0 : Nat) : Int) = 0 from rfl) (show ((31 : Nat) : Int) = 31 from rfl)) (by omega) (by omega) (by omega) (by omega)) (fun h16 => ?_) (fun h16 => ?_)
          · replace hP := zE_p hP h16
            have r17 := zM_f hZ13I 100 0 0 0
            have q18 := kZ13 100 0 0 0 (by decide)
            obtain ⟨m2, rfl⟩ : ∃ m2, m = m2 + 1 := ⟨m - 1, by omega⟩
            exact wz_k1 ⟨m2, by omega, xM9 + 24304, Z13, (x4 + 1), (zconso rfl (zconso (zvo (rfl : i3 x1 = i3 x1)) (zconso rfl (zconso (zvo (rfl : i3 x3 = i3 x3)) (zconso (zvo (i3A (rfl : i3 x4 = i3 x4) (show (1 : Int32) = i3 1 from rfl))) (zconso rfl (zconso rfl rfl))))))), rfl, by omega, (zmt hZ13I rfl), hZ13K, hZ13U, by omega, by omega, by omega,  hP⟩
          · replace hP := zE_n hP h16
            obtain ⟨Z19, hZ19⟩ := zx (zu Z13 1 0 0 31 v14)
            replace hP := zl_e hP hZ19
            have hZ19I := zM_u hZ13I hZ19 (lo := -2147483648) (hi := 2147483647) (by decide) rfl (by omega) ⟨by decide, by decide⟩ (Or.inr (by decide)) rfl
            have hZ19U : zU [] Zs Z19 := zU_u hZ13U hZ19 (Or.inl rfl)
            have hZ19K : zC [1, 2, 1200] Zs Z19 := zC_u hZ13K hZ19 (by decide)
            intro μ9 e9
            replace e9 := e9.trans (zm_wI (Z := Z13) (ν := ν) hZ19 (show ((0 : Nat) : Int) = 0 from rfl) (show ((0 : Nat) : Int) = 0 from rfl) (show ((31 : Nat) : Int) = 31 from rfl) (rfl : i3 v14 = i3 v14))
            subst e9
            obtain ⟨Z20, hZ20⟩ := zx (zu Z19 1 0 0 32 777)
            replace hP := zl_e hP hZ20
            have hZ20I := zM_u hZ19I hZ20 (lo := -2147483648) (hi := 2147483647) (by decide) rfl (by omega) ⟨by decide, by decide⟩ (Or.inr (by decide)) rfl
            have hZ20U : zU [] Zs Z20 := zU_u hZ19U hZ20 (Or.inl rfl)
            have hZ20K : zC [1, 2, 1200] Zs Z20 := zC_u hZ19K hZ20 (by decide)
            intro μ9 e9
            replace e9 := e9.trans (zm_wI (Z := Z19) (ν := ν) hZ20 (show ((0 : Nat) : Int) = 0 from rfl) (show ((0 : Nat) : Int) = 0 from rfl) (show ((32 : Nat) : Int) = 32 from rfl) (show (777 : Int32) = i3 777 from rfl))
            subst e9
            have r21 := zM_f hZ20I 100 0 0 0
            have q22 := (zu_ne (k' := 100) (b' := 0) (i' := 0) (j' := 0) hZ20 (fun q => absurd q.1 (by decide))).trans ((zu_ne (k' := 100) (b' := 0) (i' := 0) (j' := 0) hZ19 (fun q => absurd q.1 (by decide))).trans (kZ13 100 0 0 0 (by decide)))
            obtain ⟨m2, rfl⟩ : ∃ m2, m = m2 + 1 := ⟨m - 1, by omega⟩
            exact wz_k1 ⟨m2, by omega, xM9 + 24304, Z20, (x4 + 1), (zconso rfl (zconso (zvo (rfl : i3 x1 = i3 x1)) (zconso rfl (zconso (zvo (rfl : i3 x3 = i3 x3)) (zconso (zvo (i3A (rfl : i3 x4 = i3 x4) (show (1 : Int32) = i3 1 from rfl))) (zconso rfl (zconso rfl rfl))))))), rfl, by omega, (zmt hZ20I rfl), hZ20K, hZ20U, by omega, by omega, by omega,  hP⟩
        · replace hP := zE_n hP h12
          obtain ⟨Z23, v24, hv24, c9, hZ23I, kZ23, jZ23, lv24, uv24⟩ := sp_369 (ν := ν) hZ (a1 := x1) (by omega) (a2 := (770 + ((x4 % x3) + 1))) (by omega) (by omega) (zbh (c := 0) (k := 24304) hM9 (Nat.le_of_ble_eq_true rfl))
          have hZ23U : zU [] Zs Z23 := zU_t hU jZ23 zU_b0
          have hZ23K : zC [1, 2, 1200] Zs Z23 := zC_t hK kZ23 (by decide)
          replace hP := zl_e2 hP hv24
          refine wz_cI_of (zas (zcons rfl (zcons (zvi (rfl : i3 x1 = i3 x1)) (zcons (zvi (i3A (show (770 : Int32) = i3 770 from rfl) (i3A (i3R (rfl : i3 x4 = i3 x4) (rfl : i3 x3 = i3 x3) (by omega) (by omega) (by omega) (by omega)) (show (1 : Int32) = i3 1 from rfl)))) rfl))) c9) ?_
          clear c9 hv24
          have r25 := zM_f hZ23I 1 0 0 31
          refine wz_br (i3Le (rfl : i3 v24 = i3 v24) (zm_rd (Z := Z23) (ν := ν) (k := 1) (show ((0 : Nat) : Int) = 0 from rfl) (show ((0 : Nat) : Int) = 0 from rfl) (show ((31 : Nat) : Int) = 31 from rfl)) (by omega) (by omega) (by omega) (by omega)) (fun h26 => ?_) (fun h26 => ?_)
          · replace hP := zE_p hP h26
            have r27 := zM_f hZ23I 100 0 0 0
            have q28 := kZ23 100 0 0 0 (by decide)
            obtain ⟨m2, rfl⟩ : ∃ m2, m = m2 + 1 := ⟨m - 1, by omega⟩
            exact wz_k1 ⟨m2, by omega, xM9 + 24304, Z23, (x4 + 1), (zconso rfl (zconso (zvo (rfl : i3 x1 = i3 x1)) (zconso rfl (zconso (zvo (rfl : i3 x3 = i3 x3)) (zconso (zvo (i3A (rfl : i3 x4 = i3 x4) (show (1 : Int32) = i3 1 from rfl))) (zconso rfl (zconso rfl rfl))))))), rfl, by omega, (zmt hZ23I rfl), hZ23K, hZ23U, by omega, by omega, by omega,  hP⟩
          · replace hP := zE_n hP h26
            obtain ⟨Z29, hZ29⟩ := zx (zu Z23 1 0 0 31 v24)
            replace hP := zl_e hP hZ29
            have hZ29I := zM_u hZ23I hZ29 (lo := -2147483648) (hi := 2147483647) (by decide) rfl (by omega) ⟨by decide, by decide⟩ (Or.inr (by decide)) rfl
            have hZ29U : zU [] Zs Z29 := zU_u hZ23U hZ29 (Or.inl rfl)
            have hZ29K : zC [1, 2, 1200] Zs Z29 := zC_u hZ23K hZ29 (by decide)
            intro μ9 e9
            replace e9 := e9.trans (zm_wI (Z := Z23) (ν := ν) hZ29 (show ((0 : Nat) : Int) = 0 from rfl) (show ((0 : Nat) : Int) = 0 from rfl) (show ((31 : Nat) : Int) = 31 from rfl) (rfl : i3 v24 = i3 v24))
            subst e9
            obtain ⟨Z30, hZ30⟩ := zx (zu Z29 1 0 0 32 (770 + ((x4 % x3) + 1)))
            replace hP := zl_e hP hZ30
            have hZ30I := zM_u hZ29I hZ30 (lo := -2147483648) (hi := 2147483647) (by decide) rfl (by omega) ⟨by decide, by decide⟩ (Or.inr (by decide)) rfl
            have hZ30U : zU [] Zs Z30 := zU_u hZ29U hZ30 (Or.inl rfl)
            have hZ30K : zC [1, 2, 1200] Zs Z30 := zC_u hZ29K hZ30 (by decide)
            intro μ9 e9
            replace e9 := e9.trans (zm_wI (Z := Z29) (ν := ν) hZ30 (show ((0 : Nat) : Int) = 0 from rfl) (show ((0 : Nat) : Int) = 0 from rfl) (show ((32 : Nat) : Int) = 32 from rfl) (i3A (show (770 : Int32) = i3 770 from rfl) (i3A (i3R (rfl : i3 x4 = i3 x4) (rfl : i3 x3 = i3 x3) (by omega) (by omega) (by omega) (by omega)) (show (1 : Int32) = i3 1 from rfl))))
            subst e9
            have r31 := zM_f hZ30I 100 0 0 0
            have q32 := (zu_ne (k' := 100) (b' := 0) (i' := 0) (j' := 0) hZ30 (fun q => absurd q.1 (by decide))).trans ((zu_ne (k' := 100) (b' := 0) (i' := 0) (j' := 0) hZ29 (fun q => absurd q.1 (by decide))).trans (kZ23 100 0 0 0 (by decide)))
            obtain ⟨m2, rfl⟩ : ∃ m2, m = m2 + 1 := ⟨m - 1, by omega⟩
            exact wz_k1 ⟨m2, by omega, xM9 + 24304, Z30, (x4 + 1), (zconso rfl (zconso (zvo (rfl : i3 x1 = i3 x1)) (zconso rfl (zconso (zvo (rfl : i3 x3 = i3 x3)) (zconso (zvo (i3A (rfl : i3 x4 = i3 x4) (show (1 : Int32) = i3 1 from rfl))) (zconso rfl (zconso rfl rfl))))))), rfl, by omega, (zmt hZ30I rfl), hZ30K, hZ30U, by omega, by omega, by omega,  hP⟩
      · replace hP := zE_n hP h10
        refine wz_i0 (i3N0 (rfl : i3 x3 = i3 x3) (by omega) (by omega) (by omega)) ?_
        have r33 := z_mod x4 (y := x3) (by omega)
        refine wz_br (i3Le (zm_rd (Z := Z) (ν := ν) (k := 2) (show ((0 : Nat) : Int) = 0 from rfl) (show ((0 : Nat) : Int) = 0 from rfl) (show ((1200 : Nat) : Int) = 1200 from rfl)) (i3R (rfl : i3 x4 = i3 x4) (rfl : i3 x3 = i3 x3) (by omega) (by omega) (by omega) (by omega)) (by omega) (by omega) (by omega) (by omega)) (fun h34 => ?_) (fun h34 => ?_)
        · replace hP := zE_p hP h34
          obtain ⟨Z35, v36, hv36, c9, hZ35I, kZ35, jZ35, lv36, uv36⟩ := sp_369 (ν := ν) hZ (a1 := x1) (by omega) (a2 := ((700 + (10 * (((x4 / x3) % x3) + 1))) + 7)) (by omega) (by omega) (zbh (c := 0) (k := 24304) hM9 (Nat.le_of_ble_eq_true rfl))
          have hZ35U : zU [] Zs Z35 := zU_t hU jZ35 zU_b0
          have hZ35K : zC [1, 2, 1200] Zs Z35 := zC_t hK kZ35 (by decide)
          replace hP := zl_e2 hP hv36
          refine wz_cI_of (zas (zcons rfl (zcons (zvi (rfl : i3 x1 = i3 x1)) (zcons (zvi (i3A (i3A (show (700 : Int32) = i3 700 from rfl) (i3M (show (10 : Int32) = i3 10 from rfl) (i3A (i3R (i3D (rfl : i3 x4 = i3 x4) (rfl : i3 x3 = i3 x3) (by omega) (by omega) (by omega) (by omega)) (rfl : i3 x3 = i3 x3) (by omega) (by omega) (by omega) (by omega)) (show (1 : Int32) = i3 1 from rfl)))) (show (7 : Int32) = i3 7 from rfl))) rfl))) c9) ?_
          clear c9 hv36
          have r37 := zM_f hZ35I 1 0 0 31
          refine wz_br (i3Le (rfl : i3 v36 = i3 v36) (zm_rd (Z := Z35) (ν := ν) (k := 1) (show ((0 : Nat) : Int) = 0 from rfl) (show ((0 : Nat) : Int) = 0 from rfl) (show ((31 : Nat) : Int) = 31 from rfl)) (by omega) (by omega) (by omega) (by omega)) (fun h38 => ?_) (fun h38 => ?_)
          · replace hP := zE_p hP h38
            have r39 := zM_f hZ35I 100 0 0 0
            have q40 := kZ35 100 0 0 0 (by decide)
            obtain ⟨m2, rfl⟩ : ∃ m2, m = m2 + 1 := ⟨m - 1, by omega⟩
            exact wz_k1 ⟨m2, by omega, xM9 + 24304, Z35, (x4 + 1), (zconso rfl (zconso (zvo (rfl : i3 x1 = i3 x1)) (zconso rfl (zconso (zvo (rfl : i3 x3 = i3 x3)) (zconso (zvo (i3A (rfl : i3 x4 = i3 x4) (show (1 : Int32) = i3 1 from rfl))) (zconso rfl (zconso rfl rfl))))))), rfl, by omega, (zmt hZ35I rfl), hZ35K, hZ35U, by omega, by omega, by omega,  hP⟩
          · replace hP := zE_n hP h38
            obtain ⟨Z41, hZ41⟩ := zx (zu Z35 1 0 0 31 v36)
            replace hP := zl_e hP hZ41
            have hZ41I := zM_u hZ35I hZ41 (lo := -2147483648) (hi := 2147483647) (by decide) rfl (by omega) ⟨by decide, by decide⟩ (Or.inr (by decide)) rfl
            have hZ41U : zU [] Zs Z41 := zU_u hZ35U hZ41 (Or.inl rfl)
            have hZ41K : zC [1, 2, 1200] Zs Z41 := zC_u hZ35K hZ41 (by decide)
            intro μ9 e9
            replace e9 := e9.trans (zm_wI (Z := Z35) (ν := ν) hZ41 (show ((0 : Nat) : Int) = 0 from rfl) (show ((0 : Nat) : Int) = 0 from rfl) (show ((31 : Nat) : Int) = 31 from rfl) (rfl : i3 v36 = i3 v36))
            subst e9
            obtain ⟨Z42, hZ42⟩ := zx (zu Z41 1 0 0 32 ((700 + (10 * (((x4 / x3) % x3) + 1))) + 7))
            replace hP := zl_e hP hZ42
            have hZ42I := zM_u hZ41I hZ42 (lo := -2147483648) (hi := 2147483647) (by decide) rfl (by omega) ⟨by decide, by decide⟩ (Or.inr (by decide)) rfl
            have hZ42U : zU [] Zs Z42 := zU_u hZ41U hZ42 (Or.inl rfl)
            have hZ42K : zC [1, 2, 1200] Zs Z42 := zC_u hZ41K hZ42 (by decide)
            intro μ9 e9
            replace e9 := e9.trans (zm_wI (Z := Z41) (ν := ν) hZ42 (show ((0 : Nat) : Int) = 0 from rfl) (show ((0 : Nat) : Int) = 0 from rfl) (show ((32 : Nat) : Int) = 32 from rfl) (i3A (i3A (show (700 : Int32) = i3 700 from rfl) (i3M (show (10 : Int32) = i3 10 from rfl) (i3A (i3R (i3D (rfl : i3 x4 = i3 x4) (rfl : i3 x3 = i3 x3) (by omega) (by omega) (by omega) (by omega)) (rfl : i3 x3 = i3 x3) (by omega) (by omega) (by omega) (by omega)) (show (1 : Int32) = i3 1 from rfl)))) (show (7 : Int32) = i3 7 from rfl)))
            subst e9
            have r43 := zM_f hZ42I 100 0 0 0
            have q44 := (zu_ne (k' := 100) (b' := 0) (i' := 0) (j' := 0) hZ42 (fun q => absurd q.1 (by decide))).trans ((zu_ne (k' := 100) (b' := 0) (i' := 0) (j' := 0) hZ41 (fun q => absurd q.1 (by decide))).trans (kZ35 100 0 0 0 (by decide)))
            obtain ⟨m2, rfl⟩ : ∃ m2, m = m2 + 1 := ⟨m - 1, by omega⟩
            exact wz_k1 ⟨m2, by omega, xM9 + 24304, Z42, (x4 + 1), (zconso rfl (zconso (zvo (rfl : i3 x1 = i3 x1)) (zconso rfl (zconso (zvo (rfl : i3 x3 = i3 x3)) (zconso (zvo (i3A (rfl : i3 x4 = i3 x4) (show (1 : Int32) = i3 1 from rfl))) (zconso rfl (zconso rfl rfl))))))), rfl, by omega, (zmt hZ42I rfl), hZ42K, hZ42U, by omega, by omega, by omega,  hP⟩
        · replace hP := zE_n hP h34
          obtain ⟨Z45, v46, hv46, c9, hZ45I, kZ45, jZ45, lv46, uv46⟩ := sp_369 (ν := ν) hZ (a1 := x1) (by omega) (a2 := ((700 + (10 * (((x4 / x3) % x3) + 1))) + ((x4 % x3) + 1))) (by omega) (by omega) (zbh (c := 0) (k := 24304) hM9 (Nat.le_of_ble_eq_true rfl))
          have hZ45U : zU [] Zs Z45 := zU_t hU jZ45 zU_b0
          have hZ45K : zC [1, 2, 1200] Zs Z45 := zC_t hK kZ45 (by decide)
          replace hP := zl_e2 hP hv46
          refine wz_cI_of (zas (zcons rfl (zcons (zvi (rfl : i3 x1 = i3 x1)) (zcons (zvi (i3A (i3A (show (700 : Int32) = i3 700 from rfl) (i3M (show (10 : Int32) = i3 10 from rfl) (i3A (i3R (i3D (rfl : i3 x4 = i3 x4) (rfl : i3 x3 = i3 x3) (by omega) (by omega) (by omega) (by omega)) (rfl : i3 x3 = i3 x3) (by omega) (by omega) (by omega) (by omega)) (show (1 : Int32) = i3 1 from rfl)))) (i3A (i3R (rfl : i3 x4 = i3 x4) (rfl : i3 x3 = i3 x3) (by omega) (by omega) (by omega) (by omega)) (show (1 : Int32) = i3 1 from rfl)))) rfl))) c9) ?_
          clear c9 hv46
          have r47 := zM_f hZ45I 1 0 0 31
          refine wz_br (i3Le (rfl : i3 v46 = i3 v46) (zm_rd (Z := Z45) (ν := ν) (k := 1) (show ((0 : Nat) : Int) = 0 from rfl) (show ((0 : Nat) : Int) = 0 from rfl) (show ((31 : Nat) : Int) = 31 from rfl)) (by omega) (by omega) (by omega) (by omega)) (fun h48 => ?_) (fun h48 => ?_)
          · replace hP := zE_p hP h48
            have r49 := zM_f hZ45I 100 0 0 0
            have q50 := kZ45 100 0 0 0 (by decide)
            obtain ⟨m2, rfl⟩ : ∃ m2, m = m2 + 1 := ⟨m - 1, by omega⟩
            exact wz_k1 ⟨m2, by omega, xM9 + 24304, Z45, (x4 + 1), (zconso rfl (zconso (zvo (rfl : i3 x1 = i3 x1)) (zconso rfl (zconso (zvo (rfl : i3 x3 = i3 x3)) (zconso (zvo (i3A (rfl : i3 x4 = i3 x4) (show (1 : Int32) = i3 1 from rfl))) (zconso rfl (zconso rfl rfl))))))), rfl, by omega, (zmt hZ45I rfl), hZ45K, hZ45U, by omega, by omega, by omega,  hP⟩
          · replace hP := zE_n hP h48
            obtain ⟨Z51, hZ51⟩ := zx (zu Z45 1 0 0 31 v46)
            replace hP := zl_e hP hZ51
            have hZ51I := zM_u hZ45I hZ51 (lo := -2147483648) (hi := 2147483647) (by decide) rfl (by omega) ⟨by decide, by decide⟩ (Or.inr (by decide)) rfl
            have hZ51U : zU [] Zs Z51 := zU_u hZ45U hZ51 (Or.inl rfl)
            have hZ51K : zC [1, 2, 1200] Zs Z51 := zC_u hZ45K hZ51 (by decide)
            intro μ9 e9
            replace e9 := e9.trans (zm_wI (Z := Z45) (ν := ν) hZ51 (show ((0 : Nat) : Int) = 0 from rfl) (show ((0 : Nat) : Int) = 0 from rfl) (show ((31 : Nat) : Int) = 31 from rfl) (rfl : i3 v46 = i3 v46))
            subst e9
            obtain ⟨Z52, hZ52⟩ := zx (zu Z51 1 0 0 32 ((700 + (10 * (((x4 / x3) % x3) + 1))) + ((x4 % x3) + 1)))
            replace hP := zl_e hP hZ52
            have hZ52I := zM_u hZ51I hZ52 (lo := -2147483648) (hi := 2147483647) (by decide) rfl (by omega) ⟨by decide, by decide⟩ (Or.inr (by decide)) rfl
            have hZ52U : zU [] Zs Z52 := zU_u hZ51U hZ52 (Or.inl rfl)
            have hZ52K : zC [1, 2, 1200] Zs Z52 := zC_u hZ51K hZ52 (by decide)
            intro μ9 e9
            replace e9 := e9.trans (zm_wI (Z := Z51) (ν := ν) hZ52 (show ((0 : Nat) : Int) = 0 from rfl) (show ((0 : Nat) : Int) = 0 from rfl) (show ((32 : Nat) : Int) = 32 from rfl) (i3A (i3A (show (700 : Int32) = i3 700 from rfl) (i3M (show (10 : Int32) = i3 10 from rfl) (i3A (i3R (i3D (rfl : i3 x4 = i3 x4) (rfl : i3 x3 = i3 x3) (by omega) (by omega) (by omega) (by omega)) (rfl : i3 x3 = i3 x3) (by omega) (by omega) (by omega) (by omega)) (show (1 : Int32) = i3 1 from rfl)))) (i3A (i3R (rfl : i3 x4 = i3 x4) (rfl : i3 x3 = i3 x3) (by omega) (by omega) (by omega) (by omega)) (show (1 : Int32) = i3 1 from rfl))))
            subst e9
            have r53 := zM_f hZ52I 100 0 0 0
            have q54 := (zu_ne (k' := 100) (b' := 0) (i' := 0) (j' := 0) hZ52 (fun q => absurd q.1 (by decide))).trans ((zu_ne (k' := 100) (b' := 0) (i' := 0) (j' := 0) hZ51 (fun q => absurd q.1 (by decide))).trans (kZ45 100 0 0 0 (by decide)))
            obtain ⟨m2, rfl⟩ : ∃ m2, m = m2 + 1 := ⟨m - 1, by omega⟩
            exact wz_k1 ⟨m2, by omega, xM9 + 24304, Z52, (x4 + 1), (zconso rfl (zconso (zvo (rfl : i3 x1 = i3 x1)) (zconso rfl (zconso (zvo (rfl : i3 x3 = i3 x3)) (zconso (zvo (i3A (rfl : i3 x4 = i3 x4) (show (1 : Int32) = i3 1 from rfl))) (zconso rfl (zconso rfl rfl))))))), rfl, by omega, (zmt hZ52I rfl), hZ52K, hZ52U, by omega, by omega, by omega,  hP⟩
    · replace hP := zE_n hP h8
      refine wz_i0 (i3N0 (rfl : i3 x3 = i3 x3) (by omega) (by omega) (by omega)) ?_
      refine wz_i0 (i3N0 (rfl : i3 x3 = i3 x3) (by omega) (by omega) (by omega)) ?_
      have r55 := z_mod (x4 / x3) (y := x3) (by omega)
      refine wz_br (i3Le (zm_rd (Z := Z) (ν := ν) (k := 2) (show ((0 : Nat) : Int) = 0 from rfl) (show ((0 : Nat) : Int) = 0 from rfl) (show ((1200 : Nat) : Int) = 1200 from rfl)) (i3R (i3D (rfl : i3 x4 = i3 x4) (rfl : i3 x3 = i3 x3) (by omega) (by omega) (by omega) (by omega)) (rfl : i3 x3 = i3 x3) (by omega) (by omega) (by omega) (by omega)) (by omega) (by omega) (by omega) (by omega)) (fun h56 => ?_) (fun h56 => ?_)
      · replace hP := zE_p hP h56
        refine wz_i0 (i3N0 (rfl : i3 x3 = i3 x3) (by omega) (by omega) (by omega)) ?_
        have r57 := z_mod x4 (y := x3) (by omega)
        refine wz_br (i3Le (zm_rd (Z := Z) (ν := ν) (k := 2) (show ((0 : Nat) : Int) = 0 from rfl) (show ((0 : Nat) : Int) = 0 from rfl) (show ((1200 : Nat) : Int) = 1200 from rfl)) (i3R (rfl : i3 x4 = i3 x4) (rfl : i3 x3 = i3 x3) (by omega) (by omega) (by omega) (by omega)) (by omega) (by omega) (by omega) (by omega)) (fun h58 => ?_) (fun h58 => ?_)
        · replace hP := zE_p hP h58
          obtain ⟨Z59, v60, hv60, c9, hZ59I, kZ59, jZ59, lv60, uv60⟩ := sp_369 (ν := ν) hZ (a1 := x1) (by omega) (a2 := (((100 * (((x4 / x3) / x3) + 1)) + 70) + 7)) (by omega) (by omega) (zbh (c := 0) (k := 24304) hM9 (Nat.le_of_ble_eq_true rfl))
          have hZ59U : zU [] Zs Z59 := zU_t hU jZ59 zU_b0
          have hZ59K : zC [1, 2, 1200] Zs Z59 := zC_t hK kZ59 (by decide)
          replace hP := zl_e2 hP hv60
          refine wz_cI_of (zas (zcons rfl (zcons (zvi (rfl : i3 x1 = i3 x1)) (zcons (zvi (i3A (i3A (i3M (show (100 : Int32) = i3 100 from rfl) (i3A (i3D (i3D (rfl : i3 x4 = i3 x4) (rfl : i3 x3 = i3 x3) (by omega) (by omega) (by omega) (by omega)) (rfl : i3 x3 = i3 x3) (by omega) (by omega) (by omega) (by omega)) (show (1 : Int32) = i3 1 from rfl))) (show (70 : Int32) = i3 70 from rfl)) (show (7 : Int32) = i3 7 from rfl))) rfl))) c9) ?_
          clear c9 hv60
          have r61 := zM_f hZ59I 1 0 0 31
          refine wz_br (i3Le (rfl : i3 v60 = i3 v60) (zm_rd (Z := Z59) (ν := ν) (k := 1) (show ((0 : Nat) : Int) = 0 from rfl) (show ((0 : Nat) : Int) = 0 from rfl) (show ((31 : Nat) : Int) = 31 from rfl)) (by omega) (by omega) (by omega) (by omega)) (fun h62 => ?_) (fun h62 => ?_)
          · replace hP := zE_p hP h62
            have r63 := zM_f hZ59I 100 0 0 0
            have q64 := kZ59 100 0 0 0 (by decide)
            obtain ⟨m2, rfl⟩ : ∃ m2, m = m2 + 1 := ⟨m - 1, by omega⟩
            exact wz_k1 ⟨m2, by omega, xM9 + 24304, Z59, (x4 + 1), (zconso rfl (zconso (zvo (rfl : i3 x1 = i3 x1)) (zconso rfl (zconso (zvo (rfl : i3 x3 = i3 x3)) (zconso (zvo (i3A (rfl : i3 x4 = i3 x4) (show (1 : Int32) = i3 1 from rfl))) (zconso rfl (zconso rfl rfl))))))), rfl, by omega, (zmt hZ59I rfl), hZ59K, hZ59U, by omega, by omega, by omega,  hP⟩
          · replace hP := zE_n hP h62
            obtain ⟨Z65, hZ65⟩ := zx (zu Z59 1 0 0 31 v60)
            replace hP := zl_e hP hZ65
            have hZ65I := zM_u hZ59I hZ65 (lo := -2147483648) (hi := 2147483647) (by decide) rfl (by omega) ⟨by decide, by decide⟩ (Or.inr (by decide)) rfl
            have hZ65U : zU [] Zs Z65 := zU_u hZ59U hZ65 (Or.inl rfl)
            have hZ65K : zC [1, 2, 1200] Zs Z65 := zC_u hZ59K hZ65 (by decide)
            intro μ9 e9
            replace e9 := e9.trans (zm_wI (Z := Z59) (ν := ν) hZ65 (show ((0 : Nat) : Int) = 0 from rfl) (show ((0 : Nat) : Int) = 0 from rfl) (show ((31 : Nat) : Int) = 31 from rfl) (rfl : i3 v60 = i3 v60))
            subst e9
            obtain ⟨Z66, hZ66⟩ := zx (zu Z65 1 0 0 32 (((100 * (((x4 / x3) / x3) + 1)) + 70) + 7))
            replace hP := zl_e hP hZ66
            have hZ66I := zM_u hZ65I hZ66 (lo := -2147483648) (hi := 2147483647) (by decide) rfl (by omega) ⟨by decide, by decide⟩ (Or.inr (by decide)) rfl
            have hZ66U : zU [] Zs Z66 := zU_u hZ65U hZ66 (Or.inl rfl)
            have hZ66K : zC [1, 2, 1200] Zs Z66 := zC_u hZ65K hZ66 (by decide)
            intro μ9 e9
            replace e9 := e9.trans (zm_wI (Z := Z65) (ν := ν) hZ66 (show ((0 : Nat) : Int) = 0 from rfl) (show ((0 : Nat) : Int) = 0 from rfl) (show ((32 : Nat) : Int) = 32 from rfl) (i3A (i3A (i3M (show (100 : Int32) = i3 100 from rfl) (i3A (i3D (i3D (rfl : i3 x4 = i3 x4) (rfl : i3 x3 = i3 x3) (by omega) (by omega) (by omega) (by omega)) (rfl : i3 x3 = i3 x3) (by omega) (by omega) (by omega) (by omega)) (show (1 : Int32) = i3 1 from rfl))) (show (70 : Int32) = i3 70 from rfl)) (show (7 : Int32) = i3 7 from rfl)))
            subst e9
            have r67 := zM_f hZ66I 100 0 0 0
            have q68 := (zu_ne (k' := 100) (b' := 0) (i' := 0) (j' := 0) hZ66 (fun q => absurd q.1 (by decide))).trans ((zu_ne (k' := 100) (b' := 0) (i' := 0) (j' := 0) hZ65 (fun q => absurd q.1 (by decide))).trans (kZ59 100 0 0 0 (by decide)))
            obtain ⟨m2, rfl⟩ : ∃ m2, m = m2 + 1 := ⟨m - 1, by omega⟩
            exact wz_k1 ⟨m2, by omega, xM9 + 24304, Z66, (x4 + 1), (zconso rfl (zconso (zvo (rfl : i3 x1 = i3 x1)) (zconso rfl (zconso (zvo (rfl : i3 x3 = i3 x3)) (zconso (zvo (i3A (rfl : i3 x4 = i3 x4) (show (1 : Int32) = i3 1 from rfl))) (zconso rfl (zconso rfl rfl))))))), rfl, by omega, (zmt hZ66I rfl), hZ66K, hZ66U, by omega, by omega, by omega,  hP⟩
        · replace hP := zE_n hP h58
          obtain ⟨Z69, v70, hv70, c9, hZ69I, kZ69, jZ69, lv70, uv70⟩ := sp_369 (ν := ν) hZ (a1 := x1) (by omega) (a2 := (((100 * (((x4 / x3) / x3) + 1)) + 70) + ((x4 % x3) + 1))) (by omega) (by omega) (zbh (c := 0) (k := 24304) hM9 (Nat.le_of_ble_eq_true rfl))
          have hZ69U : zU [] Zs Z69 := zU_t hU jZ69 zU_b0
          have hZ69K : zC [1, 2, 1200] Zs Z69 := zC_t hK kZ69 (by decide)
          replace hP := zl_e2 hP hv70
          refine wz_cI_of (zas (zcons rfl (zcons (zvi (rfl : i3 x1 = i3 x1)) (zcons (zvi (i3A (i3A (i3M (show (100 : Int32) = i3 100 from rfl) (i3A (i3D (i3D (rfl : i3 x4 = i3 x4) (rfl : i3 x3 = i3 x3) (by omega) (by omega) (by omega) (by omega)) (rfl : i3 x3 = i3 x3) (by omega) (by omega) (by omega) (by omega)) (show (1 : Int32) = i3 1 from rfl))) (show (70 : Int32) = i3 70 from rfl)) (i3A (i3R (rfl : i3 x4 = i3 x4) (rfl : i3 x3 = i3 x3) (by omega) (by omega) (by omega) (by omega)) (show (1 : Int32) = i3 1 from rfl)))) rfl))) c9) ?_
          clear c9 hv70
          have r71 := zM_f hZ69I 1 0 0 31
          refine wz_br (i3Le (rfl : i3 v70 = i3 v70) (zm_rd (Z := Z69) (ν := ν) (k := 1) (show ((0 : Nat) : Int) = 0 from rfl) (show ((0 : Nat) : Int) = 0 from rfl) (show ((31 : Nat) : Int) = 31 from rfl)) (by omega) (by omega) (by omega) (by omega)) (fun h72 => ?_) (fun h72 => ?_)
          · replace hP := zE_p hP h72
            have r73 := zM_f hZ69I 100 0 0 0
            have q74 := kZ69 100 0 0 0 (by decide)
            obtain ⟨m2, rfl⟩ : ∃ m2, m = m2 + 1 := ⟨m - 1, by omega⟩
            exact wz_k1 ⟨m2, by omega, xM9 + 24304, Z69, (x4 + 1), (zconso rfl (zconso (zvo (rfl : i3 x1 = i3 x1)) (zconso rfl (zconso (zvo (rfl : i3 x3 = i3 x3)) (zconso (zvo (i3A (rfl : i3 x4 = i3 x4) (show (1 : Int32) = i3 1 from rfl))) (zconso rfl (zconso rfl rfl))))))), rfl, by omega, (zmt hZ69I rfl), hZ69K, hZ69U, by omega, by omega, by omega,  hP⟩
          · replace hP := zE_n hP h72
            obtain ⟨Z75, hZ75⟩ := zx (zu Z69 1 0 0 31 v70)
            replace hP := zl_e hP hZ75
            have hZ75I := zM_u hZ69I hZ75 (lo := -2147483648) (hi := 2147483647) (by decide) rfl (by omega) ⟨by decide, by decide⟩ (Or.inr (by decide)) rfl
            have hZ75U : zU [] Zs Z75 := zU_u hZ69U hZ75 (Or.inl rfl)
            have hZ75K : zC [1, 2, 1200] Zs Z75 := zC_u hZ69K hZ75 (by decide)
            intro μ9 e9
            replace e9 := e9.trans (zm_wI (Z := Z69) (ν := ν) hZ75 (show ((0 : Nat) : Int) = 0 from rfl) (show ((0 : Nat) : Int) = 0 from rfl) (show ((31 : Nat) : Int) = 31 from rfl) (rfl : i3 v70 = i3 v70))
            subst e9
            obtain ⟨Z76, hZ76⟩ := zx (zu Z75 1 0 0 32 (((100 * (((x4 / x3) / x3) + 1)) + 70) + ((x4 % x3) + 1)))
            replace hP := zl_e hP hZ76
            have hZ76I := zM_u hZ75I hZ76 (lo := -2147483648) (hi := 2147483647) (by decide) rfl (by omega) ⟨by decide, by decide⟩ (Or.inr (by decide)) rfl
            have hZ76U : zU [] Zs Z76 := zU_u hZ75U hZ76 (Or.inl rfl)
            have hZ76K : zC [1, 2, 1200] Zs Z76 := zC_u hZ75K hZ76 (by decide)
            intro μ9 e9
            replace e9 := e9.trans (zm_wI (Z := Z75) (ν := ν) hZ76 (show ((0 : Nat) : Int) = 0 from rfl) (show ((0 : Nat) : Int) = 0 from rfl) (show ((32 : Nat) : Int) = 32 from rfl) (i3A (i3A (i3M (show (100 : Int32) = i3 100 from rfl) (i3A (i3D (i3D (rfl : i3 x4 = i3 x4) (rfl : i3 x3 = i3 x3) (by omega) (by omega) (by omega) (by omega)) (rfl : i3 x3 = i3 x3) (by omega) (by omega) (by omega) (by omega)) (show (1 : Int32) = i3 1 from rfl))) (show (70 : Int32) = i3 70 from rfl)) (i3A (i3R (rfl : i3 x4 = i3 x4) (rfl : i3 x3 = i3 x3) (by omega) (by omega) (by omega) (by omega)) (show (1 : Int32) = i3 1 from rfl))))
            subst e9
            have r77 := zM_f hZ76I 100 0 0 0
            have q78 := (zu_ne (k' := 100) (b' := 0) (i' := 0) (j' := 0) hZ76 (fun q => absurd q.1 (by decide))).trans ((zu_ne (k' := 100) (b' := 0) (i' := 0) (j' := 0) hZ75 (fun q => absurd q.1 (by decide))).trans (kZ69 100 0 0 0 (by decide)))
            obtain ⟨m2, rfl⟩ : ∃ m2, m = m2 + 1 := ⟨m - 1, by omega⟩
            exact wz_k1 ⟨m2, by omega, xM9 + 24304, Z76, (x4 + 1), (zconso rfl (zconso (zvo (rfl : i3 x1 = i3 x1)) (zconso rfl (zconso (zvo (rfl : i3 x3 = i3 x3)) (zconso (zvo (i3A (rfl : i3 x4 = i3 x4) (show (1 : Int32) = i3 1 from rfl))) (zconso rfl (zconso rfl rfl))))))), rfl, by omega, (zmt hZ76I rfl), hZ76K, hZ76U, by omega, by omega, by omega,  hP⟩
      · replace hP := zE_n hP h56
        refine wz_i0 (i3N0 (rfl : i3 x3 = i3 x3) (by omega) (by omega) (by omega)) ?_
        have r79 := z_mod x4 (y := x3) (by omega)
        refine wz_br (i3Le (zm_rd (Z := Z) (ν := ν) (k := 2) (show ((0 : Nat) : Int) = 0 from rfl) (show ((0 : Nat) : Int) = 0 from rfl) (show ((1200 : Nat) : Int) = 1200 from rfl)) (i3R (rfl : i3 x4 = i3 x4) (rfl : i3 x3 = i3 x3) (by omega) (by omega) (by omega) (by omega)) (by omega) (by omega) (by omega) (by omega)) (fun h80 => ?_) (fun h80 => ?_)
        · replace hP := zE_p hP h80
          obtain ⟨Z81, v82, hv82, c9, hZ81I, kZ81, jZ81, lv82, uv82⟩ := sp_369 (ν := ν) hZ (a1 := x1) (by omega) (a2 := (((100 * (((x4 / x3) / x3) + 1)) + (10 * (((x4 / x3) % x3) + 1))) + 7)) (by omega) (by omega) (zbh (c := 0) (k := 24304) hM9 (Nat.le_of_ble_eq_true rfl))
          have hZ81U : zU [] Zs Z81 := zU_t hU jZ81 zU_b0
          have hZ81K : zC [1, 2, 1200] Zs Z81 := zC_t hK kZ81 (by decide)
          replace hP := zl_e2 hP hv82
          refine wz_cI_of (zas (zcons rfl (zcons (zvi (rfl : i3 x1 = i3 x1)) (zcons (zvi (i3A (i3A (i3M (show (100 : Int32) = i3 100 from rfl) (i3A (i3D (i3D (rfl : i3 x4 = i3 x4) (rfl : i3 x3 = i3 x3) (by omega) (by omega) (by omega) (by omega)) (rfl : i3 x3 = i3 x3) (by omega) (by omega) (by omega) (by omega)) (show (1 : Int32) = i3 1 from rfl))) (i3M (show (10 : Int32) = i3 10 from rfl) (i3A (i3R (i3D (rfl : i3 x4 = i3 x4) (rfl : i3 x3 = i3 x3) (by omega) (by omega) (by omega) (by omega)) (rfl : i3 x3 = i3 x3) (by omega) (by omega) (by omega) (by omega)) (show (1 : Int32) = i3 1 from rfl)))) (show (7 : Int32) = i3 7 from rfl))) rfl))) c9) ?_
          clear c9 hv82
          have r83 := zM_f hZ81I 1 0 0 31
          refine wz_br (i3Le (rfl : i3 v82 = i3 v82) (zm_rd (Z := Z81) (ν := ν) (k := 1) (show ((0 : Nat) : Int) = 0 from rfl) (show ((0 : Nat) : Int) = 0 from rfl) (show ((31 : Nat) : Int) = 31 from rfl)) (by omega) (by omega) (by omega) (by omega)) (fun h84 => ?_) (fun h84 => ?_)
          · replace hP := zE_p hP h84
            have r85 := zM_f hZ81I 100 0 0 0
            have q86 := kZ81 100 0 0 0 (by decide)
            obtain ⟨m2, rfl⟩ : ∃ m2, m = m2 + 1 := ⟨m - 1, by omega⟩
            exact wz_k1 ⟨m2, by omega, xM9 + 24304, Z81, (x4 + 1), (zconso rfl (zconso (zvo (rfl : i3 x1 = i3 x1)) (zconso rfl (zconso (zvo (rfl : i3 x3 = i3 x3)) (zconso (zvo (i3A (rfl : i3 x4 = i3 x4) (show (1 : Int32) = i3 1 from rfl))) (zconso rfl (zconso rfl rfl))))))), rfl, by omega, (zmt hZ81I rfl), hZ81K, hZ81U, by omega, by omega, by omega,  hP⟩
          · replace hP := zE_n hP h84
            obtain ⟨Z87, hZ87⟩ := zx (zu Z81 1 0 0 31 v82)
            replace hP := zl_e hP hZ87
            have hZ87I := zM_u hZ81I hZ87 (lo := -2147483648) (hi := 2147483647) (by decide) rfl (by omega) ⟨by decide, by decide⟩ (Or.inr (by decide)) rfl
            have hZ87U : zU [] Zs Z87 := zU_u hZ81U hZ87 (Or.inl rfl)
            have hZ87K : zC [1, 2, 1200] Zs Z87 := zC_u hZ81K hZ87 (by decide)
            intro μ9 e9
            replace e9 := e9.trans (zm_wI (Z := Z81) (ν := ν) hZ87 (show ((0 : Nat) : Int) = 0 from rfl) (show ((0 : Nat) : Int) = 0 from rfl) (show ((31 : Nat) : Int) = 31 from rfl) (rfl : i3 v82 = i3 v82))
            subst e9
            obtain ⟨Z88, hZ88⟩ := zx (zu Z87 1 0 0 32 (((100 * (((x4 / x3) / x3) + 1)) + (10 * (((x4 / x3) % x3) + 1))) + 7))
            replace hP := zl_e hP hZ88
            have hZ88I := zM_u hZ87I hZ88 (lo := -2147483648) (hi := 2147483647) (by decide) rfl (by omega) ⟨by decide, by decide⟩ (Or.inr (by decide)) rfl
            have hZ88U : zU [] Zs Z88 := zU_u hZ87U hZ88 (Or.inl rfl)
            have hZ88K : zC [1, 2, 1200] Zs Z88 := zC_u hZ87K hZ88 (by decide)
            intro μ9 e9
            replace e9 := e9.trans (zm_wI (Z := Z87) (ν := ν) hZ88 (show ((0 : Nat) : Int) = 0 from rfl) (show ((0 : Nat) : Int) = 0 from rfl) (show ((32 : Nat) : Int) = 32 from rfl) (i3A (i3A (i3M (show (100 : Int32) = i3 100 from rfl) (i3A (i3D (i3D (rfl : i3 x4 = i3 x4) (rfl : i3 x3 = i3 x3) (by omega) (by omega) (by omega) (by omega)) (rfl : i3 x3 = i3 x3) (by omega) (by omega) (by omega) (by omega)) (show (1 : Int32) = i3 1 from rfl))) (i3M (show (10 : Int32) = i3 10 from rfl) (i3A (i3R (i3D (rfl : i3 x4 = i3 x4) (rfl : i3 x3 = i3 x3) (by omega) (by omega) (by omega) (by omega)) (rfl : i3 x3 = i3 x3) (by omega) (by omega) (by omega) (by omega)) (show (1 : Int32) = i3 1 from rfl)))) (show (7 : Int32) = i3 7 from rfl)))
            subst e9
            have r89 := zM_f hZ88I 100 0 0 0
            have q90 := (zu_ne (k' := 100) (b' := 0) (i' := 0) (j' := 0) hZ88 (fun q => absurd q.1 (by decide))).trans ((zu_ne (k' := 100) (b' := 0) (i' := 0) (j' := 0) hZ87 (fun q => absurd q.1 (by decide))).trans (kZ81 100 0 0 0 (by decide)))
            obtain ⟨m2, rfl⟩ : ∃ m2, m = m2 + 1 := ⟨m - 1, by omega⟩
            exact wz_k1 ⟨m2, by omega, xM9 + 24304, Z88, (x4 + 1), (zconso rfl (zconso (zvo (rfl : i3 x1 = i3 x1)) (zconso rfl (zconso (zvo (rfl : i3 x3 = i3 x3)) (zconso (zvo (i3A (rfl : i3 x4 = i3 x4) (show (1 : Int32) = i3 1 from rfl))) (zconso rfl (zconso rfl rfl))))))), rfl, by omega, (zmt hZ88I rfl), hZ88K, hZ88U, by omega, by omega, by omega,  hP⟩
        · replace hP := zE_n hP h80
          obtain ⟨Z91, v92, hv92, c9, hZ91I, kZ91, jZ91, lv92, uv92⟩ := sp_369 (ν := ν) hZ (a1 := x1) (by omega) (a2 := (((100 * (((x4 / x3) / x3) + 1)) + (10 * (((x4 / x3) % x3) + 1))) + ((x4 % x3) + 1))) (by omega) (by omega) (zbh (c := 0) (k := 24304) hM9 (Nat.le_of_ble_eq_true rfl))
          have hZ91U : zU [] Zs Z91 := zU_t hU jZ91 zU_b0
          have hZ91K : zC [1, 2, 1200] Zs Z91 := zC_t hK kZ91 (by decide)
          replace hP := zl_e2 hP hv92
          refine wz_cI_of (zas (zcons rfl (zcons (zvi (rfl : i3 x1 = i3 x1)) (zcons (zvi (i3A (i3A (i3M (show (100 : Int32) = i3 100 from rfl) (i3A (i3D (i3D (rfl : i3 x4 = i3 x4) (rfl : i3 x3 = i3 x3) (by omega) (by omega) (by omega) (by omega)) (rfl : i3 x3 = i3 x3) (by omega) (by omega) (by omega) (by omega)) (show (1 : Int32) = i3 1 from rfl))) (i3M (show (10 : Int32) = i3 10 from rfl) (i3A (i3R (i3D (rfl : i3 x4 = i3 x4) (rfl : i3 x3 = i3 x3) (by omega) (by omega) (by omega) (by omega)) (rfl : i3 x3 = i3 x3) (by omega) (by omega) (by omega) (by omega)) (show (1 : Int32) = i3 1 from rfl)))) (i3A (i3R (rfl : i3 x4 = i3 x4) (rfl : i3 x3 = i3 x3) (by omega) (by omega) (by omega) (by omega)) (show (1 : Int32) = i3 1 from rfl)))) rfl))) c9) ?_
          clear c9 hv92
          have r93 := zM_f hZ91I 1 0 0 31
          refine wz_br (i3Le (rfl : i3 v92 = i3 v92) (zm_rd (Z := Z91) (ν := ν) (k := 1) (show ((0 : Nat) : Int) = 0 from rfl) (show ((0 : Nat) : Int) = 0 from rfl) (show ((31 : Nat) : Int) = 31 from rfl)) (by omega) (by omega) (by omega) (by omega)) (fun h94 => ?_) (fun h94 => ?_)
          · replace hP := zE_p hP h94
            have r95 := zM_f hZ91I 100 0 0 0
            have q96 := kZ91 100 0 0 0 (by decide)
            obtain ⟨m2, rfl⟩ : ∃ m2, m = m2 + 1 := ⟨m - 1, by omega⟩
            exact wz_k1 ⟨m2, by omega, xM9 + 24304, Z91, (x4 + 1), (zconso rfl (zconso (zvo (rfl : i3 x1 = i3 x1)) (zconso rfl (zconso (zvo (rfl : i3 x3 = i3 x3)) (zconso (zvo (i3A (rfl : i3 x4 = i3 x4) (show (1 : Int32) = i3 1 from rfl))) (zconso rfl (zconso rfl rfl))))))), rfl, by omega, (zmt hZ91I rfl), hZ91K, hZ91U, by omega, by omega, by omega,  hP⟩
          · replace hP := zE_n hP h94
            obtain ⟨Z97, hZ97⟩ := zx (zu Z91 1 0 0 31 v92)
            replace hP := zl_e hP hZ97
            have hZ97I := zM_u hZ91I hZ97 (lo := -2147483648) (hi := 2147483647) (by decide) rfl (by omega) ⟨by decide, by decide⟩ (Or.inr (by decide)) rfl
            have hZ97U : zU [] Zs Z97 := zU_u hZ91U hZ97 (Or.inl rfl)
            have hZ97K : zC [1, 2, 1200] Zs Z97 := zC_u hZ91K hZ97 (by decide)
            intro μ9 e9
            replace e9 := e9.trans (zm_wI (Z := Z91) (ν := ν) hZ97 (show ((0 : Nat) : Int) = 0 from rfl) (show ((0 : Nat) : Int) = 0 from rfl) (show ((31 : Nat) : Int) = 31 from rfl) (rfl : i3 v92 = i3 v92))
            subst e9
            obtain ⟨Z98, hZ98⟩ := zx (zu Z97 1 0 0 32 (((100 * (((x4 / x3) / x3) + 1)) + (10 * (((x4 / x3) % x3) + 1))) + ((x4 % x3) + 1)))
            replace hP := zl_e hP hZ98
            have hZ98I := zM_u hZ97I hZ98 (lo := -2147483648) (hi := 2147483647) (by decide) rfl (by omega) ⟨by decide, by decide⟩ (Or.inr (by decide)) rfl
            have hZ98U : zU [] Zs Z98 := zU_u hZ97U hZ98 (Or.inl rfl)
            have hZ98K : zC [1, 2, 1200] Zs Z98 := zC_u hZ97K hZ98 (by decide)
            intro μ9 e9
            replace e9 := e9.trans (zm_wI (Z := Z97) (ν := ν) hZ98 (show ((0 : Nat) : Int) = 0 from rfl) (show ((0 : Nat) : Int) = 0 from rfl) (show ((32 : Nat) : Int) = 32 from rfl) (i3A (i3A (i3M (show (100 : Int32) = i3 100 from rfl) (i3A (i3D (i3D (rfl : i3 x4 = i3 x4) (rfl : i3 x3 = i3 x3) (by omega) (by omega) (by omega) (by omega)) (rfl : i3 x3 = i3 x3) (by omega) (by omega) (by omega) (by omega)) (show (1 : Int32) = i3 1 from rfl))) (i3M (show (10 : Int32) = i3 10 from rfl) (i3A (i3R (i3D (rfl : i3 x4 = i3 x4) (rfl : i3 x3 = i3 x3) (by omega) (by omega) (by omega) (by omega)) (rfl : i3 x3 = i3 x3) (by omega) (by omega) (by omega) (by omega)) (show (1 : Int32) = i3 1 from rfl)))) (i3A (i3R (rfl : i3 x4 = i3 x4) (rfl : i3 x3 = i3 x3) (by omega) (by omega) (by omega) (by omega)) (show (1 : Int32) = i3 1 from rfl))))
            subst e9
            have r99 := zM_f hZ98I 100 0 0 0
            have q100 := (zu_ne (k' := 100) (b' := 0) (i' := 0) (j' := 0) hZ98 (fun q => absurd q.1 (by decide))).trans ((zu_ne (k' := 100) (b' := 0) (i' := 0) (j' := 0) hZ97 (fun q => absurd q.1 (by decide))).trans (kZ91 100 0 0 0 (by decide)))
            obtain ⟨m2, rfl⟩ : ∃ m2, m = m2 + 1 := ⟨m - 1, by omega⟩
            exact wz_k1 ⟨m2, by omega, xM9 + 24304, Z98, (x4 + 1), (zconso rfl (zconso (zvo (rfl : i3 x1 = i3 x1)) (zconso rfl (zconso (zvo (rfl : i3 x3 = i3 x3)) (zconso (zvo (i3A (rfl : i3 x4 = i3 x4) (show (1 : Int32) = i3 1 from rfl))) (zconso rfl (zconso rfl rfl))))))), rfl, by omega, (zmt hZ98I rfl), hZ98K, hZ98U, by omega, by omega, by omega,  hP⟩
/- yX12_iFindMost -/
def zf_356 (Z : qz_Z) (a1 : Int) (a2 : Int) : qz_Z := (zlet (zf_351 Z 0) (fun Z2 => (zlet (zf_460 Z2 (((24 * a2) + (Z2 2 0 0 (3520 + 10 * a1))) - 1)) (fun Z4 => (zlet2 (zl_356_1 a1 4401 Z4 0) (fun Z9 y8 => (zlet (zu Z9 1 0 0 31 (-1)) (fun Z15 => (zlet2 (zl_356_2 a1 ((Z9 2 0 0 1200) + 1) 344 Z15 0) (fun Z18 y17 => (zlet (zf_493 Z18 0) (fun Z24 => Z24))))))))))))
theorem sp_356 {s : zSM} {Z : qz_Z} {ν : qz_N} (hZ : zM s Z) {a1 : Int} (ga1 : 0 ≤ a1 ∧ a1 ≤ 1) {a2 : Int} (ga2 : 0 ≤ a2 ∧ a2 ≤ 27) (gx0 : Z 2 0 0 0 ≤ 668) (hM : s.2 + 8360576 ≤ 1000000000) : ∃ P : qz_Z, P = zf_356 Z a1 a2 ∧ (qf_356 [.inr (.inr (some (1, 0, 0))), .inl (i3 a1), .inl (i3 a2)] (zm Z ν) = some (zm P ν, .inl none) ∧ zM (zb s 8360576) P ∧ zC [1, 2, 81, 100, 1200] Z P ∧ zU [] Z P) := by
  obtain ⟨P, hP⟩ := zx (zf_356 Z a1 a2)
  refine zc_V (Q := fun P => zM (zb s 8360576) P ∧ zC [1, 2, 81, 100, 1200] Z P ∧ zU [] Z P) hP (fw_356 (i3 a1) (i3 a2) _ _ ?_)
  replace hP : zE P (zf_356 Z a1 a2) := hP
  unfold zf_356 at hP
  have r1 := zM_k hZ 2 0 0 0 (lo := 0) (hi := 671) (by decide) rfl
  obtain ⟨Z2, hZ2, c9, hZ2I, kZ2, jZ2⟩ := sp_351 (ν := ν) hZ (a1 := 0) (by omega) (zbh (c := 0) (k := 0) hM (Nat.le_of_ble_eq_true rfl))
  have hZ2U : zU [] Z Z2 := zU_t zU_r jZ2 zU_b0
  have hZ2K : zC [1, 2, 81, 100, 1200] Z Z2 := zC_t zC_r kZ2 (by decide)
  replace hP := zl_e hP hZ2
  refine wz_cV_of (zas (zcons rfl (zcons (zvi (show (0 : Int32) = i3 0 from rfl)) rfl)) c9) ?_
  clear c9
  refine wz_i0 (i3O (n := 4400) (i3A (i3A (show (3520 : Int32) = i3 3520 from rfl) (i3M (show (10 : Int32) = i3 10 from rfl) (rfl : i3 a1 = i3 a1))) (show (0 : Int32) = i3 0 from rfl)) (by omega) (by omega) (by omega)) ?_
  have r3 := zM_k hZ2I 2 0 0 (3520 + 10 * a1) (lo := 0) (hi := 18) (by decide) (zs_3520_0 (x := a1) (by omega) (by omega) (by omega))
  obtain ⟨Z4, hZ4, c9, hZ4I, kZ4, jZ4, wZ40⟩ := sp_460 (ν := ν) hZ2I (a1 := (((24 * a2) + (Z2 2 0 0 (3520 + 10 * a1))) - 1)) (by omega) (zbh (c := 0) (k := 0) hM (Nat.le_of_ble_eq_true rfl))
  have hZ4U : zU [] Z Z4 := zU_t hZ2U jZ4 zU_b0
  have hZ4K : zC [1, 2, 81, 100, 1200] Z Z4 := zC_t hZ2K kZ4 (by decide)
  replace hP := zl_e hP hZ4
  refine wz_cV_of (zas (zcons rfl (zcons (zvi (i3S (i3A (i3M (show (24 : Int32) = i3 24 from rfl) (rfl : i3 a2 = i3 a2)) (zm_rd (Z := Z2) (ν := ν) (k := 2) (show ((0 : Nat) : Int) = 0 from rfl) (show ((0 : Nat) : Int) = 0 from rfl) (i3I (y := (3520 + 10 * a1)) (i3A (i3A (show (3520 : Int32) = i3 3520 from rfl) (i3M (show (10 : Int32) = i3 10 from rfl) (rfl : i3 a1 = i3 a1))) (show (0 : Int32) = i3 0 from rfl)) (by omega) (by omega) (by omega)))) (show (1 : Int32) = i3 1 from rfl))) rfl)) c9) ?_
  clear c9
  have r5 := zM_k hZ4I 2 0 0 0 (lo := 0) (hi := 671) (by decide) rfl
  have r6 := zM_k hZ2I 2 0 0 0 (lo := 0) (hi := 671) (by decide) rfl
  have q7 := kZ2 2 0 0 0 (by decide)
  have r10 := zM_f hZ4I 100 0 0 0
  refine sl_356_1 (ν := ν) hZ4I (zbh (c := 0) (k := 0) hM (Nat.le_of_ble_eq_true rfl)) zC_r (x1 := a1) (by omega) (x3 := 0) (by omega) zU_r (by omega) (by omega) (zconso rfl (zconso (zvo (rfl : i3 a1 = i3 a1)) (zconso rfl (zconso (zvo (show (0 : Int32) = i3 0 from rfl)) (zconso rfl (zconso rfl (zconso rfl rfl))))))) rfl ?_
  intro L11 Z9 y8 hL11 hZ9I kZ9 jZ9 gy8 gL11_0 gL11_1 q9
  replace hP := zl_e2 hP (Eq.symm q9)
  clear q9
  have hZ9U : zU [] Z Z9 := zU_t hZ4U jZ9 zU_b0
  have hZ9K : zC [1, 2, 81, 100, 1200] Z Z9 := zC_t hZ4K kZ9 (by decide)
  have r12 := zM_f hZ9I 100 0 0 0
  have r13 := zM_k hZ9I 2 0 0 0 (lo := 0) (hi := 671) (by decide) rfl
  have q14 := kZ9 2 0 0 0 (by decide)
  refine fc_356_4 (i3 a1) _ _ _ _ hL11 ?_
  obtain ⟨Z15, hZ15⟩ := zx (zu Z9 1 0 0 31 (-1))
  replace hP := zl_e hP hZ15
  have hZ15I := zM_u hZ9I hZ15 (lo := -2147483648) (hi := 2147483647) (by decide) rfl (by omega) ⟨by decide, by decide⟩ (Or.inr (by decide)) rfl
  have hZ15U : zU [] Z Z15 := zU_u hZ9U hZ15 (Or.inl rfl)
  have hZ15K : zC [1, 2, 81, 100, 1200] Z Z15 := zC_u hZ9K hZ15 (by decide)
  intro μ9 e9
  replace e9 := e9.trans (zm_wI (Z := Z9) (ν := ν) hZ15 (show ((0 : Nat) : Int) = 0 from rfl) (show ((0 : Nat) : Int) = 0 from rfl) (show ((31 : Nat) : Int) = 31 from rfl) (show (-1 : Int32) = i3 (-1) from rfl))
  subst e9
  have r16 := zM_k hZ9I 2 0 0 1200 (lo := 0) (hi := 6) (by decide) rfl
  have r19 := zM_f hZ15I 100 0 0 0
  have q20 := zu_ne (k' := 100) (b' := 0) (i' := 0) (j' := 0) hZ15 (fun q => absurd q.1 (by decide))
  refine sl_356_2 (ν := ν) (zm0 hZ15I) (zbh (c := 0) (k := 8360576) hM (Nat.le_of_ble_eq_true rfl)) (xM9 := 0) zC_r (x1 := a1) (by omega) (x3 := ((Z9 2 0 0 1200) + 1)) (by omega) (x4 := 0) (by omega) zU_r (Nat.le_of_ble_eq_true rfl) (by omega) (zconso rfl (zconso (zvo (rfl : i3 a1 = i3 a1)) (zconso rfl (zconso (zvo (i3A (zm_rd (Z := Z9) (ν := ν) (k := 2) (show ((0 : Nat) : Int) = 0 from rfl) (show ((0 : Nat) : Int) = 0 from rfl) (show ((1200 : Nat) : Int) = 1200 from rfl)) (show (1 : Int32) = i3 1 from rfl))) (zconso (zvo (show (0 : Int32) = i3 0 from rfl)) (zconso rfl (zconso rfl rfl))))))) rfl ?_
  intro L21 Z18 y17 hL21 hZ18I kZ18 jZ18 gy17 gL21_0 q9
  replace hP := zl_e2 hP (Eq.symm q9)
  clear q9
  have hZ18U : zU [] Z Z18 := zU_t hZ15U jZ18 zU_b0
  have hZ18K : zC [1, 2, 81, 100, 1200] Z Z18 := zC_t hZ15K kZ18 (by decide)
  have r22 := zM_f hZ18I 100 0 0 0
  have q23 := kZ18 100 0 0 0 (by decide)
  refine fc_356_3  _ _ _ _ hL21 ?_
  obtain ⟨Z24, hZ24, c9, hZ24I, kZ24, jZ24⟩ := sp_493 (ν := ν) hZ18I (a1 := 0) (by omega) (zbh (c := 8360576) (k := 0) hM (Nat.le_of_ble_eq_true rfl))
  have hZ24U : zU [] Z Z24 := zU_t hZ18U jZ24 zU_b0
  have hZ24K : zC [1, 2, 81, 100, 1200] Z Z24 := zC_t hZ18K kZ24 (by decide)
  replace hP := zl_e hP hZ24
  refine wz_cV_of (zas (zcons rfl (zcons (zvi (show (0 : Int32) = i3 0 from rfl)) rfl)) c9) ?_
  clear c9
  exact zlV hP ⟨hZ24I, hZ24K, hZ24U⟩
/- yX12_worst -/
def zy_547 (Z : qz_Z) (a1 : Int) (a2 : Int) : qz_Z × Int := (if a1 < 0 then (zlet (zu Z 1 0 0 2 1) (fun Z5 => (Z5, 0))) else (if ((Z 2 0 0 3500) - 1) < a1 then (zlet (zu Z 1 0 0 2 1) (fun Z8 => (Z8, 0))) else (zlet (zu Z 1 0 0 2 0) (fun Z9 => (if a2 < 0 then (zlet (zu Z9 1 0 0 2 2) (fun Z11 => (Z11, 0))) else (if 1 < a2 then (zlet (zu Z9 1 0 0 2 2) (fun Z13 => (Z13, 0))) else (zlet (zu Z9 1 0 0 2 0) (fun Z14 => (if (Z14 2 0 0 (3520 + 10 * a1)) ≤ ((Z14 2 0 0 0) % 24) then (if (((Z14 2 0 0 0) / 24) + 1) ≠ 28 then (zlet (zf_356 Z14 a1 (((Z14 2 0 0 0) / 24) + 1)) (fun Z19 => (if a2 ≠ 0 then (Z19, (Z19 1 0 0 32)) else (Z19, (Z19 1 0 0 31))))) else (Z14, (-1))) else (zlet (zf_356 Z14 a1 ((Z14 2 0 0 0) / 24)) (fun Z23 => (if a2 ≠ 0 then (Z23, (Z23 1 0 0 32)) else (Z23, (Z23 1 0 0 31))))))))))))))
theorem sy_547 {s : zSM} {Z : qz_Z} {ν : qz_N} (hZ : zM s Z) (gq : Z 1 0 0 35 = 0) (hM : s.2 + 8360576 ≤ 1000000000) {a1 : Int} (ga1 : -2147483648 ≤ a1 ∧ a1 ≤ 2147483647) {a2 : Int} (ga2 : -2147483648 ≤ a2 ∧ a2 ≤ 2147483647) {ν1 : qz_N} : ∃ (Z1 : qz_Z) (ν2 : qz_N) (v : Int), (Z1, v) = zy_547 Z a1 a2 ∧ (ν2 = ν ∨ ν2 = ν1) ∧ qf_547 [.inr (.inr (some (1, 0, 0))), .inl (i3 a1), .inl (i3 a2)] (zm Z ν) = some (zm Z1 ν2, .inl (some (.inl (i3 v)))) ∧ (fun Z1 => zM (zb s 8360576) Z1 ∧ zC [1, 2, 81, 100, 1200] Z Z1 ∧ zU [] Z Z1) Z1 := by
  obtain ⟨P, hP⟩ := zx (zy_547 Z a1 a2)
  refine zc_Y (Q := fun Z1 => zM (zb s 8360576) Z1 ∧ zC [1, 2, 81, 100, 1200] Z Z1 ∧ zU [] Z Z1) hP (fw_547 (i3 a1) (i3 a2) _ _ ?_)
  replace hP : zE P (zy_547 Z a1 a2) := hP
  unfold zy_547 at hP
  have r1 := zM_k hZ 1 0 0 35 (lo := 0) (hi := 1) (by decide) rfl
  have r2 := zM_k hZ 1 0 0 34 (lo := 0) (hi := 8) (by decide) rfl
  have r3 := zM_f hZ 1 0 0 37
  refine wz_br (i3L (rfl : i3 a1 = i3 a1) (show (0 : Int32) = i3 0 from rfl) (by omega) (by omega) (by omega) (by omega)) (fun h4 => ?_) (fun h4 => ?_)
  · replace hP := zE_p hP h4
    obtain ⟨Z5, hZ5⟩ := zx (zu Z 1 0 0 2 1)
    replace hP := zl_e hP hZ5
    have hZ5I := zM_u hZ hZ5 (lo := -2147483648) (hi := 2147483647) (by decide) rfl (by omega) ⟨by decide, by decide⟩ (Or.inr (by decide)) rfl
    have hZ5U : zU [] Z Z5 := zU_u zU_r hZ5 (Or.inl rfl)
    have hZ5K : zC [1, 2, 81, 100, 1200] Z Z5 := zC_u zC_r hZ5 (by decide)
    intro μ9 e9
    replace e9 := e9.trans (zm_wI (Z := Z) (ν := ν) hZ5 (show ((0 : Nat) : Int) = 0 from rfl) (show ((0 : Nat) : Int) = 0 from rfl) (show ((2 : Nat) : Int) = 2 from rfl) (show (1 : Int32) = i3 1 from rfl))
    subst e9
    exact zlY hP (show (0 : Int32) = i3 0 from rfl) (.inl rfl) ⟨(zmw (a := 0) (c := 8360576) hZ5I (Nat.le_of_ble_eq_true rfl)), hZ5K, hZ5U⟩
  · replace hP := zE_n hP h4
    have r6 := zM_k hZ 2 0 0 3500 (lo := 0) (hi := 2) (by decide) rfl
    refine wz_br (i3L (i3S (zm_rd (Z := Z) (ν := ν) (k := 2) (show ((0 : Nat) : Int) = 0 from rfl) (show ((0 : Nat) : Int) = 0 from rfl) (show ((3500 : Nat) : Int) = 3500 from rfl)) (show (1 : Int32) = i3 1 from rfl)) (rfl : i3 a1 = i3 a1) (by omega) (by omega) (by omega) (by omega)) (fun h7 => ?_) (fun h7 => ?_)
    · replace hP := zE_p hP h7
      obtain ⟨Z8, hZ8⟩ := zx (zu Z 1 0 0 2 1)
      replace hP := zl_e hP hZ8
      have hZ8I := zM_u hZ hZ8 (lo := -2147483648) (hi := 2147483647) (by decide) rfl (by omega) ⟨by decide, by decide⟩ (Or.inr (by decide)) rfl
      have hZ8U : zU [] Z Z8 := zU_u zU_r hZ8 (Or.inl rfl)
      have hZ8K : zC [1, 2, 81, 100, 1200] Z Z8 := zC_u zC_r hZ8 (by decide)
      intro μ9 e9
      replace e9 := e9.trans (zm_wI (Z := Z) (ν := ν) hZ8 (show ((0 : Nat) : Int) = 0 from rfl) (show ((0 : Nat) : Int) = 0 from rfl) (show ((2 : Nat) : Int) = 2 from rfl) (show (1 : Int32) = i3 1 from rfl))
      subst e9
      exact zlY hP (show (0 : Int32) = i3 0 from rfl) (.inl rfl) ⟨(zmw (a := 0) (c := 8360576) hZ8I (Nat.le_of_ble_eq_true rfl)), hZ8K, hZ8U⟩
    · replace hP := zE_n hP h7
      obtain ⟨Z9, hZ9⟩ := zx (zu Z 1 0 0 2 0)
      replace hP := zl_e hP hZ9
      have hZ9I := zM_0 hZ hZ9 (by decide) (Or.inr (by decide))
      have hZ9U : zU [] Z Z9 := zU_u zU_r hZ9 (Or.inl rfl)
      have hZ9K : zC [1, 2, 81, 100, 1200] Z Z9 := zC_u zC_r hZ9 (by decide)
      intro μ9 e9
      replace e9 := e9.trans (zm_wI (Z := Z) (ν := ν) hZ9 (show ((0 : Nat) : Int) = 0 from rfl) (show ((0 : Nat) : Int) = 0 from rfl) (show ((2 : Nat) : Int) = 2 from rfl) (show (0 : Int32) = i3 0 from rfl))
      subst e9
      refine wz_br (i3L (rfl : i3 a2 = i3 a2) (show (0 : Int32) = i3 0 from rfl) (by omega) (by omega) (by omega) (by omega)) (fun h10 => ?_) (fun h10 => ?_)
      · replace hP := zE_p hP h10
        obtain ⟨Z11, hZ11⟩ := zx (zu Z9 1 0 0 2 2)
        replace hP := zl_e hP hZ11
        have hZ11I := zM_u hZ9I hZ11 (lo := -2147483648) (hi := 2147483647) (by decide) rfl (by omega) ⟨by decide, by decide⟩ (Or.inr (by decide)) rfl
        have hZ11U : zU [] Z Z11 := zU_u hZ9U hZ11 (Or.inl rfl)
        have hZ11K : zC [1, 2, 81, 100, 1200] Z Z11 := zC_u hZ9K hZ11 (by decide)
        intro μ9 e9
        replace e9 := e9.trans (zm_wI (Z := Z9) (ν := ν) hZ11 (show ((0 : Nat) : Int) = 0 from rfl) (show ((0 : Nat) : Int) = 0 from rfl) (show ((2 : Nat) : Int) = 2 from rfl) (show (2 : Int32) = i3 2 from rfl))
        subst e9
        exact zlY hP (show (0 : Int32) = i3 0 from rfl) (.inl rfl) ⟨(zmw (a := 0) (c := 8360576) hZ11I (Nat.le_of_ble_eq_true rfl)), hZ11K, hZ11U⟩
      · replace hP := zE_n hP h10
        refine wz_br (i3L (show (1 : Int32) = i3 1 from rfl) (rfl : i3 a2 = i3 a2) (by omega) (by omega) (by omega) (by omega)) (fun h12 => ?_) (fun h12 => ?_)
        · replace hP := zE_p hP h12
          obtain ⟨Z13, hZ13⟩ := zx (zu Z9 1 0 0 2 2)
          replace hP := zl_e hP hZ13
          have hZ13I := zM_u hZ9I hZ13 (lo := -2147483648) (hi := 2147483647) (by decide) rfl (by omega) ⟨by decide, by decide⟩ (Or.inr (by decide)) rfl
          have hZ13U : zU [] Z Z13 := zU_u hZ9U hZ13 (Or.inl rfl)
          have hZ13K : zC [1, 2, 81, 100, 1200] Z Z13 := zC_u hZ9K hZ13 (by decide)
          intro μ9 e9
          replace e9 := e9.trans (zm_wI (Z := Z9) (ν := ν) hZ13 (show ((0 : Nat) : Int) = 0 from rfl) (show ((0 : Nat) : Int) = 0 from rfl) (show ((2 : Nat) : Int) = 2 from rfl) (show (2 : Int32) = i3 2 from rfl))
          subst e9
          exact zlY hP (show (0 : Int32) = i3 0 from rfl) (.inl rfl) ⟨(zmw (a := 0) (c := 8360576) hZ13I (Nat.le_of_ble_eq_true rfl)), hZ13K, hZ13U⟩
        · replace hP := zE_n hP h12
          obtain ⟨Z14, hZ14⟩ := zx (zu Z9 1 0 0 2 0)
          replace hP := zl_e hP hZ14
          have hZ14I := zM_0 hZ9I hZ14 (by decide) (Or.inr (by decide))
          have hZ14U : zU [] Z Z14 := zU_u hZ9U hZ14 (Or.inl rfl)
          have hZ14K : zC [1, 2, 81, 100, 1200] Z Z14 := zC_u hZ9K hZ14 (by decide)
          intro μ9 e9
          replace e9 := e9.trans (zm_wI (Z := Z9) (ν := ν) hZ14 (show ((0 : Nat) : Int) = 0 from rfl) (show ((0 : Nat) : Int) = 0 from rfl) (show ((2 : Nat) : Int) = 2 from rfl) (show (0 : Int32) = i3 0 from rfl))
          subst e9
          refine wz_i0 (i3O (n := 4400) (i3A (i3A (show (3520 : Int32) = i3 3520 from rfl) (i3M (show (10 : Int32) = i3 10 from rfl) (rfl : i3 a1 = i3 a1))) (show (0 : Int32) = i3 0 from rfl)) (by omega) (by omega) (by omega)) ?_
          have r15 := zM_k hZ14I 2 0 0 (3520 + 10 * a1) (lo := 0) (hi := 18) (by decide) (zs_3520_0 (x := a1) (by omega) (by omega) (by omega))
          have r16 := zM_k hZ14I 2 0 0 0 (lo := 0) (hi := 671) (by decide) rfl
          refine wz_br (i3Le (zm_rd (Z := Z14) (ν := ν) (k := 2) (show ((0 : Nat) : Int) = 0 from rfl) (show ((0 : Nat) : Int) = 0 from rfl) (i3I (y := (3520 + 10 * a1)) (i3A (i3A (show (3520 : Int32) = i3 3520 from rfl) (i3M (show (10 : Int32) = i3 10 from rfl) (rfl : i3 a1 = i3 a1))) (show (0 : Int32) = i3 0 from rfl)) (by omega) (by omega) (by omega))) (i3R (zm_rd (Z := Z14) (ν := ν) (k := 2) (show ((0 : Nat) : Int) = 0 from rfl) (show ((0 : Nat) : Int) = 0 from rfl) (show ((0 : Nat) : Int) = 0 from rfl)) (show (24 : Int32) = i3 24 from rfl) (by omega) (by omega) (by omega) (by omega)) (by omega) (by omega) (by omega) (by omega)) (fun h17 => ?_) (fun h17 => ?_)
          · replace hP := zE_p hP h17
            refine wz_br (i3NE (i3A (i3D (zm_rd (Z := Z14) (ν := ν) (k := 2) (show ((0 : Nat) : Int) = 0 from rfl) (show ((0 : Nat) : Int) = 0 from rfl) (show ((0 : Nat) : Int) = 0 from rfl)) (show (24 : Int32) = i3 24 from rfl) (by omega) (by omega) (by omega) (by omega)) (show (1 : Int32) = i3 1 from rfl)) (show (28 : Int32) = i3 28 from rfl) (by omega) (by omega) (by omega) (by omega)) (fun h18 => ?_) (fun h18 => ?_)
            · replace hP := zE_p hP h18
              obtain ⟨Z19, hZ19, c9, hZ19I, kZ19, jZ19⟩ := sp_356 (ν := ν) hZ14I (a1 := a1) (by omega) (a2 := (((Z14 2 0 0 0) / 24) + 1)) (by omega) (by omega) (zbh (c := 0) (k := 8360576) hM (Nat.le_of_ble_eq_true rfl))
              have hZ19U : zU [] Z Z19 := zU_t hZ14U jZ19 zU_b0
              have hZ19K : zC [1, 2, 81, 100, 1200] Z Z19 := zC_t hZ14K kZ19 (by decide)
              replace hP := zl_e hP hZ19
              refine wz_cV_of (zas (zcons rfl (zcons (zvi (rfl : i3 a1 = i3 a1)) (zcons (zvi (i3A (i3D (zm_rd (Z := Z14) (ν := ν) (k := 2) (show ((0 : Nat) : Int) = 0 from rfl) (show ((0 : Nat) : Int) = 0 from rfl) (show ((0 : Nat) : Int) = 0 from rfl)) (show (24 : Int32) = i3 24 from rfl) (by omega) (by omega) (by omega) (by omega)) (show (1 : Int32) = i3 1 from rfl))) rfl))) c9) ?_
              clear c9
              refine wz_br (i3NE (rfl : i3 a2 = i3 a2) (show (0 : Int32) = i3 0 from rfl) (by omega) (by omega) (by omega) (by omega)) (fun h20 => ?_) (fun h20 => ?_)
              · replace hP := zE_p hP h20
                have r21 := zM_f hZ19I 1 0 0 32
                exact zlY hP (zm_rd (Z := Z19) (ν := ν) (k := 1) (show ((0 : Nat) : Int) = 0 from rfl) (show ((0 : Nat) : Int) = 0 from rfl) (show ((32 : Nat) : Int) = 32 from rfl)) (.inl rfl) ⟨hZ19I, hZ19K, hZ19U⟩
              · replace hP := zE_n hP h20
                have r22 := zM_f hZ19I 1 0 0 31
                exact zlY hP (zm_rd (Z := Z19) (ν := ν) (k := 1) (show ((0 : Nat) : Int) = 0 from rfl) (show ((0 : Nat) : Int) = 0 from rfl) (show ((31 : Nat) : Int) = 31 from rfl)) (.inl rfl) ⟨hZ19I, hZ19K, hZ19U⟩
            · replace hP := zE_n hP h18
              exact zlY hP (show (-1 : Int32) = i3 (-1) from rfl) (.inl rfl) ⟨(zmw (a := 0) (c := 8360576) hZ14I (Nat.le_of_ble_eq_true rfl)), hZ14K, hZ14U⟩
          · replace hP := zE_n hP h17
            refine wz_i1 (Eq.trans (i3NE (i3D (zm_rd (Z := Z14) (ν := ν) (k := 2) (show ((0 : Nat) : Int) = 0 from rfl) (show ((0 : Nat) : Int) = 0 from rfl) (show ((0 : Nat) : Int) = 0 from rfl)) (show (24 : Int32) = i3 24 from rfl) (by omega) (by omega) (by omega) (by omega)) (show (28 : Int32) = i3 28 from rfl) (by omega) (by omega) (by omega) (by omega)) (decide_eq_true (by omega))) ?_
            obtain ⟨Z23, hZ23, c9, hZ23I, kZ23, jZ23⟩ := sp_356 (ν := ν) hZ14I (a1 := a1) (by omega) (a2 := ((Z14 2 0 0 0) / 24)) (by omega) (by omega) (zbh (c := 0) (k := 8360576) hM (Nat.le_of_ble_eq_true rfl))
            have hZ23U : zU [] Z Z23 := zU_t hZ14U jZ23 zU_b0
            have hZ23K : zC [1, 2, 81, 100, 1200] Z Z23 := zC_t hZ14K kZ23 (by decide)
            replace hP := zl_e hP hZ23
            refine wz_cV_of (zas (zcons rfl (zcons (zvi (rfl : i3 a1 = i3 a1)) (zcons (zvi (i3D (zm_rd (Z := Z14) (ν := ν) (k := 2) (show ((0 : Nat) : Int) = 0 from rfl) (show ((0 : Nat) : Int) = 0 from rfl) (show ((0 : Nat) : Int) = 0 from rfl)) (show (24 : Int32) = i3 24 from rfl) (by omega) (by omega) (by omega) (by omega))) rfl))) c9) ?_
            clear c9
            refine wz_br (i3NE (rfl : i3 a2 = i3 a2) (show (0 : Int32) = i3 0 from rfl) (by omega) (by omega) (by omega) (by omega)) (fun h24 => ?_) (fun h24 => ?_)
            · replace hP := zE_p hP h24
              have r25 := zM_f hZ23I 1 0 0 32
              exact zlY hP (zm_rd (Z := Z23) (ν := ν) (k := 1) (show ((0 : Nat) : Int) = 0 from rfl) (show ((0 : Nat) : Int) = 0 from rfl) (show ((32 : Nat) : Int) = 32 from rfl)) (.inl rfl) ⟨hZ23I, hZ23K, hZ23U⟩
            · replace hP := zE_n hP h24
              have r26 := zM_f hZ23I 1 0 0 31
              exact zlY hP (zm_rd (Z := Z23) (ν := ν) (k := 1) (show ((0 : Nat) : Int) = 0 from rfl) (show ((0 : Nat) : Int) = 0 from rfl) (show ((31 : Nat) : Int) = 31 from rfl)) (.inl rfl) ⟨hZ23I, hZ23K, hZ23U⟩
/- yX12_dSeason -/
def zl_328_1 (x1 : Int) (x2 : Int) : Nat → qz_Z → Int → qz_Z × Int
  | 0, Z, x3 => (Z, x3)
  | m + 1, Z, x3 => (if x2 ≤ x3 then (Z, x3) else (zlet (zu Z 1 0 0 3 (((25173 * (Z 1 0 0 3)) + 13849) % 65536)) (fun Z6 => (zlet (zu Z6 1 0 0 3 (((25173 * (Z6 1 0 0 3)) + 13849) % 65536)) (fun Z9 => (zlet (zu Z9 1 0 0 3 (((25173 * (Z9 1 0 0 3)) + 13849) % 65536)) (fun Z12 => (zlet (zu Z12 1 0 0 3 (((25173 * (Z12 1 0 0 3)) + 13849) % 65536)) (fun Z15 => (zlet (zu Z15 1 0 0 3 (((25173 * (Z15 1 0 0 3)) + 13849) % 65536)) (fun Z18 => (zlet (zu Z18 2 0 0 (110 + 5 * (Z18 2 0 0 100)) (1 + (((Z6 1 0 0 3) / 16) % 9))) (fun Z21 => (zlet (zu Z21 2 0 0 (111 + 5 * (Z18 2 0 0 100)) (((Z9 1 0 0 3) / 16) % 13)) (fun Z22 => (zlet (zu Z22 2 0 0 (112 + 5 * (Z18 2 0 0 100)) (((Z12 1 0 0 3) / 16) % 13)) (fun Z23 => (zlet (zu Z23 2 0 0 (113 + 5 * (Z18 2 0 0 100)) (100 + (((Z15 1 0 0 3) / 16) % 501))) (fun Z24 => (zlet (zu Z24 2 0 0 (114 + 5 * (Z18 2 0 0 100)) (10 + (((Z18 1 0 0 3) / 16) % 90))) (fun Z27 => (zlet (zu Z27 2 0 0 100 ((Z27 2 0 0 100) + 1)) (fun Z30 => zl_328_1 x1 x2 m Z30 (x3 + 1))))))))))))))))))))))))
theorem sl_328_1 {s : zSM} {Zs Z : qz_Z} {ν : qz_N} (hZ : zM s Z) (hM : s.2 + 0 ≤ 1000000000) (hK : zC [1, 2] Zs Z) {x1 : Int} (gx1 : 1 ≤ x1 ∧ x1 ≤ 12) {x2 : Int} (gx2 : 2 ≤ x2 ∧ x2 ≤ 5) {x3 : Int} (gx3 : 0 ≤ x3 ∧ x3 ≤ 5) (hU : zU [] Zs Z) (gr0 : Z 2 0 0 100 = x3) (gr1 : Z 2 0 0 101 = 0) (gr2 : Z 2 0 0 102 = 0) {k : wz_K} {R : wz_R} {L : qz_L} (hL : qz_fg [true, true, true, true, false, false, false, false, false, false] L = [some (.inr (.inr (some (1, 0, 0)))), some (.inl (i3 x1)), some (.inl (i3 x2)), some (.inl (i3 x3)), none, none, none, none, none, none]) {T : qz_Z × Int} (hP : zE T (zl_328_1 x1 x2 ((5 - x3).toNat + 1) Z x3)) (hk : ∀ (L9 : qz_L) (Z9 : qz_Z) (yx3 : Int), qz_fg [true, true, true, false, false, false, false, false, false, false] L9 = [some (.inr (.inr (some (1, 0, 0)))), some (.inl (i3 x1)), some (.inl (i3 x2)), none, none, none, none, none, none, none] → zM s Z9 → zC [1, 2] Zs Z9 → zU [] Zs Z9 → (0 ≤ yx3 ∧ yx3 ≤ 5) → (Z9 2 0 0 100 = yx3) → (Z9 2 0 0 101 = 0) → (Z9 2 0 0 102 = 0) → zE T ((Z9, yx3)) → k 0 (L9, [], zm Z9 ν)) : wz_loop qb_328_1 65536 k R (L, [], zm Z ν) := by
  refine wz_lp sb_328_1 (fun m x => ∃ Z : qz_Z, ∃ x3 : Int, qz_fg [true, true, true, true, false, false, false, false, false, false] x.1 = [some (.inr (.inr (some (1, 0, 0)))), some (.inl (i3 x1)), some (.inl (i3 x2)), some (.inl (i3 x3)), none, none, none, none, none, none] ∧ x.2 = ([], zm Z ν) ∧ zM s Z ∧ zC [1, 2] Zs Z ∧ zU [] Zs Z ∧ m = (5 - x3).toNat ∧ (0 ≤ x3 ∧ x3 ≤ 5) ∧ (Z 2 0 0 100 = x3) ∧ (Z 2 0 0 101 = 0) ∧ (Z 2 0 0 102 = 0) ∧ zE T (zl_328_1 x1 x2 (m + 1) Z x3)) ?_ 65536 ((5 - x3).toNat) _ (by omega) ⟨Z, x3, hL, rfl, hZ, hK, hU, rfl, gx3, gr0, gr1, gr2, hP⟩
  clear hP gr0 gr1 gr2 gx3 hZ hK hU hL
  clear x3
  clear Z
  rintro m ⟨L, st, μ⟩ ⟨Z, x3, hL, hx, hZ, hK, hU, hm, gx3, gr0, gr1, gr2, hP⟩
  cases hx
  refine fb_328_1 (i3 x1) (i3 x2) (i3 x3) _ _ _ _ hL ?_
  have r1 := zM_k hZ 2 0 0 100 (lo := 0) (hi := 5) (by decide) rfl
  have r2 := zM_k hZ 2 0 0 101 (lo := 0) (hi := 6) (by decide) rfl
  have r3 := zM_k hZ 2 0 0 102 (lo := 0) (hi := 48) (by decide) rfl
  refine wz_br (i3Le (rfl : i3 x2 = i3 x2) (rfl : i3 x3 = i3 x3) (by omega) (by omega) (by omega) (by omega)) (fun h4 => ?_) (fun h4 => ?_)
  · replace hP := zE_p hP h4
    exact hk _ _ _ (zconso rfl (zconso (zvo (rfl : i3 x1 = i3 x1)) (zconso (zvo (rfl : i3 x2 = i3 x2)) (zconso rfl (zconso rfl (zconso rfl (zconso rfl (zconso rfl (zconso rfl (zconso rfl rfl)))))))))) hZ hK hU (by omega) (by omega) (by omega) (by omega) hP
  · replace hP := zE_n hP h4
    have r5 := zM_k hZ 1 0 0 3 (lo := 0) (hi := 65535) (by decide) rfl
    obtain ⟨Z6, hZ6⟩ := zx (zu Z 1 0 0 3 (((25173 * (Z 1 0 0 3)) + 13849) % 65536))
    replace hP := zl_e hP hZ6
    have hZ6I := zM_u hZ hZ6 (lo := 0) (hi := 65535) (by decide) rfl (by omega) ⟨by decide, by decide⟩ (Or.inr (by decide)) rfl
    have hZ6U : zU [] Zs Z6 := zU_u hU hZ6 (Or.inl rfl)
    have hZ6K : zC [1, 2] Zs Z6 := zC_u hK hZ6 (by decide)
    intro μ9 e9
    replace e9 := e9.trans (zm_wI (Z := Z) (ν := ν) hZ6 (show ((0 : Nat) : Int) = 0 from rfl) (show ((0 : Nat) : Int) = 0 from rfl) (show ((3 : Nat) : Int) = 3 from rfl) (i3R (i3A (i3M (show (25173 : Int32) = i3 25173 from rfl) (zm_rd (Z := Z) (ν := ν) (k := 1) (show ((0 : Nat) : Int) = 0 from rfl) (show ((0 : Nat) : Int) = 0 from rfl) (show ((3 : Nat) : Int) = 3 from rfl))) (show (13849 : Int32) = i3 13849 from rfl)) (show (65536 : Int32) = i3 65536 from rfl) (by omega) (by omega) (by omega) (by omega)))
    subst e9
    have r7 := zM_k hZ6I 1 0 0 3 (lo := 0) (hi := 65535) (by decide) rfl
    have q8 := zu_at hZ6
    obtain ⟨Z9, hZ9⟩ := zx (zu Z6 1 0 0 3 (((25173 * (Z6 1 0 0 3)) + 13849) % 65536))
    replace hP := zl_e hP hZ9
    have hZ9I := zM_u hZ6I hZ9 (lo := 0) (hi := 65535) (by decide) rfl (by omega) ⟨by decide, by decide⟩ (Or.inr (by decide)) rfl
    have hZ9U : zU [] Zs Z9 := zU_u hZ6U hZ9 (Or.inl rfl)
    have hZ9K : zC [1, 2] Zs Z9 := zC_u hZ6K hZ9 (by decide)
    intro μ9 e9
    replace e9 := e9.trans (zm_wI (Z := Z6) (ν := ν) hZ9 (show ((0 : Nat) : Int) = 0 from rfl) (show ((0 : Nat) : Int) = 0 from rfl) (show ((3 : Nat) : Int) = 3 from rfl) (i3R (i3A (i3M (show (25173 : Int32) = i3 25173 from rfl) (zm_rd (Z := Z6) (ν := ν) (k := 1) (show ((0 : Nat) : Int) = 0 from rfl) (show ((0 : Nat) : Int) = 0 from rfl) (show ((3 : Nat) : Int) = 3 from rfl))) (show (13849 : Int32) = i3 13849 from rfl)) (show (65536 : Int32) = i3 65536 from rfl) (by omega) (by omega) (by omega) (by omega)))
    subst e9
    have r10 := zM_k hZ9I 1 0 0 3 (lo := 0) (hi := 65535) (by decide) rfl
    have q11 := zu_at hZ9
    obtain ⟨Z12, hZ12⟩ := zx (zu Z9 1 0 0 3 (((25173 * (Z9 1 0 0 3)) + 13849) % 65536))
    replace hP := zl_e hP hZ12
    have hZ12I := zM_u hZ9I hZ12 (lo := 0) (hi := 65535) (by decide) rfl (by omega) ⟨by decide, by decide⟩ (Or.inr (by decide)) rfl
    have hZ12U : zU [] Zs Z12 := zU_u hZ9U hZ12 (Or.inl rfl)
    have hZ12K : zC [1, 2] Zs Z12 := zC_u hZ9K hZ12 (by decide)
    intro μ9 e9
    replace e9 := e9.trans (zm_wI (Z := Z9) (ν := ν) hZ12 (show ((0 : Nat) : Int) = 0 from rfl) (show ((0 : Nat) : Int) = 0 from rfl) (show ((3 : Nat) : Int) = 3 from rfl) (i3R (i3A (i3M (show (25173 : Int32) = i3 25173 from rfl) (zm_rd (Z := Z9) (ν := ν) (k := 1) (show ((0 : Nat) : Int) = 0 from rfl) (show ((0 : Nat) : Int) = 0 from rfl) (show ((3 : Nat) : Int) = 3 from rfl))) (show (13849 : Int32) = i3 13849 from rfl)) (show (65536 : Int32) = i3 65536 from rfl) (by omega) (by omega) (by omega) (by omega)))
    subst e9
    have r13 := zM_k hZ12I 1 0 0 3 (lo := 0) (hi := 65535) (by decide) rfl
    have q14 := zu_at hZ12
    obtain ⟨Z15, hZ15⟩ := zx (zu Z12 1 0 0 3 (((25173 * (Z12 1 0 0 3)) + 13849) % 65536))
    replace hP := zl_e hP hZ15
    have hZ15I := zM_u hZ12I hZ15 (lo := 0) (hi := 65535) (by decide) rfl (by omega) ⟨by decide, by decide⟩ (Or.inr (by decide)) rfl
    have hZ15U : zU [] Zs Z15 := zU_u hZ12U hZ15 (Or.inl rfl)
    have hZ15K : zC [1, 2] Zs Z15 := zC_u hZ12K hZ15 (by decide)
    intro μ9 e9
    replace e9 := e9.trans (zm_wI (Z := Z12) (ν := ν) hZ15 (show ((0 : Nat) : Int) = 0 from rfl) (show ((0 : Nat) : Int) = 0 from rfl) (show ((3 : Nat) : Int) = 3 from rfl) (i3R (i3A (i3M (show (25173 : Int32) = i3 25173 from rfl) (zm_rd (Z := Z12) (ν := ν) (k := 1) (show ((0 : Nat) : Int) = 0 from rfl) (show ((0 : Nat) : Int) = 0 from rfl) (show ((3 : Nat) : Int) = 3 from rfl))) (show (13849 : Int32) = i3 13849 from rfl)) (show (65536 : Int32) = i3 65536 from rfl) (by omega) (by omega) (by omega) (by omega)))
    subst e9
    have r16 := zM_k hZ15I 1 0 0 3 (lo := 0) (hi := 65535) (by decide) rfl
    have q17 := zu_at hZ15
    obtain ⟨Z18, hZ18⟩ := zx (zu Z15 1 0 0 3 (((25173 * (Z15 1 0 0 3)) + 13849) % 65536))
    replace hP := zl_e hP hZ18
    have hZ18I := zM_u hZ15I hZ18 (lo := 0) (hi := 65535) (by decide) rfl (by omega) ⟨by decide, by decide⟩ (Or.inr (by decide)) rfl
    have hZ18U : zU [] Zs Z18 := zU_u hZ15U hZ18 (Or.inl rfl)
    have hZ18K : zC [1, 2] Zs Z18 := zC_u hZ15K hZ18 (by decide)
    intro μ9 e9
    replace e9 := e9.trans (zm_wI (Z := Z15) (ν := ν) hZ18 (show ((0 : Nat) : Int) = 0 from rfl) (show ((0 : Nat) : Int) = 0 from rfl) (show ((3 : Nat) : Int) = 3 from rfl) (i3R (i3A (i3M (show (25173 : Int32) = i3 25173 from rfl) (zm_rd (Z := Z15) (ν := ν) (k := 1) (show ((0 : Nat) : Int) = 0 from rfl) (show ((0 : Nat) : Int) = 0 from rfl) (show ((3 : Nat) : Int) = 3 from rfl))) (show (13849 : Int32) = i3 13849 from rfl)) (show (65536 : Int32) = i3 65536 from rfl) (by omega) (by omega) (by omega) (by omega)))
    subst e9
    have r19 := zM_k hZ18I 2 0 0 100 (lo := 0) (hi := 5) (by decide) rfl
    have q20 := (zu_ne (k' := 2) (b' := 0) (i' := 0) (j' := 100) hZ18 (fun q => absurd q.1 (by decide))).trans ((zu_ne (k' := 2) (b' := 0) (i' := 0) (j' := 100) hZ15 (fun q => absurd q.1 (by decide))).trans ((zu_ne (k' := 2) (b' := 0) (i' := 0) (j' := 100) hZ12 (fun q => absurd q.1 (by decide))).trans ((zu_ne (k' := 2) (b' := 0) (i' := 0) (j' := 100) hZ9 (fun q => absurd q.1 (by decide))).trans (zu_ne (k' := 2) (b' := 0) (i' := 0) (j' := 100) hZ6 (fun q => absurd q.1 (by decide))))))
    refine wz_i0 (i3O (n := 4400) (i3A (show (110 : Int32) = i3 110 from rfl) (i3M (show (5 : Int32) = i3 5 from rfl) (zm_rd (Z := Z18) (ν := ν) (k := 2) (show ((0 : Nat) : Int) = 0 from rfl) (show ((0 : Nat) : Int) = 0 from rfl) (show ((100 : Nat) : Int) = 100 from rfl)))) (by omega) (by omega) (by omega)) ?_
    obtain ⟨Z21, hZ21⟩ := zx (zu Z18 2 0 0 (110 + 5 * (Z18 2 0 0 100)) (1 + (((Z6 1 0 0 3) / 16) % 9)))
    replace hP := zl_e hP hZ21
    have hZ21I := zM_u2 hZ18I hZ21 (lo := 0) (hi := 9) (zs_110_0 (x := (Z18 2 0 0 100)) (by omega) (by omega) (by omega)) (by omega) ⟨by decide, by decide⟩ (by simp only [zsp]; omega)
    have hZ21U : zU [] Zs Z21 := zU_u hZ18U hZ21 (Or.inl rfl)
    have hZ21K : zC [1, 2] Zs Z21 := zC_u hZ18K hZ21 (zcl_2w (by omega) rfl)
    intro μ9 e9
    replace e9 := e9.trans (zm_wI (Z := Z18) (ν := ν) hZ21 (show ((0 : Nat) : Int) = 0 from rfl) (show ((0 : Nat) : Int) = 0 from rfl) (i3I (y := (110 + 5 * (Z18 2 0 0 100))) (i3A (show (110 : Int32) = i3 110 from rfl) (i3M (show (5 : Int32) = i3 5 from rfl) (zm_rd (Z := Z18) (ν := ν) (k := 2) (show ((0 : Nat) : Int) = 0 from rfl) (show ((0 : Nat) : Int) = 0 from rfl) (show ((100 : Nat) : Int) = 100 from rfl)))) (by omega) (by omega) (by omega)) (i3A (show (1 : Int32) = i3 1 from rfl) (i3R (i3D (zm_rd (Z := Z6) (ν := ν) (k := 1) (show ((0 : Nat) : Int) = 0 from rfl) (show ((0 : Nat) : Int) = 0 from rfl) (show ((3 : Nat) : Int) = 3 from rfl)) (show (16 : Int32) = i3 16 from rfl) (by omega) (by omega) (by omega) (by omega)) (show (9 : Int32) = i3 9 from rfl) (by omega) (by omega) (by omega) (by omega))))
    subst e9
    refine wz_i0 (i3O (n := 4400) (i3A (i3A (show (110 : Int32) = i3 110 from rfl) (i3M (show (5 : Int32) = i3 5 from rfl) (zm_rd (Z := Z18) (ν := ν) (k := 2) (show ((0 : Nat) : Int) = 0 from rfl) (show ((0 : Nat) : Int) = 0 from rfl) (show ((100 : Nat) : Int) = 100 from rfl)))) (show (1 : Int32) = i3 1 from rfl)) (by omega) (by omega) (by omega)) ?_
    obtain ⟨Z22, hZ22⟩ := zx (zu Z21 2 0 0 (111 + 5 * (Z18 2 0 0 100)) (((Z9 1 0 0 3) / 16) % 13))
    replace hP := zl_e hP hZ22
    have hZ22I := zM_u2 hZ21I hZ22 (lo := 0) (hi := 12) (zs_110_1 (x := (Z18 2 0 0 100)) (by omega) (by omega) (by omega)) (by omega) ⟨by decide, by decide⟩ (by simp only [zsp]; omega)
    have hZ22U : zU [] Zs Z22 := zU_u hZ21U hZ22 (Or.inl rfl)
    have hZ22K : zC [1, 2] Zs Z22 := zC_u hZ21K hZ22 (zcl_2w (by omega) rfl)
    intro μ9 e9
    replace e9 := e9.trans (zm_wI (Z := Z21) (ν := ν) hZ22 (show ((0 : Nat) : Int) = 0 from rfl) (show ((0 : Nat) : Int) = 0 from rfl) (i3I (y := (111 + 5 * (Z18 2 0 0 100))) (i3A (i3A (show (110 : Int32) = i3 110 from rfl) (i3M (show (5 : Int32) = i3 5 from rfl) (zm_rd (Z := Z18) (ν := ν) (k := 2) (show ((0 : Nat) : Int) = 0 from rfl) (show ((0 : Nat) : Int) = 0 from rfl) (show ((100 : Nat) : Int) = 100 from rfl)))) (show (1 : Int32) = i3 1 from rfl)) (by omega) (by omega) (by omega)) (i3R (i3D (zm_rd (Z := Z9) (ν := ν) (k := 1) (show ((0 : Nat) : Int) = 0 from rfl) (show ((0 : Nat) : Int) = 0 from rfl) (show ((3 : Nat) : Int) = 3 from rfl)) (show (16 : Int32) = i3 16 from rfl) (by omega) (by omega) (by omega) (by omega)) (show (13 : Int32) = i3 13 from rfl) (by omega) (by omega) (by omega) (by omega)))
    subst e9
    refine wz_i0 (i3O (n := 4400) (i3A (i3A (show (110 : Int32) = i3 110 from rfl) (i3M (show (5 : Int32) = i3 5 from rfl) (zm_rd (Z := Z18) (ν := ν) (k := 2) (show ((0 : Nat) : Int) = 0 from rfl) (show ((0 : Nat) : Int) = 0 from rfl) (show ((100 : Nat) : Int) = 100 from rfl)))) (show (2 : Int32) = i3 2 from rfl)) (by omega) (by omega) (by omega)) ?_
    obtain ⟨Z23, hZ23⟩ := zx (zu Z22 2 0 0 (112 + 5 * (Z18 2 0 0 100)) (((Z12 1 0 0 3) / 16) % 13))
    replace hP := zl_e hP hZ23
    have hZ23I := zM_u2 hZ22I hZ23 (lo := 0) (hi := 12) (zs_110_2 (x := (Z18 2 0 0 100)) (by omega) (by omega) (by omega)) (by omega) ⟨by decide, by decide⟩ (by simp only [zsp]; omega)
    have hZ23U : zU [] Zs Z23 := zU_u hZ22U hZ23 (Or.inl rfl)
    have hZ23K : zC [1, 2] Zs Z23 := zC_u hZ22K hZ23 (zcl_2w (by omega) rfl)
    intro μ9 e9
    replace e9 := e9.trans (zm_wI (Z := Z22) (ν := ν) hZ23 (show ((0 : Nat) : Int) = 0 from rfl) (show ((0 : Nat) : Int) = 0 from rfl) (i3I (y := (112 + 5 * (Z18 2 0 0 100))) (i3A (i3A (show (110 : Int32) = i3 110 from rfl) (i3M (show (5 : Int32) = i3 5 from rfl) (zm_rd (Z := Z18) (ν := ν) (k := 2) (show ((0 : Nat) : Int) = 0 from rfl) (show ((0 : Nat) : Int) = 0 from rfl) (show ((100 : Nat) : Int) = 100 from rfl)))) (show (2 : Int32) = i3 2 from rfl)) (by omega) (by omega) (by omega)) (i3R (i3D (zm_rd (Z := Z12) (ν := ν) (k := 1) (show ((0 : Nat) : Int) = 0 from rfl) (show ((0 : Nat) : Int) = 0 from rfl) (show ((3 : Nat) : Int) = 3 from rfl)) (show (16 : Int32) = i3 16 from rfl) (by omega) (by omega) (by omega) (by omega)) (show (13 : Int32) = i3 13 from rfl) (by omega) (by omega) (by omega) (by omega)))
    subst e9
    refine wz_i0 (i3O (n := 4400) (i3A (i3A (show (110 : Int32) = i3 110 from rfl) (i3M (show (5 : Int32) = i3 5 from rfl) (zm_rd (Z := Z18) (ν := ν) (k := 2) (show ((0 : Nat) : Int) = 0 from rfl) (show ((0 : Nat) : Int) = 0 from rfl) (show ((100 : Nat) : Int) = 100 from rfl)))) (show (3 : Int32) = i3 3 from rfl)) (by omega) (by omega) (by omega)) ?_
    obtain ⟨Z24, hZ24⟩ := zx (zu Z23 2 0 0 (113 + 5 * (Z18 2 0 0 100)) (100 + (((Z15 1 0 0 3) / 16) % 501)))
    replace hP := zl_e hP hZ24
    have hZ24I := zM_u2 hZ23I hZ24 (lo := 0) (hi := 600) (zs_110_3 (x := (Z18 2 0 0 100)) (by omega) (by omega) (by omega)) (by omega) ⟨by decide, by decide⟩ (by simp only [zsp]; omega)
    have hZ24U : zU [] Zs Z24 := zU_u hZ23U hZ24 (Or.inl rfl)
    have hZ24K : zC [1, 2] Zs Z24 := zC_u hZ23K hZ24 (zcl_2w (by omega) rfl)
    intro μ9 e9
    replace e9 := e9.trans (zm_wI (Z := Z23) (ν := ν) hZ24 (show ((0 : Nat) : Int) = 0 from rfl) (show ((0 : Nat) : Int) = 0 from rfl) (i3I (y := (113 + 5 * (Z18 2 0 0 100))) (i3A (i3A (show (110 : Int32) = i3 110 from rfl) (i3M (show (5 : Int32) = i3 5 from rfl) (zm_rd (Z := Z18) (ν := ν) (k := 2) (show ((0 : Nat) : Int) = 0 from rfl) (show ((0 : Nat) : Int) = 0 from rfl) (show ((100 : Nat) : Int) = 100 from rfl)))) (show (3 : Int32) = i3 3 from rfl)) (by omega) (by omega) (by omega)) (i3A (show (100 : Int32) = i3 100 from rfl) (i3R (i3D (zm_rd (Z := Z15) (ν := ν) (k := 1) (show ((0 : Nat) : Int) = 0 from rfl) (show ((0 : Nat) : Int) = 0 from rfl) (show ((3 : Nat) : Int) = 3 from rfl)) (show (16 : Int32) = i3 16 from rfl) (by omega) (by omega) (by omega) (by omega)) (show (501 : Int32) = i3 501 from rfl) (by omega) (by omega) (by omega) (by omega))))
    subst e9
    refine wz_i0 (i3O (n := 4400) (i3A (i3A (show (110 : Int32) = i3 110 from rfl) (i3M (show (5 : Int32) = i3 5 from rfl) (zm_rd (Z := Z18) (ν := ν) (k := 2) (show ((0 : Nat) : Int) = 0 from rfl) (show ((0 : Nat) : Int) = 0 from rfl) (show ((100 : Nat) : Int) = 100 from rfl)))) (show (4 : Int32) = i3 4 from rfl)) (by omega) (by omega) (by omega)) ?_
    have r25 := zM_k hZ18I 1 0 0 3 (lo := 0) (hi := 65535) (by decide) rfl
    have q26 := zu_at hZ18
    obtain ⟨Z27, hZ27⟩ := zx (zu Z24 2 0 0 (114 + 5 * (Z18 2 0 0 100)) (10 + (((Z18 1 0 0 3) / 16) % 90)))
    replace hP := zl_e hP hZ27
    have hZ27I := zM_u2 hZ24I hZ27 (lo := 0) (hi := 99) (zs_110_4 (x := (Z18 2 0 0 100)) (by omega) (by omega) (by omega)) (by omega) ⟨by decide, by decide⟩ (by simp only [zsp]; omega)
    have hZ27U : zU [] Zs Z27 := zU_u hZ24U hZ27 (Or.inl rfl)
    have hZ27K : zC [1, 2] Zs Z27 := zC_u hZ24K hZ27 (zcl_2w (by omega) rfl)
    intro μ9 e9
    replace e9 := e9.trans (zm_wI (Z := Z24) (ν := ν) hZ27 (show ((0 : Nat) : Int) = 0 from rfl) (show ((0 : Nat) : Int) = 0 from rfl) (i3I (y := (114 + 5 * (Z18 2 0 0 100))) (i3A (i3A (show (110 : Int32) = i3 110 from rfl) (i3M (show (5 : Int32) = i3 5 from rfl) (zm_rd (Z := Z18) (ν := ν) (k := 2) (show ((0 : Nat) : Int) = 0 from rfl) (show ((0 : Nat) : Int) = 0 from rfl) (show ((100 : Nat) : Int) = 100 from rfl)))) (show (4 : Int32) = i3 4 from rfl)) (by omega) (by omega) (by omega)) (i3A (show (10 : Int32) = i3 10 from rfl) (i3R (i3D (zm_rd (Z := Z18) (ν := ν) (k := 1) (show ((0 : Nat) : Int) = 0 from rfl) (show ((0 : Nat) : Int) = 0 from rfl) (show ((3 : Nat) : Int) = 3 from rfl)) (show (16 : Int32) = i3 16 from rfl) (by omega) (by omega) (by omega) (by omega)) (show (90 : Int32) = i3 90 from rfl) (by omega) (by omega) (by omega) (by omega))))
    subst e9
    have r28 := zM_k hZ27I 2 0 0 100 (lo := 0) (hi := 5) (by decide) rfl
    have q29 := (zu_ne (k' := 2) (b' := 0) (i' := 0) (j' := 100) hZ27 (fun q => absurd q.2.2.2 (by omega))).trans ((zu_ne (k' := 2) (b' := 0) (i' := 0) (j' := 100) hZ24 (fun q => absurd q.2.2.2 (by omega))).trans ((zu_ne (k' := 2) (b' := 0) (i' := 0) (j' := 100) hZ23 (fun q => absurd q.2.2.2 (by omega))).trans ((zu_ne (k' := 2) (b' := 0) (i' := 0) (j' := 100) hZ22 (fun q => absurd q.2.2.2 (by omega))).trans (zu_ne (k' := 2) (b' := 0) (i' := 0) (j' := 100) hZ21 (fun q => absurd q.2.2.2 (by omega))))))
    obtain ⟨Z30, hZ30⟩ := zx (zu Z27 2 0 0 100 ((Z27 2 0 0 100) + 1))
    replace hP := zl_e hP hZ30
    have hZ30I := zM_u2 hZ27I hZ30 (lo := 0) (hi := 5) rfl (by omega) ⟨by decide, by decide⟩ (by simp only [zsp]; omega)
    have hZ30U : zU [] Zs Z30 := zU_u hZ27U hZ30 (Or.inl rfl)
    have hZ30K : zC [1, 2] Zs Z30 := zC_u hZ27K hZ30 (by decide)
    intro μ9 e9
    replace e9 := e9.trans (zm_wI (Z := Z27) (ν := ν) hZ30 (show ((0 : Nat) : Int) = 0 from rfl) (show ((0 : Nat) : Int) = 0 from rfl) (show ((100 : Nat) : Int) = 100 from rfl) (i3A (zm_rd (Z := Z27) (ν := ν) (k := 2) (show ((0 : Nat) : Int) = 0 from rfl) (show ((0 : Nat) : Int) = 0 from rfl) (show ((100 : Nat) : Int) = 100 from rfl)) (show (1 : Int32) = i3 1 from rfl)))
    subst e9
    have r31 := zM_k hZ30I 2 0 0 100 (lo := 0) (hi := 5) (by decide) rfl
    have q32 := zu_at hZ30
    have r33 := zM_k hZ30I 2 0 0 101 (lo := 0) (hi := 6) (by decide) rfl
    have q34 := (zu_ne (k' := 2) (b' := 0) (i' := 0) (j' := 101) hZ30 (fun q => absurd q.2.2.2 (by decide))).trans ((zu_ne (k' := 2) (b' := 0) (i' := 0) (j' := 101) hZ27 (fun q => absurd q.2.2.2 (by omega))).trans ((zu_ne (k' := 2) (b' := 0) (i' := 0) (j' := 101) hZ24 (fun q => absurd q.2.2.2 (by omega))).trans ((zu_ne (k' := 2) (b' := 0) (i' := 0) (j' := 101) hZ23 (fun q => absurd q.2.2.2 (by omega))).trans ((zu_ne (k' := 2) (b' := 0) (i' := 0) (j' := 101) hZ22 (fun q => absurd q.2.2.2 (by omega))).trans ((zu_ne (k' := 2) (b' := 0) (i' := 0) (j' := 101) hZ21 (fun q => absurd q.2.2.2 (by omega))).trans ((zu_ne (k' := 2) (b' := 0) (i' := 0) (j' := 101) hZ18 (fun q => absurd q.1 (by decide))).trans ((zu_ne (k' := 2) (b' := 0) (i' := 0) (j' := 101) hZ15 (fun q => absurd q.1 (by decide))).trans ((zu_ne (k' := 2) (b' := 0) (i' := 0) (j' := 101) hZ12 (fun q => absurd q.1 (by decide))).trans ((zu_ne (k' := 2) (b' := 0) (i' := 0) (j' := 101) hZ9 (fun q => absurd q.1 (by decide))).trans (zu_ne (k' := 2) (b' := 0) (i' := 0) (j' := 101) hZ6 (fun q => absurd q.1 (by decide))))))))))))
    have r35 := zM_k hZ30I 2 0 0 102 (lo := 0) (hi := 48) (by decide) rfl
    have q36 := (zu_ne (k' := 2) (b' := 0) (i' := 0) (j' := 102) hZ30 (fun q => absurd q.2.2.2 (by decide))).trans ((zu_ne (k' := 2) (b' := 0) (i' := 0) (j' := 102) hZ27 (fun q => absurd q.2.2.2 (by omega))).trans ((zu_ne (k' := 2) (b' := 0) (i' := 0) (j' := 102) hZ24 (fun q => absurd q.2.2.2 (by omega))).trans ((zu_ne (k' := 2) (b' := 0) (i' := 0) (j' := 102) hZ23 (fun q => absurd q.2.2.2 (by omega))).trans ((zu_ne (k' := 2) (b' := 0) (i' := 0) (j' := 102) hZ22 (fun q => absurd q.2.2.2 (by omega))).trans ((zu_ne (k' := 2) (b' := 0) (i' := 0) (j' := 102) hZ21 (fun q => absurd q.2.2.2 (by omega))).trans ((zu_ne (k' := 2) (b' := 0) (i' := 0) (j' := 102) hZ18 (fun q => absurd q.1 (by decide))).trans ((zu_ne (k' := 2) (b' := 0) (i' := 0) (j' := 102) hZ15 (fun q => absurd q.1 (by decide))).trans ((zu_ne (k' := 2) (b' := 0) (i' := 0) (j' := 102) hZ12 (fun q => absurd q.1 (by decide))).trans ((zu_ne (k' := 2) (b' := 0) (i' := 0) (j' := 102) hZ9 (fun q => absurd q.1 (by decide))).trans (zu_ne (k' := 2) (b' := 0) (i' := 0) (j' := 102) hZ6 (fun q => absurd q.1 (by decide))))))))))))
    obtain ⟨m2, rfl⟩ : ∃ m2, m = m2 + 1 := ⟨m - 1, by omega⟩
    exact wz_k1 ⟨m2, by omega, Z30, (x3 + 1), (zconso rfl (zconso (zvo (rfl : i3 x1 = i3 x1)) (zconso (zvo (rfl : i3 x2 = i3 x2)) (zconso (zvo (i3A (rfl : i3 x3 = i3 x3) (show (1 : Int32) = i3 1 from rfl))) (zconso rfl (zconso rfl (zconso rfl (zconso rfl (zconso rfl (zconso rfl rfl)))))))))), rfl, hZ30I, hZ30K, hZ30U, by omega, by omega, by omega, by omega, by omega,  hP⟩
/- yX12_dSeason -/
def zl_328_2 (x1 : Int) (x2 : Int) (x3 : Int) : Nat → qz_Z → Int → qz_Z × Int
  | 0, Z, x4 => (Z, x4)
  | m + 1, Z, x4 => (if x3 ≤ x4 then (Z, x4) else (zlet (zu Z 1 0 0 3 (((25173 * (Z 1 0 0 3)) + 13849) % 65536)) (fun Z5 => (zlet (zu Z5 1 0 0 3 (((25173 * (Z5 1 0 0 3)) + 13849) % 65536)) (fun Z8 => (zlet (zu Z8 2 0 0 (140 + 2 * (Z8 2 0 0 101)) (((Z5 1 0 0 3) / 16) % 26)) (fun Z11 => (zlet (zu Z11 2 0 0 (141 + 2 * (Z8 2 0 0 101)) (((Z8 1 0 0 3) / 16) % 10)) (fun Z14 => (zlet (zu Z14 2 0 0 101 ((Z14 2 0 0 101) + 1)) (fun Z17 => zl_328_2 x1 x2 x3 m Z17 (x4 + 1))))))))))))
theorem sl_328_2 {s : zSM} {Zs Z : qz_Z} {ν : qz_N} (hZ : zM s Z) (hM : s.2 + 0 ≤ 1000000000) (hK : zC [1, 2] Zs Z) {x1 : Int} (gx1 : 1 ≤ x1 ∧ x1 ≤ 12) {x2 : Int} (gx2 : 2 ≤ x2 ∧ x2 ≤ 5) {x3 : Int} (gx3 : 2 ≤ x3 ∧ x3 ≤ 6) {x4 : Int} (gx4 : 0 ≤ x4 ∧ x4 ≤ 6) (hU : zU [] Zs Z) (gr0 : Z 2 0 0 101 = x4) (gr1 : Z 2 0 0 102 = 0) {k : wz_K} {R : wz_R} {L : qz_L} (hL : qz_fg [true, true, true, true, true, false, false, false, false, false] L = [some (.inr (.inr (some (1, 0, 0)))), some (.inl (i3 x1)), some (.inl (i3 x2)), some (.inl (i3 x3)), some (.inl (i3 x4)), none, none, none, none, none]) {T : qz_Z × Int} (hP : zE T (zl_328_2 x1 x2 x3 ((6 - x4).toNat + 1) Z x4)) (hk : ∀ (L9 : qz_L) (Z9 : qz_Z) (yx4 : Int), qz_fg [true, true, true, true, false, false, false, false, false, false] L9 = [some (.inr (.inr (some (1, 0, 0)))), some (.inl (i3 x1)), some (.inl (i3 x2)), some (.inl (i3 x3)), none, none, none, none, none, none] → zM s Z9 → zC [1, 2] Zs Z9 → zU [] Zs Z9 → (0 ≤ yx4 ∧ yx4 ≤ 6) → (Z9 2 0 0 101 = yx4) → (Z9 2 0 0 102 = 0) → zE T ((Z9, yx4)) → k 0 (L9, [], zm Z9 ν)) : wz_loop qb_328_2 65536 k R (L, [], zm Z ν) := by
  refine wz_lp sb_328_2 (fun m x => ∃ Z : qz_Z, ∃ x4 : Int, qz_fg [true, true, true, true, true, false, false, false, false, false] x.1 = [some (.inr (.inr (some (1, 0, 0)))), some (.inl (i3 x1)), some (.inl (i3 x2)), some (.inl (i3 x3)), some (.inl (i3 x4)), none, none, none, none, none] ∧ x.2 = ([], zm Z ν) ∧ zM s Z ∧ zC [1, 2] Zs Z ∧ zU [] Zs Z ∧ m = (6 - x4).toNat ∧ (0 ≤ x4 ∧ x4 ≤ 6) ∧ (Z 2 0 0 101 = x4) ∧ (Z 2 0 0 102 = 0) ∧ zE T (zl_328_2 x1 x2 x3 (m + 1) Z x4)) ?_ 65536 ((6 - x4).toNat) _ (by omega) ⟨Z, x4, hL, rfl, hZ, hK, hU, rfl, gx4, gr0, gr1, hP⟩
  clear hP gr0 gr1 gx4 hZ hK hU hL
  clear x4
  clear Z
  rintro m ⟨L, st, μ⟩ ⟨Z, x4, hL, hx, hZ, hK, hU, hm, gx4, gr0, gr1, hP⟩
  cases hx
  refine fb_328_2 (i3 x1) (i3 x2) (i3 x3) (i3 x4) _ _ _ _ hL ?_
  have r1 := zM_k hZ 2 0 0 101 (lo := 0) (hi := 6) (by decide) rfl
  have r2 := zM_k hZ 2 0 0 102 (lo := 0) (hi := 48) (by decide) rfl
  refine wz_br (i3Le (rfl : i3 x3 = i3 x3) (rfl : i3 x4 = i3 x4) (by omega) (by omega) (by omega) (by omega)) (fun h3 => ?_) (fun h3 => ?_)
  · replace hP := zE_p hP h3
    exact hk _ _ _ (zconso rfl (zconso (zvo (rfl : i3 x1 = i3 x1)) (zconso (zvo (rfl : i3 x2 = i3 x2)) (zconso (zvo (rfl : i3 x3 = i3 x3)) (zconso rfl (zconso rfl (zconso rfl (zconso rfl (zconso rfl (zconso rfl rfl)))))))))) hZ hK hU (by omega) (by omega) (by omega) hP
  · replace hP := zE_n hP h3
    have r4 := zM_k hZ 1 0 0 3 (lo := 0) (hi := 65535) (by decide) rfl
    obtain ⟨Z5, hZ5⟩ := zx (zu Z 1 0 0 3 (((25173 * (Z 1 0 0 3)) + 13849) % 65536))
    replace hP := zl_e hP hZ5
    have hZ5I := zM_u hZ hZ5 (lo := 0) (hi := 65535) (by decide) rfl (by omega) ⟨by decide, by decide⟩ (Or.inr (by decide)) rfl
    have hZ5U : zU [] Zs Z5 := zU_u hU hZ5 (Or.inl rfl)
    have hZ5K : zC [1, 2] Zs Z5 := zC_u hK hZ5 (by decide)
    intro μ9 e9
    replace e9 := e9.trans (zm_wI (Z := Z) (ν := ν) hZ5 (show ((0 : Nat) : Int) = 0 from rfl) (show ((0 : Nat) : Int) = 0 from rfl) (show ((3 : Nat) : Int) = 3 from rfl) (i3R (i3A (i3M (show (25173 : Int32) = i3 25173 from rfl) (zm_rd (Z := Z) (ν := ν) (k := 1) (show ((0 : Nat) : Int) = 0 from rfl) (show ((0 : Nat) : Int) = 0 from rfl) (show ((3 : Nat) : Int) = 3 from rfl))) (show (13849 : Int32) = i3 13849 from rfl)) (show (65536 : Int32) = i3 65536 from rfl) (by omega) (by omega) (by omega) (by omega)))
    subst e9
    have r6 := zM_k hZ5I 1 0 0 3 (lo := 0) (hi := 65535) (by decide) rfl
    have q7 := zu_at hZ5
    obtain ⟨Z8, hZ8⟩ := zx (zu Z5 1 0 0 3 (((25173 * (Z5 1 0 0 3)) + 13849) % 65536))
    replace hP := zl_e hP hZ8
    have hZ8I := zM_u hZ5I hZ8 (lo := 0) (hi := 65535) (by decide) rfl (by omega) ⟨by decide, by decide⟩ (Or.inr (by decide)) rfl
    have hZ8U : zU [] Zs Z8 := zU_u hZ5U hZ8 (Or.inl rfl)
    have hZ8K : zC [1, 2] Zs Z8 := zC_u hZ5K hZ8 (by decide)
    intro μ9 e9
    replace e9 := e9.trans (zm_wI (Z := Z5) (ν := ν) hZ8 (show ((0 : Nat) : Int) = 0 from rfl) (show ((0 : Nat) : Int) = 0 from rfl) (show ((3 : Nat) : Int) = 3 from rfl) (i3R (i3A (i3M (show (25173 : Int32) = i3 25173 from rfl) (zm_rd (Z := Z5) (ν := ν) (k := 1) (show ((0 : Nat) : Int) = 0 from rfl) (show ((0 : Nat) : Int) = 0 from rfl) (show ((3 : Nat) : Int) = 3 from rfl))) (show (13849 : Int32) = i3 13849 from rfl)) (show (65536 : Int32) = i3 65536 from rfl) (by omega) (by omega) (by omega) (by omega)))
    subst e9
    have r9 := zM_k hZ8I 2 0 0 101 (lo := 0) (hi := 6) (by decide) rfl
    have q10 := (zu_ne (k' := 2) (b' := 0) (i' := 0) (j' := 101) hZ8 (fun q => absurd q.1 (by decide))).trans (zu_ne (k' := 2) (b' := 0) (i' := 0) (j' := 101) hZ5 (fun q => absurd q.1 (by decide)))
    refine wz_i0 (i3O (n := 4400) (i3A (show (140 : Int32) = i3 140 from rfl) (i3M (show (2 : Int32) = i3 2 from rfl) (zm_rd (Z := Z8) (ν := ν) (k := 2) (show ((0 : Nat) : Int) = 0 from rfl) (show ((0 : Nat) : Int) = 0 from rfl) (show ((101 : Nat) : Int) = 101 from rfl)))) (by omega) (by omega) (by omega)) ?_
    obtain ⟨Z11, hZ11⟩ := zx (zu Z8 2 0 0 (140 + 2 * (Z8 2 0 0 101)) (((Z5 1 0 0 3) / 16) % 26))
    replace hP := zl_e hP hZ11
    have hZ11I := zM_u2 hZ8I hZ11 (lo := 0) (hi := 25) (zs_140_0 (x := (Z8 2 0 0 101)) (by omega) (by omega) (by omega)) (by omega) ⟨by decide, by decide⟩ (by simp only [zsp]; omega)
    have hZ11U : zU [] Zs Z11 := zU_u hZ8U hZ11 (Or.inl rfl)
    have hZ11K : zC [1, 2] Zs Z11 := zC_u hZ8K hZ11 (zcl_2w (by omega) rfl)
    intro μ9 e9
    replace e9 := e9.trans (zm_wI (Z := Z8) (ν := ν) hZ11 (show ((0 : Nat) : Int) = 0 from rfl) (show ((0 : Nat) : Int) = 0 from rfl) (i3I (y := (140 + 2 * (Z8 2 0 0 101))) (i3A (show (140 : Int32) = i3 140 from rfl) (i3M (show (2 : Int32) = i3 2 from rfl) (zm_rd (Z := Z8) (ν := ν) (k := 2) (show ((0 : Nat) : Int) = 0 from rfl) (show ((0 : Nat) : Int) = 0 from rfl) (show ((101 : Nat) : Int) = 101 from rfl)))) (by omega) (by omega) (by omega)) (i3R (i3D (zm_rd (Z := Z5) (ν := ν) (k := 1) (show ((0 : Nat) : Int) = 0 from rfl) (show ((0 : Nat) : Int) = 0 from rfl) (show ((3 : Nat) : Int) = 3 from rfl)) (show (16 : Int32) = i3 16 from rfl) (by omega) (by omega) (by omega) (by omega)) (show (26 : Int32) = i3 26 from rfl) (by omega) (by omega) (by omega) (by omega)))
    subst e9
    refine wz_i0 (i3O (n := 4400) (i3A (i3A (show (140 : Int32) = i3 140 from rfl) (i3M (show (2 : Int32) = i3 2 from rfl) (zm_rd (Z := Z8) (ν := ν) (k := 2) (show ((0 : Nat) : Int) = 0 from rfl) (show ((0 : Nat) : Int) = 0 from rfl) (show ((101 : Nat) : Int) = 101 from rfl)))) (show (1 : Int32) = i3 1 from rfl)) (by omega) (by omega) (by omega)) ?_
    have r12 := zM_k hZ8I 1 0 0 3 (lo := 0) (hi := 65535) (by decide) rfl
    have q13 := zu_at hZ8
    obtain ⟨Z14, hZ14⟩ := zx (zu Z11 2 0 0 (141 + 2 * (Z8 2 0 0 101)) (((Z8 1 0 0 3) / 16) % 10))
    replace hP := zl_e hP hZ14
    have hZ14I := zM_u2 hZ11I hZ14 (lo := 0) (hi := 9) (zs_140_1 (x := (Z8 2 0 0 101)) (by omega) (by omega) (by omega)) (by omega) ⟨by decide, by decide⟩ (by simp only [zsp]; omega)
    have hZ14U : zU [] Zs Z14 := zU_u hZ11U hZ14 (Or.inl rfl)
    have hZ14K : zC [1, 2] Zs Z14 := zC_u hZ11K hZ14 (zcl_2w (by omega) rfl)
    intro μ9 e9
    replace e9 := e9.trans (zm_wI (Z := Z11) (ν := ν) hZ14 (show ((0 : Nat) : Int) = 0 from rfl) (show ((0 : Nat) : Int) = 0 from rfl) (i3I (y := (141 + 2 * (Z8 2 0 0 101))) (i3A (i3A (show (140 : Int32) = i3 140 from rfl) (i3M (show (2 : Int32) = i3 2 from rfl) (zm_rd (Z := Z8) (ν := ν) (k := 2) (show ((0 : Nat) : Int) = 0 from rfl) (show ((0 : Nat) : Int) = 0 from rfl) (show ((101 : Nat) : Int) = 101 from rfl)))) (show (1 : Int32) = i3 1 from rfl)) (by omega) (by omega) (by omega)) (i3R (i3D (zm_rd (Z := Z8) (ν := ν) (k := 1) (show ((0 : Nat) : Int) = 0 from rfl) (show ((0 : Nat) : Int) = 0 from rfl) (show ((3 : Nat) : Int) = 3 from rfl)) (show (16 : Int32) = i3 16 from rfl) (by omega) (by omega) (by omega) (by omega)) (show (10 : Int32) = i3 10 from rfl) (by omega) (by omega) (by omega) (by omega)))
    subst e9
    have r15 := zM_k hZ14I 2 0 0 101 (lo := 0) (hi := 6) (by decide) rfl
    have q16 := (zu_ne (k' := 2) (b' := 0) (i' := 0) (j' := 101) hZ14 (fun q => absurd q.2.2.2 (by omega))).trans (zu_ne (k' := 2) (b' := 0) (i' := 0) (j' := 101) hZ11 (fun q => absurd q.2.2.2 (by omega)))
    obtain ⟨Z17, hZ17⟩ := zx (zu Z14 2 0 0 101 ((Z14 2 0 0 101) + 1))
    replace hP := zl_e hP hZ17
    have hZ17I := zM_u2 hZ14I hZ17 (lo := 0) (hi := 6) rfl (by omega) ⟨by decide, by decide⟩ (by simp only [zsp]; omega)
    have hZ17U : zU [] Zs Z17 := zU_u hZ14U hZ17 (Or.inl rfl)
    have hZ17K : zC [1, 2] Zs Z17 := zC_u hZ14K hZ17 (by decide)
    intro μ9 e9
    replace e9 := e9.trans (zm_wI (Z := Z14) (ν := ν) hZ17 (show ((0 : Nat) : Int) = 0 from rfl) (show ((0 : Nat) : Int) = 0 from rfl) (show ((101 : Nat) : Int) = 101 from rfl) (i3A (zm_rd (Z := Z14) (ν := ν) (k := 2) (show ((0 : Nat) : Int) = 0 from rfl) (show ((0 : Nat) : Int) = 0 from rfl) (show ((101 : Nat) : Int) = 101 from rfl)) (show (1 : Int32) = i3 1 from rfl)))
    subst e9
    have r18 := zM_k hZ17I 2 0 0 101 (lo := 0) (hi := 6) (by decide) rfl
    have q19 := zu_at hZ17
    have r20 := zM_k hZ17I 2 0 0 102 (lo := 0) (hi := 48) (by decide) rfl
    have q21 := (zu_ne (k' := 2) (b' := 0) (i' := 0) (j' := 102) hZ17 (fun q => absurd q.2.2.2 (by decide))).trans ((zu_ne (k' := 2) (b' := 0) (i' := 0) (j' := 102) hZ14 (fun q => absurd q.2.2.2 (by omega))).trans ((zu_ne (k' := 2) (b' := 0) (i' := 0) (j' := 102) hZ11 (fun q => absurd q.2.2.2 (by omega))).trans ((zu_ne (k' := 2) (b' := 0) (i' := 0) (j' := 102) hZ8 (fun q => absurd q.1 (by decide))).trans (zu_ne (k' := 2) (b' := 0) (i' := 0) (j' := 102) hZ5 (fun q => absurd q.1 (by decide))))))
    obtain ⟨m2, rfl⟩ : ∃ m2, m = m2 + 1 := ⟨m - 1, by omega⟩
    exact wz_k1 ⟨m2, by omega, Z17, (x4 + 1), (zconso rfl (zconso (zvo (rfl : i3 x1 = i3 x1)) (zconso (zvo (rfl : i3 x2 = i3 x2)) (zconso (zvo (rfl : i3 x3 = i3 x3)) (zconso (zvo (i3A (rfl : i3 x4 = i3 x4) (show (1 : Int32) = i3 1 from rfl))) (zconso rfl (zconso rfl (zconso rfl (zconso rfl (zconso rfl rfl)))))))))), rfl, hZ17I, hZ17K, hZ17U, by omega, by omega, by omega, by omega,  hP⟩
/- yX12_dSeason -/
def zl_328_3 (x1 : Int) (x2 : Int) (x3 : Int) : Nat → qz_Z → Int → qz_Z × Int
  | 0, Z, x4 => (Z, x4)
  | m + 1, Z, x4 => (if x1 ≤ x4 then (Z, x4) else (zlet (zu Z 1 0 0 3 (((25173 * (Z 1 0 0 3)) + 13849) % 65536)) (fun Z4 => (zlet (zu Z4 1 0 0 3 (((25173 * (Z4 1 0 0 3)) + 13849) % 65536)) (fun Z7 => (zlet (zu Z7 1 0 0 3 (((25173 * (Z7 1 0 0 3)) + 13849) % 65536)) (fun Z10 => (zlet (zu Z10 1 0 0 3 (((25173 * (Z10 1 0 0 3)) + 13849) % 65536)) (fun Z13 => (zlet (zu Z13 1 0 0 3 (((25173 * (Z13 1 0 0 3)) + 13849) % 65536)) (fun Z17 => (zlet (zu Z17 1 0 0 3 (((25173 * (Z17 1 0 0 3)) + 13849) % 65536)) (fun Z22 => (if (((Z22 1 0 0 3) / 16) % 2) ≠ 1 then (zlet2 (zf_327 Z22 (((Z4 1 0 0 3) / 16) % x3) (((Z7 1 0 0 3) / 16) % x2) (1 + (((Z10 1 0 0 3) / 16) % 40)) (((Z13 1 0 0 3) / 16) % 301) (((Z17 1 0 0 3) / 16) % ((((1 + (((Z10 1 0 0 3) / 16) % 40)) * (10 - (Z13 2 0 0 (141 + 2 * (((Z4 1 0 0 3) / 16) % x3))))) / 10) + 1)) (-1)) (fun Z30 v31 => zl_328_3 x1 x2 x3 m Z30 (x4 + 1))) else (zlet (zu Z22 1 0 0 3 (((25173 * (Z22 1 0 0 3)) + 13849) % 65536)) (fun Z33 => (zlet2 (zf_327 Z33 (((Z4 1 0 0 3) / 16) % x3) (((Z7 1 0 0 3) / 16) % x2) (1 + (((Z10 1 0 0 3) / 16) % 40)) (((Z13 1 0 0 3) / 16) % 301) (((Z17 1 0 0 3) / 16) % ((((1 + (((Z10 1 0 0 3) / 16) % 40)) * (10 - (Z13 2 0 0 (141 + 2 * (((Z4 1 0 0 3) / 16) % x3))))) / 10) + 1)) (((Z33 1 0 0 3) / 16) % 4)) (fun Z40 v41 => zl_328_3 x1 x2 x3 m Z40 (x4 + 1)))))))))))))))))))
theorem sl_328_3 {s : zSM} {Zs Z : qz_Z} {ν : qz_N} (hZ : zM s Z) (hM : s.2 + 0 ≤ 1000000000) (hK : zC [1, 2] Zs Z) {x1 : Int} (gx1 : 1 ≤ x1 ∧ x1 ≤ 12) {x2 : Int} (gx2 : 2 ≤ x2 ∧ x2 ≤ 5) {x3 : Int} (gx3 : 2 ≤ x3 ∧ x3 ≤ 6) {x4 : Int} (gx4 : 0 ≤ x4 ∧ x4 ≤ 12) (hU : zU [] Zs Z) (gr0 : Z 2 0 0 102 = x4) {k : wz_K} {R : wz_R} {L : qz_L} (hL : qz_fg [true, true, true, true, true, false, false, false, false, false] L = [some (.inr (.inr (some (1, 0, 0)))), some (.inl (i3 x1)), some (.inl (i3 x2)), some (.inl (i3 x3)), some (.inl (i3 x4)), none, none, none, none, none]) {T : qz_Z × Int} (hP : zE T (zl_328_3 x1 x2 x3 ((12 - x4).toNat + 1) Z x4)) (hk : ∀ (L9 : qz_L) (Z9 : qz_Z) (yx4 : Int), qz_fg [false, false, false, false, false, false, false, false, false, false] L9 = [none, none, none, none, none, none, none, none, none, none] → zM s Z9 → zC [1, 2] Zs Z9 → zU [] Zs Z9 → (0 ≤ yx4 ∧ yx4 ≤ 12) → (Z9 2 0 0 102 = yx4) → zE T ((Z9, yx4)) → k 0 (L9, [], zm Z9 ν)) : wz_loop qb_328_3 65536 k R (L, [], zm Z ν) := by
  refine wz_lp sb_328_3 (fun m x => ∃ Z : qz_Z, ∃ x4 : Int, qz_fg [true, true, true, true, true, false, false, false, false, false] x.1 = [some (.inr (.inr (some (1, 0, 0)))), some (.inl (i3 x1)), some (.inl (i3 x2)), some (.inl (i3 x3)), some (.inl (i3 x4)), none, none, none, none, none] ∧ x.2 = ([], zm Z ν) ∧ zM s Z ∧ zC [1, 2] Zs Z ∧ zU [] Zs Z ∧ m = (12 - x4).toNat ∧ (0 ≤ x4 ∧ x4 ≤ 12) ∧ (Z 2 0 0 102 = x4) ∧ zE T (zl_328_3 x1 x2 x3 (m + 1) Z x4)) ?_ 65536 ((12 - x4).toNat) _ (by omega) ⟨Z, x4, hL, rfl, hZ, hK, hU, rfl, gx4, gr0, hP⟩
  clear hP gr0 gx4 hZ hK hU hL
  clear x4
  clear Z
  rintro m ⟨L, st, μ⟩ ⟨Z, x4, hL, hx, hZ, hK, hU, hm, gx4, gr0, hP⟩
  cases hx
  refine fb_328_3 (i3 x1) (i3 x2) (i3 x3) (i3 x4) _ _ _ _ hL ?_
  have r1 := zM_k hZ 2 0 0 102 (lo := 0) (hi := 48) (by decide) rfl
  refine wz_br (i3Le (rfl : i3 x1 = i3 x1) (rfl : i3 x4 = i3 x4) (by omega) (by omega) (by omega) (by omega)) (fun h2 => ?_) (fun h2 => ?_)
  · replace hP := zE_p hP h2
    exact hk _ _ _ (zconso rfl (zconso rfl (zconso rfl (zconso rfl (zconso rfl (zconso rfl (zconso rfl (zconso rfl (zconso rfl (zconso rfl rfl)))))))))) hZ hK hU (by omega) (by omega) hP
  · replace hP := zE_n hP h2
    have r3 := zM_k hZ 1 0 0 3 (lo := 0) (hi := 65535) (by decide) rfl
    obtain ⟨Z4, hZ4⟩ := zx (zu Z 1 0 0 3 (((25173 * (Z 1 0 0 3)) + 13849) % 65536))
    replace hP := zl_e hP hZ4
    have hZ4I := zM_u hZ hZ4 (lo := 0) (hi := 65535) (by decide) rfl (by omega) ⟨by decide, by decide⟩ (Or.inr (by decide)) rfl
    have hZ4U : zU [] Zs Z4 := zU_u hU hZ4 (Or.inl rfl)
    have hZ4K : zC [1, 2] Zs Z4 := zC_u hK hZ4 (by decide)
    intro μ9 e9
    replace e9 := e9.trans (zm_wI (Z := Z) (ν := ν) hZ4 (show ((0 : Nat) : Int) = 0 from rfl) (show ((0 : Nat) : Int) = 0 from rfl) (show ((3 : Nat) : Int) = 3 from rfl) (i3R (i3A (i3M (show (25173 : Int32) = i3 25173 from rfl) (zm_rd (Z := Z) (ν := ν) (k := 1) (show ((0 : Nat) : Int) = 0 from rfl) (show ((0 : Nat) : Int) = 0 from rfl) (show ((3 : Nat) : Int) = 3 from rfl))) (show (13849 : Int32) = i3 13849 from rfl)) (show (65536 : Int32) = i3 65536 from rfl) (by omega) (by omega) (by omega) (by omega)))
    subst e9
    refine wz_i0 (i3N0 (rfl : i3 x3 = i3 x3) (by omega) (by omega) (by omega)) ?_
    have r5 := zM_k hZ4I 1 0 0 3 (lo := 0) (hi := 65535) (by decide) rfl
    have q6 := zu_at hZ4
    obtain ⟨Z7, hZ7⟩ := zx (zu Z4 1 0 0 3 (((25173 * (Z4 1 0 0 3)) + 13849) % 65536))
    replace hP := zl_e hP hZ7
    have hZ7I := zM_u hZ4I hZ7 (lo := 0) (hi := 65535) (by decide) rfl (by omega) ⟨by decide, by decide⟩ (Or.inr (by decide)) rfl
    have hZ7U : zU [] Zs Z7 := zU_u hZ4U hZ7 (Or.inl rfl)
    have hZ7K : zC [1, 2] Zs Z7 := zC_u hZ4K hZ7 (by decide)
    intro μ9 e9
    replace e9 := e9.trans (zm_wI (Z := Z4) (ν := ν) hZ7 (show ((0 : Nat) : Int) = 0 from rfl) (show ((0 : Nat) : Int) = 0 from rfl) (show ((3 : Nat) : Int) = 3 from rfl) (i3R (i3A (i3M (show (25173 : Int32) = i3 25173 from rfl) (zm_rd (Z := Z4) (ν := ν) (k := 1) (show ((0 : Nat) : Int) = 0 from rfl) (show ((0 : Nat) : Int) = 0 from rfl) (show ((3 : Nat) : Int) = 3 from rfl))) (show (13849 : Int32) = i3 13849 from rfl)) (show (65536 : Int32) = i3 65536 from rfl) (by omega) (by omega) (by omega) (by omega)))
    subst e9
    refine wz_i0 (i3N0 (rfl : i3 x2 = i3 x2) (by omega) (by omega) (by omega)) ?_
    have r8 := zM_k hZ7I 1 0 0 3 (lo := 0) (hi := 65535) (by decide) rfl
    have q9 := zu_at hZ7
    obtain ⟨Z10, hZ10⟩ := zx (zu Z7 1 0 0 3 (((25173 * (Z7 1 0 0 3)) + 13849) % 65536))
    replace hP := zl_e hP hZ10
    have hZ10I := zM_u hZ7I hZ10 (lo := 0) (hi := 65535) (by decide) rfl (by omega) ⟨by decide, by decide⟩ (Or.inr (by decide)) rfl
    have hZ10U : zU [] Zs Z10 := zU_u hZ7U hZ10 (Or.inl rfl)
    have hZ10K : zC [1, 2] Zs Z10 := zC_u hZ7K hZ10 (by decide)
    intro μ9 e9
    replace e9 := e9.trans (zm_wI (Z := Z7) (ν := ν) hZ10 (show ((0 : Nat) : Int) = 0 from rfl) (show ((0 : Nat) : Int) = 0 from rfl) (show ((3 : Nat) : Int) = 3 from rfl) (i3R (i3A (i3M (show (25173 : Int32) = i3 25173 from rfl) (zm_rd (Z := Z7) (ν := ν) (k := 1) (show ((0 : Nat) : Int) = 0 from rfl) (show ((0 : Nat) : Int) = 0 from rfl) (show ((3 : Nat) : Int) = 3 from rfl))) (show (13849 : Int32) = i3 13849 from rfl)) (show (65536 : Int32) = i3 65536 from rfl) (by omega) (by omega) (by omega) (by omega)))
    subst e9
    have r11 := zM_k hZ10I 1 0 0 3 (lo := 0) (hi := 65535) (by decide) rfl
    have q12 := zu_at hZ10
    obtain ⟨Z13, hZ13⟩ := zx (zu Z10 1 0 0 3 (((25173 * (Z10 1 0 0 3)) + 13849) % 65536))
    replace hP := zl_e hP hZ13
    have hZ13I := zM_u hZ10I hZ13 (lo := 0) (hi := 65535) (by decide) rfl (by omega) ⟨by decide, by decide⟩ (Or.inr (by decide)) rfl
    have hZ13U : zU [] Zs Z13 := zU_u hZ10U hZ13 (Or.inl rfl)
    have hZ13K : zC [1, 2] Zs Z13 := zC_u hZ10K hZ13 (by decide)
    intro μ9 e9
    replace e9 := e9.trans (zm_wI (Z := Z10) (ν := ν) hZ13 (show ((0 : Nat) : Int) = 0 from rfl) (show ((0 : Nat) : Int) = 0 from rfl) (show ((3 : Nat) : Int) = 3 from rfl) (i3R (i3A (i3M (show (25173 : Int32) = i3 25173 from rfl) (zm_rd (Z := Z10) (ν := ν) (k := 1) (show ((0 : Nat) : Int) = 0 from rfl) (show ((0 : Nat) : Int) = 0 from rfl) (show ((3 : Nat) : Int) = 3 from rfl))) (show (13849 : Int32) = i3 13849 from rfl)) (show (65536 : Int32) = i3 65536 from rfl) (by omega) (by omega) (by omega) (by omega)))
    subst e9
    have r14 := z_mod ((Z4 1 0 0 3) / 16) (y := x3) (by omega)
    refine wz_i0 (i3O (n := 4400) (i3A (i3A (show (140 : Int32) = i3 140 from rfl) (i3M (show (2 : Int32) = i3 2 from rfl) (i3R (i3D (zm_rd (Z := Z4) (ν := ν) (k := 1) (show ((0 : Nat) : Int) = 0 from rfl) (show ((0 : Nat) : Int) = 0 from rfl) (show ((3 : Nat) : Int) = 3 from rfl)) (show (16 : Int32) = i3 16 from rfl) (by omega) (by omega) (by omega) (by omega)) (rfl : i3 x3 = i3 x3) (by omega) (by omega) (by omega) (by omega)))) (show (1 : Int32) = i3 1 from rfl)) (by omega) (by omega) (by omega)) ?_
    have r15 := zM_k hZ13I 1 0 0 3 (lo := 0) (hi := 65535) (by decide) rfl
    have q16 := zu_at hZ13
    obtain ⟨Z17, hZ17⟩ := zx (zu Z13 1 0 0 3 (((25173 * (Z13 1 0 0 3)) + 13849) % 65536))
    replace hP := zl_e hP hZ17
    have hZ17I := zM_u hZ13I hZ17 (lo := 0) (hi := 65535) (by decide) rfl (by omega) ⟨by decide, by decide⟩ (Or.inr (by decide)) rfl
    have hZ17U : zU [] Zs Z17 := zU_u hZ13U hZ17 (Or.inl rfl)
    have hZ17K : zC [1, 2] Zs Z17 := zC_u hZ13K hZ17 (by decide)
    intro μ9 e9
    replace e9 := e9.trans (zm_wI (Z := Z13) (ν := ν) hZ17 (show ((0 : Nat) : Int) = 0 from rfl) (show ((0 : Nat) : Int) = 0 from rfl) (show ((3 : Nat) : Int) = 3 from rfl) (i3R (i3A (i3M (show (25173 : Int32) = i3 25173 from rfl) (zm_rd (Z := Z13) (ν := ν) (k := 1) (show ((0 : Nat) : Int) = 0 from rfl) (show ((0 : Nat) : Int) = 0 from rfl) (show ((3 : Nat) : Int) = 3 from rfl))) (show (13849 : Int32) = i3 13849 from rfl)) (show (65536 : Int32) = i3 65536 from rfl) (by omega) (by omega) (by omega) (by omega)))
    subst e9
    have r18 := zM_k hZ13I 2 0 0 (141 + 2 * (((Z4 1 0 0 3) / 16) % x3)) (lo := 0) (hi := 9) (by decide) (zs_140_1 (x := (((Z4 1 0 0 3) / 16) % x3)) (by omega) (by omega) (by omega))
    have r19 := z_mul (x := (1 + (((Z10 1 0 0 3) / 16) % 40))) (y := (10 - (Z13 2 0 0 (141 + 2 * (((Z4 1 0 0 3) / 16) % x3))))) (a := 40) (b := 10) (by omega) (by omega) (by omega) (by omega)
    refine wz_i0 (i3N0 (i3A (i3D (i3M (i3A (show (1 : Int32) = i3 1 from rfl) (i3R (i3D (zm_rd (Z := Z10) (ν := ν) (k := 1) (show ((0 : Nat) : Int) = 0 from rfl) (show ((0 : Nat) : Int) = 0 from rfl) (show ((3 : Nat) : Int) = 3 from rfl)) (show (16 : Int32) = i3 16 from rfl) (by omega) (by omega) (by omega) (by omega)) (show (40 : Int32) = i3 40 from rfl) (by omega) (by omega) (by omega) (by omega))) (i3S (show (10 : Int32) = i3 10 from rfl) (zm_rd (Z := Z13) (ν := ν) (k := 2) (show ((0 : Nat) : Int) = 0 from rfl) (show ((0 : Nat) : Int) = 0 from rfl) (i3I (y := (141 + 2 * (((Z4 1 0 0 3) / 16) % x3))) (i3A (i3A (show (140 : Int32) = i3 140 from rfl) (i3M (show (2 : Int32) = i3 2 from rfl) (i3R (i3D (zm_rd (Z := Z4) (ν := ν) (k := 1) (show ((0 : Nat) : Int) = 0 from rfl) (show ((0 : Nat) : Int) = 0 from rfl) (show ((3 : Nat) : Int) = 3 from rfl)) (show (16 : Int32) = i3 16 from rfl) (by omega) (by omega) (by omega) (by omega)) (rfl : i3 x3 = i3 x3) (by omega) (by omega) (by omega) (by omega)))) (show (1 : Int32) = i3 1 from rfl)) (by omega) (by omega) (by omega))))) (show (10 : Int32) = i3 10 from rfl) (by omega) (by omega) (by omega) (by omega)) (show (1 : Int32) = i3 1 from rfl)) (by omega) (by omega) (by omega)) ?_
    have r20 := zM_k hZ17I 1 0 0 3 (lo := 0) (hi := 65535) (by decide) rfl
    have q21 := zu_at hZ17
    obtain ⟨Z22, hZ22⟩ := zx (zu Z17 1 0 0 3 (((25173 * (Z17 1 0 0 3)) + 13849) % 65536))
    replace hP := zl_e hP hZ22
    have hZ22I := zM_u hZ17I hZ22 (lo := 0) (hi := 65535) (by decide) rfl (by omega) ⟨by decide, by decide⟩ (Or.inr (by decide)) rfl
    have hZ22U : zU [] Zs Z22 := zU_u hZ17U hZ22 (Or.inl rfl)
    have hZ22K : zC [1, 2] Zs Z22 := zC_u hZ17K hZ22 (by decide)
    intro μ9 e9
    replace e9 := e9.trans (zm_wI (Z := Z17) (ν := ν) hZ22 (show ((0 : Nat) : Int) = 0 from rfl) (show ((0 : Nat) : Int) = 0 from rfl) (show ((3 : Nat) : Int) = 3 from rfl) (i3R (i3A (i3M (show (25173 : Int32) = i3 25173 from rfl) (zm_rd (Z := Z17) (ν := ν) (k := 1) (show ((0 : Nat) : Int) = 0 from rfl) (show ((0 : Nat) : Int) = 0 from rfl) (show ((3 : Nat) : Int) = 3 from rfl))) (show (13849 : Int32) = i3 13849 from rfl)) (show (65536 : Int32) = i3 65536 from rfl) (by omega) (by omega) (by omega) (by omega)))
    subst e9
    have r23 := zM_k hZ22I 1 0 0 3 (lo := 0) (hi := 65535) (by decide) rfl
    have q24 := zu_at hZ22
    refine wz_br (i3NE (i3R (i3D (zm_rd (Z := Z22) (ν := ν) (k := 1) (show ((0 : Nat) : Int) = 0 from rfl) (show ((0 : Nat) : Int) = 0 from rfl) (show ((3 : Nat) : Int) = 3 from rfl)) (show (16 : Int32) = i3 16 from rfl) (by omega) (by omega) (by omega) (by omega)) (show (2 : Int32) = i3 2 from rfl) (by omega) (by omega) (by omega) (by omega)) (show (1 : Int32) = i3 1 from rfl) (by omega) (by omega) (by omega) (by omega)) (fun h25 => ?_) (fun h25 => ?_)
    · replace hP := zE_p hP h25
      have r26 := z_mod ((Z7 1 0 0 3) / 16) (y := x2) (by omega)
      have r27 := z_mod ((Z17 1 0 0 3) / 16) (y := ((((1 + (((Z10 1 0 0 3) / 16) % 40)) * (10 - (Z13 2 0 0 (141 + 2 * (((Z4 1 0 0 3) / 16) % x3))))) / 10) + 1)) (by omega)
      have r28 := zM_k hZ22I 2 0 0 102 (lo := 0) (hi := 48) (by decide) rfl
      have q29 := (zu_ne (k' := 2) (b' := 0) (i' := 0) (j' := 102) hZ22 (fun q => absurd q.1 (by decide))).trans ((zu_ne (k' := 2) (b' := 0) (i' := 0) (j' := 102) hZ17 (fun q => absurd q.1 (by decide))).trans ((zu_ne (k' := 2) (b' := 0) (i' := 0) (j' := 102) hZ13 (fun q => absurd q.1 (by decide))).trans ((zu_ne (k' := 2) (b' := 0) (i' := 0) (j' := 102) hZ10 (fun q => absurd q.1 (by decide))).trans ((zu_ne (k' := 2) (b' := 0) (i' := 0) (j' := 102) hZ7 (fun q => absurd q.1 (by decide))).trans (zu_ne (k' := 2) (b' := 0) (i' := 0) (j' := 102) hZ4 (fun q => absurd q.1 (by decide)))))))
      obtain ⟨Z30, v31, hv31, c9, hZ30I, kZ30, jZ30, lv31, uv31, wv310⟩ := sp_327 (ν := ν) hZ22I (a1 := (((Z4 1 0 0 3) / 16) % x3)) (by omega) (a2 := (((Z7 1 0 0 3) / 16) % x2)) (by omega) (a3 := (1 + (((Z10 1 0 0 3) / 16) % 40))) (by omega) (a4 := (((Z13 1 0 0 3) / 16) % 301)) (by omega) (a5 := (((Z17 1 0 0 3) / 16) % ((((1 + (((Z10 1 0 0 3) / 16) % 40)) * (10 - (Z13 2 0 0 (141 + 2 * (((Z4 1 0 0 3) / 16) % x3))))) / 10) + 1))) (by omega) (a6 := (-1)) (by omega) (by omega) (zbh (c := 0) (k := 0) hM (Nat.le_of_ble_eq_true rfl))
      have hZ30U : zU [] Zs Z30 := zU_t hZ22U jZ30 zU_b0
      have hZ30K : zC [1, 2] Zs Z30 := zC_t hZ22K kZ30 (by decide)
      replace hP := zl_e2 hP hv31
      refine wz_cI_of (zas (zcons rfl (zcons (zvi (i3R (i3D (zm_rd (Z := Z4) (ν := ν) (k := 1) (show ((0 : Nat) : Int) = 0 from rfl) (show ((0 : Nat) : Int) = 0 from rfl) (show ((3 : Nat) : Int) = 3 from rfl)) (show (16 : Int32) = i3 16 from rfl) (by omega) (by omega) (by omega) (by omega)) (rfl : i3 x3 = i3 x3) (by omega) (by omega) (by omega) (by omega))) (zcons (zvi (i3R (i3D (zm_rd (Z := Z7) (ν := ν) (k := 1) (show ((0 : Nat) : Int) = 0 from rfl) (show ((0 : Nat) : Int) = 0 from rfl) (show ((3 : Nat) : Int) = 3 from rfl)) (show (16 : Int32) = i3 16 from rfl) (by omega) (by omega) (by omega) (by omega)) (rfl : i3 x2 = i3 x2) (by omega) (by omega) (by omega) (by omega))) (zcons (zvi (i3A (show (1 : Int32) = i3 1 from rfl) (i3R (i3D (zm_rd (Z := Z10) (ν := ν) (k := 1) (show ((0 : Nat) : Int) = 0 from rfl) (show ((0 : Nat) : Int) = 0 from rfl) (show ((3 : Nat) : Int) = 3 from rfl)) (show (16 : Int32) = i3 16 from rfl) (by omega) (by omega) (by omega) (by omega)) (show (40 : Int32) = i3 40 from rfl) (by omega) (by omega) (by omega) (by omega)))) (zcons (zvi (i3R (i3D (zm_rd (Z := Z13) (ν := ν) (k := 1) (show ((0 : Nat) : Int) = 0 from rfl) (show ((0 : Nat) : Int) = 0 from rfl) (show ((3 : Nat) : Int) = 3 from rfl)) (show (16 : Int32) = i3 16 from rfl) (by omega) (by omega) (by omega) (by omega)) (show (301 : Int32) = i3 301 from rfl) (by omega) (by omega) (by omega) (by omega))) (zcons (zvi (i3R (i3D (zm_rd (Z := Z17) (ν := ν) (k := 1) (show ((0 : Nat) : Int) = 0 from rfl) (show ((0 : Nat) : Int) = 0 from rfl) (show ((3 : Nat) : Int) = 3 from rfl)) (show (16 : Int32) = i3 16 from rfl) (by omega) (by omega) (by omega) (by omega)) (i3A (i3D (i3M (i3A (show (1 : Int32) = i3 1 from rfl) (i3R (i3D (zm_rd (Z := Z10) (ν := ν) (k := 1) (show ((0 : Nat) : Int) = 0 from rfl) (show ((0 : Nat) : Int) = 0 from rfl) (show ((3 : Nat) : Int) = 3 from rfl)) (show (16 : Int32) = i3 16 from rfl) (by omega) (by omega) (by omega) (by omega)) (show (40 : Int32) = i3 40 from rfl) (by omega) (by omega) (by omega) (by omega))) (i3S (show (10 : Int32) = i3 10 from rfl) (zm_rd (Z := Z13) (ν := ν) (k := 2) (show ((0 : Nat) : Int) = 0 from rfl) (show ((0 : Nat) : Int) = 0 from rfl) (i3I (y := (141 + 2 * (((Z4 1 0 0 3) / 16) % x3))) (i3A (i3A (show (140 : Int32) = i3 140 from rfl) (i3M (show (2 : Int32) = i3 2 from rfl) (i3R (i3D (zm_rd (Z := Z4) (ν := ν) (k := 1) (show ((0 : Nat) : Int) = 0 from rfl) (show ((0 : Nat) : Int) = 0 from rfl) (show ((3 : Nat) : Int) = 3 from rfl)) (show (16 : Int32) = i3 16 from rfl) (by omega) (by omega) (by omega) (by omega)) (rfl : i3 x3 = i3 x3) (by omega) (by omega) (by omega) (by omega)))) (show (1 : Int32) = i3 1 from rfl)) (by omega) (by omega) (by omega))))) (show (10 : Int32) = i3 10 from rfl) (by omega) (by omega) (by omega) (by omega)) (show (1 : Int32) = i3 1 from rfl)) (by omega) (by omega) (by omega) (by omega))) (zcons (zvi (show (-1 : Int32) = i3 (-1) from rfl)) rfl))))))) c9) ?_
      clear c9 hv31
      have r32 := zM_k hZ30I 2 0 0 102 (lo := 0) (hi := 48) (by decide) rfl
      obtain ⟨m2, rfl⟩ : ∃ m2, m = m2 + 1 := ⟨m - 1, by omega⟩
      exact wz_k1 ⟨m2, by omega, Z30, (x4 + 1), (zconso rfl (zconso (zvo (rfl : i3 x1 = i3 x1)) (zconso (zvo (rfl : i3 x2 = i3 x2)) (zconso (zvo (rfl : i3 x3 = i3 x3)) (zconso (zvo (i3A (rfl : i3 x4 = i3 x4) (show (1 : Int32) = i3 1 from rfl))) (zconso rfl (zconso rfl (zconso rfl (zconso rfl (zconso rfl rfl)))))))))), rfl, hZ30I, hZ30K, hZ30U, by omega, by omega, by omega,  hP⟩
    · replace hP := zE_n hP h25
      obtain ⟨Z33, hZ33⟩ := zx (zu Z22 1 0 0 3 (((25173 * (Z22 1 0 0 3)) + 13849) % 65536))
      replace hP := zl_e hP hZ33
      have hZ33I := zM_u hZ22I hZ33 (lo := 0) (hi := 65535) (by decide) rfl (by omega) ⟨by decide, by decide⟩ (Or.inr (by decide)) rfl
      have hZ33U : zU [] Zs Z33 := zU_u hZ22U hZ33 (Or.inl rfl)
      have hZ33K : zC [1, 2] Zs Z33 := zC_u hZ22K hZ33 (by decide)
      intro μ9 e9
      replace e9 := e9.trans (zm_wI (Z := Z22) (ν := ν) hZ33 (show ((0 : Nat) : Int) = 0 from rfl) (show ((0 : Nat) : Int) = 0 from rfl) (show ((3 : Nat) : Int) = 3 from rfl) (i3R (i3A (i3M (show (25173 : Int32) = i3 25173 from rfl) (zm_rd (Z := Z22) (ν := ν) (k := 1) (show ((0 : Nat) : Int) = 0 from rfl) (show ((0 : Nat) : Int) = 0 from rfl) (show ((3 : Nat) : Int) = 3 from rfl))) (show (13849 : Int32) = i3 13849 from rfl)) (show (65536 : Int32) = i3 65536 from rfl) (by omega) (by omega) (by omega) (by omega)))
      subst e9
      have r34 := z_mod ((Z7 1 0 0 3) / 16) (y := x2) (by omega)
      have r35 := z_mod ((Z17 1 0 0 3) / 16) (y := ((((1 + (((Z10 1 0 0 3) / 16) % 40)) * (10 - (Z13 2 0 0 (141 + 2 * (((Z4 1 0 0 3) / 16) % x3))))) / 10) + 1)) (by omega)
      have r36 := zM_k hZ33I 1 0 0 3 (lo := 0) (hi := 65535) (by decide) rfl
      have q37 := zu_at hZ33
      have r38 := zM_k hZ33I 2 0 0 102 (lo := 0) (hi := 48) (by decide) rfl
      have q39 := (zu_ne (k' := 2) (b' := 0) (i' := 0) (j' := 102) hZ33 (fun q => absurd q.1 (by decide))).trans ((zu_ne (k' := 2) (b' := 0) (i' := 0) (j' := 102) hZ22 (fun q => absurd q.1 (by decide))).trans ((zu_ne (k' := 2) (b' := 0) (i' := 0) (j' := 102) hZ17 (fun q => absurd q.1 (by decide))).trans ((zu_ne (k' := 2) (b' := 0) (i' := 0) (j' := 102) hZ13 (fun q => absurd q.1 (by decide))).trans ((zu_ne (k' := 2) (b' := 0) (i' := 0) (j' := 102) hZ10 (fun q => absurd q.1 (by decide))).trans ((zu_ne (k' := 2) (b' := 0) (i' := 0) (j' := 102) hZ7 (fun q => absurd q.1 (by decide))).trans (zu_ne (k' := 2) (b' := 0) (i' := 0) (j' := 102) hZ4 (fun q => absurd q.1 (by decide))))))))
      obtain ⟨Z40, v41, hv41, c9, hZ40I, kZ40, jZ40, lv41, uv41, wv410⟩ := sp_327 (ν := ν) hZ33I (a1 := (((Z4 1 0 0 3) / 16) % x3)) (by omega) (a2 := (((Z7 1 0 0 3) / 16) % x2)) (by omega) (a3 := (1 + (((Z10 1 0 0 3) / 16) % 40))) (by omega) (a4 := (((Z13 1 0 0 3) / 16) % 301)) (by omega) (a5 := (((Z17 1 0 0 3) / 16) % ((((1 + (((Z10 1 0 0 3) / 16) % 40)) * (10 - (Z13 2 0 0 (141 + 2 * (((Z4 1 0 0 3) / 16) % x3))))) / 10) + 1))) (by omega) (a6 := (((Z33 1 0 0 3) / 16) % 4)) (by omega) (by omega) (zbh (c := 0) (k := 0) hM (Nat.le_of_ble_eq_true rfl))
      have hZ40U : zU [] Zs Z40 := zU_t hZ33U jZ40 zU_b0
      have hZ40K : zC [1, 2] Zs Z40 := zC_t hZ33K kZ40 (by decide)
      replace hP := zl_e2 hP hv41
      refine wz_cI_of (zas (zcons rfl (zcons (zvi (i3R (i3D (zm_rd (Z := Z4) (ν := ν) (k := 1) (show ((0 : Nat) : Int) = 0 from rfl) (show ((0 : Nat) : Int) = 0 from rfl) (show ((3 : Nat) : Int) = 3 from rfl)) (show (16 : Int32) = i3 16 from rfl) (by omega) (by omega) (by omega) (by omega)) (rfl : i3 x3 = i3 x3) (by omega) (by omega) (by omega) (by omega))) (zcons (zvi (i3R (i3D (zm_rd (Z := Z7) (ν := ν) (k := 1) (show ((0 : Nat) : Int) = 0 from rfl) (show ((0 : Nat) : Int) = 0 from rfl) (show ((3 : Nat) : Int) = 3 from rfl)) (show (16 : Int32) = i3 16 from rfl) (by omega) (by omega) (by omega) (by omega)) (rfl : i3 x2 = i3 x2) (by omega) (by omega) (by omega) (by omega))) (zcons (zvi (i3A (show (1 : Int32) = i3 1 from rfl) (i3R (i3D (zm_rd (Z := Z10) (ν := ν) (k := 1) (show ((0 : Nat) : Int) = 0 from rfl) (show ((0 : Nat) : Int) = 0 from rfl) (show ((3 : Nat) : Int) = 3 from rfl)) (show (16 : Int32) = i3 16 from rfl) (by omega) (by omega) (by omega) (by omega)) (show (40 : Int32) = i3 40 from rfl) (by omega) (by omega) (by omega) (by omega)))) (zcons (zvi (i3R (i3D (zm_rd (Z := Z13) (ν := ν) (k := 1) (show ((0 : Nat) : Int) = 0 from rfl) (show ((0 : Nat) : Int) = 0 from rfl) (show ((3 : Nat) : Int) = 3 from rfl)) (show (16 : Int32) = i3 16 from rfl) (by omega) (by omega) (by omega) (by omega)) (show (301 : Int32) = i3 301 from rfl) (by omega) (by omega) (by omega) (by omega))) (zcons (zvi (i3R (i3D (zm_rd (Z := Z17) (ν := ν) (k := 1) (show ((0 : Nat) : Int) = 0 from rfl) (show ((0 : Nat) : Int) = 0 from rfl) (show ((3 : Nat) : Int) = 3 from rfl)) (show (16 : Int32) = i3 16 from rfl) (by omega) (by omega) (by omega) (by omega)) (i3A (i3D (i3M (i3A (show (1 : Int32) = i3 1 from rfl) (i3R (i3D (zm_rd (Z := Z10) (ν := ν) (k := 1) (show ((0 : Nat) : Int) = 0 from rfl) (show ((0 : Nat) : Int) = 0 from rfl) (show ((3 : Nat) : Int) = 3 from rfl)) (show (16 : Int32) = i3 16 from rfl) (by omega) (by omega) (by omega) (by omega)) (show (40 : Int32) = i3 40 from rfl) (by omega) (by omega) (by omega) (by omega))) (i3S (show (10 : Int32) = i3 10 from rfl) (zm_rd (Z := Z13) (ν := ν) (k := 2) (show ((0 : Nat) : Int) = 0 from rfl) (show ((0 : Nat) : Int) = 0 from rfl) (i3I (y := (141 + 2 * (((Z4 1 0 0 3) / 16) % x3))) (i3A (i3A (show (140 : Int32) = i3 140 from rfl) (i3M (show (2 : Int32) = i3 2 from rfl) (i3R (i3D (zm_rd (Z := Z4) (ν := ν) (k := 1) (show ((0 : Nat) : Int) = 0 from rfl) (show ((0 : Nat) : Int) = 0 from rfl) (show ((3 : Nat) : Int) = 3 from rfl)) (show (16 : Int32) = i3 16 from rfl) (by omega) (by omega) (by omega) (by omega)) (rfl : i3 x3 = i3 x3) (by omega) (by omega) (by omega) (by omega)))) (show (1 : Int32) = i3 1 from rfl)) (by omega) (by omega) (by omega))))) (show (10 : Int32) = i3 10 from rfl) (by omega) (by omega) (by omega) (by omega)) (show (1 : Int32) = i3 1 from rfl)) (by omega) (by omega) (by omega) (by omega))) (zcons (zvi (i3R (i3D (zm_rd (Z := Z33) (ν := ν) (k := 1) (show ((0 : Nat) : Int) = 0 from rfl) (show ((0 : Nat) : Int) = 0 from rfl) (show ((3 : Nat) : Int) = 3 from rfl)) (show (16 : Int32) = i3 16 from rfl) (by omega) (by omega) (by omega) (by omega)) (show (4 : Int32) = i3 4 from rfl) (by omega) (by omega) (by omega) (by omega))) rfl))))))) c9) ?_
      clear c9 hv41
      have r42 := zM_k hZ40I 2 0 0 102 (lo := 0) (hi := 48) (by decide) rfl
      obtain ⟨m2, rfl⟩ : ∃ m2, m = m2 + 1 := ⟨m - 1, by omega⟩
      exact wz_k1 ⟨m2, by omega, Z40, (x4 + 1), (zconso rfl (zconso (zvo (rfl : i3 x1 = i3 x1)) (zconso (zvo (rfl : i3 x2 = i3 x2)) (zconso (zvo (rfl : i3 x3 = i3 x3)) (zconso (zvo (i3A (rfl : i3 x4 = i3 x4) (show (1 : Int32) = i3 1 from rfl))) (zconso rfl (zconso rfl (zconso rfl (zconso rfl (zconso rfl rfl)))))))))), rfl, hZ40I, hZ40K, hZ40U, by omega, by omega, by omega,  hP⟩
/- yX12_dSeason -/
def zf_328 (Z : qz_Z) (a1 : Int) : qz_Z := (zlet (zu Z 1 0 0 3 (((25173 * (Z 1 0 0 3)) + 13849) % 65536)) (fun Z5 => (zlet2 (zl_328_1 a1 (2 + (((Z5 1 0 0 3) / 16) % 4)) 6 Z5 0) (fun Z9 y8 => (zlet (zu Z9 1 0 0 3 (((25173 * (Z9 1 0 0 3)) + 13849) % 65536)) (fun Z21 => (zlet2 (zl_328_2 a1 (2 + (((Z5 1 0 0 3) / 16) % 4)) (2 + (((Z21 1 0 0 3) / 16) % 5)) 7 Z21 0) (fun Z25 y24 => (zlet2 (zl_328_3 a1 (2 + (((Z5 1 0 0 3) / 16) % 4)) (2 + (((Z21 1 0 0 3) / 16) % 5)) 13 Z25 0) (fun Z34 y33 => Z34))))))))))
theorem sp_328 {s : zSM} {Z : qz_Z} {ν : qz_N} (hZ : zM s Z) {a1 : Int} (ga1 : 1 ≤ a1 ∧ a1 ≤ 12) (gx0 : Z 2 0 0 100 = 0) (gx1 : Z 2 0 0 101 = 0) (gx2 : Z 2 0 0 102 = 0) (hM : s.2 + 0 ≤ 1000000000) : ∃ P : qz_Z, P = zf_328 Z a1 ∧ (qf_328 [.inr (.inr (some (1, 0, 0))), .inl (i3 a1)] (zm Z ν) = some (zm P ν, .inl none) ∧ zM s P ∧ zC [1, 2] Z P ∧ zU [] Z P) := by
  obtain ⟨P, hP⟩ := zx (zf_328 Z a1)
  refine zc_V (Q := fun P => zM s P ∧ zC [1, 2] Z P ∧ zU [] Z P) hP (fw_328 (i3 a1) _ _ ?_)
  replace hP : zE P (zf_328 Z a1) := hP
  unfold zf_328 at hP
  have r1 := zM_k hZ 2 0 0 100 (lo := 0) (hi := 5) (by decide) rfl
  have r2 := zM_k hZ 2 0 0 101 (lo := 0) (hi := 6) (by decide) rfl
  have r3 := zM_k hZ 2 0 0 102 (lo := 0) (hi := 48) (by decide) rfl
  have r4 := zM_k hZ 1 0 0 3 (lo := 0) (hi := 65535) (by decide) rfl
  obtain ⟨Z5, hZ5⟩ := zx (zu Z 1 0 0 3 (((25173 * (Z 1 0 0 3)) + 13849) % 65536))
  replace hP := zl_e hP hZ5
  have hZ5I := zM_u hZ hZ5 (lo := 0) (hi := 65535) (by decide) rfl (by omega) ⟨by decide, by decide⟩ (Or.inr (by decide)) rfl
  have hZ5U : zU [] Z Z5 := zU_u zU_r hZ5 (Or.inl rfl)
  have hZ5K : zC [1, 2] Z Z5 := zC_u zC_r hZ5 (by decide)
  intro μ9 e9
  replace e9 := e9.trans (zm_wI (Z := Z) (ν := ν) hZ5 (show ((0 : Nat) : Int) = 0 from rfl) (show ((0 : Nat) : Int) = 0 from rfl) (show ((3 : Nat) : Int) = 3 from rfl) (i3R (i3A (i3M (show (25173 : Int32) = i3 25173 from rfl) (zm_rd (Z := Z) (ν := ν) (k := 1) (show ((0 : Nat) : Int) = 0 from rfl) (show ((0 : Nat) : Int) = 0 from rfl) (show ((3 : Nat) : Int) = 3 from rfl))) (show (13849 : Int32) = i3 13849 from rfl)) (show (65536 : Int32) = i3 65536 from rfl) (by omega) (by omega) (by omega) (by omega)))
  subst e9
  have r6 := zM_k hZ5I 1 0 0 3 (lo := 0) (hi := 65535) (by decide) rfl
  have q7 := zu_at hZ5
  have r10 := zM_k hZ5I 2 0 0 100 (lo := 0) (hi := 5) (by decide) rfl
  have q11 := zu_ne (k' := 2) (b' := 0) (i' := 0) (j' := 100) hZ5 (fun q => absurd q.1 (by decide))
  have r12 := zM_k hZ5I 2 0 0 101 (lo := 0) (hi := 6) (by decide) rfl
  have q13 := zu_ne (k' := 2) (b' := 0) (i' := 0) (j' := 101) hZ5 (fun q => absurd q.1 (by decide))
  have r14 := zM_k hZ5I 2 0 0 102 (lo := 0) (hi := 48) (by decide) rfl
  have q15 := zu_ne (k' := 2) (b' := 0) (i' := 0) (j' := 102) hZ5 (fun q => absurd q.1 (by decide))
  refine sl_328_1 (ν := ν) hZ5I (zbh (c := 0) (k := 0) hM (Nat.le_of_ble_eq_true rfl)) zC_r (x1 := a1) (by omega) (x2 := (2 + (((Z5 1 0 0 3) / 16) % 4))) (by omega) (x3 := 0) (by omega) zU_r (by omega) (by omega) (by omega) (zconso rfl (zconso (zvo (rfl : i3 a1 = i3 a1)) (zconso (zvo (i3A (show (2 : Int32) = i3 2 from rfl) (i3R (i3D (zm_rd (Z := Z5) (ν := ν) (k := 1) (show ((0 : Nat) : Int) = 0 from rfl) (show ((0 : Nat) : Int) = 0 from rfl) (show ((3 : Nat) : Int) = 3 from rfl)) (show (16 : Int32) = i3 16 from rfl) (by omega) (by omega) (by omega) (by omega)) (show (4 : Int32) = i3 4 from rfl) (by omega) (by omega) (by omega) (by omega)))) (zconso (zvo (show (0 : Int32) = i3 0 from rfl)) (zconso rfl (zconso rfl (zconso rfl (zconso rfl (zconso rfl (zconso rfl rfl)))))))))) rfl ?_
  intro L16 Z9 y8 hL16 hZ9I kZ9 jZ9 gy8 gL16_0 gL16_1 gL16_2 q9
  replace hP := zl_e2 hP (Eq.symm q9)
  clear q9
  have hZ9U : zU [] Z Z9 := zU_t hZ5U jZ9 zU_b0
  have hZ9K : zC [1, 2] Z Z9 := zC_t hZ5K kZ9 (by decide)
  have r17 := zM_k hZ9I 2 0 0 100 (lo := 0) (hi := 5) (by decide) rfl
  have r18 := zM_k hZ9I 2 0 0 101 (lo := 0) (hi := 6) (by decide) rfl
  have r19 := zM_k hZ9I 2 0 0 102 (lo := 0) (hi := 48) (by decide) rfl
  refine fc_328_6 (i3 a1) (i3 (2 + (((Z5 1 0 0 3) / 16) % 4))) _ _ _ _ hL16 ?_
  have r20 := zM_k hZ9I 1 0 0 3 (lo := 0) (hi := 65535) (by decide) rfl
  obtain ⟨Z21, hZ21⟩ := zx (zu Z9 1 0 0 3 (((25173 * (Z9 1 0 0 3)) + 13849) % 65536))
  replace hP := zl_e hP hZ21
  have hZ21I := zM_u hZ9I hZ21 (lo := 0) (hi := 65535) (by decide) rfl (by omega) ⟨by decide, by decide⟩ (Or.inr (by decide)) rfl
  have hZ21U : zU [] Z Z21 := zU_u hZ9U hZ21 (Or.inl rfl)
  have hZ21K : zC [1, 2] Z Z21 := zC_u hZ9K hZ21 (by decide)
  intro μ9 e9
  replace e9 := e9.trans (zm_wI (Z := Z9) (ν := ν) hZ21 (show ((0 : Nat) : Int) = 0 from rfl) (show ((0 : Nat) : Int) = 0 from rfl) (show ((3 : Nat) : Int) = 3 from rfl) (i3R (i3A (i3M (show (25173 : Int32) = i3 25173 from rfl) (zm_rd (Z := Z9) (ν := ν) (k := 1) (show ((0 : Nat) : Int) = 0 from rfl) (show ((0 : Nat) : Int) = 0 from rfl) (show ((3 : Nat) : Int) = 3 from rfl))) (show (13849 : Int32) = i3 13849 from rfl)) (show (65536 : Int32) = i3 65536 from rfl) (by omega) (by omega) (by omega) (by omega)))
  subst e9
  have r22 := zM_k hZ21I 1 0 0 3 (lo := 0) (hi := 65535) (by decide) rfl
  have q23 := zu_at hZ21
  have r26 := zM_k hZ21I 2 0 0 101 (lo := 0) (hi := 6) (by decide) rfl
  have q27 := zu_ne (k' := 2) (b' := 0) (i' := 0) (j' := 101) hZ21 (fun q => absurd q.1 (by decide))
  have r28 := zM_k hZ21I 2 0 0 102 (lo := 0) (hi := 48) (by decide) rfl
  have q29 := zu_ne (k' := 2) (b' := 0) (i' := 0) (j' := 102) hZ21 (fun q => absurd q.1 (by decide))
  refine sl_328_2 (ν := ν) hZ21I (zbh (c := 0) (k := 0) hM (Nat.le_of_ble_eq_true rfl)) zC_r (x1 := a1) (by omega) (x2 := (2 + (((Z5 1 0 0 3) / 16) % 4))) (by omega) (x3 := (2 + (((Z21 1 0 0 3) / 16) % 5))) (by omega) (x4 := 0) (by omega) zU_r (by omega) (by omega) (zconso rfl (zconso (zvo (rfl : i3 a1 = i3 a1)) (zconso (zvo (rfl : i3 (2 + (((Z5 1 0 0 3) / 16) % 4)) = i3 (2 + (((Z5 1 0 0 3) / 16) % 4)))) (zconso (zvo (i3A (show (2 : Int32) = i3 2 from rfl) (i3R (i3D (zm_rd (Z := Z21) (ν := ν) (k := 1) (show ((0 : Nat) : Int) = 0 from rfl) (show ((0 : Nat) : Int) = 0 from rfl) (show ((3 : Nat) : Int) = 3 from rfl)) (show (16 : Int32) = i3 16 from rfl) (by omega) (by omega) (by omega) (by omega)) (show (5 : Int32) = i3 5 from rfl) (by omega) (by omega) (by omega) (by omega)))) (zconso (zvo (show (0 : Int32) = i3 0 from rfl)) (zconso rfl (zconso rfl (zconso rfl (zconso rfl (zconso rfl rfl)))))))))) rfl ?_
  intro L30 Z25 y24 hL30 hZ25I kZ25 jZ25 gy24 gL30_0 gL30_1 q9
  replace hP := zl_e2 hP (Eq.symm q9)
  clear q9
  have hZ25U : zU [] Z Z25 := zU_t hZ21U jZ25 zU_b0
  have hZ25K : zC [1, 2] Z Z25 := zC_t hZ21K kZ25 (by decide)
  have r31 := zM_k hZ25I 2 0 0 101 (lo := 0) (hi := 6) (by decide) rfl
  have r32 := zM_k hZ25I 2 0 0 102 (lo := 0) (hi := 48) (by decide) rfl
  refine fc_328_5 (i3 a1) (i3 (2 + (((Z5 1 0 0 3) / 16) % 4))) (i3 (2 + (((Z21 1 0 0 3) / 16) % 5))) _ _ _ _ hL30 ?_
  refine sl_328_3 (ν := ν) hZ25I (zbh (c := 0) (k := 0) hM (Nat.le_of_ble_eq_true rfl)) zC_r (x1 := a1) (by omega) (x2 := (2 + (((Z5 1 0 0 3) / 16) % 4))) (by omega) (x3 := (2 + (((Z21 1 0 0 3) / 16) % 5))) (by omega) (x4 := 0) (by omega) zU_r (by omega) (zconso rfl (zconso (zvo (rfl : i3 a1 = i3 a1)) (zconso (zvo (rfl : i3 (2 + (((Z5 1 0 0 3) / 16) % 4)) = i3 (2 + (((Z5 1 0 0 3) / 16) % 4)))) (zconso (zvo (rfl : i3 (2 + (((Z21 1 0 0 3) / 16) % 5)) = i3 (2 + (((Z21 1 0 0 3) / 16) % 5)))) (zconso (zvo (show (0 : Int32) = i3 0 from rfl)) (zconso rfl (zconso rfl (zconso rfl (zconso rfl (zconso rfl rfl)))))))))) rfl ?_
  intro L35 Z34 y33 hL35 hZ34I kZ34 jZ34 gy33 gL35_0 q9
  replace hP := zl_e2 hP (Eq.symm q9)
  clear q9
  have hZ34U : zU [] Z Z34 := zU_t hZ25U jZ34 zU_b0
  have hZ34K : zC [1, 2] Z Z34 := zC_t hZ25K kZ34 (by decide)
  have r36 := zM_k hZ34I 2 0 0 102 (lo := 0) (hi := 48) (by decide) rfl
  refine fc_328_4  _ _ _ _ hL35 ?_
  exact zlV hP ⟨hZ34I, hZ34K, hZ34U⟩
/- yX12_rSeason -/
def zl_486_1 (x1 : Int) : Nat → qz_Z → Int → qz_Z × Int
  | 0, Z, x2 => (Z, x2)
  | m + 1, Z, x2 => (if x1 ≤ x2 then (Z, x2) else (zlet (zu Z 1 0 0 3 (((25173 * (Z 1 0 0 3)) + 13849) % 65536)) (fun Z4 => (zlet (zu Z4 1 0 0 3 (((25173 * (Z4 1 0 0 3)) + 13849) % 65536)) (fun Z7 => (zlet (zu Z7 1 0 0 3 (((25173 * (Z7 1 0 0 3)) + 13849) % 65536)) (fun Z10 => (zlet2 (zf_485 Z10 (1 + (((Z4 1 0 0 3) / 16) % 12)) (((Z7 1 0 0 3) / 16) % 10) (((Z10 1 0 0 3) / 16) % 10) 18) (fun Z15 v16 => (zlet (zu Z15 1 0 0 3 (((25173 * (Z15 1 0 0 3)) + 13849) % 65536)) (fun Z20 => (zlet (zu Z20 2 0 0 (1213 + 12 * v16) (((Z20 1 0 0 3) / 16) % 41)) (fun Z23 => (zlet (zu Z23 1 0 0 3 (((25173 * (Z23 1 0 0 3)) + 13849) % 65536)) (fun Z26 => (zlet (zu Z26 2 0 0 (1214 + 12 * v16) (((Z26 1 0 0 3) / 16) % 2)) (fun Z29 => zl_486_1 x1 m Z29 (x2 + 1))))))))))))))))))
theorem sl_486_1 {s : zSM} {Zs Z : qz_Z} {ν : qz_N} (hZ : zM s Z) (hM : s.2 + 0 ≤ 1000000000) (hK : zC [1, 2] Zs Z) {x1 : Int} (gx1 : 0 ≤ x1 ∧ x1 ≤ 4) {x2 : Int} (gx2 : 0 ≤ x2 ∧ x2 ≤ 4) (hU : zU [] Zs Z) (gr0 : Z 2 0 0 1200 = x2) {k : wz_K} {R : wz_R} {L : qz_L} (hL : qz_fg [true, true, true, false, false, false] L = [some (.inr (.inr (some (1, 0, 0)))), some (.inl (i3 x1)), some (.inl (i3 x2)), none, none, none]) {T : qz_Z × Int} (hP : zE T (zl_486_1 x1 ((4 - x2).toNat + 1) Z x2)) (hk : ∀ (L9 : qz_L) (Z9 : qz_Z) (yx2 : Int), qz_fg [true, true, false, false, false, false] L9 = [some (.inr (.inr (some (1, 0, 0)))), some (.inl (i3 x1)), none, none, none, none] → zM s Z9 → zC [1, 2] Zs Z9 → zU [] Zs Z9 → (0 ≤ yx2 ∧ yx2 ≤ 4) → (Z9 2 0 0 1200 = yx2) → zE T ((Z9, yx2)) → k 0 (L9, [], zm Z9 ν)) : wz_loop qb_486_1 65536 k R (L, [], zm Z ν) := by
  refine wz_lp sb_486_1 (fun m x => ∃ Z : qz_Z, ∃ x2 : Int, qz_fg [true, true, true, false, false, false] x.1 = [some (.inr (.inr (some (1, 0, 0)))), some (.inl (i3 x1)), some (.inl (i3 x2)), none, none, none] ∧ x.2 = ([], zm Z ν) ∧ zM s Z ∧ zC [1, 2] Zs Z ∧ zU [] Zs Z ∧ m = (4 - x2).toNat ∧ (0 ≤ x2 ∧ x2 ≤ 4) ∧ (Z 2 0 0 1200 = x2) ∧ zE T (zl_486_1 x1 (m + 1) Z x2)) ?_ 65536 ((4 - x2).toNat) _ (by omega) ⟨Z, x2, hL, rfl, hZ, hK, hU, rfl, gx2, gr0, hP⟩
  clear hP gr0 gx2 hZ hK hU hL
  clear x2
  clear Z
  rintro m ⟨L, st, μ⟩ ⟨Z, x2, hL, hx, hZ, hK, hU, hm, gx2, gr0, hP⟩
  cases hx
  refine fb_486_1 (i3 x1) (i3 x2) _ _ _ _ hL ?_
  have r1 := zM_k hZ 2 0 0 1200 (lo := 0) (hi := 6) (by decide) rfl
  refine wz_br (i3Le (rfl : i3 x1 = i3 x1) (rfl : i3 x2 = i3 x2) (by omega) (by omega) (by omega) (by omega)) (fun h2 => ?_) (fun h2 => ?_)
  · replace hP := zE_p hP h2
    exact hk _ _ _ (zconso rfl (zconso (zvo (rfl : i3 x1 = i3 x1)) (zconso rfl (zconso rfl (zconso rfl (zconso rfl rfl)))))) hZ hK hU (by omega) (by omega) hP
  · replace hP := zE_n hP h2
    have r3 := zM_k hZ 1 0 0 3 (lo := 0) (hi := 65535) (by decide) rfl
    obtain ⟨Z4, hZ4⟩ := zx (zu Z 1 0 0 3 (((25173 * (Z 1 0 0 3)) + 13849) % 65536))
    replace hP := zl_e hP hZ4
    have hZ4I := zM_u hZ hZ4 (lo := 0) (hi := 65535) (by decide) rfl (by omega) ⟨by decide, by decide⟩ (Or.inr (by decide)) rfl
    have hZ4U : zU [] Zs Z4 := zU_u hU hZ4 (Or.inl rfl)
    have hZ4K : zC [1, 2] Zs Z4 := zC_u hK hZ4 (by decide)
    intro μ9 e9
    replace e9 := e9.trans (zm_wI (Z := Z) (ν := ν) hZ4 (show ((0 : Nat) : Int) = 0 from rfl) (show ((0 : Nat) : Int) = 0 from rfl) (show ((3 : Nat) : Int) = 3 from rfl) (i3R (i3A (i3M (show (25173 : Int32) = i3 25173 from rfl) (zm_rd (Z := Z) (ν := ν) (k := 1) (show ((0 : Nat) : Int) = 0 from rfl) (show ((0 : Nat) : Int) = 0 from rfl) (show ((3 : Nat) : Int) = 3 from rfl))) (show (13849 : Int32) = i3 13849 from rfl)) (show (65536 : Int32) = i3 65536 from rfl) (by omega) (by omega) (by omega) (by omega)))
    subst e9
    have r5 := zM_k hZ4I 1 0 0 3 (lo := 0) (hi := 65535) (by decide) rfl
    have q6 := zu_at hZ4
    obtain ⟨Z7, hZ7⟩ := zx (zu Z4 1 0 0 3 (((25173 * (Z4 1 0 0 3)) + 13849) % 65536))
    replace hP := zl_e hP hZ7
    have hZ7I := zM_u hZ4I hZ7 (lo := 0) (hi := 65535) (by decide) rfl (by omega) ⟨by decide, by decide⟩ (Or.inr (by decide)) rfl
    have hZ7U : zU [] Zs Z7 := zU_u hZ4U hZ7 (Or.inl rfl)
    have hZ7K : zC [1, 2] Zs Z7 := zC_u hZ4K hZ7 (by decide)
    intro μ9 e9
    replace e9 := e9.trans (zm_wI (Z := Z4) (ν := ν) hZ7 (show ((0 : Nat) : Int) = 0 from rfl) (show ((0 : Nat) : Int) = 0 from rfl) (show ((3 : Nat) : Int) = 3 from rfl) (i3R (i3A (i3M (show (25173 : Int32) = i3 25173 from rfl) (zm_rd (Z := Z4) (ν := ν) (k := 1) (show ((0 : Nat) : Int) = 0 from rfl) (show ((0 : Nat) : Int) = 0 from rfl) (show ((3 : Nat) : Int) = 3 from rfl))) (show (13849 : Int32) = i3 13849 from rfl)) (show (65536 : Int32) = i3 65536 from rfl) (by omega) (by omega) (by omega) (by omega)))
    subst e9
    have r8 := zM_k hZ7I 1 0 0 3 (lo := 0) (hi := 65535) (by decide) rfl
    have q9 := zu_at hZ7
    obtain ⟨Z10, hZ10⟩ := zx (zu Z7 1 0 0 3 (((25173 * (Z7 1 0 0 3)) + 13849) % 65536))
    replace hP := zl_e hP hZ10
    have hZ10I := zM_u hZ7I hZ10 (lo := 0) (hi := 65535) (by decide) rfl (by omega) ⟨by decide, by decide⟩ (Or.inr (by decide)) rfl
    have hZ10U : zU [] Zs Z10 := zU_u hZ7U hZ10 (Or.inl rfl)
    have hZ10K : zC [1, 2] Zs Z10 := zC_u hZ7K hZ10 (by decide)
    intro μ9 e9
    replace e9 := e9.trans (zm_wI (Z := Z7) (ν := ν) hZ10 (show ((0 : Nat) : Int) = 0 from rfl) (show ((0 : Nat) : Int) = 0 from rfl) (show ((3 : Nat) : Int) = 3 from rfl) (i3R (i3A (i3M (show (25173 : Int32) = i3 25173 from rfl) (zm_rd (Z := Z7) (ν := ν) (k := 1) (show ((0 : Nat) : Int) = 0 from rfl) (show ((0 : Nat) : Int) = 0 from rfl) (show ((3 : Nat) : Int) = 3 from rfl))) (show (13849 : Int32) = i3 13849 from rfl)) (show (65536 : Int32) = i3 65536 from rfl) (by omega) (by omega) (by omega) (by omega)))
    subst e9
    have r11 := zM_k hZ10I 1 0 0 3 (lo := 0) (hi := 65535) (by decide) rfl
    have q12 := zu_at hZ10
    have r13 := zM_k hZ10I 2 0 0 1200 (lo := 0) (hi := 6) (by decide) rfl
    have q14 := (zu_ne (k' := 2) (b' := 0) (i' := 0) (j' := 1200) hZ10 (fun q => absurd q.1 (by decide))).trans ((zu_ne (k' := 2) (b' := 0) (i' := 0) (j' := 1200) hZ7 (fun q => absurd q.1 (by decide))).trans (zu_ne (k' := 2) (b' := 0) (i' := 0) (j' := 1200) hZ4 (fun q => absurd q.1 (by decide))))
    obtain ⟨Z15, v16, hv16, c9, hZ15I, kZ15, jZ15, lv16, uv16, wv160⟩ := sp_485 (ν := ν) hZ10I (a1 := (1 + (((Z4 1 0 0 3) / 16) % 12))) (by omega) (a2 := (((Z7 1 0 0 3) / 16) % 10)) (by omega) (a3 := (((Z10 1 0 0 3) / 16) % 10)) (by omega) (a4 := 18) (by omega) (by omega) (zbh (c := 0) (k := 0) hM (Nat.le_of_ble_eq_true rfl))
    have hZ15U : zU [] Zs Z15 := zU_t hZ10U jZ15 zU_b0
    have hZ15K : zC [1, 2] Zs Z15 := zC_t hZ10K kZ15 (by decide)
    replace hP := zl_e2 hP hv16
    refine wz_cI_of (zas (zcons rfl (zcons (zvi (i3A (show (1 : Int32) = i3 1 from rfl) (i3R (i3D (zm_rd (Z := Z4) (ν := ν) (k := 1) (show ((0 : Nat) : Int) = 0 from rfl) (show ((0 : Nat) : Int) = 0 from rfl) (show ((3 : Nat) : Int) = 3 from rfl)) (show (16 : Int32) = i3 16 from rfl) (by omega) (by omega) (by omega) (by omega)) (show (12 : Int32) = i3 12 from rfl) (by omega) (by omega) (by omega) (by omega)))) (zcons (zvi (i3R (i3D (zm_rd (Z := Z7) (ν := ν) (k := 1) (show ((0 : Nat) : Int) = 0 from rfl) (show ((0 : Nat) : Int) = 0 from rfl) (show ((3 : Nat) : Int) = 3 from rfl)) (show (16 : Int32) = i3 16 from rfl) (by omega) (by omega) (by omega) (by omega)) (show (10 : Int32) = i3 10 from rfl) (by omega) (by omega) (by omega) (by omega))) (zcons (zvi (i3R (i3D (zm_rd (Z := Z10) (ν := ν) (k := 1) (show ((0 : Nat) : Int) = 0 from rfl) (show ((0 : Nat) : Int) = 0 from rfl) (show ((3 : Nat) : Int) = 3 from rfl)) (show (16 : Int32) = i3 16 from rfl) (by omega) (by omega) (by omega) (by omega)) (show (10 : Int32) = i3 10 from rfl) (by omega) (by omega) (by omega) (by omega))) (zcons (zvi (show (18 : Int32) = i3 18 from rfl)) rfl))))) c9) ?_
    clear c9 hv16
    have r17 := zM_k hZ15I 2 0 0 1200 (lo := 0) (hi := 6) (by decide) rfl
    have r18 := zM_k hZ15I 1 0 0 3 (lo := 0) (hi := 65535) (by decide) rfl
    have q19 := kZ15 1 0 0 3 (by decide)
    obtain ⟨Z20, hZ20⟩ := zx (zu Z15 1 0 0 3 (((25173 * (Z15 1 0 0 3)) + 13849) % 65536))
    replace hP := zl_e hP hZ20
    have hZ20I := zM_u hZ15I hZ20 (lo := 0) (hi := 65535) (by decide) rfl (by omega) ⟨by decide, by decide⟩ (Or.inr (by decide)) rfl
    have hZ20U : zU [] Zs Z20 := zU_u hZ15U hZ20 (Or.inl rfl)
    have hZ20K : zC [1, 2] Zs Z20 := zC_u hZ15K hZ20 (by decide)
    intro μ9 e9
    replace e9 := e9.trans (zm_wI (Z := Z15) (ν := ν) hZ20 (show ((0 : Nat) : Int) = 0 from rfl) (show ((0 : Nat) : Int) = 0 from rfl) (show ((3 : Nat) : Int) = 3 from rfl) (i3R (i3A (i3M (show (25173 : Int32) = i3 25173 from rfl) (zm_rd (Z := Z15) (ν := ν) (k := 1) (show ((0 : Nat) : Int) = 0 from rfl) (show ((0 : Nat) : Int) = 0 from rfl) (show ((3 : Nat) : Int) = 3 from rfl))) (show (13849 : Int32) = i3 13849 from rfl)) (show (65536 : Int32) = i3 65536 from rfl) (by omega) (by omega) (by omega) (by omega)))
    subst e9
    refine wz_i0 (i3O (n := 4400) (i3A (i3A (show (1210 : Int32) = i3 1210 from rfl) (i3M (show (12 : Int32) = i3 12 from rfl) (rfl : i3 v16 = i3 v16))) (show (3 : Int32) = i3 3 from rfl)) (by omega) (by omega) (by omega)) ?_
    have r21 := zM_k hZ20I 1 0 0 3 (lo := 0) (hi := 65535) (by decide) rfl
    have q22 := zu_at hZ20
    obtain ⟨Z23, hZ23⟩ := zx (zu Z20 2 0 0 (1213 + 12 * v16) (((Z20 1 0 0 3) / 16) % 41))
    replace hP := zl_e hP hZ23
    have hZ23I := zM_u2 hZ20I hZ23 (lo := 0) (hi := 40) (zs_1210_3 (x := v16) (by omega) (by omega) (by omega)) (by omega) ⟨by decide, by decide⟩ (by simp only [zsp]; omega)
    have hZ23U : zU [] Zs Z23 := zU_u hZ20U hZ23 (Or.inl rfl)
    have hZ23K : zC [1, 2] Zs Z23 := zC_u hZ20K hZ23 (zcl_2w (by omega) rfl)
    intro μ9 e9
    replace e9 := e9.trans (zm_wI (Z := Z20) (ν := ν) hZ23 (show ((0 : Nat) : Int) = 0 from rfl) (show ((0 : Nat) : Int) = 0 from rfl) (i3I (y := (1213 + 12 * v16)) (i3A (i3A (show (1210 : Int32) = i3 1210 from rfl) (i3M (show (12 : Int32) = i3 12 from rfl) (rfl : i3 v16 = i3 v16))) (show (3 : Int32) = i3 3 from rfl)) (by omega) (by omega) (by omega)) (i3R (i3D (zm_rd (Z := Z20) (ν := ν) (k := 1) (show ((0 : Nat) : Int) = 0 from rfl) (show ((0 : Nat) : Int) = 0 from rfl) (show ((3 : Nat) : Int) = 3 from rfl)) (show (16 : Int32) = i3 16 from rfl) (by omega) (by omega) (by omega) (by omega)) (show (41 : Int32) = i3 41 from rfl) (by omega) (by omega) (by omega) (by omega)))
    subst e9
    have r24 := zM_k hZ23I 1 0 0 3 (lo := 0) (hi := 65535) (by decide) rfl
    have q25 := zu_ne (k' := 1) (b' := 0) (i' := 0) (j' := 3) hZ23 (fun q => absurd q.1 (by decide))
    obtain ⟨Z26, hZ26⟩ := zx (zu Z23 1 0 0 3 (((25173 * (Z23 1 0 0 3)) + 13849) % 65536))
    replace hP := zl_e hP hZ26
    have hZ26I := zM_u hZ23I hZ26 (lo := 0) (hi := 65535) (by decide) rfl (by omega) ⟨by decide, by decide⟩ (Or.inr (by decide)) rfl
    have hZ26U : zU [] Zs Z26 := zU_u hZ23U hZ26 (Or.inl rfl)
    have hZ26K : zC [1, 2] Zs Z26 := zC_u hZ23K hZ26 (by decide)
    intro μ9 e9
    replace e9 := e9.trans (zm_wI (Z := Z23) (ν := ν) hZ26 (show ((0 : Nat) : Int) = 0 from rfl) (show ((0 : Nat) : Int) = 0 from rfl) (show ((3 : Nat) : Int) = 3 from rfl) (i3R (i3A (i3M (show (25173 : Int32) = i3 25173 from rfl) (zm_rd (Z := Z23) (ν := ν) (k := 1) (show ((0 : Nat) : Int) = 0 from rfl) (show ((0 : Nat) : Int) = 0 from rfl) (show ((3 : Nat) : Int) = 3 from rfl))) (show (13849 : Int32) = i3 13849 from rfl)) (show (65536 : Int32) = i3 65536 from rfl) (by omega) (by omega) (by omega) (by omega)))
    subst e9
    refine wz_i0 (i3O (n := 4400) (i3A (i3A (show (1210 : Int32) = i3 1210 from rfl) (i3M (show (12 : Int32) = i3 12 from rfl) (rfl : i3 v16 = i3 v16))) (show (4 : Int32) = i3 4 from rfl)) (by omega) (by omega) (by omega)) ?_
    have r27 := zM_k hZ26I 1 0 0 3 (lo := 0) (hi := 65535) (by decide) rfl
    have q28 := zu_at hZ26
    obtain ⟨Z29, hZ29⟩ := zx (zu Z26 2 0 0 (1214 + 12 * v16) (((Z26 1 0 0 3) / 16) % 2))
    replace hP := zl_e hP hZ29
    have hZ29I := zM_u2 hZ26I hZ29 (lo := 0) (hi := 1) (zs_1210_4 (x := v16) (by omega) (by omega) (by omega)) (by omega) ⟨by decide, by decide⟩ (by simp only [zsp]; omega)
    have hZ29U : zU [] Zs Z29 := zU_u hZ26U hZ29 (Or.inl rfl)
    have hZ29K : zC [1, 2] Zs Z29 := zC_u hZ26K hZ29 (zcl_2w (by omega) rfl)
    intro μ9 e9
    replace e9 := e9.trans (zm_wI (Z := Z26) (ν := ν) hZ29 (show ((0 : Nat) : Int) = 0 from rfl) (show ((0 : Nat) : Int) = 0 from rfl) (i3I (y := (1214 + 12 * v16)) (i3A (i3A (show (1210 : Int32) = i3 1210 from rfl) (i3M (show (12 : Int32) = i3 12 from rfl) (rfl : i3 v16 = i3 v16))) (show (4 : Int32) = i3 4 from rfl)) (by omega) (by omega) (by omega)) (i3R (i3D (zm_rd (Z := Z26) (ν := ν) (k := 1) (show ((0 : Nat) : Int) = 0 from rfl) (show ((0 : Nat) : Int) = 0 from rfl) (show ((3 : Nat) : Int) = 3 from rfl)) (show (16 : Int32) = i3 16 from rfl) (by omega) (by omega) (by omega) (by omega)) (show (2 : Int32) = i3 2 from rfl) (by omega) (by omega) (by omega) (by omega)))
    subst e9
    have r30 := zM_k hZ29I 2 0 0 1200 (lo := 0) (hi := 6) (by decide) rfl
    have q31 := (zu_ne (k' := 2) (b' := 0) (i' := 0) (j' := 1200) hZ29 (fun q => absurd q.2.2.2 (by omega))).trans ((zu_ne (k' := 2) (b' := 0) (i' := 0) (j' := 1200) hZ26 (fun q => absurd q.1 (by decide))).trans ((zu_ne (k' := 2) (b' := 0) (i' := 0) (j' := 1200) hZ23 (fun q => absurd q.2.2.2 (by omega))).trans (zu_ne (k' := 2) (b' := 0) (i' := 0) (j' := 1200) hZ20 (fun q => absurd q.1 (by decide)))))
    obtain ⟨m2, rfl⟩ : ∃ m2, m = m2 + 1 := ⟨m - 1, by omega⟩
    exact wz_k1 ⟨m2, by omega, Z29, (x2 + 1), (zconso rfl (zconso (zvo (rfl : i3 x1 = i3 x1)) (zconso (zvo (i3A (rfl : i3 x2 = i3 x2) (show (1 : Int32) = i3 1 from rfl))) (zconso rfl (zconso rfl (zconso rfl rfl)))))), rfl, hZ29I, hZ29K, hZ29U, by omega, by omega, by omega,  hP⟩
/- yX12_rSeason -/
def zl_486_2 (x1 : Int) : Nat → qz_Z → Int → qz_Z × Int
  | 0, Z, x2 => (Z, x2)
  | m + 1, Z, x2 => (if 28 ≤ x2 then (Z, x2) else (zlet (zu Z 1 0 0 3 (((25173 * (Z 1 0 0 3)) + 13849) % 65536)) (fun Z3 => (zlet (zu Z3 2 0 0 (1300 + x2) (((Z3 1 0 0 3) / 16) % 41)) (fun Z6 => zl_486_2 x1 m Z6 (x2 + 1))))))
theorem sl_486_2 {s : zSM} {Zs Z : qz_Z} {ν : qz_N} (hZ : zM s Z) (hM : s.2 + 0 ≤ 1000000000) (hK : zC [1, 2] Zs Z) {x1 : Int} (gx1 : 0 ≤ x1 ∧ x1 ≤ 4) {x2 : Int} (gx2 : 0 ≤ x2 ∧ x2 ≤ 28) (hU : zU [] Zs Z) {k : wz_K} {R : wz_R} {L : qz_L} (hL : qz_fg [true, true, true, false, false, false] L = [some (.inr (.inr (some (1, 0, 0)))), some (.inl (i3 x1)), some (.inl (i3 x2)), none, none, none]) {T : qz_Z × Int} (hP : zE T (zl_486_2 x1 ((28 - x2).toNat + 1) Z x2)) (hk : ∀ (L9 : qz_L) (Z9 : qz_Z) (yx2 : Int), qz_fg [true, true, false, false, false, false] L9 = [some (.inr (.inr (some (1, 0, 0)))), some (.inl (i3 x1)), none, none, none, none] → zM s Z9 → zC [1, 2] Zs Z9 → zU [] Zs Z9 → (0 ≤ yx2 ∧ yx2 ≤ 28) → zE T ((Z9, yx2)) → k 0 (L9, [], zm Z9 ν)) : wz_loop qb_486_2 65536 k R (L, [], zm Z ν) := by
  refine wz_lp sb_486_2 (fun m x => ∃ Z : qz_Z, ∃ x2 : Int, qz_fg [true, true, true, false, false, false] x.1 = [some (.inr (.inr (some (1, 0, 0)))), some (.inl (i3 x1)), some (.inl (i3 x2)), none, none, none] ∧ x.2 = ([], zm Z ν) ∧ zM s Z ∧ zC [1, 2] Zs Z ∧ zU [] Zs Z ∧ m = (28 - x2).toNat ∧ (0 ≤ x2 ∧ x2 ≤ 28) ∧ zE T (zl_486_2 x1 (m + 1) Z x2)) ?_ 65536 ((28 - x2).toNat) _ (by omega) ⟨Z, x2, hL, rfl, hZ, hK, hU, rfl, gx2, hP⟩
  clear hP gx2 hZ hK hU hL
  clear x2
  clear Z
  rintro m ⟨L, st, μ⟩ ⟨Z, x2, hL, hx, hZ, hK, hU, hm, gx2, hP⟩
  cases hx
  refine fb_486_2 (i3 x1) (i3 x2) _ _ _ _ hL ?_
  refine wz_br (i3Le (show (28 : Int32) = i3 28 from rfl) (rfl : i3 x2 = i3 x2) (by omega) (by omega) (by omega) (by omega)) (fun h1 => ?_) (fun h1 => ?_)
  · replace hP := zE_p hP h1
    exact hk _ _ _ (zconso rfl (zconso (zvo (rfl : i3 x1 = i3 x1)) (zconso rfl (zconso rfl (zconso rfl (zconso rfl rfl)))))) hZ hK hU (by omega)  hP
  · replace hP := zE_n hP h1
    have r2 := zM_k hZ 1 0 0 3 (lo := 0) (hi := 65535) (by decide) rfl
    obtain ⟨Z3, hZ3⟩ := zx (zu Z 1 0 0 3 (((25173 * (Z 1 0 0 3)) + 13849) % 65536))
    replace hP := zl_e hP hZ3
    have hZ3I := zM_u hZ hZ3 (lo := 0) (hi := 65535) (by decide) rfl (by omega) ⟨by decide, by decide⟩ (Or.inr (by decide)) rfl
    have hZ3U : zU [] Zs Z3 := zU_u hU hZ3 (Or.inl rfl)
    have hZ3K : zC [1, 2] Zs Z3 := zC_u hK hZ3 (by decide)
    intro μ9 e9
    replace e9 := e9.trans (zm_wI (Z := Z) (ν := ν) hZ3 (show ((0 : Nat) : Int) = 0 from rfl) (show ((0 : Nat) : Int) = 0 from rfl) (show ((3 : Nat) : Int) = 3 from rfl) (i3R (i3A (i3M (show (25173 : Int32) = i3 25173 from rfl) (zm_rd (Z := Z) (ν := ν) (k := 1) (show ((0 : Nat) : Int) = 0 from rfl) (show ((0 : Nat) : Int) = 0 from rfl) (show ((3 : Nat) : Int) = 3 from rfl))) (show (13849 : Int32) = i3 13849 from rfl)) (show (65536 : Int32) = i3 65536 from rfl) (by omega) (by omega) (by omega) (by omega)))
    subst e9
    refine wz_i0 (i3O (n := 4400) (i3A (show (1300 : Int32) = i3 1300 from rfl) (rfl : i3 x2 = i3 x2)) (by omega) (by omega) (by omega)) ?_
    have r4 := zM_k hZ3I 1 0 0 3 (lo := 0) (hi := 65535) (by decide) rfl
    have q5 := zu_at hZ3
    obtain ⟨Z6, hZ6⟩ := zx (zu Z3 2 0 0 (1300 + x2) (((Z3 1 0 0 3) / 16) % 41))
    replace hP := zl_e hP hZ6
    have hZ6I := zM_u2 hZ3I hZ6 (lo := 0) (hi := 40) (zs_1300 (by omega) (by omega)) (by omega) ⟨by decide, by decide⟩ (by simp only [zsp]; omega)
    have hZ6U : zU [] Zs Z6 := zU_u hZ3U hZ6 (Or.inl rfl)
    have hZ6K : zC [1, 2] Zs Z6 := zC_u hZ3K hZ6 (zcl_2w (by omega) rfl)
    intro μ9 e9
    replace e9 := e9.trans (zm_wI (Z := Z3) (ν := ν) hZ6 (show ((0 : Nat) : Int) = 0 from rfl) (show ((0 : Nat) : Int) = 0 from rfl) (i3I (y := (1300 + x2)) (i3A (show (1300 : Int32) = i3 1300 from rfl) (rfl : i3 x2 = i3 x2)) (by omega) (by omega) (by omega)) (i3R (i3D (zm_rd (Z := Z3) (ν := ν) (k := 1) (show ((0 : Nat) : Int) = 0 from rfl) (show ((0 : Nat) : Int) = 0 from rfl) (show ((3 : Nat) : Int) = 3 from rfl)) (show (16 : Int32) = i3 16 from rfl) (by omega) (by omega) (by omega) (by omega)) (show (41 : Int32) = i3 41 from rfl) (by omega) (by omega) (by omega) (by omega)))
    subst e9
    obtain ⟨m2, rfl⟩ : ∃ m2, m = m2 + 1 := ⟨m - 1, by omega⟩
    exact wz_k1 ⟨m2, by omega, Z6, (x2 + 1), (zconso rfl (zconso (zvo (rfl : i3 x1 = i3 x1)) (zconso (zvo (i3A (rfl : i3 x2 = i3 x2) (show (1 : Int32) = i3 1 from rfl))) (zconso rfl (zconso rfl (zconso rfl rfl)))))), rfl, hZ6I, hZ6K, hZ6U, by omega, by omega,  hP⟩
/- yX12_rSeason -/
def zl_486_3 (x1 : Int) : Nat → qz_Z → Int → qz_Z × Int
  | 0, Z, x2 => (Z, x2)
  | m + 1, Z, x2 => (if (Z 2 0 0 102) ≤ x2 then (Z, x2) else (zlet (zu Z 1 0 0 3 (((25173 * (Z 1 0 0 3)) + 13849) % 65536)) (fun Z4 => (if x1 ≤ (((Z4 1 0 0 3) / 16) % (x1 + 1)) then zl_486_3 x1 m Z4 (x2 + 1) else (zlet (zf_488 Z4 (((Z4 1 0 0 3) / 16) % (x1 + 1))) (fun v9 => (if ((Z4 2 0 0 (1210 + 12 * (((Z4 1 0 0 3) / 16) % (x1 + 1)))) - v9) ≤ 0 then zl_486_3 x1 m Z4 (x2 + 1) else (zlet (zf_472 Z4 x2 (((Z4 1 0 0 3) / 16) % (x1 + 1))) (fun Z16 => zl_486_3 x1 m Z16 (x2 + 1))))))))))
theorem sl_486_3 {s : zSM} {xM9 : Nat} {Zs Z : qz_Z} {ν : qz_N} (hZ : zM (zb s xM9) Z) (hM : s.2 + 98 ≤ 1000000000) (hK : zC [1, 2] Zs Z) {x1 : Int} (gx1 : 0 ≤ x1 ∧ x1 ≤ 4) {x2 : Int} (gx2 : 0 ≤ x2 ∧ x2 ≤ 48) (hU : zU [] Zs Z) (hx9 : xM9 + 2 * ((48 - x2).toNat) + 2 ≤ 98) {k : wz_K} {R : wz_R} {L : qz_L} (hL : qz_fg [true, true, true, false, false, false] L = [some (.inr (.inr (some (1, 0, 0)))), some (.inl (i3 x1)), some (.inl (i3 x2)), none, none, none]) {T : qz_Z × Int} (hP : zE T (zl_486_3 x1 ((48 - x2).toNat + 1) Z x2)) (hk : ∀ (L9 : qz_L) (Z9 : qz_Z) (yx2 : Int), qz_fg [false, false, false, false, false, false] L9 = [none, none, none, none, none, none] → zM (zb s 98) Z9 → zC [1, 2] Zs Z9 → zU [] Zs Z9 → (0 ≤ yx2 ∧ yx2 ≤ 48) → zE T ((Z9, yx2)) → k 0 (L9, [], zm Z9 ν)) : wz_loop qb_486_3 65536 k R (L, [], zm Z ν) := by
  refine wz_lp sb_486_3 (fun m x => ∃ xM9 : Nat, ∃ Z : qz_Z, ∃ x2 : Int, qz_fg [true, true, true, false, false, false] x.1 = [some (.inr (.inr (some (1, 0, 0)))), some (.inl (i3 x1)), some (.inl (i3 x2)), none, none, none] ∧ x.2 = ([], zm Z ν) ∧ xM9 + 2 * m + 2 ≤ 98 ∧ zM (zb s xM9) Z ∧ zC [1, 2] Zs Z ∧ zU [] Zs Z ∧ m = (48 - x2).toNat ∧ (0 ≤ x2 ∧ x2 ≤ 48) ∧ zE T (zl_486_3 x1 (m + 1) Z x2)) ?_ 65536 ((48 - x2).toNat) _ (by omega) ⟨xM9, Z, x2, hL, rfl, hx9, hZ, hK, hU, rfl, gx2, hP⟩
  clear hP gx2 hx9 hZ hK hU hL
  clear x2
  clear Z
  clear xM9
  rintro m ⟨L, st, μ⟩ ⟨xM9, Z, x2, hL, hx, hx9, hZ, hK, hU, hm, gx2, hP⟩
  cases hx
  have hM9 : (zb s xM9).2 + 2 ≤ 1000000000 := by
    show s.2 + xM9 + 2 ≤ 1000000000
    omega
  refine fb_486_3 (i3 x1) (i3 x2) _ _ _ _ hL ?_
  have r1 := zM_k hZ 2 0 0 102 (lo := 0) (hi := 48) (by decide) rfl
  refine wz_br (i3Le (zm_rd (Z := Z) (ν := ν) (k := 2) (show ((0 : Nat) : Int) = 0 from rfl) (show ((0 : Nat) : Int) = 0 from rfl) (show ((102 : Nat) : Int) = 102 from rfl)) (rfl : i3 x2 = i3 x2) (by omega) (by omega) (by omega) (by omega)) (fun h2 => ?_) (fun h2 => ?_)
  · replace hP := zE_p hP h2
    exact hk _ _ _ (zconso rfl (zconso rfl (zconso rfl (zconso rfl (zconso rfl (zconso rfl rfl)))))) (zmx0 hZ (by omega)) hK hU (by omega)  hP
  · replace hP := zE_n hP h2
    have r3 := zM_k hZ 1 0 0 3 (lo := 0) (hi := 65535) (by decide) rfl
    obtain ⟨Z4, hZ4⟩ := zx (zu Z 1 0 0 3 (((25173 * (Z 1 0 0 3)) + 13849) % 65536))
    replace hP := zl_e hP hZ4
    have hZ4I := zM_u hZ hZ4 (lo := 0) (hi := 65535) (by decide) rfl (by omega) ⟨by decide, by decide⟩ (Or.inr (by decide)) rfl
    have hZ4U : zU [] Zs Z4 := zU_u hU hZ4 (Or.inl rfl)
    have hZ4K : zC [1, 2] Zs Z4 := zC_u hK hZ4 (by decide)
    intro μ9 e9
    replace e9 := e9.trans (zm_wI (Z := Z) (ν := ν) hZ4 (show ((0 : Nat) : Int) = 0 from rfl) (show ((0 : Nat) : Int) = 0 from rfl) (show ((3 : Nat) : Int) = 3 from rfl) (i3R (i3A (i3M (show (25173 : Int32) = i3 25173 from rfl) (zm_rd (Z := Z) (ν := ν) (k := 1) (show ((0 : Nat) : Int) = 0 from rfl) (show ((0 : Nat) : Int) = 0 from rfl) (show ((3 : Nat) : Int) = 3 from rfl))) (show (13849 : Int32) = i3 13849 from rfl)) (show (65536 : Int32) = i3 65536 from rfl) (by omega) (by omega) (by omega) (by omega)))
    subst e9
    refine wz_i0 (i3N0 (i3A (rfl : i3 x1 = i3 x1) (show (1 : Int32) = i3 1 from rfl)) (by omega) (by omega) (by omega)) ?_
    have r5 := zM_k hZ4I 1 0 0 3 (lo := 0) (hi := 65535) (by decide) rfl
    have q6 := zu_at hZ4
    have r7 := z_mod ((Z4 1 0 0 3) / 16) (y := (x1 + 1)) (by omega)
    refine wz_br (i3Le (rfl : i3 x1 = i3 x1) (i3R (i3D (zm_rd (Z := Z4) (ν := ν) (k := 1) (show ((0 : Nat) : Int) = 0 from rfl) (show ((0 : Nat) : Int) = 0 from rfl) (show ((3 : Nat) : Int) = 3 from rfl)) (show (16 : Int32) = i3 16 from rfl) (by omega) (by omega) (by omega) (by omega)) (i3A (rfl : i3 x1 = i3 x1) (show (1 : Int32) = i3 1 from rfl)) (by omega) (by omega) (by omega) (by omega)) (by omega) (by omega) (by omega) (by omega)) (fun h8 => ?_) (fun h8 => ?_)
    · replace hP := zE_p hP h8
      obtain ⟨m2, rfl⟩ : ∃ m2, m = m2 + 1 := ⟨m - 1, by omega⟩
      exact wz_k1 ⟨m2, by omega, xM9, Z4, (x2 + 1), (zconso rfl (zconso (zvo (rfl : i3 x1 = i3 x1)) (zconso (zvo (i3A (rfl : i3 x2 = i3 x2) (show (1 : Int32) = i3 1 from rfl))) (zconso rfl (zconso rfl (zconso rfl rfl)))))), rfl, by omega, hZ4I, hZ4K, hZ4U, by omega, by omega,  hP⟩
    · replace hP := zE_n hP h8
      refine wz_i1 (Eq.trans (i3NE (i3R (i3D (zm_rd (Z := Z4) (ν := ν) (k := 1) (show ((0 : Nat) : Int) = 0 from rfl) (show ((0 : Nat) : Int) = 0 from rfl) (show ((3 : Nat) : Int) = 3 from rfl)) (show (16 : Int32) = i3 16 from rfl) (by omega) (by omega) (by omega) (by omega)) (i3A (rfl : i3 x1 = i3 x1) (show (1 : Int32) = i3 1 from rfl)) (by omega) (by omega) (by omega) (by omega)) (show (6 : Int32) = i3 6 from rfl) (by omega) (by omega) (by omega) (by omega)) (decide_eq_true (by omega))) ?_
      refine wz_i0 (i3O (n := 4400) (i3A (i3A (show (1210 : Int32) = i3 1210 from rfl) (i3M (show (12 : Int32) = i3 12 from rfl) (i3R (i3D (zm_rd (Z := Z4) (ν := ν) (k := 1) (show ((0 : Nat) : Int) = 0 from rfl) (show ((0 : Nat) : Int) = 0 from rfl) (show ((3 : Nat) : Int) = 3 from rfl)) (show (16 : Int32) = i3 16 from rfl) (by omega) (by omega) (by omega) (by omega)) (i3A (rfl : i3 x1 = i3 x1) (show (1 : Int32) = i3 1 from rfl)) (by omega) (by omega) (by omega) (by omega)))) (show (0 : Int32) = i3 0 from rfl)) (by omega) (by omega) (by omega)) ?_
      obtain ⟨v9, hv9, c9, lv9, uv9⟩ := sp_488 (ν := ν) hZ4I (a1 := (((Z4 1 0 0 3) / 16) % (x1 + 1))) (by omega) (zbh (c := 0) (k := 0) hM9 (Nat.le_of_ble_eq_true rfl))
      replace hP := zl_e hP hv9
      refine wz_cI_of (zas (zcons rfl (zcons (zvi (i3R (i3D (zm_rd (Z := Z4) (ν := ν) (k := 1) (show ((0 : Nat) : Int) = 0 from rfl) (show ((0 : Nat) : Int) = 0 from rfl) (show ((3 : Nat) : Int) = 3 from rfl)) (show (16 : Int32) = i3 16 from rfl) (by omega) (by omega) (by omega) (by omega)) (i3A (rfl : i3 x1 = i3 x1) (show (1 : Int32) = i3 1 from rfl)) (by omega) (by omega) (by omega) (by omega))) rfl)) c9) ?_
      clear c9
      have r10 := zM_k hZ4I 2 0 0 (1210 + 12 * (((Z4 1 0 0 3) / 16) % (x1 + 1))) (lo := 0) (hi := 12) (by decide) (zs_1210_0 (x := (((Z4 1 0 0 3) / 16) % (x1 + 1))) (by omega) (by omega) (by omega))
      refine wz_br (i3Le (i3S (zm_rd (Z := Z4) (ν := ν) (k := 2) (show ((0 : Nat) : Int) = 0 from rfl) (show ((0 : Nat) : Int) = 0 from rfl) (i3I (y := (1210 + 12 * (((Z4 1 0 0 3) / 16) % (x1 + 1)))) (i3A (i3A (show (1210 : Int32) = i3 1210 from rfl) (i3M (show (12 : Int32) = i3 12 from rfl) (i3R (i3D (zm_rd (Z := Z4) (ν := ν) (k := 1) (show ((0 : Nat) : Int) = 0 from rfl) (show ((0 : Nat) : Int) = 0 from rfl) (show ((3 : Nat) : Int) = 3 from rfl)) (show (16 : Int32) = i3 16 from rfl) (by omega) (by omega) (by omega) (by omega)) (i3A (rfl : i3 x1 = i3 x1) (show (1 : Int32) = i3 1 from rfl)) (by omega) (by omega) (by omega) (by omega)))) (show (0 : Int32) = i3 0 from rfl)) (by omega) (by omega) (by omega))) (rfl : i3 v9 = i3 v9)) (show (0 : Int32) = i3 0 from rfl) (by omega) (by omega) (by omega) (by omega)) (fun h11 => ?_) (fun h11 => ?_)
      · replace hP := zE_p hP h11
        obtain ⟨m2, rfl⟩ : ∃ m2, m = m2 + 1 := ⟨m - 1, by omega⟩
        exact wz_k1 ⟨m2, by omega, xM9, Z4, (x2 + 1), (zconso rfl (zconso (zvo (rfl : i3 x1 = i3 x1)) (zconso (zvo (i3A (rfl : i3 x2 = i3 x2) (show (1 : Int32) = i3 1 from rfl))) (zconso rfl (zconso rfl (zconso rfl rfl)))))), rfl, by omega, hZ4I, hZ4K, hZ4U, by omega, by omega,  hP⟩
      · replace hP := zE_n hP h11
        have r12 := zM_k hZ4I 2 0 0 (210 + 20 * x2) (lo := 0) (hi := 4) (by decide) (zs_200_10 (x := x2) (by omega) (by omega) (by omega))
        have r13 := zM_pl hZ4I x2
        have r14 := zM_k hZ4I 2 0 0 102 (lo := 0) (hi := 48) (by decide) rfl
        have q15 := zu_ne (k' := 2) (b' := 0) (i' := 0) (j' := 102) hZ4 (fun q => absurd q.1 (by decide))
        obtain ⟨Z16, hZ16, c9, hZ16I, kZ16, jZ16⟩ := sp_472 (ν := ν) hZ4I (a1 := x2) (by omega) (a2 := (((Z4 1 0 0 3) / 16) % (x1 + 1))) (by omega) (by omega) (zbh (c := 0) (k := 2) hM9 (Nat.le_of_ble_eq_true rfl))
        have hZ16U : zU [] Zs Z16 := zU_t hZ4U jZ16 zU_b0
        have hZ16K : zC [1, 2] Zs Z16 := zC_t hZ4K kZ16 (by decide)
        replace hP := zl_e hP hZ16
        refine wz_cV_of (zas (zcons rfl (zcons (zvi (rfl : i3 x2 = i3 x2)) (zcons (zvi (i3R (i3D (zm_rd (Z := Z4) (ν := ν) (k := 1) (show ((0 : Nat) : Int) = 0 from rfl) (show ((0 : Nat) : Int) = 0 from rfl) (show ((3 : Nat) : Int) = 3 from rfl)) (show (16 : Int32) = i3 16 from rfl) (by omega) (by omega) (by omega) (by omega)) (i3A (rfl : i3 x1 = i3 x1) (show (1 : Int32) = i3 1 from rfl)) (by omega) (by omega) (by omega) (by omega))) rfl))) c9) ?_
        clear c9
        obtain ⟨m2, rfl⟩ : ∃ m2, m = m2 + 1 := ⟨m - 1, by omega⟩
        exact wz_k1 ⟨m2, by omega, xM9 + 2, Z16, (x2 + 1), (zconso rfl (zconso (zvo (rfl : i3 x1 = i3 x1)) (zconso (zvo (i3A (rfl : i3 x2 = i3 x2) (show (1 : Int32) = i3 1 from rfl))) (zconso rfl (zconso rfl (zconso rfl rfl)))))), rfl, by omega, (zmt hZ16I rfl), hZ16K, hZ16U, by omega, by omega,  hP⟩
/- yX12_rSeason -/
def zf_486 (Z : qz_Z) : qz_Z := (zlet (zu Z 1 0 0 3 (((25173 * (Z 1 0 0 3)) + 13849) % 65536)) (fun Z3 => (zlet2 (zl_486_1 (((Z3 1 0 0 3) / 16) % 5) 5 Z3 0) (fun Z7 y6 => (zlet2 (zl_486_2 (((Z3 1 0 0 3) / 16) % 5) 29 Z7 0) (fun Z13 y12 => (zlet2 (zl_486_3 (((Z3 1 0 0 3) / 16) % 5) 49 Z13 0) (fun Z16 y15 => Z16))))))))
theorem sp_486 {s : zSM} {Z : qz_Z} {ν : qz_N} (hZ : zM s Z) (gx0 : Z 2 0 0 1200 = 0) (hM : s.2 + 98 ≤ 1000000000) : ∃ P : qz_Z, P = zf_486 Z ∧ (qf_486 [.inr (.inr (some (1, 0, 0)))] (zm Z ν) = some (zm P ν, .inl none) ∧ zM (zb s 98) P ∧ zC [1, 2] Z P ∧ zU [] Z P) := by
  obtain ⟨P, hP⟩ := zx (zf_486 Z)
  refine zc_V (Q := fun P => zM (zb s 98) P ∧ zC [1, 2] Z P ∧ zU [] Z P) hP (fw_486  _ _ ?_)
  replace hP : zE P (zf_486 Z) := hP
  unfold zf_486 at hP
  have r1 := zM_k hZ 2 0 0 1200 (lo := 0) (hi := 6) (by decide) rfl
  have r2 := zM_k hZ 1 0 0 3 (lo := 0) (hi := 65535) (by decide) rfl
  obtain ⟨Z3, hZ3⟩ := zx (zu Z 1 0 0 3 (((25173 * (Z 1 0 0 3)) + 13849) % 65536))
  replace hP := zl_e hP hZ3
  have hZ3I := zM_u hZ hZ3 (lo := 0) (hi := 65535) (by decide) rfl (by omega) ⟨by decide, by decide⟩ (Or.inr (by decide)) rfl
  have hZ3U : zU [] Z Z3 := zU_u zU_r hZ3 (Or.inl rfl)
  have hZ3K : zC [1, 2] Z Z3 := zC_u zC_r hZ3 (by decide)
  intro μ9 e9
  replace e9 := e9.trans (zm_wI (Z := Z) (ν := ν) hZ3 (show ((0 : Nat) : Int) = 0 from rfl) (show ((0 : Nat) : Int) = 0 from rfl) (show ((3 : Nat) : Int) = 3 from rfl) (i3R (i3A (i3M (show (25173 : Int32) = i3 25173 from rfl) (zm_rd (Z := Z) (ν := ν) (k := 1) (show ((0 : Nat) : Int) = 0 from rfl) (show ((0 : Nat) : Int) = 0 from rfl) (show ((3 : Nat) : Int) = 3 from rfl))) (show (13849 : Int32) = i3 13849 from rfl)) (show (65536 : Int32) = i3 65536 from rfl) (by omega) (by omega) (by omega) (by omega)))
  subst e9
  have r4 := zM_k hZ3I 1 0 0 3 (lo := 0) (hi := 65535) (by decide) rfl
  have q5 := zu_at hZ3
  have r8 := zM_k hZ3I 2 0 0 1200 (lo := 0) (hi := 6) (by decide) rfl
  have q9 := zu_ne (k' := 2) (b' := 0) (i' := 0) (j' := 1200) hZ3 (fun q => absurd q.1 (by decide))
  refine sl_486_1 (ν := ν) hZ3I (zbh (c := 0) (k := 0) hM (Nat.le_of_ble_eq_true rfl)) zC_r (x1 := (((Z3 1 0 0 3) / 16) % 5)) (by omega) (x2 := 0) (by omega) zU_r (by omega) (zconso rfl (zconso (zvo (i3R (i3D (zm_rd (Z := Z3) (ν := ν) (k := 1) (show ((0 : Nat) : Int) = 0 from rfl) (show ((0 : Nat) : Int) = 0 from rfl) (show ((3 : Nat) : Int) = 3 from rfl)) (show (16 : Int32) = i3 16 from rfl) (by omega) (by omega) (by omega) (by omega)) (show (5 : Int32) = i3 5 from rfl) (by omega) (by omega) (by omega) (by omega))) (zconso (zvo (show (0 : Int32) = i3 0 from rfl)) (zconso rfl (zconso rfl (zconso rfl rfl)))))) rfl ?_
  intro L10 Z7 y6 hL10 hZ7I kZ7 jZ7 gy6 gL10_0 q9
  replace hP := zl_e2 hP (Eq.symm q9)
  clear q9
  have hZ7U : zU [] Z Z7 := zU_t hZ3U jZ7 zU_b0
  have hZ7K : zC [1, 2] Z Z7 := zC_t hZ3K kZ7 (by decide)
  have r11 := zM_k hZ7I 2 0 0 1200 (lo := 0) (hi := 6) (by decide) rfl
  refine fc_486_6 (i3 (((Z3 1 0 0 3) / 16) % 5)) _ _ _ _ hL10 ?_
  refine sl_486_2 (ν := ν) hZ7I (zbh (c := 0) (k := 0) hM (Nat.le_of_ble_eq_true rfl)) zC_r (x1 := (((Z3 1 0 0 3) / 16) % 5)) (by omega) (x2 := 0) (by omega) zU_r  (zconso rfl (zconso (zvo (rfl : i3 (((Z3 1 0 0 3) / 16) % 5) = i3 (((Z3 1 0 0 3) / 16) % 5))) (zconso (zvo (show (0 : Int32) = i3 0 from rfl)) (zconso rfl (zconso rfl (zconso rfl rfl)))))) rfl ?_
  intro L14 Z13 y12 hL14 hZ13I kZ13 jZ13 gy12 q9
  replace hP := zl_e2 hP (Eq.symm q9)
  clear q9
  have hZ13U : zU [] Z Z13 := zU_t hZ7U jZ13 zU_b0
  have hZ13K : zC [1, 2] Z Z13 := zC_t hZ7K kZ13 (by decide)
  refine fc_486_5 (i3 (((Z3 1 0 0 3) / 16) % 5)) _ _ _ _ hL14 ?_
  refine sl_486_3 (ν := ν) (zm0 hZ13I) (zbh (c := 0) (k := 98) hM (Nat.le_of_ble_eq_true rfl)) (xM9 := 0) zC_r (x1 := (((Z3 1 0 0 3) / 16) % 5)) (by omega) (x2 := 0) (by omega) zU_r (Nat.le_of_ble_eq_true rfl)  (zconso rfl (zconso (zvo (rfl : i3 (((Z3 1 0 0 3) / 16) % 5) = i3 (((Z3 1 0 0 3) / 16) % 5))) (zconso (zvo (show (0 : Int32) = i3 0 from rfl)) (zconso rfl (zconso rfl (zconso rfl rfl)))))) rfl ?_
  intro L17 Z16 y15 hL17 hZ16I kZ16 jZ16 gy15 q9
  replace hP := zl_e2 hP (Eq.symm q9)
  clear q9
  have hZ16U : zU [] Z Z16 := zU_t hZ13U jZ16 zU_b0
  have hZ16K : zC [1, 2] Z Z16 := zC_t hZ13K kZ16 (by decide)
  refine fc_486_4  _ _ _ _ hL17 ?_
  exact zlV hP ⟨hZ16I, hZ16K, hZ16U⟩
/- yX12_iSeason -/
def zl_370_1 (x1 : Int) (x2 : Int) (x4 : Int) : Nat → qz_Z → Int → Int → qz_Z × Int × Int
  | 0, Z, x5, x6 => (Z, x5, x6)
  | m + 1, Z, x5, x6 => (if x4 ≤ x6 then (Z, x5, x6) else (zlet (zu Z 1 0 0 3 (((25173 * (Z 1 0 0 3)) + 13849) % 65536)) (fun Z3 => (if (Z3 2 0 0 1200) ≤ (((Z3 1 0 0 3) / 16) % ((Z 2 0 0 1200) + 1)) then zl_370_1 x1 x2 x4 m Z3 ((10 * x5) + 7) (x6 + 1) else zl_370_1 x1 x2 x4 m Z3 ((10 * x5) + ((((Z3 1 0 0 3) / 16) % ((Z 2 0 0 1200) + 1)) + 1)) (x6 + 1)))))
theorem sl_370_1 {s : zSM} {Zs Z : qz_Z} {ν : qz_N} (hZ : zM s Z) (hM : s.2 + 0 ≤ 1000000000) (hK : zC [1] Zs Z) {x1 : Int} (gx1 : 1 ≤ x1 ∧ x1 ≤ 2) {x2 : Int} (gx2 : 0 ≤ x2 ∧ x2 ≤ 1) {x4 : Int} (gx4 : 0 ≤ x4 ∧ x4 ≤ 6) {x5 : Int} (gx5 : 0 ≤ x5 ∧ x5 ≤ 999999) {x6 : Int} (gx6 : 0 ≤ x6 ∧ x6 ≤ 6) (hU : zU [] Zs Z) (gr0 : x5 = 0 ∨ 1 ≤ x6) (gr1 : x5 ≤ 9 ∨ 2 ≤ x6) (gr2 : x5 ≤ 99 ∨ 3 ≤ x6) (gr3 : x5 ≤ 999 ∨ 4 ≤ x6) (gr4 : x5 ≤ 9999 ∨ 5 ≤ x6) (gr5 : x5 ≤ 99999 ∨ 6 ≤ x6) {k : wz_K} {R : wz_R} {L : qz_L} (hL : qz_fg [true, true, true, false, true, true, true] L = [some (.inr (.inr (some (1, 0, 0)))), some (.inl (i3 x1)), some (.inl (i3 x2)), none, some (.inl (i3 x4)), some (.inl (i3 x5)), some (.inl (i3 x6))]) {T : qz_Z × Int × Int} (hP : zE T (zl_370_1 x1 x2 x4 ((6 - x6).toNat + 1) Z x5 x6)) (hk : ∀ (L9 : qz_L) (Z9 : qz_Z) (yx5 yx6 : Int), qz_fg [true, true, true, false, false, true, false] L9 = [some (.inr (.inr (some (1, 0, 0)))), some (.inl (i3 x1)), some (.inl (i3 x2)), none, none, some (.inl (i3 yx5)), none] → zM s Z9 → zC [1] Zs Z9 → zU [] Zs Z9 → (0 ≤ yx5 ∧ yx5 ≤ 999999) → (0 ≤ yx6 ∧ yx6 ≤ 6) → (yx5 = 0 ∨ 1 ≤ yx6) → (yx5 ≤ 9 ∨ 2 ≤ yx6) → (yx5 ≤ 99 ∨ 3 ≤ yx6) → (yx5 ≤ 999 ∨ 4 ≤ yx6) → (yx5 ≤ 9999 ∨ 5 ≤ yx6) → (yx5 ≤ 99999 ∨ 6 ≤ yx6) → zE T ((Z9, yx5, yx6)) → k 0 (L9, [], zm Z9 ν)) : wz_loop qb_370_1 65536 k R (L, [], zm Z ν) := by
  refine wz_lp sb_370_1 (fun m x => ∃ Z : qz_Z, ∃ x5 : Int, ∃ x6 : Int, qz_fg [true, true, true, false, true, true, true] x.1 = [some (.inr (.inr (some (1, 0, 0)))), some (.inl (i3 x1)), some (.inl (i3 x2)), none, some (.inl (i3 x4)), some (.inl (i3 x5)), some (.inl (i3 x6))] ∧ x.2 = ([], zm Z ν) ∧ zM s Z ∧ zC [1] Zs Z ∧ zU [] Zs Z ∧ m = (6 - x6).toNat ∧ (0 ≤ x5 ∧ x5 ≤ 999999) ∧ (0 ≤ x6 ∧ x6 ≤ 6) ∧ (x5 = 0 ∨ 1 ≤ x6) ∧ (x5 ≤ 9 ∨ 2 ≤ x6) ∧ (x5 ≤ 99 ∨ 3 ≤ x6) ∧ (x5 ≤ 999 ∨ 4 ≤ x6) ∧ (x5 ≤ 9999 ∨ 5 ≤ x6) ∧ (x5 ≤ 99999 ∨ 6 ≤ x6) ∧ zE T (zl_370_1 x1 x2 x4 (m + 1) Z x5 x6)) ?_ 65536 ((6 - x6).toNat) _ (by omega) ⟨Z, x5, x6, hL, rfl, hZ, hK, hU, rfl, gx5, gx6, gr0, gr1, gr2, gr3, gr4, gr5, hP⟩
  clear hP gr0 gr1 gr2 gr3 gr4 gr5 gx5 gx6 hZ hK hU hL
  clear x5 x6
  clear Z
  rintro m ⟨L, st, μ⟩ ⟨Z, x5, x6, hL, hx, hZ, hK, hU, hm, gx5, gx6, gr0, gr1, gr2, gr3, gr4, gr5, hP⟩
  cases hx
  refine fb_370_1 (i3 x1) (i3 x2) (i3 x4) (i3 x5) (i3 x6) _ _ _ _ hL ?_
  refine wz_br (i3Le (rfl : i3 x4 = i3 x4) (rfl : i3 x6 = i3 x6) (by omega) (by omega) (by omega) (by omega)) (fun h1 => ?_) (fun h1 => ?_)
  · replace hP := zE_p hP h1
    exact hk _ _ _ _ (zconso rfl (zconso (zvo (rfl : i3 x1 = i3 x1)) (zconso (zvo (rfl : i3 x2 = i3 x2)) (zconso rfl (zconso rfl (zconso (zvo (rfl : i3 x5 = i3 x5)) (zconso rfl rfl))))))) hZ hK hU (by omega) (by omega) (by omega) (by omega) (by omega) (by omega) (by omega) (by omega) hP
  · replace hP := zE_n hP h1
    have r2 := zM_k hZ 1 0 0 3 (lo := 0) (hi := 65535) (by decide) rfl
    obtain ⟨Z3, hZ3⟩ := zx (zu Z 1 0 0 3 (((25173 * (Z 1 0 0 3)) + 13849) % 65536))
    replace hP := zl_e hP hZ3
    have hZ3I := zM_u hZ hZ3 (lo := 0) (hi := 65535) (by decide) rfl (by omega) ⟨by decide, by decide⟩ (Or.inr (by decide)) rfl
    have hZ3U : zU [] Zs Z3 := zU_u hU hZ3 (Or.inl rfl)
    have hZ3K : zC [1] Zs Z3 := zC_u hK hZ3 (by decide)
    intro μ9 e9
    replace e9 := e9.trans (zm_wI (Z := Z) (ν := ν) hZ3 (show ((0 : Nat) : Int) = 0 from rfl) (show ((0 : Nat) : Int) = 0 from rfl) (show ((3 : Nat) : Int) = 3 from rfl) (i3R (i3A (i3M (show (25173 : Int32) = i3 25173 from rfl) (zm_rd (Z := Z) (ν := ν) (k := 1) (show ((0 : Nat) : Int) = 0 from rfl) (show ((0 : Nat) : Int) = 0 from rfl) (show ((3 : Nat) : Int) = 3 from rfl))) (show (13849 : Int32) = i3 13849 from rfl)) (show (65536 : Int32) = i3 65536 from rfl) (by omega) (by omega) (by omega) (by omega)))
    subst e9
    have r4 := zM_k hZ 2 0 0 1200 (lo := 0) (hi := 6) (by decide) rfl
    refine wz_i0 (i3N0 (i3A (zm_rd (Z := Z) (ν := ν) (k := 2) (show ((0 : Nat) : Int) = 0 from rfl) (show ((0 : Nat) : Int) = 0 from rfl) (show ((1200 : Nat) : Int) = 1200 from rfl)) (show (1 : Int32) = i3 1 from rfl)) (by omega) (by omega) (by omega)) ?_
    have r5 := zM_k hZ3I 2 0 0 1200 (lo := 0) (hi := 6) (by decide) rfl
    have q6 := zu_ne (k' := 2) (b' := 0) (i' := 0) (j' := 1200) hZ3 (fun q => absurd q.1 (by decide))
    have r7 := zM_k hZ3I 1 0 0 3 (lo := 0) (hi := 65535) (by decide) rfl
    have q8 := zu_at hZ3
    have r9 := z_mod ((Z3 1 0 0 3) / 16) (y := ((Z 2 0 0 1200) + 1)) (by omega)
    refine wz_br (i3Le (zm_rd (Z := Z3) (ν := ν) (k := 2) (show ((0 : Nat) : Int) = 0 from rfl) (show ((0 : Nat) : Int) = 0 from rfl) (show ((1200 : Nat) : Int) = 1200 from rfl)) (i3R (i3D (zm_rd (Z := Z3) (ν := ν) (k := 1) (show ((0 : Nat) : Int) = 0 from rfl) (show ((0 : Nat) : Int) = 0 from rfl) (show ((3 : Nat) : Int) = 3 from rfl)) (show (16 : Int32) = i3 16 from rfl) (by omega) (by omega) (by omega) (by omega)) (i3A (zm_rd (Z := Z) (ν := ν) (k := 2) (show ((0 : Nat) : Int) = 0 from rfl) (show ((0 : Nat) : Int) = 0 from rfl) (show ((1200 : Nat) : Int) = 1200 from rfl)) (show (1 : Int32) = i3 1 from rfl)) (by omega) (by omega) (by omega) (by omega)) (by omega) (by omega) (by omega) (by omega)) (fun h10 => ?_) (fun h10 => ?_)
    · replace hP := zE_p hP h10
      obtain ⟨m2, rfl⟩ : ∃ m2, m = m2 + 1 := ⟨m - 1, by omega⟩
      exact wz_k1 ⟨m2, by omega, Z3, ((10 * x5) + 7), (x6 + 1), (zconso rfl (zconso (zvo (rfl : i3 x1 = i3 x1)) (zconso (zvo (rfl : i3 x2 = i3 x2)) (zconso rfl (zconso (zvo (rfl : i3 x4 = i3 x4)) (zconso (zvo (i3A (i3M (show (10 : Int32) = i3 10 from rfl) (rfl : i3 x5 = i3 x5)) (show (7 : Int32) = i3 7 from rfl))) (zconso (zvo (i3A (rfl : i3 x6 = i3 x6) (show (1 : Int32) = i3 1 from rfl))) rfl))))))), rfl, hZ3I, hZ3K, hZ3U, by omega, by omega, by omega, by omega, by omega, by omega, by omega, by omega, by omega,  hP⟩
    · replace hP := zE_n hP h10
      obtain ⟨m2, rfl⟩ : ∃ m2, m = m2 + 1 := ⟨m - 1, by omega⟩
      exact wz_k1 ⟨m2, by omega, Z3, ((10 * x5) + ((((Z3 1 0 0 3) / 16) % ((Z 2 0 0 1200) + 1)) + 1)), (x6 + 1), (zconso rfl (zconso (zvo (rfl : i3 x1 = i3 x1)) (zconso (zvo (rfl : i3 x2 = i3 x2)) (zconso rfl (zconso (zvo (rfl : i3 x4 = i3 x4)) (zconso (zvo (i3A (i3M (show (10 : Int32) = i3 10 from rfl) (rfl : i3 x5 = i3 x5)) (i3A (i3R (i3D (zm_rd (Z := Z3) (ν := ν) (k := 1) (show ((0 : Nat) : Int) = 0 from rfl) (show ((0 : Nat) : Int) = 0 from rfl) (show ((3 : Nat) : Int) = 3 from rfl)) (show (16 : Int32) = i3 16 from rfl) (by omega) (by omega) (by omega) (by omega)) (i3A (zm_rd (Z := Z) (ν := ν) (k := 2) (show ((0 : Nat) : Int) = 0 from rfl) (show ((0 : Nat) : Int) = 0 from rfl) (show ((1200 : Nat) : Int) = 1200 from rfl)) (show (1 : Int32) = i3 1 from rfl)) (by omega) (by omega) (by omega) (by omega)) (show (1 : Int32) = i3 1 from rfl)))) (zconso (zvo (i3A (rfl : i3 x6 = i3 x6) (show (1 : Int32) = i3 1 from rfl))) rfl))))))), rfl, hZ3I, hZ3K, hZ3U, by omega, by omega, by omega, by omega, by omega, by omega, by omega, by omega, by omega,  hP⟩
