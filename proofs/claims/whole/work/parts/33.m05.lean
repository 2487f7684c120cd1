/- yX12_load -/
def zy_426 (Z : qz_Z) (dm : qz_Z → Int → Int → Int → Int → Int → Int → Int → qz_Z) (a1 : Int) (a2 : Int) : qz_Z × Int := (if a1 < 0 then (zlet (zu Z 1 0 0 2 1) (fun Z5 => (Z5, 0))) else (if ((Z 2 0 0 2000) - 1) < a1 then (zlet (zu Z 1 0 0 2 1) (fun Z8 => (Z8, 0))) else (if a2 < 0 then (zlet (zu Z 1 0 0 2 1) (fun Z10 => (Z10, 0))) else (if ((Z 2 0 0 3200) - 1) < a2 then (zlet (zu Z 1 0 0 2 1) (fun Z13 => (Z13, 0))) else (zlet (zu Z 1 0 0 2 0) (fun Z14 => (zlet (zf_437 Z14 a1 a2) (fun v15 => (if v15 = 0 then (zlet (zu Z14 1 0 0 2 2) (fun Z17 => (Z17, 0))) else (zlet (zu Z14 1 0 0 2 0) (fun Z18 => (zlet (dm Z18 21 a1 a2 0 0 0 0) (fun Z25 => (zlet (zu Z25 2 0 0 (2021 + 16 * a1) (Z25 2 0 0 (207 + 20 * (Z25 2 0 0 (2010 + 16 * a1))))) (fun Z28 => (zlet (zu Z28 2 0 0 (2022 + 16 * a1) (Z28 2 0 0 (208 + 20 * (Z25 2 0 0 (2010 + 16 * a1))))) (fun Z30 => (zlet (zu Z30 2 0 0 (2023 + 16 * a1) (Z30 2 0 0 0)) (fun Z32 => (zlet (zu Z32 2 0 0 (2024 + 16 * a1) (Z32 2 0 0 (207 + 20 * (Z25 2 0 0 (2010 + 16 * a1))))) (fun Z35 => (zlet (zu Z35 2 0 0 (2025 + 16 * a1) (Z35 2 0 0 (208 + 20 * (Z25 2 0 0 (2010 + 16 * a1))))) (fun Z38 => (zlet (zu Z38 2 0 0 (2020 + 16 * a1) a2) (fun Z39 => (zlet (zu Z39 2 0 0 (2019 + 16 * a1) 1) (fun Z42 => (zlet (zf_429 Z42 (Z25 2 0 0 (2010 + 16 * a1))) (fun Z46 => (zlet (zf_518 Z46 a2 1) (fun v47 => (Z46, v47))))))))))))))))))))))))))))))))
theorem sy_426 {s : zSM} {Z : qz_Z} {ν : qz_N} (hZ : zM s Z) (gq : Z 1 0 0 35 = 0) (hM : s.2 + 1 ≤ 1000000000) {a1 : Int} (ga1 : -2147483648 ≤ a1 ∧ a1 ≤ 2147483647) {a2 : Int} (ga2 : -2147483648 ≤ a2 ∧ a2 ≤ 2147483647) {dk : qz_Z → qz_Z} {dm : qz_Z → Int → Int → Int → Int → Int → Int → Int → qz_Z} {ν1 : qz_N} (hdm : zDm s ν ν1 Z dk dm) : ∃ (Z1 : qz_Z) (ν2 : qz_N) (v : Int), (Z1, v) = zy_426 Z dm a1 a2 ∧ (ν2 = ν ∨ ν2 = ν1) ∧ qf_426 [.inr (.inr (some (1, 0, 0))), .inl (i3 a1), .inl (i3 a2)] (zm Z ν) = some (zm Z1 ν2, .inl (some (.inl (i3 v)))) ∧ (fun Z1 => zM (zb s 1) Z1 ∧ zC [1, 2, 101, 102, 200] Z Z1 ∧ zU [] Z Z1) Z1 := by
  obtain ⟨P, hP⟩ := zx (zy_426 Z dm a1 a2)
  refine zc_Y (Q := fun Z1 => zM (zb s 1) Z1 ∧ zC [1, 2, 101, 102, 200] Z Z1 ∧ zU [] Z Z1) hP (fw_426 (i3 a1) (i3 a2) _ _ ?_)
  replace hP : zE P (zy_426 Z dm a1 a2) := hP
  unfold zy_426 at hP
  have r1 := zM_k hZ 1 0 0 35 (lo := 0) (hi := 1) (by decide) rfl
  have r2 := zM_k hZ 1 0 0 34 (lo := 0) (hi := 8) (by decide) rfl
  have r3 := zM_f hZ 1 0 0 37
  refine wz_br (i3L (rfl : i3 a1 = i3 a1) (show (0 : Int32) = i3 0 from rfl) (by omega) (by omega) (by omega) (by omega)) (fun h4 => ?_) (fun h4 => ?_)
  · replace hP := zE_p hP h4
    obtain ⟨Z5, hZ5⟩ := zx (zu Z 1 0 0 2 1)
    replace hP := zl_e hP hZ5
    have hZ5I := zM_u hZ hZ5 (lo := -2147483648) (hi := 2147483647) (by decide) rfl (by omega) ⟨by decide, by decide⟩ (Or.inr (by decide)) rfl
    have hZ5U : zU [] Z Z5 := zU_u zU_r hZ5 (Or.inl rfl)
    have hZ5K : zC [1, 2, 101, 102, 200] Z Z5 := zC_u zC_r hZ5 (by decide)
    intro μ9 e9
    replace e9 := e9.trans (zm_wI (Z := Z) (ν := ν) hZ5 (show ((0 : Nat) : Int) = 0 from rfl) (show ((0 : Nat) : Int) = 0 from rfl) (show ((2 : Nat) : Int) = 2 from rfl) (show (1 : Int32) = i3 1 from rfl))
    subst e9
    exact zlY hP (show (0 : Int32) = i3 0 from rfl) (.inl rfl) ⟨(zmw (a := 0) (c := 1) hZ5I (Nat.le_of_ble_eq_true rfl)), hZ5K, hZ5U⟩
  · replace hP := zE_n hP h4
    have r6 := zM_k hZ 2 0 0 2000 (lo := 0) (hi := 60) (by decide) rfl
    refine wz_br (i3L (i3S (zm_rd (Z := Z) (ν := ν) (k := 2) (show ((0 : Nat) : Int) = 0 from rfl) (show ((0 : Nat) : Int) = 0 from rfl) (show ((2000 : Nat) : Int) = 2000 from rfl)) (show (1 : Int32) = i3 1 from rfl)) (rfl : i3 a1 = i3 a1) (by omega) (by omega) (by omega) (by omega)) (fun h7 => ?_) (fun h7 => ?_)
    · replace hP := zE_p hP h7
      obtain ⟨Z8, hZ8⟩ := zx (zu Z 1 0 0 2 1)
      replace hP := zl_e hP hZ8
      have hZ8I := zM_u hZ hZ8 (lo := -2147483648) (hi := 2147483647) (by decide) rfl (by omega) ⟨by decide, by decide⟩ (Or.inr (by decide)) rfl
      have hZ8U : zU [] Z Z8 := zU_u zU_r hZ8 (Or.inl rfl)
      have hZ8K : zC [1, 2, 101, 102, 200] Z Z8 := zC_u zC_r hZ8 (by decide)
      intro μ9 e9
      replace e9 := e9.trans (zm_wI (Z := Z) (ν := ν) hZ8 (show ((0 : Nat) : Int) = 0 from rfl) (show ((0 : Nat) : Int) = 0 from rfl) (show ((2 : Nat) : Int) = 2 from rfl) (show (1 : Int32) = i3 1 from rfl))
      subst e9
      exact zlY hP (show (0 : Int32) = i3 0 from rfl) (.inl rfl) ⟨(zmw (a := 0) (c := 1) hZ8I (Nat.le_of_ble_eq_true rfl)), hZ8K, hZ8U⟩
    · replace hP := zE_n hP h7
      refine wz_br (i3L (rfl : i3 a2 = i3 a2) (show (0 : Int32) = i3 0 from rfl) (by omega) (by omega) (by omega) (by omega)) (fun h9 => ?_) (fun h9 => ?_)
      · replace hP := zE_p hP h9
        obtain ⟨Z10, hZ10⟩ := zx (zu Z 1 0 0 2 1)
        replace hP := zl_e hP hZ10
        have hZ10I := zM_u hZ hZ10 (lo := -2147483648) (hi := 2147483647) (by decide) rfl (by omega) ⟨by decide, by decide⟩ (Or.inr (by decide)) rfl
        have hZ10U : zU [] Z Z10 := zU_u zU_r hZ10 (Or.inl rfl)
        have hZ10K : zC [1, 2, 101, 102, 200] Z Z10 := zC_u zC_r hZ10 (by decide)
        intro μ9 e9
        replace e9 := e9.trans (zm_wI (Z := Z) (ν := ν) hZ10 (show ((0 : Nat) : Int) = 0 from rfl) (show ((0 : Nat) : Int) = 0 from rfl) (show ((2 : Nat) : Int) = 2 from rfl) (show (1 : Int32) = i3 1 from rfl))
        subst e9
        exact zlY hP (show (0 : Int32) = i3 0 from rfl) (.inl rfl) ⟨(zmw (a := 0) (c := 1) hZ10I (Nat.le_of_ble_eq_true rfl)), hZ10K, hZ10U⟩
      · replace hP := zE_n hP h9
        have r11 := zM_k hZ 2 0 0 3200 (lo := 0) (hi := 4) (by decide) rfl
        refine wz_br (i3L (i3S (zm_rd (Z := Z) (ν := ν) (k := 2) (show ((0 : Nat) : Int) = 0 from rfl) (show ((0 : Nat) : Int) = 0 from rfl) (show ((3200 : Nat) : Int) = 3200 from rfl)) (show (1 : Int32) = i3 1 from rfl)) (rfl : i3 a2 = i3 a2) (by omega) (by omega) (by omega) (by omega)) (fun h12 => ?_) (fun h12 => ?_)
        · replace hP := zE_p hP h12
          obtain ⟨Z13, hZ13⟩ := zx (zu Z 1 0 0 2 1)
          replace hP := zl_e hP hZ13
          have hZ13I := zM_u hZ hZ13 (lo := -2147483648) (hi := 2147483647) (by decide) rfl (by omega) ⟨by decide, by decide⟩ (Or.inr (by decide)) rfl
          have hZ13U : zU [] Z Z13 := zU_u zU_r hZ13 (Or.inl rfl)
          have hZ13K : zC [1, 2, 101, 102, 200] Z Z13 := zC_u zC_r hZ13 (by decide)
          intro μ9 e9
          replace e9 := e9.trans (zm_wI (Z := Z) (ν := ν) hZ13 (show ((0 : Nat) : Int) = 0 from rfl) (show ((0 : Nat) : Int) = 0 from rfl) (show ((2 : Nat) : Int) = 2 from rfl) (show (1 : Int32) = i3 1 from rfl))
          subst e9
          exact zlY hP (show (0 : Int32) = i3 0 from rfl) (.inl rfl) ⟨(zmw (a := 0) (c := 1) hZ13I (Nat.le_of_ble_eq_true rfl)), hZ13K, hZ13U⟩
        · replace hP := zE_n hP h12
          obtain ⟨Z14, hZ14⟩ := zx (zu Z 1 0 0 2 0)
          replace hP := zl_e hP hZ14
          have hZ14I := zM_0 hZ hZ14 (by decide) (Or.inr (by decide))
          have hZ14U : zU [] Z Z14 := zU_u zU_r hZ14 (Or.inl rfl)
          have hZ14K : zC [1, 2, 101, 102, 200] Z Z14 := zC_u zC_r hZ14 (by decide)
          intro μ9 e9
          replace e9 := e9.trans (zm_wI (Z := Z) (ν := ν) hZ14 (show ((0 : Nat) : Int) = 0 from rfl) (show ((0 : Nat) : Int) = 0 from rfl) (show ((2 : Nat) : Int) = 2 from rfl) (show (0 : Int32) = i3 0 from rfl))
          subst e9
          obtain ⟨v15, hv15, c9, lv15, uv15⟩ := sp_437 (ν := ν) hZ14I (a1 := a1) (by omega) (a2 := a2) (by omega) (zbh (c := 0) (k := 0) hM (Nat.le_of_ble_eq_true rfl))
          replace hP := zl_e hP hv15
          refine wz_cI_of (zas (zcons rfl (zcons (zvi (rfl : i3 a1 = i3 a1)) (zcons (zvi (rfl : i3 a2 = i3 a2)) rfl))) c9) ?_
          clear c9
          refine wz_br (i3E (rfl : i3 v15 = i3 v15) (show (0 : Int32) = i3 0 from rfl) (by omega) (by omega) (by omega) (by omega)) (fun h16 => ?_) (fun h16 => ?_)
          · replace hP := zE_p hP h16
            obtain ⟨Z17, hZ17⟩ := zx (zu Z14 1 0 0 2 2)
            replace hP := zl_e hP hZ17
            have hZ17I := zM_u hZ14I hZ17 (lo := -2147483648) (hi := 2147483647) (by decide) rfl (by omega) ⟨by decide, by decide⟩ (Or.inr (by decide)) rfl
            have hZ17U : zU [] Z Z17 := zU_u hZ14U hZ17 (Or.inl rfl)
            have hZ17K : zC [1, 2, 101, 102, 200] Z Z17 := zC_u hZ14K hZ17 (by decide)
            intro μ9 e9
            replace e9 := e9.trans (zm_wI (Z := Z14) (ν := ν) hZ17 (show ((0 : Nat) : Int) = 0 from rfl) (show ((0 : Nat) : Int) = 0 from rfl) (show ((2 : Nat) : Int) = 2 from rfl) (show (2 : Int32) = i3 2 from rfl))
            subst e9
            refine wz_i0 (Eq.trans (i3NE (rfl : i3 v15 = i3 v15) (show (0 : Int32) = i3 0 from rfl) (by omega) (by omega) (by omega) (by omega)) (decide_eq_false (by omega))) ?_
            exact zlY hP (show (0 : Int32) = i3 0 from rfl) (.inl rfl) ⟨(zmw (a := 0) (c := 1) hZ17I (Nat.le_of_ble_eq_true rfl)), hZ17K, hZ17U⟩
          · replace hP := zE_n hP h16
            obtain ⟨Z18, hZ18⟩ := zx (zu Z14 1 0 0 2 0)
            replace hP := zl_e hP hZ18
            have hZ18I := zM_0 hZ14I hZ18 (by decide) (Or.inr (by decide))
            have hZ18U : zU [] Z Z18 := zU_u hZ14U hZ18 (Or.inl rfl)
            have hZ18K : zC [1, 2, 101, 102, 200] Z Z18 := zC_u hZ14K hZ18 (by decide)
            intro μ9 e9
            replace e9 := e9.trans (zm_wI (Z := Z14) (ν := ν) hZ18 (show ((0 : Nat) : Int) = 0 from rfl) (show ((0 : Nat) : Int) = 0 from rfl) (show ((2 : Nat) : Int) = 2 from rfl) (show (0 : Int32) = i3 0 from rfl))
            subst e9
            refine wz_i1 (Eq.trans (i3NE (rfl : i3 v15 = i3 v15) (show (0 : Int32) = i3 0 from rfl) (by omega) (by omega) (by omega) (by omega)) (decide_eq_true (by omega))) ?_
            have r19 := zM_k hZ18I 1 0 0 35 (lo := 0) (hi := 1) (by decide) rfl
            have q20 := (zu_ne (k' := 1) (b' := 0) (i' := 0) (j' := 35) hZ18 (fun q => absurd q.2.2.2 (by decide))).trans (zu_ne (k' := 1) (b' := 0) (i' := 0) (j' := 35) hZ14 (fun q => absurd q.2.2.2 (by decide)))
            refine wz_i0 (Eq.trans (i3NE (zm_rd (Z := Z18) (ν := ν) (k := 1) (show ((0 : Nat) : Int) = 0 from rfl) (show ((0 : Nat) : Int) = 0 from rfl) (show ((35 : Nat) : Int) = 35 from rfl)) (show (0 : Int32) = i3 0 from rfl) (by omega) (by omega) (by omega) (by omega)) (decide_eq_false (by omega))) ?_
            have r21 := zM_k hZ18I 1 0 0 34 (lo := 0) (hi := 8) (by decide) rfl
            have q22 := (zu_ne (k' := 1) (b' := 0) (i' := 0) (j' := 34) hZ18 (fun q => absurd q.2.2.2 (by decide))).trans (zu_ne (k' := 1) (b' := 0) (i' := 0) (j' := 34) hZ14 (fun q => absurd q.2.2.2 (by decide)))
            have r23 := zM_f hZ18I 1 0 0 37
            have q24 := (zu_ne (k' := 1) (b' := 0) (i' := 0) (j' := 37) hZ18 (fun q => absurd q.2.2.2 (by decide))).trans (zu_ne (k' := 1) (b' := 0) (i' := 0) (j' := 37) hZ14 (fun q => absurd q.2.2.2 (by decide)))
            obtain ⟨c8, c9, hZ25I, dZ25⟩ := hdm Z18 21 a1 a2 0 0 0 0 hZ18I (by omega) (by omega) (by omega) (by omega) (by omega) (by omega) (by omega) (by omega) (by omega) (by omega)
            obtain ⟨Z25, hZ25⟩ := zx (dm Z18 21 a1 a2 0 0 0 0)
            rw [← hZ25] at c9 hZ25I dZ25
            replace hP := zl_e hP hZ25
            refine wz_cV_of (zas (zcons rfl (zcons (zvi (show (-1 : Int32) = i3 (-1) from rfl)) rfl)) c8) ?_
            refine wz_cV_of (zas (zcons rfl (zcons (zvi (show (21 : Int32) = i3 21 from rfl)) (zcons (zvi (rfl : i3 a1 = i3 a1)) (zcons (zvi (rfl : i3 a2 = i3 a2)) (zcons (zvi (show (0 : Int32) = i3 0 from rfl)) (zcons (zvi (show (0 : Int32) = i3 0 from rfl)) (zcons (zvi (show (0 : Int32) = i3 0 from rfl)) (zcons (zvi (show (0 : Int32) = i3 0 from rfl)) rfl)))))))) c9) ?_
            clear c8 c9
            have hZ25K : zC [1, 2, 101, 102, 200] Z Z25 := zC_t hZ18K (zMd_C dZ25) (by decide)
            have hZ25U : zU [] Z Z25 := zU_t hZ18U (zMd_U dZ25) zU_b0
            refine wz_i0 (i3O (n := 4400) (i3A (i3A (show (2010 : Int32) = i3 2010 from rfl) (i3M (show (16 : Int32) = i3 16 from rfl) (rfl : i3 a1 = i3 a1))) (show (0 : Int32) = i3 0 from rfl)) (by omega) (by omega) (by omega)) ?_
            have r26 := zM_k hZ25I 2 0 0 (2010 + 16 * a1) (lo := 0) (hi := 47) (by decide) (zs_2010_0 (x := a1) (by omega) (by omega) (by omega))
            refine wz_i0 (i3O (n := 4400) (i3A (i3A (show (200 : Int32) = i3 200 from rfl) (i3M (show (20 : Int32) = i3 20 from rfl) (zm_rd (Z := Z25) (ν := ν1) (k := 2) (show ((0 : Nat) : Int) = 0 from rfl) (show ((0 : Nat) : Int) = 0 from rfl) (i3I (y := (2010 + 16 * a1)) (i3A (i3A (show (2010 : Int32) = i3 2010 from rfl) (i3M (show (16 : Int32) = i3 16 from rfl) (rfl : i3 a1 = i3 a1))) (show (0 : Int32) = i3 0 from rfl)) (by omega) (by omega) (by omega))))) (show (7 : Int32) = i3 7 from rfl)) (by omega) (by omega) (by omega)) ?_
            refine wz_i0 (i3O (n := 4400) (i3A (i3A (show (2010 : Int32) = i3 2010 from rfl) (i3M (show (16 : Int32) = i3 16 from rfl) (rfl : i3 a1 = i3 a1))) (show (11 : Int32) = i3 11 from rfl)) (by omega) (by omega) (by omega)) ?_
            have r27 := zM_k hZ25I 2 0 0 (207 + 20 * (Z25 2 0 0 (2010 + 16 * a1))) (lo := 0) (hi := 2000) (by decide) (zs_200_7 (x := (Z25 2 0 0 (2010 + 16 * a1))) (by omega) (by omega) (by omega))
            obtain ⟨Z28, hZ28⟩ := zx (zu Z25 2 0 0 (2021 + 16 * a1) (Z25 2 0 0 (207 + 20 * (Z25 2 0 0 (2010 + 16 * a1)))))
            replace hP := zl_e hP hZ28
            have hZ28I := zM_u2 hZ25I hZ28 (lo := 0) (hi := 2000) (zs_2010_11 (x := a1) (by omega) (by omega) (by omega)) (by omega) ⟨by decide, by decide⟩ (by simp only [zsp]; omega)
            have hZ28U : zU [] Z Z28 := zU_u hZ25U hZ28 (Or.inl rfl)
            have hZ28K : zC [1, 2, 101, 102, 200] Z Z28 := zC_u hZ25K hZ28 (zcl_2w (by omega) rfl)
            intro μ9 e9
            replace e9 := e9.trans (zm_wI (Z := Z25) (ν := ν1) hZ28 (show ((0 : Nat) : Int) = 0 from rfl) (show ((0 : Nat) : Int) = 0 from rfl) (i3I (y := (2021 + 16 * a1)) (i3A (i3A (show (2010 : Int32) = i3 2010 from rfl) (i3M (show (16 : Int32) = i3 16 from rfl) (rfl : i3 a1 = i3 a1))) (show (11 : Int32) = i3 11 from rfl)) (by omega) (by omega) (by omega)) (zm_rd (Z := Z25) (ν := ν1) (k := 2) (show ((0 : Nat) : Int) = 0 from rfl) (show ((0 : Nat) : Int) = 0 from rfl) (i3I (y := (207 + 20 * (Z25 2 0 0 (2010 + 16 * a1)))) (i3A (i3A (show (200 : Int32) = i3 200 from rfl) (i3M (show (20 : Int32) = i3 20 from rfl) (zm_rd (Z := Z25) (ν := ν1) (k := 2) (show ((0 : Nat) : Int) = 0 from rfl) (show ((0 : Nat) : Int) = 0 from rfl) (i3I (y := (2010 + 16 * a1)) (i3A (i3A (show (2010 : Int32) = i3 2010 from rfl) (i3M (show (16 : Int32) = i3 16 from rfl) (rfl : i3 a1 = i3 a1))) (show (0 : Int32) = i3 0 from rfl)) (by omega) (by omega) (by omega))))) (show (7 : Int32) = i3 7 from rfl)) (by omega) (by omega) (by omega))))
            subst e9
            refine wz_i0 (i3O (n := 4400) (i3A (i3A (show (200 : Int32) = i3 200 from rfl) (i3M (show (20 : Int32) = i3 20 from rfl) (zm_rd (Z := Z25) (ν := ν1) (k := 2) (show ((0 : Nat) : Int) = 0 from rfl) (show ((0 : Nat) : Int) = 0 from rfl) (i3I (y := (2010 + 16 * a1)) (i3A (i3A (show (2010 : Int32) = i3 2010 from rfl) (i3M (show (16 : Int32) = i3 16 from rfl) (rfl : i3 a1 = i3 a1))) (show (0 : Int32) = i3 0 from rfl)) (by omega) (by omega) (by omega))))) (show (8 : Int32) = i3 8 from rfl)) (by omega) (by omega) (by omega)) ?_
            refine wz_i0 (i3O (n := 4400) (i3A (i3A (show (2010 : Int32) = i3 2010 from rfl) (i3M (show (16 : Int32) = i3 16 from rfl) (rfl : i3 a1 = i3 a1))) (show (12 : Int32) = i3 12 from rfl)) (by omega) (by omega) (by omega)) ?_
            have r29 := zM_k hZ28I 2 0 0 (208 + 20 * (Z25 2 0 0 (2010 + 16 * a1))) (lo := 0) (hi := 999) (by decide) (zs_200_8 (x := (Z25 2 0 0 (2010 + 16 * a1))) (by omega) (by omega) (by omega))
            obtain ⟨Z30, hZ30⟩ := zx (zu Z28 2 0 0 (2022 + 16 * a1) (Z28 2 0 0 (208 + 20 * (Z25 2 0 0 (2010 + 16 * a1)))))
            replace hP := zl_e hP hZ30
            have hZ30I := zM_u2 hZ28I hZ30 (lo := 0) (hi := 999) (zs_2010_12 (x := a1) (by omega) (by omega) (by omega)) (by omega) ⟨by decide, by decide⟩ (by simp only [zsp]; omega)
            have hZ30U : zU [] Z Z30 := zU_u hZ28U hZ30 (Or.inl rfl)
            have hZ30K : zC [1, 2, 101, 102, 200] Z Z30 := zC_u hZ28K hZ30 (zcl_2w (by omega) rfl)
            intro μ9 e9
            replace e9 := e9.trans (zm_wI (Z := Z28) (ν := ν1) hZ30 (show ((0 : Nat) : Int) = 0 from rfl) (show ((0 : Nat) : Int) = 0 from rfl) (i3I (y := (2022 + 16 * a1)) (i3A (i3A (show (2010 : Int32) = i3 2010 from rfl) (i3M (show (16 : Int32) = i3 16 from rfl) (rfl : i3 a1 = i3 a1))) (show (12 : Int32) = i3 12 from rfl)) (by omega) (by omega) (by omega)) (zm_rd (Z := Z28) (ν := ν1) (k := 2) (show ((0 : Nat) : Int) = 0 from rfl) (show ((0 : Nat) : Int) = 0 from rfl) (i3I (y := (208 + 20 * (Z25 2 0 0 (2010 + 16 * a1)))) (i3A (i3A (show (200 : Int32) = i3 200 from rfl) (i3M (show (20 : Int32) = i3 20 from rfl) (zm_rd (Z := Z25) (ν := ν1) (k := 2) (show ((0 : Nat) : Int) = 0 from rfl) (show ((0 : Nat) : Int) = 0 from rfl) (i3I (y := (2010 + 16 * a1)) (i3A (i3A (show (2010 : Int32) = i3 2010 from rfl) (i3M (show (16 : Int32) = i3 16 from rfl) (rfl : i3 a1 = i3 a1))) (show (0 : Int32) = i3 0 from rfl)) (by omega) (by omega) (by omega))))) (show (8 : Int32) = i3 8 from rfl)) (by omega) (by omega) (by omega))))
            subst e9
            refine wz_i0 (i3O (n := 4400) (i3A (i3A (show (2010 : Int32) = i3 2010 from rfl) (i3M (show (16 : Int32) = i3 16 from rfl) (rfl : i3 a1 = i3 a1))) (show (13 : Int32) = i3 13 from rfl)) (by omega) (by omega) (by omega)) ?_
            have r31 := zM_k hZ30I 2 0 0 0 (lo := 0) (hi := 671) (by decide) rfl
            obtain ⟨Z32, hZ32⟩ := zx (zu Z30 2 0 0 (2023 + 16 * a1) (Z30 2 0 0 0))
            replace hP := zl_e hP hZ32
            have hZ32I := zM_u2 hZ30I hZ32 (lo := -1) (hi := 671) (zs_2010_13 (x := a1) (by omega) (by omega) (by omega)) (by omega) ⟨by decide, by decide⟩ (by simp only [zsp]; omega)
            have hZ32U : zU [] Z Z32 := zU_u hZ30U hZ32 (Or.inl rfl)
            have hZ32K : zC [1, 2, 101, 102, 200] Z Z32 := zC_u hZ30K hZ32 (zcl_2w (by omega) rfl)
            intro μ9 e9
            replace e9 := e9.trans (zm_wI (Z := Z30) (ν := ν1) hZ32 (show ((0 : Nat) : Int) = 0 from rfl) (show ((0 : Nat) : Int) = 0 from rfl) (i3I (y := (2023 + 16 * a1)) (i3A (i3A (show (2010 : Int32) = i3 2010 from rfl) (i3M (show (16 : Int32) = i3 16 from rfl) (rfl : i3 a1 = i3 a1))) (show (13 : Int32) = i3 13 from rfl)) (by omega) (by omega) (by omega)) (zm_rd (Z := Z30) (ν := ν1) (k := 2) (show ((0 : Nat) : Int) = 0 from rfl) (show ((0 : Nat) : Int) = 0 from rfl) (show ((0 : Nat) : Int) = 0 from rfl)))
            subst e9
            refine wz_i0 (i3O (n := 4400) (i3A (i3A (show (200 : Int32) = i3 200 from rfl) (i3M (show (20 : Int32) = i3 20 from rfl) (zm_rd (Z := Z25) (ν := ν1) (k := 2) (show ((0 : Nat) : Int) = 0 from rfl) (show ((0 : Nat) : Int) = 0 from rfl) (i3I (y := (2010 + 16 * a1)) (i3A (i3A (show (2010 : Int32) = i3 2010 from rfl) (i3M (show (16 : Int32) = i3 16 from rfl) (rfl : i3 a1 = i3 a1))) (show (0 : Int32) = i3 0 from rfl)) (by omega) (by omega) (by omega))))) (show (7 : Int32) = i3 7 from rfl)) (by omega) (by omega) (by omega)) ?_
            refine wz_i0 (i3O (n := 4400) (i3A (i3A (show (2010 : Int32) = i3 2010 from rfl) (i3M (show (16 : Int32) = i3 16 from rfl) (rfl : i3 a1 = i3 a1))) (show (14 : Int32) = i3 14 from rfl)) (by omega) (by omega) (by omega)) ?_
            have r33 := zM_k hZ32I 2 0 0 (207 + 20 * (Z25 2 0 0 (2010 + 16 * a1))) (lo := 0) (hi := 2000) (by decide) (zs_200_7 (x := (Z25 2 0 0 (2010 + 16 * a1))) (by omega) (by omega) (by omega))
            have q34 := (zu_ne (k' := 2) (b' := 0) (i' := 0) (j' := (207 + 20 * (Z25 2 0 0 (2010 + 16 * a1)))) hZ32 (fun q => absurd q.2.2.2 (by omega))).trans ((zu_ne (k' := 2) (b' := 0) (i' := 0) (j' := (207 + 20 * (Z25 2 0 0 (2010 + 16 * a1)))) hZ30 (fun q => absurd q.2.2.2 (by omega))).trans (zu_ne (k' := 2) (b' := 0) (i' := 0) (j' := (207 + 20 * (Z25 2 0 0 (2010 + 16 * a1)))) hZ28 (fun q => absurd q.2.2.2 (by omega))))
            obtain ⟨Z35, hZ35⟩ := zx (zu Z32 2 0 0 (2024 + 16 * a1) (Z32 2 0 0 (207 + 20 * (Z25 2 0 0 (2010 + 16 * a1)))))
            replace hP := zl_e hP hZ35
            have hZ35I := zM_u2 hZ32I hZ35 (lo := -1) (hi := 2000) (zs_2010_14 (x := a1) (by omega) (by omega) (by omega)) (by omega) ⟨by decide, by decide⟩ (by simp only [zsp]; omega)
            have hZ35U : zU [] Z Z35 := zU_u hZ32U hZ35 (Or.inl rfl)
            have hZ35K : zC [1, 2, 101, 102, 200] Z Z35 := zC_u hZ32K hZ35 (zcl_2w (by omega) rfl)
            intro μ9 e9
            replace e9 := e9.trans (zm_wI (Z := Z32) (ν := ν1) hZ35 (show ((0 : Nat) : Int) = 0 from rfl) (show ((0 : Nat) : Int) = 0 from rfl) (i3I (y := (2024 + 16 * a1)) (i3A (i3A (show (2010 : Int32) = i3 2010 from rfl) (i3M (show (16 : Int32) = i3 16 from rfl) (rfl : i3 a1 = i3 a1))) (show (14 : Int32) = i3 14 from rfl)) (by omega) (by omega) (by omega)) (zm_rd (Z := Z32) (ν := ν1) (k := 2) (show ((0 : Nat) : Int) = 0 from rfl) (show ((0 : Nat) : Int) = 0 from rfl) (i3I (y := (207 + 20 * (Z25 2 0 0 (2010 + 16 * a1)))) (i3A (i3A (show (200 : Int32) = i3 200 from rfl) (i3M (show (20 : Int32) = i3 20 from rfl) (zm_rd (Z := Z25) (ν := ν1) (k := 2) (show ((0 : Nat) : Int) = 0 from rfl) (show ((0 : Nat) : Int) = 0 from rfl) (i3I (y := (2010 + 16 * a1)) (i3A (i3A (show (2010 : Int32) = i3 2010 from rfl) (i3M (show (16 : Int32) = i3 16 from rfl) (rfl : i3 a1 = i3 a1))) (show (0 : Int32) = i3 0 from rfl)) (by omega) (by omega) (by omega))))) (show (7 : Int32) = i3 7 from rfl)) (by omega) (by omega) (by omega))))
            subst e9
            refine wz_i0 (i3O (n := 4400) (i3A (i3A (show (200 : Int32) = i3 200 from rfl) (i3M (show (20 : Int32) = i3 20 from rfl) (zm_rd (Z := Z25) (ν := ν1) (k := 2) (show ((0 : Nat) : Int) = 0 from rfl) (show ((0 : Nat) : Int) = 0 from rfl) (i3I (y := (2010 + 16 * a1)) (i3A (i3A (show (2010 : Int32) = i3 2010 from rfl) (i3M (show (16 : Int32) = i3 16 from rfl) (rfl : i3 a1 = i3 a1))) (show (0 : Int32) = i3 0 from rfl)) (by omega) (by omega) (by omega))))) (show (8 : Int32) = i3 8 from rfl)) (by omega) (by omega) (by omega)) ?_
            refine wz_i0 (i3O (n := 4400) (i3A (i3A (show (2010 : Int32) = i3 2010 from rfl) (i3M (show (16 : Int32) = i3 16 from rfl) (rfl : i3 a1 = i3 a1))) (show (15 : Int32) = i3 15 from rfl)) (by omega) (by omega) (by omega)) ?_
            have r36 := zM_k hZ35I 2 0 0 (208 + 20 * (Z25 2 0 0 (2010 + 16 * a1))) (lo := 0) (hi := 999) (by decide) (zs_200_8 (x := (Z25 2 0 0 (2010 + 16 * a1))) (by omega) (by omega) (by omega))
            have q37 := (zu_ne (k' := 2) (b' := 0) (i' := 0) (j' := (208 + 20 * (Z25 2 0 0 (2010 + 16 * a1)))) hZ35 (fun q => absurd q.2.2.2 (by omega))).trans ((zu_ne (k' := 2) (b' := 0) (i' := 0) (j' := (208 + 20 * (Z25 2 0 0 (2010 + 16 * a1)))) hZ32 (fun q => absurd q.2.2.2 (by omega))).trans (zu_ne (k' := 2) (b' := 0) (i' := 0) (j' := (208 + 20 * (Z25 2 0 0 (2010 + 16 * a1)))) hZ30 (fun q => absurd q.2.2.2 (by omega))))
            obtain ⟨Z38, hZ38⟩ := zx (zu Z35 2 0 0 (2025 + 16 * a1) (Z35 2 0 0 (208 + 20 * (Z25 2 0 0 (2010 + 16 * a1)))))
            replace hP := zl_e hP hZ38
            have hZ38I := zM_u2 hZ35I hZ38 (lo := -1) (hi := 999) (zs_2010_15 (x := a1) (by omega) (by omega) (by omega)) (by omega) ⟨by decide, by decide⟩ (by simp only [zsp]; omega)
            have hZ38U : zU [] Z Z38 := zU_u hZ35U hZ38 (Or.inl rfl)
            have hZ38K : zC [1, 2, 101, 102, 200] Z Z38 := zC_u hZ35K hZ38 (zcl_2w (by omega) rfl)
            intro μ9 e9
            replace e9 := e9.trans (zm_wI (Z := Z35) (ν := ν1) hZ38 (show ((0 : Nat) : Int) = 0 from rfl) (show ((0 : Nat) : Int) = 0 from rfl) (i3I (y := (2025 + 16 * a1)) (i3A (i3A (show (2010 : Int32) = i3 2010 from rfl) (i3M (show (16 : Int32) = i3 16 from rfl) (rfl : i3 a1 = i3 a1))) (show (15 : Int32) = i3 15 from rfl)) (by omega) (by omega) (by omega)) (zm_rd (Z := Z35) (ν := ν1) (k := 2) (show ((0 : Nat) : Int) = 0 from rfl) (show ((0 : Nat) : Int) = 0 from rfl) (i3I (y := (208 + 20 * (Z25 2 0 0 (2010 + 16 * a1)))) (i3A (i3A (show (200 : Int32) = i3 200 from rfl) (i3M (show (20 : Int32) = i3 20 from rfl) (zm_rd (Z := Z25) (ν := ν1) (k := 2) (show ((0 : Nat) : Int) = 0 from rfl) (show ((0 : Nat) : Int) = 0 from rfl) (i3I (y := (2010 + 16 * a1)) (i3A (i3A (show (2010 : Int32) = i3 2010 from rfl) (i3M (show (16 : Int32) = i3 16 from rfl) (rfl : i3 a1 = i3 a1))) (show (0 : Int32) = i3 0 from rfl)) (by omega) (by omega) (by omega))))) (show (8 : Int32) = i3 8 from rfl)) (by omega) (by omega) (by omega))))
            subst e9
            refine wz_i0 (i3O (n := 4400) (i3A (i3A (show (2010 : Int32) = i3 2010 from rfl) (i3M (show (16 : Int32) = i3 16 from rfl) (rfl : i3 a1 = i3 a1))) (show (10 : Int32) = i3 10 from rfl)) (by omega) (by omega) (by omega)) ?_
            obtain ⟨Z39, hZ39⟩ := zx (zu Z38 2 0 0 (2020 + 16 * a1) a2)
            replace hP := zl_e hP hZ39
            have r40 := zM_k hZ38I 2 0 0 (2019 + 16 * a1) (lo := 0) (hi := 3) (by decide) (zs_2010_9 (x := a1) (by omega) (by omega) (by omega))
            have r41 := zM_lt2 hZ38I a1
            have hZ39I := zM_tr2 hZ38I hZ39 (q := a1) (by omega) (by omega) (by omega) (by omega)
            have hZ39U : zU [] Z Z39 := zU_u hZ38U hZ39 (Or.inl rfl)
            have hZ39K : zC [1, 2, 101, 102, 200] Z Z39 := zC_u hZ38K hZ39 (zcl_2w (by omega) rfl)
            intro μ9 e9
            replace e9 := e9.trans (zm_wI (Z := Z38) (ν := ν1) hZ39 (show ((0 : Nat) : Int) = 0 from rfl) (show ((0 : Nat) : Int) = 0 from rfl) (i3I (y := (2020 + 16 * a1)) (i3A (i3A (show (2010 : Int32) = i3 2010 from rfl) (i3M (show (16 : Int32) = i3 16 from rfl) (rfl : i3 a1 = i3 a1))) (show (10 : Int32) = i3 10 from rfl)) (by omega) (by omega) (by omega)) (rfl : i3 a2 = i3 a2))
            subst e9
            refine wz_i0 (i3O (n := 4400) (i3A (i3A (show (2010 : Int32) = i3 2010 from rfl) (i3M (show (16 : Int32) = i3 16 from rfl) (rfl : i3 a1 = i3 a1))) (show (9 : Int32) = i3 9 from rfl)) (by omega) (by omega) (by omega)) ?_
            obtain ⟨Z42, hZ42⟩ := zx (zu Z39 2 0 0 (2019 + 16 * a1) 1)
            replace hP := zl_e hP hZ42
            have r43 := zM_k hZ39I 2 0 0 (2020 + 16 * a1) (lo := -1) (hi := 3) (by decide) (zs_2010_10 (x := a1) (by omega) (by omega) (by omega))
            have r44 := zM_lt2 hZ39I a1
            have q45 := zu_at hZ39
            have hZ42I := zM_st2 hZ39I hZ42 (q := a1) (by omega) (by omega) (by omega) (by omega)
            have hZ42U : zU [] Z Z42 := zU_u hZ39U hZ42 (Or.inl rfl)
            have hZ42K : zC [1, 2, 101, 102, 200] Z Z42 := zC_u hZ39K hZ42 (zcl_2w (by omega) rfl)
            intro μ9 e9
            replace e9 := e9.trans (zm_wI (Z := Z39) (ν := ν1) hZ42 (show ((0 : Nat) : Int) = 0 from rfl) (show ((0 : Nat) : Int) = 0 from rfl) (i3I (y := (2019 + 16 * a1)) (i3A (i3A (show (2010 : Int32) = i3 2010 from rfl) (i3M (show (16 : Int32) = i3 16 from rfl) (rfl : i3 a1 = i3 a1))) (show (9 : Int32) = i3 9 from rfl)) (by omega) (by omega) (by omega)) (show (1 : Int32) = i3 1 from rfl))
            subst e9
            obtain ⟨Z46, hZ46, c9, hZ46I, kZ46, jZ46⟩ := sp_429 (ν := ν1) hZ42I (a1 := (Z25 2 0 0 (2010 + 16 * a1))) (by omega) (zbh (c := 0) (k := 1) hM (Nat.le_of_ble_eq_true rfl))
            have hZ46U : zU [] Z Z46 := zU_t hZ42U jZ46 zU_b0
            have hZ46K : zC [1, 2, 101, 102, 200] Z Z46 := zC_t hZ42K kZ46 (by decide)
            replace hP := zl_e hP hZ46
            refine wz_cV_of (zas (zcons rfl (zcons (zvi (zm_rd (Z := Z25) (ν := ν1) (k := 2) (show ((0 : Nat) : Int) = 0 from rfl) (show ((0 : Nat) : Int) = 0 from rfl) (i3I (y := (2010 + 16 * a1)) (i3A (i3A (show (2010 : Int32) = i3 2010 from rfl) (i3M (show (16 : Int32) = i3 16 from rfl) (rfl : i3 a1 = i3 a1))) (show (0 : Int32) = i3 0 from rfl)) (by omega) (by omega) (by omega)))) rfl)) c9) ?_
            clear c9
            obtain ⟨v47, hv47, c9, lv47, uv47⟩ := sp_518 (ν := ν1) hZ46I (a1 := a2) (by omega) (a2 := 1) (by omega) (zbh (c := 1) (k := 0) hM (Nat.le_of_ble_eq_true rfl))
            replace hP := zl_e hP hv47
            refine wz_cI_of (zas (zcons rfl (zcons (zvi (rfl : i3 a2 = i3 a2)) (zcons (zvi (show (1 : Int32) = i3 1 from rfl)) rfl))) c9) ?_
            clear c9
            exact zlY hP (rfl : i3 v47 = i3 v47) (.inr rfl) ⟨hZ46I, hZ46K, hZ46U⟩

theorem sq_426 {s : zSM} {Z : qz_Z} {ν : qz_N} (hZ : zM s Z) (gq : Z 1 0 0 35 = 1) (hM : s.2 + 1 ≤ 1000000000) {a1 : Int} (ga1 : -2147483648 ≤ a1 ∧ a1 ≤ 2147483647) {a2 : Int} (ga2 : -2147483648 ≤ a2 ∧ a2 ≤ 2147483647) {ν1 : qz_N} : ∃ (Z1 : qz_Z) (ν2 : qz_N) (v : Int), (Z1, v) = zy_426 Z zq0 a1 a2 ∧ (ν2 = ν ∨ ν2 = ν1) ∧ qf_426 [.inr (.inr (some (1, 0, 0))), .inl (i3 a1), .inl (i3 a2)] (zm Z ν) = some (zm Z1 ν2, .inl (some (.inl (i3 v)))) ∧ (fun Z1 => zM (zb s 1) Z1 ∧ zC [1, 2] Z Z1 ∧ zU [] Z Z1) Z1 := by
  obtain ⟨P, hP⟩ := zx (zy_426 Z zq0 a1 a2)
  refine zc_Y (Q := fun Z1 => zM (zb s 1) Z1 ∧ zC [1, 2] Z Z1 ∧ zU [] Z Z1) hP (fw_426 (i3 a1) (i3 a2) _ _ ?_)
  replace hP : zE P (zy_426 Z zq0 a1 a2) := hP
  unfold zy_426 at hP
  have r1 := zM_k hZ 1 0 0 35 (lo := 0) (hi := 1) (by decide) rfl
  have r2 := zM_k hZ 1 0 0 34 (lo := 0) (hi := 8) (by decide) rfl
  have r3 := zM_f hZ 1 0 0 37
  refine wz_br (i3L (rfl : i3 a1 = i3 a1) (show (0 : Int32) = i3 0 from rfl) (by omega) (by omega) (by omega) (by omega)) (fun h4 => ?_) (fun h4 => ?_)
  · replace hP := zE_p hP h4
    obtain ⟨Z5, hZ5⟩ := zx (zu Z 1 0 0 2 1)
    replace hP := zl_e hP hZ5
    have hZ5I := zM_u hZ hZ5 (lo := -2147483648) (hi := 2147483647) (by decide) rfl (by omega) ⟨by decide, by decide⟩ (Or.inr (by decide)) rfl
    have hZ5U : zU [] Z Z5 := zU_u zU_r hZ5 (Or.inl rfl)
    have hZ5K : zC [1, 2] Z Z5 := zC_u zC_r hZ5 (by decide)
    intro μ9 e9
    replace e9 := e9.trans (zm_wI (Z := Z) (ν := ν) hZ5 (show ((0 : Nat) : Int) = 0 from rfl) (show ((0 : Nat) : Int) = 0 from rfl) (show ((2 : Nat) : Int) = 2 from rfl) (show (1 : Int32) = i3 1 from rfl))
    subst e9
    exact zlY hP (show (0 : Int32) = i3 0 from rfl) (.inl rfl) ⟨(zmw (a := 0) (c := 1) hZ5I (Nat.le_of_ble_eq_true rfl)), hZ5K, hZ5U⟩
  · replace hP := zE_n hP h4
    have r6 := zM_k hZ 2 0 0 2000 (lo := 0) (hi := 60) (by decide) rfl
    refine wz_br (i3L (i3S (zm_rd (Z := Z) (ν := ν) (k := 2) (show ((0 : Nat) : Int) = 0 from rfl) (show ((0 : Nat) : Int) = 0 from rfl) (show ((2000 : Nat) : Int) = 2000 from rfl)) (show (1 : Int32) = i3 1 from rfl)) (rfl : i3 a1 = i3 a1) (by omega) (by omega) (by omega) (by omega)) (fun h7 => ?_) (fun h7 => ?_)
    · replace hP := zE_p hP h7
      obtain ⟨Z8, hZ8⟩ := zx (zu Z 1 0 0 2 1)
      replace hP := zl_e hP hZ8
      have hZ8I := zM_u hZ hZ8 (lo := -2147483648) (hi := 2147483647) (by decide) rfl (by omega) ⟨by decide, by decide⟩ (Or.inr (by decide)) rfl
      have hZ8U : zU [] Z Z8 := zU_u zU_r hZ8 (Or.inl rfl)
      have hZ8K : zC [1, 2] Z Z8 := zC_u zC_r hZ8 (by decide)
      intro μ9 e9
      replace e9 := e9.trans (zm_wI (Z := Z) (ν := ν) hZ8 (show ((0 : Nat) : Int) = 0 from rfl) (show ((0 : Nat) : Int) = 0 from rfl) (show ((2 : Nat) : Int) = 2 from rfl) (show (1 : Int32) = i3 1 from rfl))
      subst e9
      exact zlY hP (show (0 : Int32) = i3 0 from rfl) (.inl rfl) ⟨(zmw (a := 0) (c := 1) hZ8I (Nat.le_of_ble_eq_true rfl)), hZ8K, hZ8U⟩
    · replace hP := zE_n hP h7
      refine wz_br (i3L (rfl : i3 a2 = i3 a2) (show (0 : Int32) = i3 0 from rfl) (by omega) (by omega) (by omega) (by omega)) (fun h9 => ?_) (fun h9 => ?_)
      · replace hP := zE_p hP h9
        obtain ⟨Z10, hZ10⟩ := zx (zu Z 1 0 0 2 1)
        replace hP := zl_e hP hZ10
        have hZ10I := zM_u hZ hZ10 (lo := -2147483648) (hi := 2147483647) (by decide) rfl (by omega) ⟨by decide, by decide⟩ (Or.inr (by decide)) rfl
        have hZ10U : zU [] Z Z10 := zU_u zU_r hZ10 (Or.inl rfl)
        have hZ10K : zC [1, 2] Z Z10 := zC_u zC_r hZ10 (by decide)
        intro μ9 e9
        replace e9 := e9.trans (zm_wI (Z := Z) (ν := ν) hZ10 (show ((0 : Nat) : Int) = 0 from rfl) (show ((0 : Nat) : Int) = 0 from rfl) (show ((2 : Nat) : Int) = 2 from rfl) (show (1 : Int32) = i3 1 from rfl))
        subst e9
        exact zlY hP (show (0 : Int32) = i3 0 from rfl) (.inl rfl) ⟨(zmw (a := 0) (c := 1) hZ10I (Nat.le_of_ble_eq_true rfl)), hZ10K, hZ10U⟩
      · replace hP := zE_n hP h9
        have r11 := zM_k hZ 2 0 0 3200 (lo := 0) (hi := 4) (by decide) rfl
        refine wz_br (i3L (i3S (zm_rd (Z := Z) (ν := ν) (k := 2) (show ((0 : Nat) : Int) = 0 from rfl) (show ((0 : Nat) : Int) = 0 from rfl) (show ((3200 : Nat) : Int) = 3200 from rfl)) (show (1 : Int32) = i3 1 from rfl)) (rfl : i3 a2 = i3 a2) (by omega) (by omega) (by omega) (by omega)) (fun h12 => ?_) (fun h12 => ?_)
        · replace hP := zE_p hP h12
          obtain ⟨Z13, hZ13⟩ := zx (zu Z 1 0 0 2 1)
          replace hP := zl_e hP hZ13
          have hZ13I := zM_u hZ hZ13 (lo := -2147483648) (hi := 2147483647) (by decide) rfl (by omega) ⟨by decide, by decide⟩ (Or.inr (by decide)) rfl
          have hZ13U : zU [] Z Z13 := zU_u zU_r hZ13 (Or.inl rfl)
          have hZ13K : zC [1, 2] Z Z13 := zC_u zC_r hZ13 (by decide)
          intro μ9 e9
          replace e9 := e9.trans (zm_wI (Z := Z) (ν := ν) hZ13 (show ((0 : Nat) : Int) = 0 from rfl) (show ((0 : Nat) : Int) = 0 from rfl) (show ((2 : Nat) : Int) = 2 from rfl) (show (1 : Int32) = i3 1 from rfl))
          subst e9
          exact zlY hP (show (0 : Int32) = i3 0 from rfl) (.inl rfl) ⟨(zmw (a := 0) (c := 1) hZ13I (Nat.le_of_ble_eq_true rfl)), hZ13K, hZ13U⟩
        · replace hP := zE_n hP h12
          obtain ⟨Z14, hZ14⟩ := zx (zu Z 1 0 0 2 0)
          replace hP := zl_e hP hZ14
          have hZ14I := zM_0 hZ hZ14 (by decide) (Or.inr (by decide))
          have hZ14U : zU [] Z Z14 := zU_u zU_r hZ14 (Or.inl rfl)
          have hZ14K : zC [1, 2] Z Z14 := zC_u zC_r hZ14 (by decide)
          intro μ9 e9
          replace e9 := e9.trans (zm_wI (Z := Z) (ν := ν) hZ14 (show ((0 : Nat) : Int) = 0 from rfl) (show ((0 : Nat) : Int) = 0 from rfl) (show ((2 : Nat) : Int) = 2 from rfl) (show (0 : Int32) = i3 0 from rfl))
          subst e9
          obtain ⟨v15, hv15, c9, lv15, uv15⟩ := sp_437 (ν := ν) hZ14I (a1 := a1) (by omega) (a2 := a2) (by omega) (zbh (c := 0) (k := 0) hM (Nat.le_of_ble_eq_true rfl))
          replace hP := zl_e hP hv15
          refine wz_cI_of (zas (zcons rfl (zcons (zvi (rfl : i3 a1 = i3 a1)) (zcons (zvi (rfl : i3 a2 = i3 a2)) rfl))) c9) ?_
          clear c9
          refine wz_br (i3E (rfl : i3 v15 = i3 v15) (show (0 : Int32) = i3 0 from rfl) (by omega) (by omega) (by omega) (by omega)) (fun h16 => ?_) (fun h16 => ?_)
          · replace hP := zE_p hP h16
            obtain ⟨Z17, hZ17⟩ := zx (zu Z14 1 0 0 2 2)
            replace hP := zl_e hP hZ17
            have hZ17I := zM_u hZ14I hZ17 (lo := -2147483648) (hi := 2147483647) (by decide) rfl (by omega) ⟨by decide, by decide⟩ (Or.inr (by decide)) rfl
            have hZ17U : zU [] Z Z17 := zU_u hZ14U hZ17 (Or.inl rfl)
            have hZ17K : zC [1, 2] Z Z17 := zC_u hZ14K hZ17 (by decide)
            intro μ9 e9
            replace e9 := e9.trans (zm_wI (Z := Z14) (ν := ν) hZ17 (show ((0 : Nat) : Int) = 0 from rfl) (show ((0 : Nat) : Int) = 0 from rfl) (show ((2 : Nat) : Int) = 2 from rfl) (show (2 : Int32) = i3 2 from rfl))
            subst e9
            refine wz_i0 (Eq.trans (i3NE (rfl : i3 v15 = i3 v15) (show (0 : Int32) = i3 0 from rfl) (by omega) (by omega) (by omega) (by omega)) (decide_eq_false (by omega))) ?_
            exact zlY hP (show (0 : Int32) = i3 0 from rfl) (.inl rfl) ⟨(zmw (a := 0) (c := 1) hZ17I (Nat.le_of_ble_eq_true rfl)), hZ17K, hZ17U⟩
          · replace hP := zE_n hP h16
            obtain ⟨Z18, hZ18⟩ := zx (zu Z14 1 0 0 2 0)
            replace hP := zl_e hP hZ18
            have hZ18I := zM_0 hZ14I hZ18 (by decide) (Or.inr (by decide))
            have hZ18U : zU [] Z Z18 := zU_u hZ14U hZ18 (Or.inl rfl)
            have hZ18K : zC [1, 2] Z Z18 := zC_u hZ14K hZ18 (by decide)
            intro μ9 e9
            replace e9 := e9.trans (zm_wI (Z := Z14) (ν := ν) hZ18 (show ((0 : Nat) : Int) = 0 from rfl) (show ((0 : Nat) : Int) = 0 from rfl) (show ((2 : Nat) : Int) = 2 from rfl) (show (0 : Int32) = i3 0 from rfl))
            subst e9
            refine wz_i1 (Eq.trans (i3NE (rfl : i3 v15 = i3 v15) (show (0 : Int32) = i3 0 from rfl) (by omega) (by omega) (by omega) (by omega)) (decide_eq_true (by omega))) ?_
            have r19 := zM_k hZ18I 1 0 0 35 (lo := 0) (hi := 1) (by decide) rfl
            have q20 := (zu_ne (k' := 1) (b' := 0) (i' := 0) (j' := 35) hZ18 (fun q => absurd q.2.2.2 (by decide))).trans (zu_ne (k' := 1) (b' := 0) (i' := 0) (j' := 35) hZ14 (fun q => absurd q.2.2.2 (by decide)))
            refine wz_i1 (Eq.trans (i3NE (zm_rd (Z := Z18) (ν := ν) (k := 1) (show ((0 : Nat) : Int) = 0 from rfl) (show ((0 : Nat) : Int) = 0 from rfl) (show ((35 : Nat) : Int) = 35 from rfl)) (show (0 : Int32) = i3 0 from rfl) (by omega) (by omega) (by omega) (by omega)) (decide_eq_true (by omega))) ?_
            replace hP := zl_q hP (rfl : _ = Z18)
            refine wz_i0 (i3O (n := 4400) (i3A (i3A (show (2010 : Int32) = i3 2010 from rfl) (i3M (show (16 : Int32) = i3 16 from rfl) (rfl : i3 a1 = i3 a1))) (show (0 : Int32) = i3 0 from rfl)) (by omega) (by omega) (by omega)) ?_
            have r21 := zM_k hZ18I 2 0 0 (2010 + 16 * a1) (lo := 0) (hi := 47) (by decide) (zs_2010_0 (x := a1) (by omega) (by omega) (by omega))
            refine wz_i0 (i3O (n := 4400) (i3A (i3A (show (200 : Int32) = i3 200 from rfl) (i3M (show (20 : Int32) = i3 20 from rfl) (zm_rd (Z := Z18) (ν := ν) (k := 2) (show ((0 : Nat) : Int) = 0 from rfl) (show ((0 : Nat) : Int) = 0 from rfl) (i3I (y := (2010 + 16 * a1)) (i3A (i3A (show (2010 : Int32) = i3 2010 from rfl) (i3M (show (16 : Int32) = i3 16 from rfl) (rfl : i3 a1 = i3 a1))) (show (0 : Int32) = i3 0 from rfl)) (by omega) (by omega) (by omega))))) (show (7 : Int32) = i3 7 from rfl)) (by omega) (by omega) (by omega)) ?_
            refine wz_i0 (i3O (n := 4400) (i3A (i3A (show (2010 : Int32) = i3 2010 from rfl) (i3M (show (16 : Int32) = i3 16 from rfl) (rfl : i3 a1 = i3 a1))) (show (11 : Int32) = i3 11 from rfl)) (by omega) (by omega) (by omega)) ?_
            have r22 := zM_k hZ18I 2 0 0 (207 + 20 * (Z18 2 0 0 (2010 + 16 * a1))) (lo := 0) (hi := 2000) (by decide) (zs_200_7 (x := (Z18 2 0 0 (2010 + 16 * a1))) (by omega) (by omega) (by omega))
            obtain ⟨Z23, hZ23⟩ := zx (zu Z18 2 0 0 (2021 + 16 * a1) (Z18 2 0 0 (207 + 20 * (Z18 2 0 0 (2010 + 16 * a1)))))
            replace hP := zl_e hP hZ23
            have hZ23I := zM_u2 hZ18I hZ23 (lo := 0) (hi := 2000) (zs_2010_11 (x := a1) (by omega) (by omega) (by omega)) (by omega) ⟨by decide, by decide⟩ (by simp only [zsp]; omega)
            have hZ23U : zU [] Z Z23 := zU_u hZ18U hZ23 (Or.inl rfl)
            have hZ23K : zC [1, 2] Z Z23 := zC_u hZ18K hZ23 (zcl_2w (by omega) rfl)
            intro μ9 e9
            replace e9 := e9.trans (zm_wI (Z := Z18) (ν := ν) hZ23 (show ((0 : Nat) : Int) = 0 from rfl) (show ((0 : Nat) : Int) = 0 from rfl) (i3I (y := (2021 + 16 * a1)) (i3A (i3A (show (2010 : Int32) = i3 2010 from rfl) (i3M (show (16 : Int32) = i3 16 from rfl) (rfl : i3 a1 = i3 a1))) (show (11 : Int32) = i3 11 from rfl)) (by omega) (by omega) (by omega)) (zm_rd (Z := Z18) (ν := ν) (k := 2) (show ((0 : Nat) : Int) = 0 from rfl) (show ((0 : Nat) : Int) = 0 from rfl) (i3I (y := (207 + 20 * (Z18 2 0 0 (2010 + 16 * a1)))) (i3A (i3A (show (200 : Int32) = i3 200 from rfl) (i3M (show (20 : Int32) = i3 20 from rfl) (zm_rd (Z := Z18) (ν := ν) (k := 2) (show ((0 : Nat) : Int) = 0 from rfl) (show ((0 : Nat) : Int) = 0 from rfl) (i3I (y := (2010 + 16 * a1)) (i3A (i3A (show (2010 : Int32) = i3 2010 from rfl) (i3M (show (16 : Int32) = i3 16 from rfl) (rfl : i3 a1 = i3 a1))) (show (0 : Int32) = i3 0 from rfl)) (by omega) (by omega) (by omega))))) (show (7 : Int32) = i3 7 from rfl)) (by omega) (by omega) (by omega))))
            subst e9
            refine wz_i0 (i3O (n := 4400) (i3A (i3A (show (200 : Int32) = i3 200 from rfl) (i3M (show (20 : Int32) = i3 20 from rfl) (zm_rd (Z := Z18) (ν := ν) (k := 2) (show ((0 : Nat) : Int) = 0 from rfl) (show ((0 : Nat) : Int) = 0 from rfl) (i3I (y := (2010 + 16 * a1)) (i3A (i3A (show (2010 : Int32) = i3 2010 from rfl) (i3M (show (16 : Int32) = i3 16 from rfl) (rfl : i3 a1 = i3 a1))) (show (0 : Int32) = i3 0 from rfl)) (by omega) (by omega) (by omega))))) (show (8 : Int32) = i3 8 from rfl)) (by omega) (by omega) (by omega)) ?_
            refine wz_i0 (i3O (n := 4400) (i3A (i3A (show (2010 : Int32) = i3 2010 from rfl) (i3M (show (16 : Int32) = i3 16 from rfl) (rfl : i3 a1 = i3 a1))) (show (12 : Int32) = i3 12 from rfl)) (by omega) (by omega) (by omega)) ?_
            have r24 := zM_k hZ23I 2 0 0 (208 + 20 * (Z18 2 0 0 (2010 + 16 * a1))) (lo := 0) (hi := 999) (by decide) (zs_200_8 (x := (Z18 2 0 0 (2010 + 16 * a1))) (by omega) (by omega) (by omega))
            obtain ⟨Z25, hZ25⟩ := zx (zu Z23 2 0 0 (2022 + 16 * a1) (Z23 2 0 0 (208 + 20 * (Z18 2 0 0 (2010 + 16 * a1)))))
            replace hP := zl_e hP hZ25
            have hZ25I := zM_u2 hZ23I hZ25 (lo := 0) (hi := 999) (zs_2010_12 (x := a1) (by omega) (by omega) (by omega)) (by omega) ⟨by decide, by decide⟩ (by simp only [zsp]; omega)
            have hZ25U : zU [] Z Z25 := zU_u hZ23U hZ25 (Or.inl rfl)
            have hZ25K : zC [1, 2] Z Z25 := zC_u hZ23K hZ25 (zcl_2w (by omega) rfl)
            intro μ9 e9
            replace e9 := e9.trans (zm_wI (Z := Z23) (ν := ν) hZ25 (show ((0 : Nat) : Int) = 0 from rfl) (show ((0 : Nat) : Int) = 0 from rfl) (i3I (y := (2022 + 16 * a1)) (i3A (i3A (show (2010 : Int32) = i3 2010 from rfl) (i3M (show (16 : Int32) = i3 16 from rfl) (rfl : i3 a1 = i3 a1))) (show (12 : Int32) = i3 12 from rfl)) (by omega) (by omega) (by omega)) (zm_rd (Z := Z23) (ν := ν) (k := 2) (show ((0 : Nat) : Int) = 0 from rfl) (show ((0 : Nat) : Int) = 0 from rfl) (i3I (y := (208 + 20 * (Z18 2 0 0 (2010 + 16 * a1)))) (i3A (i3A (show (200 : Int32) = i3 200 from rfl) (i3M (show (20 : Int32) = i3 20 from rfl) (zm_rd (Z := Z18) (ν := ν) (k := 2) (show ((0 : Nat) : Int) = 0 from rfl) (show ((0 : Nat) : Int) = 0 from rfl) (i3I (y := (2010 + 16 * a1)) (i3A (i3A (show (2010 : Int32) = i3 2010 from rfl) (i3M (show (16 : Int32) = i3 16 from rfl) (rfl : i3 a1 = i3 a1))) (show (0 : Int32) = i3 0 from rfl)) (by omega) (by omega) (by omega))))) (show (8 : Int32) = i3 8 from rfl)) (by omega) (by omega) (by omega))))
            subst e9
            refine wz_i0 (i3O (n := 4400) (i3A (i3A (show (2010 : Int32) = i3 2010 from rfl) (i3M (show (16 : Int32) = i3 16 from rfl) (rfl : i3 a1 = i3 a1))) (show (13 : Int32) = i3 13 from rfl)) (by omega) (by omega) (by omega)) ?_
            have r26 := zM_k hZ25I 2 0 0 0 (lo := 0) (hi := 671) (by decide) rfl
            obtain ⟨Z27, hZ27⟩ := zx (zu Z25 2 0 0 (2023 + 16 * a1) (Z25 2 0 0 0))
            replace hP := zl_e hP hZ27
            have hZ27I := zM_u2 hZ25I hZ27 (lo := -1) (hi := 671) (zs_2010_13 (x := a1) (by omega) (by omega) (by omega)) (by omega) ⟨by decide, by decide⟩ (by simp only [zsp]; omega)
            have hZ27U : zU [] Z Z27 := zU_u hZ25U hZ27 (Or.inl rfl)
            have hZ27K : zC [1, 2] Z Z27 := zC_u hZ25K hZ27 (zcl_2w (by omega) rfl)
            intro μ9 e9
            replace e9 := e9.trans (zm_wI (Z := Z25) (ν := ν) hZ27 (show ((0 : Nat) : Int) = 0 from rfl) (show ((0 : Nat) : Int) = 0 from rfl) (i3I (y := (2023 + 16 * a1)) (i3A (i3A (show (2010 : Int32) = i3 2010 from rfl) (i3M (show (16 : Int32) = i3 16 from rfl) (rfl : i3 a1 = i3 a1))) (show (13 : Int32) = i3 13 from rfl)) (by omega) (by omega) (by omega)) (zm_rd (Z := Z25) (ν := ν) (k := 2) (show ((0 : Nat) : Int) = 0 from rfl) (show ((0 : Nat) : Int) = 0 from rfl) (show ((0 : Nat) : Int) = 0 from rfl)))
            subst e9
            refine wz_i0 (i3O (n := 4400) (i3A (i3A (show (200 : Int32) = i3 200 from rfl) (i3M (show (20 : Int32) = i3 20 from rfl) (zm_rd (Z := Z18) (ν := ν) (k := 2) (show ((0 : Nat) : Int) = 0 from rfl) (show ((0 : Nat) : Int) = 0 from rfl) (i3I (y := (2010 + 16 * a1)) (i3A (i3A (show (2010 : Int32) = i3 2010 from rfl) (i3M (show (16 : Int32) = i3 16 from rfl) (rfl : i3 a1 = i3 a1))) (show (0 : Int32) = i3 0 from rfl)) (by omega) (by omega) (by omega))))) (show (7 : Int32) = i3 7 from rfl)) (by omega) (by omega) (by omega)) ?_
            refine wz_i0 (i3O (n := 4400) (i3A (i3A (show (2010 : Int32) = i3 2010 from rfl) (i3M (show (16 : Int32) = i3 16 from rfl) (rfl : i3 a1 = i3 a1))) (show (14 : Int32) = i3 14 from rfl)) (by omega) (by omega) (by omega)) ?_
            have r28 := zM_k hZ27I 2 0 0 (207 + 20 * (Z18 2 0 0 (2010 + 16 * a1))) (lo := 0) (hi := 2000) (by decide) (zs_200_7 (x := (Z18 2 0 0 (2010 + 16 * a1))) (by omega) (by omega) (by omega))
            have q29 := (zu_ne (k' := 2) (b' := 0) (i' := 0) (j' := (207 + 20 * (Z18 2 0 0 (2010 + 16 * a1)))) hZ27 (fun q => absurd q.2.2.2 (by omega))).trans ((zu_ne (k' := 2) (b' := 0) (i' := 0) (j' := (207 + 20 * (Z18 2 0 0 (2010 + 16 * a1)))) hZ25 (fun q => absurd q.2.2.2 (by omega))).trans (zu_ne (k' := 2) (b' := 0) (i' := 0) (j' := (207 + 20 * (Z18 2 0 0 (2010 + 16 * a1)))) hZ23 (fun q => absurd q.2.2.2 (by omega))))
            obtain ⟨Z30, hZ30⟩ := zx (zu Z27 2 0 0 (2024 + 16 * a1) (Z27 2 0 0 (207 + 20 * (Z18 2 0 0 (2010 + 16 * a1)))))
            replace hP := zl_e hP hZ30
            have hZ30I := zM_u2 hZ27I hZ30 (lo := -1) (hi := 2000) (zs_2010_14 (x := a1) (by omega) (by omega) (by omega)) (by omega) ⟨by decide, by decide⟩ (by simp only [zsp]; omega)
            have hZ30U : zU [] Z Z30 := zU_u hZ27U hZ30 (Or.inl rfl)
            have hZ30K : zC [1, 2] Z Z30 := zC_u hZ27K hZ30 (zcl_2w (by omega) rfl)
            intro μ9 e9
            replace e9 := e9.trans (zm_wI (Z := Z27) (ν := ν) hZ30 (show ((0 : Nat) : Int) = 0 from rfl) (show ((0 : Nat) : Int) = 0 from rfl) (i3I (y := (2024 + 16 * a1)) (i3A (i3A (show (2010 : Int32) = i3 2010 from rfl) (i3M (show (16 : Int32) = i3 16 from rfl) (rfl : i3 a1 = i3 a1))) (show (14 : Int32) = i3 14 from rfl)) (by omega) (by omega) (by omega)) (zm_rd (Z := Z27) (ν := ν) (k := 2) (show ((0 : Nat) : Int) = 0 from rfl) (show ((0 : Nat) : Int) = 0 from rfl) (i3I (y := (207 + 20 * (Z18 2 0 0 (2010 + 16 * a1)))) (i3A (i3A (show (200 : Int32) = i3 200 from rfl) (i3M (show (20 : Int32) = i3 20 from rfl) (zm_rd (Z := Z18) (ν := ν) (k := 2) (show ((0 : Nat) : Int) = 0 from rfl) (show ((0 : Nat) : Int) = 0 from rfl) (i3I (y := (2010 + 16 * a1)) (i3A (i3A (show (2010 : Int32) = i3 2010 from rfl) (i3M (show (16 : Int32) = i3 16 from rfl) (rfl : i3 a1 = i3 a1))) (show (0 : Int32) = i3 0 from rfl)) (by omega) (by omega) (by omega))))) (show (7 : Int32) = i3 7 from rfl)) (by omega) (by omega) (by omega))))
            subst e9
            refine wz_i0 (i3O (n := 4400) (i3A (i3A (show (200 : Int32) = i3 200 from rfl) (i3M (show (20 : Int32) = i3 20 from rfl) (zm_rd (Z := Z18) (ν := ν) (k := 2) (show ((0 : Nat) : Int) = 0 from rfl) (show ((0 : Nat) : Int) = 0 from rfl) (i3I (y := (2010 + 16 * a1)) (i3A (i3A (show (2010 : Int32) = i3 2010 from rfl) (i3M (show (16 : Int32) = i3 16 from rfl) (rfl : i3 a1 = i3 a1))) (show (0 : Int32) = i3 0 from rfl)) (by omega) (by omega) (by omega))))) (show (8 : Int32) = i3 8 from rfl)) (by omega) (by omega) (by omega)) ?_
            refine wz_i0 (i3O (n := 4400) (i3A (i3A (show (2010 : Int32) = i3 2010 from rfl) (i3M (show (16 : Int32) = i3 16 from rfl) (rfl : i3 a1 = i3 a1))) (show (15 : Int32) = i3 15 from rfl)) (by omega) (by omega) (by omega)) ?_
            have r31 := zM_k hZ30I 2 0 0 (208 + 20 * (Z18 2 0 0 (2010 + 16 * a1))) (lo := 0) (hi := 999) (by decide) (zs_200_8 (x := (Z18 2 0 0 (2010 + 16 * a1))) (by omega) (by omega) (by omega))
            have q32 := (zu_ne (k' := 2) (b' := 0) (i' := 0) (j' := (208 + 20 * (Z18 2 0 0 (2010 + 16 * a1)))) hZ30 (fun q => absurd q.2.2.2 (by omega))).trans ((zu_ne (k' := 2) (b' := 0) (i' := 0) (j' := (208 + 20 * (Z18 2 0 0 (2010 + 16 * a1)))) hZ27 (fun q => absurd q.2.2.2 (by omega))).trans (zu_ne (k' := 2) (b' := 0) (i' := 0) (j' := (208 + 20 * (Z18 2 0 0 (2010 + 16 * a1)))) hZ25 (fun q => absurd q.2.2.2 (by omega))))
            obtain ⟨Z33, hZ33⟩ := zx (zu Z30 2 0 0 (2025 + 16 * a1) (Z30 2 0 0 (208 + 20 * (Z18 2 0 0 (2010 + 16 * a1)))))
            replace hP := zl_e hP hZ33
            have hZ33I := zM_u2 hZ30I hZ33 (lo := -1) (hi := 999) (zs_2010_15 (x := a1) (by omega) (by omega) (by omega)) (by omega) ⟨by decide, by decide⟩ (by simp only [zsp]; omega)
            have hZ33U : zU [] Z Z33 := zU_u hZ30U hZ33 (Or.inl rfl)
            have hZ33K : zC [1, 2] Z Z33 := zC_u hZ30K hZ33 (zcl_2w (by omega) rfl)
            intro μ9 e9
            replace e9 := e9.trans (zm_wI (Z := Z30) (ν := ν) hZ33 (show ((0 : Nat) : Int) = 0 from rfl) (show ((0 : Nat) : Int) = 0 from rfl) (i3I (y := (2025 + 16 * a1)) (i3A (i3A (show (2010 : Int32) = i3 2010 from rfl) (i3M (show (16 : Int32) = i3 16 from rfl) (rfl : i3 a1 = i3 a1))) (show (15 : Int32) = i3 15 from rfl)) (by omega) (by omega) (by omega)) (zm_rd (Z := Z30) (ν := ν) (k := 2) (show ((0 : Nat) : Int) = 0 from rfl) (show ((0 : Nat) : Int) = 0 from rfl) (i3I (y := (208 + 20 * (Z18 2 0 0 (2010 + 16 * a1)))) (i3A (i3A (show (200 : Int32) = i3 200 from rfl) (i3M (show (20 : Int32) = i3 20 from rfl) (zm_rd (Z := Z18) (ν := ν) (k := 2) (show ((0 : Nat) : Int) = 0 from rfl) (show ((0 : Nat) : Int) = 0 from rfl) (i3I (y := (2010 + 16 * a1)) (i3A (i3A (show (2010 : Int32) = i3 2010 from rfl) (i3M (show (16 : Int32) = i3 16 from rfl) (rfl : i3 a1 = i3 a1))) (show (0 : Int32) = i3 0 from rfl)) (by omega) (by omega) (by omega))))) (show (8 : Int32) = i3 8 from rfl)) (by omega) (by omega) (by omega))))
            subst e9
            refine wz_i0 (i3O (n := 4400) (i3A (i3A (show (2010 : Int32) = i3 2010 from rfl) (i3M (show (16 : Int32) = i3 16 from rfl) (rfl : i3 a1 = i3 a1))) (show (10 : Int32) = i3 10 from rfl)) (by omega) (by omega) (by omega)) ?_
            obtain ⟨Z34, hZ34⟩ := zx (zu Z33 2 0 0 (2020 + 16 * a1) a2)
            replace hP := zl_e hP hZ34
            have r35 := zM_k hZ33I 2 0 0 (2019 + 16 * a1) (lo := 0) (hi := 3) (by decide) (zs_2010_9 (x := a1) (by omega) (by omega) (by omega))
            have r36 := zM_lt2 hZ33I a1
            have hZ34I := zM_tr2 hZ33I hZ34 (q := a1) (by omega) (by omega) (by omega) (by omega)
            have hZ34U : zU [] Z Z34 := zU_u hZ33U hZ34 (Or.inl rfl)
            have hZ34K : zC [1, 2] Z Z34 := zC_u hZ33K hZ34 (zcl_2w (by omega) rfl)
            intro μ9 e9
            replace e9 := e9.trans (zm_wI (Z := Z33) (ν := ν) hZ34 (show ((0 : Nat) : Int) = 0 from rfl) (show ((0 : Nat) : Int) = 0 from rfl) (i3I (y := (2020 + 16 * a1)) (i3A (i3A (show (2010 : Int32) = i3 2010 from rfl) (i3M (show (16 : Int32) = i3 16 from rfl) (rfl : i3 a1 = i3 a1))) (show (10 : Int32) = i3 10 from rfl)) (by omega) (by omega) (by omega)) (rfl : i3 a2 = i3 a2))
            subst e9
            refine wz_i0 (i3O (n := 4400) (i3A (i3A (show (2010 : Int32) = i3 2010 from rfl) (i3M (show (16 : Int32) = i3 16 from rfl) (rfl : i3 a1 = i3 a1))) (show (9 : Int32) = i3 9 from rfl)) (by omega) (by omega) (by omega)) ?_
            obtain ⟨Z37, hZ37⟩ := zx (zu Z34 2 0 0 (2019 + 16 * a1) 1)
            replace hP := zl_e hP hZ37
            have r38 := zM_k hZ34I 2 0 0 (2020 + 16 * a1) (lo := -1) (hi := 3) (by decide) (zs_2010_10 (x := a1) (by omega) (by omega) (by omega))
            have r39 := zM_lt2 hZ34I a1
            have q40 := zu_at hZ34
            have hZ37I := zM_st2 hZ34I hZ37 (q := a1) (by omega) (by omega) (by omega) (by omega)
            have hZ37U : zU [] Z Z37 := zU_u hZ34U hZ37 (Or.inl rfl)
            have hZ37K : zC [1, 2] Z Z37 := zC_u hZ34K hZ37 (zcl_2w (by omega) rfl)
            intro μ9 e9
            replace e9 := e9.trans (zm_wI (Z := Z34) (ν := ν) hZ37 (show ((0 : Nat) : Int) = 0 from rfl) (show ((0 : Nat) : Int) = 0 from rfl) (i3I (y := (2019 + 16 * a1)) (i3A (i3A (show (2010 : Int32) = i3 2010 from rfl) (i3M (show (16 : Int32) = i3 16 from rfl) (rfl : i3 a1 = i3 a1))) (show (9 : Int32) = i3 9 from rfl)) (by omega) (by omega) (by omega)) (show (1 : Int32) = i3 1 from rfl))
            subst e9
            obtain ⟨Z41, hZ41, c9, hZ41I, kZ41, jZ41⟩ := sp_429 (ν := ν) hZ37I (a1 := (Z18 2 0 0 (2010 + 16 * a1))) (by omega) (zbh (c := 0) (k := 1) hM (Nat.le_of_ble_eq_true rfl))
            have hZ41U : zU [] Z Z41 := zU_t hZ37U jZ41 zU_b0
            have hZ41K : zC [1, 2] Z Z41 := zC_t hZ37K kZ41 (by decide)
            replace hP := zl_e hP hZ41
            refine wz_cV_of (zas (zcons rfl (zcons (zvi (zm_rd (Z := Z18) (ν := ν) (k := 2) (show ((0 : Nat) : Int) = 0 from rfl) (show ((0 : Nat) : Int) = 0 from rfl) (i3I (y := (2010 + 16 * a1)) (i3A (i3A (show (2010 : Int32) = i3 2010 from rfl) (i3M (show (16 : Int32) = i3 16 from rfl) (rfl : i3 a1 = i3 a1))) (show (0 : Int32) = i3 0 from rfl)) (by omega) (by omega) (by omega)))) rfl)) c9) ?_
            clear c9
            obtain ⟨v42, hv42, c9, lv42, uv42⟩ := sp_518 (ν := ν) hZ41I (a1 := a2) (by omega) (a2 := 1) (by omega) (zbh (c := 1) (k := 0) hM (Nat.le_of_ble_eq_true rfl))
            replace hP := zl_e hP hv42
            refine wz_cI_of (zas (zcons rfl (zcons (zvi (rfl : i3 a2 = i3 a2)) (zcons (zvi (show (1 : Int32) = i3 1 from rfl)) rfl))) c9) ?_
            clear c9
            exact zlY hP (rfl : i3 v42 = i3 v42) (.inl rfl) ⟨hZ41I, hZ41K, hZ41U⟩
/- yX12_iStops -/
def zl_374_1 : Nat → qz_Z → Int → Int → Int × Int
  | 0, Z, x1, x2 => (x1, x2)
  | m + 1, Z, x1, x2 => (if x2 ≤ 0 then (x1, x2) else zl_374_1 m Z (x1 + 1) (x2 / 10))
theorem sl_374_1 {s : zSM} {Z : qz_Z} {ν : qz_N} (hZ : zM s Z) (hM : s.2 + 0 ≤ 1000000000) {x1 : Int} (gx1 : 0 ≤ x1 ∧ x1 ≤ 10) {x2 : Int} (gx2 : -2147483648 ≤ x2 ∧ x2 ≤ 2147483647) (gr0 : x1 + zlog x2 ≤ 10) {k : wz_K} {R : wz_R} {L : qz_L} (hL : qz_fg [false, true, true] L = [none, some (.inl (i3 x1)), some (.inl (i3 x2))]) {T : Int × Int} (hP : zE T (zl_374_1 (zlog x2 + 1) Z x1 x2)) (hk : ∀ (L9 : qz_L) (yx1 yx2 : Int), qz_fg [false, true, false] L9 = [none, some (.inl (i3 yx1)), none] → (0 ≤ yx1 ∧ yx1 ≤ 10) → (-2147483648 ≤ yx2 ∧ yx2 ≤ 2147483647) → (yx1 + zlog yx2 ≤ 10) → zE T ((yx1, yx2)) → k 0 (L9, [], zm Z ν)) : wz_loop qb_374_1 65536 k R (L, [], zm Z ν) := by
  have hpre0 := zlog_le x2
  refine wz_lp sb_374_1 (fun m x => ∃ x1 : Int, ∃ x2 : Int, qz_fg [false, true, true] x.1 = [none, some (.inl (i3 x1)), some (.inl (i3 x2))] ∧ x.2 = ([], zm Z ν) ∧ m = zlog x2 ∧ (0 ≤ x1 ∧ x1 ≤ 10) ∧ (-2147483648 ≤ x2 ∧ x2 ≤ 2147483647) ∧ (x1 + zlog x2 ≤ 10) ∧ zE T (zl_374_1 (m + 1) Z x1 x2)) ?_ 65536 (zlog x2) _ (by omega) ⟨x1, x2, hL, rfl, rfl, gx1, gx2, gr0, hP⟩
  clear hpre0
  clear hP gr0 gx1 gx2 hL
  clear x1 x2
  rintro m ⟨L, st, μ⟩ ⟨x1, x2, hL, hx, hm, gx1, gx2, gr0, hP⟩
  cases hx
  refine fb_374_1 (i3 x1) (i3 x2) _ _ _ _ hL ?_
  have r1 := zlog_s x2 (by omega)
  refine wz_br (i3Le (rfl : i3 x2 = i3 x2) (show (0 : Int32) = i3 0 from rfl) (by omega) (by omega) (by omega) (by omega)) (fun h2 => ?_) (fun h2 => ?_)
  · replace hP := zE_p hP h2
    exact hk _ _ _ (zconso rfl (zconso (zvo (rfl : i3 x1 = i3 x1)) (zconso rfl rfl)))  (by omega) (by omega) (by omega) hP
  · replace hP := zE_n hP h2
    obtain ⟨m2, rfl⟩ : ∃ m2, m = m2 + 1 := ⟨m - 1, by omega⟩
    exact wz_k1 ⟨m2, by omega, (x1 + 1), (x2 / 10), (zconso rfl (zconso (zvo (i3A (rfl : i3 x1 = i3 x1) (show (1 : Int32) = i3 1 from rfl))) (zconso (zvo (i3D (rfl : i3 x2 = i3 x2) (show (10 : Int32) = i3 10 from rfl) (by omega) (by omega) (by omega) (by omega))) rfl))), rfl,  by omega, by omega, by omega, by omega,  hP⟩
/- yX12_iStops -/
def zf_374 (Z : qz_Z) (a0 : Int) : Int := (zlet2 (zl_374_1 (zlog a0 + 1) Z 0 a0) (fun y2 y3 => y2))
theorem sp_374 {s : zSM} {Z : qz_Z} {ν : qz_N} (hZ : zM s Z) {a0 : Int} (ga0 : -2147483648 ≤ a0 ∧ a0 ≤ 2147483647) (hM : s.2 + 0 ≤ 1000000000) : ∃ P : Int, P = zf_374 Z a0 ∧ (qf_374 [.inl (i3 a0)] (zm Z ν) = some (zm Z ν, .inl (some (.inl (i3 P)))) ∧ 0 ≤ P ∧ P ≤ 10) := by
  obtain ⟨P, hP⟩ := zx (zf_374 Z a0)
  refine zc_R (Q := fun P => 0 ≤ P ∧ P ≤ 10) hP (fw_374 (i3 a0) _ _ ?_)
  replace hP : zE P (zf_374 Z a0) := hP
  unfold zf_374 at hP
  have r1 := zlog_le a0
  refine sl_374_1 (ν := ν) hZ (zbh (c := 0) (k := 0) hM (Nat.le_of_ble_eq_true rfl)) (x1 := 0) (by omega) (x2 := a0) (by omega) (by omega) (zconso rfl (zconso (zvo (show (0 : Int32) = i3 0 from rfl)) (zconso (zvo (rfl : i3 a0 = i3 a0)) rfl))) rfl ?_
  intro L4 y2 y3 hL4 gy2 gy3 gL4_0 q9
  replace hP := zl_e2 hP (Eq.symm q9)
  clear q9
  refine fc_374_2 (i3 y2) _ _ _ _ hL4 ?_
  exact zlR hP (rfl : i3 y2 = i3 y2) ⟨by omega, by omega⟩
/- yX12_iStop -/
def zl_373_1 (x1 : Int) : Nat → qz_Z → Int → Int → Int × Int
  | 0, Z, x2, x3 => (x2, x3)
  | m + 1, Z, x2, x3 => (if x3 ≤ x1 then (x2, x3) else zl_373_1 x1 m Z (x2 / 10) (x3 + (-1)))
theorem sl_373_1 {s : zSM} {Z : qz_Z} {ν : qz_N} (hZ : zM s Z) (hM : s.2 + 0 ≤ 1000000000) {x1 : Int} (gx1 : -18 ≤ x1 ∧ x1 ≤ 23) {x2 : Int} (gx2 : 0 ≤ x2 ∧ x2 ≤ 2147483647) {x3 : Int} (gx3 : -18 ≤ x3 ∧ x3 ≤ 9) {k : wz_K} {R : wz_R} {L : qz_L} (hL : qz_fg [false, true, true, true] L = [none, some (.inl (i3 x1)), some (.inl (i3 x2)), some (.inl (i3 x3))]) {T : Int × Int} (hP : zE T (zl_373_1 x1 ((x3 - (-18)).toNat + 1) Z x2 x3)) (hk : ∀ (L9 : qz_L) (yx2 yx3 : Int), qz_fg [false, false, true, false] L9 = [none, none, some (.inl (i3 yx2)), none] → (0 ≤ yx2 ∧ yx2 ≤ 2147483647) → (-18 ≤ yx3 ∧ yx3 ≤ 9) → zE T ((yx2, yx3)) → k 0 (L9, [], zm Z ν)) : wz_loop qb_373_1 65536 k R (L, [], zm Z ν) := by
  refine wz_lp sb_373_1 (fun m x => ∃ x2 : Int, ∃ x3 : Int, qz_fg [false, true, true, true] x.1 = [none, some (.inl (i3 x1)), some (.inl (i3 x2)), some (.inl (i3 x3))] ∧ x.2 = ([], zm Z ν) ∧ m = (x3 - (-18)).toNat ∧ (0 ≤ x2 ∧ x2 ≤ 2147483647) ∧ (-18 ≤ x3 ∧ x3 ≤ 9) ∧ zE T (zl_373_1 x1 (m + 1) Z x2 x3)) ?_ 65536 ((x3 - (-18)).toNat) _ (by omega) ⟨x2, x3, hL, rfl, rfl, gx2, gx3, hP⟩
  clear hP gx2 gx3 hL
  clear x2 x3
  rintro m ⟨L, st, μ⟩ ⟨x2, x3, hL, hx, hm, gx2, gx3, hP⟩
  cases hx
  refine fb_373_1 (i3 x1) (i3 x2) (i3 x3) _ _ _ _ hL ?_
  refine wz_br (i3Le (rfl : i3 x3 = i3 x3) (rfl : i3 x1 = i3 x1) (by omega) (by omega) (by omega) (by omega)) (fun h1 => ?_) (fun h1 => ?_)
  · replace hP := zE_p hP h1
    exact hk _ _ _ (zconso rfl (zconso rfl (zconso (zvo (rfl : i3 x2 = i3 x2)) (zconso rfl rfl))))  (by omega) (by omega)  hP
  · replace hP := zE_n hP h1
    obtain ⟨m2, rfl⟩ : ∃ m2, m = m2 + 1 := ⟨m - 1, by omega⟩
    exact wz_k1 ⟨m2, by omega, (x2 / 10), (x3 + (-1)), (zconso rfl (zconso (zvo (rfl : i3 x1 = i3 x1)) (zconso (zvo (i3D (rfl : i3 x2 = i3 x2) (show (10 : Int32) = i3 10 from rfl) (by omega) (by omega) (by omega) (by omega))) (zconso (zvo (i3A (rfl : i3 x3 = i3 x3) (show (-1 : Int32) = i3 (-1) from rfl))) rfl)))), rfl,  by omega, by omega, by omega,  hP⟩
/- yX12_iStop -/
def zf_373 (Z : qz_Z) (a0 : Int) (a1 : Int) : Int := (zlet (zf_374 Z a0) (fun v1 => (zlet2 (zl_373_1 a1 (((v1 - 1) - (-18)).toNat + 1) Z a0 (v1 - 1)) (fun y2 y3 => (y2 % 10)))))
theorem sp_373 {s : zSM} {Z : qz_Z} {ν : qz_N} (hZ : zM s Z) {a0 : Int} (ga0 : 0 ≤ a0 ∧ a0 ≤ 2147483647) {a1 : Int} (ga1 : -18 ≤ a1 ∧ a1 ≤ 23) (hM : s.2 + 0 ≤ 1000000000) : ∃ P : Int, P = zf_373 Z a0 a1 ∧ (qf_373 [.inl (i3 a0), .inl (i3 a1)] (zm Z ν) = some (zm Z ν, .inl (some (.inl (i3 P)))) ∧ 0 ≤ P ∧ P ≤ 9) := by
  obtain ⟨P, hP⟩ := zx (zf_373 Z a0 a1)
  refine zc_R (Q := fun P => 0 ≤ P ∧ P ≤ 9) hP (fw_373 (i3 a0) (i3 a1) _ _ ?_)
  replace hP : zE P (zf_373 Z a0 a1) := hP
  unfold zf_373 at hP
  obtain ⟨v1, hv1, c9, lv1, uv1⟩ := sp_374 (ν := ν) hZ (a0 := a0) (by omega) (zbh (c := 0) (k := 0) hM (Nat.le_of_ble_eq_true rfl))
  replace hP := zl_e hP hv1
  refine wz_cI_of (zas (zcons (zvi (rfl : i3 a0 = i3 a0)) rfl) c9) ?_
  clear c9
  refine sl_373_1 (ν := ν) hZ (zbh (c := 0) (k := 0) hM (Nat.le_of_ble_eq_true rfl)) (x1 := a1) (by omega) (x2 := a0) (by omega) (x3 := (v1 - 1)) (by omega)  (zconso rfl (zconso (zvo (rfl : i3 a1 = i3 a1)) (zconso (zvo (rfl : i3 a0 = i3 a0)) (zconso (zvo (i3S (rfl : i3 v1 = i3 v1) (show (1 : Int32) = i3 1 from rfl))) rfl)))) rfl ?_
  intro L4 y2 y3 hL4 gy2 gy3 q9
  replace hP := zl_e2 hP (Eq.symm q9)
  clear q9
  refine fc_373_2 (i3 y2) _ _ _ _ hL4 ?_
  exact zlR hP (i3R (rfl : i3 y2 = i3 y2) (show (10 : Int32) = i3 10 from rfl) (by omega) (by omega) (by omega) (by omega)) ⟨by omega, by omega⟩
/- yX12_iFigureAt -/
def zf_355 (Z : qz_Z) (a1 : Int) (a2 : Int) : Int := (if (z2 (fun x y => x &&& y) (z2 (fun x y => x >>> (y &&& 31)) (Z 2 0 0 (3522 + 10 * a1)) ((a2 / 24) % 7)) 1) ≠ 1 then 0 else (zlet (zf_374 Z (Z 2 0 0 (3523 + 10 * a1))) (fun v7 => (if ((a2 % 24) - (Z 2 0 0 (3520 + 10 * a1))) < 0 then 0 else (if (v7 - 1) < ((a2 % 24) - (Z 2 0 0 (3520 + 10 * a1))) then 0 else (zlet (zf_373 Z (Z 2 0 0 (3523 + 10 * a1)) ((a2 % 24) - (Z 2 0 0 (3520 + 10 * a1)))) (fun v11 => v11)))))))
theorem sp_355 {s : zSM} {Z : qz_Z} {ν : qz_N} (hZ : zM s Z) {a1 : Int} (ga1 : 0 ≤ a1 ∧ a1 ≤ 1) {a2 : Int} (ga2 : 0 ≤ a2 ∧ a2 ≤ 671) (hM : s.2 + 0 ≤ 1000000000) : ∃ P : Int, P = zf_355 Z a1 a2 ∧ (qf_355 [.inr (.inr (some (1, 0, 0))), .inl (i3 a1), .inl (i3 a2)] (zm Z ν) = some (zm Z ν, .inl (some (.inl (i3 P)))) ∧ 0 ≤ P ∧ P ≤ 9) := by
  obtain ⟨P, hP⟩ := zx (zf_355 Z a1 a2)
  refine zc_R (Q := fun P => 0 ≤ P ∧ P ≤ 9) hP (fw_355 (i3 a1) (i3 a2) _ _ ?_)
  replace hP : zE P (zf_355 Z a1 a2) := hP
  unfold zf_355 at hP
  refine wz_i0 (i3O (n := 4400) (i3A (i3A (show (3520 : Int32) = i3 3520 from rfl) (i3M (show (10 : Int32) = i3 10 from rfl) (rfl : i3 a1 = i3 a1))) (show (0 : Int32) = i3 0 from rfl)) (by omega) (by omega) (by omega)) ?_
  refine wz_i0 (i3O (n := 4400) (i3A (i3A (show (3520 : Int32) = i3 3520 from rfl) (i3M (show (10 : Int32) = i3 10 from rfl) (rfl : i3 a1 = i3 a1))) (show (2 : Int32) = i3 2 from rfl)) (by omega) (by omega) (by omega)) ?_
  have r1 := zM_k hZ 2 0 0 (3522 + 10 * a1) (lo := 0) (hi := 127) (by decide) (zs_3520_2 (x := a1) (by omega) (by omega) (by omega))
  have r2 := z2_r (fun x y => x >>> (y &&& 31)) (Z 2 0 0 (3522 + 10 * a1)) ((a2 / 24) % 7)
  have r3 := z2_r (fun x y => x &&& y) (z2 (fun x y => x >>> (y &&& 31)) (Z 2 0 0 (3522 + 10 * a1)) ((a2 / 24) % 7)) 1
  have r4 := z2_and (z2 (fun x y => x >>> (y &&& 31)) (Z 2 0 0 (3522 + 10 * a1)) ((a2 / 24) % 7)) (y := 1) (by omega) (by omega)
  refine wz_br (i3NE (i3Z (fun x y => x &&& y) (i3Z (fun x y => x >>> (y &&& 31)) (zm_rd (Z := Z) (ν := ν) (k := 2) (show ((0 : Nat) : Int) = 0 from rfl) (show ((0 : Nat) : Int) = 0 from rfl) (i3I (y := (3522 + 10 * a1)) (i3A (i3A (show (3520 : Int32) = i3 3520 from rfl) (i3M (show (10 : Int32) = i3 10 from rfl) (rfl : i3 a1 = i3 a1))) (show (2 : Int32) = i3 2 from rfl)) (by omega) (by omega) (by omega))) (i3R (i3D (rfl : i3 a2 = i3 a2) (show (24 : Int32) = i3 24 from rfl) (by omega) (by omega) (by omega) (by omega)) (show (7 : Int32) = i3 7 from rfl) (by omega) (by omega) (by omega) (by omega))) (show (1 : Int32) = i3 1 from rfl)) (show (1 : Int32) = i3 1 from rfl) (by omega) (by omega) (by omega) (by omega)) (fun h5 => ?_) (fun h5 => ?_)
  · replace hP := zE_p hP h5
    exact zlR hP (show (0 : Int32) = i3 0 from rfl) ⟨by omega, by omega⟩
  · replace hP := zE_n hP h5
    refine wz_i0 (i3O (n := 4400) (i3A (i3A (show (3520 : Int32) = i3 3520 from rfl) (i3M (show (10 : Int32) = i3 10 from rfl) (rfl : i3 a1 = i3 a1))) (show (3 : Int32) = i3 3 from rfl)) (by omega) (by omega) (by omega)) ?_
    have r6 := zM_k hZ 2 0 0 (3523 + 10 * a1) (lo := 0) (hi := 2147483647) (by decide) (zs_3520_3 (x := a1) (by omega) (by omega) (by omega))
    obtain ⟨v7, hv7, c9, lv7, uv7⟩ := sp_374 (ν := ν) hZ (a0 := (Z 2 0 0 (3523 + 10 * a1))) (by omega) (zbh (c := 0) (k := 0) hM (Nat.le_of_ble_eq_true rfl))
    replace hP := zl_e hP hv7
    refine wz_cI_of (zas (zcons (zvi (zm_rd (Z := Z) (ν := ν) (k := 2) (show ((0 : Nat) : Int) = 0 from rfl) (show ((0 : Nat) : Int) = 0 from rfl) (i3I (y := (3523 + 10 * a1)) (i3A (i3A (show (3520 : Int32) = i3 3520 from rfl) (i3M (show (10 : Int32) = i3 10 from rfl) (rfl : i3 a1 = i3 a1))) (show (3 : Int32) = i3 3 from rfl)) (by omega) (by omega) (by omega)))) rfl) c9) ?_
    clear c9
    have r8 := zM_k hZ 2 0 0 (3520 + 10 * a1) (lo := 0) (hi := 18) (by decide) (zs_3520_0 (x := a1) (by omega) (by omega) (by omega))
    refine wz_br (i3L (i3S (i3R (rfl : i3 a2 = i3 a2) (show (24 : Int32) = i3 24 from rfl) (by omega) (by omega) (by omega) (by omega)) (zm_rd (Z := Z) (ν := ν) (k := 2) (show ((0 : Nat) : Int) = 0 from rfl) (show ((0 : Nat) : Int) = 0 from rfl) (i3I (y := (3520 + 10 * a1)) (i3A (i3A (show (3520 : Int32) = i3 3520 from rfl) (i3M (show (10 : Int32) = i3 10 from rfl) (rfl : i3 a1 = i3 a1))) (show (0 : Int32) = i3 0 from rfl)) (by omega) (by omega) (by omega)))) (show (0 : Int32) = i3 0 from rfl) (by omega) (by omega) (by omega) (by omega)) (fun h9 => ?_) (fun h9 => ?_)
    · replace hP := zE_p hP h9
      exact zlR hP (show (0 : Int32) = i3 0 from rfl) ⟨by omega, by omega⟩
    · replace hP := zE_n hP h9
      refine wz_br (i3L (i3S (rfl : i3 v7 = i3 v7) (show (1 : Int32) = i3 1 from rfl)) (i3S (i3R (rfl : i3 a2 = i3 a2) (show (24 : Int32) = i3 24 from rfl) (by omega) (by omega) (by omega) (by omega)) (zm_rd (Z := Z) (ν := ν) (k := 2) (show ((0 : Nat) : Int) = 0 from rfl) (show ((0 : Nat) : Int) = 0 from rfl) (i3I (y := (3520 + 10 * a1)) (i3A (i3A (show (3520 : Int32) = i3 3520 from rfl) (i3M (show (10 : Int32) = i3 10 from rfl) (rfl : i3 a1 = i3 a1))) (show (0 : Int32) = i3 0 from rfl)) (by omega) (by omega) (by omega)))) (by omega) (by omega) (by omega) (by omega)) (fun h10 => ?_) (fun h10 => ?_)
      · replace hP := zE_p hP h10
        exact zlR hP (show (0 : Int32) = i3 0 from rfl) ⟨by omega, by omega⟩
      · replace hP := zE_n hP h10
        refine wz_i0 (i3O (n := 4400) (i3A (i3A (show (3520 : Int32) = i3 3520 from rfl) (i3M (show (10 : Int32) = i3 10 from rfl) (rfl : i3 a1 = i3 a1))) (show (3 : Int32) = i3 3 from rfl)) (by omega) (by omega) (by omega)) ?_
        obtain ⟨v11, hv11, c9, lv11, uv11⟩ := sp_373 (ν := ν) hZ (a0 := (Z 2 0 0 (3523 + 10 * a1))) (by omega) (a1 := ((a2 % 24) - (Z 2 0 0 (3520 + 10 * a1)))) (by omega) (zbh (c := 0) (k := 0) hM (Nat.le_of_ble_eq_true rfl))
        replace hP := zl_e hP hv11
        refine wz_cI_of (zas (zcons (zvi (zm_rd (Z := Z) (ν := ν) (k := 2) (show ((0 : Nat) : Int) = 0 from rfl) (show ((0 : Nat) : Int) = 0 from rfl) (i3I (y := (3523 + 10 * a1)) (i3A (i3A (show (3520 : Int32) = i3 3520 from rfl) (i3M (show (10 : Int32) = i3 10 from rfl) (rfl : i3 a1 = i3 a1))) (show (3 : Int32) = i3 3 from rfl)) (by omega) (by omega) (by omega)))) (zcons (zvi (i3S (i3R (rfl : i3 a2 = i3 a2) (show (24 : Int32) = i3 24 from rfl) (by omega) (by omega) (by omega) (by omega)) (zm_rd (Z := Z) (ν := ν) (k := 2) (show ((0 : Nat) : Int) = 0 from rfl) (show ((0 : Nat) : Int) = 0 from rfl) (i3I (y := (3520 + 10 * a1)) (i3A (i3A (show (3520 : Int32) = i3 3520 from rfl) (i3M (show (10 : Int32) = i3 10 from rfl) (rfl : i3 a1 = i3 a1))) (show (0 : Int32) = i3 0 from rfl)) (by omega) (by omega) (by omega))))) rfl)) c9) ?_
        clear c9
        exact zlR hP (rfl : i3 v11 = i3 v11) ⟨by omega, by omega⟩
/- yX12_iNext -/
def zl_367_1 (x1 : Int) : Nat → qz_Z → Int → (Int) ⊕ (Int)
  | 0, Z, x2 => (.inl x2)
  | m + 1, Z, x2 => (if 672 ≤ x2 then (.inl x2) else (zlet (zf_355 Z x1 x2) (fun v2 => (if v2 ≤ 0 then zl_367_1 x1 m Z (x2 + 1) else (.inr x2)))))
theorem sl_367_1 {s : zSM} {Z : qz_Z} {ν : qz_N} (hZ : zM s Z) (hM : s.2 + 0 ≤ 1000000000) {x1 : Int} (gx1 : 0 ≤ x1 ∧ x1 ≤ 1) {x2 : Int} (gx2 : 1 ≤ x2 ∧ x2 ≤ 672) {k : wz_K} {R : wz_R} {L : qz_L} (hL : qz_fg [true, true, true] L = [some (.inr (.inr (some (1, 0, 0)))), some (.inl (i3 x1)), some (.inl (i3 x2))]) {T : (Int) ⊕ (Int)} (hP : zE T (zl_367_1 x1 ((672 - x2).toNat + 1) Z x2)) (hk : ∀ (L9 : qz_L) (yx2 : Int), qz_fg [false, false, false] L9 = [none, none, none] → (1 ≤ yx2 ∧ yx2 ≤ 672) → zE T (.inl yx2) → k 0 (L9, [], zm Z ν)) (hr : ∀ (v8 : Int), 1 ≤ v8 → v8 ≤ 671 → zE T (.inr v8) → R (zm Z ν) (.inl (some (.inl (i3 v8))))) : wz_loop qb_367_1 65536 k R (L, [], zm Z ν) := by
  refine wz_lp sb_367_1 (fun m x => ∃ x2 : Int, qz_fg [true, true, true] x.1 = [some (.inr (.inr (some (1, 0, 0)))), some (.inl (i3 x1)), some (.inl (i3 x2))] ∧ x.2 = ([], zm Z ν) ∧ m = (672 - x2).toNat ∧ (1 ≤ x2 ∧ x2 ≤ 672) ∧ zE T (zl_367_1 x1 (m + 1) Z x2)) ?_ 65536 ((672 - x2).toNat) _ (by omega) ⟨x2, hL, rfl, rfl, gx2, hP⟩
  clear hP gx2 hL
  clear x2
  rintro m ⟨L, st, μ⟩ ⟨x2, hL, hx, hm, gx2, hP⟩
  cases hx
  refine fb_367_1 (i3 x1) (i3 x2) _ _ _ _ hL ?_
  refine wz_br (i3Le (show (672 : Int32) = i3 672 from rfl) (rfl : i3 x2 = i3 x2) (by omega) (by omega) (by omega) (by omega)) (fun h1 => ?_) (fun h1 => ?_)
  · replace hP := zE_p hP h1
    exact hk _ _ (zconso rfl (zconso rfl (zconso rfl rfl)))  (by omega)  hP
  · replace hP := zE_n hP h1
    obtain ⟨v2, hv2, c9, lv2, uv2⟩ := sp_355 (ν := ν) hZ (a1 := x1) (by omega) (a2 := x2) (by omega) (zbh (c := 0) (k := 0) hM (Nat.le_of_ble_eq_true rfl))
    replace hP := zl_e hP hv2
    refine wz_cI_of (zas (zcons rfl (zcons (zvi (rfl : i3 x1 = i3 x1)) (zcons (zvi (rfl : i3 x2 = i3 x2)) rfl))) c9) ?_
    clear c9
    refine wz_br (i3Le (rfl : i3 v2 = i3 v2) (show (0 : Int32) = i3 0 from rfl) (by omega) (by omega) (by omega) (by omega)) (fun h3 => ?_) (fun h3 => ?_)
    · replace hP := zE_p hP h3
      obtain ⟨m2, rfl⟩ : ∃ m2, m = m2 + 1 := ⟨m - 1, by omega⟩
      exact wz_k1 ⟨m2, by omega, (x2 + 1), (zconso rfl (zconso (zvo (rfl : i3 x1 = i3 x1)) (zconso (zvo (i3A (rfl : i3 x2 = i3 x2) (show (1 : Int32) = i3 1 from rfl))) rfl))), rfl,  by omega, by omega,  hP⟩
    · replace hP := zE_n hP h3
      rw [(rfl : i3 x2 = i3 x2)]
      exact hr _ (by omega) (by omega) hP
/- yX12_iNext -/
def zf_367 (Z : qz_Z) (a1 : Int) : Int := (zsum (zl_367_1 a1 ((672 - ((Z 2 0 0 0) + 1)).toNat + 1) Z ((Z 2 0 0 0) + 1)) (fun q => zlet q (fun y2 => (-1))) (fun r => r))
theorem sp_367 {s : zSM} {Z : qz_Z} {ν : qz_N} (hZ : zM s Z) {a1 : Int} (ga1 : 0 ≤ a1 ∧ a1 ≤ 1) (hM : s.2 + 0 ≤ 1000000000) : ∃ P : Int, P = zf_367 Z a1 ∧ (qf_367 [.inr (.inr (some (1, 0, 0))), .inl (i3 a1)] (zm Z ν) = some (zm Z ν, .inl (some (.inl (i3 P)))) ∧ -1 ≤ P ∧ P ≤ 671) := by
  obtain ⟨P, hP⟩ := zx (zf_367 Z a1)
  refine zc_R (Q := fun P => -1 ≤ P ∧ P ≤ 671) hP (fw_367 (i3 a1) _ _ ?_)
  replace hP : zE P (zf_367 Z a1) := hP
  unfold zf_367 at hP
  have r1 := zM_k hZ 2 0 0 0 (lo := 0) (hi := 671) (by decide) rfl
  refine sl_367_1 (ν := ν) hZ (zbh (c := 0) (k := 0) hM (Nat.le_of_ble_eq_true rfl)) (x1 := a1) (by omega) (x2 := ((Z 2 0 0 0) + 1)) (by omega)  (zconso rfl (zconso (zvo (rfl : i3 a1 = i3 a1)) (zconso (zvo (i3A (zm_rd (Z := Z) (ν := ν) (k := 2) (show ((0 : Nat) : Int) = 0 from rfl) (show ((0 : Nat) : Int) = 0 from rfl) (show ((0 : Nat) : Int) = 0 from rfl)) (show (1 : Int32) = i3 1 from rfl))) rfl))) rfl ?_ ?_
  · intro L3 y2 hL3 gy2 q9
    replace hP := zl_sl1 hP (Eq.symm q9)
    clear q9
    refine fc_367_2  _ _ _ _ hL3 ?_
    exact zlR hP (show (-1 : Int32) = i3 (-1) from rfl) ⟨by omega, by omega⟩
  · intro v8 l8 u8 q8
    replace hP := zl_sr hP (Eq.symm q8)
    exact zlR hP rfl ⟨by omega, by omega⟩
/- yX12_looked -/
def zy_427 (Z : qz_Z) (a1 : Int) (a2 : Int) : qz_Z × Int := (if a1 < 0 then (zlet (zu Z 1 0 0 2 1) (fun Z5 => (Z5, 0))) else (if ((Z 2 0 0 3500) - 1) < a1 then (zlet (zu Z 1 0 0 2 1) (fun Z8 => (Z8, 0))) else (zlet (zu Z 1 0 0 2 0) (fun Z9 => (if a2 < 0 then (zlet (zu Z9 1 0 0 2 2) (fun Z11 => (Z11, 0))) else (if 9 < a2 then (zlet (zu Z9 1 0 0 2 2) (fun Z13 => (Z13, 0))) else (zlet (zu Z9 1 0 0 2 0) (fun Z14 => (if 8 ≤ a2 then (zlet (zf_367 Z14 a1) (fun v16 => (if a2 = 8 then (Z14, v16) else (if v16 ≠ (-1) then (zlet (zf_355 Z14 a1 v16) (fun v19 => (Z14, v19))) else (Z14, v16))))) else (Z14, (Z14 2 0 0 (3520 + 10 * a1 + a2))))))))))))
theorem sy_427 {s : zSM} {Z : qz_Z} {ν : qz_N} (hZ : zM s Z) (gq : Z 1 0 0 35 = 0) (hM : s.2 + 0 ≤ 1000000000) {a1 : Int} (ga1 : -2147483648 ≤ a1 ∧ a1 ≤ 2147483647) {a2 : Int} (ga2 : -2147483648 ≤ a2 ∧ a2 ≤ 2147483647) {ν1 : qz_N} : ∃ (Z1 : qz_Z) (ν2 : qz_N) (v : Int), (Z1, v) = zy_427 Z a1 a2 ∧ (ν2 = ν ∨ ν2 = ν1) ∧ qf_427 [.inr (.inr (some (1, 0, 0))), .inl (i3 a1), .inl (i3 a2)] (zm Z ν) = some (zm Z1 ν2, .inl (some (.inl (i3 v)))) ∧ (fun Z1 => zM s Z1 ∧ zC [1] Z Z1 ∧ zU [] Z Z1) Z1 := by
  obtain ⟨P, hP⟩ := zx (zy_427 Z a1 a2)
  refine zc_Y (Q := fun Z1 => zM s Z1 ∧ zC [1] Z Z1 ∧ zU [] Z Z1) hP (fw_427 (i3 a1) (i3 a2) _ _ ?_)
  replace hP : zE P (zy_427 Z a1 a2) := hP
  unfold zy_427 at hP
  have r1 := zM_k hZ 1 0 0 35 (lo := 0) (hi := 1) (by decide) rfl
  have r2 := zM_k hZ 1 0 0 34 (lo := 0) (hi := 8) (by decide) rfl
  have r3 := zM_f hZ 1 0 0 37
  refine wz_br (i3L (rfl : i3 a1 = i3 a1) (show (0 : Int32) = i3 0 from rfl) (by omega) (by omega) (by omega) (by omega)) (fun h4 => ?_) (fun h4 => ?_)
  · replace hP := zE_p hP h4
    obtain ⟨Z5, hZ5⟩ := zx (zu Z 1 0 0 2 1)
    replace hP := zl_e hP hZ5
    have hZ5I := zM_u hZ hZ5 (lo := -2147483648) (hi := 2147483647) (by decide) rfl (by omega) ⟨by decide, by decide⟩ (Or.inr (by decide)) rfl
    have hZ5U : zU [] Z Z5 := zU_u zU_r hZ5 (Or.inl rfl)
    have hZ5K : zC [1] Z Z5 := zC_u zC_r hZ5 (by decide)
    intro μ9 e9
    replace e9 := e9.trans (zm_wI (Z := Z) (ν := ν) hZ5 (show ((0 : Nat) : Int) = 0 from rfl) (show ((0 : Nat) : Int) = 0 from rfl) (show ((2 : Nat) : Int) = 2 from rfl) (show (1 : Int32) = i3 1 from rfl))
    subst e9
    exact zlY hP (show (0 : Int32) = i3 0 from rfl) (.inl rfl) ⟨hZ5I, hZ5K, hZ5U⟩
  · replace hP := zE_n hP h4
    have r6 := zM_k hZ 2 0 0 3500 (lo := 0) (hi := 2) (by decide) rfl
    refine wz_br (i3L (i3S (zm_rd (Z := Z) (ν := ν) (k := 2) (show ((0 : Nat) : Int) = 0 from rfl) (show ((0 : Nat) : Int) = 0 from rfl) (show ((3500 : Nat) : Int) = 3500 from rfl)) (show (1 : Int32) = i3 1 from rfl)) (rfl : i3 a1 = i3 a1) (by omega) (by omega) (by omega) (by omega)) (fun h7 => ?_) (fun h7 => ?_)
    · replace hP := zE_p hP h7
      obtain ⟨Z8, hZ8⟩ := zx (zu Z 1 0 0 2 1)
      replace hP := zl_e hP hZ8
      have hZ8I := zM_u hZ hZ8 (lo := -2147483648) (hi := 2147483647) (by decide) rfl (by omega) ⟨by decide, by decide⟩ (Or.inr (by decide)) rfl
      have hZ8U : zU [] Z Z8 := zU_u zU_r hZ8 (Or.inl rfl)
      have hZ8K : zC [1] Z Z8 := zC_u zC_r hZ8 (by decide)
      intro μ9 e9
      replace e9 := e9.trans (zm_wI (Z := Z) (ν := ν) hZ8 (show ((0 : Nat) : Int) = 0 from rfl) (show ((0 : Nat) : Int) = 0 from rfl) (show ((2 : Nat) : Int) = 2 from rfl) (show (1 : Int32) = i3 1 from rfl))
      subst e9
      exact zlY hP (show (0 : Int32) = i3 0 from rfl) (.inl rfl) ⟨hZ8I, hZ8K, hZ8U⟩
    · replace hP := zE_n hP h7
      obtain ⟨Z9, hZ9⟩ := zx (zu Z 1 0 0 2 0)
      replace hP := zl_e hP hZ9
      have hZ9I := zM_0 hZ hZ9 (by decide) (Or.inr (by decide))
      have hZ9U : zU [] Z Z9 := zU_u zU_r hZ9 (Or.inl rfl)
      have hZ9K : zC [1] Z Z9 := zC_u zC_r hZ9 (by decide)
      intro μ9 e9
      replace e9 := e9.trans (zm_wI (Z := Z) (ν := ν) hZ9 (show ((0 : Nat) : Int) = 0 from rfl) (show ((0 : Nat) : Int) = 0 from rfl) (show ((2 : Nat) : Int) = 2 from rfl) (show (0 : Int32) = i3 0 from rfl))
      subst e9
      refine wz_br (i3L (rfl : i3 a2 = i3 a2) (show (0 : Int32) = i3 0 from rfl) (by omega) (by omega) (by omega) (by omega)) (fun h10 => ?_) (fun h10 => ?_)
      · replace hP := zE_p hP h10
        obtain ⟨Z11, hZ11⟩ := zx (zu Z9 1 0 0 2 2)
        replace hP := zl_e hP hZ11
        have hZ11I := zM_u hZ9I hZ11 (lo := -2147483648) (hi := 2147483647) (by decide) rfl (by omega) ⟨by decide, by decide⟩ (Or.inr (by decide)) rfl
        have hZ11U : zU [] Z Z11 := zU_u hZ9U hZ11 (Or.inl rfl)
        have hZ11K : zC [1] Z Z11 := zC_u hZ9K hZ11 (by decide)
        intro μ9 e9
        replace e9 := e9.trans (zm_wI (Z := Z9) (ν := ν) hZ11 (show ((0 : Nat) : Int) = 0 from rfl) (show ((0 : Nat) : Int) = 0 from rfl) (show ((2 : Nat) : Int) = 2 from rfl) (show (2 : Int32) = i3 2 from rfl))
        subst e9
        exact zlY hP (show (0 : Int32) = i3 0 from rfl) (.inl rfl) ⟨hZ11I, hZ11K, hZ11U⟩
      · replace hP := zE_n hP h10
        refine wz_br (i3L (show (9 : Int32) = i3 9 from rfl) (rfl : i3 a2 = i3 a2) (by omega) (by omega) (by omega) (by omega)) (fun h12 => ?_) (fun h12 => ?_)
        · replace hP := zE_p hP h12
          obtain ⟨Z13, hZ13⟩ := zx (zu Z9 1 0 0 2 2)
          replace hP := zl_e hP hZ13
          have hZ13I := zM_u hZ9I hZ13 (lo := -2147483648) (hi := 2147483647) (by decide) rfl (by omega) ⟨by decide, by decide⟩ (Or.inr (by decide)) rfl
          have hZ13U : zU [] Z Z13 := zU_u hZ9U hZ13 (Or.inl rfl)
          have hZ13K : zC [1] Z Z13 := zC_u hZ9K hZ13 (by decide)
          intro μ9 e9
          replace e9 := e9.trans (zm_wI (Z := Z9) (ν := ν) hZ13 (show ((0 : Nat) : Int) = 0 from rfl) (show ((0 : Nat) : Int) = 0 from rfl) (show ((2 : Nat) : Int) = 2 from rfl) (show (2 : Int32) = i3 2 from rfl))
          subst e9
          exact zlY hP (show (0 : Int32) = i3 0 from rfl) (.inl rfl) ⟨hZ13I, hZ13K, hZ13U⟩
        · replace hP := zE_n hP h12
          obtain ⟨Z14, hZ14⟩ := zx (zu Z9 1 0 0 2 0)
          replace hP := zl_e hP hZ14
          have hZ14I := zM_0 hZ9I hZ14 (by decide) (Or.inr (by decide))
          have hZ14U : zU [] Z Z14 := zU_u hZ9U hZ14 (Or.inl rfl)
          have hZ14K : zC [1] Z Z14 := zC_u hZ9K hZ14 (by decide)
          intro μ9 e9
          replace e9 := e9.trans (zm_wI (Z := Z9) (ν := ν) hZ14 (show ((0 : Nat) : Int) = 0 from rfl) (show ((0 : Nat) : Int) = 0 from rfl) (show ((2 : Nat) : Int) = 2 from rfl) (show (0 : Int32) = i3 0 from rfl))
          subst e9
          refine wz_br (i3Le (show (8 : Int32) = i3 8 from rfl) (rfl : i3 a2 = i3 a2) (by omega) (by omega) (by omega) (by omega)) (fun h15 => ?_) (fun h15 => ?_)
          · replace hP := zE_p hP h15
            obtain ⟨v16, hv16, c9, lv16, uv16⟩ := sp_367 (ν := ν) hZ14I (a1 := a1) (by omega) (zbh (c := 0) (k := 0) hM (Nat.le_of_ble_eq_true rfl))
            replace hP := zl_e hP hv16
            refine wz_cI_of (zas (zcons rfl (zcons (zvi (rfl : i3 a1 = i3 a1)) rfl)) c9) ?_
            clear c9
            refine wz_br (i3E (rfl : i3 a2 = i3 a2) (show (8 : Int32) = i3 8 from rfl) (by omega) (by omega) (by omega) (by omega)) (fun h17 => ?_) (fun h17 => ?_)
            · replace hP := zE_p hP h17
              exact zlY hP (rfl : i3 v16 = i3 v16) (.inl rfl) ⟨hZ14I, hZ14K, hZ14U⟩
            · replace hP := zE_n hP h17
              refine wz_br (i3NE (rfl : i3 v16 = i3 v16) (show (-1 : Int32) = i3 (-1) from rfl) (by omega) (by omega) (by omega) (by omega)) (fun h18 => ?_) (fun h18 => ?_)
              · replace hP := zE_p hP h18
                obtain ⟨v19, hv19, c9, lv19, uv19⟩ := sp_355 (ν := ν) hZ14I (a1 := a1) (by omega) (a2 := v16) (by omega) (zbh (c := 0) (k := 0) hM (Nat.le_of_ble_eq_true rfl))
                replace hP := zl_e hP hv19
                refine wz_cI_of (zas (zcons rfl (zcons (zvi (rfl : i3 a1 = i3 a1)) (zcons (zvi (rfl : i3 v16 = i3 v16)) rfl))) c9) ?_
                clear c9
                exact zlY hP (rfl : i3 v19 = i3 v19) (.inl rfl) ⟨hZ14I, hZ14K, hZ14U⟩
              · replace hP := zE_n hP h18
                exact zlY hP (rfl : i3 v16 = i3 v16) (.inl rfl) ⟨hZ14I, hZ14K, hZ14U⟩
          · replace hP := zE_n hP h15
            refine wz_i0 (i3O (n := 4400) (i3A (i3A (show (3520 : Int32) = i3 3520 from rfl) (i3M (show (10 : Int32) = i3 10 from rfl) (rfl : i3 a1 = i3 a1))) (rfl : i3 a2 = i3 a2)) (by omega) (by omega) (by omega)) ?_
            have r20 := zM_f hZ14I 2 0 0 (3520 + 10 * a1 + a2)
            exact zlY hP (zm_rd (Z := Z14) (ν := ν) (k := 2) (show ((0 : Nat) : Int) = 0 from rfl) (show ((0 : Nat) : Int) = 0 from rfl) (i3I (y := (3520 + 10 * a1 + a2)) (i3A (i3A (show (3520 : Int32) = i3 3520 from rfl) (i3M (show (10 : Int32) = i3 10 from rfl) (rfl : i3 a1 = i3 a1))) (rfl : i3 a2 = i3 a2)) (by omega) (by omega) (by omega))) (.inl rfl) ⟨hZ14I, hZ14K, hZ14U⟩
/- yX12_lot -/
def zy_428 (Z : qz_Z) (a1 : Int) (a2 : Int) (a3 : Int) : qz_Z × Int := (if a1 < 0 then (zlet (zu Z 1 0 0 2 1) (fun Z5 => (Z5, 0))) else (if ((Z 2 0 0 3000) - 1) < a1 then (zlet (zu Z 1 0 0 2 1) (fun Z8 => (Z8, 0))) else (zlet (zu Z 1 0 0 2 0) (fun Z9 => (if a2 < 0 then (zlet (zu Z9 1 0 0 2 1) (fun Z11 => (Z11, 0))) else (if ((Z9 2 0 0 (3015 + 60 * a1)) - 1) < a2 then (zlet (zu Z9 1 0 0 2 1) (fun Z14 => (Z14, 0))) else (zlet (zu Z9 1 0 0 2 0) (fun Z15 => (if a3 < 0 then (zlet (zu Z15 1 0 0 2 2) (fun Z17 => (Z17, 0))) else (if 2 < a3 then (zlet (zu Z15 1 0 0 2 2) (fun Z19 => (Z19, 0))) else (zlet (zu Z15 1 0 0 2 0) (fun Z20 => (Z20, (Z20 2 0 0 (3022 + 60 * a1 + 3 * a2 + a3)))))))))))))))
theorem sy_428 {s : zSM} {Z : qz_Z} {ν : qz_N} (hZ : zM s Z) (gq : Z 1 0 0 35 = 0) (hM : s.2 + 0 ≤ 1000000000) {a1 : Int} (ga1 : -2147483648 ≤ a1 ∧ a1 ≤ 2147483647) {a2 : Int} (ga2 : -2147483648 ≤ a2 ∧ a2 ≤ 2147483647) {a3 : Int} (ga3 : -2147483648 ≤ a3 ∧ a3 ≤ 2147483647) {ν1 : qz_N} : ∃ (Z1 : qz_Z) (ν2 : qz_N) (v : Int), (Z1, v) = zy_428 Z a1 a2 a3 ∧ (ν2 = ν ∨ ν2 = ν1) ∧ qf_428 [.inr (.inr (some (1, 0, 0))), .inl (i3 a1), .inl (i3 a2), .inl (i3 a3)] (zm Z ν) = some (zm Z1 ν2, .inl (some (.inl (i3 v)))) ∧ (fun Z1 => zM s Z1 ∧ zC [1] Z Z1 ∧ zU [] Z Z1) Z1 := by
  obtain ⟨P, hP⟩ := zx (zy_428 Z a1 a2 a3)
  refine zc_Y (Q := fun Z1 => zM s Z1 ∧ zC [1] Z Z1 ∧ zU [] Z Z1) hP (fw_428 (i3 a1) (i3 a2) (i3 a3) _ _ ?_)
  replace hP : zE P (zy_428 Z a1 a2 a3) := hP
  unfold zy_428 at hP
  have r1 := zM_k hZ 1 0 0 35 (lo := 0) (hi := 1) (by decide) rfl
  have r2 := zM_k hZ 1 0 0 34 (lo := 0) (hi := 8) (by decide) rfl
  have r3 := zM_f hZ 1 0 0 37
  refine wz_br (i3L (rfl : i3 a1 = i3 a1) (show (0 : Int32) = i3 0 from rfl) (by omega) (by omega) (by omega) (by omega)) (fun h4 => ?_) (fun h4 => ?_)
  · replace hP := zE_p hP h4
    obtain ⟨Z5, hZ5⟩ := zx (zu Z 1 0 0 2 1)
    replace hP := zl_e hP hZ5
    have hZ5I := zM_u hZ hZ5 (lo := -2147483648) (hi := 2147483647) (by decide) rfl (by omega) ⟨by decide, by decide⟩ (Or.inr (by decide)) rfl
    have hZ5U : zU [] Z Z5 := zU_u zU_r hZ5 (Or.inl rfl)
    have hZ5K : zC [1] Z Z5 := zC_u zC_r hZ5 (by decide)
    intro μ9 e9
    replace e9 := e9.trans (zm_wI (Z := Z) (ν := ν) hZ5 (show ((0 : Nat) : Int) = 0 from rfl) (show ((0 : Nat) : Int) = 0 from rfl) (show ((2 : Nat) : Int) = 2 from rfl) (show (1 : Int32) = i3 1 from rfl))
    subst e9
    exact zlY hP (show (0 : Int32) = i3 0 from rfl) (.inl rfl) ⟨hZ5I, hZ5K, hZ5U⟩
  · replace hP := zE_n hP h4
    have r6 := zM_k hZ 2 0 0 3000 (lo := 0) (hi := 2) (by decide) rfl
    refine wz_br (i3L (i3S (zm_rd (Z := Z) (ν := ν) (k := 2) (show ((0 : Nat) : Int) = 0 from rfl) (show ((0 : Nat) : Int) = 0 from rfl) (show ((3000 : Nat) : Int) = 3000 from rfl)) (show (1 : Int32) = i3 1 from rfl)) (rfl : i3 a1 = i3 a1) (by omega) (by omega) (by omega) (by omega)) (fun h7 => ?_) (fun h7 => ?_)
    · replace hP := zE_p hP h7
      obtain ⟨Z8, hZ8⟩ := zx (zu Z 1 0 0 2 1)
      replace hP := zl_e hP hZ8
      have hZ8I := zM_u hZ hZ8 (lo := -2147483648) (hi := 2147483647) (by decide) rfl (by omega) ⟨by decide, by decide⟩ (Or.inr (by decide)) rfl
      have hZ8U : zU [] Z Z8 := zU_u zU_r hZ8 (Or.inl rfl)
      have hZ8K : zC [1] Z Z8 := zC_u zC_r hZ8 (by decide)
      intro μ9 e9
      replace e9 := e9.trans (zm_wI (Z := Z) (ν := ν) hZ8 (show ((0 : Nat) : Int) = 0 from rfl) (show ((0 : Nat) : Int) = 0 from rfl) (show ((2 : Nat) : Int) = 2 from rfl) (show (1 : Int32) = i3 1 from rfl))
      subst e9
      exact zlY hP (show (0 : Int32) = i3 0 from rfl) (.inl rfl) ⟨hZ8I, hZ8K, hZ8U⟩
    · replace hP := zE_n hP h7
      obtain ⟨Z9, hZ9⟩ := zx (zu Z 1 0 0 2 0)
      replace hP := zl_e hP hZ9
      have hZ9I := zM_0 hZ hZ9 (by decide) (Or.inr (by decide))
      have hZ9U : zU [] Z Z9 := zU_u zU_r hZ9 (Or.inl rfl)
      have hZ9K : zC [1] Z Z9 := zC_u zC_r hZ9 (by decide)
      intro μ9 e9
      replace e9 := e9.trans (zm_wI (Z := Z) (ν := ν) hZ9 (show ((0 : Nat) : Int) = 0 from rfl) (show ((0 : Nat) : Int) = 0 from rfl) (show ((2 : Nat) : Int) = 2 from rfl) (show (0 : Int32) = i3 0 from rfl))
      subst e9
      refine wz_i0 (i3O (n := 4400) (i3A (i3A (show (3010 : Int32) = i3 3010 from rfl) (i3M (show (60 : Int32) = i3 60 from rfl) (rfl : i3 a1 = i3 a1))) (show (5 : Int32) = i3 5 from rfl)) (by omega) (by omega) (by omega)) ?_
      refine wz_br (i3L (rfl : i3 a2 = i3 a2) (show (0 : Int32) = i3 0 from rfl) (by omega) (by omega) (by omega) (by omega)) (fun h10 => ?_) (fun h10 => ?_)
      · replace hP := zE_p hP h10
        obtain ⟨Z11, hZ11⟩ := zx (zu Z9 1 0 0 2 1)
        replace hP := zl_e hP hZ11
        have hZ11I := zM_u hZ9I hZ11 (lo := -2147483648) (hi := 2147483647) (by decide) rfl (by omega) ⟨by decide, by decide⟩ (Or.inr (by decide)) rfl
        have hZ11U : zU [] Z Z11 := zU_u hZ9U hZ11 (Or.inl rfl)
        have hZ11K : zC [1] Z Z11 := zC_u hZ9K hZ11 (by decide)
        intro μ9 e9
        replace e9 := e9.trans (zm_wI (Z := Z9) (ν := ν) hZ11 (show ((0 : Nat) : Int) = 0 from rfl) (show ((0 : Nat) : Int) = 0 from rfl) (show ((2 : Nat) : Int) = 2 from rfl) (show (1 : Int32) = i3 1 from rfl))
        subst e9
        exact zlY hP (show (0 : Int32) = i3 0 from rfl) (.inl rfl) ⟨hZ11I, hZ11K, hZ11U⟩
      · replace hP := zE_n hP h10
        have r12 := zM_k hZ9I 2 0 0 (3015 + 60 * a1) (lo := 0) (hi := 12) (by decide) (zs_3010_5 (x := (a1 + 0)) (by omega) (by omega) (by omega))
        refine wz_br (i3L (i3S (zm_rd (Z := Z9) (ν := ν) (k := 2) (show ((0 : Nat) : Int) = 0 from rfl) (show ((0 : Nat) : Int) = 0 from rfl) (i3I (y := (3015 + 60 * a1)) (i3A (i3A (show (3010 : Int32) = i3 3010 from rfl) (i3M (show (60 : Int32) = i3 60 from rfl) (rfl : i3 a1 = i3 a1))) (show (5 : Int32) = i3 5 from rfl)) (by omega) (by omega) (by omega))) (show (1 : Int32) = i3 1 from rfl)) (rfl : i3 a2 = i3 a2) (by omega) (by omega) (by omega) (by omega)) (fun h13 => ?_) (fun h13 => ?_)
        · replace hP := zE_p hP h13
          obtain ⟨Z14, hZ14⟩ := zx (zu Z9 1 0 0 2 1)
          replace hP := zl_e hP hZ14
          have hZ14I := zM_u hZ9I hZ14 (lo := -2147483648) (hi := 2147483647) (by decide) rfl (by omega) ⟨by decide, by decide⟩ (Or.inr (by decide)) rfl
          have hZ14U : zU [] Z Z14 := zU_u hZ9U hZ14 (Or.inl rfl)
          have hZ14K : zC [1] Z Z14 := zC_u hZ9K hZ14 (by decide)
          intro μ9 e9
          replace e9 := e9.trans (zm_wI (Z := Z9) (ν := ν) hZ14 (show ((0 : Nat) : Int) = 0 from rfl) (show ((0 : Nat) : Int) = 0 from rfl) (show ((2 : Nat) : Int) = 2 from rfl) (show (1 : Int32) = i3 1 from rfl))
          subst e9
          exact zlY hP (show (0 : Int32) = i3 0 from rfl) (.inl rfl) ⟨hZ14I, hZ14K, hZ14U⟩
        · replace hP := zE_n hP h13
          obtain ⟨Z15, hZ15⟩ := zx (zu Z9 1 0 0 2 0)
          replace hP := zl_e hP hZ15
          have hZ15I := zM_0 hZ9I hZ15 (by decide) (Or.inr (by decide))
          have hZ15U : zU [] Z Z15 := zU_u hZ9U hZ15 (Or.inl rfl)
          have hZ15K : zC [1] Z Z15 := zC_u hZ9K hZ15 (by decide)
          intro μ9 e9
          replace e9 := e9.trans (zm_wI (Z := Z9) (ν := ν) hZ15 (show ((0 : Nat) : Int) = 0 from rfl) (show ((0 : Nat) : Int) = 0 from rfl) (show ((2 : Nat) : Int) = 2 from rfl) (show (0 : Int32) = i3 0 from rfl))
          subst e9
          refine wz_br (i3L (rfl : i3 a3 = i3 a3) (show (0 : Int32) = i3 0 from rfl) (by omega) (by omega) (by omega) (by omega)) (fun h16 => ?_) (fun h16 => ?_)
          · replace hP := zE_p hP h16
            obtain ⟨Z17, hZ17⟩ := zx (zu Z15 1 0 0 2 2)
            replace hP := zl_e hP hZ17
            have hZ17I := zM_u hZ15I hZ17 (lo := -2147483648) (hi := 2147483647) (by decide) rfl (by omega) ⟨by decide, by decide⟩ (Or.inr (by decide)) rfl
            have hZ17U : zU [] Z Z17 := zU_u hZ15U hZ17 (Or.inl rfl)
            have hZ17K : zC [1] Z Z17 := zC_u hZ15K hZ17 (by decide)
            intro μ9 e9
            replace e9 := e9.trans (zm_wI (Z := Z15) (ν := ν) hZ17 (show ((0 : Nat) : Int) = 0 from rfl) (show ((0 : Nat) : Int) = 0 from rfl) (show ((2 : Nat) : Int) = 2 from rfl) (show (2 : Int32) = i3 2 from rfl))
            subst e9
            exact zlY hP (show (0 : Int32) = i3 0 from rfl) (.inl rfl) ⟨hZ17I, hZ17K, hZ17U⟩
          · replace hP := zE_n hP h16
            refine wz_br (i3L (show (2 : Int32) = i3 2 from rfl) (rfl : i3 a3 = i3 a3) (by omega) (by omega) (by omega) (by omega)) (fun h18 => ?_) (fun h18 => ?_)
            · replace hP := zE_p hP h18
              obtain ⟨Z19, hZ19⟩ := zx (zu Z15 1 0 0 2 2)
              replace hP := zl_e hP hZ19
              have hZ19I := zM_u hZ15I hZ19 (lo := -2147483648) (hi := 2147483647) (by decide) rfl (by omega) ⟨by decide, by decide⟩ (Or.inr (by decide)) rfl
              have hZ19U : zU [] Z Z19 := zU_u hZ15U hZ19 (Or.inl rfl)
              have hZ19K : zC [1] Z Z19 := zC_u hZ15K hZ19 (by decide)
              intro μ9 e9
              replace e9 := e9.trans (zm_wI (Z := Z15) (ν := ν) hZ19 (show ((0 : Nat) : Int) = 0 from rfl) (show ((0 : Nat) : Int) = 0 from rfl) (show ((2 : Nat) : Int) = 2 from rfl) (show (2 : Int32) = i3 2 from rfl))
              subst e9
              exact zlY hP (show (0 : Int32) = i3 0 from rfl) (.inl rfl) ⟨hZ19I, hZ19K, hZ19U⟩
            · replace hP := zE_n hP h18
              obtain ⟨Z20, hZ20⟩ := zx (zu Z15 1 0 0 2 0)
              replace hP := zl_e hP hZ20
              have hZ20I := zM_0 hZ15I hZ20 (by decide) (Or.inr (by decide))
              have hZ20U : zU [] Z Z20 := zU_u hZ15U hZ20 (Or.inl rfl)
              have hZ20K : zC [1] Z Z20 := zC_u hZ15K hZ20 (by decide)
              intro μ9 e9
              replace e9 := e9.trans (zm_wI (Z := Z15) (ν := ν) hZ20 (show ((0 : Nat) : Int) = 0 from rfl) (show ((0 : Nat) : Int) = 0 from rfl) (show ((2 : Nat) : Int) = 2 from rfl) (show (0 : Int32) = i3 0 from rfl))
              subst e9
              refine wz_i0 (i3O (n := 4400) (i3A (i3A (i3A (i3A (show (3010 : Int32) = i3 3010 from rfl) (i3M (show (60 : Int32) = i3 60 from rfl) (rfl : i3 a1 = i3 a1))) (show (12 : Int32) = i3 12 from rfl)) (i3M (show (3 : Int32) = i3 3 from rfl) (rfl : i3 a2 = i3 a2))) (rfl : i3 a3 = i3 a3)) (by omega) (by omega) (by omega)) ?_
              have r21 := zM_f hZ20I 2 0 0 (3022 + 60 * a1 + 3 * a2 + a3)
              exact zlY hP (zm_rd (Z := Z20) (ν := ν) (k := 2) (show ((0 : Nat) : Int) = 0 from rfl) (show ((0 : Nat) : Int) = 0 from rfl) (i3I (y := (3022 + 60 * a1 + 3 * a2 + a3)) (i3A (i3A (i3A (i3A (show (3010 : Int32) = i3 3010 from rfl) (i3M (show (60 : Int32) = i3 60 from rfl) (rfl : i3 a1 = i3 a1))) (show (12 : Int32) = i3 12 from rfl)) (i3M (show (3 : Int32) = i3 3 from rfl) (rfl : i3 a2 = i3 a2))) (rfl : i3 a3 = i3 a3)) (by omega) (by omega) (by omega))) (.inl rfl) ⟨hZ20I, hZ20K, hZ20U⟩
/- yX12_order -/
def zy_441 (Z : qz_Z) (dm : qz_Z → Int → Int → Int → Int → Int → Int → Int → qz_Z) (a1 : Int) (a2 : Int) (a3 : Int) (a4 : Int) (a5 : Int) (a6 : Int) : qz_Z × Int := (if a3 < 0 then (if a1 < 0 then (zlet (zu Z 1 0 0 2 1) (fun Z6 => (Z6, 0))) else (if ((Z 2 0 0 1400) - 1) < a1 then (zlet (zu Z 1 0 0 2 1) (fun Z9 => (Z9, 0))) else (if a2 < 0 then (zlet (zu Z 1 0 0 2 1) (fun Z11 => (Z11, 0))) else (if ((Z 2 0 0 100) - 1) < a2 then (zlet (zu Z 1 0 0 2 1) (fun Z14 => (Z14, 0))) else (zlet (zu Z 1 0 0 2 0) (fun Z15 => (zlet (zu Z15 1 0 0 2 2) (fun Z16 => (Z16, 0))))))))) else (if 3 < a3 then (if a1 < 0 then (zlet (zu Z 1 0 0 2 1) (fun Z19 => (Z19, 0))) else (if ((Z 2 0 0 1400) - 1) < a1 then (zlet (zu Z 1 0 0 2 1) (fun Z22 => (Z22, 0))) else (if a2 < 0 then (zlet (zu Z 1 0 0 2 1) (fun Z24 => (Z24, 0))) else (if ((Z 2 0 0 100) - 1) < a2 then (zlet (zu Z 1 0 0 2 1) (fun Z27 => (Z27, 0))) else (zlet (zu Z 1 0 0 2 0) (fun Z28 => (zlet (zu Z28 1 0 0 2 2) (fun Z29 => (Z29, 0))))))))) else (if a4 < 1 then (if a1 < 0 then (zlet (zu Z 1 0 0 2 1) (fun Z32 => (Z32, 0))) else (if ((Z 2 0 0 1400) - 1) < a1 then (zlet (zu Z 1 0 0 2 1) (fun Z35 => (Z35, 0))) else (if a2 < 0 then (zlet (zu Z 1 0 0 2 1) (fun Z37 => (Z37, 0))) else (if ((Z 2 0 0 100) - 1) < a2 then (zlet (zu Z 1 0 0 2 1) (fun Z40 => (Z40, 0))) else (zlet (zu Z 1 0 0 2 0) (fun Z41 => (zlet (zu Z41 1 0 0 2 2) (fun Z42 => (Z42, 0))))))))) else (if 99 < a4 then (if a1 < 0 then (zlet (zu Z 1 0 0 2 1) (fun Z45 => (Z45, 0))) else (if ((Z 2 0 0 1400) - 1) < a1 then (zlet (zu Z 1 0 0 2 1) (fun Z48 => (Z48, 0))) else (if a2 < 0 then (zlet (zu Z 1 0 0 2 1) (fun Z50 => (Z50, 0))) else (if ((Z 2 0 0 100) - 1) < a2 then (zlet (zu Z 1 0 0 2 1) (fun Z53 => (Z53, 0))) else (zlet (zu Z 1 0 0 2 0) (fun Z54 => (zlet (zu Z54 1 0 0 2 2) (fun Z55 => (Z55, 0))))))))) else (if a5 < 1 then (if a1 < 0 then (zlet (zu Z 1 0 0 2 1) (fun Z58 => (Z58, 0))) else (if ((Z 2 0 0 1400) - 1) < a1 then (zlet (zu Z 1 0 0 2 1) (fun Z61 => (Z61, 0))) else (if a2 < 0 then (zlet (zu Z 1 0 0 2 1) (fun Z63 => (Z63, 0))) else (if ((Z 2 0 0 100) - 1) < a2 then (zlet (zu Z 1 0 0 2 1) (fun Z66 => (Z66, 0))) else (zlet (zu Z 1 0 0 2 0) (fun Z67 => (zlet (zu Z67 1 0 0 2 2) (fun Z68 => (Z68, 0))))))))) else (if 9999 < a5 then (if a1 < 0 then (zlet (zu Z 1 0 0 2 1) (fun Z71 => (Z71, 0))) else (if ((Z 2 0 0 1400) - 1) < a1 then (zlet (zu Z 1 0 0 2 1) (fun Z74 => (Z74, 0))) else (if a2 < 0 then (zlet (zu Z 1 0 0 2 1) (fun Z76 => (Z76, 0))) else (if ((Z 2 0 0 100) - 1) < a2 then (zlet (zu Z 1 0 0 2 1) (fun Z79 => (Z79, 0))) else (zlet (zu Z 1 0 0 2 0) (fun Z80 => (zlet (zu Z80 1 0 0 2 2) (fun Z81 => (Z81, 0))))))))) else (if a6 < 1 then (if a1 < 0 then (zlet (zu Z 1 0 0 2 1) (fun Z84 => (Z84, 0))) else (if ((Z 2 0 0 1400) - 1) < a1 then (zlet (zu Z 1 0 0 2 1) (fun Z87 => (Z87, 0))) else (if a2 < 0 then (zlet (zu Z 1 0 0 2 1) (fun Z89 => (Z89, 0))) else (if ((Z 2 0 0 100) - 1) < a2 then (zlet (zu Z 1 0 0 2 1) (fun Z92 => (Z92, 0))) else (zlet (zu Z 1 0 0 2 0) (fun Z93 => (zlet (zu Z93 1 0 0 2 2) (fun Z94 => (Z94, 0))))))))) else (if 127 < a6 then (if a1 < 0 then (zlet (zu Z 1 0 0 2 1) (fun Z97 => (Z97, 0))) else (if ((Z 2 0 0 1400) - 1) < a1 then (zlet (zu Z 1 0 0 2 1) (fun Z100 => (Z100, 0))) else (if a2 < 0 then (zlet (zu Z 1 0 0 2 1) (fun Z102 => (Z102, 0))) else (if ((Z 2 0 0 100) - 1) < a2 then (zlet (zu Z 1 0 0 2 1) (fun Z105 => (Z105, 0))) else (zlet (zu Z 1 0 0 2 0) (fun Z106 => (zlet (zu Z106 1 0 0 2 2) (fun Z107 => (Z107, 0))))))))) else (if a1 < 0 then (zlet (zu Z 1 0 0 2 1) (fun Z109 => (Z109, 0))) else (if ((Z 2 0 0 1400) - 1) < a1 then (zlet (zu Z 1 0 0 2 1) (fun Z112 => (Z112, 0))) else (if a2 < 0 then (zlet (zu Z 1 0 0 2 1) (fun Z114 => (Z114, 0))) else (if ((Z 2 0 0 100) - 1) < a2 then (zlet (zu Z 1 0 0 2 1) (fun Z117 => (Z117, 0))) else (zlet (zu Z 1 0 0 2 0) (fun Z118 => (zlet (zu Z118 1 0 0 2 0) (fun Z119 => (if 24 ≤ (Z119 2 0 0 1401) then (zlet (zu Z119 1 0 0 2 3) (fun Z122 => (Z122, 0))) else (zlet (zu Z119 1 0 0 2 0) (fun Z123 => (zlet (dm Z123 12 a1 a2 a3 a4 a5 a6) (fun Z130 => (zlet (zu Z130 2 0 0 (1510 + 12 * (Z130 2 0 0 1401)) a1) (fun Z133 => (zlet (zu Z133 2 0 0 (1511 + 12 * (Z130 2 0 0 1401)) a2) (fun Z134 => (zlet (zu Z134 2 0 0 (1512 + 12 * (Z130 2 0 0 1401)) a3) (fun Z135 => (zlet (zu Z135 2 0 0 (1513 + 12 * (Z130 2 0 0 1401)) a4) (fun Z136 => (zlet (zu Z136 2 0 0 (1514 + 12 * (Z130 2 0 0 1401)) a5) (fun Z137 => (zlet (zu Z137 2 0 0 (1515 + 12 * (Z130 2 0 0 1401)) a6) (fun Z138 => (zlet (zu Z138 2 0 0 (1516 + 12 * (Z130 2 0 0 1401)) a4) (fun Z139 => (zlet (zu Z139 2 0 0 1401 ((Z139 2 0 0 1401) + 1)) (fun Z142 => (Z142, (Z130 2 0 0 1401)))))))))))))))))))))))))))))))))))))))
theorem sy_441 {s : zSM} {Z : qz_Z} {ν : qz_N} (hZ : zM s Z) (gq : Z 1 0 0 35 = 0) (hM : s.2 + 0 ≤ 1000000000) {a1 : Int} (ga1 : -2147483648 ≤ a1 ∧ a1 ≤ 2147483647) {a2 : Int} (ga2 : -2147483648 ≤ a2 ∧ a2 ≤ 2147483647) {a3 : Int} (ga3 : -2147483648 ≤ a3 ∧ a3 ≤ 2147483647) {a4 : Int} (ga4 : -2147483648 ≤ a4 ∧ a4 ≤ 2147483647) {a5 : Int} (ga5 : -2147483648 ≤ a5 ∧ a5 ≤ 2147483647) {a6 : Int} (ga6 : -2147483648 ≤ a6 ∧ a6 ≤ 2147483647) {dk : qz_Z → qz_Z} {dm : qz_Z → Int → Int → Int → Int → Int → Int → Int → qz_Z} {ν1 : qz_N} (hdm : zDm s ν ν1 Z dk dm) : ∃ (Z1 : qz_Z) (ν2 : qz_N) (v : Int), (Z1, v) = zy_441 Z dm a1 a2 a3 a4 a5 a6 ∧ (ν2 = ν ∨ ν2 = ν1) ∧ qf_441 [.inr (.inr (some (1, 0, 0))), .inl (i3 a1), .inl (i3 a2), .inl (i3 a3), .inl (i3 a4), .inl (i3 a5), .inl (i3 a6)] (zm Z ν) = some (zm Z1 ν2, .inl (some (.inl (i3 v)))) ∧ (fun Z1 => zM s Z1 ∧ zC [1, 2, 101, 102, 200] Z Z1 ∧ zU [] Z Z1) Z1 := by
  obtain ⟨P, hP⟩ := zx (zy_441 Z dm a1 a2 a3 a4 a5 a6)
  refine zc_Y (Q := fun Z1 => zM s Z1 ∧ zC [1, 2, 101, 102, 200] Z Z1 ∧ zU [] Z Z1) hP (fw_441 (i3 a1) (i3 a2) (i3 a3) (i3 a4) (i3 a5) (i3 a6) _ _ ?_)
  replace hP : zE P (zy_441 Z dm a1 a2 a3 a4 a5 a6) := hP
  unfold zy_441 at hP
  have r1 := zM_k hZ 1 0 0 35 (lo := 0) (hi := 1) (by decide) rfl
  have r2 := zM_k hZ 1 0 0 34 (lo := 0) (hi := 8) (by decide) rfl
  have r3 := zM_f hZ 1 0 0 37
  refine wz_br (i3L (rfl : i3 a3 = i3 a3) (show (0 : Int32) = i3 0 from rfl) (by omega) (by omega) (by omega) (by omega)) (fun h4 => ?_) (fun h4 => ?_)
  · replace hP := zE_p hP h4
    refine wz_br (i3L (rfl : i3 a1 = i3 a1) (show (0 : Int32) = i3 0 from rfl) (by omega) (by omega) (by omega) (by omega)) (fun h5 => ?_) (fun h5 => ?_)
    · replace hP := zE_p hP h5
      obtain ⟨Z6, hZ6⟩ := zx (zu Z 1 0 0 2 1)
      replace hP := zl_e hP hZ6
      have hZ6I := zM_u hZ hZ6 (lo := -2147483648) (hi := 2147483647) (by decide) rfl (by omega) ⟨by decide, by decide⟩ (Or.inr (by decide)) rfl
      have hZ6U : zU [] Z Z6 := zU_u zU_r hZ6 (Or.inl rfl)
      have hZ6K : zC [1, 2, 101, 102, 200] Z Z6 := zC_u zC_r hZ6 (by decide)
      intro μ9 e9
      replace e9 := e9.trans (zm_wI (Z := Z) (ν := ν) hZ6 (show ((0 : Nat) : Int) = 0 from rfl) (show ((0 : Nat) : Int) = 0 from rfl) (show ((2 : Nat) : Int) = 2 from rfl) (show (1 : Int32) = i3 1 from rfl))
      subst e9
      exact zlY hP (show (0 : Int32) = i3 0 from rfl) (.inl rfl) ⟨hZ6I, hZ6K, hZ6U⟩
    · replace hP := zE_n hP h5
      have r7 := zM_k hZ 2 0 0 1400 (lo := 0) (hi := 8) (by decide) rfl
      refine wz_br (i3L (i3S (zm_rd (Z := Z) (ν := ν) (k := 2) (show ((0 : Nat) : Int) = 0 from rfl) (show ((0 : Nat) : Int) = 0 from rfl) (show ((1400 : Nat) : Int) = 1400 from rfl)) (show (1 : Int32) = i3 1 from rfl)) (rfl : i3 a1 = i3 a1) (by omega) (by omega) (by omega) (by omega)) (fun h8 => ?_) (fun h8 => ?_)
      · replace hP := zE_p hP h8
        obtain ⟨Z9, hZ9⟩ := zx (zu Z 1 0 0 2 1)
        replace hP := zl_e hP hZ9
        have hZ9I := zM_u hZ hZ9 (lo := -2147483648) (hi := 2147483647) (by decide) rfl (by omega) ⟨by decide, by decide⟩ (Or.inr (by decide)) rfl
        have hZ9U : zU [] Z Z9 := zU_u zU_r hZ9 (Or.inl rfl)
        have hZ9K : zC [1, 2, 101, 102, 200] Z Z9 := zC_u zC_r hZ9 (by decide)
        intro μ9 e9
        replace e9 := e9.trans (zm_wI (Z := Z) (ν := ν) hZ9 (show ((0 : Nat) : Int) = 0 from rfl) (show ((0 : Nat) : Int) = 0 from rfl) (show ((2 : Nat) : Int) = 2 from rfl) (show (1 : Int32) = i3 1 from rfl))
        subst e9
        exact zlY hP (show (0 : Int32) = i3 0 from rfl) (.inl rfl) ⟨hZ9I, hZ9K, hZ9U⟩
      · replace hP := zE_n hP h8
        refine wz_br (i3L (rfl : i3 a2 = i3 a2) (show (0 : Int32) = i3 0 from rfl) (by omega) (by omega) (by omega) (by omega)) (fun h10 => ?_) (fun h10 => ?_)
        · replace hP := zE_p hP h10
          obtain ⟨Z11, hZ11⟩ := zx (zu Z 1 0 0 2 1)
          replace hP := zl_e hP hZ11
          have hZ11I := zM_u hZ hZ11 (lo := -2147483648) (hi := 2147483647) (by decide) rfl (by omega) ⟨by decide, by decide⟩ (Or.inr (by decide)) rfl
          have hZ11U : zU [] Z Z11 := zU_u zU_r hZ11 (Or.inl rfl)
          have hZ11K : zC [1, 2, 101, 102, 200] Z Z11 := zC_u zC_r hZ11 (by decide)
          intro μ9 e9
          replace e9 := e9.trans (zm_wI (Z := Z) (ν := ν) hZ11 (show ((0 : Nat) : Int) = 0 from rfl) (show ((0 : Nat) : Int) = 0 from rfl) (show ((2 : Nat) : Int) = 2 from rfl) (show (1 : Int32) = i3 1 from rfl))
          subst e9
          exact zlY hP (show (0 : Int32) = i3 0 from rfl) (.inl rfl) ⟨hZ11I, hZ11K, hZ11U⟩
        · replace hP := zE_n hP h10
          have r12 := zM_k hZ 2 0 0 100 (lo := 0) (hi := 5) (by decide) rfl
          refine wz_br (i3L (i3S (zm_rd (Z := Z) (ν := ν) (k := 2) (show ((0 : Nat) : Int) = 0 from rfl) (show ((0 : Nat) : Int) = 0 from rfl) (show ((100 : Nat) : Int) = 100 from rfl)) (show (1 : Int32) = i3 1 from rfl)) (rfl : i3 a2 = i3 a2) (by omega) (by omega) (by omega) (by omega)) (fun h13 => ?_) (fun h13 => ?_)
          · replace hP := zE_p hP h13
            obtain ⟨Z14, hZ14⟩ := zx (zu Z 1 0 0 2 1)
            replace hP := zl_e hP hZ14
            have hZ14I := zM_u hZ hZ14 (lo := -2147483648) (hi := 2147483647) (by decide) rfl (by omega) ⟨by decide, by decide⟩ (Or.inr (by decide)) rfl
            have hZ14U : zU [] Z Z14 := zU_u zU_r hZ14 (Or.inl rfl)
            have hZ14K : zC [1, 2, 101, 102, 200] Z Z14 := zC_u zC_r hZ14 (by decide)
            intro μ9 e9
            replace e9 := e9.trans (zm_wI (Z := Z) (ν := ν) hZ14 (show ((0 : Nat) : Int) = 0 from rfl) (show ((0 : Nat) : Int) = 0 from rfl) (show ((2 : Nat) : Int) = 2 from rfl) (show (1 : Int32) = i3 1 from rfl))
            subst e9
            exact zlY hP (show (0 : Int32) = i3 0 from rfl) (.inl rfl) ⟨hZ14I, hZ14K, hZ14U⟩
          · replace hP := zE_n hP h13
            obtain ⟨Z15, hZ15⟩ := zx (zu Z 1 0 0 2 0)
            replace hP := zl_e hP hZ15
            have hZ15I := zM_0 hZ hZ15 (by decide) (Or.inr (by decide))
            have hZ15U : zU [] Z Z15 := zU_u zU_r hZ15 (Or.inl rfl)
            have hZ15K : zC [1, 2, 101, 102, 200] Z Z15 := zC_u zC_r hZ15 (by decide)
            intro μ9 e9
            replace e9 := e9.trans (zm_wI (Z := Z) (ν := ν) hZ15 (show ((0 : Nat) : Int) = 0 from rfl) (show ((0 : Nat) : Int) = 0 from rfl) (show ((2 : Nat) : Int) = 2 from rfl) (show (0 : Int32) = i3 0 from rfl))
            subst e9
            obtain ⟨Z16, hZ16⟩ := zx (zu Z15 1 0 0 2 2)
            replace hP := zl_e hP hZ16
            have hZ16I := zM_u hZ15I hZ16 (lo := -2147483648) (hi := 2147483647) (by decide) rfl (by omega) ⟨by decide, by decide⟩ (Or.inr (by decide)) rfl
            have hZ16U : zU [] Z Z16 := zU_u hZ15U hZ16 (Or.inl rfl)
            have hZ16K : zC [1, 2, 101, 102, 200] Z Z16 := zC_u hZ15K hZ16 (by decide)
            intro μ9 e9
            replace e9 := e9.trans (zm_wI (Z := Z15) (ν := ν) hZ16 (show ((0 : Nat) : Int) = 0 from rfl) (show ((0 : Nat) : Int) = 0 from rfl) (show ((2 : Nat) : Int) = 2 from rfl) (show (2 : Int32) = i3 2 from rfl))
            subst e9
            exact zlY hP (show (0 : Int32) = i3 0 from rfl) (.inl rfl) ⟨hZ16I, hZ16K, hZ16U⟩
  · replace hP := zE_n hP h4
    refine wz_br (i3L (show (3 : Int32) = i3 3 from rfl) (rfl : i3 a3 = i3 a3) (by omega) (by omega) (by omega) (by omega)) (fun h17 => ?_) (fun h17 => ?_)
    · replace hP := zE_p hP h17
      refine wz_br (i3L (rfl : i3 a1 = i3 a1) (show (0 : Int32) = i3 0 from rfl) (by omega) (by omega) (by omega) (by omega)) (fun h18 => ?_) (fun h18 => ?_)
      · replace hP := zE_p hP h18
        obtain ⟨Z19, hZ19⟩ := zx (zu Z 1 0 0 2 1)
        replace hP := zl_e hP hZ19
        have hZ19I := zM_u hZ hZ19 (lo := -2147483648) (hi := 2147483647) (by decide) rfl (by omega) ⟨by decide, by decide⟩ (Or.inr (by decide)) rfl
        have hZ19U : zU [] Z Z19 := zU_u zU_r hZ19 (Or.inl rfl)
        have hZ19K : zC [1, 2, 101, 102, 200] Z Z19 := zC_u zC_r hZ19 (by decide)
        intro μ9 e9
        replace e9 := e9.trans (zm_wI (Z := Z) (ν := ν) hZ19 (show ((0 : Nat) : Int) = 0 from rfl) (show ((0 : Nat) : Int) = 0 from rfl) (show ((2 : Nat) : Int) = 2 from rfl) (show (1 : Int32) = i3 1 from rfl))
        subst e9
        exact zlY hP (show (0 : Int32) = i3 0 from rfl) (.inl rfl) ⟨hZ19I, hZ19K, hZ19U⟩
      · replace hP := zE_n hP h18
        have r20 := zM_k hZ 2 0 0 1400 (lo := 0) (hi := 8) (by decide) rfl
        refine wz_br (i3L (i3S (zm_rd (Z := Z) (ν := ν) (k := 2) (show ((0 : Nat) : Int) = 0 from rfl) (show ((0 : Nat) : Int) = 0 from rfl) (show ((1400 : Nat) : Int) = 1400 from rfl)) (show (1 : Int32) = i3 1 from rfl)) (rfl : i3 a1 = i3 a1) (by omega) (by omega) (by omega) (by omega)) (fun h21 => ?_) (fun h21 => ?_)
        · replace hP := zE_p hP h21
          obtain ⟨Z22, hZ22⟩ := zx (zu Z 1 0 0 2 1)
          replace hP := zl_e hP hZ22
          have hZ22I := zM_u hZ hZ22 (lo := -2147483648) (hi := 2147483647) (by decide) rfl (by omega) ⟨by decide, by decide⟩ (Or.inr (by decide)) rfl
          have hZ22U : zU [] Z Z22 := zU_u zU_r hZ22 (Or.inl rfl)
          have hZ22K : zC [1, 2, 101, 102, 200] Z Z22 := zC_u zC_r hZ22 (by decide)
          intro μ9 e9
          replace e9 := e9.trans (zm_wI (Z := Z) (ν := ν) hZ22 (show ((0 : Nat) : Int) = 0 from rfl) (show ((0 : Nat) : Int) = 0 from rfl) (show ((2 : Nat) : Int) = 2 from rfl) (show (1 : Int32) = i3 1 from rfl))
          subst e9
          exact zlY hP (show (0 : Int32) = i3 0 from rfl) (.inl rfl) ⟨hZ22I, hZ22K, hZ22U⟩
        · replace hP := zE_n hP h21
          refine wz_br (i3L (rfl : i3 a2 = i3 a2) (show (0 : Int32) = i3 0 from rfl) (by omega) (by omega) (by omega) (by omega)) (fun h23 => ?_) (fun h23 => ?_)
          · replace hP := zE_p hP h23
            obtain ⟨Z24, hZ24⟩ := zx (zu Z 1 0 0 2 1)
            replace hP := zl_e hP hZ24
            have hZ24I := zM_u hZ hZ24 (lo := -2147483648) (hi := 2147483647) (by decide) rfl (by omega) ⟨by decide, by decide⟩ (Or.inr (by decide)) rfl
            have hZ24U : zU [] Z Z24 := zU_u zU_r hZ24 (Or.inl rfl)
            have hZ24K : zC [1, 2, 101, 102, 200] Z Z24 := zC_u zC_r hZ24 (by decide)
            intro μ9 e9
            replace e9 := e9.trans (zm_wI (Z := Z) (ν := ν) hZ24 (show ((0 : Nat) : Int) = 0 from rfl) (show ((0 : Nat) : Int) = 0 from rfl) (show ((2 : Nat) : Int) = 2 from rfl) (show (1 : Int32) = i3 1 from rfl))
            subst e9
            exact zlY hP (show (0 : Int32) = i3 0 from rfl) (.inl rfl) ⟨hZ24I, hZ24K, hZ24U⟩
          · replace hP := zE_n hP h23
            have r25 := zM_k hZ 2 0 0 100 (lo := 0) (hi := 5) (by decide) rfl
            refine wz_br (i3L (i3S (zm_rd (Z := Z) (ν := ν) (k := 2) (show ((0 : Nat) : Int) = 0 from rfl) (show ((0 : Nat) : Int) = 0 from rfl) (show ((100 : Nat) : Int) = 100 from rfl)) (show (1 : Int32) = i3 1 from rfl)) (rfl : i3 a2 = i3 a2) (by omega) (by omega) (by omega) (by omega)) (fun h26 => ?_) (fun h26 => ?_)
            · replace hP := zE_p hP h26
              obtain ⟨Z27, hZ27⟩ := zx (zu Z 1 0 0 2 1)
              replace hP := zl_e hP hZ27
              have hZ27I := zM_u hZ hZ27 (lo := -2147483648) (hi := 2147483647) (by decide) rfl (by omega) ⟨by decide, by decide⟩ (Or.inr (by decide)) rfl
              have hZ27U : zU [] Z Z27 := zU_u zU_r hZ27 (Or.inl rfl)
              have hZ27K : zC [1, 2, 101, 102, 200] Z Z27 := zC_u zC_r hZ27 (by decide)
              intro μ9 e9
              replace e9 := e9.trans (zm_wI (Z := Z) (ν := ν) hZ27 (show ((0 : Nat) : Int) = 0 from rfl) (show ((0 : Nat) : Int) = 0 from rfl) (show ((2 : Nat) : Int) = 2 from rfl) (show (1 : Int32) = i3 1 from rfl))
              subst e9
              exact zlY hP (show (0 : Int32) = i3 0 from rfl) (.inl rfl) ⟨hZ27I, hZ27K, hZ27U⟩
            · replace hP := zE_n hP h26
              obtain ⟨Z28, hZ28⟩ := zx (zu Z 1 0 0 2 0)
              replace hP := zl_e hP hZ28
              have hZ28I := zM_0 hZ hZ28 (by decide) (Or.inr (by decide))
              have hZ28U : zU [] Z Z28 := zU_u zU_r hZ28 (Or.inl rfl)
              have hZ28K : zC [1, 2, 101, 102, 200] Z Z28 := zC_u zC_r hZ28 (by decide)
              intro μ9 e9
              replace e9 := e9.trans (zm_wI (Z := Z) (ν := ν) hZ28 (show ((0 : Nat) : Int) = 0 from rfl) (show ((0 : Nat) : Int) = 0 from rfl) (show ((2 : Nat) : Int) = 2 from rfl) (show (0 : Int32) = i3 0 from rfl))
              subst e9
              obtain ⟨Z29, hZ29⟩ := zx (zu Z28 1 0 0 2 2)
              replace hP := zl_e hP hZ29
              have hZ29I := zM_u hZ28I hZ29 (lo := -2147483648) (hi := 2147483647) (by decide) rfl (by omega) ⟨by decide, by decide⟩ (Or.inr (by decide)) rfl
              have hZ29U : zU [] Z Z29 := zU_u hZ28U hZ29 (Or.inl rfl)
              have hZ29K : zC [1, 2, 101, 102, 200] Z Z29 := zC_u hZ28K hZ29 (by decide)
              intro μ9 e9
              replace e9 := e9.trans (zm_wI (Z := Z28) (ν := ν) hZ29 (show ((0 : Nat) : Int) = 0 from rfl) (show ((0 : Nat) : Int) = 0 from rfl) (show ((2 : Nat) : Int) = 2 from rfl) (show (2 : Int32) = i3 2 from rfl))
              subst e9
              exact zlY hP (show (0 : Int32) = i3 0 from rfl) (.inl rfl) ⟨hZ29I, hZ29K, hZ29U⟩
    · replace hP := zE_n hP h17
      refine wz_br (i3L (rfl : i3 a4 = i3 a4) (show (1 : Int32) = i3 1 from rfl) (by omega) (by omega) (by omega) (by omega)) (fun h30 => ?_) (fun h30 => ?_)
      · replace hP := zE_p hP h30
        refine wz_br (i3L (rfl : i3 a1 = i3 a1) (show (0 : Int32) = i3 0 from rfl) (by omega) (by omega) (by omega) (by omega)) (fun h31 => ?_) (fun h31 => ?_)
        · replace hP := zE_p hP h31
          obtain ⟨Z32, hZ32⟩ := zx (zu Z 1 0 0 2 1)
          replace hP := zl_e hP hZ32
          have hZ32I := zM_u hZ hZ32 (lo := -2147483648) (hi := 2147483647) (by decide) rfl (by omega) ⟨by decide, by decide⟩ (Or.inr (by decide)) rfl
          have hZ32U : zU [] Z Z32 := zU_u zU_r hZ32 (Or.inl rfl)
          have hZ32K : zC [1, 2, 101, 102, 200] Z Z32 := zC_u zC_r hZ32 (by decide)
          intro μ9 e9
          replace e9 := e9.trans (zm_wI (Z := Z) (ν := ν) hZ32 (show ((0 : Nat) : Int) = 0 from rfl) (show ((0 : Nat) : Int) = 0 from rfl) (show ((2 : Nat) : Int) = 2 from rfl) (show (1 : Int32) = i3 1 from rfl))
          subst e9
          exact zlY hP (show (0 : Int32) = i3 0 from rfl) (.inl rfl) ⟨hZ32I, hZ32K, hZ32U⟩
        · replace hP := zE_n hP h31
          have r33 := zM_k hZ 2 0 0 1400 (lo := 0) (hi := 8) (by decide) rfl
          refine wz_br (i3L (i3S (zm_rd (Z := Z) (ν := ν) (k := 2) (show ((0 : Nat) : Int) = 0 from rfl) (show ((0 : Nat) : Int) = 0 from rfl) (show ((1400 : Nat) : Int) = 1400 from rfl)) (show (1 : Int32) = i3 1 from rfl)) (rfl : i3 a1 = i3 a1) (by omega) (by omega) (by omega) (by omega)) (fun h34 => ?_) (fun h34 => ?_)
          · replace hP := zE_p hP h34
            obtain ⟨Z35, hZ35⟩ := zx (zu Z 1 0 0 2 1)
            replace hP := zl_e hP hZ35
            have hZ35I := zM_u hZ hZ35 (lo := -2147483648) (hi := 2147483647) (by decide) rfl (by omega) ⟨by decide, by decide⟩ (Or.inr (by decide)) rfl
            have hZ35U : zU [] Z Z35 := zU_u zU_r hZ35 (Or.inl rfl)
            have hZ35K : zC [1, 2, 101, 102, 200] Z Z35 := zC_u zC_r hZ35 (by decide)
            intro μ9 e9
            replace e9 := e9.trans (zm_wI (Z := Z) (ν := ν) hZ35 (show ((0 : Nat) : Int) = 0 from rfl) (show ((0 : Nat) : Int) = 0 from rfl) (show ((2 : Nat) : Int) = 2 from rfl) (show (1 : Int32) = i3 1 from rfl))
            subst e9
            exact zlY hP (show (0 : Int32) = i3 0 from rfl) (.inl rfl) ⟨hZ35I, hZ35K, hZ35U⟩
          · replace hP := zE_n hP h34
            refine wz_br (i3L (rfl : i3 a2 = i3 a2) (show (0 : Int32) = i3 0 from rfl) (by omega) (by omega) (by omega) (by omega)) (fun h36 => ?_) (fun h36 => ?_)
            · replace hP := zE_p hP h36
              obtain ⟨Z37, hZ37⟩ := zx (zu Z 1 0 0 2 1)
              replace hP := zl_e hP hZ37
              have hZ37I := zM_u hZ hZ37 (lo := -2147483648) (hi := 2147483647) (by decide) rfl (by omega) ⟨by decide, by decide⟩ (Or.inr (by decide)) rfl
              have hZ37U : zU [] Z Z37 := zU_u zU_r hZ37 (Or.inl rfl)
              have hZ37K : zC [1, 2, 101, 102, 200] Z Z37 := zC_u zC_r hZ37 (by decide)
              intro μ9 e9
              replace e9 := e9.trans (zm_wI (Z := Z) (ν := ν) hZ37 (show ((0 : Nat) : Int) = 0 from rfl) (show ((0 : Nat) : Int) = 0 from rfl) (show ((2 : Nat) : Int) = 2 from rfl) (show (1 : Int32) = i3 1 from rfl))
              subst e9
              exact zlY hP (show (0 : Int32) = i3 0 from rfl) (.inl rfl) ⟨hZ37I, hZ37K, hZ37U⟩
            · replace hP := zE_n hP h36
              have r38 := zM_k hZ 2 0 0 100 (lo := 0) (hi := 5) (by decide) rfl
              refine wz_br (i3L (i3S (zm_rd (Z := Z) (ν := ν) (k := 2) (show ((0 : Nat) : Int) = 0 from rfl) (show ((0 : Nat) : Int) = 0 from rfl) (show ((100 : Nat) : Int) = 100 from rfl)) (show (1 : Int32) = i3 1 from rfl)) (rfl : i3 a2 = i3 a2) (by omega) (by omega) (by omega) (by omega)) (fun h39 => ?_) (fun h39 => ?_)
              · replace hP := zE_p hP h39
                obtain ⟨Z40, hZ40⟩ := zx (zu Z 1 0 0 2 1)
                replace hP := zl_e hP hZ40
                have hZ40I := zM_u hZ hZ40 (lo := -2147483648) (hi := 2147483647) (by decide) rfl (by omega) ⟨by decide, by decide⟩ (Or.inr (by decide)) rfl
                have hZ40U : zU [] Z Z40 := zU_u zU_r hZ40 (Or.inl rfl)
                have hZ40K : zC [1, 2, 101, 102, 200] Z Z40 := zC_u zC_r hZ40 (by decide)
                intro μ9 e9
                replace e9 := e9.trans (zm_wI (Z := Z) (ν := ν) hZ40 (show ((0 : Nat) : Int) = 0 from rfl) (show ((0 : Nat) : Int) = 0 from rfl) (show ((2 : Nat) : Int) = 2 from rfl) (show (1 : Int32) = i3 1 from rfl))
                subst e9
                exact zlY hP (show (0 : Int32) = i3 0 from rfl) (.inl rfl) ⟨hZ40I, hZ40K, hZ40U⟩
              · replace hP := zE_n hP h39
                obtain ⟨Z41, hZ41⟩ := zx (zu Z 1 0 0 2 0)
                replace hP := zl_e hP hZ41
                have hZ41I := zM_0 hZ hZ41 (by decide) (Or.inr (by decide))
                have hZ41U : zU [] Z Z41 := zU_u zU_r hZ41 (Or.inl rfl)
                have hZ41K : zC [1, 2, 101, 102, 200] Z Z41 := zC_u zC_r hZ41 (by decide)
                intro μ9 e9
                replace e9 := e9.trans (zm_wI (Z := Z) (ν := ν) hZ41 (show ((0 : Nat) : Int) = 0 from rfl) (show ((0 : Nat) : Int) = 0 from rfl) (show ((2 : Nat) : Int) = 2 from rfl) (show (0 : Int32) = i3 0 from rfl))
                subst e9
                obtain ⟨Z42, hZ42⟩ := zx (zu Z41 1 0 0 2 2)
                replace hP := zl_e hP hZ42
                have hZ42I := zM_u hZ41I hZ42 (lo := -2147483648) (hi := 2147483647) (by decide) rfl (by omega) ⟨by decide, by decide⟩ (Or.inr (by decide)) rfl
                have hZ42U : zU [] Z Z42 := zU_u hZ41U hZ42 (Or.inl rfl)
                have hZ42K : zC [1, 2, 101, 102, 200] Z Z42 := zC_u hZ41K hZ42 (by decide)
                intro μ9 e9
                replace e9 := e9.trans (zm_wI (Z := Z41) (ν := ν) hZ42 (show ((0 : Nat) : Int) = 0 from rfl) (show ((0 : Nat) : Int) = 0 from rfl) (show ((2 : Nat) : Int) = 2 from rfl) (show (2 : Int32) = i3 2 from rfl))
                subst e9
                exact zlY hP (show (0 : Int32) = i3 0 from rfl) (.inl rfl) ⟨hZ42I, hZ42K, hZ42U⟩
      · replace hP := zE_n hP h30
        refine wz_br (i3L (show (99 : Int32) = i3 99 from rfl) (rfl : i3 a4 = i3 a4) (by omega) (by omega) (by omega) (by omega)) (fun h43 => ?_) (fun h43 => ?_)
        · replace hP := zE_p hP h43
          refine wz_br (i3L (rfl : i3 a1 = i3 a1) (show (0 : Int32) = i3 0 from rfl) (by omega) (by omega) (by omega) (by omega)) (fun h44 => ?_) (fun h44 => ?_)
          · replace hP := zE_p hP h44
            obtain ⟨Z45, hZ45⟩ := zx (zu Z 1 0 0 2 1)
            replace hP := zl_e hP hZ45
            have hZ45I := zM_u hZ hZ45 (lo := -2147483648) (hi := 2147483647) (by decide) rfl (by omega) ⟨by decide, by decide⟩ (Or.inr (by decide)) rfl
            have hZ45U : zU [] Z Z45 := zU_u zU_r hZ45 (Or.inl rfl)
            have hZ45K : zC [1, 2, 101, 102, 200] Z Z45 := zC_u zC_r hZ45 (by decide)
            intro μ9 e9
            replace e9 := e9.trans (zm_wI (Z := Z) (ν := ν) hZ45 (show ((0 : Nat) : Int) = 0 from rfl) (show ((0 : Nat) : Int) = 0 from rfl) (show ((2 : Nat) : Int) = 2 from rfl) (show (1 : Int32) = i3 1 from rfl))
            subst e9
            exact zlY hP (show (0 : Int32) = i3 0 from rfl) (.inl rfl) ⟨hZ45I, hZ45K, hZ45U⟩
          · replace hP := zE_n hP h44
            have r46 := zM_k hZ 2 0 0 1400 (lo := 0) (hi := 8) (by decide) rfl
            refine wz_br (i3L (i3S (zm_rd (Z := Z) (ν := ν) (k := 2) (show ((0 : Nat) : Int) = 0 from rfl) (show ((0 : Nat) : Int) = 0 from rfl) (show ((1400 : Nat) : Int) = 1400 from rfl)) (show (1 : Int32) = i3 1 from rfl)) (rfl : i3 a1 = i3 a1) (by omega) (by omega) (by omega) (by omega)) (fun h47 => ?_) (fun h47 => ?_)
            · replace hP := zE_p hP h47
              obtain ⟨Z48, hZ48⟩ := zx (zu Z 1 0 0 2 1)
              replace hP := zl_e hP hZ48
              have hZ48I := zM_u hZ hZ48 (lo := -2147483648) (hi := 2147483647) (by decide) rfl (by omega) ⟨by decide, by decide⟩ (Or.inr (by decide)) rfl
              have hZ48U : zU [] Z Z48 := zU_u zU_r hZ48 (Or.inl rfl)
              have hZ48K : zC [1, 2, 101, 102, 200] Z Z48 := zC_u zC_r hZ48 (by decide)
              intro μ9 e9
              replace e9 := e9.trans (zm_wI (Z := Z) (ν := ν) hZ48 (show ((0 : Nat) : Int) = 0 from rfl) (show ((0 : Nat) : Int) = 0 from rfl) (show ((2 : Nat) : Int) = 2 from rfl) (show (1 : Int32) = i3 1 from rfl))
              subst e9
              exact zlY hP (show (0 : Int32) = i3 0 from rfl) (.inl rfl) ⟨hZ48I, hZ48K, hZ48U⟩
            · replace hP := zE_n hP h47
              refine wz_br (i3L (rfl : i3 a2 = i3 a2) (show (0 : Int32) = i3 0 from rfl) (by omega) (by omega) (by omega) (by omega)) (fun h49 => ?_) (fun h49 => ?_)
              · replace hP := zE_p hP h49
                obtain ⟨Z50, hZ50⟩ := zx (zu Z 1 0 0 2 1)
                replace hP := zl_e hP hZ50
                have hZ50I := zM_u hZ hZ50 (lo := -2147483648) (hi := 2147483647) (by decide) rfl (by omega) ⟨by decide, by decide⟩ (Or.inr (by decide)) rfl
                have hZ50U : zU [] Z Z50 := zU_u zU_r hZ50 (Or.inl rfl)
                have hZ50K : zC [1, 2, 101, 102, 200] Z Z50 := zC_u zC_r hZ50 (by decide)
                intro μ9 e9
                replace e9 := e9.trans (zm_wI (Z := Z) (ν := ν) hZ50 (show ((0 : Nat) : Int) = 0 from rfl) (show ((0 : Nat) : Int) = 0 from rfl) (show ((2 : Nat) : Int) = 2 from rfl) (show (1 : Int32) = i3 1 from rfl))
                subst e9
                exact zlY hP (show (0 : Int32) = i3 0 from rfl) (.inl rfl) ⟨hZ50I, hZ50K, hZ50U⟩
              · replace hP := zE_n hP h49
                have r51 := zM_k hZ 2 0 0 100 (lo := 0) (hi := 5) (by decide) rfl
                refine wz_br (i3L (i3S (zm_rd (Z := Z) (ν := ν) (k := 2) (show ((0 : Nat) : Int) = 0 from rfl) (show ((0 : Nat) : Int) = 0 from rfl) (show ((100 : Nat) : Int) = 100 from rfl)) (show (1 : Int32) = i3 1 from rfl)) (rfl : i3 a2 = i3 a2) (by omega) (by omega) (by omega) (by omega)) (fun h52 => ?_) (fun h52 => ?_)
                · replace hP := zE_p hP h52
                  obtain ⟨Z53, hZ53⟩ := zx (zu Z 1 0 0 2 1)
                  replace hP := zl_e hP hZ53
                  have hZ53I := zM_u hZ hZ53 (lo := -2147483648) (hi := 2147483647) (by decide) rfl (by omega) ⟨by decide, by decide⟩ (Or.inr (by decide)) rfl
                  have hZ53U : zU [] Z Z53 := zU_u zU_r hZ53 (Or.inl rfl)
                  have hZ53K : zC [1, 2, 101, 102, 200] Z Z53 := zC_u zC_r hZ53 (by decide)
                  intro μ9 e9
                  replace e9 := e9.trans (zm_wI (Z := Z) (ν := ν) hZ53 (show ((0 : Nat) : Int) = 0 from rfl) (show ((0 : Nat) : Int) = 0 from rfl) (show ((2 : Nat) : Int) = 2 from rfl) (show (1 : Int32) = i3 1 from rfl))
                  subst e9
                  exact zlY hP (show (0 : Int32) = i3 0 from rfl) (.inl rfl) ⟨hZ53I, hZ53K, hZ53U⟩
                · replace hP := zE_n hP h52
                  obtain ⟨Z54, hZ54⟩ := zx (zu Z 1 0 0 2 0)
                  replace hP := zl_e hP hZ54
                  have hZ54I := zM_0 hZ hZ54 (by decide) (Or.inr (by decide))
                  have hZ54U : zU [] Z Z54 := zU_u zU_r hZ54 (Or.inl rfl)
                  have hZ54K : zC [1, 2, 101, 102, 200] Z Z54 := zC_u zC_r hZ54 (by decide)
                  intro μ9 e9
                  replace e9 := e9.trans (zm_wI (Z := Z) (ν := ν) hZ54 (show ((0 : Nat) : Int) = 0 from rfl) (show ((0 : Nat) : Int) = 0 from rfl) (show ((2 : Nat) : Int) = 2 from rfl) (show (0 : Int32) = i3 0 from rfl))
                  subst e9
                  obtain ⟨Z55, hZ55⟩ := zx (zu Z54 1 0 0 2 2)
                  replace hP := zl_e hP hZ55
                  have hZ55I := zM_u hZ54I hZ55 (lo := -2147483648) (hi := 2147483647) (by decide) rfl (by omega) ⟨by decide, by decide⟩ (Or.inr (by decide)) rfl
                  have hZ55U : zU [] Z Z55 := zU_u hZ54U hZ55 (Or.inl rfl)
                  have hZ55K : zC [1, 2, 101, 102, 200] Z Z55 := zC_u hZ54K hZ55 (by decide)
                  intro μ9 e9
                  replace e9 := e9.trans (zm_wI (Z := Z54) (ν := ν) hZ55 (show ((0 : Nat) : Int) = 0 from rfl) (show ((0 : Nat) : Int) = 0 from rfl) (show ((2 : Nat) : Int) = 2 from rfl) (show (2 : Int32) = i3 2 from rfl))
                  subst e9
                  exact zlY hP (show (0 : Int32) = i3 0 from rfl) (.inl rfl) ⟨hZ55I, hZ55K, hZ55U⟩
        · replace hP := zE_n hP h43
          refine wz_br (i3L (rfl : i3 a5 = i3 a5) (show (1 : Int32) = i3 1 from rfl) (by omega) (by omega) (by omega) (by omega)) (fun h56 => ?_) (fun h56 => ?_)
          · replace hP := zE_p hP h56
            refine wz_br (i3L (rfl : i3 a1 = i3 a1) (show (0 : Int32) = i3 0 from rfl) (by omega) (by omega) (by omega) (by omega)) (fun h57 => ?_) (fun h57 => ?_)
            · replace hP := zE_p hP h57
              obtain ⟨Z58, hZ58⟩ := zx (zu Z 1 0 0 2 1)
              replace hP := zl_e hP hZ58
              have hZ58I := zM_u hZ hZ58 (lo := -2147483648) (hi := 2147483647) (by decide) rfl (by omega) ⟨by decide, by decide⟩ (Or.inr (by decide)) rfl
              have hZ58U : zU [] Z Z58 := zU_u zU_r hZ58 (Or.inl rfl)
              have hZ58K : zC [1, 2, 101, 102, 200] Z Z58 := zC_u zC_r hZ58 (by decide)
              intro μ9 e9
              replace e9 := e9.trans (zm_wI (Z := Z) (ν := ν) hZ58 (show ((0 : Nat) : Int) = 0 from rfl) (show ((0 : Nat) : Int) = 0 from rfl) (show ((2 : Nat) : Int) = 2 from rfl) (show (1 : Int32) = i3 1 from rfl))
              subst e9
              exact zlY hP (show (0 : Int32) = i3 0 from rfl) (.inl rfl) ⟨hZ58I, hZ58K, hZ58U⟩
            · replace hP := zE_n hP h57
              have r59 := zM_k hZ 2 0 0 1400 (lo := 0) (hi := 8) (by decide) rfl
              refine wz_br (i3L (i3S (zm_rd (Z := Z) (ν := ν) (k := 2) (show ((0 : Nat) : Int) = 0 from rfl) (show ((0 : Nat) : Int) = 0 from rfl) (show ((1400 : Nat) : Int) = 1400 from rfl)) (show (1 : Int32) = i3 1 from rfl)) (rfl : i3 a1 = i3 a1) (by omega) (by omega) (by omega) (by omega)) (fun h60 => ?_) (fun h60 => ?_)
              · replace hP := zE_p hP h60
                obtain ⟨Z61, hZ61⟩ := zx (zu Z 1 0 0 2 1)
                replace hP := zl_e hP hZ61
                have hZ61I := zM_u hZ hZ61 (lo := -2147483648) (hi := 2147483647) (by decide) rfl (by omega) ⟨by decide, by decide⟩ (Or.inr (by decide)) rfl
                have hZ61U : zU [] Z Z61 := zU_u zU_r hZ61 (Or.inl rfl)
                have hZ61K : zC [1, 2, 101, 102, 200] Z Z61 := zC_u zC_r hZ61 (by decide)
                intro μ9 e9
                replace e9 := e9.trans (zm_wI (Z := Z) (ν := ν) hZ61 (show ((0 : Nat) : Int) = 0 from rfl) (show ((0 : Nat) : Int) = 0 from rfl) (show ((2 : Nat) : Int) = 2 from rfl) (show (1 : Int32) = i3 1 from rfl))
                subst e9
                exact zlY hP (show (0 : Int32) = i3 0 from rfl) (.inl rfl) ⟨hZ61I, hZ61K, hZ61U⟩
              · replace hP := zE_n hP h60
                refine wz_br (i3L (rfl : i3 a2 = i3 a2) (show (0 : Int32) = i3 0 from rfl) (by omega) (by omega) (by omega) (by omega)) (fun h62 => ?_) (fun h62 => ?_)
                · replace hP := zE_p hP h62
                  obtain ⟨Z63, hZ63⟩ := zx (zu Z 1 0 0 2 1)
                  replace hP := zl_e hP hZ63
                  have hZ63I := zM_u hZ hZ63 (lo := -2147483648) (hi := 2147483647) (by decide) rfl (by omega) ⟨by decide, by decide⟩ (Or.inr (by decide)) rfl
                  have hZ63U : zU [] Z Z63 := zU_u zU_r hZ63 (Or.inl rfl)
                  have hZ63K : zC [1, 2, 101, 102, 200] Z Z63 := zC_u zC_r hZ63 (by decide)
                  intro μ9 e9
                  replace e9 := e9.trans (zm_wI (Z := Z) (ν := ν) hZ63 (show ((0 : Nat) : Int) = 0 from rfl) (show ((0 : Nat) : Int) = 0 from rfl) (show ((2 : Nat) : Int) = 2 from rfl) (show (1 : Int32) = i3 1 from rfl))
                  subst e9
                  exact zlY hP (show (0 : Int32) = i3 0 from rfl) (.inl rfl) ⟨hZ63I, hZ63K, hZ63U⟩
                · replace hP := zE_n hP h62
                  have r64 := zM_k hZ 2 0 0 100 (lo := 0) (hi := 5) (by decide) rfl
                  refine wz_br (i3L (i3S (zm_rd (Z := Z) (ν := ν) (k := 2) (show ((0 : Nat) : Int) = 0 from rfl) (show ((0 : Nat) : Int) = 0 from rfl) (show ((100 : Nat) : Int) = 100 from rfl)) (show (1 : Int32) = i3 1 from rfl)) (rfl : i3 a2 = i3 a2) (by omega) (by omega) (by omega) (by omega)) (fun h65 => ?_) (fun h65 => ?_)
                  · replace hP := zE_p hP h65
                    obtain ⟨Z66, hZ66⟩ := zx (zu Z 1 0 0 2 1)
                    replace hP := zl_e hP hZ66
                    have hZ66I := zM_u hZ hZ66 (lo := -2147483648) (hi := 2147483647) (by decide) rfl (by omega) ⟨by decide, by decide⟩ (Or.inr (by decide)) rfl
                    have hZ66U : zU [] Z Z66 := zU_u zU_r hZ66 (Or.inl rfl)
                    have hZ66K : zC [1, 2, 101, 102, 200] Z Z66 := zC_u zC_r hZ66 (by decide)
                    intro μ9 e9
                    replace e9 := e9.trans (zm_wI (Z := Z) (ν := ν) hZ66 (show ((0 : Nat) : Int) = 0 from rfl) (show ((0 : Nat) : Int) = 0 from rfl) (show ((2 : Nat) : Int) = 2 from rfl) (show (1 : Int32) = i3 1 from rfl))
                    subst e9
                    exact zlY hP (show (0 : Int32) = i3 0 from rfl) (.inl rfl) ⟨hZ66I, hZ66K, hZ66U⟩
                  · replace hP := zE_n hP h65
                    obtain ⟨Z67, hZ67⟩ := zx (zu Z 1 0 0 2 0)
                    replace hP := zl_e hP hZ67
                    have hZ67I := zM_0 hZ hZ67 (by decide) (Or.inr (by decide))
                    have hZ67U : zU [] Z Z67 := zU_u zU_r hZ67 (Or.inl rfl)
                    have hZ67K : zC [1, 2, 101, 102, 200] Z Z67 := zC_u zC_r hZ67 (by decide)
                    intro μ9 e9
                    replace e9 := e9.trans (zm_wI (Z := Z) (ν := ν) hZ67 (show ((0 : Nat) : Int) = 0 from rfl) (show ((0 : Nat) : Int) = 0 from rfl) (show ((2 : Nat) : Int) = 2 from rfl) (show (0 : Int32) = i3 0 from rfl))
                    subst e9
                    obtain ⟨Z68, hZ68⟩ := zx (zu Z67 1 0 0 2 2)
                    replace hP := zl_e hP hZ68
                    have hZ68I := zM_u hZ67I hZ68 (lo := -2147483648) (hi := 2147483647) (by decide) rfl (by omega) ⟨by decide, by decide⟩ (Or.inr (by decide)) rfl
                    have hZ68U : zU [] Z Z68 := zU_u hZ67U hZ68 (Or.inl rfl)
                    have hZ68K : zC [1, 2, 101, 102, 200] Z Z68 := zC_u hZ67K hZ68 (by decide)
                    intro μ9 e9
                    replace e9 := e9.trans (zm_wI (Z := Z67) (ν := ν) hZ68 (show ((0 : Nat) : Int) = 0 from rfl) (show ((0 : Nat) : Int) = 0 from rfl) (show ((2 : Nat) : Int) = 2 from rfl) (show (2 : Int32) = i3 2 from rfl))
                    subst e9
                    exact zlY hP (show (0 : Int32) = i3 0 from rfl) (.inl rfl) ⟨hZ68I, hZ68K, hZ68U⟩
          · replace hP := zE_n hP h56
            refine wz_br (i3L (show (9999 : Int32) = i3 9999 from rfl) (rfl : i3 a5 = i3 a5) (by omega) (by omega) (by omega) (by omega)) (fun h69 => ?_) (fun h69 => ?_)
            · replace hP := zE_p hP h69
              refine wz_br (i3L (rfl : i3 a1 = i3 a1) (show (0 : Int32) = i3 0 from rfl) (by omega) (by omega) (by omega) (by omega)) (fun h70 => ?_) (fun h70 => ?_)
              · replace hP := zE_p hP h70
                obtain ⟨Z71, hZ71⟩ := zx (zu Z 1 0 0 2 1)
                replace hP := zl_e hP hZ71
                have hZ71I := zM_u hZ hZ71 (lo := -2147483648) (hi := 2147483647) (by decide) rfl (by omega) ⟨by decide, by decide⟩ (Or.inr (by decide)) rfl
                have hZ71U : zU [] Z Z71 := zU_u zU_r hZ71 (Or.inl rfl)
                have hZ71K : zC [1, 2, 101, 102, 200] Z Z71 := zC_u zC_r hZ71 (by decide)
                intro μ9 e9
                replace e9 := e9.trans (zm_wI (Z := Z) (ν := ν) hZ71 (show ((0 : Nat) : Int) = 0 from rfl) (show ((0 : Nat) : Int) = 0 from rfl) (show ((2 : Nat) : Int) = 2 from rfl) (show (1 : Int32) = i3 1 from rfl))
                subst e9
                exact zlY hP (show (0 : Int32) = i3 0 from rfl) (.inl rfl) ⟨hZ71I, hZ71K, hZ71U⟩
              · replace hP := zE_n hP h70
                have r72 := zM_k hZ 2 0 0 1400 (lo := 0) (hi := 8) (by decide) rfl
                refine wz_br (i3L (i3S (zm_rd (Z := Z) (ν := ν) (k := 2) (show ((0 : Nat) : Int) = 0 from rfl) (show ((0 : Nat) : Int) = 0 from rfl) (show ((1400 : Nat) : Int) = 1400 from rfl)) (show (1 : Int32) = i3 1 from rfl)) (rfl : i3 a1 = i3 a1) (by omega) (by omega) (by omega) (by omega)) (fun h73 => ?_) (fun h73 => ?_)
                · replace hP := zE_p hP h73
                  obtain ⟨Z74, hZ74⟩ := zx (zu Z 1 0 0 2 1)
                  replace hP := zl_e hP hZ74
                  have hZ74I := zM_u hZ hZ74 (lo := -2147483648) (hi := 2147483647) (by decide) rfl (by omega) ⟨by decide, by decide⟩ (Or.inr (by decide)) rfl
                  have hZ74U : zU [] Z Z74 := zU_u zU_r hZ74 (Or.inl rfl)
                  have hZ74K : zC [1, 2, 101, 102, 200] Z Z74 := zC_u zC_r hZ74 (by decide)
                  intro μ9 e9
                  replace e9 := e9.trans (zm_wI (Z := Z) (ν := ν) hZ74 (show ((0 : Nat) : Int) = 0 from rfl) (show ((0 : Nat) : Int) = 0 from rfl) (show ((2 : Nat) : Int) = 2 from rfl) (show (1 : Int32) = i3 1 from rfl))
                  subst e9
                  exact zlY hP (show (0 : Int32) = i3 0 from rfl) (.inl rfl) ⟨hZ74I, hZ74K, hZ74U⟩
                · replace hP := zE_n hP h73
                  refine wz_br (i3L (rfl : i3 a2 = i3 a2) (show (0 : Int32) = i3 0 from rfl) (by omega) (by omega) (by omega) (by omega)) (fun h75 => ?_) (fun h75 => ?_)
                  · replace hP := zE_p hP h75
                    obtain ⟨Z76, hZ76⟩ := zx (zu Z 1 0 0 2 1)
                    replace hP := zl_e hP hZ76
                    have hZ76I := zM_u hZ hZ76 (lo := -2147483648) (hi := 2147483647) (by decide) rfl (by omega) ⟨by decide, by decide⟩ (Or.inr (by decide)) rfl
                    have hZ76U : zU [] Z Z76 := zU_u zU_r hZ76 (Or.inl rfl)
                    have hZ76K : zC [1, 2, 101, 102, 200] Z Z76 := zC_u zC_r hZ76 (by decide)
                    intro μ9 e9
                    replace e9 := e9.trans (zm_wI (Z := Z) (ν := ν) hZ76 (show ((0 : Nat) : Int) = 0 from rfl) (show ((0 : Nat) : Int) = 0 from rfl) (show ((2 : Nat) : Int) = 2 from rfl) (show (1 : Int32) = i3 1 from rfl))
                    subst e9
                    exact zlY hP (show (0 : Int32) = i3 0 from rfl) (.inl rfl) ⟨hZ76I, hZ76K, hZ76U⟩
                  · replace hP := zE_n hP h75
                    have r77 := zM_k hZ 2 0 0 100 (lo := 0) (hi := 5) (by decide) rfl
                    refine wz_br (i3L (i3S (zm_rd (Z := Z) (ν := ν) (k := 2) (show ((0 : Nat) : Int) = 0 from rfl) (show ((0 : Nat) : Int) = 0 from rfl) (show ((100 : Nat) : Int) = 100 from rfl)) (show (1 : Int32) = i3 1 from rfl)) (rfl : i3 a2 = i3 a2) (by omega) (by omega) (by omega) (by omega)) (fun h78 => ?_) (fun h78 => ?_)
                    · replace hP := zE_p hP h78
                      obtain ⟨Z79, hZ79⟩ := zx (zu Z 1 0 0 2 1)
                      replace hP := zl_e hP hZ79
                      have hZ79I := zM_u hZ hZ79 (lo := -2147483648) (hi := 2147483647) (by decide) rfl (by omega) ⟨by decide, by decide⟩ (Or.inr (by decide)) rfl
                      have hZ79U : zU [] Z Z79 := zU_u zU_r hZ79 (Or.inl rfl)
                      have hZ79K : zC [1, 2, 101, 102, 200] Z Z79 := zC_u zC_r hZ79 (by decide)
                      intro μ9 e9
                      replace e9 := e9.trans (zm_wI (Z := Z) (ν := ν) hZ79 (show ((0 : Nat) : Int) = 0 from rfl) (show ((0 : Nat) : Int) = 0 from rfl) (show ((2 : Nat) : Int) = 2 from rfl) (show (1 : Int32) = i3 1 from rfl))
                      subst e9
                      exact zlY hP (show (0 : Int32) = i3 0 from rfl) (.inl rfl) ⟨hZ79I, hZ79K, hZ79U⟩
                    · replace hP := zE_n hP h78
                      obtain ⟨Z80, hZ80⟩ := zx (zu Z 1 0 0 2 0)
                      replace hP := zl_e hP hZ80
                      have hZ80I := zM_0 hZ hZ80 (by decide) (Or.inr (by decide))
                      have hZ80U : zU [] Z Z80 := zU_u zU_r hZ80 (Or.inl rfl)
                      have hZ80K : zC [1, 2, 101, 102, 200] Z Z80 := zC_u zC_r hZ80 (by decide)
                      intro μ9 e9
                      replace e9 := e9.trans (zm_wI (Z := Z) (ν := ν) hZ80 (show ((0 : Nat) : Int) = 0 from rfl) (show ((0 : Nat) : Int) = 0 from rfl) (show ((2 : Nat) : Int) = 2 from rfl) (show (0 : Int32) = i3 0 from rfl))
                      subst e9
                      obtain ⟨Z81, hZ81⟩ := zx (zu Z80 1 0 0 2 2)
                      replace hP := zl_e hP hZ81
                      have hZ81I := zM_u hZ80I hZ81 (lo := -2147483648) (hi := 2147483647) (by decide) rfl (by omega) ⟨by decide, by decide⟩ (Or.inr (by decide)) rfl
                      have hZ81U : zU [] Z Z81 := zU_u hZ80U hZ81 (Or.inl rfl)
                      have hZ81K : zC [1, 2, 101, 102, 200] Z Z81 := zC_u hZ80K hZ81 (by decide)
                      intro μ9 e9
                      replace e9 := e9.trans (zm_wI (Z := Z80) (ν := ν) hZ81 (show ((0 : Nat) : Int) = 0 from rfl) (show ((0 : Nat) : Int) = 0 from rfl) (show ((2 : Nat) : Int) = 2 from rfl) (show (2 : Int32) = i3 2 from rfl))
                      subst e9
                      exact zlY hP (show (0 : Int32) = i3 0 from rfl) (.inl rfl) ⟨hZ81I, hZ81K, hZ81U⟩
            · replace hP := zE_n hP h69
              refine wz_br (i3L (rfl : i3 a6 = i3 a6) (show (1 : Int32) = i3 1 from rfl) (by omega) (by omega) (by omega) (by omega)) (fun h82 => ?_) (fun h82 => ?_)
              · replace hP := zE_p hP h82
                refine wz_br (i3L (rfl : i3 a1 = i3 a1) (show (0 : Int32) = i3 0 from rfl) (by omega) (by omega) (by omega) (by omega)) (fun h83 => ?_) (fun h83 => ?_)
                · replace hP := zE_p hP h83
                  obtain ⟨Z84, hZ84⟩ := zx (zu Z 1 0 0 2 1)
                  replace hP := zl_e hP hZ84
                  have hZ84I := zM_u hZ hZ84 (lo := -2147483648) (hi := 2147483647) (by decide) rfl (by omega) ⟨by decide, by decide⟩ (Or.inr (by decide)) rfl
                  have hZ84U : zU [] Z Z84 := zU_u zU_r hZ84 (Or.inl rfl)
                  have hZ84K : zC [1, 2, 101, 102, 200] Z Z84 := zC_u zC_r hZ84 (by decide)
                  intro μ9 e9
                  replace e9 := e9.trans (zm_wI (Z := Z) (ν := ν) hZ84 (show ((0 : Nat) : Int) = 0 from rfl) (show ((0 : Nat) : Int) = 0 from rfl) (show ((2 : Nat) : Int) = 2 from rfl) (show (1 : Int32) = i3 1 from rfl))
                  subst e9
                  exact zlY hP (show (0 : Int32) = i3 0 from rfl) (.inl rfl) ⟨hZ84I, hZ84K, hZ84U⟩
                · replace hP := zE_n hP h83
                  have r85 := zM_k hZ 2 0 0 1400 (lo := 0) (hi := 8) (by decide) rfl
                  refine wz_br (i3L (i3S (zm_rd (Z := Z) (ν := ν) (k := 2) (show ((0 : Nat) : Int) = 0 from rfl) (show ((0 : Nat) : Int) = 0 from rfl) (show ((1400 : Nat) : Int) = 1400 from rfl)) (show (1 : Int32) = i3 1 from rfl)) (rfl : i3 a1 = i3 a1) (by omega) (by omega) (by omega) (by omega)) (fun h86 => ?_) (fun h86 => ?_)
                  · replace hP := zE_p hP h86
                    obtain ⟨Z87, hZ87⟩ := zx (zu Z 1 0 0 2 1)
                    replace hP := zl_e hP hZ87
                    have hZ87I := zM_u hZ hZ87 (lo := -2147483648) (hi := 2147483647) (by decide) rfl (by omega) ⟨by decide, by decide⟩ (Or.inr (by decide)) rfl
                    have hZ87U : zU [] Z Z87 := zU_u zU_r hZ87 (Or.inl rfl)
                    have hZ87K : zC [1, 2, 101, 102, 200] Z Z87 := zC_u zC_r hZ87 (by decide)
                    intro μ9 e9
                    replace e9 := e9.trans (zm_wI (Z := Z) (ν := ν) hZ87 (show ((0 : Nat) : Int) = 0 from rfl) (show ((0 : Nat) : Int) = 0 from rfl) (show ((2 : Nat) : Int) = 2 from rfl) (show (1 : Int32) = i3 1 from rfl))
                    subst e9
                    exact zlY hP (show (0 : Int32) = i3 0 from rfl) (.inl rfl) ⟨hZ87I, hZ87K, hZ87U⟩
                  · replace hP := zE_n hP h86
                    refine wz_br (i3L (rfl : i3 a2 = i3 a2) (show (0 : Int32) = i3 0 from rfl) (by omega) (by omega) (by omega) (by omega)) (fun h88 => ?_) (fun h88 => ?_)
                    · replace hP := zE_p hP h88
                      obtain ⟨Z89, hZ89⟩ := zx (zu Z 1 0 0 2 1)
                      replace hP := zl_e hP hZ89
                      have hZ89I := zM_u hZ hZ89 (lo := -2147483648) (hi := 2147483647) (by decide) rfl (by omega) ⟨by decide, by decide⟩ (Or.inr (by decide)) rfl
                      have hZ89U : zU [] Z Z89 := zU_u zU_r hZ89 (Or.inl rfl)
                      have hZ89K : zC [1, 2, 101, 102, 200] Z Z89 := zC_u zC_r hZ89 (by decide)
                      intro μ9 e9
                      replace e9 := e9.trans (zm_wI (Z := Z) (ν := ν) hZ89 (show ((0 : Nat) : Int) = 0 from rfl) (show ((0 : Nat) : Int) = 0 from rfl) (show ((2 : Nat) : Int) = 2 from rfl) (show (1 : Int32) = i3 1 from rfl))
                      subst e9
                      exact zlY hP (show (0 : Int32) = i3 0 from rfl) (.inl rfl) ⟨hZ89I, hZ89K, hZ89U⟩
                    · replace hP := zE_n hP h88
                      have r90 := zM_k hZ 2 0 0 100 (lo := 0) (hi := 5) (by decide) rfl
                      refine wz_br (i3L (i3S (zm_rd (Z := Z) (ν := ν) (k := 2) (show ((0 : Nat) : Int) = 0 from rfl) (show ((0 : Nat) : Int) = 0 from rfl) (show ((100 : Nat) : Int) = 100 from rfl)) (show (1 : Int32) = i3 1 from rfl)) (rfl : i3 a2 = i3 a2) (by omega) (by omega) (by omega) (by omega)) (fun h91 => ?_) (fun h91 => ?_)
                      · replace hP := zE_p hP h91
                        obtain ⟨Z92, hZ92⟩ := zx (zu Z 1 0 0 2 1)
                        replace hP := zl_e hP hZ92
                        have hZ92I := zM_u hZ hZ92 (lo := -2147483648) (hi := 2147483647) (by decide) rfl (by omega) ⟨by decide, by decide⟩ (Or.inr (by decide)) rfl
                        have hZ92U : zU [] Z Z92 := zU_u zU_r hZ92 (Or.inl rfl)
                        have hZ92K : zC [1, 2, 101, 102, 200] Z Z92 := zC_u zC_r hZ92 (by decide)
                        intro μ9 e9
                        replace e9 := e9.trans (zm_wI (Z := Z) (ν := ν) hZ92 (show ((0 : Nat) : Int) = 0 from rfl) (show ((0 : Nat) : Int) = 0 from rfl) (show ((2 : Nat) : Int) = 2 from rfl) (show (1 : Int32) = i3 1 from rfl))
                        subst e9
                        exact zlY hP (show (0 : Int32) = i3 0 from rfl) (.inl rfl) ⟨hZ92I, hZ92K, hZ92U⟩
                      · replace hP := zE_n hP h91
                        obtain ⟨Z93, hZ93⟩ := zx (zu Z 1 0 0 2 0)
                        replace hP := zl_e hP hZ93
                        have hZ93I := zM_0 hZ hZ93 (by decide) (Or.inr (by decide))
                        have hZ93U : zU [] Z Z93 := zU_u zU_r hZ93 (Or.inl rfl)
                        have hZ93K : zC [1, 2, 101, 102, 200] Z Z93 := zC_u zC_r hZ93 (by decide)
                        intro μ9 e9
                        replace e9 := e9.trans (zm_wI (Z := Z) (ν := ν) hZ93 (show ((0 : Nat) : Int) = 0 from rfl) (show ((0 : Nat) : Int) = 0 from rfl) (show ((2 : Nat) : Int) = 2 from rfl) (show (0 : Int32) = i3 0 from rfl))
                        subst e9
                        obtain ⟨Z94, hZ94⟩ := zx (zu Z93 1 0 0 2 2)
                        replace hP := zl_e hP hZ94
                        have hZ94I := zM_u hZ93I hZ94 (lo := -2147483648) (hi := 2147483647) (by decide) rfl (by omega) ⟨by decide, by decide⟩ (Or.inr (by decide)) rfl
                        have hZ94U : zU [] Z Z94 := zU_u hZ93U hZ94 (Or.inl rfl)
                        have hZ94K : zC [1, 2, 101, 102, 200] Z Z94 := zC_u hZ93K hZ94 (by decide)
                        intro μ9 e9
                        replace e9 := e9.trans (zm_wI (Z := Z93) (ν := ν) hZ94 (show ((0 : Nat) : Int) = 0 from rfl) (show ((0 : Nat) : Int) = 0 from rfl) (show ((2 : Nat) : Int) = 2 from rfl) (show (2 : Int32) = i3 2 from rfl))
                        subst e9
                        exact zlY hP (show (0 : Int32) = i3 0 from rfl) (.inl rfl) ⟨hZ94I, hZ94K, hZ94U⟩
              · replace hP := zE_n hP h82
                refine wz_br (i3L (show (127 : Int32) = i3 127 from rfl) (rfl : i3 a6 = i3 a6) (by omega) (by omega) (by omega) (by omega)) (fun h95 => ?_) (fun h95 => ?_)
                · replace hP := zE_p hP h95
                  refine wz_br (i3L (rfl : i3 a1 = i3 a1) (show (0 : Int32) = i3 0 from rfl) (by omega) (by omega) (by omega) (by omega)) (fun h96 => ?_) (fun h96 => ?_)
                  · replace hP := zE_p hP h96
                    obtain ⟨Z97, hZ97⟩ := zx (zu Z 1 0 0 2 1)
                    replace hP := zl_e hP hZ97
                    have hZ97I := zM_u hZ hZ97 (lo := -2147483648) (hi := 2147483647) (by decide) rfl (by omega) ⟨by decide, by decide⟩ (Or.inr (by decide)) rfl
                    have hZ97U : zU [] Z Z97 := zU_u zU_r hZ97 (Or.inl rfl)
                    have hZ97K : zC [1, 2, 101, 102, 200] Z Z97 := zC_u zC_r hZ97 (by decide)
                    intro μ9 e9
                    replace e9 := e9.trans (zm_wI (Z := Z) (ν := ν) hZ97 (show ((0 : Nat) : Int) = 0 from rfl) (show ((0 : Nat) : Int) = 0 from rfl) (show ((2 : Nat) : Int) = 2 from rfl) (show (1 : Int32) = i3 1 from rfl))
                    subst e9
                    exact zlY hP (show (0 : Int32) = i3 0 from rfl) (.inl rfl) ⟨hZ97I, hZ97K, hZ97U⟩
                  · replace hP := zE_n hP h96
                    have r98 := zM_k hZ 2 0 0 1400 (lo := 0) (hi := 8) (by decide) rfl
                    refine wz_br (i3L (i3S (zm_rd (Z := Z) (ν := ν) (k := 2) (show ((0 : Nat) : Int) = 0 from rfl) (show ((0 : Nat) : Int) = 0 from rfl) (show ((1400 : Nat) : Int) = 1400 from rfl)) (show (1 : Int32) = i3 1 from rfl)) (rfl : i3 a1 = i3 a1) (by omega) (by omega) (by omega) (by omega)) (fun h99 => ?_) (fun h99 => ?_)
                    · replace hP := zE_p hP h99
                      obtain ⟨Z100, hZ100⟩ := zx (zu Z 1 0 0 2 1)
                      replace hP := zl_e hP hZ100
                      have hZ100I := zM_u hZ hZ100 (lo := -2147483648) (hi := 2147483647) (by decide) rfl (by omega) ⟨by decide, by decide⟩ (Or.inr (by decide)) rfl
                      have hZ100U : zU [] Z Z100 := zU_u zU_r hZ100 (Or.inl rfl)
                      have hZ100K : zC [1, 2, 101, 102, 200] Z Z100 := zC_u zC_r hZ100 (by decide)
                      intro μ9 e9
                      replace e9 := e9.trans (zm_wI (Z := Z) (ν := ν) hZ100 (show ((0 : Nat) : Int) = 0 from rfl) (show ((0 : Nat) : Int) = 0 from rfl) (show ((2 : Nat) : Int) = 2 from rfl) (show (1 : Int32) = i3 1 from rfl))
                      subst e9
                      exact zlY hP (show (0 : Int32) = i3 0 from rfl) (.inl rfl) ⟨hZ100I, hZ100K, hZ100U⟩
                    · replace hP := zE_n hP h99
                      refine wz_br (i3L (rfl : i3 a2 = i3 a2) (show (0 : Int32) = i3 0 from rfl) (by omega) (by omega) (by omega) (by omega)) (fun h101 => ?_) (fun h101 => ?_)
                      · replace hP := zE_p hP h101
                        obtain ⟨Z102, hZ102⟩ := zx (zu Z 1 0 0 2 1)
                        replace hP := zl_e hP hZ102
                        have hZ102I := zM_u hZ hZ102 (lo := -2147483648) (hi := 2147483647) (by decide) rfl (by omega) ⟨by decide, by decide⟩ (Or.inr (by decide)) rfl
                        have hZ102U : zU [] Z Z102 := zU_u zU_r hZ102 (Or.inl rfl)
                        have hZ102K : zC [1, 2, 101, 102, 200] Z Z102 := zC_u zC_r hZ102 (by decide)
                        intro μ9 e9
                        replace e9 := e9.trans (zm_wI (Z := Z) (ν := ν) hZ102 (show ((0 : Nat) : Int) = 0 from rfl) (show ((0 : Nat) : Int) = 0 from rfl) (show ((2 : Nat) : Int) = 2 from rfl) (show (1 : Int32) = i3 1 from rfl))
                        subst e9
                        exact zlY hP (show (0 : Int32) = i3 0 from rfl) (.inl rfl) ⟨hZ102I, hZ102K, hZ102U⟩
                      · replace hP := zE_n hP h101
                        have r103 := zM_k hZ 2 0 0 100 (lo := 0) (hi := 5) (by decide) rfl
                        refine wz_br (i3L (i3S (zm_rd (Z := Z) (ν := ν) (k := 2) (show ((0 : Nat) : Int) = 0 from rfl) (show ((0 : Nat) : Int) = 0 from rfl) (show ((100 : Nat) : Int) = 100 from rfl)) (show (1 : Int32) = i3 1 from rfl)) (rfl : i3 a2 = i3 a2) (by omega) (by omega) (by omega) (by omega)) (fun h104 => ?_) (fun h104 => ?_)
                        · replace hP := zE_p hP h104
                          obtain ⟨Z105, hZ105⟩ := zx (zu Z 1 0 0 2 1)
                          replace hP := zl_e hP hZ105
                          have hZ105I := zM_u hZ hZ105 (lo := -2147483648) (hi := 2147483647) (by decide) rfl (by omega) ⟨by decide, by decide⟩ (Or.inr (by decide)) rfl
                          have hZ105U : zU [] Z Z105 := zU_u zU_r hZ105 (Or.inl rfl)
                          have hZ105K : zC [1, 2, 101, 102, 200] Z Z105 := zC_u zC_r hZ105 (by decide)
                          intro μ9 e9
                          replace e9 := e9.trans (zm_wI (Z := Z) (ν := ν) hZ105 (show ((0 : Nat) : Int) = 0 from rfl) (show ((0 : Nat) : Int) = 0 from rfl) (show ((2 : Nat) : Int) = 2 from rfl) (show (1 : Int32) = i3 1 from rfl))
                          subst e9
                          exact zlY hP (show (0 : Int32) = i3 0 from rfl) (.inl rfl) ⟨hZ105I, hZ105K, hZ105U⟩
                        · replace hP := zE_n hP h104
                          obtain ⟨Z106, hZ106⟩ := zx (zu Z 1 0 0 2 0)
                          replace hP := zl_e hP hZ106
                          have hZ106I := zM_0 hZ hZ106 (by decide) (Or.inr (by decide))
                          have hZ106U : zU [] Z Z106 := zU_u zU_r hZ106 (Or.inl rfl)
                          have hZ106K : zC [1, 2, 101, 102, 200] Z Z106 := zC_u zC_r hZ106 (by decide)
                          intro μ9 e9
                          replace e9 := e9.trans (zm_wI (Z := Z) (ν := ν) hZ106 (show ((0 : Nat) : Int) = 0 from rfl) (show ((0 : Nat) : Int) = 0 from rfl) (show ((2 : Nat) : Int) = 2 from rfl) (show (0 : Int32) = i3 0 from rfl))
                          subst e9
                          obtain ⟨Z107, hZ107⟩ := zx (zu Z106 1 0 0 2 2)
                          replace hP := zl_e hP hZ107
                          have hZ107I := zM_u hZ106I hZ107 (lo := -2147483648) (hi := 2147483647) (by decide) rfl (by omega) ⟨by decide, by decide⟩ (Or.inr (by decide)) rfl
                          have hZ107U : zU [] Z Z107 := zU_u hZ106U hZ107 (Or.inl rfl)
                          have hZ107K : zC [1, 2, 101, 102, 200] Z Z107 := zC_u hZ106K hZ107 (by decide)
                          intro μ9 e9
                          replace e9 := e9.trans (zm_wI (Z := Z106) (ν := ν) hZ107 (show ((0 : Nat) : Int) = 0 from rfl) (show ((0 : Nat) : Int) = 0 from rfl) (show ((2 : Nat) : Int) = 2 from rfl) (show (2 : Int32) = i3 2 from rfl))
                          subst e9
                          exact zlY hP (show (0 : Int32) = i3 0 from rfl) (.inl rfl) ⟨hZ107I, hZ107K, hZ107U⟩
                · replace hP := zE_n hP h95
                  refine wz_br (i3L (rfl : i3 a1 = i3 a1) (show (0 : Int32) = i3 0 from rfl) (by omega) (by omega) (by omega) (by omega)) (fun h108 => ?_) (fun h108 => ?_)
                  · replace hP := zE_p hP h108
                    obtain ⟨Z109, hZ109⟩ := zx (zu Z 1 0 0 2 1)
                    replace hP := zl_e hP hZ109
                    have hZ109I := zM_u hZ hZ109 (lo := -2147483648) (hi := 2147483647) (by decide) rfl (by omega) ⟨by decide, by decide⟩ (Or.inr (by decide)) rfl
                    have hZ109U : zU [] Z Z109 := zU_u zU_r hZ109 (Or.inl rfl)
                    have hZ109K : zC [1, 2, 101, 102, 200] Z Z109 := zC_u zC_r hZ109 (by decide)
                    intro μ9 e9
                    replace e9 := e9.trans (zm_wI (Z := Z) (ν := ν) hZ109 (show ((0 : Nat) : Int) = 0 from rfl) (show ((0 : Nat) : Int) = 0 from rfl) (show ((2 : Nat) : Int) = 2 from rfl) (show (1 : Int32) = i3 1 from rfl))
                    subst e9
                    exact zlY hP (show (0 : Int32) = i3 0 from rfl) (.inl rfl) ⟨hZ109I, hZ109K, hZ109U⟩
                  · replace hP := zE_n hP h108
                    have r110 := zM_k hZ 2 0 0 1400 (lo := 0) (hi := 8) (by decide) rfl
                    refine wz_br (i3L (i3S (zm_rd (Z := Z) (ν := ν) (k := 2) (show ((0 : Nat) : Int) = 0 from rfl) (show ((0 : Nat) : Int) = 0 from rfl) (show ((1400 : Nat) : Int) = 1400 from rfl)) (show (1 : Int32) = i3 1 from rfl)) (rfl : i3 a1 = i3 a1) (by omega) (by omega) (by omega) (by omega)) (fun h111 => ?_) (fun h111 => ?_)
                    · replace hP := zE_p hP h111
                      obtain ⟨Z112, hZ112⟩ := zx (zu Z 1 0 0 2 1)
                      replace hP := zl_e hP hZ112
                      have hZ112I := zM_u hZ hZ112 (lo := -2147483648) (hi := 2147483647) (by decide) rfl (by omega) ⟨by decide, by decide⟩ (Or.inr (by decide)) rfl
                      have hZ112U : zU [] Z Z112 := zU_u zU_r hZ112 (Or.inl rfl)
                      have hZ112K : zC [1, 2, 101, 102, 200] Z Z112 := zC_u zC_r hZ112 (by decide)
                      intro μ9 e9
                      replace e9 := e9.trans (zm_wI (Z := Z) (ν := ν) hZ112 (show ((0 : Nat) : Int) = 0 from rfl) (show ((0 : Nat) : Int) = 0 from rfl) (show ((2 : Nat) : Int) = 2 from rfl) (show (1 : Int32) = i3 1 from rfl))
                      subst e9
                      exact zlY hP (show (0 : Int32) = i3 0 from rfl) (.inl rfl) ⟨hZ112I, hZ112K, hZ112U⟩
                    · replace hP := zE_n hP h111
                      refine wz_br (i3L (rfl : i3 a2 = i3 a2) (show (0 : Int32) = i3 0 from rfl) (by omega) (by omega) (by omega) (by omega)) (fun h113 => ?_) (fun h113 => ?_)
                      · replace hP := zE_p hP h113
                        obtain ⟨Z114, hZ114⟩ := zx (zu Z 1 0 0 2 1)
                        replace hP := zl_e hP hZ114
                        have hZ114I := zM_u hZ hZ114 (lo := -2147483648) (hi := 2147483647) (by decide) rfl (by omega) ⟨by decide, by decide⟩ (Or.inr (by decide)) rfl
                        have hZ114U : zU [] Z Z114 := zU_u zU_r hZ114 (Or.inl rfl)
                        have hZ114K : zC [1, 2, 101, 102, 200] Z Z114 := zC_u zC_r hZ114 (by decide)
                        intro μ9 e9
                        replace e9 := e9.trans (zm_wI (Z := Z) (ν := ν) hZ114 (show ((0 : Nat) : Int) = 0 from rfl) (show ((0 : Nat) : Int) = 0 from rfl) (show ((2 : Nat) : Int) = 2 from rfl) (show (1 : Int32) = i3 1 from rfl))
                        subst e9
                        exact zlY hP (show (0 : Int32) = i3 0 from rfl) (.inl rfl) ⟨hZ114I, hZ114K, hZ114U⟩
                      · replace hP := zE_n hP h113
                        have r115 := zM_k hZ 2 0 0 100 (lo := 0) (hi := 5) (by decide) rfl
                        refine wz_br (i3L (i3S (zm_rd (Z := Z) (ν := ν) (k := 2) (show ((0 : Nat) : Int) = 0 from rfl) (show ((0 : Nat) : Int) = 0 from rfl) (show ((100 : Nat) : Int) = 100 from rfl)) (show (1 : Int32) = i3 1 from rfl)) (rfl : i3 a2 = i3 a2) (by omega) (by omega) (by omega) (by omega)) (fun h116 => ?_) (fun h116 => ?_)
                        · replace hP := zE_p hP h116
                          obtain ⟨Z117, hZ117⟩ := zx (zu Z 1 0 0 2 1)
                          replace hP := zl_e hP hZ117
                          have hZ117I := zM_u hZ hZ117 (lo := -2147483648) (hi := 2147483647) (by decide) rfl (by omega) ⟨by decide, by decide⟩ (Or.inr (by decide)) rfl
                          have hZ117U : zU [] Z Z117 := zU_u zU_r hZ117 (Or.inl rfl)
                          have hZ117K : zC [1, 2, 101, 102, 200] Z Z117 := zC_u zC_r hZ117 (by decide)
                          intro μ9 e9
                          replace e9 := e9.trans (zm_wI (Z := Z) (ν := ν) hZ117 (show ((0 : Nat) : Int) = 0 from rfl) (show ((0 : Nat) : Int) = 0 from rfl) (show ((2 : Nat) : Int) = 2 from rfl) (show (1 : Int32) = i3 1 from rfl))
                          subst e9
                          exact zlY hP (show (0 : Int32) = i3 0 from rfl) (.inl rfl) ⟨hZ117I, hZ117K, hZ117U⟩
                        · replace hP := zE_n hP h116
                          obtain ⟨Z118, hZ118⟩ := zx (zu Z 1 0 0 2 0)
                          replace hP := zl_e hP hZ118
                          have hZ118I := zM_0 hZ hZ118 (by decide) (Or.inr (by decide))
                          have hZ118U : zU [] Z Z118 := zU_u zU_r hZ118 (Or.inl rfl)
                          have hZ118K : zC [1, 2, 101, 102, 200] Z Z118 := zC_u zC_r hZ118 (by decide)
                          intro μ9 e9
                          replace e9 := e9.trans (zm_wI (Z := Z) (ν := ν) hZ118 (show ((0 : Nat) : Int) = 0 from rfl) (show ((0 : Nat) : Int) = 0 from rfl) (show ((2 : Nat) : Int) = 2 from rfl) (show (0 : Int32) = i3 0 from rfl))
                          subst e9
                          obtain ⟨Z119, hZ119⟩ := zx (zu Z118 1 0 0 2 0)
                          replace hP := zl_e hP hZ119
                          have hZ119I := zM_0 hZ118I hZ119 (by decide) (Or.inr (by decide))
                          have hZ119U : zU [] Z Z119 := zU_u hZ118U hZ119 (Or.inl rfl)
                          have hZ119K : zC [1, 2, 101, 102, 200] Z Z119 := zC_u hZ118K hZ119 (by decide)
                          intro μ9 e9
                          replace e9 := e9.trans (zm_wI (Z := Z118) (ν := ν) hZ119 (show ((0 : Nat) : Int) = 0 from rfl) (show ((0 : Nat) : Int) = 0 from rfl) (show ((2 : Nat) : Int) = 2 from rfl) (show (0 : Int32) = i3 0 from rfl))
                          subst e9
                          have r120 := zM_k hZ119I 2 0 0 1401 (lo := 0) (hi := 24) (by decide) rfl
                          refine wz_br (i3Le (show (24 : Int32) = i3 24 from rfl) (zm_rd (Z := Z119) (ν := ν) (k := 2) (show ((0 : Nat) : Int) = 0 from rfl) (show ((0 : Nat) : Int) = 0 from rfl) (show ((1401 : Nat) : Int) = 1401 from rfl)) (by omega) (by omega) (by omega) (by omega)) (fun h121 => ?_) (fun h121 => ?_)
                          · replace hP := zE_p hP h121
                            obtain ⟨Z122, hZ122⟩ := zx (zu Z119 1 0 0 2 3)
                            replace hP := zl_e hP hZ122
                            have hZ122I := zM_u hZ119I hZ122 (lo := -2147483648) (hi := 2147483647) (by decide) rfl (by omega) ⟨by decide, by decide⟩ (Or.inr (by decide)) rfl
                            have hZ122U : zU [] Z Z122 := zU_u hZ119U hZ122 (Or.inl rfl)
                            have hZ122K : zC [1, 2, 101, 102, 200] Z Z122 := zC_u hZ119K hZ122 (by decide)
                            intro μ9 e9
                            replace e9 := e9.trans (zm_wI (Z := Z119) (ν := ν) hZ122 (show ((0 : Nat) : Int) = 0 from rfl) (show ((0 : Nat) : Int) = 0 from rfl) (show ((2 : Nat) : Int) = 2 from rfl) (show (3 : Int32) = i3 3 from rfl))
                            subst e9
                            exact zlY hP (show (0 : Int32) = i3 0 from rfl) (.inl rfl) ⟨hZ122I, hZ122K, hZ122U⟩
                          · replace hP := zE_n hP h121
                            obtain ⟨Z123, hZ123⟩ := zx (zu Z119 1 0 0 2 0)
                            replace hP := zl_e hP hZ123
                            have hZ123I := zM_0 hZ119I hZ123 (by decide) (Or.inr (by decide))
                            have hZ123U : zU [] Z Z123 := zU_u hZ119U hZ123 (Or.inl rfl)
                            have hZ123K : zC [1, 2, 101, 102, 200] Z Z123 := zC_u hZ119K hZ123 (by decide)
                            intro μ9 e9
                            replace e9 := e9.trans (zm_wI (Z := Z119) (ν := ν) hZ123 (show ((0 : Nat) : Int) = 0 from rfl) (show ((0 : Nat) : Int) = 0 from rfl) (show ((2 : Nat) : Int) = 2 from rfl) (show (0 : Int32) = i3 0 from rfl))
                            subst e9
                            have r124 := zM_k hZ123I 1 0 0 35 (lo := 0) (hi := 1) (by decide) rfl
                            have q125 := (zu_ne (k' := 1) (b' := 0) (i' := 0) (j' := 35) hZ123 (fun q => absurd q.2.2.2 (by decide))).trans ((zu_ne (k' := 1) (b' := 0) (i' := 0) (j' := 35) hZ119 (fun q => absurd q.2.2.2 (by decide))).trans (zu_ne (k' := 1) (b' := 0) (i' := 0) (j' := 35) hZ118 (fun q => absurd q.2.2.2 (by decide))))
                            refine wz_i0 (Eq.trans (i3NE (zm_rd (Z := Z123) (ν := ν) (k := 1) (show ((0 : Nat) : Int) = 0 from rfl) (show ((0 : Nat) : Int) = 0 from rfl) (show ((35 : Nat) : Int) = 35 from rfl)) (show (0 : Int32) = i3 0 from rfl) (by omega) (by omega) (by omega) (by omega)) (decide_eq_false (by omega))) ?_
                            have r126 := zM_k hZ123I 1 0 0 34 (lo := 0) (hi := 8) (by decide) rfl
                            have q127 := (zu_ne (k' := 1) (b' := 0) (i' := 0) (j' := 34) hZ123 (fun q => absurd q.2.2.2 (by decide))).trans ((zu_ne (k' := 1) (b' := 0) (i' := 0) (j' := 34) hZ119 (fun q => absurd q.2.2.2 (by decide))).trans (zu_ne (k' := 1) (b' := 0) (i' := 0) (j' := 34) hZ118 (fun q => absurd q.2.2.2 (by decide))))
                            have r128 := zM_f hZ123I 1 0 0 37
                            have q129 := (zu_ne (k' := 1) (b' := 0) (i' := 0) (j' := 37) hZ123 (fun q => absurd q.2.2.2 (by decide))).trans ((zu_ne (k' := 1) (b' := 0) (i' := 0) (j' := 37) hZ119 (fun q => absurd q.2.2.2 (by decide))).trans (zu_ne (k' := 1) (b' := 0) (i' := 0) (j' := 37) hZ118 (fun q => absurd q.2.2.2 (by decide))))
                            obtain ⟨c8, c9, hZ130I, dZ130⟩ := hdm Z123 12 a1 a2 a3 a4 a5 a6 hZ123I (by omega) (by omega) (by omega) (by omega) (by omega) (by omega) (by omega) (by omega) (by omega) (by omega)
                            obtain ⟨Z130, hZ130⟩ := zx (dm Z123 12 a1 a2 a3 a4 a5 a6)
                            rw [← hZ130] at c9 hZ130I dZ130
                            replace hP := zl_e hP hZ130
                            refine wz_cV_of (zas (zcons rfl (zcons (zvi (show (-1 : Int32) = i3 (-1) from rfl)) rfl)) c8) ?_
                            refine wz_cV_of (zas (zcons rfl (zcons (zvi (show (12 : Int32) = i3 12 from rfl)) (zcons (zvi (rfl : i3 a1 = i3 a1)) (zcons (zvi (rfl : i3 a2 = i3 a2)) (zcons (zvi (rfl : i3 a3 = i3 a3)) (zcons (zvi (rfl : i3 a4 = i3 a4)) (zcons (zvi (rfl : i3 a5 = i3 a5)) (zcons (zvi (rfl : i3 a6 = i3 a6)) rfl)))))))) c9) ?_
                            clear c8 c9
                            have hZ130K : zC [1, 2, 101, 102, 200] Z Z130 := zC_t hZ123K (zMd_C dZ130) (by decide)
                            have hZ130U : zU [] Z Z130 := zU_t hZ123U (zMd_U dZ130) zU_b0
                            have r131 := zM_k hZ130I 2 0 0 1401 (lo := 0) (hi := 24) (by decide) rfl
                            have q132 := (dZ130 2 0 0 1401 (by simp)).trans (zu_ne (k' := 2) (b' := 0) (i' := 0) (j' := 1401) hZ123 (fun q => absurd q.1 (by decide)))
                            refine wz_i0 (i3O (n := 4400) (i3A (i3A (show (1510 : Int32) = i3 1510 from rfl) (i3M (show (12 : Int32) = i3 12 from rfl) (zm_rd (Z := Z130) (ν := ν1) (k := 2) (show ((0 : Nat) : Int) = 0 from rfl) (show ((0 : Nat) : Int) = 0 from rfl) (show ((1401 : Nat) : Int) = 1401 from rfl)))) (show (0 : Int32) = i3 0 from rfl)) (by omega) (by omega) (by omega)) ?_
                            obtain ⟨Z133, hZ133⟩ := zx (zu Z130 2 0 0 (1510 + 12 * (Z130 2 0 0 1401)) a1)
                            replace hP := zl_e hP hZ133
                            have hZ133I := zM_u2 hZ130I hZ133 (lo := 0) (hi := 7) (zs_1510_0 (x := (Z130 2 0 0 1401)) (by omega) (by omega) (by omega)) (by omega) ⟨by decide, by decide⟩ (by simp only [zsp]; omega)
                            have hZ133U : zU [] Z Z133 := zU_u hZ130U hZ133 (Or.inl rfl)
                            have hZ133K : zC [1, 2, 101, 102, 200] Z Z133 := zC_u hZ130K hZ133 (zcl_2w (by omega) rfl)
                            intro μ9 e9
                            replace e9 := e9.trans (zm_wI (Z := Z130) (ν := ν1) hZ133 (show ((0 : Nat) : Int) = 0 from rfl) (show ((0 : Nat) : Int) = 0 from rfl) (i3I (y := (1510 + 12 * (Z130 2 0 0 1401))) (i3A (i3A (show (1510 : Int32) = i3 1510 from rfl) (i3M (show (12 : Int32) = i3 12 from rfl) (zm_rd (Z := Z130) (ν := ν1) (k := 2) (show ((0 : Nat) : Int) = 0 from rfl) (show ((0 : Nat) : Int) = 0 from rfl) (show ((1401 : Nat) : Int) = 1401 from rfl)))) (show (0 : Int32) = i3 0 from rfl)) (by omega) (by omega) (by omega)) (rfl : i3 a1 = i3 a1))
                            subst e9
                            refine wz_i0 (i3O (n := 4400) (i3A (i3A (show (1510 : Int32) = i3 1510 from rfl) (i3M (show (12 : Int32) = i3 12 from rfl) (zm_rd (Z := Z130) (ν := ν1) (k := 2) (show ((0 : Nat) : Int) = 0 from rfl) (show ((0 : Nat) : Int) = 0 from rfl) (show ((1401 : Nat) : Int) = 1401 from rfl)))) (show (1 : Int32) = i3 1 from rfl)) (by omega) (by omega) (by omega)) ?_
                            obtain ⟨Z134, hZ134⟩ := zx (zu Z133 2 0 0 (1511 + 12 * (Z130 2 0 0 1401)) a2)
                            replace hP := zl_e hP hZ134
                            have hZ134I := zM_u2 hZ133I hZ134 (lo := 0) (hi := 4) (zs_1510_1 (x := (Z130 2 0 0 1401)) (by omega) (by omega) (by omega)) (by omega) ⟨by decide, by decide⟩ (by simp only [zsp]; omega)
                            have hZ134U : zU [] Z Z134 := zU_u hZ133U hZ134 (Or.inl rfl)
                            have hZ134K : zC [1, 2, 101, 102, 200] Z Z134 := zC_u hZ133K hZ134 (zcl_2w (by omega) rfl)
                            intro μ9 e9
                            replace e9 := e9.trans (zm_wI (Z := Z133) (ν := ν1) hZ134 (show ((0 : Nat) : Int) = 0 from rfl) (show ((0 : Nat) : Int) = 0 from rfl) (i3I (y := (1511 + 12 * (Z130 2 0 0 1401))) (i3A (i3A (show (1510 : Int32) = i3 1510 from rfl) (i3M (show (12 : Int32) = i3 12 from rfl) (zm_rd (Z := Z130) (ν := ν1) (k := 2) (show ((0 : Nat) : Int) = 0 from rfl) (show ((0 : Nat) : Int) = 0 from rfl) (show ((1401 : Nat) : Int) = 1401 from rfl)))) (show (1 : Int32) = i3 1 from rfl)) (by omega) (by omega) (by omega)) (rfl : i3 a2 = i3 a2))
                            subst e9
                            refine wz_i0 (i3O (n := 4400) (i3A (i3A (show (1510 : Int32) = i3 1510 from rfl) (i3M (show (12 : Int32) = i3 12 from rfl) (zm_rd (Z := Z130) (ν := ν1) (k := 2) (show ((0 : Nat) : Int) = 0 from rfl) (show ((0 : Nat) : Int) = 0 from rfl) (show ((1401 : Nat) : Int) = 1401 from rfl)))) (show (2 : Int32) = i3 2 from rfl)) (by omega) (by omega) (by omega)) ?_
                            obtain ⟨Z135, hZ135⟩ := zx (zu Z134 2 0 0 (1512 + 12 * (Z130 2 0 0 1401)) a3)
                            replace hP := zl_e hP hZ135
                            have hZ135I := zM_u2 hZ134I hZ135 (lo := 0) (hi := 3) (zs_1510_2 (x := (Z130 2 0 0 1401)) (by omega) (by omega) (by omega)) (by omega) ⟨by decide, by decide⟩ (by simp only [zsp]; omega)
                            have hZ135U : zU [] Z Z135 := zU_u hZ134U hZ135 (Or.inl rfl)
                            have hZ135K : zC [1, 2, 101, 102, 200] Z Z135 := zC_u hZ134K hZ135 (zcl_2w (by omega) rfl)
                            intro μ9 e9
                            replace e9 := e9.trans (zm_wI (Z := Z134) (ν := ν1) hZ135 (show ((0 : Nat) : Int) = 0 from rfl) (show ((0 : Nat) : Int) = 0 from rfl) (i3I (y := (1512 + 12 * (Z130 2 0 0 1401))) (i3A (i3A (show (1510 : Int32) = i3 1510 from rfl) (i3M (show (12 : Int32) = i3 12 from rfl) (zm_rd (Z := Z130) (ν := ν1) (k := 2) (show ((0 : Nat) : Int) = 0 from rfl) (show ((0 : Nat) : Int) = 0 from rfl) (show ((1401 : Nat) : Int) = 1401 from rfl)))) (show (2 : Int32) = i3 2 from rfl)) (by omega) (by omega) (by omega)) (rfl : i3 a3 = i3 a3))
                            subst e9
                            refine wz_i0 (i3O (n := 4400) (i3A (i3A (show (1510 : Int32) = i3 1510 from rfl) (i3M (show (12 : Int32) = i3 12 from rfl) (zm_rd (Z := Z130) (ν := ν1) (k := 2) (show ((0 : Nat) : Int) = 0 from rfl) (show ((0 : Nat) : Int) = 0 from rfl) (show ((1401 : Nat) : Int) = 1401 from rfl)))) (show (3 : Int32) = i3 3 from rfl)) (by omega) (by omega) (by omega)) ?_
                            obtain ⟨Z136, hZ136⟩ := zx (zu Z135 2 0 0 (1513 + 12 * (Z130 2 0 0 1401)) a4)
                            replace hP := zl_e hP hZ136
                            have hZ136I := zM_u2 hZ135I hZ136 (lo := 0) (hi := 99) (zs_1510_3 (x := (Z130 2 0 0 1401)) (by omega) (by omega) (by omega)) (by omega) ⟨by decide, by decide⟩ (by simp only [zsp]; omega)
                            have hZ136U : zU [] Z Z136 := zU_u hZ135U hZ136 (Or.inl rfl)
                            have hZ136K : zC [1, 2, 101, 102, 200] Z Z136 := zC_u hZ135K hZ136 (zcl_2w (by omega) rfl)
                            intro μ9 e9
                            replace e9 := e9.trans (zm_wI (Z := Z135) (ν := ν1) hZ136 (show ((0 : Nat) : Int) = 0 from rfl) (show ((0 : Nat) : Int) = 0 from rfl) (i3I (y := (1513 + 12 * (Z130 2 0 0 1401))) (i3A (i3A (show (1510 : Int32) = i3 1510 from rfl) (i3M (show (12 : Int32) = i3 12 from rfl) (zm_rd (Z := Z130) (ν := ν1) (k := 2) (show ((0 : Nat) : Int) = 0 from rfl) (show ((0 : Nat) : Int) = 0 from rfl) (show ((1401 : Nat) : Int) = 1401 from rfl)))) (show (3 : Int32) = i3 3 from rfl)) (by omega) (by omega) (by omega)) (rfl : i3 a4 = i3 a4))
                            subst e9
                            refine wz_i0 (i3O (n := 4400) (i3A (i3A (show (1510 : Int32) = i3 1510 from rfl) (i3M (show (12 : Int32) = i3 12 from rfl) (zm_rd (Z := Z130) (ν := ν1) (k := 2) (show ((0 : Nat) : Int) = 0 from rfl) (show ((0 : Nat) : Int) = 0 from rfl) (show ((1401 : Nat) : Int) = 1401 from rfl)))) (show (4 : Int32) = i3 4 from rfl)) (by omega) (by omega) (by omega)) ?_
                            obtain ⟨Z137, hZ137⟩ := zx (zu Z136 2 0 0 (1514 + 12 * (Z130 2 0 0 1401)) a5)
                            replace hP := zl_e hP hZ137
                            have hZ137I := zM_u2 hZ136I hZ137 (lo := 0) (hi := 9999) (zs_1510_4 (x := (Z130 2 0 0 1401)) (by omega) (by omega) (by omega)) (by omega) ⟨by decide, by decide⟩ (by simp only [zsp]; omega)
                            have hZ137U : zU [] Z Z137 := zU_u hZ136U hZ137 (Or.inl rfl)
                            have hZ137K : zC [1, 2, 101, 102, 200] Z Z137 := zC_u hZ136K hZ137 (zcl_2w (by omega) rfl)
                            intro μ9 e9
                            replace e9 := e9.trans (zm_wI (Z := Z136) (ν := ν1) hZ137 (show ((0 : Nat) : Int) = 0 from rfl) (show ((0 : Nat) : Int) = 0 from rfl) (i3I (y := (1514 + 12 * (Z130 2 0 0 1401))) (i3A (i3A (show (1510 : Int32) = i3 1510 from rfl) (i3M (show (12 : Int32) = i3 12 from rfl) (zm_rd (Z := Z130) (ν := ν1) (k := 2) (show ((0 : Nat) : Int) = 0 from rfl) (show ((0 : Nat) : Int) = 0 from rfl) (show ((1401 : Nat) : Int) = 1401 from rfl)))) (show (4 : Int32) = i3 4 from rfl)) (by omega) (by omega) (by omega)) (rfl : i3 a5 = i3 a5))
                            subst e9
                            refine wz_i0 (i3O (n := 4400) (i3A (i3A (show (1510 : Int32) = i3 1510 from rfl) (i3M (show (12 : Int32) = i3 12 from rfl) (zm_rd (Z := Z130) (ν := ν1) (k := 2) (show ((0 : Nat) : Int) = 0 from rfl) (show ((0 : Nat) : Int) = 0 from rfl) (show ((1401 : Nat) : Int) = 1401 from rfl)))) (show (5 : Int32) = i3 5 from rfl)) (by omega) (by omega) (by omega)) ?_
                            obtain ⟨Z138, hZ138⟩ := zx (zu Z137 2 0 0 (1515 + 12 * (Z130 2 0 0 1401)) a6)
                            replace hP := zl_e hP hZ138
                            have hZ138I := zM_u2 hZ137I hZ138 (lo := 0) (hi := 127) (zs_1510_5 (x := (Z130 2 0 0 1401)) (by omega) (by omega) (by omega)) (by omega) ⟨by decide, by decide⟩ (by simp only [zsp]; omega)
                            have hZ138U : zU [] Z Z138 := zU_u hZ137U hZ138 (Or.inl rfl)
                            have hZ138K : zC [1, 2, 101, 102, 200] Z Z138 := zC_u hZ137K hZ138 (zcl_2w (by omega) rfl)
                            intro μ9 e9
                            replace e9 := e9.trans (zm_wI (Z := Z137) (ν := ν1) hZ138 (show ((0 : Nat) : Int) = 0 from rfl) (show ((0 : Nat) : Int) = 0 from rfl) (i3I (y := (1515 + 12 * (Z130 2 0 0 1401))) (i3A (i3A (show (1510 : Int32) = i3 1510 from rfl) (i3M (show (12 : Int32) = i3 12 from rfl) (zm_rd (Z := Z130) (ν := ν1) (k := 2) (show ((0 : Nat) : Int) = 0 from rfl) (show ((0 : Nat) : Int) = 0 from rfl) (show ((1401 : Nat) : Int) = 1401 from rfl)))) (show (5 : Int32) = i3 5 from rfl)) (by omega) (by omega) (by omega)) (rfl : i3 a6 = i3 a6))
                            subst e9
                            refine wz_i0 (i3O (n := 4400) (i3A (i3A (show (1510 : Int32) = i3 1510 from rfl) (i3M (show (12 : Int32) = i3 12 from rfl) (zm_rd (Z := Z130) (ν := ν1) (k := 2) (show ((0 : Nat) : Int) = 0 from rfl) (show ((0 : Nat) : Int) = 0 from rfl) (show ((1401 : Nat) : Int) = 1401 from rfl)))) (show (6 : Int32) = i3 6 from rfl)) (by omega) (by omega) (by omega)) ?_
                            obtain ⟨Z139, hZ139⟩ := zx (zu Z138 2 0 0 (1516 + 12 * (Z130 2 0 0 1401)) a4)
                            replace hP := zl_e hP hZ139
                            have hZ139I := zM_u2 hZ138I hZ139 (lo := 0) (hi := 99) (zs_1510_6 (x := (Z130 2 0 0 1401)) (by omega) (by omega) (by omega)) (by omega) ⟨by decide, by decide⟩ (by simp only [zsp]; omega)
                            have hZ139U : zU [] Z Z139 := zU_u hZ138U hZ139 (Or.inl rfl)
                            have hZ139K : zC [1, 2, 101, 102, 200] Z Z139 := zC_u hZ138K hZ139 (zcl_2w (by omega) rfl)
                            intro μ9 e9
                            replace e9 := e9.trans (zm_wI (Z := Z138) (ν := ν1) hZ139 (show ((0 : Nat) : Int) = 0 from rfl) (show ((0 : Nat) : Int) = 0 from rfl) (i3I (y := (1516 + 12 * (Z130 2 0 0 1401))) (i3A (i3A (show (1510 : Int32) = i3 1510 from rfl) (i3M (show (12 : Int32) = i3 12 from rfl) (zm_rd (Z := Z130) (ν := ν1) (k := 2) (show ((0 : Nat) : Int) = 0 from rfl) (show ((0 : Nat) : Int) = 0 from rfl) (show ((1401 : Nat) : Int) = 1401 from rfl)))) (show (6 : Int32) = i3 6 from rfl)) (by omega) (by omega) (by omega)) (rfl : i3 a4 = i3 a4))
                            subst e9
                            have r140 := zM_k hZ139I 2 0 0 1401 (lo := 0) (hi := 24) (by decide) rfl
                            have q141 := (zu_ne (k' := 2) (b' := 0) (i' := 0) (j' := 1401) hZ139 (fun q => absurd q.2.2.2 (by omega))).trans ((zu_ne (k' := 2) (b' := 0) (i' := 0) (j' := 1401) hZ138 (fun q => absurd q.2.2.2 (by omega))).trans ((zu_ne (k' := 2) (b' := 0) (i' := 0) (j' := 1401) hZ137 (fun q => absurd q.2.2.2 (by omega))).trans ((zu_ne (k' := 2) (b' := 0) (i' := 0) (j' := 1401) hZ136 (fun q => absurd q.2.2.2 (by omega))).trans ((zu_ne (k' := 2) (b' := 0) (i' := 0) (j' := 1401) hZ135 (fun q => absurd q.2.2.2 (by omega))).trans ((zu_ne (k' := 2) (b' := 0) (i' := 0) (j' := 1401) hZ134 (fun q => absurd q.2.2.2 (by omega))).trans (zu_ne (k' := 2) (b' := 0) (i' := 0) (j' := 1401) hZ133 (fun q => absurd q.2.2.2 (by omega))))))))
                            obtain ⟨Z142, hZ142⟩ := zx (zu Z139 2 0 0 1401 ((Z139 2 0 0 1401) + 1))
                            replace hP := zl_e hP hZ142
                            have hZ142I := zM_u2 hZ139I hZ142 (lo := 0) (hi := 24) rfl (by omega) ⟨by decide, by decide⟩ (by simp only [zsp]; omega)
                            have hZ142U : zU [] Z Z142 := zU_u hZ139U hZ142 (Or.inl rfl)
                            have hZ142K : zC [1, 2, 101, 102, 200] Z Z142 := zC_u hZ139K hZ142 (by decide)
                            intro μ9 e9
                            replace e9 := e9.trans (zm_wI (Z := Z139) (ν := ν1) hZ142 (show ((0 : Nat) : Int) = 0 from rfl) (show ((0 : Nat) : Int) = 0 from rfl) (show ((1401 : Nat) : Int) = 1401 from rfl) (i3A (zm_rd (Z := Z139) (ν := ν1) (k := 2) (show ((0 : Nat) : Int) = 0 from rfl) (show ((0 : Nat) : Int) = 0 from rfl) (show ((1401 : Nat) : Int) = 1401 from rfl)) (show (1 : Int32) = i3 1 from rfl)))
                            subst e9
                            exact zlY hP (zm_rd (Z := Z130) (ν := ν1) (k := 2) (show ((0 : Nat) : Int) = 0 from rfl) (show ((0 : Nat) : Int) = 0 from rfl) (show ((1401 : Nat) : Int) = 1401 from rfl)) (.inr rfl) ⟨hZ142I, hZ142K, hZ142U⟩

theorem sq_441 {s : zSM} {Z : qz_Z} {ν : qz_N} (hZ : zM s Z) (gq : Z 1 0 0 35 = 1) (hM : s.2 + 0 ≤ 1000000000) {a1 : Int} (ga1 : -2147483648 ≤ a1 ∧ a1 ≤ 2147483647) {a2 : Int} (ga2 : -2147483648 ≤ a2 ∧ a2 ≤ 2147483647) {a3 : Int} (ga3 : -2147483648 ≤ a3 ∧ a3 ≤ 2147483647) {a4 : Int} (ga4 : -2147483648 ≤ a4 ∧ a4 ≤ 2147483647) {a5 : Int} (ga5 : -2147483648 ≤ a5 ∧ a5 ≤ 2147483647) {a6 : Int} (ga6 : -2147483648 ≤ a6 ∧ a6 ≤ 2147483647) {ν1 : qz_N} : ∃ (Z1 : qz_Z) (ν2 : qz_N) (v : Int), (Z1, v) = zy_441 Z zq0 a1 a2 a3 a4 a5 a6 ∧ (ν2 = ν ∨ ν2 = ν1) ∧ qf_441 [.inr (.inr (some (1, 0, 0))), .inl (i3 a1), .inl (i3 a2), .inl (i3 a3), .inl (i3 a4), .inl (i3 a5), .inl (i3 a6)] (zm Z ν) = some (zm Z1 ν2, .inl (some (.inl (i3 v)))) ∧ (fun Z1 => zM s Z1 ∧ zC [1, 2] Z Z1 ∧ zU [] Z Z1) Z1 := by
  obtain ⟨P, hP⟩ := zx (zy_441 Z zq0 a1 a2 a3 a4 a5 a6)
  refine zc_Y (Q := fun Z1 => zM s Z1 ∧ zC [1, 2] Z Z1 ∧ zU [] Z Z1) hP (fw_441 (i3 a1) (i3 a2) (i3 a3) (i3 a4) (i3 a5) (i3 a6) _ _ ?_)
  replace hP : zE P (zy_441 Z zq0 a1 a2 a3 a4 a5 a6) := hP
  unfold zy_441 at hP
  have r1 := zM_k hZ 1 0 0 35 (lo := 0) (hi := 1) (by decide) rfl
  have r2 := zM_k hZ 1 0 0 34 (lo := 0) (hi := 8) (by decide) rfl
  have r3 := zM_f hZ 1 0 0 37
  refine wz_br (i3L (rfl : i3 a3 = i3 a3) (show (0 : Int32) = i3 0 from rfl) (by omega) (by omega) (by omega) (by omega)) (fun h4 => ?_) (fun h4 => ?_)
  · replace hP := zE_p hP h4
    refine wz_br (i3L (rfl : i3 a1 = i3 a1) (show (0 : Int32) = i3 0 from rfl) (by omega) (by omega) (by omega) (by omega)) (fun h5 => ?_) (fun h5 => ?_)
    · replace hP := zE_p hP h5
      obtain ⟨Z6, hZ6⟩ := zx (zu Z 1 0 0 2 1)
      replace hP := zl_e hP hZ6
      have hZ6I := zM_u hZ hZ6 (lo := -2147483648) (hi := 2147483647) (by decide) rfl (by omega) ⟨by decide, by decide⟩ (Or.inr (by decide)) rfl
      have hZ6U : zU [] Z Z6 := zU_u zU_r hZ6 (Or.inl rfl)
      have hZ6K : zC [1, 2] Z Z6 := zC_u zC_r hZ6 (by decide)
      intro μ9 e9
      replace e9 := e9.trans (zm_wI (Z := Z) (ν := ν) hZ6 (show ((0 : Nat) : Int) = 0 from rfl) (show ((0 : Nat) : Int) = 0 from rfl) (show ((2 : Nat) : Int) = 2 from rfl) (show (1 : Int32) = i3 1 from rfl))
      subst e9
      exact zlY hP (show (0 : Int32) = i3 0 from rfl) (.inl rfl) ⟨hZ6I, hZ6K, hZ6U⟩
    · replace hP := zE_n hP h5
      have r7 := zM_k hZ 2 0 0 1400 (lo := 0) (hi := 8) (by decide) rfl
      refine wz_br (i3L (i3S (zm_rd (Z := Z) (ν := ν) (k := 2) (show ((0 : Nat) : Int) = 0 from rfl) (show ((0 : Nat) : Int) = 0 from rfl) (show ((1400 : Nat) : Int) = 1400 from rfl)) (show (1 : Int32) = i3 1 from rfl)) (rfl : i3 a1 = i3 a1) (by omega) (by omega) (by omega) (by omega)) (fun h8 => ?_) (fun h8 => ?_)
      · replace hP := zE_p hP h8
        obtain ⟨Z9, hZ9⟩ := zx (zu Z 1 0 0 2 1)
        replace hP := zl_e hP hZ9
        have hZ9I := zM_u hZ hZ9 (lo := -2147483648) (hi := 2147483647) (by decide) rfl (by omega) ⟨by decide, by decide⟩ (Or.inr (by decide)) rfl
        have hZ9U : zU [] Z Z9 := zU_u zU_r hZ9 (Or.inl rfl)
        have hZ9K : zC [1, 2] Z Z9 := zC_u zC_r hZ9 (by decide)
        intro μ9 e9
        replace e9 := e9.trans (zm_wI (Z := Z) (ν := ν) hZ9 (show ((0 : Nat) : Int) = 0 from rfl) (show ((0 : Nat) : Int) = 0 from rfl) (show ((2 : Nat) : Int) = 2 from rfl) (show (1 : Int32) = i3 1 from rfl))
        subst e9
        exact zlY hP (show (0 : Int32) = i3 0 from rfl) (.inl rfl) ⟨hZ9I, hZ9K, hZ9U⟩
      · replace hP := zE_n hP h8
        refine wz_br (i3L (rfl : i3 a2 = i3 a2) (show (0 : Int32) = i3 0 from rfl) (by omega) (by omega) (by omega) (by omega)) (fun h10 => ?_) (fun h10 => ?_)
        · replace hP := zE_p hP h10
          obtain ⟨Z11, hZ11⟩ := zx (zu Z 1 0 0 2 1)
          replace hP := zl_e hP hZ11
          have hZ11I := zM_u hZ hZ11 (lo := -2147483648) (hi := 2147483647) (by decide) rfl (by omega) ⟨by decide, by decide⟩ (Or.inr (by decide)) rfl
          have hZ11U : zU [] Z Z11 := zU_u zU_r hZ11 (Or.inl rfl)
          have hZ11K : zC [1, 2] Z Z11 := zC_u zC_r hZ11 (by decide)
          intro μ9 e9
          replace e9 := e9.trans (zm_wI (Z := Z) (ν := ν) hZ11 (show ((0 : Nat) : Int) = 0 from rfl) (show ((0 : Nat) : Int) = 0 from rfl) (show ((2 : Nat) : Int) = 2 from rfl) (show (1 : Int32) = i3 1 from rfl))
          subst e9
          exact zlY hP (show (0 : Int32) = i3 0 from rfl) (.inl rfl) ⟨hZ11I, hZ11K, hZ11U⟩
        · replace hP := zE_n hP h10
          have r12 := zM_k hZ 2 0 0 100 (lo := 0) (hi := 5) (by decide) rfl
          refine wz_br (i3L (i3S (zm_rd (Z := Z) (ν := ν) (k := 2) (show ((0 : Nat) : Int) = 0 from rfl) (show ((0 : Nat) : Int) = 0 from rfl) (show ((100 : Nat) : Int) = 100 from rfl)) (show (1 : Int32) = i3 1 from rfl)) (rfl : i3 a2 = i3 a2) (by omega) (by omega) (by omega) (by omega)) (fun h13 => ?_) (fun h13 => ?_)
          · replace hP := zE_p hP h13
            obtain ⟨Z14, hZ14⟩ := zx (zu Z 1 0 0 2 1)
            replace hP := zl_e hP hZ14
            have hZ14I := zM_u hZ hZ14 (lo := -2147483648) (hi := 2147483647) (by decide) rfl (by omega) ⟨by decide, by decide⟩ (Or.inr (by decide)) rfl
            have hZ14U : zU [] Z Z14 := zU_u zU_r hZ14 (Or.inl rfl)
            have hZ14K : zC [1, 2] Z Z14 := zC_u zC_r hZ14 (by decide)
            intro μ9 e9
            replace e9 := e9.trans (zm_wI (Z := Z) (ν := ν) hZ14 (show ((0 : Nat) : Int) = 0 from rfl) (show ((0 : Nat) : Int) = 0 from rfl) (show ((2 : Nat) : Int) = 2 from rfl) (show (1 : Int32) = i3 1 from rfl))
            subst e9
            exact zlY hP (show (0 : Int32) = i3 0 from rfl) (.inl rfl) ⟨hZ14I, hZ14K, hZ14U⟩
          · replace hP := zE_n hP h13
            obtain ⟨Z15, hZ15⟩ := zx (zu Z 1 0 0 2 0)
            replace hP := zl_e hP hZ15
            have hZ15I := zM_0 hZ hZ15 (by decide) (Or.inr (by decide))
            have hZ15U : zU [] Z Z15 := zU_u zU_r hZ15 (Or.inl rfl)
            have hZ15K : zC [1, 2] Z Z15 := zC_u zC_r hZ15 (by decide)
            intro μ9 e9
            replace e9 := e9.trans (zm_wI (Z := Z) (ν := ν) hZ15 (show ((0 : Nat) : Int) = 0 from rfl) (show ((0 : Nat) : Int) = 0 from rfl) (show ((2 : Nat) : Int) = 2 from rfl) (show (0 : Int32) = i3 0 from rfl))
            subst e9
            obtain ⟨Z16, hZ16⟩ := zx (zu Z15 1 0 0 2 2)
            replace hP := zl_e hP hZ16
            have hZ16I := zM_u hZ15I hZ16 (lo := -2147483648) (hi := 2147483647) (by decide) rfl (by omega) ⟨by decide, by decide⟩ (Or.inr (by decide)) rfl
            have hZ16U : zU [] Z Z16 := zU_u hZ15U hZ16 (Or.inl rfl)
            have hZ16K : zC [1, 2] Z Z16 := zC_u hZ15K hZ16 (by decide)
            intro μ9 e9
            replace e9 := e9.trans (zm_wI (Z := Z15) (ν := ν) hZ16 (show ((0 : Nat) : Int) = 0 from rfl) (show ((0 : Nat) : Int) = 0 from rfl) (show ((2 : Nat) : Int) = 2 from rfl) (show (2 : Int32) = i3 2 from rfl))
            subst e9
            exact zlY hP (show (0 : Int32) = i3 0 from rfl) (.inl rfl) ⟨hZ16I, hZ16K, hZ16U⟩
  · replace hP := zE_n hP h4
    refine wz_br (i3L (show (3 : Int32) = i3 3 from rfl) (rfl : i3 a3 = i3 a3) (by omega) (by omega) (by omega) (by omega)) (fun h17 => ?_) (fun h17 => ?_)
    · replace hP := zE_p hP h17
      refine wz_br (i3L (rfl : i3 a1 = i3 a1) (show (0 : Int32) = i3 0 from rfl) (by omega) (by omega) (by omega) (by omega)) (fun h18 => ?_) (fun h18 => ?_)
      · replace hP := zE_p hP h18
        obtain ⟨Z19, hZ19⟩ := zx (zu Z 1 0 0 2 1)
        replace hP := zl_e hP hZ19
        have hZ19I := zM_u hZ hZ19 (lo := -2147483648) (hi := 2147483647) (by decide) rfl (by omega) ⟨by decide, by decide⟩ (Or.inr (by decide)) rfl
        have hZ19U : zU [] Z Z19 := zU_u zU_r hZ19 (Or.inl rfl)
        have hZ19K : zC [1, 2] Z Z19 := zC_u zC_r hZ19 (by decide)
        intro μ9 e9
        replace e9 := e9.trans (zm_wI (Z := Z) (ν := ν) hZ19 (show ((0 : Nat) : Int) = 0 from rfl) (show ((0 : Nat) : Int) = 0 from rfl) (show ((2 : Nat) : Int) = 2 from rfl) (show (1 : Int32) = i3 1 from rfl))
        subst e9
        exact zlY hP (show (0 : Int32) = i3 0 from rfl) (.inl rfl) ⟨hZ19I, hZ19K, hZ19U⟩
      · replace hP := zE_n hP h18
        have r20 := zM_k hZ 2 0 0 1400 (lo := 0) (hi := 8) (by decide) rfl
        refine wz_br (i3L (i3S (zm_rd (Z := Z) (ν := ν) (k := 2) (show ((0 : Nat) : Int) = 0 from rfl) (show ((0 : Nat) : Int) = 0 from rfl) (show ((1400 : Nat) : Int) = 1400 from rfl)) (show (1 : Int32) = i3 1 from rfl)) (rfl : i3 a1 = i3 a1) (by omega) (by omega) (by omega) (by omega)) (fun h21 => ?_) (fun h21 => ?_)
        · replace hP := zE_p hP h21
          obtain ⟨Z22, hZ22⟩ := zx (zu Z 1 0 0 2 1)
          replace hP := zl_e hP hZ22
          have hZ22I := zM_u hZ hZ22 (lo := -2147483648) (hi := 2147483647) (by decide) rfl (by omega) ⟨by decide, by decide⟩ (Or.inr (by decide)) rfl
          have hZ22U : zU [] Z Z22 := zU_u zU_r hZ22 (Or.inl rfl)
          have hZ22K : zC [1, 2] Z Z22 := zC_u zC_r hZ22 (by decide)
          intro μ9 e9
          replace e9 := e9.trans (zm_wI (Z := Z) (ν := ν) hZ22 (show ((0 : Nat) : Int) = 0 from rfl) (show ((0 : Nat) : Int) = 0 from rfl) (show ((2 : Nat) : Int) = 2 from rfl) (show (1 : Int32) = i3 1 from rfl))
          subst e9
          exact zlY hP (show (0 : Int32) = i3 0 from rfl) (.inl rfl) ⟨hZ22I, hZ22K, hZ22U⟩
        · replace hP := zE_n hP h21
          refine wz_br (i3L (rfl : i3 a2 = i3 a2) (show (0 : Int32) = i3 0 from rfl) (by omega) (by omega) (by omega) (by omega)) (fun h23 => ?_) (fun h23 => ?_)
          · replace hP := zE_p hP h23
            obtain ⟨Z24, hZ24⟩ := zx (zu Z 1 0 0 2 1)
            replace hP := zl_e hP hZ24
            have hZ24I := zM_u hZ hZ24 (lo := -2147483648) (hi := 2147483647) (by decide) rfl (by omega) ⟨by decide, by decide⟩ (Or.inr (by decide)) rfl
            have hZ24U : zU [] Z Z24 := zU_u zU_r hZ24 (Or.inl rfl)
            have hZ24K : zC [1, 2] Z Z24 := zC_u zC_r hZ24 (by decide)
            intro μ9 e9
            replace e9 := e9.trans (zm_wI (Z := Z) (ν := ν) hZ24 (show ((0 : Nat) : Int) = 0 from rfl) (show ((0 : Nat) : Int) = 0 from rfl) (show ((2 : Nat) : Int) = 2 from rfl) (show (1 : Int32) = i3 1 from rfl))
            subst e9
            exact zlY hP (show (0 : Int32) = i3 0 from rfl) (.inl rfl) ⟨hZ24I, hZ24K, hZ24U⟩
          · replace hP := zE_n hP h23
            have r25 := zM_k hZ 2 0 0 100 (lo := 0) (hi := 5) (by decide) rfl
            refine wz_br (i3L (i3S (zm_rd (Z := Z) (ν := ν) (k := 2) (show ((0 : Nat) : Int) = 0 from rfl) (show ((0 : Nat) : Int) = 0 from rfl) (show ((100 : Nat) : Int) = 100 from rfl)) (show (1 : Int32) = i3 1 from rfl)) (rfl : i3 a2 = i3 a2) (by omega) (by omega) (by omega) (by omega)) (fun h26 => ?_) (fun h26 => ?_)
            · replace hP := zE_p hP h26
              obtain ⟨Z27, hZ27⟩ := zx (zu Z 1 0 0 2 1)
              replace hP := zl_e hP hZ27
              have hZ27I := zM_u hZ hZ27 (lo := -2147483648) (hi := 2147483647) (by decide) rfl (by omega) ⟨by decide, by decide⟩ (Or.inr (by decide)) rfl
              have hZ27U : zU [] Z Z27 := zU_u zU_r hZ27 (Or.inl rfl)
              have hZ27K : zC [1, 2] Z Z27 := zC_u zC_r hZ27 (by decide)
              intro μ9 e9
              replace e9 := e9.trans (zm_wI (Z := Z) (ν := ν) hZ27 (show ((0 : Nat) : Int) = 0 from rfl) (show ((0 : Nat) : Int) = 0 from rfl) (show ((2 : Nat) : Int) = 2 from rfl) (show (1 : Int32) = i3 1 from rfl))
              subst e9
              exact zlY hP (show (0 : Int32) = i3 0 from rfl) (.inl rfl) ⟨hZ27I, hZ27K, hZ27U⟩
            · replace hP := zE_n hP h26
              obtain ⟨Z28, hZ28⟩ := zx (zu Z 1 0 0 2 0)
              replace hP := zl_e hP hZ28
              have hZ28I := zM_0 hZ hZ28 (by decide) (Or.inr (by decide))
              have hZ28U : zU [] Z Z28 := zU_u zU_r hZ28 (Or.inl rfl)
              have hZ28K : zC [1, 2] Z Z28 := zC_u zC_r hZ28 (by decide)
              intro μ9 e9
              replace e9 := e9.trans (zm_wI (Z := Z) (ν := ν) hZ28 (show ((0 : Nat) : Int) = 0 from rfl) (show ((0 : Nat) : Int) = 0 from rfl) (show ((2 : Nat) : Int) = 2 from rfl) (show (0 : Int32) = i3 0 from rfl))
              subst e9
              obtain ⟨Z29, hZ29⟩ := zx (zu Z28 1 0 0 2 2)
              replace hP := zl_e hP hZ29
              have hZ29I := zM_u hZ28I hZ29 (lo := -2147483648) (hi := 2147483647) (by decide) rfl (by omega) ⟨by decide, by decide⟩ (Or.inr (by decide)) rfl
              have hZ29U : zU [] Z Z29 := zU_u hZ28U hZ29 (Or.inl rfl)
              have hZ29K : zC [1, 2] Z Z29 := zC_u hZ28K hZ29 (by decide)
              intro μ9 e9
              replace e9 := e9.trans (zm_wI (Z := Z28) (ν := ν) hZ29 (show ((0 : Nat) : Int) = 0 from rfl) (show ((0 : Nat) : Int) = 0 from rfl) (show ((2 : Nat) : Int) = 2 from rfl) (show (2 : Int32) = i3 2 from rfl))
              subst e9
              exact zlY hP (show (0 : Int32) = i3 0 from rfl) (.inl rfl) ⟨hZ29I, hZ29K, hZ29U⟩
    · replace hP := zE_n hP h17
      refine wz_br (i3L (rfl : i3 a4 = i3 a4) (show (1 : Int32) = i3 1 from rfl) (by omega) (by omega) (by omega) (by omega)) (fun h30 => ?_) (fun h30 => ?_)
      · replace hP := zE_p hP h30
        refine wz_br (i3L (rfl : i3 a1 = i3 a1) (show (0 : Int32) = i3 0 from rfl) (by omega) (by omega) (by omega) (by omega)) (fun h31 => ?_) (fun h31 => ?_)
        · replace hP := zE_p hP h31
          obtain ⟨Z32, hZ32⟩ := zx (zu Z 1 0 0 2 1)
          replace hP := zl_e hP hZ32
          have hZ32I := zM_u hZ hZ32 (lo := -2147483648) (hi := 2147483647) (by decide) rfl (by omega) ⟨by decide, by decide⟩ (Or.inr (by decide)) rfl
          have hZ32U : zU [] Z Z32 := zU_u zU_r hZ32 (Or.inl rfl)
          have hZ32K : zC [1, 2] Z Z32 := zC_u zC_r hZ32 (by decide)
          intro μ9 e9
          replace e9 := e9.trans (zm_wI (Z := Z) (ν := ν) hZ32 (show ((0 : Nat) : Int) = 0 from rfl) (show ((0 : Nat) : Int) = 0 from rfl) (show ((2 : Nat) : Int) = 2 from rfl) (show (1 : Int32) = i3 1 from rfl))
          subst e9
          exact zlY hP (show (0 : Int32) = i3 0 from rfl) (.inl rfl) ⟨hZ32I, hZ32K, hZ32U⟩
        · replace hP := zE_n hP h31
          have r33 := zM_k hZ 2 0 0 1400 (lo := 0) (hi := 8) (by decide) rfl
          refine wz_br (i3L (i3S (zm_rd (Z := Z) (ν := ν) (k := 2) (show ((0 : Nat) : Int) = 0 from rfl) (show ((0 : Nat) : Int) = 0 from rfl) (show ((1400 : Nat) : Int) = 1400 from rfl)) (show (1 : Int32) = i3 1 from rfl)) (rfl : i3 a1 = i3 a1) (by omega) (by omega) (by omega) (by omega)) (fun h34 => ?_) (fun h34 => ?_)
          · replace hP := zE_p hP h34
            obtain ⟨Z35, hZ35⟩ := zx (zu Z 1 0 0 2 1)
            replace hP := zl_e hP hZ35
            have hZ35I := zM_u hZ hZ35 (lo := -2147483648) (hi := 2147483647) (by decide) rfl (by omega) ⟨by decide, by decide⟩ (Or.inr (by decide)) rfl
            have hZ35U : zU [] Z Z35 := zU_u zU_r hZ35 (Or.inl rfl)
            have hZ35K : zC [1, 2] Z Z35 := zC_u zC_r hZ35 (by decide)
            intro μ9 e9
            replace e9 := e9.trans (zm_wI (Z := Z) (ν := ν) hZ35 (show ((0 : Nat) : Int) = 0 from rfl) (show ((0 : Nat) : Int) = 0 from rfl) (show ((2 : Nat) : Int) = 2 from rfl) (show (1 : Int32) = i3 1 from rfl))
            subst e9
            exact zlY hP (show (0 : Int32) = i3 0 from rfl) (.inl rfl) ⟨hZ35I, hZ35K, hZ35U⟩
          · replace hP := zE_n hP h34
            refine wz_br (i3L (rfl : i3 a2 = i3 a2) (show (0 : Int32) = i3 0 from rfl) (by omega) (by omega) (by omega) (by omega)) (fun h36 => ?_) (fun h36 => ?_)
            · replace hP := zE_p hP h36
              obtain ⟨Z37, hZ37⟩ := zx (zu Z 1 0 0 2 1)
              replace hP := zl_e hP hZ37
              have hZ37I := zM_u hZ hZ37 (lo := -2147483648) (hi := 2147483647) (by decide) rfl (by omega) ⟨by decide, by decide⟩ (Or.inr (by decide)) rfl
              have hZ37U : zU [] Z Z37 := zU_u zU_r hZ37 (Or.inl rfl)
              have hZ37K : zC [1, 2] Z Z37 := zC_u zC_r hZ37 (by decide)
              intro μ9 e9
              replace e9 := e9.trans (zm_wI (Z := Z) (ν := ν) hZ37 (show ((0 : Nat) : Int) = 0 from rfl) (show ((0 : Nat) : Int) = 0 from rfl) (show ((2 : Nat) : Int) = 2 from rfl) (show (1 : Int32) = i3 1 from rfl))
              subst e9
              exact zlY hP (show (0 : Int32) = i3 0 from rfl) (.inl rfl) ⟨hZ37I, hZ37K, hZ37U⟩
            · replace hP := zE_n hP h36
              have r38 := zM_k hZ 2 0 0 100 (lo := 0) (hi := 5) (by decide) rfl
              refine wz_br (i3L (i3S (zm_rd (Z := Z) (ν := ν) (k := 2) (show ((0 : Nat) : Int) = 0 from rfl) (show ((0 : Nat) : Int) = 0 from rfl) (show ((100 : Nat) : Int) = 100 from rfl)) (show (1 : Int32) = i3 1 from rfl)) (rfl : i3 a2 = i3 a2) (by omega) (by omega) (by omega) (by omega)) (fun h39 => ?_) (fun h39 => ?_)
              · replace hP := zE_p hP h39
                obtain ⟨Z40, hZ40⟩ := zx (zu Z 1 0 0 2 1)
                replace hP := zl_e hP hZ40
                have hZ40I := zM_u hZ hZ40 (lo := -2147483648) (hi := 2147483647) (by decide) rfl (by omega) ⟨by decide, by decide⟩ (Or.inr (by decide)) rfl
                have hZ40U : zU [] Z Z40 := zU_u zU_r hZ40 (Or.inl rfl)
                have hZ40K : zC [1, 2] Z Z40 := zC_u zC_r hZ40 (by decide)
                intro μ9 e9
                replace e9 := e9.trans (zm_wI (Z := Z) (ν := ν) hZ40 (show ((0 : Nat) : Int) = 0 from rfl) (show ((0 : Nat) : Int) = 0 from rfl) (show ((2 : Nat) : Int) = 2 from rfl) (show (1 : Int32) = i3 1 from rfl))
                subst e9
                exact zlY hP (show (0 : Int32) = i3 0 from rfl) (.inl rfl) ⟨hZ40I, hZ40K, hZ40U⟩
              · replace hP := zE_n hP h39
                obtain ⟨Z41, hZ41⟩ := zx (zu Z 1 0 0 2 0)
                replace hP := zl_e hP hZ41
                have hZ41I := zM_0 hZ hZ41 (by decide) (Or.inr (by decide))
                have hZ41U : zU [] Z Z41 := zU_u zU_r hZ41 (Or.inl rfl)
                have hZ41K : zC [1, 2] Z Z41 := zC_u zC_r hZ41 (by decide)
                intro μ9 e9
                replace e9 := e9.trans (zm_wI (Z := Z) (ν := ν) hZ41 (show ((0 : Nat) : Int) = 0 from rfl) (show ((0 : Nat) : Int) = 0 from rfl) (show ((2 : Nat) : Int) = 2 from rfl) (show (0 : Int32) = i3 0 from rfl))
                subst e9
                obtain ⟨Z42, hZ42⟩ := zx (zu Z41 1 0 0 2 2)
                replace hP := zl_e hP hZ42
                have hZ42I := zM_u hZ41I hZ42 (lo := -2147483648) (hi := 2147483647) (by decide) rfl (by omega) ⟨by decide, by decide⟩ (Or.inr (by decide)) rfl
                have hZ42U : zU [] Z Z42 := zU_u hZ41U hZ42 (Or.inl rfl)
                have hZ42K : zC [1, 2] Z Z42 := zC_u hZ41K hZ42 (by decide)
                intro μ9 e9
                replace e9 := e9.trans (zm_wI (Z := Z41) (ν := ν) hZ42 (show ((0 : Nat) : Int) = 0 from rfl) (show ((0 : Nat) : Int) = 0 from rfl) (show ((2 : Nat) : Int) = 2 from rfl) (show (2 : Int32) = i3 2 from rfl))
                subst e9
                exact zlY hP (show (0 : Int32) = i3 0 from rfl) (.inl rfl) ⟨hZ42I, hZ42K, hZ42U⟩
      · replace hP := zE_n hP h30
        refine wz_br (i3L (show (99 : Int32) = i3 99 from rfl) (rfl : i3 a4 = i3 a4) (by omega) (by omega) (by omega) (by omega)) (fun h43 => ?_) (fun h43 => ?_)
        · replace hP := zE_p hP h43
          refine wz_br (i3L (rfl : i3 a1 = i3 a1) (show (0 : Int32) = i3 0 from rfl) (by omega) (by omega) (by omega) (by omega)) (fun h44 => ?_) (fun h44 => ?_)
          · replace hP := zE_p hP h44
            obtain ⟨Z45, hZ45⟩ := zx (zu Z 1 0 0 2 1)
            replace hP := zl_e hP hZ45
            have hZ45I := zM_u hZ hZ45 (lo := -2147483648) (hi := 2147483647) (by decide) rfl (by omega) ⟨by decide, by decide⟩ (Or.inr (by decide)) rfl
            have hZ45U : zU [] Z Z45 := zU_u zU_r hZ45 (Or.inl rfl)
            have hZ45K : zC [1, 2] Z Z45 := zC_u zC_r hZ45 (by decide)
            intro μ9 e9
            replace e9 := e9.trans (zm_wI (Z := Z) (ν := ν) hZ45 (show ((0 : Nat) : Int) = 0 from rfl) (show ((0 : Nat) : Int) = 0 from rfl) (show ((2 : Nat) : Int) = 2 from rfl) (show (1 : Int32) = i3 1 from rfl))
            subst e9
            exact zlY hP (show (0 : Int32) = i3 0 from rfl) (.inl rfl) ⟨hZ45I, hZ45K, hZ45U⟩
          · replace hP := zE_n hP h44
            have r46 := zM_k hZ 2 0 0 1400 (lo := 0) (hi := 8) (by decide) rfl
            refine wz_br (i3L (i3S (zm_rd (Z := Z) (ν := ν) (k := 2) (show ((0 : Nat) : Int) = 0 from rfl) (show ((0 : Nat) : Int) = 0 from rfl) (show ((1400 : Nat) : Int) = 1400 from rfl)) (show (1 : Int32) = i3 1 from rfl)) (rfl : i3 a1 = i3 a1) (by omega) (by omega) (by omega) (by omega)) (fun h47 => ?_) (fun h47 => ?_)
            · replace hP := zE_p hP h47
              obtain ⟨Z48, hZ48⟩ := zx (zu Z 1 0 0 2 1)
              replace hP := zl_e hP hZ48
              have hZ48I := zM_u hZ hZ48 (lo := -2147483648) (hi := 2147483647) (by decide) rfl (by omega) ⟨by decide, by decide⟩ (Or.inr (by decide)) rfl
              have hZ48U : zU [] Z Z48 := zU_u zU_r hZ48 (Or.inl rfl)
              have hZ48K : zC [1, 2] Z Z48 := zC_u zC_r hZ48 (by decide)
              intro μ9 e9
              replace e9 := e9.trans (zm_wI (Z := Z) (ν := ν) hZ48 (show ((0 : Nat) : Int) = 0 from rfl) (show ((0 : Nat) : Int) = 0 from rfl) (show ((2 : Nat) : Int) = 2 from rfl) (show (1 : Int32) = i3 1 from rfl))
              subst e9
              exact zlY hP (show (0 : Int32) = i3 0 from rfl) (.inl rfl) ⟨hZ48I, hZ48K, hZ48U⟩
            · replace hP := zE_n hP h47
              refine wz_br (i3L (rfl : i3 a2 = i3 a2) (show (0 : Int32) = i3 0 from rfl) (by omega) (by omega) (by omega) (by omega)) (fun h49 => ?_) (fun h49 => ?_)
              · replace hP := zE_p hP h49
                obtain ⟨Z50, hZ50⟩ := zx (zu Z 1 0 0 2 1)
                replace hP := zl_e hP hZ50
                have hZ50I := zM_u hZ hZ50 (lo := -2147483648) (hi := 2147483647) (by decide) rfl (by omega) ⟨by decide, by decide⟩ (Or.inr (by decide)) rfl
                have hZ50U : zU [] Z Z50 := zU_u zU_r hZ50 (Or.inl rfl)
                have hZ50K : zC [1, 2] Z Z50 := zC_u zC_r hZ50 (by decide)
                intro μ9 e9
                replace e9 := e9.trans (zm_wI (Z := Z) (ν := ν) hZ50 (show ((0 : Nat) : Int) = 0 from rfl) (show ((0 : Nat) : Int) = 0 from rfl) (show ((2 : Nat) : Int) = 2 from rfl) (show (1 : Int32) = i3 1 from rfl))
                subst e9
                exact zlY hP (show (0 : Int32) = i3 0 from rfl) (.inl rfl) ⟨hZ50I, hZ50K, hZ50U⟩
              · replace hP := zE_n hP h49
                have r51 := zM_k hZ 2 0 0 100 (lo := 0) (hi := 5) (by decide) rfl
                refine wz_br (i3L (i3S (zm_rd (Z := Z) (ν := ν) (k := 2) (show ((0 : Nat) : Int) = 0 from rfl) (show ((0 : Nat) : Int) = 0 from rfl) (show ((100 : Nat) : Int) = 100 from rfl)) (show (1 : Int32) = i3 1 from rfl)) (rfl : i3 a2 = i3 a2) (by omega) (by omega) (by omega) (by omega)) (fun h52 => ?_) (fun h52 => ?_)
                · replace hP := zE_p hP h52
                  obtain ⟨Z53, hZ53⟩ := zx (zu Z 1 0 0 2 1)
                  replace hP := zl_e hP hZ53
                  have hZ53I := zM_u hZ hZ53 (lo := -2147483648) (hi := 2147483647) (by decide) rfl (by omega) ⟨by decide, by decide⟩ (Or.inr (by decide)) rfl
                  have hZ53U : zU [] Z Z53 := zU_u zU_r hZ53 (Or.inl rfl)
                  have hZ53K : zC [1, 2] Z Z53 := zC_u zC_r hZ53 (by decide)
                  intro μ9 e9
                  replace e9 := e9.trans (zm_wI (Z := Z) (ν := ν) hZ53 (show ((0 : Nat) : Int) = 0 from rfl) (show ((0 : Nat) : Int) = 0 from rfl) (show ((2 : Nat) : Int) = 2 from rfl) (show (1 : Int32) = i3 1 from rfl))
                  subst e9
                  exact zlY hP (show (0 : Int32) = i3 0 from rfl) (.inl rfl) ⟨hZ53I, hZ53K, hZ53U⟩
                · replace hP := zE_n hP h52
                  obtain ⟨Z54, hZ54⟩ := zx (zu Z 1 0 0 2 0)
                  replace hP := zl_e hP hZ54
                  have hZ54I := zM_0 hZ hZ54 (by decide) (Or.inr (by decide))
                  have hZ54U : zU [] Z Z54 := zU_u zU_r hZ54 (Or.inl rfl)
                  have hZ54K : zC [1, 2] Z Z54 := zC_u zC_r hZ54 (by decide)
                  intro μ9 e9
                  replace e9 := e9.trans (zm_wI (Z := Z) (ν := ν) hZ54 (show ((0 : Nat) : Int) = 0 from rfl) (show ((0 : Nat) : Int) = 0 from rfl) (show ((2 : Nat) : Int) = 2 from rfl) (show (0 : Int32) = i3 0 from rfl))
                  subst e9
                  obtain ⟨Z55, hZ55⟩ := zx (zu Z54 1 0 0 2 2)
                  replace hP := zl_e hP hZ55
                  have hZ55I := zM_u hZ54I hZ55 (lo := -2147483648) (hi := 2147483647) (by decide) rfl (by omega) ⟨by decide, by decide⟩ (Or.inr (by decide)) rfl
                  have hZ55U : zU [] Z Z55 := zU_u hZ54U hZ55 (Or.inl rfl)
                  have hZ55K : zC [1, 2] Z Z55 := zC_u hZ54K hZ55 (by decide)
                  intro μ9 e9
                  replace e9 := e9.trans (zm_wI (Z := Z54) (ν := ν) hZ55 (show ((0 : Nat) : Int) = 0 from rfl) (show ((0 : Nat) : Int) = 0 from rfl) (show ((2 : Nat) : Int) = 2 from rfl) (show (2 : Int32) = i3 2 from rfl))
                  subst e9
                  exact zlY hP (show (0 : Int32) = i3 0 from rfl) (.inl rfl) ⟨hZ55I, hZ55K, hZ55U⟩
        · replace hP := zE_n hP h43
          refine wz_br (i3L (rfl : i3 a5 = i3 a5) (show (1 : Int32) = i3 1 from rfl) (by omega) (by omega) (by omega) (by omega)) (fun h56 => ?_) (fun h56 => ?_)
          · replace hP := zE_p hP h56
            refine wz_br (i3L (rfl : i3 a1 = i3 a1) (show (0 : Int32) = i3 0 from rfl) (by omega) (by omega) (by omega) (by omega)) (fun h57 => ?_) (fun h57 => ?_)
            · replace hP := zE_p hP h57
              obtain ⟨Z58, hZ58⟩ := zx (zu Z 1 0 0 2 1)
              replace hP := zl_e hP hZ58
              have hZ58I := zM_u hZ hZ58 (lo := -2147483648) (hi := 2147483647) (by decide) rfl (by omega) ⟨by decide, by decide⟩ (Or.inr (by decide)) rfl
              have hZ58U : zU [] Z Z58 := zU_u zU_r hZ58 (Or.inl rfl)
              have hZ58K : zC [1, 2] Z Z58 := zC_u zC_r hZ58 (by decide)
              intro μ9 e9
              replace e9 := e9.trans (zm_wI (Z := Z) (ν := ν) hZ58 (show ((0 : Nat) : Int) = 0 from rfl) (show ((0 : Nat) : Int) = 0 from rfl) (show ((2 : Nat) : Int) = 2 from rfl) (show (1 : Int32) = i3 1 from rfl))
              subst e9
              exact zlY hP (show (0 : Int32) = i3 0 from rfl) (.inl rfl) ⟨hZ58I, hZ58K, hZ58U⟩
            · replace hP := zE_n hP h57
              have r59 := zM_k hZ 2 0 0 1400 (lo := 0) (hi := 8) (by decide) rfl
              refine wz_br (i3L (i3S (zm_rd (Z := Z) (ν := ν) (k := 2) (show ((0 : Nat) : Int) = 0 from rfl) (show ((0 : Nat) : Int) = 0 from rfl) (show ((1400 : Nat) : Int) = 1400 from rfl)) (show (1 : Int32) = i3 1 from rfl)) (rfl : i3 a1 = i3 a1) (by omega) (by omega) (by omega) (by omega)) (fun h60 => ?_) (fun h60 => ?_)
              · replace hP := zE_p hP h60
                obtain ⟨Z61, hZ61⟩ := zx (zu Z 1 0 0 2 1)
                replace hP := zl_e hP hZ61
                have hZ61I := zM_u hZ hZ61 (lo := -2147483648) (hi := 2147483647) (by decide) rfl (by omega) ⟨by decide, by decide⟩ (Or.inr (by decide)) rfl
                have hZ61U : zU [] Z Z61 := zU_u zU_r hZ61 (Or.inl rfl)
                have hZ61K : zC [1, 2] Z Z61 := zC_u zC_r hZ61 (by decide)
                intro μ9 e9
                replace e9 := e9.trans (zm_wI (Z := Z) (ν := ν) hZ61 (show ((0 : Nat) : Int) = 0 from rfl) (show ((0 : Nat) : Int) = 0 from rfl) (show ((2 : Nat) : Int) = 2 from rfl) (show (1 : Int32) = i3 1 from rfl))
                subst e9
                exact zlY hP (show (0 : Int32) = i3 0 from rfl) (.inl rfl) ⟨hZ61I, hZ61K, hZ61U⟩
              · replace hP := zE_n hP h60
                refine wz_br (i3L (rfl : i3 a2 = i3 a2) (show (0 : Int32) = i3 0 from rfl) (by omega) (by omega) (by omega) (by omega)) (fun h62 => ?_) (fun h62 => ?_)
                · replace hP := zE_p hP h62
                  obtain ⟨Z63, hZ63⟩ := zx (zu Z 1 0 0 2 1)
                  replace hP := zl_e hP hZ63
                  have hZ63I := zM_u hZ hZ63 (lo := -2147483648) (hi := 2147483647) (by decide) rfl (by omega) ⟨by decide, by decide⟩ (Or.inr (by decide)) rfl
                  have hZ63U : zU [] Z Z63 := zU_u zU_r hZ63 (Or.inl rfl)
                  have hZ63K : zC [1, 2] Z Z63 := zC_u zC_r hZ63 (by decide)
                  intro μ9 e9
                  replace e9 := e9.trans (zm_wI (Z := Z) (ν := ν) hZ63 (show ((0 : Nat) : Int) = 0 from rfl) (show ((0 : Nat) : Int) = 0 from rfl) (show ((2 : Nat) : Int) = 2 from rfl) (show (1 : Int32) = i3 1 from rfl))
                  subst e9
                  exact zlY hP (show (0 : Int32) = i3 0 from rfl) (.inl rfl) ⟨hZ63I, hZ63K, hZ63U⟩
                · replace hP := zE_n hP h62
                  have r64 := zM_k hZ 2 0 0 100 (lo := 0) (hi := 5) (by decide) rfl
                  refine wz_br (i3L (i3S (zm_rd (Z := Z) (ν := ν) (k := 2) (show ((0 : Nat) : Int) = 0 from rfl) (show ((0 : Nat) : Int) = 0 from rfl) (show ((100 : Nat) : Int) = 100 from rfl)) (show (1 : Int32) = i3 1 from rfl)) (rfl : i3 a2 = i3 a2) (by omega) (by omega) (by omega) (by omega)) (fun h65 => ?_) (fun h65 => ?_)
                  · replace hP := zE_p hP h65
                    obtain ⟨Z66, hZ66⟩ := zx (zu Z 1 0 0 2 1)
                    replace hP := zl_e hP hZ66
                    have hZ66I := zM_u hZ hZ66 (lo := -2147483648) (hi := 2147483647) (by decide) rfl (by omega) ⟨by decide, by decide⟩ (Or.inr (by decide)) rfl
                    have hZ66U : zU [] Z Z66 := zU_u zU_r hZ66 (Or.inl rfl)
                    have hZ66K : zC [1, 2] Z Z66 := zC_u zC_r hZ66 (by decide)
                    intro μ9 e9
                    replace e9 := e9.trans (zm_wI (Z := Z) (ν := ν) hZ66 (show ((0 : Nat) : Int) = 0 from rfl) (show ((0 : Nat) : Int) = 0 from rfl) (show ((2 : Nat) : Int) = 2 from rfl) (show (1 : Int32) = i3 1 from rfl))
                    subst e9
                    exact zlY hP (show (0 : Int32) = i3 0 from rfl) (.inl rfl) ⟨hZ66I, hZ66K, hZ66U⟩
                  · replace hP := zE_n hP h65
                    obtain ⟨Z67, hZ67⟩ := zx (zu Z 1 0 0 2 0)
                    replace hP := zl_e hP hZ67
                    have hZ67I := zM_0 hZ hZ67 (by decide) (Or.inr (by decide))
                    have hZ67U : zU [] Z Z67 := zU_u zU_r hZ67 (Or.inl rfl)
                    have hZ67K : zC [1, 2] Z Z67 := zC_u zC_r hZ67 (by decide)
                    intro μ9 e9
                    replace e9 := e9.trans (zm_wI (Z := Z) (ν := ν) hZ67 (show ((0 : Nat) : Int) = 0 from rfl) (show ((0 : Nat) : Int) = 0 from rfl) (show ((2 : Nat) : Int) = 2 from rfl) (show (0 : Int32) = i3 0 from rfl))
                    subst e9
                    obtain ⟨Z68, hZ68⟩ := zx (zu Z67 1 0 0 2 2)
                    replace hP := zl_e hP hZ68
                    have hZ68I := zM_u hZ67I hZ68 (lo := -2147483648) (hi := 2147483647) (by decide) rfl (by omega) ⟨by decide, by decide⟩ (Or.inr (by decide)) rfl
                    have hZ68U : zU [] Z Z68 := zU_u hZ67U hZ68 (Or.inl rfl)
                    have hZ68K : zC [1, 2] Z Z68 := zC_u hZ67K hZ68 (by decide)
                    intro μ9 e9
                    replace e9 := e9.trans (zm_wI (Z := Z67) (ν := ν) hZ68 (show ((0 : Nat) : Int) = 0 from rfl) (show ((0 : Nat) : Int) = 0 from rfl) (show ((2 : Nat) : Int) = 2 from rfl) (show (2 : Int32) = i3 2 from rfl))
                    subst e9
                    exact zlY hP (show (0 : Int32) = i3 0 from rfl) (.inl rfl) ⟨hZ68I, hZ68K, hZ68U⟩
          · replace hP := zE_n hP h56
            refine wz_br (i3L (show (9999 : Int32) = i3 9999 from rfl) (rfl : i3 a5 = i3 a5) (by omega) (by omega) (by omega) (by omega)) (fun h69 => ?_) (fun h69 => ?_)
            · replace hP := zE_p hP h69
              refine wz_br (i3L (rfl : i3 a1 = i3 a1) (show (0 : Int32) = i3 0 from rfl) (by omega) (by omega) (by omega) (by omega)) (fun h70 => ?_) (fun h70 => ?_)
              · replace hP := zE_p hP h70
                obtain ⟨Z71, hZ71⟩ := zx (zu Z 1 0 0 2 1)
                replace hP := zl_e hP hZ71
                have hZ71I := zM_u hZ hZ71 (lo := -2147483648) (hi := 2147483647) (by decide) rfl (by omega) ⟨by decide, by decide⟩ (Or.inr (by decide)) rfl
                have hZ71U : zU [] Z Z71 := zU_u zU_r hZ71 (Or.inl rfl)
                have hZ71K : zC [1, 2] Z Z71 := zC_u zC_r hZ71 (by decide)
                intro μ9 e9
                replace e9 := e9.trans (zm_wI (Z := Z) (ν := ν) hZ71 (show ((0 : Nat) : Int) = 0 from rfl) (show ((0 : Nat) : Int) = 0 from rfl) (show ((2 : Nat) : Int) = 2 from rfl) (show (1 : Int32) = i3 1 from rfl))
                subst e9
                exact zlY hP (show (0 : Int32) = i3 0 from rfl) (.inl rfl) ⟨hZ71I, hZ71K, hZ71U⟩
              · replace hP := zE_n hP h70
                have r72 := zM_k hZ 2 0 0 1400 (lo := 0) (hi := 8) (by decide) rfl
                refine wz_br (i3L (i3S (zm_rd (Z := Z) (ν := ν) (k := 2) (show ((0 : Nat) : Int) = 0 from rfl) (show ((0 : Nat) : Int) = 0 from rfl) (show ((1400 : Nat) : Int) = 1400 from rfl)) (show (1 : Int32) = i3 1 from rfl)) (rfl : i3 a1 = i3 a1) (by omega) (by omega) (by omega) (by omega)) (fun h73 => ?_) (fun h73 => ?_)
                · replace hP := zE_p hP h73
                  obtain ⟨Z74, hZ74⟩ := zx (zu Z 1 0 0 2 1)
                  replace hP := zl_e hP hZ74
                  have hZ74I := zM_u hZ hZ74 (lo := -2147483648) (hi := 2147483647) (by decide) rfl (by omega) ⟨by decide, by decide⟩ (Or.inr (by decide)) rfl
                  have hZ74U : zU [] Z Z74 := zU_u zU_r hZ74 (Or.inl rfl)
                  have hZ74K : zC [1, 2] Z Z74 := zC_u zC_r hZ74 (by decide)
                  intro μ9 e9
                  replace e9 := e9.trans (zm_wI (Z := Z) (ν := ν) hZ74 (show ((0 : Nat) : Int) = 0 from rfl) (show ((0 : Nat) : Int) = 0 from rfl) (show ((2 : Nat) : Int) = 2 from rfl) (show (1 : Int32) = i3 1 from rfl))
                  subst e9
                  exact zlY hP (show (0 : Int32) = i3 0 from rfl) (.inl rfl) ⟨hZ74I, hZ74K, hZ74U⟩
                · replace hP := zE_n hP h73
                  refine wz_br (i3L (rfl : i3 a2 = i3 a2) (show (0 : Int32) = i3 0 from rfl) (by omega) (by omega) (by omega) (by omega)) (fun h75 => ?_) (fun h75 => ?_)
                  · replace hP := zE_p hP h75
                    obtain ⟨Z76, hZ76⟩ := zx (zu Z 1 0 0 2 1)
                    replace hP := zl_e hP hZ76
                    have hZ76I := zM_u hZ hZ76 (lo := -2147483648) (hi := 2147483647) (by decide) rfl (by omega) ⟨by decide, by decide⟩ (Or.inr (by decide)) rfl
                    have hZ76U : zU [] Z Z76 := zU_u zU_r hZ76 (Or.inl rfl)
                    have hZ76K : zC [1, 2] Z Z76 := zC_u zC_r hZ76 (by decide)
                    intro μ9 e9
                    replace e9 := e9.trans (zm_wI (Z := Z) (ν := ν) hZ76 (show ((0 : Nat) : Int) = 0 from rfl) (show ((0 : Nat) : Int) = 0 from rfl) (show ((2 : Nat) : Int) = 2 from rfl) (show (1 : Int32) = i3 1 from rfl))
                    subst e9
                    exact zlY hP (show (0 : Int32) = i3 0 from rfl) (.inl rfl) ⟨hZ76I, hZ76K, hZ76U⟩
                  · replace hP := zE_n hP h75
                    have r77 := zM_k hZ 2 0 0 100 (lo := 0) (hi := 5) (by decide) rfl
                    refine wz_br (i3L (i3S (zm_rd (Z := Z) (ν := ν) (k := 2) (show ((0 : Nat) : Int) = 0 from rfl) (show ((0 : Nat) : Int) = 0 from rfl) (show ((100 : Nat) : Int) = 100 from rfl)) (show (1 : Int32) = i3 1 from rfl)) (rfl : i3 a2 = i3 a2) (by omega) (by omega) (by omega) (by omega)) (fun h78 => ?_) (fun h78 => ?_)
                    · replace hP := zE_p hP h78
                      obtain ⟨Z79, hZ79⟩ := zx (zu Z 1 0 0 2 1)
                      replace hP := zl_e hP hZ79
                      have hZ79I := zM_u hZ hZ79 (lo := -2147483648) (hi := 2147483647) (by decide) rfl (by omega) ⟨by decide, by decide⟩ (Or.inr (by decide)) rfl
                      have hZ79U : zU [] Z Z79 := zU_u zU_r hZ79 (Or.inl rfl)
                      have hZ79K : zC [1, 2] Z Z79 := zC_u zC_r hZ79 (by decide)
                      intro μ9 e9
                      replace e9 := e9.trans (zm_wI (Z := Z) (ν := ν) hZ79 (show ((0 : Nat) : Int) = 0 from rfl) (show ((0 : Nat) : Int) = 0 from rfl) (show ((2 : Nat) : Int) = 2 from rfl) (show (1 : Int32) = i3 1 from rfl))
                      subst e9
                      exact zlY hP (show (0 : Int32) = i3 0 from rfl) (.inl rfl) ⟨hZ79I, hZ79K, hZ79U⟩
                    · replace hP := zE_n hP h78
                      obtain ⟨Z80, hZ80⟩ := zx (zu Z 1 0 0 2 0)
                      replace hP := zl_e hP hZ80
                      have hZ80I := zM_0 hZ hZ80 (by decide) (Or.inr (by decide))
                      have hZ80U : zU [] Z Z80 := zU_u zU_r hZ80 (Or.inl rfl)
                      have hZ80K : zC [1, 2] Z Z80 := zC_u zC_r hZ80 (by decide)
                      intro μ9 e9
                      replace e9 := e9.trans (zm_wI (Z := Z) (ν := ν) hZ80 (show ((0 : Nat) : Int) = 0 from rfl) (show ((0 : Nat) : Int) = 0 from rfl) (show ((2 : Nat) : Int) = 2 from rfl) (show (0 : Int32) = i3 0 from rfl))
                      subst e9
                      obtain ⟨Z81, hZ81⟩ := zx (zu Z80 1 0 0 2 2)
                      replace hP := zl_e hP hZ81
                      have hZ81I := zM_u hZ80I hZ81 (lo := -2147483648) (hi := 2147483647) (by decide) rfl (by omega) ⟨by decide, by decide⟩ (Or.inr (by decide)) rfl
                      have hZ81U : zU [] Z Z81 := zU_u hZ80U hZ81 (Or.inl rfl)
                      have hZ81K : zC [1, 2] Z Z81 := zC_u hZ80K hZ81 (by decide)
                      intro μ9 e9
                      replace e9 := e9.trans (zm_wI (Z := Z80) (ν := ν) hZ81 (show ((0 : Nat) : Int) = 0 from rfl) (show ((0 : Nat) : Int) = 0 from rfl) (show ((2 : Nat) : Int) = 2 from rfl) (show (2 : Int32) = i3 2 from rfl))
                      subst e9
                      exact zlY hP (show (0 : Int32) = i3 0 from rfl) (.inl rfl) ⟨hZ81I, hZ81K, hZ81U⟩
            · replace hP := zE_n hP h69
              refine wz_br (i3L (rfl : i3 a6 = i3 a6) (show (1 : Int32) = i3 1 from rfl) (by omega) (by omega) (by omega) (by omega)) (fun h82 => ?_) (fun h82 => ?_)
              · replace hP := zE_p hP h82
                refine wz_br (i3L (rfl : i3 a1 = i3 a1) (show (0 : Int32) = i3 0 from rfl) (by omega) (by omega) (by omega) (by omega)) (fun h83 => ?_) (fun h83 => ?_)
                · replace hP := zE_p hP h83
                  obtain ⟨Z84, hZ84⟩ := zx (zu Z 1 0 0 2 1)
                  replace hP := zl_e hP hZ84
                  have hZ84I := zM_u hZ hZ84 (lo := -2147483648) (hi := 2147483647) (by decide) rfl (by omega) ⟨by decide, by decide⟩ (Or.inr (by decide)) rfl
                  have hZ84U : zU [] Z Z84 := zU_u zU_r hZ84 (Or.inl rfl)
                  have hZ84K : zC [1, 2] Z Z84 := zC_u zC_r hZ84 (by decide)
                  intro μ9 e9
                  replace e9 := e9.trans (zm_wI (Z := Z) (ν := ν) hZ84 (show ((0 : Nat) : Int) = 0 from rfl) (show ((0 : Nat) : Int) = 0 from rfl) (show ((2 : Nat) : Int) = 2 from rfl) (show (1 : Int32) = i3 1 from rfl))
                  subst e9
                  exact zlY hP (show (0 : Int32) = i3 0 from rfl) (.inl rfl) ⟨hZ84I, hZ84K, hZ84U⟩
                · replace hP := zE_n hP h83
                  have r85 := zM_k hZ 2 0 0 1400 (lo := 0) (hi := 8) (by decide) rfl
                  refine wz_br (i3L (i3S (zm_rd (Z := Z) (ν := ν) (k := 2) (show ((0 : Nat) : Int) = 0 from rfl) (show ((0 : Nat) : Int) = 0 from rfl) (show ((1400 : Nat) : Int) = 1400 from rfl)) (show (1 : Int32) = i3 1 from rfl)) (rfl : i3 a1 = i3 a1) (by omega) (by omega) (by omega) (by omega)) (fun h86 => ?_) (fun h86 => ?_)
                  · replace hP := zE_p hP h86
                    obtain ⟨Z87, hZ87⟩ := zx (zu Z 1 0 0 2 1)
                    replace hP := zl_e hP hZ87
                    have hZ87I := zM_u hZ hZ87 (lo := -2147483648) (hi := 2147483647) (by decide) rfl (by omega) ⟨by decide, by decide⟩ (Or.inr (by decide)) rfl
                    have hZ87U : zU [] Z Z87 := zU_u zU_r hZ87 (Or.inl rfl)
                    have hZ87K : zC [1, 2] Z Z87 := zC_u zC_r hZ87 (by decide)
                    intro μ9 e9
                    replace e9 := e9.trans (zm_wI (Z := Z) (ν := ν) hZ87 (show ((0 : Nat) : Int) = 0 from rfl) (show ((0 : Nat) : Int) = 0 from rfl) (show ((2 : Nat) : Int) = 2 from rfl) (show (1 : Int32) = i3 1 from rfl))
                    subst e9
                    exact zlY hP (show (0 : Int32) = i3 0 from rfl) (.inl rfl) ⟨hZ87I, hZ87K, hZ87U⟩
                  · replace hP := zE_n hP h86
                    refine wz_br (i3L (rfl : i3 a2 = i3 a2) (show (0 : Int32) = i3 0 from rfl) (by omega) (by omega) (by omega) (by omega)) (fun h88 => ?_) (fun h88 => ?_)
                    · replace hP := zE_p hP h88
                      obtain ⟨Z89, hZ89⟩ := zx (zu Z 1 0 0 2 1)
                      replace hP := zl_e hP hZ89
                      have hZ89I := zM_u hZ hZ89 (lo := -2147483648) (hi := 2147483647) (by decide) rfl (by omega) ⟨by decide, by decide⟩ (Or.inr (by decide)) rfl
                      have hZ89U : zU [] Z Z89 := zU_u zU_r hZ89 (Or.inl rfl)
                      have hZ89K : zC [1, 2] Z Z89 := zC_u zC_r hZ89 (by decide)
                      intro μ9 e9
                      replace e9 := e9.trans (zm_wI (Z := Z) (ν := ν) hZ89 (show ((0 : Nat) : Int) = 0 from rfl) (show ((0 : Nat) : Int) = 0 from rfl) (show ((2 : Nat) : Int) = 2 from rfl) (show (1 : Int32) = i3 1 from rfl))
                      subst e9
                      exact zlY hP (show (0 : Int32) = i3 0 from rfl) (.inl rfl) ⟨hZ89I, hZ89K, hZ89U⟩
                    · replace hP := zE_n hP h88
                      have r90 := zM_k hZ 2 0 0 100 (lo := 0) (hi := 5) (by decide) rfl
                      refine wz_br (i3L (i3S (zm_rd (Z := Z) (ν := ν) (k := 2) (show ((0 : Nat) : Int) = 0 from rfl) (show ((0 : Nat) : Int) = 0 from rfl) (show ((100 : Nat) : Int) = 100 from rfl)) (show (1 : Int32) = i3 1 from rfl)) (rfl : i3 a2 = i3 a2) (by omega) (by omega) (by omega) (by omega)) (fun h91 => ?_) (fun h91 => ?_)
                      · replace hP := zE_p hP h91
                        obtain ⟨Z92, hZ92⟩ := zx (zu Z 1 0 0 2 1)
                        replace hP := zl_e hP hZ92
                        have hZ92I := zM_u hZ hZ92 (lo := -2147483648) (hi := 2147483647) (by decide) rfl (by omega) ⟨by decide, by decide⟩ (Or.inr (by decide)) rfl
                        have hZ92U : zU [] Z Z92 := zU_u zU_r hZ92 (Or.inl rfl)
                        have hZ92K : zC [1, 2] Z Z92 := zC_u zC_r hZ92 (by decide)
                        intro μ9 e9
                        replace e9 := e9.trans (zm_wI (Z := Z) (ν := ν) hZ92 (show ((0 : Nat) : Int) = 0 from rfl) (show ((0 : Nat) : Int) = 0 from rfl) (show ((2 : Nat) : Int) = 2 from rfl) (show (1 : Int32) = i3 1 from rfl))
                        subst e9
                        exact zlY hP (show (0 : Int32) = i3 0 from rfl) (.inl rfl) ⟨hZ92I, hZ92K, hZ92U⟩
                      · replace hP := zE_n hP h91
                        obtain ⟨Z93, hZ93⟩ := zx (zu Z 1 0 0 2 0)
                        replace hP := zl_e hP hZ93
                        have hZ93I := zM_0 hZ hZ93 (by decide) (Or.inr (by decide))
                        have hZ93U : zU [] Z Z93 := zU_u zU_r hZ93 (Or.inl rfl)
                        have hZ93K : zC [1, 2] Z Z93 := zC_u zC_r hZ93 (by decide)
                        intro μ9 e9
                        replace e9 := e9.trans (zm_wI (Z := Z) (ν := ν) hZ93 (show ((0 : Nat) : Int) = 0 from rfl) (show ((0 : Nat) : Int) = 0 from rfl) (show ((2 : Nat) : Int) = 2 from rfl) (show (0 : Int32) = i3 0 from rfl))
                        subst e9
                        obtain ⟨Z94, hZ94⟩ := zx (zu Z93 1 0 0 2 2)
                        replace hP := zl_e hP hZ94
                        have hZ94I := zM_u hZ93I hZ94 (lo := -2147483648) (hi := 2147483647) (by decide) rfl (by omega) ⟨by decide, by decide⟩ (Or.inr (by decide)) rfl
                        have hZ94U : zU [] Z Z94 := zU_u hZ93U hZ94 (Or.inl rfl)
                        have hZ94K : zC [1, 2] Z Z94 := zC_u hZ93K hZ94 (by decide)
                        intro μ9 e9
                        replace e9 := e9.trans (zm_wI (Z := Z93) (ν := ν) hZ94 (show ((0 : Nat) : Int) = 0 from rfl) (show ((0 : Nat) : Int) = 0 from rfl) (show ((2 : Nat) : Int) = 2 from rfl) (show (2 : Int32) = i3 2 from rfl))
                        subst e9
                        exact zlY hP (show (0 : Int32) = i3 0 from rfl) (.inl rfl) ⟨hZ94I, hZ94K, hZ94U⟩
              · replace hP := zE_n hP h82
                refine wz_br (i3L (show (127 : Int32) = i3 127 from rfl) (rfl : i3 a6 = i3 a6) (by omega) (by omega) (by omega) (by omega)) (fun h95 => ?_) (fun h95 => ?_)
                · replace hP := zE_p hP h95
                  refine wz_br (i3L (rfl : i3 a1 = i3 a1) (show (0 : Int32) = i3 0 from rfl) (by omega) (by omega) (by omega) (by omega)) (fun h96 => ?_) (fun h96 => ?_)
                  · replace hP := zE_p hP h96
                    obtain ⟨Z97, hZ97⟩ := zx (zu Z 1 0 0 2 1)
                    replace hP := zl_e hP hZ97
                    have hZ97I := zM_u hZ hZ97 (lo := -2147483648) (hi := 2147483647) (by decide) rfl (by omega) ⟨by decide, by decide⟩ (Or.inr (by decide)) rfl
                    have hZ97U : zU [] Z Z97 := zU_u zU_r hZ97 (Or.inl rfl)
                    have hZ97K : zC [1, 2] Z Z97 := zC_u zC_r hZ97 (by decide)
                    intro μ9 e9
                    replace e9 := e9.trans (zm_wI (Z := Z) (ν := ν) hZ97 (show ((0 : Nat) : Int) = 0 from rfl) (show ((0 : Nat) : Int) = 0 from rfl) (show ((2 : Nat) : Int) = 2 from rfl) (show (1 : Int32) = i3 1 from rfl))
                    subst e9
                    exact zlY hP (show (0 : Int32) = i3 0 from rfl) (.inl rfl) ⟨hZ97I, hZ97K, hZ97U⟩
                  · replace hP := zE_n hP h96
                    have r98 := zM_k hZ 2 0 0 1400 (lo := 0) (hi := 8) (by decide) rfl
                    refine wz_br (i3L (i3S (zm_rd (Z := Z) (ν := ν) (k := 2) (show ((0 : Nat) : Int) = 0 from rfl) (show ((0 : Nat) : Int) = 0 from rfl) (show ((1400 : Nat) : Int) = 1400 from rfl)) (show (1 : Int32) = i3 1 from rfl)) (rfl : i3 a1 = i3 a1) (by omega) (by omega) (by omega) (by omega)) (fun h99 => ?_) (fun h99 => ?_)
                    · replace hP := zE_p hP h99
                      obtain ⟨Z100, hZ100⟩ := zx (zu Z 1 0 0 2 1)
                      replace hP := zl_e hP hZ100
                      have hZ100I := zM_u hZ hZ100 (lo := -2147483648) (hi := 2147483647) (by decide) rfl (by omega) ⟨by decide, by decide⟩ (Or.inr (by decide)) rfl
                      have hZ100U : zU [] Z Z100 := zU_u zU_r hZ100 (Or.inl rfl)
                      have hZ100K : zC [1, 2] Z Z100 := zC_u zC_r hZ100 (by decide)
                      intro μ9 e9
                      replace e9 := e9.trans (zm_wI (Z := Z) (ν := ν) hZ100 (show ((0 : Nat) : Int) = 0 from rfl) (show ((0 : Nat) : Int) = 0 from rfl) (show ((2 : Nat) : Int) = 2 from rfl) (show (1 : Int32) = i3 1 from rfl))
                      subst e9
                      exact zlY hP (show (0 : Int32) = i3 0 from rfl) (.inl rfl) ⟨hZ100I, hZ100K, hZ100U⟩
                    · replace hP := zE_n hP h99
                      refine wz_br (i3L (rfl : i3 a2 = i3 a2) (show (0 : Int32) = i3 0 from rfl) (by omega) (by omega) (by omega) (by omega)) (fun h101 => ?_) (fun h101 => ?_)
                      · replace hP := zE_p hP h101
                        obtain ⟨Z102, hZ102⟩ := zx (zu Z 1 0 0 2 1)
                        replace hP := zl_e hP hZ102
                        have hZ102I := zM_u hZ hZ102 (lo := -2147483648) (hi := 2147483647) (by decide) rfl (by omega) ⟨by decide, by decide⟩ (Or.inr (by decide)) rfl
                        have hZ102U : zU [] Z Z102 := zU_u zU_r hZ102 (Or.inl rfl)
                        have hZ102K : zC [1, 2] Z Z102 := zC_u zC_r hZ102 (by decide)
                        intro μ9 e9
                        replace e9 := e9.trans (zm_wI (Z := Z) (ν := ν) hZ102 (show ((0 : Nat) : Int) = 0 from rfl) (show ((0 : Nat) : Int) = 0 from rfl) (show ((2 : Nat) : Int) = 2 from rfl) (show (1 : Int32) = i3 1 from rfl))
                        subst e9
                        exact zlY hP (show (0 : Int32) = i3 0 from rfl) (.inl rfl) ⟨hZ102I, hZ102K, hZ102U⟩
                      · replace hP := zE_n hP h101
                        have r103 := zM_k hZ 2 0 0 100 (lo := 0) (hi := 5) (by decide) rfl
                        refine wz_br (i3L (i3S (zm_rd (Z := Z) (ν := ν) (k := 2) (show ((0 : Nat) : Int) = 0 from rfl) (show ((0 : Nat) : Int) = 0 from rfl) (show ((100 : Nat) : Int) = 100 from rfl)) (show (1 : Int32) = i3 1 from rfl)) (rfl : i3 a2 = i3 a2) (by omega) (by omega) (by omega) (by omega)) (fun h104 => ?_) (fun h104 => ?_)
                        · replace hP := zE_p hP h104
                          obtain ⟨Z105, hZ105⟩ := zx (zu Z 1 0 0 2 1)
                          replace hP := zl_e hP hZ105
                          have hZ105I := zM_u hZ hZ105 (lo := -2147483648) (hi := 2147483647) (by decide) rfl (by omega) ⟨by decide, by decide⟩ (Or.inr (by decide)) rfl
                          have hZ105U : zU [] Z Z105 := zU_u zU_r hZ105 (Or.inl rfl)
                          have hZ105K : zC [1, 2] Z Z105 := zC_u zC_r hZ105 (by decide)
                          intro μ9 e9
                          replace e9 := e9.trans (zm_wI (Z := Z) (ν := ν) hZ105 (show ((0 : Nat) : Int) = 0 from rfl) (show ((0 : Nat) : Int) = 0 from rfl) (show ((2 : Nat) : Int) = 2 from rfl) (show (1 : Int32) = i3 1 from rfl))
                          subst e9
                          exact zlY hP (show (0 : Int32) = i3 0 from rfl) (.inl rfl) ⟨hZ105I, hZ105K, hZ105U⟩
                        · replace hP := zE_n hP h104
                          obtain ⟨Z106, hZ106⟩ := zx (zu Z 1 0 0 2 0)
                          replace hP := zl_e hP hZ106
                          have hZ106I := zM_0 hZ hZ106 (by decide) (Or.inr (by decide))
                          have hZ106U : zU [] Z Z106 := zU_u zU_r hZ106 (Or.inl rfl)
                          have hZ106K : zC [1, 2] Z Z106 := zC_u zC_r hZ106 (by decide)
                          intro μ9 e9
                          replace e9 := e9.trans (zm_wI (Z := Z) (ν := ν) hZ106 (show ((0 : Nat) : Int) = 0 from rfl) (show ((0 : Nat) : Int) = 0 from rfl) (show ((2 : Nat) : Int) = 2 from rfl) (show (0 : Int32) = i3 0 from rfl))
                          subst e9
                          obtain ⟨Z107, hZ107⟩ := zx (zu Z106 1 0 0 2 2)
                          replace hP := zl_e hP hZ107
                          have hZ107I := zM_u hZ106I hZ107 (lo := -2147483648) (hi := 2147483647) (by decide) rfl (by omega) ⟨by decide, by decide⟩ (Or.inr (by decide)) rfl
                          have hZ107U : zU [] Z Z107 := zU_u hZ106U hZ107 (Or.inl rfl)
                          have hZ107K : zC [1, 2] Z Z107 := zC_u hZ106K hZ107 (by decide)
                          intro μ9 e9
                          replace e9 := e9.trans (zm_wI (Z := Z106) (ν := ν) hZ107 (show ((0 : Nat) : Int) = 0 from rfl) (show ((0 : Nat) : Int) = 0 from rfl) (show ((2 : Nat) : Int) = 2 from rfl) (show (2 : Int32) = i3 2 from rfl))
                          subst e9
                          exact zlY hP (show (0 : Int32) = i3 0 from rfl) (.inl rfl) ⟨hZ107I, hZ107K, hZ107U⟩
                · replace hP := zE_n hP h95
                  refine wz_br (i3L (rfl : i3 a1 = i3 a1) (show (0 : Int32) = i3 0 from rfl) (by omega) (by omega) (by omega) (by omega)) (fun h108 => ?_) (fun h108 => ?_)
                  · replace hP := zE_p hP h108
                    obtain ⟨Z109, hZ109⟩ := zx (zu Z 1 0 0 2 1)
                    replace hP := zl_e hP hZ109
                    have hZ109I := zM_u hZ hZ109 (lo := -2147483648) (hi := 2147483647) (by decide) rfl (by omega) ⟨by decide, by decide⟩ (Or.inr (by decide)) rfl
                    have hZ109U : zU [] Z Z109 := zU_u zU_r hZ109 (Or.inl rfl)
                    have hZ109K : zC [1, 2] Z Z109 := zC_u zC_r hZ109 (by decide)
                    intro μ9 e9
                    replace e9 := e9.trans (zm_wI (Z := Z) (ν := ν) hZ109 (show ((0 : Nat) : Int) = 0 from rfl) (show ((0 : Nat) : Int) = 0 from rfl) (show ((2 : Nat) : Int) = 2 from rfl) (show (1 : Int32) = i3 1 from rfl))
                    subst e9
                    exact zlY hP (show (0 : Int32) = i3 0 from rfl) (.inl rfl) ⟨hZ109I, hZ109K, hZ109U⟩
                  · replace hP := zE_n hP h108
                    have r110 := zM_k hZ 2 0 0 1400 (lo := 0) (hi := 8) (by decide) rfl
                    refine wz_br (i3L (i3S (zm_rd (Z := Z) (ν := ν) (k := 2) (show ((0 : Nat) : Int) = 0 from rfl) (show ((0 : Nat) : Int) = 0 from rfl) (show ((1400 : Nat) : Int) = 1400 from rfl)) (show (1 : Int32) = i3 1 from rfl)) (rfl : i3 a1 = i3 a1) (by omega) (by omega) (by omega) (by omega)) (fun h111 => ?_) (fun h111 => ?_)
                    · replace hP := zE_p hP h111
                      obtain ⟨Z112, hZ112⟩ := zx (zu Z 1 0 0 2 1)
                      replace hP := zl_e hP hZ112
                      have hZ112I := zM_u hZ hZ112 (lo := -2147483648) (hi := 2147483647) (by decide) rfl (by omega) ⟨by decide, by decide⟩ (Or.inr (by decide)) rfl
                      have hZ112U : zU [] Z Z112 := zU_u zU_r hZ112 (Or.inl rfl)
                      have hZ112K : zC [1, 2] Z Z112 := zC_u zC_r hZ112 (by decide)
                      intro μ9 e9
                      replace e9 := e9.trans (zm_wI (Z := Z) (ν := ν) hZ112 (show ((0 : Nat) : Int) = 0 from rfl) (show ((0 : Nat) : Int) = 0 from rfl) (show ((2 : Nat) : Int) = 2 from rfl) (show (1 : Int32) = i3 1 from rfl))
                      subst e9
                      exact zlY hP (show (0 : Int32) = i3 0 from rfl) (.inl rfl) ⟨hZ112I, hZ112K, hZ112U⟩
                    · replace hP := zE_n hP h111
                      refine wz_br (i3L (rfl : i3 a2 = i3 a2) (show (0 : Int32) = i3 0 from rfl) (by omega) (by omega) (by omega) (by omega)) (fun h113 => ?_) (fun h113 => ?_)
                      · replace hP := zE_p hP h113
                        obtain ⟨Z114, hZ114⟩ := zx (zu Z 1 0 0 2 1)
                        replace hP := zl_e hP hZ114
                        have hZ114I := zM_u hZ hZ114 (lo := -2147483648) (hi := 2147483647) (by decide) rfl (by omega) ⟨by decide, by decide⟩ (Or.inr (by decide)) rfl
                        have hZ114U : zU [] Z Z114 := zU_u zU_r hZ114 (Or.inl rfl)
                        have hZ114K : zC [1, 2] Z Z114 := zC_u zC_r hZ114 (by decide)
                        intro μ9 e9
                        replace e9 := e9.trans (zm_wI (Z := Z) (ν := ν) hZ114 (show ((0 : Nat) : Int) = 0 from rfl) (show ((0 : Nat) : Int) = 0 from rfl) (show ((2 : Nat) : Int) = 2 from rfl) (show (1 : Int32) = i3 1 from rfl))
                        subst e9
                        exact zlY hP (show (0 : Int32) = i3 0 from rfl) (.inl rfl) ⟨hZ114I, hZ114K, hZ114U⟩
                      · replace hP := zE_n hP h113
                        have r115 := zM_k hZ 2 0 0 100 (lo := 0) (hi := 5) (by decide) rfl
                        refine wz_br (i3L (i3S (zm_rd (Z := Z) (ν := ν) (k := 2) (show ((0 : Nat) : Int) = 0 from rfl) (show ((0 : Nat) : Int) = 0 from rfl) (show ((100 : Nat) : Int) = 100 from rfl)) (show (1 : Int32) = i3 1 from rfl)) (rfl : i3 a2 = i3 a2) (by omega) (by omega) (by omega) (by omega)) (fun h116 => ?_) (fun h116 => ?_)
                        · replace hP := zE_p hP h116
                          obtain ⟨Z117, hZ117⟩ := zx (zu Z 1 0 0 2 1)
                          replace hP := zl_e hP hZ117
                          have hZ117I := zM_u hZ hZ117 (lo := -2147483648) (hi := 2147483647) (by decide) rfl (by omega) ⟨by decide, by decide⟩ (Or.inr (by decide)) rfl
                          have hZ117U : zU [] Z Z117 := zU_u zU_r hZ117 (Or.inl rfl)
                          have hZ117K : zC [1, 2] Z Z117 := zC_u zC_r hZ117 (by decide)
                          intro μ9 e9
                          replace e9 := e9.trans (zm_wI (Z := Z) (ν := ν) hZ117 (show ((0 : Nat) : Int) = 0 from rfl) (show ((0 : Nat) : Int) = 0 from rfl) (show ((2 : Nat) : Int) = 2 from rfl) (show (1 : Int32) = i3 1 from rfl))
                          subst e9
                          exact zlY hP (show (0 : Int32) = i3 0 from rfl) (.inl rfl) ⟨hZ117I, hZ117K, hZ117U⟩
                        · replace hP := zE_n hP h116
                          obtain ⟨Z118, hZ118⟩ := zx (zu Z 1 0 0 2 0)
                          replace hP := zl_e hP hZ118
                          have hZ118I := zM_0 hZ hZ118 (by decide) (Or.inr (by decide))
                          have hZ118U : zU [] Z Z118 := zU_u zU_r hZ118 (Or.inl rfl)
                          have hZ118K : zC [1, 2] Z Z118 := zC_u zC_r hZ118 (by decide)
                          intro μ9 e9
                          replace e9 := e9.trans (zm_wI (Z := Z) (ν := ν) hZ118 (show ((0 : Nat) : Int) = 0 from rfl) (show ((0 : Nat) : Int) = 0 from rfl) (show ((2 : Nat) : Int) = 2 from rfl) (show (0 : Int32) = i3 0 from rfl))
                          subst e9
                          obtain ⟨Z119, hZ119⟩ := zx (zu Z118 1 0 0 2 0)
                          replace hP := zl_e hP hZ119
                          have hZ119I := zM_0 hZ118I hZ119 (by decide) (Or.inr (by decide))
                          have hZ119U : zU [] Z Z119 := zU_u hZ118U hZ119 (Or.inl rfl)
                          have hZ119K : zC [1, 2] Z Z119 := zC_u hZ118K hZ119 (by decide)
                          intro μ9 e9
                          replace e9 := e9.trans (zm_wI (Z := Z118) (ν := ν) hZ119 (show ((0 : Nat) : Int) = 0 from rfl) (show ((0 : Nat) : Int) = 0 from rfl) (show ((2 : Nat) : Int) = 2 from rfl) (show (0 : Int32) = i3 0 from rfl))
                          subst e9
                          have r120 := zM_k hZ119I 2 0 0 1401 (lo := 0) (hi := 24) (by decide) rfl
                          refine wz_br (i3Le (show (24 : Int32) = i3 24 from rfl) (zm_rd (Z := Z119) (ν := ν) (k := 2) (show ((0 : Nat) : Int) = 0 from rfl) (show ((0 : Nat) : Int) = 0 from rfl) (show ((1401 : Nat) : Int) = 1401 from rfl)) (by omega) (by omega) (by omega) (by omega)) (fun h121 => ?_) (fun h121 => ?_)
                          · replace hP := zE_p hP h121
                            obtain ⟨Z122, hZ122⟩ := zx (zu Z119 1 0 0 2 3)
                            replace hP := zl_e hP hZ122
                            have hZ122I := zM_u hZ119I hZ122 (lo := -2147483648) (hi := 2147483647) (by decide) rfl (by omega) ⟨by decide, by decide⟩ (Or.inr (by decide)) rfl
                            have hZ122U : zU [] Z Z122 := zU_u hZ119U hZ122 (Or.inl rfl)
                            have hZ122K : zC [1, 2] Z Z122 := zC_u hZ119K hZ122 (by decide)
                            intro μ9 e9
                            replace e9 := e9.trans (zm_wI (Z := Z119) (ν := ν) hZ122 (show ((0 : Nat) : Int) = 0 from rfl) (show ((0 : Nat) : Int) = 0 from rfl) (show ((2 : Nat) : Int) = 2 from rfl) (show (3 : Int32) = i3 3 from rfl))
                            subst e9
                            exact zlY hP (show (0 : Int32) = i3 0 from rfl) (.inl rfl) ⟨hZ122I, hZ122K, hZ122U⟩
                          · replace hP := zE_n hP h121
                            obtain ⟨Z123, hZ123⟩ := zx (zu Z119 1 0 0 2 0)
                            replace hP := zl_e hP hZ123
                            have hZ123I := zM_0 hZ119I hZ123 (by decide) (Or.inr (by decide))
                            have hZ123U : zU [] Z Z123 := zU_u hZ119U hZ123 (Or.inl rfl)
                            have hZ123K : zC [1, 2] Z Z123 := zC_u hZ119K hZ123 (by decide)
                            intro μ9 e9
                            replace e9 := e9.trans (zm_wI (Z := Z119) (ν := ν) hZ123 (show ((0 : Nat) : Int) = 0 from rfl) (show ((0 : Nat) : Int) = 0 from rfl) (show ((2 : Nat) : Int) = 2 from rfl) (show (0 : Int32) = i3 0 from rfl))
                            subst e9
                            have r124 := zM_k hZ123I 1 0 0 35 (lo := 0) (hi := 1) (by decide) rfl
                            have q125 := (zu_ne (k' := 1) (b' := 0) (i' := 0) (j' := 35) hZ123 (fun q => absurd q.2.2.2 (by decide))).trans ((zu_ne (k' := 1) (b' := 0) (i' := 0) (j' := 35) hZ119 (fun q => absurd q.2.2.2 (by decide))).trans (zu_ne (k' := 1) (b' := 0) (i' := 0) (j' := 35) hZ118 (fun q => absurd q.2.2.2 (by decide))))
                            refine wz_i1 (Eq.trans (i3NE (zm_rd (Z := Z123) (ν := ν) (k := 1) (show ((0 : Nat) : Int) = 0 from rfl) (show ((0 : Nat) : Int) = 0 from rfl) (show ((35 : Nat) : Int) = 35 from rfl)) (show (0 : Int32) = i3 0 from rfl) (by omega) (by omega) (by omega) (by omega)) (decide_eq_true (by omega))) ?_
                            replace hP := zl_q hP (rfl : _ = Z123)
                            have r126 := zM_k hZ123I 2 0 0 1401 (lo := 0) (hi := 24) (by decide) rfl
                            have q127 := zu_ne (k' := 2) (b' := 0) (i' := 0) (j' := 1401) hZ123 (fun q => absurd q.1 (by decide))
                            refine wz_i0 (i3O (n := 4400) (i3A (i3A (show (1510 : Int32) = i3 1510 from rfl) (i3M (show (12 : Int32) = i3 12 from rfl) (zm_rd (Z := Z123) (ν := ν) (k := 2) (show ((0 : Nat) : Int) = 0 from rfl) (show ((0 : Nat) : Int) = 0 from rfl) (show ((1401 : Nat) : Int) = 1401 from rfl)))) (show (0 : Int32) = i3 0 from rfl)) (by omega) (by omega) (by omega)) ?_
                            obtain ⟨Z128, hZ128⟩ := zx (zu Z123 2 0 0 (1510 + 12 * (Z123 2 0 0 1401)) a1)
                            replace hP := zl_e hP hZ128
                            have hZ128I := zM_u2 hZ123I hZ128 (lo := 0) (hi := 7) (zs_1510_0 (x := (Z123 2 0 0 1401)) (by omega) (by omega) (by omega)) (by omega) ⟨by decide, by decide⟩ (by simp only [zsp]; omega)
                            have hZ128U : zU [] Z Z128 := zU_u hZ123U hZ128 (Or.inl rfl)
                            have hZ128K : zC [1, 2] Z Z128 := zC_u hZ123K hZ128 (zcl_2w (by omega) rfl)
                            intro μ9 e9
                            replace e9 := e9.trans (zm_wI (Z := Z123) (ν := ν) hZ128 (show ((0 : Nat) : Int) = 0 from rfl) (show ((0 : Nat) : Int) = 0 from rfl) (i3I (y := (1510 + 12 * (Z123 2 0 0 1401))) (i3A (i3A (show (1510 : Int32) = i3 1510 from rfl) (i3M (show (12 : Int32) = i3 12 from rfl) (zm_rd (Z := Z123) (ν := ν) (k := 2) (show ((0 : Nat) : Int) = 0 from rfl) (show ((0 : Nat) : Int) = 0 from rfl) (show ((1401 : Nat) : Int) = 1401 from rfl)))) (show (0 : Int32) = i3 0 from rfl)) (by omega) (by omega) (by omega)) (rfl : i3 a1 = i3 a1))
                            subst e9
                            refine wz_i0 (i3O (n := 4400) (i3A (i3A (show (1510 : Int32) = i3 1510 from rfl) (i3M (show (12 : Int32) = i3 12 from rfl) (zm_rd (Z := Z123) (ν := ν) (k := 2) (show ((0 : Nat) : Int) = 0 from rfl) (show ((0 : Nat) : Int) = 0 from rfl) (show ((1401 : Nat) : Int) = 1401 from rfl)))) (show (1 : Int32) = i3 1 from rfl)) (by omega) (by omega) (by omega)) ?_
                            obtain ⟨Z129, hZ129⟩ := zx (zu Z128 2 0 0 (1511 + 12 * (Z123 2 0 0 1401)) a2)
                            replace hP := zl_e hP hZ129
                            have hZ129I := zM_u2 hZ128I hZ129 (lo := 0) (hi := 4) (zs_1510_1 (x := (Z123 2 0 0 1401)) (by omega) (by omega) (by omega)) (by omega) ⟨by decide, by decide⟩ (by simp only [zsp]; omega)
                            have hZ129U : zU [] Z Z129 := zU_u hZ128U hZ129 (Or.inl rfl)
                            have hZ129K : zC [1, 2] Z Z129 := zC_u hZ128K hZ129 (zcl_2w (by omega) rfl)
                            intro μ9 e9
                            replace e9 := e9.trans (zm_wI (Z := Z128) (ν := ν) hZ129 (show ((0 : Nat) : Int) = 0 from rfl) (show ((0 : Nat) : Int) = 0 from rfl) (i3I (y := (1511 + 12 * (Z123 2 0 0 1401))) (i3A (i3A (show (1510 : Int32) = i3 1510 from rfl) (i3M (show (12 : Int32) = i3 12 from rfl) (zm_rd (Z := Z123) (ν := ν) (k := 2) (show ((0 : Nat) : Int) = 0 from rfl) (show ((0 : Nat) : Int) = 0 from rfl) (show ((1401 : Nat) : Int) = 1401 from rfl)))) (show (1 : Int32) = i3 1 from rfl)) (by omega) (by omega) (by omega)) (rfl : i3 a2 = i3 a2))
                            subst e9
                            refine wz_i0 (i3O (n := 4400) (i3A (i3A (show (1510 : Int32) = i3 1510 from rfl) (i3M (show (12 : Int32) = i3 12 from rfl) (zm_rd (Z := Z123) (ν := ν) (k := 2) (show ((0 : Nat) : Int) = 0 from rfl) (show ((0 : Nat) : Int) = 0 from rfl) (show ((1401 : Nat) : Int) = 1401 from rfl)))) (show (2 : Int32) = i3 2 from rfl)) (by omega) (by omega) (by omega)) ?_
                            obtain ⟨Z130, hZ130⟩ := zx (zu Z129 2 0 0 (1512 + 12 * (Z123 2 0 0 1401)) a3)
                            replace hP := zl_e hP hZ130
                            have hZ130I := zM_u2 hZ129I hZ130 (lo := 0) (hi := 3) (zs_1510_2 (x := (Z123 2 0 0 1401)) (by omega) (by omega) (by omega)) (by omega) ⟨by decide, by decide⟩ (by simp only [zsp]; omega)
                            have hZ130U : zU [] Z Z130 := zU_u hZ129U hZ130 (Or.inl rfl)
                            have hZ130K : zC [1, 2] Z Z130 := zC_u hZ129K hZ130 (zcl_2w (by omega) rfl)
                            intro μ9 e9
                            replace e9 := e9.trans (zm_wI (Z := Z129) (ν := ν) hZ130 (show ((0 : Nat) : Int) = 0 from rfl) (show ((0 : Nat) : Int) = 0 from rfl) (i3I (y := (1512 + 12 * (Z123 2 0 0 1401))) (i3A (i3A (show (1510 : Int32) = i3 1510 from rfl) (i3M (show (12 : Int32) = i3 12 from rfl) (zm_rd (Z := Z123) (ν := ν) (k := 2) (show ((0 : Nat) : Int) = 0 from rfl) (show ((0 : Nat) : Int) = 0 from rfl) (show ((1401 : Nat) : Int) = 1401 from rfl)))) (show (2 : Int32) = i3 2 from rfl)) (by omega) (by omega) (by omega)) (rfl : i3 a3 = i3 a3))
                            subst e9
                            refine wz_i0 (i3O (n := 4400) (i3A (i3A (show (1510 : Int32) = i3 1510 from rfl) (i3M (show (12 : Int32) = i3 12 from rfl) (zm_rd (Z := Z123) (ν := ν) (k := 2) (show ((0 : Nat) : Int) = 0 from rfl) (show ((0 : Nat) : Int) = 0 from rfl) (show ((1401 : Nat) : Int) = 1401 from rfl)))) (show (3 : Int32) = i3 3 from rfl)) (by omega) (by omega) (by omega)) ?_
                            obtain ⟨Z131, hZ131⟩ := zx (zu Z130 2 0 0 (1513 + 12 * (Z123 2 0 0 1401)) a4)
                            replace hP := zl_e hP hZ131
                            have hZ131I := zM_u2 hZ130I hZ131 (lo := 0) (hi := 99) (zs_1510_3 (x := (Z123 2 0 0 1401)) (by omega) (by omega) (by omega)) (by omega) ⟨by decide, by decide⟩ (by simp only [zsp]; omega)
                            have hZ131U : zU [] Z Z131 := zU_u hZ130U hZ131 (Or.inl rfl)
                            have hZ131K : zC [1, 2] Z Z131 := zC_u hZ130K hZ131 (zcl_2w (by omega) rfl)
                            intro μ9 e9
                            replace e9 := e9.trans (zm_wI (Z := Z130) (ν := ν) hZ131 (show ((0 : Nat) : Int) = 0 from rfl) (show ((0 : Nat) : Int) = 0 from rfl) (i3I (y := (1513 + 12 * (Z123 2 0 0 1401))) (i3A (i3A (show (1510 : Int32) = i3 1510 from rfl) (i3M (show (12 : Int32) = i3 12 from rfl) (zm_rd (Z := Z123) (ν := ν) (k := 2) (show ((0 : Nat) : Int) = 0 from rfl) (show ((0 : Nat) : Int) = 0 from rfl) (show ((1401 : Nat) : Int) = 1401 from rfl)))) (show (3 : Int32) = i3 3 from rfl)) (by omega) (by omega) (by omega)) (rfl : i3 a4 = i3 a4))
                            subst e9
                            refine wz_i0 (i3O (n := 4400) (i3A (i3A (show (1510 : Int32) = i3 1510 from rfl) (i3M (show (12 : Int32) = i3 12 from rfl) (zm_rd (Z := Z123) (ν := ν) (k := 2) (show ((0 : Nat) : Int) = 0 from rfl) (show ((0 : Nat) : Int) = 0 from rfl) (show ((1401 : Nat) : Int) = 1401 from rfl)))) (show (4 : Int32) = i3 4 from rfl)) (by omega) (by omega) (by omega)) ?_
                            obtain ⟨Z132, hZ132⟩ := zx (zu Z131 2 0 0 (1514 + 12 * (Z123 2 0 0 1401)) a5)
                            replace hP := zl_e hP hZ132
                            have hZ132I := zM_u2 hZ131I hZ132 (lo := 0) (hi := 9999) (zs_1510_4 (x := (Z123 2 0 0 1401)) (by omega) (by omega) (by omega)) (by omega) ⟨by decide, by decide⟩ (by simp only [zsp]; omega)
                            have hZ132U : zU [] Z Z132 := zU_u hZ131U hZ132 (Or.inl rfl)
                            have hZ132K : zC [1, 2] Z Z132 := zC_u hZ131K hZ132 (zcl_2w (by omega) rfl)
                            intro μ9 e9
                            replace e9 := e9.trans (zm_wI (Z := Z131) (ν := ν) hZ132 (show ((0 : Nat) : Int) = 0 from rfl) (show ((0 : Nat) : Int) = 0 from rfl) (i3I (y := (1514 + 12 * (Z123 2 0 0 1401))) (i3A (i3A (show (1510 : Int32) = i3 1510 from rfl) (i3M (show (12 : Int32) = i3 12 from rfl) (zm_rd (Z := Z123) (ν := ν) (k := 2) (show ((0 : Nat) : Int) = 0 from rfl) (show ((0 : Nat) : Int) = 0 from rfl) (show ((1401 : Nat) : Int) = 1401 from rfl)))) (show (4 : Int32) = i3 4 from rfl)) (by omega) (by omega) (by omega)) (rfl : i3 a5 = i3 a5))
                            subst e9
                            refine wz_i0 (i3O (n := 4400) (i3A (i3A (show (1510 : Int32) = i3 1510 from rfl) (i3M (show (12 : Int32) = i3 12 from rfl) (zm_rd (Z := Z123) (ν := ν) (k := 2) (show ((0 : Nat) : Int) = 0 from rfl) (show ((0 : Nat) : Int) = 0 from rfl) (show ((1401 : Nat) : Int) = 1401 from rfl)))) (show (5 : Int32) = i3 5 from rfl)) (by omega) (by omega) (by omega)) ?_
                            obtain ⟨Z133, hZ133⟩ := zx (zu Z132 2 0 0 (1515 + 12 * (Z123 2 0 0 1401)) a6)
                            replace hP := zl_e hP hZ133
                            have hZ133I := zM_u2 hZ132I hZ133 (lo := 0) (hi := 127) (zs_1510_5 (x := (Z123 2 0 0 1401)) (by omega) (by omega) (by omega)) (by omega) ⟨by decide, by decide⟩ (by simp only [zsp]; omega)
                            have hZ133U : zU [] Z Z133 := zU_u hZ132U hZ133 (Or.inl rfl)
                            have hZ133K : zC [1, 2] Z Z133 := zC_u hZ132K hZ133 (zcl_2w (by omega) rfl)
                            intro μ9 e9
                            replace e9 := e9.trans (zm_wI (Z := Z132) (ν := ν) hZ133 (show ((0 : Nat) : Int) = 0 from rfl) (show ((0 : Nat) : Int) = 0 from rfl) (i3I (y := (1515 + 12 * (Z123 2 0 0 1401))) (i3A (i3A (show (1510 : Int32) = i3 1510 from rfl) (i3M (show (12 : Int32) = i3 12 from rfl) (zm_rd (Z := Z123) (ν := ν) (k := 2) (show ((0 : Nat) : Int) = 0 from rfl) (show ((0 : Nat) : Int) = 0 from rfl) (show ((1401 : Nat) : Int) = 1401 from rfl)))) (show (5 : Int32) = i3 5 from rfl)) (by omega) (by omega) (by omega)) (rfl : i3 a6 = i3 a6))
                            subst e9
                            refine wz_i0 (i3O (n := 4400) (i3A (i3A (show (1510 : Int32) = i3 1510 from rfl) (i3M (show (12 : Int32) = i3 12 from rfl) (zm_rd (Z := Z123) (ν := ν) (k := 2) (show ((0 : Nat) : Int) = 0 from rfl) (show ((0 : Nat) : Int) = 0 from rfl) (show ((1401 : Nat) : Int) = 1401 from rfl)))) (show (6 : Int32) = i3 6 from rfl)) (by omega) (by omega) (by omega)) ?_
                            obtain ⟨Z134, hZ134⟩ := zx (zu Z133 2 0 0 (1516 + 12 * (Z123 2 0 0 1401)) a4)
                            replace hP := zl_e hP hZ134
                            have hZ134I := zM_u2 hZ133I hZ134 (lo := 0) (hi := 99) (zs_1510_6 (x := (Z123 2 0 0 1401)) (by omega) (by omega) (by omega)) (by omega) ⟨by decide, by decide⟩ (by simp only [zsp]; omega)
                            have hZ134U : zU [] Z Z134 := zU_u hZ133U hZ134 (Or.inl rfl)
                            have hZ134K : zC [1, 2] Z Z134 := zC_u hZ133K hZ134 (zcl_2w (by omega) rfl)
                            intro μ9 e9
                            replace e9 := e9.trans (zm_wI (Z := Z133) (ν := ν) hZ134 (show ((0 : Nat) : Int) = 0 from rfl) (show ((0 : Nat) : Int) = 0 from rfl) (i3I (y := (1516 + 12 * (Z123 2 0 0 1401))) (i3A (i3A (show (1510 : Int32) = i3 1510 from rfl) (i3M (show (12 : Int32) = i3 12 from rfl) (zm_rd (Z := Z123) (ν := ν) (k := 2) (show ((0 : Nat) : Int) = 0 from rfl) (show ((0 : Nat) : Int) = 0 from rfl) (show ((1401 : Nat) : Int) = 1401 from rfl)))) (show (6 : Int32) = i3 6 from rfl)) (by omega) (by omega) (by omega)) (rfl : i3 a4 = i3 a4))
                            subst e9
                            have r135 := zM_k hZ134I 2 0 0 1401 (lo := 0) (hi := 24) (by decide) rfl
                            have q136 := (zu_ne (k' := 2) (b' := 0) (i' := 0) (j' := 1401) hZ134 (fun q => absurd q.2.2.2 (by omega))).trans ((zu_ne (k' := 2) (b' := 0) (i' := 0) (j' := 1401) hZ133 (fun q => absurd q.2.2.2 (by omega))).trans ((zu_ne (k' := 2) (b' := 0) (i' := 0) (j' := 1401) hZ132 (fun q => absurd q.2.2.2 (by omega))).trans ((zu_ne (k' := 2) (b' := 0) (i' := 0) (j' := 1401) hZ131 (fun q => absurd q.2.2.2 (by omega))).trans ((zu_ne (k' := 2) (b' := 0) (i' := 0) (j' := 1401) hZ130 (fun q => absurd q.2.2.2 (by omega))).trans ((zu_ne (k' := 2) (b' := 0) (i' := 0) (j' := 1401) hZ129 (fun q => absurd q.2.2.2 (by omega))).trans (zu_ne (k' := 2) (b' := 0) (i' := 0) (j' := 1401) hZ128 (fun q => absurd q.2.2.2 (by omega))))))))
                            obtain ⟨Z137, hZ137⟩ := zx (zu Z134 2 0 0 1401 ((Z134 2 0 0 1401) + 1))
                            replace hP := zl_e hP hZ137
                            have hZ137I := zM_u2 hZ134I hZ137 (lo := 0) (hi := 24) rfl (by omega) ⟨by decide, by decide⟩ (by simp only [zsp]; omega)
                            have hZ137U : zU [] Z Z137 := zU_u hZ134U hZ137 (Or.inl rfl)
                            have hZ137K : zC [1, 2] Z Z137 := zC_u hZ134K hZ137 (by decide)
                            intro μ9 e9
                            replace e9 := e9.trans (zm_wI (Z := Z134) (ν := ν) hZ137 (show ((0 : Nat) : Int) = 0 from rfl) (show ((0 : Nat) : Int) = 0 from rfl) (show ((1401 : Nat) : Int) = 1401 from rfl) (i3A (zm_rd (Z := Z134) (ν := ν) (k := 2) (show ((0 : Nat) : Int) = 0 from rfl) (show ((0 : Nat) : Int) = 0 from rfl) (show ((1401 : Nat) : Int) = 1401 from rfl)) (show (1 : Int32) = i3 1 from rfl)))
                            subst e9
                            exact zlY hP (zm_rd (Z := Z123) (ν := ν) (k := 2) (show ((0 : Nat) : Int) = 0 from rfl) (show ((0 : Nat) : Int) = 0 from rfl) (show ((1401 : Nat) : Int) = 1401 from rfl)) (.inl rfl) ⟨hZ137I, hZ137K, hZ137U⟩
/- yX12_bCrates -/
def zl_267_1 (x1 : Int) (x2 : Int) (x3 : Int) : Nat → qz_Z → Int → Int → Int × Int
  | 0, Z, x4, x5 => (x4, x5)
  | m + 1, Z, x4, x5 => (if (Z 2 0 0 2000) ≤ x5 then (x4, x5) else (if (Z 2 0 0 (2010 + 16 * x5 + x1)) ≠ x2 then zl_267_1 x1 x2 x3 m Z (x4 + 0) (x5 + 1) else (if x3 = (-1) then zl_267_1 x1 x2 x3 m Z (w3 (x4 + (Z 2 0 0 (2013 + 16 * x5)))) (x5 + 1) else (if (Z 2 0 0 (2019 + 16 * x5)) ≠ x3 then zl_267_1 x1 x2 x3 m Z (x4 + 0) (x5 + 1) else zl_267_1 x1 x2 x3 m Z (w3 (x4 + (Z 2 0 0 (2013 + 16 * x5)))) (x5 + 1)))))
theorem sl_267_1 {s : zSM} {Z : qz_Z} {ν : qz_N} (hZ : zM s Z) (hM : s.2 + 0 ≤ 1000000000) {x1 : Int} (gx1 : 1 ≤ x1 ∧ x1 ≤ 2) {x2 : Int} (gx2 : 0 ≤ x2 ∧ x2 ≤ 23) {x3 : Int} (gx3 : -1 ≤ x3 ∧ x3 ≤ 3) {x4 : Int} (gx4 : -2147483648 ≤ x4 ∧ x4 ≤ 2147483647) {x5 : Int} (gx5 : 0 ≤ x5 ∧ x5 ≤ 60) {k : wz_K} {R : wz_R} {L : qz_L} (hL : qz_fg [true, true, true, true, true, true, false] L = [some (.inr (.inr (some (1, 0, 0)))), some (.inl (i3 x1)), some (.inl (i3 x2)), some (.inl (i3 x3)), some (.inl (i3 x4)), some (.inl (i3 x5)), none]) {T : Int × Int} (hP : zE T (zl_267_1 x1 x2 x3 ((60 - x5).toNat + 1) Z x4 x5)) (hk : ∀ (L9 : qz_L) (yx4 yx5 : Int), qz_fg [false, false, false, false, true, false, false] L9 = [none, none, none, none, some (.inl (i3 yx4)), none, none] → (-2147483648 ≤ yx4 ∧ yx4 ≤ 2147483647) → (0 ≤ yx5 ∧ yx5 ≤ 60) → zE T ((yx4, yx5)) → k 0 (L9, [], zm Z ν)) : wz_loop qb_267_1 65536 k R (L, [], zm Z ν) := by
  refine wz_lp sb_267_1 (fun m x => ∃ x4 : Int, ∃ x5 : Int, qz_fg [true, true, true, true, true, true, false] x.1 = [some (.inr (.inr (some (1, 0, 0)))), some (.inl (i3 x1)), some (.inl (i3 x2)), some (.inl (i3 x3)), some (.inl (i3 x4)), some (.inl (i3 x5)), none] ∧ x.2 = ([], zm Z ν) ∧ m = (60 - x5).toNat ∧ (-2147483648 ≤ x4 ∧ x4 ≤ 2147483647) ∧ (0 ≤ x5 ∧ x5 ≤ 60) ∧ zE T (zl_267_1 x1 x2 x3 (m + 1) Z x4 x5)) ?_ 65536 ((60 - x5).toNat) _ (by omega) ⟨x4, x5, hL, rfl, rfl, gx4, gx5, hP⟩
  clear hP gx4 gx5 hL
  clear x4 x5
  rintro m ⟨L, st, μ⟩ ⟨x4, x5, hL, hx, hm, gx4, gx5, hP⟩
  cases hx
  refine fb_267_1 (i3 x1) (i3 x2) (i3 x3) (i3 x4) (i3 x5) _ _ _ _ hL ?_
  have r1 := zM_k hZ 2 0 0 2000 (lo := 0) (hi := 60) (by decide) rfl
  refine wz_br (i3Le (zm_rd (Z := Z) (ν := ν) (k := 2) (show ((0 : Nat) : Int) = 0 from rfl) (show ((0 : Nat) : Int) = 0 from rfl) (show ((2000 : Nat) : Int) = 2000 from rfl)) (rfl : i3 x5 = i3 x5) (by omega) (by omega) (by omega) (by omega)) (fun h2 => ?_) (fun h2 => ?_)
  · replace hP := zE_p hP h2
    exact hk _ _ _ (zconso rfl (zconso rfl (zconso rfl (zconso rfl (zconso (zvo (rfl : i3 x4 = i3 x4)) (zconso rfl (zconso rfl rfl)))))))  (by omega) (by omega)  hP
  · replace hP := zE_n hP h2
    refine wz_i0 (i3O (n := 4400) (i3A (i3A (show (2010 : Int32) = i3 2010 from rfl) (i3M (show (16 : Int32) = i3 16 from rfl) (rfl : i3 x5 = i3 x5))) (rfl : i3 x1 = i3 x1)) (by omega) (by omega) (by omega)) ?_
    have r3 := zM_f hZ 2 0 0 (2010 + 16 * x5 + x1)
    refine wz_br (i3NE (zm_rd (Z := Z) (ν := ν) (k := 2) (show ((0 : Nat) : Int) = 0 from rfl) (show ((0 : Nat) : Int) = 0 from rfl) (i3I (y := (2010 + 16 * x5 + x1)) (i3A (i3A (show (2010 : Int32) = i3 2010 from rfl) (i3M (show (16 : Int32) = i3 16 from rfl) (rfl : i3 x5 = i3 x5))) (rfl : i3 x1 = i3 x1)) (by omega) (by omega) (by omega))) (rfl : i3 x2 = i3 x2) (by omega) (by omega) (by omega) (by omega)) (fun h4 => ?_) (fun h4 => ?_)
    · replace hP := zE_p hP h4
      obtain ⟨m2, rfl⟩ : ∃ m2, m = m2 + 1 := ⟨m - 1, by omega⟩
      exact wz_k1 ⟨m2, by omega, (x4 + 0), (x5 + 1), (zconso rfl (zconso (zvo (rfl : i3 x1 = i3 x1)) (zconso (zvo (rfl : i3 x2 = i3 x2)) (zconso (zvo (rfl : i3 x3 = i3 x3)) (zconso (zvo (i3A (rfl : i3 x4 = i3 x4) (show (0 : Int32) = i3 0 from rfl))) (zconso (zvo (i3A (rfl : i3 x5 = i3 x5) (show (1 : Int32) = i3 1 from rfl))) (zconso rfl rfl))))))), rfl,  by omega, by omega, by omega,  hP⟩
    · replace hP := zE_n hP h4
      refine wz_br (i3E (rfl : i3 x3 = i3 x3) (show (-1 : Int32) = i3 (-1) from rfl) (by omega) (by omega) (by omega) (by omega)) (fun h5 => ?_) (fun h5 => ?_)
      · replace hP := zE_p hP h5
        refine wz_i0 (i3O (n := 4400) (i3A (i3A (show (2010 : Int32) = i3 2010 from rfl) (i3M (show (16 : Int32) = i3 16 from rfl) (rfl : i3 x5 = i3 x5))) (show (3 : Int32) = i3 3 from rfl)) (by omega) (by omega) (by omega)) ?_
        have r6 := zM_k hZ 2 0 0 (2013 + 16 * x5) (lo := 0) (hi := 40) (by decide) (zs_2010_3 (x := x5) (by omega) (by omega) (by omega))
        have r7 := zM_cr hZ x5
        have r8 := w3_r (x4 + (Z 2 0 0 (2013 + 16 * x5)))
        obtain ⟨m2, rfl⟩ : ∃ m2, m = m2 + 1 := ⟨m - 1, by omega⟩
        exact wz_k1 ⟨m2, by omega, (w3 (x4 + (Z 2 0 0 (2013 + 16 * x5)))), (x5 + 1), (zconso rfl (zconso (zvo (rfl : i3 x1 = i3 x1)) (zconso (zvo (rfl : i3 x2 = i3 x2)) (zconso (zvo (rfl : i3 x3 = i3 x3)) (zconso (zvo (i3W (i3A (rfl : i3 x4 = i3 x4) (zm_rd (Z := Z) (ν := ν) (k := 2) (show ((0 : Nat) : Int) = 0 from rfl) (show ((0 : Nat) : Int) = 0 from rfl) (i3I (y := (2013 + 16 * x5)) (i3A (i3A (show (2010 : Int32) = i3 2010 from rfl) (i3M (show (16 : Int32) = i3 16 from rfl) (rfl : i3 x5 = i3 x5))) (show (3 : Int32) = i3 3 from rfl)) (by omega) (by omega) (by omega)))))) (zconso (zvo (i3A (rfl : i3 x5 = i3 x5) (show (1 : Int32) = i3 1 from rfl))) (zconso rfl rfl))))))), rfl,  by omega, by omega, by omega,  hP⟩
      · replace hP := zE_n hP h5
        refine wz_i0 (i3O (n := 4400) (i3A (i3A (show (2010 : Int32) = i3 2010 from rfl) (i3M (show (16 : Int32) = i3 16 from rfl) (rfl : i3 x5 = i3 x5))) (show (9 : Int32) = i3 9 from rfl)) (by omega) (by omega) (by omega)) ?_
        have r9 := zM_k hZ 2 0 0 (2019 + 16 * x5) (lo := 0) (hi := 3) (by decide) (zs_2010_9 (x := x5) (by omega) (by omega) (by omega))
        have r10 := zM_lt2 hZ x5
        refine wz_br (i3NE (zm_rd (Z := Z) (ν := ν) (k := 2) (show ((0 : Nat) : Int) = 0 from rfl) (show ((0 : Nat) : Int) = 0 from rfl) (i3I (y := (2019 + 16 * x5)) (i3A (i3A (show (2010 : Int32) = i3 2010 from rfl) (i3M (show (16 : Int32) = i3 16 from rfl) (rfl : i3 x5 = i3 x5))) (show (9 : Int32) = i3 9 from rfl)) (by omega) (by omega) (by omega))) (rfl : i3 x3 = i3 x3) (by omega) (by omega) (by omega) (by omega)) (fun h11 => ?_) (fun h11 => ?_)
        · replace hP := zE_p hP h11
          obtain ⟨m2, rfl⟩ : ∃ m2, m = m2 + 1 := ⟨m - 1, by omega⟩
          exact wz_k1 ⟨m2, by omega, (x4 + 0), (x5 + 1), (zconso rfl (zconso (zvo (rfl : i3 x1 = i3 x1)) (zconso (zvo (rfl : i3 x2 = i3 x2)) (zconso (zvo (rfl : i3 x3 = i3 x3)) (zconso (zvo (i3A (rfl : i3 x4 = i3 x4) (show (0 : Int32) = i3 0 from rfl))) (zconso (zvo (i3A (rfl : i3 x5 = i3 x5) (show (1 : Int32) = i3 1 from rfl))) (zconso rfl rfl))))))), rfl,  by omega, by omega, by omega,  hP⟩
        · replace hP := zE_n hP h11
          refine wz_i0 (i3O (n := 4400) (i3A (i3A (show (2010 : Int32) = i3 2010 from rfl) (i3M (show (16 : Int32) = i3 16 from rfl) (rfl : i3 x5 = i3 x5))) (show (3 : Int32) = i3 3 from rfl)) (by omega) (by omega) (by omega)) ?_
          have r12 := zM_k hZ 2 0 0 (2013 + 16 * x5) (lo := 0) (hi := 40) (by decide) (zs_2010_3 (x := x5) (by omega) (by omega) (by omega))
          have r13 := zM_cr hZ x5
          have r14 := w3_r (x4 + (Z 2 0 0 (2013 + 16 * x5)))
          obtain ⟨m2, rfl⟩ : ∃ m2, m = m2 + 1 := ⟨m - 1, by omega⟩
          exact wz_k1 ⟨m2, by omega, (w3 (x4 + (Z 2 0 0 (2013 + 16 * x5)))), (x5 + 1), (zconso rfl (zconso (zvo (rfl : i3 x1 = i3 x1)) (zconso (zvo (rfl : i3 x2 = i3 x2)) (zconso (zvo (rfl : i3 x3 = i3 x3)) (zconso (zvo (i3W (i3A (rfl : i3 x4 = i3 x4) (zm_rd (Z := Z) (ν := ν) (k := 2) (show ((0 : Nat) : Int) = 0 from rfl) (show ((0 : Nat) : Int) = 0 from rfl) (i3I (y := (2013 + 16 * x5)) (i3A (i3A (show (2010 : Int32) = i3 2010 from rfl) (i3M (show (16 : Int32) = i3 16 from rfl) (rfl : i3 x5 = i3 x5))) (show (3 : Int32) = i3 3 from rfl)) (by omega) (by omega) (by omega)))))) (zconso (zvo (i3A (rfl : i3 x5 = i3 x5) (show (1 : Int32) = i3 1 from rfl))) (zconso rfl rfl))))))), rfl,  by omega, by omega, by omega,  hP⟩
/- yX12_bCrates -/
def zf_267 (Z : qz_Z) (a1 : Int) (a2 : Int) (a3 : Int) : Int := (zlet2 (zl_267_1 a1 a2 a3 61 Z 0 0) (fun y1 y2 => y1))
theorem sp_267 {s : zSM} {Z : qz_Z} {ν : qz_N} (hZ : zM s Z) {a1 : Int} (ga1 : 1 ≤ a1 ∧ a1 ≤ 2) {a2 : Int} (ga2 : 0 ≤ a2 ∧ a2 ≤ 23) {a3 : Int} (ga3 : -1 ≤ a3 ∧ a3 ≤ 3) (hM : s.2 + 0 ≤ 1000000000) : ∃ P : Int, P = zf_267 Z a1 a2 a3 ∧ (qf_267 [.inr (.inr (some (1, 0, 0))), .inl (i3 a1), .inl (i3 a2), .inl (i3 a3)] (zm Z ν) = some (zm Z ν, .inl (some (.inl (i3 P)))) ∧ -2147483648 ≤ P ∧ P ≤ 2147483647) := by
  obtain ⟨P, hP⟩ := zx (zf_267 Z a1 a2 a3)
  refine zc_R (Q := fun P => -2147483648 ≤ P ∧ P ≤ 2147483647) hP (fw_267 (i3 a1) (i3 a2) (i3 a3) _ _ ?_)
  replace hP : zE P (zf_267 Z a1 a2 a3) := hP
  unfold zf_267 at hP
  refine sl_267_1 (ν := ν) hZ (zbh (c := 0) (k := 0) hM (Nat.le_of_ble_eq_true rfl)) (x1 := a1) (by omega) (x2 := a2) (by omega) (x3 := a3) (by omega) (x4 := 0) (by omega) (x5 := 0) (by omega)  (zconso rfl (zconso (zvo (rfl : i3 a1 = i3 a1)) (zconso (zvo (rfl : i3 a2 = i3 a2)) (zconso (zvo (rfl : i3 a3 = i3 a3)) (zconso (zvo (show (0 : Int32) = i3 0 from rfl)) (zconso (zvo (show (0 : Int32) = i3 0 from rfl)) (zconso rfl rfl))))))) rfl ?_
  intro L3 y1 y2 hL3 gy1 gy2 q9
  replace hP := zl_e2 hP (Eq.symm q9)
  clear q9
  refine fc_267_2 (i3 y1) _ _ _ _ hL3 ?_
  exact zlR hP (rfl : i3 y1 = i3 y1) ⟨by omega, by omega⟩
/- yX12_ordered -/
def zy_442 (Z : qz_Z) (a1 : Int) (a2 : Int) : qz_Z × Int := (if a1 < 0 then (zlet (zu Z 1 0 0 2 1) (fun Z5 => (Z5, 0))) else (if ((Z 2 0 0 1401) - 1) < a1 then (zlet (zu Z 1 0 0 2 1) (fun Z8 => (Z8, 0))) else (zlet (zu Z 1 0 0 2 0) (fun Z9 => (if a2 < 0 then (zlet (zu Z9 1 0 0 2 2) (fun Z11 => (Z11, 0))) else (if 9 < a2 then (zlet (zu Z9 1 0 0 2 2) (fun Z13 => (Z13, 0))) else (zlet (zu Z9 1 0 0 2 0) (fun Z14 => (if a2 ≠ 8 then (if a2 ≠ 9 then (Z14, (Z14 2 0 0 (1510 + 12 * a1 + a2))) else (zlet (zf_260 Z14 a1) (fun v18 => (if v18 = 0 then (Z14, 0) else (Z14, 1))))) else (zlet (zf_267 Z14 2 a1 (-1)) (fun v22 => (Z14, v22))))))))))))
theorem sy_442 {s : zSM} {Z : qz_Z} {ν : qz_N} (hZ : zM s Z) (gq : Z 1 0 0 35 = 0) (hM : s.2 + 0 ≤ 1000000000) {a1 : Int} (ga1 : -2147483648 ≤ a1 ∧ a1 ≤ 2147483647) {a2 : Int} (ga2 : -2147483648 ≤ a2 ∧ a2 ≤ 2147483647) {ν1 : qz_N} : ∃ (Z1 : qz_Z) (ν2 : qz_N) (v : Int), (Z1, v) = zy_442 Z a1 a2 ∧ (ν2 = ν ∨ ν2 = ν1) ∧ qf_442 [.inr (.inr (some (1, 0, 0))), .inl (i3 a1), .inl (i3 a2)] (zm Z ν) = some (zm Z1 ν2, .inl (some (.inl (i3 v)))) ∧ (fun Z1 => zM s Z1 ∧ zC [1] Z Z1 ∧ zU [] Z Z1) Z1 := by
  obtain ⟨P, hP⟩ := zx (zy_442 Z a1 a2)
  refine zc_Y (Q := fun Z1 => zM s Z1 ∧ zC [1] Z Z1 ∧ zU [] Z Z1) hP (fw_442 (i3 a1) (i3 a2) _ _ ?_)
  replace hP : zE P (zy_442 Z a1 a2) := hP
  unfold zy_442 at hP
  have r1 := zM_k hZ 1 0 0 35 (lo := 0) (hi := 1) (by decide) rfl
  have r2 := zM_k hZ 1 0 0 34 (lo := 0) (hi := 8) (by decide) rfl
  have r3 := zM_f hZ 1 0 0 37
  refine wz_br (i3L (rfl : i3 a1 = i3 a1) (show (0 : Int32) = i3 0 from rfl) (by omega) (by omega) (by omega) (by omega)) (fun h4 => ?_) (fun h4 => ?_)
  · replace hP := zE_p hP h4
    obtain ⟨Z5, hZ5⟩ := zx (zu Z 1 0 0 2 1)
    replace hP := zl_e hP hZ5
    have hZ5I := zM_u hZ hZ5 (lo := -2147483648) (hi := 2147483647) (by decide) rfl (by omega) ⟨by decide, by decide⟩ (Or.inr (by decide)) rfl
    have hZ5U : zU [] Z Z5 := zU_u zU_r hZ5 (Or.inl rfl)
    have hZ5K : zC [1] Z Z5 := zC_u zC_r hZ5 (by decide)
    intro μ9 e9
    replace e9 := e9.trans (zm_wI (Z := Z) (ν := ν) hZ5 (show ((0 : Nat) : Int) = 0 from rfl) (show ((0 : Nat) : Int) = 0 from rfl) (show ((2 : Nat) : Int) = 2 from rfl) (show (1 : Int32) = i3 1 from rfl))
    subst e9
    exact zlY hP (show (0 : Int32) = i3 0 from rfl) (.inl rfl) ⟨hZ5I, hZ5K, hZ5U⟩
  · replace hP := zE_n hP h4
    have r6 := zM_k hZ 2 0 0 1401 (lo := 0) (hi := 24) (by decide) rfl
    refine wz_br (i3L (i3S (zm_rd (Z := Z) (ν := ν) (k := 2) (show ((0 : Nat) : Int) = 0 from rfl) (show ((0 : Nat) : Int) = 0 from rfl) (show ((1401 : Nat) : Int) = 1401 from rfl)) (show (1 : Int32) = i3 1 from rfl)) (rfl : i3 a1 = i3 a1) (by omega) (by omega) (by omega) (by omega)) (fun h7 => ?_) (fun h7 => ?_)
    · replace hP := zE_p hP h7
      obtain ⟨Z8, hZ8⟩ := zx (zu Z 1 0 0 2 1)
      replace hP := zl_e hP hZ8
      have hZ8I := zM_u hZ hZ8 (lo := -2147483648) (hi := 2147483647) (by decide) rfl (by omega) ⟨by decide, by decide⟩ (Or.inr (by decide)) rfl
      have hZ8U : zU [] Z Z8 := zU_u zU_r hZ8 (Or.inl rfl)
      have hZ8K : zC [1] Z Z8 := zC_u zC_r hZ8 (by decide)
      intro μ9 e9
      replace e9 := e9.trans (zm_wI (Z := Z) (ν := ν) hZ8 (show ((0 : Nat) : Int) = 0 from rfl) (show ((0 : Nat) : Int) = 0 from rfl) (show ((2 : Nat) : Int) = 2 from rfl) (show (1 : Int32) = i3 1 from rfl))
      subst e9
      exact zlY hP (show (0 : Int32) = i3 0 from rfl) (.inl rfl) ⟨hZ8I, hZ8K, hZ8U⟩
    · replace hP := zE_n hP h7
      obtain ⟨Z9, hZ9⟩ := zx (zu Z 1 0 0 2 0)
      replace hP := zl_e hP hZ9
      have hZ9I := zM_0 hZ hZ9 (by decide) (Or.inr (by decide))
      have hZ9U : zU [] Z Z9 := zU_u zU_r hZ9 (Or.inl rfl)
      have hZ9K : zC [1] Z Z9 := zC_u zC_r hZ9 (by decide)
      intro μ9 e9
      replace e9 := e9.trans (zm_wI (Z := Z) (ν := ν) hZ9 (show ((0 : Nat) : Int) = 0 from rfl) (show ((0 : Nat) : Int) = 0 from rfl) (show ((2 : Nat) : Int) = 2 from rfl) (show (0 : Int32) = i3 0 from rfl))
      subst e9
      refine wz_br (i3L (rfl : i3 a2 = i3 a2) (show (0 : Int32) = i3 0 from rfl) (by omega) (by omega) (by omega) (by omega)) (fun h10 => ?_) (fun h10 => ?_)
      · replace hP := zE_p hP h10
        obtain ⟨Z11, hZ11⟩ := zx (zu Z9 1 0 0 2 2)
        replace hP := zl_e hP hZ11
        have hZ11I := zM_u hZ9I hZ11 (lo := -2147483648) (hi := 2147483647) (by decide) rfl (by omega) ⟨by decide, by decide⟩ (Or.inr (by decide)) rfl
        have hZ11U : zU [] Z Z11 := zU_u hZ9U hZ11 (Or.inl rfl)
        have hZ11K : zC [1] Z Z11 := zC_u hZ9K hZ11 (by decide)
        intro μ9 e9
        replace e9 := e9.trans (zm_wI (Z := Z9) (ν := ν) hZ11 (show ((0 : Nat) : Int) = 0 from rfl) (show ((0 : Nat) : Int) = 0 from rfl) (show ((2 : Nat) : Int) = 2 from rfl) (show (2 : Int32) = i3 2 from rfl))
        subst e9
        exact zlY hP (show (0 : Int32) = i3 0 from rfl) (.inl rfl) ⟨hZ11I, hZ11K, hZ11U⟩
      · replace hP := zE_n hP h10
        refine wz_br (i3L (show (9 : Int32) = i3 9 from rfl) (rfl : i3 a2 = i3 a2) (by omega) (by omega) (by omega) (by omega)) (fun h12 => ?_) (fun h12 => ?_)
        · replace hP := zE_p hP h12
          obtain ⟨Z13, hZ13⟩ := zx (zu Z9 1 0 0 2 2)
          replace hP := zl_e hP hZ13
          have hZ13I := zM_u hZ9I hZ13 (lo := -2147483648) (hi := 2147483647) (by decide) rfl (by omega) ⟨by decide, by decide⟩ (Or.inr (by decide)) rfl
          have hZ13U : zU [] Z Z13 := zU_u hZ9U hZ13 (Or.inl rfl)
          have hZ13K : zC [1] Z Z13 := zC_u hZ9K hZ13 (by decide)
          intro μ9 e9
          replace e9 := e9.trans (zm_wI (Z := Z9) (ν := ν) hZ13 (show ((0 : Nat) : Int) = 0 from rfl) (show ((0 : Nat) : Int) = 0 from rfl) (show ((2 : Nat) : Int) = 2 from rfl) (show (2 : Int32) = i3 2 from rfl))
          subst e9
          exact zlY hP (show (0 : Int32) = i3 0 from rfl) (.inl rfl) ⟨hZ13I, hZ13K, hZ13U⟩
        · replace hP := zE_n hP h12
          obtain ⟨Z14, hZ14⟩ := zx (zu Z9 1 0 0 2 0)
          replace hP := zl_e hP hZ14
          have hZ14I := zM_0 hZ9I hZ14 (by decide) (Or.inr (by decide))
          have hZ14U : zU [] Z Z14 := zU_u hZ9U hZ14 (Or.inl rfl)
          have hZ14K : zC [1] Z Z14 := zC_u hZ9K hZ14 (by decide)
          intro μ9 e9
          replace e9 := e9.trans (zm_wI (Z := Z9) (ν := ν) hZ14 (show ((0 : Nat) : Int) = 0 from rfl) (show ((0 : Nat) : Int) = 0 from rfl) (show ((2 : Nat) : Int) = 2 from rfl) (show (0 : Int32) = i3 0 from rfl))
          subst e9
          refine wz_br (i3NE (rfl : i3 a2 = i3 a2) (show (8 : Int32) = i3 8 from rfl) (by omega) (by omega) (by omega) (by omega)) (fun h15 => ?_) (fun h15 => ?_)
          · replace hP := zE_p hP h15
            refine wz_br (i3NE (rfl : i3 a2 = i3 a2) (show (9 : Int32) = i3 9 from rfl) (by omega) (by omega) (by omega) (by omega)) (fun h16 => ?_) (fun h16 => ?_)
            · replace hP := zE_p hP h16
              refine wz_i0 (i3O (n := 4400) (i3A (i3A (show (1510 : Int32) = i3 1510 from rfl) (i3M (show (12 : Int32) = i3 12 from rfl) (rfl : i3 a1 = i3 a1))) (rfl : i3 a2 = i3 a2)) (by omega) (by omega) (by omega)) ?_
              have r17 := zM_f hZ14I 2 0 0 (1510 + 12 * a1 + a2)
              exact zlY hP (zm_rd (Z := Z14) (ν := ν) (k := 2) (show ((0 : Nat) : Int) = 0 from rfl) (show ((0 : Nat) : Int) = 0 from rfl) (i3I (y := (1510 + 12 * a1 + a2)) (i3A (i3A (show (1510 : Int32) = i3 1510 from rfl) (i3M (show (12 : Int32) = i3 12 from rfl) (rfl : i3 a1 = i3 a1))) (rfl : i3 a2 = i3 a2)) (by omega) (by omega) (by omega))) (.inl rfl) ⟨hZ14I, hZ14K, hZ14U⟩
            · replace hP := zE_n hP h16
              obtain ⟨v18, hv18, c9, lv18, uv18, wv180⟩ := sp_260 (ν := ν) hZ14I (a1 := a1) (by omega) (zbh (c := 0) (k := 0) hM (Nat.le_of_ble_eq_true rfl))
              replace hP := zl_e hP hv18
              refine wz_cI_of (zas (zcons rfl (zcons (zvi (rfl : i3 a1 = i3 a1)) rfl)) c9) ?_
              clear c9
              have r19 := zM_k hZ14I 2 0 0 (1516 + 12 * a1) (lo := 0) (hi := 99) (by decide) (zs_1510_6 (x := a1) (by omega) (by omega) (by omega))
              have w20 : v18 = 0 ∨ 1 ≤ Z14 2 0 0 (1516 + 12 * a1) := wv180
              refine wz_br (i3E (rfl : i3 v18 = i3 v18) (show (0 : Int32) = i3 0 from rfl) (by omega) (by omega) (by omega) (by omega)) (fun h21 => ?_) (fun h21 => ?_)
              · replace hP := zE_p hP h21
                exact zlY hP (show (0 : Int32) = i3 0 from rfl) (.inl rfl) ⟨hZ14I, hZ14K, hZ14U⟩
              · replace hP := zE_n hP h21
                exact zlY hP (show (1 : Int32) = i3 1 from rfl) (.inl rfl) ⟨hZ14I, hZ14K, hZ14U⟩
          · replace hP := zE_n hP h15
            obtain ⟨v22, hv22, c9, lv22, uv22⟩ := sp_267 (ν := ν) hZ14I (a1 := 2) (by omega) (a2 := a1) (by omega) (a3 := (-1)) (by omega) (zbh (c := 0) (k := 0) hM (Nat.le_of_ble_eq_true rfl))
            replace hP := zl_e hP hv22
            refine wz_cI_of (zas (zcons rfl (zcons (zvi (show (2 : Int32) = i3 2 from rfl)) (zcons (zvi (rfl : i3 a1 = i3 a1)) (zcons (zvi (show (-1 : Int32) = i3 (-1) from rfl)) rfl)))) c9) ?_
            clear c9
            exact zlY hP (rfl : i3 v22 = i3 v22) (.inl rfl) ⟨hZ14I, hZ14K, hZ14U⟩
/- yX12_outside -/
def zy_443 (Z : qz_Z) (dm : qz_Z → Int → Int → Int → Int → Int → Int → Int → qz_Z) (a1 : Int) (a2 : Int) : qz_Z × Int := (if a1 < 0 then (zlet (zu Z 1 0 0 2 1) (fun Z5 => (Z5, 0))) else (if 27 < a1 then (zlet (zu Z 1 0 0 2 1) (fun Z7 => (Z7, 0))) else (if a2 < 0 then (zlet (zu Z 1 0 0 2 1) (fun Z9 => (Z9, 0))) else (if 40 < a2 then (zlet (zu Z 1 0 0 2 1) (fun Z11 => (Z11, 0))) else (zlet (zu Z 1 0 0 2 0) (fun Z12 => (if a1 < ((Z12 2 0 0 0) / 24) then (zlet (zu Z12 1 0 0 2 2) (fun Z15 => (Z15, 0))) else (zlet (zu Z12 1 0 0 2 0) (fun Z16 => (zlet (dm Z16 8 a1 a2 0 0 0 0) (fun Z23 => (zlet (zu Z23 2 0 0 (1300 + a1) a2) (fun Z24 => (Z24, (Z23 2 0 0 (1300 + a1))))))))))))))))
theorem sy_443 {s : zSM} {Z : qz_Z} {ν : qz_N} (hZ : zM s Z) (gq : Z 1 0 0 35 = 0) (hM : s.2 + 0 ≤ 1000000000) {a1 : Int} (ga1 : -2147483648 ≤ a1 ∧ a1 ≤ 2147483647) {a2 : Int} (ga2 : -2147483648 ≤ a2 ∧ a2 ≤ 2147483647) {dk : qz_Z → qz_Z} {dm : qz_Z → Int → Int → Int → Int → Int → Int → Int → qz_Z} {ν1 : qz_N} (hdm : zDm s ν ν1 Z dk dm) : ∃ (Z1 : qz_Z) (ν2 : qz_N) (v : Int), (Z1, v) = zy_443 Z dm a1 a2 ∧ (ν2 = ν ∨ ν2 = ν1) ∧ qf_443 [.inr (.inr (some (1, 0, 0))), .inl (i3 a1), .inl (i3 a2)] (zm Z ν) = some (zm Z1 ν2, .inl (some (.inl (i3 v)))) ∧ (fun Z1 => zM s Z1 ∧ zC [1, 2, 101, 102, 200] Z Z1 ∧ zU [] Z Z1) Z1 := by
  obtain ⟨P, hP⟩ := zx (zy_443 Z dm a1 a2)
  refine zc_Y (Q := fun Z1 => zM s Z1 ∧ zC [1, 2, 101, 102, 200] Z Z1 ∧ zU [] Z Z1) hP (fw_443 (i3 a1) (i3 a2) _ _ ?_)
  replace hP : zE P (zy_443 Z dm a1 a2) := hP
  unfold zy_443 at hP
  have r1 := zM_k hZ 1 0 0 35 (lo := 0) (hi := 1) (by decide) rfl
  have r2 := zM_k hZ 1 0 0 34 (lo := 0) (hi := 8) (by decide) rfl
  have r3 := zM_f hZ 1 0 0 37
  refine wz_br (i3L (rfl : i3 a1 = i3 a1) (show (0 : Int32) = i3 0 from rfl) (by omega) (by omega) (by omega) (by omega)) (fun h4 => ?_) (fun h4 => ?_)
  · replace hP := zE_p hP h4
    obtain ⟨Z5, hZ5⟩ := zx (zu Z 1 0 0 2 1)
    replace hP := zl_e hP hZ5
    have hZ5I := zM_u hZ hZ5 (lo := -2147483648) (hi := 2147483647) (by decide) rfl (by omega) ⟨by decide, by decide⟩ (Or.inr (by decide)) rfl
    have hZ5U : zU [] Z Z5 := zU_u zU_r hZ5 (Or.inl rfl)
    have hZ5K : zC [1, 2, 101, 102, 200] Z Z5 := zC_u zC_r hZ5 (by decide)
    intro μ9 e9
    replace e9 := e9.trans (zm_wI (Z := Z) (ν := ν) hZ5 (show ((0 : Nat) : Int) = 0 from rfl) (show ((0 : Nat) : Int) = 0 from rfl) (show ((2 : Nat) : Int) = 2 from rfl) (show (1 : Int32) = i3 1 from rfl))
    subst e9
    exact zlY hP (show (0 : Int32) = i3 0 from rfl) (.inl rfl) ⟨hZ5I, hZ5K, hZ5U⟩
  · replace hP := zE_n hP h4
    refine wz_br (i3L (show (27 : Int32) = i3 27 from rfl) (rfl : i3 a1 = i3 a1) (by omega) (by omega) (by omega) (by omega)) (fun h6 => ?_) (fun h6 => ?_)
    · replace hP := zE_p hP h6
      obtain ⟨Z7, hZ7⟩ := zx (zu Z 1 0 0 2 1)
      replace hP := zl_e hP hZ7
      have hZ7I := zM_u hZ hZ7 (lo := -2147483648) (hi := 2147483647) (by decide) rfl (by omega) ⟨by decide, by decide⟩ (Or.inr (by decide)) rfl
      have hZ7U : zU [] Z Z7 := zU_u zU_r hZ7 (Or.inl rfl)
      have hZ7K : zC [1, 2, 101, 102, 200] Z Z7 := zC_u zC_r hZ7 (by decide)
      intro μ9 e9
      replace e9 := e9.trans (zm_wI (Z := Z) (ν := ν) hZ7 (show ((0 : Nat) : Int) = 0 from rfl) (show ((0 : Nat) : Int) = 0 from rfl) (show ((2 : Nat) : Int) = 2 from rfl) (show (1 : Int32) = i3 1 from rfl))
      subst e9
      exact zlY hP (show (0 : Int32) = i3 0 from rfl) (.inl rfl) ⟨hZ7I, hZ7K, hZ7U⟩
    · replace hP := zE_n hP h6
      refine wz_br (i3L (rfl : i3 a2 = i3 a2) (show (0 : Int32) = i3 0 from rfl) (by omega) (by omega) (by omega) (by omega)) (fun h8 => ?_) (fun h8 => ?_)
      · replace hP := zE_p hP h8
        obtain ⟨Z9, hZ9⟩ := zx (zu Z 1 0 0 2 1)
        replace hP := zl_e hP hZ9
        have hZ9I := zM_u hZ hZ9 (lo := -2147483648) (hi := 2147483647) (by decide) rfl (by omega) ⟨by decide, by decide⟩ (Or.inr (by decide)) rfl
        have hZ9U : zU [] Z Z9 := zU_u zU_r hZ9 (Or.inl rfl)
        have hZ9K : zC [1, 2, 101, 102, 200] Z Z9 := zC_u zC_r hZ9 (by decide)
        intro μ9 e9
        replace e9 := e9.trans (zm_wI (Z := Z) (ν := ν) hZ9 (show ((0 : Nat) : Int) = 0 from rfl) (show ((0 : Nat) : Int) = 0 from rfl) (show ((2 : Nat) : Int) = 2 from rfl) (show (1 : Int32) = i3 1 from rfl))
        subst e9
        exact zlY hP (show (0 : Int32) = i3 0 from rfl) (.inl rfl) ⟨hZ9I, hZ9K, hZ9U⟩
      · replace hP := zE_n hP h8
        refine wz_br (i3L (show (40 : Int32) = i3 40 from rfl) (rfl : i3 a2 = i3 a2) (by omega) (by omega) (by omega) (by omega)) (fun h10 => ?_) (fun h10 => ?_)
        · replace hP := zE_p hP h10
          obtain ⟨Z11, hZ11⟩ := zx (zu Z 1 0 0 2 1)
          replace hP := zl_e hP hZ11
          have hZ11I := zM_u hZ hZ11 (lo := -2147483648) (hi := 2147483647) (by decide) rfl (by omega) ⟨by decide, by decide⟩ (Or.inr (by decide)) rfl
          have hZ11U : zU [] Z Z11 := zU_u zU_r hZ11 (Or.inl rfl)
          have hZ11K : zC [1, 2, 101, 102, 200] Z Z11 := zC_u zC_r hZ11 (by decide)
          intro μ9 e9
          replace e9 := e9.trans (zm_wI (Z := Z) (ν := ν) hZ11 (show ((0 : Nat) : Int) = 0 from rfl) (show ((0 : Nat) : Int) = 0 from rfl) (show ((2 : Nat) : Int) = 2 from rfl) (show (1 : Int32) = i3 1 from rfl))
          subst e9
          exact zlY hP (show (0 : Int32) = i3 0 from rfl) (.inl rfl) ⟨hZ11I, hZ11K, hZ11U⟩
        · replace hP := zE_n hP h10
          obtain ⟨Z12, hZ12⟩ := zx (zu Z 1 0 0 2 0)
          replace hP := zl_e hP hZ12
          have hZ12I := zM_0 hZ hZ12 (by decide) (Or.inr (by decide))
          have hZ12U : zU [] Z Z12 := zU_u zU_r hZ12 (Or.inl rfl)
          have hZ12K : zC [1, 2, 101, 102, 200] Z Z12 := zC_u zC_r hZ12 (by decide)
          intro μ9 e9
          replace e9 := e9.trans (zm_wI (Z := Z) (ν := ν) hZ12 (show ((0 : Nat) : Int) = 0 from rfl) (show ((0 : Nat) : Int) = 0 from rfl) (show ((2 : Nat) : Int) = 2 from rfl) (show (0 : Int32) = i3 0 from rfl))
          subst e9
          have r13 := zM_k hZ12I 2 0 0 0 (lo := 0) (hi := 671) (by decide) rfl
          refine wz_br (i3L (rfl : i3 a1 = i3 a1) (i3D (zm_rd (Z := Z12) (ν := ν) (k := 2) (show ((0 : Nat) : Int) = 0 from rfl) (show ((0 : Nat) : Int) = 0 from rfl) (show ((0 : Nat) : Int) = 0 from rfl)) (show (24 : Int32) = i3 24 from rfl) (by omega) (by omega) (by omega) (by omega)) (by omega) (by omega) (by omega) (by omega)) (fun h14 => ?_) (fun h14 => ?_)
          · replace hP := zE_p hP h14
            obtain ⟨Z15, hZ15⟩ := zx (zu Z12 1 0 0 2 2)
            replace hP := zl_e hP hZ15
            have hZ15I := zM_u hZ12I hZ15 (lo := -2147483648) (hi := 2147483647) (by decide) rfl (by omega) ⟨by decide, by decide⟩ (Or.inr (by decide)) rfl
            have hZ15U : zU [] Z Z15 := zU_u hZ12U hZ15 (Or.inl rfl)
            have hZ15K : zC [1, 2, 101, 102, 200] Z Z15 := zC_u hZ12K hZ15 (by decide)
            intro μ9 e9
            replace e9 := e9.trans (zm_wI (Z := Z12) (ν := ν) hZ15 (show ((0 : Nat) : Int) = 0 from rfl) (show ((0 : Nat) : Int) = 0 from rfl) (show ((2 : Nat) : Int) = 2 from rfl) (show (2 : Int32) = i3 2 from rfl))
            subst e9
            exact zlY hP (show (0 : Int32) = i3 0 from rfl) (.inl rfl) ⟨hZ15I, hZ15K, hZ15U⟩
          · replace hP := zE_n hP h14
            obtain ⟨Z16, hZ16⟩ := zx (zu Z12 1 0 0 2 0)
            replace hP := zl_e hP hZ16
            have hZ16I := zM_0 hZ12I hZ16 (by decide) (Or.inr (by decide))
            have hZ16U : zU [] Z Z16 := zU_u hZ12U hZ16 (Or.inl rfl)
            have hZ16K : zC [1, 2, 101, 102, 200] Z Z16 := zC_u hZ12K hZ16 (by decide)
            intro μ9 e9
            replace e9 := e9.trans (zm_wI (Z := Z12) (ν := ν) hZ16 (show ((0 : Nat) : Int) = 0 from rfl) (show ((0 : Nat) : Int) = 0 from rfl) (show ((2 : Nat) : Int) = 2 from rfl) (show (0 : Int32) = i3 0 from rfl))
            subst e9
            have r17 := zM_k hZ16I 1 0 0 35 (lo := 0) (hi := 1) (by decide) rfl
            have q18 := (zu_ne (k' := 1) (b' := 0) (i' := 0) (j' := 35) hZ16 (fun q => absurd q.2.2.2 (by decide))).trans (zu_ne (k' := 1) (b' := 0) (i' := 0) (j' := 35) hZ12 (fun q => absurd q.2.2.2 (by decide)))
            refine wz_i0 (Eq.trans (i3NE (zm_rd (Z := Z16) (ν := ν) (k := 1) (show ((0 : Nat) : Int) = 0 from rfl) (show ((0 : Nat) : Int) = 0 from rfl) (show ((35 : Nat) : Int) = 35 from rfl)) (show (0 : Int32) = i3 0 from rfl) (by omega) (by omega) (by omega) (by omega)) (decide_eq_false (by omega))) ?_
            have r19 := zM_k hZ16I 1 0 0 34 (lo := 0) (hi := 8) (by decide) rfl
            have q20 := (zu_ne (k' := 1) (b' := 0) (i' := 0) (j' := 34) hZ16 (fun q => absurd q.2.2.2 (by decide))).trans (zu_ne (k' := 1) (b' := 0) (i' := 0) (j' := 34) hZ12 (fun q => absurd q.2.2.2 (by decide)))
            have r21 := zM_f hZ16I 1 0 0 37
            have q22 := (zu_ne (k' := 1) (b' := 0) (i' := 0) (j' := 37) hZ16 (fun q => absurd q.2.2.2 (by decide))).trans (zu_ne (k' := 1) (b' := 0) (i' := 0) (j' := 37) hZ12 (fun q => absurd q.2.2.2 (by decide)))
            obtain ⟨c8, c9, hZ23I, dZ23⟩ := hdm Z16 8 a1 a2 0 0 0 0 hZ16I (by omega) (by omega) (by omega) (by omega) (by omega) (by omega) (by omega) (by omega) (by omega) (by omega)
            obtain ⟨Z23, hZ23⟩ := zx (dm Z16 8 a1 a2 0 0 0 0)
            rw [← hZ23] at c9 hZ23I dZ23
            replace hP := zl_e hP hZ23
            refine wz_cV_of (zas (zcons rfl (zcons (zvi (show (-1 : Int32) = i3 (-1) from rfl)) rfl)) c8) ?_
            refine wz_cV_of (zas (zcons rfl (zcons (zvi (show (8 : Int32) = i3 8 from rfl)) (zcons (zvi (rfl : i3 a1 = i3 a1)) (zcons (zvi (rfl : i3 a2 = i3 a2)) (zcons (zvi (show (0 : Int32) = i3 0 from rfl)) (zcons (zvi (show (0 : Int32) = i3 0 from rfl)) (zcons (zvi (show (0 : Int32) = i3 0 from rfl)) (zcons (zvi (show (0 : Int32) = i3 0 from rfl)) rfl)))))))) c9) ?_
            clear c8 c9
            have hZ23K : zC [1, 2, 101, 102, 200] Z Z23 := zC_t hZ16K (zMd_C dZ23) (by decide)
            have hZ23U : zU [] Z Z23 := zU_t hZ16U (zMd_U dZ23) zU_b0
            refine wz_i0 (i3O (n := 4400) (i3A (show (1300 : Int32) = i3 1300 from rfl) (rfl : i3 a1 = i3 a1)) (by omega) (by omega) (by omega)) ?_
            refine wz_i0 (i3O (n := 4400) (i3A (show (1300 : Int32) = i3 1300 from rfl) (rfl : i3 a1 = i3 a1)) (by omega) (by omega) (by omega)) ?_
            obtain ⟨Z24, hZ24⟩ := zx (zu Z23 2 0 0 (1300 + a1) a2)
            replace hP := zl_e hP hZ24
            have hZ24I := zM_u2 hZ23I hZ24 (lo := 0) (hi := 40) (zs_1300 (by omega) (by omega)) (by omega) ⟨by decide, by decide⟩ (by simp only [zsp]; omega)
            have hZ24U : zU [] Z Z24 := zU_u hZ23U hZ24 (Or.inl rfl)
            have hZ24K : zC [1, 2, 101, 102, 200] Z Z24 := zC_u hZ23K hZ24 (zcl_2w (by omega) rfl)
            intro μ9 e9
            replace e9 := e9.trans (zm_wI (Z := Z23) (ν := ν1) hZ24 (show ((0 : Nat) : Int) = 0 from rfl) (show ((0 : Nat) : Int) = 0 from rfl) (i3I (y := (1300 + a1)) (i3A (show (1300 : Int32) = i3 1300 from rfl) (rfl : i3 a1 = i3 a1)) (by omega) (by omega) (by omega)) (rfl : i3 a2 = i3 a2))
            subst e9
            have r25 := zM_k hZ23I 2 0 0 (1300 + a1) (lo := 0) (hi := 40) (by decide) (zs_1300 (by omega) (by omega))
            exact zlY hP (zm_rd (Z := Z23) (ν := ν1) (k := 2) (show ((0 : Nat) : Int) = 0 from rfl) (show ((0 : Nat) : Int) = 0 from rfl) (i3I (y := (1300 + a1)) (i3A (show (1300 : Int32) = i3 1300 from rfl) (rfl : i3 a1 = i3 a1)) (by omega) (by omega) (by omega))) (.inr rfl) ⟨hZ24I, hZ24K, hZ24U⟩

theorem sq_443 {s : zSM} {Z : qz_Z} {ν : qz_N} (hZ : zM s Z) (gq : Z 1 0 0 35 = 1) (hM : s.2 + 0 ≤ 1000000000) {a1 : Int} (ga1 : -2147483648 ≤ a1 ∧ a1 ≤ 2147483647) {a2 : Int} (ga2 : -2147483648 ≤ a2 ∧ a2 ≤ 2147483647) {ν1 : qz_N} : ∃ (Z1 : qz_Z) (ν2 : qz_N) (v : Int), (Z1, v) = zy_443 Z zq0 a1 a2 ∧ (ν2 = ν ∨ ν2 = ν1) ∧ qf_443 [.inr (.inr (some (1, 0, 0))), .inl (i3 a1), .inl (i3 a2)] (zm Z ν) = some (zm Z1 ν2, .inl (some (.inl (i3 v)))) ∧ (fun Z1 => zM s Z1 ∧ zC [1, 2] Z Z1 ∧ zU [] Z Z1) Z1 := by
  obtain ⟨P, hP⟩ := zx (zy_443 Z zq0 a1 a2)
  refine zc_Y (Q := fun Z1 => zM s Z1 ∧ zC [1, 2] Z Z1 ∧ zU [] Z Z1) hP (fw_443 (i3 a1) (i3 a2) _ _ ?_)
  replace hP : zE P (zy_443 Z zq0 a1 a2) := hP
  unfold zy_443 at hP
  have r1 := zM_k hZ 1 0 0 35 (lo := 0) (hi := 1) (by decide) rfl
  have r2 := zM_k hZ 1 0 0 34 (lo := 0) (hi := 8) (by decide) rfl
  have r3 := zM_f hZ 1 0 0 37
  refine wz_br (i3L (rfl : i3 a1 = i3 a1) (show (0 : Int32) = i3 0 from rfl) (by omega) (by omega) (by omega) (by omega)) (fun h4 => ?_) (fun h4 => ?_)
  · replace hP := zE_p hP h4
    obtain ⟨Z5, hZ5⟩ := zx (zu Z 1 0 0 2 1)
    replace hP := zl_e hP hZ5
    have hZ5I := zM_u hZ hZ5 (lo := -2147483648) (hi := 2147483647) (by decide) rfl (by omega) ⟨by decide, by decide⟩ (Or.inr (by decide)) rfl
    have hZ5U : zU [] Z Z5 := zU_u zU_r hZ5 (Or.inl rfl)
    have hZ5K : zC [1, 2] Z Z5 := zC_u zC_r hZ5 (by decide)
    intro μ9 e9
    replace e9 := e9.trans (zm_wI (Z := Z) (ν := ν) hZ5 (show ((0 : Nat) : Int) = 0 from rfl) (show ((0 : Nat) : Int) = 0 from rfl) (show ((2 : Nat) : Int) = 2 from rfl) (show (1 : Int32) = i3 1 from rfl))
    subst e9
    exact zlY hP (show (0 : Int32) = i3 0 from rfl) (.inl rfl) ⟨hZ5I, hZ5K, hZ5U⟩
  · replace hP := zE_n hP h4
    refine wz_br (i3L (show (27 : Int32) = i3 27 from rfl) (rfl : i3 a1 = i3 a1) (by omega) (by omega) (by omega) (by omega)) (fun h6 => ?_) (fun h6 => ?_)
    · replace hP := zE_p hP h6
      obtain ⟨Z7, hZ7⟩ := zx (zu Z 1 0 0 2 1)
      replace hP := zl_e hP hZ7
      have hZ7I := zM_u hZ hZ7 (lo := -2147483648) (hi := 2147483647) (by decide) rfl (by omega) ⟨by decide, by decide⟩ (Or.inr (by decide)) rfl
      have hZ7U : zU [] Z Z7 := zU_u zU_r hZ7 (Or.inl rfl)
      have hZ7K : zC [1, 2] Z Z7 := zC_u zC_r hZ7 (by decide)
      intro μ9 e9
      replace e9 := e9.trans (zm_wI (Z := Z) (ν := ν) hZ7 (show ((0 : Nat) : Int) = 0 from rfl) (show ((0 : Nat) : Int) = 0 from rfl) (show ((2 : Nat) : Int) = 2 from rfl) (show (1 : Int32) = i3 1 from rfl))
      subst e9
      exact zlY hP (show (0 : Int32) = i3 0 from rfl) (.inl rfl) ⟨hZ7I, hZ7K, hZ7U⟩
    · replace hP := zE_n hP h6
      refine wz_br (i3L (rfl : i3 a2 = i3 a2) (show (0 : Int32) = i3 0 from rfl) (by omega) (by omega) (by omega) (by omega)) (fun h8 => ?_) (fun h8 => ?_)
      · replace hP := zE_p hP h8
        obtain ⟨Z9, hZ9⟩ := zx (zu Z 1 0 0 2 1)
        replace hP := zl_e hP hZ9
        have hZ9I := zM_u hZ hZ9 (lo := -2147483648) (hi := 2147483647) (by decide) rfl (by omega) ⟨by decide, by decide⟩ (Or.inr (by decide)) rfl
        have hZ9U : zU [] Z Z9 := zU_u zU_r hZ9 (Or.inl rfl)
        have hZ9K : zC [1, 2] Z Z9 := zC_u zC_r hZ9 (by decide)
        intro μ9 e9
        replace e9 := e9.trans (zm_wI (Z := Z) (ν := ν) hZ9 (show ((0 : Nat) : Int) = 0 from rfl) (show ((0 : Nat) : Int) = 0 from rfl) (show ((2 : Nat) : Int) = 2 from rfl) (show (1 : Int32) = i3 1 from rfl))
        subst e9
        exact zlY hP (show (0 : Int32) = i3 0 from rfl) (.inl rfl) ⟨hZ9I, hZ9K, hZ9U⟩
      · replace hP := zE_n hP h8
        refine wz_br (i3L (show (40 : Int32) = i3 40 from rfl) (rfl : i3 a2 = i3 a2) (by omega) (by omega) (by omega) (by omega)) (fun h10 => ?_) (fun h10 => ?_)
        · replace hP := zE_p hP h10
          obtain ⟨Z11, hZ11⟩ := zx (zu Z 1 0 0 2 1)
          replace hP := zl_e hP hZ11
          have hZ11I := zM_u hZ hZ11 (lo := -2147483648) (hi := 2147483647) (by decide) rfl (by omega) ⟨by decide, by decide⟩ (Or.inr (by decide)) rfl
          have hZ11U : zU [] Z Z11 := zU_u zU_r hZ11 (Or.inl rfl)
          have hZ11K : zC [1, 2] Z Z11 := zC_u zC_r hZ11 (by decide)
          intro μ9 e9
          replace e9 := e9.trans (zm_wI (Z := Z) (ν := ν) hZ11 (show ((0 : Nat) : Int) = 0 from rfl) (show ((0 : Nat) : Int) = 0 from rfl) (show ((2 : Nat) : Int) = 2 from rfl) (show (1 : Int32) = i3 1 from rfl))
          subst e9
          exact zlY hP (show (0 : Int32) = i3 0 from rfl) (.inl rfl) ⟨hZ11I, hZ11K, hZ11U⟩
        · replace hP := zE_n hP h10
          obtain ⟨Z12, hZ12⟩ := zx (zu Z 1 0 0 2 0)
          replace hP := zl_e hP hZ12
          have hZ12I := zM_0 hZ hZ12 (by decide) (Or.inr (by decide))
          have hZ12U : zU [] Z Z12 := zU_u zU_r hZ12 (Or.inl rfl)
          have hZ12K : zC [1, 2] Z Z12 := zC_u zC_r hZ12 (by decide)
          intro μ9 e9
          replace e9 := e9.trans (zm_wI (Z := Z) (ν := ν) hZ12 (show ((0 : Nat) : Int) = 0 from rfl) (show ((0 : Nat) : Int) = 0 from rfl) (show ((2 : Nat) : Int) = 2 from rfl) (show (0 : Int32) = i3 0 from rfl))
          subst e9
          have r13 := zM_k hZ12I 2 0 0 0 (lo := 0) (hi := 671) (by decide) rfl
          refine wz_br (i3L (rfl : i3 a1 = i3 a1) (i3D (zm_rd (Z := Z12) (ν := ν) (k := 2) (show ((0 : Nat) : Int) = 0 from rfl) (show ((0 : Nat) : Int) = 0 from rfl) (show ((0 : Nat) : Int) = 0 from rfl)) (show (24 : Int32) = i3 24 from rfl) (by omega) (by omega) (by omega) (by omega)) (by omega) (by omega) (by omega) (by omega)) (fun h14 => ?_) (fun h14 => ?_)
          · replace hP := zE_p hP h14
            obtain ⟨Z15, hZ15⟩ := zx (zu Z12 1 0 0 2 2)
            replace hP := zl_e hP hZ15
            have hZ15I := zM_u hZ12I hZ15 (lo := -2147483648) (hi := 2147483647) (by decide) rfl (by omega) ⟨by decide, by decide⟩ (Or.inr (by decide)) rfl
            have hZ15U : zU [] Z Z15 := zU_u hZ12U hZ15 (Or.inl rfl)
            have hZ15K : zC [1, 2] Z Z15 := zC_u hZ12K hZ15 (by decide)
            intro μ9 e9
            replace e9 := e9.trans (zm_wI (Z := Z12) (ν := ν) hZ15 (show ((0 : Nat) : Int) = 0 from rfl) (show ((0 : Nat) : Int) = 0 from rfl) (show ((2 : Nat) : Int) = 2 from rfl) (show (2 : Int32) = i3 2 from rfl))
            subst e9
            exact zlY hP (show (0 : Int32) = i3 0 from rfl) (.inl rfl) ⟨hZ15I, hZ15K, hZ15U⟩
          · replace hP := zE_n hP h14
            obtain ⟨Z16, hZ16⟩ := zx (zu Z12 1 0 0 2 0)
            replace hP := zl_e hP hZ16
            have hZ16I := zM_0 hZ12I hZ16 (by decide) (Or.inr (by decide))
            have hZ16U : zU [] Z Z16 := zU_u hZ12U hZ16 (Or.inl rfl)
            have hZ16K : zC [1, 2] Z Z16 := zC_u hZ12K hZ16 (by decide)
            intro μ9 e9
            replace e9 := e9.trans (zm_wI (Z := Z12) (ν := ν) hZ16 (show ((0 : Nat) : Int) = 0 from rfl) (show ((0 : Nat) : Int) = 0 from rfl) (show ((2 : Nat) : Int) = 2 from rfl) (show (0 : Int32) = i3 0 from rfl))
            subst e9
            have r17 := zM_k hZ16I 1 0 0 35 (lo := 0) (hi := 1) (by decide) rfl
            have q18 := (zu_ne (k' := 1) (b' := 0) (i' := 0) (j' := 35) hZ16 (fun q => absurd q.2.2.2 (by decide))).trans (zu_ne (k' := 1) (b' := 0) (i' := 0) (j' := 35) hZ12 (fun q => absurd q.2.2.2 (by decide)))
            refine wz_i1 (Eq.trans (i3NE (zm_rd (Z := Z16) (ν := ν) (k := 1) (show ((0 : Nat) : Int) = 0 from rfl) (show ((0 : Nat) : Int) = 0 from rfl) (show ((35 : Nat) : Int) = 35 from rfl)) (show (0 : Int32) = i3 0 from rfl) (by omega) (by omega) (by omega) (by omega)) (decide_eq_true (by omega))) ?_
            replace hP := zl_q hP (rfl : _ = Z16)
            refine wz_i0 (i3O (n := 4400) (i3A (show (1300 : Int32) = i3 1300 from rfl) (rfl : i3 a1 = i3 a1)) (by omega) (by omega) (by omega)) ?_
            refine wz_i0 (i3O (n := 4400) (i3A (show (1300 : Int32) = i3 1300 from rfl) (rfl : i3 a1 = i3 a1)) (by omega) (by omega) (by omega)) ?_
            obtain ⟨Z19, hZ19⟩ := zx (zu Z16 2 0 0 (1300 + a1) a2)
            replace hP := zl_e hP hZ19
            have hZ19I := zM_u2 hZ16I hZ19 (lo := 0) (hi := 40) (zs_1300 (by omega) (by omega)) (by omega) ⟨by decide, by decide⟩ (by simp only [zsp]; omega)
            have hZ19U : zU [] Z Z19 := zU_u hZ16U hZ19 (Or.inl rfl)
            have hZ19K : zC [1, 2] Z Z19 := zC_u hZ16K hZ19 (zcl_2w (by omega) rfl)
            intro μ9 e9
            replace e9 := e9.trans (zm_wI (Z := Z16) (ν := ν) hZ19 (show ((0 : Nat) : Int) = 0 from rfl) (show ((0 : Nat) : Int) = 0 from rfl) (i3I (y := (1300 + a1)) (i3A (show (1300 : Int32) = i3 1300 from rfl) (rfl : i3 a1 = i3 a1)) (by omega) (by omega) (by omega)) (rfl : i3 a2 = i3 a2))
            subst e9
            have r20 := zM_k hZ16I 2 0 0 (1300 + a1) (lo := 0) (hi := 40) (by decide) (zs_1300 (by omega) (by omega))
            exact zlY hP (zm_rd (Z := Z16) (ν := ν) (k := 2) (show ((0 : Nat) : Int) = 0 from rfl) (show ((0 : Nat) : Int) = 0 from rfl) (i3I (y := (1300 + a1)) (i3A (show (1300 : Int32) = i3 1300 from rfl) (rfl : i3 a1 = i3 a1)) (by omega) (by omega) (by omega))) (.inl rfl) ⟨hZ19I, hZ19K, hZ19U⟩
/- yX12_owed -/
def zy_444 (Z : qz_Z) (a1 : Int) (a2 : Int) : qz_Z × Int := (if a1 < 0 then (zlet (zu Z 1 0 0 2 1) (fun Z5 => (Z5, 0))) else (if ((Z 2 0 0 101) - 1) < a1 then (zlet (zu Z 1 0 0 2 1) (fun Z8 => (Z8, 0))) else (zlet (zu Z 1 0 0 2 0) (fun Z9 => (if a2 < 0 then (zlet (zu Z9 1 0 0 2 2) (fun Z11 => (Z11, 0))) else (if 4 < a2 then (zlet (zu Z9 1 0 0 2 2) (fun Z13 => (Z13, 0))) else (zlet (zu Z9 1 0 0 2 0) (fun Z14 => (Z14, (Z14 2 0 0 (3820 + 5 * a1 + a2)))))))))))
theorem sy_444 {s : zSM} {Z : qz_Z} {ν : qz_N} (hZ : zM s Z) (gq : Z 1 0 0 35 = 0) (hM : s.2 + 0 ≤ 1000000000) {a1 : Int} (ga1 : -2147483648 ≤ a1 ∧ a1 ≤ 2147483647) {a2 : Int} (ga2 : -2147483648 ≤ a2 ∧ a2 ≤ 2147483647) {ν1 : qz_N} : ∃ (Z1 : qz_Z) (ν2 : qz_N) (v : Int), (Z1, v) = zy_444 Z a1 a2 ∧ (ν2 = ν ∨ ν2 = ν1) ∧ qf_444 [.inr (.inr (some (1, 0, 0))), .inl (i3 a1), .inl (i3 a2)] (zm Z ν) = some (zm Z1 ν2, .inl (some (.inl (i3 v)))) ∧ (fun Z1 => zM s Z1 ∧ zC [1] Z Z1 ∧ zU [] Z Z1) Z1 := by
  obtain ⟨P, hP⟩ := zx (zy_444 Z a1 a2)
  refine zc_Y (Q := fun Z1 => zM s Z1 ∧ zC [1] Z Z1 ∧ zU [] Z Z1) hP (fw_444 (i3 a1) (i3 a2) _ _ ?_)
  replace hP : zE P (zy_444 Z a1 a2) := hP
  unfold zy_444 at hP
  have r1 := zM_k hZ 1 0 0 35 (lo := 0) (hi := 1) (by decide) rfl
  have r2 := zM_k hZ 1 0 0 34 (lo := 0) (hi := 8) (by decide) rfl
  have r3 := zM_f hZ 1 0 0 37
  refine wz_br (i3L (rfl : i3 a1 = i3 a1) (show (0 : Int32) = i3 0 from rfl) (by omega) (by omega) (by omega) (by omega)) (fun h4 => ?_) (fun h4 => ?_)
  · replace hP := zE_p hP h4
    obtain ⟨Z5, hZ5⟩ := zx (zu Z 1 0 0 2 1)
    replace hP := zl_e hP hZ5
    have hZ5I := zM_u hZ hZ5 (lo := -2147483648) (hi := 2147483647) (by decide) rfl (by omega) ⟨by decide, by decide⟩ (Or.inr (by decide)) rfl
    have hZ5U : zU [] Z Z5 := zU_u zU_r hZ5 (Or.inl rfl)
    have hZ5K : zC [1] Z Z5 := zC_u zC_r hZ5 (by decide)
    intro μ9 e9
    replace e9 := e9.trans (zm_wI (Z := Z) (ν := ν) hZ5 (show ((0 : Nat) : Int) = 0 from rfl) (show ((0 : Nat) : Int) = 0 from rfl) (show ((2 : Nat) : Int) = 2 from rfl) (show (1 : Int32) = i3 1 from rfl))
    subst e9
    exact zlY hP (show (0 : Int32) = i3 0 from rfl) (.inl rfl) ⟨hZ5I, hZ5K, hZ5U⟩
  · replace hP := zE_n hP h4
    have r6 := zM_k hZ 2 0 0 101 (lo := 0) (hi := 6) (by decide) rfl
    refine wz_br (i3L (i3S (zm_rd (Z := Z) (ν := ν) (k := 2) (show ((0 : Nat) : Int) = 0 from rfl) (show ((0 : Nat) : Int) = 0 from rfl) (show ((101 : Nat) : Int) = 101 from rfl)) (show (1 : Int32) = i3 1 from rfl)) (rfl : i3 a1 = i3 a1) (by omega) (by omega) (by omega) (by omega)) (fun h7 => ?_) (fun h7 => ?_)
    · replace hP := zE_p hP h7
      obtain ⟨Z8, hZ8⟩ := zx (zu Z 1 0 0 2 1)
      replace hP := zl_e hP hZ8
      have hZ8I := zM_u hZ hZ8 (lo := -2147483648) (hi := 2147483647) (by decide) rfl (by omega) ⟨by decide, by decide⟩ (Or.inr (by decide)) rfl
      have hZ8U : zU [] Z Z8 := zU_u zU_r hZ8 (Or.inl rfl)
      have hZ8K : zC [1] Z Z8 := zC_u zC_r hZ8 (by decide)
      intro μ9 e9
      replace e9 := e9.trans (zm_wI (Z := Z) (ν := ν) hZ8 (show ((0 : Nat) : Int) = 0 from rfl) (show ((0 : Nat) : Int) = 0 from rfl) (show ((2 : Nat) : Int) = 2 from rfl) (show (1 : Int32) = i3 1 from rfl))
      subst e9
      exact zlY hP (show (0 : Int32) = i3 0 from rfl) (.inl rfl) ⟨hZ8I, hZ8K, hZ8U⟩
    · replace hP := zE_n hP h7
      obtain ⟨Z9, hZ9⟩ := zx (zu Z 1 0 0 2 0)
      replace hP := zl_e hP hZ9
      have hZ9I := zM_0 hZ hZ9 (by decide) (Or.inr (by decide))
      have hZ9U : zU [] Z Z9 := zU_u zU_r hZ9 (Or.inl rfl)
      have hZ9K : zC [1] Z Z9 := zC_u zC_r hZ9 (by decide)
      intro μ9 e9
      replace e9 := e9.trans (zm_wI (Z := Z) (ν := ν) hZ9 (show ((0 : Nat) : Int) = 0 from rfl) (show ((0 : Nat) : Int) = 0 from rfl) (show ((2 : Nat) : Int) = 2 from rfl) (show (0 : Int32) = i3 0 from rfl))
      subst e9
      refine wz_br (i3L (rfl : i3 a2 = i3 a2) (show (0 : Int32) = i3 0 from rfl) (by omega) (by omega) (by omega) (by omega)) (fun h10 => ?_) (fun h10 => ?_)
      · replace hP := zE_p hP h10
        obtain ⟨Z11, hZ11⟩ := zx (zu Z9 1 0 0 2 2)
        replace hP := zl_e hP hZ11
        have hZ11I := zM_u hZ9I hZ11 (lo := -2147483648) (hi := 2147483647) (by decide) rfl (by omega) ⟨by decide, by decide⟩ (Or.inr (by decide)) rfl
        have hZ11U : zU [] Z Z11 := zU_u hZ9U hZ11 (Or.inl rfl)
        have hZ11K : zC [1] Z Z11 := zC_u hZ9K hZ11 (by decide)
        intro μ9 e9
        replace e9 := e9.trans (zm_wI (Z := Z9) (ν := ν) hZ11 (show ((0 : Nat) : Int) = 0 from rfl) (show ((0 : Nat) : Int) = 0 from rfl) (show ((2 : Nat) : Int) = 2 from rfl) (show (2 : Int32) = i3 2 from rfl))
        subst e9
        exact zlY hP (show (0 : Int32) = i3 0 from rfl) (.inl rfl) ⟨hZ11I, hZ11K, hZ11U⟩
      · replace hP := zE_n hP h10
        refine wz_br (i3L (show (4 : Int32) = i3 4 from rfl) (rfl : i3 a2 = i3 a2) (by omega) (by omega) (by omega) (by omega)) (fun h12 => ?_) (fun h12 => ?_)
        · replace hP := zE_p hP h12
          obtain ⟨Z13, hZ13⟩ := zx (zu Z9 1 0 0 2 2)
          replace hP := zl_e hP hZ13
          have hZ13I := zM_u hZ9I hZ13 (lo := -2147483648) (hi := 2147483647) (by decide) rfl (by omega) ⟨by decide, by decide⟩ (Or.inr (by decide)) rfl
          have hZ13U : zU [] Z Z13 := zU_u hZ9U hZ13 (Or.inl rfl)
          have hZ13K : zC [1] Z Z13 := zC_u hZ9K hZ13 (by decide)
          intro μ9 e9
          replace e9 := e9.trans (zm_wI (Z := Z9) (ν := ν) hZ13 (show ((0 : Nat) : Int) = 0 from rfl) (show ((0 : Nat) : Int) = 0 from rfl) (show ((2 : Nat) : Int) = 2 from rfl) (show (2 : Int32) = i3 2 from rfl))
          subst e9
          exact zlY hP (show (0 : Int32) = i3 0 from rfl) (.inl rfl) ⟨hZ13I, hZ13K, hZ13U⟩
        · replace hP := zE_n hP h12
          obtain ⟨Z14, hZ14⟩ := zx (zu Z9 1 0 0 2 0)
          replace hP := zl_e hP hZ14
          have hZ14I := zM_0 hZ9I hZ14 (by decide) (Or.inr (by decide))
          have hZ14U : zU [] Z Z14 := zU_u hZ9U hZ14 (Or.inl rfl)
          have hZ14K : zC [1] Z Z14 := zC_u hZ9K hZ14 (by decide)
          intro μ9 e9
          replace e9 := e9.trans (zm_wI (Z := Z9) (ν := ν) hZ14 (show ((0 : Nat) : Int) = 0 from rfl) (show ((0 : Nat) : Int) = 0 from rfl) (show ((2 : Nat) : Int) = 2 from rfl) (show (0 : Int32) = i3 0 from rfl))
          subst e9
          refine wz_i0 (i3O (n := 4400) (i3A (i3A (show (3820 : Int32) = i3 3820 from rfl) (i3M (show (5 : Int32) = i3 5 from rfl) (rfl : i3 a1 = i3 a1))) (rfl : i3 a2 = i3 a2)) (by omega) (by omega) (by omega)) ?_
          have r15 := zM_f hZ14I 2 0 0 (3820 + 5 * a1 + a2)
          exact zlY hP (zm_rd (Z := Z14) (ν := ν) (k := 2) (show ((0 : Nat) : Int) = 0 from rfl) (show ((0 : Nat) : Int) = 0 from rfl) (i3I (y := (3820 + 5 * a1 + a2)) (i3A (i3A (show (3820 : Int32) = i3 3820 from rfl) (i3M (show (5 : Int32) = i3 5 from rfl) (rfl : i3 a1 = i3 a1))) (rfl : i3 a2 = i3 a2)) (by omega) (by omega) (by omega))) (.inl rfl) ⟨hZ14I, hZ14K, hZ14U⟩
/- yX12_bOpenBills -/
def zl_278_1 (x1 : Int) : Nat → qz_Z → Int → Int → Int × Int
  | 0, Z, x2, x3 => (x2, x3)
  | m + 1, Z, x2, x3 => (if (Z 2 0 0 2000) ≤ x3 then (x2, x3) else (if (Z 2 0 0 (2011 + 16 * x3)) ≠ x1 then zl_278_1 x1 m Z (x2 + 0) (x3 + 1) else (if (Z 2 0 0 (1810 + 2 * x3)) ≤ 0 then zl_278_1 x1 m Z (x2 + 0) (x3 + 1) else zl_278_1 x1 m Z (x2 + 1) (x3 + 1))))
theorem sl_278_1 {s : zSM} {Z : qz_Z} {ν : qz_N} (hZ : zM s Z) (hM : s.2 + 0 ≤ 1000000000) {x1 : Int} (gx1 : 0 ≤ x1 ∧ x1 ≤ 7) {x2 : Int} (gx2 : 0 ≤ x2 ∧ x2 ≤ 60) {x3 : Int} (gx3 : 0 ≤ x3 ∧ x3 ≤ 60) (gr0 : x2 ≤ x3) {k : wz_K} {R : wz_R} {L : qz_L} (hL : qz_fg [true, true, true, true] L = [some (.inr (.inr (some (1, 0, 0)))), some (.inl (i3 x1)), some (.inl (i3 x2)), some (.inl (i3 x3))]) {T : Int × Int} (hP : zE T (zl_278_1 x1 ((60 - x3).toNat + 1) Z x2 x3)) (hk : ∀ (L9 : qz_L) (yx2 yx3 : Int), qz_fg [false, false, true, false] L9 = [none, none, some (.inl (i3 yx2)), none] → (0 ≤ yx2 ∧ yx2 ≤ 60) → (0 ≤ yx3 ∧ yx3 ≤ 60) → (yx2 ≤ yx3) → zE T ((yx2, yx3)) → k 0 (L9, [], zm Z ν)) : wz_loop qb_278_1 65536 k R (L, [], zm Z ν) := by
  refine wz_lp sb_278_1 (fun m x => ∃ x2 : Int, ∃ x3 : Int, qz_fg [true, true, true, true] x.1 = [some (.inr (.inr (some (1, 0, 0)))), some (.inl (i3 x1)), some (.inl (i3 x2)), some (.inl (i3 x3))] ∧ x.2 = ([], zm Z ν) ∧ m = (60 - x3).toNat ∧ (0 ≤ x2 ∧ x2 ≤ 60) ∧ (0 ≤ x3 ∧ x3 ≤ 60) ∧ (x2 ≤ x3) ∧ zE T (zl_278_1 x1 (m + 1) Z x2 x3)) ?_ 65536 ((60 - x3).toNat) _ (by omega) ⟨x2, x3, hL, rfl, rfl, gx2, gx3, gr0, hP⟩
  clear hP gr0 gx2 gx3 hL
  clear x2 x3
  rintro m ⟨L, st, μ⟩ ⟨x2, x3, hL, hx, hm, gx2, gx3, gr0, hP⟩
  cases hx
  refine fb_278_1 (i3 x1) (i3 x2) (i3 x3) _ _ _ _ hL ?_
  have r1 := zM_k hZ 2 0 0 2000 (lo := 0) (hi := 60) (by decide) rfl
  refine wz_br (i3Le (zm_rd (Z := Z) (ν := ν) (k := 2) (show ((0 : Nat) : Int) = 0 from rfl) (show ((0 : Nat) : Int) = 0 from rfl) (show ((2000 : Nat) : Int) = 2000 from rfl)) (rfl : i3 x3 = i3 x3) (by omega) (by omega) (by omega) (by omega)) (fun h2 => ?_) (fun h2 => ?_)
  · replace hP := zE_p hP h2
    exact hk _ _ _ (zconso rfl (zconso rfl (zconso (zvo (rfl : i3 x2 = i3 x2)) (zconso rfl rfl))))  (by omega) (by omega) (by omega) hP
  · replace hP := zE_n hP h2
    refine wz_i0 (i3O (n := 4400) (i3A (i3A (show (2010 : Int32) = i3 2010 from rfl) (i3M (show (16 : Int32) = i3 16 from rfl) (rfl : i3 x3 = i3 x3))) (show (1 : Int32) = i3 1 from rfl)) (by omega) (by omega) (by omega)) ?_
    have r3 := zM_k hZ 2 0 0 (2011 + 16 * x3) (lo := 0) (hi := 7) (by decide) (zs_2010_1 (x := x3) (by omega) (by omega) (by omega))
    refine wz_br (i3NE (zm_rd (Z := Z) (ν := ν) (k := 2) (show ((0 : Nat) : Int) = 0 from rfl) (show ((0 : Nat) : Int) = 0 from rfl) (i3I (y := (2011 + 16 * x3)) (i3A (i3A (show (2010 : Int32) = i3 2010 from rfl) (i3M (show (16 : Int32) = i3 16 from rfl) (rfl : i3 x3 = i3 x3))) (show (1 : Int32) = i3 1 from rfl)) (by omega) (by omega) (by omega))) (rfl : i3 x1 = i3 x1) (by omega) (by omega) (by omega) (by omega)) (fun h4 => ?_) (fun h4 => ?_)
    · replace hP := zE_p hP h4
      obtain ⟨m2, rfl⟩ : ∃ m2, m = m2 + 1 := ⟨m - 1, by omega⟩
      exact wz_k1 ⟨m2, by omega, (x2 + 0), (x3 + 1), (zconso rfl (zconso (zvo (rfl : i3 x1 = i3 x1)) (zconso (zvo (i3A (rfl : i3 x2 = i3 x2) (show (0 : Int32) = i3 0 from rfl))) (zconso (zvo (i3A (rfl : i3 x3 = i3 x3) (show (1 : Int32) = i3 1 from rfl))) rfl)))), rfl,  by omega, by omega, by omega, by omega,  hP⟩
    · replace hP := zE_n hP h4
      refine wz_i0 (i3O (n := 4400) (i3A (show (1810 : Int32) = i3 1810 from rfl) (i3M (show (2 : Int32) = i3 2 from rfl) (rfl : i3 x3 = i3 x3))) (by omega) (by omega) (by omega)) ?_
      have r5 := zM_f hZ 2 0 0 (1810 + 2 * x3)
      refine wz_br (i3Le (zm_rd (Z := Z) (ν := ν) (k := 2) (show ((0 : Nat) : Int) = 0 from rfl) (show ((0 : Nat) : Int) = 0 from rfl) (i3I (y := (1810 + 2 * x3)) (i3A (show (1810 : Int32) = i3 1810 from rfl) (i3M (show (2 : Int32) = i3 2 from rfl) (rfl : i3 x3 = i3 x3))) (by omega) (by omega) (by omega))) (show (0 : Int32) = i3 0 from rfl) (by omega) (by omega) (by omega) (by omega)) (fun h6 => ?_) (fun h6 => ?_)
      · replace hP := zE_p hP h6
        obtain ⟨m2, rfl⟩ : ∃ m2, m = m2 + 1 := ⟨m - 1, by omega⟩
        exact wz_k1 ⟨m2, by omega, (x2 + 0), (x3 + 1), (zconso rfl (zconso (zvo (rfl : i3 x1 = i3 x1)) (zconso (zvo (i3A (rfl : i3 x2 = i3 x2) (show (0 : Int32) = i3 0 from rfl))) (zconso (zvo (i3A (rfl : i3 x3 = i3 x3) (show (1 : Int32) = i3 1 from rfl))) rfl)))), rfl,  by omega, by omega, by omega, by omega,  hP⟩
      · replace hP := zE_n hP h6
        obtain ⟨m2, rfl⟩ : ∃ m2, m = m2 + 1 := ⟨m - 1, by omega⟩
        exact wz_k1 ⟨m2, by omega, (x2 + 1), (x3 + 1), (zconso rfl (zconso (zvo (rfl : i3 x1 = i3 x1)) (zconso (zvo (i3A (rfl : i3 x2 = i3 x2) (show (1 : Int32) = i3 1 from rfl))) (zconso (zvo (i3A (rfl : i3 x3 = i3 x3) (show (1 : Int32) = i3 1 from rfl))) rfl)))), rfl,  by omega, by omega, by omega, by omega,  hP⟩
/- yX12_bOpenBills -/
def zf_278 (Z : qz_Z) (a1 : Int) : Int := (zlet2 (zl_278_1 a1 61 Z 0 0) (fun y1 y2 => y1))
theorem sp_278 {s : zSM} {Z : qz_Z} {ν : qz_N} (hZ : zM s Z) {a1 : Int} (ga1 : 0 ≤ a1 ∧ a1 ≤ 7) (hM : s.2 + 0 ≤ 1000000000) : ∃ P : Int, P = zf_278 Z a1 ∧ (qf_278 [.inr (.inr (some (1, 0, 0))), .inl (i3 a1)] (zm Z ν) = some (zm Z ν, .inl (some (.inl (i3 P)))) ∧ 0 ≤ P ∧ P ≤ 60) := by
  obtain ⟨P, hP⟩ := zx (zf_278 Z a1)
  refine zc_R (Q := fun P => 0 ≤ P ∧ P ≤ 60) hP (fw_278 (i3 a1) _ _ ?_)
  replace hP : zE P (zf_278 Z a1) := hP
  unfold zf_278 at hP
  refine sl_278_1 (ν := ν) hZ (zbh (c := 0) (k := 0) hM (Nat.le_of_ble_eq_true rfl)) (x1 := a1) (by omega) (x2 := 0) (by omega) (x3 := 0) (by omega) (by omega) (zconso rfl (zconso (zvo (rfl : i3 a1 = i3 a1)) (zconso (zvo (show (0 : Int32) = i3 0 from rfl)) (zconso (zvo (show (0 : Int32) = i3 0 from rfl)) rfl)))) rfl ?_
  intro L3 y1 y2 hL3 gy1 gy2 gL3_0 q9
  replace hP := zl_e2 hP (Eq.symm q9)
  clear q9
  refine fc_278_2 (i3 y1) _ _ _ _ hL3 ?_
  exact zlR hP (rfl : i3 y1 = i3 y1) ⟨by omega, by omega⟩
/- yX12_bOrders -/
def zl_279_1 (x1 : Int) : Nat → qz_Z → Int → Int → Int × Int
  | 0, Z, x2, x3 => (x2, x3)
  | m + 1, Z, x2, x3 => (if (Z 2 0 0 1401) ≤ x3 then (x2, x3) else (if (Z 2 0 0 (1510 + 12 * x3)) ≠ x1 then zl_279_1 x1 m Z (x2 + 0) (x3 + 1) else zl_279_1 x1 m Z (x2 + 1) (x3 + 1)))
theorem sl_279_1 {s : zSM} {Z : qz_Z} {ν : qz_N} (hZ : zM s Z) (hM : s.2 + 0 ≤ 1000000000) {x1 : Int} (gx1 : 0 ≤ x1 ∧ x1 ≤ 7) {x2 : Int} (gx2 : 0 ≤ x2 ∧ x2 ≤ 24) {x3 : Int} (gx3 : 0 ≤ x3 ∧ x3 ≤ 24) (gr0 : x2 ≤ x3) {k : wz_K} {R : wz_R} {L : qz_L} (hL : qz_fg [true, true, true, true] L = [some (.inr (.inr (some (1, 0, 0)))), some (.inl (i3 x1)), some (.inl (i3 x2)), some (.inl (i3 x3))]) {T : Int × Int} (hP : zE T (zl_279_1 x1 ((24 - x3).toNat + 1) Z x2 x3)) (hk : ∀ (L9 : qz_L) (yx2 yx3 : Int), qz_fg [false, false, true, false] L9 = [none, none, some (.inl (i3 yx2)), none] → (0 ≤ yx2 ∧ yx2 ≤ 24) → (0 ≤ yx3 ∧ yx3 ≤ 24) → (yx2 ≤ yx3) → zE T ((yx2, yx3)) → k 0 (L9, [], zm Z ν)) : wz_loop qb_279_1 65536 k R (L, [], zm Z ν) := by
  refine wz_lp sb_279_1 (fun m x => ∃ x2 : Int, ∃ x3 : Int, qz_fg [true, true, true, true] x.1 = [some (.inr (.inr (some (1, 0, 0)))), some (.inl (i3 x1)), some (.inl (i3 x2)), some (.inl (i3 x3))] ∧ x.2 = ([], zm Z ν) ∧ m = (24 - x3).toNat ∧ (0 ≤ x2 ∧ x2 ≤ 24) ∧ (0 ≤ x3 ∧ x3 ≤ 24) ∧ (x2 ≤ x3) ∧ zE T (zl_279_1 x1 (m + 1) Z x2 x3)) ?_ 65536 ((24 - x3).toNat) _ (by omega) ⟨x2, x3, hL, rfl, rfl, gx2, gx3, gr0, hP⟩
  clear hP gr0 gx2 gx3 hL
  clear x2 x3
  rintro m ⟨L, st, μ⟩ ⟨x2, x3, hL, hx, hm, gx2, gx3, gr0, hP⟩
  cases hx
  refine fb_279_1 (i3 x1) (i3 x2) (i3 x3) _ _ _ _ hL ?_
  have r1 := zM_k hZ 2 0 0 1401 (lo := 0) (hi := 24) (by decide) rfl
  refine wz_br (i3Le (zm_rd (Z := Z) (ν := ν) (k := 2) (show ((0 : Nat) : Int) = 0 from rfl) (show ((0 : Nat) : Int) = 0 from rfl) (show ((1401 : Nat) : Int) = 1401 from rfl)) (rfl : i3 x3 = i3 x3) (by omega) (by omega) (by omega) (by omega)) (fun h2 => ?_) (fun h2 => ?_)
  · replace hP := zE_p hP h2
    exact hk _ _ _ (zconso rfl (zconso rfl (zconso (zvo (rfl : i3 x2 = i3 x2)) (zconso rfl rfl))))  (by omega) (by omega) (by omega) hP
  · replace hP := zE_n hP h2
    refine wz_i0 (i3O (n := 4400) (i3A (i3A (show (1510 : Int32) = i3 1510 from rfl) (i3M (show (12 : Int32) = i3 12 from rfl) (rfl : i3 x3 = i3 x3))) (show (0 : Int32) = i3 0 from rfl)) (by omega) (by omega) (by omega)) ?_
    have r3 := zM_k hZ 2 0 0 (1510 + 12 * x3) (lo := 0) (hi := 7) (by decide) (zs_1510_0 (x := x3) (by omega) (by omega) (by omega))
    refine wz_br (i3NE (zm_rd (Z := Z) (ν := ν) (k := 2) (show ((0 : Nat) : Int) = 0 from rfl) (show ((0 : Nat) : Int) = 0 from rfl) (i3I (y := (1510 + 12 * x3)) (i3A (i3A (show (1510 : Int32) = i3 1510 from rfl) (i3M (show (12 : Int32) = i3 12 from rfl) (rfl : i3 x3 = i3 x3))) (show (0 : Int32) = i3 0 from rfl)) (by omega) (by omega) (by omega))) (rfl : i3 x1 = i3 x1) (by omega) (by omega) (by omega) (by omega)) (fun h4 => ?_) (fun h4 => ?_)
    · replace hP := zE_p hP h4
      obtain ⟨m2, rfl⟩ : ∃ m2, m = m2 + 1 := ⟨m - 1, by omega⟩
      exact wz_k1 ⟨m2, by omega, (x2 + 0), (x3 + 1), (zconso rfl (zconso (zvo (rfl : i3 x1 = i3 x1)) (zconso (zvo (i3A (rfl : i3 x2 = i3 x2) (show (0 : Int32) = i3 0 from rfl))) (zconso (zvo (i3A (rfl : i3 x3 = i3 x3) (show (1 : Int32) = i3 1 from rfl))) rfl)))), rfl,  by omega, by omega, by omega, by omega,  hP⟩
    · replace hP := zE_n hP h4
      obtain ⟨m2, rfl⟩ : ∃ m2, m = m2 + 1 := ⟨m - 1, by omega⟩
      exact wz_k1 ⟨m2, by omega, (x2 + 1), (x3 + 1), (zconso rfl (zconso (zvo (rfl : i3 x1 = i3 x1)) (zconso (zvo (i3A (rfl : i3 x2 = i3 x2) (show (1 : Int32) = i3 1 from rfl))) (zconso (zvo (i3A (rfl : i3 x3 = i3 x3) (show (1 : Int32) = i3 1 from rfl))) rfl)))), rfl,  by omega, by omega, by omega, by omega,  hP⟩
/- yX12_bOrders -/
def zf_279 (Z : qz_Z) (a1 : Int) : Int := (zlet2 (zl_279_1 a1 25 Z 0 0) (fun y1 y2 => y1))
theorem sp_279 {s : zSM} {Z : qz_Z} {ν : qz_N} (hZ : zM s Z) {a1 : Int} (ga1 : 0 ≤ a1 ∧ a1 ≤ 7) (hM : s.2 + 0 ≤ 1000000000) : ∃ P : Int, P = zf_279 Z a1 ∧ (qf_279 [.inr (.inr (some (1, 0, 0))), .inl (i3 a1)] (zm Z ν) = some (zm Z ν, .inl (some (.inl (i3 P)))) ∧ 0 ≤ P ∧ P ≤ 24) := by
  obtain ⟨P, hP⟩ := zx (zf_279 Z a1)
  refine zc_R (Q := fun P => 0 ≤ P ∧ P ≤ 24) hP (fw_279 (i3 a1) _ _ ?_)
  replace hP : zE P (zf_279 Z a1) := hP
  unfold zf_279 at hP
  refine sl_279_1 (ν := ν) hZ (zbh (c := 0) (k := 0) hM (Nat.le_of_ble_eq_true rfl)) (x1 := a1) (by omega) (x2 := 0) (by omega) (x3 := 0) (by omega) (by omega) (zconso rfl (zconso (zvo (rfl : i3 a1 = i3 a1)) (zconso (zvo (show (0 : Int32) = i3 0 from rfl)) (zconso (zvo (show (0 : Int32) = i3 0 from rfl)) rfl)))) rfl ?_
  intro L3 y1 y2 hL3 gy1 gy2 gL3_0 q9
  replace hP := zl_e2 hP (Eq.symm q9)
  clear q9
  refine fc_279_2 (i3 y1) _ _ _ _ hL3 ?_
  exact zlR hP (rfl : i3 y1 = i3 y1) ⟨by omega, by omega⟩
/- yX12_bOverdue -/
def zl_280_1 (x1 : Int) : Nat → qz_Z → Int → Int → Int × Int
  | 0, Z, x2, x3 => (x2, x3)
  | m + 1, Z, x2, x3 => (if (Z 2 0 0 2000) ≤ x3 then (x2, x3) else (if (Z 2 0 0 (2011 + 16 * x3)) ≠ x1 then zl_280_1 x1 m Z (x2 + 0) (x3 + 1) else (if ((Z 2 0 0 0) / 24) ≤ (Z 2 0 0 (1811 + 2 * x3)) then zl_280_1 x1 m Z (x2 + 0) (x3 + 1) else zl_280_1 x1 m Z (w3 (x2 + (Z 2 0 0 (1810 + 2 * x3)))) (x3 + 1))))
theorem sl_280_1 {s : zSM} {Z : qz_Z} {ν : qz_N} (hZ : zM s Z) (hM : s.2 + 0 ≤ 1000000000) {x1 : Int} (gx1 : 0 ≤ x1 ∧ x1 ≤ 7) {x2 : Int} (gx2 : -2147483648 ≤ x2 ∧ x2 ≤ 2147483647) {x3 : Int} (gx3 : 0 ≤ x3 ∧ x3 ≤ 60) {k : wz_K} {R : wz_R} {L : qz_L} (hL : qz_fg [true, true, true, true] L = [some (.inr (.inr (some (1, 0, 0)))), some (.inl (i3 x1)), some (.inl (i3 x2)), some (.inl (i3 x3))]) {T : Int × Int} (hP : zE T (zl_280_1 x1 ((60 - x3).toNat + 1) Z x2 x3)) (hk : ∀ (L9 : qz_L) (yx2 yx3 : Int), qz_fg [false, false, true, false] L9 = [none, none, some (.inl (i3 yx2)), none] → (-2147483648 ≤ yx2 ∧ yx2 ≤ 2147483647) → (0 ≤ yx3 ∧ yx3 ≤ 60) → zE T ((yx2, yx3)) → k 0 (L9, [], zm Z ν)) : wz_loop qb_280_1 65536 k R (L, [], zm Z ν) := by
  refine wz_lp sb_280_1 (fun m x => ∃ x2 : Int, ∃ x3 : Int, qz_fg [true, true, true, true] x.1 = [some (.inr (.inr (some (1, 0, 0)))), some (.inl (i3 x1)), some (.inl (i3 x2)), some (.inl (i3 x3))] ∧ x.2 = ([], zm Z ν) ∧ m = (60 - x3).toNat ∧ (-2147483648 ≤ x2 ∧ x2 ≤ 2147483647) ∧ (0 ≤ x3 ∧ x3 ≤ 60) ∧ zE T (zl_280_1 x1 (m + 1) Z x2 x3)) ?_ 65536 ((60 - x3).toNat) _ (by omega) ⟨x2, x3, hL, rfl, rfl, gx2, gx3, hP⟩
  clear hP gx2 gx3 hL
  clear x2 x3
  rintro m ⟨L, st, μ⟩ ⟨x2, x3, hL, hx, hm, gx2, gx3, hP⟩
  cases hx
  refine fb_280_1 (i3 x1) (i3 x2) (i3 x3) _ _ _ _ hL ?_
  have r1 := zM_k hZ 2 0 0 2000 (lo := 0) (hi := 60) (by decide) rfl
  refine wz_br (i3Le (zm_rd (Z := Z) (ν := ν) (k := 2) (show ((0 : Nat) : Int) = 0 from rfl) (show ((0 : Nat) : Int) = 0 from rfl) (show ((2000 : Nat) : Int) = 2000 from rfl)) (rfl : i3 x3 = i3 x3) (by omega) (by omega) (by omega) (by omega)) (fun h2 => ?_) (fun h2 => ?_)
  · replace hP := zE_p hP h2
    exact hk _ _ _ (zconso rfl (zconso rfl (zconso (zvo (rfl : i3 x2 = i3 x2)) (zconso rfl rfl))))  (by omega) (by omega)  hP
  · replace hP := zE_n hP h2
    refine wz_i0 (i3O (n := 4400) (i3A (i3A (show (2010 : Int32) = i3 2010 from rfl) (i3M (show (16 : Int32) = i3 16 from rfl) (rfl : i3 x3 = i3 x3))) (show (1 : Int32) = i3 1 from rfl)) (by omega) (by omega) (by omega)) ?_
    have r3 := zM_k hZ 2 0 0 (2011 + 16 * x3) (lo := 0) (hi := 7) (by decide) (zs_2010_1 (x := x3) (by omega) (by omega) (by omega))
    refine wz_br (i3NE (zm_rd (Z := Z) (ν := ν) (k := 2) (show ((0 : Nat) : Int) = 0 from rfl) (show ((0 : Nat) : Int) = 0 from rfl) (i3I (y := (2011 + 16 * x3)) (i3A (i3A (show (2010 : Int32) = i3 2010 from rfl) (i3M (show (16 : Int32) = i3 16 from rfl) (rfl : i3 x3 = i3 x3))) (show (1 : Int32) = i3 1 from rfl)) (by omega) (by omega) (by omega))) (rfl : i3 x1 = i3 x1) (by omega) (by omega) (by omega) (by omega)) (fun h4 => ?_) (fun h4 => ?_)
    · replace hP := zE_p hP h4
      obtain ⟨m2, rfl⟩ : ∃ m2, m = m2 + 1 := ⟨m - 1, by omega⟩
      exact wz_k1 ⟨m2, by omega, (x2 + 0), (x3 + 1), (zconso rfl (zconso (zvo (rfl : i3 x1 = i3 x1)) (zconso (zvo (i3A (rfl : i3 x2 = i3 x2) (show (0 : Int32) = i3 0 from rfl))) (zconso (zvo (i3A (rfl : i3 x3 = i3 x3) (show (1 : Int32) = i3 1 from rfl))) rfl)))), rfl,  by omega, by omega, by omega,  hP⟩
    · replace hP := zE_n hP h4
      refine wz_i0 (i3O (n := 4400) (i3A (i3A (show (1810 : Int32) = i3 1810 from rfl) (i3M (show (2 : Int32) = i3 2 from rfl) (rfl : i3 x3 = i3 x3))) (show (1 : Int32) = i3 1 from rfl)) (by omega) (by omega) (by omega)) ?_
      have r5 := zM_k hZ 2 0 0 0 (lo := 0) (hi := 671) (by decide) rfl
      have r6 := zM_k hZ 2 0 0 (1811 + 2 * x3) (lo := 0) (hi := 41) (by decide) (zs_1810_1 (x := x3) (by omega) (by omega) (by omega))
      refine wz_br (i3Le (i3D (zm_rd (Z := Z) (ν := ν) (k := 2) (show ((0 : Nat) : Int) = 0 from rfl) (show ((0 : Nat) : Int) = 0 from rfl) (show ((0 : Nat) : Int) = 0 from rfl)) (show (24 : Int32) = i3 24 from rfl) (by omega) (by omega) (by omega) (by omega)) (zm_rd (Z := Z) (ν := ν) (k := 2) (show ((0 : Nat) : Int) = 0 from rfl) (show ((0 : Nat) : Int) = 0 from rfl) (i3I (y := (1811 + 2 * x3)) (i3A (i3A (show (1810 : Int32) = i3 1810 from rfl) (i3M (show (2 : Int32) = i3 2 from rfl) (rfl : i3 x3 = i3 x3))) (show (1 : Int32) = i3 1 from rfl)) (by omega) (by omega) (by omega))) (by omega) (by omega) (by omega) (by omega)) (fun h7 => ?_) (fun h7 => ?_)
      · replace hP := zE_p hP h7
        obtain ⟨m2, rfl⟩ : ∃ m2, m = m2 + 1 := ⟨m - 1, by omega⟩
        exact wz_k1 ⟨m2, by omega, (x2 + 0), (x3 + 1), (zconso rfl (zconso (zvo (rfl : i3 x1 = i3 x1)) (zconso (zvo (i3A (rfl : i3 x2 = i3 x2) (show (0 : Int32) = i3 0 from rfl))) (zconso (zvo (i3A (rfl : i3 x3 = i3 x3) (show (1 : Int32) = i3 1 from rfl))) rfl)))), rfl,  by omega, by omega, by omega,  hP⟩
      · replace hP := zE_n hP h7
        refine wz_i0 (i3O (n := 4400) (i3A (show (1810 : Int32) = i3 1810 from rfl) (i3M (show (2 : Int32) = i3 2 from rfl) (rfl : i3 x3 = i3 x3))) (by omega) (by omega) (by omega)) ?_
        have r8 := zM_f hZ 2 0 0 (1810 + 2 * x3)
        have r9 := w3_r (x2 + (Z 2 0 0 (1810 + 2 * x3)))
        obtain ⟨m2, rfl⟩ : ∃ m2, m = m2 + 1 := ⟨m - 1, by omega⟩
        exact wz_k1 ⟨m2, by omega, (w3 (x2 + (Z 2 0 0 (1810 + 2 * x3)))), (x3 + 1), (zconso rfl (zconso (zvo (rfl : i3 x1 = i3 x1)) (zconso (zvo (i3W (i3A (rfl : i3 x2 = i3 x2) (zm_rd (Z := Z) (ν := ν) (k := 2) (show ((0 : Nat) : Int) = 0 from rfl) (show ((0 : Nat) : Int) = 0 from rfl) (i3I (y := (1810 + 2 * x3)) (i3A (show (1810 : Int32) = i3 1810 from rfl) (i3M (show (2 : Int32) = i3 2 from rfl) (rfl : i3 x3 = i3 x3))) (by omega) (by omega) (by omega)))))) (zconso (zvo (i3A (rfl : i3 x3 = i3 x3) (show (1 : Int32) = i3 1 from rfl))) rfl)))), rfl,  by omega, by omega, by omega,  hP⟩
/- yX12_bOverdue -/
def zf_280 (Z : qz_Z) (a1 : Int) : Int := (zlet2 (zl_280_1 a1 61 Z 0 0) (fun y1 y2 => y1))
theorem sp_280 {s : zSM} {Z : qz_Z} {ν : qz_N} (hZ : zM s Z) {a1 : Int} (ga1 : 0 ≤ a1 ∧ a1 ≤ 7) (hM : s.2 + 0 ≤ 1000000000) : ∃ P : Int, P = zf_280 Z a1 ∧ (qf_280 [.inr (.inr (some (1, 0, 0))), .inl (i3 a1)] (zm Z ν) = some (zm Z ν, .inl (some (.inl (i3 P)))) ∧ -2147483648 ≤ P ∧ P ≤ 2147483647) := by
  obtain ⟨P, hP⟩ := zx (zf_280 Z a1)
  refine zc_R (Q := fun P => -2147483648 ≤ P ∧ P ≤ 2147483647) hP (fw_280 (i3 a1) _ _ ?_)
  replace hP : zE P (zf_280 Z a1) := hP
  unfold zf_280 at hP
  refine sl_280_1 (ν := ν) hZ (zbh (c := 0) (k := 0) hM (Nat.le_of_ble_eq_true rfl)) (x1 := a1) (by omega) (x2 := 0) (by omega) (x3 := 0) (by omega)  (zconso rfl (zconso (zvo (rfl : i3 a1 = i3 a1)) (zconso (zvo (show (0 : Int32) = i3 0 from rfl)) (zconso (zvo (show (0 : Int32) = i3 0 from rfl)) rfl)))) rfl ?_
  intro L3 y1 y2 hL3 gy1 gy2 q9
  replace hP := zl_e2 hP (Eq.symm q9)
  clear q9
  refine fc_280_2 (i3 y1) _ _ _ _ hL3 ?_
  exact zlR hP (rfl : i3 y1 = i3 y1) ⟨by omega, by omega⟩
/- yX12_owes -/
def zy_445 (Z : qz_Z) (a1 : Int) (a2 : Int) : qz_Z × Int := (if a1 < 0 then (zlet (zu Z 1 0 0 2 1) (fun Z5 => (Z5, 0))) else (if ((Z 2 0 0 1400) - 1) < a1 then (zlet (zu Z 1 0 0 2 1) (fun Z8 => (Z8, 0))) else (zlet (zu Z 1 0 0 2 0) (fun Z9 => (if a2 < 0 then (zlet (zu Z9 1 0 0 2 2) (fun Z11 => (Z11, 0))) else (if 14 < a2 then (zlet (zu Z9 1 0 0 2 2) (fun Z13 => (Z13, 0))) else (zlet (zu Z9 1 0 0 2 0) (fun Z14 => (if a2 < 4 ∨ 14 < a2 then (Z14, (Z14 2 0 0 (1410 + 12 * a1 + a2))) else (if a2 = 4 then (zlet (zf_289 Z14 a1) (fun v18 => (Z14, v18))) else (if a2 = 5 then (zlet (zf_289 Z14 a1) (fun v21 => (Z14, (w3 ((w3 ((Z14 2 0 0 (1411 + 12 * a1)) + (Z14 2 0 0 (1413 + 12 * a1)))) - v21))))) else (if a2 = 6 then (zlet (zf_280 Z14 a1) (fun v28 => (Z14, v28))) else (if a2 = 7 then (Z14, (Z14 2 0 0 (1414 + 12 * a1))) else (if a2 = 8 then (zlet (zf_278 Z14 a1) (fun v32 => (Z14, v32))) else (if a2 = 9 then (zlet (zf_267 Z14 1 a1 (-1)) (fun v34 => (Z14, v34))) else (if a2 = 10 then (zlet (zf_267 Z14 1 a1 2) (fun v36 => (Z14, v36))) else (if a2 = 11 then (zlet (zf_267 Z14 1 a1 3) (fun v38 => (Z14, v38))) else (if a2 = 12 then (Z14, (Z14 2 0 0 (1415 + 12 * a1))) else (if a2 = 13 then (Z14, (Z14 2 0 0 (1416 + 12 * a1))) else (zlet (zf_279 Z14 a1) (fun v43 => (Z14, v43))))))))))))))))))))))
theorem sy_445 {s : zSM} {Z : qz_Z} {ν : qz_N} (hZ : zM s Z) (gq : Z 1 0 0 35 = 0) (hM : s.2 + 0 ≤ 1000000000) {a1 : Int} (ga1 : -2147483648 ≤ a1 ∧ a1 ≤ 2147483647) {a2 : Int} (ga2 : -2147483648 ≤ a2 ∧ a2 ≤ 2147483647) {ν1 : qz_N} : ∃ (Z1 : qz_Z) (ν2 : qz_N) (v : Int), (Z1, v) = zy_445 Z a1 a2 ∧ (ν2 = ν ∨ ν2 = ν1) ∧ qf_445 [.inr (.inr (some (1, 0, 0))), .inl (i3 a1), .inl (i3 a2)] (zm Z ν) = some (zm Z1 ν2, .inl (some (.inl (i3 v)))) ∧ (fun Z1 => zM s Z1 ∧ zC [1] Z Z1 ∧ zU [] Z Z1) Z1 := by
  obtain ⟨P, hP⟩ := zx (zy_445 Z a1 a2)
  refine zc_Y (Q := fun Z1 => zM s Z1 ∧ zC [1] Z Z1 ∧ zU [] Z Z1) hP (fw_445 (i3 a1) (i3 a2) _ _ ?_)
  replace hP : zE P (zy_445 Z a1 a2) := hP
  unfold zy_445 at hP
  have r1 := zM_k hZ 1 0 0 35 (lo := 0) (hi := 1) (by decide) rfl
  have r2 := zM_k hZ 1 0 0 34 (lo := 0) (hi := 8) (by decide) rfl
  have r3 := zM_f hZ 1 0 0 37
  refine wz_br (i3L (rfl : i3 a1 = i3 a1) (show (0 : Int32) = i3 0 from rfl) (by omega) (by omega) (by omega) (by omega)) (fun h4 => ?_) (fun h4 => ?_)
  · replace hP := zE_p hP h4
    obtain ⟨Z5, hZ5⟩ := zx (zu Z 1 0 0 2 1)
    replace hP := zl_e hP hZ5
    have hZ5I := zM_u hZ hZ5 (lo := -2147483648) (hi := 2147483647) (by decide) rfl (by omega) ⟨by decide, by decide⟩ (Or.inr (by decide)) rfl
    have hZ5U : zU [] Z Z5 := zU_u zU_r hZ5 (Or.inl rfl)
    have hZ5K : zC [1] Z Z5 := zC_u zC_r hZ5 (by decide)
    intro μ9 e9
    replace e9 := e9.trans (zm_wI (Z := Z) (ν := ν) hZ5 (show ((0 : Nat) : Int) = 0 from rfl) (show ((0 : Nat) : Int) = 0 from rfl) (show ((2 : Nat) : Int) = 2 from rfl) (show (1 : Int32) = i3 1 from rfl))
    subst e9
    exact zlY hP (show (0 : Int32) = i3 0 from rfl) (.inl rfl) ⟨hZ5I, hZ5K, hZ5U⟩
  · replace hP := zE_n hP h4
    have r6 := zM_k hZ 2 0 0 1400 (lo := 0) (hi := 8) (by decide) rfl
    refine wz_br (i3L (i3S (zm_rd (Z := Z) (ν := ν) (k := 2) (show ((0 : Nat) : Int) = 0 from rfl) (show ((0 : Nat) : Int) = 0 from rfl) (show ((1400 : Nat) : Int) = 1400 from rfl)) (show (1 : Int32) = i3 1 from rfl)) (rfl : i3 a1 = i3 a1) (by omega) (by omega) (by omega) (by omega)) (fun h7 => ?_) (fun h7 => ?_)
    · replace hP := zE_p hP h7
      obtain ⟨Z8, hZ8⟩ := zx (zu Z 1 0 0 2 1)
      replace hP := zl_e hP hZ8
      have hZ8I := zM_u hZ hZ8 (lo := -2147483648) (hi := 2147483647) (by decide) rfl (by omega) ⟨by decide, by decide⟩ (Or.inr (by decide)) rfl
      have hZ8U : zU [] Z Z8 := zU_u zU_r hZ8 (Or.inl rfl)
      have hZ8K : zC [1] Z Z8 := zC_u zC_r hZ8 (by decide)
      intro μ9 e9
      replace e9 := e9.trans (zm_wI (Z := Z) (ν := ν) hZ8 (show ((0 : Nat) : Int) = 0 from rfl) (show ((0 : Nat) : Int) = 0 from rfl) (show ((2 : Nat) : Int) = 2 from rfl) (show (1 : Int32) = i3 1 from rfl))
      subst e9
      exact zlY hP (show (0 : Int32) = i3 0 from rfl) (.inl rfl) ⟨hZ8I, hZ8K, hZ8U⟩
    · replace hP := zE_n hP h7
      obtain ⟨Z9, hZ9⟩ := zx (zu Z 1 0 0 2 0)
      replace hP := zl_e hP hZ9
      have hZ9I := zM_0 hZ hZ9 (by decide) (Or.inr (by decide))
      have hZ9U : zU [] Z Z9 := zU_u zU_r hZ9 (Or.inl rfl)
      have hZ9K : zC [1] Z Z9 := zC_u zC_r hZ9 (by decide)
      intro μ9 e9
      replace e9 := e9.trans (zm_wI (Z := Z) (ν := ν) hZ9 (show ((0 : Nat) : Int) = 0 from rfl) (show ((0 : Nat) : Int) = 0 from rfl) (show ((2 : Nat) : Int) = 2 from rfl) (show (0 : Int32) = i3 0 from rfl))
      subst e9
      refine wz_br (i3L (rfl : i3 a2 = i3 a2) (show (0 : Int32) = i3 0 from rfl) (by omega) (by omega) (by omega) (by omega)) (fun h10 => ?_) (fun h10 => ?_)
      · replace hP := zE_p hP h10
        obtain ⟨Z11, hZ11⟩ := zx (zu Z9 1 0 0 2 2)
        replace hP := zl_e hP hZ11
        have hZ11I := zM_u hZ9I hZ11 (lo := -2147483648) (hi := 2147483647) (by decide) rfl (by omega) ⟨by decide, by decide⟩ (Or.inr (by decide)) rfl
        have hZ11U : zU [] Z Z11 := zU_u hZ9U hZ11 (Or.inl rfl)
        have hZ11K : zC [1] Z Z11 := zC_u hZ9K hZ11 (by decide)
        intro μ9 e9
        replace e9 := e9.trans (zm_wI (Z := Z9) (ν := ν) hZ11 (show ((0 : Nat) : Int) = 0 from rfl) (show ((0 : Nat) : Int) = 0 from rfl) (show ((2 : Nat) : Int) = 2 from rfl) (show (2 : Int32) = i3 2 from rfl))
        subst e9
        exact zlY hP (show (0 : Int32) = i3 0 from rfl) (.inl rfl) ⟨hZ11I, hZ11K, hZ11U⟩
      · replace hP := zE_n hP h10
        refine wz_br (i3L (show (14 : Int32) = i3 14 from rfl) (rfl : i3 a2 = i3 a2) (by omega) (by omega) (by omega) (by omega)) (fun h12 => ?_) (fun h12 => ?_)
        · replace hP := zE_p hP h12
          obtain ⟨Z13, hZ13⟩ := zx (zu Z9 1 0 0 2 2)
          replace hP := zl_e hP hZ13
          have hZ13I := zM_u hZ9I hZ13 (lo := -2147483648) (hi := 2147483647) (by decide) rfl (by omega) ⟨by decide, by decide⟩ (Or.inr (by decide)) rfl
          have hZ13U : zU [] Z Z13 := zU_u hZ9U hZ13 (Or.inl rfl)
          have hZ13K : zC [1] Z Z13 := zC_u hZ9K hZ13 (by decide)
          intro μ9 e9
          replace e9 := e9.trans (zm_wI (Z := Z9) (ν := ν) hZ13 (show ((0 : Nat) : Int) = 0 from rfl) (show ((0 : Nat) : Int) = 0 from rfl) (show ((2 : Nat) : Int) = 2 from rfl) (show (2 : Int32) = i3 2 from rfl))
          subst e9
          exact zlY hP (show (0 : Int32) = i3 0 from rfl) (.inl rfl) ⟨hZ13I, hZ13K, hZ13U⟩
        · replace hP := zE_n hP h12
          obtain ⟨Z14, hZ14⟩ := zx (zu Z9 1 0 0 2 0)
          replace hP := zl_e hP hZ14
          have hZ14I := zM_0 hZ9I hZ14 (by decide) (Or.inr (by decide))
          have hZ14U : zU [] Z Z14 := zU_u hZ9U hZ14 (Or.inl rfl)
          have hZ14K : zC [1] Z Z14 := zC_u hZ9K hZ14 (by decide)
          intro μ9 e9
          replace e9 := e9.trans (zm_wI (Z := Z9) (ν := ν) hZ14 (show ((0 : Nat) : Int) = 0 from rfl) (show ((0 : Nat) : Int) = 0 from rfl) (show ((2 : Nat) : Int) = 2 from rfl) (show (0 : Int32) = i3 0 from rfl))
          subst e9
          refine wz_br (i3To (rfl : i3 a2 = i3 a2) (by omega) (by omega)) (fun h15 => ?_) (fun h15 => ?_)
          · replace hP := zE_p hP h15
            refine wz_i0 (i3O (n := 4400) (i3A (i3A (show (1410 : Int32) = i3 1410 from rfl) (i3M (show (12 : Int32) = i3 12 from rfl) (rfl : i3 a1 = i3 a1))) (rfl : i3 a2 = i3 a2)) (by omega) (by omega) (by omega)) ?_
            have r16 := zM_f hZ14I 2 0 0 (1410 + 12 * a1 + a2)
            exact zlY hP (zm_rd (Z := Z14) (ν := ν) (k := 2) (show ((0 : Nat) : Int) = 0 from rfl) (show ((0 : Nat) : Int) = 0 from rfl) (i3I (y := (1410 + 12 * a1 + a2)) (i3A (i3A (show (1410 : Int32) = i3 1410 from rfl) (i3M (show (12 : Int32) = i3 12 from rfl) (rfl : i3 a1 = i3 a1))) (rfl : i3 a2 = i3 a2)) (by omega) (by omega) (by omega))) (.inl rfl) ⟨hZ14I, hZ14K, hZ14U⟩
          · replace hP := zE_n hP h15
            refine wz_br (i3T (rfl : i3 a2 = i3 a2) (by omega) (by omega)) (fun h17 => ?_) (fun h17 => ?_)
            · replace hP := zE_p hP h17
              obtain ⟨v18, hv18, c9, lv18, uv18⟩ := sp_289 (ν := ν) hZ14I (a1 := a1) (by omega) (zbh (c := 0) (k := 0) hM (Nat.le_of_ble_eq_true rfl))
              replace hP := zl_e hP hv18
              refine wz_cI_of (zas (zcons rfl (zcons (zvi (rfl : i3 a1 = i3 a1)) rfl)) c9) ?_
              clear c9
              have r19 := zrs_e hv18
              exact zlY hP (rfl : i3 v18 = i3 v18) (.inl rfl) ⟨hZ14I, hZ14K, hZ14U⟩
            · replace hP := zE_n hP h17
              refine wz_br (i3T (rfl : i3 a2 = i3 a2) (by omega) (by omega)) (fun h20 => ?_) (fun h20 => ?_)
              · replace hP := zE_p hP h20
                refine wz_i0 (i3O (n := 4400) (i3A (i3A (show (1410 : Int32) = i3 1410 from rfl) (i3M (show (12 : Int32) = i3 12 from rfl) (rfl : i3 a1 = i3 a1))) (show (1 : Int32) = i3 1 from rfl)) (by omega) (by omega) (by omega)) ?_
                refine wz_i0 (i3O (n := 4400) (i3A (i3A (show (1410 : Int32) = i3 1410 from rfl) (i3M (show (12 : Int32) = i3 12 from rfl) (rfl : i3 a1 = i3 a1))) (show (3 : Int32) = i3 3 from rfl)) (by omega) (by omega) (by omega)) ?_
                obtain ⟨v21, hv21, c9, lv21, uv21⟩ := sp_289 (ν := ν) hZ14I (a1 := a1) (by omega) (zbh (c := 0) (k := 0) hM (Nat.le_of_ble_eq_true rfl))
                replace hP := zl_e hP hv21
                refine wz_cI_of (zas (zcons rfl (zcons (zvi (rfl : i3 a1 = i3 a1)) rfl)) c9) ?_
                clear c9
                have r22 := zrs_e hv21
                have r23 := zM_k hZ14I 2 0 0 (1411 + 12 * a1) (lo := 0) (hi := 9999999) (by decide) (zs_1410_1 (x := a1) (by omega) (by omega) (by omega))
                have r24 := zM_f hZ14I 2 0 0 (1413 + 12 * a1)
                have r25 := w3_r ((Z14 2 0 0 (1411 + 12 * a1)) + (Z14 2 0 0 (1413 + 12 * a1)))
                have r26 := w3_r ((w3 ((Z14 2 0 0 (1411 + 12 * a1)) + (Z14 2 0 0 (1413 + 12 * a1)))) - v21)
                exact zlY hP (i3W (i3S (i3W (i3A (zm_rd (Z := Z14) (ν := ν) (k := 2) (show ((0 : Nat) : Int) = 0 from rfl) (show ((0 : Nat) : Int) = 0 from rfl) (i3I (y := (1411 + 12 * a1)) (i3A (i3A (show (1410 : Int32) = i3 1410 from rfl) (i3M (show (12 : Int32) = i3 12 from rfl) (rfl : i3 a1 = i3 a1))) (show (1 : Int32) = i3 1 from rfl)) (by omega) (by omega) (by omega))) (zm_rd (Z := Z14) (ν := ν) (k := 2) (show ((0 : Nat) : Int) = 0 from rfl) (show ((0 : Nat) : Int) = 0 from rfl) (i3I (y := (1413 + 12 * a1)) (i3A (i3A (show (1410 : Int32) = i3 1410 from rfl) (i3M (show (12 : Int32) = i3 12 from rfl) (rfl : i3 a1 = i3 a1))) (show (3 : Int32) = i3 3 from rfl)) (by omega) (by omega) (by omega))))) (rfl : i3 v21 = i3 v21))) (.inl rfl) ⟨hZ14I, hZ14K, hZ14U⟩
              · replace hP := zE_n hP h20
                refine wz_br (i3T (rfl : i3 a2 = i3 a2) (by omega) (by omega)) (fun h27 => ?_) (fun h27 => ?_)
                · replace hP := zE_p hP h27
                  obtain ⟨v28, hv28, c9, lv28, uv28⟩ := sp_280 (ν := ν) hZ14I (a1 := a1) (by omega) (zbh (c := 0) (k := 0) hM (Nat.le_of_ble_eq_true rfl))
                  replace hP := zl_e hP hv28
                  refine wz_cI_of (zas (zcons rfl (zcons (zvi (rfl : i3 a1 = i3 a1)) rfl)) c9) ?_
                  clear c9
                  exact zlY hP (rfl : i3 v28 = i3 v28) (.inl rfl) ⟨hZ14I, hZ14K, hZ14U⟩
                · replace hP := zE_n hP h27
                  refine wz_br (i3T (rfl : i3 a2 = i3 a2) (by omega) (by omega)) (fun h29 => ?_) (fun h29 => ?_)
                  · replace hP := zE_p hP h29
                    refine wz_i0 (i3O (n := 4400) (i3A (i3A (show (1410 : Int32) = i3 1410 from rfl) (i3M (show (12 : Int32) = i3 12 from rfl) (rfl : i3 a1 = i3 a1))) (show (4 : Int32) = i3 4 from rfl)) (by omega) (by omega) (by omega)) ?_
                    have r30 := zM_k hZ14I 2 0 0 (1414 + 12 * a1) (lo := 0) (hi := 1) (by decide) (zs_1410_4 (x := a1) (by omega) (by omega) (by omega))
                    exact zlY hP (zm_rd (Z := Z14) (ν := ν) (k := 2) (show ((0 : Nat) : Int) = 0 from rfl) (show ((0 : Nat) : Int) = 0 from rfl) (i3I (y := (1414 + 12 * a1)) (i3A (i3A (show (1410 : Int32) = i3 1410 from rfl) (i3M (show (12 : Int32) = i3 12 from rfl) (rfl : i3 a1 = i3 a1))) (show (4 : Int32) = i3 4 from rfl)) (by omega) (by omega) (by omega))) (.inl rfl) ⟨hZ14I, hZ14K, hZ14U⟩
                  · replace hP := zE_n hP h29
                    refine wz_br (i3T (rfl : i3 a2 = i3 a2) (by omega) (by omega)) (fun h31 => ?_) (fun h31 => ?_)
                    · replace hP := zE_p hP h31
                      obtain ⟨v32, hv32, c9, lv32, uv32⟩ := sp_278 (ν := ν) hZ14I (a1 := a1) (by omega) (zbh (c := 0) (k := 0) hM (Nat.le_of_ble_eq_true rfl))
                      replace hP := zl_e hP hv32
                      refine wz_cI_of (zas (zcons rfl (zcons (zvi (rfl : i3 a1 = i3 a1)) rfl)) c9) ?_
                      clear c9
                      exact zlY hP (rfl : i3 v32 = i3 v32) (.inl rfl) ⟨hZ14I, hZ14K, hZ14U⟩
                    · replace hP := zE_n hP h31
                      refine wz_br (i3T (rfl : i3 a2 = i3 a2) (by omega) (by omega)) (fun h33 => ?_) (fun h33 => ?_)
                      · replace hP := zE_p hP h33
                        obtain ⟨v34, hv34, c9, lv34, uv34⟩ := sp_267 (ν := ν) hZ14I (a1 := 1) (by omega) (a2 := a1) (by omega) (a3 := (-1)) (by omega) (zbh (c := 0) (k := 0) hM (Nat.le_of_ble_eq_true rfl))
                        replace hP := zl_e hP hv34
                        refine wz_cI_of (zas (zcons rfl (zcons (zvi (show (1 : Int32) = i3 1 from rfl)) (zcons (zvi (rfl : i3 a1 = i3 a1)) (zcons (zvi (show (-1 : Int32) = i3 (-1) from rfl)) rfl)))) c9) ?_
                        clear c9
                        exact zlY hP (rfl : i3 v34 = i3 v34) (.inl rfl) ⟨hZ14I, hZ14K, hZ14U⟩
                      · replace hP := zE_n hP h33
                        refine wz_br (i3T (rfl : i3 a2 = i3 a2) (by omega) (by omega)) (fun h35 => ?_) (fun h35 => ?_)
                        · replace hP := zE_p hP h35
                          obtain ⟨v36, hv36, c9, lv36, uv36⟩ := sp_267 (ν := ν) hZ14I (a1 := 1) (by omega) (a2 := a1) (by omega) (a3 := 2) (by omega) (zbh (c := 0) (k := 0) hM (Nat.le_of_ble_eq_true rfl))
                          replace hP := zl_e hP hv36
                          refine wz_cI_of (zas (zcons rfl (zcons (zvi (show (1 : Int32) = i3 1 from rfl)) (zcons (zvi (rfl : i3 a1 = i3 a1)) (zcons (zvi (show (2 : Int32) = i3 2 from rfl)) rfl)))) c9) ?_
                          clear c9
                          exact zlY hP (rfl : i3 v36 = i3 v36) (.inl rfl) ⟨hZ14I, hZ14K, hZ14U⟩
                        · replace hP := zE_n hP h35
                          refine wz_br (i3T (rfl : i3 a2 = i3 a2) (by omega) (by omega)) (fun h37 => ?_) (fun h37 => ?_)
                          · replace hP := zE_p hP h37
                            obtain ⟨v38, hv38, c9, lv38, uv38⟩ := sp_267 (ν := ν) hZ14I (a1 := 1) (by omega) (a2 := a1) (by omega) (a3 := 3) (by omega) (zbh (c := 0) (k := 0) hM (Nat.le_of_ble_eq_true rfl))
                            replace hP := zl_e hP hv38
                            refine wz_cI_of (zas (zcons rfl (zcons (zvi (show (1 : Int32) = i3 1 from rfl)) (zcons (zvi (rfl : i3 a1 = i3 a1)) (zcons (zvi (show (3 : Int32) = i3 3 from rfl)) rfl)))) c9) ?_
                            clear c9
                            exact zlY hP (rfl : i3 v38 = i3 v38) (.inl rfl) ⟨hZ14I, hZ14K, hZ14U⟩
                          · replace hP := zE_n hP h37
                            refine wz_br (i3T (rfl : i3 a2 = i3 a2) (by omega) (by omega)) (fun h39 => ?_) (fun h39 => ?_)
                            · replace hP := zE_p hP h39
                              refine wz_i0 (i3O (n := 4400) (i3A (i3A (show (1410 : Int32) = i3 1410 from rfl) (i3M (show (12 : Int32) = i3 12 from rfl) (rfl : i3 a1 = i3 a1))) (show (5 : Int32) = i3 5 from rfl)) (by omega) (by omega) (by omega)) ?_
                              have r40 := zM_f hZ14I 2 0 0 (1415 + 12 * a1)
                              exact zlY hP (zm_rd (Z := Z14) (ν := ν) (k := 2) (show ((0 : Nat) : Int) = 0 from rfl) (show ((0 : Nat) : Int) = 0 from rfl) (i3I (y := (1415 + 12 * a1)) (i3A (i3A (show (1410 : Int32) = i3 1410 from rfl) (i3M (show (12 : Int32) = i3 12 from rfl) (rfl : i3 a1 = i3 a1))) (show (5 : Int32) = i3 5 from rfl)) (by omega) (by omega) (by omega))) (.inl rfl) ⟨hZ14I, hZ14K, hZ14U⟩
                            · replace hP := zE_n hP h39
                              refine wz_br (i3T (rfl : i3 a2 = i3 a2) (by omega) (by omega)) (fun h41 => ?_) (fun h41 => ?_)
                              · replace hP := zE_p hP h41
                                refine wz_i0 (i3O (n := 4400) (i3A (i3A (show (1410 : Int32) = i3 1410 from rfl) (i3M (show (12 : Int32) = i3 12 from rfl) (rfl : i3 a1 = i3 a1))) (show (6 : Int32) = i3 6 from rfl)) (by omega) (by omega) (by omega)) ?_
                                have r42 := zM_f hZ14I 2 0 0 (1416 + 12 * a1)
                                exact zlY hP (zm_rd (Z := Z14) (ν := ν) (k := 2) (show ((0 : Nat) : Int) = 0 from rfl) (show ((0 : Nat) : Int) = 0 from rfl) (i3I (y := (1416 + 12 * a1)) (i3A (i3A (show (1410 : Int32) = i3 1410 from rfl) (i3M (show (12 : Int32) = i3 12 from rfl) (rfl : i3 a1 = i3 a1))) (show (6 : Int32) = i3 6 from rfl)) (by omega) (by omega) (by omega))) (.inl rfl) ⟨hZ14I, hZ14K, hZ14U⟩
                              · replace hP := zE_n hP h41
                                refine wz_i1 (Eq.trans (i3T (rfl : i3 a2 = i3 a2) (by omega) (by omega)) (decide_eq_true (by omega))) ?_
                                obtain ⟨v43, hv43, c9, lv43, uv43⟩ := sp_279 (ν := ν) hZ14I (a1 := a1) (by omega) (zbh (c := 0) (k := 0) hM (Nat.le_of_ble_eq_true rfl))
                                replace hP := zl_e hP hv43
                                refine wz_cI_of (zas (zcons rfl (zcons (zvi (rfl : i3 a1 = i3 a1)) rfl)) c9) ?_
                                clear c9
                                exact zlY hP (rfl : i3 v43 = i3 v43) (.inl rfl) ⟨hZ14I, hZ14K, hZ14U⟩
/- yX12_rPallet -/
def zf_480 (Z : qz_Z) (a1 : Int) (a2 : Int) : Int := (if a2 < 11 ∨ 15 < a2 then (Z 2 0 0 (200 + 20 * a1 + a2)) else (if a2 = 11 then (if ((Z 2 0 0 (113 + 5 * (Z 2 0 0 (201 + 20 * a1)))) - (Z 2 0 0 (114 + 5 * (Z 2 0 0 (201 + 20 * a1))))) ≤ (Z 2 0 0 (207 + 20 * a1)) then (if ((Z 2 0 0 (113 + 5 * (Z 2 0 0 (201 + 20 * a1)))) + (Z 2 0 0 (114 + 5 * (Z 2 0 0 (201 + 20 * a1))))) < (Z 2 0 0 (207 + 20 * a1)) then (if ((Z 2 0 0 (113 + 5 * (Z 2 0 0 (201 + 20 * a1)))) + (3 * (Z 2 0 0 (114 + 5 * (Z 2 0 0 (201 + 20 * a1)))))) < (Z 2 0 0 (207 + 20 * a1)) then 3 else 2) else 1) else 0) else (if a2 = 12 then (Z 2 0 0 (211 + 20 * a1)) else (if a2 = 13 then (zlet (zf_435 Z a1) (fun v16 => v16)) else (if a2 = 14 then (Z 2 0 0 (212 + 20 * a1)) else (Z 2 0 0 (213 + 20 * a1)))))))
theorem sp_480 {s : zSM} {Z : qz_Z} {ν : qz_N} (hZ : zM s Z) {a1 : Int} (ga1 : 0 ≤ a1 ∧ a1 ≤ 47) {a2 : Int} (ga2 : 0 ≤ a2 ∧ a2 ≤ 15) (hM : s.2 + 0 ≤ 1000000000) : ∃ P : Int, P = zf_480 Z a1 a2 ∧ (qf_480 [.inr (.inr (some (1, 0, 0))), .inl (i3 a1), .inl (i3 a2)] (zm Z ν) = some (zm Z ν, .inl (some (.inl (i3 P)))) ∧ -2147483648 ≤ P ∧ P ≤ 2147483647) := by
  obtain ⟨P, hP⟩ := zx (zf_480 Z a1 a2)
  refine zc_R (Q := fun P => -2147483648 ≤ P ∧ P ≤ 2147483647) hP (fw_480 (i3 a1) (i3 a2) _ _ ?_)
  replace hP : zE P (zf_480 Z a1 a2) := hP
  unfold zf_480 at hP
  refine wz_br (i3To (rfl : i3 a2 = i3 a2) (by omega) (by omega)) (fun h1 => ?_) (fun h1 => ?_)
  · replace hP := zE_p hP h1
    refine wz_i0 (i3O (n := 4400) (i3A (i3A (show (200 : Int32) = i3 200 from rfl) (i3M (show (20 : Int32) = i3 20 from rfl) (rfl : i3 a1 = i3 a1))) (rfl : i3 a2 = i3 a2)) (by omega) (by omega) (by omega)) ?_
    have r2 := zM_f hZ 2 0 0 (200 + 20 * a1 + a2)
    exact zlR hP (zm_rd (Z := Z) (ν := ν) (k := 2) (show ((0 : Nat) : Int) = 0 from rfl) (show ((0 : Nat) : Int) = 0 from rfl) (i3I (y := (200 + 20 * a1 + a2)) (i3A (i3A (show (200 : Int32) = i3 200 from rfl) (i3M (show (20 : Int32) = i3 20 from rfl) (rfl : i3 a1 = i3 a1))) (rfl : i3 a2 = i3 a2)) (by omega) (by omega) (by omega))) ⟨by omega, by omega⟩
  · replace hP := zE_n hP h1
    refine wz_br (i3T (rfl : i3 a2 = i3 a2) (by omega) (by omega)) (fun h3 => ?_) (fun h3 => ?_)
    · replace hP := zE_p hP h3
      refine wz_i0 (i3O (n := 4400) (i3A (i3A (show (200 : Int32) = i3 200 from rfl) (i3M (show (20 : Int32) = i3 20 from rfl) (rfl : i3 a1 = i3 a1))) (show (1 : Int32) = i3 1 from rfl)) (by omega) (by omega) (by omega)) ?_
      refine wz_i0 (i3O (n := 4400) (i3A (i3A (show (200 : Int32) = i3 200 from rfl) (i3M (show (20 : Int32) = i3 20 from rfl) (rfl : i3 a1 = i3 a1))) (show (7 : Int32) = i3 7 from rfl)) (by omega) (by omega) (by omega)) ?_
      have r4 := zM_k hZ 2 0 0 (201 + 20 * a1) (lo := 0) (hi := 4) (by decide) (zs_200_1 (x := a1) (by omega) (by omega) (by omega))
      refine wz_i0 (i3O (n := 4400) (i3A (i3A (show (110 : Int32) = i3 110 from rfl) (i3M (show (5 : Int32) = i3 5 from rfl) (zm_rd (Z := Z) (ν := ν) (k := 2) (show ((0 : Nat) : Int) = 0 from rfl) (show ((0 : Nat) : Int) = 0 from rfl) (i3I (y := (201 + 20 * a1)) (i3A (i3A (show (200 : Int32) = i3 200 from rfl) (i3M (show (20 : Int32) = i3 20 from rfl) (rfl : i3 a1 = i3 a1))) (show (1 : Int32) = i3 1 from rfl)) (by omega) (by omega) (by omega))))) (show (3 : Int32) = i3 3 from rfl)) (by omega) (by omega) (by omega)) ?_
      refine wz_i0 (i3O (n := 4400) (i3A (i3A (show (110 : Int32) = i3 110 from rfl) (i3M (show (5 : Int32) = i3 5 from rfl) (zm_rd (Z := Z) (ν := ν) (k := 2) (show ((0 : Nat) : Int) = 0 from rfl) (show ((0 : Nat) : Int) = 0 from rfl) (i3I (y := (201 + 20 * a1)) (i3A (i3A (show (200 : Int32) = i3 200 from rfl) (i3M (show (20 : Int32) = i3 20 from rfl) (rfl : i3 a1 = i3 a1))) (show (1 : Int32) = i3 1 from rfl)) (by omega) (by omega) (by omega))))) (show (4 : Int32) = i3 4 from rfl)) (by omega) (by omega) (by omega)) ?_
      have r5 := zM_k hZ 2 0 0 (113 + 5 * (Z 2 0 0 (201 + 20 * a1))) (lo := 0) (hi := 600) (by decide) (zs_110_3 (x := (Z 2 0 0 (201 + 20 * a1))) (by omega) (by omega) (by omega))
      have r6 := zM_k hZ 2 0 0 (114 + 5 * (Z 2 0 0 (201 + 20 * a1))) (lo := 0) (hi := 99) (by decide) (zs_110_4 (x := (Z 2 0 0 (201 + 20 * a1))) (by omega) (by omega) (by omega))
      have r7 := zM_k hZ 2 0 0 (207 + 20 * a1) (lo := 0) (hi := 2000) (by decide) (zs_200_7 (x := a1) (by omega) (by omega) (by omega))
      refine wz_br (i3Le (i3S (zm_rd (Z := Z) (ν := ν) (k := 2) (show ((0 : Nat) : Int) = 0 from rfl) (show ((0 : Nat) : Int) = 0 from rfl) (i3I (y := (113 + 5 * (Z 2 0 0 (201 + 20 * a1)))) (i3A (i3A (show (110 : Int32) = i3 110 from rfl) (i3M (show (5 : Int32) = i3 5 from rfl) (zm_rd (Z := Z) (ν := ν) (k := 2) (show ((0 : Nat) : Int) = 0 from rfl) (show ((0 : Nat) : Int) = 0 from rfl) (i3I (y := (201 + 20 * a1)) (i3A (i3A (show (200 : Int32) = i3 200 from rfl) (i3M (show (20 : Int32) = i3 20 from rfl) (rfl : i3 a1 = i3 a1))) (show (1 : Int32) = i3 1 from rfl)) (by omega) (by omega) (by omega))))) (show (3 : Int32) = i3 3 from rfl)) (by omega) (by omega) (by omega))) (zm_rd (Z := Z) (ν := ν) (k := 2) (show ((0 : Nat) : Int) = 0 from rfl) (show ((0 : Nat) : Int) = 0 from rfl) (i3I (y := (114 + 5 * (Z 2 0 0 (201 + 20 * a1)))) (i3A (i3A (show (110 : Int32) = i3 110 from rfl) (i3M (show (5 : Int32) = i3 5 from rfl) (zm_rd (Z := Z) (ν := ν) (k := 2) (show ((0 : Nat) : Int) = 0 from rfl) (show ((0 : Nat) : Int) = 0 from rfl) (i3I (y := (201 + 20 * a1)) (i3A (i3A (show (200 : Int32) = i3 200 from rfl) (i3M (show (20 : Int32) = i3 20 from rfl) (rfl : i3 a1 = i3 a1))) (show (1 : Int32) = i3 1 from rfl)) (by omega) (by omega) (by omega))))) (show (4 : Int32) = i3 4 from rfl)) (by omega) (by omega) (by omega)))) (zm_rd (Z := Z) (ν := ν) (k := 2) (show ((0 : Nat) : Int) = 0 from rfl) (show ((0 : Nat) : Int) = 0 from rfl) (i3I (y := (207 + 20 * a1)) (i3A (i3A (show (200 : Int32) = i3 200 from rfl) (i3M (show (20 : Int32) = i3 20 from rfl) (rfl : i3 a1 = i3 a1))) (show (7 : Int32) = i3 7 from rfl)) (by omega) (by omega) (by omega))) (by omega) (by omega) (by omega) (by omega)) (fun h8 => ?_) (fun h8 => ?_)
      · replace hP := zE_p hP h8
        refine wz_br (i3L (i3A (zm_rd (Z := Z) (ν := ν) (k := 2) (show ((0 : Nat) : Int) = 0 from rfl) (show ((0 : Nat) : Int) = 0 from rfl) (i3I (y := (113 + 5 * (Z 2 0 0 (201 + 20 * a1)))) (i3A (i3A (show (110 : Int32) = i3 110 from rfl) (i3M (show (5 : Int32) = i3 5 from rfl) (zm_rd (Z := Z) (ν := ν) (k := 2) (show ((0 : Nat) : Int) = 0 from rfl) (show ((0 : Nat) : Int) = 0 from rfl) (i3I (y := (201 + 20 * a1)) (i3A (i3A (show (200 : Int32) = i3 200 from rfl) (i3M (show (20 : Int32) = i3 20 from rfl) (rfl : i3 a1 = i3 a1))) (show (1 : Int32) = i3 1 from rfl)) (by omega) (by omega) (by omega))))) (show (3 : Int32) = i3 3 from rfl)) (by omega) (by omega) (by omega))) (zm_rd (Z := Z) (ν := ν) (k := 2) (show ((0 : Nat) : Int) = 0 from rfl) (show ((0 : Nat) : Int) = 0 from rfl) (i3I (y := (114 + 5 * (Z 2 0 0 (201 + 20 * a1)))) (i3A (i3A (show (110 : Int32) = i3 110 from rfl) (i3M (show (5 : Int32) = i3 5 from rfl) (zm_rd (Z := Z) (ν := ν) (k := 2) (show ((0 : Nat) : Int) = 0 from rfl) (show ((0 : Nat) : Int) = 0 from rfl) (i3I (y := (201 + 20 * a1)) (i3A (i3A (show (200 : Int32) = i3 200 from rfl) (i3M (show (20 : Int32) = i3 20 from rfl) (rfl : i3 a1 = i3 a1))) (show (1 : Int32) = i3 1 from rfl)) (by omega) (by omega) (by omega))))) (show (4 : Int32) = i3 4 from rfl)) (by omega) (by omega) (by omega)))) (zm_rd (Z := Z) (ν := ν) (k := 2) (show ((0 : Nat) : Int) = 0 from rfl) (show ((0 : Nat) : Int) = 0 from rfl) (i3I (y := (207 + 20 * a1)) (i3A (i3A (show (200 : Int32) = i3 200 from rfl) (i3M (show (20 : Int32) = i3 20 from rfl) (rfl : i3 a1 = i3 a1))) (show (7 : Int32) = i3 7 from rfl)) (by omega) (by omega) (by omega))) (by omega) (by omega) (by omega) (by omega)) (fun h9 => ?_) (fun h9 => ?_)
        · replace hP := zE_p hP h9
          refine wz_br (i3L (i3A (zm_rd (Z := Z) (ν := ν) (k := 2) (show ((0 : Nat) : Int) = 0 from rfl) (show ((0 : Nat) : Int) = 0 from rfl) (i3I (y := (113 + 5 * (Z 2 0 0 (201 + 20 * a1)))) (i3A (i3A (show (110 : Int32) = i3 110 from rfl) (i3M (show (5 : Int32) = i3 5 from rfl) (zm_rd (Z := Z) (ν := ν) (k := 2) (show ((0 : Nat) : Int) = 0 from rfl) (show ((0 : Nat) : Int) = 0 from rfl) (i3I (y := (201 + 20 * a1)) (i3A (i3A (show (200 : Int32) = i3 200 from rfl) (i3M (show (20 : Int32) = i3 20 from rfl) (rfl : i3 a1 = i3 a1))) (show (1 : Int32) = i3 1 from rfl)) (by omega) (by omega) (by omega))))) (show (3 : Int32) = i3 3 from rfl)) (by omega) (by omega) (by omega))) (i3M (show (3 : Int32) = i3 3 from rfl) (zm_rd (Z := Z) (ν := ν) (k := 2) (show ((0 : Nat) : Int) = 0 from rfl) (show ((0 : Nat) : Int) = 0 from rfl) (i3I (y := (114 + 5 * (Z 2 0 0 (201 + 20 * a1)))) (i3A (i3A (show (110 : Int32) = i3 110 from rfl) (i3M (show (5 : Int32) = i3 5 from rfl) (zm_rd (Z := Z) (ν := ν) (k := 2) (show ((0 : Nat) : Int) = 0 from rfl) (show ((0 : Nat) : Int) = 0 from rfl) (i3I (y := (201 + 20 * a1)) (i3A (i3A (show (200 : Int32) = i3 200 from rfl) (i3M (show (20 : Int32) = i3 20 from rfl) (rfl : i3 a1 = i3 a1))) (show (1 : Int32) = i3 1 from rfl)) (by omega) (by omega) (by omega))))) (show (4 : Int32) = i3 4 from rfl)) (by omega) (by omega) (by omega))))) (zm_rd (Z := Z) (ν := ν) (k := 2) (show ((0 : Nat) : Int) = 0 from rfl) (show ((0 : Nat) : Int) = 0 from rfl) (i3I (y := (207 + 20 * a1)) (i3A (i3A (show (200 : Int32) = i3 200 from rfl) (i3M (show (20 : Int32) = i3 20 from rfl) (rfl : i3 a1 = i3 a1))) (show (7 : Int32) = i3 7 from rfl)) (by omega) (by omega) (by omega))) (by omega) (by omega) (by omega) (by omega)) (fun h10 => ?_) (fun h10 => ?_)
          · replace hP := zE_p hP h10
            exact zlR hP (show (3 : Int32) = i3 3 from rfl) ⟨by omega, by omega⟩
          · replace hP := zE_n hP h10
            exact zlR hP (show (2 : Int32) = i3 2 from rfl) ⟨by omega, by omega⟩
        · replace hP := zE_n hP h9
          exact zlR hP (show (1 : Int32) = i3 1 from rfl) ⟨by omega, by omega⟩
      · replace hP := zE_n hP h8
        exact zlR hP (show (0 : Int32) = i3 0 from rfl) ⟨by omega, by omega⟩
    · replace hP := zE_n hP h3
      refine wz_br (i3T (rfl : i3 a2 = i3 a2) (by omega) (by omega)) (fun h11 => ?_) (fun h11 => ?_)
      · replace hP := zE_p hP h11
        refine wz_i0 (i3O (n := 4400) (i3A (i3A (show (200 : Int32) = i3 200 from rfl) (i3M (show (20 : Int32) = i3 20 from rfl) (rfl : i3 a1 = i3 a1))) (show (11 : Int32) = i3 11 from rfl)) (by omega) (by omega) (by omega)) ?_
        have r12 := zM_k hZ 2 0 0 (211 + 20 * a1) (lo := -1) (hi := 6) (by decide) (zs_200_11 (x := a1) (by omega) (by omega) (by omega))
        have r13 := zM_pl hZ a1
        have r14 := zM_k hZ 2 0 0 102 (lo := 0) (hi := 48) (by decide) rfl
        exact zlR hP (zm_rd (Z := Z) (ν := ν) (k := 2) (show ((0 : Nat) : Int) = 0 from rfl) (show ((0 : Nat) : Int) = 0 from rfl) (i3I (y := (211 + 20 * a1)) (i3A (i3A (show (200 : Int32) = i3 200 from rfl) (i3M (show (20 : Int32) = i3 20 from rfl) (rfl : i3 a1 = i3 a1))) (show (11 : Int32) = i3 11 from rfl)) (by omega) (by omega) (by omega))) ⟨by omega, by omega⟩
      · replace hP := zE_n hP h11
        refine wz_br (i3T (rfl : i3 a2 = i3 a2) (by omega) (by omega)) (fun h15 => ?_) (fun h15 => ?_)
        · replace hP := zE_p hP h15
          obtain ⟨v16, hv16, c9, lv16, uv16⟩ := sp_435 (ν := ν) hZ (a1 := a1) (by omega) (zbh (c := 0) (k := 0) hM (Nat.le_of_ble_eq_true rfl))
          replace hP := zl_e hP hv16
          refine wz_cI_of (zas (zcons rfl (zcons (zvi (rfl : i3 a1 = i3 a1)) rfl)) c9) ?_
          clear c9
          exact zlR hP (rfl : i3 v16 = i3 v16) ⟨by omega, by omega⟩
        · replace hP := zE_n hP h15
          refine wz_br (i3T (rfl : i3 a2 = i3 a2) (by omega) (by omega)) (fun h17 => ?_) (fun h17 => ?_)
          · replace hP := zE_p hP h17
            refine wz_i0 (i3O (n := 4400) (i3A (i3A (show (200 : Int32) = i3 200 from rfl) (i3M (show (20 : Int32) = i3 20 from rfl) (rfl : i3 a1 = i3 a1))) (show (12 : Int32) = i3 12 from rfl)) (by omega) (by omega) (by omega)) ?_
            have r18 := zM_f hZ 2 0 0 (212 + 20 * a1)
            exact zlR hP (zm_rd (Z := Z) (ν := ν) (k := 2) (show ((0 : Nat) : Int) = 0 from rfl) (show ((0 : Nat) : Int) = 0 from rfl) (i3I (y := (212 + 20 * a1)) (i3A (i3A (show (200 : Int32) = i3 200 from rfl) (i3M (show (20 : Int32) = i3 20 from rfl) (rfl : i3 a1 = i3 a1))) (show (12 : Int32) = i3 12 from rfl)) (by omega) (by omega) (by omega))) ⟨by omega, by omega⟩
          · replace hP := zE_n hP h17
            refine wz_i1 (Eq.trans (i3T (rfl : i3 a2 = i3 a2) (by omega) (by omega)) (decide_eq_true (by omega))) ?_
            refine wz_i0 (i3O (n := 4400) (i3A (i3A (show (200 : Int32) = i3 200 from rfl) (i3M (show (20 : Int32) = i3 20 from rfl) (rfl : i3 a1 = i3 a1))) (show (13 : Int32) = i3 13 from rfl)) (by omega) (by omega) (by omega)) ?_
            have r19 := zM_k hZ 2 0 0 (213 + 20 * a1) (lo := -1) (hi := 20) (by decide) (zs_200_13 (x := a1) (by omega) (by omega) (by omega))
            exact zlR hP (zm_rd (Z := Z) (ν := ν) (k := 2) (show ((0 : Nat) : Int) = 0 from rfl) (show ((0 : Nat) : Int) = 0 from rfl) (i3I (y := (213 + 20 * a1)) (i3A (i3A (show (200 : Int32) = i3 200 from rfl) (i3M (show (20 : Int32) = i3 20 from rfl) (rfl : i3 a1 = i3 a1))) (show (13 : Int32) = i3 13 from rfl)) (by omega) (by omega) (by omega))) ⟨by omega, by omega⟩
/- yX12_pallet -/
def zy_448 (Z : qz_Z) (a1 : Int) (a2 : Int) : qz_Z × Int := (if a1 < 0 then (zlet (zu Z 1 0 0 2 1) (fun Z5 => (Z5, 0))) else (if ((Z 2 0 0 102) - 1) < a1 then (zlet (zu Z 1 0 0 2 1) (fun Z8 => (Z8, 0))) else (zlet (zu Z 1 0 0 2 0) (fun Z9 => (if a2 < 0 then (zlet (zu Z9 1 0 0 2 2) (fun Z11 => (Z11, 0))) else (if 15 < a2 then (zlet (zu Z9 1 0 0 2 2) (fun Z13 => (Z13, 0))) else (zlet (zu Z9 1 0 0 2 0) (fun Z14 => (zlet (zf_480 Z14 a1 a2) (fun v15 => (Z14, v15)))))))))))
theorem sy_448 {s : zSM} {Z : qz_Z} {ν : qz_N} (hZ : zM s Z) (gq : Z 1 0 0 35 = 0) (hM : s.2 + 0 ≤ 1000000000) {a1 : Int} (ga1 : -2147483648 ≤ a1 ∧ a1 ≤ 2147483647) {a2 : Int} (ga2 : -2147483648 ≤ a2 ∧ a2 ≤ 2147483647) {ν1 : qz_N} : ∃ (Z1 : qz_Z) (ν2 : qz_N) (v : Int), (Z1, v) = zy_448 Z a1 a2 ∧ (ν2 = ν ∨ ν2 = ν1) ∧ qf_448 [.inr (.inr (some (1, 0, 0))), .inl (i3 a1), .inl (i3 a2)] (zm Z ν) = some (zm Z1 ν2, .inl (some (.inl (i3 v)))) ∧ (fun Z1 => zM s Z1 ∧ zC [1] Z Z1 ∧ zU [] Z Z1) Z1 := by
  obtain ⟨P, hP⟩ := zx (zy_448 Z a1 a2)
  refine zc_Y (Q := fun Z1 => zM s Z1 ∧ zC [1] Z Z1 ∧ zU [] Z Z1) hP (fw_448 (i3 a1) (i3 a2) _ _ ?_)
  replace hP : zE P (zy_448 Z a1 a2) := hP
  unfold zy_448 at hP
  have r1 := zM_k hZ 1 0 0 35 (lo := 0) (hi := 1) (by decide) rfl
  have r2 := zM_k hZ 1 0 0 34 (lo := 0) (hi := 8) (by decide) rfl
  have r3 := zM_f hZ 1 0 0 37
  refine wz_br (i3L (rfl : i3 a1 = i3 a1) (show (0 : Int32) = i3 0 from rfl) (by omega) (by omega) (by omega) (by omega)) (fun h4 => ?_) (fun h4 => ?_)
  · replace hP := zE_p hP h4
    obtain ⟨Z5, hZ5⟩ := zx (zu Z 1 0 0 2 1)
    replace hP := zl_e hP hZ5
    have hZ5I := zM_u hZ hZ5 (lo := -2147483648) (hi := 2147483647) (by decide) rfl (by omega) ⟨by decide, by decide⟩ (Or.inr (by decide)) rfl
    have hZ5U : zU [] Z Z5 := zU_u zU_r hZ5 (Or.inl rfl)
    have hZ5K : zC [1] Z Z5 := zC_u zC_r hZ5 (by decide)
    intro μ9 e9
    replace e9 := e9.trans (zm_wI (Z := Z) (ν := ν) hZ5 (show ((0 : Nat) : Int) = 0 from rfl) (show ((0 : Nat) : Int) = 0 from rfl) (show ((2 : Nat) : Int) = 2 from rfl) (show (1 : Int32) = i3 1 from rfl))
    subst e9
    exact zlY hP (show (0 : Int32) = i3 0 from rfl) (.inl rfl) ⟨hZ5I, hZ5K, hZ5U⟩
  · replace hP := zE_n hP h4
    have r6 := zM_k hZ 2 0 0 102 (lo := 0) (hi := 48) (by decide) rfl
    refine wz_br (i3L (i3S (zm_rd (Z := Z) (ν := ν) (k := 2) (show ((0 : Nat) : Int) = 0 from rfl) (show ((0 : Nat) : Int) = 0 from rfl) (show ((102 : Nat) : Int) = 102 from rfl)) (show (1 : Int32) = i3 1 from rfl)) (rfl : i3 a1 = i3 a1) (by omega) (by omega) (by omega) (by omega)) (fun h7 => ?_) (fun h7 => ?_)
    · replace hP := zE_p hP h7
      obtain ⟨Z8, hZ8⟩ := zx (zu Z 1 0 0 2 1)
      replace hP := zl_e hP hZ8
      have hZ8I := zM_u hZ hZ8 (lo := -2147483648) (hi := 2147483647) (by decide) rfl (by omega) ⟨by decide, by decide⟩ (Or.inr (by decide)) rfl
      have hZ8U : zU [] Z Z8 := zU_u zU_r hZ8 (Or.inl rfl)
      have hZ8K : zC [1] Z Z8 := zC_u zC_r hZ8 (by decide)
      intro μ9 e9
      replace e9 := e9.trans (zm_wI (Z := Z) (ν := ν) hZ8 (show ((0 : Nat) : Int) = 0 from rfl) (show ((0 : Nat) : Int) = 0 from rfl) (show ((2 : Nat) : Int) = 2 from rfl) (show (1 : Int32) = i3 1 from rfl))
      subst e9
      exact zlY hP (show (0 : Int32) = i3 0 from rfl) (.inl rfl) ⟨hZ8I, hZ8K, hZ8U⟩
    · replace hP := zE_n hP h7
      obtain ⟨Z9, hZ9⟩ := zx (zu Z 1 0 0 2 0)
      replace hP := zl_e hP hZ9
      have hZ9I := zM_0 hZ hZ9 (by decide) (Or.inr (by decide))
      have hZ9U : zU [] Z Z9 := zU_u zU_r hZ9 (Or.inl rfl)
      have hZ9K : zC [1] Z Z9 := zC_u zC_r hZ9 (by decide)
      intro μ9 e9
      replace e9 := e9.trans (zm_wI (Z := Z) (ν := ν) hZ9 (show ((0 : Nat) : Int) = 0 from rfl) (show ((0 : Nat) : Int) = 0 from rfl) (show ((2 : Nat) : Int) = 2 from rfl) (show (0 : Int32) = i3 0 from rfl))
      subst e9
      refine wz_br (i3L (rfl : i3 a2 = i3 a2) (show (0 : Int32) = i3 0 from rfl) (by omega) (by omega) (by omega) (by omega)) (fun h10 => ?_) (fun h10 => ?_)
      · replace hP := zE_p hP h10
        obtain ⟨Z11, hZ11⟩ := zx (zu Z9 1 0 0 2 2)
        replace hP := zl_e hP hZ11
        have hZ11I := zM_u hZ9I hZ11 (lo := -2147483648) (hi := 2147483647) (by decide) rfl (by omega) ⟨by decide, by decide⟩ (Or.inr (by decide)) rfl
        have hZ11U : zU [] Z Z11 := zU_u hZ9U hZ11 (Or.inl rfl)
        have hZ11K : zC [1] Z Z11 := zC_u hZ9K hZ11 (by decide)
        intro μ9 e9
        replace e9 := e9.trans (zm_wI (Z := Z9) (ν := ν) hZ11 (show ((0 : Nat) : Int) = 0 from rfl) (show ((0 : Nat) : Int) = 0 from rfl) (show ((2 : Nat) : Int) = 2 from rfl) (show (2 : Int32) = i3 2 from rfl))
        subst e9
        exact zlY hP (show (0 : Int32) = i3 0 from rfl) (.inl rfl) ⟨hZ11I, hZ11K, hZ11U⟩
      · replace hP := zE_n hP h10
        refine wz_br (i3L (show (15 : Int32) = i3 15 from rfl) (rfl : i3 a2 = i3 a2) (by omega) (by omega) (by omega) (by omega)) (fun h12 => ?_) (fun h12 => ?_)
        · replace hP := zE_p hP h12
          obtain ⟨Z13, hZ13⟩ := zx (zu Z9 1 0 0 2 2)
          replace hP := zl_e hP hZ13
          have hZ13I := zM_u hZ9I hZ13 (lo := -2147483648) (hi := 2147483647) (by decide) rfl (by omega) ⟨by decide, by decide⟩ (Or.inr (by decide)) rfl
          have hZ13U : zU [] Z Z13 := zU_u hZ9U hZ13 (Or.inl rfl)
          have hZ13K : zC [1] Z Z13 := zC_u hZ9K hZ13 (by decide)
          intro μ9 e9
          replace e9 := e9.trans (zm_wI (Z := Z9) (ν := ν) hZ13 (show ((0 : Nat) : Int) = 0 from rfl) (show ((0 : Nat) : Int) = 0 from rfl) (show ((2 : Nat) : Int) = 2 from rfl) (show (2 : Int32) = i3 2 from rfl))
          subst e9
          exact zlY hP (show (0 : Int32) = i3 0 from rfl) (.inl rfl) ⟨hZ13I, hZ13K, hZ13U⟩
        · replace hP := zE_n hP h12
          obtain ⟨Z14, hZ14⟩ := zx (zu Z9 1 0 0 2 0)
          replace hP := zl_e hP hZ14
          have hZ14I := zM_0 hZ9I hZ14 (by decide) (Or.inr (by decide))
          have hZ14U : zU [] Z Z14 := zU_u hZ9U hZ14 (Or.inl rfl)
          have hZ14K : zC [1] Z Z14 := zC_u hZ9K hZ14 (by decide)
          intro μ9 e9
          replace e9 := e9.trans (zm_wI (Z := Z9) (ν := ν) hZ14 (show ((0 : Nat) : Int) = 0 from rfl) (show ((0 : Nat) : Int) = 0 from rfl) (show ((2 : Nat) : Int) = 2 from rfl) (show (0 : Int32) = i3 0 from rfl))
          subst e9
          obtain ⟨v15, hv15, c9, lv15, uv15⟩ := sp_480 (ν := ν) hZ14I (a1 := a1) (by omega) (a2 := a2) (by omega) (zbh (c := 0) (k := 0) hM (Nat.le_of_ble_eq_true rfl))
          replace hP := zl_e hP hv15
          refine wz_cI_of (zas (zcons rfl (zcons (zvi (rfl : i3 a1 = i3 a1)) (zcons (zvi (rfl : i3 a2 = i3 a2)) rfl))) c9) ?_
          clear c9
          exact zlY hP (rfl : i3 v15 = i3 v15) (.inl rfl) ⟨hZ14I, hZ14K, hZ14U⟩
/- yX12_parcel -/
def zy_449 (Z : qz_Z) (a1 : Int) (a2 : Int) : qz_Z × Int := (if a1 < 0 then (zlet (zu Z 1 0 0 2 1) (fun Z5 => (Z5, 0))) else (if ((Z 2 0 0 2000) - 1) < a1 then (zlet (zu Z 1 0 0 2 1) (fun Z8 => (Z8, 0))) else (zlet (zu Z 1 0 0 2 0) (fun Z9 => (if a2 < 0 then (zlet (zu Z9 1 0 0 2 2) (fun Z11 => (Z11, 0))) else (if 20 < a2 then (zlet (zu Z9 1 0 0 2 2) (fun Z13 => (Z13, 0))) else (zlet (zu Z9 1 0 0 2 0) (fun Z14 => (if a2 < 11 ∨ 20 < a2 then (Z14, (Z14 2 0 0 (2010 + 16 * a1 + a2))) else (if a2 = 11 then (if (Z14 2 0 0 (2019 + 16 * a1)) ≠ 0 then (Z14, (Z14 2 0 0 (2021 + 16 * a1))) else (Z14, (Z14 2 0 0 (207 + 20 * (Z14 2 0 0 (2010 + 16 * a1)))))) else (if a2 = 12 then (if (Z14 2 0 0 (2019 + 16 * a1)) ≠ 0 then (Z14, (Z14 2 0 0 (2022 + 16 * a1))) else (Z14, (Z14 2 0 0 (208 + 20 * (Z14 2 0 0 (2010 + 16 * a1)))))) else (if a2 = 13 then (if (Z14 2 0 0 (2019 + 16 * a1)) ≠ 0 then (if ((Z14 2 0 0 (113 + 5 * (Z14 2 0 0 (201 + 20 * (Z14 2 0 0 (2010 + 16 * a1)))))) - (Z14 2 0 0 (114 + 5 * (Z14 2 0 0 (201 + 20 * (Z14 2 0 0 (2010 + 16 * a1))))))) ≤ (Z14 2 0 0 (2021 + 16 * a1)) then (if ((Z14 2 0 0 (113 + 5 * (Z14 2 0 0 (201 + 20 * (Z14 2 0 0 (2010 + 16 * a1)))))) + (Z14 2 0 0 (114 + 5 * (Z14 2 0 0 (201 + 20 * (Z14 2 0 0 (2010 + 16 * a1))))))) < (Z14 2 0 0 (2021 + 16 * a1)) then (if ((Z14 2 0 0 (113 + 5 * (Z14 2 0 0 (201 + 20 * (Z14 2 0 0 (2010 + 16 * a1)))))) + (3 * (Z14 2 0 0 (114 + 5 * (Z14 2 0 0 (201 + 20 * (Z14 2 0 0 (2010 + 16 * a1)))))))) < (Z14 2 0 0 (2021 + 16 * a1)) then (Z14, 3) else (Z14, 2)) else (Z14, 1)) else (Z14, 0)) else (if ((Z14 2 0 0 (113 + 5 * (Z14 2 0 0 (201 + 20 * (Z14 2 0 0 (2010 + 16 * a1)))))) - (Z14 2 0 0 (114 + 5 * (Z14 2 0 0 (201 + 20 * (Z14 2 0 0 (2010 + 16 * a1))))))) ≤ (Z14 2 0 0 (207 + 20 * (Z14 2 0 0 (2010 + 16 * a1)))) then (if ((Z14 2 0 0 (113 + 5 * (Z14 2 0 0 (201 + 20 * (Z14 2 0 0 (2010 + 16 * a1)))))) + (Z14 2 0 0 (114 + 5 * (Z14 2 0 0 (201 + 20 * (Z14 2 0 0 (2010 + 16 * a1))))))) < (Z14 2 0 0 (207 + 20 * (Z14 2 0 0 (2010 + 16 * a1)))) then (if ((Z14 2 0 0 (113 + 5 * (Z14 2 0 0 (201 + 20 * (Z14 2 0 0 (2010 + 16 * a1)))))) + (3 * (Z14 2 0 0 (114 + 5 * (Z14 2 0 0 (201 + 20 * (Z14 2 0 0 (2010 + 16 * a1)))))))) < (Z14 2 0 0 (207 + 20 * (Z14 2 0 0 (2010 + 16 * a1)))) then (Z14, 3) else (Z14, 2)) else (Z14, 1)) else (Z14, 0))) else (if a2 = 14 then (Z14, (Z14 2 0 0 (2009 + 16 * a1 + a2))) else (if a2 = 15 then (Z14, (Z14 2 0 0 (2009 + 16 * a1 + a2))) else (if a2 = 16 then (Z14, (Z14 2 0 0 (2009 + 16 * a1 + a2))) else (if a2 = 17 then (Z14, (Z14 2 0 0 (40 + a1))) else (if a2 = 18 then (Z14, ((Z14 2 0 0 (2013 + 16 * a1)) * (Z14 2 0 0 (2015 + 16 * a1)))) else (if a2 = 19 then (Z14, (Z14 2 0 0 (1810 + 2 * a1))) else (Z14, (Z14 2 0 0 (1811 + 2 * a1)))))))))))))))))))))
theorem sy_449 {s : zSM} {Z : qz_Z} {ν : qz_N} (hZ : zM s Z) (gq : Z 1 0 0 35 = 0) (hM : s.2 + 0 ≤ 1000000000) {a1 : Int} (ga1 : -2147483648 ≤ a1 ∧ a1 ≤ 2147483647) {a2 : Int} (ga2 : -2147483648 ≤ a2 ∧ a2 ≤ 2147483647) {ν1 : qz_N} : ∃ (Z1 : qz_Z) (ν2 : qz_N) (v : Int), (Z1, v) = zy_449 Z a1 a2 ∧ (ν2 = ν ∨ ν2 = ν1) ∧ qf_449 [.inr (.inr (some (1, 0, 0))), .inl (i3 a1), .inl (i3 a2)] (zm Z ν) = some (zm Z1 ν2, .inl (some (.inl (i3 v)))) ∧ (fun Z1 => zM s Z1 ∧ zC [1] Z Z1 ∧ zU [] Z Z1) Z1 := by
  obtain ⟨P, hP⟩ := zx (zy_449 Z a1 a2)
  refine zc_Y (Q := fun Z1 => zM s Z1 ∧ zC [1] Z Z1 ∧ zU [] Z Z1) hP (fw_449 (i3 a1) (i3 a2) _ _ ?_)
  replace hP : zE P (zy_449 Z a1 a2) := hP
  unfold zy_449 at hP
  have r1 := zM_k hZ 1 0 0 35 (lo := 0) (hi := 1) (by decide) rfl
  have r2 := zM_k hZ 1 0 0 34 (lo := 0) (hi := 8) (by decide) rfl
  have r3 := zM_f hZ 1 0 0 37
  refine wz_br (i3L (rfl : i3 a1 = i3 a1) (show (0 : Int32) = i3 0 from rfl) (by omega) (by omega) (by omega) (by omega)) (fun h4 => ?_) (fun h4 => ?_)
  · replace hP := zE_p hP h4
    obtain ⟨Z5, hZ5⟩ := zx (zu Z 1 0 0 2 1)
    replace hP := zl_e hP hZ5
    have hZ5I := zM_u hZ hZ5 (lo := -2147483648) (hi := 2147483647) (by decide) rfl (by omega) ⟨by decide, by decide⟩ (Or.inr (by decide)) rfl
    have hZ5U : zU [] Z Z5 := zU_u zU_r hZ5 (Or.inl rfl)
    have hZ5K : zC [1] Z Z5 := zC_u zC_r hZ5 (by decide)
    intro μ9 e9
    replace e9 := e9.trans (zm_wI (Z := Z) (ν := ν) hZ5 (show ((0 : Nat) : Int) = 0 from rfl) (show ((0 : Nat) : Int) = 0 from rfl) (show ((2 : Nat) : Int) = 2 from rfl) (show (1 : Int32) = i3 1 from rfl))
    subst e9
    exact zlY hP (show (0 : Int32) = i3 0 from rfl) (.inl rfl) ⟨hZ5I, hZ5K, hZ5U⟩
  · replace hP := zE_n hP h4
    have r6 := zM_k hZ 2 0 0 2000 (lo := 0) (hi := 60) (by decide) rfl
    refine wz_br (i3L (i3S (zm_rd (Z := Z) (ν := ν) (k := 2) (show ((0 : Nat) : Int) = 0 from rfl) (show ((0 : Nat) : Int) = 0 from rfl) (show ((2000 : Nat) : Int) = 2000 from rfl)) (show (1 : Int32) = i3 1 from rfl)) (rfl : i3 a1 = i3 a1) (by omega) (by omega) (by omega) (by omega)) (fun h7 => ?_) (fun h7 => ?_)
    · replace hP := zE_p hP h7
      obtain ⟨Z8, hZ8⟩ := zx (zu Z 1 0 0 2 1)
      replace hP := zl_e hP hZ8
      have hZ8I := zM_u hZ hZ8 (lo := -2147483648) (hi := 2147483647) (by decide) rfl (by omega) ⟨by decide, by decide⟩ (Or.inr (by decide)) rfl
      have hZ8U : zU [] Z Z8 := zU_u zU_r hZ8 (Or.inl rfl)
      have hZ8K : zC [1] Z Z8 := zC_u zC_r hZ8 (by decide)
      intro μ9 e9
      replace e9 := e9.trans (zm_wI (Z := Z) (ν := ν) hZ8 (show ((0 : Nat) : Int) = 0 from rfl) (show ((0 : Nat) : Int) = 0 from rfl) (show ((2 : Nat) : Int) = 2 from rfl) (show (1 : Int32) = i3 1 from rfl))
      subst e9
      exact zlY hP (show (0 : Int32) = i3 0 from rfl) (.inl rfl) ⟨hZ8I, hZ8K, hZ8U⟩
    · replace hP := zE_n hP h7
      obtain ⟨Z9, hZ9⟩ := zx (zu Z 1 0 0 2 0)
      replace hP := zl_e hP hZ9
      have hZ9I := zM_0 hZ hZ9 (by decide) (Or.inr (by decide))
      have hZ9U : zU [] Z Z9 := zU_u zU_r hZ9 (Or.inl rfl)
      have hZ9K : zC [1] Z Z9 := zC_u zC_r hZ9 (by decide)
      intro μ9 e9
      replace e9 := e9.trans (zm_wI (Z := Z) (ν := ν) hZ9 (show ((0 : Nat) : Int) = 0 from rfl) (show ((0 : Nat) : Int) = 0 from rfl) (show ((2 : Nat) : Int) = 2 from rfl) (show (0 : Int32) = i3 0 from rfl))
      subst e9
      refine wz_br (i3L (rfl : i3 a2 = i3 a2) (show (0 : Int32) = i3 0 from rfl) (by omega) (by omega) (by omega) (by omega)) (fun h10 => ?_) (fun h10 => ?_)
      · replace hP := zE_p hP h10
        obtain ⟨Z11, hZ11⟩ := zx (zu Z9 1 0 0 2 2)
        replace hP := zl_e hP hZ11
        have hZ11I := zM_u hZ9I hZ11 (lo := -2147483648) (hi := 2147483647) (by decide) rfl (by omega) ⟨by decide, by decide⟩ (Or.inr (by decide)) rfl
        have hZ11U : zU [] Z Z11 := zU_u hZ9U hZ11 (Or.inl rfl)
        have hZ11K : zC [1] Z Z11 := zC_u hZ9K hZ11 (by decide)
        intro μ9 e9
        replace e9 := e9.trans (zm_wI (Z := Z9) (ν := ν) hZ11 (show ((0 : Nat) : Int) = 0 from rfl) (show ((0 : Nat) : Int) = 0 from rfl) (show ((2 : Nat) : Int) = 2 from rfl) (show (2 : Int32) = i3 2 from rfl))
        subst e9
        exact zlY hP (show (0 : Int32) = i3 0 from rfl) (.inl rfl) ⟨hZ11I, hZ11K, hZ11U⟩
      · replace hP := zE_n hP h10
        refine wz_br (i3L (show (20 : Int32) = i3 20 from rfl) (rfl : i3 a2 = i3 a2) (by omega) (by omega) (by omega) (by omega)) (fun h12 => ?_) (fun h12 => ?_)
        · replace hP := zE_p hP h12
          obtain ⟨Z13, hZ13⟩ := zx (zu Z9 1 0 0 2 2)
          replace hP := zl_e hP hZ13
          have hZ13I := zM_u hZ9I hZ13 (lo := -2147483648) (hi := 2147483647) (by decide) rfl (by omega) ⟨by decide, by decide⟩ (Or.inr (by decide)) rfl
          have hZ13U : zU [] Z Z13 := zU_u hZ9U hZ13 (Or.inl rfl)
          have hZ13K : zC [1] Z Z13 := zC_u hZ9K hZ13 (by decide)
          intro μ9 e9
          replace e9 := e9.trans (zm_wI (Z := Z9) (ν := ν) hZ13 (show ((0 : Nat) : Int) = 0 from rfl) (show ((0 : Nat) : Int) = 0 from rfl) (show ((2 : Nat) : Int) = 2 from rfl) (show (2 : Int32) = i3 2 from rfl))
          subst e9
          exact zlY hP (show (0 : Int32) = i3 0 from rfl) (.inl rfl) ⟨hZ13I, hZ13K, hZ13U⟩
        · replace hP := zE_n hP h12
          obtain ⟨Z14, hZ14⟩ := zx (zu Z9 1 0 0 2 0)
          replace hP := zl_e hP hZ14
          have hZ14I := zM_0 hZ9I hZ14 (by decide) (Or.inr (by decide))
          have hZ14U : zU [] Z Z14 := zU_u hZ9U hZ14 (Or.inl rfl)
          have hZ14K : zC [1] Z Z14 := zC_u hZ9K hZ14 (by decide)
          intro μ9 e9
          replace e9 := e9.trans (zm_wI (Z := Z9) (ν := ν) hZ14 (show ((0 : Nat) : Int) = 0 from rfl) (show ((0 : Nat) : Int) = 0 from rfl) (show ((2 : Nat) : Int) = 2 from rfl) (show (0 : Int32) = i3 0 from rfl))
          subst e9
          refine wz_br (i3To (rfl : i3 a2 = i3 a2) (by omega) (by omega)) (fun h15 => ?_) (fun h15 => ?_)
          · replace hP := zE_p hP h15
            refine wz_i0 (i3O (n := 4400) (i3A (i3A (show (2010 : Int32) = i3 2010 from rfl) (i3M (show (16 : Int32) = i3 16 from rfl) (rfl : i3 a1 = i3 a1))) (rfl : i3 a2 = i3 a2)) (by omega) (by omega) (by omega)) ?_
            have r16 := zM_f hZ14I 2 0 0 (2010 + 16 * a1 + a2)
            exact zlY hP (zm_rd (Z := Z14) (ν := ν) (k := 2) (show ((0 : Nat) : Int) = 0 from rfl) (show ((0 : Nat) : Int) = 0 from rfl) (i3I (y := (2010 + 16 * a1 + a2)) (i3A (i3A (show (2010 : Int32) = i3 2010 from rfl) (i3M (show (16 : Int32) = i3 16 from rfl) (rfl : i3 a1 = i3 a1))) (rfl : i3 a2 = i3 a2)) (by omega) (by omega) (by omega))) (.inl rfl) ⟨hZ14I, hZ14K, hZ14U⟩
          · replace hP := zE_n hP h15
            refine wz_br (i3T (rfl : i3 a2 = i3 a2) (by omega) (by omega)) (fun h17 => ?_) (fun h17 => ?_)
            · replace hP := zE_p hP h17
              refine wz_i0 (i3O (n := 4400) (i3A (i3A (show (2010 : Int32) = i3 2010 from rfl) (i3M (show (16 : Int32) = i3 16 from rfl) (rfl : i3 a1 = i3 a1))) (show (9 : Int32) = i3 9 from rfl)) (by omega) (by omega) (by omega)) ?_
              have r18 := zM_k hZ14I 2 0 0 (2019 + 16 * a1) (lo := 0) (hi := 3) (by decide) (zs_2010_9 (x := a1) (by omega) (by omega) (by omega))
              have r19 := zM_lt2 hZ14I a1
              refine wz_br (i3NE (zm_rd (Z := Z14) (ν := ν) (k := 2) (show ((0 : Nat) : Int) = 0 from rfl) (show ((0 : Nat) : Int) = 0 from rfl) (i3I (y := (2019 + 16 * a1)) (i3A (i3A (show (2010 : Int32) = i3 2010 from rfl) (i3M (show (16 : Int32) = i3 16 from rfl) (rfl : i3 a1 = i3 a1))) (show (9 : Int32) = i3 9 from rfl)) (by omega) (by omega) (by omega))) (show (0 : Int32) = i3 0 from rfl) (by omega) (by omega) (by omega) (by omega)) (fun h20 => ?_) (fun h20 => ?_)
              · replace hP := zE_p hP h20
                refine wz_i0 (i3O (n := 4400) (i3A (i3A (show (2010 : Int32) = i3 2010 from rfl) (i3M (show (16 : Int32) = i3 16 from rfl) (rfl : i3 a1 = i3 a1))) (show (11 : Int32) = i3 11 from rfl)) (by omega) (by omega) (by omega)) ?_
                have r21 := zM_k hZ14I 2 0 0 (2021 + 16 * a1) (lo := 0) (hi := 2000) (by decide) (zs_2010_11 (x := a1) (by omega) (by omega) (by omega))
                exact zlY hP (zm_rd (Z := Z14) (ν := ν) (k := 2) (show ((0 : Nat) : Int) = 0 from rfl) (show ((0 : Nat) : Int) = 0 from rfl) (i3I (y := (2021 + 16 * a1)) (i3A (i3A (show (2010 : Int32) = i3 2010 from rfl) (i3M (show (16 : Int32) = i3 16 from rfl) (rfl : i3 a1 = i3 a1))) (show (11 : Int32) = i3 11 from rfl)) (by omega) (by omega) (by omega))) (.inl rfl) ⟨hZ14I, hZ14K, hZ14U⟩
              · replace hP := zE_n hP h20
                refine wz_i0 (i3O (n := 4400) (i3A (i3A (show (2010 : Int32) = i3 2010 from rfl) (i3M (show (16 : Int32) = i3 16 from rfl) (rfl : i3 a1 = i3 a1))) (show (0 : Int32) = i3 0 from rfl)) (by omega) (by omega) (by omega)) ?_
                have r22 := zM_k hZ14I 2 0 0 (2010 + 16 * a1) (lo := 0) (hi := 47) (by decide) (zs_2010_0 (x := a1) (by omega) (by omega) (by omega))
                refine wz_i0 (i3O (n := 4400) (i3A (i3A (show (200 : Int32) = i3 200 from rfl) (i3M (show (20 : Int32) = i3 20 from rfl) (zm_rd (Z := Z14) (ν := ν) (k := 2) (show ((0 : Nat) : Int) = 0 from rfl) (show ((0 : Nat) : Int) = 0 from rfl) (i3I (y := (2010 + 16 * a1)) (i3A (i3A (show (2010 : Int32) = i3 2010 from rfl) (i3M (show (16 : Int32) = i3 16 from rfl) (rfl : i3 a1 = i3 a1))) (show (0 : Int32) = i3 0 from rfl)) (by omega) (by omega) (by omega))))) (show (7 : Int32) = i3 7 from rfl)) (by omega) (by omega) (by omega)) ?_
                have r23 := zM_k hZ14I 2 0 0 (207 + 20 * (Z14 2 0 0 (2010 + 16 * a1))) (lo := 0) (hi := 2000) (by decide) (zs_200_7 (x := (Z14 2 0 0 (2010 + 16 * a1))) (by omega) (by omega) (by omega))
                exact zlY hP (zm_rd (Z := Z14) (ν := ν) (k := 2) (show ((0 : Nat) : Int) = 0 from rfl) (show ((0 : Nat) : Int) = 0 from rfl) (i3I (y := (207 + 20 * (Z14 2 0 0 (2010 + 16 * a1)))) (i3A (i3A (show (200 : Int32) = i3 200 from rfl) (i3M (show (20 : Int32) = i3 20 from rfl) (zm_rd (Z := Z14) (ν := ν) (k := 2) (show ((0 : Nat) : Int) = 0 from rfl) (show ((0 : Nat) : Int) = 0 from rfl) (i3I (y := (2010 + 16 * a1)) (i3A (i3A (show (2010 : Int32) = i3 2010 from rfl) (i3M (show (16 : Int32) = i3 16 from rfl) (rfl : i3 a1 = i3 a1))) (show (0 : Int32) = i3 0 from rfl)) (by omega) (by omega) (by omega))))) (show (7 : Int32) = i3 7 from rfl)) (by omega) (by omega) (by omega))) (.inl rfl) ⟨hZ14I, hZ14K, hZ14U⟩
            · replace hP := zE_n hP h17
              refine wz_br (i3T (rfl : i3 a2 = i3 a2) (by omega) (by omega)) (fun h24 => ?_) (fun h24 => ?_)
              · replace hP := zE_p hP h24
                refine wz_i0 (i3O (n := 4400) (i3A (i3A (show (2010 : Int32) = i3 2010 from rfl) (i3M (show (16 : Int32) = i3 16 from rfl) (rfl : i3 a1 = i3 a1))) (show (9 : Int32) = i3 9 from rfl)) (by omega) (by omega) (by omega)) ?_
                have r25 := zM_k hZ14I 2 0 0 (2019 + 16 * a1) (lo := 0) (hi := 3) (by decide) (zs_2010_9 (x := a1) (by omega) (by omega) (by omega))
                have r26 := zM_lt2 hZ14I a1
                refine wz_br (i3NE (zm_rd (Z := Z14) (ν := ν) (k := 2) (show ((0 : Nat) : Int) = 0 from rfl) (show ((0 : Nat) : Int) = 0 from rfl) (i3I (y := (2019 + 16 * a1)) (i3A (i3A (show (2010 : Int32) = i3 2010 from rfl) (i3M (show (16 : Int32) = i3 16 from rfl) (rfl : i3 a1 = i3 a1))) (show (9 : Int32) = i3 9 from rfl)) (by omega) (by omega) (by omega))) (show (0 : Int32) = i3 0 from rfl) (by omega) (by omega) (by omega) (by omega)) (fun h27 => ?_) (fun h27 => ?_)
                · replace hP := zE_p hP h27
                  refine wz_i0 (i3O (n := 4400) (i3A (i3A (show (2010 : Int32) = i3 2010 from rfl) (i3M (show (16 : Int32) = i3 16 from rfl) (rfl : i3 a1 = i3 a1))) (show (12 : Int32) = i3 12 from rfl)) (by omega) (by omega) (by omega)) ?_
                  have r28 := zM_k hZ14I 2 0 0 (2022 + 16 * a1) (lo := 0) (hi := 999) (by decide) (zs_2010_12 (x := a1) (by omega) (by omega) (by omega))
                  exact zlY hP (zm_rd (Z := Z14) (ν := ν) (k := 2) (show ((0 : Nat) : Int) = 0 from rfl) (show ((0 : Nat) : Int) = 0 from rfl) (i3I (y := (2022 + 16 * a1)) (i3A (i3A (show (2010 : Int32) = i3 2010 from rfl) (i3M (show (16 : Int32) = i3 16 from rfl) (rfl : i3 a1 = i3 a1))) (show (12 : Int32) = i3 12 from rfl)) (by omega) (by omega) (by omega))) (.inl rfl) ⟨hZ14I, hZ14K, hZ14U⟩
                · replace hP := zE_n hP h27
                  refine wz_i0 (i3O (n := 4400) (i3A (i3A (show (2010 : Int32) = i3 2010 from rfl) (i3M (show (16 : Int32) = i3 16 from rfl) (rfl : i3 a1 = i3 a1))) (show (0 : Int32) = i3 0 from rfl)) (by omega) (by omega) (by omega)) ?_
                  have r29 := zM_k hZ14I 2 0 0 (2010 + 16 * a1) (lo := 0) (hi := 47) (by decide) (zs_2010_0 (x := a1) (by omega) (by omega) (by omega))
                  refine wz_i0 (i3O (n := 4400) (i3A (i3A (show (200 : Int32) = i3 200 from rfl) (i3M (show (20 : Int32) = i3 20 from rfl) (zm_rd (Z := Z14) (ν := ν) (k := 2) (show ((0 : Nat) : Int) = 0 from rfl) (show ((0 : Nat) : Int) = 0 from rfl) (i3I (y := (2010 + 16 * a1)) (i3A (i3A (show (2010 : Int32) = i3 2010 from rfl) (i3M (show (16 : Int32) = i3 16 from rfl) (rfl : i3 a1 = i3 a1))) (show (0 : Int32) = i3 0 from rfl)) (by omega) (by omega) (by omega))))) (show (8 : Int32) = i3 8 from rfl)) (by omega) (by omega) (by omega)) ?_
                  have r30 := zM_k hZ14I 2 0 0 (208 + 20 * (Z14 2 0 0 (2010 + 16 * a1))) (lo := 0) (hi := 999) (by decide) (zs_200_8 (x := (Z14 2 0 0 (2010 + 16 * a1))) (by omega) (by omega) (by omega))
                  exact zlY hP (zm_rd (Z := Z14) (ν := ν) (k := 2) (show ((0 : Nat) : Int) = 0 from rfl) (show ((0 : Nat) : Int) = 0 from rfl) (i3I (y := (208 + 20 * (Z14 2 0 0 (2010 + 16 * a1)))) (i3A (i3A (show (200 : Int32) = i3 200 from rfl) (i3M (show (20 : Int32) = i3 20 from rfl) (zm_rd (Z := Z14) (ν := ν) (k := 2) (show ((0 : Nat) : Int) = 0 from rfl) (show ((0 : Nat) : Int) = 0 from rfl) (i3I (y := (2010 + 16 * a1)) (i3A (i3A (show (2010 : Int32) = i3 2010 from rfl) (i3M (show (16 : Int32) = i3 16 from rfl) (rfl : i3 a1 = i3 a1))) (show (0 : Int32) = i3 0 from rfl)) (by omega) (by omega) (by omega))))) (show (8 : Int32) = i3 8 from rfl)) (by omega) (by omega) (by omega))) (.inl rfl) ⟨hZ14I, hZ14K, hZ14U⟩
              · replace hP := zE_n hP h24
                refine wz_br (i3T (rfl : i3 a2 = i3 a2) (by omega) (by omega)) (fun h31 => ?_) (fun h31 => ?_)
                · replace hP := zE_p hP h31
                  refine wz_i0 (i3O (n := 4400) (i3A (i3A (show (2010 : Int32) = i3 2010 from rfl) (i3M (show (16 : Int32) = i3 16 from rfl) (rfl : i3 a1 = i3 a1))) (show (0 : Int32) = i3 0 from rfl)) (by omega) (by omega) (by omega)) ?_
                  have r32 := zM_k hZ14I 2 0 0 (2010 + 16 * a1) (lo := 0) (hi := 47) (by decide) (zs_2010_0 (x := a1) (by omega) (by omega) (by omega))
                  refine wz_i0 (i3O (n := 4400) (i3A (i3A (show (200 : Int32) = i3 200 from rfl) (i3M (show (20 : Int32) = i3 20 from rfl) (zm_rd (Z := Z14) (ν := ν) (k := 2) (show ((0 : Nat) : Int) = 0 from rfl) (show ((0 : Nat) : Int) = 0 from rfl) (i3I (y := (2010 + 16 * a1)) (i3A (i3A (show (2010 : Int32) = i3 2010 from rfl) (i3M (show (16 : Int32) = i3 16 from rfl) (rfl : i3 a1 = i3 a1))) (show (0 : Int32) = i3 0 from rfl)) (by omega) (by omega) (by omega))))) (show (1 : Int32) = i3 1 from rfl)) (by omega) (by omega) (by omega)) ?_
                  refine wz_i0 (i3O (n := 4400) (i3A (i3A (show (2010 : Int32) = i3 2010 from rfl) (i3M (show (16 : Int32) = i3 16 from rfl) (rfl : i3 a1 = i3 a1))) (show (9 : Int32) = i3 9 from rfl)) (by omega) (by omega) (by omega)) ?_
                  have r33 := zM_k hZ14I 2 0 0 (2019 + 16 * a1) (lo := 0) (hi := 3) (by decide) (zs_2010_9 (x := a1) (by omega) (by omega) (by omega))
                  have r34 := zM_lt2 hZ14I a1
                  refine wz_br (i3NE (zm_rd (Z := Z14) (ν := ν) (k := 2) (show ((0 : Nat) : Int) = 0 from rfl) (show ((0 : Nat) : Int) = 0 from rfl) (i3I (y := (2019 + 16 * a1)) (i3A (i3A (show (2010 : Int32) = i3 2010 from rfl) (i3M (show (16 : Int32) = i3 16 from rfl) (rfl : i3 a1 = i3 a1))) (show (9 : Int32) = i3 9 from rfl)) (by omega) (by omega) (by omega))) (show (0 : Int32) = i3 0 from rfl) (by omega) (by omega) (by omega) (by omega)) (fun h35 => ?_) (fun h35 => ?_)
                  · replace hP := zE_p hP h35
                    refine wz_i0 (i3O (n := 4400) (i3A (i3A (show (2010 : Int32) = i3 2010 from rfl) (i3M (show (16 : Int32) = i3 16 from rfl) (rfl : i3 a1 = i3 a1))) (show (11 : Int32) = i3 11 from rfl)) (by omega) (by omega) (by omega)) ?_
                    have r36 := zM_k hZ14I 2 0 0 (201 + 20 * (Z14 2 0 0 (2010 + 16 * a1))) (lo := 0) (hi := 4) (by decide) (zs_200_1 (x := (Z14 2 0 0 (2010 + 16 * a1))) (by omega) (by omega) (by omega))
                    refine wz_i0 (i3O (n := 4400) (i3A (i3A (show (110 : Int32) = i3 110 from rfl) (i3M (show (5 : Int32) = i3 5 from rfl) (zm_rd (Z := Z14) (ν := ν) (k := 2) (show ((0 : Nat) : Int) = 0 from rfl) (show ((0 : Nat) : Int) = 0 from rfl) (i3I (y := (201 + 20 * (Z14 2 0 0 (2010 + 16 * a1)))) (i3A (i3A (show (200 : Int32) = i3 200 from rfl) (i3M (show (20 : Int32) = i3 20 from rfl) (zm_rd (Z := Z14) (ν := ν) (k := 2) (show ((0 : Nat) : Int) = 0 from rfl) (show ((0 : Nat) : Int) = 0 from rfl) (i3I (y := (2010 + 16 * a1)) (i3A (i3A (show (2010 : Int32) = i3 2010 from rfl) (i3M (show (16 : Int32) = i3 16 from rfl) (rfl : i3 a1 = i3 a1))) (show (0 : Int32) = i3 0 from rfl)) (by omega) (by omega) (by omega))))) (show (1 : Int32) = i3 1 from rfl)) (by omega) (by omega) (by omega))))) (show (3 : Int32) = i3 3 from rfl)) (by omega) (by omega) (by omega)) ?_
                    refine wz_i0 (i3O (n := 4400) (i3A (i3A (show (110 : Int32) = i3 110 from rfl) (i3M (show (5 : Int32) = i3 5 from rfl) (zm_rd (Z := Z14) (ν := ν) (k := 2) (show ((0 : Nat) : Int) = 0 from rfl) (show ((0 : Nat) : Int) = 0 from rfl) (i3I (y := (201 + 20 * (Z14 2 0 0 (2010 + 16 * a1)))) (i3A (i3A (show (200 : Int32) = i3 200 from rfl) (i3M (show (20 : Int32) = i3 20 from rfl) (zm_rd (Z := Z14) (ν := ν) (k := 2) (show ((0 : Nat) : Int) = 0 from rfl) (show ((0 : Nat) : Int) = 0 from rfl) (i3I (y := (2010 + 16 * a1)) (i3A (i3A (show (2010 : Int32) = i3 2010 from rfl) (i3M (show (16 : Int32) = i3 16 from rfl) (rfl : i3 a1 = i3 a1))) (show (0 : Int32) = i3 0 from rfl)) (by omega) (by omega) (by omega))))) (show (1 : Int32) = i3 1 from rfl)) (by omega) (by omega) (by omega))))) (show (4 : Int32) = i3 4 from rfl)) (by omega) (by omega) (by omega)) ?_
                    have r37 := zM_k hZ14I 2 0 0 (113 + 5 * (Z14 2 0 0 (201 + 20 * (Z14 2 0 0 (2010 + 16 * a1))))) (lo := 0) (hi := 600) (by decide) (zs_110_3 (x := (Z14 2 0 0 (201 + 20 * (Z14 2 0 0 (2010 + 16 * a1))))) (by omega) (by omega) (by omega))
                    have r38 := zM_k hZ14I 2 0 0 (114 + 5 * (Z14 2 0 0 (201 + 20 * (Z14 2 0 0 (2010 + 16 * a1))))) (lo := 0) (hi := 99) (by decide) (zs_110_4 (x := (Z14 2 0 0 (201 + 20 * (Z14 2 0 0 (2010 + 16 * a1))))) (by omega) (by omega) (by omega))
                    have r39 := zM_k hZ14I 2 0 0 (2021 + 16 * a1) (lo := 0) (hi := 2000) (by decide) (zs_2010_11 (x := a1) (by omega) (by omega) (by omega))
                    refine wz_br (i3Le (i3S (zm_rd (Z := Z14) (ν := ν) (k := 2) (show ((0 : Nat) : Int) = 0 from rfl) (show ((0 : Nat) : Int) = 0 from rfl) (i3I (y := (113 + 5 * (Z14 2 0 0 (201 + 20 * (Z14 2 0 0 (2010 + 16 * a1)))))) (i3A (i3A (show (110 : Int32) = i3 110 from rfl) (i3M (show (5 : Int32) = i3 5 from rfl) (zm_rd (Z := Z14) (ν := ν) (k := 2) (show ((0 : Nat) : Int) = 0 from rfl) (show ((0 : Nat) : Int) = 0 from rfl) (i3I (y := (201 + 20 * (Z14 2 0 0 (2010 + 16 * a1)))) (i3A (i3A (show (200 : Int32) = i3 200 from rfl) (i3M (show (20 : Int32) = i3 20 from rfl) (zm_rd (Z := Z14) (ν := ν) (k := 2) (show ((0 : Nat) : Int) = 0 from rfl) (show ((0 : Nat) : Int) = 0 from rfl) (i3I (y := (2010 + 16 * a1)) (i3A (i3A (show (2010 : Int32) = i3 2010 from rfl) (i3M (show (16 : Int32) = i3 16 from rfl) (rfl : i3 a1 = i3 a1))) (show (0 : Int32) = i3 0 from rfl)) (by omega) (by omega) (by omega))))) (show (1 : Int32) = i3 1 from rfl)) (by omega) (by omega) (by omega))))) (show (3 : Int32) = i3 3 from rfl)) (by omega) (by omega) (by omega))) (zm_rd (Z := Z14) (ν := ν) (k := 2) (show ((0 : Nat) : Int) = 0 from rfl) (show ((0 : Nat) : Int) = 0 from rfl) (i3I (y := (114 + 5 * (Z14 2 0 0 (201 + 20 * (Z14 2 0 0 (2010 + 16 * a1)))))) (i3A (i3A (show (110 : Int32) = i3 110 from rfl) (i3M (show (5 : Int32) = i3 5 from rfl) (zm_rd (Z := Z14) (ν := ν) (k := 2) (show ((0 : Nat) : Int) = 0 from rfl) (show ((0 : Nat) : Int) = 0 from rfl) (i3I (y := (201 + 20 * (Z14 2 0 0 (2010 + 16 * a1)))) (i3A (i3A (show (200 : Int32) = i3 200 from rfl) (i3M (show (20 : Int32) = i3 20 from rfl) (zm_rd (Z := Z14) (ν := ν) (k := 2) (show ((0 : Nat) : Int) = 0 from rfl) (show ((0 : Nat) : Int) = 0 from rfl) (i3I (y := (2010 + 16 * a1)) (i3A (i3A (show (2010 : Int32) = i3 2010 from rfl) (i3M (show (16 : Int32) = i3 16 from rfl) (rfl : i3 a1 = i3 a1))) (show (0 : Int32) = i3 0 from rfl)) (by omega) (by omega) (by omega))))) (show (1 : Int32) = i3 1 from rfl)) (by omega) (by omega) (by omega))))) (show (4 : Int32) = i3 4 from rfl)) (by omega) (by omega) (by omega)))) (zm_rd (Z := Z14) (ν := ν) (k := 2) (show ((0 : Nat) : Int) = 0 from rfl) (show ((0 : Nat) : Int) = 0 from rfl) (i3I (y := (2021 + 16 * a1)) (i3A (i3A (show (2010 : Int32) = i3 2010 from rfl) (i3M (show (16 : Int32) = i3 16 from rfl) (rfl : i3 a1 = i3 a1))) (show (11 : Int32) = i3 11 from rfl)) (by omega) (by omega) (by omega))) (by omega) (by omega) (by omega) (by omega)) (fun h40 => ?_) (fun h40 => ?_)
                    · replace hP := zE_p hP h40
                      refine wz_br (i3L (i3A (zm_rd (Z := Z14) (ν := ν) (k := 2) (show ((0 : Nat) : Int) = 0 from rfl) (show ((0 : Nat) : Int) = 0 from rfl) (i3I (y := (113 + 5 * (Z14 2 0 0 (201 + 20 * (Z14 2 0 0 (2010 + 16 * a1)))))) (i3A (i3A (show (110 : Int32) = i3 110 from rfl) (i3M (show (5 : Int32) = i3 5 from rfl) (zm_rd (Z := Z14) (ν := ν) (k := 2) (show ((0 : Nat) : Int) = 0 from rfl) (show ((0 : Nat) : Int) = 0 from rfl) (i3I (y := (201 + 20 * (Z14 2 0 0 (2010 + 16 * a1)))) (i3A (i3A (show (200 : Int32) = i3 200 from rfl) (i3M (show (20 : Int32) = i3 20 from rfl) (zm_rd (Z := Z14) (ν := ν) (k := 2) (show ((0 : Nat) : Int) = 0 from rfl) (show ((0 : Nat) : Int) = 0 from rfl) (i3I (y := (2010 + 16 * a1)) (i3A (i3A (show (2010 : Int32) = i3 2010 from rfl) (i3M (show (16 : Int32) = i3 16 from rfl) (rfl : i3 a1 = i3 a1))) (show (0 : Int32) = i3 0 from rfl)) (by omega) (by omega) (by omega))))) (show (1 : Int32) = i3 1 from rfl)) (by omega) (by omega) (by omega))))) (show (3 : Int32) = i3 3 from rfl)) (by omega) (by omega) (by omega))) (zm_rd (Z := Z14) (ν := ν) (k := 2) (show ((0 : Nat) : Int) = 0 from rfl) (show ((0 : Nat) : Int) = 0 from rfl) (i3I (y := (114 + 5 * (Z14 2 0 0 (201 + 20 * (Z14 2 0 0 (2010 + 16 * a1)))))) (i3A (i3A (show (110 : Int32) = i3 110 from rfl) (i3M (show (5 : Int32) = i3 5 from rfl) (zm_rd (Z := Z14) (ν := ν) (k := 2) (show ((0 : Nat) : Int) = 0 from rfl) (show ((0 : Nat) : Int) = 0 from rfl) (i3I (y := (201 + 20 * (Z14 2 0 0 (2010 + 16 * a1)))) (i3A (i3A (show (200 : Int32) = i3 200 from rfl) (i3M (show (20 : Int32) = i3 20 from rfl) (zm_rd (Z := Z14) (ν := ν) (k := 2) (show ((0 : Nat) : Int) = 0 from rfl) (show ((0 : Nat) : Int) = 0 from rfl) (i3I (y := (2010 + 16 * a1)) (i3A (i3A (show (2010 : Int32) = i3 2010 from rfl) (i3M (show (16 : Int32) = i3 16 from rfl) (rfl : i3 a1 = i3 a1))) (show (0 : Int32) = i3 0 from rfl)) (by omega) (by omega) (by omega))))) (show (1 : Int32) = i3 1 from rfl)) (by omega) (by omega) (by omega))))) (show (4 : Int32) = i3 4 from rfl)) (by omega) (by omega) (by omega)))) (zm_rd (Z := Z14) (ν := ν) (k := 2) (show ((0 : Nat) : Int) = 0 from rfl) (show ((0 : Nat) : Int) = 0 from rfl) (i3I (y := (2021 + 16 * a1)) (i3A (i3A (show (2010 : Int32) = i3 2010 from rfl) (i3M (show (16 : Int32) = i3 16 from rfl) (rfl : i3 a1 = i3 a1))) (show (11 : Int32) = i3 11 from rfl)) (by omega) (by omega) (by omega))) (by omega) (by omega) (by omega) (by omega)) (fun h41 => ?_) (fun h41 => ?_)
                      · replace hP := zE_p hP h41
                        refine wz_br (i3L (i3A (zm_rd (Z := Z14) (ν := ν) (k := 2) (show ((0 : Nat) : Int) = 0 from rfl) (show ((0 : Nat) : Int) = 0 from rfl) (i3I (y := (113 + 5 * (Z14 2 0 0 (201 + 20 * (Z14 2 0 0 (2010 + 16 * a1)))))) (i3A (i3A (show (110 : Int32) = i3 110 from rfl) (i3M (show (5 : Int32) = i3 5 from rfl) (zm_rd (Z := Z14) (ν := ν) (k := 2) (show ((0 : Nat) : Int) = 0 from rfl) (show ((0 : Nat) : Int) = 0 from rfl) (i3I (y := (201 + 20 * (Z14 2 0 0 (2010 + 16 * a1)))) (i3A (i3A (show (200 : Int32) = i3 200 from rfl) (i3M (show (20 : Int32) = i3 20 from rfl) (zm_rd (Z := Z14) (ν := ν) (k := 2) (show ((0 : Nat) : Int) = 0 from rfl) (show ((0 : Nat) : Int) = 0 from rfl) (i3I (y := (2010 + 16 * a1)) (i3A (i3A (show (2010 : Int32) = i3 2010 from rfl) (i3M (show (16 : Int32) = i3 16 from rfl) (rfl : i3 a1 = i3 a1))) (show (0 : Int32) = i3 0 from rfl)) (by omega) (by omega) (by omega))))) (show (1 : Int32) = i3 1 from rfl)) (by omega) (by omega) (by omega))))) (show (3 : Int32) = i3 3 from rfl)) (by omega) (by omega) (by omega))) (i3M (show (3 : Int32) = i3 3 from rfl) (zm_rd (Z := Z14) (ν := ν) (k := 2) (show ((0 : Nat) : Int) = 0 from rfl) (show ((0 : Nat) : Int) = 0 from rfl) (i3I (y := (114 + 5 * (Z14 2 0 0 (201 + 20 * (Z14 2 0 0 (2010 + 16 * a1)))))) (i3A (i3A (show (110 : Int32) = i3 110 from rfl) (i3M (show (5 : Int32) = i3 5 from rfl) (zm_rd (Z := Z14) (ν := ν) (k := 2) (show ((0 : Nat) : Int) = 0 from rfl) (show ((0 : Nat) : Int) = 0 from rfl) (i3I (y := (201 + 20 * (Z14 2 0 0 (2010 + 16 * a1)))) (i3A (i3A (show (200 : Int32) = i3 200 from rfl) (i3M (show (20 : Int32) = i3 20 from rfl) (zm_rd (Z := Z14) (ν := ν) (k := 2) (show ((0 : Nat) : Int) = 0 from rfl) (show ((0 : Nat) : Int) = 0 from rfl) (i3I (y := (2010 + 16 * a1)) (i3A (i3A (show (2010 : Int32) = i3 2010 from rfl) (i3M (show (16 : Int32) = i3 16 from rfl) (rfl : i3 a1 = i3 a1))) (show (0 : Int32) = i3 0 from rfl)) (by omega) (by omega) (by omega))))) (show (1 : Int32) = i3 1 from rfl)) (by omega) (by omega) (by omega))))) (show (4 : Int32) = i3 4 from rfl)) (by omega) (by omega) (by omega))))) (zm_rd (Z := Z14) (ν := ν) (k := 2) (show ((0 : Nat) : Int) = 0 from rfl) (show ((0 : Nat) : Int) = 0 from rfl) (i3I (y := (2021 + 16 * a1)) (i3A (i3A (show (2010 : Int32) = i3 2010 from rfl) (i3M (show (16 : Int32) = i3 16 from rfl) (rfl : i3 a1 = i3 a1))) (show (11 : Int32) = i3 11 from rfl)) (by omega) (by omega) (by omega))) (by omega) (by omega) (by omega) (by omega)) (fun h42 => ?_) (fun h42 => ?_)
                        · replace hP := zE_p hP h42
                          exact zlY hP (show (3 : Int32) = i3 3 from rfl) (.inl rfl) ⟨hZ14I, hZ14K, hZ14U⟩
                        · replace hP := zE_n hP h42
                          exact zlY hP (show (2 : Int32) = i3 2 from rfl) (.inl rfl) ⟨hZ14I, hZ14K, hZ14U⟩
                      · replace hP := zE_n hP h41
                        exact zlY hP (show (1 : Int32) = i3 1 from rfl) (.inl rfl) ⟨hZ14I, hZ14K, hZ14U⟩
                    · replace hP := zE_n hP h40
                      exact zlY hP (show (0 : Int32) = i3 0 from rfl) (.inl rfl) ⟨hZ14I, hZ14K, hZ14U⟩
                  · replace hP := zE_n hP h35
                    refine wz_i0 (i3O (n := 4400) (i3A (i3A (show (2010 : Int32) = i3 2010 from rfl) (i3M (show (16 : Int32) = i3 16 from rfl) (rfl : i3 a1 = i3 a1))) (show (0 : Int32) = i3 0 from rfl)) (by omega) (by omega) (by omega)) ?_
                    refine wz_i0 (i3O (n := 4400) (i3A (i3A (show (200 : Int32) = i3 200 from rfl) (i3M (show (20 : Int32) = i3 20 from rfl) (zm_rd (Z := Z14) (ν := ν) (k := 2) (show ((0 : Nat) : Int) = 0 from rfl) (show ((0 : Nat) : Int) = 0 from rfl) (i3I (y := (2010 + 16 * a1)) (i3A (i3A (show (2010 : Int32) = i3 2010 from rfl) (i3M (show (16 : Int32) = i3 16 from rfl) (rfl : i3 a1 = i3 a1))) (show (0 : Int32) = i3 0 from rfl)) (by omega) (by omega) (by omega))))) (show (7 : Int32) = i3 7 from rfl)) (by omega) (by omega) (by omega)) ?_
                    have r43 := zM_k hZ14I 2 0 0 (201 + 20 * (Z14 2 0 0 (2010 + 16 * a1))) (lo := 0) (hi := 4) (by decide) (zs_200_1 (x := (Z14 2 0 0 (2010 + 16 * a1))) (by omega) (by omega) (by omega))
                    refine wz_i0 (i3O (n := 4400) (i3A (i3A (show (110 : Int32) = i3 110 from rfl) (i3M (show (5 : Int32) = i3 5 from rfl) (zm_rd (Z := Z14) (ν := ν) (k := 2) (show ((0 : Nat) : Int) = 0 from rfl) (show ((0 : Nat) : Int) = 0 from rfl) (i3I (y := (201 + 20 * (Z14 2 0 0 (2010 + 16 * a1)))) (i3A (i3A (show (200 : Int32) = i3 200 from rfl) (i3M (show (20 : Int32) = i3 20 from rfl) (zm_rd (Z := Z14) (ν := ν) (k := 2) (show ((0 : Nat) : Int) = 0 from rfl) (show ((0 : Nat) : Int) = 0 from rfl) (i3I (y := (2010 + 16 * a1)) (i3A (i3A (show (2010 : Int32) = i3 2010 from rfl) (i3M (show (16 : Int32) = i3 16 from rfl) (rfl : i3 a1 = i3 a1))) (show (0 : Int32) = i3 0 from rfl)) (by omega) (by omega) (by omega))))) (show (1 : Int32) = i3 1 from rfl)) (by omega) (by omega) (by omega))))) (show (3 : Int32) = i3 3 from rfl)) (by omega) (by omega) (by omega)) ?_
                    refine wz_i0 (i3O (n := 4400) (i3A (i3A (show (110 : Int32) = i3 110 from rfl) (i3M (show (5 : Int32) = i3 5 from rfl) (zm_rd (Z := Z14) (ν := ν) (k := 2) (show ((0 : Nat) : Int) = 0 from rfl) (show ((0 : Nat) : Int) = 0 from rfl) (i3I (y := (201 + 20 * (Z14 2 0 0 (2010 + 16 * a1)))) (i3A (i3A (show (200 : Int32) = i3 200 from rfl) (i3M (show (20 : Int32) = i3 20 from rfl) (zm_rd (Z := Z14) (ν := ν) (k := 2) (show ((0 : Nat) : Int) = 0 from rfl) (show ((0 : Nat) : Int) = 0 from rfl) (i3I (y := (2010 + 16 * a1)) (i3A (i3A (show (2010 : Int32) = i3 2010 from rfl) (i3M (show (16 : Int32) = i3 16 from rfl) (rfl : i3 a1 = i3 a1))) (show (0 : Int32) = i3 0 from rfl)) (by omega) (by omega) (by omega))))) (show (1 : Int32) = i3 1 from rfl)) (by omega) (by omega) (by omega))))) (show (4 : Int32) = i3 4 from rfl)) (by omega) (by omega) (by omega)) ?_
                    have r44 := zM_k hZ14I 2 0 0 (113 + 5 * (Z14 2 0 0 (201 + 20 * (Z14 2 0 0 (2010 + 16 * a1))))) (lo := 0) (hi := 600) (by decide) (zs_110_3 (x := (Z14 2 0 0 (201 + 20 * (Z14 2 0 0 (2010 + 16 * a1))))) (by omega) (by omega) (by omega))
                    have r45 := zM_k hZ14I 2 0 0 (114 + 5 * (Z14 2 0 0 (201 + 20 * (Z14 2 0 0 (2010 + 16 * a1))))) (lo := 0) (hi := 99) (by decide) (zs_110_4 (x := (Z14 2 0 0 (201 + 20 * (Z14 2 0 0 (2010 + 16 * a1))))) (by omega) (by omega) (by omega))
                    have r46 := zM_k hZ14I 2 0 0 (207 + 20 * (Z14 2 0 0 (2010 + 16 * a1))) (lo := 0) (hi := 2000) (by decide) (zs_200_7 (x := (Z14 2 0 0 (2010 + 16 * a1))) (by omega) (by omega) (by omega))
                    refine wz_br (i3Le (i3S (zm_rd (Z := Z14) (ν := ν) (k := 2) (show ((0 : Nat) : Int) = 0 from rfl) (show ((0 : Nat) : Int) = 0 from rfl) (i3I (y := (113 + 5 * (Z14 2 0 0 (201 + 20 * (Z14 2 0 0 (2010 + 16 * a1)))))) (i3A (i3A (show (110 : Int32) = i3 110 from rfl) (i3M (show (5 : Int32) = i3 5 from rfl) (zm_rd (Z := Z14) (ν := ν) (k := 2) (show ((0 : Nat) : Int) = 0 from rfl) (show ((0 : Nat) : Int) = 0 from rfl) (i3I (y := (201 + 20 * (Z14 2 0 0 (2010 + 16 * a1)))) (i3A (i3A (show (200 : Int32) = i3 200 from rfl) (i3M (show (20 : Int32) = i3 20 from rfl) (zm_rd (Z := Z14) (ν := ν) (k := 2) (show ((0 : Nat) : Int) = 0 from rfl) (show ((0 : Nat) : Int) = 0 from rfl) (i3I (y := (2010 + 16 * a1)) (i3A (i3A (show (2010 : Int32) = i3 2010 from rfl) (i3M (show (16 : Int32) = i3 16 from rfl) (rfl : i3 a1 = i3 a1))) (show (0 : Int32) = i3 0 from rfl)) (by omega) (by omega) (by omega))))) (show (1 : Int32) = i3 1 from rfl)) (by omega) (by omega) (by omega))))) (show (3 : Int32) = i3 3 from rfl)) (by omega) (by omega) (by omega))) (zm_rd (Z := Z14) (ν := ν) (k := 2) (show ((0 : Nat) : Int) = 0 from rfl) (show ((0 : Nat) : Int) = 0 from rfl) (i3I (y := (114 + 5 * (Z14 2 0 0 (201 + 20 * (Z14 2 0 0 (2010 + 16 * a1)))))) (i3A (i3A (show (110 : Int32) = i3 110 from rfl) (i3M (show (5 : Int32) = i3 5 from rfl) (zm_rd (Z := Z14) (ν := ν) (k := 2) (show ((0 : Nat) : Int) = 0 from rfl) (show ((0 : Nat) : Int) = 0 from rfl) (i3I (y := (201 + 20 * (Z14 2 0 0 (2010 + 16 * a1)))) (i3A (i3A (show (200 : Int32) = i3 200 from rfl) (i3M (show (20 : Int32) = i3 20 from rfl) (zm_rd (Z := Z14) (ν := ν) (k := 2) (show ((0 : Nat) : Int) = 0 from rfl) (show ((0 : Nat) : Int) = 0 from rfl) (i3I (y := (2010 + 16 * a1)) (i3A (i3A (show (2010 : Int32) = i3 2010 from rfl) (i3M (show (16 : Int32) = i3 16 from rfl) (rfl : i3 a1 = i3 a1))) (show (0 : Int32) = i3 0 from rfl)) (by omega) (by omega) (by omega))))) (show (1 : Int32) = i3 1 from rfl)) (by omega) (by omega) (by omega))))) (show (4 : Int32) = i3 4 from rfl)) (by omega) (by omega) (by omega)))) (zm_rd (Z := Z14) (ν := ν) (k := 2) (show ((0 : Nat) : Int) = 0 from rfl) (show ((0 : Nat) : Int) = 0 from rfl) (i3I (y := (207 + 20 * (Z14 2 0 0 (2010 + 16 * a1)))) (i3A (i3A (show (200 : Int32) = i3 200 from rfl) (i3M (show (20 : Int32) = i3 20 from rfl) (zm_rd (Z := Z14) (ν := ν) (k := 2) (show ((0 : Nat) : Int) = 0 from rfl) (show ((0 : Nat) : Int) = 0 from rfl) (i3I (y := (2010 + 16 * a1)) (i3A (i3A (show (2010 : Int32) = i3 2010 from rfl) (i3M (show (16 : Int32) = i3 16 from rfl) (rfl : i3 a1 = i3 a1))) (show (0 : Int32) = i3 0 from rfl)) (by omega) (by omega) (by omega))))) (show (7 : Int32) = i3 7 from rfl)) (by omega) (by omega) (by omega))) (by omega) (by omega) (by omega) (by omega)) (fun h47 => ?_) (fun h47 => ?_)
                    · replace hP := zE_p hP h47
                      refine wz_br (i3L (i3A (zm_rd (Z := Z14) (ν := ν) (k := 2) (show ((0 : Nat) : Int) = 0 from rfl) (show ((0 : Nat) : Int) = 0 from rfl) (i3I (y := (113 + 5 * (Z14 2 0 0 (201 + 20 * (Z14 2 0 0 (2010 + 16 * a1)))))) (i3A (i3A (show (110 : Int32) = i3 110 from rfl) (i3M (show (5 : Int32) = i3 5 from rfl) (zm_rd (Z := Z14) (ν := ν) (k := 2) (show ((0 : Nat) : Int) = 0 from rfl) (show ((0 : Nat) : Int) = 0 from rfl) (i3I (y := (201 + 20 * (Z14 2 0 0 (2010 + 16 * a1)))) (i3A (i3A (show (200 : Int32) = i3 200 from rfl) (i3M (show (20 : Int32) = i3 20 from rfl) (zm_rd (Z := Z14) (ν := ν) (k := 2) (show ((0 : Nat) : Int) = 0 from rfl) (show ((0 : Nat) : Int) = 0 from rfl) (i3I (y := (2010 + 16 * a1)) (i3A (i3A (show (2010 : Int32) = i3 2010 from rfl) (i3M (show (16 : Int32) = i3 16 from rfl) (rfl : i3 a1 = i3 a1))) (show (0 : Int32) = i3 0 from rfl)) (by omega) (by omega) (by omega))))) (show (1 : Int32) = i3 1 from rfl)) (by omega) (by omega) (by omega))))) (show (3 : Int32) = i3 3 from rfl)) (by omega) (by omega) (by omega))) (zm_rd (Z := Z14) (ν := ν) (k := 2) (show ((0 : Nat) : Int) = 0 from rfl) (show ((0 : Nat) : Int) = 0 from rfl) (i3I (y := (114 + 5 * (Z14 2 0 0 (201 + 20 * (Z14 2 0 0 (2010 + 16 * a1)))))) (i3A (i3A (show (110 : Int32) = i3 110 from rfl) (i3M (show (5 : Int32) = i3 5 from rfl) (zm_rd (Z := Z14) (ν := ν) (k := 2) (show ((0 : Nat) : Int) = 0 from rfl) (show ((0 : Nat) : Int) = 0 from rfl) (i3I (y := (201 + 20 * (Z14 2 0 0 (2010 + 16 * a1)))) (i3A (i3A (show (200 : Int32) = i3 200 from rfl) (i3M (show (20 : Int32) = i3 20 from rfl) (zm_rd (Z := Z14) (ν := ν) (k := 2) (show ((0 : Nat) : Int) = 0 from rfl) (show ((0 : Nat) : Int) = 0 from rfl) (i3I (y := (2010 + 16 * a1)) (i3A (i3A (show (2010 : Int32) = i3 2010 from rfl) (i3M (show (16 : Int32) = i3 16 from rfl) (rfl : i3 a1 = i3 a1))) (show (0 : Int32) = i3 0 from rfl)) (by omega) (by omega) (by omega))))) (show (1 : Int32) = i3 1 from rfl)) (by omega) (by omega) (by omega))))) (show (4 : Int32) = i3 4 from rfl)) (by omega) (by omega) (by omega)))) (zm_rd (Z := Z14) (ν := ν) (k := 2) (show ((0 : Nat) : Int) = 0 from rfl) (show ((0 : Nat) : Int) = 0 from rfl) (i3I (y := (207 + 20 * (Z14 2 0 0 (2010 + 16 * a1)))) (i3A (i3A (show (200 : Int32) = i3 200 from rfl) (i3M (show (20 : Int32) = i3 20 from rfl) (zm_rd (Z := Z14) (ν := ν) (k := 2) (show ((0 : Nat) : Int) = 0 from rfl) (show ((0 : Nat) : Int) = 0 from rfl) (i3I (y := (2010 + 16 * a1)) (i3A (i3A (show (2010 : Int32) = i3 2010 from rfl) (i3M (show (16 : Int32) = i3 16 from rfl) (rfl : i3 a1 = i3 a1))) (show (0 : Int32) = i3 0 from rfl)) (by omega) (by omega) (by omega))))) (show (7 : Int32) = i3 7 from rfl)) (by omega) (by omega) (by omega))) (by omega) (by omega) (by omega) (by omega)) (fun h48 => ?_) (fun h48 => ?_)
                      · replace hP := zE_p hP h48
                        refine wz_br (i3L (i3A (zm_rd (Z := Z14) (ν := ν) (k := 2) (show ((0 : Nat) : Int) = 0 from rfl) (show ((0 : Nat) : Int) = 0 from rfl) (i3I (y := (113 + 5 * (Z14 2 0 0 (201 + 20 * (Z14 2 0 0 (2010 + 16 * a1)))))) (i3A (i3A (show (110 : Int32) = i3 110 from rfl) (i3M (show (5 : Int32) = i3 5 from rfl) (zm_rd (Z := Z14) (ν := ν) (k := 2) (show ((0 : Nat) : Int) = 0 from rfl) (show ((0 : Nat) : Int) = 0 from rfl) (i3I (y := (201 + 20 * (Z14 2 0 0 (2010 + 16 * a1)))) (i3A (i3A (show (200 : Int32) = i3 200 from rfl) (i3M (show (20 : Int32) = i3 20 from rfl) (zm_rd (Z := Z14) (ν := ν) (k := 2) (show ((0 : Nat) : Int) = 0 from rfl) (show ((0 : Nat) : Int) = 0 from rfl) (i3I (y := (2010 + 16 * a1)) (i3A (i3A (show (2010 : Int32) = i3 2010 from rfl) (i3M (show (16 : Int32) = i3 16 from rfl) (rfl : i3 a1 = i3 a1))) (show (0 : Int32) = i3 0 from rfl)) (by omega) (by omega) (by omega))))) (show (1 : Int32) = i3 1 from rfl)) (by omega) (by omega) (by omega))))) (show (3 : Int32) = i3 3 from rfl)) (by omega) (by omega) (by omega))) (i3M (show (3 : Int32) = i3 3 from rfl) (zm_rd (Z := Z14) (ν := ν) (k := 2) (show ((0 : Nat) : Int) = 0 from rfl) (show ((0 : Nat) : Int) = 0 from rfl) (i3I (y := (114 + 5 * (Z14 2 0 0 (201 + 20 * (Z14 2 0 0 (2010 + 16 * a1)))))) (i3A (i3A (show (110 : Int32) = i3 110 from rfl) (i3M (show (5 : Int32) = i3 5 from rfl) (zm_rd (Z := Z14) (ν := ν) (k := 2) (show ((0 : Nat) : Int) = 0 from rfl) (show ((0 : Nat) : Int) = 0 from rfl) (i3I (y := (201 + 20 * (Z14 2 0 0 (2010 + 16 * a1)))) (i3A (i3A (show (200 : Int32) = i3 200 from rfl) (i3M (show (20 : Int32) = i3 20 from rfl) (zm_rd (Z := Z14) (ν := ν) (k := 2) (show ((0 : Nat) : Int) = 0 from rfl) (show ((0 : Nat) : Int) = 0 from rfl) (i3I (y := (2010 + 16 * a1)) (i3A (i3A (show (2010 : Int32) = i3 2010 from rfl) (i3M (show (16 : Int32) = i3 16 from rfl) (rfl : i3 a1 = i3 a1))) (show (0 : Int32) = i3 0 from rfl)) (by omega) (by omega) (by omega))))) (show (1 : Int32) = i3 1 from rfl)) (by omega) (by omega) (by omega))))) (show (4 : Int32) = i3 4 from rfl)) (by omega) (by omega) (by omega))))) (zm_rd (Z := Z14) (ν := ν) (k := 2) (show ((0 : Nat) : Int) = 0 from rfl) (show ((0 : Nat) : Int) = 0 from rfl) (i3I (y := (207 + 20 * (Z14 2 0 0 (2010 + 16 * a1)))) (i3A (i3A (show (200 : Int32) = i3 200 from rfl) (i3M (show (20 : Int32) = i3 20 from rfl) (zm_rd (Z := Z14) (ν := ν) (k := 2) (show ((0 : Nat) : Int) = 0 from rfl) (show ((0 : Nat) : Int) = 0 from rfl) (i3I (y := (2010 + 16 * a1)) (i3A (i3A (show (2010 : Int32) = i3 2010 from rfl) (i3M (show (16 : Int32) = i3 16 from rfl) (rfl : i3 a1 = i3 a1))) (show (0 : Int32) = i3 0 from rfl)) (by omega) (by omega) (by omega))))) (show (7 : Int32) = i3 7 from rfl)) (by omega) (by omega) (by omega))) (by omega) (by omega) (by omega) (by omega)) (fun h49 => ?_) (fun h49 => ?_)
                        · replace hP := zE_p hP h49
                          exact zlY hP (show (3 : Int32) = i3 3 from rfl) (.inl rfl) ⟨hZ14I, hZ14K, hZ14U⟩
                        · replace hP := zE_n hP h49
                          exact zlY hP (show (2 : Int32) = i3 2 from rfl) (.inl rfl) ⟨hZ14I, hZ14K, hZ14U⟩
                      · replace hP := zE_n hP h48
                        exact zlY hP (show (1 : Int32) = i3 1 from rfl) (.inl rfl) ⟨hZ14I, hZ14K, hZ14U⟩
                    · replace hP := zE_n hP h47
                      exact zlY hP (show (0 : Int32) = i3 0 from rfl) (.inl rfl) ⟨hZ14I, hZ14K, hZ14U⟩
                · replace hP := zE_n hP h31
                  refine wz_br (i3T (rfl : i3 a2 = i3 a2) (by omega) (by omega)) (fun h50 => ?_) (fun h50 => ?_)
                  · replace hP := zE_p hP h50
                    refine wz_i0 (i3O (n := 4400) (i3A (i3A (show (2010 : Int32) = i3 2010 from rfl) (i3M (show (16 : Int32) = i3 16 from rfl) (rfl : i3 a1 = i3 a1))) (i3S (rfl : i3 a2 = i3 a2) (show (1 : Int32) = i3 1 from rfl))) (by omega) (by omega) (by omega)) ?_
                    have r51 := zM_f hZ14I 2 0 0 (2009 + 16 * a1 + a2)
                    exact zlY hP (zm_rd (Z := Z14) (ν := ν) (k := 2) (show ((0 : Nat) : Int) = 0 from rfl) (show ((0 : Nat) : Int) = 0 from rfl) (i3I (y := (2009 + 16 * a1 + a2)) (i3A (i3A (show (2010 : Int32) = i3 2010 from rfl) (i3M (show (16 : Int32) = i3 16 from rfl) (rfl : i3 a1 = i3 a1))) (i3S (rfl : i3 a2 = i3 a2) (show (1 : Int32) = i3 1 from rfl))) (by omega) (by omega) (by omega))) (.inl rfl) ⟨hZ14I, hZ14K, hZ14U⟩
                  · replace hP := zE_n hP h50
                    refine wz_br (i3T (rfl : i3 a2 = i3 a2) (by omega) (by omega)) (fun h52 => ?_) (fun h52 => ?_)
                    · replace hP := zE_p hP h52
                      refine wz_i0 (i3O (n := 4400) (i3A (i3A (show (2010 : Int32) = i3 2010 from rfl) (i3M (show (16 : Int32) = i3 16 from rfl) (rfl : i3 a1 = i3 a1))) (i3S (rfl : i3 a2 = i3 a2) (show (1 : Int32) = i3 1 from rfl))) (by omega) (by omega) (by omega)) ?_
                      have r53 := zM_f hZ14I 2 0 0 (2009 + 16 * a1 + a2)
                      exact zlY hP (zm_rd (Z := Z14) (ν := ν) (k := 2) (show ((0 : Nat) : Int) = 0 from rfl) (show ((0 : Nat) : Int) = 0 from rfl) (i3I (y := (2009 + 16 * a1 + a2)) (i3A (i3A (show (2010 : Int32) = i3 2010 from rfl) (i3M (show (16 : Int32) = i3 16 from rfl) (rfl : i3 a1 = i3 a1))) (i3S (rfl : i3 a2 = i3 a2) (show (1 : Int32) = i3 1 from rfl))) (by omega) (by omega) (by omega))) (.inl rfl) ⟨hZ14I, hZ14K, hZ14U⟩
                    · replace hP := zE_n hP h52
                      refine wz_br (i3T (rfl : i3 a2 = i3 a2) (by omega) (by omega)) (fun h54 => ?_) (fun h54 => ?_)
                      · replace hP := zE_p hP h54
                        refine wz_i0 (i3O (n := 4400) (i3A (i3A (show (2010 : Int32) = i3 2010 from rfl) (i3M (show (16 : Int32) = i3 16 from rfl) (rfl : i3 a1 = i3 a1))) (i3S (rfl : i3 a2 = i3 a2) (show (1 : Int32) = i3 1 from rfl))) (by omega) (by omega) (by omega)) ?_
                        have r55 := zM_f hZ14I 2 0 0 (2009 + 16 * a1 + a2)
                        exact zlY hP (zm_rd (Z := Z14) (ν := ν) (k := 2) (show ((0 : Nat) : Int) = 0 from rfl) (show ((0 : Nat) : Int) = 0 from rfl) (i3I (y := (2009 + 16 * a1 + a2)) (i3A (i3A (show (2010 : Int32) = i3 2010 from rfl) (i3M (show (16 : Int32) = i3 16 from rfl) (rfl : i3 a1 = i3 a1))) (i3S (rfl : i3 a2 = i3 a2) (show (1 : Int32) = i3 1 from rfl))) (by omega) (by omega) (by omega))) (.inl rfl) ⟨hZ14I, hZ14K, hZ14U⟩
                      · replace hP := zE_n hP h54
                        refine wz_br (i3T (rfl : i3 a2 = i3 a2) (by omega) (by omega)) (fun h56 => ?_) (fun h56 => ?_)
                        · replace hP := zE_p hP h56
                          refine wz_i0 (i3O (n := 4400) (i3A (show (40 : Int32) = i3 40 from rfl) (rfl : i3 a1 = i3 a1)) (by omega) (by omega) (by omega)) ?_
                          have r57 := zM_k hZ14I 2 0 0 (40 + a1) (lo := -1) (hi := 671) (by decide) (zs_40 (by omega) (by omega))
                          exact zlY hP (zm_rd (Z := Z14) (ν := ν) (k := 2) (show ((0 : Nat) : Int) = 0 from rfl) (show ((0 : Nat) : Int) = 0 from rfl) (i3I (y := (40 + a1)) (i3A (show (40 : Int32) = i3 40 from rfl) (rfl : i3 a1 = i3 a1)) (by omega) (by omega) (by omega))) (.inl rfl) ⟨hZ14I, hZ14K, hZ14U⟩
                        · replace hP := zE_n hP h56
                          refine wz_br (i3T (rfl : i3 a2 = i3 a2) (by omega) (by omega)) (fun h58 => ?_) (fun h58 => ?_)
                          · replace hP := zE_p hP h58
                            refine wz_i0 (i3O (n := 4400) (i3A (i3A (show (2010 : Int32) = i3 2010 from rfl) (i3M (show (16 : Int32) = i3 16 from rfl) (rfl : i3 a1 = i3 a1))) (show (3 : Int32) = i3 3 from rfl)) (by omega) (by omega) (by omega)) ?_
                            refine wz_i0 (i3O (n := 4400) (i3A (i3A (show (2010 : Int32) = i3 2010 from rfl) (i3M (show (16 : Int32) = i3 16 from rfl) (rfl : i3 a1 = i3 a1))) (show (5 : Int32) = i3 5 from rfl)) (by omega) (by omega) (by omega)) ?_
                            have r59 := zM_k hZ14I 2 0 0 (2013 + 16 * a1) (lo := 0) (hi := 40) (by decide) (zs_2010_3 (x := a1) (by omega) (by omega) (by omega))
                            have r60 := zM_cr hZ14I a1
                            have r61 := zM_k hZ14I 2 0 0 2000 (lo := 0) (hi := 60) (by decide) rfl
                            have q62 := (zu_ne (k' := 2) (b' := 0) (i' := 0) (j' := 2000) hZ14 (fun q => absurd q.1 (by decide))).trans (zu_ne (k' := 2) (b' := 0) (i' := 0) (j' := 2000) hZ9 (fun q => absurd q.1 (by decide)))
                            have r63 := zM_k hZ14I 2 0 0 (2015 + 16 * a1) (lo := 0) (hi := 9999) (by decide) (zs_2010_5 (x := a1) (by omega) (by omega) (by omega))
                            have r64 := z_mul (x := (Z14 2 0 0 (2013 + 16 * a1))) (y := (Z14 2 0 0 (2015 + 16 * a1))) (a := 40) (b := 9999) (by omega) (by omega) (by omega) (by omega)
                            exact zlY hP (i3M (zm_rd (Z := Z14) (ν := ν) (k := 2) (show ((0 : Nat) : Int) = 0 from rfl) (show ((0 : Nat) : Int) = 0 from rfl) (i3I (y := (2013 + 16 * a1)) (i3A (i3A (show (2010 : Int32) = i3 2010 from rfl) (i3M (show (16 : Int32) = i3 16 from rfl) (rfl : i3 a1 = i3 a1))) (show (3 : Int32) = i3 3 from rfl)) (by omega) (by omega) (by omega))) (zm_rd (Z := Z14) (ν := ν) (k := 2) (show ((0 : Nat) : Int) = 0 from rfl) (show ((0 : Nat) : Int) = 0 from rfl) (i3I (y := (2015 + 16 * a1)) (i3A (i3A (show (2010 : Int32) = i3 2010 from rfl) (i3M (show (16 : Int32) = i3 16 from rfl) (rfl : i3 a1 = i3 a1))) (show (5 : Int32) = i3 5 from rfl)) (by omega) (by omega) (by omega)))) (.inl rfl) ⟨hZ14I, hZ14K, hZ14U⟩
                          · replace hP := zE_n hP h58
                            refine wz_br (i3T (rfl : i3 a2 = i3 a2) (by omega) (by omega)) (fun h65 => ?_) (fun h65 => ?_)
                            · replace hP := zE_p hP h65
                              refine wz_i0 (i3O (n := 4400) (i3A (show (1810 : Int32) = i3 1810 from rfl) (i3M (show (2 : Int32) = i3 2 from rfl) (rfl : i3 a1 = i3 a1))) (by omega) (by omega) (by omega)) ?_
                              have r66 := zM_f hZ14I 2 0 0 (1810 + 2 * a1)
                              exact zlY hP (zm_rd (Z := Z14) (ν := ν) (k := 2) (show ((0 : Nat) : Int) = 0 from rfl) (show ((0 : Nat) : Int) = 0 from rfl) (i3I (y := (1810 + 2 * a1)) (i3A (show (1810 : Int32) = i3 1810 from rfl) (i3M (show (2 : Int32) = i3 2 from rfl) (rfl : i3 a1 = i3 a1))) (by omega) (by omega) (by omega))) (.inl rfl) ⟨hZ14I, hZ14K, hZ14U⟩
                            · replace hP := zE_n hP h65
                              refine wz_i1 (Eq.trans (i3T (rfl : i3 a2 = i3 a2) (by omega) (by omega)) (decide_eq_true (by omega))) ?_
                              refine wz_i0 (i3O (n := 4400) (i3A (i3A (show (1810 : Int32) = i3 1810 from rfl) (i3M (show (2 : Int32) = i3 2 from rfl) (rfl : i3 a1 = i3 a1))) (show (1 : Int32) = i3 1 from rfl)) (by omega) (by omega) (by omega)) ?_
                              have r67 := zM_k hZ14I 2 0 0 (1811 + 2 * a1) (lo := 0) (hi := 41) (by decide) (zs_1810_1 (x := a1) (by omega) (by omega) (by omega))
                              exact zlY hP (zm_rd (Z := Z14) (ν := ν) (k := 2) (show ((0 : Nat) : Int) = 0 from rfl) (show ((0 : Nat) : Int) = 0 from rfl) (i3I (y := (1811 + 2 * a1)) (i3A (i3A (show (1810 : Int32) = i3 1810 from rfl) (i3M (show (2 : Int32) = i3 2 from rfl) (rfl : i3 a1 = i3 a1))) (show (1 : Int32) = i3 1 from rfl)) (by omega) (by omega) (by omega))) (.inl rfl) ⟨hZ14I, hZ14K, hZ14U⟩
