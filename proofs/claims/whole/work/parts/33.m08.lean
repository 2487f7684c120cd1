/- yX12_truck -/
def zy_539 (Z : qz_Z) (dm : qz_Z → Int → Int → Int → Int → Int → Int → Int → qz_Z) (a1 : Int) (a2 : Int) : qz_Z × Int := (if a1 < 10 then (zlet (zu Z 1 0 0 2 1) (fun Z5 => (Z5, 0))) else (if 99 < a1 then (zlet (zu Z 1 0 0 2 1) (fun Z7 => (Z7, 0))) else (if a2 < 0 then (zlet (zu Z 1 0 0 2 1) (fun Z9 => (Z9, 0))) else (if 40 < a2 then (zlet (zu Z 1 0 0 2 1) (fun Z11 => (Z11, 0))) else (zlet (zu Z 1 0 0 2 0) (fun Z12 => (if 4 ≤ (Z12 2 0 0 3200) then (zlet (zu Z12 1 0 0 2 2) (fun Z15 => (Z15, 0))) else (zlet (zu Z12 1 0 0 2 0) (fun Z16 => (zlet (dm Z16 20 a1 a2 0 0 0 0) (fun Z23 => (zlet (zu Z23 2 0 0 (3250 + 24 * (Z23 2 0 0 3200)) a1) (fun Z26 => (zlet (zu Z26 2 0 0 (3251 + 24 * (Z23 2 0 0 3200)) a2) (fun Z27 => (zlet (zu Z27 2 0 0 (3253 + 24 * (Z23 2 0 0 3200)) (-1)) (fun Z28 => (zlet (zu Z28 2 0 0 (3254 + 24 * (Z23 2 0 0 3200)) (-1)) (fun Z29 => (zlet (zu Z29 2 0 0 3200 ((Z29 2 0 0 3200) + 1)) (fun Z32 => (Z32, (Z23 2 0 0 3200)))))))))))))))))))))))
theorem sy_539 {s : zSM} {Z : qz_Z} {ν : qz_N} (hZ : zM s Z) (gq : Z 1 0 0 35 = 0) (hM : s.2 + 0 ≤ 1000000000) {a1 : Int} (ga1 : -2147483648 ≤ a1 ∧ a1 ≤ 2147483647) {a2 : Int} (ga2 : -2147483648 ≤ a2 ∧ a2 ≤ 2147483647) {dk : qz_Z → qz_Z} {dm : qz_Z → Int → Int → Int → Int → Int → Int → Int → qz_Z} {ν1 : qz_N} (hdm : zDm s ν ν1 Z dk dm) : ∃ (Z1 : qz_Z) (ν2 : qz_N) (v : Int), (Z1, v) = zy_539 Z dm a1 a2 ∧ (ν2 = ν ∨ ν2 = ν1) ∧ qf_539 [.inr (.inr (some (1, 0, 0))), .inl (i3 a1), .inl (i3 a2)] (zm Z ν) = some (zm Z1 ν2, .inl (some (.inl (i3 v)))) ∧ (fun Z1 => zM s Z1 ∧ zC [1, 2, 101, 102, 200] Z Z1 ∧ zU [] Z Z1) Z1 := by
  obtain ⟨P, hP⟩ := zx (zy_539 Z dm a1 a2)
  refine zc_Y (Q := fun Z1 => zM s Z1 ∧ zC [1, 2, 101, 102, 200] Z Z1 ∧ zU [] Z Z1) hP (fw_539 (i3 a1) (i3 a2) _ _ ?_)
  replace hP : zE P (zy_539 Z dm a1 a2) := hP
  unfold zy_539 at hP
  have r1 := zM_k hZ 1 0 0 35 (lo := 0) (hi := 1) (by decide) rfl
  have r2 := zM_k hZ 1 0 0 34 (lo := 0) (hi := 8) (by decide) rfl
  have r3 := zM_f hZ 1 0 0 37
  refine wz_br (i3L (rfl : i3 a1 = i3 a1) (show (10 : Int32) = i3 10 from rfl) (by omega) (by omega) (by omega) (by omega)) (fun h4 => ?_) (fun h4 => ?_)
  · replace hP := zE_p hP h4
    obtain ⟨Z5, hZ5⟩ := zx (zu Z 1 0 0 2 1)
    replace hP := zl_e hP hZ5
    have hZ5I := zM_u hZ hZ5 (lo := -2147483648) (hi := 2147483647) (by decide) rfl (by omega) ⟨by decide, by decide⟩ (Or.inr (by decide)) rfl
    have hZ5U : zU [] Z Z5 := zU_u zU_r hZ5 (Or.inl rfl)
    have hZ5K : zC [1, 2, 101, 102, 200] Z Z5 := zC_u zC_r hZ5 (by decide)
    intro μ9 e9
    replace e9 := e9.trans (zm_wI (Z := Z) (ν := ν) hZ5 (show ((0 : Nat) : Int) = 0 from rfl) (show ((0 : Nat) : Int) = 0 from rfl) (show ((2 : Nat) : Int) = 2 from rfl) (show (1 : Int32) = i3 1 from rfl))
    subst e9
    exact zlY hP (show (0 : Int32) = i3 0 from rfl) (.inl rfl) ⟨hZ5I, hZ5K, hZ5U⟩
  · replace hP := zE_n hP h4
    refine wz_br (i3L (show (99 : Int32) = i3 99 from rfl) (rfl : i3 a1 = i3 a1) (by omega) (by omega) (by omega) (by omega)) (fun h6 => ?_) (fun h6 => ?_)
    · replace hP := zE_p hP h6
      obtain ⟨Z7, hZ7⟩ := zx (zu Z 1 0 0 2 1)
      replace hP := zl_e hP hZ7
      have hZ7I := zM_u hZ hZ7 (lo := -2147483648) (hi := 2147483647) (by decide) rfl (by omega) ⟨by decide, by decide⟩ (Or.inr (by decide)) rfl
      have hZ7U : zU [] Z Z7 := zU_u zU_r hZ7 (Or.inl rfl)
      have hZ7K : zC [1, 2, 101, 102, 200] Z Z7 := zC_u zC_r hZ7 (by decide)
      intro μ9 e9
      replace e9 := e9.trans (zm_wI (Z := Z) (ν := ν) hZ7 (show ((0 : Nat) : Int) = 0 from rfl) (show ((0 : Nat) : Int) = 0 from rfl) (show ((2 : Nat) : Int) = 2 from rfl) (show (1 : Int32) = i3 1 from rfl))
      subst e9
      exact zlY hP (show (0 : Int32) = i3 0 from rfl) (.inl rfl) ⟨hZ7I, hZ7K, hZ7U⟩
    · replace hP := zE_n hP h6
      refine wz_br (i3L (rfl : i3 a2 = i3 a2) (show (0 : Int32) = i3 0 from rfl) (by omega) (by omega) (by omega) (by omega)) (fun h8 => ?_) (fun h8 => ?_)
      · replace hP := zE_p hP h8
        obtain ⟨Z9, hZ9⟩ := zx (zu Z 1 0 0 2 1)
        replace hP := zl_e hP hZ9
        have hZ9I := zM_u hZ hZ9 (lo := -2147483648) (hi := 2147483647) (by decide) rfl (by omega) ⟨by decide, by decide⟩ (Or.inr (by decide)) rfl
        have hZ9U : zU [] Z Z9 := zU_u zU_r hZ9 (Or.inl rfl)
        have hZ9K : zC [1, 2, 101, 102, 200] Z Z9 := zC_u zC_r hZ9 (by decide)
        intro μ9 e9
        replace e9 := e9.trans (zm_wI (Z := Z) (ν := ν) hZ9 (show ((0 : Nat) : Int) = 0 from rfl) (show ((0 : Nat) : Int) = 0 from rfl) (show ((2 : Nat) : Int) = 2 from rfl) (show (1 : Int32) = i3 1 from rfl))
        subst e9
        exact zlY hP (show (0 : Int32) = i3 0 from rfl) (.inl rfl) ⟨hZ9I, hZ9K, hZ9U⟩
      · replace hP := zE_n hP h8
        refine wz_br (i3L (show (40 : Int32) = i3 40 from rfl) (rfl : i3 a2 = i3 a2) (by omega) (by omega) (by omega) (by omega)) (fun h10 => ?_) (fun h10 => ?_)
        · replace hP := zE_p hP h10
          obtain ⟨Z11, hZ11⟩ := zx (zu Z 1 0 0 2 1)
          replace hP := zl_e hP hZ11
          have hZ11I := zM_u hZ hZ11 (lo := -2147483648) (hi := 2147483647) (by decide) rfl (by omega) ⟨by decide, by decide⟩ (Or.inr (by decide)) rfl
          have hZ11U : zU [] Z Z11 := zU_u zU_r hZ11 (Or.inl rfl)
          have hZ11K : zC [1, 2, 101, 102, 200] Z Z11 := zC_u zC_r hZ11 (by decide)
          intro μ9 e9
          replace e9 := e9.trans (zm_wI (Z := Z) (ν := ν) hZ11 (show ((0 : Nat) : Int) = 0 from rfl) (show ((0 : Nat) : Int) = 0 from rfl) (show ((2 : Nat) : Int) = 2 from rfl) (show (1 : Int32) = i3 1 from rfl))
          subst e9
          exact zlY hP (show (0 : Int32) = i3 0 from rfl) (.inl rfl) ⟨hZ11I, hZ11K, hZ11U⟩
        · replace hP := zE_n hP h10
          obtain ⟨Z12, hZ12⟩ := zx (zu Z 1 0 0 2 0)
          replace hP := zl_e hP hZ12
          have hZ12I := zM_0 hZ hZ12 (by decide) (Or.inr (by decide))
          have hZ12U : zU [] Z Z12 := zU_u zU_r hZ12 (Or.inl rfl)
          have hZ12K : zC [1, 2, 101, 102, 200] Z Z12 := zC_u zC_r hZ12 (by decide)
          intro μ9 e9
          replace e9 := e9.trans (zm_wI (Z := Z) (ν := ν) hZ12 (show ((0 : Nat) : Int) = 0 from rfl) (show ((0 : Nat) : Int) = 0 from rfl) (show ((2 : Nat) : Int) = 2 from rfl) (show (0 : Int32) = i3 0 from rfl))
          subst e9
          have r13 := zM_k hZ12I 2 0 0 3200 (lo := 0) (hi := 4) (by decide) rfl
          refine wz_br (i3Le (show (4 : Int32) = i3 4 from rfl) (zm_rd (Z := Z12) (ν := ν) (k := 2) (show ((0 : Nat) : Int) = 0 from rfl) (show ((0 : Nat) : Int) = 0 from rfl) (show ((3200 : Nat) : Int) = 3200 from rfl)) (by omega) (by omega) (by omega) (by omega)) (fun h14 => ?_) (fun h14 => ?_)
          · replace hP := zE_p hP h14
            obtain ⟨Z15, hZ15⟩ := zx (zu Z12 1 0 0 2 2)
            replace hP := zl_e hP hZ15
            have hZ15I := zM_u hZ12I hZ15 (lo := -2147483648) (hi := 2147483647) (by decide) rfl (by omega) ⟨by decide, by decide⟩ (Or.inr (by decide)) rfl
            have hZ15U : zU [] Z Z15 := zU_u hZ12U hZ15 (Or.inl rfl)
            have hZ15K : zC [1, 2, 101, 102, 200] Z Z15 := zC_u hZ12K hZ15 (by decide)
            intro μ9 e9
            replace e9 := e9.trans (zm_wI (Z := Z12) (ν := ν) hZ15 (show ((0 : Nat) : Int) = 0 from rfl) (show ((0 : Nat) : Int) = 0 from rfl) (show ((2 : Nat) : Int) = 2 from rfl) (show (2 : Int32) = i3 2 from rfl))
            subst e9
            exact zlY hP (show (0 : Int32) = i3 0 from rfl) (.inl rfl) ⟨hZ15I, hZ15K, hZ15U⟩
          · replace hP := zE_n hP h14
            obtain ⟨Z16, hZ16⟩ := zx (zu Z12 1 0 0 2 0)
            replace hP := zl_e hP hZ16
            have hZ16I := zM_0 hZ12I hZ16 (by decide) (Or.inr (by decide))
            have hZ16U : zU [] Z Z16 := zU_u hZ12U hZ16 (Or.inl rfl)
            have hZ16K : zC [1, 2, 101, 102, 200] Z Z16 := zC_u hZ12K hZ16 (by decide)
            intro μ9 e9
            replace e9 := e9.trans (zm_wI (Z := Z12) (ν := ν) hZ16 (show ((0 : Nat) : Int) = 0 from rfl) (show ((0 : Nat) : Int) = 0 from rfl) (show ((2 : Nat) : Int) = 2 from rfl) (show (0 : Int32) = i3 0 from rfl))
            subst e9
            have r17 := zM_k hZ16I 1 0 0 35 (lo := 0) (hi := 1) (by decide) rfl
            have q18 := (zu_ne (k' := 1) (b' := 0) (i' := 0) (j' := 35) hZ16 (fun q => absurd q.2.2.2 (by decide))).trans (zu_ne (k' := 1) (b' := 0) (i' := 0) (j' := 35) hZ12 (fun q => absurd q.2.2.2 (by decide)))
            refine wz_i0 (Eq.trans (i3NE (zm_rd (Z := Z16) (ν := ν) (k := 1) (show ((0 : Nat) : Int) = 0 from rfl) (show ((0 : Nat) : Int) = 0 from rfl) (show ((35 : Nat) : Int) = 35 from rfl)) (show (0 : Int32) = i3 0 from rfl) (by omega) (by omega) (by omega) (by omega)) (decide_eq_false (by omega))) ?_
            have r19 := zM_k hZ16I 1 0 0 34 (lo := 0) (hi := 8) (by decide) rfl
            have q20 := (zu_ne (k' := 1) (b' := 0) (i' := 0) (j' := 34) hZ16 (fun q => absurd q.2.2.2 (by decide))).trans (zu_ne (k' := 1) (b' := 0) (i' := 0) (j' := 34) hZ12 (fun q => absurd q.2.2.2 (by decide)))
            have r21 := zM_f hZ16I 1 0 0 37
            have q22 := (zu_ne (k' := 1) (b' := 0) (i' := 0) (j' := 37) hZ16 (fun q => absurd q.2.2.2 (by decide))).trans (zu_ne (k' := 1) (b' := 0) (i' := 0) (j' := 37) hZ12 (fun q => absurd q.2.2.2 (by decide)))
            obtain ⟨c8, c9, hZ23I, dZ23⟩ := hdm Z16 20 a1 a2 0 0 0 0 hZ16I (by omega) (by omega) (by omega) (by omega) (by omega) (by omega) (by omega) (by omega) (by omega) (by omega)
            obtain ⟨Z23, hZ23⟩ := zx (dm Z16 20 a1 a2 0 0 0 0)
            rw [← hZ23] at c9 hZ23I dZ23
            replace hP := zl_e hP hZ23
            refine wz_cV_of (zas (zcons rfl (zcons (zvi (show (-1 : Int32) = i3 (-1) from rfl)) rfl)) c8) ?_
            refine wz_cV_of (zas (zcons rfl (zcons (zvi (show (20 : Int32) = i3 20 from rfl)) (zcons (zvi (rfl : i3 a1 = i3 a1)) (zcons (zvi (rfl : i3 a2 = i3 a2)) (zcons (zvi (show (0 : Int32) = i3 0 from rfl)) (zcons (zvi (show (0 : Int32) = i3 0 from rfl)) (zcons (zvi (show (0 : Int32) = i3 0 from rfl)) (zcons (zvi (show (0 : Int32) = i3 0 from rfl)) rfl)))))))) c9) ?_
            clear c8 c9
            have hZ23K : zC [1, 2, 101, 102, 200] Z Z23 := zC_t hZ16K (zMd_C dZ23) (by decide)
            have hZ23U : zU [] Z Z23 := zU_t hZ16U (zMd_U dZ23) zU_b0
            have r24 := zM_k hZ23I 2 0 0 3200 (lo := 0) (hi := 4) (by decide) rfl
            have q25 := (dZ23 2 0 0 3200 (by simp)).trans (zu_ne (k' := 2) (b' := 0) (i' := 0) (j' := 3200) hZ16 (fun q => absurd q.1 (by decide)))
            refine wz_i0 (i3O (n := 4400) (i3A (i3A (show (3250 : Int32) = i3 3250 from rfl) (i3M (show (24 : Int32) = i3 24 from rfl) (zm_rd (Z := Z23) (ν := ν1) (k := 2) (show ((0 : Nat) : Int) = 0 from rfl) (show ((0 : Nat) : Int) = 0 from rfl) (show ((3200 : Nat) : Int) = 3200 from rfl)))) (show (0 : Int32) = i3 0 from rfl)) (by omega) (by omega) (by omega)) ?_
            obtain ⟨Z26, hZ26⟩ := zx (zu Z23 2 0 0 (3250 + 24 * (Z23 2 0 0 3200)) a1)
            replace hP := zl_e hP hZ26
            have hZ26I := zM_u2 hZ23I hZ26 (lo := 0) (hi := 99) (zs_3250_0 (x := (Z23 2 0 0 3200)) (by omega) (by omega) (by omega)) (by omega) ⟨by decide, by decide⟩ (by simp only [zsp]; omega)
            have hZ26U : zU [] Z Z26 := zU_u hZ23U hZ26 (Or.inl rfl)
            have hZ26K : zC [1, 2, 101, 102, 200] Z Z26 := zC_u hZ23K hZ26 (zcl_2w (by omega) rfl)
            intro μ9 e9
            replace e9 := e9.trans (zm_wI (Z := Z23) (ν := ν1) hZ26 (show ((0 : Nat) : Int) = 0 from rfl) (show ((0 : Nat) : Int) = 0 from rfl) (i3I (y := (3250 + 24 * (Z23 2 0 0 3200))) (i3A (i3A (show (3250 : Int32) = i3 3250 from rfl) (i3M (show (24 : Int32) = i3 24 from rfl) (zm_rd (Z := Z23) (ν := ν1) (k := 2) (show ((0 : Nat) : Int) = 0 from rfl) (show ((0 : Nat) : Int) = 0 from rfl) (show ((3200 : Nat) : Int) = 3200 from rfl)))) (show (0 : Int32) = i3 0 from rfl)) (by omega) (by omega) (by omega)) (rfl : i3 a1 = i3 a1))
            subst e9
            refine wz_i0 (i3O (n := 4400) (i3A (i3A (show (3250 : Int32) = i3 3250 from rfl) (i3M (show (24 : Int32) = i3 24 from rfl) (zm_rd (Z := Z23) (ν := ν1) (k := 2) (show ((0 : Nat) : Int) = 0 from rfl) (show ((0 : Nat) : Int) = 0 from rfl) (show ((3200 : Nat) : Int) = 3200 from rfl)))) (show (1 : Int32) = i3 1 from rfl)) (by omega) (by omega) (by omega)) ?_
            obtain ⟨Z27, hZ27⟩ := zx (zu Z26 2 0 0 (3251 + 24 * (Z23 2 0 0 3200)) a2)
            replace hP := zl_e hP hZ27
            have hZ27I := zM_u2 hZ26I hZ27 (lo := 0) (hi := 40) (zs_3250_1 (x := (Z23 2 0 0 3200)) (by omega) (by omega) (by omega)) (by omega) ⟨by decide, by decide⟩ (by simp only [zsp]; omega)
            have hZ27U : zU [] Z Z27 := zU_u hZ26U hZ27 (Or.inl rfl)
            have hZ27K : zC [1, 2, 101, 102, 200] Z Z27 := zC_u hZ26K hZ27 (zcl_2w (by omega) rfl)
            intro μ9 e9
            replace e9 := e9.trans (zm_wI (Z := Z26) (ν := ν1) hZ27 (show ((0 : Nat) : Int) = 0 from rfl) (show ((0 : Nat) : Int) = 0 from rfl) (i3I (y := (3251 + 24 * (Z23 2 0 0 3200))) (i3A (i3A (show (3250 : Int32) = i3 3250 from rfl) (i3M (show (24 : Int32) = i3 24 from rfl) (zm_rd (Z := Z23) (ν := ν1) (k := 2) (show ((0 : Nat) : Int) = 0 from rfl) (show ((0 : Nat) : Int) = 0 from rfl) (show ((3200 : Nat) : Int) = 3200 from rfl)))) (show (1 : Int32) = i3 1 from rfl)) (by omega) (by omega) (by omega)) (rfl : i3 a2 = i3 a2))
            subst e9
            refine wz_i0 (i3O (n := 4400) (i3A (i3A (show (3250 : Int32) = i3 3250 from rfl) (i3M (show (24 : Int32) = i3 24 from rfl) (zm_rd (Z := Z23) (ν := ν1) (k := 2) (show ((0 : Nat) : Int) = 0 from rfl) (show ((0 : Nat) : Int) = 0 from rfl) (show ((3200 : Nat) : Int) = 3200 from rfl)))) (show (3 : Int32) = i3 3 from rfl)) (by omega) (by omega) (by omega)) ?_
            obtain ⟨Z28, hZ28⟩ := zx (zu Z27 2 0 0 (3253 + 24 * (Z23 2 0 0 3200)) (-1))
            replace hP := zl_e hP hZ28
            have hZ28I := zM_u2 hZ27I hZ28 (lo := -1) (hi := 671) (zs_3250_3 (x := (Z23 2 0 0 3200)) (by omega) (by omega) (by omega)) (by omega) ⟨by decide, by decide⟩ (by simp only [zsp]; omega)
            have hZ28U : zU [] Z Z28 := zU_u hZ27U hZ28 (Or.inl rfl)
            have hZ28K : zC [1, 2, 101, 102, 200] Z Z28 := zC_u hZ27K hZ28 (zcl_2w (by omega) rfl)
            intro μ9 e9
            replace e9 := e9.trans (zm_wI (Z := Z27) (ν := ν1) hZ28 (show ((0 : Nat) : Int) = 0 from rfl) (show ((0 : Nat) : Int) = 0 from rfl) (i3I (y := (3253 + 24 * (Z23 2 0 0 3200))) (i3A (i3A (show (3250 : Int32) = i3 3250 from rfl) (i3M (show (24 : Int32) = i3 24 from rfl) (zm_rd (Z := Z23) (ν := ν1) (k := 2) (show ((0 : Nat) : Int) = 0 from rfl) (show ((0 : Nat) : Int) = 0 from rfl) (show ((3200 : Nat) : Int) = 3200 from rfl)))) (show (3 : Int32) = i3 3 from rfl)) (by omega) (by omega) (by omega)) (show (-1 : Int32) = i3 (-1) from rfl))
            subst e9
            refine wz_i0 (i3O (n := 4400) (i3A (i3A (show (3250 : Int32) = i3 3250 from rfl) (i3M (show (24 : Int32) = i3 24 from rfl) (zm_rd (Z := Z23) (ν := ν1) (k := 2) (show ((0 : Nat) : Int) = 0 from rfl) (show ((0 : Nat) : Int) = 0 from rfl) (show ((3200 : Nat) : Int) = 3200 from rfl)))) (show (4 : Int32) = i3 4 from rfl)) (by omega) (by omega) (by omega)) ?_
            obtain ⟨Z29, hZ29⟩ := zx (zu Z28 2 0 0 (3254 + 24 * (Z23 2 0 0 3200)) (-1))
            replace hP := zl_e hP hZ29
            have hZ29I := zM_u2 hZ28I hZ29 (lo := -1) (hi := 671) (zs_3250_4 (x := (Z23 2 0 0 3200)) (by omega) (by omega) (by omega)) (by omega) ⟨by decide, by decide⟩ (by simp only [zsp]; omega)
            have hZ29U : zU [] Z Z29 := zU_u hZ28U hZ29 (Or.inl rfl)
            have hZ29K : zC [1, 2, 101, 102, 200] Z Z29 := zC_u hZ28K hZ29 (zcl_2w (by omega) rfl)
            intro μ9 e9
            replace e9 := e9.trans (zm_wI (Z := Z28) (ν := ν1) hZ29 (show ((0 : Nat) : Int) = 0 from rfl) (show ((0 : Nat) : Int) = 0 from rfl) (i3I (y := (3254 + 24 * (Z23 2 0 0 3200))) (i3A (i3A (show (3250 : Int32) = i3 3250 from rfl) (i3M (show (24 : Int32) = i3 24 from rfl) (zm_rd (Z := Z23) (ν := ν1) (k := 2) (show ((0 : Nat) : Int) = 0 from rfl) (show ((0 : Nat) : Int) = 0 from rfl) (show ((3200 : Nat) : Int) = 3200 from rfl)))) (show (4 : Int32) = i3 4 from rfl)) (by omega) (by omega) (by omega)) (show (-1 : Int32) = i3 (-1) from rfl))
            subst e9
            have r30 := zM_k hZ29I 2 0 0 3200 (lo := 0) (hi := 4) (by decide) rfl
            have q31 := (zu_ne (k' := 2) (b' := 0) (i' := 0) (j' := 3200) hZ29 (fun q => absurd q.2.2.2 (by omega))).trans ((zu_ne (k' := 2) (b' := 0) (i' := 0) (j' := 3200) hZ28 (fun q => absurd q.2.2.2 (by omega))).trans ((zu_ne (k' := 2) (b' := 0) (i' := 0) (j' := 3200) hZ27 (fun q => absurd q.2.2.2 (by omega))).trans (zu_ne (k' := 2) (b' := 0) (i' := 0) (j' := 3200) hZ26 (fun q => absurd q.2.2.2 (by omega)))))
            obtain ⟨Z32, hZ32⟩ := zx (zu Z29 2 0 0 3200 ((Z29 2 0 0 3200) + 1))
            replace hP := zl_e hP hZ32
            have hZ32I := zM_u2 hZ29I hZ32 (lo := 0) (hi := 4) rfl (by omega) ⟨by decide, by decide⟩ (by simp only [zsp]; omega)
            have hZ32U : zU [] Z Z32 := zU_u hZ29U hZ32 (Or.inl rfl)
            have hZ32K : zC [1, 2, 101, 102, 200] Z Z32 := zC_u hZ29K hZ32 (by decide)
            intro μ9 e9
            replace e9 := e9.trans (zm_wI (Z := Z29) (ν := ν1) hZ32 (show ((0 : Nat) : Int) = 0 from rfl) (show ((0 : Nat) : Int) = 0 from rfl) (show ((3200 : Nat) : Int) = 3200 from rfl) (i3A (zm_rd (Z := Z29) (ν := ν1) (k := 2) (show ((0 : Nat) : Int) = 0 from rfl) (show ((0 : Nat) : Int) = 0 from rfl) (show ((3200 : Nat) : Int) = 3200 from rfl)) (show (1 : Int32) = i3 1 from rfl)))
            subst e9
            exact zlY hP (zm_rd (Z := Z23) (ν := ν1) (k := 2) (show ((0 : Nat) : Int) = 0 from rfl) (show ((0 : Nat) : Int) = 0 from rfl) (show ((3200 : Nat) : Int) = 3200 from rfl)) (.inr rfl) ⟨hZ32I, hZ32K, hZ32U⟩
/- yX12_way -/
def zy_543 (Z : qz_Z) (dm : qz_Z → Int → Int → Int → Int → Int → Int → Int → qz_Z) (a1 : Int) (a2 : Int) (a3 : Int) : qz_Z × Int := (if a1 < 0 then (zlet (zu Z 1 0 0 2 1) (fun Z5 => (Z5, 0))) else (if 5 < a1 then (zlet (zu Z 1 0 0 2 1) (fun Z7 => (Z7, 0))) else (if a2 < 0 then (zlet (zu Z 1 0 0 2 1) (fun Z9 => (Z9, 0))) else (if 5 < a2 then (zlet (zu Z 1 0 0 2 1) (fun Z11 => (Z11, 0))) else (zlet (zu Z 1 0 0 2 0) (fun Z12 => (if a1 = a2 then (zlet (zu Z12 1 0 0 2 2) (fun Z14 => (Z14, 0))) else (if a3 < 1 then (zlet (zu Z12 1 0 0 2 2) (fun Z16 => (Z16, 0))) else (if 12 < a3 then (zlet (zu Z12 1 0 0 2 2) (fun Z18 => (Z18, 0))) else (zlet (zu Z12 1 0 0 2 0) (fun Z19 => (zlet (dm Z19 18 a1 a2 a3 0 0 0) (fun Z26 => (zlet (zu Z26 2 0 0 (3210 + 6 * a1 + a2) a3) (fun Z27 => (zlet (zu Z27 2 0 0 (3210 + 6 * a2 + a1) a3) (fun Z28 => (Z28, (Z26 2 0 0 (3210 + 6 * a1 + a2))))))))))))))))))))
theorem sy_543 {s : zSM} {Z : qz_Z} {ν : qz_N} (hZ : zM s Z) (gq : Z 1 0 0 35 = 0) (hM : s.2 + 0 ≤ 1000000000) {a1 : Int} (ga1 : -2147483648 ≤ a1 ∧ a1 ≤ 2147483647) {a2 : Int} (ga2 : -2147483648 ≤ a2 ∧ a2 ≤ 2147483647) {a3 : Int} (ga3 : -2147483648 ≤ a3 ∧ a3 ≤ 2147483647) {dk : qz_Z → qz_Z} {dm : qz_Z → Int → Int → Int → Int → Int → Int → Int → qz_Z} {ν1 : qz_N} (hdm : zDm s ν ν1 Z dk dm) : ∃ (Z1 : qz_Z) (ν2 : qz_N) (v : Int), (Z1, v) = zy_543 Z dm a1 a2 a3 ∧ (ν2 = ν ∨ ν2 = ν1) ∧ qf_543 [.inr (.inr (some (1, 0, 0))), .inl (i3 a1), .inl (i3 a2), .inl (i3 a3)] (zm Z ν) = some (zm Z1 ν2, .inl (some (.inl (i3 v)))) ∧ (fun Z1 => zM s Z1 ∧ zC [1, 2, 101, 102, 200] Z Z1 ∧ zU [] Z Z1) Z1 := by
  obtain ⟨P, hP⟩ := zx (zy_543 Z dm a1 a2 a3)
  refine zc_Y (Q := fun Z1 => zM s Z1 ∧ zC [1, 2, 101, 102, 200] Z Z1 ∧ zU [] Z Z1) hP (fw_543 (i3 a1) (i3 a2) (i3 a3) _ _ ?_)
  replace hP : zE P (zy_543 Z dm a1 a2 a3) := hP
  unfold zy_543 at hP
  have r1 := zM_k hZ 1 0 0 35 (lo := 0) (hi := 1) (by decide) rfl
  have r2 := zM_k hZ 1 0 0 34 (lo := 0) (hi := 8) (by decide) rfl
  have r3 := zM_f hZ 1 0 0 37
  refine wz_br (i3L (rfl : i3 a1 = i3 a1) (show (0 : Int32) = i3 0 from rfl) (by omega) (by omega) (by omega) (by omega)) (fun h4 => ?_) (fun h4 => ?_)
  · replace hP := zE_p hP h4
    obtain ⟨Z5, hZ5⟩ := zx (zu Z 1 0 0 2 1)
    replace hP := zl_e hP hZ5
    have hZ5I := zM_u hZ hZ5 (lo := -2147483648) (hi := 2147483647) (by decide) rfl (by omega) ⟨by decide, by decide⟩ (Or.inr (by decide)) rfl
    have hZ5U : zU [] Z Z5 := zU_u zU_r hZ5 (Or.inl rfl)
    have hZ5K : zC [1, 2, 101, 102, 200] Z Z5 := zC_u zC_r hZ5 (by decide)
    intro μ9 e9
    replace e9 := e9.trans (zm_wI (Z := Z) (ν := ν) hZ5 (show ((0 : Nat) : Int) = 0 from rfl) (show ((0 : Nat) : Int) = 0 from rfl) (show ((2 : Nat) : Int) = 2 from rfl) (show (1 : Int32) = i3 1 from rfl))
    subst e9
    exact zlY hP (show (0 : Int32) = i3 0 from rfl) (.inl rfl) ⟨hZ5I, hZ5K, hZ5U⟩
  · replace hP := zE_n hP h4
    refine wz_br (i3L (show (5 : Int32) = i3 5 from rfl) (rfl : i3 a1 = i3 a1) (by omega) (by omega) (by omega) (by omega)) (fun h6 => ?_) (fun h6 => ?_)
    · replace hP := zE_p hP h6
      obtain ⟨Z7, hZ7⟩ := zx (zu Z 1 0 0 2 1)
      replace hP := zl_e hP hZ7
      have hZ7I := zM_u hZ hZ7 (lo := -2147483648) (hi := 2147483647) (by decide) rfl (by omega) ⟨by decide, by decide⟩ (Or.inr (by decide)) rfl
      have hZ7U : zU [] Z Z7 := zU_u zU_r hZ7 (Or.inl rfl)
      have hZ7K : zC [1, 2, 101, 102, 200] Z Z7 := zC_u zC_r hZ7 (by decide)
      intro μ9 e9
      replace e9 := e9.trans (zm_wI (Z := Z) (ν := ν) hZ7 (show ((0 : Nat) : Int) = 0 from rfl) (show ((0 : Nat) : Int) = 0 from rfl) (show ((2 : Nat) : Int) = 2 from rfl) (show (1 : Int32) = i3 1 from rfl))
      subst e9
      exact zlY hP (show (0 : Int32) = i3 0 from rfl) (.inl rfl) ⟨hZ7I, hZ7K, hZ7U⟩
    · replace hP := zE_n hP h6
      refine wz_br (i3L (rfl : i3 a2 = i3 a2) (show (0 : Int32) = i3 0 from rfl) (by omega) (by omega) (by omega) (by omega)) (fun h8 => ?_) (fun h8 => ?_)
      · replace hP := zE_p hP h8
        obtain ⟨Z9, hZ9⟩ := zx (zu Z 1 0 0 2 1)
        replace hP := zl_e hP hZ9
        have hZ9I := zM_u hZ hZ9 (lo := -2147483648) (hi := 2147483647) (by decide) rfl (by omega) ⟨by decide, by decide⟩ (Or.inr (by decide)) rfl
        have hZ9U : zU [] Z Z9 := zU_u zU_r hZ9 (Or.inl rfl)
        have hZ9K : zC [1, 2, 101, 102, 200] Z Z9 := zC_u zC_r hZ9 (by decide)
        intro μ9 e9
        replace e9 := e9.trans (zm_wI (Z := Z) (ν := ν) hZ9 (show ((0 : Nat) : Int) = 0 from rfl) (show ((0 : Nat) : Int) = 0 from rfl) (show ((2 : Nat) : Int) = 2 from rfl) (show (1 : Int32) = i3 1 from rfl))
        subst e9
        exact zlY hP (show (0 : Int32) = i3 0 from rfl) (.inl rfl) ⟨hZ9I, hZ9K, hZ9U⟩
      · replace hP := zE_n hP h8
        refine wz_br (i3L (show (5 : Int32) = i3 5 from rfl) (rfl : i3 a2 = i3 a2) (by omega) (by omega) (by omega) (by omega)) (fun h10 => ?_) (fun h10 => ?_)
        · replace hP := zE_p hP h10
          obtain ⟨Z11, hZ11⟩ := zx (zu Z 1 0 0 2 1)
          replace hP := zl_e hP hZ11
          have hZ11I := zM_u hZ hZ11 (lo := -2147483648) (hi := 2147483647) (by decide) rfl (by omega) ⟨by decide, by decide⟩ (Or.inr (by decide)) rfl
          have hZ11U : zU [] Z Z11 := zU_u zU_r hZ11 (Or.inl rfl)
          have hZ11K : zC [1, 2, 101, 102, 200] Z Z11 := zC_u zC_r hZ11 (by decide)
          intro μ9 e9
          replace e9 := e9.trans (zm_wI (Z := Z) (ν := ν) hZ11 (show ((0 : Nat) : Int) = 0 from rfl) (show ((0 : Nat) : Int) = 0 from rfl) (show ((2 : Nat) : Int) = 2 from rfl) (show (1 : Int32) = i3 1 from rfl))
          subst e9
          exact zlY hP (show (0 : Int32) = i3 0 from rfl) (.inl rfl) ⟨hZ11I, hZ11K, hZ11U⟩
        · replace hP := zE_n hP h10
          obtain ⟨Z12, hZ12⟩ := zx (zu Z 1 0 0 2 0)
          replace hP := zl_e hP hZ12
          have hZ12I := zM_0 hZ hZ12 (by decide) (Or.inr (by decide))
          have hZ12U : zU [] Z Z12 := zU_u zU_r hZ12 (Or.inl rfl)
          have hZ12K : zC [1, 2, 101, 102, 200] Z Z12 := zC_u zC_r hZ12 (by decide)
          intro μ9 e9
          replace e9 := e9.trans (zm_wI (Z := Z) (ν := ν) hZ12 (show ((0 : Nat) : Int) = 0 from rfl) (show ((0 : Nat) : Int) = 0 from rfl) (show ((2 : Nat) : Int) = 2 from rfl) (show (0 : Int32) = i3 0 from rfl))
          subst e9
          refine wz_br (i3E (rfl : i3 a1 = i3 a1) (rfl : i3 a2 = i3 a2) (by omega) (by omega) (by omega) (by omega)) (fun h13 => ?_) (fun h13 => ?_)
          · replace hP := zE_p hP h13
            obtain ⟨Z14, hZ14⟩ := zx (zu Z12 1 0 0 2 2)
            replace hP := zl_e hP hZ14
            have hZ14I := zM_u hZ12I hZ14 (lo := -2147483648) (hi := 2147483647) (by decide) rfl (by omega) ⟨by decide, by decide⟩ (Or.inr (by decide)) rfl
            have hZ14U : zU [] Z Z14 := zU_u hZ12U hZ14 (Or.inl rfl)
            have hZ14K : zC [1, 2, 101, 102, 200] Z Z14 := zC_u hZ12K hZ14 (by decide)
            intro μ9 e9
            replace e9 := e9.trans (zm_wI (Z := Z12) (ν := ν) hZ14 (show ((0 : Nat) : Int) = 0 from rfl) (show ((0 : Nat) : Int) = 0 from rfl) (show ((2 : Nat) : Int) = 2 from rfl) (show (2 : Int32) = i3 2 from rfl))
            subst e9
            exact zlY hP (show (0 : Int32) = i3 0 from rfl) (.inl rfl) ⟨hZ14I, hZ14K, hZ14U⟩
          · replace hP := zE_n hP h13
            refine wz_br (i3L (rfl : i3 a3 = i3 a3) (show (1 : Int32) = i3 1 from rfl) (by omega) (by omega) (by omega) (by omega)) (fun h15 => ?_) (fun h15 => ?_)
            · replace hP := zE_p hP h15
              obtain ⟨Z16, hZ16⟩ := zx (zu Z12 1 0 0 2 2)
              replace hP := zl_e hP hZ16
              have hZ16I := zM_u hZ12I hZ16 (lo := -2147483648) (hi := 2147483647) (by decide) rfl (by omega) ⟨by decide, by decide⟩ (Or.inr (by decide)) rfl
              have hZ16U : zU [] Z Z16 := zU_u hZ12U hZ16 (Or.inl rfl)
              have hZ16K : zC [1, 2, 101, 102, 200] Z Z16 := zC_u hZ12K hZ16 (by decide)
              intro μ9 e9
              replace e9 := e9.trans (zm_wI (Z := Z12) (ν := ν) hZ16 (show ((0 : Nat) : Int) = 0 from rfl) (show ((0 : Nat) : Int) = 0 from rfl) (show ((2 : Nat) : Int) = 2 from rfl) (show (2 : Int32) = i3 2 from rfl))
              subst e9
              exact zlY hP (show (0 : Int32) = i3 0 from rfl) (.inl rfl) ⟨hZ16I, hZ16K, hZ16U⟩
            · replace hP := zE_n hP h15
              refine wz_br (i3L (show (12 : Int32) = i3 12 from rfl) (rfl : i3 a3 = i3 a3) (by omega) (by omega) (by omega) (by omega)) (fun h17 => ?_) (fun h17 => ?_)
              · replace hP := zE_p hP h17
                obtain ⟨Z18, hZ18⟩ := zx (zu Z12 1 0 0 2 2)
                replace hP := zl_e hP hZ18
                have hZ18I := zM_u hZ12I hZ18 (lo := -2147483648) (hi := 2147483647) (by decide) rfl (by omega) ⟨by decide, by decide⟩ (Or.inr (by decide)) rfl
                have hZ18U : zU [] Z Z18 := zU_u hZ12U hZ18 (Or.inl rfl)
                have hZ18K : zC [1, 2, 101, 102, 200] Z Z18 := zC_u hZ12K hZ18 (by decide)
                intro μ9 e9
                replace e9 := e9.trans (zm_wI (Z := Z12) (ν := ν) hZ18 (show ((0 : Nat) : Int) = 0 from rfl) (show ((0 : Nat) : Int) = 0 from rfl) (show ((2 : Nat) : Int) = 2 from rfl) (show (2 : Int32) = i3 2 from rfl))
                subst e9
                exact zlY hP (show (0 : Int32) = i3 0 from rfl) (.inl rfl) ⟨hZ18I, hZ18K, hZ18U⟩
              · replace hP := zE_n hP h17
                obtain ⟨Z19, hZ19⟩ := zx (zu Z12 1 0 0 2 0)
                replace hP := zl_e hP hZ19
                have hZ19I := zM_0 hZ12I hZ19 (by decide) (Or.inr (by decide))
                have hZ19U : zU [] Z Z19 := zU_u hZ12U hZ19 (Or.inl rfl)
                have hZ19K : zC [1, 2, 101, 102, 200] Z Z19 := zC_u hZ12K hZ19 (by decide)
                intro μ9 e9
                replace e9 := e9.trans (zm_wI (Z := Z12) (ν := ν) hZ19 (show ((0 : Nat) : Int) = 0 from rfl) (show ((0 : Nat) : Int) = 0 from rfl) (show ((2 : Nat) : Int) = 2 from rfl) (show (0 : Int32) = i3 0 from rfl))
                subst e9
                have r20 := zM_k hZ19I 1 0 0 35 (lo := 0) (hi := 1) (by decide) rfl
                have q21 := (zu_ne (k' := 1) (b' := 0) (i' := 0) (j' := 35) hZ19 (fun q => absurd q.2.2.2 (by decide))).trans (zu_ne (k' := 1) (b' := 0) (i' := 0) (j' := 35) hZ12 (fun q => absurd q.2.2.2 (by decide)))
                refine wz_i0 (Eq.trans (i3NE (zm_rd (Z := Z19) (ν := ν) (k := 1) (show ((0 : Nat) : Int) = 0 from rfl) (show ((0 : Nat) : Int) = 0 from rfl) (show ((35 : Nat) : Int) = 35 from rfl)) (show (0 : Int32) = i3 0 from rfl) (by omega) (by omega) (by omega) (by omega)) (decide_eq_false (by omega))) ?_
                have r22 := zM_k hZ19I 1 0 0 34 (lo := 0) (hi := 8) (by decide) rfl
                have q23 := (zu_ne (k' := 1) (b' := 0) (i' := 0) (j' := 34) hZ19 (fun q => absurd q.2.2.2 (by decide))).trans (zu_ne (k' := 1) (b' := 0) (i' := 0) (j' := 34) hZ12 (fun q => absurd q.2.2.2 (by decide)))
                have r24 := zM_f hZ19I 1 0 0 37
                have q25 := (zu_ne (k' := 1) (b' := 0) (i' := 0) (j' := 37) hZ19 (fun q => absurd q.2.2.2 (by decide))).trans (zu_ne (k' := 1) (b' := 0) (i' := 0) (j' := 37) hZ12 (fun q => absurd q.2.2.2 (by decide)))
                obtain ⟨c8, c9, hZ26I, dZ26⟩ := hdm Z19 18 a1 a2 a3 0 0 0 hZ19I (by omega) (by omega) (by omega) (by omega) (by omega) (by omega) (by omega) (by omega) (by omega) (by omega)
                obtain ⟨Z26, hZ26⟩ := zx (dm Z19 18 a1 a2 a3 0 0 0)
                rw [← hZ26] at c9 hZ26I dZ26
                replace hP := zl_e hP hZ26
                refine wz_cV_of (zas (zcons rfl (zcons (zvi (show (-1 : Int32) = i3 (-1) from rfl)) rfl)) c8) ?_
                refine wz_cV_of (zas (zcons rfl (zcons (zvi (show (18 : Int32) = i3 18 from rfl)) (zcons (zvi (rfl : i3 a1 = i3 a1)) (zcons (zvi (rfl : i3 a2 = i3 a2)) (zcons (zvi (rfl : i3 a3 = i3 a3)) (zcons (zvi (show (0 : Int32) = i3 0 from rfl)) (zcons (zvi (show (0 : Int32) = i3 0 from rfl)) (zcons (zvi (show (0 : Int32) = i3 0 from rfl)) rfl)))))))) c9) ?_
                clear c8 c9
                have hZ26K : zC [1, 2, 101, 102, 200] Z Z26 := zC_t hZ19K (zMd_C dZ26) (by decide)
                have hZ26U : zU [] Z Z26 := zU_t hZ19U (zMd_U dZ26) zU_b0
                refine wz_i0 (i3O (n := 4400) (i3A (i3A (show (3210 : Int32) = i3 3210 from rfl) (i3M (show (6 : Int32) = i3 6 from rfl) (rfl : i3 a1 = i3 a1))) (rfl : i3 a2 = i3 a2)) (by omega) (by omega) (by omega)) ?_
                refine wz_i0 (i3O (n := 4400) (i3A (i3A (show (3210 : Int32) = i3 3210 from rfl) (i3M (show (6 : Int32) = i3 6 from rfl) (rfl : i3 a1 = i3 a1))) (rfl : i3 a2 = i3 a2)) (by omega) (by omega) (by omega)) ?_
                obtain ⟨Z27, hZ27⟩ := zx (zu Z26 2 0 0 (3210 + 6 * a1 + a2) a3)
                replace hP := zl_e hP hZ27
                have hZ27I := zM_u2 hZ26I hZ27 (lo := 0) (hi := 12) (zs_3210 (by omega) (by omega)) (by omega) ⟨by decide, by decide⟩ (by simp only [zsp]; omega)
                have hZ27U : zU [] Z Z27 := zU_u hZ26U hZ27 (Or.inl rfl)
                have hZ27K : zC [1, 2, 101, 102, 200] Z Z27 := zC_u hZ26K hZ27 (zcl_2w (by omega) rfl)
                intro μ9 e9
                replace e9 := e9.trans (zm_wI (Z := Z26) (ν := ν1) hZ27 (show ((0 : Nat) : Int) = 0 from rfl) (show ((0 : Nat) : Int) = 0 from rfl) (i3I (y := (3210 + 6 * a1 + a2)) (i3A (i3A (show (3210 : Int32) = i3 3210 from rfl) (i3M (show (6 : Int32) = i3 6 from rfl) (rfl : i3 a1 = i3 a1))) (rfl : i3 a2 = i3 a2)) (by omega) (by omega) (by omega)) (rfl : i3 a3 = i3 a3))
                subst e9
                refine wz_i0 (i3O (n := 4400) (i3A (i3A (show (3210 : Int32) = i3 3210 from rfl) (i3M (show (6 : Int32) = i3 6 from rfl) (rfl : i3 a2 = i3 a2))) (rfl : i3 a1 = i3 a1)) (by omega) (by omega) (by omega)) ?_
                obtain ⟨Z28, hZ28⟩ := zx (zu Z27 2 0 0 (3210 + 6 * a2 + a1) a3)
                replace hP := zl_e hP hZ28
                have hZ28I := zM_u2 hZ27I hZ28 (lo := 0) (hi := 12) (zs_3210 (by omega) (by omega)) (by omega) ⟨by decide, by decide⟩ (by simp only [zsp]; omega)
                have hZ28U : zU [] Z Z28 := zU_u hZ27U hZ28 (Or.inl rfl)
                have hZ28K : zC [1, 2, 101, 102, 200] Z Z28 := zC_u hZ27K hZ28 (zcl_2w (by omega) rfl)
                intro μ9 e9
                replace e9 := e9.trans (zm_wI (Z := Z27) (ν := ν1) hZ28 (show ((0 : Nat) : Int) = 0 from rfl) (show ((0 : Nat) : Int) = 0 from rfl) (i3I (y := (3210 + 6 * a2 + a1)) (i3A (i3A (show (3210 : Int32) = i3 3210 from rfl) (i3M (show (6 : Int32) = i3 6 from rfl) (rfl : i3 a2 = i3 a2))) (rfl : i3 a1 = i3 a1)) (by omega) (by omega) (by omega)) (rfl : i3 a3 = i3 a3))
                subst e9
                have r29 := zM_k hZ26I 2 0 0 (3210 + 6 * a1 + a2) (lo := 0) (hi := 12) (by decide) (zs_3210 (by omega) (by omega))
                exact zlY hP (zm_rd (Z := Z26) (ν := ν1) (k := 2) (show ((0 : Nat) : Int) = 0 from rfl) (show ((0 : Nat) : Int) = 0 from rfl) (i3I (y := (3210 + 6 * a1 + a2)) (i3A (i3A (show (3210 : Int32) = i3 3210 from rfl) (i3M (show (6 : Int32) = i3 6 from rfl) (rfl : i3 a1 = i3 a1))) (rfl : i3 a2 = i3 a2)) (by omega) (by omega) (by omega))) (.inr rfl) ⟨hZ28I, hZ28K, hZ28U⟩
/- yX12_withdraw -/
def zy_546 (Z : qz_Z) (dm : qz_Z → Int → Int → Int → Int → Int → Int → Int → qz_Z) (a1 : Int) : qz_Z × Int := (if a1 < 0 then (zlet (zu Z 1 0 0 2 1) (fun Z5 => (Z5, 0))) else (if ((Z 2 0 0 102) - 1) < a1 then (zlet (zu Z 1 0 0 2 1) (fun Z8 => (Z8, 0))) else (zlet (zu Z 1 0 0 2 0) (fun Z9 => (if (Z9 2 0 0 (210 + 20 * a1)) ≠ 1 then (zlet (zu Z9 1 0 0 2 2) (fun Z15 => (Z15, 0))) else (zlet (zu Z9 1 0 0 2 0) (fun Z16 => (zlet (dm Z16 17 a1 0 0 0 0 0) (fun Z23 => (zlet (zf_305 Z23 a1) (fun v24 => (zlet (zf_305 Z23 a1) (fun v25 => (if v25 = (-1) then (zlet (zu Z23 2 0 0 (210 + 20 * a1) 0) (fun Z27 => (Z27, (Z27 2 0 0 (3015 + 60 * v24))))) else (zlet (zf_306 Z23 v25 a1) (fun v36 => (zlet (zf_312 Z23 v25 v36) (fun Z41 => (zlet (zu Z41 2 0 0 (210 + 20 * a1) 0) (fun Z49 => (Z49, (Z49 2 0 0 (3015 + 60 * v24)))))))))))))))))))))))
theorem sy_546 {s : zSM} {Z : qz_Z} {ν : qz_N} (hZ : zM s Z) (gq : Z 1 0 0 35 = 0) (hM : s.2 + 0 ≤ 1000000000) {a1 : Int} (ga1 : -2147483648 ≤ a1 ∧ a1 ≤ 2147483647) {dk : qz_Z → qz_Z} {dm : qz_Z → Int → Int → Int → Int → Int → Int → Int → qz_Z} {ν1 : qz_N} (hdm : zDm s ν ν1 Z dk dm) : ∃ (Z1 : qz_Z) (ν2 : qz_N) (v : Int), (Z1, v) = zy_546 Z dm a1 ∧ (ν2 = ν ∨ ν2 = ν1) ∧ qf_546 [.inr (.inr (some (1, 0, 0))), .inl (i3 a1)] (zm Z ν) = some (zm Z1 ν2, .inl (some (.inl (i3 v)))) ∧ (fun Z1 => zM s Z1 ∧ zC [1, 2, 101, 102, 200] Z Z1 ∧ zU [] Z Z1) Z1 := by
  obtain ⟨P, hP⟩ := zx (zy_546 Z dm a1)
  refine zc_Y (Q := fun Z1 => zM s Z1 ∧ zC [1, 2, 101, 102, 200] Z Z1 ∧ zU [] Z Z1) hP (fw_546 (i3 a1) _ _ ?_)
  replace hP : zE P (zy_546 Z dm a1) := hP
  unfold zy_546 at hP
  have r1 := zM_k hZ 1 0 0 35 (lo := 0) (hi := 1) (by decide) rfl
  have r2 := zM_k hZ 1 0 0 34 (lo := 0) (hi := 8) (by decide) rfl
  have r3 := zM_f hZ 1 0 0 37
  refine wz_br (i3L (rfl : i3 a1 = i3 a1) (show (0 : Int32) = i3 0 from rfl) (by omega) (by omega) (by omega) (by omega)) (fun h4 => ?_) (fun h4 => ?_)
  · replace hP := zE_p hP h4
    obtain ⟨Z5, hZ5⟩ := zx (zu Z 1 0 0 2 1)
    replace hP := zl_e hP hZ5
    have hZ5I := zM_u hZ hZ5 (lo := -2147483648) (hi := 2147483647) (by decide) rfl (by omega) ⟨by decide, by decide⟩ (Or.inr (by decide)) rfl
    have hZ5U : zU [] Z Z5 := zU_u zU_r hZ5 (Or.inl rfl)
    have hZ5K : zC [1, 2, 101, 102, 200] Z Z5 := zC_u zC_r hZ5 (by decide)
    intro μ9 e9
    replace e9 := e9.trans (zm_wI (Z := Z) (ν := ν) hZ5 (show ((0 : Nat) : Int) = 0 from rfl) (show ((0 : Nat) : Int) = 0 from rfl) (show ((2 : Nat) : Int) = 2 from rfl) (show (1 : Int32) = i3 1 from rfl))
    subst e9
    exact zlY hP (show (0 : Int32) = i3 0 from rfl) (.inl rfl) ⟨hZ5I, hZ5K, hZ5U⟩
  · replace hP := zE_n hP h4
    have r6 := zM_k hZ 2 0 0 102 (lo := 0) (hi := 48) (by decide) rfl
    refine wz_br (i3L (i3S (zm_rd (Z := Z) (ν := ν) (k := 2) (show ((0 : Nat) : Int) = 0 from rfl) (show ((0 : Nat) : Int) = 0 from rfl) (show ((102 : Nat) : Int) = 102 from rfl)) (show (1 : Int32) = i3 1 from rfl)) (rfl : i3 a1 = i3 a1) (by omega) (by omega) (by omega) (by omega)) (fun h7 => ?_) (fun h7 => ?_)
    · replace hP := zE_p hP h7
      obtain ⟨Z8, hZ8⟩ := zx (zu Z 1 0 0 2 1)
      replace hP := zl_e hP hZ8
      have hZ8I := zM_u hZ hZ8 (lo := -2147483648) (hi := 2147483647) (by decide) rfl (by omega) ⟨by decide, by decide⟩ (Or.inr (by decide)) rfl
      have hZ8U : zU [] Z Z8 := zU_u zU_r hZ8 (Or.inl rfl)
      have hZ8K : zC [1, 2, 101, 102, 200] Z Z8 := zC_u zC_r hZ8 (by decide)
      intro μ9 e9
      replace e9 := e9.trans (zm_wI (Z := Z) (ν := ν) hZ8 (show ((0 : Nat) : Int) = 0 from rfl) (show ((0 : Nat) : Int) = 0 from rfl) (show ((2 : Nat) : Int) = 2 from rfl) (show (1 : Int32) = i3 1 from rfl))
      subst e9
      exact zlY hP (show (0 : Int32) = i3 0 from rfl) (.inl rfl) ⟨hZ8I, hZ8K, hZ8U⟩
    · replace hP := zE_n hP h7
      obtain ⟨Z9, hZ9⟩ := zx (zu Z 1 0 0 2 0)
      replace hP := zl_e hP hZ9
      have hZ9I := zM_0 hZ hZ9 (by decide) (Or.inr (by decide))
      have hZ9U : zU [] Z Z9 := zU_u zU_r hZ9 (Or.inl rfl)
      have hZ9K : zC [1, 2, 101, 102, 200] Z Z9 := zC_u zC_r hZ9 (by decide)
      intro μ9 e9
      replace e9 := e9.trans (zm_wI (Z := Z) (ν := ν) hZ9 (show ((0 : Nat) : Int) = 0 from rfl) (show ((0 : Nat) : Int) = 0 from rfl) (show ((2 : Nat) : Int) = 2 from rfl) (show (0 : Int32) = i3 0 from rfl))
      subst e9
      refine wz_i0 (i3O (n := 4400) (i3A (i3A (show (200 : Int32) = i3 200 from rfl) (i3M (show (20 : Int32) = i3 20 from rfl) (rfl : i3 a1 = i3 a1))) (show (10 : Int32) = i3 10 from rfl)) (by omega) (by omega) (by omega)) ?_
      have r10 := zM_k hZ9I 2 0 0 (210 + 20 * a1) (lo := 0) (hi := 4) (by decide) (zs_200_10 (x := a1) (by omega) (by omega) (by omega))
      have r11 := zM_pl hZ9I a1
      have r12 := zM_k hZ9I 2 0 0 102 (lo := 0) (hi := 48) (by decide) rfl
      have q13 := zu_ne (k' := 2) (b' := 0) (i' := 0) (j' := 102) hZ9 (fun q => absurd q.1 (by decide))
      refine wz_br (i3NE (zm_rd (Z := Z9) (ν := ν) (k := 2) (show ((0 : Nat) : Int) = 0 from rfl) (show ((0 : Nat) : Int) = 0 from rfl) (i3I (y := (210 + 20 * a1)) (i3A (i3A (show (200 : Int32) = i3 200 from rfl) (i3M (show (20 : Int32) = i3 20 from rfl) (rfl : i3 a1 = i3 a1))) (show (10 : Int32) = i3 10 from rfl)) (by omega) (by omega) (by omega))) (show (1 : Int32) = i3 1 from rfl) (by omega) (by omega) (by omega) (by omega)) (fun h14 => ?_) (fun h14 => ?_)
      · replace hP := zE_p hP h14
        obtain ⟨Z15, hZ15⟩ := zx (zu Z9 1 0 0 2 2)
        replace hP := zl_e hP hZ15
        have hZ15I := zM_u hZ9I hZ15 (lo := -2147483648) (hi := 2147483647) (by decide) rfl (by omega) ⟨by decide, by decide⟩ (Or.inr (by decide)) rfl
        have hZ15U : zU [] Z Z15 := zU_u hZ9U hZ15 (Or.inl rfl)
        have hZ15K : zC [1, 2, 101, 102, 200] Z Z15 := zC_u hZ9K hZ15 (by decide)
        intro μ9 e9
        replace e9 := e9.trans (zm_wI (Z := Z9) (ν := ν) hZ15 (show ((0 : Nat) : Int) = 0 from rfl) (show ((0 : Nat) : Int) = 0 from rfl) (show ((2 : Nat) : Int) = 2 from rfl) (show (2 : Int32) = i3 2 from rfl))
        subst e9
        exact zlY hP (show (0 : Int32) = i3 0 from rfl) (.inl rfl) ⟨hZ15I, hZ15K, hZ15U⟩
      · replace hP := zE_n hP h14
        obtain ⟨Z16, hZ16⟩ := zx (zu Z9 1 0 0 2 0)
        replace hP := zl_e hP hZ16
        have hZ16I := zM_0 hZ9I hZ16 (by decide) (Or.inr (by decide))
        have hZ16U : zU [] Z Z16 := zU_u hZ9U hZ16 (Or.inl rfl)
        have hZ16K : zC [1, 2, 101, 102, 200] Z Z16 := zC_u hZ9K hZ16 (by decide)
        intro μ9 e9
        replace e9 := e9.trans (zm_wI (Z := Z9) (ν := ν) hZ16 (show ((0 : Nat) : Int) = 0 from rfl) (show ((0 : Nat) : Int) = 0 from rfl) (show ((2 : Nat) : Int) = 2 from rfl) (show (0 : Int32) = i3 0 from rfl))
        subst e9
        have r17 := zM_k hZ16I 1 0 0 35 (lo := 0) (hi := 1) (by decide) rfl
        have q18 := (zu_ne (k' := 1) (b' := 0) (i' := 0) (j' := 35) hZ16 (fun q => absurd q.2.2.2 (by decide))).trans (zu_ne (k' := 1) (b' := 0) (i' := 0) (j' := 35) hZ9 (fun q => absurd q.2.2.2 (by decide)))
        refine wz_i0 (Eq.trans (i3NE (zm_rd (Z := Z16) (ν := ν) (k := 1) (show ((0 : Nat) : Int) = 0 from rfl) (show ((0 : Nat) : Int) = 0 from rfl) (show ((35 : Nat) : Int) = 35 from rfl)) (show (0 : Int32) = i3 0 from rfl) (by omega) (by omega) (by omega) (by omega)) (decide_eq_false (by omega))) ?_
        have r19 := zM_k hZ16I 1 0 0 34 (lo := 0) (hi := 8) (by decide) rfl
        have q20 := (zu_ne (k' := 1) (b' := 0) (i' := 0) (j' := 34) hZ16 (fun q => absurd q.2.2.2 (by decide))).trans (zu_ne (k' := 1) (b' := 0) (i' := 0) (j' := 34) hZ9 (fun q => absurd q.2.2.2 (by decide)))
        have r21 := zM_f hZ16I 1 0 0 37
        have q22 := (zu_ne (k' := 1) (b' := 0) (i' := 0) (j' := 37) hZ16 (fun q => absurd q.2.2.2 (by decide))).trans (zu_ne (k' := 1) (b' := 0) (i' := 0) (j' := 37) hZ9 (fun q => absurd q.2.2.2 (by decide)))
        obtain ⟨c8, c9, hZ23I, dZ23⟩ := hdm Z16 17 a1 0 0 0 0 0 hZ16I (by omega) (by omega) (by omega) (by omega) (by omega) (by omega) (by omega) (by omega) (by omega) (by omega)
        obtain ⟨Z23, hZ23⟩ := zx (dm Z16 17 a1 0 0 0 0 0)
        rw [← hZ23] at c9 hZ23I dZ23
        replace hP := zl_e hP hZ23
        refine wz_cV_of (zas (zcons rfl (zcons (zvi (show (-1 : Int32) = i3 (-1) from rfl)) rfl)) c8) ?_
        refine wz_cV_of (zas (zcons rfl (zcons (zvi (show (17 : Int32) = i3 17 from rfl)) (zcons (zvi (rfl : i3 a1 = i3 a1)) (zcons (zvi (show (0 : Int32) = i3 0 from rfl)) (zcons (zvi (show (0 : Int32) = i3 0 from rfl)) (zcons (zvi (show (0 : Int32) = i3 0 from rfl)) (zcons (zvi (show (0 : Int32) = i3 0 from rfl)) (zcons (zvi (show (0 : Int32) = i3 0 from rfl)) rfl)))))))) c9) ?_
        clear c8 c9
        have hZ23K : zC [1, 2, 101, 102, 200] Z Z23 := zC_t hZ16K (zMd_C dZ23) (by decide)
        have hZ23U : zU [] Z Z23 := zU_t hZ16U (zMd_U dZ23) zU_b0
        obtain ⟨v24, hv24, c9, lv24, uv24⟩ := sp_305 (ν := ν1) hZ23I (a1 := a1) (by omega) (zbh (c := 0) (k := 0) hM (Nat.le_of_ble_eq_true rfl))
        replace hP := zl_e hP hv24
        refine wz_cI_of (zas (zcons rfl (zcons (zvi (rfl : i3 a1 = i3 a1)) rfl)) c9) ?_
        clear c9
        obtain ⟨v25, hv25, c9, lv25, uv25⟩ := sp_305 (ν := ν1) hZ23I (a1 := a1) (by omega) (zbh (c := 0) (k := 0) hM (Nat.le_of_ble_eq_true rfl))
        replace hP := zl_e hP hv25
        refine wz_cI_of (zas (zcons rfl (zcons (zvi (rfl : i3 a1 = i3 a1)) rfl)) c9) ?_
        clear c9
        refine wz_br (i3E (rfl : i3 v25 = i3 v25) (show (-1 : Int32) = i3 (-1) from rfl) (by omega) (by omega) (by omega) (by omega)) (fun h26 => ?_) (fun h26 => ?_)
        · replace hP := zE_p hP h26
          refine wz_i0 (i3O (n := 4400) (i3A (i3A (show (200 : Int32) = i3 200 from rfl) (i3M (show (20 : Int32) = i3 20 from rfl) (rfl : i3 a1 = i3 a1))) (show (10 : Int32) = i3 10 from rfl)) (by omega) (by omega) (by omega)) ?_
          obtain ⟨Z27, hZ27⟩ := zx (zu Z23 2 0 0 (210 + 20 * a1) 0)
          replace hP := zl_e hP hZ27
          have r28 := zM_k hZ23I 2 0 0 (210 + 20 * a1) (lo := 0) (hi := 4) (by decide) (zs_200_10 (x := a1) (by omega) (by omega) (by omega))
          have r29 := zM_pl hZ23I a1
          have r30 := zM_k hZ23I 2 0 0 102 (lo := 0) (hi := 48) (by decide) rfl
          have q31 := (dZ23 2 0 0 102 (by simp)).trans (zu_ne (k' := 2) (b' := 0) (i' := 0) (j' := 102) hZ16 (fun q => absurd q.1 (by decide)))
          have q32 := (dZ23 2 0 0 (210 + 20 * a1) (by simp)).trans (zu_ne (k' := 2) (b' := 0) (i' := 0) (j' := (210 + 20 * a1)) hZ16 (fun q => absurd q.1 (by decide)))
          have r33 := zM_k hZ23I 2 0 0 (211 + 20 * a1) (lo := -1) (hi := 6) (by decide) (zs_200_11 (x := a1) (by omega) (by omega) (by omega))
          have hZ27I := zM_ps2 hZ23I hZ27 (q := a1) (by omega) (by omega) (by omega) (by omega)
          have hZ27U : zU [] Z Z27 := zU_u hZ23U hZ27 (Or.inl rfl)
          have hZ27K : zC [1, 2, 101, 102, 200] Z Z27 := zC_u hZ23K hZ27 (zcl_2w (by omega) rfl)
          intro μ9 e9
          replace e9 := e9.trans (zm_wI (Z := Z23) (ν := ν1) hZ27 (show ((0 : Nat) : Int) = 0 from rfl) (show ((0 : Nat) : Int) = 0 from rfl) (i3I (y := (210 + 20 * a1)) (i3A (i3A (show (200 : Int32) = i3 200 from rfl) (i3M (show (20 : Int32) = i3 20 from rfl) (rfl : i3 a1 = i3 a1))) (show (10 : Int32) = i3 10 from rfl)) (by omega) (by omega) (by omega)) (show (0 : Int32) = i3 0 from rfl))
          subst e9
          refine wz_i0 (i3O (n := 4400) (i3A (i3A (show (3010 : Int32) = i3 3010 from rfl) (i3M (show (60 : Int32) = i3 60 from rfl) (rfl : i3 v24 = i3 v24))) (show (5 : Int32) = i3 5 from rfl)) (by omega) (by omega) (by omega)) ?_
          have r34 := zM_f hZ27I 2 0 0 (3015 + 60 * v24)
          have r35 := zM_lc hZ27I v24
          exact zlY hP (zm_rd (Z := Z27) (ν := ν1) (k := 2) (show ((0 : Nat) : Int) = 0 from rfl) (show ((0 : Nat) : Int) = 0 from rfl) (i3I (y := (3015 + 60 * v24)) (i3A (i3A (show (3010 : Int32) = i3 3010 from rfl) (i3M (show (60 : Int32) = i3 60 from rfl) (rfl : i3 v24 = i3 v24))) (show (5 : Int32) = i3 5 from rfl)) (by omega) (by omega) (by omega))) (.inr rfl) ⟨hZ27I, hZ27K, hZ27U⟩
        · replace hP := zE_n hP h26
          obtain ⟨v36, hv36, c9, lv36, uv36, wv360⟩ := sp_306 (ν := ν1) hZ23I (a1 := v25) (by omega) (a2 := a1) (by omega) (zbh (c := 0) (k := 0) hM (Nat.le_of_ble_eq_true rfl))
          replace hP := zl_e hP hv36
          refine wz_cI_of (zas (zcons rfl (zcons (zvi (rfl : i3 v25 = i3 v25)) (zcons (zvi (rfl : i3 a1 = i3 a1)) rfl))) c9) ?_
          clear c9
          have r37 := zM_f hZ23I 2 0 0 (3015 + 60 * v25)
          have r38 := zM_lc hZ23I v25
          have w39 : v36 < Z23 2 0 0 (3015 + 60 * v25) := wv360
          have r40 := z306 hv25 hv36
          obtain ⟨Z41, hZ41, c9, hZ41I, kZ41, jZ41⟩ := sp_312 (ν := ν1) hZ23I (a1 := v25) (by omega) (a2 := v36) (by omega) (by omega) (zbh (c := 0) (k := 0) hM (Nat.le_of_ble_eq_true rfl))
          have hZ41U : zU [] Z Z41 := zU_t hZ23U jZ41 zU_b0
          have hZ41K : zC [1, 2, 101, 102, 200] Z Z41 := zC_t hZ23K kZ41 (by decide)
          replace hP := zl_e hP hZ41
          refine wz_cV_of (zas (zcons rfl (zcons (zvi (rfl : i3 v25 = i3 v25)) (zcons (zvi (rfl : i3 v36 = i3 v36)) rfl))) c9) ?_
          clear c9
          have r42 := zM_k hZ23I 2 0 0 102 (lo := 0) (hi := 48) (by decide) rfl
          have q43 := (dZ23 2 0 0 102 (by simp)).trans (zu_ne (k' := 2) (b' := 0) (i' := 0) (j' := 102) hZ16 (fun q => absurd q.1 (by decide)))
          have q44 : Z41 2 0 0 102 = Z23 2 0 0 102 := zn_312 hZ41 (by omega) (by omega) ⟨by omega, by omega⟩ (by omega)
          have r45 := zM_k hZ23I 2 0 0 (210 + 20 * a1) (lo := 0) (hi := 4) (by decide) (zs_200_10 (x := a1) (by omega) (by omega) (by omega))
          have r46 := zM_pl hZ23I a1
          have q47 := (dZ23 2 0 0 (210 + 20 * a1) (by simp)).trans (zu_ne (k' := 2) (b' := 0) (i' := 0) (j' := (210 + 20 * a1)) hZ16 (fun q => absurd q.1 (by decide)))
          have q48 : Z41 2 0 0 (210 + 20 * a1) = Z23 2 0 0 (210 + 20 * a1) := zn_312 hZ41 (by omega) (by omega) ⟨by omega, by omega⟩ (by omega)
          refine wz_i0 (i3O (n := 4400) (i3A (i3A (show (200 : Int32) = i3 200 from rfl) (i3M (show (20 : Int32) = i3 20 from rfl) (rfl : i3 a1 = i3 a1))) (show (10 : Int32) = i3 10 from rfl)) (by omega) (by omega) (by omega)) ?_
          obtain ⟨Z49, hZ49⟩ := zx (zu Z41 2 0 0 (210 + 20 * a1) 0)
          replace hP := zl_e hP hZ49
          have r50 := zM_k hZ41I 2 0 0 (210 + 20 * a1) (lo := 0) (hi := 4) (by decide) (zs_200_10 (x := a1) (by omega) (by omega) (by omega))
          have r51 := zM_pl hZ41I a1
          have r52 := zM_k hZ41I 2 0 0 102 (lo := 0) (hi := 48) (by decide) rfl
          have r53 := zM_k hZ41I 2 0 0 (211 + 20 * a1) (lo := -1) (hi := 6) (by decide) (zs_200_11 (x := a1) (by omega) (by omega) (by omega))
          have hZ49I := zM_ps2 hZ41I hZ49 (q := a1) (by omega) (by omega) (by omega) (by omega)
          have hZ49U : zU [] Z Z49 := zU_u hZ41U hZ49 (Or.inl rfl)
          have hZ49K : zC [1, 2, 101, 102, 200] Z Z49 := zC_u hZ41K hZ49 (zcl_2w (by omega) rfl)
          intro μ9 e9
          replace e9 := e9.trans (zm_wI (Z := Z41) (ν := ν1) hZ49 (show ((0 : Nat) : Int) = 0 from rfl) (show ((0 : Nat) : Int) = 0 from rfl) (i3I (y := (210 + 20 * a1)) (i3A (i3A (show (200 : Int32) = i3 200 from rfl) (i3M (show (20 : Int32) = i3 20 from rfl) (rfl : i3 a1 = i3 a1))) (show (10 : Int32) = i3 10 from rfl)) (by omega) (by omega) (by omega)) (show (0 : Int32) = i3 0 from rfl))
          subst e9
          refine wz_i0 (i3O (n := 4400) (i3A (i3A (show (3010 : Int32) = i3 3010 from rfl) (i3M (show (60 : Int32) = i3 60 from rfl) (rfl : i3 v24 = i3 v24))) (show (5 : Int32) = i3 5 from rfl)) (by omega) (by omega) (by omega)) ?_
          have r54 := zM_f hZ49I 2 0 0 (3015 + 60 * v24)
          have r55 := zM_lc hZ49I v24
          exact zlY hP (zm_rd (Z := Z49) (ν := ν1) (k := 2) (show ((0 : Nat) : Int) = 0 from rfl) (show ((0 : Nat) : Int) = 0 from rfl) (i3I (y := (3015 + 60 * v24)) (i3A (i3A (show (3010 : Int32) = i3 3010 from rfl) (i3M (show (60 : Int32) = i3 60 from rfl) (rfl : i3 v24 = i3 v24))) (show (5 : Int32) = i3 5 from rfl)) (by omega) (by omega) (by omega))) (.inr rfl) ⟨hZ49I, hZ49K, hZ49U⟩
/- yX12_iSearch -/
def zl_369_1 (x1 : Int) (x2 : Int) : Nat → qz_Z → Int → qz_Z × Int
  | 0, Z, x3 => (Z, x3)
  | m + 1, Z, x3 => (if 4400 ≤ x3 then (Z, x3) else (zlet (zu Z 2 0 0 x3 (Z 100 0 0 x3)) (fun Z5 => zl_369_1 x1 x2 m Z5 (x3 + 1))))
theorem sl_369_1 {s : zSM} {Zs Z : qz_Z} {ν : qz_N} (hZ : zM s Z) (hM : s.2 + 0 ≤ 1000000000) (hK : zC [2, 1200] Zs Z) {x1 : Int} (gx1 : 0 ≤ x1 ∧ x1 ≤ 1) {x2 : Int} (gx2 : 111 ≤ x2 ∧ x2 ≤ 777) {x3 : Int} (gx3 : 0 ≤ x3 ∧ x3 ≤ 4400) (hU : zU [] Zs Z) (gr0 : x3 = 0 ∨ Z 2 0 0 0 = Z 100 0 0 0) (gs0 : x3 = 0) {k : wz_K} {R : wz_R} {L : qz_L} (hL : qz_fg [true, true, true, true, false] L = [some (.inr (.inr (some (1, 0, 0)))), some (.inl (i3 x1)), some (.inl (i3 x2)), some (.inl (i3 x3)), none]) {T : qz_Z × Int} (hP : zE T (zl_369_1 x1 x2 ((4400 - x3).toNat + 1) Z x3)) (hk : ∀ (L9 : qz_L) (Z9 : qz_Z) (yx3 : Int), qz_fg [true, true, true, false, false] L9 = [some (.inr (.inr (some (1, 0, 0)))), some (.inl (i3 x1)), some (.inl (i3 x2)), none, none] → zM s Z9 → zC [2, 1200] Zs Z9 → zU [] Zs Z9 → (0 ≤ yx3 ∧ yx3 ≤ 4400) → (yx3 = 0 ∨ Z9 2 0 0 0 = Z9 100 0 0 0) → (4400 ≤ yx3) → zE T ((Z9, yx3)) → k 0 (L9, [], zm Z9 ν)) : wz_loop qb_369_1 65536 k R (L, [], zm Z ν) := by
  subst gs0
  have key : ∀ (m : Nat) (n : Int), 0 ≤ n → n ≤ 4400 → 4400 - n ≤ m → zl_369_1 x1 x2 (m + 1) (zpq Z 100 0 0 0 2 0 0 0 n) n = (zpq Z 100 0 0 0 2 0 0 0 4400, 4400) := by
    intro m
    induction m with
    | zero =>
      intro n h0 h1 h2
      have : n = 4400 := by omega
      subst this
      rfl
    | succ m ih =>
      intro n h0 h1 h2
      by_cases q : 4400 ≤ n
      · have : n = 4400 := by omega
        subst this
        exact if_pos (by decide)
      · have e : zl_369_1 x1 x2 (m + 1 + 1) (zpq Z 100 0 0 0 2 0 0 0 n) n = zl_369_1 x1 x2 (m + 1) (zu (zpq Z 100 0 0 0 2 0 0 0 n) 2 0 0 n (zpq Z 100 0 0 0 2 0 0 0 n 100 0 0 n)) (n + 1) := if_neg q
        rw [e, ← zpq_s (by decide) h0 (by omega) (by omega)]
        exact ih (n + 1) (by omega) (by omega) (by omega)
  have hT := key 4400 0 (by omega) (by omega) (by omega)
  rw [zpq_0] at hT
  replace hP : zE T (zpq Z 100 0 0 0 2 0 0 0 4400, 4400) := hP.trans hT
  refine wz_lp sb_369_1 (fun m x => ∃ n : Int, qz_fg [true, true, true, true, false] x.1 = [some (.inr (.inr (some (1, 0, 0)))), some (.inl (i3 x1)), some (.inl (i3 x2)), some (.inl (i3 n)), none] ∧ x.2 = ([], zm (zpq Z 100 0 0 0 2 0 0 0 n) ν) ∧ 0 ≤ n ∧ n ≤ 4400 ∧ m = (4400 - n).toNat) ?_ 65536 4400 _ (by omega) ⟨0, hL, by rw [zpq_0], by omega, by omega, by omega⟩
  clear hL
  rintro m ⟨L, st, μ⟩ ⟨n, hL, hx, h0, h1, hm⟩
  cases hx
  refine fb_369_1 (i3 x1) (i3 x2) (i3 n) _ _ _ _ hL ?_
  refine wz_br (i3Le (show (4400 : Int32) = i3 4400 from rfl) (rfl : i3 n = i3 n) (by omega) (by omega) (by omega) (by omega)) (fun q => ?_) (fun q => ?_)
  · have hn : n = 4400 := by omega
    subst hn
    exact hk _ _ 4400 (zconso rfl (zconso (zvo (rfl : i3 x1 = i3 x1)) (zconso (zvo (rfl : i3 x2 = i3 x2)) (zconso rfl (zconso rfl rfl))))) (zM_pq hZ (c := 0) (c1 := 0) (by decide) (by decide) (by omega) (by omega) rfl) (zC_pq hK (fun j => (show [2, 1200].contains (if j = 0 then 1200 else 2) = true by split <;> rfl))) (zU_pq hU rfl) (by omega) (.inr ((show zpq Z 100 0 0 0 2 0 0 0 4400 2 0 0 0 = Z 100 0 0 0 from rfl).trans (zpq_ne (by decide)).symm)) (by omega) hP
  · refine wz_i0 (i3O (n := 4400) (rfl : i3 n = i3 n) (by omega) (by omega) (by omega)) ?_
    refine wz_i0 (i3O (n := 4400) (rfl : i3 n = i3 n) (by omega) (by omega) (by omega)) ?_
    obtain ⟨Z2, hZ2⟩ := zx (zpq Z 100 0 0 0 2 0 0 0 (n + 1))
    have hz := hZ2.trans (zpq_s (by decide) h0 (by omega : n = 0 + n) (by omega : n = 0 + n))
    intro μ9 e9
    replace e9 := e9.trans (zm_wI (ν := ν) hz (show ((0 : Nat) : Int) = 0 from rfl) (show ((0 : Nat) : Int) = 0 from rfl) (i3I (y := n) (rfl : i3 n = i3 n) (by omega) (by omega) (by omega)) (zm_rd (ν := ν) (k := 100) (show ((0 : Nat) : Int) = 0 from rfl) (show ((0 : Nat) : Int) = 0 from rfl) (i3I (y := n) (rfl : i3 n = i3 n) (by omega) (by omega) (by omega))))
    subst e9
    obtain ⟨m2, rfl⟩ : ∃ m2, m = m2 + 1 := ⟨m - 1, by omega⟩
    exact wz_k1 ⟨m2, by omega, n + 1, (zconso rfl (zconso (zvo (rfl : i3 x1 = i3 x1)) (zconso (zvo (rfl : i3 x2 = i3 x2)) (zconso (zvo (i3A (rfl : i3 n = i3 n) (show (1 : Int32) = i3 1 from rfl))) (zconso rfl rfl))))), by rw [hZ2], by omega, by omega, by omega⟩
/- yX12_iSearch -/
def zl_369_2 (x1 : Int) (x2 : Int) : Nat → qz_Z → Int → Int → qz_Z × Int × Int
  | 0, Z, x3, x4 => (Z, x3, x4)
  | m + 1, Z, x3, x4 => (if 3 ≤ x4 then (Z, x3, x4) else (zlet (zu Z 2 0 0 0 ((Z 2 0 0 0) + 1)) (fun Z3 => (zlet (zf_471 Z3) (fun Z4 => (zlet (zf_373 Z4 x2 x4) (fun v5 => (zlet2 (zf_365 Z4 x1 v5) (fun Z6 v7 => zl_369_2 x1 x2 m Z6 (w3 (x3 + v7)) (x4 + 1))))))))))
theorem sl_369_2 {s : zSM} {xM9 : Nat} {Zs Z : qz_Z} {ν : qz_N} (hZ : zM (zb s xM9) Z) (hM : s.2 + 24304 ≤ 1000000000) (hK : zC [2, 1200] Zs Z) {x1 : Int} (gx1 : 0 ≤ x1 ∧ x1 ≤ 1) {x2 : Int} (gx2 : 111 ≤ x2 ∧ x2 ≤ 777) {x3 : Int} (gx3 : -2147483648 ≤ x3 ∧ x3 ≤ 2147483647) {x4 : Int} (gx4 : 0 ≤ x4 ∧ x4 ≤ 3) (hU : zU [] Zs Z) (hx9 : xM9 + 6076 * ((3 - x4).toNat) + 6076 ≤ 24304) (gr0 : Z 2 0 0 0 ≤ 668 + x4) {k : wz_K} {R : wz_R} {L : qz_L} (hL : qz_fg [true, true, true, true, true] L = [some (.inr (.inr (some (1, 0, 0)))), some (.inl (i3 x1)), some (.inl (i3 x2)), some (.inl (i3 x3)), some (.inl (i3 x4))]) {T : qz_Z × Int × Int} (hP : zE T (zl_369_2 x1 x2 ((3 - x4).toNat + 1) Z x3 x4)) (hk : ∀ (L9 : qz_L) (Z9 : qz_Z) (yx3 yx4 : Int), qz_fg [false, false, false, true, false] L9 = [none, none, none, some (.inl (i3 yx3)), none] → zM (zb s 24304) Z9 → zC [2, 1200] Zs Z9 → zU [] Zs Z9 → (-2147483648 ≤ yx3 ∧ yx3 ≤ 2147483647) → (0 ≤ yx4 ∧ yx4 ≤ 3) → (Z9 2 0 0 0 ≤ 668 + yx4) → zE T ((Z9, yx3, yx4)) → k 0 (L9, [], zm Z9 ν)) : wz_loop qb_369_2 65536 k R (L, [], zm Z ν) := by
  refine wz_lp sb_369_2 (fun m x => ∃ xM9 : Nat, ∃ Z : qz_Z, ∃ x3 : Int, ∃ x4 : Int, qz_fg [true, true, true, true, true] x.1 = [some (.inr (.inr (some (1, 0, 0)))), some (.inl (i3 x1)), some (.inl (i3 x2)), some (.inl (i3 x3)), some (.inl (i3 x4))] ∧ x.2 = ([], zm Z ν) ∧ xM9 + 6076 * m + 6076 ≤ 24304 ∧ zM (zb s xM9) Z ∧ zC [2, 1200] Zs Z ∧ zU [] Zs Z ∧ m = (3 - x4).toNat ∧ (-2147483648 ≤ x3 ∧ x3 ≤ 2147483647) ∧ (0 ≤ x4 ∧ x4 ≤ 3) ∧ (Z 2 0 0 0 ≤ 668 + x4) ∧ zE T (zl_369_2 x1 x2 (m + 1) Z x3 x4)) ?_ 65536 ((3 - x4).toNat) _ (by omega) ⟨xM9, Z, x3, x4, hL, rfl, hx9, hZ, hK, hU, rfl, gx3, gx4, gr0, hP⟩
  clear hP gr0 gx3 gx4 hx9 hZ hK hU hL
  clear x3 x4
  clear Z
  clear xM9
  rintro m ⟨L, st, μ⟩ ⟨xM9, Z, x3, x4, hL, hx, hx9, hZ, hK, hU, hm, gx3, gx4, gr0, hP⟩
  cases hx
  have hM9 : (zb s xM9).2 + 6076 ≤ 1000000000 := by
    show s.2 + xM9 + 6076 ≤ 1000000000
    omega
  refine fb_369_2 (i3 x1) (i3 x2) (i3 x3) (i3 x4) _ _ _ _ hL ?_
  have r1 := zM_k hZ 2 0 0 0 (lo := 0) (hi := 671) (by decide) rfl
  refine wz_br (i3Le (show (3 : Int32) = i3 3 from rfl) (rfl : i3 x4 = i3 x4) (by omega) (by omega) (by omega) (by omega)) (fun h2 => ?_) (fun h2 => ?_)
  · replace hP := zE_p hP h2
    exact hk _ _ _ _ (zconso rfl (zconso rfl (zconso rfl (zconso (zvo (rfl : i3 x3 = i3 x3)) (zconso rfl rfl))))) (zmx0 hZ (by omega)) hK hU (by omega) (by omega) (by omega) hP
  · replace hP := zE_n hP h2
    obtain ⟨Z3, hZ3⟩ := zx (zu Z 2 0 0 0 ((Z 2 0 0 0) + 1))
    replace hP := zl_e hP hZ3
    have hZ3I := zM_u2 hZ hZ3 (lo := 0) (hi := 671) rfl (by omega) ⟨by decide, by decide⟩ (by simp only [zsp]; omega)
    have hZ3U : zU [] Zs Z3 := zU_u hU hZ3 (Or.inl rfl)
    have hZ3K : zC [2, 1200] Zs Z3 := zC_u hK hZ3 (by decide)
    intro μ9 e9
    replace e9 := e9.trans (zm_wI (Z := Z) (ν := ν) hZ3 (show ((0 : Nat) : Int) = 0 from rfl) (show ((0 : Nat) : Int) = 0 from rfl) (show ((0 : Nat) : Int) = 0 from rfl) (i3A (zm_rd (Z := Z) (ν := ν) (k := 2) (show ((0 : Nat) : Int) = 0 from rfl) (show ((0 : Nat) : Int) = 0 from rfl) (show ((0 : Nat) : Int) = 0 from rfl)) (show (1 : Int32) = i3 1 from rfl)))
    subst e9
    obtain ⟨Z4, hZ4, c9, hZ4I, kZ4, jZ4⟩ := sp_471 (ν := ν) hZ3I (zbh (c := 0) (k := 0) hM9 (Nat.le_of_ble_eq_true rfl))
    have hZ4U : zU [] Zs Z4 := zU_t hZ3U jZ4 zU_b0
    have hZ4K : zC [2, 1200] Zs Z4 := zC_t hZ3K kZ4 (by decide)
    replace hP := zl_e hP hZ4
    refine wz_cV_of (zas (zcons rfl rfl) c9) ?_
    clear c9
    obtain ⟨v5, hv5, c9, lv5, uv5⟩ := sp_373 (ν := ν) hZ4I (a0 := x2) (by omega) (a1 := x4) (by omega) (zbh (c := 0) (k := 0) hM9 (Nat.le_of_ble_eq_true rfl))
    replace hP := zl_e hP hv5
    refine wz_cI_of (zas (zcons (zvi (rfl : i3 x2 = i3 x2)) (zcons (zvi (rfl : i3 x4 = i3 x4)) rfl)) c9) ?_
    clear c9
    obtain ⟨Z6, v7, hv7, c9, hZ6I, kZ6, jZ6, lv7, uv7⟩ := sp_365 (ν := ν) hZ4I (a1 := x1) (by omega) (a2 := v5) (by omega) (zbh (c := 0) (k := 6076) hM9 (Nat.le_of_ble_eq_true rfl))
    have hZ6U : zU [] Zs Z6 := zU_t hZ4U jZ6 zU_b0
    have hZ6K : zC [2, 1200] Zs Z6 := zC_t hZ4K kZ6 (by decide)
    replace hP := zl_e2 hP hv7
    refine wz_cI_of (zas (zcons rfl (zcons (zvi (rfl : i3 x1 = i3 x1)) (zcons (zvi (rfl : i3 v5 = i3 v5)) rfl))) c9) ?_
    clear c9 hv7
    have r8 := w3_r (x3 + v7)
    have r9 := zM_k hZ6I 2 0 0 0 (lo := 0) (hi := 671) (by decide) rfl
    have q10 := (kZ6 2 0 0 0 (by decide)).trans ((kZ4 2 0 0 0 (by decide)).trans (zu_at hZ3))
    obtain ⟨m2, rfl⟩ : ∃ m2, m = m2 + 1 := ⟨m - 1, by omega⟩
    exact wz_k1 ⟨m2, by omega, xM9 + 6076, Z6, (w3 (x3 + v7)), (x4 + 1), (zconso rfl (zconso (zvo (rfl : i3 x1 = i3 x1)) (zconso (zvo (rfl : i3 x2 = i3 x2)) (zconso (zvo (i3W (i3A (rfl : i3 x3 = i3 x3) (rfl : i3 v7 = i3 v7)))) (zconso (zvo (i3A (rfl : i3 x4 = i3 x4) (show (1 : Int32) = i3 1 from rfl))) rfl))))), rfl, by omega, (zmt hZ6I rfl), hZ6K, hZ6U, by omega, by omega, by omega, by omega,  hP⟩
/- yX12_iSearch -/
def zf_369 (Z : qz_Z) (a1 : Int) (a2 : Int) : qz_Z × Int := (zlet2 (zl_369_1 a1 a2 4401 Z 0) (fun Z3 y2 => (zlet3 (zl_369_2 a1 a2 4 Z3 0 0) (fun Z11 y9 y10 => (Z11, y9)))))
theorem sp_369 {s : zSM} {Z : qz_Z} {ν : qz_N} (hZ : zM s Z) {a1 : Int} (ga1 : 0 ≤ a1 ∧ a1 ≤ 1) {a2 : Int} (ga2 : 111 ≤ a2 ∧ a2 ≤ 777) (gx0 : Z 100 0 0 0 ≤ 668) (hM : s.2 + 24304 ≤ 1000000000) : ∃ (Z1 : qz_Z) (P : Int), (Z1, P) = zf_369 Z a1 a2 ∧ (qf_369 [.inr (.inr (some (1, 0, 0))), .inl (i3 a1), .inl (i3 a2)] (zm Z ν) = some (zm Z1 ν, .inl (some (.inl (i3 P)))) ∧ zM (zb s 24304) Z1 ∧ zC [2, 1200] Z Z1 ∧ zU [] Z Z1 ∧ -2147483648 ≤ P ∧ P ≤ 2147483647) := by
  obtain ⟨P, hP⟩ := zx (zf_369 Z a1 a2)
  refine zc_W (Q := fun Z1 P => zM (zb s 24304) Z1 ∧ zC [2, 1200] Z Z1 ∧ zU [] Z Z1 ∧ -2147483648 ≤ P ∧ P ≤ 2147483647) hP (fw_369 (i3 a1) (i3 a2) _ _ ?_)
  replace hP : zE P (zf_369 Z a1 a2) := hP
  unfold zf_369 at hP
  have r1 := zM_f hZ 100 0 0 0
  have r4 := zM_k hZ 2 0 0 0 (lo := 0) (hi := 671) (by decide) rfl
  refine sl_369_1 (ν := ν) hZ (zbh (c := 0) (k := 0) hM (Nat.le_of_ble_eq_true rfl)) zC_r (x1 := a1) (by omega) (x2 := a2) (by omega) (x3 := 0) (by omega) zU_r (by omega) (by omega) (zconso rfl (zconso (zvo (rfl : i3 a1 = i3 a1)) (zconso (zvo (rfl : i3 a2 = i3 a2)) (zconso (zvo (show (0 : Int32) = i3 0 from rfl)) (zconso rfl rfl))))) rfl ?_
  intro L5 Z3 y2 hL5 hZ3I kZ3 jZ3 gy2 gL5_0 gL5_1 q9
  replace hP := zl_e2 hP (Eq.symm q9)
  clear q9
  have hZ3U : zU [] Z Z3 := zU_t zU_r jZ3 zU_b0
  have hZ3K : zC [2, 1200] Z Z3 := zC_t zC_r kZ3 (by decide)
  have r6 := zM_k hZ3I 2 0 0 0 (lo := 0) (hi := 671) (by decide) rfl
  have r7 := zM_f hZ3I 100 0 0 0
  have q8 := kZ3 100 0 0 0 (by decide)
  refine fc_369_4 (i3 a1) (i3 a2) _ _ _ _ hL5 ?_
  refine sl_369_2 (ν := ν) (zm0 hZ3I) (zbh (c := 0) (k := 24304) hM (Nat.le_of_ble_eq_true rfl)) (xM9 := 0) zC_r (x1 := a1) (by omega) (x2 := a2) (by omega) (x3 := 0) (by omega) (x4 := 0) (by omega) zU_r (Nat.le_of_ble_eq_true rfl) (by omega) (zconso rfl (zconso (zvo (rfl : i3 a1 = i3 a1)) (zconso (zvo (rfl : i3 a2 = i3 a2)) (zconso (zvo (show (0 : Int32) = i3 0 from rfl)) (zconso (zvo (show (0 : Int32) = i3 0 from rfl)) rfl))))) rfl ?_
  intro L12 Z11 y9 y10 hL12 hZ11I kZ11 jZ11 gy9 gy10 gL12_0 q9
  replace hP := zl_e3 hP (Eq.symm q9)
  clear q9
  have hZ11U : zU [] Z Z11 := zU_t hZ3U jZ11 zU_b0
  have hZ11K : zC [2, 1200] Z Z11 := zC_t hZ3K kZ11 (by decide)
  have r13 := zM_k hZ11I 2 0 0 0 (lo := 0) (hi := 671) (by decide) rfl
  refine fc_369_3 (i3 y9) _ _ _ _ hL12 ?_
  exact zlW hP (rfl : i3 y9 = i3 y9) ⟨hZ11I, hZ11K, hZ11U, by omega, by omega⟩
/- yX12_iFindMost -/
def zl_356_1 (x1 : Int) : Nat → qz_Z → Int → qz_Z × Int
  | 0, Z, x3 => (Z, x3)
  | m + 1, Z, x3 => (if 4400 ≤ x3 then (Z, x3) else (zlet (zu Z 100 0 0 x3 (Z 2 0 0 x3)) (fun Z5 => zl_356_1 x1 m Z5 (x3 + 1))))
theorem sl_356_1 {s : zSM} {Zs Z : qz_Z} {ν : qz_N} (hZ : zM s Z) (hM : s.2 + 0 ≤ 1000000000) (hK : zC [100] Zs Z) {x1 : Int} (gx1 : 0 ≤ x1 ∧ x1 ≤ 1) {x3 : Int} (gx3 : 0 ≤ x3 ∧ x3 ≤ 4400) (hU : zU [] Zs Z) (gr0 : x3 = 0 ∨ Z 100 0 0 0 = Z 2 0 0 0) (gs0 : x3 = 0) {k : wz_K} {R : wz_R} {L : qz_L} (hL : qz_fg [true, true, false, true, false, false, false] L = [some (.inr (.inr (some (1, 0, 0)))), some (.inl (i3 x1)), none, some (.inl (i3 x3)), none, none, none]) {T : qz_Z × Int} (hP : zE T (zl_356_1 x1 ((4400 - x3).toNat + 1) Z x3)) (hk : ∀ (L9 : qz_L) (Z9 : qz_Z) (yx3 : Int), qz_fg [true, true, false, false, false, false, false] L9 = [some (.inr (.inr (some (1, 0, 0)))), some (.inl (i3 x1)), none, none, none, none, none] → zM s Z9 → zC [100] Zs Z9 → zU [] Zs Z9 → (0 ≤ yx3 ∧ yx3 ≤ 4400) → (yx3 = 0 ∨ Z9 100 0 0 0 = Z9 2 0 0 0) → (4400 ≤ yx3) → zE T ((Z9, yx3)) → k 0 (L9, [], zm Z9 ν)) : wz_loop qb_356_1 65536 k R (L, [], zm Z ν) := by
  subst gs0
  have key : ∀ (m : Nat) (n : Int), 0 ≤ n → n ≤ 4400 → 4400 - n ≤ m → zl_356_1 x1 (m + 1) (zpq Z 2 0 0 0 100 0 0 0 n) n = (zpq Z 2 0 0 0 100 0 0 0 4400, 4400) := by
    intro m
    induction m with
    | zero =>
      intro n h0 h1 h2
      have : n = 4400 := by omega
      subst this
      rfl
    | succ m ih =>
      intro n h0 h1 h2
      by_cases q : 4400 ≤ n
      · have : n = 4400 := by omega
        subst this
        exact if_pos (by decide)
      · have e : zl_356_1 x1 (m + 1 + 1) (zpq Z 2 0 0 0 100 0 0 0 n) n = zl_356_1 x1 (m + 1) (zu (zpq Z 2 0 0 0 100 0 0 0 n) 100 0 0 n (zpq Z 2 0 0 0 100 0 0 0 n 2 0 0 n)) (n + 1) := if_neg q
        rw [e, ← zpq_s (by decide) h0 (by omega) (by omega)]
        exact ih (n + 1) (by omega) (by omega) (by omega)
  have hT := key 4400 0 (by omega) (by omega) (by omega)
  rw [zpq_0] at hT
  replace hP : zE T (zpq Z 2 0 0 0 100 0 0 0 4400, 4400) := hP.trans hT
  refine wz_lp sb_356_1 (fun m x => ∃ n : Int, qz_fg [true, true, false, true, false, false, false] x.1 = [some (.inr (.inr (some (1, 0, 0)))), some (.inl (i3 x1)), none, some (.inl (i3 n)), none, none, none] ∧ x.2 = ([], zm (zpq Z 2 0 0 0 100 0 0 0 n) ν) ∧ 0 ≤ n ∧ n ≤ 4400 ∧ m = (4400 - n).toNat) ?_ 65536 4400 _ (by omega) ⟨0, hL, by rw [zpq_0], by omega, by omega, by omega⟩
  clear hL
  rintro m ⟨L, st, μ⟩ ⟨n, hL, hx, h0, h1, hm⟩
  cases hx
  refine fb_356_1 (i3 x1) (i3 n) _ _ _ _ hL ?_
  refine wz_br (i3Le (show (4400 : Int32) = i3 4400 from rfl) (rfl : i3 n = i3 n) (by omega) (by omega) (by omega) (by omega)) (fun q => ?_) (fun q => ?_)
  · have hn : n = 4400 := by omega
    subst hn
    exact hk _ _ 4400 (zconso rfl (zconso (zvo (rfl : i3 x1 = i3 x1)) (zconso rfl (zconso rfl (zconso rfl (zconso rfl (zconso rfl rfl))))))) (zM_pq hZ (c := 0) (c1 := 0) (by decide) (by decide) (by omega) (by omega) rfl) (zC_pq hK (fun j => rfl)) (zU_pq hU rfl) (by omega) (.inr ((show zpq Z 2 0 0 0 100 0 0 0 4400 100 0 0 0 = Z 2 0 0 0 from rfl).trans (zpq_ne (by decide)).symm)) (by omega) hP
  · refine wz_i0 (i3O (n := 4400) (rfl : i3 n = i3 n) (by omega) (by omega) (by omega)) ?_
    refine wz_i0 (i3O (n := 4400) (rfl : i3 n = i3 n) (by omega) (by omega) (by omega)) ?_
    obtain ⟨Z2, hZ2⟩ := zx (zpq Z 2 0 0 0 100 0 0 0 (n + 1))
    have hz := hZ2.trans (zpq_s (by decide) h0 (by omega : n = 0 + n) (by omega : n = 0 + n))
    intro μ9 e9
    replace e9 := e9.trans (zm_wI (ν := ν) hz (show ((0 : Nat) : Int) = 0 from rfl) (show ((0 : Nat) : Int) = 0 from rfl) (i3I (y := n) (rfl : i3 n = i3 n) (by omega) (by omega) (by omega)) (zm_rd (ν := ν) (k := 2) (show ((0 : Nat) : Int) = 0 from rfl) (show ((0 : Nat) : Int) = 0 from rfl) (i3I (y := n) (rfl : i3 n = i3 n) (by omega) (by omega) (by omega))))
    subst e9
    obtain ⟨m2, rfl⟩ : ∃ m2, m = m2 + 1 := ⟨m - 1, by omega⟩
    exact wz_k1 ⟨m2, by omega, n + 1, (zconso rfl (zconso (zvo (rfl : i3 x1 = i3 x1)) (zconso rfl (zconso (zvo (i3A (rfl : i3 n = i3 n) (show (1 : Int32) = i3 1 from rfl))) (zconso rfl (zconso rfl (zconso rfl rfl))))))), by rw [hZ2], by omega, by omega, by omega⟩
/- yX12_iFindMost -/
def zl_356_2 (x1 : Int) (x3 : Int) : Nat → qz_Z → Int → qz_Z × Int
  | 0, Z, x4 => (Z, x4)
  | m + 1, Z, x4 => (if ((x3 * x3) * x3) ≤ x4 then (Z, x4) else (if (Z 2 0 0 1200) ≤ ((x4 / x3) / x3) then (if (Z 2 0 0 1200) ≤ ((x4 / x3) % x3) then (if (Z 2 0 0 1200) ≤ (x4 % x3) then (zlet2 (zf_369 Z x1 777) (fun Z13 v14 => (if v14 ≤ (Z13 1 0 0 31) then zl_356_2 x1 x3 m Z13 (x4 + 1) else (zlet (zu Z13 1 0 0 31 v14) (fun Z19 => (zlet (zu Z19 1 0 0 32 777) (fun Z20 => zl_356_2 x1 x3 m Z20 (x4 + 1)))))))) else (zlet2 (zf_369 Z x1 (770 + ((x4 % x3) + 1))) (fun Z23 v24 => (if v24 ≤ (Z23 1 0 0 31) then zl_356_2 x1 x3 m Z23 (x4 + 1) else (zlet (zu Z23 1 0 0 31 v24) (fun Z29 => (zlet (zu Z29 1 0 0 32 (770 + ((x4 % x3) + 1))) (fun Z30 => zl_356_2 x1 x3 m Z30 (x4 + 1))))))))) else (if (Z 2 0 0 1200) ≤ (x4 % x3) then (zlet2 (zf_369 Z x1 ((700 + (10 * (((x4 / x3) % x3) + 1))) + 7)) (fun Z35 v36 => (if v36 ≤ (Z35 1 0 0 31) then zl_356_2 x1 x3 m Z35 (x4 + 1) else (zlet (zu Z35 1 0 0 31 v36) (fun Z41 => (zlet (zu Z41 1 0 0 32 ((700 + (10 * (((x4 / x3) % x3) + 1))) + 7)) (fun Z42 => zl_356_2 x1 x3 m Z42 (x4 + 1)))))))) else (zlet2 (zf_369 Z x1 ((700 + (10 * (((x4 / x3) % x3) + 1))) + ((x4 % x3) + 1))) (fun Z45 v46 => (if v46 ≤ (Z45 1 0 0 31) then zl_356_2 x1 x3 m Z45 (x4 + 1) else (zlet (zu Z45 1 0 0 31 v46) (fun Z51 => (zlet (zu Z51 1 0 0 32 ((700 + (10 * (((x4 / x3) % x3) + 1))) + ((x4 % x3) + 1))) (fun Z52 => zl_356_2 x1 x3 m Z52 (x4 + 1)))))))))) else (if (Z 2 0 0 1200) ≤ ((x4 / x3) % x3) then (if (Z 2 0 0 1200) ≤ (x4 % x3) then (zlet2 (zf_369 Z x1 (((100 * (((x4 / x3) / x3) + 1)) + 70) + 7)) (fun Z59 v60 => (if v60 ≤ (Z59 1 0 0 31) then zl_356_2 x1 x3 m Z59 (x4 + 1) else (zlet (zu Z59 1 0 0 31 v60) (fun Z65 => (zlet (zu Z65 1 0 0 32 (((100 * (((x4 / x3) / x3) + 1)) + 70) + 7)) (fun Z66 => zl_356_2 x1 x3 m Z66 (x4 + 1)))))))) else (zlet2 (zf_369 Z x1 (((100 * (((x4 / x3) / x3) + 1)) + 70) + ((x4 % x3) + 1))) (fun Z69 v70 => (if v70 ≤ (Z69 1 0 0 31) then zl_356_2 x1 x3 m Z69 (x4 + 1) else (zlet (zu Z69 1 0 0 31 v70) (fun Z75 => (zlet (zu Z75 1 0 0 32 (((100 * (((x4 / x3) / x3) + 1)) + 70) + ((x4 % x3) + 1))) (fun Z76 => zl_356_2 x1 x3 m Z76 (x4 + 1))))))))) else (if (Z 2 0 0 1200) ≤ (x4 % x3) then (zlet2 (zf_369 Z x1 (((100 * (((x4 / x3) / x3) + 1)) + (10 * (((x4 / x3) % x3) + 1))) + 7)) (fun Z81 v82 => (if v82 ≤ (Z81 1 0 0 31) then zl_356_2 x1 x3 m Z81 (x4 + 1) else (zlet (zu Z81 1 0 0 31 v82) (fun Z87 => (zlet (zu Z87 1 0 0 32 (((100 * (((x4 / x3) / x3) + 1)) + (10 * (((x4 / x3) % x3) + 1))) + 7)) (fun Z88 => zl_356_2 x1 x3 m Z88 (x4 + 1)))))))) else (zlet2 (zf_369 Z x1 (((100 * (((x4 / x3) / x3) + 1)) + (10 * (((x4 / x3) % x3) + 1))) + ((x4 % x3) + 1))) (fun Z91 v92 => (if v92 ≤ (Z91 1 0 0 31) then zl_356_2 x1 x3 m Z91 (x4 + 1) else (zlet (zu Z91 1 0 0 31 v92) (fun Z97 => (zlet (zu Z97 1 0 0 32 (((100 * (((x4 / x3) / x3) + 1)) + (10 * (((x4 / x3) % x3) + 1))) + ((x4 % x3) + 1))) (fun Z98 => zl_356_2 x1 x3 m Z98 (x4 + 1))))))))))))
theorem sl_356_2 {s : zSM} {xM9 : Nat} {Zs Z : qz_Z} {ν : qz_N} (hZ : zM (zb s xM9) Z) (hM : s.2 + 8360576 ≤ 1000000000) (hK : zC [1, 2, 1200] Zs Z) {x1 : Int} (gx1 : 0 ≤ x1 ∧ x1 ≤ 1) {x3 : Int} (gx3 : 1 ≤ x3 ∧ x3 ≤ 7) {x4 : Int} (gx4 : 0 ≤ x4 ∧ x4 ≤ 343) (hU : zU [] Zs Z) (hx9 : xM9 + 24304 * ((343 - x4).toNat) + 24304 ≤ 8360576) (gr0 : Z 100 0 0 0 ≤ 668) {k : wz_K} {R : wz_R} {L : qz_L} (hL : qz_fg [true, true, false, true, true, false, false] L = [some (.inr (.inr (some (1, 0, 0)))), some (.inl (i3 x1)), none, some (.inl (i3 x3)), some (.inl (i3 x4)), none, none]) {T : qz_Z × Int} (hP : zE T (zl_356_2 x1 x3 ((343 - x4).toNat + 1) Z x4)) (hk : ∀ (L9 : qz_L) (Z9 : qz_Z) (yx4 : Int), qz_fg [true, false, false, false, false, false, false] L9 = [some (.inr (.inr (some (1, 0, 0)))), none, none, none, none, none, none] → zM (zb s 8360576) Z9 → zC [1, 2, 1200] Zs Z9 → zU [] Zs Z9 → (0 ≤ yx4 ∧ yx4 ≤ 343) → (Z9 100 0 0 0 ≤ 668) → zE T ((Z9, yx4)) → k 0 (L9, [], zm Z9 ν)) : wz_loop qb_356_2 65536 k R (L, [], zm Z ν) := by
  refine wz_lp sb_356_2 (fun m x => ∃ xM9 : Nat, ∃ Z : qz_Z, ∃ x4 : Int, qz_fg [true, true, false, true, true, false, false] x.1 = [some (.inr (.inr (some (1, 0, 0)))), some (.inl (i3 x1)), none, some (.inl (i3 x3)), some (.inl (i3 x4)), none, none] ∧ x.2 = ([], zm Z ν) ∧ xM9 + 24304 * m + 24304 ≤ 8360576 ∧ zM (zb s xM9) Z ∧ zC [1, 2, 1200] Zs Z ∧ zU [] Zs Z ∧ m = (343 - x4).toNat ∧ (0 ≤ x4 ∧ x4 ≤ 343) ∧ (Z 100 0 0 0 ≤ 668) ∧ zE T (zl_356_2 x1 x3 (m + 1) Z x4)) ?_ 65536 ((343 - x4).toNat) _ (by omega) ⟨xM9, Z, x4, hL, rfl, hx9, hZ, hK, hU, rfl, gx4, gr0, hP⟩
  clear hP gr0 gx4 hx9 hZ hK hU hL
  clear x4
  clear Z
  clear xM9
  rintro m ⟨L, st, μ⟩ ⟨xM9, Z, x4, hL, hx, hx9, hZ, hK, hU, hm, gx4, gr0, hP⟩
  cases hx
  have hM9 : (zb s xM9).2 + 24304 ≤ 1000000000 := by
    show s.2 + xM9 + 24304 ≤ 1000000000
    omega
  refine fb_356_2 (i3 x1) (i3 x3) (i3 x4) _ _ _ _ hL ?_
  have r1 := zM_f hZ 100 0 0 0
  have r2 := z_mul (x := x3) (y := x3) (a := 7) (b := 7) (by omega) (by omega) (by omega) (by omega)
  have r3 := z_mul (x := (x3 * x3)) (y := x3) (a := 49) (b := 7) (by omega) (by omega) (by omega) (by omega)
  refine wz_br (i3Le (i3M (i3M (rfl : i3 x3 = i3 x3) (rfl : i3 x3 = i3 x3)) (rfl : i3 x3 = i3 x3)) (rfl : i3 x4 = i3 x4) (by omega) (by omega) (by omega) (by omega)) (fun h4 => ?_) (fun h4 => ?_)
  · replace hP := zE_p hP h4
    exact hk _ _ _ (zconso rfl (zconso rfl (zconso rfl (zconso rfl (zconso rfl (zconso rfl (zconso rfl rfl))))))) (zmx0 hZ (by omega)) hK hU (by omega) (by omega) hP
  · replace hP := zE_n hP h4
    refine wz_i0 (i3N0 (rfl : i3 x3 = i3 x3) (by omega) (by omega) (by omega)) ?_
    refine wz_i0 (i3N0 (rfl : i3 x3 = i3 x3) (by omega) (by omega) (by omega)) ?_
    have r5 := zM_k hZ 2 0 0 1200 (lo := 0) (hi := 6) (by decide) rfl
    have r6 := z_div (x := x4) (y := x3) (by omega) (by omega)
    have r7 := z_div (x := (x4 / x3)) (y := x3) (by omega) (by omega)
    refine wz_br (i3Le (zm_rd (Z := Z) (ν := ν) (k := 2) (show ((0 : Nat) : Int) = 0 from rfl) (show ((0 : Nat) : Int) = 0 from rfl) (show ((1200 : Nat) : Int) = 1200 from rfl)) (i3D (i3D (rfl : i3 x4 = i3 x4) (rfl : i3 x3 = i3 x3) (by omega) (by omega) (by omega) (by omega)) (rfl : i3 x3 = i3 x3) (by omega) (by omega) (by omega) (by omega)) (by omega) (by omega) (by omega) (by omega)) (fun h8 => ?_) (fun h8 => ?_)
    · replace hP := zE_p hP h8
      refine wz_i0 (i3N0 (rfl : i3 x3 = i3 x3) (by omega) (by omega) (by omega)) ?_
      refine wz_i0 (i3N0 (rfl : i3 x3 = i3 x3) (by omega) (by omega) (by omega)) ?_
      have r9 := z_mod (x4 / x3) (y := x3) (by omega)
      refine wz_br (i3Le (zm_rd (Z := Z) (ν := ν) (k := 2) (show ((0 : Nat) : Int) = 0 from rfl) (show ((0 : Nat) : Int) = 0 from rfl) (show ((1200 : Nat) : Int) = 1200 from rfl)) (i3R (i3D (rfl : i3 x4 = i3 x4) (rfl : i3 x3 = i3 x3) (by omega) (by omega) (by omega) (by omega)) (rfl : i3 x3 = i3 x3) (by omega) (by omega) (by omega) (by omega)) (by omega) (by omega) (by omega) (by omega)) (fun h10 => ?_) (fun h10 => ?_)
      · replace hP := zE_p hP h10
        refine wz_i0 (i3N0 (rfl : i3 x3 = i3 x3) (by omega) (by omega) (by omega)) ?_
        have r11 := z_mod x4 (y := x3) (by omega)
        refine wz_br (i3Le (zm_rd (Z := Z) (ν := ν) (k := 2) (show ((0 : Nat) : Int) = 0 from rfl) (show ((0 : Nat) : Int) = 0 from rfl) (show ((1200 : Nat) : Int) = 1200 from rfl)) (i3R (rfl : i3 x4 = i3 x4) (rfl : i3 x3 = i3 x3) (by omega) (by omega) (by omega) (by omega)) (by omega) (by omega) (by omega) (by omega)) (fun h12 => ?_) (fun h12 => ?_)
        · replace hP := zE_p hP h12
          obtain ⟨Z13, v14, hv14, c9, hZ13I, kZ13, jZ13, lv14, uv14⟩ := sp_369 (ν := ν) hZ (a1 := x1) (by omega) (a2 := 777) (by omega) (by omega) (zbh (c := 0) (k := 24304) hM9 (Nat.le_of_ble_eq_true rfl))
          have hZ13U : zU [] Zs Z13 := zU_t hU jZ13 zU_b0
          have hZ13K : zC [1, 2, 1200] Zs Z13 := zC_t hK kZ13 (by decide)
          replace hP := zl_e2 hP hv14
          refine wz_cI_of (zas (zcons rfl (zcons (zvi (rfl : i3 x1 = i3 x1)) (zcons (zvi (show (777 : Int32) = i3 777 from rfl)) rfl))) c9) ?_
          clear c9 hv14
          have r15 := zM_f hZ13I 1 0 0 31
          refine wz_br (i3Le (rfl : i3 v14 = i3 v14) (zm_rd (Z := Z13) (ν := ν) (k := 1) (show ((0 : Nat) : Int) = 0 from rfl) (show ((0 : Nat) : Int) = 0 from rfl) (show ((31 : Nat) : Int) = 31 from rfl)) (by omega) (by omega) (by omega) (by omega)) (fun h16 => ?_) (fun h16 => ?_)
          · replace hP := zE_p hP h16
            have r17 := zM_f hZ13I 100 0 0 0
            have q18 := kZ13 100 0 0 0 (by decide)
            obtain ⟨m2, rfl⟩ : ∃ m2, m = m2 + 1 := ⟨m - 1, by omega⟩
            exact wz_k1 ⟨m2, by omega, xM9 + 24304, Z13, (x4 + 1), (zconso rfl (zconso (zvo (rfl : i3 x1 = i3 x1)) (zconso rfl (zconso (zvo (rfl : i3 x3 = i3 x3)) (zconso (zvo (i3A (rfl : i3 x4 = i3 x4) (show (1 : Int32) = i3 1 from rfl))) (zconso rfl (zconso rfl rfl))))))), rfl, by omega, (zmt hZ13I rfl), hZ13K, hZ13U, by omega, by omega, by omega,  hP⟩
          · replace hP := zE_n hP h16
            obtain ⟨Z19, hZ19⟩ := zx (zu Z13 1 0 0 31 v14)
            replace hP := zl_e hP hZ19
            have hZ19I := zM_u hZ13I hZ19 (lo := -2147483648) (hi := 2147483647) (by decide) rfl (by omega) ⟨by decide, by decide⟩ (Or.inr (by decide)) rfl
            have hZ19U : zU [] Zs Z19 := zU_u hZ13U hZ19 (Or.inl rfl)
            have hZ19K : zC [1, 2, 1200] Zs Z19 := zC_u hZ13K hZ19 (by decide)
            intro μ9 e9
            replace e9 := e9.trans (zm_wI (Z := Z13) (ν := ν) hZ19 (show ((0 : Nat) : Int) = 0 from rfl) (show ((0 : Nat) : Int) = 0 from rfl) (show ((31 : Nat) : Int) = 31 from rfl) (rfl : i3 v14 = i3 v14))
            subst e9
            obtain ⟨Z20, hZ20⟩ := zx (zu Z19 1 0 0 32 777)
            replace hP := zl_e hP hZ20
            have hZ20I := zM_u hZ19I hZ20 (lo := -2147483648) (hi := 2147483647) (by decide) rfl (by omega) ⟨by decide, by decide⟩ (Or.inr (by decide)) rfl
            have hZ20U : zU [] Zs Z20 := zU_u hZ19U hZ20 (Or.inl rfl)
            have hZ20K : zC [1, 2, 1200] Zs Z20 := zC_u hZ19K hZ20 (by decide)
            intro μ9 e9
            replace e9 := e9.trans (zm_wI (Z := Z19) (ν := ν) hZ20 (show ((0 : Nat) : Int) = 0 from rfl) (show ((0 : Nat) : Int) = 0 from rfl) (show ((32 : Nat) : Int) = 32 from rfl) (show (777 : Int32) = i3 777 from rfl))
            subst e9
            have r21 := zM_f hZ20I 100 0 0 0
            have q22 := (zu_ne (k' := 100) (b' := 0) (i' := 0) (j' := 0) hZ20 (fun q => absurd q.1 (by decide))).trans ((zu_ne (k' := 100) (b' := 0) (i' := 0) (j' := 0) hZ19 (fun q => absurd q.1 (by decide))).trans (kZ13 100 0 0 0 (by decide)))
            obtain ⟨m2, rfl⟩ : ∃ m2, m = m2 + 1 := ⟨m - 1, by omega⟩
            exact wz_k1 ⟨m2, by omega, xM9 + 24304, Z20, (x4 + 1), (zconso rfl (zconso (zvo (rfl : i3 x1 = i3 x1)) (zconso rfl (zconso (zvo (rfl : i3 x3 = i3 x3)) (zconso (zvo (i3A (rfl : i3 x4 = i3 x4) (show (1 : Int32) = i3 1 from rfl))) (zconso rfl (zconso rfl rfl))))))), rfl, by omega, (zmt hZ20I rfl), hZ20K, hZ20U, by omega, by omega, by omega,  hP⟩
        · replace hP := zE_n hP h12
          obtain ⟨Z23, v24, hv24, c9, hZ23I, kZ23, jZ23, lv24, uv24⟩ := sp_369 (ν := ν) hZ (a1 := x1) (by omega) (a2 := (770 + ((x4 % x3) + 1))) (by omega) (by omega) (zbh (c := 0) (k := 24304) hM9 (Nat.le_of_ble_eq_true rfl))
          have hZ23U : zU [] Zs Z23 := zU_t hU jZ23 zU_b0
          have hZ23K : zC [1, 2, 1200] Zs Z23 := zC_t hK kZ23 (by decide)
          replace hP := zl_e2 hP hv24
          refine wz_cI_of (zas (zcons rfl (zcons (zvi (rfl : i3 x1 = i3 x1)) (zcons (zvi (i3A (show (770 : Int32) = i3 770 from rfl) (i3A (i3R (rfl : i3 x4 = i3 x4) (rfl : i3 x3 = i3 x3) (by omega) (by omega) (by omega) (by omega)) (show (1 : Int32) = i3 1 from rfl)))) rfl))) c9) ?_
          clear c9 hv24
          have r25 := zM_f hZ23I 1 0 0 31
          refine wz_br (i3Le (rfl : i3 v24 = i3 v24) (zm_rd (Z := Z23) (ν := ν) (k := 1) (show ((0 : Nat) : Int) = 0 from rfl) (show ((0 : Nat) : Int) = 0 from rfl) (show ((31 : Nat) : Int) = 31 from rfl)) (by omega) (by omega) (by omega) (by omega)) (fun h26 => ?_) (fun h26 => ?_)
          · replace hP := zE_p hP h26
            have r27 := zM_f hZ23I 100 0 0 0
            have q28 := kZ23 100 0 0 0 (by decide)
            obtain ⟨m2, rfl⟩ : ∃ m2, m = m2 + 1 := ⟨m - 1, by omega⟩
            exact wz_k1 ⟨m2, by omega, xM9 + 24304, Z23, (x4 + 1), (zconso rfl (zconso (zvo (rfl : i3 x1 = i3 x1)) (zconso rfl (zconso (zvo (rfl : i3 x3 = i3 x3)) (zconso (zvo (i3A (rfl : i3 x4 = i3 x4) (show (1 : Int32) = i3 1 from rfl))) (zconso rfl (zconso rfl rfl))))))), rfl, by omega, (zmt hZ23I rfl), hZ23K, hZ23U, by omega, by omega, by omega,  hP⟩
          · replace hP := zE_n hP h26
            obtain ⟨Z29, hZ29⟩ := zx (zu Z23 1 0 0 31 v24)
            replace hP := zl_e hP hZ29
            have hZ29I := zM_u hZ23I hZ29 (lo := -2147483648) (hi := 2147483647) (by decide) rfl (by omega) ⟨by decide, by decide⟩ (Or.inr (by decide)) rfl
            have hZ29U : zU [] Zs Z29 := zU_u hZ23U hZ29 (Or.inl rfl)
            have hZ29K : zC [1, 2, 1200] Zs Z29 := zC_u hZ23K hZ29 (by decide)
            intro μ9 e9
            replace e9 := e9.trans (zm_wI (Z := Z23) (ν := ν) hZ29 (show ((0 : Nat) : Int) = 0 from rfl) (show ((0 : Nat) : Int) = 0 from rfl) (show ((31 : Nat) : Int) = 31 from rfl) (rfl : i3 v24 = i3 v24))
            subst e9
            obtain ⟨Z30, hZ30⟩ := zx (zu Z29 1 0 0 32 (770 + ((x4 % x3) + 1)))
            replace hP := zl_e hP hZ30
            have hZ30I := zM_u hZ29I hZ30 (lo := -2147483648) (hi := 2147483647) (by decide) rfl (by omega) ⟨by decide, by decide⟩ (Or.inr (by decide)) rfl
            have hZ30U : zU [] Zs Z30 := zU_u hZ29U hZ30 (Or.inl rfl)
            have hZ30K : zC [1, 2, 1200] Zs Z30 := zC_u hZ29K hZ30 (by decide)
            intro μ9 e9
            replace e9 := e9.trans (zm_wI (Z := Z29) (ν := ν) hZ30 (show ((0 : Nat) : Int) = 0 from rfl) (show ((0 : Nat) : Int) = 0 from rfl) (show ((32 : Nat) : Int) = 32 from rfl) (i3A (show (770 : Int32) = i3 770 from rfl) (i3A (i3R (rfl : i3 x4 = i3 x4) (rfl : i3 x3 = i3 x3) (by omega) (by omega) (by omega) (by omega)) (show (1 : Int32) = i3 1 from rfl))))
            subst e9
            have r31 := zM_f hZ30I 100 0 0 0
            have q32 := (zu_ne (k' := 100) (b' := 0) (i' := 0) (j' := 0) hZ30 (fun q => absurd q.1 (by decide))).trans ((zu_ne (k' := 100) (b' := 0) (i' := 0) (j' := 0) hZ29 (fun q => absurd q.1 (by decide))).trans (kZ23 100 0 0 0 (by decide)))
            obtain ⟨m2, rfl⟩ : ∃ m2, m = m2 + 1 := ⟨m - 1, by omega⟩
            exact wz_k1 ⟨m2, by omega, xM9 + 24304, Z30, (x4 + 1), (zconso rfl (zconso (zvo (rfl : i3 x1 = i3 x1)) (zconso rfl (zconso (zvo (rfl : i3 x3 = i3 x3)) (zconso (zvo (i3A (rfl : i3 x4 = i3 x4) (show (1 : Int32) = i3 1 from rfl))) (zconso rfl (zconso rfl rfl))))))), rfl, by omega, (zmt hZ30I rfl), hZ30K, hZ30U, by omega, by omega, by omega,  hP⟩
      · replace hP := zE_n hP h10
        refine wz_i0 (i3N0 (rfl : i3 x3 = i3 x3) (by omega) (by omega) (by omega)) ?_
        have r33 := z_mod x4 (y := x3) (by omega)
        refine wz_br (i3Le (zm_rd (Z := Z) (ν := ν) (k := 2) (show ((0 : Nat) : Int) = 0 from rfl) (show ((0 : Nat) : Int) = 0 from rfl) (show ((1200 : Nat) : Int) = 1200 from rfl)) (i3R (rfl : i3 x4 = i3 x4) (rfl : i3 x3 = i3 x3) (by omega) (by omega) (by omega) (by omega)) (by omega) (by omega) (by omega) (by omega)) (fun h34 => ?_) (fun h34 => ?_)
        · replace hP := zE_p hP h34
          obtain ⟨Z35, v36, hv36, c9, hZ35I, kZ35, jZ35, lv36, uv36⟩ := sp_369 (ν := ν) hZ (a1 := x1) (by omega) (a2 := ((700 + (10 * (((x4 / x3) % x3) + 1))) + 7)) (by omega) (by omega) (zbh (c := 0) (k := 24304) hM9 (Nat.le_of_ble_eq_true rfl))
          have hZ35U : zU [] Zs Z35 := zU_t hU jZ35 zU_b0
          have hZ35K : zC [1, 2, 1200] Zs Z35 := zC_t hK kZ35 (by decide)
          replace hP := zl_e2 hP hv36
          refine wz_cI_of (zas (zcons rfl (zcons (zvi (rfl : i3 x1 = i3 x1)) (zcons (zvi (i3A (i3A (show (700 : Int32) = i3 700 from rfl) (i3M (show (10 : Int32) = i3 10 from rfl) (i3A (i3R (i3D (rfl : i3 x4 = i3 x4) (rfl : i3 x3 = i3 x3) (by omega) (by omega) (by omega) (by omega)) (rfl : i3 x3 = i3 x3) (by omega) (by omega) (by omega) (by omega)) (show (1 : Int32) = i3 1 from rfl)))) (show (7 : Int32) = i3 7 from rfl))) rfl))) c9) ?_
          clear c9 hv36
          have r37 := zM_f hZ35I 1 0 0 31
          refine wz_br (i3Le (rfl : i3 v36 = i3 v36) (zm_rd (Z := Z35) (ν := ν) (k := 1) (show ((0 : Nat) : Int) = 0 from rfl) (show ((0 : Nat) : Int) = 0 from rfl) (show ((31 : Nat) : Int) = 31 from rfl)) (by omega) (by omega) (by omega) (by omega)) (fun h38 => ?_) (fun h38 => ?_)
          · replace hP := zE_p hP h38
            have r39 := zM_f hZ35I 100 0 0 0
            have q40 := kZ35 100 0 0 0 (by decide)
            obtain ⟨m2, rfl⟩ : ∃ m2, m = m2 + 1 := ⟨m - 1, by omega⟩
            exact wz_k1 ⟨m2, by omega, xM9 + 24304, Z35, (x4 + 1), (zconso rfl (zconso (zvo (rfl : i3 x1 = i3 x1)) (zconso rfl (zconso (zvo (rfl : i3 x3 = i3 x3)) (zconso (zvo (i3A (rfl : i3 x4 = i3 x4) (show (1 : Int32) = i3 1 from rfl))) (zconso rfl (zconso rfl rfl))))))), rfl, by omega, (zmt hZ35I rfl), hZ35K, hZ35U, by omega, by omega, by omega,  hP⟩
          · replace hP := zE_n hP h38
            obtain ⟨Z41, hZ41⟩ := zx (zu Z35 1 0 0 31 v36)
            replace hP := zl_e hP hZ41
            have hZ41I := zM_u hZ35I hZ41 (lo := -2147483648) (hi := 2147483647) (by decide) rfl (by omega) ⟨by decide, by decide⟩ (Or.inr (by decide)) rfl
            have hZ41U : zU [] Zs Z41 := zU_u hZ35U hZ41 (Or.inl rfl)
            have hZ41K : zC [1, 2, 1200] Zs Z41 := zC_u hZ35K hZ41 (by decide)
            intro μ9 e9
            replace e9 := e9.trans (zm_wI (Z := Z35) (ν := ν) hZ41 (show ((0 : Nat) : Int) = 0 from rfl) (show ((0 : Nat) : Int) = 0 from rfl) (show ((31 : Nat) : Int) = 31 from rfl) (rfl : i3 v36 = i3 v36))
            subst e9
            obtain ⟨Z42, hZ42⟩ := zx (zu Z41 1 0 0 32 ((700 + (10 * (((x4 / x3) % x3) + 1))) + 7))
            replace hP := zl_e hP hZ42
            have hZ42I := zM_u hZ41I hZ42 (lo := -2147483648) (hi := 2147483647) (by decide) rfl (by omega) ⟨by decide, by decide⟩ (Or.inr (by decide)) rfl
            have hZ42U : zU [] Zs Z42 := zU_u hZ41U hZ42 (Or.inl rfl)
            have hZ42K : zC [1, 2, 1200] Zs Z42 := zC_u hZ41K hZ42 (by decide)
            intro μ9 e9
            replace e9 := e9.trans (zm_wI (Z := Z41) (ν := ν) hZ42 (show ((0 : Nat) : Int) = 0 from rfl) (show ((0 : Nat) : Int) = 0 from rfl) (show ((32 : Nat) : Int) = 32 from rfl) (i3A (i3A (show (700 : Int32) = i3 700 from rfl) (i3M (show (10 : Int32) = i3 10 from rfl) (i3A (i3R (i3D (rfl : i3 x4 = i3 x4) (rfl : i3 x3 = i3 x3) (by omega) (by omega) (by omega) (by omega)) (rfl : i3 x3 = i3 x3) (by omega) (by omega) (by omega) (by omega)) (show (1 : Int32) = i3 1 from rfl)))) (show (7 : Int32) = i3 7 from rfl)))
            subst e9
            have r43 := zM_f hZ42I 100 0 0 0
            have q44 := (zu_ne (k' := 100) (b' := 0) (i' := 0) (j' := 0) hZ42 (fun q => absurd q.1 (by decide))).trans ((zu_ne (k' := 100) (b' := 0) (i' := 0) (j' := 0) hZ41 (fun q => absurd q.1 (by decide))).trans (kZ35 100 0 0 0 (by decide)))
            obtain ⟨m2, rfl⟩ : ∃ m2, m = m2 + 1 := ⟨m - 1, by omega⟩
            exact wz_k1 ⟨m2, by omega, xM9 + 24304, Z42, (x4 + 1), (zconso rfl (zconso (zvo (rfl : i3 x1 = i3 x1)) (zconso rfl (zconso (zvo (rfl : i3 x3 = i3 x3)) (zconso (zvo (i3A (rfl : i3 x4 = i3 x4) (show (1 : Int32) = i3 1 from rfl))) (zconso rfl (zconso rfl rfl))))))), rfl, by omega, (zmt hZ42I rfl), hZ42K, hZ42U, by omega, by omega, by omega,  hP⟩
        · replace hP := zE_n hP h34
          obtain ⟨Z45, v46, hv46, c9, hZ45I, kZ45, jZ45, lv46, uv46⟩ := sp_369 (ν := ν) hZ (a1 := x1) (by omega) (a2 := ((700 + (10 * (((x4 / x3) % x3) + 1))) + ((x4 % x3) + 1))) (by omega) (by omega) (zbh (c := 0) (k := 24304) hM9 (Nat.le_of_ble_eq_true rfl))
          have hZ45U : zU [] Zs Z45 := zU_t hU jZ45 zU_b0
          have hZ45K : zC [1, 2, 1200] Zs Z45 := zC_t hK kZ45 (by decide)
          replace hP := zl_e2 hP hv46
          refine wz_cI_of (zas (zcons rfl (zcons (zvi (rfl : i3 x1 = i3 x1)) (zcons (zvi (i3A (i3A (show (700 : Int32) = i3 700 from rfl) (i3M (show (10 : Int32) = i3 10 from rfl) (i3A (i3R (i3D (rfl : i3 x4 = i3 x4) (rfl : i3 x3 = i3 x3) (by omega) (by omega) (by omega) (by omega)) (rfl : i3 x3 = i3 x3) (by omega) (by omega) (by omega) (by omega)) (show (1 : Int32) = i3 1 from rfl)))) (i3A (i3R (rfl : i3 x4 = i3 x4) (rfl : i3 x3 = i3 x3) (by omega) (by omega) (by omega) (by omega)) (show (1 : Int32) = i3 1 from rfl)))) rfl))) c9) ?_
          clear c9 hv46
          have r47 := zM_f hZ45I 1 0 0 31
          refine wz_br (i3Le (rfl : i3 v46 = i3 v46) (zm_rd (Z := Z45) (ν := ν) (k := 1) (show ((0 : Nat) : Int) = 0 from rfl) (show ((0 : Nat) : Int) = 0 from rfl) (show ((31 : Nat) : Int) = 31 from rfl)) (by omega) (by omega) (by omega) (by omega)) (fun h48 => ?_) (fun h48 => ?_)
          · replace hP := zE_p hP h48
            have r49 := zM_f hZ45I 100 0 0 0
            have q50 := kZ45 100 0 0 0 (by decide)
            obtain ⟨m2, rfl⟩ : ∃ m2, m = m2 + 1 := ⟨m - 1, by omega⟩
            exact wz_k1 ⟨m2, by omega, xM9 + 24304, Z45, (x4 + 1), (zconso rfl (zconso (zvo (rfl : i3 x1 = i3 x1)) (zconso rfl (zconso (zvo (rfl : i3 x3 = i3 x3)) (zconso (zvo (i3A (rfl : i3 x4 = i3 x4) (show (1 : Int32) = i3 1 from rfl))) (zconso rfl (zconso rfl rfl))))))), rfl, by omega, (zmt hZ45I rfl), hZ45K, hZ45U, by omega, by omega, by omega,  hP⟩
          · replace hP := zE_n hP h48
            obtain ⟨Z51, hZ51⟩ := zx (zu Z45 1 0 0 31 v46)
            replace hP := zl_e hP hZ51
            have hZ51I := zM_u hZ45I hZ51 (lo := -2147483648) (hi := 2147483647) (by decide) rfl (by omega) ⟨by decide, by decide⟩ (Or.inr (by decide)) rfl
            have hZ51U : zU [] Zs Z51 := zU_u hZ45U hZ51 (Or.inl rfl)
            have hZ51K : zC [1, 2, 1200] Zs Z51 := zC_u hZ45K hZ51 (by decide)
            intro μ9 e9
            replace e9 := e9.trans (zm_wI (Z := Z45) (ν := ν) hZ51 (show ((0 : Nat) : Int) = 0 from rfl) (show ((0 : Nat) : Int) = 0 from rfl) (show ((31 : Nat) : Int) = 31 from rfl) (rfl : i3 v46 = i3 v46))
            subst e9
            obtain ⟨Z52, hZ52⟩ := zx (zu Z51 1 0 0 32 ((700 + (10 * (((x4 / x3) % x3) + 1))) + ((x4 % x3) + 1)))
            replace hP := zl_e hP hZ52
            have hZ52I := zM_u hZ51I hZ52 (lo := -2147483648) (hi := 2147483647) (by decide) rfl (by omega) ⟨by decide, by decide⟩ (Or.inr (by decide)) rfl
            have hZ52U : zU [] Zs Z52 := zU_u hZ51U hZ52 (Or.inl rfl)
            have hZ52K : zC [1, 2, 1200] Zs Z52 := zC_u hZ51K hZ52 (by decide)
            intro μ9 e9
            replace e9 := e9.trans (zm_wI (Z := Z51) (ν := ν) hZ52 (show ((0 : Nat) : Int) = 0 from rfl) (show ((0 : Nat) : Int) = 0 from rfl) (show ((32 : Nat) : Int) = 32 from rfl) (i3A (i3A (show (700 : Int32) = i3 700 from rfl) (i3M (show (10 : Int32) = i3 10 from rfl) (i3A (i3R (i3D (rfl : i3 x4 = i3 x4) (rfl : i3 x3 = i3 x3) (by omega) (by omega) (by omega) (by omega)) (rfl : i3 x3 = i3 x3) (by omega) (by omega) (by omega) (by omega)) (show (1 : Int32) = i3 1 from rfl)))) (i3A (i3R (rfl : i3 x4 = i3 x4) (rfl : i3 x3 = i3 x3) (by omega) (by omega) (by omega) (by omega)) (show (1 : Int32) = i3 1 from rfl))))
            subst e9
            have r53 := zM_f hZ52I 100 0 0 0
            have q54 := (zu_ne (k' := 100) (b' := 0) (i' := 0) (j' := 0) hZ52 (fun q => absurd q.1 (by decide))).trans ((zu_ne (k' := 100) (b' := 0) (i' := 0) (j' := 0) hZ51 (fun q => absurd q.1 (by decide))).trans (kZ45 100 0 0 0 (by decide)))
            obtain ⟨m2, rfl⟩ : ∃ m2, m = m2 + 1 := ⟨m - 1, by omega⟩
            exact wz_k1 ⟨m2, by omega, xM9 + 24304, Z52, (x4 + 1), (zconso rfl (zconso (zvo (rfl : i3 x1 = i3 x1)) (zconso rfl (zconso (zvo (rfl : i3 x3 = i3 x3)) (zconso (zvo (i3A (rfl : i3 x4 = i3 x4) (show (1 : Int32) = i3 1 from rfl))) (zconso rfl (zconso rfl rfl))))))), rfl, by omega, (zmt hZ52I rfl), hZ52K, hZ52U, by omega, by omega, by omega,  hP⟩
    · replace hP := zE_n hP h8
      refine wz_i0 (i3N0 (rfl : i3 x3 = i3 x3) (by omega) (by omega) (by omega)) ?_
      refine wz_i0 (i3N0 (rfl : i3 x3 = i3 x3) (by omega) (by omega) (by omega)) ?_
      have r55 := z_mod (x4 / x3) (y := x3) (by omega)
      refine wz_br (i3Le (zm_rd (Z := Z) (ν := ν) (k := 2) (show ((0 : Nat) : Int) = 0 from rfl) (show ((0 : Nat) : Int) = 0 from rfl) (show ((1200 : Nat) : Int) = 1200 from rfl)) (i3R (i3D (rfl : i3 x4 = i3 x4) (rfl : i3 x3 = i3 x3) (by omega) (by omega) (by omega) (by omega)) (rfl : i3 x3 = i3 x3) (by omega) (by omega) (by omega) (by omega)) (by omega) (by omega) (by omega) (by omega)) (fun h56 => ?_) (fun h56 => ?_)
      · replace hP := zE_p hP h56
        refine wz_i0 (i3N0 (rfl : i3 x3 = i3 x3) (by omega) (by omega) (by omega)) ?_
        have r57 := z_mod x4 (y := x3) (by omega)
        refine wz_br (i3Le (zm_rd (Z := Z) (ν := ν) (k := 2) (show ((0 : Nat) : Int) = 0 from rfl) (show ((0 : Nat) : Int) = 0 from rfl) (show ((1200 : Nat) : Int) = 1200 from rfl)) (i3R (rfl : i3 x4 = i3 x4) (rfl : i3 x3 = i3 x3) (by omega) (by omega) (by omega) (by omega)) (by omega) (by omega) (by omega) (by omega)) (fun h58 => ?_) (fun h58 => ?_)
        · replace hP := zE_p hP h58
          obtain ⟨Z59, v60, hv60, c9, hZ59I, kZ59, jZ59, lv60, uv60⟩ := sp_369 (ν := ν) hZ (a1 := x1) (by omega) (a2 := (((100 * (((x4 / x3) / x3) + 1)) + 70) + 7)) (by omega) (by omega) (zbh (c := 0) (k := 24304) hM9 (Nat.le_of_ble_eq_true rfl))
          have hZ59U : zU [] Zs Z59 := zU_t hU jZ59 zU_b0
          have hZ59K : zC [1, 2, 1200] Zs Z59 := zC_t hK kZ59 (by decide)
          replace hP := zl_e2 hP hv60
          refine wz_cI_of (zas (zcons rfl (zcons (zvi (rfl : i3 x1 = i3 x1)) (zcons (zvi (i3A (i3A (i3M (show (100 : Int32) = i3 100 from rfl) (i3A (i3D (i3D (rfl : i3 x4 = i3 x4) (rfl : i3 x3 = i3 x3) (by omega) (by omega) (by omega) (by omega)) (rfl : i3 x3 = i3 x3) (by omega) (by omega) (by omega) (by omega)) (show (1 : Int32) = i3 1 from rfl))) (show (70 : Int32) = i3 70 from rfl)) (show (7 : Int32) = i3 7 from rfl))) rfl))) c9) ?_
          clear c9 hv60
          have r61 := zM_f hZ59I 1 0 0 31
          refine wz_br (i3Le (rfl : i3 v60 = i3 v60) (zm_rd (Z := Z59) (ν := ν) (k := 1) (show ((0 : Nat) : Int) = 0 from rfl) (show ((0 : Nat) : Int) = 0 from rfl) (show ((31 : Nat) : Int) = 31 from rfl)) (by omega) (by omega) (by omega) (by omega)) (fun h62 => ?_) (fun h62 => ?_)
          · replace hP := zE_p hP h62
            have r63 := zM_f hZ59I 100 0 0 0
            have q64 := kZ59 100 0 0 0 (by decide)
            obtain ⟨m2, rfl⟩ : ∃ m2, m = m2 + 1 := ⟨m - 1, by omega⟩
            exact wz_k1 ⟨m2, by omega, xM9 + 24304, Z59, (x4 + 1), (zconso rfl (zconso (zvo (rfl : i3 x1 = i3 x1)) (zconso rfl (zconso (zvo (rfl : i3 x3 = i3 x3)) (zconso (zvo (i3A (rfl : i3 x4 = i3 x4) (show (1 : Int32) = i3 1 from rfl))) (zconso rfl (zconso rfl rfl))))))), rfl, by omega, (zmt hZ59I rfl), hZ59K, hZ59U, by omega, by omega, by omega,  hP⟩
          · replace hP := zE_n hP h62
            obtain ⟨Z65, hZ65⟩ := zx (zu Z59 1 0 0 31 v60)
            replace hP := zl_e hP hZ65
            have hZ65I := zM_u hZ59I hZ65 (lo := -2147483648) (hi := 2147483647) (by decide) rfl (by omega) ⟨by decide, by decide⟩ (Or.inr (by decide)) rfl
            have hZ65U : zU [] Zs Z65 := zU_u hZ59U hZ65 (Or.inl rfl)
            have hZ65K : zC [1, 2, 1200] Zs Z65 := zC_u hZ59K hZ65 (by decide)
            intro μ9 e9
            replace e9 := e9.trans (zm_wI (Z := Z59) (ν := ν) hZ65 (show ((0 : Nat) : Int) = 0 from rfl) (show ((0 : Nat) : Int) = 0 from rfl) (show ((31 : Nat) : Int) = 31 from rfl) (rfl : i3 v60 = i3 v60))
            subst e9
            obtain ⟨Z66, hZ66⟩ := zx (zu Z65 1 0 0 32 (((100 * (((x4 / x3) / x3) + 1)) + 70) + 7))
            replace hP := zl_e hP hZ66
            have hZ66I := zM_u hZ65I hZ66 (lo := -2147483648) (hi := 2147483647) (by decide) rfl (by omega) ⟨by decide, by decide⟩ (Or.inr (by decide)) rfl
            have hZ66U : zU [] Zs Z66 := zU_u hZ65U hZ66 (Or.inl rfl)
            have hZ66K : zC [1, 2, 1200] Zs Z66 := zC_u hZ65K hZ66 (by decide)
            intro μ9 e9
            replace e9 := e9.trans (zm_wI (Z := Z65) (ν := ν) hZ66 (show ((0 : Nat) : Int) = 0 from rfl) (show ((0 : Nat) : Int) = 0 from rfl) (show ((32 : Nat) : Int) = 32 from rfl) (i3A (i3A (i3M (show (100 : Int32) = i3 100 from rfl) (i3A (i3D (i3D (rfl : i3 x4 = i3 x4) (rfl : i3 x3 = i3 x3) (by omega) (by omega) (by omega) (by omega)) (rfl : i3 x3 = i3 x3) (by omega) (by omega) (by omega) (by omega)) (show (1 : Int32) = i3 1 from rfl))) (show (70 : Int32) = i3 70 from rfl)) (show (7 : Int32) = i3 7 from rfl)))
            subst e9
            have r67 := zM_f hZ66I 100 0 0 0
            have q68 := (zu_ne (k' := 100) (b' := 0) (i' := 0) (j' := 0) hZ66 (fun q => absurd q.1 (by decide))).trans ((zu_ne (k' := 100) (b' := 0) (i' := 0) (j' := 0) hZ65 (fun q => absurd q.1 (by decide))).trans (kZ59 100 0 0 0 (by decide)))
            obtain ⟨m2, rfl⟩ : ∃ m2, m = m2 + 1 := ⟨m - 1, by omega⟩
            exact wz_k1 ⟨m2, by omega, xM9 + 24304, Z66, (x4 + 1), (zconso rfl (zconso (zvo (rfl : i3 x1 = i3 x1)) (zconso rfl (zconso (zvo (rfl : i3 x3 = i3 x3)) (zconso (zvo (i3A (rfl : i3 x4 = i3 x4) (show (1 : Int32) = i3 1 from rfl))) (zconso rfl (zconso rfl rfl))))))), rfl, by omega, (zmt hZ66I rfl), hZ66K, hZ66U, by omega, by omega, by omega,  hP⟩
        · replace hP := zE_n hP h58
          obtain ⟨Z69, v70, hv70, c9, hZ69I, kZ69, jZ69, lv70, uv70⟩ := sp_369 (ν := ν) hZ (a1 := x1) (by omega) (a2 := (((100 * (((x4 / x3) / x3) + 1)) + 70) + ((x4 % x3) + 1))) (by omega) (by omega) (zbh (c := 0) (k := 24304) hM9 (Nat.le_of_ble_eq_true rfl))
          have hZ69U : zU [] Zs Z69 := zU_t hU jZ69 zU_b0
          have hZ69K : zC [1, 2, 1200] Zs Z69 := zC_t hK kZ69 (by decide)
          replace hP := zl_e2 hP hv70
          refine wz_cI_of (zas (zcons rfl (zcons (zvi (rfl : i3 x1 = i3 x1)) (zcons (zvi (i3A (i3A (i3M (show (100 : Int32) = i3 100 from rfl) (i3A (i3D (i3D (rfl : i3 x4 = i3 x4) (rfl : i3 x3 = i3 x3) (by omega) (by omega) (by omega) (by omega)) (rfl : i3 x3 = i3 x3) (by omega) (by omega) (by omega) (by omega)) (show (1 : Int32) = i3 1 from rfl))) (show (70 : Int32) = i3 70 from rfl)) (i3A (i3R (rfl : i3 x4 = i3 x4) (rfl : i3 x3 = i3 x3) (by omega) (by omega) (by omega) (by omega)) (show (1 : Int32) = i3 1 from rfl)))) rfl))) c9) ?_
          clear c9 hv70
          have r71 := zM_f hZ69I 1 0 0 31
          refine wz_br (i3Le (rfl : i3 v70 = i3 v70) (zm_rd (Z := Z69) (ν := ν) (k := 1) (show ((0 : Nat) : Int) = 0 from rfl) (show ((0 : Nat) : Int) = 0 from rfl) (show ((31 : Nat) : Int) = 31 from rfl)) (by omega) (by omega) (by omega) (by omega)) (fun h72 => ?_) (fun h72 => ?_)
          · replace hP := zE_p hP h72
            have r73 := zM_f hZ69I 100 0 0 0
            have q74 := kZ69 100 0 0 0 (by decide)
            obtain ⟨m2, rfl⟩ : ∃ m2, m = m2 + 1 := ⟨m - 1, by omega⟩
            exact wz_k1 ⟨m2, by omega, xM9 + 24304, Z69, (x4 + 1), (zconso rfl (zconso (zvo (rfl : i3 x1 = i3 x1)) (zconso rfl (zconso (zvo (rfl : i3 x3 = i3 x3)) (zconso (zvo (i3A (rfl : i3 x4 = i3 x4) (show (1 : Int32) = i3 1 from rfl))) (zconso rfl (zconso rfl rfl))))))), rfl, by omega, (zmt hZ69I rfl), hZ69K, hZ69U, by omega, by omega, by omega,  hP⟩
          · replace hP := zE_n hP h72
            obtain ⟨Z75, hZ75⟩ := zx (zu Z69 1 0 0 31 v70)
            replace hP := zl_e hP hZ75
            have hZ75I := zM_u hZ69I hZ75 (lo := -2147483648) (hi := 2147483647) (by decide) rfl (by omega) ⟨by decide, by decide⟩ (Or.inr (by decide)) rfl
            have hZ75U : zU [] Zs Z75 := zU_u hZ69U hZ75 (Or.inl rfl)
            have hZ75K : zC [1, 2, 1200] Zs Z75 := zC_u hZ69K hZ75 (by decide)
            intro μ9 e9
            replace e9 := e9.trans (zm_wI (Z := Z69) (ν := ν) hZ75 (show ((0 : Nat) : Int) = 0 from rfl) (show ((0 : Nat) : Int) = 0 from rfl) (show ((31 : Nat) : Int) = 31 from rfl) (rfl : i3 v70 = i3 v70))
            subst e9
            obtain ⟨Z76, hZ76⟩ := zx (zu Z75 1 0 0 32 (((100 * (((x4 / x3) / x3) + 1)) + 70) + ((x4 % x3) + 1)))
            replace hP := zl_e hP hZ76
            have hZ76I := zM_u hZ75I hZ76 (lo := -2147483648) (hi := 2147483647) (by decide) rfl (by omega) ⟨by decide, by decide⟩ (Or.inr (by decide)) rfl
            have hZ76U : zU [] Zs Z76 := zU_u hZ75U hZ76 (Or.inl rfl)
            have hZ76K : zC [1, 2, 1200] Zs Z76 := zC_u hZ75K hZ76 (by decide)
            intro μ9 e9
            replace e9 := e9.trans (zm_wI (Z := Z75) (ν := ν) hZ76 (show ((0 : Nat) : Int) = 0 from rfl) (show ((0 : Nat) : Int) = 0 from rfl) (show ((32 : Nat) : Int) = 32 from rfl) (i3A (i3A (i3M (show (100 : Int32) = i3 100 from rfl) (i3A (i3D (i3D (rfl : i3 x4 = i3 x4) (rfl : i3 x3 = i3 x3) (by omega) (by omega) (by omega) (by omega)) (rfl : i3 x3 = i3 x3) (by omega) (by omega) (by omega) (by omega)) (show (1 : Int32) = i3 1 from rfl))) (show (70 : Int32) = i3 70 from rfl)) (i3A (i3R (rfl : i3 x4 = i3 x4) (rfl : i3 x3 = i3 x3) (by omega) (by omega) (by omega) (by omega)) (show (1 : Int32) = i3 1 from rfl))))
            subst e9
            have r77 := zM_f hZ76I 100 0 0 0
            have q78 := (zu_ne (k' := 100) (b' := 0) (i' := 0) (j' := 0) hZ76 (fun q => absurd q.1 (by decide))).trans ((zu_ne (k' := 100) (b' := 0) (i' := 0) (j' := 0) hZ75 (fun q => absurd q.1 (by decide))).trans (kZ69 100 0 0 0 (by decide)))
            obtain ⟨m2, rfl⟩ : ∃ m2, m = m2 + 1 := ⟨m - 1, by omega⟩
            exact wz_k1 ⟨m2, by omega, xM9 + 24304, Z76, (x4 + 1), (zconso rfl (zconso (zvo (rfl : i3 x1 = i3 x1)) (zconso rfl (zconso (zvo (rfl : i3 x3 = i3 x3)) (zconso (zvo (i3A (rfl : i3 x4 = i3 x4) (show (1 : Int32) = i3 1 from rfl))) (zconso rfl (zconso rfl rfl))))))), rfl, by omega, (zmt hZ76I rfl), hZ76K, hZ76U, by omega, by omega, by omega,  hP⟩
      · replace hP := zE_n hP h56
        refine wz_i0 (i3N0 (rfl : i3 x3 = i3 x3) (by omega) (by omega) (by omega)) ?_
        have r79 := z_mod x4 (y := x3) (by omega)
        refine wz_br (i3Le (zm_rd (Z := Z) (ν := ν) (k := 2) (show ((0 : Nat) : Int) = 0 from rfl) (show ((0 : Nat) : Int) = 0 from rfl) (show ((1200 : Nat) : Int) = 1200 from rfl)) (i3R (rfl : i3 x4 = i3 x4) (rfl : i3 x3 = i3 x3) (by omega) (by omega) (by omega) (by omega)) (by omega) (by omega) (by omega) (by omega)) (fun h80 => ?_) (fun h80 => ?_)
        · replace hP := zE_p hP h80
          obtain ⟨Z81, v82, hv82, c9, hZ81I, kZ81, jZ81, lv82, uv82⟩ := sp_369 (ν := ν) hZ (a1 := x1) (by omega) (a2 := (((100 * (((x4 / x3) / x3) + 1)) + (10 * (((x4 / x3) % x3) + 1))) + 7)) (by omega) (by omega) (zbh (c := 0) (k := 24304) hM9 (Nat.le_of_ble_eq_true rfl))
          have hZ81U : zU [] Zs Z81 := zU_t hU jZ81 zU_b0
          have hZ81K : zC [1, 2, 1200] Zs Z81 := zC_t hK kZ81 (by decide)
          replace hP := zl_e2 hP hv82
          refine wz_cI_of (zas (zcons rfl (zcons (zvi (rfl : i3 x1 = i3 x1)) (zcons (zvi (i3A (i3A (i3M (show (100 : Int32) = i3 100 from rfl) (i3A (i3D (i3D (rfl : i3 x4 = i3 x4) (rfl : i3 x3 = i3 x3) (by omega) (by omega) (by omega) (by omega)) (rfl : i3 x3 = i3 x3) (by omega) (by omega) (by omega) (by omega)) (show (1 : Int32) = i3 1 from rfl))) (i3M (show (10 : Int32) = i3 10 from rfl) (i3A (i3R (i3D (rfl : i3 x4 = i3 x4) (rfl : i3 x3 = i3 x3) (by omega) (by omega) (by omega) (by omega)) (rfl : i3 x3 = i3 x3) (by omega) (by omega) (by omega) (by omega)) (show (1 : Int32) = i3 1 from rfl)))) (show (7 : Int32) = i3 7 from rfl))) rfl))) c9) ?_
          clear c9 hv82
          have r83 := zM_f hZ81I 1 0 0 31
          refine wz_br (i3Le (rfl : i3 v82 = i3 v82) (zm_rd (Z := Z81) (ν := ν) (k := 1) (show ((0 : Nat) : Int) = 0 from rfl) (show ((0 : Nat) : Int) = 0 from rfl) (show ((31 : Nat) : Int) = 31 from rfl)) (by omega) (by omega) (by omega) (by omega)) (fun h84 => ?_) (fun h84 => ?_)
          · replace hP := zE_p hP h84
            have r85 := zM_f hZ81I 100 0 0 0
            have q86 := kZ81 100 0 0 0 (by decide)
            obtain ⟨m2, rfl⟩ : ∃ m2, m = m2 + 1 := ⟨m - 1, by omega⟩
            exact wz_k1 ⟨m2, by omega, xM9 + 24304, Z81, (x4 + 1), (zconso rfl (zconso (zvo (rfl : i3 x1 = i3 x1)) (zconso rfl (zconso (zvo (rfl : i3 x3 = i3 x3)) (zconso (zvo (i3A (rfl : i3 x4 = i3 x4) (show (1 : Int32) = i3 1 from rfl))) (zconso rfl (zconso rfl rfl))))))), rfl, by omega, (zmt hZ81I rfl), hZ81K, hZ81U, by omega, by omega, by omega,  hP⟩
          · replace hP := zE_n hP h84
            obtain ⟨Z87, hZ87⟩ := zx (zu Z81 1 0 0 31 v82)
            replace hP := zl_e hP hZ87
            have hZ87I := zM_u hZ81I hZ87 (lo := -2147483648) (hi := 2147483647) (by decide) rfl (by omega) ⟨by decide, by decide⟩ (Or.inr (by decide)) rfl
            have hZ87U : zU [] Zs Z87 := zU_u hZ81U hZ87 (Or.inl rfl)
            have hZ87K : zC [1, 2, 1200] Zs Z87 := zC_u hZ81K hZ87 (by decide)
            intro μ9 e9
            replace e9 := e9.trans (zm_wI (Z := Z81) (ν := ν) hZ87 (show ((0 : Nat) : Int) = 0 from rfl) (show ((0 : Nat) : Int) = 0 from rfl) (show ((31 : Nat) : Int) = 31 from rfl) (rfl : i3 v82 = i3 v82))
            subst e9
            obtain ⟨Z88, hZ88⟩ := zx (zu Z87 1 0 0 32 (((100 * (((x4 / x3) / x3) + 1)) + (10 * (((x4 / x3) % x3) + 1))) + 7))
            replace hP := zl_e hP hZ88
            have hZ88I := zM_u hZ87I hZ88 (lo := -2147483648) (hi := 2147483647) (by decide) rfl (by omega) ⟨by decide, by decide⟩ (Or.inr (by decide)) rfl
            have hZ88U : zU [] Zs Z88 := zU_u hZ87U hZ88 (Or.inl rfl)
            have hZ88K : zC [1, 2, 1200] Zs Z88 := zC_u hZ87K hZ88 (by decide)
            intro μ9 e9
            replace e9 := e9.trans (zm_wI (Z := Z87) (ν := ν) hZ88 (show ((0 : Nat) : Int) = 0 from rfl) (show ((0 : Nat) : Int) = 0 from rfl) (show ((32 : Nat) : Int) = 32 from rfl) (i3A (i3A (i3M (show (100 : Int32) = i3 100 from rfl) (i3A (i3D (i3D (rfl : i3 x4 = i3 x4) (rfl : i3 x3 = i3 x3) (by omega) (by omega) (by omega) (by omega)) (rfl : i3 x3 = i3 x3) (by omega) (by omega) (by omega) (by omega)) (show (1 : Int32) = i3 1 from rfl))) (i3M (show (10 : Int32) = i3 10 from rfl) (i3A (i3R (i3D (rfl : i3 x4 = i3 x4) (rfl : i3 x3 = i3 x3) (by omega) (by omega) (by omega) (by omega)) (rfl : i3 x3 = i3 x3) (by omega) (by omega) (by omega) (by omega)) (show (1 : Int32) = i3 1 from rfl)))) (show (7 : Int32) = i3 7 from rfl)))
            subst e9
            have r89 := zM_f hZ88I 100 0 0 0
            have q90 := (zu_ne (k' := 100) (b' := 0) (i' := 0) (j' := 0) hZ88 (fun q => absurd q.1 (by decide))).trans ((zu_ne (k' := 100) (b' := 0) (i' := 0) (j' := 0) hZ87 (fun q => absurd q.1 (by decide))).trans (kZ81 100 0 0 0 (by decide)))
            obtain ⟨m2, rfl⟩ : ∃ m2, m = m2 + 1 := ⟨m - 1, by omega⟩
            exact wz_k1 ⟨m2, by omega, xM9 + 24304, Z88, (x4 + 1), (zconso rfl (zconso (zvo (rfl : i3 x1 = i3 x1)) (zconso rfl (zconso (zvo (rfl : i3 x3 = i3 x3)) (zconso (zvo (i3A (rfl : i3 x4 = i3 x4) (show (1 : Int32) = i3 1 from rfl))) (zconso rfl (zconso rfl rfl))))))), rfl, by omega, (zmt hZ88I rfl), hZ88K, hZ88U, by omega, by omega, by omega,  hP⟩
        · replace hP := zE_n hP h80
          obtain ⟨Z91, v92, hv92, c9, hZ91I, kZ91, jZ91, lv92, uv92⟩ := sp_369 (ν := ν) hZ (a1 := x1) (by omega) (a2 := (((100 * (((x4 / x3) / x3) + 1)) + (10 * (((x4 / x3) % x3) + 1))) + ((x4 % x3) + 1))) (by omega) (by omega) (zbh (c := 0) (k := 24304) hM9 (Nat.le_of_ble_eq_true rfl))
          have hZ91U : zU [] Zs Z91 := zU_t hU jZ91 zU_b0
          have hZ91K : zC [1, 2, 1200] Zs Z91 := zC_t hK kZ91 (by decide)
          replace hP := zl_e2 hP hv92
          refine wz_cI_of (zas (zcons rfl (zcons (zvi (rfl : i3 x1 = i3 x1)) (zcons (zvi (i3A (i3A (i3M (show (100 : Int32) = i3 100 from rfl) (i3A (i3D (i3D (rfl : i3 x4 = i3 x4) (rfl : i3 x3 = i3 x3) (by omega) (by omega) (by omega) (by omega)) (rfl : i3 x3 = i3 x3) (by omega) (by omega) (by omega) (by omega)) (show (1 : Int32) = i3 1 from rfl))) (i3M (show (10 : Int32) = i3 10 from rfl) (i3A (i3R (i3D (rfl : i3 x4 = i3 x4) (rfl : i3 x3 = i3 x3) (by omega) (by omega) (by omega) (by omega)) (rfl : i3 x3 = i3 x3) (by omega) (by omega) (by omega) (by omega)) (show (1 : Int32) = i3 1 from rfl)))) (i3A (i3R (rfl : i3 x4 = i3 x4) (rfl : i3 x3 = i3 x3) (by omega) (by omega) (by omega) (by omega)) (show (1 : Int32) = i3 1 from rfl)))) rfl))) c9) ?_
          clear c9 hv92
          have r93 := zM_f hZ91I 1 0 0 31
          refine wz_br (i3Le (rfl : i3 v92 = i3 v92) (zm_rd (Z := Z91) (ν := ν) (k := 1) (show ((0 : Nat) : Int) = 0 from rfl) (show ((0 : Nat) : Int) = 0 from rfl) (show ((31 : Nat) : Int) = 31 from rfl)) (by omega) (by omega) (by omega) (by omega)) (fun h94 => ?_) (fun h94 => ?_)
          · replace hP := zE_p hP h94
            have r95 := zM_f hZ91I 100 0 0 0
            have q96 := kZ91 100 0 0 0 (by decide)
            obtain ⟨m2, rfl⟩ : ∃ m2, m = m2 + 1 := ⟨m - 1, by omega⟩
            exact wz_k1 ⟨m2, by omega, xM9 + 24304, Z91, (x4 + 1), (zconso rfl (zconso (zvo (rfl : i3 x1 = i3 x1)) (zconso rfl (zconso (zvo (rfl : i3 x3 = i3 x3)) (zconso (zvo (i3A (rfl : i3 x4 = i3 x4) (show (1 : Int32) = i3 1 from rfl))) (zconso rfl (zconso rfl rfl))))))), rfl, by omega, (zmt hZ91I rfl), hZ91K, hZ91U, by omega, by omega, by omega,  hP⟩
          · replace hP := zE_n hP h94
            obtain ⟨Z97, hZ97⟩ := zx (zu Z91 1 0 0 31 v92)
            replace hP := zl_e hP hZ97
            have hZ97I := zM_u hZ91I hZ97 (lo := -2147483648) (hi := 2147483647) (by decide) rfl (by omega) ⟨by decide, by decide⟩ (Or.inr (by decide)) rfl
            have hZ97U : zU [] Zs Z97 := zU_u hZ91U hZ97 (Or.inl rfl)
            have hZ97K : zC [1, 2, 1200] Zs Z97 := zC_u hZ91K hZ97 (by decide)
            intro μ9 e9
            replace e9 := e9.trans (zm_wI (Z := Z91) (ν := ν) hZ97 (show ((0 : Nat) : Int) = 0 from rfl) (show ((0 : Nat) : Int) = 0 from rfl) (show ((31 : Nat) : Int) = 31 from rfl) (rfl : i3 v92 = i3 v92))
            subst e9
            obtain ⟨Z98, hZ98⟩ := zx (zu Z97 1 0 0 32 (((100 * (((x4 / x3) / x3) + 1)) + (10 * (((x4 / x3) % x3) + 1))) + ((x4 % x3) + 1)))
            replace hP := zl_e hP hZ98
            have hZ98I := zM_u hZ97I hZ98 (lo := -2147483648) (hi := 2147483647) (by decide) rfl (by omega) ⟨by decide, by decide⟩ (Or.inr (by decide)) rfl
            have hZ98U : zU [] Zs Z98 := zU_u hZ97U hZ98 (Or.inl rfl)
            have hZ98K : zC [1, 2, 1200] Zs Z98 := zC_u hZ97K hZ98 (by decide)
            intro μ9 e9
            replace e9 := e9.trans (zm_wI (Z := Z97) (ν := ν) hZ98 (show ((0 : Nat) : Int) = 0 from rfl) (show ((0 : Nat) : Int) = 0 from rfl) (show ((32 : Nat) : Int) = 32 from rfl) (i3A (i3A (i3M (show (100 : Int32) = i3 100 from rfl) (i3A (i3D (i3D (rfl : i3 x4 = i3 x4) (rfl : i3 x3 = i3 x3) (by omega) (by omega) (by omega) (by omega)) (rfl : i3 x3 = i3 x3) (by omega) (by omega) (by omega) (by omega)) (show (1 : Int32) = i3 1 from rfl))) (i3M (show (10 : Int32) = i3 10 from rfl) (i3A (i3R (i3D (rfl : i3 x4 = i3 x4) (rfl : i3 x3 = i3 x3) (by omega) (by omega) (by omega) (by omega)) (rfl : i3 x3 = i3 x3) (by omega) (by omega) (by omega) (by omega)) (show (1 : Int32) = i3 1 from rfl)))) (i3A (i3R (rfl : i3 x4 = i3 x4) (rfl : i3 x3 = i3 x3) (by omega) (by omega) (by omega) (by omega)) (show (1 : Int32) = i3 1 from rfl))))
            subst e9
            have r99 := zM_f hZ98I 100 0 0 0
            have q100 := (zu_ne (k' := 100) (b' := 0) (i' := 0) (j' := 0) hZ98 (fun q => absurd q.1 (by decide))).trans ((zu_ne (k' := 100) (b' := 0) (i' := 0) (j' := 0) hZ97 (fun q => absurd q.1 (by decide))).trans (kZ91 100 0 0 0 (by decide)))
            obtain ⟨m2, rfl⟩ : ∃ m2, m = m2 + 1 := ⟨m - 1, by omega⟩
            exact wz_k1 ⟨m2, by omega, xM9 + 24304, Z98, (x4 + 1), (zconso rfl (zconso (zvo (rfl : i3 x1 = i3 x1)) (zconso rfl (zconso (zvo (rfl : i3 x3 = i3 x3)) (zconso (zvo (i3A (rfl : i3 x4 = i3 x4) (show (1 : Int32) = i3 1 from rfl))) (zconso rfl (zconso rfl rfl))))))), rfl, by omega, (zmt hZ98I rfl), hZ98K, hZ98U, by omega, by omega, by omega,  hP⟩
/- yX12_iFindMost -/
def zf_356 (Z : qz_Z) (a1 : Int) (a2 : Int) : qz_Z := (zlet (zf_351 Z 0) (fun Z2 => (zlet (zf_460 Z2 (((24 * a2) + (Z2 2 0 0 (3520 + 10 * a1))) - 1)) (fun Z4 => (zlet2 (zl_356_1 a1 4401 Z4 0) (fun Z9 y8 => (zlet (zu Z9 1 0 0 31 (-1)) (fun Z15 => (zlet2 (zl_356_2 a1 ((Z9 2 0 0 1200) + 1) 344 Z15 0) (fun Z18 y17 => (zlet (zf_493 Z18 0) (fun Z24 => Z24))))))))))))
theorem sp_356 {s : zSM} {Z : qz_Z} {ν : qz_N} (hZ : zM s Z) {a1 : Int} (ga1 : 0 ≤ a1 ∧ a1 ≤ 1) {a2 : Int} (ga2 : 0 ≤ a2 ∧ a2 ≤ 27) (gx0 : Z 2 0 0 0 ≤ 668) (hM : s.2 + 8360576 ≤ 1000000000) : ∃ P : qz_Z, P = zf_356 Z a1 a2 ∧ (qf_356 [.inr (.inr (some (1, 0, 0))), .inl (i3 a1), .inl (i3 a2)] (zm Z ν) = some (zm P ν, .inl none) ∧ zM (zb s 8360576) P ∧ zC [1, 2, 81, 100, 1200] Z P ∧ zU [] Z P) := by
  obtain ⟨P, hP⟩ := zx (zf_356 Z a1 a2)
  refine zc_V (Q := fun P => zM (zb s 8360576) P ∧ zC [1, 2, 81, 100, 1200] Z P ∧ zU [] Z P) hP (fw_356 (i3 a1) (i3 a2) _ _ ?_)
  replace hP : zE P (zf_356 Z a1 a2) := hP
  unfold zf_356 at hP
  have r1 := zM_k hZ 2 0 0 0 (lo := 0) (hi := 671) (by decide) rfl
  obtain ⟨Z2, hZ2, c9, hZ2I, kZ2, jZ2⟩ := sp_351 (ν := ν) hZ (a1 := 0) (by omega) (zbh (c := 0) (k := 0) hM (Nat.le_of_ble_eq_true rfl))
  have hZ2U : zU [] Z Z2 := zU_t zU_r jZ2 zU_b0
  have hZ2K : zC [1, 2, 81, 100, 1200] Z Z2 := zC_t zC_r kZ2 (by decide)
  replace hP := zl_e hP hZ2
  refine wz_cV_of (zas (zcons rfl (zcons (zvi (show (0 : Int32) = i3 0 from rfl)) rfl)) c9) ?_
  clear c9
  refine wz_i0 (i3O (n := 4400) (i3A (i3A (show (3520 : Int32) = i3 3520 from rfl) (i3M (show (10 : Int32) = i3 10 from rfl) (rfl : i3 a1 = i3 a1))) (show (0 : Int32) = i3 0 from rfl)) (by omega) (by omega) (by omega)) ?_
  have r3 := zM_k hZ2I 2 0 0 (3520 + 10 * a1) (lo := 0) (hi := 18) (by decide) (zs_3520_0 (x := a1) (by omega) (by omega) (by omega))
  obtain ⟨Z4, hZ4, c9, hZ4I, kZ4, jZ4, wZ40⟩ := sp_460 (ν := ν) hZ2I (a1 := (((24 * a2) + (Z2 2 0 0 (3520 + 10 * a1))) - 1)) (by omega) (zbh (c := 0) (k := 0) hM (Nat.le_of_ble_eq_true rfl))
  have hZ4U : zU [] Z Z4 := zU_t hZ2U jZ4 zU_b0
  have hZ4K : zC [1, 2, 81, 100, 1200] Z Z4 := zC_t hZ2K kZ4 (by decide)
  replace hP := zl_e hP hZ4
  refine wz_cV_of (zas (zcons rfl (zcons (zvi (i3S (i3A (i3M (show (24 : Int32) = i3 24 from rfl) (rfl : i3 a2 = i3 a2)) (zm_rd (Z := Z2) (ν := ν) (k := 2) (show ((0 : Nat) : Int) = 0 from rfl) (show ((0 : Nat) : Int) = 0 from rfl) (i3I (y := (3520 + 10 * a1)) (i3A (i3A (show (3520 : Int32) = i3 3520 from rfl) (i3M (show (10 : Int32) = i3 10 from rfl) (rfl : i3 a1 = i3 a1))) (show (0 : Int32) = i3 0 from rfl)) (by omega) (by omega) (by omega)))) (show (1 : Int32) = i3 1 from rfl))) rfl)) c9) ?_
  clear c9
  have r5 := zM_k hZ4I 2 0 0 0 (lo := 0) (hi := 671) (by decide) rfl
  have r6 := zM_k hZ2I 2 0 0 0 (lo := 0) (hi := 671) (by decide) rfl
  have q7 := kZ2 2 0 0 0 (by decide)
  have r10 := zM_f hZ4I 100 0 0 0
  refine sl_356_1 (ν := ν) hZ4I (zbh (c := 0) (k := 0) hM (Nat.le_of_ble_eq_true rfl)) zC_r (x1 := a1) (by omega) (x3 := 0) (by omega) zU_r (by omega) (by omega) (zconso rfl (zconso (zvo (rfl : i3 a1 = i3 a1)) (zconso rfl (zconso (zvo (show (0 : Int32) = i3 0 from rfl)) (zconso rfl (zconso rfl (zconso rfl rfl))))))) rfl ?_
  intro L11 Z9 y8 hL11 hZ9I kZ9 jZ9 gy8 gL11_0 gL11_1 q9
  replace hP := zl_e2 hP (Eq.symm q9)
  clear q9
  have hZ9U : zU [] Z Z9 := zU_t hZ4U jZ9 zU_b0
  have hZ9K : zC [1, 2, 81, 100, 1200] Z Z9 := zC_t hZ4K kZ9 (by decide)
  have r12 := zM_f hZ9I 100 0 0 0
  have r13 := zM_k hZ9I 2 0 0 0 (lo := 0) (hi := 671) (by decide) rfl
  have q14 := kZ9 2 0 0 0 (by decide)
  refine fc_356_4 (i3 a1) _ _ _ _ hL11 ?_
  obtain ⟨Z15, hZ15⟩ := zx (zu Z9 1 0 0 31 (-1))
  replace hP := zl_e hP hZ15
  have hZ15I := zM_u hZ9I hZ15 (lo := -2147483648) (hi := 2147483647) (by decide) rfl (by omega) ⟨by decide, by decide⟩ (Or.inr (by decide)) rfl
  have hZ15U : zU [] Z Z15 := zU_u hZ9U hZ15 (Or.inl rfl)
  have hZ15K : zC [1, 2, 81, 100, 1200] Z Z15 := zC_u hZ9K hZ15 (by decide)
  intro μ9 e9
  replace e9 := e9.trans (zm_wI (Z := Z9) (ν := ν) hZ15 (show ((0 : Nat) : Int) = 0 from rfl) (show ((0 : Nat) : Int) = 0 from rfl) (show ((31 : Nat) : Int) = 31 from rfl) (show (-1 : Int32) = i3 (-1) from rfl))
  subst e9
  have r16 := zM_k hZ9I 2 0 0 1200 (lo := 0) (hi := 6) (by decide) rfl
  have r19 := zM_f hZ15I 100 0 0 0
  have q20 := zu_ne (k' := 100) (b' := 0) (i' := 0) (j' := 0) hZ15 (fun q => absurd q.1 (by decide))
  refine sl_356_2 (ν := ν) (zm0 hZ15I) (zbh (c := 0) (k := 8360576) hM (Nat.le_of_ble_eq_true rfl)) (xM9 := 0) zC_r (x1 := a1) (by omega) (x3 := ((Z9 2 0 0 1200) + 1)) (by omega) (x4 := 0) (by omega) zU_r (Nat.le_of_ble_eq_true rfl) (by omega) (zconso rfl (zconso (zvo (rfl : i3 a1 = i3 a1)) (zconso rfl (zconso (zvo (i3A (zm_rd (Z := Z9) (ν := ν) (k := 2) (show ((0 : Nat) : Int) = 0 from rfl) (show ((0 : Nat) : Int) = 0 from rfl) (show ((1200 : Nat) : Int) = 1200 from rfl)) (show (1 : Int32) = i3 1 from rfl))) (zconso (zvo (show (0 : Int32) = i3 0 from rfl)) (zconso rfl (zconso rfl rfl))))))) rfl ?_
  intro L21 Z18 y17 hL21 hZ18I kZ18 jZ18 gy17 gL21_0 q9
  replace hP := zl_e2 hP (Eq.symm q9)
  clear q9
  have hZ18U : zU [] Z Z18 := zU_t hZ15U jZ18 zU_b0
  have hZ18K : zC [1, 2, 81, 100, 1200] Z Z18 := zC_t hZ15K kZ18 (by decide)
  have r22 := zM_f hZ18I 100 0 0 0
  have q23 := kZ18 100 0 0 0 (by decide)
  refine fc_356_3  _ _ _ _ hL21 ?_
  obtain ⟨Z24, hZ24, c9, hZ24I, kZ24, jZ24⟩ := sp_493 (ν := ν) hZ18I (a1 := 0) (by omega) (zbh (c := 8360576) (k := 0) hM (Nat.le_of_ble_eq_true rfl))
  have hZ24U : zU [] Z Z24 := zU_t hZ18U jZ24 zU_b0
  have hZ24K : zC [1, 2, 81, 100, 1200] Z Z24 := zC_t hZ18K kZ24 (by decide)
  replace hP := zl_e hP hZ24
  refine wz_cV_of (zas (zcons rfl (zcons (zvi (show (0 : Int32) = i3 0 from rfl)) rfl)) c9) ?_
  clear c9
  exact zlV hP ⟨hZ24I, hZ24K, hZ24U⟩
/- yX12_worst -/
def zy_547 (Z : qz_Z) (a1 : Int) (a2 : Int) : qz_Z × Int := (if a1 < 0 then (zlet (zu Z 1 0 0 2 1) (fun Z5 => (Z5, 0))) else (if ((Z 2 0 0 3500) - 1) < a1 then (zlet (zu Z 1 0 0 2 1) (fun Z8 => (Z8, 0))) else (zlet (zu Z 1 0 0 2 0) (fun Z9 => (if a2 < 0 then (zlet (zu Z9 1 0 0 2 2) (fun Z11 => (Z11, 0))) else (if 1 < a2 then (zlet (zu Z9 1 0 0 2 2) (fun Z13 => (Z13, 0))) else (zlet (zu Z9 1 0 0 2 0) (fun Z14 => (if (Z14 2 0 0 (3520 + 10 * a1)) ≤ ((Z14 2 0 0 0) % 24) then (if (((Z14 2 0 0 0) / 24) + 1) ≠ 28 then (zlet (zf_356 Z14 a1 (((Z14 2 0 0 0) / 24) + 1)) (fun Z19 => (if a2 ≠ 0 then (Z19, (Z19 1 0 0 32)) else (Z19, (Z19 1 0 0 31))))) else (Z14, (-1))) else (zlet (zf_356 Z14 a1 ((Z14 2 0 0 0) / 24)) (fun Z23 => (if a2 ≠ 0 then (Z23, (Z23 1 0 0 32)) else (Z23, (Z23 1 0 0 31))))))))))))))
theorem sy_547 {s : zSM} {Z : qz_Z} {ν : qz_N} (hZ : zM s Z) (gq : Z 1 0 0 35 = 0) (hM : s.2 + 8360576 ≤ 1000000000) {a1 : Int} (ga1 : -2147483648 ≤ a1 ∧ a1 ≤ 2147483647) {a2 : Int} (ga2 : -2147483648 ≤ a2 ∧ a2 ≤ 2147483647) {ν1 : qz_N} : ∃ (Z1 : qz_Z) (ν2 : qz_N) (v : Int), (Z1, v) = zy_547 Z a1 a2 ∧ (ν2 = ν ∨ ν2 = ν1) ∧ qf_547 [.inr (.inr (some (1, 0, 0))), .inl (i3 a1), .inl (i3 a2)] (zm Z ν) = some (zm Z1 ν2, .inl (some (.inl (i3 v)))) ∧ (fun Z1 => zM (zb s 8360576) Z1 ∧ zC [1, 2, 81, 100, 1200] Z Z1 ∧ zU [] Z Z1) Z1 := by
  obtain ⟨P, hP⟩ := zx (zy_547 Z a1 a2)
  refine zc_Y (Q := fun Z1 => zM (zb s 8360576) Z1 ∧ zC [1, 2, 81, 100, 1200] Z Z1 ∧ zU [] Z Z1) hP (fw_547 (i3 a1) (i3 a2) _ _ ?_)
  replace hP : zE P (zy_547 Z a1 a2) := hP
  unfold zy_547 at hP
  have r1 := zM_k hZ 1 0 0 35 (lo := 0) (hi := 1) (by decide) rfl
  have r2 := zM_k hZ 1 0 0 34 (lo := 0) (hi := 8) (by decide) rfl
  have r3 := zM_f hZ 1 0 0 37
  refine wz_br (i3L (rfl : i3 a1 = i3 a1) (show (0 : Int32) = i3 0 from rfl) (by omega) (by omega) (by omega) (by omega)) (fun h4 => ?_) (fun h4 => ?_)
  · replace hP := zE_p hP h4
    obtain ⟨Z5, hZ5⟩ := zx (zu Z 1 0 0 2 1)
    replace hP := zl_e hP hZ5
    have hZ5I := zM_u hZ hZ5 (lo := -2147483648) (hi := 2147483647) (by decide) rfl (by omega) ⟨by decide, by decide⟩ (Or.inr (by decide)) rfl
    have hZ5U : zU [] Z Z5 := zU_u zU_r hZ5 (Or.inl rfl)
    have hZ5K : zC [1, 2, 81, 100, 1200] Z Z5 := zC_u zC_r hZ5 (by decide)
    intro μ9 e9
    replace e9 := e9.trans (zm_wI (Z := Z) (ν := ν) hZ5 (show ((0 : Nat) : Int) = 0 from rfl) (show ((0 : Nat) : Int) = 0 from rfl) (show ((2 : Nat) : Int) = 2 from rfl) (show (1 : Int32) = i3 1 from rfl))
    subst e9
    exact zlY hP (show (0 : Int32) = i3 0 from rfl) (.inl rfl) ⟨(zmw (a := 0) (c := 8360576) hZ5I (Nat.le_of_ble_eq_true rfl)), hZ5K, hZ5U⟩
  · replace hP := zE_n hP h4
    have r6 := zM_k hZ 2 0 0 3500 (lo := 0) (hi := 2) (by decide) rfl
    refine wz_br (i3L (i3S (zm_rd (Z := Z) (ν := ν) (k := 2) (show ((0 : Nat) : Int) = 0 from rfl) (show ((0 : Nat) : Int) = 0 from rfl) (show ((3500 : Nat) : Int) = 3500 from rfl)) (show (1 : Int32) = i3 1 from rfl)) (rfl : i3 a1 = i3 a1) (by omega) (by omega) (by omega) (by omega)) (fun h7 => ?_) (fun h7 => ?_)
    · replace hP := zE_p hP h7
      obtain ⟨Z8, hZ8⟩ := zx (zu Z 1 0 0 2 1)
      replace hP := zl_e hP hZ8
      have hZ8I := zM_u hZ hZ8 (lo := -2147483648) (hi := 2147483647) (by decide) rfl (by omega) ⟨by decide, by decide⟩ (Or.inr (by decide)) rfl
      have hZ8U : zU [] Z Z8 := zU_u zU_r hZ8 (Or.inl rfl)
      have hZ8K : zC [1, 2, 81, 100, 1200] Z Z8 := zC_u zC_r hZ8 (by decide)
      intro μ9 e9
      replace e9 := e9.trans (zm_wI (Z := Z) (ν := ν) hZ8 (show ((0 : Nat) : Int) = 0 from rfl) (show ((0 : Nat) : Int) = 0 from rfl) (show ((2 : Nat) : Int) = 2 from rfl) (show (1 : Int32) = i3 1 from rfl))
      subst e9
      exact zlY hP (show (0 : Int32) = i3 0 from rfl) (.inl rfl) ⟨(zmw (a := 0) (c := 8360576) hZ8I (Nat.le_of_ble_eq_true rfl)), hZ8K, hZ8U⟩
    · replace hP := zE_n hP h7
      obtain ⟨Z9, hZ9⟩ := zx (zu Z 1 0 0 2 0)
      replace hP := zl_e hP hZ9
      have hZ9I := zM_0 hZ hZ9 (by decide) (Or.inr (by decide))
      have hZ9U : zU [] Z Z9 := zU_u zU_r hZ9 (Or.inl rfl)
      have hZ9K : zC [1, 2, 81, 100, 1200] Z Z9 := zC_u zC_r hZ9 (by decide)
      intro μ9 e9
      replace e9 := e9.trans (zm_wI (Z := Z) (ν := ν) hZ9 (show ((0 : Nat) : Int) = 0 from rfl) (show ((0 : Nat) : Int) = 0 from rfl) (show ((2 : Nat) : Int) = 2 from rfl) (show (0 : Int32) = i3 0 from rfl))
      subst e9
      refine wz_br (i3L (rfl : i3 a2 = i3 a2) (show (0 : Int32) = i3 0 from rfl) (by omega) (by omega) (by omega) (by omega)) (fun h10 => ?_) (fun h10 => ?_)
      · replace hP := zE_p hP h10
        obtain ⟨Z11, hZ11⟩ := zx (zu Z9 1 0 0 2 2)
        replace hP := zl_e hP hZ11
        have hZ11I := zM_u hZ9I hZ11 (lo := -2147483648) (hi := 2147483647) (by decide) rfl (by omega) ⟨by decide, by decide⟩ (Or.inr (by decide)) rfl
        have hZ11U : zU [] Z Z11 := zU_u hZ9U hZ11 (Or.inl rfl)
        have hZ11K : zC [1, 2, 81, 100, 1200] Z Z11 := zC_u hZ9K hZ11 (by decide)
        intro μ9 e9
        replace e9 := e9.trans (zm_wI (Z := Z9) (ν := ν) hZ11 (show ((0 : Nat) : Int) = 0 from rfl) (show ((0 : Nat) : Int) = 0 from rfl) (show ((2 : Nat) : Int) = 2 from rfl) (show (2 : Int32) = i3 2 from rfl))
        subst e9
        exact zlY hP (show (0 : Int32) = i3 0 from rfl) (.inl rfl) ⟨(zmw (a := 0) (c := 8360576) hZ11I (Nat.le_of_ble_eq_true rfl)), hZ11K, hZ11U⟩
      · replace hP := zE_n hP h10
        refine wz_br (i3L (show (1 : Int32) = i3 1 from rfl) (rfl : i3 a2 = i3 a2) (by omega) (by omega) (by omega) (by omega)) (fun h12 => ?_) (fun h12 => ?_)
        · replace hP := zE_p hP h12
          obtain ⟨Z13, hZ13⟩ := zx (zu Z9 1 0 0 2 2)
          replace hP := zl_e hP hZ13
          have hZ13I := zM_u hZ9I hZ13 (lo := -2147483648) (hi := 2147483647) (by decide) rfl (by omega) ⟨by decide, by decide⟩ (Or.inr (by decide)) rfl
          have hZ13U : zU [] Z Z13 := zU_u hZ9U hZ13 (Or.inl rfl)
          have hZ13K : zC [1, 2, 81, 100, 1200] Z Z13 := zC_u hZ9K hZ13 (by decide)
          intro μ9 e9
          replace e9 := e9.trans (zm_wI (Z := Z9) (ν := ν) hZ13 (show ((0 : Nat) : Int) = 0 from rfl) (show ((0 : Nat) : Int) = 0 from rfl) (show ((2 : Nat) : Int) = 2 from rfl) (show (2 : Int32) = i3 2 from rfl))
          subst e9
          exact zlY hP (show (0 : Int32) = i3 0 from rfl) (.inl rfl) ⟨(zmw (a := 0) (c := 8360576) hZ13I (Nat.le_of_ble_eq_true rfl)), hZ13K, hZ13U⟩
        · replace hP := zE_n hP h12
          obtain ⟨Z14, hZ14⟩ := zx (zu Z9 1 0 0 2 0)
          replace hP := zl_e hP hZ14
          have hZ14I := zM_0 hZ9I hZ14 (by decide) (Or.inr (by decide))
          have hZ14U : zU [] Z Z14 := zU_u hZ9U hZ14 (Or.inl rfl)
          have hZ14K : zC [1, 2, 81, 100, 1200] Z Z14 := zC_u hZ9K hZ14 (by decide)
          intro μ9 e9
          replace e9 := e9.trans (zm_wI (Z := Z9) (ν := ν) hZ14 (show ((0 : Nat) : Int) = 0 from rfl) (show ((0 : Nat) : Int) = 0 from rfl) (show ((2 : Nat) : Int) = 2 from rfl) (show (0 : Int32) = i3 0 from rfl))
          subst e9
          refine wz_i0 (i3O (n := 4400) (i3A (i3A (show (3520 : Int32) = i3 3520 from rfl) (i3M (show (10 : Int32) = i3 10 from rfl) (rfl : i3 a1 = i3 a1))) (show (0 : Int32) = i3 0 from rfl)) (by omega) (by omega) (by omega)) ?_
          have r15 := zM_k hZ14I 2 0 0 (3520 + 10 * a1) (lo := 0) (hi := 18) (by decide) (zs_3520_0 (x := a1) (by omega) (by omega) (by omega))
          have r16 := zM_k hZ14I 2 0 0 0 (lo := 0) (hi := 671) (by decide) rfl
          refine wz_br (i3Le (zm_rd (Z := Z14) (ν := ν) (k := 2) (show ((0 : Nat) : Int) = 0 from rfl) (show ((0 : Nat) : Int) = 0 from rfl) (i3I (y := (3520 + 10 * a1)) (i3A (i3A (show (3520 : Int32) = i3 3520 from rfl) (i3M (show (10 : Int32) = i3 10 from rfl) (rfl : i3 a1 = i3 a1))) (show (0 : Int32) = i3 0 from rfl)) (by omega) (by omega) (by omega))) (i3R (zm_rd (Z := Z14) (ν := ν) (k := 2) (show ((0 : Nat) : Int) = 0 from rfl) (show ((0 : Nat) : Int) = 0 from rfl) (show ((0 : Nat) : Int) = 0 from rfl)) (show (24 : Int32) = i3 24 from rfl) (by omega) (by omega) (by omega) (by omega)) (by omega) (by omega) (by omega) (by omega)) (fun h17 => ?_) (fun h17 => ?_)
          · replace hP := zE_p hP h17
            refine wz_br (i3NE (i3A (i3D (zm_rd (Z := Z14) (ν := ν) (k := 2) (show ((0 : Nat) : Int) = 0 from rfl) (show ((0 : Nat) : Int) = 0 from rfl) (show ((0 : Nat) : Int) = 0 from rfl)) (show (24 : Int32) = i3 24 from rfl) (by omega) (by omega) (by omega) (by omega)) (show (1 : Int32) = i3 1 from rfl)) (show (28 : Int32) = i3 28 from rfl) (by omega) (by omega) (by omega) (by omega)) (fun h18 => ?_) (fun h18 => ?_)
            · replace hP := zE_p hP h18
              obtain ⟨Z19, hZ19, c9, hZ19I, kZ19, jZ19⟩ := sp_356 (ν := ν) hZ14I (a1 := a1) (by omega) (a2 := (((Z14 2 0 0 0) / 24) + 1)) (by omega) (by omega) (zbh (c := 0) (k := 8360576) hM (Nat.le_of_ble_eq_true rfl))
              have hZ19U : zU [] Z Z19 := zU_t hZ14U jZ19 zU_b0
              have hZ19K : zC [1, 2, 81, 100, 1200] Z Z19 := zC_t hZ14K kZ19 (by decide)
              replace hP := zl_e hP hZ19
              refine wz_cV_of (zas (zcons rfl (zcons (zvi (rfl : i3 a1 = i3 a1)) (zcons (zvi (i3A (i3D (zm_rd (Z := Z14) (ν := ν) (k := 2) (show ((0 : Nat) : Int) = 0 from rfl) (show ((0 : Nat) : Int) = 0 from rfl) (show ((0 : Nat) : Int) = 0 from rfl)) (show (24 : Int32) = i3 24 from rfl) (by omega) (by omega) (by omega) (by omega)) (show (1 : Int32) = i3 1 from rfl))) rfl))) c9) ?_
              clear c9
              refine wz_br (i3NE (rfl : i3 a2 = i3 a2) (show (0 : Int32) = i3 0 from rfl) (by omega) (by omega) (by omega) (by omega)) (fun h20 => ?_) (fun h20 => ?_)
              · replace hP := zE_p hP h20
                have r21 := zM_f hZ19I 1 0 0 32
                exact zlY hP (zm_rd (Z := Z19) (ν := ν) (k := 1) (show ((0 : Nat) : Int) = 0 from rfl) (show ((0 : Nat) : Int) = 0 from rfl) (show ((32 : Nat) : Int) = 32 from rfl)) (.inl rfl) ⟨hZ19I, hZ19K, hZ19U⟩
              · replace hP := zE_n hP h20
                have r22 := zM_f hZ19I 1 0 0 31
                exact zlY hP (zm_rd (Z := Z19) (ν := ν) (k := 1) (show ((0 : Nat) : Int) = 0 from rfl) (show ((0 : Nat) : Int) = 0 from rfl) (show ((31 : Nat) : Int) = 31 from rfl)) (.inl rfl) ⟨hZ19I, hZ19K, hZ19U⟩
            · replace hP := zE_n hP h18
              exact zlY hP (show (-1 : Int32) = i3 (-1) from rfl) (.inl rfl) ⟨(zmw (a := 0) (c := 8360576) hZ14I (Nat.le_of_ble_eq_true rfl)), hZ14K, hZ14U⟩
          · replace hP := zE_n hP h17
            refine wz_i1 (Eq.trans (i3NE (i3D (zm_rd (Z := Z14) (ν := ν) (k := 2) (show ((0 : Nat) : Int) = 0 from rfl) (show ((0 : Nat) : Int) = 0 from rfl) (show ((0 : Nat) : Int) = 0 from rfl)) (show (24 : Int32) = i3 24 from rfl) (by omega) (by omega) (by omega) (by omega)) (show (28 : Int32) = i3 28 from rfl) (by omega) (by omega) (by omega) (by omega)) (decide_eq_true (by omega))) ?_
            obtain ⟨Z23, hZ23, c9, hZ23I, kZ23, jZ23⟩ := sp_356 (ν := ν) hZ14I (a1 := a1) (by omega) (a2 := ((Z14 2 0 0 0) / 24)) (by omega) (by omega) (zbh (c := 0) (k := 8360576) hM (Nat.le_of_ble_eq_true rfl))
            have hZ23U : zU [] Z Z23 := zU_t hZ14U jZ23 zU_b0
            have hZ23K : zC [1, 2, 81, 100, 1200] Z Z23 := zC_t hZ14K kZ23 (by decide)
            replace hP := zl_e hP hZ23
            refine wz_cV_of (zas (zcons rfl (zcons (zvi (rfl : i3 a1 = i3 a1)) (zcons (zvi (i3D (zm_rd (Z := Z14) (ν := ν) (k := 2) (show ((0 : Nat) : Int) = 0 from rfl) (show ((0 : Nat) : Int) = 0 from rfl) (show ((0 : Nat) : Int) = 0 from rfl)) (show (24 : Int32) = i3 24 from rfl) (by omega) (by omega) (by omega) (by omega))) rfl))) c9) ?_
            clear c9
            refine wz_br (i3NE (rfl : i3 a2 = i3 a2) (show (0 : Int32) = i3 0 from rfl) (by omega) (by omega) (by omega) (by omega)) (fun h24 => ?_) (fun h24 => ?_)
            · replace hP := zE_p hP h24
              have r25 := zM_f hZ23I 1 0 0 32
              exact zlY hP (zm_rd (Z := Z23) (ν := ν) (k := 1) (show ((0 : Nat) : Int) = 0 from rfl) (show ((0 : Nat) : Int) = 0 from rfl) (show ((32 : Nat) : Int) = 32 from rfl)) (.inl rfl) ⟨hZ23I, hZ23K, hZ23U⟩
            · replace hP := zE_n hP h24
              have r26 := zM_f hZ23I 1 0 0 31
              exact zlY hP (zm_rd (Z := Z23) (ν := ν) (k := 1) (show ((0 : Nat) : Int) = 0 from rfl) (show ((0 : Nat) : Int) = 0 from rfl) (show ((31 : Nat) : Int) = 31 from rfl)) (.inl rfl) ⟨hZ23I, hZ23K, hZ23U⟩
/- yX12_dSeason -/
def zl_328_1 (x1 : Int) (x2 : Int) : Nat → qz_Z → Int → qz_Z × Int
  | 0, Z, x3 => (Z, x3)
  | m + 1, Z, x3 => (if x2 ≤ x3 then (Z, x3) else (zlet (zu Z 1 0 0 3 (((25173 * (Z 1 0 0 3)) + 13849) % 65536)) (fun Z6 => (zlet (zu Z6 1 0 0 3 (((25173 * (Z6 1 0 0 3)) + 13849) % 65536)) (fun Z9 => (zlet (zu Z9 1 0 0 3 (((25173 * (Z9 1 0 0 3)) + 13849) % 65536)) (fun Z12 => (zlet (zu Z12 1 0 0 3 (((25173 * (Z12 1 0 0 3)) + 13849) % 65536)) (fun Z15 => (zlet (zu Z15 1 0 0 3 (((25173 * (Z15 1 0 0 3)) + 13849) % 65536)) (fun Z18 => (zlet (zu Z18 2 0 0 (110 + 5 * (Z18 2 0 0 100)) (1 + (((Z6 1 0 0 3) / 16) % 9))) (fun Z21 => (zlet (zu Z21 2 0 0 (111 + 5 * (Z18 2 0 0 100)) (((Z9 1 0 0 3) / 16) % 13)) (fun Z22 => (zlet (zu Z22 2 0 0 (112 + 5 * (Z18 2 0 0 100)) (((Z12 1 0 0 3) / 16) % 13)) (fun Z23 => (zlet (zu Z23 2 0 0 (113 + 5 * (Z18 2 0 0 100)) (100 + (((Z15 1 0 0 3) / 16) % 501))) (fun Z24 => (zlet (zu Z24 2 0 0 (114 + 5 * (Z18 2 0 0 100)) (10 + (((Z18 1 0 0 3) / 16) % 90))) (fun Z27 => (zlet (zu Z27 2 0 0 100 ((Z27 2 0 0 100) + 1)) (fun Z30 => zl_328_1 x1 x2 m Z30 (x3 + 1))))))))))))))))))))))))
theorem sl_328_1 {s : zSM} {Zs Z : qz_Z} {ν : qz_N} (hZ : zM s Z) (hM : s.2 + 0 ≤ 1000000000) (hK : zC [1, 2] Zs Z) {x1 : Int} (gx1 : 1 ≤ x1 ∧ x1 ≤ 12) {x2 : Int} (gx2 : 2 ≤ x2 ∧ x2 ≤ 5) {x3 : Int} (gx3 : 0 ≤ x3 ∧ x3 ≤ 5) (hU : zU [] Zs Z) (gr0 : Z 2 0 0 100 = x3) (gr1 : Z 2 0 0 101 = 0) (gr2 : Z 2 0 0 102 = 0) {k : wz_K} {R : wz_R} {L : qz_L} (hL : qz_fg [true, true, true, true, false, false, false, false, false, false] L = [some (.inr (.inr (some (1, 0, 0)))), some (.inl (i3 x1)), some (.inl (i3 x2)), some (.inl (i3 x3)), none, none, none, none, none, none]) {T : qz_Z × Int} (hP : zE T (zl_328_1 x1 x2 ((5 - x3).toNat + 1) Z x3)) (hk : ∀ (L9 : qz_L) (Z9 : qz_Z) (yx3 : Int), qz_fg [true, true, true, false, false, false, false, false, false, false] L9 = [some (.inr (.inr (some (1, 0, 0)))), some (.inl (i3 x1)), some (.inl (i3 x2)), none, none, none, none, none, none, none] → zM s Z9 → zC [1, 2] Zs Z9 → zU [] Zs Z9 → (0 ≤ yx3 ∧ yx3 ≤ 5) → (Z9 2 0 0 100 = yx3) → (Z9 2 0 0 101 = 0) → (Z9 2 0 0 102 = 0) → zE T ((Z9, yx3)) → k 0 (L9, [], zm Z9 ν)) : wz_loop qb_328_1 65536 k R (L, [], zm Z ν) := by
  refine wz_lp sb_328_1 (fun m x => ∃ Z : qz_Z, ∃ x3 : Int, qz_fg [true, true, true, true, false, false, false, false, false, false] x.1 = [some (.inr (.inr (some (1, 0, 0)))), some (.inl (i3 x1)), some (.inl (i3 x2)), some (.inl (i3 x3)), none, none, none, none, none, none] ∧ x.2 = ([], zm Z ν) ∧ zM s Z ∧ zC [1, 2] Zs Z ∧ zU [] Zs Z ∧ m = (5 - x3).toNat ∧ (0 ≤ x3 ∧ x3 ≤ 5) ∧ (Z 2 0 0 100 = x3) ∧ (Z 2 0 0 101 = 0) ∧ (Z 2 0 0 102 = 0) ∧ zE T (zl_328_1 x1 x2 (m + 1) Z x3)) ?_ 65536 ((5 - x3).toNat) _ (by omega) ⟨Z, x3, hL, rfl, hZ, hK, hU, rfl, gx3, gr0, gr1, gr2, hP⟩
  clear hP gr0 gr1 gr2 gx3 hZ hK hU hL
  clear x3
  clear Z
  rintro m ⟨L, st, μ⟩ ⟨Z, x3, hL, hx, hZ, hK, hU, hm, gx3, gr0, gr1, gr2, hP⟩
  cases hx
  refine fb_328_1 (i3 x1) (i3 x2) (i3 x3) _ _ _ _ hL ?_
  have r1 := zM_k hZ 2 0 0 100 (lo := 0) (hi := 5) (by decide) rfl
  have r2 := zM_k hZ 2 0 0 101 (lo := 0) (hi := 6) (by decide) rfl
  have r3 := zM_k hZ 2 0 0 102 (lo := 0) (hi := 48) (by decide) rfl
  refine wz_br (i3Le (rfl : i3 x2 = i3 x2) (rfl : i3 x3 = i3 x3) (by omega) (by omega) (by omega) (by omega)) (fun h4 => ?_) (fun h4 => ?_)
  · replace hP := zE_p hP h4
    exact hk _ _ _ (zconso rfl (zconso (zvo (rfl : i3 x1 = i3 x1)) (zconso (zvo (rfl : i3 x2 = i3 x2)) (zconso rfl (zconso rfl (zconso rfl (zconso rfl (zconso rfl (zconso rfl (zconso rfl rfl)))))))))) hZ hK hU (by omega) (by omega) (by omega) (by omega) hP
  · replace hP := zE_n hP h4
    have r5 := zM_k hZ 1 0 0 3 (lo := 0) (hi := 65535) (by decide) rfl
    obtain ⟨Z6, hZ6⟩ := zx (zu Z 1 0 0 3 (((25173 * (Z 1 0 0 3)) + 13849) % 65536))
    replace hP := zl_e hP hZ6
    have hZ6I := zM_u hZ hZ6 (lo := 0) (hi := 65535) (by decide) rfl (by omega) ⟨by decide, by decide⟩ (Or.inr (by decide)) rfl
    have hZ6U : zU [] Zs Z6 := zU_u hU hZ6 (Or.inl rfl)
    have hZ6K : zC [1, 2] Zs Z6 := zC_u hK hZ6 (by decide)
    intro μ9 e9
    replace e9 := e9.trans (zm_wI (Z := Z) (ν := ν) hZ6 (show ((0 : Nat) : Int) = 0 from rfl) (show ((0 : Nat) : Int) = 0 from rfl) (show ((3 : Nat) : Int) = 3 from rfl) (i3R (i3A (i3M (show (25173 : Int32) = i3 25173 from rfl) (zm_rd (Z := Z) (ν := ν) (k := 1) (show ((0 : Nat) : Int) = 0 from rfl) (show ((0 : Nat) : Int) = 0 from rfl) (show ((3 : Nat) : Int) = 3 from rfl))) (show (13849 : Int32) = i3 13849 from rfl)) (show (65536 : Int32) = i3 65536 from rfl) (by omega) (by omega) (by omega) (by omega)))
    subst e9
    have r7 := zM_k hZ6I 1 0 0 3 (lo := 0) (hi := 65535) (by decide) rfl
    have q8 := zu_at hZ6
    obtain ⟨Z9, hZ9⟩ := zx (zu Z6 1 0 0 3 (((25173 * (Z6 1 0 0 3)) + 13849) % 65536))
    replace hP := zl_e hP hZ9
    have hZ9I := zM_u hZ6I hZ9 (lo := 0) (hi := 65535) (by decide) rfl (by omega) ⟨by decide, by decide⟩ (Or.inr (by decide)) rfl
    have hZ9U : zU [] Zs Z9 := zU_u hZ6U hZ9 (Or.inl rfl)
    have hZ9K : zC [1, 2] Zs Z9 := zC_u hZ6K hZ9 (by decide)
    intro μ9 e9
    replace e9 := e9.trans (zm_wI (Z := Z6) (ν := ν) hZ9 (show ((0 : Nat) : Int) = 0 from rfl) (show ((0 : Nat) : Int) = 0 from rfl) (show ((3 : Nat) : Int) = 3 from rfl) (i3R (i3A (i3M (show (25173 : Int32) = i3 25173 from rfl) (zm_rd (Z := Z6) (ν := ν) (k := 1) (show ((0 : Nat) : Int) = 0 from rfl) (show ((0 : Nat) : Int) = 0 from rfl) (show ((3 : Nat) : Int) = 3 from rfl))) (show (13849 : Int32) = i3 13849 from rfl)) (show (65536 : Int32) = i3 65536 from rfl) (by omega) (by omega) (by omega) (by omega)))
    subst e9
    have r10 := zM_k hZ9I 1 0 0 3 (lo := 0) (hi := 65535) (by decide) rfl
    have q11 := zu_at hZ9
    obtain ⟨Z12, hZ12⟩ := zx (zu Z9 1 0 0 3 (((25173 * (Z9 1 0 0 3)) + 13849) % 65536))
    replace hP := zl_e hP hZ12
    have hZ12I := zM_u hZ9I hZ12 (lo := 0) (hi := 65535) (by decide) rfl (by omega) ⟨by decide, by decide⟩ (Or.inr (by decide)) rfl
    have hZ12U : zU [] Zs Z12 := zU_u hZ9U hZ12 (Or.inl rfl)
    have hZ12K : zC [1, 2] Zs Z12 := zC_u hZ9K hZ12 (by decide)
    intro μ9 e9
    replace e9 := e9.trans (zm_wI (Z := Z9) (ν := ν) hZ12 (show ((0 : Nat) : Int) = 0 from rfl) (show ((0 : Nat) : Int) = 0 from rfl) (show ((3 : Nat) : Int) = 3 from rfl) (i3R (i3A (i3M (show (25173 : Int32) = i3 25173 from rfl) (zm_rd (Z := Z9) (ν := ν) (k := 1) (show ((0 : Nat) : Int) = 0 from rfl) (show ((0 : Nat) : Int) = 0 from rfl) (show ((3 : Nat) : Int) = 3 from rfl))) (show (13849 : Int32) = i3 13849 from rfl)) (show (65536 : Int32) = i3 65536 from rfl) (by omega) (by omega) (by omega) (by omega)))
    subst e9
    have r13 := zM_k hZ12I 1 0 0 3 (lo := 0) (hi := 65535) (by decide) rfl
    have q14 := zu_at hZ12
    obtain ⟨Z15, hZ15⟩ := zx (zu Z12 1 0 0 3 (((25173 * (Z12 1 0 0 3)) + 13849) % 65536))
    replace hP := zl_e hP hZ15
    have hZ15I := zM_u hZ12I hZ15 (lo := 0) (hi := 65535) (by decide) rfl (by omega) ⟨by decide, by decide⟩ (Or.inr (by decide)) rfl
    have hZ15U : zU [] Zs Z15 := zU_u hZ12U hZ15 (Or.inl rfl)
    have hZ15K : zC [1, 2] Zs Z15 := zC_u hZ12K hZ15 (by decide)
    intro μ9 e9
    replace e9 := e9.trans (zm_wI (Z := Z12) (ν := ν) hZ15 (show ((0 : Nat) : Int) = 0 from rfl) (show ((0 : Nat) : Int) = 0 from rfl) (show ((3 : Nat) : Int) = 3 from rfl) (i3R (i3A (i3M (show (25173 : Int32) = i3 25173 from rfl) (zm_rd (Z := Z12) (ν := ν) (k := 1) (show ((0 : Nat) : Int) = 0 from rfl) (show ((0 : Nat) : Int) = 0 from rfl) (show ((3 : Nat) : Int) = 3 from rfl))) (show (13849 : Int32) = i3 13849 from rfl)) (show (65536 : Int32) = i3 65536 from rfl) (by omega) (by omega) (by omega) (by omega)))
    subst e9
    have r16 := zM_k hZ15I 1 0 0 3 (lo := 0) (hi := 65535) (by decide) rfl
    have q17 := zu_at hZ15
    obtain ⟨Z18, hZ18⟩ := zx (zu Z15 1 0 0 3 (((25173 * (Z15 1 0 0 3)) + 13849) % 65536))
    replace hP := zl_e hP hZ18
    have hZ18I := zM_u hZ15I hZ18 (lo := 0) (hi := 65535) (by decide) rfl (by omega) ⟨by decide, by decide⟩ (Or.inr (by decide)) rfl
    have hZ18U : zU [] Zs Z18 := zU_u hZ15U hZ18 (Or.inl rfl)
    have hZ18K : zC [1, 2] Zs Z18 := zC_u hZ15K hZ18 (by decide)
    intro μ9 e9
    replace e9 := e9.trans (zm_wI (Z := Z15) (ν := ν) hZ18 (show ((0 : Nat) : Int) = 0 from rfl) (show ((0 : Nat) : Int) = 0 from rfl) (show ((3 : Nat) : Int) = 3 from rfl) (i3R (i3A (i3M (show (25173 : Int32) = i3 25173 from rfl) (zm_rd (Z := Z15) (ν := ν) (k := 1) (show ((0 : Nat) : Int) = 0 from rfl) (show ((0 : Nat) : Int) = 0 from rfl) (show ((3 : Nat) : Int) = 3 from rfl))) (show (13849 : Int32) = i3 13849 from rfl)) (show (65536 : Int32) = i3 65536 from rfl) (by omega) (by omega) (by omega) (by omega)))
    subst e9
    have r19 := zM_k hZ18I 2 0 0 100 (lo := 0) (hi := 5) (by decide) rfl
    have q20 := (zu_ne (k' := 2) (b' := 0) (i' := 0) (j' := 100) hZ18 (fun q => absurd q.1 (by decide))).trans ((zu_ne (k' := 2) (b' := 0) (i' := 0) (j' := 100) hZ15 (fun q => absurd q.1 (by decide))).trans ((zu_ne (k' := 2) (b' := 0) (i' := 0) (j' := 100) hZ12 (fun q => absurd q.1 (by decide))).trans ((zu_ne (k' := 2) (b' := 0) (i' := 0) (j' := 100) hZ9 (fun q => absurd q.1 (by decide))).trans (zu_ne (k' := 2) (b' := 0) (i' := 0) (j' := 100) hZ6 (fun q => absurd q.1 (by decide))))))
    refine wz_i0 (i3O (n := 4400) (i3A (show (110 : Int32) = i3 110 from rfl) (i3M (show (5 : Int32) = i3 5 from rfl) (zm_rd (Z := Z18) (ν := ν) (k := 2) (show ((0 : Nat) : Int) = 0 from rfl) (show ((0 : Nat) : Int) = 0 from rfl) (show ((100 : Nat) : Int) = 100 from rfl)))) (by omega) (by omega) (by omega)) ?_
    obtain ⟨Z21, hZ21⟩ := zx (zu Z18 2 0 0 (110 + 5 * (Z18 2 0 0 100)) (1 + (((Z6 1 0 0 3) / 16) % 9)))
    replace hP := zl_e hP hZ21
    have hZ21I := zM_u2 hZ18I hZ21 (lo := 0) (hi := 9) (zs_110_0 (x := (Z18 2 0 0 100)) (by omega) (by omega) (by omega)) (by omega) ⟨by decide, by decide⟩ (by simp only [zsp]; omega)
    have hZ21U : zU [] Zs Z21 := zU_u hZ18U hZ21 (Or.inl rfl)
    have hZ21K : zC [1, 2] Zs Z21 := zC_u hZ18K hZ21 (zcl_2w (by omega) rfl)
    intro μ9 e9
    replace e9 := e9.trans (zm_wI (Z := Z18) (ν := ν) hZ21 (show ((0 : Nat) : Int) = 0 from rfl) (show ((0 : Nat) : Int) = 0 from rfl) (i3I (y := (110 + 5 * (Z18 2 0 0 100))) (i3A (show (110 : Int32) = i3 110 from rfl) (i3M (show (5 : Int32) = i3 5 from rfl) (zm_rd (Z := Z18) (ν := ν) (k := 2) (show ((0 : Nat) : Int) = 0 from rfl) (show ((0 : Nat) : Int) = 0 from rfl) (show ((100 : Nat) : Int) = 100 from rfl)))) (by omega) (by omega) (by omega)) (i3A (show (1 : Int32) = i3 1 from rfl) (i3R (i3D (zm_rd (Z := Z6) (ν := ν) (k := 1) (show ((0 : Nat) : Int) = 0 from rfl) (show ((0 : Nat) : Int) = 0 from rfl) (show ((3 : Nat) : Int) = 3 from rfl)) (show (16 : Int32) = i3 16 from rfl) (by omega) (by omega) (by omega) (by omega)) (show (9 : Int32) = i3 9 from rfl) (by omega) (by omega) (by omega) (by omega))))
    subst e9
    refine wz_i0 (i3O (n := 4400) (i3A (i3A (show (110 : Int32) = i3 110 from rfl) (i3M (show (5 : Int32) = i3 5 from rfl) (zm_rd (Z := Z18) (ν := ν) (k := 2) (show ((0 : Nat) : Int) = 0 from rfl) (show ((0 : Nat) : Int) = 0 from rfl) (show ((100 : Nat) : Int) = 100 from rfl)))) (show (1 : Int32) = i3 1 from rfl)) (by omega) (by omega) (by omega)) ?_
    obtain ⟨Z22, hZ22⟩ := zx (zu Z21 2 0 0 (111 + 5 * (Z18 2 0 0 100)) (((Z9 1 0 0 3) / 16) % 13))
    replace hP := zl_e hP hZ22
    have hZ22I := zM_u2 hZ21I hZ22 (lo := 0) (hi := 12) (zs_110_1 (x := (Z18 2 0 0 100)) (by omega) (by omega) (by omega)) (by omega) ⟨by decide, by decide⟩ (by simp only [zsp]; omega)
    have hZ22U : zU [] Zs Z22 := zU_u hZ21U hZ22 (Or.inl rfl)
    have hZ22K : zC [1, 2] Zs Z22 := zC_u hZ21K hZ22 (zcl_2w (by omega) rfl)
    intro μ9 e9
    replace e9 := e9.trans (zm_wI (Z := Z21) (ν := ν) hZ22 (show ((0 : Nat) : Int) = 0 from rfl) (show ((0 : Nat) : Int) = 0 from rfl) (i3I (y := (111 + 5 * (Z18 2 0 0 100))) (i3A (i3A (show (110 : Int32) = i3 110 from rfl) (i3M (show (5 : Int32) = i3 5 from rfl) (zm_rd (Z := Z18) (ν := ν) (k := 2) (show ((0 : Nat) : Int) = 0 from rfl) (show ((0 : Nat) : Int) = 0 from rfl) (show ((100 : Nat) : Int) = 100 from rfl)))) (show (1 : Int32) = i3 1 from rfl)) (by omega) (by omega) (by omega)) (i3R (i3D (zm_rd (Z := Z9) (ν := ν) (k := 1) (show ((0 : Nat) : Int) = 0 from rfl) (show ((0 : Nat) : Int) = 0 from rfl) (show ((3 : Nat) : Int) = 3 from rfl)) (show (16 : Int32) = i3 16 from rfl) (by omega) (by omega) (by omega) (by omega)) (show (13 : Int32) = i3 13 from rfl) (by omega) (by omega) (by omega) (by omega)))
    subst e9
    refine wz_i0 (i3O (n := 4400) (i3A (i3A (show (110 : Int32) = i3 110 from rfl) (i3M (show (5 : Int32) = i3 5 from rfl) (zm_rd (Z := Z18) (ν := ν) (k := 2) (show ((0 : Nat) : Int) = 0 from rfl) (show ((0 : Nat) : Int) = 0 from rfl) (show ((100 : Nat) : Int) = 100 from rfl)))) (show (2 : Int32) = i3 2 from rfl)) (by omega) (by omega) (by omega)) ?_
    obtain ⟨Z23, hZ23⟩ := zx (zu Z22 2 0 0 (112 + 5 * (Z18 2 0 0 100)) (((Z12 1 0 0 3) / 16) % 13))
    replace hP := zl_e hP hZ23
    have hZ23I := zM_u2 hZ22I hZ23 (lo := 0) (hi := 12) (zs_110_2 (x := (Z18 2 0 0 100)) (by omega) (by omega) (by omega)) (by omega) ⟨by decide, by decide⟩ (by simp only [zsp]; omega)
    have hZ23U : zU [] Zs Z23 := zU_u hZ22U hZ23 (Or.inl rfl)
    have hZ23K : zC [1, 2] Zs Z23 := zC_u hZ22K hZ23 (zcl_2w (by omega) rfl)
    intro μ9 e9
    replace e9 := e9.trans (zm_wI (Z := Z22) (ν := ν) hZ23 (show ((0 : Nat) : Int) = 0 from rfl) (show ((0 : Nat) : Int) = 0 from rfl) (i3I (y := (112 + 5 * (Z18 2 0 0 100))) (i3A (i3A (show (110 : Int32) = i3 110 from rfl) (i3M (show (5 : Int32) = i3 5 from rfl) (zm_rd (Z := Z18) (ν := ν) (k := 2) (show ((0 : Nat) : Int) = 0 from rfl) (show ((0 : Nat) : Int) = 0 from rfl) (show ((100 : Nat) : Int) = 100 from rfl)))) (show (2 : Int32) = i3 2 from rfl)) (by omega) (by omega) (by omega)) (i3R (i3D (zm_rd (Z := Z12) (ν := ν) (k := 1) (show ((0 : Nat) : Int) = 0 from rfl) (show ((0 : Nat) : Int) = 0 from rfl) (show ((3 : Nat) : Int) = 3 from rfl)) (show (16 : Int32) = i3 16 from rfl) (by omega) (by omega) (by omega) (by omega)) (show (13 : Int32) = i3 13 from rfl) (by omega) (by omega) (by omega) (by omega)))
    subst e9
    refine wz_i0 (i3O (n := 4400) (i3A (i3A (show (110 : Int32) = i3 110 from rfl) (i3M (show (5 : Int32) = i3 5 from rfl) (zm_rd (Z := Z18) (ν := ν) (k := 2) (show ((0 : Nat) : Int) = 0 from rfl) (show ((0 : Nat) : Int) = 0 from rfl) (show ((100 : Nat) : Int) = 100 from rfl)))) (show (3 : Int32) = i3 3 from rfl)) (by omega) (by omega) (by omega)) ?_
    obtain ⟨Z24, hZ24⟩ := zx (zu Z23 2 0 0 (113 + 5 * (Z18 2 0 0 100)) (100 + (((Z15 1 0 0 3) / 16) % 501)))
    replace hP := zl_e hP hZ24
    have hZ24I := zM_u2 hZ23I hZ24 (lo := 0) (hi := 600) (zs_110_3 (x := (Z18 2 0 0 100)) (by omega) (by omega) (by omega)) (by omega) ⟨by decide, by decide⟩ (by simp only [zsp]; omega)
    have hZ24U : zU [] Zs Z24 := zU_u hZ23U hZ24 (Or.inl rfl)
    have hZ24K : zC [1, 2] Zs Z24 := zC_u hZ23K hZ24 (zcl_2w (by omega) rfl)
    intro μ9 e9
    replace e9 := e9.trans (zm_wI (Z := Z23) (ν := ν) hZ24 (show ((0 : Nat) : Int) = 0 from rfl) (show ((0 : Nat) : Int) = 0 from rfl) (i3I (y := (113 + 5 * (Z18 2 0 0 100))) (i3A (i3A (show (110 : Int32) = i3 110 from rfl) (i3M (show (5 : Int32) = i3 5 from rfl) (zm_rd (Z := Z18) (ν := ν) (k := 2) (show ((0 : Nat) : Int) = 0 from rfl) (show ((0 : Nat) : Int) = 0 from rfl) (show ((100 : Nat) : Int) = 100 from rfl)))) (show (3 : Int32) = i3 3 from rfl)) (by omega) (by omega) (by omega)) (i3A (show (100 : Int32) = i3 100 from rfl) (i3R (i3D (zm_rd (Z := Z15) (ν := ν) (k := 1) (show ((0 : Nat) : Int) = 0 from rfl) (show ((0 : Nat) : Int) = 0 from rfl) (show ((3 : Nat) : Int) = 3 from rfl)) (show (16 : Int32) = i3 16 from rfl) (by omega) (by omega) (by omega) (by omega)) (show (501 : Int32) = i3 501 from rfl) (by omega) (by omega) (by omega) (by omega))))
    subst e9
    refine wz_i0 (i3O (n := 4400) (i3A (i3A (show (110 : Int32) = i3 110 from rfl) (i3M (show (5 : Int32) = i3 5 from rfl) (zm_rd (Z := Z18) (ν := ν) (k := 2) (show ((0 : Nat) : Int) = 0 from rfl) (show ((0 : Nat) : Int) = 0 from rfl) (show ((100 : Nat) : Int) = 100 from rfl)))) (show (4 : Int32) = i3 4 from rfl)) (by omega) (by omega) (by omega)) ?_
    have r25 := zM_k hZ18I 1 0 0 3 (lo := 0) (hi := 65535) (by decide) rfl
    have q26 := zu_at hZ18
    obtain ⟨Z27, hZ27⟩ := zx (zu Z24 2 0 0 (114 + 5 * (Z18 2 0 0 100)) (10 + (((Z18 1 0 0 3) / 16) % 90)))
    replace hP := zl_e hP hZ27
    have hZ27I := zM_u2 hZ24I hZ27 (lo := 0) (hi := 99) (zs_110_4 (x := (Z18 2 0 0 100)) (by omega) (by omega) (by omega)) (by omega) ⟨by decide, by decide⟩ (by simp only [zsp]; omega)
    have hZ27U : zU [] Zs Z27 := zU_u hZ24U hZ27 (Or.inl rfl)
    have hZ27K : zC [1, 2] Zs Z27 := zC_u hZ24K hZ27 (zcl_2w (by omega) rfl)
    intro μ9 e9
    replace e9 := e9.trans (zm_wI (Z := Z24) (ν := ν) hZ27 (show ((0 : Nat) : Int) = 0 from rfl) (show ((0 : Nat) : Int) = 0 from rfl) (i3I (y := (114 + 5 * (Z18 2 0 0 100))) (i3A (i3A (show (110 : Int32) = i3 110 from rfl) (i3M (show (5 : Int32) = i3 5 from rfl) (zm_rd (Z := Z18) (ν := ν) (k := 2) (show ((0 : Nat) : Int) = 0 from rfl) (show ((0 : Nat) : Int) = 0 from rfl) (show ((100 : Nat) : Int) = 100 from rfl)))) (show (4 : Int32) = i3 4 from rfl)) (by omega) (by omega) (by omega)) (i3A (show (10 : Int32) = i3 10 from rfl) (i3R (i3D (zm_rd (Z := Z18) (ν := ν) (k := 1) (show ((0 : Nat) : Int) = 0 from rfl) (show ((0 : Nat) : Int) = 0 from rfl) (show ((3 : Nat) : Int) = 3 from rfl)) (show (16 : Int32) = i3 16 from rfl) (by omega) (by omega) (by omega) (by omega)) (show (90 : Int32) = i3 90 from rfl) (by omega) (by omega) (by omega) (by omega))))
    subst e9
    have r28 := zM_k hZ27I 2 0 0 100 (lo := 0) (hi := 5) (by decide) rfl
    have q29 := (zu_ne (k' := 2) (b' := 0) (i' := 0) (j' := 100) hZ27 (fun q => absurd q.2.2.2 (by omega))).trans ((zu_ne (k' := 2) (b' := 0) (i' := 0) (j' := 100) hZ24 (fun q => absurd q.2.2.2 (by omega))).trans ((zu_ne (k' := 2) (b' := 0) (i' := 0) (j' := 100) hZ23 (fun q => absurd q.2.2.2 (by omega))).trans ((zu_ne (k' := 2) (b' := 0) (i' := 0) (j' := 100) hZ22 (fun q => absurd q.2.2.2 (by omega))).trans (zu_ne (k' := 2) (b' := 0) (i' := 0) (j' := 100) hZ21 (fun q => absurd q.2.2.2 (by omega))))))
    obtain ⟨Z30, hZ30⟩ := zx (zu Z27 2 0 0 100 ((Z27 2 0 0 100) + 1))
    replace hP := zl_e hP hZ30
    have hZ30I := zM_u2 hZ27I hZ30 (lo := 0) (hi := 5) rfl (by omega) ⟨by decide, by decide⟩ (by simp only [zsp]; omega)
    have hZ30U : zU [] Zs Z30 := zU_u hZ27U hZ30 (Or.inl rfl)
    have hZ30K : zC [1, 2] Zs Z30 := zC_u hZ27K hZ30 (by decide)
    intro μ9 e9
    replace e9 := e9.trans (zm_wI (Z := Z27) (ν := ν) hZ30 (show ((0 : Nat) : Int) = 0 from rfl) (show ((0 : Nat) : Int) = 0 from rfl) (show ((100 : Nat) : Int) = 100 from rfl) (i3A (zm_rd (Z := Z27) (ν := ν) (k := 2) (show ((0 : Nat) : Int) = 0 from rfl) (show ((0 : Nat) : Int) = 0 from rfl) (show ((100 : Nat) : Int) = 100 from rfl)) (show (1 : Int32) = i3 1 from rfl)))
    subst e9
    have r31 := zM_k hZ30I 2 0 0 100 (lo := 0) (hi := 5) (by decide) rfl
    have q32 := zu_at hZ30
    have r33 := zM_k hZ30I 2 0 0 101 (lo := 0) (hi := 6) (by decide) rfl
    have q34 := (zu_ne (k' := 2) (b' := 0) (i' := 0) (j' := 101) hZ30 (fun q => absurd q.2.2.2 (by decide))).trans ((zu_ne (k' := 2) (b' := 0) (i' := 0) (j' := 101) hZ27 (fun q => absurd q.2.2.2 (by omega))).trans ((zu_ne (k' := 2) (b' := 0) (i' := 0) (j' := 101) hZ24 (fun q => absurd q.2.2.2 (by omega))).trans ((zu_ne (k' := 2) (b' := 0) (i' := 0) (j' := 101) hZ23 (fun q => absurd q.2.2.2 (by omega))).trans ((zu_ne (k' := 2) (b' := 0) (i' := 0) (j' := 101) hZ22 (fun q => absurd q.2.2.2 (by omega))).trans ((zu_ne (k' := 2) (b' := 0) (i' := 0) (j' := 101) hZ21 (fun q => absurd q.2.2.2 (by omega))).trans ((zu_ne (k' := 2) (b' := 0) (i' := 0) (j' := 101) hZ18 (fun q => absurd q.1 (by decide))).trans ((zu_ne (k' := 2) (b' := 0) (i' := 0) (j' := 101) hZ15 (fun q => absurd q.1 (by decide))).trans ((zu_ne (k' := 2) (b' := 0) (i' := 0) (j' := 101) hZ12 (fun q => absurd q.1 (by decide))).trans ((zu_ne (k' := 2) (b' := 0) (i' := 0) (j' := 101) hZ9 (fun q => absurd q.1 (by decide))).trans (zu_ne (k' := 2) (b' := 0) (i' := 0) (j' := 101) hZ6 (fun q => absurd q.1 (by decide))))))))))))
    have r35 := zM_k hZ30I 2 0 0 102 (lo := 0) (hi := 48) (by decide) rfl
    have q36 := (zu_ne (k' := 2) (b' := 0) (i' := 0) (j' := 102) hZ30 (fun q => absurd q.2.2.2 (by decide))).trans ((zu_ne (k' := 2) (b' := 0) (i' := 0) (j' := 102) hZ27 (fun q => absurd q.2.2.2 (by omega))).trans ((zu_ne (k' := 2) (b' := 0) (i' := 0) (j' := 102) hZ24 (fun q => absurd q.2.2.2 (by omega))).trans ((zu_ne (k' := 2) (b' := 0) (i' := 0) (j' := 102) hZ23 (fun q => absurd q.2.2.2 (by omega))).trans ((zu_ne (k' := 2) (b' := 0) (i' := 0) (j' := 102) hZ22 (fun q => absurd q.2.2.2 (by omega))).trans ((zu_ne (k' := 2) (b' := 0) (i' := 0) (j' := 102) hZ21 (fun q => absurd q.2.2.2 (by omega))).trans ((zu_ne (k' := 2) (b' := 0) (i' := 0) (j' := 102) hZ18 (fun q => absurd q.1 (by decide))).trans ((zu_ne (k' := 2) (b' := 0) (i' := 0) (j' := 102) hZ15 (fun q => absurd q.1 (by decide))).trans ((zu_ne (k' := 2) (b' := 0) (i' := 0) (j' := 102) hZ12 (fun q => absurd q.1 (by decide))).trans ((zu_ne (k' := 2) (b' := 0) (i' := 0) (j' := 102) hZ9 (fun q => absurd q.1 (by decide))).trans (zu_ne (k' := 2) (b' := 0) (i' := 0) (j' := 102) hZ6 (fun q => absurd q.1 (by decide))))))))))))
    obtain ⟨m2, rfl⟩ : ∃ m2, m = m2 + 1 := ⟨m - 1, by omega⟩
    exact wz_k1 ⟨m2, by omega, Z30, (x3 + 1), (zconso rfl (zconso (zvo (rfl : i3 x1 = i3 x1)) (zconso (zvo (rfl : i3 x2 = i3 x2)) (zconso (zvo (i3A (rfl : i3 x3 = i3 x3) (show (1 : Int32) = i3 1 from rfl))) (zconso rfl (zconso rfl (zconso rfl (zconso rfl (zconso rfl (zconso rfl rfl)))))))))), rfl, hZ30I, hZ30K, hZ30U, by omega, by omega, by omega, by omega, by omega,  hP⟩
/- yX12_dSeason -/
def zl_328_2 (x1 : Int) (x2 : Int) (x3 : Int) : Nat → qz_Z → Int → qz_Z × Int
  | 0, Z, x4 => (Z, x4)
  | m + 1, Z, x4 => (if x3 ≤ x4 then (Z, x4) else (zlet (zu Z 1 0 0 3 (((25173 * (Z 1 0 0 3)) + 13849) % 65536)) (fun Z5 => (zlet (zu Z5 1 0 0 3 (((25173 * (Z5 1 0 0 3)) + 13849) % 65536)) (fun Z8 => (zlet (zu Z8 2 0 0 (140 + 2 * (Z8 2 0 0 101)) (((Z5 1 0 0 3) / 16) % 26)) (fun Z11 => (zlet (zu Z11 2 0 0 (141 + 2 * (Z8 2 0 0 101)) (((Z8 1 0 0 3) / 16) % 10)) (fun Z14 => (zlet (zu Z14 2 0 0 101 ((Z14 2 0 0 101) + 1)) (fun Z17 => zl_328_2 x1 x2 x3 m Z17 (x4 + 1))))))))))))
theorem sl_328_2 {s : zSM} {Zs Z : qz_Z} {ν : qz_N} (hZ : zM s Z) (hM : s.2 + 0 ≤ 1000000000) (hK : zC [1, 2] Zs Z) {x1 : Int} (gx1 : 1 ≤ x1 ∧ x1 ≤ 12) {x2 : Int} (gx2 : 2 ≤ x2 ∧ x2 ≤ 5) {x3 : Int} (gx3 : 2 ≤ x3 ∧ x3 ≤ 6) {x4 : Int} (gx4 : 0 ≤ x4 ∧ x4 ≤ 6) (hU : zU [] Zs Z) (gr0 : Z 2 0 0 101 = x4) (gr1 : Z 2 0 0 102 = 0) {k : wz_K} {R : wz_R} {L : qz_L} (hL : qz_fg [true, true, true, true, true, false, false, false, false, false] L = [some (.inr (.inr (some (1, 0, 0)))), some (.inl (i3 x1)), some (.inl (i3 x2)), some (.inl (i3 x3)), some (.inl (i3 x4)), none, none, none, none, none]) {T : qz_Z × Int} (hP : zE T (zl_328_2 x1 x2 x3 ((6 - x4).toNat + 1) Z x4)) (hk : ∀ (L9 : qz_L) (Z9 : qz_Z) (yx4 : Int), qz_fg [true, true, true, true, false, false, false, false, false, false] L9 = [some (.inr (.inr (some (1, 0, 0)))), some (.inl (i3 x1)), some (.inl (i3 x2)), some (.inl (i3 x3)), none, none, none, none, none, none] → zM s Z9 → zC [1, 2] Zs Z9 → zU [] Zs Z9 → (0 ≤ yx4 ∧ yx4 ≤ 6) → (Z9 2 0 0 101 = yx4) → (Z9 2 0 0 102 = 0) → zE T ((Z9, yx4)) → k 0 (L9, [], zm Z9 ν)) : wz_loop qb_328_2 65536 k R (L, [], zm Z ν) := by
  refine wz_lp sb_328_2 (fun m x => ∃ Z : qz_Z, ∃ x4 : Int, qz_fg [true, true, true, true, true, false, false, false, false, false] x.1 = [some (.inr (.inr (some (1, 0, 0)))), some (.inl (i3 x1)), some (.inl (i3 x2)), some (.inl (i3 x3)), some (.inl (i3 x4)), none, none, none, none, none] ∧ x.2 = ([], zm Z ν) ∧ zM s Z ∧ zC [1, 2] Zs Z ∧ zU [] Zs Z ∧ m = (6 - x4).toNat ∧ (0 ≤ x4 ∧ x4 ≤ 6) ∧ (Z 2 0 0 101 = x4) ∧ (Z 2 0 0 102 = 0) ∧ zE T (zl_328_2 x1 x2 x3 (m + 1) Z x4)) ?_ 65536 ((6 - x4).toNat) _ (by omega) ⟨Z, x4, hL, rfl, hZ, hK, hU, rfl, gx4, gr0, gr1, hP⟩
  clear hP gr0 gr1 gx4 hZ hK hU hL
  clear x4
  clear Z
  rintro m ⟨L, st, μ⟩ ⟨Z, x4, hL, hx, hZ, hK, hU, hm, gx4, gr0, gr1, hP⟩
  cases hx
  refine fb_328_2 (i3 x1) (i3 x2) (i3 x3) (i3 x4) _ _ _ _ hL ?_
  have r1 := zM_k hZ 2 0 0 101 (lo := 0) (hi := 6) (by decide) rfl
  have r2 := zM_k hZ 2 0 0 102 (lo := 0) (hi := 48) (by decide) rfl
  refine wz_br (i3Le (rfl : i3 x3 = i3 x3) (rfl : i3 x4 = i3 x4) (by omega) (by omega) (by omega) (by omega)) (fun h3 => ?_) (fun h3 => ?_)
  · replace hP := zE_p hP h3
    exact hk _ _ _ (zconso rfl (zconso (zvo (rfl : i3 x1 = i3 x1)) (zconso (zvo (rfl : i3 x2 = i3 x2)) (zconso (zvo (rfl : i3 x3 = i3 x3)) (zconso rfl (zconso rfl (zconso rfl (zconso rfl (zconso rfl (zconso rfl rfl)))))))))) hZ hK hU (by omega) (by omega) (by omega) hP
  · replace hP := zE_n hP h3
    have r4 := zM_k hZ 1 0 0 3 (lo := 0) (hi := 65535) (by decide) rfl
    obtain ⟨Z5, hZ5⟩ := zx (zu Z 1 0 0 3 (((25173 * (Z 1 0 0 3)) + 13849) % 65536))
    replace hP := zl_e hP hZ5
    have hZ5I := zM_u hZ hZ5 (lo := 0) (hi := 65535) (by decide) rfl (by omega) ⟨by decide, by decide⟩ (Or.inr (by decide)) rfl
    have hZ5U : zU [] Zs Z5 := zU_u hU hZ5 (Or.inl rfl)
    have hZ5K : zC [1, 2] Zs Z5 := zC_u hK hZ5 (by decide)
    intro μ9 e9
    replace e9 := e9.trans (zm_wI (Z := Z) (ν := ν) hZ5 (show ((0 : Nat) : Int) = 0 from rfl) (show ((0 : Nat) : Int) = 0 from rfl) (show ((3 : Nat) : Int) = 3 from rfl) (i3R (i3A (i3M (show (25173 : Int32) = i3 25173 from rfl) (zm_rd (Z := Z) (ν := ν) (k := 1) (show ((0 : Nat) : Int) = 0 from rfl) (show ((0 : Nat) : Int) = 0 from rfl) (show ((3 : Nat) : Int) = 3 from rfl))) (show (13849 : Int32) = i3 13849 from rfl)) (show (65536 : Int32) = i3 65536 from rfl) (by omega) (by omega) (by omega) (by omega)))
    subst e9
    have r6 := zM_k hZ5I 1 0 0 3 (lo := 0) (hi := 65535) (by decide) rfl
    have q7 := zu_at hZ5
    obtain ⟨Z8, hZ8⟩ := zx (zu Z5 1 0 0 3 (((25173 * (Z5 1 0 0 3)) + 13849) % 65536))
    replace hP := zl_e hP hZ8
    have hZ8I := zM_u hZ5I hZ8 (lo := 0) (hi := 65535) (by decide) rfl (by omega) ⟨by decide, by decide⟩ (Or.inr (by decide)) rfl
    have hZ8U : zU [] Zs Z8 := zU_u hZ5U hZ8 (Or.inl rfl)
    have hZ8K : zC [1, 2] Zs Z8 := zC_u hZ5K hZ8 (by decide)
    intro μ9 e9
    replace e9 := e9.trans (zm_wI (Z := Z5) (ν := ν) hZ8 (show ((0 : Nat) : Int) = 0 from rfl) (show ((0 : Nat) : Int) = 0 from rfl) (show ((3 : Nat) : Int) = 3 from rfl) (i3R (i3A (i3M (show (25173 : Int32) = i3 25173 from rfl) (zm_rd (Z := Z5) (ν := ν) (k := 1) (show ((0 : Nat) : Int) = 0 from rfl) (show ((0 : Nat) : Int) = 0 from rfl) (show ((3 : Nat) : Int) = 3 from rfl))) (show (13849 : Int32) = i3 13849 from rfl)) (show (65536 : Int32) = i3 65536 from rfl) (by omega) (by omega) (by omega) (by omega)))
    subst e9
    have r9 := zM_k hZ8I 2 0 0 101 (lo := 0) (hi := 6) (by decide) rfl
    have q10 := (zu_ne (k' := 2) (b' := 0) (i' := 0) (j' := 101) hZ8 (fun q => absurd q.1 (by decide))).trans (zu_ne (k' := 2) (b' := 0) (i' := 0) (j' := 101) hZ5 (fun q => absurd q.1 (by decide)))
    refine wz_i0 (i3O (n := 4400) (i3A (show (140 : Int32) = i3 140 from rfl) (i3M (show (2 : Int32) = i3 2 from rfl) (zm_rd (Z := Z8) (ν := ν) (k := 2) (show ((0 : Nat) : Int) = 0 from rfl) (show ((0 : Nat) : Int) = 0 from rfl) (show ((101 : Nat) : Int) = 101 from rfl)))) (by omega) (by omega) (by omega)) ?_
    obtain ⟨Z11, hZ11⟩ := zx (zu Z8 2 0 0 (140 + 2 * (Z8 2 0 0 101)) (((Z5 1 0 0 3) / 16) % 26))
    replace hP := zl_e hP hZ11
    have hZ11I := zM_u2 hZ8I hZ11 (lo := 0) (hi := 25) (zs_140_0 (x := (Z8 2 0 0 101)) (by omega) (by omega) (by omega)) (by omega) ⟨by decide, by decide⟩ (by simp only [zsp]; omega)
    have hZ11U : zU [] Zs Z11 := zU_u hZ8U hZ11 (Or.inl rfl)
    have hZ11K : zC [1, 2] Zs Z11 := zC_u hZ8K hZ11 (zcl_2w (by omega) rfl)
    intro μ9 e9
    replace e9 := e9.trans (zm_wI (Z := Z8) (ν := ν) hZ11 (show ((0 : Nat) : Int) = 0 from rfl) (show ((0 : Nat) : Int) = 0 from rfl) (i3I (y := (140 + 2 * (Z8 2 0 0 101))) (i3A (show (140 : Int32) = i3 140 from rfl) (i3M (show (2 : Int32) = i3 2 from rfl) (zm_rd (Z := Z8) (ν := ν) (k := 2) (show ((0 : Nat) : Int) = 0 from rfl) (show ((0 : Nat) : Int) = 0 from rfl) (show ((101 : Nat) : Int) = 101 from rfl)))) (by omega) (by omega) (by omega)) (i3R (i3D (zm_rd (Z := Z5) (ν := ν) (k := 1) (show ((0 : Nat) : Int) = 0 from rfl) (show ((0 : Nat) : Int) = 0 from rfl) (show ((3 : Nat) : Int) = 3 from rfl)) (show (16 : Int32) = i3 16 from rfl) (by omega) (by omega) (by omega) (by omega)) (show (26 : Int32) = i3 26 from rfl) (by omega) (by omega) (by omega) (by omega)))
    subst e9
    refine wz_i0 (i3O (n := 4400) (i3A (i3A (show (140 : Int32) = i3 140 from rfl) (i3M (show (2 : Int32) = i3 2 from rfl) (zm_rd (Z := Z8) (ν := ν) (k := 2) (show ((0 : Nat) : Int) = 0 from rfl) (show ((0 : Nat) : Int) = 0 from rfl) (show ((101 : Nat) : Int) = 101 from rfl)))) (show (1 : Int32) = i3 1 from rfl)) (by omega) (by omega) (by omega)) ?_
    have r12 := zM_k hZ8I 1 0 0 3 (lo := 0) (hi := 65535) (by decide) rfl
    have q13 := zu_at hZ8
    obtain ⟨Z14, hZ14⟩ := zx (zu Z11 2 0 0 (141 + 2 * (Z8 2 0 0 101)) (((Z8 1 0 0 3) / 16) % 10))
    replace hP := zl_e hP hZ14
    have hZ14I := zM_u2 hZ11I hZ14 (lo := 0) (hi := 9) (zs_140_1 (x := (Z8 2 0 0 101)) (by omega) (by omega) (by omega)) (by omega) ⟨by decide, by decide⟩ (by simp only [zsp]; omega)
    have hZ14U : zU [] Zs Z14 := zU_u hZ11U hZ14 (Or.inl rfl)
    have hZ14K : zC [1, 2] Zs Z14 := zC_u hZ11K hZ14 (zcl_2w (by omega) rfl)
    intro μ9 e9
    replace e9 := e9.trans (zm_wI (Z := Z11) (ν := ν) hZ14 (show ((0 : Nat) : Int) = 0 from rfl) (show ((0 : Nat) : Int) = 0 from rfl) (i3I (y := (141 + 2 * (Z8 2 0 0 101))) (i3A (i3A (show (140 : Int32) = i3 140 from rfl) (i3M (show (2 : Int32) = i3 2 from rfl) (zm_rd (Z := Z8) (ν := ν) (k := 2) (show ((0 : Nat) : Int) = 0 from rfl) (show ((0 : Nat) : Int) = 0 from rfl) (show ((101 : Nat) : Int) = 101 from rfl)))) (show (1 : Int32) = i3 1 from rfl)) (by omega) (by omega) (by omega)) (i3R (i3D (zm_rd (Z := Z8) (ν := ν) (k := 1) (show ((0 : Nat) : Int) = 0 from rfl) (show ((0 : Nat) : Int) = 0 from rfl) (show ((3 : Nat) : Int) = 3 from rfl)) (show (16 : Int32) = i3 16 from rfl) (by omega) (by omega) (by omega) (by omega)) (show (10 : Int32) = i3 10 from rfl) (by omega) (by omega) (by omega) (by omega)))
    subst e9
    have r15 := zM_k hZ14I 2 0 0 101 (lo := 0) (hi := 6) (by decide) rfl
    have q16 := (zu_ne (k' := 2) (b' := 0) (i' := 0) (j' := 101) hZ14 (fun q => absurd q.2.2.2 (by omega))).trans (zu_ne (k' := 2) (b' := 0) (i' := 0) (j' := 101) hZ11 (fun q => absurd q.2.2.2 (by omega)))
    obtain ⟨Z17, hZ17⟩ := zx (zu Z14 2 0 0 101 ((Z14 2 0 0 101) + 1))
    replace hP := zl_e hP hZ17
    have hZ17I := zM_u2 hZ14I hZ17 (lo := 0) (hi := 6) rfl (by omega) ⟨by decide, by decide⟩ (by simp only [zsp]; omega)
    have hZ17U : zU [] Zs Z17 := zU_u hZ14U hZ17 (Or.inl rfl)
    have hZ17K : zC [1, 2] Zs Z17 := zC_u hZ14K hZ17 (by decide)
    intro μ9 e9
    replace e9 := e9.trans (zm_wI (Z := Z14) (ν := ν) hZ17 (show ((0 : Nat) : Int) = 0 from rfl) (show ((0 : Nat) : Int) = 0 from rfl) (show ((101 : Nat) : Int) = 101 from rfl) (i3A (zm_rd (Z := Z14) (ν := ν) (k := 2) (show ((0 : Nat) : Int) = 0 from rfl) (show ((0 : Nat) : Int) = 0 from rfl) (show ((101 : Nat) : Int) = 101 from rfl)) (show (1 : Int32) = i3 1 from rfl)))
    subst e9
    have r18 := zM_k hZ17I 2 0 0 101 (lo := 0) (hi := 6) (by decide) rfl
    have q19 := zu_at hZ17
    have r20 := zM_k hZ17I 2 0 0 102 (lo := 0) (hi := 48) (by decide) rfl
    have q21 := (zu_ne (k' := 2) (b' := 0) (i' := 0) (j' := 102) hZ17 (fun q => absurd q.2.2.2 (by decide))).trans ((zu_ne (k' := 2) (b' := 0) (i' := 0) (j' := 102) hZ14 (fun q => absurd q.2.2.2 (by omega))).trans ((zu_ne (k' := 2) (b' := 0) (i' := 0) (j' := 102) hZ11 (fun q => absurd q.2.2.2 (by omega))).trans ((zu_ne (k' := 2) (b' := 0) (i' := 0) (j' := 102) hZ8 (fun q => absurd q.1 (by decide))).trans (zu_ne (k' := 2) (b' := 0) (i' := 0) (j' := 102) hZ5 (fun q => absurd q.1 (by decide))))))
    obtain ⟨m2, rfl⟩ : ∃ m2, m = m2 + 1 := ⟨m - 1, by omega⟩
    exact wz_k1 ⟨m2, by omega, Z17, (x4 + 1), (zconso rfl (zconso (zvo (rfl : i3 x1 = i3 x1)) (zconso (zvo (rfl : i3 x2 = i3 x2)) (zconso (zvo (rfl : i3 x3 = i3 x3)) (zconso (zvo (i3A (rfl : i3 x4 = i3 x4) (show (1 : Int32) = i3 1 from rfl))) (zconso rfl (zconso rfl (zconso rfl (zconso rfl (zconso rfl rfl)))))))))), rfl, hZ17I, hZ17K, hZ17U, by omega, by omega, by omega, by omega,  hP⟩
/- yX12_dSeason -/
def zl_328_3 (x1 : Int) (x2 : Int) (x3 : Int) : Nat → qz_Z → Int → qz_Z × Int
  | 0, Z, x4 => (Z, x4)
  | m + 1, Z, x4 => (if x1 ≤ x4 then (Z, x4) else (zlet (zu Z 1 0 0 3 (((25173 * (Z 1 0 0 3)) + 13849) % 65536)) (fun Z4 => (zlet (zu Z4 1 0 0 3 (((25173 * (Z4 1 0 0 3)) + 13849) % 65536)) (fun Z7 => (zlet (zu Z7 1 0 0 3 (((25173 * (Z7 1 0 0 3)) + 13849) % 65536)) (fun Z10 => (zlet (zu Z10 1 0 0 3 (((25173 * (Z10 1 0 0 3)) + 13849) % 65536)) (fun Z13 => (zlet (zu Z13 1 0 0 3 (((25173 * (Z13 1 0 0 3)) + 13849) % 65536)) (fun Z17 => (zlet (zu Z17 1 0 0 3 (((25173 * (Z17 1 0 0 3)) + 13849) % 65536)) (fun Z22 => (if (((Z22 1 0 0 3) / 16) % 2) ≠ 1 then (zlet2 (zf_327 Z22 (((Z4 1 0 0 3) / 16) % x3) (((Z7 1 0 0 3) / 16) % x2) (1 + (((Z10 1 0 0 3) / 16) % 40)) (((Z13 1 0 0 3) / 16) % 301) (((Z17 1 0 0 3) / 16) % ((((1 + (((Z10 1 0 0 3) / 16) % 40)) * (10 - (Z13 2 0 0 (141 + 2 * (((Z4 1 0 0 3) / 16) % x3))))) / 10) + 1)) (-1)) (fun Z30 v31 => zl_328_3 x1 x2 x3 m Z30 (x4 + 1))) else (zlet (zu Z22 1 0 0 3 (((25173 * (Z22 1 0 0 3)) + 13849) % 65536)) (fun Z33 => (zlet2 (zf_327 Z33 (((Z4 1 0 0 3) / 16) % x3) (((Z7 1 0 0 3) / 16) % x2) (1 + (((Z10 1 0 0 3) / 16) % 40)) (((Z13 1 0 0 3) / 16) % 301) (((Z17 1 0 0 3) / 16) % ((((1 + (((Z10 1 0 0 3) / 16) % 40)) * (10 - (Z13 2 0 0 (141 + 2 * (((Z4 1 0 0 3) / 16) % x3))))) / 10) + 1)) (((Z33 1 0 0 3) / 16) % 4)) (fun Z40 v41 => zl_328_3 x1 x2 x3 m Z40 (x4 + 1)))))))))))))))))))
theorem sl_328_3 {s : zSM} {Zs Z : qz_Z} {ν : qz_N} (hZ : zM s Z) (hM : s.2 + 0 ≤ 1000000000) (hK : zC [1, 2] Zs Z) {x1 : Int} (gx1 : 1 ≤ x1 ∧ x1 ≤ 12) {x2 : Int} (gx2 : 2 ≤ x2 ∧ x2 ≤ 5) {x3 : Int} (gx3 : 2 ≤ x3 ∧ x3 ≤ 6) {x4 : Int} (gx4 : 0 ≤ x4 ∧ x4 ≤ 12) (hU : zU [] Zs Z) (gr0 : Z 2 0 0 102 = x4) {k : wz_K} {R : wz_R} {L : qz_L} (hL : qz_fg [true, true, true, true, true, false, false, false, false, false] L = [some (.inr (.inr (some (1, 0, 0)))), some (.inl (i3 x1)), some (.inl (i3 x2)), some (.inl (i3 x3)), some (.inl (i3 x4)), none, none, none, none, none]) {T : qz_Z × Int} (hP : zE T (zl_328_3 x1 x2 x3 ((12 - x4).toNat + 1) Z x4)) (hk : ∀ (L9 : qz_L) (Z9 : qz_Z) (yx4 : Int), qz_fg [false, false, false, false, false, false, false, false, false, false] L9 = [none, none, none, none, none, none, none, none, none, none] → zM s Z9 → zC [1, 2] Zs Z9 → zU [] Zs Z9 → (0 ≤ yx4 ∧ yx4 ≤ 12) → (Z9 2 0 0 102 = yx4) → zE T ((Z9, yx4)) → k 0 (L9, [], zm Z9 ν)) : wz_loop qb_328_3 65536 k R (L, [], zm Z ν) := by
  refine wz_lp sb_328_3 (fun m x => ∃ Z : qz_Z, ∃ x4 : Int, qz_fg [true, true, true, true, true, false, false, false, false, false] x.1 = [some (.inr (.inr (some (1, 0, 0)))), some (.inl (i3 x1)), some (.inl (i3 x2)), some (.inl (i3 x3)), some (.inl (i3 x4)), none, none, none, none, none] ∧ x.2 = ([], zm Z ν) ∧ zM s Z ∧ zC [1, 2] Zs Z ∧ zU [] Zs Z ∧ m = (12 - x4).toNat ∧ (0 ≤ x4 ∧ x4 ≤ 12) ∧ (Z 2 0 0 102 = x4) ∧ zE T (zl_328_3 x1 x2 x3 (m + 1) Z x4)) ?_ 65536 ((12 - x4).toNat) _ (by omega) ⟨Z, x4, hL, rfl, hZ, hK, hU, rfl, gx4, gr0, hP⟩
  clear hP gr0 gx4 hZ hK hU hL
  clear x4
  clear Z
  rintro m ⟨L, st, μ⟩ ⟨Z, x4, hL, hx, hZ, hK, hU, hm, gx4, gr0, hP⟩
  cases hx
  refine fb_328_3 (i3 x1) (i3 x2) (i3 x3) (i3 x4) _ _ _ _ hL ?_
  have r1 := zM_k hZ 2 0 0 102 (lo := 0) (hi := 48) (by decide) rfl
  refine wz_br (i3Le (rfl : i3 x1 = i3 x1) (rfl : i3 x4 = i3 x4) (by omega) (by omega) (by omega) (by omega)) (fun h2 => ?_) (fun h2 => ?_)
  · replace hP := zE_p hP h2
    exact hk _ _ _ (zconso rfl (zconso rfl (zconso rfl (zconso rfl (zconso rfl (zconso rfl (zconso rfl (zconso rfl (zconso rfl (zconso rfl rfl)))))))))) hZ hK hU (by omega) (by omega) hP
  · replace hP := zE_n hP h2
    have r3 := zM_k hZ 1 0 0 3 (lo := 0) (hi := 65535) (by decide) rfl
    obtain ⟨Z4, hZ4⟩ := zx (zu Z 1 0 0 3 (((25173 * (Z 1 0 0 3)) + 13849) % 65536))
    replace hP := zl_e hP hZ4
    have hZ4I := zM_u hZ hZ4 (lo := 0) (hi := 65535) (by decide) rfl (by omega) ⟨by decide, by decide⟩ (Or.inr (by decide)) rfl
    have hZ4U : zU [] Zs Z4 := zU_u hU hZ4 (Or.inl rfl)
    have hZ4K : zC [1, 2] Zs Z4 := zC_u hK hZ4 (by decide)
    intro μ9 e9
    replace e9 := e9.trans (zm_wI (Z := Z) (ν := ν) hZ4 (show ((0 : Nat) : Int) = 0 from rfl) (show ((0 : Nat) : Int) = 0 from rfl) (show ((3 : Nat) : Int) = 3 from rfl) (i3R (i3A (i3M (show (25173 : Int32) = i3 25173 from rfl) (zm_rd (Z := Z) (ν := ν) (k := 1) (show ((0 : Nat) : Int) = 0 from rfl) (show ((0 : Nat) : Int) = 0 from rfl) (show ((3 : Nat) : Int) = 3 from rfl))) (show (13849 : Int32) = i3 13849 from rfl)) (show (65536 : Int32) = i3 65536 from rfl) (by omega) (by omega) (by omega) (by omega)))
    subst e9
    refine wz_i0 (i3N0 (rfl : i3 x3 = i3 x3) (by omega) (by omega) (by omega)) ?_
    have r5 := zM_k hZ4I 1 0 0 3 (lo := 0) (hi := 65535) (by decide) rfl
    have q6 := zu_at hZ4
    obtain ⟨Z7, hZ7⟩ := zx (zu Z4 1 0 0 3 (((25173 * (Z4 1 0 0 3)) + 13849) % 65536))
    replace hP := zl_e hP hZ7
    have hZ7I := zM_u hZ4I hZ7 (lo := 0) (hi := 65535) (by decide) rfl (by omega) ⟨by decide, by decide⟩ (Or.inr (by decide)) rfl
    have hZ7U : zU [] Zs Z7 := zU_u hZ4U hZ7 (Or.inl rfl)
    have hZ7K : zC [1, 2] Zs Z7 := zC_u hZ4K hZ7 (by decide)
    intro μ9 e9
    replace e9 := e9.trans (zm_wI (Z := Z4) (ν := ν) hZ7 (show ((0 : Nat) : Int) = 0 from rfl) (show ((0 : Nat) : Int) = 0 from rfl) (show ((3 : Nat) : Int) = 3 from rfl) (i3R (i3A (i3M (show (25173 : Int32) = i3 25173 from rfl) (zm_rd (Z := Z4) (ν := ν) (k := 1) (show ((0 : Nat) : Int) = 0 from rfl) (show ((0 : Nat) : Int) = 0 from rfl) (show ((3 : Nat) : Int) = 3 from rfl))) (show (13849 : Int32) = i3 13849 from rfl)) (show (65536 : Int32) = i3 65536 from rfl) (by omega) (by omega) (by omega) (by omega)))
    subst e9
    refine wz_i0 (i3N0 (rfl : i3 x2 = i3 x2) (by omega) (by omega) (by omega)) ?_
    have r8 := zM_k hZ7I 1 0 0 3 (lo := 0) (hi := 65535) (by decide) rfl
    have q9 := zu_at hZ7
    obtain ⟨Z10, hZ10⟩ := zx (zu Z7 1 0 0 3 (((25173 * (Z7 1 0 0 3)) + 13849) % 65536))
    replace hP := zl_e hP hZ10
    have hZ10I := zM_u hZ7I hZ10 (lo := 0) (hi := 65535) (by decide) rfl (by omega) ⟨by decide, by decide⟩ (Or.inr (by decide)) rfl
    have hZ10U : zU [] Zs Z10 := zU_u hZ7U hZ10 (Or.inl rfl)
    have hZ10K : zC [1, 2] Zs Z10 := zC_u hZ7K hZ10 (by decide)
    intro μ9 e9
    replace e9 := e9.trans (zm_wI (Z := Z7) (ν := ν) hZ10 (show ((0 : Nat) : Int) = 0 from rfl) (show ((0 : Nat) : Int) = 0 from rfl) (show ((3 : Nat) : Int) = 3 from rfl) (i3R (i3A (i3M (show (25173 : Int32) = i3 25173 from rfl) (zm_rd (Z := Z7) (ν := ν) (k := 1) (show ((0 : Nat) : Int) = 0 from rfl) (show ((0 : Nat) : Int) = 0 from rfl) (show ((3 : Nat) : Int) = 3 from rfl))) (show (13849 : Int32) = i3 13849 from rfl)) (show (65536 : Int32) = i3 65536 from rfl) (by omega) (by omega) (by omega) (by omega)))
    subst e9
    have r11 := zM_k hZ10I 1 0 0 3 (lo := 0) (hi := 65535) (by decide) rfl
    have q12 := zu_at hZ10
    obtain ⟨Z13, hZ13⟩ := zx (zu Z10 1 0 0 3 (((25173 * (Z10 1 0 0 3)) + 13849) % 65536))
    replace hP := zl_e hP hZ13
    have hZ13I := zM_u hZ10I hZ13 (lo := 0) (hi := 65535) (by decide) rfl (by omega) ⟨by decide, by decide⟩ (Or.inr (by decide)) rfl
    have hZ13U : zU [] Zs Z13 := zU_u hZ10U hZ13 (Or.inl rfl)
    have hZ13K : zC [1, 2] Zs Z13 := zC_u hZ10K hZ13 (by decide)
    intro μ9 e9
    replace e9 := e9.trans (zm_wI (Z := Z10) (ν := ν) hZ13 (show ((0 : Nat) : Int) = 0 from rfl) (show ((0 : Nat) : Int) = 0 from rfl) (show ((3 : Nat) : Int) = 3 from rfl) (i3R (i3A (i3M (show (25173 : Int32) = i3 25173 from rfl) (zm_rd (Z := Z10) (ν := ν) (k := 1) (show ((0 : Nat) : Int) = 0 from rfl) (show ((0 : Nat) : Int) = 0 from rfl) (show ((3 : Nat) : Int) = 3 from rfl))) (show (13849 : Int32) = i3 13849 from rfl)) (show (65536 : Int32) = i3 65536 from rfl) (by omega) (by omega) (by omega) (by omega)))
    subst e9
    have r14 := z_mod ((Z4 1 0 0 3) / 16) (y := x3) (by omega)
    refine wz_i0 (i3O (n := 4400) (i3A (i3A (show (140 : Int32) = i3 140 from rfl) (i3M (show (2 : Int32) = i3 2 from rfl) (i3R (i3D (zm_rd (Z := Z4) (ν := ν) (k := 1) (show ((0 : Nat) : Int) = 0 from rfl) (show ((0 : Nat) : Int) = 0 from rfl) (show ((3 : Nat) : Int) = 3 from rfl)) (show (16 : Int32) = i3 16 from rfl) (by omega) (by omega) (by omega) (by omega)) (rfl : i3 x3 = i3 x3) (by omega) (by omega) (by omega) (by omega)))) (show (1 : Int32) = i3 1 from rfl)) (by omega) (by omega) (by omega)) ?_
    have r15 := zM_k hZ13I 1 0 0 3 (lo := 0) (hi := 65535) (by decide) rfl
    have q16 := zu_at hZ13
    obtain ⟨Z17, hZ17⟩ := zx (zu Z13 1 0 0 3 (((25173 * (Z13 1 0 0 3)) + 13849) % 65536))
    replace hP := zl_e hP hZ17
    have hZ17I := zM_u hZ13I hZ17 (lo := 0) (hi := 65535) (by decide) rfl (by omega) ⟨by decide, by decide⟩ (Or.inr (by decide)) rfl
    have hZ17U : zU [] Zs Z17 := zU_u hZ13U hZ17 (Or.inl rfl)
    have hZ17K : zC [1, 2] Zs Z17 := zC_u hZ13K hZ17 (by decide)
    intro μ9 e9
    replace e9 := e9.trans (zm_wI (Z := Z13) (ν := ν) hZ17 (show ((0 : Nat) : Int) = 0 from rfl) (show ((0 : Nat) : Int) = 0 from rfl) (show ((3 : Nat) : Int) = 3 from rfl) (i3R (i3A (i3M (show (25173 : Int32) = i3 25173 from rfl) (zm_rd (Z := Z13) (ν := ν) (k := 1) (show ((0 : Nat) : Int) = 0 from rfl) (show ((0 : Nat) : Int) = 0 from rfl) (show ((3 : Nat) : Int) = 3 from rfl))) (show (13849 : Int32) = i3 13849 from rfl)) (show (65536 : Int32) = i3 65536 from rfl) (by omega) (by omega) (by omega) (by omega)))
    subst e9
    have r18 := zM_k hZ13I 2 0 0 (141 + 2 * (((Z4 1 0 0 3) / 16) % x3)) (lo := 0) (hi := 9) (by decide) (zs_140_1 (x := (((Z4 1 0 0 3) / 16) % x3)) (by omega) (by omega) (by omega))
    have r19 := z_mul (x := (1 + (((Z10 1 0 0 3) / 16) % 40))) (y := (10 - (Z13 2 0 0 (141 + 2 * (((Z4 1 0 0 3) / 16) % x3))))) (a := 40) (b := 10) (by omega) (by omega) (by omega) (by omega)
    refine wz_i0 (i3N0 (i3A (i3D (i3M (i3A (show (1 : Int32) = i3 1 from rfl) (i3R (i3D (zm_rd (Z := Z10) (ν := ν) (k := 1) (show ((0 : Nat) : Int) = 0 from rfl) (show ((0 : Nat) : Int) = 0 from rfl) (show ((3 : Nat) : Int) = 3 from rfl)) (show (16 : Int32) = i3 16 from rfl) (by omega) (by omega) (by omega) (by omega)) (show (40 : Int32) = i3 40 from rfl) (by omega) (by omega) (by omega) (by omega))) (i3S (show (10 : Int32) = i3 10 from rfl) (zm_rd (Z := Z13) (ν := ν) (k := 2) (show ((0 : Nat) : Int) = 0 from rfl) (show ((0 : Nat) : Int) = 0 from rfl) (i3I (y := (141 + 2 * (((Z4 1 0 0 3) / 16) % x3))) (i3A (i3A (show (140 : Int32) = i3 140 from rfl) (i3M (show (2 : Int32) = i3 2 from rfl) (i3R (i3D (zm_rd (Z := Z4) (ν := ν) (k := 1) (show ((0 : Nat) : Int) = 0 from rfl) (show ((0 : Nat) : Int) = 0 from rfl) (show ((3 : Nat) : Int) = 3 from rfl)) (show (16 : Int32) = i3 16 from rfl) (by omega) (by omega) (by omega) (by omega)) (rfl : i3 x3 = i3 x3) (by omega) (by omega) (by omega) (by omega)))) (show (1 : Int32) = i3 1 from rfl)) (by omega) (by omega) (by omega))))) (show (10 : Int32) = i3 10 from rfl) (by omega) (by omega) (by omega) (by omega)) (show (1 : Int32) = i3 1 from rfl)) (by omega) (by omega) (by omega)) ?_
    have r20 := zM_k hZ17I 1 0 0 3 (lo := 0) (hi := 65535) (by decide) rfl
    have q21 := zu_at hZ17
    obtain ⟨Z22, hZ22⟩ := zx (zu Z17 1 0 0 3 (((25173 * (Z17 1 0 0 3)) + 13849) % 65536))
    replace hP := zl_e hP hZ22
    have hZ22I := zM_u hZ17I hZ22 (lo := 0) (hi := 65535) (by decide) rfl (by omega) ⟨by decide, by decide⟩ (Or.inr (by decide)) rfl
    have hZ22U : zU [] Zs Z22 := zU_u hZ17U hZ22 (Or.inl rfl)
    have hZ22K : zC [1, 2] Zs Z22 := zC_u hZ17K hZ22 (by decide)
    intro μ9 e9
    replace e9 := e9.trans (zm_wI (Z := Z17) (ν := ν) hZ22 (show ((0 : Nat) : Int) = 0 from rfl) (show ((0 : Nat) : Int) = 0 from rfl) (show ((3 : Nat) : Int) = 3 from rfl) (i3R (i3A (i3M (show (25173 : Int32) = i3 25173 from rfl) (zm_rd (Z := Z17) (ν := ν) (k := 1) (show ((0 : Nat) : Int) = 0 from rfl) (show ((0 : Nat) : Int) = 0 from rfl) (show ((3 : Nat) : Int) = 3 from rfl))) (show (13849 : Int32) = i3 13849 from rfl)) (show (65536 : Int32) = i3 65536 from rfl) (by omega) (by omega) (by omega) (by omega)))
    subst e9
    have r23 := zM_k hZ22I 1 0 0 3 (lo := 0) (hi := 65535) (by decide) rfl
    have q24 := zu_at hZ22
    refine wz_br (i3NE (i3R (i3D (zm_rd (Z := Z22) (ν := ν) (k := 1) (show ((0 : Nat) : Int) = 0 from rfl) (show ((0 : Nat) : Int) = 0 from rfl) (show ((3 : Nat) : Int) = 3 from rfl)) (show (16 : Int32) = i3 16 from rfl) (by omega) (by omega) (by omega) (by omega)) (show (2 : Int32) = i3 2 from rfl) (by omega) (by omega) (by omega) (by omega)) (show (1 : Int32) = i3 1 from rfl) (by omega) (by omega) (by omega) (by omega)) (fun h25 => ?_) (fun h25 => ?_)
    · replace hP := zE_p hP h25
      have r26 := z_mod ((Z7 1 0 0 3) / 16) (y := x2) (by omega)
      have r27 := z_mod ((Z17 1 0 0 3) / 16) (y := ((((1 + (((Z10 1 0 0 3) / 16) % 40)) * (10 - (Z13 2 0 0 (141 + 2 * (((Z4 1 0 0 3) / 16) % x3))))) / 10) + 1)) (by omega)
      have r28 := zM_k hZ22I 2 0 0 102 (lo := 0) (hi := 48) (by decide) rfl
      have q29 := (zu_ne (k' := 2) (b' := 0) (i' := 0) (j' := 102) hZ22 (fun q => absurd q.1 (by decide))).trans ((zu_ne (k' := 2) (b' := 0) (i' := 0) (j' := 102) hZ17 (fun q => absurd q.1 (by decide))).trans ((zu_ne (k' := 2) (b' := 0) (i' := 0) (j' := 102) hZ13 (fun q => absurd q.1 (by decide))).trans ((zu_ne (k' := 2) (b' := 0) (i' := 0) (j' := 102) hZ10 (fun q => absurd q.1 (by decide))).trans ((zu_ne (k' := 2) (b' := 0) (i' := 0) (j' := 102) hZ7 (fun q => absurd q.1 (by decide))).trans (zu_ne (k' := 2) (b' := 0) (i' := 0) (j' := 102) hZ4 (fun q => absurd q.1 (by decide)))))))
      obtain ⟨Z30, v31, hv31, c9, hZ30I, kZ30, jZ30, lv31, uv31, wv310⟩ := sp_327 (ν := ν) hZ22I (a1 := (((Z4 1 0 0 3) / 16) % x3)) (by omega) (a2 := (((Z7 1 0 0 3) / 16) % x2)) (by omega) (a3 := (1 + (((Z10 1 0 0 3) / 16) % 40))) (by omega) (a4 := (((Z13 1 0 0 3) / 16) % 301)) (by omega) (a5 := (((Z17 1 0 0 3) / 16) % ((((1 + (((Z10 1 0 0 3) / 16) % 40)) * (10 - (Z13 2 0 0 (141 + 2 * (((Z4 1 0 0 3) / 16) % x3))))) / 10) + 1))) (by omega) (a6 := (-1)) (by omega) (by omega) (zbh (c := 0) (k := 0) hM (Nat.le_of_ble_eq_true rfl))
      have hZ30U : zU [] Zs Z30 := zU_t hZ22U jZ30 zU_b0
      have hZ30K : zC [1, 2] Zs Z30 := zC_t hZ22K kZ30 (by decide)
      replace hP := zl_e2 hP hv31
      refine wz_cI_of (zas (zcons rfl (zcons (zvi (i3R (i3D (zm_rd (Z := Z4) (ν := ν) (k := 1) (show ((0 : Nat) : Int) = 0 from rfl) (show ((0 : Nat) : Int) = 0 from rfl) (show ((3 : Nat) : Int) = 3 from rfl)) (show (16 : Int32) = i3 16 from rfl) (by omega) (by omega) (by omega) (by omega)) (rfl : i3 x3 = i3 x3) (by omega) (by omega) (by omega) (by omega))) (zcons (zvi (i3R (i3D (zm_rd (Z := Z7) (ν := ν) (k := 1) (show ((0 : Nat) : Int) = 0 from rfl) (show ((0 : Nat) : Int) = 0 from rfl) (show ((3 : Nat) : Int) = 3 from rfl)) (show (16 : Int32) = i3 16 from rfl) (by omega) (by omega) (by omega) (by omega)) (rfl : i3 x2 = i3 x2) (by omega) (by omega) (by omega) (by omega))) (zcons (zvi (i3A (show (1 : Int32) = i3 1 from rfl) (i3R (i3D (zm_rd (Z := Z10) (ν := ν) (k := 1) (show ((0 : Nat) : Int) = 0 from rfl) (show ((0 : Nat) : Int) = 0 from rfl) (show ((3 : Nat) : Int) = 3 from rfl)) (show (16 : Int32) = i3 16 from rfl) (by omega) (by omega) (by omega) (by omega)) (show (40 : Int32) = i3 40 from rfl) (by omega) (by omega) (by omega) (by omega)))) (zcons (zvi (i3R (i3D (zm_rd (Z := Z13) (ν := ν) (k := 1) (show ((0 : Nat) : Int) = 0 from rfl) (show ((0 : Nat) : Int) = 0 from rfl) (show ((3 : Nat) : Int) = 3 from rfl)) (show (16 : Int32) = i3 16 from rfl) (by omega) (by omega) (by omega) (by omega)) (show (301 : Int32) = i3 301 from rfl) (by omega) (by omega) (by omega) (by omega))) (zcons (zvi (i3R (i3D (zm_rd (Z := Z17) (ν := ν) (k := 1) (show ((0 : Nat) : Int) = 0 from rfl) (show ((0 : Nat) : Int) = 0 from rfl) (show ((3 : Nat) : Int) = 3 from rfl)) (show (16 : Int32) = i3 16 from rfl) (by omega) (by omega) (by omega) (by omega)) (i3A (i3D (i3M (i3A (show (1 : Int32) = i3 1 from rfl) (i3R (i3D (zm_rd (Z := Z10) (ν := ν) (k := 1) (show ((0 : Nat) : Int) = 0 from rfl) (show ((0 : Nat) : Int) = 0 from rfl) (show ((3 : Nat) : Int) = 3 from rfl)) (show (16 : Int32) = i3 16 from rfl) (by omega) (by omega) (by omega) (by omega)) (show (40 : Int32) = i3 40 from rfl) (by omega) (by omega) (by omega) (by omega))) (i3S (show (10 : Int32) = i3 10 from rfl) (zm_rd (Z := Z13) (ν := ν) (k := 2) (show ((0 : Nat) : Int) = 0 from rfl) (show ((0 : Nat) : Int) = 0 from rfl) (i3I (y := (141 + 2 * (((Z4 1 0 0 3) / 16) % x3))) (i3A (i3A (show (140 : Int32) = i3 140 from rfl) (i3M (show (2 : Int32) = i3 2 from rfl) (i3R (i3D (zm_rd (Z := Z4) (ν := ν) (k := 1) (show ((0 : Nat) : Int) = 0 from rfl) (show ((0 : Nat) : Int) = 0 from rfl) (show ((3 : Nat) : Int) = 3 from rfl)) (show (16 : Int32) = i3 16 from rfl) (by omega) (by omega) (by omega) (by omega)) (rfl : i3 x3 = i3 x3) (by omega) (by omega) (by omega) (by omega)))) (show (1 : Int32) = i3 1 from rfl)) (by omega) (by omega) (by omega))))) (show (10 : Int32) = i3 10 from rfl) (by omega) (by omega) (by omega) (by omega)) (show (1 : Int32) = i3 1 from rfl)) (by omega) (by omega) (by omega) (by omega))) (zcons (zvi (show (-1 : Int32) = i3 (-1) from rfl)) rfl))))))) c9) ?_
      clear c9 hv31
      have r32 := zM_k hZ30I 2 0 0 102 (lo := 0) (hi := 48) (by decide) rfl
      obtain ⟨m2, rfl⟩ : ∃ m2, m = m2 + 1 := ⟨m - 1, by omega⟩
      exact wz_k1 ⟨m2, by omega, Z30, (x4 + 1), (zconso rfl (zconso (zvo (rfl : i3 x1 = i3 x1)) (zconso (zvo (rfl : i3 x2 = i3 x2)) (zconso (zvo (rfl : i3 x3 = i3 x3)) (zconso (zvo (i3A (rfl : i3 x4 = i3 x4) (show (1 : Int32) = i3 1 from rfl))) (zconso rfl (zconso rfl (zconso rfl (zconso rfl (zconso rfl rfl)))))))))), rfl, hZ30I, hZ30K, hZ30U, by omega, by omega, by omega,  hP⟩
    · replace hP := zE_n hP h25
      obtain ⟨Z33, hZ33⟩ := zx (zu Z22 1 0 0 3 (((25173 * (Z22 1 0 0 3)) + 13849) % 65536))
      replace hP := zl_e hP hZ33
      have hZ33I := zM_u hZ22I hZ33 (lo := 0) (hi := 65535) (by decide) rfl (by omega) ⟨by decide, by decide⟩ (Or.inr (by decide)) rfl
      have hZ33U : zU [] Zs Z33 := zU_u hZ22U hZ33 (Or.inl rfl)
      have hZ33K : zC [1, 2] Zs Z33 := zC_u hZ22K hZ33 (by decide)
      intro μ9 e9
      replace e9 := e9.trans (zm_wI (Z := Z22) (ν := ν) hZ33 (show ((0 : Nat) : Int) = 0 from rfl) (show ((0 : Nat) : Int) = 0 from rfl) (show ((3 : Nat) : Int) = 3 from rfl) (i3R (i3A (i3M (show (25173 : Int32) = i3 25173 from rfl) (zm_rd (Z := Z22) (ν := ν) (k := 1) (show ((0 : Nat) : Int) = 0 from rfl) (show ((0 : Nat) : Int) = 0 from rfl) (show ((3 : Nat) : Int) = 3 from rfl))) (show (13849 : Int32) = i3 13849 from rfl)) (show (65536 : Int32) = i3 65536 from rfl) (by omega) (by omega) (by omega) (by omega)))
      subst e9
      have r34 := z_mod ((Z7 1 0 0 3) / 16) (y := x2) (by omega)
      have r35 := z_mod ((Z17 1 0 0 3) / 16) (y := ((((1 + (((Z10 1 0 0 3) / 16) % 40)) * (10 - (Z13 2 0 0 (141 + 2 * (((Z4 1 0 0 3) / 16) % x3))))) / 10) + 1)) (by omega)
      have r36 := zM_k hZ33I 1 0 0 3 (lo := 0) (hi := 65535) (by decide) rfl
      have q37 := zu_at hZ33
      have r38 := zM_k hZ33I 2 0 0 102 (lo := 0) (hi := 48) (by decide) rfl
      have q39 := (zu_ne (k' := 2) (b' := 0) (i' := 0) (j' := 102) hZ33 (fun q => absurd q.1 (by decide))).trans ((zu_ne (k' := 2) (b' := 0) (i' := 0) (j' := 102) hZ22 (fun q => absurd q.1 (by decide))).trans ((zu_ne (k' := 2) (b' := 0) (i' := 0) (j' := 102) hZ17 (fun q => absurd q.1 (by decide))).trans ((zu_ne (k' := 2) (b' := 0) (i' := 0) (j' := 102) hZ13 (fun q => absurd q.1 (by decide))).trans ((zu_ne (k' := 2) (b' := 0) (i' := 0) (j' := 102) hZ10 (fun q => absurd q.1 (by decide))).trans ((zu_ne (k' := 2) (b' := 0) (i' := 0) (j' := 102) hZ7 (fun q => absurd q.1 (by decide))).trans (zu_ne (k' := 2) (b' := 0) (i' := 0) (j' := 102) hZ4 (fun q => absurd q.1 (by decide))))))))
      obtain ⟨Z40, v41, hv41, c9, hZ40I, kZ40, jZ40, lv41, uv41, wv410⟩ := sp_327 (ν := ν) hZ33I (a1 := (((Z4 1 0 0 3) / 16) % x3)) (by omega) (a2 := (((Z7 1 0 0 3) / 16) % x2)) (by omega) (a3 := (1 + (((Z10 1 0 0 3) / 16) % 40))) (by omega) (a4 := (((Z13 1 0 0 3) / 16) % 301)) (by omega) (a5 := (((Z17 1 0 0 3) / 16) % ((((1 + (((Z10 1 0 0 3) / 16) % 40)) * (10 - (Z13 2 0 0 (141 + 2 * (((Z4 1 0 0 3) / 16) % x3))))) / 10) + 1))) (by omega) (a6 := (((Z33 1 0 0 3) / 16) % 4)) (by omega) (by omega) (zbh (c := 0) (k := 0) hM (Nat.le_of_ble_eq_true rfl))
      have hZ40U : zU [] Zs Z40 := zU_t hZ33U jZ40 zU_b0
      have hZ40K : zC [1, 2] Zs Z40 := zC_t hZ33K kZ40 (by decide)
      replace hP := zl_e2 hP hv41
      refine wz_cI_of (zas (zcons rfl (zcons (zvi (i3R (i3D (zm_rd (Z := Z4) (ν := ν) (k := 1) (show ((0 : Nat) : Int) = 0 from rfl) (show ((0 : Nat) : Int) = 0 from rfl) (show ((3 : Nat) : Int) = 3 from rfl)) (show (16 : Int32) = i3 16 from rfl) (by omega) (by omega) (by omega) (by omega)) (rfl : i3 x3 = i3 x3) (by omega) (by omega) (by omega) (by omega))) (zcons (zvi (i3R (i3D (zm_rd (Z := Z7) (ν := ν) (k := 1) (show ((0 : Nat) : Int) = 0 from rfl) (show ((0 : Nat) : Int) = 0 from rfl) (show ((3 : Nat) : Int) = 3 from rfl)) (show (16 : Int32) = i3 16 from rfl) (by omega) (by omega) (by omega) (by omega)) (rfl : i3 x2 = i3 x2) (by omega) (by omega) (by omega) (by omega))) (zcons (zvi (i3A (show (1 : Int32) = i3 1 from rfl) (i3R (i3D (zm_rd (Z := Z10) (ν := ν) (k := 1) (show ((0 : Nat) : Int) = 0 from rfl) (show ((0 : Nat) : Int) = 0 from rfl) (show ((3 : Nat) : Int) = 3 from rfl)) (show (16 : Int32) = i3 16 from rfl) (by omega) (by omega) (by omega) (by omega)) (show (40 : Int32) = i3 40 from rfl) (by omega) (by omega) (by omega) (by omega)))) (zcons (zvi (i3R (i3D (zm_rd (Z := Z13) (ν := ν) (k := 1) (show ((0 : Nat) : Int) = 0 from rfl) (show ((0 : Nat) : Int) = 0 from rfl) (show ((3 : Nat) : Int) = 3 from rfl)) (show (16 : Int32) = i3 16 from rfl) (by omega) (by omega) (by omega) (by omega)) (show (301 : Int32) = i3 301 from rfl) (by omega) (by omega) (by omega) (by omega))) (zcons (zvi (i3R (i3D (zm_rd (Z := Z17) (ν := ν) (k := 1) (show ((0 : Nat) : Int) = 0 from rfl) (show ((0 : Nat) : Int) = 0 from rfl) (show ((3 : Nat) : Int) = 3 from rfl)) (show (16 : Int32) = i3 16 from rfl) (by omega) (by omega) (by omega) (by omega)) (i3A (i3D (i3M (i3A (show (1 : Int32) = i3 1 from rfl) (i3R (i3D (zm_rd (Z := Z10) (ν := ν) (k := 1) (show ((0 : Nat) : Int) = 0 from rfl) (show ((0 : Nat) : Int) = 0 from rfl) (show ((3 : Nat) : Int) = 3 from rfl)) (show (16 : Int32) = i3 16 from rfl) (by omega) (by omega) (by omega) (by omega)) (show (40 : Int32) = i3 40 from rfl) (by omega) (by omega) (by omega) (by omega))) (i3S (show (10 : Int32) = i3 10 from rfl) (zm_rd (Z := Z13) (ν := ν) (k := 2) (show ((0 : Nat) : Int) = 0 from rfl) (show ((0 : Nat) : Int) = 0 from rfl) (i3I (y := (141 + 2 * (((Z4 1 0 0 3) / 16) % x3))) (i3A (i3A (show (140 : Int32) = i3 140 from rfl) (i3M (show (2 : Int32) = i3 2 from rfl) (i3R (i3D (zm_rd (Z := Z4) (ν := ν) (k := 1) (show ((0 : Nat) : Int) = 0 from rfl) (show ((0 : Nat) : Int) = 0 from rfl) (show ((3 : Nat) : Int) = 3 from rfl)) (show (16 : Int32) = i3 16 from rfl) (by omega) (by omega) (by omega) (by omega)) (rfl : i3 x3 = i3 x3) (by omega) (by omega) (by omega) (by omega)))) (show (1 : Int32) = i3 1 from rfl)) (by omega) (by omega) (by omega))))) (show (10 : Int32) = i3 10 from rfl) (by omega) (by omega) (by omega) (by omega)) (show (1 : Int32) = i3 1 from rfl)) (by omega) (by omega) (by omega) (by omega))) (zcons (zvi (i3R (i3D (zm_rd (Z := Z33) (ν := ν) (k := 1) (show ((0 : Nat) : Int) = 0 from rfl) (show ((0 : Nat) : Int) = 0 from rfl) (show ((3 : Nat) : Int) = 3 from rfl)) (show (16 : Int32) = i3 16 from rfl) (by omega) (by omega) (by omega) (by omega)) (show (4 : Int32) = i3 4 from rfl) (by omega) (by omega) (by omega) (by omega))) rfl))))))) c9) ?_
      clear c9 hv41
      have r42 := zM_k hZ40I 2 0 0 102 (lo := 0) (hi := 48) (by decide) rfl
      obtain ⟨m2, rfl⟩ : ∃ m2, m = m2 + 1 := ⟨m - 1, by omega⟩
      exact wz_k1 ⟨m2, by omega, Z40, (x4 + 1), (zconso rfl (zconso (zvo (rfl : i3 x1 = i3 x1)) (zconso (zvo (rfl : i3 x2 = i3 x2)) (zconso (zvo (rfl : i3 x3 = i3 x3)) (zconso (zvo (i3A (rfl : i3 x4 = i3 x4) (show (1 : Int32) = i3 1 from rfl))) (zconso rfl (zconso rfl (zconso rfl (zconso rfl (zconso rfl rfl)))))))))), rfl, hZ40I, hZ40K, hZ40U, by omega, by omega, by omega,  hP⟩
/- yX12_dSeason -/
def zf_328 (Z : qz_Z) (a1 : Int) : qz_Z := (zlet (zu Z 1 0 0 3 (((25173 * (Z 1 0 0 3)) + 13849) % 65536)) (fun Z5 => (zlet2 (zl_328_1 a1 (2 + (((Z5 1 0 0 3) / 16) % 4)) 6 Z5 0) (fun Z9 y8 => (zlet (zu Z9 1 0 0 3 (((25173 * (Z9 1 0 0 3)) + 13849) % 65536)) (fun Z21 => (zlet2 (zl_328_2 a1 (2 + (((Z5 1 0 0 3) / 16) % 4)) (2 + (((Z21 1 0 0 3) / 16) % 5)) 7 Z21 0) (fun Z25 y24 => (zlet2 (zl_328_3 a1 (2 + (((Z5 1 0 0 3) / 16) % 4)) (2 + (((Z21 1 0 0 3) / 16) % 5)) 13 Z25 0) (fun Z34 y33 => Z34))))))))))
theorem sp_328 {s : zSM} {Z : qz_Z} {ν : qz_N} (hZ : zM s Z) {a1 : Int} (ga1 : 1 ≤ a1 ∧ a1 ≤ 12) (gx0 : Z 2 0 0 100 = 0) (gx1 : Z 2 0 0 101 = 0) (gx2 : Z 2 0 0 102 = 0) (hM : s.2 + 0 ≤ 1000000000) : ∃ P : qz_Z, P = zf_328 Z a1 ∧ (qf_328 [.inr (.inr (some (1, 0, 0))), .inl (i3 a1)] (zm Z ν) = some (zm P ν, .inl none) ∧ zM s P ∧ zC [1, 2] Z P ∧ zU [] Z P) := by
  obtain ⟨P, hP⟩ := zx (zf_328 Z a1)
  refine zc_V (Q := fun P => zM s P ∧ zC [1, 2] Z P ∧ zU [] Z P) hP (fw_328 (i3 a1) _ _ ?_)
  replace hP : zE P (zf_328 Z a1) := hP
  unfold zf_328 at hP
  have r1 := zM_k hZ 2 0 0 100 (lo := 0) (hi := 5) (by decide) rfl
  have r2 := zM_k hZ 2 0 0 101 (lo := 0) (hi := 6) (by decide) rfl
  have r3 := zM_k hZ 2 0 0 102 (lo := 0) (hi := 48) (by decide) rfl
  have r4 := zM_k hZ 1 0 0 3 (lo := 0) (hi := 65535) (by decide) rfl
  obtain ⟨Z5, hZ5⟩ := zx (zu Z 1 0 0 3 (((25173 * (Z 1 0 0 3)) + 13849) % 65536))
  replace hP := zl_e hP hZ5
  have hZ5I := zM_u hZ hZ5 (lo := 0) (hi := 65535) (by decide) rfl (by omega) ⟨by decide, by decide⟩ (Or.inr (by decide)) rfl
  have hZ5U : zU [] Z Z5 := zU_u zU_r hZ5 (Or.inl rfl)
  have hZ5K : zC [1, 2] Z Z5 := zC_u zC_r hZ5 (by decide)
  intro μ9 e9
  replace e9 := e9.trans (zm_wI (Z := Z) (ν := ν) hZ5 (show ((0 : Nat) : Int) = 0 from rfl) (show ((0 : Nat) : Int) = 0 from rfl) (show ((3 : Nat) : Int) = 3 from rfl) (i3R (i3A (i3M (show (25173 : Int32) = i3 25173 from rfl) (zm_rd (Z := Z) (ν := ν) (k := 1) (show ((0 : Nat) : Int) = 0 from rfl) (show ((0 : Nat) : Int) = 0 from rfl) (show ((3 : Nat) : Int) = 3 from rfl))) (show (13849 : Int32) = i3 13849 from rfl)) (show (65536 : Int32) = i3 65536 from rfl) (by omega) (by omega) (by omega) (by omega)))
  subst e9
  have r6 := zM_k hZ5I 1 0 0 3 (lo := 0) (hi := 65535) (by decide) rfl
  have q7 := zu_at hZ5
  have r10 := zM_k hZ5I 2 0 0 100 (lo := 0) (hi := 5) (by decide) rfl
  have q11 := zu_ne (k' := 2) (b' := 0) (i' := 0) (j' := 100) hZ5 (fun q => absurd q.1 (by decide))
  have r12 := zM_k hZ5I 2 0 0 101 (lo := 0) (hi := 6) (by decide) rfl
  have q13 := zu_ne (k' := 2) (b' := 0) (i' := 0) (j' := 101) hZ5 (fun q => absurd q.1 (by decide))
  have r14 := zM_k hZ5I 2 0 0 102 (lo := 0) (hi := 48) (by decide) rfl
  have q15 := zu_ne (k' := 2) (b' := 0) (i' := 0) (j' := 102) hZ5 (fun q => absurd q.1 (by decide))
  refine sl_328_1 (ν := ν) hZ5I (zbh (c := 0) (k := 0) hM (Nat.le_of_ble_eq_true rfl)) zC_r (x1 := a1) (by omega) (x2 := (2 + (((Z5 1 0 0 3) / 16) % 4))) (by omega) (x3 := 0) (by omega) zU_r (by omega) (by omega) (by omega) (zconso rfl (zconso (zvo (rfl : i3 a1 = i3 a1)) (zconso (zvo (i3A (show (2 : Int32) = i3 2 from rfl) (i3R (i3D (zm_rd (Z := Z5) (ν := ν) (k := 1) (show ((0 : Nat) : Int) = 0 from rfl) (show ((0 : Nat) : Int) = 0 from rfl) (show ((3 : Nat) : Int) = 3 from rfl)) (show (16 : Int32) = i3 16 from rfl) (by omega) (by omega) (by omega) (by omega)) (show (4 : Int32) = i3 4 from rfl) (by omega) (by omega) (by omega) (by omega)))) (zconso (zvo (show (0 : Int32) = i3 0 from rfl)) (zconso rfl (zconso rfl (zconso rfl (zconso rfl (zconso rfl (zconso rfl rfl)))))))))) rfl ?_
  intro L16 Z9 y8 hL16 hZ9I kZ9 jZ9 gy8 gL16_0 gL16_1 gL16_2 q9
  replace hP := zl_e2 hP (Eq.symm q9)
  clear q9
  have hZ9U : zU [] Z Z9 := zU_t hZ5U jZ9 zU_b0
  have hZ9K : zC [1, 2] Z Z9 := zC_t hZ5K kZ9 (by decide)
  have r17 := zM_k hZ9I 2 0 0 100 (lo := 0) (hi := 5) (by decide) rfl
  have r18 := zM_k hZ9I 2 0 0 101 (lo := 0) (hi := 6) (by decide) rfl
  have r19 := zM_k hZ9I 2 0 0 102 (lo := 0) (hi := 48) (by decide) rfl
  refine fc_328_6 (i3 a1) (i3 (2 + (((Z5 1 0 0 3) / 16) % 4))) _ _ _ _ hL16 ?_
  have r20 := zM_k hZ9I 1 0 0 3 (lo := 0) (hi := 65535) (by decide) rfl
  obtain ⟨Z21, hZ21⟩ := zx (zu Z9 1 0 0 3 (((25173 * (Z9 1 0 0 3)) + 13849) % 65536))
  replace hP := zl_e hP hZ21
  have hZ21I := zM_u hZ9I hZ21 (lo := 0) (hi := 65535) (by decide) rfl (by omega) ⟨by decide, by decide⟩ (Or.inr (by decide)) rfl
  have hZ21U : zU [] Z Z21 := zU_u hZ9U hZ21 (Or.inl rfl)
  have hZ21K : zC [1, 2] Z Z21 := zC_u hZ9K hZ21 (by decide)
  intro μ9 e9
  replace e9 := e9.trans (zm_wI (Z := Z9) (ν := ν) hZ21 (show ((0 : Nat) : Int) = 0 from rfl) (show ((0 : Nat) : Int) = 0 from rfl) (show ((3 : Nat) : Int) = 3 from rfl) (i3R (i3A (i3M (show (25173 : Int32) = i3 25173 from rfl) (zm_rd (Z := Z9) (ν := ν) (k := 1) (show ((0 : Nat) : Int) = 0 from rfl) (show ((0 : Nat) : Int) = 0 from rfl) (show ((3 : Nat) : Int) = 3 from rfl))) (show (13849 : Int32) = i3 13849 from rfl)) (show (65536 : Int32) = i3 65536 from rfl) (by omega) (by omega) (by omega) (by omega)))
  subst e9
  have r22 := zM_k hZ21I 1 0 0 3 (lo := 0) (hi := 65535) (by decide) rfl
  have q23 := zu_at hZ21
  have r26 := zM_k hZ21I 2 0 0 101 (lo := 0) (hi := 6) (by decide) rfl
  have q27 := zu_ne (k' := 2) (b' := 0) (i' := 0) (j' := 101) hZ21 (fun q => absurd q.1 (by decide))
  have r28 := zM_k hZ21I 2 0 0 102 (lo := 0) (hi := 48) (by decide) rfl
  have q29 := zu_ne (k' := 2) (b' := 0) (i' := 0) (j' := 102) hZ21 (fun q => absurd q.1 (by decide))
  refine sl_328_2 (ν := ν) hZ21I (zbh (c := 0) (k := 0) hM (Nat.le_of_ble_eq_true rfl)) zC_r (x1 := a1) (by omega) (x2 := (2 + (((Z5 1 0 0 3) / 16) % 4))) (by omega) (x3 := (2 + (((Z21 1 0 0 3) / 16) % 5))) (by omega) (x4 := 0) (by omega) zU_r (by omega) (by omega) (zconso rfl (zconso (zvo (rfl : i3 a1 = i3 a1)) (zconso (zvo (rfl : i3 (2 + (((Z5 1 0 0 3) / 16) % 4)) = i3 (2 + (((Z5 1 0 0 3) / 16) % 4)))) (zconso (zvo (i3A (show (2 : Int32) = i3 2 from rfl) (i3R (i3D (zm_rd (Z := Z21) (ν := ν) (k := 1) (show ((0 : Nat) : Int) = 0 from rfl) (show ((0 : Nat) : Int) = 0 from rfl) (show ((3 : Nat) : Int) = 3 from rfl)) (show (16 : Int32) = i3 16 from rfl) (by omega) (by omega) (by omega) (by omega)) (show (5 : Int32) = i3 5 from rfl) (by omega) (by omega) (by omega) (by omega)))) (zconso (zvo (show (0 : Int32) = i3 0 from rfl)) (zconso rfl (zconso rfl (zconso rfl (zconso rfl (zconso rfl rfl)))))))))) rfl ?_
  intro L30 Z25 y24 hL30 hZ25I kZ25 jZ25 gy24 gL30_0 gL30_1 q9
  replace hP := zl_e2 hP (Eq.symm q9)
  clear q9
  have hZ25U : zU [] Z Z25 := zU_t hZ21U jZ25 zU_b0
  have hZ25K : zC [1, 2] Z Z25 := zC_t hZ21K kZ25 (by decide)
  have r31 := zM_k hZ25I 2 0 0 101 (lo := 0) (hi := 6) (by decide) rfl
  have r32 := zM_k hZ25I 2 0 0 102 (lo := 0) (hi := 48) (by decide) rfl
  refine fc_328_5 (i3 a1) (i3 (2 + (((Z5 1 0 0 3) / 16) % 4))) (i3 (2 + (((Z21 1 0 0 3) / 16) % 5))) _ _ _ _ hL30 ?_
  refine sl_328_3 (ν := ν) hZ25I (zbh (c := 0) (k := 0) hM (Nat.le_of_ble_eq_true rfl)) zC_r (x1 := a1) (by omega) (x2 := (2 + (((Z5 1 0 0 3) / 16) % 4))) (by omega) (x3 := (2 + (((Z21 1 0 0 3) / 16) % 5))) (by omega) (x4 := 0) (by omega) zU_r (by omega) (zconso rfl (zconso (zvo (rfl : i3 a1 = i3 a1)) (zconso (zvo (rfl : i3 (2 + (((Z5 1 0 0 3) / 16) % 4)) = i3 (2 + (((Z5 1 0 0 3) / 16) % 4)))) (zconso (zvo (rfl : i3 (2 + (((Z21 1 0 0 3) / 16) % 5)) = i3 (2 + (((Z21 1 0 0 3) / 16) % 5)))) (zconso (zvo (show (0 : Int32) = i3 0 from rfl)) (zconso rfl (zconso rfl (zconso rfl (zconso rfl (zconso rfl rfl)))))))))) rfl ?_
  intro L35 Z34 y33 hL35 hZ34I kZ34 jZ34 gy33 gL35_0 q9
  replace hP := zl_e2 hP (Eq.symm q9)
  clear q9
  have hZ34U : zU [] Z Z34 := zU_t hZ25U jZ34 zU_b0
  have hZ34K : zC [1, 2] Z Z34 := zC_t hZ25K kZ34 (by decide)
  have r36 := zM_k hZ34I 2 0 0 102 (lo := 0) (hi := 48) (by decide) rfl
  refine fc_328_4  _ _ _ _ hL35 ?_
  exact zlV hP ⟨hZ34I, hZ34K, hZ34U⟩
/- yX12_rSeason -/
def zl_486_1 (x1 : Int) : Nat → qz_Z → Int → qz_Z × Int
  | 0, Z, x2 => (Z, x2)
  | m + 1, Z, x2 => (if x1 ≤ x2 then (Z, x2) else (zlet (zu Z 1 0 0 3 (((25173 * (Z 1 0 0 3)) + 13849) % 65536)) (fun Z4 => (zlet (zu Z4 1 0 0 3 (((25173 * (Z4 1 0 0 3)) + 13849) % 65536)) (fun Z7 => (zlet (zu Z7 1 0 0 3 (((25173 * (Z7 1 0 0 3)) + 13849) % 65536)) (fun Z10 => (zlet2 (zf_485 Z10 (1 + (((Z4 1 0 0 3) / 16) % 12)) (((Z7 1 0 0 3) / 16) % 10) (((Z10 1 0 0 3) / 16) % 10) 18) (fun Z15 v16 => (zlet (zu Z15 1 0 0 3 (((25173 * (Z15 1 0 0 3)) + 13849) % 65536)) (fun Z20 => (zlet (zu Z20 2 0 0 (1213 + 12 * v16) (((Z20 1 0 0 3) / 16) % 41)) (fun Z23 => (zlet (zu Z23 1 0 0 3 (((25173 * (Z23 1 0 0 3)) + 13849) % 65536)) (fun Z26 => (zlet (zu Z26 2 0 0 (1214 + 12 * v16) (((Z26 1 0 0 3) / 16) % 2)) (fun Z29 => zl_486_1 x1 m Z29 (x2 + 1))))))))))))))))))
theorem sl_486_1 {s : zSM} {Zs Z : qz_Z} {ν : qz_N} (hZ : zM s Z) (hM : s.2 + 0 ≤ 1000000000) (hK : zC [1, 2] Zs Z) {x1 : Int} (gx1 : 0 ≤ x1 ∧ x1 ≤ 4) {x2 : Int} (gx2 : 0 ≤ x2 ∧ x2 ≤ 4) (hU : zU [] Zs Z) (gr0 : Z 2 0 0 1200 = x2) {k : wz_K} {R : wz_R} {L : qz_L} (hL : qz_fg [true, true, true, false, false, false] L = [some (.inr (.inr (some (1, 0, 0)))), some (.inl (i3 x1)), some (.inl (i3 x2)), none, none, none]) {T : qz_Z × Int} (hP : zE T (zl_486_1 x1 ((4 - x2).toNat + 1) Z x2)) (hk : ∀ (L9 : qz_L) (Z9 : qz_Z) (yx2 : Int), qz_fg [true, true, false, false, false, false] L9 = [some (.inr (.inr (some (1, 0, 0)))), some (.inl (i3 x1)), none, none, none, none] → zM s Z9 → zC [1, 2] Zs Z9 → zU [] Zs Z9 → (0 ≤ yx2 ∧ yx2 ≤ 4) → (Z9 2 0 0 1200 = yx2) → zE T ((Z9, yx2)) → k 0 (L9, [], zm Z9 ν)) : wz_loop qb_486_1 65536 k R (L, [], zm Z ν) := by
  refine wz_lp sb_486_1 (fun m x => ∃ Z : qz_Z, ∃ x2 : Int, qz_fg [true, true, true, false, false, false] x.1 = [some (.inr (.inr (some (1, 0, 0)))), some (.inl (i3 x1)), some (.inl (i3 x2)), none, none, none] ∧ x.2 = ([], zm Z ν) ∧ zM s Z ∧ zC [1, 2] Zs Z ∧ zU [] Zs Z ∧ m = (4 - x2).toNat ∧ (0 ≤ x2 ∧ x2 ≤ 4) ∧ (Z 2 0 0 1200 = x2) ∧ zE T (zl_486_1 x1 (m + 1) Z x2)) ?_ 65536 ((4 - x2).toNat) _ (by omega) ⟨Z, x2, hL, rfl, hZ, hK, hU, rfl, gx2, gr0, hP⟩
  clear hP gr0 gx2 hZ hK hU hL
  clear x2
  clear Z
  rintro m ⟨L, st, μ⟩ ⟨Z, x2, hL, hx, hZ, hK, hU, hm, gx2, gr0, hP⟩
  cases hx
  refine fb_486_1 (i3 x1) (i3 x2) _ _ _ _ hL ?_
  have r1 := zM_k hZ 2 0 0 1200 (lo := 0) (hi := 6) (by decide) rfl
  refine wz_br (i3Le (rfl : i3 x1 = i3 x1) (rfl : i3 x2 = i3 x2) (by omega) (by omega) (by omega) (by omega)) (fun h2 => ?_) (fun h2 => ?_)
  · replace hP := zE_p hP h2
    exact hk _ _ _ (zconso rfl (zconso (zvo (rfl : i3 x1 = i3 x1)) (zconso rfl (zconso rfl (zconso rfl (zconso rfl rfl)))))) hZ hK hU (by omega) (by omega) hP
  · replace hP := zE_n hP h2
    have r3 := zM_k hZ 1 0 0 3 (lo := 0) (hi := 65535) (by decide) rfl
    obtain ⟨Z4, hZ4⟩ := zx (zu Z 1 0 0 3 (((25173 * (Z 1 0 0 3)) + 13849) % 65536))
    replace hP := zl_e hP hZ4
    have hZ4I := zM_u hZ hZ4 (lo := 0) (hi := 65535) (by decide) rfl (by omega) ⟨by decide, by decide⟩ (Or.inr (by decide)) rfl
    have hZ4U : zU [] Zs Z4 := zU_u hU hZ4 (Or.inl rfl)
    have hZ4K : zC [1, 2] Zs Z4 := zC_u hK hZ4 (by decide)
    intro μ9 e9
    replace e9 := e9.trans (zm_wI (Z := Z) (ν := ν) hZ4 (show ((0 : Nat) : Int) = 0 from rfl) (show ((0 : Nat) : Int) = 0 from rfl) (show ((3 : Nat) : Int) = 3 from rfl) (i3R (i3A (i3M (show (25173 : Int32) = i3 25173 from rfl) (zm_rd (Z := Z) (ν := ν) (k := 1) (show ((0 : Nat) : Int) = 0 from rfl) (show ((0 : Nat) : Int) = 0 from rfl) (show ((3 : Nat) : Int) = 3 from rfl))) (show (13849 : Int32) = i3 13849 from rfl)) (show (65536 : Int32) = i3 65536 from rfl) (by omega) (by omega) (by omega) (by omega)))
    subst e9
    have r5 := zM_k hZ4I 1 0 0 3 (lo := 0) (hi := 65535) (by decide) rfl
    have q6 := zu_at hZ4
    obtain ⟨Z7, hZ7⟩ := zx (zu Z4 1 0 0 3 (((25173 * (Z4 1 0 0 3)) + 13849) % 65536))
    replace hP := zl_e hP hZ7
    have hZ7I := zM_u hZ4I hZ7 (lo := 0) (hi := 65535) (by decide) rfl (by omega) ⟨by decide, by decide⟩ (Or.inr (by decide)) rfl
    have hZ7U : zU [] Zs Z7 := zU_u hZ4U hZ7 (Or.inl rfl)
    have hZ7K : zC [1, 2] Zs Z7 := zC_u hZ4K hZ7 (by decide)
    intro μ9 e9
    replace e9 := e9.trans (zm_wI (Z := Z4) (ν := ν) hZ7 (show ((0 : Nat) : Int) = 0 from rfl) (show ((0 : Nat) : Int) = 0 from rfl) (show ((3 : Nat) : Int) = 3 from rfl) (i3R (i3A (i3M (show (25173 : Int32) = i3 25173 from rfl) (zm_rd (Z := Z4) (ν := ν) (k := 1) (show ((0 : Nat) : Int) = 0 from rfl) (show ((0 : Nat) : Int) = 0 from rfl) (show ((3 : Nat) : Int) = 3 from rfl))) (show (13849 : Int32) = i3 13849 from rfl)) (show (65536 : Int32) = i3 65536 from rfl) (by omega) (by omega) (by omega) (by omega)))
    subst e9
    have r8 := zM_k hZ7I 1 0 0 3 (lo := 0) (hi := 65535) (by decide) rfl
    have q9 := zu_at hZ7
    obtain ⟨Z10, hZ10⟩ := zx (zu Z7 1 0 0 3 (((25173 * (Z7 1 0 0 3)) + 13849) % 65536))
    replace hP := zl_e hP hZ10
    have hZ10I := zM_u hZ7I hZ10 (lo := 0) (hi := 65535) (by decide) rfl (by omega) ⟨by decide, by decide⟩ (Or.inr (by decide)) rfl
    have hZ10U : zU [] Zs Z10 := zU_u hZ7U hZ10 (Or.inl rfl)
    have hZ10K : zC [1, 2] Zs Z10 := zC_u hZ7K hZ10 (by decide)
    intro μ9 e9
    replace e9 := e9.trans (zm_wI (Z := Z7) (ν := ν) hZ10 (show ((0 : Nat) : Int) = 0 from rfl) (show ((0 : Nat) : Int) = 0 from rfl) (show ((3 : Nat) : Int) = 3 from rfl) (i3R (i3A (i3M (show (25173 : Int32) = i3 25173 from rfl) (zm_rd (Z := Z7) (ν := ν) (k := 1) (show ((0 : Nat) : Int) = 0 from rfl) (show ((0 : Nat) : Int) = 0 from rfl) (show ((3 : Nat) : Int) = 3 from rfl))) (show (13849 : Int32) = i3 13849 from rfl)) (show (65536 : Int32) = i3 65536 from rfl) (by omega) (by omega) (by omega) (by omega)))
    subst e9
    have r11 := zM_k hZ10I 1 0 0 3 (lo := 0) (hi := 65535) (by decide) rfl
    have q12 := zu_at hZ10
    have r13 := zM_k hZ10I 2 0 0 1200 (lo := 0) (hi := 6) (by decide) rfl
    have q14 := (zu_ne (k' := 2) (b' := 0) (i' := 0) (j' := 1200) hZ10 (fun q => absurd q.1 (by decide))).trans ((zu_ne (k' := 2) (b' := 0) (i' := 0) (j' := 1200) hZ7 (fun q => absurd q.1 (by decide))).trans (zu_ne (k' := 2) (b' := 0) (i' := 0) (j' := 1200) hZ4 (fun q => absurd q.1 (by decide))))
    obtain ⟨Z15, v16, hv16, c9, hZ15I, kZ15, jZ15, lv16, uv16, wv160⟩ := sp_485 (ν := ν) hZ10I (a1 := (1 + (((Z4 1 0 0 3) / 16) % 12))) (by omega) (a2 := (((Z7 1 0 0 3) / 16) % 10)) (by omega) (a3 := (((Z10 1 0 0 3) / 16) % 10)) (by omega) (a4 := 18) (by omega) (by omega) (zbh (c := 0) (k := 0) hM (Nat.le_of_ble_eq_true rfl))
    have hZ15U : zU [] Zs Z15 := zU_t hZ10U jZ15 zU_b0
    have hZ15K : zC [1, 2] Zs Z15 := zC_t hZ10K kZ15 (by decide)
    replace hP := zl_e2 hP hv16
    refine wz_cI_of (zas (zcons rfl (zcons (zvi (i3A (show (1 : Int32) = i3 1 from rfl) (i3R (i3D (zm_rd (Z := Z4) (ν := ν) (k := 1) (show ((0 : Nat) : Int) = 0 from rfl) (show ((0 : Nat) : Int) = 0 from rfl) (show ((3 : Nat) : Int) = 3 from rfl)) (show (16 : Int32) = i3 16 from rfl) (by omega) (by omega) (by omega) (by omega)) (show (12 : Int32) = i3 12 from rfl) (by omega) (by omega) (by omega) (by omega)))) (zcons (zvi (i3R (i3D (zm_rd (Z := Z7) (ν := ν) (k := 1) (show ((0 : Nat) : Int) = 0 from rfl) (show ((0 : Nat) : Int) = 0 from rfl) (show ((3 : Nat) : Int) = 3 from rfl)) (show (16 : Int32) = i3 16 from rfl) (by omega) (by omega) (by omega) (by omega)) (show (10 : Int32) = i3 10 from rfl) (by omega) (by omega) (by omega) (by omega))) (zcons (zvi (i3R (i3D (zm_rd (Z := Z10) (ν := ν) (k := 1) (show ((0 : Nat) : Int) = 0 from rfl) (show ((0 : Nat) : Int) = 0 from rfl) (show ((3 : Nat) : Int) = 3 from rfl)) (show (16 : Int32) = i3 16 from rfl) (by omega) (by omega) (by omega) (by omega)) (show (10 : Int32) = i3 10 from rfl) (by omega) (by omega) (by omega) (by omega))) (zcons (zvi (show (18 : Int32) = i3 18 from rfl)) rfl))))) c9) ?_
    clear c9 hv16
    have r17 := zM_k hZ15I 2 0 0 1200 (lo := 0) (hi := 6) (by decide) rfl
    have r18 := zM_k hZ15I 1 0 0 3 (lo := 0) (hi := 65535) (by decide) rfl
    have q19 := kZ15 1 0 0 3 (by decide)
    obtain ⟨Z20, hZ20⟩ := zx (zu Z15 1 0 0 3 (((25173 * (Z15 1 0 0 3)) + 13849) % 65536))
    replace hP := zl_e hP hZ20
    have hZ20I := zM_u hZ15I hZ20 (lo := 0) (hi := 65535) (by decide) rfl (by omega) ⟨by decide, by decide⟩ (Or.inr (by decide)) rfl
    have hZ20U : zU [] Zs Z20 := zU_u hZ15U hZ20 (Or.inl rfl)
    have hZ20K : zC [1, 2] Zs Z20 := zC_u hZ15K hZ20 (by decide)
    intro μ9 e9
    replace e9 := e9.trans (zm_wI (Z := Z15) (ν := ν) hZ20 (show ((0 : Nat) : Int) = 0 from rfl) (show ((0 : Nat) : Int) = 0 from rfl) (show ((3 : Nat) : Int) = 3 from rfl) (i3R (i3A (i3M (show (25173 : Int32) = i3 25173 from rfl) (zm_rd (Z := Z15) (ν := ν) (k := 1) (show ((0 : Nat) : Int) = 0 from rfl) (show ((0 : Nat) : Int) = 0 from rfl) (show ((3 : Nat) : Int) = 3 from rfl))) (show (13849 : Int32) = i3 13849 from rfl)) (show (65536 : Int32) = i3 65536 from rfl) (by omega) (by omega) (by omega) (by omega)))
    subst e9
    refine wz_i0 (i3O (n := 4400) (i3A (i3A (show (1210 : Int32) = i3 1210 from rfl) (i3M (show (12 : Int32) = i3 12 from rfl) (rfl : i3 v16 = i3 v16))) (show (3 : Int32) = i3 3 from rfl)) (by omega) (by omega) (by omega)) ?_
    have r21 := zM_k hZ20I 1 0 0 3 (lo := 0) (hi := 65535) (by decide) rfl
    have q22 := zu_at hZ20
    obtain ⟨Z23, hZ23⟩ := zx (zu Z20 2 0 0 (1213 + 12 * v16) (((Z20 1 0 0 3) / 16) % 41))
    replace hP := zl_e hP hZ23
    have hZ23I := zM_u2 hZ20I hZ23 (lo := 0) (hi := 40) (zs_1210_3 (x := v16) (by omega) (by omega) (by omega)) (by omega) ⟨by decide, by decide⟩ (by simp only [zsp]; omega)
    have hZ23U : zU [] Zs Z23 := zU_u hZ20U hZ23 (Or.inl rfl)
    have hZ23K : zC [1, 2] Zs Z23 := zC_u hZ20K hZ23 (zcl_2w (by omega) rfl)
    intro μ9 e9
    replace e9 := e9.trans (zm_wI (Z := Z20) (ν := ν) hZ23 (show ((0 : Nat) : Int) = 0 from rfl) (show ((0 : Nat) : Int) = 0 from rfl) (i3I (y := (1213 + 12 * v16)) (i3A (i3A (show (1210 : Int32) = i3 1210 from rfl) (i3M (show (12 : Int32) = i3 12 from rfl) (rfl : i3 v16 = i3 v16))) (show (3 : Int32) = i3 3 from rfl)) (by omega) (by omega) (by omega)) (i3R (i3D (zm_rd (Z := Z20) (ν := ν) (k := 1) (show ((0 : Nat) : Int) = 0 from rfl) (show ((0 : Nat) : Int) = 0 from rfl) (show ((3 : Nat) : Int) = 3 from rfl)) (show (16 : Int32) = i3 16 from rfl) (by omega) (by omega) (by omega) (by omega)) (show (41 : Int32) = i3 41 from rfl) (by omega) (by omega) (by omega) (by omega)))
    subst e9
    have r24 := zM_k hZ23I 1 0 0 3 (lo := 0) (hi := 65535) (by decide) rfl
    have q25 := zu_ne (k' := 1) (b' := 0) (i' := 0) (j' := 3) hZ23 (fun q => absurd q.1 (by decide))
    obtain ⟨Z26, hZ26⟩ := zx (zu Z23 1 0 0 3 (((25173 * (Z23 1 0 0 3)) + 13849) % 65536))
    replace hP := zl_e hP hZ26
    have hZ26I := zM_u hZ23I hZ26 (lo := 0) (hi := 65535) (by decide) rfl (by omega) ⟨by decide, by decide⟩ (Or.inr (by decide)) rfl
    have hZ26U : zU [] Zs Z26 := zU_u hZ23U hZ26 (Or.inl rfl)
    have hZ26K : zC [1, 2] Zs Z26 := zC_u hZ23K hZ26 (by decide)
    intro μ9 e9
    replace e9 := e9.trans (zm_wI (Z := Z23) (ν := ν) hZ26 (show ((0 : Nat) : Int) = 0 from rfl) (show ((0 : Nat) : Int) = 0 from rfl) (show ((3 : Nat) : Int) = 3 from rfl) (i3R (i3A (i3M (show (25173 : Int32) = i3 25173 from rfl) (zm_rd (Z := Z23) (ν := ν) (k := 1) (show ((0 : Nat) : Int) = 0 from rfl) (show ((0 : Nat) : Int) = 0 from rfl) (show ((3 : Nat) : Int) = 3 from rfl))) (show (13849 : Int32) = i3 13849 from rfl)) (show (65536 : Int32) = i3 65536 from rfl) (by omega) (by omega) (by omega) (by omega)))
    subst e9
    refine wz_i0 (i3O (n := 4400) (i3A (i3A (show (1210 : Int32) = i3 1210 from rfl) (i3M (show (12 : Int32) = i3 12 from rfl) (rfl : i3 v16 = i3 v16))) (show (4 : Int32) = i3 4 from rfl)) (by omega) (by omega) (by omega)) ?_
    have r27 := zM_k hZ26I 1 0 0 3 (lo := 0) (hi := 65535) (by decide) rfl
    have q28 := zu_at hZ26
    obtain ⟨Z29, hZ29⟩ := zx (zu Z26 2 0 0 (1214 + 12 * v16) (((Z26 1 0 0 3) / 16) % 2))
    replace hP := zl_e hP hZ29
    have hZ29I := zM_u2 hZ26I hZ29 (lo := 0) (hi := 1) (zs_1210_4 (x := v16) (by omega) (by omega) (by omega)) (by omega) ⟨by decide, by decide⟩ (by simp only [zsp]; omega)
    have hZ29U : zU [] Zs Z29 := zU_u hZ26U hZ29 (Or.inl rfl)
    have hZ29K : zC [1, 2] Zs Z29 := zC_u hZ26K hZ29 (zcl_2w (by omega) rfl)
    intro μ9 e9
    replace e9 := e9.trans (zm_wI (Z := Z26) (ν := ν) hZ29 (show ((0 : Nat) : Int) = 0 from rfl) (show ((0 : Nat) : Int) = 0 from rfl) (i3I (y := (1214 + 12 * v16)) (i3A (i3A (show (1210 : Int32) = i3 1210 from rfl) (i3M (show (12 : Int32) = i3 12 from rfl) (rfl : i3 v16 = i3 v16))) (show (4 : Int32) = i3 4 from rfl)) (by omega) (by omega) (by omega)) (i3R (i3D (zm_rd (Z := Z26) (ν := ν) (k := 1) (show ((0 : Nat) : Int) = 0 from rfl) (show ((0 : Nat) : Int) = 0 from rfl) (show ((3 : Nat) : Int) = 3 from rfl)) (show (16 : Int32) = i3 16 from rfl) (by omega) (by omega) (by omega) (by omega)) (show (2 : Int32) = i3 2 from rfl) (by omega) (by omega) (by omega) (by omega)))
    subst e9
    have r30 := zM_k hZ29I 2 0 0 1200 (lo := 0) (hi := 6) (by decide) rfl
    have q31 := (zu_ne (k' := 2) (b' := 0) (i' := 0) (j' := 1200) hZ29 (fun q => absurd q.2.2.2 (by omega))).trans ((zu_ne (k' := 2) (b' := 0) (i' := 0) (j' := 1200) hZ26 (fun q => absurd q.1 (by decide))).trans ((zu_ne (k' := 2) (b' := 0) (i' := 0) (j' := 1200) hZ23 (fun q => absurd q.2.2.2 (by omega))).trans (zu_ne (k' := 2) (b' := 0) (i' := 0) (j' := 1200) hZ20 (fun q => absurd q.1 (by decide)))))
    obtain ⟨m2, rfl⟩ : ∃ m2, m = m2 + 1 := ⟨m - 1, by omega⟩
    exact wz_k1 ⟨m2, by omega, Z29, (x2 + 1), (zconso rfl (zconso (zvo (rfl : i3 x1 = i3 x1)) (zconso (zvo (i3A (rfl : i3 x2 = i3 x2) (show (1 : Int32) = i3 1 from rfl))) (zconso rfl (zconso rfl (zconso rfl rfl)))))), rfl, hZ29I, hZ29K, hZ29U, by omega, by omega, by omega,  hP⟩
/- yX12_rSeason -/
def zl_486_2 (x1 : Int) : Nat → qz_Z → Int → qz_Z × Int
  | 0, Z, x2 => (Z, x2)
  | m + 1, Z, x2 => (if 28 ≤ x2 then (Z, x2) else (zlet (zu Z 1 0 0 3 (((25173 * (Z 1 0 0 3)) + 13849) % 65536)) (fun Z3 => (zlet (zu Z3 2 0 0 (1300 + x2) (((Z3 1 0 0 3) / 16) % 41)) (fun Z6 => zl_486_2 x1 m Z6 (x2 + 1))))))
theorem sl_486_2 {s : zSM} {Zs Z : qz_Z} {ν : qz_N} (hZ : zM s Z) (hM : s.2 + 0 ≤ 1000000000) (hK : zC [1, 2] Zs Z) {x1 : Int} (gx1 : 0 ≤ x1 ∧ x1 ≤ 4) {x2 : Int} (gx2 : 0 ≤ x2 ∧ x2 ≤ 28) (hU : zU [] Zs Z) {k : wz_K} {R : wz_R} {L : qz_L} (hL : qz_fg [true, true, true, false, false, false] L = [some (.inr (.inr (some (1, 0, 0)))), some (.inl (i3 x1)), some (.inl (i3 x2)), none, none, none]) {T : qz_Z × Int} (hP : zE T (zl_486_2 x1 ((28 - x2).toNat + 1) Z x2)) (hk : ∀ (L9 : qz_L) (Z9 : qz_Z) (yx2 : Int), qz_fg [true, true, false, false, false, false] L9 = [some (.inr (.inr (some (1, 0, 0)))), some (.inl (i3 x1)), none, none, none, none] → zM s Z9 → zC [1, 2] Zs Z9 → zU [] Zs Z9 → (0 ≤ yx2 ∧ yx2 ≤ 28) → zE T ((Z9, yx2)) → k 0 (L9, [], zm Z9 ν)) : wz_loop qb_486_2 65536 k R (L, [], zm Z ν) := by
  refine wz_lp sb_486_2 (fun m x => ∃ Z : qz_Z, ∃ x2 : Int, qz_fg [true, true, true, false, false, false] x.1 = [some (.inr (.inr (some (1, 0, 0)))), some (.inl (i3 x1)), some (.inl (i3 x2)), none, none, none] ∧ x.2 = ([], zm Z ν) ∧ zM s Z ∧ zC [1, 2] Zs Z ∧ zU [] Zs Z ∧ m = (28 - x2).toNat ∧ (0 ≤ x2 ∧ x2 ≤ 28) ∧ zE T (zl_486_2 x1 (m + 1) Z x2)) ?_ 65536 ((28 - x2).toNat) _ (by omega) ⟨Z, x2, hL, rfl, hZ, hK, hU, rfl, gx2, hP⟩
  clear hP gx2 hZ hK hU hL
  clear x2
  clear Z
  rintro m ⟨L, st, μ⟩ ⟨Z, x2, hL, hx, hZ, hK, hU, hm, gx2, hP⟩
  cases hx
  refine fb_486_2 (i3 x1) (i3 x2) _ _ _ _ hL ?_
  refine wz_br (i3Le (show (28 : Int32) = i3 28 from rfl) (rfl : i3 x2 = i3 x2) (by omega) (by omega) (by omega) (by omega)) (fun h1 => ?_) (fun h1 => ?_)
  · replace hP := zE_p hP h1
    exact hk _ _ _ (zconso rfl (zconso (zvo (rfl : i3 x1 = i3 x1)) (zconso rfl (zconso rfl (zconso rfl (zconso rfl rfl)))))) hZ hK hU (by omega)  hP
  · replace hP := zE_n hP h1
    have r2 := zM_k hZ 1 0 0 3 (lo := 0) (hi := 65535) (by decide) rfl
    obtain ⟨Z3, hZ3⟩ := zx (zu Z 1 0 0 3 (((25173 * (Z 1 0 0 3)) + 13849) % 65536))
    replace hP := zl_e hP hZ3
    have hZ3I := zM_u hZ hZ3 (lo := 0) (hi := 65535) (by decide) rfl (by omega) ⟨by decide, by decide⟩ (Or.inr (by decide)) rfl
    have hZ3U : zU [] Zs Z3 := zU_u hU hZ3 (Or.inl rfl)
    have hZ3K : zC [1, 2] Zs Z3 := zC_u hK hZ3 (by decide)
    intro μ9 e9
    replace e9 := e9.trans (zm_wI (Z := Z) (ν := ν) hZ3 (show ((0 : Nat) : Int) = 0 from rfl) (show ((0 : Nat) : Int) = 0 from rfl) (show ((3 : Nat) : Int) = 3 from rfl) (i3R (i3A (i3M (show (25173 : Int32) = i3 25173 from rfl) (zm_rd (Z := Z) (ν := ν) (k := 1) (show ((0 : Nat) : Int) = 0 from rfl) (show ((0 : Nat) : Int) = 0 from rfl) (show ((3 : Nat) : Int) = 3 from rfl))) (show (13849 : Int32) = i3 13849 from rfl)) (show (65536 : Int32) = i3 65536 from rfl) (by omega) (by omega) (by omega) (by omega)))
    subst e9
    refine wz_i0 (i3O (n := 4400) (i3A (show (1300 : Int32) = i3 1300 from rfl) (rfl : i3 x2 = i3 x2)) (by omega) (by omega) (by omega)) ?_
    have r4 := zM_k hZ3I 1 0 0 3 (lo := 0) (hi := 65535) (by decide) rfl
    have q5 := zu_at hZ3
    obtain ⟨Z6, hZ6⟩ := zx (zu Z3 2 0 0 (1300 + x2) (((Z3 1 0 0 3) / 16) % 41))
    replace hP := zl_e hP hZ6
    have hZ6I := zM_u2 hZ3I hZ6 (lo := 0) (hi := 40) (zs_1300 (by omega) (by omega)) (by omega) ⟨by decide, by decide⟩ (by simp only [zsp]; omega)
    have hZ6U : zU [] Zs Z6 := zU_u hZ3U hZ6 (Or.inl rfl)
    have hZ6K : zC [1, 2] Zs Z6 := zC_u hZ3K hZ6 (zcl_2w (by omega) rfl)
    intro μ9 e9
    replace e9 := e9.trans (zm_wI (Z := Z3) (ν := ν) hZ6 (show ((0 : Nat) : Int) = 0 from rfl) (show ((0 : Nat) : Int) = 0 from rfl) (i3I (y := (1300 + x2)) (i3A (show (1300 : Int32) = i3 1300 from rfl) (rfl : i3 x2 = i3 x2)) (by omega) (by omega) (by omega)) (i3R (i3D (zm_rd (Z := Z3) (ν := ν) (k := 1) (show ((0 : Nat) : Int) = 0 from rfl) (show ((0 : Nat) : Int) = 0 from rfl) (show ((3 : Nat) : Int) = 3 from rfl)) (show (16 : Int32) = i3 16 from rfl) (by omega) (by omega) (by omega) (by omega)) (show (41 : Int32) = i3 41 from rfl) (by omega) (by omega) (by omega) (by omega)))
    subst e9
    obtain ⟨m2, rfl⟩ : ∃ m2, m = m2 + 1 := ⟨m - 1, by omega⟩
    exact wz_k1 ⟨m2, by omega, Z6, (x2 + 1), (zconso rfl (zconso (zvo (rfl : i3 x1 = i3 x1)) (zconso (zvo (i3A (rfl : i3 x2 = i3 x2) (show (1 : Int32) = i3 1 from rfl))) (zconso rfl (zconso rfl (zconso rfl rfl)))))), rfl, hZ6I, hZ6K, hZ6U, by omega, by omega,  hP⟩
/- yX12_rSeason -/
def zl_486_3 (x1 : Int) : Nat → qz_Z → Int → qz_Z × Int
  | 0, Z, x2 => (Z, x2)
  | m + 1, Z, x2 => (if (Z 2 0 0 102) ≤ x2 then (Z, x2) else (zlet (zu Z 1 0 0 3 (((25173 * (Z 1 0 0 3)) + 13849) % 65536)) (fun Z4 => (if x1 ≤ (((Z4 1 0 0 3) / 16) % (x1 + 1)) then zl_486_3 x1 m Z4 (x2 + 1) else (zlet (zf_488 Z4 (((Z4 1 0 0 3) / 16) % (x1 + 1))) (fun v9 => (if ((Z4 2 0 0 (1210 + 12 * (((Z4 1 0 0 3) / 16) % (x1 + 1)))) - v9) ≤ 0 then zl_486_3 x1 m Z4 (x2 + 1) else (zlet (zf_472 Z4 x2 (((Z4 1 0 0 3) / 16) % (x1 + 1))) (fun Z16 => zl_486_3 x1 m Z16 (x2 + 1))))))))))
theorem sl_486_3 {s : zSM} {xM9 : Nat} {Zs Z : qz_Z} {ν : qz_N} (hZ : zM (zb s xM9) Z) (hM : s.2 + 98 ≤ 1000000000) (hK : zC [1, 2] Zs Z) {x1 : Int} (gx1 : 0 ≤ x1 ∧ x1 ≤ 4) {x2 : Int} (gx2 : 0 ≤ x2 ∧ x2 ≤ 48) (hU : zU [] Zs Z) (hx9 : xM9 + 2 * ((48 - x2).toNat) + 2 ≤ 98) {k : wz_K} {R : wz_R} {L : qz_L} (hL : qz_fg [true, true, true, false, false, false] L = [some (.inr (.inr (some (1, 0, 0)))), some (.inl (i3 x1)), some (.inl (i3 x2)), none, none, none]) {T : qz_Z × Int} (hP : zE T (zl_486_3 x1 ((48 - x2).toNat + 1) Z x2)) (hk : ∀ (L9 : qz_L) (Z9 : qz_Z) (yx2 : Int), qz_fg [false, false, false, false, false, false] L9 = [none, none, none, none, none, none] → zM (zb s 98) Z9 → zC [1, 2] Zs Z9 → zU [] Zs Z9 → (0 ≤ yx2 ∧ yx2 ≤ 48) → zE T ((Z9, yx2)) → k 0 (L9, [], zm Z9 ν)) : wz_loop qb_486_3 65536 k R (L, [], zm Z ν) := by
  refine wz_lp sb_486_3 (fun m x => ∃ xM9 : Nat, ∃ Z : qz_Z, ∃ x2 : Int, qz_fg [true, true, true, false, false, false] x.1 = [some (.inr (.inr (some (1, 0, 0)))), some (.inl (i3 x1)), some (.inl (i3 x2)), none, none, none] ∧ x.2 = ([], zm Z ν) ∧ xM9 + 2 * m + 2 ≤ 98 ∧ zM (zb s xM9) Z ∧ zC [1, 2] Zs Z ∧ zU [] Zs Z ∧ m = (48 - x2).toNat ∧ (0 ≤ x2 ∧ x2 ≤ 48) ∧ zE T (zl_486_3 x1 (m + 1) Z x2)) ?_ 65536 ((48 - x2).toNat) _ (by omega) ⟨xM9, Z, x2, hL, rfl, hx9, hZ, hK, hU, rfl, gx2, hP⟩
  clear hP gx2 hx9 hZ hK hU hL
  clear x2
  clear Z
  clear xM9
  rintro m ⟨L, st, μ⟩ ⟨xM9, Z, x2, hL, hx, hx9, hZ, hK, hU, hm, gx2, hP⟩
  cases hx
  have hM9 : (zb s xM9).2 + 2 ≤ 1000000000 := by
    show s.2 + xM9 + 2 ≤ 1000000000
    omega
  refine fb_486_3 (i3 x1) (i3 x2) _ _ _ _ hL ?_
  have r1 := zM_k hZ 2 0 0 102 (lo := 0) (hi := 48) (by decide) rfl
  refine wz_br (i3Le (zm_rd (Z := Z) (ν := ν) (k := 2) (show ((0 : Nat) : Int) = 0 from rfl) (show ((0 : Nat) : Int) = 0 from rfl) (show ((102 : Nat) : Int) = 102 from rfl)) (rfl : i3 x2 = i3 x2) (by omega) (by omega) (by omega) (by omega)) (fun h2 => ?_) (fun h2 => ?_)
  · replace hP := zE_p hP h2
    exact hk _ _ _ (zconso rfl (zconso rfl (zconso rfl (zconso rfl (zconso rfl (zconso rfl rfl)))))) (zmx0 hZ (by omega)) hK hU (by omega)  hP
  · replace hP := zE_n hP h2
    have r3 := zM_k hZ 1 0 0 3 (lo := 0) (hi := 65535) (by decide) rfl
    obtain ⟨Z4, hZ4⟩ := zx (zu Z 1 0 0 3 (((25173 * (Z 1 0 0 3)) + 13849) % 65536))
    replace hP := zl_e hP hZ4
    have hZ4I := zM_u hZ hZ4 (lo := 0) (hi := 65535) (by decide) rfl (by omega) ⟨by decide, by decide⟩ (Or.inr (by decide)) rfl
    have hZ4U : zU [] Zs Z4 := zU_u hU hZ4 (Or.inl rfl)
    have hZ4K : zC [1, 2] Zs Z4 := zC_u hK hZ4 (by decide)
    intro μ9 e9
    replace e9 := e9.trans (zm_wI (Z := Z) (ν := ν) hZ4 (show ((0 : Nat) : Int) = 0 from rfl) (show ((0 : Nat) : Int) = 0 from rfl) (show ((3 : Nat) : Int) = 3 from rfl) (i3R (i3A (i3M (show (25173 : Int32) = i3 25173 from rfl) (zm_rd (Z := Z) (ν := ν) (k := 1) (show ((0 : Nat) : Int) = 0 from rfl) (show ((0 : Nat) : Int) = 0 from rfl) (show ((3 : Nat) : Int) = 3 from rfl))) (show (13849 : Int32) = i3 13849 from rfl)) (show (65536 : Int32) = i3 65536 from rfl) (by omega) (by omega) (by omega) (by omega)))
    subst e9
    refine wz_i0 (i3N0 (i3A (rfl : i3 x1 = i3 x1) (show (1 : Int32) = i3 1 from rfl)) (by omega) (by omega) (by omega)) ?_
    have r5 := zM_k hZ4I 1 0 0 3 (lo := 0) (hi := 65535) (by decide) rfl
    have q6 := zu_at hZ4
    have r7 := z_mod ((Z4 1 0 0 3) / 16) (y := (x1 + 1)) (by omega)
    refine wz_br (i3Le (rfl : i3 x1 = i3 x1) (i3R (i3D (zm_rd (Z := Z4) (ν := ν) (k := 1) (show ((0 : Nat) : Int) = 0 from rfl) (show ((0 : Nat) : Int) = 0 from rfl) (show ((3 : Nat) : Int) = 3 from rfl)) (show (16 : Int32) = i3 16 from rfl) (by omega) (by omega) (by omega) (by omega)) (i3A (rfl : i3 x1 = i3 x1) (show (1 : Int32) = i3 1 from rfl)) (by omega) (by omega) (by omega) (by omega)) (by omega) (by omega) (by omega) (by omega)) (fun h8 => ?_) (fun h8 => ?_)
    · replace hP := zE_p hP h8
      obtain ⟨m2, rfl⟩ : ∃ m2, m = m2 + 1 := ⟨m - 1, by omega⟩
      exact wz_k1 ⟨m2, by omega, xM9, Z4, (x2 + 1), (zconso rfl (zconso (zvo (rfl : i3 x1 = i3 x1)) (zconso (zvo (i3A (rfl : i3 x2 = i3 x2) (show (1 : Int32) = i3 1 from rfl))) (zconso rfl (zconso rfl (zconso rfl rfl)))))), rfl, by omega, hZ4I, hZ4K, hZ4U, by omega, by omega,  hP⟩
    · replace hP := zE_n hP h8
      refine wz_i1 (Eq.trans (i3NE (i3R (i3D (zm_rd (Z := Z4) (ν := ν) (k := 1) (show ((0 : Nat) : Int) = 0 from rfl) (show ((0 : Nat) : Int) = 0 from rfl) (show ((3 : Nat) : Int) = 3 from rfl)) (show (16 : Int32) = i3 16 from rfl) (by omega) (by omega) (by omega) (by omega)) (i3A (rfl : i3 x1 = i3 x1) (show (1 : Int32) = i3 1 from rfl)) (by omega) (by omega) (by omega) (by omega)) (show (6 : Int32) = i3 6 from rfl) (by omega) (by omega) (by omega) (by omega)) (decide_eq_true (by omega))) ?_
      refine wz_i0 (i3O (n := 4400) (i3A (i3A (show (1210 : Int32) = i3 1210 from rfl) (i3M (show (12 : Int32) = i3 12 from rfl) (i3R (i3D (zm_rd (Z := Z4) (ν := ν) (k := 1) (show ((0 : Nat) : Int) = 0 from rfl) (show ((0 : Nat) : Int) = 0 from rfl) (show ((3 : Nat) : Int) = 3 from rfl)) (show (16 : Int32) = i3 16 from rfl) (by omega) (by omega) (by omega) (by omega)) (i3A (rfl : i3 x1 = i3 x1) (show (1 : Int32) = i3 1 from rfl)) (by omega) (by omega) (by omega) (by omega)))) (show (0 : Int32) = i3 0 from rfl)) (by omega) (by omega) (by omega)) ?_
      obtain ⟨v9, hv9, c9, lv9, uv9⟩ := sp_488 (ν := ν) hZ4I (a1 := (((Z4 1 0 0 3) / 16) % (x1 + 1))) (by omega) (zbh (c := 0) (k := 0) hM9 (Nat.le_of_ble_eq_true rfl))
      replace hP := zl_e hP hv9
      refine wz_cI_of (zas (zcons rfl (zcons (zvi (i3R (i3D (zm_rd (Z := Z4) (ν := ν) (k := 1) (show ((0 : Nat) : Int) = 0 from rfl) (show ((0 : Nat) : Int) = 0 from rfl) (show ((3 : Nat) : Int) = 3 from rfl)) (show (16 : Int32) = i3 16 from rfl) (by omega) (by omega) (by omega) (by omega)) (i3A (rfl : i3 x1 = i3 x1) (show (1 : Int32) = i3 1 from rfl)) (by omega) (by omega) (by omega) (by omega))) rfl)) c9) ?_
      clear c9
      have r10 := zM_k hZ4I 2 0 0 (1210 + 12 * (((Z4 1 0 0 3) / 16) % (x1 + 1))) (lo := 0) (hi := 12) (by decide) (zs_1210_0 (x := (((Z4 1 0 0 3) / 16) % (x1 + 1))) (by omega) (by omega) (by omega))
      refine wz_br (i3Le (i3S (zm_rd (Z := Z4) (ν := ν) (k := 2) (show ((0 : Nat) : Int) = 0 from rfl) (show ((0 : Nat) : Int) = 0 from rfl) (i3I (y := (1210 + 12 * (((Z4 1 0 0 3) / 16) % (x1 + 1)))) (i3A (i3A (show (1210 : Int32) = i3 1210 from rfl) (i3M (show (12 : Int32) = i3 12 from rfl) (i3R (i3D (zm_rd (Z := Z4) (ν := ν) (k := 1) (show ((0 : Nat) : Int) = 0 from rfl) (show ((0 : Nat) : Int) = 0 from rfl) (show ((3 : Nat) : Int) = 3 from rfl)) (show (16 : Int32) = i3 16 from rfl) (by omega) (by omega) (by omega) (by omega)) (i3A (rfl : i3 x1 = i3 x1) (show (1 : Int32) = i3 1 from rfl)) (by omega) (by omega) (by omega) (by omega)))) (show (0 : Int32) = i3 0 from rfl)) (by omega) (by omega) (by omega))) (rfl : i3 v9 = i3 v9)) (show (0 : Int32) = i3 0 from rfl) (by omega) (by omega) (by omega) (by omega)) (fun h11 => ?_) (fun h11 => ?_)
      · replace hP := zE_p hP h11
        obtain ⟨m2, rfl⟩ : ∃ m2, m = m2 + 1 := ⟨m - 1, by omega⟩
        exact wz_k1 ⟨m2, by omega, xM9, Z4, (x2 + 1), (zconso rfl (zconso (zvo (rfl : i3 x1 = i3 x1)) (zconso (zvo (i3A (rfl : i3 x2 = i3 x2) (show (1 : Int32) = i3 1 from rfl))) (zconso rfl (zconso rfl (zconso rfl rfl)))))), rfl, by omega, hZ4I, hZ4K, hZ4U, by omega, by omega,  hP⟩
      · replace hP := zE_n hP h11
        have r12 := zM_k hZ4I 2 0 0 (210 + 20 * x2) (lo := 0) (hi := 4) (by decide) (zs_200_10 (x := x2) (by omega) (by omega) (by omega))
        have r13 := zM_pl hZ4I x2
        have r14 := zM_k hZ4I 2 0 0 102 (lo := 0) (hi := 48) (by decide) rfl
        have q15 := zu_ne (k' := 2) (b' := 0) (i' := 0) (j' := 102) hZ4 (fun q => absurd q.1 (by decide))
        obtain ⟨Z16, hZ16, c9, hZ16I, kZ16, jZ16⟩ := sp_472 (ν := ν) hZ4I (a1 := x2) (by omega) (a2 := (((Z4 1 0 0 3) / 16) % (x1 + 1))) (by omega) (by omega) (zbh (c := 0) (k := 2) hM9 (Nat.le_of_ble_eq_true rfl))
        have hZ16U : zU [] Zs Z16 := zU_t hZ4U jZ16 zU_b0
        have hZ16K : zC [1, 2] Zs Z16 := zC_t hZ4K kZ16 (by decide)
        replace hP := zl_e hP hZ16
        refine wz_cV_of (zas (zcons rfl (zcons (zvi (rfl : i3 x2 = i3 x2)) (zcons (zvi (i3R (i3D (zm_rd (Z := Z4) (ν := ν) (k := 1) (show ((0 : Nat) : Int) = 0 from rfl) (show ((0 : Nat) : Int) = 0 from rfl) (show ((3 : Nat) : Int) = 3 from rfl)) (show (16 : Int32) = i3 16 from rfl) (by omega) (by omega) (by omega) (by omega)) (i3A (rfl : i3 x1 = i3 x1) (show (1 : Int32) = i3 1 from rfl)) (by omega) (by omega) (by omega) (by omega))) rfl))) c9) ?_
        clear c9
        obtain ⟨m2, rfl⟩ : ∃ m2, m = m2 + 1 := ⟨m - 1, by omega⟩
        exact wz_k1 ⟨m2, by omega, xM9 + 2, Z16, (x2 + 1), (zconso rfl (zconso (zvo (rfl : i3 x1 = i3 x1)) (zconso (zvo (i3A (rfl : i3 x2 = i3 x2) (show (1 : Int32) = i3 1 from rfl))) (zconso rfl (zconso rfl (zconso rfl rfl)))))), rfl, by omega, (zmt hZ16I rfl), hZ16K, hZ16U, by omega, by omega,  hP⟩
/- yX12_rSeason -/
def zf_486 (Z : qz_Z) : qz_Z := (zlet (zu Z 1 0 0 3 (((25173 * (Z 1 0 0 3)) + 13849) % 65536)) (fun Z3 => (zlet2 (zl_486_1 (((Z3 1 0 0 3) / 16) % 5) 5 Z3 0) (fun Z7 y6 => (zlet2 (zl_486_2 (((Z3 1 0 0 3) / 16) % 5) 29 Z7 0) (fun Z13 y12 => (zlet2 (zl_486_3 (((Z3 1 0 0 3) / 16) % 5) 49 Z13 0) (fun Z16 y15 => Z16))))))))
theorem sp_486 {s : zSM} {Z : qz_Z} {ν : qz_N} (hZ : zM s Z) (gx0 : Z 2 0 0 1200 = 0) (hM : s.2 + 98 ≤ 1000000000) : ∃ P : qz_Z, P = zf_486 Z ∧ (qf_486 [.inr (.inr (some (1, 0, 0)))] (zm Z ν) = some (zm P ν, .inl none) ∧ zM (zb s 98) P ∧ zC [1, 2] Z P ∧ zU [] Z P) := by
  obtain ⟨P, hP⟩ := zx (zf_486 Z)
  refine zc_V (Q := fun P => zM (zb s 98) P ∧ zC [1, 2] Z P ∧ zU [] Z P) hP (fw_486  _ _ ?_)
  replace hP : zE P (zf_486 Z) := hP
  unfold zf_486 at hP
  have r1 := zM_k hZ 2 0 0 1200 (lo := 0) (hi := 6) (by decide) rfl
  have r2 := zM_k hZ 1 0 0 3 (lo := 0) (hi := 65535) (by decide) rfl
  obtain ⟨Z3, hZ3⟩ := zx (zu Z 1 0 0 3 (((25173 * (Z 1 0 0 3)) + 13849) % 65536))
  replace hP := zl_e hP hZ3
  have hZ3I := zM_u hZ hZ3 (lo := 0) (hi := 65535) (by decide) rfl (by omega) ⟨by decide, by decide⟩ (Or.inr (by decide)) rfl
  have hZ3U : zU [] Z Z3 := zU_u zU_r hZ3 (Or.inl rfl)
  have hZ3K : zC [1, 2] Z Z3 := zC_u zC_r hZ3 (by decide)
  intro μ9 e9
  replace e9 := e9.trans (zm_wI (Z := Z) (ν := ν) hZ3 (show ((0 : Nat) : Int) = 0 from rfl) (show ((0 : Nat) : Int) = 0 from rfl) (show ((3 : Nat) : Int) = 3 from rfl) (i3R (i3A (i3M (show (25173 : Int32) = i3 25173 from rfl) (zm_rd (Z := Z) (ν := ν) (k := 1) (show ((0 : Nat) : Int) = 0 from rfl) (show ((0 : Nat) : Int) = 0 from rfl) (show ((3 : Nat) : Int) = 3 from rfl))) (show (13849 : Int32) = i3 13849 from rfl)) (show (65536 : Int32) = i3 65536 from rfl) (by omega) (by omega) (by omega) (by omega)))
  subst e9
  have r4 := zM_k hZ3I 1 0 0 3 (lo := 0) (hi := 65535) (by decide) rfl
  have q5 := zu_at hZ3
  have r8 := zM_k hZ3I 2 0 0 1200 (lo := 0) (hi := 6) (by decide) rfl
  have q9 := zu_ne (k' := 2) (b' := 0) (i' := 0) (j' := 1200) hZ3 (fun q => absurd q.1 (by decide))
  refine sl_486_1 (ν := ν) hZ3I (zbh (c := 0) (k := 0) hM (Nat.le_of_ble_eq_true rfl)) zC_r (x1 := (((Z3 1 0 0 3) / 16) % 5)) (by omega) (x2 := 0) (by omega) zU_r (by omega) (zconso rfl (zconso (zvo (i3R (i3D (zm_rd (Z := Z3) (ν := ν) (k := 1) (show ((0 : Nat) : Int) = 0 from rfl) (show ((0 : Nat) : Int) = 0 from rfl) (show ((3 : Nat) : Int) = 3 from rfl)) (show (16 : Int32) = i3 16 from rfl) (by omega) (by omega) (by omega) (by omega)) (show (5 : Int32) = i3 5 from rfl) (by omega) (by omega) (by omega) (by omega))) (zconso (zvo (show (0 : Int32) = i3 0 from rfl)) (zconso rfl (zconso rfl (zconso rfl rfl)))))) rfl ?_
  intro L10 Z7 y6 hL10 hZ7I kZ7 jZ7 gy6 gL10_0 q9
  replace hP := zl_e2 hP (Eq.symm q9)
  clear q9
  have hZ7U : zU [] Z Z7 := zU_t hZ3U jZ7 zU_b0
  have hZ7K : zC [1, 2] Z Z7 := zC_t hZ3K kZ7 (by decide)
  have r11 := zM_k hZ7I 2 0 0 1200 (lo := 0) (hi := 6) (by decide) rfl
  refine fc_486_6 (i3 (((Z3 1 0 0 3) / 16) % 5)) _ _ _ _ hL10 ?_
  refine sl_486_2 (ν := ν) hZ7I (zbh (c := 0) (k := 0) hM (Nat.le_of_ble_eq_true rfl)) zC_r (x1 := (((Z3 1 0 0 3) / 16) % 5)) (by omega) (x2 := 0) (by omega) zU_r  (zconso rfl (zconso (zvo (rfl : i3 (((Z3 1 0 0 3) / 16) % 5) = i3 (((Z3 1 0 0 3) / 16) % 5))) (zconso (zvo (show (0 : Int32) = i3 0 from rfl)) (zconso rfl (zconso rfl (zconso rfl rfl)))))) rfl ?_
  intro L14 Z13 y12 hL14 hZ13I kZ13 jZ13 gy12 q9
  replace hP := zl_e2 hP (Eq.symm q9)
  clear q9
  have hZ13U : zU [] Z Z13 := zU_t hZ7U jZ13 zU_b0
  have hZ13K : zC [1, 2] Z Z13 := zC_t hZ7K kZ13 (by decide)
  refine fc_486_5 (i3 (((Z3 1 0 0 3) / 16) % 5)) _ _ _ _ hL14 ?_
  refine sl_486_3 (ν := ν) (zm0 hZ13I) (zbh (c := 0) (k := 98) hM (Nat.le_of_ble_eq_true rfl)) (xM9 := 0) zC_r (x1 := (((Z3 1 0 0 3) / 16) % 5)) (by omega) (x2 := 0) (by omega) zU_r (Nat.le_of_ble_eq_true rfl)  (zconso rfl (zconso (zvo (rfl : i3 (((Z3 1 0 0 3) / 16) % 5) = i3 (((Z3 1 0 0 3) / 16) % 5))) (zconso (zvo (show (0 : Int32) = i3 0 from rfl)) (zconso rfl (zconso rfl (zconso rfl rfl)))))) rfl ?_
  intro L17 Z16 y15 hL17 hZ16I kZ16 jZ16 gy15 q9
  replace hP := zl_e2 hP (Eq.symm q9)
  clear q9
  have hZ16U : zU [] Z Z16 := zU_t hZ13U jZ16 zU_b0
  have hZ16K : zC [1, 2] Z Z16 := zC_t hZ13K kZ16 (by decide)
  refine fc_486_4  _ _ _ _ hL17 ?_
  exact zlV hP ⟨hZ16I, hZ16K, hZ16U⟩
/- yX12_iSeason -/
def zl_370_1 (x1 : Int) (x2 : Int) (x4 : Int) : Nat → qz_Z → Int → Int → qz_Z × Int × Int
  | 0, Z, x5, x6 => (Z, x5, x6)
  | m + 1, Z, x5, x6 => (if x4 ≤ x6 then (Z, x5, x6) else (zlet (zu Z 1 0 0 3 (((25173 * (Z 1 0 0 3)) + 13849) % 65536)) (fun Z3 => (if (Z3 2 0 0 1200) ≤ (((Z3 1 0 0 3) / 16) % ((Z 2 0 0 1200) + 1)) then zl_370_1 x1 x2 x4 m Z3 ((10 * x5) + 7) (x6 + 1) else zl_370_1 x1 x2 x4 m Z3 ((10 * x5) + ((((Z3 1 0 0 3) / 16) % ((Z 2 0 0 1200) + 1)) + 1)) (x6 + 1)))))
theorem sl_370_1 {s : zSM} {Zs Z : qz_Z} {ν : qz_N} (hZ : zM s Z) (hM : s.2 + 0 ≤ 1000000000) (hK : zC [1] Zs Z) {x1 : Int} (gx1 : 1 ≤ x1 ∧ x1 ≤ 2) {x2 : Int} (gx2 : 0 ≤ x2 ∧ x2 ≤ 1) {x4 : Int} (gx4 : 0 ≤ x4 ∧ x4 ≤ 6) {x5 : Int} (gx5 : 0 ≤ x5 ∧ x5 ≤ 999999) {x6 : Int} (gx6 : 0 ≤ x6 ∧ x6 ≤ 6) (hU : zU [] Zs Z) (gr0 : x5 = 0 ∨ 1 ≤ x6) (gr1 : x5 ≤ 9 ∨ 2 ≤ x6) (gr2 : x5 ≤ 99 ∨ 3 ≤ x6) (gr3 : x5 ≤ 999 ∨ 4 ≤ x6) (gr4 : x5 ≤ 9999 ∨ 5 ≤ x6) (gr5 : x5 ≤ 99999 ∨ 6 ≤ x6) {k : wz_K} {R : wz_R} {L : qz_L} (hL : qz_fg [true, true, true, false, true, true, true] L = [some (.inr (.inr (some (1, 0, 0)))), some (.inl (i3 x1)), some (.inl (i3 x2)), none, some (.inl (i3 x4)), some (.inl (i3 x5)), some (.inl (i3 x6))]) {T : qz_Z × Int × Int} (hP : zE T (zl_370_1 x1 x2 x4 ((6 - x6).toNat + 1) Z x5 x6)) (hk : ∀ (L9 : qz_L) (Z9 : qz_Z) (yx5 yx6 : Int), qz_fg [true, true, true, false, false, true, false] L9 = [some (.inr (.inr (some (1, 0, 0)))), some (.inl (i3 x1)), some (.inl (i3 x2)), none, none, some (.inl (i3 yx5)), none] → zM s Z9 → zC [1] Zs Z9 → zU [] Zs Z9 → (0 ≤ yx5 ∧ yx5 ≤ 999999) → (0 ≤ yx6 ∧ yx6 ≤ 6) → (yx5 = 0 ∨ 1 ≤ yx6) → (yx5 ≤ 9 ∨ 2 ≤ yx6) → (yx5 ≤ 99 ∨ 3 ≤ yx6) → (yx5 ≤ 999 ∨ 4 ≤ yx6) → (yx5 ≤ 9999 ∨ 5 ≤ yx6) → (yx5 ≤ 99999 ∨ 6 ≤ yx6) → zE T ((Z9, yx5, yx6)) → k 0 (L9, [], zm Z9 ν)) : wz_loop qb_370_1 65536 k R (L, [], zm Z ν) := by
  refine wz_lp sb_370_1 (fun m x => ∃ Z : qz_Z, ∃ x5 : Int, ∃ x6 : Int, qz_fg [true, true, true, false, true, true, true] x.1 = [some (.inr (.inr (some (1, 0, 0)))), some (.inl (i3 x1)), some (.inl (i3 x2)), none, some (.inl (i3 x4)), some (.inl (i3 x5)), some (.inl (i3 x6))] ∧ x.2 = ([], zm Z ν) ∧ zM s Z ∧ zC [1] Zs Z ∧ zU [] Zs Z ∧ m = (6 - x6).toNat ∧ (0 ≤ x5 ∧ x5 ≤ 999999) ∧ (0 ≤ x6 ∧ x6 ≤ 6) ∧ (x5 = 0 ∨ 1 ≤ x6) ∧ (x5 ≤ 9 ∨ 2 ≤ x6) ∧ (x5 ≤ 99 ∨ 3 ≤ x6) ∧ (x5 ≤ 999 ∨ 4 ≤ x6) ∧ (x5 ≤ 9999 ∨ 5 ≤ x6) ∧ (x5 ≤ 99999 ∨ 6 ≤ x6) ∧ zE T (zl_370_1 x1 x2 x4 (m + 1) Z x5 x6)) ?_ 65536 ((6 - x6).toNat) _ (by omega) ⟨Z, x5, x6, hL, rfl, hZ, hK, hU, rfl, gx5, gx6, gr0, gr1, gr2, gr3, gr4, gr5, hP⟩
  clear hP gr0 gr1 gr2 gr3 gr4 gr5 gx5 gx6 hZ hK hU hL
  clear x5 x6
  clear Z
  rintro m ⟨L, st, μ⟩ ⟨Z, x5, x6, hL, hx, hZ, hK, hU, hm, gx5, gx6, gr0, gr1, gr2, gr3, gr4, gr5, hP⟩
  cases hx
  refine fb_370_1 (i3 x1) (i3 x2) (i3 x4) (i3 x5) (i3 x6) _ _ _ _ hL ?_
  refine wz_br (i3Le (rfl : i3 x4 = i3 x4) (rfl : i3 x6 = i3 x6) (by omega) (by omega) (by omega) (by omega)) (fun h1 => ?_) (fun h1 => ?_)
  · replace hP := zE_p hP h1
    exact hk _ _ _ _ (zconso rfl (zconso (zvo (rfl : i3 x1 = i3 x1)) (zconso (zvo (rfl : i3 x2 = i3 x2)) (zconso rfl (zconso rfl (zconso (zvo (rfl : i3 x5 = i3 x5)) (zconso rfl rfl))))))) hZ hK hU (by omega) (by omega) (by omega) (by omega) (by omega) (by omega) (by omega) (by omega) hP
  · replace hP := zE_n hP h1
    have r2 := zM_k hZ 1 0 0 3 (lo := 0) (hi := 65535) (by decide) rfl
    obtain ⟨Z3, hZ3⟩ := zx (zu Z 1 0 0 3 (((25173 * (Z 1 0 0 3)) + 13849) % 65536))
    replace hP := zl_e hP hZ3
    have hZ3I := zM_u hZ hZ3 (lo := 0) (hi := 65535) (by decide) rfl (by omega) ⟨by decide, by decide⟩ (Or.inr (by decide)) rfl
    have hZ3U : zU [] Zs Z3 := zU_u hU hZ3 (Or.inl rfl)
    have hZ3K : zC [1] Zs Z3 := zC_u hK hZ3 (by decide)
    intro μ9 e9
    replace e9 := e9.trans (zm_wI (Z := Z) (ν := ν) hZ3 (show ((0 : Nat) : Int) = 0 from rfl) (show ((0 : Nat) : Int) = 0 from rfl) (show ((3 : Nat) : Int) = 3 from rfl) (i3R (i3A (i3M (show (25173 : Int32) = i3 25173 from rfl) (zm_rd (Z := Z) (ν := ν) (k := 1) (show ((0 : Nat) : Int) = 0 from rfl) (show ((0 : Nat) : Int) = 0 from rfl) (show ((3 : Nat) : Int) = 3 from rfl))) (show (13849 : Int32) = i3 13849 from rfl)) (show (65536 : Int32) = i3 65536 from rfl) (by omega) (by omega) (by omega) (by omega)))
    subst e9
    have r4 := zM_k hZ 2 0 0 1200 (lo := 0) (hi := 6) (by decide) rfl
    refine wz_i0 (i3N0 (i3A (zm_rd (Z := Z) (ν := ν) (k := 2) (show ((0 : Nat) : Int) = 0 from rfl) (show ((0 : Nat) : Int) = 0 from rfl) (show ((1200 : Nat) : Int) = 1200 from rfl)) (show (1 : Int32) = i3 1 from rfl)) (by omega) (by omega) (by omega)) ?_
    have r5 := zM_k hZ3I 2 0 0 1200 (lo := 0) (hi := 6) (by decide) rfl
    have q6 := zu_ne (k' := 2) (b' := 0) (i' := 0) (j' := 1200) hZ3 (fun q => absurd q.1 (by decide))
    have r7 := zM_k hZ3I 1 0 0 3 (lo := 0) (hi := 65535) (by decide) rfl
    have q8 := zu_at hZ3
    have r9 := z_mod ((Z3 1 0 0 3) / 16) (y := ((Z 2 0 0 1200) + 1)) (by omega)
    refine wz_br (i3Le (zm_rd (Z := Z3) (ν := ν) (k := 2) (show ((0 : Nat) : Int) = 0 from rfl) (show ((0 : Nat) : Int) = 0 from rfl) (show ((1200 : Nat) : Int) = 1200 from rfl)) (i3R (i3D (zm_rd (Z := Z3) (ν := ν) (k := 1) (show ((0 : Nat) : Int) = 0 from rfl) (show ((0 : Nat) : Int) = 0 from rfl) (show ((3 : Nat) : Int) = 3 from rfl)) (show (16 : Int32) = i3 16 from rfl) (by omega) (by omega) (by omega) (by omega)) (i3A (zm_rd (Z := Z) (ν := ν) (k := 2) (show ((0 : Nat) : Int) = 0 from rfl) (show ((0 : Nat) : Int) = 0 from rfl) (show ((1200 : Nat) : Int) = 1200 from rfl)) (show (1 : Int32) = i3 1 from rfl)) (by omega) (by omega) (by omega) (by omega)) (by omega) (by omega) (by omega) (by omega)) (fun h10 => ?_) (fun h10 => ?_)
    · replace hP := zE_p hP h10
      obtain ⟨m2, rfl⟩ : ∃ m2, m = m2 + 1 := ⟨m - 1, by omega⟩
      exact wz_k1 ⟨m2, by omega, Z3, ((10 * x5) + 7), (x6 + 1), (zconso rfl (zconso (zvo (rfl : i3 x1 = i3 x1)) (zconso (zvo (rfl : i3 x2 = i3 x2)) (zconso rfl (zconso (zvo (rfl : i3 x4 = i3 x4)) (zconso (zvo (i3A (i3M (show (10 : Int32) = i3 10 from rfl) (rfl : i3 x5 = i3 x5)) (show (7 : Int32) = i3 7 from rfl))) (zconso (zvo (i3A (rfl : i3 x6 = i3 x6) (show (1 : Int32) = i3 1 from rfl))) rfl))))))), rfl, hZ3I, hZ3K, hZ3U, by omega, by omega, by omega, by omega, by omega, by omega, by omega, by omega, by omega,  hP⟩
    · replace hP := zE_n hP h10
      obtain ⟨m2, rfl⟩ : ∃ m2, m = m2 + 1 := ⟨m - 1, by omega⟩
      exact wz_k1 ⟨m2, by omega, Z3, ((10 * x5) + ((((Z3 1 0 0 3) / 16) % ((Z 2 0 0 1200) + 1)) + 1)), (x6 + 1), (zconso rfl (zconso (zvo (rfl : i3 x1 = i3 x1)) (zconso (zvo (rfl : i3 x2 = i3 x2)) (zconso rfl (zconso (zvo (rfl : i3 x4 = i3 x4)) (zconso (zvo (i3A (i3M (show (10 : Int32) = i3 10 from rfl) (rfl : i3 x5 = i3 x5)) (i3A (i3R (i3D (zm_rd (Z := Z3) (ν := ν) (k := 1) (show ((0 : Nat) : Int) = 0 from rfl) (show ((0 : Nat) : Int) = 0 from rfl) (show ((3 : Nat) : Int) = 3 from rfl)) (show (16 : Int32) = i3 16 from rfl) (by omega) (by omega) (by omega) (by omega)) (i3A (zm_rd (Z := Z) (ν := ν) (k := 2) (show ((0 : Nat) : Int) = 0 from rfl) (show ((0 : Nat) : Int) = 0 from rfl) (show ((1200 : Nat) : Int) = 1200 from rfl)) (show (1 : Int32) = i3 1 from rfl)) (by omega) (by omega) (by omega) (by omega)) (show (1 : Int32) = i3 1 from rfl)))) (zconso (zvo (i3A (rfl : i3 x6 = i3 x6) (show (1 : Int32) = i3 1 from rfl))) rfl))))))), rfl, hZ3I, hZ3K, hZ3U, by omega, by omega, by omega, by omega, by omega, by omega, by omega, by omega, by omega,  hP⟩
/- yX12_iSeason -/
def zl_370_3 (x1 : Int) : Nat → qz_Z → Int → qz_Z × Int
  | 0, Z, x2 => (Z, x2)
  | m + 1, Z, x2 => (if x1 ≤ x2 then (Z, x2) else (zlet (zu Z 1 0 0 3 (((25173 * (Z 1 0 0 3)) + 13849) % 65536)) (fun Z4 => (zlet (zu Z4 1 0 0 3 (((25173 * (Z4 1 0 0 3)) + 13849) % 65536)) (fun Z7 => (zlet2 (zf_359 Z7 (((Z4 1 0 0 3) / 16) % 19) (((Z7 1 0 0 3) / 16) % 4)) (fun Z12 v13 => (zlet (zu Z12 1 0 0 3 (((25173 * (Z12 1 0 0 3)) + 13849) % 65536)) (fun Z17 => (zlet (zu Z17 2 0 0 (3522 + 10 * x2) (((Z17 1 0 0 3) / 16) % 128)) (fun Z20 => (zlet (zu Z20 1 0 0 3 (((25173 * (Z20 1 0 0 3)) + 13849) % 65536)) (fun Z23 => (zlet3 (zl_370_1 x1 x2 (((Z23 1 0 0 3) / 16) % 7) 7 Z23 0 0) (fun Z28 y26 y27 => (zlet (zu Z28 2 0 0 (3523 + 10 * x2) y26) (fun Z30 => zl_370_3 x1 m Z30 (x2 + 1))))))))))))))))))
theorem sl_370_3 {s : zSM} {Zs Z : qz_Z} {ν : qz_N} (hZ : zM s Z) (hM : s.2 + 0 ≤ 1000000000) (hK : zC [1, 2] Zs Z) {x1 : Int} (gx1 : 0 ≤ x1 ∧ x1 ≤ 2) {x2 : Int} (gx2 : 0 ≤ x2 ∧ x2 ≤ 2) (hU : zU [] Zs Z) (gr0 : Z 2 0 0 3500 = x2) {k : wz_K} {R : wz_R} {L : qz_L} (hL : qz_fg [true, true, true, false, false, false, false] L = [some (.inr (.inr (some (1, 0, 0)))), some (.inl (i3 x1)), some (.inl (i3 x2)), none, none, none, none]) {T : qz_Z × Int} (hP : zE T (zl_370_3 x1 ((2 - x2).toNat + 1) Z x2)) (hk : ∀ (L9 : qz_L) (Z9 : qz_Z) (yx2 : Int), qz_fg [false, false, false, false, false, false, false] L9 = [none, none, none, none, none, none, none] → zM s Z9 → zC [1, 2] Zs Z9 → zU [] Zs Z9 → (0 ≤ yx2 ∧ yx2 ≤ 2) → (Z9 2 0 0 3500 = yx2) → zE T ((Z9, yx2)) → k 0 (L9, [], zm Z9 ν)) : wz_loop qb_370_3 65536 k R (L, [], zm Z ν) := by
  refine wz_lp sb_370_3 (fun m x => ∃ Z : qz_Z, ∃ x2 : Int, qz_fg [true, true, true, false, false, false, false] x.1 = [some (.inr (.inr (some (1, 0, 0)))), some (.inl (i3 x1)), some (.inl (i3 x2)), none, none, none, none] ∧ x.2 = ([], zm Z ν) ∧ zM s Z ∧ zC [1, 2] Zs Z ∧ zU [] Zs Z ∧ m = (2 - x2).toNat ∧ (0 ≤ x2 ∧ x2 ≤ 2) ∧ (Z 2 0 0 3500 = x2) ∧ zE T (zl_370_3 x1 (m + 1) Z x2)) ?_ 65536 ((2 - x2).toNat) _ (by omega) ⟨Z, x2, hL, rfl, hZ, hK, hU, rfl, gx2, gr0, hP⟩
  clear hP gr0 gx2 hZ hK hU hL
  clear x2
  clear Z
  rintro m ⟨L, st, μ⟩ ⟨Z, x2, hL, hx, hZ, hK, hU, hm, gx2, gr0, hP⟩
  cases hx
  refine fb_370_3 (i3 x1) (i3 x2) _ _ _ _ hL ?_
  have r1 := zM_k hZ 2 0 0 3500 (lo := 0) (hi := 2) (by decide) rfl
  refine wz_br (i3Le (rfl : i3 x1 = i3 x1) (rfl : i3 x2 = i3 x2) (by omega) (by omega) (by omega) (by omega)) (fun h2 => ?_) (fun h2 => ?_)
  · replace hP := zE_p hP h2
    exact hk _ _ _ (zconso rfl (zconso rfl (zconso rfl (zconso rfl (zconso rfl (zconso rfl (zconso rfl rfl))))))) hZ hK hU (by omega) (by omega) hP
  · replace hP := zE_n hP h2
    have r3 := zM_k hZ 1 0 0 3 (lo := 0) (hi := 65535) (by decide) rfl
    obtain ⟨Z4, hZ4⟩ := zx (zu Z 1 0 0 3 (((25173 * (Z 1 0 0 3)) + 13849) % 65536))
    replace hP := zl_e hP hZ4
    have hZ4I := zM_u hZ hZ4 (lo := 0) (hi := 65535) (by decide) rfl (by omega) ⟨by decide, by decide⟩ (Or.inr (by decide)) rfl
    have hZ4U : zU [] Zs Z4 := zU_u hU hZ4 (Or.inl rfl)
    have hZ4K : zC [1, 2] Zs Z4 := zC_u hK hZ4 (by decide)
    intro μ9 e9
    replace e9 := e9.trans (zm_wI (Z := Z) (ν := ν) hZ4 (show ((0 : Nat) : Int) = 0 from rfl) (show ((0 : Nat) : Int) = 0 from rfl) (show ((3 : Nat) : Int) = 3 from rfl) (i3R (i3A (i3M (show (25173 : Int32) = i3 25173 from rfl) (zm_rd (Z := Z) (ν := ν) (k := 1) (show ((0 : Nat) : Int) = 0 from rfl) (show ((0 : Nat) : Int) = 0 from rfl) (show ((3 : Nat) : Int) = 3 from rfl))) (show (13849 : Int32) = i3 13849 from rfl)) (show (65536 : Int32) = i3 65536 from rfl) (by omega) (by omega) (by omega) (by omega)))
    subst e9
    have r5 := zM_k hZ4I 1 0 0 3 (lo := 0) (hi := 65535) (by decide) rfl
    have q6 := zu_at hZ4
    obtain ⟨Z7, hZ7⟩ := zx (zu Z4 1 0 0 3 (((25173 * (Z4 1 0 0 3)) + 13849) % 65536))
    replace hP := zl_e hP hZ7
    have hZ7I := zM_u hZ4I hZ7 (lo := 0) (hi := 65535) (by decide) rfl (by omega) ⟨by decide, by decide⟩ (Or.inr (by decide)) rfl
    have hZ7U : zU [] Zs Z7 := zU_u hZ4U hZ7 (Or.inl rfl)
    have hZ7K : zC [1, 2] Zs Z7 := zC_u hZ4K hZ7 (by decide)
    intro μ9 e9
    replace e9 := e9.trans (zm_wI (Z := Z4) (ν := ν) hZ7 (show ((0 : Nat) : Int) = 0 from rfl) (show ((0 : Nat) : Int) = 0 from rfl) (show ((3 : Nat) : Int) = 3 from rfl) (i3R (i3A (i3M (show (25173 : Int32) = i3 25173 from rfl) (zm_rd (Z := Z4) (ν := ν) (k := 1) (show ((0 : Nat) : Int) = 0 from rfl) (show ((0 : Nat) : Int) = 0 from rfl) (show ((3 : Nat) : Int) = 3 from rfl))) (show (13849 : Int32) = i3 13849 from rfl)) (show (65536 : Int32) = i3 65536 from rfl) (by omega) (by omega) (by omega) (by omega)))
    subst e9
    have r8 := zM_k hZ7I 1 0 0 3 (lo := 0) (hi := 65535) (by decide) rfl
    have q9 := zu_at hZ7
    have r10 := zM_k hZ7I 2 0 0 3500 (lo := 0) (hi := 2) (by decide) rfl
    have q11 := (zu_ne (k' := 2) (b' := 0) (i' := 0) (j' := 3500) hZ7 (fun q => absurd q.1 (by decide))).trans (zu_ne (k' := 2) (b' := 0) (i' := 0) (j' := 3500) hZ4 (fun q => absurd q.1 (by decide)))
    obtain ⟨Z12, v13, hv13, c9, hZ12I, kZ12, jZ12, lv13, uv13, wv130⟩ := sp_359 (ν := ν) hZ7I (a1 := (((Z4 1 0 0 3) / 16) % 19)) (by omega) (a2 := (((Z7 1 0 0 3) / 16) % 4)) (by omega) (by omega) (zbh (c := 0) (k := 0) hM (Nat.le_of_ble_eq_true rfl))
    have hZ12U : zU [] Zs Z12 := zU_t hZ7U jZ12 zU_b0
    have hZ12K : zC [1, 2] Zs Z12 := zC_t hZ7K kZ12 (by decide)
    replace hP := zl_e2 hP hv13
    refine wz_cI_of (zas (zcons rfl (zcons (zvi (i3R (i3D (zm_rd (Z := Z4) (ν := ν) (k := 1) (show ((0 : Nat) : Int) = 0 from rfl) (show ((0 : Nat) : Int) = 0 from rfl) (show ((3 : Nat) : Int) = 3 from rfl)) (show (16 : Int32) = i3 16 from rfl) (by omega) (by omega) (by omega) (by omega)) (show (19 : Int32) = i3 19 from rfl) (by omega) (by omega) (by omega) (by omega))) (zcons (zvi (i3R (i3D (zm_rd (Z := Z7) (ν := ν) (k := 1) (show ((0 : Nat) : Int) = 0 from rfl) (show ((0 : Nat) : Int) = 0 from rfl) (show ((3 : Nat) : Int) = 3 from rfl)) (show (16 : Int32) = i3 16 from rfl) (by omega) (by omega) (by omega) (by omega)) (show (4 : Int32) = i3 4 from rfl) (by omega) (by omega) (by omega) (by omega))) rfl))) c9) ?_
    clear c9 hv13
    have r14 := zM_k hZ12I 2 0 0 3500 (lo := 0) (hi := 2) (by decide) rfl
    have r15 := zM_k hZ12I 1 0 0 3 (lo := 0) (hi := 65535) (by decide) rfl
    have q16 := kZ12 1 0 0 3 (by decide)
    obtain ⟨Z17, hZ17⟩ := zx (zu Z12 1 0 0 3 (((25173 * (Z12 1 0 0 3)) + 13849) % 65536))
    replace hP := zl_e hP hZ17
    have hZ17I := zM_u hZ12I hZ17 (lo := 0) (hi := 65535) (by decide) rfl (by omega) ⟨by decide, by decide⟩ (Or.inr (by decide)) rfl
    have hZ17U : zU [] Zs Z17 := zU_u hZ12U hZ17 (Or.inl rfl)
    have hZ17K : zC [1, 2] Zs Z17 := zC_u hZ12K hZ17 (by decide)
    intro μ9 e9
    replace e9 := e9.trans (zm_wI (Z := Z12) (ν := ν) hZ17 (show ((0 : Nat) : Int) = 0 from rfl) (show ((0 : Nat) : Int) = 0 from rfl) (show ((3 : Nat) : Int) = 3 from rfl) (i3R (i3A (i3M (show (25173 : Int32) = i3 25173 from rfl) (zm_rd (Z := Z12) (ν := ν) (k := 1) (show ((0 : Nat) : Int) = 0 from rfl) (show ((0 : Nat) : Int) = 0 from rfl) (show ((3 : Nat) : Int) = 3 from rfl))) (show (13849 : Int32) = i3 13849 from rfl)) (show (65536 : Int32) = i3 65536 from rfl) (by omega) (by omega) (by omega) (by omega)))
    subst e9
    refine wz_i0 (i3O (n := 4400) (i3A (i3A (show (3520 : Int32) = i3 3520 from rfl) (i3M (show (10 : Int32) = i3 10 from rfl) (rfl : i3 x2 = i3 x2))) (show (2 : Int32) = i3 2 from rfl)) (by omega) (by omega) (by omega)) ?_
    have r18 := zM_k hZ17I 1 0 0 3 (lo := 0) (hi := 65535) (by decide) rfl
    have q19 := zu_at hZ17
    obtain ⟨Z20, hZ20⟩ := zx (zu Z17 2 0 0 (3522 + 10 * x2) (((Z17 1 0 0 3) / 16) % 128))
    replace hP := zl_e hP hZ20
    have hZ20I := zM_u2 hZ17I hZ20 (lo := 0) (hi := 127) (zs_3520_2 (x := x2) (by omega) (by omega) (by omega)) (by omega) ⟨by decide, by decide⟩ (by simp only [zsp]; omega)
    have hZ20U : zU [] Zs Z20 := zU_u hZ17U hZ20 (Or.inl rfl)
    have hZ20K : zC [1, 2] Zs Z20 := zC_u hZ17K hZ20 (zcl_2w (by omega) rfl)
    intro μ9 e9
    replace e9 := e9.trans (zm_wI (Z := Z17) (ν := ν) hZ20 (show ((0 : Nat) : Int) = 0 from rfl) (show ((0 : Nat) : Int) = 0 from rfl) (i3I (y := (3522 + 10 * x2)) (i3A (i3A (show (3520 : Int32) = i3 3520 from rfl) (i3M (show (10 : Int32) = i3 10 from rfl) (rfl : i3 x2 = i3 x2))) (show (2 : Int32) = i3 2 from rfl)) (by omega) (by omega) (by omega)) (i3R (i3D (zm_rd (Z := Z17) (ν := ν) (k := 1) (show ((0 : Nat) : Int) = 0 from rfl) (show ((0 : Nat) : Int) = 0 from rfl) (show ((3 : Nat) : Int) = 3 from rfl)) (show (16 : Int32) = i3 16 from rfl) (by omega) (by omega) (by omega) (by omega)) (show (128 : Int32) = i3 128 from rfl) (by omega) (by omega) (by omega) (by omega)))
    subst e9
    have r21 := zM_k hZ20I 1 0 0 3 (lo := 0) (hi := 65535) (by decide) rfl
    have q22 := zu_ne (k' := 1) (b' := 0) (i' := 0) (j' := 3) hZ20 (fun q => absurd q.1 (by decide))
    obtain ⟨Z23, hZ23⟩ := zx (zu Z20 1 0 0 3 (((25173 * (Z20 1 0 0 3)) + 13849) % 65536))
    replace hP := zl_e hP hZ23
    have hZ23I := zM_u hZ20I hZ23 (lo := 0) (hi := 65535) (by decide) rfl (by omega) ⟨by decide, by decide⟩ (Or.inr (by decide)) rfl
    have hZ23U : zU [] Zs Z23 := zU_u hZ20U hZ23 (Or.inl rfl)
    have hZ23K : zC [1, 2] Zs Z23 := zC_u hZ20K hZ23 (by decide)
    intro μ9 e9
    replace e9 := e9.trans (zm_wI (Z := Z20) (ν := ν) hZ23 (show ((0 : Nat) : Int) = 0 from rfl) (show ((0 : Nat) : Int) = 0 from rfl) (show ((3 : Nat) : Int) = 3 from rfl) (i3R (i3A (i3M (show (25173 : Int32) = i3 25173 from rfl) (zm_rd (Z := Z20) (ν := ν) (k := 1) (show ((0 : Nat) : Int) = 0 from rfl) (show ((0 : Nat) : Int) = 0 from rfl) (show ((3 : Nat) : Int) = 3 from rfl))) (show (13849 : Int32) = i3 13849 from rfl)) (show (65536 : Int32) = i3 65536 from rfl) (by omega) (by omega) (by omega) (by omega)))
    subst e9
    have r24 := zM_k hZ23I 1 0 0 3 (lo := 0) (hi := 65535) (by decide) rfl
    have q25 := zu_at hZ23
    refine sl_370_1 (ν := ν) hZ23I (zbh (c := 0) (k := 0) hM (Nat.le_of_ble_eq_true rfl)) zC_r (x1 := x1) (by omega) (x2 := x2) (by omega) (x4 := (((Z23 1 0 0 3) / 16) % 7)) (by omega) (x5 := 0) (by omega) (x6 := 0) (by omega) zU_r (by omega) (by omega) (by omega) (by omega) (by omega) (by omega) (zconso rfl (zconso (zvo (rfl : i3 x1 = i3 x1)) (zconso (zvo (rfl : i3 x2 = i3 x2)) (zconso rfl (zconso (zvo (i3R (i3D (zm_rd (Z := Z23) (ν := ν) (k := 1) (show ((0 : Nat) : Int) = 0 from rfl) (show ((0 : Nat) : Int) = 0 from rfl) (show ((3 : Nat) : Int) = 3 from rfl)) (show (16 : Int32) = i3 16 from rfl) (by omega) (by omega) (by omega) (by omega)) (show (7 : Int32) = i3 7 from rfl) (by omega) (by omega) (by omega) (by omega))) (zconso (zvo (show (0 : Int32) = i3 0 from rfl)) (zconso (zvo (show (0 : Int32) = i3 0 from rfl)) rfl))))))) rfl ?_
    intro L29 Z28 y26 y27 hL29 hZ28I kZ28 jZ28 gy26 gy27 gL29_0 gL29_1 gL29_2 gL29_3 gL29_4 gL29_5 q9
    replace hP := zl_e3 hP (Eq.symm q9)
    clear q9
    have hZ28U : zU [] Zs Z28 := zU_t hZ23U jZ28 zU_b0
    have hZ28K : zC [1, 2] Zs Z28 := zC_t hZ23K kZ28 (by decide)
    refine fc_370_2 (i3 x1) (i3 x2) (i3 y26) _ _ _ _ hL29 ?_
    refine wz_i0 (i3O (n := 4400) (i3A (i3A (show (3520 : Int32) = i3 3520 from rfl) (i3M (show (10 : Int32) = i3 10 from rfl) (rfl : i3 x2 = i3 x2))) (show (3 : Int32) = i3 3 from rfl)) (by omega) (by omega) (by omega)) ?_
    obtain ⟨Z30, hZ30⟩ := zx (zu Z28 2 0 0 (3523 + 10 * x2) y26)
    replace hP := zl_e hP hZ30
    have hZ30I := zM_u2 hZ28I hZ30 (lo := 0) (hi := 2147483647) (zs_3520_3 (x := x2) (by omega) (by omega) (by omega)) (by omega) ⟨by decide, by decide⟩ (by simp only [zsp]; omega)
    have hZ30U : zU [] Zs Z30 := zU_u hZ28U hZ30 (Or.inl rfl)
    have hZ30K : zC [1, 2] Zs Z30 := zC_u hZ28K hZ30 (zcl_2w (by omega) rfl)
    intro μ9 e9
    replace e9 := e9.trans (zm_wI (Z := Z28) (ν := ν) hZ30 (show ((0 : Nat) : Int) = 0 from rfl) (show ((0 : Nat) : Int) = 0 from rfl) (i3I (y := (3523 + 10 * x2)) (i3A (i3A (show (3520 : Int32) = i3 3520 from rfl) (i3M (show (10 : Int32) = i3 10 from rfl) (rfl : i3 x2 = i3 x2))) (show (3 : Int32) = i3 3 from rfl)) (by omega) (by omega) (by omega)) (rfl : i3 y26 = i3 y26))
    subst e9
    have r31 := zM_k hZ30I 2 0 0 3500 (lo := 0) (hi := 2) (by decide) rfl
    have q32 := (zu_ne (k' := 2) (b' := 0) (i' := 0) (j' := 3500) hZ30 (fun q => absurd q.2.2.2 (by omega))).trans ((kZ28 2 0 0 3500 (by decide)).trans ((zu_ne (k' := 2) (b' := 0) (i' := 0) (j' := 3500) hZ23 (fun q => absurd q.1 (by decide))).trans ((zu_ne (k' := 2) (b' := 0) (i' := 0) (j' := 3500) hZ20 (fun q => absurd q.2.2.2 (by omega))).trans (zu_ne (k' := 2) (b' := 0) (i' := 0) (j' := 3500) hZ17 (fun q => absurd q.1 (by decide))))))
    obtain ⟨m2, rfl⟩ : ∃ m2, m = m2 + 1 := ⟨m - 1, by omega⟩
    refine wz_kbs (n := 1) (?_)
    exact wz_k1 ⟨m2, by omega, Z30, (x2 + 1), (zconso rfl (zconso (zvo (rfl : i3 x1 = i3 x1)) (zconso (zvo (i3A (rfl : i3 x2 = i3 x2) (show (1 : Int32) = i3 1 from rfl))) (zconso rfl (zconso rfl (zconso rfl (zconso rfl rfl))))))), rfl, hZ30I, hZ30K, hZ30U, by omega, by omega, by omega,  hP⟩
/- yX12_iSeason -/
def zf_370 (Z : qz_Z) : qz_Z := (zlet (zu Z 1 0 0 3 (((25173 * (Z 1 0 0 3)) + 13849) % 65536)) (fun Z3 => (zlet2 (zl_370_3 (((Z3 1 0 0 3) / 16) % 3) 3 Z3 0) (fun Z7 y6 => Z7))))
theorem sp_370 {s : zSM} {Z : qz_Z} {ν : qz_N} (hZ : zM s Z) (gx0 : Z 2 0 0 3500 = 0) (hM : s.2 + 0 ≤ 1000000000) : ∃ P : qz_Z, P = zf_370 Z ∧ (qf_370 [.inr (.inr (some (1, 0, 0)))] (zm Z ν) = some (zm P ν, .inl none) ∧ zM s P ∧ zC [1, 2] Z P ∧ zU [] Z P) := by
  obtain ⟨P, hP⟩ := zx (zf_370 Z)
  refine zc_V (Q := fun P => zM s P ∧ zC [1, 2] Z P ∧ zU [] Z P) hP (fw_370  _ _ ?_)
  replace hP : zE P (zf_370 Z) := hP
  unfold zf_370 at hP
  have r1 := zM_k hZ 2 0 0 3500 (lo := 0) (hi := 2) (by decide) rfl
  have r2 := zM_k hZ 1 0 0 3 (lo := 0) (hi := 65535) (by decide) rfl
  obtain ⟨Z3, hZ3⟩ := zx (zu Z 1 0 0 3 (((25173 * (Z 1 0 0 3)) + 13849) % 65536))
  replace hP := zl_e hP hZ3
  have hZ3I := zM_u hZ hZ3 (lo := 0) (hi := 65535) (by decide) rfl (by omega) ⟨by decide, by decide⟩ (Or.inr (by decide)) rfl
  have hZ3U : zU [] Z Z3 := zU_u zU_r hZ3 (Or.inl rfl)
  have hZ3K : zC [1, 2] Z Z3 := zC_u zC_r hZ3 (by decide)
  intro μ9 e9
  replace e9 := e9.trans (zm_wI (Z := Z) (ν := ν) hZ3 (show ((0 : Nat) : Int) = 0 from rfl) (show ((0 : Nat) : Int) = 0 from rfl) (show ((3 : Nat) : Int) = 3 from rfl) (i3R (i3A (i3M (show (25173 : Int32) = i3 25173 from rfl) (zm_rd (Z := Z) (ν := ν) (k := 1) (show ((0 : Nat) : Int) = 0 from rfl) (show ((0 : Nat) : Int) = 0 from rfl) (show ((3 : Nat) : Int) = 3 from rfl))) (show (13849 : Int32) = i3 13849 from rfl)) (show (65536 : Int32) = i3 65536 from rfl) (by omega) (by omega) (by omega) (by omega)))
  subst e9
  have r4 := zM_k hZ3I 1 0 0 3 (lo := 0) (hi := 65535) (by decide) rfl
  have q5 := zu_at hZ3
  have r8 := zM_k hZ3I 2 0 0 3500 (lo := 0) (hi := 2) (by decide) rfl
  have q9 := zu_ne (k' := 2) (b' := 0) (i' := 0) (j' := 3500) hZ3 (fun q => absurd q.1 (by decide))
  refine sl_370_3 (ν := ν) hZ3I (zbh (c := 0) (k := 0) hM (Nat.le_of_ble_eq_true rfl)) zC_r (x1 := (((Z3 1 0 0 3) / 16) % 3)) (by omega) (x2 := 0) (by omega) zU_r (by omega) (zconso rfl (zconso (zvo (i3R (i3D (zm_rd (Z := Z3) (ν := ν) (k := 1) (show ((0 : Nat) : Int) = 0 from rfl) (show ((0 : Nat) : Int) = 0 from rfl) (show ((3 : Nat) : Int) = 3 from rfl)) (show (16 : Int32) = i3 16 from rfl) (by omega) (by omega) (by omega) (by omega)) (show (3 : Int32) = i3 3 from rfl) (by omega) (by omega) (by omega) (by omega))) (zconso (zvo (show (0 : Int32) = i3 0 from rfl)) (zconso rfl (zconso rfl (zconso rfl (zconso rfl rfl))))))) rfl ?_
  intro L10 Z7 y6 hL10 hZ7I kZ7 jZ7 gy6 gL10_0 q9
  replace hP := zl_e2 hP (Eq.symm q9)
  clear q9
  have hZ7U : zU [] Z Z7 := zU_t hZ3U jZ7 zU_b0
  have hZ7K : zC [1, 2] Z Z7 := zC_t hZ3K kZ7 (by decide)
  have r11 := zM_k hZ7I 2 0 0 3500 (lo := 0) (hi := 2) (by decide) rfl
  refine fc_370_4  _ _ _ _ hL10 ?_
  exact zlV hP ⟨hZ7I, hZ7K, hZ7U⟩
/- yX12_dIsWell -/
def zf_325 (Z : qz_Z) (a1 : Int) : Int := (zlet (zf_329 Z a1) (fun v1 => (if (Z 2 0 0 (203 + 20 * a1)) ≠ (w3 ((w3 ((Z 2 0 0 (204 + 20 * a1)) + (Z 2 0 0 (206 + 20 * a1)))) + v1)) then 0 else (if (Z 2 0 0 (204 + 20 * a1)) < (Z 2 0 0 (205 + 20 * a1)) then 0 else (if (Z 2 0 0 (203 + 20 * a1)) < 1 then 0 else (if 1 < (Z 2 0 0 (210 + 20 * a1)) then (if (Z 2 0 0 (204 + 20 * a1)) ≠ 0 then 0 else 1) else 1))))))
theorem sp_325 {s : zSM} {Z : qz_Z} {ν : qz_N} (hZ : zM s Z) {a1 : Int} (ga1 : 0 ≤ a1 ∧ a1 ≤ 47) (hM : s.2 + 0 ≤ 1000000000) : ∃ P : Int, P = zf_325 Z a1 ∧ (qf_325 [.inr (.inr (some (1, 0, 0))), .inl (i3 a1)] (zm Z ν) = some (zm Z ν, .inl (some (.inl (i3 P)))) ∧ 0 ≤ P ∧ P ≤ 1) := by
  obtain ⟨P, hP⟩ := zx (zf_325 Z a1)
  refine zc_R (Q := fun P => 0 ≤ P ∧ P ≤ 1) hP (fw_325 (i3 a1) _ _ ?_)
  replace hP : zE P (zf_325 Z a1) := hP
  unfold zf_325 at hP
  refine wz_i0 (i3O (n := 4400) (i3A (i3A (show (200 : Int32) = i3 200 from rfl) (i3M (show (20 : Int32) = i3 20 from rfl) (rfl : i3 a1 = i3 a1))) (show (3 : Int32) = i3 3 from rfl)) (by omega) (by omega) (by omega)) ?_
  refine wz_i0 (i3O (n := 4400) (i3A (i3A (show (200 : Int32) = i3 200 from rfl) (i3M (show (20 : Int32) = i3 20 from rfl) (rfl : i3 a1 = i3 a1))) (show (4 : Int32) = i3 4 from rfl)) (by omega) (by omega) (by omega)) ?_
  refine wz_i0 (i3O (n := 4400) (i3A (i3A (show (200 : Int32) = i3 200 from rfl) (i3M (show (20 : Int32) = i3 20 from rfl) (rfl : i3 a1 = i3 a1))) (show (6 : Int32) = i3 6 from rfl)) (by omega) (by omega) (by omega)) ?_
  obtain ⟨v1, hv1, c9, lv1, uv1⟩ := sp_329 (ν := ν) hZ (a1 := a1) (by omega) (zbh (c := 0) (k := 0) hM (Nat.le_of_ble_eq_true rfl))
  replace hP := zl_e hP hv1
  refine wz_cI_of (zas (zcons rfl (zcons (zvi (rfl : i3 a1 = i3 a1)) rfl)) c9) ?_
  clear c9
  have r2 := zM_k hZ 2 0 0 (203 + 20 * a1) (lo := 0) (hi := 40) (by decide) (zs_200_3 (x := a1) (by omega) (by omega) (by omega))
  have r3 := zM_k hZ 2 0 0 (204 + 20 * a1) (lo := 0) (hi := 40) (by decide) (zs_200_4 (x := a1) (by omega) (by omega) (by omega))
  have r4 := zM_f hZ 2 0 0 (206 + 20 * a1)
  have r5 := w3_r ((Z 2 0 0 (204 + 20 * a1)) + (Z 2 0 0 (206 + 20 * a1)))
  have r6 := w3_r ((w3 ((Z 2 0 0 (204 + 20 * a1)) + (Z 2 0 0 (206 + 20 * a1)))) + v1)
  refine wz_br (i3NE (zm_rd (Z := Z) (ν := ν) (k := 2) (show ((0 : Nat) : Int) = 0 from rfl) (show ((0 : Nat) : Int) = 0 from rfl) (i3I (y := (203 + 20 * a1)) (i3A (i3A (show (200 : Int32) = i3 200 from rfl) (i3M (show (20 : Int32) = i3 20 from rfl) (rfl : i3 a1 = i3 a1))) (show (3 : Int32) = i3 3 from rfl)) (by omega) (by omega) (by omega))) (i3W (i3A (i3W (i3A (zm_rd (Z := Z) (ν := ν) (k := 2) (show ((0 : Nat) : Int) = 0 from rfl) (show ((0 : Nat) : Int) = 0 from rfl) (i3I (y := (204 + 20 * a1)) (i3A (i3A (show (200 : Int32) = i3 200 from rfl) (i3M (show (20 : Int32) = i3 20 from rfl) (rfl : i3 a1 = i3 a1))) (show (4 : Int32) = i3 4 from rfl)) (by omega) (by omega) (by omega))) (zm_rd (Z := Z) (ν := ν) (k := 2) (show ((0 : Nat) : Int) = 0 from rfl) (show ((0 : Nat) : Int) = 0 from rfl) (i3I (y := (206 + 20 * a1)) (i3A (i3A (show (200 : Int32) = i3 200 from rfl) (i3M (show (20 : Int32) = i3 20 from rfl) (rfl : i3 a1 = i3 a1))) (show (6 : Int32) = i3 6 from rfl)) (by omega) (by omega) (by omega))))) (rfl : i3 v1 = i3 v1))) (by omega) (by omega) (by omega) (by omega)) (fun h7 => ?_) (fun h7 => ?_)
  · replace hP := zE_p hP h7
    exact zlR hP (show (0 : Int32) = i3 0 from rfl) ⟨by omega, by omega⟩
  · replace hP := zE_n hP h7
    refine wz_i0 (i3O (n := 4400) (i3A (i3A (show (200 : Int32) = i3 200 from rfl) (i3M (show (20 : Int32) = i3 20 from rfl) (rfl : i3 a1 = i3 a1))) (show (5 : Int32) = i3 5 from rfl)) (by omega) (by omega) (by omega)) ?_
    refine wz_i0 (i3O (n := 4400) (i3A (i3A (show (200 : Int32) = i3 200 from rfl) (i3M (show (20 : Int32) = i3 20 from rfl) (rfl : i3 a1 = i3 a1))) (show (4 : Int32) = i3 4 from rfl)) (by omega) (by omega) (by omega)) ?_
    have r8 := zM_k hZ 2 0 0 (205 + 20 * a1) (lo := 0) (hi := 40) (by decide) (zs_200_5 (x := a1) (by omega) (by omega) (by omega))
    refine wz_i0 (Eq.trans (i3L (zm_rd (Z := Z) (ν := ν) (k := 2) (show ((0 : Nat) : Int) = 0 from rfl) (show ((0 : Nat) : Int) = 0 from rfl) (i3I (y := (205 + 20 * a1)) (i3A (i3A (show (200 : Int32) = i3 200 from rfl) (i3M (show (20 : Int32) = i3 20 from rfl) (rfl : i3 a1 = i3 a1))) (show (5 : Int32) = i3 5 from rfl)) (by omega) (by omega) (by omega))) (show (0 : Int32) = i3 0 from rfl) (by omega) (by omega) (by omega) (by omega)) (decide_eq_false (by omega))) ?_
    refine wz_br (i3L (zm_rd (Z := Z) (ν := ν) (k := 2) (show ((0 : Nat) : Int) = 0 from rfl) (show ((0 : Nat) : Int) = 0 from rfl) (i3I (y := (204 + 20 * a1)) (i3A (i3A (show (200 : Int32) = i3 200 from rfl) (i3M (show (20 : Int32) = i3 20 from rfl) (rfl : i3 a1 = i3 a1))) (show (4 : Int32) = i3 4 from rfl)) (by omega) (by omega) (by omega))) (zm_rd (Z := Z) (ν := ν) (k := 2) (show ((0 : Nat) : Int) = 0 from rfl) (show ((0 : Nat) : Int) = 0 from rfl) (i3I (y := (205 + 20 * a1)) (i3A (i3A (show (200 : Int32) = i3 200 from rfl) (i3M (show (20 : Int32) = i3 20 from rfl) (rfl : i3 a1 = i3 a1))) (show (5 : Int32) = i3 5 from rfl)) (by omega) (by omega) (by omega))) (by omega) (by omega) (by omega) (by omega)) (fun h9 => ?_) (fun h9 => ?_)
    · replace hP := zE_p hP h9
      exact zlR hP (show (0 : Int32) = i3 0 from rfl) ⟨by omega, by omega⟩
    · replace hP := zE_n hP h9
      refine wz_i0 (i3O (n := 4400) (i3A (i3A (show (200 : Int32) = i3 200 from rfl) (i3M (show (20 : Int32) = i3 20 from rfl) (rfl : i3 a1 = i3 a1))) (show (3 : Int32) = i3 3 from rfl)) (by omega) (by omega) (by omega)) ?_
      refine wz_br (i3L (zm_rd (Z := Z) (ν := ν) (k := 2) (show ((0 : Nat) : Int) = 0 from rfl) (show ((0 : Nat) : Int) = 0 from rfl) (i3I (y := (203 + 20 * a1)) (i3A (i3A (show (200 : Int32) = i3 200 from rfl) (i3M (show (20 : Int32) = i3 20 from rfl) (rfl : i3 a1 = i3 a1))) (show (3 : Int32) = i3 3 from rfl)) (by omega) (by omega) (by omega))) (show (1 : Int32) = i3 1 from rfl) (by omega) (by omega) (by omega) (by omega)) (fun h10 => ?_) (fun h10 => ?_)
      · replace hP := zE_p hP h10
        exact zlR hP (show (0 : Int32) = i3 0 from rfl) ⟨by omega, by omega⟩
      · replace hP := zE_n hP h10
        refine wz_i0 (Eq.trans (i3L (show (40 : Int32) = i3 40 from rfl) (zm_rd (Z := Z) (ν := ν) (k := 2) (show ((0 : Nat) : Int) = 0 from rfl) (show ((0 : Nat) : Int) = 0 from rfl) (i3I (y := (203 + 20 * a1)) (i3A (i3A (show (200 : Int32) = i3 200 from rfl) (i3M (show (20 : Int32) = i3 20 from rfl) (rfl : i3 a1 = i3 a1))) (show (3 : Int32) = i3 3 from rfl)) (by omega) (by omega) (by omega))) (by omega) (by omega) (by omega) (by omega)) (decide_eq_false (by omega))) ?_
        refine wz_i0 (i3O (n := 4400) (i3A (i3A (show (200 : Int32) = i3 200 from rfl) (i3M (show (20 : Int32) = i3 20 from rfl) (rfl : i3 a1 = i3 a1))) (show (7 : Int32) = i3 7 from rfl)) (by omega) (by omega) (by omega)) ?_
        have r11 := zM_k hZ 2 0 0 (207 + 20 * a1) (lo := 0) (hi := 2000) (by decide) (zs_200_7 (x := a1) (by omega) (by omega) (by omega))
        refine wz_i0 (Eq.trans (i3L (zm_rd (Z := Z) (ν := ν) (k := 2) (show ((0 : Nat) : Int) = 0 from rfl) (show ((0 : Nat) : Int) = 0 from rfl) (i3I (y := (207 + 20 * a1)) (i3A (i3A (show (200 : Int32) = i3 200 from rfl) (i3M (show (20 : Int32) = i3 20 from rfl) (rfl : i3 a1 = i3 a1))) (show (7 : Int32) = i3 7 from rfl)) (by omega) (by omega) (by omega))) (show (0 : Int32) = i3 0 from rfl) (by omega) (by omega) (by omega) (by omega)) (decide_eq_false (by omega))) ?_
        refine wz_i0 (Eq.trans (i3L (show (2000 : Int32) = i3 2000 from rfl) (zm_rd (Z := Z) (ν := ν) (k := 2) (show ((0 : Nat) : Int) = 0 from rfl) (show ((0 : Nat) : Int) = 0 from rfl) (i3I (y := (207 + 20 * a1)) (i3A (i3A (show (200 : Int32) = i3 200 from rfl) (i3M (show (20 : Int32) = i3 20 from rfl) (rfl : i3 a1 = i3 a1))) (show (7 : Int32) = i3 7 from rfl)) (by omega) (by omega) (by omega))) (by omega) (by omega) (by omega) (by omega)) (decide_eq_false (by omega))) ?_
        refine wz_i0 (i3O (n := 4400) (i3A (i3A (show (200 : Int32) = i3 200 from rfl) (i3M (show (20 : Int32) = i3 20 from rfl) (rfl : i3 a1 = i3 a1))) (show (8 : Int32) = i3 8 from rfl)) (by omega) (by omega) (by omega)) ?_
        have r12 := zM_k hZ 2 0 0 (208 + 20 * a1) (lo := 0) (hi := 999) (by decide) (zs_200_8 (x := a1) (by omega) (by omega) (by omega))
        refine wz_i0 (Eq.trans (i3L (zm_rd (Z := Z) (ν := ν) (k := 2) (show ((0 : Nat) : Int) = 0 from rfl) (show ((0 : Nat) : Int) = 0 from rfl) (i3I (y := (208 + 20 * a1)) (i3A (i3A (show (200 : Int32) = i3 200 from rfl) (i3M (show (20 : Int32) = i3 20 from rfl) (rfl : i3 a1 = i3 a1))) (show (8 : Int32) = i3 8 from rfl)) (by omega) (by omega) (by omega))) (show (0 : Int32) = i3 0 from rfl) (by omega) (by omega) (by omega) (by omega)) (decide_eq_false (by omega))) ?_
        refine wz_i0 (Eq.trans (i3L (show (999 : Int32) = i3 999 from rfl) (zm_rd (Z := Z) (ν := ν) (k := 2) (show ((0 : Nat) : Int) = 0 from rfl) (show ((0 : Nat) : Int) = 0 from rfl) (i3I (y := (208 + 20 * a1)) (i3A (i3A (show (200 : Int32) = i3 200 from rfl) (i3M (show (20 : Int32) = i3 20 from rfl) (rfl : i3 a1 = i3 a1))) (show (8 : Int32) = i3 8 from rfl)) (by omega) (by omega) (by omega))) (by omega) (by omega) (by omega) (by omega)) (decide_eq_false (by omega))) ?_
        refine wz_i0 (i3O (n := 4400) (i3A (i3A (show (200 : Int32) = i3 200 from rfl) (i3M (show (20 : Int32) = i3 20 from rfl) (rfl : i3 a1 = i3 a1))) (show (9 : Int32) = i3 9 from rfl)) (by omega) (by omega) (by omega)) ?_
        have r13 := zM_k hZ 2 0 0 (209 + 20 * a1) (lo := -1) (hi := 3) (by decide) (zs_200_9 (x := a1) (by omega) (by omega) (by omega))
        refine wz_i0 (Eq.trans (i3L (zm_rd (Z := Z) (ν := ν) (k := 2) (show ((0 : Nat) : Int) = 0 from rfl) (show ((0 : Nat) : Int) = 0 from rfl) (i3I (y := (209 + 20 * a1)) (i3A (i3A (show (200 : Int32) = i3 200 from rfl) (i3M (show (20 : Int32) = i3 20 from rfl) (rfl : i3 a1 = i3 a1))) (show (9 : Int32) = i3 9 from rfl)) (by omega) (by omega) (by omega))) (show (-1 : Int32) = i3 (-1) from rfl) (by omega) (by omega) (by omega) (by omega)) (decide_eq_false (by omega))) ?_
        refine wz_i0 (Eq.trans (i3L (show (3 : Int32) = i3 3 from rfl) (zm_rd (Z := Z) (ν := ν) (k := 2) (show ((0 : Nat) : Int) = 0 from rfl) (show ((0 : Nat) : Int) = 0 from rfl) (i3I (y := (209 + 20 * a1)) (i3A (i3A (show (200 : Int32) = i3 200 from rfl) (i3M (show (20 : Int32) = i3 20 from rfl) (rfl : i3 a1 = i3 a1))) (show (9 : Int32) = i3 9 from rfl)) (by omega) (by omega) (by omega))) (by omega) (by omega) (by omega) (by omega)) (decide_eq_false (by omega))) ?_
        refine wz_i0 (i3O (n := 4400) (i3A (i3A (show (200 : Int32) = i3 200 from rfl) (i3M (show (20 : Int32) = i3 20 from rfl) (rfl : i3 a1 = i3 a1))) (show (10 : Int32) = i3 10 from rfl)) (by omega) (by omega) (by omega)) ?_
        have r14 := zM_k hZ 2 0 0 (210 + 20 * a1) (lo := 0) (hi := 4) (by decide) (zs_200_10 (x := a1) (by omega) (by omega) (by omega))
        have r15 := zM_pl hZ a1
        have r16 := zM_k hZ 2 0 0 102 (lo := 0) (hi := 48) (by decide) rfl
        refine wz_i0 (Eq.trans (i3L (zm_rd (Z := Z) (ν := ν) (k := 2) (show ((0 : Nat) : Int) = 0 from rfl) (show ((0 : Nat) : Int) = 0 from rfl) (i3I (y := (210 + 20 * a1)) (i3A (i3A (show (200 : Int32) = i3 200 from rfl) (i3M (show (20 : Int32) = i3 20 from rfl) (rfl : i3 a1 = i3 a1))) (show (10 : Int32) = i3 10 from rfl)) (by omega) (by omega) (by omega))) (show (0 : Int32) = i3 0 from rfl) (by omega) (by omega) (by omega) (by omega)) (decide_eq_false (by omega))) ?_
        refine wz_i0 (Eq.trans (i3L (show (4 : Int32) = i3 4 from rfl) (zm_rd (Z := Z) (ν := ν) (k := 2) (show ((0 : Nat) : Int) = 0 from rfl) (show ((0 : Nat) : Int) = 0 from rfl) (i3I (y := (210 + 20 * a1)) (i3A (i3A (show (200 : Int32) = i3 200 from rfl) (i3M (show (20 : Int32) = i3 20 from rfl) (rfl : i3 a1 = i3 a1))) (show (10 : Int32) = i3 10 from rfl)) (by omega) (by omega) (by omega))) (by omega) (by omega) (by omega) (by omega)) (decide_eq_false (by omega))) ?_
        refine wz_i0 (i3O (n := 4400) (i3A (i3A (show (200 : Int32) = i3 200 from rfl) (i3M (show (20 : Int32) = i3 20 from rfl) (rfl : i3 a1 = i3 a1))) (show (10 : Int32) = i3 10 from rfl)) (by omega) (by omega) (by omega)) ?_
        refine wz_br (i3L (show (1 : Int32) = i3 1 from rfl) (zm_rd (Z := Z) (ν := ν) (k := 2) (show ((0 : Nat) : Int) = 0 from rfl) (show ((0 : Nat) : Int) = 0 from rfl) (i3I (y := (210 + 20 * a1)) (i3A (i3A (show (200 : Int32) = i3 200 from rfl) (i3M (show (20 : Int32) = i3 20 from rfl) (rfl : i3 a1 = i3 a1))) (show (10 : Int32) = i3 10 from rfl)) (by omega) (by omega) (by omega))) (by omega) (by omega) (by omega) (by omega)) (fun h17 => ?_) (fun h17 => ?_)
        · replace hP := zE_p hP h17
          refine wz_i0 (i3O (n := 4400) (i3A (i3A (show (200 : Int32) = i3 200 from rfl) (i3M (show (20 : Int32) = i3 20 from rfl) (rfl : i3 a1 = i3 a1))) (show (4 : Int32) = i3 4 from rfl)) (by omega) (by omega) (by omega)) ?_
          refine wz_br (i3NE (zm_rd (Z := Z) (ν := ν) (k := 2) (show ((0 : Nat) : Int) = 0 from rfl) (show ((0 : Nat) : Int) = 0 from rfl) (i3I (y := (204 + 20 * a1)) (i3A (i3A (show (200 : Int32) = i3 200 from rfl) (i3M (show (20 : Int32) = i3 20 from rfl) (rfl : i3 a1 = i3 a1))) (show (4 : Int32) = i3 4 from rfl)) (by omega) (by omega) (by omega))) (show (0 : Int32) = i3 0 from rfl) (by omega) (by omega) (by omega) (by omega)) (fun h18 => ?_) (fun h18 => ?_)
          · replace hP := zE_p hP h18
            exact zlR hP (show (0 : Int32) = i3 0 from rfl) ⟨by omega, by omega⟩
          · replace hP := zE_n hP h18
            exact zlR hP (show (1 : Int32) = i3 1 from rfl) ⟨by omega, by omega⟩
        · replace hP := zE_n hP h17
          exact zlR hP (show (1 : Int32) = i3 1 from rfl) ⟨by omega, by omega⟩
/- yX12_dSound -/
def zl_331_1 : Nat → qz_Z → Int → Int → Int × Int
  | 0, Z, x1, x2 => (x1, x2)
  | m + 1, Z, x1, x2 => (if (Z 2 0 0 102) ≤ x2 then (x1, x2) else (if x1 = 0 then zl_331_1 m Z 0 (x2 + 1) else (zlet (zf_325 Z x2) (fun v4 => (if v4 = 0 then zl_331_1 m Z 0 (x2 + 1) else zl_331_1 m Z 1 (x2 + 1))))))
theorem sl_331_1 {s : zSM} {Z : qz_Z} {ν : qz_N} (hZ : zM s Z) (hM : s.2 + 0 ≤ 1000000000) {x1 : Int} (gx1 : 0 ≤ x1 ∧ x1 ≤ 1) {x2 : Int} (gx2 : 0 ≤ x2 ∧ x2 ≤ 48) {k : wz_K} {R : wz_R} {L : qz_L} (hL : qz_fg [true, true, true] L = [some (.inr (.inr (some (1, 0, 0)))), some (.inl (i3 x1)), some (.inl (i3 x2))]) {T : Int × Int} (hP : zE T (zl_331_1 ((48 - x2).toNat + 1) Z x1 x2)) (hk : ∀ (L9 : qz_L) (yx1 yx2 : Int), qz_fg [true, true, false] L9 = [some (.inr (.inr (some (1, 0, 0)))), some (.inl (i3 yx1)), none] → (0 ≤ yx1 ∧ yx1 ≤ 1) → (0 ≤ yx2 ∧ yx2 ≤ 48) → zE T ((yx1, yx2)) → k 0 (L9, [], zm Z ν)) : wz_loop qb_331_1 65536 k R (L, [], zm Z ν) := by
  refine wz_lp sb_331_1 (fun m x => ∃ x1 : Int, ∃ x2 : Int, qz_fg [true, true, true] x.1 = [some (.inr (.inr (some (1, 0, 0)))), some (.inl (i3 x1)), some (.inl (i3 x2))] ∧ x.2 = ([], zm Z ν) ∧ m = (48 - x2).toNat ∧ (0 ≤ x1 ∧ x1 ≤ 1) ∧ (0 ≤ x2 ∧ x2 ≤ 48) ∧ zE T (zl_331_1 (m + 1) Z x1 x2)) ?_ 65536 ((48 - x2).toNat) _ (by omega) ⟨x1, x2, hL, rfl, rfl, gx1, gx2, hP⟩
  clear hP gx1 gx2 hL
  clear x1 x2
  rintro m ⟨L, st, μ⟩ ⟨x1, x2, hL, hx, hm, gx1, gx2, hP⟩
  cases hx
  refine fb_331_1 (i3 x1) (i3 x2) _ _ _ _ hL ?_
  have r1 := zM_k hZ 2 0 0 102 (lo := 0) (hi := 48) (by decide) rfl
  refine wz_br (i3Le (zm_rd (Z := Z) (ν := ν) (k := 2) (show ((0 : Nat) : Int) = 0 from rfl) (show ((0 : Nat) : Int) = 0 from rfl) (show ((102 : Nat) : Int) = 102 from rfl)) (rfl : i3 x2 = i3 x2) (by omega) (by omega) (by omega) (by omega)) (fun h2 => ?_) (fun h2 => ?_)
  · replace hP := zE_p hP h2
    exact hk _ _ _ (zconso rfl (zconso (zvo (rfl : i3 x1 = i3 x1)) (zconso rfl rfl)))  (by omega) (by omega)  hP
  · replace hP := zE_n hP h2
    refine wz_br (i3E (rfl : i3 x1 = i3 x1) (show (0 : Int32) = i3 0 from rfl) (by omega) (by omega) (by omega) (by omega)) (fun h3 => ?_) (fun h3 => ?_)
    · replace hP := zE_p hP h3
      obtain ⟨m2, rfl⟩ : ∃ m2, m = m2 + 1 := ⟨m - 1, by omega⟩
      exact wz_k1 ⟨m2, by omega, 0, (x2 + 1), (zconso rfl (zconso (zvo (show (0 : Int32) = i3 0 from rfl)) (zconso (zvo (i3A (rfl : i3 x2 = i3 x2) (show (1 : Int32) = i3 1 from rfl))) rfl))), rfl,  by omega, by omega, by omega,  hP⟩
    · replace hP := zE_n hP h3
      obtain ⟨v4, hv4, c9, lv4, uv4⟩ := sp_325 (ν := ν) hZ (a1 := x2) (by omega) (zbh (c := 0) (k := 0) hM (Nat.le_of_ble_eq_true rfl))
      replace hP := zl_e hP hv4
      refine wz_cI_of (zas (zcons rfl (zcons (zvi (rfl : i3 x2 = i3 x2)) rfl)) c9) ?_
      clear c9
      refine wz_br (i3E (rfl : i3 v4 = i3 v4) (show (0 : Int32) = i3 0 from rfl) (by omega) (by omega) (by omega) (by omega)) (fun h5 => ?_) (fun h5 => ?_)
      · replace hP := zE_p hP h5
        obtain ⟨m2, rfl⟩ : ∃ m2, m = m2 + 1 := ⟨m - 1, by omega⟩
        exact wz_k1 ⟨m2, by omega, 0, (x2 + 1), (zconso rfl (zconso (zvo (show (0 : Int32) = i3 0 from rfl)) (zconso (zvo (i3A (rfl : i3 x2 = i3 x2) (show (1 : Int32) = i3 1 from rfl))) rfl))), rfl,  by omega, by omega, by omega,  hP⟩
      · replace hP := zE_n hP h5
        obtain ⟨m2, rfl⟩ : ∃ m2, m = m2 + 1 := ⟨m - 1, by omega⟩
        exact wz_k1 ⟨m2, by omega, 1, (x2 + 1), (zconso rfl (zconso (zvo (show (1 : Int32) = i3 1 from rfl)) (zconso (zvo (i3A (rfl : i3 x2 = i3 x2) (show (1 : Int32) = i3 1 from rfl))) rfl))), rfl,  by omega, by omega, by omega,  hP⟩
/- yX12_dSound -/
def zl_331_2 : Nat → qz_Z → Int → Int → Int × Int
  | 0, Z, x1, x2 => (x1, x2)
  | m + 1, Z, x1, x2 => (if (Z 2 0 0 101) ≤ x2 then (x1, x2) else (if x1 = 0 then zl_331_2 m Z 0 (x2 + 1) else (zlet (zf_324 Z x2 3) (fun v4 => (zlet (zf_324 Z x2 4) (fun v5 => (zlet (zf_324 Z x2 5) (fun v6 => (zlet (zf_324 Z x2 8) (fun v7 => (if v4 ≠ (w3 ((w3 (v5 + v6)) + v7)) then zl_331_2 m Z 0 (x2 + 1) else zl_331_2 m Z 1 (x2 + 1))))))))))))
theorem sl_331_2 {s : zSM} {Z : qz_Z} {ν : qz_N} (hZ : zM s Z) (hM : s.2 + 0 ≤ 1000000000) {x1 : Int} (gx1 : 0 ≤ x1 ∧ x1 ≤ 1) {x2 : Int} (gx2 : 0 ≤ x2 ∧ x2 ≤ 6) {k : wz_K} {R : wz_R} {L : qz_L} (hL : qz_fg [true, true, true] L = [some (.inr (.inr (some (1, 0, 0)))), some (.inl (i3 x1)), some (.inl (i3 x2))]) {T : Int × Int} (hP : zE T (zl_331_2 ((6 - x2).toNat + 1) Z x1 x2)) (hk : ∀ (L9 : qz_L) (yx1 yx2 : Int), qz_fg [false, true, false] L9 = [none, some (.inl (i3 yx1)), none] → (0 ≤ yx1 ∧ yx1 ≤ 1) → (0 ≤ yx2 ∧ yx2 ≤ 6) → zE T ((yx1, yx2)) → k 0 (L9, [], zm Z ν)) : wz_loop qb_331_2 65536 k R (L, [], zm Z ν) := by
  refine wz_lp sb_331_2 (fun m x => ∃ x1 : Int, ∃ x2 : Int, qz_fg [true, true, true] x.1 = [some (.inr (.inr (some (1, 0, 0)))), some (.inl (i3 x1)), some (.inl (i3 x2))] ∧ x.2 = ([], zm Z ν) ∧ m = (6 - x2).toNat ∧ (0 ≤ x1 ∧ x1 ≤ 1) ∧ (0 ≤ x2 ∧ x2 ≤ 6) ∧ zE T (zl_331_2 (m + 1) Z x1 x2)) ?_ 65536 ((6 - x2).toNat) _ (by omega) ⟨x1, x2, hL, rfl, rfl, gx1, gx2, hP⟩
  clear hP gx1 gx2 hL
  clear x1 x2
  rintro m ⟨L, st, μ⟩ ⟨x1, x2, hL, hx, hm, gx1, gx2, hP⟩
  cases hx
  refine fb_331_2 (i3 x1) (i3 x2) _ _ _ _ hL ?_
  have r1 := zM_k hZ 2 0 0 101 (lo := 0) (hi := 6) (by decide) rfl
  refine wz_br (i3Le (zm_rd (Z := Z) (ν := ν) (k := 2) (show ((0 : Nat) : Int) = 0 from rfl) (show ((0 : Nat) : Int) = 0 from rfl) (show ((101 : Nat) : Int) = 101 from rfl)) (rfl : i3 x2 = i3 x2) (by omega) (by omega) (by omega) (by omega)) (fun h2 => ?_) (fun h2 => ?_)
  · replace hP := zE_p hP h2
    exact hk _ _ _ (zconso rfl (zconso (zvo (rfl : i3 x1 = i3 x1)) (zconso rfl rfl)))  (by omega) (by omega)  hP
  · replace hP := zE_n hP h2
    refine wz_br (i3E (rfl : i3 x1 = i3 x1) (show (0 : Int32) = i3 0 from rfl) (by omega) (by omega) (by omega) (by omega)) (fun h3 => ?_) (fun h3 => ?_)
    · replace hP := zE_p hP h3
      obtain ⟨m2, rfl⟩ : ∃ m2, m = m2 + 1 := ⟨m - 1, by omega⟩
      exact wz_k1 ⟨m2, by omega, 0, (x2 + 1), (zconso rfl (zconso (zvo (show (0 : Int32) = i3 0 from rfl)) (zconso (zvo (i3A (rfl : i3 x2 = i3 x2) (show (1 : Int32) = i3 1 from rfl))) rfl))), rfl,  by omega, by omega, by omega,  hP⟩
    · replace hP := zE_n hP h3
      obtain ⟨v4, hv4, c9, lv4, uv4⟩ := sp_324 (ν := ν) hZ (a1 := x2) (by omega) (a2 := 3) (by omega) (zbh (c := 0) (k := 0) hM (Nat.le_of_ble_eq_true rfl))
      replace hP := zl_e hP hv4
      refine wz_cI_of (zas (zcons rfl (zcons (zvi (rfl : i3 x2 = i3 x2)) (zcons (zvi (show (3 : Int32) = i3 3 from rfl)) rfl))) c9) ?_
      clear c9
      obtain ⟨v5, hv5, c9, lv5, uv5⟩ := sp_324 (ν := ν) hZ (a1 := x2) (by omega) (a2 := 4) (by omega) (zbh (c := 0) (k := 0) hM (Nat.le_of_ble_eq_true rfl))
      replace hP := zl_e hP hv5
      refine wz_cI_of (zas (zcons rfl (zcons (zvi (rfl : i3 x2 = i3 x2)) (zcons (zvi (show (4 : Int32) = i3 4 from rfl)) rfl))) c9) ?_
      clear c9
      obtain ⟨v6, hv6, c9, lv6, uv6⟩ := sp_324 (ν := ν) hZ (a1 := x2) (by omega) (a2 := 5) (by omega) (zbh (c := 0) (k := 0) hM (Nat.le_of_ble_eq_true rfl))
      replace hP := zl_e hP hv6
      refine wz_cI_of (zas (zcons rfl (zcons (zvi (rfl : i3 x2 = i3 x2)) (zcons (zvi (show (5 : Int32) = i3 5 from rfl)) rfl))) c9) ?_
      clear c9
      obtain ⟨v7, hv7, c9, lv7, uv7⟩ := sp_324 (ν := ν) hZ (a1 := x2) (by omega) (a2 := 8) (by omega) (zbh (c := 0) (k := 0) hM (Nat.le_of_ble_eq_true rfl))
      replace hP := zl_e hP hv7
      refine wz_cI_of (zas (zcons rfl (zcons (zvi (rfl : i3 x2 = i3 x2)) (zcons (zvi (show (8 : Int32) = i3 8 from rfl)) rfl))) c9) ?_
      clear c9
      have r8 := w3_r (v5 + v6)
      have r9 := w3_r ((w3 (v5 + v6)) + v7)
      refine wz_br (i3NE (rfl : i3 v4 = i3 v4) (i3W (i3A (i3W (i3A (rfl : i3 v5 = i3 v5) (rfl : i3 v6 = i3 v6))) (rfl : i3 v7 = i3 v7))) (by omega) (by omega) (by omega) (by omega)) (fun h10 => ?_) (fun h10 => ?_)
      · replace hP := zE_p hP h10
        obtain ⟨m2, rfl⟩ : ∃ m2, m = m2 + 1 := ⟨m - 1, by omega⟩
        exact wz_k1 ⟨m2, by omega, 0, (x2 + 1), (zconso rfl (zconso (zvo (show (0 : Int32) = i3 0 from rfl)) (zconso (zvo (i3A (rfl : i3 x2 = i3 x2) (show (1 : Int32) = i3 1 from rfl))) rfl))), rfl,  by omega, by omega, by omega,  hP⟩
      · replace hP := zE_n hP h10
        obtain ⟨m2, rfl⟩ : ∃ m2, m = m2 + 1 := ⟨m - 1, by omega⟩
        exact wz_k1 ⟨m2, by omega, 1, (x2 + 1), (zconso rfl (zconso (zvo (show (1 : Int32) = i3 1 from rfl)) (zconso (zvo (i3A (rfl : i3 x2 = i3 x2) (show (1 : Int32) = i3 1 from rfl))) rfl))), rfl,  by omega, by omega, by omega,  hP⟩
/- yX12_dSound -/
def zf_331 (Z : qz_Z) : Int := (zlet (zf_321 Z) (fun v1 => (if v1 < 0 then (zlet2 (zl_331_1 49 Z 0 0) (fun y3 y4 => (zlet2 (zl_331_2 7 Z y3 0) (fun y6 y7 => y6)))) else (zlet2 (zl_331_1 49 Z 1 0) (fun y9 y10 => (zlet2 (zl_331_2 7 Z y9 0) (fun y12 y13 => y12)))))))
theorem sp_331 {s : zSM} {Z : qz_Z} {ν : qz_N} (hZ : zM s Z) (hM : s.2 + 0 ≤ 1000000000) : ∃ P : Int, P = zf_331 Z ∧ (qf_331 [.inr (.inr (some (1, 0, 0)))] (zm Z ν) = some (zm Z ν, .inl (some (.inl (i3 P)))) ∧ 0 ≤ P ∧ P ≤ 1) := by
  obtain ⟨P, hP⟩ := zx (zf_331 Z)
  refine zc_R (Q := fun P => 0 ≤ P ∧ P ≤ 1) hP (fw_331  _ _ ?_)
  replace hP : zE P (zf_331 Z) := hP
  unfold zf_331 at hP
  obtain ⟨v1, hv1, c9, lv1, uv1⟩ := sp_321 (ν := ν) hZ (zbh (c := 0) (k := 0) hM (Nat.le_of_ble_eq_true rfl))
  replace hP := zl_e hP hv1
  refine wz_cI_of (zas (zcons rfl rfl) c9) ?_
  clear c9
  refine wz_br (i3L (rfl : i3 v1 = i3 v1) (show (0 : Int32) = i3 0 from rfl) (by omega) (by omega) (by omega) (by omega)) (fun h2 => ?_) (fun h2 => ?_)
  · replace hP := zE_p hP h2
    refine sl_331_1 (ν := ν) hZ (zbh (c := 0) (k := 0) hM (Nat.le_of_ble_eq_true rfl)) (x1 := 0) (by omega) (x2 := 0) (by omega)  (zconso rfl (zconso (zvo (show (0 : Int32) = i3 0 from rfl)) (zconso (zvo (show (0 : Int32) = i3 0 from rfl)) rfl))) rfl ?_
    intro L5 y3 y4 hL5 gy3 gy4 q9
    replace hP := zl_e2 hP (Eq.symm q9)
    clear q9
    refine fc_331_4 (i3 y3) _ _ _ _ hL5 ?_
    refine sl_331_2 (ν := ν) hZ (zbh (c := 0) (k := 0) hM (Nat.le_of_ble_eq_true rfl)) (x1 := y3) (by omega) (x2 := 0) (by omega)  (zconso rfl (zconso (zvo (rfl : i3 y3 = i3 y3)) (zconso (zvo (show (0 : Int32) = i3 0 from rfl)) rfl))) rfl ?_
    intro L8 y6 y7 hL8 gy6 gy7 q9
    replace hP := zl_e2 hP (Eq.symm q9)
    clear q9
    refine fc_331_3 (i3 y6) _ _ _ _ hL8 ?_
    refine wz_i1 (i3B (rfl : i3 y6 = i3 y6) (by omega)) ?_
    exact zlR hP (rfl : i3 y6 = i3 y6) ⟨by omega, by omega⟩
  · replace hP := zE_n hP h2
    refine sl_331_1 (ν := ν) hZ (zbh (c := 0) (k := 0) hM (Nat.le_of_ble_eq_true rfl)) (x1 := 1) (by omega) (x2 := 0) (by omega)  (zconso rfl (zconso (zvo (show (1 : Int32) = i3 1 from rfl)) (zconso (zvo (show (0 : Int32) = i3 0 from rfl)) rfl))) rfl ?_
    intro L11 y9 y10 hL11 gy9 gy10 q9
    replace hP := zl_e2 hP (Eq.symm q9)
    clear q9
    refine fc_331_4 (i3 y9) _ _ _ _ hL11 ?_
    refine sl_331_2 (ν := ν) hZ (zbh (c := 0) (k := 0) hM (Nat.le_of_ble_eq_true rfl)) (x1 := y9) (by omega) (x2 := 0) (by omega)  (zconso rfl (zconso (zvo (rfl : i3 y9 = i3 y9)) (zconso (zvo (show (0 : Int32) = i3 0 from rfl)) rfl))) rfl ?_
    intro L14 y12 y13 hL14 gy12 gy13 q9
    replace hP := zl_e2 hP (Eq.symm q9)
    clear q9
    refine fc_331_3 (i3 y12) _ _ _ _ hL14 ?_
    refine wz_i1 (i3B (rfl : i3 y12 = i3 y12) (by omega)) ?_
    exact zlR hP (rfl : i3 y12 = i3 y12) ⟨by omega, by omega⟩
/- yX12_rIsOlder -/
def zf_473 (Z : qz_Z) (a1 : Int) : Int := (if (Z 2 0 0 (207 + 20 * (Z 2 0 0 (2010 + 16 * a1)))) < (Z 2 0 0 (2024 + 16 * a1)) then 0 else (if (Z 2 0 0 (208 + 20 * (Z 2 0 0 (2010 + 16 * a1)))) < (Z 2 0 0 (2025 + 16 * a1)) then 0 else 1))
theorem sp_473 {s : zSM} {Z : qz_Z} {ν : qz_N} (hZ : zM s Z) {a1 : Int} (ga1 : 0 ≤ a1 ∧ a1 ≤ 59) (hM : s.2 + 0 ≤ 1000000000) : ∃ P : Int, P = zf_473 Z a1 ∧ (qf_473 [.inr (.inr (some (1, 0, 0))), .inl (i3 a1)] (zm Z ν) = some (zm Z ν, .inl (some (.inl (i3 P)))) ∧ 0 ≤ P ∧ P ≤ 1) := by
  obtain ⟨P, hP⟩ := zx (zf_473 Z a1)
  refine zc_R (Q := fun P => 0 ≤ P ∧ P ≤ 1) hP (fw_473 (i3 a1) _ _ ?_)
  replace hP : zE P (zf_473 Z a1) := hP
  unfold zf_473 at hP
  refine wz_i0 (i3O (n := 4400) (i3A (i3A (show (2010 : Int32) = i3 2010 from rfl) (i3M (show (16 : Int32) = i3 16 from rfl) (rfl : i3 a1 = i3 a1))) (show (0 : Int32) = i3 0 from rfl)) (by omega) (by omega) (by omega)) ?_
  have r1 := zM_k hZ 2 0 0 (2010 + 16 * a1) (lo := 0) (hi := 47) (by decide) (zs_2010_0 (x := a1) (by omega) (by omega) (by omega))
  refine wz_i0 (i3O (n := 4400) (i3A (i3A (show (200 : Int32) = i3 200 from rfl) (i3M (show (20 : Int32) = i3 20 from rfl) (zm_rd (Z := Z) (ν := ν) (k := 2) (show ((0 : Nat) : Int) = 0 from rfl) (show ((0 : Nat) : Int) = 0 from rfl) (i3I (y := (2010 + 16 * a1)) (i3A (i3A (show (2010 : Int32) = i3 2010 from rfl) (i3M (show (16 : Int32) = i3 16 from rfl) (rfl : i3 a1 = i3 a1))) (show (0 : Int32) = i3 0 from rfl)) (by omega) (by omega) (by omega))))) (show (7 : Int32) = i3 7 from rfl)) (by omega) (by omega) (by omega)) ?_
  refine wz_i0 (i3O (n := 4400) (i3A (i3A (show (2010 : Int32) = i3 2010 from rfl) (i3M (show (16 : Int32) = i3 16 from rfl) (rfl : i3 a1 = i3 a1))) (show (14 : Int32) = i3 14 from rfl)) (by omega) (by omega) (by omega)) ?_
  have r2 := zM_k hZ 2 0 0 (207 + 20 * (Z 2 0 0 (2010 + 16 * a1))) (lo := 0) (hi := 2000) (by decide) (zs_200_7 (x := (Z 2 0 0 (2010 + 16 * a1))) (by omega) (by omega) (by omega))
  have r3 := zM_k hZ 2 0 0 (2024 + 16 * a1) (lo := -1) (hi := 2000) (by decide) (zs_2010_14 (x := a1) (by omega) (by omega) (by omega))
  refine wz_br (i3L (zm_rd (Z := Z) (ν := ν) (k := 2) (show ((0 : Nat) : Int) = 0 from rfl) (show ((0 : Nat) : Int) = 0 from rfl) (i3I (y := (207 + 20 * (Z 2 0 0 (2010 + 16 * a1)))) (i3A (i3A (show (200 : Int32) = i3 200 from rfl) (i3M (show (20 : Int32) = i3 20 from rfl) (zm_rd (Z := Z) (ν := ν) (k := 2) (show ((0 : Nat) : Int) = 0 from rfl) (show ((0 : Nat) : Int) = 0 from rfl) (i3I (y := (2010 + 16 * a1)) (i3A (i3A (show (2010 : Int32) = i3 2010 from rfl) (i3M (show (16 : Int32) = i3 16 from rfl) (rfl : i3 a1 = i3 a1))) (show (0 : Int32) = i3 0 from rfl)) (by omega) (by omega) (by omega))))) (show (7 : Int32) = i3 7 from rfl)) (by omega) (by omega) (by omega))) (zm_rd (Z := Z) (ν := ν) (k := 2) (show ((0 : Nat) : Int) = 0 from rfl) (show ((0 : Nat) : Int) = 0 from rfl) (i3I (y := (2024 + 16 * a1)) (i3A (i3A (show (2010 : Int32) = i3 2010 from rfl) (i3M (show (16 : Int32) = i3 16 from rfl) (rfl : i3 a1 = i3 a1))) (show (14 : Int32) = i3 14 from rfl)) (by omega) (by omega) (by omega))) (by omega) (by omega) (by omega) (by omega)) (fun h4 => ?_) (fun h4 => ?_)
  · replace hP := zE_p hP h4
    exact zlR hP (show (0 : Int32) = i3 0 from rfl) ⟨by omega, by omega⟩
  · replace hP := zE_n hP h4
    refine wz_i0 (i3O (n := 4400) (i3A (i3A (show (200 : Int32) = i3 200 from rfl) (i3M (show (20 : Int32) = i3 20 from rfl) (zm_rd (Z := Z) (ν := ν) (k := 2) (show ((0 : Nat) : Int) = 0 from rfl) (show ((0 : Nat) : Int) = 0 from rfl) (i3I (y := (2010 + 16 * a1)) (i3A (i3A (show (2010 : Int32) = i3 2010 from rfl) (i3M (show (16 : Int32) = i3 16 from rfl) (rfl : i3 a1 = i3 a1))) (show (0 : Int32) = i3 0 from rfl)) (by omega) (by omega) (by omega))))) (show (8 : Int32) = i3 8 from rfl)) (by omega) (by omega) (by omega)) ?_
    refine wz_i0 (i3O (n := 4400) (i3A (i3A (show (2010 : Int32) = i3 2010 from rfl) (i3M (show (16 : Int32) = i3 16 from rfl) (rfl : i3 a1 = i3 a1))) (show (15 : Int32) = i3 15 from rfl)) (by omega) (by omega) (by omega)) ?_
    have r5 := zM_k hZ 2 0 0 (208 + 20 * (Z 2 0 0 (2010 + 16 * a1))) (lo := 0) (hi := 999) (by decide) (zs_200_8 (x := (Z 2 0 0 (2010 + 16 * a1))) (by omega) (by omega) (by omega))
    have r6 := zM_k hZ 2 0 0 (2025 + 16 * a1) (lo := -1) (hi := 999) (by decide) (zs_2010_15 (x := a1) (by omega) (by omega) (by omega))
    refine wz_br (i3L (zm_rd (Z := Z) (ν := ν) (k := 2) (show ((0 : Nat) : Int) = 0 from rfl) (show ((0 : Nat) : Int) = 0 from rfl) (i3I (y := (208 + 20 * (Z 2 0 0 (2010 + 16 * a1)))) (i3A (i3A (show (200 : Int32) = i3 200 from rfl) (i3M (show (20 : Int32) = i3 20 from rfl) (zm_rd (Z := Z) (ν := ν) (k := 2) (show ((0 : Nat) : Int) = 0 from rfl) (show ((0 : Nat) : Int) = 0 from rfl) (i3I (y := (2010 + 16 * a1)) (i3A (i3A (show (2010 : Int32) = i3 2010 from rfl) (i3M (show (16 : Int32) = i3 16 from rfl) (rfl : i3 a1 = i3 a1))) (show (0 : Int32) = i3 0 from rfl)) (by omega) (by omega) (by omega))))) (show (8 : Int32) = i3 8 from rfl)) (by omega) (by omega) (by omega))) (zm_rd (Z := Z) (ν := ν) (k := 2) (show ((0 : Nat) : Int) = 0 from rfl) (show ((0 : Nat) : Int) = 0 from rfl) (i3I (y := (2025 + 16 * a1)) (i3A (i3A (show (2010 : Int32) = i3 2010 from rfl) (i3M (show (16 : Int32) = i3 16 from rfl) (rfl : i3 a1 = i3 a1))) (show (15 : Int32) = i3 15 from rfl)) (by omega) (by omega) (by omega))) (by omega) (by omega) (by omega) (by omega)) (fun h7 => ?_) (fun h7 => ?_)
    · replace hP := zE_p hP h7
      exact zlR hP (show (0 : Int32) = i3 0 from rfl) ⟨by omega, by omega⟩
    · replace hP := zE_n hP h7
      exact zlR hP (show (1 : Int32) = i3 1 from rfl) ⟨by omega, by omega⟩
/- yX12_rIsPlaced -/
def zf_474 (Z : qz_Z) (a1 : Int) : Int := (if 1 < (Z 2 0 0 (210 + 20 * a1)) then (if (Z 2 0 0 (211 + 20 * a1)) ≠ (-1) then 0 else 1) else (if (Z 2 0 0 (211 + 20 * a1)) = 6 then 1 else (if (Z 2 0 0 (211 + 20 * a1)) < 0 then 0 else (if ((Z 2 0 0 1200) - 1) < (Z 2 0 0 (211 + 20 * a1)) then 0 else 1))))
theorem sp_474 {s : zSM} {Z : qz_Z} {ν : qz_N} (hZ : zM s Z) {a1 : Int} (ga1 : 0 ≤ a1 ∧ a1 ≤ 47) (hM : s.2 + 0 ≤ 1000000000) : ∃ P : Int, P = zf_474 Z a1 ∧ (qf_474 [.inr (.inr (some (1, 0, 0))), .inl (i3 a1)] (zm Z ν) = some (zm Z ν, .inl (some (.inl (i3 P)))) ∧ 0 ≤ P ∧ P ≤ 1) := by
  obtain ⟨P, hP⟩ := zx (zf_474 Z a1)
  refine zc_R (Q := fun P => 0 ≤ P ∧ P ≤ 1) hP (fw_474 (i3 a1) _ _ ?_)
  replace hP : zE P (zf_474 Z a1) := hP
  unfold zf_474 at hP
  refine wz_i0 (i3O (n := 4400) (i3A (i3A (show (200 : Int32) = i3 200 from rfl) (i3M (show (20 : Int32) = i3 20 from rfl) (rfl : i3 a1 = i3 a1))) (show (11 : Int32) = i3 11 from rfl)) (by omega) (by omega) (by omega)) ?_
  refine wz_i0 (i3O (n := 4400) (i3A (i3A (show (200 : Int32) = i3 200 from rfl) (i3M (show (20 : Int32) = i3 20 from rfl) (rfl : i3 a1 = i3 a1))) (show (10 : Int32) = i3 10 from rfl)) (by omega) (by omega) (by omega)) ?_
  have r1 := zM_k hZ 2 0 0 (210 + 20 * a1) (lo := 0) (hi := 4) (by decide) (zs_200_10 (x := a1) (by omega) (by omega) (by omega))
  have r2 := zM_pl hZ a1
  have r3 := zM_k hZ 2 0 0 102 (lo := 0) (hi := 48) (by decide) rfl
  refine wz_br (i3L (show (1 : Int32) = i3 1 from rfl) (zm_rd (Z := Z) (ν := ν) (k := 2) (show ((0 : Nat) : Int) = 0 from rfl) (show ((0 : Nat) : Int) = 0 from rfl) (i3I (y := (210 + 20 * a1)) (i3A (i3A (show (200 : Int32) = i3 200 from rfl) (i3M (show (20 : Int32) = i3 20 from rfl) (rfl : i3 a1 = i3 a1))) (show (10 : Int32) = i3 10 from rfl)) (by omega) (by omega) (by omega))) (by omega) (by omega) (by omega) (by omega)) (fun h4 => ?_) (fun h4 => ?_)
  · replace hP := zE_p hP h4
    have r5 := zM_k hZ 2 0 0 (211 + 20 * a1) (lo := -1) (hi := 6) (by decide) (zs_200_11 (x := a1) (by omega) (by omega) (by omega))
    refine wz_br (i3NE (zm_rd (Z := Z) (ν := ν) (k := 2) (show ((0 : Nat) : Int) = 0 from rfl) (show ((0 : Nat) : Int) = 0 from rfl) (i3I (y := (211 + 20 * a1)) (i3A (i3A (show (200 : Int32) = i3 200 from rfl) (i3M (show (20 : Int32) = i3 20 from rfl) (rfl : i3 a1 = i3 a1))) (show (11 : Int32) = i3 11 from rfl)) (by omega) (by omega) (by omega))) (show (-1 : Int32) = i3 (-1) from rfl) (by omega) (by omega) (by omega) (by omega)) (fun h6 => ?_) (fun h6 => ?_)
    · replace hP := zE_p hP h6
      exact zlR hP (show (0 : Int32) = i3 0 from rfl) ⟨by omega, by omega⟩
    · replace hP := zE_n hP h6
      exact zlR hP (show (1 : Int32) = i3 1 from rfl) ⟨by omega, by omega⟩
  · replace hP := zE_n hP h4
    have r7 := zM_k hZ 2 0 0 (211 + 20 * a1) (lo := -1) (hi := 6) (by decide) (zs_200_11 (x := a1) (by omega) (by omega) (by omega))
    refine wz_br (i3E (zm_rd (Z := Z) (ν := ν) (k := 2) (show ((0 : Nat) : Int) = 0 from rfl) (show ((0 : Nat) : Int) = 0 from rfl) (i3I (y := (211 + 20 * a1)) (i3A (i3A (show (200 : Int32) = i3 200 from rfl) (i3M (show (20 : Int32) = i3 20 from rfl) (rfl : i3 a1 = i3 a1))) (show (11 : Int32) = i3 11 from rfl)) (by omega) (by omega) (by omega))) (show (6 : Int32) = i3 6 from rfl) (by omega) (by omega) (by omega) (by omega)) (fun h8 => ?_) (fun h8 => ?_)
    · replace hP := zE_p hP h8
      exact zlR hP (show (1 : Int32) = i3 1 from rfl) ⟨by omega, by omega⟩
    · replace hP := zE_n hP h8
      refine wz_br (i3L (zm_rd (Z := Z) (ν := ν) (k := 2) (show ((0 : Nat) : Int) = 0 from rfl) (show ((0 : Nat) : Int) = 0 from rfl) (i3I (y := (211 + 20 * a1)) (i3A (i3A (show (200 : Int32) = i3 200 from rfl) (i3M (show (20 : Int32) = i3 20 from rfl) (rfl : i3 a1 = i3 a1))) (show (11 : Int32) = i3 11 from rfl)) (by omega) (by omega) (by omega))) (show (0 : Int32) = i3 0 from rfl) (by omega) (by omega) (by omega) (by omega)) (fun h9 => ?_) (fun h9 => ?_)
      · replace hP := zE_p hP h9
        exact zlR hP (show (0 : Int32) = i3 0 from rfl) ⟨by omega, by omega⟩
      · replace hP := zE_n hP h9
        have r10 := zM_k hZ 2 0 0 1200 (lo := 0) (hi := 6) (by decide) rfl
        refine wz_br (i3L (i3S (zm_rd (Z := Z) (ν := ν) (k := 2) (show ((0 : Nat) : Int) = 0 from rfl) (show ((0 : Nat) : Int) = 0 from rfl) (show ((1200 : Nat) : Int) = 1200 from rfl)) (show (1 : Int32) = i3 1 from rfl)) (zm_rd (Z := Z) (ν := ν) (k := 2) (show ((0 : Nat) : Int) = 0 from rfl) (show ((0 : Nat) : Int) = 0 from rfl) (i3I (y := (211 + 20 * a1)) (i3A (i3A (show (200 : Int32) = i3 200 from rfl) (i3M (show (20 : Int32) = i3 20 from rfl) (rfl : i3 a1 = i3 a1))) (show (11 : Int32) = i3 11 from rfl)) (by omega) (by omega) (by omega))) (by omega) (by omega) (by omega) (by omega)) (fun h11 => ?_) (fun h11 => ?_)
        · replace hP := zE_p hP h11
          exact zlR hP (show (0 : Int32) = i3 0 from rfl) ⟨by omega, by omega⟩
        · replace hP := zE_n hP h11
          exact zlR hP (show (1 : Int32) = i3 1 from rfl) ⟨by omega, by omega⟩
/- yX12_rSound -/
def zl_487_1 : Nat → qz_Z → Int → Int → Int × Int
  | 0, Z, x1, x2 => (x1, x2)
  | m + 1, Z, x1, x2 => (if (Z 2 0 0 102) ≤ x2 then (x1, x2) else (if x1 = 0 then zl_487_1 m Z 0 (x2 + 1) else (zlet (zf_474 Z x2) (fun v4 => (if v4 = 0 then zl_487_1 m Z 0 (x2 + 1) else zl_487_1 m Z 1 (x2 + 1))))))
theorem sl_487_1 {s : zSM} {Z : qz_Z} {ν : qz_N} (hZ : zM s Z) (hM : s.2 + 0 ≤ 1000000000) {x1 : Int} (gx1 : 0 ≤ x1 ∧ x1 ≤ 1) {x2 : Int} (gx2 : 0 ≤ x2 ∧ x2 ≤ 48) {k : wz_K} {R : wz_R} {L : qz_L} (hL : qz_fg [true, true, true] L = [some (.inr (.inr (some (1, 0, 0)))), some (.inl (i3 x1)), some (.inl (i3 x2))]) {T : Int × Int} (hP : zE T (zl_487_1 ((48 - x2).toNat + 1) Z x1 x2)) (hk : ∀ (L9 : qz_L) (yx1 yx2 : Int), qz_fg [true, true, false] L9 = [some (.inr (.inr (some (1, 0, 0)))), some (.inl (i3 yx1)), none] → (0 ≤ yx1 ∧ yx1 ≤ 1) → (0 ≤ yx2 ∧ yx2 ≤ 48) → zE T ((yx1, yx2)) → k 0 (L9, [], zm Z ν)) : wz_loop qb_487_1 65536 k R (L, [], zm Z ν) := by
  refine wz_lp sb_487_1 (fun m x => ∃ x1 : Int, ∃ x2 : Int, qz_fg [true, true, true] x.1 = [some (.inr (.inr (some (1, 0, 0)))), some (.inl (i3 x1)), some (.inl (i3 x2))] ∧ x.2 = ([], zm Z ν) ∧ m = (48 - x2).toNat ∧ (0 ≤ x1 ∧ x1 ≤ 1) ∧ (0 ≤ x2 ∧ x2 ≤ 48) ∧ zE T (zl_487_1 (m + 1) Z x1 x2)) ?_ 65536 ((48 - x2).toNat) _ (by omega) ⟨x1, x2, hL, rfl, rfl, gx1, gx2, hP⟩
  clear hP gx1 gx2 hL
  clear x1 x2
  rintro m ⟨L, st, μ⟩ ⟨x1, x2, hL, hx, hm, gx1, gx2, hP⟩
  cases hx
  refine fb_487_1 (i3 x1) (i3 x2) _ _ _ _ hL ?_
  have r1 := zM_k hZ 2 0 0 102 (lo := 0) (hi := 48) (by decide) rfl
  refine wz_br (i3Le (zm_rd (Z := Z) (ν := ν) (k := 2) (show ((0 : Nat) : Int) = 0 from rfl) (show ((0 : Nat) : Int) = 0 from rfl) (show ((102 : Nat) : Int) = 102 from rfl)) (rfl : i3 x2 = i3 x2) (by omega) (by omega) (by omega) (by omega)) (fun h2 => ?_) (fun h2 => ?_)
  · replace hP := zE_p hP h2
    exact hk _ _ _ (zconso rfl (zconso (zvo (rfl : i3 x1 = i3 x1)) (zconso rfl rfl)))  (by omega) (by omega)  hP
  · replace hP := zE_n hP h2
    refine wz_br (i3E (rfl : i3 x1 = i3 x1) (show (0 : Int32) = i3 0 from rfl) (by omega) (by omega) (by omega) (by omega)) (fun h3 => ?_) (fun h3 => ?_)
    · replace hP := zE_p hP h3
      obtain ⟨m2, rfl⟩ : ∃ m2, m = m2 + 1 := ⟨m - 1, by omega⟩
      exact wz_k1 ⟨m2, by omega, 0, (x2 + 1), (zconso rfl (zconso (zvo (show (0 : Int32) = i3 0 from rfl)) (zconso (zvo (i3A (rfl : i3 x2 = i3 x2) (show (1 : Int32) = i3 1 from rfl))) rfl))), rfl,  by omega, by omega, by omega,  hP⟩
    · replace hP := zE_n hP h3
      obtain ⟨v4, hv4, c9, lv4, uv4⟩ := sp_474 (ν := ν) hZ (a1 := x2) (by omega) (zbh (c := 0) (k := 0) hM (Nat.le_of_ble_eq_true rfl))
      replace hP := zl_e hP hv4
      refine wz_cI_of (zas (zcons rfl (zcons (zvi (rfl : i3 x2 = i3 x2)) rfl)) c9) ?_
      clear c9
      refine wz_br (i3E (rfl : i3 v4 = i3 v4) (show (0 : Int32) = i3 0 from rfl) (by omega) (by omega) (by omega) (by omega)) (fun h5 => ?_) (fun h5 => ?_)
      · replace hP := zE_p hP h5
        obtain ⟨m2, rfl⟩ : ∃ m2, m = m2 + 1 := ⟨m - 1, by omega⟩
        exact wz_k1 ⟨m2, by omega, 0, (x2 + 1), (zconso rfl (zconso (zvo (show (0 : Int32) = i3 0 from rfl)) (zconso (zvo (i3A (rfl : i3 x2 = i3 x2) (show (1 : Int32) = i3 1 from rfl))) rfl))), rfl,  by omega, by omega, by omega,  hP⟩
      · replace hP := zE_n hP h5
        refine wz_i0 (i3O (n := 4400) (i3A (i3A (show (200 : Int32) = i3 200 from rfl) (i3M (show (20 : Int32) = i3 20 from rfl) (rfl : i3 x2 = i3 x2))) (show (7 : Int32) = i3 7 from rfl)) (by omega) (by omega) (by omega)) ?_
        have r6 := zM_k hZ 2 0 0 (207 + 20 * x2) (lo := 0) (hi := 2000) (by decide) (zs_200_7 (x := x2) (by omega) (by omega) (by omega))
        refine wz_i0 (Eq.trans (i3L (zm_rd (Z := Z) (ν := ν) (k := 2) (show ((0 : Nat) : Int) = 0 from rfl) (show ((0 : Nat) : Int) = 0 from rfl) (i3I (y := (207 + 20 * x2)) (i3A (i3A (show (200 : Int32) = i3 200 from rfl) (i3M (show (20 : Int32) = i3 20 from rfl) (rfl : i3 x2 = i3 x2))) (show (7 : Int32) = i3 7 from rfl)) (by omega) (by omega) (by omega))) (show (0 : Int32) = i3 0 from rfl) (by omega) (by omega) (by omega) (by omega)) (decide_eq_false (by omega))) ?_
        refine wz_i0 (Eq.trans (i3L (show (2000 : Int32) = i3 2000 from rfl) (zm_rd (Z := Z) (ν := ν) (k := 2) (show ((0 : Nat) : Int) = 0 from rfl) (show ((0 : Nat) : Int) = 0 from rfl) (i3I (y := (207 + 20 * x2)) (i3A (i3A (show (200 : Int32) = i3 200 from rfl) (i3M (show (20 : Int32) = i3 20 from rfl) (rfl : i3 x2 = i3 x2))) (show (7 : Int32) = i3 7 from rfl)) (by omega) (by omega) (by omega))) (by omega) (by omega) (by omega) (by omega)) (decide_eq_false (by omega))) ?_
        refine wz_i0 (i3O (n := 4400) (i3A (i3A (show (200 : Int32) = i3 200 from rfl) (i3M (show (20 : Int32) = i3 20 from rfl) (rfl : i3 x2 = i3 x2))) (show (8 : Int32) = i3 8 from rfl)) (by omega) (by omega) (by omega)) ?_
        have r7 := zM_k hZ 2 0 0 (208 + 20 * x2) (lo := 0) (hi := 999) (by decide) (zs_200_8 (x := x2) (by omega) (by omega) (by omega))
        refine wz_i0 (Eq.trans (i3L (zm_rd (Z := Z) (ν := ν) (k := 2) (show ((0 : Nat) : Int) = 0 from rfl) (show ((0 : Nat) : Int) = 0 from rfl) (i3I (y := (208 + 20 * x2)) (i3A (i3A (show (200 : Int32) = i3 200 from rfl) (i3M (show (20 : Int32) = i3 20 from rfl) (rfl : i3 x2 = i3 x2))) (show (8 : Int32) = i3 8 from rfl)) (by omega) (by omega) (by omega))) (show (0 : Int32) = i3 0 from rfl) (by omega) (by omega) (by omega) (by omega)) (decide_eq_false (by omega))) ?_
        refine wz_i0 (Eq.trans (i3L (show (999 : Int32) = i3 999 from rfl) (zm_rd (Z := Z) (ν := ν) (k := 2) (show ((0 : Nat) : Int) = 0 from rfl) (show ((0 : Nat) : Int) = 0 from rfl) (i3I (y := (208 + 20 * x2)) (i3A (i3A (show (200 : Int32) = i3 200 from rfl) (i3M (show (20 : Int32) = i3 20 from rfl) (rfl : i3 x2 = i3 x2))) (show (8 : Int32) = i3 8 from rfl)) (by omega) (by omega) (by omega))) (by omega) (by omega) (by omega) (by omega)) (decide_eq_false (by omega))) ?_
        obtain ⟨m2, rfl⟩ : ∃ m2, m = m2 + 1 := ⟨m - 1, by omega⟩
        exact wz_k1 ⟨m2, by omega, 1, (x2 + 1), (zconso rfl (zconso (zvo (show (1 : Int32) = i3 1 from rfl)) (zconso (zvo (i3A (rfl : i3 x2 = i3 x2) (show (1 : Int32) = i3 1 from rfl))) rfl))), rfl,  by omega, by omega, by omega,  hP⟩
/- yX12_rSound -/
def zl_487_2 : Nat → qz_Z → Int → Int → Int × Int
  | 0, Z, x1, x2 => (x1, x2)
  | m + 1, Z, x1, x2 => (if (Z 2 0 0 1200) ≤ x2 then (x1, x2) else (if x1 = 0 then zl_487_2 m Z 0 (x2 + 1) else (zlet (zf_488 Z x2) (fun v4 => (if ((Z 2 0 0 (1210 + 12 * x2)) - v4) < 0 then zl_487_2 m Z 0 (x2 + 1) else (if (Z 2 0 0 0) < (Z 2 0 0 (1217 + 12 * x2)) then zl_487_2 m Z 0 (x2 + 1) else zl_487_2 m Z 1 (x2 + 1)))))))
theorem sl_487_2 {s : zSM} {Z : qz_Z} {ν : qz_N} (hZ : zM s Z) (hM : s.2 + 0 ≤ 1000000000) {x1 : Int} (gx1 : 0 ≤ x1 ∧ x1 ≤ 1) {x2 : Int} (gx2 : 0 ≤ x2 ∧ x2 ≤ 6) {k : wz_K} {R : wz_R} {L : qz_L} (hL : qz_fg [true, true, true] L = [some (.inr (.inr (some (1, 0, 0)))), some (.inl (i3 x1)), some (.inl (i3 x2))]) {T : Int × Int} (hP : zE T (zl_487_2 ((6 - x2).toNat + 1) Z x1 x2)) (hk : ∀ (L9 : qz_L) (yx1 yx2 : Int), qz_fg [true, true, false] L9 = [some (.inr (.inr (some (1, 0, 0)))), some (.inl (i3 yx1)), none] → (0 ≤ yx1 ∧ yx1 ≤ 1) → (0 ≤ yx2 ∧ yx2 ≤ 6) → zE T ((yx1, yx2)) → k 0 (L9, [], zm Z ν)) : wz_loop qb_487_2 65536 k R (L, [], zm Z ν) := by
  refine wz_lp sb_487_2 (fun m x => ∃ x1 : Int, ∃ x2 : Int, qz_fg [true, true, true] x.1 = [some (.inr (.inr (some (1, 0, 0)))), some (.inl (i3 x1)), some (.inl (i3 x2))] ∧ x.2 = ([], zm Z ν) ∧ m = (6 - x2).toNat ∧ (0 ≤ x1 ∧ x1 ≤ 1) ∧ (0 ≤ x2 ∧ x2 ≤ 6) ∧ zE T (zl_487_2 (m + 1) Z x1 x2)) ?_ 65536 ((6 - x2).toNat) _ (by omega) ⟨x1, x2, hL, rfl, rfl, gx1, gx2, hP⟩
  clear hP gx1 gx2 hL
  clear x1 x2
  rintro m ⟨L, st, μ⟩ ⟨x1, x2, hL, hx, hm, gx1, gx2, hP⟩
  cases hx
  refine fb_487_2 (i3 x1) (i3 x2) _ _ _ _ hL ?_
  have r1 := zM_k hZ 2 0 0 1200 (lo := 0) (hi := 6) (by decide) rfl
  refine wz_br (i3Le (zm_rd (Z := Z) (ν := ν) (k := 2) (show ((0 : Nat) : Int) = 0 from rfl) (show ((0 : Nat) : Int) = 0 from rfl) (show ((1200 : Nat) : Int) = 1200 from rfl)) (rfl : i3 x2 = i3 x2) (by omega) (by omega) (by omega) (by omega)) (fun h2 => ?_) (fun h2 => ?_)
  · replace hP := zE_p hP h2
    exact hk _ _ _ (zconso rfl (zconso (zvo (rfl : i3 x1 = i3 x1)) (zconso rfl rfl)))  (by omega) (by omega)  hP
  · replace hP := zE_n hP h2
    refine wz_br (i3E (rfl : i3 x1 = i3 x1) (show (0 : Int32) = i3 0 from rfl) (by omega) (by omega) (by omega) (by omega)) (fun h3 => ?_) (fun h3 => ?_)
    · replace hP := zE_p hP h3
      obtain ⟨m2, rfl⟩ : ∃ m2, m = m2 + 1 := ⟨m - 1, by omega⟩
      exact wz_k1 ⟨m2, by omega, 0, (x2 + 1), (zconso rfl (zconso (zvo (show (0 : Int32) = i3 0 from rfl)) (zconso (zvo (i3A (rfl : i3 x2 = i3 x2) (show (1 : Int32) = i3 1 from rfl))) rfl))), rfl,  by omega, by omega, by omega,  hP⟩
    · replace hP := zE_n hP h3
      refine wz_i1 (Eq.trans (i3NE (rfl : i3 x2 = i3 x2) (show (6 : Int32) = i3 6 from rfl) (by omega) (by omega) (by omega) (by omega)) (decide_eq_true (by omega))) ?_
      refine wz_i0 (i3O (n := 4400) (i3A (i3A (show (1210 : Int32) = i3 1210 from rfl) (i3M (show (12 : Int32) = i3 12 from rfl) (rfl : i3 x2 = i3 x2))) (show (0 : Int32) = i3 0 from rfl)) (by omega) (by omega) (by omega)) ?_
      obtain ⟨v4, hv4, c9, lv4, uv4⟩ := sp_488 (ν := ν) hZ (a1 := x2) (by omega) (zbh (c := 0) (k := 0) hM (Nat.le_of_ble_eq_true rfl))
      replace hP := zl_e hP hv4
      refine wz_cI_of (zas (zcons rfl (zcons (zvi (rfl : i3 x2 = i3 x2)) rfl)) c9) ?_
      clear c9
      have r5 := zM_k hZ 2 0 0 (1210 + 12 * x2) (lo := 0) (hi := 12) (by decide) (zs_1210_0 (x := x2) (by omega) (by omega) (by omega))
      refine wz_br (i3L (i3S (zm_rd (Z := Z) (ν := ν) (k := 2) (show ((0 : Nat) : Int) = 0 from rfl) (show ((0 : Nat) : Int) = 0 from rfl) (i3I (y := (1210 + 12 * x2)) (i3A (i3A (show (1210 : Int32) = i3 1210 from rfl) (i3M (show (12 : Int32) = i3 12 from rfl) (rfl : i3 x2 = i3 x2))) (show (0 : Int32) = i3 0 from rfl)) (by omega) (by omega) (by omega))) (rfl : i3 v4 = i3 v4)) (show (0 : Int32) = i3 0 from rfl) (by omega) (by omega) (by omega) (by omega)) (fun h6 => ?_) (fun h6 => ?_)
      · replace hP := zE_p hP h6
        obtain ⟨m2, rfl⟩ : ∃ m2, m = m2 + 1 := ⟨m - 1, by omega⟩
        exact wz_k1 ⟨m2, by omega, 0, (x2 + 1), (zconso rfl (zconso (zvo (show (0 : Int32) = i3 0 from rfl)) (zconso (zvo (i3A (rfl : i3 x2 = i3 x2) (show (1 : Int32) = i3 1 from rfl))) rfl))), rfl,  by omega, by omega, by omega,  hP⟩
      · replace hP := zE_n hP h6
        refine wz_i0 (i3O (n := 4400) (i3A (i3A (show (1210 : Int32) = i3 1210 from rfl) (i3M (show (12 : Int32) = i3 12 from rfl) (rfl : i3 x2 = i3 x2))) (show (5 : Int32) = i3 5 from rfl)) (by omega) (by omega) (by omega)) ?_
        have r7 := zM_k hZ 2 0 0 (1215 + 12 * x2) (lo := 0) (hi := 40) (by decide) (zs_1210_5 (x := x2) (by omega) (by omega) (by omega))
        refine wz_i0 (Eq.trans (i3L (zm_rd (Z := Z) (ν := ν) (k := 2) (show ((0 : Nat) : Int) = 0 from rfl) (show ((0 : Nat) : Int) = 0 from rfl) (i3I (y := (1215 + 12 * x2)) (i3A (i3A (show (1210 : Int32) = i3 1210 from rfl) (i3M (show (12 : Int32) = i3 12 from rfl) (rfl : i3 x2 = i3 x2))) (show (5 : Int32) = i3 5 from rfl)) (by omega) (by omega) (by omega))) (show (0 : Int32) = i3 0 from rfl) (by omega) (by omega) (by omega) (by omega)) (decide_eq_false (by omega))) ?_
        refine wz_i0 (Eq.trans (i3L (show (40 : Int32) = i3 40 from rfl) (zm_rd (Z := Z) (ν := ν) (k := 2) (show ((0 : Nat) : Int) = 0 from rfl) (show ((0 : Nat) : Int) = 0 from rfl) (i3I (y := (1215 + 12 * x2)) (i3A (i3A (show (1210 : Int32) = i3 1210 from rfl) (i3M (show (12 : Int32) = i3 12 from rfl) (rfl : i3 x2 = i3 x2))) (show (5 : Int32) = i3 5 from rfl)) (by omega) (by omega) (by omega))) (by omega) (by omega) (by omega) (by omega)) (decide_eq_false (by omega))) ?_
        refine wz_i0 (i3O (n := 4400) (i3A (i3A (show (1210 : Int32) = i3 1210 from rfl) (i3M (show (12 : Int32) = i3 12 from rfl) (rfl : i3 x2 = i3 x2))) (show (3 : Int32) = i3 3 from rfl)) (by omega) (by omega) (by omega)) ?_
        have r8 := zM_k hZ 2 0 0 (1213 + 12 * x2) (lo := 0) (hi := 40) (by decide) (zs_1210_3 (x := x2) (by omega) (by omega) (by omega))
        refine wz_i0 (Eq.trans (i3L (zm_rd (Z := Z) (ν := ν) (k := 2) (show ((0 : Nat) : Int) = 0 from rfl) (show ((0 : Nat) : Int) = 0 from rfl) (i3I (y := (1213 + 12 * x2)) (i3A (i3A (show (1210 : Int32) = i3 1210 from rfl) (i3M (show (12 : Int32) = i3 12 from rfl) (rfl : i3 x2 = i3 x2))) (show (3 : Int32) = i3 3 from rfl)) (by omega) (by omega) (by omega))) (show (0 : Int32) = i3 0 from rfl) (by omega) (by omega) (by omega) (by omega)) (decide_eq_false (by omega))) ?_
        refine wz_i0 (Eq.trans (i3L (show (40 : Int32) = i3 40 from rfl) (zm_rd (Z := Z) (ν := ν) (k := 2) (show ((0 : Nat) : Int) = 0 from rfl) (show ((0 : Nat) : Int) = 0 from rfl) (i3I (y := (1213 + 12 * x2)) (i3A (i3A (show (1210 : Int32) = i3 1210 from rfl) (i3M (show (12 : Int32) = i3 12 from rfl) (rfl : i3 x2 = i3 x2))) (show (3 : Int32) = i3 3 from rfl)) (by omega) (by omega) (by omega))) (by omega) (by omega) (by omega) (by omega)) (decide_eq_false (by omega))) ?_
        refine wz_i0 (i3O (n := 4400) (i3A (i3A (show (1210 : Int32) = i3 1210 from rfl) (i3M (show (12 : Int32) = i3 12 from rfl) (rfl : i3 x2 = i3 x2))) (show (7 : Int32) = i3 7 from rfl)) (by omega) (by omega) (by omega)) ?_
        have r9 := zM_k hZ 2 0 0 0 (lo := 0) (hi := 671) (by decide) rfl
        have r10 := zM_f hZ 2 0 0 (1217 + 12 * x2)
        refine wz_br (i3L (zm_rd (Z := Z) (ν := ν) (k := 2) (show ((0 : Nat) : Int) = 0 from rfl) (show ((0 : Nat) : Int) = 0 from rfl) (show ((0 : Nat) : Int) = 0 from rfl)) (zm_rd (Z := Z) (ν := ν) (k := 2) (show ((0 : Nat) : Int) = 0 from rfl) (show ((0 : Nat) : Int) = 0 from rfl) (i3I (y := (1217 + 12 * x2)) (i3A (i3A (show (1210 : Int32) = i3 1210 from rfl) (i3M (show (12 : Int32) = i3 12 from rfl) (rfl : i3 x2 = i3 x2))) (show (7 : Int32) = i3 7 from rfl)) (by omega) (by omega) (by omega))) (by omega) (by omega) (by omega) (by omega)) (fun h11 => ?_) (fun h11 => ?_)
        · replace hP := zE_p hP h11
          obtain ⟨m2, rfl⟩ : ∃ m2, m = m2 + 1 := ⟨m - 1, by omega⟩
          exact wz_k1 ⟨m2, by omega, 0, (x2 + 1), (zconso rfl (zconso (zvo (show (0 : Int32) = i3 0 from rfl)) (zconso (zvo (i3A (rfl : i3 x2 = i3 x2) (show (1 : Int32) = i3 1 from rfl))) rfl))), rfl,  by omega, by omega, by omega,  hP⟩
        · replace hP := zE_n hP h11
          obtain ⟨m2, rfl⟩ : ∃ m2, m = m2 + 1 := ⟨m - 1, by omega⟩
          exact wz_k1 ⟨m2, by omega, 1, (x2 + 1), (zconso rfl (zconso (zvo (show (1 : Int32) = i3 1 from rfl)) (zconso (zvo (i3A (rfl : i3 x2 = i3 x2) (show (1 : Int32) = i3 1 from rfl))) rfl))), rfl,  by omega, by omega, by omega,  hP⟩
/- yX12_rSound -/
def zl_487_3 : Nat → qz_Z → Int → Int → Int × Int
  | 0, Z, x1, x2 => (x1, x2)
  | m + 1, Z, x1, x2 => (if (Z 2 0 0 2000) ≤ x2 then (x1, x2) else (if x1 = 0 then zl_487_3 m Z 0 (x2 + 1) else (zlet (zf_473 Z x2) (fun v4 => (if v4 = 0 then zl_487_3 m Z 0 (x2 + 1) else zl_487_3 m Z 1 (x2 + 1))))))
theorem sl_487_3 {s : zSM} {Z : qz_Z} {ν : qz_N} (hZ : zM s Z) (hM : s.2 + 0 ≤ 1000000000) {x1 : Int} (gx1 : 0 ≤ x1 ∧ x1 ≤ 1) {x2 : Int} (gx2 : 0 ≤ x2 ∧ x2 ≤ 60) {k : wz_K} {R : wz_R} {L : qz_L} (hL : qz_fg [true, true, true] L = [some (.inr (.inr (some (1, 0, 0)))), some (.inl (i3 x1)), some (.inl (i3 x2))]) {T : Int × Int} (hP : zE T (zl_487_3 ((60 - x2).toNat + 1) Z x1 x2)) (hk : ∀ (L9 : qz_L) (yx1 yx2 : Int), qz_fg [false, true, false] L9 = [none, some (.inl (i3 yx1)), none] → (0 ≤ yx1 ∧ yx1 ≤ 1) → (0 ≤ yx2 ∧ yx2 ≤ 60) → zE T ((yx1, yx2)) → k 0 (L9, [], zm Z ν)) : wz_loop qb_487_3 65536 k R (L, [], zm Z ν) := by
  refine wz_lp sb_487_3 (fun m x => ∃ x1 : Int, ∃ x2 : Int, qz_fg [true, true, true] x.1 = [some (.inr (.inr (some (1, 0, 0)))), some (.inl (i3 x1)), some (.inl (i3 x2))] ∧ x.2 = ([], zm Z ν) ∧ m = (60 - x2).toNat ∧ (0 ≤ x1 ∧ x1 ≤ 1) ∧ (0 ≤ x2 ∧ x2 ≤ 60) ∧ zE T (zl_487_3 (m + 1) Z x1 x2)) ?_ 65536 ((60 - x2).toNat) _ (by omega) ⟨x1, x2, hL, rfl, rfl, gx1, gx2, hP⟩
  clear hP gx1 gx2 hL
  clear x1 x2
  rintro m ⟨L, st, μ⟩ ⟨x1, x2, hL, hx, hm, gx1, gx2, hP⟩
  cases hx
  refine fb_487_3 (i3 x1) (i3 x2) _ _ _ _ hL ?_
  have r1 := zM_k hZ 2 0 0 2000 (lo := 0) (hi := 60) (by decide) rfl
  refine wz_br (i3Le (zm_rd (Z := Z) (ν := ν) (k := 2) (show ((0 : Nat) : Int) = 0 from rfl) (show ((0 : Nat) : Int) = 0 from rfl) (show ((2000 : Nat) : Int) = 2000 from rfl)) (rfl : i3 x2 = i3 x2) (by omega) (by omega) (by omega) (by omega)) (fun h2 => ?_) (fun h2 => ?_)
  · replace hP := zE_p hP h2
    exact hk _ _ _ (zconso rfl (zconso (zvo (rfl : i3 x1 = i3 x1)) (zconso rfl rfl)))  (by omega) (by omega)  hP
  · replace hP := zE_n hP h2
    refine wz_br (i3E (rfl : i3 x1 = i3 x1) (show (0 : Int32) = i3 0 from rfl) (by omega) (by omega) (by omega) (by omega)) (fun h3 => ?_) (fun h3 => ?_)
    · replace hP := zE_p hP h3
      obtain ⟨m2, rfl⟩ : ∃ m2, m = m2 + 1 := ⟨m - 1, by omega⟩
      exact wz_k1 ⟨m2, by omega, 0, (x2 + 1), (zconso rfl (zconso (zvo (show (0 : Int32) = i3 0 from rfl)) (zconso (zvo (i3A (rfl : i3 x2 = i3 x2) (show (1 : Int32) = i3 1 from rfl))) rfl))), rfl,  by omega, by omega, by omega,  hP⟩
    · replace hP := zE_n hP h3
      obtain ⟨v4, hv4, c9, lv4, uv4⟩ := sp_473 (ν := ν) hZ (a1 := x2) (by omega) (zbh (c := 0) (k := 0) hM (Nat.le_of_ble_eq_true rfl))
      replace hP := zl_e hP hv4
      refine wz_cI_of (zas (zcons rfl (zcons (zvi (rfl : i3 x2 = i3 x2)) rfl)) c9) ?_
      clear c9
      refine wz_br (i3E (rfl : i3 v4 = i3 v4) (show (0 : Int32) = i3 0 from rfl) (by omega) (by omega) (by omega) (by omega)) (fun h5 => ?_) (fun h5 => ?_)
      · replace hP := zE_p hP h5
        obtain ⟨m2, rfl⟩ : ∃ m2, m = m2 + 1 := ⟨m - 1, by omega⟩
        exact wz_k1 ⟨m2, by omega, 0, (x2 + 1), (zconso rfl (zconso (zvo (show (0 : Int32) = i3 0 from rfl)) (zconso (zvo (i3A (rfl : i3 x2 = i3 x2) (show (1 : Int32) = i3 1 from rfl))) rfl))), rfl,  by omega, by omega, by omega,  hP⟩
      · replace hP := zE_n hP h5
        obtain ⟨m2, rfl⟩ : ∃ m2, m = m2 + 1 := ⟨m - 1, by omega⟩
        exact wz_k1 ⟨m2, by omega, 1, (x2 + 1), (zconso rfl (zconso (zvo (show (1 : Int32) = i3 1 from rfl)) (zconso (zvo (i3A (rfl : i3 x2 = i3 x2) (show (1 : Int32) = i3 1 from rfl))) rfl))), rfl,  by omega, by omega, by omega,  hP⟩
/- yX12_rSound -/
def zf_487 (Z : qz_Z) : Int := (zlet2 (zl_487_1 49 Z 1 0) (fun y1 y2 => (zlet2 (zl_487_2 7 Z y1 0) (fun y4 y5 => (zlet2 (zl_487_3 61 Z y4 0) (fun y7 y8 => y7))))))
theorem sp_487 {s : zSM} {Z : qz_Z} {ν : qz_N} (hZ : zM s Z) (hM : s.2 + 0 ≤ 1000000000) : ∃ P : Int, P = zf_487 Z ∧ (qf_487 [.inr (.inr (some (1, 0, 0)))] (zm Z ν) = some (zm Z ν, .inl (some (.inl (i3 P)))) ∧ 0 ≤ P ∧ P ≤ 1) := by
  obtain ⟨P, hP⟩ := zx (zf_487 Z)
  refine zc_R (Q := fun P => 0 ≤ P ∧ P ≤ 1) hP (fw_487  _ _ ?_)
  replace hP : zE P (zf_487 Z) := hP
  unfold zf_487 at hP
  refine sl_487_1 (ν := ν) hZ (zbh (c := 0) (k := 0) hM (Nat.le_of_ble_eq_true rfl)) (x1 := 1) (by omega) (x2 := 0) (by omega)  (zconso rfl (zconso (zvo (show (1 : Int32) = i3 1 from rfl)) (zconso (zvo (show (0 : Int32) = i3 0 from rfl)) rfl))) rfl ?_
  intro L3 y1 y2 hL3 gy1 gy2 q9
  replace hP := zl_e2 hP (Eq.symm q9)
  clear q9
  refine fc_487_6 (i3 y1) _ _ _ _ hL3 ?_
  refine sl_487_2 (ν := ν) hZ (zbh (c := 0) (k := 0) hM (Nat.le_of_ble_eq_true rfl)) (x1 := y1) (by omega) (x2 := 0) (by omega)  (zconso rfl (zconso (zvo (rfl : i3 y1 = i3 y1)) (zconso (zvo (show (0 : Int32) = i3 0 from rfl)) rfl))) rfl ?_
  intro L6 y4 y5 hL6 gy4 gy5 q9
  replace hP := zl_e2 hP (Eq.symm q9)
  clear q9
  refine fc_487_5 (i3 y4) _ _ _ _ hL6 ?_
  refine sl_487_3 (ν := ν) hZ (zbh (c := 0) (k := 0) hM (Nat.le_of_ble_eq_true rfl)) (x1 := y4) (by omega) (x2 := 0) (by omega)  (zconso rfl (zconso (zvo (rfl : i3 y4 = i3 y4)) (zconso (zvo (show (0 : Int32) = i3 0 from rfl)) rfl))) rfl ?_
  intro L9 y7 y8 hL9 gy7 gy8 q9
  replace hP := zl_e2 hP (Eq.symm q9)
  clear q9
  refine fc_487_4 (i3 y7) _ _ _ _ hL9 ?_
  refine wz_i1 (i3B (rfl : i3 y7 = i3 y7) (by omega)) ?_
  exact zlR hP (rfl : i3 y7 = i3 y7) ⟨by omega, by omega⟩
/- yX12_bBuyerSound -/
def zl_264_1 (x1 : Int) : Nat → qz_Z → Int → Int → Int × Int
  | 0, Z, x2, x3 => (x2, x3)
  | m + 1, Z, x2, x3 => (if (Z 2 0 0 2000) ≤ x3 then (x2, x3) else (if (Z 2 0 0 (2011 + 16 * x3)) ≠ x1 then zl_264_1 x1 m Z (x2 + 0) (x3 + 1) else (if (Z 2 0 0 (2019 + 16 * x3)) = 3 then zl_264_1 x1 m Z (x2 + 0) (x3 + 1) else zl_264_1 x1 m Z (w3 (x2 + ((Z 2 0 0 (2013 + 16 * x3)) * (Z 2 0 0 (2015 + 16 * x3))))) (x3 + 1))))
theorem sl_264_1 {s : zSM} {Z : qz_Z} {ν : qz_N} (hZ : zM s Z) (hM : s.2 + 0 ≤ 1000000000) {x1 : Int} (gx1 : 0 ≤ x1 ∧ x1 ≤ 7) {x2 : Int} (gx2 : -2147483648 ≤ x2 ∧ x2 ≤ 2147483647) {x3 : Int} (gx3 : 0 ≤ x3 ∧ x3 ≤ 60) {k : wz_K} {R : wz_R} {L : qz_L} (hL : qz_fg [true, true, true, true] L = [some (.inr (.inr (some (1, 0, 0)))), some (.inl (i3 x1)), some (.inl (i3 x2)), some (.inl (i3 x3))]) {T : Int × Int} (hP : zE T (zl_264_1 x1 ((60 - x3).toNat + 1) Z x2 x3)) (hk : ∀ (L9 : qz_L) (yx2 yx3 : Int), qz_fg [true, true, true, false] L9 = [some (.inr (.inr (some (1, 0, 0)))), some (.inl (i3 x1)), some (.inl (i3 yx2)), none] → (-2147483648 ≤ yx2 ∧ yx2 ≤ 2147483647) → (0 ≤ yx3 ∧ yx3 ≤ 60) → zE T ((yx2, yx3)) → k 0 (L9, [], zm Z ν)) : wz_loop qb_264_1 65536 k R (L, [], zm Z ν) := by
  refine wz_lp sb_264_1 (fun m x => ∃ x2 : Int, ∃ x3 : Int, qz_fg [true, true, true, true] x.1 = [some (.inr (.inr (some (1, 0, 0)))), some (.inl (i3 x1)), some (.inl (i3 x2)), some (.inl (i3 x3))] ∧ x.2 = ([], zm Z ν) ∧ m = (60 - x3).toNat ∧ (-2147483648 ≤ x2 ∧ x2 ≤ 2147483647) ∧ (0 ≤ x3 ∧ x3 ≤ 60) ∧ zE T (zl_264_1 x1 (m + 1) Z x2 x3)) ?_ 65536 ((60 - x3).toNat) _ (by omega) ⟨x2, x3, hL, rfl, rfl, gx2, gx3, hP⟩
  clear hP gx2 gx3 hL
  clear x2 x3
  rintro m ⟨L, st, μ⟩ ⟨x2, x3, hL, hx, hm, gx2, gx3, hP⟩
  cases hx
  refine fb_264_1 (i3 x1) (i3 x2) (i3 x3) _ _ _ _ hL ?_
  have r1 := zM_k hZ 2 0 0 2000 (lo := 0) (hi := 60) (by decide) rfl
  refine wz_br (i3Le (zm_rd (Z := Z) (ν := ν) (k := 2) (show ((0 : Nat) : Int) = 0 from rfl) (show ((0 : Nat) : Int) = 0 from rfl) (show ((2000 : Nat) : Int) = 2000 from rfl)) (rfl : i3 x3 = i3 x3) (by omega) (by omega) (by omega) (by omega)) (fun h2 => ?_) (fun h2 => ?_)
  · replace hP := zE_p hP h2
    exact hk _ _ _ (zconso rfl (zconso (zvo (rfl : i3 x1 = i3 x1)) (zconso (zvo (rfl : i3 x2 = i3 x2)) (zconso rfl rfl))))  (by omega) (by omega)  hP
  · replace hP := zE_n hP h2
    refine wz_i0 (i3O (n := 4400) (i3A (i3A (show (2010 : Int32) = i3 2010 from rfl) (i3M (show (16 : Int32) = i3 16 from rfl) (rfl : i3 x3 = i3 x3))) (show (1 : Int32) = i3 1 from rfl)) (by omega) (by omega) (by omega)) ?_
    have r3 := zM_k hZ 2 0 0 (2011 + 16 * x3) (lo := 0) (hi := 7) (by decide) (zs_2010_1 (x := x3) (by omega) (by omega) (by omega))
    refine wz_br (i3NE (zm_rd (Z := Z) (ν := ν) (k := 2) (show ((0 : Nat) : Int) = 0 from rfl) (show ((0 : Nat) : Int) = 0 from rfl) (i3I (y := (2011 + 16 * x3)) (i3A (i3A (show (2010 : Int32) = i3 2010 from rfl) (i3M (show (16 : Int32) = i3 16 from rfl) (rfl : i3 x3 = i3 x3))) (show (1 : Int32) = i3 1 from rfl)) (by omega) (by omega) (by omega))) (rfl : i3 x1 = i3 x1) (by omega) (by omega) (by omega) (by omega)) (fun h4 => ?_) (fun h4 => ?_)
    · replace hP := zE_p hP h4
      obtain ⟨m2, rfl⟩ : ∃ m2, m = m2 + 1 := ⟨m - 1, by omega⟩
      exact wz_k1 ⟨m2, by omega, (x2 + 0), (x3 + 1), (zconso rfl (zconso (zvo (rfl : i3 x1 = i3 x1)) (zconso (zvo (i3A (rfl : i3 x2 = i3 x2) (show (0 : Int32) = i3 0 from rfl))) (zconso (zvo (i3A (rfl : i3 x3 = i3 x3) (show (1 : Int32) = i3 1 from rfl))) rfl)))), rfl,  by omega, by omega, by omega,  hP⟩
    · replace hP := zE_n hP h4
      refine wz_i0 (i3O (n := 4400) (i3A (i3A (show (2010 : Int32) = i3 2010 from rfl) (i3M (show (16 : Int32) = i3 16 from rfl) (rfl : i3 x3 = i3 x3))) (show (9 : Int32) = i3 9 from rfl)) (by omega) (by omega) (by omega)) ?_
      have r5 := zM_k hZ 2 0 0 (2019 + 16 * x3) (lo := 0) (hi := 3) (by decide) (zs_2010_9 (x := x3) (by omega) (by omega) (by omega))
      have r6 := zM_lt2 hZ x3
      refine wz_br (i3E (zm_rd (Z := Z) (ν := ν) (k := 2) (show ((0 : Nat) : Int) = 0 from rfl) (show ((0 : Nat) : Int) = 0 from rfl) (i3I (y := (2019 + 16 * x3)) (i3A (i3A (show (2010 : Int32) = i3 2010 from rfl) (i3M (show (16 : Int32) = i3 16 from rfl) (rfl : i3 x3 = i3 x3))) (show (9 : Int32) = i3 9 from rfl)) (by omega) (by omega) (by omega))) (show (3 : Int32) = i3 3 from rfl) (by omega) (by omega) (by omega) (by omega)) (fun h7 => ?_) (fun h7 => ?_)
      · replace hP := zE_p hP h7
        obtain ⟨m2, rfl⟩ : ∃ m2, m = m2 + 1 := ⟨m - 1, by omega⟩
        exact wz_k1 ⟨m2, by omega, (x2 + 0), (x3 + 1), (zconso rfl (zconso (zvo (rfl : i3 x1 = i3 x1)) (zconso (zvo (i3A (rfl : i3 x2 = i3 x2) (show (0 : Int32) = i3 0 from rfl))) (zconso (zvo (i3A (rfl : i3 x3 = i3 x3) (show (1 : Int32) = i3 1 from rfl))) rfl)))), rfl,  by omega, by omega, by omega,  hP⟩
      · replace hP := zE_n hP h7
        refine wz_i0 (i3O (n := 4400) (i3A (i3A (show (2010 : Int32) = i3 2010 from rfl) (i3M (show (16 : Int32) = i3 16 from rfl) (rfl : i3 x3 = i3 x3))) (show (3 : Int32) = i3 3 from rfl)) (by omega) (by omega) (by omega)) ?_
        refine wz_i0 (i3O (n := 4400) (i3A (i3A (show (2010 : Int32) = i3 2010 from rfl) (i3M (show (16 : Int32) = i3 16 from rfl) (rfl : i3 x3 = i3 x3))) (show (5 : Int32) = i3 5 from rfl)) (by omega) (by omega) (by omega)) ?_
        have r8 := zM_k hZ 2 0 0 (2013 + 16 * x3) (lo := 0) (hi := 40) (by decide) (zs_2010_3 (x := x3) (by omega) (by omega) (by omega))
        have r9 := zM_cr hZ x3
        have r10 := zM_k hZ 2 0 0 (2015 + 16 * x3) (lo := 0) (hi := 9999) (by decide) (zs_2010_5 (x := x3) (by omega) (by omega) (by omega))
        have r11 := z_mul (x := (Z 2 0 0 (2013 + 16 * x3))) (y := (Z 2 0 0 (2015 + 16 * x3))) (a := 40) (b := 9999) (by omega) (by omega) (by omega) (by omega)
        have r12 := w3_r (x2 + ((Z 2 0 0 (2013 + 16 * x3)) * (Z 2 0 0 (2015 + 16 * x3))))
        obtain ⟨m2, rfl⟩ : ∃ m2, m = m2 + 1 := ⟨m - 1, by omega⟩
        exact wz_k1 ⟨m2, by omega, (w3 (x2 + ((Z 2 0 0 (2013 + 16 * x3)) * (Z 2 0 0 (2015 + 16 * x3))))), (x3 + 1), (zconso rfl (zconso (zvo (rfl : i3 x1 = i3 x1)) (zconso (zvo (i3W (i3A (rfl : i3 x2 = i3 x2) (i3M (zm_rd (Z := Z) (ν := ν) (k := 2) (show ((0 : Nat) : Int) = 0 from rfl) (show ((0 : Nat) : Int) = 0 from rfl) (i3I (y := (2013 + 16 * x3)) (i3A (i3A (show (2010 : Int32) = i3 2010 from rfl) (i3M (show (16 : Int32) = i3 16 from rfl) (rfl : i3 x3 = i3 x3))) (show (3 : Int32) = i3 3 from rfl)) (by omega) (by omega) (by omega))) (zm_rd (Z := Z) (ν := ν) (k := 2) (show ((0 : Nat) : Int) = 0 from rfl) (show ((0 : Nat) : Int) = 0 from rfl) (i3I (y := (2015 + 16 * x3)) (i3A (i3A (show (2010 : Int32) = i3 2010 from rfl) (i3M (show (16 : Int32) = i3 16 from rfl) (rfl : i3 x3 = i3 x3))) (show (5 : Int32) = i3 5 from rfl)) (by omega) (by omega) (by omega))))))) (zconso (zvo (i3A (rfl : i3 x3 = i3 x3) (show (1 : Int32) = i3 1 from rfl))) rfl)))), rfl,  by omega, by omega, by omega,  hP⟩
/- yX12_bBuyerSound -/
def zf_264 (Z : qz_Z) (a1 : Int) : Int := (zlet2 (zl_264_1 a1 61 Z 0 0) (fun y1 y2 => (if (Z 2 0 0 (1413 + 12 * a1)) < 0 then 0 else (zlet (zf_289 Z a1) (fun v6 => (if (w3 ((w3 ((Z 2 0 0 (1411 + 12 * a1)) + (Z 2 0 0 (1413 + 12 * a1)))) - v6)) < 0 then 0 else (zlet (zf_289 Z a1) (fun v12 => (if (w3 ((Z 2 0 0 (1415 + 12 * a1)) + (Z 2 0 0 (1416 + 12 * a1)))) ≠ (w3 ((w3 ((Z 2 0 0 (1413 + 12 * a1)) + y1)) - v12)) then 0 else 1)))))))))
theorem sp_264 {s : zSM} {Z : qz_Z} {ν : qz_N} (hZ : zM s Z) {a1 : Int} (ga1 : 0 ≤ a1 ∧ a1 ≤ 7) (hM : s.2 + 0 ≤ 1000000000) : ∃ P : Int, P = zf_264 Z a1 ∧ (qf_264 [.inr (.inr (some (1, 0, 0))), .inl (i3 a1)] (zm Z ν) = some (zm Z ν, .inl (some (.inl (i3 P)))) ∧ 0 ≤ P ∧ P ≤ 1) := by
  obtain ⟨P, hP⟩ := zx (zf_264 Z a1)
  refine zc_R (Q := fun P => 0 ≤ P ∧ P ≤ 1) hP (fw_264 (i3 a1) _ _ ?_)
  replace hP : zE P (zf_264 Z a1) := hP
  unfold zf_264 at hP
  refine sl_264_1 (ν := ν) hZ (zbh (c := 0) (k := 0) hM (Nat.le_of_ble_eq_true rfl)) (x1 := a1) (by omega) (x2 := 0) (by omega) (x3 := 0) (by omega)  (zconso rfl (zconso (zvo (rfl : i3 a1 = i3 a1)) (zconso (zvo (show (0 : Int32) = i3 0 from rfl)) (zconso (zvo (show (0 : Int32) = i3 0 from rfl)) rfl)))) rfl ?_
  intro L3 y1 y2 hL3 gy1 gy2 q9
  replace hP := zl_e2 hP (Eq.symm q9)
  clear q9
  refine fc_264_2 (i3 a1) (i3 y1) _ _ _ _ hL3 ?_
  refine wz_i0 (i3O (n := 4400) (i3A (i3A (show (1410 : Int32) = i3 1410 from rfl) (i3M (show (12 : Int32) = i3 12 from rfl) (rfl : i3 a1 = i3 a1))) (show (3 : Int32) = i3 3 from rfl)) (by omega) (by omega) (by omega)) ?_
  have r4 := zM_f hZ 2 0 0 (1413 + 12 * a1)
  refine wz_br (i3L (zm_rd (Z := Z) (ν := ν) (k := 2) (show ((0 : Nat) : Int) = 0 from rfl) (show ((0 : Nat) : Int) = 0 from rfl) (i3I (y := (1413 + 12 * a1)) (i3A (i3A (show (1410 : Int32) = i3 1410 from rfl) (i3M (show (12 : Int32) = i3 12 from rfl) (rfl : i3 a1 = i3 a1))) (show (3 : Int32) = i3 3 from rfl)) (by omega) (by omega) (by omega))) (show (0 : Int32) = i3 0 from rfl) (by omega) (by omega) (by omega) (by omega)) (fun h5 => ?_) (fun h5 => ?_)
  · replace hP := zE_p hP h5
    exact zlR hP (show (0 : Int32) = i3 0 from rfl) ⟨by omega, by omega⟩
  · replace hP := zE_n hP h5
    refine wz_i0 (i3O (n := 4400) (i3A (i3A (show (1410 : Int32) = i3 1410 from rfl) (i3M (show (12 : Int32) = i3 12 from rfl) (rfl : i3 a1 = i3 a1))) (show (1 : Int32) = i3 1 from rfl)) (by omega) (by omega) (by omega)) ?_
    refine wz_i0 (i3O (n := 4400) (i3A (i3A (show (1410 : Int32) = i3 1410 from rfl) (i3M (show (12 : Int32) = i3 12 from rfl) (rfl : i3 a1 = i3 a1))) (show (3 : Int32) = i3 3 from rfl)) (by omega) (by omega) (by omega)) ?_
    obtain ⟨v6, hv6, c9, lv6, uv6⟩ := sp_289 (ν := ν) hZ (a1 := a1) (by omega) (zbh (c := 0) (k := 0) hM (Nat.le_of_ble_eq_true rfl))
    replace hP := zl_e hP hv6
    refine wz_cI_of (zas (zcons rfl (zcons (zvi (rfl : i3 a1 = i3 a1)) rfl)) c9) ?_
    clear c9
    have r7 := zrs_e hv6
    have r8 := zM_k hZ 2 0 0 (1411 + 12 * a1) (lo := 0) (hi := 9999999) (by decide) (zs_1410_1 (x := a1) (by omega) (by omega) (by omega))
    have r9 := w3_r ((Z 2 0 0 (1411 + 12 * a1)) + (Z 2 0 0 (1413 + 12 * a1)))
    have r10 := w3_r ((w3 ((Z 2 0 0 (1411 + 12 * a1)) + (Z 2 0 0 (1413 + 12 * a1)))) - v6)
    refine wz_br (i3L (i3W (i3S (i3W (i3A (zm_rd (Z := Z) (ν := ν) (k := 2) (show ((0 : Nat) : Int) = 0 from rfl) (show ((0 : Nat) : Int) = 0 from rfl) (i3I (y := (1411 + 12 * a1)) (i3A (i3A (show (1410 : Int32) = i3 1410 from rfl) (i3M (show (12 : Int32) = i3 12 from rfl) (rfl : i3 a1 = i3 a1))) (show (1 : Int32) = i3 1 from rfl)) (by omega) (by omega) (by omega))) (zm_rd (Z := Z) (ν := ν) (k := 2) (show ((0 : Nat) : Int) = 0 from rfl) (show ((0 : Nat) : Int) = 0 from rfl) (i3I (y := (1413 + 12 * a1)) (i3A (i3A (show (1410 : Int32) = i3 1410 from rfl) (i3M (show (12 : Int32) = i3 12 from rfl) (rfl : i3 a1 = i3 a1))) (show (3 : Int32) = i3 3 from rfl)) (by omega) (by omega) (by omega))))) (rfl : i3 v6 = i3 v6))) (show (0 : Int32) = i3 0 from rfl) (by omega) (by omega) (by omega) (by omega)) (fun h11 => ?_) (fun h11 => ?_)
    · replace hP := zE_p hP h11
      exact zlR hP (show (0 : Int32) = i3 0 from rfl) ⟨by omega, by omega⟩
    · replace hP := zE_n hP h11
      refine wz_i0 (i3O (n := 4400) (i3A (i3A (show (1410 : Int32) = i3 1410 from rfl) (i3M (show (12 : Int32) = i3 12 from rfl) (rfl : i3 a1 = i3 a1))) (show (5 : Int32) = i3 5 from rfl)) (by omega) (by omega) (by omega)) ?_
      refine wz_i0 (i3O (n := 4400) (i3A (i3A (show (1410 : Int32) = i3 1410 from rfl) (i3M (show (12 : Int32) = i3 12 from rfl) (rfl : i3 a1 = i3 a1))) (show (6 : Int32) = i3 6 from rfl)) (by omega) (by omega) (by omega)) ?_
      refine wz_i0 (i3O (n := 4400) (i3A (i3A (show (1410 : Int32) = i3 1410 from rfl) (i3M (show (12 : Int32) = i3 12 from rfl) (rfl : i3 a1 = i3 a1))) (show (3 : Int32) = i3 3 from rfl)) (by omega) (by omega) (by omega)) ?_
      obtain ⟨v12, hv12, c9, lv12, uv12⟩ := sp_289 (ν := ν) hZ (a1 := a1) (by omega) (zbh (c := 0) (k := 0) hM (Nat.le_of_ble_eq_true rfl))
      replace hP := zl_e hP hv12
      refine wz_cI_of (zas (zcons rfl (zcons (zvi (rfl : i3 a1 = i3 a1)) rfl)) c9) ?_
      clear c9
      have r13 := zrs_e hv12
      have r14 := zM_f hZ 2 0 0 (1415 + 12 * a1)
      have r15 := zM_f hZ 2 0 0 (1416 + 12 * a1)
      have r16 := w3_r ((Z 2 0 0 (1415 + 12 * a1)) + (Z 2 0 0 (1416 + 12 * a1)))
      have r17 := w3_r ((Z 2 0 0 (1413 + 12 * a1)) + y1)
      have r18 := w3_r ((w3 ((Z 2 0 0 (1413 + 12 * a1)) + y1)) - v12)
      refine wz_br (i3NE (i3W (i3A (zm_rd (Z := Z) (ν := ν) (k := 2) (show ((0 : Nat) : Int) = 0 from rfl) (show ((0 : Nat) : Int) = 0 from rfl) (i3I (y := (1415 + 12 * a1)) (i3A (i3A (show (1410 : Int32) = i3 1410 from rfl) (i3M (show (12 : Int32) = i3 12 from rfl) (rfl : i3 a1 = i3 a1))) (show (5 : Int32) = i3 5 from rfl)) (by omega) (by omega) (by omega))) (zm_rd (Z := Z) (ν := ν) (k := 2) (show ((0 : Nat) : Int) = 0 from rfl) (show ((0 : Nat) : Int) = 0 from rfl) (i3I (y := (1416 + 12 * a1)) (i3A (i3A (show (1410 : Int32) = i3 1410 from rfl) (i3M (show (12 : Int32) = i3 12 from rfl) (rfl : i3 a1 = i3 a1))) (show (6 : Int32) = i3 6 from rfl)) (by omega) (by omega) (by omega))))) (i3W (i3S (i3W (i3A (zm_rd (Z := Z) (ν := ν) (k := 2) (show ((0 : Nat) : Int) = 0 from rfl) (show ((0 : Nat) : Int) = 0 from rfl) (i3I (y := (1413 + 12 * a1)) (i3A (i3A (show (1410 : Int32) = i3 1410 from rfl) (i3M (show (12 : Int32) = i3 12 from rfl) (rfl : i3 a1 = i3 a1))) (show (3 : Int32) = i3 3 from rfl)) (by omega) (by omega) (by omega))) (rfl : i3 y1 = i3 y1))) (rfl : i3 v12 = i3 v12))) (by omega) (by omega) (by omega) (by omega)) (fun h19 => ?_) (fun h19 => ?_)
      · replace hP := zE_p hP h19
        exact zlR hP (show (0 : Int32) = i3 0 from rfl) ⟨by omega, by omega⟩
      · replace hP := zE_n hP h19
        exact zlR hP (show (1 : Int32) = i3 1 from rfl) ⟨by omega, by omega⟩
/- yX12_bSound -/
def zl_285_1 : Nat → qz_Z → Int → Int → Int × Int
  | 0, Z, x1, x2 => (x1, x2)
  | m + 1, Z, x1, x2 => (if (Z 2 0 0 1400) ≤ x2 then (x1, x2) else (if x1 = 0 then zl_285_1 m Z 0 (x2 + 1) else (zlet (zf_264 Z x2) (fun v4 => (if v4 = 0 then zl_285_1 m Z 0 (x2 + 1) else zl_285_1 m Z 1 (x2 + 1))))))
theorem sl_285_1 {s : zSM} {Z : qz_Z} {ν : qz_N} (hZ : zM s Z) (hM : s.2 + 0 ≤ 1000000000) {x1 : Int} (gx1 : 0 ≤ x1 ∧ x1 ≤ 1) {x2 : Int} (gx2 : 0 ≤ x2 ∧ x2 ≤ 8) {k : wz_K} {R : wz_R} {L : qz_L} (hL : qz_fg [true, true, true] L = [some (.inr (.inr (some (1, 0, 0)))), some (.inl (i3 x1)), some (.inl (i3 x2))]) {T : Int × Int} (hP : zE T (zl_285_1 ((8 - x2).toNat + 1) Z x1 x2)) (hk : ∀ (L9 : qz_L) (yx1 yx2 : Int), qz_fg [true, true, false] L9 = [some (.inr (.inr (some (1, 0, 0)))), some (.inl (i3 yx1)), none] → (0 ≤ yx1 ∧ yx1 ≤ 1) → (0 ≤ yx2 ∧ yx2 ≤ 8) → zE T ((yx1, yx2)) → k 0 (L9, [], zm Z ν)) : wz_loop qb_285_1 65536 k R (L, [], zm Z ν) := by
  refine wz_lp sb_285_1 (fun m x => ∃ x1 : Int, ∃ x2 : Int, qz_fg [true, true, true] x.1 = [some (.inr (.inr (some (1, 0, 0)))), some (.inl (i3 x1)), some (.inl (i3 x2))] ∧ x.2 = ([], zm Z ν) ∧ m = (8 - x2).toNat ∧ (0 ≤ x1 ∧ x1 ≤ 1) ∧ (0 ≤ x2 ∧ x2 ≤ 8) ∧ zE T (zl_285_1 (m + 1) Z x1 x2)) ?_ 65536 ((8 - x2).toNat) _ (by omega) ⟨x1, x2, hL, rfl, rfl, gx1, gx2, hP⟩
  clear hP gx1 gx2 hL
  clear x1 x2
  rintro m ⟨L, st, μ⟩ ⟨x1, x2, hL, hx, hm, gx1, gx2, hP⟩
  cases hx
  refine fb_285_1 (i3 x1) (i3 x2) _ _ _ _ hL ?_
  have r1 := zM_k hZ 2 0 0 1400 (lo := 0) (hi := 8) (by decide) rfl
  refine wz_br (i3Le (zm_rd (Z := Z) (ν := ν) (k := 2) (show ((0 : Nat) : Int) = 0 from rfl) (show ((0 : Nat) : Int) = 0 from rfl) (show ((1400 : Nat) : Int) = 1400 from rfl)) (rfl : i3 x2 = i3 x2) (by omega) (by omega) (by omega) (by omega)) (fun h2 => ?_) (fun h2 => ?_)
  · replace hP := zE_p hP h2
    exact hk _ _ _ (zconso rfl (zconso (zvo (rfl : i3 x1 = i3 x1)) (zconso rfl rfl)))  (by omega) (by omega)  hP
  · replace hP := zE_n hP h2
    refine wz_br (i3E (rfl : i3 x1 = i3 x1) (show (0 : Int32) = i3 0 from rfl) (by omega) (by omega) (by omega) (by omega)) (fun h3 => ?_) (fun h3 => ?_)
    · replace hP := zE_p hP h3
      obtain ⟨m2, rfl⟩ : ∃ m2, m = m2 + 1 := ⟨m - 1, by omega⟩
      exact wz_k1 ⟨m2, by omega, 0, (x2 + 1), (zconso rfl (zconso (zvo (show (0 : Int32) = i3 0 from rfl)) (zconso (zvo (i3A (rfl : i3 x2 = i3 x2) (show (1 : Int32) = i3 1 from rfl))) rfl))), rfl,  by omega, by omega, by omega,  hP⟩
    · replace hP := zE_n hP h3
      obtain ⟨v4, hv4, c9, lv4, uv4⟩ := sp_264 (ν := ν) hZ (a1 := x2) (by omega) (zbh (c := 0) (k := 0) hM (Nat.le_of_ble_eq_true rfl))
      replace hP := zl_e hP hv4
      refine wz_cI_of (zas (zcons rfl (zcons (zvi (rfl : i3 x2 = i3 x2)) rfl)) c9) ?_
      clear c9
      refine wz_br (i3E (rfl : i3 v4 = i3 v4) (show (0 : Int32) = i3 0 from rfl) (by omega) (by omega) (by omega) (by omega)) (fun h5 => ?_) (fun h5 => ?_)
      · replace hP := zE_p hP h5
        obtain ⟨m2, rfl⟩ : ∃ m2, m = m2 + 1 := ⟨m - 1, by omega⟩
        exact wz_k1 ⟨m2, by omega, 0, (x2 + 1), (zconso rfl (zconso (zvo (show (0 : Int32) = i3 0 from rfl)) (zconso (zvo (i3A (rfl : i3 x2 = i3 x2) (show (1 : Int32) = i3 1 from rfl))) rfl))), rfl,  by omega, by omega, by omega,  hP⟩
      · replace hP := zE_n hP h5
        obtain ⟨m2, rfl⟩ : ∃ m2, m = m2 + 1 := ⟨m - 1, by omega⟩
        exact wz_k1 ⟨m2, by omega, 1, (x2 + 1), (zconso rfl (zconso (zvo (show (1 : Int32) = i3 1 from rfl)) (zconso (zvo (i3A (rfl : i3 x2 = i3 x2) (show (1 : Int32) = i3 1 from rfl))) rfl))), rfl,  by omega, by omega, by omega,  hP⟩
/- yX12_bSound -/
def zl_285_2 : Nat → qz_Z → Int → Int → Int × Int
  | 0, Z, x1, x2 => (x1, x2)
  | m + 1, Z, x1, x2 => (if (Z 2 0 0 2000) ≤ x2 then (x1, x2) else (if x1 = 0 then zl_285_2 m Z 0 (x2 + 1) else (if (Z 2 0 0 (2019 + 16 * x2)) ≠ 3 then (if (Z 2 0 0 (1810 + 2 * x2)) < 0 then zl_285_2 m Z 0 (x2 + 1) else (if ((Z 2 0 0 (2013 + 16 * x2)) * (Z 2 0 0 (2015 + 16 * x2))) < (Z 2 0 0 (1810 + 2 * x2)) then zl_285_2 m Z 0 (x2 + 1) else zl_285_2 m Z 1 (x2 + 1))) else (if (Z 2 0 0 (1810 + 2 * x2)) < 0 then zl_285_2 m Z 0 (x2 + 1) else (if 0 < (Z 2 0 0 (1810 + 2 * x2)) then zl_285_2 m Z 0 (x2 + 1) else zl_285_2 m Z 1 (x2 + 1))))))
theorem sl_285_2 {s : zSM} {Z : qz_Z} {ν : qz_N} (hZ : zM s Z) (hM : s.2 + 0 ≤ 1000000000) {x1 : Int} (gx1 : 0 ≤ x1 ∧ x1 ≤ 1) {x2 : Int} (gx2 : 0 ≤ x2 ∧ x2 ≤ 60) {k : wz_K} {R : wz_R} {L : qz_L} (hL : qz_fg [true, true, true] L = [some (.inr (.inr (some (1, 0, 0)))), some (.inl (i3 x1)), some (.inl (i3 x2))]) {T : Int × Int} (hP : zE T (zl_285_2 ((60 - x2).toNat + 1) Z x1 x2)) (hk : ∀ (L9 : qz_L) (yx1 yx2 : Int), qz_fg [true, true, false] L9 = [some (.inr (.inr (some (1, 0, 0)))), some (.inl (i3 yx1)), none] → (0 ≤ yx1 ∧ yx1 ≤ 1) → (0 ≤ yx2 ∧ yx2 ≤ 60) → zE T ((yx1, yx2)) → k 0 (L9, [], zm Z ν)) : wz_loop qb_285_2 65536 k R (L, [], zm Z ν) := by
  refine wz_lp sb_285_2 (fun m x => ∃ x1 : Int, ∃ x2 : Int, qz_fg [true, true, true] x.1 = [some (.inr (.inr (some (1, 0, 0)))), some (.inl (i3 x1)), some (.inl (i3 x2))] ∧ x.2 = ([], zm Z ν) ∧ m = (60 - x2).toNat ∧ (0 ≤ x1 ∧ x1 ≤ 1) ∧ (0 ≤ x2 ∧ x2 ≤ 60) ∧ zE T (zl_285_2 (m + 1) Z x1 x2)) ?_ 65536 ((60 - x2).toNat) _ (by omega) ⟨x1, x2, hL, rfl, rfl, gx1, gx2, hP⟩
  clear hP gx1 gx2 hL
  clear x1 x2
  rintro m ⟨L, st, μ⟩ ⟨x1, x2, hL, hx, hm, gx1, gx2, hP⟩
  cases hx
  refine fb_285_2 (i3 x1) (i3 x2) _ _ _ _ hL ?_
  have r1 := zM_k hZ 2 0 0 2000 (lo := 0) (hi := 60) (by decide) rfl
  refine wz_br (i3Le (zm_rd (Z := Z) (ν := ν) (k := 2) (show ((0 : Nat) : Int) = 0 from rfl) (show ((0 : Nat) : Int) = 0 from rfl) (show ((2000 : Nat) : Int) = 2000 from rfl)) (rfl : i3 x2 = i3 x2) (by omega) (by omega) (by omega) (by omega)) (fun h2 => ?_) (fun h2 => ?_)
  · replace hP := zE_p hP h2
    exact hk _ _ _ (zconso rfl (zconso (zvo (rfl : i3 x1 = i3 x1)) (zconso rfl rfl)))  (by omega) (by omega)  hP
  · replace hP := zE_n hP h2
    refine wz_br (i3E (rfl : i3 x1 = i3 x1) (show (0 : Int32) = i3 0 from rfl) (by omega) (by omega) (by omega) (by omega)) (fun h3 => ?_) (fun h3 => ?_)
    · replace hP := zE_p hP h3
      obtain ⟨m2, rfl⟩ : ∃ m2, m = m2 + 1 := ⟨m - 1, by omega⟩
      exact wz_k1 ⟨m2, by omega, 0, (x2 + 1), (zconso rfl (zconso (zvo (show (0 : Int32) = i3 0 from rfl)) (zconso (zvo (i3A (rfl : i3 x2 = i3 x2) (show (1 : Int32) = i3 1 from rfl))) rfl))), rfl,  by omega, by omega, by omega,  hP⟩
    · replace hP := zE_n hP h3
      refine wz_i0 (i3O (n := 4400) (i3A (show (1810 : Int32) = i3 1810 from rfl) (i3M (show (2 : Int32) = i3 2 from rfl) (rfl : i3 x2 = i3 x2))) (by omega) (by omega) (by omega)) ?_
      refine wz_i0 (i3O (n := 4400) (i3A (i3A (show (2010 : Int32) = i3 2010 from rfl) (i3M (show (16 : Int32) = i3 16 from rfl) (rfl : i3 x2 = i3 x2))) (show (9 : Int32) = i3 9 from rfl)) (by omega) (by omega) (by omega)) ?_
      have r4 := zM_k hZ 2 0 0 (2019 + 16 * x2) (lo := 0) (hi := 3) (by decide) (zs_2010_9 (x := x2) (by omega) (by omega) (by omega))
      have r5 := zM_lt2 hZ x2
      refine wz_br (i3NE (zm_rd (Z := Z) (ν := ν) (k := 2) (show ((0 : Nat) : Int) = 0 from rfl) (show ((0 : Nat) : Int) = 0 from rfl) (i3I (y := (2019 + 16 * x2)) (i3A (i3A (show (2010 : Int32) = i3 2010 from rfl) (i3M (show (16 : Int32) = i3 16 from rfl) (rfl : i3 x2 = i3 x2))) (show (9 : Int32) = i3 9 from rfl)) (by omega) (by omega) (by omega))) (show (3 : Int32) = i3 3 from rfl) (by omega) (by omega) (by omega) (by omega)) (fun h6 => ?_) (fun h6 => ?_)
      · replace hP := zE_p hP h6
        refine wz_i0 (i3O (n := 4400) (i3A (i3A (show (2010 : Int32) = i3 2010 from rfl) (i3M (show (16 : Int32) = i3 16 from rfl) (rfl : i3 x2 = i3 x2))) (show (3 : Int32) = i3 3 from rfl)) (by omega) (by omega) (by omega)) ?_
        refine wz_i0 (i3O (n := 4400) (i3A (i3A (show (2010 : Int32) = i3 2010 from rfl) (i3M (show (16 : Int32) = i3 16 from rfl) (rfl : i3 x2 = i3 x2))) (show (5 : Int32) = i3 5 from rfl)) (by omega) (by omega) (by omega)) ?_
        have r7 := zM_f hZ 2 0 0 (1810 + 2 * x2)
        refine wz_br (i3L (zm_rd (Z := Z) (ν := ν) (k := 2) (show ((0 : Nat) : Int) = 0 from rfl) (show ((0 : Nat) : Int) = 0 from rfl) (i3I (y := (1810 + 2 * x2)) (i3A (show (1810 : Int32) = i3 1810 from rfl) (i3M (show (2 : Int32) = i3 2 from rfl) (rfl : i3 x2 = i3 x2))) (by omega) (by omega) (by omega))) (show (0 : Int32) = i3 0 from rfl) (by omega) (by omega) (by omega) (by omega)) (fun h8 => ?_) (fun h8 => ?_)
        · replace hP := zE_p hP h8
          obtain ⟨m2, rfl⟩ : ∃ m2, m = m2 + 1 := ⟨m - 1, by omega⟩
          exact wz_k1 ⟨m2, by omega, 0, (x2 + 1), (zconso rfl (zconso (zvo (show (0 : Int32) = i3 0 from rfl)) (zconso (zvo (i3A (rfl : i3 x2 = i3 x2) (show (1 : Int32) = i3 1 from rfl))) rfl))), rfl,  by omega, by omega, by omega,  hP⟩
        · replace hP := zE_n hP h8
          have r9 := zM_k hZ 2 0 0 (2013 + 16 * x2) (lo := 0) (hi := 40) (by decide) (zs_2010_3 (x := x2) (by omega) (by omega) (by omega))
          have r10 := zM_cr hZ x2
          have r11 := zM_k hZ 2 0 0 (2015 + 16 * x2) (lo := 0) (hi := 9999) (by decide) (zs_2010_5 (x := x2) (by omega) (by omega) (by omega))
          have r12 := z_mul (x := (Z 2 0 0 (2013 + 16 * x2))) (y := (Z 2 0 0 (2015 + 16 * x2))) (a := 40) (b := 9999) (by omega) (by omega) (by omega) (by omega)
          refine wz_br (i3L (i3M (zm_rd (Z := Z) (ν := ν) (k := 2) (show ((0 : Nat) : Int) = 0 from rfl) (show ((0 : Nat) : Int) = 0 from rfl) (i3I (y := (2013 + 16 * x2)) (i3A (i3A (show (2010 : Int32) = i3 2010 from rfl) (i3M (show (16 : Int32) = i3 16 from rfl) (rfl : i3 x2 = i3 x2))) (show (3 : Int32) = i3 3 from rfl)) (by omega) (by omega) (by omega))) (zm_rd (Z := Z) (ν := ν) (k := 2) (show ((0 : Nat) : Int) = 0 from rfl) (show ((0 : Nat) : Int) = 0 from rfl) (i3I (y := (2015 + 16 * x2)) (i3A (i3A (show (2010 : Int32) = i3 2010 from rfl) (i3M (show (16 : Int32) = i3 16 from rfl) (rfl : i3 x2 = i3 x2))) (show (5 : Int32) = i3 5 from rfl)) (by omega) (by omega) (by omega)))) (zm_rd (Z := Z) (ν := ν) (k := 2) (show ((0 : Nat) : Int) = 0 from rfl) (show ((0 : Nat) : Int) = 0 from rfl) (i3I (y := (1810 + 2 * x2)) (i3A (show (1810 : Int32) = i3 1810 from rfl) (i3M (show (2 : Int32) = i3 2 from rfl) (rfl : i3 x2 = i3 x2))) (by omega) (by omega) (by omega))) (by omega) (by omega) (by omega) (by omega)) (fun h13 => ?_) (fun h13 => ?_)
          · replace hP := zE_p hP h13
            obtain ⟨m2, rfl⟩ : ∃ m2, m = m2 + 1 := ⟨m - 1, by omega⟩
            exact wz_k1 ⟨m2, by omega, 0, (x2 + 1), (zconso rfl (zconso (zvo (show (0 : Int32) = i3 0 from rfl)) (zconso (zvo (i3A (rfl : i3 x2 = i3 x2) (show (1 : Int32) = i3 1 from rfl))) rfl))), rfl,  by omega, by omega, by omega,  hP⟩
          · replace hP := zE_n hP h13
            obtain ⟨m2, rfl⟩ : ∃ m2, m = m2 + 1 := ⟨m - 1, by omega⟩
            exact wz_k1 ⟨m2, by omega, 1, (x2 + 1), (zconso rfl (zconso (zvo (show (1 : Int32) = i3 1 from rfl)) (zconso (zvo (i3A (rfl : i3 x2 = i3 x2) (show (1 : Int32) = i3 1 from rfl))) rfl))), rfl,  by omega, by omega, by omega,  hP⟩
      · replace hP := zE_n hP h6
        have r14 := zM_f hZ 2 0 0 (1810 + 2 * x2)
        refine wz_br (i3L (zm_rd (Z := Z) (ν := ν) (k := 2) (show ((0 : Nat) : Int) = 0 from rfl) (show ((0 : Nat) : Int) = 0 from rfl) (i3I (y := (1810 + 2 * x2)) (i3A (show (1810 : Int32) = i3 1810 from rfl) (i3M (show (2 : Int32) = i3 2 from rfl) (rfl : i3 x2 = i3 x2))) (by omega) (by omega) (by omega))) (show (0 : Int32) = i3 0 from rfl) (by omega) (by omega) (by omega) (by omega)) (fun h15 => ?_) (fun h15 => ?_)
        · replace hP := zE_p hP h15
          obtain ⟨m2, rfl⟩ : ∃ m2, m = m2 + 1 := ⟨m - 1, by omega⟩
          exact wz_k1 ⟨m2, by omega, 0, (x2 + 1), (zconso rfl (zconso (zvo (show (0 : Int32) = i3 0 from rfl)) (zconso (zvo (i3A (rfl : i3 x2 = i3 x2) (show (1 : Int32) = i3 1 from rfl))) rfl))), rfl,  by omega, by omega, by omega,  hP⟩
        · replace hP := zE_n hP h15
          refine wz_br (i3L (show (0 : Int32) = i3 0 from rfl) (zm_rd (Z := Z) (ν := ν) (k := 2) (show ((0 : Nat) : Int) = 0 from rfl) (show ((0 : Nat) : Int) = 0 from rfl) (i3I (y := (1810 + 2 * x2)) (i3A (show (1810 : Int32) = i3 1810 from rfl) (i3M (show (2 : Int32) = i3 2 from rfl) (rfl : i3 x2 = i3 x2))) (by omega) (by omega) (by omega))) (by omega) (by omega) (by omega) (by omega)) (fun h16 => ?_) (fun h16 => ?_)
          · replace hP := zE_p hP h16
            obtain ⟨m2, rfl⟩ : ∃ m2, m = m2 + 1 := ⟨m - 1, by omega⟩
            exact wz_k1 ⟨m2, by omega, 0, (x2 + 1), (zconso rfl (zconso (zvo (show (0 : Int32) = i3 0 from rfl)) (zconso (zvo (i3A (rfl : i3 x2 = i3 x2) (show (1 : Int32) = i3 1 from rfl))) rfl))), rfl,  by omega, by omega, by omega,  hP⟩
          · replace hP := zE_n hP h16
            obtain ⟨m2, rfl⟩ : ∃ m2, m = m2 + 1 := ⟨m - 1, by omega⟩
            exact wz_k1 ⟨m2, by omega, 1, (x2 + 1), (zconso rfl (zconso (zvo (show (1 : Int32) = i3 1 from rfl)) (zconso (zvo (i3A (rfl : i3 x2 = i3 x2) (show (1 : Int32) = i3 1 from rfl))) rfl))), rfl,  by omega, by omega, by omega,  hP⟩
/- yX12_bSound -/
def zl_285_3 : Nat → qz_Z → Int → Int → Int × Int
  | 0, Z, x1, x2 => (x1, x2)
  | m + 1, Z, x1, x2 => (if (Z 2 0 0 1401) ≤ x2 then (x1, x2) else (if x1 = 0 then zl_285_3 m Z 0 (x2 + 1) else (if (Z 2 0 0 (1517 + 12 * x2)) ≠ 1 then (if (Z 2 0 0 (1513 + 12 * x2)) < (Z 2 0 0 (1516 + 12 * x2)) then zl_285_3 m Z 0 (x2 + 1) else zl_285_3 m Z 1 (x2 + 1)) else (if 0 < (Z 2 0 0 (1516 + 12 * x2)) then zl_285_3 m Z 0 (x2 + 1) else zl_285_3 m Z 1 (x2 + 1)))))
theorem sl_285_3 {s : zSM} {Z : qz_Z} {ν : qz_N} (hZ : zM s Z) (hM : s.2 + 0 ≤ 1000000000) {x1 : Int} (gx1 : 0 ≤ x1 ∧ x1 ≤ 1) {x2 : Int} (gx2 : 0 ≤ x2 ∧ x2 ≤ 24) {k : wz_K} {R : wz_R} {L : qz_L} (hL : qz_fg [true, true, true] L = [some (.inr (.inr (some (1, 0, 0)))), some (.inl (i3 x1)), some (.inl (i3 x2))]) {T : Int × Int} (hP : zE T (zl_285_3 ((24 - x2).toNat + 1) Z x1 x2)) (hk : ∀ (L9 : qz_L) (yx1 yx2 : Int), qz_fg [false, true, false] L9 = [none, some (.inl (i3 yx1)), none] → (0 ≤ yx1 ∧ yx1 ≤ 1) → (0 ≤ yx2 ∧ yx2 ≤ 24) → zE T ((yx1, yx2)) → k 0 (L9, [], zm Z ν)) : wz_loop qb_285_3 65536 k R (L, [], zm Z ν) := by
  refine wz_lp sb_285_3 (fun m x => ∃ x1 : Int, ∃ x2 : Int, qz_fg [true, true, true] x.1 = [some (.inr (.inr (some (1, 0, 0)))), some (.inl (i3 x1)), some (.inl (i3 x2))] ∧ x.2 = ([], zm Z ν) ∧ m = (24 - x2).toNat ∧ (0 ≤ x1 ∧ x1 ≤ 1) ∧ (0 ≤ x2 ∧ x2 ≤ 24) ∧ zE T (zl_285_3 (m + 1) Z x1 x2)) ?_ 65536 ((24 - x2).toNat) _ (by omega) ⟨x1, x2, hL, rfl, rfl, gx1, gx2, hP⟩
  clear hP gx1 gx2 hL
  clear x1 x2
  rintro m ⟨L, st, μ⟩ ⟨x1, x2, hL, hx, hm, gx1, gx2, hP⟩
  cases hx
  refine fb_285_3 (i3 x1) (i3 x2) _ _ _ _ hL ?_
  have r1 := zM_k hZ 2 0 0 1401 (lo := 0) (hi := 24) (by decide) rfl
  refine wz_br (i3Le (zm_rd (Z := Z) (ν := ν) (k := 2) (show ((0 : Nat) : Int) = 0 from rfl) (show ((0 : Nat) : Int) = 0 from rfl) (show ((1401 : Nat) : Int) = 1401 from rfl)) (rfl : i3 x2 = i3 x2) (by omega) (by omega) (by omega) (by omega)) (fun h2 => ?_) (fun h2 => ?_)
  · replace hP := zE_p hP h2
    exact hk _ _ _ (zconso rfl (zconso (zvo (rfl : i3 x1 = i3 x1)) (zconso rfl rfl)))  (by omega) (by omega)  hP
  · replace hP := zE_n hP h2
    refine wz_br (i3E (rfl : i3 x1 = i3 x1) (show (0 : Int32) = i3 0 from rfl) (by omega) (by omega) (by omega) (by omega)) (fun h3 => ?_) (fun h3 => ?_)
    · replace hP := zE_p hP h3
      obtain ⟨m2, rfl⟩ : ∃ m2, m = m2 + 1 := ⟨m - 1, by omega⟩
      exact wz_k1 ⟨m2, by omega, 0, (x2 + 1), (zconso rfl (zconso (zvo (show (0 : Int32) = i3 0 from rfl)) (zconso (zvo (i3A (rfl : i3 x2 = i3 x2) (show (1 : Int32) = i3 1 from rfl))) rfl))), rfl,  by omega, by omega, by omega,  hP⟩
    · replace hP := zE_n hP h3
      refine wz_i0 (i3O (n := 4400) (i3A (i3A (show (1510 : Int32) = i3 1510 from rfl) (i3M (show (12 : Int32) = i3 12 from rfl) (rfl : i3 x2 = i3 x2))) (show (6 : Int32) = i3 6 from rfl)) (by omega) (by omega) (by omega)) ?_
      refine wz_i0 (i3O (n := 4400) (i3A (i3A (show (1510 : Int32) = i3 1510 from rfl) (i3M (show (12 : Int32) = i3 12 from rfl) (rfl : i3 x2 = i3 x2))) (show (7 : Int32) = i3 7 from rfl)) (by omega) (by omega) (by omega)) ?_
      have r4 := zM_k hZ 2 0 0 (1517 + 12 * x2) (lo := 0) (hi := 1) (by decide) (zs_1510_7 (x := x2) (by omega) (by omega) (by omega))
      refine wz_br (i3NE (zm_rd (Z := Z) (ν := ν) (k := 2) (show ((0 : Nat) : Int) = 0 from rfl) (show ((0 : Nat) : Int) = 0 from rfl) (i3I (y := (1517 + 12 * x2)) (i3A (i3A (show (1510 : Int32) = i3 1510 from rfl) (i3M (show (12 : Int32) = i3 12 from rfl) (rfl : i3 x2 = i3 x2))) (show (7 : Int32) = i3 7 from rfl)) (by omega) (by omega) (by omega))) (show (1 : Int32) = i3 1 from rfl) (by omega) (by omega) (by omega) (by omega)) (fun h5 => ?_) (fun h5 => ?_)
      · replace hP := zE_p hP h5
        refine wz_i0 (i3O (n := 4400) (i3A (i3A (show (1510 : Int32) = i3 1510 from rfl) (i3M (show (12 : Int32) = i3 12 from rfl) (rfl : i3 x2 = i3 x2))) (show (3 : Int32) = i3 3 from rfl)) (by omega) (by omega) (by omega)) ?_
        have r6 := zM_k hZ 2 0 0 (1516 + 12 * x2) (lo := 0) (hi := 99) (by decide) (zs_1510_6 (x := x2) (by omega) (by omega) (by omega))
        refine wz_i0 (Eq.trans (i3L (zm_rd (Z := Z) (ν := ν) (k := 2) (show ((0 : Nat) : Int) = 0 from rfl) (show ((0 : Nat) : Int) = 0 from rfl) (i3I (y := (1516 + 12 * x2)) (i3A (i3A (show (1510 : Int32) = i3 1510 from rfl) (i3M (show (12 : Int32) = i3 12 from rfl) (rfl : i3 x2 = i3 x2))) (show (6 : Int32) = i3 6 from rfl)) (by omega) (by omega) (by omega))) (show (0 : Int32) = i3 0 from rfl) (by omega) (by omega) (by omega) (by omega)) (decide_eq_false (by omega))) ?_
        have r7 := zM_k hZ 2 0 0 (1513 + 12 * x2) (lo := 0) (hi := 99) (by decide) (zs_1510_3 (x := x2) (by omega) (by omega) (by omega))
        refine wz_br (i3L (zm_rd (Z := Z) (ν := ν) (k := 2) (show ((0 : Nat) : Int) = 0 from rfl) (show ((0 : Nat) : Int) = 0 from rfl) (i3I (y := (1513 + 12 * x2)) (i3A (i3A (show (1510 : Int32) = i3 1510 from rfl) (i3M (show (12 : Int32) = i3 12 from rfl) (rfl : i3 x2 = i3 x2))) (show (3 : Int32) = i3 3 from rfl)) (by omega) (by omega) (by omega))) (zm_rd (Z := Z) (ν := ν) (k := 2) (show ((0 : Nat) : Int) = 0 from rfl) (show ((0 : Nat) : Int) = 0 from rfl) (i3I (y := (1516 + 12 * x2)) (i3A (i3A (show (1510 : Int32) = i3 1510 from rfl) (i3M (show (12 : Int32) = i3 12 from rfl) (rfl : i3 x2 = i3 x2))) (show (6 : Int32) = i3 6 from rfl)) (by omega) (by omega) (by omega))) (by omega) (by omega) (by omega) (by omega)) (fun h8 => ?_) (fun h8 => ?_)
        · replace hP := zE_p hP h8
          obtain ⟨m2, rfl⟩ : ∃ m2, m = m2 + 1 := ⟨m - 1, by omega⟩
          exact wz_k1 ⟨m2, by omega, 0, (x2 + 1), (zconso rfl (zconso (zvo (show (0 : Int32) = i3 0 from rfl)) (zconso (zvo (i3A (rfl : i3 x2 = i3 x2) (show (1 : Int32) = i3 1 from rfl))) rfl))), rfl,  by omega, by omega, by omega,  hP⟩
        · replace hP := zE_n hP h8
          obtain ⟨m2, rfl⟩ : ∃ m2, m = m2 + 1 := ⟨m - 1, by omega⟩
          exact wz_k1 ⟨m2, by omega, 1, (x2 + 1), (zconso rfl (zconso (zvo (show (1 : Int32) = i3 1 from rfl)) (zconso (zvo (i3A (rfl : i3 x2 = i3 x2) (show (1 : Int32) = i3 1 from rfl))) rfl))), rfl,  by omega, by omega, by omega,  hP⟩
      · replace hP := zE_n hP h5
        have r9 := zM_k hZ 2 0 0 (1516 + 12 * x2) (lo := 0) (hi := 99) (by decide) (zs_1510_6 (x := x2) (by omega) (by omega) (by omega))
        refine wz_i0 (Eq.trans (i3L (zm_rd (Z := Z) (ν := ν) (k := 2) (show ((0 : Nat) : Int) = 0 from rfl) (show ((0 : Nat) : Int) = 0 from rfl) (i3I (y := (1516 + 12 * x2)) (i3A (i3A (show (1510 : Int32) = i3 1510 from rfl) (i3M (show (12 : Int32) = i3 12 from rfl) (rfl : i3 x2 = i3 x2))) (show (6 : Int32) = i3 6 from rfl)) (by omega) (by omega) (by omega))) (show (0 : Int32) = i3 0 from rfl) (by omega) (by omega) (by omega) (by omega)) (decide_eq_false (by omega))) ?_
        refine wz_br (i3L (show (0 : Int32) = i3 0 from rfl) (zm_rd (Z := Z) (ν := ν) (k := 2) (show ((0 : Nat) : Int) = 0 from rfl) (show ((0 : Nat) : Int) = 0 from rfl) (i3I (y := (1516 + 12 * x2)) (i3A (i3A (show (1510 : Int32) = i3 1510 from rfl) (i3M (show (12 : Int32) = i3 12 from rfl) (rfl : i3 x2 = i3 x2))) (show (6 : Int32) = i3 6 from rfl)) (by omega) (by omega) (by omega))) (by omega) (by omega) (by omega) (by omega)) (fun h10 => ?_) (fun h10 => ?_)
        · replace hP := zE_p hP h10
          obtain ⟨m2, rfl⟩ : ∃ m2, m = m2 + 1 := ⟨m - 1, by omega⟩
          exact wz_k1 ⟨m2, by omega, 0, (x2 + 1), (zconso rfl (zconso (zvo (show (0 : Int32) = i3 0 from rfl)) (zconso (zvo (i3A (rfl : i3 x2 = i3 x2) (show (1 : Int32) = i3 1 from rfl))) rfl))), rfl,  by omega, by omega, by omega,  hP⟩
        · replace hP := zE_n hP h10
          obtain ⟨m2, rfl⟩ : ∃ m2, m = m2 + 1 := ⟨m - 1, by omega⟩
          exact wz_k1 ⟨m2, by omega, 1, (x2 + 1), (zconso rfl (zconso (zvo (show (1 : Int32) = i3 1 from rfl)) (zconso (zvo (i3A (rfl : i3 x2 = i3 x2) (show (1 : Int32) = i3 1 from rfl))) rfl))), rfl,  by omega, by omega, by omega,  hP⟩
/- yX12_bSound -/
def zf_285 (Z : qz_Z) : Int := (zlet2 (zl_285_1 9 Z 1 0) (fun y1 y2 => (zlet2 (zl_285_2 61 Z y1 0) (fun y4 y5 => (zlet2 (zl_285_3 25 Z y4 0) (fun y7 y8 => y7))))))
theorem sp_285 {s : zSM} {Z : qz_Z} {ν : qz_N} (hZ : zM s Z) (hM : s.2 + 0 ≤ 1000000000) : ∃ P : Int, P = zf_285 Z ∧ (qf_285 [.inr (.inr (some (1, 0, 0)))] (zm Z ν) = some (zm Z ν, .inl (some (.inl (i3 P)))) ∧ 0 ≤ P ∧ P ≤ 1) := by
  obtain ⟨P, hP⟩ := zx (zf_285 Z)
  refine zc_R (Q := fun P => 0 ≤ P ∧ P ≤ 1) hP (fw_285  _ _ ?_)
  replace hP : zE P (zf_285 Z) := hP
  unfold zf_285 at hP
  refine sl_285_1 (ν := ν) hZ (zbh (c := 0) (k := 0) hM (Nat.le_of_ble_eq_true rfl)) (x1 := 1) (by omega) (x2 := 0) (by omega)  (zconso rfl (zconso (zvo (show (1 : Int32) = i3 1 from rfl)) (zconso (zvo (show (0 : Int32) = i3 0 from rfl)) rfl))) rfl ?_
  intro L3 y1 y2 hL3 gy1 gy2 q9
  replace hP := zl_e2 hP (Eq.symm q9)
  clear q9
  refine fc_285_6 (i3 y1) _ _ _ _ hL3 ?_
  refine sl_285_2 (ν := ν) hZ (zbh (c := 0) (k := 0) hM (Nat.le_of_ble_eq_true rfl)) (x1 := y1) (by omega) (x2 := 0) (by omega)  (zconso rfl (zconso (zvo (rfl : i3 y1 = i3 y1)) (zconso (zvo (show (0 : Int32) = i3 0 from rfl)) rfl))) rfl ?_
  intro L6 y4 y5 hL6 gy4 gy5 q9
  replace hP := zl_e2 hP (Eq.symm q9)
  clear q9
  refine fc_285_5 (i3 y4) _ _ _ _ hL6 ?_
  refine sl_285_3 (ν := ν) hZ (zbh (c := 0) (k := 0) hM (Nat.le_of_ble_eq_true rfl)) (x1 := y4) (by omega) (x2 := 0) (by omega)  (zconso rfl (zconso (zvo (rfl : i3 y4 = i3 y4)) (zconso (zvo (show (0 : Int32) = i3 0 from rfl)) rfl))) rfl ?_
  intro L9 y7 y8 hL9 gy7 gy8 q9
  replace hP := zl_e2 hP (Eq.symm q9)
  clear q9
  refine fc_285_4 (i3 y7) _ _ _ _ hL9 ?_
  refine wz_i1 (i3B (rfl : i3 y7 = i3 y7) (by omega)) ?_
  exact zlR hP (rfl : i3 y7 = i3 y7) ⟨by omega, by omega⟩
/- yX12_tIsYet -/
def zl_516_1 (x1 : Int) (x2 : Int) : Nat → qz_Z → Int → Int → Int × Int
  | 0, Z, x3, x4 => (x3, x4)
  | m + 1, Z, x3, x4 => (if (Z 2 0 0 (3258 + 24 * x2)) ≤ x4 then (x3, x4) else (if x3 ≠ 0 then zl_516_1 x1 x2 m Z 1 (x4 + 1) else (if (Z 2 0 0 (3259 + 24 * x2 + x4)) ≠ (Z 2 0 0 (1410 + 12 * (Z 2 0 0 (2011 + 16 * x1)))) then zl_516_1 x1 x2 m Z 0 (x4 + 1) else (if (Z 2 0 0 (3264 + 24 * x2 + x4)) ≤ (Z 2 0 0 0) then zl_516_1 x1 x2 m Z 0 (x4 + 1) else zl_516_1 x1 x2 m Z 1 (x4 + 1)))))
theorem sl_516_1 {s : zSM} {Z : qz_Z} {ν : qz_N} (hZ : zM s Z) (hM : s.2 + 0 ≤ 1000000000) {x1 : Int} (gx1 : 0 ≤ x1 ∧ x1 ≤ 59) {x2 : Int} (gx2 : 0 ≤ x2 ∧ x2 ≤ 3) {x3 : Int} (gx3 : 0 ≤ x3 ∧ x3 ≤ 1) {x4 : Int} (gx4 : 0 ≤ x4 ∧ x4 ≤ 5) {k : wz_K} {R : wz_R} {L : qz_L} (hL : qz_fg [true, true, true, true, true] L = [some (.inr (.inr (some (1, 0, 0)))), some (.inl (i3 x1)), some (.inl (i3 x2)), some (.inl (i3 x3)), some (.inl (i3 x4))]) {T : Int × Int} (hP : zE T (zl_516_1 x1 x2 ((5 - x4).toNat + 1) Z x3 x4)) (hk : ∀ (L9 : qz_L) (yx3 yx4 : Int), qz_fg [false, false, false, true, false] L9 = [none, none, none, some (.inl (i3 yx3)), none] → (0 ≤ yx3 ∧ yx3 ≤ 1) → (0 ≤ yx4 ∧ yx4 ≤ 5) → zE T ((yx3, yx4)) → k 0 (L9, [], zm Z ν)) : wz_loop qb_516_1 65536 k R (L, [], zm Z ν) := by
  refine wz_lp sb_516_1 (fun m x => ∃ x3 : Int, ∃ x4 : Int, qz_fg [true, true, true, true, true] x.1 = [some (.inr (.inr (some (1, 0, 0)))), some (.inl (i3 x1)), some (.inl (i3 x2)), some (.inl (i3 x3)), some (.inl (i3 x4))] ∧ x.2 = ([], zm Z ν) ∧ m = (5 - x4).toNat ∧ (0 ≤ x3 ∧ x3 ≤ 1) ∧ (0 ≤ x4 ∧ x4 ≤ 5) ∧ zE T (zl_516_1 x1 x2 (m + 1) Z x3 x4)) ?_ 65536 ((5 - x4).toNat) _ (by omega) ⟨x3, x4, hL, rfl, rfl, gx3, gx4, hP⟩
  clear hP gx3 gx4 hL
  clear x3 x4
  rintro m ⟨L, st, μ⟩ ⟨x3, x4, hL, hx, hm, gx3, gx4, hP⟩
  cases hx
  refine fb_516_1 (i3 x1) (i3 x2) (i3 x3) (i3 x4) _ _ _ _ hL ?_
  refine wz_i0 (i3O (n := 4400) (i3A (i3A (show (3250 : Int32) = i3 3250 from rfl) (i3M (show (24 : Int32) = i3 24 from rfl) (rfl : i3 x2 = i3 x2))) (show (8 : Int32) = i3 8 from rfl)) (by omega) (by omega) (by omega)) ?_
  have r1 := zM_k hZ 2 0 0 (3258 + 24 * x2) (lo := 0) (hi := 5) (by decide) (zs_3250_8 (x := x2) (by omega) (by omega) (by omega))
  refine wz_br (i3Le (zm_rd (Z := Z) (ν := ν) (k := 2) (show ((0 : Nat) : Int) = 0 from rfl) (show ((0 : Nat) : Int) = 0 from rfl) (i3I (y := (3258 + 24 * x2)) (i3A (i3A (show (3250 : Int32) = i3 3250 from rfl) (i3M (show (24 : Int32) = i3 24 from rfl) (rfl : i3 x2 = i3 x2))) (show (8 : Int32) = i3 8 from rfl)) (by omega) (by omega) (by omega))) (rfl : i3 x4 = i3 x4) (by omega) (by omega) (by omega) (by omega)) (fun h2 => ?_) (fun h2 => ?_)
  · replace hP := zE_p hP h2
    exact hk _ _ _ (zconso rfl (zconso rfl (zconso rfl (zconso (zvo (rfl : i3 x3 = i3 x3)) (zconso rfl rfl)))))  (by omega) (by omega)  hP
  · replace hP := zE_n hP h2
    refine wz_br (i3NE (rfl : i3 x3 = i3 x3) (show (0 : Int32) = i3 0 from rfl) (by omega) (by omega) (by omega) (by omega)) (fun h3 => ?_) (fun h3 => ?_)
    · replace hP := zE_p hP h3
      obtain ⟨m2, rfl⟩ : ∃ m2, m = m2 + 1 := ⟨m - 1, by omega⟩
      exact wz_k1 ⟨m2, by omega, 1, (x4 + 1), (zconso rfl (zconso (zvo (rfl : i3 x1 = i3 x1)) (zconso (zvo (rfl : i3 x2 = i3 x2)) (zconso (zvo (show (1 : Int32) = i3 1 from rfl)) (zconso (zvo (i3A (rfl : i3 x4 = i3 x4) (show (1 : Int32) = i3 1 from rfl))) rfl))))), rfl,  by omega, by omega, by omega,  hP⟩
    · replace hP := zE_n hP h3
      refine wz_i0 (i3O (n := 4400) (i3A (i3A (show (3250 : Int32) = i3 3250 from rfl) (i3M (show (24 : Int32) = i3 24 from rfl) (rfl : i3 x2 = i3 x2))) (i3A (show (9 : Int32) = i3 9 from rfl) (rfl : i3 x4 = i3 x4))) (by omega) (by omega) (by omega)) ?_
      refine wz_i0 (i3O (n := 4400) (i3A (i3A (show (2010 : Int32) = i3 2010 from rfl) (i3M (show (16 : Int32) = i3 16 from rfl) (rfl : i3 x1 = i3 x1))) (show (1 : Int32) = i3 1 from rfl)) (by omega) (by omega) (by omega)) ?_
      have r4 := zM_k hZ 2 0 0 (2011 + 16 * x1) (lo := 0) (hi := 7) (by decide) (zs_2010_1 (x := x1) (by omega) (by omega) (by omega))
      refine wz_i0 (i3O (n := 4400) (i3A (i3A (show (1410 : Int32) = i3 1410 from rfl) (i3M (show (12 : Int32) = i3 12 from rfl) (zm_rd (Z := Z) (ν := ν) (k := 2) (show ((0 : Nat) : Int) = 0 from rfl) (show ((0 : Nat) : Int) = 0 from rfl) (i3I (y := (2011 + 16 * x1)) (i3A (i3A (show (2010 : Int32) = i3 2010 from rfl) (i3M (show (16 : Int32) = i3 16 from rfl) (rfl : i3 x1 = i3 x1))) (show (1 : Int32) = i3 1 from rfl)) (by omega) (by omega) (by omega))))) (show (0 : Int32) = i3 0 from rfl)) (by omega) (by omega) (by omega)) ?_
      have r5 := zM_k hZ 2 0 0 (3259 + 24 * x2 + x4) (lo := 0) (hi := 4) (by decide) (zsx (zsb_3250 (by omega) (by omega)) (c0 := 9) (n := 5) (by decide +kernel) (by omega) (by omega))
      have r6 := zM_k hZ 2 0 0 (1410 + 12 * (Z 2 0 0 (2011 + 16 * x1))) (lo := 0) (hi := 4) (by decide) (zs_1410_0 (x := (Z 2 0 0 (2011 + 16 * x1))) (by omega) (by omega) (by omega))
      refine wz_br (i3NE (zm_rd (Z := Z) (ν := ν) (k := 2) (show ((0 : Nat) : Int) = 0 from rfl) (show ((0 : Nat) : Int) = 0 from rfl) (i3I (y := (3259 + 24 * x2 + x4)) (i3A (i3A (show (3250 : Int32) = i3 3250 from rfl) (i3M (show (24 : Int32) = i3 24 from rfl) (rfl : i3 x2 = i3 x2))) (i3A (show (9 : Int32) = i3 9 from rfl) (rfl : i3 x4 = i3 x4))) (by omega) (by omega) (by omega))) (zm_rd (Z := Z) (ν := ν) (k := 2) (show ((0 : Nat) : Int) = 0 from rfl) (show ((0 : Nat) : Int) = 0 from rfl) (i3I (y := (1410 + 12 * (Z 2 0 0 (2011 + 16 * x1)))) (i3A (i3A (show (1410 : Int32) = i3 1410 from rfl) (i3M (show (12 : Int32) = i3 12 from rfl) (zm_rd (Z := Z) (ν := ν) (k := 2) (show ((0 : Nat) : Int) = 0 from rfl) (show ((0 : Nat) : Int) = 0 from rfl) (i3I (y := (2011 + 16 * x1)) (i3A (i3A (show (2010 : Int32) = i3 2010 from rfl) (i3M (show (16 : Int32) = i3 16 from rfl) (rfl : i3 x1 = i3 x1))) (show (1 : Int32) = i3 1 from rfl)) (by omega) (by omega) (by omega))))) (show (0 : Int32) = i3 0 from rfl)) (by omega) (by omega) (by omega))) (by omega) (by omega) (by omega) (by omega)) (fun h7 => ?_) (fun h7 => ?_)
      · replace hP := zE_p hP h7
        obtain ⟨m2, rfl⟩ : ∃ m2, m = m2 + 1 := ⟨m - 1, by omega⟩
        exact wz_k1 ⟨m2, by omega, 0, (x4 + 1), (zconso rfl (zconso (zvo (rfl : i3 x1 = i3 x1)) (zconso (zvo (rfl : i3 x2 = i3 x2)) (zconso (zvo (show (0 : Int32) = i3 0 from rfl)) (zconso (zvo (i3A (rfl : i3 x4 = i3 x4) (show (1 : Int32) = i3 1 from rfl))) rfl))))), rfl,  by omega, by omega, by omega,  hP⟩
      · replace hP := zE_n hP h7
        refine wz_i0 (i3O (n := 4400) (i3A (i3A (show (3250 : Int32) = i3 3250 from rfl) (i3M (show (24 : Int32) = i3 24 from rfl) (rfl : i3 x2 = i3 x2))) (i3A (show (14 : Int32) = i3 14 from rfl) (rfl : i3 x4 = i3 x4))) (by omega) (by omega) (by omega)) ?_
        have r8 := zM_k hZ 2 0 0 (3264 + 24 * x2 + x4) (lo := 0) (hi := 743) (by decide) (zsx (zsb_3250 (by omega) (by omega)) (c0 := 14) (n := 5) (by decide +kernel) (by omega) (by omega))
        have r9 := zM_k hZ 2 0 0 0 (lo := 0) (hi := 671) (by decide) rfl
        refine wz_br (i3Le (zm_rd (Z := Z) (ν := ν) (k := 2) (show ((0 : Nat) : Int) = 0 from rfl) (show ((0 : Nat) : Int) = 0 from rfl) (i3I (y := (3264 + 24 * x2 + x4)) (i3A (i3A (show (3250 : Int32) = i3 3250 from rfl) (i3M (show (24 : Int32) = i3 24 from rfl) (rfl : i3 x2 = i3 x2))) (i3A (show (14 : Int32) = i3 14 from rfl) (rfl : i3 x4 = i3 x4))) (by omega) (by omega) (by omega))) (zm_rd (Z := Z) (ν := ν) (k := 2) (show ((0 : Nat) : Int) = 0 from rfl) (show ((0 : Nat) : Int) = 0 from rfl) (show ((0 : Nat) : Int) = 0 from rfl)) (by omega) (by omega) (by omega) (by omega)) (fun h10 => ?_) (fun h10 => ?_)
        · replace hP := zE_p hP h10
          obtain ⟨m2, rfl⟩ : ∃ m2, m = m2 + 1 := ⟨m - 1, by omega⟩
          exact wz_k1 ⟨m2, by omega, 0, (x4 + 1), (zconso rfl (zconso (zvo (rfl : i3 x1 = i3 x1)) (zconso (zvo (rfl : i3 x2 = i3 x2)) (zconso (zvo (show (0 : Int32) = i3 0 from rfl)) (zconso (zvo (i3A (rfl : i3 x4 = i3 x4) (show (1 : Int32) = i3 1 from rfl))) rfl))))), rfl,  by omega, by omega, by omega,  hP⟩
        · replace hP := zE_n hP h10
          obtain ⟨m2, rfl⟩ : ∃ m2, m = m2 + 1 := ⟨m - 1, by omega⟩
          exact wz_k1 ⟨m2, by omega, 1, (x4 + 1), (zconso rfl (zconso (zvo (rfl : i3 x1 = i3 x1)) (zconso (zvo (rfl : i3 x2 = i3 x2)) (zconso (zvo (show (1 : Int32) = i3 1 from rfl)) (zconso (zvo (i3A (rfl : i3 x4 = i3 x4) (show (1 : Int32) = i3 1 from rfl))) rfl))))), rfl,  by omega, by omega, by omega,  hP⟩
/- yX12_tIsYet -/
def zf_516 (Z : qz_Z) (a1 : Int) (a2 : Int) : Int := (zlet2 (zl_516_1 a1 a2 6 Z 0 0) (fun y1 y2 => y1))
theorem sp_516 {s : zSM} {Z : qz_Z} {ν : qz_N} (hZ : zM s Z) {a1 : Int} (ga1 : 0 ≤ a1 ∧ a1 ≤ 59) {a2 : Int} (ga2 : 0 ≤ a2 ∧ a2 ≤ 3) (hM : s.2 + 0 ≤ 1000000000) : ∃ P : Int, P = zf_516 Z a1 a2 ∧ (qf_516 [.inr (.inr (some (1, 0, 0))), .inl (i3 a1), .inl (i3 a2)] (zm Z ν) = some (zm Z ν, .inl (some (.inl (i3 P)))) ∧ 0 ≤ P ∧ P ≤ 1) := by
  obtain ⟨P, hP⟩ := zx (zf_516 Z a1 a2)
  refine zc_R (Q := fun P => 0 ≤ P ∧ P ≤ 1) hP (fw_516 (i3 a1) (i3 a2) _ _ ?_)
  replace hP : zE P (zf_516 Z a1 a2) := hP
  unfold zf_516 at hP
  refine sl_516_1 (ν := ν) hZ (zbh (c := 0) (k := 0) hM (Nat.le_of_ble_eq_true rfl)) (x1 := a1) (by omega) (x2 := a2) (by omega) (x3 := 0) (by omega) (x4 := 0) (by omega)  (zconso rfl (zconso (zvo (rfl : i3 a1 = i3 a1)) (zconso (zvo (rfl : i3 a2 = i3 a2)) (zconso (zvo (show (0 : Int32) = i3 0 from rfl)) (zconso (zvo (show (0 : Int32) = i3 0 from rfl)) rfl))))) rfl ?_
  intro L3 y1 y2 hL3 gy1 gy2 q9
  replace hP := zl_e2 hP (Eq.symm q9)
  clear q9
  refine fc_516_2 (i3 y1) _ _ _ _ hL3 ?_
  refine wz_i1 (i3B (rfl : i3 y1 = i3 y1) (by omega)) ?_
  exact zlR hP (rfl : i3 y1 = i3 y1) ⟨by omega, by omega⟩
/- yX12_tTo -/
def zl_525_1 (x2 : Int) (x3 : Int) : Nat → qz_Z → Int → Int → Int × Int
  | 0, Z, x4, x5 => (x4, x5)
  | m + 1, Z, x4, x5 => (if 5 ≤ x5 then (x4, x5) else (if (z2 (fun x y => x &&& y) (z2 (fun x y => x >>> (y &&& 31)) x3 x5) 1) ≠ 1 then zl_525_1 x2 x3 m Z x4 (x5 + 1) else (if x4 = (-1) then zl_525_1 x2 x3 m Z (w3 ((Z 97 0 0 (5 * x3 + x5)) + (Z 2 0 0 (3210 + 6 * x5 + x2)))) (x5 + 1) else (if x4 ≤ (w3 ((Z 97 0 0 (5 * x3 + x5)) + (Z 2 0 0 (3210 + 6 * x5 + x2)))) then zl_525_1 x2 x3 m Z x4 (x5 + 1) else zl_525_1 x2 x3 m Z (w3 ((Z 97 0 0 (5 * x3 + x5)) + (Z 2 0 0 (3210 + 6 * x5 + x2)))) (x5 + 1)))))
theorem sl_525_1 {s : zSM} {Z : qz_Z} {ν : qz_N} (hZ : zM s Z) (hM : s.2 + 0 ≤ 1000000000) {x2 : Int} (gx2 : 0 ≤ x2 ∧ x2 ≤ 4) {x3 : Int} (gx3 : 0 ≤ x3 ∧ x3 ≤ 31) {x4 : Int} (gx4 : -2147483648 ≤ x4 ∧ x4 ≤ 2147483647) {x5 : Int} (gx5 : 0 ≤ x5 ∧ x5 ≤ 5) {k : wz_K} {R : wz_R} {L : qz_L} (hL : qz_fg [true, false, true, true, true, true, false] L = [some (.inr (.inr (some (1, 0, 0)))), none, some (.inl (i3 x2)), some (.inl (i3 x3)), some (.inl (i3 x4)), some (.inl (i3 x5)), none]) {T : Int × Int} (hP : zE T (zl_525_1 x2 x3 ((5 - x5).toNat + 1) Z x4 x5)) (hk : ∀ (L9 : qz_L) (yx4 yx5 : Int), qz_fg [false, false, false, false, true, false, false] L9 = [none, none, none, none, some (.inl (i3 yx4)), none, none] → (-2147483648 ≤ yx4 ∧ yx4 ≤ 2147483647) → (0 ≤ yx5 ∧ yx5 ≤ 5) → zE T ((yx4, yx5)) → k 0 (L9, [], zm Z ν)) : wz_loop qb_525_1 65536 k R (L, [], zm Z ν) := by
  refine wz_lp sb_525_1 (fun m x => ∃ x4 : Int, ∃ x5 : Int, qz_fg [true, false, true, true, true, true, false] x.1 = [some (.inr (.inr (some (1, 0, 0)))), none, some (.inl (i3 x2)), some (.inl (i3 x3)), some (.inl (i3 x4)), some (.inl (i3 x5)), none] ∧ x.2 = ([], zm Z ν) ∧ m = (5 - x5).toNat ∧ (-2147483648 ≤ x4 ∧ x4 ≤ 2147483647) ∧ (0 ≤ x5 ∧ x5 ≤ 5) ∧ zE T (zl_525_1 x2 x3 (m + 1) Z x4 x5)) ?_ 65536 ((5 - x5).toNat) _ (by omega) ⟨x4, x5, hL, rfl, rfl, gx4, gx5, hP⟩
  clear hP gx4 gx5 hL
  clear x4 x5
  rintro m ⟨L, st, μ⟩ ⟨x4, x5, hL, hx, hm, gx4, gx5, hP⟩
  cases hx
  refine fb_525_1 (i3 x2) (i3 x3) (i3 x4) (i3 x5) _ _ _ _ hL ?_
  refine wz_br (i3Le (show (5 : Int32) = i3 5 from rfl) (rfl : i3 x5 = i3 x5) (by omega) (by omega) (by omega) (by omega)) (fun h1 => ?_) (fun h1 => ?_)
  · replace hP := zE_p hP h1
    exact hk _ _ _ (zconso rfl (zconso rfl (zconso rfl (zconso rfl (zconso (zvo (rfl : i3 x4 = i3 x4)) (zconso rfl (zconso rfl rfl)))))))  (by omega) (by omega)  hP
  · replace hP := zE_n hP h1
    have r2 := z2_r (fun x y => x >>> (y &&& 31)) x3 x5
    have r3 := z2_r (fun x y => x &&& y) (z2 (fun x y => x >>> (y &&& 31)) x3 x5) 1
    have r4 := z2_and (z2 (fun x y => x >>> (y &&& 31)) x3 x5) (y := 1) (by omega) (by omega)
    refine wz_br (i3NE (i3Z (fun x y => x &&& y) (i3Z (fun x y => x >>> (y &&& 31)) (rfl : i3 x3 = i3 x3) (rfl : i3 x5 = i3 x5)) (show (1 : Int32) = i3 1 from rfl)) (show (1 : Int32) = i3 1 from rfl) (by omega) (by omega) (by omega) (by omega)) (fun h5 => ?_) (fun h5 => ?_)
    · replace hP := zE_p hP h5
      obtain ⟨m2, rfl⟩ : ∃ m2, m = m2 + 1 := ⟨m - 1, by omega⟩
      exact wz_k1 ⟨m2, by omega, x4, (x5 + 1), (zconso rfl (zconso rfl (zconso (zvo (rfl : i3 x2 = i3 x2)) (zconso (zvo (rfl : i3 x3 = i3 x3)) (zconso (zvo (rfl : i3 x4 = i3 x4)) (zconso (zvo (i3A (rfl : i3 x5 = i3 x5) (show (1 : Int32) = i3 1 from rfl))) (zconso rfl rfl))))))), rfl,  by omega, by omega, by omega,  hP⟩
    · replace hP := zE_n hP h5
      refine wz_i0 (i3O (n := 160) (i3A (i3M (show (5 : Int32) = i3 5 from rfl) (rfl : i3 x3 = i3 x3)) (rfl : i3 x5 = i3 x5)) (by omega) (by omega) (by omega)) ?_
      refine wz_i0 (i3O (n := 4400) (i3A (i3A (show (3210 : Int32) = i3 3210 from rfl) (i3M (show (6 : Int32) = i3 6 from rfl) (rfl : i3 x5 = i3 x5))) (rfl : i3 x2 = i3 x2)) (by omega) (by omega) (by omega)) ?_
      refine wz_br (i3E (rfl : i3 x4 = i3 x4) (show (-1 : Int32) = i3 (-1) from rfl) (by omega) (by omega) (by omega) (by omega)) (fun h6 => ?_) (fun h6 => ?_)
      · replace hP := zE_p hP h6
        have r7 := zM_f hZ 97 0 0 (5 * x3 + x5)
        have r8 := zM_k hZ 2 0 0 (3210 + 6 * x5 + x2) (lo := 0) (hi := 12) (by decide) (zs_3210 (by omega) (by omega))
        have r9 := w3_r ((Z 97 0 0 (5 * x3 + x5)) + (Z 2 0 0 (3210 + 6 * x5 + x2)))
        obtain ⟨m2, rfl⟩ : ∃ m2, m = m2 + 1 := ⟨m - 1, by omega⟩
        exact wz_k1 ⟨m2, by omega, (w3 ((Z 97 0 0 (5 * x3 + x5)) + (Z 2 0 0 (3210 + 6 * x5 + x2)))), (x5 + 1), (zconso rfl (zconso rfl (zconso (zvo (rfl : i3 x2 = i3 x2)) (zconso (zvo (rfl : i3 x3 = i3 x3)) (zconso (zvo (i3W (i3A (zm_rd (Z := Z) (ν := ν) (k := 97) (show ((0 : Nat) : Int) = 0 from rfl) (show ((0 : Nat) : Int) = 0 from rfl) (i3I (y := (5 * x3 + x5)) (i3A (i3M (show (5 : Int32) = i3 5 from rfl) (rfl : i3 x3 = i3 x3)) (rfl : i3 x5 = i3 x5)) (by omega) (by omega) (by omega))) (zm_rd (Z := Z) (ν := ν) (k := 2) (show ((0 : Nat) : Int) = 0 from rfl) (show ((0 : Nat) : Int) = 0 from rfl) (i3I (y := (3210 + 6 * x5 + x2)) (i3A (i3A (show (3210 : Int32) = i3 3210 from rfl) (i3M (show (6 : Int32) = i3 6 from rfl) (rfl : i3 x5 = i3 x5))) (rfl : i3 x2 = i3 x2)) (by omega) (by omega) (by omega)))))) (zconso (zvo (i3A (rfl : i3 x5 = i3 x5) (show (1 : Int32) = i3 1 from rfl))) (zconso rfl rfl))))))), rfl,  by omega, by omega, by omega,  hP⟩
      · replace hP := zE_n hP h6
        have r10 := zM_f hZ 97 0 0 (5 * x3 + x5)
        have r11 := zM_k hZ 2 0 0 (3210 + 6 * x5 + x2) (lo := 0) (hi := 12) (by decide) (zs_3210 (by omega) (by omega))
        have r12 := w3_r ((Z 97 0 0 (5 * x3 + x5)) + (Z 2 0 0 (3210 + 6 * x5 + x2)))
        refine wz_br (i3Le (rfl : i3 x4 = i3 x4) (i3W (i3A (zm_rd (Z := Z) (ν := ν) (k := 97) (show ((0 : Nat) : Int) = 0 from rfl) (show ((0 : Nat) : Int) = 0 from rfl) (i3I (y := (5 * x3 + x5)) (i3A (i3M (show (5 : Int32) = i3 5 from rfl) (rfl : i3 x3 = i3 x3)) (rfl : i3 x5 = i3 x5)) (by omega) (by omega) (by omega))) (zm_rd (Z := Z) (ν := ν) (k := 2) (show ((0 : Nat) : Int) = 0 from rfl) (show ((0 : Nat) : Int) = 0 from rfl) (i3I (y := (3210 + 6 * x5 + x2)) (i3A (i3A (show (3210 : Int32) = i3 3210 from rfl) (i3M (show (6 : Int32) = i3 6 from rfl) (rfl : i3 x5 = i3 x5))) (rfl : i3 x2 = i3 x2)) (by omega) (by omega) (by omega))))) (by omega) (by omega) (by omega) (by omega)) (fun h13 => ?_) (fun h13 => ?_)
        · replace hP := zE_p hP h13
          obtain ⟨m2, rfl⟩ : ∃ m2, m = m2 + 1 := ⟨m - 1, by omega⟩
          exact wz_k1 ⟨m2, by omega, x4, (x5 + 1), (zconso rfl (zconso rfl (zconso (zvo (rfl : i3 x2 = i3 x2)) (zconso (zvo (rfl : i3 x3 = i3 x3)) (zconso (zvo (rfl : i3 x4 = i3 x4)) (zconso (zvo (i3A (rfl : i3 x5 = i3 x5) (show (1 : Int32) = i3 1 from rfl))) (zconso rfl rfl))))))), rfl,  by omega, by omega, by omega,  hP⟩
        · replace hP := zE_n hP h13
          obtain ⟨m2, rfl⟩ : ∃ m2, m = m2 + 1 := ⟨m - 1, by omega⟩
          exact wz_k1 ⟨m2, by omega, (w3 ((Z 97 0 0 (5 * x3 + x5)) + (Z 2 0 0 (3210 + 6 * x5 + x2)))), (x5 + 1), (zconso rfl (zconso rfl (zconso (zvo (rfl : i3 x2 = i3 x2)) (zconso (zvo (rfl : i3 x3 = i3 x3)) (zconso (zvo (i3W (i3A (zm_rd (Z := Z) (ν := ν) (k := 97) (show ((0 : Nat) : Int) = 0 from rfl) (show ((0 : Nat) : Int) = 0 from rfl) (i3I (y := (5 * x3 + x5)) (i3A (i3M (show (5 : Int32) = i3 5 from rfl) (rfl : i3 x3 = i3 x3)) (rfl : i3 x5 = i3 x5)) (by omega) (by omega) (by omega))) (zm_rd (Z := Z) (ν := ν) (k := 2) (show ((0 : Nat) : Int) = 0 from rfl) (show ((0 : Nat) : Int) = 0 from rfl) (i3I (y := (3210 + 6 * x5 + x2)) (i3A (i3A (show (3210 : Int32) = i3 3210 from rfl) (i3M (show (6 : Int32) = i3 6 from rfl) (rfl : i3 x5 = i3 x5))) (rfl : i3 x2 = i3 x2)) (by omega) (by omega) (by omega)))))) (zconso (zvo (i3A (rfl : i3 x5 = i3 x5) (show (1 : Int32) = i3 1 from rfl))) (zconso rfl rfl))))))), rfl,  by omega, by omega, by omega,  hP⟩
/- yX12_tTo -/
def zf_525 (Z : qz_Z) (a1 : Int) (a2 : Int) : Int := (if (z2 (fun x y => x &&& y) a1 (z2 (fun x y => x ^^^ y) (z2 (fun x y => x <<< (y &&& 31)) 1 a2) (-1))) ≠ 0 then (zlet2 (zl_525_1 a2 (z2 (fun x y => x &&& y) a1 (z2 (fun x y => x ^^^ y) (z2 (fun x y => x <<< (y &&& 31)) 1 a2) (-1))) 6 Z (-1) 0) (fun y7 y8 => y7)) else (Z 2 0 0 (3240 + a2)))
theorem sp_525 {s : zSM} {Z : qz_Z} {ν : qz_N} (hZ : zM s Z) {a1 : Int} (ga1 : 1 ≤ a1 ∧ a1 ≤ 31) {a2 : Int} (ga2 : 0 ≤ a2 ∧ a2 ≤ 4) (hM : s.2 + 0 ≤ 1000000000) : ∃ P : Int, P = zf_525 Z a1 a2 ∧ (qf_525 [.inr (.inr (some (1, 0, 0))), .inl (i3 a1), .inl (i3 a2)] (zm Z ν) = some (zm Z ν, .inl (some (.inl (i3 P)))) ∧ -2147483648 ≤ P ∧ P ≤ 2147483647) := by
  obtain ⟨P, hP⟩ := zx (zf_525 Z a1 a2)
  refine zc_R (Q := fun P => -2147483648 ≤ P ∧ P ≤ 2147483647) hP (fw_525 (i3 a1) (i3 a2) _ _ ?_)
  replace hP : zE P (zf_525 Z a1 a2) := hP
  unfold zf_525 at hP
  have r1 := z2_r (fun x y => x <<< (y &&& 31)) 1 a2
  have r2 := z2_shl4 (n := a2) (by omega) (by omega)
  have r3 := z2_r (fun x y => x ^^^ y) (z2 (fun x y => x <<< (y &&& 31)) 1 a2) (-1)
  have r4 := z2_r (fun x y => x &&& y) a1 (z2 (fun x y => x ^^^ y) (z2 (fun x y => x <<< (y &&& 31)) 1 a2) (-1))
  have r5 := z2_andl (z2 (fun x y => x ^^^ y) (z2 (fun x y => x <<< (y &&& 31)) 1 a2) (-1)) (x := a1) (by omega) (by omega)
  refine wz_br (i3NE (i3Z (fun x y => x &&& y) (rfl : i3 a1 = i3 a1) (i3Z (fun x y => x ^^^ y) (i3Z (fun x y => x <<< (y &&& 31)) (show (1 : Int32) = i3 1 from rfl) (rfl : i3 a2 = i3 a2)) (show (-1 : Int32) = i3 (-1) from rfl))) (show (0 : Int32) = i3 0 from rfl) (by omega) (by omega) (by omega) (by omega)) (fun h6 => ?_) (fun h6 => ?_)
  · replace hP := zE_p hP h6
    refine sl_525_1 (ν := ν) hZ (zbh (c := 0) (k := 0) hM (Nat.le_of_ble_eq_true rfl)) (x2 := a2) (by omega) (x3 := (z2 (fun x y => x &&& y) a1 (z2 (fun x y => x ^^^ y) (z2 (fun x y => x <<< (y &&& 31)) 1 a2) (-1)))) (by omega) (x4 := (-1)) (by omega) (x5 := 0) (by omega)  (zconso rfl (zconso rfl (zconso (zvo (rfl : i3 a2 = i3 a2)) (zconso (zvo (i3Z (fun x y => x &&& y) (rfl : i3 a1 = i3 a1) (i3Z (fun x y => x ^^^ y) (i3Z (fun x y => x <<< (y &&& 31)) (show (1 : Int32) = i3 1 from rfl) (rfl : i3 a2 = i3 a2)) (show (-1 : Int32) = i3 (-1) from rfl)))) (zconso (zvo (show (-1 : Int32) = i3 (-1) from rfl)) (zconso (zvo (show (0 : Int32) = i3 0 from rfl)) (zconso rfl rfl))))))) rfl ?_
    intro L9 y7 y8 hL9 gy7 gy8 q9
    replace hP := zl_e2 hP (Eq.symm q9)
    clear q9
    refine fc_525_2 (i3 y7) _ _ _ _ hL9 ?_
    exact zlR hP (rfl : i3 y7 = i3 y7) ⟨by omega, by omega⟩
  · replace hP := zE_n hP h6
    refine wz_i0 (i3O (n := 4400) (i3A (show (3240 : Int32) = i3 3240 from rfl) (rfl : i3 a2 = i3 a2)) (by omega) (by omega) (by omega)) ?_
    have r10 := zM_k hZ 2 0 0 (3240 + a2) (lo := 0) (hi := 12) (by decide) (zs_3210 (by omega) (by omega))
    exact zlR hP (zm_rd (Z := Z) (ν := ν) (k := 2) (show ((0 : Nat) : Int) = 0 from rfl) (show ((0 : Nat) : Int) = 0 from rfl) (i3I (y := (3240 + a2)) (i3A (show (3240 : Int32) = i3 3240 from rfl) (rfl : i3 a2 = i3 a2)) (by omega) (by omega) (by omega))) ⟨by omega, by omega⟩
/- yX12_tLongBySets -/
def zl_519_1 (x1 : Int) (x2 : Int) : Nat → qz_Z → Int → qz_Z × Int
  | 0, Z, x3 => (Z, x3)
  | m + 1, Z, x3 => (if 5 ≤ x3 then (Z, x3) else (if (z2 (fun x y => x &&& y) (z2 (fun x y => x >>> (y &&& 31)) x2 x3) 1) ≠ 1 then (zlet (zu Z 97 0 0 (5 * x2 + x3) 0) (fun Z6 => zl_519_1 x1 x2 m Z6 (x3 + 1))) else (zlet (zf_525 Z x2 x3) (fun v7 => (zlet (zu Z 97 0 0 (5 * x2 + x3) v7) (fun Z8 => zl_519_1 x1 x2 m Z8 (x3 + 1)))))))
theorem sl_519_1 {s : zSM} {Zs Z : qz_Z} {ν : qz_N} (hZ : zM s Z) (hM : s.2 + 0 ≤ 1000000000) (hK : zC [97] Zs Z) {x1 : Int} (gx1 : 1 ≤ x1 ∧ x1 ≤ 31) {x2 : Int} (gx2 : 1 ≤ x2 ∧ x2 ≤ 31) {x3 : Int} (gx3 : 0 ≤ x3 ∧ x3 ≤ 5) (hU : zU [] Zs Z) {k : wz_K} {R : wz_R} {L : qz_L} (hL : qz_fg [true, true, true, true, false] L = [some (.inr (.inr (some (1, 0, 0)))), some (.inl (i3 x1)), some (.inl (i3 x2)), some (.inl (i3 x3)), none]) {T : qz_Z × Int} (hP : zE T (zl_519_1 x1 x2 ((5 - x3).toNat + 1) Z x3)) (hk : ∀ (L9 : qz_L) (Z9 : qz_Z) (yx3 : Int), qz_fg [true, true, true, false, false] L9 = [some (.inr (.inr (some (1, 0, 0)))), some (.inl (i3 x1)), some (.inl (i3 x2)), none, none] → zM s Z9 → zC [97] Zs Z9 → zU [] Zs Z9 → (0 ≤ yx3 ∧ yx3 ≤ 5) → zE T ((Z9, yx3)) → k 0 (L9, [], zm Z9 ν)) : wz_loop qb_519_1 65536 k R (L, [], zm Z ν) := by
  refine wz_lp sb_519_1 (fun m x => ∃ Z : qz_Z, ∃ x3 : Int, qz_fg [true, true, true, true, false] x.1 = [some (.inr (.inr (some (1, 0, 0)))), some (.inl (i3 x1)), some (.inl (i3 x2)), some (.inl (i3 x3)), none] ∧ x.2 = ([], zm Z ν) ∧ zM s Z ∧ zC [97] Zs Z ∧ zU [] Zs Z ∧ m = (5 - x3).toNat ∧ (0 ≤ x3 ∧ x3 ≤ 5) ∧ zE T (zl_519_1 x1 x2 (m + 1) Z x3)) ?_ 65536 ((5 - x3).toNat) _ (by omega) ⟨Z, x3, hL, rfl, hZ, hK, hU, rfl, gx3, hP⟩
  clear hP gx3 hZ hK hU hL
  clear x3
  clear Z
  rintro m ⟨L, st, μ⟩ ⟨Z, x3, hL, hx, hZ, hK, hU, hm, gx3, hP⟩
  cases hx
  refine fb_519_1 (i3 x1) (i3 x2) (i3 x3) _ _ _ _ hL ?_
  refine wz_br (i3Le (show (5 : Int32) = i3 5 from rfl) (rfl : i3 x3 = i3 x3) (by omega) (by omega) (by omega) (by omega)) (fun h1 => ?_) (fun h1 => ?_)
  · replace hP := zE_p hP h1
    exact hk _ _ _ (zconso rfl (zconso (zvo (rfl : i3 x1 = i3 x1)) (zconso (zvo (rfl : i3 x2 = i3 x2)) (zconso rfl (zconso rfl rfl))))) hZ hK hU (by omega)  hP
  · replace hP := zE_n hP h1
    have r2 := z2_r (fun x y => x >>> (y &&& 31)) x2 x3
    have r3 := z2_r (fun x y => x &&& y) (z2 (fun x y => x >>> (y &&& 31)) x2 x3) 1
    have r4 := z2_and (z2 (fun x y => x >>> (y &&& 31)) x2 x3) (y := 1) (by omega) (by omega)
    refine wz_br (i3NE (i3Z (fun x y => x &&& y) (i3Z (fun x y => x >>> (y &&& 31)) (rfl : i3 x2 = i3 x2) (rfl : i3 x3 = i3 x3)) (show (1 : Int32) = i3 1 from rfl)) (show (1 : Int32) = i3 1 from rfl) (by omega) (by omega) (by omega) (by omega)) (fun h5 => ?_) (fun h5 => ?_)
    · replace hP := zE_p hP h5
      refine wz_i0 (i3O (n := 160) (i3A (i3M (show (5 : Int32) = i3 5 from rfl) (rfl : i3 x2 = i3 x2)) (rfl : i3 x3 = i3 x3)) (by omega) (by omega) (by omega)) ?_
      obtain ⟨Z6, hZ6⟩ := zx (zu Z 97 0 0 (5 * x2 + x3) 0)
      replace hP := zl_e hP hZ6
      have hZ6I := zM_0 hZ hZ6 (by decide) (Or.inl (by decide))
      have hZ6U : zU [] Zs Z6 := zU_u hU hZ6 (Or.inl rfl)
      have hZ6K : zC [97] Zs Z6 := zC_u hK hZ6 rfl
      intro μ9 e9
      replace e9 := e9.trans (zm_wI (Z := Z) (ν := ν) hZ6 (show ((0 : Nat) : Int) = 0 from rfl) (show ((0 : Nat) : Int) = 0 from rfl) (i3I (y := (5 * x2 + x3)) (i3A (i3M (show (5 : Int32) = i3 5 from rfl) (rfl : i3 x2 = i3 x2)) (rfl : i3 x3 = i3 x3)) (by omega) (by omega) (by omega)) (show (0 : Int32) = i3 0 from rfl))
      subst e9
      obtain ⟨m2, rfl⟩ : ∃ m2, m = m2 + 1 := ⟨m - 1, by omega⟩
      exact wz_k1 ⟨m2, by omega, Z6, (x3 + 1), (zconso rfl (zconso (zvo (rfl : i3 x1 = i3 x1)) (zconso (zvo (rfl : i3 x2 = i3 x2)) (zconso (zvo (i3A (rfl : i3 x3 = i3 x3) (show (1 : Int32) = i3 1 from rfl))) (zconso rfl rfl))))), rfl, hZ6I, hZ6K, hZ6U, by omega, by omega,  hP⟩
    · replace hP := zE_n hP h5
      obtain ⟨v7, hv7, c9, lv7, uv7⟩ := sp_525 (ν := ν) hZ (a1 := x2) (by omega) (a2 := x3) (by omega) (zbh (c := 0) (k := 0) hM (Nat.le_of_ble_eq_true rfl))
      replace hP := zl_e hP hv7
      refine wz_cI_of (zas (zcons rfl (zcons (zvi (rfl : i3 x2 = i3 x2)) (zcons (zvi (rfl : i3 x3 = i3 x3)) rfl))) c9) ?_
      clear c9
      refine wz_i0 (i3O (n := 160) (i3A (i3M (show (5 : Int32) = i3 5 from rfl) (rfl : i3 x2 = i3 x2)) (rfl : i3 x3 = i3 x3)) (by omega) (by omega) (by omega)) ?_
      obtain ⟨Z8, hZ8⟩ := zx (zu Z 97 0 0 (5 * x2 + x3) v7)
      replace hP := zl_e hP hZ8
      have hZ8I := zM_u hZ hZ8 (lo := -2147483648) (hi := 2147483647) (by decide) rfl (by omega) ⟨by decide, by decide⟩ (Or.inl (by decide)) rfl
      have hZ8U : zU [] Zs Z8 := zU_u hU hZ8 (Or.inl rfl)
      have hZ8K : zC [97] Zs Z8 := zC_u hK hZ8 rfl
      intro μ9 e9
      replace e9 := e9.trans (zm_wI (Z := Z) (ν := ν) hZ8 (show ((0 : Nat) : Int) = 0 from rfl) (show ((0 : Nat) : Int) = 0 from rfl) (i3I (y := (5 * x2 + x3)) (i3A (i3M (show (5 : Int32) = i3 5 from rfl) (rfl : i3 x2 = i3 x2)) (rfl : i3 x3 = i3 x3)) (by omega) (by omega) (by omega)) (rfl : i3 v7 = i3 v7))
      subst e9
      obtain ⟨m2, rfl⟩ : ∃ m2, m = m2 + 1 := ⟨m - 1, by omega⟩
      exact wz_k1 ⟨m2, by omega, Z8, (x3 + 1), (zconso rfl (zconso (zvo (rfl : i3 x1 = i3 x1)) (zconso (zvo (rfl : i3 x2 = i3 x2)) (zconso (zvo (i3A (rfl : i3 x3 = i3 x3) (show (1 : Int32) = i3 1 from rfl))) (zconso rfl rfl))))), rfl, hZ8I, hZ8K, hZ8U, by omega, by omega,  hP⟩
/- yX12_tLongBySets -/
def zl_519_3 (x1 : Int) : Nat → qz_Z → Int → qz_Z × Int
  | 0, Z, x2 => (Z, x2)
  | m + 1, Z, x2 => (if x1 < x2 then (Z, x2) else (zlet2 (zl_519_1 x1 x2 6 Z 0) (fun Z3 y2 => zl_519_3 x1 m Z3 (x2 + 1))))
theorem sl_519_3 {s : zSM} {Zs Z : qz_Z} {ν : qz_N} (hZ : zM s Z) (hM : s.2 + 0 ≤ 1000000000) (hK : zC [97] Zs Z) {x1 : Int} (gx1 : 0 ≤ x1 ∧ x1 ≤ 31) {x2 : Int} (gx2 : 1 ≤ x2 ∧ x2 ≤ 32) (hU : zU [] Zs Z) {k : wz_K} {R : wz_R} {L : qz_L} (hL : qz_fg [true, true, true, false, false] L = [some (.inr (.inr (some (1, 0, 0)))), some (.inl (i3 x1)), some (.inl (i3 x2)), none, none]) {T : qz_Z × Int} (hP : zE T (zl_519_3 x1 ((32 - x2).toNat + 1) Z x2)) (hk : ∀ (L9 : qz_L) (Z9 : qz_Z) (yx2 : Int), qz_fg [true, true, false, false, false] L9 = [some (.inr (.inr (some (1, 0, 0)))), some (.inl (i3 x1)), none, none, none] → zM s Z9 → zC [97] Zs Z9 → zU [] Zs Z9 → (1 ≤ yx2 ∧ yx2 ≤ 32) → zE T ((Z9, yx2)) → k 0 (L9, [], zm Z9 ν)) : wz_loop qb_519_3 65536 k R (L, [], zm Z ν) := by
  refine wz_lp sb_519_3 (fun m x => ∃ Z : qz_Z, ∃ x2 : Int, qz_fg [true, true, true, false, false] x.1 = [some (.inr (.inr (some (1, 0, 0)))), some (.inl (i3 x1)), some (.inl (i3 x2)), none, none] ∧ x.2 = ([], zm Z ν) ∧ zM s Z ∧ zC [97] Zs Z ∧ zU [] Zs Z ∧ m = (32 - x2).toNat ∧ (1 ≤ x2 ∧ x2 ≤ 32) ∧ zE T (zl_519_3 x1 (m + 1) Z x2)) ?_ 65536 ((32 - x2).toNat) _ (by omega) ⟨Z, x2, hL, rfl, hZ, hK, hU, rfl, gx2, hP⟩
  clear hP gx2 hZ hK hU hL
  clear x2
  clear Z
  rintro m ⟨L, st, μ⟩ ⟨Z, x2, hL, hx, hZ, hK, hU, hm, gx2, hP⟩
  cases hx
  refine fb_519_3 (i3 x1) (i3 x2) _ _ _ _ hL ?_
  refine wz_br (i3L (rfl : i3 x1 = i3 x1) (rfl : i3 x2 = i3 x2) (by omega) (by omega) (by omega) (by omega)) (fun h1 => ?_) (fun h1 => ?_)
  · replace hP := zE_p hP h1
    exact hk _ _ _ (zconso rfl (zconso (zvo (rfl : i3 x1 = i3 x1)) (zconso rfl (zconso rfl (zconso rfl rfl))))) hZ hK hU (by omega)  hP
  · replace hP := zE_n hP h1
    refine sl_519_1 (ν := ν) hZ (zbh (c := 0) (k := 0) hM (Nat.le_of_ble_eq_true rfl)) zC_r (x1 := x1) (by omega) (x2 := x2) (by omega) (x3 := 0) (by omega) zU_r  (zconso rfl (zconso (zvo (rfl : i3 x1 = i3 x1)) (zconso (zvo (rfl : i3 x2 = i3 x2)) (zconso (zvo (show (0 : Int32) = i3 0 from rfl)) (zconso rfl rfl))))) rfl ?_
    intro L4 Z3 y2 hL4 hZ3I kZ3 jZ3 gy2 q9
    replace hP := zl_e2 hP (Eq.symm q9)
    clear q9
    have hZ3U : zU [] Zs Z3 := zU_t hU jZ3 zU_b0
    have hZ3K : zC [97] Zs Z3 := zC_t hK kZ3 (by decide)
    refine fc_519_2 (i3 x1) (i3 x2) _ _ _ _ hL4 ?_
    obtain ⟨m2, rfl⟩ : ∃ m2, m = m2 + 1 := ⟨m - 1, by omega⟩
    refine wz_kbs (n := 1) (?_)
    exact wz_k1 ⟨m2, by omega, Z3, (x2 + 1), (zconso rfl (zconso (zvo (rfl : i3 x1 = i3 x1)) (zconso (zvo (i3A (rfl : i3 x2 = i3 x2) (show (1 : Int32) = i3 1 from rfl))) (zconso rfl (zconso rfl rfl))))), rfl, hZ3I, hZ3K, hZ3U, by omega, by omega,  hP⟩
/- yX12_tLongBySets -/
def zl_519_4 (x1 : Int) : Nat → qz_Z → Int → Int → Int × Int
  | 0, Z, x2, x3 => (x2, x3)
  | m + 1, Z, x2, x3 => (if 5 ≤ x3 then (x2, x3) else (if (z2 (fun x y => x &&& y) (z2 (fun x y => x >>> (y &&& 31)) x1 x3) 1) ≠ 1 then zl_519_4 x1 m Z x2 (x3 + 1) else (if x2 = (-1) then zl_519_4 x1 m Z (w3 ((Z 97 0 0 (5 * x1 + x3)) + (Z 2 0 0 (3215 + 6 * x3)))) (x3 + 1) else (if x2 ≤ (w3 ((Z 97 0 0 (5 * x1 + x3)) + (Z 2 0 0 (3215 + 6 * x3)))) then zl_519_4 x1 m Z x2 (x3 + 1) else zl_519_4 x1 m Z (w3 ((Z 97 0 0 (5 * x1 + x3)) + (Z 2 0 0 (3215 + 6 * x3)))) (x3 + 1)))))
theorem sl_519_4 {s : zSM} {Z : qz_Z} {ν : qz_N} (hZ : zM s Z) (hM : s.2 + 0 ≤ 1000000000) {x1 : Int} (gx1 : 0 ≤ x1 ∧ x1 ≤ 31) {x2 : Int} (gx2 : -2147483648 ≤ x2 ∧ x2 ≤ 2147483647) {x3 : Int} (gx3 : 0 ≤ x3 ∧ x3 ≤ 5) {k : wz_K} {R : wz_R} {L : qz_L} (hL : qz_fg [true, true, true, true, false] L = [some (.inr (.inr (some (1, 0, 0)))), some (.inl (i3 x1)), some (.inl (i3 x2)), some (.inl (i3 x3)), none]) {T : Int × Int} (hP : zE T (zl_519_4 x1 ((5 - x3).toNat + 1) Z x2 x3)) (hk : ∀ (L9 : qz_L) (yx2 yx3 : Int), qz_fg [false, false, true, false, false] L9 = [none, none, some (.inl (i3 yx2)), none, none] → (-2147483648 ≤ yx2 ∧ yx2 ≤ 2147483647) → (0 ≤ yx3 ∧ yx3 ≤ 5) → zE T ((yx2, yx3)) → k 0 (L9, [], zm Z ν)) : wz_loop qb_519_4 65536 k R (L, [], zm Z ν) := by
  refine wz_lp sb_519_4 (fun m x => ∃ x2 : Int, ∃ x3 : Int, qz_fg [true, true, true, true, false] x.1 = [some (.inr (.inr (some (1, 0, 0)))), some (.inl (i3 x1)), some (.inl (i3 x2)), some (.inl (i3 x3)), none] ∧ x.2 = ([], zm Z ν) ∧ m = (5 - x3).toNat ∧ (-2147483648 ≤ x2 ∧ x2 ≤ 2147483647) ∧ (0 ≤ x3 ∧ x3 ≤ 5) ∧ zE T (zl_519_4 x1 (m + 1) Z x2 x3)) ?_ 65536 ((5 - x3).toNat) _ (by omega) ⟨x2, x3, hL, rfl, rfl, gx2, gx3, hP⟩
  clear hP gx2 gx3 hL
  clear x2 x3
  rintro m ⟨L, st, μ⟩ ⟨x2, x3, hL, hx, hm, gx2, gx3, hP⟩
  cases hx
  refine fb_519_4 (i3 x1) (i3 x2) (i3 x3) _ _ _ _ hL ?_
  refine wz_br (i3Le (show (5 : Int32) = i3 5 from rfl) (rfl : i3 x3 = i3 x3) (by omega) (by omega) (by omega) (by omega)) (fun h1 => ?_) (fun h1 => ?_)
  · replace hP := zE_p hP h1
    exact hk _ _ _ (zconso rfl (zconso rfl (zconso (zvo (rfl : i3 x2 = i3 x2)) (zconso rfl (zconso rfl rfl)))))  (by omega) (by omega)  hP
  · replace hP := zE_n hP h1
    have r2 := z2_r (fun x y => x >>> (y &&& 31)) x1 x3
    have r3 := z2_r (fun x y => x &&& y) (z2 (fun x y => x >>> (y &&& 31)) x1 x3) 1
    have r4 := z2_and (z2 (fun x y => x >>> (y &&& 31)) x1 x3) (y := 1) (by omega) (by omega)
    refine wz_br (i3NE (i3Z (fun x y => x &&& y) (i3Z (fun x y => x >>> (y &&& 31)) (rfl : i3 x1 = i3 x1) (rfl : i3 x3 = i3 x3)) (show (1 : Int32) = i3 1 from rfl)) (show (1 : Int32) = i3 1 from rfl) (by omega) (by omega) (by omega) (by omega)) (fun h5 => ?_) (fun h5 => ?_)
    · replace hP := zE_p hP h5
      obtain ⟨m2, rfl⟩ : ∃ m2, m = m2 + 1 := ⟨m - 1, by omega⟩
      exact wz_k1 ⟨m2, by omega, x2, (x3 + 1), (zconso rfl (zconso (zvo (rfl : i3 x1 = i3 x1)) (zconso (zvo (rfl : i3 x2 = i3 x2)) (zconso (zvo (i3A (rfl : i3 x3 = i3 x3) (show (1 : Int32) = i3 1 from rfl))) (zconso rfl rfl))))), rfl,  by omega, by omega, by omega,  hP⟩
    · replace hP := zE_n hP h5
      refine wz_i0 (i3O (n := 160) (i3A (i3M (show (5 : Int32) = i3 5 from rfl) (rfl : i3 x1 = i3 x1)) (rfl : i3 x3 = i3 x3)) (by omega) (by omega) (by omega)) ?_
      refine wz_i0 (i3O (n := 4400) (i3A (i3A (show (3210 : Int32) = i3 3210 from rfl) (i3M (show (6 : Int32) = i3 6 from rfl) (rfl : i3 x3 = i3 x3))) (show (5 : Int32) = i3 5 from rfl)) (by omega) (by omega) (by omega)) ?_
      refine wz_br (i3E (rfl : i3 x2 = i3 x2) (show (-1 : Int32) = i3 (-1) from rfl) (by omega) (by omega) (by omega) (by omega)) (fun h6 => ?_) (fun h6 => ?_)
      · replace hP := zE_p hP h6
        have r7 := zM_f hZ 97 0 0 (5 * x1 + x3)
        have r8 := zM_k hZ 2 0 0 (3215 + 6 * x3) (lo := 0) (hi := 12) (by decide) (zs_3210 (by omega) (by omega))
        have r9 := w3_r ((Z 97 0 0 (5 * x1 + x3)) + (Z 2 0 0 (3215 + 6 * x3)))
        obtain ⟨m2, rfl⟩ : ∃ m2, m = m2 + 1 := ⟨m - 1, by omega⟩
        exact wz_k1 ⟨m2, by omega, (w3 ((Z 97 0 0 (5 * x1 + x3)) + (Z 2 0 0 (3215 + 6 * x3)))), (x3 + 1), (zconso rfl (zconso (zvo (rfl : i3 x1 = i3 x1)) (zconso (zvo (i3W (i3A (zm_rd (Z := Z) (ν := ν) (k := 97) (show ((0 : Nat) : Int) = 0 from rfl) (show ((0 : Nat) : Int) = 0 from rfl) (i3I (y := (5 * x1 + x3)) (i3A (i3M (show (5 : Int32) = i3 5 from rfl) (rfl : i3 x1 = i3 x1)) (rfl : i3 x3 = i3 x3)) (by omega) (by omega) (by omega))) (zm_rd (Z := Z) (ν := ν) (k := 2) (show ((0 : Nat) : Int) = 0 from rfl) (show ((0 : Nat) : Int) = 0 from rfl) (i3I (y := (3215 + 6 * x3)) (i3A (i3A (show (3210 : Int32) = i3 3210 from rfl) (i3M (show (6 : Int32) = i3 6 from rfl) (rfl : i3 x3 = i3 x3))) (show (5 : Int32) = i3 5 from rfl)) (by omega) (by omega) (by omega)))))) (zconso (zvo (i3A (rfl : i3 x3 = i3 x3) (show (1 : Int32) = i3 1 from rfl))) (zconso rfl rfl))))), rfl,  by omega, by omega, by omega,  hP⟩
      · replace hP := zE_n hP h6
        have r10 := zM_f hZ 97 0 0 (5 * x1 + x3)
        have r11 := zM_k hZ 2 0 0 (3215 + 6 * x3) (lo := 0) (hi := 12) (by decide) (zs_3210 (by omega) (by omega))
        have r12 := w3_r ((Z 97 0 0 (5 * x1 + x3)) + (Z 2 0 0 (3215 + 6 * x3)))
        refine wz_br (i3Le (rfl : i3 x2 = i3 x2) (i3W (i3A (zm_rd (Z := Z) (ν := ν) (k := 97) (show ((0 : Nat) : Int) = 0 from rfl) (show ((0 : Nat) : Int) = 0 from rfl) (i3I (y := (5 * x1 + x3)) (i3A (i3M (show (5 : Int32) = i3 5 from rfl) (rfl : i3 x1 = i3 x1)) (rfl : i3 x3 = i3 x3)) (by omega) (by omega) (by omega))) (zm_rd (Z := Z) (ν := ν) (k := 2) (show ((0 : Nat) : Int) = 0 from rfl) (show ((0 : Nat) : Int) = 0 from rfl) (i3I (y := (3215 + 6 * x3)) (i3A (i3A (show (3210 : Int32) = i3 3210 from rfl) (i3M (show (6 : Int32) = i3 6 from rfl) (rfl : i3 x3 = i3 x3))) (show (5 : Int32) = i3 5 from rfl)) (by omega) (by omega) (by omega))))) (by omega) (by omega) (by omega) (by omega)) (fun h13 => ?_) (fun h13 => ?_)
        · replace hP := zE_p hP h13
          obtain ⟨m2, rfl⟩ : ∃ m2, m = m2 + 1 := ⟨m - 1, by omega⟩
          exact wz_k1 ⟨m2, by omega, x2, (x3 + 1), (zconso rfl (zconso (zvo (rfl : i3 x1 = i3 x1)) (zconso (zvo (rfl : i3 x2 = i3 x2)) (zconso (zvo (i3A (rfl : i3 x3 = i3 x3) (show (1 : Int32) = i3 1 from rfl))) (zconso rfl rfl))))), rfl,  by omega, by omega, by omega,  hP⟩
        · replace hP := zE_n hP h13
          obtain ⟨m2, rfl⟩ : ∃ m2, m = m2 + 1 := ⟨m - 1, by omega⟩
          exact wz_k1 ⟨m2, by omega, (w3 ((Z 97 0 0 (5 * x1 + x3)) + (Z 2 0 0 (3215 + 6 * x3)))), (x3 + 1), (zconso rfl (zconso (zvo (rfl : i3 x1 = i3 x1)) (zconso (zvo (i3W (i3A (zm_rd (Z := Z) (ν := ν) (k := 97) (show ((0 : Nat) : Int) = 0 from rfl) (show ((0 : Nat) : Int) = 0 from rfl) (i3I (y := (5 * x1 + x3)) (i3A (i3M (show (5 : Int32) = i3 5 from rfl) (rfl : i3 x1 = i3 x1)) (rfl : i3 x3 = i3 x3)) (by omega) (by omega) (by omega))) (zm_rd (Z := Z) (ν := ν) (k := 2) (show ((0 : Nat) : Int) = 0 from rfl) (show ((0 : Nat) : Int) = 0 from rfl) (i3I (y := (3215 + 6 * x3)) (i3A (i3A (show (3210 : Int32) = i3 3210 from rfl) (i3M (show (6 : Int32) = i3 6 from rfl) (rfl : i3 x3 = i3 x3))) (show (5 : Int32) = i3 5 from rfl)) (by omega) (by omega) (by omega)))))) (zconso (zvo (i3A (rfl : i3 x3 = i3 x3) (show (1 : Int32) = i3 1 from rfl))) (zconso rfl rfl))))), rfl,  by omega, by omega, by omega,  hP⟩
/- yX12_tLongBySets -/
def zf_519 (Z : qz_Z) (a1 : Int) : qz_Z × Int := (zlet2 (zl_519_3 a1 32 Z 1) (fun Z2 y1 => (if a1 ≠ 0 then (zlet2 (zl_519_4 a1 6 Z2 (-1) 0) (fun y5 y6 => (Z2, y5))) else (zlet2 (zl_519_4 a1 6 Z2 0 0) (fun y8 y9 => (Z2, y8))))))
theorem sp_519 {s : zSM} {Z : qz_Z} {ν : qz_N} (hZ : zM s Z) {a1 : Int} (ga1 : 0 ≤ a1 ∧ a1 ≤ 31) (hM : s.2 + 0 ≤ 1000000000) : ∃ (Z1 : qz_Z) (P : Int), (Z1, P) = zf_519 Z a1 ∧ (qf_519 [.inr (.inr (some (1, 0, 0))), .inl (i3 a1)] (zm Z ν) = some (zm Z1 ν, .inl (some (.inl (i3 P)))) ∧ zM s Z1 ∧ zC [97] Z Z1 ∧ zU [] Z Z1 ∧ -2147483648 ≤ P ∧ P ≤ 2147483647) := by
  obtain ⟨P, hP⟩ := zx (zf_519 Z a1)
  refine zc_W (Q := fun Z1 P => zM s Z1 ∧ zC [97] Z Z1 ∧ zU [] Z Z1 ∧ -2147483648 ≤ P ∧ P ≤ 2147483647) hP (fw_519 (i3 a1) _ _ ?_)
  replace hP : zE P (zf_519 Z a1) := hP
  unfold zf_519 at hP
  refine sl_519_3 (ν := ν) hZ (zbh (c := 0) (k := 0) hM (Nat.le_of_ble_eq_true rfl)) zC_r (x1 := a1) (by omega) (x2 := 1) (by omega) zU_r  (zconso rfl (zconso (zvo (rfl : i3 a1 = i3 a1)) (zconso (zvo (show (1 : Int32) = i3 1 from rfl)) (zconso rfl (zconso rfl rfl))))) rfl ?_
  intro L3 Z2 y1 hL3 hZ2I kZ2 jZ2 gy1 q9
  replace hP := zl_e2 hP (Eq.symm q9)
  clear q9
  have hZ2U : zU [] Z Z2 := zU_t zU_r jZ2 zU_b0
  have hZ2K : zC [97] Z Z2 := zC_t zC_r kZ2 (by decide)
  refine fc_519_6 (i3 a1) _ _ _ _ hL3 ?_
  refine wz_br (i3NE (rfl : i3 a1 = i3 a1) (show (0 : Int32) = i3 0 from rfl) (by omega) (by omega) (by omega) (by omega)) (fun h4 => ?_) (fun h4 => ?_)
  · replace hP := zE_p hP h4
    refine sl_519_4 (ν := ν) hZ2I (zbh (c := 0) (k := 0) hM (Nat.le_of_ble_eq_true rfl)) (x1 := a1) (by omega) (x2 := (-1)) (by omega) (x3 := 0) (by omega)  (zconso rfl (zconso (zvo (rfl : i3 a1 = i3 a1)) (zconso (zvo (show (-1 : Int32) = i3 (-1) from rfl)) (zconso (zvo (show (0 : Int32) = i3 0 from rfl)) (zconso rfl rfl))))) rfl ?_
    intro L7 y5 y6 hL7 gy5 gy6 q9
    replace hP := zl_e2 hP (Eq.symm q9)
    clear q9
    refine fc_519_5 (i3 y5) _ _ _ _ hL7 ?_
    exact zlW hP (rfl : i3 y5 = i3 y5) ⟨hZ2I, hZ2K, hZ2U, by omega, by omega⟩
  · replace hP := zE_n hP h4
    refine sl_519_4 (ν := ν) hZ2I (zbh (c := 0) (k := 0) hM (Nat.le_of_ble_eq_true rfl)) (x1 := a1) (by omega) (x2 := 0) (by omega) (x3 := 0) (by omega)  (zconso rfl (zconso (zvo (rfl : i3 a1 = i3 a1)) (zconso (zvo (show (0 : Int32) = i3 0 from rfl)) (zconso (zvo (show (0 : Int32) = i3 0 from rfl)) (zconso rfl rfl))))) rfl ?_
    intro L10 y8 y9 hL10 gy8 gy9 q9
    replace hP := zl_e2 hP (Eq.symm q9)
    clear q9
    refine fc_519_5 (i3 y8) _ _ _ _ hL10 ?_
    exact zlW hP (rfl : i3 y8 = i3 y8) ⟨hZ2I, hZ2K, hZ2U, by omega, by omega⟩
/- yX12_tTruckSound -/
def zl_528_1 (x1 : Int) : Nat → qz_Z → Int → Int → Int × Int
  | 0, Z, x2, x3 => (x2, x3)
  | m + 1, Z, x2, x3 => (if (Z 2 0 0 2000) ≤ x3 then (x2, x3) else (if x2 = 0 then zl_528_1 x1 m Z 0 (x3 + 1) else (if (Z 2 0 0 (2019 + 16 * x3)) ≠ 1 then zl_528_1 x1 m Z 1 (x3 + 1) else (if (Z 2 0 0 (2020 + 16 * x3)) ≠ x1 then zl_528_1 x1 m Z 1 (x3 + 1) else (zlet (zf_516 Z x3 x1) (fun v9 => (if v9 = 0 then zl_528_1 x1 m Z 0 (x3 + 1) else zl_528_1 x1 m Z 1 (x3 + 1))))))))
theorem sl_528_1 {s : zSM} {Z : qz_Z} {ν : qz_N} (hZ : zM s Z) (hM : s.2 + 0 ≤ 1000000000) {x1 : Int} (gx1 : 0 ≤ x1 ∧ x1 ≤ 3) {x2 : Int} (gx2 : 0 ≤ x2 ∧ x2 ≤ 1) {x3 : Int} (gx3 : 0 ≤ x3 ∧ x3 ≤ 60) {k : wz_K} {R : wz_R} {L : qz_L} (hL : qz_fg [true, true, true, true] L = [some (.inr (.inr (some (1, 0, 0)))), some (.inl (i3 x1)), some (.inl (i3 x2)), some (.inl (i3 x3))]) {T : Int × Int} (hP : zE T (zl_528_1 x1 ((60 - x3).toNat + 1) Z x2 x3)) (hk : ∀ (L9 : qz_L) (yx2 yx3 : Int), qz_fg [true, true, true, false] L9 = [some (.inr (.inr (some (1, 0, 0)))), some (.inl (i3 x1)), some (.inl (i3 yx2)), none] → (0 ≤ yx2 ∧ yx2 ≤ 1) → (0 ≤ yx3 ∧ yx3 ≤ 60) → zE T ((yx2, yx3)) → k 0 (L9, [], zm Z ν)) : wz_loop qb_528_1 65536 k R (L, [], zm Z ν) := by
  refine wz_lp sb_528_1 (fun m x => ∃ x2 : Int, ∃ x3 : Int, qz_fg [true, true, true, true] x.1 = [some (.inr (.inr (some (1, 0, 0)))), some (.inl (i3 x1)), some (.inl (i3 x2)), some (.inl (i3 x3))] ∧ x.2 = ([], zm Z ν) ∧ m = (60 - x3).toNat ∧ (0 ≤ x2 ∧ x2 ≤ 1) ∧ (0 ≤ x3 ∧ x3 ≤ 60) ∧ zE T (zl_528_1 x1 (m + 1) Z x2 x3)) ?_ 65536 ((60 - x3).toNat) _ (by omega) ⟨x2, x3, hL, rfl, rfl, gx2, gx3, hP⟩
  clear hP gx2 gx3 hL
  clear x2 x3
  rintro m ⟨L, st, μ⟩ ⟨x2, x3, hL, hx, hm, gx2, gx3, hP⟩
  cases hx
  refine fb_528_1 (i3 x1) (i3 x2) (i3 x3) _ _ _ _ hL ?_
  have r1 := zM_k hZ 2 0 0 2000 (lo := 0) (hi := 60) (by decide) rfl
  refine wz_br (i3Le (zm_rd (Z := Z) (ν := ν) (k := 2) (show ((0 : Nat) : Int) = 0 from rfl) (show ((0 : Nat) : Int) = 0 from rfl) (show ((2000 : Nat) : Int) = 2000 from rfl)) (rfl : i3 x3 = i3 x3) (by omega) (by omega) (by omega) (by omega)) (fun h2 => ?_) (fun h2 => ?_)
  · replace hP := zE_p hP h2
    exact hk _ _ _ (zconso rfl (zconso (zvo (rfl : i3 x1 = i3 x1)) (zconso (zvo (rfl : i3 x2 = i3 x2)) (zconso rfl rfl))))  (by omega) (by omega)  hP
  · replace hP := zE_n hP h2
    refine wz_br (i3E (rfl : i3 x2 = i3 x2) (show (0 : Int32) = i3 0 from rfl) (by omega) (by omega) (by omega) (by omega)) (fun h3 => ?_) (fun h3 => ?_)
    · replace hP := zE_p hP h3
      obtain ⟨m2, rfl⟩ : ∃ m2, m = m2 + 1 := ⟨m - 1, by omega⟩
      exact wz_k1 ⟨m2, by omega, 0, (x3 + 1), (zconso rfl (zconso (zvo (rfl : i3 x1 = i3 x1)) (zconso (zvo (show (0 : Int32) = i3 0 from rfl)) (zconso (zvo (i3A (rfl : i3 x3 = i3 x3) (show (1 : Int32) = i3 1 from rfl))) rfl)))), rfl,  by omega, by omega, by omega,  hP⟩
    · replace hP := zE_n hP h3
      refine wz_i0 (i3O (n := 4400) (i3A (i3A (show (2010 : Int32) = i3 2010 from rfl) (i3M (show (16 : Int32) = i3 16 from rfl) (rfl : i3 x3 = i3 x3))) (show (9 : Int32) = i3 9 from rfl)) (by omega) (by omega) (by omega)) ?_
      have r4 := zM_k hZ 2 0 0 (2019 + 16 * x3) (lo := 0) (hi := 3) (by decide) (zs_2010_9 (x := x3) (by omega) (by omega) (by omega))
      have r5 := zM_lt2 hZ x3
      refine wz_br (i3NE (zm_rd (Z := Z) (ν := ν) (k := 2) (show ((0 : Nat) : Int) = 0 from rfl) (show ((0 : Nat) : Int) = 0 from rfl) (i3I (y := (2019 + 16 * x3)) (i3A (i3A (show (2010 : Int32) = i3 2010 from rfl) (i3M (show (16 : Int32) = i3 16 from rfl) (rfl : i3 x3 = i3 x3))) (show (9 : Int32) = i3 9 from rfl)) (by omega) (by omega) (by omega))) (show (1 : Int32) = i3 1 from rfl) (by omega) (by omega) (by omega) (by omega)) (fun h6 => ?_) (fun h6 => ?_)
      · replace hP := zE_p hP h6
        obtain ⟨m2, rfl⟩ : ∃ m2, m = m2 + 1 := ⟨m - 1, by omega⟩
        exact wz_k1 ⟨m2, by omega, 1, (x3 + 1), (zconso rfl (zconso (zvo (rfl : i3 x1 = i3 x1)) (zconso (zvo (show (1 : Int32) = i3 1 from rfl)) (zconso (zvo (i3A (rfl : i3 x3 = i3 x3) (show (1 : Int32) = i3 1 from rfl))) rfl)))), rfl,  by omega, by omega, by omega,  hP⟩
      · replace hP := zE_n hP h6
        refine wz_i0 (i3O (n := 4400) (i3A (i3A (show (2010 : Int32) = i3 2010 from rfl) (i3M (show (16 : Int32) = i3 16 from rfl) (rfl : i3 x3 = i3 x3))) (show (10 : Int32) = i3 10 from rfl)) (by omega) (by omega) (by omega)) ?_
        have r7 := zM_k hZ 2 0 0 (2020 + 16 * x3) (lo := -1) (hi := 3) (by decide) (zs_2010_10 (x := x3) (by omega) (by omega) (by omega))
        refine wz_br (i3NE (zm_rd (Z := Z) (ν := ν) (k := 2) (show ((0 : Nat) : Int) = 0 from rfl) (show ((0 : Nat) : Int) = 0 from rfl) (i3I (y := (2020 + 16 * x3)) (i3A (i3A (show (2010 : Int32) = i3 2010 from rfl) (i3M (show (16 : Int32) = i3 16 from rfl) (rfl : i3 x3 = i3 x3))) (show (10 : Int32) = i3 10 from rfl)) (by omega) (by omega) (by omega))) (rfl : i3 x1 = i3 x1) (by omega) (by omega) (by omega) (by omega)) (fun h8 => ?_) (fun h8 => ?_)
        · replace hP := zE_p hP h8
          obtain ⟨m2, rfl⟩ : ∃ m2, m = m2 + 1 := ⟨m - 1, by omega⟩
          exact wz_k1 ⟨m2, by omega, 1, (x3 + 1), (zconso rfl (zconso (zvo (rfl : i3 x1 = i3 x1)) (zconso (zvo (show (1 : Int32) = i3 1 from rfl)) (zconso (zvo (i3A (rfl : i3 x3 = i3 x3) (show (1 : Int32) = i3 1 from rfl))) rfl)))), rfl,  by omega, by omega, by omega,  hP⟩
        · replace hP := zE_n hP h8
          obtain ⟨v9, hv9, c9, lv9, uv9⟩ := sp_516 (ν := ν) hZ (a1 := x3) (by omega) (a2 := x1) (by omega) (zbh (c := 0) (k := 0) hM (Nat.le_of_ble_eq_true rfl))
          replace hP := zl_e hP hv9
          refine wz_cI_of (zas (zcons rfl (zcons (zvi (rfl : i3 x3 = i3 x3)) (zcons (zvi (rfl : i3 x1 = i3 x1)) rfl))) c9) ?_
          clear c9
          refine wz_br (i3E (rfl : i3 v9 = i3 v9) (show (0 : Int32) = i3 0 from rfl) (by omega) (by omega) (by omega) (by omega)) (fun h10 => ?_) (fun h10 => ?_)
          · replace hP := zE_p hP h10
            obtain ⟨m2, rfl⟩ : ∃ m2, m = m2 + 1 := ⟨m - 1, by omega⟩
            exact wz_k1 ⟨m2, by omega, 0, (x3 + 1), (zconso rfl (zconso (zvo (rfl : i3 x1 = i3 x1)) (zconso (zvo (show (0 : Int32) = i3 0 from rfl)) (zconso (zvo (i3A (rfl : i3 x3 = i3 x3) (show (1 : Int32) = i3 1 from rfl))) rfl)))), rfl,  by omega, by omega, by omega,  hP⟩
          · replace hP := zE_n hP h10
            obtain ⟨m2, rfl⟩ : ∃ m2, m = m2 + 1 := ⟨m - 1, by omega⟩
            exact wz_k1 ⟨m2, by omega, 1, (x3 + 1), (zconso rfl (zconso (zvo (rfl : i3 x1 = i3 x1)) (zconso (zvo (show (1 : Int32) = i3 1 from rfl)) (zconso (zvo (i3A (rfl : i3 x3 = i3 x3) (show (1 : Int32) = i3 1 from rfl))) rfl)))), rfl,  by omega, by omega, by omega,  hP⟩
