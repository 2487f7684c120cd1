/- yX12_buyer -/
def zy_295 (Z : qz_Z) (dm : qz_Z → Int → Int → Int → Int → Int → Int → Int → qz_Z) (a1 : Int) (a2 : Int) (a3 : Int) : qz_Z × Int := (if a1 < 0 then (zlet (zu Z 1 0 0 2 1) (fun Z5 => (Z5, 0))) else (if 4 < a1 then (zlet (zu Z 1 0 0 2 1) (fun Z7 => (Z7, 0))) else (zlet (zu Z 1 0 0 2 0) (fun Z8 => (if a2 < 0 then (zlet (zu Z8 1 0 0 2 2) (fun Z10 => (Z10, 0))) else (if 9999999 < a2 then (zlet (zu Z8 1 0 0 2 2) (fun Z12 => (Z12, 0))) else (if a3 < 0 then (zlet (zu Z8 1 0 0 2 2) (fun Z14 => (Z14, 0))) else (if 14 < a3 then (zlet (zu Z8 1 0 0 2 2) (fun Z16 => (Z16, 0))) else (zlet (zu Z8 1 0 0 2 0) (fun Z17 => (if 8 ≤ (Z17 2 0 0 1400) then (zlet (zu Z17 1 0 0 2 3) (fun Z20 => (Z20, 0))) else (zlet (zu Z17 1 0 0 2 0) (fun Z21 => (zlet (dm Z21 11 a1 a2 a3 0 0 0) (fun Z28 => (zlet (zu Z28 2 0 0 (1410 + 12 * (Z28 2 0 0 1400)) a1) (fun Z31 => (zlet (zu Z31 2 0 0 (1411 + 12 * (Z28 2 0 0 1400)) a2) (fun Z32 => (zlet (zu Z32 2 0 0 (1412 + 12 * (Z28 2 0 0 1400)) a3) (fun Z33 => (zlet (zu Z33 2 0 0 1400 ((Z33 2 0 0 1400) + 1)) (fun Z36 => (Z36, (Z28 2 0 0 1400)))))))))))))))))))))))))
theorem sy_295 {s : zSM} {Z : qz_Z} {ν : qz_N} (hZ : zM s Z) (gq : Z 1 0 0 35 = 0) (hM : s.2 + 0 ≤ 1000000000) {a1 : Int} (ga1 : -2147483648 ≤ a1 ∧ a1 ≤ 2147483647) {a2 : Int} (ga2 : -2147483648 ≤ a2 ∧ a2 ≤ 2147483647) {a3 : Int} (ga3 : -2147483648 ≤ a3 ∧ a3 ≤ 2147483647) {dk : qz_Z → qz_Z} {dm : qz_Z → Int → Int → Int → Int → Int → Int → Int → qz_Z} {ν1 : qz_N} (hdm : zDm s ν ν1 Z dk dm) : ∃ (Z1 : qz_Z) (ν2 : qz_N) (v : Int), (Z1, v) = zy_295 Z dm a1 a2 a3 ∧ (ν2 = ν ∨ ν2 = ν1) ∧ qf_295 [.inr (.inr (some (1, 0, 0))), .inl (i3 a1), .inl (i3 a2), .inl (i3 a3)] (zm Z ν) = some (zm Z1 ν2, .inl (some (.inl (i3 v)))) ∧ (fun Z1 => zM s Z1 ∧ zC [1, 2, 101, 102, 200] Z Z1 ∧ zU [] Z Z1) Z1 := by
  obtain ⟨P, hP⟩ := zx (zy_295 Z dm a1 a2 a3)
  refine zc_Y (Q := fun Z1 => zM s Z1 ∧ zC [1, 2, 101, 102, 200] Z Z1 ∧ zU [] Z Z1) hP (fw_295 (i3 a1) (i3 a2) (i3 a3) _ _ ?_)
  replace hP : zE P (zy_295 Z dm a1 a2 a3) := hP
  unfold zy_295 at hP
  have r1 := zM_k hZ 1 0 0 35 (lo := 0) (hi := 1) (by decide) rfl
  have r2 := zM_k hZ 1 0 0 34 (lo := 0) (hi := 8) (by decide) rfl
  have r3 := zM_f hZ 1 0 0 37
  refine wz_br (i3L (rfl : i3 a1 = i3 a1) (show (0 : Int32) = i3 0 from rfl) (by omega) (by omega) (by omega) (by omega)) (fun h4 => ?_) (fun h4 => ?_)
  · replace hP := zE_p hP h4
    obtain ⟨Z5, hZ5⟩ := zx (zu Z 1 0 0 2 1)
    replace hP := zl_e hP hZ5
    have hZ5I := zM_u hZ hZ5 (lo := -2147483648) (hi := 2147483647) (by decide) rfl (by omega) ⟨by decide, by decide⟩ (Or.inr (by decide)) rfl
    have hZ5U : zU [] Z Z5 := zU_u zU_r hZ5 (Or.inl rfl)
    have hZ5K : zC [1, 2, 101, 102, 200] Z Z5 := zC_u zC_r hZ5 (by decide)
    intro μ9 e9
    replace e9 := e9.trans (zm_wI (Z := Z) (ν := ν) hZ5 (show ((0 : Nat) : Int) = 0 from rfl) (show ((0 : Nat) : Int) = 0 from rfl) (show ((2 : Nat) : Int) = 2 from rfl) (show (1 : Int32) = i3 1 from rfl))
    subst e9
    exact zlY hP (show (0 : Int32) = i3 0 from rfl) (.inl rfl) ⟨hZ5I, hZ5K, hZ5U⟩
  · replace hP := zE_n hP h4
    refine wz_br (i3L (show (4 : Int32) = i3 4 from rfl) (rfl : i3 a1 = i3 a1) (by omega) (by omega) (by omega) (by omega)) (fun h6 => ?_) (fun h6 => ?_)
    · replace hP := zE_p hP h6
      obtain ⟨Z7, hZ7⟩ := zx (zu Z 1 0 0 2 1)
      replace hP := zl_e hP hZ7
      have hZ7I := zM_u hZ hZ7 (lo := -2147483648) (hi := 2147483647) (by decide) rfl (by omega) ⟨by decide, by decide⟩ (Or.inr (by decide)) rfl
      have hZ7U : zU [] Z Z7 := zU_u zU_r hZ7 (Or.inl rfl)
      have hZ7K : zC [1, 2, 101, 102, 200] Z Z7 := zC_u zC_r hZ7 (by decide)
      intro μ9 e9
      replace e9 := e9.trans (zm_wI (Z := Z) (ν := ν) hZ7 (show ((0 : Nat) : Int) = 0 from rfl) (show ((0 : Nat) : Int) = 0 from rfl) (show ((2 : Nat) : Int) = 2 from rfl) (show (1 : Int32) = i3 1 from rfl))
      subst e9
      exact zlY hP (show (0 : Int32) = i3 0 from rfl) (.inl rfl) ⟨hZ7I, hZ7K, hZ7U⟩
    · replace hP := zE_n hP h6
      obtain ⟨Z8, hZ8⟩ := zx (zu Z 1 0 0 2 0)
      replace hP := zl_e hP hZ8
      have hZ8I := zM_0 hZ hZ8 (by decide) (Or.inr (by decide))
      have hZ8U : zU [] Z Z8 := zU_u zU_r hZ8 (Or.inl rfl)
      have hZ8K : zC [1, 2, 101, 102, 200] Z Z8 := zC_u zC_r hZ8 (by decide)
      intro μ9 e9
      replace e9 := e9.trans (zm_wI (Z := Z) (ν := ν) hZ8 (show ((0 : Nat) : Int) = 0 from rfl) (show ((0 : Nat) : Int) = 0 from rfl) (show ((2 : Nat) : Int) = 2 from rfl) (show (0 : Int32) = i3 0 from rfl))
      subst e9
      refine wz_br (i3L (rfl : i3 a2 = i3 a2) (show (0 : Int32) = i3 0 from rfl) (by omega) (by omega) (by omega) (by omega)) (fun h9 => ?_) (fun h9 => ?_)
      · replace hP := zE_p hP h9
        obtain ⟨Z10, hZ10⟩ := zx (zu Z8 1 0 0 2 2)
        replace hP := zl_e hP hZ10
        have hZ10I := zM_u hZ8I hZ10 (lo := -2147483648) (hi := 2147483647) (by decide) rfl (by omega) ⟨by decide, by decide⟩ (Or.inr (by decide)) rfl
        have hZ10U : zU [] Z Z10 := zU_u hZ8U hZ10 (Or.inl rfl)
        have hZ10K : zC [1, 2, 101, 102, 200] Z Z10 := zC_u hZ8K hZ10 (by decide)
        intro μ9 e9
        replace e9 := e9.trans (zm_wI (Z := Z8) (ν := ν) hZ10 (show ((0 : Nat) : Int) = 0 from rfl) (show ((0 : Nat) : Int) = 0 from rfl) (show ((2 : Nat) : Int) = 2 from rfl) (show (2 : Int32) = i3 2 from rfl))
        subst e9
        exact zlY hP (show (0 : Int32) = i3 0 from rfl) (.inl rfl) ⟨hZ10I, hZ10K, hZ10U⟩
      · replace hP := zE_n hP h9
        refine wz_br (i3L (show (9999999 : Int32) = i3 9999999 from rfl) (rfl : i3 a2 = i3 a2) (by omega) (by omega) (by omega) (by omega)) (fun h11 => ?_) (fun h11 => ?_)
        · replace hP := zE_p hP h11
          obtain ⟨Z12, hZ12⟩ := zx (zu Z8 1 0 0 2 2)
          replace hP := zl_e hP hZ12
          have hZ12I := zM_u hZ8I hZ12 (lo := -2147483648) (hi := 2147483647) (by decide) rfl (by omega) ⟨by decide, by decide⟩ (Or.inr (by decide)) rfl
          have hZ12U : zU [] Z Z12 := zU_u hZ8U hZ12 (Or.inl rfl)
          have hZ12K : zC [1, 2, 101, 102, 200] Z Z12 := zC_u hZ8K hZ12 (by decide)
          intro μ9 e9
          replace e9 := e9.trans (zm_wI (Z := Z8) (ν := ν) hZ12 (show ((0 : Nat) : Int) = 0 from rfl) (show ((0 : Nat) : Int) = 0 from rfl) (show ((2 : Nat) : Int) = 2 from rfl) (show (2 : Int32) = i3 2 from rfl))
          subst e9
          exact zlY hP (show (0 : Int32) = i3 0 from rfl) (.inl rfl) ⟨hZ12I, hZ12K, hZ12U⟩
        · replace hP := zE_n hP h11
          refine wz_br (i3L (rfl : i3 a3 = i3 a3) (show (0 : Int32) = i3 0 from rfl) (by omega) (by omega) (by omega) (by omega)) (fun h13 => ?_) (fun h13 => ?_)
          · replace hP := zE_p hP h13
            obtain ⟨Z14, hZ14⟩ := zx (zu Z8 1 0 0 2 2)
            replace hP := zl_e hP hZ14
            have hZ14I := zM_u hZ8I hZ14 (lo := -2147483648) (hi := 2147483647) (by decide) rfl (by omega) ⟨by decide, by decide⟩ (Or.inr (by decide)) rfl
            have hZ14U : zU [] Z Z14 := zU_u hZ8U hZ14 (Or.inl rfl)
            have hZ14K : zC [1, 2, 101, 102, 200] Z Z14 := zC_u hZ8K hZ14 (by decide)
            intro μ9 e9
            replace e9 := e9.trans (zm_wI (Z := Z8) (ν := ν) hZ14 (show ((0 : Nat) : Int) = 0 from rfl) (show ((0 : Nat) : Int) = 0 from rfl) (show ((2 : Nat) : Int) = 2 from rfl) (show (2 : Int32) = i3 2 from rfl))
            subst e9
            exact zlY hP (show (0 : Int32) = i3 0 from rfl) (.inl rfl) ⟨hZ14I, hZ14K, hZ14U⟩
          · replace hP := zE_n hP h13
            refine wz_br (i3L (show (14 : Int32) = i3 14 from rfl) (rfl : i3 a3 = i3 a3) (by omega) (by omega) (by omega) (by omega)) (fun h15 => ?_) (fun h15 => ?_)
            · replace hP := zE_p hP h15
              obtain ⟨Z16, hZ16⟩ := zx (zu Z8 1 0 0 2 2)
              replace hP := zl_e hP hZ16
              have hZ16I := zM_u hZ8I hZ16 (lo := -2147483648) (hi := 2147483647) (by decide) rfl (by omega) ⟨by decide, by decide⟩ (Or.inr (by decide)) rfl
              have hZ16U : zU [] Z Z16 := zU_u hZ8U hZ16 (Or.inl rfl)
              have hZ16K : zC [1, 2, 101, 102, 200] Z Z16 := zC_u hZ8K hZ16 (by decide)
              intro μ9 e9
              replace e9 := e9.trans (zm_wI (Z := Z8) (ν := ν) hZ16 (show ((0 : Nat) : Int) = 0 from rfl) (show ((0 : Nat) : Int) = 0 from rfl) (show ((2 : Nat) : Int) = 2 from rfl) (show (2 : Int32) = i3 2 from rfl))
              subst e9
              exact zlY hP (show (0 : Int32) = i3 0 from rfl) (.inl rfl) ⟨hZ16I, hZ16K, hZ16U⟩
            · replace hP := zE_n hP h15
              obtain ⟨Z17, hZ17⟩ := zx (zu Z8 1 0 0 2 0)
              replace hP := zl_e hP hZ17
              have hZ17I := zM_0 hZ8I hZ17 (by decide) (Or.inr (by decide))
              have hZ17U : zU [] Z Z17 := zU_u hZ8U hZ17 (Or.inl rfl)
              have hZ17K : zC [1, 2, 101, 102, 200] Z Z17 := zC_u hZ8K hZ17 (by decide)
              intro μ9 e9
              replace e9 := e9.trans (zm_wI (Z := Z8) (ν := ν) hZ17 (show ((0 : Nat) : Int) = 0 from rfl) (show ((0 : Nat) : Int) = 0 from rfl) (show ((2 : Nat) : Int) = 2 from rfl) (show (0 : Int32) = i3 0 from rfl))
              subst e9
              have r18 := zM_k hZ17I 2 0 0 1400 (lo := 0) (hi := 8) (by decide) rfl
              refine wz_br (i3Le (show (8 : Int32) = i3 8 from rfl) (zm_rd (Z := Z17) (ν := ν) (k := 2) (show ((0 : Nat) : Int) = 0 from rfl) (show ((0 : Nat) : Int) = 0 from rfl) (show ((1400 : Nat) : Int) = 1400 from rfl)) (by omega) (by omega) (by omega) (by omega)) (fun h19 => ?_) (fun h19 => ?_)
              · replace hP := zE_p hP h19
                obtain ⟨Z20, hZ20⟩ := zx (zu Z17 1 0 0 2 3)
                replace hP := zl_e hP hZ20
                have hZ20I := zM_u hZ17I hZ20 (lo := -2147483648) (hi := 2147483647) (by decide) rfl (by omega) ⟨by decide, by decide⟩ (Or.inr (by decide)) rfl
                have hZ20U : zU [] Z Z20 := zU_u hZ17U hZ20 (Or.inl rfl)
                have hZ20K : zC [1, 2, 101, 102, 200] Z Z20 := zC_u hZ17K hZ20 (by decide)
                intro μ9 e9
                replace e9 := e9.trans (zm_wI (Z := Z17) (ν := ν) hZ20 (show ((0 : Nat) : Int) = 0 from rfl) (show ((0 : Nat) : Int) = 0 from rfl) (show ((2 : Nat) : Int) = 2 from rfl) (show (3 : Int32) = i3 3 from rfl))
                subst e9
                exact zlY hP (show (0 : Int32) = i3 0 from rfl) (.inl rfl) ⟨hZ20I, hZ20K, hZ20U⟩
              · replace hP := zE_n hP h19
                obtain ⟨Z21, hZ21⟩ := zx (zu Z17 1 0 0 2 0)
                replace hP := zl_e hP hZ21
                have hZ21I := zM_0 hZ17I hZ21 (by decide) (Or.inr (by decide))
                have hZ21U : zU [] Z Z21 := zU_u hZ17U hZ21 (Or.inl rfl)
                have hZ21K : zC [1, 2, 101, 102, 200] Z Z21 := zC_u hZ17K hZ21 (by decide)
                intro μ9 e9
                replace e9 := e9.trans (zm_wI (Z := Z17) (ν := ν) hZ21 (show ((0 : Nat) : Int) = 0 from rfl) (show ((0 : Nat) : Int) = 0 from rfl) (show ((2 : Nat) : Int) = 2 from rfl) (show (0 : Int32) = i3 0 from rfl))
                subst e9
                have r22 := zM_k hZ21I 1 0 0 35 (lo := 0) (hi := 1) (by decide) rfl
                have q23 := (zu_ne (k' := 1) (b' := 0) (i' := 0) (j' := 35) hZ21 (fun q => absurd q.2.2.2 (by decide))).trans ((zu_ne (k' := 1) (b' := 0) (i' := 0) (j' := 35) hZ17 (fun q => absurd q.2.2.2 (by decide))).trans (zu_ne (k' := 1) (b' := 0) (i' := 0) (j' := 35) hZ8 (fun q => absurd q.2.2.2 (by decide))))
                refine wz_i0 (Eq.trans (i3NE (zm_rd (Z := Z21) (ν := ν) (k := 1) (show ((0 : Nat) : Int) = 0 from rfl) (show ((0 : Nat) : Int) = 0 from rfl) (show ((35 : Nat) : Int) = 35 from rfl)) (show (0 : Int32) = i3 0 from rfl) (by omega) (by omega) (by omega) (by omega)) (decide_eq_false (by omega))) ?_
                have r24 := zM_k hZ21I 1 0 0 34 (lo := 0) (hi := 8) (by decide) rfl
                have q25 := (zu_ne (k' := 1) (b' := 0) (i' := 0) (j' := 34) hZ21 (fun q => absurd q.2.2.2 (by decide))).trans ((zu_ne (k' := 1) (b' := 0) (i' := 0) (j' := 34) hZ17 (fun q => absurd q.2.2.2 (by decide))).trans (zu_ne (k' := 1) (b' := 0) (i' := 0) (j' := 34) hZ8 (fun q => absurd q.2.2.2 (by decide))))
                have r26 := zM_f hZ21I 1 0 0 37
                have q27 := (zu_ne (k' := 1) (b' := 0) (i' := 0) (j' := 37) hZ21 (fun q => absurd q.2.2.2 (by decide))).trans ((zu_ne (k' := 1) (b' := 0) (i' := 0) (j' := 37) hZ17 (fun q => absurd q.2.2.2 (by decide))).trans (zu_ne (k' := 1) (b' := 0) (i' := 0) (j' := 37) hZ8 (fun q => absurd q.2.2.2 (by decide))))
                obtain ⟨c8, c9, hZ28I, dZ28⟩ := hdm Z21 11 a1 a2 a3 0 0 0 hZ21I (by omega) (by omega) (by omega) (by omega) (by omega) (by omega) (by omega) (by omega) (by omega) (by omega)
                obtain ⟨Z28, hZ28⟩ := zx (dm Z21 11 a1 a2 a3 0 0 0)
                rw [← hZ28] at c9 hZ28I dZ28
                replace hP := zl_e hP hZ28
                refine wz_cV_of (zas (zcons rfl (zcons (zvi (show (-1 : Int32) = i3 (-1) from rfl)) rfl)) c8) ?_
                refine wz_cV_of (zas (zcons rfl (zcons (zvi (show (11 : Int32) = i3 11 from rfl)) (zcons (zvi (rfl : i3 a1 = i3 a1)) (zcons (zvi (rfl : i3 a2 = i3 a2)) (zcons (zvi (rfl : i3 a3 = i3 a3)) (zcons (zvi (show (0 : Int32) = i3 0 from rfl)) (zcons (zvi (show (0 : Int32) = i3 0 from rfl)) (zcons (zvi (show (0 : Int32) = i3 0 from rfl)) rfl)))))))) c9) ?_
                clear c8 c9
                have hZ28K : zC [1, 2, 101, 102, 200] Z Z28 := zC_t hZ21K (zMd_C dZ28) (by decide)
                have hZ28U : zU [] Z Z28 := zU_t hZ21U (zMd_U dZ28) zU_b0
                have r29 := zM_k hZ28I 2 0 0 1400 (lo := 0) (hi := 8) (by decide) rfl
                have q30 := (dZ28 2 0 0 1400 (by simp)).trans (zu_ne (k' := 2) (b' := 0) (i' := 0) (j' := 1400) hZ21 (fun q => absurd q.1 (by decide)))
                refine wz_i0 (i3O (n := 4400) (i3A (i3A (show (1410 : Int32) = i3 1410 from rfl) (i3M (show (12 : Int32) = i3 12 from rfl) (zm_rd (Z := Z28) (ν := ν1) (k := 2) (show ((0 : Nat) : Int) = 0 from rfl) (show ((0 : Nat) : Int) = 0 from rfl) (show ((1400 : Nat) : Int) = 1400 from rfl)))) (show (0 : Int32) = i3 0 from rfl)) (by omega) (by omega) (by omega)) ?_
                obtain ⟨Z31, hZ31⟩ := zx (zu Z28 2 0 0 (1410 + 12 * (Z28 2 0 0 1400)) a1)
                replace hP := zl_e hP hZ31
                have hZ31I := zM_u2 hZ28I hZ31 (lo := 0) (hi := 4) (zs_1410_0 (x := (Z28 2 0 0 1400)) (by omega) (by omega) (by omega)) (by omega) ⟨by decide, by decide⟩ (by simp only [zsp]; omega)
                have hZ31U : zU [] Z Z31 := zU_u hZ28U hZ31 (Or.inl rfl)
                have hZ31K : zC [1, 2, 101, 102, 200] Z Z31 := zC_u hZ28K hZ31 (zcl_2w (by omega) rfl)
                intro μ9 e9
                replace e9 := e9.trans (zm_wI (Z := Z28) (ν := ν1) hZ31 (show ((0 : Nat) : Int) = 0 from rfl) (show ((0 : Nat) : Int) = 0 from rfl) (i3I (y := (1410 + 12 * (Z28 2 0 0 1400))) (i3A (i3A (show (1410 : Int32) = i3 1410 from rfl) (i3M (show (12 : Int32) = i3 12 from rfl) (zm_rd (Z := Z28) (ν := ν1) (k := 2) (show ((0 : Nat) : Int) = 0 from rfl) (show ((0 : Nat) : Int) = 0 from rfl) (show ((1400 : Nat) : Int) = 1400 from rfl)))) (show (0 : Int32) = i3 0 from rfl)) (by omega) (by omega) (by omega)) (rfl : i3 a1 = i3 a1))
                subst e9
                refine wz_i0 (i3O (n := 4400) (i3A (i3A (show (1410 : Int32) = i3 1410 from rfl) (i3M (show (12 : Int32) = i3 12 from rfl) (zm_rd (Z := Z28) (ν := ν1) (k := 2) (show ((0 : Nat) : Int) = 0 from rfl) (show ((0 : Nat) : Int) = 0 from rfl) (show ((1400 : Nat) : Int) = 1400 from rfl)))) (show (1 : Int32) = i3 1 from rfl)) (by omega) (by omega) (by omega)) ?_
                obtain ⟨Z32, hZ32⟩ := zx (zu Z31 2 0 0 (1411 + 12 * (Z28 2 0 0 1400)) a2)
                replace hP := zl_e hP hZ32
                have hZ32I := zM_u2 hZ31I hZ32 (lo := 0) (hi := 9999999) (zs_1410_1 (x := (Z28 2 0 0 1400)) (by omega) (by omega) (by omega)) (by omega) ⟨by decide, by decide⟩ (by simp only [zsp]; omega)
                have hZ32U : zU [] Z Z32 := zU_u hZ31U hZ32 (Or.inl rfl)
                have hZ32K : zC [1, 2, 101, 102, 200] Z Z32 := zC_u hZ31K hZ32 (zcl_2w (by omega) rfl)
                intro μ9 e9
                replace e9 := e9.trans (zm_wI (Z := Z31) (ν := ν1) hZ32 (show ((0 : Nat) : Int) = 0 from rfl) (show ((0 : Nat) : Int) = 0 from rfl) (i3I (y := (1411 + 12 * (Z28 2 0 0 1400))) (i3A (i3A (show (1410 : Int32) = i3 1410 from rfl) (i3M (show (12 : Int32) = i3 12 from rfl) (zm_rd (Z := Z28) (ν := ν1) (k := 2) (show ((0 : Nat) : Int) = 0 from rfl) (show ((0 : Nat) : Int) = 0 from rfl) (show ((1400 : Nat) : Int) = 1400 from rfl)))) (show (1 : Int32) = i3 1 from rfl)) (by omega) (by omega) (by omega)) (rfl : i3 a2 = i3 a2))
                subst e9
                refine wz_i0 (i3O (n := 4400) (i3A (i3A (show (1410 : Int32) = i3 1410 from rfl) (i3M (show (12 : Int32) = i3 12 from rfl) (zm_rd (Z := Z28) (ν := ν1) (k := 2) (show ((0 : Nat) : Int) = 0 from rfl) (show ((0 : Nat) : Int) = 0 from rfl) (show ((1400 : Nat) : Int) = 1400 from rfl)))) (show (2 : Int32) = i3 2 from rfl)) (by omega) (by omega) (by omega)) ?_
                obtain ⟨Z33, hZ33⟩ := zx (zu Z32 2 0 0 (1412 + 12 * (Z28 2 0 0 1400)) a3)
                replace hP := zl_e hP hZ33
                have hZ33I := zM_u2 hZ32I hZ33 (lo := 0) (hi := 14) (zs_1410_2 (x := (Z28 2 0 0 1400)) (by omega) (by omega) (by omega)) (by omega) ⟨by decide, by decide⟩ (by simp only [zsp]; omega)
                have hZ33U : zU [] Z Z33 := zU_u hZ32U hZ33 (Or.inl rfl)
                have hZ33K : zC [1, 2, 101, 102, 200] Z Z33 := zC_u hZ32K hZ33 (zcl_2w (by omega) rfl)
                intro μ9 e9
                replace e9 := e9.trans (zm_wI (Z := Z32) (ν := ν1) hZ33 (show ((0 : Nat) : Int) = 0 from rfl) (show ((0 : Nat) : Int) = 0 from rfl) (i3I (y := (1412 + 12 * (Z28 2 0 0 1400))) (i3A (i3A (show (1410 : Int32) = i3 1410 from rfl) (i3M (show (12 : Int32) = i3 12 from rfl) (zm_rd (Z := Z28) (ν := ν1) (k := 2) (show ((0 : Nat) : Int) = 0 from rfl) (show ((0 : Nat) : Int) = 0 from rfl) (show ((1400 : Nat) : Int) = 1400 from rfl)))) (show (2 : Int32) = i3 2 from rfl)) (by omega) (by omega) (by omega)) (rfl : i3 a3 = i3 a3))
                subst e9
                have r34 := zM_k hZ33I 2 0 0 1400 (lo := 0) (hi := 8) (by decide) rfl
                have q35 := (zu_ne (k' := 2) (b' := 0) (i' := 0) (j' := 1400) hZ33 (fun q => absurd q.2.2.2 (by omega))).trans ((zu_ne (k' := 2) (b' := 0) (i' := 0) (j' := 1400) hZ32 (fun q => absurd q.2.2.2 (by omega))).trans (zu_ne (k' := 2) (b' := 0) (i' := 0) (j' := 1400) hZ31 (fun q => absurd q.2.2.2 (by omega))))
                obtain ⟨Z36, hZ36⟩ := zx (zu Z33 2 0 0 1400 ((Z33 2 0 0 1400) + 1))
                replace hP := zl_e hP hZ36
                have hZ36I := zM_u2 hZ33I hZ36 (lo := 0) (hi := 8) rfl (by omega) ⟨by decide, by decide⟩ (by simp only [zsp]; omega)
                have hZ36U : zU [] Z Z36 := zU_u hZ33U hZ36 (Or.inl rfl)
                have hZ36K : zC [1, 2, 101, 102, 200] Z Z36 := zC_u hZ33K hZ36 (by decide)
                intro μ9 e9
                replace e9 := e9.trans (zm_wI (Z := Z33) (ν := ν1) hZ36 (show ((0 : Nat) : Int) = 0 from rfl) (show ((0 : Nat) : Int) = 0 from rfl) (show ((1400 : Nat) : Int) = 1400 from rfl) (i3A (zm_rd (Z := Z33) (ν := ν1) (k := 2) (show ((0 : Nat) : Int) = 0 from rfl) (show ((0 : Nat) : Int) = 0 from rfl) (show ((1400 : Nat) : Int) = 1400 from rfl)) (show (1 : Int32) = i3 1 from rfl)))
                subst e9
                exact zlY hP (zm_rd (Z := Z28) (ν := ν1) (k := 2) (show ((0 : Nat) : Int) = 0 from rfl) (show ((0 : Nat) : Int) = 0 from rfl) (show ((1400 : Nat) : Int) = 1400 from rfl)) (.inr rfl) ⟨hZ36I, hZ36K, hZ36U⟩

theorem sq_295 {s : zSM} {Z : qz_Z} {ν : qz_N} (hZ : zM s Z) (gq : Z 1 0 0 35 = 1) (hM : s.2 + 0 ≤ 1000000000) {a1 : Int} (ga1 : -2147483648 ≤ a1 ∧ a1 ≤ 2147483647) {a2 : Int} (ga2 : -2147483648 ≤ a2 ∧ a2 ≤ 2147483647) {a3 : Int} (ga3 : -2147483648 ≤ a3 ∧ a3 ≤ 2147483647) {ν1 : qz_N} : ∃ (Z1 : qz_Z) (ν2 : qz_N) (v : Int), (Z1, v) = zy_295 Z zq0 a1 a2 a3 ∧ (ν2 = ν ∨ ν2 = ν1) ∧ qf_295 [.inr (.inr (some (1, 0, 0))), .inl (i3 a1), .inl (i3 a2), .inl (i3 a3)] (zm Z ν) = some (zm Z1 ν2, .inl (some (.inl (i3 v)))) ∧ (fun Z1 => zM s Z1 ∧ zC [1, 2] Z Z1 ∧ zU [] Z Z1) Z1 := by
  obtain ⟨P, hP⟩ := zx (zy_295 Z zq0 a1 a2 a3)
  refine zc_Y (Q := fun Z1 => zM s Z1 ∧ zC [1, 2] Z Z1 ∧ zU [] Z Z1) hP (fw_295 (i3 a1) (i3 a2) (i3 a3) _ _ ?_)
  replace hP : zE P (zy_295 Z zq0 a1 a2 a3) := hP
  unfold zy_295 at hP
  have r1 := zM_k hZ 1 0 0 35 (lo := 0) (hi := 1) (by decide) rfl
  have r2 := zM_k hZ 1 0 0 34 (lo := 0) (hi := 8) (by decide) rfl
  have r3 := zM_f hZ 1 0 0 37
  refine wz_br (i3L (rfl : i3 a1 = i3 a1) (show (0 : Int32) = i3 0 from rfl) (by omega) (by omega) (by omega) (by omega)) (fun h4 => ?_) (fun h4 => ?_)
  · replace hP := zE_p hP h4
    obtain ⟨Z5, hZ5⟩ := zx (zu Z 1 0 0 2 1)
    replace hP := zl_e hP hZ5
    have hZ5I := zM_u hZ hZ5 (lo := -2147483648) (hi := 2147483647) (by decide) rfl (by omega) ⟨by decide, by decide⟩ (Or.inr (by decide)) rfl
    have hZ5U : zU [] Z Z5 := zU_u zU_r hZ5 (Or.inl rfl)
    have hZ5K : zC [1, 2] Z Z5 := zC_u zC_r hZ5 (by decide)
    intro μ9 e9
    replace e9 := e9.trans (zm_wI (Z := Z) (ν := ν) hZ5 (show ((0 : Nat) : Int) = 0 from rfl) (show ((0 : Nat) : Int) = 0 from rfl) (show ((2 : Nat) : Int) = 2 from rfl) (show (1 : Int32) = i3 1 from rfl))
    subst e9
    exact zlY hP (show (0 : Int32) = i3 0 from rfl) (.inl rfl) ⟨hZ5I, hZ5K, hZ5U⟩
  · replace hP := zE_n hP h4
    refine wz_br (i3L (show (4 : Int32) = i3 4 from rfl) (rfl : i3 a1 = i3 a1) (by omega) (by omega) (by omega) (by omega)) (fun h6 => ?_) (fun h6 => ?_)
    · replace hP := zE_p hP h6
      obtain ⟨Z7, hZ7⟩ := zx (zu Z 1 0 0 2 1)
      replace hP := zl_e hP hZ7
      have hZ7I := zM_u hZ hZ7 (lo := -2147483648) (hi := 2147483647) (by decide) rfl (by omega) ⟨by decide, by decide⟩ (Or.inr (by decide)) rfl
      have hZ7U : zU [] Z Z7 := zU_u zU_r hZ7 (Or.inl rfl)
      have hZ7K : zC [1, 2] Z Z7 := zC_u zC_r hZ7 (by decide)
      intro μ9 e9
      replace e9 := e9.trans (zm_wI (Z := Z) (ν := ν) hZ7 (show ((0 : Nat) : Int) = 0 from rfl) (show ((0 : Nat) : Int) = 0 from rfl) (show ((2 : Nat) : Int) = 2 from rfl) (show (1 : Int32) = i3 1 from rfl))
      subst e9
      exact zlY hP (show (0 : Int32) = i3 0 from rfl) (.inl rfl) ⟨hZ7I, hZ7K, hZ7U⟩
    · replace hP := zE_n hP h6
      obtain ⟨Z8, hZ8⟩ := zx (zu Z 1 0 0 2 0)
      replace hP := zl_e hP hZ8
      have hZ8I := zM_0 hZ hZ8 (by decide) (Or.inr (by decide))
      have hZ8U : zU [] Z Z8 := zU_u zU_r hZ8 (Or.inl rfl)
      have hZ8K : zC [1, 2] Z Z8 := zC_u zC_r hZ8 (by decide)
      intro μ9 e9
      replace e9 := e9.trans (zm_wI (Z := Z) (ν := ν) hZ8 (show ((0 : Nat) : Int) = 0 from rfl) (show ((0 : Nat) : Int) = 0 from rfl) (show ((2 : Nat) : Int) = 2 from rfl) (show (0 : Int32) = i3 0 from rfl))
      subst e9
      refine wz_br (i3L (rfl : i3 a2 = i3 a2) (show (0 : Int32) = i3 0 from rfl) (by omega) (by omega) (by omega) (by omega)) (fun h9 => ?_) (fun h9 => ?_)
      · replace hP := zE_p hP h9
        obtain ⟨Z10, hZ10⟩ := zx (zu Z8 1 0 0 2 2)
        replace hP := zl_e hP hZ10
        have hZ10I := zM_u hZ8I hZ10 (lo := -2147483648) (hi := 2147483647) (by decide) rfl (by omega) ⟨by decide, by decide⟩ (Or.inr (by decide)) rfl
        have hZ10U : zU [] Z Z10 := zU_u hZ8U hZ10 (Or.inl rfl)
        have hZ10K : zC [1, 2] Z Z10 := zC_u hZ8K hZ10 (by decide)
        intro μ9 e9
        replace e9 := e9.trans (zm_wI (Z := Z8) (ν := ν) hZ10 (show ((0 : Nat) : Int) = 0 from rfl) (show ((0 : Nat) : Int) = 0 from rfl) (show ((2 : Nat) : Int) = 2 from rfl) (show (2 : Int32) = i3 2 from rfl))
        subst e9
        exact zlY hP (show (0 : Int32) = i3 0 from rfl) (.inl rfl) ⟨hZ10I, hZ10K, hZ10U⟩
      · replace hP := zE_n hP h9
        refine wz_br (i3L (show (9999999 : Int32) = i3 9999999 from rfl) (rfl : i3 a2 = i3 a2) (by omega) (by omega) (by omega) (by omega)) (fun h11 => ?_) (fun h11 => ?_)
        · replace hP := zE_p hP h11
          obtain ⟨Z12, hZ12⟩ := zx (zu Z8 1 0 0 2 2)
          replace hP := zl_e hP hZ12
          have hZ12I := zM_u hZ8I hZ12 (lo := -2147483648) (hi := 2147483647) (by decide) rfl (by omega) ⟨by decide, by decide⟩ (Or.inr (by decide)) rfl
          have hZ12U : zU [] Z Z12 := zU_u hZ8U hZ12 (Or.inl rfl)
          have hZ12K : zC [1, 2] Z Z12 := zC_u hZ8K hZ12 (by decide)
          intro μ9 e9
          replace e9 := e9.trans (zm_wI (Z := Z8) (ν := ν) hZ12 (show ((0 : Nat) : Int) = 0 from rfl) (show ((0 : Nat) : Int) = 0 from rfl) (show ((2 : Nat) : Int) = 2 from rfl) (show (2 : Int32) = i3 2 from rfl))
          subst e9
          exact zlY hP (show (0 : Int32) = i3 0 from rfl) (.inl rfl) ⟨hZ12I, hZ12K, hZ12U⟩
        · replace hP := zE_n hP h11
          refine wz_br (i3L (rfl : i3 a3 = i3 a3) (show (0 : Int32) = i3 0 from rfl) (by omega) (by omega) (by omega) (by omega)) (fun h13 => ?_) (fun h13 => ?_)
          · replace hP := zE_p hP h13
            obtain ⟨Z14, hZ14⟩ := zx (zu Z8 1 0 0 2 2)
            replace hP := zl_e hP hZ14
            have hZ14I := zM_u hZ8I hZ14 (lo := -2147483648) (hi := 2147483647) (by decide) rfl (by omega) ⟨by decide, by decide⟩ (Or.inr (by decide)) rfl
            have hZ14U : zU [] Z Z14 := zU_u hZ8U hZ14 (Or.inl rfl)
            have hZ14K : zC [1, 2] Z Z14 := zC_u hZ8K hZ14 (by decide)
            intro μ9 e9
            replace e9 := e9.trans (zm_wI (Z := Z8) (ν := ν) hZ14 (show ((0 : Nat) : Int) = 0 from rfl) (show ((0 : Nat) : Int) = 0 from rfl) (show ((2 : Nat) : Int) = 2 from rfl) (show (2 : Int32) = i3 2 from rfl))
            subst e9
            exact zlY hP (show (0 : Int32) = i3 0 from rfl) (.inl rfl) ⟨hZ14I, hZ14K, hZ14U⟩
          · replace hP := zE_n hP h13
            refine wz_br (i3L (show (14 : Int32) = i3 14 from rfl) (rfl : i3 a3 = i3 a3) (by omega) (by omega) (by omega) (by omega)) (fun h15 => ?_) (fun h15 => ?_)
            · replace hP := zE_p hP h15
              obtain ⟨Z16, hZ16⟩ := zx (zu Z8 1 0 0 2 2)
              replace hP := zl_e hP hZ16
              have hZ16I := zM_u hZ8I hZ16 (lo := -2147483648) (hi := 2147483647) (by decide) rfl (by omega) ⟨by decide, by decide⟩ (Or.inr (by decide)) rfl
              have hZ16U : zU [] Z Z16 := zU_u hZ8U hZ16 (Or.inl rfl)
              have hZ16K : zC [1, 2] Z Z16 := zC_u hZ8K hZ16 (by decide)
              intro μ9 e9
              replace e9 := e9.trans (zm_wI (Z := Z8) (ν := ν) hZ16 (show ((0 : Nat) : Int) = 0 from rfl) (show ((0 : Nat) : Int) = 0 from rfl) (show ((2 : Nat) : Int) = 2 from rfl) (show (2 : Int32) = i3 2 from rfl))
              subst e9
              exact zlY hP (show (0 : Int32) = i3 0 from rfl) (.inl rfl) ⟨hZ16I, hZ16K, hZ16U⟩
            · replace hP := zE_n hP h15
              obtain ⟨Z17, hZ17⟩ := zx (zu Z8 1 0 0 2 0)
              replace hP := zl_e hP hZ17
              have hZ17I := zM_0 hZ8I hZ17 (by decide) (Or.inr (by decide))
              have hZ17U : zU [] Z Z17 := zU_u hZ8U hZ17 (Or.inl rfl)
              have hZ17K : zC [1, 2] Z Z17 := zC_u hZ8K hZ17 (by decide)
              intro μ9 e9
              replace e9 := e9.trans (zm_wI (Z := Z8) (ν := ν) hZ17 (show ((0 : Nat) : Int) = 0 from rfl) (show ((0 : Nat) : Int) = 0 from rfl) (show ((2 : Nat) : Int) = 2 from rfl) (show (0 : Int32) = i3 0 from rfl))
              subst e9
              have r18 := zM_k hZ17I 2 0 0 1400 (lo := 0) (hi := 8) (by decide) rfl
              refine wz_br (i3Le (show (8 : Int32) = i3 8 from rfl) (zm_rd (Z := Z17) (ν := ν) (k := 2) (show ((0 : Nat) : Int) = 0 from rfl) (show ((0 : Nat) : Int) = 0 from rfl) (show ((1400 : Nat) : Int) = 1400 from rfl)) (by omega) (by omega) (by omega) (by omega)) (fun h19 => ?_) (fun h19 => ?_)
              · replace hP := zE_p hP h19
                obtain ⟨Z20, hZ20⟩ := zx (zu Z17 1 0 0 2 3)
                replace hP := zl_e hP hZ20
                have hZ20I := zM_u hZ17I hZ20 (lo := -2147483648) (hi := 2147483647) (by decide) rfl (by omega) ⟨by decide, by decide⟩ (Or.inr (by decide)) rfl
                have hZ20U : zU [] Z Z20 := zU_u hZ17U hZ20 (Or.inl rfl)
                have hZ20K : zC [1, 2] Z Z20 := zC_u hZ17K hZ20 (by decide)
                intro μ9 e9
                replace e9 := e9.trans (zm_wI (Z := Z17) (ν := ν) hZ20 (show ((0 : Nat) : Int) = 0 from rfl) (show ((0 : Nat) : Int) = 0 from rfl) (show ((2 : Nat) : Int) = 2 from rfl) (show (3 : Int32) = i3 3 from rfl))
                subst e9
                exact zlY hP (show (0 : Int32) = i3 0 from rfl) (.inl rfl) ⟨hZ20I, hZ20K, hZ20U⟩
              · replace hP := zE_n hP h19
                obtain ⟨Z21, hZ21⟩ := zx (zu Z17 1 0 0 2 0)
                replace hP := zl_e hP hZ21
                have hZ21I := zM_0 hZ17I hZ21 (by decide) (Or.inr (by decide))
                have hZ21U : zU [] Z Z21 := zU_u hZ17U hZ21 (Or.inl rfl)
                have hZ21K : zC [1, 2] Z Z21 := zC_u hZ17K hZ21 (by decide)
                intro μ9 e9
                replace e9 := e9.trans (zm_wI (Z := Z17) (ν := ν) hZ21 (show ((0 : Nat) : Int) = 0 from rfl) (show ((0 : Nat) : Int) = 0 from rfl) (show ((2 : Nat) : Int) = 2 from rfl) (show (0 : Int32) = i3 0 from rfl))
                subst e9
                have r22 := zM_k hZ21I 1 0 0 35 (lo := 0) (hi := 1) (by decide) rfl
                have q23 := (zu_ne (k' := 1) (b' := 0) (i' := 0) (j' := 35) hZ21 (fun q => absurd q.2.2.2 (by decide))).trans ((zu_ne (k' := 1) (b' := 0) (i' := 0) (j' := 35) hZ17 (fun q => absurd q.2.2.2 (by decide))).trans (zu_ne (k' := 1) (b' := 0) (i' := 0) (j' := 35) hZ8 (fun q => absurd q.2.2.2 (by decide))))
                refine wz_i1 (Eq.trans (i3NE (zm_rd (Z := Z21) (ν := ν) (k := 1) (show ((0 : Nat) : Int) = 0 from rfl) (show ((0 : Nat) : Int) = 0 from rfl) (show ((35 : Nat) : Int) = 35 from rfl)) (show (0 : Int32) = i3 0 from rfl) (by omega) (by omega) (by omega) (by omega)) (decide_eq_true (by omega))) ?_
                replace hP := zl_q hP (rfl : _ = Z21)
                have r24 := zM_k hZ21I 2 0 0 1400 (lo := 0) (hi := 8) (by decide) rfl
                have q25 := zu_ne (k' := 2) (b' := 0) (i' := 0) (j' := 1400) hZ21 (fun q => absurd q.1 (by decide))
                refine wz_i0 (i3O (n := 4400) (i3A (i3A (show (1410 : Int32) = i3 1410 from rfl) (i3M (show (12 : Int32) = i3 12 from rfl) (zm_rd (Z := Z21) (ν := ν) (k := 2) (show ((0 : Nat) : Int) = 0 from rfl) (show ((0 : Nat) : Int) = 0 from rfl) (show ((1400 : Nat) : Int) = 1400 from rfl)))) (show (0 : Int32) = i3 0 from rfl)) (by omega) (by omega) (by omega)) ?_
                obtain ⟨Z26, hZ26⟩ := zx (zu Z21 2 0 0 (1410 + 12 * (Z21 2 0 0 1400)) a1)
                replace hP := zl_e hP hZ26
                have hZ26I := zM_u2 hZ21I hZ26 (lo := 0) (hi := 4) (zs_1410_0 (x := (Z21 2 0 0 1400)) (by omega) (by omega) (by omega)) (by omega) ⟨by decide, by decide⟩ (by simp only [zsp]; omega)
                have hZ26U : zU [] Z Z26 := zU_u hZ21U hZ26 (Or.inl rfl)
                have hZ26K : zC [1, 2] Z Z26 := zC_u hZ21K hZ26 (zcl_2w (by omega) rfl)
                intro μ9 e9
                replace e9 := e9.trans (zm_wI (Z := Z21) (ν := ν) hZ26 (show ((0 : Nat) : Int) = 0 from rfl) (show ((0 : Nat) : Int) = 0 from rfl) (i3I (y := (1410 + 12 * (Z21 2 0 0 1400))) (i3A (i3A (show (1410 : Int32) = i3 1410 from rfl) (i3M (show (12 : Int32) = i3 12 from rfl) (zm_rd (Z := Z21) (ν := ν) (k := 2) (show ((0 : Nat) : Int) = 0 from rfl) (show ((0 : Nat) : Int) = 0 from rfl) (show ((1400 : Nat) : Int) = 1400 from rfl)))) (show (0 : Int32) = i3 0 from rfl)) (by omega) (by omega) (by omega)) (rfl : i3 a1 = i3 a1))
                subst e9
                refine wz_i0 (i3O (n := 4400) (i3A (i3A (show (1410 : Int32) = i3 1410 from rfl) (i3M (show (12 : Int32) = i3 12 from rfl) (zm_rd (Z := Z21) (ν := ν) (k := 2) (show ((0 : Nat) : Int) = 0 from rfl) (show ((0 : Nat) : Int) = 0 from rfl) (show ((1400 : Nat) : Int) = 1400 from rfl)))) (show (1 : Int32) = i3 1 from rfl)) (by omega) (by omega) (by omega)) ?_
                obtain ⟨Z27, hZ27⟩ := zx (zu Z26 2 0 0 (1411 + 12 * (Z21 2 0 0 1400)) a2)
                replace hP := zl_e hP hZ27
                have hZ27I := zM_u2 hZ26I hZ27 (lo := 0) (hi := 9999999) (zs_1410_1 (x := (Z21 2 0 0 1400)) (by omega) (by omega) (by omega)) (by omega) ⟨by decide, by decide⟩ (by simp only [zsp]; omega)
                have hZ27U : zU [] Z Z27 := zU_u hZ26U hZ27 (Or.inl rfl)
                have hZ27K : zC [1, 2] Z Z27 := zC_u hZ26K hZ27 (zcl_2w (by omega) rfl)
                intro μ9 e9
                replace e9 := e9.trans (zm_wI (Z := Z26) (ν := ν) hZ27 (show ((0 : Nat) : Int) = 0 from rfl) (show ((0 : Nat) : Int) = 0 from rfl) (i3I (y := (1411 + 12 * (Z21 2 0 0 1400))) (i3A (i3A (show (1410 : Int32) = i3 1410 from rfl) (i3M (show (12 : Int32) = i3 12 from rfl) (zm_rd (Z := Z21) (ν := ν) (k := 2) (show ((0 : Nat) : Int) = 0 from rfl) (show ((0 : Nat) : Int) = 0 from rfl) (show ((1400 : Nat) : Int) = 1400 from rfl)))) (show (1 : Int32) = i3 1 from rfl)) (by omega) (by omega) (by omega)) (rfl : i3 a2 = i3 a2))
                subst e9
                refine wz_i0 (i3O (n := 4400) (i3A (i3A (show (1410 : Int32) = i3 1410 from rfl) (i3M (show (12 : Int32) = i3 12 from rfl) (zm_rd (Z := Z21) (ν := ν) (k := 2) (show ((0 : Nat) : Int) = 0 from rfl) (show ((0 : Nat) : Int) = 0 from rfl) (show ((1400 : Nat) : Int) = 1400 from rfl)))) (show (2 : Int32) = i3 2 from rfl)) (by omega) (by omega) (by omega)) ?_
                obtain ⟨Z28, hZ28⟩ := zx (zu Z27 2 0 0 (1412 + 12 * (Z21 2 0 0 1400)) a3)
                replace hP := zl_e hP hZ28
                have hZ28I := zM_u2 hZ27I hZ28 (lo := 0) (hi := 14) (zs_1410_2 (x := (Z21 2 0 0 1400)) (by omega) (by omega) (by omega)) (by omega) ⟨by decide, by decide⟩ (by simp only [zsp]; omega)
                have hZ28U : zU [] Z Z28 := zU_u hZ27U hZ28 (Or.inl rfl)
                have hZ28K : zC [1, 2] Z Z28 := zC_u hZ27K hZ28 (zcl_2w (by omega) rfl)
                intro μ9 e9
                replace e9 := e9.trans (zm_wI (Z := Z27) (ν := ν) hZ28 (show ((0 : Nat) : Int) = 0 from rfl) (show ((0 : Nat) : Int) = 0 from rfl) (i3I (y := (1412 + 12 * (Z21 2 0 0 1400))) (i3A (i3A (show (1410 : Int32) = i3 1410 from rfl) (i3M (show (12 : Int32) = i3 12 from rfl) (zm_rd (Z := Z21) (ν := ν) (k := 2) (show ((0 : Nat) : Int) = 0 from rfl) (show ((0 : Nat) : Int) = 0 from rfl) (show ((1400 : Nat) : Int) = 1400 from rfl)))) (show (2 : Int32) = i3 2 from rfl)) (by omega) (by omega) (by omega)) (rfl : i3 a3 = i3 a3))
                subst e9
                have r29 := zM_k hZ28I 2 0 0 1400 (lo := 0) (hi := 8) (by decide) rfl
                have q30 := (zu_ne (k' := 2) (b' := 0) (i' := 0) (j' := 1400) hZ28 (fun q => absurd q.2.2.2 (by omega))).trans ((zu_ne (k' := 2) (b' := 0) (i' := 0) (j' := 1400) hZ27 (fun q => absurd q.2.2.2 (by omega))).trans (zu_ne (k' := 2) (b' := 0) (i' := 0) (j' := 1400) hZ26 (fun q => absurd q.2.2.2 (by omega))))
                obtain ⟨Z31, hZ31⟩ := zx (zu Z28 2 0 0 1400 ((Z28 2 0 0 1400) + 1))
                replace hP := zl_e hP hZ31
                have hZ31I := zM_u2 hZ28I hZ31 (lo := 0) (hi := 8) rfl (by omega) ⟨by decide, by decide⟩ (by simp only [zsp]; omega)
                have hZ31U : zU [] Z Z31 := zU_u hZ28U hZ31 (Or.inl rfl)
                have hZ31K : zC [1, 2] Z Z31 := zC_u hZ28K hZ31 (by decide)
                intro μ9 e9
                replace e9 := e9.trans (zm_wI (Z := Z28) (ν := ν) hZ31 (show ((0 : Nat) : Int) = 0 from rfl) (show ((0 : Nat) : Int) = 0 from rfl) (show ((1400 : Nat) : Int) = 1400 from rfl) (i3A (zm_rd (Z := Z28) (ν := ν) (k := 2) (show ((0 : Nat) : Int) = 0 from rfl) (show ((0 : Nat) : Int) = 0 from rfl) (show ((1400 : Nat) : Int) = 1400 from rfl)) (show (1 : Int32) = i3 1 from rfl)))
                subst e9
                exact zlY hP (zm_rd (Z := Z21) (ν := ν) (k := 2) (show ((0 : Nat) : Int) = 0 from rfl) (show ((0 : Nat) : Int) = 0 from rfl) (show ((1400 : Nat) : Int) = 1400 from rfl)) (.inl rfl) ⟨hZ31I, hZ31K, hZ31U⟩
/- yX12_cancel -/
def zy_315 (Z : qz_Z) (dm : qz_Z → Int → Int → Int → Int → Int → Int → Int → qz_Z) (a1 : Int) : qz_Z × Int := (if a1 < 0 then (zlet (zu Z 1 0 0 2 1) (fun Z5 => (Z5, 0))) else (if ((Z 2 0 0 1401) - 1) < a1 then (zlet (zu Z 1 0 0 2 1) (fun Z8 => (Z8, 0))) else (zlet (zu Z 1 0 0 2 0) (fun Z9 => (if (Z9 2 0 0 (1517 + 12 * a1)) ≠ 0 then (zlet (zu Z9 1 0 0 2 2) (fun Z12 => (Z12, 0))) else (zlet (zu Z9 1 0 0 2 0) (fun Z13 => (zlet (dm Z13 13 a1 0 0 0 0 0) (fun Z20 => (zlet (zu Z20 2 0 0 (1516 + 12 * a1) 0) (fun Z21 => (zlet (zu Z21 2 0 0 (1517 + 12 * a1) 1) (fun Z22 => (Z22, (Z20 2 0 0 (1516 + 12 * a1))))))))))))))))
theorem sy_315 {s : zSM} {Z : qz_Z} {ν : qz_N} (hZ : zM s Z) (gq : Z 1 0 0 35 = 0) (hM : s.2 + 0 ≤ 1000000000) {a1 : Int} (ga1 : -2147483648 ≤ a1 ∧ a1 ≤ 2147483647) {dk : qz_Z → qz_Z} {dm : qz_Z → Int → Int → Int → Int → Int → Int → Int → qz_Z} {ν1 : qz_N} (hdm : zDm s ν ν1 Z dk dm) : ∃ (Z1 : qz_Z) (ν2 : qz_N) (v : Int), (Z1, v) = zy_315 Z dm a1 ∧ (ν2 = ν ∨ ν2 = ν1) ∧ qf_315 [.inr (.inr (some (1, 0, 0))), .inl (i3 a1)] (zm Z ν) = some (zm Z1 ν2, .inl (some (.inl (i3 v)))) ∧ (fun Z1 => zM s Z1 ∧ zC [1, 2, 101, 102, 200] Z Z1 ∧ zU [] Z Z1) Z1 := by
  obtain ⟨P, hP⟩ := zx (zy_315 Z dm a1)
  refine zc_Y (Q := fun Z1 => zM s Z1 ∧ zC [1, 2, 101, 102, 200] Z Z1 ∧ zU [] Z Z1) hP (fw_315 (i3 a1) _ _ ?_)
  replace hP : zE P (zy_315 Z dm a1) := hP
  unfold zy_315 at hP
  have r1 := zM_k hZ 1 0 0 35 (lo := 0) (hi := 1) (by decide) rfl
  have r2 := zM_k hZ 1 0 0 34 (lo := 0) (hi := 8) (by decide) rfl
  have r3 := zM_f hZ 1 0 0 37
  refine wz_br (i3L (rfl : i3 a1 = i3 a1) (show (0 : Int32) = i3 0 from rfl) (by omega) (by omega) (by omega) (by omega)) (fun h4 => ?_) (fun h4 => ?_)
  · replace hP := zE_p hP h4
    obtain ⟨Z5, hZ5⟩ := zx (zu Z 1 0 0 2 1)
    replace hP := zl_e hP hZ5
    have hZ5I := zM_u hZ hZ5 (lo := -2147483648) (hi := 2147483647) (by decide) rfl (by omega) ⟨by decide, by decide⟩ (Or.inr (by decide)) rfl
    have hZ5U : zU [] Z Z5 := zU_u zU_r hZ5 (Or.inl rfl)
    have hZ5K : zC [1, 2, 101, 102, 200] Z Z5 := zC_u zC_r hZ5 (by decide)
    intro μ9 e9
    replace e9 := e9.trans (zm_wI (Z := Z) (ν := ν) hZ5 (show ((0 : Nat) : Int) = 0 from rfl) (show ((0 : Nat) : Int) = 0 from rfl) (show ((2 : Nat) : Int) = 2 from rfl) (show (1 : Int32) = i3 1 from rfl))
    subst e9
    exact zlY hP (show (0 : Int32) = i3 0 from rfl) (.inl rfl) ⟨hZ5I, hZ5K, hZ5U⟩
  · replace hP := zE_n hP h4
    have r6 := zM_k hZ 2 0 0 1401 (lo := 0) (hi := 24) (by decide) rfl
    refine wz_br (i3L (i3S (zm_rd (Z := Z) (ν := ν) (k := 2) (show ((0 : Nat) : Int) = 0 from rfl) (show ((0 : Nat) : Int) = 0 from rfl) (show ((1401 : Nat) : Int) = 1401 from rfl)) (show (1 : Int32) = i3 1 from rfl)) (rfl : i3 a1 = i3 a1) (by omega) (by omega) (by omega) (by omega)) (fun h7 => ?_) (fun h7 => ?_)
    · replace hP := zE_p hP h7
      obtain ⟨Z8, hZ8⟩ := zx (zu Z 1 0 0 2 1)
      replace hP := zl_e hP hZ8
      have hZ8I := zM_u hZ hZ8 (lo := -2147483648) (hi := 2147483647) (by decide) rfl (by omega) ⟨by decide, by decide⟩ (Or.inr (by decide)) rfl
      have hZ8U : zU [] Z Z8 := zU_u zU_r hZ8 (Or.inl rfl)
      have hZ8K : zC [1, 2, 101, 102, 200] Z Z8 := zC_u zC_r hZ8 (by decide)
      intro μ9 e9
      replace e9 := e9.trans (zm_wI (Z := Z) (ν := ν) hZ8 (show ((0 : Nat) : Int) = 0 from rfl) (show ((0 : Nat) : Int) = 0 from rfl) (show ((2 : Nat) : Int) = 2 from rfl) (show (1 : Int32) = i3 1 from rfl))
      subst e9
      exact zlY hP (show (0 : Int32) = i3 0 from rfl) (.inl rfl) ⟨hZ8I, hZ8K, hZ8U⟩
    · replace hP := zE_n hP h7
      obtain ⟨Z9, hZ9⟩ := zx (zu Z 1 0 0 2 0)
      replace hP := zl_e hP hZ9
      have hZ9I := zM_0 hZ hZ9 (by decide) (Or.inr (by decide))
      have hZ9U : zU [] Z Z9 := zU_u zU_r hZ9 (Or.inl rfl)
      have hZ9K : zC [1, 2, 101, 102, 200] Z Z9 := zC_u zC_r hZ9 (by decide)
      intro μ9 e9
      replace e9 := e9.trans (zm_wI (Z := Z) (ν := ν) hZ9 (show ((0 : Nat) : Int) = 0 from rfl) (show ((0 : Nat) : Int) = 0 from rfl) (show ((2 : Nat) : Int) = 2 from rfl) (show (0 : Int32) = i3 0 from rfl))
      subst e9
      refine wz_i0 (i3O (n := 4400) (i3A (i3A (show (1510 : Int32) = i3 1510 from rfl) (i3M (show (12 : Int32) = i3 12 from rfl) (rfl : i3 a1 = i3 a1))) (show (7 : Int32) = i3 7 from rfl)) (by omega) (by omega) (by omega)) ?_
      have r10 := zM_k hZ9I 2 0 0 (1517 + 12 * a1) (lo := 0) (hi := 1) (by decide) (zs_1510_7 (x := a1) (by omega) (by omega) (by omega))
      refine wz_br (i3NE (zm_rd (Z := Z9) (ν := ν) (k := 2) (show ((0 : Nat) : Int) = 0 from rfl) (show ((0 : Nat) : Int) = 0 from rfl) (i3I (y := (1517 + 12 * a1)) (i3A (i3A (show (1510 : Int32) = i3 1510 from rfl) (i3M (show (12 : Int32) = i3 12 from rfl) (rfl : i3 a1 = i3 a1))) (show (7 : Int32) = i3 7 from rfl)) (by omega) (by omega) (by omega))) (show (0 : Int32) = i3 0 from rfl) (by omega) (by omega) (by omega) (by omega)) (fun h11 => ?_) (fun h11 => ?_)
      · replace hP := zE_p hP h11
        obtain ⟨Z12, hZ12⟩ := zx (zu Z9 1 0 0 2 2)
        replace hP := zl_e hP hZ12
        have hZ12I := zM_u hZ9I hZ12 (lo := -2147483648) (hi := 2147483647) (by decide) rfl (by omega) ⟨by decide, by decide⟩ (Or.inr (by decide)) rfl
        have hZ12U : zU [] Z Z12 := zU_u hZ9U hZ12 (Or.inl rfl)
        have hZ12K : zC [1, 2, 101, 102, 200] Z Z12 := zC_u hZ9K hZ12 (by decide)
        intro μ9 e9
        replace e9 := e9.trans (zm_wI (Z := Z9) (ν := ν) hZ12 (show ((0 : Nat) : Int) = 0 from rfl) (show ((0 : Nat) : Int) = 0 from rfl) (show ((2 : Nat) : Int) = 2 from rfl) (show (2 : Int32) = i3 2 from rfl))
        subst e9
        exact zlY hP (show (0 : Int32) = i3 0 from rfl) (.inl rfl) ⟨hZ12I, hZ12K, hZ12U⟩
      · replace hP := zE_n hP h11
        obtain ⟨Z13, hZ13⟩ := zx (zu Z9 1 0 0 2 0)
        replace hP := zl_e hP hZ13
        have hZ13I := zM_0 hZ9I hZ13 (by decide) (Or.inr (by decide))
        have hZ13U : zU [] Z Z13 := zU_u hZ9U hZ13 (Or.inl rfl)
        have hZ13K : zC [1, 2, 101, 102, 200] Z Z13 := zC_u hZ9K hZ13 (by decide)
        intro μ9 e9
        replace e9 := e9.trans (zm_wI (Z := Z9) (ν := ν) hZ13 (show ((0 : Nat) : Int) = 0 from rfl) (show ((0 : Nat) : Int) = 0 from rfl) (show ((2 : Nat) : Int) = 2 from rfl) (show (0 : Int32) = i3 0 from rfl))
        subst e9
        have r14 := zM_k hZ13I 1 0 0 35 (lo := 0) (hi := 1) (by decide) rfl
        have q15 := (zu_ne (k' := 1) (b' := 0) (i' := 0) (j' := 35) hZ13 (fun q => absurd q.2.2.2 (by decide))).trans (zu_ne (k' := 1) (b' := 0) (i' := 0) (j' := 35) hZ9 (fun q => absurd q.2.2.2 (by decide)))
        refine wz_i0 (Eq.trans (i3NE (zm_rd (Z := Z13) (ν := ν) (k := 1) (show ((0 : Nat) : Int) = 0 from rfl) (show ((0 : Nat) : Int) = 0 from rfl) (show ((35 : Nat) : Int) = 35 from rfl)) (show (0 : Int32) = i3 0 from rfl) (by omega) (by omega) (by omega) (by omega)) (decide_eq_false (by omega))) ?_
        have r16 := zM_k hZ13I 1 0 0 34 (lo := 0) (hi := 8) (by decide) rfl
        have q17 := (zu_ne (k' := 1) (b' := 0) (i' := 0) (j' := 34) hZ13 (fun q => absurd q.2.2.2 (by decide))).trans (zu_ne (k' := 1) (b' := 0) (i' := 0) (j' := 34) hZ9 (fun q => absurd q.2.2.2 (by decide)))
        have r18 := zM_f hZ13I 1 0 0 37
        have q19 := (zu_ne (k' := 1) (b' := 0) (i' := 0) (j' := 37) hZ13 (fun q => absurd q.2.2.2 (by decide))).trans (zu_ne (k' := 1) (b' := 0) (i' := 0) (j' := 37) hZ9 (fun q => absurd q.2.2.2 (by decide)))
        obtain ⟨c8, c9, hZ20I, dZ20⟩ := hdm Z13 13 a1 0 0 0 0 0 hZ13I (by omega) (by omega) (by omega) (by omega) (by omega) (by omega) (by omega) (by omega) (by omega) (by omega)
        obtain ⟨Z20, hZ20⟩ := zx (dm Z13 13 a1 0 0 0 0 0)
        rw [← hZ20] at c9 hZ20I dZ20
        replace hP := zl_e hP hZ20
        refine wz_cV_of (zas (zcons rfl (zcons (zvi (show (-1 : Int32) = i3 (-1) from rfl)) rfl)) c8) ?_
        refine wz_cV_of (zas (zcons rfl (zcons (zvi (show (13 : Int32) = i3 13 from rfl)) (zcons (zvi (rfl : i3 a1 = i3 a1)) (zcons (zvi (show (0 : Int32) = i3 0 from rfl)) (zcons (zvi (show (0 : Int32) = i3 0 from rfl)) (zcons (zvi (show (0 : Int32) = i3 0 from rfl)) (zcons (zvi (show (0 : Int32) = i3 0 from rfl)) (zcons (zvi (show (0 : Int32) = i3 0 from rfl)) rfl)))))))) c9) ?_
        clear c8 c9
        have hZ20K : zC [1, 2, 101, 102, 200] Z Z20 := zC_t hZ13K (zMd_C dZ20) (by decide)
        have hZ20U : zU [] Z Z20 := zU_t hZ13U (zMd_U dZ20) zU_b0
        refine wz_i0 (i3O (n := 4400) (i3A (i3A (show (1510 : Int32) = i3 1510 from rfl) (i3M (show (12 : Int32) = i3 12 from rfl) (rfl : i3 a1 = i3 a1))) (show (6 : Int32) = i3 6 from rfl)) (by omega) (by omega) (by omega)) ?_
        refine wz_i0 (i3O (n := 4400) (i3A (i3A (show (1510 : Int32) = i3 1510 from rfl) (i3M (show (12 : Int32) = i3 12 from rfl) (rfl : i3 a1 = i3 a1))) (show (6 : Int32) = i3 6 from rfl)) (by omega) (by omega) (by omega)) ?_
        obtain ⟨Z21, hZ21⟩ := zx (zu Z20 2 0 0 (1516 + 12 * a1) 0)
        replace hP := zl_e hP hZ21
        have hZ21I := zM_02 hZ20I hZ21 (by simp only [zsp]; omega)
        have hZ21U : zU [] Z Z21 := zU_u hZ20U hZ21 (Or.inl rfl)
        have hZ21K : zC [1, 2, 101, 102, 200] Z Z21 := zC_u hZ20K hZ21 (zcl_2w (by omega) rfl)
        intro μ9 e9
        replace e9 := e9.trans (zm_wI (Z := Z20) (ν := ν1) hZ21 (show ((0 : Nat) : Int) = 0 from rfl) (show ((0 : Nat) : Int) = 0 from rfl) (i3I (y := (1516 + 12 * a1)) (i3A (i3A (show (1510 : Int32) = i3 1510 from rfl) (i3M (show (12 : Int32) = i3 12 from rfl) (rfl : i3 a1 = i3 a1))) (show (6 : Int32) = i3 6 from rfl)) (by omega) (by omega) (by omega)) (show (0 : Int32) = i3 0 from rfl))
        subst e9
        refine wz_i0 (i3O (n := 4400) (i3A (i3A (show (1510 : Int32) = i3 1510 from rfl) (i3M (show (12 : Int32) = i3 12 from rfl) (rfl : i3 a1 = i3 a1))) (show (7 : Int32) = i3 7 from rfl)) (by omega) (by omega) (by omega)) ?_
        obtain ⟨Z22, hZ22⟩ := zx (zu Z21 2 0 0 (1517 + 12 * a1) 1)
        replace hP := zl_e hP hZ22
        have hZ22I := zM_u2 hZ21I hZ22 (lo := 0) (hi := 1) (zs_1510_7 (x := a1) (by omega) (by omega) (by omega)) (by omega) ⟨by decide, by decide⟩ (by simp only [zsp]; omega)
        have hZ22U : zU [] Z Z22 := zU_u hZ21U hZ22 (Or.inl rfl)
        have hZ22K : zC [1, 2, 101, 102, 200] Z Z22 := zC_u hZ21K hZ22 (zcl_2w (by omega) rfl)
        intro μ9 e9
        replace e9 := e9.trans (zm_wI (Z := Z21) (ν := ν1) hZ22 (show ((0 : Nat) : Int) = 0 from rfl) (show ((0 : Nat) : Int) = 0 from rfl) (i3I (y := (1517 + 12 * a1)) (i3A (i3A (show (1510 : Int32) = i3 1510 from rfl) (i3M (show (12 : Int32) = i3 12 from rfl) (rfl : i3 a1 = i3 a1))) (show (7 : Int32) = i3 7 from rfl)) (by omega) (by omega) (by omega)) (show (1 : Int32) = i3 1 from rfl))
        subst e9
        have r23 := zM_k hZ20I 2 0 0 (1516 + 12 * a1) (lo := 0) (hi := 99) (by decide) (zs_1510_6 (x := a1) (by omega) (by omega) (by omega))
        exact zlY hP (zm_rd (Z := Z20) (ν := ν1) (k := 2) (show ((0 : Nat) : Int) = 0 from rfl) (show ((0 : Nat) : Int) = 0 from rfl) (i3I (y := (1516 + 12 * a1)) (i3A (i3A (show (1510 : Int32) = i3 1510 from rfl) (i3M (show (12 : Int32) = i3 12 from rfl) (rfl : i3 a1 = i3 a1))) (show (6 : Int32) = i3 6 from rfl)) (by omega) (by omega) (by omega))) (.inr rfl) ⟨hZ22I, hZ22K, hZ22U⟩

theorem sq_315 {s : zSM} {Z : qz_Z} {ν : qz_N} (hZ : zM s Z) (gq : Z 1 0 0 35 = 1) (hM : s.2 + 0 ≤ 1000000000) {a1 : Int} (ga1 : -2147483648 ≤ a1 ∧ a1 ≤ 2147483647) {ν1 : qz_N} : ∃ (Z1 : qz_Z) (ν2 : qz_N) (v : Int), (Z1, v) = zy_315 Z zq0 a1 ∧ (ν2 = ν ∨ ν2 = ν1) ∧ qf_315 [.inr (.inr (some (1, 0, 0))), .inl (i3 a1)] (zm Z ν) = some (zm Z1 ν2, .inl (some (.inl (i3 v)))) ∧ (fun Z1 => zM s Z1 ∧ zC [1, 2] Z Z1 ∧ zU [] Z Z1) Z1 := by
  obtain ⟨P, hP⟩ := zx (zy_315 Z zq0 a1)
  refine zc_Y (Q := fun Z1 => zM s Z1 ∧ zC [1, 2] Z Z1 ∧ zU [] Z Z1) hP (fw_315 (i3 a1) _ _ ?_)
  replace hP : zE P (zy_315 Z zq0 a1) := hP
  unfold zy_315 at hP
  have r1 := zM_k hZ 1 0 0 35 (lo := 0) (hi := 1) (by decide) rfl
  have r2 := zM_k hZ 1 0 0 34 (lo := 0) (hi := 8) (by decide) rfl
  have r3 := zM_f hZ 1 0 0 37
  refine wz_br (i3L (rfl : i3 a1 = i3 a1) (show (0 : Int32) = i3 0 from rfl) (by omega) (by omega) (by omega) (by omega)) (fun h4 => ?_) (fun h4 => ?_)
  · replace hP := zE_p hP h4
    obtain ⟨Z5, hZ5⟩ := zx (zu Z 1 0 0 2 1)
    replace hP := zl_e hP hZ5
    have hZ5I := zM_u hZ hZ5 (lo := -2147483648) (hi := 2147483647) (by decide) rfl (by omega) ⟨by decide, by decide⟩ (Or.inr (by decide)) rfl
    have hZ5U : zU [] Z Z5 := zU_u zU_r hZ5 (Or.inl rfl)
    have hZ5K : zC [1, 2] Z Z5 := zC_u zC_r hZ5 (by decide)
    intro μ9 e9
    replace e9 := e9.trans (zm_wI (Z := Z) (ν := ν) hZ5 (show ((0 : Nat) : Int) = 0 from rfl) (show ((0 : Nat) : Int) = 0 from rfl) (show ((2 : Nat) : Int) = 2 from rfl) (show (1 : Int32) = i3 1 from rfl))
    subst e9
    exact zlY hP (show (0 : Int32) = i3 0 from rfl) (.inl rfl) ⟨hZ5I, hZ5K, hZ5U⟩
  · replace hP := zE_n hP h4
    have r6 := zM_k hZ 2 0 0 1401 (lo := 0) (hi := 24) (by decide) rfl
    refine wz_br (i3L (i3S (zm_rd (Z := Z) (ν := ν) (k := 2) (show ((0 : Nat) : Int) = 0 from rfl) (show ((0 : Nat) : Int) = 0 from rfl) (show ((1401 : Nat) : Int) = 1401 from rfl)) (show (1 : Int32) = i3 1 from rfl)) (rfl : i3 a1 = i3 a1) (by omega) (by omega) (by omega) (by omega)) (fun h7 => ?_) (fun h7 => ?_)
    · replace hP := zE_p hP h7
      obtain ⟨Z8, hZ8⟩ := zx (zu Z 1 0 0 2 1)
      replace hP := zl_e hP hZ8
      have hZ8I := zM_u hZ hZ8 (lo := -2147483648) (hi := 2147483647) (by decide) rfl (by omega) ⟨by decide, by decide⟩ (Or.inr (by decide)) rfl
      have hZ8U : zU [] Z Z8 := zU_u zU_r hZ8 (Or.inl rfl)
      have hZ8K : zC [1, 2] Z Z8 := zC_u zC_r hZ8 (by decide)
      intro μ9 e9
      replace e9 := e9.trans (zm_wI (Z := Z) (ν := ν) hZ8 (show ((0 : Nat) : Int) = 0 from rfl) (show ((0 : Nat) : Int) = 0 from rfl) (show ((2 : Nat) : Int) = 2 from rfl) (show (1 : Int32) = i3 1 from rfl))
      subst e9
      exact zlY hP (show (0 : Int32) = i3 0 from rfl) (.inl rfl) ⟨hZ8I, hZ8K, hZ8U⟩
    · replace hP := zE_n hP h7
      obtain ⟨Z9, hZ9⟩ := zx (zu Z 1 0 0 2 0)
      replace hP := zl_e hP hZ9
      have hZ9I := zM_0 hZ hZ9 (by decide) (Or.inr (by decide))
      have hZ9U : zU [] Z Z9 := zU_u zU_r hZ9 (Or.inl rfl)
      have hZ9K : zC [1, 2] Z Z9 := zC_u zC_r hZ9 (by decide)
      intro μ9 e9
      replace e9 := e9.trans (zm_wI (Z := Z) (ν := ν) hZ9 (show ((0 : Nat) : Int) = 0 from rfl) (show ((0 : Nat) : Int) = 0 from rfl) (show ((2 : Nat) : Int) = 2 from rfl) (show (0 : Int32) = i3 0 from rfl))
      subst e9
      refine wz_i0 (i3O (n := 4400) (i3A (i3A (show (1510 : Int32) = i3 1510 from rfl) (i3M (show (12 : Int32) = i3 12 from rfl) (rfl : i3 a1 = i3 a1))) (show (7 : Int32) = i3 7 from rfl)) (by omega) (by omega) (by omega)) ?_
      have r10 := zM_k hZ9I 2 0 0 (1517 + 12 * a1) (lo := 0) (hi := 1) (by decide) (zs_1510_7 (x := a1) (by omega) (by omega) (by omega))
      refine wz_br (i3NE (zm_rd (Z := Z9) (ν := ν) (k := 2) (show ((0 : Nat) : Int) = 0 from rfl) (show ((0 : Nat) : Int) = 0 from rfl) (i3I (y := (1517 + 12 * a1)) (i3A (i3A (show (1510 : Int32) = i3 1510 from rfl) (i3M (show (12 : Int32) = i3 12 from rfl) (rfl : i3 a1 = i3 a1))) (show (7 : Int32) = i3 7 from rfl)) (by omega) (by omega) (by omega))) (show (0 : Int32) = i3 0 from rfl) (by omega) (by omega) (by omega) (by omega)) (fun h11 => ?_) (fun h11 => ?_)
      · replace hP := zE_p hP h11
        obtain ⟨Z12, hZ12⟩ := zx (zu Z9 1 0 0 2 2)
        replace hP := zl_e hP hZ12
        have hZ12I := zM_u hZ9I hZ12 (lo := -2147483648) (hi := 2147483647) (by decide) rfl (by omega) ⟨by decide, by decide⟩ (Or.inr (by decide)) rfl
        have hZ12U : zU [] Z Z12 := zU_u hZ9U hZ12 (Or.inl rfl)
        have hZ12K : zC [1, 2] Z Z12 := zC_u hZ9K hZ12 (by decide)
        intro μ9 e9
        replace e9 := e9.trans (zm_wI (Z := Z9) (ν := ν) hZ12 (show ((0 : Nat) : Int) = 0 from rfl) (show ((0 : Nat) : Int) = 0 from rfl) (show ((2 : Nat) : Int) = 2 from rfl) (show (2 : Int32) = i3 2 from rfl))
        subst e9
        exact zlY hP (show (0 : Int32) = i3 0 from rfl) (.inl rfl) ⟨hZ12I, hZ12K, hZ12U⟩
      · replace hP := zE_n hP h11
        obtain ⟨Z13, hZ13⟩ := zx (zu Z9 1 0 0 2 0)
        replace hP := zl_e hP hZ13
        have hZ13I := zM_0 hZ9I hZ13 (by decide) (Or.inr (by decide))
        have hZ13U : zU [] Z Z13 := zU_u hZ9U hZ13 (Or.inl rfl)
        have hZ13K : zC [1, 2] Z Z13 := zC_u hZ9K hZ13 (by decide)
        intro μ9 e9
        replace e9 := e9.trans (zm_wI (Z := Z9) (ν := ν) hZ13 (show ((0 : Nat) : Int) = 0 from rfl) (show ((0 : Nat) : Int) = 0 from rfl) (show ((2 : Nat) : Int) = 2 from rfl) (show (0 : Int32) = i3 0 from rfl))
        subst e9
        have r14 := zM_k hZ13I 1 0 0 35 (lo := 0) (hi := 1) (by decide) rfl
        have q15 := (zu_ne (k' := 1) (b' := 0) (i' := 0) (j' := 35) hZ13 (fun q => absurd q.2.2.2 (by decide))).trans (zu_ne (k' := 1) (b' := 0) (i' := 0) (j' := 35) hZ9 (fun q => absurd q.2.2.2 (by decide)))
        refine wz_i1 (Eq.trans (i3NE (zm_rd (Z := Z13) (ν := ν) (k := 1) (show ((0 : Nat) : Int) = 0 from rfl) (show ((0 : Nat) : Int) = 0 from rfl) (show ((35 : Nat) : Int) = 35 from rfl)) (show (0 : Int32) = i3 0 from rfl) (by omega) (by omega) (by omega) (by omega)) (decide_eq_true (by omega))) ?_
        replace hP := zl_q hP (rfl : _ = Z13)
        refine wz_i0 (i3O (n := 4400) (i3A (i3A (show (1510 : Int32) = i3 1510 from rfl) (i3M (show (12 : Int32) = i3 12 from rfl) (rfl : i3 a1 = i3 a1))) (show (6 : Int32) = i3 6 from rfl)) (by omega) (by omega) (by omega)) ?_
        refine wz_i0 (i3O (n := 4400) (i3A (i3A (show (1510 : Int32) = i3 1510 from rfl) (i3M (show (12 : Int32) = i3 12 from rfl) (rfl : i3 a1 = i3 a1))) (show (6 : Int32) = i3 6 from rfl)) (by omega) (by omega) (by omega)) ?_
        obtain ⟨Z16, hZ16⟩ := zx (zu Z13 2 0 0 (1516 + 12 * a1) 0)
        replace hP := zl_e hP hZ16
        have hZ16I := zM_02 hZ13I hZ16 (by simp only [zsp]; omega)
        have hZ16U : zU [] Z Z16 := zU_u hZ13U hZ16 (Or.inl rfl)
        have hZ16K : zC [1, 2] Z Z16 := zC_u hZ13K hZ16 (zcl_2w (by omega) rfl)
        intro μ9 e9
        replace e9 := e9.trans (zm_wI (Z := Z13) (ν := ν) hZ16 (show ((0 : Nat) : Int) = 0 from rfl) (show ((0 : Nat) : Int) = 0 from rfl) (i3I (y := (1516 + 12 * a1)) (i3A (i3A (show (1510 : Int32) = i3 1510 from rfl) (i3M (show (12 : Int32) = i3 12 from rfl) (rfl : i3 a1 = i3 a1))) (show (6 : Int32) = i3 6 from rfl)) (by omega) (by omega) (by omega)) (show (0 : Int32) = i3 0 from rfl))
        subst e9
        refine wz_i0 (i3O (n := 4400) (i3A (i3A (show (1510 : Int32) = i3 1510 from rfl) (i3M (show (12 : Int32) = i3 12 from rfl) (rfl : i3 a1 = i3 a1))) (show (7 : Int32) = i3 7 from rfl)) (by omega) (by omega) (by omega)) ?_
        obtain ⟨Z17, hZ17⟩ := zx (zu Z16 2 0 0 (1517 + 12 * a1) 1)
        replace hP := zl_e hP hZ17
        have hZ17I := zM_u2 hZ16I hZ17 (lo := 0) (hi := 1) (zs_1510_7 (x := a1) (by omega) (by omega) (by omega)) (by omega) ⟨by decide, by decide⟩ (by simp only [zsp]; omega)
        have hZ17U : zU [] Z Z17 := zU_u hZ16U hZ17 (Or.inl rfl)
        have hZ17K : zC [1, 2] Z Z17 := zC_u hZ16K hZ17 (zcl_2w (by omega) rfl)
        intro μ9 e9
        replace e9 := e9.trans (zm_wI (Z := Z16) (ν := ν) hZ17 (show ((0 : Nat) : Int) = 0 from rfl) (show ((0 : Nat) : Int) = 0 from rfl) (i3I (y := (1517 + 12 * a1)) (i3A (i3A (show (1510 : Int32) = i3 1510 from rfl) (i3M (show (12 : Int32) = i3 12 from rfl) (rfl : i3 a1 = i3 a1))) (show (7 : Int32) = i3 7 from rfl)) (by omega) (by omega) (by omega)) (show (1 : Int32) = i3 1 from rfl))
        subst e9
        have r18 := zM_k hZ13I 2 0 0 (1516 + 12 * a1) (lo := 0) (hi := 99) (by decide) (zs_1510_6 (x := a1) (by omega) (by omega) (by omega))
        exact zlY hP (zm_rd (Z := Z13) (ν := ν) (k := 2) (show ((0 : Nat) : Int) = 0 from rfl) (show ((0 : Nat) : Int) = 0 from rfl) (i3I (y := (1516 + 12 * a1)) (i3A (i3A (show (1510 : Int32) = i3 1510 from rfl) (i3M (show (12 : Int32) = i3 12 from rfl) (rfl : i3 a1 = i3 a1))) (show (6 : Int32) = i3 6 from rfl)) (by omega) (by omega) (by omega))) (.inl rfl) ⟨hZ17I, hZ17K, hZ17U⟩
/- yX12_cClock -/
def zf_297 (Z : qz_Z) (a1 : Int) (a2 : Int) (a3 : Int) (a4 : Int) (a5 : Int) : qz_Z × Int := (zlet (zu Z 2 0 0 3000 ((Z 2 0 0 3000) + 1)) (fun Z2 => (zlet (zu Z2 2 0 0 (3010 + 60 * (Z 2 0 0 3000)) a1) (fun Z5 => (zlet (zu Z5 2 0 0 (3011 + 60 * (Z 2 0 0 3000)) a2) (fun Z6 => (zlet (zu Z6 2 0 0 (3012 + 60 * (Z 2 0 0 3000)) a3) (fun Z7 => (zlet (zu Z7 2 0 0 (3013 + 60 * (Z 2 0 0 3000)) a4) (fun Z8 => (zlet (zu Z8 2 0 0 (3014 + 60 * (Z 2 0 0 3000)) a5) (fun Z11 => (zlet (zu Z11 2 0 0 (3016 + 60 * (Z 2 0 0 3000)) (-1)) (fun Z12 => (zlet (zu Z12 2 0 0 (3017 + 60 * (Z 2 0 0 3000)) (-1)) (fun Z13 => (Z13, (Z 2 0 0 3000))))))))))))))))))
theorem sp_297 {s : zSM} {Z : qz_Z} {ν : qz_N} (hZ : zM s Z) {a1 : Int} (ga1 : 0 ≤ a1 ∧ a1 ≤ 23) {a2 : Int} (ga2 : 1 ≤ a2 ∧ a2 ≤ 6) {a3 : Int} (ga3 : 1 ≤ a3 ∧ a3 ≤ 6) {a4 : Int} (ga4 : 1 ≤ a4 ∧ a4 ≤ 500) {a5 : Int} (ga5 : 0 ≤ a5 ∧ a5 ≤ 9) (gx0 : Z 2 0 0 3000 ≤ 1) (hM : s.2 + 0 ≤ 1000000000) : ∃ (Z1 : qz_Z) (P : Int), (Z1, P) = zf_297 Z a1 a2 a3 a4 a5 ∧ (qf_297 [.inr (.inr (some (1, 0, 0))), .inl (i3 a1), .inl (i3 a2), .inl (i3 a3), .inl (i3 a4), .inl (i3 a5)] (zm Z ν) = some (zm Z1 ν, .inl (some (.inl (i3 P)))) ∧ zM s Z1 ∧ zC [2] Z Z1 ∧ zU [] Z Z1 ∧ 0 ≤ P ∧ P ≤ 2) := by
  obtain ⟨P, hP⟩ := zx (zf_297 Z a1 a2 a3 a4 a5)
  refine zc_W (Q := fun Z1 P => zM s Z1 ∧ zC [2] Z Z1 ∧ zU [] Z Z1 ∧ 0 ≤ P ∧ P ≤ 2) hP (fw_297 (i3 a1) (i3 a2) (i3 a3) (i3 a4) (i3 a5) _ _ ?_)
  replace hP : zE P (zf_297 Z a1 a2 a3 a4 a5) := hP
  unfold zf_297 at hP
  have r1 := zM_k hZ 2 0 0 3000 (lo := 0) (hi := 2) (by decide) rfl
  obtain ⟨Z2, hZ2⟩ := zx (zu Z 2 0 0 3000 ((Z 2 0 0 3000) + 1))
  replace hP := zl_e hP hZ2
  have r3 := zM_nl hZ (Z 2 0 0 3000)
  have r4 := zM_k hZ 2 0 0 (3015 + 60 * (Z 2 0 0 3000)) (lo := 0) (hi := 12) (by decide) (zs_3010_5 (x := ((Z 2 0 0 3000) + 0)) (by omega) (by omega) (by omega))
  have hZ2I := zMp_nk hZ hZ2 (p := (Z 2 0 0 3000)) (by omega) (by omega)
  have hZ2U : zU [] Z Z2 := zU_u zU_r hZ2 (Or.inl rfl)
  have hZ2K : zC [2] Z Z2 := zC_u zC_r hZ2 (by decide)
  intro μ9 e9
  replace e9 := e9.trans (zm_wI (Z := Z) (ν := ν) hZ2 (show ((0 : Nat) : Int) = 0 from rfl) (show ((0 : Nat) : Int) = 0 from rfl) (show ((3000 : Nat) : Int) = 3000 from rfl) (i3A (zm_rd (Z := Z) (ν := ν) (k := 2) (show ((0 : Nat) : Int) = 0 from rfl) (show ((0 : Nat) : Int) = 0 from rfl) (show ((3000 : Nat) : Int) = 3000 from rfl)) (show (1 : Int32) = i3 1 from rfl)))
  subst e9
  refine wz_i0 (i3O (n := 4400) (i3A (i3A (show (3010 : Int32) = i3 3010 from rfl) (i3M (show (60 : Int32) = i3 60 from rfl) (zm_rd (Z := Z) (ν := ν) (k := 2) (show ((0 : Nat) : Int) = 0 from rfl) (show ((0 : Nat) : Int) = 0 from rfl) (show ((3000 : Nat) : Int) = 3000 from rfl)))) (show (0 : Int32) = i3 0 from rfl)) (by omega) (by omega) (by omega)) ?_
  obtain ⟨Z5, hZ5⟩ := zx (zu Z2 2 0 0 (3010 + 60 * (Z 2 0 0 3000)) a1)
  replace hP := zl_e hP hZ5
  have hZ5I := zMp_u2 hZ2I hZ5 (lo := 0) (hi := 23) (zs_3010_0 (x := ((Z 2 0 0 3000) + 0)) (by omega) (by omega) (by omega)) (by omega) ⟨by decide, by decide⟩ (by simp only [zsp]; omega)
  have hZ5U : zU [] Z Z5 := zU_u hZ2U hZ5 (Or.inl rfl)
  have hZ5K : zC [2] Z Z5 := zC_u hZ2K hZ5 (zcl_2w (by omega) rfl)
  intro μ9 e9
  replace e9 := e9.trans (zm_wI (Z := Z2) (ν := ν) hZ5 (show ((0 : Nat) : Int) = 0 from rfl) (show ((0 : Nat) : Int) = 0 from rfl) (i3I (y := (3010 + 60 * (Z 2 0 0 3000))) (i3A (i3A (show (3010 : Int32) = i3 3010 from rfl) (i3M (show (60 : Int32) = i3 60 from rfl) (zm_rd (Z := Z) (ν := ν) (k := 2) (show ((0 : Nat) : Int) = 0 from rfl) (show ((0 : Nat) : Int) = 0 from rfl) (show ((3000 : Nat) : Int) = 3000 from rfl)))) (show (0 : Int32) = i3 0 from rfl)) (by omega) (by omega) (by omega)) (rfl : i3 a1 = i3 a1))
  subst e9
  refine wz_i0 (i3O (n := 4400) (i3A (i3A (show (3010 : Int32) = i3 3010 from rfl) (i3M (show (60 : Int32) = i3 60 from rfl) (zm_rd (Z := Z) (ν := ν) (k := 2) (show ((0 : Nat) : Int) = 0 from rfl) (show ((0 : Nat) : Int) = 0 from rfl) (show ((3000 : Nat) : Int) = 3000 from rfl)))) (show (1 : Int32) = i3 1 from rfl)) (by omega) (by omega) (by omega)) ?_
  obtain ⟨Z6, hZ6⟩ := zx (zu Z5 2 0 0 (3011 + 60 * (Z 2 0 0 3000)) a2)
  replace hP := zl_e hP hZ6
  have hZ6I := zMp_u2 hZ5I hZ6 (lo := 0) (hi := 6) (zs_3010_1 (x := ((Z 2 0 0 3000) + 0)) (by omega) (by omega) (by omega)) (by omega) ⟨by decide, by decide⟩ (by simp only [zsp]; omega)
  have hZ6U : zU [] Z Z6 := zU_u hZ5U hZ6 (Or.inl rfl)
  have hZ6K : zC [2] Z Z6 := zC_u hZ5K hZ6 (zcl_2w (by omega) rfl)
  intro μ9 e9
  replace e9 := e9.trans (zm_wI (Z := Z5) (ν := ν) hZ6 (show ((0 : Nat) : Int) = 0 from rfl) (show ((0 : Nat) : Int) = 0 from rfl) (i3I (y := (3011 + 60 * (Z 2 0 0 3000))) (i3A (i3A (show (3010 : Int32) = i3 3010 from rfl) (i3M (show (60 : Int32) = i3 60 from rfl) (zm_rd (Z := Z) (ν := ν) (k := 2) (show ((0 : Nat) : Int) = 0 from rfl) (show ((0 : Nat) : Int) = 0 from rfl) (show ((3000 : Nat) : Int) = 3000 from rfl)))) (show (1 : Int32) = i3 1 from rfl)) (by omega) (by omega) (by omega)) (rfl : i3 a2 = i3 a2))
  subst e9
  refine wz_i0 (i3O (n := 4400) (i3A (i3A (show (3010 : Int32) = i3 3010 from rfl) (i3M (show (60 : Int32) = i3 60 from rfl) (zm_rd (Z := Z) (ν := ν) (k := 2) (show ((0 : Nat) : Int) = 0 from rfl) (show ((0 : Nat) : Int) = 0 from rfl) (show ((3000 : Nat) : Int) = 3000 from rfl)))) (show (2 : Int32) = i3 2 from rfl)) (by omega) (by omega) (by omega)) ?_
  obtain ⟨Z7, hZ7⟩ := zx (zu Z6 2 0 0 (3012 + 60 * (Z 2 0 0 3000)) a3)
  replace hP := zl_e hP hZ7
  have hZ7I := zMp_u2 hZ6I hZ7 (lo := 0) (hi := 6) (zs_3010_2 (x := ((Z 2 0 0 3000) + 0)) (by omega) (by omega) (by omega)) (by omega) ⟨by decide, by decide⟩ (by simp only [zsp]; omega)
  have hZ7U : zU [] Z Z7 := zU_u hZ6U hZ7 (Or.inl rfl)
  have hZ7K : zC [2] Z Z7 := zC_u hZ6K hZ7 (zcl_2w (by omega) rfl)
  intro μ9 e9
  replace e9 := e9.trans (zm_wI (Z := Z6) (ν := ν) hZ7 (show ((0 : Nat) : Int) = 0 from rfl) (show ((0 : Nat) : Int) = 0 from rfl) (i3I (y := (3012 + 60 * (Z 2 0 0 3000))) (i3A (i3A (show (3010 : Int32) = i3 3010 from rfl) (i3M (show (60 : Int32) = i3 60 from rfl) (zm_rd (Z := Z) (ν := ν) (k := 2) (show ((0 : Nat) : Int) = 0 from rfl) (show ((0 : Nat) : Int) = 0 from rfl) (show ((3000 : Nat) : Int) = 3000 from rfl)))) (show (2 : Int32) = i3 2 from rfl)) (by omega) (by omega) (by omega)) (rfl : i3 a3 = i3 a3))
  subst e9
  refine wz_i0 (i3O (n := 4400) (i3A (i3A (show (3010 : Int32) = i3 3010 from rfl) (i3M (show (60 : Int32) = i3 60 from rfl) (zm_rd (Z := Z) (ν := ν) (k := 2) (show ((0 : Nat) : Int) = 0 from rfl) (show ((0 : Nat) : Int) = 0 from rfl) (show ((3000 : Nat) : Int) = 3000 from rfl)))) (show (3 : Int32) = i3 3 from rfl)) (by omega) (by omega) (by omega)) ?_
  obtain ⟨Z8, hZ8⟩ := zx (zu Z7 2 0 0 (3013 + 60 * (Z 2 0 0 3000)) a4)
  replace hP := zl_e hP hZ8
  have r9 := zH_k (hZ7I).1 2 0 0 (3015 + 60 * (Z 2 0 0 3000)) (lo := 0) (hi := 12) (by decide) (zs_3010_5 (x := ((Z 2 0 0 3000) + 0)) (by omega) (by omega) (by omega))
  have q10 := (zu_ne (k' := 2) (b' := 0) (i' := 0) (j' := (3015 + 60 * (Z 2 0 0 3000))) hZ7 (fun q => absurd q.2.2.2 (by omega))).trans ((zu_ne (k' := 2) (b' := 0) (i' := 0) (j' := (3015 + 60 * (Z 2 0 0 3000))) hZ6 (fun q => absurd q.2.2.2 (by omega))).trans ((zu_ne (k' := 2) (b' := 0) (i' := 0) (j' := (3015 + 60 * (Z 2 0 0 3000))) hZ5 (fun q => absurd q.2.2.2 (by omega))).trans (zu_ne (k' := 2) (b' := 0) (i' := 0) (j' := (3015 + 60 * (Z 2 0 0 3000))) hZ2 (fun q => absurd q.2.2.2 (by omega)))))
  have hZ8I := zMp_cs hZ7I hZ8 (by omega) (by omega) (by omega) (by omega)
  have hZ8U : zU [] Z Z8 := zU_u hZ7U hZ8 (Or.inl rfl)
  have hZ8K : zC [2] Z Z8 := zC_u hZ7K hZ8 (zcl_2w (by omega) rfl)
  intro μ9 e9
  replace e9 := e9.trans (zm_wI (Z := Z7) (ν := ν) hZ8 (show ((0 : Nat) : Int) = 0 from rfl) (show ((0 : Nat) : Int) = 0 from rfl) (i3I (y := (3013 + 60 * (Z 2 0 0 3000))) (i3A (i3A (show (3010 : Int32) = i3 3010 from rfl) (i3M (show (60 : Int32) = i3 60 from rfl) (zm_rd (Z := Z) (ν := ν) (k := 2) (show ((0 : Nat) : Int) = 0 from rfl) (show ((0 : Nat) : Int) = 0 from rfl) (show ((3000 : Nat) : Int) = 3000 from rfl)))) (show (3 : Int32) = i3 3 from rfl)) (by omega) (by omega) (by omega)) (rfl : i3 a4 = i3 a4))
  subst e9
  refine wz_i0 (i3O (n := 4400) (i3A (i3A (show (3010 : Int32) = i3 3010 from rfl) (i3M (show (60 : Int32) = i3 60 from rfl) (zm_rd (Z := Z) (ν := ν) (k := 2) (show ((0 : Nat) : Int) = 0 from rfl) (show ((0 : Nat) : Int) = 0 from rfl) (show ((3000 : Nat) : Int) = 3000 from rfl)))) (show (4 : Int32) = i3 4 from rfl)) (by omega) (by omega) (by omega)) ?_
  obtain ⟨Z11, hZ11⟩ := zx (zu Z8 2 0 0 (3014 + 60 * (Z 2 0 0 3000)) a5)
  replace hP := zl_e hP hZ11
  have hZ11I := zM_u2 hZ8I hZ11 (lo := 0) (hi := 9) (zs_3010_4 (x := ((Z 2 0 0 3000) + 0)) (by omega) (by omega) (by omega)) (by omega) ⟨by decide, by decide⟩ (by simp only [zsp]; omega)
  have hZ11U : zU [] Z Z11 := zU_u hZ8U hZ11 (Or.inl rfl)
  have hZ11K : zC [2] Z Z11 := zC_u hZ8K hZ11 (zcl_2w (by omega) rfl)
  intro μ9 e9
  replace e9 := e9.trans (zm_wI (Z := Z8) (ν := ν) hZ11 (show ((0 : Nat) : Int) = 0 from rfl) (show ((0 : Nat) : Int) = 0 from rfl) (i3I (y := (3014 + 60 * (Z 2 0 0 3000))) (i3A (i3A (show (3010 : Int32) = i3 3010 from rfl) (i3M (show (60 : Int32) = i3 60 from rfl) (zm_rd (Z := Z) (ν := ν) (k := 2) (show ((0 : Nat) : Int) = 0 from rfl) (show ((0 : Nat) : Int) = 0 from rfl) (show ((3000 : Nat) : Int) = 3000 from rfl)))) (show (4 : Int32) = i3 4 from rfl)) (by omega) (by omega) (by omega)) (rfl : i3 a5 = i3 a5))
  subst e9
  refine wz_i0 (i3O (n := 4400) (i3A (i3A (show (3010 : Int32) = i3 3010 from rfl) (i3M (show (60 : Int32) = i3 60 from rfl) (zm_rd (Z := Z) (ν := ν) (k := 2) (show ((0 : Nat) : Int) = 0 from rfl) (show ((0 : Nat) : Int) = 0 from rfl) (show ((3000 : Nat) : Int) = 3000 from rfl)))) (show (6 : Int32) = i3 6 from rfl)) (by omega) (by omega) (by omega)) ?_
  obtain ⟨Z12, hZ12⟩ := zx (zu Z11 2 0 0 (3016 + 60 * (Z 2 0 0 3000)) (-1))
  replace hP := zl_e hP hZ12
  have hZ12I := zM_u2 hZ11I hZ12 (lo := -1) (hi := 9999) (zs_3010_6 (x := ((Z 2 0 0 3000) + 0)) (by omega) (by omega) (by omega)) (by omega) ⟨by decide, by decide⟩ (by simp only [zsp]; omega)
  have hZ12U : zU [] Z Z12 := zU_u hZ11U hZ12 (Or.inl rfl)
  have hZ12K : zC [2] Z Z12 := zC_u hZ11K hZ12 (zcl_2w (by omega) rfl)
  intro μ9 e9
  replace e9 := e9.trans (zm_wI (Z := Z11) (ν := ν) hZ12 (show ((0 : Nat) : Int) = 0 from rfl) (show ((0 : Nat) : Int) = 0 from rfl) (i3I (y := (3016 + 60 * (Z 2 0 0 3000))) (i3A (i3A (show (3010 : Int32) = i3 3010 from rfl) (i3M (show (60 : Int32) = i3 60 from rfl) (zm_rd (Z := Z) (ν := ν) (k := 2) (show ((0 : Nat) : Int) = 0 from rfl) (show ((0 : Nat) : Int) = 0 from rfl) (show ((3000 : Nat) : Int) = 3000 from rfl)))) (show (6 : Int32) = i3 6 from rfl)) (by omega) (by omega) (by omega)) (show (-1 : Int32) = i3 (-1) from rfl))
  subst e9
  refine wz_i0 (i3O (n := 4400) (i3A (i3A (show (3010 : Int32) = i3 3010 from rfl) (i3M (show (60 : Int32) = i3 60 from rfl) (zm_rd (Z := Z) (ν := ν) (k := 2) (show ((0 : Nat) : Int) = 0 from rfl) (show ((0 : Nat) : Int) = 0 from rfl) (show ((3000 : Nat) : Int) = 3000 from rfl)))) (show (7 : Int32) = i3 7 from rfl)) (by omega) (by omega) (by omega)) ?_
  obtain ⟨Z13, hZ13⟩ := zx (zu Z12 2 0 0 (3017 + 60 * (Z 2 0 0 3000)) (-1))
  replace hP := zl_e hP hZ13
  have hZ13I := zM_u2 hZ12I hZ13 (lo := -1) (hi := 47) (zs_3010_7 (x := ((Z 2 0 0 3000) + 0)) (by omega) (by omega) (by omega)) (by omega) ⟨by decide, by decide⟩ (by simp only [zsp]; omega)
  have hZ13U : zU [] Z Z13 := zU_u hZ12U hZ13 (Or.inl rfl)
  have hZ13K : zC [2] Z Z13 := zC_u hZ12K hZ13 (zcl_2w (by omega) rfl)
  intro μ9 e9
  replace e9 := e9.trans (zm_wI (Z := Z12) (ν := ν) hZ13 (show ((0 : Nat) : Int) = 0 from rfl) (show ((0 : Nat) : Int) = 0 from rfl) (i3I (y := (3017 + 60 * (Z 2 0 0 3000))) (i3A (i3A (show (3010 : Int32) = i3 3010 from rfl) (i3M (show (60 : Int32) = i3 60 from rfl) (zm_rd (Z := Z) (ν := ν) (k := 2) (show ((0 : Nat) : Int) = 0 from rfl) (show ((0 : Nat) : Int) = 0 from rfl) (show ((3000 : Nat) : Int) = 3000 from rfl)))) (show (7 : Int32) = i3 7 from rfl)) (by omega) (by omega) (by omega)) (show (-1 : Int32) = i3 (-1) from rfl))
  subst e9
  exact zlW hP (zm_rd (Z := Z) (ν := ν) (k := 2) (show ((0 : Nat) : Int) = 0 from rfl) (show ((0 : Nat) : Int) = 0 from rfl) (show ((3000 : Nat) : Int) = 3000 from rfl)) ⟨hZ13I, hZ13K, hZ13U, by omega, by omega⟩
/- yX12_clock -/
def zy_316 (Z : qz_Z) (dm : qz_Z → Int → Int → Int → Int → Int → Int → Int → qz_Z) (a1 : Int) (a2 : Int) (a3 : Int) (a4 : Int) (a5 : Int) : qz_Z × Int := (if a1 < 0 then (zlet (zu Z 1 0 0 2 1) (fun Z5 => (Z5, 0))) else (if 23 < a1 then (zlet (zu Z 1 0 0 2 1) (fun Z7 => (Z7, 0))) else (if a2 < 1 then (zlet (zu Z 1 0 0 2 1) (fun Z9 => (Z9, 0))) else (if 6 < a2 then (zlet (zu Z 1 0 0 2 1) (fun Z11 => (Z11, 0))) else (if 24 < (a1 + a2) then (zlet (zu Z 1 0 0 2 1) (fun Z13 => (Z13, 0))) else (if a3 < 1 then (zlet (zu Z 1 0 0 2 1) (fun Z15 => (Z15, 0))) else (if 6 < a3 then (zlet (zu Z 1 0 0 2 1) (fun Z17 => (Z17, 0))) else (if a4 < 1 then (zlet (zu Z 1 0 0 2 1) (fun Z19 => (Z19, 0))) else (if 500 < a4 then (zlet (zu Z 1 0 0 2 1) (fun Z21 => (Z21, 0))) else (if a5 < 0 then (zlet (zu Z 1 0 0 2 1) (fun Z23 => (Z23, 0))) else (if 9 < a5 then (zlet (zu Z 1 0 0 2 1) (fun Z25 => (Z25, 0))) else (zlet (zu Z 1 0 0 2 0) (fun Z26 => (if 2 ≤ (Z26 2 0 0 3000) then (zlet (zu Z26 1 0 0 2 2) (fun Z29 => (Z29, 0))) else (zlet (zu Z26 1 0 0 2 0) (fun Z30 => (zlet (dm Z30 15 a1 a2 a3 a4 a5 0) (fun Z37 => (zlet2 (zf_297 Z37 a1 a2 a3 a4 a5) (fun Z40 v41 => (Z40, v41)))))))))))))))))))))
theorem sy_316 {s : zSM} {Z : qz_Z} {ν : qz_N} (hZ : zM s Z) (gq : Z 1 0 0 35 = 0) (hM : s.2 + 0 ≤ 1000000000) {a1 : Int} (ga1 : -2147483648 ≤ a1 ∧ a1 ≤ 2147483647) {a2 : Int} (ga2 : -2147483648 ≤ a2 ∧ a2 ≤ 2147483647) {a3 : Int} (ga3 : -2147483648 ≤ a3 ∧ a3 ≤ 2147483647) {a4 : Int} (ga4 : -2147483648 ≤ a4 ∧ a4 ≤ 2147483647) {a5 : Int} (ga5 : -2147483648 ≤ a5 ∧ a5 ≤ 2147483647) {dk : qz_Z → qz_Z} {dm : qz_Z → Int → Int → Int → Int → Int → Int → Int → qz_Z} {ν1 : qz_N} (hdm : zDm s ν ν1 Z dk dm) : ∃ (Z1 : qz_Z) (ν2 : qz_N) (v : Int), (Z1, v) = zy_316 Z dm a1 a2 a3 a4 a5 ∧ (ν2 = ν ∨ ν2 = ν1) ∧ qf_316 [.inr (.inr (some (1, 0, 0))), .inl (i3 a1), .inl (i3 a2), .inl (i3 a3), .inl (i3 a4), .inl (i3 a5)] (zm Z ν) = some (zm Z1 ν2, .inl (some (.inl (i3 v)))) ∧ (fun Z1 => zM s Z1 ∧ zC [1, 2, 101, 102, 200] Z Z1 ∧ zU [] Z Z1) Z1 := by
  obtain ⟨P, hP⟩ := zx (zy_316 Z dm a1 a2 a3 a4 a5)
  refine zc_Y (Q := fun Z1 => zM s Z1 ∧ zC [1, 2, 101, 102, 200] Z Z1 ∧ zU [] Z Z1) hP (fw_316 (i3 a1) (i3 a2) (i3 a3) (i3 a4) (i3 a5) _ _ ?_)
  replace hP : zE P (zy_316 Z dm a1 a2 a3 a4 a5) := hP
  unfold zy_316 at hP
  have r1 := zM_k hZ 1 0 0 35 (lo := 0) (hi := 1) (by decide) rfl
  have r2 := zM_k hZ 1 0 0 34 (lo := 0) (hi := 8) (by decide) rfl
  have r3 := zM_f hZ 1 0 0 37
  refine wz_br (i3L (rfl : i3 a1 = i3 a1) (show (0 : Int32) = i3 0 from rfl) (by omega) (by omega) (by omega) (by omega)) (fun h4 => ?_) (fun h4 => ?_)
  · replace hP := zE_p hP h4
    obtain ⟨Z5, hZ5⟩ := zx (zu Z 1 0 0 2 1)
    replace hP := zl_e hP hZ5
    have hZ5I := zM_u hZ hZ5 (lo := -2147483648) (hi := 2147483647) (by decide) rfl (by omega) ⟨by decide, by decide⟩ (Or.inr (by decide)) rfl
    have hZ5U : zU [] Z Z5 := zU_u zU_r hZ5 (Or.inl rfl)
    have hZ5K : zC [1, 2, 101, 102, 200] Z Z5 := zC_u zC_r hZ5 (by decide)
    intro μ9 e9
    replace e9 := e9.trans (zm_wI (Z := Z) (ν := ν) hZ5 (show ((0 : Nat) : Int) = 0 from rfl) (show ((0 : Nat) : Int) = 0 from rfl) (show ((2 : Nat) : Int) = 2 from rfl) (show (1 : Int32) = i3 1 from rfl))
    subst e9
    exact zlY hP (show (0 : Int32) = i3 0 from rfl) (.inl rfl) ⟨hZ5I, hZ5K, hZ5U⟩
  · replace hP := zE_n hP h4
    refine wz_br (i3L (show (23 : Int32) = i3 23 from rfl) (rfl : i3 a1 = i3 a1) (by omega) (by omega) (by omega) (by omega)) (fun h6 => ?_) (fun h6 => ?_)
    · replace hP := zE_p hP h6
      obtain ⟨Z7, hZ7⟩ := zx (zu Z 1 0 0 2 1)
      replace hP := zl_e hP hZ7
      have hZ7I := zM_u hZ hZ7 (lo := -2147483648) (hi := 2147483647) (by decide) rfl (by omega) ⟨by decide, by decide⟩ (Or.inr (by decide)) rfl
      have hZ7U : zU [] Z Z7 := zU_u zU_r hZ7 (Or.inl rfl)
      have hZ7K : zC [1, 2, 101, 102, 200] Z Z7 := zC_u zC_r hZ7 (by decide)
      intro μ9 e9
      replace e9 := e9.trans (zm_wI (Z := Z) (ν := ν) hZ7 (show ((0 : Nat) : Int) = 0 from rfl) (show ((0 : Nat) : Int) = 0 from rfl) (show ((2 : Nat) : Int) = 2 from rfl) (show (1 : Int32) = i3 1 from rfl))
      subst e9
      exact zlY hP (show (0 : Int32) = i3 0 from rfl) (.inl rfl) ⟨hZ7I, hZ7K, hZ7U⟩
    · replace hP := zE_n hP h6
      refine wz_br (i3L (rfl : i3 a2 = i3 a2) (show (1 : Int32) = i3 1 from rfl) (by omega) (by omega) (by omega) (by omega)) (fun h8 => ?_) (fun h8 => ?_)
      · replace hP := zE_p hP h8
        obtain ⟨Z9, hZ9⟩ := zx (zu Z 1 0 0 2 1)
        replace hP := zl_e hP hZ9
        have hZ9I := zM_u hZ hZ9 (lo := -2147483648) (hi := 2147483647) (by decide) rfl (by omega) ⟨by decide, by decide⟩ (Or.inr (by decide)) rfl
        have hZ9U : zU [] Z Z9 := zU_u zU_r hZ9 (Or.inl rfl)
        have hZ9K : zC [1, 2, 101, 102, 200] Z Z9 := zC_u zC_r hZ9 (by decide)
        intro μ9 e9
        replace e9 := e9.trans (zm_wI (Z := Z) (ν := ν) hZ9 (show ((0 : Nat) : Int) = 0 from rfl) (show ((0 : Nat) : Int) = 0 from rfl) (show ((2 : Nat) : Int) = 2 from rfl) (show (1 : Int32) = i3 1 from rfl))
        subst e9
        exact zlY hP (show (0 : Int32) = i3 0 from rfl) (.inl rfl) ⟨hZ9I, hZ9K, hZ9U⟩
      · replace hP := zE_n hP h8
        refine wz_br (i3L (show (6 : Int32) = i3 6 from rfl) (rfl : i3 a2 = i3 a2) (by omega) (by omega) (by omega) (by omega)) (fun h10 => ?_) (fun h10 => ?_)
        · replace hP := zE_p hP h10
          obtain ⟨Z11, hZ11⟩ := zx (zu Z 1 0 0 2 1)
          replace hP := zl_e hP hZ11
          have hZ11I := zM_u hZ hZ11 (lo := -2147483648) (hi := 2147483647) (by decide) rfl (by omega) ⟨by decide, by decide⟩ (Or.inr (by decide)) rfl
          have hZ11U : zU [] Z Z11 := zU_u zU_r hZ11 (Or.inl rfl)
          have hZ11K : zC [1, 2, 101, 102, 200] Z Z11 := zC_u zC_r hZ11 (by decide)
          intro μ9 e9
          replace e9 := e9.trans (zm_wI (Z := Z) (ν := ν) hZ11 (show ((0 : Nat) : Int) = 0 from rfl) (show ((0 : Nat) : Int) = 0 from rfl) (show ((2 : Nat) : Int) = 2 from rfl) (show (1 : Int32) = i3 1 from rfl))
          subst e9
          exact zlY hP (show (0 : Int32) = i3 0 from rfl) (.inl rfl) ⟨hZ11I, hZ11K, hZ11U⟩
        · replace hP := zE_n hP h10
          refine wz_i0 (Eq.trans (i3L (i3A (rfl : i3 a1 = i3 a1) (rfl : i3 a2 = i3 a2)) (show (1 : Int32) = i3 1 from rfl) (by omega) (by omega) (by omega) (by omega)) (decide_eq_false (by omega))) ?_
          refine wz_br (i3L (show (24 : Int32) = i3 24 from rfl) (i3A (rfl : i3 a1 = i3 a1) (rfl : i3 a2 = i3 a2)) (by omega) (by omega) (by omega) (by omega)) (fun h12 => ?_) (fun h12 => ?_)
          · replace hP := zE_p hP h12
            obtain ⟨Z13, hZ13⟩ := zx (zu Z 1 0 0 2 1)
            replace hP := zl_e hP hZ13
            have hZ13I := zM_u hZ hZ13 (lo := -2147483648) (hi := 2147483647) (by decide) rfl (by omega) ⟨by decide, by decide⟩ (Or.inr (by decide)) rfl
            have hZ13U : zU [] Z Z13 := zU_u zU_r hZ13 (Or.inl rfl)
            have hZ13K : zC [1, 2, 101, 102, 200] Z Z13 := zC_u zC_r hZ13 (by decide)
            intro μ9 e9
            replace e9 := e9.trans (zm_wI (Z := Z) (ν := ν) hZ13 (show ((0 : Nat) : Int) = 0 from rfl) (show ((0 : Nat) : Int) = 0 from rfl) (show ((2 : Nat) : Int) = 2 from rfl) (show (1 : Int32) = i3 1 from rfl))
            subst e9
            exact zlY hP (show (0 : Int32) = i3 0 from rfl) (.inl rfl) ⟨hZ13I, hZ13K, hZ13U⟩
          · replace hP := zE_n hP h12
            refine wz_br (i3L (rfl : i3 a3 = i3 a3) (show (1 : Int32) = i3 1 from rfl) (by omega) (by omega) (by omega) (by omega)) (fun h14 => ?_) (fun h14 => ?_)
            · replace hP := zE_p hP h14
              obtain ⟨Z15, hZ15⟩ := zx (zu Z 1 0 0 2 1)
              replace hP := zl_e hP hZ15
              have hZ15I := zM_u hZ hZ15 (lo := -2147483648) (hi := 2147483647) (by decide) rfl (by omega) ⟨by decide, by decide⟩ (Or.inr (by decide)) rfl
              have hZ15U : zU [] Z Z15 := zU_u zU_r hZ15 (Or.inl rfl)
              have hZ15K : zC [1, 2, 101, 102, 200] Z Z15 := zC_u zC_r hZ15 (by decide)
              intro μ9 e9
              replace e9 := e9.trans (zm_wI (Z := Z) (ν := ν) hZ15 (show ((0 : Nat) : Int) = 0 from rfl) (show ((0 : Nat) : Int) = 0 from rfl) (show ((2 : Nat) : Int) = 2 from rfl) (show (1 : Int32) = i3 1 from rfl))
              subst e9
              exact zlY hP (show (0 : Int32) = i3 0 from rfl) (.inl rfl) ⟨hZ15I, hZ15K, hZ15U⟩
            · replace hP := zE_n hP h14
              refine wz_br (i3L (show (6 : Int32) = i3 6 from rfl) (rfl : i3 a3 = i3 a3) (by omega) (by omega) (by omega) (by omega)) (fun h16 => ?_) (fun h16 => ?_)
              · replace hP := zE_p hP h16
                obtain ⟨Z17, hZ17⟩ := zx (zu Z 1 0 0 2 1)
                replace hP := zl_e hP hZ17
                have hZ17I := zM_u hZ hZ17 (lo := -2147483648) (hi := 2147483647) (by decide) rfl (by omega) ⟨by decide, by decide⟩ (Or.inr (by decide)) rfl
                have hZ17U : zU [] Z Z17 := zU_u zU_r hZ17 (Or.inl rfl)
                have hZ17K : zC [1, 2, 101, 102, 200] Z Z17 := zC_u zC_r hZ17 (by decide)
                intro μ9 e9
                replace e9 := e9.trans (zm_wI (Z := Z) (ν := ν) hZ17 (show ((0 : Nat) : Int) = 0 from rfl) (show ((0 : Nat) : Int) = 0 from rfl) (show ((2 : Nat) : Int) = 2 from rfl) (show (1 : Int32) = i3 1 from rfl))
                subst e9
                exact zlY hP (show (0 : Int32) = i3 0 from rfl) (.inl rfl) ⟨hZ17I, hZ17K, hZ17U⟩
              · replace hP := zE_n hP h16
                refine wz_br (i3L (rfl : i3 a4 = i3 a4) (show (1 : Int32) = i3 1 from rfl) (by omega) (by omega) (by omega) (by omega)) (fun h18 => ?_) (fun h18 => ?_)
                · replace hP := zE_p hP h18
                  obtain ⟨Z19, hZ19⟩ := zx (zu Z 1 0 0 2 1)
                  replace hP := zl_e hP hZ19
                  have hZ19I := zM_u hZ hZ19 (lo := -2147483648) (hi := 2147483647) (by decide) rfl (by omega) ⟨by decide, by decide⟩ (Or.inr (by decide)) rfl
                  have hZ19U : zU [] Z Z19 := zU_u zU_r hZ19 (Or.inl rfl)
                  have hZ19K : zC [1, 2, 101, 102, 200] Z Z19 := zC_u zC_r hZ19 (by decide)
                  intro μ9 e9
                  replace e9 := e9.trans (zm_wI (Z := Z) (ν := ν) hZ19 (show ((0 : Nat) : Int) = 0 from rfl) (show ((0 : Nat) : Int) = 0 from rfl) (show ((2 : Nat) : Int) = 2 from rfl) (show (1 : Int32) = i3 1 from rfl))
                  subst e9
                  exact zlY hP (show (0 : Int32) = i3 0 from rfl) (.inl rfl) ⟨hZ19I, hZ19K, hZ19U⟩
                · replace hP := zE_n hP h18
                  refine wz_br (i3L (show (500 : Int32) = i3 500 from rfl) (rfl : i3 a4 = i3 a4) (by omega) (by omega) (by omega) (by omega)) (fun h20 => ?_) (fun h20 => ?_)
                  · replace hP := zE_p hP h20
                    obtain ⟨Z21, hZ21⟩ := zx (zu Z 1 0 0 2 1)
                    replace hP := zl_e hP hZ21
                    have hZ21I := zM_u hZ hZ21 (lo := -2147483648) (hi := 2147483647) (by decide) rfl (by omega) ⟨by decide, by decide⟩ (Or.inr (by decide)) rfl
                    have hZ21U : zU [] Z Z21 := zU_u zU_r hZ21 (Or.inl rfl)
                    have hZ21K : zC [1, 2, 101, 102, 200] Z Z21 := zC_u zC_r hZ21 (by decide)
                    intro μ9 e9
                    replace e9 := e9.trans (zm_wI (Z := Z) (ν := ν) hZ21 (show ((0 : Nat) : Int) = 0 from rfl) (show ((0 : Nat) : Int) = 0 from rfl) (show ((2 : Nat) : Int) = 2 from rfl) (show (1 : Int32) = i3 1 from rfl))
                    subst e9
                    exact zlY hP (show (0 : Int32) = i3 0 from rfl) (.inl rfl) ⟨hZ21I, hZ21K, hZ21U⟩
                  · replace hP := zE_n hP h20
                    refine wz_br (i3L (rfl : i3 a5 = i3 a5) (show (0 : Int32) = i3 0 from rfl) (by omega) (by omega) (by omega) (by omega)) (fun h22 => ?_) (fun h22 => ?_)
                    · replace hP := zE_p hP h22
                      obtain ⟨Z23, hZ23⟩ := zx (zu Z 1 0 0 2 1)
                      replace hP := zl_e hP hZ23
                      have hZ23I := zM_u hZ hZ23 (lo := -2147483648) (hi := 2147483647) (by decide) rfl (by omega) ⟨by decide, by decide⟩ (Or.inr (by decide)) rfl
                      have hZ23U : zU [] Z Z23 := zU_u zU_r hZ23 (Or.inl rfl)
                      have hZ23K : zC [1, 2, 101, 102, 200] Z Z23 := zC_u zC_r hZ23 (by decide)
                      intro μ9 e9
                      replace e9 := e9.trans (zm_wI (Z := Z) (ν := ν) hZ23 (show ((0 : Nat) : Int) = 0 from rfl) (show ((0 : Nat) : Int) = 0 from rfl) (show ((2 : Nat) : Int) = 2 from rfl) (show (1 : Int32) = i3 1 from rfl))
                      subst e9
                      exact zlY hP (show (0 : Int32) = i3 0 from rfl) (.inl rfl) ⟨hZ23I, hZ23K, hZ23U⟩
                    · replace hP := zE_n hP h22
                      refine wz_br (i3L (show (9 : Int32) = i3 9 from rfl) (rfl : i3 a5 = i3 a5) (by omega) (by omega) (by omega) (by omega)) (fun h24 => ?_) (fun h24 => ?_)
                      · replace hP := zE_p hP h24
                        obtain ⟨Z25, hZ25⟩ := zx (zu Z 1 0 0 2 1)
                        replace hP := zl_e hP hZ25
                        have hZ25I := zM_u hZ hZ25 (lo := -2147483648) (hi := 2147483647) (by decide) rfl (by omega) ⟨by decide, by decide⟩ (Or.inr (by decide)) rfl
                        have hZ25U : zU [] Z Z25 := zU_u zU_r hZ25 (Or.inl rfl)
                        have hZ25K : zC [1, 2, 101, 102, 200] Z Z25 := zC_u zC_r hZ25 (by decide)
                        intro μ9 e9
                        replace e9 := e9.trans (zm_wI (Z := Z) (ν := ν) hZ25 (show ((0 : Nat) : Int) = 0 from rfl) (show ((0 : Nat) : Int) = 0 from rfl) (show ((2 : Nat) : Int) = 2 from rfl) (show (1 : Int32) = i3 1 from rfl))
                        subst e9
                        exact zlY hP (show (0 : Int32) = i3 0 from rfl) (.inl rfl) ⟨hZ25I, hZ25K, hZ25U⟩
                      · replace hP := zE_n hP h24
                        obtain ⟨Z26, hZ26⟩ := zx (zu Z 1 0 0 2 0)
                        replace hP := zl_e hP hZ26
                        have hZ26I := zM_0 hZ hZ26 (by decide) (Or.inr (by decide))
                        have hZ26U : zU [] Z Z26 := zU_u zU_r hZ26 (Or.inl rfl)
                        have hZ26K : zC [1, 2, 101, 102, 200] Z Z26 := zC_u zC_r hZ26 (by decide)
                        intro μ9 e9
                        replace e9 := e9.trans (zm_wI (Z := Z) (ν := ν) hZ26 (show ((0 : Nat) : Int) = 0 from rfl) (show ((0 : Nat) : Int) = 0 from rfl) (show ((2 : Nat) : Int) = 2 from rfl) (show (0 : Int32) = i3 0 from rfl))
                        subst e9
                        have r27 := zM_k hZ26I 2 0 0 3000 (lo := 0) (hi := 2) (by decide) rfl
                        refine wz_br (i3Le (show (2 : Int32) = i3 2 from rfl) (zm_rd (Z := Z26) (ν := ν) (k := 2) (show ((0 : Nat) : Int) = 0 from rfl) (show ((0 : Nat) : Int) = 0 from rfl) (show ((3000 : Nat) : Int) = 3000 from rfl)) (by omega) (by omega) (by omega) (by omega)) (fun h28 => ?_) (fun h28 => ?_)
                        · replace hP := zE_p hP h28
                          obtain ⟨Z29, hZ29⟩ := zx (zu Z26 1 0 0 2 2)
                          replace hP := zl_e hP hZ29
                          have hZ29I := zM_u hZ26I hZ29 (lo := -2147483648) (hi := 2147483647) (by decide) rfl (by omega) ⟨by decide, by decide⟩ (Or.inr (by decide)) rfl
                          have hZ29U : zU [] Z Z29 := zU_u hZ26U hZ29 (Or.inl rfl)
                          have hZ29K : zC [1, 2, 101, 102, 200] Z Z29 := zC_u hZ26K hZ29 (by decide)
                          intro μ9 e9
                          replace e9 := e9.trans (zm_wI (Z := Z26) (ν := ν) hZ29 (show ((0 : Nat) : Int) = 0 from rfl) (show ((0 : Nat) : Int) = 0 from rfl) (show ((2 : Nat) : Int) = 2 from rfl) (show (2 : Int32) = i3 2 from rfl))
                          subst e9
                          exact zlY hP (show (0 : Int32) = i3 0 from rfl) (.inl rfl) ⟨hZ29I, hZ29K, hZ29U⟩
                        · replace hP := zE_n hP h28
                          obtain ⟨Z30, hZ30⟩ := zx (zu Z26 1 0 0 2 0)
                          replace hP := zl_e hP hZ30
                          have hZ30I := zM_0 hZ26I hZ30 (by decide) (Or.inr (by decide))
                          have hZ30U : zU [] Z Z30 := zU_u hZ26U hZ30 (Or.inl rfl)
                          have hZ30K : zC [1, 2, 101, 102, 200] Z Z30 := zC_u hZ26K hZ30 (by decide)
                          intro μ9 e9
                          replace e9 := e9.trans (zm_wI (Z := Z26) (ν := ν) hZ30 (show ((0 : Nat) : Int) = 0 from rfl) (show ((0 : Nat) : Int) = 0 from rfl) (show ((2 : Nat) : Int) = 2 from rfl) (show (0 : Int32) = i3 0 from rfl))
                          subst e9
                          have r31 := zM_k hZ30I 1 0 0 35 (lo := 0) (hi := 1) (by decide) rfl
                          have q32 := (zu_ne (k' := 1) (b' := 0) (i' := 0) (j' := 35) hZ30 (fun q => absurd q.2.2.2 (by decide))).trans (zu_ne (k' := 1) (b' := 0) (i' := 0) (j' := 35) hZ26 (fun q => absurd q.2.2.2 (by decide)))
                          refine wz_i0 (Eq.trans (i3NE (zm_rd (Z := Z30) (ν := ν) (k := 1) (show ((0 : Nat) : Int) = 0 from rfl) (show ((0 : Nat) : Int) = 0 from rfl) (show ((35 : Nat) : Int) = 35 from rfl)) (show (0 : Int32) = i3 0 from rfl) (by omega) (by omega) (by omega) (by omega)) (decide_eq_false (by omega))) ?_
                          have r33 := zM_k hZ30I 1 0 0 34 (lo := 0) (hi := 8) (by decide) rfl
                          have q34 := (zu_ne (k' := 1) (b' := 0) (i' := 0) (j' := 34) hZ30 (fun q => absurd q.2.2.2 (by decide))).trans (zu_ne (k' := 1) (b' := 0) (i' := 0) (j' := 34) hZ26 (fun q => absurd q.2.2.2 (by decide)))
                          have r35 := zM_f hZ30I 1 0 0 37
                          have q36 := (zu_ne (k' := 1) (b' := 0) (i' := 0) (j' := 37) hZ30 (fun q => absurd q.2.2.2 (by decide))).trans (zu_ne (k' := 1) (b' := 0) (i' := 0) (j' := 37) hZ26 (fun q => absurd q.2.2.2 (by decide)))
                          obtain ⟨c8, c9, hZ37I, dZ37⟩ := hdm Z30 15 a1 a2 a3 a4 a5 0 hZ30I (by omega) (by omega) (by omega) (by omega) (by omega) (by omega) (by omega) (by omega) (by omega) (by omega)
                          obtain ⟨Z37, hZ37⟩ := zx (dm Z30 15 a1 a2 a3 a4 a5 0)
                          rw [← hZ37] at c9 hZ37I dZ37
                          replace hP := zl_e hP hZ37
                          refine wz_cV_of (zas (zcons rfl (zcons (zvi (show (-1 : Int32) = i3 (-1) from rfl)) rfl)) c8) ?_
                          refine wz_cV_of (zas (zcons rfl (zcons (zvi (show (15 : Int32) = i3 15 from rfl)) (zcons (zvi (rfl : i3 a1 = i3 a1)) (zcons (zvi (rfl : i3 a2 = i3 a2)) (zcons (zvi (rfl : i3 a3 = i3 a3)) (zcons (zvi (rfl : i3 a4 = i3 a4)) (zcons (zvi (rfl : i3 a5 = i3 a5)) (zcons (zvi (show (0 : Int32) = i3 0 from rfl)) rfl)))))))) c9) ?_
                          clear c8 c9
                          have hZ37K : zC [1, 2, 101, 102, 200] Z Z37 := zC_t hZ30K (zMd_C dZ37) (by decide)
                          have hZ37U : zU [] Z Z37 := zU_t hZ30U (zMd_U dZ37) zU_b0
                          have r38 := zM_k hZ37I 2 0 0 3000 (lo := 0) (hi := 2) (by decide) rfl
                          have q39 := (dZ37 2 0 0 3000 (by simp)).trans (zu_ne (k' := 2) (b' := 0) (i' := 0) (j' := 3000) hZ30 (fun q => absurd q.1 (by decide)))
                          obtain ⟨Z40, v41, hv41, c9, hZ40I, kZ40, jZ40, lv41, uv41⟩ := sp_297 (ν := ν1) hZ37I (a1 := a1) (by omega) (a2 := a2) (by omega) (a3 := a3) (by omega) (a4 := a4) (by omega) (a5 := a5) (by omega) (by omega) (zbh (c := 0) (k := 0) hM (Nat.le_of_ble_eq_true rfl))
                          have hZ40U : zU [] Z Z40 := zU_t hZ37U jZ40 zU_b0
                          have hZ40K : zC [1, 2, 101, 102, 200] Z Z40 := zC_t hZ37K kZ40 (by decide)
                          replace hP := zl_e2 hP hv41
                          refine wz_cI_of (zas (zcons rfl (zcons (zvi (rfl : i3 a1 = i3 a1)) (zcons (zvi (rfl : i3 a2 = i3 a2)) (zcons (zvi (rfl : i3 a3 = i3 a3)) (zcons (zvi (rfl : i3 a4 = i3 a4)) (zcons (zvi (rfl : i3 a5 = i3 a5)) rfl)))))) c9) ?_
                          clear c9 hv41
                          exact zlY hP (rfl : i3 v41 = i3 v41) (.inr rfl) ⟨hZ40I, hZ40K, hZ40U⟩

theorem sq_316 {s : zSM} {Z : qz_Z} {ν : qz_N} (hZ : zM s Z) (gq : Z 1 0 0 35 = 1) (hM : s.2 + 0 ≤ 1000000000) {a1 : Int} (ga1 : -2147483648 ≤ a1 ∧ a1 ≤ 2147483647) {a2 : Int} (ga2 : -2147483648 ≤ a2 ∧ a2 ≤ 2147483647) {a3 : Int} (ga3 : -2147483648 ≤ a3 ∧ a3 ≤ 2147483647) {a4 : Int} (ga4 : -2147483648 ≤ a4 ∧ a4 ≤ 2147483647) {a5 : Int} (ga5 : -2147483648 ≤ a5 ∧ a5 ≤ 2147483647) {ν1 : qz_N} : ∃ (Z1 : qz_Z) (ν2 : qz_N) (v : Int), (Z1, v) = zy_316 Z zq0 a1 a2 a3 a4 a5 ∧ (ν2 = ν ∨ ν2 = ν1) ∧ qf_316 [.inr (.inr (some (1, 0, 0))), .inl (i3 a1), .inl (i3 a2), .inl (i3 a3), .inl (i3 a4), .inl (i3 a5)] (zm Z ν) = some (zm Z1 ν2, .inl (some (.inl (i3 v)))) ∧ (fun Z1 => zM s Z1 ∧ zC [1, 2] Z Z1 ∧ zU [] Z Z1) Z1 := by
  obtain ⟨P, hP⟩ := zx (zy_316 Z zq0 a1 a2 a3 a4 a5)
  refine zc_Y (Q := fun Z1 => zM s Z1 ∧ zC [1, 2] Z Z1 ∧ zU [] Z Z1) hP (fw_316 (i3 a1) (i3 a2) (i3 a3) (i3 a4) (i3 a5) _ _ ?_)
  replace hP : zE P (zy_316 Z zq0 a1 a2 a3 a4 a5) := hP
  unfold zy_316 at hP
  have r1 := zM_k hZ 1 0 0 35 (lo := 0) (hi := 1) (by decide) rfl
  have r2 := zM_k hZ 1 0 0 34 (lo := 0) (hi := 8) (by decide) rfl
  have r3 := zM_f hZ 1 0 0 37
  refine wz_br (i3L (rfl : i3 a1 = i3 a1) (show (0 : Int32) = i3 0 from rfl) (by omega) (by omega) (by omega) (by omega)) (fun h4 => ?_) (fun h4 => ?_)
  · replace hP := zE_p hP h4
    obtain ⟨Z5, hZ5⟩ := zx (zu Z 1 0 0 2 1)
    replace hP := zl_e hP hZ5
    have hZ5I := zM_u hZ hZ5 (lo := -2147483648) (hi := 2147483647) (by decide) rfl (by omega) ⟨by decide, by decide⟩ (Or.inr (by decide)) rfl
    have hZ5U : zU [] Z Z5 := zU_u zU_r hZ5 (Or.inl rfl)
    have hZ5K : zC [1, 2] Z Z5 := zC_u zC_r hZ5 (by decide)
    intro μ9 e9
    replace e9 := e9.trans (zm_wI (Z := Z) (ν := ν) hZ5 (show ((0 : Nat) : Int) = 0 from rfl) (show ((0 : Nat) : Int) = 0 from rfl) (show ((2 : Nat) : Int) = 2 from rfl) (show (1 : Int32) = i3 1 from rfl))
    subst e9
    exact zlY hP (show (0 : Int32) = i3 0 from rfl) (.inl rfl) ⟨hZ5I, hZ5K, hZ5U⟩
  · replace hP := zE_n hP h4
    refine wz_br (i3L (show (23 : Int32) = i3 23 from rfl) (rfl : i3 a1 = i3 a1) (by omega) (by omega) (by omega) (by omega)) (fun h6 => ?_) (fun h6 => ?_)
    · replace hP := zE_p hP h6
      obtain ⟨Z7, hZ7⟩ := zx (zu Z 1 0 0 2 1)
      replace hP := zl_e hP hZ7
      have hZ7I := zM_u hZ hZ7 (lo := -2147483648) (hi := 2147483647) (by decide) rfl (by omega) ⟨by decide, by decide⟩ (Or.inr (by decide)) rfl
      have hZ7U : zU [] Z Z7 := zU_u zU_r hZ7 (Or.inl rfl)
      have hZ7K : zC [1, 2] Z Z7 := zC_u zC_r hZ7 (by decide)
      intro μ9 e9
      replace e9 := e9.trans (zm_wI (Z := Z) (ν := ν) hZ7 (show ((0 : Nat) : Int) = 0 from rfl) (show ((0 : Nat) : Int) = 0 from rfl) (show ((2 : Nat) : Int) = 2 from rfl) (show (1 : Int32) = i3 1 from rfl))
      subst e9
      exact zlY hP (show (0 : Int32) = i3 0 from rfl) (.inl rfl) ⟨hZ7I, hZ7K, hZ7U⟩
    · replace hP := zE_n hP h6
      refine wz_br (i3L (rfl : i3 a2 = i3 a2) (show (1 : Int32) = i3 1 from rfl) (by omega) (by omega) (by omega) (by omega)) (fun h8 => ?_) (fun h8 => ?_)
      · replace hP := zE_p hP h8
        obtain ⟨Z9, hZ9⟩ := zx (zu Z 1 0 0 2 1)
        replace hP := zl_e hP hZ9
        have hZ9I := zM_u hZ hZ9 (lo := -2147483648) (hi := 2147483647) (by decide) rfl (by omega) ⟨by decide, by decide⟩ (Or.inr (by decide)) rfl
        have hZ9U : zU [] Z Z9 := zU_u zU_r hZ9 (Or.inl rfl)
        have hZ9K : zC [1, 2] Z Z9 := zC_u zC_r hZ9 (by decide)
        intro μ9 e9
        replace e9 := e9.trans (zm_wI (Z := Z) (ν := ν) hZ9 (show ((0 : Nat) : Int) = 0 from rfl) (show ((0 : Nat) : Int) = 0 from rfl) (show ((2 : Nat) : Int) = 2 from rfl) (show (1 : Int32) = i3 1 from rfl))
        subst e9
        exact zlY hP (show (0 : Int32) = i3 0 from rfl) (.inl rfl) ⟨hZ9I, hZ9K, hZ9U⟩
      · replace hP := zE_n hP h8
        refine wz_br (i3L (show (6 : Int32) = i3 6 from rfl) (rfl : i3 a2 = i3 a2) (by omega) (by omega) (by omega) (by omega)) (fun h10 => ?_) (fun h10 => ?_)
        · replace hP := zE_p hP h10
          obtain ⟨Z11, hZ11⟩ := zx (zu Z 1 0 0 2 1)
          replace hP := zl_e hP hZ11
          have hZ11I := zM_u hZ hZ11 (lo := -2147483648) (hi := 2147483647) (by decide) rfl (by omega) ⟨by decide, by decide⟩ (Or.inr (by decide)) rfl
          have hZ11U : zU [] Z Z11 := zU_u zU_r hZ11 (Or.inl rfl)
          have hZ11K : zC [1, 2] Z Z11 := zC_u zC_r hZ11 (by decide)
          intro μ9 e9
          replace e9 := e9.trans (zm_wI (Z := Z) (ν := ν) hZ11 (show ((0 : Nat) : Int) = 0 from rfl) (show ((0 : Nat) : Int) = 0 from rfl) (show ((2 : Nat) : Int) = 2 from rfl) (show (1 : Int32) = i3 1 from rfl))
          subst e9
          exact zlY hP (show (0 : Int32) = i3 0 from rfl) (.inl rfl) ⟨hZ11I, hZ11K, hZ11U⟩
        · replace hP := zE_n hP h10
          refine wz_i0 (Eq.trans (i3L (i3A (rfl : i3 a1 = i3 a1) (rfl : i3 a2 = i3 a2)) (show (1 : Int32) = i3 1 from rfl) (by omega) (by omega) (by omega) (by omega)) (decide_eq_false (by omega))) ?_
          refine wz_br (i3L (show (24 : Int32) = i3 24 from rfl) (i3A (rfl : i3 a1 = i3 a1) (rfl : i3 a2 = i3 a2)) (by omega) (by omega) (by omega) (by omega)) (fun h12 => ?_) (fun h12 => ?_)
          · replace hP := zE_p hP h12
            obtain ⟨Z13, hZ13⟩ := zx (zu Z 1 0 0 2 1)
            replace hP := zl_e hP hZ13
            have hZ13I := zM_u hZ hZ13 (lo := -2147483648) (hi := 2147483647) (by decide) rfl (by omega) ⟨by decide, by decide⟩ (Or.inr (by decide)) rfl
            have hZ13U : zU [] Z Z13 := zU_u zU_r hZ13 (Or.inl rfl)
            have hZ13K : zC [1, 2] Z Z13 := zC_u zC_r hZ13 (by decide)
            intro μ9 e9
            replace e9 := e9.trans (zm_wI (Z := Z) (ν := ν) hZ13 (show ((0 : Nat) : Int) = 0 from rfl) (show ((0 : Nat) : Int) = 0 from rfl) (show ((2 : Nat) : Int) = 2 from rfl) (show (1 : Int32) = i3 1 from rfl))
            subst e9
            exact zlY hP (show (0 : Int32) = i3 0 from rfl) (.inl rfl) ⟨hZ13I, hZ13K, hZ13U⟩
          · replace hP := zE_n hP h12
            refine wz_br (i3L (rfl : i3 a3 = i3 a3) (show (1 : Int32) = i3 1 from rfl) (by omega) (by omega) (by omega) (by omega)) (fun h14 => ?_) (fun h14 => ?_)
            · replace hP := zE_p hP h14
              obtain ⟨Z15, hZ15⟩ := zx (zu Z 1 0 0 2 1)
              replace hP := zl_e hP hZ15
              have hZ15I := zM_u hZ hZ15 (lo := -2147483648) (hi := 2147483647) (by decide) rfl (by omega) ⟨by decide, by decide⟩ (Or.inr (by decide)) rfl
              have hZ15U : zU [] Z Z15 := zU_u zU_r hZ15 (Or.inl rfl)
              have hZ15K : zC [1, 2] Z Z15 := zC_u zC_r hZ15 (by decide)
              intro μ9 e9
              replace e9 := e9.trans (zm_wI (Z := Z) (ν := ν) hZ15 (show ((0 : Nat) : Int) = 0 from rfl) (show ((0 : Nat) : Int) = 0 from rfl) (show ((2 : Nat) : Int) = 2 from rfl) (show (1 : Int32) = i3 1 from rfl))
              subst e9
              exact zlY hP (show (0 : Int32) = i3 0 from rfl) (.inl rfl) ⟨hZ15I, hZ15K, hZ15U⟩
            · replace hP := zE_n hP h14
              refine wz_br (i3L (show (6 : Int32) = i3 6 from rfl) (rfl : i3 a3 = i3 a3) (by omega) (by omega) (by omega) (by omega)) (fun h16 => ?_) (fun h16 => ?_)
              · replace hP := zE_p hP h16
                obtain ⟨Z17, hZ17⟩ := zx (zu Z 1 0 0 2 1)
                replace hP := zl_e hP hZ17
                have hZ17I := zM_u hZ hZ17 (lo := -2147483648) (hi := 2147483647) (by decide) rfl (by omega) ⟨by decide, by decide⟩ (Or.inr (by decide)) rfl
                have hZ17U : zU [] Z Z17 := zU_u zU_r hZ17 (Or.inl rfl)
                have hZ17K : zC [1, 2] Z Z17 := zC_u zC_r hZ17 (by decide)
                intro μ9 e9
                replace e9 := e9.trans (zm_wI (Z := Z) (ν := ν) hZ17 (show ((0 : Nat) : Int) = 0 from rfl) (show ((0 : Nat) : Int) = 0 from rfl) (show ((2 : Nat) : Int) = 2 from rfl) (show (1 : Int32) = i3 1 from rfl))
                subst e9
                exact zlY hP (show (0 : Int32) = i3 0 from rfl) (.inl rfl) ⟨hZ17I, hZ17K, hZ17U⟩
              · replace hP := zE_n hP h16
                refine wz_br (i3L (rfl : i3 a4 = i3 a4) (show (1 : Int32) = i3 1 from rfl) (by omega) (by omega) (by omega) (by omega)) (fun h18 => ?_) (fun h18 => ?_)
                · replace hP := zE_p hP h18
                  obtain ⟨Z19, hZ19⟩ := zx (zu Z 1 0 0 2 1)
                  replace hP := zl_e hP hZ19
                  have hZ19I := zM_u hZ hZ19 (lo := -2147483648) (hi := 2147483647) (by decide) rfl (by omega) ⟨by decide, by decide⟩ (Or.inr (by decide)) rfl
                  have hZ19U : zU [] Z Z19 := zU_u zU_r hZ19 (Or.inl rfl)
                  have hZ19K : zC [1, 2] Z Z19 := zC_u zC_r hZ19 (by decide)
                  intro μ9 e9
                  replace e9 := e9.trans (zm_wI (Z := Z) (ν := ν) hZ19 (show ((0 : Nat) : Int) = 0 from rfl) (show ((0 : Nat) : Int) = 0 from rfl) (show ((2 : Nat) : Int) = 2 from rfl) (show (1 : Int32) = i3 1 from rfl))
                  subst e9
                  exact zlY hP (show (0 : Int32) = i3 0 from rfl) (.inl rfl) ⟨hZ19I, hZ19K, hZ19U⟩
                · replace hP := zE_n hP h18
                  refine wz_br (i3L (show (500 : Int32) = i3 500 from rfl) (rfl : i3 a4 = i3 a4) (by omega) (by omega) (by omega) (by omega)) (fun h20 => ?_) (fun h20 => ?_)
                  · replace hP := zE_p hP h20
                    obtain ⟨Z21, hZ21⟩ := zx (zu Z 1 0 0 2 1)
                    replace hP := zl_e hP hZ21
                    have hZ21I := zM_u hZ hZ21 (lo := -2147483648) (hi := 2147483647) (by decide) rfl (by omega) ⟨by decide, by decide⟩ (Or.inr (by decide)) rfl
                    have hZ21U : zU [] Z Z21 := zU_u zU_r hZ21 (Or.inl rfl)
                    have hZ21K : zC [1, 2] Z Z21 := zC_u zC_r hZ21 (by decide)
                    intro μ9 e9
                    replace e9 := e9.trans (zm_wI (Z := Z) (ν := ν) hZ21 (show ((0 : Nat) : Int) = 0 from rfl) (show ((0 : Nat) : Int) = 0 from rfl) (show ((2 : Nat) : Int) = 2 from rfl) (show (1 : Int32) = i3 1 from rfl))
                    subst e9
                    exact zlY hP (show (0 : Int32) = i3 0 from rfl) (.inl rfl) ⟨hZ21I, hZ21K, hZ21U⟩
                  · replace hP := zE_n hP h20
                    refine wz_br (i3L (rfl : i3 a5 = i3 a5) (show (0 : Int32) = i3 0 from rfl) (by omega) (by omega) (by omega) (by omega)) (fun h22 => ?_) (fun h22 => ?_)
                    · replace hP := zE_p hP h22
                      obtain ⟨Z23, hZ23⟩ := zx (zu Z 1 0 0 2 1)
                      replace hP := zl_e hP hZ23
                      have hZ23I := zM_u hZ hZ23 (lo := -2147483648) (hi := 2147483647) (by decide) rfl (by omega) ⟨by decide, by decide⟩ (Or.inr (by decide)) rfl
                      have hZ23U : zU [] Z Z23 := zU_u zU_r hZ23 (Or.inl rfl)
                      have hZ23K : zC [1, 2] Z Z23 := zC_u zC_r hZ23 (by decide)
                      intro μ9 e9
                      replace e9 := e9.trans (zm_wI (Z := Z) (ν := ν) hZ23 (show ((0 : Nat) : Int) = 0 from rfl) (show ((0 : Nat) : Int) = 0 from rfl) (show ((2 : Nat) : Int) = 2 from rfl) (show (1 : Int32) = i3 1 from rfl))
                      subst e9
                      exact zlY hP (show (0 : Int32) = i3 0 from rfl) (.inl rfl) ⟨hZ23I, hZ23K, hZ23U⟩
                    · replace hP := zE_n hP h22
                      refine wz_br (i3L (show (9 : Int32) = i3 9 from rfl) (rfl : i3 a5 = i3 a5) (by omega) (by omega) (by omega) (by omega)) (fun h24 => ?_) (fun h24 => ?_)
                      · replace hP := zE_p hP h24
                        obtain ⟨Z25, hZ25⟩ := zx (zu Z 1 0 0 2 1)
                        replace hP := zl_e hP hZ25
                        have hZ25I := zM_u hZ hZ25 (lo := -2147483648) (hi := 2147483647) (by decide) rfl (by omega) ⟨by decide, by decide⟩ (Or.inr (by decide)) rfl
                        have hZ25U : zU [] Z Z25 := zU_u zU_r hZ25 (Or.inl rfl)
                        have hZ25K : zC [1, 2] Z Z25 := zC_u zC_r hZ25 (by decide)
                        intro μ9 e9
                        replace e9 := e9.trans (zm_wI (Z := Z) (ν := ν) hZ25 (show ((0 : Nat) : Int) = 0 from rfl) (show ((0 : Nat) : Int) = 0 from rfl) (show ((2 : Nat) : Int) = 2 from rfl) (show (1 : Int32) = i3 1 from rfl))
                        subst e9
                        exact zlY hP (show (0 : Int32) = i3 0 from rfl) (.inl rfl) ⟨hZ25I, hZ25K, hZ25U⟩
                      · replace hP := zE_n hP h24
                        obtain ⟨Z26, hZ26⟩ := zx (zu Z 1 0 0 2 0)
                        replace hP := zl_e hP hZ26
                        have hZ26I := zM_0 hZ hZ26 (by decide) (Or.inr (by decide))
                        have hZ26U : zU [] Z Z26 := zU_u zU_r hZ26 (Or.inl rfl)
                        have hZ26K : zC [1, 2] Z Z26 := zC_u zC_r hZ26 (by decide)
                        intro μ9 e9
                        replace e9 := e9.trans (zm_wI (Z := Z) (ν := ν) hZ26 (show ((0 : Nat) : Int) = 0 from rfl) (show ((0 : Nat) : Int) = 0 from rfl) (show ((2 : Nat) : Int) = 2 from rfl) (show (0 : Int32) = i3 0 from rfl))
                        subst e9
                        have r27 := zM_k hZ26I 2 0 0 3000 (lo := 0) (hi := 2) (by decide) rfl
                        refine wz_br (i3Le (show (2 : Int32) = i3 2 from rfl) (zm_rd (Z := Z26) (ν := ν) (k := 2) (show ((0 : Nat) : Int) = 0 from rfl) (show ((0 : Nat) : Int) = 0 from rfl) (show ((3000 : Nat) : Int) = 3000 from rfl)) (by omega) (by omega) (by omega) (by omega)) (fun h28 => ?_) (fun h28 => ?_)
                        · replace hP := zE_p hP h28
                          obtain ⟨Z29, hZ29⟩ := zx (zu Z26 1 0 0 2 2)
                          replace hP := zl_e hP hZ29
                          have hZ29I := zM_u hZ26I hZ29 (lo := -2147483648) (hi := 2147483647) (by decide) rfl (by omega) ⟨by decide, by decide⟩ (Or.inr (by decide)) rfl
                          have hZ29U : zU [] Z Z29 := zU_u hZ26U hZ29 (Or.inl rfl)
                          have hZ29K : zC [1, 2] Z Z29 := zC_u hZ26K hZ29 (by decide)
                          intro μ9 e9
                          replace e9 := e9.trans (zm_wI (Z := Z26) (ν := ν) hZ29 (show ((0 : Nat) : Int) = 0 from rfl) (show ((0 : Nat) : Int) = 0 from rfl) (show ((2 : Nat) : Int) = 2 from rfl) (show (2 : Int32) = i3 2 from rfl))
                          subst e9
                          exact zlY hP (show (0 : Int32) = i3 0 from rfl) (.inl rfl) ⟨hZ29I, hZ29K, hZ29U⟩
                        · replace hP := zE_n hP h28
                          obtain ⟨Z30, hZ30⟩ := zx (zu Z26 1 0 0 2 0)
                          replace hP := zl_e hP hZ30
                          have hZ30I := zM_0 hZ26I hZ30 (by decide) (Or.inr (by decide))
                          have hZ30U : zU [] Z Z30 := zU_u hZ26U hZ30 (Or.inl rfl)
                          have hZ30K : zC [1, 2] Z Z30 := zC_u hZ26K hZ30 (by decide)
                          intro μ9 e9
                          replace e9 := e9.trans (zm_wI (Z := Z26) (ν := ν) hZ30 (show ((0 : Nat) : Int) = 0 from rfl) (show ((0 : Nat) : Int) = 0 from rfl) (show ((2 : Nat) : Int) = 2 from rfl) (show (0 : Int32) = i3 0 from rfl))
                          subst e9
                          have r31 := zM_k hZ30I 1 0 0 35 (lo := 0) (hi := 1) (by decide) rfl
                          have q32 := (zu_ne (k' := 1) (b' := 0) (i' := 0) (j' := 35) hZ30 (fun q => absurd q.2.2.2 (by decide))).trans (zu_ne (k' := 1) (b' := 0) (i' := 0) (j' := 35) hZ26 (fun q => absurd q.2.2.2 (by decide)))
                          refine wz_i1 (Eq.trans (i3NE (zm_rd (Z := Z30) (ν := ν) (k := 1) (show ((0 : Nat) : Int) = 0 from rfl) (show ((0 : Nat) : Int) = 0 from rfl) (show ((35 : Nat) : Int) = 35 from rfl)) (show (0 : Int32) = i3 0 from rfl) (by omega) (by omega) (by omega) (by omega)) (decide_eq_true (by omega))) ?_
                          replace hP := zl_q hP (rfl : _ = Z30)
                          have r33 := zM_k hZ30I 2 0 0 3000 (lo := 0) (hi := 2) (by decide) rfl
                          have q34 := zu_ne (k' := 2) (b' := 0) (i' := 0) (j' := 3000) hZ30 (fun q => absurd q.1 (by decide))
                          obtain ⟨Z35, v36, hv36, c9, hZ35I, kZ35, jZ35, lv36, uv36⟩ := sp_297 (ν := ν) hZ30I (a1 := a1) (by omega) (a2 := a2) (by omega) (a3 := a3) (by omega) (a4 := a4) (by omega) (a5 := a5) (by omega) (by omega) (zbh (c := 0) (k := 0) hM (Nat.le_of_ble_eq_true rfl))
                          have hZ35U : zU [] Z Z35 := zU_t hZ30U jZ35 zU_b0
                          have hZ35K : zC [1, 2] Z Z35 := zC_t hZ30K kZ35 (by decide)
                          replace hP := zl_e2 hP hv36
                          refine wz_cI_of (zas (zcons rfl (zcons (zvi (rfl : i3 a1 = i3 a1)) (zcons (zvi (rfl : i3 a2 = i3 a2)) (zcons (zvi (rfl : i3 a3 = i3 a3)) (zcons (zvi (rfl : i3 a4 = i3 a4)) (zcons (zvi (rfl : i3 a5 = i3 a5)) rfl)))))) c9) ?_
                          clear c9 hv36
                          exact zlY hP (rfl : i3 v36 = i3 v36) (.inl rfl) ⟨hZ35I, hZ35K, hZ35U⟩
/- yX12_dFloorLeft -/
def zl_321_1 : Nat → qz_Z → Int → Int → Int × Int
  | 0, Z, x1, x2 => (x1, x2)
  | m + 1, Z, x1, x2 => (if (Z 2 0 0 102) ≤ x2 then (x1, x2) else (if 1 < (Z 2 0 0 (210 + 20 * x2)) then zl_321_1 m Z (x1 - 0) (x2 + 1) else (if (Z 2 0 0 (211 + 20 * x2)) ≠ 6 then zl_321_1 m Z (x1 - 0) (x2 + 1) else zl_321_1 m Z (w3 (x1 - 1)) (x2 + 1))))
theorem sl_321_1 {s : zSM} {Z : qz_Z} {ν : qz_N} (hZ : zM s Z) (hM : s.2 + 0 ≤ 1000000000) {x1 : Int} (gx1 : -2147483648 ≤ x1 ∧ x1 ≤ 2147483647) {x2 : Int} (gx2 : 0 ≤ x2 ∧ x2 ≤ 48) {k : wz_K} {R : wz_R} {L : qz_L} (hL : qz_fg [true, true, true] L = [some (.inr (.inr (some (1, 0, 0)))), some (.inl (i3 x1)), some (.inl (i3 x2))]) {T : Int × Int} (hP : zE T (zl_321_1 ((48 - x2).toNat + 1) Z x1 x2)) (hk : ∀ (L9 : qz_L) (yx1 yx2 : Int), qz_fg [false, true, false] L9 = [none, some (.inl (i3 yx1)), none] → (-2147483648 ≤ yx1 ∧ yx1 ≤ 2147483647) → (0 ≤ yx2 ∧ yx2 ≤ 48) → zE T ((yx1, yx2)) → k 0 (L9, [], zm Z ν)) : wz_loop qb_321_1 65536 k R (L, [], zm Z ν) := by
  refine wz_lp sb_321_1 (fun m x => ∃ x1 : Int, ∃ x2 : Int, qz_fg [true, true, true] x.1 = [some (.inr (.inr (some (1, 0, 0)))), some (.inl (i3 x1)), some (.inl (i3 x2))] ∧ x.2 = ([], zm Z ν) ∧ m = (48 - x2).toNat ∧ (-2147483648 ≤ x1 ∧ x1 ≤ 2147483647) ∧ (0 ≤ x2 ∧ x2 ≤ 48) ∧ zE T (zl_321_1 (m + 1) Z x1 x2)) ?_ 65536 ((48 - x2).toNat) _ (by omega) ⟨x1, x2, hL, rfl, rfl, gx1, gx2, hP⟩
  clear hP gx1 gx2 hL
  clear x1 x2
  rintro m ⟨L, st, μ⟩ ⟨x1, x2, hL, hx, hm, gx1, gx2, hP⟩
  cases hx
  refine fb_321_1 (i3 x1) (i3 x2) _ _ _ _ hL ?_
  have r1 := zM_k hZ 2 0 0 102 (lo := 0) (hi := 48) (by decide) rfl
  refine wz_br (i3Le (zm_rd (Z := Z) (ν := ν) (k := 2) (show ((0 : Nat) : Int) = 0 from rfl) (show ((0 : Nat) : Int) = 0 from rfl) (show ((102 : Nat) : Int) = 102 from rfl)) (rfl : i3 x2 = i3 x2) (by omega) (by omega) (by omega) (by omega)) (fun h2 => ?_) (fun h2 => ?_)
  · replace hP := zE_p hP h2
    exact hk _ _ _ (zconso rfl (zconso (zvo (rfl : i3 x1 = i3 x1)) (zconso rfl rfl)))  (by omega) (by omega)  hP
  · replace hP := zE_n hP h2
    refine wz_i0 (i3O (n := 4400) (i3A (i3A (show (200 : Int32) = i3 200 from rfl) (i3M (show (20 : Int32) = i3 20 from rfl) (rfl : i3 x2 = i3 x2))) (show (10 : Int32) = i3 10 from rfl)) (by omega) (by omega) (by omega)) ?_
    have r3 := zM_k hZ 2 0 0 (210 + 20 * x2) (lo := 0) (hi := 4) (by decide) (zs_200_10 (x := x2) (by omega) (by omega) (by omega))
    have r4 := zM_pl hZ x2
    refine wz_br (i3L (show (1 : Int32) = i3 1 from rfl) (zm_rd (Z := Z) (ν := ν) (k := 2) (show ((0 : Nat) : Int) = 0 from rfl) (show ((0 : Nat) : Int) = 0 from rfl) (i3I (y := (210 + 20 * x2)) (i3A (i3A (show (200 : Int32) = i3 200 from rfl) (i3M (show (20 : Int32) = i3 20 from rfl) (rfl : i3 x2 = i3 x2))) (show (10 : Int32) = i3 10 from rfl)) (by omega) (by omega) (by omega))) (by omega) (by omega) (by omega) (by omega)) (fun h5 => ?_) (fun h5 => ?_)
    · replace hP := zE_p hP h5
      obtain ⟨m2, rfl⟩ : ∃ m2, m = m2 + 1 := ⟨m - 1, by omega⟩
      exact wz_k1 ⟨m2, by omega, (x1 - 0), (x2 + 1), (zconso rfl (zconso (zvo (i3S (rfl : i3 x1 = i3 x1) (show (0 : Int32) = i3 0 from rfl))) (zconso (zvo (i3A (rfl : i3 x2 = i3 x2) (show (1 : Int32) = i3 1 from rfl))) rfl))), rfl,  by omega, by omega, by omega,  hP⟩
    · replace hP := zE_n hP h5
      refine wz_i0 (i3O (n := 4400) (i3A (i3A (show (200 : Int32) = i3 200 from rfl) (i3M (show (20 : Int32) = i3 20 from rfl) (rfl : i3 x2 = i3 x2))) (show (11 : Int32) = i3 11 from rfl)) (by omega) (by omega) (by omega)) ?_
      have r6 := zM_k hZ 2 0 0 (211 + 20 * x2) (lo := -1) (hi := 6) (by decide) (zs_200_11 (x := x2) (by omega) (by omega) (by omega))
      refine wz_br (i3NE (zm_rd (Z := Z) (ν := ν) (k := 2) (show ((0 : Nat) : Int) = 0 from rfl) (show ((0 : Nat) : Int) = 0 from rfl) (i3I (y := (211 + 20 * x2)) (i3A (i3A (show (200 : Int32) = i3 200 from rfl) (i3M (show (20 : Int32) = i3 20 from rfl) (rfl : i3 x2 = i3 x2))) (show (11 : Int32) = i3 11 from rfl)) (by omega) (by omega) (by omega))) (show (6 : Int32) = i3 6 from rfl) (by omega) (by omega) (by omega) (by omega)) (fun h7 => ?_) (fun h7 => ?_)
      · replace hP := zE_p hP h7
        obtain ⟨m2, rfl⟩ : ∃ m2, m = m2 + 1 := ⟨m - 1, by omega⟩
        exact wz_k1 ⟨m2, by omega, (x1 - 0), (x2 + 1), (zconso rfl (zconso (zvo (i3S (rfl : i3 x1 = i3 x1) (show (0 : Int32) = i3 0 from rfl))) (zconso (zvo (i3A (rfl : i3 x2 = i3 x2) (show (1 : Int32) = i3 1 from rfl))) rfl))), rfl,  by omega, by omega, by omega,  hP⟩
      · replace hP := zE_n hP h7
        have r8 := w3_r (x1 - 1)
        obtain ⟨m2, rfl⟩ : ∃ m2, m = m2 + 1 := ⟨m - 1, by omega⟩
        exact wz_k1 ⟨m2, by omega, (w3 (x1 - 1)), (x2 + 1), (zconso rfl (zconso (zvo (i3W (i3S (rfl : i3 x1 = i3 x1) (show (1 : Int32) = i3 1 from rfl)))) (zconso (zvo (i3A (rfl : i3 x2 = i3 x2) (show (1 : Int32) = i3 1 from rfl))) rfl))), rfl,  by omega, by omega, by omega,  hP⟩
/- yX12_dFloorLeft -/
def zf_321 (Z : qz_Z) : Int := (zlet2 (zl_321_1 49 Z 12 0) (fun y1 y2 => y1))
theorem sp_321 {s : zSM} {Z : qz_Z} {ν : qz_N} (hZ : zM s Z) (hM : s.2 + 0 ≤ 1000000000) : ∃ P : Int, P = zf_321 Z ∧ (qf_321 [.inr (.inr (some (1, 0, 0)))] (zm Z ν) = some (zm Z ν, .inl (some (.inl (i3 P)))) ∧ -2147483648 ≤ P ∧ P ≤ 2147483647) := by
  obtain ⟨P, hP⟩ := zx (zf_321 Z)
  refine zc_R (Q := fun P => -2147483648 ≤ P ∧ P ≤ 2147483647) hP (fw_321  _ _ ?_)
  replace hP : zE P (zf_321 Z) := hP
  unfold zf_321 at hP
  refine sl_321_1 (ν := ν) hZ (zbh (c := 0) (k := 0) hM (Nat.le_of_ble_eq_true rfl)) (x1 := 12) (by omega) (x2 := 0) (by omega)  (zconso rfl (zconso (zvo (show (12 : Int32) = i3 12 from rfl)) (zconso (zvo (show (0 : Int32) = i3 0 from rfl)) rfl))) rfl ?_
  intro L3 y1 y2 hL3 gy1 gy2 q9
  replace hP := zl_e2 hP (Eq.symm q9)
  clear q9
  refine fc_321_2 (i3 y1) _ _ _ _ hL3 ?_
  exact zlR hP (rfl : i3 y1 = i3 y1) ⟨by omega, by omega⟩
/- yX12_dPallet -/
def zl_327_1 (x1 : Int) (x2 : Int) (x3 : Int) (x4 : Int) (x5 : Int) (x6 : Int) (x7 : Int) : Nat → qz_Z → Int → qz_Z × Int
  | 0, Z, x8 => (Z, x8)
  | m + 1, Z, x8 => (if 20 ≤ x8 then (Z, x8) else (zlet (zu Z 2 0 0 (200 + 20 * x7 + x8) 0) (fun Z3 => zl_327_1 x1 x2 x3 x4 x5 x6 x7 m Z3 (x8 + 1))))
theorem sl_327_1 {s : zSM} {Zs Z : qz_Z} {ν : qz_N} (hZ : zM s Z) (hM : s.2 + 0 ≤ 1000000000) (hK : zC [2] Zs Z) {x1 : Int} (gx1 : 0 ≤ x1 ∧ x1 ≤ 5) {x2 : Int} (gx2 : 0 ≤ x2 ∧ x2 ≤ 4) {x3 : Int} (gx3 : 1 ≤ x3 ∧ x3 ≤ 40) {x4 : Int} (gx4 : 0 ≤ x4 ∧ x4 ≤ 2000) {x5 : Int} (gx5 : 0 ≤ x5 ∧ x5 ≤ 40) {x6 : Int} (gx6 : -1 ≤ x6 ∧ x6 ≤ 3) {x7 : Int} (gx7 : 0 ≤ x7 ∧ x7 ≤ 48) {x8 : Int} (gx8 : 0 ≤ x8 ∧ x8 ≤ 20) (hU : zU [] Zs Z) (gr0 : Z 2 0 0 102 = x7) {k : wz_K} {R : wz_R} {L : qz_L} (hL : qz_fg [true, true, true, true, true, true, true, true, true] L = [some (.inr (.inr (some (1, 0, 0)))), some (.inl (i3 x1)), some (.inl (i3 x2)), some (.inl (i3 x3)), some (.inl (i3 x4)), some (.inl (i3 x5)), some (.inl (i3 x6)), some (.inl (i3 x7)), some (.inl (i3 x8))]) {T : qz_Z × Int} (hP : zE T (zl_327_1 x1 x2 x3 x4 x5 x6 x7 ((20 - x8).toNat + 1) Z x8)) (hk : ∀ (L9 : qz_L) (Z9 : qz_Z) (yx8 : Int), qz_fg [true, true, true, true, true, true, true, true, false] L9 = [some (.inr (.inr (some (1, 0, 0)))), some (.inl (i3 x1)), some (.inl (i3 x2)), some (.inl (i3 x3)), some (.inl (i3 x4)), some (.inl (i3 x5)), some (.inl (i3 x6)), some (.inl (i3 x7)), none] → zM s Z9 → zC [2] Zs Z9 → zU [] Zs Z9 → (0 ≤ yx8 ∧ yx8 ≤ 20) → (Z9 2 0 0 102 = x7) → zE T ((Z9, yx8)) → k 0 (L9, [], zm Z9 ν)) : wz_loop qb_327_1 65536 k R (L, [], zm Z ν) := by
  refine wz_lp sb_327_1 (fun m x => ∃ Z : qz_Z, ∃ x8 : Int, qz_fg [true, true, true, true, true, true, true, true, true] x.1 = [some (.inr (.inr (some (1, 0, 0)))), some (.inl (i3 x1)), some (.inl (i3 x2)), some (.inl (i3 x3)), some (.inl (i3 x4)), some (.inl (i3 x5)), some (.inl (i3 x6)), some (.inl (i3 x7)), some (.inl (i3 x8))] ∧ x.2 = ([], zm Z ν) ∧ zM s Z ∧ zC [2] Zs Z ∧ zU [] Zs Z ∧ m = (20 - x8).toNat ∧ (0 ≤ x8 ∧ x8 ≤ 20) ∧ (Z 2 0 0 102 = x7) ∧ zE T (zl_327_1 x1 x2 x3 x4 x5 x6 x7 (m + 1) Z x8)) ?_ 65536 ((20 - x8).toNat) _ (by omega) ⟨Z, x8, hL, rfl, hZ, hK, hU, rfl, gx8, gr0, hP⟩
  clear hP gr0 gx8 hZ hK hU hL
  clear x8
  clear Z
  rintro m ⟨L, st, μ⟩ ⟨Z, x8, hL, hx, hZ, hK, hU, hm, gx8, gr0, hP⟩
  cases hx
  refine fb_327_1 (i3 x1) (i3 x2) (i3 x3) (i3 x4) (i3 x5) (i3 x6) (i3 x7) (i3 x8) _ _ _ _ hL ?_
  have r1 := zM_k hZ 2 0 0 102 (lo := 0) (hi := 48) (by decide) rfl
  refine wz_br (i3Le (show (20 : Int32) = i3 20 from rfl) (rfl : i3 x8 = i3 x8) (by omega) (by omega) (by omega) (by omega)) (fun h2 => ?_) (fun h2 => ?_)
  · replace hP := zE_p hP h2
    exact hk _ _ _ (zconso rfl (zconso (zvo (rfl : i3 x1 = i3 x1)) (zconso (zvo (rfl : i3 x2 = i3 x2)) (zconso (zvo (rfl : i3 x3 = i3 x3)) (zconso (zvo (rfl : i3 x4 = i3 x4)) (zconso (zvo (rfl : i3 x5 = i3 x5)) (zconso (zvo (rfl : i3 x6 = i3 x6)) (zconso (zvo (rfl : i3 x7 = i3 x7)) (zconso rfl rfl))))))))) hZ hK hU (by omega) (by omega) hP
  · replace hP := zE_n hP h2
    refine wz_i0 (i3O (n := 4400) (i3A (i3A (show (200 : Int32) = i3 200 from rfl) (i3M (show (20 : Int32) = i3 20 from rfl) (rfl : i3 x7 = i3 x7))) (rfl : i3 x8 = i3 x8)) (by omega) (by omega) (by omega)) ?_
    obtain ⟨Z3, hZ3⟩ := zx (zu Z 2 0 0 (200 + 20 * x7 + x8) 0)
    replace hP := zl_e hP hZ3
    have hZ3I := zM_z2 hZ hZ3 (by omega) (by omega) (by omega)
    have hZ3U : zU [] Zs Z3 := zU_u hU hZ3 (Or.inl rfl)
    have hZ3K : zC [2] Zs Z3 := zC_u hK hZ3 (zcl_2w (by omega) rfl)
    intro μ9 e9
    replace e9 := e9.trans (zm_wI (Z := Z) (ν := ν) hZ3 (show ((0 : Nat) : Int) = 0 from rfl) (show ((0 : Nat) : Int) = 0 from rfl) (i3I (y := (200 + 20 * x7 + x8)) (i3A (i3A (show (200 : Int32) = i3 200 from rfl) (i3M (show (20 : Int32) = i3 20 from rfl) (rfl : i3 x7 = i3 x7))) (rfl : i3 x8 = i3 x8)) (by omega) (by omega) (by omega)) (show (0 : Int32) = i3 0 from rfl))
    subst e9
    have r4 := zM_k hZ3I 2 0 0 102 (lo := 0) (hi := 48) (by decide) rfl
    have q5 := zu_ne (k' := 2) (b' := 0) (i' := 0) (j' := 102) hZ3 (fun q => absurd q.2.2.2 (by omega))
    obtain ⟨m2, rfl⟩ : ∃ m2, m = m2 + 1 := ⟨m - 1, by omega⟩
    exact wz_k1 ⟨m2, by omega, Z3, (x8 + 1), (zconso rfl (zconso (zvo (rfl : i3 x1 = i3 x1)) (zconso (zvo (rfl : i3 x2 = i3 x2)) (zconso (zvo (rfl : i3 x3 = i3 x3)) (zconso (zvo (rfl : i3 x4 = i3 x4)) (zconso (zvo (rfl : i3 x5 = i3 x5)) (zconso (zvo (rfl : i3 x6 = i3 x6)) (zconso (zvo (rfl : i3 x7 = i3 x7)) (zconso (zvo (i3A (rfl : i3 x8 = i3 x8) (show (1 : Int32) = i3 1 from rfl))) rfl))))))))), rfl, hZ3I, hZ3K, hZ3U, by omega, by omega, by omega,  hP⟩
/- yX12_dPallet -/
def zf_327 (Z : qz_Z) (a1 : Int) (a2 : Int) (a3 : Int) (a4 : Int) (a5 : Int) (a6 : Int) : qz_Z × Int := (zlet2 (zl_327_1 a1 a2 a3 a4 a5 a6 (Z 2 0 0 102) 21 Z 0) (fun Z3 y2 => (zlet (zu Z3 2 0 0 (200 + 20 * (Z 2 0 0 102)) a1) (fun Z6 => (zlet (zu Z6 2 0 0 (201 + 20 * (Z 2 0 0 102)) a2) (fun Z7 => (zlet (zu Z7 2 0 0 (202 + 20 * (Z 2 0 0 102)) (Z7 2 0 0 0)) (fun Z9 => (zlet (zu Z9 2 0 0 (203 + 20 * (Z 2 0 0 102)) a3) (fun Z10 => (zlet (zu Z10 2 0 0 (204 + 20 * (Z 2 0 0 102)) a3) (fun Z11 => (zlet (zu Z11 2 0 0 (205 + 20 * (Z 2 0 0 102)) a5) (fun Z12 => (zlet (zu Z12 2 0 0 (207 + 20 * (Z 2 0 0 102)) a4) (fun Z13 => (zlet (zu Z13 2 0 0 (209 + 20 * (Z 2 0 0 102)) a6) (fun Z14 => (zlet (zu Z14 2 0 0 (211 + 20 * (Z 2 0 0 102)) 6) (fun Z15 => (zlet (zu Z15 2 0 0 (213 + 20 * (Z 2 0 0 102)) (-1)) (fun Z20 => (zlet (zu Z20 2 0 0 102 ((Z20 2 0 0 102) + 1)) (fun Z23 => (Z23, (Z 2 0 0 102))))))))))))))))))))))))))
theorem sp_327 {s : zSM} {Z : qz_Z} {ν : qz_N} (hZ : zM s Z) {a1 : Int} (ga1 : 0 ≤ a1 ∧ a1 ≤ 5) {a2 : Int} (ga2 : 0 ≤ a2 ∧ a2 ≤ 4) {a3 : Int} (ga3 : 1 ≤ a3 ∧ a3 ≤ 40) {a4 : Int} (ga4 : 0 ≤ a4 ∧ a4 ≤ 2000) {a5 : Int} (ga5 : 0 ≤ a5 ∧ a5 ≤ 40) {a6 : Int} (ga6 : -1 ≤ a6 ∧ a6 ≤ 3) (gx0 : Z 2 0 0 102 ≤ 47) (hM : s.2 + 0 ≤ 1000000000) : ∃ (Z1 : qz_Z) (P : Int), (Z1, P) = zf_327 Z a1 a2 a3 a4 a5 a6 ∧ (qf_327 [.inr (.inr (some (1, 0, 0))), .inl (i3 a1), .inl (i3 a2), .inl (i3 a3), .inl (i3 a4), .inl (i3 a5), .inl (i3 a6)] (zm Z ν) = some (zm Z1 ν, .inl (some (.inl (i3 P)))) ∧ zM s Z1 ∧ zC [2] Z Z1 ∧ zU [] Z Z1 ∧ 0 ≤ P ∧ P ≤ 48 ∧ Z1 2 0 0 102 = Z 2 0 0 102 + 1) := by
  obtain ⟨P, hP⟩ := zx (zf_327 Z a1 a2 a3 a4 a5 a6)
  refine zc_W (Q := fun Z1 P => zM s Z1 ∧ zC [2] Z Z1 ∧ zU [] Z Z1 ∧ 0 ≤ P ∧ P ≤ 48 ∧ Z1 2 0 0 102 = Z 2 0 0 102 + 1) hP (fw_327 (i3 a1) (i3 a2) (i3 a3) (i3 a4) (i3 a5) (i3 a6) _ _ ?_)
  replace hP : zE P (zf_327 Z a1 a2 a3 a4 a5 a6) := hP
  unfold zf_327 at hP
  have r1 := zM_k hZ 2 0 0 102 (lo := 0) (hi := 48) (by decide) rfl
  refine sl_327_1 (ν := ν) hZ (zbh (c := 0) (k := 0) hM (Nat.le_of_ble_eq_true rfl)) zC_r (x1 := a1) (by omega) (x2 := a2) (by omega) (x3 := a3) (by omega) (x4 := a4) (by omega) (x5 := a5) (by omega) (x6 := a6) (by omega) (x7 := (Z 2 0 0 102)) (by omega) (x8 := 0) (by omega) zU_r (by omega) (zconso rfl (zconso (zvo (rfl : i3 a1 = i3 a1)) (zconso (zvo (rfl : i3 a2 = i3 a2)) (zconso (zvo (rfl : i3 a3 = i3 a3)) (zconso (zvo (rfl : i3 a4 = i3 a4)) (zconso (zvo (rfl : i3 a5 = i3 a5)) (zconso (zvo (rfl : i3 a6 = i3 a6)) (zconso (zvo (zm_rd (Z := Z) (ν := ν) (k := 2) (show ((0 : Nat) : Int) = 0 from rfl) (show ((0 : Nat) : Int) = 0 from rfl) (show ((102 : Nat) : Int) = 102 from rfl))) (zconso (zvo (show (0 : Int32) = i3 0 from rfl)) rfl))))))))) rfl ?_
  intro L4 Z3 y2 hL4 hZ3I kZ3 jZ3 gy2 gL4_0 q9
  replace hP := zl_e2 hP (Eq.symm q9)
  clear q9
  have hZ3U : zU [] Z Z3 := zU_t zU_r jZ3 zU_b0
  have hZ3K : zC [2] Z Z3 := zC_t zC_r kZ3 (by decide)
  have r5 := zM_k hZ3I 2 0 0 102 (lo := 0) (hi := 48) (by decide) rfl
  refine fc_327_2 (i3 a1) (i3 a2) (i3 a3) (i3 a4) (i3 a5) (i3 a6) (i3 (Z 2 0 0 102)) _ _ _ _ hL4 ?_
  refine wz_i0 (i3O (n := 4400) (i3A (i3A (show (200 : Int32) = i3 200 from rfl) (i3M (show (20 : Int32) = i3 20 from rfl) (rfl : i3 (Z 2 0 0 102) = i3 (Z 2 0 0 102)))) (show (0 : Int32) = i3 0 from rfl)) (by omega) (by omega) (by omega)) ?_
  obtain ⟨Z6, hZ6⟩ := zx (zu Z3 2 0 0 (200 + 20 * (Z 2 0 0 102)) a1)
  replace hP := zl_e hP hZ6
  have hZ6I := zM_u2 hZ3I hZ6 (lo := 0) (hi := 5) (zs_200_0 (x := (Z 2 0 0 102)) (by omega) (by omega) (by omega)) (by omega) ⟨by decide, by decide⟩ (by simp only [zsp]; omega)
  have hZ6U : zU [] Z Z6 := zU_u hZ3U hZ6 (Or.inl rfl)
  have hZ6K : zC [2] Z Z6 := zC_u hZ3K hZ6 (zcl_2w (by omega) rfl)
  intro μ9 e9
  replace e9 := e9.trans (zm_wI (Z := Z3) (ν := ν) hZ6 (show ((0 : Nat) : Int) = 0 from rfl) (show ((0 : Nat) : Int) = 0 from rfl) (i3I (y := (200 + 20 * (Z 2 0 0 102))) (i3A (i3A (show (200 : Int32) = i3 200 from rfl) (i3M (show (20 : Int32) = i3 20 from rfl) (rfl : i3 (Z 2 0 0 102) = i3 (Z 2 0 0 102)))) (show (0 : Int32) = i3 0 from rfl)) (by omega) (by omega) (by omega)) (rfl : i3 a1 = i3 a1))
  subst e9
  refine wz_i0 (i3O (n := 4400) (i3A (i3A (show (200 : Int32) = i3 200 from rfl) (i3M (show (20 : Int32) = i3 20 from rfl) (rfl : i3 (Z 2 0 0 102) = i3 (Z 2 0 0 102)))) (show (1 : Int32) = i3 1 from rfl)) (by omega) (by omega) (by omega)) ?_
  obtain ⟨Z7, hZ7⟩ := zx (zu Z6 2 0 0 (201 + 20 * (Z 2 0 0 102)) a2)
  replace hP := zl_e hP hZ7
  have hZ7I := zM_u2 hZ6I hZ7 (lo := 0) (hi := 4) (zs_200_1 (x := (Z 2 0 0 102)) (by omega) (by omega) (by omega)) (by omega) ⟨by decide, by decide⟩ (by simp only [zsp]; omega)
  have hZ7U : zU [] Z Z7 := zU_u hZ6U hZ7 (Or.inl rfl)
  have hZ7K : zC [2] Z Z7 := zC_u hZ6K hZ7 (zcl_2w (by omega) rfl)
  intro μ9 e9
  replace e9 := e9.trans (zm_wI (Z := Z6) (ν := ν) hZ7 (show ((0 : Nat) : Int) = 0 from rfl) (show ((0 : Nat) : Int) = 0 from rfl) (i3I (y := (201 + 20 * (Z 2 0 0 102))) (i3A (i3A (show (200 : Int32) = i3 200 from rfl) (i3M (show (20 : Int32) = i3 20 from rfl) (rfl : i3 (Z 2 0 0 102) = i3 (Z 2 0 0 102)))) (show (1 : Int32) = i3 1 from rfl)) (by omega) (by omega) (by omega)) (rfl : i3 a2 = i3 a2))
  subst e9
  refine wz_i0 (i3O (n := 4400) (i3A (i3A (show (200 : Int32) = i3 200 from rfl) (i3M (show (20 : Int32) = i3 20 from rfl) (rfl : i3 (Z 2 0 0 102) = i3 (Z 2 0 0 102)))) (show (2 : Int32) = i3 2 from rfl)) (by omega) (by omega) (by omega)) ?_
  have r8 := zM_k hZ7I 2 0 0 0 (lo := 0) (hi := 671) (by decide) rfl
  obtain ⟨Z9, hZ9⟩ := zx (zu Z7 2 0 0 (202 + 20 * (Z 2 0 0 102)) (Z7 2 0 0 0))
  replace hP := zl_e hP hZ9
  have hZ9I := zM_u2 hZ7I hZ9 (lo := 0) (hi := 671) (zs_200_2 (x := (Z 2 0 0 102)) (by omega) (by omega) (by omega)) (by omega) ⟨by decide, by decide⟩ (by simp only [zsp]; omega)
  have hZ9U : zU [] Z Z9 := zU_u hZ7U hZ9 (Or.inl rfl)
  have hZ9K : zC [2] Z Z9 := zC_u hZ7K hZ9 (zcl_2w (by omega) rfl)
  intro μ9 e9
  replace e9 := e9.trans (zm_wI (Z := Z7) (ν := ν) hZ9 (show ((0 : Nat) : Int) = 0 from rfl) (show ((0 : Nat) : Int) = 0 from rfl) (i3I (y := (202 + 20 * (Z 2 0 0 102))) (i3A (i3A (show (200 : Int32) = i3 200 from rfl) (i3M (show (20 : Int32) = i3 20 from rfl) (rfl : i3 (Z 2 0 0 102) = i3 (Z 2 0 0 102)))) (show (2 : Int32) = i3 2 from rfl)) (by omega) (by omega) (by omega)) (zm_rd (Z := Z7) (ν := ν) (k := 2) (show ((0 : Nat) : Int) = 0 from rfl) (show ((0 : Nat) : Int) = 0 from rfl) (show ((0 : Nat) : Int) = 0 from rfl)))
  subst e9
  refine wz_i0 (i3O (n := 4400) (i3A (i3A (show (200 : Int32) = i3 200 from rfl) (i3M (show (20 : Int32) = i3 20 from rfl) (rfl : i3 (Z 2 0 0 102) = i3 (Z 2 0 0 102)))) (show (3 : Int32) = i3 3 from rfl)) (by omega) (by omega) (by omega)) ?_
  obtain ⟨Z10, hZ10⟩ := zx (zu Z9 2 0 0 (203 + 20 * (Z 2 0 0 102)) a3)
  replace hP := zl_e hP hZ10
  have hZ10I := zM_u2 hZ9I hZ10 (lo := 0) (hi := 40) (zs_200_3 (x := (Z 2 0 0 102)) (by omega) (by omega) (by omega)) (by omega) ⟨by decide, by decide⟩ (by simp only [zsp]; omega)
  have hZ10U : zU [] Z Z10 := zU_u hZ9U hZ10 (Or.inl rfl)
  have hZ10K : zC [2] Z Z10 := zC_u hZ9K hZ10 (zcl_2w (by omega) rfl)
  intro μ9 e9
  replace e9 := e9.trans (zm_wI (Z := Z9) (ν := ν) hZ10 (show ((0 : Nat) : Int) = 0 from rfl) (show ((0 : Nat) : Int) = 0 from rfl) (i3I (y := (203 + 20 * (Z 2 0 0 102))) (i3A (i3A (show (200 : Int32) = i3 200 from rfl) (i3M (show (20 : Int32) = i3 20 from rfl) (rfl : i3 (Z 2 0 0 102) = i3 (Z 2 0 0 102)))) (show (3 : Int32) = i3 3 from rfl)) (by omega) (by omega) (by omega)) (rfl : i3 a3 = i3 a3))
  subst e9
  refine wz_i0 (i3O (n := 4400) (i3A (i3A (show (200 : Int32) = i3 200 from rfl) (i3M (show (20 : Int32) = i3 20 from rfl) (rfl : i3 (Z 2 0 0 102) = i3 (Z 2 0 0 102)))) (show (4 : Int32) = i3 4 from rfl)) (by omega) (by omega) (by omega)) ?_
  obtain ⟨Z11, hZ11⟩ := zx (zu Z10 2 0 0 (204 + 20 * (Z 2 0 0 102)) a3)
  replace hP := zl_e hP hZ11
  have hZ11I := zM_u2 hZ10I hZ11 (lo := 0) (hi := 40) (zs_200_4 (x := (Z 2 0 0 102)) (by omega) (by omega) (by omega)) (by omega) ⟨by decide, by decide⟩ (by simp only [zsp]; omega)
  have hZ11U : zU [] Z Z11 := zU_u hZ10U hZ11 (Or.inl rfl)
  have hZ11K : zC [2] Z Z11 := zC_u hZ10K hZ11 (zcl_2w (by omega) rfl)
  intro μ9 e9
  replace e9 := e9.trans (zm_wI (Z := Z10) (ν := ν) hZ11 (show ((0 : Nat) : Int) = 0 from rfl) (show ((0 : Nat) : Int) = 0 from rfl) (i3I (y := (204 + 20 * (Z 2 0 0 102))) (i3A (i3A (show (200 : Int32) = i3 200 from rfl) (i3M (show (20 : Int32) = i3 20 from rfl) (rfl : i3 (Z 2 0 0 102) = i3 (Z 2 0 0 102)))) (show (4 : Int32) = i3 4 from rfl)) (by omega) (by omega) (by omega)) (rfl : i3 a3 = i3 a3))
  subst e9
  refine wz_i0 (i3O (n := 4400) (i3A (i3A (show (200 : Int32) = i3 200 from rfl) (i3M (show (20 : Int32) = i3 20 from rfl) (rfl : i3 (Z 2 0 0 102) = i3 (Z 2 0 0 102)))) (show (5 : Int32) = i3 5 from rfl)) (by omega) (by omega) (by omega)) ?_
  obtain ⟨Z12, hZ12⟩ := zx (zu Z11 2 0 0 (205 + 20 * (Z 2 0 0 102)) a5)
  replace hP := zl_e hP hZ12
  have hZ12I := zM_u2 hZ11I hZ12 (lo := 0) (hi := 40) (zs_200_5 (x := (Z 2 0 0 102)) (by omega) (by omega) (by omega)) (by omega) ⟨by decide, by decide⟩ (by simp only [zsp]; omega)
  have hZ12U : zU [] Z Z12 := zU_u hZ11U hZ12 (Or.inl rfl)
  have hZ12K : zC [2] Z Z12 := zC_u hZ11K hZ12 (zcl_2w (by omega) rfl)
  intro μ9 e9
  replace e9 := e9.trans (zm_wI (Z := Z11) (ν := ν) hZ12 (show ((0 : Nat) : Int) = 0 from rfl) (show ((0 : Nat) : Int) = 0 from rfl) (i3I (y := (205 + 20 * (Z 2 0 0 102))) (i3A (i3A (show (200 : Int32) = i3 200 from rfl) (i3M (show (20 : Int32) = i3 20 from rfl) (rfl : i3 (Z 2 0 0 102) = i3 (Z 2 0 0 102)))) (show (5 : Int32) = i3 5 from rfl)) (by omega) (by omega) (by omega)) (rfl : i3 a5 = i3 a5))
  subst e9
  refine wz_i0 (i3O (n := 4400) (i3A (i3A (show (200 : Int32) = i3 200 from rfl) (i3M (show (20 : Int32) = i3 20 from rfl) (rfl : i3 (Z 2 0 0 102) = i3 (Z 2 0 0 102)))) (show (7 : Int32) = i3 7 from rfl)) (by omega) (by omega) (by omega)) ?_
  obtain ⟨Z13, hZ13⟩ := zx (zu Z12 2 0 0 (207 + 20 * (Z 2 0 0 102)) a4)
  replace hP := zl_e hP hZ13
  have hZ13I := zM_u2 hZ12I hZ13 (lo := 0) (hi := 2000) (zs_200_7 (x := (Z 2 0 0 102)) (by omega) (by omega) (by omega)) (by omega) ⟨by decide, by decide⟩ (by simp only [zsp]; omega)
  have hZ13U : zU [] Z Z13 := zU_u hZ12U hZ13 (Or.inl rfl)
  have hZ13K : zC [2] Z Z13 := zC_u hZ12K hZ13 (zcl_2w (by omega) rfl)
  intro μ9 e9
  replace e9 := e9.trans (zm_wI (Z := Z12) (ν := ν) hZ13 (show ((0 : Nat) : Int) = 0 from rfl) (show ((0 : Nat) : Int) = 0 from rfl) (i3I (y := (207 + 20 * (Z 2 0 0 102))) (i3A (i3A (show (200 : Int32) = i3 200 from rfl) (i3M (show (20 : Int32) = i3 20 from rfl) (rfl : i3 (Z 2 0 0 102) = i3 (Z 2 0 0 102)))) (show (7 : Int32) = i3 7 from rfl)) (by omega) (by omega) (by omega)) (rfl : i3 a4 = i3 a4))
  subst e9
  refine wz_i0 (i3O (n := 4400) (i3A (i3A (show (200 : Int32) = i3 200 from rfl) (i3M (show (20 : Int32) = i3 20 from rfl) (rfl : i3 (Z 2 0 0 102) = i3 (Z 2 0 0 102)))) (show (9 : Int32) = i3 9 from rfl)) (by omega) (by omega) (by omega)) ?_
  obtain ⟨Z14, hZ14⟩ := zx (zu Z13 2 0 0 (209 + 20 * (Z 2 0 0 102)) a6)
  replace hP := zl_e hP hZ14
  have hZ14I := zM_u2 hZ13I hZ14 (lo := -1) (hi := 3) (zs_200_9 (x := (Z 2 0 0 102)) (by omega) (by omega) (by omega)) (by omega) ⟨by decide, by decide⟩ (by simp only [zsp]; omega)
  have hZ14U : zU [] Z Z14 := zU_u hZ13U hZ14 (Or.inl rfl)
  have hZ14K : zC [2] Z Z14 := zC_u hZ13K hZ14 (zcl_2w (by omega) rfl)
  intro μ9 e9
  replace e9 := e9.trans (zm_wI (Z := Z13) (ν := ν) hZ14 (show ((0 : Nat) : Int) = 0 from rfl) (show ((0 : Nat) : Int) = 0 from rfl) (i3I (y := (209 + 20 * (Z 2 0 0 102))) (i3A (i3A (show (200 : Int32) = i3 200 from rfl) (i3M (show (20 : Int32) = i3 20 from rfl) (rfl : i3 (Z 2 0 0 102) = i3 (Z 2 0 0 102)))) (show (9 : Int32) = i3 9 from rfl)) (by omega) (by omega) (by omega)) (rfl : i3 a6 = i3 a6))
  subst e9
  refine wz_i0 (i3O (n := 4400) (i3A (i3A (show (200 : Int32) = i3 200 from rfl) (i3M (show (20 : Int32) = i3 20 from rfl) (rfl : i3 (Z 2 0 0 102) = i3 (Z 2 0 0 102)))) (show (11 : Int32) = i3 11 from rfl)) (by omega) (by omega) (by omega)) ?_
  obtain ⟨Z15, hZ15⟩ := zx (zu Z14 2 0 0 (211 + 20 * (Z 2 0 0 102)) 6)
  replace hP := zl_e hP hZ15
  have r16 := zM_k hZ14I 2 0 0 (210 + 20 * (Z 2 0 0 102)) (lo := 0) (hi := 4) (by decide) (zs_200_10 (x := (Z 2 0 0 102)) (by omega) (by omega) (by omega))
  have r17 := zM_pl hZ14I (Z 2 0 0 102)
  have r18 := zM_k hZ14I 2 0 0 102 (lo := 0) (hi := 48) (by decide) rfl
  have q19 := (zu_ne (k' := 2) (b' := 0) (i' := 0) (j' := 102) hZ14 (fun q => absurd q.2.2.2 (by omega))).trans ((zu_ne (k' := 2) (b' := 0) (i' := 0) (j' := 102) hZ13 (fun q => absurd q.2.2.2 (by omega))).trans ((zu_ne (k' := 2) (b' := 0) (i' := 0) (j' := 102) hZ12 (fun q => absurd q.2.2.2 (by omega))).trans ((zu_ne (k' := 2) (b' := 0) (i' := 0) (j' := 102) hZ11 (fun q => absurd q.2.2.2 (by omega))).trans ((zu_ne (k' := 2) (b' := 0) (i' := 0) (j' := 102) hZ10 (fun q => absurd q.2.2.2 (by omega))).trans ((zu_ne (k' := 2) (b' := 0) (i' := 0) (j' := 102) hZ9 (fun q => absurd q.2.2.2 (by omega))).trans ((zu_ne (k' := 2) (b' := 0) (i' := 0) (j' := 102) hZ7 (fun q => absurd q.2.2.2 (by omega))).trans (zu_ne (k' := 2) (b' := 0) (i' := 0) (j' := 102) hZ6 (fun q => absurd q.2.2.2 (by omega)))))))))
  have hZ15I := zM_pw2 hZ14I hZ15 (q := (Z 2 0 0 102)) (by omega) (by omega) (by omega) (by omega)
  have hZ15U : zU [] Z Z15 := zU_u hZ14U hZ15 (Or.inl rfl)
  have hZ15K : zC [2] Z Z15 := zC_u hZ14K hZ15 (zcl_2w (by omega) rfl)
  intro μ9 e9
  replace e9 := e9.trans (zm_wI (Z := Z14) (ν := ν) hZ15 (show ((0 : Nat) : Int) = 0 from rfl) (show ((0 : Nat) : Int) = 0 from rfl) (i3I (y := (211 + 20 * (Z 2 0 0 102))) (i3A (i3A (show (200 : Int32) = i3 200 from rfl) (i3M (show (20 : Int32) = i3 20 from rfl) (rfl : i3 (Z 2 0 0 102) = i3 (Z 2 0 0 102)))) (show (11 : Int32) = i3 11 from rfl)) (by omega) (by omega) (by omega)) (show (6 : Int32) = i3 6 from rfl))
  subst e9
  refine wz_i0 (i3O (n := 4400) (i3A (i3A (show (200 : Int32) = i3 200 from rfl) (i3M (show (20 : Int32) = i3 20 from rfl) (rfl : i3 (Z 2 0 0 102) = i3 (Z 2 0 0 102)))) (show (13 : Int32) = i3 13 from rfl)) (by omega) (by omega) (by omega)) ?_
  obtain ⟨Z20, hZ20⟩ := zx (zu Z15 2 0 0 (213 + 20 * (Z 2 0 0 102)) (-1))
  replace hP := zl_e hP hZ20
  have hZ20I := zM_u2 hZ15I hZ20 (lo := -1) (hi := 20) (zs_200_13 (x := (Z 2 0 0 102)) (by omega) (by omega) (by omega)) (by omega) ⟨by decide, by decide⟩ (by simp only [zsp]; omega)
  have hZ20U : zU [] Z Z20 := zU_u hZ15U hZ20 (Or.inl rfl)
  have hZ20K : zC [2] Z Z20 := zC_u hZ15K hZ20 (zcl_2w (by omega) rfl)
  intro μ9 e9
  replace e9 := e9.trans (zm_wI (Z := Z15) (ν := ν) hZ20 (show ((0 : Nat) : Int) = 0 from rfl) (show ((0 : Nat) : Int) = 0 from rfl) (i3I (y := (213 + 20 * (Z 2 0 0 102))) (i3A (i3A (show (200 : Int32) = i3 200 from rfl) (i3M (show (20 : Int32) = i3 20 from rfl) (rfl : i3 (Z 2 0 0 102) = i3 (Z 2 0 0 102)))) (show (13 : Int32) = i3 13 from rfl)) (by omega) (by omega) (by omega)) (show (-1 : Int32) = i3 (-1) from rfl))
  subst e9
  have r21 := zM_k hZ20I 2 0 0 102 (lo := 0) (hi := 48) (by decide) rfl
  have q22 := (zu_ne (k' := 2) (b' := 0) (i' := 0) (j' := 102) hZ20 (fun q => absurd q.2.2.2 (by omega))).trans (zu_ne (k' := 2) (b' := 0) (i' := 0) (j' := 102) hZ15 (fun q => absurd q.2.2.2 (by omega)))
  obtain ⟨Z23, hZ23⟩ := zx (zu Z20 2 0 0 102 ((Z20 2 0 0 102) + 1))
  replace hP := zl_e hP hZ23
  have r24 := zM_k hZ20I 2 0 0 (211 + 20 * (Z 2 0 0 102)) (lo := -1) (hi := 6) (by decide) (zs_200_11 (x := (Z 2 0 0 102)) (by omega) (by omega) (by omega))
  have r25 := zM_pl hZ20I (Z 2 0 0 102)
  have q26 := (zu_ne (k' := 2) (b' := 0) (i' := 0) (j' := (211 + 20 * (Z 2 0 0 102))) hZ20 (fun q => absurd q.2.2.2 (by omega))).trans (zu_at hZ15)
  have hZ23I := zM_np2 hZ20I hZ23 (p := (Z 2 0 0 102)) (by omega) (by omega) (by omega)
  have hZ23U : zU [] Z Z23 := zU_u hZ20U hZ23 (Or.inl rfl)
  have hZ23K : zC [2] Z Z23 := zC_u hZ20K hZ23 (by decide)
  intro μ9 e9
  replace e9 := e9.trans (zm_wI (Z := Z20) (ν := ν) hZ23 (show ((0 : Nat) : Int) = 0 from rfl) (show ((0 : Nat) : Int) = 0 from rfl) (show ((102 : Nat) : Int) = 102 from rfl) (i3A (zm_rd (Z := Z20) (ν := ν) (k := 2) (show ((0 : Nat) : Int) = 0 from rfl) (show ((0 : Nat) : Int) = 0 from rfl) (show ((102 : Nat) : Int) = 102 from rfl)) (show (1 : Int32) = i3 1 from rfl)))
  subst e9
  have r27 := zM_k hZ23I 2 0 0 102 (lo := 0) (hi := 48) (by decide) rfl
  have q28 := zu_at hZ23
  exact zlW hP (rfl : i3 (Z 2 0 0 102) = i3 (Z 2 0 0 102)) ⟨hZ23I, hZ23K, hZ23U, by omega, by omega, by omega⟩
/- yX12_deliver -/
def zy_335 (Z : qz_Z) (dm : qz_Z → Int → Int → Int → Int → Int → Int → Int → qz_Z) (a1 : Int) (a2 : Int) (a3 : Int) (a4 : Int) (a5 : Int) : qz_Z × Int := (if a1 < 0 then (zlet (zu Z 1 0 0 2 1) (fun Z5 => (Z5, 0))) else (if ((Z 2 0 0 101) - 1) < a1 then (zlet (zu Z 1 0 0 2 1) (fun Z8 => (Z8, 0))) else (if a2 < 0 then (zlet (zu Z 1 0 0 2 1) (fun Z10 => (Z10, 0))) else (if ((Z 2 0 0 100) - 1) < a2 then (zlet (zu Z 1 0 0 2 1) (fun Z13 => (Z13, 0))) else (zlet (zu Z 1 0 0 2 0) (fun Z14 => (if a3 < 1 then (zlet (zu Z14 1 0 0 2 2) (fun Z16 => (Z16, 0))) else (if 40 < a3 then (zlet (zu Z14 1 0 0 2 2) (fun Z18 => (Z18, 0))) else (if a4 < 0 then (zlet (zu Z14 1 0 0 2 2) (fun Z20 => (Z20, 0))) else (if 2000 < a4 then (zlet (zu Z14 1 0 0 2 2) (fun Z22 => (Z22, 0))) else (if a5 < 0 then (zlet (zu Z14 1 0 0 2 2) (fun Z24 => (Z24, 0))) else (if a3 < a5 then (zlet (zu Z14 1 0 0 2 2) (fun Z26 => (Z26, 0))) else (zlet (zu Z14 1 0 0 2 0) (fun Z27 => (if 48 ≤ (Z27 2 0 0 102) then (zlet (zu Z27 1 0 0 2 3) (fun Z30 => (Z30, 0))) else (zlet (zf_321 Z27) (fun v31 => (if v31 ≤ 0 then (zlet (zu Z27 1 0 0 2 3) (fun Z33 => (Z33, 0))) else (zlet (zu Z27 1 0 0 2 0) (fun Z34 => (zlet (dm Z34 3 a1 a2 a3 a4 a5 0) (fun Z41 => (zlet2 (zf_327 Z41 a1 a2 a3 a4 a5 (-1)) (fun Z44 v45 => (Z44, v45)))))))))))))))))))))))))
theorem sy_335 {s : zSM} {Z : qz_Z} {ν : qz_N} (hZ : zM s Z) (gq : Z 1 0 0 35 = 0) (hM : s.2 + 0 ≤ 1000000000) {a1 : Int} (ga1 : -2147483648 ≤ a1 ∧ a1 ≤ 2147483647) {a2 : Int} (ga2 : -2147483648 ≤ a2 ∧ a2 ≤ 2147483647) {a3 : Int} (ga3 : -2147483648 ≤ a3 ∧ a3 ≤ 2147483647) {a4 : Int} (ga4 : -2147483648 ≤ a4 ∧ a4 ≤ 2147483647) {a5 : Int} (ga5 : -2147483648 ≤ a5 ∧ a5 ≤ 2147483647) {dk : qz_Z → qz_Z} {dm : qz_Z → Int → Int → Int → Int → Int → Int → Int → qz_Z} {ν1 : qz_N} (hdm : zDm s ν ν1 Z dk dm) : ∃ (Z1 : qz_Z) (ν2 : qz_N) (v : Int), (Z1, v) = zy_335 Z dm a1 a2 a3 a4 a5 ∧ (ν2 = ν ∨ ν2 = ν1) ∧ qf_335 [.inr (.inr (some (1, 0, 0))), .inl (i3 a1), .inl (i3 a2), .inl (i3 a3), .inl (i3 a4), .inl (i3 a5)] (zm Z ν) = some (zm Z1 ν2, .inl (some (.inl (i3 v)))) ∧ (fun Z1 => zM s Z1 ∧ zC [1, 2, 101, 102, 200] Z Z1 ∧ zU [] Z Z1) Z1 := by
  obtain ⟨P, hP⟩ := zx (zy_335 Z dm a1 a2 a3 a4 a5)
  refine zc_Y (Q := fun Z1 => zM s Z1 ∧ zC [1, 2, 101, 102, 200] Z Z1 ∧ zU [] Z Z1) hP (fw_335 (i3 a1) (i3 a2) (i3 a3) (i3 a4) (i3 a5) _ _ ?_)
  replace hP : zE P (zy_335 Z dm a1 a2 a3 a4 a5) := hP
  unfold zy_335 at hP
  have r1 := zM_k hZ 1 0 0 35 (lo := 0) (hi := 1) (by decide) rfl
  have r2 := zM_k hZ 1 0 0 34 (lo := 0) (hi := 8) (by decide) rfl
  have r3 := zM_f hZ 1 0 0 37
  refine wz_br (i3L (rfl : i3 a1 = i3 a1) (show (0 : Int32) = i3 0 from rfl) (by omega) (by omega) (by omega) (by omega)) (fun h4 => ?_) (fun h4 => ?_)
  · replace hP := zE_p hP h4
    obtain ⟨Z5, hZ5⟩ := zx (zu Z 1 0 0 2 1)
    replace hP := zl_e hP hZ5
    have hZ5I := zM_u hZ hZ5 (lo := -2147483648) (hi := 2147483647) (by decide) rfl (by omega) ⟨by decide, by decide⟩ (Or.inr (by decide)) rfl
    have hZ5U : zU [] Z Z5 := zU_u zU_r hZ5 (Or.inl rfl)
    have hZ5K : zC [1, 2, 101, 102, 200] Z Z5 := zC_u zC_r hZ5 (by decide)
    intro μ9 e9
    replace e9 := e9.trans (zm_wI (Z := Z) (ν := ν) hZ5 (show ((0 : Nat) : Int) = 0 from rfl) (show ((0 : Nat) : Int) = 0 from rfl) (show ((2 : Nat) : Int) = 2 from rfl) (show (1 : Int32) = i3 1 from rfl))
    subst e9
    exact zlY hP (show (0 : Int32) = i3 0 from rfl) (.inl rfl) ⟨hZ5I, hZ5K, hZ5U⟩
  · replace hP := zE_n hP h4
    have r6 := zM_k hZ 2 0 0 101 (lo := 0) (hi := 6) (by decide) rfl
    refine wz_br (i3L (i3S (zm_rd (Z := Z) (ν := ν) (k := 2) (show ((0 : Nat) : Int) = 0 from rfl) (show ((0 : Nat) : Int) = 0 from rfl) (show ((101 : Nat) : Int) = 101 from rfl)) (show (1 : Int32) = i3 1 from rfl)) (rfl : i3 a1 = i3 a1) (by omega) (by omega) (by omega) (by omega)) (fun h7 => ?_) (fun h7 => ?_)
    · replace hP := zE_p hP h7
      obtain ⟨Z8, hZ8⟩ := zx (zu Z 1 0 0 2 1)
      replace hP := zl_e hP hZ8
      have hZ8I := zM_u hZ hZ8 (lo := -2147483648) (hi := 2147483647) (by decide) rfl (by omega) ⟨by decide, by decide⟩ (Or.inr (by decide)) rfl
      have hZ8U : zU [] Z Z8 := zU_u zU_r hZ8 (Or.inl rfl)
      have hZ8K : zC [1, 2, 101, 102, 200] Z Z8 := zC_u zC_r hZ8 (by decide)
      intro μ9 e9
      replace e9 := e9.trans (zm_wI (Z := Z) (ν := ν) hZ8 (show ((0 : Nat) : Int) = 0 from rfl) (show ((0 : Nat) : Int) = 0 from rfl) (show ((2 : Nat) : Int) = 2 from rfl) (show (1 : Int32) = i3 1 from rfl))
      subst e9
      exact zlY hP (show (0 : Int32) = i3 0 from rfl) (.inl rfl) ⟨hZ8I, hZ8K, hZ8U⟩
    · replace hP := zE_n hP h7
      refine wz_br (i3L (rfl : i3 a2 = i3 a2) (show (0 : Int32) = i3 0 from rfl) (by omega) (by omega) (by omega) (by omega)) (fun h9 => ?_) (fun h9 => ?_)
      · replace hP := zE_p hP h9
        obtain ⟨Z10, hZ10⟩ := zx (zu Z 1 0 0 2 1)
        replace hP := zl_e hP hZ10
        have hZ10I := zM_u hZ hZ10 (lo := -2147483648) (hi := 2147483647) (by decide) rfl (by omega) ⟨by decide, by decide⟩ (Or.inr (by decide)) rfl
        have hZ10U : zU [] Z Z10 := zU_u zU_r hZ10 (Or.inl rfl)
        have hZ10K : zC [1, 2, 101, 102, 200] Z Z10 := zC_u zC_r hZ10 (by decide)
        intro μ9 e9
        replace e9 := e9.trans (zm_wI (Z := Z) (ν := ν) hZ10 (show ((0 : Nat) : Int) = 0 from rfl) (show ((0 : Nat) : Int) = 0 from rfl) (show ((2 : Nat) : Int) = 2 from rfl) (show (1 : Int32) = i3 1 from rfl))
        subst e9
        exact zlY hP (show (0 : Int32) = i3 0 from rfl) (.inl rfl) ⟨hZ10I, hZ10K, hZ10U⟩
      · replace hP := zE_n hP h9
        have r11 := zM_k hZ 2 0 0 100 (lo := 0) (hi := 5) (by decide) rfl
        refine wz_br (i3L (i3S (zm_rd (Z := Z) (ν := ν) (k := 2) (show ((0 : Nat) : Int) = 0 from rfl) (show ((0 : Nat) : Int) = 0 from rfl) (show ((100 : Nat) : Int) = 100 from rfl)) (show (1 : Int32) = i3 1 from rfl)) (rfl : i3 a2 = i3 a2) (by omega) (by omega) (by omega) (by omega)) (fun h12 => ?_) (fun h12 => ?_)
        · replace hP := zE_p hP h12
          obtain ⟨Z13, hZ13⟩ := zx (zu Z 1 0 0 2 1)
          replace hP := zl_e hP hZ13
          have hZ13I := zM_u hZ hZ13 (lo := -2147483648) (hi := 2147483647) (by decide) rfl (by omega) ⟨by decide, by decide⟩ (Or.inr (by decide)) rfl
          have hZ13U : zU [] Z Z13 := zU_u zU_r hZ13 (Or.inl rfl)
          have hZ13K : zC [1, 2, 101, 102, 200] Z Z13 := zC_u zC_r hZ13 (by decide)
          intro μ9 e9
          replace e9 := e9.trans (zm_wI (Z := Z) (ν := ν) hZ13 (show ((0 : Nat) : Int) = 0 from rfl) (show ((0 : Nat) : Int) = 0 from rfl) (show ((2 : Nat) : Int) = 2 from rfl) (show (1 : Int32) = i3 1 from rfl))
          subst e9
          exact zlY hP (show (0 : Int32) = i3 0 from rfl) (.inl rfl) ⟨hZ13I, hZ13K, hZ13U⟩
        · replace hP := zE_n hP h12
          obtain ⟨Z14, hZ14⟩ := zx (zu Z 1 0 0 2 0)
          replace hP := zl_e hP hZ14
          have hZ14I := zM_0 hZ hZ14 (by decide) (Or.inr (by decide))
          have hZ14U : zU [] Z Z14 := zU_u zU_r hZ14 (Or.inl rfl)
          have hZ14K : zC [1, 2, 101, 102, 200] Z Z14 := zC_u zC_r hZ14 (by decide)
          intro μ9 e9
          replace e9 := e9.trans (zm_wI (Z := Z) (ν := ν) hZ14 (show ((0 : Nat) : Int) = 0 from rfl) (show ((0 : Nat) : Int) = 0 from rfl) (show ((2 : Nat) : Int) = 2 from rfl) (show (0 : Int32) = i3 0 from rfl))
          subst e9
          refine wz_br (i3L (rfl : i3 a3 = i3 a3) (show (1 : Int32) = i3 1 from rfl) (by omega) (by omega) (by omega) (by omega)) (fun h15 => ?_) (fun h15 => ?_)
          · replace hP := zE_p hP h15
            obtain ⟨Z16, hZ16⟩ := zx (zu Z14 1 0 0 2 2)
            replace hP := zl_e hP hZ16
            have hZ16I := zM_u hZ14I hZ16 (lo := -2147483648) (hi := 2147483647) (by decide) rfl (by omega) ⟨by decide, by decide⟩ (Or.inr (by decide)) rfl
            have hZ16U : zU [] Z Z16 := zU_u hZ14U hZ16 (Or.inl rfl)
            have hZ16K : zC [1, 2, 101, 102, 200] Z Z16 := zC_u hZ14K hZ16 (by decide)
            intro μ9 e9
            replace e9 := e9.trans (zm_wI (Z := Z14) (ν := ν) hZ16 (show ((0 : Nat) : Int) = 0 from rfl) (show ((0 : Nat) : Int) = 0 from rfl) (show ((2 : Nat) : Int) = 2 from rfl) (show (2 : Int32) = i3 2 from rfl))
            subst e9
            exact zlY hP (show (0 : Int32) = i3 0 from rfl) (.inl rfl) ⟨hZ16I, hZ16K, hZ16U⟩
          · replace hP := zE_n hP h15
            refine wz_br (i3L (show (40 : Int32) = i3 40 from rfl) (rfl : i3 a3 = i3 a3) (by omega) (by omega) (by omega) (by omega)) (fun h17 => ?_) (fun h17 => ?_)
            · replace hP := zE_p hP h17
              obtain ⟨Z18, hZ18⟩ := zx (zu Z14 1 0 0 2 2)
              replace hP := zl_e hP hZ18
              have hZ18I := zM_u hZ14I hZ18 (lo := -2147483648) (hi := 2147483647) (by decide) rfl (by omega) ⟨by decide, by decide⟩ (Or.inr (by decide)) rfl
              have hZ18U : zU [] Z Z18 := zU_u hZ14U hZ18 (Or.inl rfl)
              have hZ18K : zC [1, 2, 101, 102, 200] Z Z18 := zC_u hZ14K hZ18 (by decide)
              intro μ9 e9
              replace e9 := e9.trans (zm_wI (Z := Z14) (ν := ν) hZ18 (show ((0 : Nat) : Int) = 0 from rfl) (show ((0 : Nat) : Int) = 0 from rfl) (show ((2 : Nat) : Int) = 2 from rfl) (show (2 : Int32) = i3 2 from rfl))
              subst e9
              exact zlY hP (show (0 : Int32) = i3 0 from rfl) (.inl rfl) ⟨hZ18I, hZ18K, hZ18U⟩
            · replace hP := zE_n hP h17
              refine wz_br (i3L (rfl : i3 a4 = i3 a4) (show (0 : Int32) = i3 0 from rfl) (by omega) (by omega) (by omega) (by omega)) (fun h19 => ?_) (fun h19 => ?_)
              · replace hP := zE_p hP h19
                obtain ⟨Z20, hZ20⟩ := zx (zu Z14 1 0 0 2 2)
                replace hP := zl_e hP hZ20
                have hZ20I := zM_u hZ14I hZ20 (lo := -2147483648) (hi := 2147483647) (by decide) rfl (by omega) ⟨by decide, by decide⟩ (Or.inr (by decide)) rfl
                have hZ20U : zU [] Z Z20 := zU_u hZ14U hZ20 (Or.inl rfl)
                have hZ20K : zC [1, 2, 101, 102, 200] Z Z20 := zC_u hZ14K hZ20 (by decide)
                intro μ9 e9
                replace e9 := e9.trans (zm_wI (Z := Z14) (ν := ν) hZ20 (show ((0 : Nat) : Int) = 0 from rfl) (show ((0 : Nat) : Int) = 0 from rfl) (show ((2 : Nat) : Int) = 2 from rfl) (show (2 : Int32) = i3 2 from rfl))
                subst e9
                exact zlY hP (show (0 : Int32) = i3 0 from rfl) (.inl rfl) ⟨hZ20I, hZ20K, hZ20U⟩
              · replace hP := zE_n hP h19
                refine wz_br (i3L (show (2000 : Int32) = i3 2000 from rfl) (rfl : i3 a4 = i3 a4) (by omega) (by omega) (by omega) (by omega)) (fun h21 => ?_) (fun h21 => ?_)
                · replace hP := zE_p hP h21
                  obtain ⟨Z22, hZ22⟩ := zx (zu Z14 1 0 0 2 2)
                  replace hP := zl_e hP hZ22
                  have hZ22I := zM_u hZ14I hZ22 (lo := -2147483648) (hi := 2147483647) (by decide) rfl (by omega) ⟨by decide, by decide⟩ (Or.inr (by decide)) rfl
                  have hZ22U : zU [] Z Z22 := zU_u hZ14U hZ22 (Or.inl rfl)
                  have hZ22K : zC [1, 2, 101, 102, 200] Z Z22 := zC_u hZ14K hZ22 (by decide)
                  intro μ9 e9
                  replace e9 := e9.trans (zm_wI (Z := Z14) (ν := ν) hZ22 (show ((0 : Nat) : Int) = 0 from rfl) (show ((0 : Nat) : Int) = 0 from rfl) (show ((2 : Nat) : Int) = 2 from rfl) (show (2 : Int32) = i3 2 from rfl))
                  subst e9
                  exact zlY hP (show (0 : Int32) = i3 0 from rfl) (.inl rfl) ⟨hZ22I, hZ22K, hZ22U⟩
                · replace hP := zE_n hP h21
                  refine wz_br (i3L (rfl : i3 a5 = i3 a5) (show (0 : Int32) = i3 0 from rfl) (by omega) (by omega) (by omega) (by omega)) (fun h23 => ?_) (fun h23 => ?_)
                  · replace hP := zE_p hP h23
                    obtain ⟨Z24, hZ24⟩ := zx (zu Z14 1 0 0 2 2)
                    replace hP := zl_e hP hZ24
                    have hZ24I := zM_u hZ14I hZ24 (lo := -2147483648) (hi := 2147483647) (by decide) rfl (by omega) ⟨by decide, by decide⟩ (Or.inr (by decide)) rfl
                    have hZ24U : zU [] Z Z24 := zU_u hZ14U hZ24 (Or.inl rfl)
                    have hZ24K : zC [1, 2, 101, 102, 200] Z Z24 := zC_u hZ14K hZ24 (by decide)
                    intro μ9 e9
                    replace e9 := e9.trans (zm_wI (Z := Z14) (ν := ν) hZ24 (show ((0 : Nat) : Int) = 0 from rfl) (show ((0 : Nat) : Int) = 0 from rfl) (show ((2 : Nat) : Int) = 2 from rfl) (show (2 : Int32) = i3 2 from rfl))
                    subst e9
                    exact zlY hP (show (0 : Int32) = i3 0 from rfl) (.inl rfl) ⟨hZ24I, hZ24K, hZ24U⟩
                  · replace hP := zE_n hP h23
                    refine wz_br (i3L (rfl : i3 a3 = i3 a3) (rfl : i3 a5 = i3 a5) (by omega) (by omega) (by omega) (by omega)) (fun h25 => ?_) (fun h25 => ?_)
                    · replace hP := zE_p hP h25
                      obtain ⟨Z26, hZ26⟩ := zx (zu Z14 1 0 0 2 2)
                      replace hP := zl_e hP hZ26
                      have hZ26I := zM_u hZ14I hZ26 (lo := -2147483648) (hi := 2147483647) (by decide) rfl (by omega) ⟨by decide, by decide⟩ (Or.inr (by decide)) rfl
                      have hZ26U : zU [] Z Z26 := zU_u hZ14U hZ26 (Or.inl rfl)
                      have hZ26K : zC [1, 2, 101, 102, 200] Z Z26 := zC_u hZ14K hZ26 (by decide)
                      intro μ9 e9
                      replace e9 := e9.trans (zm_wI (Z := Z14) (ν := ν) hZ26 (show ((0 : Nat) : Int) = 0 from rfl) (show ((0 : Nat) : Int) = 0 from rfl) (show ((2 : Nat) : Int) = 2 from rfl) (show (2 : Int32) = i3 2 from rfl))
                      subst e9
                      exact zlY hP (show (0 : Int32) = i3 0 from rfl) (.inl rfl) ⟨hZ26I, hZ26K, hZ26U⟩
                    · replace hP := zE_n hP h25
                      obtain ⟨Z27, hZ27⟩ := zx (zu Z14 1 0 0 2 0)
                      replace hP := zl_e hP hZ27
                      have hZ27I := zM_0 hZ14I hZ27 (by decide) (Or.inr (by decide))
                      have hZ27U : zU [] Z Z27 := zU_u hZ14U hZ27 (Or.inl rfl)
                      have hZ27K : zC [1, 2, 101, 102, 200] Z Z27 := zC_u hZ14K hZ27 (by decide)
                      intro μ9 e9
                      replace e9 := e9.trans (zm_wI (Z := Z14) (ν := ν) hZ27 (show ((0 : Nat) : Int) = 0 from rfl) (show ((0 : Nat) : Int) = 0 from rfl) (show ((2 : Nat) : Int) = 2 from rfl) (show (0 : Int32) = i3 0 from rfl))
                      subst e9
                      have r28 := zM_k hZ27I 2 0 0 102 (lo := 0) (hi := 48) (by decide) rfl
                      refine wz_br (i3Le (show (48 : Int32) = i3 48 from rfl) (zm_rd (Z := Z27) (ν := ν) (k := 2) (show ((0 : Nat) : Int) = 0 from rfl) (show ((0 : Nat) : Int) = 0 from rfl) (show ((102 : Nat) : Int) = 102 from rfl)) (by omega) (by omega) (by omega) (by omega)) (fun h29 => ?_) (fun h29 => ?_)
                      · replace hP := zE_p hP h29
                        obtain ⟨Z30, hZ30⟩ := zx (zu Z27 1 0 0 2 3)
                        replace hP := zl_e hP hZ30
                        have hZ30I := zM_u hZ27I hZ30 (lo := -2147483648) (hi := 2147483647) (by decide) rfl (by omega) ⟨by decide, by decide⟩ (Or.inr (by decide)) rfl
                        have hZ30U : zU [] Z Z30 := zU_u hZ27U hZ30 (Or.inl rfl)
                        have hZ30K : zC [1, 2, 101, 102, 200] Z Z30 := zC_u hZ27K hZ30 (by decide)
                        intro μ9 e9
                        replace e9 := e9.trans (zm_wI (Z := Z27) (ν := ν) hZ30 (show ((0 : Nat) : Int) = 0 from rfl) (show ((0 : Nat) : Int) = 0 from rfl) (show ((2 : Nat) : Int) = 2 from rfl) (show (3 : Int32) = i3 3 from rfl))
                        subst e9
                        exact zlY hP (show (0 : Int32) = i3 0 from rfl) (.inl rfl) ⟨hZ30I, hZ30K, hZ30U⟩
                      · replace hP := zE_n hP h29
                        obtain ⟨v31, hv31, c9, lv31, uv31⟩ := sp_321 (ν := ν) hZ27I (zbh (c := 0) (k := 0) hM (Nat.le_of_ble_eq_true rfl))
                        replace hP := zl_e hP hv31
                        refine wz_cI_of (zas (zcons rfl rfl) c9) ?_
                        clear c9
                        refine wz_br (i3Le (rfl : i3 v31 = i3 v31) (show (0 : Int32) = i3 0 from rfl) (by omega) (by omega) (by omega) (by omega)) (fun h32 => ?_) (fun h32 => ?_)
                        · replace hP := zE_p hP h32
                          obtain ⟨Z33, hZ33⟩ := zx (zu Z27 1 0 0 2 3)
                          replace hP := zl_e hP hZ33
                          have hZ33I := zM_u hZ27I hZ33 (lo := -2147483648) (hi := 2147483647) (by decide) rfl (by omega) ⟨by decide, by decide⟩ (Or.inr (by decide)) rfl
                          have hZ33U : zU [] Z Z33 := zU_u hZ27U hZ33 (Or.inl rfl)
                          have hZ33K : zC [1, 2, 101, 102, 200] Z Z33 := zC_u hZ27K hZ33 (by decide)
                          intro μ9 e9
                          replace e9 := e9.trans (zm_wI (Z := Z27) (ν := ν) hZ33 (show ((0 : Nat) : Int) = 0 from rfl) (show ((0 : Nat) : Int) = 0 from rfl) (show ((2 : Nat) : Int) = 2 from rfl) (show (3 : Int32) = i3 3 from rfl))
                          subst e9
                          exact zlY hP (show (0 : Int32) = i3 0 from rfl) (.inl rfl) ⟨hZ33I, hZ33K, hZ33U⟩
                        · replace hP := zE_n hP h32
                          obtain ⟨Z34, hZ34⟩ := zx (zu Z27 1 0 0 2 0)
                          replace hP := zl_e hP hZ34
                          have hZ34I := zM_0 hZ27I hZ34 (by decide) (Or.inr (by decide))
                          have hZ34U : zU [] Z Z34 := zU_u hZ27U hZ34 (Or.inl rfl)
                          have hZ34K : zC [1, 2, 101, 102, 200] Z Z34 := zC_u hZ27K hZ34 (by decide)
                          intro μ9 e9
                          replace e9 := e9.trans (zm_wI (Z := Z27) (ν := ν) hZ34 (show ((0 : Nat) : Int) = 0 from rfl) (show ((0 : Nat) : Int) = 0 from rfl) (show ((2 : Nat) : Int) = 2 from rfl) (show (0 : Int32) = i3 0 from rfl))
                          subst e9
                          have r35 := zM_k hZ34I 1 0 0 35 (lo := 0) (hi := 1) (by decide) rfl
                          have q36 := (zu_ne (k' := 1) (b' := 0) (i' := 0) (j' := 35) hZ34 (fun q => absurd q.2.2.2 (by decide))).trans ((zu_ne (k' := 1) (b' := 0) (i' := 0) (j' := 35) hZ27 (fun q => absurd q.2.2.2 (by decide))).trans (zu_ne (k' := 1) (b' := 0) (i' := 0) (j' := 35) hZ14 (fun q => absurd q.2.2.2 (by decide))))
                          refine wz_i0 (Eq.trans (i3NE (zm_rd (Z := Z34) (ν := ν) (k := 1) (show ((0 : Nat) : Int) = 0 from rfl) (show ((0 : Nat) : Int) = 0 from rfl) (show ((35 : Nat) : Int) = 35 from rfl)) (show (0 : Int32) = i3 0 from rfl) (by omega) (by omega) (by omega) (by omega)) (decide_eq_false (by omega))) ?_
                          have r37 := zM_k hZ34I 1 0 0 34 (lo := 0) (hi := 8) (by decide) rfl
                          have q38 := (zu_ne (k' := 1) (b' := 0) (i' := 0) (j' := 34) hZ34 (fun q => absurd q.2.2.2 (by decide))).trans ((zu_ne (k' := 1) (b' := 0) (i' := 0) (j' := 34) hZ27 (fun q => absurd q.2.2.2 (by decide))).trans (zu_ne (k' := 1) (b' := 0) (i' := 0) (j' := 34) hZ14 (fun q => absurd q.2.2.2 (by decide))))
                          have r39 := zM_f hZ34I 1 0 0 37
                          have q40 := (zu_ne (k' := 1) (b' := 0) (i' := 0) (j' := 37) hZ34 (fun q => absurd q.2.2.2 (by decide))).trans ((zu_ne (k' := 1) (b' := 0) (i' := 0) (j' := 37) hZ27 (fun q => absurd q.2.2.2 (by decide))).trans (zu_ne (k' := 1) (b' := 0) (i' := 0) (j' := 37) hZ14 (fun q => absurd q.2.2.2 (by decide))))
                          obtain ⟨c8, c9, hZ41I, dZ41⟩ := hdm Z34 3 a1 a2 a3 a4 a5 0 hZ34I (by omega) (by omega) (by omega) (by omega) (by omega) (by omega) (by omega) (by omega) (by omega) (by omega)
                          obtain ⟨Z41, hZ41⟩ := zx (dm Z34 3 a1 a2 a3 a4 a5 0)
                          rw [← hZ41] at c9 hZ41I dZ41
                          replace hP := zl_e hP hZ41
                          refine wz_cV_of (zas (zcons rfl (zcons (zvi (show (-1 : Int32) = i3 (-1) from rfl)) rfl)) c8) ?_
                          refine wz_cV_of (zas (zcons rfl (zcons (zvi (show (3 : Int32) = i3 3 from rfl)) (zcons (zvi (rfl : i3 a1 = i3 a1)) (zcons (zvi (rfl : i3 a2 = i3 a2)) (zcons (zvi (rfl : i3 a3 = i3 a3)) (zcons (zvi (rfl : i3 a4 = i3 a4)) (zcons (zvi (rfl : i3 a5 = i3 a5)) (zcons (zvi (show (0 : Int32) = i3 0 from rfl)) rfl)))))))) c9) ?_
                          clear c8 c9
                          have hZ41K : zC [1, 2, 101, 102, 200] Z Z41 := zC_t hZ34K (zMd_C dZ41) (by decide)
                          have hZ41U : zU [] Z Z41 := zU_t hZ34U (zMd_U dZ41) zU_b0
                          have r42 := zM_k hZ41I 2 0 0 102 (lo := 0) (hi := 48) (by decide) rfl
                          have q43 := (dZ41 2 0 0 102 (by simp)).trans (zu_ne (k' := 2) (b' := 0) (i' := 0) (j' := 102) hZ34 (fun q => absurd q.1 (by decide)))
                          obtain ⟨Z44, v45, hv45, c9, hZ44I, kZ44, jZ44, lv45, uv45, wv450⟩ := sp_327 (ν := ν1) hZ41I (a1 := a1) (by omega) (a2 := a2) (by omega) (a3 := a3) (by omega) (a4 := a4) (by omega) (a5 := a5) (by omega) (a6 := (-1)) (by omega) (by omega) (zbh (c := 0) (k := 0) hM (Nat.le_of_ble_eq_true rfl))
                          have hZ44U : zU [] Z Z44 := zU_t hZ41U jZ44 zU_b0
                          have hZ44K : zC [1, 2, 101, 102, 200] Z Z44 := zC_t hZ41K kZ44 (by decide)
                          replace hP := zl_e2 hP hv45
                          refine wz_cI_of (zas (zcons rfl (zcons (zvi (rfl : i3 a1 = i3 a1)) (zcons (zvi (rfl : i3 a2 = i3 a2)) (zcons (zvi (rfl : i3 a3 = i3 a3)) (zcons (zvi (rfl : i3 a4 = i3 a4)) (zcons (zvi (rfl : i3 a5 = i3 a5)) (zcons (zvi (show (-1 : Int32) = i3 (-1) from rfl)) rfl))))))) c9) ?_
                          clear c9 hv45
                          have r46 := zM_k hZ44I 2 0 0 102 (lo := 0) (hi := 48) (by decide) rfl
                          exact zlY hP (rfl : i3 v45 = i3 v45) (.inr rfl) ⟨hZ44I, hZ44K, hZ44U⟩

theorem sq_335 {s : zSM} {Z : qz_Z} {ν : qz_N} (hZ : zM s Z) (gq : Z 1 0 0 35 = 1) (hM : s.2 + 0 ≤ 1000000000) {a1 : Int} (ga1 : -2147483648 ≤ a1 ∧ a1 ≤ 2147483647) {a2 : Int} (ga2 : -2147483648 ≤ a2 ∧ a2 ≤ 2147483647) {a3 : Int} (ga3 : -2147483648 ≤ a3 ∧ a3 ≤ 2147483647) {a4 : Int} (ga4 : -2147483648 ≤ a4 ∧ a4 ≤ 2147483647) {a5 : Int} (ga5 : -2147483648 ≤ a5 ∧ a5 ≤ 2147483647) {ν1 : qz_N} : ∃ (Z1 : qz_Z) (ν2 : qz_N) (v : Int), (Z1, v) = zy_335 Z zq0 a1 a2 a3 a4 a5 ∧ (ν2 = ν ∨ ν2 = ν1) ∧ qf_335 [.inr (.inr (some (1, 0, 0))), .inl (i3 a1), .inl (i3 a2), .inl (i3 a3), .inl (i3 a4), .inl (i3 a5)] (zm Z ν) = some (zm Z1 ν2, .inl (some (.inl (i3 v)))) ∧ (fun Z1 => zM s Z1 ∧ zC [1, 2] Z Z1 ∧ zU [] Z Z1) Z1 := by
  obtain ⟨P, hP⟩ := zx (zy_335 Z zq0 a1 a2 a3 a4 a5)
  refine zc_Y (Q := fun Z1 => zM s Z1 ∧ zC [1, 2] Z Z1 ∧ zU [] Z Z1) hP (fw_335 (i3 a1) (i3 a2) (i3 a3) (i3 a4) (i3 a5) _ _ ?_)
  replace hP : zE P (zy_335 Z zq0 a1 a2 a3 a4 a5) := hP
  unfold zy_335 at hP
  have r1 := zM_k hZ 1 0 0 35 (lo := 0) (hi := 1) (by decide) rfl
  have r2 := zM_k hZ 1 0 0 34 (lo := 0) (hi := 8) (by decide) rfl
  have r3 := zM_f hZ 1 0 0 37
  refine wz_br (i3L (rfl : i3 a1 = i3 a1) (show (0 : Int32) = i3 0 from rfl) (by omega) (by omega) (by omega) (by omega)) (fun h4 => ?_) (fun h4 => ?_)
  · replace hP := zE_p hP h4
    obtain ⟨Z5, hZ5⟩ := zx (zu Z 1 0 0 2 1)
    replace hP := zl_e hP hZ5
    have hZ5I := zM_u hZ hZ5 (lo := -2147483648) (hi := 2147483647) (by decide) rfl (by omega) ⟨by decide, by decide⟩ (Or.inr (by decide)) rfl
    have hZ5U : zU [] Z Z5 := zU_u zU_r hZ5 (Or.inl rfl)
    have hZ5K : zC [1, 2] Z Z5 := zC_u zC_r hZ5 (by decide)
    intro μ9 e9
    replace e9 := e9.trans (zm_wI (Z := Z) (ν := ν) hZ5 (show ((0 : Nat) : Int) = 0 from rfl) (show ((0 : Nat) : Int) = 0 from rfl) (show ((2 : Nat) : Int) = 2 from rfl) (show (1 : Int32) = i3 1 from rfl))
    subst e9
    exact zlY hP (show (0 : Int32) = i3 0 from rfl) (.inl rfl) ⟨hZ5I, hZ5K, hZ5U⟩
  · replace hP := zE_n hP h4
    have r6 := zM_k hZ 2 0 0 101 (lo := 0) (hi := 6) (by decide) rfl
    refine wz_br (i3L (i3S (zm_rd (Z := Z) (ν := ν) (k := 2) (show ((0 : Nat) : Int) = 0 from rfl) (show ((0 : Nat) : Int) = 0 from rfl) (show ((101 : Nat) : Int) = 101 from rfl)) (show (1 : Int32) = i3 1 from rfl)) (rfl : i3 a1 = i3 a1) (by omega) (by omega) (by omega) (by omega)) (fun h7 => ?_) (fun h7 => ?_)
    · replace hP := zE_p hP h7
      obtain ⟨Z8, hZ8⟩ := zx (zu Z 1 0 0 2 1)
      replace hP := zl_e hP hZ8
      have hZ8I := zM_u hZ hZ8 (lo := -2147483648) (hi := 2147483647) (by decide) rfl (by omega) ⟨by decide, by decide⟩ (Or.inr (by decide)) rfl
      have hZ8U : zU [] Z Z8 := zU_u zU_r hZ8 (Or.inl rfl)
      have hZ8K : zC [1, 2] Z Z8 := zC_u zC_r hZ8 (by decide)
      intro μ9 e9
      replace e9 := e9.trans (zm_wI (Z := Z) (ν := ν) hZ8 (show ((0 : Nat) : Int) = 0 from rfl) (show ((0 : Nat) : Int) = 0 from rfl) (show ((2 : Nat) : Int) = 2 from rfl) (show (1 : Int32) = i3 1 from rfl))
      subst e9
      exact zlY hP (show (0 : Int32) = i3 0 from rfl) (.inl rfl) ⟨hZ8I, hZ8K, hZ8U⟩
    · replace hP := zE_n hP h7
      refine wz_br (i3L (rfl : i3 a2 = i3 a2) (show (0 : Int32) = i3 0 from rfl) (by omega) (by omega) (by omega) (by omega)) (fun h9 => ?_) (fun h9 => ?_)
      · replace hP := zE_p hP h9
        obtain ⟨Z10, hZ10⟩ := zx (zu Z 1 0 0 2 1)
        replace hP := zl_e hP hZ10
        have hZ10I := zM_u hZ hZ10 (lo := -2147483648) (hi := 2147483647) (by decide) rfl (by omega) ⟨by decide, by decide⟩ (Or.inr (by decide)) rfl
        have hZ10U : zU [] Z Z10 := zU_u zU_r hZ10 (Or.inl rfl)
        have hZ10K : zC [1, 2] Z Z10 := zC_u zC_r hZ10 (by decide)
        intro μ9 e9
        replace e9 := e9.trans (zm_wI (Z := Z) (ν := ν) hZ10 (show ((0 : Nat) : Int) = 0 from rfl) (show ((0 : Nat) : Int) = 0 from rfl) (show ((2 : Nat) : Int) = 2 from rfl) (show (1 : Int32) = i3 1 from rfl))
        subst e9
        exact zlY hP (show (0 : Int32) = i3 0 from rfl) (.inl rfl) ⟨hZ10I, hZ10K, hZ10U⟩
      · replace hP := zE_n hP h9
        have r11 := zM_k hZ 2 0 0 100 (lo := 0) (hi := 5) (by decide) rfl
        refine wz_br (i3L (i3S (zm_rd (Z := Z) (ν := ν) (k := 2) (show ((0 : Nat) : Int) = 0 from rfl) (show ((0 : Nat) : Int) = 0 from rfl) (show ((100 : Nat) : Int) = 100 from rfl)) (show (1 : Int32) = i3 1 from rfl)) (rfl : i3 a2 = i3 a2) (by omega) (by omega) (by omega) (by omega)) (fun h12 => ?_) (fun h12 => ?_)
        · replace hP := zE_p hP h12
          obtain ⟨Z13, hZ13⟩ := zx (zu Z 1 0 0 2 1)
          replace hP := zl_e hP hZ13
          have hZ13I := zM_u hZ hZ13 (lo := -2147483648) (hi := 2147483647) (by decide) rfl (by omega) ⟨by decide, by decide⟩ (Or.inr (by decide)) rfl
          have hZ13U : zU [] Z Z13 := zU_u zU_r hZ13 (Or.inl rfl)
          have hZ13K : zC [1, 2] Z Z13 := zC_u zC_r hZ13 (by decide)
          intro μ9 e9
          replace e9 := e9.trans (zm_wI (Z := Z) (ν := ν) hZ13 (show ((0 : Nat) : Int) = 0 from rfl) (show ((0 : Nat) : Int) = 0 from rfl) (show ((2 : Nat) : Int) = 2 from rfl) (show (1 : Int32) = i3 1 from rfl))
          subst e9
          exact zlY hP (show (0 : Int32) = i3 0 from rfl) (.inl rfl) ⟨hZ13I, hZ13K, hZ13U⟩
        · replace hP := zE_n hP h12
          obtain ⟨Z14, hZ14⟩ := zx (zu Z 1 0 0 2 0)
          replace hP := zl_e hP hZ14
          have hZ14I := zM_0 hZ hZ14 (by decide) (Or.inr (by decide))
          have hZ14U : zU [] Z Z14 := zU_u zU_r hZ14 (Or.inl rfl)
          have hZ14K : zC [1, 2] Z Z14 := zC_u zC_r hZ14 (by decide)
          intro μ9 e9
          replace e9 := e9.trans (zm_wI (Z := Z) (ν := ν) hZ14 (show ((0 : Nat) : Int) = 0 from rfl) (show ((0 : Nat) : Int) = 0 from rfl) (show ((2 : Nat) : Int) = 2 from rfl) (show (0 : Int32) = i3 0 from rfl))
          subst e9
          refine wz_br (i3L (rfl : i3 a3 = i3 a3) (show (1 : Int32) = i3 1 from rfl) (by omega) (by omega) (by omega) (by omega)) (fun h15 => ?_) (fun h15 => ?_)
          · replace hP := zE_p hP h15
            obtain ⟨Z16, hZ16⟩ := zx (zu Z14 1 0 0 2 2)
            replace hP := zl_e hP hZ16
            have hZ16I := zM_u hZ14I hZ16 (lo := -2147483648) (hi := 2147483647) (by decide) rfl (by omega) ⟨by decide, by decide⟩ (Or.inr (by decide)) rfl
            have hZ16U : zU [] Z Z16 := zU_u hZ14U hZ16 (Or.inl rfl)
            have hZ16K : zC [1, 2] Z Z16 := zC_u hZ14K hZ16 (by decide)
            intro μ9 e9
            replace e9 := e9.trans (zm_wI (Z := Z14) (ν := ν) hZ16 (show ((0 : Nat) : Int) = 0 from rfl) (show ((0 : Nat) : Int) = 0 from rfl) (show ((2 : Nat) : Int) = 2 from rfl) (show (2 : Int32) = i3 2 from rfl))
            subst e9
            exact zlY hP (show (0 : Int32) = i3 0 from rfl) (.inl rfl) ⟨hZ16I, hZ16K, hZ16U⟩
          · replace hP := zE_n hP h15
            refine wz_br (i3L (show (40 : Int32) = i3 40 from rfl) (rfl : i3 a3 = i3 a3) (by omega) (by omega) (by omega) (by omega)) (fun h17 => ?_) (fun h17 => ?_)
            · replace hP := zE_p hP h17
              obtain ⟨Z18, hZ18⟩ := zx (zu Z14 1 0 0 2 2)
              replace hP := zl_e hP hZ18
              have hZ18I := zM_u hZ14I hZ18 (lo := -2147483648) (hi := 2147483647) (by decide) rfl (by omega) ⟨by decide, by decide⟩ (Or.inr (by decide)) rfl
              have hZ18U : zU [] Z Z18 := zU_u hZ14U hZ18 (Or.inl rfl)
              have hZ18K : zC [1, 2] Z Z18 := zC_u hZ14K hZ18 (by decide)
              intro μ9 e9
              replace e9 := e9.trans (zm_wI (Z := Z14) (ν := ν) hZ18 (show ((0 : Nat) : Int) = 0 from rfl) (show ((0 : Nat) : Int) = 0 from rfl) (show ((2 : Nat) : Int) = 2 from rfl) (show (2 : Int32) = i3 2 from rfl))
              subst e9
              exact zlY hP (show (0 : Int32) = i3 0 from rfl) (.inl rfl) ⟨hZ18I, hZ18K, hZ18U⟩
            · replace hP := zE_n hP h17
              refine wz_br (i3L (rfl : i3 a4 = i3 a4) (show (0 : Int32) = i3 0 from rfl) (by omega) (by omega) (by omega) (by omega)) (fun h19 => ?_) (fun h19 => ?_)
              · replace hP := zE_p hP h19
                obtain ⟨Z20, hZ20⟩ := zx (zu Z14 1 0 0 2 2)
                replace hP := zl_e hP hZ20
                have hZ20I := zM_u hZ14I hZ20 (lo := -2147483648) (hi := 2147483647) (by decide) rfl (by omega) ⟨by decide, by decide⟩ (Or.inr (by decide)) rfl
                have hZ20U : zU [] Z Z20 := zU_u hZ14U hZ20 (Or.inl rfl)
                have hZ20K : zC [1, 2] Z Z20 := zC_u hZ14K hZ20 (by decide)
                intro μ9 e9
                replace e9 := e9.trans (zm_wI (Z := Z14) (ν := ν) hZ20 (show ((0 : Nat) : Int) = 0 from rfl) (show ((0 : Nat) : Int) = 0 from rfl) (show ((2 : Nat) : Int) = 2 from rfl) (show (2 : Int32) = i3 2 from rfl))
                subst e9
                exact zlY hP (show (0 : Int32) = i3 0 from rfl) (.inl rfl) ⟨hZ20I, hZ20K, hZ20U⟩
              · replace hP := zE_n hP h19
                refine wz_br (i3L (show (2000 : Int32) = i3 2000 from rfl) (rfl : i3 a4 = i3 a4) (by omega) (by omega) (by omega) (by omega)) (fun h21 => ?_) (fun h21 => ?_)
                · replace hP := zE_p hP h21
                  obtain ⟨Z22, hZ22⟩ := zx (zu Z14 1 0 0 2 2)
                  replace hP := zl_e hP hZ22
                  have hZ22I := zM_u hZ14I hZ22 (lo := -2147483648) (hi := 2147483647) (by decide) rfl (by omega) ⟨by decide, by decide⟩ (Or.inr (by decide)) rfl
                  have hZ22U : zU [] Z Z22 := zU_u hZ14U hZ22 (Or.inl rfl)
                  have hZ22K : zC [1, 2] Z Z22 := zC_u hZ14K hZ22 (by decide)
                  intro μ9 e9
                  replace e9 := e9.trans (zm_wI (Z := Z14) (ν := ν) hZ22 (show ((0 : Nat) : Int) = 0 from rfl) (show ((0 : Nat) : Int) = 0 from rfl) (show ((2 : Nat) : Int) = 2 from rfl) (show (2 : Int32) = i3 2 from rfl))
                  subst e9
                  exact zlY hP (show (0 : Int32) = i3 0 from rfl) (.inl rfl) ⟨hZ22I, hZ22K, hZ22U⟩
                · replace hP := zE_n hP h21
                  refine wz_br (i3L (rfl : i3 a5 = i3 a5) (show (0 : Int32) = i3 0 from rfl) (by omega) (by omega) (by omega) (by omega)) (fun h23 => ?_) (fun h23 => ?_)
                  · replace hP := zE_p hP h23
                    obtain ⟨Z24, hZ24⟩ := zx (zu Z14 1 0 0 2 2)
                    replace hP := zl_e hP hZ24
                    have hZ24I := zM_u hZ14I hZ24 (lo := -2147483648) (hi := 2147483647) (by decide) rfl (by omega) ⟨by decide, by decide⟩ (Or.inr (by decide)) rfl
                    have hZ24U : zU [] Z Z24 := zU_u hZ14U hZ24 (Or.inl rfl)
                    have hZ24K : zC [1, 2] Z Z24 := zC_u hZ14K hZ24 (by decide)
                    intro μ9 e9
                    replace e9 := e9.trans (zm_wI (Z := Z14) (ν := ν) hZ24 (show ((0 : Nat) : Int) = 0 from rfl) (show ((0 : Nat) : Int) = 0 from rfl) (show ((2 : Nat) : Int) = 2 from rfl) (show (2 : Int32) = i3 2 from rfl))
                    subst e9
                    exact zlY hP (show (0 : Int32) = i3 0 from rfl) (.inl rfl) ⟨hZ24I, hZ24K, hZ24U⟩
                  · replace hP := zE_n hP h23
                    refine wz_br (i3L (rfl : i3 a3 = i3 a3) (rfl : i3 a5 = i3 a5) (by omega) (by omega) (by omega) (by omega)) (fun h25 => ?_) (fun h25 => ?_)
                    · replace hP := zE_p hP h25
                      obtain ⟨Z26, hZ26⟩ := zx (zu Z14 1 0 0 2 2)
                      replace hP := zl_e hP hZ26
                      have hZ26I := zM_u hZ14I hZ26 (lo := -2147483648) (hi := 2147483647) (by decide) rfl (by omega) ⟨by decide, by decide⟩ (Or.inr (by decide)) rfl
                      have hZ26U : zU [] Z Z26 := zU_u hZ14U hZ26 (Or.inl rfl)
                      have hZ26K : zC [1, 2] Z Z26 := zC_u hZ14K hZ26 (by decide)
                      intro μ9 e9
                      replace e9 := e9.trans (zm_wI (Z := Z14) (ν := ν) hZ26 (show ((0 : Nat) : Int) = 0 from rfl) (show ((0 : Nat) : Int) = 0 from rfl) (show ((2 : Nat) : Int) = 2 from rfl) (show (2 : Int32) = i3 2 from rfl))
                      subst e9
                      exact zlY hP (show (0 : Int32) = i3 0 from rfl) (.inl rfl) ⟨hZ26I, hZ26K, hZ26U⟩
                    · replace hP := zE_n hP h25
                      obtain ⟨Z27, hZ27⟩ := zx (zu Z14 1 0 0 2 0)
                      replace hP := zl_e hP hZ27
                      have hZ27I := zM_0 hZ14I hZ27 (by decide) (Or.inr (by decide))
                      have hZ27U : zU [] Z Z27 := zU_u hZ14U hZ27 (Or.inl rfl)
                      have hZ27K : zC [1, 2] Z Z27 := zC_u hZ14K hZ27 (by decide)
                      intro μ9 e9
                      replace e9 := e9.trans (zm_wI (Z := Z14) (ν := ν) hZ27 (show ((0 : Nat) : Int) = 0 from rfl) (show ((0 : Nat) : Int) = 0 from rfl) (show ((2 : Nat) : Int) = 2 from rfl) (show (0 : Int32) = i3 0 from rfl))
                      subst e9
                      have r28 := zM_k hZ27I 2 0 0 102 (lo := 0) (hi := 48) (by decide) rfl
                      refine wz_br (i3Le (show (48 : Int32) = i3 48 from rfl) (zm_rd (Z := Z27) (ν := ν) (k := 2) (show ((0 : Nat) : Int) = 0 from rfl) (show ((0 : Nat) : Int) = 0 from rfl) (show ((102 : Nat) : Int) = 102 from rfl)) (by omega) (by omega) (by omega) (by omega)) (fun h29 => ?_) (fun h29 => ?_)
                      · replace hP := zE_p hP h29
                        obtain ⟨Z30, hZ30⟩ := zx (zu Z27 1 0 0 2 3)
                        replace hP := zl_e hP hZ30
                        have hZ30I := zM_u hZ27I hZ30 (lo := -2147483648) (hi := 2147483647) (by decide) rfl (by omega) ⟨by decide, by decide⟩ (Or.inr (by decide)) rfl
                        have hZ30U : zU [] Z Z30 := zU_u hZ27U hZ30 (Or.inl rfl)
                        have hZ30K : zC [1, 2] Z Z30 := zC_u hZ27K hZ30 (by decide)
                        intro μ9 e9
                        replace e9 := e9.trans (zm_wI (Z := Z27) (ν := ν) hZ30 (show ((0 : Nat) : Int) = 0 from rfl) (show ((0 : Nat) : Int) = 0 from rfl) (show ((2 : Nat) : Int) = 2 from rfl) (show (3 : Int32) = i3 3 from rfl))
                        subst e9
                        exact zlY hP (show (0 : Int32) = i3 0 from rfl) (.inl rfl) ⟨hZ30I, hZ30K, hZ30U⟩
                      · replace hP := zE_n hP h29
                        obtain ⟨v31, hv31, c9, lv31, uv31⟩ := sp_321 (ν := ν) hZ27I (zbh (c := 0) (k := 0) hM (Nat.le_of_ble_eq_true rfl))
                        replace hP := zl_e hP hv31
                        refine wz_cI_of (zas (zcons rfl rfl) c9) ?_
                        clear c9
                        refine wz_br (i3Le (rfl : i3 v31 = i3 v31) (show (0 : Int32) = i3 0 from rfl) (by omega) (by omega) (by omega) (by omega)) (fun h32 => ?_) (fun h32 => ?_)
                        · replace hP := zE_p hP h32
                          obtain ⟨Z33, hZ33⟩ := zx (zu Z27 1 0 0 2 3)
                          replace hP := zl_e hP hZ33
                          have hZ33I := zM_u hZ27I hZ33 (lo := -2147483648) (hi := 2147483647) (by decide) rfl (by omega) ⟨by decide, by decide⟩ (Or.inr (by decide)) rfl
                          have hZ33U : zU [] Z Z33 := zU_u hZ27U hZ33 (Or.inl rfl)
                          have hZ33K : zC [1, 2] Z Z33 := zC_u hZ27K hZ33 (by decide)
                          intro μ9 e9
                          replace e9 := e9.trans (zm_wI (Z := Z27) (ν := ν) hZ33 (show ((0 : Nat) : Int) = 0 from rfl) (show ((0 : Nat) : Int) = 0 from rfl) (show ((2 : Nat) : Int) = 2 from rfl) (show (3 : Int32) = i3 3 from rfl))
                          subst e9
                          exact zlY hP (show (0 : Int32) = i3 0 from rfl) (.inl rfl) ⟨hZ33I, hZ33K, hZ33U⟩
                        · replace hP := zE_n hP h32
                          obtain ⟨Z34, hZ34⟩ := zx (zu Z27 1 0 0 2 0)
                          replace hP := zl_e hP hZ34
                          have hZ34I := zM_0 hZ27I hZ34 (by decide) (Or.inr (by decide))
                          have hZ34U : zU [] Z Z34 := zU_u hZ27U hZ34 (Or.inl rfl)
                          have hZ34K : zC [1, 2] Z Z34 := zC_u hZ27K hZ34 (by decide)
                          intro μ9 e9
                          replace e9 := e9.trans (zm_wI (Z := Z27) (ν := ν) hZ34 (show ((0 : Nat) : Int) = 0 from rfl) (show ((0 : Nat) : Int) = 0 from rfl) (show ((2 : Nat) : Int) = 2 from rfl) (show (0 : Int32) = i3 0 from rfl))
                          subst e9
                          have r35 := zM_k hZ34I 1 0 0 35 (lo := 0) (hi := 1) (by decide) rfl
                          have q36 := (zu_ne (k' := 1) (b' := 0) (i' := 0) (j' := 35) hZ34 (fun q => absurd q.2.2.2 (by decide))).trans ((zu_ne (k' := 1) (b' := 0) (i' := 0) (j' := 35) hZ27 (fun q => absurd q.2.2.2 (by decide))).trans (zu_ne (k' := 1) (b' := 0) (i' := 0) (j' := 35) hZ14 (fun q => absurd q.2.2.2 (by decide))))
                          refine wz_i1 (Eq.trans (i3NE (zm_rd (Z := Z34) (ν := ν) (k := 1) (show ((0 : Nat) : Int) = 0 from rfl) (show ((0 : Nat) : Int) = 0 from rfl) (show ((35 : Nat) : Int) = 35 from rfl)) (show (0 : Int32) = i3 0 from rfl) (by omega) (by omega) (by omega) (by omega)) (decide_eq_true (by omega))) ?_
                          replace hP := zl_q hP (rfl : _ = Z34)
                          have r37 := zM_k hZ34I 2 0 0 102 (lo := 0) (hi := 48) (by decide) rfl
                          have q38 := zu_ne (k' := 2) (b' := 0) (i' := 0) (j' := 102) hZ34 (fun q => absurd q.1 (by decide))
                          obtain ⟨Z39, v40, hv40, c9, hZ39I, kZ39, jZ39, lv40, uv40, wv400⟩ := sp_327 (ν := ν) hZ34I (a1 := a1) (by omega) (a2 := a2) (by omega) (a3 := a3) (by omega) (a4 := a4) (by omega) (a5 := a5) (by omega) (a6 := (-1)) (by omega) (by omega) (zbh (c := 0) (k := 0) hM (Nat.le_of_ble_eq_true rfl))
                          have hZ39U : zU [] Z Z39 := zU_t hZ34U jZ39 zU_b0
                          have hZ39K : zC [1, 2] Z Z39 := zC_t hZ34K kZ39 (by decide)
                          replace hP := zl_e2 hP hv40
                          refine wz_cI_of (zas (zcons rfl (zcons (zvi (rfl : i3 a1 = i3 a1)) (zcons (zvi (rfl : i3 a2 = i3 a2)) (zcons (zvi (rfl : i3 a3 = i3 a3)) (zcons (zvi (rfl : i3 a4 = i3 a4)) (zcons (zvi (rfl : i3 a5 = i3 a5)) (zcons (zvi (show (-1 : Int32) = i3 (-1) from rfl)) rfl))))))) c9) ?_
                          clear c9 hv40
                          have r41 := zM_k hZ39I 2 0 0 102 (lo := 0) (hi := 48) (by decide) rfl
                          exact zlY hP (rfl : i3 v40 = i3 v40) (.inl rfl) ⟨hZ39I, hZ39K, hZ39U⟩
/- yX12_tLoad -/
def zl_518_1 (x1 : Int) (x2 : Int) : Nat → qz_Z → Int → Int → Int × Int
  | 0, Z, x3, x4 => (x3, x4)
  | m + 1, Z, x3, x4 => (if (Z 2 0 0 2000) ≤ x4 then (x3, x4) else (if (Z 2 0 0 (2019 + 16 * x4)) ≠ 1 then zl_518_1 x1 x2 m Z (x3 + 0) (x4 + 1) else (if (Z 2 0 0 (2020 + 16 * x4)) ≠ x1 then zl_518_1 x1 x2 m Z (x3 + 0) (x4 + 1) else (if x2 = 0 then zl_518_1 x1 x2 m Z (w3 (x3 + 1)) (x4 + 1) else zl_518_1 x1 x2 m Z (w3 (x3 + (Z 2 0 0 (2013 + 16 * x4)))) (x4 + 1)))))
theorem sl_518_1 {s : zSM} {Z : qz_Z} {ν : qz_N} (hZ : zM s Z) (hM : s.2 + 0 ≤ 1000000000) {x1 : Int} (gx1 : 0 ≤ x1 ∧ x1 ≤ 3) {x2 : Int} (gx2 : 0 ≤ x2 ∧ x2 ≤ 1) {x3 : Int} (gx3 : -2147483648 ≤ x3 ∧ x3 ≤ 2147483647) {x4 : Int} (gx4 : 0 ≤ x4 ∧ x4 ≤ 60) {k : wz_K} {R : wz_R} {L : qz_L} (hL : qz_fg [true, true, true, true, true] L = [some (.inr (.inr (some (1, 0, 0)))), some (.inl (i3 x1)), some (.inl (i3 x2)), some (.inl (i3 x3)), some (.inl (i3 x4))]) {T : Int × Int} (hP : zE T (zl_518_1 x1 x2 ((60 - x4).toNat + 1) Z x3 x4)) (hk : ∀ (L9 : qz_L) (yx3 yx4 : Int), qz_fg [false, false, false, true, false] L9 = [none, none, none, some (.inl (i3 yx3)), none] → (-2147483648 ≤ yx3 ∧ yx3 ≤ 2147483647) → (0 ≤ yx4 ∧ yx4 ≤ 60) → zE T ((yx3, yx4)) → k 0 (L9, [], zm Z ν)) : wz_loop qb_518_1 65536 k R (L, [], zm Z ν) := by
  refine wz_lp sb_518_1 (fun m x => ∃ x3 : Int, ∃ x4 : Int, qz_fg [true, true, true, true, true] x.1 = [some (.inr (.inr (some (1, 0, 0)))), some (.inl (i3 x1)), some (.inl (i3 x2)), some (.inl (i3 x3)), some (.inl (i3 x4))] ∧ x.2 = ([], zm Z ν) ∧ m = (60 - x4).toNat ∧ (-2147483648 ≤ x3 ∧ x3 ≤ 2147483647) ∧ (0 ≤ x4 ∧ x4 ≤ 60) ∧ zE T (zl_518_1 x1 x2 (m + 1) Z x3 x4)) ?_ 65536 ((60 - x4).toNat) _ (by omega) ⟨x3, x4, hL, rfl, rfl, gx3, gx4, hP⟩
  clear hP gx3 gx4 hL
  clear x3 x4
  rintro m ⟨L, st, μ⟩ ⟨x3, x4, hL, hx, hm, gx3, gx4, hP⟩
  cases hx
  refine fb_518_1 (i3 x1) (i3 x2) (i3 x3) (i3 x4) _ _ _ _ hL ?_
  have r1 := zM_k hZ 2 0 0 2000 (lo := 0) (hi := 60) (by decide) rfl
  refine wz_br (i3Le (zm_rd (Z := Z) (ν := ν) (k := 2) (show ((0 : Nat) : Int) = 0 from rfl) (show ((0 : Nat) : Int) = 0 from rfl) (show ((2000 : Nat) : Int) = 2000 from rfl)) (rfl : i3 x4 = i3 x4) (by omega) (by omega) (by omega) (by omega)) (fun h2 => ?_) (fun h2 => ?_)
  · replace hP := zE_p hP h2
    exact hk _ _ _ (zconso rfl (zconso rfl (zconso rfl (zconso (zvo (rfl : i3 x3 = i3 x3)) (zconso rfl rfl)))))  (by omega) (by omega)  hP
  · replace hP := zE_n hP h2
    refine wz_i0 (i3O (n := 4400) (i3A (i3A (show (2010 : Int32) = i3 2010 from rfl) (i3M (show (16 : Int32) = i3 16 from rfl) (rfl : i3 x4 = i3 x4))) (show (9 : Int32) = i3 9 from rfl)) (by omega) (by omega) (by omega)) ?_
    have r3 := zM_k hZ 2 0 0 (2019 + 16 * x4) (lo := 0) (hi := 3) (by decide) (zs_2010_9 (x := x4) (by omega) (by omega) (by omega))
    have r4 := zM_lt2 hZ x4
    refine wz_br (i3NE (zm_rd (Z := Z) (ν := ν) (k := 2) (show ((0 : Nat) : Int) = 0 from rfl) (show ((0 : Nat) : Int) = 0 from rfl) (i3I (y := (2019 + 16 * x4)) (i3A (i3A (show (2010 : Int32) = i3 2010 from rfl) (i3M (show (16 : Int32) = i3 16 from rfl) (rfl : i3 x4 = i3 x4))) (show (9 : Int32) = i3 9 from rfl)) (by omega) (by omega) (by omega))) (show (1 : Int32) = i3 1 from rfl) (by omega) (by omega) (by omega) (by omega)) (fun h5 => ?_) (fun h5 => ?_)
    · replace hP := zE_p hP h5
      obtain ⟨m2, rfl⟩ : ∃ m2, m = m2 + 1 := ⟨m - 1, by omega⟩
      exact wz_k1 ⟨m2, by omega, (x3 + 0), (x4 + 1), (zconso rfl (zconso (zvo (rfl : i3 x1 = i3 x1)) (zconso (zvo (rfl : i3 x2 = i3 x2)) (zconso (zvo (i3A (rfl : i3 x3 = i3 x3) (show (0 : Int32) = i3 0 from rfl))) (zconso (zvo (i3A (rfl : i3 x4 = i3 x4) (show (1 : Int32) = i3 1 from rfl))) rfl))))), rfl,  by omega, by omega, by omega,  hP⟩
    · replace hP := zE_n hP h5
      refine wz_i0 (i3O (n := 4400) (i3A (i3A (show (2010 : Int32) = i3 2010 from rfl) (i3M (show (16 : Int32) = i3 16 from rfl) (rfl : i3 x4 = i3 x4))) (show (10 : Int32) = i3 10 from rfl)) (by omega) (by omega) (by omega)) ?_
      have r6 := zM_k hZ 2 0 0 (2020 + 16 * x4) (lo := -1) (hi := 3) (by decide) (zs_2010_10 (x := x4) (by omega) (by omega) (by omega))
      refine wz_br (i3NE (zm_rd (Z := Z) (ν := ν) (k := 2) (show ((0 : Nat) : Int) = 0 from rfl) (show ((0 : Nat) : Int) = 0 from rfl) (i3I (y := (2020 + 16 * x4)) (i3A (i3A (show (2010 : Int32) = i3 2010 from rfl) (i3M (show (16 : Int32) = i3 16 from rfl) (rfl : i3 x4 = i3 x4))) (show (10 : Int32) = i3 10 from rfl)) (by omega) (by omega) (by omega))) (rfl : i3 x1 = i3 x1) (by omega) (by omega) (by omega) (by omega)) (fun h7 => ?_) (fun h7 => ?_)
      · replace hP := zE_p hP h7
        obtain ⟨m2, rfl⟩ : ∃ m2, m = m2 + 1 := ⟨m - 1, by omega⟩
        exact wz_k1 ⟨m2, by omega, (x3 + 0), (x4 + 1), (zconso rfl (zconso (zvo (rfl : i3 x1 = i3 x1)) (zconso (zvo (rfl : i3 x2 = i3 x2)) (zconso (zvo (i3A (rfl : i3 x3 = i3 x3) (show (0 : Int32) = i3 0 from rfl))) (zconso (zvo (i3A (rfl : i3 x4 = i3 x4) (show (1 : Int32) = i3 1 from rfl))) rfl))))), rfl,  by omega, by omega, by omega,  hP⟩
      · replace hP := zE_n hP h7
        refine wz_br (i3E (rfl : i3 x2 = i3 x2) (show (0 : Int32) = i3 0 from rfl) (by omega) (by omega) (by omega) (by omega)) (fun h8 => ?_) (fun h8 => ?_)
        · replace hP := zE_p hP h8
          have r9 := w3_r (x3 + 1)
          obtain ⟨m2, rfl⟩ : ∃ m2, m = m2 + 1 := ⟨m - 1, by omega⟩
          exact wz_k1 ⟨m2, by omega, (w3 (x3 + 1)), (x4 + 1), (zconso rfl (zconso (zvo (rfl : i3 x1 = i3 x1)) (zconso (zvo (rfl : i3 x2 = i3 x2)) (zconso (zvo (i3W (i3A (rfl : i3 x3 = i3 x3) (show (1 : Int32) = i3 1 from rfl)))) (zconso (zvo (i3A (rfl : i3 x4 = i3 x4) (show (1 : Int32) = i3 1 from rfl))) rfl))))), rfl,  by omega, by omega, by omega,  hP⟩
        · replace hP := zE_n hP h8
          refine wz_i0 (i3O (n := 4400) (i3A (i3A (show (2010 : Int32) = i3 2010 from rfl) (i3M (show (16 : Int32) = i3 16 from rfl) (rfl : i3 x4 = i3 x4))) (show (3 : Int32) = i3 3 from rfl)) (by omega) (by omega) (by omega)) ?_
          have r10 := zM_k hZ 2 0 0 (2013 + 16 * x4) (lo := 0) (hi := 40) (by decide) (zs_2010_3 (x := x4) (by omega) (by omega) (by omega))
          have r11 := zM_cr hZ x4
          have r12 := w3_r (x3 + (Z 2 0 0 (2013 + 16 * x4)))
          obtain ⟨m2, rfl⟩ : ∃ m2, m = m2 + 1 := ⟨m - 1, by omega⟩
          exact wz_k1 ⟨m2, by omega, (w3 (x3 + (Z 2 0 0 (2013 + 16 * x4)))), (x4 + 1), (zconso rfl (zconso (zvo (rfl : i3 x1 = i3 x1)) (zconso (zvo (rfl : i3 x2 = i3 x2)) (zconso (zvo (i3W (i3A (rfl : i3 x3 = i3 x3) (zm_rd (Z := Z) (ν := ν) (k := 2) (show ((0 : Nat) : Int) = 0 from rfl) (show ((0 : Nat) : Int) = 0 from rfl) (i3I (y := (2013 + 16 * x4)) (i3A (i3A (show (2010 : Int32) = i3 2010 from rfl) (i3M (show (16 : Int32) = i3 16 from rfl) (rfl : i3 x4 = i3 x4))) (show (3 : Int32) = i3 3 from rfl)) (by omega) (by omega) (by omega)))))) (zconso (zvo (i3A (rfl : i3 x4 = i3 x4) (show (1 : Int32) = i3 1 from rfl))) rfl))))), rfl,  by omega, by omega, by omega,  hP⟩
/- yX12_tLoad -/
def zf_518 (Z : qz_Z) (a1 : Int) (a2 : Int) : Int := (zlet2 (zl_518_1 a1 a2 61 Z 0 0) (fun y1 y2 => y1))
theorem sp_518 {s : zSM} {Z : qz_Z} {ν : qz_N} (hZ : zM s Z) {a1 : Int} (ga1 : 0 ≤ a1 ∧ a1 ≤ 3) {a2 : Int} (ga2 : 0 ≤ a2 ∧ a2 ≤ 1) (hM : s.2 + 0 ≤ 1000000000) : ∃ P : Int, P = zf_518 Z a1 a2 ∧ (qf_518 [.inr (.inr (some (1, 0, 0))), .inl (i3 a1), .inl (i3 a2)] (zm Z ν) = some (zm Z ν, .inl (some (.inl (i3 P)))) ∧ -2147483648 ≤ P ∧ P ≤ 2147483647) := by
  obtain ⟨P, hP⟩ := zx (zf_518 Z a1 a2)
  refine zc_R (Q := fun P => -2147483648 ≤ P ∧ P ≤ 2147483647) hP (fw_518 (i3 a1) (i3 a2) _ _ ?_)
  replace hP : zE P (zf_518 Z a1 a2) := hP
  unfold zf_518 at hP
  refine sl_518_1 (ν := ν) hZ (zbh (c := 0) (k := 0) hM (Nat.le_of_ble_eq_true rfl)) (x1 := a1) (by omega) (x2 := a2) (by omega) (x3 := 0) (by omega) (x4 := 0) (by omega)  (zconso rfl (zconso (zvo (rfl : i3 a1 = i3 a1)) (zconso (zvo (rfl : i3 a2 = i3 a2)) (zconso (zvo (show (0 : Int32) = i3 0 from rfl)) (zconso (zvo (show (0 : Int32) = i3 0 from rfl)) rfl))))) rfl ?_
  intro L3 y1 y2 hL3 gy1 gy2 q9
  replace hP := zl_e2 hP (Eq.symm q9)
  clear q9
  refine fc_518_2 (i3 y1) _ _ _ _ hL3 ?_
  exact zlR hP (rfl : i3 y1 = i3 y1) ⟨by omega, by omega⟩
/- yX12_tAtDocks -/
def zl_508_1 : Nat → qz_Z → Int → Int → Int × Int
  | 0, Z, x1, x2 => (x1, x2)
  | m + 1, Z, x1, x2 => (if (Z 2 0 0 3200) ≤ x2 then (x1, x2) else (if (Z 2 0 0 (3252 + 24 * x2)) ≠ 1 then (zlet (zf_518 Z x2 0) (fun v5 => (if v5 ≤ 0 then zl_508_1 m Z (x1 + 0) (x2 + 1) else zl_508_1 m Z (x1 + 1) (x2 + 1)))) else zl_508_1 m Z (x1 + 0) (x2 + 1)))
theorem sl_508_1 {s : zSM} {Z : qz_Z} {ν : qz_N} (hZ : zM s Z) (hM : s.2 + 0 ≤ 1000000000) {x1 : Int} (gx1 : 0 ≤ x1 ∧ x1 ≤ 4) {x2 : Int} (gx2 : 0 ≤ x2 ∧ x2 ≤ 4) (gr0 : x1 ≤ x2) {k : wz_K} {R : wz_R} {L : qz_L} (hL : qz_fg [true, true, true] L = [some (.inr (.inr (some (1, 0, 0)))), some (.inl (i3 x1)), some (.inl (i3 x2))]) {T : Int × Int} (hP : zE T (zl_508_1 ((4 - x2).toNat + 1) Z x1 x2)) (hk : ∀ (L9 : qz_L) (yx1 yx2 : Int), qz_fg [false, true, false] L9 = [none, some (.inl (i3 yx1)), none] → (0 ≤ yx1 ∧ yx1 ≤ 4) → (0 ≤ yx2 ∧ yx2 ≤ 4) → (yx1 ≤ yx2) → zE T ((yx1, yx2)) → k 0 (L9, [], zm Z ν)) : wz_loop qb_508_1 65536 k R (L, [], zm Z ν) := by
  refine wz_lp sb_508_1 (fun m x => ∃ x1 : Int, ∃ x2 : Int, qz_fg [true, true, true] x.1 = [some (.inr (.inr (some (1, 0, 0)))), some (.inl (i3 x1)), some (.inl (i3 x2))] ∧ x.2 = ([], zm Z ν) ∧ m = (4 - x2).toNat ∧ (0 ≤ x1 ∧ x1 ≤ 4) ∧ (0 ≤ x2 ∧ x2 ≤ 4) ∧ (x1 ≤ x2) ∧ zE T (zl_508_1 (m + 1) Z x1 x2)) ?_ 65536 ((4 - x2).toNat) _ (by omega) ⟨x1, x2, hL, rfl, rfl, gx1, gx2, gr0, hP⟩
  clear hP gr0 gx1 gx2 hL
  clear x1 x2
  rintro m ⟨L, st, μ⟩ ⟨x1, x2, hL, hx, hm, gx1, gx2, gr0, hP⟩
  cases hx
  refine fb_508_1 (i3 x1) (i3 x2) _ _ _ _ hL ?_
  have r1 := zM_k hZ 2 0 0 3200 (lo := 0) (hi := 4) (by decide) rfl
  refine wz_br (i3Le (zm_rd (Z := Z) (ν := ν) (k := 2) (show ((0 : Nat) : Int) = 0 from rfl) (show ((0 : Nat) : Int) = 0 from rfl) (show ((3200 : Nat) : Int) = 3200 from rfl)) (rfl : i3 x2 = i3 x2) (by omega) (by omega) (by omega) (by omega)) (fun h2 => ?_) (fun h2 => ?_)
  · replace hP := zE_p hP h2
    exact hk _ _ _ (zconso rfl (zconso (zvo (rfl : i3 x1 = i3 x1)) (zconso rfl rfl)))  (by omega) (by omega) (by omega) hP
  · replace hP := zE_n hP h2
    refine wz_i0 (i3O (n := 4400) (i3A (i3A (show (3250 : Int32) = i3 3250 from rfl) (i3M (show (24 : Int32) = i3 24 from rfl) (rfl : i3 x2 = i3 x2))) (show (2 : Int32) = i3 2 from rfl)) (by omega) (by omega) (by omega)) ?_
    have r3 := zM_k hZ 2 0 0 (3252 + 24 * x2) (lo := 0) (hi := 1) (by decide) (zs_3250_2 (x := x2) (by omega) (by omega) (by omega))
    refine wz_br (i3NE (zm_rd (Z := Z) (ν := ν) (k := 2) (show ((0 : Nat) : Int) = 0 from rfl) (show ((0 : Nat) : Int) = 0 from rfl) (i3I (y := (3252 + 24 * x2)) (i3A (i3A (show (3250 : Int32) = i3 3250 from rfl) (i3M (show (24 : Int32) = i3 24 from rfl) (rfl : i3 x2 = i3 x2))) (show (2 : Int32) = i3 2 from rfl)) (by omega) (by omega) (by omega))) (show (1 : Int32) = i3 1 from rfl) (by omega) (by omega) (by omega) (by omega)) (fun h4 => ?_) (fun h4 => ?_)
    · replace hP := zE_p hP h4
      obtain ⟨v5, hv5, c9, lv5, uv5⟩ := sp_518 (ν := ν) hZ (a1 := x2) (by omega) (a2 := 0) (by omega) (zbh (c := 0) (k := 0) hM (Nat.le_of_ble_eq_true rfl))
      replace hP := zl_e hP hv5
      refine wz_cI_of (zas (zcons rfl (zcons (zvi (rfl : i3 x2 = i3 x2)) (zcons (zvi (show (0 : Int32) = i3 0 from rfl)) rfl))) c9) ?_
      clear c9
      refine wz_br (i3Le (rfl : i3 v5 = i3 v5) (show (0 : Int32) = i3 0 from rfl) (by omega) (by omega) (by omega) (by omega)) (fun h6 => ?_) (fun h6 => ?_)
      · replace hP := zE_p hP h6
        obtain ⟨m2, rfl⟩ : ∃ m2, m = m2 + 1 := ⟨m - 1, by omega⟩
        exact wz_k1 ⟨m2, by omega, (x1 + 0), (x2 + 1), (zconso rfl (zconso (zvo (i3A (rfl : i3 x1 = i3 x1) (show (0 : Int32) = i3 0 from rfl))) (zconso (zvo (i3A (rfl : i3 x2 = i3 x2) (show (1 : Int32) = i3 1 from rfl))) rfl))), rfl,  by omega, by omega, by omega, by omega,  hP⟩
      · replace hP := zE_n hP h6
        obtain ⟨m2, rfl⟩ : ∃ m2, m = m2 + 1 := ⟨m - 1, by omega⟩
        exact wz_k1 ⟨m2, by omega, (x1 + 1), (x2 + 1), (zconso rfl (zconso (zvo (i3A (rfl : i3 x1 = i3 x1) (show (1 : Int32) = i3 1 from rfl))) (zconso (zvo (i3A (rfl : i3 x2 = i3 x2) (show (1 : Int32) = i3 1 from rfl))) rfl))), rfl,  by omega, by omega, by omega, by omega,  hP⟩
    · replace hP := zE_n hP h4
      obtain ⟨m2, rfl⟩ : ∃ m2, m = m2 + 1 := ⟨m - 1, by omega⟩
      exact wz_k1 ⟨m2, by omega, (x1 + 0), (x2 + 1), (zconso rfl (zconso (zvo (i3A (rfl : i3 x1 = i3 x1) (show (0 : Int32) = i3 0 from rfl))) (zconso (zvo (i3A (rfl : i3 x2 = i3 x2) (show (1 : Int32) = i3 1 from rfl))) rfl))), rfl,  by omega, by omega, by omega, by omega,  hP⟩
/- yX12_tAtDocks -/
def zf_508 (Z : qz_Z) : Int := (zlet2 (zl_508_1 5 Z 0 0) (fun y1 y2 => y1))
theorem sp_508 {s : zSM} {Z : qz_Z} {ν : qz_N} (hZ : zM s Z) (hM : s.2 + 0 ≤ 1000000000) : ∃ P : Int, P = zf_508 Z ∧ (qf_508 [.inr (.inr (some (1, 0, 0)))] (zm Z ν) = some (zm Z ν, .inl (some (.inl (i3 P)))) ∧ 0 ≤ P ∧ P ≤ 4) := by
  obtain ⟨P, hP⟩ := zx (zf_508 Z)
  refine zc_R (Q := fun P => 0 ≤ P ∧ P ≤ 4) hP (fw_508  _ _ ?_)
  replace hP : zE P (zf_508 Z) := hP
  unfold zf_508 at hP
  refine sl_508_1 (ν := ν) hZ (zbh (c := 0) (k := 0) hM (Nat.le_of_ble_eq_true rfl)) (x1 := 0) (by omega) (x2 := 0) (by omega) (by omega) (zconso rfl (zconso (zvo (show (0 : Int32) = i3 0 from rfl)) (zconso (zvo (show (0 : Int32) = i3 0 from rfl)) rfl))) rfl ?_
  intro L3 y1 y2 hL3 gy1 gy2 gL3_0 q9
  replace hP := zl_e2 hP (Eq.symm q9)
  clear q9
  refine fc_508_2 (i3 y1) _ _ _ _ hL3 ?_
  exact zlR hP (rfl : i3 y1 = i3 y1) ⟨by omega, by omega⟩
/- yX12_docks -/
def zy_336 (Z : qz_Z) (dm : qz_Z → Int → Int → Int → Int → Int → Int → Int → qz_Z) (a1 : Int) : qz_Z × Int := (if a1 < 1 then (zlet (zu Z 1 0 0 2 1) (fun Z5 => (Z5, 0))) else (if 4 < a1 then (zlet (zu Z 1 0 0 2 1) (fun Z7 => (Z7, 0))) else (zlet (zu Z 1 0 0 2 0) (fun Z8 => (zlet (zf_508 Z8) (fun v9 => (if a1 < v9 then (zlet (zu Z8 1 0 0 2 2) (fun Z11 => (Z11, 0))) else (zlet (zu Z8 1 0 0 2 0) (fun Z12 => (zlet (dm Z12 19 a1 0 0 0 0 0) (fun Z19 => (zlet (zu Z19 2 0 0 3201 a1) (fun Z20 => (Z20, (Z19 2 0 0 3201)))))))))))))))
theorem sy_336 {s : zSM} {Z : qz_Z} {ν : qz_N} (hZ : zM s Z) (gq : Z 1 0 0 35 = 0) (hM : s.2 + 0 ≤ 1000000000) {a1 : Int} (ga1 : -2147483648 ≤ a1 ∧ a1 ≤ 2147483647) {dk : qz_Z → qz_Z} {dm : qz_Z → Int → Int → Int → Int → Int → Int → Int → qz_Z} {ν1 : qz_N} (hdm : zDm s ν ν1 Z dk dm) : ∃ (Z1 : qz_Z) (ν2 : qz_N) (v : Int), (Z1, v) = zy_336 Z dm a1 ∧ (ν2 = ν ∨ ν2 = ν1) ∧ qf_336 [.inr (.inr (some (1, 0, 0))), .inl (i3 a1)] (zm Z ν) = some (zm Z1 ν2, .inl (some (.inl (i3 v)))) ∧ (fun Z1 => zM s Z1 ∧ zC [1, 2, 101, 102, 200] Z Z1 ∧ zU [] Z Z1) Z1 := by
  obtain ⟨P, hP⟩ := zx (zy_336 Z dm a1)
  refine zc_Y (Q := fun Z1 => zM s Z1 ∧ zC [1, 2, 101, 102, 200] Z Z1 ∧ zU [] Z Z1) hP (fw_336 (i3 a1) _ _ ?_)
  replace hP : zE P (zy_336 Z dm a1) := hP
  unfold zy_336 at hP
  have r1 := zM_k hZ 1 0 0 35 (lo := 0) (hi := 1) (by decide) rfl
  have r2 := zM_k hZ 1 0 0 34 (lo := 0) (hi := 8) (by decide) rfl
  have r3 := zM_f hZ 1 0 0 37
  refine wz_br (i3L (rfl : i3 a1 = i3 a1) (show (1 : Int32) = i3 1 from rfl) (by omega) (by omega) (by omega) (by omega)) (fun h4 => ?_) (fun h4 => ?_)
  · replace hP := zE_p hP h4
    obtain ⟨Z5, hZ5⟩ := zx (zu Z 1 0 0 2 1)
    replace hP := zl_e hP hZ5
    have hZ5I := zM_u hZ hZ5 (lo := -2147483648) (hi := 2147483647) (by decide) rfl (by omega) ⟨by decide, by decide⟩ (Or.inr (by decide)) rfl
    have hZ5U : zU [] Z Z5 := zU_u zU_r hZ5 (Or.inl rfl)
    have hZ5K : zC [1, 2, 101, 102, 200] Z Z5 := zC_u zC_r hZ5 (by decide)
    intro μ9 e9
    replace e9 := e9.trans (zm_wI (Z := Z) (ν := ν) hZ5 (show ((0 : Nat) : Int) = 0 from rfl) (show ((0 : Nat) : Int) = 0 from rfl) (show ((2 : Nat) : Int) = 2 from rfl) (show (1 : Int32) = i3 1 from rfl))
    subst e9
    exact zlY hP (show (0 : Int32) = i3 0 from rfl) (.inl rfl) ⟨hZ5I, hZ5K, hZ5U⟩
  · replace hP := zE_n hP h4
    refine wz_br (i3L (show (4 : Int32) = i3 4 from rfl) (rfl : i3 a1 = i3 a1) (by omega) (by omega) (by omega) (by omega)) (fun h6 => ?_) (fun h6 => ?_)
    · replace hP := zE_p hP h6
      obtain ⟨Z7, hZ7⟩ := zx (zu Z 1 0 0 2 1)
      replace hP := zl_e hP hZ7
      have hZ7I := zM_u hZ hZ7 (lo := -2147483648) (hi := 2147483647) (by decide) rfl (by omega) ⟨by decide, by decide⟩ (Or.inr (by decide)) rfl
      have hZ7U : zU [] Z Z7 := zU_u zU_r hZ7 (Or.inl rfl)
      have hZ7K : zC [1, 2, 101, 102, 200] Z Z7 := zC_u zC_r hZ7 (by decide)
      intro μ9 e9
      replace e9 := e9.trans (zm_wI (Z := Z) (ν := ν) hZ7 (show ((0 : Nat) : Int) = 0 from rfl) (show ((0 : Nat) : Int) = 0 from rfl) (show ((2 : Nat) : Int) = 2 from rfl) (show (1 : Int32) = i3 1 from rfl))
      subst e9
      exact zlY hP (show (0 : Int32) = i3 0 from rfl) (.inl rfl) ⟨hZ7I, hZ7K, hZ7U⟩
    · replace hP := zE_n hP h6
      obtain ⟨Z8, hZ8⟩ := zx (zu Z 1 0 0 2 0)
      replace hP := zl_e hP hZ8
      have hZ8I := zM_0 hZ hZ8 (by decide) (Or.inr (by decide))
      have hZ8U : zU [] Z Z8 := zU_u zU_r hZ8 (Or.inl rfl)
      have hZ8K : zC [1, 2, 101, 102, 200] Z Z8 := zC_u zC_r hZ8 (by decide)
      intro μ9 e9
      replace e9 := e9.trans (zm_wI (Z := Z) (ν := ν) hZ8 (show ((0 : Nat) : Int) = 0 from rfl) (show ((0 : Nat) : Int) = 0 from rfl) (show ((2 : Nat) : Int) = 2 from rfl) (show (0 : Int32) = i3 0 from rfl))
      subst e9
      obtain ⟨v9, hv9, c9, lv9, uv9⟩ := sp_508 (ν := ν) hZ8I (zbh (c := 0) (k := 0) hM (Nat.le_of_ble_eq_true rfl))
      replace hP := zl_e hP hv9
      refine wz_cI_of (zas (zcons rfl rfl) c9) ?_
      clear c9
      refine wz_br (i3L (rfl : i3 a1 = i3 a1) (rfl : i3 v9 = i3 v9) (by omega) (by omega) (by omega) (by omega)) (fun h10 => ?_) (fun h10 => ?_)
      · replace hP := zE_p hP h10
        obtain ⟨Z11, hZ11⟩ := zx (zu Z8 1 0 0 2 2)
        replace hP := zl_e hP hZ11
        have hZ11I := zM_u hZ8I hZ11 (lo := -2147483648) (hi := 2147483647) (by decide) rfl (by omega) ⟨by decide, by decide⟩ (Or.inr (by decide)) rfl
        have hZ11U : zU [] Z Z11 := zU_u hZ8U hZ11 (Or.inl rfl)
        have hZ11K : zC [1, 2, 101, 102, 200] Z Z11 := zC_u hZ8K hZ11 (by decide)
        intro μ9 e9
        replace e9 := e9.trans (zm_wI (Z := Z8) (ν := ν) hZ11 (show ((0 : Nat) : Int) = 0 from rfl) (show ((0 : Nat) : Int) = 0 from rfl) (show ((2 : Nat) : Int) = 2 from rfl) (show (2 : Int32) = i3 2 from rfl))
        subst e9
        exact zlY hP (show (0 : Int32) = i3 0 from rfl) (.inl rfl) ⟨hZ11I, hZ11K, hZ11U⟩
      · replace hP := zE_n hP h10
        obtain ⟨Z12, hZ12⟩ := zx (zu Z8 1 0 0 2 0)
        replace hP := zl_e hP hZ12
        have hZ12I := zM_0 hZ8I hZ12 (by decide) (Or.inr (by decide))
        have hZ12U : zU [] Z Z12 := zU_u hZ8U hZ12 (Or.inl rfl)
        have hZ12K : zC [1, 2, 101, 102, 200] Z Z12 := zC_u hZ8K hZ12 (by decide)
        intro μ9 e9
        replace e9 := e9.trans (zm_wI (Z := Z8) (ν := ν) hZ12 (show ((0 : Nat) : Int) = 0 from rfl) (show ((0 : Nat) : Int) = 0 from rfl) (show ((2 : Nat) : Int) = 2 from rfl) (show (0 : Int32) = i3 0 from rfl))
        subst e9
        have r13 := zM_k hZ12I 1 0 0 35 (lo := 0) (hi := 1) (by decide) rfl
        have q14 := (zu_ne (k' := 1) (b' := 0) (i' := 0) (j' := 35) hZ12 (fun q => absurd q.2.2.2 (by decide))).trans (zu_ne (k' := 1) (b' := 0) (i' := 0) (j' := 35) hZ8 (fun q => absurd q.2.2.2 (by decide)))
        refine wz_i0 (Eq.trans (i3NE (zm_rd (Z := Z12) (ν := ν) (k := 1) (show ((0 : Nat) : Int) = 0 from rfl) (show ((0 : Nat) : Int) = 0 from rfl) (show ((35 : Nat) : Int) = 35 from rfl)) (show (0 : Int32) = i3 0 from rfl) (by omega) (by omega) (by omega) (by omega)) (decide_eq_false (by omega))) ?_
        have r15 := zM_k hZ12I 1 0 0 34 (lo := 0) (hi := 8) (by decide) rfl
        have q16 := (zu_ne (k' := 1) (b' := 0) (i' := 0) (j' := 34) hZ12 (fun q => absurd q.2.2.2 (by decide))).trans (zu_ne (k' := 1) (b' := 0) (i' := 0) (j' := 34) hZ8 (fun q => absurd q.2.2.2 (by decide)))
        have r17 := zM_f hZ12I 1 0 0 37
        have q18 := (zu_ne (k' := 1) (b' := 0) (i' := 0) (j' := 37) hZ12 (fun q => absurd q.2.2.2 (by decide))).trans (zu_ne (k' := 1) (b' := 0) (i' := 0) (j' := 37) hZ8 (fun q => absurd q.2.2.2 (by decide)))
        obtain ⟨c8, c9, hZ19I, dZ19⟩ := hdm Z12 19 a1 0 0 0 0 0 hZ12I (by omega) (by omega) (by omega) (by omega) (by omega) (by omega) (by omega) (by omega) (by omega) (by omega)
        obtain ⟨Z19, hZ19⟩ := zx (dm Z12 19 a1 0 0 0 0 0)
        rw [← hZ19] at c9 hZ19I dZ19
        replace hP := zl_e hP hZ19
        refine wz_cV_of (zas (zcons rfl (zcons (zvi (show (-1 : Int32) = i3 (-1) from rfl)) rfl)) c8) ?_
        refine wz_cV_of (zas (zcons rfl (zcons (zvi (show (19 : Int32) = i3 19 from rfl)) (zcons (zvi (rfl : i3 a1 = i3 a1)) (zcons (zvi (show (0 : Int32) = i3 0 from rfl)) (zcons (zvi (show (0 : Int32) = i3 0 from rfl)) (zcons (zvi (show (0 : Int32) = i3 0 from rfl)) (zcons (zvi (show (0 : Int32) = i3 0 from rfl)) (zcons (zvi (show (0 : Int32) = i3 0 from rfl)) rfl)))))))) c9) ?_
        clear c8 c9
        have hZ19K : zC [1, 2, 101, 102, 200] Z Z19 := zC_t hZ12K (zMd_C dZ19) (by decide)
        have hZ19U : zU [] Z Z19 := zU_t hZ12U (zMd_U dZ19) zU_b0
        obtain ⟨Z20, hZ20⟩ := zx (zu Z19 2 0 0 3201 a1)
        replace hP := zl_e hP hZ20
        have hZ20I := zM_u2 hZ19I hZ20 (lo := 0) (hi := 4) rfl (by omega) ⟨by decide, by decide⟩ (by simp only [zsp]; omega)
        have hZ20U : zU [] Z Z20 := zU_u hZ19U hZ20 (Or.inl rfl)
        have hZ20K : zC [1, 2, 101, 102, 200] Z Z20 := zC_u hZ19K hZ20 (by decide)
        intro μ9 e9
        replace e9 := e9.trans (zm_wI (Z := Z19) (ν := ν1) hZ20 (show ((0 : Nat) : Int) = 0 from rfl) (show ((0 : Nat) : Int) = 0 from rfl) (show ((3201 : Nat) : Int) = 3201 from rfl) (rfl : i3 a1 = i3 a1))
        subst e9
        have r21 := zM_k hZ19I 2 0 0 3201 (lo := 0) (hi := 4) (by decide) rfl
        exact zlY hP (zm_rd (Z := Z19) (ν := ν1) (k := 2) (show ((0 : Nat) : Int) = 0 from rfl) (show ((0 : Nat) : Int) = 0 from rfl) (show ((3201 : Nat) : Int) = 3201 from rfl)) (.inr rfl) ⟨hZ20I, hZ20K, hZ20U⟩

theorem sq_336 {s : zSM} {Z : qz_Z} {ν : qz_N} (hZ : zM s Z) (gq : Z 1 0 0 35 = 1) (hM : s.2 + 0 ≤ 1000000000) {a1 : Int} (ga1 : -2147483648 ≤ a1 ∧ a1 ≤ 2147483647) {ν1 : qz_N} : ∃ (Z1 : qz_Z) (ν2 : qz_N) (v : Int), (Z1, v) = zy_336 Z zq0 a1 ∧ (ν2 = ν ∨ ν2 = ν1) ∧ qf_336 [.inr (.inr (some (1, 0, 0))), .inl (i3 a1)] (zm Z ν) = some (zm Z1 ν2, .inl (some (.inl (i3 v)))) ∧ (fun Z1 => zM s Z1 ∧ zC [1, 2] Z Z1 ∧ zU [] Z Z1) Z1 := by
  obtain ⟨P, hP⟩ := zx (zy_336 Z zq0 a1)
  refine zc_Y (Q := fun Z1 => zM s Z1 ∧ zC [1, 2] Z Z1 ∧ zU [] Z Z1) hP (fw_336 (i3 a1) _ _ ?_)
  replace hP : zE P (zy_336 Z zq0 a1) := hP
  unfold zy_336 at hP
  have r1 := zM_k hZ 1 0 0 35 (lo := 0) (hi := 1) (by decide) rfl
  have r2 := zM_k hZ 1 0 0 34 (lo := 0) (hi := 8) (by decide) rfl
  have r3 := zM_f hZ 1 0 0 37
  refine wz_br (i3L (rfl : i3 a1 = i3 a1) (show (1 : Int32) = i3 1 from rfl) (by omega) (by omega) (by omega) (by omega)) (fun h4 => ?_) (fun h4 => ?_)
  · replace hP := zE_p hP h4
    obtain ⟨Z5, hZ5⟩ := zx (zu Z 1 0 0 2 1)
    replace hP := zl_e hP hZ5
    have hZ5I := zM_u hZ hZ5 (lo := -2147483648) (hi := 2147483647) (by decide) rfl (by omega) ⟨by decide, by decide⟩ (Or.inr (by decide)) rfl
    have hZ5U : zU [] Z Z5 := zU_u zU_r hZ5 (Or.inl rfl)
    have hZ5K : zC [1, 2] Z Z5 := zC_u zC_r hZ5 (by decide)
    intro μ9 e9
    replace e9 := e9.trans (zm_wI (Z := Z) (ν := ν) hZ5 (show ((0 : Nat) : Int) = 0 from rfl) (show ((0 : Nat) : Int) = 0 from rfl) (show ((2 : Nat) : Int) = 2 from rfl) (show (1 : Int32) = i3 1 from rfl))
    subst e9
    exact zlY hP (show (0 : Int32) = i3 0 from rfl) (.inl rfl) ⟨hZ5I, hZ5K, hZ5U⟩
  · replace hP := zE_n hP h4
    refine wz_br (i3L (show (4 : Int32) = i3 4 from rfl) (rfl : i3 a1 = i3 a1) (by omega) (by omega) (by omega) (by omega)) (fun h6 => ?_) (fun h6 => ?_)
    · replace hP := zE_p hP h6
      obtain ⟨Z7, hZ7⟩ := zx (zu Z 1 0 0 2 1)
      replace hP := zl_e hP hZ7
      have hZ7I := zM_u hZ hZ7 (lo := -2147483648) (hi := 2147483647) (by decide) rfl (by omega) ⟨by decide, by decide⟩ (Or.inr (by decide)) rfl
      have hZ7U : zU [] Z Z7 := zU_u zU_r hZ7 (Or.inl rfl)
      have hZ7K : zC [1, 2] Z Z7 := zC_u zC_r hZ7 (by decide)
      intro μ9 e9
      replace e9 := e9.trans (zm_wI (Z := Z) (ν := ν) hZ7 (show ((0 : Nat) : Int) = 0 from rfl) (show ((0 : Nat) : Int) = 0 from rfl) (show ((2 : Nat) : Int) = 2 from rfl) (show (1 : Int32) = i3 1 from rfl))
      subst e9
      exact zlY hP (show (0 : Int32) = i3 0 from rfl) (.inl rfl) ⟨hZ7I, hZ7K, hZ7U⟩
    · replace hP := zE_n hP h6
      obtain ⟨Z8, hZ8⟩ := zx (zu Z 1 0 0 2 0)
      replace hP := zl_e hP hZ8
      have hZ8I := zM_0 hZ hZ8 (by decide) (Or.inr (by decide))
      have hZ8U : zU [] Z Z8 := zU_u zU_r hZ8 (Or.inl rfl)
      have hZ8K : zC [1, 2] Z Z8 := zC_u zC_r hZ8 (by decide)
      intro μ9 e9
      replace e9 := e9.trans (zm_wI (Z := Z) (ν := ν) hZ8 (show ((0 : Nat) : Int) = 0 from rfl) (show ((0 : Nat) : Int) = 0 from rfl) (show ((2 : Nat) : Int) = 2 from rfl) (show (0 : Int32) = i3 0 from rfl))
      subst e9
      obtain ⟨v9, hv9, c9, lv9, uv9⟩ := sp_508 (ν := ν) hZ8I (zbh (c := 0) (k := 0) hM (Nat.le_of_ble_eq_true rfl))
      replace hP := zl_e hP hv9
      refine wz_cI_of (zas (zcons rfl rfl) c9) ?_
      clear c9
      refine wz_br (i3L (rfl : i3 a1 = i3 a1) (rfl : i3 v9 = i3 v9) (by omega) (by omega) (by omega) (by omega)) (fun h10 => ?_) (fun h10 => ?_)
      · replace hP := zE_p hP h10
        obtain ⟨Z11, hZ11⟩ := zx (zu Z8 1 0 0 2 2)
        replace hP := zl_e hP hZ11
        have hZ11I := zM_u hZ8I hZ11 (lo := -2147483648) (hi := 2147483647) (by decide) rfl (by omega) ⟨by decide, by decide⟩ (Or.inr (by decide)) rfl
        have hZ11U : zU [] Z Z11 := zU_u hZ8U hZ11 (Or.inl rfl)
        have hZ11K : zC [1, 2] Z Z11 := zC_u hZ8K hZ11 (by decide)
        intro μ9 e9
        replace e9 := e9.trans (zm_wI (Z := Z8) (ν := ν) hZ11 (show ((0 : Nat) : Int) = 0 from rfl) (show ((0 : Nat) : Int) = 0 from rfl) (show ((2 : Nat) : Int) = 2 from rfl) (show (2 : Int32) = i3 2 from rfl))
        subst e9
        exact zlY hP (show (0 : Int32) = i3 0 from rfl) (.inl rfl) ⟨hZ11I, hZ11K, hZ11U⟩
      · replace hP := zE_n hP h10
        obtain ⟨Z12, hZ12⟩ := zx (zu Z8 1 0 0 2 0)
        replace hP := zl_e hP hZ12
        have hZ12I := zM_0 hZ8I hZ12 (by decide) (Or.inr (by decide))
        have hZ12U : zU [] Z Z12 := zU_u hZ8U hZ12 (Or.inl rfl)
        have hZ12K : zC [1, 2] Z Z12 := zC_u hZ8K hZ12 (by decide)
        intro μ9 e9
        replace e9 := e9.trans (zm_wI (Z := Z8) (ν := ν) hZ12 (show ((0 : Nat) : Int) = 0 from rfl) (show ((0 : Nat) : Int) = 0 from rfl) (show ((2 : Nat) : Int) = 2 from rfl) (show (0 : Int32) = i3 0 from rfl))
        subst e9
        have r13 := zM_k hZ12I 1 0 0 35 (lo := 0) (hi := 1) (by decide) rfl
        have q14 := (zu_ne (k' := 1) (b' := 0) (i' := 0) (j' := 35) hZ12 (fun q => absurd q.2.2.2 (by decide))).trans (zu_ne (k' := 1) (b' := 0) (i' := 0) (j' := 35) hZ8 (fun q => absurd q.2.2.2 (by decide)))
        refine wz_i1 (Eq.trans (i3NE (zm_rd (Z := Z12) (ν := ν) (k := 1) (show ((0 : Nat) : Int) = 0 from rfl) (show ((0 : Nat) : Int) = 0 from rfl) (show ((35 : Nat) : Int) = 35 from rfl)) (show (0 : Int32) = i3 0 from rfl) (by omega) (by omega) (by omega) (by omega)) (decide_eq_true (by omega))) ?_
        replace hP := zl_q hP (rfl : _ = Z12)
        obtain ⟨Z15, hZ15⟩ := zx (zu Z12 2 0 0 3201 a1)
        replace hP := zl_e hP hZ15
        have hZ15I := zM_u2 hZ12I hZ15 (lo := 0) (hi := 4) rfl (by omega) ⟨by decide, by decide⟩ (by simp only [zsp]; omega)
        have hZ15U : zU [] Z Z15 := zU_u hZ12U hZ15 (Or.inl rfl)
        have hZ15K : zC [1, 2] Z Z15 := zC_u hZ12K hZ15 (by decide)
        intro μ9 e9
        replace e9 := e9.trans (zm_wI (Z := Z12) (ν := ν) hZ15 (show ((0 : Nat) : Int) = 0 from rfl) (show ((0 : Nat) : Int) = 0 from rfl) (show ((3201 : Nat) : Int) = 3201 from rfl) (rfl : i3 a1 = i3 a1))
        subst e9
        have r16 := zM_k hZ12I 2 0 0 3201 (lo := 0) (hi := 4) (by decide) rfl
        exact zlY hP (zm_rd (Z := Z12) (ν := ν) (k := 2) (show ((0 : Nat) : Int) = 0 from rfl) (show ((0 : Nat) : Int) = 0 from rfl) (show ((3201 : Nat) : Int) = 3201 from rfl)) (.inl rfl) ⟨hZ15I, hZ15K, hZ15U⟩
/- yX12_cPlace -/
def zl_306_1 (x1 : Int) (x2 : Int) : Nat → qz_Z → Int → Int → Int × Int
  | 0, Z, x3, x4 => (x3, x4)
  | m + 1, Z, x3, x4 => (if (Z 2 0 0 (3015 + 60 * x1)) ≤ x4 then (x3, x4) else (if (Z 2 0 0 (3022 + 60 * x1 + 3 * x4)) ≠ x2 then zl_306_1 x1 x2 m Z x3 (x4 + 1) else zl_306_1 x1 x2 m Z x4 (x4 + 1)))
theorem sl_306_1 {s : zSM} {Z : qz_Z} {ν : qz_N} (hZ : zM s Z) (hM : s.2 + 0 ≤ 1000000000) {x1 : Int} (gx1 : 0 ≤ x1 ∧ x1 ≤ 1) {x2 : Int} (gx2 : 0 ≤ x2 ∧ x2 ≤ 47) {x3 : Int} (gx3 : -1 ≤ x3 ∧ x3 ≤ 11) {x4 : Int} (gx4 : 0 ≤ x4 ∧ x4 ≤ 12) (gr0 : x3 < Z 2 0 0 (3015 + 60 * x1)) {k : wz_K} {R : wz_R} {L : qz_L} (hL : qz_fg [true, true, true, true, true] L = [some (.inr (.inr (some (1, 0, 0)))), some (.inl (i3 x1)), some (.inl (i3 x2)), some (.inl (i3 x3)), some (.inl (i3 x4))]) {T : Int × Int} (hP : zE T (zl_306_1 x1 x2 ((12 - x4).toNat + 1) Z x3 x4)) (hk : ∀ (L9 : qz_L) (yx3 yx4 : Int), qz_fg [false, false, false, true, false] L9 = [none, none, none, some (.inl (i3 yx3)), none] → (-1 ≤ yx3 ∧ yx3 ≤ 11) → (0 ≤ yx4 ∧ yx4 ≤ 12) → (yx3 < Z 2 0 0 (3015 + 60 * x1)) → zE T ((yx3, yx4)) → k 0 (L9, [], zm Z ν)) : wz_loop qb_306_1 65536 k R (L, [], zm Z ν) := by
  refine wz_lp sb_306_1 (fun m x => ∃ x3 : Int, ∃ x4 : Int, qz_fg [true, true, true, true, true] x.1 = [some (.inr (.inr (some (1, 0, 0)))), some (.inl (i3 x1)), some (.inl (i3 x2)), some (.inl (i3 x3)), some (.inl (i3 x4))] ∧ x.2 = ([], zm Z ν) ∧ m = (12 - x4).toNat ∧ (-1 ≤ x3 ∧ x3 ≤ 11) ∧ (0 ≤ x4 ∧ x4 ≤ 12) ∧ (x3 < Z 2 0 0 (3015 + 60 * x1)) ∧ zE T (zl_306_1 x1 x2 (m + 1) Z x3 x4)) ?_ 65536 ((12 - x4).toNat) _ (by omega) ⟨x3, x4, hL, rfl, rfl, gx3, gx4, gr0, hP⟩
  clear hP gr0 gx3 gx4 hL
  clear x3 x4
  rintro m ⟨L, st, μ⟩ ⟨x3, x4, hL, hx, hm, gx3, gx4, gr0, hP⟩
  cases hx
  refine fb_306_1 (i3 x1) (i3 x2) (i3 x3) (i3 x4) _ _ _ _ hL ?_
  have r1 := zM_k hZ 2 0 0 (3015 + 60 * x1) (lo := 0) (hi := 12) (by decide) (zs_3010_5 (x := (x1 + 0)) (by omega) (by omega) (by omega))
  refine wz_i0 (i3O (n := 4400) (i3A (i3A (show (3010 : Int32) = i3 3010 from rfl) (i3M (show (60 : Int32) = i3 60 from rfl) (rfl : i3 x1 = i3 x1))) (show (5 : Int32) = i3 5 from rfl)) (by omega) (by omega) (by omega)) ?_
  refine wz_br (i3Le (zm_rd (Z := Z) (ν := ν) (k := 2) (show ((0 : Nat) : Int) = 0 from rfl) (show ((0 : Nat) : Int) = 0 from rfl) (i3I (y := (3015 + 60 * x1)) (i3A (i3A (show (3010 : Int32) = i3 3010 from rfl) (i3M (show (60 : Int32) = i3 60 from rfl) (rfl : i3 x1 = i3 x1))) (show (5 : Int32) = i3 5 from rfl)) (by omega) (by omega) (by omega))) (rfl : i3 x4 = i3 x4) (by omega) (by omega) (by omega) (by omega)) (fun h2 => ?_) (fun h2 => ?_)
  · replace hP := zE_p hP h2
    exact hk _ _ _ (zconso rfl (zconso rfl (zconso rfl (zconso (zvo (rfl : i3 x3 = i3 x3)) (zconso rfl rfl)))))  (by omega) (by omega) (by omega) hP
  · replace hP := zE_n hP h2
    refine wz_i0 (i3O (n := 4400) (i3A (i3A (i3A (i3A (show (3010 : Int32) = i3 3010 from rfl) (i3M (show (60 : Int32) = i3 60 from rfl) (rfl : i3 x1 = i3 x1))) (show (12 : Int32) = i3 12 from rfl)) (i3M (show (3 : Int32) = i3 3 from rfl) (rfl : i3 x4 = i3 x4))) (show (0 : Int32) = i3 0 from rfl)) (by omega) (by omega) (by omega)) ?_
    have r3 := zM_k hZ 2 0 0 (3022 + 60 * x1 + 3 * x4) (lo := 0) (hi := 47) (by decide) (zs_lot_0 (c := x1 + 0) (pl := x4 + 0) (by omega) (by omega) (by omega) (by omega) (by omega))
    refine wz_br (i3NE (zm_rd (Z := Z) (ν := ν) (k := 2) (show ((0 : Nat) : Int) = 0 from rfl) (show ((0 : Nat) : Int) = 0 from rfl) (i3I (y := (3022 + 60 * x1 + 3 * x4)) (i3A (i3A (i3A (i3A (show (3010 : Int32) = i3 3010 from rfl) (i3M (show (60 : Int32) = i3 60 from rfl) (rfl : i3 x1 = i3 x1))) (show (12 : Int32) = i3 12 from rfl)) (i3M (show (3 : Int32) = i3 3 from rfl) (rfl : i3 x4 = i3 x4))) (show (0 : Int32) = i3 0 from rfl)) (by omega) (by omega) (by omega))) (rfl : i3 x2 = i3 x2) (by omega) (by omega) (by omega) (by omega)) (fun h4 => ?_) (fun h4 => ?_)
    · replace hP := zE_p hP h4
      obtain ⟨m2, rfl⟩ : ∃ m2, m = m2 + 1 := ⟨m - 1, by omega⟩
      exact wz_k1 ⟨m2, by omega, x3, (x4 + 1), (zconso rfl (zconso (zvo (rfl : i3 x1 = i3 x1)) (zconso (zvo (rfl : i3 x2 = i3 x2)) (zconso (zvo (rfl : i3 x3 = i3 x3)) (zconso (zvo (i3A (rfl : i3 x4 = i3 x4) (show (1 : Int32) = i3 1 from rfl))) rfl))))), rfl,  by omega, by omega, by omega, by omega,  hP⟩
    · replace hP := zE_n hP h4
      obtain ⟨m2, rfl⟩ : ∃ m2, m = m2 + 1 := ⟨m - 1, by omega⟩
      exact wz_k1 ⟨m2, by omega, x4, (x4 + 1), (zconso rfl (zconso (zvo (rfl : i3 x1 = i3 x1)) (zconso (zvo (rfl : i3 x2 = i3 x2)) (zconso (zvo (rfl : i3 x4 = i3 x4)) (zconso (zvo (i3A (rfl : i3 x4 = i3 x4) (show (1 : Int32) = i3 1 from rfl))) rfl))))), rfl,  by omega, by omega, by omega, by omega,  hP⟩
/- yX12_cPlace -/
def zf_306 (Z : qz_Z) (a1 : Int) (a2 : Int) : Int := (zlet2 (zl_306_1 a1 a2 13 Z (-1) 0) (fun y2 y3 => y2))
theorem sp_306 {s : zSM} {Z : qz_Z} {ν : qz_N} (hZ : zM s Z) {a1 : Int} (ga1 : 0 ≤ a1 ∧ a1 ≤ 1) {a2 : Int} (ga2 : 0 ≤ a2 ∧ a2 ≤ 47) (hM : s.2 + 0 ≤ 1000000000) : ∃ P : Int, P = zf_306 Z a1 a2 ∧ (qf_306 [.inr (.inr (some (1, 0, 0))), .inl (i3 a1), .inl (i3 a2)] (zm Z ν) = some (zm Z ν, .inl (some (.inl (i3 P)))) ∧ -1 ≤ P ∧ P ≤ 11 ∧ P < Z 2 0 0 (3015 + 60 * a1)) := by
  obtain ⟨P, hP⟩ := zx (zf_306 Z a1 a2)
  refine zc_R (Q := fun P => -1 ≤ P ∧ P ≤ 11 ∧ P < Z 2 0 0 (3015 + 60 * a1)) hP (fw_306 (i3 a1) (i3 a2) _ _ ?_)
  replace hP : zE P (zf_306 Z a1 a2) := hP
  unfold zf_306 at hP
  have r1 := zM_k hZ 2 0 0 (3015 + 60 * a1) (lo := 0) (hi := 12) (by decide) (zs_3010_5 (x := (a1 + 0)) (by omega) (by omega) (by omega))
  refine sl_306_1 (ν := ν) hZ (zbh (c := 0) (k := 0) hM (Nat.le_of_ble_eq_true rfl)) (x1 := a1) (by omega) (x2 := a2) (by omega) (x3 := (-1)) (by omega) (x4 := 0) (by omega) (by omega) (zconso rfl (zconso (zvo (rfl : i3 a1 = i3 a1)) (zconso (zvo (rfl : i3 a2 = i3 a2)) (zconso (zvo (show (-1 : Int32) = i3 (-1) from rfl)) (zconso (zvo (show (0 : Int32) = i3 0 from rfl)) rfl))))) rfl ?_
  intro L4 y2 y3 hL4 gy2 gy3 gL4_0 q9
  replace hP := zl_e2 hP (Eq.symm q9)
  clear q9
  refine fc_306_2 (i3 y2) _ _ _ _ hL4 ?_
  exact zlR hP (rfl : i3 y2 = i3 y2) ⟨by omega, by omega, by omega⟩
/- yX12_cOf -/
def zl_305_1 (x1 : Int) : Nat → qz_Z → Int → Int → Int × Int
  | 0, Z, x2, x3 => (x2, x3)
  | m + 1, Z, x2, x3 => (if (Z 2 0 0 3000) ≤ x3 then (x2, x3) else (zlet (zf_306 Z x3 x1) (fun v3 => (if v3 ≠ (-1) then zl_305_1 x1 m Z x3 (x3 + 1) else zl_305_1 x1 m Z x2 (x3 + 1)))))
theorem sl_305_1 {s : zSM} {Z : qz_Z} {ν : qz_N} (hZ : zM s Z) (hM : s.2 + 0 ≤ 1000000000) {x1 : Int} (gx1 : 0 ≤ x1 ∧ x1 ≤ 47) {x2 : Int} (gx2 : -1 ≤ x2 ∧ x2 ≤ 1) {x3 : Int} (gx3 : 0 ≤ x3 ∧ x3 ≤ 2) {k : wz_K} {R : wz_R} {L : qz_L} (hL : qz_fg [true, true, true, true] L = [some (.inr (.inr (some (1, 0, 0)))), some (.inl (i3 x1)), some (.inl (i3 x2)), some (.inl (i3 x3))]) {T : Int × Int} (hP : zE T (zl_305_1 x1 ((2 - x3).toNat + 1) Z x2 x3)) (hk : ∀ (L9 : qz_L) (yx2 yx3 : Int), qz_fg [false, false, true, false] L9 = [none, none, some (.inl (i3 yx2)), none] → (-1 ≤ yx2 ∧ yx2 ≤ 1) → (0 ≤ yx3 ∧ yx3 ≤ 2) → zE T ((yx2, yx3)) → k 0 (L9, [], zm Z ν)) : wz_loop qb_305_1 65536 k R (L, [], zm Z ν) := by
  refine wz_lp sb_305_1 (fun m x => ∃ x2 : Int, ∃ x3 : Int, qz_fg [true, true, true, true] x.1 = [some (.inr (.inr (some (1, 0, 0)))), some (.inl (i3 x1)), some (.inl (i3 x2)), some (.inl (i3 x3))] ∧ x.2 = ([], zm Z ν) ∧ m = (2 - x3).toNat ∧ (-1 ≤ x2 ∧ x2 ≤ 1) ∧ (0 ≤ x3 ∧ x3 ≤ 2) ∧ zE T (zl_305_1 x1 (m + 1) Z x2 x3)) ?_ 65536 ((2 - x3).toNat) _ (by omega) ⟨x2, x3, hL, rfl, rfl, gx2, gx3, hP⟩
  clear hP gx2 gx3 hL
  clear x2 x3
  rintro m ⟨L, st, μ⟩ ⟨x2, x3, hL, hx, hm, gx2, gx3, hP⟩
  cases hx
  refine fb_305_1 (i3 x1) (i3 x2) (i3 x3) _ _ _ _ hL ?_
  have r1 := zM_k hZ 2 0 0 3000 (lo := 0) (hi := 2) (by decide) rfl
  refine wz_br (i3Le (zm_rd (Z := Z) (ν := ν) (k := 2) (show ((0 : Nat) : Int) = 0 from rfl) (show ((0 : Nat) : Int) = 0 from rfl) (show ((3000 : Nat) : Int) = 3000 from rfl)) (rfl : i3 x3 = i3 x3) (by omega) (by omega) (by omega) (by omega)) (fun h2 => ?_) (fun h2 => ?_)
  · replace hP := zE_p hP h2
    exact hk _ _ _ (zconso rfl (zconso rfl (zconso (zvo (rfl : i3 x2 = i3 x2)) (zconso rfl rfl))))  (by omega) (by omega)  hP
  · replace hP := zE_n hP h2
    obtain ⟨v3, hv3, c9, lv3, uv3, wv30⟩ := sp_306 (ν := ν) hZ (a1 := x3) (by omega) (a2 := x1) (by omega) (zbh (c := 0) (k := 0) hM (Nat.le_of_ble_eq_true rfl))
    replace hP := zl_e hP hv3
    refine wz_cI_of (zas (zcons rfl (zcons (zvi (rfl : i3 x3 = i3 x3)) (zcons (zvi (rfl : i3 x1 = i3 x1)) rfl))) c9) ?_
    clear c9
    have r4 := zM_k hZ 2 0 0 (3015 + 60 * x3) (lo := 0) (hi := 12) (by decide) (zs_3010_5 (x := (x3 + 0)) (by omega) (by omega) (by omega))
    have w5 : v3 < Z 2 0 0 (3015 + 60 * x3) := wv30
    refine wz_br (i3NE (rfl : i3 v3 = i3 v3) (show (-1 : Int32) = i3 (-1) from rfl) (by omega) (by omega) (by omega) (by omega)) (fun h6 => ?_) (fun h6 => ?_)
    · replace hP := zE_p hP h6
      obtain ⟨m2, rfl⟩ : ∃ m2, m = m2 + 1 := ⟨m - 1, by omega⟩
      exact wz_k1 ⟨m2, by omega, x3, (x3 + 1), (zconso rfl (zconso (zvo (rfl : i3 x1 = i3 x1)) (zconso (zvo (rfl : i3 x3 = i3 x3)) (zconso (zvo (i3A (rfl : i3 x3 = i3 x3) (show (1 : Int32) = i3 1 from rfl))) rfl)))), rfl,  by omega, by omega, by omega,  hP⟩
    · replace hP := zE_n hP h6
      obtain ⟨m2, rfl⟩ : ∃ m2, m = m2 + 1 := ⟨m - 1, by omega⟩
      exact wz_k1 ⟨m2, by omega, x2, (x3 + 1), (zconso rfl (zconso (zvo (rfl : i3 x1 = i3 x1)) (zconso (zvo (rfl : i3 x2 = i3 x2)) (zconso (zvo (i3A (rfl : i3 x3 = i3 x3) (show (1 : Int32) = i3 1 from rfl))) rfl)))), rfl,  by omega, by omega, by omega,  hP⟩
/- yX12_cOf -/
def zf_305 (Z : qz_Z) (a1 : Int) : Int := (zlet2 (zl_305_1 a1 3 Z (-1) 0) (fun y1 y2 => y1))
theorem sp_305 {s : zSM} {Z : qz_Z} {ν : qz_N} (hZ : zM s Z) {a1 : Int} (ga1 : 0 ≤ a1 ∧ a1 ≤ 47) (hM : s.2 + 0 ≤ 1000000000) : ∃ P : Int, P = zf_305 Z a1 ∧ (qf_305 [.inr (.inr (some (1, 0, 0))), .inl (i3 a1)] (zm Z ν) = some (zm Z ν, .inl (some (.inl (i3 P)))) ∧ -1 ≤ P ∧ P ≤ 1) := by
  obtain ⟨P, hP⟩ := zx (zf_305 Z a1)
  refine zc_R (Q := fun P => -1 ≤ P ∧ P ≤ 1) hP (fw_305 (i3 a1) _ _ ?_)
  replace hP : zE P (zf_305 Z a1) := hP
  unfold zf_305 at hP
  refine sl_305_1 (ν := ν) hZ (zbh (c := 0) (k := 0) hM (Nat.le_of_ble_eq_true rfl)) (x1 := a1) (by omega) (x2 := (-1)) (by omega) (x3 := 0) (by omega)  (zconso rfl (zconso (zvo (rfl : i3 a1 = i3 a1)) (zconso (zvo (show (-1 : Int32) = i3 (-1) from rfl)) (zconso (zvo (show (0 : Int32) = i3 0 from rfl)) rfl)))) rfl ?_
  intro L3 y1 y2 hL3 gy1 gy2 q9
  replace hP := zl_e2 hP (Eq.symm q9)
  clear q9
  refine fc_305_2 (i3 y1) _ _ _ _ hL3 ?_
  exact zlR hP (rfl : i3 y1 = i3 y1) ⟨by omega, by omega⟩
/- y by hand: where a pallet stands in a row -/
theorem z305_1 {Z : qz_Z} {x1 : Int} : ∀ (m : Nat) (x2 x3 : Int), (x2 = -1 ∨ zf_306 Z x2 x1 ≠ -1) → (zl_305_1 x1 m Z x2 x3).1 = -1 ∨ zf_306 Z (zl_305_1 x1 m Z x2 x3).1 x1 ≠ -1
  | 0, _, _, h => h
  | m + 1, x2, x3, h => by
    unfold zl_305_1
    by_cases q : Z 2 0 0 3000 ≤ x3
    · rw [if_pos q]; exact h
    · rw [if_neg q]
      show (if zf_306 Z x3 x1 ≠ -1 then zl_305_1 x1 m Z x3 (x3 + 1) else zl_305_1 x1 m Z x2 (x3 + 1)).1 = -1 ∨ zf_306 Z (if zf_306 Z x3 x1 ≠ -1 then zl_305_1 x1 m Z x3 (x3 + 1) else zl_305_1 x1 m Z x2 (x3 + 1)).1 x1 ≠ -1
      by_cases g : zf_306 Z x3 x1 ≠ -1
      · rw [if_pos g]; exact z305_1 m x3 (x3 + 1) (.inr g)
      · rw [if_neg g]; exact z305_1 m x2 (x3 + 1) h
theorem z306 {Z : qz_Z} {a v w : Int} (hv : v = zf_305 Z a) (hw : w = zf_306 Z v a) : v = -1 ∨ w ≠ -1 := by
  subst hw
  subst hv
  exact z305_1 3 (-1) 0 (.inl rfl)
/- yX12_bLost -/
def zf_276 (Z : qz_Z) (a1 : Int) : qz_Z := (zlet (zu Z 2 0 0 (1413 + 12 * (Z 2 0 0 (2011 + 16 * a1))) (w3 ((Z 2 0 0 (1413 + 12 * (Z 2 0 0 (2011 + 16 * a1)))) + (w3 (((Z 2 0 0 (2013 + 16 * a1)) * (Z 2 0 0 (2015 + 16 * a1))) - (Z 2 0 0 (1810 + 2 * a1))))))) (fun Z11 => (zlet (zu Z11 2 0 0 (1810 + 2 * a1) 0) (fun Z12 => (if (Z12 2 0 0 (1517 + 12 * (Z 2 0 0 (2012 + 16 * a1)))) ≠ 0 then Z12 else (if ((Z12 2 0 0 (1516 + 12 * (Z 2 0 0 (2012 + 16 * a1)))) + (Z12 2 0 0 (2013 + 16 * a1))) ≤ (Z12 2 0 0 (1513 + 12 * (Z 2 0 0 (2012 + 16 * a1)))) then (zlet (zu Z12 2 0 0 (1516 + 12 * (Z 2 0 0 (2012 + 16 * a1))) ((Z12 2 0 0 (1516 + 12 * (Z 2 0 0 (2012 + 16 * a1)))) + (Z12 2 0 0 (2013 + 16 * a1)))) (fun Z24 => Z24)) else (zlet (zu Z12 2 0 0 (1516 + 12 * (Z 2 0 0 (2012 + 16 * a1))) (Z12 2 0 0 (1513 + 12 * (Z 2 0 0 (2012 + 16 * a1))))) (fun Z25 => Z25))))))))
theorem sp_276 {s : zSM} {Z : qz_Z} {ν : qz_N} (hZ : zM s Z) {a1 : Int} (ga1 : 0 ≤ a1 ∧ a1 ≤ 59) (hM : s.2 + 0 ≤ 1000000000) : ∃ P : qz_Z, P = zf_276 Z a1 ∧ (qf_276 [.inr (.inr (some (1, 0, 0))), .inl (i3 a1)] (zm Z ν) = some (zm P ν, .inl none) ∧ zM s P ∧ zC [2] Z P ∧ zU [] Z P) := by
  obtain ⟨P, hP⟩ := zx (zf_276 Z a1)
  refine zc_V (Q := fun P => zM s P ∧ zC [2] Z P ∧ zU [] Z P) hP (fw_276 (i3 a1) _ _ ?_)
  replace hP : zE P (zf_276 Z a1) := hP
  unfold zf_276 at hP
  refine wz_i0 (i3O (n := 4400) (i3A (i3A (show (2010 : Int32) = i3 2010 from rfl) (i3M (show (16 : Int32) = i3 16 from rfl) (rfl : i3 a1 = i3 a1))) (show (2 : Int32) = i3 2 from rfl)) (by omega) (by omega) (by omega)) ?_
  refine wz_i0 (i3O (n := 4400) (i3A (i3A (show (2010 : Int32) = i3 2010 from rfl) (i3M (show (16 : Int32) = i3 16 from rfl) (rfl : i3 a1 = i3 a1))) (show (1 : Int32) = i3 1 from rfl)) (by omega) (by omega) (by omega)) ?_
  have r1 := zM_k hZ 2 0 0 (2011 + 16 * a1) (lo := 0) (hi := 7) (by decide) (zs_2010_1 (x := a1) (by omega) (by omega) (by omega))
  refine wz_i0 (i3O (n := 4400) (i3A (i3A (show (1410 : Int32) = i3 1410 from rfl) (i3M (show (12 : Int32) = i3 12 from rfl) (zm_rd (Z := Z) (ν := ν) (k := 2) (show ((0 : Nat) : Int) = 0 from rfl) (show ((0 : Nat) : Int) = 0 from rfl) (i3I (y := (2011 + 16 * a1)) (i3A (i3A (show (2010 : Int32) = i3 2010 from rfl) (i3M (show (16 : Int32) = i3 16 from rfl) (rfl : i3 a1 = i3 a1))) (show (1 : Int32) = i3 1 from rfl)) (by omega) (by omega) (by omega))))) (show (3 : Int32) = i3 3 from rfl)) (by omega) (by omega) (by omega)) ?_
  refine wz_i0 (i3O (n := 4400) (i3A (i3A (show (2010 : Int32) = i3 2010 from rfl) (i3M (show (16 : Int32) = i3 16 from rfl) (rfl : i3 a1 = i3 a1))) (show (3 : Int32) = i3 3 from rfl)) (by omega) (by omega) (by omega)) ?_
  refine wz_i0 (i3O (n := 4400) (i3A (i3A (show (2010 : Int32) = i3 2010 from rfl) (i3M (show (16 : Int32) = i3 16 from rfl) (rfl : i3 a1 = i3 a1))) (show (5 : Int32) = i3 5 from rfl)) (by omega) (by omega) (by omega)) ?_
  refine wz_i0 (i3O (n := 4400) (i3A (show (1810 : Int32) = i3 1810 from rfl) (i3M (show (2 : Int32) = i3 2 from rfl) (rfl : i3 a1 = i3 a1))) (by omega) (by omega) (by omega)) ?_
  refine wz_i0 (i3O (n := 4400) (i3A (i3A (show (1410 : Int32) = i3 1410 from rfl) (i3M (show (12 : Int32) = i3 12 from rfl) (zm_rd (Z := Z) (ν := ν) (k := 2) (show ((0 : Nat) : Int) = 0 from rfl) (show ((0 : Nat) : Int) = 0 from rfl) (i3I (y := (2011 + 16 * a1)) (i3A (i3A (show (2010 : Int32) = i3 2010 from rfl) (i3M (show (16 : Int32) = i3 16 from rfl) (rfl : i3 a1 = i3 a1))) (show (1 : Int32) = i3 1 from rfl)) (by omega) (by omega) (by omega))))) (show (3 : Int32) = i3 3 from rfl)) (by omega) (by omega) (by omega)) ?_
  have r2 := zM_f hZ 2 0 0 (1413 + 12 * (Z 2 0 0 (2011 + 16 * a1)))
  have r3 := zM_k hZ 2 0 0 (2013 + 16 * a1) (lo := 0) (hi := 40) (by decide) (zs_2010_3 (x := a1) (by omega) (by omega) (by omega))
  have r4 := zM_cr hZ a1
  have r5 := zM_k hZ 2 0 0 2000 (lo := 0) (hi := 60) (by decide) rfl
  have r6 := zM_k hZ 2 0 0 (2015 + 16 * a1) (lo := 0) (hi := 9999) (by decide) (zs_2010_5 (x := a1) (by omega) (by omega) (by omega))
  have r7 := z_mul (x := (Z 2 0 0 (2013 + 16 * a1))) (y := (Z 2 0 0 (2015 + 16 * a1))) (a := 40) (b := 9999) (by omega) (by omega) (by omega) (by omega)
  have r8 := zM_f hZ 2 0 0 (1810 + 2 * a1)
  have r9 := w3_r (((Z 2 0 0 (2013 + 16 * a1)) * (Z 2 0 0 (2015 + 16 * a1))) - (Z 2 0 0 (1810 + 2 * a1)))
  have r10 := w3_r ((Z 2 0 0 (1413 + 12 * (Z 2 0 0 (2011 + 16 * a1)))) + (w3 (((Z 2 0 0 (2013 + 16 * a1)) * (Z 2 0 0 (2015 + 16 * a1))) - (Z 2 0 0 (1810 + 2 * a1)))))
  obtain ⟨Z11, hZ11⟩ := zx (zu Z 2 0 0 (1413 + 12 * (Z 2 0 0 (2011 + 16 * a1))) (w3 ((Z 2 0 0 (1413 + 12 * (Z 2 0 0 (2011 + 16 * a1)))) + (w3 (((Z 2 0 0 (2013 + 16 * a1)) * (Z 2 0 0 (2015 + 16 * a1))) - (Z 2 0 0 (1810 + 2 * a1)))))))
  replace hP := zl_e hP hZ11
  have hZ11I := zM_u2 hZ hZ11 (lo := -2147483648) (hi := 2147483647) (zs_1410_3 (x := (Z 2 0 0 (2011 + 16 * a1))) (by omega) (by omega) (by omega)) (by omega) ⟨by decide, by decide⟩ (by simp only [zsp]; omega)
  have hZ11U : zU [] Z Z11 := zU_u zU_r hZ11 (Or.inl rfl)
  have hZ11K : zC [2] Z Z11 := zC_u zC_r hZ11 (zcl_2w (by omega) rfl)
  intro μ9 e9
  replace e9 := e9.trans (zm_wI (Z := Z) (ν := ν) hZ11 (show ((0 : Nat) : Int) = 0 from rfl) (show ((0 : Nat) : Int) = 0 from rfl) (i3I (y := (1413 + 12 * (Z 2 0 0 (2011 + 16 * a1)))) (i3A (i3A (show (1410 : Int32) = i3 1410 from rfl) (i3M (show (12 : Int32) = i3 12 from rfl) (zm_rd (Z := Z) (ν := ν) (k := 2) (show ((0 : Nat) : Int) = 0 from rfl) (show ((0 : Nat) : Int) = 0 from rfl) (i3I (y := (2011 + 16 * a1)) (i3A (i3A (show (2010 : Int32) = i3 2010 from rfl) (i3M (show (16 : Int32) = i3 16 from rfl) (rfl : i3 a1 = i3 a1))) (show (1 : Int32) = i3 1 from rfl)) (by omega) (by omega) (by omega))))) (show (3 : Int32) = i3 3 from rfl)) (by omega) (by omega) (by omega)) (i3W (i3A (zm_rd (Z := Z) (ν := ν) (k := 2) (show ((0 : Nat) : Int) = 0 from rfl) (show ((0 : Nat) : Int) = 0 from rfl) (i3I (y := (1413 + 12 * (Z 2 0 0 (2011 + 16 * a1)))) (i3A (i3A (show (1410 : Int32) = i3 1410 from rfl) (i3M (show (12 : Int32) = i3 12 from rfl) (zm_rd (Z := Z) (ν := ν) (k := 2) (show ((0 : Nat) : Int) = 0 from rfl) (show ((0 : Nat) : Int) = 0 from rfl) (i3I (y := (2011 + 16 * a1)) (i3A (i3A (show (2010 : Int32) = i3 2010 from rfl) (i3M (show (16 : Int32) = i3 16 from rfl) (rfl : i3 a1 = i3 a1))) (show (1 : Int32) = i3 1 from rfl)) (by omega) (by omega) (by omega))))) (show (3 : Int32) = i3 3 from rfl)) (by omega) (by omega) (by omega))) (i3W (i3S (i3M (zm_rd (Z := Z) (ν := ν) (k := 2) (show ((0 : Nat) : Int) = 0 from rfl) (show ((0 : Nat) : Int) = 0 from rfl) (i3I (y := (2013 + 16 * a1)) (i3A (i3A (show (2010 : Int32) = i3 2010 from rfl) (i3M (show (16 : Int32) = i3 16 from rfl) (rfl : i3 a1 = i3 a1))) (show (3 : Int32) = i3 3 from rfl)) (by omega) (by omega) (by omega))) (zm_rd (Z := Z) (ν := ν) (k := 2) (show ((0 : Nat) : Int) = 0 from rfl) (show ((0 : Nat) : Int) = 0 from rfl) (i3I (y := (2015 + 16 * a1)) (i3A (i3A (show (2010 : Int32) = i3 2010 from rfl) (i3M (show (16 : Int32) = i3 16 from rfl) (rfl : i3 a1 = i3 a1))) (show (5 : Int32) = i3 5 from rfl)) (by omega) (by omega) (by omega)))) (zm_rd (Z := Z) (ν := ν) (k := 2) (show ((0 : Nat) : Int) = 0 from rfl) (show ((0 : Nat) : Int) = 0 from rfl) (i3I (y := (1810 + 2 * a1)) (i3A (show (1810 : Int32) = i3 1810 from rfl) (i3M (show (2 : Int32) = i3 2 from rfl) (rfl : i3 a1 = i3 a1))) (by omega) (by omega) (by omega))))))))
  subst e9
  refine wz_i0 (i3O (n := 4400) (i3A (show (1810 : Int32) = i3 1810 from rfl) (i3M (show (2 : Int32) = i3 2 from rfl) (rfl : i3 a1 = i3 a1))) (by omega) (by omega) (by omega)) ?_
  obtain ⟨Z12, hZ12⟩ := zx (zu Z11 2 0 0 (1810 + 2 * a1) 0)
  replace hP := zl_e hP hZ12
  have hZ12I := zM_02 hZ11I hZ12 (by simp only [zsp]; omega)
  have hZ12U : zU [] Z Z12 := zU_u hZ11U hZ12 (Or.inl rfl)
  have hZ12K : zC [2] Z Z12 := zC_u hZ11K hZ12 (zcl_2w (by omega) rfl)
  intro μ9 e9
  replace e9 := e9.trans (zm_wI (Z := Z11) (ν := ν) hZ12 (show ((0 : Nat) : Int) = 0 from rfl) (show ((0 : Nat) : Int) = 0 from rfl) (i3I (y := (1810 + 2 * a1)) (i3A (show (1810 : Int32) = i3 1810 from rfl) (i3M (show (2 : Int32) = i3 2 from rfl) (rfl : i3 a1 = i3 a1))) (by omega) (by omega) (by omega)) (show (0 : Int32) = i3 0 from rfl))
  subst e9
  have r13 := zM_k hZ 2 0 0 (2012 + 16 * a1) (lo := 0) (hi := 23) (by decide) (zs_2010_2 (x := a1) (by omega) (by omega) (by omega))
  refine wz_i0 (i3O (n := 4400) (i3A (i3A (show (1510 : Int32) = i3 1510 from rfl) (i3M (show (12 : Int32) = i3 12 from rfl) (zm_rd (Z := Z) (ν := ν) (k := 2) (show ((0 : Nat) : Int) = 0 from rfl) (show ((0 : Nat) : Int) = 0 from rfl) (i3I (y := (2012 + 16 * a1)) (i3A (i3A (show (2010 : Int32) = i3 2010 from rfl) (i3M (show (16 : Int32) = i3 16 from rfl) (rfl : i3 a1 = i3 a1))) (show (2 : Int32) = i3 2 from rfl)) (by omega) (by omega) (by omega))))) (show (7 : Int32) = i3 7 from rfl)) (by omega) (by omega) (by omega)) ?_
  have r14 := zM_k hZ12I 2 0 0 (1517 + 12 * (Z 2 0 0 (2012 + 16 * a1))) (lo := 0) (hi := 1) (by decide) (zs_1510_7 (x := (Z 2 0 0 (2012 + 16 * a1))) (by omega) (by omega) (by omega))
  refine wz_br (i3NE (zm_rd (Z := Z12) (ν := ν) (k := 2) (show ((0 : Nat) : Int) = 0 from rfl) (show ((0 : Nat) : Int) = 0 from rfl) (i3I (y := (1517 + 12 * (Z 2 0 0 (2012 + 16 * a1)))) (i3A (i3A (show (1510 : Int32) = i3 1510 from rfl) (i3M (show (12 : Int32) = i3 12 from rfl) (zm_rd (Z := Z) (ν := ν) (k := 2) (show ((0 : Nat) : Int) = 0 from rfl) (show ((0 : Nat) : Int) = 0 from rfl) (i3I (y := (2012 + 16 * a1)) (i3A (i3A (show (2010 : Int32) = i3 2010 from rfl) (i3M (show (16 : Int32) = i3 16 from rfl) (rfl : i3 a1 = i3 a1))) (show (2 : Int32) = i3 2 from rfl)) (by omega) (by omega) (by omega))))) (show (7 : Int32) = i3 7 from rfl)) (by omega) (by omega) (by omega))) (show (0 : Int32) = i3 0 from rfl) (by omega) (by omega) (by omega) (by omega)) (fun h15 => ?_) (fun h15 => ?_)
  · replace hP := zE_p hP h15
    exact zlV hP ⟨hZ12I, hZ12K, hZ12U⟩
  · replace hP := zE_n hP h15
    refine wz_i0 (i3O (n := 4400) (i3A (i3A (show (1510 : Int32) = i3 1510 from rfl) (i3M (show (12 : Int32) = i3 12 from rfl) (zm_rd (Z := Z) (ν := ν) (k := 2) (show ((0 : Nat) : Int) = 0 from rfl) (show ((0 : Nat) : Int) = 0 from rfl) (i3I (y := (2012 + 16 * a1)) (i3A (i3A (show (2010 : Int32) = i3 2010 from rfl) (i3M (show (16 : Int32) = i3 16 from rfl) (rfl : i3 a1 = i3 a1))) (show (2 : Int32) = i3 2 from rfl)) (by omega) (by omega) (by omega))))) (show (6 : Int32) = i3 6 from rfl)) (by omega) (by omega) (by omega)) ?_
    refine wz_i0 (i3O (n := 4400) (i3A (i3A (show (2010 : Int32) = i3 2010 from rfl) (i3M (show (16 : Int32) = i3 16 from rfl) (rfl : i3 a1 = i3 a1))) (show (3 : Int32) = i3 3 from rfl)) (by omega) (by omega) (by omega)) ?_
    refine wz_i0 (i3O (n := 4400) (i3A (i3A (show (1510 : Int32) = i3 1510 from rfl) (i3M (show (12 : Int32) = i3 12 from rfl) (zm_rd (Z := Z) (ν := ν) (k := 2) (show ((0 : Nat) : Int) = 0 from rfl) (show ((0 : Nat) : Int) = 0 from rfl) (i3I (y := (2012 + 16 * a1)) (i3A (i3A (show (2010 : Int32) = i3 2010 from rfl) (i3M (show (16 : Int32) = i3 16 from rfl) (rfl : i3 a1 = i3 a1))) (show (2 : Int32) = i3 2 from rfl)) (by omega) (by omega) (by omega))))) (show (3 : Int32) = i3 3 from rfl)) (by omega) (by omega) (by omega)) ?_
    have r16 := zM_k hZ12I 2 0 0 (1516 + 12 * (Z 2 0 0 (2012 + 16 * a1))) (lo := 0) (hi := 99) (by decide) (zs_1510_6 (x := (Z 2 0 0 (2012 + 16 * a1))) (by omega) (by omega) (by omega))
    have r17 := zM_k hZ12I 2 0 0 (2013 + 16 * a1) (lo := 0) (hi := 40) (by decide) (zs_2010_3 (x := a1) (by omega) (by omega) (by omega))
    have r18 := zM_cr hZ12I a1
    have r19 := zM_k hZ12I 2 0 0 2000 (lo := 0) (hi := 60) (by decide) rfl
    have q20 := (zu_ne (k' := 2) (b' := 0) (i' := 0) (j' := 2000) hZ12 (fun q => absurd q.2.2.2 (by omega))).trans (zu_ne (k' := 2) (b' := 0) (i' := 0) (j' := 2000) hZ11 (fun q => absurd q.2.2.2 (by omega)))
    have q21 := (zu_ne (k' := 2) (b' := 0) (i' := 0) (j' := (2013 + 16 * a1)) hZ12 (fun q => absurd q.2.2.2 (by omega))).trans (zu_ne (k' := 2) (b' := 0) (i' := 0) (j' := (2013 + 16 * a1)) hZ11 (fun q => absurd q.2.2.2 (by omega)))
    have r22 := zM_k hZ12I 2 0 0 (1513 + 12 * (Z 2 0 0 (2012 + 16 * a1))) (lo := 0) (hi := 99) (by decide) (zs_1510_3 (x := (Z 2 0 0 (2012 + 16 * a1))) (by omega) (by omega) (by omega))
    refine wz_br (i3Le (i3A (zm_rd (Z := Z12) (ν := ν) (k := 2) (show ((0 : Nat) : Int) = 0 from rfl) (show ((0 : Nat) : Int) = 0 from rfl) (i3I (y := (1516 + 12 * (Z 2 0 0 (2012 + 16 * a1)))) (i3A (i3A (show (1510 : Int32) = i3 1510 from rfl) (i3M (show (12 : Int32) = i3 12 from rfl) (zm_rd (Z := Z) (ν := ν) (k := 2) (show ((0 : Nat) : Int) = 0 from rfl) (show ((0 : Nat) : Int) = 0 from rfl) (i3I (y := (2012 + 16 * a1)) (i3A (i3A (show (2010 : Int32) = i3 2010 from rfl) (i3M (show (16 : Int32) = i3 16 from rfl) (rfl : i3 a1 = i3 a1))) (show (2 : Int32) = i3 2 from rfl)) (by omega) (by omega) (by omega))))) (show (6 : Int32) = i3 6 from rfl)) (by omega) (by omega) (by omega))) (zm_rd (Z := Z12) (ν := ν) (k := 2) (show ((0 : Nat) : Int) = 0 from rfl) (show ((0 : Nat) : Int) = 0 from rfl) (i3I (y := (2013 + 16 * a1)) (i3A (i3A (show (2010 : Int32) = i3 2010 from rfl) (i3M (show (16 : Int32) = i3 16 from rfl) (rfl : i3 a1 = i3 a1))) (show (3 : Int32) = i3 3 from rfl)) (by omega) (by omega) (by omega)))) (zm_rd (Z := Z12) (ν := ν) (k := 2) (show ((0 : Nat) : Int) = 0 from rfl) (show ((0 : Nat) : Int) = 0 from rfl) (i3I (y := (1513 + 12 * (Z 2 0 0 (2012 + 16 * a1)))) (i3A (i3A (show (1510 : Int32) = i3 1510 from rfl) (i3M (show (12 : Int32) = i3 12 from rfl) (zm_rd (Z := Z) (ν := ν) (k := 2) (show ((0 : Nat) : Int) = 0 from rfl) (show ((0 : Nat) : Int) = 0 from rfl) (i3I (y := (2012 + 16 * a1)) (i3A (i3A (show (2010 : Int32) = i3 2010 from rfl) (i3M (show (16 : Int32) = i3 16 from rfl) (rfl : i3 a1 = i3 a1))) (show (2 : Int32) = i3 2 from rfl)) (by omega) (by omega) (by omega))))) (show (3 : Int32) = i3 3 from rfl)) (by omega) (by omega) (by omega))) (by omega) (by omega) (by omega) (by omega)) (fun h23 => ?_) (fun h23 => ?_)
    · replace hP := zE_p hP h23
      refine wz_i0 (i3O (n := 4400) (i3A (i3A (show (1510 : Int32) = i3 1510 from rfl) (i3M (show (12 : Int32) = i3 12 from rfl) (zm_rd (Z := Z) (ν := ν) (k := 2) (show ((0 : Nat) : Int) = 0 from rfl) (show ((0 : Nat) : Int) = 0 from rfl) (i3I (y := (2012 + 16 * a1)) (i3A (i3A (show (2010 : Int32) = i3 2010 from rfl) (i3M (show (16 : Int32) = i3 16 from rfl) (rfl : i3 a1 = i3 a1))) (show (2 : Int32) = i3 2 from rfl)) (by omega) (by omega) (by omega))))) (show (6 : Int32) = i3 6 from rfl)) (by omega) (by omega) (by omega)) ?_
      obtain ⟨Z24, hZ24⟩ := zx (zu Z12 2 0 0 (1516 + 12 * (Z 2 0 0 (2012 + 16 * a1))) ((Z12 2 0 0 (1516 + 12 * (Z 2 0 0 (2012 + 16 * a1)))) + (Z12 2 0 0 (2013 + 16 * a1))))
      replace hP := zl_e hP hZ24
      have hZ24I := zM_u2 hZ12I hZ24 (lo := 0) (hi := 99) (zs_1510_6 (x := (Z 2 0 0 (2012 + 16 * a1))) (by omega) (by omega) (by omega)) (by omega) ⟨by decide, by decide⟩ (by simp only [zsp]; omega)
      have hZ24U : zU [] Z Z24 := zU_u hZ12U hZ24 (Or.inl rfl)
      have hZ24K : zC [2] Z Z24 := zC_u hZ12K hZ24 (zcl_2w (by omega) rfl)
      intro μ9 e9
      replace e9 := e9.trans (zm_wI (Z := Z12) (ν := ν) hZ24 (show ((0 : Nat) : Int) = 0 from rfl) (show ((0 : Nat) : Int) = 0 from rfl) (i3I (y := (1516 + 12 * (Z 2 0 0 (2012 + 16 * a1)))) (i3A (i3A (show (1510 : Int32) = i3 1510 from rfl) (i3M (show (12 : Int32) = i3 12 from rfl) (zm_rd (Z := Z) (ν := ν) (k := 2) (show ((0 : Nat) : Int) = 0 from rfl) (show ((0 : Nat) : Int) = 0 from rfl) (i3I (y := (2012 + 16 * a1)) (i3A (i3A (show (2010 : Int32) = i3 2010 from rfl) (i3M (show (16 : Int32) = i3 16 from rfl) (rfl : i3 a1 = i3 a1))) (show (2 : Int32) = i3 2 from rfl)) (by omega) (by omega) (by omega))))) (show (6 : Int32) = i3 6 from rfl)) (by omega) (by omega) (by omega)) (i3A (zm_rd (Z := Z12) (ν := ν) (k := 2) (show ((0 : Nat) : Int) = 0 from rfl) (show ((0 : Nat) : Int) = 0 from rfl) (i3I (y := (1516 + 12 * (Z 2 0 0 (2012 + 16 * a1)))) (i3A (i3A (show (1510 : Int32) = i3 1510 from rfl) (i3M (show (12 : Int32) = i3 12 from rfl) (zm_rd (Z := Z) (ν := ν) (k := 2) (show ((0 : Nat) : Int) = 0 from rfl) (show ((0 : Nat) : Int) = 0 from rfl) (i3I (y := (2012 + 16 * a1)) (i3A (i3A (show (2010 : Int32) = i3 2010 from rfl) (i3M (show (16 : Int32) = i3 16 from rfl) (rfl : i3 a1 = i3 a1))) (show (2 : Int32) = i3 2 from rfl)) (by omega) (by omega) (by omega))))) (show (6 : Int32) = i3 6 from rfl)) (by omega) (by omega) (by omega))) (zm_rd (Z := Z12) (ν := ν) (k := 2) (show ((0 : Nat) : Int) = 0 from rfl) (show ((0 : Nat) : Int) = 0 from rfl) (i3I (y := (2013 + 16 * a1)) (i3A (i3A (show (2010 : Int32) = i3 2010 from rfl) (i3M (show (16 : Int32) = i3 16 from rfl) (rfl : i3 a1 = i3 a1))) (show (3 : Int32) = i3 3 from rfl)) (by omega) (by omega) (by omega)))))
      subst e9
      exact zlV hP ⟨hZ24I, hZ24K, hZ24U⟩
    · replace hP := zE_n hP h23
      refine wz_i0 (i3O (n := 4400) (i3A (i3A (show (1510 : Int32) = i3 1510 from rfl) (i3M (show (12 : Int32) = i3 12 from rfl) (zm_rd (Z := Z) (ν := ν) (k := 2) (show ((0 : Nat) : Int) = 0 from rfl) (show ((0 : Nat) : Int) = 0 from rfl) (i3I (y := (2012 + 16 * a1)) (i3A (i3A (show (2010 : Int32) = i3 2010 from rfl) (i3M (show (16 : Int32) = i3 16 from rfl) (rfl : i3 a1 = i3 a1))) (show (2 : Int32) = i3 2 from rfl)) (by omega) (by omega) (by omega))))) (show (3 : Int32) = i3 3 from rfl)) (by omega) (by omega) (by omega)) ?_
      refine wz_i0 (i3O (n := 4400) (i3A (i3A (show (1510 : Int32) = i3 1510 from rfl) (i3M (show (12 : Int32) = i3 12 from rfl) (zm_rd (Z := Z) (ν := ν) (k := 2) (show ((0 : Nat) : Int) = 0 from rfl) (show ((0 : Nat) : Int) = 0 from rfl) (i3I (y := (2012 + 16 * a1)) (i3A (i3A (show (2010 : Int32) = i3 2010 from rfl) (i3M (show (16 : Int32) = i3 16 from rfl) (rfl : i3 a1 = i3 a1))) (show (2 : Int32) = i3 2 from rfl)) (by omega) (by omega) (by omega))))) (show (6 : Int32) = i3 6 from rfl)) (by omega) (by omega) (by omega)) ?_
      obtain ⟨Z25, hZ25⟩ := zx (zu Z12 2 0 0 (1516 + 12 * (Z 2 0 0 (2012 + 16 * a1))) (Z12 2 0 0 (1513 + 12 * (Z 2 0 0 (2012 + 16 * a1)))))
      replace hP := zl_e hP hZ25
      have hZ25I := zM_u2 hZ12I hZ25 (lo := 0) (hi := 99) (zs_1510_6 (x := (Z 2 0 0 (2012 + 16 * a1))) (by omega) (by omega) (by omega)) (by omega) ⟨by decide, by decide⟩ (by simp only [zsp]; omega)
      have hZ25U : zU [] Z Z25 := zU_u hZ12U hZ25 (Or.inl rfl)
      have hZ25K : zC [2] Z Z25 := zC_u hZ12K hZ25 (zcl_2w (by omega) rfl)
      intro μ9 e9
      replace e9 := e9.trans (zm_wI (Z := Z12) (ν := ν) hZ25 (show ((0 : Nat) : Int) = 0 from rfl) (show ((0 : Nat) : Int) = 0 from rfl) (i3I (y := (1516 + 12 * (Z 2 0 0 (2012 + 16 * a1)))) (i3A (i3A (show (1510 : Int32) = i3 1510 from rfl) (i3M (show (12 : Int32) = i3 12 from rfl) (zm_rd (Z := Z) (ν := ν) (k := 2) (show ((0 : Nat) : Int) = 0 from rfl) (show ((0 : Nat) : Int) = 0 from rfl) (i3I (y := (2012 + 16 * a1)) (i3A (i3A (show (2010 : Int32) = i3 2010 from rfl) (i3M (show (16 : Int32) = i3 16 from rfl) (rfl : i3 a1 = i3 a1))) (show (2 : Int32) = i3 2 from rfl)) (by omega) (by omega) (by omega))))) (show (6 : Int32) = i3 6 from rfl)) (by omega) (by omega) (by omega)) (zm_rd (Z := Z12) (ν := ν) (k := 2) (show ((0 : Nat) : Int) = 0 from rfl) (show ((0 : Nat) : Int) = 0 from rfl) (i3I (y := (1513 + 12 * (Z 2 0 0 (2012 + 16 * a1)))) (i3A (i3A (show (1510 : Int32) = i3 1510 from rfl) (i3M (show (12 : Int32) = i3 12 from rfl) (zm_rd (Z := Z) (ν := ν) (k := 2) (show ((0 : Nat) : Int) = 0 from rfl) (show ((0 : Nat) : Int) = 0 from rfl) (i3I (y := (2012 + 16 * a1)) (i3A (i3A (show (2010 : Int32) = i3 2010 from rfl) (i3M (show (16 : Int32) = i3 16 from rfl) (rfl : i3 a1 = i3 a1))) (show (2 : Int32) = i3 2 from rfl)) (by omega) (by omega) (by omega))))) (show (3 : Int32) = i3 3 from rfl)) (by omega) (by omega) (by omega))))
      subst e9
      exact zlV hP ⟨hZ25I, hZ25K, hZ25U⟩
/- yX12_mWaiting -/
def zl_435_1 (x1 : Int) : Nat → qz_Z → Int → Int → Int × Int
  | 0, Z, x2, x3 => (x2, x3)
  | m + 1, Z, x2, x3 => (if (Z 2 0 0 2000) ≤ x3 then (x2, x3) else (if (Z 2 0 0 (2010 + 16 * x3)) ≠ x1 then zl_435_1 x1 m Z (x2 + 0) (x3 + 1) else (if (Z 2 0 0 (2019 + 16 * x3)) ≠ 0 then zl_435_1 x1 m Z (x2 + 0) (x3 + 1) else zl_435_1 x1 m Z (x2 + 1) (x3 + 1))))
theorem sl_435_1 {s : zSM} {Z : qz_Z} {ν : qz_N} (hZ : zM s Z) (hM : s.2 + 0 ≤ 1000000000) {x1 : Int} (gx1 : 0 ≤ x1 ∧ x1 ≤ 47) {x2 : Int} (gx2 : 0 ≤ x2 ∧ x2 ≤ 60) {x3 : Int} (gx3 : 0 ≤ x3 ∧ x3 ≤ 60) (gr0 : x2 ≤ x3) {k : wz_K} {R : wz_R} {L : qz_L} (hL : qz_fg [true, true, true, true] L = [some (.inr (.inr (some (1, 0, 0)))), some (.inl (i3 x1)), some (.inl (i3 x2)), some (.inl (i3 x3))]) {T : Int × Int} (hP : zE T (zl_435_1 x1 ((60 - x3).toNat + 1) Z x2 x3)) (hk : ∀ (L9 : qz_L) (yx2 yx3 : Int), qz_fg [false, false, true, false] L9 = [none, none, some (.inl (i3 yx2)), none] → (0 ≤ yx2 ∧ yx2 ≤ 60) → (0 ≤ yx3 ∧ yx3 ≤ 60) → (yx2 ≤ yx3) → zE T ((yx2, yx3)) → k 0 (L9, [], zm Z ν)) : wz_loop qb_435_1 65536 k R (L, [], zm Z ν) := by
  refine wz_lp sb_435_1 (fun m x => ∃ x2 : Int, ∃ x3 : Int, qz_fg [true, true, true, true] x.1 = [some (.inr (.inr (some (1, 0, 0)))), some (.inl (i3 x1)), some (.inl (i3 x2)), some (.inl (i3 x3))] ∧ x.2 = ([], zm Z ν) ∧ m = (60 - x3).toNat ∧ (0 ≤ x2 ∧ x2 ≤ 60) ∧ (0 ≤ x3 ∧ x3 ≤ 60) ∧ (x2 ≤ x3) ∧ zE T (zl_435_1 x1 (m + 1) Z x2 x3)) ?_ 65536 ((60 - x3).toNat) _ (by omega) ⟨x2, x3, hL, rfl, rfl, gx2, gx3, gr0, hP⟩
  clear hP gr0 gx2 gx3 hL
  clear x2 x3
  rintro m ⟨L, st, μ⟩ ⟨x2, x3, hL, hx, hm, gx2, gx3, gr0, hP⟩
  cases hx
  refine fb_435_1 (i3 x1) (i3 x2) (i3 x3) _ _ _ _ hL ?_
  have r1 := zM_k hZ 2 0 0 2000 (lo := 0) (hi := 60) (by decide) rfl
  refine wz_br (i3Le (zm_rd (Z := Z) (ν := ν) (k := 2) (show ((0 : Nat) : Int) = 0 from rfl) (show ((0 : Nat) : Int) = 0 from rfl) (show ((2000 : Nat) : Int) = 2000 from rfl)) (rfl : i3 x3 = i3 x3) (by omega) (by omega) (by omega) (by omega)) (fun h2 => ?_) (fun h2 => ?_)
  · replace hP := zE_p hP h2
    exact hk _ _ _ (zconso rfl (zconso rfl (zconso (zvo (rfl : i3 x2 = i3 x2)) (zconso rfl rfl))))  (by omega) (by omega) (by omega) hP
  · replace hP := zE_n hP h2
    refine wz_i0 (i3O (n := 4400) (i3A (i3A (show (2010 : Int32) = i3 2010 from rfl) (i3M (show (16 : Int32) = i3 16 from rfl) (rfl : i3 x3 = i3 x3))) (show (0 : Int32) = i3 0 from rfl)) (by omega) (by omega) (by omega)) ?_
    have r3 := zM_k hZ 2 0 0 (2010 + 16 * x3) (lo := 0) (hi := 47) (by decide) (zs_2010_0 (x := x3) (by omega) (by omega) (by omega))
    refine wz_br (i3NE (zm_rd (Z := Z) (ν := ν) (k := 2) (show ((0 : Nat) : Int) = 0 from rfl) (show ((0 : Nat) : Int) = 0 from rfl) (i3I (y := (2010 + 16 * x3)) (i3A (i3A (show (2010 : Int32) = i3 2010 from rfl) (i3M (show (16 : Int32) = i3 16 from rfl) (rfl : i3 x3 = i3 x3))) (show (0 : Int32) = i3 0 from rfl)) (by omega) (by omega) (by omega))) (rfl : i3 x1 = i3 x1) (by omega) (by omega) (by omega) (by omega)) (fun h4 => ?_) (fun h4 => ?_)
    · replace hP := zE_p hP h4
      obtain ⟨m2, rfl⟩ : ∃ m2, m = m2 + 1 := ⟨m - 1, by omega⟩
      exact wz_k1 ⟨m2, by omega, (x2 + 0), (x3 + 1), (zconso rfl (zconso (zvo (rfl : i3 x1 = i3 x1)) (zconso (zvo (i3A (rfl : i3 x2 = i3 x2) (show (0 : Int32) = i3 0 from rfl))) (zconso (zvo (i3A (rfl : i3 x3 = i3 x3) (show (1 : Int32) = i3 1 from rfl))) rfl)))), rfl,  by omega, by omega, by omega, by omega,  hP⟩
    · replace hP := zE_n hP h4
      refine wz_i0 (i3O (n := 4400) (i3A (i3A (show (2010 : Int32) = i3 2010 from rfl) (i3M (show (16 : Int32) = i3 16 from rfl) (rfl : i3 x3 = i3 x3))) (show (9 : Int32) = i3 9 from rfl)) (by omega) (by omega) (by omega)) ?_
      have r5 := zM_k hZ 2 0 0 (2019 + 16 * x3) (lo := 0) (hi := 3) (by decide) (zs_2010_9 (x := x3) (by omega) (by omega) (by omega))
      have r6 := zM_lt2 hZ x3
      refine wz_br (i3NE (zm_rd (Z := Z) (ν := ν) (k := 2) (show ((0 : Nat) : Int) = 0 from rfl) (show ((0 : Nat) : Int) = 0 from rfl) (i3I (y := (2019 + 16 * x3)) (i3A (i3A (show (2010 : Int32) = i3 2010 from rfl) (i3M (show (16 : Int32) = i3 16 from rfl) (rfl : i3 x3 = i3 x3))) (show (9 : Int32) = i3 9 from rfl)) (by omega) (by omega) (by omega))) (show (0 : Int32) = i3 0 from rfl) (by omega) (by omega) (by omega) (by omega)) (fun h7 => ?_) (fun h7 => ?_)
      · replace hP := zE_p hP h7
        obtain ⟨m2, rfl⟩ : ∃ m2, m = m2 + 1 := ⟨m - 1, by omega⟩
        exact wz_k1 ⟨m2, by omega, (x2 + 0), (x3 + 1), (zconso rfl (zconso (zvo (rfl : i3 x1 = i3 x1)) (zconso (zvo (i3A (rfl : i3 x2 = i3 x2) (show (0 : Int32) = i3 0 from rfl))) (zconso (zvo (i3A (rfl : i3 x3 = i3 x3) (show (1 : Int32) = i3 1 from rfl))) rfl)))), rfl,  by omega, by omega, by omega, by omega,  hP⟩
      · replace hP := zE_n hP h7
        obtain ⟨m2, rfl⟩ : ∃ m2, m = m2 + 1 := ⟨m - 1, by omega⟩
        exact wz_k1 ⟨m2, by omega, (x2 + 1), (x3 + 1), (zconso rfl (zconso (zvo (rfl : i3 x1 = i3 x1)) (zconso (zvo (i3A (rfl : i3 x2 = i3 x2) (show (1 : Int32) = i3 1 from rfl))) (zconso (zvo (i3A (rfl : i3 x3 = i3 x3) (show (1 : Int32) = i3 1 from rfl))) rfl)))), rfl,  by omega, by omega, by omega, by omega,  hP⟩
/- yX12_mWaiting -/
def zf_435 (Z : qz_Z) (a1 : Int) : Int := (zlet2 (zl_435_1 a1 61 Z 0 0) (fun y1 y2 => y1))
theorem sp_435 {s : zSM} {Z : qz_Z} {ν : qz_N} (hZ : zM s Z) {a1 : Int} (ga1 : 0 ≤ a1 ∧ a1 ≤ 47) (hM : s.2 + 0 ≤ 1000000000) : ∃ P : Int, P = zf_435 Z a1 ∧ (qf_435 [.inr (.inr (some (1, 0, 0))), .inl (i3 a1)] (zm Z ν) = some (zm Z ν, .inl (some (.inl (i3 P)))) ∧ 0 ≤ P ∧ P ≤ 60) := by
  obtain ⟨P, hP⟩ := zx (zf_435 Z a1)
  refine zc_R (Q := fun P => 0 ≤ P ∧ P ≤ 60) hP (fw_435 (i3 a1) _ _ ?_)
  replace hP : zE P (zf_435 Z a1) := hP
  unfold zf_435 at hP
  refine sl_435_1 (ν := ν) hZ (zbh (c := 0) (k := 0) hM (Nat.le_of_ble_eq_true rfl)) (x1 := a1) (by omega) (x2 := 0) (by omega) (x3 := 0) (by omega) (by omega) (zconso rfl (zconso (zvo (rfl : i3 a1 = i3 a1)) (zconso (zvo (show (0 : Int32) = i3 0 from rfl)) (zconso (zvo (show (0 : Int32) = i3 0 from rfl)) rfl)))) rfl ?_
  intro L3 y1 y2 hL3 gy1 gy2 gL3_0 q9
  replace hP := zl_e2 hP (Eq.symm q9)
  clear q9
  refine fc_435_2 (i3 y1) _ _ _ _ hL3 ?_
  exact zlR hP (rfl : i3 y1 = i3 y1) ⟨by omega, by omega⟩
/- yX12_rOut -/
def zf_478 (Z : qz_Z) (a1 : Int) : qz_Z := (if (Z 2 0 0 (211 + 20 * a1)) < 0 then (zlet (zu Z 2 0 0 (211 + 20 * a1) (-1)) (fun Z6 => Z6)) else (if 5 < (Z 2 0 0 (211 + 20 * a1)) then (zlet (zu Z 2 0 0 (211 + 20 * a1) (-1)) (fun Z8 => Z8)) else (zlet (zu Z 2 0 0 (1216 + 12 * (Z 2 0 0 (211 + 20 * a1))) ((Z 2 0 0 (1216 + 12 * (Z 2 0 0 (211 + 20 * a1)))) + 1)) (fun Z10 => (zlet (zu Z10 2 0 0 (211 + 20 * a1) (-1)) (fun Z11 => Z11))))))
theorem sp_478 {s : zSM} {Z : qz_Z} {ν : qz_N} (hZ : zM s Z) {a1 : Int} (ga1 : 0 ≤ a1 ∧ a1 ≤ 47) (gx0 : 2 ≤ Z 2 0 0 (210 + 20 * a1)) (hM : s.2 + 1 ≤ 1000000000) : ∃ P : qz_Z, P = zf_478 Z a1 ∧ (qf_478 [.inr (.inr (some (1, 0, 0))), .inl (i3 a1)] (zm Z ν) = some (zm P ν, .inl none) ∧ zM (zb s 1) P ∧ zC [2] Z P ∧ zU [] Z P) := by
  obtain ⟨P, hP⟩ := zx (zf_478 Z a1)
  refine zc_V (Q := fun P => zM (zb s 1) P ∧ zC [2] Z P ∧ zU [] Z P) hP (fw_478 (i3 a1) _ _ ?_)
  replace hP : zE P (zf_478 Z a1) := hP
  unfold zf_478 at hP
  have r1 := zM_k hZ 2 0 0 (210 + 20 * a1) (lo := 0) (hi := 4) (by decide) (zs_200_10 (x := a1) (by omega) (by omega) (by omega))
  have r2 := zM_pl hZ a1
  have r3 := zM_k hZ 2 0 0 102 (lo := 0) (hi := 48) (by decide) rfl
  refine wz_i0 (i3O (n := 4400) (i3A (i3A (show (200 : Int32) = i3 200 from rfl) (i3M (show (20 : Int32) = i3 20 from rfl) (rfl : i3 a1 = i3 a1))) (show (11 : Int32) = i3 11 from rfl)) (by omega) (by omega) (by omega)) ?_
  have r4 := zM_k hZ 2 0 0 (211 + 20 * a1) (lo := -1) (hi := 6) (by decide) (zs_200_11 (x := a1) (by omega) (by omega) (by omega))
  refine wz_br (i3L (zm_rd (Z := Z) (ν := ν) (k := 2) (show ((0 : Nat) : Int) = 0 from rfl) (show ((0 : Nat) : Int) = 0 from rfl) (i3I (y := (211 + 20 * a1)) (i3A (i3A (show (200 : Int32) = i3 200 from rfl) (i3M (show (20 : Int32) = i3 20 from rfl) (rfl : i3 a1 = i3 a1))) (show (11 : Int32) = i3 11 from rfl)) (by omega) (by omega) (by omega))) (show (0 : Int32) = i3 0 from rfl) (by omega) (by omega) (by omega) (by omega)) (fun h5 => ?_) (fun h5 => ?_)
  · replace hP := zE_p hP h5
    refine wz_i0 (i3O (n := 4400) (i3A (i3A (show (200 : Int32) = i3 200 from rfl) (i3M (show (20 : Int32) = i3 20 from rfl) (rfl : i3 a1 = i3 a1))) (show (11 : Int32) = i3 11 from rfl)) (by omega) (by omega) (by omega)) ?_
    obtain ⟨Z6, hZ6⟩ := zx (zu Z 2 0 0 (211 + 20 * a1) (-1))
    replace hP := zl_e hP hZ6
    have hZ6I := zM_pw2 hZ hZ6 (q := a1) (by omega) (by omega) (by omega) (by omega)
    have hZ6U : zU [] Z Z6 := zU_u zU_r hZ6 (Or.inl rfl)
    have hZ6K : zC [2] Z Z6 := zC_u zC_r hZ6 (zcl_2w (by omega) rfl)
    intro μ9 e9
    replace e9 := e9.trans (zm_wI (Z := Z) (ν := ν) hZ6 (show ((0 : Nat) : Int) = 0 from rfl) (show ((0 : Nat) : Int) = 0 from rfl) (i3I (y := (211 + 20 * a1)) (i3A (i3A (show (200 : Int32) = i3 200 from rfl) (i3M (show (20 : Int32) = i3 20 from rfl) (rfl : i3 a1 = i3 a1))) (show (11 : Int32) = i3 11 from rfl)) (by omega) (by omega) (by omega)) (show (-1 : Int32) = i3 (-1) from rfl))
    subst e9
    exact zlV hP ⟨(zmw (a := 0) (c := 1) hZ6I (Nat.le_of_ble_eq_true rfl)), hZ6K, hZ6U⟩
  · replace hP := zE_n hP h5
    refine wz_br (i3L (show (5 : Int32) = i3 5 from rfl) (zm_rd (Z := Z) (ν := ν) (k := 2) (show ((0 : Nat) : Int) = 0 from rfl) (show ((0 : Nat) : Int) = 0 from rfl) (i3I (y := (211 + 20 * a1)) (i3A (i3A (show (200 : Int32) = i3 200 from rfl) (i3M (show (20 : Int32) = i3 20 from rfl) (rfl : i3 a1 = i3 a1))) (show (11 : Int32) = i3 11 from rfl)) (by omega) (by omega) (by omega))) (by omega) (by omega) (by omega) (by omega)) (fun h7 => ?_) (fun h7 => ?_)
    · replace hP := zE_p hP h7
      refine wz_i0 (i3O (n := 4400) (i3A (i3A (show (200 : Int32) = i3 200 from rfl) (i3M (show (20 : Int32) = i3 20 from rfl) (rfl : i3 a1 = i3 a1))) (show (11 : Int32) = i3 11 from rfl)) (by omega) (by omega) (by omega)) ?_
      obtain ⟨Z8, hZ8⟩ := zx (zu Z 2 0 0 (211 + 20 * a1) (-1))
      replace hP := zl_e hP hZ8
      have hZ8I := zM_pw2 hZ hZ8 (q := a1) (by omega) (by omega) (by omega) (by omega)
      have hZ8U : zU [] Z Z8 := zU_u zU_r hZ8 (Or.inl rfl)
      have hZ8K : zC [2] Z Z8 := zC_u zC_r hZ8 (zcl_2w (by omega) rfl)
      intro μ9 e9
      replace e9 := e9.trans (zm_wI (Z := Z) (ν := ν) hZ8 (show ((0 : Nat) : Int) = 0 from rfl) (show ((0 : Nat) : Int) = 0 from rfl) (i3I (y := (211 + 20 * a1)) (i3A (i3A (show (200 : Int32) = i3 200 from rfl) (i3M (show (20 : Int32) = i3 20 from rfl) (rfl : i3 a1 = i3 a1))) (show (11 : Int32) = i3 11 from rfl)) (by omega) (by omega) (by omega)) (show (-1 : Int32) = i3 (-1) from rfl))
      subst e9
      exact zlV hP ⟨(zmw (a := 0) (c := 1) hZ8I (Nat.le_of_ble_eq_true rfl)), hZ8K, hZ8U⟩
    · replace hP := zE_n hP h7
      refine wz_i0 (i3O (n := 4400) (i3A (i3A (show (1210 : Int32) = i3 1210 from rfl) (i3M (show (12 : Int32) = i3 12 from rfl) (zm_rd (Z := Z) (ν := ν) (k := 2) (show ((0 : Nat) : Int) = 0 from rfl) (show ((0 : Nat) : Int) = 0 from rfl) (i3I (y := (211 + 20 * a1)) (i3A (i3A (show (200 : Int32) = i3 200 from rfl) (i3M (show (20 : Int32) = i3 20 from rfl) (rfl : i3 a1 = i3 a1))) (show (11 : Int32) = i3 11 from rfl)) (by omega) (by omega) (by omega))))) (show (6 : Int32) = i3 6 from rfl)) (by omega) (by omega) (by omega)) ?_
      refine wz_i0 (i3O (n := 4400) (i3A (i3A (show (1210 : Int32) = i3 1210 from rfl) (i3M (show (12 : Int32) = i3 12 from rfl) (zm_rd (Z := Z) (ν := ν) (k := 2) (show ((0 : Nat) : Int) = 0 from rfl) (show ((0 : Nat) : Int) = 0 from rfl) (i3I (y := (211 + 20 * a1)) (i3A (i3A (show (200 : Int32) = i3 200 from rfl) (i3M (show (20 : Int32) = i3 20 from rfl) (rfl : i3 a1 = i3 a1))) (show (11 : Int32) = i3 11 from rfl)) (by omega) (by omega) (by omega))))) (show (6 : Int32) = i3 6 from rfl)) (by omega) (by omega) (by omega)) ?_
      have r9 := zM_dr hZ (Z 2 0 0 (211 + 20 * a1)) (by omega) (zbh (c := 0) (k := 0) hM (Nat.le_of_ble_eq_true rfl))
      obtain ⟨Z10, hZ10⟩ := zx (zu Z 2 0 0 (1216 + 12 * (Z 2 0 0 (211 + 20 * a1))) ((Z 2 0 0 (1216 + 12 * (Z 2 0 0 (211 + 20 * a1)))) + 1))
      replace hP := zl_e hP hZ10
      have hZ10I := zM_di2 hZ hZ10 (q := (Z 2 0 0 (211 + 20 * a1))) (by omega) (by omega) (zbh (c := 0) (k := 1) hM (Nat.le_of_ble_eq_true rfl)) (by omega)
      have hZ10U : zU [] Z Z10 := zU_u zU_r hZ10 (Or.inl rfl)
      have hZ10K : zC [2] Z Z10 := zC_u zC_r hZ10 (zcl_2w (by omega) rfl)
      intro μ9 e9
      replace e9 := e9.trans (zm_wI (Z := Z) (ν := ν) hZ10 (show ((0 : Nat) : Int) = 0 from rfl) (show ((0 : Nat) : Int) = 0 from rfl) (i3I (y := (1216 + 12 * (Z 2 0 0 (211 + 20 * a1)))) (i3A (i3A (show (1210 : Int32) = i3 1210 from rfl) (i3M (show (12 : Int32) = i3 12 from rfl) (zm_rd (Z := Z) (ν := ν) (k := 2) (show ((0 : Nat) : Int) = 0 from rfl) (show ((0 : Nat) : Int) = 0 from rfl) (i3I (y := (211 + 20 * a1)) (i3A (i3A (show (200 : Int32) = i3 200 from rfl) (i3M (show (20 : Int32) = i3 20 from rfl) (rfl : i3 a1 = i3 a1))) (show (11 : Int32) = i3 11 from rfl)) (by omega) (by omega) (by omega))))) (show (6 : Int32) = i3 6 from rfl)) (by omega) (by omega) (by omega)) (i3A (zm_rd (Z := Z) (ν := ν) (k := 2) (show ((0 : Nat) : Int) = 0 from rfl) (show ((0 : Nat) : Int) = 0 from rfl) (i3I (y := (1216 + 12 * (Z 2 0 0 (211 + 20 * a1)))) (i3A (i3A (show (1210 : Int32) = i3 1210 from rfl) (i3M (show (12 : Int32) = i3 12 from rfl) (zm_rd (Z := Z) (ν := ν) (k := 2) (show ((0 : Nat) : Int) = 0 from rfl) (show ((0 : Nat) : Int) = 0 from rfl) (i3I (y := (211 + 20 * a1)) (i3A (i3A (show (200 : Int32) = i3 200 from rfl) (i3M (show (20 : Int32) = i3 20 from rfl) (rfl : i3 a1 = i3 a1))) (show (11 : Int32) = i3 11 from rfl)) (by omega) (by omega) (by omega))))) (show (6 : Int32) = i3 6 from rfl)) (by omega) (by omega) (by omega))) (show (1 : Int32) = i3 1 from rfl)))
      subst e9
      refine wz_i0 (i3O (n := 4400) (i3A (i3A (show (200 : Int32) = i3 200 from rfl) (i3M (show (20 : Int32) = i3 20 from rfl) (rfl : i3 a1 = i3 a1))) (show (11 : Int32) = i3 11 from rfl)) (by omega) (by omega) (by omega)) ?_
      obtain ⟨Z11, hZ11⟩ := zx (zu Z10 2 0 0 (211 + 20 * a1) (-1))
      replace hP := zl_e hP hZ11
      have r12 := zM_k hZ10I 2 0 0 (210 + 20 * a1) (lo := 0) (hi := 4) (by decide) (zs_200_10 (x := a1) (by omega) (by omega) (by omega))
      have r13 := zM_pl hZ10I a1
      have r14 := zM_k hZ10I 2 0 0 102 (lo := 0) (hi := 48) (by decide) rfl
      have q15 := zu_ne (k' := 2) (b' := 0) (i' := 0) (j' := 102) hZ10 (fun q => absurd q.2.2.2 (by omega))
      have q16 := zu_ne (k' := 2) (b' := 0) (i' := 0) (j' := (210 + 20 * a1)) hZ10 (fun q => absurd q.2.2.2 (by omega))
      have hZ11I := zM_pw2 hZ10I hZ11 (q := a1) (by omega) (by omega) (by omega) (by omega)
      have hZ11U : zU [] Z Z11 := zU_u hZ10U hZ11 (Or.inl rfl)
      have hZ11K : zC [2] Z Z11 := zC_u hZ10K hZ11 (zcl_2w (by omega) rfl)
      intro μ9 e9
      replace e9 := e9.trans (zm_wI (Z := Z10) (ν := ν) hZ11 (show ((0 : Nat) : Int) = 0 from rfl) (show ((0 : Nat) : Int) = 0 from rfl) (i3I (y := (211 + 20 * a1)) (i3A (i3A (show (200 : Int32) = i3 200 from rfl) (i3M (show (20 : Int32) = i3 20 from rfl) (rfl : i3 a1 = i3 a1))) (show (11 : Int32) = i3 11 from rfl)) (by omega) (by omega) (by omega)) (show (-1 : Int32) = i3 (-1) from rfl))
      subst e9
      exact zlV hP ⟨hZ11I, hZ11K, hZ11U⟩
/- yX12_mCleared -/
def zf_429 (Z : qz_Z) (a1 : Int) : qz_Z := (if (Z 2 0 0 (210 + 20 * a1)) ≠ 0 then Z else (if (Z 2 0 0 (204 + 20 * a1)) ≠ 0 then Z else (zlet (zf_435 Z a1) (fun v7 => (if v7 ≠ 0 then Z else (zlet (zu Z 2 0 0 (210 + 20 * a1) 2) (fun Z9 => (zlet (zf_478 Z9 a1) (fun Z16 => Z16)))))))))
theorem sp_429 {s : zSM} {Z : qz_Z} {ν : qz_N} (hZ : zM s Z) {a1 : Int} (ga1 : 0 ≤ a1 ∧ a1 ≤ 47) (hM : s.2 + 1 ≤ 1000000000) : ∃ P : qz_Z, P = zf_429 Z a1 ∧ (qf_429 [.inr (.inr (some (1, 0, 0))), .inl (i3 a1)] (zm Z ν) = some (zm P ν, .inl none) ∧ zM (zb s 1) P ∧ zC [2] Z P ∧ zU [] Z P) := by
  obtain ⟨P, hP⟩ := zx (zf_429 Z a1)
  refine zc_V (Q := fun P => zM (zb s 1) P ∧ zC [2] Z P ∧ zU [] Z P) hP (fw_429 (i3 a1) _ _ ?_)
  replace hP : zE P (zf_429 Z a1) := hP
  unfold zf_429 at hP
  refine wz_i0 (i3O (n := 4400) (i3A (i3A (show (200 : Int32) = i3 200 from rfl) (i3M (show (20 : Int32) = i3 20 from rfl) (rfl : i3 a1 = i3 a1))) (show (10 : Int32) = i3 10 from rfl)) (by omega) (by omega) (by omega)) ?_
  have r1 := zM_k hZ 2 0 0 (210 + 20 * a1) (lo := 0) (hi := 4) (by decide) (zs_200_10 (x := a1) (by omega) (by omega) (by omega))
  have r2 := zM_pl hZ a1
  have r3 := zM_k hZ 2 0 0 102 (lo := 0) (hi := 48) (by decide) rfl
  refine wz_br (i3NE (zm_rd (Z := Z) (ν := ν) (k := 2) (show ((0 : Nat) : Int) = 0 from rfl) (show ((0 : Nat) : Int) = 0 from rfl) (i3I (y := (210 + 20 * a1)) (i3A (i3A (show (200 : Int32) = i3 200 from rfl) (i3M (show (20 : Int32) = i3 20 from rfl) (rfl : i3 a1 = i3 a1))) (show (10 : Int32) = i3 10 from rfl)) (by omega) (by omega) (by omega))) (show (0 : Int32) = i3 0 from rfl) (by omega) (by omega) (by omega) (by omega)) (fun h4 => ?_) (fun h4 => ?_)
  · replace hP := zE_p hP h4
    exact zlV hP ⟨(zmw (a := 0) (c := 1) hZ (Nat.le_of_ble_eq_true rfl)), zC_r, zU_r⟩
  · replace hP := zE_n hP h4
    refine wz_i0 (i3O (n := 4400) (i3A (i3A (show (200 : Int32) = i3 200 from rfl) (i3M (show (20 : Int32) = i3 20 from rfl) (rfl : i3 a1 = i3 a1))) (show (4 : Int32) = i3 4 from rfl)) (by omega) (by omega) (by omega)) ?_
    have r5 := zM_k hZ 2 0 0 (204 + 20 * a1) (lo := 0) (hi := 40) (by decide) (zs_200_4 (x := a1) (by omega) (by omega) (by omega))
    refine wz_br (i3NE (zm_rd (Z := Z) (ν := ν) (k := 2) (show ((0 : Nat) : Int) = 0 from rfl) (show ((0 : Nat) : Int) = 0 from rfl) (i3I (y := (204 + 20 * a1)) (i3A (i3A (show (200 : Int32) = i3 200 from rfl) (i3M (show (20 : Int32) = i3 20 from rfl) (rfl : i3 a1 = i3 a1))) (show (4 : Int32) = i3 4 from rfl)) (by omega) (by omega) (by omega))) (show (0 : Int32) = i3 0 from rfl) (by omega) (by omega) (by omega) (by omega)) (fun h6 => ?_) (fun h6 => ?_)
    · replace hP := zE_p hP h6
      exact zlV hP ⟨(zmw (a := 0) (c := 1) hZ (Nat.le_of_ble_eq_true rfl)), zC_r, zU_r⟩
    · replace hP := zE_n hP h6
      obtain ⟨v7, hv7, c9, lv7, uv7⟩ := sp_435 (ν := ν) hZ (a1 := a1) (by omega) (zbh (c := 0) (k := 0) hM (Nat.le_of_ble_eq_true rfl))
      replace hP := zl_e hP hv7
      refine wz_cI_of (zas (zcons rfl (zcons (zvi (rfl : i3 a1 = i3 a1)) rfl)) c9) ?_
      clear c9
      refine wz_br (i3NE (rfl : i3 v7 = i3 v7) (show (0 : Int32) = i3 0 from rfl) (by omega) (by omega) (by omega) (by omega)) (fun h8 => ?_) (fun h8 => ?_)
      · replace hP := zE_p hP h8
        exact zlV hP ⟨(zmw (a := 0) (c := 1) hZ (Nat.le_of_ble_eq_true rfl)), zC_r, zU_r⟩
      · replace hP := zE_n hP h8
        refine wz_i0 (i3O (n := 4400) (i3A (i3A (show (200 : Int32) = i3 200 from rfl) (i3M (show (20 : Int32) = i3 20 from rfl) (rfl : i3 a1 = i3 a1))) (show (10 : Int32) = i3 10 from rfl)) (by omega) (by omega) (by omega)) ?_
        obtain ⟨Z9, hZ9⟩ := zx (zu Z 2 0 0 (210 + 20 * a1) 2)
        replace hP := zl_e hP hZ9
        have r10 := zM_k hZ 2 0 0 (211 + 20 * a1) (lo := -1) (hi := 6) (by decide) (zs_200_11 (x := a1) (by omega) (by omega) (by omega))
        have hZ9I := zM_ps2 hZ hZ9 (q := a1) (by omega) (by omega) (by omega) (by omega)
        have hZ9U : zU [] Z Z9 := zU_u zU_r hZ9 (Or.inl rfl)
        have hZ9K : zC [2] Z Z9 := zC_u zC_r hZ9 (zcl_2w (by omega) rfl)
        intro μ9 e9
        replace e9 := e9.trans (zm_wI (Z := Z) (ν := ν) hZ9 (show ((0 : Nat) : Int) = 0 from rfl) (show ((0 : Nat) : Int) = 0 from rfl) (i3I (y := (210 + 20 * a1)) (i3A (i3A (show (200 : Int32) = i3 200 from rfl) (i3M (show (20 : Int32) = i3 20 from rfl) (rfl : i3 a1 = i3 a1))) (show (10 : Int32) = i3 10 from rfl)) (by omega) (by omega) (by omega)) (show (2 : Int32) = i3 2 from rfl))
        subst e9
        have r11 := zM_k hZ9I 2 0 0 (210 + 20 * a1) (lo := 0) (hi := 4) (by decide) (zs_200_10 (x := a1) (by omega) (by omega) (by omega))
        have r12 := zM_pl hZ9I a1
        have r13 := zM_k hZ9I 2 0 0 102 (lo := 0) (hi := 48) (by decide) rfl
        have q14 := zu_ne (k' := 2) (b' := 0) (i' := 0) (j' := 102) hZ9 (fun q => absurd q.2.2.2 (by omega))
        have q15 := zu_at hZ9
        obtain ⟨Z16, hZ16, c9, hZ16I, kZ16, jZ16⟩ := sp_478 (ν := ν) hZ9I (a1 := a1) (by omega) (by omega) (zbh (c := 0) (k := 1) hM (Nat.le_of_ble_eq_true rfl))
        have hZ16U : zU [] Z Z16 := zU_t hZ9U jZ16 zU_b0
        have hZ16K : zC [2] Z Z16 := zC_t hZ9K kZ16 (by decide)
        replace hP := zl_e hP hZ16
        refine wz_cV_of (zas (zcons rfl (zcons (zvi (rfl : i3 a1 = i3 a1)) rfl)) c9) ?_
        clear c9
        exact zlV hP ⟨hZ16I, hZ16K, hZ16U⟩
/- yX12_mLost -/
def zf_432 (Z : qz_Z) (a1 : Int) : qz_Z := (zlet (zu Z 2 0 0 (2021 + 16 * a1) (Z 2 0 0 (207 + 20 * (Z 2 0 0 (2010 + 16 * a1))))) (fun Z3 => (zlet (zu Z3 2 0 0 (2022 + 16 * a1) (Z3 2 0 0 (208 + 20 * (Z 2 0 0 (2010 + 16 * a1))))) (fun Z5 => (zlet (zu Z5 2 0 0 (2019 + 16 * a1) 3) (fun Z6 => (zlet (zu Z6 2 0 0 (40 + a1) (Z6 2 0 0 0)) (fun Z8 => (zlet (zf_429 Z8 (Z 2 0 0 (2010 + 16 * a1))) (fun Z9 => (zlet (zf_276 Z9 a1) (fun Z10 => (zlet (zf_403 Z10 1 8 ((Z10 2 0 0 (2013 + 16 * a1)) * (Z10 2 0 0 (2015 + 16 * a1))) (Z10 2 0 0 (2010 + 16 * a1))) (fun Z17 => Z17))))))))))))))
theorem sp_432 {s : zSM} {Z : qz_Z} {ν : qz_N} (hZ : zM s Z) {a1 : Int} (ga1 : 0 ≤ a1 ∧ a1 ≤ 59) (hM : s.2 + 2 ≤ 1000000000) : ∃ P : qz_Z, P = zf_432 Z a1 ∧ (qf_432 [.inr (.inr (some (1, 0, 0))), .inl (i3 a1)] (zm Z ν) = some (zm P ν, .inl none) ∧ zM (zb s 2) P ∧ zC [2] Z P ∧ zU [] Z P) := by
  obtain ⟨P, hP⟩ := zx (zf_432 Z a1)
  refine zc_V (Q := fun P => zM (zb s 2) P ∧ zC [2] Z P ∧ zU [] Z P) hP (fw_432 (i3 a1) _ _ ?_)
  replace hP : zE P (zf_432 Z a1) := hP
  unfold zf_432 at hP
  refine wz_i0 (i3O (n := 4400) (i3A (i3A (show (2010 : Int32) = i3 2010 from rfl) (i3M (show (16 : Int32) = i3 16 from rfl) (rfl : i3 a1 = i3 a1))) (show (0 : Int32) = i3 0 from rfl)) (by omega) (by omega) (by omega)) ?_
  have r1 := zM_k hZ 2 0 0 (2010 + 16 * a1) (lo := 0) (hi := 47) (by decide) (zs_2010_0 (x := a1) (by omega) (by omega) (by omega))
  refine wz_i0 (i3O (n := 4400) (i3A (i3A (show (200 : Int32) = i3 200 from rfl) (i3M (show (20 : Int32) = i3 20 from rfl) (zm_rd (Z := Z) (ν := ν) (k := 2) (show ((0 : Nat) : Int) = 0 from rfl) (show ((0 : Nat) : Int) = 0 from rfl) (i3I (y := (2010 + 16 * a1)) (i3A (i3A (show (2010 : Int32) = i3 2010 from rfl) (i3M (show (16 : Int32) = i3 16 from rfl) (rfl : i3 a1 = i3 a1))) (show (0 : Int32) = i3 0 from rfl)) (by omega) (by omega) (by omega))))) (show (7 : Int32) = i3 7 from rfl)) (by omega) (by omega) (by omega)) ?_
  refine wz_i0 (i3O (n := 4400) (i3A (i3A (show (2010 : Int32) = i3 2010 from rfl) (i3M (show (16 : Int32) = i3 16 from rfl) (rfl : i3 a1 = i3 a1))) (show (11 : Int32) = i3 11 from rfl)) (by omega) (by omega) (by omega)) ?_
  have r2 := zM_k hZ 2 0 0 (207 + 20 * (Z 2 0 0 (2010 + 16 * a1))) (lo := 0) (hi := 2000) (by decide) (zs_200_7 (x := (Z 2 0 0 (2010 + 16 * a1))) (by omega) (by omega) (by omega))
  obtain ⟨Z3, hZ3⟩ := zx (zu Z 2 0 0 (2021 + 16 * a1) (Z 2 0 0 (207 + 20 * (Z 2 0 0 (2010 + 16 * a1)))))
  replace hP := zl_e hP hZ3
  have hZ3I := zM_u2 hZ hZ3 (lo := 0) (hi := 2000) (zs_2010_11 (x := a1) (by omega) (by omega) (by omega)) (by omega) ⟨by decide, by decide⟩ (by simp only [zsp]; omega)
  have hZ3U : zU [] Z Z3 := zU_u zU_r hZ3 (Or.inl rfl)
  have hZ3K : zC [2] Z Z3 := zC_u zC_r hZ3 (zcl_2w (by omega) rfl)
  intro μ9 e9
  replace e9 := e9.trans (zm_wI (Z := Z) (ν := ν) hZ3 (show ((0 : Nat) : Int) = 0 from rfl) (show ((0 : Nat) : Int) = 0 from rfl) (i3I (y := (2021 + 16 * a1)) (i3A (i3A (show (2010 : Int32) = i3 2010 from rfl) (i3M (show (16 : Int32) = i3 16 from rfl) (rfl : i3 a1 = i3 a1))) (show (11 : Int32) = i3 11 from rfl)) (by omega) (by omega) (by omega)) (zm_rd (Z := Z) (ν := ν) (k := 2) (show ((0 : Nat) : Int) = 0 from rfl) (show ((0 : Nat) : Int) = 0 from rfl) (i3I (y := (207 + 20 * (Z 2 0 0 (2010 + 16 * a1)))) (i3A (i3A (show (200 : Int32) = i3 200 from rfl) (i3M (show (20 : Int32) = i3 20 from rfl) (zm_rd (Z := Z) (ν := ν) (k := 2) (show ((0 : Nat) : Int) = 0 from rfl) (show ((0 : Nat) : Int) = 0 from rfl) (i3I (y := (2010 + 16 * a1)) (i3A (i3A (show (2010 : Int32) = i3 2010 from rfl) (i3M (show (16 : Int32) = i3 16 from rfl) (rfl : i3 a1 = i3 a1))) (show (0 : Int32) = i3 0 from rfl)) (by omega) (by omega) (by omega))))) (show (7 : Int32) = i3 7 from rfl)) (by omega) (by omega) (by omega))))
  subst e9
  refine wz_i0 (i3O (n := 4400) (i3A (i3A (show (200 : Int32) = i3 200 from rfl) (i3M (show (20 : Int32) = i3 20 from rfl) (zm_rd (Z := Z) (ν := ν) (k := 2) (show ((0 : Nat) : Int) = 0 from rfl) (show ((0 : Nat) : Int) = 0 from rfl) (i3I (y := (2010 + 16 * a1)) (i3A (i3A (show (2010 : Int32) = i3 2010 from rfl) (i3M (show (16 : Int32) = i3 16 from rfl) (rfl : i3 a1 = i3 a1))) (show (0 : Int32) = i3 0 from rfl)) (by omega) (by omega) (by omega))))) (show (8 : Int32) = i3 8 from rfl)) (by omega) (by omega) (by omega)) ?_
  refine wz_i0 (i3O (n := 4400) (i3A (i3A (show (2010 : Int32) = i3 2010 from rfl) (i3M (show (16 : Int32) = i3 16 from rfl) (rfl : i3 a1 = i3 a1))) (show (12 : Int32) = i3 12 from rfl)) (by omega) (by omega) (by omega)) ?_
  have r4 := zM_k hZ3I 2 0 0 (208 + 20 * (Z 2 0 0 (2010 + 16 * a1))) (lo := 0) (hi := 999) (by decide) (zs_200_8 (x := (Z 2 0 0 (2010 + 16 * a1))) (by omega) (by omega) (by omega))
  obtain ⟨Z5, hZ5⟩ := zx (zu Z3 2 0 0 (2022 + 16 * a1) (Z3 2 0 0 (208 + 20 * (Z 2 0 0 (2010 + 16 * a1)))))
  replace hP := zl_e hP hZ5
  have hZ5I := zM_u2 hZ3I hZ5 (lo := 0) (hi := 999) (zs_2010_12 (x := a1) (by omega) (by omega) (by omega)) (by omega) ⟨by decide, by decide⟩ (by simp only [zsp]; omega)
  have hZ5U : zU [] Z Z5 := zU_u hZ3U hZ5 (Or.inl rfl)
  have hZ5K : zC [2] Z Z5 := zC_u hZ3K hZ5 (zcl_2w (by omega) rfl)
  intro μ9 e9
  replace e9 := e9.trans (zm_wI (Z := Z3) (ν := ν) hZ5 (show ((0 : Nat) : Int) = 0 from rfl) (show ((0 : Nat) : Int) = 0 from rfl) (i3I (y := (2022 + 16 * a1)) (i3A (i3A (show (2010 : Int32) = i3 2010 from rfl) (i3M (show (16 : Int32) = i3 16 from rfl) (rfl : i3 a1 = i3 a1))) (show (12 : Int32) = i3 12 from rfl)) (by omega) (by omega) (by omega)) (zm_rd (Z := Z3) (ν := ν) (k := 2) (show ((0 : Nat) : Int) = 0 from rfl) (show ((0 : Nat) : Int) = 0 from rfl) (i3I (y := (208 + 20 * (Z 2 0 0 (2010 + 16 * a1)))) (i3A (i3A (show (200 : Int32) = i3 200 from rfl) (i3M (show (20 : Int32) = i3 20 from rfl) (zm_rd (Z := Z) (ν := ν) (k := 2) (show ((0 : Nat) : Int) = 0 from rfl) (show ((0 : Nat) : Int) = 0 from rfl) (i3I (y := (2010 + 16 * a1)) (i3A (i3A (show (2010 : Int32) = i3 2010 from rfl) (i3M (show (16 : Int32) = i3 16 from rfl) (rfl : i3 a1 = i3 a1))) (show (0 : Int32) = i3 0 from rfl)) (by omega) (by omega) (by omega))))) (show (8 : Int32) = i3 8 from rfl)) (by omega) (by omega) (by omega))))
  subst e9
  refine wz_i0 (i3O (n := 4400) (i3A (i3A (show (2010 : Int32) = i3 2010 from rfl) (i3M (show (16 : Int32) = i3 16 from rfl) (rfl : i3 a1 = i3 a1))) (show (9 : Int32) = i3 9 from rfl)) (by omega) (by omega) (by omega)) ?_
  obtain ⟨Z6, hZ6⟩ := zx (zu Z5 2 0 0 (2019 + 16 * a1) 3)
  replace hP := zl_e hP hZ6
  have hZ6I := zM_st2 hZ5I hZ6 (q := a1) (by omega) (by omega) (by omega) (by omega)
  have hZ6U : zU [] Z Z6 := zU_u hZ5U hZ6 (Or.inl rfl)
  have hZ6K : zC [2] Z Z6 := zC_u hZ5K hZ6 (zcl_2w (by omega) rfl)
  intro μ9 e9
  replace e9 := e9.trans (zm_wI (Z := Z5) (ν := ν) hZ6 (show ((0 : Nat) : Int) = 0 from rfl) (show ((0 : Nat) : Int) = 0 from rfl) (i3I (y := (2019 + 16 * a1)) (i3A (i3A (show (2010 : Int32) = i3 2010 from rfl) (i3M (show (16 : Int32) = i3 16 from rfl) (rfl : i3 a1 = i3 a1))) (show (9 : Int32) = i3 9 from rfl)) (by omega) (by omega) (by omega)) (show (3 : Int32) = i3 3 from rfl))
  subst e9
  refine wz_i0 (i3O (n := 4400) (i3A (show (40 : Int32) = i3 40 from rfl) (rfl : i3 a1 = i3 a1)) (by omega) (by omega) (by omega)) ?_
  have r7 := zM_k hZ6I 2 0 0 0 (lo := 0) (hi := 671) (by decide) rfl
  obtain ⟨Z8, hZ8⟩ := zx (zu Z6 2 0 0 (40 + a1) (Z6 2 0 0 0))
  replace hP := zl_e hP hZ8
  have hZ8I := zM_u2 hZ6I hZ8 (lo := -1) (hi := 671) (zs_40 (by omega) (by omega)) (by omega) ⟨by decide, by decide⟩ (by simp only [zsp]; omega)
  have hZ8U : zU [] Z Z8 := zU_u hZ6U hZ8 (Or.inl rfl)
  have hZ8K : zC [2] Z Z8 := zC_u hZ6K hZ8 (zcl_2w (by omega) rfl)
  intro μ9 e9
  replace e9 := e9.trans (zm_wI (Z := Z6) (ν := ν) hZ8 (show ((0 : Nat) : Int) = 0 from rfl) (show ((0 : Nat) : Int) = 0 from rfl) (i3I (y := (40 + a1)) (i3A (show (40 : Int32) = i3 40 from rfl) (rfl : i3 a1 = i3 a1)) (by omega) (by omega) (by omega)) (zm_rd (Z := Z6) (ν := ν) (k := 2) (show ((0 : Nat) : Int) = 0 from rfl) (show ((0 : Nat) : Int) = 0 from rfl) (show ((0 : Nat) : Int) = 0 from rfl)))
  subst e9
  obtain ⟨Z9, hZ9, c9, hZ9I, kZ9, jZ9⟩ := sp_429 (ν := ν) hZ8I (a1 := (Z 2 0 0 (2010 + 16 * a1))) (by omega) (zbh (c := 0) (k := 1) hM (Nat.le_of_ble_eq_true rfl))
  have hZ9U : zU [] Z Z9 := zU_t hZ8U jZ9 zU_b0
  have hZ9K : zC [2] Z Z9 := zC_t hZ8K kZ9 (by decide)
  replace hP := zl_e hP hZ9
  refine wz_cV_of (zas (zcons rfl (zcons (zvi (zm_rd (Z := Z) (ν := ν) (k := 2) (show ((0 : Nat) : Int) = 0 from rfl) (show ((0 : Nat) : Int) = 0 from rfl) (i3I (y := (2010 + 16 * a1)) (i3A (i3A (show (2010 : Int32) = i3 2010 from rfl) (i3M (show (16 : Int32) = i3 16 from rfl) (rfl : i3 a1 = i3 a1))) (show (0 : Int32) = i3 0 from rfl)) (by omega) (by omega) (by omega)))) rfl)) c9) ?_
  clear c9
  obtain ⟨Z10, hZ10, c9, hZ10I, kZ10, jZ10⟩ := sp_276 (ν := ν) hZ9I (a1 := a1) (by omega) (zbh (c := 1) (k := 0) hM (Nat.le_of_ble_eq_true rfl))
  have hZ10U : zU [] Z Z10 := zU_t hZ9U jZ10 zU_b0
  have hZ10K : zC [2] Z Z10 := zC_t hZ9K kZ10 (by decide)
  replace hP := zl_e hP hZ10
  refine wz_cV_of (zas (zcons rfl (zcons (zvi (rfl : i3 a1 = i3 a1)) rfl)) c9) ?_
  clear c9
  refine wz_i0 (i3O (n := 4400) (i3A (i3A (show (2010 : Int32) = i3 2010 from rfl) (i3M (show (16 : Int32) = i3 16 from rfl) (rfl : i3 a1 = i3 a1))) (show (3 : Int32) = i3 3 from rfl)) (by omega) (by omega) (by omega)) ?_
  refine wz_i0 (i3O (n := 4400) (i3A (i3A (show (2010 : Int32) = i3 2010 from rfl) (i3M (show (16 : Int32) = i3 16 from rfl) (rfl : i3 a1 = i3 a1))) (show (5 : Int32) = i3 5 from rfl)) (by omega) (by omega) (by omega)) ?_
  refine wz_i0 (i3O (n := 4400) (i3A (i3A (show (2010 : Int32) = i3 2010 from rfl) (i3M (show (16 : Int32) = i3 16 from rfl) (rfl : i3 a1 = i3 a1))) (show (0 : Int32) = i3 0 from rfl)) (by omega) (by omega) (by omega)) ?_
  have r11 := zM_k hZ10I 2 0 0 (2013 + 16 * a1) (lo := 0) (hi := 40) (by decide) (zs_2010_3 (x := a1) (by omega) (by omega) (by omega))
  have r12 := zM_cr hZ10I a1
  have r13 := zM_k hZ10I 2 0 0 2000 (lo := 0) (hi := 60) (by decide) rfl
  have r14 := zM_k hZ10I 2 0 0 (2015 + 16 * a1) (lo := 0) (hi := 9999) (by decide) (zs_2010_5 (x := a1) (by omega) (by omega) (by omega))
  have r15 := z_mul (x := (Z10 2 0 0 (2013 + 16 * a1))) (y := (Z10 2 0 0 (2015 + 16 * a1))) (a := 40) (b := 9999) (by omega) (by omega) (by omega) (by omega)
  have r16 := zM_k hZ10I 2 0 0 (2010 + 16 * a1) (lo := 0) (hi := 47) (by decide) (zs_2010_0 (x := a1) (by omega) (by omega) (by omega))
  obtain ⟨Z17, hZ17, c9, hZ17I, kZ17, jZ17⟩ := sp_403 (ν := ν) hZ10I (a1 := 1) (by omega) (a2 := 8) (by omega) (a3 := ((Z10 2 0 0 (2013 + 16 * a1)) * (Z10 2 0 0 (2015 + 16 * a1)))) (by omega) (a4 := (Z10 2 0 0 (2010 + 16 * a1))) (by omega) (zbh (c := 1) (k := 1) hM (Nat.le_of_ble_eq_true rfl))
  have hZ17U : zU [] Z Z17 := zU_t hZ10U jZ17 zU_b0
  have hZ17K : zC [2] Z Z17 := zC_t hZ10K kZ17 (by decide)
  replace hZ17I := zmt (c := 2) hZ17I rfl
  replace hP := zl_e hP hZ17
  refine wz_cV_of (zas (zcons rfl (zcons (zvi (show (1 : Int32) = i3 1 from rfl)) (zcons (zvi (show (8 : Int32) = i3 8 from rfl)) (zcons (zvi (i3M (zm_rd (Z := Z10) (ν := ν) (k := 2) (show ((0 : Nat) : Int) = 0 from rfl) (show ((0 : Nat) : Int) = 0 from rfl) (i3I (y := (2013 + 16 * a1)) (i3A (i3A (show (2010 : Int32) = i3 2010 from rfl) (i3M (show (16 : Int32) = i3 16 from rfl) (rfl : i3 a1 = i3 a1))) (show (3 : Int32) = i3 3 from rfl)) (by omega) (by omega) (by omega))) (zm_rd (Z := Z10) (ν := ν) (k := 2) (show ((0 : Nat) : Int) = 0 from rfl) (show ((0 : Nat) : Int) = 0 from rfl) (i3I (y := (2015 + 16 * a1)) (i3A (i3A (show (2010 : Int32) = i3 2010 from rfl) (i3M (show (16 : Int32) = i3 16 from rfl) (rfl : i3 a1 = i3 a1))) (show (5 : Int32) = i3 5 from rfl)) (by omega) (by omega) (by omega))))) (zcons (zvi (zm_rd (Z := Z10) (ν := ν) (k := 2) (show ((0 : Nat) : Int) = 0 from rfl) (show ((0 : Nat) : Int) = 0 from rfl) (i3I (y := (2010 + 16 * a1)) (i3A (i3A (show (2010 : Int32) = i3 2010 from rfl) (i3M (show (16 : Int32) = i3 16 from rfl) (rfl : i3 a1 = i3 a1))) (show (0 : Int32) = i3 0 from rfl)) (by omega) (by omega) (by omega)))) rfl))))) c9) ?_
  clear c9
  exact zlV hP ⟨hZ17I, hZ17K, hZ17U⟩
/- yX12_mGone -/
def zl_431_1 (x1 : Int) : Nat → qz_Z → Int → qz_Z × Int
  | 0, Z, x3 => (Z, x3)
  | m + 1, Z, x3 => (if (Z 2 0 0 2000) ≤ x3 then (Z, x3) else (if (Z 2 0 0 (2010 + 16 * x3)) ≠ x1 then zl_431_1 x1 m Z (x3 + 1) else (if (Z 2 0 0 (2019 + 16 * x3)) ≠ 0 then zl_431_1 x1 m Z (x3 + 1) else (zlet (zf_432 Z x3) (fun Z8 => zl_431_1 x1 m Z8 (x3 + 1))))))
theorem sl_431_1 {s : zSM} {xM9 : Nat} {Zs Z : qz_Z} {ν : qz_N} (hZ : zM (zb s xM9) Z) (hM : s.2 + 122 ≤ 1000000000) (hK : zC [2] Zs Z) {x1 : Int} (gx1 : 0 ≤ x1 ∧ x1 ≤ 47) {x3 : Int} (gx3 : 0 ≤ x3 ∧ x3 ≤ 60) (hU : zU [] Zs Z) (hx9 : xM9 + 2 * ((60 - x3).toNat) + 2 ≤ 122) {k : wz_K} {R : wz_R} {L : qz_L} (hL : qz_fg [true, true, false, true] L = [some (.inr (.inr (some (1, 0, 0)))), some (.inl (i3 x1)), none, some (.inl (i3 x3))]) {T : qz_Z × Int} (hP : zE T (zl_431_1 x1 ((60 - x3).toNat + 1) Z x3)) (hk : ∀ (L9 : qz_L) (Z9 : qz_Z) (yx3 : Int), qz_fg [false, false, false, false] L9 = [none, none, none, none] → zM (zb s 122) Z9 → zC [2] Zs Z9 → zU [] Zs Z9 → (0 ≤ yx3 ∧ yx3 ≤ 60) → zE T ((Z9, yx3)) → k 0 (L9, [], zm Z9 ν)) : wz_loop qb_431_1 65536 k R (L, [], zm Z ν) := by
  refine wz_lp sb_431_1 (fun m x => ∃ xM9 : Nat, ∃ Z : qz_Z, ∃ x3 : Int, qz_fg [true, true, false, true] x.1 = [some (.inr (.inr (some (1, 0, 0)))), some (.inl (i3 x1)), none, some (.inl (i3 x3))] ∧ x.2 = ([], zm Z ν) ∧ xM9 + 2 * m + 2 ≤ 122 ∧ zM (zb s xM9) Z ∧ zC [2] Zs Z ∧ zU [] Zs Z ∧ m = (60 - x3).toNat ∧ (0 ≤ x3 ∧ x3 ≤ 60) ∧ zE T (zl_431_1 x1 (m + 1) Z x3)) ?_ 65536 ((60 - x3).toNat) _ (by omega) ⟨xM9, Z, x3, hL, rfl, hx9, hZ, hK, hU, rfl, gx3, hP⟩
  clear hP gx3 hx9 hZ hK hU hL
  clear x3
  clear Z
  clear xM9
  rintro m ⟨L, st, μ⟩ ⟨xM9, Z, x3, hL, hx, hx9, hZ, hK, hU, hm, gx3, hP⟩
  cases hx
  have hM9 : (zb s xM9).2 + 2 ≤ 1000000000 := by
    show s.2 + xM9 + 2 ≤ 1000000000
    omega
  refine fb_431_1 (i3 x1) (i3 x3) _ _ _ _ hL ?_
  have r1 := zM_k hZ 2 0 0 2000 (lo := 0) (hi := 60) (by decide) rfl
  refine wz_br (i3Le (zm_rd (Z := Z) (ν := ν) (k := 2) (show ((0 : Nat) : Int) = 0 from rfl) (show ((0 : Nat) : Int) = 0 from rfl) (show ((2000 : Nat) : Int) = 2000 from rfl)) (rfl : i3 x3 = i3 x3) (by omega) (by omega) (by omega) (by omega)) (fun h2 => ?_) (fun h2 => ?_)
  · replace hP := zE_p hP h2
    exact hk _ _ _ (zconso rfl (zconso rfl (zconso rfl (zconso rfl rfl)))) (zmx0 hZ (by omega)) hK hU (by omega)  hP
  · replace hP := zE_n hP h2
    refine wz_i0 (i3O (n := 4400) (i3A (i3A (show (2010 : Int32) = i3 2010 from rfl) (i3M (show (16 : Int32) = i3 16 from rfl) (rfl : i3 x3 = i3 x3))) (show (0 : Int32) = i3 0 from rfl)) (by omega) (by omega) (by omega)) ?_
    have r3 := zM_k hZ 2 0 0 (2010 + 16 * x3) (lo := 0) (hi := 47) (by decide) (zs_2010_0 (x := x3) (by omega) (by omega) (by omega))
    refine wz_br (i3NE (zm_rd (Z := Z) (ν := ν) (k := 2) (show ((0 : Nat) : Int) = 0 from rfl) (show ((0 : Nat) : Int) = 0 from rfl) (i3I (y := (2010 + 16 * x3)) (i3A (i3A (show (2010 : Int32) = i3 2010 from rfl) (i3M (show (16 : Int32) = i3 16 from rfl) (rfl : i3 x3 = i3 x3))) (show (0 : Int32) = i3 0 from rfl)) (by omega) (by omega) (by omega))) (rfl : i3 x1 = i3 x1) (by omega) (by omega) (by omega) (by omega)) (fun h4 => ?_) (fun h4 => ?_)
    · replace hP := zE_p hP h4
      obtain ⟨m2, rfl⟩ : ∃ m2, m = m2 + 1 := ⟨m - 1, by omega⟩
      exact wz_k1 ⟨m2, by omega, xM9, Z, (x3 + 1), (zconso rfl (zconso (zvo (rfl : i3 x1 = i3 x1)) (zconso rfl (zconso (zvo (i3A (rfl : i3 x3 = i3 x3) (show (1 : Int32) = i3 1 from rfl))) rfl)))), rfl, by omega, hZ, hK, hU, by omega, by omega,  hP⟩
    · replace hP := zE_n hP h4
      refine wz_i0 (i3O (n := 4400) (i3A (i3A (show (2010 : Int32) = i3 2010 from rfl) (i3M (show (16 : Int32) = i3 16 from rfl) (rfl : i3 x3 = i3 x3))) (show (9 : Int32) = i3 9 from rfl)) (by omega) (by omega) (by omega)) ?_
      have r5 := zM_k hZ 2 0 0 (2019 + 16 * x3) (lo := 0) (hi := 3) (by decide) (zs_2010_9 (x := x3) (by omega) (by omega) (by omega))
      have r6 := zM_lt2 hZ x3
      refine wz_br (i3NE (zm_rd (Z := Z) (ν := ν) (k := 2) (show ((0 : Nat) : Int) = 0 from rfl) (show ((0 : Nat) : Int) = 0 from rfl) (i3I (y := (2019 + 16 * x3)) (i3A (i3A (show (2010 : Int32) = i3 2010 from rfl) (i3M (show (16 : Int32) = i3 16 from rfl) (rfl : i3 x3 = i3 x3))) (show (9 : Int32) = i3 9 from rfl)) (by omega) (by omega) (by omega))) (show (0 : Int32) = i3 0 from rfl) (by omega) (by omega) (by omega) (by omega)) (fun h7 => ?_) (fun h7 => ?_)
      · replace hP := zE_p hP h7
        obtain ⟨m2, rfl⟩ : ∃ m2, m = m2 + 1 := ⟨m - 1, by omega⟩
        exact wz_k1 ⟨m2, by omega, xM9, Z, (x3 + 1), (zconso rfl (zconso (zvo (rfl : i3 x1 = i3 x1)) (zconso rfl (zconso (zvo (i3A (rfl : i3 x3 = i3 x3) (show (1 : Int32) = i3 1 from rfl))) rfl)))), rfl, by omega, hZ, hK, hU, by omega, by omega,  hP⟩
      · replace hP := zE_n hP h7
        obtain ⟨Z8, hZ8, c9, hZ8I, kZ8, jZ8⟩ := sp_432 (ν := ν) hZ (a1 := x3) (by omega) (zbh (c := 0) (k := 2) hM9 (Nat.le_of_ble_eq_true rfl))
        have hZ8U : zU [] Zs Z8 := zU_t hU jZ8 zU_b0
        have hZ8K : zC [2] Zs Z8 := zC_t hK kZ8 (by decide)
        replace hP := zl_e hP hZ8
        refine wz_cV_of (zas (zcons rfl (zcons (zvi (rfl : i3 x3 = i3 x3)) rfl)) c9) ?_
        clear c9
        obtain ⟨m2, rfl⟩ : ∃ m2, m = m2 + 1 := ⟨m - 1, by omega⟩
        exact wz_k1 ⟨m2, by omega, xM9 + 2, Z8, (x3 + 1), (zconso rfl (zconso (zvo (rfl : i3 x1 = i3 x1)) (zconso rfl (zconso (zvo (i3A (rfl : i3 x3 = i3 x3) (show (1 : Int32) = i3 1 from rfl))) rfl)))), rfl, by omega, (zmt hZ8I rfl), hZ8K, hZ8U, by omega, by omega,  hP⟩
/- yX12_mGone -/
def zf_431 (Z : qz_Z) (a1 : Int) (a2 : Int) : qz_Z := (if (Z 2 0 0 (210 + 20 * a1)) ≠ 1 then (zlet (zu Z 2 0 0 (206 + 20 * a1) (w3 ((Z 2 0 0 (206 + 20 * a1)) + (Z 2 0 0 (204 + 20 * a1))))) (fun Z8 => (zlet (zu Z8 2 0 0 (204 + 20 * a1) 0) (fun Z9 => (zlet (zu Z9 2 0 0 (205 + 20 * a1) 0) (fun Z10 => (zlet (zu Z10 2 0 0 (210 + 20 * a1) a2) (fun Z11 => (zlet (zf_478 Z11 a1) (fun Z23 => (zlet2 (zl_431_1 a1 61 Z23 0) (fun Z25 y24 => Z25)))))))))))) else (zlet (zf_305 Z a1) (fun v27 => (if v27 = (-1) then (zlet (zu Z 2 0 0 (206 + 20 * a1) (w3 ((Z 2 0 0 (206 + 20 * a1)) + (Z 2 0 0 (204 + 20 * a1))))) (fun Z32 => (zlet (zu Z32 2 0 0 (204 + 20 * a1) 0) (fun Z33 => (zlet (zu Z33 2 0 0 (205 + 20 * a1) 0) (fun Z34 => (zlet (zu Z34 2 0 0 (210 + 20 * a1) a2) (fun Z35 => (zlet (zf_478 Z35 a1) (fun Z47 => (zlet2 (zl_431_1 a1 61 Z47 0) (fun Z49 y48 => Z49)))))))))))) else (zlet (zf_306 Z v27 a1) (fun v51 => (zlet (zf_312 Z v27 v51) (fun Z55 => (zlet (zu Z55 2 0 0 (206 + 20 * a1) (w3 ((Z55 2 0 0 (206 + 20 * a1)) + (Z55 2 0 0 (204 + 20 * a1))))) (fun Z61 => (zlet (zu Z61 2 0 0 (204 + 20 * a1) 0) (fun Z62 => (zlet (zu Z62 2 0 0 (205 + 20 * a1) 0) (fun Z63 => (zlet (zu Z63 2 0 0 (210 + 20 * a1) a2) (fun Z64 => (zlet (zf_478 Z64 a1) (fun Z76 => (zlet2 (zl_431_1 a1 61 Z76 0) (fun Z78 y77 => Z78))))))))))))))))))))
theorem sp_431 {s : zSM} {Z : qz_Z} {ν : qz_N} (hZ : zM s Z) {a1 : Int} (ga1 : 0 ≤ a1 ∧ a1 ≤ 47) {a2 : Int} (ga2 : 3 ≤ a2 ∧ a2 ≤ 4) (hM : s.2 + 123 ≤ 1000000000) : ∃ P : qz_Z, P = zf_431 Z a1 a2 ∧ (qf_431 [.inr (.inr (some (1, 0, 0))), .inl (i3 a1), .inl (i3 a2)] (zm Z ν) = some (zm P ν, .inl none) ∧ zM (zb s 123) P ∧ zC [2] Z P ∧ zU [] Z P) := by
  obtain ⟨P, hP⟩ := zx (zf_431 Z a1 a2)
  refine zc_V (Q := fun P => zM (zb s 123) P ∧ zC [2] Z P ∧ zU [] Z P) hP (fw_431 (i3 a1) (i3 a2) _ _ ?_)
  replace hP : zE P (zf_431 Z a1 a2) := hP
  unfold zf_431 at hP
  refine wz_i0 (i3O (n := 4400) (i3A (i3A (show (200 : Int32) = i3 200 from rfl) (i3M (show (20 : Int32) = i3 20 from rfl) (rfl : i3 a1 = i3 a1))) (show (10 : Int32) = i3 10 from rfl)) (by omega) (by omega) (by omega)) ?_
  have r1 := zM_k hZ 2 0 0 (210 + 20 * a1) (lo := 0) (hi := 4) (by decide) (zs_200_10 (x := a1) (by omega) (by omega) (by omega))
  have r2 := zM_pl hZ a1
  have r3 := zM_k hZ 2 0 0 102 (lo := 0) (hi := 48) (by decide) rfl
  refine wz_br (i3NE (zm_rd (Z := Z) (ν := ν) (k := 2) (show ((0 : Nat) : Int) = 0 from rfl) (show ((0 : Nat) : Int) = 0 from rfl) (i3I (y := (210 + 20 * a1)) (i3A (i3A (show (200 : Int32) = i3 200 from rfl) (i3M (show (20 : Int32) = i3 20 from rfl) (rfl : i3 a1 = i3 a1))) (show (10 : Int32) = i3 10 from rfl)) (by omega) (by omega) (by omega))) (show (1 : Int32) = i3 1 from rfl) (by omega) (by omega) (by omega) (by omega)) (fun h4 => ?_) (fun h4 => ?_)
  · replace hP := zE_p hP h4
    refine wz_i0 (i3O (n := 4400) (i3A (i3A (show (200 : Int32) = i3 200 from rfl) (i3M (show (20 : Int32) = i3 20 from rfl) (rfl : i3 a1 = i3 a1))) (show (6 : Int32) = i3 6 from rfl)) (by omega) (by omega) (by omega)) ?_
    refine wz_i0 (i3O (n := 4400) (i3A (i3A (show (200 : Int32) = i3 200 from rfl) (i3M (show (20 : Int32) = i3 20 from rfl) (rfl : i3 a1 = i3 a1))) (show (4 : Int32) = i3 4 from rfl)) (by omega) (by omega) (by omega)) ?_
    refine wz_i0 (i3O (n := 4400) (i3A (i3A (show (200 : Int32) = i3 200 from rfl) (i3M (show (20 : Int32) = i3 20 from rfl) (rfl : i3 a1 = i3 a1))) (show (6 : Int32) = i3 6 from rfl)) (by omega) (by omega) (by omega)) ?_
    have r5 := zM_f hZ 2 0 0 (206 + 20 * a1)
    have r6 := zM_k hZ 2 0 0 (204 + 20 * a1) (lo := 0) (hi := 40) (by decide) (zs_200_4 (x := a1) (by omega) (by omega) (by omega))
    have r7 := w3_r ((Z 2 0 0 (206 + 20 * a1)) + (Z 2 0 0 (204 + 20 * a1)))
    obtain ⟨Z8, hZ8⟩ := zx (zu Z 2 0 0 (206 + 20 * a1) (w3 ((Z 2 0 0 (206 + 20 * a1)) + (Z 2 0 0 (204 + 20 * a1)))))
    replace hP := zl_e hP hZ8
    have hZ8I := zM_u2 hZ hZ8 (lo := -2147483648) (hi := 2147483647) (zs_200_6 (x := a1) (by omega) (by omega) (by omega)) (by omega) ⟨by decide, by decide⟩ (by simp only [zsp]; omega)
    have hZ8U : zU [] Z Z8 := zU_u zU_r hZ8 (Or.inl rfl)
    have hZ8K : zC [2] Z Z8 := zC_u zC_r hZ8 (zcl_2w (by omega) rfl)
    intro μ9 e9
    replace e9 := e9.trans (zm_wI (Z := Z) (ν := ν) hZ8 (show ((0 : Nat) : Int) = 0 from rfl) (show ((0 : Nat) : Int) = 0 from rfl) (i3I (y := (206 + 20 * a1)) (i3A (i3A (show (200 : Int32) = i3 200 from rfl) (i3M (show (20 : Int32) = i3 20 from rfl) (rfl : i3 a1 = i3 a1))) (show (6 : Int32) = i3 6 from rfl)) (by omega) (by omega) (by omega)) (i3W (i3A (zm_rd (Z := Z) (ν := ν) (k := 2) (show ((0 : Nat) : Int) = 0 from rfl) (show ((0 : Nat) : Int) = 0 from rfl) (i3I (y := (206 + 20 * a1)) (i3A (i3A (show (200 : Int32) = i3 200 from rfl) (i3M (show (20 : Int32) = i3 20 from rfl) (rfl : i3 a1 = i3 a1))) (show (6 : Int32) = i3 6 from rfl)) (by omega) (by omega) (by omega))) (zm_rd (Z := Z) (ν := ν) (k := 2) (show ((0 : Nat) : Int) = 0 from rfl) (show ((0 : Nat) : Int) = 0 from rfl) (i3I (y := (204 + 20 * a1)) (i3A (i3A (show (200 : Int32) = i3 200 from rfl) (i3M (show (20 : Int32) = i3 20 from rfl) (rfl : i3 a1 = i3 a1))) (show (4 : Int32) = i3 4 from rfl)) (by omega) (by omega) (by omega))))))
    subst e9
    refine wz_i0 (i3O (n := 4400) (i3A (i3A (show (200 : Int32) = i3 200 from rfl) (i3M (show (20 : Int32) = i3 20 from rfl) (rfl : i3 a1 = i3 a1))) (show (4 : Int32) = i3 4 from rfl)) (by omega) (by omega) (by omega)) ?_
    obtain ⟨Z9, hZ9⟩ := zx (zu Z8 2 0 0 (204 + 20 * a1) 0)
    replace hP := zl_e hP hZ9
    have hZ9I := zM_02 hZ8I hZ9 (by simp only [zsp]; omega)
    have hZ9U : zU [] Z Z9 := zU_u hZ8U hZ9 (Or.inl rfl)
    have hZ9K : zC [2] Z Z9 := zC_u hZ8K hZ9 (zcl_2w (by omega) rfl)
    intro μ9 e9
    replace e9 := e9.trans (zm_wI (Z := Z8) (ν := ν) hZ9 (show ((0 : Nat) : Int) = 0 from rfl) (show ((0 : Nat) : Int) = 0 from rfl) (i3I (y := (204 + 20 * a1)) (i3A (i3A (show (200 : Int32) = i3 200 from rfl) (i3M (show (20 : Int32) = i3 20 from rfl) (rfl : i3 a1 = i3 a1))) (show (4 : Int32) = i3 4 from rfl)) (by omega) (by omega) (by omega)) (show (0 : Int32) = i3 0 from rfl))
    subst e9
    refine wz_i0 (i3O (n := 4400) (i3A (i3A (show (200 : Int32) = i3 200 from rfl) (i3M (show (20 : Int32) = i3 20 from rfl) (rfl : i3 a1 = i3 a1))) (show (5 : Int32) = i3 5 from rfl)) (by omega) (by omega) (by omega)) ?_
    obtain ⟨Z10, hZ10⟩ := zx (zu Z9 2 0 0 (205 + 20 * a1) 0)
    replace hP := zl_e hP hZ10
    have hZ10I := zM_02 hZ9I hZ10 (by simp only [zsp]; omega)
    have hZ10U : zU [] Z Z10 := zU_u hZ9U hZ10 (Or.inl rfl)
    have hZ10K : zC [2] Z Z10 := zC_u hZ9K hZ10 (zcl_2w (by omega) rfl)
    intro μ9 e9
    replace e9 := e9.trans (zm_wI (Z := Z9) (ν := ν) hZ10 (show ((0 : Nat) : Int) = 0 from rfl) (show ((0 : Nat) : Int) = 0 from rfl) (i3I (y := (205 + 20 * a1)) (i3A (i3A (show (200 : Int32) = i3 200 from rfl) (i3M (show (20 : Int32) = i3 20 from rfl) (rfl : i3 a1 = i3 a1))) (show (5 : Int32) = i3 5 from rfl)) (by omega) (by omega) (by omega)) (show (0 : Int32) = i3 0 from rfl))
    subst e9
    refine wz_i0 (i3O (n := 4400) (i3A (i3A (show (200 : Int32) = i3 200 from rfl) (i3M (show (20 : Int32) = i3 20 from rfl) (rfl : i3 a1 = i3 a1))) (show (10 : Int32) = i3 10 from rfl)) (by omega) (by omega) (by omega)) ?_
    obtain ⟨Z11, hZ11⟩ := zx (zu Z10 2 0 0 (210 + 20 * a1) a2)
    replace hP := zl_e hP hZ11
    have r12 := zM_k hZ10I 2 0 0 (210 + 20 * a1) (lo := 0) (hi := 4) (by decide) (zs_200_10 (x := a1) (by omega) (by omega) (by omega))
    have r13 := zM_pl hZ10I a1
    have r14 := zM_k hZ10I 2 0 0 102 (lo := 0) (hi := 48) (by decide) rfl
    have q15 := (zu_ne (k' := 2) (b' := 0) (i' := 0) (j' := 102) hZ10 (fun q => absurd q.2.2.2 (by omega))).trans ((zu_ne (k' := 2) (b' := 0) (i' := 0) (j' := 102) hZ9 (fun q => absurd q.2.2.2 (by omega))).trans (zu_ne (k' := 2) (b' := 0) (i' := 0) (j' := 102) hZ8 (fun q => absurd q.2.2.2 (by omega))))
    have q16 := (zu_ne (k' := 2) (b' := 0) (i' := 0) (j' := (210 + 20 * a1)) hZ10 (fun q => absurd q.2.2.2 (by omega))).trans ((zu_ne (k' := 2) (b' := 0) (i' := 0) (j' := (210 + 20 * a1)) hZ9 (fun q => absurd q.2.2.2 (by omega))).trans (zu_ne (k' := 2) (b' := 0) (i' := 0) (j' := (210 + 20 * a1)) hZ8 (fun q => absurd q.2.2.2 (by omega))))
    have r17 := zM_k hZ10I 2 0 0 (211 + 20 * a1) (lo := -1) (hi := 6) (by decide) (zs_200_11 (x := a1) (by omega) (by omega) (by omega))
    have hZ11I := zM_ps2 hZ10I hZ11 (q := a1) (by omega) (by omega) (by omega) (by omega)
    have hZ11U : zU [] Z Z11 := zU_u hZ10U hZ11 (Or.inl rfl)
    have hZ11K : zC [2] Z Z11 := zC_u hZ10K hZ11 (zcl_2w (by omega) rfl)
    intro μ9 e9
    replace e9 := e9.trans (zm_wI (Z := Z10) (ν := ν) hZ11 (show ((0 : Nat) : Int) = 0 from rfl) (show ((0 : Nat) : Int) = 0 from rfl) (i3I (y := (210 + 20 * a1)) (i3A (i3A (show (200 : Int32) = i3 200 from rfl) (i3M (show (20 : Int32) = i3 20 from rfl) (rfl : i3 a1 = i3 a1))) (show (10 : Int32) = i3 10 from rfl)) (by omega) (by omega) (by omega)) (rfl : i3 a2 = i3 a2))
    subst e9
    have r18 := zM_k hZ11I 2 0 0 (210 + 20 * a1) (lo := 0) (hi := 4) (by decide) (zs_200_10 (x := a1) (by omega) (by omega) (by omega))
    have r19 := zM_pl hZ11I a1
    have r20 := zM_k hZ11I 2 0 0 102 (lo := 0) (hi := 48) (by decide) rfl
    have q21 := zu_ne (k' := 2) (b' := 0) (i' := 0) (j' := 102) hZ11 (fun q => absurd q.2.2.2 (by omega))
    have q22 := zu_at hZ11
    obtain ⟨Z23, hZ23, c9, hZ23I, kZ23, jZ23⟩ := sp_478 (ν := ν) hZ11I (a1 := a1) (by omega) (by omega) (zbh (c := 0) (k := 1) hM (Nat.le_of_ble_eq_true rfl))
    have hZ23U : zU [] Z Z23 := zU_t hZ11U jZ23 zU_b0
    have hZ23K : zC [2] Z Z23 := zC_t hZ11K kZ23 (by decide)
    replace hP := zl_e hP hZ23
    refine wz_cV_of (zas (zcons rfl (zcons (zvi (rfl : i3 a1 = i3 a1)) rfl)) c9) ?_
    clear c9
    refine sl_431_1 (ν := ν) (zm0 hZ23I) (zbh (c := 1) (k := 122) hM (Nat.le_of_ble_eq_true rfl)) (xM9 := 0) zC_r (x1 := a1) (by omega) (x3 := 0) (by omega) zU_r (Nat.le_of_ble_eq_true rfl)  (zconso rfl (zconso (zvo (rfl : i3 a1 = i3 a1)) (zconso rfl (zconso (zvo (show (0 : Int32) = i3 0 from rfl)) rfl)))) rfl ?_
    intro L26 Z25 y24 hL26 hZ25I kZ25 jZ25 gy24 q9
    replace hP := zl_e2 hP (Eq.symm q9)
    clear q9
    replace hZ25I := zmt (c := 123) hZ25I rfl
    have hZ25U : zU [] Z Z25 := zU_t hZ23U jZ25 zU_b0
    have hZ25K : zC [2] Z Z25 := zC_t hZ23K kZ25 (by decide)
    refine fc_431_2  _ _ _ _ hL26 ?_
    exact zlV hP ⟨hZ25I, hZ25K, hZ25U⟩
  · replace hP := zE_n hP h4
    obtain ⟨v27, hv27, c9, lv27, uv27⟩ := sp_305 (ν := ν) hZ (a1 := a1) (by omega) (zbh (c := 0) (k := 0) hM (Nat.le_of_ble_eq_true rfl))
    replace hP := zl_e hP hv27
    refine wz_cI_of (zas (zcons rfl (zcons (zvi (rfl : i3 a1 = i3 a1)) rfl)) c9) ?_
    clear c9
    refine wz_br (i3E (rfl : i3 v27 = i3 v27) (show (-1 : Int32) = i3 (-1) from rfl) (by omega) (by omega) (by omega) (by omega)) (fun h28 => ?_) (fun h28 => ?_)
    · replace hP := zE_p hP h28
      refine wz_i0 (i3O (n := 4400) (i3A (i3A (show (200 : Int32) = i3 200 from rfl) (i3M (show (20 : Int32) = i3 20 from rfl) (rfl : i3 a1 = i3 a1))) (show (6 : Int32) = i3 6 from rfl)) (by omega) (by omega) (by omega)) ?_
      refine wz_i0 (i3O (n := 4400) (i3A (i3A (show (200 : Int32) = i3 200 from rfl) (i3M (show (20 : Int32) = i3 20 from rfl) (rfl : i3 a1 = i3 a1))) (show (4 : Int32) = i3 4 from rfl)) (by omega) (by omega) (by omega)) ?_
      refine wz_i0 (i3O (n := 4400) (i3A (i3A (show (200 : Int32) = i3 200 from rfl) (i3M (show (20 : Int32) = i3 20 from rfl) (rfl : i3 a1 = i3 a1))) (show (6 : Int32) = i3 6 from rfl)) (by omega) (by omega) (by omega)) ?_
      have r29 := zM_f hZ 2 0 0 (206 + 20 * a1)
      have r30 := zM_k hZ 2 0 0 (204 + 20 * a1) (lo := 0) (hi := 40) (by decide) (zs_200_4 (x := a1) (by omega) (by omega) (by omega))
      have r31 := w3_r ((Z 2 0 0 (206 + 20 * a1)) + (Z 2 0 0 (204 + 20 * a1)))
      obtain ⟨Z32, hZ32⟩ := zx (zu Z 2 0 0 (206 + 20 * a1) (w3 ((Z 2 0 0 (206 + 20 * a1)) + (Z 2 0 0 (204 + 20 * a1)))))
      replace hP := zl_e hP hZ32
      have hZ32I := zM_u2 hZ hZ32 (lo := -2147483648) (hi := 2147483647) (zs_200_6 (x := a1) (by omega) (by omega) (by omega)) (by omega) ⟨by decide, by decide⟩ (by simp only [zsp]; omega)
      have hZ32U : zU [] Z Z32 := zU_u zU_r hZ32 (Or.inl rfl)
      have hZ32K : zC [2] Z Z32 := zC_u zC_r hZ32 (zcl_2w (by omega) rfl)
      intro μ9 e9
      replace e9 := e9.trans (zm_wI (Z := Z) (ν := ν) hZ32 (show ((0 : Nat) : Int) = 0 from rfl) (show ((0 : Nat) : Int) = 0 from rfl) (i3I (y := (206 + 20 * a1)) (i3A (i3A (show (200 : Int32) = i3 200 from rfl) (i3M (show (20 : Int32) = i3 20 from rfl) (rfl : i3 a1 = i3 a1))) (show (6 : Int32) = i3 6 from rfl)) (by omega) (by omega) (by omega)) (i3W (i3A (zm_rd (Z := Z) (ν := ν) (k := 2) (show ((0 : Nat) : Int) = 0 from rfl) (show ((0 : Nat) : Int) = 0 from rfl) (i3I (y := (206 + 20 * a1)) (i3A (i3A (show (200 : Int32) = i3 200 from rfl) (i3M (show (20 : Int32) = i3 20 from rfl) (rfl : i3 a1 = i3 a1))) (show (6 : Int32) = i3 6 from rfl)) (by omega) (by omega) (by omega))) (zm_rd (Z := Z) (ν := ν) (k := 2) (show ((0 : Nat) : Int) = 0 from rfl) (show ((0 : Nat) : Int) = 0 from rfl) (i3I (y := (204 + 20 * a1)) (i3A (i3A (show (200 : Int32) = i3 200 from rfl) (i3M (show (20 : Int32) = i3 20 from rfl) (rfl : i3 a1 = i3 a1))) (show (4 : Int32) = i3 4 from rfl)) (by omega) (by omega) (by omega))))))
      subst e9
      refine wz_i0 (i3O (n := 4400) (i3A (i3A (show (200 : Int32) = i3 200 from rfl) (i3M (show (20 : Int32) = i3 20 from rfl) (rfl : i3 a1 = i3 a1))) (show (4 : Int32) = i3 4 from rfl)) (by omega) (by omega) (by omega)) ?_
      obtain ⟨Z33, hZ33⟩ := zx (zu Z32 2 0 0 (204 + 20 * a1) 0)
      replace hP := zl_e hP hZ33
      have hZ33I := zM_02 hZ32I hZ33 (by simp only [zsp]; omega)
      have hZ33U : zU [] Z Z33 := zU_u hZ32U hZ33 (Or.inl rfl)
      have hZ33K : zC [2] Z Z33 := zC_u hZ32K hZ33 (zcl_2w (by omega) rfl)
      intro μ9 e9
      replace e9 := e9.trans (zm_wI (Z := Z32) (ν := ν) hZ33 (show ((0 : Nat) : Int) = 0 from rfl) (show ((0 : Nat) : Int) = 0 from rfl) (i3I (y := (204 + 20 * a1)) (i3A (i3A (show (200 : Int32) = i3 200 from rfl) (i3M (show (20 : Int32) = i3 20 from rfl) (rfl : i3 a1 = i3 a1))) (show (4 : Int32) = i3 4 from rfl)) (by omega) (by omega) (by omega)) (show (0 : Int32) = i3 0 from rfl))
      subst e9
      refine wz_i0 (i3O (n := 4400) (i3A (i3A (show (200 : Int32) = i3 200 from rfl) (i3M (show (20 : Int32) = i3 20 from rfl) (rfl : i3 a1 = i3 a1))) (show (5 : Int32) = i3 5 from rfl)) (by omega) (by omega) (by omega)) ?_
      obtain ⟨Z34, hZ34⟩ := zx (zu Z33 2 0 0 (205 + 20 * a1) 0)
      replace hP := zl_e hP hZ34
      have hZ34I := zM_02 hZ33I hZ34 (by simp only [zsp]; omega)
      have hZ34U : zU [] Z Z34 := zU_u hZ33U hZ34 (Or.inl rfl)
      have hZ34K : zC [2] Z Z34 := zC_u hZ33K hZ34 (zcl_2w (by omega) rfl)
      intro μ9 e9
      replace e9 := e9.trans (zm_wI (Z := Z33) (ν := ν) hZ34 (show ((0 : Nat) : Int) = 0 from rfl) (show ((0 : Nat) : Int) = 0 from rfl) (i3I (y := (205 + 20 * a1)) (i3A (i3A (show (200 : Int32) = i3 200 from rfl) (i3M (show (20 : Int32) = i3 20 from rfl) (rfl : i3 a1 = i3 a1))) (show (5 : Int32) = i3 5 from rfl)) (by omega) (by omega) (by omega)) (show (0 : Int32) = i3 0 from rfl))
      subst e9
      refine wz_i0 (i3O (n := 4400) (i3A (i3A (show (200 : Int32) = i3 200 from rfl) (i3M (show (20 : Int32) = i3 20 from rfl) (rfl : i3 a1 = i3 a1))) (show (10 : Int32) = i3 10 from rfl)) (by omega) (by omega) (by omega)) ?_
      obtain ⟨Z35, hZ35⟩ := zx (zu Z34 2 0 0 (210 + 20 * a1) a2)
      replace hP := zl_e hP hZ35
      have r36 := zM_k hZ34I 2 0 0 (210 + 20 * a1) (lo := 0) (hi := 4) (by decide) (zs_200_10 (x := a1) (by omega) (by omega) (by omega))
      have r37 := zM_pl hZ34I a1
      have r38 := zM_k hZ34I 2 0 0 102 (lo := 0) (hi := 48) (by decide) rfl
      have q39 := (zu_ne (k' := 2) (b' := 0) (i' := 0) (j' := 102) hZ34 (fun q => absurd q.2.2.2 (by omega))).trans ((zu_ne (k' := 2) (b' := 0) (i' := 0) (j' := 102) hZ33 (fun q => absurd q.2.2.2 (by omega))).trans (zu_ne (k' := 2) (b' := 0) (i' := 0) (j' := 102) hZ32 (fun q => absurd q.2.2.2 (by omega))))
      have q40 := (zu_ne (k' := 2) (b' := 0) (i' := 0) (j' := (210 + 20 * a1)) hZ34 (fun q => absurd q.2.2.2 (by omega))).trans ((zu_ne (k' := 2) (b' := 0) (i' := 0) (j' := (210 + 20 * a1)) hZ33 (fun q => absurd q.2.2.2 (by omega))).trans (zu_ne (k' := 2) (b' := 0) (i' := 0) (j' := (210 + 20 * a1)) hZ32 (fun q => absurd q.2.2.2 (by omega))))
      have r41 := zM_k hZ34I 2 0 0 (211 + 20 * a1) (lo := -1) (hi := 6) (by decide) (zs_200_11 (x := a1) (by omega) (by omega) (by omega))
      have hZ35I := zM_ps2 hZ34I hZ35 (q := a1) (by omega) (by omega) (by omega) (by omega)
      have hZ35U : zU [] Z Z35 := zU_u hZ34U hZ35 (Or.inl rfl)
      have hZ35K : zC [2] Z Z35 := zC_u hZ34K hZ35 (zcl_2w (by omega) rfl)
      intro μ9 e9
      replace e9 := e9.trans (zm_wI (Z := Z34) (ν := ν) hZ35 (show ((0 : Nat) : Int) = 0 from rfl) (show ((0 : Nat) : Int) = 0 from rfl) (i3I (y := (210 + 20 * a1)) (i3A (i3A (show (200 : Int32) = i3 200 from rfl) (i3M (show (20 : Int32) = i3 20 from rfl) (rfl : i3 a1 = i3 a1))) (show (10 : Int32) = i3 10 from rfl)) (by omega) (by omega) (by omega)) (rfl : i3 a2 = i3 a2))
      subst e9
      have r42 := zM_k hZ35I 2 0 0 (210 + 20 * a1) (lo := 0) (hi := 4) (by decide) (zs_200_10 (x := a1) (by omega) (by omega) (by omega))
      have r43 := zM_pl hZ35I a1
      have r44 := zM_k hZ35I 2 0 0 102 (lo := 0) (hi := 48) (by decide) rfl
      have q45 := zu_ne (k' := 2) (b' := 0) (i' := 0) (j' := 102) hZ35 (fun q => absurd q.2.2.2 (by omega))
      have q46 := zu_at hZ35
      obtain ⟨Z47, hZ47, c9, hZ47I, kZ47, jZ47⟩ := sp_478 (ν := ν) hZ35I (a1 := a1) (by omega) (by omega) (zbh (c := 0) (k := 1) hM (Nat.le_of_ble_eq_true rfl))
      have hZ47U : zU [] Z Z47 := zU_t hZ35U jZ47 zU_b0
      have hZ47K : zC [2] Z Z47 := zC_t hZ35K kZ47 (by decide)
      replace hP := zl_e hP hZ47
      refine wz_cV_of (zas (zcons rfl (zcons (zvi (rfl : i3 a1 = i3 a1)) rfl)) c9) ?_
      clear c9
      refine sl_431_1 (ν := ν) (zm0 hZ47I) (zbh (c := 1) (k := 122) hM (Nat.le_of_ble_eq_true rfl)) (xM9 := 0) zC_r (x1 := a1) (by omega) (x3 := 0) (by omega) zU_r (Nat.le_of_ble_eq_true rfl)  (zconso rfl (zconso (zvo (rfl : i3 a1 = i3 a1)) (zconso rfl (zconso (zvo (show (0 : Int32) = i3 0 from rfl)) rfl)))) rfl ?_
      intro L50 Z49 y48 hL50 hZ49I kZ49 jZ49 gy48 q9
      replace hP := zl_e2 hP (Eq.symm q9)
      clear q9
      replace hZ49I := zmt (c := 123) hZ49I rfl
      have hZ49U : zU [] Z Z49 := zU_t hZ47U jZ49 zU_b0
      have hZ49K : zC [2] Z Z49 := zC_t hZ47K kZ49 (by decide)
      refine fc_431_2  _ _ _ _ hL50 ?_
      exact zlV hP ⟨hZ49I, hZ49K, hZ49U⟩
    · replace hP := zE_n hP h28
      obtain ⟨v51, hv51, c9, lv51, uv51, wv510⟩ := sp_306 (ν := ν) hZ (a1 := v27) (by omega) (a2 := a1) (by omega) (zbh (c := 0) (k := 0) hM (Nat.le_of_ble_eq_true rfl))
      replace hP := zl_e hP hv51
      refine wz_cI_of (zas (zcons rfl (zcons (zvi (rfl : i3 v27 = i3 v27)) (zcons (zvi (rfl : i3 a1 = i3 a1)) rfl))) c9) ?_
      clear c9
      have r52 := zM_k hZ 2 0 0 (3015 + 60 * v27) (lo := 0) (hi := 12) (by decide) (zs_3010_5 (x := (v27 + 0)) (by omega) (by omega) (by omega))
      have w53 : v51 < Z 2 0 0 (3015 + 60 * v27) := wv510
      have r54 := z306 hv27 hv51
      obtain ⟨Z55, hZ55, c9, hZ55I, kZ55, jZ55⟩ := sp_312 (ν := ν) hZ (a1 := v27) (by omega) (a2 := v51) (by omega) (by omega) (zbh (c := 0) (k := 0) hM (Nat.le_of_ble_eq_true rfl))
      have hZ55U : zU [] Z Z55 := zU_t zU_r jZ55 zU_b0
      have hZ55K : zC [2] Z Z55 := zC_t zC_r kZ55 (by decide)
      replace hP := zl_e hP hZ55
      refine wz_cV_of (zas (zcons rfl (zcons (zvi (rfl : i3 v27 = i3 v27)) (zcons (zvi (rfl : i3 v51 = i3 v51)) rfl))) c9) ?_
      clear c9
      have q56 : Z55 2 0 0 102 = Z 2 0 0 102 := zn_312 hZ55 (by omega) (by omega) ⟨by omega, by omega⟩ (by omega)
      have q57 : Z55 2 0 0 (210 + 20 * a1) = Z 2 0 0 (210 + 20 * a1) := zn_312 hZ55 (by omega) (by omega) ⟨by omega, by omega⟩ (by omega)
      refine wz_i0 (i3O (n := 4400) (i3A (i3A (show (200 : Int32) = i3 200 from rfl) (i3M (show (20 : Int32) = i3 20 from rfl) (rfl : i3 a1 = i3 a1))) (show (6 : Int32) = i3 6 from rfl)) (by omega) (by omega) (by omega)) ?_
      refine wz_i0 (i3O (n := 4400) (i3A (i3A (show (200 : Int32) = i3 200 from rfl) (i3M (show (20 : Int32) = i3 20 from rfl) (rfl : i3 a1 = i3 a1))) (show (4 : Int32) = i3 4 from rfl)) (by omega) (by omega) (by omega)) ?_
      refine wz_i0 (i3O (n := 4400) (i3A (i3A (show (200 : Int32) = i3 200 from rfl) (i3M (show (20 : Int32) = i3 20 from rfl) (rfl : i3 a1 = i3 a1))) (show (6 : Int32) = i3 6 from rfl)) (by omega) (by omega) (by omega)) ?_
      have r58 := zM_f hZ55I 2 0 0 (206 + 20 * a1)
      have r59 := zM_k hZ55I 2 0 0 (204 + 20 * a1) (lo := 0) (hi := 40) (by decide) (zs_200_4 (x := a1) (by omega) (by omega) (by omega))
      have r60 := w3_r ((Z55 2 0 0 (206 + 20 * a1)) + (Z55 2 0 0 (204 + 20 * a1)))
      obtain ⟨Z61, hZ61⟩ := zx (zu Z55 2 0 0 (206 + 20 * a1) (w3 ((Z55 2 0 0 (206 + 20 * a1)) + (Z55 2 0 0 (204 + 20 * a1)))))
      replace hP := zl_e hP hZ61
      have hZ61I := zM_u2 hZ55I hZ61 (lo := -2147483648) (hi := 2147483647) (zs_200_6 (x := a1) (by omega) (by omega) (by omega)) (by omega) ⟨by decide, by decide⟩ (by simp only [zsp]; omega)
      have hZ61U : zU [] Z Z61 := zU_u hZ55U hZ61 (Or.inl rfl)
      have hZ61K : zC [2] Z Z61 := zC_u hZ55K hZ61 (zcl_2w (by omega) rfl)
      intro μ9 e9
      replace e9 := e9.trans (zm_wI (Z := Z55) (ν := ν) hZ61 (show ((0 : Nat) : Int) = 0 from rfl) (show ((0 : Nat) : Int) = 0 from rfl) (i3I (y := (206 + 20 * a1)) (i3A (i3A (show (200 : Int32) = i3 200 from rfl) (i3M (show (20 : Int32) = i3 20 from rfl) (rfl : i3 a1 = i3 a1))) (show (6 : Int32) = i3 6 from rfl)) (by omega) (by omega) (by omega)) (i3W (i3A (zm_rd (Z := Z55) (ν := ν) (k := 2) (show ((0 : Nat) : Int) = 0 from rfl) (show ((0 : Nat) : Int) = 0 from rfl) (i3I (y := (206 + 20 * a1)) (i3A (i3A (show (200 : Int32) = i3 200 from rfl) (i3M (show (20 : Int32) = i3 20 from rfl) (rfl : i3 a1 = i3 a1))) (show (6 : Int32) = i3 6 from rfl)) (by omega) (by omega) (by omega))) (zm_rd (Z := Z55) (ν := ν) (k := 2) (show ((0 : Nat) : Int) = 0 from rfl) (show ((0 : Nat) : Int) = 0 from rfl) (i3I (y := (204 + 20 * a1)) (i3A (i3A (show (200 : Int32) = i3 200 from rfl) (i3M (show (20 : Int32) = i3 20 from rfl) (rfl : i3 a1 = i3 a1))) (show (4 : Int32) = i3 4 from rfl)) (by omega) (by omega) (by omega))))))
      subst e9
      refine wz_i0 (i3O (n := 4400) (i3A (i3A (show (200 : Int32) = i3 200 from rfl) (i3M (show (20 : Int32) = i3 20 from rfl) (rfl : i3 a1 = i3 a1))) (show (4 : Int32) = i3 4 from rfl)) (by omega) (by omega) (by omega)) ?_
      obtain ⟨Z62, hZ62⟩ := zx (zu Z61 2 0 0 (204 + 20 * a1) 0)
      replace hP := zl_e hP hZ62
      have hZ62I := zM_02 hZ61I hZ62 (by simp only [zsp]; omega)
      have hZ62U : zU [] Z Z62 := zU_u hZ61U hZ62 (Or.inl rfl)
      have hZ62K : zC [2] Z Z62 := zC_u hZ61K hZ62 (zcl_2w (by omega) rfl)
      intro μ9 e9
      replace e9 := e9.trans (zm_wI (Z := Z61) (ν := ν) hZ62 (show ((0 : Nat) : Int) = 0 from rfl) (show ((0 : Nat) : Int) = 0 from rfl) (i3I (y := (204 + 20 * a1)) (i3A (i3A (show (200 : Int32) = i3 200 from rfl) (i3M (show (20 : Int32) = i3 20 from rfl) (rfl : i3 a1 = i3 a1))) (show (4 : Int32) = i3 4 from rfl)) (by omega) (by omega) (by omega)) (show (0 : Int32) = i3 0 from rfl))
      subst e9
      refine wz_i0 (i3O (n := 4400) (i3A (i3A (show (200 : Int32) = i3 200 from rfl) (i3M (show (20 : Int32) = i3 20 from rfl) (rfl : i3 a1 = i3 a1))) (show (5 : Int32) = i3 5 from rfl)) (by omega) (by omega) (by omega)) ?_
      obtain ⟨Z63, hZ63⟩ := zx (zu Z62 2 0 0 (205 + 20 * a1) 0)
      replace hP := zl_e hP hZ63
      have hZ63I := zM_02 hZ62I hZ63 (by simp only [zsp]; omega)
      have hZ63U : zU [] Z Z63 := zU_u hZ62U hZ63 (Or.inl rfl)
      have hZ63K : zC [2] Z Z63 := zC_u hZ62K hZ63 (zcl_2w (by omega) rfl)
      intro μ9 e9
      replace e9 := e9.trans (zm_wI (Z := Z62) (ν := ν) hZ63 (show ((0 : Nat) : Int) = 0 from rfl) (show ((0 : Nat) : Int) = 0 from rfl) (i3I (y := (205 + 20 * a1)) (i3A (i3A (show (200 : Int32) = i3 200 from rfl) (i3M (show (20 : Int32) = i3 20 from rfl) (rfl : i3 a1 = i3 a1))) (show (5 : Int32) = i3 5 from rfl)) (by omega) (by omega) (by omega)) (show (0 : Int32) = i3 0 from rfl))
      subst e9
      refine wz_i0 (i3O (n := 4400) (i3A (i3A (show (200 : Int32) = i3 200 from rfl) (i3M (show (20 : Int32) = i3 20 from rfl) (rfl : i3 a1 = i3 a1))) (show (10 : Int32) = i3 10 from rfl)) (by omega) (by omega) (by omega)) ?_
      obtain ⟨Z64, hZ64⟩ := zx (zu Z63 2 0 0 (210 + 20 * a1) a2)
      replace hP := zl_e hP hZ64
      have r65 := zM_k hZ63I 2 0 0 (210 + 20 * a1) (lo := 0) (hi := 4) (by decide) (zs_200_10 (x := a1) (by omega) (by omega) (by omega))
      have r66 := zM_pl hZ63I a1
      have r67 := zM_k hZ63I 2 0 0 102 (lo := 0) (hi := 48) (by decide) rfl
      have q68 := (zu_ne (k' := 2) (b' := 0) (i' := 0) (j' := 102) hZ63 (fun q => absurd q.2.2.2 (by omega))).trans ((zu_ne (k' := 2) (b' := 0) (i' := 0) (j' := 102) hZ62 (fun q => absurd q.2.2.2 (by omega))).trans (zu_ne (k' := 2) (b' := 0) (i' := 0) (j' := 102) hZ61 (fun q => absurd q.2.2.2 (by omega))))
      have q69 := (zu_ne (k' := 2) (b' := 0) (i' := 0) (j' := (210 + 20 * a1)) hZ63 (fun q => absurd q.2.2.2 (by omega))).trans ((zu_ne (k' := 2) (b' := 0) (i' := 0) (j' := (210 + 20 * a1)) hZ62 (fun q => absurd q.2.2.2 (by omega))).trans (zu_ne (k' := 2) (b' := 0) (i' := 0) (j' := (210 + 20 * a1)) hZ61 (fun q => absurd q.2.2.2 (by omega))))
      have r70 := zM_k hZ63I 2 0 0 (211 + 20 * a1) (lo := -1) (hi := 6) (by decide) (zs_200_11 (x := a1) (by omega) (by omega) (by omega))
      have hZ64I := zM_ps2 hZ63I hZ64 (q := a1) (by omega) (by omega) (by omega) (by omega)
      have hZ64U : zU [] Z Z64 := zU_u hZ63U hZ64 (Or.inl rfl)
      have hZ64K : zC [2] Z Z64 := zC_u hZ63K hZ64 (zcl_2w (by omega) rfl)
      intro μ9 e9
      replace e9 := e9.trans (zm_wI (Z := Z63) (ν := ν) hZ64 (show ((0 : Nat) : Int) = 0 from rfl) (show ((0 : Nat) : Int) = 0 from rfl) (i3I (y := (210 + 20 * a1)) (i3A (i3A (show (200 : Int32) = i3 200 from rfl) (i3M (show (20 : Int32) = i3 20 from rfl) (rfl : i3 a1 = i3 a1))) (show (10 : Int32) = i3 10 from rfl)) (by omega) (by omega) (by omega)) (rfl : i3 a2 = i3 a2))
      subst e9
      have r71 := zM_k hZ64I 2 0 0 (210 + 20 * a1) (lo := 0) (hi := 4) (by decide) (zs_200_10 (x := a1) (by omega) (by omega) (by omega))
      have r72 := zM_pl hZ64I a1
      have r73 := zM_k hZ64I 2 0 0 102 (lo := 0) (hi := 48) (by decide) rfl
      have q74 := zu_ne (k' := 2) (b' := 0) (i' := 0) (j' := 102) hZ64 (fun q => absurd q.2.2.2 (by omega))
      have q75 := zu_at hZ64
      obtain ⟨Z76, hZ76, c9, hZ76I, kZ76, jZ76⟩ := sp_478 (ν := ν) hZ64I (a1 := a1) (by omega) (by omega) (zbh (c := 0) (k := 1) hM (Nat.le_of_ble_eq_true rfl))
      have hZ76U : zU [] Z Z76 := zU_t hZ64U jZ76 zU_b0
      have hZ76K : zC [2] Z Z76 := zC_t hZ64K kZ76 (by decide)
      replace hP := zl_e hP hZ76
      refine wz_cV_of (zas (zcons rfl (zcons (zvi (rfl : i3 a1 = i3 a1)) rfl)) c9) ?_
      clear c9
      refine sl_431_1 (ν := ν) (zm0 hZ76I) (zbh (c := 1) (k := 122) hM (Nat.le_of_ble_eq_true rfl)) (xM9 := 0) zC_r (x1 := a1) (by omega) (x3 := 0) (by omega) zU_r (Nat.le_of_ble_eq_true rfl)  (zconso rfl (zconso (zvo (rfl : i3 a1 = i3 a1)) (zconso rfl (zconso (zvo (show (0 : Int32) = i3 0 from rfl)) rfl)))) rfl ?_
      intro L79 Z78 y77 hL79 hZ78I kZ78 jZ78 gy77 q9
      replace hP := zl_e2 hP (Eq.symm q9)
      clear q9
      replace hZ78I := zmt (c := 123) hZ78I rfl
      have hZ78U : zU [] Z Z78 := zU_t hZ76U jZ78 zU_b0
      have hZ78K : zC [2] Z Z78 := zC_t hZ76K kZ78 (by decide)
      refine fc_431_2  _ _ _ _ hL79 ?_
      exact zlV hP ⟨hZ78I, hZ78K, hZ78U⟩
/- yX12_dump -/
def zy_338 (Z : qz_Z) (dm : qz_Z → Int → Int → Int → Int → Int → Int → Int → qz_Z) (a1 : Int) : qz_Z × Int := (if a1 < 0 then (zlet (zu Z 1 0 0 2 1) (fun Z5 => (Z5, 0))) else (if ((Z 2 0 0 102) - 1) < a1 then (zlet (zu Z 1 0 0 2 1) (fun Z8 => (Z8, 0))) else (zlet (zu Z 1 0 0 2 0) (fun Z9 => (if 1 < (Z9 2 0 0 (210 + 20 * a1)) then (zlet (zu Z9 1 0 0 2 2) (fun Z15 => (Z15, 0))) else (zlet (zu Z9 1 0 0 2 0) (fun Z16 => (zlet (dm Z16 10 a1 0 0 0 0 0) (fun Z23 => (zlet (zf_431 Z23 a1 4) (fun Z24 => (Z24, (Z23 2 0 0 (204 + 20 * a1))))))))))))))
theorem sy_338 {s : zSM} {Z : qz_Z} {ν : qz_N} (hZ : zM s Z) (gq : Z 1 0 0 35 = 0) (hM : s.2 + 123 ≤ 1000000000) {a1 : Int} (ga1 : -2147483648 ≤ a1 ∧ a1 ≤ 2147483647) {dk : qz_Z → qz_Z} {dm : qz_Z → Int → Int → Int → Int → Int → Int → Int → qz_Z} {ν1 : qz_N} (hdm : zDm s ν ν1 Z dk dm) : ∃ (Z1 : qz_Z) (ν2 : qz_N) (v : Int), (Z1, v) = zy_338 Z dm a1 ∧ (ν2 = ν ∨ ν2 = ν1) ∧ qf_338 [.inr (.inr (some (1, 0, 0))), .inl (i3 a1)] (zm Z ν) = some (zm Z1 ν2, .inl (some (.inl (i3 v)))) ∧ (fun Z1 => zM (zb s 123) Z1 ∧ zC [1, 2, 101, 102, 200] Z Z1 ∧ zU [] Z Z1) Z1 := by
  obtain ⟨P, hP⟩ := zx (zy_338 Z dm a1)
  refine zc_Y (Q := fun Z1 => zM (zb s 123) Z1 ∧ zC [1, 2, 101, 102, 200] Z Z1 ∧ zU [] Z Z1) hP (fw_338 (i3 a1) _ _ ?_)
  replace hP : zE P (zy_338 Z dm a1) := hP
  unfold zy_338 at hP
  have r1 := zM_k hZ 1 0 0 35 (lo := 0) (hi := 1) (by decide) rfl
  have r2 := zM_k hZ 1 0 0 34 (lo := 0) (hi := 8) (by decide) rfl
  have r3 := zM_f hZ 1 0 0 37
  refine wz_br (i3L (rfl : i3 a1 = i3 a1) (show (0 : Int32) = i3 0 from rfl) (by omega) (by omega) (by omega) (by omega)) (fun h4 => ?_) (fun h4 => ?_)
  · replace hP := zE_p hP h4
    obtain ⟨Z5, hZ5⟩ := zx (zu Z 1 0 0 2 1)
    replace hP := zl_e hP hZ5
    have hZ5I := zM_u hZ hZ5 (lo := -2147483648) (hi := 2147483647) (by decide) rfl (by omega) ⟨by decide, by decide⟩ (Or.inr (by decide)) rfl
    have hZ5U : zU [] Z Z5 := zU_u zU_r hZ5 (Or.inl rfl)
    have hZ5K : zC [1, 2, 101, 102, 200] Z Z5 := zC_u zC_r hZ5 (by decide)
    intro μ9 e9
    replace e9 := e9.trans (zm_wI (Z := Z) (ν := ν) hZ5 (show ((0 : Nat) : Int) = 0 from rfl) (show ((0 : Nat) : Int) = 0 from rfl) (show ((2 : Nat) : Int) = 2 from rfl) (show (1 : Int32) = i3 1 from rfl))
    subst e9
    exact zlY hP (show (0 : Int32) = i3 0 from rfl) (.inl rfl) ⟨(zmw (a := 0) (c := 123) hZ5I (Nat.le_of_ble_eq_true rfl)), hZ5K, hZ5U⟩
  · replace hP := zE_n hP h4
    have r6 := zM_k hZ 2 0 0 102 (lo := 0) (hi := 48) (by decide) rfl
    refine wz_br (i3L (i3S (zm_rd (Z := Z) (ν := ν) (k := 2) (show ((0 : Nat) : Int) = 0 from rfl) (show ((0 : Nat) : Int) = 0 from rfl) (show ((102 : Nat) : Int) = 102 from rfl)) (show (1 : Int32) = i3 1 from rfl)) (rfl : i3 a1 = i3 a1) (by omega) (by omega) (by omega) (by omega)) (fun h7 => ?_) (fun h7 => ?_)
    · replace hP := zE_p hP h7
      obtain ⟨Z8, hZ8⟩ := zx (zu Z 1 0 0 2 1)
      replace hP := zl_e hP hZ8
      have hZ8I := zM_u hZ hZ8 (lo := -2147483648) (hi := 2147483647) (by decide) rfl (by omega) ⟨by decide, by decide⟩ (Or.inr (by decide)) rfl
      have hZ8U : zU [] Z Z8 := zU_u zU_r hZ8 (Or.inl rfl)
      have hZ8K : zC [1, 2, 101, 102, 200] Z Z8 := zC_u zC_r hZ8 (by decide)
      intro μ9 e9
      replace e9 := e9.trans (zm_wI (Z := Z) (ν := ν) hZ8 (show ((0 : Nat) : Int) = 0 from rfl) (show ((0 : Nat) : Int) = 0 from rfl) (show ((2 : Nat) : Int) = 2 from rfl) (show (1 : Int32) = i3 1 from rfl))
      subst e9
      exact zlY hP (show (0 : Int32) = i3 0 from rfl) (.inl rfl) ⟨(zmw (a := 0) (c := 123) hZ8I (Nat.le_of_ble_eq_true rfl)), hZ8K, hZ8U⟩
    · replace hP := zE_n hP h7
      obtain ⟨Z9, hZ9⟩ := zx (zu Z 1 0 0 2 0)
      replace hP := zl_e hP hZ9
      have hZ9I := zM_0 hZ hZ9 (by decide) (Or.inr (by decide))
      have hZ9U : zU [] Z Z9 := zU_u zU_r hZ9 (Or.inl rfl)
      have hZ9K : zC [1, 2, 101, 102, 200] Z Z9 := zC_u zC_r hZ9 (by decide)
      intro μ9 e9
      replace e9 := e9.trans (zm_wI (Z := Z) (ν := ν) hZ9 (show ((0 : Nat) : Int) = 0 from rfl) (show ((0 : Nat) : Int) = 0 from rfl) (show ((2 : Nat) : Int) = 2 from rfl) (show (0 : Int32) = i3 0 from rfl))
      subst e9
      refine wz_i0 (i3O (n := 4400) (i3A (i3A (show (200 : Int32) = i3 200 from rfl) (i3M (show (20 : Int32) = i3 20 from rfl) (rfl : i3 a1 = i3 a1))) (show (10 : Int32) = i3 10 from rfl)) (by omega) (by omega) (by omega)) ?_
      have r10 := zM_k hZ9I 2 0 0 (210 + 20 * a1) (lo := 0) (hi := 4) (by decide) (zs_200_10 (x := a1) (by omega) (by omega) (by omega))
      have r11 := zM_pl hZ9I a1
      have r12 := zM_k hZ9I 2 0 0 102 (lo := 0) (hi := 48) (by decide) rfl
      have q13 := zu_ne (k' := 2) (b' := 0) (i' := 0) (j' := 102) hZ9 (fun q => absurd q.1 (by decide))
      refine wz_br (i3L (show (1 : Int32) = i3 1 from rfl) (zm_rd (Z := Z9) (ν := ν) (k := 2) (show ((0 : Nat) : Int) = 0 from rfl) (show ((0 : Nat) : Int) = 0 from rfl) (i3I (y := (210 + 20 * a1)) (i3A (i3A (show (200 : Int32) = i3 200 from rfl) (i3M (show (20 : Int32) = i3 20 from rfl) (rfl : i3 a1 = i3 a1))) (show (10 : Int32) = i3 10 from rfl)) (by omega) (by omega) (by omega))) (by omega) (by omega) (by omega) (by omega)) (fun h14 => ?_) (fun h14 => ?_)
      · replace hP := zE_p hP h14
        obtain ⟨Z15, hZ15⟩ := zx (zu Z9 1 0 0 2 2)
        replace hP := zl_e hP hZ15
        have hZ15I := zM_u hZ9I hZ15 (lo := -2147483648) (hi := 2147483647) (by decide) rfl (by omega) ⟨by decide, by decide⟩ (Or.inr (by decide)) rfl
        have hZ15U : zU [] Z Z15 := zU_u hZ9U hZ15 (Or.inl rfl)
        have hZ15K : zC [1, 2, 101, 102, 200] Z Z15 := zC_u hZ9K hZ15 (by decide)
        intro μ9 e9
        replace e9 := e9.trans (zm_wI (Z := Z9) (ν := ν) hZ15 (show ((0 : Nat) : Int) = 0 from rfl) (show ((0 : Nat) : Int) = 0 from rfl) (show ((2 : Nat) : Int) = 2 from rfl) (show (2 : Int32) = i3 2 from rfl))
        subst e9
        exact zlY hP (show (0 : Int32) = i3 0 from rfl) (.inl rfl) ⟨(zmw (a := 0) (c := 123) hZ15I (Nat.le_of_ble_eq_true rfl)), hZ15K, hZ15U⟩
      · replace hP := zE_n hP h14
        obtain ⟨Z16, hZ16⟩ := zx (zu Z9 1 0 0 2 0)
        replace hP := zl_e hP hZ16
        have hZ16I := zM_0 hZ9I hZ16 (by decide) (Or.inr (by decide))
        have hZ16U : zU [] Z Z16 := zU_u hZ9U hZ16 (Or.inl rfl)
        have hZ16K : zC [1, 2, 101, 102, 200] Z Z16 := zC_u hZ9K hZ16 (by decide)
        intro μ9 e9
        replace e9 := e9.trans (zm_wI (Z := Z9) (ν := ν) hZ16 (show ((0 : Nat) : Int) = 0 from rfl) (show ((0 : Nat) : Int) = 0 from rfl) (show ((2 : Nat) : Int) = 2 from rfl) (show (0 : Int32) = i3 0 from rfl))
        subst e9
        have r17 := zM_k hZ16I 1 0 0 35 (lo := 0) (hi := 1) (by decide) rfl
        have q18 := (zu_ne (k' := 1) (b' := 0) (i' := 0) (j' := 35) hZ16 (fun q => absurd q.2.2.2 (by decide))).trans (zu_ne (k' := 1) (b' := 0) (i' := 0) (j' := 35) hZ9 (fun q => absurd q.2.2.2 (by decide)))
        refine wz_i0 (Eq.trans (i3NE (zm_rd (Z := Z16) (ν := ν) (k := 1) (show ((0 : Nat) : Int) = 0 from rfl) (show ((0 : Nat) : Int) = 0 from rfl) (show ((35 : Nat) : Int) = 35 from rfl)) (show (0 : Int32) = i3 0 from rfl) (by omega) (by omega) (by omega) (by omega)) (decide_eq_false (by omega))) ?_
        have r19 := zM_k hZ16I 1 0 0 34 (lo := 0) (hi := 8) (by decide) rfl
        have q20 := (zu_ne (k' := 1) (b' := 0) (i' := 0) (j' := 34) hZ16 (fun q => absurd q.2.2.2 (by decide))).trans (zu_ne (k' := 1) (b' := 0) (i' := 0) (j' := 34) hZ9 (fun q => absurd q.2.2.2 (by decide)))
        have r21 := zM_f hZ16I 1 0 0 37
        have q22 := (zu_ne (k' := 1) (b' := 0) (i' := 0) (j' := 37) hZ16 (fun q => absurd q.2.2.2 (by decide))).trans (zu_ne (k' := 1) (b' := 0) (i' := 0) (j' := 37) hZ9 (fun q => absurd q.2.2.2 (by decide)))
        obtain ⟨c8, c9, hZ23I, dZ23⟩ := hdm Z16 10 a1 0 0 0 0 0 hZ16I (by omega) (by omega) (by omega) (by omega) (by omega) (by omega) (by omega) (by omega) (by omega) (by omega)
        obtain ⟨Z23, hZ23⟩ := zx (dm Z16 10 a1 0 0 0 0 0)
        rw [← hZ23] at c9 hZ23I dZ23
        replace hP := zl_e hP hZ23
        refine wz_cV_of (zas (zcons rfl (zcons (zvi (show (-1 : Int32) = i3 (-1) from rfl)) rfl)) c8) ?_
        refine wz_cV_of (zas (zcons rfl (zcons (zvi (show (10 : Int32) = i3 10 from rfl)) (zcons (zvi (rfl : i3 a1 = i3 a1)) (zcons (zvi (show (0 : Int32) = i3 0 from rfl)) (zcons (zvi (show (0 : Int32) = i3 0 from rfl)) (zcons (zvi (show (0 : Int32) = i3 0 from rfl)) (zcons (zvi (show (0 : Int32) = i3 0 from rfl)) (zcons (zvi (show (0 : Int32) = i3 0 from rfl)) rfl)))))))) c9) ?_
        clear c8 c9
        have hZ23K : zC [1, 2, 101, 102, 200] Z Z23 := zC_t hZ16K (zMd_C dZ23) (by decide)
        have hZ23U : zU [] Z Z23 := zU_t hZ16U (zMd_U dZ23) zU_b0
        refine wz_i0 (i3O (n := 4400) (i3A (i3A (show (200 : Int32) = i3 200 from rfl) (i3M (show (20 : Int32) = i3 20 from rfl) (rfl : i3 a1 = i3 a1))) (show (4 : Int32) = i3 4 from rfl)) (by omega) (by omega) (by omega)) ?_
        obtain ⟨Z24, hZ24, c9, hZ24I, kZ24, jZ24⟩ := sp_431 (ν := ν1) hZ23I (a1 := a1) (by omega) (a2 := 4) (by omega) (zbh (c := 0) (k := 123) hM (Nat.le_of_ble_eq_true rfl))
        have hZ24U : zU [] Z Z24 := zU_t hZ23U jZ24 zU_b0
        have hZ24K : zC [1, 2, 101, 102, 200] Z Z24 := zC_t hZ23K kZ24 (by decide)
        replace hP := zl_e hP hZ24
        refine wz_cV_of (zas (zcons rfl (zcons (zvi (rfl : i3 a1 = i3 a1)) (zcons (zvi (show (4 : Int32) = i3 4 from rfl)) rfl))) c9) ?_
        clear c9
        have r25 := zM_k hZ23I 2 0 0 (204 + 20 * a1) (lo := 0) (hi := 40) (by decide) (zs_200_4 (x := a1) (by omega) (by omega) (by omega))
        exact zlY hP (zm_rd (Z := Z23) (ν := ν1) (k := 2) (show ((0 : Nat) : Int) = 0 from rfl) (show ((0 : Nat) : Int) = 0 from rfl) (i3I (y := (204 + 20 * a1)) (i3A (i3A (show (200 : Int32) = i3 200 from rfl) (i3M (show (20 : Int32) = i3 20 from rfl) (rfl : i3 a1 = i3 a1))) (show (4 : Int32) = i3 4 from rfl)) (by omega) (by omega) (by omega))) (.inr rfl) ⟨hZ24I, hZ24K, hZ24U⟩

theorem sq_338 {s : zSM} {Z : qz_Z} {ν : qz_N} (hZ : zM s Z) (gq : Z 1 0 0 35 = 1) (hM : s.2 + 123 ≤ 1000000000) {a1 : Int} (ga1 : -2147483648 ≤ a1 ∧ a1 ≤ 2147483647) {ν1 : qz_N} : ∃ (Z1 : qz_Z) (ν2 : qz_N) (v : Int), (Z1, v) = zy_338 Z zq0 a1 ∧ (ν2 = ν ∨ ν2 = ν1) ∧ qf_338 [.inr (.inr (some (1, 0, 0))), .inl (i3 a1)] (zm Z ν) = some (zm Z1 ν2, .inl (some (.inl (i3 v)))) ∧ (fun Z1 => zM (zb s 123) Z1 ∧ zC [1, 2] Z Z1 ∧ zU [] Z Z1) Z1 := by
  obtain ⟨P, hP⟩ := zx (zy_338 Z zq0 a1)
  refine zc_Y (Q := fun Z1 => zM (zb s 123) Z1 ∧ zC [1, 2] Z Z1 ∧ zU [] Z Z1) hP (fw_338 (i3 a1) _ _ ?_)
  replace hP : zE P (zy_338 Z zq0 a1) := hP
  unfold zy_338 at hP
  have r1 := zM_k hZ 1 0 0 35 (lo := 0) (hi := 1) (by decide) rfl
  have r2 := zM_k hZ 1 0 0 34 (lo := 0) (hi := 8) (by decide) rfl
  have r3 := zM_f hZ 1 0 0 37
  refine wz_br (i3L (rfl : i3 a1 = i3 a1) (show (0 : Int32) = i3 0 from rfl) (by omega) (by omega) (by omega) (by omega)) (fun h4 => ?_) (fun h4 => ?_)
  · replace hP := zE_p hP h4
    obtain ⟨Z5, hZ5⟩ := zx (zu Z 1 0 0 2 1)
    replace hP := zl_e hP hZ5
    have hZ5I := zM_u hZ hZ5 (lo := -2147483648) (hi := 2147483647) (by decide) rfl (by omega) ⟨by decide, by decide⟩ (Or.inr (by decide)) rfl
    have hZ5U : zU [] Z Z5 := zU_u zU_r hZ5 (Or.inl rfl)
    have hZ5K : zC [1, 2] Z Z5 := zC_u zC_r hZ5 (by decide)
    intro μ9 e9
    replace e9 := e9.trans (zm_wI (Z := Z) (ν := ν) hZ5 (show ((0 : Nat) : Int) = 0 from rfl) (show ((0 : Nat) : Int) = 0 from rfl) (show ((2 : Nat) : Int) = 2 from rfl) (show (1 : Int32) = i3 1 from rfl))
    subst e9
    exact zlY hP (show (0 : Int32) = i3 0 from rfl) (.inl rfl) ⟨(zmw (a := 0) (c := 123) hZ5I (Nat.le_of_ble_eq_true rfl)), hZ5K, hZ5U⟩
  · replace hP := zE_n hP h4
    have r6 := zM_k hZ 2 0 0 102 (lo := 0) (hi := 48) (by decide) rfl
    refine wz_br (i3L (i3S (zm_rd (Z := Z) (ν := ν) (k := 2) (show ((0 : Nat) : Int) = 0 from rfl) (show ((0 : Nat) : Int) = 0 from rfl) (show ((102 : Nat) : Int) = 102 from rfl)) (show (1 : Int32) = i3 1 from rfl)) (rfl : i3 a1 = i3 a1) (by omega) (by omega) (by omega) (by omega)) (fun h7 => ?_) (fun h7 => ?_)
    · replace hP := zE_p hP h7
      obtain ⟨Z8, hZ8⟩ := zx (zu Z 1 0 0 2 1)
      replace hP := zl_e hP hZ8
      have hZ8I := zM_u hZ hZ8 (lo := -2147483648) (hi := 2147483647) (by decide) rfl (by omega) ⟨by decide, by decide⟩ (Or.inr (by decide)) rfl
      have hZ8U : zU [] Z Z8 := zU_u zU_r hZ8 (Or.inl rfl)
      have hZ8K : zC [1, 2] Z Z8 := zC_u zC_r hZ8 (by decide)
      intro μ9 e9
      replace e9 := e9.trans (zm_wI (Z := Z) (ν := ν) hZ8 (show ((0 : Nat) : Int) = 0 from rfl) (show ((0 : Nat) : Int) = 0 from rfl) (show ((2 : Nat) : Int) = 2 from rfl) (show (1 : Int32) = i3 1 from rfl))
      subst e9
      exact zlY hP (show (0 : Int32) = i3 0 from rfl) (.inl rfl) ⟨(zmw (a := 0) (c := 123) hZ8I (Nat.le_of_ble_eq_true rfl)), hZ8K, hZ8U⟩
    · replace hP := zE_n hP h7
      obtain ⟨Z9, hZ9⟩ := zx (zu Z 1 0 0 2 0)
      replace hP := zl_e hP hZ9
      have hZ9I := zM_0 hZ hZ9 (by decide) (Or.inr (by decide))
      have hZ9U : zU [] Z Z9 := zU_u zU_r hZ9 (Or.inl rfl)
      have hZ9K : zC [1, 2] Z Z9 := zC_u zC_r hZ9 (by decide)
      intro μ9 e9
      replace e9 := e9.trans (zm_wI (Z := Z) (ν := ν) hZ9 (show ((0 : Nat) : Int) = 0 from rfl) (show ((0 : Nat) : Int) = 0 from rfl) (show ((2 : Nat) : Int) = 2 from rfl) (show (0 : Int32) = i3 0 from rfl))
      subst e9
      refine wz_i0 (i3O (n := 4400) (i3A (i3A (show (200 : Int32) = i3 200 from rfl) (i3M (show (20 : Int32) = i3 20 from rfl) (rfl : i3 a1 = i3 a1))) (show (10 : Int32) = i3 10 from rfl)) (by omega) (by omega) (by omega)) ?_
      have r10 := zM_k hZ9I 2 0 0 (210 + 20 * a1) (lo := 0) (hi := 4) (by decide) (zs_200_10 (x := a1) (by omega) (by omega) (by omega))
      have r11 := zM_pl hZ9I a1
      have r12 := zM_k hZ9I 2 0 0 102 (lo := 0) (hi := 48) (by decide) rfl
      have q13 := zu_ne (k' := 2) (b' := 0) (i' := 0) (j' := 102) hZ9 (fun q => absurd q.1 (by decide))
      refine wz_br (i3L (show (1 : Int32) = i3 1 from rfl) (zm_rd (Z := Z9) (ν := ν) (k := 2) (show ((0 : Nat) : Int) = 0 from rfl) (show ((0 : Nat) : Int) = 0 from rfl) (i3I (y := (210 + 20 * a1)) (i3A (i3A (show (200 : Int32) = i3 200 from rfl) (i3M (show (20 : Int32) = i3 20 from rfl) (rfl : i3 a1 = i3 a1))) (show (10 : Int32) = i3 10 from rfl)) (by omega) (by omega) (by omega))) (by omega) (by omega) (by omega) (by omega)) (fun h14 => ?_) (fun h14 => ?_)
      · replace hP := zE_p hP h14
        obtain ⟨Z15, hZ15⟩ := zx (zu Z9 1 0 0 2 2)
        replace hP := zl_e hP hZ15
        have hZ15I := zM_u hZ9I hZ15 (lo := -2147483648) (hi := 2147483647) (by decide) rfl (by omega) ⟨by decide, by decide⟩ (Or.inr (by decide)) rfl
        have hZ15U : zU [] Z Z15 := zU_u hZ9U hZ15 (Or.inl rfl)
        have hZ15K : zC [1, 2] Z Z15 := zC_u hZ9K hZ15 (by decide)
        intro μ9 e9
        replace e9 := e9.trans (zm_wI (Z := Z9) (ν := ν) hZ15 (show ((0 : Nat) : Int) = 0 from rfl) (show ((0 : Nat) : Int) = 0 from rfl) (show ((2 : Nat) : Int) = 2 from rfl) (show (2 : Int32) = i3 2 from rfl))
        subst e9
        exact zlY hP (show (0 : Int32) = i3 0 from rfl) (.inl rfl) ⟨(zmw (a := 0) (c := 123) hZ15I (Nat.le_of_ble_eq_true rfl)), hZ15K, hZ15U⟩
      · replace hP := zE_n hP h14
        obtain ⟨Z16, hZ16⟩ := zx (zu Z9 1 0 0 2 0)
        replace hP := zl_e hP hZ16
        have hZ16I := zM_0 hZ9I hZ16 (by decide) (Or.inr (by decide))
        have hZ16U : zU [] Z Z16 := zU_u hZ9U hZ16 (Or.inl rfl)
        have hZ16K : zC [1, 2] Z Z16 := zC_u hZ9K hZ16 (by decide)
        intro μ9 e9
        replace e9 := e9.trans (zm_wI (Z := Z9) (ν := ν) hZ16 (show ((0 : Nat) : Int) = 0 from rfl) (show ((0 : Nat) : Int) = 0 from rfl) (show ((2 : Nat) : Int) = 2 from rfl) (show (0 : Int32) = i3 0 from rfl))
        subst e9
        have r17 := zM_k hZ16I 1 0 0 35 (lo := 0) (hi := 1) (by decide) rfl
        have q18 := (zu_ne (k' := 1) (b' := 0) (i' := 0) (j' := 35) hZ16 (fun q => absurd q.2.2.2 (by decide))).trans (zu_ne (k' := 1) (b' := 0) (i' := 0) (j' := 35) hZ9 (fun q => absurd q.2.2.2 (by decide)))
        refine wz_i1 (Eq.trans (i3NE (zm_rd (Z := Z16) (ν := ν) (k := 1) (show ((0 : Nat) : Int) = 0 from rfl) (show ((0 : Nat) : Int) = 0 from rfl) (show ((35 : Nat) : Int) = 35 from rfl)) (show (0 : Int32) = i3 0 from rfl) (by omega) (by omega) (by omega) (by omega)) (decide_eq_true (by omega))) ?_
        replace hP := zl_q hP (rfl : _ = Z16)
        refine wz_i0 (i3O (n := 4400) (i3A (i3A (show (200 : Int32) = i3 200 from rfl) (i3M (show (20 : Int32) = i3 20 from rfl) (rfl : i3 a1 = i3 a1))) (show (4 : Int32) = i3 4 from rfl)) (by omega) (by omega) (by omega)) ?_
        obtain ⟨Z19, hZ19, c9, hZ19I, kZ19, jZ19⟩ := sp_431 (ν := ν) hZ16I (a1 := a1) (by omega) (a2 := 4) (by omega) (zbh (c := 0) (k := 123) hM (Nat.le_of_ble_eq_true rfl))
        have hZ19U : zU [] Z Z19 := zU_t hZ16U jZ19 zU_b0
        have hZ19K : zC [1, 2] Z Z19 := zC_t hZ16K kZ19 (by decide)
        replace hP := zl_e hP hZ19
        refine wz_cV_of (zas (zcons rfl (zcons (zvi (rfl : i3 a1 = i3 a1)) (zcons (zvi (show (4 : Int32) = i3 4 from rfl)) rfl))) c9) ?_
        clear c9
        have r20 := zM_k hZ16I 2 0 0 (204 + 20 * a1) (lo := 0) (hi := 40) (by decide) (zs_200_4 (x := a1) (by omega) (by omega) (by omega))
        exact zlY hP (zm_rd (Z := Z16) (ν := ν) (k := 2) (show ((0 : Nat) : Int) = 0 from rfl) (show ((0 : Nat) : Int) = 0 from rfl) (i3I (y := (204 + 20 * a1)) (i3A (i3A (show (200 : Int32) = i3 200 from rfl) (i3M (show (20 : Int32) = i3 20 from rfl) (rfl : i3 a1 = i3 a1))) (show (4 : Int32) = i3 4 from rfl)) (by omega) (by omega) (by omega))) (.inl rfl) ⟨hZ19I, hZ19K, hZ19U⟩
/- yX12_entry -/
def zy_339 (Z : qz_Z) (a1 : Int) (a2 : Int) : qz_Z × Int := (if 60 ≤ (Z 2 0 0 3814) then (if a1 < 0 then (zlet (zu Z 1 0 0 2 1) (fun Z7 => (Z7, 0))) else (if 59 < a1 then (zlet (zu Z 1 0 0 2 1) (fun Z9 => (Z9, 0))) else (zlet (zu Z 1 0 0 2 0) (fun Z10 => (if a2 < 0 then (zlet (zu Z10 1 0 0 2 2) (fun Z12 => (Z12, 0))) else (if 4 < a2 then (zlet (zu Z10 1 0 0 2 2) (fun Z14 => (Z14, 0))) else (zlet (zu Z10 1 0 0 2 0) (fun Z15 => (Z15, (Z15 2 0 0 (3950 + 5 * ((((Z15 2 0 0 3814) - 1) - a1) % 60) + a2))))))))))) else (if a1 < 0 then (zlet (zu Z 1 0 0 2 1) (fun Z20 => (Z20, 0))) else (if ((Z 2 0 0 3814) - 1) < a1 then (zlet (zu Z 1 0 0 2 1) (fun Z22 => (Z22, 0))) else (zlet (zu Z 1 0 0 2 0) (fun Z23 => (if a2 < 0 then (zlet (zu Z23 1 0 0 2 2) (fun Z25 => (Z25, 0))) else (if 4 < a2 then (zlet (zu Z23 1 0 0 2 2) (fun Z27 => (Z27, 0))) else (zlet (zu Z23 1 0 0 2 0) (fun Z28 => (Z28, (Z28 2 0 0 (3950 + 5 * ((((Z28 2 0 0 3814) - 1) - a1) % 60) + a2))))))))))))
theorem sy_339 {s : zSM} {Z : qz_Z} {ν : qz_N} (hZ : zM s Z) (gq : Z 1 0 0 35 = 0) (hM : s.2 + 0 ≤ 1000000000) {a1 : Int} (ga1 : -2147483648 ≤ a1 ∧ a1 ≤ 2147483647) {a2 : Int} (ga2 : -2147483648 ≤ a2 ∧ a2 ≤ 2147483647) {ν1 : qz_N} : ∃ (Z1 : qz_Z) (ν2 : qz_N) (v : Int), (Z1, v) = zy_339 Z a1 a2 ∧ (ν2 = ν ∨ ν2 = ν1) ∧ qf_339 [.inr (.inr (some (1, 0, 0))), .inl (i3 a1), .inl (i3 a2)] (zm Z ν) = some (zm Z1 ν2, .inl (some (.inl (i3 v)))) ∧ (fun Z1 => zM s Z1 ∧ zC [1] Z Z1 ∧ zU [] Z Z1) Z1 := by
  obtain ⟨P, hP⟩ := zx (zy_339 Z a1 a2)
  refine zc_Y (Q := fun Z1 => zM s Z1 ∧ zC [1] Z Z1 ∧ zU [] Z Z1) hP (fw_339 (i3 a1) (i3 a2) _ _ ?_)
  replace hP : zE P (zy_339 Z a1 a2) := hP
  unfold zy_339 at hP
  have r1 := zM_k hZ 1 0 0 35 (lo := 0) (hi := 1) (by decide) rfl
  have r2 := zM_k hZ 1 0 0 34 (lo := 0) (hi := 8) (by decide) rfl
  have r3 := zM_f hZ 1 0 0 37
  have r4 := zM_ct hZ (zbh (c := 0) (k := 0) hM (Nat.le_of_ble_eq_true rfl))
  refine wz_br (i3Le (show (60 : Int32) = i3 60 from rfl) (zm_rd (Z := Z) (ν := ν) (k := 2) (show ((0 : Nat) : Int) = 0 from rfl) (show ((0 : Nat) : Int) = 0 from rfl) (show ((3814 : Nat) : Int) = 3814 from rfl)) (by omega) (by omega) (by omega) (by omega)) (fun h5 => ?_) (fun h5 => ?_)
  · replace hP := zE_p hP h5
    refine wz_br (i3L (rfl : i3 a1 = i3 a1) (show (0 : Int32) = i3 0 from rfl) (by omega) (by omega) (by omega) (by omega)) (fun h6 => ?_) (fun h6 => ?_)
    · replace hP := zE_p hP h6
      obtain ⟨Z7, hZ7⟩ := zx (zu Z 1 0 0 2 1)
      replace hP := zl_e hP hZ7
      have hZ7I := zM_u hZ hZ7 (lo := -2147483648) (hi := 2147483647) (by decide) rfl (by omega) ⟨by decide, by decide⟩ (Or.inr (by decide)) rfl
      have hZ7U : zU [] Z Z7 := zU_u zU_r hZ7 (Or.inl rfl)
      have hZ7K : zC [1] Z Z7 := zC_u zC_r hZ7 (by decide)
      intro μ9 e9
      replace e9 := e9.trans (zm_wI (Z := Z) (ν := ν) hZ7 (show ((0 : Nat) : Int) = 0 from rfl) (show ((0 : Nat) : Int) = 0 from rfl) (show ((2 : Nat) : Int) = 2 from rfl) (show (1 : Int32) = i3 1 from rfl))
      subst e9
      exact zlY hP (show (0 : Int32) = i3 0 from rfl) (.inl rfl) ⟨hZ7I, hZ7K, hZ7U⟩
    · replace hP := zE_n hP h6
      refine wz_br (i3L (show (59 : Int32) = i3 59 from rfl) (rfl : i3 a1 = i3 a1) (by omega) (by omega) (by omega) (by omega)) (fun h8 => ?_) (fun h8 => ?_)
      · replace hP := zE_p hP h8
        obtain ⟨Z9, hZ9⟩ := zx (zu Z 1 0 0 2 1)
        replace hP := zl_e hP hZ9
        have hZ9I := zM_u hZ hZ9 (lo := -2147483648) (hi := 2147483647) (by decide) rfl (by omega) ⟨by decide, by decide⟩ (Or.inr (by decide)) rfl
        have hZ9U : zU [] Z Z9 := zU_u zU_r hZ9 (Or.inl rfl)
        have hZ9K : zC [1] Z Z9 := zC_u zC_r hZ9 (by decide)
        intro μ9 e9
        replace e9 := e9.trans (zm_wI (Z := Z) (ν := ν) hZ9 (show ((0 : Nat) : Int) = 0 from rfl) (show ((0 : Nat) : Int) = 0 from rfl) (show ((2 : Nat) : Int) = 2 from rfl) (show (1 : Int32) = i3 1 from rfl))
        subst e9
        exact zlY hP (show (0 : Int32) = i3 0 from rfl) (.inl rfl) ⟨hZ9I, hZ9K, hZ9U⟩
      · replace hP := zE_n hP h8
        obtain ⟨Z10, hZ10⟩ := zx (zu Z 1 0 0 2 0)
        replace hP := zl_e hP hZ10
        have hZ10I := zM_0 hZ hZ10 (by decide) (Or.inr (by decide))
        have hZ10U : zU [] Z Z10 := zU_u zU_r hZ10 (Or.inl rfl)
        have hZ10K : zC [1] Z Z10 := zC_u zC_r hZ10 (by decide)
        intro μ9 e9
        replace e9 := e9.trans (zm_wI (Z := Z) (ν := ν) hZ10 (show ((0 : Nat) : Int) = 0 from rfl) (show ((0 : Nat) : Int) = 0 from rfl) (show ((2 : Nat) : Int) = 2 from rfl) (show (0 : Int32) = i3 0 from rfl))
        subst e9
        refine wz_br (i3L (rfl : i3 a2 = i3 a2) (show (0 : Int32) = i3 0 from rfl) (by omega) (by omega) (by omega) (by omega)) (fun h11 => ?_) (fun h11 => ?_)
        · replace hP := zE_p hP h11
          obtain ⟨Z12, hZ12⟩ := zx (zu Z10 1 0 0 2 2)
          replace hP := zl_e hP hZ12
          have hZ12I := zM_u hZ10I hZ12 (lo := -2147483648) (hi := 2147483647) (by decide) rfl (by omega) ⟨by decide, by decide⟩ (Or.inr (by decide)) rfl
          have hZ12U : zU [] Z Z12 := zU_u hZ10U hZ12 (Or.inl rfl)
          have hZ12K : zC [1] Z Z12 := zC_u hZ10K hZ12 (by decide)
          intro μ9 e9
          replace e9 := e9.trans (zm_wI (Z := Z10) (ν := ν) hZ12 (show ((0 : Nat) : Int) = 0 from rfl) (show ((0 : Nat) : Int) = 0 from rfl) (show ((2 : Nat) : Int) = 2 from rfl) (show (2 : Int32) = i3 2 from rfl))
          subst e9
          exact zlY hP (show (0 : Int32) = i3 0 from rfl) (.inl rfl) ⟨hZ12I, hZ12K, hZ12U⟩
        · replace hP := zE_n hP h11
          refine wz_br (i3L (show (4 : Int32) = i3 4 from rfl) (rfl : i3 a2 = i3 a2) (by omega) (by omega) (by omega) (by omega)) (fun h13 => ?_) (fun h13 => ?_)
          · replace hP := zE_p hP h13
            obtain ⟨Z14, hZ14⟩ := zx (zu Z10 1 0 0 2 2)
            replace hP := zl_e hP hZ14
            have hZ14I := zM_u hZ10I hZ14 (lo := -2147483648) (hi := 2147483647) (by decide) rfl (by omega) ⟨by decide, by decide⟩ (Or.inr (by decide)) rfl
            have hZ14U : zU [] Z Z14 := zU_u hZ10U hZ14 (Or.inl rfl)
            have hZ14K : zC [1] Z Z14 := zC_u hZ10K hZ14 (by decide)
            intro μ9 e9
            replace e9 := e9.trans (zm_wI (Z := Z10) (ν := ν) hZ14 (show ((0 : Nat) : Int) = 0 from rfl) (show ((0 : Nat) : Int) = 0 from rfl) (show ((2 : Nat) : Int) = 2 from rfl) (show (2 : Int32) = i3 2 from rfl))
            subst e9
            exact zlY hP (show (0 : Int32) = i3 0 from rfl) (.inl rfl) ⟨hZ14I, hZ14K, hZ14U⟩
          · replace hP := zE_n hP h13
            obtain ⟨Z15, hZ15⟩ := zx (zu Z10 1 0 0 2 0)
            replace hP := zl_e hP hZ15
            have hZ15I := zM_0 hZ10I hZ15 (by decide) (Or.inr (by decide))
            have hZ15U : zU [] Z Z15 := zU_u hZ10U hZ15 (Or.inl rfl)
            have hZ15K : zC [1] Z Z15 := zC_u hZ10K hZ15 (by decide)
            intro μ9 e9
            replace e9 := e9.trans (zm_wI (Z := Z10) (ν := ν) hZ15 (show ((0 : Nat) : Int) = 0 from rfl) (show ((0 : Nat) : Int) = 0 from rfl) (show ((2 : Nat) : Int) = 2 from rfl) (show (0 : Int32) = i3 0 from rfl))
            subst e9
            have r16 := zM_ct hZ15I (zbh (c := 0) (k := 0) hM (Nat.le_of_ble_eq_true rfl))
            have q17 := (zu_ne (k' := 2) (b' := 0) (i' := 0) (j' := 3814) hZ15 (fun q => absurd q.1 (by decide))).trans (zu_ne (k' := 2) (b' := 0) (i' := 0) (j' := 3814) hZ10 (fun q => absurd q.1 (by decide)))
            refine wz_i0 (i3O (n := 4400) (i3A (i3A (show (3950 : Int32) = i3 3950 from rfl) (i3M (show (5 : Int32) = i3 5 from rfl) (i3R (i3S (i3S (zm_rd (Z := Z15) (ν := ν) (k := 2) (show ((0 : Nat) : Int) = 0 from rfl) (show ((0 : Nat) : Int) = 0 from rfl) (show ((3814 : Nat) : Int) = 3814 from rfl)) (show (1 : Int32) = i3 1 from rfl)) (rfl : i3 a1 = i3 a1)) (show (60 : Int32) = i3 60 from rfl) (by omega) (by omega) (by omega) (by omega)))) (rfl : i3 a2 = i3 a2)) (by omega) (by omega) (by omega)) ?_
            have r18 := zM_f hZ15I 2 0 0 (3950 + 5 * ((((Z15 2 0 0 3814) - 1) - a1) % 60) + a2)
            exact zlY hP (zm_rd (Z := Z15) (ν := ν) (k := 2) (show ((0 : Nat) : Int) = 0 from rfl) (show ((0 : Nat) : Int) = 0 from rfl) (i3I (y := (3950 + 5 * ((((Z15 2 0 0 3814) - 1) - a1) % 60) + a2)) (i3A (i3A (show (3950 : Int32) = i3 3950 from rfl) (i3M (show (5 : Int32) = i3 5 from rfl) (i3R (i3S (i3S (zm_rd (Z := Z15) (ν := ν) (k := 2) (show ((0 : Nat) : Int) = 0 from rfl) (show ((0 : Nat) : Int) = 0 from rfl) (show ((3814 : Nat) : Int) = 3814 from rfl)) (show (1 : Int32) = i3 1 from rfl)) (rfl : i3 a1 = i3 a1)) (show (60 : Int32) = i3 60 from rfl) (by omega) (by omega) (by omega) (by omega)))) (rfl : i3 a2 = i3 a2)) (by omega) (by omega) (by omega))) (.inl rfl) ⟨hZ15I, hZ15K, hZ15U⟩
  · replace hP := zE_n hP h5
    refine wz_br (i3L (rfl : i3 a1 = i3 a1) (show (0 : Int32) = i3 0 from rfl) (by omega) (by omega) (by omega) (by omega)) (fun h19 => ?_) (fun h19 => ?_)
    · replace hP := zE_p hP h19
      obtain ⟨Z20, hZ20⟩ := zx (zu Z 1 0 0 2 1)
      replace hP := zl_e hP hZ20
      have hZ20I := zM_u hZ hZ20 (lo := -2147483648) (hi := 2147483647) (by decide) rfl (by omega) ⟨by decide, by decide⟩ (Or.inr (by decide)) rfl
      have hZ20U : zU [] Z Z20 := zU_u zU_r hZ20 (Or.inl rfl)
      have hZ20K : zC [1] Z Z20 := zC_u zC_r hZ20 (by decide)
      intro μ9 e9
      replace e9 := e9.trans (zm_wI (Z := Z) (ν := ν) hZ20 (show ((0 : Nat) : Int) = 0 from rfl) (show ((0 : Nat) : Int) = 0 from rfl) (show ((2 : Nat) : Int) = 2 from rfl) (show (1 : Int32) = i3 1 from rfl))
      subst e9
      exact zlY hP (show (0 : Int32) = i3 0 from rfl) (.inl rfl) ⟨hZ20I, hZ20K, hZ20U⟩
    · replace hP := zE_n hP h19
      refine wz_br (i3L (i3S (zm_rd (Z := Z) (ν := ν) (k := 2) (show ((0 : Nat) : Int) = 0 from rfl) (show ((0 : Nat) : Int) = 0 from rfl) (show ((3814 : Nat) : Int) = 3814 from rfl)) (show (1 : Int32) = i3 1 from rfl)) (rfl : i3 a1 = i3 a1) (by omega) (by omega) (by omega) (by omega)) (fun h21 => ?_) (fun h21 => ?_)
      · replace hP := zE_p hP h21
        obtain ⟨Z22, hZ22⟩ := zx (zu Z 1 0 0 2 1)
        replace hP := zl_e hP hZ22
        have hZ22I := zM_u hZ hZ22 (lo := -2147483648) (hi := 2147483647) (by decide) rfl (by omega) ⟨by decide, by decide⟩ (Or.inr (by decide)) rfl
        have hZ22U : zU [] Z Z22 := zU_u zU_r hZ22 (Or.inl rfl)
        have hZ22K : zC [1] Z Z22 := zC_u zC_r hZ22 (by decide)
        intro μ9 e9
        replace e9 := e9.trans (zm_wI (Z := Z) (ν := ν) hZ22 (show ((0 : Nat) : Int) = 0 from rfl) (show ((0 : Nat) : Int) = 0 from rfl) (show ((2 : Nat) : Int) = 2 from rfl) (show (1 : Int32) = i3 1 from rfl))
        subst e9
        exact zlY hP (show (0 : Int32) = i3 0 from rfl) (.inl rfl) ⟨hZ22I, hZ22K, hZ22U⟩
      · replace hP := zE_n hP h21
        obtain ⟨Z23, hZ23⟩ := zx (zu Z 1 0 0 2 0)
        replace hP := zl_e hP hZ23
        have hZ23I := zM_0 hZ hZ23 (by decide) (Or.inr (by decide))
        have hZ23U : zU [] Z Z23 := zU_u zU_r hZ23 (Or.inl rfl)
        have hZ23K : zC [1] Z Z23 := zC_u zC_r hZ23 (by decide)
        intro μ9 e9
        replace e9 := e9.trans (zm_wI (Z := Z) (ν := ν) hZ23 (show ((0 : Nat) : Int) = 0 from rfl) (show ((0 : Nat) : Int) = 0 from rfl) (show ((2 : Nat) : Int) = 2 from rfl) (show (0 : Int32) = i3 0 from rfl))
        subst e9
        refine wz_br (i3L (rfl : i3 a2 = i3 a2) (show (0 : Int32) = i3 0 from rfl) (by omega) (by omega) (by omega) (by omega)) (fun h24 => ?_) (fun h24 => ?_)
        · replace hP := zE_p hP h24
          obtain ⟨Z25, hZ25⟩ := zx (zu Z23 1 0 0 2 2)
          replace hP := zl_e hP hZ25
          have hZ25I := zM_u hZ23I hZ25 (lo := -2147483648) (hi := 2147483647) (by decide) rfl (by omega) ⟨by decide, by decide⟩ (Or.inr (by decide)) rfl
          have hZ25U : zU [] Z Z25 := zU_u hZ23U hZ25 (Or.inl rfl)
          have hZ25K : zC [1] Z Z25 := zC_u hZ23K hZ25 (by decide)
          intro μ9 e9
          replace e9 := e9.trans (zm_wI (Z := Z23) (ν := ν) hZ25 (show ((0 : Nat) : Int) = 0 from rfl) (show ((0 : Nat) : Int) = 0 from rfl) (show ((2 : Nat) : Int) = 2 from rfl) (show (2 : Int32) = i3 2 from rfl))
          subst e9
          exact zlY hP (show (0 : Int32) = i3 0 from rfl) (.inl rfl) ⟨hZ25I, hZ25K, hZ25U⟩
        · replace hP := zE_n hP h24
          refine wz_br (i3L (show (4 : Int32) = i3 4 from rfl) (rfl : i3 a2 = i3 a2) (by omega) (by omega) (by omega) (by omega)) (fun h26 => ?_) (fun h26 => ?_)
          · replace hP := zE_p hP h26
            obtain ⟨Z27, hZ27⟩ := zx (zu Z23 1 0 0 2 2)
            replace hP := zl_e hP hZ27
            have hZ27I := zM_u hZ23I hZ27 (lo := -2147483648) (hi := 2147483647) (by decide) rfl (by omega) ⟨by decide, by decide⟩ (Or.inr (by decide)) rfl
            have hZ27U : zU [] Z Z27 := zU_u hZ23U hZ27 (Or.inl rfl)
            have hZ27K : zC [1] Z Z27 := zC_u hZ23K hZ27 (by decide)
            intro μ9 e9
            replace e9 := e9.trans (zm_wI (Z := Z23) (ν := ν) hZ27 (show ((0 : Nat) : Int) = 0 from rfl) (show ((0 : Nat) : Int) = 0 from rfl) (show ((2 : Nat) : Int) = 2 from rfl) (show (2 : Int32) = i3 2 from rfl))
            subst e9
            exact zlY hP (show (0 : Int32) = i3 0 from rfl) (.inl rfl) ⟨hZ27I, hZ27K, hZ27U⟩
          · replace hP := zE_n hP h26
            obtain ⟨Z28, hZ28⟩ := zx (zu Z23 1 0 0 2 0)
            replace hP := zl_e hP hZ28
            have hZ28I := zM_0 hZ23I hZ28 (by decide) (Or.inr (by decide))
            have hZ28U : zU [] Z Z28 := zU_u hZ23U hZ28 (Or.inl rfl)
            have hZ28K : zC [1] Z Z28 := zC_u hZ23K hZ28 (by decide)
            intro μ9 e9
            replace e9 := e9.trans (zm_wI (Z := Z23) (ν := ν) hZ28 (show ((0 : Nat) : Int) = 0 from rfl) (show ((0 : Nat) : Int) = 0 from rfl) (show ((2 : Nat) : Int) = 2 from rfl) (show (0 : Int32) = i3 0 from rfl))
            subst e9
            have r29 := zM_ct hZ28I (zbh (c := 0) (k := 0) hM (Nat.le_of_ble_eq_true rfl))
            have q30 := (zu_ne (k' := 2) (b' := 0) (i' := 0) (j' := 3814) hZ28 (fun q => absurd q.1 (by decide))).trans (zu_ne (k' := 2) (b' := 0) (i' := 0) (j' := 3814) hZ23 (fun q => absurd q.1 (by decide)))
            refine wz_i0 (i3O (n := 4400) (i3A (i3A (show (3950 : Int32) = i3 3950 from rfl) (i3M (show (5 : Int32) = i3 5 from rfl) (i3R (i3S (i3S (zm_rd (Z := Z28) (ν := ν) (k := 2) (show ((0 : Nat) : Int) = 0 from rfl) (show ((0 : Nat) : Int) = 0 from rfl) (show ((3814 : Nat) : Int) = 3814 from rfl)) (show (1 : Int32) = i3 1 from rfl)) (rfl : i3 a1 = i3 a1)) (show (60 : Int32) = i3 60 from rfl) (by omega) (by omega) (by omega) (by omega)))) (rfl : i3 a2 = i3 a2)) (by omega) (by omega) (by omega)) ?_
            have r31 := zM_f hZ28I 2 0 0 (3950 + 5 * ((((Z28 2 0 0 3814) - 1) - a1) % 60) + a2)
            exact zlY hP (zm_rd (Z := Z28) (ν := ν) (k := 2) (show ((0 : Nat) : Int) = 0 from rfl) (show ((0 : Nat) : Int) = 0 from rfl) (i3I (y := (3950 + 5 * ((((Z28 2 0 0 3814) - 1) - a1) % 60) + a2)) (i3A (i3A (show (3950 : Int32) = i3 3950 from rfl) (i3M (show (5 : Int32) = i3 5 from rfl) (i3R (i3S (i3S (zm_rd (Z := Z28) (ν := ν) (k := 2) (show ((0 : Nat) : Int) = 0 from rfl) (show ((0 : Nat) : Int) = 0 from rfl) (show ((3814 : Nat) : Int) = 3814 from rfl)) (show (1 : Int32) = i3 1 from rfl)) (rfl : i3 a1 = i3 a1)) (show (60 : Int32) = i3 60 from rfl) (by omega) (by omega) (by omega) (by omega)))) (rfl : i3 a2 = i3 a2)) (by omega) (by omega) (by omega))) (.inl rfl) ⟨hZ28I, hZ28K, hZ28U⟩
/- yX12_areParts -/
def zl_258_1 (x1 : Int) : Nat → qz_Z → Int → Int → Int × Int
  | 0, Z, x2, x3 => (x2, x3)
  | m + 1, Z, x2, x3 => (if (Z 1 0 0 28) ≤ x3 then (x2, x3) else (if x2 = 0 then zl_258_1 x1 m Z 0 (x3 + 1) else (if x1 < (Z 98 0 0 x3) then zl_258_1 x1 m Z 0 (x3 + 1) else zl_258_1 x1 m Z 1 (x3 + 1))))
theorem sl_258_1 {s : zSM} {Z : qz_Z} {ν : qz_N} (hZ : zM s Z) (hM : s.2 + 0 ≤ 1000000000) {x1 : Int} (gx1 : 10 ≤ x1 ∧ x1 ≤ 99) {x2 : Int} (gx2 : 0 ≤ x2 ∧ x2 ≤ 1) {x3 : Int} (gx3 : 0 ≤ x3 ∧ x3 ≤ 60) (gr0 : x2 = 0 ∨ Z 1 0 0 28 ≤ 10) {k : wz_K} {R : wz_R} {L : qz_L} (hL : qz_fg [true, true, true, true] L = [some (.inr (.inr (some (1, 0, 0)))), some (.inl (i3 x1)), some (.inl (i3 x2)), some (.inl (i3 x3))]) {T : Int × Int} (hP : zE T (zl_258_1 x1 ((60 - x3).toNat + 1) Z x2 x3)) (hk : ∀ (L9 : qz_L) (yx2 yx3 : Int), qz_fg [false, false, true, false] L9 = [none, none, some (.inl (i3 yx2)), none] → (0 ≤ yx2 ∧ yx2 ≤ 1) → (0 ≤ yx3 ∧ yx3 ≤ 60) → (yx2 = 0 ∨ Z 1 0 0 28 ≤ 10) → zE T ((yx2, yx3)) → k 0 (L9, [], zm Z ν)) : wz_loop qb_258_1 65536 k R (L, [], zm Z ν) := by
  refine wz_lp sb_258_1 (fun m x => ∃ x2 : Int, ∃ x3 : Int, qz_fg [true, true, true, true] x.1 = [some (.inr (.inr (some (1, 0, 0)))), some (.inl (i3 x1)), some (.inl (i3 x2)), some (.inl (i3 x3))] ∧ x.2 = ([], zm Z ν) ∧ m = (60 - x3).toNat ∧ (0 ≤ x2 ∧ x2 ≤ 1) ∧ (0 ≤ x3 ∧ x3 ≤ 60) ∧ (x2 = 0 ∨ Z 1 0 0 28 ≤ 10) ∧ zE T (zl_258_1 x1 (m + 1) Z x2 x3)) ?_ 65536 ((60 - x3).toNat) _ (by omega) ⟨x2, x3, hL, rfl, rfl, gx2, gx3, gr0, hP⟩
  clear hP gr0 gx2 gx3 hL
  clear x2 x3
  rintro m ⟨L, st, μ⟩ ⟨x2, x3, hL, hx, hm, gx2, gx3, gr0, hP⟩
  cases hx
  refine fb_258_1 (i3 x1) (i3 x2) (i3 x3) _ _ _ _ hL ?_
  have r1 := zM_k hZ 1 0 0 28 (lo := 0) (hi := 60) (by decide) rfl
  refine wz_br (i3Le (zm_rd (Z := Z) (ν := ν) (k := 1) (show ((0 : Nat) : Int) = 0 from rfl) (show ((0 : Nat) : Int) = 0 from rfl) (show ((28 : Nat) : Int) = 28 from rfl)) (rfl : i3 x3 = i3 x3) (by omega) (by omega) (by omega) (by omega)) (fun h2 => ?_) (fun h2 => ?_)
  · replace hP := zE_p hP h2
    exact hk _ _ _ (zconso rfl (zconso rfl (zconso (zvo (rfl : i3 x2 = i3 x2)) (zconso rfl rfl))))  (by omega) (by omega) (by omega) hP
  · replace hP := zE_n hP h2
    refine wz_br (i3E (rfl : i3 x2 = i3 x2) (show (0 : Int32) = i3 0 from rfl) (by omega) (by omega) (by omega) (by omega)) (fun h3 => ?_) (fun h3 => ?_)
    · replace hP := zE_p hP h3
      obtain ⟨m2, rfl⟩ : ∃ m2, m = m2 + 1 := ⟨m - 1, by omega⟩
      exact wz_k1 ⟨m2, by omega, 0, (x3 + 1), (zconso rfl (zconso (zvo (rfl : i3 x1 = i3 x1)) (zconso (zvo (show (0 : Int32) = i3 0 from rfl)) (zconso (zvo (i3A (rfl : i3 x3 = i3 x3) (show (1 : Int32) = i3 1 from rfl))) rfl)))), rfl,  by omega, by omega, by omega, by omega,  hP⟩
    · replace hP := zE_n hP h3
      refine wz_i0 (i3O (n := 60) (rfl : i3 x3 = i3 x3) (by omega) (by omega) (by omega)) ?_
      have r4 := zM_k hZ 98 0 0 x3 (lo := 0) (hi := 40) (by decide) rfl
      refine wz_br (i3L (rfl : i3 x1 = i3 x1) (zm_rd (Z := Z) (ν := ν) (k := 98) (show ((0 : Nat) : Int) = 0 from rfl) (show ((0 : Nat) : Int) = 0 from rfl) (i3I (y := x3) (rfl : i3 x3 = i3 x3) (by omega) (by omega) (by omega))) (by omega) (by omega) (by omega) (by omega)) (fun h5 => ?_) (fun h5 => ?_)
      · replace hP := zE_p hP h5
        obtain ⟨m2, rfl⟩ : ∃ m2, m = m2 + 1 := ⟨m - 1, by omega⟩
        exact wz_k1 ⟨m2, by omega, 0, (x3 + 1), (zconso rfl (zconso (zvo (rfl : i3 x1 = i3 x1)) (zconso (zvo (show (0 : Int32) = i3 0 from rfl)) (zconso (zvo (i3A (rfl : i3 x3 = i3 x3) (show (1 : Int32) = i3 1 from rfl))) rfl)))), rfl,  by omega, by omega, by omega, by omega,  hP⟩
      · replace hP := zE_n hP h5
        obtain ⟨m2, rfl⟩ : ∃ m2, m = m2 + 1 := ⟨m - 1, by omega⟩
        exact wz_k1 ⟨m2, by omega, 1, (x3 + 1), (zconso rfl (zconso (zvo (rfl : i3 x1 = i3 x1)) (zconso (zvo (show (1 : Int32) = i3 1 from rfl)) (zconso (zvo (i3A (rfl : i3 x3 = i3 x3) (show (1 : Int32) = i3 1 from rfl))) rfl)))), rfl,  by omega, by omega, by omega, by omega,  hP⟩
/- yX12_areParts -/
def zf_258 (Z : qz_Z) (a1 : Int) : Int := (if 10 < (Z 1 0 0 28) then (zlet2 (zl_258_1 a1 61 Z 0 0) (fun y3 y4 => y3)) else (zlet2 (zl_258_1 a1 61 Z 1 0) (fun y6 y7 => y6)))
theorem sp_258 {s : zSM} {Z : qz_Z} {ν : qz_N} (hZ : zM s Z) {a1 : Int} (ga1 : 10 ≤ a1 ∧ a1 ≤ 99) (hM : s.2 + 0 ≤ 1000000000) : ∃ P : Int, P = zf_258 Z a1 ∧ (qf_258 [.inr (.inr (some (1, 0, 0))), .inl (i3 a1)] (zm Z ν) = some (zm Z ν, .inl (some (.inl (i3 P)))) ∧ 0 ≤ P ∧ P ≤ 1 ∧ (P = 0 ∨ Z 1 0 0 28 ≤ 10)) := by
  obtain ⟨P, hP⟩ := zx (zf_258 Z a1)
  refine zc_R (Q := fun P => 0 ≤ P ∧ P ≤ 1 ∧ (P = 0 ∨ Z 1 0 0 28 ≤ 10)) hP (fw_258 (i3 a1) _ _ ?_)
  replace hP : zE P (zf_258 Z a1) := hP
  unfold zf_258 at hP
  have r1 := zM_k hZ 1 0 0 28 (lo := 0) (hi := 60) (by decide) rfl
  refine wz_br (i3L (show (10 : Int32) = i3 10 from rfl) (zm_rd (Z := Z) (ν := ν) (k := 1) (show ((0 : Nat) : Int) = 0 from rfl) (show ((0 : Nat) : Int) = 0 from rfl) (show ((28 : Nat) : Int) = 28 from rfl)) (by omega) (by omega) (by omega) (by omega)) (fun h2 => ?_) (fun h2 => ?_)
  · replace hP := zE_p hP h2
    refine sl_258_1 (ν := ν) hZ (zbh (c := 0) (k := 0) hM (Nat.le_of_ble_eq_true rfl)) (x1 := a1) (by omega) (x2 := 0) (by omega) (x3 := 0) (by omega) (by omega) (zconso rfl (zconso (zvo (rfl : i3 a1 = i3 a1)) (zconso (zvo (show (0 : Int32) = i3 0 from rfl)) (zconso (zvo (show (0 : Int32) = i3 0 from rfl)) rfl)))) rfl ?_
    intro L5 y3 y4 hL5 gy3 gy4 gL5_0 q9
    replace hP := zl_e2 hP (Eq.symm q9)
    clear q9
    refine fc_258_2 (i3 y3) _ _ _ _ hL5 ?_
    refine wz_i1 (i3B (rfl : i3 y3 = i3 y3) (by omega)) ?_
    exact zlR hP (rfl : i3 y3 = i3 y3) ⟨by omega, by omega, by omega⟩
  · replace hP := zE_n hP h2
    refine sl_258_1 (ν := ν) hZ (zbh (c := 0) (k := 0) hM (Nat.le_of_ble_eq_true rfl)) (x1 := a1) (by omega) (x2 := 1) (by omega) (x3 := 0) (by omega) (by omega) (zconso rfl (zconso (zvo (rfl : i3 a1 = i3 a1)) (zconso (zvo (show (1 : Int32) = i3 1 from rfl)) (zconso (zvo (show (0 : Int32) = i3 0 from rfl)) rfl)))) rfl ?_
    intro L8 y6 y7 hL8 gy6 gy7 gL8_0 q9
    replace hP := zl_e2 hP (Eq.symm q9)
    clear q9
    refine fc_258_2 (i3 y6) _ _ _ _ hL8 ?_
    refine wz_i1 (i3B (rfl : i3 y6 = i3 y6) (by omega)) ?_
    exact zlR hP (rfl : i3 y6 = i3 y6) ⟨by omega, by omega, by omega⟩
/- yX12_tFewest -/
def zl_510_1 (x1 : Int) (x2 : Int) : Nat → qz_Z → Int → Int → Int × Int
  | 0, Z, x3, x4 => (x3, x4)
  | m + 1, Z, x3, x4 => (if (Z 1 0 0 28) ≤ x4 then (x3, x4) else (if (z2 (fun x y => x &&& y) (z2 (fun x y => x >>> (y &&& 31)) x2 x4) 1) ≠ 1 then zl_510_1 x1 x2 m Z x3 (x4 + 1) else (if (Z 99 0 0 (z2 (fun x y => x &&& y) x2 (z2 (fun x y => x ^^^ y) (z2 (fun x y => x <<< (y &&& 31)) 1 x4) (-1)))) ≤ 0 then (if x3 = (-1) then zl_510_1 x1 x2 m Z (w3 ((w3 ((w3 ((Z 99 0 0 (z2 (fun x y => x &&& y) x2 (z2 (fun x y => x ^^^ y) (z2 (fun x y => x <<< (y &&& 31)) 1 x4) (-1)))) - (z2 (fun x y => x - x / y * y) (Z 99 0 0 (z2 (fun x y => x &&& y) x2 (z2 (fun x y => x ^^^ y) (z2 (fun x y => x <<< (y &&& 31)) 1 x4) (-1)))) 128))) + 128)) + (Z 98 0 0 x4))) (x4 + 1) else (if x3 ≤ (w3 ((w3 ((w3 ((Z 99 0 0 (z2 (fun x y => x &&& y) x2 (z2 (fun x y => x ^^^ y) (z2 (fun x y => x <<< (y &&& 31)) 1 x4) (-1)))) - (z2 (fun x y => x - x / y * y) (Z 99 0 0 (z2 (fun x y => x &&& y) x2 (z2 (fun x y => x ^^^ y) (z2 (fun x y => x <<< (y &&& 31)) 1 x4) (-1)))) 128))) + 128)) + (Z 98 0 0 x4))) then zl_510_1 x1 x2 m Z x3 (x4 + 1) else zl_510_1 x1 x2 m Z (w3 ((w3 ((w3 ((Z 99 0 0 (z2 (fun x y => x &&& y) x2 (z2 (fun x y => x ^^^ y) (z2 (fun x y => x <<< (y &&& 31)) 1 x4) (-1)))) - (z2 (fun x y => x - x / y * y) (Z 99 0 0 (z2 (fun x y => x &&& y) x2 (z2 (fun x y => x ^^^ y) (z2 (fun x y => x <<< (y &&& 31)) 1 x4) (-1)))) 128))) + 128)) + (Z 98 0 0 x4))) (x4 + 1))) else (if x1 < (((Z 99 0 0 (z2 (fun x y => x &&& y) x2 (z2 (fun x y => x ^^^ y) (z2 (fun x y => x <<< (y &&& 31)) 1 x4) (-1)))) % 128) + (Z 98 0 0 x4)) then (if x3 = (-1) then zl_510_1 x1 x2 m Z (w3 ((w3 (((Z 99 0 0 (z2 (fun x y => x &&& y) x2 (z2 (fun x y => x ^^^ y) (z2 (fun x y => x <<< (y &&& 31)) 1 x4) (-1)))) - ((Z 99 0 0 (z2 (fun x y => x &&& y) x2 (z2 (fun x y => x ^^^ y) (z2 (fun x y => x <<< (y &&& 31)) 1 x4) (-1)))) % 128)) + 128)) + (Z 98 0 0 x4))) (x4 + 1) else (if x3 ≤ (w3 ((w3 (((Z 99 0 0 (z2 (fun x y => x &&& y) x2 (z2 (fun x y => x ^^^ y) (z2 (fun x y => x <<< (y &&& 31)) 1 x4) (-1)))) - ((Z 99 0 0 (z2 (fun x y => x &&& y) x2 (z2 (fun x y => x ^^^ y) (z2 (fun x y => x <<< (y &&& 31)) 1 x4) (-1)))) % 128)) + 128)) + (Z 98 0 0 x4))) then zl_510_1 x1 x2 m Z x3 (x4 + 1) else zl_510_1 x1 x2 m Z (w3 ((w3 (((Z 99 0 0 (z2 (fun x y => x &&& y) x2 (z2 (fun x y => x ^^^ y) (z2 (fun x y => x <<< (y &&& 31)) 1 x4) (-1)))) - ((Z 99 0 0 (z2 (fun x y => x &&& y) x2 (z2 (fun x y => x ^^^ y) (z2 (fun x y => x <<< (y &&& 31)) 1 x4) (-1)))) % 128)) + 128)) + (Z 98 0 0 x4))) (x4 + 1))) else (if x3 = (-1) then zl_510_1 x1 x2 m Z (w3 ((Z 99 0 0 (z2 (fun x y => x &&& y) x2 (z2 (fun x y => x ^^^ y) (z2 (fun x y => x <<< (y &&& 31)) 1 x4) (-1)))) + (Z 98 0 0 x4))) (x4 + 1) else (if x3 ≤ (w3 ((Z 99 0 0 (z2 (fun x y => x &&& y) x2 (z2 (fun x y => x ^^^ y) (z2 (fun x y => x <<< (y &&& 31)) 1 x4) (-1)))) + (Z 98 0 0 x4))) then zl_510_1 x1 x2 m Z x3 (x4 + 1) else zl_510_1 x1 x2 m Z (w3 ((Z 99 0 0 (z2 (fun x y => x &&& y) x2 (z2 (fun x y => x ^^^ y) (z2 (fun x y => x <<< (y &&& 31)) 1 x4) (-1)))) + (Z 98 0 0 x4))) (x4 + 1)))))))
theorem sl_510_1 {s : zSM} {Z : qz_Z} {ν : qz_N} (hZ : zM s Z) (hM : s.2 + 0 ≤ 1000000000) {x1 : Int} (gx1 : 10 ≤ x1 ∧ x1 ≤ 99) {x2 : Int} (gx2 : 1 ≤ x2 ∧ x2 ≤ 1023) {x3 : Int} (gx3 : -2147483648 ≤ x3 ∧ x3 ≤ 2147483647) {x4 : Int} (gx4 : 0 ≤ x4 ∧ x4 ≤ 10) (gr0 : Z 1 0 0 28 ≤ 10) {k : wz_K} {R : wz_R} {L : qz_L} (hL : qz_fg [true, true, true, true, true, false] L = [some (.inr (.inr (some (1, 0, 0)))), some (.inl (i3 x1)), some (.inl (i3 x2)), some (.inl (i3 x3)), some (.inl (i3 x4)), none]) {T : Int × Int} (hP : zE T (zl_510_1 x1 x2 ((10 - x4).toNat + 1) Z x3 x4)) (hk : ∀ (L9 : qz_L) (yx3 yx4 : Int), qz_fg [true, true, true, true, false, false] L9 = [some (.inr (.inr (some (1, 0, 0)))), some (.inl (i3 x1)), some (.inl (i3 x2)), some (.inl (i3 yx3)), none, none] → (-2147483648 ≤ yx3 ∧ yx3 ≤ 2147483647) → (0 ≤ yx4 ∧ yx4 ≤ 10) → (Z 1 0 0 28 ≤ 10) → zE T ((yx3, yx4)) → k 0 (L9, [], zm Z ν)) : wz_loop qb_510_1 65536 k R (L, [], zm Z ν) := by
  refine wz_lp sb_510_1 (fun m x => ∃ x3 : Int, ∃ x4 : Int, qz_fg [true, true, true, true, true, false] x.1 = [some (.inr (.inr (some (1, 0, 0)))), some (.inl (i3 x1)), some (.inl (i3 x2)), some (.inl (i3 x3)), some (.inl (i3 x4)), none] ∧ x.2 = ([], zm Z ν) ∧ m = (10 - x4).toNat ∧ (-2147483648 ≤ x3 ∧ x3 ≤ 2147483647) ∧ (0 ≤ x4 ∧ x4 ≤ 10) ∧ (Z 1 0 0 28 ≤ 10) ∧ zE T (zl_510_1 x1 x2 (m + 1) Z x3 x4)) ?_ 65536 ((10 - x4).toNat) _ (by omega) ⟨x3, x4, hL, rfl, rfl, gx3, gx4, gr0, hP⟩
  clear hP gr0 gx3 gx4 hL
  clear x3 x4
  rintro m ⟨L, st, μ⟩ ⟨x3, x4, hL, hx, hm, gx3, gx4, gr0, hP⟩
  cases hx
  refine fb_510_1 (i3 x1) (i3 x2) (i3 x3) (i3 x4) _ _ _ _ hL ?_
  have r1 := zM_k hZ 1 0 0 28 (lo := 0) (hi := 60) (by decide) rfl
  refine wz_br (i3Le (zm_rd (Z := Z) (ν := ν) (k := 1) (show ((0 : Nat) : Int) = 0 from rfl) (show ((0 : Nat) : Int) = 0 from rfl) (show ((28 : Nat) : Int) = 28 from rfl)) (rfl : i3 x4 = i3 x4) (by omega) (by omega) (by omega) (by omega)) (fun h2 => ?_) (fun h2 => ?_)
  · replace hP := zE_p hP h2
    exact hk _ _ _ (zconso rfl (zconso (zvo (rfl : i3 x1 = i3 x1)) (zconso (zvo (rfl : i3 x2 = i3 x2)) (zconso (zvo (rfl : i3 x3 = i3 x3)) (zconso rfl (zconso rfl rfl))))))  (by omega) (by omega) (by omega) hP
  · replace hP := zE_n hP h2
    have r3 := z2_r (fun x y => x >>> (y &&& 31)) x2 x4
    have r4 := z2_r (fun x y => x &&& y) (z2 (fun x y => x >>> (y &&& 31)) x2 x4) 1
    have r5 := z2_and (z2 (fun x y => x >>> (y &&& 31)) x2 x4) (y := 1) (by omega) (by omega)
    refine wz_br (i3NE (i3Z (fun x y => x &&& y) (i3Z (fun x y => x >>> (y &&& 31)) (rfl : i3 x2 = i3 x2) (rfl : i3 x4 = i3 x4)) (show (1 : Int32) = i3 1 from rfl)) (show (1 : Int32) = i3 1 from rfl) (by omega) (by omega) (by omega) (by omega)) (fun h6 => ?_) (fun h6 => ?_)
    · replace hP := zE_p hP h6
      obtain ⟨m2, rfl⟩ : ∃ m2, m = m2 + 1 := ⟨m - 1, by omega⟩
      exact wz_k1 ⟨m2, by omega, x3, (x4 + 1), (zconso rfl (zconso (zvo (rfl : i3 x1 = i3 x1)) (zconso (zvo (rfl : i3 x2 = i3 x2)) (zconso (zvo (rfl : i3 x3 = i3 x3)) (zconso (zvo (i3A (rfl : i3 x4 = i3 x4) (show (1 : Int32) = i3 1 from rfl))) (zconso rfl rfl)))))), rfl,  by omega, by omega, by omega, by omega,  hP⟩
    · replace hP := zE_n hP h6
      have r7 := z2_r (fun x y => x <<< (y &&& 31)) 1 x4
      have r8 := z2_shl10 (n := x4) (by omega) (by omega)
      have r9 := z2_r (fun x y => x ^^^ y) (z2 (fun x y => x <<< (y &&& 31)) 1 x4) (-1)
      have r10 := z2_r (fun x y => x &&& y) x2 (z2 (fun x y => x ^^^ y) (z2 (fun x y => x <<< (y &&& 31)) 1 x4) (-1))
      have r11 := z2_andl (z2 (fun x y => x ^^^ y) (z2 (fun x y => x <<< (y &&& 31)) 1 x4) (-1)) (x := x2) (by omega) (by omega)
      refine wz_i0 (i3O (n := 1024) (i3Z (fun x y => x &&& y) (rfl : i3 x2 = i3 x2) (i3Z (fun x y => x ^^^ y) (i3Z (fun x y => x <<< (y &&& 31)) (show (1 : Int32) = i3 1 from rfl) (rfl : i3 x4 = i3 x4)) (show (-1 : Int32) = i3 (-1) from rfl))) (by omega) (by omega) (by omega)) ?_
      refine wz_i0 (i3O (n := 60) (rfl : i3 x4 = i3 x4) (by omega) (by omega) (by omega)) ?_
      have r12 := zM_f hZ 99 0 0 (z2 (fun x y => x &&& y) x2 (z2 (fun x y => x ^^^ y) (z2 (fun x y => x <<< (y &&& 31)) 1 x4) (-1)))
      refine wz_br (i3Le (zm_rd (Z := Z) (ν := ν) (k := 99) (show ((0 : Nat) : Int) = 0 from rfl) (show ((0 : Nat) : Int) = 0 from rfl) (i3I (y := (z2 (fun x y => x &&& y) x2 (z2 (fun x y => x ^^^ y) (z2 (fun x y => x <<< (y &&& 31)) 1 x4) (-1)))) (i3Z (fun x y => x &&& y) (rfl : i3 x2 = i3 x2) (i3Z (fun x y => x ^^^ y) (i3Z (fun x y => x <<< (y &&& 31)) (show (1 : Int32) = i3 1 from rfl) (rfl : i3 x4 = i3 x4)) (show (-1 : Int32) = i3 (-1) from rfl))) (by omega) (by omega) (by omega))) (show (0 : Int32) = i3 0 from rfl) (by omega) (by omega) (by omega) (by omega)) (fun h13 => ?_) (fun h13 => ?_)
      · replace hP := zE_p hP h13
        refine wz_br (i3E (rfl : i3 x3 = i3 x3) (show (-1 : Int32) = i3 (-1) from rfl) (by omega) (by omega) (by omega) (by omega)) (fun h14 => ?_) (fun h14 => ?_)
        · replace hP := zE_p hP h14
          have r15 := z2_r (fun x y => x - x / y * y) (Z 99 0 0 (z2 (fun x y => x &&& y) x2 (z2 (fun x y => x ^^^ y) (z2 (fun x y => x <<< (y &&& 31)) 1 x4) (-1)))) 128
          have r16 := w3_r ((Z 99 0 0 (z2 (fun x y => x &&& y) x2 (z2 (fun x y => x ^^^ y) (z2 (fun x y => x <<< (y &&& 31)) 1 x4) (-1)))) - (z2 (fun x y => x - x / y * y) (Z 99 0 0 (z2 (fun x y => x &&& y) x2 (z2 (fun x y => x ^^^ y) (z2 (fun x y => x <<< (y &&& 31)) 1 x4) (-1)))) 128))
          have r17 := w3_r ((w3 ((Z 99 0 0 (z2 (fun x y => x &&& y) x2 (z2 (fun x y => x ^^^ y) (z2 (fun x y => x <<< (y &&& 31)) 1 x4) (-1)))) - (z2 (fun x y => x - x / y * y) (Z 99 0 0 (z2 (fun x y => x &&& y) x2 (z2 (fun x y => x ^^^ y) (z2 (fun x y => x <<< (y &&& 31)) 1 x4) (-1)))) 128))) + 128)
          have r18 := zM_k hZ 98 0 0 x4 (lo := 0) (hi := 40) (by decide) rfl
          have r19 := w3_r ((w3 ((w3 ((Z 99 0 0 (z2 (fun x y => x &&& y) x2 (z2 (fun x y => x ^^^ y) (z2 (fun x y => x <<< (y &&& 31)) 1 x4) (-1)))) - (z2 (fun x y => x - x / y * y) (Z 99 0 0 (z2 (fun x y => x &&& y) x2 (z2 (fun x y => x ^^^ y) (z2 (fun x y => x <<< (y &&& 31)) 1 x4) (-1)))) 128))) + 128)) + (Z 98 0 0 x4))
          obtain ⟨m2, rfl⟩ : ∃ m2, m = m2 + 1 := ⟨m - 1, by omega⟩
          exact wz_k1 ⟨m2, by omega, (w3 ((w3 ((w3 ((Z 99 0 0 (z2 (fun x y => x &&& y) x2 (z2 (fun x y => x ^^^ y) (z2 (fun x y => x <<< (y &&& 31)) 1 x4) (-1)))) - (z2 (fun x y => x - x / y * y) (Z 99 0 0 (z2 (fun x y => x &&& y) x2 (z2 (fun x y => x ^^^ y) (z2 (fun x y => x <<< (y &&& 31)) 1 x4) (-1)))) 128))) + 128)) + (Z 98 0 0 x4))), (x4 + 1), (zconso rfl (zconso (zvo (rfl : i3 x1 = i3 x1)) (zconso (zvo (rfl : i3 x2 = i3 x2)) (zconso (zvo (i3W (i3A (i3W (i3A (i3W (i3S (zm_rd (Z := Z) (ν := ν) (k := 99) (show ((0 : Nat) : Int) = 0 from rfl) (show ((0 : Nat) : Int) = 0 from rfl) (i3I (y := (z2 (fun x y => x &&& y) x2 (z2 (fun x y => x ^^^ y) (z2 (fun x y => x <<< (y &&& 31)) 1 x4) (-1)))) (i3Z (fun x y => x &&& y) (rfl : i3 x2 = i3 x2) (i3Z (fun x y => x ^^^ y) (i3Z (fun x y => x <<< (y &&& 31)) (show (1 : Int32) = i3 1 from rfl) (rfl : i3 x4 = i3 x4)) (show (-1 : Int32) = i3 (-1) from rfl))) (by omega) (by omega) (by omega))) (i3Z (fun x y => x - x / y * y) (zm_rd (Z := Z) (ν := ν) (k := 99) (show ((0 : Nat) : Int) = 0 from rfl) (show ((0 : Nat) : Int) = 0 from rfl) (i3I (y := (z2 (fun x y => x &&& y) x2 (z2 (fun x y => x ^^^ y) (z2 (fun x y => x <<< (y &&& 31)) 1 x4) (-1)))) (i3Z (fun x y => x &&& y) (rfl : i3 x2 = i3 x2) (i3Z (fun x y => x ^^^ y) (i3Z (fun x y => x <<< (y &&& 31)) (show (1 : Int32) = i3 1 from rfl) (rfl : i3 x4 = i3 x4)) (show (-1 : Int32) = i3 (-1) from rfl))) (by omega) (by omega) (by omega))) (show (128 : Int32) = i3 128 from rfl)))) (show (128 : Int32) = i3 128 from rfl))) (zm_rd (Z := Z) (ν := ν) (k := 98) (show ((0 : Nat) : Int) = 0 from rfl) (show ((0 : Nat) : Int) = 0 from rfl) (i3I (y := x4) (rfl : i3 x4 = i3 x4) (by omega) (by omega) (by omega)))))) (zconso (zvo (i3A (rfl : i3 x4 = i3 x4) (show (1 : Int32) = i3 1 from rfl))) (zconso rfl rfl)))))), rfl,  by omega, by omega, by omega, by omega,  hP⟩
        · replace hP := zE_n hP h14
          have r20 := z2_r (fun x y => x - x / y * y) (Z 99 0 0 (z2 (fun x y => x &&& y) x2 (z2 (fun x y => x ^^^ y) (z2 (fun x y => x <<< (y &&& 31)) 1 x4) (-1)))) 128
          have r21 := w3_r ((Z 99 0 0 (z2 (fun x y => x &&& y) x2 (z2 (fun x y => x ^^^ y) (z2 (fun x y => x <<< (y &&& 31)) 1 x4) (-1)))) - (z2 (fun x y => x - x / y * y) (Z 99 0 0 (z2 (fun x y => x &&& y) x2 (z2 (fun x y => x ^^^ y) (z2 (fun x y => x <<< (y &&& 31)) 1 x4) (-1)))) 128))
          have r22 := w3_r ((w3 ((Z 99 0 0 (z2 (fun x y => x &&& y) x2 (z2 (fun x y => x ^^^ y) (z2 (fun x y => x <<< (y &&& 31)) 1 x4) (-1)))) - (z2 (fun x y => x - x / y * y) (Z 99 0 0 (z2 (fun x y => x &&& y) x2 (z2 (fun x y => x ^^^ y) (z2 (fun x y => x <<< (y &&& 31)) 1 x4) (-1)))) 128))) + 128)
          have r23 := zM_k hZ 98 0 0 x4 (lo := 0) (hi := 40) (by decide) rfl
          have r24 := w3_r ((w3 ((w3 ((Z 99 0 0 (z2 (fun x y => x &&& y) x2 (z2 (fun x y => x ^^^ y) (z2 (fun x y => x <<< (y &&& 31)) 1 x4) (-1)))) - (z2 (fun x y => x - x / y * y) (Z 99 0 0 (z2 (fun x y => x &&& y) x2 (z2 (fun x y => x ^^^ y) (z2 (fun x y => x <<< (y &&& 31)) 1 x4) (-1)))) 128))) + 128)) + (Z 98 0 0 x4))
          refine wz_br (i3Le (rfl : i3 x3 = i3 x3) (i3W (i3A (i3W (i3A (i3W (i3S (zm_rd (Z := Z) (ν := ν) (k := 99) (show ((0 : Nat) : Int) = 0 from rfl) (show ((0 : Nat) : Int) = 0 from rfl) (i3I (y := (z2 (fun x y => x &&& y) x2 (z2 (fun x y => x ^^^ y) (z2 (fun x y => x <<< (y &&& 31)) 1 x4) (-1)))) (i3Z (fun x y => x &&& y) (rfl : i3 x2 = i3 x2) (i3Z (fun x y => x ^^^ y) (i3Z (fun x y => x <<< (y &&& 31)) (show (1 : Int32) = i3 1 from rfl) (rfl : i3 x4 = i3 x4)) (show (-1 : Int32) = i3 (-1) from rfl))) (by omega) (by omega) (by omega))) (i3Z (fun x y => x - x / y * y) (zm_rd (Z := Z) (ν := ν) (k := 99) (show ((0 : Nat) : Int) = 0 from rfl) (show ((0 : Nat) : Int) = 0 from rfl) (i3I (y := (z2 (fun x y => x &&& y) x2 (z2 (fun x y => x ^^^ y) (z2 (fun x y => x <<< (y &&& 31)) 1 x4) (-1)))) (i3Z (fun x y => x &&& y) (rfl : i3 x2 = i3 x2) (i3Z (fun x y => x ^^^ y) (i3Z (fun x y => x <<< (y &&& 31)) (show (1 : Int32) = i3 1 from rfl) (rfl : i3 x4 = i3 x4)) (show (-1 : Int32) = i3 (-1) from rfl))) (by omega) (by omega) (by omega))) (show (128 : Int32) = i3 128 from rfl)))) (show (128 : Int32) = i3 128 from rfl))) (zm_rd (Z := Z) (ν := ν) (k := 98) (show ((0 : Nat) : Int) = 0 from rfl) (show ((0 : Nat) : Int) = 0 from rfl) (i3I (y := x4) (rfl : i3 x4 = i3 x4) (by omega) (by omega) (by omega))))) (by omega) (by omega) (by omega) (by omega)) (fun h25 => ?_) (fun h25 => ?_)
          · replace hP := zE_p hP h25
            obtain ⟨m2, rfl⟩ : ∃ m2, m = m2 + 1 := ⟨m - 1, by omega⟩
            exact wz_k1 ⟨m2, by omega, x3, (x4 + 1), (zconso rfl (zconso (zvo (rfl : i3 x1 = i3 x1)) (zconso (zvo (rfl : i3 x2 = i3 x2)) (zconso (zvo (rfl : i3 x3 = i3 x3)) (zconso (zvo (i3A (rfl : i3 x4 = i3 x4) (show (1 : Int32) = i3 1 from rfl))) (zconso rfl rfl)))))), rfl,  by omega, by omega, by omega, by omega,  hP⟩
          · replace hP := zE_n hP h25
            obtain ⟨m2, rfl⟩ : ∃ m2, m = m2 + 1 := ⟨m - 1, by omega⟩
            exact wz_k1 ⟨m2, by omega, (w3 ((w3 ((w3 ((Z 99 0 0 (z2 (fun x y => x &&& y) x2 (z2 (fun x y => x ^^^ y) (z2 (fun x y => x <<< (y &&& 31)) 1 x4) (-1)))) - (z2 (fun x y => x - x / y * y) (Z 99 0 0 (z2 (fun x y => x &&& y) x2 (z2 (fun x y => x ^^^ y) (z2 (fun x y => x <<< (y &&& 31)) 1 x4) (-1)))) 128))) + 128)) + (Z 98 0 0 x4))), (x4 + 1), (zconso rfl (zconso (zvo (rfl : i3 x1 = i3 x1)) (zconso (zvo (rfl : i3 x2 = i3 x2)) (zconso (zvo (i3W (i3A (i3W (i3A (i3W (i3S (zm_rd (Z := Z) (ν := ν) (k := 99) (show ((0 : Nat) : Int) = 0 from rfl) (show ((0 : Nat) : Int) = 0 from rfl) (i3I (y := (z2 (fun x y => x &&& y) x2 (z2 (fun x y => x ^^^ y) (z2 (fun x y => x <<< (y &&& 31)) 1 x4) (-1)))) (i3Z (fun x y => x &&& y) (rfl : i3 x2 = i3 x2) (i3Z (fun x y => x ^^^ y) (i3Z (fun x y => x <<< (y &&& 31)) (show (1 : Int32) = i3 1 from rfl) (rfl : i3 x4 = i3 x4)) (show (-1 : Int32) = i3 (-1) from rfl))) (by omega) (by omega) (by omega))) (i3Z (fun x y => x - x / y * y) (zm_rd (Z := Z) (ν := ν) (k := 99) (show ((0 : Nat) : Int) = 0 from rfl) (show ((0 : Nat) : Int) = 0 from rfl) (i3I (y := (z2 (fun x y => x &&& y) x2 (z2 (fun x y => x ^^^ y) (z2 (fun x y => x <<< (y &&& 31)) 1 x4) (-1)))) (i3Z (fun x y => x &&& y) (rfl : i3 x2 = i3 x2) (i3Z (fun x y => x ^^^ y) (i3Z (fun x y => x <<< (y &&& 31)) (show (1 : Int32) = i3 1 from rfl) (rfl : i3 x4 = i3 x4)) (show (-1 : Int32) = i3 (-1) from rfl))) (by omega) (by omega) (by omega))) (show (128 : Int32) = i3 128 from rfl)))) (show (128 : Int32) = i3 128 from rfl))) (zm_rd (Z := Z) (ν := ν) (k := 98) (show ((0 : Nat) : Int) = 0 from rfl) (show ((0 : Nat) : Int) = 0 from rfl) (i3I (y := x4) (rfl : i3 x4 = i3 x4) (by omega) (by omega) (by omega)))))) (zconso (zvo (i3A (rfl : i3 x4 = i3 x4) (show (1 : Int32) = i3 1 from rfl))) (zconso rfl rfl)))))), rfl,  by omega, by omega, by omega, by omega,  hP⟩
      · replace hP := zE_n hP h13
        have r26 := zM_k hZ 98 0 0 x4 (lo := 0) (hi := 40) (by decide) rfl
        refine wz_br (i3L (rfl : i3 x1 = i3 x1) (i3A (i3R (zm_rd (Z := Z) (ν := ν) (k := 99) (show ((0 : Nat) : Int) = 0 from rfl) (show ((0 : Nat) : Int) = 0 from rfl) (i3I (y := (z2 (fun x y => x &&& y) x2 (z2 (fun x y => x ^^^ y) (z2 (fun x y => x <<< (y &&& 31)) 1 x4) (-1)))) (i3Z (fun x y => x &&& y) (rfl : i3 x2 = i3 x2) (i3Z (fun x y => x ^^^ y) (i3Z (fun x y => x <<< (y &&& 31)) (show (1 : Int32) = i3 1 from rfl) (rfl : i3 x4 = i3 x4)) (show (-1 : Int32) = i3 (-1) from rfl))) (by omega) (by omega) (by omega))) (show (128 : Int32) = i3 128 from rfl) (by omega) (by omega) (by omega) (by omega)) (zm_rd (Z := Z) (ν := ν) (k := 98) (show ((0 : Nat) : Int) = 0 from rfl) (show ((0 : Nat) : Int) = 0 from rfl) (i3I (y := x4) (rfl : i3 x4 = i3 x4) (by omega) (by omega) (by omega)))) (by omega) (by omega) (by omega) (by omega)) (fun h27 => ?_) (fun h27 => ?_)
        · replace hP := zE_p hP h27
          refine wz_br (i3E (rfl : i3 x3 = i3 x3) (show (-1 : Int32) = i3 (-1) from rfl) (by omega) (by omega) (by omega) (by omega)) (fun h28 => ?_) (fun h28 => ?_)
          · replace hP := zE_p hP h28
            have r29 := w3_r (((Z 99 0 0 (z2 (fun x y => x &&& y) x2 (z2 (fun x y => x ^^^ y) (z2 (fun x y => x <<< (y &&& 31)) 1 x4) (-1)))) - ((Z 99 0 0 (z2 (fun x y => x &&& y) x2 (z2 (fun x y => x ^^^ y) (z2 (fun x y => x <<< (y &&& 31)) 1 x4) (-1)))) % 128)) + 128)
            have r30 := w3_r ((w3 (((Z 99 0 0 (z2 (fun x y => x &&& y) x2 (z2 (fun x y => x ^^^ y) (z2 (fun x y => x <<< (y &&& 31)) 1 x4) (-1)))) - ((Z 99 0 0 (z2 (fun x y => x &&& y) x2 (z2 (fun x y => x ^^^ y) (z2 (fun x y => x <<< (y &&& 31)) 1 x4) (-1)))) % 128)) + 128)) + (Z 98 0 0 x4))
            obtain ⟨m2, rfl⟩ : ∃ m2, m = m2 + 1 := ⟨m - 1, by omega⟩
            exact wz_k1 ⟨m2, by omega, (w3 ((w3 (((Z 99 0 0 (z2 (fun x y => x &&& y) x2 (z2 (fun x y => x ^^^ y) (z2 (fun x y => x <<< (y &&& 31)) 1 x4) (-1)))) - ((Z 99 0 0 (z2 (fun x y => x &&& y) x2 (z2 (fun x y => x ^^^ y) (z2 (fun x y => x <<< (y &&& 31)) 1 x4) (-1)))) % 128)) + 128)) + (Z 98 0 0 x4))), (x4 + 1), (zconso rfl (zconso (zvo (rfl : i3 x1 = i3 x1)) (zconso (zvo (rfl : i3 x2 = i3 x2)) (zconso (zvo (i3W (i3A (i3W (i3A (i3S (zm_rd (Z := Z) (ν := ν) (k := 99) (show ((0 : Nat) : Int) = 0 from rfl) (show ((0 : Nat) : Int) = 0 from rfl) (i3I (y := (z2 (fun x y => x &&& y) x2 (z2 (fun x y => x ^^^ y) (z2 (fun x y => x <<< (y &&& 31)) 1 x4) (-1)))) (i3Z (fun x y => x &&& y) (rfl : i3 x2 = i3 x2) (i3Z (fun x y => x ^^^ y) (i3Z (fun x y => x <<< (y &&& 31)) (show (1 : Int32) = i3 1 from rfl) (rfl : i3 x4 = i3 x4)) (show (-1 : Int32) = i3 (-1) from rfl))) (by omega) (by omega) (by omega))) (i3R (zm_rd (Z := Z) (ν := ν) (k := 99) (show ((0 : Nat) : Int) = 0 from rfl) (show ((0 : Nat) : Int) = 0 from rfl) (i3I (y := (z2 (fun x y => x &&& y) x2 (z2 (fun x y => x ^^^ y) (z2 (fun x y => x <<< (y &&& 31)) 1 x4) (-1)))) (i3Z (fun x y => x &&& y) (rfl : i3 x2 = i3 x2) (i3Z (fun x y => x ^^^ y) (i3Z (fun x y => x <<< (y &&& 31)) (show (1 : Int32) = i3 1 from rfl) (rfl : i3 x4 = i3 x4)) (show (-1 : Int32) = i3 (-1) from rfl))) (by omega) (by omega) (by omega))) (show (128 : Int32) = i3 128 from rfl) (by omega) (by omega) (by omega) (by omega))) (show (128 : Int32) = i3 128 from rfl))) (zm_rd (Z := Z) (ν := ν) (k := 98) (show ((0 : Nat) : Int) = 0 from rfl) (show ((0 : Nat) : Int) = 0 from rfl) (i3I (y := x4) (rfl : i3 x4 = i3 x4) (by omega) (by omega) (by omega)))))) (zconso (zvo (i3A (rfl : i3 x4 = i3 x4) (show (1 : Int32) = i3 1 from rfl))) (zconso rfl rfl)))))), rfl,  by omega, by omega, by omega, by omega,  hP⟩
          · replace hP := zE_n hP h28
            have r31 := w3_r (((Z 99 0 0 (z2 (fun x y => x &&& y) x2 (z2 (fun x y => x ^^^ y) (z2 (fun x y => x <<< (y &&& 31)) 1 x4) (-1)))) - ((Z 99 0 0 (z2 (fun x y => x &&& y) x2 (z2 (fun x y => x ^^^ y) (z2 (fun x y => x <<< (y &&& 31)) 1 x4) (-1)))) % 128)) + 128)
            have r32 := w3_r ((w3 (((Z 99 0 0 (z2 (fun x y => x &&& y) x2 (z2 (fun x y => x ^^^ y) (z2 (fun x y => x <<< (y &&& 31)) 1 x4) (-1)))) - ((Z 99 0 0 (z2 (fun x y => x &&& y) x2 (z2 (fun x y => x ^^^ y) (z2 (fun x y => x <<< (y &&& 31)) 1 x4) (-1)))) % 128)) + 128)) + (Z 98 0 0 x4))
            refine wz_br (i3Le (rfl : i3 x3 = i3 x3) (i3W (i3A (i3W (i3A (i3S (zm_rd (Z := Z) (ν := ν) (k := 99) (show ((0 : Nat) : Int) = 0 from rfl) (show ((0 : Nat) : Int) = 0 from rfl) (i3I (y := (z2 (fun x y => x &&& y) x2 (z2 (fun x y => x ^^^ y) (z2 (fun x y => x <<< (y &&& 31)) 1 x4) (-1)))) (i3Z (fun x y => x &&& y) (rfl : i3 x2 = i3 x2) (i3Z (fun x y => x ^^^ y) (i3Z (fun x y => x <<< (y &&& 31)) (show (1 : Int32) = i3 1 from rfl) (rfl : i3 x4 = i3 x4)) (show (-1 : Int32) = i3 (-1) from rfl))) (by omega) (by omega) (by omega))) (i3R (zm_rd (Z := Z) (ν := ν) (k := 99) (show ((0 : Nat) : Int) = 0 from rfl) (show ((0 : Nat) : Int) = 0 from rfl) (i3I (y := (z2 (fun x y => x &&& y) x2 (z2 (fun x y => x ^^^ y) (z2 (fun x y => x <<< (y &&& 31)) 1 x4) (-1)))) (i3Z (fun x y => x &&& y) (rfl : i3 x2 = i3 x2) (i3Z (fun x y => x ^^^ y) (i3Z (fun x y => x <<< (y &&& 31)) (show (1 : Int32) = i3 1 from rfl) (rfl : i3 x4 = i3 x4)) (show (-1 : Int32) = i3 (-1) from rfl))) (by omega) (by omega) (by omega))) (show (128 : Int32) = i3 128 from rfl) (by omega) (by omega) (by omega) (by omega))) (show (128 : Int32) = i3 128 from rfl))) (zm_rd (Z := Z) (ν := ν) (k := 98) (show ((0 : Nat) : Int) = 0 from rfl) (show ((0 : Nat) : Int) = 0 from rfl) (i3I (y := x4) (rfl : i3 x4 = i3 x4) (by omega) (by omega) (by omega))))) (by omega) (by omega) (by omega) (by omega)) (fun h33 => ?_) (fun h33 => ?_)
            · replace hP := zE_p hP h33
              obtain ⟨m2, rfl⟩ : ∃ m2, m = m2 + 1 := ⟨m - 1, by omega⟩
              exact wz_k1 ⟨m2, by omega, x3, (x4 + 1), (zconso rfl (zconso (zvo (rfl : i3 x1 = i3 x1)) (zconso (zvo (rfl : i3 x2 = i3 x2)) (zconso (zvo (rfl : i3 x3 = i3 x3)) (zconso (zvo (i3A (rfl : i3 x4 = i3 x4) (show (1 : Int32) = i3 1 from rfl))) (zconso rfl rfl)))))), rfl,  by omega, by omega, by omega, by omega,  hP⟩
            · replace hP := zE_n hP h33
              obtain ⟨m2, rfl⟩ : ∃ m2, m = m2 + 1 := ⟨m - 1, by omega⟩
              exact wz_k1 ⟨m2, by omega, (w3 ((w3 (((Z 99 0 0 (z2 (fun x y => x &&& y) x2 (z2 (fun x y => x ^^^ y) (z2 (fun x y => x <<< (y &&& 31)) 1 x4) (-1)))) - ((Z 99 0 0 (z2 (fun x y => x &&& y) x2 (z2 (fun x y => x ^^^ y) (z2 (fun x y => x <<< (y &&& 31)) 1 x4) (-1)))) % 128)) + 128)) + (Z 98 0 0 x4))), (x4 + 1), (zconso rfl (zconso (zvo (rfl : i3 x1 = i3 x1)) (zconso (zvo (rfl : i3 x2 = i3 x2)) (zconso (zvo (i3W (i3A (i3W (i3A (i3S (zm_rd (Z := Z) (ν := ν) (k := 99) (show ((0 : Nat) : Int) = 0 from rfl) (show ((0 : Nat) : Int) = 0 from rfl) (i3I (y := (z2 (fun x y => x &&& y) x2 (z2 (fun x y => x ^^^ y) (z2 (fun x y => x <<< (y &&& 31)) 1 x4) (-1)))) (i3Z (fun x y => x &&& y) (rfl : i3 x2 = i3 x2) (i3Z (fun x y => x ^^^ y) (i3Z (fun x y => x <<< (y &&& 31)) (show (1 : Int32) = i3 1 from rfl) (rfl : i3 x4 = i3 x4)) (show (-1 : Int32) = i3 (-1) from rfl))) (by omega) (by omega) (by omega))) (i3R (zm_rd (Z := Z) (ν := ν) (k := 99) (show ((0 : Nat) : Int) = 0 from rfl) (show ((0 : Nat) : Int) = 0 from rfl) (i3I (y := (z2 (fun x y => x &&& y) x2 (z2 (fun x y => x ^^^ y) (z2 (fun x y => x <<< (y &&& 31)) 1 x4) (-1)))) (i3Z (fun x y => x &&& y) (rfl : i3 x2 = i3 x2) (i3Z (fun x y => x ^^^ y) (i3Z (fun x y => x <<< (y &&& 31)) (show (1 : Int32) = i3 1 from rfl) (rfl : i3 x4 = i3 x4)) (show (-1 : Int32) = i3 (-1) from rfl))) (by omega) (by omega) (by omega))) (show (128 : Int32) = i3 128 from rfl) (by omega) (by omega) (by omega) (by omega))) (show (128 : Int32) = i3 128 from rfl))) (zm_rd (Z := Z) (ν := ν) (k := 98) (show ((0 : Nat) : Int) = 0 from rfl) (show ((0 : Nat) : Int) = 0 from rfl) (i3I (y := x4) (rfl : i3 x4 = i3 x4) (by omega) (by omega) (by omega)))))) (zconso (zvo (i3A (rfl : i3 x4 = i3 x4) (show (1 : Int32) = i3 1 from rfl))) (zconso rfl rfl)))))), rfl,  by omega, by omega, by omega, by omega,  hP⟩
        · replace hP := zE_n hP h27
          refine wz_br (i3E (rfl : i3 x3 = i3 x3) (show (-1 : Int32) = i3 (-1) from rfl) (by omega) (by omega) (by omega) (by omega)) (fun h34 => ?_) (fun h34 => ?_)
          · replace hP := zE_p hP h34
            have r35 := w3_r ((Z 99 0 0 (z2 (fun x y => x &&& y) x2 (z2 (fun x y => x ^^^ y) (z2 (fun x y => x <<< (y &&& 31)) 1 x4) (-1)))) + (Z 98 0 0 x4))
            obtain ⟨m2, rfl⟩ : ∃ m2, m = m2 + 1 := ⟨m - 1, by omega⟩
            exact wz_k1 ⟨m2, by omega, (w3 ((Z 99 0 0 (z2 (fun x y => x &&& y) x2 (z2 (fun x y => x ^^^ y) (z2 (fun x y => x <<< (y &&& 31)) 1 x4) (-1)))) + (Z 98 0 0 x4))), (x4 + 1), (zconso rfl (zconso (zvo (rfl : i3 x1 = i3 x1)) (zconso (zvo (rfl : i3 x2 = i3 x2)) (zconso (zvo (i3W (i3A (zm_rd (Z := Z) (ν := ν) (k := 99) (show ((0 : Nat) : Int) = 0 from rfl) (show ((0 : Nat) : Int) = 0 from rfl) (i3I (y := (z2 (fun x y => x &&& y) x2 (z2 (fun x y => x ^^^ y) (z2 (fun x y => x <<< (y &&& 31)) 1 x4) (-1)))) (i3Z (fun x y => x &&& y) (rfl : i3 x2 = i3 x2) (i3Z (fun x y => x ^^^ y) (i3Z (fun x y => x <<< (y &&& 31)) (show (1 : Int32) = i3 1 from rfl) (rfl : i3 x4 = i3 x4)) (show (-1 : Int32) = i3 (-1) from rfl))) (by omega) (by omega) (by omega))) (zm_rd (Z := Z) (ν := ν) (k := 98) (show ((0 : Nat) : Int) = 0 from rfl) (show ((0 : Nat) : Int) = 0 from rfl) (i3I (y := x4) (rfl : i3 x4 = i3 x4) (by omega) (by omega) (by omega)))))) (zconso (zvo (i3A (rfl : i3 x4 = i3 x4) (show (1 : Int32) = i3 1 from rfl))) (zconso rfl rfl)))))), rfl,  by omega, by omega, by omega, by omega,  hP⟩
          · replace hP := zE_n hP h34
            have r36 := w3_r ((Z 99 0 0 (z2 (fun x y => x &&& y) x2 (z2 (fun x y => x ^^^ y) (z2 (fun x y => x <<< (y &&& 31)) 1 x4) (-1)))) + (Z 98 0 0 x4))
            refine wz_br (i3Le (rfl : i3 x3 = i3 x3) (i3W (i3A (zm_rd (Z := Z) (ν := ν) (k := 99) (show ((0 : Nat) : Int) = 0 from rfl) (show ((0 : Nat) : Int) = 0 from rfl) (i3I (y := (z2 (fun x y => x &&& y) x2 (z2 (fun x y => x ^^^ y) (z2 (fun x y => x <<< (y &&& 31)) 1 x4) (-1)))) (i3Z (fun x y => x &&& y) (rfl : i3 x2 = i3 x2) (i3Z (fun x y => x ^^^ y) (i3Z (fun x y => x <<< (y &&& 31)) (show (1 : Int32) = i3 1 from rfl) (rfl : i3 x4 = i3 x4)) (show (-1 : Int32) = i3 (-1) from rfl))) (by omega) (by omega) (by omega))) (zm_rd (Z := Z) (ν := ν) (k := 98) (show ((0 : Nat) : Int) = 0 from rfl) (show ((0 : Nat) : Int) = 0 from rfl) (i3I (y := x4) (rfl : i3 x4 = i3 x4) (by omega) (by omega) (by omega))))) (by omega) (by omega) (by omega) (by omega)) (fun h37 => ?_) (fun h37 => ?_)
            · replace hP := zE_p hP h37
              obtain ⟨m2, rfl⟩ : ∃ m2, m = m2 + 1 := ⟨m - 1, by omega⟩
              exact wz_k1 ⟨m2, by omega, x3, (x4 + 1), (zconso rfl (zconso (zvo (rfl : i3 x1 = i3 x1)) (zconso (zvo (rfl : i3 x2 = i3 x2)) (zconso (zvo (rfl : i3 x3 = i3 x3)) (zconso (zvo (i3A (rfl : i3 x4 = i3 x4) (show (1 : Int32) = i3 1 from rfl))) (zconso rfl rfl)))))), rfl,  by omega, by omega, by omega, by omega,  hP⟩
            · replace hP := zE_n hP h37
              obtain ⟨m2, rfl⟩ : ∃ m2, m = m2 + 1 := ⟨m - 1, by omega⟩
              exact wz_k1 ⟨m2, by omega, (w3 ((Z 99 0 0 (z2 (fun x y => x &&& y) x2 (z2 (fun x y => x ^^^ y) (z2 (fun x y => x <<< (y &&& 31)) 1 x4) (-1)))) + (Z 98 0 0 x4))), (x4 + 1), (zconso rfl (zconso (zvo (rfl : i3 x1 = i3 x1)) (zconso (zvo (rfl : i3 x2 = i3 x2)) (zconso (zvo (i3W (i3A (zm_rd (Z := Z) (ν := ν) (k := 99) (show ((0 : Nat) : Int) = 0 from rfl) (show ((0 : Nat) : Int) = 0 from rfl) (i3I (y := (z2 (fun x y => x &&& y) x2 (z2 (fun x y => x ^^^ y) (z2 (fun x y => x <<< (y &&& 31)) 1 x4) (-1)))) (i3Z (fun x y => x &&& y) (rfl : i3 x2 = i3 x2) (i3Z (fun x y => x ^^^ y) (i3Z (fun x y => x <<< (y &&& 31)) (show (1 : Int32) = i3 1 from rfl) (rfl : i3 x4 = i3 x4)) (show (-1 : Int32) = i3 (-1) from rfl))) (by omega) (by omega) (by omega))) (zm_rd (Z := Z) (ν := ν) (k := 98) (show ((0 : Nat) : Int) = 0 from rfl) (show ((0 : Nat) : Int) = 0 from rfl) (i3I (y := x4) (rfl : i3 x4 = i3 x4) (by omega) (by omega) (by omega)))))) (zconso (zvo (i3A (rfl : i3 x4 = i3 x4) (show (1 : Int32) = i3 1 from rfl))) (zconso rfl rfl)))))), rfl,  by omega, by omega, by omega, by omega,  hP⟩
/- yX12_tFewest -/
def zl_510_3 (x1 : Int) : Nat → qz_Z → Int → qz_Z × Int
  | 0, Z, x2 => (Z, x2)
  | m + 1, Z, x2 => (if (z2 (fun x y => x <<< (y &&& 31)) 1 (Z 1 0 0 28)) ≤ x2 then (Z, x2) else (zlet2 (zl_510_1 x1 x2 11 Z (-1) 0) (fun y5 y6 => (zlet (zu Z 99 0 0 x2 y5) (fun Z8 => zl_510_3 x1 m Z8 (x2 + 1))))))
theorem sl_510_3 {s : zSM} {Zs Z : qz_Z} {ν : qz_N} (hZ : zM s Z) (hM : s.2 + 0 ≤ 1000000000) (hK : zC [99] Zs Z) {x1 : Int} (gx1 : 10 ≤ x1 ∧ x1 ≤ 99) {x2 : Int} (gx2 : 1 ≤ x2 ∧ x2 ≤ 1024) (hU : zU [] Zs Z) (gr0 : Z 1 0 0 28 ≤ 10) {k : wz_K} {R : wz_R} {L : qz_L} (hL : qz_fg [true, true, true, false, false, false] L = [some (.inr (.inr (some (1, 0, 0)))), some (.inl (i3 x1)), some (.inl (i3 x2)), none, none, none]) {T : qz_Z × Int} (hP : zE T (zl_510_3 x1 ((1024 - x2).toNat + 1) Z x2)) (hk : ∀ (L9 : qz_L) (Z9 : qz_Z) (yx2 : Int), qz_fg [true, false, false, false, false, false] L9 = [some (.inr (.inr (some (1, 0, 0)))), none, none, none, none, none] → zM s Z9 → zC [99] Zs Z9 → zU [] Zs Z9 → (1 ≤ yx2 ∧ yx2 ≤ 1024) → (Z9 1 0 0 28 ≤ 10) → zE T ((Z9, yx2)) → k 0 (L9, [], zm Z9 ν)) : wz_loop qb_510_3 65536 k R (L, [], zm Z ν) := by
  refine wz_lp sb_510_3 (fun m x => ∃ Z : qz_Z, ∃ x2 : Int, qz_fg [true, true, true, false, false, false] x.1 = [some (.inr (.inr (some (1, 0, 0)))), some (.inl (i3 x1)), some (.inl (i3 x2)), none, none, none] ∧ x.2 = ([], zm Z ν) ∧ zM s Z ∧ zC [99] Zs Z ∧ zU [] Zs Z ∧ m = (1024 - x2).toNat ∧ (1 ≤ x2 ∧ x2 ≤ 1024) ∧ (Z 1 0 0 28 ≤ 10) ∧ zE T (zl_510_3 x1 (m + 1) Z x2)) ?_ 65536 ((1024 - x2).toNat) _ (by omega) ⟨Z, x2, hL, rfl, hZ, hK, hU, rfl, gx2, gr0, hP⟩
  clear hP gr0 gx2 hZ hK hU hL
  clear x2
  clear Z
  rintro m ⟨L, st, μ⟩ ⟨Z, x2, hL, hx, hZ, hK, hU, hm, gx2, gr0, hP⟩
  cases hx
  refine fb_510_3 (i3 x1) (i3 x2) _ _ _ _ hL ?_
  have r1 := zM_k hZ 1 0 0 28 (lo := 0) (hi := 60) (by decide) rfl
  have r2 := z2_r (fun x y => x <<< (y &&& 31)) 1 (Z 1 0 0 28)
  have r3 := z2_shl10 (n := (Z 1 0 0 28)) (by omega) (by omega)
  refine wz_br (i3Le (i3Z (fun x y => x <<< (y &&& 31)) (show (1 : Int32) = i3 1 from rfl) (zm_rd (Z := Z) (ν := ν) (k := 1) (show ((0 : Nat) : Int) = 0 from rfl) (show ((0 : Nat) : Int) = 0 from rfl) (show ((28 : Nat) : Int) = 28 from rfl))) (rfl : i3 x2 = i3 x2) (by omega) (by omega) (by omega) (by omega)) (fun h4 => ?_) (fun h4 => ?_)
  · replace hP := zE_p hP h4
    exact hk _ _ _ (zconso rfl (zconso rfl (zconso rfl (zconso rfl (zconso rfl (zconso rfl rfl)))))) hZ hK hU (by omega) (by omega) hP
  · replace hP := zE_n hP h4
    refine sl_510_1 (ν := ν) hZ (zbh (c := 0) (k := 0) hM (Nat.le_of_ble_eq_true rfl)) (x1 := x1) (by omega) (x2 := x2) (by omega) (x3 := (-1)) (by omega) (x4 := 0) (by omega) (by omega) (zconso rfl (zconso (zvo (rfl : i3 x1 = i3 x1)) (zconso (zvo (rfl : i3 x2 = i3 x2)) (zconso (zvo (show (-1 : Int32) = i3 (-1) from rfl)) (zconso (zvo (show (0 : Int32) = i3 0 from rfl)) (zconso rfl rfl)))))) rfl ?_
    intro L7 y5 y6 hL7 gy5 gy6 gL7_0 q9
    replace hP := zl_e2 hP (Eq.symm q9)
    clear q9
    refine fc_510_2 (i3 x1) (i3 x2) (i3 y5) _ _ _ _ hL7 ?_
    refine wz_i0 (i3O (n := 1024) (rfl : i3 x2 = i3 x2) (by omega) (by omega) (by omega)) ?_
    obtain ⟨Z8, hZ8⟩ := zx (zu Z 99 0 0 x2 y5)
    replace hP := zl_e hP hZ8
    have hZ8I := zM_u hZ hZ8 (lo := -2147483648) (hi := 2147483647) (by decide) rfl (by omega) ⟨by decide, by decide⟩ (Or.inl (by decide)) rfl
    have hZ8U : zU [] Zs Z8 := zU_u hU hZ8 (Or.inl rfl)
    have hZ8K : zC [99] Zs Z8 := zC_u hK hZ8 rfl
    intro μ9 e9
    replace e9 := e9.trans (zm_wI (Z := Z) (ν := ν) hZ8 (show ((0 : Nat) : Int) = 0 from rfl) (show ((0 : Nat) : Int) = 0 from rfl) (i3I (y := x2) (rfl : i3 x2 = i3 x2) (by omega) (by omega) (by omega)) (rfl : i3 y5 = i3 y5))
    subst e9
    have r9 := zM_k hZ8I 1 0 0 28 (lo := 0) (hi := 60) (by decide) rfl
    have q10 := zu_ne (k' := 1) (b' := 0) (i' := 0) (j' := 28) hZ8 (fun q => absurd q.1 (by decide))
    obtain ⟨m2, rfl⟩ : ∃ m2, m = m2 + 1 := ⟨m - 1, by omega⟩
    refine wz_kbs (n := 1) (?_)
    exact wz_k1 ⟨m2, by omega, Z8, (x2 + 1), (zconso rfl (zconso (zvo (rfl : i3 x1 = i3 x1)) (zconso (zvo (i3A (rfl : i3 x2 = i3 x2) (show (1 : Int32) = i3 1 from rfl))) (zconso rfl (zconso rfl (zconso rfl rfl)))))), rfl, hZ8I, hZ8K, hZ8U, by omega, by omega, by omega,  hP⟩
/- yX12_tFewest -/
def zf_510 (Z : qz_Z) (a1 : Int) : qz_Z × Int := (zlet (zu Z 99 0 0 0 0) (fun Z2 => (zlet2 (zl_510_3 a1 1024 Z2 1) (fun Z4 y3 => (Z4, (z2 (fun x y => x / y) (Z4 99 0 0 ((-1) + (z2 (fun x y => x <<< (y &&& 31)) 1 (Z4 1 0 0 28)))) 128))))))
theorem sp_510 {s : zSM} {Z : qz_Z} {ν : qz_N} (hZ : zM s Z) {a1 : Int} (ga1 : 10 ≤ a1 ∧ a1 ≤ 99) (gx0 : Z 1 0 0 28 ≤ 10) (hM : s.2 + 0 ≤ 1000000000) : ∃ (Z1 : qz_Z) (P : Int), (Z1, P) = zf_510 Z a1 ∧ (qf_510 [.inr (.inr (some (1, 0, 0))), .inl (i3 a1)] (zm Z ν) = some (zm Z1 ν, .inl (some (.inl (i3 P)))) ∧ zM s Z1 ∧ zC [99] Z Z1 ∧ zU [] Z Z1 ∧ -2147483648 ≤ P ∧ P ≤ 2147483647) := by
  obtain ⟨P, hP⟩ := zx (zf_510 Z a1)
  refine zc_W (Q := fun Z1 P => zM s Z1 ∧ zC [99] Z Z1 ∧ zU [] Z Z1 ∧ -2147483648 ≤ P ∧ P ≤ 2147483647) hP (fw_510 (i3 a1) _ _ ?_)
  replace hP : zE P (zf_510 Z a1) := hP
  unfold zf_510 at hP
  have r1 := zM_k hZ 1 0 0 28 (lo := 0) (hi := 60) (by decide) rfl
  obtain ⟨Z2, hZ2⟩ := zx (zu Z 99 0 0 0 0)
  replace hP := zl_e hP hZ2
  have hZ2I := zM_0 hZ hZ2 (by decide) (Or.inl (by decide))
  have hZ2U : zU [] Z Z2 := zU_u zU_r hZ2 (Or.inl rfl)
  have hZ2K : zC [99] Z Z2 := zC_u zC_r hZ2 (by decide)
  intro μ9 e9
  replace e9 := e9.trans (zm_wI (Z := Z) (ν := ν) hZ2 (show ((0 : Nat) : Int) = 0 from rfl) (show ((0 : Nat) : Int) = 0 from rfl) (show ((0 : Nat) : Int) = 0 from rfl) (show (0 : Int32) = i3 0 from rfl))
  subst e9
  have r5 := zM_k hZ2I 1 0 0 28 (lo := 0) (hi := 60) (by decide) rfl
  have q6 := zu_ne (k' := 1) (b' := 0) (i' := 0) (j' := 28) hZ2 (fun q => absurd q.1 (by decide))
  refine sl_510_3 (ν := ν) hZ2I (zbh (c := 0) (k := 0) hM (Nat.le_of_ble_eq_true rfl)) zC_r (x1 := a1) (by omega) (x2 := 1) (by omega) zU_r (by omega) (zconso rfl (zconso (zvo (rfl : i3 a1 = i3 a1)) (zconso (zvo (show (1 : Int32) = i3 1 from rfl)) (zconso rfl (zconso rfl (zconso rfl rfl)))))) rfl ?_
  intro L7 Z4 y3 hL7 hZ4I kZ4 jZ4 gy3 gL7_0 q9
  replace hP := zl_e2 hP (Eq.symm q9)
  clear q9
  have hZ4U : zU [] Z Z4 := zU_t hZ2U jZ4 zU_b0
  have hZ4K : zC [99] Z Z4 := zC_t hZ2K kZ4 (by decide)
  have r8 := zM_k hZ4I 1 0 0 28 (lo := 0) (hi := 60) (by decide) rfl
  have q9 := kZ4 1 0 0 28 (by decide)
  refine fc_510_4  _ _ _ _ hL7 ?_
  have r10 := z2_r (fun x y => x <<< (y &&& 31)) 1 (Z4 1 0 0 28)
  have r11 := z2_shl10 (n := (Z4 1 0 0 28)) (by omega) (by omega)
  refine wz_i0 (i3O (n := 1024) (i3S (i3Z (fun x y => x <<< (y &&& 31)) (show (1 : Int32) = i3 1 from rfl) (zm_rd (Z := Z4) (ν := ν) (k := 1) (show ((0 : Nat) : Int) = 0 from rfl) (show ((0 : Nat) : Int) = 0 from rfl) (show ((28 : Nat) : Int) = 28 from rfl))) (show (1 : Int32) = i3 1 from rfl)) (by omega) (by omega) (by omega)) ?_
  have r12 := zM_f hZ4I 99 0 0 ((-1) + (z2 (fun x y => x <<< (y &&& 31)) 1 (Z4 1 0 0 28)))
  have r13 := z2_r (fun x y => x / y) (Z4 99 0 0 ((-1) + (z2 (fun x y => x <<< (y &&& 31)) 1 (Z4 1 0 0 28)))) 128
  exact zlW hP (i3Z (fun x y => x / y) (zm_rd (Z := Z4) (ν := ν) (k := 99) (show ((0 : Nat) : Int) = 0 from rfl) (show ((0 : Nat) : Int) = 0 from rfl) (i3I (y := ((-1) + (z2 (fun x y => x <<< (y &&& 31)) 1 (Z4 1 0 0 28)))) (i3S (i3Z (fun x y => x <<< (y &&& 31)) (show (1 : Int32) = i3 1 from rfl) (zm_rd (Z := Z4) (ν := ν) (k := 1) (show ((0 : Nat) : Int) = 0 from rfl) (show ((0 : Nat) : Int) = 0 from rfl) (show ((28 : Nat) : Int) = 28 from rfl))) (show (1 : Int32) = i3 1 from rfl)) (by omega) (by omega) (by omega))) (show (128 : Int32) = i3 128 from rfl)) ⟨hZ4I, hZ4K, hZ4U, by omega, by omega⟩
/- yX12_tLayParts -/
def zl_517_1 (x1 : Int) : Nat → qz_Z → Int → qz_Z × Int
  | 0, Z, x2 => (Z, x2)
  | m + 1, Z, x2 => (if (Z 2 0 0 2000) ≤ x2 then (Z, x2) else (if (Z 2 0 0 (2019 + 16 * x2)) ≠ 0 then zl_517_1 x1 m Z (x2 + 1) else (if x1 = 5 then (zlet (zu Z 98 0 0 (Z 1 0 0 28) (Z 2 0 0 (2013 + 16 * x2))) (fun Z10 => (zlet (zu Z10 1 0 0 28 ((Z10 1 0 0 28) + 1)) (fun Z13 => zl_517_1 x1 m Z13 (x2 + 1))))) else (if (Z 2 0 0 (1410 + 12 * (Z 2 0 0 (2011 + 16 * x2)))) ≠ x1 then zl_517_1 x1 m Z (x2 + 1) else (zlet (zu Z 98 0 0 (Z 1 0 0 28) (Z 2 0 0 (2013 + 16 * x2))) (fun Z21 => (zlet (zu Z21 1 0 0 28 ((Z21 1 0 0 28) + 1)) (fun Z24 => zl_517_1 x1 m Z24 (x2 + 1)))))))))
theorem sl_517_1 {s : zSM} {Zs Z : qz_Z} {ν : qz_N} (hZ : zM s Z) (hM : s.2 + 0 ≤ 1000000000) (hK : zC [1, 98] Zs Z) {x1 : Int} (gx1 : 0 ≤ x1 ∧ x1 ≤ 5) {x2 : Int} (gx2 : 0 ≤ x2 ∧ x2 ≤ 60) (hU : zU [] Zs Z) (gr0 : Z 1 0 0 28 ≤ x2) {k : wz_K} {R : wz_R} {L : qz_L} (hL : qz_fg [true, true, true] L = [some (.inr (.inr (some (1, 0, 0)))), some (.inl (i3 x1)), some (.inl (i3 x2))]) {T : qz_Z × Int} (hP : zE T (zl_517_1 x1 ((60 - x2).toNat + 1) Z x2)) (hk : ∀ (L9 : qz_L) (Z9 : qz_Z) (yx2 : Int), qz_fg [false, false, false] L9 = [none, none, none] → zM s Z9 → zC [1, 98] Zs Z9 → zU [] Zs Z9 → (0 ≤ yx2 ∧ yx2 ≤ 60) → (Z9 1 0 0 28 ≤ yx2) → zE T ((Z9, yx2)) → k 0 (L9, [], zm Z9 ν)) : wz_loop qb_517_1 65536 k R (L, [], zm Z ν) := by
  refine wz_lp sb_517_1 (fun m x => ∃ Z : qz_Z, ∃ x2 : Int, qz_fg [true, true, true] x.1 = [some (.inr (.inr (some (1, 0, 0)))), some (.inl (i3 x1)), some (.inl (i3 x2))] ∧ x.2 = ([], zm Z ν) ∧ zM s Z ∧ zC [1, 98] Zs Z ∧ zU [] Zs Z ∧ m = (60 - x2).toNat ∧ (0 ≤ x2 ∧ x2 ≤ 60) ∧ (Z 1 0 0 28 ≤ x2) ∧ zE T (zl_517_1 x1 (m + 1) Z x2)) ?_ 65536 ((60 - x2).toNat) _ (by omega) ⟨Z, x2, hL, rfl, hZ, hK, hU, rfl, gx2, gr0, hP⟩
  clear hP gr0 gx2 hZ hK hU hL
  clear x2
  clear Z
  rintro m ⟨L, st, μ⟩ ⟨Z, x2, hL, hx, hZ, hK, hU, hm, gx2, gr0, hP⟩
  cases hx
  refine fb_517_1 (i3 x1) (i3 x2) _ _ _ _ hL ?_
  have r1 := zM_k hZ 1 0 0 28 (lo := 0) (hi := 60) (by decide) rfl
  have r2 := zM_k hZ 2 0 0 2000 (lo := 0) (hi := 60) (by decide) rfl
  refine wz_br (i3Le (zm_rd (Z := Z) (ν := ν) (k := 2) (show ((0 : Nat) : Int) = 0 from rfl) (show ((0 : Nat) : Int) = 0 from rfl) (show ((2000 : Nat) : Int) = 2000 from rfl)) (rfl : i3 x2 = i3 x2) (by omega) (by omega) (by omega) (by omega)) (fun h3 => ?_) (fun h3 => ?_)
  · replace hP := zE_p hP h3
    exact hk _ _ _ (zconso rfl (zconso rfl (zconso rfl rfl))) hZ hK hU (by omega) (by omega) hP
  · replace hP := zE_n hP h3
    refine wz_i0 (i3O (n := 4400) (i3A (i3A (show (2010 : Int32) = i3 2010 from rfl) (i3M (show (16 : Int32) = i3 16 from rfl) (rfl : i3 x2 = i3 x2))) (show (9 : Int32) = i3 9 from rfl)) (by omega) (by omega) (by omega)) ?_
    have r4 := zM_k hZ 2 0 0 (2019 + 16 * x2) (lo := 0) (hi := 3) (by decide) (zs_2010_9 (x := x2) (by omega) (by omega) (by omega))
    have r5 := zM_lt2 hZ x2
    refine wz_br (i3NE (zm_rd (Z := Z) (ν := ν) (k := 2) (show ((0 : Nat) : Int) = 0 from rfl) (show ((0 : Nat) : Int) = 0 from rfl) (i3I (y := (2019 + 16 * x2)) (i3A (i3A (show (2010 : Int32) = i3 2010 from rfl) (i3M (show (16 : Int32) = i3 16 from rfl) (rfl : i3 x2 = i3 x2))) (show (9 : Int32) = i3 9 from rfl)) (by omega) (by omega) (by omega))) (show (0 : Int32) = i3 0 from rfl) (by omega) (by omega) (by omega) (by omega)) (fun h6 => ?_) (fun h6 => ?_)
    · replace hP := zE_p hP h6
      obtain ⟨m2, rfl⟩ : ∃ m2, m = m2 + 1 := ⟨m - 1, by omega⟩
      exact wz_k1 ⟨m2, by omega, Z, (x2 + 1), (zconso rfl (zconso (zvo (rfl : i3 x1 = i3 x1)) (zconso (zvo (i3A (rfl : i3 x2 = i3 x2) (show (1 : Int32) = i3 1 from rfl))) rfl))), rfl, hZ, hK, hU, by omega, by omega, by omega,  hP⟩
    · replace hP := zE_n hP h6
      refine wz_br (i3E (rfl : i3 x1 = i3 x1) (show (5 : Int32) = i3 5 from rfl) (by omega) (by omega) (by omega) (by omega)) (fun h7 => ?_) (fun h7 => ?_)
      · replace hP := zE_p hP h7
        refine wz_i0 (i3O (n := 4400) (i3A (i3A (show (2010 : Int32) = i3 2010 from rfl) (i3M (show (16 : Int32) = i3 16 from rfl) (rfl : i3 x2 = i3 x2))) (show (3 : Int32) = i3 3 from rfl)) (by omega) (by omega) (by omega)) ?_
        refine wz_i0 (i3O (n := 60) (zm_rd (Z := Z) (ν := ν) (k := 1) (show ((0 : Nat) : Int) = 0 from rfl) (show ((0 : Nat) : Int) = 0 from rfl) (show ((28 : Nat) : Int) = 28 from rfl)) (by omega) (by omega) (by omega)) ?_
        have r8 := zM_k hZ 2 0 0 (2013 + 16 * x2) (lo := 0) (hi := 40) (by decide) (zs_2010_3 (x := x2) (by omega) (by omega) (by omega))
        have r9 := zM_cr hZ x2
        obtain ⟨Z10, hZ10⟩ := zx (zu Z 98 0 0 (Z 1 0 0 28) (Z 2 0 0 (2013 + 16 * x2)))
        replace hP := zl_e hP hZ10
        have hZ10I := zM_u hZ hZ10 (lo := 0) (hi := 40) (by decide) rfl (by omega) ⟨by decide, by decide⟩ (Or.inl (by decide)) rfl
        have hZ10U : zU [] Zs Z10 := zU_u hU hZ10 (Or.inl rfl)
        have hZ10K : zC [1, 98] Zs Z10 := zC_u hK hZ10 rfl
        intro μ9 e9
        replace e9 := e9.trans (zm_wI (Z := Z) (ν := ν) hZ10 (show ((0 : Nat) : Int) = 0 from rfl) (show ((0 : Nat) : Int) = 0 from rfl) (i3I (y := (Z 1 0 0 28)) (zm_rd (Z := Z) (ν := ν) (k := 1) (show ((0 : Nat) : Int) = 0 from rfl) (show ((0 : Nat) : Int) = 0 from rfl) (show ((28 : Nat) : Int) = 28 from rfl)) (by omega) (by omega) (by omega)) (zm_rd (Z := Z) (ν := ν) (k := 2) (show ((0 : Nat) : Int) = 0 from rfl) (show ((0 : Nat) : Int) = 0 from rfl) (i3I (y := (2013 + 16 * x2)) (i3A (i3A (show (2010 : Int32) = i3 2010 from rfl) (i3M (show (16 : Int32) = i3 16 from rfl) (rfl : i3 x2 = i3 x2))) (show (3 : Int32) = i3 3 from rfl)) (by omega) (by omega) (by omega))))
        subst e9
        have r11 := zM_k hZ10I 1 0 0 28 (lo := 0) (hi := 60) (by decide) rfl
        have q12 := zu_ne (k' := 1) (b' := 0) (i' := 0) (j' := 28) hZ10 (fun q => absurd q.1 (by decide))
        obtain ⟨Z13, hZ13⟩ := zx (zu Z10 1 0 0 28 ((Z10 1 0 0 28) + 1))
        replace hP := zl_e hP hZ13
        have hZ13I := zM_u hZ10I hZ13 (lo := 0) (hi := 60) (by decide) rfl (by omega) ⟨by decide, by decide⟩ (Or.inr (by decide)) rfl
        have hZ13U : zU [] Zs Z13 := zU_u hZ10U hZ13 (Or.inl rfl)
        have hZ13K : zC [1, 98] Zs Z13 := zC_u hZ10K hZ13 (by decide)
        intro μ9 e9
        replace e9 := e9.trans (zm_wI (Z := Z10) (ν := ν) hZ13 (show ((0 : Nat) : Int) = 0 from rfl) (show ((0 : Nat) : Int) = 0 from rfl) (show ((28 : Nat) : Int) = 28 from rfl) (i3A (zm_rd (Z := Z10) (ν := ν) (k := 1) (show ((0 : Nat) : Int) = 0 from rfl) (show ((0 : Nat) : Int) = 0 from rfl) (show ((28 : Nat) : Int) = 28 from rfl)) (show (1 : Int32) = i3 1 from rfl)))
        subst e9
        have r14 := zM_k hZ13I 1 0 0 28 (lo := 0) (hi := 60) (by decide) rfl
        have q15 := zu_at hZ13
        obtain ⟨m2, rfl⟩ : ∃ m2, m = m2 + 1 := ⟨m - 1, by omega⟩
        exact wz_k1 ⟨m2, by omega, Z13, (x2 + 1), (zconso rfl (zconso (zvo (rfl : i3 x1 = i3 x1)) (zconso (zvo (i3A (rfl : i3 x2 = i3 x2) (show (1 : Int32) = i3 1 from rfl))) rfl))), rfl, hZ13I, hZ13K, hZ13U, by omega, by omega, by omega,  hP⟩
      · replace hP := zE_n hP h7
        refine wz_i0 (i3O (n := 4400) (i3A (i3A (show (2010 : Int32) = i3 2010 from rfl) (i3M (show (16 : Int32) = i3 16 from rfl) (rfl : i3 x2 = i3 x2))) (show (1 : Int32) = i3 1 from rfl)) (by omega) (by omega) (by omega)) ?_
        have r16 := zM_k hZ 2 0 0 (2011 + 16 * x2) (lo := 0) (hi := 7) (by decide) (zs_2010_1 (x := x2) (by omega) (by omega) (by omega))
        refine wz_i0 (i3O (n := 4400) (i3A (i3A (show (1410 : Int32) = i3 1410 from rfl) (i3M (show (12 : Int32) = i3 12 from rfl) (zm_rd (Z := Z) (ν := ν) (k := 2) (show ((0 : Nat) : Int) = 0 from rfl) (show ((0 : Nat) : Int) = 0 from rfl) (i3I (y := (2011 + 16 * x2)) (i3A (i3A (show (2010 : Int32) = i3 2010 from rfl) (i3M (show (16 : Int32) = i3 16 from rfl) (rfl : i3 x2 = i3 x2))) (show (1 : Int32) = i3 1 from rfl)) (by omega) (by omega) (by omega))))) (show (0 : Int32) = i3 0 from rfl)) (by omega) (by omega) (by omega)) ?_
        have r17 := zM_k hZ 2 0 0 (1410 + 12 * (Z 2 0 0 (2011 + 16 * x2))) (lo := 0) (hi := 4) (by decide) (zs_1410_0 (x := (Z 2 0 0 (2011 + 16 * x2))) (by omega) (by omega) (by omega))
        refine wz_br (i3NE (zm_rd (Z := Z) (ν := ν) (k := 2) (show ((0 : Nat) : Int) = 0 from rfl) (show ((0 : Nat) : Int) = 0 from rfl) (i3I (y := (1410 + 12 * (Z 2 0 0 (2011 + 16 * x2)))) (i3A (i3A (show (1410 : Int32) = i3 1410 from rfl) (i3M (show (12 : Int32) = i3 12 from rfl) (zm_rd (Z := Z) (ν := ν) (k := 2) (show ((0 : Nat) : Int) = 0 from rfl) (show ((0 : Nat) : Int) = 0 from rfl) (i3I (y := (2011 + 16 * x2)) (i3A (i3A (show (2010 : Int32) = i3 2010 from rfl) (i3M (show (16 : Int32) = i3 16 from rfl) (rfl : i3 x2 = i3 x2))) (show (1 : Int32) = i3 1 from rfl)) (by omega) (by omega) (by omega))))) (show (0 : Int32) = i3 0 from rfl)) (by omega) (by omega) (by omega))) (rfl : i3 x1 = i3 x1) (by omega) (by omega) (by omega) (by omega)) (fun h18 => ?_) (fun h18 => ?_)
        · replace hP := zE_p hP h18
          obtain ⟨m2, rfl⟩ : ∃ m2, m = m2 + 1 := ⟨m - 1, by omega⟩
          exact wz_k1 ⟨m2, by omega, Z, (x2 + 1), (zconso rfl (zconso (zvo (rfl : i3 x1 = i3 x1)) (zconso (zvo (i3A (rfl : i3 x2 = i3 x2) (show (1 : Int32) = i3 1 from rfl))) rfl))), rfl, hZ, hK, hU, by omega, by omega, by omega,  hP⟩
        · replace hP := zE_n hP h18
          refine wz_i0 (i3O (n := 4400) (i3A (i3A (show (2010 : Int32) = i3 2010 from rfl) (i3M (show (16 : Int32) = i3 16 from rfl) (rfl : i3 x2 = i3 x2))) (show (3 : Int32) = i3 3 from rfl)) (by omega) (by omega) (by omega)) ?_
          refine wz_i0 (i3O (n := 60) (zm_rd (Z := Z) (ν := ν) (k := 1) (show ((0 : Nat) : Int) = 0 from rfl) (show ((0 : Nat) : Int) = 0 from rfl) (show ((28 : Nat) : Int) = 28 from rfl)) (by omega) (by omega) (by omega)) ?_
          have r19 := zM_k hZ 2 0 0 (2013 + 16 * x2) (lo := 0) (hi := 40) (by decide) (zs_2010_3 (x := x2) (by omega) (by omega) (by omega))
          have r20 := zM_cr hZ x2
          obtain ⟨Z21, hZ21⟩ := zx (zu Z 98 0 0 (Z 1 0 0 28) (Z 2 0 0 (2013 + 16 * x2)))
          replace hP := zl_e hP hZ21
          have hZ21I := zM_u hZ hZ21 (lo := 0) (hi := 40) (by decide) rfl (by omega) ⟨by decide, by decide⟩ (Or.inl (by decide)) rfl
          have hZ21U : zU [] Zs Z21 := zU_u hU hZ21 (Or.inl rfl)
          have hZ21K : zC [1, 98] Zs Z21 := zC_u hK hZ21 rfl
          intro μ9 e9
          replace e9 := e9.trans (zm_wI (Z := Z) (ν := ν) hZ21 (show ((0 : Nat) : Int) = 0 from rfl) (show ((0 : Nat) : Int) = 0 from rfl) (i3I (y := (Z 1 0 0 28)) (zm_rd (Z := Z) (ν := ν) (k := 1) (show ((0 : Nat) : Int) = 0 from rfl) (show ((0 : Nat) : Int) = 0 from rfl) (show ((28 : Nat) : Int) = 28 from rfl)) (by omega) (by omega) (by omega)) (zm_rd (Z := Z) (ν := ν) (k := 2) (show ((0 : Nat) : Int) = 0 from rfl) (show ((0 : Nat) : Int) = 0 from rfl) (i3I (y := (2013 + 16 * x2)) (i3A (i3A (show (2010 : Int32) = i3 2010 from rfl) (i3M (show (16 : Int32) = i3 16 from rfl) (rfl : i3 x2 = i3 x2))) (show (3 : Int32) = i3 3 from rfl)) (by omega) (by omega) (by omega))))
          subst e9
          have r22 := zM_k hZ21I 1 0 0 28 (lo := 0) (hi := 60) (by decide) rfl
          have q23 := zu_ne (k' := 1) (b' := 0) (i' := 0) (j' := 28) hZ21 (fun q => absurd q.1 (by decide))
          obtain ⟨Z24, hZ24⟩ := zx (zu Z21 1 0 0 28 ((Z21 1 0 0 28) + 1))
          replace hP := zl_e hP hZ24
          have hZ24I := zM_u hZ21I hZ24 (lo := 0) (hi := 60) (by decide) rfl (by omega) ⟨by decide, by decide⟩ (Or.inr (by decide)) rfl
          have hZ24U : zU [] Zs Z24 := zU_u hZ21U hZ24 (Or.inl rfl)
          have hZ24K : zC [1, 98] Zs Z24 := zC_u hZ21K hZ24 (by decide)
          intro μ9 e9
          replace e9 := e9.trans (zm_wI (Z := Z21) (ν := ν) hZ24 (show ((0 : Nat) : Int) = 0 from rfl) (show ((0 : Nat) : Int) = 0 from rfl) (show ((28 : Nat) : Int) = 28 from rfl) (i3A (zm_rd (Z := Z21) (ν := ν) (k := 1) (show ((0 : Nat) : Int) = 0 from rfl) (show ((0 : Nat) : Int) = 0 from rfl) (show ((28 : Nat) : Int) = 28 from rfl)) (show (1 : Int32) = i3 1 from rfl)))
          subst e9
          have r25 := zM_k hZ24I 1 0 0 28 (lo := 0) (hi := 60) (by decide) rfl
          have q26 := zu_at hZ24
          obtain ⟨m2, rfl⟩ : ∃ m2, m = m2 + 1 := ⟨m - 1, by omega⟩
          exact wz_k1 ⟨m2, by omega, Z24, (x2 + 1), (zconso rfl (zconso (zvo (rfl : i3 x1 = i3 x1)) (zconso (zvo (i3A (rfl : i3 x2 = i3 x2) (show (1 : Int32) = i3 1 from rfl))) rfl))), rfl, hZ24I, hZ24K, hZ24U, by omega, by omega, by omega,  hP⟩
/- yX12_tLayParts -/
def zf_517 (Z : qz_Z) (a1 : Int) : qz_Z := (zlet (zu Z 1 0 0 28 0) (fun Z1 => (zlet2 (zl_517_1 a1 61 Z1 0) (fun Z3 y2 => Z3))))
theorem sp_517 {s : zSM} {Z : qz_Z} {ν : qz_N} (hZ : zM s Z) {a1 : Int} (ga1 : 0 ≤ a1 ∧ a1 ≤ 5) (hM : s.2 + 0 ≤ 1000000000) : ∃ P : qz_Z, P = zf_517 Z a1 ∧ (qf_517 [.inr (.inr (some (1, 0, 0))), .inl (i3 a1)] (zm Z ν) = some (zm P ν, .inl none) ∧ zM s P ∧ zC [1, 98] Z P ∧ zU [] Z P) := by
  obtain ⟨P, hP⟩ := zx (zf_517 Z a1)
  refine zc_V (Q := fun P => zM s P ∧ zC [1, 98] Z P ∧ zU [] Z P) hP (fw_517 (i3 a1) _ _ ?_)
  replace hP : zE P (zf_517 Z a1) := hP
  unfold zf_517 at hP
  obtain ⟨Z1, hZ1⟩ := zx (zu Z 1 0 0 28 0)
  replace hP := zl_e hP hZ1
  have hZ1I := zM_0 hZ hZ1 (by decide) (Or.inr (by decide))
  have hZ1U : zU [] Z Z1 := zU_u zU_r hZ1 (Or.inl rfl)
  have hZ1K : zC [1, 98] Z Z1 := zC_u zC_r hZ1 (by decide)
  intro μ9 e9
  replace e9 := e9.trans (zm_wI (Z := Z) (ν := ν) hZ1 (show ((0 : Nat) : Int) = 0 from rfl) (show ((0 : Nat) : Int) = 0 from rfl) (show ((28 : Nat) : Int) = 28 from rfl) (show (0 : Int32) = i3 0 from rfl))
  subst e9
  have r4 := zM_k hZ1I 1 0 0 28 (lo := 0) (hi := 60) (by decide) rfl
  have q5 := zu_at hZ1
  refine sl_517_1 (ν := ν) hZ1I (zbh (c := 0) (k := 0) hM (Nat.le_of_ble_eq_true rfl)) zC_r (x1 := a1) (by omega) (x2 := 0) (by omega) zU_r (by omega) (zconso rfl (zconso (zvo (rfl : i3 a1 = i3 a1)) (zconso (zvo (show (0 : Int32) = i3 0 from rfl)) rfl))) rfl ?_
  intro L6 Z3 y2 hL6 hZ3I kZ3 jZ3 gy2 gL6_0 q9
  replace hP := zl_e2 hP (Eq.symm q9)
  clear q9
  have hZ3U : zU [] Z Z3 := zU_t hZ1U jZ3 zU_b0
  have hZ3K : zC [1, 98] Z Z3 := zC_t hZ1K kZ3 (by decide)
  have r7 := zM_k hZ3I 1 0 0 28 (lo := 0) (hi := 60) (by decide) rfl
  refine fc_517_2  _ _ _ _ hL6 ?_
  exact zlV hP ⟨hZ3I, hZ3K, hZ3U⟩
/- yX12_fewest -/
def zy_341 (Z : qz_Z) (a1 : Int) (a2 : Int) : qz_Z × Int := (if a2 < 0 then (zlet (zu Z 1 0 0 2 1) (fun Z5 => (Z5, 0))) else (if 5 < a2 then (zlet (zu Z 1 0 0 2 1) (fun Z7 => (Z7, 0))) else (zlet (zu Z 1 0 0 2 0) (fun Z8 => (if a1 < 10 then (zlet (zu Z8 1 0 0 2 2) (fun Z10 => (Z10, 0))) else (if 99 < a1 then (zlet (zu Z8 1 0 0 2 2) (fun Z12 => (Z12, 0))) else (zlet (zu Z8 1 0 0 2 0) (fun Z13 => (zlet (zf_517 Z13 a2) (fun Z14 => (zlet (zf_258 Z14 a1) (fun v15 => (if v15 = 0 then (zlet (zu Z14 1 0 0 2 3) (fun Z19 => (Z19, 0))) else (zlet (zu Z14 1 0 0 2 0) (fun Z20 => (zlet2 (zf_510 Z20 a1) (fun Z23 v24 => (Z23, v24))))))))))))))))))
theorem sy_341 {s : zSM} {Z : qz_Z} {ν : qz_N} (hZ : zM s Z) (gq : Z 1 0 0 35 = 0) (hM : s.2 + 0 ≤ 1000000000) {a1 : Int} (ga1 : -2147483648 ≤ a1 ∧ a1 ≤ 2147483647) {a2 : Int} (ga2 : -2147483648 ≤ a2 ∧ a2 ≤ 2147483647) {ν1 : qz_N} : ∃ (Z1 : qz_Z) (ν2 : qz_N) (v : Int), (Z1, v) = zy_341 Z a1 a2 ∧ (ν2 = ν ∨ ν2 = ν1) ∧ qf_341 [.inr (.inr (some (1, 0, 0))), .inl (i3 a1), .inl (i3 a2)] (zm Z ν) = some (zm Z1 ν2, .inl (some (.inl (i3 v)))) ∧ (fun Z1 => zM s Z1 ∧ zC [1, 98, 99] Z Z1 ∧ zU [] Z Z1) Z1 := by
  obtain ⟨P, hP⟩ := zx (zy_341 Z a1 a2)
  refine zc_Y (Q := fun Z1 => zM s Z1 ∧ zC [1, 98, 99] Z Z1 ∧ zU [] Z Z1) hP (fw_341 (i3 a1) (i3 a2) _ _ ?_)
  replace hP : zE P (zy_341 Z a1 a2) := hP
  unfold zy_341 at hP
  have r1 := zM_k hZ 1 0 0 35 (lo := 0) (hi := 1) (by decide) rfl
  have r2 := zM_k hZ 1 0 0 34 (lo := 0) (hi := 8) (by decide) rfl
  have r3 := zM_f hZ 1 0 0 37
  refine wz_br (i3L (rfl : i3 a2 = i3 a2) (show (0 : Int32) = i3 0 from rfl) (by omega) (by omega) (by omega) (by omega)) (fun h4 => ?_) (fun h4 => ?_)
  · replace hP := zE_p hP h4
    obtain ⟨Z5, hZ5⟩ := zx (zu Z 1 0 0 2 1)
    replace hP := zl_e hP hZ5
    have hZ5I := zM_u hZ hZ5 (lo := -2147483648) (hi := 2147483647) (by decide) rfl (by omega) ⟨by decide, by decide⟩ (Or.inr (by decide)) rfl
    have hZ5U : zU [] Z Z5 := zU_u zU_r hZ5 (Or.inl rfl)
    have hZ5K : zC [1, 98, 99] Z Z5 := zC_u zC_r hZ5 (by decide)
    intro μ9 e9
    replace e9 := e9.trans (zm_wI (Z := Z) (ν := ν) hZ5 (show ((0 : Nat) : Int) = 0 from rfl) (show ((0 : Nat) : Int) = 0 from rfl) (show ((2 : Nat) : Int) = 2 from rfl) (show (1 : Int32) = i3 1 from rfl))
    subst e9
    exact zlY hP (show (0 : Int32) = i3 0 from rfl) (.inl rfl) ⟨hZ5I, hZ5K, hZ5U⟩
  · replace hP := zE_n hP h4
    refine wz_br (i3L (show (5 : Int32) = i3 5 from rfl) (rfl : i3 a2 = i3 a2) (by omega) (by omega) (by omega) (by omega)) (fun h6 => ?_) (fun h6 => ?_)
    · replace hP := zE_p hP h6
      obtain ⟨Z7, hZ7⟩ := zx (zu Z 1 0 0 2 1)
      replace hP := zl_e hP hZ7
      have hZ7I := zM_u hZ hZ7 (lo := -2147483648) (hi := 2147483647) (by decide) rfl (by omega) ⟨by decide, by decide⟩ (Or.inr (by decide)) rfl
      have hZ7U : zU [] Z Z7 := zU_u zU_r hZ7 (Or.inl rfl)
      have hZ7K : zC [1, 98, 99] Z Z7 := zC_u zC_r hZ7 (by decide)
      intro μ9 e9
      replace e9 := e9.trans (zm_wI (Z := Z) (ν := ν) hZ7 (show ((0 : Nat) : Int) = 0 from rfl) (show ((0 : Nat) : Int) = 0 from rfl) (show ((2 : Nat) : Int) = 2 from rfl) (show (1 : Int32) = i3 1 from rfl))
      subst e9
      exact zlY hP (show (0 : Int32) = i3 0 from rfl) (.inl rfl) ⟨hZ7I, hZ7K, hZ7U⟩
    · replace hP := zE_n hP h6
      obtain ⟨Z8, hZ8⟩ := zx (zu Z 1 0 0 2 0)
      replace hP := zl_e hP hZ8
      have hZ8I := zM_0 hZ hZ8 (by decide) (Or.inr (by decide))
      have hZ8U : zU [] Z Z8 := zU_u zU_r hZ8 (Or.inl rfl)
      have hZ8K : zC [1, 98, 99] Z Z8 := zC_u zC_r hZ8 (by decide)
      intro μ9 e9
      replace e9 := e9.trans (zm_wI (Z := Z) (ν := ν) hZ8 (show ((0 : Nat) : Int) = 0 from rfl) (show ((0 : Nat) : Int) = 0 from rfl) (show ((2 : Nat) : Int) = 2 from rfl) (show (0 : Int32) = i3 0 from rfl))
      subst e9
      refine wz_br (i3L (rfl : i3 a1 = i3 a1) (show (10 : Int32) = i3 10 from rfl) (by omega) (by omega) (by omega) (by omega)) (fun h9 => ?_) (fun h9 => ?_)
      · replace hP := zE_p hP h9
        obtain ⟨Z10, hZ10⟩ := zx (zu Z8 1 0 0 2 2)
        replace hP := zl_e hP hZ10
        have hZ10I := zM_u hZ8I hZ10 (lo := -2147483648) (hi := 2147483647) (by decide) rfl (by omega) ⟨by decide, by decide⟩ (Or.inr (by decide)) rfl
        have hZ10U : zU [] Z Z10 := zU_u hZ8U hZ10 (Or.inl rfl)
        have hZ10K : zC [1, 98, 99] Z Z10 := zC_u hZ8K hZ10 (by decide)
        intro μ9 e9
        replace e9 := e9.trans (zm_wI (Z := Z8) (ν := ν) hZ10 (show ((0 : Nat) : Int) = 0 from rfl) (show ((0 : Nat) : Int) = 0 from rfl) (show ((2 : Nat) : Int) = 2 from rfl) (show (2 : Int32) = i3 2 from rfl))
        subst e9
        exact zlY hP (show (0 : Int32) = i3 0 from rfl) (.inl rfl) ⟨hZ10I, hZ10K, hZ10U⟩
      · replace hP := zE_n hP h9
        refine wz_br (i3L (show (99 : Int32) = i3 99 from rfl) (rfl : i3 a1 = i3 a1) (by omega) (by omega) (by omega) (by omega)) (fun h11 => ?_) (fun h11 => ?_)
        · replace hP := zE_p hP h11
          obtain ⟨Z12, hZ12⟩ := zx (zu Z8 1 0 0 2 2)
          replace hP := zl_e hP hZ12
          have hZ12I := zM_u hZ8I hZ12 (lo := -2147483648) (hi := 2147483647) (by decide) rfl (by omega) ⟨by decide, by decide⟩ (Or.inr (by decide)) rfl
          have hZ12U : zU [] Z Z12 := zU_u hZ8U hZ12 (Or.inl rfl)
          have hZ12K : zC [1, 98, 99] Z Z12 := zC_u hZ8K hZ12 (by decide)
          intro μ9 e9
          replace e9 := e9.trans (zm_wI (Z := Z8) (ν := ν) hZ12 (show ((0 : Nat) : Int) = 0 from rfl) (show ((0 : Nat) : Int) = 0 from rfl) (show ((2 : Nat) : Int) = 2 from rfl) (show (2 : Int32) = i3 2 from rfl))
          subst e9
          exact zlY hP (show (0 : Int32) = i3 0 from rfl) (.inl rfl) ⟨hZ12I, hZ12K, hZ12U⟩
        · replace hP := zE_n hP h11
          obtain ⟨Z13, hZ13⟩ := zx (zu Z8 1 0 0 2 0)
          replace hP := zl_e hP hZ13
          have hZ13I := zM_0 hZ8I hZ13 (by decide) (Or.inr (by decide))
          have hZ13U : zU [] Z Z13 := zU_u hZ8U hZ13 (Or.inl rfl)
          have hZ13K : zC [1, 98, 99] Z Z13 := zC_u hZ8K hZ13 (by decide)
          intro μ9 e9
          replace e9 := e9.trans (zm_wI (Z := Z8) (ν := ν) hZ13 (show ((0 : Nat) : Int) = 0 from rfl) (show ((0 : Nat) : Int) = 0 from rfl) (show ((2 : Nat) : Int) = 2 from rfl) (show (0 : Int32) = i3 0 from rfl))
          subst e9
          obtain ⟨Z14, hZ14, c9, hZ14I, kZ14, jZ14⟩ := sp_517 (ν := ν) hZ13I (a1 := a2) (by omega) (zbh (c := 0) (k := 0) hM (Nat.le_of_ble_eq_true rfl))
          have hZ14U : zU [] Z Z14 := zU_t hZ13U jZ14 zU_b0
          have hZ14K : zC [1, 98, 99] Z Z14 := zC_t hZ13K kZ14 (by decide)
          replace hP := zl_e hP hZ14
          refine wz_cV_of (zas (zcons rfl (zcons (zvi (rfl : i3 a2 = i3 a2)) rfl)) c9) ?_
          clear c9
          obtain ⟨v15, hv15, c9, lv15, uv15, wv150⟩ := sp_258 (ν := ν) hZ14I (a1 := a1) (by omega) (zbh (c := 0) (k := 0) hM (Nat.le_of_ble_eq_true rfl))
          replace hP := zl_e hP hv15
          refine wz_cI_of (zas (zcons rfl (zcons (zvi (rfl : i3 a1 = i3 a1)) rfl)) c9) ?_
          clear c9
          have r16 := zM_k hZ14I 1 0 0 28 (lo := 0) (hi := 60) (by decide) rfl
          have w17 : v15 = 0 ∨ Z14 1 0 0 28 ≤ 10 := wv150
          refine wz_br (i3E (rfl : i3 v15 = i3 v15) (show (0 : Int32) = i3 0 from rfl) (by omega) (by omega) (by omega) (by omega)) (fun h18 => ?_) (fun h18 => ?_)
          · replace hP := zE_p hP h18
            obtain ⟨Z19, hZ19⟩ := zx (zu Z14 1 0 0 2 3)
            replace hP := zl_e hP hZ19
            have hZ19I := zM_u hZ14I hZ19 (lo := -2147483648) (hi := 2147483647) (by decide) rfl (by omega) ⟨by decide, by decide⟩ (Or.inr (by decide)) rfl
            have hZ19U : zU [] Z Z19 := zU_u hZ14U hZ19 (Or.inl rfl)
            have hZ19K : zC [1, 98, 99] Z Z19 := zC_u hZ14K hZ19 (by decide)
            intro μ9 e9
            replace e9 := e9.trans (zm_wI (Z := Z14) (ν := ν) hZ19 (show ((0 : Nat) : Int) = 0 from rfl) (show ((0 : Nat) : Int) = 0 from rfl) (show ((2 : Nat) : Int) = 2 from rfl) (show (3 : Int32) = i3 3 from rfl))
            subst e9
            refine wz_i0 (Eq.trans (i3NE (rfl : i3 v15 = i3 v15) (show (0 : Int32) = i3 0 from rfl) (by omega) (by omega) (by omega) (by omega)) (decide_eq_false (by omega))) ?_
            exact zlY hP (show (0 : Int32) = i3 0 from rfl) (.inl rfl) ⟨hZ19I, hZ19K, hZ19U⟩
          · replace hP := zE_n hP h18
            obtain ⟨Z20, hZ20⟩ := zx (zu Z14 1 0 0 2 0)
            replace hP := zl_e hP hZ20
            have hZ20I := zM_0 hZ14I hZ20 (by decide) (Or.inr (by decide))
            have hZ20U : zU [] Z Z20 := zU_u hZ14U hZ20 (Or.inl rfl)
            have hZ20K : zC [1, 98, 99] Z Z20 := zC_u hZ14K hZ20 (by decide)
            intro μ9 e9
            replace e9 := e9.trans (zm_wI (Z := Z14) (ν := ν) hZ20 (show ((0 : Nat) : Int) = 0 from rfl) (show ((0 : Nat) : Int) = 0 from rfl) (show ((2 : Nat) : Int) = 2 from rfl) (show (0 : Int32) = i3 0 from rfl))
            subst e9
            refine wz_i1 (Eq.trans (i3NE (rfl : i3 v15 = i3 v15) (show (0 : Int32) = i3 0 from rfl) (by omega) (by omega) (by omega) (by omega)) (decide_eq_true (by omega))) ?_
            have r21 := zM_k hZ20I 1 0 0 28 (lo := 0) (hi := 60) (by decide) rfl
            have q22 := zu_ne (k' := 1) (b' := 0) (i' := 0) (j' := 28) hZ20 (fun q => absurd q.2.2.2 (by decide))
            obtain ⟨Z23, v24, hv24, c9, hZ23I, kZ23, jZ23, lv24, uv24⟩ := sp_510 (ν := ν) hZ20I (a1 := a1) (by omega) (by omega) (zbh (c := 0) (k := 0) hM (Nat.le_of_ble_eq_true rfl))
            have hZ23U : zU [] Z Z23 := zU_t hZ20U jZ23 zU_b0
            have hZ23K : zC [1, 98, 99] Z Z23 := zC_t hZ20K kZ23 (by decide)
            replace hP := zl_e2 hP hv24
            refine wz_cI_of (zas (zcons rfl (zcons (zvi (rfl : i3 a1 = i3 a1)) rfl)) c9) ?_
            clear c9 hv24
            exact zlY hP (rfl : i3 v24 = i3 v24) (.inl rfl) ⟨hZ23I, hZ23K, hZ23U⟩
