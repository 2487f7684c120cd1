/- yX12_put -/
def zy_453 (Z : qz_Z) (dm : qz_Z → Int → Int → Int → Int → Int → Int → Int → qz_Z) (a1 : Int) (a2 : Int) : qz_Z × Int := (if a2 ≠ (-1) then (if a1 < 0 then (zlet (zu Z 1 0 0 2 1) (fun Z6 => (Z6, 0))) else (if ((Z 2 0 0 102) - 1) < a1 then (zlet (zu Z 1 0 0 2 1) (fun Z9 => (Z9, 0))) else (if a2 = (-1) then (zlet (zu Z 1 0 0 2 0) (fun Z11 => (zlet (zf_477 Z11 a1 a2) (fun v12 => (if v12 = 0 then (zlet (zu Z11 1 0 0 2 2) (fun Z14 => (Z14, 0))) else (zlet (zu Z11 1 0 0 2 0) (fun Z15 => (zlet (dm Z15 9 a1 a2 0 0 0 0) (fun Z22 => (zlet (zf_472 Z22 a1 a2) (fun Z27 => (zlet (zf_488 Z27 a2) (fun v28 => (Z27, ((Z27 2 0 0 (1210 + 12 * a2)) - v28))))))))))))))) else (if a2 < 0 then (zlet (zu Z 1 0 0 2 1) (fun Z31 => (Z31, 0))) else (if ((Z 2 0 0 1200) - 1) < a2 then (zlet (zu Z 1 0 0 2 1) (fun Z34 => (Z34, 0))) else (zlet (zu Z 1 0 0 2 0) (fun Z35 => (zlet (zf_477 Z35 a1 a2) (fun v36 => (if v36 = 0 then (zlet (zu Z35 1 0 0 2 2) (fun Z38 => (Z38, 0))) else (zlet (zu Z35 1 0 0 2 0) (fun Z39 => (zlet (dm Z39 9 a1 a2 0 0 0 0) (fun Z46 => (zlet (zf_472 Z46 a1 a2) (fun Z51 => (zlet (zf_488 Z51 a2) (fun v52 => (Z51, ((Z51 2 0 0 (1210 + 12 * a2)) - v52)))))))))))))))))))) else (if a1 < 0 then (zlet (zu Z 1 0 0 2 1) (fun Z55 => (Z55, 0))) else (if ((Z 2 0 0 102) - 1) < a1 then (zlet (zu Z 1 0 0 2 1) (fun Z58 => (Z58, 0))) else (zlet (zu Z 1 0 0 2 0) (fun Z59 => (zlet (zf_477 Z59 a1 6) (fun v60 => (if v60 = 0 then (zlet (zu Z59 1 0 0 2 2) (fun Z62 => (Z62, 0))) else (zlet (zu Z59 1 0 0 2 0) (fun Z63 => (zlet (dm Z63 9 a1 a2 0 0 0 0) (fun Z70 => (zlet (zf_472 Z70 a1 6) (fun Z75 => (zlet (zf_488 Z75 6) (fun v76 => (Z75, (12 - v76))))))))))))))))))
theorem sy_453 {s : zSM} {Z : qz_Z} {ν : qz_N} (hZ : zM s Z) (gq : Z 1 0 0 35 = 0) (hM : s.2 + 2 ≤ 1000000000) {a1 : Int} (ga1 : -2147483648 ≤ a1 ∧ a1 ≤ 2147483647) {a2 : Int} (ga2 : -2147483648 ≤ a2 ∧ a2 ≤ 2147483647) {dk : qz_Z → qz_Z} {dm : qz_Z → Int → Int → Int → Int → Int → Int → Int → qz_Z} {ν1 : qz_N} (hdm : zDm s ν ν1 Z dk dm) : ∃ (Z1 : qz_Z) (ν2 : qz_N) (v : Int), (Z1, v) = zy_453 Z dm a1 a2 ∧ (ν2 = ν ∨ ν2 = ν1) ∧ qf_453 [.inr (.inr (some (1, 0, 0))), .inl (i3 a1), .inl (i3 a2)] (zm Z ν) = some (zm Z1 ν2, .inl (some (.inl (i3 v)))) ∧ (fun Z1 => zM (zb s 2) Z1 ∧ zC [1, 2, 101, 102, 200] Z Z1 ∧ zU [] Z Z1) Z1 := by
  obtain ⟨P, hP⟩ := zx (zy_453 Z dm a1 a2)
  refine zc_Y (Q := fun Z1 => zM (zb s 2) Z1 ∧ zC [1, 2, 101, 102, 200] Z Z1 ∧ zU [] Z Z1) hP (fw_453 (i3 a1) (i3 a2) _ _ ?_)
  replace hP : zE P (zy_453 Z dm a1 a2) := hP
  unfold zy_453 at hP
  have r1 := zM_k hZ 1 0 0 35 (lo := 0) (hi := 1) (by decide) rfl
  have r2 := zM_k hZ 1 0 0 34 (lo := 0) (hi := 8) (by decide) rfl
  have r3 := zM_f hZ 1 0 0 37
  refine wz_br (i3NE (rfl : i3 a2 = i3 a2) (show (-1 : Int32) = i3 (-1) from rfl) (by omega) (by omega) (by omega) (by omega)) (fun h4 => ?_) (fun h4 => ?_)
  · replace hP := zE_p hP h4
    refine wz_br (i3L (rfl : i3 a1 = i3 a1) (show (0 : Int32) = i3 0 from rfl) (by omega) (by omega) (by omega) (by omega)) (fun h5 => ?_) (fun h5 => ?_)
    · replace hP := zE_p hP h5
      obtain ⟨Z6, hZ6⟩ := zx (zu Z 1 0 0 2 1)
      replace hP := zl_e hP hZ6
      have hZ6I := zM_u hZ hZ6 (lo := -2147483648) (hi := 2147483647) (by decide) rfl (by omega) ⟨by decide, by decide⟩ (Or.inr (by decide)) rfl
      have hZ6U : zU [] Z Z6 := zU_u zU_r hZ6 (Or.inl rfl)
      have hZ6K : zC [1, 2, 101, 102, 200] Z Z6 := zC_u zC_r hZ6 (by decide)
      intro μ9 e9
      replace e9 := e9.trans (zm_wI (Z := Z) (ν := ν) hZ6 (show ((0 : Nat) : Int) = 0 from rfl) (show ((0 : Nat) : Int) = 0 from rfl) (show ((2 : Nat) : Int) = 2 from rfl) (show (1 : Int32) = i3 1 from rfl))
      subst e9
      exact zlY hP (show (0 : Int32) = i3 0 from rfl) (.inl rfl) ⟨(zmw (a := 0) (c := 2) hZ6I (Nat.le_of_ble_eq_true rfl)), hZ6K, hZ6U⟩
    · replace hP := zE_n hP h5
      have r7 := zM_k hZ 2 0 0 102 (lo := 0) (hi := 48) (by decide) rfl
      refine wz_br (i3L (i3S (zm_rd (Z := Z) (ν := ν) (k := 2) (show ((0 : Nat) : Int) = 0 from rfl) (show ((0 : Nat) : Int) = 0 from rfl) (show ((102 : Nat) : Int) = 102 from rfl)) (show (1 : Int32) = i3 1 from rfl)) (rfl : i3 a1 = i3 a1) (by omega) (by omega) (by omega) (by omega)) (fun h8 => ?_) (fun h8 => ?_)
      · replace hP := zE_p hP h8
        obtain ⟨Z9, hZ9⟩ := zx (zu Z 1 0 0 2 1)
        replace hP := zl_e hP hZ9
        have hZ9I := zM_u hZ hZ9 (lo := -2147483648) (hi := 2147483647) (by decide) rfl (by omega) ⟨by decide, by decide⟩ (Or.inr (by decide)) rfl
        have hZ9U : zU [] Z Z9 := zU_u zU_r hZ9 (Or.inl rfl)
        have hZ9K : zC [1, 2, 101, 102, 200] Z Z9 := zC_u zC_r hZ9 (by decide)
        intro μ9 e9
        replace e9 := e9.trans (zm_wI (Z := Z) (ν := ν) hZ9 (show ((0 : Nat) : Int) = 0 from rfl) (show ((0 : Nat) : Int) = 0 from rfl) (show ((2 : Nat) : Int) = 2 from rfl) (show (1 : Int32) = i3 1 from rfl))
        subst e9
        exact zlY hP (show (0 : Int32) = i3 0 from rfl) (.inl rfl) ⟨(zmw (a := 0) (c := 2) hZ9I (Nat.le_of_ble_eq_true rfl)), hZ9K, hZ9U⟩
      · replace hP := zE_n hP h8
        refine wz_br (i3E (rfl : i3 a2 = i3 a2) (show (-1 : Int32) = i3 (-1) from rfl) (by omega) (by omega) (by omega) (by omega)) (fun h10 => ?_) (fun h10 => ?_)
        · replace hP := zE_p hP h10
          obtain ⟨Z11, hZ11⟩ := zx (zu Z 1 0 0 2 0)
          replace hP := zl_e hP hZ11
          have hZ11I := zM_0 hZ hZ11 (by decide) (Or.inr (by decide))
          have hZ11U : zU [] Z Z11 := zU_u zU_r hZ11 (Or.inl rfl)
          have hZ11K : zC [1, 2, 101, 102, 200] Z Z11 := zC_u zC_r hZ11 (by decide)
          intro μ9 e9
          replace e9 := e9.trans (zm_wI (Z := Z) (ν := ν) hZ11 (show ((0 : Nat) : Int) = 0 from rfl) (show ((0 : Nat) : Int) = 0 from rfl) (show ((2 : Nat) : Int) = 2 from rfl) (show (0 : Int32) = i3 0 from rfl))
          subst e9
          obtain ⟨v12, hv12, c9, lv12, uv12⟩ := sp_477 (ν := ν) hZ11I (a1 := a1) (by omega) (a2 := a2) (by omega) (zbh (c := 0) (k := 0) hM (Nat.le_of_ble_eq_true rfl))
          replace hP := zl_e hP hv12
          refine wz_cI_of (zas (zcons rfl (zcons (zvi (rfl : i3 a1 = i3 a1)) (zcons (zvi (rfl : i3 a2 = i3 a2)) rfl))) c9) ?_
          clear c9
          refine wz_br (i3E (rfl : i3 v12 = i3 v12) (show (0 : Int32) = i3 0 from rfl) (by omega) (by omega) (by omega) (by omega)) (fun h13 => ?_) (fun h13 => ?_)
          · replace hP := zE_p hP h13
            obtain ⟨Z14, hZ14⟩ := zx (zu Z11 1 0 0 2 2)
            replace hP := zl_e hP hZ14
            have hZ14I := zM_u hZ11I hZ14 (lo := -2147483648) (hi := 2147483647) (by decide) rfl (by omega) ⟨by decide, by decide⟩ (Or.inr (by decide)) rfl
            have hZ14U : zU [] Z Z14 := zU_u hZ11U hZ14 (Or.inl rfl)
            have hZ14K : zC [1, 2, 101, 102, 200] Z Z14 := zC_u hZ11K hZ14 (by decide)
            intro μ9 e9
            replace e9 := e9.trans (zm_wI (Z := Z11) (ν := ν) hZ14 (show ((0 : Nat) : Int) = 0 from rfl) (show ((0 : Nat) : Int) = 0 from rfl) (show ((2 : Nat) : Int) = 2 from rfl) (show (2 : Int32) = i3 2 from rfl))
            subst e9
            refine wz_i0 (Eq.trans (i3NE (rfl : i3 v12 = i3 v12) (show (0 : Int32) = i3 0 from rfl) (by omega) (by omega) (by omega) (by omega)) (decide_eq_false (by omega))) ?_
            exact zlY hP (show (0 : Int32) = i3 0 from rfl) (.inl rfl) ⟨(zmw (a := 0) (c := 2) hZ14I (Nat.le_of_ble_eq_true rfl)), hZ14K, hZ14U⟩
          · replace hP := zE_n hP h13
            obtain ⟨Z15, hZ15⟩ := zx (zu Z11 1 0 0 2 0)
            replace hP := zl_e hP hZ15
            have hZ15I := zM_0 hZ11I hZ15 (by decide) (Or.inr (by decide))
            have hZ15U : zU [] Z Z15 := zU_u hZ11U hZ15 (Or.inl rfl)
            have hZ15K : zC [1, 2, 101, 102, 200] Z Z15 := zC_u hZ11K hZ15 (by decide)
            intro μ9 e9
            replace e9 := e9.trans (zm_wI (Z := Z11) (ν := ν) hZ15 (show ((0 : Nat) : Int) = 0 from rfl) (show ((0 : Nat) : Int) = 0 from rfl) (show ((2 : Nat) : Int) = 2 from rfl) (show (0 : Int32) = i3 0 from rfl))
            subst e9
            refine wz_i1 (Eq.trans (i3NE (rfl : i3 v12 = i3 v12) (show (0 : Int32) = i3 0 from rfl) (by omega) (by omega) (by omega) (by omega)) (decide_eq_true (by omega))) ?_
            have r16 := zM_k hZ15I 1 0 0 35 (lo := 0) (hi := 1) (by decide) rfl
            have q17 := (zu_ne (k' := 1) (b' := 0) (i' := 0) (j' := 35) hZ15 (fun q => absurd q.2.2.2 (by decide))).trans (zu_ne (k' := 1) (b' := 0) (i' := 0) (j' := 35) hZ11 (fun q => absurd q.2.2.2 (by decide)))
            refine wz_i0 (Eq.trans (i3NE (zm_rd (Z := Z15) (ν := ν) (k := 1) (show ((0 : Nat) : Int) = 0 from rfl) (show ((0 : Nat) : Int) = 0 from rfl) (show ((35 : Nat) : Int) = 35 from rfl)) (show (0 : Int32) = i3 0 from rfl) (by omega) (by omega) (by omega) (by omega)) (decide_eq_false (by omega))) ?_
            have r18 := zM_k hZ15I 1 0 0 34 (lo := 0) (hi := 8) (by decide) rfl
            have q19 := (zu_ne (k' := 1) (b' := 0) (i' := 0) (j' := 34) hZ15 (fun q => absurd q.2.2.2 (by decide))).trans (zu_ne (k' := 1) (b' := 0) (i' := 0) (j' := 34) hZ11 (fun q => absurd q.2.2.2 (by decide)))
            have r20 := zM_f hZ15I 1 0 0 37
            have q21 := (zu_ne (k' := 1) (b' := 0) (i' := 0) (j' := 37) hZ15 (fun q => absurd q.2.2.2 (by decide))).trans (zu_ne (k' := 1) (b' := 0) (i' := 0) (j' := 37) hZ11 (fun q => absurd q.2.2.2 (by decide)))
            obtain ⟨c8, c9, hZ22I, dZ22⟩ := hdm Z15 9 a1 a2 0 0 0 0 hZ15I (by omega) (by omega) (by omega) (by omega) (by omega) (by omega) (by omega) (by omega) (by omega) (by omega)
            obtain ⟨Z22, hZ22⟩ := zx (dm Z15 9 a1 a2 0 0 0 0)
            rw [← hZ22] at c9 hZ22I dZ22
            replace hP := zl_e hP hZ22
            refine wz_cV_of (zas (zcons rfl (zcons (zvi (show (-1 : Int32) = i3 (-1) from rfl)) rfl)) c8) ?_
            refine wz_cV_of (zas (zcons rfl (zcons (zvi (show (9 : Int32) = i3 9 from rfl)) (zcons (zvi (rfl : i3 a1 = i3 a1)) (zcons (zvi (rfl : i3 a2 = i3 a2)) (zcons (zvi (show (0 : Int32) = i3 0 from rfl)) (zcons (zvi (show (0 : Int32) = i3 0 from rfl)) (zcons (zvi (show (0 : Int32) = i3 0 from rfl)) (zcons (zvi (show (0 : Int32) = i3 0 from rfl)) rfl)))))))) c9) ?_
            clear c8 c9
            have hZ22K : zC [1, 2, 101, 102, 200] Z Z22 := zC_t hZ15K (zMd_C dZ22) (by decide)
            have hZ22U : zU [] Z Z22 := zU_t hZ15U (zMd_U dZ22) zU_b0
            have r23 := zM_k hZ22I 2 0 0 (210 + 20 * a1) (lo := 0) (hi := 4) (by decide) (zs_200_10 (x := a1) (by omega) (by omega) (by omega))
            have r24 := zM_pl hZ22I a1
            have r25 := zM_k hZ22I 2 0 0 102 (lo := 0) (hi := 48) (by decide) rfl
            have q26 := (dZ22 2 0 0 102 (by simp)).trans ((zu_ne (k' := 2) (b' := 0) (i' := 0) (j' := 102) hZ15 (fun q => absurd q.1 (by decide))).trans (zu_ne (k' := 2) (b' := 0) (i' := 0) (j' := 102) hZ11 (fun q => absurd q.1 (by decide))))
            obtain ⟨Z27, hZ27, c9, hZ27I, kZ27, jZ27⟩ := sp_472 (ν := ν1) hZ22I (a1 := a1) (by omega) (a2 := a2) (by omega) (by omega) (zbh (c := 0) (k := 2) hM (Nat.le_of_ble_eq_true rfl))
            have hZ27U : zU [] Z Z27 := zU_t hZ22U jZ27 zU_b0
            have hZ27K : zC [1, 2, 101, 102, 200] Z Z27 := zC_t hZ22K kZ27 (by decide)
            replace hP := zl_e hP hZ27
            refine wz_cV_of (zas (zcons rfl (zcons (zvi (rfl : i3 a1 = i3 a1)) (zcons (zvi (rfl : i3 a2 = i3 a2)) rfl))) c9) ?_
            clear c9
            refine wz_i1 (Eq.trans (i3NE (rfl : i3 a2 = i3 a2) (show (6 : Int32) = i3 6 from rfl) (by omega) (by omega) (by omega) (by omega)) (decide_eq_true (by omega))) ?_
            refine wz_i0 (i3O (n := 4400) (i3A (i3A (show (1210 : Int32) = i3 1210 from rfl) (i3M (show (12 : Int32) = i3 12 from rfl) (rfl : i3 a2 = i3 a2))) (show (0 : Int32) = i3 0 from rfl)) (by omega) (by omega) (by omega)) ?_
            obtain ⟨v28, hv28, c9, lv28, uv28⟩ := sp_488 (ν := ν1) hZ27I (a1 := a2) (by omega) (zbh (c := 2) (k := 0) hM (Nat.le_of_ble_eq_true rfl))
            replace hP := zl_e hP hv28
            refine wz_cI_of (zas (zcons rfl (zcons (zvi (rfl : i3 a2 = i3 a2)) rfl)) c9) ?_
            clear c9
            have r29 := zM_k hZ27I 2 0 0 (1210 + 12 * a2) (lo := 0) (hi := 12) (by decide) (zs_1210_0 (x := a2) (by omega) (by omega) (by omega))
            exact zlY hP (i3S (zm_rd (Z := Z27) (ν := ν1) (k := 2) (show ((0 : Nat) : Int) = 0 from rfl) (show ((0 : Nat) : Int) = 0 from rfl) (i3I (y := (1210 + 12 * a2)) (i3A (i3A (show (1210 : Int32) = i3 1210 from rfl) (i3M (show (12 : Int32) = i3 12 from rfl) (rfl : i3 a2 = i3 a2))) (show (0 : Int32) = i3 0 from rfl)) (by omega) (by omega) (by omega))) (rfl : i3 v28 = i3 v28)) (.inr rfl) ⟨hZ27I, hZ27K, hZ27U⟩
        · replace hP := zE_n hP h10
          refine wz_br (i3L (rfl : i3 a2 = i3 a2) (show (0 : Int32) = i3 0 from rfl) (by omega) (by omega) (by omega) (by omega)) (fun h30 => ?_) (fun h30 => ?_)
          · replace hP := zE_p hP h30
            obtain ⟨Z31, hZ31⟩ := zx (zu Z 1 0 0 2 1)
            replace hP := zl_e hP hZ31
            have hZ31I := zM_u hZ hZ31 (lo := -2147483648) (hi := 2147483647) (by decide) rfl (by omega) ⟨by decide, by decide⟩ (Or.inr (by decide)) rfl
            have hZ31U : zU [] Z Z31 := zU_u zU_r hZ31 (Or.inl rfl)
            have hZ31K : zC [1, 2, 101, 102, 200] Z Z31 := zC_u zC_r hZ31 (by decide)
            intro μ9 e9
            replace e9 := e9.trans (zm_wI (Z := Z) (ν := ν) hZ31 (show ((0 : Nat) : Int) = 0 from rfl) (show ((0 : Nat) : Int) = 0 from rfl) (show ((2 : Nat) : Int) = 2 from rfl) (show (1 : Int32) = i3 1 from rfl))
            subst e9
            exact zlY hP (show (0 : Int32) = i3 0 from rfl) (.inl rfl) ⟨(zmw (a := 0) (c := 2) hZ31I (Nat.le_of_ble_eq_true rfl)), hZ31K, hZ31U⟩
          · replace hP := zE_n hP h30
            have r32 := zM_k hZ 2 0 0 1200 (lo := 0) (hi := 6) (by decide) rfl
            refine wz_br (i3L (i3S (zm_rd (Z := Z) (ν := ν) (k := 2) (show ((0 : Nat) : Int) = 0 from rfl) (show ((0 : Nat) : Int) = 0 from rfl) (show ((1200 : Nat) : Int) = 1200 from rfl)) (show (1 : Int32) = i3 1 from rfl)) (rfl : i3 a2 = i3 a2) (by omega) (by omega) (by omega) (by omega)) (fun h33 => ?_) (fun h33 => ?_)
            · replace hP := zE_p hP h33
              obtain ⟨Z34, hZ34⟩ := zx (zu Z 1 0 0 2 1)
              replace hP := zl_e hP hZ34
              have hZ34I := zM_u hZ hZ34 (lo := -2147483648) (hi := 2147483647) (by decide) rfl (by omega) ⟨by decide, by decide⟩ (Or.inr (by decide)) rfl
              have hZ34U : zU [] Z Z34 := zU_u zU_r hZ34 (Or.inl rfl)
              have hZ34K : zC [1, 2, 101, 102, 200] Z Z34 := zC_u zC_r hZ34 (by decide)
              intro μ9 e9
              replace e9 := e9.trans (zm_wI (Z := Z) (ν := ν) hZ34 (show ((0 : Nat) : Int) = 0 from rfl) (show ((0 : Nat) : Int) = 0 from rfl) (show ((2 : Nat) : Int) = 2 from rfl) (show (1 : Int32) = i3 1 from rfl))
              subst e9
              exact zlY hP (show (0 : Int32) = i3 0 from rfl) (.inl rfl) ⟨(zmw (a := 0) (c := 2) hZ34I (Nat.le_of_ble_eq_true rfl)), hZ34K, hZ34U⟩
            · replace hP := zE_n hP h33
              obtain ⟨Z35, hZ35⟩ := zx (zu Z 1 0 0 2 0)
              replace hP := zl_e hP hZ35
              have hZ35I := zM_0 hZ hZ35 (by decide) (Or.inr (by decide))
              have hZ35U : zU [] Z Z35 := zU_u zU_r hZ35 (Or.inl rfl)
              have hZ35K : zC [1, 2, 101, 102, 200] Z Z35 := zC_u zC_r hZ35 (by decide)
              intro μ9 e9
              replace e9 := e9.trans (zm_wI (Z := Z) (ν := ν) hZ35 (show ((0 : Nat) : Int) = 0 from rfl) (show ((0 : Nat) : Int) = 0 from rfl) (show ((2 : Nat) : Int) = 2 from rfl) (show (0 : Int32) = i3 0 from rfl))
              subst e9
              obtain ⟨v36, hv36, c9, lv36, uv36⟩ := sp_477 (ν := ν) hZ35I (a1 := a1) (by omega) (a2 := a2) (by omega) (zbh (c := 0) (k := 0) hM (Nat.le_of_ble_eq_true rfl))
              replace hP := zl_e hP hv36
              refine wz_cI_of (zas (zcons rfl (zcons (zvi (rfl : i3 a1 = i3 a1)) (zcons (zvi (rfl : i3 a2 = i3 a2)) rfl))) c9) ?_
              clear c9
              refine wz_br (i3E (rfl : i3 v36 = i3 v36) (show (0 : Int32) = i3 0 from rfl) (by omega) (by omega) (by omega) (by omega)) (fun h37 => ?_) (fun h37 => ?_)
              · replace hP := zE_p hP h37
                obtain ⟨Z38, hZ38⟩ := zx (zu Z35 1 0 0 2 2)
                replace hP := zl_e hP hZ38
                have hZ38I := zM_u hZ35I hZ38 (lo := -2147483648) (hi := 2147483647) (by decide) rfl (by omega) ⟨by decide, by decide⟩ (Or.inr (by decide)) rfl
                have hZ38U : zU [] Z Z38 := zU_u hZ35U hZ38 (Or.inl rfl)
                have hZ38K : zC [1, 2, 101, 102, 200] Z Z38 := zC_u hZ35K hZ38 (by decide)
                intro μ9 e9
                replace e9 := e9.trans (zm_wI (Z := Z35) (ν := ν) hZ38 (show ((0 : Nat) : Int) = 0 from rfl) (show ((0 : Nat) : Int) = 0 from rfl) (show ((2 : Nat) : Int) = 2 from rfl) (show (2 : Int32) = i3 2 from rfl))
                subst e9
                refine wz_i0 (Eq.trans (i3NE (rfl : i3 v36 = i3 v36) (show (0 : Int32) = i3 0 from rfl) (by omega) (by omega) (by omega) (by omega)) (decide_eq_false (by omega))) ?_
                exact zlY hP (show (0 : Int32) = i3 0 from rfl) (.inl rfl) ⟨(zmw (a := 0) (c := 2) hZ38I (Nat.le_of_ble_eq_true rfl)), hZ38K, hZ38U⟩
              · replace hP := zE_n hP h37
                obtain ⟨Z39, hZ39⟩ := zx (zu Z35 1 0 0 2 0)
                replace hP := zl_e hP hZ39
                have hZ39I := zM_0 hZ35I hZ39 (by decide) (Or.inr (by decide))
                have hZ39U : zU [] Z Z39 := zU_u hZ35U hZ39 (Or.inl rfl)
                have hZ39K : zC [1, 2, 101, 102, 200] Z Z39 := zC_u hZ35K hZ39 (by decide)
                intro μ9 e9
                replace e9 := e9.trans (zm_wI (Z := Z35) (ν := ν) hZ39 (show ((0 : Nat) : Int) = 0 from rfl) (show ((0 : Nat) : Int) = 0 from rfl) (show ((2 : Nat) : Int) = 2 from rfl) (show (0 : Int32) = i3 0 from rfl))
                subst e9
                refine wz_i1 (Eq.trans (i3NE (rfl : i3 v36 = i3 v36) (show (0 : Int32) = i3 0 from rfl) (by omega) (by omega) (by omega) (by omega)) (decide_eq_true (by omega))) ?_
                have r40 := zM_k hZ39I 1 0 0 35 (lo := 0) (hi := 1) (by decide) rfl
                have q41 := (zu_ne (k' := 1) (b' := 0) (i' := 0) (j' := 35) hZ39 (fun q => absurd q.2.2.2 (by decide))).trans (zu_ne (k' := 1) (b' := 0) (i' := 0) (j' := 35) hZ35 (fun q => absurd q.2.2.2 (by decide)))
                refine wz_i0 (Eq.trans (i3NE (zm_rd (Z := Z39) (ν := ν) (k := 1) (show ((0 : Nat) : Int) = 0 from rfl) (show ((0 : Nat) : Int) = 0 from rfl) (show ((35 : Nat) : Int) = 35 from rfl)) (show (0 : Int32) = i3 0 from rfl) (by omega) (by omega) (by omega) (by omega)) (decide_eq_false (by omega))) ?_
                have r42 := zM_k hZ39I 1 0 0 34 (lo := 0) (hi := 8) (by decide) rfl
                have q43 := (zu_ne (k' := 1) (b' := 0) (i' := 0) (j' := 34) hZ39 (fun q => absurd q.2.2.2 (by decide))).trans (zu_ne (k' := 1) (b' := 0) (i' := 0) (j' := 34) hZ35 (fun q => absurd q.2.2.2 (by decide)))
                have r44 := zM_f hZ39I 1 0 0 37
                have q45 := (zu_ne (k' := 1) (b' := 0) (i' := 0) (j' := 37) hZ39 (fun q => absurd q.2.2.2 (by decide))).trans (zu_ne (k' := 1) (b' := 0) (i' := 0) (j' := 37) hZ35 (fun q => absurd q.2.2.2 (by decide)))
                obtain ⟨c8, c9, hZ46I, dZ46⟩ := hdm Z39 9 a1 a2 0 0 0 0 hZ39I (by omega) (by omega) (by omega) (by omega) (by omega) (by omega) (by omega) (by omega) (by omega) (by omega)
                obtain ⟨Z46, hZ46⟩ := zx (dm Z39 9 a1 a2 0 0 0 0)
                rw [← hZ46] at c9 hZ46I dZ46
                replace hP := zl_e hP hZ46
                refine wz_cV_of (zas (zcons rfl (zcons (zvi (show (-1 : Int32) = i3 (-1) from rfl)) rfl)) c8) ?_
                refine wz_cV_of (zas (zcons rfl (zcons (zvi (show (9 : Int32) = i3 9 from rfl)) (zcons (zvi (rfl : i3 a1 = i3 a1)) (zcons (zvi (rfl : i3 a2 = i3 a2)) (zcons (zvi (show (0 : Int32) = i3 0 from rfl)) (zcons (zvi (show (0 : Int32) = i3 0 from rfl)) (zcons (zvi (show (0 : Int32) = i3 0 from rfl)) (zcons (zvi (show (0 : Int32) = i3 0 from rfl)) rfl)))))))) c9) ?_
                clear c8 c9
                have hZ46K : zC [1, 2, 101, 102, 200] Z Z46 := zC_t hZ39K (zMd_C dZ46) (by decide)
                have hZ46U : zU [] Z Z46 := zU_t hZ39U (zMd_U dZ46) zU_b0
                have r47 := zM_k hZ46I 2 0 0 (210 + 20 * a1) (lo := 0) (hi := 4) (by decide) (zs_200_10 (x := a1) (by omega) (by omega) (by omega))
                have r48 := zM_pl hZ46I a1
                have r49 := zM_k hZ46I 2 0 0 102 (lo := 0) (hi := 48) (by decide) rfl
                have q50 := (dZ46 2 0 0 102 (by simp)).trans ((zu_ne (k' := 2) (b' := 0) (i' := 0) (j' := 102) hZ39 (fun q => absurd q.1 (by decide))).trans (zu_ne (k' := 2) (b' := 0) (i' := 0) (j' := 102) hZ35 (fun q => absurd q.1 (by decide))))
                obtain ⟨Z51, hZ51, c9, hZ51I, kZ51, jZ51⟩ := sp_472 (ν := ν1) hZ46I (a1 := a1) (by omega) (a2 := a2) (by omega) (by omega) (zbh (c := 0) (k := 2) hM (Nat.le_of_ble_eq_true rfl))
                have hZ51U : zU [] Z Z51 := zU_t hZ46U jZ51 zU_b0
                have hZ51K : zC [1, 2, 101, 102, 200] Z Z51 := zC_t hZ46K kZ51 (by decide)
                replace hP := zl_e hP hZ51
                refine wz_cV_of (zas (zcons rfl (zcons (zvi (rfl : i3 a1 = i3 a1)) (zcons (zvi (rfl : i3 a2 = i3 a2)) rfl))) c9) ?_
                clear c9
                refine wz_i1 (Eq.trans (i3NE (rfl : i3 a2 = i3 a2) (show (6 : Int32) = i3 6 from rfl) (by omega) (by omega) (by omega) (by omega)) (decide_eq_true (by omega))) ?_
                refine wz_i0 (i3O (n := 4400) (i3A (i3A (show (1210 : Int32) = i3 1210 from rfl) (i3M (show (12 : Int32) = i3 12 from rfl) (rfl : i3 a2 = i3 a2))) (show (0 : Int32) = i3 0 from rfl)) (by omega) (by omega) (by omega)) ?_
                obtain ⟨v52, hv52, c9, lv52, uv52⟩ := sp_488 (ν := ν1) hZ51I (a1 := a2) (by omega) (zbh (c := 2) (k := 0) hM (Nat.le_of_ble_eq_true rfl))
                replace hP := zl_e hP hv52
                refine wz_cI_of (zas (zcons rfl (zcons (zvi (rfl : i3 a2 = i3 a2)) rfl)) c9) ?_
                clear c9
                have r53 := zM_k hZ51I 2 0 0 (1210 + 12 * a2) (lo := 0) (hi := 12) (by decide) (zs_1210_0 (x := a2) (by omega) (by omega) (by omega))
                exact zlY hP (i3S (zm_rd (Z := Z51) (ν := ν1) (k := 2) (show ((0 : Nat) : Int) = 0 from rfl) (show ((0 : Nat) : Int) = 0 from rfl) (i3I (y := (1210 + 12 * a2)) (i3A (i3A (show (1210 : Int32) = i3 1210 from rfl) (i3M (show (12 : Int32) = i3 12 from rfl) (rfl : i3 a2 = i3 a2))) (show (0 : Int32) = i3 0 from rfl)) (by omega) (by omega) (by omega))) (rfl : i3 v52 = i3 v52)) (.inr rfl) ⟨hZ51I, hZ51K, hZ51U⟩
  · replace hP := zE_n hP h4
    refine wz_br (i3L (rfl : i3 a1 = i3 a1) (show (0 : Int32) = i3 0 from rfl) (by omega) (by omega) (by omega) (by omega)) (fun h54 => ?_) (fun h54 => ?_)
    · replace hP := zE_p hP h54
      obtain ⟨Z55, hZ55⟩ := zx (zu Z 1 0 0 2 1)
      replace hP := zl_e hP hZ55
      have hZ55I := zM_u hZ hZ55 (lo := -2147483648) (hi := 2147483647) (by decide) rfl (by omega) ⟨by decide, by decide⟩ (Or.inr (by decide)) rfl
      have hZ55U : zU [] Z Z55 := zU_u zU_r hZ55 (Or.inl rfl)
      have hZ55K : zC [1, 2, 101, 102, 200] Z Z55 := zC_u zC_r hZ55 (by decide)
      intro μ9 e9
      replace e9 := e9.trans (zm_wI (Z := Z) (ν := ν) hZ55 (show ((0 : Nat) : Int) = 0 from rfl) (show ((0 : Nat) : Int) = 0 from rfl) (show ((2 : Nat) : Int) = 2 from rfl) (show (1 : Int32) = i3 1 from rfl))
      subst e9
      exact zlY hP (show (0 : Int32) = i3 0 from rfl) (.inl rfl) ⟨(zmw (a := 0) (c := 2) hZ55I (Nat.le_of_ble_eq_true rfl)), hZ55K, hZ55U⟩
    · replace hP := zE_n hP h54
      have r56 := zM_k hZ 2 0 0 102 (lo := 0) (hi := 48) (by decide) rfl
      refine wz_br (i3L (i3S (zm_rd (Z := Z) (ν := ν) (k := 2) (show ((0 : Nat) : Int) = 0 from rfl) (show ((0 : Nat) : Int) = 0 from rfl) (show ((102 : Nat) : Int) = 102 from rfl)) (show (1 : Int32) = i3 1 from rfl)) (rfl : i3 a1 = i3 a1) (by omega) (by omega) (by omega) (by omega)) (fun h57 => ?_) (fun h57 => ?_)
      · replace hP := zE_p hP h57
        obtain ⟨Z58, hZ58⟩ := zx (zu Z 1 0 0 2 1)
        replace hP := zl_e hP hZ58
        have hZ58I := zM_u hZ hZ58 (lo := -2147483648) (hi := 2147483647) (by decide) rfl (by omega) ⟨by decide, by decide⟩ (Or.inr (by decide)) rfl
        have hZ58U : zU [] Z Z58 := zU_u zU_r hZ58 (Or.inl rfl)
        have hZ58K : zC [1, 2, 101, 102, 200] Z Z58 := zC_u zC_r hZ58 (by decide)
        intro μ9 e9
        replace e9 := e9.trans (zm_wI (Z := Z) (ν := ν) hZ58 (show ((0 : Nat) : Int) = 0 from rfl) (show ((0 : Nat) : Int) = 0 from rfl) (show ((2 : Nat) : Int) = 2 from rfl) (show (1 : Int32) = i3 1 from rfl))
        subst e9
        exact zlY hP (show (0 : Int32) = i3 0 from rfl) (.inl rfl) ⟨(zmw (a := 0) (c := 2) hZ58I (Nat.le_of_ble_eq_true rfl)), hZ58K, hZ58U⟩
      · replace hP := zE_n hP h57
        refine wz_i1 (Eq.trans (i3E (rfl : i3 a2 = i3 a2) (show (-1 : Int32) = i3 (-1) from rfl) (by omega) (by omega) (by omega) (by omega)) (decide_eq_true (by omega))) ?_
        obtain ⟨Z59, hZ59⟩ := zx (zu Z 1 0 0 2 0)
        replace hP := zl_e hP hZ59
        have hZ59I := zM_0 hZ hZ59 (by decide) (Or.inr (by decide))
        have hZ59U : zU [] Z Z59 := zU_u zU_r hZ59 (Or.inl rfl)
        have hZ59K : zC [1, 2, 101, 102, 200] Z Z59 := zC_u zC_r hZ59 (by decide)
        intro μ9 e9
        replace e9 := e9.trans (zm_wI (Z := Z) (ν := ν) hZ59 (show ((0 : Nat) : Int) = 0 from rfl) (show ((0 : Nat) : Int) = 0 from rfl) (show ((2 : Nat) : Int) = 2 from rfl) (show (0 : Int32) = i3 0 from rfl))
        subst e9
        obtain ⟨v60, hv60, c9, lv60, uv60⟩ := sp_477 (ν := ν) hZ59I (a1 := a1) (by omega) (a2 := 6) (by omega) (zbh (c := 0) (k := 0) hM (Nat.le_of_ble_eq_true rfl))
        replace hP := zl_e hP hv60
        refine wz_cI_of (zas (zcons rfl (zcons (zvi (rfl : i3 a1 = i3 a1)) (zcons (zvi (show (6 : Int32) = i3 6 from rfl)) rfl))) c9) ?_
        clear c9
        refine wz_br (i3E (rfl : i3 v60 = i3 v60) (show (0 : Int32) = i3 0 from rfl) (by omega) (by omega) (by omega) (by omega)) (fun h61 => ?_) (fun h61 => ?_)
        · replace hP := zE_p hP h61
          obtain ⟨Z62, hZ62⟩ := zx (zu Z59 1 0 0 2 2)
          replace hP := zl_e hP hZ62
          have hZ62I := zM_u hZ59I hZ62 (lo := -2147483648) (hi := 2147483647) (by decide) rfl (by omega) ⟨by decide, by decide⟩ (Or.inr (by decide)) rfl
          have hZ62U : zU [] Z Z62 := zU_u hZ59U hZ62 (Or.inl rfl)
          have hZ62K : zC [1, 2, 101, 102, 200] Z Z62 := zC_u hZ59K hZ62 (by decide)
          intro μ9 e9
          replace e9 := e9.trans (zm_wI (Z := Z59) (ν := ν) hZ62 (show ((0 : Nat) : Int) = 0 from rfl) (show ((0 : Nat) : Int) = 0 from rfl) (show ((2 : Nat) : Int) = 2 from rfl) (show (2 : Int32) = i3 2 from rfl))
          subst e9
          refine wz_i0 (Eq.trans (i3NE (rfl : i3 v60 = i3 v60) (show (0 : Int32) = i3 0 from rfl) (by omega) (by omega) (by omega) (by omega)) (decide_eq_false (by omega))) ?_
          exact zlY hP (show (0 : Int32) = i3 0 from rfl) (.inl rfl) ⟨(zmw (a := 0) (c := 2) hZ62I (Nat.le_of_ble_eq_true rfl)), hZ62K, hZ62U⟩
        · replace hP := zE_n hP h61
          obtain ⟨Z63, hZ63⟩ := zx (zu Z59 1 0 0 2 0)
          replace hP := zl_e hP hZ63
          have hZ63I := zM_0 hZ59I hZ63 (by decide) (Or.inr (by decide))
          have hZ63U : zU [] Z Z63 := zU_u hZ59U hZ63 (Or.inl rfl)
          have hZ63K : zC [1, 2, 101, 102, 200] Z Z63 := zC_u hZ59K hZ63 (by decide)
          intro μ9 e9
          replace e9 := e9.trans (zm_wI (Z := Z59) (ν := ν) hZ63 (show ((0 : Nat) : Int) = 0 from rfl) (show ((0 : Nat) : Int) = 0 from rfl) (show ((2 : Nat) : Int) = 2 from rfl) (show (0 : Int32) = i3 0 from rfl))
          subst e9
          refine wz_i1 (Eq.trans (i3NE (rfl : i3 v60 = i3 v60) (show (0 : Int32) = i3 0 from rfl) (by omega) (by omega) (by omega) (by omega)) (decide_eq_true (by omega))) ?_
          have r64 := zM_k hZ63I 1 0 0 35 (lo := 0) (hi := 1) (by decide) rfl
          have q65 := (zu_ne (k' := 1) (b' := 0) (i' := 0) (j' := 35) hZ63 (fun q => absurd q.2.2.2 (by decide))).trans (zu_ne (k' := 1) (b' := 0) (i' := 0) (j' := 35) hZ59 (fun q => absurd q.2.2.2 (by decide)))
          refine wz_i0 (Eq.trans (i3NE (zm_rd (Z := Z63) (ν := ν) (k := 1) (show ((0 : Nat) : Int) = 0 from rfl) (show ((0 : Nat) : Int) = 0 from rfl) (show ((35 : Nat) : Int) = 35 from rfl)) (show (0 : Int32) = i3 0 from rfl) (by omega) (by omega) (by omega) (by omega)) (decide_eq_false (by omega))) ?_
          have r66 := zM_k hZ63I 1 0 0 34 (lo := 0) (hi := 8) (by decide) rfl
          have q67 := (zu_ne (k' := 1) (b' := 0) (i' := 0) (j' := 34) hZ63 (fun q => absurd q.2.2.2 (by decide))).trans (zu_ne (k' := 1) (b' := 0) (i' := 0) (j' := 34) hZ59 (fun q => absurd q.2.2.2 (by decide)))
          have r68 := zM_f hZ63I 1 0 0 37
          have q69 := (zu_ne (k' := 1) (b' := 0) (i' := 0) (j' := 37) hZ63 (fun q => absurd q.2.2.2 (by decide))).trans (zu_ne (k' := 1) (b' := 0) (i' := 0) (j' := 37) hZ59 (fun q => absurd q.2.2.2 (by decide)))
          obtain ⟨c8, c9, hZ70I, dZ70⟩ := hdm Z63 9 a1 a2 0 0 0 0 hZ63I (by omega) (by omega) (by omega) (by omega) (by omega) (by omega) (by omega) (by omega) (by omega) (by omega)
          obtain ⟨Z70, hZ70⟩ := zx (dm Z63 9 a1 a2 0 0 0 0)
          rw [← hZ70] at c9 hZ70I dZ70
          replace hP := zl_e hP hZ70
          refine wz_cV_of (zas (zcons rfl (zcons (zvi (show (-1 : Int32) = i3 (-1) from rfl)) rfl)) c8) ?_
          refine wz_cV_of (zas (zcons rfl (zcons (zvi (show (9 : Int32) = i3 9 from rfl)) (zcons (zvi (rfl : i3 a1 = i3 a1)) (zcons (zvi (rfl : i3 a2 = i3 a2)) (zcons (zvi (show (0 : Int32) = i3 0 from rfl)) (zcons (zvi (show (0 : Int32) = i3 0 from rfl)) (zcons (zvi (show (0 : Int32) = i3 0 from rfl)) (zcons (zvi (show (0 : Int32) = i3 0 from rfl)) rfl)))))))) c9) ?_
          clear c8 c9
          have hZ70K : zC [1, 2, 101, 102, 200] Z Z70 := zC_t hZ63K (zMd_C dZ70) (by decide)
          have hZ70U : zU [] Z Z70 := zU_t hZ63U (zMd_U dZ70) zU_b0
          have r71 := zM_k hZ70I 2 0 0 (210 + 20 * a1) (lo := 0) (hi := 4) (by decide) (zs_200_10 (x := a1) (by omega) (by omega) (by omega))
          have r72 := zM_pl hZ70I a1
          have r73 := zM_k hZ70I 2 0 0 102 (lo := 0) (hi := 48) (by decide) rfl
          have q74 := (dZ70 2 0 0 102 (by simp)).trans ((zu_ne (k' := 2) (b' := 0) (i' := 0) (j' := 102) hZ63 (fun q => absurd q.1 (by decide))).trans (zu_ne (k' := 2) (b' := 0) (i' := 0) (j' := 102) hZ59 (fun q => absurd q.1 (by decide))))
          obtain ⟨Z75, hZ75, c9, hZ75I, kZ75, jZ75⟩ := sp_472 (ν := ν1) hZ70I (a1 := a1) (by omega) (a2 := 6) (by omega) (by omega) (zbh (c := 0) (k := 2) hM (Nat.le_of_ble_eq_true rfl))
          have hZ75U : zU [] Z Z75 := zU_t hZ70U jZ75 zU_b0
          have hZ75K : zC [1, 2, 101, 102, 200] Z Z75 := zC_t hZ70K kZ75 (by decide)
          replace hP := zl_e hP hZ75
          refine wz_cV_of (zas (zcons rfl (zcons (zvi (rfl : i3 a1 = i3 a1)) (zcons (zvi (show (6 : Int32) = i3 6 from rfl)) rfl))) c9) ?_
          clear c9
          obtain ⟨v76, hv76, c9, lv76, uv76⟩ := sp_488 (ν := ν1) hZ75I (a1 := 6) (by omega) (zbh (c := 2) (k := 0) hM (Nat.le_of_ble_eq_true rfl))
          replace hP := zl_e hP hv76
          refine wz_cI_of (zas (zcons rfl (zcons (zvi (show (6 : Int32) = i3 6 from rfl)) rfl)) c9) ?_
          clear c9
          exact zlY hP (i3S (show (12 : Int32) = i3 12 from rfl) (rfl : i3 v76 = i3 v76)) (.inr rfl) ⟨hZ75I, hZ75K, hZ75U⟩

theorem sq_453 {s : zSM} {Z : qz_Z} {ν : qz_N} (hZ : zM s Z) (gq : Z 1 0 0 35 = 1) (hM : s.2 + 2 ≤ 1000000000) {a1 : Int} (ga1 : -2147483648 ≤ a1 ∧ a1 ≤ 2147483647) {a2 : Int} (ga2 : -2147483648 ≤ a2 ∧ a2 ≤ 2147483647) {ν1 : qz_N} : ∃ (Z1 : qz_Z) (ν2 : qz_N) (v : Int), (Z1, v) = zy_453 Z zq0 a1 a2 ∧ (ν2 = ν ∨ ν2 = ν1) ∧ qf_453 [.inr (.inr (some (1, 0, 0))), .inl (i3 a1), .inl (i3 a2)] (zm Z ν) = some (zm Z1 ν2, .inl (some (.inl (i3 v)))) ∧ (fun Z1 => zM (zb s 2) Z1 ∧ zC [1, 2] Z Z1 ∧ zU [] Z Z1) Z1 := by
  obtain ⟨P, hP⟩ := zx (zy_453 Z zq0 a1 a2)
  refine zc_Y (Q := fun Z1 => zM (zb s 2) Z1 ∧ zC [1, 2] Z Z1 ∧ zU [] Z Z1) hP (fw_453 (i3 a1) (i3 a2) _ _ ?_)
  replace hP : zE P (zy_453 Z zq0 a1 a2) := hP
  unfold zy_453 at hP
  have r1 := zM_k hZ 1 0 0 35 (lo := 0) (hi := 1) (by decide) rfl
  have r2 := zM_k hZ 1 0 0 34 (lo := 0) (hi := 8) (by decide) rfl
  have r3 := zM_f hZ 1 0 0 37
  refine wz_br (i3NE (rfl : i3 a2 = i3 a2) (show (-1 : Int32) = i3 (-1) from rfl) (by omega) (by omega) (by omega) (by omega)) (fun h4 => ?_) (fun h4 => ?_)
  · replace hP := zE_p hP h4
    refine wz_br (i3L (rfl : i3 a1 = i3 a1) (show (0 : Int32) = i3 0 from rfl) (by omega) (by omega) (by omega) (by omega)) (fun h5 => ?_) (fun h5 => ?_)
    · replace hP := zE_p hP h5
      obtain ⟨Z6, hZ6⟩ := zx (zu Z 1 0 0 2 1)
      replace hP := zl_e hP hZ6
      have hZ6I := zM_u hZ hZ6 (lo := -2147483648) (hi := 2147483647) (by decide) rfl (by omega) ⟨by decide, by decide⟩ (Or.inr (by decide)) rfl
      have hZ6U : zU [] Z Z6 := zU_u zU_r hZ6 (Or.inl rfl)
      have hZ6K : zC [1, 2] Z Z6 := zC_u zC_r hZ6 (by decide)
      intro μ9 e9
      replace e9 := e9.trans (zm_wI (Z := Z) (ν := ν) hZ6 (show ((0 : Nat) : Int) = 0 from rfl) (show ((0 : Nat) : Int) = 0 from rfl) (show ((2 : Nat) : Int) = 2 from rfl) (show (1 : Int32) = i3 1 from rfl))
      subst e9
      exact zlY hP (show (0 : Int32) = i3 0 from rfl) (.inl rfl) ⟨(zmw (a := 0) (c := 2) hZ6I (Nat.le_of_ble_eq_true rfl)), hZ6K, hZ6U⟩
    · replace hP := zE_n hP h5
      have r7 := zM_k hZ 2 0 0 102 (lo := 0) (hi := 48) (by decide) rfl
      refine wz_br (i3L (i3S (zm_rd (Z := Z) (ν := ν) (k := 2) (show ((0 : Nat) : Int) = 0 from rfl) (show ((0 : Nat) : Int) = 0 from rfl) (show ((102 : Nat) : Int) = 102 from rfl)) (show (1 : Int32) = i3 1 from rfl)) (rfl : i3 a1 = i3 a1) (by omega) (by omega) (by omega) (by omega)) (fun h8 => ?_) (fun h8 => ?_)
      · replace hP := zE_p hP h8
        obtain ⟨Z9, hZ9⟩ := zx (zu Z 1 0 0 2 1)
        replace hP := zl_e hP hZ9
        have hZ9I := zM_u hZ hZ9 (lo := -2147483648) (hi := 2147483647) (by decide) rfl (by omega) ⟨by decide, by decide⟩ (Or.inr (by decide)) rfl
        have hZ9U : zU [] Z Z9 := zU_u zU_r hZ9 (Or.inl rfl)
        have hZ9K : zC [1, 2] Z Z9 := zC_u zC_r hZ9 (by decide)
        intro μ9 e9
        replace e9 := e9.trans (zm_wI (Z := Z) (ν := ν) hZ9 (show ((0 : Nat) : Int) = 0 from rfl) (show ((0 : Nat) : Int) = 0 from rfl) (show ((2 : Nat) : Int) = 2 from rfl) (show (1 : Int32) = i3 1 from rfl))
        subst e9
        exact zlY hP (show (0 : Int32) = i3 0 from rfl) (.inl rfl) ⟨(zmw (a := 0) (c := 2) hZ9I (Nat.le_of_ble_eq_true rfl)), hZ9K, hZ9U⟩
      · replace hP := zE_n hP h8
        refine wz_br (i3E (rfl : i3 a2 = i3 a2) (show (-1 : Int32) = i3 (-1) from rfl) (by omega) (by omega) (by omega) (by omega)) (fun h10 => ?_) (fun h10 => ?_)
        · replace hP := zE_p hP h10
          obtain ⟨Z11, hZ11⟩ := zx (zu Z 1 0 0 2 0)
          replace hP := zl_e hP hZ11
          have hZ11I := zM_0 hZ hZ11 (by decide) (Or.inr (by decide))
          have hZ11U : zU [] Z Z11 := zU_u zU_r hZ11 (Or.inl rfl)
          have hZ11K : zC [1, 2] Z Z11 := zC_u zC_r hZ11 (by decide)
          intro μ9 e9
          replace e9 := e9.trans (zm_wI (Z := Z) (ν := ν) hZ11 (show ((0 : Nat) : Int) = 0 from rfl) (show ((0 : Nat) : Int) = 0 from rfl) (show ((2 : Nat) : Int) = 2 from rfl) (show (0 : Int32) = i3 0 from rfl))
          subst e9
          obtain ⟨v12, hv12, c9, lv12, uv12⟩ := sp_477 (ν := ν) hZ11I (a1 := a1) (by omega) (a2 := a2) (by omega) (zbh (c := 0) (k := 0) hM (Nat.le_of_ble_eq_true rfl))
          replace hP := zl_e hP hv12
          refine wz_cI_of (zas (zcons rfl (zcons (zvi (rfl : i3 a1 = i3 a1)) (zcons (zvi (rfl : i3 a2 = i3 a2)) rfl))) c9) ?_
          clear c9
          refine wz_br (i3E (rfl : i3 v12 = i3 v12) (show (0 : Int32) = i3 0 from rfl) (by omega) (by omega) (by omega) (by omega)) (fun h13 => ?_) (fun h13 => ?_)
          · replace hP := zE_p hP h13
            obtain ⟨Z14, hZ14⟩ := zx (zu Z11 1 0 0 2 2)
            replace hP := zl_e hP hZ14
            have hZ14I := zM_u hZ11I hZ14 (lo := -2147483648) (hi := 2147483647) (by decide) rfl (by omega) ⟨by decide, by decide⟩ (Or.inr (by decide)) rfl
            have hZ14U : zU [] Z Z14 := zU_u hZ11U hZ14 (Or.inl rfl)
            have hZ14K : zC [1, 2] Z Z14 := zC_u hZ11K hZ14 (by decide)
            intro μ9 e9
            replace e9 := e9.trans (zm_wI (Z := Z11) (ν := ν) hZ14 (show ((0 : Nat) : Int) = 0 from rfl) (show ((0 : Nat) : Int) = 0 from rfl) (show ((2 : Nat) : Int) = 2 from rfl) (show (2 : Int32) = i3 2 from rfl))
            subst e9
            refine wz_i0 (Eq.trans (i3NE (rfl : i3 v12 = i3 v12) (show (0 : Int32) = i3 0 from rfl) (by omega) (by omega) (by omega) (by omega)) (decide_eq_false (by omega))) ?_
            exact zlY hP (show (0 : Int32) = i3 0 from rfl) (.inl rfl) ⟨(zmw (a := 0) (c := 2) hZ14I (Nat.le_of_ble_eq_true rfl)), hZ14K, hZ14U⟩
          · replace hP := zE_n hP h13
            obtain ⟨Z15, hZ15⟩ := zx (zu Z11 1 0 0 2 0)
            replace hP := zl_e hP hZ15
            have hZ15I := zM_0 hZ11I hZ15 (by decide) (Or.inr (by decide))
            have hZ15U : zU [] Z Z15 := zU_u hZ11U hZ15 (Or.inl rfl)
            have hZ15K : zC [1, 2] Z Z15 := zC_u hZ11K hZ15 (by decide)
            intro μ9 e9
            replace e9 := e9.trans (zm_wI (Z := Z11) (ν := ν) hZ15 (show ((0 : Nat) : Int) = 0 from rfl) (show ((0 : Nat) : Int) = 0 from rfl) (show ((2 : Nat) : Int) = 2 from rfl) (show (0 : Int32) = i3 0 from rfl))
            subst e9
            refine wz_i1 (Eq.trans (i3NE (rfl : i3 v12 = i3 v12) (show (0 : Int32) = i3 0 from rfl) (by omega) (by omega) (by omega) (by omega)) (decide_eq_true (by omega))) ?_
            have r16 := zM_k hZ15I 1 0 0 35 (lo := 0) (hi := 1) (by decide) rfl
            have q17 := (zu_ne (k' := 1) (b' := 0) (i' := 0) (j' := 35) hZ15 (fun q => absurd q.2.2.2 (by decide))).trans (zu_ne (k' := 1) (b' := 0) (i' := 0) (j' := 35) hZ11 (fun q => absurd q.2.2.2 (by decide)))
            refine wz_i1 (Eq.trans (i3NE (zm_rd (Z := Z15) (ν := ν) (k := 1) (show ((0 : Nat) : Int) = 0 from rfl) (show ((0 : Nat) : Int) = 0 from rfl) (show ((35 : Nat) : Int) = 35 from rfl)) (show (0 : Int32) = i3 0 from rfl) (by omega) (by omega) (by omega) (by omega)) (decide_eq_true (by omega))) ?_
            replace hP := zl_q hP (rfl : _ = Z15)
            have r18 := zM_k hZ15I 2 0 0 (210 + 20 * a1) (lo := 0) (hi := 4) (by decide) (zs_200_10 (x := a1) (by omega) (by omega) (by omega))
            have r19 := zM_pl hZ15I a1
            have r20 := zM_k hZ15I 2 0 0 102 (lo := 0) (hi := 48) (by decide) rfl
            have q21 := (zu_ne (k' := 2) (b' := 0) (i' := 0) (j' := 102) hZ15 (fun q => absurd q.1 (by decide))).trans (zu_ne (k' := 2) (b' := 0) (i' := 0) (j' := 102) hZ11 (fun q => absurd q.1 (by decide)))
            obtain ⟨Z22, hZ22, c9, hZ22I, kZ22, jZ22⟩ := sp_472 (ν := ν) hZ15I (a1 := a1) (by omega) (a2 := a2) (by omega) (by omega) (zbh (c := 0) (k := 2) hM (Nat.le_of_ble_eq_true rfl))
            have hZ22U : zU [] Z Z22 := zU_t hZ15U jZ22 zU_b0
            have hZ22K : zC [1, 2] Z Z22 := zC_t hZ15K kZ22 (by decide)
            replace hP := zl_e hP hZ22
            refine wz_cV_of (zas (zcons rfl (zcons (zvi (rfl : i3 a1 = i3 a1)) (zcons (zvi (rfl : i3 a2 = i3 a2)) rfl))) c9) ?_
            clear c9
            refine wz_i1 (Eq.trans (i3NE (rfl : i3 a2 = i3 a2) (show (6 : Int32) = i3 6 from rfl) (by omega) (by omega) (by omega) (by omega)) (decide_eq_true (by omega))) ?_
            refine wz_i0 (i3O (n := 4400) (i3A (i3A (show (1210 : Int32) = i3 1210 from rfl) (i3M (show (12 : Int32) = i3 12 from rfl) (rfl : i3 a2 = i3 a2))) (show (0 : Int32) = i3 0 from rfl)) (by omega) (by omega) (by omega)) ?_
            obtain ⟨v23, hv23, c9, lv23, uv23⟩ := sp_488 (ν := ν) hZ22I (a1 := a2) (by omega) (zbh (c := 2) (k := 0) hM (Nat.le_of_ble_eq_true rfl))
            replace hP := zl_e hP hv23
            refine wz_cI_of (zas (zcons rfl (zcons (zvi (rfl : i3 a2 = i3 a2)) rfl)) c9) ?_
            clear c9
            have r24 := zM_k hZ22I 2 0 0 (1210 + 12 * a2) (lo := 0) (hi := 12) (by decide) (zs_1210_0 (x := a2) (by omega) (by omega) (by omega))
            exact zlY hP (i3S (zm_rd (Z := Z22) (ν := ν) (k := 2) (show ((0 : Nat) : Int) = 0 from rfl) (show ((0 : Nat) : Int) = 0 from rfl) (i3I (y := (1210 + 12 * a2)) (i3A (i3A (show (1210 : Int32) = i3 1210 from rfl) (i3M (show (12 : Int32) = i3 12 from rfl) (rfl : i3 a2 = i3 a2))) (show (0 : Int32) = i3 0 from rfl)) (by omega) (by omega) (by omega))) (rfl : i3 v23 = i3 v23)) (.inl rfl) ⟨hZ22I, hZ22K, hZ22U⟩
        · replace hP := zE_n hP h10
          refine wz_br (i3L (rfl : i3 a2 = i3 a2) (show (0 : Int32) = i3 0 from rfl) (by omega) (by omega) (by omega) (by omega)) (fun h25 => ?_) (fun h25 => ?_)
          · replace hP := zE_p hP h25
            obtain ⟨Z26, hZ26⟩ := zx (zu Z 1 0 0 2 1)
            replace hP := zl_e hP hZ26
            have hZ26I := zM_u hZ hZ26 (lo := -2147483648) (hi := 2147483647) (by decide) rfl (by omega) ⟨by decide, by decide⟩ (Or.inr (by decide)) rfl
            have hZ26U : zU [] Z Z26 := zU_u zU_r hZ26 (Or.inl rfl)
            have hZ26K : zC [1, 2] Z Z26 := zC_u zC_r hZ26 (by decide)
            intro μ9 e9
            replace e9 := e9.trans (zm_wI (Z := Z) (ν := ν) hZ26 (show ((0 : Nat) : Int) = 0 from rfl) (show ((0 : Nat) : Int) = 0 from rfl) (show ((2 : Nat) : Int) = 2 from rfl) (show (1 : Int32) = i3 1 from rfl))
            subst e9
            exact zlY hP (show (0 : Int32) = i3 0 from rfl) (.inl rfl) ⟨(zmw (a := 0) (c := 2) hZ26I (Nat.le_of_ble_eq_true rfl)), hZ26K, hZ26U⟩
          · replace hP := zE_n hP h25
            have r27 := zM_k hZ 2 0 0 1200 (lo := 0) (hi := 6) (by decide) rfl
            refine wz_br (i3L (i3S (zm_rd (Z := Z) (ν := ν) (k := 2) (show ((0 : Nat) : Int) = 0 from rfl) (show ((0 : Nat) : Int) = 0 from rfl) (show ((1200 : Nat) : Int) = 1200 from rfl)) (show (1 : Int32) = i3 1 from rfl)) (rfl : i3 a2 = i3 a2) (by omega) (by omega) (by omega) (by omega)) (fun h28 => ?_) (fun h28 => ?_)
            · replace hP := zE_p hP h28
              obtain ⟨Z29, hZ29⟩ := zx (zu Z 1 0 0 2 1)
              replace hP := zl_e hP hZ29
              have hZ29I := zM_u hZ hZ29 (lo := -2147483648) (hi := 2147483647) (by decide) rfl (by omega) ⟨by decide, by decide⟩ (Or.inr (by decide)) rfl
              have hZ29U : zU [] Z Z29 := zU_u zU_r hZ29 (Or.inl rfl)
              have hZ29K : zC [1, 2] Z Z29 := zC_u zC_r hZ29 (by decide)
              intro μ9 e9
              replace e9 := e9.trans (zm_wI (Z := Z) (ν := ν) hZ29 (show ((0 : Nat) : Int) = 0 from rfl) (show ((0 : Nat) : Int) = 0 from rfl) (show ((2 : Nat) : Int) = 2 from rfl) (show (1 : Int32) = i3 1 from rfl))
              subst e9
              exact zlY hP (show (0 : Int32) = i3 0 from rfl) (.inl rfl) ⟨(zmw (a := 0) (c := 2) hZ29I (Nat.le_of_ble_eq_true rfl)), hZ29K, hZ29U⟩
            · replace hP := zE_n hP h28
              obtain ⟨Z30, hZ30⟩ := zx (zu Z 1 0 0 2 0)
              replace hP := zl_e hP hZ30
              have hZ30I := zM_0 hZ hZ30 (by decide) (Or.inr (by decide))
              have hZ30U : zU [] Z Z30 := zU_u zU_r hZ30 (Or.inl rfl)
              have hZ30K : zC [1, 2] Z Z30 := zC_u zC_r hZ30 (by decide)
              intro μ9 e9
              replace e9 := e9.trans (zm_wI (Z := Z) (ν := ν) hZ30 (show ((0 : Nat) : Int) = 0 from rfl) (show ((0 : Nat) : Int) = 0 from rfl) (show ((2 : Nat) : Int) = 2 from rfl) (show (0 : Int32) = i3 0 from rfl))
              subst e9
              obtain ⟨v31, hv31, c9, lv31, uv31⟩ := sp_477 (ν := ν) hZ30I (a1 := a1) (by omega) (a2 := a2) (by omega) (zbh (c := 0) (k := 0) hM (Nat.le_of_ble_eq_true rfl))
              replace hP := zl_e hP hv31
              refine wz_cI_of (zas (zcons rfl (zcons (zvi (rfl : i3 a1 = i3 a1)) (zcons (zvi (rfl : i3 a2 = i3 a2)) rfl))) c9) ?_
              clear c9
              refine wz_br (i3E (rfl : i3 v31 = i3 v31) (show (0 : Int32) = i3 0 from rfl) (by omega) (by omega) (by omega) (by omega)) (fun h32 => ?_) (fun h32 => ?_)
              · replace hP := zE_p hP h32
                obtain ⟨Z33, hZ33⟩ := zx (zu Z30 1 0 0 2 2)
                replace hP := zl_e hP hZ33
                have hZ33I := zM_u hZ30I hZ33 (lo := -2147483648) (hi := 2147483647) (by decide) rfl (by omega) ⟨by decide, by decide⟩ (Or.inr (by decide)) rfl
                have hZ33U : zU [] Z Z33 := zU_u hZ30U hZ33 (Or.inl rfl)
                have hZ33K : zC [1, 2] Z Z33 := zC_u hZ30K hZ33 (by decide)
                intro μ9 e9
                replace e9 := e9.trans (zm_wI (Z := Z30) (ν := ν) hZ33 (show ((0 : Nat) : Int) = 0 from rfl) (show ((0 : Nat) : Int) = 0 from rfl) (show ((2 : Nat) : Int) = 2 from rfl) (show (2 : Int32) = i3 2 from rfl))
                subst e9
                refine wz_i0 (Eq.trans (i3NE (rfl : i3 v31 = i3 v31) (show (0 : Int32) = i3 0 from rfl) (by omega) (by omega) (by omega) (by omega)) (decide_eq_false (by omega))) ?_
                exact zlY hP (show (0 : Int32) = i3 0 from rfl) (.inl rfl) ⟨(zmw (a := 0) (c := 2) hZ33I (Nat.le_of_ble_eq_true rfl)), hZ33K, hZ33U⟩
              · replace hP := zE_n hP h32
                obtain ⟨Z34, hZ34⟩ := zx (zu Z30 1 0 0 2 0)
                replace hP := zl_e hP hZ34
                have hZ34I := zM_0 hZ30I hZ34 (by decide) (Or.inr (by decide))
                have hZ34U : zU [] Z Z34 := zU_u hZ30U hZ34 (Or.inl rfl)
                have hZ34K : zC [1, 2] Z Z34 := zC_u hZ30K hZ34 (by decide)
                intro μ9 e9
                replace e9 := e9.trans (zm_wI (Z := Z30) (ν := ν) hZ34 (show ((0 : Nat) : Int) = 0 from rfl) (show ((0 : Nat) : Int) = 0 from rfl) (show ((2 : Nat) : Int) = 2 from rfl) (show (0 : Int32) = i3 0 from rfl))
                subst e9
                refine wz_i1 (Eq.trans (i3NE (rfl : i3 v31 = i3 v31) (show (0 : Int32) = i3 0 from rfl) (by omega) (by omega) (by omega) (by omega)) (decide_eq_true (by omega))) ?_
                have r35 := zM_k hZ34I 1 0 0 35 (lo := 0) (hi := 1) (by decide) rfl
                have q36 := (zu_ne (k' := 1) (b' := 0) (i' := 0) (j' := 35) hZ34 (fun q => absurd q.2.2.2 (by decide))).trans (zu_ne (k' := 1) (b' := 0) (i' := 0) (j' := 35) hZ30 (fun q => absurd q.2.2.2 (by decide)))
                refine wz_i1 (Eq.trans (i3NE (zm_rd (Z := Z34) (ν := ν) (k := 1) (show ((0 : Nat) : Int) = 0 from rfl) (show ((0 : Nat) : Int) = 0 from rfl) (show ((35 : Nat) : Int) = 35 from rfl)) (show (0 : Int32) = i3 0 from rfl) (by omega) (by omega) (by omega) (by omega)) (decide_eq_true (by omega))) ?_
                replace hP := zl_q hP (rfl : _ = Z34)
                have r37 := zM_k hZ34I 2 0 0 (210 + 20 * a1) (lo := 0) (hi := 4) (by decide) (zs_200_10 (x := a1) (by omega) (by omega) (by omega))
                have r38 := zM_pl hZ34I a1
                have r39 := zM_k hZ34I 2 0 0 102 (lo := 0) (hi := 48) (by decide) rfl
                have q40 := (zu_ne (k' := 2) (b' := 0) (i' := 0) (j' := 102) hZ34 (fun q => absurd q.1 (by decide))).trans (zu_ne (k' := 2) (b' := 0) (i' := 0) (j' := 102) hZ30 (fun q => absurd q.1 (by decide)))
                obtain ⟨Z41, hZ41, c9, hZ41I, kZ41, jZ41⟩ := sp_472 (ν := ν) hZ34I (a1 := a1) (by omega) (a2 := a2) (by omega) (by omega) (zbh (c := 0) (k := 2) hM (Nat.le_of_ble_eq_true rfl))
                have hZ41U : zU [] Z Z41 := zU_t hZ34U jZ41 zU_b0
                have hZ41K : zC [1, 2] Z Z41 := zC_t hZ34K kZ41 (by decide)
                replace hP := zl_e hP hZ41
                refine wz_cV_of (zas (zcons rfl (zcons (zvi (rfl : i3 a1 = i3 a1)) (zcons (zvi (rfl : i3 a2 = i3 a2)) rfl))) c9) ?_
                clear c9
                refine wz_i1 (Eq.trans (i3NE (rfl : i3 a2 = i3 a2) (show (6 : Int32) = i3 6 from rfl) (by omega) (by omega) (by omega) (by omega)) (decide_eq_true (by omega))) ?_
                refine wz_i0 (i3O (n := 4400) (i3A (i3A (show (1210 : Int32) = i3 1210 from rfl) (i3M (show (12 : Int32) = i3 12 from rfl) (rfl : i3 a2 = i3 a2))) (show (0 : Int32) = i3 0 from rfl)) (by omega) (by omega) (by omega)) ?_
                obtain ⟨v42, hv42, c9, lv42, uv42⟩ := sp_488 (ν := ν) hZ41I (a1 := a2) (by omega) (zbh (c := 2) (k := 0) hM (Nat.le_of_ble_eq_true rfl))
                replace hP := zl_e hP hv42
                refine wz_cI_of (zas (zcons rfl (zcons (zvi (rfl : i3 a2 = i3 a2)) rfl)) c9) ?_
                clear c9
                have r43 := zM_k hZ41I 2 0 0 (1210 + 12 * a2) (lo := 0) (hi := 12) (by decide) (zs_1210_0 (x := a2) (by omega) (by omega) (by omega))
                exact zlY hP (i3S (zm_rd (Z := Z41) (ν := ν) (k := 2) (show ((0 : Nat) : Int) = 0 from rfl) (show ((0 : Nat) : Int) = 0 from rfl) (i3I (y := (1210 + 12 * a2)) (i3A (i3A (show (1210 : Int32) = i3 1210 from rfl) (i3M (show (12 : Int32) = i3 12 from rfl) (rfl : i3 a2 = i3 a2))) (show (0 : Int32) = i3 0 from rfl)) (by omega) (by omega) (by omega))) (rfl : i3 v42 = i3 v42)) (.inl rfl) ⟨hZ41I, hZ41K, hZ41U⟩
  · replace hP := zE_n hP h4
    refine wz_br (i3L (rfl : i3 a1 = i3 a1) (show (0 : Int32) = i3 0 from rfl) (by omega) (by omega) (by omega) (by omega)) (fun h44 => ?_) (fun h44 => ?_)
    · replace hP := zE_p hP h44
      obtain ⟨Z45, hZ45⟩ := zx (zu Z 1 0 0 2 1)
      replace hP := zl_e hP hZ45
      have hZ45I := zM_u hZ hZ45 (lo := -2147483648) (hi := 2147483647) (by decide) rfl (by omega) ⟨by decide, by decide⟩ (Or.inr (by decide)) rfl
      have hZ45U : zU [] Z Z45 := zU_u zU_r hZ45 (Or.inl rfl)
      have hZ45K : zC [1, 2] Z Z45 := zC_u zC_r hZ45 (by decide)
      intro μ9 e9
      replace e9 := e9.trans (zm_wI (Z := Z) (ν := ν) hZ45 (show ((0 : Nat) : Int) = 0 from rfl) (show ((0 : Nat) : Int) = 0 from rfl) (show ((2 : Nat) : Int) = 2 from rfl) (show (1 : Int32) = i3 1 from rfl))
      subst e9
      exact zlY hP (show (0 : Int32) = i3 0 from rfl) (.inl rfl) ⟨(zmw (a := 0) (c := 2) hZ45I (Nat.le_of_ble_eq_true rfl)), hZ45K, hZ45U⟩
    · replace hP := zE_n hP h44
      have r46 := zM_k hZ 2 0 0 102 (lo := 0) (hi := 48) (by decide) rfl
      refine wz_br (i3L (i3S (zm_rd (Z := Z) (ν := ν) (k := 2) (show ((0 : Nat) : Int) = 0 from rfl) (show ((0 : Nat) : Int) = 0 from rfl) (show ((102 : Nat) : Int) = 102 from rfl)) (show (1 : Int32) = i3 1 from rfl)) (rfl : i3 a1 = i3 a1) (by omega) (by omega) (by omega) (by omega)) (fun h47 => ?_) (fun h47 => ?_)
      · replace hP := zE_p hP h47
        obtain ⟨Z48, hZ48⟩ := zx (zu Z 1 0 0 2 1)
        replace hP := zl_e hP hZ48
        have hZ48I := zM_u hZ hZ48 (lo := -2147483648) (hi := 2147483647) (by decide) rfl (by omega) ⟨by decide, by decide⟩ (Or.inr (by decide)) rfl
        have hZ48U : zU [] Z Z48 := zU_u zU_r hZ48 (Or.inl rfl)
        have hZ48K : zC [1, 2] Z Z48 := zC_u zC_r hZ48 (by decide)
        intro μ9 e9
        replace e9 := e9.trans (zm_wI (Z := Z) (ν := ν) hZ48 (show ((0 : Nat) : Int) = 0 from rfl) (show ((0 : Nat) : Int) = 0 from rfl) (show ((2 : Nat) : Int) = 2 from rfl) (show (1 : Int32) = i3 1 from rfl))
        subst e9
        exact zlY hP (show (0 : Int32) = i3 0 from rfl) (.inl rfl) ⟨(zmw (a := 0) (c := 2) hZ48I (Nat.le_of_ble_eq_true rfl)), hZ48K, hZ48U⟩
      · replace hP := zE_n hP h47
        refine wz_i1 (Eq.trans (i3E (rfl : i3 a2 = i3 a2) (show (-1 : Int32) = i3 (-1) from rfl) (by omega) (by omega) (by omega) (by omega)) (decide_eq_true (by omega))) ?_
        obtain ⟨Z49, hZ49⟩ := zx (zu Z 1 0 0 2 0)
        replace hP := zl_e hP hZ49
        have hZ49I := zM_0 hZ hZ49 (by decide) (Or.inr (by decide))
        have hZ49U : zU [] Z Z49 := zU_u zU_r hZ49 (Or.inl rfl)
        have hZ49K : zC [1, 2] Z Z49 := zC_u zC_r hZ49 (by decide)
        intro μ9 e9
        replace e9 := e9.trans (zm_wI (Z := Z) (ν := ν) hZ49 (show ((0 : Nat) : Int) = 0 from rfl) (show ((0 : Nat) : Int) = 0 from rfl) (show ((2 : Nat) : Int) = 2 from rfl) (show (0 : Int32) = i3 0 from rfl))
        subst e9
        obtain ⟨v50, hv50, c9, lv50, uv50⟩ := sp_477 (ν := ν) hZ49I (a1 := a1) (by omega) (a2 := 6) (by omega) (zbh (c := 0) (k := 0) hM (Nat.le_of_ble_eq_true rfl))
        replace hP := zl_e hP hv50
        refine wz_cI_of (zas (zcons rfl (zcons (zvi (rfl : i3 a1 = i3 a1)) (zcons (zvi (show (6 : Int32) = i3 6 from rfl)) rfl))) c9) ?_
        clear c9
        refine wz_br (i3E (rfl : i3 v50 = i3 v50) (show (0 : Int32) = i3 0 from rfl) (by omega) (by omega) (by omega) (by omega)) (fun h51 => ?_) (fun h51 => ?_)
        · replace hP := zE_p hP h51
          obtain ⟨Z52, hZ52⟩ := zx (zu Z49 1 0 0 2 2)
          replace hP := zl_e hP hZ52
          have hZ52I := zM_u hZ49I hZ52 (lo := -2147483648) (hi := 2147483647) (by decide) rfl (by omega) ⟨by decide, by decide⟩ (Or.inr (by decide)) rfl
          have hZ52U : zU [] Z Z52 := zU_u hZ49U hZ52 (Or.inl rfl)
          have hZ52K : zC [1, 2] Z Z52 := zC_u hZ49K hZ52 (by decide)
          intro μ9 e9
          replace e9 := e9.trans (zm_wI (Z := Z49) (ν := ν) hZ52 (show ((0 : Nat) : Int) = 0 from rfl) (show ((0 : Nat) : Int) = 0 from rfl) (show ((2 : Nat) : Int) = 2 from rfl) (show (2 : Int32) = i3 2 from rfl))
          subst e9
          refine wz_i0 (Eq.trans (i3NE (rfl : i3 v50 = i3 v50) (show (0 : Int32) = i3 0 from rfl) (by omega) (by omega) (by omega) (by omega)) (decide_eq_false (by omega))) ?_
          exact zlY hP (show (0 : Int32) = i3 0 from rfl) (.inl rfl) ⟨(zmw (a := 0) (c := 2) hZ52I (Nat.le_of_ble_eq_true rfl)), hZ52K, hZ52U⟩
        · replace hP := zE_n hP h51
          obtain ⟨Z53, hZ53⟩ := zx (zu Z49 1 0 0 2 0)
          replace hP := zl_e hP hZ53
          have hZ53I := zM_0 hZ49I hZ53 (by decide) (Or.inr (by decide))
          have hZ53U : zU [] Z Z53 := zU_u hZ49U hZ53 (Or.inl rfl)
          have hZ53K : zC [1, 2] Z Z53 := zC_u hZ49K hZ53 (by decide)
          intro μ9 e9
          replace e9 := e9.trans (zm_wI (Z := Z49) (ν := ν) hZ53 (show ((0 : Nat) : Int) = 0 from rfl) (show ((0 : Nat) : Int) = 0 from rfl) (show ((2 : Nat) : Int) = 2 from rfl) (show (0 : Int32) = i3 0 from rfl))
          subst e9
          refine wz_i1 (Eq.trans (i3NE (rfl : i3 v50 = i3 v50) (show (0 : Int32) = i3 0 from rfl) (by omega) (by omega) (by omega) (by omega)) (decide_eq_true (by omega))) ?_
          have r54 := zM_k hZ53I 1 0 0 35 (lo := 0) (hi := 1) (by decide) rfl
          have q55 := (zu_ne (k' := 1) (b' := 0) (i' := 0) (j' := 35) hZ53 (fun q => absurd q.2.2.2 (by decide))).trans (zu_ne (k' := 1) (b' := 0) (i' := 0) (j' := 35) hZ49 (fun q => absurd q.2.2.2 (by decide)))
          refine wz_i1 (Eq.trans (i3NE (zm_rd (Z := Z53) (ν := ν) (k := 1) (show ((0 : Nat) : Int) = 0 from rfl) (show ((0 : Nat) : Int) = 0 from rfl) (show ((35 : Nat) : Int) = 35 from rfl)) (show (0 : Int32) = i3 0 from rfl) (by omega) (by omega) (by omega) (by omega)) (decide_eq_true (by omega))) ?_
          replace hP := zl_q hP (rfl : _ = Z53)
          have r56 := zM_k hZ53I 2 0 0 (210 + 20 * a1) (lo := 0) (hi := 4) (by decide) (zs_200_10 (x := a1) (by omega) (by omega) (by omega))
          have r57 := zM_pl hZ53I a1
          have r58 := zM_k hZ53I 2 0 0 102 (lo := 0) (hi := 48) (by decide) rfl
          have q59 := (zu_ne (k' := 2) (b' := 0) (i' := 0) (j' := 102) hZ53 (fun q => absurd q.1 (by decide))).trans (zu_ne (k' := 2) (b' := 0) (i' := 0) (j' := 102) hZ49 (fun q => absurd q.1 (by decide)))
          obtain ⟨Z60, hZ60, c9, hZ60I, kZ60, jZ60⟩ := sp_472 (ν := ν) hZ53I (a1 := a1) (by omega) (a2 := 6) (by omega) (by omega) (zbh (c := 0) (k := 2) hM (Nat.le_of_ble_eq_true rfl))
          have hZ60U : zU [] Z Z60 := zU_t hZ53U jZ60 zU_b0
          have hZ60K : zC [1, 2] Z Z60 := zC_t hZ53K kZ60 (by decide)
          replace hP := zl_e hP hZ60
          refine wz_cV_of (zas (zcons rfl (zcons (zvi (rfl : i3 a1 = i3 a1)) (zcons (zvi (show (6 : Int32) = i3 6 from rfl)) rfl))) c9) ?_
          clear c9
          obtain ⟨v61, hv61, c9, lv61, uv61⟩ := sp_488 (ν := ν) hZ60I (a1 := 6) (by omega) (zbh (c := 2) (k := 0) hM (Nat.le_of_ble_eq_true rfl))
          replace hP := zl_e hP hv61
          refine wz_cI_of (zas (zcons rfl (zcons (zvi (show (6 : Int32) = i3 6 from rfl)) rfl)) c9) ?_
          clear c9
          exact zlY hP (i3S (show (12 : Int32) = i3 12 from rfl) (rfl : i3 v61 = i3 v61)) (.inl rfl) ⟨hZ60I, hZ60K, hZ60U⟩
/- yX12_kMayQuarrel -/
def zl_410_1 (x1 : Int) : Nat → qz_Z → Int → Int → Int × Int
  | 0, Z, x2, x3 => (x2, x3)
  | m + 1, Z, x2, x3 => (if (Z 2 0 0 3815) ≤ x3 then (x2, x3) else (if x2 = 0 then zl_410_1 x1 m Z 0 (x3 + 1) else (if (Z 2 0 0 (3850 + 8 * x3)) = x1 then zl_410_1 x1 m Z 0 (x3 + 1) else zl_410_1 x1 m Z 1 (x3 + 1))))
theorem sl_410_1 {s : zSM} {Z : qz_Z} {ν : qz_N} (hZ : zM s Z) (hM : s.2 + 0 ≤ 1000000000) {x1 : Int} (gx1 : 0 ≤ x1 ∧ x1 ≤ 59) {x2 : Int} (gx2 : 0 ≤ x2 ∧ x2 ≤ 1) {x3 : Int} (gx3 : 0 ≤ x3 ∧ x3 ≤ 12) (gr0 : x2 = 0 ∨ Z 2 0 0 3815 ≤ 11) {k : wz_K} {R : wz_R} {L : qz_L} (hL : qz_fg [true, true, true, true] L = [some (.inr (.inr (some (1, 0, 0)))), some (.inl (i3 x1)), some (.inl (i3 x2)), some (.inl (i3 x3))]) {T : Int × Int} (hP : zE T (zl_410_1 x1 ((12 - x3).toNat + 1) Z x2 x3)) (hk : ∀ (L9 : qz_L) (yx2 yx3 : Int), qz_fg [false, false, true, false] L9 = [none, none, some (.inl (i3 yx2)), none] → (0 ≤ yx2 ∧ yx2 ≤ 1) → (0 ≤ yx3 ∧ yx3 ≤ 12) → (yx2 = 0 ∨ Z 2 0 0 3815 ≤ 11) → zE T ((yx2, yx3)) → k 0 (L9, [], zm Z ν)) : wz_loop qb_410_1 65536 k R (L, [], zm Z ν) := by
  refine wz_lp sb_410_1 (fun m x => ∃ x2 : Int, ∃ x3 : Int, qz_fg [true, true, true, true] x.1 = [some (.inr (.inr (some (1, 0, 0)))), some (.inl (i3 x1)), some (.inl (i3 x2)), some (.inl (i3 x3))] ∧ x.2 = ([], zm Z ν) ∧ m = (12 - x3).toNat ∧ (0 ≤ x2 ∧ x2 ≤ 1) ∧ (0 ≤ x3 ∧ x3 ≤ 12) ∧ (x2 = 0 ∨ Z 2 0 0 3815 ≤ 11) ∧ zE T (zl_410_1 x1 (m + 1) Z x2 x3)) ?_ 65536 ((12 - x3).toNat) _ (by omega) ⟨x2, x3, hL, rfl, rfl, gx2, gx3, gr0, hP⟩
  clear hP gr0 gx2 gx3 hL
  clear x2 x3
  rintro m ⟨L, st, μ⟩ ⟨x2, x3, hL, hx, hm, gx2, gx3, gr0, hP⟩
  cases hx
  refine fb_410_1 (i3 x1) (i3 x2) (i3 x3) _ _ _ _ hL ?_
  have r1 := zM_k hZ 2 0 0 3815 (lo := 0) (hi := 12) (by decide) rfl
  refine wz_br (i3Le (zm_rd (Z := Z) (ν := ν) (k := 2) (show ((0 : Nat) : Int) = 0 from rfl) (show ((0 : Nat) : Int) = 0 from rfl) (show ((3815 : Nat) : Int) = 3815 from rfl)) (rfl : i3 x3 = i3 x3) (by omega) (by omega) (by omega) (by omega)) (fun h2 => ?_) (fun h2 => ?_)
  · replace hP := zE_p hP h2
    exact hk _ _ _ (zconso rfl (zconso rfl (zconso (zvo (rfl : i3 x2 = i3 x2)) (zconso rfl rfl))))  (by omega) (by omega) (by omega) hP
  · replace hP := zE_n hP h2
    refine wz_br (i3E (rfl : i3 x2 = i3 x2) (show (0 : Int32) = i3 0 from rfl) (by omega) (by omega) (by omega) (by omega)) (fun h3 => ?_) (fun h3 => ?_)
    · replace hP := zE_p hP h3
      obtain ⟨m2, rfl⟩ : ∃ m2, m = m2 + 1 := ⟨m - 1, by omega⟩
      exact wz_k1 ⟨m2, by omega, 0, (x3 + 1), (zconso rfl (zconso (zvo (rfl : i3 x1 = i3 x1)) (zconso (zvo (show (0 : Int32) = i3 0 from rfl)) (zconso (zvo (i3A (rfl : i3 x3 = i3 x3) (show (1 : Int32) = i3 1 from rfl))) rfl)))), rfl,  by omega, by omega, by omega, by omega,  hP⟩
    · replace hP := zE_n hP h3
      refine wz_i0 (i3O (n := 4400) (i3A (i3A (show (3850 : Int32) = i3 3850 from rfl) (i3M (show (8 : Int32) = i3 8 from rfl) (rfl : i3 x3 = i3 x3))) (show (0 : Int32) = i3 0 from rfl)) (by omega) (by omega) (by omega)) ?_
      have r4 := zM_k hZ 2 0 0 (3850 + 8 * x3) (lo := 0) (hi := 59) (by decide) (zs_3850_0 (x := x3) (by omega) (by omega) (by omega))
      refine wz_br (i3E (zm_rd (Z := Z) (ν := ν) (k := 2) (show ((0 : Nat) : Int) = 0 from rfl) (show ((0 : Nat) : Int) = 0 from rfl) (i3I (y := (3850 + 8 * x3)) (i3A (i3A (show (3850 : Int32) = i3 3850 from rfl) (i3M (show (8 : Int32) = i3 8 from rfl) (rfl : i3 x3 = i3 x3))) (show (0 : Int32) = i3 0 from rfl)) (by omega) (by omega) (by omega))) (rfl : i3 x1 = i3 x1) (by omega) (by omega) (by omega) (by omega)) (fun h5 => ?_) (fun h5 => ?_)
      · replace hP := zE_p hP h5
        obtain ⟨m2, rfl⟩ : ∃ m2, m = m2 + 1 := ⟨m - 1, by omega⟩
        exact wz_k1 ⟨m2, by omega, 0, (x3 + 1), (zconso rfl (zconso (zvo (rfl : i3 x1 = i3 x1)) (zconso (zvo (show (0 : Int32) = i3 0 from rfl)) (zconso (zvo (i3A (rfl : i3 x3 = i3 x3) (show (1 : Int32) = i3 1 from rfl))) rfl)))), rfl,  by omega, by omega, by omega, by omega,  hP⟩
      · replace hP := zE_n hP h5
        obtain ⟨m2, rfl⟩ : ∃ m2, m = m2 + 1 := ⟨m - 1, by omega⟩
        exact wz_k1 ⟨m2, by omega, 1, (x3 + 1), (zconso rfl (zconso (zvo (rfl : i3 x1 = i3 x1)) (zconso (zvo (show (1 : Int32) = i3 1 from rfl)) (zconso (zvo (i3A (rfl : i3 x3 = i3 x3) (show (1 : Int32) = i3 1 from rfl))) rfl)))), rfl,  by omega, by omega, by omega, by omega,  hP⟩
/- yX12_kMayQuarrel -/
def zf_410 (Z : qz_Z) (a1 : Int) : Int := (if (Z 2 0 0 (2019 + 16 * a1)) ≠ 2 then (zlet2 (zl_410_1 a1 13 Z 0 0) (fun y5 y6 => y5)) else (if 48 < ((Z 2 0 0 0) - (Z 2 0 0 (40 + a1))) then (zlet2 (zl_410_1 a1 13 Z 0 0) (fun y11 y12 => y11)) else (if 12 ≤ (Z 2 0 0 3815) then (zlet2 (zl_410_1 a1 13 Z 0 0) (fun y15 y16 => y15)) else (zlet2 (zl_410_1 a1 13 Z 1 0) (fun y18 y19 => y18)))))
theorem sp_410 {s : zSM} {Z : qz_Z} {ν : qz_N} (hZ : zM s Z) {a1 : Int} (ga1 : 0 ≤ a1 ∧ a1 ≤ 59) (hM : s.2 + 0 ≤ 1000000000) : ∃ P : Int, P = zf_410 Z a1 ∧ (qf_410 [.inr (.inr (some (1, 0, 0))), .inl (i3 a1)] (zm Z ν) = some (zm Z ν, .inl (some (.inl (i3 P)))) ∧ 0 ≤ P ∧ P ≤ 1 ∧ (P = 0 ∨ Z 2 0 0 3815 ≤ 11)) := by
  obtain ⟨P, hP⟩ := zx (zf_410 Z a1)
  refine zc_R (Q := fun P => 0 ≤ P ∧ P ≤ 1 ∧ (P = 0 ∨ Z 2 0 0 3815 ≤ 11)) hP (fw_410 (i3 a1) _ _ ?_)
  replace hP : zE P (zf_410 Z a1) := hP
  unfold zf_410 at hP
  have r1 := zM_k hZ 2 0 0 3815 (lo := 0) (hi := 12) (by decide) rfl
  refine wz_i0 (i3O (n := 4400) (i3A (i3A (show (2010 : Int32) = i3 2010 from rfl) (i3M (show (16 : Int32) = i3 16 from rfl) (rfl : i3 a1 = i3 a1))) (show (9 : Int32) = i3 9 from rfl)) (by omega) (by omega) (by omega)) ?_
  have r2 := zM_k hZ 2 0 0 (2019 + 16 * a1) (lo := 0) (hi := 3) (by decide) (zs_2010_9 (x := a1) (by omega) (by omega) (by omega))
  have r3 := zM_lt2 hZ a1
  refine wz_br (i3NE (zm_rd (Z := Z) (ν := ν) (k := 2) (show ((0 : Nat) : Int) = 0 from rfl) (show ((0 : Nat) : Int) = 0 from rfl) (i3I (y := (2019 + 16 * a1)) (i3A (i3A (show (2010 : Int32) = i3 2010 from rfl) (i3M (show (16 : Int32) = i3 16 from rfl) (rfl : i3 a1 = i3 a1))) (show (9 : Int32) = i3 9 from rfl)) (by omega) (by omega) (by omega))) (show (2 : Int32) = i3 2 from rfl) (by omega) (by omega) (by omega) (by omega)) (fun h4 => ?_) (fun h4 => ?_)
  · replace hP := zE_p hP h4
    refine sl_410_1 (ν := ν) hZ (zbh (c := 0) (k := 0) hM (Nat.le_of_ble_eq_true rfl)) (x1 := a1) (by omega) (x2 := 0) (by omega) (x3 := 0) (by omega) (by omega) (zconso rfl (zconso (zvo (rfl : i3 a1 = i3 a1)) (zconso (zvo (show (0 : Int32) = i3 0 from rfl)) (zconso (zvo (show (0 : Int32) = i3 0 from rfl)) rfl)))) rfl ?_
    intro L7 y5 y6 hL7 gy5 gy6 gL7_0 q9
    replace hP := zl_e2 hP (Eq.symm q9)
    clear q9
    refine fc_410_2 (i3 y5) _ _ _ _ hL7 ?_
    refine wz_i1 (i3B (rfl : i3 y5 = i3 y5) (by omega)) ?_
    exact zlR hP (rfl : i3 y5 = i3 y5) ⟨by omega, by omega, by omega⟩
  · replace hP := zE_n hP h4
    refine wz_i0 (i3O (n := 4400) (i3A (show (40 : Int32) = i3 40 from rfl) (rfl : i3 a1 = i3 a1)) (by omega) (by omega) (by omega)) ?_
    have r8 := zM_k hZ 2 0 0 0 (lo := 0) (hi := 671) (by decide) rfl
    have r9 := zM_k hZ 2 0 0 (40 + a1) (lo := -1) (hi := 671) (by decide) (zs_40 (by omega) (by omega))
    refine wz_br (i3L (show (48 : Int32) = i3 48 from rfl) (i3S (zm_rd (Z := Z) (ν := ν) (k := 2) (show ((0 : Nat) : Int) = 0 from rfl) (show ((0 : Nat) : Int) = 0 from rfl) (show ((0 : Nat) : Int) = 0 from rfl)) (zm_rd (Z := Z) (ν := ν) (k := 2) (show ((0 : Nat) : Int) = 0 from rfl) (show ((0 : Nat) : Int) = 0 from rfl) (i3I (y := (40 + a1)) (i3A (show (40 : Int32) = i3 40 from rfl) (rfl : i3 a1 = i3 a1)) (by omega) (by omega) (by omega)))) (by omega) (by omega) (by omega) (by omega)) (fun h10 => ?_) (fun h10 => ?_)
    · replace hP := zE_p hP h10
      refine sl_410_1 (ν := ν) hZ (zbh (c := 0) (k := 0) hM (Nat.le_of_ble_eq_true rfl)) (x1 := a1) (by omega) (x2 := 0) (by omega) (x3 := 0) (by omega) (by omega) (zconso rfl (zconso (zvo (rfl : i3 a1 = i3 a1)) (zconso (zvo (show (0 : Int32) = i3 0 from rfl)) (zconso (zvo (show (0 : Int32) = i3 0 from rfl)) rfl)))) rfl ?_
      intro L13 y11 y12 hL13 gy11 gy12 gL13_0 q9
      replace hP := zl_e2 hP (Eq.symm q9)
      clear q9
      refine fc_410_2 (i3 y11) _ _ _ _ hL13 ?_
      refine wz_i1 (i3B (rfl : i3 y11 = i3 y11) (by omega)) ?_
      exact zlR hP (rfl : i3 y11 = i3 y11) ⟨by omega, by omega, by omega⟩
    · replace hP := zE_n hP h10
      refine wz_br (i3Le (show (12 : Int32) = i3 12 from rfl) (zm_rd (Z := Z) (ν := ν) (k := 2) (show ((0 : Nat) : Int) = 0 from rfl) (show ((0 : Nat) : Int) = 0 from rfl) (show ((3815 : Nat) : Int) = 3815 from rfl)) (by omega) (by omega) (by omega) (by omega)) (fun h14 => ?_) (fun h14 => ?_)
      · replace hP := zE_p hP h14
        refine sl_410_1 (ν := ν) hZ (zbh (c := 0) (k := 0) hM (Nat.le_of_ble_eq_true rfl)) (x1 := a1) (by omega) (x2 := 0) (by omega) (x3 := 0) (by omega) (by omega) (zconso rfl (zconso (zvo (rfl : i3 a1 = i3 a1)) (zconso (zvo (show (0 : Int32) = i3 0 from rfl)) (zconso (zvo (show (0 : Int32) = i3 0 from rfl)) rfl)))) rfl ?_
        intro L17 y15 y16 hL17 gy15 gy16 gL17_0 q9
        replace hP := zl_e2 hP (Eq.symm q9)
        clear q9
        refine fc_410_2 (i3 y15) _ _ _ _ hL17 ?_
        refine wz_i1 (i3B (rfl : i3 y15 = i3 y15) (by omega)) ?_
        exact zlR hP (rfl : i3 y15 = i3 y15) ⟨by omega, by omega, by omega⟩
      · replace hP := zE_n hP h14
        refine sl_410_1 (ν := ν) hZ (zbh (c := 0) (k := 0) hM (Nat.le_of_ble_eq_true rfl)) (x1 := a1) (by omega) (x2 := 1) (by omega) (x3 := 0) (by omega) (by omega) (zconso rfl (zconso (zvo (rfl : i3 a1 = i3 a1)) (zconso (zvo (show (1 : Int32) = i3 1 from rfl)) (zconso (zvo (show (0 : Int32) = i3 0 from rfl)) rfl)))) rfl ?_
        intro L20 y18 y19 hL20 gy18 gy19 gL20_0 q9
        replace hP := zl_e2 hP (Eq.symm q9)
        clear q9
        refine fc_410_2 (i3 y18) _ _ _ _ hL20 ?_
        refine wz_i1 (i3B (rfl : i3 y18 = i3 y18) (by omega)) ?_
        exact zlR hP (rfl : i3 y18 = i3 y18) ⟨by omega, by omega, by omega⟩
/- yX12_quarrel -/
def zy_457 (Z : qz_Z) (dm : qz_Z → Int → Int → Int → Int → Int → Int → Int → qz_Z) (a1 : Int) (a2 : Int) : qz_Z × Int := (if a1 < 0 then (zlet (zu Z 1 0 0 2 1) (fun Z5 => (Z5, 0))) else (if ((Z 2 0 0 2000) - 1) < a1 then (zlet (zu Z 1 0 0 2 1) (fun Z8 => (Z8, 0))) else (zlet (zu Z 1 0 0 2 0) (fun Z9 => (if a2 < 0 then (zlet (zu Z9 1 0 0 2 2) (fun Z11 => (Z11, 0))) else (if 3 < a2 then (zlet (zu Z9 1 0 0 2 2) (fun Z13 => (Z13, 0))) else (zlet (zu Z9 1 0 0 2 0) (fun Z14 => (zlet (zf_410 Z14 a1) (fun v15 => (if v15 = 0 then (zlet (zu Z14 1 0 0 2 3) (fun Z19 => (Z19, 0))) else (zlet (zu Z14 1 0 0 2 0) (fun Z20 => (zlet (dm Z20 26 a1 a2 0 0 0 0) (fun Z27 => (zlet (zu Z27 2 0 0 (3850 + 8 * (Z27 2 0 0 3815)) a1) (fun Z30 => (zlet (zu Z30 2 0 0 (3851 + 8 * (Z27 2 0 0 3815)) a2) (fun Z33 => (zlet (zu Z33 2 0 0 (3857 + 8 * (Z27 2 0 0 3815)) (Z33 2 0 0 0)) (fun Z35 => (zlet (zu Z35 2 0 0 3815 ((Z35 2 0 0 3815) + 1)) (fun Z38 => (Z38, (Z27 2 0 0 3815)))))))))))))))))))))))))
theorem sy_457 {s : zSM} {Z : qz_Z} {ν : qz_N} (hZ : zM s Z) (gq : Z 1 0 0 35 = 0) (hM : s.2 + 0 ≤ 1000000000) {a1 : Int} (ga1 : -2147483648 ≤ a1 ∧ a1 ≤ 2147483647) {a2 : Int} (ga2 : -2147483648 ≤ a2 ∧ a2 ≤ 2147483647) {dk : qz_Z → qz_Z} {dm : qz_Z → Int → Int → Int → Int → Int → Int → Int → qz_Z} {ν1 : qz_N} (hdm : zDm s ν ν1 Z dk dm) : ∃ (Z1 : qz_Z) (ν2 : qz_N) (v : Int), (Z1, v) = zy_457 Z dm a1 a2 ∧ (ν2 = ν ∨ ν2 = ν1) ∧ qf_457 [.inr (.inr (some (1, 0, 0))), .inl (i3 a1), .inl (i3 a2)] (zm Z ν) = some (zm Z1 ν2, .inl (some (.inl (i3 v)))) ∧ (fun Z1 => zM s Z1 ∧ zC [1, 2, 101, 102, 200] Z Z1 ∧ zU [] Z Z1) Z1 := by
  obtain ⟨P, hP⟩ := zx (zy_457 Z dm a1 a2)
  refine zc_Y (Q := fun Z1 => zM s Z1 ∧ zC [1, 2, 101, 102, 200] Z Z1 ∧ zU [] Z Z1) hP (fw_457 (i3 a1) (i3 a2) _ _ ?_)
  replace hP : zE P (zy_457 Z dm a1 a2) := hP
  unfold zy_457 at hP
  have r1 := zM_k hZ 1 0 0 35 (lo := 0) (hi := 1) (by decide) rfl
  have r2 := zM_k hZ 1 0 0 34 (lo := 0) (hi := 8) (by decide) rfl
  have r3 := zM_f hZ 1 0 0 37
  refine wz_br (i3L (rfl : i3 a1 = i3 a1) (show (0 : Int32) = i3 0 from rfl) (by omega) (by omega) (by omega) (by omega)) (fun h4 => ?_) (fun h4 => ?_)
  · replace hP := zE_p hP h4
    obtain ⟨Z5, hZ5⟩ := zx (zu Z 1 0 0 2 1)
    replace hP := zl_e hP hZ5
    have hZ5I := zM_u hZ hZ5 (lo := -2147483648) (hi := 2147483647) (by decide) rfl (by omega) ⟨by decide, by decide⟩ (Or.inr (by decide)) rfl
    have hZ5U : zU [] Z Z5 := zU_u zU_r hZ5 (Or.inl rfl)
    have hZ5K : zC [1, 2, 101, 102, 200] Z Z5 := zC_u zC_r hZ5 (by decide)
    intro μ9 e9
    replace e9 := e9.trans (zm_wI (Z := Z) (ν := ν) hZ5 (show ((0 : Nat) : Int) = 0 from rfl) (show ((0 : Nat) : Int) = 0 from rfl) (show ((2 : Nat) : Int) = 2 from rfl) (show (1 : Int32) = i3 1 from rfl))
    subst e9
    exact zlY hP (show (0 : Int32) = i3 0 from rfl) (.inl rfl) ⟨hZ5I, hZ5K, hZ5U⟩
  · replace hP := zE_n hP h4
    have r6 := zM_k hZ 2 0 0 2000 (lo := 0) (hi := 60) (by decide) rfl
    refine wz_br (i3L (i3S (zm_rd (Z := Z) (ν := ν) (k := 2) (show ((0 : Nat) : Int) = 0 from rfl) (show ((0 : Nat) : Int) = 0 from rfl) (show ((2000 : Nat) : Int) = 2000 from rfl)) (show (1 : Int32) = i3 1 from rfl)) (rfl : i3 a1 = i3 a1) (by omega) (by omega) (by omega) (by omega)) (fun h7 => ?_) (fun h7 => ?_)
    · replace hP := zE_p hP h7
      obtain ⟨Z8, hZ8⟩ := zx (zu Z 1 0 0 2 1)
      replace hP := zl_e hP hZ8
      have hZ8I := zM_u hZ hZ8 (lo := -2147483648) (hi := 2147483647) (by decide) rfl (by omega) ⟨by decide, by decide⟩ (Or.inr (by decide)) rfl
      have hZ8U : zU [] Z Z8 := zU_u zU_r hZ8 (Or.inl rfl)
      have hZ8K : zC [1, 2, 101, 102, 200] Z Z8 := zC_u zC_r hZ8 (by decide)
      intro μ9 e9
      replace e9 := e9.trans (zm_wI (Z := Z) (ν := ν) hZ8 (show ((0 : Nat) : Int) = 0 from rfl) (show ((0 : Nat) : Int) = 0 from rfl) (show ((2 : Nat) : Int) = 2 from rfl) (show (1 : Int32) = i3 1 from rfl))
      subst e9
      exact zlY hP (show (0 : Int32) = i3 0 from rfl) (.inl rfl) ⟨hZ8I, hZ8K, hZ8U⟩
    · replace hP := zE_n hP h7
      obtain ⟨Z9, hZ9⟩ := zx (zu Z 1 0 0 2 0)
      replace hP := zl_e hP hZ9
      have hZ9I := zM_0 hZ hZ9 (by decide) (Or.inr (by decide))
      have hZ9U : zU [] Z Z9 := zU_u zU_r hZ9 (Or.inl rfl)
      have hZ9K : zC [1, 2, 101, 102, 200] Z Z9 := zC_u zC_r hZ9 (by decide)
      intro μ9 e9
      replace e9 := e9.trans (zm_wI (Z := Z) (ν := ν) hZ9 (show ((0 : Nat) : Int) = 0 from rfl) (show ((0 : Nat) : Int) = 0 from rfl) (show ((2 : Nat) : Int) = 2 from rfl) (show (0 : Int32) = i3 0 from rfl))
      subst e9
      refine wz_br (i3L (rfl : i3 a2 = i3 a2) (show (0 : Int32) = i3 0 from rfl) (by omega) (by omega) (by omega) (by omega)) (fun h10 => ?_) (fun h10 => ?_)
      · replace hP := zE_p hP h10
        obtain ⟨Z11, hZ11⟩ := zx (zu Z9 1 0 0 2 2)
        replace hP := zl_e hP hZ11
        have hZ11I := zM_u hZ9I hZ11 (lo := -2147483648) (hi := 2147483647) (by decide) rfl (by omega) ⟨by decide, by decide⟩ (Or.inr (by decide)) rfl
        have hZ11U : zU [] Z Z11 := zU_u hZ9U hZ11 (Or.inl rfl)
        have hZ11K : zC [1, 2, 101, 102, 200] Z Z11 := zC_u hZ9K hZ11 (by decide)
        intro μ9 e9
        replace e9 := e9.trans (zm_wI (Z := Z9) (ν := ν) hZ11 (show ((0 : Nat) : Int) = 0 from rfl) (show ((0 : Nat) : Int) = 0 from rfl) (show ((2 : Nat) : Int) = 2 from rfl) (show (2 : Int32) = i3 2 from rfl))
        subst e9
        exact zlY hP (show (0 : Int32) = i3 0 from rfl) (.inl rfl) ⟨hZ11I, hZ11K, hZ11U⟩
      · replace hP := zE_n hP h10
        refine wz_br (i3L (show (3 : Int32) = i3 3 from rfl) (rfl : i3 a2 = i3 a2) (by omega) (by omega) (by omega) (by omega)) (fun h12 => ?_) (fun h12 => ?_)
        · replace hP := zE_p hP h12
          obtain ⟨Z13, hZ13⟩ := zx (zu Z9 1 0 0 2 2)
          replace hP := zl_e hP hZ13
          have hZ13I := zM_u hZ9I hZ13 (lo := -2147483648) (hi := 2147483647) (by decide) rfl (by omega) ⟨by decide, by decide⟩ (Or.inr (by decide)) rfl
          have hZ13U : zU [] Z Z13 := zU_u hZ9U hZ13 (Or.inl rfl)
          have hZ13K : zC [1, 2, 101, 102, 200] Z Z13 := zC_u hZ9K hZ13 (by decide)
          intro μ9 e9
          replace e9 := e9.trans (zm_wI (Z := Z9) (ν := ν) hZ13 (show ((0 : Nat) : Int) = 0 from rfl) (show ((0 : Nat) : Int) = 0 from rfl) (show ((2 : Nat) : Int) = 2 from rfl) (show (2 : Int32) = i3 2 from rfl))
          subst e9
          exact zlY hP (show (0 : Int32) = i3 0 from rfl) (.inl rfl) ⟨hZ13I, hZ13K, hZ13U⟩
        · replace hP := zE_n hP h12
          obtain ⟨Z14, hZ14⟩ := zx (zu Z9 1 0 0 2 0)
          replace hP := zl_e hP hZ14
          have hZ14I := zM_0 hZ9I hZ14 (by decide) (Or.inr (by decide))
          have hZ14U : zU [] Z Z14 := zU_u hZ9U hZ14 (Or.inl rfl)
          have hZ14K : zC [1, 2, 101, 102, 200] Z Z14 := zC_u hZ9K hZ14 (by decide)
          intro μ9 e9
          replace e9 := e9.trans (zm_wI (Z := Z9) (ν := ν) hZ14 (show ((0 : Nat) : Int) = 0 from rfl) (show ((0 : Nat) : Int) = 0 from rfl) (show ((2 : Nat) : Int) = 2 from rfl) (show (0 : Int32) = i3 0 from rfl))
          subst e9
          obtain ⟨v15, hv15, c9, lv15, uv15, wv150⟩ := sp_410 (ν := ν) hZ14I (a1 := a1) (by omega) (zbh (c := 0) (k := 0) hM (Nat.le_of_ble_eq_true rfl))
          replace hP := zl_e hP hv15
          refine wz_cI_of (zas (zcons rfl (zcons (zvi (rfl : i3 a1 = i3 a1)) rfl)) c9) ?_
          clear c9
          have r16 := zM_k hZ14I 2 0 0 3815 (lo := 0) (hi := 12) (by decide) rfl
          have w17 : v15 = 0 ∨ Z14 2 0 0 3815 ≤ 11 := wv150
          refine wz_br (i3E (rfl : i3 v15 = i3 v15) (show (0 : Int32) = i3 0 from rfl) (by omega) (by omega) (by omega) (by omega)) (fun h18 => ?_) (fun h18 => ?_)
          · replace hP := zE_p hP h18
            obtain ⟨Z19, hZ19⟩ := zx (zu Z14 1 0 0 2 3)
            replace hP := zl_e hP hZ19
            have hZ19I := zM_u hZ14I hZ19 (lo := -2147483648) (hi := 2147483647) (by decide) rfl (by omega) ⟨by decide, by decide⟩ (Or.inr (by decide)) rfl
            have hZ19U : zU [] Z Z19 := zU_u hZ14U hZ19 (Or.inl rfl)
            have hZ19K : zC [1, 2, 101, 102, 200] Z Z19 := zC_u hZ14K hZ19 (by decide)
            intro μ9 e9
            replace e9 := e9.trans (zm_wI (Z := Z14) (ν := ν) hZ19 (show ((0 : Nat) : Int) = 0 from rfl) (show ((0 : Nat) : Int) = 0 from rfl) (show ((2 : Nat) : Int) = 2 from rfl) (show (3 : Int32) = i3 3 from rfl))
            subst e9
            refine wz_i0 (Eq.trans (i3NE (rfl : i3 v15 = i3 v15) (show (0 : Int32) = i3 0 from rfl) (by omega) (by omega) (by omega) (by omega)) (decide_eq_false (by omega))) ?_
            exact zlY hP (show (0 : Int32) = i3 0 from rfl) (.inl rfl) ⟨hZ19I, hZ19K, hZ19U⟩
          · replace hP := zE_n hP h18
            obtain ⟨Z20, hZ20⟩ := zx (zu Z14 1 0 0 2 0)
            replace hP := zl_e hP hZ20
            have hZ20I := zM_0 hZ14I hZ20 (by decide) (Or.inr (by decide))
            have hZ20U : zU [] Z Z20 := zU_u hZ14U hZ20 (Or.inl rfl)
            have hZ20K : zC [1, 2, 101, 102, 200] Z Z20 := zC_u hZ14K hZ20 (by decide)
            intro μ9 e9
            replace e9 := e9.trans (zm_wI (Z := Z14) (ν := ν) hZ20 (show ((0 : Nat) : Int) = 0 from rfl) (show ((0 : Nat) : Int) = 0 from rfl) (show ((2 : Nat) : Int) = 2 from rfl) (show (0 : Int32) = i3 0 from rfl))
            subst e9
            refine wz_i1 (Eq.trans (i3NE (rfl : i3 v15 = i3 v15) (show (0 : Int32) = i3 0 from rfl) (by omega) (by omega) (by omega) (by omega)) (decide_eq_true (by omega))) ?_
            have r21 := zM_k hZ20I 1 0 0 35 (lo := 0) (hi := 1) (by decide) rfl
            have q22 := (zu_ne (k' := 1) (b' := 0) (i' := 0) (j' := 35) hZ20 (fun q => absurd q.2.2.2 (by decide))).trans ((zu_ne (k' := 1) (b' := 0) (i' := 0) (j' := 35) hZ14 (fun q => absurd q.2.2.2 (by decide))).trans (zu_ne (k' := 1) (b' := 0) (i' := 0) (j' := 35) hZ9 (fun q => absurd q.2.2.2 (by decide))))
            refine wz_i0 (Eq.trans (i3NE (zm_rd (Z := Z20) (ν := ν) (k := 1) (show ((0 : Nat) : Int) = 0 from rfl) (show ((0 : Nat) : Int) = 0 from rfl) (show ((35 : Nat) : Int) = 35 from rfl)) (show (0 : Int32) = i3 0 from rfl) (by omega) (by omega) (by omega) (by omega)) (decide_eq_false (by omega))) ?_
            have r23 := zM_k hZ20I 1 0 0 34 (lo := 0) (hi := 8) (by decide) rfl
            have q24 := (zu_ne (k' := 1) (b' := 0) (i' := 0) (j' := 34) hZ20 (fun q => absurd q.2.2.2 (by decide))).trans ((zu_ne (k' := 1) (b' := 0) (i' := 0) (j' := 34) hZ14 (fun q => absurd q.2.2.2 (by decide))).trans (zu_ne (k' := 1) (b' := 0) (i' := 0) (j' := 34) hZ9 (fun q => absurd q.2.2.2 (by decide))))
            have r25 := zM_f hZ20I 1 0 0 37
            have q26 := (zu_ne (k' := 1) (b' := 0) (i' := 0) (j' := 37) hZ20 (fun q => absurd q.2.2.2 (by decide))).trans ((zu_ne (k' := 1) (b' := 0) (i' := 0) (j' := 37) hZ14 (fun q => absurd q.2.2.2 (by decide))).trans (zu_ne (k' := 1) (b' := 0) (i' := 0) (j' := 37) hZ9 (fun q => absurd q.2.2.2 (by decide))))
            obtain ⟨c8, c9, hZ27I, dZ27⟩ := hdm Z20 26 a1 a2 0 0 0 0 hZ20I (by omega) (by omega) (by omega) (by omega) (by omega) (by omega) (by omega) (by omega) (by omega) (by omega)
            obtain ⟨Z27, hZ27⟩ := zx (dm Z20 26 a1 a2 0 0 0 0)
            rw [← hZ27] at c9 hZ27I dZ27
            replace hP := zl_e hP hZ27
            refine wz_cV_of (zas (zcons rfl (zcons (zvi (show (-1 : Int32) = i3 (-1) from rfl)) rfl)) c8) ?_
            refine wz_cV_of (zas (zcons rfl (zcons (zvi (show (26 : Int32) = i3 26 from rfl)) (zcons (zvi (rfl : i3 a1 = i3 a1)) (zcons (zvi (rfl : i3 a2 = i3 a2)) (zcons (zvi (show (0 : Int32) = i3 0 from rfl)) (zcons (zvi (show (0 : Int32) = i3 0 from rfl)) (zcons (zvi (show (0 : Int32) = i3 0 from rfl)) (zcons (zvi (show (0 : Int32) = i3 0 from rfl)) rfl)))))))) c9) ?_
            clear c8 c9
            have hZ27K : zC [1, 2, 101, 102, 200] Z Z27 := zC_t hZ20K (zMd_C dZ27) (by decide)
            have hZ27U : zU [] Z Z27 := zU_t hZ20U (zMd_U dZ27) zU_b0
            have r28 := zM_k hZ27I 2 0 0 3815 (lo := 0) (hi := 12) (by decide) rfl
            have q29 := (dZ27 2 0 0 3815 (by simp)).trans (zu_ne (k' := 2) (b' := 0) (i' := 0) (j' := 3815) hZ20 (fun q => absurd q.1 (by decide)))
            refine wz_i0 (i3O (n := 4400) (i3A (i3A (show (3850 : Int32) = i3 3850 from rfl) (i3M (show (8 : Int32) = i3 8 from rfl) (zm_rd (Z := Z27) (ν := ν1) (k := 2) (show ((0 : Nat) : Int) = 0 from rfl) (show ((0 : Nat) : Int) = 0 from rfl) (show ((3815 : Nat) : Int) = 3815 from rfl)))) (show (0 : Int32) = i3 0 from rfl)) (by omega) (by omega) (by omega)) ?_
            obtain ⟨Z30, hZ30⟩ := zx (zu Z27 2 0 0 (3850 + 8 * (Z27 2 0 0 3815)) a1)
            replace hP := zl_e hP hZ30
            have r31 := zM_k hZ27I 2 0 0 2000 (lo := 0) (hi := 60) (by decide) rfl
            have q32 := (dZ27 2 0 0 2000 (by simp)).trans ((zu_ne (k' := 2) (b' := 0) (i' := 0) (j' := 2000) hZ20 (fun q => absurd q.1 (by decide))).trans ((zu_ne (k' := 2) (b' := 0) (i' := 0) (j' := 2000) hZ14 (fun q => absurd q.1 (by decide))).trans (zu_ne (k' := 2) (b' := 0) (i' := 0) (j' := 2000) hZ9 (fun q => absurd q.1 (by decide)))))
            have hZ30I := zM_qw2 hZ27I hZ30 (i := (Z27 2 0 0 3815)) (by omega) (by omega) (by omega) (by omega)
            have hZ30U : zU [] Z Z30 := zU_u hZ27U hZ30 (Or.inl rfl)
            have hZ30K : zC [1, 2, 101, 102, 200] Z Z30 := zC_u hZ27K hZ30 (zcl_2w (by omega) rfl)
            intro μ9 e9
            replace e9 := e9.trans (zm_wI (Z := Z27) (ν := ν1) hZ30 (show ((0 : Nat) : Int) = 0 from rfl) (show ((0 : Nat) : Int) = 0 from rfl) (i3I (y := (3850 + 8 * (Z27 2 0 0 3815))) (i3A (i3A (show (3850 : Int32) = i3 3850 from rfl) (i3M (show (8 : Int32) = i3 8 from rfl) (zm_rd (Z := Z27) (ν := ν1) (k := 2) (show ((0 : Nat) : Int) = 0 from rfl) (show ((0 : Nat) : Int) = 0 from rfl) (show ((3815 : Nat) : Int) = 3815 from rfl)))) (show (0 : Int32) = i3 0 from rfl)) (by omega) (by omega) (by omega)) (rfl : i3 a1 = i3 a1))
            subst e9
            refine wz_i0 (i3O (n := 4400) (i3A (i3A (show (3850 : Int32) = i3 3850 from rfl) (i3M (show (8 : Int32) = i3 8 from rfl) (zm_rd (Z := Z27) (ν := ν1) (k := 2) (show ((0 : Nat) : Int) = 0 from rfl) (show ((0 : Nat) : Int) = 0 from rfl) (show ((3815 : Nat) : Int) = 3815 from rfl)))) (show (1 : Int32) = i3 1 from rfl)) (by omega) (by omega) (by omega)) ?_
            obtain ⟨Z33, hZ33⟩ := zx (zu Z30 2 0 0 (3851 + 8 * (Z27 2 0 0 3815)) a2)
            replace hP := zl_e hP hZ33
            have hZ33I := zM_u2 hZ30I hZ33 (lo := 0) (hi := 3) (zs_3850_1 (x := (Z27 2 0 0 3815)) (by omega) (by omega) (by omega)) (by omega) ⟨by decide, by decide⟩ (by simp only [zsp]; omega)
            have hZ33U : zU [] Z Z33 := zU_u hZ30U hZ33 (Or.inl rfl)
            have hZ33K : zC [1, 2, 101, 102, 200] Z Z33 := zC_u hZ30K hZ33 (zcl_2w (by omega) rfl)
            intro μ9 e9
            replace e9 := e9.trans (zm_wI (Z := Z30) (ν := ν1) hZ33 (show ((0 : Nat) : Int) = 0 from rfl) (show ((0 : Nat) : Int) = 0 from rfl) (i3I (y := (3851 + 8 * (Z27 2 0 0 3815))) (i3A (i3A (show (3850 : Int32) = i3 3850 from rfl) (i3M (show (8 : Int32) = i3 8 from rfl) (zm_rd (Z := Z27) (ν := ν1) (k := 2) (show ((0 : Nat) : Int) = 0 from rfl) (show ((0 : Nat) : Int) = 0 from rfl) (show ((3815 : Nat) : Int) = 3815 from rfl)))) (show (1 : Int32) = i3 1 from rfl)) (by omega) (by omega) (by omega)) (rfl : i3 a2 = i3 a2))
            subst e9
            refine wz_i0 (i3O (n := 4400) (i3A (i3A (show (3850 : Int32) = i3 3850 from rfl) (i3M (show (8 : Int32) = i3 8 from rfl) (zm_rd (Z := Z27) (ν := ν1) (k := 2) (show ((0 : Nat) : Int) = 0 from rfl) (show ((0 : Nat) : Int) = 0 from rfl) (show ((3815 : Nat) : Int) = 3815 from rfl)))) (show (7 : Int32) = i3 7 from rfl)) (by omega) (by omega) (by omega)) ?_
            have r34 := zM_k hZ33I 2 0 0 0 (lo := 0) (hi := 671) (by decide) rfl
            obtain ⟨Z35, hZ35⟩ := zx (zu Z33 2 0 0 (3857 + 8 * (Z27 2 0 0 3815)) (Z33 2 0 0 0))
            replace hP := zl_e hP hZ35
            have hZ35I := zM_u2 hZ33I hZ35 (lo := 0) (hi := 671) (zs_3850_7 (x := (Z27 2 0 0 3815)) (by omega) (by omega) (by omega)) (by omega) ⟨by decide, by decide⟩ (by simp only [zsp]; omega)
            have hZ35U : zU [] Z Z35 := zU_u hZ33U hZ35 (Or.inl rfl)
            have hZ35K : zC [1, 2, 101, 102, 200] Z Z35 := zC_u hZ33K hZ35 (zcl_2w (by omega) rfl)
            intro μ9 e9
            replace e9 := e9.trans (zm_wI (Z := Z33) (ν := ν1) hZ35 (show ((0 : Nat) : Int) = 0 from rfl) (show ((0 : Nat) : Int) = 0 from rfl) (i3I (y := (3857 + 8 * (Z27 2 0 0 3815))) (i3A (i3A (show (3850 : Int32) = i3 3850 from rfl) (i3M (show (8 : Int32) = i3 8 from rfl) (zm_rd (Z := Z27) (ν := ν1) (k := 2) (show ((0 : Nat) : Int) = 0 from rfl) (show ((0 : Nat) : Int) = 0 from rfl) (show ((3815 : Nat) : Int) = 3815 from rfl)))) (show (7 : Int32) = i3 7 from rfl)) (by omega) (by omega) (by omega)) (zm_rd (Z := Z33) (ν := ν1) (k := 2) (show ((0 : Nat) : Int) = 0 from rfl) (show ((0 : Nat) : Int) = 0 from rfl) (show ((0 : Nat) : Int) = 0 from rfl)))
            subst e9
            have r36 := zM_k hZ35I 2 0 0 3815 (lo := 0) (hi := 12) (by decide) rfl
            have q37 := (zu_ne (k' := 2) (b' := 0) (i' := 0) (j' := 3815) hZ35 (fun q => absurd q.2.2.2 (by omega))).trans ((zu_ne (k' := 2) (b' := 0) (i' := 0) (j' := 3815) hZ33 (fun q => absurd q.2.2.2 (by omega))).trans (zu_ne (k' := 2) (b' := 0) (i' := 0) (j' := 3815) hZ30 (fun q => absurd q.2.2.2 (by omega))))
            obtain ⟨Z38, hZ38⟩ := zx (zu Z35 2 0 0 3815 ((Z35 2 0 0 3815) + 1))
            replace hP := zl_e hP hZ38
            have r39 := zM_k hZ35I 2 0 0 2000 (lo := 0) (hi := 60) (by decide) rfl
            have q40 := (zu_ne (k' := 2) (b' := 0) (i' := 0) (j' := 2000) hZ35 (fun q => absurd q.2.2.2 (by omega))).trans ((zu_ne (k' := 2) (b' := 0) (i' := 0) (j' := 2000) hZ33 (fun q => absurd q.2.2.2 (by omega))).trans (zu_ne (k' := 2) (b' := 0) (i' := 0) (j' := 2000) hZ30 (fun q => absurd q.2.2.2 (by omega))))
            have r41 := zM_k hZ35I 2 0 0 (3850 + 8 * (Z27 2 0 0 3815)) (lo := 0) (hi := 59) (by decide) (zs_3850_0 (x := (Z27 2 0 0 3815)) (by omega) (by omega) (by omega))
            have q42 := (zu_ne (k' := 2) (b' := 0) (i' := 0) (j' := (3850 + 8 * (Z27 2 0 0 3815))) hZ35 (fun q => absurd q.2.2.2 (by omega))).trans ((zu_ne (k' := 2) (b' := 0) (i' := 0) (j' := (3850 + 8 * (Z27 2 0 0 3815))) hZ33 (fun q => absurd q.2.2.2 (by omega))).trans (zu_at hZ30))
            have hZ38I := zM_qn2 hZ35I hZ38 (p := (Z27 2 0 0 3815)) (by omega) (by omega) (by omega)
            have hZ38U : zU [] Z Z38 := zU_u hZ35U hZ38 (Or.inl rfl)
            have hZ38K : zC [1, 2, 101, 102, 200] Z Z38 := zC_u hZ35K hZ38 (by decide)
            intro μ9 e9
            replace e9 := e9.trans (zm_wI (Z := Z35) (ν := ν1) hZ38 (show ((0 : Nat) : Int) = 0 from rfl) (show ((0 : Nat) : Int) = 0 from rfl) (show ((3815 : Nat) : Int) = 3815 from rfl) (i3A (zm_rd (Z := Z35) (ν := ν1) (k := 2) (show ((0 : Nat) : Int) = 0 from rfl) (show ((0 : Nat) : Int) = 0 from rfl) (show ((3815 : Nat) : Int) = 3815 from rfl)) (show (1 : Int32) = i3 1 from rfl)))
            subst e9
            exact zlY hP (zm_rd (Z := Z27) (ν := ν1) (k := 2) (show ((0 : Nat) : Int) = 0 from rfl) (show ((0 : Nat) : Int) = 0 from rfl) (show ((3815 : Nat) : Int) = 3815 from rfl)) (.inr rfl) ⟨hZ38I, hZ38K, hZ38U⟩

theorem sq_457 {s : zSM} {Z : qz_Z} {ν : qz_N} (hZ : zM s Z) (gq : Z 1 0 0 35 = 1) (hM : s.2 + 0 ≤ 1000000000) {a1 : Int} (ga1 : -2147483648 ≤ a1 ∧ a1 ≤ 2147483647) {a2 : Int} (ga2 : -2147483648 ≤ a2 ∧ a2 ≤ 2147483647) {ν1 : qz_N} : ∃ (Z1 : qz_Z) (ν2 : qz_N) (v : Int), (Z1, v) = zy_457 Z zq0 a1 a2 ∧ (ν2 = ν ∨ ν2 = ν1) ∧ qf_457 [.inr (.inr (some (1, 0, 0))), .inl (i3 a1), .inl (i3 a2)] (zm Z ν) = some (zm Z1 ν2, .inl (some (.inl (i3 v)))) ∧ (fun Z1 => zM s Z1 ∧ zC [1, 2] Z Z1 ∧ zU [] Z Z1) Z1 := by
  obtain ⟨P, hP⟩ := zx (zy_457 Z zq0 a1 a2)
  refine zc_Y (Q := fun Z1 => zM s Z1 ∧ zC [1, 2] Z Z1 ∧ zU [] Z Z1) hP (fw_457 (i3 a1) (i3 a2) _ _ ?_)
  replace hP : zE P (zy_457 Z zq0 a1 a2) := hP
  unfold zy_457 at hP
  have r1 := zM_k hZ 1 0 0 35 (lo := 0) (hi := 1) (by decide) rfl
  have r2 := zM_k hZ 1 0 0 34 (lo := 0) (hi := 8) (by decide) rfl
  have r3 := zM_f hZ 1 0 0 37
  refine wz_br (i3L (rfl : i3 a1 = i3 a1) (show (0 : Int32) = i3 0 from rfl) (by omega) (by omega) (by omega) (by omega)) (fun h4 => ?_) (fun h4 => ?_)
  · replace hP := zE_p hP h4
    obtain ⟨Z5, hZ5⟩ := zx (zu Z 1 0 0 2 1)
    replace hP := zl_e hP hZ5
    have hZ5I := zM_u hZ hZ5 (lo := -2147483648) (hi := 2147483647) (by decide) rfl (by omega) ⟨by decide, by decide⟩ (Or.inr (by decide)) rfl
    have hZ5U : zU [] Z Z5 := zU_u zU_r hZ5 (Or.inl rfl)
    have hZ5K : zC [1, 2] Z Z5 := zC_u zC_r hZ5 (by decide)
    intro μ9 e9
    replace e9 := e9.trans (zm_wI (Z := Z) (ν := ν) hZ5 (show ((0 : Nat) : Int) = 0 from rfl) (show ((0 : Nat) : Int) = 0 from rfl) (show ((2 : Nat) : Int) = 2 from rfl) (show (1 : Int32) = i3 1 from rfl))
    subst e9
    exact zlY hP (show (0 : Int32) = i3 0 from rfl) (.inl rfl) ⟨hZ5I, hZ5K, hZ5U⟩
  · replace hP := zE_n hP h4
    have r6 := zM_k hZ 2 0 0 2000 (lo := 0) (hi := 60) (by decide) rfl
    refine wz_br (i3L (i3S (zm_rd (Z := Z) (ν := ν) (k := 2) (show ((0 : Nat) : Int) = 0 from rfl) (show ((0 : Nat) : Int) = 0 from rfl) (show ((2000 : Nat) : Int) = 2000 from rfl)) (show (1 : Int32) = i3 1 from rfl)) (rfl : i3 a1 = i3 a1) (by omega) (by omega) (by omega) (by omega)) (fun h7 => ?_) (fun h7 => ?_)
    · replace hP := zE_p hP h7
      obtain ⟨Z8, hZ8⟩ := zx (zu Z 1 0 0 2 1)
      replace hP := zl_e hP hZ8
      have hZ8I := zM_u hZ hZ8 (lo := -2147483648) (hi := 2147483647) (by decide) rfl (by omega) ⟨by decide, by decide⟩ (Or.inr (by decide)) rfl
      have hZ8U : zU [] Z Z8 := zU_u zU_r hZ8 (Or.inl rfl)
      have hZ8K : zC [1, 2] Z Z8 := zC_u zC_r hZ8 (by decide)
      intro μ9 e9
      replace e9 := e9.trans (zm_wI (Z := Z) (ν := ν) hZ8 (show ((0 : Nat) : Int) = 0 from rfl) (show ((0 : Nat) : Int) = 0 from rfl) (show ((2 : Nat) : Int) = 2 from rfl) (show (1 : Int32) = i3 1 from rfl))
      subst e9
      exact zlY hP (show (0 : Int32) = i3 0 from rfl) (.inl rfl) ⟨hZ8I, hZ8K, hZ8U⟩
    · replace hP := zE_n hP h7
      obtain ⟨Z9, hZ9⟩ := zx (zu Z 1 0 0 2 0)
      replace hP := zl_e hP hZ9
      have hZ9I := zM_0 hZ hZ9 (by decide) (Or.inr (by decide))
      have hZ9U : zU [] Z Z9 := zU_u zU_r hZ9 (Or.inl rfl)
      have hZ9K : zC [1, 2] Z Z9 := zC_u zC_r hZ9 (by decide)
      intro μ9 e9
      replace e9 := e9.trans (zm_wI (Z := Z) (ν := ν) hZ9 (show ((0 : Nat) : Int) = 0 from rfl) (show ((0 : Nat) : Int) = 0 from rfl) (show ((2 : Nat) : Int) = 2 from rfl) (show (0 : Int32) = i3 0 from rfl))
      subst e9
      refine wz_br (i3L (rfl : i3 a2 = i3 a2) (show (0 : Int32) = i3 0 from rfl) (by omega) (by omega) (by omega) (by omega)) (fun h10 => ?_) (fun h10 => ?_)
      · replace hP := zE_p hP h10
        obtain ⟨Z11, hZ11⟩ := zx (zu Z9 1 0 0 2 2)
        replace hP := zl_e hP hZ11
        have hZ11I := zM_u hZ9I hZ11 (lo := -2147483648) (hi := 2147483647) (by decide) rfl (by omega) ⟨by decide, by decide⟩ (Or.inr (by decide)) rfl
        have hZ11U : zU [] Z Z11 := zU_u hZ9U hZ11 (Or.inl rfl)
        have hZ11K : zC [1, 2] Z Z11 := zC_u hZ9K hZ11 (by decide)
        intro μ9 e9
        replace e9 := e9.trans (zm_wI (Z := Z9) (ν := ν) hZ11 (show ((0 : Nat) : Int) = 0 from rfl) (show ((0 : Nat) : Int) = 0 from rfl) (show ((2 : Nat) : Int) = 2 from rfl) (show (2 : Int32) = i3 2 from rfl))
        subst e9
        exact zlY hP (show (0 : Int32) = i3 0 from rfl) (.inl rfl) ⟨hZ11I, hZ11K, hZ11U⟩
      · replace hP := zE_n hP h10
        refine wz_br (i3L (show (3 : Int32) = i3 3 from rfl) (rfl : i3 a2 = i3 a2) (by omega) (by omega) (by omega) (by omega)) (fun h12 => ?_) (fun h12 => ?_)
        · replace hP := zE_p hP h12
          obtain ⟨Z13, hZ13⟩ := zx (zu Z9 1 0 0 2 2)
          replace hP := zl_e hP hZ13
          have hZ13I := zM_u hZ9I hZ13 (lo := -2147483648) (hi := 2147483647) (by decide) rfl (by omega) ⟨by decide, by decide⟩ (Or.inr (by decide)) rfl
          have hZ13U : zU [] Z Z13 := zU_u hZ9U hZ13 (Or.inl rfl)
          have hZ13K : zC [1, 2] Z Z13 := zC_u hZ9K hZ13 (by decide)
          intro μ9 e9
          replace e9 := e9.trans (zm_wI (Z := Z9) (ν := ν) hZ13 (show ((0 : Nat) : Int) = 0 from rfl) (show ((0 : Nat) : Int) = 0 from rfl) (show ((2 : Nat) : Int) = 2 from rfl) (show (2 : Int32) = i3 2 from rfl))
          subst e9
          exact zlY hP (show (0 : Int32) = i3 0 from rfl) (.inl rfl) ⟨hZ13I, hZ13K, hZ13U⟩
        · replace hP := zE_n hP h12
          obtain ⟨Z14, hZ14⟩ := zx (zu Z9 1 0 0 2 0)
          replace hP := zl_e hP hZ14
          have hZ14I := zM_0 hZ9I hZ14 (by decide) (Or.inr (by decide))
          have hZ14U : zU [] Z Z14 := zU_u hZ9U hZ14 (Or.inl rfl)
          have hZ14K : zC [1, 2] Z Z14 := zC_u hZ9K hZ14 (by decide)
          intro μ9 e9
          replace e9 := e9.trans (zm_wI (Z := Z9) (ν := ν) hZ14 (show ((0 : Nat) : Int) = 0 from rfl) (show ((0 : Nat) : Int) = 0 from rfl) (show ((2 : Nat) : Int) = 2 from rfl) (show (0 : Int32) = i3 0 from rfl))
          subst e9
          obtain ⟨v15, hv15, c9, lv15, uv15, wv150⟩ := sp_410 (ν := ν) hZ14I (a1 := a1) (by omega) (zbh (c := 0) (k := 0) hM (Nat.le_of_ble_eq_true rfl))
          replace hP := zl_e hP hv15
          refine wz_cI_of (zas (zcons rfl (zcons (zvi (rfl : i3 a1 = i3 a1)) rfl)) c9) ?_
          clear c9
          have r16 := zM_k hZ14I 2 0 0 3815 (lo := 0) (hi := 12) (by decide) rfl
          have w17 : v15 = 0 ∨ Z14 2 0 0 3815 ≤ 11 := wv150
          refine wz_br (i3E (rfl : i3 v15 = i3 v15) (show (0 : Int32) = i3 0 from rfl) (by omega) (by omega) (by omega) (by omega)) (fun h18 => ?_) (fun h18 => ?_)
          · replace hP := zE_p hP h18
            obtain ⟨Z19, hZ19⟩ := zx (zu Z14 1 0 0 2 3)
            replace hP := zl_e hP hZ19
            have hZ19I := zM_u hZ14I hZ19 (lo := -2147483648) (hi := 2147483647) (by decide) rfl (by omega) ⟨by decide, by decide⟩ (Or.inr (by decide)) rfl
            have hZ19U : zU [] Z Z19 := zU_u hZ14U hZ19 (Or.inl rfl)
            have hZ19K : zC [1, 2] Z Z19 := zC_u hZ14K hZ19 (by decide)
            intro μ9 e9
            replace e9 := e9.trans (zm_wI (Z := Z14) (ν := ν) hZ19 (show ((0 : Nat) : Int) = 0 from rfl) (show ((0 : Nat) : Int) = 0 from rfl) (show ((2 : Nat) : Int) = 2 from rfl) (show (3 : Int32) = i3 3 from rfl))
            subst e9
            refine wz_i0 (Eq.trans (i3NE (rfl : i3 v15 = i3 v15) (show (0 : Int32) = i3 0 from rfl) (by omega) (by omega) (by omega) (by omega)) (decide_eq_false (by omega))) ?_
            exact zlY hP (show (0 : Int32) = i3 0 from rfl) (.inl rfl) ⟨hZ19I, hZ19K, hZ19U⟩
          · replace hP := zE_n hP h18
            obtain ⟨Z20, hZ20⟩ := zx (zu Z14 1 0 0 2 0)
            replace hP := zl_e hP hZ20
            have hZ20I := zM_0 hZ14I hZ20 (by decide) (Or.inr (by decide))
            have hZ20U : zU [] Z Z20 := zU_u hZ14U hZ20 (Or.inl rfl)
            have hZ20K : zC [1, 2] Z Z20 := zC_u hZ14K hZ20 (by decide)
            intro μ9 e9
            replace e9 := e9.trans (zm_wI (Z := Z14) (ν := ν) hZ20 (show ((0 : Nat) : Int) = 0 from rfl) (show ((0 : Nat) : Int) = 0 from rfl) (show ((2 : Nat) : Int) = 2 from rfl) (show (0 : Int32) = i3 0 from rfl))
            subst e9
            refine wz_i1 (Eq.trans (i3NE (rfl : i3 v15 = i3 v15) (show (0 : Int32) = i3 0 from rfl) (by omega) (by omega) (by omega) (by omega)) (decide_eq_true (by omega))) ?_
            have r21 := zM_k hZ20I 1 0 0 35 (lo := 0) (hi := 1) (by decide) rfl
            have q22 := (zu_ne (k' := 1) (b' := 0) (i' := 0) (j' := 35) hZ20 (fun q => absurd q.2.2.2 (by decide))).trans ((zu_ne (k' := 1) (b' := 0) (i' := 0) (j' := 35) hZ14 (fun q => absurd q.2.2.2 (by decide))).trans (zu_ne (k' := 1) (b' := 0) (i' := 0) (j' := 35) hZ9 (fun q => absurd q.2.2.2 (by decide))))
            refine wz_i1 (Eq.trans (i3NE (zm_rd (Z := Z20) (ν := ν) (k := 1) (show ((0 : Nat) : Int) = 0 from rfl) (show ((0 : Nat) : Int) = 0 from rfl) (show ((35 : Nat) : Int) = 35 from rfl)) (show (0 : Int32) = i3 0 from rfl) (by omega) (by omega) (by omega) (by omega)) (decide_eq_true (by omega))) ?_
            replace hP := zl_q hP (rfl : _ = Z20)
            have r23 := zM_k hZ20I 2 0 0 3815 (lo := 0) (hi := 12) (by decide) rfl
            have q24 := zu_ne (k' := 2) (b' := 0) (i' := 0) (j' := 3815) hZ20 (fun q => absurd q.1 (by decide))
            refine wz_i0 (i3O (n := 4400) (i3A (i3A (show (3850 : Int32) = i3 3850 from rfl) (i3M (show (8 : Int32) = i3 8 from rfl) (zm_rd (Z := Z20) (ν := ν) (k := 2) (show ((0 : Nat) : Int) = 0 from rfl) (show ((0 : Nat) : Int) = 0 from rfl) (show ((3815 : Nat) : Int) = 3815 from rfl)))) (show (0 : Int32) = i3 0 from rfl)) (by omega) (by omega) (by omega)) ?_
            obtain ⟨Z25, hZ25⟩ := zx (zu Z20 2 0 0 (3850 + 8 * (Z20 2 0 0 3815)) a1)
            replace hP := zl_e hP hZ25
            have r26 := zM_k hZ20I 2 0 0 2000 (lo := 0) (hi := 60) (by decide) rfl
            have q27 := (zu_ne (k' := 2) (b' := 0) (i' := 0) (j' := 2000) hZ20 (fun q => absurd q.1 (by decide))).trans ((zu_ne (k' := 2) (b' := 0) (i' := 0) (j' := 2000) hZ14 (fun q => absurd q.1 (by decide))).trans (zu_ne (k' := 2) (b' := 0) (i' := 0) (j' := 2000) hZ9 (fun q => absurd q.1 (by decide))))
            have hZ25I := zM_qw2 hZ20I hZ25 (i := (Z20 2 0 0 3815)) (by omega) (by omega) (by omega) (by omega)
            have hZ25U : zU [] Z Z25 := zU_u hZ20U hZ25 (Or.inl rfl)
            have hZ25K : zC [1, 2] Z Z25 := zC_u hZ20K hZ25 (zcl_2w (by omega) rfl)
            intro μ9 e9
            replace e9 := e9.trans (zm_wI (Z := Z20) (ν := ν) hZ25 (show ((0 : Nat) : Int) = 0 from rfl) (show ((0 : Nat) : Int) = 0 from rfl) (i3I (y := (3850 + 8 * (Z20 2 0 0 3815))) (i3A (i3A (show (3850 : Int32) = i3 3850 from rfl) (i3M (show (8 : Int32) = i3 8 from rfl) (zm_rd (Z := Z20) (ν := ν) (k := 2) (show ((0 : Nat) : Int) = 0 from rfl) (show ((0 : Nat) : Int) = 0 from rfl) (show ((3815 : Nat) : Int) = 3815 from rfl)))) (show (0 : Int32) = i3 0 from rfl)) (by omega) (by omega) (by omega)) (rfl : i3 a1 = i3 a1))
            subst e9
            refine wz_i0 (i3O (n := 4400) (i3A (i3A (show (3850 : Int32) = i3 3850 from rfl) (i3M (show (8 : Int32) = i3 8 from rfl) (zm_rd (Z := Z20) (ν := ν) (k := 2) (show ((0 : Nat) : Int) = 0 from rfl) (show ((0 : Nat) : Int) = 0 from rfl) (show ((3815 : Nat) : Int) = 3815 from rfl)))) (show (1 : Int32) = i3 1 from rfl)) (by omega) (by omega) (by omega)) ?_
            obtain ⟨Z28, hZ28⟩ := zx (zu Z25 2 0 0 (3851 + 8 * (Z20 2 0 0 3815)) a2)
            replace hP := zl_e hP hZ28
            have hZ28I := zM_u2 hZ25I hZ28 (lo := 0) (hi := 3) (zs_3850_1 (x := (Z20 2 0 0 3815)) (by omega) (by omega) (by omega)) (by omega) ⟨by decide, by decide⟩ (by simp only [zsp]; omega)
            have hZ28U : zU [] Z Z28 := zU_u hZ25U hZ28 (Or.inl rfl)
            have hZ28K : zC [1, 2] Z Z28 := zC_u hZ25K hZ28 (zcl_2w (by omega) rfl)
            intro μ9 e9
            replace e9 := e9.trans (zm_wI (Z := Z25) (ν := ν) hZ28 (show ((0 : Nat) : Int) = 0 from rfl) (show ((0 : Nat) : Int) = 0 from rfl) (i3I (y := (3851 + 8 * (Z20 2 0 0 3815))) (i3A (i3A (show (3850 : Int32) = i3 3850 from rfl) (i3M (show (8 : Int32) = i3 8 from rfl) (zm_rd (Z := Z20) (ν := ν) (k := 2) (show ((0 : Nat) : Int) = 0 from rfl) (show ((0 : Nat) : Int) = 0 from rfl) (show ((3815 : Nat) : Int) = 3815 from rfl)))) (show (1 : Int32) = i3 1 from rfl)) (by omega) (by omega) (by omega)) (rfl : i3 a2 = i3 a2))
            subst e9
            refine wz_i0 (i3O (n := 4400) (i3A (i3A (show (3850 : Int32) = i3 3850 from rfl) (i3M (show (8 : Int32) = i3 8 from rfl) (zm_rd (Z := Z20) (ν := ν) (k := 2) (show ((0 : Nat) : Int) = 0 from rfl) (show ((0 : Nat) : Int) = 0 from rfl) (show ((3815 : Nat) : Int) = 3815 from rfl)))) (show (7 : Int32) = i3 7 from rfl)) (by omega) (by omega) (by omega)) ?_
            have r29 := zM_k hZ28I 2 0 0 0 (lo := 0) (hi := 671) (by decide) rfl
            obtain ⟨Z30, hZ30⟩ := zx (zu Z28 2 0 0 (3857 + 8 * (Z20 2 0 0 3815)) (Z28 2 0 0 0))
            replace hP := zl_e hP hZ30
            have hZ30I := zM_u2 hZ28I hZ30 (lo := 0) (hi := 671) (zs_3850_7 (x := (Z20 2 0 0 3815)) (by omega) (by omega) (by omega)) (by omega) ⟨by decide, by decide⟩ (by simp only [zsp]; omega)
            have hZ30U : zU [] Z Z30 := zU_u hZ28U hZ30 (Or.inl rfl)
            have hZ30K : zC [1, 2] Z Z30 := zC_u hZ28K hZ30 (zcl_2w (by omega) rfl)
            intro μ9 e9
            replace e9 := e9.trans (zm_wI (Z := Z28) (ν := ν) hZ30 (show ((0 : Nat) : Int) = 0 from rfl) (show ((0 : Nat) : Int) = 0 from rfl) (i3I (y := (3857 + 8 * (Z20 2 0 0 3815))) (i3A (i3A (show (3850 : Int32) = i3 3850 from rfl) (i3M (show (8 : Int32) = i3 8 from rfl) (zm_rd (Z := Z20) (ν := ν) (k := 2) (show ((0 : Nat) : Int) = 0 from rfl) (show ((0 : Nat) : Int) = 0 from rfl) (show ((3815 : Nat) : Int) = 3815 from rfl)))) (show (7 : Int32) = i3 7 from rfl)) (by omega) (by omega) (by omega)) (zm_rd (Z := Z28) (ν := ν) (k := 2) (show ((0 : Nat) : Int) = 0 from rfl) (show ((0 : Nat) : Int) = 0 from rfl) (show ((0 : Nat) : Int) = 0 from rfl)))
            subst e9
            have r31 := zM_k hZ30I 2 0 0 3815 (lo := 0) (hi := 12) (by decide) rfl
            have q32 := (zu_ne (k' := 2) (b' := 0) (i' := 0) (j' := 3815) hZ30 (fun q => absurd q.2.2.2 (by omega))).trans ((zu_ne (k' := 2) (b' := 0) (i' := 0) (j' := 3815) hZ28 (fun q => absurd q.2.2.2 (by omega))).trans (zu_ne (k' := 2) (b' := 0) (i' := 0) (j' := 3815) hZ25 (fun q => absurd q.2.2.2 (by omega))))
            obtain ⟨Z33, hZ33⟩ := zx (zu Z30 2 0 0 3815 ((Z30 2 0 0 3815) + 1))
            replace hP := zl_e hP hZ33
            have r34 := zM_k hZ30I 2 0 0 2000 (lo := 0) (hi := 60) (by decide) rfl
            have q35 := (zu_ne (k' := 2) (b' := 0) (i' := 0) (j' := 2000) hZ30 (fun q => absurd q.2.2.2 (by omega))).trans ((zu_ne (k' := 2) (b' := 0) (i' := 0) (j' := 2000) hZ28 (fun q => absurd q.2.2.2 (by omega))).trans (zu_ne (k' := 2) (b' := 0) (i' := 0) (j' := 2000) hZ25 (fun q => absurd q.2.2.2 (by omega))))
            have r36 := zM_k hZ30I 2 0 0 (3850 + 8 * (Z20 2 0 0 3815)) (lo := 0) (hi := 59) (by decide) (zs_3850_0 (x := (Z20 2 0 0 3815)) (by omega) (by omega) (by omega))
            have q37 := (zu_ne (k' := 2) (b' := 0) (i' := 0) (j' := (3850 + 8 * (Z20 2 0 0 3815))) hZ30 (fun q => absurd q.2.2.2 (by omega))).trans ((zu_ne (k' := 2) (b' := 0) (i' := 0) (j' := (3850 + 8 * (Z20 2 0 0 3815))) hZ28 (fun q => absurd q.2.2.2 (by omega))).trans (zu_at hZ25))
            have hZ33I := zM_qn2 hZ30I hZ33 (p := (Z20 2 0 0 3815)) (by omega) (by omega) (by omega)
            have hZ33U : zU [] Z Z33 := zU_u hZ30U hZ33 (Or.inl rfl)
            have hZ33K : zC [1, 2] Z Z33 := zC_u hZ30K hZ33 (by decide)
            intro μ9 e9
            replace e9 := e9.trans (zm_wI (Z := Z30) (ν := ν) hZ33 (show ((0 : Nat) : Int) = 0 from rfl) (show ((0 : Nat) : Int) = 0 from rfl) (show ((3815 : Nat) : Int) = 3815 from rfl) (i3A (zm_rd (Z := Z30) (ν := ν) (k := 2) (show ((0 : Nat) : Int) = 0 from rfl) (show ((0 : Nat) : Int) = 0 from rfl) (show ((3815 : Nat) : Int) = 3815 from rfl)) (show (1 : Int32) = i3 1 from rfl)))
            subst e9
            exact zlY hP (zm_rd (Z := Z20) (ν := ν) (k := 2) (show ((0 : Nat) : Int) = 0 from rfl) (show ((0 : Nat) : Int) = 0 from rfl) (show ((3815 : Nat) : Int) = 3815 from rfl)) (.inl rfl) ⟨hZ33I, hZ33K, hZ33U⟩
/- yX12_quarrelled -/
def zy_458 (Z : qz_Z) (a1 : Int) (a2 : Int) : qz_Z × Int := (if a1 < 0 then (zlet (zu Z 1 0 0 2 1) (fun Z5 => (Z5, 0))) else (if ((Z 2 0 0 3815) - 1) < a1 then (zlet (zu Z 1 0 0 2 1) (fun Z8 => (Z8, 0))) else (zlet (zu Z 1 0 0 2 0) (fun Z9 => (if a2 < 0 then (zlet (zu Z9 1 0 0 2 2) (fun Z11 => (Z11, 0))) else (if 7 < a2 then (zlet (zu Z9 1 0 0 2 2) (fun Z13 => (Z13, 0))) else (zlet (zu Z9 1 0 0 2 0) (fun Z14 => (Z14, (Z14 2 0 0 (3850 + 8 * a1 + a2)))))))))))
theorem sy_458 {s : zSM} {Z : qz_Z} {ν : qz_N} (hZ : zM s Z) (gq : Z 1 0 0 35 = 0) (hM : s.2 + 0 ≤ 1000000000) {a1 : Int} (ga1 : -2147483648 ≤ a1 ∧ a1 ≤ 2147483647) {a2 : Int} (ga2 : -2147483648 ≤ a2 ∧ a2 ≤ 2147483647) {ν1 : qz_N} : ∃ (Z1 : qz_Z) (ν2 : qz_N) (v : Int), (Z1, v) = zy_458 Z a1 a2 ∧ (ν2 = ν ∨ ν2 = ν1) ∧ qf_458 [.inr (.inr (some (1, 0, 0))), .inl (i3 a1), .inl (i3 a2)] (zm Z ν) = some (zm Z1 ν2, .inl (some (.inl (i3 v)))) ∧ (fun Z1 => zM s Z1 ∧ zC [1] Z Z1 ∧ zU [] Z Z1) Z1 := by
  obtain ⟨P, hP⟩ := zx (zy_458 Z a1 a2)
  refine zc_Y (Q := fun Z1 => zM s Z1 ∧ zC [1] Z Z1 ∧ zU [] Z Z1) hP (fw_458 (i3 a1) (i3 a2) _ _ ?_)
  replace hP : zE P (zy_458 Z a1 a2) := hP
  unfold zy_458 at hP
  have r1 := zM_k hZ 1 0 0 35 (lo := 0) (hi := 1) (by decide) rfl
  have r2 := zM_k hZ 1 0 0 34 (lo := 0) (hi := 8) (by decide) rfl
  have r3 := zM_f hZ 1 0 0 37
  refine wz_br (i3L (rfl : i3 a1 = i3 a1) (show (0 : Int32) = i3 0 from rfl) (by omega) (by omega) (by omega) (by omega)) (fun h4 => ?_) (fun h4 => ?_)
  · replace hP := zE_p hP h4
    obtain ⟨Z5, hZ5⟩ := zx (zu Z 1 0 0 2 1)
    replace hP := zl_e hP hZ5
    have hZ5I := zM_u hZ hZ5 (lo := -2147483648) (hi := 2147483647) (by decide) rfl (by omega) ⟨by decide, by decide⟩ (Or.inr (by decide)) rfl
    have hZ5U : zU [] Z Z5 := zU_u zU_r hZ5 (Or.inl rfl)
    have hZ5K : zC [1] Z Z5 := zC_u zC_r hZ5 (by decide)
    intro μ9 e9
    replace e9 := e9.trans (zm_wI (Z := Z) (ν := ν) hZ5 (show ((0 : Nat) : Int) = 0 from rfl) (show ((0 : Nat) : Int) = 0 from rfl) (show ((2 : Nat) : Int) = 2 from rfl) (show (1 : Int32) = i3 1 from rfl))
    subst e9
    exact zlY hP (show (0 : Int32) = i3 0 from rfl) (.inl rfl) ⟨hZ5I, hZ5K, hZ5U⟩
  · replace hP := zE_n hP h4
    have r6 := zM_k hZ 2 0 0 3815 (lo := 0) (hi := 12) (by decide) rfl
    refine wz_br (i3L (i3S (zm_rd (Z := Z) (ν := ν) (k := 2) (show ((0 : Nat) : Int) = 0 from rfl) (show ((0 : Nat) : Int) = 0 from rfl) (show ((3815 : Nat) : Int) = 3815 from rfl)) (show (1 : Int32) = i3 1 from rfl)) (rfl : i3 a1 = i3 a1) (by omega) (by omega) (by omega) (by omega)) (fun h7 => ?_) (fun h7 => ?_)
    · replace hP := zE_p hP h7
      obtain ⟨Z8, hZ8⟩ := zx (zu Z 1 0 0 2 1)
      replace hP := zl_e hP hZ8
      have hZ8I := zM_u hZ hZ8 (lo := -2147483648) (hi := 2147483647) (by decide) rfl (by omega) ⟨by decide, by decide⟩ (Or.inr (by decide)) rfl
      have hZ8U : zU [] Z Z8 := zU_u zU_r hZ8 (Or.inl rfl)
      have hZ8K : zC [1] Z Z8 := zC_u zC_r hZ8 (by decide)
      intro μ9 e9
      replace e9 := e9.trans (zm_wI (Z := Z) (ν := ν) hZ8 (show ((0 : Nat) : Int) = 0 from rfl) (show ((0 : Nat) : Int) = 0 from rfl) (show ((2 : Nat) : Int) = 2 from rfl) (show (1 : Int32) = i3 1 from rfl))
      subst e9
      exact zlY hP (show (0 : Int32) = i3 0 from rfl) (.inl rfl) ⟨hZ8I, hZ8K, hZ8U⟩
    · replace hP := zE_n hP h7
      obtain ⟨Z9, hZ9⟩ := zx (zu Z 1 0 0 2 0)
      replace hP := zl_e hP hZ9
      have hZ9I := zM_0 hZ hZ9 (by decide) (Or.inr (by decide))
      have hZ9U : zU [] Z Z9 := zU_u zU_r hZ9 (Or.inl rfl)
      have hZ9K : zC [1] Z Z9 := zC_u zC_r hZ9 (by decide)
      intro μ9 e9
      replace e9 := e9.trans (zm_wI (Z := Z) (ν := ν) hZ9 (show ((0 : Nat) : Int) = 0 from rfl) (show ((0 : Nat) : Int) = 0 from rfl) (show ((2 : Nat) : Int) = 2 from rfl) (show (0 : Int32) = i3 0 from rfl))
      subst e9
      refine wz_br (i3L (rfl : i3 a2 = i3 a2) (show (0 : Int32) = i3 0 from rfl) (by omega) (by omega) (by omega) (by omega)) (fun h10 => ?_) (fun h10 => ?_)
      · replace hP := zE_p hP h10
        obtain ⟨Z11, hZ11⟩ := zx (zu Z9 1 0 0 2 2)
        replace hP := zl_e hP hZ11
        have hZ11I := zM_u hZ9I hZ11 (lo := -2147483648) (hi := 2147483647) (by decide) rfl (by omega) ⟨by decide, by decide⟩ (Or.inr (by decide)) rfl
        have hZ11U : zU [] Z Z11 := zU_u hZ9U hZ11 (Or.inl rfl)
        have hZ11K : zC [1] Z Z11 := zC_u hZ9K hZ11 (by decide)
        intro μ9 e9
        replace e9 := e9.trans (zm_wI (Z := Z9) (ν := ν) hZ11 (show ((0 : Nat) : Int) = 0 from rfl) (show ((0 : Nat) : Int) = 0 from rfl) (show ((2 : Nat) : Int) = 2 from rfl) (show (2 : Int32) = i3 2 from rfl))
        subst e9
        exact zlY hP (show (0 : Int32) = i3 0 from rfl) (.inl rfl) ⟨hZ11I, hZ11K, hZ11U⟩
      · replace hP := zE_n hP h10
        refine wz_br (i3L (show (7 : Int32) = i3 7 from rfl) (rfl : i3 a2 = i3 a2) (by omega) (by omega) (by omega) (by omega)) (fun h12 => ?_) (fun h12 => ?_)
        · replace hP := zE_p hP h12
          obtain ⟨Z13, hZ13⟩ := zx (zu Z9 1 0 0 2 2)
          replace hP := zl_e hP hZ13
          have hZ13I := zM_u hZ9I hZ13 (lo := -2147483648) (hi := 2147483647) (by decide) rfl (by omega) ⟨by decide, by decide⟩ (Or.inr (by decide)) rfl
          have hZ13U : zU [] Z Z13 := zU_u hZ9U hZ13 (Or.inl rfl)
          have hZ13K : zC [1] Z Z13 := zC_u hZ9K hZ13 (by decide)
          intro μ9 e9
          replace e9 := e9.trans (zm_wI (Z := Z9) (ν := ν) hZ13 (show ((0 : Nat) : Int) = 0 from rfl) (show ((0 : Nat) : Int) = 0 from rfl) (show ((2 : Nat) : Int) = 2 from rfl) (show (2 : Int32) = i3 2 from rfl))
          subst e9
          exact zlY hP (show (0 : Int32) = i3 0 from rfl) (.inl rfl) ⟨hZ13I, hZ13K, hZ13U⟩
        · replace hP := zE_n hP h12
          obtain ⟨Z14, hZ14⟩ := zx (zu Z9 1 0 0 2 0)
          replace hP := zl_e hP hZ14
          have hZ14I := zM_0 hZ9I hZ14 (by decide) (Or.inr (by decide))
          have hZ14U : zU [] Z Z14 := zU_u hZ9U hZ14 (Or.inl rfl)
          have hZ14K : zC [1] Z Z14 := zC_u hZ9K hZ14 (by decide)
          intro μ9 e9
          replace e9 := e9.trans (zm_wI (Z := Z9) (ν := ν) hZ14 (show ((0 : Nat) : Int) = 0 from rfl) (show ((0 : Nat) : Int) = 0 from rfl) (show ((2 : Nat) : Int) = 2 from rfl) (show (0 : Int32) = i3 0 from rfl))
          subst e9
          refine wz_i0 (i3O (n := 4400) (i3A (i3A (show (3850 : Int32) = i3 3850 from rfl) (i3M (show (8 : Int32) = i3 8 from rfl) (rfl : i3 a1 = i3 a1))) (rfl : i3 a2 = i3 a2)) (by omega) (by omega) (by omega)) ?_
          have r15 := zM_f hZ14I 2 0 0 (3850 + 8 * a1 + a2)
          exact zlY hP (zm_rd (Z := Z14) (ν := ν) (k := 2) (show ((0 : Nat) : Int) = 0 from rfl) (show ((0 : Nat) : Int) = 0 from rfl) (i3I (y := (3850 + 8 * a1 + a2)) (i3A (i3A (show (3850 : Int32) = i3 3850 from rfl) (i3M (show (8 : Int32) = i3 8 from rfl) (rfl : i3 a1 = i3 a1))) (rfl : i3 a2 = i3 a2)) (by omega) (by omega) (by omega))) (.inl rfl) ⟨hZ14I, hZ14K, hZ14U⟩
/- yX12_cQueue -/
def zf_307 (Z : qz_Z) (a1 : Int) (a2 : Int) (a3 : Int) (a4 : Int) : qz_Z := (zlet (zu Z 2 0 0 (3022 + 60 * a1 + 3 * (Z 2 0 0 (3015 + 60 * a1))) a2) (fun Z8 => (zlet (zu Z8 2 0 0 (3023 + 60 * a1 + 3 * (Z 2 0 0 (3015 + 60 * a1))) a3) (fun Z9 => (zlet (zu Z9 2 0 0 (3024 + 60 * a1 + 3 * (Z 2 0 0 (3015 + 60 * a1))) a4) (fun Z12 => (zlet (zu Z12 2 0 0 (3015 + 60 * a1) ((Z 2 0 0 (3015 + 60 * a1)) + 1)) (fun Z15 => (zlet (zu Z15 2 0 0 (210 + 20 * a2) 1) (fun Z27 => Z27))))))))))
theorem sp_307 {s : zSM} {Z : qz_Z} {ν : qz_N} (hZ : zM s Z) {a1 : Int} (ga1 : 0 ≤ a1 ∧ a1 ≤ 1) {a2 : Int} (ga2 : 0 ≤ a2 ∧ a2 ≤ 47) {a3 : Int} (ga3 : 1 ≤ a3 ∧ a3 ≤ 9999) {a4 : Int} (ga4 : 1 ≤ a4 ∧ a4 ≤ 9999) (gx0 : Z 2 0 0 (3015 + 60 * a1) ≤ 11) (gx1 : Z 2 0 0 (210 + 20 * a2) ≤ 1) (gx2 : a1 < Z 2 0 0 3000) (gx3 : a4 ≤ a3) (gx4 : a3 ≤ a4 + 200 * Z 2 0 0 (3013 + 60 * a1)) (hM : s.2 + 0 ≤ 1000000000) : ∃ P : qz_Z, P = zf_307 Z a1 a2 a3 a4 ∧ (qf_307 [.inr (.inr (some (1, 0, 0))), .inl (i3 a1), .inl (i3 a2), .inl (i3 a3), .inl (i3 a4)] (zm Z ν) = some (zm P ν, .inl none) ∧ zM s P ∧ zC [2] Z P ∧ zU [] Z P) := by
  obtain ⟨P, hP⟩ := zx (zf_307 Z a1 a2 a3 a4)
  refine zc_V (Q := fun P => zM s P ∧ zC [2] Z P ∧ zU [] Z P) hP (fw_307 (i3 a1) (i3 a2) (i3 a3) (i3 a4) _ _ ?_)
  replace hP : zE P (zf_307 Z a1 a2 a3 a4) := hP
  unfold zf_307 at hP
  have r1 := zM_k hZ 2 0 0 (3015 + 60 * a1) (lo := 0) (hi := 12) (by decide) (zs_3010_5 (x := (a1 + 0)) (by omega) (by omega) (by omega))
  have r2 := zM_k hZ 2 0 0 (210 + 20 * a2) (lo := 0) (hi := 4) (by decide) (zs_200_10 (x := a2) (by omega) (by omega) (by omega))
  have r3 := zM_pl hZ a2
  have r4 := zM_k hZ 2 0 0 102 (lo := 0) (hi := 48) (by decide) rfl
  have r5 := zM_k hZ 2 0 0 3000 (lo := 0) (hi := 2) (by decide) rfl
  have r6 := zM_k hZ 2 0 0 (3013 + 60 * a1) (lo := 0) (hi := 500) (by decide) (zs_3010_3 (x := (a1 + 0)) (by omega) (by omega) (by omega))
  have r7 := zM_cs hZ a1
  refine wz_i0 (i3O (n := 4400) (i3A (i3A (show (3010 : Int32) = i3 3010 from rfl) (i3M (show (60 : Int32) = i3 60 from rfl) (rfl : i3 a1 = i3 a1))) (show (5 : Int32) = i3 5 from rfl)) (by omega) (by omega) (by omega)) ?_
  refine wz_i0 (i3O (n := 4400) (i3A (i3A (i3A (i3A (show (3010 : Int32) = i3 3010 from rfl) (i3M (show (60 : Int32) = i3 60 from rfl) (rfl : i3 a1 = i3 a1))) (show (12 : Int32) = i3 12 from rfl)) (i3M (show (3 : Int32) = i3 3 from rfl) (zm_rd (Z := Z) (ν := ν) (k := 2) (show ((0 : Nat) : Int) = 0 from rfl) (show ((0 : Nat) : Int) = 0 from rfl) (i3I (y := (3015 + 60 * a1)) (i3A (i3A (show (3010 : Int32) = i3 3010 from rfl) (i3M (show (60 : Int32) = i3 60 from rfl) (rfl : i3 a1 = i3 a1))) (show (5 : Int32) = i3 5 from rfl)) (by omega) (by omega) (by omega))))) (show (0 : Int32) = i3 0 from rfl)) (by omega) (by omega) (by omega)) ?_
  obtain ⟨Z8, hZ8⟩ := zx (zu Z 2 0 0 (3022 + 60 * a1 + 3 * (Z 2 0 0 (3015 + 60 * a1))) a2)
  replace hP := zl_e hP hZ8
  have hZ8I := zM_u2 hZ hZ8 (lo := 0) (hi := 47) (zs_lot_0 (c := a1 + 0) (pl := (Z 2 0 0 (3015 + 60 * a1)) + 0) (by omega) (by omega) (by omega) (by omega) (by omega)) (by omega) ⟨by decide, by decide⟩ (by simp only [zsp]; omega)
  have hZ8U : zU [] Z Z8 := zU_u zU_r hZ8 (Or.inl rfl)
  have hZ8K : zC [2] Z Z8 := zC_u zC_r hZ8 (zcl_2w (by omega) rfl)
  intro μ9 e9
  replace e9 := e9.trans (zm_wI (Z := Z) (ν := ν) hZ8 (show ((0 : Nat) : Int) = 0 from rfl) (show ((0 : Nat) : Int) = 0 from rfl) (i3I (y := (3022 + 60 * a1 + 3 * (Z 2 0 0 (3015 + 60 * a1)))) (i3A (i3A (i3A (i3A (show (3010 : Int32) = i3 3010 from rfl) (i3M (show (60 : Int32) = i3 60 from rfl) (rfl : i3 a1 = i3 a1))) (show (12 : Int32) = i3 12 from rfl)) (i3M (show (3 : Int32) = i3 3 from rfl) (zm_rd (Z := Z) (ν := ν) (k := 2) (show ((0 : Nat) : Int) = 0 from rfl) (show ((0 : Nat) : Int) = 0 from rfl) (i3I (y := (3015 + 60 * a1)) (i3A (i3A (show (3010 : Int32) = i3 3010 from rfl) (i3M (show (60 : Int32) = i3 60 from rfl) (rfl : i3 a1 = i3 a1))) (show (5 : Int32) = i3 5 from rfl)) (by omega) (by omega) (by omega))))) (show (0 : Int32) = i3 0 from rfl)) (by omega) (by omega) (by omega)) (rfl : i3 a2 = i3 a2))
  subst e9
  refine wz_i0 (i3O (n := 4400) (i3A (i3A (i3A (i3A (show (3010 : Int32) = i3 3010 from rfl) (i3M (show (60 : Int32) = i3 60 from rfl) (rfl : i3 a1 = i3 a1))) (show (12 : Int32) = i3 12 from rfl)) (i3M (show (3 : Int32) = i3 3 from rfl) (zm_rd (Z := Z) (ν := ν) (k := 2) (show ((0 : Nat) : Int) = 0 from rfl) (show ((0 : Nat) : Int) = 0 from rfl) (i3I (y := (3015 + 60 * a1)) (i3A (i3A (show (3010 : Int32) = i3 3010 from rfl) (i3M (show (60 : Int32) = i3 60 from rfl) (rfl : i3 a1 = i3 a1))) (show (5 : Int32) = i3 5 from rfl)) (by omega) (by omega) (by omega))))) (show (1 : Int32) = i3 1 from rfl)) (by omega) (by omega) (by omega)) ?_
  obtain ⟨Z9, hZ9⟩ := zx (zu Z8 2 0 0 (3023 + 60 * a1 + 3 * (Z 2 0 0 (3015 + 60 * a1))) a3)
  replace hP := zl_e hP hZ9
  have r10 := zM_k hZ8I 2 0 0 (3015 + 60 * a1) (lo := 0) (hi := 12) (by decide) (zs_3010_5 (x := (a1 + 0)) (by omega) (by omega) (by omega))
  have q11 := zu_ne (k' := 2) (b' := 0) (i' := 0) (j' := (3015 + 60 * a1)) hZ8 (fun q => absurd q.2.2.2 (by omega))
  have hZ9I := zM_lw2 hZ8I hZ9 (lo := 0) (hi := 9999) (zs_lot_1 (c := a1 + 0) (pl := (Z 2 0 0 (3015 + 60 * a1)) + 0) (by omega) (by omega) (by omega) (by omega) (by omega)) (by omega) ⟨by decide, by decide⟩ (c := a1) (p := (Z 2 0 0 (3015 + 60 * a1))) (by omega) (by omega) (by omega) (by omega)
  have hZ9U : zU [] Z Z9 := zU_u hZ8U hZ9 (Or.inl rfl)
  have hZ9K : zC [2] Z Z9 := zC_u hZ8K hZ9 (zcl_2w (by omega) rfl)
  intro μ9 e9
  replace e9 := e9.trans (zm_wI (Z := Z8) (ν := ν) hZ9 (show ((0 : Nat) : Int) = 0 from rfl) (show ((0 : Nat) : Int) = 0 from rfl) (i3I (y := (3023 + 60 * a1 + 3 * (Z 2 0 0 (3015 + 60 * a1)))) (i3A (i3A (i3A (i3A (show (3010 : Int32) = i3 3010 from rfl) (i3M (show (60 : Int32) = i3 60 from rfl) (rfl : i3 a1 = i3 a1))) (show (12 : Int32) = i3 12 from rfl)) (i3M (show (3 : Int32) = i3 3 from rfl) (zm_rd (Z := Z) (ν := ν) (k := 2) (show ((0 : Nat) : Int) = 0 from rfl) (show ((0 : Nat) : Int) = 0 from rfl) (i3I (y := (3015 + 60 * a1)) (i3A (i3A (show (3010 : Int32) = i3 3010 from rfl) (i3M (show (60 : Int32) = i3 60 from rfl) (rfl : i3 a1 = i3 a1))) (show (5 : Int32) = i3 5 from rfl)) (by omega) (by omega) (by omega))))) (show (1 : Int32) = i3 1 from rfl)) (by omega) (by omega) (by omega)) (rfl : i3 a3 = i3 a3))
  subst e9
  refine wz_i0 (i3O (n := 4400) (i3A (i3A (i3A (i3A (show (3010 : Int32) = i3 3010 from rfl) (i3M (show (60 : Int32) = i3 60 from rfl) (rfl : i3 a1 = i3 a1))) (show (12 : Int32) = i3 12 from rfl)) (i3M (show (3 : Int32) = i3 3 from rfl) (zm_rd (Z := Z) (ν := ν) (k := 2) (show ((0 : Nat) : Int) = 0 from rfl) (show ((0 : Nat) : Int) = 0 from rfl) (i3I (y := (3015 + 60 * a1)) (i3A (i3A (show (3010 : Int32) = i3 3010 from rfl) (i3M (show (60 : Int32) = i3 60 from rfl) (rfl : i3 a1 = i3 a1))) (show (5 : Int32) = i3 5 from rfl)) (by omega) (by omega) (by omega))))) (show (2 : Int32) = i3 2 from rfl)) (by omega) (by omega) (by omega)) ?_
  obtain ⟨Z12, hZ12⟩ := zx (zu Z9 2 0 0 (3024 + 60 * a1 + 3 * (Z 2 0 0 (3015 + 60 * a1))) a4)
  replace hP := zl_e hP hZ12
  have r13 := zM_k hZ9I 2 0 0 (3015 + 60 * a1) (lo := 0) (hi := 12) (by decide) (zs_3010_5 (x := (a1 + 0)) (by omega) (by omega) (by omega))
  have q14 := zu_ne (k' := 2) (b' := 0) (i' := 0) (j' := (3015 + 60 * a1)) hZ9 (fun q => absurd q.2.2.2 (by omega))
  have hZ12I := zM_lw2 hZ9I hZ12 (lo := 0) (hi := 9999) (zs_lot_2 (c := a1 + 0) (pl := (Z 2 0 0 (3015 + 60 * a1)) + 0) (by omega) (by omega) (by omega) (by omega) (by omega)) (by omega) ⟨by decide, by decide⟩ (c := a1) (p := (Z 2 0 0 (3015 + 60 * a1))) (by omega) (by omega) (by omega) (by omega)
  have hZ12U : zU [] Z Z12 := zU_u hZ9U hZ12 (Or.inl rfl)
  have hZ12K : zC [2] Z Z12 := zC_u hZ9K hZ12 (zcl_2w (by omega) rfl)
  intro μ9 e9
  replace e9 := e9.trans (zm_wI (Z := Z9) (ν := ν) hZ12 (show ((0 : Nat) : Int) = 0 from rfl) (show ((0 : Nat) : Int) = 0 from rfl) (i3I (y := (3024 + 60 * a1 + 3 * (Z 2 0 0 (3015 + 60 * a1)))) (i3A (i3A (i3A (i3A (show (3010 : Int32) = i3 3010 from rfl) (i3M (show (60 : Int32) = i3 60 from rfl) (rfl : i3 a1 = i3 a1))) (show (12 : Int32) = i3 12 from rfl)) (i3M (show (3 : Int32) = i3 3 from rfl) (zm_rd (Z := Z) (ν := ν) (k := 2) (show ((0 : Nat) : Int) = 0 from rfl) (show ((0 : Nat) : Int) = 0 from rfl) (i3I (y := (3015 + 60 * a1)) (i3A (i3A (show (3010 : Int32) = i3 3010 from rfl) (i3M (show (60 : Int32) = i3 60 from rfl) (rfl : i3 a1 = i3 a1))) (show (5 : Int32) = i3 5 from rfl)) (by omega) (by omega) (by omega))))) (show (2 : Int32) = i3 2 from rfl)) (by omega) (by omega) (by omega)) (rfl : i3 a4 = i3 a4))
  subst e9
  refine wz_i0 (i3O (n := 4400) (i3A (i3A (show (3010 : Int32) = i3 3010 from rfl) (i3M (show (60 : Int32) = i3 60 from rfl) (rfl : i3 a1 = i3 a1))) (show (5 : Int32) = i3 5 from rfl)) (by omega) (by omega) (by omega)) ?_
  obtain ⟨Z15, hZ15⟩ := zx (zu Z12 2 0 0 (3015 + 60 * a1) ((Z 2 0 0 (3015 + 60 * a1)) + 1))
  replace hP := zl_e hP hZ15
  have r16 := zM_k hZ12I 2 0 0 (3015 + 60 * a1) (lo := 0) (hi := 12) (by decide) (zs_3010_5 (x := (a1 + 0)) (by omega) (by omega) (by omega))
  have q17 := zu_ne (k' := 2) (b' := 0) (i' := 0) (j' := (3015 + 60 * a1)) hZ12 (fun q => absurd q.2.2.2 (by omega))
  have r18 := zM_k hZ12I 2 0 0 3000 (lo := 0) (hi := 2) (by decide) rfl
  have q19 := (zu_ne (k' := 2) (b' := 0) (i' := 0) (j' := 3000) hZ12 (fun q => absurd q.2.2.2 (by omega))).trans ((zu_ne (k' := 2) (b' := 0) (i' := 0) (j' := 3000) hZ9 (fun q => absurd q.2.2.2 (by omega))).trans (zu_ne (k' := 2) (b' := 0) (i' := 0) (j' := 3000) hZ8 (fun q => absurd q.2.2.2 (by omega))))
  have r20 := zM_k hZ12I 2 0 0 (3023 + 60 * a1 + 3 * (Z 2 0 0 (3015 + 60 * a1))) (lo := 0) (hi := 9999) (by decide) (zs_lot_1 (c := a1 + 0) (pl := (Z 2 0 0 (3015 + 60 * a1)) + 0) (by omega) (by omega) (by omega) (by omega) (by omega))
  have q21 := (zu_ne (k' := 2) (b' := 0) (i' := 0) (j' := (3023 + 60 * a1 + 3 * (Z 2 0 0 (3015 + 60 * a1)))) hZ12 (fun q => absurd q.2.2.2 (by omega))).trans (zu_at hZ9)
  have r22 := zM_k hZ12I 2 0 0 (3024 + 60 * a1 + 3 * (Z 2 0 0 (3015 + 60 * a1))) (lo := 0) (hi := 9999) (by decide) (zs_lot_2 (c := a1 + 0) (pl := (Z 2 0 0 (3015 + 60 * a1)) + 0) (by omega) (by omega) (by omega) (by omega) (by omega))
  have q23 := zu_at hZ12
  have r24 := zM_k hZ12I 2 0 0 (3013 + 60 * a1) (lo := 0) (hi := 500) (by decide) (zs_3010_3 (x := (a1 + 0)) (by omega) (by omega) (by omega))
  have r25 := zM_cs hZ12I a1
  have q26 := (zu_ne (k' := 2) (b' := 0) (i' := 0) (j' := (3013 + 60 * a1)) hZ12 (fun q => absurd q.2.2.2 (by omega))).trans ((zu_ne (k' := 2) (b' := 0) (i' := 0) (j' := (3013 + 60 * a1)) hZ9 (fun q => absurd q.2.2.2 (by omega))).trans (zu_ne (k' := 2) (b' := 0) (i' := 0) (j' := (3013 + 60 * a1)) hZ8 (fun q => absurd q.2.2.2 (by omega))))
  have hZ15I := zM_ln2 hZ12I hZ15 (c := a1) (p := (Z 2 0 0 (3015 + 60 * a1))) (by omega) (by omega) (by omega) (by omega)
  have hZ15U : zU [] Z Z15 := zU_u hZ12U hZ15 (Or.inl rfl)
  have hZ15K : zC [2] Z Z15 := zC_u hZ12K hZ15 (zcl_2w (by omega) rfl)
  intro μ9 e9
  replace e9 := e9.trans (zm_wI (Z := Z12) (ν := ν) hZ15 (show ((0 : Nat) : Int) = 0 from rfl) (show ((0 : Nat) : Int) = 0 from rfl) (i3I (y := (3015 + 60 * a1)) (i3A (i3A (show (3010 : Int32) = i3 3010 from rfl) (i3M (show (60 : Int32) = i3 60 from rfl) (rfl : i3 a1 = i3 a1))) (show (5 : Int32) = i3 5 from rfl)) (by omega) (by omega) (by omega)) (i3A (zm_rd (Z := Z) (ν := ν) (k := 2) (show ((0 : Nat) : Int) = 0 from rfl) (show ((0 : Nat) : Int) = 0 from rfl) (i3I (y := (3015 + 60 * a1)) (i3A (i3A (show (3010 : Int32) = i3 3010 from rfl) (i3M (show (60 : Int32) = i3 60 from rfl) (rfl : i3 a1 = i3 a1))) (show (5 : Int32) = i3 5 from rfl)) (by omega) (by omega) (by omega))) (show (1 : Int32) = i3 1 from rfl)))
  subst e9
  refine wz_i0 (i3O (n := 4400) (i3A (i3A (show (200 : Int32) = i3 200 from rfl) (i3M (show (20 : Int32) = i3 20 from rfl) (rfl : i3 a2 = i3 a2))) (show (10 : Int32) = i3 10 from rfl)) (by omega) (by omega) (by omega)) ?_
  obtain ⟨Z27, hZ27⟩ := zx (zu Z15 2 0 0 (210 + 20 * a2) 1)
  replace hP := zl_e hP hZ27
  have r28 := zM_k hZ15I 2 0 0 (210 + 20 * a2) (lo := 0) (hi := 4) (by decide) (zs_200_10 (x := a2) (by omega) (by omega) (by omega))
  have r29 := zM_pl hZ15I a2
  have r30 := zM_k hZ15I 2 0 0 102 (lo := 0) (hi := 48) (by decide) rfl
  have q31 := (zu_ne (k' := 2) (b' := 0) (i' := 0) (j' := 102) hZ15 (fun q => absurd q.2.2.2 (by omega))).trans ((zu_ne (k' := 2) (b' := 0) (i' := 0) (j' := 102) hZ12 (fun q => absurd q.2.2.2 (by omega))).trans ((zu_ne (k' := 2) (b' := 0) (i' := 0) (j' := 102) hZ9 (fun q => absurd q.2.2.2 (by omega))).trans (zu_ne (k' := 2) (b' := 0) (i' := 0) (j' := 102) hZ8 (fun q => absurd q.2.2.2 (by omega)))))
  have q32 := (zu_ne (k' := 2) (b' := 0) (i' := 0) (j' := (210 + 20 * a2)) hZ15 (fun q => absurd q.2.2.2 (by omega))).trans ((zu_ne (k' := 2) (b' := 0) (i' := 0) (j' := (210 + 20 * a2)) hZ12 (fun q => absurd q.2.2.2 (by omega))).trans ((zu_ne (k' := 2) (b' := 0) (i' := 0) (j' := (210 + 20 * a2)) hZ9 (fun q => absurd q.2.2.2 (by omega))).trans (zu_ne (k' := 2) (b' := 0) (i' := 0) (j' := (210 + 20 * a2)) hZ8 (fun q => absurd q.2.2.2 (by omega)))))
  have r33 := zM_k hZ15I 2 0 0 (211 + 20 * a2) (lo := -1) (hi := 6) (by decide) (zs_200_11 (x := a2) (by omega) (by omega) (by omega))
  have hZ27I := zM_ps2 hZ15I hZ27 (q := a2) (by omega) (by omega) (by omega) (by omega)
  have hZ27U : zU [] Z Z27 := zU_u hZ15U hZ27 (Or.inl rfl)
  have hZ27K : zC [2] Z Z27 := zC_u hZ15K hZ27 (zcl_2w (by omega) rfl)
  intro μ9 e9
  replace e9 := e9.trans (zm_wI (Z := Z15) (ν := ν) hZ27 (show ((0 : Nat) : Int) = 0 from rfl) (show ((0 : Nat) : Int) = 0 from rfl) (i3I (y := (210 + 20 * a2)) (i3A (i3A (show (200 : Int32) = i3 200 from rfl) (i3M (show (20 : Int32) = i3 20 from rfl) (rfl : i3 a2 = i3 a2))) (show (10 : Int32) = i3 10 from rfl)) (by omega) (by omega) (by omega)) (show (1 : Int32) = i3 1 from rfl))
  subst e9
  exact zlV hP ⟨hZ27I, hZ27K, hZ27U⟩
/- yX12_queue -/
def zy_459 (Z : qz_Z) (dm : qz_Z → Int → Int → Int → Int → Int → Int → Int → qz_Z) (a1 : Int) (a2 : Int) (a3 : Int) (a4 : Int) : qz_Z × Int := (if a1 < 0 then (zlet (zu Z 1 0 0 2 1) (fun Z5 => (Z5, 0))) else (if ((Z 2 0 0 3000) - 1) < a1 then (zlet (zu Z 1 0 0 2 1) (fun Z8 => (Z8, 0))) else (if a2 < 0 then (zlet (zu Z 1 0 0 2 1) (fun Z10 => (Z10, 0))) else (if ((Z 2 0 0 102) - 1) < a2 then (zlet (zu Z 1 0 0 2 1) (fun Z13 => (Z13, 0))) else (zlet (zu Z 1 0 0 2 0) (fun Z14 => (if a3 < 1 then (zlet (zu Z14 1 0 0 2 2) (fun Z16 => (Z16, 0))) else (if 9999 < a3 then (zlet (zu Z14 1 0 0 2 2) (fun Z18 => (Z18, 0))) else (if a4 < 1 then (zlet (zu Z14 1 0 0 2 2) (fun Z20 => (Z20, 0))) else (if a3 < a4 then (zlet (zu Z14 1 0 0 2 2) (fun Z22 => (Z22, 0))) else (if (200 * (Z14 2 0 0 (3013 + 60 * a1))) < (a3 - a4) then (zlet (zu Z14 1 0 0 2 2) (fun Z28 => (Z28, 0))) else (zlet (zu Z14 1 0 0 2 0) (fun Z29 => (if (Z29 2 0 0 (210 + 20 * a2)) ≠ 0 then (zlet (zu Z29 1 0 0 2 3) (fun Z35 => (Z35, 0))) else (if (Z29 2 0 0 (204 + 20 * a2)) ≤ 0 then (zlet (zu Z29 1 0 0 2 3) (fun Z38 => (Z38, 0))) else (zlet (zf_390 Z29 (Z29 2 0 0 (211 + 20 * a2))) (fun v40 => (if v40 ≠ 0 then (zlet (zu Z29 1 0 0 2 3) (fun Z42 => (Z42, 0))) else (if 12 ≤ (Z29 2 0 0 (3015 + 60 * a1)) then (zlet (zu Z29 1 0 0 2 3) (fun Z45 => (Z45, 0))) else (zlet (zu Z29 1 0 0 2 0) (fun Z46 => (zlet (dm Z46 16 a1 a2 a3 a4 0 0) (fun Z53 => (zlet (zf_307 Z53 a1 a2 a3 a4) (fun Z66 => (Z66, ((Z66 2 0 0 (3015 + 60 * a1)) - 1)))))))))))))))))))))))))))
theorem sy_459 {s : zSM} {Z : qz_Z} {ν : qz_N} (hZ : zM s Z) (gq : Z 1 0 0 35 = 0) (hM : s.2 + 0 ≤ 1000000000) {a1 : Int} (ga1 : -2147483648 ≤ a1 ∧ a1 ≤ 2147483647) {a2 : Int} (ga2 : -2147483648 ≤ a2 ∧ a2 ≤ 2147483647) {a3 : Int} (ga3 : -2147483648 ≤ a3 ∧ a3 ≤ 2147483647) {a4 : Int} (ga4 : -2147483648 ≤ a4 ∧ a4 ≤ 2147483647) {dk : qz_Z → qz_Z} {dm : qz_Z → Int → Int → Int → Int → Int → Int → Int → qz_Z} {ν1 : qz_N} (hdm : zDm s ν ν1 Z dk dm) : ∃ (Z1 : qz_Z) (ν2 : qz_N) (v : Int), (Z1, v) = zy_459 Z dm a1 a2 a3 a4 ∧ (ν2 = ν ∨ ν2 = ν1) ∧ qf_459 [.inr (.inr (some (1, 0, 0))), .inl (i3 a1), .inl (i3 a2), .inl (i3 a3), .inl (i3 a4)] (zm Z ν) = some (zm Z1 ν2, .inl (some (.inl (i3 v)))) ∧ (fun Z1 => zM s Z1 ∧ zC [1, 2, 101, 102, 200] Z Z1 ∧ zU [] Z Z1) Z1 := by
  obtain ⟨P, hP⟩ := zx (zy_459 Z dm a1 a2 a3 a4)
  refine zc_Y (Q := fun Z1 => zM s Z1 ∧ zC [1, 2, 101, 102, 200] Z Z1 ∧ zU [] Z Z1) hP (fw_459 (i3 a1) (i3 a2) (i3 a3) (i3 a4) _ _ ?_)
  replace hP : zE P (zy_459 Z dm a1 a2 a3 a4) := hP
  unfold zy_459 at hP
  have r1 := zM_k hZ 1 0 0 35 (lo := 0) (hi := 1) (by decide) rfl
  have r2 := zM_k hZ 1 0 0 34 (lo := 0) (hi := 8) (by decide) rfl
  have r3 := zM_f hZ 1 0 0 37
  refine wz_br (i3L (rfl : i3 a1 = i3 a1) (show (0 : Int32) = i3 0 from rfl) (by omega) (by omega) (by omega) (by omega)) (fun h4 => ?_) (fun h4 => ?_)
  · replace hP := zE_p hP h4
    obtain ⟨Z5, hZ5⟩ := zx (zu Z 1 0 0 2 1)
    replace hP := zl_e hP hZ5
    have hZ5I := zM_u hZ hZ5 (lo := -2147483648) (hi := 2147483647) (by decide) rfl (by omega) ⟨by decide, by decide⟩ (Or.inr (by decide)) rfl
    have hZ5U : zU [] Z Z5 := zU_u zU_r hZ5 (Or.inl rfl)
    have hZ5K : zC [1, 2, 101, 102, 200] Z Z5 := zC_u zC_r hZ5 (by decide)
    intro μ9 e9
    replace e9 := e9.trans (zm_wI (Z := Z) (ν := ν) hZ5 (show ((0 : Nat) : Int) = 0 from rfl) (show ((0 : Nat) : Int) = 0 from rfl) (show ((2 : Nat) : Int) = 2 from rfl) (show (1 : Int32) = i3 1 from rfl))
    subst e9
    exact zlY hP (show (0 : Int32) = i3 0 from rfl) (.inl rfl) ⟨hZ5I, hZ5K, hZ5U⟩
  · replace hP := zE_n hP h4
    have r6 := zM_k hZ 2 0 0 3000 (lo := 0) (hi := 2) (by decide) rfl
    refine wz_br (i3L (i3S (zm_rd (Z := Z) (ν := ν) (k := 2) (show ((0 : Nat) : Int) = 0 from rfl) (show ((0 : Nat) : Int) = 0 from rfl) (show ((3000 : Nat) : Int) = 3000 from rfl)) (show (1 : Int32) = i3 1 from rfl)) (rfl : i3 a1 = i3 a1) (by omega) (by omega) (by omega) (by omega)) (fun h7 => ?_) (fun h7 => ?_)
    · replace hP := zE_p hP h7
      obtain ⟨Z8, hZ8⟩ := zx (zu Z 1 0 0 2 1)
      replace hP := zl_e hP hZ8
      have hZ8I := zM_u hZ hZ8 (lo := -2147483648) (hi := 2147483647) (by decide) rfl (by omega) ⟨by decide, by decide⟩ (Or.inr (by decide)) rfl
      have hZ8U : zU [] Z Z8 := zU_u zU_r hZ8 (Or.inl rfl)
      have hZ8K : zC [1, 2, 101, 102, 200] Z Z8 := zC_u zC_r hZ8 (by decide)
      intro μ9 e9
      replace e9 := e9.trans (zm_wI (Z := Z) (ν := ν) hZ8 (show ((0 : Nat) : Int) = 0 from rfl) (show ((0 : Nat) : Int) = 0 from rfl) (show ((2 : Nat) : Int) = 2 from rfl) (show (1 : Int32) = i3 1 from rfl))
      subst e9
      exact zlY hP (show (0 : Int32) = i3 0 from rfl) (.inl rfl) ⟨hZ8I, hZ8K, hZ8U⟩
    · replace hP := zE_n hP h7
      refine wz_br (i3L (rfl : i3 a2 = i3 a2) (show (0 : Int32) = i3 0 from rfl) (by omega) (by omega) (by omega) (by omega)) (fun h9 => ?_) (fun h9 => ?_)
      · replace hP := zE_p hP h9
        obtain ⟨Z10, hZ10⟩ := zx (zu Z 1 0 0 2 1)
        replace hP := zl_e hP hZ10
        have hZ10I := zM_u hZ hZ10 (lo := -2147483648) (hi := 2147483647) (by decide) rfl (by omega) ⟨by decide, by decide⟩ (Or.inr (by decide)) rfl
        have hZ10U : zU [] Z Z10 := zU_u zU_r hZ10 (Or.inl rfl)
        have hZ10K : zC [1, 2, 101, 102, 200] Z Z10 := zC_u zC_r hZ10 (by decide)
        intro μ9 e9
        replace e9 := e9.trans (zm_wI (Z := Z) (ν := ν) hZ10 (show ((0 : Nat) : Int) = 0 from rfl) (show ((0 : Nat) : Int) = 0 from rfl) (show ((2 : Nat) : Int) = 2 from rfl) (show (1 : Int32) = i3 1 from rfl))
        subst e9
        exact zlY hP (show (0 : Int32) = i3 0 from rfl) (.inl rfl) ⟨hZ10I, hZ10K, hZ10U⟩
      · replace hP := zE_n hP h9
        have r11 := zM_k hZ 2 0 0 102 (lo := 0) (hi := 48) (by decide) rfl
        refine wz_br (i3L (i3S (zm_rd (Z := Z) (ν := ν) (k := 2) (show ((0 : Nat) : Int) = 0 from rfl) (show ((0 : Nat) : Int) = 0 from rfl) (show ((102 : Nat) : Int) = 102 from rfl)) (show (1 : Int32) = i3 1 from rfl)) (rfl : i3 a2 = i3 a2) (by omega) (by omega) (by omega) (by omega)) (fun h12 => ?_) (fun h12 => ?_)
        · replace hP := zE_p hP h12
          obtain ⟨Z13, hZ13⟩ := zx (zu Z 1 0 0 2 1)
          replace hP := zl_e hP hZ13
          have hZ13I := zM_u hZ hZ13 (lo := -2147483648) (hi := 2147483647) (by decide) rfl (by omega) ⟨by decide, by decide⟩ (Or.inr (by decide)) rfl
          have hZ13U : zU [] Z Z13 := zU_u zU_r hZ13 (Or.inl rfl)
          have hZ13K : zC [1, 2, 101, 102, 200] Z Z13 := zC_u zC_r hZ13 (by decide)
          intro μ9 e9
          replace e9 := e9.trans (zm_wI (Z := Z) (ν := ν) hZ13 (show ((0 : Nat) : Int) = 0 from rfl) (show ((0 : Nat) : Int) = 0 from rfl) (show ((2 : Nat) : Int) = 2 from rfl) (show (1 : Int32) = i3 1 from rfl))
          subst e9
          exact zlY hP (show (0 : Int32) = i3 0 from rfl) (.inl rfl) ⟨hZ13I, hZ13K, hZ13U⟩
        · replace hP := zE_n hP h12
          obtain ⟨Z14, hZ14⟩ := zx (zu Z 1 0 0 2 0)
          replace hP := zl_e hP hZ14
          have hZ14I := zM_0 hZ hZ14 (by decide) (Or.inr (by decide))
          have hZ14U : zU [] Z Z14 := zU_u zU_r hZ14 (Or.inl rfl)
          have hZ14K : zC [1, 2, 101, 102, 200] Z Z14 := zC_u zC_r hZ14 (by decide)
          intro μ9 e9
          replace e9 := e9.trans (zm_wI (Z := Z) (ν := ν) hZ14 (show ((0 : Nat) : Int) = 0 from rfl) (show ((0 : Nat) : Int) = 0 from rfl) (show ((2 : Nat) : Int) = 2 from rfl) (show (0 : Int32) = i3 0 from rfl))
          subst e9
          refine wz_br (i3L (rfl : i3 a3 = i3 a3) (show (1 : Int32) = i3 1 from rfl) (by omega) (by omega) (by omega) (by omega)) (fun h15 => ?_) (fun h15 => ?_)
          · replace hP := zE_p hP h15
            obtain ⟨Z16, hZ16⟩ := zx (zu Z14 1 0 0 2 2)
            replace hP := zl_e hP hZ16
            have hZ16I := zM_u hZ14I hZ16 (lo := -2147483648) (hi := 2147483647) (by decide) rfl (by omega) ⟨by decide, by decide⟩ (Or.inr (by decide)) rfl
            have hZ16U : zU [] Z Z16 := zU_u hZ14U hZ16 (Or.inl rfl)
            have hZ16K : zC [1, 2, 101, 102, 200] Z Z16 := zC_u hZ14K hZ16 (by decide)
            intro μ9 e9
            replace e9 := e9.trans (zm_wI (Z := Z14) (ν := ν) hZ16 (show ((0 : Nat) : Int) = 0 from rfl) (show ((0 : Nat) : Int) = 0 from rfl) (show ((2 : Nat) : Int) = 2 from rfl) (show (2 : Int32) = i3 2 from rfl))
            subst e9
            exact zlY hP (show (0 : Int32) = i3 0 from rfl) (.inl rfl) ⟨hZ16I, hZ16K, hZ16U⟩
          · replace hP := zE_n hP h15
            refine wz_br (i3L (show (9999 : Int32) = i3 9999 from rfl) (rfl : i3 a3 = i3 a3) (by omega) (by omega) (by omega) (by omega)) (fun h17 => ?_) (fun h17 => ?_)
            · replace hP := zE_p hP h17
              obtain ⟨Z18, hZ18⟩ := zx (zu Z14 1 0 0 2 2)
              replace hP := zl_e hP hZ18
              have hZ18I := zM_u hZ14I hZ18 (lo := -2147483648) (hi := 2147483647) (by decide) rfl (by omega) ⟨by decide, by decide⟩ (Or.inr (by decide)) rfl
              have hZ18U : zU [] Z Z18 := zU_u hZ14U hZ18 (Or.inl rfl)
              have hZ18K : zC [1, 2, 101, 102, 200] Z Z18 := zC_u hZ14K hZ18 (by decide)
              intro μ9 e9
              replace e9 := e9.trans (zm_wI (Z := Z14) (ν := ν) hZ18 (show ((0 : Nat) : Int) = 0 from rfl) (show ((0 : Nat) : Int) = 0 from rfl) (show ((2 : Nat) : Int) = 2 from rfl) (show (2 : Int32) = i3 2 from rfl))
              subst e9
              exact zlY hP (show (0 : Int32) = i3 0 from rfl) (.inl rfl) ⟨hZ18I, hZ18K, hZ18U⟩
            · replace hP := zE_n hP h17
              refine wz_br (i3L (rfl : i3 a4 = i3 a4) (show (1 : Int32) = i3 1 from rfl) (by omega) (by omega) (by omega) (by omega)) (fun h19 => ?_) (fun h19 => ?_)
              · replace hP := zE_p hP h19
                obtain ⟨Z20, hZ20⟩ := zx (zu Z14 1 0 0 2 2)
                replace hP := zl_e hP hZ20
                have hZ20I := zM_u hZ14I hZ20 (lo := -2147483648) (hi := 2147483647) (by decide) rfl (by omega) ⟨by decide, by decide⟩ (Or.inr (by decide)) rfl
                have hZ20U : zU [] Z Z20 := zU_u hZ14U hZ20 (Or.inl rfl)
                have hZ20K : zC [1, 2, 101, 102, 200] Z Z20 := zC_u hZ14K hZ20 (by decide)
                intro μ9 e9
                replace e9 := e9.trans (zm_wI (Z := Z14) (ν := ν) hZ20 (show ((0 : Nat) : Int) = 0 from rfl) (show ((0 : Nat) : Int) = 0 from rfl) (show ((2 : Nat) : Int) = 2 from rfl) (show (2 : Int32) = i3 2 from rfl))
                subst e9
                exact zlY hP (show (0 : Int32) = i3 0 from rfl) (.inl rfl) ⟨hZ20I, hZ20K, hZ20U⟩
              · replace hP := zE_n hP h19
                refine wz_br (i3L (rfl : i3 a3 = i3 a3) (rfl : i3 a4 = i3 a4) (by omega) (by omega) (by omega) (by omega)) (fun h21 => ?_) (fun h21 => ?_)
                · replace hP := zE_p hP h21
                  obtain ⟨Z22, hZ22⟩ := zx (zu Z14 1 0 0 2 2)
                  replace hP := zl_e hP hZ22
                  have hZ22I := zM_u hZ14I hZ22 (lo := -2147483648) (hi := 2147483647) (by decide) rfl (by omega) ⟨by decide, by decide⟩ (Or.inr (by decide)) rfl
                  have hZ22U : zU [] Z Z22 := zU_u hZ14U hZ22 (Or.inl rfl)
                  have hZ22K : zC [1, 2, 101, 102, 200] Z Z22 := zC_u hZ14K hZ22 (by decide)
                  intro μ9 e9
                  replace e9 := e9.trans (zm_wI (Z := Z14) (ν := ν) hZ22 (show ((0 : Nat) : Int) = 0 from rfl) (show ((0 : Nat) : Int) = 0 from rfl) (show ((2 : Nat) : Int) = 2 from rfl) (show (2 : Int32) = i3 2 from rfl))
                  subst e9
                  exact zlY hP (show (0 : Int32) = i3 0 from rfl) (.inl rfl) ⟨hZ22I, hZ22K, hZ22U⟩
                · replace hP := zE_n hP h21
                  refine wz_i0 (i3O (n := 4400) (i3A (i3A (show (3010 : Int32) = i3 3010 from rfl) (i3M (show (60 : Int32) = i3 60 from rfl) (rfl : i3 a1 = i3 a1))) (show (3 : Int32) = i3 3 from rfl)) (by omega) (by omega) (by omega)) ?_
                  have r23 := zM_k hZ14I 2 0 0 (3013 + 60 * a1) (lo := 0) (hi := 500) (by decide) (zs_3010_3 (x := (a1 + 0)) (by omega) (by omega) (by omega))
                  have r24 := zM_cs hZ14I a1
                  have r25 := zM_k hZ14I 2 0 0 3000 (lo := 0) (hi := 2) (by decide) rfl
                  have q26 := zu_ne (k' := 2) (b' := 0) (i' := 0) (j' := 3000) hZ14 (fun q => absurd q.1 (by decide))
                  refine wz_br (i3L (i3M (show (200 : Int32) = i3 200 from rfl) (zm_rd (Z := Z14) (ν := ν) (k := 2) (show ((0 : Nat) : Int) = 0 from rfl) (show ((0 : Nat) : Int) = 0 from rfl) (i3I (y := (3013 + 60 * a1)) (i3A (i3A (show (3010 : Int32) = i3 3010 from rfl) (i3M (show (60 : Int32) = i3 60 from rfl) (rfl : i3 a1 = i3 a1))) (show (3 : Int32) = i3 3 from rfl)) (by omega) (by omega) (by omega)))) (i3S (rfl : i3 a3 = i3 a3) (rfl : i3 a4 = i3 a4)) (by omega) (by omega) (by omega) (by omega)) (fun h27 => ?_) (fun h27 => ?_)
                  · replace hP := zE_p hP h27
                    obtain ⟨Z28, hZ28⟩ := zx (zu Z14 1 0 0 2 2)
                    replace hP := zl_e hP hZ28
                    have hZ28I := zM_u hZ14I hZ28 (lo := -2147483648) (hi := 2147483647) (by decide) rfl (by omega) ⟨by decide, by decide⟩ (Or.inr (by decide)) rfl
                    have hZ28U : zU [] Z Z28 := zU_u hZ14U hZ28 (Or.inl rfl)
                    have hZ28K : zC [1, 2, 101, 102, 200] Z Z28 := zC_u hZ14K hZ28 (by decide)
                    intro μ9 e9
                    replace e9 := e9.trans (zm_wI (Z := Z14) (ν := ν) hZ28 (show ((0 : Nat) : Int) = 0 from rfl) (show ((0 : Nat) : Int) = 0 from rfl) (show ((2 : Nat) : Int) = 2 from rfl) (show (2 : Int32) = i3 2 from rfl))
                    subst e9
                    exact zlY hP (show (0 : Int32) = i3 0 from rfl) (.inl rfl) ⟨hZ28I, hZ28K, hZ28U⟩
                  · replace hP := zE_n hP h27
                    obtain ⟨Z29, hZ29⟩ := zx (zu Z14 1 0 0 2 0)
                    replace hP := zl_e hP hZ29
                    have hZ29I := zM_0 hZ14I hZ29 (by decide) (Or.inr (by decide))
                    have hZ29U : zU [] Z Z29 := zU_u hZ14U hZ29 (Or.inl rfl)
                    have hZ29K : zC [1, 2, 101, 102, 200] Z Z29 := zC_u hZ14K hZ29 (by decide)
                    intro μ9 e9
                    replace e9 := e9.trans (zm_wI (Z := Z14) (ν := ν) hZ29 (show ((0 : Nat) : Int) = 0 from rfl) (show ((0 : Nat) : Int) = 0 from rfl) (show ((2 : Nat) : Int) = 2 from rfl) (show (0 : Int32) = i3 0 from rfl))
                    subst e9
                    refine wz_i0 (i3O (n := 4400) (i3A (i3A (show (200 : Int32) = i3 200 from rfl) (i3M (show (20 : Int32) = i3 20 from rfl) (rfl : i3 a2 = i3 a2))) (show (10 : Int32) = i3 10 from rfl)) (by omega) (by omega) (by omega)) ?_
                    have r30 := zM_k hZ29I 2 0 0 (210 + 20 * a2) (lo := 0) (hi := 4) (by decide) (zs_200_10 (x := a2) (by omega) (by omega) (by omega))
                    have r31 := zM_pl hZ29I a2
                    have r32 := zM_k hZ29I 2 0 0 102 (lo := 0) (hi := 48) (by decide) rfl
                    have q33 := (zu_ne (k' := 2) (b' := 0) (i' := 0) (j' := 102) hZ29 (fun q => absurd q.1 (by decide))).trans (zu_ne (k' := 2) (b' := 0) (i' := 0) (j' := 102) hZ14 (fun q => absurd q.1 (by decide)))
                    refine wz_br (i3NE (zm_rd (Z := Z29) (ν := ν) (k := 2) (show ((0 : Nat) : Int) = 0 from rfl) (show ((0 : Nat) : Int) = 0 from rfl) (i3I (y := (210 + 20 * a2)) (i3A (i3A (show (200 : Int32) = i3 200 from rfl) (i3M (show (20 : Int32) = i3 20 from rfl) (rfl : i3 a2 = i3 a2))) (show (10 : Int32) = i3 10 from rfl)) (by omega) (by omega) (by omega))) (show (0 : Int32) = i3 0 from rfl) (by omega) (by omega) (by omega) (by omega)) (fun h34 => ?_) (fun h34 => ?_)
                    · replace hP := zE_p hP h34
                      obtain ⟨Z35, hZ35⟩ := zx (zu Z29 1 0 0 2 3)
                      replace hP := zl_e hP hZ35
                      have hZ35I := zM_u hZ29I hZ35 (lo := -2147483648) (hi := 2147483647) (by decide) rfl (by omega) ⟨by decide, by decide⟩ (Or.inr (by decide)) rfl
                      have hZ35U : zU [] Z Z35 := zU_u hZ29U hZ35 (Or.inl rfl)
                      have hZ35K : zC [1, 2, 101, 102, 200] Z Z35 := zC_u hZ29K hZ35 (by decide)
                      intro μ9 e9
                      replace e9 := e9.trans (zm_wI (Z := Z29) (ν := ν) hZ35 (show ((0 : Nat) : Int) = 0 from rfl) (show ((0 : Nat) : Int) = 0 from rfl) (show ((2 : Nat) : Int) = 2 from rfl) (show (3 : Int32) = i3 3 from rfl))
                      subst e9
                      exact zlY hP (show (0 : Int32) = i3 0 from rfl) (.inl rfl) ⟨hZ35I, hZ35K, hZ35U⟩
                    · replace hP := zE_n hP h34
                      refine wz_i0 (i3O (n := 4400) (i3A (i3A (show (200 : Int32) = i3 200 from rfl) (i3M (show (20 : Int32) = i3 20 from rfl) (rfl : i3 a2 = i3 a2))) (show (4 : Int32) = i3 4 from rfl)) (by omega) (by omega) (by omega)) ?_
                      have r36 := zM_k hZ29I 2 0 0 (204 + 20 * a2) (lo := 0) (hi := 40) (by decide) (zs_200_4 (x := a2) (by omega) (by omega) (by omega))
                      refine wz_br (i3Le (zm_rd (Z := Z29) (ν := ν) (k := 2) (show ((0 : Nat) : Int) = 0 from rfl) (show ((0 : Nat) : Int) = 0 from rfl) (i3I (y := (204 + 20 * a2)) (i3A (i3A (show (200 : Int32) = i3 200 from rfl) (i3M (show (20 : Int32) = i3 20 from rfl) (rfl : i3 a2 = i3 a2))) (show (4 : Int32) = i3 4 from rfl)) (by omega) (by omega) (by omega))) (show (0 : Int32) = i3 0 from rfl) (by omega) (by omega) (by omega) (by omega)) (fun h37 => ?_) (fun h37 => ?_)
                      · replace hP := zE_p hP h37
                        obtain ⟨Z38, hZ38⟩ := zx (zu Z29 1 0 0 2 3)
                        replace hP := zl_e hP hZ38
                        have hZ38I := zM_u hZ29I hZ38 (lo := -2147483648) (hi := 2147483647) (by decide) rfl (by omega) ⟨by decide, by decide⟩ (Or.inr (by decide)) rfl
                        have hZ38U : zU [] Z Z38 := zU_u hZ29U hZ38 (Or.inl rfl)
                        have hZ38K : zC [1, 2, 101, 102, 200] Z Z38 := zC_u hZ29K hZ38 (by decide)
                        intro μ9 e9
                        replace e9 := e9.trans (zm_wI (Z := Z29) (ν := ν) hZ38 (show ((0 : Nat) : Int) = 0 from rfl) (show ((0 : Nat) : Int) = 0 from rfl) (show ((2 : Nat) : Int) = 2 from rfl) (show (3 : Int32) = i3 3 from rfl))
                        subst e9
                        exact zlY hP (show (0 : Int32) = i3 0 from rfl) (.inl rfl) ⟨hZ38I, hZ38K, hZ38U⟩
                      · replace hP := zE_n hP h37
                        refine wz_i0 (i3O (n := 4400) (i3A (i3A (show (200 : Int32) = i3 200 from rfl) (i3M (show (20 : Int32) = i3 20 from rfl) (rfl : i3 a2 = i3 a2))) (show (11 : Int32) = i3 11 from rfl)) (by omega) (by omega) (by omega)) ?_
                        have r39 := zM_k hZ29I 2 0 0 (211 + 20 * a2) (lo := -1) (hi := 6) (by decide) (zs_200_11 (x := a2) (by omega) (by omega) (by omega))
                        obtain ⟨v40, hv40, c9, lv40, uv40⟩ := sp_390 (ν := ν) hZ29I (a1 := (Z29 2 0 0 (211 + 20 * a2))) (by omega) (zbh (c := 0) (k := 0) hM (Nat.le_of_ble_eq_true rfl))
                        replace hP := zl_e hP hv40
                        refine wz_cI_of (zas (zcons rfl (zcons (zvi (zm_rd (Z := Z29) (ν := ν) (k := 2) (show ((0 : Nat) : Int) = 0 from rfl) (show ((0 : Nat) : Int) = 0 from rfl) (i3I (y := (211 + 20 * a2)) (i3A (i3A (show (200 : Int32) = i3 200 from rfl) (i3M (show (20 : Int32) = i3 20 from rfl) (rfl : i3 a2 = i3 a2))) (show (11 : Int32) = i3 11 from rfl)) (by omega) (by omega) (by omega)))) rfl)) c9) ?_
                        clear c9
                        refine wz_br (i3NE (rfl : i3 v40 = i3 v40) (show (0 : Int32) = i3 0 from rfl) (by omega) (by omega) (by omega) (by omega)) (fun h41 => ?_) (fun h41 => ?_)
                        · replace hP := zE_p hP h41
                          obtain ⟨Z42, hZ42⟩ := zx (zu Z29 1 0 0 2 3)
                          replace hP := zl_e hP hZ42
                          have hZ42I := zM_u hZ29I hZ42 (lo := -2147483648) (hi := 2147483647) (by decide) rfl (by omega) ⟨by decide, by decide⟩ (Or.inr (by decide)) rfl
                          have hZ42U : zU [] Z Z42 := zU_u hZ29U hZ42 (Or.inl rfl)
                          have hZ42K : zC [1, 2, 101, 102, 200] Z Z42 := zC_u hZ29K hZ42 (by decide)
                          intro μ9 e9
                          replace e9 := e9.trans (zm_wI (Z := Z29) (ν := ν) hZ42 (show ((0 : Nat) : Int) = 0 from rfl) (show ((0 : Nat) : Int) = 0 from rfl) (show ((2 : Nat) : Int) = 2 from rfl) (show (3 : Int32) = i3 3 from rfl))
                          subst e9
                          exact zlY hP (show (0 : Int32) = i3 0 from rfl) (.inl rfl) ⟨hZ42I, hZ42K, hZ42U⟩
                        · replace hP := zE_n hP h41
                          refine wz_i0 (i3O (n := 4400) (i3A (i3A (show (3010 : Int32) = i3 3010 from rfl) (i3M (show (60 : Int32) = i3 60 from rfl) (rfl : i3 a1 = i3 a1))) (show (5 : Int32) = i3 5 from rfl)) (by omega) (by omega) (by omega)) ?_
                          have r43 := zM_k hZ29I 2 0 0 (3015 + 60 * a1) (lo := 0) (hi := 12) (by decide) (zs_3010_5 (x := (a1 + 0)) (by omega) (by omega) (by omega))
                          refine wz_br (i3Le (show (12 : Int32) = i3 12 from rfl) (zm_rd (Z := Z29) (ν := ν) (k := 2) (show ((0 : Nat) : Int) = 0 from rfl) (show ((0 : Nat) : Int) = 0 from rfl) (i3I (y := (3015 + 60 * a1)) (i3A (i3A (show (3010 : Int32) = i3 3010 from rfl) (i3M (show (60 : Int32) = i3 60 from rfl) (rfl : i3 a1 = i3 a1))) (show (5 : Int32) = i3 5 from rfl)) (by omega) (by omega) (by omega))) (by omega) (by omega) (by omega) (by omega)) (fun h44 => ?_) (fun h44 => ?_)
                          · replace hP := zE_p hP h44
                            obtain ⟨Z45, hZ45⟩ := zx (zu Z29 1 0 0 2 3)
                            replace hP := zl_e hP hZ45
                            have hZ45I := zM_u hZ29I hZ45 (lo := -2147483648) (hi := 2147483647) (by decide) rfl (by omega) ⟨by decide, by decide⟩ (Or.inr (by decide)) rfl
                            have hZ45U : zU [] Z Z45 := zU_u hZ29U hZ45 (Or.inl rfl)
                            have hZ45K : zC [1, 2, 101, 102, 200] Z Z45 := zC_u hZ29K hZ45 (by decide)
                            intro μ9 e9
                            replace e9 := e9.trans (zm_wI (Z := Z29) (ν := ν) hZ45 (show ((0 : Nat) : Int) = 0 from rfl) (show ((0 : Nat) : Int) = 0 from rfl) (show ((2 : Nat) : Int) = 2 from rfl) (show (3 : Int32) = i3 3 from rfl))
                            subst e9
                            exact zlY hP (show (0 : Int32) = i3 0 from rfl) (.inl rfl) ⟨hZ45I, hZ45K, hZ45U⟩
                          · replace hP := zE_n hP h44
                            obtain ⟨Z46, hZ46⟩ := zx (zu Z29 1 0 0 2 0)
                            replace hP := zl_e hP hZ46
                            have hZ46I := zM_0 hZ29I hZ46 (by decide) (Or.inr (by decide))
                            have hZ46U : zU [] Z Z46 := zU_u hZ29U hZ46 (Or.inl rfl)
                            have hZ46K : zC [1, 2, 101, 102, 200] Z Z46 := zC_u hZ29K hZ46 (by decide)
                            intro μ9 e9
                            replace e9 := e9.trans (zm_wI (Z := Z29) (ν := ν) hZ46 (show ((0 : Nat) : Int) = 0 from rfl) (show ((0 : Nat) : Int) = 0 from rfl) (show ((2 : Nat) : Int) = 2 from rfl) (show (0 : Int32) = i3 0 from rfl))
                            subst e9
                            have r47 := zM_k hZ46I 1 0 0 35 (lo := 0) (hi := 1) (by decide) rfl
                            have q48 := (zu_ne (k' := 1) (b' := 0) (i' := 0) (j' := 35) hZ46 (fun q => absurd q.2.2.2 (by decide))).trans ((zu_ne (k' := 1) (b' := 0) (i' := 0) (j' := 35) hZ29 (fun q => absurd q.2.2.2 (by decide))).trans (zu_ne (k' := 1) (b' := 0) (i' := 0) (j' := 35) hZ14 (fun q => absurd q.2.2.2 (by decide))))
                            refine wz_i0 (Eq.trans (i3NE (zm_rd (Z := Z46) (ν := ν) (k := 1) (show ((0 : Nat) : Int) = 0 from rfl) (show ((0 : Nat) : Int) = 0 from rfl) (show ((35 : Nat) : Int) = 35 from rfl)) (show (0 : Int32) = i3 0 from rfl) (by omega) (by omega) (by omega) (by omega)) (decide_eq_false (by omega))) ?_
                            have r49 := zM_k hZ46I 1 0 0 34 (lo := 0) (hi := 8) (by decide) rfl
                            have q50 := (zu_ne (k' := 1) (b' := 0) (i' := 0) (j' := 34) hZ46 (fun q => absurd q.2.2.2 (by decide))).trans ((zu_ne (k' := 1) (b' := 0) (i' := 0) (j' := 34) hZ29 (fun q => absurd q.2.2.2 (by decide))).trans (zu_ne (k' := 1) (b' := 0) (i' := 0) (j' := 34) hZ14 (fun q => absurd q.2.2.2 (by decide))))
                            have r51 := zM_f hZ46I 1 0 0 37
                            have q52 := (zu_ne (k' := 1) (b' := 0) (i' := 0) (j' := 37) hZ46 (fun q => absurd q.2.2.2 (by decide))).trans ((zu_ne (k' := 1) (b' := 0) (i' := 0) (j' := 37) hZ29 (fun q => absurd q.2.2.2 (by decide))).trans (zu_ne (k' := 1) (b' := 0) (i' := 0) (j' := 37) hZ14 (fun q => absurd q.2.2.2 (by decide))))
                            obtain ⟨c8, c9, hZ53I, dZ53⟩ := hdm Z46 16 a1 a2 a3 a4 0 0 hZ46I (by omega) (by omega) (by omega) (by omega) (by omega) (by omega) (by omega) (by omega) (by omega) (by omega)
                            obtain ⟨Z53, hZ53⟩ := zx (dm Z46 16 a1 a2 a3 a4 0 0)
                            rw [← hZ53] at c9 hZ53I dZ53
                            replace hP := zl_e hP hZ53
                            refine wz_cV_of (zas (zcons rfl (zcons (zvi (show (-1 : Int32) = i3 (-1) from rfl)) rfl)) c8) ?_
                            refine wz_cV_of (zas (zcons rfl (zcons (zvi (show (16 : Int32) = i3 16 from rfl)) (zcons (zvi (rfl : i3 a1 = i3 a1)) (zcons (zvi (rfl : i3 a2 = i3 a2)) (zcons (zvi (rfl : i3 a3 = i3 a3)) (zcons (zvi (rfl : i3 a4 = i3 a4)) (zcons (zvi (show (0 : Int32) = i3 0 from rfl)) (zcons (zvi (show (0 : Int32) = i3 0 from rfl)) rfl)))))))) c9) ?_
                            clear c8 c9
                            have hZ53K : zC [1, 2, 101, 102, 200] Z Z53 := zC_t hZ46K (zMd_C dZ53) (by decide)
                            have hZ53U : zU [] Z Z53 := zU_t hZ46U (zMd_U dZ53) zU_b0
                            have r54 := zM_k hZ53I 2 0 0 (3015 + 60 * a1) (lo := 0) (hi := 12) (by decide) (zs_3010_5 (x := (a1 + 0)) (by omega) (by omega) (by omega))
                            have q55 := (dZ53 2 0 0 (3015 + 60 * a1) (by simp)).trans (zu_ne (k' := 2) (b' := 0) (i' := 0) (j' := (3015 + 60 * a1)) hZ46 (fun q => absurd q.1 (by decide)))
                            have r56 := zM_k hZ53I 2 0 0 (210 + 20 * a2) (lo := 0) (hi := 4) (by decide) (zs_200_10 (x := a2) (by omega) (by omega) (by omega))
                            have r57 := zM_pl hZ53I a2
                            have r58 := zM_k hZ53I 2 0 0 102 (lo := 0) (hi := 48) (by decide) rfl
                            have q59 := (dZ53 2 0 0 102 (by simp)).trans (zu_ne (k' := 2) (b' := 0) (i' := 0) (j' := 102) hZ46 (fun q => absurd q.1 (by decide)))
                            have q60 := (dZ53 2 0 0 (210 + 20 * a2) (by simp)).trans (zu_ne (k' := 2) (b' := 0) (i' := 0) (j' := (210 + 20 * a2)) hZ46 (fun q => absurd q.1 (by decide)))
                            have r61 := zM_k hZ53I 2 0 0 3000 (lo := 0) (hi := 2) (by decide) rfl
                            have q62 := (dZ53 2 0 0 3000 (by simp)).trans ((zu_ne (k' := 2) (b' := 0) (i' := 0) (j' := 3000) hZ46 (fun q => absurd q.1 (by decide))).trans (zu_ne (k' := 2) (b' := 0) (i' := 0) (j' := 3000) hZ29 (fun q => absurd q.1 (by decide))))
                            have r63 := zM_k hZ53I 2 0 0 (3013 + 60 * a1) (lo := 0) (hi := 500) (by decide) (zs_3010_3 (x := (a1 + 0)) (by omega) (by omega) (by omega))
                            have r64 := zM_cs hZ53I a1
                            have q65 := (dZ53 2 0 0 (3013 + 60 * a1) (by simp)).trans ((zu_ne (k' := 2) (b' := 0) (i' := 0) (j' := (3013 + 60 * a1)) hZ46 (fun q => absurd q.1 (by decide))).trans (zu_ne (k' := 2) (b' := 0) (i' := 0) (j' := (3013 + 60 * a1)) hZ29 (fun q => absurd q.1 (by decide))))
                            obtain ⟨Z66, hZ66, c9, hZ66I, kZ66, jZ66⟩ := sp_307 (ν := ν1) hZ53I (a1 := a1) (by omega) (a2 := a2) (by omega) (a3 := a3) (by omega) (a4 := a4) (by omega) (by omega) (by omega) (by omega) (by omega) (by omega) (zbh (c := 0) (k := 0) hM (Nat.le_of_ble_eq_true rfl))
                            have hZ66U : zU [] Z Z66 := zU_t hZ53U jZ66 zU_b0
                            have hZ66K : zC [1, 2, 101, 102, 200] Z Z66 := zC_t hZ53K kZ66 (by decide)
                            replace hP := zl_e hP hZ66
                            refine wz_cV_of (zas (zcons rfl (zcons (zvi (rfl : i3 a1 = i3 a1)) (zcons (zvi (rfl : i3 a2 = i3 a2)) (zcons (zvi (rfl : i3 a3 = i3 a3)) (zcons (zvi (rfl : i3 a4 = i3 a4)) rfl))))) c9) ?_
                            clear c9
                            refine wz_i0 (i3O (n := 4400) (i3A (i3A (show (3010 : Int32) = i3 3010 from rfl) (i3M (show (60 : Int32) = i3 60 from rfl) (rfl : i3 a1 = i3 a1))) (show (5 : Int32) = i3 5 from rfl)) (by omega) (by omega) (by omega)) ?_
                            have r67 := zM_k hZ66I 2 0 0 (3015 + 60 * a1) (lo := 0) (hi := 12) (by decide) (zs_3010_5 (x := (a1 + 0)) (by omega) (by omega) (by omega))
                            exact zlY hP (i3S (zm_rd (Z := Z66) (ν := ν1) (k := 2) (show ((0 : Nat) : Int) = 0 from rfl) (show ((0 : Nat) : Int) = 0 from rfl) (i3I (y := (3015 + 60 * a1)) (i3A (i3A (show (3010 : Int32) = i3 3010 from rfl) (i3M (show (60 : Int32) = i3 60 from rfl) (rfl : i3 a1 = i3 a1))) (show (5 : Int32) = i3 5 from rfl)) (by omega) (by omega) (by omega))) (show (1 : Int32) = i3 1 from rfl)) (.inr rfl) ⟨hZ66I, hZ66K, hZ66U⟩

theorem sq_459 {s : zSM} {Z : qz_Z} {ν : qz_N} (hZ : zM s Z) (gq : Z 1 0 0 35 = 1) (hM : s.2 + 0 ≤ 1000000000) {a1 : Int} (ga1 : -2147483648 ≤ a1 ∧ a1 ≤ 2147483647) {a2 : Int} (ga2 : -2147483648 ≤ a2 ∧ a2 ≤ 2147483647) {a3 : Int} (ga3 : -2147483648 ≤ a3 ∧ a3 ≤ 2147483647) {a4 : Int} (ga4 : -2147483648 ≤ a4 ∧ a4 ≤ 2147483647) {ν1 : qz_N} : ∃ (Z1 : qz_Z) (ν2 : qz_N) (v : Int), (Z1, v) = zy_459 Z zq0 a1 a2 a3 a4 ∧ (ν2 = ν ∨ ν2 = ν1) ∧ qf_459 [.inr (.inr (some (1, 0, 0))), .inl (i3 a1), .inl (i3 a2), .inl (i3 a3), .inl (i3 a4)] (zm Z ν) = some (zm Z1 ν2, .inl (some (.inl (i3 v)))) ∧ (fun Z1 => zM s Z1 ∧ zC [1, 2] Z Z1 ∧ zU [] Z Z1) Z1 := by
  obtain ⟨P, hP⟩ := zx (zy_459 Z zq0 a1 a2 a3 a4)
  refine zc_Y (Q := fun Z1 => zM s Z1 ∧ zC [1, 2] Z Z1 ∧ zU [] Z Z1) hP (fw_459 (i3 a1) (i3 a2) (i3 a3) (i3 a4) _ _ ?_)
  replace hP : zE P (zy_459 Z zq0 a1 a2 a3 a4) := hP
  unfold zy_459 at hP
  have r1 := zM_k hZ 1 0 0 35 (lo := 0) (hi := 1) (by decide) rfl
  have r2 := zM_k hZ 1 0 0 34 (lo := 0) (hi := 8) (by decide) rfl
  have r3 := zM_f hZ 1 0 0 37
  refine wz_br (i3L (rfl : i3 a1 = i3 a1) (show (0 : Int32) = i3 0 from rfl) (by omega) (by omega) (by omega) (by omega)) (fun h4 => ?_) (fun h4 => ?_)
  · replace hP := zE_p hP h4
    obtain ⟨Z5, hZ5⟩ := zx (zu Z 1 0 0 2 1)
    replace hP := zl_e hP hZ5
    have hZ5I := zM_u hZ hZ5 (lo := -2147483648) (hi := 2147483647) (by decide) rfl (by omega) ⟨by decide, by decide⟩ (Or.inr (by decide)) rfl
    have hZ5U : zU [] Z Z5 := zU_u zU_r hZ5 (Or.inl rfl)
    have hZ5K : zC [1, 2] Z Z5 := zC_u zC_r hZ5 (by decide)
    intro μ9 e9
    replace e9 := e9.trans (zm_wI (Z := Z) (ν := ν) hZ5 (show ((0 : Nat) : Int) = 0 from rfl) (show ((0 : Nat) : Int) = 0 from rfl) (show ((2 : Nat) : Int) = 2 from rfl) (show (1 : Int32) = i3 1 from rfl))
    subst e9
    exact zlY hP (show (0 : Int32) = i3 0 from rfl) (.inl rfl) ⟨hZ5I, hZ5K, hZ5U⟩
  · replace hP := zE_n hP h4
    have r6 := zM_k hZ 2 0 0 3000 (lo := 0) (hi := 2) (by decide) rfl
    refine wz_br (i3L (i3S (zm_rd (Z := Z) (ν := ν) (k := 2) (show ((0 : Nat) : Int) = 0 from rfl) (show ((0 : Nat) : Int) = 0 from rfl) (show ((3000 : Nat) : Int) = 3000 from rfl)) (show (1 : Int32) = i3 1 from rfl)) (rfl : i3 a1 = i3 a1) (by omega) (by omega) (by omega) (by omega)) (fun h7 => ?_) (fun h7 => ?_)
    · replace hP := zE_p hP h7
      obtain ⟨Z8, hZ8⟩ := zx (zu Z 1 0 0 2 1)
      replace hP := zl_e hP hZ8
      have hZ8I := zM_u hZ hZ8 (lo := -2147483648) (hi := 2147483647) (by decide) rfl (by omega) ⟨by decide, by decide⟩ (Or.inr (by decide)) rfl
      have hZ8U : zU [] Z Z8 := zU_u zU_r hZ8 (Or.inl rfl)
      have hZ8K : zC [1, 2] Z Z8 := zC_u zC_r hZ8 (by decide)
      intro μ9 e9
      replace e9 := e9.trans (zm_wI (Z := Z) (ν := ν) hZ8 (show ((0 : Nat) : Int) = 0 from rfl) (show ((0 : Nat) : Int) = 0 from rfl) (show ((2 : Nat) : Int) = 2 from rfl) (show (1 : Int32) = i3 1 from rfl))
      subst e9
      exact zlY hP (show (0 : Int32) = i3 0 from rfl) (.inl rfl) ⟨hZ8I, hZ8K, hZ8U⟩
    · replace hP := zE_n hP h7
      refine wz_br (i3L (rfl : i3 a2 = i3 a2) (show (0 : Int32) = i3 0 from rfl) (by omega) (by omega) (by omega) (by omega)) (fun h9 => ?_) (fun h9 => ?_)
      · replace hP := zE_p hP h9
        obtain ⟨Z10, hZ10⟩ := zx (zu Z 1 0 0 2 1)
        replace hP := zl_e hP hZ10
        have hZ10I := zM_u hZ hZ10 (lo := -2147483648) (hi := 2147483647) (by decide) rfl (by omega) ⟨by decide, by decide⟩ (Or.inr (by decide)) rfl
        have hZ10U : zU [] Z Z10 := zU_u zU_r hZ10 (Or.inl rfl)
        have hZ10K : zC [1, 2] Z Z10 := zC_u zC_r hZ10 (by decide)
        intro μ9 e9
        replace e9 := e9.trans (zm_wI (Z := Z) (ν := ν) hZ10 (show ((0 : Nat) : Int) = 0 from rfl) (show ((0 : Nat) : Int) = 0 from rfl) (show ((2 : Nat) : Int) = 2 from rfl) (show (1 : Int32) = i3 1 from rfl))
        subst e9
        exact zlY hP (show (0 : Int32) = i3 0 from rfl) (.inl rfl) ⟨hZ10I, hZ10K, hZ10U⟩
      · replace hP := zE_n hP h9
        have r11 := zM_k hZ 2 0 0 102 (lo := 0) (hi := 48) (by decide) rfl
        refine wz_br (i3L (i3S (zm_rd (Z := Z) (ν := ν) (k := 2) (show ((0 : Nat) : Int) = 0 from rfl) (show ((0 : Nat) : Int) = 0 from rfl) (show ((102 : Nat) : Int) = 102 from rfl)) (show (1 : Int32) = i3 1 from rfl)) (rfl : i3 a2 = i3 a2) (by omega) (by omega) (by omega) (by omega)) (fun h12 => ?_) (fun h12 => ?_)
        · replace hP := zE_p hP h12
          obtain ⟨Z13, hZ13⟩ := zx (zu Z 1 0 0 2 1)
          replace hP := zl_e hP hZ13
          have hZ13I := zM_u hZ hZ13 (lo := -2147483648) (hi := 2147483647) (by decide) rfl (by omega) ⟨by decide, by decide⟩ (Or.inr (by decide)) rfl
          have hZ13U : zU [] Z Z13 := zU_u zU_r hZ13 (Or.inl rfl)
          have hZ13K : zC [1, 2] Z Z13 := zC_u zC_r hZ13 (by decide)
          intro μ9 e9
          replace e9 := e9.trans (zm_wI (Z := Z) (ν := ν) hZ13 (show ((0 : Nat) : Int) = 0 from rfl) (show ((0 : Nat) : Int) = 0 from rfl) (show ((2 : Nat) : Int) = 2 from rfl) (show (1 : Int32) = i3 1 from rfl))
          subst e9
          exact zlY hP (show (0 : Int32) = i3 0 from rfl) (.inl rfl) ⟨hZ13I, hZ13K, hZ13U⟩
        · replace hP := zE_n hP h12
          obtain ⟨Z14, hZ14⟩ := zx (zu Z 1 0 0 2 0)
          replace hP := zl_e hP hZ14
          have hZ14I := zM_0 hZ hZ14 (by decide) (Or.inr (by decide))
          have hZ14U : zU [] Z Z14 := zU_u zU_r hZ14 (Or.inl rfl)
          have hZ14K : zC [1, 2] Z Z14 := zC_u zC_r hZ14 (by decide)
          intro μ9 e9
          replace e9 := e9.trans (zm_wI (Z := Z) (ν := ν) hZ14 (show ((0 : Nat) : Int) = 0 from rfl) (show ((0 : Nat) : Int) = 0 from rfl) (show ((2 : Nat) : Int) = 2 from rfl) (show (0 : Int32) = i3 0 from rfl))
          subst e9
          refine wz_br (i3L (rfl : i3 a3 = i3 a3) (show (1 : Int32) = i3 1 from rfl) (by omega) (by omega) (by omega) (by omega)) (fun h15 => ?_) (fun h15 => ?_)
          · replace hP := zE_p hP h15
            obtain ⟨Z16, hZ16⟩ := zx (zu Z14 1 0 0 2 2)
            replace hP := zl_e hP hZ16
            have hZ16I := zM_u hZ14I hZ16 (lo := -2147483648) (hi := 2147483647) (by decide) rfl (by omega) ⟨by decide, by decide⟩ (Or.inr (by decide)) rfl
            have hZ16U : zU [] Z Z16 := zU_u hZ14U hZ16 (Or.inl rfl)
            have hZ16K : zC [1, 2] Z Z16 := zC_u hZ14K hZ16 (by decide)
            intro μ9 e9
            replace e9 := e9.trans (zm_wI (Z := Z14) (ν := ν) hZ16 (show ((0 : Nat) : Int) = 0 from rfl) (show ((0 : Nat) : Int) = 0 from rfl) (show ((2 : Nat) : Int) = 2 from rfl) (show (2 : Int32) = i3 2 from rfl))
            subst e9
            exact zlY hP (show (0 : Int32) = i3 0 from rfl) (.inl rfl) ⟨hZ16I, hZ16K, hZ16U⟩
          · replace hP := zE_n hP h15
            refine wz_br (i3L (show (9999 : Int32) = i3 9999 from rfl) (rfl : i3 a3 = i3 a3) (by omega) (by omega) (by omega) (by omega)) (fun h17 => ?_) (fun h17 => ?_)
            · replace hP := zE_p hP h17
              obtain ⟨Z18, hZ18⟩ := zx (zu Z14 1 0 0 2 2)
              replace hP := zl_e hP hZ18
              have hZ18I := zM_u hZ14I hZ18 (lo := -2147483648) (hi := 2147483647) (by decide) rfl (by omega) ⟨by decide, by decide⟩ (Or.inr (by decide)) rfl
              have hZ18U : zU [] Z Z18 := zU_u hZ14U hZ18 (Or.inl rfl)
              have hZ18K : zC [1, 2] Z Z18 := zC_u hZ14K hZ18 (by decide)
              intro μ9 e9
              replace e9 := e9.trans (zm_wI (Z := Z14) (ν := ν) hZ18 (show ((0 : Nat) : Int) = 0 from rfl) (show ((0 : Nat) : Int) = 0 from rfl) (show ((2 : Nat) : Int) = 2 from rfl) (show (2 : Int32) = i3 2 from rfl))
              subst e9
              exact zlY hP (show (0 : Int32) = i3 0 from rfl) (.inl rfl) ⟨hZ18I, hZ18K, hZ18U⟩
            · replace hP := zE_n hP h17
              refine wz_br (i3L (rfl : i3 a4 = i3 a4) (show (1 : Int32) = i3 1 from rfl) (by omega) (by omega) (by omega) (by omega)) (fun h19 => ?_) (fun h19 => ?_)
              · replace hP := zE_p hP h19
                obtain ⟨Z20, hZ20⟩ := zx (zu Z14 1 0 0 2 2)
                replace hP := zl_e hP hZ20
                have hZ20I := zM_u hZ14I hZ20 (lo := -2147483648) (hi := 2147483647) (by decide) rfl (by omega) ⟨by decide, by decide⟩ (Or.inr (by decide)) rfl
                have hZ20U : zU [] Z Z20 := zU_u hZ14U hZ20 (Or.inl rfl)
                have hZ20K : zC [1, 2] Z Z20 := zC_u hZ14K hZ20 (by decide)
                intro μ9 e9
                replace e9 := e9.trans (zm_wI (Z := Z14) (ν := ν) hZ20 (show ((0 : Nat) : Int) = 0 from rfl) (show ((0 : Nat) : Int) = 0 from rfl) (show ((2 : Nat) : Int) = 2 from rfl) (show (2 : Int32) = i3 2 from rfl))
                subst e9
                exact zlY hP (show (0 : Int32) = i3 0 from rfl) (.inl rfl) ⟨hZ20I, hZ20K, hZ20U⟩
              · replace hP := zE_n hP h19
                refine wz_br (i3L (rfl : i3 a3 = i3 a3) (rfl : i3 a4 = i3 a4) (by omega) (by omega) (by omega) (by omega)) (fun h21 => ?_) (fun h21 => ?_)
                · replace hP := zE_p hP h21
                  obtain ⟨Z22, hZ22⟩ := zx (zu Z14 1 0 0 2 2)
                  replace hP := zl_e hP hZ22
                  have hZ22I := zM_u hZ14I hZ22 (lo := -2147483648) (hi := 2147483647) (by decide) rfl (by omega) ⟨by decide, by decide⟩ (Or.inr (by decide)) rfl
                  have hZ22U : zU [] Z Z22 := zU_u hZ14U hZ22 (Or.inl rfl)
                  have hZ22K : zC [1, 2] Z Z22 := zC_u hZ14K hZ22 (by decide)
                  intro μ9 e9
                  replace e9 := e9.trans (zm_wI (Z := Z14) (ν := ν) hZ22 (show ((0 : Nat) : Int) = 0 from rfl) (show ((0 : Nat) : Int) = 0 from rfl) (show ((2 : Nat) : Int) = 2 from rfl) (show (2 : Int32) = i3 2 from rfl))
                  subst e9
                  exact zlY hP (show (0 : Int32) = i3 0 from rfl) (.inl rfl) ⟨hZ22I, hZ22K, hZ22U⟩
                · replace hP := zE_n hP h21
                  refine wz_i0 (i3O (n := 4400) (i3A (i3A (show (3010 : Int32) = i3 3010 from rfl) (i3M (show (60 : Int32) = i3 60 from rfl) (rfl : i3 a1 = i3 a1))) (show (3 : Int32) = i3 3 from rfl)) (by omega) (by omega) (by omega)) ?_
                  have r23 := zM_k hZ14I 2 0 0 (3013 + 60 * a1) (lo := 0) (hi := 500) (by decide) (zs_3010_3 (x := (a1 + 0)) (by omega) (by omega) (by omega))
                  have r24 := zM_cs hZ14I a1
                  have r25 := zM_k hZ14I 2 0 0 3000 (lo := 0) (hi := 2) (by decide) rfl
                  have q26 := zu_ne (k' := 2) (b' := 0) (i' := 0) (j' := 3000) hZ14 (fun q => absurd q.1 (by decide))
                  refine wz_br (i3L (i3M (show (200 : Int32) = i3 200 from rfl) (zm_rd (Z := Z14) (ν := ν) (k := 2) (show ((0 : Nat) : Int) = 0 from rfl) (show ((0 : Nat) : Int) = 0 from rfl) (i3I (y := (3013 + 60 * a1)) (i3A (i3A (show (3010 : Int32) = i3 3010 from rfl) (i3M (show (60 : Int32) = i3 60 from rfl) (rfl : i3 a1 = i3 a1))) (show (3 : Int32) = i3 3 from rfl)) (by omega) (by omega) (by omega)))) (i3S (rfl : i3 a3 = i3 a3) (rfl : i3 a4 = i3 a4)) (by omega) (by omega) (by omega) (by omega)) (fun h27 => ?_) (fun h27 => ?_)
                  · replace hP := zE_p hP h27
                    obtain ⟨Z28, hZ28⟩ := zx (zu Z14 1 0 0 2 2)
                    replace hP := zl_e hP hZ28
                    have hZ28I := zM_u hZ14I hZ28 (lo := -2147483648) (hi := 2147483647) (by decide) rfl (by omega) ⟨by decide, by decide⟩ (Or.inr (by decide)) rfl
                    have hZ28U : zU [] Z Z28 := zU_u hZ14U hZ28 (Or.inl rfl)
                    have hZ28K : zC [1, 2] Z Z28 := zC_u hZ14K hZ28 (by decide)
                    intro μ9 e9
                    replace e9 := e9.trans (zm_wI (Z := Z14) (ν := ν) hZ28 (show ((0 : Nat) : Int) = 0 from rfl) (show ((0 : Nat) : Int) = 0 from rfl) (show ((2 : Nat) : Int) = 2 from rfl) (show (2 : Int32) = i3 2 from rfl))
                    subst e9
                    exact zlY hP (show (0 : Int32) = i3 0 from rfl) (.inl rfl) ⟨hZ28I, hZ28K, hZ28U⟩
                  · replace hP := zE_n hP h27
                    obtain ⟨Z29, hZ29⟩ := zx (zu Z14 1 0 0 2 0)
                    replace hP := zl_e hP hZ29
                    have hZ29I := zM_0 hZ14I hZ29 (by decide) (Or.inr (by decide))
                    have hZ29U : zU [] Z Z29 := zU_u hZ14U hZ29 (Or.inl rfl)
                    have hZ29K : zC [1, 2] Z Z29 := zC_u hZ14K hZ29 (by decide)
                    intro μ9 e9
                    replace e9 := e9.trans (zm_wI (Z := Z14) (ν := ν) hZ29 (show ((0 : Nat) : Int) = 0 from rfl) (show ((0 : Nat) : Int) = 0 from rfl) (show ((2 : Nat) : Int) = 2 from rfl) (show (0 : Int32) = i3 0 from rfl))
                    subst e9
                    refine wz_i0 (i3O (n := 4400) (i3A (i3A (show (200 : Int32) = i3 200 from rfl) (i3M (show (20 : Int32) = i3 20 from rfl) (rfl : i3 a2 = i3 a2))) (show (10 : Int32) = i3 10 from rfl)) (by omega) (by omega) (by omega)) ?_
                    have r30 := zM_k hZ29I 2 0 0 (210 + 20 * a2) (lo := 0) (hi := 4) (by decide) (zs_200_10 (x := a2) (by omega) (by omega) (by omega))
                    have r31 := zM_pl hZ29I a2
                    have r32 := zM_k hZ29I 2 0 0 102 (lo := 0) (hi := 48) (by decide) rfl
                    have q33 := (zu_ne (k' := 2) (b' := 0) (i' := 0) (j' := 102) hZ29 (fun q => absurd q.1 (by decide))).trans (zu_ne (k' := 2) (b' := 0) (i' := 0) (j' := 102) hZ14 (fun q => absurd q.1 (by decide)))
                    refine wz_br (i3NE (zm_rd (Z := Z29) (ν := ν) (k := 2) (show ((0 : Nat) : Int) = 0 from rfl) (show ((0 : Nat) : Int) = 0 from rfl) (i3I (y := (210 + 20 * a2)) (i3A (i3A (show (200 : Int32) = i3 200 from rfl) (i3M (show (20 : Int32) = i3 20 from rfl) (rfl : i3 a2 = i3 a2))) (show (10 : Int32) = i3 10 from rfl)) (by omega) (by omega) (by omega))) (show (0 : Int32) = i3 0 from rfl) (by omega) (by omega) (by omega) (by omega)) (fun h34 => ?_) (fun h34 => ?_)
                    · replace hP := zE_p hP h34
                      obtain ⟨Z35, hZ35⟩ := zx (zu Z29 1 0 0 2 3)
                      replace hP := zl_e hP hZ35
                      have hZ35I := zM_u hZ29I hZ35 (lo := -2147483648) (hi := 2147483647) (by decide) rfl (by omega) ⟨by decide, by decide⟩ (Or.inr (by decide)) rfl
                      have hZ35U : zU [] Z Z35 := zU_u hZ29U hZ35 (Or.inl rfl)
                      have hZ35K : zC [1, 2] Z Z35 := zC_u hZ29K hZ35 (by decide)
                      intro μ9 e9
                      replace e9 := e9.trans (zm_wI (Z := Z29) (ν := ν) hZ35 (show ((0 : Nat) : Int) = 0 from rfl) (show ((0 : Nat) : Int) = 0 from rfl) (show ((2 : Nat) : Int) = 2 from rfl) (show (3 : Int32) = i3 3 from rfl))
                      subst e9
                      exact zlY hP (show (0 : Int32) = i3 0 from rfl) (.inl rfl) ⟨hZ35I, hZ35K, hZ35U⟩
                    · replace hP := zE_n hP h34
                      refine wz_i0 (i3O (n := 4400) (i3A (i3A (show (200 : Int32) = i3 200 from rfl) (i3M (show (20 : Int32) = i3 20 from rfl) (rfl : i3 a2 = i3 a2))) (show (4 : Int32) = i3 4 from rfl)) (by omega) (by omega) (by omega)) ?_
                      have r36 := zM_k hZ29I 2 0 0 (204 + 20 * a2) (lo := 0) (hi := 40) (by decide) (zs_200_4 (x := a2) (by omega) (by omega) (by omega))
                      refine wz_br (i3Le (zm_rd (Z := Z29) (ν := ν) (k := 2) (show ((0 : Nat) : Int) = 0 from rfl) (show ((0 : Nat) : Int) = 0 from rfl) (i3I (y := (204 + 20 * a2)) (i3A (i3A (show (200 : Int32) = i3 200 from rfl) (i3M (show (20 : Int32) = i3 20 from rfl) (rfl : i3 a2 = i3 a2))) (show (4 : Int32) = i3 4 from rfl)) (by omega) (by omega) (by omega))) (show (0 : Int32) = i3 0 from rfl) (by omega) (by omega) (by omega) (by omega)) (fun h37 => ?_) (fun h37 => ?_)
                      · replace hP := zE_p hP h37
                        obtain ⟨Z38, hZ38⟩ := zx (zu Z29 1 0 0 2 3)
                        replace hP := zl_e hP hZ38
                        have hZ38I := zM_u hZ29I hZ38 (lo := -2147483648) (hi := 2147483647) (by decide) rfl (by omega) ⟨by decide, by decide⟩ (Or.inr (by decide)) rfl
                        have hZ38U : zU [] Z Z38 := zU_u hZ29U hZ38 (Or.inl rfl)
                        have hZ38K : zC [1, 2] Z Z38 := zC_u hZ29K hZ38 (by decide)
                        intro μ9 e9
                        replace e9 := e9.trans (zm_wI (Z := Z29) (ν := ν) hZ38 (show ((0 : Nat) : Int) = 0 from rfl) (show ((0 : Nat) : Int) = 0 from rfl) (show ((2 : Nat) : Int) = 2 from rfl) (show (3 : Int32) = i3 3 from rfl))
                        subst e9
                        exact zlY hP (show (0 : Int32) = i3 0 from rfl) (.inl rfl) ⟨hZ38I, hZ38K, hZ38U⟩
                      · replace hP := zE_n hP h37
                        refine wz_i0 (i3O (n := 4400) (i3A (i3A (show (200 : Int32) = i3 200 from rfl) (i3M (show (20 : Int32) = i3 20 from rfl) (rfl : i3 a2 = i3 a2))) (show (11 : Int32) = i3 11 from rfl)) (by omega) (by omega) (by omega)) ?_
                        have r39 := zM_k hZ29I 2 0 0 (211 + 20 * a2) (lo := -1) (hi := 6) (by decide) (zs_200_11 (x := a2) (by omega) (by omega) (by omega))
                        obtain ⟨v40, hv40, c9, lv40, uv40⟩ := sp_390 (ν := ν) hZ29I (a1 := (Z29 2 0 0 (211 + 20 * a2))) (by omega) (zbh (c := 0) (k := 0) hM (Nat.le_of_ble_eq_true rfl))
                        replace hP := zl_e hP hv40
                        refine wz_cI_of (zas (zcons rfl (zcons (zvi (zm_rd (Z := Z29) (ν := ν) (k := 2) (show ((0 : Nat) : Int) = 0 from rfl) (show ((0 : Nat) : Int) = 0 from rfl) (i3I (y := (211 + 20 * a2)) (i3A (i3A (show (200 : Int32) = i3 200 from rfl) (i3M (show (20 : Int32) = i3 20 from rfl) (rfl : i3 a2 = i3 a2))) (show (11 : Int32) = i3 11 from rfl)) (by omega) (by omega) (by omega)))) rfl)) c9) ?_
                        clear c9
                        refine wz_br (i3NE (rfl : i3 v40 = i3 v40) (show (0 : Int32) = i3 0 from rfl) (by omega) (by omega) (by omega) (by omega)) (fun h41 => ?_) (fun h41 => ?_)
                        · replace hP := zE_p hP h41
                          obtain ⟨Z42, hZ42⟩ := zx (zu Z29 1 0 0 2 3)
                          replace hP := zl_e hP hZ42
                          have hZ42I := zM_u hZ29I hZ42 (lo := -2147483648) (hi := 2147483647) (by decide) rfl (by omega) ⟨by decide, by decide⟩ (Or.inr (by decide)) rfl
                          have hZ42U : zU [] Z Z42 := zU_u hZ29U hZ42 (Or.inl rfl)
                          have hZ42K : zC [1, 2] Z Z42 := zC_u hZ29K hZ42 (by decide)
                          intro μ9 e9
                          replace e9 := e9.trans (zm_wI (Z := Z29) (ν := ν) hZ42 (show ((0 : Nat) : Int) = 0 from rfl) (show ((0 : Nat) : Int) = 0 from rfl) (show ((2 : Nat) : Int) = 2 from rfl) (show (3 : Int32) = i3 3 from rfl))
                          subst e9
                          exact zlY hP (show (0 : Int32) = i3 0 from rfl) (.inl rfl) ⟨hZ42I, hZ42K, hZ42U⟩
                        · replace hP := zE_n hP h41
                          refine wz_i0 (i3O (n := 4400) (i3A (i3A (show (3010 : Int32) = i3 3010 from rfl) (i3M (show (60 : Int32) = i3 60 from rfl) (rfl : i3 a1 = i3 a1))) (show (5 : Int32) = i3 5 from rfl)) (by omega) (by omega) (by omega)) ?_
                          have r43 := zM_k hZ29I 2 0 0 (3015 + 60 * a1) (lo := 0) (hi := 12) (by decide) (zs_3010_5 (x := (a1 + 0)) (by omega) (by omega) (by omega))
                          refine wz_br (i3Le (show (12 : Int32) = i3 12 from rfl) (zm_rd (Z := Z29) (ν := ν) (k := 2) (show ((0 : Nat) : Int) = 0 from rfl) (show ((0 : Nat) : Int) = 0 from rfl) (i3I (y := (3015 + 60 * a1)) (i3A (i3A (show (3010 : Int32) = i3 3010 from rfl) (i3M (show (60 : Int32) = i3 60 from rfl) (rfl : i3 a1 = i3 a1))) (show (5 : Int32) = i3 5 from rfl)) (by omega) (by omega) (by omega))) (by omega) (by omega) (by omega) (by omega)) (fun h44 => ?_) (fun h44 => ?_)
                          · replace hP := zE_p hP h44
                            obtain ⟨Z45, hZ45⟩ := zx (zu Z29 1 0 0 2 3)
                            replace hP := zl_e hP hZ45
                            have hZ45I := zM_u hZ29I hZ45 (lo := -2147483648) (hi := 2147483647) (by decide) rfl (by omega) ⟨by decide, by decide⟩ (Or.inr (by decide)) rfl
                            have hZ45U : zU [] Z Z45 := zU_u hZ29U hZ45 (Or.inl rfl)
                            have hZ45K : zC [1, 2] Z Z45 := zC_u hZ29K hZ45 (by decide)
                            intro μ9 e9
                            replace e9 := e9.trans (zm_wI (Z := Z29) (ν := ν) hZ45 (show ((0 : Nat) : Int) = 0 from rfl) (show ((0 : Nat) : Int) = 0 from rfl) (show ((2 : Nat) : Int) = 2 from rfl) (show (3 : Int32) = i3 3 from rfl))
                            subst e9
                            exact zlY hP (show (0 : Int32) = i3 0 from rfl) (.inl rfl) ⟨hZ45I, hZ45K, hZ45U⟩
                          · replace hP := zE_n hP h44
                            obtain ⟨Z46, hZ46⟩ := zx (zu Z29 1 0 0 2 0)
                            replace hP := zl_e hP hZ46
                            have hZ46I := zM_0 hZ29I hZ46 (by decide) (Or.inr (by decide))
                            have hZ46U : zU [] Z Z46 := zU_u hZ29U hZ46 (Or.inl rfl)
                            have hZ46K : zC [1, 2] Z Z46 := zC_u hZ29K hZ46 (by decide)
                            intro μ9 e9
                            replace e9 := e9.trans (zm_wI (Z := Z29) (ν := ν) hZ46 (show ((0 : Nat) : Int) = 0 from rfl) (show ((0 : Nat) : Int) = 0 from rfl) (show ((2 : Nat) : Int) = 2 from rfl) (show (0 : Int32) = i3 0 from rfl))
                            subst e9
                            have r47 := zM_k hZ46I 1 0 0 35 (lo := 0) (hi := 1) (by decide) rfl
                            have q48 := (zu_ne (k' := 1) (b' := 0) (i' := 0) (j' := 35) hZ46 (fun q => absurd q.2.2.2 (by decide))).trans ((zu_ne (k' := 1) (b' := 0) (i' := 0) (j' := 35) hZ29 (fun q => absurd q.2.2.2 (by decide))).trans (zu_ne (k' := 1) (b' := 0) (i' := 0) (j' := 35) hZ14 (fun q => absurd q.2.2.2 (by decide))))
                            refine wz_i1 (Eq.trans (i3NE (zm_rd (Z := Z46) (ν := ν) (k := 1) (show ((0 : Nat) : Int) = 0 from rfl) (show ((0 : Nat) : Int) = 0 from rfl) (show ((35 : Nat) : Int) = 35 from rfl)) (show (0 : Int32) = i3 0 from rfl) (by omega) (by omega) (by omega) (by omega)) (decide_eq_true (by omega))) ?_
                            replace hP := zl_q hP (rfl : _ = Z46)
                            have r49 := zM_k hZ46I 2 0 0 (3015 + 60 * a1) (lo := 0) (hi := 12) (by decide) (zs_3010_5 (x := (a1 + 0)) (by omega) (by omega) (by omega))
                            have q50 := zu_ne (k' := 2) (b' := 0) (i' := 0) (j' := (3015 + 60 * a1)) hZ46 (fun q => absurd q.1 (by decide))
                            have r51 := zM_k hZ46I 2 0 0 (210 + 20 * a2) (lo := 0) (hi := 4) (by decide) (zs_200_10 (x := a2) (by omega) (by omega) (by omega))
                            have r52 := zM_pl hZ46I a2
                            have r53 := zM_k hZ46I 2 0 0 102 (lo := 0) (hi := 48) (by decide) rfl
                            have q54 := zu_ne (k' := 2) (b' := 0) (i' := 0) (j' := 102) hZ46 (fun q => absurd q.1 (by decide))
                            have q55 := zu_ne (k' := 2) (b' := 0) (i' := 0) (j' := (210 + 20 * a2)) hZ46 (fun q => absurd q.1 (by decide))
                            have r56 := zM_k hZ46I 2 0 0 3000 (lo := 0) (hi := 2) (by decide) rfl
                            have q57 := (zu_ne (k' := 2) (b' := 0) (i' := 0) (j' := 3000) hZ46 (fun q => absurd q.1 (by decide))).trans (zu_ne (k' := 2) (b' := 0) (i' := 0) (j' := 3000) hZ29 (fun q => absurd q.1 (by decide)))
                            have r58 := zM_k hZ46I 2 0 0 (3013 + 60 * a1) (lo := 0) (hi := 500) (by decide) (zs_3010_3 (x := (a1 + 0)) (by omega) (by omega) (by omega))
                            have r59 := zM_cs hZ46I a1
                            have q60 := (zu_ne (k' := 2) (b' := 0) (i' := 0) (j' := (3013 + 60 * a1)) hZ46 (fun q => absurd q.1 (by decide))).trans (zu_ne (k' := 2) (b' := 0) (i' := 0) (j' := (3013 + 60 * a1)) hZ29 (fun q => absurd q.1 (by decide)))
                            obtain ⟨Z61, hZ61, c9, hZ61I, kZ61, jZ61⟩ := sp_307 (ν := ν) hZ46I (a1 := a1) (by omega) (a2 := a2) (by omega) (a3 := a3) (by omega) (a4 := a4) (by omega) (by omega) (by omega) (by omega) (by omega) (by omega) (zbh (c := 0) (k := 0) hM (Nat.le_of_ble_eq_true rfl))
                            have hZ61U : zU [] Z Z61 := zU_t hZ46U jZ61 zU_b0
                            have hZ61K : zC [1, 2] Z Z61 := zC_t hZ46K kZ61 (by decide)
                            replace hP := zl_e hP hZ61
                            refine wz_cV_of (zas (zcons rfl (zcons (zvi (rfl : i3 a1 = i3 a1)) (zcons (zvi (rfl : i3 a2 = i3 a2)) (zcons (zvi (rfl : i3 a3 = i3 a3)) (zcons (zvi (rfl : i3 a4 = i3 a4)) rfl))))) c9) ?_
                            clear c9
                            refine wz_i0 (i3O (n := 4400) (i3A (i3A (show (3010 : Int32) = i3 3010 from rfl) (i3M (show (60 : Int32) = i3 60 from rfl) (rfl : i3 a1 = i3 a1))) (show (5 : Int32) = i3 5 from rfl)) (by omega) (by omega) (by omega)) ?_
                            have r62 := zM_k hZ61I 2 0 0 (3015 + 60 * a1) (lo := 0) (hi := 12) (by decide) (zs_3010_5 (x := (a1 + 0)) (by omega) (by omega) (by omega))
                            exact zlY hP (i3S (zm_rd (Z := Z61) (ν := ν) (k := 2) (show ((0 : Nat) : Int) = 0 from rfl) (show ((0 : Nat) : Int) = 0 from rfl) (i3I (y := (3015 + 60 * a1)) (i3A (i3A (show (3010 : Int32) = i3 3010 from rfl) (i3M (show (60 : Int32) = i3 60 from rfl) (rfl : i3 a1 = i3 a1))) (show (5 : Int32) = i3 5 from rfl)) (by omega) (by omega) (by omega))) (show (1 : Int32) = i3 1 from rfl)) (.inl rfl) ⟨hZ61I, hZ61K, hZ61U⟩
/- yX12_rRipe -/
def zf_483 (Z : qz_Z) (a1 : Int) (a2 : Int) (a3 : Int) : qz_Z × Int := (if 1 < (Z 2 0 0 (210 + 20 * a1)) then (Z, (-1)) else (zlet (zf_351 Z 0) (fun Z5 => (if (Z5 2 0 0 (211 + 20 * a1)) = a2 then (zlet (zf_460 Z5 a3) (fun Z11 => (zlet (zf_493 Z11 0) (fun Z14 => (Z14, (Z11 2 0 0 (207 + 20 * a1))))))) else (zlet (zf_472 Z5 a1 a2) (fun Z18 => (zlet (zf_460 Z18 a3) (fun Z19 => (zlet (zf_493 Z19 0) (fun Z22 => (Z22, (Z19 2 0 0 (207 + 20 * a1)))))))))))))
theorem sp_483 {s : zSM} {Z : qz_Z} {ν : qz_N} (hZ : zM s Z) {a1 : Int} (ga1 : 0 ≤ a1 ∧ a1 ≤ 47) {a2 : Int} (ga2 : 0 ≤ a2 ∧ a2 ≤ 6) {a3 : Int} (ga3 : 0 ≤ a3 ∧ a3 ≤ 671) (hM : s.2 + 2 ≤ 1000000000) : ∃ (Z1 : qz_Z) (P : Int), (Z1, P) = zf_483 Z a1 a2 a3 ∧ (qf_483 [.inr (.inr (some (1, 0, 0))), .inl (i3 a1), .inl (i3 a2), .inl (i3 a3)] (zm Z ν) = some (zm Z1 ν, .inl (some (.inl (i3 P)))) ∧ zM (zb s 2) Z1 ∧ zC [2, 81, 1200] Z Z1 ∧ zU [] Z Z1 ∧ -1 ≤ P ∧ P ≤ 2000) := by
  obtain ⟨P, hP⟩ := zx (zf_483 Z a1 a2 a3)
  refine zc_W (Q := fun Z1 P => zM (zb s 2) Z1 ∧ zC [2, 81, 1200] Z Z1 ∧ zU [] Z Z1 ∧ -1 ≤ P ∧ P ≤ 2000) hP (fw_483 (i3 a1) (i3 a2) (i3 a3) _ _ ?_)
  replace hP : zE P (zf_483 Z a1 a2 a3) := hP
  unfold zf_483 at hP
  refine wz_i0 (i3O (n := 4400) (i3A (i3A (show (200 : Int32) = i3 200 from rfl) (i3M (show (20 : Int32) = i3 20 from rfl) (rfl : i3 a1 = i3 a1))) (show (10 : Int32) = i3 10 from rfl)) (by omega) (by omega) (by omega)) ?_
  have r1 := zM_k hZ 2 0 0 (210 + 20 * a1) (lo := 0) (hi := 4) (by decide) (zs_200_10 (x := a1) (by omega) (by omega) (by omega))
  have r2 := zM_pl hZ a1
  have r3 := zM_k hZ 2 0 0 102 (lo := 0) (hi := 48) (by decide) rfl
  refine wz_br (i3L (show (1 : Int32) = i3 1 from rfl) (zm_rd (Z := Z) (ν := ν) (k := 2) (show ((0 : Nat) : Int) = 0 from rfl) (show ((0 : Nat) : Int) = 0 from rfl) (i3I (y := (210 + 20 * a1)) (i3A (i3A (show (200 : Int32) = i3 200 from rfl) (i3M (show (20 : Int32) = i3 20 from rfl) (rfl : i3 a1 = i3 a1))) (show (10 : Int32) = i3 10 from rfl)) (by omega) (by omega) (by omega))) (by omega) (by omega) (by omega) (by omega)) (fun h4 => ?_) (fun h4 => ?_)
  · replace hP := zE_p hP h4
    exact zlW hP (show (-1 : Int32) = i3 (-1) from rfl) ⟨(zmw (a := 0) (c := 2) hZ (Nat.le_of_ble_eq_true rfl)), zC_r, zU_r, by omega, by omega⟩
  · replace hP := zE_n hP h4
    obtain ⟨Z5, hZ5, c9, hZ5I, kZ5, jZ5⟩ := sp_351 (ν := ν) hZ (a1 := 0) (by omega) (zbh (c := 0) (k := 0) hM (Nat.le_of_ble_eq_true rfl))
    have hZ5U : zU [] Z Z5 := zU_t zU_r jZ5 zU_b0
    have hZ5K : zC [2, 81, 1200] Z Z5 := zC_t zC_r kZ5 (by decide)
    replace hP := zl_e hP hZ5
    refine wz_cV_of (zas (zcons rfl (zcons (zvi (show (0 : Int32) = i3 0 from rfl)) rfl)) c9) ?_
    clear c9
    refine wz_i0 (i3O (n := 4400) (i3A (i3A (show (200 : Int32) = i3 200 from rfl) (i3M (show (20 : Int32) = i3 20 from rfl) (rfl : i3 a1 = i3 a1))) (show (11 : Int32) = i3 11 from rfl)) (by omega) (by omega) (by omega)) ?_
    have r6 := zM_k hZ5I 2 0 0 (211 + 20 * a1) (lo := -1) (hi := 6) (by decide) (zs_200_11 (x := a1) (by omega) (by omega) (by omega))
    have r7 := zM_pl hZ5I a1
    have r8 := zM_k hZ5I 2 0 0 102 (lo := 0) (hi := 48) (by decide) rfl
    have q9 := kZ5 2 0 0 102 (by decide)
    refine wz_br (i3E (zm_rd (Z := Z5) (ν := ν) (k := 2) (show ((0 : Nat) : Int) = 0 from rfl) (show ((0 : Nat) : Int) = 0 from rfl) (i3I (y := (211 + 20 * a1)) (i3A (i3A (show (200 : Int32) = i3 200 from rfl) (i3M (show (20 : Int32) = i3 20 from rfl) (rfl : i3 a1 = i3 a1))) (show (11 : Int32) = i3 11 from rfl)) (by omega) (by omega) (by omega))) (rfl : i3 a2 = i3 a2) (by omega) (by omega) (by omega) (by omega)) (fun h10 => ?_) (fun h10 => ?_)
    · replace hP := zE_p hP h10
      obtain ⟨Z11, hZ11, c9, hZ11I, kZ11, jZ11, wZ110⟩ := sp_460 (ν := ν) hZ5I (a1 := a3) (by omega) (zbh (c := 0) (k := 0) hM (Nat.le_of_ble_eq_true rfl))
      have hZ11U : zU [] Z Z11 := zU_t hZ5U jZ11 zU_b0
      have hZ11K : zC [2, 81, 1200] Z Z11 := zC_t hZ5K kZ11 (by decide)
      replace hP := zl_e hP hZ11
      refine wz_cV_of (zas (zcons rfl (zcons (zvi (rfl : i3 a3 = i3 a3)) rfl)) c9) ?_
      clear c9
      have r12 := zM_k hZ11I 2 0 0 0 (lo := 0) (hi := 671) (by decide) rfl
      have r13 := zM_k hZ5I 2 0 0 0 (lo := 0) (hi := 671) (by decide) rfl
      refine wz_i0 (i3O (n := 4400) (i3A (i3A (show (200 : Int32) = i3 200 from rfl) (i3M (show (20 : Int32) = i3 20 from rfl) (rfl : i3 a1 = i3 a1))) (show (7 : Int32) = i3 7 from rfl)) (by omega) (by omega) (by omega)) ?_
      obtain ⟨Z14, hZ14, c9, hZ14I, kZ14, jZ14⟩ := sp_493 (ν := ν) hZ11I (a1 := 0) (by omega) (zbh (c := 0) (k := 0) hM (Nat.le_of_ble_eq_true rfl))
      have hZ14U : zU [] Z Z14 := zU_t hZ11U jZ14 zU_b0
      have hZ14K : zC [2, 81, 1200] Z Z14 := zC_t hZ11K kZ14 (by decide)
      replace hP := zl_e hP hZ14
      refine wz_cV_of (zas (zcons rfl (zcons (zvi (show (0 : Int32) = i3 0 from rfl)) rfl)) c9) ?_
      clear c9
      have r15 := zM_k hZ11I 2 0 0 (207 + 20 * a1) (lo := 0) (hi := 2000) (by decide) (zs_200_7 (x := a1) (by omega) (by omega) (by omega))
      exact zlW hP (zm_rd (Z := Z11) (ν := ν) (k := 2) (show ((0 : Nat) : Int) = 0 from rfl) (show ((0 : Nat) : Int) = 0 from rfl) (i3I (y := (207 + 20 * a1)) (i3A (i3A (show (200 : Int32) = i3 200 from rfl) (i3M (show (20 : Int32) = i3 20 from rfl) (rfl : i3 a1 = i3 a1))) (show (7 : Int32) = i3 7 from rfl)) (by omega) (by omega) (by omega))) ⟨(zmw (a := 0) (c := 2) hZ14I (Nat.le_of_ble_eq_true rfl)), hZ14K, hZ14U, by omega, by omega⟩
    · replace hP := zE_n hP h10
      have r16 := zM_k hZ5I 2 0 0 (210 + 20 * a1) (lo := 0) (hi := 4) (by decide) (zs_200_10 (x := a1) (by omega) (by omega) (by omega))
      have q17 := kZ5 2 0 0 (210 + 20 * a1) (zcl_2r (by omega) rfl)
      obtain ⟨Z18, hZ18, c9, hZ18I, kZ18, jZ18⟩ := sp_472 (ν := ν) hZ5I (a1 := a1) (by omega) (a2 := a2) (by omega) (by omega) (zbh (c := 0) (k := 2) hM (Nat.le_of_ble_eq_true rfl))
      have hZ18U : zU [] Z Z18 := zU_t hZ5U jZ18 zU_b0
      have hZ18K : zC [2, 81, 1200] Z Z18 := zC_t hZ5K kZ18 (by decide)
      replace hP := zl_e hP hZ18
      refine wz_cV_of (zas (zcons rfl (zcons (zvi (rfl : i3 a1 = i3 a1)) (zcons (zvi (rfl : i3 a2 = i3 a2)) rfl))) c9) ?_
      clear c9
      obtain ⟨Z19, hZ19, c9, hZ19I, kZ19, jZ19, wZ190⟩ := sp_460 (ν := ν) hZ18I (a1 := a3) (by omega) (zbh (c := 2) (k := 0) hM (Nat.le_of_ble_eq_true rfl))
      have hZ19U : zU [] Z Z19 := zU_t hZ18U jZ19 zU_b0
      have hZ19K : zC [2, 81, 1200] Z Z19 := zC_t hZ18K kZ19 (by decide)
      replace hP := zl_e hP hZ19
      refine wz_cV_of (zas (zcons rfl (zcons (zvi (rfl : i3 a3 = i3 a3)) rfl)) c9) ?_
      clear c9
      have r20 := zM_k hZ19I 2 0 0 0 (lo := 0) (hi := 671) (by decide) rfl
      have r21 := zM_k hZ18I 2 0 0 0 (lo := 0) (hi := 671) (by decide) rfl
      refine wz_i0 (i3O (n := 4400) (i3A (i3A (show (200 : Int32) = i3 200 from rfl) (i3M (show (20 : Int32) = i3 20 from rfl) (rfl : i3 a1 = i3 a1))) (show (7 : Int32) = i3 7 from rfl)) (by omega) (by omega) (by omega)) ?_
      obtain ⟨Z22, hZ22, c9, hZ22I, kZ22, jZ22⟩ := sp_493 (ν := ν) hZ19I (a1 := 0) (by omega) (zbh (c := 2) (k := 0) hM (Nat.le_of_ble_eq_true rfl))
      have hZ22U : zU [] Z Z22 := zU_t hZ19U jZ22 zU_b0
      have hZ22K : zC [2, 81, 1200] Z Z22 := zC_t hZ19K kZ22 (by decide)
      replace hP := zl_e hP hZ22
      refine wz_cV_of (zas (zcons rfl (zcons (zvi (show (0 : Int32) = i3 0 from rfl)) rfl)) c9) ?_
      clear c9
      have r23 := zM_k hZ19I 2 0 0 (207 + 20 * a1) (lo := 0) (hi := 2000) (by decide) (zs_200_7 (x := a1) (by omega) (by omega) (by omega))
      exact zlW hP (zm_rd (Z := Z19) (ν := ν) (k := 2) (show ((0 : Nat) : Int) = 0 from rfl) (show ((0 : Nat) : Int) = 0 from rfl) (i3I (y := (207 + 20 * a1)) (i3A (i3A (show (200 : Int32) = i3 200 from rfl) (i3M (show (20 : Int32) = i3 20 from rfl) (rfl : i3 a1 = i3 a1))) (show (7 : Int32) = i3 7 from rfl)) (by omega) (by omega) (by omega))) ⟨hZ22I, hZ22K, hZ22U, by omega, by omega⟩
/- yX12_ripe -/
def zy_494 (Z : qz_Z) (a1 : Int) (a2 : Int) (a3 : Int) : qz_Z × Int := (if a1 < 0 then (zlet (zu Z 1 0 0 2 1) (fun Z5 => (Z5, 0))) else (if ((Z 2 0 0 102) - 1) < a1 then (zlet (zu Z 1 0 0 2 1) (fun Z8 => (Z8, 0))) else (if a2 = (-1) then (zlet (zu Z 1 0 0 2 0) (fun Z10 => (if a3 < (Z10 2 0 0 0) then (zlet (zu Z10 1 0 0 2 2) (fun Z13 => (Z13, 0))) else (if 671 < a3 then (zlet (zu Z10 1 0 0 2 2) (fun Z15 => (Z15, 0))) else (zlet (zu Z10 1 0 0 2 0) (fun Z16 => (zlet2 (zf_483 Z16 a1 6 a3) (fun Z17 v18 => (Z17, v18))))))))) else (if a2 < 0 then (zlet (zu Z 1 0 0 2 1) (fun Z20 => (Z20, 0))) else (if ((Z 2 0 0 1200) - 1) < a2 then (zlet (zu Z 1 0 0 2 1) (fun Z23 => (Z23, 0))) else (zlet (zu Z 1 0 0 2 0) (fun Z24 => (if a3 < (Z24 2 0 0 0) then (zlet (zu Z24 1 0 0 2 2) (fun Z27 => (Z27, 0))) else (if 671 < a3 then (zlet (zu Z24 1 0 0 2 2) (fun Z29 => (Z29, 0))) else (zlet (zu Z24 1 0 0 2 0) (fun Z30 => (zlet2 (zf_483 Z30 a1 a2 a3) (fun Z31 v32 => (Z31, v32))))))))))))))
theorem sy_494 {s : zSM} {Z : qz_Z} {ν : qz_N} (hZ : zM s Z) (gq : Z 1 0 0 35 = 0) (hM : s.2 + 2 ≤ 1000000000) {a1 : Int} (ga1 : -2147483648 ≤ a1 ∧ a1 ≤ 2147483647) {a2 : Int} (ga2 : -2147483648 ≤ a2 ∧ a2 ≤ 2147483647) {a3 : Int} (ga3 : -2147483648 ≤ a3 ∧ a3 ≤ 2147483647) {ν1 : qz_N} : ∃ (Z1 : qz_Z) (ν2 : qz_N) (v : Int), (Z1, v) = zy_494 Z a1 a2 a3 ∧ (ν2 = ν ∨ ν2 = ν1) ∧ qf_494 [.inr (.inr (some (1, 0, 0))), .inl (i3 a1), .inl (i3 a2), .inl (i3 a3)] (zm Z ν) = some (zm Z1 ν2, .inl (some (.inl (i3 v)))) ∧ (fun Z1 => zM (zb s 2) Z1 ∧ zC [1, 2, 81, 1200] Z Z1 ∧ zU [] Z Z1) Z1 := by
  obtain ⟨P, hP⟩ := zx (zy_494 Z a1 a2 a3)
  refine zc_Y (Q := fun Z1 => zM (zb s 2) Z1 ∧ zC [1, 2, 81, 1200] Z Z1 ∧ zU [] Z Z1) hP (fw_494 (i3 a1) (i3 a2) (i3 a3) _ _ ?_)
  replace hP : zE P (zy_494 Z a1 a2 a3) := hP
  unfold zy_494 at hP
  have r1 := zM_k hZ 1 0 0 35 (lo := 0) (hi := 1) (by decide) rfl
  have r2 := zM_k hZ 1 0 0 34 (lo := 0) (hi := 8) (by decide) rfl
  have r3 := zM_f hZ 1 0 0 37
  refine wz_br (i3L (rfl : i3 a1 = i3 a1) (show (0 : Int32) = i3 0 from rfl) (by omega) (by omega) (by omega) (by omega)) (fun h4 => ?_) (fun h4 => ?_)
  · replace hP := zE_p hP h4
    obtain ⟨Z5, hZ5⟩ := zx (zu Z 1 0 0 2 1)
    replace hP := zl_e hP hZ5
    have hZ5I := zM_u hZ hZ5 (lo := -2147483648) (hi := 2147483647) (by decide) rfl (by omega) ⟨by decide, by decide⟩ (Or.inr (by decide)) rfl
    have hZ5U : zU [] Z Z5 := zU_u zU_r hZ5 (Or.inl rfl)
    have hZ5K : zC [1, 2, 81, 1200] Z Z5 := zC_u zC_r hZ5 (by decide)
    intro μ9 e9
    replace e9 := e9.trans (zm_wI (Z := Z) (ν := ν) hZ5 (show ((0 : Nat) : Int) = 0 from rfl) (show ((0 : Nat) : Int) = 0 from rfl) (show ((2 : Nat) : Int) = 2 from rfl) (show (1 : Int32) = i3 1 from rfl))
    subst e9
    exact zlY hP (show (0 : Int32) = i3 0 from rfl) (.inl rfl) ⟨(zmw (a := 0) (c := 2) hZ5I (Nat.le_of_ble_eq_true rfl)), hZ5K, hZ5U⟩
  · replace hP := zE_n hP h4
    have r6 := zM_k hZ 2 0 0 102 (lo := 0) (hi := 48) (by decide) rfl
    refine wz_br (i3L (i3S (zm_rd (Z := Z) (ν := ν) (k := 2) (show ((0 : Nat) : Int) = 0 from rfl) (show ((0 : Nat) : Int) = 0 from rfl) (show ((102 : Nat) : Int) = 102 from rfl)) (show (1 : Int32) = i3 1 from rfl)) (rfl : i3 a1 = i3 a1) (by omega) (by omega) (by omega) (by omega)) (fun h7 => ?_) (fun h7 => ?_)
    · replace hP := zE_p hP h7
      obtain ⟨Z8, hZ8⟩ := zx (zu Z 1 0 0 2 1)
      replace hP := zl_e hP hZ8
      have hZ8I := zM_u hZ hZ8 (lo := -2147483648) (hi := 2147483647) (by decide) rfl (by omega) ⟨by decide, by decide⟩ (Or.inr (by decide)) rfl
      have hZ8U : zU [] Z Z8 := zU_u zU_r hZ8 (Or.inl rfl)
      have hZ8K : zC [1, 2, 81, 1200] Z Z8 := zC_u zC_r hZ8 (by decide)
      intro μ9 e9
      replace e9 := e9.trans (zm_wI (Z := Z) (ν := ν) hZ8 (show ((0 : Nat) : Int) = 0 from rfl) (show ((0 : Nat) : Int) = 0 from rfl) (show ((2 : Nat) : Int) = 2 from rfl) (show (1 : Int32) = i3 1 from rfl))
      subst e9
      exact zlY hP (show (0 : Int32) = i3 0 from rfl) (.inl rfl) ⟨(zmw (a := 0) (c := 2) hZ8I (Nat.le_of_ble_eq_true rfl)), hZ8K, hZ8U⟩
    · replace hP := zE_n hP h7
      refine wz_br (i3E (rfl : i3 a2 = i3 a2) (show (-1 : Int32) = i3 (-1) from rfl) (by omega) (by omega) (by omega) (by omega)) (fun h9 => ?_) (fun h9 => ?_)
      · replace hP := zE_p hP h9
        obtain ⟨Z10, hZ10⟩ := zx (zu Z 1 0 0 2 0)
        replace hP := zl_e hP hZ10
        have hZ10I := zM_0 hZ hZ10 (by decide) (Or.inr (by decide))
        have hZ10U : zU [] Z Z10 := zU_u zU_r hZ10 (Or.inl rfl)
        have hZ10K : zC [1, 2, 81, 1200] Z Z10 := zC_u zC_r hZ10 (by decide)
        intro μ9 e9
        replace e9 := e9.trans (zm_wI (Z := Z) (ν := ν) hZ10 (show ((0 : Nat) : Int) = 0 from rfl) (show ((0 : Nat) : Int) = 0 from rfl) (show ((2 : Nat) : Int) = 2 from rfl) (show (0 : Int32) = i3 0 from rfl))
        subst e9
        have r11 := zM_k hZ10I 2 0 0 0 (lo := 0) (hi := 671) (by decide) rfl
        refine wz_br (i3L (rfl : i3 a3 = i3 a3) (zm_rd (Z := Z10) (ν := ν) (k := 2) (show ((0 : Nat) : Int) = 0 from rfl) (show ((0 : Nat) : Int) = 0 from rfl) (show ((0 : Nat) : Int) = 0 from rfl)) (by omega) (by omega) (by omega) (by omega)) (fun h12 => ?_) (fun h12 => ?_)
        · replace hP := zE_p hP h12
          obtain ⟨Z13, hZ13⟩ := zx (zu Z10 1 0 0 2 2)
          replace hP := zl_e hP hZ13
          have hZ13I := zM_u hZ10I hZ13 (lo := -2147483648) (hi := 2147483647) (by decide) rfl (by omega) ⟨by decide, by decide⟩ (Or.inr (by decide)) rfl
          have hZ13U : zU [] Z Z13 := zU_u hZ10U hZ13 (Or.inl rfl)
          have hZ13K : zC [1, 2, 81, 1200] Z Z13 := zC_u hZ10K hZ13 (by decide)
          intro μ9 e9
          replace e9 := e9.trans (zm_wI (Z := Z10) (ν := ν) hZ13 (show ((0 : Nat) : Int) = 0 from rfl) (show ((0 : Nat) : Int) = 0 from rfl) (show ((2 : Nat) : Int) = 2 from rfl) (show (2 : Int32) = i3 2 from rfl))
          subst e9
          exact zlY hP (show (0 : Int32) = i3 0 from rfl) (.inl rfl) ⟨(zmw (a := 0) (c := 2) hZ13I (Nat.le_of_ble_eq_true rfl)), hZ13K, hZ13U⟩
        · replace hP := zE_n hP h12
          refine wz_br (i3L (show (671 : Int32) = i3 671 from rfl) (rfl : i3 a3 = i3 a3) (by omega) (by omega) (by omega) (by omega)) (fun h14 => ?_) (fun h14 => ?_)
          · replace hP := zE_p hP h14
            obtain ⟨Z15, hZ15⟩ := zx (zu Z10 1 0 0 2 2)
            replace hP := zl_e hP hZ15
            have hZ15I := zM_u hZ10I hZ15 (lo := -2147483648) (hi := 2147483647) (by decide) rfl (by omega) ⟨by decide, by decide⟩ (Or.inr (by decide)) rfl
            have hZ15U : zU [] Z Z15 := zU_u hZ10U hZ15 (Or.inl rfl)
            have hZ15K : zC [1, 2, 81, 1200] Z Z15 := zC_u hZ10K hZ15 (by decide)
            intro μ9 e9
            replace e9 := e9.trans (zm_wI (Z := Z10) (ν := ν) hZ15 (show ((0 : Nat) : Int) = 0 from rfl) (show ((0 : Nat) : Int) = 0 from rfl) (show ((2 : Nat) : Int) = 2 from rfl) (show (2 : Int32) = i3 2 from rfl))
            subst e9
            exact zlY hP (show (0 : Int32) = i3 0 from rfl) (.inl rfl) ⟨(zmw (a := 0) (c := 2) hZ15I (Nat.le_of_ble_eq_true rfl)), hZ15K, hZ15U⟩
          · replace hP := zE_n hP h14
            obtain ⟨Z16, hZ16⟩ := zx (zu Z10 1 0 0 2 0)
            replace hP := zl_e hP hZ16
            have hZ16I := zM_0 hZ10I hZ16 (by decide) (Or.inr (by decide))
            have hZ16U : zU [] Z Z16 := zU_u hZ10U hZ16 (Or.inl rfl)
            have hZ16K : zC [1, 2, 81, 1200] Z Z16 := zC_u hZ10K hZ16 (by decide)
            intro μ9 e9
            replace e9 := e9.trans (zm_wI (Z := Z10) (ν := ν) hZ16 (show ((0 : Nat) : Int) = 0 from rfl) (show ((0 : Nat) : Int) = 0 from rfl) (show ((2 : Nat) : Int) = 2 from rfl) (show (0 : Int32) = i3 0 from rfl))
            subst e9
            refine wz_i0 (Eq.trans (i3NE (rfl : i3 a2 = i3 a2) (show (-1 : Int32) = i3 (-1) from rfl) (by omega) (by omega) (by omega) (by omega)) (decide_eq_false (by omega))) ?_
            obtain ⟨Z17, v18, hv18, c9, hZ17I, kZ17, jZ17, lv18, uv18⟩ := sp_483 (ν := ν) hZ16I (a1 := a1) (by omega) (a2 := 6) (by omega) (a3 := a3) (by omega) (zbh (c := 0) (k := 2) hM (Nat.le_of_ble_eq_true rfl))
            have hZ17U : zU [] Z Z17 := zU_t hZ16U jZ17 zU_b0
            have hZ17K : zC [1, 2, 81, 1200] Z Z17 := zC_t hZ16K kZ17 (by decide)
            replace hP := zl_e2 hP hv18
            refine wz_cI_of (zas (zcons rfl (zcons (zvi (rfl : i3 a1 = i3 a1)) (zcons (zvi (show (6 : Int32) = i3 6 from rfl)) (zcons (zvi (rfl : i3 a3 = i3 a3)) rfl)))) c9) ?_
            clear c9 hv18
            exact zlY hP (rfl : i3 v18 = i3 v18) (.inl rfl) ⟨hZ17I, hZ17K, hZ17U⟩
      · replace hP := zE_n hP h9
        refine wz_br (i3L (rfl : i3 a2 = i3 a2) (show (0 : Int32) = i3 0 from rfl) (by omega) (by omega) (by omega) (by omega)) (fun h19 => ?_) (fun h19 => ?_)
        · replace hP := zE_p hP h19
          obtain ⟨Z20, hZ20⟩ := zx (zu Z 1 0 0 2 1)
          replace hP := zl_e hP hZ20
          have hZ20I := zM_u hZ hZ20 (lo := -2147483648) (hi := 2147483647) (by decide) rfl (by omega) ⟨by decide, by decide⟩ (Or.inr (by decide)) rfl
          have hZ20U : zU [] Z Z20 := zU_u zU_r hZ20 (Or.inl rfl)
          have hZ20K : zC [1, 2, 81, 1200] Z Z20 := zC_u zC_r hZ20 (by decide)
          intro μ9 e9
          replace e9 := e9.trans (zm_wI (Z := Z) (ν := ν) hZ20 (show ((0 : Nat) : Int) = 0 from rfl) (show ((0 : Nat) : Int) = 0 from rfl) (show ((2 : Nat) : Int) = 2 from rfl) (show (1 : Int32) = i3 1 from rfl))
          subst e9
          exact zlY hP (show (0 : Int32) = i3 0 from rfl) (.inl rfl) ⟨(zmw (a := 0) (c := 2) hZ20I (Nat.le_of_ble_eq_true rfl)), hZ20K, hZ20U⟩
        · replace hP := zE_n hP h19
          have r21 := zM_k hZ 2 0 0 1200 (lo := 0) (hi := 6) (by decide) rfl
          refine wz_br (i3L (i3S (zm_rd (Z := Z) (ν := ν) (k := 2) (show ((0 : Nat) : Int) = 0 from rfl) (show ((0 : Nat) : Int) = 0 from rfl) (show ((1200 : Nat) : Int) = 1200 from rfl)) (show (1 : Int32) = i3 1 from rfl)) (rfl : i3 a2 = i3 a2) (by omega) (by omega) (by omega) (by omega)) (fun h22 => ?_) (fun h22 => ?_)
          · replace hP := zE_p hP h22
            obtain ⟨Z23, hZ23⟩ := zx (zu Z 1 0 0 2 1)
            replace hP := zl_e hP hZ23
            have hZ23I := zM_u hZ hZ23 (lo := -2147483648) (hi := 2147483647) (by decide) rfl (by omega) ⟨by decide, by decide⟩ (Or.inr (by decide)) rfl
            have hZ23U : zU [] Z Z23 := zU_u zU_r hZ23 (Or.inl rfl)
            have hZ23K : zC [1, 2, 81, 1200] Z Z23 := zC_u zC_r hZ23 (by decide)
            intro μ9 e9
            replace e9 := e9.trans (zm_wI (Z := Z) (ν := ν) hZ23 (show ((0 : Nat) : Int) = 0 from rfl) (show ((0 : Nat) : Int) = 0 from rfl) (show ((2 : Nat) : Int) = 2 from rfl) (show (1 : Int32) = i3 1 from rfl))
            subst e9
            exact zlY hP (show (0 : Int32) = i3 0 from rfl) (.inl rfl) ⟨(zmw (a := 0) (c := 2) hZ23I (Nat.le_of_ble_eq_true rfl)), hZ23K, hZ23U⟩
          · replace hP := zE_n hP h22
            obtain ⟨Z24, hZ24⟩ := zx (zu Z 1 0 0 2 0)
            replace hP := zl_e hP hZ24
            have hZ24I := zM_0 hZ hZ24 (by decide) (Or.inr (by decide))
            have hZ24U : zU [] Z Z24 := zU_u zU_r hZ24 (Or.inl rfl)
            have hZ24K : zC [1, 2, 81, 1200] Z Z24 := zC_u zC_r hZ24 (by decide)
            intro μ9 e9
            replace e9 := e9.trans (zm_wI (Z := Z) (ν := ν) hZ24 (show ((0 : Nat) : Int) = 0 from rfl) (show ((0 : Nat) : Int) = 0 from rfl) (show ((2 : Nat) : Int) = 2 from rfl) (show (0 : Int32) = i3 0 from rfl))
            subst e9
            have r25 := zM_k hZ24I 2 0 0 0 (lo := 0) (hi := 671) (by decide) rfl
            refine wz_br (i3L (rfl : i3 a3 = i3 a3) (zm_rd (Z := Z24) (ν := ν) (k := 2) (show ((0 : Nat) : Int) = 0 from rfl) (show ((0 : Nat) : Int) = 0 from rfl) (show ((0 : Nat) : Int) = 0 from rfl)) (by omega) (by omega) (by omega) (by omega)) (fun h26 => ?_) (fun h26 => ?_)
            · replace hP := zE_p hP h26
              obtain ⟨Z27, hZ27⟩ := zx (zu Z24 1 0 0 2 2)
              replace hP := zl_e hP hZ27
              have hZ27I := zM_u hZ24I hZ27 (lo := -2147483648) (hi := 2147483647) (by decide) rfl (by omega) ⟨by decide, by decide⟩ (Or.inr (by decide)) rfl
              have hZ27U : zU [] Z Z27 := zU_u hZ24U hZ27 (Or.inl rfl)
              have hZ27K : zC [1, 2, 81, 1200] Z Z27 := zC_u hZ24K hZ27 (by decide)
              intro μ9 e9
              replace e9 := e9.trans (zm_wI (Z := Z24) (ν := ν) hZ27 (show ((0 : Nat) : Int) = 0 from rfl) (show ((0 : Nat) : Int) = 0 from rfl) (show ((2 : Nat) : Int) = 2 from rfl) (show (2 : Int32) = i3 2 from rfl))
              subst e9
              exact zlY hP (show (0 : Int32) = i3 0 from rfl) (.inl rfl) ⟨(zmw (a := 0) (c := 2) hZ27I (Nat.le_of_ble_eq_true rfl)), hZ27K, hZ27U⟩
            · replace hP := zE_n hP h26
              refine wz_br (i3L (show (671 : Int32) = i3 671 from rfl) (rfl : i3 a3 = i3 a3) (by omega) (by omega) (by omega) (by omega)) (fun h28 => ?_) (fun h28 => ?_)
              · replace hP := zE_p hP h28
                obtain ⟨Z29, hZ29⟩ := zx (zu Z24 1 0 0 2 2)
                replace hP := zl_e hP hZ29
                have hZ29I := zM_u hZ24I hZ29 (lo := -2147483648) (hi := 2147483647) (by decide) rfl (by omega) ⟨by decide, by decide⟩ (Or.inr (by decide)) rfl
                have hZ29U : zU [] Z Z29 := zU_u hZ24U hZ29 (Or.inl rfl)
                have hZ29K : zC [1, 2, 81, 1200] Z Z29 := zC_u hZ24K hZ29 (by decide)
                intro μ9 e9
                replace e9 := e9.trans (zm_wI (Z := Z24) (ν := ν) hZ29 (show ((0 : Nat) : Int) = 0 from rfl) (show ((0 : Nat) : Int) = 0 from rfl) (show ((2 : Nat) : Int) = 2 from rfl) (show (2 : Int32) = i3 2 from rfl))
                subst e9
                exact zlY hP (show (0 : Int32) = i3 0 from rfl) (.inl rfl) ⟨(zmw (a := 0) (c := 2) hZ29I (Nat.le_of_ble_eq_true rfl)), hZ29K, hZ29U⟩
              · replace hP := zE_n hP h28
                obtain ⟨Z30, hZ30⟩ := zx (zu Z24 1 0 0 2 0)
                replace hP := zl_e hP hZ30
                have hZ30I := zM_0 hZ24I hZ30 (by decide) (Or.inr (by decide))
                have hZ30U : zU [] Z Z30 := zU_u hZ24U hZ30 (Or.inl rfl)
                have hZ30K : zC [1, 2, 81, 1200] Z Z30 := zC_u hZ24K hZ30 (by decide)
                intro μ9 e9
                replace e9 := e9.trans (zm_wI (Z := Z24) (ν := ν) hZ30 (show ((0 : Nat) : Int) = 0 from rfl) (show ((0 : Nat) : Int) = 0 from rfl) (show ((2 : Nat) : Int) = 2 from rfl) (show (0 : Int32) = i3 0 from rfl))
                subst e9
                refine wz_i1 (Eq.trans (i3NE (rfl : i3 a2 = i3 a2) (show (-1 : Int32) = i3 (-1) from rfl) (by omega) (by omega) (by omega) (by omega)) (decide_eq_true (by omega))) ?_
                obtain ⟨Z31, v32, hv32, c9, hZ31I, kZ31, jZ31, lv32, uv32⟩ := sp_483 (ν := ν) hZ30I (a1 := a1) (by omega) (a2 := a2) (by omega) (a3 := a3) (by omega) (zbh (c := 0) (k := 2) hM (Nat.le_of_ble_eq_true rfl))
                have hZ31U : zU [] Z Z31 := zU_t hZ30U jZ31 zU_b0
                have hZ31K : zC [1, 2, 81, 1200] Z Z31 := zC_t hZ30K kZ31 (by decide)
                replace hP := zl_e2 hP hv32
                refine wz_cI_of (zas (zcons rfl (zcons (zvi (rfl : i3 a1 = i3 a1)) (zcons (zvi (rfl : i3 a2 = i3 a2)) (zcons (zvi (rfl : i3 a3 = i3 a3)) rfl)))) c9) ?_
                clear c9 hv32
                exact zlY hP (rfl : i3 v32 = i3 v32) (.inl rfl) ⟨hZ31I, hZ31K, hZ31U⟩
/- yX12_rRoom -/
def zl_485_1 (x1 : Int) (x2 : Int) (x3 : Int) (x4 : Int) (x5 : Int) : Nat → qz_Z → Int → qz_Z × Int
  | 0, Z, x6 => (Z, x6)
  | m + 1, Z, x6 => (if 12 ≤ x6 then (Z, x6) else (zlet (zu Z 2 0 0 (1210 + 12 * x5 + x6) 0) (fun Z3 => zl_485_1 x1 x2 x3 x4 x5 m Z3 (x6 + 1))))
theorem sl_485_1 {s : zSM} {Zs Z : qz_Z} {ν : qz_N} (hZ : zM s Z) (hM : s.2 + 0 ≤ 1000000000) (hK : zC [2] Zs Z) {x1 : Int} (gx1 : 1 ≤ x1 ∧ x1 ≤ 12) {x2 : Int} (gx2 : 0 ≤ x2 ∧ x2 ≤ 9) {x3 : Int} (gx3 : 0 ≤ x3 ∧ x3 ≤ 9) {x4 : Int} (gx4 : 0 ≤ x4 ∧ x4 ≤ 40) {x5 : Int} (gx5 : 0 ≤ x5 ∧ x5 ≤ 5) {x6 : Int} (gx6 : 0 ≤ x6 ∧ x6 ≤ 12) (hU : zU [] Zs Z) (gr0 : Z 2 0 0 1200 = x5) {k : wz_K} {R : wz_R} {L : qz_L} (hL : qz_fg [true, true, true, true, true, true, true] L = [some (.inr (.inr (some (1, 0, 0)))), some (.inl (i3 x1)), some (.inl (i3 x2)), some (.inl (i3 x3)), some (.inl (i3 x4)), some (.inl (i3 x5)), some (.inl (i3 x6))]) {T : qz_Z × Int} (hP : zE T (zl_485_1 x1 x2 x3 x4 x5 ((12 - x6).toNat + 1) Z x6)) (hk : ∀ (L9 : qz_L) (Z9 : qz_Z) (yx6 : Int), qz_fg [true, true, true, true, true, true, false] L9 = [some (.inr (.inr (some (1, 0, 0)))), some (.inl (i3 x1)), some (.inl (i3 x2)), some (.inl (i3 x3)), some (.inl (i3 x4)), some (.inl (i3 x5)), none] → zM s Z9 → zC [2] Zs Z9 → zU [] Zs Z9 → (0 ≤ yx6 ∧ yx6 ≤ 12) → (Z9 2 0 0 1200 = x5) → zE T ((Z9, yx6)) → k 0 (L9, [], zm Z9 ν)) : wz_loop qb_485_1 65536 k R (L, [], zm Z ν) := by
  refine wz_lp sb_485_1 (fun m x => ∃ Z : qz_Z, ∃ x6 : Int, qz_fg [true, true, true, true, true, true, true] x.1 = [some (.inr (.inr (some (1, 0, 0)))), some (.inl (i3 x1)), some (.inl (i3 x2)), some (.inl (i3 x3)), some (.inl (i3 x4)), some (.inl (i3 x5)), some (.inl (i3 x6))] ∧ x.2 = ([], zm Z ν) ∧ zM s Z ∧ zC [2] Zs Z ∧ zU [] Zs Z ∧ m = (12 - x6).toNat ∧ (0 ≤ x6 ∧ x6 ≤ 12) ∧ (Z 2 0 0 1200 = x5) ∧ zE T (zl_485_1 x1 x2 x3 x4 x5 (m + 1) Z x6)) ?_ 65536 ((12 - x6).toNat) _ (by omega) ⟨Z, x6, hL, rfl, hZ, hK, hU, rfl, gx6, gr0, hP⟩
  clear hP gr0 gx6 hZ hK hU hL
  clear x6
  clear Z
  rintro m ⟨L, st, μ⟩ ⟨Z, x6, hL, hx, hZ, hK, hU, hm, gx6, gr0, hP⟩
  cases hx
  refine fb_485_1 (i3 x1) (i3 x2) (i3 x3) (i3 x4) (i3 x5) (i3 x6) _ _ _ _ hL ?_
  have r1 := zM_k hZ 2 0 0 1200 (lo := 0) (hi := 6) (by decide) rfl
  refine wz_br (i3Le (show (12 : Int32) = i3 12 from rfl) (rfl : i3 x6 = i3 x6) (by omega) (by omega) (by omega) (by omega)) (fun h2 => ?_) (fun h2 => ?_)
  · replace hP := zE_p hP h2
    exact hk _ _ _ (zconso rfl (zconso (zvo (rfl : i3 x1 = i3 x1)) (zconso (zvo (rfl : i3 x2 = i3 x2)) (zconso (zvo (rfl : i3 x3 = i3 x3)) (zconso (zvo (rfl : i3 x4 = i3 x4)) (zconso (zvo (rfl : i3 x5 = i3 x5)) (zconso rfl rfl))))))) hZ hK hU (by omega) (by omega) hP
  · replace hP := zE_n hP h2
    refine wz_i0 (i3O (n := 4400) (i3A (i3A (show (1210 : Int32) = i3 1210 from rfl) (i3M (show (12 : Int32) = i3 12 from rfl) (rfl : i3 x5 = i3 x5))) (rfl : i3 x6 = i3 x6)) (by omega) (by omega) (by omega)) ?_
    obtain ⟨Z3, hZ3⟩ := zx (zu Z 2 0 0 (1210 + 12 * x5 + x6) 0)
    replace hP := zl_e hP hZ3
    have hZ3I := zM_z2 hZ hZ3 (by omega) (by omega) (by omega)
    have hZ3U : zU [] Zs Z3 := zU_u hU hZ3 (Or.inl rfl)
    have hZ3K : zC [2] Zs Z3 := zC_u hK hZ3 (zcl_2w (by omega) rfl)
    intro μ9 e9
    replace e9 := e9.trans (zm_wI (Z := Z) (ν := ν) hZ3 (show ((0 : Nat) : Int) = 0 from rfl) (show ((0 : Nat) : Int) = 0 from rfl) (i3I (y := (1210 + 12 * x5 + x6)) (i3A (i3A (show (1210 : Int32) = i3 1210 from rfl) (i3M (show (12 : Int32) = i3 12 from rfl) (rfl : i3 x5 = i3 x5))) (rfl : i3 x6 = i3 x6)) (by omega) (by omega) (by omega)) (show (0 : Int32) = i3 0 from rfl))
    subst e9
    have r4 := zM_k hZ3I 2 0 0 1200 (lo := 0) (hi := 6) (by decide) rfl
    have q5 := zu_ne (k' := 2) (b' := 0) (i' := 0) (j' := 1200) hZ3 (fun q => absurd q.2.2.2 (by omega))
    obtain ⟨m2, rfl⟩ : ∃ m2, m = m2 + 1 := ⟨m - 1, by omega⟩
    exact wz_k1 ⟨m2, by omega, Z3, (x6 + 1), (zconso rfl (zconso (zvo (rfl : i3 x1 = i3 x1)) (zconso (zvo (rfl : i3 x2 = i3 x2)) (zconso (zvo (rfl : i3 x3 = i3 x3)) (zconso (zvo (rfl : i3 x4 = i3 x4)) (zconso (zvo (rfl : i3 x5 = i3 x5)) (zconso (zvo (i3A (rfl : i3 x6 = i3 x6) (show (1 : Int32) = i3 1 from rfl))) rfl))))))), rfl, hZ3I, hZ3K, hZ3U, by omega, by omega, by omega,  hP⟩
/- yX12_rRoom -/
def zf_485 (Z : qz_Z) (a1 : Int) (a2 : Int) (a3 : Int) (a4 : Int) : qz_Z × Int := (zlet2 (zl_485_1 a1 a2 a3 a4 (Z 2 0 0 1200) 13 Z 0) (fun Z3 y2 => (zlet (zu Z3 2 0 0 (1210 + 12 * (Z 2 0 0 1200)) a1) (fun Z6 => (zlet (zu Z6 2 0 0 (1211 + 12 * (Z 2 0 0 1200)) a2) (fun Z7 => (zlet (zu Z7 2 0 0 (1212 + 12 * (Z 2 0 0 1200)) a3) (fun Z8 => (zlet (zu Z8 2 0 0 (1213 + 12 * (Z 2 0 0 1200)) 18) (fun Z9 => (zlet (zu Z9 2 0 0 (1215 + 12 * (Z 2 0 0 1200)) a4) (fun Z10 => (zlet (zu Z10 2 0 0 1200 ((Z10 2 0 0 1200) + 1)) (fun Z13 => (Z13, (Z 2 0 0 1200))))))))))))))))
theorem sp_485 {s : zSM} {Z : qz_Z} {ν : qz_N} (hZ : zM s Z) {a1 : Int} (ga1 : 1 ≤ a1 ∧ a1 ≤ 12) {a2 : Int} (ga2 : 0 ≤ a2 ∧ a2 ≤ 9) {a3 : Int} (ga3 : 0 ≤ a3 ∧ a3 ≤ 9) {a4 : Int} (ga4 : 0 ≤ a4 ∧ a4 ≤ 40) (gx0 : Z 2 0 0 1200 ≤ 5) (hM : s.2 + 0 ≤ 1000000000) : ∃ (Z1 : qz_Z) (P : Int), (Z1, P) = zf_485 Z a1 a2 a3 a4 ∧ (qf_485 [.inr (.inr (some (1, 0, 0))), .inl (i3 a1), .inl (i3 a2), .inl (i3 a3), .inl (i3 a4)] (zm Z ν) = some (zm Z1 ν, .inl (some (.inl (i3 P)))) ∧ zM s Z1 ∧ zC [2] Z Z1 ∧ zU [] Z Z1 ∧ 0 ≤ P ∧ P ≤ 5 ∧ Z1 2 0 0 1200 = Z 2 0 0 1200 + 1) := by
  obtain ⟨P, hP⟩ := zx (zf_485 Z a1 a2 a3 a4)
  refine zc_W (Q := fun Z1 P => zM s Z1 ∧ zC [2] Z Z1 ∧ zU [] Z Z1 ∧ 0 ≤ P ∧ P ≤ 5 ∧ Z1 2 0 0 1200 = Z 2 0 0 1200 + 1) hP (fw_485 (i3 a1) (i3 a2) (i3 a3) (i3 a4) _ _ ?_)
  replace hP : zE P (zf_485 Z a1 a2 a3 a4) := hP
  unfold zf_485 at hP
  have r1 := zM_k hZ 2 0 0 1200 (lo := 0) (hi := 6) (by decide) rfl
  refine sl_485_1 (ν := ν) hZ (zbh (c := 0) (k := 0) hM (Nat.le_of_ble_eq_true rfl)) zC_r (x1 := a1) (by omega) (x2 := a2) (by omega) (x3 := a3) (by omega) (x4 := a4) (by omega) (x5 := (Z 2 0 0 1200)) (by omega) (x6 := 0) (by omega) zU_r (by omega) (zconso rfl (zconso (zvo (rfl : i3 a1 = i3 a1)) (zconso (zvo (rfl : i3 a2 = i3 a2)) (zconso (zvo (rfl : i3 a3 = i3 a3)) (zconso (zvo (rfl : i3 a4 = i3 a4)) (zconso (zvo (zm_rd (Z := Z) (ν := ν) (k := 2) (show ((0 : Nat) : Int) = 0 from rfl) (show ((0 : Nat) : Int) = 0 from rfl) (show ((1200 : Nat) : Int) = 1200 from rfl))) (zconso (zvo (show (0 : Int32) = i3 0 from rfl)) rfl))))))) rfl ?_
  intro L4 Z3 y2 hL4 hZ3I kZ3 jZ3 gy2 gL4_0 q9
  replace hP := zl_e2 hP (Eq.symm q9)
  clear q9
  have hZ3U : zU [] Z Z3 := zU_t zU_r jZ3 zU_b0
  have hZ3K : zC [2] Z Z3 := zC_t zC_r kZ3 (by decide)
  have r5 := zM_k hZ3I 2 0 0 1200 (lo := 0) (hi := 6) (by decide) rfl
  refine fc_485_2 (i3 a1) (i3 a2) (i3 a3) (i3 a4) (i3 (Z 2 0 0 1200)) _ _ _ _ hL4 ?_
  refine wz_i0 (i3O (n := 4400) (i3A (i3A (show (1210 : Int32) = i3 1210 from rfl) (i3M (show (12 : Int32) = i3 12 from rfl) (rfl : i3 (Z 2 0 0 1200) = i3 (Z 2 0 0 1200)))) (show (0 : Int32) = i3 0 from rfl)) (by omega) (by omega) (by omega)) ?_
  obtain ⟨Z6, hZ6⟩ := zx (zu Z3 2 0 0 (1210 + 12 * (Z 2 0 0 1200)) a1)
  replace hP := zl_e hP hZ6
  have hZ6I := zM_u2 hZ3I hZ6 (lo := 0) (hi := 12) (zs_1210_0 (x := (Z 2 0 0 1200)) (by omega) (by omega) (by omega)) (by omega) ⟨by decide, by decide⟩ (by simp only [zsp]; omega)
  have hZ6U : zU [] Z Z6 := zU_u hZ3U hZ6 (Or.inl rfl)
  have hZ6K : zC [2] Z Z6 := zC_u hZ3K hZ6 (zcl_2w (by omega) rfl)
  intro μ9 e9
  replace e9 := e9.trans (zm_wI (Z := Z3) (ν := ν) hZ6 (show ((0 : Nat) : Int) = 0 from rfl) (show ((0 : Nat) : Int) = 0 from rfl) (i3I (y := (1210 + 12 * (Z 2 0 0 1200))) (i3A (i3A (show (1210 : Int32) = i3 1210 from rfl) (i3M (show (12 : Int32) = i3 12 from rfl) (rfl : i3 (Z 2 0 0 1200) = i3 (Z 2 0 0 1200)))) (show (0 : Int32) = i3 0 from rfl)) (by omega) (by omega) (by omega)) (rfl : i3 a1 = i3 a1))
  subst e9
  refine wz_i0 (i3O (n := 4400) (i3A (i3A (show (1210 : Int32) = i3 1210 from rfl) (i3M (show (12 : Int32) = i3 12 from rfl) (rfl : i3 (Z 2 0 0 1200) = i3 (Z 2 0 0 1200)))) (show (1 : Int32) = i3 1 from rfl)) (by omega) (by omega) (by omega)) ?_
  obtain ⟨Z7, hZ7⟩ := zx (zu Z6 2 0 0 (1211 + 12 * (Z 2 0 0 1200)) a2)
  replace hP := zl_e hP hZ7
  have hZ7I := zM_u2 hZ6I hZ7 (lo := 0) (hi := 9) (zs_1210_1 (x := (Z 2 0 0 1200)) (by omega) (by omega) (by omega)) (by omega) ⟨by decide, by decide⟩ (by simp only [zsp]; omega)
  have hZ7U : zU [] Z Z7 := zU_u hZ6U hZ7 (Or.inl rfl)
  have hZ7K : zC [2] Z Z7 := zC_u hZ6K hZ7 (zcl_2w (by omega) rfl)
  intro μ9 e9
  replace e9 := e9.trans (zm_wI (Z := Z6) (ν := ν) hZ7 (show ((0 : Nat) : Int) = 0 from rfl) (show ((0 : Nat) : Int) = 0 from rfl) (i3I (y := (1211 + 12 * (Z 2 0 0 1200))) (i3A (i3A (show (1210 : Int32) = i3 1210 from rfl) (i3M (show (12 : Int32) = i3 12 from rfl) (rfl : i3 (Z 2 0 0 1200) = i3 (Z 2 0 0 1200)))) (show (1 : Int32) = i3 1 from rfl)) (by omega) (by omega) (by omega)) (rfl : i3 a2 = i3 a2))
  subst e9
  refine wz_i0 (i3O (n := 4400) (i3A (i3A (show (1210 : Int32) = i3 1210 from rfl) (i3M (show (12 : Int32) = i3 12 from rfl) (rfl : i3 (Z 2 0 0 1200) = i3 (Z 2 0 0 1200)))) (show (2 : Int32) = i3 2 from rfl)) (by omega) (by omega) (by omega)) ?_
  obtain ⟨Z8, hZ8⟩ := zx (zu Z7 2 0 0 (1212 + 12 * (Z 2 0 0 1200)) a3)
  replace hP := zl_e hP hZ8
  have hZ8I := zM_u2 hZ7I hZ8 (lo := 0) (hi := 9) (zs_1210_2 (x := (Z 2 0 0 1200)) (by omega) (by omega) (by omega)) (by omega) ⟨by decide, by decide⟩ (by simp only [zsp]; omega)
  have hZ8U : zU [] Z Z8 := zU_u hZ7U hZ8 (Or.inl rfl)
  have hZ8K : zC [2] Z Z8 := zC_u hZ7K hZ8 (zcl_2w (by omega) rfl)
  intro μ9 e9
  replace e9 := e9.trans (zm_wI (Z := Z7) (ν := ν) hZ8 (show ((0 : Nat) : Int) = 0 from rfl) (show ((0 : Nat) : Int) = 0 from rfl) (i3I (y := (1212 + 12 * (Z 2 0 0 1200))) (i3A (i3A (show (1210 : Int32) = i3 1210 from rfl) (i3M (show (12 : Int32) = i3 12 from rfl) (rfl : i3 (Z 2 0 0 1200) = i3 (Z 2 0 0 1200)))) (show (2 : Int32) = i3 2 from rfl)) (by omega) (by omega) (by omega)) (rfl : i3 a3 = i3 a3))
  subst e9
  refine wz_i0 (i3O (n := 4400) (i3A (i3A (show (1210 : Int32) = i3 1210 from rfl) (i3M (show (12 : Int32) = i3 12 from rfl) (rfl : i3 (Z 2 0 0 1200) = i3 (Z 2 0 0 1200)))) (show (3 : Int32) = i3 3 from rfl)) (by omega) (by omega) (by omega)) ?_
  obtain ⟨Z9, hZ9⟩ := zx (zu Z8 2 0 0 (1213 + 12 * (Z 2 0 0 1200)) 18)
  replace hP := zl_e hP hZ9
  have hZ9I := zM_u2 hZ8I hZ9 (lo := 0) (hi := 40) (zs_1210_3 (x := (Z 2 0 0 1200)) (by omega) (by omega) (by omega)) (by omega) ⟨by decide, by decide⟩ (by simp only [zsp]; omega)
  have hZ9U : zU [] Z Z9 := zU_u hZ8U hZ9 (Or.inl rfl)
  have hZ9K : zC [2] Z Z9 := zC_u hZ8K hZ9 (zcl_2w (by omega) rfl)
  intro μ9 e9
  replace e9 := e9.trans (zm_wI (Z := Z8) (ν := ν) hZ9 (show ((0 : Nat) : Int) = 0 from rfl) (show ((0 : Nat) : Int) = 0 from rfl) (i3I (y := (1213 + 12 * (Z 2 0 0 1200))) (i3A (i3A (show (1210 : Int32) = i3 1210 from rfl) (i3M (show (12 : Int32) = i3 12 from rfl) (rfl : i3 (Z 2 0 0 1200) = i3 (Z 2 0 0 1200)))) (show (3 : Int32) = i3 3 from rfl)) (by omega) (by omega) (by omega)) (show (18 : Int32) = i3 18 from rfl))
  subst e9
  refine wz_i0 (i3O (n := 4400) (i3A (i3A (show (1210 : Int32) = i3 1210 from rfl) (i3M (show (12 : Int32) = i3 12 from rfl) (rfl : i3 (Z 2 0 0 1200) = i3 (Z 2 0 0 1200)))) (show (5 : Int32) = i3 5 from rfl)) (by omega) (by omega) (by omega)) ?_
  obtain ⟨Z10, hZ10⟩ := zx (zu Z9 2 0 0 (1215 + 12 * (Z 2 0 0 1200)) a4)
  replace hP := zl_e hP hZ10
  have hZ10I := zM_u2 hZ9I hZ10 (lo := 0) (hi := 40) (zs_1210_5 (x := (Z 2 0 0 1200)) (by omega) (by omega) (by omega)) (by omega) ⟨by decide, by decide⟩ (by simp only [zsp]; omega)
  have hZ10U : zU [] Z Z10 := zU_u hZ9U hZ10 (Or.inl rfl)
  have hZ10K : zC [2] Z Z10 := zC_u hZ9K hZ10 (zcl_2w (by omega) rfl)
  intro μ9 e9
  replace e9 := e9.trans (zm_wI (Z := Z9) (ν := ν) hZ10 (show ((0 : Nat) : Int) = 0 from rfl) (show ((0 : Nat) : Int) = 0 from rfl) (i3I (y := (1215 + 12 * (Z 2 0 0 1200))) (i3A (i3A (show (1210 : Int32) = i3 1210 from rfl) (i3M (show (12 : Int32) = i3 12 from rfl) (rfl : i3 (Z 2 0 0 1200) = i3 (Z 2 0 0 1200)))) (show (5 : Int32) = i3 5 from rfl)) (by omega) (by omega) (by omega)) (rfl : i3 a4 = i3 a4))
  subst e9
  have r11 := zM_k hZ10I 2 0 0 1200 (lo := 0) (hi := 6) (by decide) rfl
  have q12 := (zu_ne (k' := 2) (b' := 0) (i' := 0) (j' := 1200) hZ10 (fun q => absurd q.2.2.2 (by omega))).trans ((zu_ne (k' := 2) (b' := 0) (i' := 0) (j' := 1200) hZ9 (fun q => absurd q.2.2.2 (by omega))).trans ((zu_ne (k' := 2) (b' := 0) (i' := 0) (j' := 1200) hZ8 (fun q => absurd q.2.2.2 (by omega))).trans ((zu_ne (k' := 2) (b' := 0) (i' := 0) (j' := 1200) hZ7 (fun q => absurd q.2.2.2 (by omega))).trans (zu_ne (k' := 2) (b' := 0) (i' := 0) (j' := 1200) hZ6 (fun q => absurd q.2.2.2 (by omega))))))
  obtain ⟨Z13, hZ13⟩ := zx (zu Z10 2 0 0 1200 ((Z10 2 0 0 1200) + 1))
  replace hP := zl_e hP hZ13
  have hZ13I := zM_u2 hZ10I hZ13 (lo := 0) (hi := 6) rfl (by omega) ⟨by decide, by decide⟩ (by simp only [zsp]; omega)
  have hZ13U : zU [] Z Z13 := zU_u hZ10U hZ13 (Or.inl rfl)
  have hZ13K : zC [2] Z Z13 := zC_u hZ10K hZ13 (by decide)
  intro μ9 e9
  replace e9 := e9.trans (zm_wI (Z := Z10) (ν := ν) hZ13 (show ((0 : Nat) : Int) = 0 from rfl) (show ((0 : Nat) : Int) = 0 from rfl) (show ((1200 : Nat) : Int) = 1200 from rfl) (i3A (zm_rd (Z := Z10) (ν := ν) (k := 2) (show ((0 : Nat) : Int) = 0 from rfl) (show ((0 : Nat) : Int) = 0 from rfl) (show ((1200 : Nat) : Int) = 1200 from rfl)) (show (1 : Int32) = i3 1 from rfl)))
  subst e9
  have r14 := zM_k hZ13I 2 0 0 1200 (lo := 0) (hi := 6) (by decide) rfl
  have q15 := zu_at hZ13
  exact zlW hP (rfl : i3 (Z 2 0 0 1200) = i3 (Z 2 0 0 1200)) ⟨hZ13I, hZ13K, hZ13U, by omega, by omega, by omega⟩
/- yX12_room -/
def zy_495 (Z : qz_Z) (dm : qz_Z → Int → Int → Int → Int → Int → Int → Int → qz_Z) (a1 : Int) (a2 : Int) (a3 : Int) : qz_Z × Int := (if a1 < 1 then (zlet (zu Z 1 0 0 2 1) (fun Z5 => (Z5, 0))) else (if 12 < a1 then (zlet (zu Z 1 0 0 2 1) (fun Z7 => (Z7, 0))) else (if a2 < 0 then (zlet (zu Z 1 0 0 2 1) (fun Z9 => (Z9, 0))) else (if 9 < a2 then (zlet (zu Z 1 0 0 2 1) (fun Z11 => (Z11, 0))) else (if a3 < 0 then (zlet (zu Z 1 0 0 2 1) (fun Z13 => (Z13, 0))) else (if 9 < a3 then (zlet (zu Z 1 0 0 2 1) (fun Z15 => (Z15, 0))) else (zlet (zu Z 1 0 0 2 0) (fun Z16 => (if 6 ≤ (Z16 2 0 0 1200) then (zlet (zu Z16 1 0 0 2 2) (fun Z19 => (Z19, 0))) else (zlet (zu Z16 1 0 0 2 0) (fun Z20 => (zlet (dm Z20 5 a1 a2 a3 0 0 0) (fun Z27 => (zlet2 (zf_485 Z27 a1 a2 a3 (Z27 2 0 0 (1300 + ((Z27 2 0 0 0) / 24)))) (fun Z32 v33 => (Z32, v33))))))))))))))))
theorem sy_495 {s : zSM} {Z : qz_Z} {ν : qz_N} (hZ : zM s Z) (gq : Z 1 0 0 35 = 0) (hM : s.2 + 0 ≤ 1000000000) {a1 : Int} (ga1 : -2147483648 ≤ a1 ∧ a1 ≤ 2147483647) {a2 : Int} (ga2 : -2147483648 ≤ a2 ∧ a2 ≤ 2147483647) {a3 : Int} (ga3 : -2147483648 ≤ a3 ∧ a3 ≤ 2147483647) {dk : qz_Z → qz_Z} {dm : qz_Z → Int → Int → Int → Int → Int → Int → Int → qz_Z} {ν1 : qz_N} (hdm : zDm s ν ν1 Z dk dm) : ∃ (Z1 : qz_Z) (ν2 : qz_N) (v : Int), (Z1, v) = zy_495 Z dm a1 a2 a3 ∧ (ν2 = ν ∨ ν2 = ν1) ∧ qf_495 [.inr (.inr (some (1, 0, 0))), .inl (i3 a1), .inl (i3 a2), .inl (i3 a3)] (zm Z ν) = some (zm Z1 ν2, .inl (some (.inl (i3 v)))) ∧ (fun Z1 => zM s Z1 ∧ zC [1, 2, 101, 102, 200] Z Z1 ∧ zU [] Z Z1) Z1 := by
  obtain ⟨P, hP⟩ := zx (zy_495 Z dm a1 a2 a3)
  refine zc_Y (Q := fun Z1 => zM s Z1 ∧ zC [1, 2, 101, 102, 200] Z Z1 ∧ zU [] Z Z1) hP (fw_495 (i3 a1) (i3 a2) (i3 a3) _ _ ?_)
  replace hP : zE P (zy_495 Z dm a1 a2 a3) := hP
  unfold zy_495 at hP
  have r1 := zM_k hZ 1 0 0 35 (lo := 0) (hi := 1) (by decide) rfl
  have r2 := zM_k hZ 1 0 0 34 (lo := 0) (hi := 8) (by decide) rfl
  have r3 := zM_f hZ 1 0 0 37
  refine wz_br (i3L (rfl : i3 a1 = i3 a1) (show (1 : Int32) = i3 1 from rfl) (by omega) (by omega) (by omega) (by omega)) (fun h4 => ?_) (fun h4 => ?_)
  · replace hP := zE_p hP h4
    obtain ⟨Z5, hZ5⟩ := zx (zu Z 1 0 0 2 1)
    replace hP := zl_e hP hZ5
    have hZ5I := zM_u hZ hZ5 (lo := -2147483648) (hi := 2147483647) (by decide) rfl (by omega) ⟨by decide, by decide⟩ (Or.inr (by decide)) rfl
    have hZ5U : zU [] Z Z5 := zU_u zU_r hZ5 (Or.inl rfl)
    have hZ5K : zC [1, 2, 101, 102, 200] Z Z5 := zC_u zC_r hZ5 (by decide)
    intro μ9 e9
    replace e9 := e9.trans (zm_wI (Z := Z) (ν := ν) hZ5 (show ((0 : Nat) : Int) = 0 from rfl) (show ((0 : Nat) : Int) = 0 from rfl) (show ((2 : Nat) : Int) = 2 from rfl) (show (1 : Int32) = i3 1 from rfl))
    subst e9
    exact zlY hP (show (0 : Int32) = i3 0 from rfl) (.inl rfl) ⟨hZ5I, hZ5K, hZ5U⟩
  · replace hP := zE_n hP h4
    refine wz_br (i3L (show (12 : Int32) = i3 12 from rfl) (rfl : i3 a1 = i3 a1) (by omega) (by omega) (by omega) (by omega)) (fun h6 => ?_) (fun h6 => ?_)
    · replace hP := zE_p hP h6
      obtain ⟨Z7, hZ7⟩ := zx (zu Z 1 0 0 2 1)
      replace hP := zl_e hP hZ7
      have hZ7I := zM_u hZ hZ7 (lo := -2147483648) (hi := 2147483647) (by decide) rfl (by omega) ⟨by decide, by decide⟩ (Or.inr (by decide)) rfl
      have hZ7U : zU [] Z Z7 := zU_u zU_r hZ7 (Or.inl rfl)
      have hZ7K : zC [1, 2, 101, 102, 200] Z Z7 := zC_u zC_r hZ7 (by decide)
      intro μ9 e9
      replace e9 := e9.trans (zm_wI (Z := Z) (ν := ν) hZ7 (show ((0 : Nat) : Int) = 0 from rfl) (show ((0 : Nat) : Int) = 0 from rfl) (show ((2 : Nat) : Int) = 2 from rfl) (show (1 : Int32) = i3 1 from rfl))
      subst e9
      exact zlY hP (show (0 : Int32) = i3 0 from rfl) (.inl rfl) ⟨hZ7I, hZ7K, hZ7U⟩
    · replace hP := zE_n hP h6
      refine wz_br (i3L (rfl : i3 a2 = i3 a2) (show (0 : Int32) = i3 0 from rfl) (by omega) (by omega) (by omega) (by omega)) (fun h8 => ?_) (fun h8 => ?_)
      · replace hP := zE_p hP h8
        obtain ⟨Z9, hZ9⟩ := zx (zu Z 1 0 0 2 1)
        replace hP := zl_e hP hZ9
        have hZ9I := zM_u hZ hZ9 (lo := -2147483648) (hi := 2147483647) (by decide) rfl (by omega) ⟨by decide, by decide⟩ (Or.inr (by decide)) rfl
        have hZ9U : zU [] Z Z9 := zU_u zU_r hZ9 (Or.inl rfl)
        have hZ9K : zC [1, 2, 101, 102, 200] Z Z9 := zC_u zC_r hZ9 (by decide)
        intro μ9 e9
        replace e9 := e9.trans (zm_wI (Z := Z) (ν := ν) hZ9 (show ((0 : Nat) : Int) = 0 from rfl) (show ((0 : Nat) : Int) = 0 from rfl) (show ((2 : Nat) : Int) = 2 from rfl) (show (1 : Int32) = i3 1 from rfl))
        subst e9
        exact zlY hP (show (0 : Int32) = i3 0 from rfl) (.inl rfl) ⟨hZ9I, hZ9K, hZ9U⟩
      · replace hP := zE_n hP h8
        refine wz_br (i3L (show (9 : Int32) = i3 9 from rfl) (rfl : i3 a2 = i3 a2) (by omega) (by omega) (by omega) (by omega)) (fun h10 => ?_) (fun h10 => ?_)
        · replace hP := zE_p hP h10
          obtain ⟨Z11, hZ11⟩ := zx (zu Z 1 0 0 2 1)
          replace hP := zl_e hP hZ11
          have hZ11I := zM_u hZ hZ11 (lo := -2147483648) (hi := 2147483647) (by decide) rfl (by omega) ⟨by decide, by decide⟩ (Or.inr (by decide)) rfl
          have hZ11U : zU [] Z Z11 := zU_u zU_r hZ11 (Or.inl rfl)
          have hZ11K : zC [1, 2, 101, 102, 200] Z Z11 := zC_u zC_r hZ11 (by decide)
          intro μ9 e9
          replace e9 := e9.trans (zm_wI (Z := Z) (ν := ν) hZ11 (show ((0 : Nat) : Int) = 0 from rfl) (show ((0 : Nat) : Int) = 0 from rfl) (show ((2 : Nat) : Int) = 2 from rfl) (show (1 : Int32) = i3 1 from rfl))
          subst e9
          exact zlY hP (show (0 : Int32) = i3 0 from rfl) (.inl rfl) ⟨hZ11I, hZ11K, hZ11U⟩
        · replace hP := zE_n hP h10
          refine wz_br (i3L (rfl : i3 a3 = i3 a3) (show (0 : Int32) = i3 0 from rfl) (by omega) (by omega) (by omega) (by omega)) (fun h12 => ?_) (fun h12 => ?_)
          · replace hP := zE_p hP h12
            obtain ⟨Z13, hZ13⟩ := zx (zu Z 1 0 0 2 1)
            replace hP := zl_e hP hZ13
            have hZ13I := zM_u hZ hZ13 (lo := -2147483648) (hi := 2147483647) (by decide) rfl (by omega) ⟨by decide, by decide⟩ (Or.inr (by decide)) rfl
            have hZ13U : zU [] Z Z13 := zU_u zU_r hZ13 (Or.inl rfl)
            have hZ13K : zC [1, 2, 101, 102, 200] Z Z13 := zC_u zC_r hZ13 (by decide)
            intro μ9 e9
            replace e9 := e9.trans (zm_wI (Z := Z) (ν := ν) hZ13 (show ((0 : Nat) : Int) = 0 from rfl) (show ((0 : Nat) : Int) = 0 from rfl) (show ((2 : Nat) : Int) = 2 from rfl) (show (1 : Int32) = i3 1 from rfl))
            subst e9
            exact zlY hP (show (0 : Int32) = i3 0 from rfl) (.inl rfl) ⟨hZ13I, hZ13K, hZ13U⟩
          · replace hP := zE_n hP h12
            refine wz_br (i3L (show (9 : Int32) = i3 9 from rfl) (rfl : i3 a3 = i3 a3) (by omega) (by omega) (by omega) (by omega)) (fun h14 => ?_) (fun h14 => ?_)
            · replace hP := zE_p hP h14
              obtain ⟨Z15, hZ15⟩ := zx (zu Z 1 0 0 2 1)
              replace hP := zl_e hP hZ15
              have hZ15I := zM_u hZ hZ15 (lo := -2147483648) (hi := 2147483647) (by decide) rfl (by omega) ⟨by decide, by decide⟩ (Or.inr (by decide)) rfl
              have hZ15U : zU [] Z Z15 := zU_u zU_r hZ15 (Or.inl rfl)
              have hZ15K : zC [1, 2, 101, 102, 200] Z Z15 := zC_u zC_r hZ15 (by decide)
              intro μ9 e9
              replace e9 := e9.trans (zm_wI (Z := Z) (ν := ν) hZ15 (show ((0 : Nat) : Int) = 0 from rfl) (show ((0 : Nat) : Int) = 0 from rfl) (show ((2 : Nat) : Int) = 2 from rfl) (show (1 : Int32) = i3 1 from rfl))
              subst e9
              exact zlY hP (show (0 : Int32) = i3 0 from rfl) (.inl rfl) ⟨hZ15I, hZ15K, hZ15U⟩
            · replace hP := zE_n hP h14
              obtain ⟨Z16, hZ16⟩ := zx (zu Z 1 0 0 2 0)
              replace hP := zl_e hP hZ16
              have hZ16I := zM_0 hZ hZ16 (by decide) (Or.inr (by decide))
              have hZ16U : zU [] Z Z16 := zU_u zU_r hZ16 (Or.inl rfl)
              have hZ16K : zC [1, 2, 101, 102, 200] Z Z16 := zC_u zC_r hZ16 (by decide)
              intro μ9 e9
              replace e9 := e9.trans (zm_wI (Z := Z) (ν := ν) hZ16 (show ((0 : Nat) : Int) = 0 from rfl) (show ((0 : Nat) : Int) = 0 from rfl) (show ((2 : Nat) : Int) = 2 from rfl) (show (0 : Int32) = i3 0 from rfl))
              subst e9
              have r17 := zM_k hZ16I 2 0 0 1200 (lo := 0) (hi := 6) (by decide) rfl
              refine wz_br (i3Le (show (6 : Int32) = i3 6 from rfl) (zm_rd (Z := Z16) (ν := ν) (k := 2) (show ((0 : Nat) : Int) = 0 from rfl) (show ((0 : Nat) : Int) = 0 from rfl) (show ((1200 : Nat) : Int) = 1200 from rfl)) (by omega) (by omega) (by omega) (by omega)) (fun h18 => ?_) (fun h18 => ?_)
              · replace hP := zE_p hP h18
                obtain ⟨Z19, hZ19⟩ := zx (zu Z16 1 0 0 2 2)
                replace hP := zl_e hP hZ19
                have hZ19I := zM_u hZ16I hZ19 (lo := -2147483648) (hi := 2147483647) (by decide) rfl (by omega) ⟨by decide, by decide⟩ (Or.inr (by decide)) rfl
                have hZ19U : zU [] Z Z19 := zU_u hZ16U hZ19 (Or.inl rfl)
                have hZ19K : zC [1, 2, 101, 102, 200] Z Z19 := zC_u hZ16K hZ19 (by decide)
                intro μ9 e9
                replace e9 := e9.trans (zm_wI (Z := Z16) (ν := ν) hZ19 (show ((0 : Nat) : Int) = 0 from rfl) (show ((0 : Nat) : Int) = 0 from rfl) (show ((2 : Nat) : Int) = 2 from rfl) (show (2 : Int32) = i3 2 from rfl))
                subst e9
                exact zlY hP (show (0 : Int32) = i3 0 from rfl) (.inl rfl) ⟨hZ19I, hZ19K, hZ19U⟩
              · replace hP := zE_n hP h18
                obtain ⟨Z20, hZ20⟩ := zx (zu Z16 1 0 0 2 0)
                replace hP := zl_e hP hZ20
                have hZ20I := zM_0 hZ16I hZ20 (by decide) (Or.inr (by decide))
                have hZ20U : zU [] Z Z20 := zU_u hZ16U hZ20 (Or.inl rfl)
                have hZ20K : zC [1, 2, 101, 102, 200] Z Z20 := zC_u hZ16K hZ20 (by decide)
                intro μ9 e9
                replace e9 := e9.trans (zm_wI (Z := Z16) (ν := ν) hZ20 (show ((0 : Nat) : Int) = 0 from rfl) (show ((0 : Nat) : Int) = 0 from rfl) (show ((2 : Nat) : Int) = 2 from rfl) (show (0 : Int32) = i3 0 from rfl))
                subst e9
                have r21 := zM_k hZ20I 1 0 0 35 (lo := 0) (hi := 1) (by decide) rfl
                have q22 := (zu_ne (k' := 1) (b' := 0) (i' := 0) (j' := 35) hZ20 (fun q => absurd q.2.2.2 (by decide))).trans (zu_ne (k' := 1) (b' := 0) (i' := 0) (j' := 35) hZ16 (fun q => absurd q.2.2.2 (by decide)))
                refine wz_i0 (Eq.trans (i3NE (zm_rd (Z := Z20) (ν := ν) (k := 1) (show ((0 : Nat) : Int) = 0 from rfl) (show ((0 : Nat) : Int) = 0 from rfl) (show ((35 : Nat) : Int) = 35 from rfl)) (show (0 : Int32) = i3 0 from rfl) (by omega) (by omega) (by omega) (by omega)) (decide_eq_false (by omega))) ?_
                have r23 := zM_k hZ20I 1 0 0 34 (lo := 0) (hi := 8) (by decide) rfl
                have q24 := (zu_ne (k' := 1) (b' := 0) (i' := 0) (j' := 34) hZ20 (fun q => absurd q.2.2.2 (by decide))).trans (zu_ne (k' := 1) (b' := 0) (i' := 0) (j' := 34) hZ16 (fun q => absurd q.2.2.2 (by decide)))
                have r25 := zM_f hZ20I 1 0 0 37
                have q26 := (zu_ne (k' := 1) (b' := 0) (i' := 0) (j' := 37) hZ20 (fun q => absurd q.2.2.2 (by decide))).trans (zu_ne (k' := 1) (b' := 0) (i' := 0) (j' := 37) hZ16 (fun q => absurd q.2.2.2 (by decide)))
                obtain ⟨c8, c9, hZ27I, dZ27⟩ := hdm Z20 5 a1 a2 a3 0 0 0 hZ20I (by omega) (by omega) (by omega) (by omega) (by omega) (by omega) (by omega) (by omega) (by omega) (by omega)
                obtain ⟨Z27, hZ27⟩ := zx (dm Z20 5 a1 a2 a3 0 0 0)
                rw [← hZ27] at c9 hZ27I dZ27
                replace hP := zl_e hP hZ27
                refine wz_cV_of (zas (zcons rfl (zcons (zvi (show (-1 : Int32) = i3 (-1) from rfl)) rfl)) c8) ?_
                refine wz_cV_of (zas (zcons rfl (zcons (zvi (show (5 : Int32) = i3 5 from rfl)) (zcons (zvi (rfl : i3 a1 = i3 a1)) (zcons (zvi (rfl : i3 a2 = i3 a2)) (zcons (zvi (rfl : i3 a3 = i3 a3)) (zcons (zvi (show (0 : Int32) = i3 0 from rfl)) (zcons (zvi (show (0 : Int32) = i3 0 from rfl)) (zcons (zvi (show (0 : Int32) = i3 0 from rfl)) rfl)))))))) c9) ?_
                clear c8 c9
                have hZ27K : zC [1, 2, 101, 102, 200] Z Z27 := zC_t hZ20K (zMd_C dZ27) (by decide)
                have hZ27U : zU [] Z Z27 := zU_t hZ20U (zMd_U dZ27) zU_b0
                have r28 := zM_k hZ27I 2 0 0 0 (lo := 0) (hi := 671) (by decide) rfl
                refine wz_i0 (i3O (n := 4400) (i3A (show (1300 : Int32) = i3 1300 from rfl) (i3D (zm_rd (Z := Z27) (ν := ν1) (k := 2) (show ((0 : Nat) : Int) = 0 from rfl) (show ((0 : Nat) : Int) = 0 from rfl) (show ((0 : Nat) : Int) = 0 from rfl)) (show (24 : Int32) = i3 24 from rfl) (by omega) (by omega) (by omega) (by omega))) (by omega) (by omega) (by omega)) ?_
                have r29 := zM_k hZ27I 2 0 0 (1300 + ((Z27 2 0 0 0) / 24)) (lo := 0) (hi := 40) (by decide) (zs_1300 (by omega) (by omega))
                have r30 := zM_k hZ27I 2 0 0 1200 (lo := 0) (hi := 6) (by decide) rfl
                have q31 := (dZ27 2 0 0 1200 (by simp)).trans (zu_ne (k' := 2) (b' := 0) (i' := 0) (j' := 1200) hZ20 (fun q => absurd q.1 (by decide)))
                obtain ⟨Z32, v33, hv33, c9, hZ32I, kZ32, jZ32, lv33, uv33, wv330⟩ := sp_485 (ν := ν1) hZ27I (a1 := a1) (by omega) (a2 := a2) (by omega) (a3 := a3) (by omega) (a4 := (Z27 2 0 0 (1300 + ((Z27 2 0 0 0) / 24)))) (by omega) (by omega) (zbh (c := 0) (k := 0) hM (Nat.le_of_ble_eq_true rfl))
                have hZ32U : zU [] Z Z32 := zU_t hZ27U jZ32 zU_b0
                have hZ32K : zC [1, 2, 101, 102, 200] Z Z32 := zC_t hZ27K kZ32 (by decide)
                replace hP := zl_e2 hP hv33
                refine wz_cI_of (zas (zcons rfl (zcons (zvi (rfl : i3 a1 = i3 a1)) (zcons (zvi (rfl : i3 a2 = i3 a2)) (zcons (zvi (rfl : i3 a3 = i3 a3)) (zcons (zvi (zm_rd (Z := Z27) (ν := ν1) (k := 2) (show ((0 : Nat) : Int) = 0 from rfl) (show ((0 : Nat) : Int) = 0 from rfl) (i3I (y := (1300 + ((Z27 2 0 0 0) / 24))) (i3A (show (1300 : Int32) = i3 1300 from rfl) (i3D (zm_rd (Z := Z27) (ν := ν1) (k := 2) (show ((0 : Nat) : Int) = 0 from rfl) (show ((0 : Nat) : Int) = 0 from rfl) (show ((0 : Nat) : Int) = 0 from rfl)) (show (24 : Int32) = i3 24 from rfl) (by omega) (by omega) (by omega) (by omega))) (by omega) (by omega) (by omega)))) rfl))))) c9) ?_
                clear c9 hv33
                have r34 := zM_k hZ32I 2 0 0 1200 (lo := 0) (hi := 6) (by decide) rfl
                exact zlY hP (rfl : i3 v33 = i3 v33) (.inr rfl) ⟨hZ32I, hZ32K, hZ32U⟩

theorem sq_495 {s : zSM} {Z : qz_Z} {ν : qz_N} (hZ : zM s Z) (gq : Z 1 0 0 35 = 1) (hM : s.2 + 0 ≤ 1000000000) {a1 : Int} (ga1 : -2147483648 ≤ a1 ∧ a1 ≤ 2147483647) {a2 : Int} (ga2 : -2147483648 ≤ a2 ∧ a2 ≤ 2147483647) {a3 : Int} (ga3 : -2147483648 ≤ a3 ∧ a3 ≤ 2147483647) {ν1 : qz_N} : ∃ (Z1 : qz_Z) (ν2 : qz_N) (v : Int), (Z1, v) = zy_495 Z zq0 a1 a2 a3 ∧ (ν2 = ν ∨ ν2 = ν1) ∧ qf_495 [.inr (.inr (some (1, 0, 0))), .inl (i3 a1), .inl (i3 a2), .inl (i3 a3)] (zm Z ν) = some (zm Z1 ν2, .inl (some (.inl (i3 v)))) ∧ (fun Z1 => zM s Z1 ∧ zC [1, 2] Z Z1 ∧ zU [] Z Z1) Z1 := by
  obtain ⟨P, hP⟩ := zx (zy_495 Z zq0 a1 a2 a3)
  refine zc_Y (Q := fun Z1 => zM s Z1 ∧ zC [1, 2] Z Z1 ∧ zU [] Z Z1) hP (fw_495 (i3 a1) (i3 a2) (i3 a3) _ _ ?_)
  replace hP : zE P (zy_495 Z zq0 a1 a2 a3) := hP
  unfold zy_495 at hP
  have r1 := zM_k hZ 1 0 0 35 (lo := 0) (hi := 1) (by decide) rfl
  have r2 := zM_k hZ 1 0 0 34 (lo := 0) (hi := 8) (by decide) rfl
  have r3 := zM_f hZ 1 0 0 37
  refine wz_br (i3L (rfl : i3 a1 = i3 a1) (show (1 : Int32) = i3 1 from rfl) (by omega) (by omega) (by omega) (by omega)) (fun h4 => ?_) (fun h4 => ?_)
  · replace hP := zE_p hP h4
    obtain ⟨Z5, hZ5⟩ := zx (zu Z 1 0 0 2 1)
    replace hP := zl_e hP hZ5
    have hZ5I := zM_u hZ hZ5 (lo := -2147483648) (hi := 2147483647) (by decide) rfl (by omega) ⟨by decide, by decide⟩ (Or.inr (by decide)) rfl
    have hZ5U : zU [] Z Z5 := zU_u zU_r hZ5 (Or.inl rfl)
    have hZ5K : zC [1, 2] Z Z5 := zC_u zC_r hZ5 (by decide)
    intro μ9 e9
    replace e9 := e9.trans (zm_wI (Z := Z) (ν := ν) hZ5 (show ((0 : Nat) : Int) = 0 from rfl) (show ((0 : Nat) : Int) = 0 from rfl) (show ((2 : Nat) : Int) = 2 from rfl) (show (1 : Int32) = i3 1 from rfl))
    subst e9
    exact zlY hP (show (0 : Int32) = i3 0 from rfl) (.inl rfl) ⟨hZ5I, hZ5K, hZ5U⟩
  · replace hP := zE_n hP h4
    refine wz_br (i3L (show (12 : Int32) = i3 12 from rfl) (rfl : i3 a1 = i3 a1) (by omega) (by omega) (by omega) (by omega)) (fun h6 => ?_) (fun h6 => ?_)
    · replace hP := zE_p hP h6
      obtain ⟨Z7, hZ7⟩ := zx (zu Z 1 0 0 2 1)
      replace hP := zl_e hP hZ7
      have hZ7I := zM_u hZ hZ7 (lo := -2147483648) (hi := 2147483647) (by decide) rfl (by omega) ⟨by decide, by decide⟩ (Or.inr (by decide)) rfl
      have hZ7U : zU [] Z Z7 := zU_u zU_r hZ7 (Or.inl rfl)
      have hZ7K : zC [1, 2] Z Z7 := zC_u zC_r hZ7 (by decide)
      intro μ9 e9
      replace e9 := e9.trans (zm_wI (Z := Z) (ν := ν) hZ7 (show ((0 : Nat) : Int) = 0 from rfl) (show ((0 : Nat) : Int) = 0 from rfl) (show ((2 : Nat) : Int) = 2 from rfl) (show (1 : Int32) = i3 1 from rfl))
      subst e9
      exact zlY hP (show (0 : Int32) = i3 0 from rfl) (.inl rfl) ⟨hZ7I, hZ7K, hZ7U⟩
    · replace hP := zE_n hP h6
      refine wz_br (i3L (rfl : i3 a2 = i3 a2) (show (0 : Int32) = i3 0 from rfl) (by omega) (by omega) (by omega) (by omega)) (fun h8 => ?_) (fun h8 => ?_)
      · replace hP := zE_p hP h8
        obtain ⟨Z9, hZ9⟩ := zx (zu Z 1 0 0 2 1)
        replace hP := zl_e hP hZ9
        have hZ9I := zM_u hZ hZ9 (lo := -2147483648) (hi := 2147483647) (by decide) rfl (by omega) ⟨by decide, by decide⟩ (Or.inr (by decide)) rfl
        have hZ9U : zU [] Z Z9 := zU_u zU_r hZ9 (Or.inl rfl)
        have hZ9K : zC [1, 2] Z Z9 := zC_u zC_r hZ9 (by decide)
        intro μ9 e9
        replace e9 := e9.trans (zm_wI (Z := Z) (ν := ν) hZ9 (show ((0 : Nat) : Int) = 0 from rfl) (show ((0 : Nat) : Int) = 0 from rfl) (show ((2 : Nat) : Int) = 2 from rfl) (show (1 : Int32) = i3 1 from rfl))
        subst e9
        exact zlY hP (show (0 : Int32) = i3 0 from rfl) (.inl rfl) ⟨hZ9I, hZ9K, hZ9U⟩
      · replace hP := zE_n hP h8
        refine wz_br (i3L (show (9 : Int32) = i3 9 from rfl) (rfl : i3 a2 = i3 a2) (by omega) (by omega) (by omega) (by omega)) (fun h10 => ?_) (fun h10 => ?_)
        · replace hP := zE_p hP h10
          obtain ⟨Z11, hZ11⟩ := zx (zu Z 1 0 0 2 1)
          replace hP := zl_e hP hZ11
          have hZ11I := zM_u hZ hZ11 (lo := -2147483648) (hi := 2147483647) (by decide) rfl (by omega) ⟨by decide, by decide⟩ (Or.inr (by decide)) rfl
          have hZ11U : zU [] Z Z11 := zU_u zU_r hZ11 (Or.inl rfl)
          have hZ11K : zC [1, 2] Z Z11 := zC_u zC_r hZ11 (by decide)
          intro μ9 e9
          replace e9 := e9.trans (zm_wI (Z := Z) (ν := ν) hZ11 (show ((0 : Nat) : Int) = 0 from rfl) (show ((0 : Nat) : Int) = 0 from rfl) (show ((2 : Nat) : Int) = 2 from rfl) (show (1 : Int32) = i3 1 from rfl))
          subst e9
          exact zlY hP (show (0 : Int32) = i3 0 from rfl) (.inl rfl) ⟨hZ11I, hZ11K, hZ11U⟩
        · replace hP := zE_n hP h10
          refine wz_br (i3L (rfl : i3 a3 = i3 a3) (show (0 : Int32) = i3 0 from rfl) (by omega) (by omega) (by omega) (by omega)) (fun h12 => ?_) (fun h12 => ?_)
          · replace hP := zE_p hP h12
            obtain ⟨Z13, hZ13⟩ := zx (zu Z 1 0 0 2 1)
            replace hP := zl_e hP hZ13
            have hZ13I := zM_u hZ hZ13 (lo := -2147483648) (hi := 2147483647) (by decide) rfl (by omega) ⟨by decide, by decide⟩ (Or.inr (by decide)) rfl
            have hZ13U : zU [] Z Z13 := zU_u zU_r hZ13 (Or.inl rfl)
            have hZ13K : zC [1, 2] Z Z13 := zC_u zC_r hZ13 (by decide)
            intro μ9 e9
            replace e9 := e9.trans (zm_wI (Z := Z) (ν := ν) hZ13 (show ((0 : Nat) : Int) = 0 from rfl) (show ((0 : Nat) : Int) = 0 from rfl) (show ((2 : Nat) : Int) = 2 from rfl) (show (1 : Int32) = i3 1 from rfl))
            subst e9
            exact zlY hP (show (0 : Int32) = i3 0 from rfl) (.inl rfl) ⟨hZ13I, hZ13K, hZ13U⟩
          · replace hP := zE_n hP h12
            refine wz_br (i3L (show (9 : Int32) = i3 9 from rfl) (rfl : i3 a3 = i3 a3) (by omega) (by omega) (by omega) (by omega)) (fun h14 => ?_) (fun h14 => ?_)
            · replace hP := zE_p hP h14
              obtain ⟨Z15, hZ15⟩ := zx (zu Z 1 0 0 2 1)
              replace hP := zl_e hP hZ15
              have hZ15I := zM_u hZ hZ15 (lo := -2147483648) (hi := 2147483647) (by decide) rfl (by omega) ⟨by decide, by decide⟩ (Or.inr (by decide)) rfl
              have hZ15U : zU [] Z Z15 := zU_u zU_r hZ15 (Or.inl rfl)
              have hZ15K : zC [1, 2] Z Z15 := zC_u zC_r hZ15 (by decide)
              intro μ9 e9
              replace e9 := e9.trans (zm_wI (Z := Z) (ν := ν) hZ15 (show ((0 : Nat) : Int) = 0 from rfl) (show ((0 : Nat) : Int) = 0 from rfl) (show ((2 : Nat) : Int) = 2 from rfl) (show (1 : Int32) = i3 1 from rfl))
              subst e9
              exact zlY hP (show (0 : Int32) = i3 0 from rfl) (.inl rfl) ⟨hZ15I, hZ15K, hZ15U⟩
            · replace hP := zE_n hP h14
              obtain ⟨Z16, hZ16⟩ := zx (zu Z 1 0 0 2 0)
              replace hP := zl_e hP hZ16
              have hZ16I := zM_0 hZ hZ16 (by decide) (Or.inr (by decide))
              have hZ16U : zU [] Z Z16 := zU_u zU_r hZ16 (Or.inl rfl)
              have hZ16K : zC [1, 2] Z Z16 := zC_u zC_r hZ16 (by decide)
              intro μ9 e9
              replace e9 := e9.trans (zm_wI (Z := Z) (ν := ν) hZ16 (show ((0 : Nat) : Int) = 0 from rfl) (show ((0 : Nat) : Int) = 0 from rfl) (show ((2 : Nat) : Int) = 2 from rfl) (show (0 : Int32) = i3 0 from rfl))
              subst e9
              have r17 := zM_k hZ16I 2 0 0 1200 (lo := 0) (hi := 6) (by decide) rfl
              refine wz_br (i3Le (show (6 : Int32) = i3 6 from rfl) (zm_rd (Z := Z16) (ν := ν) (k := 2) (show ((0 : Nat) : Int) = 0 from rfl) (show ((0 : Nat) : Int) = 0 from rfl) (show ((1200 : Nat) : Int) = 1200 from rfl)) (by omega) (by omega) (by omega) (by omega)) (fun h18 => ?_) (fun h18 => ?_)
              · replace hP := zE_p hP h18
                obtain ⟨Z19, hZ19⟩ := zx (zu Z16 1 0 0 2 2)
                replace hP := zl_e hP hZ19
                have hZ19I := zM_u hZ16I hZ19 (lo := -2147483648) (hi := 2147483647) (by decide) rfl (by omega) ⟨by decide, by decide⟩ (Or.inr (by decide)) rfl
                have hZ19U : zU [] Z Z19 := zU_u hZ16U hZ19 (Or.inl rfl)
                have hZ19K : zC [1, 2] Z Z19 := zC_u hZ16K hZ19 (by decide)
                intro μ9 e9
                replace e9 := e9.trans (zm_wI (Z := Z16) (ν := ν) hZ19 (show ((0 : Nat) : Int) = 0 from rfl) (show ((0 : Nat) : Int) = 0 from rfl) (show ((2 : Nat) : Int) = 2 from rfl) (show (2 : Int32) = i3 2 from rfl))
                subst e9
                exact zlY hP (show (0 : Int32) = i3 0 from rfl) (.inl rfl) ⟨hZ19I, hZ19K, hZ19U⟩
              · replace hP := zE_n hP h18
                obtain ⟨Z20, hZ20⟩ := zx (zu Z16 1 0 0 2 0)
                replace hP := zl_e hP hZ20
                have hZ20I := zM_0 hZ16I hZ20 (by decide) (Or.inr (by decide))
                have hZ20U : zU [] Z Z20 := zU_u hZ16U hZ20 (Or.inl rfl)
                have hZ20K : zC [1, 2] Z Z20 := zC_u hZ16K hZ20 (by decide)
                intro μ9 e9
                replace e9 := e9.trans (zm_wI (Z := Z16) (ν := ν) hZ20 (show ((0 : Nat) : Int) = 0 from rfl) (show ((0 : Nat) : Int) = 0 from rfl) (show ((2 : Nat) : Int) = 2 from rfl) (show (0 : Int32) = i3 0 from rfl))
                subst e9
                have r21 := zM_k hZ20I 1 0 0 35 (lo := 0) (hi := 1) (by decide) rfl
                have q22 := (zu_ne (k' := 1) (b' := 0) (i' := 0) (j' := 35) hZ20 (fun q => absurd q.2.2.2 (by decide))).trans (zu_ne (k' := 1) (b' := 0) (i' := 0) (j' := 35) hZ16 (fun q => absurd q.2.2.2 (by decide)))
                refine wz_i1 (Eq.trans (i3NE (zm_rd (Z := Z20) (ν := ν) (k := 1) (show ((0 : Nat) : Int) = 0 from rfl) (show ((0 : Nat) : Int) = 0 from rfl) (show ((35 : Nat) : Int) = 35 from rfl)) (show (0 : Int32) = i3 0 from rfl) (by omega) (by omega) (by omega) (by omega)) (decide_eq_true (by omega))) ?_
                replace hP := zl_q hP (rfl : _ = Z20)
                have r23 := zM_k hZ20I 2 0 0 0 (lo := 0) (hi := 671) (by decide) rfl
                refine wz_i0 (i3O (n := 4400) (i3A (show (1300 : Int32) = i3 1300 from rfl) (i3D (zm_rd (Z := Z20) (ν := ν) (k := 2) (show ((0 : Nat) : Int) = 0 from rfl) (show ((0 : Nat) : Int) = 0 from rfl) (show ((0 : Nat) : Int) = 0 from rfl)) (show (24 : Int32) = i3 24 from rfl) (by omega) (by omega) (by omega) (by omega))) (by omega) (by omega) (by omega)) ?_
                have r24 := zM_k hZ20I 2 0 0 (1300 + ((Z20 2 0 0 0) / 24)) (lo := 0) (hi := 40) (by decide) (zs_1300 (by omega) (by omega))
                have r25 := zM_k hZ20I 2 0 0 1200 (lo := 0) (hi := 6) (by decide) rfl
                have q26 := zu_ne (k' := 2) (b' := 0) (i' := 0) (j' := 1200) hZ20 (fun q => absurd q.1 (by decide))
                obtain ⟨Z27, v28, hv28, c9, hZ27I, kZ27, jZ27, lv28, uv28, wv280⟩ := sp_485 (ν := ν) hZ20I (a1 := a1) (by omega) (a2 := a2) (by omega) (a3 := a3) (by omega) (a4 := (Z20 2 0 0 (1300 + ((Z20 2 0 0 0) / 24)))) (by omega) (by omega) (zbh (c := 0) (k := 0) hM (Nat.le_of_ble_eq_true rfl))
                have hZ27U : zU [] Z Z27 := zU_t hZ20U jZ27 zU_b0
                have hZ27K : zC [1, 2] Z Z27 := zC_t hZ20K kZ27 (by decide)
                replace hP := zl_e2 hP hv28
                refine wz_cI_of (zas (zcons rfl (zcons (zvi (rfl : i3 a1 = i3 a1)) (zcons (zvi (rfl : i3 a2 = i3 a2)) (zcons (zvi (rfl : i3 a3 = i3 a3)) (zcons (zvi (zm_rd (Z := Z20) (ν := ν) (k := 2) (show ((0 : Nat) : Int) = 0 from rfl) (show ((0 : Nat) : Int) = 0 from rfl) (i3I (y := (1300 + ((Z20 2 0 0 0) / 24))) (i3A (show (1300 : Int32) = i3 1300 from rfl) (i3D (zm_rd (Z := Z20) (ν := ν) (k := 2) (show ((0 : Nat) : Int) = 0 from rfl) (show ((0 : Nat) : Int) = 0 from rfl) (show ((0 : Nat) : Int) = 0 from rfl)) (show (24 : Int32) = i3 24 from rfl) (by omega) (by omega) (by omega) (by omega))) (by omega) (by omega) (by omega)))) rfl))))) c9) ?_
                clear c9 hv28
                have r29 := zM_k hZ27I 2 0 0 1200 (lo := 0) (hi := 6) (by decide) rfl
                exact zlY hP (rfl : i3 v28 = i3 v28) (.inl rfl) ⟨hZ27I, hZ27K, hZ27U⟩
/- yX12_iIsRow -/
def zl_361_1 : Nat → qz_Z → Int → Int → Int × Int
  | 0, Z, x2, x3 => (x2, x3)
  | m + 1, Z, x2, x3 => (if x3 ≤ 0 then (x2, x3) else (if x2 = 0 then zl_361_1 m Z 0 (x3 / 10) else (if (x3 % 10) = 7 then zl_361_1 m Z 1 (x3 / 10) else (if ((x3 % 10) - 1) < 0 then zl_361_1 m Z 0 (x3 / 10) else (if ((Z 2 0 0 1200) - 1) < ((x3 % 10) - 1) then zl_361_1 m Z 0 (x3 / 10) else zl_361_1 m Z 1 (x3 / 10))))))
theorem sl_361_1 {s : zSM} {Z : qz_Z} {ν : qz_N} (hZ : zM s Z) (hM : s.2 + 0 ≤ 1000000000) {x2 : Int} (gx2 : 0 ≤ x2 ∧ x2 ≤ 1) {x3 : Int} (gx3 : 0 ≤ x3 ∧ x3 ≤ 777777) {k : wz_K} {R : wz_R} {L : qz_L} (hL : qz_fg [true, false, true, true] L = [some (.inr (.inr (some (1, 0, 0)))), none, some (.inl (i3 x2)), some (.inl (i3 x3))]) {T : Int × Int} (hP : zE T (zl_361_1 (zlog x3 + 1) Z x2 x3)) (hk : ∀ (L9 : qz_L) (yx2 yx3 : Int), qz_fg [false, false, true, false] L9 = [none, none, some (.inl (i3 yx2)), none] → (0 ≤ yx2 ∧ yx2 ≤ 1) → (0 ≤ yx3 ∧ yx3 ≤ 777777) → zE T ((yx2, yx3)) → k 0 (L9, [], zm Z ν)) : wz_loop qb_361_1 65536 k R (L, [], zm Z ν) := by
  have hpre0 := zlog_le x3
  refine wz_lp sb_361_1 (fun m x => ∃ x2 : Int, ∃ x3 : Int, qz_fg [true, false, true, true] x.1 = [some (.inr (.inr (some (1, 0, 0)))), none, some (.inl (i3 x2)), some (.inl (i3 x3))] ∧ x.2 = ([], zm Z ν) ∧ m = zlog x3 ∧ (0 ≤ x2 ∧ x2 ≤ 1) ∧ (0 ≤ x3 ∧ x3 ≤ 777777) ∧ zE T (zl_361_1 (m + 1) Z x2 x3)) ?_ 65536 (zlog x3) _ (by omega) ⟨x2, x3, hL, rfl, rfl, gx2, gx3, hP⟩
  clear hpre0
  clear hP gx2 gx3 hL
  clear x2 x3
  rintro m ⟨L, st, μ⟩ ⟨x2, x3, hL, hx, hm, gx2, gx3, hP⟩
  cases hx
  refine fb_361_1 (i3 x2) (i3 x3) _ _ _ _ hL ?_
  have r1 := zlog_s x3 (by omega)
  refine wz_br (i3Le (rfl : i3 x3 = i3 x3) (show (0 : Int32) = i3 0 from rfl) (by omega) (by omega) (by omega) (by omega)) (fun h2 => ?_) (fun h2 => ?_)
  · replace hP := zE_p hP h2
    exact hk _ _ _ (zconso rfl (zconso rfl (zconso (zvo (rfl : i3 x2 = i3 x2)) (zconso rfl rfl))))  (by omega) (by omega)  hP
  · replace hP := zE_n hP h2
    refine wz_br (i3E (rfl : i3 x2 = i3 x2) (show (0 : Int32) = i3 0 from rfl) (by omega) (by omega) (by omega) (by omega)) (fun h3 => ?_) (fun h3 => ?_)
    · replace hP := zE_p hP h3
      obtain ⟨m2, rfl⟩ : ∃ m2, m = m2 + 1 := ⟨m - 1, by omega⟩
      exact wz_k1 ⟨m2, by omega, 0, (x3 / 10), (zconso rfl (zconso rfl (zconso (zvo (show (0 : Int32) = i3 0 from rfl)) (zconso (zvo (i3D (rfl : i3 x3 = i3 x3) (show (10 : Int32) = i3 10 from rfl) (by omega) (by omega) (by omega) (by omega))) rfl)))), rfl,  by omega, by omega, by omega,  hP⟩
    · replace hP := zE_n hP h3
      refine wz_br (i3E (i3R (rfl : i3 x3 = i3 x3) (show (10 : Int32) = i3 10 from rfl) (by omega) (by omega) (by omega) (by omega)) (show (7 : Int32) = i3 7 from rfl) (by omega) (by omega) (by omega) (by omega)) (fun h4 => ?_) (fun h4 => ?_)
      · replace hP := zE_p hP h4
        obtain ⟨m2, rfl⟩ : ∃ m2, m = m2 + 1 := ⟨m - 1, by omega⟩
        exact wz_k1 ⟨m2, by omega, 1, (x3 / 10), (zconso rfl (zconso rfl (zconso (zvo (show (1 : Int32) = i3 1 from rfl)) (zconso (zvo (i3D (rfl : i3 x3 = i3 x3) (show (10 : Int32) = i3 10 from rfl) (by omega) (by omega) (by omega) (by omega))) rfl)))), rfl,  by omega, by omega, by omega,  hP⟩
      · replace hP := zE_n hP h4
        refine wz_br (i3L (i3S (i3R (rfl : i3 x3 = i3 x3) (show (10 : Int32) = i3 10 from rfl) (by omega) (by omega) (by omega) (by omega)) (show (1 : Int32) = i3 1 from rfl)) (show (0 : Int32) = i3 0 from rfl) (by omega) (by omega) (by omega) (by omega)) (fun h5 => ?_) (fun h5 => ?_)
        · replace hP := zE_p hP h5
          obtain ⟨m2, rfl⟩ : ∃ m2, m = m2 + 1 := ⟨m - 1, by omega⟩
          exact wz_k1 ⟨m2, by omega, 0, (x3 / 10), (zconso rfl (zconso rfl (zconso (zvo (show (0 : Int32) = i3 0 from rfl)) (zconso (zvo (i3D (rfl : i3 x3 = i3 x3) (show (10 : Int32) = i3 10 from rfl) (by omega) (by omega) (by omega) (by omega))) rfl)))), rfl,  by omega, by omega, by omega,  hP⟩
        · replace hP := zE_n hP h5
          have r6 := zM_k hZ 2 0 0 1200 (lo := 0) (hi := 6) (by decide) rfl
          refine wz_br (i3L (i3S (zm_rd (Z := Z) (ν := ν) (k := 2) (show ((0 : Nat) : Int) = 0 from rfl) (show ((0 : Nat) : Int) = 0 from rfl) (show ((1200 : Nat) : Int) = 1200 from rfl)) (show (1 : Int32) = i3 1 from rfl)) (i3S (i3R (rfl : i3 x3 = i3 x3) (show (10 : Int32) = i3 10 from rfl) (by omega) (by omega) (by omega) (by omega)) (show (1 : Int32) = i3 1 from rfl)) (by omega) (by omega) (by omega) (by omega)) (fun h7 => ?_) (fun h7 => ?_)
          · replace hP := zE_p hP h7
            obtain ⟨m2, rfl⟩ : ∃ m2, m = m2 + 1 := ⟨m - 1, by omega⟩
            exact wz_k1 ⟨m2, by omega, 0, (x3 / 10), (zconso rfl (zconso rfl (zconso (zvo (show (0 : Int32) = i3 0 from rfl)) (zconso (zvo (i3D (rfl : i3 x3 = i3 x3) (show (10 : Int32) = i3 10 from rfl) (by omega) (by omega) (by omega) (by omega))) rfl)))), rfl,  by omega, by omega, by omega,  hP⟩
          · replace hP := zE_n hP h7
            obtain ⟨m2, rfl⟩ : ∃ m2, m = m2 + 1 := ⟨m - 1, by omega⟩
            exact wz_k1 ⟨m2, by omega, 1, (x3 / 10), (zconso rfl (zconso rfl (zconso (zvo (show (1 : Int32) = i3 1 from rfl)) (zconso (zvo (i3D (rfl : i3 x3 = i3 x3) (show (10 : Int32) = i3 10 from rfl) (by omega) (by omega) (by omega) (by omega))) rfl)))), rfl,  by omega, by omega, by omega,  hP⟩
/- yX12_iIsRow -/
def zf_361 (Z : qz_Z) (a1 : Int) : Int := (if a1 < 0 then (zlet2 (zl_361_1 (zlog 0 + 1) Z 0 0) (fun y2 y3 => y2)) else (if 777777 < a1 then (zlet2 (zl_361_1 (zlog 0 + 1) Z 0 0) (fun y6 y7 => y6)) else (zlet2 (zl_361_1 (zlog a1 + 1) Z 1 a1) (fun y9 y10 => y9))))
theorem sp_361 {s : zSM} {Z : qz_Z} {ν : qz_N} (hZ : zM s Z) {a1 : Int} (ga1 : -2147483648 ≤ a1 ∧ a1 ≤ 2147483647) (hM : s.2 + 0 ≤ 1000000000) : ∃ P : Int, P = zf_361 Z a1 ∧ (qf_361 [.inr (.inr (some (1, 0, 0))), .inl (i3 a1)] (zm Z ν) = some (zm Z ν, .inl (some (.inl (i3 P)))) ∧ 0 ≤ P ∧ P ≤ 1) := by
  obtain ⟨P, hP⟩ := zx (zf_361 Z a1)
  refine zc_R (Q := fun P => 0 ≤ P ∧ P ≤ 1) hP (fw_361 (i3 a1) _ _ ?_)
  replace hP : zE P (zf_361 Z a1) := hP
  unfold zf_361 at hP
  refine wz_br (i3L (rfl : i3 a1 = i3 a1) (show (0 : Int32) = i3 0 from rfl) (by omega) (by omega) (by omega) (by omega)) (fun h1 => ?_) (fun h1 => ?_)
  · replace hP := zE_p hP h1
    refine sl_361_1 (ν := ν) hZ (zbh (c := 0) (k := 0) hM (Nat.le_of_ble_eq_true rfl)) (x2 := 0) (by omega) (x3 := 0) (by omega)  (zconso rfl (zconso rfl (zconso (zvo (show (0 : Int32) = i3 0 from rfl)) (zconso (zvo (show (0 : Int32) = i3 0 from rfl)) rfl)))) rfl ?_
    intro L4 y2 y3 hL4 gy2 gy3 q9
    replace hP := zl_e2 hP (Eq.symm q9)
    clear q9
    refine fc_361_2 (i3 y2) _ _ _ _ hL4 ?_
    refine wz_i1 (i3B (rfl : i3 y2 = i3 y2) (by omega)) ?_
    exact zlR hP (rfl : i3 y2 = i3 y2) ⟨by omega, by omega⟩
  · replace hP := zE_n hP h1
    refine wz_br (i3L (show (777777 : Int32) = i3 777777 from rfl) (rfl : i3 a1 = i3 a1) (by omega) (by omega) (by omega) (by omega)) (fun h5 => ?_) (fun h5 => ?_)
    · replace hP := zE_p hP h5
      refine sl_361_1 (ν := ν) hZ (zbh (c := 0) (k := 0) hM (Nat.le_of_ble_eq_true rfl)) (x2 := 0) (by omega) (x3 := 0) (by omega)  (zconso rfl (zconso rfl (zconso (zvo (show (0 : Int32) = i3 0 from rfl)) (zconso (zvo (show (0 : Int32) = i3 0 from rfl)) rfl)))) rfl ?_
      intro L8 y6 y7 hL8 gy6 gy7 q9
      replace hP := zl_e2 hP (Eq.symm q9)
      clear q9
      refine fc_361_2 (i3 y6) _ _ _ _ hL8 ?_
      refine wz_i1 (i3B (rfl : i3 y6 = i3 y6) (by omega)) ?_
      exact zlR hP (rfl : i3 y6 = i3 y6) ⟨by omega, by omega⟩
    · replace hP := zE_n hP h5
      refine sl_361_1 (ν := ν) hZ (zbh (c := 0) (k := 0) hM (Nat.le_of_ble_eq_true rfl)) (x2 := 1) (by omega) (x3 := a1) (by omega)  (zconso rfl (zconso rfl (zconso (zvo (show (1 : Int32) = i3 1 from rfl)) (zconso (zvo (rfl : i3 a1 = i3 a1)) rfl)))) rfl ?_
      intro L11 y9 y10 hL11 gy9 gy10 q9
      replace hP := zl_e2 hP (Eq.symm q9)
      clear q9
      refine fc_361_2 (i3 y9) _ _ _ _ hL11 ?_
      refine wz_i1 (i3B (rfl : i3 y9 = i3 y9) (by omega)) ?_
      exact zlR hP (rfl : i3 y9 = i3 y9) ⟨by omega, by omega⟩
/- y by hand: stops are no negative number -/
theorem z361 {Z : qz_Z} {a v : Int} (h : v = zf_361 Z a) : v = 0 ∨ 0 ≤ a := by
  by_cases q : a < 0
  · refine .inl (h.trans ?_)
    unfold zf_361
    rw [if_pos q]
    show (zl_361_1 (zlog 0 + 1) Z 0 0).1 = 0
    unfold zl_361_1
    rw [if_pos (by omega)]
  · exact .inr (by omega)
/- yX12_round -/
def zy_496 (Z : qz_Z) (dm : qz_Z → Int → Int → Int → Int → Int → Int → Int → qz_Z) (a1 : Int) (a2 : Int) (a3 : Int) : qz_Z × Int := (if a1 < 0 then (zlet (zu Z 1 0 0 2 1) (fun Z5 => (Z5, 0))) else (if ((Z 2 0 0 3500) - 1) < a1 then (zlet (zu Z 1 0 0 2 1) (fun Z8 => (Z8, 0))) else (zlet (zu Z 1 0 0 2 0) (fun Z9 => (if a2 < 0 then (zlet (zu Z9 1 0 0 2 2) (fun Z11 => (Z11, 0))) else (if 127 < a2 then (zlet (zu Z9 1 0 0 2 2) (fun Z13 => (Z13, 0))) else (zlet (zf_361 Z9 a3) (fun v14 => (if v14 = 0 then (zlet (zu Z9 1 0 0 2 2) (fun Z17 => (Z17, 0))) else (zlet (zu Z9 1 0 0 2 0) (fun Z18 => (zlet (dm Z18 24 a1 a2 a3 0 0 0) (fun Z25 => (zlet (zu Z25 2 0 0 (3522 + 10 * a1) a2) (fun Z26 => (zlet (zu Z26 2 0 0 (3523 + 10 * a1) a3) (fun Z27 => (zlet (zf_374 Z27 a3) (fun v28 => (Z27, v28))))))))))))))))))))
theorem sy_496 {s : zSM} {Z : qz_Z} {ν : qz_N} (hZ : zM s Z) (gq : Z 1 0 0 35 = 0) (hM : s.2 + 0 ≤ 1000000000) {a1 : Int} (ga1 : -2147483648 ≤ a1 ∧ a1 ≤ 2147483647) {a2 : Int} (ga2 : -2147483648 ≤ a2 ∧ a2 ≤ 2147483647) {a3 : Int} (ga3 : -2147483648 ≤ a3 ∧ a3 ≤ 2147483647) {dk : qz_Z → qz_Z} {dm : qz_Z → Int → Int → Int → Int → Int → Int → Int → qz_Z} {ν1 : qz_N} (hdm : zDm s ν ν1 Z dk dm) : ∃ (Z1 : qz_Z) (ν2 : qz_N) (v : Int), (Z1, v) = zy_496 Z dm a1 a2 a3 ∧ (ν2 = ν ∨ ν2 = ν1) ∧ qf_496 [.inr (.inr (some (1, 0, 0))), .inl (i3 a1), .inl (i3 a2), .inl (i3 a3)] (zm Z ν) = some (zm Z1 ν2, .inl (some (.inl (i3 v)))) ∧ (fun Z1 => zM s Z1 ∧ zC [1, 2, 101, 102, 200] Z Z1 ∧ zU [] Z Z1) Z1 := by
  obtain ⟨P, hP⟩ := zx (zy_496 Z dm a1 a2 a3)
  refine zc_Y (Q := fun Z1 => zM s Z1 ∧ zC [1, 2, 101, 102, 200] Z Z1 ∧ zU [] Z Z1) hP (fw_496 (i3 a1) (i3 a2) (i3 a3) _ _ ?_)
  replace hP : zE P (zy_496 Z dm a1 a2 a3) := hP
  unfold zy_496 at hP
  have r1 := zM_k hZ 1 0 0 35 (lo := 0) (hi := 1) (by decide) rfl
  have r2 := zM_k hZ 1 0 0 34 (lo := 0) (hi := 8) (by decide) rfl
  have r3 := zM_f hZ 1 0 0 37
  refine wz_br (i3L (rfl : i3 a1 = i3 a1) (show (0 : Int32) = i3 0 from rfl) (by omega) (by omega) (by omega) (by omega)) (fun h4 => ?_) (fun h4 => ?_)
  · replace hP := zE_p hP h4
    obtain ⟨Z5, hZ5⟩ := zx (zu Z 1 0 0 2 1)
    replace hP := zl_e hP hZ5
    have hZ5I := zM_u hZ hZ5 (lo := -2147483648) (hi := 2147483647) (by decide) rfl (by omega) ⟨by decide, by decide⟩ (Or.inr (by decide)) rfl
    have hZ5U : zU [] Z Z5 := zU_u zU_r hZ5 (Or.inl rfl)
    have hZ5K : zC [1, 2, 101, 102, 200] Z Z5 := zC_u zC_r hZ5 (by decide)
    intro μ9 e9
    replace e9 := e9.trans (zm_wI (Z := Z) (ν := ν) hZ5 (show ((0 : Nat) : Int) = 0 from rfl) (show ((0 : Nat) : Int) = 0 from rfl) (show ((2 : Nat) : Int) = 2 from rfl) (show (1 : Int32) = i3 1 from rfl))
    subst e9
    exact zlY hP (show (0 : Int32) = i3 0 from rfl) (.inl rfl) ⟨hZ5I, hZ5K, hZ5U⟩
  · replace hP := zE_n hP h4
    have r6 := zM_k hZ 2 0 0 3500 (lo := 0) (hi := 2) (by decide) rfl
    refine wz_br (i3L (i3S (zm_rd (Z := Z) (ν := ν) (k := 2) (show ((0 : Nat) : Int) = 0 from rfl) (show ((0 : Nat) : Int) = 0 from rfl) (show ((3500 : Nat) : Int) = 3500 from rfl)) (show (1 : Int32) = i3 1 from rfl)) (rfl : i3 a1 = i3 a1) (by omega) (by omega) (by omega) (by omega)) (fun h7 => ?_) (fun h7 => ?_)
    · replace hP := zE_p hP h7
      obtain ⟨Z8, hZ8⟩ := zx (zu Z 1 0 0 2 1)
      replace hP := zl_e hP hZ8
      have hZ8I := zM_u hZ hZ8 (lo := -2147483648) (hi := 2147483647) (by decide) rfl (by omega) ⟨by decide, by decide⟩ (Or.inr (by decide)) rfl
      have hZ8U : zU [] Z Z8 := zU_u zU_r hZ8 (Or.inl rfl)
      have hZ8K : zC [1, 2, 101, 102, 200] Z Z8 := zC_u zC_r hZ8 (by decide)
      intro μ9 e9
      replace e9 := e9.trans (zm_wI (Z := Z) (ν := ν) hZ8 (show ((0 : Nat) : Int) = 0 from rfl) (show ((0 : Nat) : Int) = 0 from rfl) (show ((2 : Nat) : Int) = 2 from rfl) (show (1 : Int32) = i3 1 from rfl))
      subst e9
      exact zlY hP (show (0 : Int32) = i3 0 from rfl) (.inl rfl) ⟨hZ8I, hZ8K, hZ8U⟩
    · replace hP := zE_n hP h7
      obtain ⟨Z9, hZ9⟩ := zx (zu Z 1 0 0 2 0)
      replace hP := zl_e hP hZ9
      have hZ9I := zM_0 hZ hZ9 (by decide) (Or.inr (by decide))
      have hZ9U : zU [] Z Z9 := zU_u zU_r hZ9 (Or.inl rfl)
      have hZ9K : zC [1, 2, 101, 102, 200] Z Z9 := zC_u zC_r hZ9 (by decide)
      intro μ9 e9
      replace e9 := e9.trans (zm_wI (Z := Z) (ν := ν) hZ9 (show ((0 : Nat) : Int) = 0 from rfl) (show ((0 : Nat) : Int) = 0 from rfl) (show ((2 : Nat) : Int) = 2 from rfl) (show (0 : Int32) = i3 0 from rfl))
      subst e9
      refine wz_br (i3L (rfl : i3 a2 = i3 a2) (show (0 : Int32) = i3 0 from rfl) (by omega) (by omega) (by omega) (by omega)) (fun h10 => ?_) (fun h10 => ?_)
      · replace hP := zE_p hP h10
        obtain ⟨Z11, hZ11⟩ := zx (zu Z9 1 0 0 2 2)
        replace hP := zl_e hP hZ11
        have hZ11I := zM_u hZ9I hZ11 (lo := -2147483648) (hi := 2147483647) (by decide) rfl (by omega) ⟨by decide, by decide⟩ (Or.inr (by decide)) rfl
        have hZ11U : zU [] Z Z11 := zU_u hZ9U hZ11 (Or.inl rfl)
        have hZ11K : zC [1, 2, 101, 102, 200] Z Z11 := zC_u hZ9K hZ11 (by decide)
        intro μ9 e9
        replace e9 := e9.trans (zm_wI (Z := Z9) (ν := ν) hZ11 (show ((0 : Nat) : Int) = 0 from rfl) (show ((0 : Nat) : Int) = 0 from rfl) (show ((2 : Nat) : Int) = 2 from rfl) (show (2 : Int32) = i3 2 from rfl))
        subst e9
        exact zlY hP (show (0 : Int32) = i3 0 from rfl) (.inl rfl) ⟨hZ11I, hZ11K, hZ11U⟩
      · replace hP := zE_n hP h10
        refine wz_br (i3L (show (127 : Int32) = i3 127 from rfl) (rfl : i3 a2 = i3 a2) (by omega) (by omega) (by omega) (by omega)) (fun h12 => ?_) (fun h12 => ?_)
        · replace hP := zE_p hP h12
          obtain ⟨Z13, hZ13⟩ := zx (zu Z9 1 0 0 2 2)
          replace hP := zl_e hP hZ13
          have hZ13I := zM_u hZ9I hZ13 (lo := -2147483648) (hi := 2147483647) (by decide) rfl (by omega) ⟨by decide, by decide⟩ (Or.inr (by decide)) rfl
          have hZ13U : zU [] Z Z13 := zU_u hZ9U hZ13 (Or.inl rfl)
          have hZ13K : zC [1, 2, 101, 102, 200] Z Z13 := zC_u hZ9K hZ13 (by decide)
          intro μ9 e9
          replace e9 := e9.trans (zm_wI (Z := Z9) (ν := ν) hZ13 (show ((0 : Nat) : Int) = 0 from rfl) (show ((0 : Nat) : Int) = 0 from rfl) (show ((2 : Nat) : Int) = 2 from rfl) (show (2 : Int32) = i3 2 from rfl))
          subst e9
          exact zlY hP (show (0 : Int32) = i3 0 from rfl) (.inl rfl) ⟨hZ13I, hZ13K, hZ13U⟩
        · replace hP := zE_n hP h12
          obtain ⟨v14, hv14, c9, lv14, uv14⟩ := sp_361 (ν := ν) hZ9I (a1 := a3) (by omega) (zbh (c := 0) (k := 0) hM (Nat.le_of_ble_eq_true rfl))
          replace hP := zl_e hP hv14
          refine wz_cI_of (zas (zcons rfl (zcons (zvi (rfl : i3 a3 = i3 a3)) rfl)) c9) ?_
          clear c9
          have r15 := z361 hv14
          refine wz_br (i3E (rfl : i3 v14 = i3 v14) (show (0 : Int32) = i3 0 from rfl) (by omega) (by omega) (by omega) (by omega)) (fun h16 => ?_) (fun h16 => ?_)
          · replace hP := zE_p hP h16
            obtain ⟨Z17, hZ17⟩ := zx (zu Z9 1 0 0 2 2)
            replace hP := zl_e hP hZ17
            have hZ17I := zM_u hZ9I hZ17 (lo := -2147483648) (hi := 2147483647) (by decide) rfl (by omega) ⟨by decide, by decide⟩ (Or.inr (by decide)) rfl
            have hZ17U : zU [] Z Z17 := zU_u hZ9U hZ17 (Or.inl rfl)
            have hZ17K : zC [1, 2, 101, 102, 200] Z Z17 := zC_u hZ9K hZ17 (by decide)
            intro μ9 e9
            replace e9 := e9.trans (zm_wI (Z := Z9) (ν := ν) hZ17 (show ((0 : Nat) : Int) = 0 from rfl) (show ((0 : Nat) : Int) = 0 from rfl) (show ((2 : Nat) : Int) = 2 from rfl) (show (2 : Int32) = i3 2 from rfl))
            subst e9
            exact zlY hP (show (0 : Int32) = i3 0 from rfl) (.inl rfl) ⟨hZ17I, hZ17K, hZ17U⟩
          · replace hP := zE_n hP h16
            obtain ⟨Z18, hZ18⟩ := zx (zu Z9 1 0 0 2 0)
            replace hP := zl_e hP hZ18
            have hZ18I := zM_0 hZ9I hZ18 (by decide) (Or.inr (by decide))
            have hZ18U : zU [] Z Z18 := zU_u hZ9U hZ18 (Or.inl rfl)
            have hZ18K : zC [1, 2, 101, 102, 200] Z Z18 := zC_u hZ9K hZ18 (by decide)
            intro μ9 e9
            replace e9 := e9.trans (zm_wI (Z := Z9) (ν := ν) hZ18 (show ((0 : Nat) : Int) = 0 from rfl) (show ((0 : Nat) : Int) = 0 from rfl) (show ((2 : Nat) : Int) = 2 from rfl) (show (0 : Int32) = i3 0 from rfl))
            subst e9
            have r19 := zM_k hZ18I 1 0 0 35 (lo := 0) (hi := 1) (by decide) rfl
            have q20 := (zu_ne (k' := 1) (b' := 0) (i' := 0) (j' := 35) hZ18 (fun q => absurd q.2.2.2 (by decide))).trans (zu_ne (k' := 1) (b' := 0) (i' := 0) (j' := 35) hZ9 (fun q => absurd q.2.2.2 (by decide)))
            refine wz_i0 (Eq.trans (i3NE (zm_rd (Z := Z18) (ν := ν) (k := 1) (show ((0 : Nat) : Int) = 0 from rfl) (show ((0 : Nat) : Int) = 0 from rfl) (show ((35 : Nat) : Int) = 35 from rfl)) (show (0 : Int32) = i3 0 from rfl) (by omega) (by omega) (by omega) (by omega)) (decide_eq_false (by omega))) ?_
            have r21 := zM_k hZ18I 1 0 0 34 (lo := 0) (hi := 8) (by decide) rfl
            have q22 := (zu_ne (k' := 1) (b' := 0) (i' := 0) (j' := 34) hZ18 (fun q => absurd q.2.2.2 (by decide))).trans (zu_ne (k' := 1) (b' := 0) (i' := 0) (j' := 34) hZ9 (fun q => absurd q.2.2.2 (by decide)))
            have r23 := zM_f hZ18I 1 0 0 37
            have q24 := (zu_ne (k' := 1) (b' := 0) (i' := 0) (j' := 37) hZ18 (fun q => absurd q.2.2.2 (by decide))).trans (zu_ne (k' := 1) (b' := 0) (i' := 0) (j' := 37) hZ9 (fun q => absurd q.2.2.2 (by decide)))
            obtain ⟨c8, c9, hZ25I, dZ25⟩ := hdm Z18 24 a1 a2 a3 0 0 0 hZ18I (by omega) (by omega) (by omega) (by omega) (by omega) (by omega) (by omega) (by omega) (by omega) (by omega)
            obtain ⟨Z25, hZ25⟩ := zx (dm Z18 24 a1 a2 a3 0 0 0)
            rw [← hZ25] at c9 hZ25I dZ25
            replace hP := zl_e hP hZ25
            refine wz_cV_of (zas (zcons rfl (zcons (zvi (show (-1 : Int32) = i3 (-1) from rfl)) rfl)) c8) ?_
            refine wz_cV_of (zas (zcons rfl (zcons (zvi (show (24 : Int32) = i3 24 from rfl)) (zcons (zvi (rfl : i3 a1 = i3 a1)) (zcons (zvi (rfl : i3 a2 = i3 a2)) (zcons (zvi (rfl : i3 a3 = i3 a3)) (zcons (zvi (show (0 : Int32) = i3 0 from rfl)) (zcons (zvi (show (0 : Int32) = i3 0 from rfl)) (zcons (zvi (show (0 : Int32) = i3 0 from rfl)) rfl)))))))) c9) ?_
            clear c8 c9
            have hZ25K : zC [1, 2, 101, 102, 200] Z Z25 := zC_t hZ18K (zMd_C dZ25) (by decide)
            have hZ25U : zU [] Z Z25 := zU_t hZ18U (zMd_U dZ25) zU_b0
            refine wz_i0 (i3O (n := 4400) (i3A (i3A (show (3520 : Int32) = i3 3520 from rfl) (i3M (show (10 : Int32) = i3 10 from rfl) (rfl : i3 a1 = i3 a1))) (show (2 : Int32) = i3 2 from rfl)) (by omega) (by omega) (by omega)) ?_
            obtain ⟨Z26, hZ26⟩ := zx (zu Z25 2 0 0 (3522 + 10 * a1) a2)
            replace hP := zl_e hP hZ26
            have hZ26I := zM_u2 hZ25I hZ26 (lo := 0) (hi := 127) (zs_3520_2 (x := a1) (by omega) (by omega) (by omega)) (by omega) ⟨by decide, by decide⟩ (by simp only [zsp]; omega)
            have hZ26U : zU [] Z Z26 := zU_u hZ25U hZ26 (Or.inl rfl)
            have hZ26K : zC [1, 2, 101, 102, 200] Z Z26 := zC_u hZ25K hZ26 (zcl_2w (by omega) rfl)
            intro μ9 e9
            replace e9 := e9.trans (zm_wI (Z := Z25) (ν := ν1) hZ26 (show ((0 : Nat) : Int) = 0 from rfl) (show ((0 : Nat) : Int) = 0 from rfl) (i3I (y := (3522 + 10 * a1)) (i3A (i3A (show (3520 : Int32) = i3 3520 from rfl) (i3M (show (10 : Int32) = i3 10 from rfl) (rfl : i3 a1 = i3 a1))) (show (2 : Int32) = i3 2 from rfl)) (by omega) (by omega) (by omega)) (rfl : i3 a2 = i3 a2))
            subst e9
            refine wz_i0 (i3O (n := 4400) (i3A (i3A (show (3520 : Int32) = i3 3520 from rfl) (i3M (show (10 : Int32) = i3 10 from rfl) (rfl : i3 a1 = i3 a1))) (show (3 : Int32) = i3 3 from rfl)) (by omega) (by omega) (by omega)) ?_
            obtain ⟨Z27, hZ27⟩ := zx (zu Z26 2 0 0 (3523 + 10 * a1) a3)
            replace hP := zl_e hP hZ27
            have hZ27I := zM_u2 hZ26I hZ27 (lo := 0) (hi := 2147483647) (zs_3520_3 (x := a1) (by omega) (by omega) (by omega)) (by omega) ⟨by decide, by decide⟩ (by simp only [zsp]; omega)
            have hZ27U : zU [] Z Z27 := zU_u hZ26U hZ27 (Or.inl rfl)
            have hZ27K : zC [1, 2, 101, 102, 200] Z Z27 := zC_u hZ26K hZ27 (zcl_2w (by omega) rfl)
            intro μ9 e9
            replace e9 := e9.trans (zm_wI (Z := Z26) (ν := ν1) hZ27 (show ((0 : Nat) : Int) = 0 from rfl) (show ((0 : Nat) : Int) = 0 from rfl) (i3I (y := (3523 + 10 * a1)) (i3A (i3A (show (3520 : Int32) = i3 3520 from rfl) (i3M (show (10 : Int32) = i3 10 from rfl) (rfl : i3 a1 = i3 a1))) (show (3 : Int32) = i3 3 from rfl)) (by omega) (by omega) (by omega)) (rfl : i3 a3 = i3 a3))
            subst e9
            obtain ⟨v28, hv28, c9, lv28, uv28⟩ := sp_374 (ν := ν1) hZ27I (a0 := a3) (by omega) (zbh (c := 0) (k := 0) hM (Nat.le_of_ble_eq_true rfl))
            replace hP := zl_e hP hv28
            refine wz_cI_of (zas (zcons (zvi (rfl : i3 a3 = i3 a3)) rfl) c9) ?_
            clear c9
            exact zlY hP (rfl : i3 v28 = i3 v28) (.inr rfl) ⟨hZ27I, hZ27K, hZ27U⟩

theorem sq_496 {s : zSM} {Z : qz_Z} {ν : qz_N} (hZ : zM s Z) (gq : Z 1 0 0 35 = 1) (hM : s.2 + 0 ≤ 1000000000) {a1 : Int} (ga1 : -2147483648 ≤ a1 ∧ a1 ≤ 2147483647) {a2 : Int} (ga2 : -2147483648 ≤ a2 ∧ a2 ≤ 2147483647) {a3 : Int} (ga3 : -2147483648 ≤ a3 ∧ a3 ≤ 2147483647) {ν1 : qz_N} : ∃ (Z1 : qz_Z) (ν2 : qz_N) (v : Int), (Z1, v) = zy_496 Z zq0 a1 a2 a3 ∧ (ν2 = ν ∨ ν2 = ν1) ∧ qf_496 [.inr (.inr (some (1, 0, 0))), .inl (i3 a1), .inl (i3 a2), .inl (i3 a3)] (zm Z ν) = some (zm Z1 ν2, .inl (some (.inl (i3 v)))) ∧ (fun Z1 => zM s Z1 ∧ zC [1, 2] Z Z1 ∧ zU [] Z Z1) Z1 := by
  obtain ⟨P, hP⟩ := zx (zy_496 Z zq0 a1 a2 a3)
  refine zc_Y (Q := fun Z1 => zM s Z1 ∧ zC [1, 2] Z Z1 ∧ zU [] Z Z1) hP (fw_496 (i3 a1) (i3 a2) (i3 a3) _ _ ?_)
  replace hP : zE P (zy_496 Z zq0 a1 a2 a3) := hP
  unfold zy_496 at hP
  have r1 := zM_k hZ 1 0 0 35 (lo := 0) (hi := 1) (by decide) rfl
  have r2 := zM_k hZ 1 0 0 34 (lo := 0) (hi := 8) (by decide) rfl
  have r3 := zM_f hZ 1 0 0 37
  refine wz_br (i3L (rfl : i3 a1 = i3 a1) (show (0 : Int32) = i3 0 from rfl) (by omega) (by omega) (by omega) (by omega)) (fun h4 => ?_) (fun h4 => ?_)
  · replace hP := zE_p hP h4
    obtain ⟨Z5, hZ5⟩ := zx (zu Z 1 0 0 2 1)
    replace hP := zl_e hP hZ5
    have hZ5I := zM_u hZ hZ5 (lo := -2147483648) (hi := 2147483647) (by decide) rfl (by omega) ⟨by decide, by decide⟩ (Or.inr (by decide)) rfl
    have hZ5U : zU [] Z Z5 := zU_u zU_r hZ5 (Or.inl rfl)
    have hZ5K : zC [1, 2] Z Z5 := zC_u zC_r hZ5 (by decide)
    intro μ9 e9
    replace e9 := e9.trans (zm_wI (Z := Z) (ν := ν) hZ5 (show ((0 : Nat) : Int) = 0 from rfl) (show ((0 : Nat) : Int) = 0 from rfl) (show ((2 : Nat) : Int) = 2 from rfl) (show (1 : Int32) = i3 1 from rfl))
    subst e9
    exact zlY hP (show (0 : Int32) = i3 0 from rfl) (.inl rfl) ⟨hZ5I, hZ5K, hZ5U⟩
  · replace hP := zE_n hP h4
    have r6 := zM_k hZ 2 0 0 3500 (lo := 0) (hi := 2) (by decide) rfl
    refine wz_br (i3L (i3S (zm_rd (Z := Z) (ν := ν) (k := 2) (show ((0 : Nat) : Int) = 0 from rfl) (show ((0 : Nat) : Int) = 0 from rfl) (show ((3500 : Nat) : Int) = 3500 from rfl)) (show (1 : Int32) = i3 1 from rfl)) (rfl : i3 a1 = i3 a1) (by omega) (by omega) (by omega) (by omega)) (fun h7 => ?_) (fun h7 => ?_)
    · replace hP := zE_p hP h7
      obtain ⟨Z8, hZ8⟩ := zx (zu Z 1 0 0 2 1)
      replace hP := zl_e hP hZ8
      have hZ8I := zM_u hZ hZ8 (lo := -2147483648) (hi := 2147483647) (by decide) rfl (by omega) ⟨by decide, by decide⟩ (Or.inr (by decide)) rfl
      have hZ8U : zU [] Z Z8 := zU_u zU_r hZ8 (Or.inl rfl)
      have hZ8K : zC [1, 2] Z Z8 := zC_u zC_r hZ8 (by decide)
      intro μ9 e9
      replace e9 := e9.trans (zm_wI (Z := Z) (ν := ν) hZ8 (show ((0 : Nat) : Int) = 0 from rfl) (show ((0 : Nat) : Int) = 0 from rfl) (show ((2 : Nat) : Int) = 2 from rfl) (show (1 : Int32) = i3 1 from rfl))
      subst e9
      exact zlY hP (show (0 : Int32) = i3 0 from rfl) (.inl rfl) ⟨hZ8I, hZ8K, hZ8U⟩
    · replace hP := zE_n hP h7
      obtain ⟨Z9, hZ9⟩ := zx (zu Z 1 0 0 2 0)
      replace hP := zl_e hP hZ9
      have hZ9I := zM_0 hZ hZ9 (by decide) (Or.inr (by decide))
      have hZ9U : zU [] Z Z9 := zU_u zU_r hZ9 (Or.inl rfl)
      have hZ9K : zC [1, 2] Z Z9 := zC_u zC_r hZ9 (by decide)
      intro μ9 e9
      replace e9 := e9.trans (zm_wI (Z := Z) (ν := ν) hZ9 (show ((0 : Nat) : Int) = 0 from rfl) (show ((0 : Nat) : Int) = 0 from rfl) (show ((2 : Nat) : Int) = 2 from rfl) (show (0 : Int32) = i3 0 from rfl))
      subst e9
      refine wz_br (i3L (rfl : i3 a2 = i3 a2) (show (0 : Int32) = i3 0 from rfl) (by omega) (by omega) (by omega) (by omega)) (fun h10 => ?_) (fun h10 => ?_)
      · replace hP := zE_p hP h10
        obtain ⟨Z11, hZ11⟩ := zx (zu Z9 1 0 0 2 2)
        replace hP := zl_e hP hZ11
        have hZ11I := zM_u hZ9I hZ11 (lo := -2147483648) (hi := 2147483647) (by decide) rfl (by omega) ⟨by decide, by decide⟩ (Or.inr (by decide)) rfl
        have hZ11U : zU [] Z Z11 := zU_u hZ9U hZ11 (Or.inl rfl)
        have hZ11K : zC [1, 2] Z Z11 := zC_u hZ9K hZ11 (by decide)
        intro μ9 e9
        replace e9 := e9.trans (zm_wI (Z := Z9) (ν := ν) hZ11 (show ((0 : Nat) : Int) = 0 from rfl) (show ((0 : Nat) : Int) = 0 from rfl) (show ((2 : Nat) : Int) = 2 from rfl) (show (2 : Int32) = i3 2 from rfl))
        subst e9
        exact zlY hP (show (0 : Int32) = i3 0 from rfl) (.inl rfl) ⟨hZ11I, hZ11K, hZ11U⟩
      · replace hP := zE_n hP h10
        refine wz_br (i3L (show (127 : Int32) = i3 127 from rfl) (rfl : i3 a2 = i3 a2) (by omega) (by omega) (by omega) (by omega)) (fun h12 => ?_) (fun h12 => ?_)
        · replace hP := zE_p hP h12
          obtain ⟨Z13, hZ13⟩ := zx (zu Z9 1 0 0 2 2)
          replace hP := zl_e hP hZ13
          have hZ13I := zM_u hZ9I hZ13 (lo := -2147483648) (hi := 2147483647) (by decide) rfl (by omega) ⟨by decide, by decide⟩ (Or.inr (by decide)) rfl
          have hZ13U : zU [] Z Z13 := zU_u hZ9U hZ13 (Or.inl rfl)
          have hZ13K : zC [1, 2] Z Z13 := zC_u hZ9K hZ13 (by decide)
          intro μ9 e9
          replace e9 := e9.trans (zm_wI (Z := Z9) (ν := ν) hZ13 (show ((0 : Nat) : Int) = 0 from rfl) (show ((0 : Nat) : Int) = 0 from rfl) (show ((2 : Nat) : Int) = 2 from rfl) (show (2 : Int32) = i3 2 from rfl))
          subst e9
          exact zlY hP (show (0 : Int32) = i3 0 from rfl) (.inl rfl) ⟨hZ13I, hZ13K, hZ13U⟩
        · replace hP := zE_n hP h12
          obtain ⟨v14, hv14, c9, lv14, uv14⟩ := sp_361 (ν := ν) hZ9I (a1 := a3) (by omega) (zbh (c := 0) (k := 0) hM (Nat.le_of_ble_eq_true rfl))
          replace hP := zl_e hP hv14
          refine wz_cI_of (zas (zcons rfl (zcons (zvi (rfl : i3 a3 = i3 a3)) rfl)) c9) ?_
          clear c9
          have r15 := z361 hv14
          refine wz_br (i3E (rfl : i3 v14 = i3 v14) (show (0 : Int32) = i3 0 from rfl) (by omega) (by omega) (by omega) (by omega)) (fun h16 => ?_) (fun h16 => ?_)
          · replace hP := zE_p hP h16
            obtain ⟨Z17, hZ17⟩ := zx (zu Z9 1 0 0 2 2)
            replace hP := zl_e hP hZ17
            have hZ17I := zM_u hZ9I hZ17 (lo := -2147483648) (hi := 2147483647) (by decide) rfl (by omega) ⟨by decide, by decide⟩ (Or.inr (by decide)) rfl
            have hZ17U : zU [] Z Z17 := zU_u hZ9U hZ17 (Or.inl rfl)
            have hZ17K : zC [1, 2] Z Z17 := zC_u hZ9K hZ17 (by decide)
            intro μ9 e9
            replace e9 := e9.trans (zm_wI (Z := Z9) (ν := ν) hZ17 (show ((0 : Nat) : Int) = 0 from rfl) (show ((0 : Nat) : Int) = 0 from rfl) (show ((2 : Nat) : Int) = 2 from rfl) (show (2 : Int32) = i3 2 from rfl))
            subst e9
            exact zlY hP (show (0 : Int32) = i3 0 from rfl) (.inl rfl) ⟨hZ17I, hZ17K, hZ17U⟩
          · replace hP := zE_n hP h16
            obtain ⟨Z18, hZ18⟩ := zx (zu Z9 1 0 0 2 0)
            replace hP := zl_e hP hZ18
            have hZ18I := zM_0 hZ9I hZ18 (by decide) (Or.inr (by decide))
            have hZ18U : zU [] Z Z18 := zU_u hZ9U hZ18 (Or.inl rfl)
            have hZ18K : zC [1, 2] Z Z18 := zC_u hZ9K hZ18 (by decide)
            intro μ9 e9
            replace e9 := e9.trans (zm_wI (Z := Z9) (ν := ν) hZ18 (show ((0 : Nat) : Int) = 0 from rfl) (show ((0 : Nat) : Int) = 0 from rfl) (show ((2 : Nat) : Int) = 2 from rfl) (show (0 : Int32) = i3 0 from rfl))
            subst e9
            have r19 := zM_k hZ18I 1 0 0 35 (lo := 0) (hi := 1) (by decide) rfl
            have q20 := (zu_ne (k' := 1) (b' := 0) (i' := 0) (j' := 35) hZ18 (fun q => absurd q.2.2.2 (by decide))).trans (zu_ne (k' := 1) (b' := 0) (i' := 0) (j' := 35) hZ9 (fun q => absurd q.2.2.2 (by decide)))
            refine wz_i1 (Eq.trans (i3NE (zm_rd (Z := Z18) (ν := ν) (k := 1) (show ((0 : Nat) : Int) = 0 from rfl) (show ((0 : Nat) : Int) = 0 from rfl) (show ((35 : Nat) : Int) = 35 from rfl)) (show (0 : Int32) = i3 0 from rfl) (by omega) (by omega) (by omega) (by omega)) (decide_eq_true (by omega))) ?_
            replace hP := zl_q hP (rfl : _ = Z18)
            refine wz_i0 (i3O (n := 4400) (i3A (i3A (show (3520 : Int32) = i3 3520 from rfl) (i3M (show (10 : Int32) = i3 10 from rfl) (rfl : i3 a1 = i3 a1))) (show (2 : Int32) = i3 2 from rfl)) (by omega) (by omega) (by omega)) ?_
            obtain ⟨Z21, hZ21⟩ := zx (zu Z18 2 0 0 (3522 + 10 * a1) a2)
            replace hP := zl_e hP hZ21
            have hZ21I := zM_u2 hZ18I hZ21 (lo := 0) (hi := 127) (zs_3520_2 (x := a1) (by omega) (by omega) (by omega)) (by omega) ⟨by decide, by decide⟩ (by simp only [zsp]; omega)
            have hZ21U : zU [] Z Z21 := zU_u hZ18U hZ21 (Or.inl rfl)
            have hZ21K : zC [1, 2] Z Z21 := zC_u hZ18K hZ21 (zcl_2w (by omega) rfl)
            intro μ9 e9
            replace e9 := e9.trans (zm_wI (Z := Z18) (ν := ν) hZ21 (show ((0 : Nat) : Int) = 0 from rfl) (show ((0 : Nat) : Int) = 0 from rfl) (i3I (y := (3522 + 10 * a1)) (i3A (i3A (show (3520 : Int32) = i3 3520 from rfl) (i3M (show (10 : Int32) = i3 10 from rfl) (rfl : i3 a1 = i3 a1))) (show (2 : Int32) = i3 2 from rfl)) (by omega) (by omega) (by omega)) (rfl : i3 a2 = i3 a2))
            subst e9
            refine wz_i0 (i3O (n := 4400) (i3A (i3A (show (3520 : Int32) = i3 3520 from rfl) (i3M (show (10 : Int32) = i3 10 from rfl) (rfl : i3 a1 = i3 a1))) (show (3 : Int32) = i3 3 from rfl)) (by omega) (by omega) (by omega)) ?_
            obtain ⟨Z22, hZ22⟩ := zx (zu Z21 2 0 0 (3523 + 10 * a1) a3)
            replace hP := zl_e hP hZ22
            have hZ22I := zM_u2 hZ21I hZ22 (lo := 0) (hi := 2147483647) (zs_3520_3 (x := a1) (by omega) (by omega) (by omega)) (by omega) ⟨by decide, by decide⟩ (by simp only [zsp]; omega)
            have hZ22U : zU [] Z Z22 := zU_u hZ21U hZ22 (Or.inl rfl)
            have hZ22K : zC [1, 2] Z Z22 := zC_u hZ21K hZ22 (zcl_2w (by omega) rfl)
            intro μ9 e9
            replace e9 := e9.trans (zm_wI (Z := Z21) (ν := ν) hZ22 (show ((0 : Nat) : Int) = 0 from rfl) (show ((0 : Nat) : Int) = 0 from rfl) (i3I (y := (3523 + 10 * a1)) (i3A (i3A (show (3520 : Int32) = i3 3520 from rfl) (i3M (show (10 : Int32) = i3 10 from rfl) (rfl : i3 a1 = i3 a1))) (show (3 : Int32) = i3 3 from rfl)) (by omega) (by omega) (by omega)) (rfl : i3 a3 = i3 a3))
            subst e9
            obtain ⟨v23, hv23, c9, lv23, uv23⟩ := sp_374 (ν := ν) hZ22I (a0 := a3) (by omega) (zbh (c := 0) (k := 0) hM (Nat.le_of_ble_eq_true rfl))
            replace hP := zl_e hP hv23
            refine wz_cI_of (zas (zcons (zvi (rfl : i3 a3 = i3 a3)) rfl) c9) ?_
            clear c9
            exact zlY hP (rfl : i3 v23 = i3 v23) (.inl rfl) ⟨hZ22I, hZ22K, hZ22U⟩
/- yX12_send -/
def zy_499 (Z : qz_Z) (dm : qz_Z → Int → Int → Int → Int → Int → Int → Int → qz_Z) (a1 : Int) (a2 : Int) : qz_Z × Int := (if a1 < 0 then (zlet (zu Z 1 0 0 2 1) (fun Z5 => (Z5, 0))) else (if ((Z 2 0 0 3200) - 1) < a1 then (zlet (zu Z 1 0 0 2 1) (fun Z8 => (Z8, 0))) else (zlet (zu Z 1 0 0 2 0) (fun Z9 => (if a2 = (-1) then (zlet (zu Z9 1 0 0 2 0) (fun Z11 => (if (Z11 2 0 0 (3252 + 24 * a1)) ≠ 1 then (zlet (zu Z11 1 0 0 2 0) (fun Z14 => (zlet (dm Z14 22 a1 a2 0 0 0 0) (fun Z21 => (zlet (zu Z21 2 0 0 (3253 + 24 * a1) a2) (fun Z22 => (Z22, (Z21 2 0 0 (3253 + 24 * a1))))))))) else (zlet (zu Z11 1 0 0 2 3) (fun Z24 => (Z24, 0)))))) else (if a2 < ((Z9 2 0 0 0) + 1) then (zlet (zu Z9 1 0 0 2 2) (fun Z27 => (Z27, 0))) else (if 671 < a2 then (zlet (zu Z9 1 0 0 2 2) (fun Z29 => (Z29, 0))) else (zlet (zu Z9 1 0 0 2 0) (fun Z30 => (if (Z30 2 0 0 (3252 + 24 * a1)) ≠ 1 then (zlet (zu Z30 1 0 0 2 0) (fun Z33 => (zlet (dm Z33 22 a1 a2 0 0 0 0) (fun Z40 => (zlet (zu Z40 2 0 0 (3253 + 24 * a1) a2) (fun Z41 => (Z41, (Z40 2 0 0 (3253 + 24 * a1))))))))) else (zlet (zu Z30 1 0 0 2 3) (fun Z43 => (Z43, 0)))))))))))))
theorem sy_499 {s : zSM} {Z : qz_Z} {ν : qz_N} (hZ : zM s Z) (gq : Z 1 0 0 35 = 0) (hM : s.2 + 0 ≤ 1000000000) {a1 : Int} (ga1 : -2147483648 ≤ a1 ∧ a1 ≤ 2147483647) {a2 : Int} (ga2 : -2147483648 ≤ a2 ∧ a2 ≤ 2147483647) {dk : qz_Z → qz_Z} {dm : qz_Z → Int → Int → Int → Int → Int → Int → Int → qz_Z} {ν1 : qz_N} (hdm : zDm s ν ν1 Z dk dm) : ∃ (Z1 : qz_Z) (ν2 : qz_N) (v : Int), (Z1, v) = zy_499 Z dm a1 a2 ∧ (ν2 = ν ∨ ν2 = ν1) ∧ qf_499 [.inr (.inr (some (1, 0, 0))), .inl (i3 a1), .inl (i3 a2)] (zm Z ν) = some (zm Z1 ν2, .inl (some (.inl (i3 v)))) ∧ (fun Z1 => zM s Z1 ∧ zC [1, 2, 101, 102, 200] Z Z1 ∧ zU [] Z Z1) Z1 := by
  obtain ⟨P, hP⟩ := zx (zy_499 Z dm a1 a2)
  refine zc_Y (Q := fun Z1 => zM s Z1 ∧ zC [1, 2, 101, 102, 200] Z Z1 ∧ zU [] Z Z1) hP (fw_499 (i3 a1) (i3 a2) _ _ ?_)
  replace hP : zE P (zy_499 Z dm a1 a2) := hP
  unfold zy_499 at hP
  have r1 := zM_k hZ 1 0 0 35 (lo := 0) (hi := 1) (by decide) rfl
  have r2 := zM_k hZ 1 0 0 34 (lo := 0) (hi := 8) (by decide) rfl
  have r3 := zM_f hZ 1 0 0 37
  refine wz_br (i3L (rfl : i3 a1 = i3 a1) (show (0 : Int32) = i3 0 from rfl) (by omega) (by omega) (by omega) (by omega)) (fun h4 => ?_) (fun h4 => ?_)
  · replace hP := zE_p hP h4
    obtain ⟨Z5, hZ5⟩ := zx (zu Z 1 0 0 2 1)
    replace hP := zl_e hP hZ5
    have hZ5I := zM_u hZ hZ5 (lo := -2147483648) (hi := 2147483647) (by decide) rfl (by omega) ⟨by decide, by decide⟩ (Or.inr (by decide)) rfl
    have hZ5U : zU [] Z Z5 := zU_u zU_r hZ5 (Or.inl rfl)
    have hZ5K : zC [1, 2, 101, 102, 200] Z Z5 := zC_u zC_r hZ5 (by decide)
    intro μ9 e9
    replace e9 := e9.trans (zm_wI (Z := Z) (ν := ν) hZ5 (show ((0 : Nat) : Int) = 0 from rfl) (show ((0 : Nat) : Int) = 0 from rfl) (show ((2 : Nat) : Int) = 2 from rfl) (show (1 : Int32) = i3 1 from rfl))
    subst e9
    exact zlY hP (show (0 : Int32) = i3 0 from rfl) (.inl rfl) ⟨hZ5I, hZ5K, hZ5U⟩
  · replace hP := zE_n hP h4
    have r6 := zM_k hZ 2 0 0 3200 (lo := 0) (hi := 4) (by decide) rfl
    refine wz_br (i3L (i3S (zm_rd (Z := Z) (ν := ν) (k := 2) (show ((0 : Nat) : Int) = 0 from rfl) (show ((0 : Nat) : Int) = 0 from rfl) (show ((3200 : Nat) : Int) = 3200 from rfl)) (show (1 : Int32) = i3 1 from rfl)) (rfl : i3 a1 = i3 a1) (by omega) (by omega) (by omega) (by omega)) (fun h7 => ?_) (fun h7 => ?_)
    · replace hP := zE_p hP h7
      obtain ⟨Z8, hZ8⟩ := zx (zu Z 1 0 0 2 1)
      replace hP := zl_e hP hZ8
      have hZ8I := zM_u hZ hZ8 (lo := -2147483648) (hi := 2147483647) (by decide) rfl (by omega) ⟨by decide, by decide⟩ (Or.inr (by decide)) rfl
      have hZ8U : zU [] Z Z8 := zU_u zU_r hZ8 (Or.inl rfl)
      have hZ8K : zC [1, 2, 101, 102, 200] Z Z8 := zC_u zC_r hZ8 (by decide)
      intro μ9 e9
      replace e9 := e9.trans (zm_wI (Z := Z) (ν := ν) hZ8 (show ((0 : Nat) : Int) = 0 from rfl) (show ((0 : Nat) : Int) = 0 from rfl) (show ((2 : Nat) : Int) = 2 from rfl) (show (1 : Int32) = i3 1 from rfl))
      subst e9
      exact zlY hP (show (0 : Int32) = i3 0 from rfl) (.inl rfl) ⟨hZ8I, hZ8K, hZ8U⟩
    · replace hP := zE_n hP h7
      obtain ⟨Z9, hZ9⟩ := zx (zu Z 1 0 0 2 0)
      replace hP := zl_e hP hZ9
      have hZ9I := zM_0 hZ hZ9 (by decide) (Or.inr (by decide))
      have hZ9U : zU [] Z Z9 := zU_u zU_r hZ9 (Or.inl rfl)
      have hZ9K : zC [1, 2, 101, 102, 200] Z Z9 := zC_u zC_r hZ9 (by decide)
      intro μ9 e9
      replace e9 := e9.trans (zm_wI (Z := Z) (ν := ν) hZ9 (show ((0 : Nat) : Int) = 0 from rfl) (show ((0 : Nat) : Int) = 0 from rfl) (show ((2 : Nat) : Int) = 2 from rfl) (show (0 : Int32) = i3 0 from rfl))
      subst e9
      refine wz_br (i3E (rfl : i3 a2 = i3 a2) (show (-1 : Int32) = i3 (-1) from rfl) (by omega) (by omega) (by omega) (by omega)) (fun h10 => ?_) (fun h10 => ?_)
      · replace hP := zE_p hP h10
        obtain ⟨Z11, hZ11⟩ := zx (zu Z9 1 0 0 2 0)
        replace hP := zl_e hP hZ11
        have hZ11I := zM_0 hZ9I hZ11 (by decide) (Or.inr (by decide))
        have hZ11U : zU [] Z Z11 := zU_u hZ9U hZ11 (Or.inl rfl)
        have hZ11K : zC [1, 2, 101, 102, 200] Z Z11 := zC_u hZ9K hZ11 (by decide)
        intro μ9 e9
        replace e9 := e9.trans (zm_wI (Z := Z9) (ν := ν) hZ11 (show ((0 : Nat) : Int) = 0 from rfl) (show ((0 : Nat) : Int) = 0 from rfl) (show ((2 : Nat) : Int) = 2 from rfl) (show (0 : Int32) = i3 0 from rfl))
        subst e9
        refine wz_i0 (i3O (n := 4400) (i3A (i3A (show (3250 : Int32) = i3 3250 from rfl) (i3M (show (24 : Int32) = i3 24 from rfl) (rfl : i3 a1 = i3 a1))) (show (2 : Int32) = i3 2 from rfl)) (by omega) (by omega) (by omega)) ?_
        have r12 := zM_k hZ11I 2 0 0 (3252 + 24 * a1) (lo := 0) (hi := 1) (by decide) (zs_3250_2 (x := a1) (by omega) (by omega) (by omega))
        refine wz_br (i3NE (zm_rd (Z := Z11) (ν := ν) (k := 2) (show ((0 : Nat) : Int) = 0 from rfl) (show ((0 : Nat) : Int) = 0 from rfl) (i3I (y := (3252 + 24 * a1)) (i3A (i3A (show (3250 : Int32) = i3 3250 from rfl) (i3M (show (24 : Int32) = i3 24 from rfl) (rfl : i3 a1 = i3 a1))) (show (2 : Int32) = i3 2 from rfl)) (by omega) (by omega) (by omega))) (show (1 : Int32) = i3 1 from rfl) (by omega) (by omega) (by omega) (by omega)) (fun h13 => ?_) (fun h13 => ?_)
        · replace hP := zE_p hP h13
          obtain ⟨Z14, hZ14⟩ := zx (zu Z11 1 0 0 2 0)
          replace hP := zl_e hP hZ14
          have hZ14I := zM_0 hZ11I hZ14 (by decide) (Or.inr (by decide))
          have hZ14U : zU [] Z Z14 := zU_u hZ11U hZ14 (Or.inl rfl)
          have hZ14K : zC [1, 2, 101, 102, 200] Z Z14 := zC_u hZ11K hZ14 (by decide)
          intro μ9 e9
          replace e9 := e9.trans (zm_wI (Z := Z11) (ν := ν) hZ14 (show ((0 : Nat) : Int) = 0 from rfl) (show ((0 : Nat) : Int) = 0 from rfl) (show ((2 : Nat) : Int) = 2 from rfl) (show (0 : Int32) = i3 0 from rfl))
          subst e9
          have r15 := zM_k hZ14I 1 0 0 35 (lo := 0) (hi := 1) (by decide) rfl
          have q16 := (zu_ne (k' := 1) (b' := 0) (i' := 0) (j' := 35) hZ14 (fun q => absurd q.2.2.2 (by decide))).trans ((zu_ne (k' := 1) (b' := 0) (i' := 0) (j' := 35) hZ11 (fun q => absurd q.2.2.2 (by decide))).trans (zu_ne (k' := 1) (b' := 0) (i' := 0) (j' := 35) hZ9 (fun q => absurd q.2.2.2 (by decide))))
          refine wz_i0 (Eq.trans (i3NE (zm_rd (Z := Z14) (ν := ν) (k := 1) (show ((0 : Nat) : Int) = 0 from rfl) (show ((0 : Nat) : Int) = 0 from rfl) (show ((35 : Nat) : Int) = 35 from rfl)) (show (0 : Int32) = i3 0 from rfl) (by omega) (by omega) (by omega) (by omega)) (decide_eq_false (by omega))) ?_
          have r17 := zM_k hZ14I 1 0 0 34 (lo := 0) (hi := 8) (by decide) rfl
          have q18 := (zu_ne (k' := 1) (b' := 0) (i' := 0) (j' := 34) hZ14 (fun q => absurd q.2.2.2 (by decide))).trans ((zu_ne (k' := 1) (b' := 0) (i' := 0) (j' := 34) hZ11 (fun q => absurd q.2.2.2 (by decide))).trans (zu_ne (k' := 1) (b' := 0) (i' := 0) (j' := 34) hZ9 (fun q => absurd q.2.2.2 (by decide))))
          have r19 := zM_f hZ14I 1 0 0 37
          have q20 := (zu_ne (k' := 1) (b' := 0) (i' := 0) (j' := 37) hZ14 (fun q => absurd q.2.2.2 (by decide))).trans ((zu_ne (k' := 1) (b' := 0) (i' := 0) (j' := 37) hZ11 (fun q => absurd q.2.2.2 (by decide))).trans (zu_ne (k' := 1) (b' := 0) (i' := 0) (j' := 37) hZ9 (fun q => absurd q.2.2.2 (by decide))))
          obtain ⟨c8, c9, hZ21I, dZ21⟩ := hdm Z14 22 a1 a2 0 0 0 0 hZ14I (by omega) (by omega) (by omega) (by omega) (by omega) (by omega) (by omega) (by omega) (by omega) (by omega)
          obtain ⟨Z21, hZ21⟩ := zx (dm Z14 22 a1 a2 0 0 0 0)
          rw [← hZ21] at c9 hZ21I dZ21
          replace hP := zl_e hP hZ21
          refine wz_cV_of (zas (zcons rfl (zcons (zvi (show (-1 : Int32) = i3 (-1) from rfl)) rfl)) c8) ?_
          refine wz_cV_of (zas (zcons rfl (zcons (zvi (show (22 : Int32) = i3 22 from rfl)) (zcons (zvi (rfl : i3 a1 = i3 a1)) (zcons (zvi (rfl : i3 a2 = i3 a2)) (zcons (zvi (show (0 : Int32) = i3 0 from rfl)) (zcons (zvi (show (0 : Int32) = i3 0 from rfl)) (zcons (zvi (show (0 : Int32) = i3 0 from rfl)) (zcons (zvi (show (0 : Int32) = i3 0 from rfl)) rfl)))))))) c9) ?_
          clear c8 c9
          have hZ21K : zC [1, 2, 101, 102, 200] Z Z21 := zC_t hZ14K (zMd_C dZ21) (by decide)
          have hZ21U : zU [] Z Z21 := zU_t hZ14U (zMd_U dZ21) zU_b0
          refine wz_i0 (i3O (n := 4400) (i3A (i3A (show (3250 : Int32) = i3 3250 from rfl) (i3M (show (24 : Int32) = i3 24 from rfl) (rfl : i3 a1 = i3 a1))) (show (3 : Int32) = i3 3 from rfl)) (by omega) (by omega) (by omega)) ?_
          refine wz_i0 (i3O (n := 4400) (i3A (i3A (show (3250 : Int32) = i3 3250 from rfl) (i3M (show (24 : Int32) = i3 24 from rfl) (rfl : i3 a1 = i3 a1))) (show (3 : Int32) = i3 3 from rfl)) (by omega) (by omega) (by omega)) ?_
          obtain ⟨Z22, hZ22⟩ := zx (zu Z21 2 0 0 (3253 + 24 * a1) a2)
          replace hP := zl_e hP hZ22
          have hZ22I := zM_u2 hZ21I hZ22 (lo := -1) (hi := 671) (zs_3250_3 (x := a1) (by omega) (by omega) (by omega)) (by omega) ⟨by decide, by decide⟩ (by simp only [zsp]; omega)
          have hZ22U : zU [] Z Z22 := zU_u hZ21U hZ22 (Or.inl rfl)
          have hZ22K : zC [1, 2, 101, 102, 200] Z Z22 := zC_u hZ21K hZ22 (zcl_2w (by omega) rfl)
          intro μ9 e9
          replace e9 := e9.trans (zm_wI (Z := Z21) (ν := ν1) hZ22 (show ((0 : Nat) : Int) = 0 from rfl) (show ((0 : Nat) : Int) = 0 from rfl) (i3I (y := (3253 + 24 * a1)) (i3A (i3A (show (3250 : Int32) = i3 3250 from rfl) (i3M (show (24 : Int32) = i3 24 from rfl) (rfl : i3 a1 = i3 a1))) (show (3 : Int32) = i3 3 from rfl)) (by omega) (by omega) (by omega)) (rfl : i3 a2 = i3 a2))
          subst e9
          have r23 := zM_k hZ21I 2 0 0 (3253 + 24 * a1) (lo := -1) (hi := 671) (by decide) (zs_3250_3 (x := a1) (by omega) (by omega) (by omega))
          exact zlY hP (zm_rd (Z := Z21) (ν := ν1) (k := 2) (show ((0 : Nat) : Int) = 0 from rfl) (show ((0 : Nat) : Int) = 0 from rfl) (i3I (y := (3253 + 24 * a1)) (i3A (i3A (show (3250 : Int32) = i3 3250 from rfl) (i3M (show (24 : Int32) = i3 24 from rfl) (rfl : i3 a1 = i3 a1))) (show (3 : Int32) = i3 3 from rfl)) (by omega) (by omega) (by omega))) (.inr rfl) ⟨hZ22I, hZ22K, hZ22U⟩
        · replace hP := zE_n hP h13
          obtain ⟨Z24, hZ24⟩ := zx (zu Z11 1 0 0 2 3)
          replace hP := zl_e hP hZ24
          have hZ24I := zM_u hZ11I hZ24 (lo := -2147483648) (hi := 2147483647) (by decide) rfl (by omega) ⟨by decide, by decide⟩ (Or.inr (by decide)) rfl
          have hZ24U : zU [] Z Z24 := zU_u hZ11U hZ24 (Or.inl rfl)
          have hZ24K : zC [1, 2, 101, 102, 200] Z Z24 := zC_u hZ11K hZ24 (by decide)
          intro μ9 e9
          replace e9 := e9.trans (zm_wI (Z := Z11) (ν := ν) hZ24 (show ((0 : Nat) : Int) = 0 from rfl) (show ((0 : Nat) : Int) = 0 from rfl) (show ((2 : Nat) : Int) = 2 from rfl) (show (3 : Int32) = i3 3 from rfl))
          subst e9
          exact zlY hP (show (0 : Int32) = i3 0 from rfl) (.inl rfl) ⟨hZ24I, hZ24K, hZ24U⟩
      · replace hP := zE_n hP h10
        have r25 := zM_k hZ9I 2 0 0 0 (lo := 0) (hi := 671) (by decide) rfl
        refine wz_br (i3L (rfl : i3 a2 = i3 a2) (i3A (zm_rd (Z := Z9) (ν := ν) (k := 2) (show ((0 : Nat) : Int) = 0 from rfl) (show ((0 : Nat) : Int) = 0 from rfl) (show ((0 : Nat) : Int) = 0 from rfl)) (show (1 : Int32) = i3 1 from rfl)) (by omega) (by omega) (by omega) (by omega)) (fun h26 => ?_) (fun h26 => ?_)
        · replace hP := zE_p hP h26
          obtain ⟨Z27, hZ27⟩ := zx (zu Z9 1 0 0 2 2)
          replace hP := zl_e hP hZ27
          have hZ27I := zM_u hZ9I hZ27 (lo := -2147483648) (hi := 2147483647) (by decide) rfl (by omega) ⟨by decide, by decide⟩ (Or.inr (by decide)) rfl
          have hZ27U : zU [] Z Z27 := zU_u hZ9U hZ27 (Or.inl rfl)
          have hZ27K : zC [1, 2, 101, 102, 200] Z Z27 := zC_u hZ9K hZ27 (by decide)
          intro μ9 e9
          replace e9 := e9.trans (zm_wI (Z := Z9) (ν := ν) hZ27 (show ((0 : Nat) : Int) = 0 from rfl) (show ((0 : Nat) : Int) = 0 from rfl) (show ((2 : Nat) : Int) = 2 from rfl) (show (2 : Int32) = i3 2 from rfl))
          subst e9
          exact zlY hP (show (0 : Int32) = i3 0 from rfl) (.inl rfl) ⟨hZ27I, hZ27K, hZ27U⟩
        · replace hP := zE_n hP h26
          refine wz_br (i3L (show (671 : Int32) = i3 671 from rfl) (rfl : i3 a2 = i3 a2) (by omega) (by omega) (by omega) (by omega)) (fun h28 => ?_) (fun h28 => ?_)
          · replace hP := zE_p hP h28
            obtain ⟨Z29, hZ29⟩ := zx (zu Z9 1 0 0 2 2)
            replace hP := zl_e hP hZ29
            have hZ29I := zM_u hZ9I hZ29 (lo := -2147483648) (hi := 2147483647) (by decide) rfl (by omega) ⟨by decide, by decide⟩ (Or.inr (by decide)) rfl
            have hZ29U : zU [] Z Z29 := zU_u hZ9U hZ29 (Or.inl rfl)
            have hZ29K : zC [1, 2, 101, 102, 200] Z Z29 := zC_u hZ9K hZ29 (by decide)
            intro μ9 e9
            replace e9 := e9.trans (zm_wI (Z := Z9) (ν := ν) hZ29 (show ((0 : Nat) : Int) = 0 from rfl) (show ((0 : Nat) : Int) = 0 from rfl) (show ((2 : Nat) : Int) = 2 from rfl) (show (2 : Int32) = i3 2 from rfl))
            subst e9
            exact zlY hP (show (0 : Int32) = i3 0 from rfl) (.inl rfl) ⟨hZ29I, hZ29K, hZ29U⟩
          · replace hP := zE_n hP h28
            obtain ⟨Z30, hZ30⟩ := zx (zu Z9 1 0 0 2 0)
            replace hP := zl_e hP hZ30
            have hZ30I := zM_0 hZ9I hZ30 (by decide) (Or.inr (by decide))
            have hZ30U : zU [] Z Z30 := zU_u hZ9U hZ30 (Or.inl rfl)
            have hZ30K : zC [1, 2, 101, 102, 200] Z Z30 := zC_u hZ9K hZ30 (by decide)
            intro μ9 e9
            replace e9 := e9.trans (zm_wI (Z := Z9) (ν := ν) hZ30 (show ((0 : Nat) : Int) = 0 from rfl) (show ((0 : Nat) : Int) = 0 from rfl) (show ((2 : Nat) : Int) = 2 from rfl) (show (0 : Int32) = i3 0 from rfl))
            subst e9
            refine wz_i0 (i3O (n := 4400) (i3A (i3A (show (3250 : Int32) = i3 3250 from rfl) (i3M (show (24 : Int32) = i3 24 from rfl) (rfl : i3 a1 = i3 a1))) (show (2 : Int32) = i3 2 from rfl)) (by omega) (by omega) (by omega)) ?_
            have r31 := zM_k hZ30I 2 0 0 (3252 + 24 * a1) (lo := 0) (hi := 1) (by decide) (zs_3250_2 (x := a1) (by omega) (by omega) (by omega))
            refine wz_br (i3NE (zm_rd (Z := Z30) (ν := ν) (k := 2) (show ((0 : Nat) : Int) = 0 from rfl) (show ((0 : Nat) : Int) = 0 from rfl) (i3I (y := (3252 + 24 * a1)) (i3A (i3A (show (3250 : Int32) = i3 3250 from rfl) (i3M (show (24 : Int32) = i3 24 from rfl) (rfl : i3 a1 = i3 a1))) (show (2 : Int32) = i3 2 from rfl)) (by omega) (by omega) (by omega))) (show (1 : Int32) = i3 1 from rfl) (by omega) (by omega) (by omega) (by omega)) (fun h32 => ?_) (fun h32 => ?_)
            · replace hP := zE_p hP h32
              obtain ⟨Z33, hZ33⟩ := zx (zu Z30 1 0 0 2 0)
              replace hP := zl_e hP hZ33
              have hZ33I := zM_0 hZ30I hZ33 (by decide) (Or.inr (by decide))
              have hZ33U : zU [] Z Z33 := zU_u hZ30U hZ33 (Or.inl rfl)
              have hZ33K : zC [1, 2, 101, 102, 200] Z Z33 := zC_u hZ30K hZ33 (by decide)
              intro μ9 e9
              replace e9 := e9.trans (zm_wI (Z := Z30) (ν := ν) hZ33 (show ((0 : Nat) : Int) = 0 from rfl) (show ((0 : Nat) : Int) = 0 from rfl) (show ((2 : Nat) : Int) = 2 from rfl) (show (0 : Int32) = i3 0 from rfl))
              subst e9
              have r34 := zM_k hZ33I 1 0 0 35 (lo := 0) (hi := 1) (by decide) rfl
              have q35 := (zu_ne (k' := 1) (b' := 0) (i' := 0) (j' := 35) hZ33 (fun q => absurd q.2.2.2 (by decide))).trans ((zu_ne (k' := 1) (b' := 0) (i' := 0) (j' := 35) hZ30 (fun q => absurd q.2.2.2 (by decide))).trans (zu_ne (k' := 1) (b' := 0) (i' := 0) (j' := 35) hZ9 (fun q => absurd q.2.2.2 (by decide))))
              refine wz_i0 (Eq.trans (i3NE (zm_rd (Z := Z33) (ν := ν) (k := 1) (show ((0 : Nat) : Int) = 0 from rfl) (show ((0 : Nat) : Int) = 0 from rfl) (show ((35 : Nat) : Int) = 35 from rfl)) (show (0 : Int32) = i3 0 from rfl) (by omega) (by omega) (by omega) (by omega)) (decide_eq_false (by omega))) ?_
              have r36 := zM_k hZ33I 1 0 0 34 (lo := 0) (hi := 8) (by decide) rfl
              have q37 := (zu_ne (k' := 1) (b' := 0) (i' := 0) (j' := 34) hZ33 (fun q => absurd q.2.2.2 (by decide))).trans ((zu_ne (k' := 1) (b' := 0) (i' := 0) (j' := 34) hZ30 (fun q => absurd q.2.2.2 (by decide))).trans (zu_ne (k' := 1) (b' := 0) (i' := 0) (j' := 34) hZ9 (fun q => absurd q.2.2.2 (by decide))))
              have r38 := zM_f hZ33I 1 0 0 37
              have q39 := (zu_ne (k' := 1) (b' := 0) (i' := 0) (j' := 37) hZ33 (fun q => absurd q.2.2.2 (by decide))).trans ((zu_ne (k' := 1) (b' := 0) (i' := 0) (j' := 37) hZ30 (fun q => absurd q.2.2.2 (by decide))).trans (zu_ne (k' := 1) (b' := 0) (i' := 0) (j' := 37) hZ9 (fun q => absurd q.2.2.2 (by decide))))
              obtain ⟨c8, c9, hZ40I, dZ40⟩ := hdm Z33 22 a1 a2 0 0 0 0 hZ33I (by omega) (by omega) (by omega) (by omega) (by omega) (by omega) (by omega) (by omega) (by omega) (by omega)
              obtain ⟨Z40, hZ40⟩ := zx (dm Z33 22 a1 a2 0 0 0 0)
              rw [← hZ40] at c9 hZ40I dZ40
              replace hP := zl_e hP hZ40
              refine wz_cV_of (zas (zcons rfl (zcons (zvi (show (-1 : Int32) = i3 (-1) from rfl)) rfl)) c8) ?_
              refine wz_cV_of (zas (zcons rfl (zcons (zvi (show (22 : Int32) = i3 22 from rfl)) (zcons (zvi (rfl : i3 a1 = i3 a1)) (zcons (zvi (rfl : i3 a2 = i3 a2)) (zcons (zvi (show (0 : Int32) = i3 0 from rfl)) (zcons (zvi (show (0 : Int32) = i3 0 from rfl)) (zcons (zvi (show (0 : Int32) = i3 0 from rfl)) (zcons (zvi (show (0 : Int32) = i3 0 from rfl)) rfl)))))))) c9) ?_
              clear c8 c9
              have hZ40K : zC [1, 2, 101, 102, 200] Z Z40 := zC_t hZ33K (zMd_C dZ40) (by decide)
              have hZ40U : zU [] Z Z40 := zU_t hZ33U (zMd_U dZ40) zU_b0
              refine wz_i0 (i3O (n := 4400) (i3A (i3A (show (3250 : Int32) = i3 3250 from rfl) (i3M (show (24 : Int32) = i3 24 from rfl) (rfl : i3 a1 = i3 a1))) (show (3 : Int32) = i3 3 from rfl)) (by omega) (by omega) (by omega)) ?_
              refine wz_i0 (i3O (n := 4400) (i3A (i3A (show (3250 : Int32) = i3 3250 from rfl) (i3M (show (24 : Int32) = i3 24 from rfl) (rfl : i3 a1 = i3 a1))) (show (3 : Int32) = i3 3 from rfl)) (by omega) (by omega) (by omega)) ?_
              obtain ⟨Z41, hZ41⟩ := zx (zu Z40 2 0 0 (3253 + 24 * a1) a2)
              replace hP := zl_e hP hZ41
              have hZ41I := zM_u2 hZ40I hZ41 (lo := -1) (hi := 671) (zs_3250_3 (x := a1) (by omega) (by omega) (by omega)) (by omega) ⟨by decide, by decide⟩ (by simp only [zsp]; omega)
              have hZ41U : zU [] Z Z41 := zU_u hZ40U hZ41 (Or.inl rfl)
              have hZ41K : zC [1, 2, 101, 102, 200] Z Z41 := zC_u hZ40K hZ41 (zcl_2w (by omega) rfl)
              intro μ9 e9
              replace e9 := e9.trans (zm_wI (Z := Z40) (ν := ν1) hZ41 (show ((0 : Nat) : Int) = 0 from rfl) (show ((0 : Nat) : Int) = 0 from rfl) (i3I (y := (3253 + 24 * a1)) (i3A (i3A (show (3250 : Int32) = i3 3250 from rfl) (i3M (show (24 : Int32) = i3 24 from rfl) (rfl : i3 a1 = i3 a1))) (show (3 : Int32) = i3 3 from rfl)) (by omega) (by omega) (by omega)) (rfl : i3 a2 = i3 a2))
              subst e9
              have r42 := zM_k hZ40I 2 0 0 (3253 + 24 * a1) (lo := -1) (hi := 671) (by decide) (zs_3250_3 (x := a1) (by omega) (by omega) (by omega))
              exact zlY hP (zm_rd (Z := Z40) (ν := ν1) (k := 2) (show ((0 : Nat) : Int) = 0 from rfl) (show ((0 : Nat) : Int) = 0 from rfl) (i3I (y := (3253 + 24 * a1)) (i3A (i3A (show (3250 : Int32) = i3 3250 from rfl) (i3M (show (24 : Int32) = i3 24 from rfl) (rfl : i3 a1 = i3 a1))) (show (3 : Int32) = i3 3 from rfl)) (by omega) (by omega) (by omega))) (.inr rfl) ⟨hZ41I, hZ41K, hZ41U⟩
            · replace hP := zE_n hP h32
              obtain ⟨Z43, hZ43⟩ := zx (zu Z30 1 0 0 2 3)
              replace hP := zl_e hP hZ43
              have hZ43I := zM_u hZ30I hZ43 (lo := -2147483648) (hi := 2147483647) (by decide) rfl (by omega) ⟨by decide, by decide⟩ (Or.inr (by decide)) rfl
              have hZ43U : zU [] Z Z43 := zU_u hZ30U hZ43 (Or.inl rfl)
              have hZ43K : zC [1, 2, 101, 102, 200] Z Z43 := zC_u hZ30K hZ43 (by decide)
              intro μ9 e9
              replace e9 := e9.trans (zm_wI (Z := Z30) (ν := ν) hZ43 (show ((0 : Nat) : Int) = 0 from rfl) (show ((0 : Nat) : Int) = 0 from rfl) (show ((2 : Nat) : Int) = 2 from rfl) (show (3 : Int32) = i3 3 from rfl))
              subst e9
              exact zlY hP (show (0 : Int32) = i3 0 from rfl) (.inl rfl) ⟨hZ43I, hZ43K, hZ43U⟩

theorem sq_499 {s : zSM} {Z : qz_Z} {ν : qz_N} (hZ : zM s Z) (gq : Z 1 0 0 35 = 1) (hM : s.2 + 0 ≤ 1000000000) {a1 : Int} (ga1 : -2147483648 ≤ a1 ∧ a1 ≤ 2147483647) {a2 : Int} (ga2 : -2147483648 ≤ a2 ∧ a2 ≤ 2147483647) {ν1 : qz_N} : ∃ (Z1 : qz_Z) (ν2 : qz_N) (v : Int), (Z1, v) = zy_499 Z zq0 a1 a2 ∧ (ν2 = ν ∨ ν2 = ν1) ∧ qf_499 [.inr (.inr (some (1, 0, 0))), .inl (i3 a1), .inl (i3 a2)] (zm Z ν) = some (zm Z1 ν2, .inl (some (.inl (i3 v)))) ∧ (fun Z1 => zM s Z1 ∧ zC [1, 2] Z Z1 ∧ zU [] Z Z1) Z1 := by
  obtain ⟨P, hP⟩ := zx (zy_499 Z zq0 a1 a2)
  refine zc_Y (Q := fun Z1 => zM s Z1 ∧ zC [1, 2] Z Z1 ∧ zU [] Z Z1) hP (fw_499 (i3 a1) (i3 a2) _ _ ?_)
  replace hP : zE P (zy_499 Z zq0 a1 a2) := hP
  unfold zy_499 at hP
  have r1 := zM_k hZ 1 0 0 35 (lo := 0) (hi := 1) (by decide) rfl
  have r2 := zM_k hZ 1 0 0 34 (lo := 0) (hi := 8) (by decide) rfl
  have r3 := zM_f hZ 1 0 0 37
  refine wz_br (i3L (rfl : i3 a1 = i3 a1) (show (0 : Int32) = i3 0 from rfl) (by omega) (by omega) (by omega) (by omega)) (fun h4 => ?_) (fun h4 => ?_)
  · replace hP := zE_p hP h4
    obtain ⟨Z5, hZ5⟩ := zx (zu Z 1 0 0 2 1)
    replace hP := zl_e hP hZ5
    have hZ5I := zM_u hZ hZ5 (lo := -2147483648) (hi := 2147483647) (by decide) rfl (by omega) ⟨by decide, by decide⟩ (Or.inr (by decide)) rfl
    have hZ5U : zU [] Z Z5 := zU_u zU_r hZ5 (Or.inl rfl)
    have hZ5K : zC [1, 2] Z Z5 := zC_u zC_r hZ5 (by decide)
    intro μ9 e9
    replace e9 := e9.trans (zm_wI (Z := Z) (ν := ν) hZ5 (show ((0 : Nat) : Int) = 0 from rfl) (show ((0 : Nat) : Int) = 0 from rfl) (show ((2 : Nat) : Int) = 2 from rfl) (show (1 : Int32) = i3 1 from rfl))
    subst e9
    exact zlY hP (show (0 : Int32) = i3 0 from rfl) (.inl rfl) ⟨hZ5I, hZ5K, hZ5U⟩
  · replace hP := zE_n hP h4
    have r6 := zM_k hZ 2 0 0 3200 (lo := 0) (hi := 4) (by decide) rfl
    refine wz_br (i3L (i3S (zm_rd (Z := Z) (ν := ν) (k := 2) (show ((0 : Nat) : Int) = 0 from rfl) (show ((0 : Nat) : Int) = 0 from rfl) (show ((3200 : Nat) : Int) = 3200 from rfl)) (show (1 : Int32) = i3 1 from rfl)) (rfl : i3 a1 = i3 a1) (by omega) (by omega) (by omega) (by omega)) (fun h7 => ?_) (fun h7 => ?_)
    · replace hP := zE_p hP h7
      obtain ⟨Z8, hZ8⟩ := zx (zu Z 1 0 0 2 1)
      replace hP := zl_e hP hZ8
      have hZ8I := zM_u hZ hZ8 (lo := -2147483648) (hi := 2147483647) (by decide) rfl (by omega) ⟨by decide, by decide⟩ (Or.inr (by decide)) rfl
      have hZ8U : zU [] Z Z8 := zU_u zU_r hZ8 (Or.inl rfl)
      have hZ8K : zC [1, 2] Z Z8 := zC_u zC_r hZ8 (by decide)
      intro μ9 e9
      replace e9 := e9.trans (zm_wI (Z := Z) (ν := ν) hZ8 (show ((0 : Nat) : Int) = 0 from rfl) (show ((0 : Nat) : Int) = 0 from rfl) (show ((2 : Nat) : Int) = 2 from rfl) (show (1 : Int32) = i3 1 from rfl))
      subst e9
      exact zlY hP (show (0 : Int32) = i3 0 from rfl) (.inl rfl) ⟨hZ8I, hZ8K, hZ8U⟩
    · replace hP := zE_n hP h7
      obtain ⟨Z9, hZ9⟩ := zx (zu Z 1 0 0 2 0)
      replace hP := zl_e hP hZ9
      have hZ9I := zM_0 hZ hZ9 (by decide) (Or.inr (by decide))
      have hZ9U : zU [] Z Z9 := zU_u zU_r hZ9 (Or.inl rfl)
      have hZ9K : zC [1, 2] Z Z9 := zC_u zC_r hZ9 (by decide)
      intro μ9 e9
      replace e9 := e9.trans (zm_wI (Z := Z) (ν := ν) hZ9 (show ((0 : Nat) : Int) = 0 from rfl) (show ((0 : Nat) : Int) = 0 from rfl) (show ((2 : Nat) : Int) = 2 from rfl) (show (0 : Int32) = i3 0 from rfl))
      subst e9
      refine wz_br (i3E (rfl : i3 a2 = i3 a2) (show (-1 : Int32) = i3 (-1) from rfl) (by omega) (by omega) (by omega) (by omega)) (fun h10 => ?_) (fun h10 => ?_)
      · replace hP := zE_p hP h10
        obtain ⟨Z11, hZ11⟩ := zx (zu Z9 1 0 0 2 0)
        replace hP := zl_e hP hZ11
        have hZ11I := zM_0 hZ9I hZ11 (by decide) (Or.inr (by decide))
        have hZ11U : zU [] Z Z11 := zU_u hZ9U hZ11 (Or.inl rfl)
        have hZ11K : zC [1, 2] Z Z11 := zC_u hZ9K hZ11 (by decide)
        intro μ9 e9
        replace e9 := e9.trans (zm_wI (Z := Z9) (ν := ν) hZ11 (show ((0 : Nat) : Int) = 0 from rfl) (show ((0 : Nat) : Int) = 0 from rfl) (show ((2 : Nat) : Int) = 2 from rfl) (show (0 : Int32) = i3 0 from rfl))
        subst e9
        refine wz_i0 (i3O (n := 4400) (i3A (i3A (show (3250 : Int32) = i3 3250 from rfl) (i3M (show (24 : Int32) = i3 24 from rfl) (rfl : i3 a1 = i3 a1))) (show (2 : Int32) = i3 2 from rfl)) (by omega) (by omega) (by omega)) ?_
        have r12 := zM_k hZ11I 2 0 0 (3252 + 24 * a1) (lo := 0) (hi := 1) (by decide) (zs_3250_2 (x := a1) (by omega) (by omega) (by omega))
        refine wz_br (i3NE (zm_rd (Z := Z11) (ν := ν) (k := 2) (show ((0 : Nat) : Int) = 0 from rfl) (show ((0 : Nat) : Int) = 0 from rfl) (i3I (y := (3252 + 24 * a1)) (i3A (i3A (show (3250 : Int32) = i3 3250 from rfl) (i3M (show (24 : Int32) = i3 24 from rfl) (rfl : i3 a1 = i3 a1))) (show (2 : Int32) = i3 2 from rfl)) (by omega) (by omega) (by omega))) (show (1 : Int32) = i3 1 from rfl) (by omega) (by omega) (by omega) (by omega)) (fun h13 => ?_) (fun h13 => ?_)
        · replace hP := zE_p hP h13
          obtain ⟨Z14, hZ14⟩ := zx (zu Z11 1 0 0 2 0)
          replace hP := zl_e hP hZ14
          have hZ14I := zM_0 hZ11I hZ14 (by decide) (Or.inr (by decide))
          have hZ14U : zU [] Z Z14 := zU_u hZ11U hZ14 (Or.inl rfl)
          have hZ14K : zC [1, 2] Z Z14 := zC_u hZ11K hZ14 (by decide)
          intro μ9 e9
          replace e9 := e9.trans (zm_wI (Z := Z11) (ν := ν) hZ14 (show ((0 : Nat) : Int) = 0 from rfl) (show ((0 : Nat) : Int) = 0 from rfl) (show ((2 : Nat) : Int) = 2 from rfl) (show (0 : Int32) = i3 0 from rfl))
          subst e9
          have r15 := zM_k hZ14I 1 0 0 35 (lo := 0) (hi := 1) (by decide) rfl
          have q16 := (zu_ne (k' := 1) (b' := 0) (i' := 0) (j' := 35) hZ14 (fun q => absurd q.2.2.2 (by decide))).trans ((zu_ne (k' := 1) (b' := 0) (i' := 0) (j' := 35) hZ11 (fun q => absurd q.2.2.2 (by decide))).trans (zu_ne (k' := 1) (b' := 0) (i' := 0) (j' := 35) hZ9 (fun q => absurd q.2.2.2 (by decide))))
          refine wz_i1 (Eq.trans (i3NE (zm_rd (Z := Z14) (ν := ν) (k := 1) (show ((0 : Nat) : Int) = 0 from rfl) (show ((0 : Nat) : Int) = 0 from rfl) (show ((35 : Nat) : Int) = 35 from rfl)) (show (0 : Int32) = i3 0 from rfl) (by omega) (by omega) (by omega) (by omega)) (decide_eq_true (by omega))) ?_
          replace hP := zl_q hP (rfl : _ = Z14)
          refine wz_i0 (i3O (n := 4400) (i3A (i3A (show (3250 : Int32) = i3 3250 from rfl) (i3M (show (24 : Int32) = i3 24 from rfl) (rfl : i3 a1 = i3 a1))) (show (3 : Int32) = i3 3 from rfl)) (by omega) (by omega) (by omega)) ?_
          refine wz_i0 (i3O (n := 4400) (i3A (i3A (show (3250 : Int32) = i3 3250 from rfl) (i3M (show (24 : Int32) = i3 24 from rfl) (rfl : i3 a1 = i3 a1))) (show (3 : Int32) = i3 3 from rfl)) (by omega) (by omega) (by omega)) ?_
          obtain ⟨Z17, hZ17⟩ := zx (zu Z14 2 0 0 (3253 + 24 * a1) a2)
          replace hP := zl_e hP hZ17
          have hZ17I := zM_u2 hZ14I hZ17 (lo := -1) (hi := 671) (zs_3250_3 (x := a1) (by omega) (by omega) (by omega)) (by omega) ⟨by decide, by decide⟩ (by simp only [zsp]; omega)
          have hZ17U : zU [] Z Z17 := zU_u hZ14U hZ17 (Or.inl rfl)
          have hZ17K : zC [1, 2] Z Z17 := zC_u hZ14K hZ17 (zcl_2w (by omega) rfl)
          intro μ9 e9
          replace e9 := e9.trans (zm_wI (Z := Z14) (ν := ν) hZ17 (show ((0 : Nat) : Int) = 0 from rfl) (show ((0 : Nat) : Int) = 0 from rfl) (i3I (y := (3253 + 24 * a1)) (i3A (i3A (show (3250 : Int32) = i3 3250 from rfl) (i3M (show (24 : Int32) = i3 24 from rfl) (rfl : i3 a1 = i3 a1))) (show (3 : Int32) = i3 3 from rfl)) (by omega) (by omega) (by omega)) (rfl : i3 a2 = i3 a2))
          subst e9
          have r18 := zM_k hZ14I 2 0 0 (3253 + 24 * a1) (lo := -1) (hi := 671) (by decide) (zs_3250_3 (x := a1) (by omega) (by omega) (by omega))
          exact zlY hP (zm_rd (Z := Z14) (ν := ν) (k := 2) (show ((0 : Nat) : Int) = 0 from rfl) (show ((0 : Nat) : Int) = 0 from rfl) (i3I (y := (3253 + 24 * a1)) (i3A (i3A (show (3250 : Int32) = i3 3250 from rfl) (i3M (show (24 : Int32) = i3 24 from rfl) (rfl : i3 a1 = i3 a1))) (show (3 : Int32) = i3 3 from rfl)) (by omega) (by omega) (by omega))) (.inl rfl) ⟨hZ17I, hZ17K, hZ17U⟩
        · replace hP := zE_n hP h13
          obtain ⟨Z19, hZ19⟩ := zx (zu Z11 1 0 0 2 3)
          replace hP := zl_e hP hZ19
          have hZ19I := zM_u hZ11I hZ19 (lo := -2147483648) (hi := 2147483647) (by decide) rfl (by omega) ⟨by decide, by decide⟩ (Or.inr (by decide)) rfl
          have hZ19U : zU [] Z Z19 := zU_u hZ11U hZ19 (Or.inl rfl)
          have hZ19K : zC [1, 2] Z Z19 := zC_u hZ11K hZ19 (by decide)
          intro μ9 e9
          replace e9 := e9.trans (zm_wI (Z := Z11) (ν := ν) hZ19 (show ((0 : Nat) : Int) = 0 from rfl) (show ((0 : Nat) : Int) = 0 from rfl) (show ((2 : Nat) : Int) = 2 from rfl) (show (3 : Int32) = i3 3 from rfl))
          subst e9
          exact zlY hP (show (0 : Int32) = i3 0 from rfl) (.inl rfl) ⟨hZ19I, hZ19K, hZ19U⟩
      · replace hP := zE_n hP h10
        have r20 := zM_k hZ9I 2 0 0 0 (lo := 0) (hi := 671) (by decide) rfl
        refine wz_br (i3L (rfl : i3 a2 = i3 a2) (i3A (zm_rd (Z := Z9) (ν := ν) (k := 2) (show ((0 : Nat) : Int) = 0 from rfl) (show ((0 : Nat) : Int) = 0 from rfl) (show ((0 : Nat) : Int) = 0 from rfl)) (show (1 : Int32) = i3 1 from rfl)) (by omega) (by omega) (by omega) (by omega)) (fun h21 => ?_) (fun h21 => ?_)
        · replace hP := zE_p hP h21
          obtain ⟨Z22, hZ22⟩ := zx (zu Z9 1 0 0 2 2)
          replace hP := zl_e hP hZ22
          have hZ22I := zM_u hZ9I hZ22 (lo := -2147483648) (hi := 2147483647) (by decide) rfl (by omega) ⟨by decide, by decide⟩ (Or.inr (by decide)) rfl
          have hZ22U : zU [] Z Z22 := zU_u hZ9U hZ22 (Or.inl rfl)
          have hZ22K : zC [1, 2] Z Z22 := zC_u hZ9K hZ22 (by decide)
          intro μ9 e9
          replace e9 := e9.trans (zm_wI (Z := Z9) (ν := ν) hZ22 (show ((0 : Nat) : Int) = 0 from rfl) (show ((0 : Nat) : Int) = 0 from rfl) (show ((2 : Nat) : Int) = 2 from rfl) (show (2 : Int32) = i3 2 from rfl))
          subst e9
          exact zlY hP (show (0 : Int32) = i3 0 from rfl) (.inl rfl) ⟨hZ22I, hZ22K, hZ22U⟩
        · replace hP := zE_n hP h21
          refine wz_br (i3L (show (671 : Int32) = i3 671 from rfl) (rfl : i3 a2 = i3 a2) (by omega) (by omega) (by omega) (by omega)) (fun h23 => ?_) (fun h23 => ?_)
          · replace hP := zE_p hP h23
            obtain ⟨Z24, hZ24⟩ := zx (zu Z9 1 0 0 2 2)
            replace hP := zl_e hP hZ24
            have hZ24I := zM_u hZ9I hZ24 (lo := -2147483648) (hi := 2147483647) (by decide) rfl (by omega) ⟨by decide, by decide⟩ (Or.inr (by decide)) rfl
            have hZ24U : zU [] Z Z24 := zU_u hZ9U hZ24 (Or.inl rfl)
            have hZ24K : zC [1, 2] Z Z24 := zC_u hZ9K hZ24 (by decide)
            intro μ9 e9
            replace e9 := e9.trans (zm_wI (Z := Z9) (ν := ν) hZ24 (show ((0 : Nat) : Int) = 0 from rfl) (show ((0 : Nat) : Int) = 0 from rfl) (show ((2 : Nat) : Int) = 2 from rfl) (show (2 : Int32) = i3 2 from rfl))
            subst e9
            exact zlY hP (show (0 : Int32) = i3 0 from rfl) (.inl rfl) ⟨hZ24I, hZ24K, hZ24U⟩
          · replace hP := zE_n hP h23
            obtain ⟨Z25, hZ25⟩ := zx (zu Z9 1 0 0 2 0)
            replace hP := zl_e hP hZ25
            have hZ25I := zM_0 hZ9I hZ25 (by decide) (Or.inr (by decide))
            have hZ25U : zU [] Z Z25 := zU_u hZ9U hZ25 (Or.inl rfl)
            have hZ25K : zC [1, 2] Z Z25 := zC_u hZ9K hZ25 (by decide)
            intro μ9 e9
            replace e9 := e9.trans (zm_wI (Z := Z9) (ν := ν) hZ25 (show ((0 : Nat) : Int) = 0 from rfl) (show ((0 : Nat) : Int) = 0 from rfl) (show ((2 : Nat) : Int) = 2 from rfl) (show (0 : Int32) = i3 0 from rfl))
            subst e9
            refine wz_i0 (i3O (n := 4400) (i3A (i3A (show (3250 : Int32) = i3 3250 from rfl) (i3M (show (24 : Int32) = i3 24 from rfl) (rfl : i3 a1 = i3 a1))) (show (2 : Int32) = i3 2 from rfl)) (by omega) (by omega) (by omega)) ?_
            have r26 := zM_k hZ25I 2 0 0 (3252 + 24 * a1) (lo := 0) (hi := 1) (by decide) (zs_3250_2 (x := a1) (by omega) (by omega) (by omega))
            refine wz_br (i3NE (zm_rd (Z := Z25) (ν := ν) (k := 2) (show ((0 : Nat) : Int) = 0 from rfl) (show ((0 : Nat) : Int) = 0 from rfl) (i3I (y := (3252 + 24 * a1)) (i3A (i3A (show (3250 : Int32) = i3 3250 from rfl) (i3M (show (24 : Int32) = i3 24 from rfl) (rfl : i3 a1 = i3 a1))) (show (2 : Int32) = i3 2 from rfl)) (by omega) (by omega) (by omega))) (show (1 : Int32) = i3 1 from rfl) (by omega) (by omega) (by omega) (by omega)) (fun h27 => ?_) (fun h27 => ?_)
            · replace hP := zE_p hP h27
              obtain ⟨Z28, hZ28⟩ := zx (zu Z25 1 0 0 2 0)
              replace hP := zl_e hP hZ28
              have hZ28I := zM_0 hZ25I hZ28 (by decide) (Or.inr (by decide))
              have hZ28U : zU [] Z Z28 := zU_u hZ25U hZ28 (Or.inl rfl)
              have hZ28K : zC [1, 2] Z Z28 := zC_u hZ25K hZ28 (by decide)
              intro μ9 e9
              replace e9 := e9.trans (zm_wI (Z := Z25) (ν := ν) hZ28 (show ((0 : Nat) : Int) = 0 from rfl) (show ((0 : Nat) : Int) = 0 from rfl) (show ((2 : Nat) : Int) = 2 from rfl) (show (0 : Int32) = i3 0 from rfl))
              subst e9
              have r29 := zM_k hZ28I 1 0 0 35 (lo := 0) (hi := 1) (by decide) rfl
              have q30 := (zu_ne (k' := 1) (b' := 0) (i' := 0) (j' := 35) hZ28 (fun q => absurd q.2.2.2 (by decide))).trans ((zu_ne (k' := 1) (b' := 0) (i' := 0) (j' := 35) hZ25 (fun q => absurd q.2.2.2 (by decide))).trans (zu_ne (k' := 1) (b' := 0) (i' := 0) (j' := 35) hZ9 (fun q => absurd q.2.2.2 (by decide))))
              refine wz_i1 (Eq.trans (i3NE (zm_rd (Z := Z28) (ν := ν) (k := 1) (show ((0 : Nat) : Int) = 0 from rfl) (show ((0 : Nat) : Int) = 0 from rfl) (show ((35 : Nat) : Int) = 35 from rfl)) (show (0 : Int32) = i3 0 from rfl) (by omega) (by omega) (by omega) (by omega)) (decide_eq_true (by omega))) ?_
              replace hP := zl_q hP (rfl : _ = Z28)
              refine wz_i0 (i3O (n := 4400) (i3A (i3A (show (3250 : Int32) = i3 3250 from rfl) (i3M (show (24 : Int32) = i3 24 from rfl) (rfl : i3 a1 = i3 a1))) (show (3 : Int32) = i3 3 from rfl)) (by omega) (by omega) (by omega)) ?_
              refine wz_i0 (i3O (n := 4400) (i3A (i3A (show (3250 : Int32) = i3 3250 from rfl) (i3M (show (24 : Int32) = i3 24 from rfl) (rfl : i3 a1 = i3 a1))) (show (3 : Int32) = i3 3 from rfl)) (by omega) (by omega) (by omega)) ?_
              obtain ⟨Z31, hZ31⟩ := zx (zu Z28 2 0 0 (3253 + 24 * a1) a2)
              replace hP := zl_e hP hZ31
              have hZ31I := zM_u2 hZ28I hZ31 (lo := -1) (hi := 671) (zs_3250_3 (x := a1) (by omega) (by omega) (by omega)) (by omega) ⟨by decide, by decide⟩ (by simp only [zsp]; omega)
              have hZ31U : zU [] Z Z31 := zU_u hZ28U hZ31 (Or.inl rfl)
              have hZ31K : zC [1, 2] Z Z31 := zC_u hZ28K hZ31 (zcl_2w (by omega) rfl)
              intro μ9 e9
              replace e9 := e9.trans (zm_wI (Z := Z28) (ν := ν) hZ31 (show ((0 : Nat) : Int) = 0 from rfl) (show ((0 : Nat) : Int) = 0 from rfl) (i3I (y := (3253 + 24 * a1)) (i3A (i3A (show (3250 : Int32) = i3 3250 from rfl) (i3M (show (24 : Int32) = i3 24 from rfl) (rfl : i3 a1 = i3 a1))) (show (3 : Int32) = i3 3 from rfl)) (by omega) (by omega) (by omega)) (rfl : i3 a2 = i3 a2))
              subst e9
              have r32 := zM_k hZ28I 2 0 0 (3253 + 24 * a1) (lo := -1) (hi := 671) (by decide) (zs_3250_3 (x := a1) (by omega) (by omega) (by omega))
              exact zlY hP (zm_rd (Z := Z28) (ν := ν) (k := 2) (show ((0 : Nat) : Int) = 0 from rfl) (show ((0 : Nat) : Int) = 0 from rfl) (i3I (y := (3253 + 24 * a1)) (i3A (i3A (show (3250 : Int32) = i3 3250 from rfl) (i3M (show (24 : Int32) = i3 24 from rfl) (rfl : i3 a1 = i3 a1))) (show (3 : Int32) = i3 3 from rfl)) (by omega) (by omega) (by omega))) (.inl rfl) ⟨hZ31I, hZ31K, hZ31U⟩
            · replace hP := zE_n hP h27
              obtain ⟨Z33, hZ33⟩ := zx (zu Z25 1 0 0 2 3)
              replace hP := zl_e hP hZ33
              have hZ33I := zM_u hZ25I hZ33 (lo := -2147483648) (hi := 2147483647) (by decide) rfl (by omega) ⟨by decide, by decide⟩ (Or.inr (by decide)) rfl
              have hZ33U : zU [] Z Z33 := zU_u hZ25U hZ33 (Or.inl rfl)
              have hZ33K : zC [1, 2] Z Z33 := zC_u hZ25K hZ33 (by decide)
              intro μ9 e9
              replace e9 := e9.trans (zm_wI (Z := Z25) (ν := ν) hZ33 (show ((0 : Nat) : Int) = 0 from rfl) (show ((0 : Nat) : Int) = 0 from rfl) (show ((2 : Nat) : Int) = 2 from rfl) (show (3 : Int32) = i3 3 from rfl))
              subst e9
              exact zlY hP (show (0 : Int32) = i3 0 from rfl) (.inl rfl) ⟨hZ33I, hZ33K, hZ33U⟩
/- yX12_set -/
def zy_500 (Z : qz_Z) (dm : qz_Z → Int → Int → Int → Int → Int → Int → Int → qz_Z) (a1 : Int) (a2 : Int) : qz_Z × Int := (if a1 < 0 then (zlet (zu Z 1 0 0 2 1) (fun Z5 => (Z5, 0))) else (if ((Z 2 0 0 1200) - 1) < a1 then (zlet (zu Z 1 0 0 2 1) (fun Z8 => (Z8, 0))) else (zlet (zu Z 1 0 0 2 0) (fun Z9 => (if a2 < 0 then (zlet (zu Z9 1 0 0 2 2) (fun Z11 => (Z11, 0))) else (if 40 < a2 then (zlet (zu Z9 1 0 0 2 2) (fun Z13 => (Z13, 0))) else (zlet (zu Z9 1 0 0 2 0) (fun Z14 => (zlet (dm Z14 6 a1 a2 0 0 0 0) (fun Z21 => (zlet (zu Z21 2 0 0 (1213 + 12 * a1) a2) (fun Z22 => (Z22, (Z21 2 0 0 (1213 + 12 * a1)))))))))))))))
theorem sy_500 {s : zSM} {Z : qz_Z} {ν : qz_N} (hZ : zM s Z) (gq : Z 1 0 0 35 = 0) (hM : s.2 + 0 ≤ 1000000000) {a1 : Int} (ga1 : -2147483648 ≤ a1 ∧ a1 ≤ 2147483647) {a2 : Int} (ga2 : -2147483648 ≤ a2 ∧ a2 ≤ 2147483647) {dk : qz_Z → qz_Z} {dm : qz_Z → Int → Int → Int → Int → Int → Int → Int → qz_Z} {ν1 : qz_N} (hdm : zDm s ν ν1 Z dk dm) : ∃ (Z1 : qz_Z) (ν2 : qz_N) (v : Int), (Z1, v) = zy_500 Z dm a1 a2 ∧ (ν2 = ν ∨ ν2 = ν1) ∧ qf_500 [.inr (.inr (some (1, 0, 0))), .inl (i3 a1), .inl (i3 a2)] (zm Z ν) = some (zm Z1 ν2, .inl (some (.inl (i3 v)))) ∧ (fun Z1 => zM s Z1 ∧ zC [1, 2, 101, 102, 200] Z Z1 ∧ zU [] Z Z1) Z1 := by
  obtain ⟨P, hP⟩ := zx (zy_500 Z dm a1 a2)
  refine zc_Y (Q := fun Z1 => zM s Z1 ∧ zC [1, 2, 101, 102, 200] Z Z1 ∧ zU [] Z Z1) hP (fw_500 (i3 a1) (i3 a2) _ _ ?_)
  replace hP : zE P (zy_500 Z dm a1 a2) := hP
  unfold zy_500 at hP
  have r1 := zM_k hZ 1 0 0 35 (lo := 0) (hi := 1) (by decide) rfl
  have r2 := zM_k hZ 1 0 0 34 (lo := 0) (hi := 8) (by decide) rfl
  have r3 := zM_f hZ 1 0 0 37
  refine wz_br (i3L (rfl : i3 a1 = i3 a1) (show (0 : Int32) = i3 0 from rfl) (by omega) (by omega) (by omega) (by omega)) (fun h4 => ?_) (fun h4 => ?_)
  · replace hP := zE_p hP h4
    obtain ⟨Z5, hZ5⟩ := zx (zu Z 1 0 0 2 1)
    replace hP := zl_e hP hZ5
    have hZ5I := zM_u hZ hZ5 (lo := -2147483648) (hi := 2147483647) (by decide) rfl (by omega) ⟨by decide, by decide⟩ (Or.inr (by decide)) rfl
    have hZ5U : zU [] Z Z5 := zU_u zU_r hZ5 (Or.inl rfl)
    have hZ5K : zC [1, 2, 101, 102, 200] Z Z5 := zC_u zC_r hZ5 (by decide)
    intro μ9 e9
    replace e9 := e9.trans (zm_wI (Z := Z) (ν := ν) hZ5 (show ((0 : Nat) : Int) = 0 from rfl) (show ((0 : Nat) : Int) = 0 from rfl) (show ((2 : Nat) : Int) = 2 from rfl) (show (1 : Int32) = i3 1 from rfl))
    subst e9
    exact zlY hP (show (0 : Int32) = i3 0 from rfl) (.inl rfl) ⟨hZ5I, hZ5K, hZ5U⟩
  · replace hP := zE_n hP h4
    have r6 := zM_k hZ 2 0 0 1200 (lo := 0) (hi := 6) (by decide) rfl
    refine wz_br (i3L (i3S (zm_rd (Z := Z) (ν := ν) (k := 2) (show ((0 : Nat) : Int) = 0 from rfl) (show ((0 : Nat) : Int) = 0 from rfl) (show ((1200 : Nat) : Int) = 1200 from rfl)) (show (1 : Int32) = i3 1 from rfl)) (rfl : i3 a1 = i3 a1) (by omega) (by omega) (by omega) (by omega)) (fun h7 => ?_) (fun h7 => ?_)
    · replace hP := zE_p hP h7
      obtain ⟨Z8, hZ8⟩ := zx (zu Z 1 0 0 2 1)
      replace hP := zl_e hP hZ8
      have hZ8I := zM_u hZ hZ8 (lo := -2147483648) (hi := 2147483647) (by decide) rfl (by omega) ⟨by decide, by decide⟩ (Or.inr (by decide)) rfl
      have hZ8U : zU [] Z Z8 := zU_u zU_r hZ8 (Or.inl rfl)
      have hZ8K : zC [1, 2, 101, 102, 200] Z Z8 := zC_u zC_r hZ8 (by decide)
      intro μ9 e9
      replace e9 := e9.trans (zm_wI (Z := Z) (ν := ν) hZ8 (show ((0 : Nat) : Int) = 0 from rfl) (show ((0 : Nat) : Int) = 0 from rfl) (show ((2 : Nat) : Int) = 2 from rfl) (show (1 : Int32) = i3 1 from rfl))
      subst e9
      exact zlY hP (show (0 : Int32) = i3 0 from rfl) (.inl rfl) ⟨hZ8I, hZ8K, hZ8U⟩
    · replace hP := zE_n hP h7
      obtain ⟨Z9, hZ9⟩ := zx (zu Z 1 0 0 2 0)
      replace hP := zl_e hP hZ9
      have hZ9I := zM_0 hZ hZ9 (by decide) (Or.inr (by decide))
      have hZ9U : zU [] Z Z9 := zU_u zU_r hZ9 (Or.inl rfl)
      have hZ9K : zC [1, 2, 101, 102, 200] Z Z9 := zC_u zC_r hZ9 (by decide)
      intro μ9 e9
      replace e9 := e9.trans (zm_wI (Z := Z) (ν := ν) hZ9 (show ((0 : Nat) : Int) = 0 from rfl) (show ((0 : Nat) : Int) = 0 from rfl) (show ((2 : Nat) : Int) = 2 from rfl) (show (0 : Int32) = i3 0 from rfl))
      subst e9
      refine wz_br (i3L (rfl : i3 a2 = i3 a2) (show (0 : Int32) = i3 0 from rfl) (by omega) (by omega) (by omega) (by omega)) (fun h10 => ?_) (fun h10 => ?_)
      · replace hP := zE_p hP h10
        obtain ⟨Z11, hZ11⟩ := zx (zu Z9 1 0 0 2 2)
        replace hP := zl_e hP hZ11
        have hZ11I := zM_u hZ9I hZ11 (lo := -2147483648) (hi := 2147483647) (by decide) rfl (by omega) ⟨by decide, by decide⟩ (Or.inr (by decide)) rfl
        have hZ11U : zU [] Z Z11 := zU_u hZ9U hZ11 (Or.inl rfl)
        have hZ11K : zC [1, 2, 101, 102, 200] Z Z11 := zC_u hZ9K hZ11 (by decide)
        intro μ9 e9
        replace e9 := e9.trans (zm_wI (Z := Z9) (ν := ν) hZ11 (show ((0 : Nat) : Int) = 0 from rfl) (show ((0 : Nat) : Int) = 0 from rfl) (show ((2 : Nat) : Int) = 2 from rfl) (show (2 : Int32) = i3 2 from rfl))
        subst e9
        exact zlY hP (show (0 : Int32) = i3 0 from rfl) (.inl rfl) ⟨hZ11I, hZ11K, hZ11U⟩
      · replace hP := zE_n hP h10
        refine wz_br (i3L (show (40 : Int32) = i3 40 from rfl) (rfl : i3 a2 = i3 a2) (by omega) (by omega) (by omega) (by omega)) (fun h12 => ?_) (fun h12 => ?_)
        · replace hP := zE_p hP h12
          obtain ⟨Z13, hZ13⟩ := zx (zu Z9 1 0 0 2 2)
          replace hP := zl_e hP hZ13
          have hZ13I := zM_u hZ9I hZ13 (lo := -2147483648) (hi := 2147483647) (by decide) rfl (by omega) ⟨by decide, by decide⟩ (Or.inr (by decide)) rfl
          have hZ13U : zU [] Z Z13 := zU_u hZ9U hZ13 (Or.inl rfl)
          have hZ13K : zC [1, 2, 101, 102, 200] Z Z13 := zC_u hZ9K hZ13 (by decide)
          intro μ9 e9
          replace e9 := e9.trans (zm_wI (Z := Z9) (ν := ν) hZ13 (show ((0 : Nat) : Int) = 0 from rfl) (show ((0 : Nat) : Int) = 0 from rfl) (show ((2 : Nat) : Int) = 2 from rfl) (show (2 : Int32) = i3 2 from rfl))
          subst e9
          exact zlY hP (show (0 : Int32) = i3 0 from rfl) (.inl rfl) ⟨hZ13I, hZ13K, hZ13U⟩
        · replace hP := zE_n hP h12
          obtain ⟨Z14, hZ14⟩ := zx (zu Z9 1 0 0 2 0)
          replace hP := zl_e hP hZ14
          have hZ14I := zM_0 hZ9I hZ14 (by decide) (Or.inr (by decide))
          have hZ14U : zU [] Z Z14 := zU_u hZ9U hZ14 (Or.inl rfl)
          have hZ14K : zC [1, 2, 101, 102, 200] Z Z14 := zC_u hZ9K hZ14 (by decide)
          intro μ9 e9
          replace e9 := e9.trans (zm_wI (Z := Z9) (ν := ν) hZ14 (show ((0 : Nat) : Int) = 0 from rfl) (show ((0 : Nat) : Int) = 0 from rfl) (show ((2 : Nat) : Int) = 2 from rfl) (show (0 : Int32) = i3 0 from rfl))
          subst e9
          have r15 := zM_k hZ14I 1 0 0 35 (lo := 0) (hi := 1) (by decide) rfl
          have q16 := (zu_ne (k' := 1) (b' := 0) (i' := 0) (j' := 35) hZ14 (fun q => absurd q.2.2.2 (by decide))).trans (zu_ne (k' := 1) (b' := 0) (i' := 0) (j' := 35) hZ9 (fun q => absurd q.2.2.2 (by decide)))
          refine wz_i0 (Eq.trans (i3NE (zm_rd (Z := Z14) (ν := ν) (k := 1) (show ((0 : Nat) : Int) = 0 from rfl) (show ((0 : Nat) : Int) = 0 from rfl) (show ((35 : Nat) : Int) = 35 from rfl)) (show (0 : Int32) = i3 0 from rfl) (by omega) (by omega) (by omega) (by omega)) (decide_eq_false (by omega))) ?_
          have r17 := zM_k hZ14I 1 0 0 34 (lo := 0) (hi := 8) (by decide) rfl
          have q18 := (zu_ne (k' := 1) (b' := 0) (i' := 0) (j' := 34) hZ14 (fun q => absurd q.2.2.2 (by decide))).trans (zu_ne (k' := 1) (b' := 0) (i' := 0) (j' := 34) hZ9 (fun q => absurd q.2.2.2 (by decide)))
          have r19 := zM_f hZ14I 1 0 0 37
          have q20 := (zu_ne (k' := 1) (b' := 0) (i' := 0) (j' := 37) hZ14 (fun q => absurd q.2.2.2 (by decide))).trans (zu_ne (k' := 1) (b' := 0) (i' := 0) (j' := 37) hZ9 (fun q => absurd q.2.2.2 (by decide)))
          obtain ⟨c8, c9, hZ21I, dZ21⟩ := hdm Z14 6 a1 a2 0 0 0 0 hZ14I (by omega) (by omega) (by omega) (by omega) (by omega) (by omega) (by omega) (by omega) (by omega) (by omega)
          obtain ⟨Z21, hZ21⟩ := zx (dm Z14 6 a1 a2 0 0 0 0)
          rw [← hZ21] at c9 hZ21I dZ21
          replace hP := zl_e hP hZ21
          refine wz_cV_of (zas (zcons rfl (zcons (zvi (show (-1 : Int32) = i3 (-1) from rfl)) rfl)) c8) ?_
          refine wz_cV_of (zas (zcons rfl (zcons (zvi (show (6 : Int32) = i3 6 from rfl)) (zcons (zvi (rfl : i3 a1 = i3 a1)) (zcons (zvi (rfl : i3 a2 = i3 a2)) (zcons (zvi (show (0 : Int32) = i3 0 from rfl)) (zcons (zvi (show (0 : Int32) = i3 0 from rfl)) (zcons (zvi (show (0 : Int32) = i3 0 from rfl)) (zcons (zvi (show (0 : Int32) = i3 0 from rfl)) rfl)))))))) c9) ?_
          clear c8 c9
          have hZ21K : zC [1, 2, 101, 102, 200] Z Z21 := zC_t hZ14K (zMd_C dZ21) (by decide)
          have hZ21U : zU [] Z Z21 := zU_t hZ14U (zMd_U dZ21) zU_b0
          refine wz_i0 (i3O (n := 4400) (i3A (i3A (show (1210 : Int32) = i3 1210 from rfl) (i3M (show (12 : Int32) = i3 12 from rfl) (rfl : i3 a1 = i3 a1))) (show (3 : Int32) = i3 3 from rfl)) (by omega) (by omega) (by omega)) ?_
          refine wz_i0 (i3O (n := 4400) (i3A (i3A (show (1210 : Int32) = i3 1210 from rfl) (i3M (show (12 : Int32) = i3 12 from rfl) (rfl : i3 a1 = i3 a1))) (show (3 : Int32) = i3 3 from rfl)) (by omega) (by omega) (by omega)) ?_
          obtain ⟨Z22, hZ22⟩ := zx (zu Z21 2 0 0 (1213 + 12 * a1) a2)
          replace hP := zl_e hP hZ22
          have hZ22I := zM_u2 hZ21I hZ22 (lo := 0) (hi := 40) (zs_1210_3 (x := a1) (by omega) (by omega) (by omega)) (by omega) ⟨by decide, by decide⟩ (by simp only [zsp]; omega)
          have hZ22U : zU [] Z Z22 := zU_u hZ21U hZ22 (Or.inl rfl)
          have hZ22K : zC [1, 2, 101, 102, 200] Z Z22 := zC_u hZ21K hZ22 (zcl_2w (by omega) rfl)
          intro μ9 e9
          replace e9 := e9.trans (zm_wI (Z := Z21) (ν := ν1) hZ22 (show ((0 : Nat) : Int) = 0 from rfl) (show ((0 : Nat) : Int) = 0 from rfl) (i3I (y := (1213 + 12 * a1)) (i3A (i3A (show (1210 : Int32) = i3 1210 from rfl) (i3M (show (12 : Int32) = i3 12 from rfl) (rfl : i3 a1 = i3 a1))) (show (3 : Int32) = i3 3 from rfl)) (by omega) (by omega) (by omega)) (rfl : i3 a2 = i3 a2))
          subst e9
          have r23 := zM_k hZ21I 2 0 0 (1213 + 12 * a1) (lo := 0) (hi := 40) (by decide) (zs_1210_3 (x := a1) (by omega) (by omega) (by omega))
          exact zlY hP (zm_rd (Z := Z21) (ν := ν1) (k := 2) (show ((0 : Nat) : Int) = 0 from rfl) (show ((0 : Nat) : Int) = 0 from rfl) (i3I (y := (1213 + 12 * a1)) (i3A (i3A (show (1210 : Int32) = i3 1210 from rfl) (i3M (show (12 : Int32) = i3 12 from rfl) (rfl : i3 a1 = i3 a1))) (show (3 : Int32) = i3 3 from rfl)) (by omega) (by omega) (by omega))) (.inr rfl) ⟨hZ22I, hZ22K, hZ22U⟩

theorem sq_500 {s : zSM} {Z : qz_Z} {ν : qz_N} (hZ : zM s Z) (gq : Z 1 0 0 35 = 1) (hM : s.2 + 0 ≤ 1000000000) {a1 : Int} (ga1 : -2147483648 ≤ a1 ∧ a1 ≤ 2147483647) {a2 : Int} (ga2 : -2147483648 ≤ a2 ∧ a2 ≤ 2147483647) {ν1 : qz_N} : ∃ (Z1 : qz_Z) (ν2 : qz_N) (v : Int), (Z1, v) = zy_500 Z zq0 a1 a2 ∧ (ν2 = ν ∨ ν2 = ν1) ∧ qf_500 [.inr (.inr (some (1, 0, 0))), .inl (i3 a1), .inl (i3 a2)] (zm Z ν) = some (zm Z1 ν2, .inl (some (.inl (i3 v)))) ∧ (fun Z1 => zM s Z1 ∧ zC [1, 2] Z Z1 ∧ zU [] Z Z1) Z1 := by
  obtain ⟨P, hP⟩ := zx (zy_500 Z zq0 a1 a2)
  refine zc_Y (Q := fun Z1 => zM s Z1 ∧ zC [1, 2] Z Z1 ∧ zU [] Z Z1) hP (fw_500 (i3 a1) (i3 a2) _ _ ?_)
  replace hP : zE P (zy_500 Z zq0 a1 a2) := hP
  unfold zy_500 at hP
  have r1 := zM_k hZ 1 0 0 35 (lo := 0) (hi := 1) (by decide) rfl
  have r2 := zM_k hZ 1 0 0 34 (lo := 0) (hi := 8) (by decide) rfl
  have r3 := zM_f hZ 1 0 0 37
  refine wz_br (i3L (rfl : i3 a1 = i3 a1) (show (0 : Int32) = i3 0 from rfl) (by omega) (by omega) (by omega) (by omega)) (fun h4 => ?_) (fun h4 => ?_)
  · replace hP := zE_p hP h4
    obtain ⟨Z5, hZ5⟩ := zx (zu Z 1 0 0 2 1)
    replace hP := zl_e hP hZ5
    have hZ5I := zM_u hZ hZ5 (lo := -2147483648) (hi := 2147483647) (by decide) rfl (by omega) ⟨by decide, by decide⟩ (Or.inr (by decide)) rfl
    have hZ5U : zU [] Z Z5 := zU_u zU_r hZ5 (Or.inl rfl)
    have hZ5K : zC [1, 2] Z Z5 := zC_u zC_r hZ5 (by decide)
    intro μ9 e9
    replace e9 := e9.trans (zm_wI (Z := Z) (ν := ν) hZ5 (show ((0 : Nat) : Int) = 0 from rfl) (show ((0 : Nat) : Int) = 0 from rfl) (show ((2 : Nat) : Int) = 2 from rfl) (show (1 : Int32) = i3 1 from rfl))
    subst e9
    exact zlY hP (show (0 : Int32) = i3 0 from rfl) (.inl rfl) ⟨hZ5I, hZ5K, hZ5U⟩
  · replace hP := zE_n hP h4
    have r6 := zM_k hZ 2 0 0 1200 (lo := 0) (hi := 6) (by decide) rfl
    refine wz_br (i3L (i3S (zm_rd (Z := Z) (ν := ν) (k := 2) (show ((0 : Nat) : Int) = 0 from rfl) (show ((0 : Nat) : Int) = 0 from rfl) (show ((1200 : Nat) : Int) = 1200 from rfl)) (show (1 : Int32) = i3 1 from rfl)) (rfl : i3 a1 = i3 a1) (by omega) (by omega) (by omega) (by omega)) (fun h7 => ?_) (fun h7 => ?_)
    · replace hP := zE_p hP h7
      obtain ⟨Z8, hZ8⟩ := zx (zu Z 1 0 0 2 1)
      replace hP := zl_e hP hZ8
      have hZ8I := zM_u hZ hZ8 (lo := -2147483648) (hi := 2147483647) (by decide) rfl (by omega) ⟨by decide, by decide⟩ (Or.inr (by decide)) rfl
      have hZ8U : zU [] Z Z8 := zU_u zU_r hZ8 (Or.inl rfl)
      have hZ8K : zC [1, 2] Z Z8 := zC_u zC_r hZ8 (by decide)
      intro μ9 e9
      replace e9 := e9.trans (zm_wI (Z := Z) (ν := ν) hZ8 (show ((0 : Nat) : Int) = 0 from rfl) (show ((0 : Nat) : Int) = 0 from rfl) (show ((2 : Nat) : Int) = 2 from rfl) (show (1 : Int32) = i3 1 from rfl))
      subst e9
      exact zlY hP (show (0 : Int32) = i3 0 from rfl) (.inl rfl) ⟨hZ8I, hZ8K, hZ8U⟩
    · replace hP := zE_n hP h7
      obtain ⟨Z9, hZ9⟩ := zx (zu Z 1 0 0 2 0)
      replace hP := zl_e hP hZ9
      have hZ9I := zM_0 hZ hZ9 (by decide) (Or.inr (by decide))
      have hZ9U : zU [] Z Z9 := zU_u zU_r hZ9 (Or.inl rfl)
      have hZ9K : zC [1, 2] Z Z9 := zC_u zC_r hZ9 (by decide)
      intro μ9 e9
      replace e9 := e9.trans (zm_wI (Z := Z) (ν := ν) hZ9 (show ((0 : Nat) : Int) = 0 from rfl) (show ((0 : Nat) : Int) = 0 from rfl) (show ((2 : Nat) : Int) = 2 from rfl) (show (0 : Int32) = i3 0 from rfl))
      subst e9
      refine wz_br (i3L (rfl : i3 a2 = i3 a2) (show (0 : Int32) = i3 0 from rfl) (by omega) (by omega) (by omega) (by omega)) (fun h10 => ?_) (fun h10 => ?_)
      · replace hP := zE_p hP h10
        obtain ⟨Z11, hZ11⟩ := zx (zu Z9 1 0 0 2 2)
        replace hP := zl_e hP hZ11
        have hZ11I := zM_u hZ9I hZ11 (lo := -2147483648) (hi := 2147483647) (by decide) rfl (by omega) ⟨by decide, by decide⟩ (Or.inr (by decide)) rfl
        have hZ11U : zU [] Z Z11 := zU_u hZ9U hZ11 (Or.inl rfl)
        have hZ11K : zC [1, 2] Z Z11 := zC_u hZ9K hZ11 (by decide)
        intro μ9 e9
        replace e9 := e9.trans (zm_wI (Z := Z9) (ν := ν) hZ11 (show ((0 : Nat) : Int) = 0 from rfl) (show ((0 : Nat) : Int) = 0 from rfl) (show ((2 : Nat) : Int) = 2 from rfl) (show (2 : Int32) = i3 2 from rfl))
        subst e9
        exact zlY hP (show (0 : Int32) = i3 0 from rfl) (.inl rfl) ⟨hZ11I, hZ11K, hZ11U⟩
      · replace hP := zE_n hP h10
        refine wz_br (i3L (show (40 : Int32) = i3 40 from rfl) (rfl : i3 a2 = i3 a2) (by omega) (by omega) (by omega) (by omega)) (fun h12 => ?_) (fun h12 => ?_)
        · replace hP := zE_p hP h12
          obtain ⟨Z13, hZ13⟩ := zx (zu Z9 1 0 0 2 2)
          replace hP := zl_e hP hZ13
          have hZ13I := zM_u hZ9I hZ13 (lo := -2147483648) (hi := 2147483647) (by decide) rfl (by omega) ⟨by decide, by decide⟩ (Or.inr (by decide)) rfl
          have hZ13U : zU [] Z Z13 := zU_u hZ9U hZ13 (Or.inl rfl)
          have hZ13K : zC [1, 2] Z Z13 := zC_u hZ9K hZ13 (by decide)
          intro μ9 e9
          replace e9 := e9.trans (zm_wI (Z := Z9) (ν := ν) hZ13 (show ((0 : Nat) : Int) = 0 from rfl) (show ((0 : Nat) : Int) = 0 from rfl) (show ((2 : Nat) : Int) = 2 from rfl) (show (2 : Int32) = i3 2 from rfl))
          subst e9
          exact zlY hP (show (0 : Int32) = i3 0 from rfl) (.inl rfl) ⟨hZ13I, hZ13K, hZ13U⟩
        · replace hP := zE_n hP h12
          obtain ⟨Z14, hZ14⟩ := zx (zu Z9 1 0 0 2 0)
          replace hP := zl_e hP hZ14
          have hZ14I := zM_0 hZ9I hZ14 (by decide) (Or.inr (by decide))
          have hZ14U : zU [] Z Z14 := zU_u hZ9U hZ14 (Or.inl rfl)
          have hZ14K : zC [1, 2] Z Z14 := zC_u hZ9K hZ14 (by decide)
          intro μ9 e9
          replace e9 := e9.trans (zm_wI (Z := Z9) (ν := ν) hZ14 (show ((0 : Nat) : Int) = 0 from rfl) (show ((0 : Nat) : Int) = 0 from rfl) (show ((2 : Nat) : Int) = 2 from rfl) (show (0 : Int32) = i3 0 from rfl))
          subst e9
          have r15 := zM_k hZ14I 1 0 0 35 (lo := 0) (hi := 1) (by decide) rfl
          have q16 := (zu_ne (k' := 1) (b' := 0) (i' := 0) (j' := 35) hZ14 (fun q => absurd q.2.2.2 (by decide))).trans (zu_ne (k' := 1) (b' := 0) (i' := 0) (j' := 35) hZ9 (fun q => absurd q.2.2.2 (by decide)))
          refine wz_i1 (Eq.trans (i3NE (zm_rd (Z := Z14) (ν := ν) (k := 1) (show ((0 : Nat) : Int) = 0 from rfl) (show ((0 : Nat) : Int) = 0 from rfl) (show ((35 : Nat) : Int) = 35 from rfl)) (show (0 : Int32) = i3 0 from rfl) (by omega) (by omega) (by omega) (by omega)) (decide_eq_true (by omega))) ?_
          replace hP := zl_q hP (rfl : _ = Z14)
          refine wz_i0 (i3O (n := 4400) (i3A (i3A (show (1210 : Int32) = i3 1210 from rfl) (i3M (show (12 : Int32) = i3 12 from rfl) (rfl : i3 a1 = i3 a1))) (show (3 : Int32) = i3 3 from rfl)) (by omega) (by omega) (by omega)) ?_
          refine wz_i0 (i3O (n := 4400) (i3A (i3A (show (1210 : Int32) = i3 1210 from rfl) (i3M (show (12 : Int32) = i3 12 from rfl) (rfl : i3 a1 = i3 a1))) (show (3 : Int32) = i3 3 from rfl)) (by omega) (by omega) (by omega)) ?_
          obtain ⟨Z17, hZ17⟩ := zx (zu Z14 2 0 0 (1213 + 12 * a1) a2)
          replace hP := zl_e hP hZ17
          have hZ17I := zM_u2 hZ14I hZ17 (lo := 0) (hi := 40) (zs_1210_3 (x := a1) (by omega) (by omega) (by omega)) (by omega) ⟨by decide, by decide⟩ (by simp only [zsp]; omega)
          have hZ17U : zU [] Z Z17 := zU_u hZ14U hZ17 (Or.inl rfl)
          have hZ17K : zC [1, 2] Z Z17 := zC_u hZ14K hZ17 (zcl_2w (by omega) rfl)
          intro μ9 e9
          replace e9 := e9.trans (zm_wI (Z := Z14) (ν := ν) hZ17 (show ((0 : Nat) : Int) = 0 from rfl) (show ((0 : Nat) : Int) = 0 from rfl) (i3I (y := (1213 + 12 * a1)) (i3A (i3A (show (1210 : Int32) = i3 1210 from rfl) (i3M (show (12 : Int32) = i3 12 from rfl) (rfl : i3 a1 = i3 a1))) (show (3 : Int32) = i3 3 from rfl)) (by omega) (by omega) (by omega)) (rfl : i3 a2 = i3 a2))
          subst e9
          have r18 := zM_k hZ14I 2 0 0 (1213 + 12 * a1) (lo := 0) (hi := 40) (by decide) (zs_1210_3 (x := a1) (by omega) (by omega) (by omega))
          exact zlY hP (zm_rd (Z := Z14) (ν := ν) (k := 2) (show ((0 : Nat) : Int) = 0 from rfl) (show ((0 : Nat) : Int) = 0 from rfl) (i3I (y := (1213 + 12 * a1)) (i3A (i3A (show (1210 : Int32) = i3 1210 from rfl) (i3M (show (12 : Int32) = i3 12 from rfl) (rfl : i3 a1 = i3 a1))) (show (3 : Int32) = i3 3 from rfl)) (by omega) (by omega) (by omega))) (.inl rfl) ⟨hZ17I, hZ17K, hZ17U⟩
/- yX12_shares -/
def zy_501 (Z : qz_Z) (a1 : Int) (a2 : Int) (a3 : Int) (a4 : Int) (a5 : Int) : qz_Z × Int := (if a1 < 0 then (zlet (zu Z 1 0 0 2 1) (fun Z5 => (Z5, 0))) else (if 999999 < a1 then (zlet (zu Z 1 0 0 2 1) (fun Z7 => (Z7, 0))) else (if a2 < 0 then (zlet (zu Z 1 0 0 2 1) (fun Z9 => (Z9, 0))) else (if 999 < a2 then (zlet (zu Z 1 0 0 2 1) (fun Z11 => (Z11, 0))) else (if a3 < 0 then (zlet (zu Z 1 0 0 2 1) (fun Z13 => (Z13, 0))) else (if 999 < a3 then (zlet (zu Z 1 0 0 2 1) (fun Z15 => (Z15, 0))) else (if a4 < 0 then (zlet (zu Z 1 0 0 2 1) (fun Z17 => (Z17, 0))) else (if 999 < a4 then (zlet (zu Z 1 0 0 2 1) (fun Z19 => (Z19, 0))) else (if a5 < 0 then (zlet (zu Z 1 0 0 2 1) (fun Z21 => (Z21, 0))) else (if 2 < a5 then (zlet (zu Z 1 0 0 2 1) (fun Z23 => (Z23, 0))) else (if ((a2 + a3) + a4) ≤ 0 then (zlet (zu Z 1 0 0 2 1) (fun Z25 => (Z25, 0))) else (zlet (zu Z 1 0 0 2 0) (fun Z26 => (zlet (zf_418 Z26 a1 a2 a3 a4 a5) (fun v27 => (Z26, v27))))))))))))))))
theorem sy_501 {s : zSM} {Z : qz_Z} {ν : qz_N} (hZ : zM s Z) (gq : Z 1 0 0 35 = 0) (hM : s.2 + 0 ≤ 1000000000) {a1 : Int} (ga1 : -2147483648 ≤ a1 ∧ a1 ≤ 2147483647) {a2 : Int} (ga2 : -2147483648 ≤ a2 ∧ a2 ≤ 2147483647) {a3 : Int} (ga3 : -2147483648 ≤ a3 ∧ a3 ≤ 2147483647) {a4 : Int} (ga4 : -2147483648 ≤ a4 ∧ a4 ≤ 2147483647) {a5 : Int} (ga5 : -2147483648 ≤ a5 ∧ a5 ≤ 2147483647) {ν1 : qz_N} : ∃ (Z1 : qz_Z) (ν2 : qz_N) (v : Int), (Z1, v) = zy_501 Z a1 a2 a3 a4 a5 ∧ (ν2 = ν ∨ ν2 = ν1) ∧ qf_501 [.inr (.inr (some (1, 0, 0))), .inl (i3 a1), .inl (i3 a2), .inl (i3 a3), .inl (i3 a4), .inl (i3 a5)] (zm Z ν) = some (zm Z1 ν2, .inl (some (.inl (i3 v)))) ∧ (fun Z1 => zM s Z1 ∧ zC [1] Z Z1 ∧ zU [] Z Z1) Z1 := by
  obtain ⟨P, hP⟩ := zx (zy_501 Z a1 a2 a3 a4 a5)
  refine zc_Y (Q := fun Z1 => zM s Z1 ∧ zC [1] Z Z1 ∧ zU [] Z Z1) hP (fw_501 (i3 a1) (i3 a2) (i3 a3) (i3 a4) (i3 a5) _ _ ?_)
  replace hP : zE P (zy_501 Z a1 a2 a3 a4 a5) := hP
  unfold zy_501 at hP
  have r1 := zM_k hZ 1 0 0 35 (lo := 0) (hi := 1) (by decide) rfl
  have r2 := zM_k hZ 1 0 0 34 (lo := 0) (hi := 8) (by decide) rfl
  have r3 := zM_f hZ 1 0 0 37
  refine wz_br (i3L (rfl : i3 a1 = i3 a1) (show (0 : Int32) = i3 0 from rfl) (by omega) (by omega) (by omega) (by omega)) (fun h4 => ?_) (fun h4 => ?_)
  · replace hP := zE_p hP h4
    obtain ⟨Z5, hZ5⟩ := zx (zu Z 1 0 0 2 1)
    replace hP := zl_e hP hZ5
    have hZ5I := zM_u hZ hZ5 (lo := -2147483648) (hi := 2147483647) (by decide) rfl (by omega) ⟨by decide, by decide⟩ (Or.inr (by decide)) rfl
    have hZ5U : zU [] Z Z5 := zU_u zU_r hZ5 (Or.inl rfl)
    have hZ5K : zC [1] Z Z5 := zC_u zC_r hZ5 (by decide)
    intro μ9 e9
    replace e9 := e9.trans (zm_wI (Z := Z) (ν := ν) hZ5 (show ((0 : Nat) : Int) = 0 from rfl) (show ((0 : Nat) : Int) = 0 from rfl) (show ((2 : Nat) : Int) = 2 from rfl) (show (1 : Int32) = i3 1 from rfl))
    subst e9
    exact zlY hP (show (0 : Int32) = i3 0 from rfl) (.inl rfl) ⟨hZ5I, hZ5K, hZ5U⟩
  · replace hP := zE_n hP h4
    refine wz_br (i3L (show (999999 : Int32) = i3 999999 from rfl) (rfl : i3 a1 = i3 a1) (by omega) (by omega) (by omega) (by omega)) (fun h6 => ?_) (fun h6 => ?_)
    · replace hP := zE_p hP h6
      obtain ⟨Z7, hZ7⟩ := zx (zu Z 1 0 0 2 1)
      replace hP := zl_e hP hZ7
      have hZ7I := zM_u hZ hZ7 (lo := -2147483648) (hi := 2147483647) (by decide) rfl (by omega) ⟨by decide, by decide⟩ (Or.inr (by decide)) rfl
      have hZ7U : zU [] Z Z7 := zU_u zU_r hZ7 (Or.inl rfl)
      have hZ7K : zC [1] Z Z7 := zC_u zC_r hZ7 (by decide)
      intro μ9 e9
      replace e9 := e9.trans (zm_wI (Z := Z) (ν := ν) hZ7 (show ((0 : Nat) : Int) = 0 from rfl) (show ((0 : Nat) : Int) = 0 from rfl) (show ((2 : Nat) : Int) = 2 from rfl) (show (1 : Int32) = i3 1 from rfl))
      subst e9
      exact zlY hP (show (0 : Int32) = i3 0 from rfl) (.inl rfl) ⟨hZ7I, hZ7K, hZ7U⟩
    · replace hP := zE_n hP h6
      refine wz_br (i3L (rfl : i3 a2 = i3 a2) (show (0 : Int32) = i3 0 from rfl) (by omega) (by omega) (by omega) (by omega)) (fun h8 => ?_) (fun h8 => ?_)
      · replace hP := zE_p hP h8
        obtain ⟨Z9, hZ9⟩ := zx (zu Z 1 0 0 2 1)
        replace hP := zl_e hP hZ9
        have hZ9I := zM_u hZ hZ9 (lo := -2147483648) (hi := 2147483647) (by decide) rfl (by omega) ⟨by decide, by decide⟩ (Or.inr (by decide)) rfl
        have hZ9U : zU [] Z Z9 := zU_u zU_r hZ9 (Or.inl rfl)
        have hZ9K : zC [1] Z Z9 := zC_u zC_r hZ9 (by decide)
        intro μ9 e9
        replace e9 := e9.trans (zm_wI (Z := Z) (ν := ν) hZ9 (show ((0 : Nat) : Int) = 0 from rfl) (show ((0 : Nat) : Int) = 0 from rfl) (show ((2 : Nat) : Int) = 2 from rfl) (show (1 : Int32) = i3 1 from rfl))
        subst e9
        exact zlY hP (show (0 : Int32) = i3 0 from rfl) (.inl rfl) ⟨hZ9I, hZ9K, hZ9U⟩
      · replace hP := zE_n hP h8
        refine wz_br (i3L (show (999 : Int32) = i3 999 from rfl) (rfl : i3 a2 = i3 a2) (by omega) (by omega) (by omega) (by omega)) (fun h10 => ?_) (fun h10 => ?_)
        · replace hP := zE_p hP h10
          obtain ⟨Z11, hZ11⟩ := zx (zu Z 1 0 0 2 1)
          replace hP := zl_e hP hZ11
          have hZ11I := zM_u hZ hZ11 (lo := -2147483648) (hi := 2147483647) (by decide) rfl (by omega) ⟨by decide, by decide⟩ (Or.inr (by decide)) rfl
          have hZ11U : zU [] Z Z11 := zU_u zU_r hZ11 (Or.inl rfl)
          have hZ11K : zC [1] Z Z11 := zC_u zC_r hZ11 (by decide)
          intro μ9 e9
          replace e9 := e9.trans (zm_wI (Z := Z) (ν := ν) hZ11 (show ((0 : Nat) : Int) = 0 from rfl) (show ((0 : Nat) : Int) = 0 from rfl) (show ((2 : Nat) : Int) = 2 from rfl) (show (1 : Int32) = i3 1 from rfl))
          subst e9
          exact zlY hP (show (0 : Int32) = i3 0 from rfl) (.inl rfl) ⟨hZ11I, hZ11K, hZ11U⟩
        · replace hP := zE_n hP h10
          refine wz_br (i3L (rfl : i3 a3 = i3 a3) (show (0 : Int32) = i3 0 from rfl) (by omega) (by omega) (by omega) (by omega)) (fun h12 => ?_) (fun h12 => ?_)
          · replace hP := zE_p hP h12
            obtain ⟨Z13, hZ13⟩ := zx (zu Z 1 0 0 2 1)
            replace hP := zl_e hP hZ13
            have hZ13I := zM_u hZ hZ13 (lo := -2147483648) (hi := 2147483647) (by decide) rfl (by omega) ⟨by decide, by decide⟩ (Or.inr (by decide)) rfl
            have hZ13U : zU [] Z Z13 := zU_u zU_r hZ13 (Or.inl rfl)
            have hZ13K : zC [1] Z Z13 := zC_u zC_r hZ13 (by decide)
            intro μ9 e9
            replace e9 := e9.trans (zm_wI (Z := Z) (ν := ν) hZ13 (show ((0 : Nat) : Int) = 0 from rfl) (show ((0 : Nat) : Int) = 0 from rfl) (show ((2 : Nat) : Int) = 2 from rfl) (show (1 : Int32) = i3 1 from rfl))
            subst e9
            exact zlY hP (show (0 : Int32) = i3 0 from rfl) (.inl rfl) ⟨hZ13I, hZ13K, hZ13U⟩
          · replace hP := zE_n hP h12
            refine wz_br (i3L (show (999 : Int32) = i3 999 from rfl) (rfl : i3 a3 = i3 a3) (by omega) (by omega) (by omega) (by omega)) (fun h14 => ?_) (fun h14 => ?_)
            · replace hP := zE_p hP h14
              obtain ⟨Z15, hZ15⟩ := zx (zu Z 1 0 0 2 1)
              replace hP := zl_e hP hZ15
              have hZ15I := zM_u hZ hZ15 (lo := -2147483648) (hi := 2147483647) (by decide) rfl (by omega) ⟨by decide, by decide⟩ (Or.inr (by decide)) rfl
              have hZ15U : zU [] Z Z15 := zU_u zU_r hZ15 (Or.inl rfl)
              have hZ15K : zC [1] Z Z15 := zC_u zC_r hZ15 (by decide)
              intro μ9 e9
              replace e9 := e9.trans (zm_wI (Z := Z) (ν := ν) hZ15 (show ((0 : Nat) : Int) = 0 from rfl) (show ((0 : Nat) : Int) = 0 from rfl) (show ((2 : Nat) : Int) = 2 from rfl) (show (1 : Int32) = i3 1 from rfl))
              subst e9
              exact zlY hP (show (0 : Int32) = i3 0 from rfl) (.inl rfl) ⟨hZ15I, hZ15K, hZ15U⟩
            · replace hP := zE_n hP h14
              refine wz_br (i3L (rfl : i3 a4 = i3 a4) (show (0 : Int32) = i3 0 from rfl) (by omega) (by omega) (by omega) (by omega)) (fun h16 => ?_) (fun h16 => ?_)
              · replace hP := zE_p hP h16
                obtain ⟨Z17, hZ17⟩ := zx (zu Z 1 0 0 2 1)
                replace hP := zl_e hP hZ17
                have hZ17I := zM_u hZ hZ17 (lo := -2147483648) (hi := 2147483647) (by decide) rfl (by omega) ⟨by decide, by decide⟩ (Or.inr (by decide)) rfl
                have hZ17U : zU [] Z Z17 := zU_u zU_r hZ17 (Or.inl rfl)
                have hZ17K : zC [1] Z Z17 := zC_u zC_r hZ17 (by decide)
                intro μ9 e9
                replace e9 := e9.trans (zm_wI (Z := Z) (ν := ν) hZ17 (show ((0 : Nat) : Int) = 0 from rfl) (show ((0 : Nat) : Int) = 0 from rfl) (show ((2 : Nat) : Int) = 2 from rfl) (show (1 : Int32) = i3 1 from rfl))
                subst e9
                exact zlY hP (show (0 : Int32) = i3 0 from rfl) (.inl rfl) ⟨hZ17I, hZ17K, hZ17U⟩
              · replace hP := zE_n hP h16
                refine wz_br (i3L (show (999 : Int32) = i3 999 from rfl) (rfl : i3 a4 = i3 a4) (by omega) (by omega) (by omega) (by omega)) (fun h18 => ?_) (fun h18 => ?_)
                · replace hP := zE_p hP h18
                  obtain ⟨Z19, hZ19⟩ := zx (zu Z 1 0 0 2 1)
                  replace hP := zl_e hP hZ19
                  have hZ19I := zM_u hZ hZ19 (lo := -2147483648) (hi := 2147483647) (by decide) rfl (by omega) ⟨by decide, by decide⟩ (Or.inr (by decide)) rfl
                  have hZ19U : zU [] Z Z19 := zU_u zU_r hZ19 (Or.inl rfl)
                  have hZ19K : zC [1] Z Z19 := zC_u zC_r hZ19 (by decide)
                  intro μ9 e9
                  replace e9 := e9.trans (zm_wI (Z := Z) (ν := ν) hZ19 (show ((0 : Nat) : Int) = 0 from rfl) (show ((0 : Nat) : Int) = 0 from rfl) (show ((2 : Nat) : Int) = 2 from rfl) (show (1 : Int32) = i3 1 from rfl))
                  subst e9
                  exact zlY hP (show (0 : Int32) = i3 0 from rfl) (.inl rfl) ⟨hZ19I, hZ19K, hZ19U⟩
                · replace hP := zE_n hP h18
                  refine wz_br (i3L (rfl : i3 a5 = i3 a5) (show (0 : Int32) = i3 0 from rfl) (by omega) (by omega) (by omega) (by omega)) (fun h20 => ?_) (fun h20 => ?_)
                  · replace hP := zE_p hP h20
                    obtain ⟨Z21, hZ21⟩ := zx (zu Z 1 0 0 2 1)
                    replace hP := zl_e hP hZ21
                    have hZ21I := zM_u hZ hZ21 (lo := -2147483648) (hi := 2147483647) (by decide) rfl (by omega) ⟨by decide, by decide⟩ (Or.inr (by decide)) rfl
                    have hZ21U : zU [] Z Z21 := zU_u zU_r hZ21 (Or.inl rfl)
                    have hZ21K : zC [1] Z Z21 := zC_u zC_r hZ21 (by decide)
                    intro μ9 e9
                    replace e9 := e9.trans (zm_wI (Z := Z) (ν := ν) hZ21 (show ((0 : Nat) : Int) = 0 from rfl) (show ((0 : Nat) : Int) = 0 from rfl) (show ((2 : Nat) : Int) = 2 from rfl) (show (1 : Int32) = i3 1 from rfl))
                    subst e9
                    exact zlY hP (show (0 : Int32) = i3 0 from rfl) (.inl rfl) ⟨hZ21I, hZ21K, hZ21U⟩
                  · replace hP := zE_n hP h20
                    refine wz_br (i3L (show (2 : Int32) = i3 2 from rfl) (rfl : i3 a5 = i3 a5) (by omega) (by omega) (by omega) (by omega)) (fun h22 => ?_) (fun h22 => ?_)
                    · replace hP := zE_p hP h22
                      obtain ⟨Z23, hZ23⟩ := zx (zu Z 1 0 0 2 1)
                      replace hP := zl_e hP hZ23
                      have hZ23I := zM_u hZ hZ23 (lo := -2147483648) (hi := 2147483647) (by decide) rfl (by omega) ⟨by decide, by decide⟩ (Or.inr (by decide)) rfl
                      have hZ23U : zU [] Z Z23 := zU_u zU_r hZ23 (Or.inl rfl)
                      have hZ23K : zC [1] Z Z23 := zC_u zC_r hZ23 (by decide)
                      intro μ9 e9
                      replace e9 := e9.trans (zm_wI (Z := Z) (ν := ν) hZ23 (show ((0 : Nat) : Int) = 0 from rfl) (show ((0 : Nat) : Int) = 0 from rfl) (show ((2 : Nat) : Int) = 2 from rfl) (show (1 : Int32) = i3 1 from rfl))
                      subst e9
                      exact zlY hP (show (0 : Int32) = i3 0 from rfl) (.inl rfl) ⟨hZ23I, hZ23K, hZ23U⟩
                    · replace hP := zE_n hP h22
                      refine wz_br (i3Le (i3A (i3A (rfl : i3 a2 = i3 a2) (rfl : i3 a3 = i3 a3)) (rfl : i3 a4 = i3 a4)) (show (0 : Int32) = i3 0 from rfl) (by omega) (by omega) (by omega) (by omega)) (fun h24 => ?_) (fun h24 => ?_)
                      · replace hP := zE_p hP h24
                        obtain ⟨Z25, hZ25⟩ := zx (zu Z 1 0 0 2 1)
                        replace hP := zl_e hP hZ25
                        have hZ25I := zM_u hZ hZ25 (lo := -2147483648) (hi := 2147483647) (by decide) rfl (by omega) ⟨by decide, by decide⟩ (Or.inr (by decide)) rfl
                        have hZ25U : zU [] Z Z25 := zU_u zU_r hZ25 (Or.inl rfl)
                        have hZ25K : zC [1] Z Z25 := zC_u zC_r hZ25 (by decide)
                        intro μ9 e9
                        replace e9 := e9.trans (zm_wI (Z := Z) (ν := ν) hZ25 (show ((0 : Nat) : Int) = 0 from rfl) (show ((0 : Nat) : Int) = 0 from rfl) (show ((2 : Nat) : Int) = 2 from rfl) (show (1 : Int32) = i3 1 from rfl))
                        subst e9
                        exact zlY hP (show (0 : Int32) = i3 0 from rfl) (.inl rfl) ⟨hZ25I, hZ25K, hZ25U⟩
                      · replace hP := zE_n hP h24
                        obtain ⟨Z26, hZ26⟩ := zx (zu Z 1 0 0 2 0)
                        replace hP := zl_e hP hZ26
                        have hZ26I := zM_0 hZ hZ26 (by decide) (Or.inr (by decide))
                        have hZ26U : zU [] Z Z26 := zU_u zU_r hZ26 (Or.inl rfl)
                        have hZ26K : zC [1] Z Z26 := zC_u zC_r hZ26 (by decide)
                        intro μ9 e9
                        replace e9 := e9.trans (zm_wI (Z := Z) (ν := ν) hZ26 (show ((0 : Nat) : Int) = 0 from rfl) (show ((0 : Nat) : Int) = 0 from rfl) (show ((2 : Nat) : Int) = 2 from rfl) (show (0 : Int32) = i3 0 from rfl))
                        subst e9
                        obtain ⟨v27, hv27, c9, lv27, uv27⟩ := sp_418 (ν := ν) hZ26I (a0 := a1) (by omega) (a1 := a2) (by omega) (a2 := a3) (by omega) (a3 := a4) (by omega) (a4 := a5) (by omega) (by omega) (zbh (c := 0) (k := 0) hM (Nat.le_of_ble_eq_true rfl))
                        replace hP := zl_e hP hv27
                        refine wz_cI_of (zas (zcons (zvi (rfl : i3 a1 = i3 a1)) (zcons (zvi (rfl : i3 a2 = i3 a2)) (zcons (zvi (rfl : i3 a3 = i3 a3)) (zcons (zvi (rfl : i3 a4 = i3 a4)) (zcons (zvi (rfl : i3 a5 = i3 a5)) rfl))))) c9) ?_
                        clear c9
                        exact zlY hP (rfl : i3 v27 = i3 v27) (.inl rfl) ⟨hZ26I, hZ26K, hZ26U⟩
/- yX12_sign -/
def zy_502 (Z : qz_Z) (a1 : Int) : qz_Z × Int := (if a1 < 32 then (zlet (zu Z 1 0 0 2 1) (fun Z5 => (Z5, 0))) else (if 126 < a1 then (zlet (zu Z 1 0 0 2 1) (fun Z7 => (Z7, 0))) else (zlet (zu Z 1 0 0 2 0) (fun Z8 => (if 120 ≤ (Z8 1 0 0 49) then (zlet (zu Z8 1 0 0 2 2) (fun Z11 => (Z11, 0))) else (zlet (zu Z8 1 0 0 2 0) (fun Z12 => (zlet (zu Z12 112 0 0 (Z12 1 0 0 49) a1) (fun Z15 => (zlet (zu Z15 1 0 0 49 ((Z15 1 0 0 49) + 1)) (fun Z18 => (Z18, (Z18 1 0 0 49)))))))))))))
theorem sy_502 {s : zSM} {Z : qz_Z} {ν : qz_N} (hZ : zM s Z) (gq : Z 1 0 0 35 = 0) (hM : s.2 + 0 ≤ 1000000000) {a1 : Int} (ga1 : -2147483648 ≤ a1 ∧ a1 ≤ 2147483647) {ν1 : qz_N} : ∃ (Z1 : qz_Z) (ν2 : qz_N) (v : Int), (Z1, v) = zy_502 Z a1 ∧ (ν2 = ν ∨ ν2 = ν1) ∧ qf_502 [.inr (.inr (some (1, 0, 0))), .inl (i3 a1)] (zm Z ν) = some (zm Z1 ν2, .inl (some (.inl (i3 v)))) ∧ (fun Z1 => zM s Z1 ∧ zC [1, 112] Z Z1 ∧ zU [] Z Z1) Z1 := by
  obtain ⟨P, hP⟩ := zx (zy_502 Z a1)
  refine zc_Y (Q := fun Z1 => zM s Z1 ∧ zC [1, 112] Z Z1 ∧ zU [] Z Z1) hP (fw_502 (i3 a1) _ _ ?_)
  replace hP : zE P (zy_502 Z a1) := hP
  unfold zy_502 at hP
  have r1 := zM_k hZ 1 0 0 35 (lo := 0) (hi := 1) (by decide) rfl
  have r2 := zM_k hZ 1 0 0 34 (lo := 0) (hi := 8) (by decide) rfl
  have r3 := zM_f hZ 1 0 0 37
  refine wz_br (i3L (rfl : i3 a1 = i3 a1) (show (32 : Int32) = i3 32 from rfl) (by omega) (by omega) (by omega) (by omega)) (fun h4 => ?_) (fun h4 => ?_)
  · replace hP := zE_p hP h4
    obtain ⟨Z5, hZ5⟩ := zx (zu Z 1 0 0 2 1)
    replace hP := zl_e hP hZ5
    have hZ5I := zM_u hZ hZ5 (lo := -2147483648) (hi := 2147483647) (by decide) rfl (by omega) ⟨by decide, by decide⟩ (Or.inr (by decide)) rfl
    have hZ5U : zU [] Z Z5 := zU_u zU_r hZ5 (Or.inl rfl)
    have hZ5K : zC [1, 112] Z Z5 := zC_u zC_r hZ5 (by decide)
    intro μ9 e9
    replace e9 := e9.trans (zm_wI (Z := Z) (ν := ν) hZ5 (show ((0 : Nat) : Int) = 0 from rfl) (show ((0 : Nat) : Int) = 0 from rfl) (show ((2 : Nat) : Int) = 2 from rfl) (show (1 : Int32) = i3 1 from rfl))
    subst e9
    exact zlY hP (show (0 : Int32) = i3 0 from rfl) (.inl rfl) ⟨hZ5I, hZ5K, hZ5U⟩
  · replace hP := zE_n hP h4
    refine wz_br (i3L (show (126 : Int32) = i3 126 from rfl) (rfl : i3 a1 = i3 a1) (by omega) (by omega) (by omega) (by omega)) (fun h6 => ?_) (fun h6 => ?_)
    · replace hP := zE_p hP h6
      obtain ⟨Z7, hZ7⟩ := zx (zu Z 1 0 0 2 1)
      replace hP := zl_e hP hZ7
      have hZ7I := zM_u hZ hZ7 (lo := -2147483648) (hi := 2147483647) (by decide) rfl (by omega) ⟨by decide, by decide⟩ (Or.inr (by decide)) rfl
      have hZ7U : zU [] Z Z7 := zU_u zU_r hZ7 (Or.inl rfl)
      have hZ7K : zC [1, 112] Z Z7 := zC_u zC_r hZ7 (by decide)
      intro μ9 e9
      replace e9 := e9.trans (zm_wI (Z := Z) (ν := ν) hZ7 (show ((0 : Nat) : Int) = 0 from rfl) (show ((0 : Nat) : Int) = 0 from rfl) (show ((2 : Nat) : Int) = 2 from rfl) (show (1 : Int32) = i3 1 from rfl))
      subst e9
      exact zlY hP (show (0 : Int32) = i3 0 from rfl) (.inl rfl) ⟨hZ7I, hZ7K, hZ7U⟩
    · replace hP := zE_n hP h6
      obtain ⟨Z8, hZ8⟩ := zx (zu Z 1 0 0 2 0)
      replace hP := zl_e hP hZ8
      have hZ8I := zM_0 hZ hZ8 (by decide) (Or.inr (by decide))
      have hZ8U : zU [] Z Z8 := zU_u zU_r hZ8 (Or.inl rfl)
      have hZ8K : zC [1, 112] Z Z8 := zC_u zC_r hZ8 (by decide)
      intro μ9 e9
      replace e9 := e9.trans (zm_wI (Z := Z) (ν := ν) hZ8 (show ((0 : Nat) : Int) = 0 from rfl) (show ((0 : Nat) : Int) = 0 from rfl) (show ((2 : Nat) : Int) = 2 from rfl) (show (0 : Int32) = i3 0 from rfl))
      subst e9
      have r9 := zM_k hZ8I 1 0 0 49 (lo := 0) (hi := 120) (by decide) rfl
      refine wz_br (i3Le (show (120 : Int32) = i3 120 from rfl) (zm_rd (Z := Z8) (ν := ν) (k := 1) (show ((0 : Nat) : Int) = 0 from rfl) (show ((0 : Nat) : Int) = 0 from rfl) (show ((49 : Nat) : Int) = 49 from rfl)) (by omega) (by omega) (by omega) (by omega)) (fun h10 => ?_) (fun h10 => ?_)
      · replace hP := zE_p hP h10
        obtain ⟨Z11, hZ11⟩ := zx (zu Z8 1 0 0 2 2)
        replace hP := zl_e hP hZ11
        have hZ11I := zM_u hZ8I hZ11 (lo := -2147483648) (hi := 2147483647) (by decide) rfl (by omega) ⟨by decide, by decide⟩ (Or.inr (by decide)) rfl
        have hZ11U : zU [] Z Z11 := zU_u hZ8U hZ11 (Or.inl rfl)
        have hZ11K : zC [1, 112] Z Z11 := zC_u hZ8K hZ11 (by decide)
        intro μ9 e9
        replace e9 := e9.trans (zm_wI (Z := Z8) (ν := ν) hZ11 (show ((0 : Nat) : Int) = 0 from rfl) (show ((0 : Nat) : Int) = 0 from rfl) (show ((2 : Nat) : Int) = 2 from rfl) (show (2 : Int32) = i3 2 from rfl))
        subst e9
        exact zlY hP (show (0 : Int32) = i3 0 from rfl) (.inl rfl) ⟨hZ11I, hZ11K, hZ11U⟩
      · replace hP := zE_n hP h10
        obtain ⟨Z12, hZ12⟩ := zx (zu Z8 1 0 0 2 0)
        replace hP := zl_e hP hZ12
        have hZ12I := zM_0 hZ8I hZ12 (by decide) (Or.inr (by decide))
        have hZ12U : zU [] Z Z12 := zU_u hZ8U hZ12 (Or.inl rfl)
        have hZ12K : zC [1, 112] Z Z12 := zC_u hZ8K hZ12 (by decide)
        intro μ9 e9
        replace e9 := e9.trans (zm_wI (Z := Z8) (ν := ν) hZ12 (show ((0 : Nat) : Int) = 0 from rfl) (show ((0 : Nat) : Int) = 0 from rfl) (show ((2 : Nat) : Int) = 2 from rfl) (show (0 : Int32) = i3 0 from rfl))
        subst e9
        have r13 := zM_k hZ12I 1 0 0 49 (lo := 0) (hi := 120) (by decide) rfl
        have q14 := zu_ne (k' := 1) (b' := 0) (i' := 0) (j' := 49) hZ12 (fun q => absurd q.2.2.2 (by decide))
        refine wz_i0 (i3O (n := 120) (zm_rd (Z := Z12) (ν := ν) (k := 1) (show ((0 : Nat) : Int) = 0 from rfl) (show ((0 : Nat) : Int) = 0 from rfl) (show ((49 : Nat) : Int) = 49 from rfl)) (by omega) (by omega) (by omega)) ?_
        obtain ⟨Z15, hZ15⟩ := zx (zu Z12 112 0 0 (Z12 1 0 0 49) a1)
        replace hP := zl_e hP hZ15
        have hZ15I := zM_u hZ12I hZ15 (lo := 0) (hi := 126) (by decide) rfl (by omega) ⟨by decide, by decide⟩ (Or.inl (by decide)) rfl
        have hZ15U : zU [] Z Z15 := zU_u hZ12U hZ15 (Or.inl rfl)
        have hZ15K : zC [1, 112] Z Z15 := zC_u hZ12K hZ15 rfl
        intro μ9 e9
        replace e9 := e9.trans (zm_wI (Z := Z12) (ν := ν) hZ15 (show ((0 : Nat) : Int) = 0 from rfl) (show ((0 : Nat) : Int) = 0 from rfl) (i3I (y := (Z12 1 0 0 49)) (zm_rd (Z := Z12) (ν := ν) (k := 1) (show ((0 : Nat) : Int) = 0 from rfl) (show ((0 : Nat) : Int) = 0 from rfl) (show ((49 : Nat) : Int) = 49 from rfl)) (by omega) (by omega) (by omega)) (rfl : i3 a1 = i3 a1))
        subst e9
        have r16 := zM_k hZ15I 1 0 0 49 (lo := 0) (hi := 120) (by decide) rfl
        have q17 := zu_ne (k' := 1) (b' := 0) (i' := 0) (j' := 49) hZ15 (fun q => absurd q.1 (by decide))
        obtain ⟨Z18, hZ18⟩ := zx (zu Z15 1 0 0 49 ((Z15 1 0 0 49) + 1))
        replace hP := zl_e hP hZ18
        have hZ18I := zM_u hZ15I hZ18 (lo := 0) (hi := 120) (by decide) rfl (by omega) ⟨by decide, by decide⟩ (Or.inr (by decide)) rfl
        have hZ18U : zU [] Z Z18 := zU_u hZ15U hZ18 (Or.inl rfl)
        have hZ18K : zC [1, 112] Z Z18 := zC_u hZ15K hZ18 (by decide)
        intro μ9 e9
        replace e9 := e9.trans (zm_wI (Z := Z15) (ν := ν) hZ18 (show ((0 : Nat) : Int) = 0 from rfl) (show ((0 : Nat) : Int) = 0 from rfl) (show ((49 : Nat) : Int) = 49 from rfl) (i3A (zm_rd (Z := Z15) (ν := ν) (k := 1) (show ((0 : Nat) : Int) = 0 from rfl) (show ((0 : Nat) : Int) = 0 from rfl) (show ((49 : Nat) : Int) = 49 from rfl)) (show (1 : Int32) = i3 1 from rfl)))
        subst e9
        have r19 := zM_k hZ18I 1 0 0 49 (lo := 0) (hi := 120) (by decide) rfl
        have q20 := zu_at hZ18
        exact zlY hP (zm_rd (Z := Z18) (ν := ν) (k := 1) (show ((0 : Nat) : Int) = 0 from rfl) (show ((0 : Nat) : Int) = 0 from rfl) (show ((49 : Nat) : Int) = 49 from rfl)) (.inl rfl) ⟨hZ18I, hZ18K, hZ18U⟩
