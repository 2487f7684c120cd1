/- yX10_move -/
def zf_175 (Z : qz_Z) (a0b : Int) (a1b a1ij : Int) (a2 : Int) : qz_Z := (if (Z 44 a1b a1ij 12) < 0 then (if a2 < 0 then (zlet (zu Z 44 a1b a1ij 12 a2) (fun Z4 => Z4)) else (if 6 ≤ a2 then (zlet (zu Z 44 a1b a1ij 12 a2) (fun Z6 => Z6)) else (zlet (zu Z 43 a0b a2 7 ((Z 43 a0b a2 7) + 1)) (fun Z8 => (zlet (zu Z8 44 a1b a1ij 12 a2) (fun Z9 => Z9)))))) else (if 6 ≤ (Z 44 a1b a1ij 12) then (if a2 < 0 then (zlet (zu Z 44 a1b a1ij 12 a2) (fun Z12 => Z12)) else (if 6 ≤ a2 then (zlet (zu Z 44 a1b a1ij 12 a2) (fun Z14 => Z14)) else (zlet (zu Z 43 a0b a2 7 ((Z 43 a0b a2 7) + 1)) (fun Z16 => (zlet (zu Z16 44 a1b a1ij 12 a2) (fun Z17 => Z17)))))) else (zlet (zu Z 43 a0b (Z 44 a1b a1ij 12) 7 ((Z 43 a0b (Z 44 a1b a1ij 12) 7) + 1)) (fun Z19 => (if a2 < 0 then (zlet (zu Z19 44 a1b a1ij 12 a2) (fun Z21 => Z21)) else (if 6 ≤ a2 then (zlet (zu Z19 44 a1b a1ij 12 a2) (fun Z23 => Z23)) else (zlet (zu Z19 43 a0b a2 7 ((Z19 43 a0b a2 7) + 1)) (fun Z25 => (zlet (zu Z25 44 a1b a1ij 12 a2) (fun Z26 => Z26))))))))))
theorem sp_175 {s : zSM} {Z : qz_Z} {ν : qz_N} (hZ : zH s Z) (a0b : Nat) (a1b : Nat) (a1i : Nat) {a1ij : Int} (ea1i : (a1i : Int) = a1ij) (ga1i : 0 ≤ a1ij ∧ a1ij ≤ 47) {a2 : Int} (ga2 : -1 ≤ a2 ∧ a2 ≤ 6) (hM : s.2 + 2 ≤ 1000000000) : ∃ P : qz_Z, P = zf_175 Z a0b a1b a1ij a2 ∧ (qf_175 [.inr (.inr (some (10, a0b, 0))), .inr (.inr (some (44, a1b, a1i))), .inl (i3 a2)] (zm Z ν) = some (zm P ν, .inl none) ∧ zH (zb s 2) P ∧ zC [43, 44] Z P ∧ zU [a0b, a1b] Z P) := by
  obtain ⟨P, hP⟩ := zx (zf_175 Z a0b a1b a1ij a2)
  refine zc_V (Q := fun P => zH (zb s 2) P ∧ zC [43, 44] Z P ∧ zU [a0b, a1b] Z P) hP (fw_175 a0b (44, a1b, a1i) (i3 a2) _ _ ?_)
  replace hP : zE P (zf_175 Z a0b a1b a1ij a2) := hP
  unfold zf_175 at hP
  refine wz_i1 rfl ?_
  refine wz_i0 (i3O (n := 16) (show (12 : Int32) = i3 12 from rfl) (by omega) (by omega) (by omega)) ?_
  have r1 := zH_k hZ 44 a1b a1ij 12 (lo := -1) (hi := 6) (by decide) rfl
  refine wz_br (i3L (zm_rd (Z := Z) (ν := ν) (k := 44) (rfl : ((a1b : Nat) : Int) = a1b) ea1i (show ((12 : Nat) : Int) = 12 from rfl)) (show (0 : Int32) = i3 0 from rfl) (by omega) (by omega) (by omega) (by omega)) (fun h2 => ?_) (fun h2 => ?_)
  · replace hP := zE_p hP h2
    refine wz_br (i3L (rfl : i3 a2 = i3 a2) (show (0 : Int32) = i3 0 from rfl) (by omega) (by omega) (by omega) (by omega)) (fun h3 => ?_) (fun h3 => ?_)
    · replace hP := zE_p hP h3
      refine wz_i1 rfl ?_
      refine wz_i0 (i3O (n := 16) (show (12 : Int32) = i3 12 from rfl) (by omega) (by omega) (by omega)) ?_
      obtain ⟨Z4, hZ4⟩ := zx (zu Z 44 a1b a1ij 12 a2)
      replace hP := zl_e hP hZ4
      have hZ4I := zH_u hZ hZ4 (lo := -1) (hi := 6) (by decide) rfl (by omega) ⟨by decide, by decide⟩ (Or.inl (by decide)) rfl
      have hZ4U : zU [a0b, a1b] Z Z4 := zU_u zU_r hZ4 (Or.inr (List.Mem.tail _ (List.Mem.head _)))
      have hZ4K : zC [43, 44] Z Z4 := zC_u zC_r hZ4 (by decide)
      intro μ9 e9
      replace e9 := e9.trans (zm_wI (Z := Z) (ν := ν) hZ4 (rfl : ((a1b : Nat) : Int) = a1b) ea1i (show ((12 : Nat) : Int) = 12 from rfl) (rfl : i3 a2 = i3 a2))
      subst e9
      exact zlV hP ⟨(zbw (a := 0) (c := 2) hZ4I (Nat.le_of_ble_eq_true rfl)), hZ4K, hZ4U⟩
    · replace hP := zE_n hP h3
      refine wz_br (i3Le (show (6 : Int32) = i3 6 from rfl) (rfl : i3 a2 = i3 a2) (by omega) (by omega) (by omega) (by omega)) (fun h5 => ?_) (fun h5 => ?_)
      · replace hP := zE_p hP h5
        refine wz_i1 rfl ?_
        refine wz_i0 (i3O (n := 16) (show (12 : Int32) = i3 12 from rfl) (by omega) (by omega) (by omega)) ?_
        obtain ⟨Z6, hZ6⟩ := zx (zu Z 44 a1b a1ij 12 a2)
        replace hP := zl_e hP hZ6
        have hZ6I := zH_u hZ hZ6 (lo := -1) (hi := 6) (by decide) rfl (by omega) ⟨by decide, by decide⟩ (Or.inl (by decide)) rfl
        have hZ6U : zU [a0b, a1b] Z Z6 := zU_u zU_r hZ6 (Or.inr (List.Mem.tail _ (List.Mem.head _)))
        have hZ6K : zC [43, 44] Z Z6 := zC_u zC_r hZ6 (by decide)
        intro μ9 e9
        replace e9 := e9.trans (zm_wI (Z := Z) (ν := ν) hZ6 (rfl : ((a1b : Nat) : Int) = a1b) ea1i (show ((12 : Nat) : Int) = 12 from rfl) (rfl : i3 a2 = i3 a2))
        subst e9
        exact zlV hP ⟨(zbw (a := 0) (c := 2) hZ6I (Nat.le_of_ble_eq_true rfl)), hZ6K, hZ6U⟩
      · replace hP := zE_n hP h5
        refine wz_i0 (i3O (n := 6) (rfl : i3 a2 = i3 a2) (by omega) (by omega) (by omega)) ?_
        have r7 := zH_d hZ a0b a2 (zbh (c := 0) (k := 0) hM (Nat.le_of_ble_eq_true rfl))
        obtain ⟨Z8, hZ8⟩ := zx (zu Z 43 a0b a2 7 ((Z 43 a0b a2 7) + 1))
        replace hP := zl_e hP hZ8
        have hZ8I := zH_id hZ hZ8 (zbh (c := 0) (k := 1) hM (Nat.le_of_ble_eq_true rfl)) (by omega)
        have hZ8U : zU [a0b, a1b] Z Z8 := zU_u zU_r hZ8 (Or.inr (List.Mem.head _))
        have hZ8K : zC [43, 44] Z Z8 := zC_u zC_r hZ8 (by decide)
        intro μ9 e9
        replace e9 := e9.trans (zm_wI (Z := Z) (ν := ν) hZ8 (rfl : ((a0b : Nat) : Int) = a0b) (i3I (y := a2) (rfl : i3 a2 = i3 a2) (by omega) (by omega) (by omega)) (show ((7 : Nat) : Int) = 7 from rfl) (i3A (zm_rd (Z := Z) (ν := ν) (k := 43) (rfl : ((a0b : Nat) : Int) = a0b) (i3I (y := a2) (rfl : i3 a2 = i3 a2) (by omega) (by omega) (by omega)) (show ((7 : Nat) : Int) = 7 from rfl)) (show (1 : Int32) = i3 1 from rfl)))
        subst e9
        refine wz_i1 rfl ?_
        refine wz_i0 (i3O (n := 16) (show (12 : Int32) = i3 12 from rfl) (by omega) (by omega) (by omega)) ?_
        obtain ⟨Z9, hZ9⟩ := zx (zu Z8 44 a1b a1ij 12 a2)
        replace hP := zl_e hP hZ9
        have hZ9I := zH_u hZ8I hZ9 (lo := -1) (hi := 6) (by decide) rfl (by omega) ⟨by decide, by decide⟩ (Or.inl (by decide)) rfl
        have hZ9U : zU [a0b, a1b] Z Z9 := zU_u hZ8U hZ9 (Or.inr (List.Mem.tail _ (List.Mem.head _)))
        have hZ9K : zC [43, 44] Z Z9 := zC_u hZ8K hZ9 (by decide)
        intro μ9 e9
        replace e9 := e9.trans (zm_wI (Z := Z8) (ν := ν) hZ9 (rfl : ((a1b : Nat) : Int) = a1b) ea1i (show ((12 : Nat) : Int) = 12 from rfl) (rfl : i3 a2 = i3 a2))
        subst e9
        exact zlV hP ⟨(zbw (a := 1) (c := 2) hZ9I (Nat.le_of_ble_eq_true rfl)), hZ9K, hZ9U⟩
  · replace hP := zE_n hP h2
    refine wz_br (i3Le (show (6 : Int32) = i3 6 from rfl) (zm_rd (Z := Z) (ν := ν) (k := 44) (rfl : ((a1b : Nat) : Int) = a1b) ea1i (show ((12 : Nat) : Int) = 12 from rfl)) (by omega) (by omega) (by omega) (by omega)) (fun h10 => ?_) (fun h10 => ?_)
    · replace hP := zE_p hP h10
      refine wz_br (i3L (rfl : i3 a2 = i3 a2) (show (0 : Int32) = i3 0 from rfl) (by omega) (by omega) (by omega) (by omega)) (fun h11 => ?_) (fun h11 => ?_)
      · replace hP := zE_p hP h11
        refine wz_i1 rfl ?_
        refine wz_i0 (i3O (n := 16) (show (12 : Int32) = i3 12 from rfl) (by omega) (by omega) (by omega)) ?_
        obtain ⟨Z12, hZ12⟩ := zx (zu Z 44 a1b a1ij 12 a2)
        replace hP := zl_e hP hZ12
        have hZ12I := zH_u hZ hZ12 (lo := -1) (hi := 6) (by decide) rfl (by omega) ⟨by decide, by decide⟩ (Or.inl (by decide)) rfl
        have hZ12U : zU [a0b, a1b] Z Z12 := zU_u zU_r hZ12 (Or.inr (List.Mem.tail _ (List.Mem.head _)))
        have hZ12K : zC [43, 44] Z Z12 := zC_u zC_r hZ12 (by decide)
        intro μ9 e9
        replace e9 := e9.trans (zm_wI (Z := Z) (ν := ν) hZ12 (rfl : ((a1b : Nat) : Int) = a1b) ea1i (show ((12 : Nat) : Int) = 12 from rfl) (rfl : i3 a2 = i3 a2))
        subst e9
        exact zlV hP ⟨(zbw (a := 0) (c := 2) hZ12I (Nat.le_of_ble_eq_true rfl)), hZ12K, hZ12U⟩
      · replace hP := zE_n hP h11
        refine wz_br (i3Le (show (6 : Int32) = i3 6 from rfl) (rfl : i3 a2 = i3 a2) (by omega) (by omega) (by omega) (by omega)) (fun h13 => ?_) (fun h13 => ?_)
        · replace hP := zE_p hP h13
          refine wz_i1 rfl ?_
          refine wz_i0 (i3O (n := 16) (show (12 : Int32) = i3 12 from rfl) (by omega) (by omega) (by omega)) ?_
          obtain ⟨Z14, hZ14⟩ := zx (zu Z 44 a1b a1ij 12 a2)
          replace hP := zl_e hP hZ14
          have hZ14I := zH_u hZ hZ14 (lo := -1) (hi := 6) (by decide) rfl (by omega) ⟨by decide, by decide⟩ (Or.inl (by decide)) rfl
          have hZ14U : zU [a0b, a1b] Z Z14 := zU_u zU_r hZ14 (Or.inr (List.Mem.tail _ (List.Mem.head _)))
          have hZ14K : zC [43, 44] Z Z14 := zC_u zC_r hZ14 (by decide)
          intro μ9 e9
          replace e9 := e9.trans (zm_wI (Z := Z) (ν := ν) hZ14 (rfl : ((a1b : Nat) : Int) = a1b) ea1i (show ((12 : Nat) : Int) = 12 from rfl) (rfl : i3 a2 = i3 a2))
          subst e9
          exact zlV hP ⟨(zbw (a := 0) (c := 2) hZ14I (Nat.le_of_ble_eq_true rfl)), hZ14K, hZ14U⟩
        · replace hP := zE_n hP h13
          refine wz_i0 (i3O (n := 6) (rfl : i3 a2 = i3 a2) (by omega) (by omega) (by omega)) ?_
          have r15 := zH_d hZ a0b a2 (zbh (c := 0) (k := 0) hM (Nat.le_of_ble_eq_true rfl))
          obtain ⟨Z16, hZ16⟩ := zx (zu Z 43 a0b a2 7 ((Z 43 a0b a2 7) + 1))
          replace hP := zl_e hP hZ16
          have hZ16I := zH_id hZ hZ16 (zbh (c := 0) (k := 1) hM (Nat.le_of_ble_eq_true rfl)) (by omega)
          have hZ16U : zU [a0b, a1b] Z Z16 := zU_u zU_r hZ16 (Or.inr (List.Mem.head _))
          have hZ16K : zC [43, 44] Z Z16 := zC_u zC_r hZ16 (by decide)
          intro μ9 e9
          replace e9 := e9.trans (zm_wI (Z := Z) (ν := ν) hZ16 (rfl : ((a0b : Nat) : Int) = a0b) (i3I (y := a2) (rfl : i3 a2 = i3 a2) (by omega) (by omega) (by omega)) (show ((7 : Nat) : Int) = 7 from rfl) (i3A (zm_rd (Z := Z) (ν := ν) (k := 43) (rfl : ((a0b : Nat) : Int) = a0b) (i3I (y := a2) (rfl : i3 a2 = i3 a2) (by omega) (by omega) (by omega)) (show ((7 : Nat) : Int) = 7 from rfl)) (show (1 : Int32) = i3 1 from rfl)))
          subst e9
          refine wz_i1 rfl ?_
          refine wz_i0 (i3O (n := 16) (show (12 : Int32) = i3 12 from rfl) (by omega) (by omega) (by omega)) ?_
          obtain ⟨Z17, hZ17⟩ := zx (zu Z16 44 a1b a1ij 12 a2)
          replace hP := zl_e hP hZ17
          have hZ17I := zH_u hZ16I hZ17 (lo := -1) (hi := 6) (by decide) rfl (by omega) ⟨by decide, by decide⟩ (Or.inl (by decide)) rfl
          have hZ17U : zU [a0b, a1b] Z Z17 := zU_u hZ16U hZ17 (Or.inr (List.Mem.tail _ (List.Mem.head _)))
          have hZ17K : zC [43, 44] Z Z17 := zC_u hZ16K hZ17 (by decide)
          intro μ9 e9
          replace e9 := e9.trans (zm_wI (Z := Z16) (ν := ν) hZ17 (rfl : ((a1b : Nat) : Int) = a1b) ea1i (show ((12 : Nat) : Int) = 12 from rfl) (rfl : i3 a2 = i3 a2))
          subst e9
          exact zlV hP ⟨(zbw (a := 1) (c := 2) hZ17I (Nat.le_of_ble_eq_true rfl)), hZ17K, hZ17U⟩
    · replace hP := zE_n hP h10
      refine wz_i0 (i3O (n := 6) (zm_rd (Z := Z) (ν := ν) (k := 44) (rfl : ((a1b : Nat) : Int) = a1b) ea1i (show ((12 : Nat) : Int) = 12 from rfl)) (by omega) (by omega) (by omega)) ?_
      have r18 := zH_d hZ a0b (Z 44 a1b a1ij 12) (zbh (c := 0) (k := 0) hM (Nat.le_of_ble_eq_true rfl))
      obtain ⟨Z19, hZ19⟩ := zx (zu Z 43 a0b (Z 44 a1b a1ij 12) 7 ((Z 43 a0b (Z 44 a1b a1ij 12) 7) + 1))
      replace hP := zl_e hP hZ19
      have hZ19I := zH_id hZ hZ19 (zbh (c := 0) (k := 1) hM (Nat.le_of_ble_eq_true rfl)) (by omega)
      have hZ19U : zU [a0b, a1b] Z Z19 := zU_u zU_r hZ19 (Or.inr (List.Mem.head _))
      have hZ19K : zC [43, 44] Z Z19 := zC_u zC_r hZ19 (by decide)
      intro μ9 e9
      replace e9 := e9.trans (zm_wI (Z := Z) (ν := ν) hZ19 (rfl : ((a0b : Nat) : Int) = a0b) (i3I (y := (Z 44 a1b a1ij 12)) (zm_rd (Z := Z) (ν := ν) (k := 44) (rfl : ((a1b : Nat) : Int) = a1b) ea1i (show ((12 : Nat) : Int) = 12 from rfl)) (by omega) (by omega) (by omega)) (show ((7 : Nat) : Int) = 7 from rfl) (i3A (zm_rd (Z := Z) (ν := ν) (k := 43) (rfl : ((a0b : Nat) : Int) = a0b) (i3I (y := (Z 44 a1b a1ij 12)) (zm_rd (Z := Z) (ν := ν) (k := 44) (rfl : ((a1b : Nat) : Int) = a1b) ea1i (show ((12 : Nat) : Int) = 12 from rfl)) (by omega) (by omega) (by omega)) (show ((7 : Nat) : Int) = 7 from rfl)) (show (1 : Int32) = i3 1 from rfl)))
      subst e9
      refine wz_br (i3L (rfl : i3 a2 = i3 a2) (show (0 : Int32) = i3 0 from rfl) (by omega) (by omega) (by omega) (by omega)) (fun h20 => ?_) (fun h20 => ?_)
      · replace hP := zE_p hP h20
        refine wz_i1 rfl ?_
        refine wz_i0 (i3O (n := 16) (show (12 : Int32) = i3 12 from rfl) (by omega) (by omega) (by omega)) ?_
        obtain ⟨Z21, hZ21⟩ := zx (zu Z19 44 a1b a1ij 12 a2)
        replace hP := zl_e hP hZ21
        have hZ21I := zH_u hZ19I hZ21 (lo := -1) (hi := 6) (by decide) rfl (by omega) ⟨by decide, by decide⟩ (Or.inl (by decide)) rfl
        have hZ21U : zU [a0b, a1b] Z Z21 := zU_u hZ19U hZ21 (Or.inr (List.Mem.tail _ (List.Mem.head _)))
        have hZ21K : zC [43, 44] Z Z21 := zC_u hZ19K hZ21 (by decide)
        intro μ9 e9
        replace e9 := e9.trans (zm_wI (Z := Z19) (ν := ν) hZ21 (rfl : ((a1b : Nat) : Int) = a1b) ea1i (show ((12 : Nat) : Int) = 12 from rfl) (rfl : i3 a2 = i3 a2))
        subst e9
        exact zlV hP ⟨(zbw (a := 1) (c := 2) hZ21I (Nat.le_of_ble_eq_true rfl)), hZ21K, hZ21U⟩
      · replace hP := zE_n hP h20
        refine wz_br (i3Le (show (6 : Int32) = i3 6 from rfl) (rfl : i3 a2 = i3 a2) (by omega) (by omega) (by omega) (by omega)) (fun h22 => ?_) (fun h22 => ?_)
        · replace hP := zE_p hP h22
          refine wz_i1 rfl ?_
          refine wz_i0 (i3O (n := 16) (show (12 : Int32) = i3 12 from rfl) (by omega) (by omega) (by omega)) ?_
          obtain ⟨Z23, hZ23⟩ := zx (zu Z19 44 a1b a1ij 12 a2)
          replace hP := zl_e hP hZ23
          have hZ23I := zH_u hZ19I hZ23 (lo := -1) (hi := 6) (by decide) rfl (by omega) ⟨by decide, by decide⟩ (Or.inl (by decide)) rfl
          have hZ23U : zU [a0b, a1b] Z Z23 := zU_u hZ19U hZ23 (Or.inr (List.Mem.tail _ (List.Mem.head _)))
          have hZ23K : zC [43, 44] Z Z23 := zC_u hZ19K hZ23 (by decide)
          intro μ9 e9
          replace e9 := e9.trans (zm_wI (Z := Z19) (ν := ν) hZ23 (rfl : ((a1b : Nat) : Int) = a1b) ea1i (show ((12 : Nat) : Int) = 12 from rfl) (rfl : i3 a2 = i3 a2))
          subst e9
          exact zlV hP ⟨(zbw (a := 1) (c := 2) hZ23I (Nat.le_of_ble_eq_true rfl)), hZ23K, hZ23U⟩
        · replace hP := zE_n hP h22
          refine wz_i0 (i3O (n := 6) (rfl : i3 a2 = i3 a2) (by omega) (by omega) (by omega)) ?_
          have r24 := zH_d hZ19I a0b a2 (zbh (c := 1) (k := 0) hM (Nat.le_of_ble_eq_true rfl))
          obtain ⟨Z25, hZ25⟩ := zx (zu Z19 43 a0b a2 7 ((Z19 43 a0b a2 7) + 1))
          replace hP := zl_e hP hZ25
          have hZ25I := zH_id hZ19I hZ25 (zbh (c := 1) (k := 1) hM (Nat.le_of_ble_eq_true rfl)) (by omega)
          replace hZ25I := zbt (c := 2) hZ25I rfl
          have hZ25U : zU [a0b, a1b] Z Z25 := zU_u hZ19U hZ25 (Or.inr (List.Mem.head _))
          have hZ25K : zC [43, 44] Z Z25 := zC_u hZ19K hZ25 (by decide)
          intro μ9 e9
          replace e9 := e9.trans (zm_wI (Z := Z19) (ν := ν) hZ25 (rfl : ((a0b : Nat) : Int) = a0b) (i3I (y := a2) (rfl : i3 a2 = i3 a2) (by omega) (by omega) (by omega)) (show ((7 : Nat) : Int) = 7 from rfl) (i3A (zm_rd (Z := Z19) (ν := ν) (k := 43) (rfl : ((a0b : Nat) : Int) = a0b) (i3I (y := a2) (rfl : i3 a2 = i3 a2) (by omega) (by omega) (by omega)) (show ((7 : Nat) : Int) = 7 from rfl)) (show (1 : Int32) = i3 1 from rfl)))
          subst e9
          refine wz_i1 rfl ?_
          refine wz_i0 (i3O (n := 16) (show (12 : Int32) = i3 12 from rfl) (by omega) (by omega) (by omega)) ?_
          obtain ⟨Z26, hZ26⟩ := zx (zu Z25 44 a1b a1ij 12 a2)
          replace hP := zl_e hP hZ26
          have hZ26I := zH_u hZ25I hZ26 (lo := -1) (hi := 6) (by decide) rfl (by omega) ⟨by decide, by decide⟩ (Or.inl (by decide)) rfl
          have hZ26U : zU [a0b, a1b] Z Z26 := zU_u hZ25U hZ26 (Or.inr (List.Mem.tail _ (List.Mem.head _)))
          have hZ26K : zC [43, 44] Z Z26 := zC_u hZ25K hZ26 (by decide)
          intro μ9 e9
          replace e9 := e9.trans (zm_wI (Z := Z25) (ν := ν) hZ26 (rfl : ((a1b : Nat) : Int) = a1b) ea1i (show ((12 : Nat) : Int) = 12 from rfl) (rfl : i3 a2 = i3 a2))
          subst e9
          exact zlV hP ⟨hZ26I, hZ26K, hZ26U⟩
/- yX2_loadParcel -/
def zf_50 (Z : qz_Z) (a0b : Int) (a1 : Int) (a2 : Int) : qz_Z × Int := (zlet (zu Z 47 a0b a1 9 1) (fun Z2 => (zlet (zu Z2 47 a0b a1 10 a2) (fun Z3 => (zlet (zu Z3 47 a0b a1 11 (Z3 44 a0b (Z 47 a0b a1 0) 7)) (fun Z5 => (zlet (zu Z5 47 a0b a1 12 (Z5 44 a0b (Z 47 a0b a1 0) 8)) (fun Z7 => (zlet (zu Z7 47 a0b a1 14 (Z7 11 a0b 0 13)) (fun Z9 => (zlet (zu Z9 47 a0b a1 15 (Z9 44 a0b (Z 47 a0b a1 0) 7)) (fun Z12 => (zlet (zu Z12 47 a0b a1 16 (Z12 44 a0b (Z 47 a0b a1 0) 8)) (fun Z15 => (if (Z15 44 a0b (Z15 47 a0b a1 0) 10) ≠ 0 then (zlet (zf_43 Z15 a0b a2) (fun v20 => (Z15, v20))) else (if (Z15 44 a0b (Z15 47 a0b a1 0) 4) ≠ 0 then (zlet (zf_43 Z15 a0b a2) (fun v23 => (Z15, v23))) else (zlet (zf_109 Z15 a0b (Z15 47 a0b a1 0)) (fun v24 => (if v24 ≠ 0 then (zlet (zf_43 Z15 a0b a2) (fun v26 => (Z15, v26))) else (zlet (zu Z15 44 a0b (Z15 47 a0b a1 0) 10 2) (fun Z27 => (zlet (zf_175 Z27 a0b a0b (Z15 47 a0b a1 0) (-1)) (fun Z28 => (zlet (zf_43 Z28 a0b a2) (fun v29 => (Z28, v29))))))))))))))))))))))))))
theorem sp_50 {s : zSM} {Z : qz_Z} {ν : qz_N} (hZ : zH s Z) (a0b : Nat) {a1 : Int} (ga1 : 0 ≤ a1 ∧ a1 ≤ 59) {a2 : Int} (ga2 : 0 ≤ a2 ∧ a2 ≤ 3) (hM : s.2 + 2 ≤ 1000000000) : ∃ (Z1 : qz_Z) (P : Int), (Z1, P) = zf_50 Z a0b a1 a2 ∧ (qf_50 [.inr (.inr (some (10, a0b, 0))), .inl (i3 a1), .inl (i3 a2)] (zm Z ν) = some (zm Z1 ν, .inl (some (.inl (i3 P)))) ∧ zH (zb s 2) Z1 ∧ zC [43, 44, 47] Z Z1 ∧ zU [a0b] Z Z1 ∧ -2147483648 ≤ P ∧ P ≤ 2147483647) := by
  obtain ⟨P, hP⟩ := zx (zf_50 Z a0b a1 a2)
  refine zc_W (Q := fun Z1 P => zH (zb s 2) Z1 ∧ zC [43, 44, 47] Z Z1 ∧ zU [a0b] Z Z1 ∧ -2147483648 ≤ P ∧ P ≤ 2147483647) hP (fw_50 a0b (i3 a1) (i3 a2) _ _ ?_)
  replace hP : zE P (zf_50 Z a0b a1 a2) := hP
  unfold zf_50 at hP
  refine wz_i0 (i3O (n := 60) (rfl : i3 a1 = i3 a1) (by omega) (by omega) (by omega)) ?_
  have r1 := zH_k hZ 47 a0b a1 0 (lo := 0) (hi := 47) (by decide) rfl
  refine wz_i0 (i3O (n := 48) (zm_rd (Z := Z) (ν := ν) (k := 47) (rfl : ((a0b : Nat) : Int) = a0b) (i3I (y := a1) (rfl : i3 a1 = i3 a1) (by omega) (by omega) (by omega)) (show ((0 : Nat) : Int) = 0 from rfl)) (by omega) (by omega) (by omega)) ?_
  obtain ⟨Z2, hZ2⟩ := zx (zu Z 47 a0b a1 9 1)
  replace hP := zl_e hP hZ2
  have hZ2U : zU [a0b] Z Z2 := zU_u zU_r hZ2 (Or.inr (List.Mem.head _))
  have hZ2K : zC [43, 44, 47] Z Z2 := zC_u zC_r hZ2 (by decide)
  intro μ9 e9
  replace e9 := e9.trans (zm_wI (Z := Z) (ν := ν) hZ2 (rfl : ((a0b : Nat) : Int) = a0b) (i3I (y := a1) (rfl : i3 a1 = i3 a1) (by omega) (by omega) (by omega)) (show ((9 : Nat) : Int) = 9 from rfl) (show (1 : Int32) = i3 1 from rfl))
  subst e9
  obtain ⟨Z3, hZ3⟩ := zx (zu Z2 47 a0b a1 10 a2)
  replace hP := zl_e hP hZ3
  have hZ3I := zH_ld hZ hZ2 hZ3 (by omega) (by omega)
  have hZ3U : zU [a0b] Z Z3 := zU_u hZ2U hZ3 (Or.inr (List.Mem.head _))
  have hZ3K : zC [43, 44, 47] Z Z3 := zC_u hZ2K hZ3 (by decide)
  intro μ9 e9
  replace e9 := e9.trans (zm_wI (Z := Z2) (ν := ν) hZ3 (rfl : ((a0b : Nat) : Int) = a0b) (i3I (y := a1) (rfl : i3 a1 = i3 a1) (by omega) (by omega) (by omega)) (show ((10 : Nat) : Int) = 10 from rfl) (rfl : i3 a2 = i3 a2))
  subst e9
  have r4 := zH_k hZ3I 44 a0b (Z 47 a0b a1 0) 7 (lo := 0) (hi := 2000) (by decide) rfl
  obtain ⟨Z5, hZ5⟩ := zx (zu Z3 47 a0b a1 11 (Z3 44 a0b (Z 47 a0b a1 0) 7))
  replace hP := zl_e hP hZ5
  have hZ5I := zH_u hZ3I hZ5 (lo := 0) (hi := 2000) (by decide) rfl (by omega) ⟨by decide, by decide⟩ (Or.inl (by decide)) rfl
  have hZ5U : zU [a0b] Z Z5 := zU_u hZ3U hZ5 (Or.inr (List.Mem.head _))
  have hZ5K : zC [43, 44, 47] Z Z5 := zC_u hZ3K hZ5 (by decide)
  intro μ9 e9
  replace e9 := e9.trans (zm_wI (Z := Z3) (ν := ν) hZ5 (rfl : ((a0b : Nat) : Int) = a0b) (i3I (y := a1) (rfl : i3 a1 = i3 a1) (by omega) (by omega) (by omega)) (show ((11 : Nat) : Int) = 11 from rfl) (zm_rd (Z := Z3) (ν := ν) (k := 44) (rfl : ((a0b : Nat) : Int) = a0b) (i3I (y := (Z 47 a0b a1 0)) (zm_rd (Z := Z) (ν := ν) (k := 47) (rfl : ((a0b : Nat) : Int) = a0b) (i3I (y := a1) (rfl : i3 a1 = i3 a1) (by omega) (by omega) (by omega)) (show ((0 : Nat) : Int) = 0 from rfl)) (by omega) (by omega) (by omega)) (show ((7 : Nat) : Int) = 7 from rfl)))
  subst e9
  have r6 := zH_k hZ5I 44 a0b (Z 47 a0b a1 0) 8 (lo := 0) (hi := 999) (by decide) rfl
  obtain ⟨Z7, hZ7⟩ := zx (zu Z5 47 a0b a1 12 (Z5 44 a0b (Z 47 a0b a1 0) 8))
  replace hP := zl_e hP hZ7
  have hZ7I := zH_u hZ5I hZ7 (lo := 0) (hi := 999) (by decide) rfl (by omega) ⟨by decide, by decide⟩ (Or.inl (by decide)) rfl
  have hZ7U : zU [a0b] Z Z7 := zU_u hZ5U hZ7 (Or.inr (List.Mem.head _))
  have hZ7K : zC [43, 44, 47] Z Z7 := zC_u hZ5K hZ7 (by decide)
  intro μ9 e9
  replace e9 := e9.trans (zm_wI (Z := Z5) (ν := ν) hZ7 (rfl : ((a0b : Nat) : Int) = a0b) (i3I (y := a1) (rfl : i3 a1 = i3 a1) (by omega) (by omega) (by omega)) (show ((12 : Nat) : Int) = 12 from rfl) (zm_rd (Z := Z5) (ν := ν) (k := 44) (rfl : ((a0b : Nat) : Int) = a0b) (i3I (y := (Z 47 a0b a1 0)) (zm_rd (Z := Z) (ν := ν) (k := 47) (rfl : ((a0b : Nat) : Int) = a0b) (i3I (y := a1) (rfl : i3 a1 = i3 a1) (by omega) (by omega) (by omega)) (show ((0 : Nat) : Int) = 0 from rfl)) (by omega) (by omega) (by omega)) (show ((8 : Nat) : Int) = 8 from rfl)))
  subst e9
  have r8 := zH_k hZ7I 11 a0b 0 13 (lo := 0) (hi := 671) (by decide) rfl
  obtain ⟨Z9, hZ9⟩ := zx (zu Z7 47 a0b a1 14 (Z7 11 a0b 0 13))
  replace hP := zl_e hP hZ9
  have hZ9I := zH_u hZ7I hZ9 (lo := -1) (hi := 671) (by decide) rfl (by omega) ⟨by decide, by decide⟩ (Or.inl (by decide)) rfl
  have hZ9U : zU [a0b] Z Z9 := zU_u hZ7U hZ9 (Or.inr (List.Mem.head _))
  have hZ9K : zC [43, 44, 47] Z Z9 := zC_u hZ7K hZ9 (by decide)
  intro μ9 e9
  replace e9 := e9.trans (zm_wI (Z := Z7) (ν := ν) hZ9 (rfl : ((a0b : Nat) : Int) = a0b) (i3I (y := a1) (rfl : i3 a1 = i3 a1) (by omega) (by omega) (by omega)) (show ((14 : Nat) : Int) = 14 from rfl) (zm_rd (Z := Z7) (ν := ν) (k := 11) (rfl : ((a0b : Nat) : Int) = a0b) (show ((0 : Nat) : Int) = 0 from rfl) (show ((13 : Nat) : Int) = 13 from rfl)))
  subst e9
  have r10 := zH_k hZ9I 44 a0b (Z 47 a0b a1 0) 7 (lo := 0) (hi := 2000) (by decide) rfl
  have q11 := (zu_ne (k' := 44) (b' := a0b) (i' := (Z 47 a0b a1 0)) (j' := 7) hZ9 (fun q => absurd q.1 (by decide))).trans ((zu_ne (k' := 44) (b' := a0b) (i' := (Z 47 a0b a1 0)) (j' := 7) hZ7 (fun q => absurd q.1 (by decide))).trans (zu_ne (k' := 44) (b' := a0b) (i' := (Z 47 a0b a1 0)) (j' := 7) hZ5 (fun q => absurd q.1 (by decide))))
  obtain ⟨Z12, hZ12⟩ := zx (zu Z9 47 a0b a1 15 (Z9 44 a0b (Z 47 a0b a1 0) 7))
  replace hP := zl_e hP hZ12
  have hZ12I := zH_u hZ9I hZ12 (lo := -1) (hi := 2000) (by decide) rfl (by omega) ⟨by decide, by decide⟩ (Or.inl (by decide)) rfl
  have hZ12U : zU [a0b] Z Z12 := zU_u hZ9U hZ12 (Or.inr (List.Mem.head _))
  have hZ12K : zC [43, 44, 47] Z Z12 := zC_u hZ9K hZ12 (by decide)
  intro μ9 e9
  replace e9 := e9.trans (zm_wI (Z := Z9) (ν := ν) hZ12 (rfl : ((a0b : Nat) : Int) = a0b) (i3I (y := a1) (rfl : i3 a1 = i3 a1) (by omega) (by omega) (by omega)) (show ((15 : Nat) : Int) = 15 from rfl) (zm_rd (Z := Z9) (ν := ν) (k := 44) (rfl : ((a0b : Nat) : Int) = a0b) (i3I (y := (Z 47 a0b a1 0)) (zm_rd (Z := Z) (ν := ν) (k := 47) (rfl : ((a0b : Nat) : Int) = a0b) (i3I (y := a1) (rfl : i3 a1 = i3 a1) (by omega) (by omega) (by omega)) (show ((0 : Nat) : Int) = 0 from rfl)) (by omega) (by omega) (by omega)) (show ((7 : Nat) : Int) = 7 from rfl)))
  subst e9
  have r13 := zH_k hZ12I 44 a0b (Z 47 a0b a1 0) 8 (lo := 0) (hi := 999) (by decide) rfl
  have q14 := (zu_ne (k' := 44) (b' := a0b) (i' := (Z 47 a0b a1 0)) (j' := 8) hZ12 (fun q => absurd q.1 (by decide))).trans ((zu_ne (k' := 44) (b' := a0b) (i' := (Z 47 a0b a1 0)) (j' := 8) hZ9 (fun q => absurd q.1 (by decide))).trans (zu_ne (k' := 44) (b' := a0b) (i' := (Z 47 a0b a1 0)) (j' := 8) hZ7 (fun q => absurd q.1 (by decide))))
  obtain ⟨Z15, hZ15⟩ := zx (zu Z12 47 a0b a1 16 (Z12 44 a0b (Z 47 a0b a1 0) 8))
  replace hP := zl_e hP hZ15
  have hZ15I := zH_u hZ12I hZ15 (lo := -1) (hi := 999) (by decide) rfl (by omega) ⟨by decide, by decide⟩ (Or.inl (by decide)) rfl
  have hZ15U : zU [a0b] Z Z15 := zU_u hZ12U hZ15 (Or.inr (List.Mem.head _))
  have hZ15K : zC [43, 44, 47] Z Z15 := zC_u hZ12K hZ15 (by decide)
  intro μ9 e9
  replace e9 := e9.trans (zm_wI (Z := Z12) (ν := ν) hZ15 (rfl : ((a0b : Nat) : Int) = a0b) (i3I (y := a1) (rfl : i3 a1 = i3 a1) (by omega) (by omega) (by omega)) (show ((16 : Nat) : Int) = 16 from rfl) (zm_rd (Z := Z12) (ν := ν) (k := 44) (rfl : ((a0b : Nat) : Int) = a0b) (i3I (y := (Z 47 a0b a1 0)) (zm_rd (Z := Z) (ν := ν) (k := 47) (rfl : ((a0b : Nat) : Int) = a0b) (i3I (y := a1) (rfl : i3 a1 = i3 a1) (by omega) (by omega) (by omega)) (show ((0 : Nat) : Int) = 0 from rfl)) (by omega) (by omega) (by omega)) (show ((8 : Nat) : Int) = 8 from rfl)))
  subst e9
  have r16 := zH_k hZ15I 47 a0b a1 0 (lo := 0) (hi := 47) (by decide) rfl
  have q17 := (zu_ne (k' := 47) (b' := a0b) (i' := a1) (j' := 0) hZ15 (fun q => absurd q.2.2.2 (by decide))).trans ((zu_ne (k' := 47) (b' := a0b) (i' := a1) (j' := 0) hZ12 (fun q => absurd q.2.2.2 (by decide))).trans ((zu_ne (k' := 47) (b' := a0b) (i' := a1) (j' := 0) hZ9 (fun q => absurd q.2.2.2 (by decide))).trans ((zu_ne (k' := 47) (b' := a0b) (i' := a1) (j' := 0) hZ7 (fun q => absurd q.2.2.2 (by decide))).trans ((zu_ne (k' := 47) (b' := a0b) (i' := a1) (j' := 0) hZ5 (fun q => absurd q.2.2.2 (by decide))).trans ((zu_ne (k' := 47) (b' := a0b) (i' := a1) (j' := 0) hZ3 (fun q => absurd q.2.2.2 (by decide))).trans (zu_ne (k' := 47) (b' := a0b) (i' := a1) (j' := 0) hZ2 (fun q => absurd q.2.2.2 (by decide))))))))
  refine wz_i0 (i3O (n := 48) (zm_rd (Z := Z15) (ν := ν) (k := 47) (rfl : ((a0b : Nat) : Int) = a0b) (i3I (y := a1) (rfl : i3 a1 = i3 a1) (by omega) (by omega) (by omega)) (show ((0 : Nat) : Int) = 0 from rfl)) (by omega) (by omega) (by omega)) ?_
  have r18 := zH_k hZ15I 44 a0b (Z15 47 a0b a1 0) 10 (lo := 0) (hi := 4) (by decide) rfl
  refine wz_br (i3NE (zm_rd (Z := Z15) (ν := ν) (k := 44) (rfl : ((a0b : Nat) : Int) = a0b) (i3I (y := (Z15 47 a0b a1 0)) (zm_rd (Z := Z15) (ν := ν) (k := 47) (rfl : ((a0b : Nat) : Int) = a0b) (i3I (y := a1) (rfl : i3 a1 = i3 a1) (by omega) (by omega) (by omega)) (show ((0 : Nat) : Int) = 0 from rfl)) (by omega) (by omega) (by omega)) (show ((10 : Nat) : Int) = 10 from rfl)) (show (0 : Int32) = i3 0 from rfl) (by omega) (by omega) (by omega) (by omega)) (fun h19 => ?_) (fun h19 => ?_)
  · replace hP := zE_p hP h19
    obtain ⟨v20, hv20, c9, lv20, uv20⟩ := sp_43 (ν := ν) hZ15I a0b (a1 := a2) (by omega) (zbh (c := 0) (k := 0) hM (Nat.le_of_ble_eq_true rfl))
    replace hP := zl_e hP hv20
    refine wz_cI_of (zas (zcons rfl (zcons (zvi (rfl : i3 a2 = i3 a2)) rfl)) c9) ?_
    clear c9
    exact zlW hP (rfl : i3 v20 = i3 v20) ⟨(zbw (a := 0) (c := 2) hZ15I (Nat.le_of_ble_eq_true rfl)), hZ15K, hZ15U, by omega, by omega⟩
  · replace hP := zE_n hP h19
    have r21 := zH_k hZ15I 44 a0b (Z15 47 a0b a1 0) 4 (lo := 0) (hi := 40) (by decide) rfl
    refine wz_br (i3NE (zm_rd (Z := Z15) (ν := ν) (k := 44) (rfl : ((a0b : Nat) : Int) = a0b) (i3I (y := (Z15 47 a0b a1 0)) (zm_rd (Z := Z15) (ν := ν) (k := 47) (rfl : ((a0b : Nat) : Int) = a0b) (i3I (y := a1) (rfl : i3 a1 = i3 a1) (by omega) (by omega) (by omega)) (show ((0 : Nat) : Int) = 0 from rfl)) (by omega) (by omega) (by omega)) (show ((4 : Nat) : Int) = 4 from rfl)) (show (0 : Int32) = i3 0 from rfl) (by omega) (by omega) (by omega) (by omega)) (fun h22 => ?_) (fun h22 => ?_)
    · replace hP := zE_p hP h22
      obtain ⟨v23, hv23, c9, lv23, uv23⟩ := sp_43 (ν := ν) hZ15I a0b (a1 := a2) (by omega) (zbh (c := 0) (k := 0) hM (Nat.le_of_ble_eq_true rfl))
      replace hP := zl_e hP hv23
      refine wz_cI_of (zas (zcons rfl (zcons (zvi (rfl : i3 a2 = i3 a2)) rfl)) c9) ?_
      clear c9
      exact zlW hP (rfl : i3 v23 = i3 v23) ⟨(zbw (a := 0) (c := 2) hZ15I (Nat.le_of_ble_eq_true rfl)), hZ15K, hZ15U, by omega, by omega⟩
    · replace hP := zE_n hP h22
      obtain ⟨v24, hv24, c9, lv24, uv24⟩ := sp_109 (ν := ν) hZ15I a0b (a1 := (Z15 47 a0b a1 0)) (by omega) (zbh (c := 0) (k := 0) hM (Nat.le_of_ble_eq_true rfl))
      replace hP := zl_e hP hv24
      refine wz_cI_of (zas (zcons rfl (zcons (zvi (zm_rd (Z := Z15) (ν := ν) (k := 47) (rfl : ((a0b : Nat) : Int) = a0b) (i3I (y := a1) (rfl : i3 a1 = i3 a1) (by omega) (by omega) (by omega)) (show ((0 : Nat) : Int) = 0 from rfl))) rfl)) c9) ?_
      clear c9
      refine wz_br (i3NE (rfl : i3 v24 = i3 v24) (show (0 : Int32) = i3 0 from rfl) (by omega) (by omega) (by omega) (by omega)) (fun h25 => ?_) (fun h25 => ?_)
      · replace hP := zE_p hP h25
        obtain ⟨v26, hv26, c9, lv26, uv26⟩ := sp_43 (ν := ν) hZ15I a0b (a1 := a2) (by omega) (zbh (c := 0) (k := 0) hM (Nat.le_of_ble_eq_true rfl))
        replace hP := zl_e hP hv26
        refine wz_cI_of (zas (zcons rfl (zcons (zvi (rfl : i3 a2 = i3 a2)) rfl)) c9) ?_
        clear c9
        exact zlW hP (rfl : i3 v26 = i3 v26) ⟨(zbw (a := 0) (c := 2) hZ15I (Nat.le_of_ble_eq_true rfl)), hZ15K, hZ15U, by omega, by omega⟩
      · replace hP := zE_n hP h25
        obtain ⟨Z27, hZ27⟩ := zx (zu Z15 44 a0b (Z15 47 a0b a1 0) 10 2)
        replace hP := zl_e hP hZ27
        have hZ27I := zH_u hZ15I hZ27 (lo := 0) (hi := 4) (by decide) rfl (by omega) ⟨by decide, by decide⟩ (Or.inl (by decide)) rfl
        have hZ27U : zU [a0b] Z Z27 := zU_u hZ15U hZ27 (Or.inr (List.Mem.head _))
        have hZ27K : zC [43, 44, 47] Z Z27 := zC_u hZ15K hZ27 (by decide)
        intro μ9 e9
        replace e9 := e9.trans (zm_wI (Z := Z15) (ν := ν) hZ27 (rfl : ((a0b : Nat) : Int) = a0b) (i3I (y := (Z15 47 a0b a1 0)) (zm_rd (Z := Z15) (ν := ν) (k := 47) (rfl : ((a0b : Nat) : Int) = a0b) (i3I (y := a1) (rfl : i3 a1 = i3 a1) (by omega) (by omega) (by omega)) (show ((0 : Nat) : Int) = 0 from rfl)) (by omega) (by omega) (by omega)) (show ((10 : Nat) : Int) = 10 from rfl) (show (2 : Int32) = i3 2 from rfl))
        subst e9
        obtain ⟨Z28, hZ28, c9, hZ28I, kZ28, jZ28⟩ := sp_175 (ν := ν) hZ27I a0b a0b _ (i3I (y := (Z15 47 a0b a1 0)) (zm_rd (Z := Z15) (ν := ν) (k := 47) (rfl : ((a0b : Nat) : Int) = a0b) (i3I (y := a1) (rfl : i3 a1 = i3 a1) (by omega) (by omega) (by omega)) (show ((0 : Nat) : Int) = 0 from rfl)) (by omega) (by omega) (by omega)) (by omega) (a2 := (-1)) (by omega) (zbh (c := 0) (k := 2) hM (Nat.le_of_ble_eq_true rfl))
        have hZ28U : zU [a0b] Z Z28 := zU_t hZ27U jZ28 (zU_b1 (List.Mem.head _) (zU_b1 (List.Mem.head _) zU_b0))
        have hZ28K : zC [43, 44, 47] Z Z28 := zC_t hZ27K kZ28 (by decide)
        replace hP := zl_e hP hZ28
        refine wz_cV_of (zas (zcons rfl (zcons rfl (zcons (zvi (show (-1 : Int32) = i3 (-1) from rfl)) rfl))) c9) ?_
        clear c9
        obtain ⟨v29, hv29, c9, lv29, uv29⟩ := sp_43 (ν := ν) hZ28I a0b (a1 := a2) (by omega) (zbh (c := 2) (k := 0) hM (Nat.le_of_ble_eq_true rfl))
        replace hP := zl_e hP hv29
        refine wz_cI_of (zas (zcons rfl (zcons (zvi (rfl : i3 a2 = i3 a2)) rfl)) c9) ?_
        clear c9
        exact zlW hP (rfl : i3 v29 = i3 v29) ⟨hZ28I, hZ28K, hZ28U, by omega, by omega⟩
/- yX3_takeOut -/
def zl_76_1 (x0b : Int) (x1 : Int) (x2 : Int) : Nat → qz_Z → Int → (qz_Z × Int) ⊕ (qz_Z × Int)
  | 0, Z, x3 => (.inl (Z, x3))
  | m + 1, Z, x3 => (if (Z 48 x0b x2 5) ≤ x3 then (.inl (Z, x3)) else (if (Z 49 x0b (12 * x2 + x3) 0) ≠ x1 then zl_76_1 x0b x1 x2 m Z (x3 + 1) else (zlet (zu Z 44 x0b x1 10 0) (fun Z5 => (zlet (zf_69 Z5 x0b x2 x3) (fun Z8 => (.inr (Z8, (Z8 48 x0b x2 5)))))))))
theorem sl_76_1 {s : zSM} {Zs Z : qz_Z} {ν : qz_N} (hZ : zH s Z) (hM : s.2 + 0 ≤ 1000000000) (hK : zC [44, 48, 49] Zs Z) (x0b : Nat) {x1 : Int} (gx1 : 0 ≤ x1 ∧ x1 ≤ 47) {x2 : Int} (gx2 : 0 ≤ x2 ∧ x2 ≤ 1) {x3 : Int} (gx3 : 0 ≤ x3 ∧ x3 ≤ 12) (hU : zU [x0b] Zs Z) (hLtx0b : zLt x0b Z) {k : wz_K} {R : wz_R} {L : qz_L} (hL : qz_fg [true, true, true, true] L = [some (.inr (.inr (some (10, x0b, 0)))), some (.inl (i3 x1)), some (.inl (i3 x2)), some (.inl (i3 x3))]) {T : (qz_Z × Int) ⊕ (qz_Z × Int)} (hP : zE T (zl_76_1 x0b x1 x2 ((12 - x3).toNat + 1) Z x3)) (hk : ∀ (L9 : qz_L) (Z9 : qz_Z) (yx3 : Int), qz_fg [true, true, true, false] L9 = [some (.inr (.inr (some (10, x0b, 0)))), some (.inl (i3 x1)), some (.inl (i3 x2)), none] → zH s Z9 → zC [44, 48, 49] Zs Z9 → zU [x0b] Zs Z9 → zLt x0b Z9 → (0 ≤ yx3 ∧ yx3 ≤ 12) → zE T (.inl (Z9, yx3)) → k 0 (L9, [], zm Z9 ν)) (hr : ∀ (Z8 : qz_Z) (v8 : Int), zH s Z8 → zC [44, 48, 49] Zs Z8 → zU [x0b] Zs Z8 → zLt x0b Z8 → 0 ≤ v8 → v8 ≤ 12 → zE T (.inr (Z8, v8)) → R (zm Z8 ν) (.inl (some (.inl (i3 v8))))) : wz_loop qb_76_1 65536 k R (L, [], zm Z ν) := by
  refine wz_lp sb_76_1 (fun m x => ∃ Z : qz_Z, ∃ x3 : Int, qz_fg [true, true, true, true] x.1 = [some (.inr (.inr (some (10, x0b, 0)))), some (.inl (i3 x1)), some (.inl (i3 x2)), some (.inl (i3 x3))] ∧ x.2 = ([], zm Z ν) ∧ zH s Z ∧ zC [44, 48, 49] Zs Z ∧ zU [x0b] Zs Z ∧ zLt x0b Z ∧ m = (12 - x3).toNat ∧ (0 ≤ x3 ∧ x3 ≤ 12) ∧ zE T (zl_76_1 x0b x1 x2 (m + 1) Z x3)) ?_ 65536 ((12 - x3).toNat) _ (by omega) ⟨Z, x3, hL, rfl, hZ, hK, hU, hLtx0b, rfl, gx3, hP⟩
  clear hP gx3 hZ hK hU hLtx0b hL
  clear x3
  clear Z
  rintro m ⟨L, st, μ⟩ ⟨Z, x3, hL, hx, hZ, hK, hU, hLtx0b, hm, gx3, hP⟩
  cases hx
  refine fb_76_1 x0b (i3 x1) (i3 x2) (i3 x3) _ _ _ _ hL ?_
  refine wz_i0 (i3O (n := 2) (rfl : i3 x2 = i3 x2) (by omega) (by omega) (by omega)) ?_
  have r1 := zH_k hZ 48 x0b x2 5 (lo := 0) (hi := 12) (by decide) rfl
  refine wz_br (i3Le (zm_rd (Z := Z) (ν := ν) (k := 48) (rfl : ((x0b : Nat) : Int) = x0b) (i3I (y := x2) (rfl : i3 x2 = i3 x2) (by omega) (by omega) (by omega)) (show ((5 : Nat) : Int) = 5 from rfl)) (rfl : i3 x3 = i3 x3) (by omega) (by omega) (by omega) (by omega)) (fun h2 => ?_) (fun h2 => ?_)
  · replace hP := zE_p hP h2
    exact hk _ _ _ (zconso rfl (zconso (zvo (rfl : i3 x1 = i3 x1)) (zconso (zvo (rfl : i3 x2 = i3 x2)) (zconso rfl rfl)))) hZ hK hU hLtx0b (by omega)  hP
  · replace hP := zE_n hP h2
    refine wz_i0 (i3O (n := 24) (i3A (i3M (rfl : i3 x2 = i3 x2) (show (12 : Int32) = i3 12 from rfl)) (rfl : i3 x3 = i3 x3)) (by omega) (by omega) (by omega)) ?_
    have r3 := zH_k hZ 49 x0b (12 * x2 + x3) 0 (lo := 0) (hi := 47) (by decide) rfl
    refine wz_br (i3NE (zm_rd (Z := Z) (ν := ν) (k := 49) (rfl : ((x0b : Nat) : Int) = x0b) (i3I (y := (12 * x2 + x3)) (i3A (i3M (rfl : i3 x2 = i3 x2) (show (12 : Int32) = i3 12 from rfl)) (rfl : i3 x3 = i3 x3)) (by omega) (by omega) (by omega)) (show ((0 : Nat) : Int) = 0 from rfl)) (rfl : i3 x1 = i3 x1) (by omega) (by omega) (by omega) (by omega)) (fun h4 => ?_) (fun h4 => ?_)
    · replace hP := zE_p hP h4
      obtain ⟨m2, rfl⟩ : ∃ m2, m = m2 + 1 := ⟨m - 1, by omega⟩
      exact wz_k1 ⟨m2, by omega, Z, (x3 + 1), (zconso rfl (zconso (zvo (rfl : i3 x1 = i3 x1)) (zconso (zvo (rfl : i3 x2 = i3 x2)) (zconso (zvo (i3A (rfl : i3 x3 = i3 x3) (show (1 : Int32) = i3 1 from rfl))) rfl)))), rfl, hZ, hK, hU, hLtx0b, by omega, by omega,  hP⟩
    · replace hP := zE_n hP h4
      refine wz_i0 (i3O (n := 48) (rfl : i3 x1 = i3 x1) (by omega) (by omega) (by omega)) ?_
      obtain ⟨Z5, hZ5⟩ := zx (zu Z 44 x0b x1 10 0)
      replace hP := zl_e hP hZ5
      have hZ5I := zH_0 hZ hZ5 (by decide) (Or.inl (by decide))
      have hZ5U : zU [x0b] Zs Z5 := zU_u hU hZ5 (Or.inr (List.Mem.head _))
      have hZ5K : zC [44, 48, 49] Zs Z5 := zC_u hK hZ5 (by decide)
      intro μ9 e9
      replace e9 := e9.trans (zm_wI (Z := Z) (ν := ν) hZ5 (rfl : ((x0b : Nat) : Int) = x0b) (i3I (y := x1) (rfl : i3 x1 = i3 x1) (by omega) (by omega) (by omega)) (show ((10 : Nat) : Int) = 10 from rfl) (show (0 : Int32) = i3 0 from rfl))
      subst e9
      have r6 := zH_k hZ5I 48 x0b x2 5 (lo := 0) (hi := 12) (by decide) rfl
      have q7 := zu_ne (k' := 48) (b' := x0b) (i' := x2) (j' := 5) hZ5 (fun q => absurd q.1 (by decide))
      obtain ⟨Z8, hZ8, c9, hZ8I, kZ8, jZ8, wZ80⟩ := sp_69 (ν := ν) hZ5I x0b (a1 := x2) (by omega) (a2 := x3) (by omega) (by omega) (zbh (c := 0) (k := 0) hM (Nat.le_of_ble_eq_true rfl))
      have hZ8U : zU [x0b] Zs Z8 := zU_t hZ5U jZ8 (zU_b1 (List.Mem.head _) zU_b0)
      have hZ8K : zC [44, 48, 49] Zs Z8 := zC_t hZ5K kZ8 (by decide)
      replace hP := zl_e hP hZ8
      refine wz_cV_of (zas (zcons rfl (zcons (zvi (rfl : i3 x2 = i3 x2)) (zcons (zvi (rfl : i3 x3 = i3 x3)) rfl))) c9) ?_
      clear c9
      have r9 := zH_k hZ8I 48 x0b x2 5 (lo := 0) (hi := 12) (by decide) rfl
      refine wz_i0 (i3O (n := 2) (rfl : i3 x2 = i3 x2) (by omega) (by omega) (by omega)) ?_
      rw [(zm_rd (Z := Z8) (ν := ν) (k := 48) (rfl : ((x0b : Nat) : Int) = x0b) (i3I (y := x2) (rfl : i3 x2 = i3 x2) (by omega) (by omega) (by omega)) (show ((5 : Nat) : Int) = 5 from rfl))]
      exact hr _ _ hZ8I hZ8K hZ8U (lt_69 hZ8 (zLt_o hLtx0b hZ5 ⟨by decide, .inl (by decide)⟩) (by omega) (by omega) (by omega) (by omega)) (by omega) (by omega) hP
/- yX3_takeOut -/
def zl_76_3 (x0b : Int) (x1 : Int) : Nat → qz_Z → Int → (qz_Z × Int) ⊕ (qz_Z × Int)
  | 0, Z, x2 => (.inl (Z, x2))
  | m + 1, Z, x2 => (if (Z 11 x0b 0 7) ≤ x2 then (.inl (Z, x2)) else (zsum (zl_76_1 x0b x1 x2 13 Z 0) (fun q => zlet2 q (fun Z4 y3 => zl_76_3 x0b x1 m Z4 (x2 + 1))) (fun r => (.inr r))))
theorem sl_76_3 {s : zSM} {Zs Z : qz_Z} {ν : qz_N} (hZ : zH s Z) (hM : s.2 + 0 ≤ 1000000000) (hK : zC [44, 48, 49] Zs Z) (x0b : Nat) {x1 : Int} (gx1 : 0 ≤ x1 ∧ x1 ≤ 47) {x2 : Int} (gx2 : 0 ≤ x2 ∧ x2 ≤ 2) (hU : zU [x0b] Zs Z) (hLtx0b : zLt x0b Z) {k : wz_K} {R : wz_R} {L : qz_L} (hL : qz_fg [true, true, true, false] L = [some (.inr (.inr (some (10, x0b, 0)))), some (.inl (i3 x1)), some (.inl (i3 x2)), none]) {T : (qz_Z × Int) ⊕ (qz_Z × Int)} (hP : zE T (zl_76_3 x0b x1 ((2 - x2).toNat + 1) Z x2)) (hk : ∀ (L9 : qz_L) (Z9 : qz_Z) (yx2 : Int), qz_fg [false, false, false, false] L9 = [none, none, none, none] → zH s Z9 → zC [44, 48, 49] Zs Z9 → zU [x0b] Zs Z9 → zLt x0b Z9 → (0 ≤ yx2 ∧ yx2 ≤ 2) → zE T (.inl (Z9, yx2)) → k 0 (L9, [], zm Z9 ν)) (hr : ∀ (Z8 : qz_Z) (v8 : Int), zH s Z8 → zC [44, 48, 49] Zs Z8 → zU [x0b] Zs Z8 → zLt x0b Z8 → 0 ≤ v8 → v8 ≤ 12 → zE T (.inr (Z8, v8)) → R (zm Z8 ν) (.inl (some (.inl (i3 v8))))) : wz_loop qb_76_3 65536 k R (L, [], zm Z ν) := by
  refine wz_lp sb_76_3 (fun m x => ∃ Z : qz_Z, ∃ x2 : Int, qz_fg [true, true, true, false] x.1 = [some (.inr (.inr (some (10, x0b, 0)))), some (.inl (i3 x1)), some (.inl (i3 x2)), none] ∧ x.2 = ([], zm Z ν) ∧ zH s Z ∧ zC [44, 48, 49] Zs Z ∧ zU [x0b] Zs Z ∧ zLt x0b Z ∧ m = (2 - x2).toNat ∧ (0 ≤ x2 ∧ x2 ≤ 2) ∧ zE T (zl_76_3 x0b x1 (m + 1) Z x2)) ?_ 65536 ((2 - x2).toNat) _ (by omega) ⟨Z, x2, hL, rfl, hZ, hK, hU, hLtx0b, rfl, gx2, hP⟩
  clear hP gx2 hZ hK hU hLtx0b hL
  clear x2
  clear Z
  rintro m ⟨L, st, μ⟩ ⟨Z, x2, hL, hx, hZ, hK, hU, hLtx0b, hm, gx2, hP⟩
  cases hx
  refine fb_76_3 x0b (i3 x1) (i3 x2) _ _ _ _ hL ?_
  have r1 := zH_k hZ 11 x0b 0 7 (lo := 0) (hi := 2) (by decide) rfl
  refine wz_br (i3Le (zm_rd (Z := Z) (ν := ν) (k := 11) (rfl : ((x0b : Nat) : Int) = x0b) (show ((0 : Nat) : Int) = 0 from rfl) (show ((7 : Nat) : Int) = 7 from rfl)) (rfl : i3 x2 = i3 x2) (by omega) (by omega) (by omega) (by omega)) (fun h2 => ?_) (fun h2 => ?_)
  · replace hP := zE_p hP h2
    exact hk _ _ _ (zconso rfl (zconso rfl (zconso rfl (zconso rfl rfl)))) hZ hK hU hLtx0b (by omega)  hP
  · replace hP := zE_n hP h2
    refine sl_76_1 (ν := ν) hZ (zbh (c := 0) (k := 0) hM (Nat.le_of_ble_eq_true rfl)) zC_r x0b (x1 := x1) (by omega) (x2 := x2) (by omega) (x3 := 0) (by omega) zU_r hLtx0b  (zconso rfl (zconso (zvo (rfl : i3 x1 = i3 x1)) (zconso (zvo (rfl : i3 x2 = i3 x2)) (zconso (zvo (show (0 : Int32) = i3 0 from rfl)) rfl)))) rfl ?_ ?_
    · intro L5 Z4 y3 hL5 hZ4I kZ4 jZ4 tZ4_x0b gy3 q9
      replace hP := zl_sl2 hP (Eq.symm q9)
      clear q9
      have hZ4U : zU [x0b] Zs Z4 := zU_t hU jZ4 (zU_b1 (List.Mem.head _) zU_b0)
      have hZ4K : zC [44, 48, 49] Zs Z4 := zC_t hK kZ4 (by decide)
      refine fc_76_2 _ (i3 x1) (i3 x2) _ _ _ _ hL5 ?_
      obtain ⟨m2, rfl⟩ : ∃ m2, m = m2 + 1 := ⟨m - 1, by omega⟩
      refine wz_kbs (n := 1) (?_)
      exact wz_k1 ⟨m2, by omega, Z4, (x2 + 1), (zconso rfl (zconso (zvo (rfl : i3 x1 = i3 x1)) (zconso (zvo (i3A (rfl : i3 x2 = i3 x2) (show (1 : Int32) = i3 1 from rfl))) (zconso rfl rfl)))), rfl, hZ4I, hZ4K, hZ4U, tZ4_x0b, by omega, by omega,  hP⟩
    · intro Z8 v8 hZ8 k8 j8 t8_x0b l8 u8 q8
      replace hP := zl_sr hP (Eq.symm q8)
      have hU8 : zU [x0b] Zs Z8 := zU_t hU j8 (zU_b1 (List.Mem.head _) zU_b0)
      have hK8 : zC [44, 48, 49] Zs Z8 := zC_t hK k8 (by decide)
      exact hr _ _ hZ8 hK8 hU8 t8_x0b (by omega) (by omega) hP
/- yX3_takeOut -/
def zf_76 (Z : qz_Z) (a0b : Int) (a1 : Int) : qz_Z × Int := (zsum (zl_76_3 a0b a1 3 Z 0) (fun q => zlet2 q (fun Z2 y1 => (Z2, 0))) (fun r => r))
theorem sp_76 {s : zSM} {Z : qz_Z} {ν : qz_N} (hZ : zH s Z) (a0b : Nat) {a1 : Int} (ga1 : 0 ≤ a1 ∧ a1 ≤ 47) (hLta0b : zLt a0b Z) (hM : s.2 + 0 ≤ 1000000000) : ∃ (Z1 : qz_Z) (P : Int), (Z1, P) = zf_76 Z a0b a1 ∧ (qf_76 [.inr (.inr (some (10, a0b, 0))), .inl (i3 a1)] (zm Z ν) = some (zm Z1 ν, .inl (some (.inl (i3 P)))) ∧ zH s Z1 ∧ zC [44, 48, 49] Z Z1 ∧ zU [a0b] Z Z1 ∧ 0 ≤ P ∧ P ≤ 12 ∧ zLt a0b Z1) := by
  obtain ⟨P, hP⟩ := zx (zf_76 Z a0b a1)
  refine zc_W (Q := fun Z1 P => zH s Z1 ∧ zC [44, 48, 49] Z Z1 ∧ zU [a0b] Z Z1 ∧ 0 ≤ P ∧ P ≤ 12 ∧ zLt a0b Z1) hP (fw_76 a0b (i3 a1) _ _ ?_)
  replace hP : zE P (zf_76 Z a0b a1) := hP
  unfold zf_76 at hP
  refine sl_76_3 (ν := ν) hZ (zbh (c := 0) (k := 0) hM (Nat.le_of_ble_eq_true rfl)) zC_r a0b (x1 := a1) (by omega) (x2 := 0) (by omega) zU_r hLta0b  (zconso rfl (zconso (zvo (rfl : i3 a1 = i3 a1)) (zconso (zvo (show (0 : Int32) = i3 0 from rfl)) (zconso rfl rfl)))) rfl ?_ ?_
  · intro L3 Z2 y1 hL3 hZ2I kZ2 jZ2 tZ2_x0b gy1 q9
    replace hP := zl_sl2 hP (Eq.symm q9)
    clear q9
    have hZ2U : zU [a0b] Z Z2 := zU_t zU_r jZ2 (zU_b1 (List.Mem.head _) zU_b0)
    have hZ2K : zC [44, 48, 49] Z Z2 := zC_t zC_r kZ2 (by decide)
    refine fc_76_4  _ _ _ _ hL3 ?_
    exact zlW hP (show (0 : Int32) = i3 0 from rfl) ⟨hZ2I, hZ2K, hZ2U, by omega, by omega, tZ2_x0b⟩
  · intro Z8 v8 hZ8 k8 j8 t8_x0b l8 u8 q8
    replace hP := zl_sr hP (Eq.symm q8)
    have hU8 : zU [a0b] Z Z8 := zU_t zU_r j8 (zU_b1 (List.Mem.head _) zU_b0)
    have hK8 : zC [44, 48, 49] Z Z8 := zC_t zC_r k8 (by decide)
    exact zlW hP rfl ⟨hZ8, hK8, hU8, by omega, by omega, t8_x0b⟩
/- yX5_least -/
def zf_100 (Z : qz_Z) (a0b : Int) (a1b : Int) (a1ij : Int) : Int := (if ((Z 41 a0b (Z 44 a1b a1ij 1) 3) - (Z 41 a0b (Z 44 a1b a1ij 1) 4)) ≤ (Z 44 a1b a1ij 7) then (if ((Z 41 a0b (Z 44 a1b a1ij 1) 3) + (Z 41 a0b (Z 44 a1b a1ij 1) 4)) < (Z 44 a1b a1ij 7) then (if ((Z 41 a0b (Z 44 a1b a1ij 1) 3) + (3 * (Z 41 a0b (Z 44 a1b a1ij 1) 4))) < (Z 44 a1b a1ij 7) then 3 else 2) else 0) else 0)
theorem sp_100 {s : zSM} {Z : qz_Z} {ν : qz_N} (hZ : zH s Z) (a0b : Nat) (a1b : Nat) (a1i : Nat) {a1ij : Int} (ea1i : (a1i : Int) = a1ij) (ga1i : 0 ≤ a1ij ∧ a1ij ≤ 47) (hM : s.2 + 0 ≤ 1000000000) : ∃ P : Int, P = zf_100 Z a0b a1b a1ij ∧ (qf_100 [.inr (.inr (some (10, a0b, 0))), .inr (.inr (some (44, a1b, a1i)))] (zm Z ν) = some (zm Z ν, .inl (some (.inl (i3 P)))) ∧ 0 ≤ P ∧ P ≤ 3) := by
  obtain ⟨P, hP⟩ := zx (zf_100 Z a0b a1b a1ij)
  refine zc_R (Q := fun P => 0 ≤ P ∧ P ≤ 3) hP (fw_100 a0b a1b a1i _ _ ?_)
  replace hP : zE P (zf_100 Z a0b a1b a1ij) := hP
  unfold zf_100 at hP
  have r1 := zH_k hZ 44 a1b a1ij 1 (lo := 0) (hi := 4) (by decide) rfl
  refine wz_i0 (i3O (n := 5) (zm_rd (Z := Z) (ν := ν) (k := 44) (rfl : ((a1b : Nat) : Int) = a1b) ea1i (show ((1 : Nat) : Int) = 1 from rfl)) (by omega) (by omega) (by omega)) ?_
  refine wz_i0 (i3O (n := 5) (zm_rd (Z := Z) (ν := ν) (k := 44) (rfl : ((a1b : Nat) : Int) = a1b) ea1i (show ((1 : Nat) : Int) = 1 from rfl)) (by omega) (by omega) (by omega)) ?_
  have r2 := zH_k hZ 41 a0b (Z 44 a1b a1ij 1) 3 (lo := 0) (hi := 600) (by decide) rfl
  have r3 := zH_k hZ 41 a0b (Z 44 a1b a1ij 1) 4 (lo := 0) (hi := 99) (by decide) rfl
  have r4 := zH_k hZ 44 a1b a1ij 7 (lo := 0) (hi := 2000) (by decide) rfl
  refine wz_br (i3Le (i3S (zm_rd (Z := Z) (ν := ν) (k := 41) (rfl : ((a0b : Nat) : Int) = a0b) (i3I (y := (Z 44 a1b a1ij 1)) (zm_rd (Z := Z) (ν := ν) (k := 44) (rfl : ((a1b : Nat) : Int) = a1b) ea1i (show ((1 : Nat) : Int) = 1 from rfl)) (by omega) (by omega) (by omega)) (show ((3 : Nat) : Int) = 3 from rfl)) (zm_rd (Z := Z) (ν := ν) (k := 41) (rfl : ((a0b : Nat) : Int) = a0b) (i3I (y := (Z 44 a1b a1ij 1)) (zm_rd (Z := Z) (ν := ν) (k := 44) (rfl : ((a1b : Nat) : Int) = a1b) ea1i (show ((1 : Nat) : Int) = 1 from rfl)) (by omega) (by omega) (by omega)) (show ((4 : Nat) : Int) = 4 from rfl))) (zm_rd (Z := Z) (ν := ν) (k := 44) (rfl : ((a1b : Nat) : Int) = a1b) ea1i (show ((7 : Nat) : Int) = 7 from rfl)) (by omega) (by omega) (by omega) (by omega)) (fun h5 => ?_) (fun h5 => ?_)
  · replace hP := zE_p hP h5
    refine wz_br (i3L (i3A (zm_rd (Z := Z) (ν := ν) (k := 41) (rfl : ((a0b : Nat) : Int) = a0b) (i3I (y := (Z 44 a1b a1ij 1)) (zm_rd (Z := Z) (ν := ν) (k := 44) (rfl : ((a1b : Nat) : Int) = a1b) ea1i (show ((1 : Nat) : Int) = 1 from rfl)) (by omega) (by omega) (by omega)) (show ((3 : Nat) : Int) = 3 from rfl)) (zm_rd (Z := Z) (ν := ν) (k := 41) (rfl : ((a0b : Nat) : Int) = a0b) (i3I (y := (Z 44 a1b a1ij 1)) (zm_rd (Z := Z) (ν := ν) (k := 44) (rfl : ((a1b : Nat) : Int) = a1b) ea1i (show ((1 : Nat) : Int) = 1 from rfl)) (by omega) (by omega) (by omega)) (show ((4 : Nat) : Int) = 4 from rfl))) (zm_rd (Z := Z) (ν := ν) (k := 44) (rfl : ((a1b : Nat) : Int) = a1b) ea1i (show ((7 : Nat) : Int) = 7 from rfl)) (by omega) (by omega) (by omega) (by omega)) (fun h6 => ?_) (fun h6 => ?_)
    · replace hP := zE_p hP h6
      refine wz_br (i3L (i3A (zm_rd (Z := Z) (ν := ν) (k := 41) (rfl : ((a0b : Nat) : Int) = a0b) (i3I (y := (Z 44 a1b a1ij 1)) (zm_rd (Z := Z) (ν := ν) (k := 44) (rfl : ((a1b : Nat) : Int) = a1b) ea1i (show ((1 : Nat) : Int) = 1 from rfl)) (by omega) (by omega) (by omega)) (show ((3 : Nat) : Int) = 3 from rfl)) (i3M (show (3 : Int32) = i3 3 from rfl) (zm_rd (Z := Z) (ν := ν) (k := 41) (rfl : ((a0b : Nat) : Int) = a0b) (i3I (y := (Z 44 a1b a1ij 1)) (zm_rd (Z := Z) (ν := ν) (k := 44) (rfl : ((a1b : Nat) : Int) = a1b) ea1i (show ((1 : Nat) : Int) = 1 from rfl)) (by omega) (by omega) (by omega)) (show ((4 : Nat) : Int) = 4 from rfl)))) (zm_rd (Z := Z) (ν := ν) (k := 44) (rfl : ((a1b : Nat) : Int) = a1b) ea1i (show ((7 : Nat) : Int) = 7 from rfl)) (by omega) (by omega) (by omega) (by omega)) (fun h7 => ?_) (fun h7 => ?_)
      · replace hP := zE_p hP h7
        exact zlR hP (show (3 : Int32) = i3 3 from rfl) ⟨by omega, by omega⟩
      · replace hP := zE_n hP h7
        exact zlR hP (show (2 : Int32) = i3 2 from rfl) ⟨by omega, by omega⟩
    · replace hP := zE_n hP h6
      exact zlR hP (show (0 : Int32) = i3 0 from rfl) ⟨by omega, by omega⟩
  · replace hP := zE_n hP h5
    exact zlR hP (show (0 : Int32) = i3 0 from rfl) ⟨by omega, by omega⟩
/- yX5_gradePallet -/
def zl_95_1 (x0b : Int) (x5ij : Int) (x1 : Int) (x2 : Int) (x3 : Int) : Nat → qz_Z → Int → Int → Int → Int → Int → Int × Int × Int × Int × Int
  | 0, Z, x6, x7, x8, x9, x10 => (x6, x7, x8, x9, x10)
  | m + 1, Z, x6, x7, x8, x9, x10 => (if x2 ≤ x10 then (x6, x7, x8, x9, x10) else (if x6 ≤ 0 then (x6, x7, x8, x9, x10) else (if x7 ≤ (((((25173 * x9) + 13849) % 65536) / 16) % x6) then zl_95_1 x0b x5ij x1 x2 x3 m Z (x6 + (-1)) x7 x8 (((25173 * x9) + 13849) % 65536) (x10 + 1) else zl_95_1 x0b x5ij x1 x2 x3 m Z (x6 + (-1)) (x7 + (-1)) (x8 + 1) (((25173 * x9) + 13849) % 65536) (x10 + 1))))
theorem sl_95_1 {s : zSM} {Z : qz_Z} {ν : qz_N} (hZ : zH s Z) (hM : s.2 + 0 ≤ 1000000000) (x0b : Nat) (x5i : Nat) {x5ij : Int} (ex5i : (x5i : Int) = x5ij) (gx5ij : 0 ≤ x5ij ∧ x5ij ≤ 47) {x1 : Int} (gx1 : 0 ≤ x1 ∧ x1 ≤ 47) {x2 : Int} (gx2 : 1 ≤ x2 ∧ x2 ≤ 20) {x3 : Int} (gx3 : 0 ≤ x3 ∧ x3 ≤ 9) {x6 : Int} (gx6 : 0 ≤ x6 ∧ x6 ≤ 40) {x7 : Int} (gx7 : 0 ≤ x7 ∧ x7 ≤ 40) {x8 : Int} (gx8 : 0 ≤ x8 ∧ x8 ≤ 20) {x9 : Int} (gx9 : 0 ≤ x9 ∧ x9 ≤ 65535) {x10 : Int} (gx10 : 0 ≤ x10 ∧ x10 ≤ 20) (gr0 : x8 ≤ x10) {k : wz_K} {R : wz_R} {L : qz_L} (hL : qz_fg [true, true, true, true, false, true, true, true, true, true, true] L = [some (.inr (.inr (some (10, x0b, 0)))), some (.inl (i3 x1)), some (.inl (i3 x2)), some (.inl (i3 x3)), none, some (.inr (.inr (some (44, x0b, x5i)))), some (.inl (i3 x6)), some (.inl (i3 x7)), some (.inl (i3 x8)), some (.inl (i3 x9)), some (.inl (i3 x10))]) {T : Int × Int × Int × Int × Int} (hP : zE T (zl_95_1 x0b x5ij x1 x2 x3 ((20 - x10).toNat + 1) Z x6 x7 x8 x9 x10)) (hk : ∀ (L9 : qz_L) (yx6 yx7 yx8 yx9 yx10 : Int), qz_fg [true, true, true, true, false, true, false, false, true, false, false] L9 = [some (.inr (.inr (some (10, x0b, 0)))), some (.inl (i3 x1)), some (.inl (i3 x2)), some (.inl (i3 x3)), none, some (.inr (.inr (some (44, x0b, x5i)))), none, none, some (.inl (i3 yx8)), none, none] → (0 ≤ yx6 ∧ yx6 ≤ 40) → (0 ≤ yx7 ∧ yx7 ≤ 40) → (0 ≤ yx8 ∧ yx8 ≤ 20) → (0 ≤ yx9 ∧ yx9 ≤ 65535) → (0 ≤ yx10 ∧ yx10 ≤ 20) → (yx8 ≤ yx10) → zE T ((yx6, yx7, yx8, yx9, yx10)) → k 0 (L9, [], zm Z ν)) : wz_loop qb_95_1 65536 k R (L, [], zm Z ν) := by
  refine wz_lp sb_95_1 (fun m x => ∃ x6 : Int, ∃ x7 : Int, ∃ x8 : Int, ∃ x9 : Int, ∃ x10 : Int, qz_fg [true, true, true, true, false, true, true, true, true, true, true] x.1 = [some (.inr (.inr (some (10, x0b, 0)))), some (.inl (i3 x1)), some (.inl (i3 x2)), some (.inl (i3 x3)), none, some (.inr (.inr (some (44, x0b, x5i)))), some (.inl (i3 x6)), some (.inl (i3 x7)), some (.inl (i3 x8)), some (.inl (i3 x9)), some (.inl (i3 x10))] ∧ x.2 = ([], zm Z ν) ∧ m = (20 - x10).toNat ∧ (0 ≤ x6 ∧ x6 ≤ 40) ∧ (0 ≤ x7 ∧ x7 ≤ 40) ∧ (0 ≤ x8 ∧ x8 ≤ 20) ∧ (0 ≤ x9 ∧ x9 ≤ 65535) ∧ (0 ≤ x10 ∧ x10 ≤ 20) ∧ (x8 ≤ x10) ∧ zE T (zl_95_1 x0b x5ij x1 x2 x3 (m + 1) Z x6 x7 x8 x9 x10)) ?_ 65536 ((20 - x10).toNat) _ (by omega) ⟨x6, x7, x8, x9, x10, hL, rfl, rfl, gx6, gx7, gx8, gx9, gx10, gr0, hP⟩
  clear hP gr0 gx6 gx7 gx8 gx9 gx10 hL
  clear x6 x7 x8 x9 x10
  rintro m ⟨L, st, μ⟩ ⟨x6, x7, x8, x9, x10, hL, hx, hm, gx6, gx7, gx8, gx9, gx10, gr0, hP⟩
  cases hx
  refine fb_95_1 x0b (i3 x1) (i3 x2) (i3 x3) x5i (i3 x6) (i3 x7) (i3 x8) (i3 x9) (i3 x10) _ _ _ _ hL ?_
  refine wz_br (i3Le (rfl : i3 x2 = i3 x2) (rfl : i3 x10 = i3 x10) (by omega) (by omega) (by omega) (by omega)) (fun h1 => ?_) (fun h1 => ?_)
  · replace hP := zE_p hP h1
    exact hk _ _ _ _ _ _ (zconso rfl (zconso (zvo (rfl : i3 x1 = i3 x1)) (zconso (zvo (rfl : i3 x2 = i3 x2)) (zconso (zvo (rfl : i3 x3 = i3 x3)) (zconso rfl (zconso rfl (zconso rfl (zconso rfl (zconso (zvo (rfl : i3 x8 = i3 x8)) (zconso rfl (zconso rfl rfl)))))))))))  (by omega) (by omega) (by omega) (by omega) (by omega) (by omega) hP
  · replace hP := zE_n hP h1
    refine wz_br (i3Le (rfl : i3 x6 = i3 x6) (show (0 : Int32) = i3 0 from rfl) (by omega) (by omega) (by omega) (by omega)) (fun h2 => ?_) (fun h2 => ?_)
    · replace hP := zE_p hP h2
      exact hk _ _ _ _ _ _ (zconso rfl (zconso (zvo (rfl : i3 x1 = i3 x1)) (zconso (zvo (rfl : i3 x2 = i3 x2)) (zconso (zvo (rfl : i3 x3 = i3 x3)) (zconso rfl (zconso rfl (zconso rfl (zconso rfl (zconso (zvo (rfl : i3 x8 = i3 x8)) (zconso rfl (zconso rfl rfl)))))))))))  (by omega) (by omega) (by omega) (by omega) (by omega) (by omega) hP
    · replace hP := zE_n hP h2
      refine wz_i0 (i3N0 (rfl : i3 x6 = i3 x6) (by omega) (by omega) (by omega)) ?_
      have r3 := z_mod ((((25173 * x9) + 13849) % 65536) / 16) (y := x6) (by omega)
      refine wz_br (i3Le (rfl : i3 x7 = i3 x7) (i3R (i3D (i3R (i3A (i3M (show (25173 : Int32) = i3 25173 from rfl) (rfl : i3 x9 = i3 x9)) (show (13849 : Int32) = i3 13849 from rfl)) (show (65536 : Int32) = i3 65536 from rfl) (by omega) (by omega) (by omega) (by omega)) (show (16 : Int32) = i3 16 from rfl) (by omega) (by omega) (by omega) (by omega)) (rfl : i3 x6 = i3 x6) (by omega) (by omega) (by omega) (by omega)) (by omega) (by omega) (by omega) (by omega)) (fun h4 => ?_) (fun h4 => ?_)
      · replace hP := zE_p hP h4
        obtain ⟨m2, rfl⟩ : ∃ m2, m = m2 + 1 := ⟨m - 1, by omega⟩
        exact wz_k1 ⟨m2, by omega, (x6 + (-1)), x7, x8, (((25173 * x9) + 13849) % 65536), (x10 + 1), (zconso rfl (zconso (zvo (rfl : i3 x1 = i3 x1)) (zconso (zvo (rfl : i3 x2 = i3 x2)) (zconso (zvo (rfl : i3 x3 = i3 x3)) (zconso rfl (zconso rfl (zconso (zvo (i3A (rfl : i3 x6 = i3 x6) (show (-1 : Int32) = i3 (-1) from rfl))) (zconso (zvo (rfl : i3 x7 = i3 x7)) (zconso (zvo (rfl : i3 x8 = i3 x8)) (zconso (zvo (i3R (i3A (i3M (show (25173 : Int32) = i3 25173 from rfl) (rfl : i3 x9 = i3 x9)) (show (13849 : Int32) = i3 13849 from rfl)) (show (65536 : Int32) = i3 65536 from rfl) (by omega) (by omega) (by omega) (by omega))) (zconso (zvo (i3A (rfl : i3 x10 = i3 x10) (show (1 : Int32) = i3 1 from rfl))) rfl))))))))))), rfl,  by omega, by omega, by omega, by omega, by omega, by omega, by omega,  hP⟩
      · replace hP := zE_n hP h4
        obtain ⟨m2, rfl⟩ : ∃ m2, m = m2 + 1 := ⟨m - 1, by omega⟩
        exact wz_k1 ⟨m2, by omega, (x6 + (-1)), (x7 + (-1)), (x8 + 1), (((25173 * x9) + 13849) % 65536), (x10 + 1), (zconso rfl (zconso (zvo (rfl : i3 x1 = i3 x1)) (zconso (zvo (rfl : i3 x2 = i3 x2)) (zconso (zvo (rfl : i3 x3 = i3 x3)) (zconso rfl (zconso rfl (zconso (zvo (i3A (rfl : i3 x6 = i3 x6) (show (-1 : Int32) = i3 (-1) from rfl))) (zconso (zvo (i3A (rfl : i3 x7 = i3 x7) (show (-1 : Int32) = i3 (-1) from rfl))) (zconso (zvo (i3A (rfl : i3 x8 = i3 x8) (show (1 : Int32) = i3 1 from rfl))) (zconso (zvo (i3R (i3A (i3M (show (25173 : Int32) = i3 25173 from rfl) (rfl : i3 x9 = i3 x9)) (show (13849 : Int32) = i3 13849 from rfl)) (show (65536 : Int32) = i3 65536 from rfl) (by omega) (by omega) (by omega) (by omega))) (zconso (zvo (i3A (rfl : i3 x10 = i3 x10) (show (1 : Int32) = i3 1 from rfl))) rfl))))))))))), rfl,  by omega, by omega, by omega, by omega, by omega, by omega, by omega,  hP⟩
/- yX5_gradePallet -/
def zf_95 (Z : qz_Z) (a0b : Int) (a1 : Int) (a2 : Int) (a3 : Int) (a4 : Int) : qz_Z × Int := (zlet5 (zl_95_1 a0b a1 a1 a2 a3 21 Z (Z 44 a0b a1 4) (Z 44 a0b a1 5) 0 a4 0) (fun y3 y4 y5 y6 y7 => (if y5 ≠ 0 then (if a3 < y5 then (if ((2 * a3) + 1) < y5 then (zlet (zf_100 Z a0b a0b a1) (fun v12 => (zlet (zu Z 44 a0b a1 9 (max 3 v12)) (fun Z13 => (zlet (zu Z13 44 a0b a1 14 (w3 ((Z13 44 a0b a1 14) + 1))) (fun Z16 => (zlet (zu Z16 44 a0b a1 15 y5) (fun Z17 => (if (a2 * (Z17 13 a0b 0 0)) ≠ 0 then (zlet (zu Z17 14 a0b 0 0 (w3 ((Z17 14 a0b 0 0) - (a2 * (Z17 13 a0b 0 0))))) (fun Z23 => (zlet (zu Z23 14 a0b 0 6 (w3 ((Z23 14 a0b 0 6) + (a2 * (Z17 13 a0b 0 0))))) (fun Z26 => (zlet (zu Z26 53 a0b ((Z26 11 a0b 0 12) % 60) 0 0) (fun Z28 => (zlet (zu Z28 53 a0b ((Z26 11 a0b 0 12) % 60) 1 6) (fun Z29 => (zlet (zu Z29 53 a0b ((Z26 11 a0b 0 12) % 60) 2 (a2 * (Z17 13 a0b 0 0))) (fun Z30 => (zlet (zu Z30 53 a0b ((Z26 11 a0b 0 12) % 60) 3 a1) (fun Z31 => (zlet (zu Z31 53 a0b ((Z26 11 a0b 0 12) % 60) 4 (Z31 11 a0b 0 13)) (fun Z33 => (zlet (zu Z33 11 a0b 0 12 ((Z33 11 a0b 0 12) + 1)) (fun Z36 => (Z36, (Z36 44 a0b a1 9)))))))))))))))))) else (Z17, (Z17 44 a0b a1 9))))))))))) else (zlet (zf_100 Z a0b a0b a1) (fun v41 => (zlet (zu Z 44 a0b a1 9 (max 2 v41)) (fun Z42 => (zlet (zu Z42 44 a0b a1 14 (w3 ((Z42 44 a0b a1 14) + 1))) (fun Z45 => (zlet (zu Z45 44 a0b a1 15 y5) (fun Z46 => (if (a2 * (Z46 13 a0b 0 0)) ≠ 0 then (zlet (zu Z46 14 a0b 0 0 (w3 ((Z46 14 a0b 0 0) - (a2 * (Z46 13 a0b 0 0))))) (fun Z52 => (zlet (zu Z52 14 a0b 0 6 (w3 ((Z52 14 a0b 0 6) + (a2 * (Z46 13 a0b 0 0))))) (fun Z55 => (zlet (zu Z55 53 a0b ((Z55 11 a0b 0 12) % 60) 0 0) (fun Z57 => (zlet (zu Z57 53 a0b ((Z55 11 a0b 0 12) % 60) 1 6) (fun Z58 => (zlet (zu Z58 53 a0b ((Z55 11 a0b 0 12) % 60) 2 (a2 * (Z46 13 a0b 0 0))) (fun Z59 => (zlet (zu Z59 53 a0b ((Z55 11 a0b 0 12) % 60) 3 a1) (fun Z60 => (zlet (zu Z60 53 a0b ((Z55 11 a0b 0 12) % 60) 4 (Z60 11 a0b 0 13)) (fun Z62 => (zlet (zu Z62 11 a0b 0 12 ((Z62 11 a0b 0 12) + 1)) (fun Z65 => (Z65, (Z65 44 a0b a1 9)))))))))))))))))) else (Z46, (Z46 44 a0b a1 9)))))))))))) else (zlet (zf_100 Z a0b a0b a1) (fun v70 => (zlet (zu Z 44 a0b a1 9 (max 1 v70)) (fun Z71 => (zlet (zu Z71 44 a0b a1 14 (w3 ((Z71 44 a0b a1 14) + 1))) (fun Z74 => (zlet (zu Z74 44 a0b a1 15 y5) (fun Z75 => (if (a2 * (Z75 13 a0b 0 0)) ≠ 0 then (zlet (zu Z75 14 a0b 0 0 (w3 ((Z75 14 a0b 0 0) - (a2 * (Z75 13 a0b 0 0))))) (fun Z81 => (zlet (zu Z81 14 a0b 0 6 (w3 ((Z81 14 a0b 0 6) + (a2 * (Z75 13 a0b 0 0))))) (fun Z84 => (zlet (zu Z84 53 a0b ((Z84 11 a0b 0 12) % 60) 0 0) (fun Z86 => (zlet (zu Z86 53 a0b ((Z84 11 a0b 0 12) % 60) 1 6) (fun Z87 => (zlet (zu Z87 53 a0b ((Z84 11 a0b 0 12) % 60) 2 (a2 * (Z75 13 a0b 0 0))) (fun Z88 => (zlet (zu Z88 53 a0b ((Z84 11 a0b 0 12) % 60) 3 a1) (fun Z89 => (zlet (zu Z89 53 a0b ((Z84 11 a0b 0 12) % 60) 4 (Z89 11 a0b 0 13)) (fun Z91 => (zlet (zu Z91 11 a0b 0 12 ((Z91 11 a0b 0 12) + 1)) (fun Z94 => (Z94, (Z94 44 a0b a1 9)))))))))))))))))) else (Z75, (Z75 44 a0b a1 9)))))))))))) else (zlet (zf_100 Z a0b a0b a1) (fun v99 => (zlet (zu Z 44 a0b a1 9 (max 0 v99)) (fun Z100 => (zlet (zu Z100 44 a0b a1 14 (w3 ((Z100 44 a0b a1 14) + 1))) (fun Z103 => (zlet (zu Z103 44 a0b a1 15 y5) (fun Z104 => (if (a2 * (Z104 13 a0b 0 0)) ≠ 0 then (zlet (zu Z104 14 a0b 0 0 (w3 ((Z104 14 a0b 0 0) - (a2 * (Z104 13 a0b 0 0))))) (fun Z110 => (zlet (zu Z110 14 a0b 0 6 (w3 ((Z110 14 a0b 0 6) + (a2 * (Z104 13 a0b 0 0))))) (fun Z113 => (zlet (zu Z113 53 a0b ((Z113 11 a0b 0 12) % 60) 0 0) (fun Z115 => (zlet (zu Z115 53 a0b ((Z113 11 a0b 0 12) % 60) 1 6) (fun Z116 => (zlet (zu Z116 53 a0b ((Z113 11 a0b 0 12) % 60) 2 (a2 * (Z104 13 a0b 0 0))) (fun Z117 => (zlet (zu Z117 53 a0b ((Z113 11 a0b 0 12) % 60) 3 a1) (fun Z118 => (zlet (zu Z118 53 a0b ((Z113 11 a0b 0 12) % 60) 4 (Z118 11 a0b 0 13)) (fun Z120 => (zlet (zu Z120 11 a0b 0 12 ((Z120 11 a0b 0 12) + 1)) (fun Z123 => (Z123, (Z123 44 a0b a1 9)))))))))))))))))) else (Z104, (Z104 44 a0b a1 9))))))))))))))
theorem sp_95 {s : zSM} {Z : qz_Z} {ν : qz_N} (hZ : zH s Z) (a0b : Nat) {a1 : Int} (ga1 : 0 ≤ a1 ∧ a1 ≤ 47) {a2 : Int} (ga2 : 1 ≤ a2 ∧ a2 ≤ 20) {a3 : Int} (ga3 : 0 ≤ a3 ∧ a3 ≤ 9) {a4 : Int} (ga4 : 0 ≤ a4 ∧ a4 ≤ 65535) (hM : s.2 + 1 ≤ 1000000000) : ∃ (Z1 : qz_Z) (P : Int), (Z1, P) = zf_95 Z a0b a1 a2 a3 a4 ∧ (qf_95 [.inr (.inr (some (10, a0b, 0))), .inl (i3 a1), .inl (i3 a2), .inl (i3 a3), .inl (i3 a4)] (zm Z ν) = some (zm Z1 ν, .inl (some (.inl (i3 P)))) ∧ zH (zb s 1) Z1 ∧ zC [14, 44, 53, 1112] Z Z1 ∧ zU [a0b] Z Z1 ∧ 0 ≤ P ∧ P ≤ 3) := by
  obtain ⟨P, hP⟩ := zx (zf_95 Z a0b a1 a2 a3 a4)
  refine zc_W (Q := fun Z1 P => zH (zb s 1) Z1 ∧ zC [14, 44, 53, 1112] Z Z1 ∧ zU [a0b] Z Z1 ∧ 0 ≤ P ∧ P ≤ 3) hP (fw_95 a0b (i3 a1) (i3 a2) (i3 a3) (i3 a4) _ _ ?_)
  replace hP : zE P (zf_95 Z a0b a1 a2 a3 a4) := hP
  unfold zf_95 at hP
  refine wz_i0 (i3O (n := 48) (rfl : i3 a1 = i3 a1) (by omega) (by omega) (by omega)) ?_
  have r1 := zH_k hZ 44 a0b a1 4 (lo := 0) (hi := 40) (by decide) rfl
  have r2 := zH_k hZ 44 a0b a1 5 (lo := 0) (hi := 40) (by decide) rfl
  refine sl_95_1 (ν := ν) hZ (zbh (c := 0) (k := 0) hM (Nat.le_of_ble_eq_true rfl)) a0b _ (i3I (y := a1) (rfl : i3 a1 = i3 a1) (by omega) (by omega) (by omega)) (by omega) (x1 := a1) (by omega) (x2 := a2) (by omega) (x3 := a3) (by omega) (x6 := (Z 44 a0b a1 4)) (by omega) (x7 := (Z 44 a0b a1 5)) (by omega) (x8 := 0) (by omega) (x9 := a4) (by omega) (x10 := 0) (by omega) (by omega) (zconso rfl (zconso (zvo (rfl : i3 a1 = i3 a1)) (zconso (zvo (rfl : i3 a2 = i3 a2)) (zconso (zvo (rfl : i3 a3 = i3 a3)) (zconso rfl (zconso rfl (zconso (zvo (zm_rd (Z := Z) (ν := ν) (k := 44) (rfl : ((a0b : Nat) : Int) = a0b) (i3I (y := a1) (rfl : i3 a1 = i3 a1) (by omega) (by omega) (by omega)) (show ((4 : Nat) : Int) = 4 from rfl))) (zconso (zvo (zm_rd (Z := Z) (ν := ν) (k := 44) (rfl : ((a0b : Nat) : Int) = a0b) (i3I (y := a1) (rfl : i3 a1 = i3 a1) (by omega) (by omega) (by omega)) (show ((5 : Nat) : Int) = 5 from rfl))) (zconso (zvo (show (0 : Int32) = i3 0 from rfl)) (zconso (zvo (rfl : i3 a4 = i3 a4)) (zconso (zvo (show (0 : Int32) = i3 0 from rfl)) rfl))))))))))) rfl ?_
  intro L8 y3 y4 y5 y6 y7 hL8 gy3 gy4 gy5 gy6 gy7 gL8_0 q9
  replace hP := zl_e5 hP (Eq.symm q9)
  clear q9
  refine fc_95_2 _ (i3 a1) (i3 a2) (i3 a3) _ (i3 y5) _ _ _ _ hL8 ?_
  refine wz_br (i3NE (rfl : i3 y5 = i3 y5) (show (0 : Int32) = i3 0 from rfl) (by omega) (by omega) (by omega) (by omega)) (fun h9 => ?_) (fun h9 => ?_)
  · replace hP := zE_p hP h9
    refine wz_br (i3L (rfl : i3 a3 = i3 a3) (rfl : i3 y5 = i3 y5) (by omega) (by omega) (by omega) (by omega)) (fun h10 => ?_) (fun h10 => ?_)
    · replace hP := zE_p hP h10
      refine wz_br (i3L (i3A (i3M (show (2 : Int32) = i3 2 from rfl) (rfl : i3 a3 = i3 a3)) (show (1 : Int32) = i3 1 from rfl)) (rfl : i3 y5 = i3 y5) (by omega) (by omega) (by omega) (by omega)) (fun h11 => ?_) (fun h11 => ?_)
      · replace hP := zE_p hP h11
        obtain ⟨v12, hv12, c9, lv12, uv12⟩ := sp_100 (ν := ν) hZ a0b a0b _ (i3I (y := a1) (rfl : i3 a1 = i3 a1) (by omega) (by omega) (by omega)) (by omega) (zbh (c := 0) (k := 0) hM (Nat.le_of_ble_eq_true rfl))
        replace hP := zl_e hP hv12
        refine wz_cI_of (zas (zcons rfl (zcons rfl rfl)) c9) ?_
        clear c9
        obtain ⟨Z13, hZ13⟩ := zx (zu Z 44 a0b a1 9 (max 3 v12))
        replace hP := zl_e hP hZ13
        have hZ13I := zH_u hZ hZ13 (lo := -1) (hi := 3) (by decide) rfl (by omega) ⟨by decide, by decide⟩ (Or.inl (by decide)) rfl
        have hZ13U : zU [a0b] Z Z13 := zU_u zU_r hZ13 (Or.inr (List.Mem.head _))
        have hZ13K : zC [14, 44, 53, 1112] Z Z13 := zC_u zC_r hZ13 (by decide)
        intro μ9 e9
        replace e9 := e9.trans (zm_wI (Z := Z) (ν := ν) hZ13 (rfl : ((a0b : Nat) : Int) = a0b) (i3I (y := a1) (rfl : i3 a1 = i3 a1) (by omega) (by omega) (by omega)) (show ((9 : Nat) : Int) = 9 from rfl) (i3Mx (show (3 : Int32) = i3 3 from rfl) (rfl : i3 v12 = i3 v12) (by omega) (by omega) (by omega) (by omega)))
        subst e9
        have r14 := zH_f hZ13I 44 a0b a1 14
        have r15 := w3_r ((Z13 44 a0b a1 14) + 1)
        obtain ⟨Z16, hZ16⟩ := zx (zu Z13 44 a0b a1 14 (w3 ((Z13 44 a0b a1 14) + 1)))
        replace hP := zl_e hP hZ16
        have hZ16I := zH_u hZ13I hZ16 (lo := -2147483648) (hi := 2147483647) (by decide) rfl (by omega) ⟨by decide, by decide⟩ (Or.inl (by decide)) rfl
        have hZ16U : zU [a0b] Z Z16 := zU_u hZ13U hZ16 (Or.inr (List.Mem.head _))
        have hZ16K : zC [14, 44, 53, 1112] Z Z16 := zC_u hZ13K hZ16 (by decide)
        intro μ9 e9
        replace e9 := e9.trans (zm_wI (Z := Z13) (ν := ν) hZ16 (rfl : ((a0b : Nat) : Int) = a0b) (i3I (y := a1) (rfl : i3 a1 = i3 a1) (by omega) (by omega) (by omega)) (show ((14 : Nat) : Int) = 14 from rfl) (i3W (i3A (zm_rd (Z := Z13) (ν := ν) (k := 44) (rfl : ((a0b : Nat) : Int) = a0b) (i3I (y := a1) (rfl : i3 a1 = i3 a1) (by omega) (by omega) (by omega)) (show ((14 : Nat) : Int) = 14 from rfl)) (show (1 : Int32) = i3 1 from rfl))))
        subst e9
        obtain ⟨Z17, hZ17⟩ := zx (zu Z16 44 a0b a1 15 y5)
        replace hP := zl_e hP hZ17
        have hZ17I := zH_u hZ16I hZ17 (lo := -1) (hi := 20) (by decide) rfl (by omega) ⟨by decide, by decide⟩ (Or.inl (by decide)) rfl
        have hZ17U : zU [a0b] Z Z17 := zU_u hZ16U hZ17 (Or.inr (List.Mem.head _))
        have hZ17K : zC [14, 44, 53, 1112] Z Z17 := zC_u hZ16K hZ17 (by decide)
        intro μ9 e9
        replace e9 := e9.trans (zm_wI (Z := Z16) (ν := ν) hZ17 (rfl : ((a0b : Nat) : Int) = a0b) (i3I (y := a1) (rfl : i3 a1 = i3 a1) (by omega) (by omega) (by omega)) (show ((15 : Nat) : Int) = 15 from rfl) (rfl : i3 y5 = i3 y5))
        subst e9
        have r18 := zH_k hZ17I 13 a0b 0 0 (lo := 0) (hi := 99999) (by decide) rfl
        have r19 := z_mul (x := a2) (y := (Z17 13 a0b 0 0)) (a := 20) (b := 99999) (by omega) (by omega) (by omega) (by omega)
        refine wz_br (i3NE (i3M (rfl : i3 a2 = i3 a2) (zm_rd (Z := Z17) (ν := ν) (k := 13) (rfl : ((a0b : Nat) : Int) = a0b) (show ((0 : Nat) : Int) = 0 from rfl) (show ((0 : Nat) : Int) = 0 from rfl))) (show (0 : Int32) = i3 0 from rfl) (by omega) (by omega) (by omega) (by omega)) (fun h20 => ?_) (fun h20 => ?_)
        · replace hP := zE_p hP h20
          have r21 := zH_f hZ17I 14 a0b 0 0
          have r22 := w3_r ((Z17 14 a0b 0 0) - (a2 * (Z17 13 a0b 0 0)))
          obtain ⟨Z23, hZ23⟩ := zx (zu Z17 14 a0b 0 0 (w3 ((Z17 14 a0b 0 0) - (a2 * (Z17 13 a0b 0 0)))))
          replace hP := zl_e hP hZ23
          have hZ23I := zH_u hZ17I hZ23 (lo := -2147483648) (hi := 2147483647) (by decide) rfl (by omega) ⟨by decide, by decide⟩ (Or.inl (by decide)) rfl
          have hZ23U : zU [a0b] Z Z23 := zU_u hZ17U hZ23 (Or.inr (List.Mem.head _))
          have hZ23K : zC [14, 44, 53, 1112] Z Z23 := zC_u hZ17K hZ23 (by decide)
          intro μ9 e9
          replace e9 := e9.trans (zm_wI (Z := Z17) (ν := ν) hZ23 (rfl : ((a0b : Nat) : Int) = a0b) (show ((0 : Nat) : Int) = 0 from rfl) (show ((0 : Nat) : Int) = 0 from rfl) (i3W (i3S (zm_rd (Z := Z17) (ν := ν) (k := 14) (rfl : ((a0b : Nat) : Int) = a0b) (show ((0 : Nat) : Int) = 0 from rfl) (show ((0 : Nat) : Int) = 0 from rfl)) (i3M (rfl : i3 a2 = i3 a2) (zm_rd (Z := Z17) (ν := ν) (k := 13) (rfl : ((a0b : Nat) : Int) = a0b) (show ((0 : Nat) : Int) = 0 from rfl) (show ((0 : Nat) : Int) = 0 from rfl))))))
          subst e9
          have r24 := zH_f hZ23I 14 a0b 0 6
          have r25 := w3_r ((Z23 14 a0b 0 6) + (a2 * (Z17 13 a0b 0 0)))
          obtain ⟨Z26, hZ26⟩ := zx (zu Z23 14 a0b 0 6 (w3 ((Z23 14 a0b 0 6) + (a2 * (Z17 13 a0b 0 0)))))
          replace hP := zl_e hP hZ26
          have hZ26I := zH_u hZ23I hZ26 (lo := -2147483648) (hi := 2147483647) (by decide) rfl (by omega) ⟨by decide, by decide⟩ (Or.inl (by decide)) rfl
          have hZ26U : zU [a0b] Z Z26 := zU_u hZ23U hZ26 (Or.inr (List.Mem.head _))
          have hZ26K : zC [14, 44, 53, 1112] Z Z26 := zC_u hZ23K hZ26 (by decide)
          intro μ9 e9
          replace e9 := e9.trans (zm_wI (Z := Z23) (ν := ν) hZ26 (rfl : ((a0b : Nat) : Int) = a0b) (show ((0 : Nat) : Int) = 0 from rfl) (show ((6 : Nat) : Int) = 6 from rfl) (i3W (i3A (zm_rd (Z := Z23) (ν := ν) (k := 14) (rfl : ((a0b : Nat) : Int) = a0b) (show ((0 : Nat) : Int) = 0 from rfl) (show ((6 : Nat) : Int) = 6 from rfl)) (i3M (rfl : i3 a2 = i3 a2) (zm_rd (Z := Z17) (ν := ν) (k := 13) (rfl : ((a0b : Nat) : Int) = a0b) (show ((0 : Nat) : Int) = 0 from rfl) (show ((0 : Nat) : Int) = 0 from rfl))))))
          subst e9
          have r27 := zH_c12 hZ26I a0b (zbh (c := 0) (k := 0) hM (Nat.le_of_ble_eq_true rfl))
          refine wz_i0 (i3O (n := 60) (i3R (zm_rd (Z := Z26) (ν := ν) (k := 11) (rfl : ((a0b : Nat) : Int) = a0b) (show ((0 : Nat) : Int) = 0 from rfl) (show ((12 : Nat) : Int) = 12 from rfl)) (show (60 : Int32) = i3 60 from rfl) (by omega) (by omega) (by omega) (by omega)) (by omega) (by omega) (by omega)) ?_
          obtain ⟨Z28, hZ28⟩ := zx (zu Z26 53 a0b ((Z26 11 a0b 0 12) % 60) 0 0)
          replace hP := zl_e hP hZ28
          have hZ28I := zH_0 hZ26I hZ28 (by decide) (Or.inl (by decide))
          have hZ28U : zU [a0b] Z Z28 := zU_u hZ26U hZ28 (Or.inr (List.Mem.head _))
          have hZ28K : zC [14, 44, 53, 1112] Z Z28 := zC_u hZ26K hZ28 (by decide)
          intro μ9 e9
          replace e9 := e9.trans (zm_wI (Z := Z26) (ν := ν) hZ28 (rfl : ((a0b : Nat) : Int) = a0b) (i3I (y := ((Z26 11 a0b 0 12) % 60)) (i3R (zm_rd (Z := Z26) (ν := ν) (k := 11) (rfl : ((a0b : Nat) : Int) = a0b) (show ((0 : Nat) : Int) = 0 from rfl) (show ((12 : Nat) : Int) = 12 from rfl)) (show (60 : Int32) = i3 60 from rfl) (by omega) (by omega) (by omega) (by omega)) (by omega) (by omega) (by omega)) (show ((0 : Nat) : Int) = 0 from rfl) (show (0 : Int32) = i3 0 from rfl))
          subst e9
          obtain ⟨Z29, hZ29⟩ := zx (zu Z28 53 a0b ((Z26 11 a0b 0 12) % 60) 1 6)
          replace hP := zl_e hP hZ29
          have hZ29I := zH_u hZ28I hZ29 (lo := -2147483648) (hi := 2147483647) (by decide) rfl (by omega) ⟨by decide, by decide⟩ (Or.inl (by decide)) rfl
          have hZ29U : zU [a0b] Z Z29 := zU_u hZ28U hZ29 (Or.inr (List.Mem.head _))
          have hZ29K : zC [14, 44, 53, 1112] Z Z29 := zC_u hZ28K hZ29 (by decide)
          intro μ9 e9
          replace e9 := e9.trans (zm_wI (Z := Z28) (ν := ν) hZ29 (rfl : ((a0b : Nat) : Int) = a0b) (i3I (y := ((Z26 11 a0b 0 12) % 60)) (i3R (zm_rd (Z := Z26) (ν := ν) (k := 11) (rfl : ((a0b : Nat) : Int) = a0b) (show ((0 : Nat) : Int) = 0 from rfl) (show ((12 : Nat) : Int) = 12 from rfl)) (show (60 : Int32) = i3 60 from rfl) (by omega) (by omega) (by omega) (by omega)) (by omega) (by omega) (by omega)) (show ((1 : Nat) : Int) = 1 from rfl) (show (6 : Int32) = i3 6 from rfl))
          subst e9
          obtain ⟨Z30, hZ30⟩ := zx (zu Z29 53 a0b ((Z26 11 a0b 0 12) % 60) 2 (a2 * (Z17 13 a0b 0 0)))
          replace hP := zl_e hP hZ30
          have hZ30I := zH_u hZ29I hZ30 (lo := -2147483648) (hi := 2147483647) (by decide) rfl (by omega) ⟨by decide, by decide⟩ (Or.inl (by decide)) rfl
          have hZ30U : zU [a0b] Z Z30 := zU_u hZ29U hZ30 (Or.inr (List.Mem.head _))
          have hZ30K : zC [14, 44, 53, 1112] Z Z30 := zC_u hZ29K hZ30 (by decide)
          intro μ9 e9
          replace e9 := e9.trans (zm_wI (Z := Z29) (ν := ν) hZ30 (rfl : ((a0b : Nat) : Int) = a0b) (i3I (y := ((Z26 11 a0b 0 12) % 60)) (i3R (zm_rd (Z := Z26) (ν := ν) (k := 11) (rfl : ((a0b : Nat) : Int) = a0b) (show ((0 : Nat) : Int) = 0 from rfl) (show ((12 : Nat) : Int) = 12 from rfl)) (show (60 : Int32) = i3 60 from rfl) (by omega) (by omega) (by omega) (by omega)) (by omega) (by omega) (by omega)) (show ((2 : Nat) : Int) = 2 from rfl) (i3M (rfl : i3 a2 = i3 a2) (zm_rd (Z := Z17) (ν := ν) (k := 13) (rfl : ((a0b : Nat) : Int) = a0b) (show ((0 : Nat) : Int) = 0 from rfl) (show ((0 : Nat) : Int) = 0 from rfl))))
          subst e9
          obtain ⟨Z31, hZ31⟩ := zx (zu Z30 53 a0b ((Z26 11 a0b 0 12) % 60) 3 a1)
          replace hP := zl_e hP hZ31
          have hZ31I := zH_u hZ30I hZ31 (lo := -2147483648) (hi := 2147483647) (by decide) rfl (by omega) ⟨by decide, by decide⟩ (Or.inl (by decide)) rfl
          have hZ31U : zU [a0b] Z Z31 := zU_u hZ30U hZ31 (Or.inr (List.Mem.head _))
          have hZ31K : zC [14, 44, 53, 1112] Z Z31 := zC_u hZ30K hZ31 (by decide)
          intro μ9 e9
          replace e9 := e9.trans (zm_wI (Z := Z30) (ν := ν) hZ31 (rfl : ((a0b : Nat) : Int) = a0b) (i3I (y := ((Z26 11 a0b 0 12) % 60)) (i3R (zm_rd (Z := Z26) (ν := ν) (k := 11) (rfl : ((a0b : Nat) : Int) = a0b) (show ((0 : Nat) : Int) = 0 from rfl) (show ((12 : Nat) : Int) = 12 from rfl)) (show (60 : Int32) = i3 60 from rfl) (by omega) (by omega) (by omega) (by omega)) (by omega) (by omega) (by omega)) (show ((3 : Nat) : Int) = 3 from rfl) (rfl : i3 a1 = i3 a1))
          subst e9
          have r32 := zH_k hZ31I 11 a0b 0 13 (lo := 0) (hi := 671) (by decide) rfl
          obtain ⟨Z33, hZ33⟩ := zx (zu Z31 53 a0b ((Z26 11 a0b 0 12) % 60) 4 (Z31 11 a0b 0 13))
          replace hP := zl_e hP hZ33
          have hZ33I := zH_u hZ31I hZ33 (lo := -2147483648) (hi := 2147483647) (by decide) rfl (by omega) ⟨by decide, by decide⟩ (Or.inl (by decide)) rfl
          have hZ33U : zU [a0b] Z Z33 := zU_u hZ31U hZ33 (Or.inr (List.Mem.head _))
          have hZ33K : zC [14, 44, 53, 1112] Z Z33 := zC_u hZ31K hZ33 (by decide)
          intro μ9 e9
          replace e9 := e9.trans (zm_wI (Z := Z31) (ν := ν) hZ33 (rfl : ((a0b : Nat) : Int) = a0b) (i3I (y := ((Z26 11 a0b 0 12) % 60)) (i3R (zm_rd (Z := Z26) (ν := ν) (k := 11) (rfl : ((a0b : Nat) : Int) = a0b) (show ((0 : Nat) : Int) = 0 from rfl) (show ((12 : Nat) : Int) = 12 from rfl)) (show (60 : Int32) = i3 60 from rfl) (by omega) (by omega) (by omega) (by omega)) (by omega) (by omega) (by omega)) (show ((4 : Nat) : Int) = 4 from rfl) (zm_rd (Z := Z31) (ν := ν) (k := 11) (rfl : ((a0b : Nat) : Int) = a0b) (show ((0 : Nat) : Int) = 0 from rfl) (show ((13 : Nat) : Int) = 13 from rfl)))
          subst e9
          have r34 := zH_c12 hZ33I a0b (zbh (c := 0) (k := 0) hM (Nat.le_of_ble_eq_true rfl))
          have q35 := (zu_ne (k' := 11) (b' := a0b) (i' := 0) (j' := 12) hZ33 (fun q => absurd q.1 (by decide))).trans ((zu_ne (k' := 11) (b' := a0b) (i' := 0) (j' := 12) hZ31 (fun q => absurd q.1 (by decide))).trans ((zu_ne (k' := 11) (b' := a0b) (i' := 0) (j' := 12) hZ30 (fun q => absurd q.1 (by decide))).trans ((zu_ne (k' := 11) (b' := a0b) (i' := 0) (j' := 12) hZ29 (fun q => absurd q.1 (by decide))).trans (zu_ne (k' := 11) (b' := a0b) (i' := 0) (j' := 12) hZ28 (fun q => absurd q.1 (by decide))))))
          obtain ⟨Z36, hZ36⟩ := zx (zu Z33 11 a0b 0 12 ((Z33 11 a0b 0 12) + 1))
          replace hP := zl_e hP hZ36
          have hZ36I := zH_i12 hZ33I hZ36 (zbh (c := 0) (k := 1) hM (Nat.le_of_ble_eq_true rfl)) (by omega)
          have hZ36U : zU [a0b] Z Z36 := zU_u hZ33U hZ36 (Or.inr (List.Mem.head _))
          have hZ36K : zC [14, 44, 53, 1112] Z Z36 := zC_u hZ33K hZ36 (by decide)
          intro μ9 e9
          replace e9 := e9.trans (zm_wI (Z := Z33) (ν := ν) hZ36 (rfl : ((a0b : Nat) : Int) = a0b) (show ((0 : Nat) : Int) = 0 from rfl) (show ((12 : Nat) : Int) = 12 from rfl) (i3A (zm_rd (Z := Z33) (ν := ν) (k := 11) (rfl : ((a0b : Nat) : Int) = a0b) (show ((0 : Nat) : Int) = 0 from rfl) (show ((12 : Nat) : Int) = 12 from rfl)) (show (1 : Int32) = i3 1 from rfl)))
          subst e9
          have r37 := zH_k hZ36I 44 a0b a1 9 (lo := -1) (hi := 3) (by decide) rfl
          have q38 := (zu_ne (k' := 44) (b' := a0b) (i' := a1) (j' := 9) hZ36 (fun q => absurd q.1 (by decide))).trans ((zu_ne (k' := 44) (b' := a0b) (i' := a1) (j' := 9) hZ33 (fun q => absurd q.1 (by decide))).trans ((zu_ne (k' := 44) (b' := a0b) (i' := a1) (j' := 9) hZ31 (fun q => absurd q.1 (by decide))).trans ((zu_ne (k' := 44) (b' := a0b) (i' := a1) (j' := 9) hZ30 (fun q => absurd q.1 (by decide))).trans ((zu_ne (k' := 44) (b' := a0b) (i' := a1) (j' := 9) hZ29 (fun q => absurd q.1 (by decide))).trans ((zu_ne (k' := 44) (b' := a0b) (i' := a1) (j' := 9) hZ28 (fun q => absurd q.1 (by decide))).trans ((zu_ne (k' := 44) (b' := a0b) (i' := a1) (j' := 9) hZ26 (fun q => absurd q.1 (by decide))).trans ((zu_ne (k' := 44) (b' := a0b) (i' := a1) (j' := 9) hZ23 (fun q => absurd q.1 (by decide))).trans ((zu_ne (k' := 44) (b' := a0b) (i' := a1) (j' := 9) hZ17 (fun q => absurd q.2.2.2 (by decide))).trans ((zu_ne (k' := 44) (b' := a0b) (i' := a1) (j' := 9) hZ16 (fun q => absurd q.2.2.2 (by decide))).trans (zu_at hZ13))))))))))
          exact zlW hP (zm_rd (Z := Z36) (ν := ν) (k := 44) (rfl : ((a0b : Nat) : Int) = a0b) (i3I (y := a1) (rfl : i3 a1 = i3 a1) (by omega) (by omega) (by omega)) (show ((9 : Nat) : Int) = 9 from rfl)) ⟨hZ36I, hZ36K, hZ36U, by omega, by omega⟩
        · replace hP := zE_n hP h20
          have r39 := zH_k hZ17I 44 a0b a1 9 (lo := -1) (hi := 3) (by decide) rfl
          have q40 := (zu_ne (k' := 44) (b' := a0b) (i' := a1) (j' := 9) hZ17 (fun q => absurd q.2.2.2 (by decide))).trans ((zu_ne (k' := 44) (b' := a0b) (i' := a1) (j' := 9) hZ16 (fun q => absurd q.2.2.2 (by decide))).trans (zu_at hZ13))
          exact zlW hP (zm_rd (Z := Z17) (ν := ν) (k := 44) (rfl : ((a0b : Nat) : Int) = a0b) (i3I (y := a1) (rfl : i3 a1 = i3 a1) (by omega) (by omega) (by omega)) (show ((9 : Nat) : Int) = 9 from rfl)) ⟨(zbw (a := 0) (c := 1) hZ17I (Nat.le_of_ble_eq_true rfl)), hZ17K, hZ17U, by omega, by omega⟩
      · replace hP := zE_n hP h11
        obtain ⟨v41, hv41, c9, lv41, uv41⟩ := sp_100 (ν := ν) hZ a0b a0b _ (i3I (y := a1) (rfl : i3 a1 = i3 a1) (by omega) (by omega) (by omega)) (by omega) (zbh (c := 0) (k := 0) hM (Nat.le_of_ble_eq_true rfl))
        replace hP := zl_e hP hv41
        refine wz_cI_of (zas (zcons rfl (zcons rfl rfl)) c9) ?_
        clear c9
        obtain ⟨Z42, hZ42⟩ := zx (zu Z 44 a0b a1 9 (max 2 v41))
        replace hP := zl_e hP hZ42
        have hZ42I := zH_u hZ hZ42 (lo := -1) (hi := 3) (by decide) rfl (by omega) ⟨by decide, by decide⟩ (Or.inl (by decide)) rfl
        have hZ42U : zU [a0b] Z Z42 := zU_u zU_r hZ42 (Or.inr (List.Mem.head _))
        have hZ42K : zC [14, 44, 53, 1112] Z Z42 := zC_u zC_r hZ42 (by decide)
        intro μ9 e9
        replace e9 := e9.trans (zm_wI (Z := Z) (ν := ν) hZ42 (rfl : ((a0b : Nat) : Int) = a0b) (i3I (y := a1) (rfl : i3 a1 = i3 a1) (by omega) (by omega) (by omega)) (show ((9 : Nat) : Int) = 9 from rfl) (i3Mx (show (2 : Int32) = i3 2 from rfl) (rfl : i3 v41 = i3 v41) (by omega) (by omega) (by omega) (by omega)))
        subst e9
        have r43 := zH_f hZ42I 44 a0b a1 14
        have r44 := w3_r ((Z42 44 a0b a1 14) + 1)
        obtain ⟨Z45, hZ45⟩ := zx (zu Z42 44 a0b a1 14 (w3 ((Z42 44 a0b a1 14) + 1)))
        replace hP := zl_e hP hZ45
        have hZ45I := zH_u hZ42I hZ45 (lo := -2147483648) (hi := 2147483647) (by decide) rfl (by omega) ⟨by decide, by decide⟩ (Or.inl (by decide)) rfl
        have hZ45U : zU [a0b] Z Z45 := zU_u hZ42U hZ45 (Or.inr (List.Mem.head _))
        have hZ45K : zC [14, 44, 53, 1112] Z Z45 := zC_u hZ42K hZ45 (by decide)
        intro μ9 e9
        replace e9 := e9.trans (zm_wI (Z := Z42) (ν := ν) hZ45 (rfl : ((a0b : Nat) : Int) = a0b) (i3I (y := a1) (rfl : i3 a1 = i3 a1) (by omega) (by omega) (by omega)) (show ((14 : Nat) : Int) = 14 from rfl) (i3W (i3A (zm_rd (Z := Z42) (ν := ν) (k := 44) (rfl : ((a0b : Nat) : Int) = a0b) (i3I (y := a1) (rfl : i3 a1 = i3 a1) (by omega) (by omega) (by omega)) (show ((14 : Nat) : Int) = 14 from rfl)) (show (1 : Int32) = i3 1 from rfl))))
        subst e9
        obtain ⟨Z46, hZ46⟩ := zx (zu Z45 44 a0b a1 15 y5)
        replace hP := zl_e hP hZ46
        have hZ46I := zH_u hZ45I hZ46 (lo := -1) (hi := 20) (by decide) rfl (by omega) ⟨by decide, by decide⟩ (Or.inl (by decide)) rfl
        have hZ46U : zU [a0b] Z Z46 := zU_u hZ45U hZ46 (Or.inr (List.Mem.head _))
        have hZ46K : zC [14, 44, 53, 1112] Z Z46 := zC_u hZ45K hZ46 (by decide)
        intro μ9 e9
        replace e9 := e9.trans (zm_wI (Z := Z45) (ν := ν) hZ46 (rfl : ((a0b : Nat) : Int) = a0b) (i3I (y := a1) (rfl : i3 a1 = i3 a1) (by omega) (by omega) (by omega)) (show ((15 : Nat) : Int) = 15 from rfl) (rfl : i3 y5 = i3 y5))
        subst e9
        have r47 := zH_k hZ46I 13 a0b 0 0 (lo := 0) (hi := 99999) (by decide) rfl
        have r48 := z_mul (x := a2) (y := (Z46 13 a0b 0 0)) (a := 20) (b := 99999) (by omega) (by omega) (by omega) (by omega)
        refine wz_br (i3NE (i3M (rfl : i3 a2 = i3 a2) (zm_rd (Z := Z46) (ν := ν) (k := 13) (rfl : ((a0b : Nat) : Int) = a0b) (show ((0 : Nat) : Int) = 0 from rfl) (show ((0 : Nat) : Int) = 0 from rfl))) (show (0 : Int32) = i3 0 from rfl) (by omega) (by omega) (by omega) (by omega)) (fun h49 => ?_) (fun h49 => ?_)
        · replace hP := zE_p hP h49
          have r50 := zH_f hZ46I 14 a0b 0 0
          have r51 := w3_r ((Z46 14 a0b 0 0) - (a2 * (Z46 13 a0b 0 0)))
          obtain ⟨Z52, hZ52⟩ := zx (zu Z46 14 a0b 0 0 (w3 ((Z46 14 a0b 0 0) - (a2 * (Z46 13 a0b 0 0)))))
          replace hP := zl_e hP hZ52
          have hZ52I := zH_u hZ46I hZ52 (lo := -2147483648) (hi := 2147483647) (by decide) rfl (by omega) ⟨by decide, by decide⟩ (Or.inl (by decide)) rfl
          have hZ52U : zU [a0b] Z Z52 := zU_u hZ46U hZ52 (Or.inr (List.Mem.head _))
          have hZ52K : zC [14, 44, 53, 1112] Z Z52 := zC_u hZ46K hZ52 (by decide)
          intro μ9 e9
          replace e9 := e9.trans (zm_wI (Z := Z46) (ν := ν) hZ52 (rfl : ((a0b : Nat) : Int) = a0b) (show ((0 : Nat) : Int) = 0 from rfl) (show ((0 : Nat) : Int) = 0 from rfl) (i3W (i3S (zm_rd (Z := Z46) (ν := ν) (k := 14) (rfl : ((a0b : Nat) : Int) = a0b) (show ((0 : Nat) : Int) = 0 from rfl) (show ((0 : Nat) : Int) = 0 from rfl)) (i3M (rfl : i3 a2 = i3 a2) (zm_rd (Z := Z46) (ν := ν) (k := 13) (rfl : ((a0b : Nat) : Int) = a0b) (show ((0 : Nat) : Int) = 0 from rfl) (show ((0 : Nat) : Int) = 0 from rfl))))))
          subst e9
          have r53 := zH_f hZ52I 14 a0b 0 6
          have r54 := w3_r ((Z52 14 a0b 0 6) + (a2 * (Z46 13 a0b 0 0)))
          obtain ⟨Z55, hZ55⟩ := zx (zu Z52 14 a0b 0 6 (w3 ((Z52 14 a0b 0 6) + (a2 * (Z46 13 a0b 0 0)))))
          replace hP := zl_e hP hZ55
          have hZ55I := zH_u hZ52I hZ55 (lo := -2147483648) (hi := 2147483647) (by decide) rfl (by omega) ⟨by decide, by decide⟩ (Or.inl (by decide)) rfl
          have hZ55U : zU [a0b] Z Z55 := zU_u hZ52U hZ55 (Or.inr (List.Mem.head _))
          have hZ55K : zC [14, 44, 53, 1112] Z Z55 := zC_u hZ52K hZ55 (by decide)
          intro μ9 e9
          replace e9 := e9.trans (zm_wI (Z := Z52) (ν := ν) hZ55 (rfl : ((a0b : Nat) : Int) = a0b) (show ((0 : Nat) : Int) = 0 from rfl) (show ((6 : Nat) : Int) = 6 from rfl) (i3W (i3A (zm_rd (Z := Z52) (ν := ν) (k := 14) (rfl : ((a0b : Nat) : Int) = a0b) (show ((0 : Nat) : Int) = 0 from rfl) (show ((6 : Nat) : Int) = 6 from rfl)) (i3M (rfl : i3 a2 = i3 a2) (zm_rd (Z := Z46) (ν := ν) (k := 13) (rfl : ((a0b : Nat) : Int) = a0b) (show ((0 : Nat) : Int) = 0 from rfl) (show ((0 : Nat) : Int) = 0 from rfl))))))
          subst e9
          have r56 := zH_c12 hZ55I a0b (zbh (c := 0) (k := 0) hM (Nat.le_of_ble_eq_true rfl))
          refine wz_i0 (i3O (n := 60) (i3R (zm_rd (Z := Z55) (ν := ν) (k := 11) (rfl : ((a0b : Nat) : Int) = a0b) (show ((0 : Nat) : Int) = 0 from rfl) (show ((12 : Nat) : Int) = 12 from rfl)) (show (60 : Int32) = i3 60 from rfl) (by omega) (by omega) (by omega) (by omega)) (by omega) (by omega) (by omega)) ?_
          obtain ⟨Z57, hZ57⟩ := zx (zu Z55 53 a0b ((Z55 11 a0b 0 12) % 60) 0 0)
          replace hP := zl_e hP hZ57
          have hZ57I := zH_0 hZ55I hZ57 (by decide) (Or.inl (by decide))
          have hZ57U : zU [a0b] Z Z57 := zU_u hZ55U hZ57 (Or.inr (List.Mem.head _))
          have hZ57K : zC [14, 44, 53, 1112] Z Z57 := zC_u hZ55K hZ57 (by decide)
          intro μ9 e9
          replace e9 := e9.trans (zm_wI (Z := Z55) (ν := ν) hZ57 (rfl : ((a0b : Nat) : Int) = a0b) (i3I (y := ((Z55 11 a0b 0 12) % 60)) (i3R (zm_rd (Z := Z55) (ν := ν) (k := 11) (rfl : ((a0b : Nat) : Int) = a0b) (show ((0 : Nat) : Int) = 0 from rfl) (show ((12 : Nat) : Int) = 12 from rfl)) (show (60 : Int32) = i3 60 from rfl) (by omega) (by omega) (by omega) (by omega)) (by omega) (by omega) (by omega)) (show ((0 : Nat) : Int) = 0 from rfl) (show (0 : Int32) = i3 0 from rfl))
          subst e9
          obtain ⟨Z58, hZ58⟩ := zx (zu Z57 53 a0b ((Z55 11 a0b 0 12) % 60) 1 6)
          replace hP := zl_e hP hZ58
          have hZ58I := zH_u hZ57I hZ58 (lo := -2147483648) (hi := 2147483647) (by decide) rfl (by omega) ⟨by decide, by decide⟩ (Or.inl (by decide)) rfl
          have hZ58U : zU [a0b] Z Z58 := zU_u hZ57U hZ58 (Or.inr (List.Mem.head _))
          have hZ58K : zC [14, 44, 53, 1112] Z Z58 := zC_u hZ57K hZ58 (by decide)
          intro μ9 e9
          replace e9 := e9.trans (zm_wI (Z := Z57) (ν := ν) hZ58 (rfl : ((a0b : Nat) : Int) = a0b) (i3I (y := ((Z55 11 a0b 0 12) % 60)) (i3R (zm_rd (Z := Z55) (ν := ν) (k := 11) (rfl : ((a0b : Nat) : Int) = a0b) (show ((0 : Nat) : Int) = 0 from rfl) (show ((12 : Nat) : Int) = 12 from rfl)) (show (60 : Int32) = i3 60 from rfl) (by omega) (by omega) (by omega) (by omega)) (by omega) (by omega) (by omega)) (show ((1 : Nat) : Int) = 1 from rfl) (show (6 : Int32) = i3 6 from rfl))
          subst e9
          obtain ⟨Z59, hZ59⟩ := zx (zu Z58 53 a0b ((Z55 11 a0b 0 12) % 60) 2 (a2 * (Z46 13 a0b 0 0)))
          replace hP := zl_e hP hZ59
          have hZ59I := zH_u hZ58I hZ59 (lo := -2147483648) (hi := 2147483647) (by decide) rfl (by omega) ⟨by decide, by decide⟩ (Or.inl (by decide)) rfl
          have hZ59U : zU [a0b] Z Z59 := zU_u hZ58U hZ59 (Or.inr (List.Mem.head _))
          have hZ59K : zC [14, 44, 53, 1112] Z Z59 := zC_u hZ58K hZ59 (by decide)
          intro μ9 e9
          replace e9 := e9.trans (zm_wI (Z := Z58) (ν := ν) hZ59 (rfl : ((a0b : Nat) : Int) = a0b) (i3I (y := ((Z55 11 a0b 0 12) % 60)) (i3R (zm_rd (Z := Z55) (ν := ν) (k := 11) (rfl : ((a0b : Nat) : Int) = a0b) (show ((0 : Nat) : Int) = 0 from rfl) (show ((12 : Nat) : Int) = 12 from rfl)) (show (60 : Int32) = i3 60 from rfl) (by omega) (by omega) (by omega) (by omega)) (by omega) (by omega) (by omega)) (show ((2 : Nat) : Int) = 2 from rfl) (i3M (rfl : i3 a2 = i3 a2) (zm_rd (Z := Z46) (ν := ν) (k := 13) (rfl : ((a0b : Nat) : Int) = a0b) (show ((0 : Nat) : Int) = 0 from rfl) (show ((0 : Nat) : Int) = 0 from rfl))))
          subst e9
          obtain ⟨Z60, hZ60⟩ := zx (zu Z59 53 a0b ((Z55 11 a0b 0 12) % 60) 3 a1)
          replace hP := zl_e hP hZ60
          have hZ60I := zH_u hZ59I hZ60 (lo := -2147483648) (hi := 2147483647) (by decide) rfl (by omega) ⟨by decide, by decide⟩ (Or.inl (by decide)) rfl
          have hZ60U : zU [a0b] Z Z60 := zU_u hZ59U hZ60 (Or.inr (List.Mem.head _))
          have hZ60K : zC [14, 44, 53, 1112] Z Z60 := zC_u hZ59K hZ60 (by decide)
          intro μ9 e9
          replace e9 := e9.trans (zm_wI (Z := Z59) (ν := ν) hZ60 (rfl : ((a0b : Nat) : Int) = a0b) (i3I (y := ((Z55 11 a0b 0 12) % 60)) (i3R (zm_rd (Z := Z55) (ν := ν) (k := 11) (rfl : ((a0b : Nat) : Int) = a0b) (show ((0 : Nat) : Int) = 0 from rfl) (show ((12 : Nat) : Int) = 12 from rfl)) (show (60 : Int32) = i3 60 from rfl) (by omega) (by omega) (by omega) (by omega)) (by omega) (by omega) (by omega)) (show ((3 : Nat) : Int) = 3 from rfl) (rfl : i3 a1 = i3 a1))
          subst e9
          have r61 := zH_k hZ60I 11 a0b 0 13 (lo := 0) (hi := 671) (by decide) rfl
          obtain ⟨Z62, hZ62⟩ := zx (zu Z60 53 a0b ((Z55 11 a0b 0 12) % 60) 4 (Z60 11 a0b 0 13))
          replace hP := zl_e hP hZ62
          have hZ62I := zH_u hZ60I hZ62 (lo := -2147483648) (hi := 2147483647) (by decide) rfl (by omega) ⟨by decide, by decide⟩ (Or.inl (by decide)) rfl
          have hZ62U : zU [a0b] Z Z62 := zU_u hZ60U hZ62 (Or.inr (List.Mem.head _))
          have hZ62K : zC [14, 44, 53, 1112] Z Z62 := zC_u hZ60K hZ62 (by decide)
          intro μ9 e9
          replace e9 := e9.trans (zm_wI (Z := Z60) (ν := ν) hZ62 (rfl : ((a0b : Nat) : Int) = a0b) (i3I (y := ((Z55 11 a0b 0 12) % 60)) (i3R (zm_rd (Z := Z55) (ν := ν) (k := 11) (rfl : ((a0b : Nat) : Int) = a0b) (show ((0 : Nat) : Int) = 0 from rfl) (show ((12 : Nat) : Int) = 12 from rfl)) (show (60 : Int32) = i3 60 from rfl) (by omega) (by omega) (by omega) (by omega)) (by omega) (by omega) (by omega)) (show ((4 : Nat) : Int) = 4 from rfl) (zm_rd (Z := Z60) (ν := ν) (k := 11) (rfl : ((a0b : Nat) : Int) = a0b) (show ((0 : Nat) : Int) = 0 from rfl) (show ((13 : Nat) : Int) = 13 from rfl)))
          subst e9
          have r63 := zH_c12 hZ62I a0b (zbh (c := 0) (k := 0) hM (Nat.le_of_ble_eq_true rfl))
          have q64 := (zu_ne (k' := 11) (b' := a0b) (i' := 0) (j' := 12) hZ62 (fun q => absurd q.1 (by decide))).trans ((zu_ne (k' := 11) (b' := a0b) (i' := 0) (j' := 12) hZ60 (fun q => absurd q.1 (by decide))).trans ((zu_ne (k' := 11) (b' := a0b) (i' := 0) (j' := 12) hZ59 (fun q => absurd q.1 (by decide))).trans ((zu_ne (k' := 11) (b' := a0b) (i' := 0) (j' := 12) hZ58 (fun q => absurd q.1 (by decide))).trans (zu_ne (k' := 11) (b' := a0b) (i' := 0) (j' := 12) hZ57 (fun q => absurd q.1 (by decide))))))
          obtain ⟨Z65, hZ65⟩ := zx (zu Z62 11 a0b 0 12 ((Z62 11 a0b 0 12) + 1))
          replace hP := zl_e hP hZ65
          have hZ65I := zH_i12 hZ62I hZ65 (zbh (c := 0) (k := 1) hM (Nat.le_of_ble_eq_true rfl)) (by omega)
          have hZ65U : zU [a0b] Z Z65 := zU_u hZ62U hZ65 (Or.inr (List.Mem.head _))
          have hZ65K : zC [14, 44, 53, 1112] Z Z65 := zC_u hZ62K hZ65 (by decide)
          intro μ9 e9
          replace e9 := e9.trans (zm_wI (Z := Z62) (ν := ν) hZ65 (rfl : ((a0b : Nat) : Int) = a0b) (show ((0 : Nat) : Int) = 0 from rfl) (show ((12 : Nat) : Int) = 12 from rfl) (i3A (zm_rd (Z := Z62) (ν := ν) (k := 11) (rfl : ((a0b : Nat) : Int) = a0b) (show ((0 : Nat) : Int) = 0 from rfl) (show ((12 : Nat) : Int) = 12 from rfl)) (show (1 : Int32) = i3 1 from rfl)))
          subst e9
          have r66 := zH_k hZ65I 44 a0b a1 9 (lo := -1) (hi := 3) (by decide) rfl
          have q67 := (zu_ne (k' := 44) (b' := a0b) (i' := a1) (j' := 9) hZ65 (fun q => absurd q.1 (by decide))).trans ((zu_ne (k' := 44) (b' := a0b) (i' := a1) (j' := 9) hZ62 (fun q => absurd q.1 (by decide))).trans ((zu_ne (k' := 44) (b' := a0b) (i' := a1) (j' := 9) hZ60 (fun q => absurd q.1 (by decide))).trans ((zu_ne (k' := 44) (b' := a0b) (i' := a1) (j' := 9) hZ59 (fun q => absurd q.1 (by decide))).trans ((zu_ne (k' := 44) (b' := a0b) (i' := a1) (j' := 9) hZ58 (fun q => absurd q.1 (by decide))).trans ((zu_ne (k' := 44) (b' := a0b) (i' := a1) (j' := 9) hZ57 (fun q => absurd q.1 (by decide))).trans ((zu_ne (k' := 44) (b' := a0b) (i' := a1) (j' := 9) hZ55 (fun q => absurd q.1 (by decide))).trans ((zu_ne (k' := 44) (b' := a0b) (i' := a1) (j' := 9) hZ52 (fun q => absurd q.1 (by decide))).trans ((zu_ne (k' := 44) (b' := a0b) (i' := a1) (j' := 9) hZ46 (fun q => absurd q.2.2.2 (by decide))).trans ((zu_ne (k' := 44) (b' := a0b) (i' := a1) (j' := 9) hZ45 (fun q => absurd q.2.2.2 (by decide))).trans (zu_at hZ42))))))))))
          exact zlW hP (zm_rd (Z := Z65) (ν := ν) (k := 44) (rfl : ((a0b : Nat) : Int) = a0b) (i3I (y := a1) (rfl : i3 a1 = i3 a1) (by omega) (by omega) (by omega)) (show ((9 : Nat) : Int) = 9 from rfl)) ⟨hZ65I, hZ65K, hZ65U, by omega, by omega⟩
        · replace hP := zE_n hP h49
          have r68 := zH_k hZ46I 44 a0b a1 9 (lo := -1) (hi := 3) (by decide) rfl
          have q69 := (zu_ne (k' := 44) (b' := a0b) (i' := a1) (j' := 9) hZ46 (fun q => absurd q.2.2.2 (by decide))).trans ((zu_ne (k' := 44) (b' := a0b) (i' := a1) (j' := 9) hZ45 (fun q => absurd q.2.2.2 (by decide))).trans (zu_at hZ42))
          exact zlW hP (zm_rd (Z := Z46) (ν := ν) (k := 44) (rfl : ((a0b : Nat) : Int) = a0b) (i3I (y := a1) (rfl : i3 a1 = i3 a1) (by omega) (by omega) (by omega)) (show ((9 : Nat) : Int) = 9 from rfl)) ⟨(zbw (a := 0) (c := 1) hZ46I (Nat.le_of_ble_eq_true rfl)), hZ46K, hZ46U, by omega, by omega⟩
    · replace hP := zE_n hP h10
      obtain ⟨v70, hv70, c9, lv70, uv70⟩ := sp_100 (ν := ν) hZ a0b a0b _ (i3I (y := a1) (rfl : i3 a1 = i3 a1) (by omega) (by omega) (by omega)) (by omega) (zbh (c := 0) (k := 0) hM (Nat.le_of_ble_eq_true rfl))
      replace hP := zl_e hP hv70
      refine wz_cI_of (zas (zcons rfl (zcons rfl rfl)) c9) ?_
      clear c9
      obtain ⟨Z71, hZ71⟩ := zx (zu Z 44 a0b a1 9 (max 1 v70))
      replace hP := zl_e hP hZ71
      have hZ71I := zH_u hZ hZ71 (lo := -1) (hi := 3) (by decide) rfl (by omega) ⟨by decide, by decide⟩ (Or.inl (by decide)) rfl
      have hZ71U : zU [a0b] Z Z71 := zU_u zU_r hZ71 (Or.inr (List.Mem.head _))
      have hZ71K : zC [14, 44, 53, 1112] Z Z71 := zC_u zC_r hZ71 (by decide)
      intro μ9 e9
      replace e9 := e9.trans (zm_wI (Z := Z) (ν := ν) hZ71 (rfl : ((a0b : Nat) : Int) = a0b) (i3I (y := a1) (rfl : i3 a1 = i3 a1) (by omega) (by omega) (by omega)) (show ((9 : Nat) : Int) = 9 from rfl) (i3Mx (show (1 : Int32) = i3 1 from rfl) (rfl : i3 v70 = i3 v70) (by omega) (by omega) (by omega) (by omega)))
      subst e9
      have r72 := zH_f hZ71I 44 a0b a1 14
      have r73 := w3_r ((Z71 44 a0b a1 14) + 1)
      obtain ⟨Z74, hZ74⟩ := zx (zu Z71 44 a0b a1 14 (w3 ((Z71 44 a0b a1 14) + 1)))
      replace hP := zl_e hP hZ74
      have hZ74I := zH_u hZ71I hZ74 (lo := -2147483648) (hi := 2147483647) (by decide) rfl (by omega) ⟨by decide, by decide⟩ (Or.inl (by decide)) rfl
      have hZ74U : zU [a0b] Z Z74 := zU_u hZ71U hZ74 (Or.inr (List.Mem.head _))
      have hZ74K : zC [14, 44, 53, 1112] Z Z74 := zC_u hZ71K hZ74 (by decide)
      intro μ9 e9
      replace e9 := e9.trans (zm_wI (Z := Z71) (ν := ν) hZ74 (rfl : ((a0b : Nat) : Int) = a0b) (i3I (y := a1) (rfl : i3 a1 = i3 a1) (by omega) (by omega) (by omega)) (show ((14 : Nat) : Int) = 14 from rfl) (i3W (i3A (zm_rd (Z := Z71) (ν := ν) (k := 44) (rfl : ((a0b : Nat) : Int) = a0b) (i3I (y := a1) (rfl : i3 a1 = i3 a1) (by omega) (by omega) (by omega)) (show ((14 : Nat) : Int) = 14 from rfl)) (show (1 : Int32) = i3 1 from rfl))))
      subst e9
      obtain ⟨Z75, hZ75⟩ := zx (zu Z74 44 a0b a1 15 y5)
      replace hP := zl_e hP hZ75
      have hZ75I := zH_u hZ74I hZ75 (lo := -1) (hi := 20) (by decide) rfl (by omega) ⟨by decide, by decide⟩ (Or.inl (by decide)) rfl
      have hZ75U : zU [a0b] Z Z75 := zU_u hZ74U hZ75 (Or.inr (List.Mem.head _))
      have hZ75K : zC [14, 44, 53, 1112] Z Z75 := zC_u hZ74K hZ75 (by decide)
      intro μ9 e9
      replace e9 := e9.trans (zm_wI (Z := Z74) (ν := ν) hZ75 (rfl : ((a0b : Nat) : Int) = a0b) (i3I (y := a1) (rfl : i3 a1 = i3 a1) (by omega) (by omega) (by omega)) (show ((15 : Nat) : Int) = 15 from rfl) (rfl : i3 y5 = i3 y5))
      subst e9
      have r76 := zH_k hZ75I 13 a0b 0 0 (lo := 0) (hi := 99999) (by decide) rfl
      have r77 := z_mul (x := a2) (y := (Z75 13 a0b 0 0)) (a := 20) (b := 99999) (by omega) (by omega) (by omega) (by omega)
      refine wz_br (i3NE (i3M (rfl : i3 a2 = i3 a2) (zm_rd (Z := Z75) (ν := ν) (k := 13) (rfl : ((a0b : Nat) : Int) = a0b) (show ((0 : Nat) : Int) = 0 from rfl) (show ((0 : Nat) : Int) = 0 from rfl))) (show (0 : Int32) = i3 0 from rfl) (by omega) (by omega) (by omega) (by omega)) (fun h78 => ?_) (fun h78 => ?_)
      · replace hP := zE_p hP h78
        have r79 := zH_f hZ75I 14 a0b 0 0
        have r80 := w3_r ((Z75 14 a0b 0 0) - (a2 * (Z75 13 a0b 0 0)))
        obtain ⟨Z81, hZ81⟩ := zx (zu Z75 14 a0b 0 0 (w3 ((Z75 14 a0b 0 0) - (a2 * (Z75 13 a0b 0 0)))))
        replace hP := zl_e hP hZ81
        have hZ81I := zH_u hZ75I hZ81 (lo := -2147483648) (hi := 2147483647) (by decide) rfl (by omega) ⟨by decide, by decide⟩ (Or.inl (by decide)) rfl
        have hZ81U : zU [a0b] Z Z81 := zU_u hZ75U hZ81 (Or.inr (List.Mem.head _))
        have hZ81K : zC [14, 44, 53, 1112] Z Z81 := zC_u hZ75K hZ81 (by decide)
        intro μ9 e9
        replace e9 := e9.trans (zm_wI (Z := Z75) (ν := ν) hZ81 (rfl : ((a0b : Nat) : Int) = a0b) (show ((0 : Nat) : Int) = 0 from rfl) (show ((0 : Nat) : Int) = 0 from rfl) (i3W (i3S (zm_rd (Z := Z75) (ν := ν) (k := 14) (rfl : ((a0b : Nat) : Int) = a0b) (show ((0 : Nat) : Int) = 0 from rfl) (show ((0 : Nat) : Int) = 0 from rfl)) (i3M (rfl : i3 a2 = i3 a2) (zm_rd (Z := Z75) (ν := ν) (k := 13) (rfl : ((a0b : Nat) : Int) = a0b) (show ((0 : Nat) : Int) = 0 from rfl) (show ((0 : Nat) : Int) = 0 from rfl))))))
        subst e9
        have r82 := zH_f hZ81I 14 a0b 0 6
        have r83 := w3_r ((Z81 14 a0b 0 6) + (a2 * (Z75 13 a0b 0 0)))
        obtain ⟨Z84, hZ84⟩ := zx (zu Z81 14 a0b 0 6 (w3 ((Z81 14 a0b 0 6) + (a2 * (Z75 13 a0b 0 0)))))
        replace hP := zl_e hP hZ84
        have hZ84I := zH_u hZ81I hZ84 (lo := -2147483648) (hi := 2147483647) (by decide) rfl (by omega) ⟨by decide, by decide⟩ (Or.inl (by decide)) rfl
        have hZ84U : zU [a0b] Z Z84 := zU_u hZ81U hZ84 (Or.inr (List.Mem.head _))
        have hZ84K : zC [14, 44, 53, 1112] Z Z84 := zC_u hZ81K hZ84 (by decide)
        intro μ9 e9
        replace e9 := e9.trans (zm_wI (Z := Z81) (ν := ν) hZ84 (rfl : ((a0b : Nat) : Int) = a0b) (show ((0 : Nat) : Int) = 0 from rfl) (show ((6 : Nat) : Int) = 6 from rfl) (i3W (i3A (zm_rd (Z := Z81) (ν := ν) (k := 14) (rfl : ((a0b : Nat) : Int) = a0b) (show ((0 : Nat) : Int) = 0 from rfl) (show ((6 : Nat) : Int) = 6 from rfl)) (i3M (rfl : i3 a2 = i3 a2) (zm_rd (Z := Z75) (ν := ν) (k := 13) (rfl : ((a0b : Nat) : Int) = a0b) (show ((0 : Nat) : Int) = 0 from rfl) (show ((0 : Nat) : Int) = 0 from rfl))))))
        subst e9
        have r85 := zH_c12 hZ84I a0b (zbh (c := 0) (k := 0) hM (Nat.le_of_ble_eq_true rfl))
        refine wz_i0 (i3O (n := 60) (i3R (zm_rd (Z := Z84) (ν := ν) (k := 11) (rfl : ((a0b : Nat) : Int) = a0b) (show ((0 : Nat) : Int) = 0 from rfl) (show ((12 : Nat) : Int) = 12 from rfl)) (show (60 : Int32) = i3 60 from rfl) (by omega) (by omega) (by omega) (by omega)) (by omega) (by omega) (by omega)) ?_
        obtain ⟨Z86, hZ86⟩ := zx (zu Z84 53 a0b ((Z84 11 a0b 0 12) % 60) 0 0)
        replace hP := zl_e hP hZ86
        have hZ86I := zH_0 hZ84I hZ86 (by decide) (Or.inl (by decide))
        have hZ86U : zU [a0b] Z Z86 := zU_u hZ84U hZ86 (Or.inr (List.Mem.head _))
        have hZ86K : zC [14, 44, 53, 1112] Z Z86 := zC_u hZ84K hZ86 (by decide)
        intro μ9 e9
        replace e9 := e9.trans (zm_wI (Z := Z84) (ν := ν) hZ86 (rfl : ((a0b : Nat) : Int) = a0b) (i3I (y := ((Z84 11 a0b 0 12) % 60)) (i3R (zm_rd (Z := Z84) (ν := ν) (k := 11) (rfl : ((a0b : Nat) : Int) = a0b) (show ((0 : Nat) : Int) = 0 from rfl) (show ((12 : Nat) : Int) = 12 from rfl)) (show (60 : Int32) = i3 60 from rfl) (by omega) (by omega) (by omega) (by omega)) (by omega) (by omega) (by omega)) (show ((0 : Nat) : Int) = 0 from rfl) (show (0 : Int32) = i3 0 from rfl))
        subst e9
        obtain ⟨Z87, hZ87⟩ := zx (zu Z86 53 a0b ((Z84 11 a0b 0 12) % 60) 1 6)
        replace hP := zl_e hP hZ87
        have hZ87I := zH_u hZ86I hZ87 (lo := -2147483648) (hi := 2147483647) (by decide) rfl (by omega) ⟨by decide, by decide⟩ (Or.inl (by decide)) rfl
        have hZ87U : zU [a0b] Z Z87 := zU_u hZ86U hZ87 (Or.inr (List.Mem.head _))
        have hZ87K : zC [14, 44, 53, 1112] Z Z87 := zC_u hZ86K hZ87 (by decide)
        intro μ9 e9
        replace e9 := e9.trans (zm_wI (Z := Z86) (ν := ν) hZ87 (rfl : ((a0b : Nat) : Int) = a0b) (i3I (y := ((Z84 11 a0b 0 12) % 60)) (i3R (zm_rd (Z := Z84) (ν := ν) (k := 11) (rfl : ((a0b : Nat) : Int) = a0b) (show ((0 : Nat) : Int) = 0 from rfl) (show ((12 : Nat) : Int) = 12 from rfl)) (show (60 : Int32) = i3 60 from rfl) (by omega) (by omega) (by omega) (by omega)) (by omega) (by omega) (by omega)) (show ((1 : Nat) : Int) = 1 from rfl) (show (6 : Int32) = i3 6 from rfl))
        subst e9
        obtain ⟨Z88, hZ88⟩ := zx (zu Z87 53 a0b ((Z84 11 a0b 0 12) % 60) 2 (a2 * (Z75 13 a0b 0 0)))
        replace hP := zl_e hP hZ88
        have hZ88I := zH_u hZ87I hZ88 (lo := -2147483648) (hi := 2147483647) (by decide) rfl (by omega) ⟨by decide, by decide⟩ (Or.inl (by decide)) rfl
        have hZ88U : zU [a0b] Z Z88 := zU_u hZ87U hZ88 (Or.inr (List.Mem.head _))
        have hZ88K : zC [14, 44, 53, 1112] Z Z88 := zC_u hZ87K hZ88 (by decide)
        intro μ9 e9
        replace e9 := e9.trans (zm_wI (Z := Z87) (ν := ν) hZ88 (rfl : ((a0b : Nat) : Int) = a0b) (i3I (y := ((Z84 11 a0b 0 12) % 60)) (i3R (zm_rd (Z := Z84) (ν := ν) (k := 11) (rfl : ((a0b : Nat) : Int) = a0b) (show ((0 : Nat) : Int) = 0 from rfl) (show ((12 : Nat) : Int) = 12 from rfl)) (show (60 : Int32) = i3 60 from rfl) (by omega) (by omega) (by omega) (by omega)) (by omega) (by omega) (by omega)) (show ((2 : Nat) : Int) = 2 from rfl) (i3M (rfl : i3 a2 = i3 a2) (zm_rd (Z := Z75) (ν := ν) (k := 13) (rfl : ((a0b : Nat) : Int) = a0b) (show ((0 : Nat) : Int) = 0 from rfl) (show ((0 : Nat) : Int) = 0 from rfl))))
        subst e9
        obtain ⟨Z89, hZ89⟩ := zx (zu Z88 53 a0b ((Z84 11 a0b 0 12) % 60) 3 a1)
        replace hP := zl_e hP hZ89
        have hZ89I := zH_u hZ88I hZ89 (lo := -2147483648) (hi := 2147483647) (by decide) rfl (by omega) ⟨by decide, by decide⟩ (Or.inl (by decide)) rfl
        have hZ89U : zU [a0b] Z Z89 := zU_u hZ88U hZ89 (Or.inr (List.Mem.head _))
        have hZ89K : zC [14, 44, 53, 1112] Z Z89 := zC_u hZ88K hZ89 (by decide)
        intro μ9 e9
        replace e9 := e9.trans (zm_wI (Z := Z88) (ν := ν) hZ89 (rfl : ((a0b : Nat) : Int) = a0b) (i3I (y := ((Z84 11 a0b 0 12) % 60)) (i3R (zm_rd (Z := Z84) (ν := ν) (k := 11) (rfl : ((a0b : Nat) : Int) = a0b) (show ((0 : Nat) : Int) = 0 from rfl) (show ((12 : Nat) : Int) = 12 from rfl)) (show (60 : Int32) = i3 60 from rfl) (by omega) (by omega) (by omega) (by omega)) (by omega) (by omega) (by omega)) (show ((3 : Nat) : Int) = 3 from rfl) (rfl : i3 a1 = i3 a1))
        subst e9
        have r90 := zH_k hZ89I 11 a0b 0 13 (lo := 0) (hi := 671) (by decide) rfl
        obtain ⟨Z91, hZ91⟩ := zx (zu Z89 53 a0b ((Z84 11 a0b 0 12) % 60) 4 (Z89 11 a0b 0 13))
        replace hP := zl_e hP hZ91
        have hZ91I := zH_u hZ89I hZ91 (lo := -2147483648) (hi := 2147483647) (by decide) rfl (by omega) ⟨by decide, by decide⟩ (Or.inl (by decide)) rfl
        have hZ91U : zU [a0b] Z Z91 := zU_u hZ89U hZ91 (Or.inr (List.Mem.head _))
        have hZ91K : zC [14, 44, 53, 1112] Z Z91 := zC_u hZ89K hZ91 (by decide)
        intro μ9 e9
        replace e9 := e9.trans (zm_wI (Z := Z89) (ν := ν) hZ91 (rfl : ((a0b : Nat) : Int) = a0b) (i3I (y := ((Z84 11 a0b 0 12) % 60)) (i3R (zm_rd (Z := Z84) (ν := ν) (k := 11) (rfl : ((a0b : Nat) : Int) = a0b) (show ((0 : Nat) : Int) = 0 from rfl) (show ((12 : Nat) : Int) = 12 from rfl)) (show (60 : Int32) = i3 60 from rfl) (by omega) (by omega) (by omega) (by omega)) (by omega) (by omega) (by omega)) (show ((4 : Nat) : Int) = 4 from rfl) (zm_rd (Z := Z89) (ν := ν) (k := 11) (rfl : ((a0b : Nat) : Int) = a0b) (show ((0 : Nat) : Int) = 0 from rfl) (show ((13 : Nat) : Int) = 13 from rfl)))
        subst e9
        have r92 := zH_c12 hZ91I a0b (zbh (c := 0) (k := 0) hM (Nat.le_of_ble_eq_true rfl))
        have q93 := (zu_ne (k' := 11) (b' := a0b) (i' := 0) (j' := 12) hZ91 (fun q => absurd q.1 (by decide))).trans ((zu_ne (k' := 11) (b' := a0b) (i' := 0) (j' := 12) hZ89 (fun q => absurd q.1 (by decide))).trans ((zu_ne (k' := 11) (b' := a0b) (i' := 0) (j' := 12) hZ88 (fun q => absurd q.1 (by decide))).trans ((zu_ne (k' := 11) (b' := a0b) (i' := 0) (j' := 12) hZ87 (fun q => absurd q.1 (by decide))).trans (zu_ne (k' := 11) (b' := a0b) (i' := 0) (j' := 12) hZ86 (fun q => absurd q.1 (by decide))))))
        obtain ⟨Z94, hZ94⟩ := zx (zu Z91 11 a0b 0 12 ((Z91 11 a0b 0 12) + 1))
        replace hP := zl_e hP hZ94
        have hZ94I := zH_i12 hZ91I hZ94 (zbh (c := 0) (k := 1) hM (Nat.le_of_ble_eq_true rfl)) (by omega)
        have hZ94U : zU [a0b] Z Z94 := zU_u hZ91U hZ94 (Or.inr (List.Mem.head _))
        have hZ94K : zC [14, 44, 53, 1112] Z Z94 := zC_u hZ91K hZ94 (by decide)
        intro μ9 e9
        replace e9 := e9.trans (zm_wI (Z := Z91) (ν := ν) hZ94 (rfl : ((a0b : Nat) : Int) = a0b) (show ((0 : Nat) : Int) = 0 from rfl) (show ((12 : Nat) : Int) = 12 from rfl) (i3A (zm_rd (Z := Z91) (ν := ν) (k := 11) (rfl : ((a0b : Nat) : Int) = a0b) (show ((0 : Nat) : Int) = 0 from rfl) (show ((12 : Nat) : Int) = 12 from rfl)) (show (1 : Int32) = i3 1 from rfl)))
        subst e9
        have r95 := zH_k hZ94I 44 a0b a1 9 (lo := -1) (hi := 3) (by decide) rfl
        have q96 := (zu_ne (k' := 44) (b' := a0b) (i' := a1) (j' := 9) hZ94 (fun q => absurd q.1 (by decide))).trans ((zu_ne (k' := 44) (b' := a0b) (i' := a1) (j' := 9) hZ91 (fun q => absurd q.1 (by decide))).trans ((zu_ne (k' := 44) (b' := a0b) (i' := a1) (j' := 9) hZ89 (fun q => absurd q.1 (by decide))).trans ((zu_ne (k' := 44) (b' := a0b) (i' := a1) (j' := 9) hZ88 (fun q => absurd q.1 (by decide))).trans ((zu_ne (k' := 44) (b' := a0b) (i' := a1) (j' := 9) hZ87 (fun q => absurd q.1 (by decide))).trans ((zu_ne (k' := 44) (b' := a0b) (i' := a1) (j' := 9) hZ86 (fun q => absurd q.1 (by decide))).trans ((zu_ne (k' := 44) (b' := a0b) (i' := a1) (j' := 9) hZ84 (fun q => absurd q.1 (by decide))).trans ((zu_ne (k' := 44) (b' := a0b) (i' := a1) (j' := 9) hZ81 (fun q => absurd q.1 (by decide))).trans ((zu_ne (k' := 44) (b' := a0b) (i' := a1) (j' := 9) hZ75 (fun q => absurd q.2.2.2 (by decide))).trans ((zu_ne (k' := 44) (b' := a0b) (i' := a1) (j' := 9) hZ74 (fun q => absurd q.2.2.2 (by decide))).trans (zu_at hZ71))))))))))
        exact zlW hP (zm_rd (Z := Z94) (ν := ν) (k := 44) (rfl : ((a0b : Nat) : Int) = a0b) (i3I (y := a1) (rfl : i3 a1 = i3 a1) (by omega) (by omega) (by omega)) (show ((9 : Nat) : Int) = 9 from rfl)) ⟨hZ94I, hZ94K, hZ94U, by omega, by omega⟩
      · replace hP := zE_n hP h78
        have r97 := zH_k hZ75I 44 a0b a1 9 (lo := -1) (hi := 3) (by decide) rfl
        have q98 := (zu_ne (k' := 44) (b' := a0b) (i' := a1) (j' := 9) hZ75 (fun q => absurd q.2.2.2 (by decide))).trans ((zu_ne (k' := 44) (b' := a0b) (i' := a1) (j' := 9) hZ74 (fun q => absurd q.2.2.2 (by decide))).trans (zu_at hZ71))
        exact zlW hP (zm_rd (Z := Z75) (ν := ν) (k := 44) (rfl : ((a0b : Nat) : Int) = a0b) (i3I (y := a1) (rfl : i3 a1 = i3 a1) (by omega) (by omega) (by omega)) (show ((9 : Nat) : Int) = 9 from rfl)) ⟨(zbw (a := 0) (c := 1) hZ75I (Nat.le_of_ble_eq_true rfl)), hZ75K, hZ75U, by omega, by omega⟩
  · replace hP := zE_n hP h9
    obtain ⟨v99, hv99, c9, lv99, uv99⟩ := sp_100 (ν := ν) hZ a0b a0b _ (i3I (y := a1) (rfl : i3 a1 = i3 a1) (by omega) (by omega) (by omega)) (by omega) (zbh (c := 0) (k := 0) hM (Nat.le_of_ble_eq_true rfl))
    replace hP := zl_e hP hv99
    refine wz_cI_of (zas (zcons rfl (zcons rfl rfl)) c9) ?_
    clear c9
    obtain ⟨Z100, hZ100⟩ := zx (zu Z 44 a0b a1 9 (max 0 v99))
    replace hP := zl_e hP hZ100
    have hZ100I := zH_u hZ hZ100 (lo := -1) (hi := 3) (by decide) rfl (by omega) ⟨by decide, by decide⟩ (Or.inl (by decide)) rfl
    have hZ100U : zU [a0b] Z Z100 := zU_u zU_r hZ100 (Or.inr (List.Mem.head _))
    have hZ100K : zC [14, 44, 53, 1112] Z Z100 := zC_u zC_r hZ100 (by decide)
    intro μ9 e9
    replace e9 := e9.trans (zm_wI (Z := Z) (ν := ν) hZ100 (rfl : ((a0b : Nat) : Int) = a0b) (i3I (y := a1) (rfl : i3 a1 = i3 a1) (by omega) (by omega) (by omega)) (show ((9 : Nat) : Int) = 9 from rfl) (i3Mx (show (0 : Int32) = i3 0 from rfl) (rfl : i3 v99 = i3 v99) (by omega) (by omega) (by omega) (by omega)))
    subst e9
    have r101 := zH_f hZ100I 44 a0b a1 14
    have r102 := w3_r ((Z100 44 a0b a1 14) + 1)
    obtain ⟨Z103, hZ103⟩ := zx (zu Z100 44 a0b a1 14 (w3 ((Z100 44 a0b a1 14) + 1)))
    replace hP := zl_e hP hZ103
    have hZ103I := zH_u hZ100I hZ103 (lo := -2147483648) (hi := 2147483647) (by decide) rfl (by omega) ⟨by decide, by decide⟩ (Or.inl (by decide)) rfl
    have hZ103U : zU [a0b] Z Z103 := zU_u hZ100U hZ103 (Or.inr (List.Mem.head _))
    have hZ103K : zC [14, 44, 53, 1112] Z Z103 := zC_u hZ100K hZ103 (by decide)
    intro μ9 e9
    replace e9 := e9.trans (zm_wI (Z := Z100) (ν := ν) hZ103 (rfl : ((a0b : Nat) : Int) = a0b) (i3I (y := a1) (rfl : i3 a1 = i3 a1) (by omega) (by omega) (by omega)) (show ((14 : Nat) : Int) = 14 from rfl) (i3W (i3A (zm_rd (Z := Z100) (ν := ν) (k := 44) (rfl : ((a0b : Nat) : Int) = a0b) (i3I (y := a1) (rfl : i3 a1 = i3 a1) (by omega) (by omega) (by omega)) (show ((14 : Nat) : Int) = 14 from rfl)) (show (1 : Int32) = i3 1 from rfl))))
    subst e9
    obtain ⟨Z104, hZ104⟩ := zx (zu Z103 44 a0b a1 15 y5)
    replace hP := zl_e hP hZ104
    have hZ104I := zH_u hZ103I hZ104 (lo := -1) (hi := 20) (by decide) rfl (by omega) ⟨by decide, by decide⟩ (Or.inl (by decide)) rfl
    have hZ104U : zU [a0b] Z Z104 := zU_u hZ103U hZ104 (Or.inr (List.Mem.head _))
    have hZ104K : zC [14, 44, 53, 1112] Z Z104 := zC_u hZ103K hZ104 (by decide)
    intro μ9 e9
    replace e9 := e9.trans (zm_wI (Z := Z103) (ν := ν) hZ104 (rfl : ((a0b : Nat) : Int) = a0b) (i3I (y := a1) (rfl : i3 a1 = i3 a1) (by omega) (by omega) (by omega)) (show ((15 : Nat) : Int) = 15 from rfl) (rfl : i3 y5 = i3 y5))
    subst e9
    have r105 := zH_k hZ104I 13 a0b 0 0 (lo := 0) (hi := 99999) (by decide) rfl
    have r106 := z_mul (x := a2) (y := (Z104 13 a0b 0 0)) (a := 20) (b := 99999) (by omega) (by omega) (by omega) (by omega)
    refine wz_br (i3NE (i3M (rfl : i3 a2 = i3 a2) (zm_rd (Z := Z104) (ν := ν) (k := 13) (rfl : ((a0b : Nat) : Int) = a0b) (show ((0 : Nat) : Int) = 0 from rfl) (show ((0 : Nat) : Int) = 0 from rfl))) (show (0 : Int32) = i3 0 from rfl) (by omega) (by omega) (by omega) (by omega)) (fun h107 => ?_) (fun h107 => ?_)
    · replace hP := zE_p hP h107
      have r108 := zH_f hZ104I 14 a0b 0 0
      have r109 := w3_r ((Z104 14 a0b 0 0) - (a2 * (Z104 13 a0b 0 0)))
      obtain ⟨Z110, hZ110⟩ := zx (zu Z104 14 a0b 0 0 (w3 ((Z104 14 a0b 0 0) - (a2 * (Z104 13 a0b 0 0)))))
      replace hP := zl_e hP hZ110
      have hZ110I := zH_u hZ104I hZ110 (lo := -2147483648) (hi := 2147483647) (by decide) rfl (by omega) ⟨by decide, by decide⟩ (Or.inl (by decide)) rfl
      have hZ110U : zU [a0b] Z Z110 := zU_u hZ104U hZ110 (Or.inr (List.Mem.head _))
      have hZ110K : zC [14, 44, 53, 1112] Z Z110 := zC_u hZ104K hZ110 (by decide)
      intro μ9 e9
      replace e9 := e9.trans (zm_wI (Z := Z104) (ν := ν) hZ110 (rfl : ((a0b : Nat) : Int) = a0b) (show ((0 : Nat) : Int) = 0 from rfl) (show ((0 : Nat) : Int) = 0 from rfl) (i3W (i3S (zm_rd (Z := Z104) (ν := ν) (k := 14) (rfl : ((a0b : Nat) : Int) = a0b) (show ((0 : Nat) : Int) = 0 from rfl) (show ((0 : Nat) : Int) = 0 from rfl)) (i3M (rfl : i3 a2 = i3 a2) (zm_rd (Z := Z104) (ν := ν) (k := 13) (rfl : ((a0b : Nat) : Int) = a0b) (show ((0 : Nat) : Int) = 0 from rfl) (show ((0 : Nat) : Int) = 0 from rfl))))))
      subst e9
      have r111 := zH_f hZ110I 14 a0b 0 6
      have r112 := w3_r ((Z110 14 a0b 0 6) + (a2 * (Z104 13 a0b 0 0)))
      obtain ⟨Z113, hZ113⟩ := zx (zu Z110 14 a0b 0 6 (w3 ((Z110 14 a0b 0 6) + (a2 * (Z104 13 a0b 0 0)))))
      replace hP := zl_e hP hZ113
      have hZ113I := zH_u hZ110I hZ113 (lo := -2147483648) (hi := 2147483647) (by decide) rfl (by omega) ⟨by decide, by decide⟩ (Or.inl (by decide)) rfl
      have hZ113U : zU [a0b] Z Z113 := zU_u hZ110U hZ113 (Or.inr (List.Mem.head _))
      have hZ113K : zC [14, 44, 53, 1112] Z Z113 := zC_u hZ110K hZ113 (by decide)
      intro μ9 e9
      replace e9 := e9.trans (zm_wI (Z := Z110) (ν := ν) hZ113 (rfl : ((a0b : Nat) : Int) = a0b) (show ((0 : Nat) : Int) = 0 from rfl) (show ((6 : Nat) : Int) = 6 from rfl) (i3W (i3A (zm_rd (Z := Z110) (ν := ν) (k := 14) (rfl : ((a0b : Nat) : Int) = a0b) (show ((0 : Nat) : Int) = 0 from rfl) (show ((6 : Nat) : Int) = 6 from rfl)) (i3M (rfl : i3 a2 = i3 a2) (zm_rd (Z := Z104) (ν := ν) (k := 13) (rfl : ((a0b : Nat) : Int) = a0b) (show ((0 : Nat) : Int) = 0 from rfl) (show ((0 : Nat) : Int) = 0 from rfl))))))
      subst e9
      have r114 := zH_c12 hZ113I a0b (zbh (c := 0) (k := 0) hM (Nat.le_of_ble_eq_true rfl))
      refine wz_i0 (i3O (n := 60) (i3R (zm_rd (Z := Z113) (ν := ν) (k := 11) (rfl : ((a0b : Nat) : Int) = a0b) (show ((0 : Nat) : Int) = 0 from rfl) (show ((12 : Nat) : Int) = 12 from rfl)) (show (60 : Int32) = i3 60 from rfl) (by omega) (by omega) (by omega) (by omega)) (by omega) (by omega) (by omega)) ?_
      obtain ⟨Z115, hZ115⟩ := zx (zu Z113 53 a0b ((Z113 11 a0b 0 12) % 60) 0 0)
      replace hP := zl_e hP hZ115
      have hZ115I := zH_0 hZ113I hZ115 (by decide) (Or.inl (by decide))
      have hZ115U : zU [a0b] Z Z115 := zU_u hZ113U hZ115 (Or.inr (List.Mem.head _))
      have hZ115K : zC [14, 44, 53, 1112] Z Z115 := zC_u hZ113K hZ115 (by decide)
      intro μ9 e9
      replace e9 := e9.trans (zm_wI (Z := Z113) (ν := ν) hZ115 (rfl : ((a0b : Nat) : Int) = a0b) (i3I (y := ((Z113 11 a0b 0 12) % 60)) (i3R (zm_rd (Z := Z113) (ν := ν) (k := 11) (rfl : ((a0b : Nat) : Int) = a0b) (show ((0 : Nat) : Int) = 0 from rfl) (show ((12 : Nat) : Int) = 12 from rfl)) (show (60 : Int32) = i3 60 from rfl) (by omega) (by omega) (by omega) (by omega)) (by omega) (by omega) (by omega)) (show ((0 : Nat) : Int) = 0 from rfl) (show (0 : Int32) = i3 0 from rfl))
      subst e9
      obtain ⟨Z116, hZ116⟩ := zx (zu Z115 53 a0b ((Z113 11 a0b 0 12) % 60) 1 6)
      replace hP := zl_e hP hZ116
      have hZ116I := zH_u hZ115I hZ116 (lo := -2147483648) (hi := 2147483647) (by decide) rfl (by omega) ⟨by decide, by decide⟩ (Or.inl (by decide)) rfl
      have hZ116U : zU [a0b] Z Z116 := zU_u hZ115U hZ116 (Or.inr (List.Mem.head _))
      have hZ116K : zC [14, 44, 53, 1112] Z Z116 := zC_u hZ115K hZ116 (by decide)
      intro μ9 e9
      replace e9 := e9.trans (zm_wI (Z := Z115) (ν := ν) hZ116 (rfl : ((a0b : Nat) : Int) = a0b) (i3I (y := ((Z113 11 a0b 0 12) % 60)) (i3R (zm_rd (Z := Z113) (ν := ν) (k := 11) (rfl : ((a0b : Nat) : Int) = a0b) (show ((0 : Nat) : Int) = 0 from rfl) (show ((12 : Nat) : Int) = 12 from rfl)) (show (60 : Int32) = i3 60 from rfl) (by omega) (by omega) (by omega) (by omega)) (by omega) (by omega) (by omega)) (show ((1 : Nat) : Int) = 1 from rfl) (show (6 : Int32) = i3 6 from rfl))
      subst e9
      obtain ⟨Z117, hZ117⟩ := zx (zu Z116 53 a0b ((Z113 11 a0b 0 12) % 60) 2 (a2 * (Z104 13 a0b 0 0)))
      replace hP := zl_e hP hZ117
      have hZ117I := zH_u hZ116I hZ117 (lo := -2147483648) (hi := 2147483647) (by decide) rfl (by omega) ⟨by decide, by decide⟩ (Or.inl (by decide)) rfl
      have hZ117U : zU [a0b] Z Z117 := zU_u hZ116U hZ117 (Or.inr (List.Mem.head _))
      have hZ117K : zC [14, 44, 53, 1112] Z Z117 := zC_u hZ116K hZ117 (by decide)
      intro μ9 e9
      replace e9 := e9.trans (zm_wI (Z := Z116) (ν := ν) hZ117 (rfl : ((a0b : Nat) : Int) = a0b) (i3I (y := ((Z113 11 a0b 0 12) % 60)) (i3R (zm_rd (Z := Z113) (ν := ν) (k := 11) (rfl : ((a0b : Nat) : Int) = a0b) (show ((0 : Nat) : Int) = 0 from rfl) (show ((12 : Nat) : Int) = 12 from rfl)) (show (60 : Int32) = i3 60 from rfl) (by omega) (by omega) (by omega) (by omega)) (by omega) (by omega) (by omega)) (show ((2 : Nat) : Int) = 2 from rfl) (i3M (rfl : i3 a2 = i3 a2) (zm_rd (Z := Z104) (ν := ν) (k := 13) (rfl : ((a0b : Nat) : Int) = a0b) (show ((0 : Nat) : Int) = 0 from rfl) (show ((0 : Nat) : Int) = 0 from rfl))))
      subst e9
      obtain ⟨Z118, hZ118⟩ := zx (zu Z117 53 a0b ((Z113 11 a0b 0 12) % 60) 3 a1)
      replace hP := zl_e hP hZ118
      have hZ118I := zH_u hZ117I hZ118 (lo := -2147483648) (hi := 2147483647) (by decide) rfl (by omega) ⟨by decide, by decide⟩ (Or.inl (by decide)) rfl
      have hZ118U : zU [a0b] Z Z118 := zU_u hZ117U hZ118 (Or.inr (List.Mem.head _))
      have hZ118K : zC [14, 44, 53, 1112] Z Z118 := zC_u hZ117K hZ118 (by decide)
      intro μ9 e9
      replace e9 := e9.trans (zm_wI (Z := Z117) (ν := ν) hZ118 (rfl : ((a0b : Nat) : Int) = a0b) (i3I (y := ((Z113 11 a0b 0 12) % 60)) (i3R (zm_rd (Z := Z113) (ν := ν) (k := 11) (rfl : ((a0b : Nat) : Int) = a0b) (show ((0 : Nat) : Int) = 0 from rfl) (show ((12 : Nat) : Int) = 12 from rfl)) (show (60 : Int32) = i3 60 from rfl) (by omega) (by omega) (by omega) (by omega)) (by omega) (by omega) (by omega)) (show ((3 : Nat) : Int) = 3 from rfl) (rfl : i3 a1 = i3 a1))
      subst e9
      have r119 := zH_k hZ118I 11 a0b 0 13 (lo := 0) (hi := 671) (by decide) rfl
      obtain ⟨Z120, hZ120⟩ := zx (zu Z118 53 a0b ((Z113 11 a0b 0 12) % 60) 4 (Z118 11 a0b 0 13))
      replace hP := zl_e hP hZ120
      have hZ120I := zH_u hZ118I hZ120 (lo := -2147483648) (hi := 2147483647) (by decide) rfl (by omega) ⟨by decide, by decide⟩ (Or.inl (by decide)) rfl
      have hZ120U : zU [a0b] Z Z120 := zU_u hZ118U hZ120 (Or.inr (List.Mem.head _))
      have hZ120K : zC [14, 44, 53, 1112] Z Z120 := zC_u hZ118K hZ120 (by decide)
      intro μ9 e9
      replace e9 := e9.trans (zm_wI (Z := Z118) (ν := ν) hZ120 (rfl : ((a0b : Nat) : Int) = a0b) (i3I (y := ((Z113 11 a0b 0 12) % 60)) (i3R (zm_rd (Z := Z113) (ν := ν) (k := 11) (rfl : ((a0b : Nat) : Int) = a0b) (show ((0 : Nat) : Int) = 0 from rfl) (show ((12 : Nat) : Int) = 12 from rfl)) (show (60 : Int32) = i3 60 from rfl) (by omega) (by omega) (by omega) (by omega)) (by omega) (by omega) (by omega)) (show ((4 : Nat) : Int) = 4 from rfl) (zm_rd (Z := Z118) (ν := ν) (k := 11) (rfl : ((a0b : Nat) : Int) = a0b) (show ((0 : Nat) : Int) = 0 from rfl) (show ((13 : Nat) : Int) = 13 from rfl)))
      subst e9
      have r121 := zH_c12 hZ120I a0b (zbh (c := 0) (k := 0) hM (Nat.le_of_ble_eq_true rfl))
      have q122 := (zu_ne (k' := 11) (b' := a0b) (i' := 0) (j' := 12) hZ120 (fun q => absurd q.1 (by decide))).trans ((zu_ne (k' := 11) (b' := a0b) (i' := 0) (j' := 12) hZ118 (fun q => absurd q.1 (by decide))).trans ((zu_ne (k' := 11) (b' := a0b) (i' := 0) (j' := 12) hZ117 (fun q => absurd q.1 (by decide))).trans ((zu_ne (k' := 11) (b' := a0b) (i' := 0) (j' := 12) hZ116 (fun q => absurd q.1 (by decide))).trans (zu_ne (k' := 11) (b' := a0b) (i' := 0) (j' := 12) hZ115 (fun q => absurd q.1 (by decide))))))
      obtain ⟨Z123, hZ123⟩ := zx (zu Z120 11 a0b 0 12 ((Z120 11 a0b 0 12) + 1))
      replace hP := zl_e hP hZ123
      have hZ123I := zH_i12 hZ120I hZ123 (zbh (c := 0) (k := 1) hM (Nat.le_of_ble_eq_true rfl)) (by omega)
      have hZ123U : zU [a0b] Z Z123 := zU_u hZ120U hZ123 (Or.inr (List.Mem.head _))
      have hZ123K : zC [14, 44, 53, 1112] Z Z123 := zC_u hZ120K hZ123 (by decide)
      intro μ9 e9
      replace e9 := e9.trans (zm_wI (Z := Z120) (ν := ν) hZ123 (rfl : ((a0b : Nat) : Int) = a0b) (show ((0 : Nat) : Int) = 0 from rfl) (show ((12 : Nat) : Int) = 12 from rfl) (i3A (zm_rd (Z := Z120) (ν := ν) (k := 11) (rfl : ((a0b : Nat) : Int) = a0b) (show ((0 : Nat) : Int) = 0 from rfl) (show ((12 : Nat) : Int) = 12 from rfl)) (show (1 : Int32) = i3 1 from rfl)))
      subst e9
      have r124 := zH_k hZ123I 44 a0b a1 9 (lo := -1) (hi := 3) (by decide) rfl
      have q125 := (zu_ne (k' := 44) (b' := a0b) (i' := a1) (j' := 9) hZ123 (fun q => absurd q.1 (by decide))).trans ((zu_ne (k' := 44) (b' := a0b) (i' := a1) (j' := 9) hZ120 (fun q => absurd q.1 (by decide))).trans ((zu_ne (k' := 44) (b' := a0b) (i' := a1) (j' := 9) hZ118 (fun q => absurd q.1 (by decide))).trans ((zu_ne (k' := 44) (b' := a0b) (i' := a1) (j' := 9) hZ117 (fun q => absurd q.1 (by decide))).trans ((zu_ne (k' := 44) (b' := a0b) (i' := a1) (j' := 9) hZ116 (fun q => absurd q.1 (by decide))).trans ((zu_ne (k' := 44) (b' := a0b) (i' := a1) (j' := 9) hZ115 (fun q => absurd q.1 (by decide))).trans ((zu_ne (k' := 44) (b' := a0b) (i' := a1) (j' := 9) hZ113 (fun q => absurd q.1 (by decide))).trans ((zu_ne (k' := 44) (b' := a0b) (i' := a1) (j' := 9) hZ110 (fun q => absurd q.1 (by decide))).trans ((zu_ne (k' := 44) (b' := a0b) (i' := a1) (j' := 9) hZ104 (fun q => absurd q.2.2.2 (by decide))).trans ((zu_ne (k' := 44) (b' := a0b) (i' := a1) (j' := 9) hZ103 (fun q => absurd q.2.2.2 (by decide))).trans (zu_at hZ100))))))))))
      exact zlW hP (zm_rd (Z := Z123) (ν := ν) (k := 44) (rfl : ((a0b : Nat) : Int) = a0b) (i3I (y := a1) (rfl : i3 a1 = i3 a1) (by omega) (by omega) (by omega)) (show ((9 : Nat) : Int) = 9 from rfl)) ⟨hZ123I, hZ123K, hZ123U, by omega, by omega⟩
    · replace hP := zE_n hP h107
      have r126 := zH_k hZ104I 44 a0b a1 9 (lo := -1) (hi := 3) (by decide) rfl
      have q127 := (zu_ne (k' := 44) (b' := a0b) (i' := a1) (j' := 9) hZ104 (fun q => absurd q.2.2.2 (by decide))).trans ((zu_ne (k' := 44) (b' := a0b) (i' := a1) (j' := 9) hZ103 (fun q => absurd q.2.2.2 (by decide))).trans (zu_at hZ100))
      exact zlW hP (zm_rd (Z := Z104) (ν := ν) (k := 44) (rfl : ((a0b : Nat) : Int) = a0b) (i3I (y := a1) (rfl : i3 a1 = i3 a1) (by omega) (by omega) (by omega)) (show ((9 : Nat) : Int) = 9 from rfl)) ⟨(zbw (a := 0) (c := 1) hZ104I (Nat.le_of_ble_eq_true rfl)), hZ104K, hZ104U, by omega, by omega⟩
/- yX1_enterLost -/
def zf_20 (Z : qz_Z) (a0b : Int) (a1b : Int) (a1ij : Int) : qz_Z := (zlet (zu Z 45 a0b (Z 47 a1b a1ij 1) 3 (w3 ((Z 45 a0b (Z 47 a1b a1ij 1) 3) + (w3 ((Z 47 a1b a1ij 18) - (Z 47 a1b a1ij 19)))))) (fun Z8 => (zlet (zu Z8 45 a0b (Z 47 a1b a1ij 1) 4 (w3 ((Z8 45 a0b (Z 47 a1b a1ij 1) 4) - (Z8 47 a1b a1ij 19)))) (fun Z13 => (zlet (zu Z13 47 a1b a1ij 19 0) (fun Z14 => (zlet (zu Z14 45 a0b (Z 47 a1b a1ij 1) 11 (w3 ((Z14 45 a0b (Z 47 a1b a1ij 1) 11) + (Z14 47 a1b a1ij 3)))) (fun Z18 => (if (Z18 46 a0b (Z 47 a1b a1ij 2) 7) ≠ 0 then Z18 else (zlet (zu Z18 46 a0b (Z 47 a1b a1ij 2) 6 (min ((Z18 46 a0b (Z 47 a1b a1ij 2) 6) + (Z18 47 a1b a1ij 3)) (Z18 46 a0b (Z 47 a1b a1ij 2) 3))) (fun Z25 => Z25)))))))))))
theorem sp_20 {s : zSM} {Z : qz_Z} {ν : qz_N} (hZ : zH s Z) (a0b : Nat) (a1b : Nat) (a1i : Nat) {a1ij : Int} (ea1i : (a1i : Int) = a1ij) (ga1i : 0 ≤ a1ij ∧ a1ij ≤ 59) (hM : s.2 + 0 ≤ 1000000000) : ∃ P : qz_Z, P = zf_20 Z a0b a1b a1ij ∧ (qf_20 [.inr (.inr (some (10, a0b, 0))), .inr (.inr (some (47, a1b, a1i)))] (zm Z ν) = some (zm P ν, .inl none) ∧ zH s P ∧ zC [45, 46, 47] Z P ∧ zU [a0b, a1b] Z P) := by
  obtain ⟨P, hP⟩ := zx (zf_20 Z a0b a1b a1ij)
  refine zc_V (Q := fun P => zH s P ∧ zC [45, 46, 47] Z P ∧ zU [a0b, a1b] Z P) hP (fw_20 a0b a1b a1i _ _ ?_)
  replace hP : zE P (zf_20 Z a0b a1b a1ij) := hP
  unfold zf_20 at hP
  have r1 := zH_k hZ 47 a1b a1ij 1 (lo := 0) (hi := 7) (by decide) rfl
  refine wz_i0 (i3O (n := 8) (zm_rd (Z := Z) (ν := ν) (k := 47) (rfl : ((a1b : Nat) : Int) = a1b) ea1i (show ((1 : Nat) : Int) = 1 from rfl)) (by omega) (by omega) (by omega)) ?_
  have r2 := zH_k hZ 47 a1b a1ij 2 (lo := 0) (hi := 23) (by decide) rfl
  refine wz_i0 (i3O (n := 24) (zm_rd (Z := Z) (ν := ν) (k := 47) (rfl : ((a1b : Nat) : Int) = a1b) ea1i (show ((2 : Nat) : Int) = 2 from rfl)) (by omega) (by omega) (by omega)) ?_
  have r3 := zH_f hZ 45 a0b (Z 47 a1b a1ij 1) 3
  have r4 := zH_k hZ 47 a1b a1ij 18 (lo := 0) (hi := 399960) (by decide) rfl
  have r5 := zH_f hZ 47 a1b a1ij 19
  have r6 := w3_r ((Z 47 a1b a1ij 18) - (Z 47 a1b a1ij 19))
  have r7 := w3_r ((Z 45 a0b (Z 47 a1b a1ij 1) 3) + (w3 ((Z 47 a1b a1ij 18) - (Z 47 a1b a1ij 19))))
  obtain ⟨Z8, hZ8⟩ := zx (zu Z 45 a0b (Z 47 a1b a1ij 1) 3 (w3 ((Z 45 a0b (Z 47 a1b a1ij 1) 3) + (w3 ((Z 47 a1b a1ij 18) - (Z 47 a1b a1ij 19))))))
  replace hP := zl_e hP hZ8
  have hZ8I := zH_u hZ hZ8 (lo := -2147483648) (hi := 2147483647) (by decide) rfl (by omega) ⟨by decide, by decide⟩ (Or.inl (by decide)) rfl
  have hZ8U : zU [a0b, a1b] Z Z8 := zU_u zU_r hZ8 (Or.inr (List.Mem.head _))
  have hZ8K : zC [45, 46, 47] Z Z8 := zC_u zC_r hZ8 (by decide)
  intro μ9 e9
  replace e9 := e9.trans (zm_wI (Z := Z) (ν := ν) hZ8 (rfl : ((a0b : Nat) : Int) = a0b) (i3I (y := (Z 47 a1b a1ij 1)) (zm_rd (Z := Z) (ν := ν) (k := 47) (rfl : ((a1b : Nat) : Int) = a1b) ea1i (show ((1 : Nat) : Int) = 1 from rfl)) (by omega) (by omega) (by omega)) (show ((3 : Nat) : Int) = 3 from rfl) (i3W (i3A (zm_rd (Z := Z) (ν := ν) (k := 45) (rfl : ((a0b : Nat) : Int) = a0b) (i3I (y := (Z 47 a1b a1ij 1)) (zm_rd (Z := Z) (ν := ν) (k := 47) (rfl : ((a1b : Nat) : Int) = a1b) ea1i (show ((1 : Nat) : Int) = 1 from rfl)) (by omega) (by omega) (by omega)) (show ((3 : Nat) : Int) = 3 from rfl)) (i3W (i3S (zm_rd (Z := Z) (ν := ν) (k := 47) (rfl : ((a1b : Nat) : Int) = a1b) ea1i (show ((18 : Nat) : Int) = 18 from rfl)) (zm_rd (Z := Z) (ν := ν) (k := 47) (rfl : ((a1b : Nat) : Int) = a1b) ea1i (show ((19 : Nat) : Int) = 19 from rfl)))))))
  subst e9
  have r9 := zH_f hZ8I 45 a0b (Z 47 a1b a1ij 1) 4
  have r10 := zH_f hZ8I 47 a1b a1ij 19
  have q11 := zu_ne (k' := 47) (b' := a1b) (i' := a1ij) (j' := 19) hZ8 (fun q => absurd q.1 (by decide))
  have r12 := w3_r ((Z8 45 a0b (Z 47 a1b a1ij 1) 4) - (Z8 47 a1b a1ij 19))
  obtain ⟨Z13, hZ13⟩ := zx (zu Z8 45 a0b (Z 47 a1b a1ij 1) 4 (w3 ((Z8 45 a0b (Z 47 a1b a1ij 1) 4) - (Z8 47 a1b a1ij 19))))
  replace hP := zl_e hP hZ13
  have hZ13I := zH_u hZ8I hZ13 (lo := -2147483648) (hi := 2147483647) (by decide) rfl (by omega) ⟨by decide, by decide⟩ (Or.inl (by decide)) rfl
  have hZ13U : zU [a0b, a1b] Z Z13 := zU_u hZ8U hZ13 (Or.inr (List.Mem.head _))
  have hZ13K : zC [45, 46, 47] Z Z13 := zC_u hZ8K hZ13 (by decide)
  intro μ9 e9
  replace e9 := e9.trans (zm_wI (Z := Z8) (ν := ν) hZ13 (rfl : ((a0b : Nat) : Int) = a0b) (i3I (y := (Z 47 a1b a1ij 1)) (zm_rd (Z := Z) (ν := ν) (k := 47) (rfl : ((a1b : Nat) : Int) = a1b) ea1i (show ((1 : Nat) : Int) = 1 from rfl)) (by omega) (by omega) (by omega)) (show ((4 : Nat) : Int) = 4 from rfl) (i3W (i3S (zm_rd (Z := Z8) (ν := ν) (k := 45) (rfl : ((a0b : Nat) : Int) = a0b) (i3I (y := (Z 47 a1b a1ij 1)) (zm_rd (Z := Z) (ν := ν) (k := 47) (rfl : ((a1b : Nat) : Int) = a1b) ea1i (show ((1 : Nat) : Int) = 1 from rfl)) (by omega) (by omega) (by omega)) (show ((4 : Nat) : Int) = 4 from rfl)) (zm_rd (Z := Z8) (ν := ν) (k := 47) (rfl : ((a1b : Nat) : Int) = a1b) ea1i (show ((19 : Nat) : Int) = 19 from rfl)))))
  subst e9
  obtain ⟨Z14, hZ14⟩ := zx (zu Z13 47 a1b a1ij 19 0)
  replace hP := zl_e hP hZ14
  have hZ14I := zH_0 hZ13I hZ14 (by decide) (Or.inl (by decide))
  have hZ14U : zU [a0b, a1b] Z Z14 := zU_u hZ13U hZ14 (Or.inr (List.Mem.tail _ (List.Mem.head _)))
  have hZ14K : zC [45, 46, 47] Z Z14 := zC_u hZ13K hZ14 (by decide)
  intro μ9 e9
  replace e9 := e9.trans (zm_wI (Z := Z13) (ν := ν) hZ14 (rfl : ((a1b : Nat) : Int) = a1b) ea1i (show ((19 : Nat) : Int) = 19 from rfl) (show (0 : Int32) = i3 0 from rfl))
  subst e9
  have r15 := zH_f hZ14I 45 a0b (Z 47 a1b a1ij 1) 11
  have r16 := zH_k hZ14I 47 a1b a1ij 3 (lo := 0) (hi := 40) (by decide) rfl
  have r17 := w3_r ((Z14 45 a0b (Z 47 a1b a1ij 1) 11) + (Z14 47 a1b a1ij 3))
  obtain ⟨Z18, hZ18⟩ := zx (zu Z14 45 a0b (Z 47 a1b a1ij 1) 11 (w3 ((Z14 45 a0b (Z 47 a1b a1ij 1) 11) + (Z14 47 a1b a1ij 3))))
  replace hP := zl_e hP hZ18
  have hZ18I := zH_u hZ14I hZ18 (lo := -2147483648) (hi := 2147483647) (by decide) rfl (by omega) ⟨by decide, by decide⟩ (Or.inl (by decide)) rfl
  have hZ18U : zU [a0b, a1b] Z Z18 := zU_u hZ14U hZ18 (Or.inr (List.Mem.head _))
  have hZ18K : zC [45, 46, 47] Z Z18 := zC_u hZ14K hZ18 (by decide)
  intro μ9 e9
  replace e9 := e9.trans (zm_wI (Z := Z14) (ν := ν) hZ18 (rfl : ((a0b : Nat) : Int) = a0b) (i3I (y := (Z 47 a1b a1ij 1)) (zm_rd (Z := Z) (ν := ν) (k := 47) (rfl : ((a1b : Nat) : Int) = a1b) ea1i (show ((1 : Nat) : Int) = 1 from rfl)) (by omega) (by omega) (by omega)) (show ((11 : Nat) : Int) = 11 from rfl) (i3W (i3A (zm_rd (Z := Z14) (ν := ν) (k := 45) (rfl : ((a0b : Nat) : Int) = a0b) (i3I (y := (Z 47 a1b a1ij 1)) (zm_rd (Z := Z) (ν := ν) (k := 47) (rfl : ((a1b : Nat) : Int) = a1b) ea1i (show ((1 : Nat) : Int) = 1 from rfl)) (by omega) (by omega) (by omega)) (show ((11 : Nat) : Int) = 11 from rfl)) (zm_rd (Z := Z14) (ν := ν) (k := 47) (rfl : ((a1b : Nat) : Int) = a1b) ea1i (show ((3 : Nat) : Int) = 3 from rfl)))))
  subst e9
  have r19 := zH_k hZ18I 46 a0b (Z 47 a1b a1ij 2) 7 (lo := 0) (hi := 1) (by decide) rfl
  refine wz_br (i3NE (zm_rd (Z := Z18) (ν := ν) (k := 46) (rfl : ((a0b : Nat) : Int) = a0b) (i3I (y := (Z 47 a1b a1ij 2)) (zm_rd (Z := Z) (ν := ν) (k := 47) (rfl : ((a1b : Nat) : Int) = a1b) ea1i (show ((2 : Nat) : Int) = 2 from rfl)) (by omega) (by omega) (by omega)) (show ((7 : Nat) : Int) = 7 from rfl)) (show (0 : Int32) = i3 0 from rfl) (by omega) (by omega) (by omega) (by omega)) (fun h20 => ?_) (fun h20 => ?_)
  · replace hP := zE_p hP h20
    exact zlV hP ⟨hZ18I, hZ18K, hZ18U⟩
  · replace hP := zE_n hP h20
    have r21 := zH_k hZ18I 46 a0b (Z 47 a1b a1ij 2) 6 (lo := 0) (hi := 99) (by decide) rfl
    have r22 := zH_k hZ18I 47 a1b a1ij 3 (lo := 0) (hi := 40) (by decide) rfl
    have q23 := zu_ne (k' := 47) (b' := a1b) (i' := a1ij) (j' := 3) hZ18 (fun q => absurd q.1 (by decide))
    have r24 := zH_k hZ18I 46 a0b (Z 47 a1b a1ij 2) 3 (lo := 0) (hi := 99) (by decide) rfl
    obtain ⟨Z25, hZ25⟩ := zx (zu Z18 46 a0b (Z 47 a1b a1ij 2) 6 (min ((Z18 46 a0b (Z 47 a1b a1ij 2) 6) + (Z18 47 a1b a1ij 3)) (Z18 46 a0b (Z 47 a1b a1ij 2) 3)))
    replace hP := zl_e hP hZ25
    have hZ25I := zH_u hZ18I hZ25 (lo := 0) (hi := 99) (by decide) rfl (by omega) ⟨by decide, by decide⟩ (Or.inl (by decide)) rfl
    have hZ25U : zU [a0b, a1b] Z Z25 := zU_u hZ18U hZ25 (Or.inr (List.Mem.head _))
    have hZ25K : zC [45, 46, 47] Z Z25 := zC_u hZ18K hZ25 (by decide)
    intro μ9 e9
    replace e9 := e9.trans (zm_wI (Z := Z18) (ν := ν) hZ25 (rfl : ((a0b : Nat) : Int) = a0b) (i3I (y := (Z 47 a1b a1ij 2)) (zm_rd (Z := Z) (ν := ν) (k := 47) (rfl : ((a1b : Nat) : Int) = a1b) ea1i (show ((2 : Nat) : Int) = 2 from rfl)) (by omega) (by omega) (by omega)) (show ((6 : Nat) : Int) = 6 from rfl) (i3Mn (i3A (zm_rd (Z := Z18) (ν := ν) (k := 46) (rfl : ((a0b : Nat) : Int) = a0b) (i3I (y := (Z 47 a1b a1ij 2)) (zm_rd (Z := Z) (ν := ν) (k := 47) (rfl : ((a1b : Nat) : Int) = a1b) ea1i (show ((2 : Nat) : Int) = 2 from rfl)) (by omega) (by omega) (by omega)) (show ((6 : Nat) : Int) = 6 from rfl)) (zm_rd (Z := Z18) (ν := ν) (k := 47) (rfl : ((a1b : Nat) : Int) = a1b) ea1i (show ((3 : Nat) : Int) = 3 from rfl))) (zm_rd (Z := Z18) (ν := ν) (k := 46) (rfl : ((a0b : Nat) : Int) = a0b) (i3I (y := (Z 47 a1b a1ij 2)) (zm_rd (Z := Z) (ν := ν) (k := 47) (rfl : ((a1b : Nat) : Int) = a1b) ea1i (show ((2 : Nat) : Int) = 2 from rfl)) (by omega) (by omega) (by omega)) (show ((3 : Nat) : Int) = 3 from rfl)) (by omega) (by omega) (by omega) (by omega)))
    subst e9
    exact zlV hP ⟨hZ25I, hZ25K, hZ25U⟩
/- yX5_takeAway -/
def zl_105_1 (x0b : Int) (x3ij : Int) (x1 : Int) (x4 : Int) : Nat → qz_Z → Int → qz_Z × Int
  | 0, Z, x5 => (Z, x5)
  | m + 1, Z, x5 => (if (Z 11 x0b 0 6) ≤ x5 then (Z, x5) else (if (Z 47 x0b x5 0) ≠ x1 then zl_105_1 x0b x3ij x1 x4 m Z (x5 + 1) else (if (Z 47 x0b x5 9) ≠ 0 then zl_105_1 x0b x3ij x1 x4 m Z (x5 + 1) else (zlet (zu Z 47 x0b x5 9 3) (fun Z8 => (zlet (zu Z8 47 x0b x5 11 (Z8 44 x0b x3ij 7)) (fun Z11 => (zlet (zu Z11 47 x0b x5 12 (Z11 44 x0b x3ij 8)) (fun Z13 => (zlet (zu Z13 47 x0b x5 17 (Z13 11 x0b 0 13)) (fun Z15 => (zlet (zf_20 Z15 x0b x0b x5) (fun Z16 => (if (Z16 47 x0b x5 18) ≠ 0 then (zlet (zu Z16 14 x0b 0 1 (w3 ((Z16 14 x0b 0 1) - (Z16 47 x0b x5 18)))) (fun Z21 => (zlet (zu Z21 14 x0b 0 8 (w3 ((Z21 14 x0b 0 8) + (Z16 47 x0b x5 18)))) (fun Z24 => (zlet (zu Z24 53 x0b ((Z24 11 x0b 0 12) % 60) 0 1) (fun Z26 => (zlet (zu Z26 53 x0b ((Z24 11 x0b 0 12) % 60) 1 8) (fun Z27 => (zlet (zu Z27 53 x0b ((Z24 11 x0b 0 12) % 60) 2 (Z16 47 x0b x5 18)) (fun Z28 => (zlet (zu Z28 53 x0b ((Z24 11 x0b 0 12) % 60) 3 x1) (fun Z29 => (zlet (zu Z29 53 x0b ((Z24 11 x0b 0 12) % 60) 4 (Z29 11 x0b 0 13)) (fun Z32 => (zlet (zu Z32 11 x0b 0 12 ((Z32 11 x0b 0 12) + 1)) (fun Z35 => zl_105_1 x0b x3ij x1 x4 m Z35 (x5 + 1))))))))))))))))) else zl_105_1 x0b x3ij x1 x4 m Z16 (x5 + 1)))))))))))))))
theorem sl_105_1 {s : zSM} {xM9 : Nat} {Zs Z : qz_Z} {ν : qz_N} (hZ : zH (zb s xM9) Z) (hM : s.2 + 61 ≤ 1000000000) (hK : zC [14, 45, 46, 47, 53, 1112] Zs Z) (x0b : Nat) (x3i : Nat) {x3ij : Int} (ex3i : (x3i : Int) = x3ij) (gx3ij : 0 ≤ x3ij ∧ x3ij ≤ 47) {x1 : Int} (gx1 : 0 ≤ x1 ∧ x1 ≤ 47) {x4 : Int} (gx4 : 0 ≤ x4 ∧ x4 ≤ 40) {x5 : Int} (gx5 : 0 ≤ x5 ∧ x5 ≤ 60) (hU : zU [x0b] Zs Z) (hLtx0b : zLt x0b Z) (hx9 : xM9 + 1 * ((60 - x5).toNat) + 1 ≤ 61) {k : wz_K} {R : wz_R} {L : qz_L} (hL : qz_fg [true, true, false, true, true, true, false] L = [some (.inr (.inr (some (10, x0b, 0)))), some (.inl (i3 x1)), none, some (.inr (.inr (some (44, x0b, x3i)))), some (.inl (i3 x4)), some (.inl (i3 x5)), none]) {T : qz_Z × Int} (hP : zE T (zl_105_1 x0b x3ij x1 x4 ((60 - x5).toNat + 1) Z x5)) (hk : ∀ (L9 : qz_L) (Z9 : qz_Z) (yx5 : Int), qz_fg [false, false, false, false, true, false, false] L9 = [none, none, none, none, some (.inl (i3 x4)), none, none] → zH (zb s 61) Z9 → zC [14, 45, 46, 47, 53, 1112] Zs Z9 → zU [x0b] Zs Z9 → zLt x0b Z9 → (0 ≤ yx5 ∧ yx5 ≤ 60) → zE T ((Z9, yx5)) → k 0 (L9, [], zm Z9 ν)) : wz_loop qb_105_1 65536 k R (L, [], zm Z ν) := by
  refine wz_lp sb_105_1 (fun m x => ∃ xM9 : Nat, ∃ Z : qz_Z, ∃ x5 : Int, qz_fg [true, true, false, true, true, true, false] x.1 = [some (.inr (.inr (some (10, x0b, 0)))), some (.inl (i3 x1)), none, some (.inr (.inr (some (44, x0b, x3i)))), some (.inl (i3 x4)), some (.inl (i3 x5)), none] ∧ x.2 = ([], zm Z ν) ∧ xM9 + 1 * m + 1 ≤ 61 ∧ zH (zb s xM9) Z ∧ zC [14, 45, 46, 47, 53, 1112] Zs Z ∧ zU [x0b] Zs Z ∧ zLt x0b Z ∧ m = (60 - x5).toNat ∧ (0 ≤ x5 ∧ x5 ≤ 60) ∧ zE T (zl_105_1 x0b x3ij x1 x4 (m + 1) Z x5)) ?_ 65536 ((60 - x5).toNat) _ (by omega) ⟨xM9, Z, x5, hL, rfl, hx9, hZ, hK, hU, hLtx0b, rfl, gx5, hP⟩
  clear hP gx5 hx9 hZ hK hU hLtx0b hL
  clear x5
  clear Z
  clear xM9
  rintro m ⟨L, st, μ⟩ ⟨xM9, Z, x5, hL, hx, hx9, hZ, hK, hU, hLtx0b, hm, gx5, hP⟩
  cases hx
  have hM9 : (zb s xM9).2 + 1 ≤ 1000000000 := by
    show s.2 + xM9 + 1 ≤ 1000000000
    omega
  refine fb_105_1 x0b (i3 x1) x3i (i3 x4) (i3 x5) _ _ _ _ hL ?_
  have r1 := zH_k hZ 11 x0b 0 6 (lo := 0) (hi := 60) (by decide) rfl
  refine wz_br (i3Le (zm_rd (Z := Z) (ν := ν) (k := 11) (rfl : ((x0b : Nat) : Int) = x0b) (show ((0 : Nat) : Int) = 0 from rfl) (show ((6 : Nat) : Int) = 6 from rfl)) (rfl : i3 x5 = i3 x5) (by omega) (by omega) (by omega) (by omega)) (fun h2 => ?_) (fun h2 => ?_)
  · replace hP := zE_p hP h2
    exact hk _ _ _ (zconso rfl (zconso rfl (zconso rfl (zconso rfl (zconso (zvo (rfl : i3 x4 = i3 x4)) (zconso rfl (zconso rfl rfl))))))) (zbx0 hZ (by omega)) hK hU hLtx0b (by omega)  hP
  · replace hP := zE_n hP h2
    refine wz_i0 (i3O (n := 60) (rfl : i3 x5 = i3 x5) (by omega) (by omega) (by omega)) ?_
    have r3 := zH_k hZ 47 x0b x5 0 (lo := 0) (hi := 47) (by decide) rfl
    refine wz_br (i3NE (zm_rd (Z := Z) (ν := ν) (k := 47) (rfl : ((x0b : Nat) : Int) = x0b) (i3I (y := x5) (rfl : i3 x5 = i3 x5) (by omega) (by omega) (by omega)) (show ((0 : Nat) : Int) = 0 from rfl)) (rfl : i3 x1 = i3 x1) (by omega) (by omega) (by omega) (by omega)) (fun h4 => ?_) (fun h4 => ?_)
    · replace hP := zE_p hP h4
      obtain ⟨m2, rfl⟩ : ∃ m2, m = m2 + 1 := ⟨m - 1, by omega⟩
      exact wz_k1 ⟨m2, by omega, xM9, Z, (x5 + 1), (zconso rfl (zconso (zvo (rfl : i3 x1 = i3 x1)) (zconso rfl (zconso rfl (zconso (zvo (rfl : i3 x4 = i3 x4)) (zconso (zvo (i3A (rfl : i3 x5 = i3 x5) (show (1 : Int32) = i3 1 from rfl))) (zconso rfl rfl))))))), rfl, by omega, hZ, hK, hU, hLtx0b, by omega, by omega,  hP⟩
    · replace hP := zE_n hP h4
      have r5 := zH_k hZ 47 x0b x5 9 (lo := 0) (hi := 3) (by decide) rfl
      have r6 := zH_lt hZ x0b x5
      refine wz_br (i3NE (zm_rd (Z := Z) (ν := ν) (k := 47) (rfl : ((x0b : Nat) : Int) = x0b) (i3I (y := x5) (rfl : i3 x5 = i3 x5) (by omega) (by omega) (by omega)) (show ((9 : Nat) : Int) = 9 from rfl)) (show (0 : Int32) = i3 0 from rfl) (by omega) (by omega) (by omega) (by omega)) (fun h7 => ?_) (fun h7 => ?_)
      · replace hP := zE_p hP h7
        obtain ⟨m2, rfl⟩ : ∃ m2, m = m2 + 1 := ⟨m - 1, by omega⟩
        exact wz_k1 ⟨m2, by omega, xM9, Z, (x5 + 1), (zconso rfl (zconso (zvo (rfl : i3 x1 = i3 x1)) (zconso rfl (zconso rfl (zconso (zvo (rfl : i3 x4 = i3 x4)) (zconso (zvo (i3A (rfl : i3 x5 = i3 x5) (show (1 : Int32) = i3 1 from rfl))) (zconso rfl rfl))))))), rfl, by omega, hZ, hK, hU, hLtx0b, by omega, by omega,  hP⟩
      · replace hP := zE_n hP h7
        obtain ⟨Z8, hZ8⟩ := zx (zu Z 47 x0b x5 9 3)
        replace hP := zl_e hP hZ8
        have r9 := zH_k hZ 47 x0b x5 10 (lo := -1) (hi := 3) (by decide) rfl
        have hZ8I := zH_st hZ hZ8 (by omega) (by omega)
        have hZ8U : zU [x0b] Zs Z8 := zU_u hU hZ8 (Or.inr (List.Mem.head _))
        have hZ8K : zC [14, 45, 46, 47, 53, 1112] Zs Z8 := zC_u hK hZ8 (by decide)
        intro μ9 e9
        replace e9 := e9.trans (zm_wI (Z := Z) (ν := ν) hZ8 (rfl : ((x0b : Nat) : Int) = x0b) (i3I (y := x5) (rfl : i3 x5 = i3 x5) (by omega) (by omega) (by omega)) (show ((9 : Nat) : Int) = 9 from rfl) (show (3 : Int32) = i3 3 from rfl))
        subst e9
        have r10 := zH_k hZ8I 44 x0b x3ij 7 (lo := 0) (hi := 2000) (by decide) rfl
        obtain ⟨Z11, hZ11⟩ := zx (zu Z8 47 x0b x5 11 (Z8 44 x0b x3ij 7))
        replace hP := zl_e hP hZ11
        have hZ11I := zH_u hZ8I hZ11 (lo := 0) (hi := 2000) (by decide) rfl (by omega) ⟨by decide, by decide⟩ (Or.inl (by decide)) rfl
        have hZ11U : zU [x0b] Zs Z11 := zU_u hZ8U hZ11 (Or.inr (List.Mem.head _))
        have hZ11K : zC [14, 45, 46, 47, 53, 1112] Zs Z11 := zC_u hZ8K hZ11 (by decide)
        intro μ9 e9
        replace e9 := e9.trans (zm_wI (Z := Z8) (ν := ν) hZ11 (rfl : ((x0b : Nat) : Int) = x0b) (i3I (y := x5) (rfl : i3 x5 = i3 x5) (by omega) (by omega) (by omega)) (show ((11 : Nat) : Int) = 11 from rfl) (zm_rd (Z := Z8) (ν := ν) (k := 44) (rfl : ((x0b : Nat) : Int) = x0b) ex3i (show ((7 : Nat) : Int) = 7 from rfl)))
        subst e9
        have r12 := zH_k hZ11I 44 x0b x3ij 8 (lo := 0) (hi := 999) (by decide) rfl
        obtain ⟨Z13, hZ13⟩ := zx (zu Z11 47 x0b x5 12 (Z11 44 x0b x3ij 8))
        replace hP := zl_e hP hZ13
        have hZ13I := zH_u hZ11I hZ13 (lo := 0) (hi := 999) (by decide) rfl (by omega) ⟨by decide, by decide⟩ (Or.inl (by decide)) rfl
        have hZ13U : zU [x0b] Zs Z13 := zU_u hZ11U hZ13 (Or.inr (List.Mem.head _))
        have hZ13K : zC [14, 45, 46, 47, 53, 1112] Zs Z13 := zC_u hZ11K hZ13 (by decide)
        intro μ9 e9
        replace e9 := e9.trans (zm_wI (Z := Z11) (ν := ν) hZ13 (rfl : ((x0b : Nat) : Int) = x0b) (i3I (y := x5) (rfl : i3 x5 = i3 x5) (by omega) (by omega) (by omega)) (show ((12 : Nat) : Int) = 12 from rfl) (zm_rd (Z := Z11) (ν := ν) (k := 44) (rfl : ((x0b : Nat) : Int) = x0b) ex3i (show ((8 : Nat) : Int) = 8 from rfl)))
        subst e9
        have r14 := zH_k hZ13I 11 x0b 0 13 (lo := 0) (hi := 671) (by decide) rfl
        obtain ⟨Z15, hZ15⟩ := zx (zu Z13 47 x0b x5 17 (Z13 11 x0b 0 13))
        replace hP := zl_e hP hZ15
        have hZ15I := zH_u hZ13I hZ15 (lo := -1) (hi := 671) (by decide) rfl (by omega) ⟨by decide, by decide⟩ (Or.inl (by decide)) rfl
        have hZ15U : zU [x0b] Zs Z15 := zU_u hZ13U hZ15 (Or.inr (List.Mem.head _))
        have hZ15K : zC [14, 45, 46, 47, 53, 1112] Zs Z15 := zC_u hZ13K hZ15 (by decide)
        intro μ9 e9
        replace e9 := e9.trans (zm_wI (Z := Z13) (ν := ν) hZ15 (rfl : ((x0b : Nat) : Int) = x0b) (i3I (y := x5) (rfl : i3 x5 = i3 x5) (by omega) (by omega) (by omega)) (show ((17 : Nat) : Int) = 17 from rfl) (zm_rd (Z := Z13) (ν := ν) (k := 11) (rfl : ((x0b : Nat) : Int) = x0b) (show ((0 : Nat) : Int) = 0 from rfl) (show ((13 : Nat) : Int) = 13 from rfl)))
        subst e9
        obtain ⟨Z16, hZ16, c9, hZ16I, kZ16, jZ16⟩ := sp_20 (ν := ν) hZ15I x0b x0b _ (i3I (y := x5) (rfl : i3 x5 = i3 x5) (by omega) (by omega) (by omega)) (by omega) (zbh (c := 0) (k := 0) hM9 (Nat.le_of_ble_eq_true rfl))
        have hZ16U : zU [x0b] Zs Z16 := zU_t hZ15U jZ16 (zU_b1 (List.Mem.head _) (zU_b1 (List.Mem.head _) zU_b0))
        have hZ16K : zC [14, 45, 46, 47, 53, 1112] Zs Z16 := zC_t hZ15K kZ16 (by decide)
        replace hP := zl_e hP hZ16
        refine wz_cV_of (zas (zcons rfl (zcons rfl rfl)) c9) ?_
        clear c9
        have r17 := zH_k hZ16I 47 x0b x5 18 (lo := 0) (hi := 399960) (by decide) rfl
        refine wz_br (i3NE (zm_rd (Z := Z16) (ν := ν) (k := 47) (rfl : ((x0b : Nat) : Int) = x0b) (i3I (y := x5) (rfl : i3 x5 = i3 x5) (by omega) (by omega) (by omega)) (show ((18 : Nat) : Int) = 18 from rfl)) (show (0 : Int32) = i3 0 from rfl) (by omega) (by omega) (by omega) (by omega)) (fun h18 => ?_) (fun h18 => ?_)
        · replace hP := zE_p hP h18
          have r19 := zH_f hZ16I 14 x0b 0 1
          have r20 := w3_r ((Z16 14 x0b 0 1) - (Z16 47 x0b x5 18))
          obtain ⟨Z21, hZ21⟩ := zx (zu Z16 14 x0b 0 1 (w3 ((Z16 14 x0b 0 1) - (Z16 47 x0b x5 18))))
          replace hP := zl_e hP hZ21
          have hZ21I := zH_u hZ16I hZ21 (lo := -2147483648) (hi := 2147483647) (by decide) rfl (by omega) ⟨by decide, by decide⟩ (Or.inl (by decide)) rfl
          have hZ21U : zU [x0b] Zs Z21 := zU_u hZ16U hZ21 (Or.inr (List.Mem.head _))
          have hZ21K : zC [14, 45, 46, 47, 53, 1112] Zs Z21 := zC_u hZ16K hZ21 (by decide)
          intro μ9 e9
          replace e9 := e9.trans (zm_wI (Z := Z16) (ν := ν) hZ21 (rfl : ((x0b : Nat) : Int) = x0b) (show ((0 : Nat) : Int) = 0 from rfl) (show ((1 : Nat) : Int) = 1 from rfl) (i3W (i3S (zm_rd (Z := Z16) (ν := ν) (k := 14) (rfl : ((x0b : Nat) : Int) = x0b) (show ((0 : Nat) : Int) = 0 from rfl) (show ((1 : Nat) : Int) = 1 from rfl)) (zm_rd (Z := Z16) (ν := ν) (k := 47) (rfl : ((x0b : Nat) : Int) = x0b) (i3I (y := x5) (rfl : i3 x5 = i3 x5) (by omega) (by omega) (by omega)) (show ((18 : Nat) : Int) = 18 from rfl)))))
          subst e9
          have r22 := zH_f hZ21I 14 x0b 0 8
          have r23 := w3_r ((Z21 14 x0b 0 8) + (Z16 47 x0b x5 18))
          obtain ⟨Z24, hZ24⟩ := zx (zu Z21 14 x0b 0 8 (w3 ((Z21 14 x0b 0 8) + (Z16 47 x0b x5 18))))
          replace hP := zl_e hP hZ24
          have hZ24I := zH_u hZ21I hZ24 (lo := -2147483648) (hi := 2147483647) (by decide) rfl (by omega) ⟨by decide, by decide⟩ (Or.inl (by decide)) rfl
          have hZ24U : zU [x0b] Zs Z24 := zU_u hZ21U hZ24 (Or.inr (List.Mem.head _))
          have hZ24K : zC [14, 45, 46, 47, 53, 1112] Zs Z24 := zC_u hZ21K hZ24 (by decide)
          intro μ9 e9
          replace e9 := e9.trans (zm_wI (Z := Z21) (ν := ν) hZ24 (rfl : ((x0b : Nat) : Int) = x0b) (show ((0 : Nat) : Int) = 0 from rfl) (show ((8 : Nat) : Int) = 8 from rfl) (i3W (i3A (zm_rd (Z := Z21) (ν := ν) (k := 14) (rfl : ((x0b : Nat) : Int) = x0b) (show ((0 : Nat) : Int) = 0 from rfl) (show ((8 : Nat) : Int) = 8 from rfl)) (zm_rd (Z := Z16) (ν := ν) (k := 47) (rfl : ((x0b : Nat) : Int) = x0b) (i3I (y := x5) (rfl : i3 x5 = i3 x5) (by omega) (by omega) (by omega)) (show ((18 : Nat) : Int) = 18 from rfl)))))
          subst e9
          have r25 := zH_c12 hZ24I x0b (zbh (c := 0) (k := 0) hM9 (Nat.le_of_ble_eq_true rfl))
          refine wz_i0 (i3O (n := 60) (i3R (zm_rd (Z := Z24) (ν := ν) (k := 11) (rfl : ((x0b : Nat) : Int) = x0b) (show ((0 : Nat) : Int) = 0 from rfl) (show ((12 : Nat) : Int) = 12 from rfl)) (show (60 : Int32) = i3 60 from rfl) (by omega) (by omega) (by omega) (by omega)) (by omega) (by omega) (by omega)) ?_
          obtain ⟨Z26, hZ26⟩ := zx (zu Z24 53 x0b ((Z24 11 x0b 0 12) % 60) 0 1)
          replace hP := zl_e hP hZ26
          have hZ26I := zH_u hZ24I hZ26 (lo := -2147483648) (hi := 2147483647) (by decide) rfl (by omega) ⟨by decide, by decide⟩ (Or.inl (by decide)) rfl
          have hZ26U : zU [x0b] Zs Z26 := zU_u hZ24U hZ26 (Or.inr (List.Mem.head _))
          have hZ26K : zC [14, 45, 46, 47, 53, 1112] Zs Z26 := zC_u hZ24K hZ26 (by decide)
          intro μ9 e9
          replace e9 := e9.trans (zm_wI (Z := Z24) (ν := ν) hZ26 (rfl : ((x0b : Nat) : Int) = x0b) (i3I (y := ((Z24 11 x0b 0 12) % 60)) (i3R (zm_rd (Z := Z24) (ν := ν) (k := 11) (rfl : ((x0b : Nat) : Int) = x0b) (show ((0 : Nat) : Int) = 0 from rfl) (show ((12 : Nat) : Int) = 12 from rfl)) (show (60 : Int32) = i3 60 from rfl) (by omega) (by omega) (by omega) (by omega)) (by omega) (by omega) (by omega)) (show ((0 : Nat) : Int) = 0 from rfl) (show (1 : Int32) = i3 1 from rfl))
          subst e9
          obtain ⟨Z27, hZ27⟩ := zx (zu Z26 53 x0b ((Z24 11 x0b 0 12) % 60) 1 8)
          replace hP := zl_e hP hZ27
          have hZ27I := zH_u hZ26I hZ27 (lo := -2147483648) (hi := 2147483647) (by decide) rfl (by omega) ⟨by decide, by decide⟩ (Or.inl (by decide)) rfl
          have hZ27U : zU [x0b] Zs Z27 := zU_u hZ26U hZ27 (Or.inr (List.Mem.head _))
          have hZ27K : zC [14, 45, 46, 47, 53, 1112] Zs Z27 := zC_u hZ26K hZ27 (by decide)
          intro μ9 e9
          replace e9 := e9.trans (zm_wI (Z := Z26) (ν := ν) hZ27 (rfl : ((x0b : Nat) : Int) = x0b) (i3I (y := ((Z24 11 x0b 0 12) % 60)) (i3R (zm_rd (Z := Z24) (ν := ν) (k := 11) (rfl : ((x0b : Nat) : Int) = x0b) (show ((0 : Nat) : Int) = 0 from rfl) (show ((12 : Nat) : Int) = 12 from rfl)) (show (60 : Int32) = i3 60 from rfl) (by omega) (by omega) (by omega) (by omega)) (by omega) (by omega) (by omega)) (show ((1 : Nat) : Int) = 1 from rfl) (show (8 : Int32) = i3 8 from rfl))
          subst e9
          obtain ⟨Z28, hZ28⟩ := zx (zu Z27 53 x0b ((Z24 11 x0b 0 12) % 60) 2 (Z16 47 x0b x5 18))
          replace hP := zl_e hP hZ28
          have hZ28I := zH_u hZ27I hZ28 (lo := -2147483648) (hi := 2147483647) (by decide) rfl (by omega) ⟨by decide, by decide⟩ (Or.inl (by decide)) rfl
          have hZ28U : zU [x0b] Zs Z28 := zU_u hZ27U hZ28 (Or.inr (List.Mem.head _))
          have hZ28K : zC [14, 45, 46, 47, 53, 1112] Zs Z28 := zC_u hZ27K hZ28 (by decide)
          intro μ9 e9
          replace e9 := e9.trans (zm_wI (Z := Z27) (ν := ν) hZ28 (rfl : ((x0b : Nat) : Int) = x0b) (i3I (y := ((Z24 11 x0b 0 12) % 60)) (i3R (zm_rd (Z := Z24) (ν := ν) (k := 11) (rfl : ((x0b : Nat) : Int) = x0b) (show ((0 : Nat) : Int) = 0 from rfl) (show ((12 : Nat) : Int) = 12 from rfl)) (show (60 : Int32) = i3 60 from rfl) (by omega) (by omega) (by omega) (by omega)) (by omega) (by omega) (by omega)) (show ((2 : Nat) : Int) = 2 from rfl) (zm_rd (Z := Z16) (ν := ν) (k := 47) (rfl : ((x0b : Nat) : Int) = x0b) (i3I (y := x5) (rfl : i3 x5 = i3 x5) (by omega) (by omega) (by omega)) (show ((18 : Nat) : Int) = 18 from rfl)))
          subst e9
          obtain ⟨Z29, hZ29⟩ := zx (zu Z28 53 x0b ((Z24 11 x0b 0 12) % 60) 3 x1)
          replace hP := zl_e hP hZ29
          have hZ29I := zH_u hZ28I hZ29 (lo := -2147483648) (hi := 2147483647) (by decide) rfl (by omega) ⟨by decide, by decide⟩ (Or.inl (by decide)) rfl
          have hZ29U : zU [x0b] Zs Z29 := zU_u hZ28U hZ29 (Or.inr (List.Mem.head _))
          have hZ29K : zC [14, 45, 46, 47, 53, 1112] Zs Z29 := zC_u hZ28K hZ29 (by decide)
          intro μ9 e9
          replace e9 := e9.trans (zm_wI (Z := Z28) (ν := ν) hZ29 (rfl : ((x0b : Nat) : Int) = x0b) (i3I (y := ((Z24 11 x0b 0 12) % 60)) (i3R (zm_rd (Z := Z24) (ν := ν) (k := 11) (rfl : ((x0b : Nat) : Int) = x0b) (show ((0 : Nat) : Int) = 0 from rfl) (show ((12 : Nat) : Int) = 12 from rfl)) (show (60 : Int32) = i3 60 from rfl) (by omega) (by omega) (by omega) (by omega)) (by omega) (by omega) (by omega)) (show ((3 : Nat) : Int) = 3 from rfl) (rfl : i3 x1 = i3 x1))
          subst e9
          have r30 := zH_k hZ29I 11 x0b 0 13 (lo := 0) (hi := 671) (by decide) rfl
          have q31 := (zu_ne (k' := 11) (b' := x0b) (i' := 0) (j' := 13) hZ29 (fun q => absurd q.1 (by decide))).trans ((zu_ne (k' := 11) (b' := x0b) (i' := 0) (j' := 13) hZ28 (fun q => absurd q.1 (by decide))).trans ((zu_ne (k' := 11) (b' := x0b) (i' := 0) (j' := 13) hZ27 (fun q => absurd q.1 (by decide))).trans ((zu_ne (k' := 11) (b' := x0b) (i' := 0) (j' := 13) hZ26 (fun q => absurd q.1 (by decide))).trans ((zu_ne (k' := 11) (b' := x0b) (i' := 0) (j' := 13) hZ24 (fun q => absurd q.1 (by decide))).trans ((zu_ne (k' := 11) (b' := x0b) (i' := 0) (j' := 13) hZ21 (fun q => absurd q.1 (by decide))).trans ((kZ16 11 x0b 0 13 (by decide)).trans (zu_ne (k' := 11) (b' := x0b) (i' := 0) (j' := 13) hZ15 (fun q => absurd q.1 (by decide)))))))))
          obtain ⟨Z32, hZ32⟩ := zx (zu Z29 53 x0b ((Z24 11 x0b 0 12) % 60) 4 (Z29 11 x0b 0 13))
          replace hP := zl_e hP hZ32
          have hZ32I := zH_u hZ29I hZ32 (lo := -2147483648) (hi := 2147483647) (by decide) rfl (by omega) ⟨by decide, by decide⟩ (Or.inl (by decide)) rfl
          have hZ32U : zU [x0b] Zs Z32 := zU_u hZ29U hZ32 (Or.inr (List.Mem.head _))
          have hZ32K : zC [14, 45, 46, 47, 53, 1112] Zs Z32 := zC_u hZ29K hZ32 (by decide)
          intro μ9 e9
          replace e9 := e9.trans (zm_wI (Z := Z29) (ν := ν) hZ32 (rfl : ((x0b : Nat) : Int) = x0b) (i3I (y := ((Z24 11 x0b 0 12) % 60)) (i3R (zm_rd (Z := Z24) (ν := ν) (k := 11) (rfl : ((x0b : Nat) : Int) = x0b) (show ((0 : Nat) : Int) = 0 from rfl) (show ((12 : Nat) : Int) = 12 from rfl)) (show (60 : Int32) = i3 60 from rfl) (by omega) (by omega) (by omega) (by omega)) (by omega) (by omega) (by omega)) (show ((4 : Nat) : Int) = 4 from rfl) (zm_rd (Z := Z29) (ν := ν) (k := 11) (rfl : ((x0b : Nat) : Int) = x0b) (show ((0 : Nat) : Int) = 0 from rfl) (show ((13 : Nat) : Int) = 13 from rfl)))
          subst e9
          have r33 := zH_c12 hZ32I x0b (zbh (c := 0) (k := 0) hM9 (Nat.le_of_ble_eq_true rfl))
          have q34 := (zu_ne (k' := 11) (b' := x0b) (i' := 0) (j' := 12) hZ32 (fun q => absurd q.1 (by decide))).trans ((zu_ne (k' := 11) (b' := x0b) (i' := 0) (j' := 12) hZ29 (fun q => absurd q.1 (by decide))).trans ((zu_ne (k' := 11) (b' := x0b) (i' := 0) (j' := 12) hZ28 (fun q => absurd q.1 (by decide))).trans ((zu_ne (k' := 11) (b' := x0b) (i' := 0) (j' := 12) hZ27 (fun q => absurd q.1 (by decide))).trans (zu_ne (k' := 11) (b' := x0b) (i' := 0) (j' := 12) hZ26 (fun q => absurd q.1 (by decide))))))
          obtain ⟨Z35, hZ35⟩ := zx (zu Z32 11 x0b 0 12 ((Z32 11 x0b 0 12) + 1))
          replace hP := zl_e hP hZ35
          have hZ35I := zH_i12 hZ32I hZ35 (zbh (c := 0) (k := 1) hM9 (Nat.le_of_ble_eq_true rfl)) (by omega)
          have hZ35U : zU [x0b] Zs Z35 := zU_u hZ32U hZ35 (Or.inr (List.Mem.head _))
          have hZ35K : zC [14, 45, 46, 47, 53, 1112] Zs Z35 := zC_u hZ32K hZ35 (by decide)
          intro μ9 e9
          replace e9 := e9.trans (zm_wI (Z := Z32) (ν := ν) hZ35 (rfl : ((x0b : Nat) : Int) = x0b) (show ((0 : Nat) : Int) = 0 from rfl) (show ((12 : Nat) : Int) = 12 from rfl) (i3A (zm_rd (Z := Z32) (ν := ν) (k := 11) (rfl : ((x0b : Nat) : Int) = x0b) (show ((0 : Nat) : Int) = 0 from rfl) (show ((12 : Nat) : Int) = 12 from rfl)) (show (1 : Int32) = i3 1 from rfl)))
          subst e9
          obtain ⟨m2, rfl⟩ : ∃ m2, m = m2 + 1 := ⟨m - 1, by omega⟩
          exact wz_k1 ⟨m2, by omega, xM9 + 1, Z35, (x5 + 1), (zconso rfl (zconso (zvo (rfl : i3 x1 = i3 x1)) (zconso rfl (zconso rfl (zconso (zvo (rfl : i3 x4 = i3 x4)) (zconso (zvo (i3A (rfl : i3 x5 = i3 x5) (show (1 : Int32) = i3 1 from rfl))) (zconso rfl rfl))))))), rfl, by omega, (zbt hZ35I rfl), hZ35K, hZ35U, (zLt_o (zLt_o (zLt_o (zLt_o (zLt_o (zLt_o (zLt_o (zLt_o (zLt_c (zLt_o (zLt_o (zLt_o (zLt_o hLtx0b hZ8 ⟨by decide, .inl (by decide)⟩) hZ11 ⟨by decide, .inl (by decide)⟩) hZ13 ⟨by decide, .inl (by decide)⟩) hZ15 ⟨by decide, .inl (by decide)⟩) kZ16 rfl) hZ21 ⟨by decide, .inl (by decide)⟩) hZ24 ⟨by decide, .inl (by decide)⟩) hZ26 ⟨by decide, .inl (by decide)⟩) hZ27 ⟨by decide, .inl (by decide)⟩) hZ28 ⟨by decide, .inl (by decide)⟩) hZ29 ⟨by decide, .inl (by decide)⟩) hZ32 ⟨by decide, .inl (by decide)⟩) hZ35 ⟨by decide, .inl (by decide)⟩), by omega, by omega,  hP⟩
        · replace hP := zE_n hP h18
          obtain ⟨m2, rfl⟩ : ∃ m2, m = m2 + 1 := ⟨m - 1, by omega⟩
          exact wz_k1 ⟨m2, by omega, xM9, Z16, (x5 + 1), (zconso rfl (zconso (zvo (rfl : i3 x1 = i3 x1)) (zconso rfl (zconso rfl (zconso (zvo (rfl : i3 x4 = i3 x4)) (zconso (zvo (i3A (rfl : i3 x5 = i3 x5) (show (1 : Int32) = i3 1 from rfl))) (zconso rfl rfl))))))), rfl, by omega, hZ16I, hZ16K, hZ16U, (zLt_c (zLt_o (zLt_o (zLt_o (zLt_o hLtx0b hZ8 ⟨by decide, .inl (by decide)⟩) hZ11 ⟨by decide, .inl (by decide)⟩) hZ13 ⟨by decide, .inl (by decide)⟩) hZ15 ⟨by decide, .inl (by decide)⟩) kZ16 rfl), by omega, by omega,  hP⟩
/- yX5_takeAway -/
def zf_105 (Z : qz_Z) (a0b : Int) (a1 : Int) (a2 : Int) : qz_Z × Int := (if (Z 44 a0b a1 10) ≠ 1 then (zlet (zu Z 44 a0b a1 6 (w3 ((Z 44 a0b a1 6) + (Z 44 a0b a1 4)))) (fun Z6 => (zlet (zu Z6 44 a0b a1 4 0) (fun Z7 => (zlet (zu Z7 44 a0b a1 5 0) (fun Z8 => (zlet (zu Z8 44 a0b a1 10 a2) (fun Z9 => (zlet (zf_175 Z9 a0b a0b a1 (-1)) (fun Z10 => (zlet2 (zl_105_1 a0b a1 a1 (Z 44 a0b a1 4) 61 Z10 0) (fun Z12 y11 => (Z12, (Z 44 a0b a1 4)))))))))))))) else (zlet2 (zf_76 Z a0b a1) (fun Z14 v15 => (zlet (zu Z14 44 a0b a1 6 (w3 ((Z14 44 a0b a1 6) + (Z14 44 a0b a1 4)))) (fun Z19 => (zlet (zu Z19 44 a0b a1 4 0) (fun Z20 => (zlet (zu Z20 44 a0b a1 5 0) (fun Z21 => (zlet (zu Z21 44 a0b a1 10 a2) (fun Z22 => (zlet (zf_175 Z22 a0b a0b a1 (-1)) (fun Z23 => (zlet2 (zl_105_1 a0b a1 a1 (Z14 44 a0b a1 4) 61 Z23 0) (fun Z25 y24 => (Z25, (Z14 44 a0b a1 4)))))))))))))))))
theorem sp_105 {s : zSM} {Z : qz_Z} {ν : qz_N} (hZ : zH s Z) (a0b : Nat) {a1 : Int} (ga1 : 0 ≤ a1 ∧ a1 ≤ 47) {a2 : Int} (ga2 : 3 ≤ a2 ∧ a2 ≤ 4) (hLta0b : zLt a0b Z) (hM : s.2 + 63 ≤ 1000000000) : ∃ (Z1 : qz_Z) (P : Int), (Z1, P) = zf_105 Z a0b a1 a2 ∧ (qf_105 [.inr (.inr (some (10, a0b, 0))), .inl (i3 a1), .inl (i3 a2)] (zm Z ν) = some (zm Z1 ν, .inl (some (.inl (i3 P)))) ∧ zH (zb s 63) Z1 ∧ zC [14, 43, 44, 45, 46, 47, 48, 49, 53, 1112] Z Z1 ∧ zU [a0b] Z Z1 ∧ 0 ≤ P ∧ P ≤ 40 ∧ zLt a0b Z1) := by
  obtain ⟨P, hP⟩ := zx (zf_105 Z a0b a1 a2)
  refine zc_W (Q := fun Z1 P => zH (zb s 63) Z1 ∧ zC [14, 43, 44, 45, 46, 47, 48, 49, 53, 1112] Z Z1 ∧ zU [a0b] Z Z1 ∧ 0 ≤ P ∧ P ≤ 40 ∧ zLt a0b Z1) hP (fw_105 a0b (i3 a1) (i3 a2) _ _ ?_)
  replace hP : zE P (zf_105 Z a0b a1 a2) := hP
  unfold zf_105 at hP
  refine wz_i0 (i3O (n := 48) (rfl : i3 a1 = i3 a1) (by omega) (by omega) (by omega)) ?_
  have r1 := zH_k hZ 44 a0b a1 10 (lo := 0) (hi := 4) (by decide) rfl
  refine wz_br (i3NE (zm_rd (Z := Z) (ν := ν) (k := 44) (rfl : ((a0b : Nat) : Int) = a0b) (i3I (y := a1) (rfl : i3 a1 = i3 a1) (by omega) (by omega) (by omega)) (show ((10 : Nat) : Int) = 10 from rfl)) (show (1 : Int32) = i3 1 from rfl) (by omega) (by omega) (by omega) (by omega)) (fun h2 => ?_) (fun h2 => ?_)
  · replace hP := zE_p hP h2
    have r3 := zH_f hZ 44 a0b a1 6
    have r4 := zH_k hZ 44 a0b a1 4 (lo := 0) (hi := 40) (by decide) rfl
    have r5 := w3_r ((Z 44 a0b a1 6) + (Z 44 a0b a1 4))
    obtain ⟨Z6, hZ6⟩ := zx (zu Z 44 a0b a1 6 (w3 ((Z 44 a0b a1 6) + (Z 44 a0b a1 4))))
    replace hP := zl_e hP hZ6
    have hZ6I := zH_u hZ hZ6 (lo := -2147483648) (hi := 2147483647) (by decide) rfl (by omega) ⟨by decide, by decide⟩ (Or.inl (by decide)) rfl
    have hZ6U : zU [a0b] Z Z6 := zU_u zU_r hZ6 (Or.inr (List.Mem.head _))
    have hZ6K : zC [14, 43, 44, 45, 46, 47, 48, 49, 53, 1112] Z Z6 := zC_u zC_r hZ6 (by decide)
    intro μ9 e9
    replace e9 := e9.trans (zm_wI (Z := Z) (ν := ν) hZ6 (rfl : ((a0b : Nat) : Int) = a0b) (i3I (y := a1) (rfl : i3 a1 = i3 a1) (by omega) (by omega) (by omega)) (show ((6 : Nat) : Int) = 6 from rfl) (i3W (i3A (zm_rd (Z := Z) (ν := ν) (k := 44) (rfl : ((a0b : Nat) : Int) = a0b) (i3I (y := a1) (rfl : i3 a1 = i3 a1) (by omega) (by omega) (by omega)) (show ((6 : Nat) : Int) = 6 from rfl)) (zm_rd (Z := Z) (ν := ν) (k := 44) (rfl : ((a0b : Nat) : Int) = a0b) (i3I (y := a1) (rfl : i3 a1 = i3 a1) (by omega) (by omega) (by omega)) (show ((4 : Nat) : Int) = 4 from rfl)))))
    subst e9
    obtain ⟨Z7, hZ7⟩ := zx (zu Z6 44 a0b a1 4 0)
    replace hP := zl_e hP hZ7
    have hZ7I := zH_0 hZ6I hZ7 (by decide) (Or.inl (by decide))
    have hZ7U : zU [a0b] Z Z7 := zU_u hZ6U hZ7 (Or.inr (List.Mem.head _))
    have hZ7K : zC [14, 43, 44, 45, 46, 47, 48, 49, 53, 1112] Z Z7 := zC_u hZ6K hZ7 (by decide)
    intro μ9 e9
    replace e9 := e9.trans (zm_wI (Z := Z6) (ν := ν) hZ7 (rfl : ((a0b : Nat) : Int) = a0b) (i3I (y := a1) (rfl : i3 a1 = i3 a1) (by omega) (by omega) (by omega)) (show ((4 : Nat) : Int) = 4 from rfl) (show (0 : Int32) = i3 0 from rfl))
    subst e9
    obtain ⟨Z8, hZ8⟩ := zx (zu Z7 44 a0b a1 5 0)
    replace hP := zl_e hP hZ8
    have hZ8I := zH_0 hZ7I hZ8 (by decide) (Or.inl (by decide))
    have hZ8U : zU [a0b] Z Z8 := zU_u hZ7U hZ8 (Or.inr (List.Mem.head _))
    have hZ8K : zC [14, 43, 44, 45, 46, 47, 48, 49, 53, 1112] Z Z8 := zC_u hZ7K hZ8 (by decide)
    intro μ9 e9
    replace e9 := e9.trans (zm_wI (Z := Z7) (ν := ν) hZ8 (rfl : ((a0b : Nat) : Int) = a0b) (i3I (y := a1) (rfl : i3 a1 = i3 a1) (by omega) (by omega) (by omega)) (show ((5 : Nat) : Int) = 5 from rfl) (show (0 : Int32) = i3 0 from rfl))
    subst e9
    obtain ⟨Z9, hZ9⟩ := zx (zu Z8 44 a0b a1 10 a2)
    replace hP := zl_e hP hZ9
    have hZ9I := zH_u hZ8I hZ9 (lo := 0) (hi := 4) (by decide) rfl (by omega) ⟨by decide, by decide⟩ (Or.inl (by decide)) rfl
    have hZ9U : zU [a0b] Z Z9 := zU_u hZ8U hZ9 (Or.inr (List.Mem.head _))
    have hZ9K : zC [14, 43, 44, 45, 46, 47, 48, 49, 53, 1112] Z Z9 := zC_u hZ8K hZ9 (by decide)
    intro μ9 e9
    replace e9 := e9.trans (zm_wI (Z := Z8) (ν := ν) hZ9 (rfl : ((a0b : Nat) : Int) = a0b) (i3I (y := a1) (rfl : i3 a1 = i3 a1) (by omega) (by omega) (by omega)) (show ((10 : Nat) : Int) = 10 from rfl) (rfl : i3 a2 = i3 a2))
    subst e9
    obtain ⟨Z10, hZ10, c9, hZ10I, kZ10, jZ10⟩ := sp_175 (ν := ν) hZ9I a0b a0b _ (i3I (y := a1) (rfl : i3 a1 = i3 a1) (by omega) (by omega) (by omega)) (by omega) (a2 := (-1)) (by omega) (zbh (c := 0) (k := 2) hM (Nat.le_of_ble_eq_true rfl))
    have hZ10U : zU [a0b] Z Z10 := zU_t hZ9U jZ10 (zU_b1 (List.Mem.head _) (zU_b1 (List.Mem.head _) zU_b0))
    have hZ10K : zC [14, 43, 44, 45, 46, 47, 48, 49, 53, 1112] Z Z10 := zC_t hZ9K kZ10 (by decide)
    replace hP := zl_e hP hZ10
    refine wz_cV_of (zas (zcons rfl (zcons rfl (zcons (zvi (show (-1 : Int32) = i3 (-1) from rfl)) rfl))) c9) ?_
    clear c9
    refine sl_105_1 (ν := ν) (zb0 hZ10I) (zbh (c := 2) (k := 61) hM (Nat.le_of_ble_eq_true rfl)) (xM9 := 0) zC_r a0b _ (i3I (y := a1) (rfl : i3 a1 = i3 a1) (by omega) (by omega) (by omega)) (by omega) (x1 := a1) (by omega) (x4 := (Z 44 a0b a1 4)) (by omega) (x5 := 0) (by omega) zU_r (zLt_c (zLt_o (zLt_o (zLt_o (zLt_o hLta0b hZ6 ⟨by decide, .inl (by decide)⟩) hZ7 ⟨by decide, .inl (by decide)⟩) hZ8 ⟨by decide, .inl (by decide)⟩) hZ9 ⟨by decide, .inl (by decide)⟩) kZ10 rfl) (Nat.le_of_ble_eq_true rfl)  (zconso rfl (zconso (zvo (rfl : i3 a1 = i3 a1)) (zconso rfl (zconso rfl (zconso (zvo (zm_rd (Z := Z) (ν := ν) (k := 44) (rfl : ((a0b : Nat) : Int) = a0b) (i3I (y := a1) (rfl : i3 a1 = i3 a1) (by omega) (by omega) (by omega)) (show ((4 : Nat) : Int) = 4 from rfl))) (zconso (zvo (show (0 : Int32) = i3 0 from rfl)) (zconso rfl rfl))))))) rfl ?_
    intro L13 Z12 y11 hL13 hZ12I kZ12 jZ12 tZ12_x0b gy11 q9
    replace hP := zl_e2 hP (Eq.symm q9)
    clear q9
    replace hZ12I := zbt (c := 63) hZ12I rfl
    have hZ12U : zU [a0b] Z Z12 := zU_t hZ10U jZ12 (zU_b1 (List.Mem.head _) zU_b0)
    have hZ12K : zC [14, 43, 44, 45, 46, 47, 48, 49, 53, 1112] Z Z12 := zC_t hZ10K kZ12 (by decide)
    refine fc_105_2 (i3 (Z 44 a0b a1 4)) _ _ _ _ hL13 ?_
    exact zlW hP (rfl : i3 (Z 44 a0b a1 4) = i3 (Z 44 a0b a1 4)) ⟨hZ12I, hZ12K, hZ12U, by omega, by omega, tZ12_x0b⟩
  · replace hP := zE_n hP h2
    obtain ⟨Z14, v15, hv15, c9, hZ14I, kZ14, jZ14, lv15, uv15, tZ14_a0b⟩ := sp_76 (ν := ν) hZ a0b (a1 := a1) (by omega) hLta0b (zbh (c := 0) (k := 0) hM (Nat.le_of_ble_eq_true rfl))
    have hZ14U : zU [a0b] Z Z14 := zU_t zU_r jZ14 (zU_b1 (List.Mem.head _) zU_b0)
    have hZ14K : zC [14, 43, 44, 45, 46, 47, 48, 49, 53, 1112] Z Z14 := zC_t zC_r kZ14 (by decide)
    replace hP := zl_e2 hP hv15
    refine wz_cI_of (zas (zcons rfl (zcons (zvi (rfl : i3 a1 = i3 a1)) rfl)) c9) ?_
    clear c9 hv15
    have r16 := zH_f hZ14I 44 a0b a1 6
    have r17 := zH_k hZ14I 44 a0b a1 4 (lo := 0) (hi := 40) (by decide) rfl
    have r18 := w3_r ((Z14 44 a0b a1 6) + (Z14 44 a0b a1 4))
    obtain ⟨Z19, hZ19⟩ := zx (zu Z14 44 a0b a1 6 (w3 ((Z14 44 a0b a1 6) + (Z14 44 a0b a1 4))))
    replace hP := zl_e hP hZ19
    have hZ19I := zH_u hZ14I hZ19 (lo := -2147483648) (hi := 2147483647) (by decide) rfl (by omega) ⟨by decide, by decide⟩ (Or.inl (by decide)) rfl
    have hZ19U : zU [a0b] Z Z19 := zU_u hZ14U hZ19 (Or.inr (List.Mem.head _))
    have hZ19K : zC [14, 43, 44, 45, 46, 47, 48, 49, 53, 1112] Z Z19 := zC_u hZ14K hZ19 (by decide)
    intro μ9 e9
    replace e9 := e9.trans (zm_wI (Z := Z14) (ν := ν) hZ19 (rfl : ((a0b : Nat) : Int) = a0b) (i3I (y := a1) (rfl : i3 a1 = i3 a1) (by omega) (by omega) (by omega)) (show ((6 : Nat) : Int) = 6 from rfl) (i3W (i3A (zm_rd (Z := Z14) (ν := ν) (k := 44) (rfl : ((a0b : Nat) : Int) = a0b) (i3I (y := a1) (rfl : i3 a1 = i3 a1) (by omega) (by omega) (by omega)) (show ((6 : Nat) : Int) = 6 from rfl)) (zm_rd (Z := Z14) (ν := ν) (k := 44) (rfl : ((a0b : Nat) : Int) = a0b) (i3I (y := a1) (rfl : i3 a1 = i3 a1) (by omega) (by omega) (by omega)) (show ((4 : Nat) : Int) = 4 from rfl)))))
    subst e9
    obtain ⟨Z20, hZ20⟩ := zx (zu Z19 44 a0b a1 4 0)
    replace hP := zl_e hP hZ20
    have hZ20I := zH_0 hZ19I hZ20 (by decide) (Or.inl (by decide))
    have hZ20U : zU [a0b] Z Z20 := zU_u hZ19U hZ20 (Or.inr (List.Mem.head _))
    have hZ20K : zC [14, 43, 44, 45, 46, 47, 48, 49, 53, 1112] Z Z20 := zC_u hZ19K hZ20 (by decide)
    intro μ9 e9
    replace e9 := e9.trans (zm_wI (Z := Z19) (ν := ν) hZ20 (rfl : ((a0b : Nat) : Int) = a0b) (i3I (y := a1) (rfl : i3 a1 = i3 a1) (by omega) (by omega) (by omega)) (show ((4 : Nat) : Int) = 4 from rfl) (show (0 : Int32) = i3 0 from rfl))
    subst e9
    obtain ⟨Z21, hZ21⟩ := zx (zu Z20 44 a0b a1 5 0)
    replace hP := zl_e hP hZ21
    have hZ21I := zH_0 hZ20I hZ21 (by decide) (Or.inl (by decide))
    have hZ21U : zU [a0b] Z Z21 := zU_u hZ20U hZ21 (Or.inr (List.Mem.head _))
    have hZ21K : zC [14, 43, 44, 45, 46, 47, 48, 49, 53, 1112] Z Z21 := zC_u hZ20K hZ21 (by decide)
    intro μ9 e9
    replace e9 := e9.trans (zm_wI (Z := Z20) (ν := ν) hZ21 (rfl : ((a0b : Nat) : Int) = a0b) (i3I (y := a1) (rfl : i3 a1 = i3 a1) (by omega) (by omega) (by omega)) (show ((5 : Nat) : Int) = 5 from rfl) (show (0 : Int32) = i3 0 from rfl))
    subst e9
    obtain ⟨Z22, hZ22⟩ := zx (zu Z21 44 a0b a1 10 a2)
    replace hP := zl_e hP hZ22
    have hZ22I := zH_u hZ21I hZ22 (lo := 0) (hi := 4) (by decide) rfl (by omega) ⟨by decide, by decide⟩ (Or.inl (by decide)) rfl
    have hZ22U : zU [a0b] Z Z22 := zU_u hZ21U hZ22 (Or.inr (List.Mem.head _))
    have hZ22K : zC [14, 43, 44, 45, 46, 47, 48, 49, 53, 1112] Z Z22 := zC_u hZ21K hZ22 (by decide)
    intro μ9 e9
    replace e9 := e9.trans (zm_wI (Z := Z21) (ν := ν) hZ22 (rfl : ((a0b : Nat) : Int) = a0b) (i3I (y := a1) (rfl : i3 a1 = i3 a1) (by omega) (by omega) (by omega)) (show ((10 : Nat) : Int) = 10 from rfl) (rfl : i3 a2 = i3 a2))
    subst e9
    obtain ⟨Z23, hZ23, c9, hZ23I, kZ23, jZ23⟩ := sp_175 (ν := ν) hZ22I a0b a0b _ (i3I (y := a1) (rfl : i3 a1 = i3 a1) (by omega) (by omega) (by omega)) (by omega) (a2 := (-1)) (by omega) (zbh (c := 0) (k := 2) hM (Nat.le_of_ble_eq_true rfl))
    have hZ23U : zU [a0b] Z Z23 := zU_t hZ22U jZ23 (zU_b1 (List.Mem.head _) (zU_b1 (List.Mem.head _) zU_b0))
    have hZ23K : zC [14, 43, 44, 45, 46, 47, 48, 49, 53, 1112] Z Z23 := zC_t hZ22K kZ23 (by decide)
    replace hP := zl_e hP hZ23
    refine wz_cV_of (zas (zcons rfl (zcons rfl (zcons (zvi (show (-1 : Int32) = i3 (-1) from rfl)) rfl))) c9) ?_
    clear c9
    refine sl_105_1 (ν := ν) (zb0 hZ23I) (zbh (c := 2) (k := 61) hM (Nat.le_of_ble_eq_true rfl)) (xM9 := 0) zC_r a0b _ (i3I (y := a1) (rfl : i3 a1 = i3 a1) (by omega) (by omega) (by omega)) (by omega) (x1 := a1) (by omega) (x4 := (Z14 44 a0b a1 4)) (by omega) (x5 := 0) (by omega) zU_r (zLt_c (zLt_o (zLt_o (zLt_o (zLt_o tZ14_a0b hZ19 ⟨by decide, .inl (by decide)⟩) hZ20 ⟨by decide, .inl (by decide)⟩) hZ21 ⟨by decide, .inl (by decide)⟩) hZ22 ⟨by decide, .inl (by decide)⟩) kZ23 rfl) (Nat.le_of_ble_eq_true rfl)  (zconso rfl (zconso (zvo (rfl : i3 a1 = i3 a1)) (zconso rfl (zconso rfl (zconso (zvo (zm_rd (Z := Z14) (ν := ν) (k := 44) (rfl : ((a0b : Nat) : Int) = a0b) (i3I (y := a1) (rfl : i3 a1 = i3 a1) (by omega) (by omega) (by omega)) (show ((4 : Nat) : Int) = 4 from rfl))) (zconso (zvo (show (0 : Int32) = i3 0 from rfl)) (zconso rfl rfl))))))) rfl ?_
    intro L26 Z25 y24 hL26 hZ25I kZ25 jZ25 tZ25_x0b gy24 q9
    replace hP := zl_e2 hP (Eq.symm q9)
    clear q9
    replace hZ25I := zbt (c := 63) hZ25I rfl
    have hZ25U : zU [a0b] Z Z25 := zU_t hZ23U jZ25 (zU_b1 (List.Mem.head _) zU_b0)
    have hZ25K : zC [14, 43, 44, 45, 46, 47, 48, 49, 53, 1112] Z Z25 := zC_t hZ23K kZ25 (by decide)
    refine fc_105_2 (i3 (Z14 44 a0b a1 4)) _ _ _ _ hL26 ?_
    exact zlW hP (rfl : i3 (Z14 44 a0b a1 4) = i3 (Z14 44 a0b a1 4)) ⟨hZ25I, hZ25K, hZ25U, by omega, by omega, tZ25_x0b⟩
/- yX0_judge -/
def zf_7 (Z : qz_Z) (n9 : Int) (a0b : Int) (a1b : Int) (a1ij : Int) : qz_Z × Int := (zlet (zf_2 Z a0b a0b (Z 54 a1b a1ij 0) (Z 54 a1b a1ij 1)) (fun v4 => (if v4 ≠ 0 then (zlet (zzi Z n9) (fun Z6 => (zlet (n9 + 1) (fun n10 => (zlet2 (zf_1010 Z6 n10 a0b a0b (Z 54 a1b a1ij 0) (Z6 54 a1b a1ij 1) v4 n9) (fun Z14 n16 => (zlet (zu Z14 54 a1b a1ij 2 2) (fun Z18 => (zlet (zu Z18 54 a1b a1ij 3 v4) (fun Z22 => (zlet (zpy Z22 200 n9 0 54 a1b a1ij 4 3) (fun Z24 => (zlet (zu Z24 47 a0b (Z 54 a1b a1ij 0) 19 (w3 ((Z24 47 a0b (Z 54 a1b a1ij 0) 19) - (min (Z24 47 a0b (Z 54 a1b a1ij 0) 19) v4)))) (fun Z29 => (zlet (zu Z29 45 a0b (Z24 47 a0b (Z 54 a1b a1ij 0) 1) 4 (w3 ((Z29 45 a0b (Z24 47 a0b (Z 54 a1b a1ij 0) 1) 4) - (min (Z24 47 a0b (Z 54 a1b a1ij 0) 19) v4)))) (fun Z33 => (zlet (zu Z33 45 a0b (Z24 47 a0b (Z 54 a1b a1ij 0) 1) 3 (w3 ((Z33 45 a0b (Z24 47 a0b (Z 54 a1b a1ij 0) 1) 3) + (w3 (v4 - (min (Z24 47 a0b (Z 54 a1b a1ij 0) 19) v4)))))) (fun Z38 => (zlet (zu Z38 45 a0b (Z24 47 a0b (Z 54 a1b a1ij 0) 1) 13 (w3 ((Z38 45 a0b (Z24 47 a0b (Z 54 a1b a1ij 0) 1) 13) + v4))) (fun Z42 => (zlet (zu Z42 14 a0b 0 1 (w3 ((Z42 14 a0b 0 1) - v4))) (fun Z48 => (zlet (zu Z48 14 a0b 0 8 (w3 ((Z48 14 a0b 0 8) + v4))) (fun Z52 => (zlet (zu Z52 53 a0b ((Z52 11 a0b 0 12) % 60) 0 1) (fun Z55 => (zlet (zu Z55 53 a0b ((Z52 11 a0b 0 12) % 60) 1 8) (fun Z57 => (zlet (zu Z57 53 a0b ((Z52 11 a0b 0 12) % 60) 2 v4) (fun Z59 => (zlet (zu Z59 53 a0b ((Z52 11 a0b 0 12) % 60) 3 (Z42 47 a0b (Z 54 a1b a1ij 0) 0)) (fun Z61 => (zlet (zu Z61 53 a0b ((Z52 11 a0b 0 12) % 60) 4 (Z61 11 a0b 0 13)) (fun Z64 => (zlet (zu Z64 11 a0b 0 12 ((Z64 11 a0b 0 12) + 1)) (fun Z68 => (if (Z68 200 n9 0 0) ≠ 0 then (zlet (zu Z68 14 a0b 0 8 (w3 ((Z68 14 a0b 0 8) - (Z68 200 n9 0 0)))) (fun Z75 => (zlet (zu Z75 14 a0b 0 2 (w3 ((Z75 14 a0b 0 2) + (Z68 200 n9 0 0)))) (fun Z79 => (zlet (zu Z79 53 a0b ((Z79 11 a0b 0 12) % 60) 0 8) (fun Z83 => (zlet (zu Z83 53 a0b ((Z79 11 a0b 0 12) % 60) 1 2) (fun Z85 => (zlet (zu Z85 53 a0b ((Z79 11 a0b 0 12) % 60) 2 (Z68 200 n9 0 0)) (fun Z87 => (zlet (zu Z87 53 a0b ((Z79 11 a0b 0 12) % 60) 3 (Z42 47 a0b (Z 54 a1b a1ij 0) 0)) (fun Z89 => (zlet (zu Z89 53 a0b ((Z79 11 a0b 0 12) % 60) 4 (Z89 11 a0b 0 13)) (fun Z93 => (zlet (zu Z93 11 a0b 0 12 ((Z93 11 a0b 0 12) + 1)) (fun Z97 => (if (Z97 200 n9 0 2) ≠ 0 then (zlet (zu Z97 14 a0b 0 8 (w3 ((Z97 14 a0b 0 8) - (Z97 200 n9 0 2)))) (fun Z104 => (zlet (zu Z104 14 a0b 0 0 (w3 ((Z104 14 a0b 0 0) + (Z97 200 n9 0 2)))) (fun Z108 => (zlet (zu Z108 53 a0b ((Z108 11 a0b 0 12) % 60) 0 8) (fun Z112 => (zlet (zu Z112 53 a0b ((Z108 11 a0b 0 12) % 60) 1 0) (fun Z114 => (zlet (zu Z114 53 a0b ((Z108 11 a0b 0 12) % 60) 2 (Z97 200 n9 0 2)) (fun Z116 => (zlet (zu Z116 53 a0b ((Z108 11 a0b 0 12) % 60) 3 (Z42 47 a0b (Z 54 a1b a1ij 0) 0)) (fun Z118 => (zlet (zu Z118 53 a0b ((Z108 11 a0b 0 12) % 60) 4 (Z118 11 a0b 0 13)) (fun Z122 => (zlet (zu Z122 11 a0b 0 12 ((Z122 11 a0b 0 12) + 1)) (fun Z126 => (zlet (zu Z126 42 a0b (Z42 44 a0b (Z42 47 a0b (Z 54 a1b a1ij 0) 0) 0) 2 (w3 ((Z126 42 a0b (Z42 44 a0b (Z42 47 a0b (Z 54 a1b a1ij 0) 0) 0) 2) - (Z126 200 n9 0 0)))) (fun Z132 => (zlet (zu Z132 42 a0b (Z42 44 a0b (Z42 47 a0b (Z 54 a1b a1ij 0) 0) 0) 5 (w3 ((Z132 42 a0b (Z42 44 a0b (Z42 47 a0b (Z 54 a1b a1ij 0) 0) 0) 5) + (Z132 200 n9 0 0)))) (fun Z138 => (Z138, n16))))))))))))))))))))) else (zlet (zu Z97 42 a0b (Z42 44 a0b (Z42 47 a0b (Z 54 a1b a1ij 0) 0) 0) 2 (w3 ((Z97 42 a0b (Z42 44 a0b (Z42 47 a0b (Z 54 a1b a1ij 0) 0) 0) 2) - (Z97 200 n9 0 0)))) (fun Z144 => (zlet (zu Z144 42 a0b (Z42 44 a0b (Z42 47 a0b (Z 54 a1b a1ij 0) 0) 0) 5 (w3 ((Z144 42 a0b (Z42 44 a0b (Z42 47 a0b (Z 54 a1b a1ij 0) 0) 0) 5) + (Z144 200 n9 0 0)))) (fun Z150 => (Z150, n16)))))))))))))))))))))) else (if (Z68 200 n9 0 2) ≠ 0 then (zlet (zu Z68 14 a0b 0 8 (w3 ((Z68 14 a0b 0 8) - (Z68 200 n9 0 2)))) (fun Z157 => (zlet (zu Z157 14 a0b 0 0 (w3 ((Z157 14 a0b 0 0) + (Z68 200 n9 0 2)))) (fun Z161 => (zlet (zu Z161 53 a0b ((Z161 11 a0b 0 12) % 60) 0 8) (fun Z165 => (zlet (zu Z165 53 a0b ((Z161 11 a0b 0 12) % 60) 1 0) (fun Z167 => (zlet (zu Z167 53 a0b ((Z161 11 a0b 0 12) % 60) 2 (Z68 200 n9 0 2)) (fun Z169 => (zlet (zu Z169 53 a0b ((Z161 11 a0b 0 12) % 60) 3 (Z42 47 a0b (Z 54 a1b a1ij 0) 0)) (fun Z171 => (zlet (zu Z171 53 a0b ((Z161 11 a0b 0 12) % 60) 4 (Z171 11 a0b 0 13)) (fun Z175 => (zlet (zu Z175 11 a0b 0 12 ((Z175 11 a0b 0 12) + 1)) (fun Z179 => (zlet (zu Z179 42 a0b (Z42 44 a0b (Z42 47 a0b (Z 54 a1b a1ij 0) 0) 0) 2 ((Z179 42 a0b (Z42 44 a0b (Z42 47 a0b (Z 54 a1b a1ij 0) 0) 0) 2) - (Z179 200 n9 0 0))) (fun Z184 => (zlet (zu Z184 42 a0b (Z42 44 a0b (Z42 47 a0b (Z 54 a1b a1ij 0) 0) 0) 5 ((Z184 42 a0b (Z42 44 a0b (Z42 47 a0b (Z 54 a1b a1ij 0) 0) 0) 5) + (Z184 200 n9 0 0))) (fun Z189 => (Z189, n16))))))))))))))))))))) else (zlet (zu Z68 42 a0b (Z42 44 a0b (Z42 47 a0b (Z 54 a1b a1ij 0) 0) 0) 2 ((Z68 42 a0b (Z42 44 a0b (Z42 47 a0b (Z 54 a1b a1ij 0) 0) 0) 2) - (Z68 200 n9 0 0))) (fun Z192 => (zlet (zu Z192 42 a0b (Z42 44 a0b (Z42 47 a0b (Z 54 a1b a1ij 0) 0) 0) 5 ((Z192 42 a0b (Z42 44 a0b (Z42 47 a0b (Z 54 a1b a1ij 0) 0) 0) 5) + (Z192 200 n9 0 0))) (fun Z197 => (Z197, n16))))))))))))))))))))))))))))))))))))))))))) else (zlet (zu Z 54 a1b a1ij 2 1) (fun Z199 => (Z199, n9))))))
theorem sp_7 {s : zSM} {Z : qz_Z} {ν : qz_N} (hZ : zH s Z) (hs : s.1 = none) {n9 : Nat} (hn : ν.2.2.2.1 = n9) (a0b : Nat) (a1b : Nat) (a1i : Nat) {a1ij : Int} (ea1i : (a1i : Int) = a1ij) (ga1i : 0 ≤ a1ij ∧ a1ij ≤ 11) (gx0 : Z 54 a1b a1ij 2 = 0) (hM : s.2 + 3 ≤ 1000000000) : ∃ (Z1 : qz_Z) (ν1 : qz_N) (n1 : Nat), (Z1, (n1 : Int)) = zf_7 Z n9 a0b a1b a1ij ∧ (qf_7 [.inr (.inr (some (10, a0b, 0))), .inr (.inr (some (54, a1b, a1i)))] (zm Z ν) = some (zm Z1 ν1, .inl none) ∧ zH (zb s 3) Z1 ∧ zL [14, 42, 45, 47, 53, 54, 1112] [] n9 Z Z1 ∧ zU [a0b, a1b] Z Z1 ∧ ν1.2.2.2.1 = n1 ∧ zGl 5 ν ν1 ∧ n9 ≤ n1 ∧ n1 ≤ n9 + 3 ∧ zpt Z1 a1b + n1 ≤ zpt Z a1b + n9) := by
  obtain ⟨P, hP⟩ := zx (zf_7 Z n9 a0b a1b a1ij)
  refine zc_Vn (Q := fun Z1 ν1 n1 => zH (zb s 3) Z1 ∧ zL [14, 42, 45, 47, 53, 54, 1112] [] n9 Z Z1 ∧ zU [a0b, a1b] Z Z1 ∧ ν1.2.2.2.1 = n1 ∧ zGl 5 ν ν1 ∧ n9 ≤ n1 ∧ n1 ≤ n9 + 3 ∧ zpt Z1 a1b + n1 ≤ zpt Z a1b + n9) hP (fw_7 a0b a1b a1i _ _ ?_)
  replace hP : zE P (zf_7 Z n9 a0b a1b a1ij) := hP
  unfold zf_7 at hP
  have r1 := zH_k hZ 54 a1b a1ij 2 (lo := 0) (hi := 2) (by decide) rfl
  have r2 := zH_k hZ 54 a1b a1ij 0 (lo := 0) (hi := 59) (by decide) rfl
  refine wz_i0 (i3O (n := 60) (zm_rd (Z := Z) (ν := ν) (k := 54) (rfl : ((a1b : Nat) : Int) = a1b) ea1i (show ((0 : Nat) : Int) = 0 from rfl)) (by omega) (by omega) (by omega)) ?_
  have r3 := zH_k hZ 54 a1b a1ij 1 (lo := 0) (hi := 3) (by decide) rfl
  obtain ⟨v4, hv4, c9, lv4, uv4⟩ := sp_2 (ν := ν) hZ a0b a0b _ (i3I (y := (Z 54 a1b a1ij 0)) (zm_rd (Z := Z) (ν := ν) (k := 54) (rfl : ((a1b : Nat) : Int) = a1b) ea1i (show ((0 : Nat) : Int) = 0 from rfl)) (by omega) (by omega) (by omega)) (by omega) (a2 := (Z 54 a1b a1ij 1)) (by omega) (zbh (c := 0) (k := 0) hM (Nat.le_of_ble_eq_true rfl))
  replace hP := zl_e hP hv4
  refine wz_cI_of (zas (zcons rfl (zcons rfl (zcons (zvi (zm_rd (Z := Z) (ν := ν) (k := 54) (rfl : ((a1b : Nat) : Int) = a1b) ea1i (show ((1 : Nat) : Int) = 1 from rfl))) rfl))) c9) ?_
  clear c9
  refine wz_br (i3NE (rfl : i3 v4 = i3 v4) (show (0 : Int32) = i3 0 from rfl) (by omega) (by omega) (by omega) (by omega)) (fun h5 => ?_) (fun h5 => ?_)
  · replace hP := zE_p hP h5
    obtain ⟨Z6, hZ6⟩ := zx (zzr Z n9)
    obtain ⟨ν7, hν7⟩ := zx (nal ν 50 1 3 1 3)
    obtain ⟨n10, hn10⟩ : ∃ m : Nat, m = n9 + 1 := ⟨_, rfl⟩
    replace hP := zl_e hP (hZ6.trans zzi_e)
    replace hP := zl_e hP (show ((n10 : Nat) : Int) = ((n9 : Nat) : Int) + 1 from by omega)
    intro μ9 e9
    replace e9 := zal_e e9 hn hZ6 hν7
    subst e9
    rw [show qz_na (zm Z ν) = n9 from hn]
    have hZ6I := zH_z hZ hZ6 hs
    have hZ6K : zL [14, 42, 45, 47, 53, 54, 1112] [] n9 Z Z6 := zL_z2 zL_r (by omega) hZ6
    have hZ6U : zU [a0b, a1b] Z Z6 := zU_z zU_r hZ6
    have r11 := zpt_z (b := a1b) hZ6
    have hnν7 := (nal_na hn hν7).trans hn10.symm
    have hGν7 := zGl_al (K := 5) zGl_r hν7 (by decide)
    have hSν7 := zSh_new hn hν7
    have r12 := zH_k hZ6I 54 a1b a1ij 1 (lo := 0) (hi := 3) (by decide) rfl
    have q13 := zz_o hZ6 (k := 54) (b := a1b) (i := a1ij) (j := 1) (by decide)
    obtain ⟨Z14, ν15, n16, hZ14, c9, hZ14I, kZ14, jZ14, hnν15, gν15, b1ν15, b2ν15⟩ := sp_1010 (ν := ν7) hZ6I hs hnν7 a0b a0b _ (i3I (y := (Z 54 a1b a1ij 0)) (zm_rd (Z := Z) (ν := ν) (k := 54) (rfl : ((a1b : Nat) : Int) = a1b) ea1i (show ((0 : Nat) : Int) = 0 from rfl)) (by omega) (by omega) (by omega)) (by omega) (a2 := (Z6 54 a1b a1ij 1)) (by omega) (a3 := v4) (by omega) n9 hSν7 (zbh (c := 0) (k := 0) hM (Nat.le_of_ble_eq_true rfl))
    have hZ14U : zU [a0b, a1b] Z Z14 := zU_t hZ6U jZ14 zU_b0
    have r17 := zpt_l (b := a1b) kZ14 (by decide)
    have hZ14K : zL [14, 42, 45, 47, 53, 54, 1112] [] n9 Z Z14 := zL_t hZ6K kZ14 (by decide) (zL_b1 (Or.inr (by omega)) zL_b0) (by omega)
    replace hP := zl_e2 hP hZ14
    refine wz_cV_of (zas (zcons rfl (zcons rfl (zcons (zvi (zm_rd (Z := Z6) (ν := ν7) (k := 54) (rfl : ((a1b : Nat) : Int) = a1b) ea1i (show ((1 : Nat) : Int) = 1 from rfl))) (zcons (zvi (rfl : i3 v4 = i3 v4)) (zcons rfl rfl))))) c9) ?_
    clear c9
    have hGν15 := zGl_t (K := 5) hGν7 gν15
    obtain ⟨Z18, hZ18⟩ := zx (zu Z14 54 a1b a1ij 2 2)
    replace hP := zl_e hP hZ18
    have hZ18I := zH_u hZ14I hZ18 (lo := 0) (hi := 2) (by decide) rfl (by omega) ⟨by decide, by decide⟩ (Or.inl (by decide)) rfl
    have hZ18U : zU [a0b, a1b] Z Z18 := zU_u hZ14U hZ18 (Or.inr (List.Mem.tail _ (List.Mem.head _)))
    have r19 := zH_k hZ14I 54 a1b a1ij 2 (lo := 0) (hi := 2) (by decide) rfl
    have q20 := (zL_e kZ14 54 a1b a1ij 2 (by decide) (by decide)).trans (zz_o hZ6 (k := 54) (b := a1b) (i := a1ij) (j := 2) (by decide))
    have r21 := zpt_54w (b := a1b) hZ18 (by omega) (by omega)
    have hZ18K : zL [14, 42, 45, 47, 53, 54, 1112] [] n9 Z Z18 := zL_u hZ14K hZ18 (by decide)
    intro μ9 e9
    replace e9 := e9.trans (zm_wI (Z := Z14) (ν := ν15) hZ18 (rfl : ((a1b : Nat) : Int) = a1b) ea1i (show ((2 : Nat) : Int) = 2 from rfl) (show (2 : Int32) = i3 2 from rfl))
    subst e9
    obtain ⟨Z22, hZ22⟩ := zx (zu Z18 54 a1b a1ij 3 v4)
    replace hP := zl_e hP hZ22
    have hZ22I := zH_u hZ18I hZ22 (lo := -2147483648) (hi := 2147483647) (by decide) rfl (by omega) ⟨by decide, by decide⟩ (Or.inl (by decide)) rfl
    have hZ22U : zU [a0b, a1b] Z Z22 := zU_u hZ18U hZ22 (Or.inr (List.Mem.tail _ (List.Mem.head _)))
    have r23 := zpt_54 (b := a1b) hZ22 (by omega)
    have hZ22K : zL [14, 42, 45, 47, 53, 54, 1112] [] n9 Z Z22 := zL_u hZ18K hZ22 (by decide)
    intro μ9 e9
    replace e9 := e9.trans (zm_wI (Z := Z18) (ν := ν15) hZ22 (rfl : ((a1b : Nat) : Int) = a1b) ea1i (show ((3 : Nat) : Int) = 3 from rfl) (rfl : i3 v4 = i3 v4))
    subst e9
    refine wz_i1 (by rw [zSh_t (zSh_Gl hSν7 gν15)]; rfl) ?_
    obtain ⟨Z24, hZ24⟩ := zx (zpy Z22 200 n9 0 54 a1b a1ij 4 3)
    replace hP := zl_e hP hZ24
    refine ⟨zpy_c (d := 4) (l1 := 3) (l2 := 8) (show (3 : Int32) = i3 3 from rfl) (zSh_l (zSh_Gl hSν7 gν15)) rfl (by omega) (by omega) (by omega), ?_⟩
    intro μ9 e9
    replace e9 := e9.trans (zm_py (ν := ν15) (d := 4) hZ24 (rfl : ((n9 : Nat) : Int) = n9) (show ((0 : Nat) : Int) = 0 from rfl) (rfl : ((a1b : Nat) : Int) = a1b) ea1i (show (3 : Int32) = i3 3 from rfl) (by omega) (by omega))
    subst e9
    have hZ24I := zH_pk54 hZ22I hZ24 (by omega) hs
    have hZ24K : zL [14, 42, 45, 47, 53, 54, 1112] [] n9 Z Z24 := zL_pk hZ22K hZ24 (by decide)
    have hZ24U : zU [a0b, a1b] Z Z24 := zU_p hZ22U hZ24 (Or.inr (List.Mem.tail _ (List.Mem.head _)))
    have r25 := zpt_p (b := a1b) hZ24 (by decide)
    have r26 := zH_k hZ24I 47 a0b (Z 54 a1b a1ij 0) 1 (lo := 0) (hi := 7) (by decide) rfl
    refine wz_i0 (i3O (n := 8) (zm_rd (Z := Z24) (ν := ν15) (k := 47) (rfl : ((a0b : Nat) : Int) = a0b) (i3I (y := (Z 54 a1b a1ij 0)) (zm_rd (Z := Z) (ν := ν) (k := 54) (rfl : ((a1b : Nat) : Int) = a1b) ea1i (show ((0 : Nat) : Int) = 0 from rfl)) (by omega) (by omega) (by omega)) (show ((1 : Nat) : Int) = 1 from rfl)) (by omega) (by omega) (by omega)) ?_
    have r27 := zH_f hZ24I 47 a0b (Z 54 a1b a1ij 0) 19
    have r28 := w3_r ((Z24 47 a0b (Z 54 a1b a1ij 0) 19) - (min (Z24 47 a0b (Z 54 a1b a1ij 0) 19) v4))
    obtain ⟨Z29, hZ29⟩ := zx (zu Z24 47 a0b (Z 54 a1b a1ij 0) 19 (w3 ((Z24 47 a0b (Z 54 a1b a1ij 0) 19) - (min (Z24 47 a0b (Z 54 a1b a1ij 0) 19) v4))))
    replace hP := zl_e hP hZ29
    have hZ29I := zH_u hZ24I hZ29 (lo := -2147483648) (hi := 2147483647) (by decide) rfl (by omega) ⟨by decide, by decide⟩ (Or.inl (by decide)) rfl
    have hZ29U : zU [a0b, a1b] Z Z29 := zU_u hZ24U hZ29 (Or.inr (List.Mem.head _))
    have r30 := zpt_0 (b := a1b) hZ29 (by decide)
    have hZ29K : zL [14, 42, 45, 47, 53, 54, 1112] [] n9 Z Z29 := zL_u hZ24K hZ29 (by decide)
    intro μ9 e9
    replace e9 := e9.trans (zm_wI (Z := Z24) (ν := ν15) hZ29 (rfl : ((a0b : Nat) : Int) = a0b) (i3I (y := (Z 54 a1b a1ij 0)) (zm_rd (Z := Z) (ν := ν) (k := 54) (rfl : ((a1b : Nat) : Int) = a1b) ea1i (show ((0 : Nat) : Int) = 0 from rfl)) (by omega) (by omega) (by omega)) (show ((19 : Nat) : Int) = 19 from rfl) (i3W (i3S (zm_rd (Z := Z24) (ν := ν15) (k := 47) (rfl : ((a0b : Nat) : Int) = a0b) (i3I (y := (Z 54 a1b a1ij 0)) (zm_rd (Z := Z) (ν := ν) (k := 54) (rfl : ((a1b : Nat) : Int) = a1b) ea1i (show ((0 : Nat) : Int) = 0 from rfl)) (by omega) (by omega) (by omega)) (show ((19 : Nat) : Int) = 19 from rfl)) (i3Mn (zm_rd (Z := Z24) (ν := ν15) (k := 47) (rfl : ((a0b : Nat) : Int) = a0b) (i3I (y := (Z 54 a1b a1ij 0)) (zm_rd (Z := Z) (ν := ν) (k := 54) (rfl : ((a1b : Nat) : Int) = a1b) ea1i (show ((0 : Nat) : Int) = 0 from rfl)) (by omega) (by omega) (by omega)) (show ((19 : Nat) : Int) = 19 from rfl)) (rfl : i3 v4 = i3 v4) (by omega) (by omega) (by omega) (by omega)))))
    subst e9
    have r31 := zH_f hZ29I 45 a0b (Z24 47 a0b (Z 54 a1b a1ij 0) 1) 4
    have r32 := w3_r ((Z29 45 a0b (Z24 47 a0b (Z 54 a1b a1ij 0) 1) 4) - (min (Z24 47 a0b (Z 54 a1b a1ij 0) 19) v4))
    obtain ⟨Z33, hZ33⟩ := zx (zu Z29 45 a0b (Z24 47 a0b (Z 54 a1b a1ij 0) 1) 4 (w3 ((Z29 45 a0b (Z24 47 a0b (Z 54 a1b a1ij 0) 1) 4) - (min (Z24 47 a0b (Z 54 a1b a1ij 0) 19) v4))))
    replace hP := zl_e hP hZ33
    have hZ33I := zH_u hZ29I hZ33 (lo := -2147483648) (hi := 2147483647) (by decide) rfl (by omega) ⟨by decide, by decide⟩ (Or.inl (by decide)) rfl
    have hZ33U : zU [a0b, a1b] Z Z33 := zU_u hZ29U hZ33 (Or.inr (List.Mem.head _))
    have r34 := zpt_0 (b := a1b) hZ33 (by decide)
    have hZ33K : zL [14, 42, 45, 47, 53, 54, 1112] [] n9 Z Z33 := zL_u hZ29K hZ33 (by decide)
    intro μ9 e9
    replace e9 := e9.trans (zm_wI (Z := Z29) (ν := ν15) hZ33 (rfl : ((a0b : Nat) : Int) = a0b) (i3I (y := (Z24 47 a0b (Z 54 a1b a1ij 0) 1)) (zm_rd (Z := Z24) (ν := ν15) (k := 47) (rfl : ((a0b : Nat) : Int) = a0b) (i3I (y := (Z 54 a1b a1ij 0)) (zm_rd (Z := Z) (ν := ν) (k := 54) (rfl : ((a1b : Nat) : Int) = a1b) ea1i (show ((0 : Nat) : Int) = 0 from rfl)) (by omega) (by omega) (by omega)) (show ((1 : Nat) : Int) = 1 from rfl)) (by omega) (by omega) (by omega)) (show ((4 : Nat) : Int) = 4 from rfl) (i3W (i3S (zm_rd (Z := Z29) (ν := ν15) (k := 45) (rfl : ((a0b : Nat) : Int) = a0b) (i3I (y := (Z24 47 a0b (Z 54 a1b a1ij 0) 1)) (zm_rd (Z := Z24) (ν := ν15) (k := 47) (rfl : ((a0b : Nat) : Int) = a0b) (i3I (y := (Z 54 a1b a1ij 0)) (zm_rd (Z := Z) (ν := ν) (k := 54) (rfl : ((a1b : Nat) : Int) = a1b) ea1i (show ((0 : Nat) : Int) = 0 from rfl)) (by omega) (by omega) (by omega)) (show ((1 : Nat) : Int) = 1 from rfl)) (by omega) (by omega) (by omega)) (show ((4 : Nat) : Int) = 4 from rfl)) (i3Mn (zm_rd (Z := Z24) (ν := ν15) (k := 47) (rfl : ((a0b : Nat) : Int) = a0b) (i3I (y := (Z 54 a1b a1ij 0)) (zm_rd (Z := Z) (ν := ν) (k := 54) (rfl : ((a1b : Nat) : Int) = a1b) ea1i (show ((0 : Nat) : Int) = 0 from rfl)) (by omega) (by omega) (by omega)) (show ((19 : Nat) : Int) = 19 from rfl)) (rfl : i3 v4 = i3 v4) (by omega) (by omega) (by omega) (by omega)))))
    subst e9
    have r35 := zH_f hZ33I 45 a0b (Z24 47 a0b (Z 54 a1b a1ij 0) 1) 3
    have r36 := w3_r (v4 - (min (Z24 47 a0b (Z 54 a1b a1ij 0) 19) v4))
    have r37 := w3_r ((Z33 45 a0b (Z24 47 a0b (Z 54 a1b a1ij 0) 1) 3) + (w3 (v4 - (min (Z24 47 a0b (Z 54 a1b a1ij 0) 19) v4))))
    obtain ⟨Z38, hZ38⟩ := zx (zu Z33 45 a0b (Z24 47 a0b (Z 54 a1b a1ij 0) 1) 3 (w3 ((Z33 45 a0b (Z24 47 a0b (Z 54 a1b a1ij 0) 1) 3) + (w3 (v4 - (min (Z24 47 a0b (Z 54 a1b a1ij 0) 19) v4))))))
    replace hP := zl_e hP hZ38
    have hZ38I := zH_u hZ33I hZ38 (lo := -2147483648) (hi := 2147483647) (by decide) rfl (by omega) ⟨by decide, by decide⟩ (Or.inl (by decide)) rfl
    have hZ38U : zU [a0b, a1b] Z Z38 := zU_u hZ33U hZ38 (Or.inr (List.Mem.head _))
    have r39 := zpt_0 (b := a1b) hZ38 (by decide)
    have hZ38K : zL [14, 42, 45, 47, 53, 54, 1112] [] n9 Z Z38 := zL_u hZ33K hZ38 (by decide)
    intro μ9 e9
    replace e9 := e9.trans (zm_wI (Z := Z33) (ν := ν15) hZ38 (rfl : ((a0b : Nat) : Int) = a0b) (i3I (y := (Z24 47 a0b (Z 54 a1b a1ij 0) 1)) (zm_rd (Z := Z24) (ν := ν15) (k := 47) (rfl : ((a0b : Nat) : Int) = a0b) (i3I (y := (Z 54 a1b a1ij 0)) (zm_rd (Z := Z) (ν := ν) (k := 54) (rfl : ((a1b : Nat) : Int) = a1b) ea1i (show ((0 : Nat) : Int) = 0 from rfl)) (by omega) (by omega) (by omega)) (show ((1 : Nat) : Int) = 1 from rfl)) (by omega) (by omega) (by omega)) (show ((3 : Nat) : Int) = 3 from rfl) (i3W (i3A (zm_rd (Z := Z33) (ν := ν15) (k := 45) (rfl : ((a0b : Nat) : Int) = a0b) (i3I (y := (Z24 47 a0b (Z 54 a1b a1ij 0) 1)) (zm_rd (Z := Z24) (ν := ν15) (k := 47) (rfl : ((a0b : Nat) : Int) = a0b) (i3I (y := (Z 54 a1b a1ij 0)) (zm_rd (Z := Z) (ν := ν) (k := 54) (rfl : ((a1b : Nat) : Int) = a1b) ea1i (show ((0 : Nat) : Int) = 0 from rfl)) (by omega) (by omega) (by omega)) (show ((1 : Nat) : Int) = 1 from rfl)) (by omega) (by omega) (by omega)) (show ((3 : Nat) : Int) = 3 from rfl)) (i3W (i3S (rfl : i3 v4 = i3 v4) (i3Mn (zm_rd (Z := Z24) (ν := ν15) (k := 47) (rfl : ((a0b : Nat) : Int) = a0b) (i3I (y := (Z 54 a1b a1ij 0)) (zm_rd (Z := Z) (ν := ν) (k := 54) (rfl : ((a1b : Nat) : Int) = a1b) ea1i (show ((0 : Nat) : Int) = 0 from rfl)) (by omega) (by omega) (by omega)) (show ((19 : Nat) : Int) = 19 from rfl)) (rfl : i3 v4 = i3 v4) (by omega) (by omega) (by omega) (by omega)))))))
    subst e9
    have r40 := zH_f hZ38I 45 a0b (Z24 47 a0b (Z 54 a1b a1ij 0) 1) 13
    have r41 := w3_r ((Z38 45 a0b (Z24 47 a0b (Z 54 a1b a1ij 0) 1) 13) + v4)
    obtain ⟨Z42, hZ42⟩ := zx (zu Z38 45 a0b (Z24 47 a0b (Z 54 a1b a1ij 0) 1) 13 (w3 ((Z38 45 a0b (Z24 47 a0b (Z 54 a1b a1ij 0) 1) 13) + v4)))
    replace hP := zl_e hP hZ42
    have hZ42I := zH_u hZ38I hZ42 (lo := -2147483648) (hi := 2147483647) (by decide) rfl (by omega) ⟨by decide, by decide⟩ (Or.inl (by decide)) rfl
    have hZ42U : zU [a0b, a1b] Z Z42 := zU_u hZ38U hZ42 (Or.inr (List.Mem.head _))
    have r43 := zpt_0 (b := a1b) hZ42 (by decide)
    have hZ42K : zL [14, 42, 45, 47, 53, 54, 1112] [] n9 Z Z42 := zL_u hZ38K hZ42 (by decide)
    intro μ9 e9
    replace e9 := e9.trans (zm_wI (Z := Z38) (ν := ν15) hZ42 (rfl : ((a0b : Nat) : Int) = a0b) (i3I (y := (Z24 47 a0b (Z 54 a1b a1ij 0) 1)) (zm_rd (Z := Z24) (ν := ν15) (k := 47) (rfl : ((a0b : Nat) : Int) = a0b) (i3I (y := (Z 54 a1b a1ij 0)) (zm_rd (Z := Z) (ν := ν) (k := 54) (rfl : ((a1b : Nat) : Int) = a1b) ea1i (show ((0 : Nat) : Int) = 0 from rfl)) (by omega) (by omega) (by omega)) (show ((1 : Nat) : Int) = 1 from rfl)) (by omega) (by omega) (by omega)) (show ((13 : Nat) : Int) = 13 from rfl) (i3W (i3A (zm_rd (Z := Z38) (ν := ν15) (k := 45) (rfl : ((a0b : Nat) : Int) = a0b) (i3I (y := (Z24 47 a0b (Z 54 a1b a1ij 0) 1)) (zm_rd (Z := Z24) (ν := ν15) (k := 47) (rfl : ((a0b : Nat) : Int) = a0b) (i3I (y := (Z 54 a1b a1ij 0)) (zm_rd (Z := Z) (ν := ν) (k := 54) (rfl : ((a1b : Nat) : Int) = a1b) ea1i (show ((0 : Nat) : Int) = 0 from rfl)) (by omega) (by omega) (by omega)) (show ((1 : Nat) : Int) = 1 from rfl)) (by omega) (by omega) (by omega)) (show ((13 : Nat) : Int) = 13 from rfl)) (rfl : i3 v4 = i3 v4))))
    subst e9
    have r44 := zH_k hZ42I 47 a0b (Z 54 a1b a1ij 0) 0 (lo := 0) (hi := 47) (by decide) rfl
    refine wz_i0 (i3O (n := 48) (zm_rd (Z := Z42) (ν := ν15) (k := 47) (rfl : ((a0b : Nat) : Int) = a0b) (i3I (y := (Z 54 a1b a1ij 0)) (zm_rd (Z := Z) (ν := ν) (k := 54) (rfl : ((a1b : Nat) : Int) = a1b) ea1i (show ((0 : Nat) : Int) = 0 from rfl)) (by omega) (by omega) (by omega)) (show ((0 : Nat) : Int) = 0 from rfl)) (by omega) (by omega) (by omega)) ?_
    have r45 := zH_k hZ42I 44 a0b (Z42 47 a0b (Z 54 a1b a1ij 0) 0) 0 (lo := 0) (hi := 5) (by decide) rfl
    refine wz_i0 (i3O (n := 6) (zm_rd (Z := Z42) (ν := ν15) (k := 44) (rfl : ((a0b : Nat) : Int) = a0b) (i3I (y := (Z42 47 a0b (Z 54 a1b a1ij 0) 0)) (zm_rd (Z := Z42) (ν := ν15) (k := 47) (rfl : ((a0b : Nat) : Int) = a0b) (i3I (y := (Z 54 a1b a1ij 0)) (zm_rd (Z := Z) (ν := ν) (k := 54) (rfl : ((a1b : Nat) : Int) = a1b) ea1i (show ((0 : Nat) : Int) = 0 from rfl)) (by omega) (by omega) (by omega)) (show ((0 : Nat) : Int) = 0 from rfl)) (by omega) (by omega) (by omega)) (show ((0 : Nat) : Int) = 0 from rfl)) (by omega) (by omega) (by omega)) ?_
    refine wz_i1 (Eq.trans (i3NE (rfl : i3 v4 = i3 v4) (show (0 : Int32) = i3 0 from rfl) (by omega) (by omega) (by omega) (by omega)) (decide_eq_true (by omega))) ?_
    have r46 := zH_f hZ42I 14 a0b 0 1
    have r47 := w3_r ((Z42 14 a0b 0 1) - v4)
    obtain ⟨Z48, hZ48⟩ := zx (zu Z42 14 a0b 0 1 (w3 ((Z42 14 a0b 0 1) - v4)))
    replace hP := zl_e hP hZ48
    have hZ48I := zH_u hZ42I hZ48 (lo := -2147483648) (hi := 2147483647) (by decide) rfl (by omega) ⟨by decide, by decide⟩ (Or.inl (by decide)) rfl
    have hZ48U : zU [a0b, a1b] Z Z48 := zU_u hZ42U hZ48 (Or.inr (List.Mem.head _))
    have r49 := zpt_0 (b := a1b) hZ48 (by decide)
    have hZ48K : zL [14, 42, 45, 47, 53, 54, 1112] [] n9 Z Z48 := zL_u hZ42K hZ48 (by decide)
    intro μ9 e9
    replace e9 := e9.trans (zm_wI (Z := Z42) (ν := ν15) hZ48 (rfl : ((a0b : Nat) : Int) = a0b) (show ((0 : Nat) : Int) = 0 from rfl) (show ((1 : Nat) : Int) = 1 from rfl) (i3W (i3S (zm_rd (Z := Z42) (ν := ν15) (k := 14) (rfl : ((a0b : Nat) : Int) = a0b) (show ((0 : Nat) : Int) = 0 from rfl) (show ((1 : Nat) : Int) = 1 from rfl)) (rfl : i3 v4 = i3 v4))))
    subst e9
    have r50 := zH_f hZ48I 14 a0b 0 8
    have r51 := w3_r ((Z48 14 a0b 0 8) + v4)
    obtain ⟨Z52, hZ52⟩ := zx (zu Z48 14 a0b 0 8 (w3 ((Z48 14 a0b 0 8) + v4)))
    replace hP := zl_e hP hZ52
    have hZ52I := zH_u hZ48I hZ52 (lo := -2147483648) (hi := 2147483647) (by decide) rfl (by omega) ⟨by decide, by decide⟩ (Or.inl (by decide)) rfl
    have hZ52U : zU [a0b, a1b] Z Z52 := zU_u hZ48U hZ52 (Or.inr (List.Mem.head _))
    have r53 := zpt_0 (b := a1b) hZ52 (by decide)
    have hZ52K : zL [14, 42, 45, 47, 53, 54, 1112] [] n9 Z Z52 := zL_u hZ48K hZ52 (by decide)
    intro μ9 e9
    replace e9 := e9.trans (zm_wI (Z := Z48) (ν := ν15) hZ52 (rfl : ((a0b : Nat) : Int) = a0b) (show ((0 : Nat) : Int) = 0 from rfl) (show ((8 : Nat) : Int) = 8 from rfl) (i3W (i3A (zm_rd (Z := Z48) (ν := ν15) (k := 14) (rfl : ((a0b : Nat) : Int) = a0b) (show ((0 : Nat) : Int) = 0 from rfl) (show ((8 : Nat) : Int) = 8 from rfl)) (rfl : i3 v4 = i3 v4))))
    subst e9
    have r54 := zH_c12 hZ52I a0b (zbh (c := 0) (k := 0) hM (Nat.le_of_ble_eq_true rfl))
    refine wz_i0 (i3O (n := 60) (i3R (zm_rd (Z := Z52) (ν := ν15) (k := 11) (rfl : ((a0b : Nat) : Int) = a0b) (show ((0 : Nat) : Int) = 0 from rfl) (show ((12 : Nat) : Int) = 12 from rfl)) (show (60 : Int32) = i3 60 from rfl) (by omega) (by omega) (by omega) (by omega)) (by omega) (by omega) (by omega)) ?_
    obtain ⟨Z55, hZ55⟩ := zx (zu Z52 53 a0b ((Z52 11 a0b 0 12) % 60) 0 1)
    replace hP := zl_e hP hZ55
    have hZ55I := zH_u hZ52I hZ55 (lo := -2147483648) (hi := 2147483647) (by decide) rfl (by omega) ⟨by decide, by decide⟩ (Or.inl (by decide)) rfl
    have hZ55U : zU [a0b, a1b] Z Z55 := zU_u hZ52U hZ55 (Or.inr (List.Mem.head _))
    have r56 := zpt_0 (b := a1b) hZ55 (by decide)
    have hZ55K : zL [14, 42, 45, 47, 53, 54, 1112] [] n9 Z Z55 := zL_u hZ52K hZ55 (by decide)
    intro μ9 e9
    replace e9 := e9.trans (zm_wI (Z := Z52) (ν := ν15) hZ55 (rfl : ((a0b : Nat) : Int) = a0b) (i3I (y := ((Z52 11 a0b 0 12) % 60)) (i3R (zm_rd (Z := Z52) (ν := ν15) (k := 11) (rfl : ((a0b : Nat) : Int) = a0b) (show ((0 : Nat) : Int) = 0 from rfl) (show ((12 : Nat) : Int) = 12 from rfl)) (show (60 : Int32) = i3 60 from rfl) (by omega) (by omega) (by omega) (by omega)) (by omega) (by omega) (by omega)) (show ((0 : Nat) : Int) = 0 from rfl) (show (1 : Int32) = i3 1 from rfl))
    subst e9
    obtain ⟨Z57, hZ57⟩ := zx (zu Z55 53 a0b ((Z52 11 a0b 0 12) % 60) 1 8)
    replace hP := zl_e hP hZ57
    have hZ57I := zH_u hZ55I hZ57 (lo := -2147483648) (hi := 2147483647) (by decide) rfl (by omega) ⟨by decide, by decide⟩ (Or.inl (by decide)) rfl
    have hZ57U : zU [a0b, a1b] Z Z57 := zU_u hZ55U hZ57 (Or.inr (List.Mem.head _))
    have r58 := zpt_0 (b := a1b) hZ57 (by decide)
    have hZ57K : zL [14, 42, 45, 47, 53, 54, 1112] [] n9 Z Z57 := zL_u hZ55K hZ57 (by decide)
    intro μ9 e9
    replace e9 := e9.trans (zm_wI (Z := Z55) (ν := ν15) hZ57 (rfl : ((a0b : Nat) : Int) = a0b) (i3I (y := ((Z52 11 a0b 0 12) % 60)) (i3R (zm_rd (Z := Z52) (ν := ν15) (k := 11) (rfl : ((a0b : Nat) : Int) = a0b) (show ((0 : Nat) : Int) = 0 from rfl) (show ((12 : Nat) : Int) = 12 from rfl)) (show (60 : Int32) = i3 60 from rfl) (by omega) (by omega) (by omega) (by omega)) (by omega) (by omega) (by omega)) (show ((1 : Nat) : Int) = 1 from rfl) (show (8 : Int32) = i3 8 from rfl))
    subst e9
    obtain ⟨Z59, hZ59⟩ := zx (zu Z57 53 a0b ((Z52 11 a0b 0 12) % 60) 2 v4)
    replace hP := zl_e hP hZ59
    have hZ59I := zH_u hZ57I hZ59 (lo := -2147483648) (hi := 2147483647) (by decide) rfl (by omega) ⟨by decide, by decide⟩ (Or.inl (by decide)) rfl
    have hZ59U : zU [a0b, a1b] Z Z59 := zU_u hZ57U hZ59 (Or.inr (List.Mem.head _))
    have r60 := zpt_0 (b := a1b) hZ59 (by decide)
    have hZ59K : zL [14, 42, 45, 47, 53, 54, 1112] [] n9 Z Z59 := zL_u hZ57K hZ59 (by decide)
    intro μ9 e9
    replace e9 := e9.trans (zm_wI (Z := Z57) (ν := ν15) hZ59 (rfl : ((a0b : Nat) : Int) = a0b) (i3I (y := ((Z52 11 a0b 0 12) % 60)) (i3R (zm_rd (Z := Z52) (ν := ν15) (k := 11) (rfl : ((a0b : Nat) : Int) = a0b) (show ((0 : Nat) : Int) = 0 from rfl) (show ((12 : Nat) : Int) = 12 from rfl)) (show (60 : Int32) = i3 60 from rfl) (by omega) (by omega) (by omega) (by omega)) (by omega) (by omega) (by omega)) (show ((2 : Nat) : Int) = 2 from rfl) (rfl : i3 v4 = i3 v4))
    subst e9
    obtain ⟨Z61, hZ61⟩ := zx (zu Z59 53 a0b ((Z52 11 a0b 0 12) % 60) 3 (Z42 47 a0b (Z 54 a1b a1ij 0) 0))
    replace hP := zl_e hP hZ61
    have hZ61I := zH_u hZ59I hZ61 (lo := -2147483648) (hi := 2147483647) (by decide) rfl (by omega) ⟨by decide, by decide⟩ (Or.inl (by decide)) rfl
    have hZ61U : zU [a0b, a1b] Z Z61 := zU_u hZ59U hZ61 (Or.inr (List.Mem.head _))
    have r62 := zpt_0 (b := a1b) hZ61 (by decide)
    have hZ61K : zL [14, 42, 45, 47, 53, 54, 1112] [] n9 Z Z61 := zL_u hZ59K hZ61 (by decide)
    intro μ9 e9
    replace e9 := e9.trans (zm_wI (Z := Z59) (ν := ν15) hZ61 (rfl : ((a0b : Nat) : Int) = a0b) (i3I (y := ((Z52 11 a0b 0 12) % 60)) (i3R (zm_rd (Z := Z52) (ν := ν15) (k := 11) (rfl : ((a0b : Nat) : Int) = a0b) (show ((0 : Nat) : Int) = 0 from rfl) (show ((12 : Nat) : Int) = 12 from rfl)) (show (60 : Int32) = i3 60 from rfl) (by omega) (by omega) (by omega) (by omega)) (by omega) (by omega) (by omega)) (show ((3 : Nat) : Int) = 3 from rfl) (zm_rd (Z := Z42) (ν := ν15) (k := 47) (rfl : ((a0b : Nat) : Int) = a0b) (i3I (y := (Z 54 a1b a1ij 0)) (zm_rd (Z := Z) (ν := ν) (k := 54) (rfl : ((a1b : Nat) : Int) = a1b) ea1i (show ((0 : Nat) : Int) = 0 from rfl)) (by omega) (by omega) (by omega)) (show ((0 : Nat) : Int) = 0 from rfl)))
    subst e9
    have r63 := zH_k hZ61I 11 a0b 0 13 (lo := 0) (hi := 671) (by decide) rfl
    obtain ⟨Z64, hZ64⟩ := zx (zu Z61 53 a0b ((Z52 11 a0b 0 12) % 60) 4 (Z61 11 a0b 0 13))
    replace hP := zl_e hP hZ64
    have hZ64I := zH_u hZ61I hZ64 (lo := -2147483648) (hi := 2147483647) (by decide) rfl (by omega) ⟨by decide, by decide⟩ (Or.inl (by decide)) rfl
    have hZ64U : zU [a0b, a1b] Z Z64 := zU_u hZ61U hZ64 (Or.inr (List.Mem.head _))
    have r65 := zpt_0 (b := a1b) hZ64 (by decide)
    have hZ64K : zL [14, 42, 45, 47, 53, 54, 1112] [] n9 Z Z64 := zL_u hZ61K hZ64 (by decide)
    intro μ9 e9
    replace e9 := e9.trans (zm_wI (Z := Z61) (ν := ν15) hZ64 (rfl : ((a0b : Nat) : Int) = a0b) (i3I (y := ((Z52 11 a0b 0 12) % 60)) (i3R (zm_rd (Z := Z52) (ν := ν15) (k := 11) (rfl : ((a0b : Nat) : Int) = a0b) (show ((0 : Nat) : Int) = 0 from rfl) (show ((12 : Nat) : Int) = 12 from rfl)) (show (60 : Int32) = i3 60 from rfl) (by omega) (by omega) (by omega) (by omega)) (by omega) (by omega) (by omega)) (show ((4 : Nat) : Int) = 4 from rfl) (zm_rd (Z := Z61) (ν := ν15) (k := 11) (rfl : ((a0b : Nat) : Int) = a0b) (show ((0 : Nat) : Int) = 0 from rfl) (show ((13 : Nat) : Int) = 13 from rfl)))
    subst e9
    have r66 := zH_c12 hZ64I a0b (zbh (c := 0) (k := 0) hM (Nat.le_of_ble_eq_true rfl))
    have q67 := (zu_ne (k' := 11) (b' := a0b) (i' := 0) (j' := 12) hZ64 (fun q => absurd q.1 (by decide))).trans ((zu_ne (k' := 11) (b' := a0b) (i' := 0) (j' := 12) hZ61 (fun q => absurd q.1 (by decide))).trans ((zu_ne (k' := 11) (b' := a0b) (i' := 0) (j' := 12) hZ59 (fun q => absurd q.1 (by decide))).trans ((zu_ne (k' := 11) (b' := a0b) (i' := 0) (j' := 12) hZ57 (fun q => absurd q.1 (by decide))).trans (zu_ne (k' := 11) (b' := a0b) (i' := 0) (j' := 12) hZ55 (fun q => absurd q.1 (by decide))))))
    obtain ⟨Z68, hZ68⟩ := zx (zu Z64 11 a0b 0 12 ((Z64 11 a0b 0 12) + 1))
    replace hP := zl_e hP hZ68
    have hZ68I := zH_i12 hZ64I hZ68 (zbh (c := 0) (k := 1) hM (Nat.le_of_ble_eq_true rfl)) (by omega)
    have hZ68U : zU [a0b, a1b] Z Z68 := zU_u hZ64U hZ68 (Or.inr (List.Mem.head _))
    have r69 := zpt_0 (b := a1b) hZ68 (by decide)
    have hZ68K : zL [14, 42, 45, 47, 53, 54, 1112] [] n9 Z Z68 := zL_u hZ64K hZ68 (by decide)
    intro μ9 e9
    replace e9 := e9.trans (zm_wI (Z := Z64) (ν := ν15) hZ68 (rfl : ((a0b : Nat) : Int) = a0b) (show ((0 : Nat) : Int) = 0 from rfl) (show ((12 : Nat) : Int) = 12 from rfl) (i3A (zm_rd (Z := Z64) (ν := ν15) (k := 11) (rfl : ((a0b : Nat) : Int) = a0b) (show ((0 : Nat) : Int) = 0 from rfl) (show ((12 : Nat) : Int) = 12 from rfl)) (show (1 : Int32) = i3 1 from rfl)))
    subst e9
    refine wz_i1 (by rw [zSh_t (zSh_Gl hSν7 gν15)]; rfl) ?_
    refine wz_i0 (by rw [zSh_l (zSh_Gl hSν7 gν15)]; exact i3O (n := 3) (show (0 : Int32) = i3 0 from rfl) (by omega) (by omega) (by omega)) ?_
    have r70 := zH_f hZ68I 200 n9 0 0
    refine wz_br (i3NE (zm_rd (Z := Z68) (ν := ν15) (k := 200) (rfl : ((n9 : Nat) : Int) = n9) (show ((0 : Nat) : Int) = 0 from rfl) (show ((0 : Nat) : Int) = 0 from rfl)) (show (0 : Int32) = i3 0 from rfl) (by omega) (by omega) (by omega) (by omega)) (fun h71 => ?_) (fun h71 => ?_)
    · replace hP := zE_p hP h71
      have r72 := zH_f hZ68I 14 a0b 0 8
      have q73 := (zu_ne (k' := 14) (b' := a0b) (i' := 0) (j' := 8) hZ68 (fun q => absurd q.1 (by decide))).trans ((zu_ne (k' := 14) (b' := a0b) (i' := 0) (j' := 8) hZ64 (fun q => absurd q.1 (by decide))).trans ((zu_ne (k' := 14) (b' := a0b) (i' := 0) (j' := 8) hZ61 (fun q => absurd q.1 (by decide))).trans ((zu_ne (k' := 14) (b' := a0b) (i' := 0) (j' := 8) hZ59 (fun q => absurd q.1 (by decide))).trans ((zu_ne (k' := 14) (b' := a0b) (i' := 0) (j' := 8) hZ57 (fun q => absurd q.1 (by decide))).trans ((zu_ne (k' := 14) (b' := a0b) (i' := 0) (j' := 8) hZ55 (fun q => absurd q.1 (by decide))).trans (zu_at hZ52))))))
      have r74 := w3_r ((Z68 14 a0b 0 8) - (Z68 200 n9 0 0))
      obtain ⟨Z75, hZ75⟩ := zx (zu Z68 14 a0b 0 8 (w3 ((Z68 14 a0b 0 8) - (Z68 200 n9 0 0))))
      replace hP := zl_e hP hZ75
      have hZ75I := zH_u hZ68I hZ75 (lo := -2147483648) (hi := 2147483647) (by decide) rfl (by omega) ⟨by decide, by decide⟩ (Or.inl (by decide)) rfl
      have hZ75U : zU [a0b, a1b] Z Z75 := zU_u hZ68U hZ75 (Or.inr (List.Mem.head _))
      have r76 := zpt_0 (b := a1b) hZ75 (by decide)
      have hZ75K : zL [14, 42, 45, 47, 53, 54, 1112] [] n9 Z Z75 := zL_u hZ68K hZ75 (by decide)
      intro μ9 e9
      replace e9 := e9.trans (zm_wI (Z := Z68) (ν := ν15) hZ75 (rfl : ((a0b : Nat) : Int) = a0b) (show ((0 : Nat) : Int) = 0 from rfl) (show ((8 : Nat) : Int) = 8 from rfl) (i3W (i3S (zm_rd (Z := Z68) (ν := ν15) (k := 14) (rfl : ((a0b : Nat) : Int) = a0b) (show ((0 : Nat) : Int) = 0 from rfl) (show ((8 : Nat) : Int) = 8 from rfl)) (zm_rd (Z := Z68) (ν := ν15) (k := 200) (rfl : ((n9 : Nat) : Int) = n9) (show ((0 : Nat) : Int) = 0 from rfl) (show ((0 : Nat) : Int) = 0 from rfl)))))
      subst e9
      have r77 := zH_f hZ75I 14 a0b 0 2
      have r78 := w3_r ((Z75 14 a0b 0 2) + (Z68 200 n9 0 0))
      obtain ⟨Z79, hZ79⟩ := zx (zu Z75 14 a0b 0 2 (w3 ((Z75 14 a0b 0 2) + (Z68 200 n9 0 0))))
      replace hP := zl_e hP hZ79
      have hZ79I := zH_u hZ75I hZ79 (lo := -2147483648) (hi := 2147483647) (by decide) rfl (by omega) ⟨by decide, by decide⟩ (Or.inl (by decide)) rfl
      have hZ79U : zU [a0b, a1b] Z Z79 := zU_u hZ75U hZ79 (Or.inr (List.Mem.head _))
      have r80 := zpt_0 (b := a1b) hZ79 (by decide)
      have hZ79K : zL [14, 42, 45, 47, 53, 54, 1112] [] n9 Z Z79 := zL_u hZ75K hZ79 (by decide)
      intro μ9 e9
      replace e9 := e9.trans (zm_wI (Z := Z75) (ν := ν15) hZ79 (rfl : ((a0b : Nat) : Int) = a0b) (show ((0 : Nat) : Int) = 0 from rfl) (show ((2 : Nat) : Int) = 2 from rfl) (i3W (i3A (zm_rd (Z := Z75) (ν := ν15) (k := 14) (rfl : ((a0b : Nat) : Int) = a0b) (show ((0 : Nat) : Int) = 0 from rfl) (show ((2 : Nat) : Int) = 2 from rfl)) (zm_rd (Z := Z68) (ν := ν15) (k := 200) (rfl : ((n9 : Nat) : Int) = n9) (show ((0 : Nat) : Int) = 0 from rfl) (show ((0 : Nat) : Int) = 0 from rfl)))))
      subst e9
      have r81 := zH_c12 hZ79I a0b (zbh (c := 1) (k := 0) hM (Nat.le_of_ble_eq_true rfl))
      have q82 := (zu_ne (k' := 11) (b' := a0b) (i' := 0) (j' := 12) hZ79 (fun q => absurd q.1 (by decide))).trans ((zu_ne (k' := 11) (b' := a0b) (i' := 0) (j' := 12) hZ75 (fun q => absurd q.1 (by decide))).trans (zu_at hZ68))
      refine wz_i0 (i3O (n := 60) (i3R (zm_rd (Z := Z79) (ν := ν15) (k := 11) (rfl : ((a0b : Nat) : Int) = a0b) (show ((0 : Nat) : Int) = 0 from rfl) (show ((12 : Nat) : Int) = 12 from rfl)) (show (60 : Int32) = i3 60 from rfl) (by omega) (by omega) (by omega) (by omega)) (by omega) (by omega) (by omega)) ?_
      obtain ⟨Z83, hZ83⟩ := zx (zu Z79 53 a0b ((Z79 11 a0b 0 12) % 60) 0 8)
      replace hP := zl_e hP hZ83
      have hZ83I := zH_u hZ79I hZ83 (lo := -2147483648) (hi := 2147483647) (by decide) rfl (by omega) ⟨by decide, by decide⟩ (Or.inl (by decide)) rfl
      have hZ83U : zU [a0b, a1b] Z Z83 := zU_u hZ79U hZ83 (Or.inr (List.Mem.head _))
      have r84 := zpt_0 (b := a1b) hZ83 (by decide)
      have hZ83K : zL [14, 42, 45, 47, 53, 54, 1112] [] n9 Z Z83 := zL_u hZ79K hZ83 (by decide)
      intro μ9 e9
      replace e9 := e9.trans (zm_wI (Z := Z79) (ν := ν15) hZ83 (rfl : ((a0b : Nat) : Int) = a0b) (i3I (y := ((Z79 11 a0b 0 12) % 60)) (i3R (zm_rd (Z := Z79) (ν := ν15) (k := 11) (rfl : ((a0b : Nat) : Int) = a0b) (show ((0 : Nat) : Int) = 0 from rfl) (show ((12 : Nat) : Int) = 12 from rfl)) (show (60 : Int32) = i3 60 from rfl) (by omega) (by omega) (by omega) (by omega)) (by omega) (by omega) (by omega)) (show ((0 : Nat) : Int) = 0 from rfl) (show (8 : Int32) = i3 8 from rfl))
      subst e9
      obtain ⟨Z85, hZ85⟩ := zx (zu Z83 53 a0b ((Z79 11 a0b 0 12) % 60) 1 2)
      replace hP := zl_e hP hZ85
      have hZ85I := zH_u hZ83I hZ85 (lo := -2147483648) (hi := 2147483647) (by decide) rfl (by omega) ⟨by decide, by decide⟩ (Or.inl (by decide)) rfl
      have hZ85U : zU [a0b, a1b] Z Z85 := zU_u hZ83U hZ85 (Or.inr (List.Mem.head _))
      have r86 := zpt_0 (b := a1b) hZ85 (by decide)
      have hZ85K : zL [14, 42, 45, 47, 53, 54, 1112] [] n9 Z Z85 := zL_u hZ83K hZ85 (by decide)
      intro μ9 e9
      replace e9 := e9.trans (zm_wI (Z := Z83) (ν := ν15) hZ85 (rfl : ((a0b : Nat) : Int) = a0b) (i3I (y := ((Z79 11 a0b 0 12) % 60)) (i3R (zm_rd (Z := Z79) (ν := ν15) (k := 11) (rfl : ((a0b : Nat) : Int) = a0b) (show ((0 : Nat) : Int) = 0 from rfl) (show ((12 : Nat) : Int) = 12 from rfl)) (show (60 : Int32) = i3 60 from rfl) (by omega) (by omega) (by omega) (by omega)) (by omega) (by omega) (by omega)) (show ((1 : Nat) : Int) = 1 from rfl) (show (2 : Int32) = i3 2 from rfl))
      subst e9
      obtain ⟨Z87, hZ87⟩ := zx (zu Z85 53 a0b ((Z79 11 a0b 0 12) % 60) 2 (Z68 200 n9 0 0))
      replace hP := zl_e hP hZ87
      have hZ87I := zH_u hZ85I hZ87 (lo := -2147483648) (hi := 2147483647) (by decide) rfl (by omega) ⟨by decide, by decide⟩ (Or.inl (by decide)) rfl
      have hZ87U : zU [a0b, a1b] Z Z87 := zU_u hZ85U hZ87 (Or.inr (List.Mem.head _))
      have r88 := zpt_0 (b := a1b) hZ87 (by decide)
      have hZ87K : zL [14, 42, 45, 47, 53, 54, 1112] [] n9 Z Z87 := zL_u hZ85K hZ87 (by decide)
      intro μ9 e9
      replace e9 := e9.trans (zm_wI (Z := Z85) (ν := ν15) hZ87 (rfl : ((a0b : Nat) : Int) = a0b) (i3I (y := ((Z79 11 a0b 0 12) % 60)) (i3R (zm_rd (Z := Z79) (ν := ν15) (k := 11) (rfl : ((a0b : Nat) : Int) = a0b) (show ((0 : Nat) : Int) = 0 from rfl) (show ((12 : Nat) : Int) = 12 from rfl)) (show (60 : Int32) = i3 60 from rfl) (by omega) (by omega) (by omega) (by omega)) (by omega) (by omega) (by omega)) (show ((2 : Nat) : Int) = 2 from rfl) (zm_rd (Z := Z68) (ν := ν15) (k := 200) (rfl : ((n9 : Nat) : Int) = n9) (show ((0 : Nat) : Int) = 0 from rfl) (show ((0 : Nat) : Int) = 0 from rfl)))
      subst e9
      obtain ⟨Z89, hZ89⟩ := zx (zu Z87 53 a0b ((Z79 11 a0b 0 12) % 60) 3 (Z42 47 a0b (Z 54 a1b a1ij 0) 0))
      replace hP := zl_e hP hZ89
      have hZ89I := zH_u hZ87I hZ89 (lo := -2147483648) (hi := 2147483647) (by decide) rfl (by omega) ⟨by decide, by decide⟩ (Or.inl (by decide)) rfl
      have hZ89U : zU [a0b, a1b] Z Z89 := zU_u hZ87U hZ89 (Or.inr (List.Mem.head _))
      have r90 := zpt_0 (b := a1b) hZ89 (by decide)
      have hZ89K : zL [14, 42, 45, 47, 53, 54, 1112] [] n9 Z Z89 := zL_u hZ87K hZ89 (by decide)
      intro μ9 e9
      replace e9 := e9.trans (zm_wI (Z := Z87) (ν := ν15) hZ89 (rfl : ((a0b : Nat) : Int) = a0b) (i3I (y := ((Z79 11 a0b 0 12) % 60)) (i3R (zm_rd (Z := Z79) (ν := ν15) (k := 11) (rfl : ((a0b : Nat) : Int) = a0b) (show ((0 : Nat) : Int) = 0 from rfl) (show ((12 : Nat) : Int) = 12 from rfl)) (show (60 : Int32) = i3 60 from rfl) (by omega) (by omega) (by omega) (by omega)) (by omega) (by omega) (by omega)) (show ((3 : Nat) : Int) = 3 from rfl) (zm_rd (Z := Z42) (ν := ν15) (k := 47) (rfl : ((a0b : Nat) : Int) = a0b) (i3I (y := (Z 54 a1b a1ij 0)) (zm_rd (Z := Z) (ν := ν) (k := 54) (rfl : ((a1b : Nat) : Int) = a1b) ea1i (show ((0 : Nat) : Int) = 0 from rfl)) (by omega) (by omega) (by omega)) (show ((0 : Nat) : Int) = 0 from rfl)))
      subst e9
      have r91 := zH_k hZ89I 11 a0b 0 13 (lo := 0) (hi := 671) (by decide) rfl
      have q92 := (zu_ne (k' := 11) (b' := a0b) (i' := 0) (j' := 13) hZ89 (fun q => absurd q.1 (by decide))).trans ((zu_ne (k' := 11) (b' := a0b) (i' := 0) (j' := 13) hZ87 (fun q => absurd q.1 (by decide))).trans ((zu_ne (k' := 11) (b' := a0b) (i' := 0) (j' := 13) hZ85 (fun q => absurd q.1 (by decide))).trans ((zu_ne (k' := 11) (b' := a0b) (i' := 0) (j' := 13) hZ83 (fun q => absurd q.1 (by decide))).trans ((zu_ne (k' := 11) (b' := a0b) (i' := 0) (j' := 13) hZ79 (fun q => absurd q.1 (by decide))).trans ((zu_ne (k' := 11) (b' := a0b) (i' := 0) (j' := 13) hZ75 (fun q => absurd q.1 (by decide))).trans ((zu_ne (k' := 11) (b' := a0b) (i' := 0) (j' := 13) hZ68 (fun q => absurd q.2.2.2 (by decide))).trans (zu_ne (k' := 11) (b' := a0b) (i' := 0) (j' := 13) hZ64 (fun q => absurd q.1 (by decide)))))))))
      obtain ⟨Z93, hZ93⟩ := zx (zu Z89 53 a0b ((Z79 11 a0b 0 12) % 60) 4 (Z89 11 a0b 0 13))
      replace hP := zl_e hP hZ93
      have hZ93I := zH_u hZ89I hZ93 (lo := -2147483648) (hi := 2147483647) (by decide) rfl (by omega) ⟨by decide, by decide⟩ (Or.inl (by decide)) rfl
      have hZ93U : zU [a0b, a1b] Z Z93 := zU_u hZ89U hZ93 (Or.inr (List.Mem.head _))
      have r94 := zpt_0 (b := a1b) hZ93 (by decide)
      have hZ93K : zL [14, 42, 45, 47, 53, 54, 1112] [] n9 Z Z93 := zL_u hZ89K hZ93 (by decide)
      intro μ9 e9
      replace e9 := e9.trans (zm_wI (Z := Z89) (ν := ν15) hZ93 (rfl : ((a0b : Nat) : Int) = a0b) (i3I (y := ((Z79 11 a0b 0 12) % 60)) (i3R (zm_rd (Z := Z79) (ν := ν15) (k := 11) (rfl : ((a0b : Nat) : Int) = a0b) (show ((0 : Nat) : Int) = 0 from rfl) (show ((12 : Nat) : Int) = 12 from rfl)) (show (60 : Int32) = i3 60 from rfl) (by omega) (by omega) (by omega) (by omega)) (by omega) (by omega) (by omega)) (show ((4 : Nat) : Int) = 4 from rfl) (zm_rd (Z := Z89) (ν := ν15) (k := 11) (rfl : ((a0b : Nat) : Int) = a0b) (show ((0 : Nat) : Int) = 0 from rfl) (show ((13 : Nat) : Int) = 13 from rfl)))
      subst e9
      have r95 := zH_c12 hZ93I a0b (zbh (c := 1) (k := 0) hM (Nat.le_of_ble_eq_true rfl))
      have q96 := (zu_ne (k' := 11) (b' := a0b) (i' := 0) (j' := 12) hZ93 (fun q => absurd q.1 (by decide))).trans ((zu_ne (k' := 11) (b' := a0b) (i' := 0) (j' := 12) hZ89 (fun q => absurd q.1 (by decide))).trans ((zu_ne (k' := 11) (b' := a0b) (i' := 0) (j' := 12) hZ87 (fun q => absurd q.1 (by decide))).trans ((zu_ne (k' := 11) (b' := a0b) (i' := 0) (j' := 12) hZ85 (fun q => absurd q.1 (by decide))).trans (zu_ne (k' := 11) (b' := a0b) (i' := 0) (j' := 12) hZ83 (fun q => absurd q.1 (by decide))))))
      obtain ⟨Z97, hZ97⟩ := zx (zu Z93 11 a0b 0 12 ((Z93 11 a0b 0 12) + 1))
      replace hP := zl_e hP hZ97
      have hZ97I := zH_i12 hZ93I hZ97 (zbh (c := 1) (k := 1) hM (Nat.le_of_ble_eq_true rfl)) (by omega)
      replace hZ97I := zbt (c := 2) hZ97I rfl
      have hZ97U : zU [a0b, a1b] Z Z97 := zU_u hZ93U hZ97 (Or.inr (List.Mem.head _))
      have r98 := zpt_0 (b := a1b) hZ97 (by decide)
      have hZ97K : zL [14, 42, 45, 47, 53, 54, 1112] [] n9 Z Z97 := zL_u hZ93K hZ97 (by decide)
      intro μ9 e9
      replace e9 := e9.trans (zm_wI (Z := Z93) (ν := ν15) hZ97 (rfl : ((a0b : Nat) : Int) = a0b) (show ((0 : Nat) : Int) = 0 from rfl) (show ((12 : Nat) : Int) = 12 from rfl) (i3A (zm_rd (Z := Z93) (ν := ν15) (k := 11) (rfl : ((a0b : Nat) : Int) = a0b) (show ((0 : Nat) : Int) = 0 from rfl) (show ((12 : Nat) : Int) = 12 from rfl)) (show (1 : Int32) = i3 1 from rfl)))
      subst e9
      refine wz_i1 (by rw [zSh_t (zSh_Gl hSν7 gν15)]; rfl) ?_
      refine wz_i0 (by rw [zSh_l (zSh_Gl hSν7 gν15)]; exact i3O (n := 3) (show (2 : Int32) = i3 2 from rfl) (by omega) (by omega) (by omega)) ?_
      have r99 := zH_f hZ97I 200 n9 0 2
      refine wz_br (i3NE (zm_rd (Z := Z97) (ν := ν15) (k := 200) (rfl : ((n9 : Nat) : Int) = n9) (show ((0 : Nat) : Int) = 0 from rfl) (show ((2 : Nat) : Int) = 2 from rfl)) (show (0 : Int32) = i3 0 from rfl) (by omega) (by omega) (by omega) (by omega)) (fun h100 => ?_) (fun h100 => ?_)
      · replace hP := zE_p hP h100
        have r101 := zH_f hZ97I 14 a0b 0 8
        have q102 := (zu_ne (k' := 14) (b' := a0b) (i' := 0) (j' := 8) hZ97 (fun q => absurd q.1 (by decide))).trans ((zu_ne (k' := 14) (b' := a0b) (i' := 0) (j' := 8) hZ93 (fun q => absurd q.1 (by decide))).trans ((zu_ne (k' := 14) (b' := a0b) (i' := 0) (j' := 8) hZ89 (fun q => absurd q.1 (by decide))).trans ((zu_ne (k' := 14) (b' := a0b) (i' := 0) (j' := 8) hZ87 (fun q => absurd q.1 (by decide))).trans ((zu_ne (k' := 14) (b' := a0b) (i' := 0) (j' := 8) hZ85 (fun q => absurd q.1 (by decide))).trans ((zu_ne (k' := 14) (b' := a0b) (i' := 0) (j' := 8) hZ83 (fun q => absurd q.1 (by decide))).trans ((zu_ne (k' := 14) (b' := a0b) (i' := 0) (j' := 8) hZ79 (fun q => absurd q.2.2.2 (by decide))).trans (zu_at hZ75)))))))
        have r103 := w3_r ((Z97 14 a0b 0 8) - (Z97 200 n9 0 2))
        obtain ⟨Z104, hZ104⟩ := zx (zu Z97 14 a0b 0 8 (w3 ((Z97 14 a0b 0 8) - (Z97 200 n9 0 2))))
        replace hP := zl_e hP hZ104
        have hZ104I := zH_u hZ97I hZ104 (lo := -2147483648) (hi := 2147483647) (by decide) rfl (by omega) ⟨by decide, by decide⟩ (Or.inl (by decide)) rfl
        have hZ104U : zU [a0b, a1b] Z Z104 := zU_u hZ97U hZ104 (Or.inr (List.Mem.head _))
        have r105 := zpt_0 (b := a1b) hZ104 (by decide)
        have hZ104K : zL [14, 42, 45, 47, 53, 54, 1112] [] n9 Z Z104 := zL_u hZ97K hZ104 (by decide)
        intro μ9 e9
        replace e9 := e9.trans (zm_wI (Z := Z97) (ν := ν15) hZ104 (rfl : ((a0b : Nat) : Int) = a0b) (show ((0 : Nat) : Int) = 0 from rfl) (show ((8 : Nat) : Int) = 8 from rfl) (i3W (i3S (zm_rd (Z := Z97) (ν := ν15) (k := 14) (rfl : ((a0b : Nat) : Int) = a0b) (show ((0 : Nat) : Int) = 0 from rfl) (show ((8 : Nat) : Int) = 8 from rfl)) (zm_rd (Z := Z97) (ν := ν15) (k := 200) (rfl : ((n9 : Nat) : Int) = n9) (show ((0 : Nat) : Int) = 0 from rfl) (show ((2 : Nat) : Int) = 2 from rfl)))))
        subst e9
        have r106 := zH_f hZ104I 14 a0b 0 0
        have r107 := w3_r ((Z104 14 a0b 0 0) + (Z97 200 n9 0 2))
        obtain ⟨Z108, hZ108⟩ := zx (zu Z104 14 a0b 0 0 (w3 ((Z104 14 a0b 0 0) + (Z97 200 n9 0 2))))
        replace hP := zl_e hP hZ108
        have hZ108I := zH_u hZ104I hZ108 (lo := -2147483648) (hi := 2147483647) (by decide) rfl (by omega) ⟨by decide, by decide⟩ (Or.inl (by decide)) rfl
        have hZ108U : zU [a0b, a1b] Z Z108 := zU_u hZ104U hZ108 (Or.inr (List.Mem.head _))
        have r109 := zpt_0 (b := a1b) hZ108 (by decide)
        have hZ108K : zL [14, 42, 45, 47, 53, 54, 1112] [] n9 Z Z108 := zL_u hZ104K hZ108 (by decide)
        intro μ9 e9
        replace e9 := e9.trans (zm_wI (Z := Z104) (ν := ν15) hZ108 (rfl : ((a0b : Nat) : Int) = a0b) (show ((0 : Nat) : Int) = 0 from rfl) (show ((0 : Nat) : Int) = 0 from rfl) (i3W (i3A (zm_rd (Z := Z104) (ν := ν15) (k := 14) (rfl : ((a0b : Nat) : Int) = a0b) (show ((0 : Nat) : Int) = 0 from rfl) (show ((0 : Nat) : Int) = 0 from rfl)) (zm_rd (Z := Z97) (ν := ν15) (k := 200) (rfl : ((n9 : Nat) : Int) = n9) (show ((0 : Nat) : Int) = 0 from rfl) (show ((2 : Nat) : Int) = 2 from rfl)))))
        subst e9
        have r110 := zH_c12 hZ108I a0b (zbh (c := 2) (k := 0) hM (Nat.le_of_ble_eq_true rfl))
        have q111 := (zu_ne (k' := 11) (b' := a0b) (i' := 0) (j' := 12) hZ108 (fun q => absurd q.1 (by decide))).trans ((zu_ne (k' := 11) (b' := a0b) (i' := 0) (j' := 12) hZ104 (fun q => absurd q.1 (by decide))).trans (zu_at hZ97))
        refine wz_i0 (i3O (n := 60) (i3R (zm_rd (Z := Z108) (ν := ν15) (k := 11) (rfl : ((a0b : Nat) : Int) = a0b) (show ((0 : Nat) : Int) = 0 from rfl) (show ((12 : Nat) : Int) = 12 from rfl)) (show (60 : Int32) = i3 60 from rfl) (by omega) (by omega) (by omega) (by omega)) (by omega) (by omega) (by omega)) ?_
        obtain ⟨Z112, hZ112⟩ := zx (zu Z108 53 a0b ((Z108 11 a0b 0 12) % 60) 0 8)
        replace hP := zl_e hP hZ112
        have hZ112I := zH_u hZ108I hZ112 (lo := -2147483648) (hi := 2147483647) (by decide) rfl (by omega) ⟨by decide, by decide⟩ (Or.inl (by decide)) rfl
        have hZ112U : zU [a0b, a1b] Z Z112 := zU_u hZ108U hZ112 (Or.inr (List.Mem.head _))
        have r113 := zpt_0 (b := a1b) hZ112 (by decide)
        have hZ112K : zL [14, 42, 45, 47, 53, 54, 1112] [] n9 Z Z112 := zL_u hZ108K hZ112 (by decide)
        intro μ9 e9
        replace e9 := e9.trans (zm_wI (Z := Z108) (ν := ν15) hZ112 (rfl : ((a0b : Nat) : Int) = a0b) (i3I (y := ((Z108 11 a0b 0 12) % 60)) (i3R (zm_rd (Z := Z108) (ν := ν15) (k := 11) (rfl : ((a0b : Nat) : Int) = a0b) (show ((0 : Nat) : Int) = 0 from rfl) (show ((12 : Nat) : Int) = 12 from rfl)) (show (60 : Int32) = i3 60 from rfl) (by omega) (by omega) (by omega) (by omega)) (by omega) (by omega) (by omega)) (show ((0 : Nat) : Int) = 0 from rfl) (show (8 : Int32) = i3 8 from rfl))
        subst e9
        obtain ⟨Z114, hZ114⟩ := zx (zu Z112 53 a0b ((Z108 11 a0b 0 12) % 60) 1 0)
        replace hP := zl_e hP hZ114
        have hZ114I := zH_0 hZ112I hZ114 (by decide) (Or.inl (by decide))
        have hZ114U : zU [a0b, a1b] Z Z114 := zU_u hZ112U hZ114 (Or.inr (List.Mem.head _))
        have r115 := zpt_0 (b := a1b) hZ114 (by decide)
        have hZ114K : zL [14, 42, 45, 47, 53, 54, 1112] [] n9 Z Z114 := zL_u hZ112K hZ114 (by decide)
        intro μ9 e9
        replace e9 := e9.trans (zm_wI (Z := Z112) (ν := ν15) hZ114 (rfl : ((a0b : Nat) : Int) = a0b) (i3I (y := ((Z108 11 a0b 0 12) % 60)) (i3R (zm_rd (Z := Z108) (ν := ν15) (k := 11) (rfl : ((a0b : Nat) : Int) = a0b) (show ((0 : Nat) : Int) = 0 from rfl) (show ((12 : Nat) : Int) = 12 from rfl)) (show (60 : Int32) = i3 60 from rfl) (by omega) (by omega) (by omega) (by omega)) (by omega) (by omega) (by omega)) (show ((1 : Nat) : Int) = 1 from rfl) (show (0 : Int32) = i3 0 from rfl))
        subst e9
        obtain ⟨Z116, hZ116⟩ := zx (zu Z114 53 a0b ((Z108 11 a0b 0 12) % 60) 2 (Z97 200 n9 0 2))
        replace hP := zl_e hP hZ116
        have hZ116I := zH_u hZ114I hZ116 (lo := -2147483648) (hi := 2147483647) (by decide) rfl (by omega) ⟨by decide, by decide⟩ (Or.inl (by decide)) rfl
        have hZ116U : zU [a0b, a1b] Z Z116 := zU_u hZ114U hZ116 (Or.inr (List.Mem.head _))
        have r117 := zpt_0 (b := a1b) hZ116 (by decide)
        have hZ116K : zL [14, 42, 45, 47, 53, 54, 1112] [] n9 Z Z116 := zL_u hZ114K hZ116 (by decide)
        intro μ9 e9
        replace e9 := e9.trans (zm_wI (Z := Z114) (ν := ν15) hZ116 (rfl : ((a0b : Nat) : Int) = a0b) (i3I (y := ((Z108 11 a0b 0 12) % 60)) (i3R (zm_rd (Z := Z108) (ν := ν15) (k := 11) (rfl : ((a0b : Nat) : Int) = a0b) (show ((0 : Nat) : Int) = 0 from rfl) (show ((12 : Nat) : Int) = 12 from rfl)) (show (60 : Int32) = i3 60 from rfl) (by omega) (by omega) (by omega) (by omega)) (by omega) (by omega) (by omega)) (show ((2 : Nat) : Int) = 2 from rfl) (zm_rd (Z := Z97) (ν := ν15) (k := 200) (rfl : ((n9 : Nat) : Int) = n9) (show ((0 : Nat) : Int) = 0 from rfl) (show ((2 : Nat) : Int) = 2 from rfl)))
        subst e9
        obtain ⟨Z118, hZ118⟩ := zx (zu Z116 53 a0b ((Z108 11 a0b 0 12) % 60) 3 (Z42 47 a0b (Z 54 a1b a1ij 0) 0))
        replace hP := zl_e hP hZ118
        have hZ118I := zH_u hZ116I hZ118 (lo := -2147483648) (hi := 2147483647) (by decide) rfl (by omega) ⟨by decide, by decide⟩ (Or.inl (by decide)) rfl
        have hZ118U : zU [a0b, a1b] Z Z118 := zU_u hZ116U hZ118 (Or.inr (List.Mem.head _))
        have r119 := zpt_0 (b := a1b) hZ118 (by decide)
        have hZ118K : zL [14, 42, 45, 47, 53, 54, 1112] [] n9 Z Z118 := zL_u hZ116K hZ118 (by decide)
        intro μ9 e9
        replace e9 := e9.trans (zm_wI (Z := Z116) (ν := ν15) hZ118 (rfl : ((a0b : Nat) : Int) = a0b) (i3I (y := ((Z108 11 a0b 0 12) % 60)) (i3R (zm_rd (Z := Z108) (ν := ν15) (k := 11) (rfl : ((a0b : Nat) : Int) = a0b) (show ((0 : Nat) : Int) = 0 from rfl) (show ((12 : Nat) : Int) = 12 from rfl)) (show (60 : Int32) = i3 60 from rfl) (by omega) (by omega) (by omega) (by omega)) (by omega) (by omega) (by omega)) (show ((3 : Nat) : Int) = 3 from rfl) (zm_rd (Z := Z42) (ν := ν15) (k := 47) (rfl : ((a0b : Nat) : Int) = a0b) (i3I (y := (Z 54 a1b a1ij 0)) (zm_rd (Z := Z) (ν := ν) (k := 54) (rfl : ((a1b : Nat) : Int) = a1b) ea1i (show ((0 : Nat) : Int) = 0 from rfl)) (by omega) (by omega) (by omega)) (show ((0 : Nat) : Int) = 0 from rfl)))
        subst e9
        have r120 := zH_k hZ118I 11 a0b 0 13 (lo := 0) (hi := 671) (by decide) rfl
        have q121 := (zu_ne (k' := 11) (b' := a0b) (i' := 0) (j' := 13) hZ118 (fun q => absurd q.1 (by decide))).trans ((zu_ne (k' := 11) (b' := a0b) (i' := 0) (j' := 13) hZ116 (fun q => absurd q.1 (by decide))).trans ((zu_ne (k' := 11) (b' := a0b) (i' := 0) (j' := 13) hZ114 (fun q => absurd q.1 (by decide))).trans ((zu_ne (k' := 11) (b' := a0b) (i' := 0) (j' := 13) hZ112 (fun q => absurd q.1 (by decide))).trans ((zu_ne (k' := 11) (b' := a0b) (i' := 0) (j' := 13) hZ108 (fun q => absurd q.1 (by decide))).trans ((zu_ne (k' := 11) (b' := a0b) (i' := 0) (j' := 13) hZ104 (fun q => absurd q.1 (by decide))).trans ((zu_ne (k' := 11) (b' := a0b) (i' := 0) (j' := 13) hZ97 (fun q => absurd q.2.2.2 (by decide))).trans (zu_ne (k' := 11) (b' := a0b) (i' := 0) (j' := 13) hZ93 (fun q => absurd q.1 (by decide)))))))))
        obtain ⟨Z122, hZ122⟩ := zx (zu Z118 53 a0b ((Z108 11 a0b 0 12) % 60) 4 (Z118 11 a0b 0 13))
        replace hP := zl_e hP hZ122
        have hZ122I := zH_u hZ118I hZ122 (lo := -2147483648) (hi := 2147483647) (by decide) rfl (by omega) ⟨by decide, by decide⟩ (Or.inl (by decide)) rfl
        have hZ122U : zU [a0b, a1b] Z Z122 := zU_u hZ118U hZ122 (Or.inr (List.Mem.head _))
        have r123 := zpt_0 (b := a1b) hZ122 (by decide)
        have hZ122K : zL [14, 42, 45, 47, 53, 54, 1112] [] n9 Z Z122 := zL_u hZ118K hZ122 (by decide)
        intro μ9 e9
        replace e9 := e9.trans (zm_wI (Z := Z118) (ν := ν15) hZ122 (rfl : ((a0b : Nat) : Int) = a0b) (i3I (y := ((Z108 11 a0b 0 12) % 60)) (i3R (zm_rd (Z := Z108) (ν := ν15) (k := 11) (rfl : ((a0b : Nat) : Int) = a0b) (show ((0 : Nat) : Int) = 0 from rfl) (show ((12 : Nat) : Int) = 12 from rfl)) (show (60 : Int32) = i3 60 from rfl) (by omega) (by omega) (by omega) (by omega)) (by omega) (by omega) (by omega)) (show ((4 : Nat) : Int) = 4 from rfl) (zm_rd (Z := Z118) (ν := ν15) (k := 11) (rfl : ((a0b : Nat) : Int) = a0b) (show ((0 : Nat) : Int) = 0 from rfl) (show ((13 : Nat) : Int) = 13 from rfl)))
        subst e9
        have r124 := zH_c12 hZ122I a0b (zbh (c := 2) (k := 0) hM (Nat.le_of_ble_eq_true rfl))
        have q125 := (zu_ne (k' := 11) (b' := a0b) (i' := 0) (j' := 12) hZ122 (fun q => absurd q.1 (by decide))).trans ((zu_ne (k' := 11) (b' := a0b) (i' := 0) (j' := 12) hZ118 (fun q => absurd q.1 (by decide))).trans ((zu_ne (k' := 11) (b' := a0b) (i' := 0) (j' := 12) hZ116 (fun q => absurd q.1 (by decide))).trans ((zu_ne (k' := 11) (b' := a0b) (i' := 0) (j' := 12) hZ114 (fun q => absurd q.1 (by decide))).trans (zu_ne (k' := 11) (b' := a0b) (i' := 0) (j' := 12) hZ112 (fun q => absurd q.1 (by decide))))))
        obtain ⟨Z126, hZ126⟩ := zx (zu Z122 11 a0b 0 12 ((Z122 11 a0b 0 12) + 1))
        replace hP := zl_e hP hZ126
        have hZ126I := zH_i12 hZ122I hZ126 (zbh (c := 2) (k := 1) hM (Nat.le_of_ble_eq_true rfl)) (by omega)
        replace hZ126I := zbt (c := 3) hZ126I rfl
        have hZ126U : zU [a0b, a1b] Z Z126 := zU_u hZ122U hZ126 (Or.inr (List.Mem.head _))
        have r127 := zpt_0 (b := a1b) hZ126 (by decide)
        have hZ126K : zL [14, 42, 45, 47, 53, 54, 1112] [] n9 Z Z126 := zL_u hZ122K hZ126 (by decide)
        intro μ9 e9
        replace e9 := e9.trans (zm_wI (Z := Z122) (ν := ν15) hZ126 (rfl : ((a0b : Nat) : Int) = a0b) (show ((0 : Nat) : Int) = 0 from rfl) (show ((12 : Nat) : Int) = 12 from rfl) (i3A (zm_rd (Z := Z122) (ν := ν15) (k := 11) (rfl : ((a0b : Nat) : Int) = a0b) (show ((0 : Nat) : Int) = 0 from rfl) (show ((12 : Nat) : Int) = 12 from rfl)) (show (1 : Int32) = i3 1 from rfl)))
        subst e9
        refine wz_i1 (by rw [zSh_t (zSh_Gl hSν7 gν15)]; rfl) ?_
        refine wz_i0 (by rw [zSh_l (zSh_Gl hSν7 gν15)]; exact i3O (n := 3) (show (0 : Int32) = i3 0 from rfl) (by omega) (by omega) (by omega)) ?_
        have r128 := zH_f hZ126I 42 a0b (Z42 44 a0b (Z42 47 a0b (Z 54 a1b a1ij 0) 0) 0) 2
        have r129 := zH_f hZ126I 200 n9 0 0
        have q130 := (zu_ne (k' := 200) (b' := n9) (i' := 0) (j' := 0) hZ126 (fun q => absurd q.1 (by decide))).trans ((zu_ne (k' := 200) (b' := n9) (i' := 0) (j' := 0) hZ122 (fun q => absurd q.1 (by decide))).trans ((zu_ne (k' := 200) (b' := n9) (i' := 0) (j' := 0) hZ118 (fun q => absurd q.1 (by decide))).trans ((zu_ne (k' := 200) (b' := n9) (i' := 0) (j' := 0) hZ116 (fun q => absurd q.1 (by decide))).trans ((zu_ne (k' := 200) (b' := n9) (i' := 0) (j' := 0) hZ114 (fun q => absurd q.1 (by decide))).trans ((zu_ne (k' := 200) (b' := n9) (i' := 0) (j' := 0) hZ112 (fun q => absurd q.1 (by decide))).trans ((zu_ne (k' := 200) (b' := n9) (i' := 0) (j' := 0) hZ108 (fun q => absurd q.1 (by decide))).trans ((zu_ne (k' := 200) (b' := n9) (i' := 0) (j' := 0) hZ104 (fun q => absurd q.1 (by decide))).trans ((zu_ne (k' := 200) (b' := n9) (i' := 0) (j' := 0) hZ97 (fun q => absurd q.1 (by decide))).trans ((zu_ne (k' := 200) (b' := n9) (i' := 0) (j' := 0) hZ93 (fun q => absurd q.1 (by decide))).trans ((zu_ne (k' := 200) (b' := n9) (i' := 0) (j' := 0) hZ89 (fun q => absurd q.1 (by decide))).trans ((zu_ne (k' := 200) (b' := n9) (i' := 0) (j' := 0) hZ87 (fun q => absurd q.1 (by decide))).trans ((zu_ne (k' := 200) (b' := n9) (i' := 0) (j' := 0) hZ85 (fun q => absurd q.1 (by decide))).trans ((zu_ne (k' := 200) (b' := n9) (i' := 0) (j' := 0) hZ83 (fun q => absurd q.1 (by decide))).trans ((zu_ne (k' := 200) (b' := n9) (i' := 0) (j' := 0) hZ79 (fun q => absurd q.1 (by decide))).trans (zu_ne (k' := 200) (b' := n9) (i' := 0) (j' := 0) hZ75 (fun q => absurd q.1 (by decide)))))))))))))))))
        have r131 := w3_r ((Z126 42 a0b (Z42 44 a0b (Z42 47 a0b (Z 54 a1b a1ij 0) 0) 0) 2) - (Z126 200 n9 0 0))
        obtain ⟨Z132, hZ132⟩ := zx (zu Z126 42 a0b (Z42 44 a0b (Z42 47 a0b (Z 54 a1b a1ij 0) 0) 0) 2 (w3 ((Z126 42 a0b (Z42 44 a0b (Z42 47 a0b (Z 54 a1b a1ij 0) 0) 0) 2) - (Z126 200 n9 0 0))))
        replace hP := zl_e hP hZ132
        have hZ132I := zH_u hZ126I hZ132 (lo := -2147483648) (hi := 2147483647) (by decide) rfl (by omega) ⟨by decide, by decide⟩ (Or.inl (by decide)) rfl
        have hZ132U : zU [a0b, a1b] Z Z132 := zU_u hZ126U hZ132 (Or.inr (List.Mem.head _))
        have r133 := zpt_0 (b := a1b) hZ132 (by decide)
        have hZ132K : zL [14, 42, 45, 47, 53, 54, 1112] [] n9 Z Z132 := zL_u hZ126K hZ132 (by decide)
        intro μ9 e9
        replace e9 := e9.trans (zm_wI (Z := Z126) (ν := ν15) hZ132 (rfl : ((a0b : Nat) : Int) = a0b) (i3I (y := (Z42 44 a0b (Z42 47 a0b (Z 54 a1b a1ij 0) 0) 0)) (zm_rd (Z := Z42) (ν := ν15) (k := 44) (rfl : ((a0b : Nat) : Int) = a0b) (i3I (y := (Z42 47 a0b (Z 54 a1b a1ij 0) 0)) (zm_rd (Z := Z42) (ν := ν15) (k := 47) (rfl : ((a0b : Nat) : Int) = a0b) (i3I (y := (Z 54 a1b a1ij 0)) (zm_rd (Z := Z) (ν := ν) (k := 54) (rfl : ((a1b : Nat) : Int) = a1b) ea1i (show ((0 : Nat) : Int) = 0 from rfl)) (by omega) (by omega) (by omega)) (show ((0 : Nat) : Int) = 0 from rfl)) (by omega) (by omega) (by omega)) (show ((0 : Nat) : Int) = 0 from rfl)) (by omega) (by omega) (by omega)) (show ((2 : Nat) : Int) = 2 from rfl) (i3W (i3S (zm_rd (Z := Z126) (ν := ν15) (k := 42) (rfl : ((a0b : Nat) : Int) = a0b) (i3I (y := (Z42 44 a0b (Z42 47 a0b (Z 54 a1b a1ij 0) 0) 0)) (zm_rd (Z := Z42) (ν := ν15) (k := 44) (rfl : ((a0b : Nat) : Int) = a0b) (i3I (y := (Z42 47 a0b (Z 54 a1b a1ij 0) 0)) (zm_rd (Z := Z42) (ν := ν15) (k := 47) (rfl : ((a0b : Nat) : Int) = a0b) (i3I (y := (Z 54 a1b a1ij 0)) (zm_rd (Z := Z) (ν := ν) (k := 54) (rfl : ((a1b : Nat) : Int) = a1b) ea1i (show ((0 : Nat) : Int) = 0 from rfl)) (by omega) (by omega) (by omega)) (show ((0 : Nat) : Int) = 0 from rfl)) (by omega) (by omega) (by omega)) (show ((0 : Nat) : Int) = 0 from rfl)) (by omega) (by omega) (by omega)) (show ((2 : Nat) : Int) = 2 from rfl)) (zm_rd (Z := Z126) (ν := ν15) (k := 200) (rfl : ((n9 : Nat) : Int) = n9) (show ((0 : Nat) : Int) = 0 from rfl) (show ((0 : Nat) : Int) = 0 from rfl)))))
        subst e9
        refine wz_i1 (by rw [zSh_t (zSh_Gl hSν7 gν15)]; rfl) ?_
        refine wz_i0 (by rw [zSh_l (zSh_Gl hSν7 gν15)]; exact i3O (n := 3) (show (0 : Int32) = i3 0 from rfl) (by omega) (by omega) (by omega)) ?_
        have r134 := zH_f hZ132I 42 a0b (Z42 44 a0b (Z42 47 a0b (Z 54 a1b a1ij 0) 0) 0) 5
        have r135 := zH_f hZ132I 200 n9 0 0
        have q136 := zu_ne (k' := 200) (b' := n9) (i' := 0) (j' := 0) hZ132 (fun q => absurd q.1 (by decide))
        have r137 := w3_r ((Z132 42 a0b (Z42 44 a0b (Z42 47 a0b (Z 54 a1b a1ij 0) 0) 0) 5) + (Z132 200 n9 0 0))
        obtain ⟨Z138, hZ138⟩ := zx (zu Z132 42 a0b (Z42 44 a0b (Z42 47 a0b (Z 54 a1b a1ij 0) 0) 0) 5 (w3 ((Z132 42 a0b (Z42 44 a0b (Z42 47 a0b (Z 54 a1b a1ij 0) 0) 0) 5) + (Z132 200 n9 0 0))))
        replace hP := zl_e hP hZ138
        have hZ138I := zH_u hZ132I hZ138 (lo := -2147483648) (hi := 2147483647) (by decide) rfl (by omega) ⟨by decide, by decide⟩ (Or.inl (by decide)) rfl
        have hZ138U : zU [a0b, a1b] Z Z138 := zU_u hZ132U hZ138 (Or.inr (List.Mem.head _))
        have r139 := zpt_0 (b := a1b) hZ138 (by decide)
        have hZ138K : zL [14, 42, 45, 47, 53, 54, 1112] [] n9 Z Z138 := zL_u hZ132K hZ138 (by decide)
        intro μ9 e9
        replace e9 := e9.trans (zm_wI (Z := Z132) (ν := ν15) hZ138 (rfl : ((a0b : Nat) : Int) = a0b) (i3I (y := (Z42 44 a0b (Z42 47 a0b (Z 54 a1b a1ij 0) 0) 0)) (zm_rd (Z := Z42) (ν := ν15) (k := 44) (rfl : ((a0b : Nat) : Int) = a0b) (i3I (y := (Z42 47 a0b (Z 54 a1b a1ij 0) 0)) (zm_rd (Z := Z42) (ν := ν15) (k := 47) (rfl : ((a0b : Nat) : Int) = a0b) (i3I (y := (Z 54 a1b a1ij 0)) (zm_rd (Z := Z) (ν := ν) (k := 54) (rfl : ((a1b : Nat) : Int) = a1b) ea1i (show ((0 : Nat) : Int) = 0 from rfl)) (by omega) (by omega) (by omega)) (show ((0 : Nat) : Int) = 0 from rfl)) (by omega) (by omega) (by omega)) (show ((0 : Nat) : Int) = 0 from rfl)) (by omega) (by omega) (by omega)) (show ((5 : Nat) : Int) = 5 from rfl) (i3W (i3A (zm_rd (Z := Z132) (ν := ν15) (k := 42) (rfl : ((a0b : Nat) : Int) = a0b) (i3I (y := (Z42 44 a0b (Z42 47 a0b (Z 54 a1b a1ij 0) 0) 0)) (zm_rd (Z := Z42) (ν := ν15) (k := 44) (rfl : ((a0b : Nat) : Int) = a0b) (i3I (y := (Z42 47 a0b (Z 54 a1b a1ij 0) 0)) (zm_rd (Z := Z42) (ν := ν15) (k := 47) (rfl : ((a0b : Nat) : Int) = a0b) (i3I (y := (Z 54 a1b a1ij 0)) (zm_rd (Z := Z) (ν := ν) (k := 54) (rfl : ((a1b : Nat) : Int) = a1b) ea1i (show ((0 : Nat) : Int) = 0 from rfl)) (by omega) (by omega) (by omega)) (show ((0 : Nat) : Int) = 0 from rfl)) (by omega) (by omega) (by omega)) (show ((0 : Nat) : Int) = 0 from rfl)) (by omega) (by omega) (by omega)) (show ((5 : Nat) : Int) = 5 from rfl)) (zm_rd (Z := Z132) (ν := ν15) (k := 200) (rfl : ((n9 : Nat) : Int) = n9) (show ((0 : Nat) : Int) = 0 from rfl) (show ((0 : Nat) : Int) = 0 from rfl)))))
        subst e9
        exact zlVn hP ⟨hZ138I, hZ138K, hZ138U, hnν15, hGν15, by omega, by omega, by omega⟩
      · replace hP := zE_n hP h100
        refine wz_i1 (by rw [zSh_t (zSh_Gl hSν7 gν15)]; rfl) ?_
        refine wz_i0 (by rw [zSh_l (zSh_Gl hSν7 gν15)]; exact i3O (n := 3) (show (0 : Int32) = i3 0 from rfl) (by omega) (by omega) (by omega)) ?_
        have r140 := zH_f hZ97I 42 a0b (Z42 44 a0b (Z42 47 a0b (Z 54 a1b a1ij 0) 0) 0) 2
        have r141 := zH_f hZ97I 200 n9 0 0
        have q142 := (zu_ne (k' := 200) (b' := n9) (i' := 0) (j' := 0) hZ97 (fun q => absurd q.1 (by decide))).trans ((zu_ne (k' := 200) (b' := n9) (i' := 0) (j' := 0) hZ93 (fun q => absurd q.1 (by decide))).trans ((zu_ne (k' := 200) (b' := n9) (i' := 0) (j' := 0) hZ89 (fun q => absurd q.1 (by decide))).trans ((zu_ne (k' := 200) (b' := n9) (i' := 0) (j' := 0) hZ87 (fun q => absurd q.1 (by decide))).trans ((zu_ne (k' := 200) (b' := n9) (i' := 0) (j' := 0) hZ85 (fun q => absurd q.1 (by decide))).trans ((zu_ne (k' := 200) (b' := n9) (i' := 0) (j' := 0) hZ83 (fun q => absurd q.1 (by decide))).trans ((zu_ne (k' := 200) (b' := n9) (i' := 0) (j' := 0) hZ79 (fun q => absurd q.1 (by decide))).trans (zu_ne (k' := 200) (b' := n9) (i' := 0) (j' := 0) hZ75 (fun q => absurd q.1 (by decide)))))))))
        have r143 := w3_r ((Z97 42 a0b (Z42 44 a0b (Z42 47 a0b (Z 54 a1b a1ij 0) 0) 0) 2) - (Z97 200 n9 0 0))
        obtain ⟨Z144, hZ144⟩ := zx (zu Z97 42 a0b (Z42 44 a0b (Z42 47 a0b (Z 54 a1b a1ij 0) 0) 0) 2 (w3 ((Z97 42 a0b (Z42 44 a0b (Z42 47 a0b (Z 54 a1b a1ij 0) 0) 0) 2) - (Z97 200 n9 0 0))))
        replace hP := zl_e hP hZ144
        have hZ144I := zH_u hZ97I hZ144 (lo := -2147483648) (hi := 2147483647) (by decide) rfl (by omega) ⟨by decide, by decide⟩ (Or.inl (by decide)) rfl
        have hZ144U : zU [a0b, a1b] Z Z144 := zU_u hZ97U hZ144 (Or.inr (List.Mem.head _))
        have r145 := zpt_0 (b := a1b) hZ144 (by decide)
        have hZ144K : zL [14, 42, 45, 47, 53, 54, 1112] [] n9 Z Z144 := zL_u hZ97K hZ144 (by decide)
        intro μ9 e9
        replace e9 := e9.trans (zm_wI (Z := Z97) (ν := ν15) hZ144 (rfl : ((a0b : Nat) : Int) = a0b) (i3I (y := (Z42 44 a0b (Z42 47 a0b (Z 54 a1b a1ij 0) 0) 0)) (zm_rd (Z := Z42) (ν := ν15) (k := 44) (rfl : ((a0b : Nat) : Int) = a0b) (i3I (y := (Z42 47 a0b (Z 54 a1b a1ij 0) 0)) (zm_rd (Z := Z42) (ν := ν15) (k := 47) (rfl : ((a0b : Nat) : Int) = a0b) (i3I (y := (Z 54 a1b a1ij 0)) (zm_rd (Z := Z) (ν := ν) (k := 54) (rfl : ((a1b : Nat) : Int) = a1b) ea1i (show ((0 : Nat) : Int) = 0 from rfl)) (by omega) (by omega) (by omega)) (show ((0 : Nat) : Int) = 0 from rfl)) (by omega) (by omega) (by omega)) (show ((0 : Nat) : Int) = 0 from rfl)) (by omega) (by omega) (by omega)) (show ((2 : Nat) : Int) = 2 from rfl) (i3W (i3S (zm_rd (Z := Z97) (ν := ν15) (k := 42) (rfl : ((a0b : Nat) : Int) = a0b) (i3I (y := (Z42 44 a0b (Z42 47 a0b (Z 54 a1b a1ij 0) 0) 0)) (zm_rd (Z := Z42) (ν := ν15) (k := 44) (rfl : ((a0b : Nat) : Int) = a0b) (i3I (y := (Z42 47 a0b (Z 54 a1b a1ij 0) 0)) (zm_rd (Z := Z42) (ν := ν15) (k := 47) (rfl : ((a0b : Nat) : Int) = a0b) (i3I (y := (Z 54 a1b a1ij 0)) (zm_rd (Z := Z) (ν := ν) (k := 54) (rfl : ((a1b : Nat) : Int) = a1b) ea1i (show ((0 : Nat) : Int) = 0 from rfl)) (by omega) (by omega) (by omega)) (show ((0 : Nat) : Int) = 0 from rfl)) (by omega) (by omega) (by omega)) (show ((0 : Nat) : Int) = 0 from rfl)) (by omega) (by omega) (by omega)) (show ((2 : Nat) : Int) = 2 from rfl)) (zm_rd (Z := Z97) (ν := ν15) (k := 200) (rfl : ((n9 : Nat) : Int) = n9) (show ((0 : Nat) : Int) = 0 from rfl) (show ((0 : Nat) : Int) = 0 from rfl)))))
        subst e9
        refine wz_i1 (by rw [zSh_t (zSh_Gl hSν7 gν15)]; rfl) ?_
        refine wz_i0 (by rw [zSh_l (zSh_Gl hSν7 gν15)]; exact i3O (n := 3) (show (0 : Int32) = i3 0 from rfl) (by omega) (by omega) (by omega)) ?_
        have r146 := zH_f hZ144I 42 a0b (Z42 44 a0b (Z42 47 a0b (Z 54 a1b a1ij 0) 0) 0) 5
        have r147 := zH_f hZ144I 200 n9 0 0
        have q148 := zu_ne (k' := 200) (b' := n9) (i' := 0) (j' := 0) hZ144 (fun q => absurd q.1 (by decide))
        have r149 := w3_r ((Z144 42 a0b (Z42 44 a0b (Z42 47 a0b (Z 54 a1b a1ij 0) 0) 0) 5) + (Z144 200 n9 0 0))
        obtain ⟨Z150, hZ150⟩ := zx (zu Z144 42 a0b (Z42 44 a0b (Z42 47 a0b (Z 54 a1b a1ij 0) 0) 0) 5 (w3 ((Z144 42 a0b (Z42 44 a0b (Z42 47 a0b (Z 54 a1b a1ij 0) 0) 0) 5) + (Z144 200 n9 0 0))))
        replace hP := zl_e hP hZ150
        have hZ150I := zH_u hZ144I hZ150 (lo := -2147483648) (hi := 2147483647) (by decide) rfl (by omega) ⟨by decide, by decide⟩ (Or.inl (by decide)) rfl
        have hZ150U : zU [a0b, a1b] Z Z150 := zU_u hZ144U hZ150 (Or.inr (List.Mem.head _))
        have r151 := zpt_0 (b := a1b) hZ150 (by decide)
        have hZ150K : zL [14, 42, 45, 47, 53, 54, 1112] [] n9 Z Z150 := zL_u hZ144K hZ150 (by decide)
        intro μ9 e9
        replace e9 := e9.trans (zm_wI (Z := Z144) (ν := ν15) hZ150 (rfl : ((a0b : Nat) : Int) = a0b) (i3I (y := (Z42 44 a0b (Z42 47 a0b (Z 54 a1b a1ij 0) 0) 0)) (zm_rd (Z := Z42) (ν := ν15) (k := 44) (rfl : ((a0b : Nat) : Int) = a0b) (i3I (y := (Z42 47 a0b (Z 54 a1b a1ij 0) 0)) (zm_rd (Z := Z42) (ν := ν15) (k := 47) (rfl : ((a0b : Nat) : Int) = a0b) (i3I (y := (Z 54 a1b a1ij 0)) (zm_rd (Z := Z) (ν := ν) (k := 54) (rfl : ((a1b : Nat) : Int) = a1b) ea1i (show ((0 : Nat) : Int) = 0 from rfl)) (by omega) (by omega) (by omega)) (show ((0 : Nat) : Int) = 0 from rfl)) (by omega) (by omega) (by omega)) (show ((0 : Nat) : Int) = 0 from rfl)) (by omega) (by omega) (by omega)) (show ((5 : Nat) : Int) = 5 from rfl) (i3W (i3A (zm_rd (Z := Z144) (ν := ν15) (k := 42) (rfl : ((a0b : Nat) : Int) = a0b) (i3I (y := (Z42 44 a0b (Z42 47 a0b (Z 54 a1b a1ij 0) 0) 0)) (zm_rd (Z := Z42) (ν := ν15) (k := 44) (rfl : ((a0b : Nat) : Int) = a0b) (i3I (y := (Z42 47 a0b (Z 54 a1b a1ij 0) 0)) (zm_rd (Z := Z42) (ν := ν15) (k := 47) (rfl : ((a0b : Nat) : Int) = a0b) (i3I (y := (Z 54 a1b a1ij 0)) (zm_rd (Z := Z) (ν := ν) (k := 54) (rfl : ((a1b : Nat) : Int) = a1b) ea1i (show ((0 : Nat) : Int) = 0 from rfl)) (by omega) (by omega) (by omega)) (show ((0 : Nat) : Int) = 0 from rfl)) (by omega) (by omega) (by omega)) (show ((0 : Nat) : Int) = 0 from rfl)) (by omega) (by omega) (by omega)) (show ((5 : Nat) : Int) = 5 from rfl)) (zm_rd (Z := Z144) (ν := ν15) (k := 200) (rfl : ((n9 : Nat) : Int) = n9) (show ((0 : Nat) : Int) = 0 from rfl) (show ((0 : Nat) : Int) = 0 from rfl)))))
        subst e9
        exact zlVn hP ⟨(zbw (a := 2) (c := 3) hZ150I (Nat.le_of_ble_eq_true rfl)), hZ150K, hZ150U, hnν15, hGν15, by omega, by omega, by omega⟩
    · replace hP := zE_n hP h71
      refine wz_i1 (by rw [zSh_t (zSh_Gl hSν7 gν15)]; rfl) ?_
      refine wz_i0 (by rw [zSh_l (zSh_Gl hSν7 gν15)]; exact i3O (n := 3) (show (2 : Int32) = i3 2 from rfl) (by omega) (by omega) (by omega)) ?_
      have r152 := zH_f hZ68I 200 n9 0 2
      refine wz_br (i3NE (zm_rd (Z := Z68) (ν := ν15) (k := 200) (rfl : ((n9 : Nat) : Int) = n9) (show ((0 : Nat) : Int) = 0 from rfl) (show ((2 : Nat) : Int) = 2 from rfl)) (show (0 : Int32) = i3 0 from rfl) (by omega) (by omega) (by omega) (by omega)) (fun h153 => ?_) (fun h153 => ?_)
      · replace hP := zE_p hP h153
        have r154 := zH_f hZ68I 14 a0b 0 8
        have q155 := (zu_ne (k' := 14) (b' := a0b) (i' := 0) (j' := 8) hZ68 (fun q => absurd q.1 (by decide))).trans ((zu_ne (k' := 14) (b' := a0b) (i' := 0) (j' := 8) hZ64 (fun q => absurd q.1 (by decide))).trans ((zu_ne (k' := 14) (b' := a0b) (i' := 0) (j' := 8) hZ61 (fun q => absurd q.1 (by decide))).trans ((zu_ne (k' := 14) (b' := a0b) (i' := 0) (j' := 8) hZ59 (fun q => absurd q.1 (by decide))).trans ((zu_ne (k' := 14) (b' := a0b) (i' := 0) (j' := 8) hZ57 (fun q => absurd q.1 (by decide))).trans ((zu_ne (k' := 14) (b' := a0b) (i' := 0) (j' := 8) hZ55 (fun q => absurd q.1 (by decide))).trans (zu_at hZ52))))))
        have r156 := w3_r ((Z68 14 a0b 0 8) - (Z68 200 n9 0 2))
        obtain ⟨Z157, hZ157⟩ := zx (zu Z68 14 a0b 0 8 (w3 ((Z68 14 a0b 0 8) - (Z68 200 n9 0 2))))
        replace hP := zl_e hP hZ157
        have hZ157I := zH_u hZ68I hZ157 (lo := -2147483648) (hi := 2147483647) (by decide) rfl (by omega) ⟨by decide, by decide⟩ (Or.inl (by decide)) rfl
        have hZ157U : zU [a0b, a1b] Z Z157 := zU_u hZ68U hZ157 (Or.inr (List.Mem.head _))
        have r158 := zpt_0 (b := a1b) hZ157 (by decide)
        have hZ157K : zL [14, 42, 45, 47, 53, 54, 1112] [] n9 Z Z157 := zL_u hZ68K hZ157 (by decide)
        intro μ9 e9
        replace e9 := e9.trans (zm_wI (Z := Z68) (ν := ν15) hZ157 (rfl : ((a0b : Nat) : Int) = a0b) (show ((0 : Nat) : Int) = 0 from rfl) (show ((8 : Nat) : Int) = 8 from rfl) (i3W (i3S (zm_rd (Z := Z68) (ν := ν15) (k := 14) (rfl : ((a0b : Nat) : Int) = a0b) (show ((0 : Nat) : Int) = 0 from rfl) (show ((8 : Nat) : Int) = 8 from rfl)) (zm_rd (Z := Z68) (ν := ν15) (k := 200) (rfl : ((n9 : Nat) : Int) = n9) (show ((0 : Nat) : Int) = 0 from rfl) (show ((2 : Nat) : Int) = 2 from rfl)))))
        subst e9
        have r159 := zH_f hZ157I 14 a0b 0 0
        have r160 := w3_r ((Z157 14 a0b 0 0) + (Z68 200 n9 0 2))
        obtain ⟨Z161, hZ161⟩ := zx (zu Z157 14 a0b 0 0 (w3 ((Z157 14 a0b 0 0) + (Z68 200 n9 0 2))))
        replace hP := zl_e hP hZ161
        have hZ161I := zH_u hZ157I hZ161 (lo := -2147483648) (hi := 2147483647) (by decide) rfl (by omega) ⟨by decide, by decide⟩ (Or.inl (by decide)) rfl
        have hZ161U : zU [a0b, a1b] Z Z161 := zU_u hZ157U hZ161 (Or.inr (List.Mem.head _))
        have r162 := zpt_0 (b := a1b) hZ161 (by decide)
        have hZ161K : zL [14, 42, 45, 47, 53, 54, 1112] [] n9 Z Z161 := zL_u hZ157K hZ161 (by decide)
        intro μ9 e9
        replace e9 := e9.trans (zm_wI (Z := Z157) (ν := ν15) hZ161 (rfl : ((a0b : Nat) : Int) = a0b) (show ((0 : Nat) : Int) = 0 from rfl) (show ((0 : Nat) : Int) = 0 from rfl) (i3W (i3A (zm_rd (Z := Z157) (ν := ν15) (k := 14) (rfl : ((a0b : Nat) : Int) = a0b) (show ((0 : Nat) : Int) = 0 from rfl) (show ((0 : Nat) : Int) = 0 from rfl)) (zm_rd (Z := Z68) (ν := ν15) (k := 200) (rfl : ((n9 : Nat) : Int) = n9) (show ((0 : Nat) : Int) = 0 from rfl) (show ((2 : Nat) : Int) = 2 from rfl)))))
        subst e9
        have r163 := zH_c12 hZ161I a0b (zbh (c := 1) (k := 0) hM (Nat.le_of_ble_eq_true rfl))
        have q164 := (zu_ne (k' := 11) (b' := a0b) (i' := 0) (j' := 12) hZ161 (fun q => absurd q.1 (by decide))).trans ((zu_ne (k' := 11) (b' := a0b) (i' := 0) (j' := 12) hZ157 (fun q => absurd q.1 (by decide))).trans (zu_at hZ68))
        refine wz_i0 (i3O (n := 60) (i3R (zm_rd (Z := Z161) (ν := ν15) (k := 11) (rfl : ((a0b : Nat) : Int) = a0b) (show ((0 : Nat) : Int) = 0 from rfl) (show ((12 : Nat) : Int) = 12 from rfl)) (show (60 : Int32) = i3 60 from rfl) (by omega) (by omega) (by omega) (by omega)) (by omega) (by omega) (by omega)) ?_
        obtain ⟨Z165, hZ165⟩ := zx (zu Z161 53 a0b ((Z161 11 a0b 0 12) % 60) 0 8)
        replace hP := zl_e hP hZ165
        have hZ165I := zH_u hZ161I hZ165 (lo := -2147483648) (hi := 2147483647) (by decide) rfl (by omega) ⟨by decide, by decide⟩ (Or.inl (by decide)) rfl
        have hZ165U : zU [a0b, a1b] Z Z165 := zU_u hZ161U hZ165 (Or.inr (List.Mem.head _))
        have r166 := zpt_0 (b := a1b) hZ165 (by decide)
        have hZ165K : zL [14, 42, 45, 47, 53, 54, 1112] [] n9 Z Z165 := zL_u hZ161K hZ165 (by decide)
        intro μ9 e9
        replace e9 := e9.trans (zm_wI (Z := Z161) (ν := ν15) hZ165 (rfl : ((a0b : Nat) : Int) = a0b) (i3I (y := ((Z161 11 a0b 0 12) % 60)) (i3R (zm_rd (Z := Z161) (ν := ν15) (k := 11) (rfl : ((a0b : Nat) : Int) = a0b) (show ((0 : Nat) : Int) = 0 from rfl) (show ((12 : Nat) : Int) = 12 from rfl)) (show (60 : Int32) = i3 60 from rfl) (by omega) (by omega) (by omega) (by omega)) (by omega) (by omega) (by omega)) (show ((0 : Nat) : Int) = 0 from rfl) (show (8 : Int32) = i3 8 from rfl))
        subst e9
        obtain ⟨Z167, hZ167⟩ := zx (zu Z165 53 a0b ((Z161 11 a0b 0 12) % 60) 1 0)
        replace hP := zl_e hP hZ167
        have hZ167I := zH_0 hZ165I hZ167 (by decide) (Or.inl (by decide))
        have hZ167U : zU [a0b, a1b] Z Z167 := zU_u hZ165U hZ167 (Or.inr (List.Mem.head _))
        have r168 := zpt_0 (b := a1b) hZ167 (by decide)
        have hZ167K : zL [14, 42, 45, 47, 53, 54, 1112] [] n9 Z Z167 := zL_u hZ165K hZ167 (by decide)
        intro μ9 e9
        replace e9 := e9.trans (zm_wI (Z := Z165) (ν := ν15) hZ167 (rfl : ((a0b : Nat) : Int) = a0b) (i3I (y := ((Z161 11 a0b 0 12) % 60)) (i3R (zm_rd (Z := Z161) (ν := ν15) (k := 11) (rfl : ((a0b : Nat) : Int) = a0b) (show ((0 : Nat) : Int) = 0 from rfl) (show ((12 : Nat) : Int) = 12 from rfl)) (show (60 : Int32) = i3 60 from rfl) (by omega) (by omega) (by omega) (by omega)) (by omega) (by omega) (by omega)) (show ((1 : Nat) : Int) = 1 from rfl) (show (0 : Int32) = i3 0 from rfl))
        subst e9
        obtain ⟨Z169, hZ169⟩ := zx (zu Z167 53 a0b ((Z161 11 a0b 0 12) % 60) 2 (Z68 200 n9 0 2))
        replace hP := zl_e hP hZ169
        have hZ169I := zH_u hZ167I hZ169 (lo := -2147483648) (hi := 2147483647) (by decide) rfl (by omega) ⟨by decide, by decide⟩ (Or.inl (by decide)) rfl
        have hZ169U : zU [a0b, a1b] Z Z169 := zU_u hZ167U hZ169 (Or.inr (List.Mem.head _))
        have r170 := zpt_0 (b := a1b) hZ169 (by decide)
        have hZ169K : zL [14, 42, 45, 47, 53, 54, 1112] [] n9 Z Z169 := zL_u hZ167K hZ169 (by decide)
        intro μ9 e9
        replace e9 := e9.trans (zm_wI (Z := Z167) (ν := ν15) hZ169 (rfl : ((a0b : Nat) : Int) = a0b) (i3I (y := ((Z161 11 a0b 0 12) % 60)) (i3R (zm_rd (Z := Z161) (ν := ν15) (k := 11) (rfl : ((a0b : Nat) : Int) = a0b) (show ((0 : Nat) : Int) = 0 from rfl) (show ((12 : Nat) : Int) = 12 from rfl)) (show (60 : Int32) = i3 60 from rfl) (by omega) (by omega) (by omega) (by omega)) (by omega) (by omega) (by omega)) (show ((2 : Nat) : Int) = 2 from rfl) (zm_rd (Z := Z68) (ν := ν15) (k := 200) (rfl : ((n9 : Nat) : Int) = n9) (show ((0 : Nat) : Int) = 0 from rfl) (show ((2 : Nat) : Int) = 2 from rfl)))
        subst e9
        obtain ⟨Z171, hZ171⟩ := zx (zu Z169 53 a0b ((Z161 11 a0b 0 12) % 60) 3 (Z42 47 a0b (Z 54 a1b a1ij 0) 0))
        replace hP := zl_e hP hZ171
        have hZ171I := zH_u hZ169I hZ171 (lo := -2147483648) (hi := 2147483647) (by decide) rfl (by omega) ⟨by decide, by decide⟩ (Or.inl (by decide)) rfl
        have hZ171U : zU [a0b, a1b] Z Z171 := zU_u hZ169U hZ171 (Or.inr (List.Mem.head _))
        have r172 := zpt_0 (b := a1b) hZ171 (by decide)
        have hZ171K : zL [14, 42, 45, 47, 53, 54, 1112] [] n9 Z Z171 := zL_u hZ169K hZ171 (by decide)
        intro μ9 e9
        replace e9 := e9.trans (zm_wI (Z := Z169) (ν := ν15) hZ171 (rfl : ((a0b : Nat) : Int) = a0b) (i3I (y := ((Z161 11 a0b 0 12) % 60)) (i3R (zm_rd (Z := Z161) (ν := ν15) (k := 11) (rfl : ((a0b : Nat) : Int) = a0b) (show ((0 : Nat) : Int) = 0 from rfl) (show ((12 : Nat) : Int) = 12 from rfl)) (show (60 : Int32) = i3 60 from rfl) (by omega) (by omega) (by omega) (by omega)) (by omega) (by omega) (by omega)) (show ((3 : Nat) : Int) = 3 from rfl) (zm_rd (Z := Z42) (ν := ν15) (k := 47) (rfl : ((a0b : Nat) : Int) = a0b) (i3I (y := (Z 54 a1b a1ij 0)) (zm_rd (Z := Z) (ν := ν) (k := 54) (rfl : ((a1b : Nat) : Int) = a1b) ea1i (show ((0 : Nat) : Int) = 0 from rfl)) (by omega) (by omega) (by omega)) (show ((0 : Nat) : Int) = 0 from rfl)))
        subst e9
        have r173 := zH_k hZ171I 11 a0b 0 13 (lo := 0) (hi := 671) (by decide) rfl
        have q174 := (zu_ne (k' := 11) (b' := a0b) (i' := 0) (j' := 13) hZ171 (fun q => absurd q.1 (by decide))).trans ((zu_ne (k' := 11) (b' := a0b) (i' := 0) (j' := 13) hZ169 (fun q => absurd q.1 (by decide))).trans ((zu_ne (k' := 11) (b' := a0b) (i' := 0) (j' := 13) hZ167 (fun q => absurd q.1 (by decide))).trans ((zu_ne (k' := 11) (b' := a0b) (i' := 0) (j' := 13) hZ165 (fun q => absurd q.1 (by decide))).trans ((zu_ne (k' := 11) (b' := a0b) (i' := 0) (j' := 13) hZ161 (fun q => absurd q.1 (by decide))).trans ((zu_ne (k' := 11) (b' := a0b) (i' := 0) (j' := 13) hZ157 (fun q => absurd q.1 (by decide))).trans ((zu_ne (k' := 11) (b' := a0b) (i' := 0) (j' := 13) hZ68 (fun q => absurd q.2.2.2 (by decide))).trans (zu_ne (k' := 11) (b' := a0b) (i' := 0) (j' := 13) hZ64 (fun q => absurd q.1 (by decide)))))))))
        obtain ⟨Z175, hZ175⟩ := zx (zu Z171 53 a0b ((Z161 11 a0b 0 12) % 60) 4 (Z171 11 a0b 0 13))
        replace hP := zl_e hP hZ175
        have hZ175I := zH_u hZ171I hZ175 (lo := -2147483648) (hi := 2147483647) (by decide) rfl (by omega) ⟨by decide, by decide⟩ (Or.inl (by decide)) rfl
        have hZ175U : zU [a0b, a1b] Z Z175 := zU_u hZ171U hZ175 (Or.inr (List.Mem.head _))
        have r176 := zpt_0 (b := a1b) hZ175 (by decide)
        have hZ175K : zL [14, 42, 45, 47, 53, 54, 1112] [] n9 Z Z175 := zL_u hZ171K hZ175 (by decide)
        intro μ9 e9
        replace e9 := e9.trans (zm_wI (Z := Z171) (ν := ν15) hZ175 (rfl : ((a0b : Nat) : Int) = a0b) (i3I (y := ((Z161 11 a0b 0 12) % 60)) (i3R (zm_rd (Z := Z161) (ν := ν15) (k := 11) (rfl : ((a0b : Nat) : Int) = a0b) (show ((0 : Nat) : Int) = 0 from rfl) (show ((12 : Nat) : Int) = 12 from rfl)) (show (60 : Int32) = i3 60 from rfl) (by omega) (by omega) (by omega) (by omega)) (by omega) (by omega) (by omega)) (show ((4 : Nat) : Int) = 4 from rfl) (zm_rd (Z := Z171) (ν := ν15) (k := 11) (rfl : ((a0b : Nat) : Int) = a0b) (show ((0 : Nat) : Int) = 0 from rfl) (show ((13 : Nat) : Int) = 13 from rfl)))
        subst e9
        have r177 := zH_c12 hZ175I a0b (zbh (c := 1) (k := 0) hM (Nat.le_of_ble_eq_true rfl))
        have q178 := (zu_ne (k' := 11) (b' := a0b) (i' := 0) (j' := 12) hZ175 (fun q => absurd q.1 (by decide))).trans ((zu_ne (k' := 11) (b' := a0b) (i' := 0) (j' := 12) hZ171 (fun q => absurd q.1 (by decide))).trans ((zu_ne (k' := 11) (b' := a0b) (i' := 0) (j' := 12) hZ169 (fun q => absurd q.1 (by decide))).trans ((zu_ne (k' := 11) (b' := a0b) (i' := 0) (j' := 12) hZ167 (fun q => absurd q.1 (by decide))).trans (zu_ne (k' := 11) (b' := a0b) (i' := 0) (j' := 12) hZ165 (fun q => absurd q.1 (by decide))))))
        obtain ⟨Z179, hZ179⟩ := zx (zu Z175 11 a0b 0 12 ((Z175 11 a0b 0 12) + 1))
        replace hP := zl_e hP hZ179
        have hZ179I := zH_i12 hZ175I hZ179 (zbh (c := 1) (k := 1) hM (Nat.le_of_ble_eq_true rfl)) (by omega)
        replace hZ179I := zbt (c := 2) hZ179I rfl
        have hZ179U : zU [a0b, a1b] Z Z179 := zU_u hZ175U hZ179 (Or.inr (List.Mem.head _))
        have r180 := zpt_0 (b := a1b) hZ179 (by decide)
        have hZ179K : zL [14, 42, 45, 47, 53, 54, 1112] [] n9 Z Z179 := zL_u hZ175K hZ179 (by decide)
        intro μ9 e9
        replace e9 := e9.trans (zm_wI (Z := Z175) (ν := ν15) hZ179 (rfl : ((a0b : Nat) : Int) = a0b) (show ((0 : Nat) : Int) = 0 from rfl) (show ((12 : Nat) : Int) = 12 from rfl) (i3A (zm_rd (Z := Z175) (ν := ν15) (k := 11) (rfl : ((a0b : Nat) : Int) = a0b) (show ((0 : Nat) : Int) = 0 from rfl) (show ((12 : Nat) : Int) = 12 from rfl)) (show (1 : Int32) = i3 1 from rfl)))
        subst e9
        refine wz_i1 (by rw [zSh_t (zSh_Gl hSν7 gν15)]; rfl) ?_
        refine wz_i0 (by rw [zSh_l (zSh_Gl hSν7 gν15)]; exact i3O (n := 3) (show (0 : Int32) = i3 0 from rfl) (by omega) (by omega) (by omega)) ?_
        have r181 := zH_f hZ179I 42 a0b (Z42 44 a0b (Z42 47 a0b (Z 54 a1b a1ij 0) 0) 0) 2
        have r182 := zH_f hZ179I 200 n9 0 0
        have q183 := (zu_ne (k' := 200) (b' := n9) (i' := 0) (j' := 0) hZ179 (fun q => absurd q.1 (by decide))).trans ((zu_ne (k' := 200) (b' := n9) (i' := 0) (j' := 0) hZ175 (fun q => absurd q.1 (by decide))).trans ((zu_ne (k' := 200) (b' := n9) (i' := 0) (j' := 0) hZ171 (fun q => absurd q.1 (by decide))).trans ((zu_ne (k' := 200) (b' := n9) (i' := 0) (j' := 0) hZ169 (fun q => absurd q.1 (by decide))).trans ((zu_ne (k' := 200) (b' := n9) (i' := 0) (j' := 0) hZ167 (fun q => absurd q.1 (by decide))).trans ((zu_ne (k' := 200) (b' := n9) (i' := 0) (j' := 0) hZ165 (fun q => absurd q.1 (by decide))).trans ((zu_ne (k' := 200) (b' := n9) (i' := 0) (j' := 0) hZ161 (fun q => absurd q.1 (by decide))).trans (zu_ne (k' := 200) (b' := n9) (i' := 0) (j' := 0) hZ157 (fun q => absurd q.1 (by decide)))))))))
        obtain ⟨Z184, hZ184⟩ := zx (zu Z179 42 a0b (Z42 44 a0b (Z42 47 a0b (Z 54 a1b a1ij 0) 0) 0) 2 ((Z179 42 a0b (Z42 44 a0b (Z42 47 a0b (Z 54 a1b a1ij 0) 0) 0) 2) - (Z179 200 n9 0 0)))
        replace hP := zl_e hP hZ184
        have hZ184I := zH_u hZ179I hZ184 (lo := -2147483648) (hi := 2147483647) (by decide) rfl (by omega) ⟨by decide, by decide⟩ (Or.inl (by decide)) rfl
        have hZ184U : zU [a0b, a1b] Z Z184 := zU_u hZ179U hZ184 (Or.inr (List.Mem.head _))
        have r185 := zpt_0 (b := a1b) hZ184 (by decide)
        have hZ184K : zL [14, 42, 45, 47, 53, 54, 1112] [] n9 Z Z184 := zL_u hZ179K hZ184 (by decide)
        intro μ9 e9
        replace e9 := e9.trans (zm_wI (Z := Z179) (ν := ν15) hZ184 (rfl : ((a0b : Nat) : Int) = a0b) (i3I (y := (Z42 44 a0b (Z42 47 a0b (Z 54 a1b a1ij 0) 0) 0)) (zm_rd (Z := Z42) (ν := ν15) (k := 44) (rfl : ((a0b : Nat) : Int) = a0b) (i3I (y := (Z42 47 a0b (Z 54 a1b a1ij 0) 0)) (zm_rd (Z := Z42) (ν := ν15) (k := 47) (rfl : ((a0b : Nat) : Int) = a0b) (i3I (y := (Z 54 a1b a1ij 0)) (zm_rd (Z := Z) (ν := ν) (k := 54) (rfl : ((a1b : Nat) : Int) = a1b) ea1i (show ((0 : Nat) : Int) = 0 from rfl)) (by omega) (by omega) (by omega)) (show ((0 : Nat) : Int) = 0 from rfl)) (by omega) (by omega) (by omega)) (show ((0 : Nat) : Int) = 0 from rfl)) (by omega) (by omega) (by omega)) (show ((2 : Nat) : Int) = 2 from rfl) (i3S (zm_rd (Z := Z179) (ν := ν15) (k := 42) (rfl : ((a0b : Nat) : Int) = a0b) (i3I (y := (Z42 44 a0b (Z42 47 a0b (Z 54 a1b a1ij 0) 0) 0)) (zm_rd (Z := Z42) (ν := ν15) (k := 44) (rfl : ((a0b : Nat) : Int) = a0b) (i3I (y := (Z42 47 a0b (Z 54 a1b a1ij 0) 0)) (zm_rd (Z := Z42) (ν := ν15) (k := 47) (rfl : ((a0b : Nat) : Int) = a0b) (i3I (y := (Z 54 a1b a1ij 0)) (zm_rd (Z := Z) (ν := ν) (k := 54) (rfl : ((a1b : Nat) : Int) = a1b) ea1i (show ((0 : Nat) : Int) = 0 from rfl)) (by omega) (by omega) (by omega)) (show ((0 : Nat) : Int) = 0 from rfl)) (by omega) (by omega) (by omega)) (show ((0 : Nat) : Int) = 0 from rfl)) (by omega) (by omega) (by omega)) (show ((2 : Nat) : Int) = 2 from rfl)) (zm_rd (Z := Z179) (ν := ν15) (k := 200) (rfl : ((n9 : Nat) : Int) = n9) (show ((0 : Nat) : Int) = 0 from rfl) (show ((0 : Nat) : Int) = 0 from rfl))))
        subst e9
        refine wz_i1 (by rw [zSh_t (zSh_Gl hSν7 gν15)]; rfl) ?_
        refine wz_i0 (by rw [zSh_l (zSh_Gl hSν7 gν15)]; exact i3O (n := 3) (show (0 : Int32) = i3 0 from rfl) (by omega) (by omega) (by omega)) ?_
        have r186 := zH_f hZ184I 42 a0b (Z42 44 a0b (Z42 47 a0b (Z 54 a1b a1ij 0) 0) 0) 5
        have r187 := zH_f hZ184I 200 n9 0 0
        have q188 := zu_ne (k' := 200) (b' := n9) (i' := 0) (j' := 0) hZ184 (fun q => absurd q.1 (by decide))
        obtain ⟨Z189, hZ189⟩ := zx (zu Z184 42 a0b (Z42 44 a0b (Z42 47 a0b (Z 54 a1b a1ij 0) 0) 0) 5 ((Z184 42 a0b (Z42 44 a0b (Z42 47 a0b (Z 54 a1b a1ij 0) 0) 0) 5) + (Z184 200 n9 0 0)))
        replace hP := zl_e hP hZ189
        have hZ189I := zH_u hZ184I hZ189 (lo := -2147483648) (hi := 2147483647) (by decide) rfl (by omega) ⟨by decide, by decide⟩ (Or.inl (by decide)) rfl
        have hZ189U : zU [a0b, a1b] Z Z189 := zU_u hZ184U hZ189 (Or.inr (List.Mem.head _))
        have r190 := zpt_0 (b := a1b) hZ189 (by decide)
        have hZ189K : zL [14, 42, 45, 47, 53, 54, 1112] [] n9 Z Z189 := zL_u hZ184K hZ189 (by decide)
        intro μ9 e9
        replace e9 := e9.trans (zm_wI (Z := Z184) (ν := ν15) hZ189 (rfl : ((a0b : Nat) : Int) = a0b) (i3I (y := (Z42 44 a0b (Z42 47 a0b (Z 54 a1b a1ij 0) 0) 0)) (zm_rd (Z := Z42) (ν := ν15) (k := 44) (rfl : ((a0b : Nat) : Int) = a0b) (i3I (y := (Z42 47 a0b (Z 54 a1b a1ij 0) 0)) (zm_rd (Z := Z42) (ν := ν15) (k := 47) (rfl : ((a0b : Nat) : Int) = a0b) (i3I (y := (Z 54 a1b a1ij 0)) (zm_rd (Z := Z) (ν := ν) (k := 54) (rfl : ((a1b : Nat) : Int) = a1b) ea1i (show ((0 : Nat) : Int) = 0 from rfl)) (by omega) (by omega) (by omega)) (show ((0 : Nat) : Int) = 0 from rfl)) (by omega) (by omega) (by omega)) (show ((0 : Nat) : Int) = 0 from rfl)) (by omega) (by omega) (by omega)) (show ((5 : Nat) : Int) = 5 from rfl) (i3A (zm_rd (Z := Z184) (ν := ν15) (k := 42) (rfl : ((a0b : Nat) : Int) = a0b) (i3I (y := (Z42 44 a0b (Z42 47 a0b (Z 54 a1b a1ij 0) 0) 0)) (zm_rd (Z := Z42) (ν := ν15) (k := 44) (rfl : ((a0b : Nat) : Int) = a0b) (i3I (y := (Z42 47 a0b (Z 54 a1b a1ij 0) 0)) (zm_rd (Z := Z42) (ν := ν15) (k := 47) (rfl : ((a0b : Nat) : Int) = a0b) (i3I (y := (Z 54 a1b a1ij 0)) (zm_rd (Z := Z) (ν := ν) (k := 54) (rfl : ((a1b : Nat) : Int) = a1b) ea1i (show ((0 : Nat) : Int) = 0 from rfl)) (by omega) (by omega) (by omega)) (show ((0 : Nat) : Int) = 0 from rfl)) (by omega) (by omega) (by omega)) (show ((0 : Nat) : Int) = 0 from rfl)) (by omega) (by omega) (by omega)) (show ((5 : Nat) : Int) = 5 from rfl)) (zm_rd (Z := Z184) (ν := ν15) (k := 200) (rfl : ((n9 : Nat) : Int) = n9) (show ((0 : Nat) : Int) = 0 from rfl) (show ((0 : Nat) : Int) = 0 from rfl))))
        subst e9
        exact zlVn hP ⟨(zbw (a := 2) (c := 3) hZ189I (Nat.le_of_ble_eq_true rfl)), hZ189K, hZ189U, hnν15, hGν15, by omega, by omega, by omega⟩
      · replace hP := zE_n hP h153
        refine wz_i1 (by rw [zSh_t (zSh_Gl hSν7 gν15)]; rfl) ?_
        refine wz_i0 (by rw [zSh_l (zSh_Gl hSν7 gν15)]; exact i3O (n := 3) (show (0 : Int32) = i3 0 from rfl) (by omega) (by omega) (by omega)) ?_
        have r191 := zH_f hZ68I 42 a0b (Z42 44 a0b (Z42 47 a0b (Z 54 a1b a1ij 0) 0) 0) 2
        obtain ⟨Z192, hZ192⟩ := zx (zu Z68 42 a0b (Z42 44 a0b (Z42 47 a0b (Z 54 a1b a1ij 0) 0) 0) 2 ((Z68 42 a0b (Z42 44 a0b (Z42 47 a0b (Z 54 a1b a1ij 0) 0) 0) 2) - (Z68 200 n9 0 0)))
        replace hP := zl_e hP hZ192
        have hZ192I := zH_u hZ68I hZ192 (lo := -2147483648) (hi := 2147483647) (by decide) rfl (by omega) ⟨by decide, by decide⟩ (Or.inl (by decide)) rfl
        have hZ192U : zU [a0b, a1b] Z Z192 := zU_u hZ68U hZ192 (Or.inr (List.Mem.head _))
        have r193 := zpt_0 (b := a1b) hZ192 (by decide)
        have hZ192K : zL [14, 42, 45, 47, 53, 54, 1112] [] n9 Z Z192 := zL_u hZ68K hZ192 (by decide)
        intro μ9 e9
        replace e9 := e9.trans (zm_wI (Z := Z68) (ν := ν15) hZ192 (rfl : ((a0b : Nat) : Int) = a0b) (i3I (y := (Z42 44 a0b (Z42 47 a0b (Z 54 a1b a1ij 0) 0) 0)) (zm_rd (Z := Z42) (ν := ν15) (k := 44) (rfl : ((a0b : Nat) : Int) = a0b) (i3I (y := (Z42 47 a0b (Z 54 a1b a1ij 0) 0)) (zm_rd (Z := Z42) (ν := ν15) (k := 47) (rfl : ((a0b : Nat) : Int) = a0b) (i3I (y := (Z 54 a1b a1ij 0)) (zm_rd (Z := Z) (ν := ν) (k := 54) (rfl : ((a1b : Nat) : Int) = a1b) ea1i (show ((0 : Nat) : Int) = 0 from rfl)) (by omega) (by omega) (by omega)) (show ((0 : Nat) : Int) = 0 from rfl)) (by omega) (by omega) (by omega)) (show ((0 : Nat) : Int) = 0 from rfl)) (by omega) (by omega) (by omega)) (show ((2 : Nat) : Int) = 2 from rfl) (i3S (zm_rd (Z := Z68) (ν := ν15) (k := 42) (rfl : ((a0b : Nat) : Int) = a0b) (i3I (y := (Z42 44 a0b (Z42 47 a0b (Z 54 a1b a1ij 0) 0) 0)) (zm_rd (Z := Z42) (ν := ν15) (k := 44) (rfl : ((a0b : Nat) : Int) = a0b) (i3I (y := (Z42 47 a0b (Z 54 a1b a1ij 0) 0)) (zm_rd (Z := Z42) (ν := ν15) (k := 47) (rfl : ((a0b : Nat) : Int) = a0b) (i3I (y := (Z 54 a1b a1ij 0)) (zm_rd (Z := Z) (ν := ν) (k := 54) (rfl : ((a1b : Nat) : Int) = a1b) ea1i (show ((0 : Nat) : Int) = 0 from rfl)) (by omega) (by omega) (by omega)) (show ((0 : Nat) : Int) = 0 from rfl)) (by omega) (by omega) (by omega)) (show ((0 : Nat) : Int) = 0 from rfl)) (by omega) (by omega) (by omega)) (show ((2 : Nat) : Int) = 2 from rfl)) (zm_rd (Z := Z68) (ν := ν15) (k := 200) (rfl : ((n9 : Nat) : Int) = n9) (show ((0 : Nat) : Int) = 0 from rfl) (show ((0 : Nat) : Int) = 0 from rfl))))
        subst e9
        refine wz_i1 (by rw [zSh_t (zSh_Gl hSν7 gν15)]; rfl) ?_
        refine wz_i0 (by rw [zSh_l (zSh_Gl hSν7 gν15)]; exact i3O (n := 3) (show (0 : Int32) = i3 0 from rfl) (by omega) (by omega) (by omega)) ?_
        have r194 := zH_f hZ192I 42 a0b (Z42 44 a0b (Z42 47 a0b (Z 54 a1b a1ij 0) 0) 0) 5
        have r195 := zH_f hZ192I 200 n9 0 0
        have q196 := zu_ne (k' := 200) (b' := n9) (i' := 0) (j' := 0) hZ192 (fun q => absurd q.1 (by decide))
        obtain ⟨Z197, hZ197⟩ := zx (zu Z192 42 a0b (Z42 44 a0b (Z42 47 a0b (Z 54 a1b a1ij 0) 0) 0) 5 ((Z192 42 a0b (Z42 44 a0b (Z42 47 a0b (Z 54 a1b a1ij 0) 0) 0) 5) + (Z192 200 n9 0 0)))
        replace hP := zl_e hP hZ197
        have hZ197I := zH_u hZ192I hZ197 (lo := -2147483648) (hi := 2147483647) (by decide) rfl (by omega) ⟨by decide, by decide⟩ (Or.inl (by decide)) rfl
        have hZ197U : zU [a0b, a1b] Z Z197 := zU_u hZ192U hZ197 (Or.inr (List.Mem.head _))
        have r198 := zpt_0 (b := a1b) hZ197 (by decide)
        have hZ197K : zL [14, 42, 45, 47, 53, 54, 1112] [] n9 Z Z197 := zL_u hZ192K hZ197 (by decide)
        intro μ9 e9
        replace e9 := e9.trans (zm_wI (Z := Z192) (ν := ν15) hZ197 (rfl : ((a0b : Nat) : Int) = a0b) (i3I (y := (Z42 44 a0b (Z42 47 a0b (Z 54 a1b a1ij 0) 0) 0)) (zm_rd (Z := Z42) (ν := ν15) (k := 44) (rfl : ((a0b : Nat) : Int) = a0b) (i3I (y := (Z42 47 a0b (Z 54 a1b a1ij 0) 0)) (zm_rd (Z := Z42) (ν := ν15) (k := 47) (rfl : ((a0b : Nat) : Int) = a0b) (i3I (y := (Z 54 a1b a1ij 0)) (zm_rd (Z := Z) (ν := ν) (k := 54) (rfl : ((a1b : Nat) : Int) = a1b) ea1i (show ((0 : Nat) : Int) = 0 from rfl)) (by omega) (by omega) (by omega)) (show ((0 : Nat) : Int) = 0 from rfl)) (by omega) (by omega) (by omega)) (show ((0 : Nat) : Int) = 0 from rfl)) (by omega) (by omega) (by omega)) (show ((5 : Nat) : Int) = 5 from rfl) (i3A (zm_rd (Z := Z192) (ν := ν15) (k := 42) (rfl : ((a0b : Nat) : Int) = a0b) (i3I (y := (Z42 44 a0b (Z42 47 a0b (Z 54 a1b a1ij 0) 0) 0)) (zm_rd (Z := Z42) (ν := ν15) (k := 44) (rfl : ((a0b : Nat) : Int) = a0b) (i3I (y := (Z42 47 a0b (Z 54 a1b a1ij 0) 0)) (zm_rd (Z := Z42) (ν := ν15) (k := 47) (rfl : ((a0b : Nat) : Int) = a0b) (i3I (y := (Z 54 a1b a1ij 0)) (zm_rd (Z := Z) (ν := ν) (k := 54) (rfl : ((a1b : Nat) : Int) = a1b) ea1i (show ((0 : Nat) : Int) = 0 from rfl)) (by omega) (by omega) (by omega)) (show ((0 : Nat) : Int) = 0 from rfl)) (by omega) (by omega) (by omega)) (show ((0 : Nat) : Int) = 0 from rfl)) (by omega) (by omega) (by omega)) (show ((5 : Nat) : Int) = 5 from rfl)) (zm_rd (Z := Z192) (ν := ν15) (k := 200) (rfl : ((n9 : Nat) : Int) = n9) (show ((0 : Nat) : Int) = 0 from rfl) (show ((0 : Nat) : Int) = 0 from rfl))))
        subst e9
        exact zlVn hP ⟨(zbw (a := 1) (c := 3) hZ197I (Nat.le_of_ble_eq_true rfl)), hZ197K, hZ197U, hnν15, hGν15, by omega, by omega, by omega⟩
  · replace hP := zE_n hP h5
    obtain ⟨Z199, hZ199⟩ := zx (zu Z 54 a1b a1ij 2 1)
    replace hP := zl_e hP hZ199
    have hZ199I := zH_u hZ hZ199 (lo := 0) (hi := 2) (by decide) rfl (by omega) ⟨by decide, by decide⟩ (Or.inl (by decide)) rfl
    have hZ199U : zU [a0b, a1b] Z Z199 := zU_u zU_r hZ199 (Or.inr (List.Mem.tail _ (List.Mem.head _)))
    have r200 := zpt_54w (b := a1b) hZ199 (by omega) (by omega)
    have hZ199K : zL [14, 42, 45, 47, 53, 54, 1112] [] n9 Z Z199 := zL_u zL_r hZ199 (by decide)
    intro μ9 e9
    replace e9 := e9.trans (zm_wI (Z := Z) (ν := ν) hZ199 (rfl : ((a1b : Nat) : Int) = a1b) ea1i (show ((2 : Nat) : Int) = 2 from rfl) (show (1 : Int32) = i3 1 from rfl))
    subst e9
    exact zlVn hP ⟨(zbw (a := 0) (c := 3) hZ199I (Nat.le_of_ble_eq_true rfl)), hZ199K, hZ199U, hn, zGl_r, by omega, by omega, by omega⟩
/- yX0_payOut -/
def zl_8_1 (x0b : Int) : Nat → qz_Z → Int → qz_Z × Int
  | 0, Z, x1 => (Z, x1)
  | m + 1, Z, x1 => (if (Z 11 x0b 0 1) ≤ x1 then (Z, x1) else (if (Z 42 x0b x1 2) ≤ 0 then zl_8_1 x0b m Z (x1 + 1) else (zlet (zu Z 14 x0b 0 0 (w3 ((Z 14 x0b 0 0) - (Z 42 x0b x1 2)))) (fun Z7 => (zlet (zu Z7 14 x0b 0 2 (w3 ((Z7 14 x0b 0 2) + (Z 42 x0b x1 2)))) (fun Z10 => (zlet (zu Z10 53 x0b ((Z10 11 x0b 0 12) % 60) 0 0) (fun Z12 => (zlet (zu Z12 53 x0b ((Z10 11 x0b 0 12) % 60) 1 2) (fun Z13 => (zlet (zu Z13 53 x0b ((Z10 11 x0b 0 12) % 60) 2 (Z 42 x0b x1 2)) (fun Z14 => (zlet (zu Z14 53 x0b ((Z10 11 x0b 0 12) % 60) 3 (-1)) (fun Z15 => (zlet (zu Z15 53 x0b ((Z10 11 x0b 0 12) % 60) 4 (Z15 11 x0b 0 13)) (fun Z17 => (zlet (zu Z17 11 x0b 0 12 ((Z17 11 x0b 0 12) + 1)) (fun Z20 => (zlet (zu Z20 42 x0b x1 6 (w3 ((Z20 42 x0b x1 6) + (Z20 42 x0b x1 2)))) (fun Z25 => (zlet (zu Z25 42 x0b x1 2 0) (fun Z26 => zl_8_1 x0b m Z26 (x1 + 1)))))))))))))))))))))))
theorem sl_8_1 {s : zSM} {xM9 : Nat} {Zs Z : qz_Z} {ν : qz_N} (hZ : zH (zb s xM9) Z) (hM : s.2 + 7 ≤ 1000000000) (hK : zC [14, 42, 53, 1112] Zs Z) (x0b : Nat) {x1 : Int} (gx1 : 0 ≤ x1 ∧ x1 ≤ 6) (hU : zU [x0b] Zs Z) (hx9 : xM9 + 1 * ((6 - x1).toNat) + 1 ≤ 7) {k : wz_K} {R : wz_R} {L : qz_L} (hL : qz_fg [true, true, false] L = [some (.inr (.inr (some (10, x0b, 0)))), some (.inl (i3 x1)), none]) {T : qz_Z × Int} (hP : zE T (zl_8_1 x0b ((6 - x1).toNat + 1) Z x1)) (hk : ∀ (L9 : qz_L) (Z9 : qz_Z) (yx1 : Int), qz_fg [false, false, false] L9 = [none, none, none] → zH (zb s 7) Z9 → zC [14, 42, 53, 1112] Zs Z9 → zU [x0b] Zs Z9 → (0 ≤ yx1 ∧ yx1 ≤ 6) → zE T ((Z9, yx1)) → k 0 (L9, [], zm Z9 ν)) : wz_loop qb_8_1 65536 k R (L, [], zm Z ν) := by
  refine wz_lp sb_8_1 (fun m x => ∃ xM9 : Nat, ∃ Z : qz_Z, ∃ x1 : Int, qz_fg [true, true, false] x.1 = [some (.inr (.inr (some (10, x0b, 0)))), some (.inl (i3 x1)), none] ∧ x.2 = ([], zm Z ν) ∧ xM9 + 1 * m + 1 ≤ 7 ∧ zH (zb s xM9) Z ∧ zC [14, 42, 53, 1112] Zs Z ∧ zU [x0b] Zs Z ∧ m = (6 - x1).toNat ∧ (0 ≤ x1 ∧ x1 ≤ 6) ∧ zE T (zl_8_1 x0b (m + 1) Z x1)) ?_ 65536 ((6 - x1).toNat) _ (by omega) ⟨xM9, Z, x1, hL, rfl, hx9, hZ, hK, hU, rfl, gx1, hP⟩
  clear hP gx1 hx9 hZ hK hU hL
  clear x1
  clear Z
  clear xM9
  rintro m ⟨L, st, μ⟩ ⟨xM9, Z, x1, hL, hx, hx9, hZ, hK, hU, hm, gx1, hP⟩
  cases hx
  have hM9 : (zb s xM9).2 + 1 ≤ 1000000000 := by
    show s.2 + xM9 + 1 ≤ 1000000000
    omega
  refine fb_8_1 x0b (i3 x1) _ _ _ _ hL ?_
  have r1 := zH_k hZ 11 x0b 0 1 (lo := 0) (hi := 6) (by decide) rfl
  refine wz_br (i3Le (zm_rd (Z := Z) (ν := ν) (k := 11) (rfl : ((x0b : Nat) : Int) = x0b) (show ((0 : Nat) : Int) = 0 from rfl) (show ((1 : Nat) : Int) = 1 from rfl)) (rfl : i3 x1 = i3 x1) (by omega) (by omega) (by omega) (by omega)) (fun h2 => ?_) (fun h2 => ?_)
  · replace hP := zE_p hP h2
    exact hk _ _ _ (zconso rfl (zconso rfl (zconso rfl rfl))) (zbx0 hZ (by omega)) hK hU (by omega)  hP
  · replace hP := zE_n hP h2
    refine wz_i0 (i3O (n := 6) (rfl : i3 x1 = i3 x1) (by omega) (by omega) (by omega)) ?_
    have r3 := zH_f hZ 42 x0b x1 2
    refine wz_br (i3Le (zm_rd (Z := Z) (ν := ν) (k := 42) (rfl : ((x0b : Nat) : Int) = x0b) (i3I (y := x1) (rfl : i3 x1 = i3 x1) (by omega) (by omega) (by omega)) (show ((2 : Nat) : Int) = 2 from rfl)) (show (0 : Int32) = i3 0 from rfl) (by omega) (by omega) (by omega) (by omega)) (fun h4 => ?_) (fun h4 => ?_)
    · replace hP := zE_p hP h4
      obtain ⟨m2, rfl⟩ : ∃ m2, m = m2 + 1 := ⟨m - 1, by omega⟩
      exact wz_k1 ⟨m2, by omega, xM9, Z, (x1 + 1), (zconso rfl (zconso (zvo (i3A (rfl : i3 x1 = i3 x1) (show (1 : Int32) = i3 1 from rfl))) (zconso rfl rfl))), rfl, by omega, hZ, hK, hU, by omega, by omega,  hP⟩
    · replace hP := zE_n hP h4
      refine wz_i1 (Eq.trans (i3NE (zm_rd (Z := Z) (ν := ν) (k := 42) (rfl : ((x0b : Nat) : Int) = x0b) (i3I (y := x1) (rfl : i3 x1 = i3 x1) (by omega) (by omega) (by omega)) (show ((2 : Nat) : Int) = 2 from rfl)) (show (0 : Int32) = i3 0 from rfl) (by omega) (by omega) (by omega) (by omega)) (decide_eq_true (by omega))) ?_
      have r5 := zH_f hZ 14 x0b 0 0
      have r6 := w3_r ((Z 14 x0b 0 0) - (Z 42 x0b x1 2))
      obtain ⟨Z7, hZ7⟩ := zx (zu Z 14 x0b 0 0 (w3 ((Z 14 x0b 0 0) - (Z 42 x0b x1 2))))
      replace hP := zl_e hP hZ7
      have hZ7I := zH_u hZ hZ7 (lo := -2147483648) (hi := 2147483647) (by decide) rfl (by omega) ⟨by decide, by decide⟩ (Or.inl (by decide)) rfl
      have hZ7U : zU [x0b] Zs Z7 := zU_u hU hZ7 (Or.inr (List.Mem.head _))
      have hZ7K : zC [14, 42, 53, 1112] Zs Z7 := zC_u hK hZ7 (by decide)
      intro μ9 e9
      replace e9 := e9.trans (zm_wI (Z := Z) (ν := ν) hZ7 (rfl : ((x0b : Nat) : Int) = x0b) (show ((0 : Nat) : Int) = 0 from rfl) (show ((0 : Nat) : Int) = 0 from rfl) (i3W (i3S (zm_rd (Z := Z) (ν := ν) (k := 14) (rfl : ((x0b : Nat) : Int) = x0b) (show ((0 : Nat) : Int) = 0 from rfl) (show ((0 : Nat) : Int) = 0 from rfl)) (zm_rd (Z := Z) (ν := ν) (k := 42) (rfl : ((x0b : Nat) : Int) = x0b) (i3I (y := x1) (rfl : i3 x1 = i3 x1) (by omega) (by omega) (by omega)) (show ((2 : Nat) : Int) = 2 from rfl)))))
      subst e9
      have r8 := zH_f hZ7I 14 x0b 0 2
      have r9 := w3_r ((Z7 14 x0b 0 2) + (Z 42 x0b x1 2))
      obtain ⟨Z10, hZ10⟩ := zx (zu Z7 14 x0b 0 2 (w3 ((Z7 14 x0b 0 2) + (Z 42 x0b x1 2))))
      replace hP := zl_e hP hZ10
      have hZ10I := zH_u hZ7I hZ10 (lo := -2147483648) (hi := 2147483647) (by decide) rfl (by omega) ⟨by decide, by decide⟩ (Or.inl (by decide)) rfl
      have hZ10U : zU [x0b] Zs Z10 := zU_u hZ7U hZ10 (Or.inr (List.Mem.head _))
      have hZ10K : zC [14, 42, 53, 1112] Zs Z10 := zC_u hZ7K hZ10 (by decide)
      intro μ9 e9
      replace e9 := e9.trans (zm_wI (Z := Z7) (ν := ν) hZ10 (rfl : ((x0b : Nat) : Int) = x0b) (show ((0 : Nat) : Int) = 0 from rfl) (show ((2 : Nat) : Int) = 2 from rfl) (i3W (i3A (zm_rd (Z := Z7) (ν := ν) (k := 14) (rfl : ((x0b : Nat) : Int) = x0b) (show ((0 : Nat) : Int) = 0 from rfl) (show ((2 : Nat) : Int) = 2 from rfl)) (zm_rd (Z := Z) (ν := ν) (k := 42) (rfl : ((x0b : Nat) : Int) = x0b) (i3I (y := x1) (rfl : i3 x1 = i3 x1) (by omega) (by omega) (by omega)) (show ((2 : Nat) : Int) = 2 from rfl)))))
      subst e9
      have r11 := zH_c12 hZ10I x0b (zbh (c := 0) (k := 0) hM9 (Nat.le_of_ble_eq_true rfl))
      refine wz_i0 (i3O (n := 60) (i3R (zm_rd (Z := Z10) (ν := ν) (k := 11) (rfl : ((x0b : Nat) : Int) = x0b) (show ((0 : Nat) : Int) = 0 from rfl) (show ((12 : Nat) : Int) = 12 from rfl)) (show (60 : Int32) = i3 60 from rfl) (by omega) (by omega) (by omega) (by omega)) (by omega) (by omega) (by omega)) ?_
      obtain ⟨Z12, hZ12⟩ := zx (zu Z10 53 x0b ((Z10 11 x0b 0 12) % 60) 0 0)
      replace hP := zl_e hP hZ12
      have hZ12I := zH_0 hZ10I hZ12 (by decide) (Or.inl (by decide))
      have hZ12U : zU [x0b] Zs Z12 := zU_u hZ10U hZ12 (Or.inr (List.Mem.head _))
      have hZ12K : zC [14, 42, 53, 1112] Zs Z12 := zC_u hZ10K hZ12 (by decide)
      intro μ9 e9
      replace e9 := e9.trans (zm_wI (Z := Z10) (ν := ν) hZ12 (rfl : ((x0b : Nat) : Int) = x0b) (i3I (y := ((Z10 11 x0b 0 12) % 60)) (i3R (zm_rd (Z := Z10) (ν := ν) (k := 11) (rfl : ((x0b : Nat) : Int) = x0b) (show ((0 : Nat) : Int) = 0 from rfl) (show ((12 : Nat) : Int) = 12 from rfl)) (show (60 : Int32) = i3 60 from rfl) (by omega) (by omega) (by omega) (by omega)) (by omega) (by omega) (by omega)) (show ((0 : Nat) : Int) = 0 from rfl) (show (0 : Int32) = i3 0 from rfl))
      subst e9
      obtain ⟨Z13, hZ13⟩ := zx (zu Z12 53 x0b ((Z10 11 x0b 0 12) % 60) 1 2)
      replace hP := zl_e hP hZ13
      have hZ13I := zH_u hZ12I hZ13 (lo := -2147483648) (hi := 2147483647) (by decide) rfl (by omega) ⟨by decide, by decide⟩ (Or.inl (by decide)) rfl
      have hZ13U : zU [x0b] Zs Z13 := zU_u hZ12U hZ13 (Or.inr (List.Mem.head _))
      have hZ13K : zC [14, 42, 53, 1112] Zs Z13 := zC_u hZ12K hZ13 (by decide)
      intro μ9 e9
      replace e9 := e9.trans (zm_wI (Z := Z12) (ν := ν) hZ13 (rfl : ((x0b : Nat) : Int) = x0b) (i3I (y := ((Z10 11 x0b 0 12) % 60)) (i3R (zm_rd (Z := Z10) (ν := ν) (k := 11) (rfl : ((x0b : Nat) : Int) = x0b) (show ((0 : Nat) : Int) = 0 from rfl) (show ((12 : Nat) : Int) = 12 from rfl)) (show (60 : Int32) = i3 60 from rfl) (by omega) (by omega) (by omega) (by omega)) (by omega) (by omega) (by omega)) (show ((1 : Nat) : Int) = 1 from rfl) (show (2 : Int32) = i3 2 from rfl))
      subst e9
      obtain ⟨Z14, hZ14⟩ := zx (zu Z13 53 x0b ((Z10 11 x0b 0 12) % 60) 2 (Z 42 x0b x1 2))
      replace hP := zl_e hP hZ14
      have hZ14I := zH_u hZ13I hZ14 (lo := -2147483648) (hi := 2147483647) (by decide) rfl (by omega) ⟨by decide, by decide⟩ (Or.inl (by decide)) rfl
      have hZ14U : zU [x0b] Zs Z14 := zU_u hZ13U hZ14 (Or.inr (List.Mem.head _))
      have hZ14K : zC [14, 42, 53, 1112] Zs Z14 := zC_u hZ13K hZ14 (by decide)
      intro μ9 e9
      replace e9 := e9.trans (zm_wI (Z := Z13) (ν := ν) hZ14 (rfl : ((x0b : Nat) : Int) = x0b) (i3I (y := ((Z10 11 x0b 0 12) % 60)) (i3R (zm_rd (Z := Z10) (ν := ν) (k := 11) (rfl : ((x0b : Nat) : Int) = x0b) (show ((0 : Nat) : Int) = 0 from rfl) (show ((12 : Nat) : Int) = 12 from rfl)) (show (60 : Int32) = i3 60 from rfl) (by omega) (by omega) (by omega) (by omega)) (by omega) (by omega) (by omega)) (show ((2 : Nat) : Int) = 2 from rfl) (zm_rd (Z := Z) (ν := ν) (k := 42) (rfl : ((x0b : Nat) : Int) = x0b) (i3I (y := x1) (rfl : i3 x1 = i3 x1) (by omega) (by omega) (by omega)) (show ((2 : Nat) : Int) = 2 from rfl)))
      subst e9
      obtain ⟨Z15, hZ15⟩ := zx (zu Z14 53 x0b ((Z10 11 x0b 0 12) % 60) 3 (-1))
      replace hP := zl_e hP hZ15
      have hZ15I := zH_u hZ14I hZ15 (lo := -2147483648) (hi := 2147483647) (by decide) rfl (by omega) ⟨by decide, by decide⟩ (Or.inl (by decide)) rfl
      have hZ15U : zU [x0b] Zs Z15 := zU_u hZ14U hZ15 (Or.inr (List.Mem.head _))
      have hZ15K : zC [14, 42, 53, 1112] Zs Z15 := zC_u hZ14K hZ15 (by decide)
      intro μ9 e9
      replace e9 := e9.trans (zm_wI (Z := Z14) (ν := ν) hZ15 (rfl : ((x0b : Nat) : Int) = x0b) (i3I (y := ((Z10 11 x0b 0 12) % 60)) (i3R (zm_rd (Z := Z10) (ν := ν) (k := 11) (rfl : ((x0b : Nat) : Int) = x0b) (show ((0 : Nat) : Int) = 0 from rfl) (show ((12 : Nat) : Int) = 12 from rfl)) (show (60 : Int32) = i3 60 from rfl) (by omega) (by omega) (by omega) (by omega)) (by omega) (by omega) (by omega)) (show ((3 : Nat) : Int) = 3 from rfl) (show (-1 : Int32) = i3 (-1) from rfl))
      subst e9
      have r16 := zH_k hZ15I 11 x0b 0 13 (lo := 0) (hi := 671) (by decide) rfl
      obtain ⟨Z17, hZ17⟩ := zx (zu Z15 53 x0b ((Z10 11 x0b 0 12) % 60) 4 (Z15 11 x0b 0 13))
      replace hP := zl_e hP hZ17
      have hZ17I := zH_u hZ15I hZ17 (lo := -2147483648) (hi := 2147483647) (by decide) rfl (by omega) ⟨by decide, by decide⟩ (Or.inl (by decide)) rfl
      have hZ17U : zU [x0b] Zs Z17 := zU_u hZ15U hZ17 (Or.inr (List.Mem.head _))
      have hZ17K : zC [14, 42, 53, 1112] Zs Z17 := zC_u hZ15K hZ17 (by decide)
      intro μ9 e9
      replace e9 := e9.trans (zm_wI (Z := Z15) (ν := ν) hZ17 (rfl : ((x0b : Nat) : Int) = x0b) (i3I (y := ((Z10 11 x0b 0 12) % 60)) (i3R (zm_rd (Z := Z10) (ν := ν) (k := 11) (rfl : ((x0b : Nat) : Int) = x0b) (show ((0 : Nat) : Int) = 0 from rfl) (show ((12 : Nat) : Int) = 12 from rfl)) (show (60 : Int32) = i3 60 from rfl) (by omega) (by omega) (by omega) (by omega)) (by omega) (by omega) (by omega)) (show ((4 : Nat) : Int) = 4 from rfl) (zm_rd (Z := Z15) (ν := ν) (k := 11) (rfl : ((x0b : Nat) : Int) = x0b) (show ((0 : Nat) : Int) = 0 from rfl) (show ((13 : Nat) : Int) = 13 from rfl)))
      subst e9
      have r18 := zH_c12 hZ17I x0b (zbh (c := 0) (k := 0) hM9 (Nat.le_of_ble_eq_true rfl))
      have q19 := (zu_ne (k' := 11) (b' := x0b) (i' := 0) (j' := 12) hZ17 (fun q => absurd q.1 (by decide))).trans ((zu_ne (k' := 11) (b' := x0b) (i' := 0) (j' := 12) hZ15 (fun q => absurd q.1 (by decide))).trans ((zu_ne (k' := 11) (b' := x0b) (i' := 0) (j' := 12) hZ14 (fun q => absurd q.1 (by decide))).trans ((zu_ne (k' := 11) (b' := x0b) (i' := 0) (j' := 12) hZ13 (fun q => absurd q.1 (by decide))).trans (zu_ne (k' := 11) (b' := x0b) (i' := 0) (j' := 12) hZ12 (fun q => absurd q.1 (by decide))))))
      obtain ⟨Z20, hZ20⟩ := zx (zu Z17 11 x0b 0 12 ((Z17 11 x0b 0 12) + 1))
      replace hP := zl_e hP hZ20
      have hZ20I := zH_i12 hZ17I hZ20 (zbh (c := 0) (k := 1) hM9 (Nat.le_of_ble_eq_true rfl)) (by omega)
      have hZ20U : zU [x0b] Zs Z20 := zU_u hZ17U hZ20 (Or.inr (List.Mem.head _))
      have hZ20K : zC [14, 42, 53, 1112] Zs Z20 := zC_u hZ17K hZ20 (by decide)
      intro μ9 e9
      replace e9 := e9.trans (zm_wI (Z := Z17) (ν := ν) hZ20 (rfl : ((x0b : Nat) : Int) = x0b) (show ((0 : Nat) : Int) = 0 from rfl) (show ((12 : Nat) : Int) = 12 from rfl) (i3A (zm_rd (Z := Z17) (ν := ν) (k := 11) (rfl : ((x0b : Nat) : Int) = x0b) (show ((0 : Nat) : Int) = 0 from rfl) (show ((12 : Nat) : Int) = 12 from rfl)) (show (1 : Int32) = i3 1 from rfl)))
      subst e9
      have r21 := zH_f hZ20I 42 x0b x1 6
      have r22 := zH_f hZ20I 42 x0b x1 2
      have q23 := (zu_ne (k' := 42) (b' := x0b) (i' := x1) (j' := 2) hZ20 (fun q => absurd q.1 (by decide))).trans ((zu_ne (k' := 42) (b' := x0b) (i' := x1) (j' := 2) hZ17 (fun q => absurd q.1 (by decide))).trans ((zu_ne (k' := 42) (b' := x0b) (i' := x1) (j' := 2) hZ15 (fun q => absurd q.1 (by decide))).trans ((zu_ne (k' := 42) (b' := x0b) (i' := x1) (j' := 2) hZ14 (fun q => absurd q.1 (by decide))).trans ((zu_ne (k' := 42) (b' := x0b) (i' := x1) (j' := 2) hZ13 (fun q => absurd q.1 (by decide))).trans ((zu_ne (k' := 42) (b' := x0b) (i' := x1) (j' := 2) hZ12 (fun q => absurd q.1 (by decide))).trans ((zu_ne (k' := 42) (b' := x0b) (i' := x1) (j' := 2) hZ10 (fun q => absurd q.1 (by decide))).trans (zu_ne (k' := 42) (b' := x0b) (i' := x1) (j' := 2) hZ7 (fun q => absurd q.1 (by decide)))))))))
      have r24 := w3_r ((Z20 42 x0b x1 6) + (Z20 42 x0b x1 2))
      obtain ⟨Z25, hZ25⟩ := zx (zu Z20 42 x0b x1 6 (w3 ((Z20 42 x0b x1 6) + (Z20 42 x0b x1 2))))
      replace hP := zl_e hP hZ25
      have hZ25I := zH_u hZ20I hZ25 (lo := -2147483648) (hi := 2147483647) (by decide) rfl (by omega) ⟨by decide, by decide⟩ (Or.inl (by decide)) rfl
      have hZ25U : zU [x0b] Zs Z25 := zU_u hZ20U hZ25 (Or.inr (List.Mem.head _))
      have hZ25K : zC [14, 42, 53, 1112] Zs Z25 := zC_u hZ20K hZ25 (by decide)
      intro μ9 e9
      replace e9 := e9.trans (zm_wI (Z := Z20) (ν := ν) hZ25 (rfl : ((x0b : Nat) : Int) = x0b) (i3I (y := x1) (rfl : i3 x1 = i3 x1) (by omega) (by omega) (by omega)) (show ((6 : Nat) : Int) = 6 from rfl) (i3W (i3A (zm_rd (Z := Z20) (ν := ν) (k := 42) (rfl : ((x0b : Nat) : Int) = x0b) (i3I (y := x1) (rfl : i3 x1 = i3 x1) (by omega) (by omega) (by omega)) (show ((6 : Nat) : Int) = 6 from rfl)) (zm_rd (Z := Z20) (ν := ν) (k := 42) (rfl : ((x0b : Nat) : Int) = x0b) (i3I (y := x1) (rfl : i3 x1 = i3 x1) (by omega) (by omega) (by omega)) (show ((2 : Nat) : Int) = 2 from rfl)))))
      subst e9
      obtain ⟨Z26, hZ26⟩ := zx (zu Z25 42 x0b x1 2 0)
      replace hP := zl_e hP hZ26
      have hZ26I := zH_0 hZ25I hZ26 (by decide) (Or.inl (by decide))
      have hZ26U : zU [x0b] Zs Z26 := zU_u hZ25U hZ26 (Or.inr (List.Mem.head _))
      have hZ26K : zC [14, 42, 53, 1112] Zs Z26 := zC_u hZ25K hZ26 (by decide)
      intro μ9 e9
      replace e9 := e9.trans (zm_wI (Z := Z25) (ν := ν) hZ26 (rfl : ((x0b : Nat) : Int) = x0b) (i3I (y := x1) (rfl : i3 x1 = i3 x1) (by omega) (by omega) (by omega)) (show ((2 : Nat) : Int) = 2 from rfl) (show (0 : Int32) = i3 0 from rfl))
      subst e9
      obtain ⟨m2, rfl⟩ : ∃ m2, m = m2 + 1 := ⟨m - 1, by omega⟩
      exact wz_k1 ⟨m2, by omega, xM9 + 1, Z26, (x1 + 1), (zconso rfl (zconso (zvo (i3A (rfl : i3 x1 = i3 x1) (show (1 : Int32) = i3 1 from rfl))) (zconso rfl rfl))), rfl, by omega, (zbt hZ26I rfl), hZ26K, hZ26U, by omega, by omega,  hP⟩
/- yX0_payOut -/
def zf_8 (Z : qz_Z) (a0b : Int) : qz_Z := (zlet2 (zl_8_1 a0b 7 Z 0) (fun Z2 y1 => Z2))
theorem sp_8 {s : zSM} {Z : qz_Z} {ν : qz_N} (hZ : zH s Z) (a0b : Nat) (hM : s.2 + 7 ≤ 1000000000) : ∃ P : qz_Z, P = zf_8 Z a0b ∧ (qf_8 [.inr (.inr (some (10, a0b, 0)))] (zm Z ν) = some (zm P ν, .inl none) ∧ zH (zb s 7) P ∧ zC [14, 42, 53, 1112] Z P ∧ zU [a0b] Z P) := by
  obtain ⟨P, hP⟩ := zx (zf_8 Z a0b)
  refine zc_V (Q := fun P => zH (zb s 7) P ∧ zC [14, 42, 53, 1112] Z P ∧ zU [a0b] Z P) hP (fw_8 a0b _ _ ?_)
  replace hP : zE P (zf_8 Z a0b) := hP
  unfold zf_8 at hP
  refine sl_8_1 (ν := ν) (zb0 hZ) (zbh (c := 0) (k := 7) hM (Nat.le_of_ble_eq_true rfl)) (xM9 := 0) zC_r a0b (x1 := 0) (by omega) zU_r (Nat.le_of_ble_eq_true rfl)  (zconso rfl (zconso (zvo (show (0 : Int32) = i3 0 from rfl)) (zconso rfl rfl))) rfl ?_
  intro L3 Z2 y1 hL3 hZ2I kZ2 jZ2 gy1 q9
  replace hP := zl_e2 hP (Eq.symm q9)
  clear q9
  have hZ2U : zU [a0b] Z Z2 := zU_t zU_r jZ2 (zU_b1 (List.Mem.head _) zU_b0)
  have hZ2K : zC [14, 42, 53, 1112] Z Z2 := zC_t zC_r kZ2 (by decide)
  refine fc_8_2  _ _ _ _ hL3 ?_
  exact zlV hP ⟨hZ2I, hZ2K, hZ2U⟩
/- yX0_closeDay -/
def zl_4_1 (x0b : Int) : Nat → qz_Z → Int → Int → qz_Z × Int × Int
  | 0, Z, x1, x2 => (Z, x1, x2)
  | m + 1, Z, x1, x2 => (if (Z 11 x0b 0 2) ≤ x2 then (Z, x1, x2) else (zlet (zu Z 43 x0b x2 9 0) (fun Z3 => zl_4_1 x0b m Z3 (w3 (x1 + (Z 43 x0b x2 9))) (x2 + 1))))
theorem sl_4_1 {s : zSM} {Zs Z : qz_Z} {ν : qz_N} (hZ : zH s Z) (hM : s.2 + 0 ≤ 1000000000) (hK : zC [43] Zs Z) (x0b : Nat) {x1 : Int} (gx1 : -2147483648 ≤ x1 ∧ x1 ≤ 2147483647) {x2 : Int} (gx2 : 0 ≤ x2 ∧ x2 ≤ 6) (hU : zU [x0b] Zs Z) {k : wz_K} {R : wz_R} {L : qz_L} (hL : qz_fg [true, true, true, false] L = [some (.inr (.inr (some (10, x0b, 0)))), some (.inl (i3 x1)), some (.inl (i3 x2)), none]) {T : qz_Z × Int × Int} (hP : zE T (zl_4_1 x0b ((6 - x2).toNat + 1) Z x1 x2)) (hk : ∀ (L9 : qz_L) (Z9 : qz_Z) (yx1 yx2 : Int), qz_fg [true, true, false, false] L9 = [some (.inr (.inr (some (10, x0b, 0)))), some (.inl (i3 yx1)), none, none] → zH s Z9 → zC [43] Zs Z9 → zU [x0b] Zs Z9 → (-2147483648 ≤ yx1 ∧ yx1 ≤ 2147483647) → (0 ≤ yx2 ∧ yx2 ≤ 6) → zE T ((Z9, yx1, yx2)) → k 0 (L9, [], zm Z9 ν)) : wz_loop qb_4_1 65536 k R (L, [], zm Z ν) := by
  refine wz_lp sb_4_1 (fun m x => ∃ Z : qz_Z, ∃ x1 : Int, ∃ x2 : Int, qz_fg [true, true, true, false] x.1 = [some (.inr (.inr (some (10, x0b, 0)))), some (.inl (i3 x1)), some (.inl (i3 x2)), none] ∧ x.2 = ([], zm Z ν) ∧ zH s Z ∧ zC [43] Zs Z ∧ zU [x0b] Zs Z ∧ m = (6 - x2).toNat ∧ (-2147483648 ≤ x1 ∧ x1 ≤ 2147483647) ∧ (0 ≤ x2 ∧ x2 ≤ 6) ∧ zE T (zl_4_1 x0b (m + 1) Z x1 x2)) ?_ 65536 ((6 - x2).toNat) _ (by omega) ⟨Z, x1, x2, hL, rfl, hZ, hK, hU, rfl, gx1, gx2, hP⟩
  clear hP gx1 gx2 hZ hK hU hL
  clear x1 x2
  clear Z
  rintro m ⟨L, st, μ⟩ ⟨Z, x1, x2, hL, hx, hZ, hK, hU, hm, gx1, gx2, hP⟩
  cases hx
  refine fb_4_1 x0b (i3 x1) (i3 x2) _ _ _ _ hL ?_
  have r1 := zH_k hZ 11 x0b 0 2 (lo := 0) (hi := 6) (by decide) rfl
  refine wz_br (i3Le (zm_rd (Z := Z) (ν := ν) (k := 11) (rfl : ((x0b : Nat) : Int) = x0b) (show ((0 : Nat) : Int) = 0 from rfl) (show ((2 : Nat) : Int) = 2 from rfl)) (rfl : i3 x2 = i3 x2) (by omega) (by omega) (by omega) (by omega)) (fun h2 => ?_) (fun h2 => ?_)
  · replace hP := zE_p hP h2
    exact hk _ _ _ _ (zconso rfl (zconso (zvo (rfl : i3 x1 = i3 x1)) (zconso rfl (zconso rfl rfl)))) hZ hK hU (by omega) (by omega)  hP
  · replace hP := zE_n hP h2
    refine wz_i0 (i3O (n := 6) (rfl : i3 x2 = i3 x2) (by omega) (by omega) (by omega)) ?_
    refine wz_i0 (i3O (n := 6) (rfl : i3 x2 = i3 x2) (by omega) (by omega) (by omega)) ?_
    obtain ⟨Z3, hZ3⟩ := zx (zu Z 43 x0b x2 9 0)
    replace hP := zl_e hP hZ3
    have hZ3I := zH_0 hZ hZ3 (by decide) (Or.inl (by decide))
    have hZ3U : zU [x0b] Zs Z3 := zU_u hU hZ3 (Or.inr (List.Mem.head _))
    have r4 := zpt_0 (b := x0b) hZ3 (by decide)
    have hZ3K : zC [43] Zs Z3 := zC_u hK hZ3 (by decide)
    intro μ9 e9
    replace e9 := e9.trans (zm_wI (Z := Z) (ν := ν) hZ3 (rfl : ((x0b : Nat) : Int) = x0b) (i3I (y := x2) (rfl : i3 x2 = i3 x2) (by omega) (by omega) (by omega)) (show ((9 : Nat) : Int) = 9 from rfl) (show (0 : Int32) = i3 0 from rfl))
    subst e9
    have r5 := zH_f hZ 43 x0b x2 9
    have r6 := w3_r (x1 + (Z 43 x0b x2 9))
    obtain ⟨m2, rfl⟩ : ∃ m2, m = m2 + 1 := ⟨m - 1, by omega⟩
    exact wz_k1 ⟨m2, by omega, Z3, (w3 (x1 + (Z 43 x0b x2 9))), (x2 + 1), (zconso rfl (zconso (zvo (i3W (i3A (rfl : i3 x1 = i3 x1) (zm_rd (Z := Z) (ν := ν) (k := 43) (rfl : ((x0b : Nat) : Int) = x0b) (i3I (y := x2) (rfl : i3 x2 = i3 x2) (by omega) (by omega) (by omega)) (show ((9 : Nat) : Int) = 9 from rfl))))) (zconso (zvo (i3A (rfl : i3 x2 = i3 x2) (show (1 : Int32) = i3 1 from rfl))) (zconso rfl rfl)))), rfl, hZ3I, hZ3K, hZ3U, by omega, by omega, by omega,  hP⟩
/- yX0_closeDay -/
def zl_4_2 (x0b : Int) : Nat → qz_Z → Int → Int → qz_Z × Int × Int
  | 0, Z, n8, x2 => (Z, n8, x2)
  | m + 1, Z, n8, x2 => (if (Z 11 x0b 0 10) ≤ x2 then (Z, n8, x2) else (if (Z 54 x0b x2 2) ≠ 0 then zl_4_2 x0b m Z n8 (x2 + 1) else (zlet2 (zf_7 Z n8 x0b x0b x2) (fun Z5 n7 => zl_4_2 x0b m Z5 n7 (x2 + 1)))))
theorem sl_4_2 {gg : Int} {s : zSM} {xM9 : Nat} {Zs Z : qz_Z} {νs : qz_N} {ν : qz_N} (hZ : zH (zb s xM9) Z) (hM : s.2 + 39 ≤ 1000000000) (hs : s.1 = none) {n9 n8 : Nat} (hn : ν.2.2.2.1 = n8) (h98 : n9 ≤ n8) (hG : zGl 5 νs ν) (x0b : Nat) {x2 : Int} (gx2 : 0 ≤ x2 ∧ x2 ≤ 12) (hK : zL [14, 42, 45, 47, 53, 54, 1112] [] n9 Zs Z) (hU : zU [x0b] Zs Z) (hx9 : xM9 + 3 * ((12 - x2).toNat) + 3 ≤ 39) (gr0 : zpt Z x0b + n8 ≤ gg) {k : wz_K} {R : wz_R} {L : qz_L} (hL : qz_fg [true, false, true, false] L = [some (.inr (.inr (some (10, x0b, 0)))), none, some (.inl (i3 x2)), none]) {T : qz_Z × Int × Int} (hP : zE T (zl_4_2 x0b ((12 - x2).toNat + 1) Z n8 x2)) (hk : ∀ (L9 : qz_L) (Z9 : qz_Z) (ν9 : qz_N) (n7 : Nat) (yx2 : Int), qz_fg [true, false, false, false] L9 = [some (.inr (.inr (some (10, x0b, 0)))), none, none, none] → zH (zb s 39) Z9 → zL [14, 42, 45, 47, 53, 54, 1112] [] n9 Zs Z9 → zU [x0b] Zs Z9 → ν9.2.2.2.1 = n7 → zGl 5 νs ν9 → n9 ≤ n7 → (0 ≤ yx2 ∧ yx2 ≤ 12) → (zpt Z9 x0b + n7 ≤ gg) → zE T ((Z9, (n7 : Int), yx2)) → k 0 (L9, [], zm Z9 ν9)) : wz_loop qb_4_2 65536 k R (L, [], zm Z ν) := by
  refine wz_lp sb_4_2 (fun m x => ∃ xM9 : Nat, ∃ Z : qz_Z, ∃ ν : qz_N, ∃ n8 : Nat, ∃ x2 : Int, qz_fg [true, false, true, false] x.1 = [some (.inr (.inr (some (10, x0b, 0)))), none, some (.inl (i3 x2)), none] ∧ x.2 = ([], zm Z ν) ∧ xM9 + 3 * m + 3 ≤ 39 ∧ zH (zb s xM9) Z ∧ zL [14, 42, 45, 47, 53, 54, 1112] [] n9 Zs Z ∧ zU [x0b] Zs Z ∧ ν.2.2.2.1 = n8 ∧ n9 ≤ n8 ∧ zGl 5 νs ν ∧ m = (12 - x2).toNat ∧ (0 ≤ x2 ∧ x2 ≤ 12) ∧ (zpt Z x0b + n8 ≤ gg) ∧ zE T (zl_4_2 x0b (m + 1) Z n8 x2)) ?_ 65536 ((12 - x2).toNat) _ (by omega) ⟨xM9, Z, ν, n8, x2, hL, rfl, hx9, hZ, hK, hU, hn, h98, hG, rfl, gx2, gr0, hP⟩
  clear hP gr0 gx2 hx9 hZ hK hU hn h98 hG hL
  clear x2
  clear Z n8
  clear ν
  clear xM9
  rintro m ⟨L, st, μ⟩ ⟨xM9, Z, ν, n8, x2, hL, hx, hx9, hZ, hK, hU, hn, h98, hG, hm, gx2, gr0, hP⟩
  cases hx
  have hM9 : (zb s xM9).2 + 3 ≤ 1000000000 := by
    show s.2 + xM9 + 3 ≤ 1000000000
    omega
  refine fb_4_2 x0b (i3 x2) _ _ _ _ hL ?_
  have r1 := zH_k hZ 11 x0b 0 10 (lo := 0) (hi := 12) (by decide) rfl
  refine wz_br (i3Le (zm_rd (Z := Z) (ν := ν) (k := 11) (rfl : ((x0b : Nat) : Int) = x0b) (show ((0 : Nat) : Int) = 0 from rfl) (show ((10 : Nat) : Int) = 10 from rfl)) (rfl : i3 x2 = i3 x2) (by omega) (by omega) (by omega) (by omega)) (fun h2 => ?_) (fun h2 => ?_)
  · replace hP := zE_p hP h2
    exact hk _ _ _ _ _ (zconso rfl (zconso rfl (zconso rfl (zconso rfl rfl)))) (zbx0 hZ (by omega)) hK hU hn hG (by omega) (by omega) (by omega) hP
  · replace hP := zE_n hP h2
    refine wz_i0 (i3O (n := 12) (rfl : i3 x2 = i3 x2) (by omega) (by omega) (by omega)) ?_
    have r3 := zH_k hZ 54 x0b x2 2 (lo := 0) (hi := 2) (by decide) rfl
    refine wz_br (i3NE (zm_rd (Z := Z) (ν := ν) (k := 54) (rfl : ((x0b : Nat) : Int) = x0b) (i3I (y := x2) (rfl : i3 x2 = i3 x2) (by omega) (by omega) (by omega)) (show ((2 : Nat) : Int) = 2 from rfl)) (show (0 : Int32) = i3 0 from rfl) (by omega) (by omega) (by omega) (by omega)) (fun h4 => ?_) (fun h4 => ?_)
    · replace hP := zE_p hP h4
      obtain ⟨m2, rfl⟩ : ∃ m2, m = m2 + 1 := ⟨m - 1, by omega⟩
      exact wz_k1 ⟨m2, by omega, xM9, Z, ν, n8, (x2 + 1), (zconso rfl (zconso rfl (zconso (zvo (i3A (rfl : i3 x2 = i3 x2) (show (1 : Int32) = i3 1 from rfl))) (zconso rfl rfl)))), rfl, by omega, hZ, hK, hU, hn, by omega, hG, by omega, by omega, by omega,  hP⟩
    · replace hP := zE_n hP h4
      refine wz_i0 (i3O (n := 12) (rfl : i3 x2 = i3 x2) (by omega) (by omega) (by omega)) ?_
      obtain ⟨Z5, ν6, n7, hZ5, c9, hZ5I, kZ5, jZ5, hnν6, gν6, b1ν6, b2ν6, wZ50⟩ := sp_7 (ν := ν) hZ hs hn x0b x0b _ (i3I (y := x2) (rfl : i3 x2 = i3 x2) (by omega) (by omega) (by omega)) (by omega) (by omega) (zbh (c := 0) (k := 3) hM9 (Nat.le_of_ble_eq_true rfl))
      have hZ5U : zU [x0b] Zs Z5 := zU_t hU jZ5 (zU_b1 (List.Mem.head _) (zU_b1 (List.Mem.head _) zU_b0))
      have hZ5K : zL [14, 42, 45, 47, 53, 54, 1112] [] n9 Zs Z5 := zL_t hK kZ5 (by decide) zL_b0 (by omega)
      replace hP := zl_e2 hP hZ5
      refine wz_cV_of (zas (zcons rfl (zcons rfl rfl)) c9) ?_
      clear c9
      have hGν6 := zGl_t (K := 5) hG gν6
      obtain ⟨m2, rfl⟩ : ∃ m2, m = m2 + 1 := ⟨m - 1, by omega⟩
      exact wz_k1 ⟨m2, by omega, xM9 + 3, Z5, ν6, n7, (x2 + 1), (zconso rfl (zconso rfl (zconso (zvo (i3A (rfl : i3 x2 = i3 x2) (show (1 : Int32) = i3 1 from rfl))) (zconso rfl rfl)))), rfl, by omega, (zbt hZ5I rfl), hZ5K, hZ5U, hnν6, by omega, hGν6, by omega, by omega, by omega,  hP⟩
/- yX0_closeDay -/
def zl_4_3 (x0b : Int) : Nat → qz_Z → Int → qz_Z × Int
  | 0, Z, x2 => (Z, x2)
  | m + 1, Z, x2 => (if 8 < x2 then (Z, x2) else (if (Z 14 x0b 0 x2) ≤ 0 then (if (w3 (-(Z 14 x0b 0 x2))) ≠ 0 then (zlet (zu Z 14 x0b 0 9 (w3 ((Z 14 x0b 0 9) - (w3 (-(Z 14 x0b 0 x2)))))) (fun Z8 => (zlet (zu Z8 14 x0b 0 x2 (w3 ((Z8 14 x0b 0 x2) + (w3 (-(Z 14 x0b 0 x2)))))) (fun Z12 => (zlet (zu Z12 53 x0b ((Z12 11 x0b 0 12) % 60) 0 9) (fun Z15 => (zlet (zu Z15 53 x0b ((Z12 11 x0b 0 12) % 60) 1 x2) (fun Z17 => (zlet (zu Z17 53 x0b ((Z12 11 x0b 0 12) % 60) 2 (w3 (-(Z 14 x0b 0 x2)))) (fun Z19 => (zlet (zu Z19 53 x0b ((Z12 11 x0b 0 12) % 60) 3 (-1)) (fun Z21 => (zlet (zu Z21 53 x0b ((Z12 11 x0b 0 12) % 60) 4 (Z21 11 x0b 0 13)) (fun Z24 => (zlet (zu Z24 11 x0b 0 12 ((Z24 11 x0b 0 12) + 1)) (fun Z28 => zl_4_3 x0b m Z28 (x2 + 1))))))))))))))))) else zl_4_3 x0b m Z (x2 + 1)) else (zlet (zu Z 14 x0b 0 x2 ((Z 14 x0b 0 x2) - (Z 14 x0b 0 x2))) (fun Z30 => (zlet (zu Z30 14 x0b 0 9 (w3 ((Z30 14 x0b 0 9) + (Z 14 x0b 0 x2)))) (fun Z34 => (zlet (zu Z34 53 x0b ((Z34 11 x0b 0 12) % 60) 0 x2) (fun Z37 => (zlet (zu Z37 53 x0b ((Z34 11 x0b 0 12) % 60) 1 9) (fun Z39 => (zlet (zu Z39 53 x0b ((Z34 11 x0b 0 12) % 60) 2 (Z 14 x0b 0 x2)) (fun Z41 => (zlet (zu Z41 53 x0b ((Z34 11 x0b 0 12) % 60) 3 (-1)) (fun Z43 => (zlet (zu Z43 53 x0b ((Z34 11 x0b 0 12) % 60) 4 (Z43 11 x0b 0 13)) (fun Z46 => (zlet (zu Z46 11 x0b 0 12 ((Z46 11 x0b 0 12) + 1)) (fun Z50 => zl_4_3 x0b m Z50 (x2 + 1)))))))))))))))))))
theorem sl_4_3 {s : zSM} {xM9 : Nat} {Zs Z : qz_Z} {ν : qz_N} (hZ : zH (zb s xM9) Z) (hM : s.2 + 7 ≤ 1000000000) (hK : zC [14, 53, 1112] Zs Z) (x0b : Nat) {x2 : Int} (gx2 : 3 ≤ x2 ∧ x2 ≤ 9) (hU : zU [x0b] Zs Z) (hx9 : xM9 + 1 * ((9 - x2).toNat) + 1 ≤ 7) {k : wz_K} {R : wz_R} {L : qz_L} (hL : qz_fg [true, false, true, false] L = [some (.inr (.inr (some (10, x0b, 0)))), none, some (.inl (i3 x2)), none]) {T : qz_Z × Int} (hP : zE T (zl_4_3 x0b ((9 - x2).toNat + 1) Z x2)) (hk : ∀ (L9 : qz_L) (Z9 : qz_Z) (yx2 : Int), qz_fg [false, false, false, false] L9 = [none, none, none, none] → zH (zb s 7) Z9 → zC [14, 53, 1112] Zs Z9 → zU [x0b] Zs Z9 → (3 ≤ yx2 ∧ yx2 ≤ 9) → zE T ((Z9, yx2)) → k 0 (L9, [], zm Z9 ν)) : wz_loop qb_4_3 65536 k R (L, [], zm Z ν) := by
  refine wz_lp sb_4_3 (fun m x => ∃ xM9 : Nat, ∃ Z : qz_Z, ∃ x2 : Int, qz_fg [true, false, true, false] x.1 = [some (.inr (.inr (some (10, x0b, 0)))), none, some (.inl (i3 x2)), none] ∧ x.2 = ([], zm Z ν) ∧ xM9 + 1 * m + 1 ≤ 7 ∧ zH (zb s xM9) Z ∧ zC [14, 53, 1112] Zs Z ∧ zU [x0b] Zs Z ∧ m = (9 - x2).toNat ∧ (3 ≤ x2 ∧ x2 ≤ 9) ∧ zE T (zl_4_3 x0b (m + 1) Z x2)) ?_ 65536 ((9 - x2).toNat) _ (by omega) ⟨xM9, Z, x2, hL, rfl, hx9, hZ, hK, hU, rfl, gx2, hP⟩
  clear hP gx2 hx9 hZ hK hU hL
  clear x2
  clear Z
  clear xM9
  rintro m ⟨L, st, μ⟩ ⟨xM9, Z, x2, hL, hx, hx9, hZ, hK, hU, hm, gx2, hP⟩
  cases hx
  have hM9 : (zb s xM9).2 + 1 ≤ 1000000000 := by
    show s.2 + xM9 + 1 ≤ 1000000000
    omega
  refine fb_4_3 x0b (i3 x2) _ _ _ _ hL ?_
  refine wz_br (i3L (show (8 : Int32) = i3 8 from rfl) (rfl : i3 x2 = i3 x2) (by omega) (by omega) (by omega) (by omega)) (fun h1 => ?_) (fun h1 => ?_)
  · replace hP := zE_p hP h1
    exact hk _ _ _ (zconso rfl (zconso rfl (zconso rfl (zconso rfl rfl)))) (zbx0 hZ (by omega)) hK hU (by omega)  hP
  · replace hP := zE_n hP h1
    refine wz_i0 (i3O (n := 10) (rfl : i3 x2 = i3 x2) (by omega) (by omega) (by omega)) ?_
    have r2 := zH_f hZ 14 x0b 0 x2
    refine wz_br (i3Le (zm_rd (Z := Z) (ν := ν) (k := 14) (rfl : ((x0b : Nat) : Int) = x0b) (show ((0 : Nat) : Int) = 0 from rfl) (i3I (y := x2) (rfl : i3 x2 = i3 x2) (by omega) (by omega) (by omega))) (show (0 : Int32) = i3 0 from rfl) (by omega) (by omega) (by omega) (by omega)) (fun h3 => ?_) (fun h3 => ?_)
    · replace hP := zE_p hP h3
      have r4 := w3_r (-(Z 14 x0b 0 x2))
      refine wz_br (i3NE (i3W (i3G (zm_rd (Z := Z) (ν := ν) (k := 14) (rfl : ((x0b : Nat) : Int) = x0b) (show ((0 : Nat) : Int) = 0 from rfl) (i3I (y := x2) (rfl : i3 x2 = i3 x2) (by omega) (by omega) (by omega))))) (show (0 : Int32) = i3 0 from rfl) (by omega) (by omega) (by omega) (by omega)) (fun h5 => ?_) (fun h5 => ?_)
      · replace hP := zE_p hP h5
        have r6 := zH_f hZ 14 x0b 0 9
        have r7 := w3_r ((Z 14 x0b 0 9) - (w3 (-(Z 14 x0b 0 x2))))
        obtain ⟨Z8, hZ8⟩ := zx (zu Z 14 x0b 0 9 (w3 ((Z 14 x0b 0 9) - (w3 (-(Z 14 x0b 0 x2))))))
        replace hP := zl_e hP hZ8
        have hZ8I := zH_u hZ hZ8 (lo := -2147483648) (hi := 2147483647) (by decide) rfl (by omega) ⟨by decide, by decide⟩ (Or.inl (by decide)) rfl
        have hZ8U : zU [x0b] Zs Z8 := zU_u hU hZ8 (Or.inr (List.Mem.head _))
        have r9 := zpt_0 (b := x0b) hZ8 (by decide)
        have hZ8K : zC [14, 53, 1112] Zs Z8 := zC_u hK hZ8 (by decide)
        intro μ9 e9
        replace e9 := e9.trans (zm_wI (Z := Z) (ν := ν) hZ8 (rfl : ((x0b : Nat) : Int) = x0b) (show ((0 : Nat) : Int) = 0 from rfl) (show ((9 : Nat) : Int) = 9 from rfl) (i3W (i3S (zm_rd (Z := Z) (ν := ν) (k := 14) (rfl : ((x0b : Nat) : Int) = x0b) (show ((0 : Nat) : Int) = 0 from rfl) (show ((9 : Nat) : Int) = 9 from rfl)) (i3W (i3G (zm_rd (Z := Z) (ν := ν) (k := 14) (rfl : ((x0b : Nat) : Int) = x0b) (show ((0 : Nat) : Int) = 0 from rfl) (i3I (y := x2) (rfl : i3 x2 = i3 x2) (by omega) (by omega) (by omega))))))))
        subst e9
        refine wz_i0 (i3O (n := 10) (rfl : i3 x2 = i3 x2) (by omega) (by omega) (by omega)) ?_
        refine wz_i0 (i3O (n := 10) (rfl : i3 x2 = i3 x2) (by omega) (by omega) (by omega)) ?_
        have r10 := zH_f hZ8I 14 x0b 0 x2
        have r11 := w3_r ((Z8 14 x0b 0 x2) + (w3 (-(Z 14 x0b 0 x2))))
        obtain ⟨Z12, hZ12⟩ := zx (zu Z8 14 x0b 0 x2 (w3 ((Z8 14 x0b 0 x2) + (w3 (-(Z 14 x0b 0 x2))))))
        replace hP := zl_e hP hZ12
        have hZ12I := zH_u hZ8I hZ12 (lo := -2147483648) (hi := 2147483647) (by decide) (zrc_14 (by omega) (by omega)) (by omega) ⟨by decide, by decide⟩ (Or.inl (by decide)) rfl
        have hZ12U : zU [x0b] Zs Z12 := zU_u hZ8U hZ12 (Or.inr (List.Mem.head _))
        have r13 := zpt_0 (b := x0b) hZ12 (by decide)
        have hZ12K : zC [14, 53, 1112] Zs Z12 := zC_u hZ8K hZ12 rfl
        intro μ9 e9
        replace e9 := e9.trans (zm_wI (Z := Z8) (ν := ν) hZ12 (rfl : ((x0b : Nat) : Int) = x0b) (show ((0 : Nat) : Int) = 0 from rfl) (i3I (y := x2) (rfl : i3 x2 = i3 x2) (by omega) (by omega) (by omega)) (i3W (i3A (zm_rd (Z := Z8) (ν := ν) (k := 14) (rfl : ((x0b : Nat) : Int) = x0b) (show ((0 : Nat) : Int) = 0 from rfl) (i3I (y := x2) (rfl : i3 x2 = i3 x2) (by omega) (by omega) (by omega))) (i3W (i3G (zm_rd (Z := Z) (ν := ν) (k := 14) (rfl : ((x0b : Nat) : Int) = x0b) (show ((0 : Nat) : Int) = 0 from rfl) (i3I (y := x2) (rfl : i3 x2 = i3 x2) (by omega) (by omega) (by omega))))))))
        subst e9
        have r14 := zH_c12 hZ12I x0b (zbh (c := 0) (k := 0) hM9 (Nat.le_of_ble_eq_true rfl))
        refine wz_i0 (i3O (n := 60) (i3R (zm_rd (Z := Z12) (ν := ν) (k := 11) (rfl : ((x0b : Nat) : Int) = x0b) (show ((0 : Nat) : Int) = 0 from rfl) (show ((12 : Nat) : Int) = 12 from rfl)) (show (60 : Int32) = i3 60 from rfl) (by omega) (by omega) (by omega) (by omega)) (by omega) (by omega) (by omega)) ?_
        obtain ⟨Z15, hZ15⟩ := zx (zu Z12 53 x0b ((Z12 11 x0b 0 12) % 60) 0 9)
        replace hP := zl_e hP hZ15
        have hZ15I := zH_u hZ12I hZ15 (lo := -2147483648) (hi := 2147483647) (by decide) rfl (by omega) ⟨by decide, by decide⟩ (Or.inl (by decide)) rfl
        have hZ15U : zU [x0b] Zs Z15 := zU_u hZ12U hZ15 (Or.inr (List.Mem.head _))
        have r16 := zpt_0 (b := x0b) hZ15 (by decide)
        have hZ15K : zC [14, 53, 1112] Zs Z15 := zC_u hZ12K hZ15 (by decide)
        intro μ9 e9
        replace e9 := e9.trans (zm_wI (Z := Z12) (ν := ν) hZ15 (rfl : ((x0b : Nat) : Int) = x0b) (i3I (y := ((Z12 11 x0b 0 12) % 60)) (i3R (zm_rd (Z := Z12) (ν := ν) (k := 11) (rfl : ((x0b : Nat) : Int) = x0b) (show ((0 : Nat) : Int) = 0 from rfl) (show ((12 : Nat) : Int) = 12 from rfl)) (show (60 : Int32) = i3 60 from rfl) (by omega) (by omega) (by omega) (by omega)) (by omega) (by omega) (by omega)) (show ((0 : Nat) : Int) = 0 from rfl) (show (9 : Int32) = i3 9 from rfl))
        subst e9
        obtain ⟨Z17, hZ17⟩ := zx (zu Z15 53 x0b ((Z12 11 x0b 0 12) % 60) 1 x2)
        replace hP := zl_e hP hZ17
        have hZ17I := zH_u hZ15I hZ17 (lo := -2147483648) (hi := 2147483647) (by decide) rfl (by omega) ⟨by decide, by decide⟩ (Or.inl (by decide)) rfl
        have hZ17U : zU [x0b] Zs Z17 := zU_u hZ15U hZ17 (Or.inr (List.Mem.head _))
        have r18 := zpt_0 (b := x0b) hZ17 (by decide)
        have hZ17K : zC [14, 53, 1112] Zs Z17 := zC_u hZ15K hZ17 (by decide)
        intro μ9 e9
        replace e9 := e9.trans (zm_wI (Z := Z15) (ν := ν) hZ17 (rfl : ((x0b : Nat) : Int) = x0b) (i3I (y := ((Z12 11 x0b 0 12) % 60)) (i3R (zm_rd (Z := Z12) (ν := ν) (k := 11) (rfl : ((x0b : Nat) : Int) = x0b) (show ((0 : Nat) : Int) = 0 from rfl) (show ((12 : Nat) : Int) = 12 from rfl)) (show (60 : Int32) = i3 60 from rfl) (by omega) (by omega) (by omega) (by omega)) (by omega) (by omega) (by omega)) (show ((1 : Nat) : Int) = 1 from rfl) (rfl : i3 x2 = i3 x2))
        subst e9
        obtain ⟨Z19, hZ19⟩ := zx (zu Z17 53 x0b ((Z12 11 x0b 0 12) % 60) 2 (w3 (-(Z 14 x0b 0 x2))))
        replace hP := zl_e hP hZ19
        have hZ19I := zH_u hZ17I hZ19 (lo := -2147483648) (hi := 2147483647) (by decide) rfl (by omega) ⟨by decide, by decide⟩ (Or.inl (by decide)) rfl
        have hZ19U : zU [x0b] Zs Z19 := zU_u hZ17U hZ19 (Or.inr (List.Mem.head _))
        have r20 := zpt_0 (b := x0b) hZ19 (by decide)
        have hZ19K : zC [14, 53, 1112] Zs Z19 := zC_u hZ17K hZ19 (by decide)
        intro μ9 e9
        replace e9 := e9.trans (zm_wI (Z := Z17) (ν := ν) hZ19 (rfl : ((x0b : Nat) : Int) = x0b) (i3I (y := ((Z12 11 x0b 0 12) % 60)) (i3R (zm_rd (Z := Z12) (ν := ν) (k := 11) (rfl : ((x0b : Nat) : Int) = x0b) (show ((0 : Nat) : Int) = 0 from rfl) (show ((12 : Nat) : Int) = 12 from rfl)) (show (60 : Int32) = i3 60 from rfl) (by omega) (by omega) (by omega) (by omega)) (by omega) (by omega) (by omega)) (show ((2 : Nat) : Int) = 2 from rfl) (i3W (i3G (zm_rd (Z := Z) (ν := ν) (k := 14) (rfl : ((x0b : Nat) : Int) = x0b) (show ((0 : Nat) : Int) = 0 from rfl) (i3I (y := x2) (rfl : i3 x2 = i3 x2) (by omega) (by omega) (by omega))))))
        subst e9
        obtain ⟨Z21, hZ21⟩ := zx (zu Z19 53 x0b ((Z12 11 x0b 0 12) % 60) 3 (-1))
        replace hP := zl_e hP hZ21
        have hZ21I := zH_u hZ19I hZ21 (lo := -2147483648) (hi := 2147483647) (by decide) rfl (by omega) ⟨by decide, by decide⟩ (Or.inl (by decide)) rfl
        have hZ21U : zU [x0b] Zs Z21 := zU_u hZ19U hZ21 (Or.inr (List.Mem.head _))
        have r22 := zpt_0 (b := x0b) hZ21 (by decide)
        have hZ21K : zC [14, 53, 1112] Zs Z21 := zC_u hZ19K hZ21 (by decide)
        intro μ9 e9
        replace e9 := e9.trans (zm_wI (Z := Z19) (ν := ν) hZ21 (rfl : ((x0b : Nat) : Int) = x0b) (i3I (y := ((Z12 11 x0b 0 12) % 60)) (i3R (zm_rd (Z := Z12) (ν := ν) (k := 11) (rfl : ((x0b : Nat) : Int) = x0b) (show ((0 : Nat) : Int) = 0 from rfl) (show ((12 : Nat) : Int) = 12 from rfl)) (show (60 : Int32) = i3 60 from rfl) (by omega) (by omega) (by omega) (by omega)) (by omega) (by omega) (by omega)) (show ((3 : Nat) : Int) = 3 from rfl) (show (-1 : Int32) = i3 (-1) from rfl))
        subst e9
        have r23 := zH_k hZ21I 11 x0b 0 13 (lo := 0) (hi := 671) (by decide) rfl
        obtain ⟨Z24, hZ24⟩ := zx (zu Z21 53 x0b ((Z12 11 x0b 0 12) % 60) 4 (Z21 11 x0b 0 13))
        replace hP := zl_e hP hZ24
        have hZ24I := zH_u hZ21I hZ24 (lo := -2147483648) (hi := 2147483647) (by decide) rfl (by omega) ⟨by decide, by decide⟩ (Or.inl (by decide)) rfl
        have hZ24U : zU [x0b] Zs Z24 := zU_u hZ21U hZ24 (Or.inr (List.Mem.head _))
        have r25 := zpt_0 (b := x0b) hZ24 (by decide)
        have hZ24K : zC [14, 53, 1112] Zs Z24 := zC_u hZ21K hZ24 (by decide)
        intro μ9 e9
        replace e9 := e9.trans (zm_wI (Z := Z21) (ν := ν) hZ24 (rfl : ((x0b : Nat) : Int) = x0b) (i3I (y := ((Z12 11 x0b 0 12) % 60)) (i3R (zm_rd (Z := Z12) (ν := ν) (k := 11) (rfl : ((x0b : Nat) : Int) = x0b) (show ((0 : Nat) : Int) = 0 from rfl) (show ((12 : Nat) : Int) = 12 from rfl)) (show (60 : Int32) = i3 60 from rfl) (by omega) (by omega) (by omega) (by omega)) (by omega) (by omega) (by omega)) (show ((4 : Nat) : Int) = 4 from rfl) (zm_rd (Z := Z21) (ν := ν) (k := 11) (rfl : ((x0b : Nat) : Int) = x0b) (show ((0 : Nat) : Int) = 0 from rfl) (show ((13 : Nat) : Int) = 13 from rfl)))
        subst e9
        have r26 := zH_c12 hZ24I x0b (zbh (c := 0) (k := 0) hM9 (Nat.le_of_ble_eq_true rfl))
        have q27 := (zu_ne (k' := 11) (b' := x0b) (i' := 0) (j' := 12) hZ24 (fun q => absurd q.1 (by decide))).trans ((zu_ne (k' := 11) (b' := x0b) (i' := 0) (j' := 12) hZ21 (fun q => absurd q.1 (by decide))).trans ((zu_ne (k' := 11) (b' := x0b) (i' := 0) (j' := 12) hZ19 (fun q => absurd q.1 (by decide))).trans ((zu_ne (k' := 11) (b' := x0b) (i' := 0) (j' := 12) hZ17 (fun q => absurd q.1 (by decide))).trans (zu_ne (k' := 11) (b' := x0b) (i' := 0) (j' := 12) hZ15 (fun q => absurd q.1 (by decide))))))
        obtain ⟨Z28, hZ28⟩ := zx (zu Z24 11 x0b 0 12 ((Z24 11 x0b 0 12) + 1))
        replace hP := zl_e hP hZ28
        have hZ28I := zH_i12 hZ24I hZ28 (zbh (c := 0) (k := 1) hM9 (Nat.le_of_ble_eq_true rfl)) (by omega)
        have hZ28U : zU [x0b] Zs Z28 := zU_u hZ24U hZ28 (Or.inr (List.Mem.head _))
        have r29 := zpt_0 (b := x0b) hZ28 (by decide)
        have hZ28K : zC [14, 53, 1112] Zs Z28 := zC_u hZ24K hZ28 (by decide)
        intro μ9 e9
        replace e9 := e9.trans (zm_wI (Z := Z24) (ν := ν) hZ28 (rfl : ((x0b : Nat) : Int) = x0b) (show ((0 : Nat) : Int) = 0 from rfl) (show ((12 : Nat) : Int) = 12 from rfl) (i3A (zm_rd (Z := Z24) (ν := ν) (k := 11) (rfl : ((x0b : Nat) : Int) = x0b) (show ((0 : Nat) : Int) = 0 from rfl) (show ((12 : Nat) : Int) = 12 from rfl)) (show (1 : Int32) = i3 1 from rfl)))
        subst e9
        obtain ⟨m2, rfl⟩ : ∃ m2, m = m2 + 1 := ⟨m - 1, by omega⟩
        exact wz_k1 ⟨m2, by omega, xM9 + 1, Z28, (x2 + 1), (zconso rfl (zconso rfl (zconso (zvo (i3A (rfl : i3 x2 = i3 x2) (show (1 : Int32) = i3 1 from rfl))) (zconso rfl rfl)))), rfl, by omega, (zbt hZ28I rfl), hZ28K, hZ28U, by omega, by omega,  hP⟩
      · replace hP := zE_n hP h5
        obtain ⟨m2, rfl⟩ : ∃ m2, m = m2 + 1 := ⟨m - 1, by omega⟩
        exact wz_k1 ⟨m2, by omega, xM9, Z, (x2 + 1), (zconso rfl (zconso rfl (zconso (zvo (i3A (rfl : i3 x2 = i3 x2) (show (1 : Int32) = i3 1 from rfl))) (zconso rfl rfl)))), rfl, by omega, hZ, hK, hU, by omega, by omega,  hP⟩
    · replace hP := zE_n hP h3
      refine wz_i1 (Eq.trans (i3NE (zm_rd (Z := Z) (ν := ν) (k := 14) (rfl : ((x0b : Nat) : Int) = x0b) (show ((0 : Nat) : Int) = 0 from rfl) (i3I (y := x2) (rfl : i3 x2 = i3 x2) (by omega) (by omega) (by omega))) (show (0 : Int32) = i3 0 from rfl) (by omega) (by omega) (by omega) (by omega)) (decide_eq_true (by omega))) ?_
      refine wz_i0 (i3O (n := 10) (rfl : i3 x2 = i3 x2) (by omega) (by omega) (by omega)) ?_
      refine wz_i0 (i3O (n := 10) (rfl : i3 x2 = i3 x2) (by omega) (by omega) (by omega)) ?_
      obtain ⟨Z30, hZ30⟩ := zx (zu Z 14 x0b 0 x2 ((Z 14 x0b 0 x2) - (Z 14 x0b 0 x2)))
      replace hP := zl_e hP hZ30
      have hZ30I := zH_u hZ hZ30 (lo := -2147483648) (hi := 2147483647) (by decide) (zrc_14 (by omega) (by omega)) (by omega) ⟨by decide, by decide⟩ (Or.inl (by decide)) rfl
      have hZ30U : zU [x0b] Zs Z30 := zU_u hU hZ30 (Or.inr (List.Mem.head _))
      have r31 := zpt_0 (b := x0b) hZ30 (by decide)
      have hZ30K : zC [14, 53, 1112] Zs Z30 := zC_u hK hZ30 rfl
      intro μ9 e9
      replace e9 := e9.trans (zm_wI (Z := Z) (ν := ν) hZ30 (rfl : ((x0b : Nat) : Int) = x0b) (show ((0 : Nat) : Int) = 0 from rfl) (i3I (y := x2) (rfl : i3 x2 = i3 x2) (by omega) (by omega) (by omega)) (i3S (zm_rd (Z := Z) (ν := ν) (k := 14) (rfl : ((x0b : Nat) : Int) = x0b) (show ((0 : Nat) : Int) = 0 from rfl) (i3I (y := x2) (rfl : i3 x2 = i3 x2) (by omega) (by omega) (by omega))) (zm_rd (Z := Z) (ν := ν) (k := 14) (rfl : ((x0b : Nat) : Int) = x0b) (show ((0 : Nat) : Int) = 0 from rfl) (i3I (y := x2) (rfl : i3 x2 = i3 x2) (by omega) (by omega) (by omega)))))
      subst e9
      have r32 := zH_f hZ30I 14 x0b 0 9
      have r33 := w3_r ((Z30 14 x0b 0 9) + (Z 14 x0b 0 x2))
      obtain ⟨Z34, hZ34⟩ := zx (zu Z30 14 x0b 0 9 (w3 ((Z30 14 x0b 0 9) + (Z 14 x0b 0 x2))))
      replace hP := zl_e hP hZ34
      have hZ34I := zH_u hZ30I hZ34 (lo := -2147483648) (hi := 2147483647) (by decide) rfl (by omega) ⟨by decide, by decide⟩ (Or.inl (by decide)) rfl
      have hZ34U : zU [x0b] Zs Z34 := zU_u hZ30U hZ34 (Or.inr (List.Mem.head _))
      have r35 := zpt_0 (b := x0b) hZ34 (by decide)
      have hZ34K : zC [14, 53, 1112] Zs Z34 := zC_u hZ30K hZ34 (by decide)
      intro μ9 e9
      replace e9 := e9.trans (zm_wI (Z := Z30) (ν := ν) hZ34 (rfl : ((x0b : Nat) : Int) = x0b) (show ((0 : Nat) : Int) = 0 from rfl) (show ((9 : Nat) : Int) = 9 from rfl) (i3W (i3A (zm_rd (Z := Z30) (ν := ν) (k := 14) (rfl : ((x0b : Nat) : Int) = x0b) (show ((0 : Nat) : Int) = 0 from rfl) (show ((9 : Nat) : Int) = 9 from rfl)) (zm_rd (Z := Z) (ν := ν) (k := 14) (rfl : ((x0b : Nat) : Int) = x0b) (show ((0 : Nat) : Int) = 0 from rfl) (i3I (y := x2) (rfl : i3 x2 = i3 x2) (by omega) (by omega) (by omega))))))
      subst e9
      have r36 := zH_c12 hZ34I x0b (zbh (c := 0) (k := 0) hM9 (Nat.le_of_ble_eq_true rfl))
      refine wz_i0 (i3O (n := 60) (i3R (zm_rd (Z := Z34) (ν := ν) (k := 11) (rfl : ((x0b : Nat) : Int) = x0b) (show ((0 : Nat) : Int) = 0 from rfl) (show ((12 : Nat) : Int) = 12 from rfl)) (show (60 : Int32) = i3 60 from rfl) (by omega) (by omega) (by omega) (by omega)) (by omega) (by omega) (by omega)) ?_
      obtain ⟨Z37, hZ37⟩ := zx (zu Z34 53 x0b ((Z34 11 x0b 0 12) % 60) 0 x2)
      replace hP := zl_e hP hZ37
      have hZ37I := zH_u hZ34I hZ37 (lo := -2147483648) (hi := 2147483647) (by decide) rfl (by omega) ⟨by decide, by decide⟩ (Or.inl (by decide)) rfl
      have hZ37U : zU [x0b] Zs Z37 := zU_u hZ34U hZ37 (Or.inr (List.Mem.head _))
      have r38 := zpt_0 (b := x0b) hZ37 (by decide)
      have hZ37K : zC [14, 53, 1112] Zs Z37 := zC_u hZ34K hZ37 (by decide)
      intro μ9 e9
      replace e9 := e9.trans (zm_wI (Z := Z34) (ν := ν) hZ37 (rfl : ((x0b : Nat) : Int) = x0b) (i3I (y := ((Z34 11 x0b 0 12) % 60)) (i3R (zm_rd (Z := Z34) (ν := ν) (k := 11) (rfl : ((x0b : Nat) : Int) = x0b) (show ((0 : Nat) : Int) = 0 from rfl) (show ((12 : Nat) : Int) = 12 from rfl)) (show (60 : Int32) = i3 60 from rfl) (by omega) (by omega) (by omega) (by omega)) (by omega) (by omega) (by omega)) (show ((0 : Nat) : Int) = 0 from rfl) (rfl : i3 x2 = i3 x2))
      subst e9
      obtain ⟨Z39, hZ39⟩ := zx (zu Z37 53 x0b ((Z34 11 x0b 0 12) % 60) 1 9)
      replace hP := zl_e hP hZ39
      have hZ39I := zH_u hZ37I hZ39 (lo := -2147483648) (hi := 2147483647) (by decide) rfl (by omega) ⟨by decide, by decide⟩ (Or.inl (by decide)) rfl
      have hZ39U : zU [x0b] Zs Z39 := zU_u hZ37U hZ39 (Or.inr (List.Mem.head _))
      have r40 := zpt_0 (b := x0b) hZ39 (by decide)
      have hZ39K : zC [14, 53, 1112] Zs Z39 := zC_u hZ37K hZ39 (by decide)
      intro μ9 e9
      replace e9 := e9.trans (zm_wI (Z := Z37) (ν := ν) hZ39 (rfl : ((x0b : Nat) : Int) = x0b) (i3I (y := ((Z34 11 x0b 0 12) % 60)) (i3R (zm_rd (Z := Z34) (ν := ν) (k := 11) (rfl : ((x0b : Nat) : Int) = x0b) (show ((0 : Nat) : Int) = 0 from rfl) (show ((12 : Nat) : Int) = 12 from rfl)) (show (60 : Int32) = i3 60 from rfl) (by omega) (by omega) (by omega) (by omega)) (by omega) (by omega) (by omega)) (show ((1 : Nat) : Int) = 1 from rfl) (show (9 : Int32) = i3 9 from rfl))
      subst e9
      obtain ⟨Z41, hZ41⟩ := zx (zu Z39 53 x0b ((Z34 11 x0b 0 12) % 60) 2 (Z 14 x0b 0 x2))
      replace hP := zl_e hP hZ41
      have hZ41I := zH_u hZ39I hZ41 (lo := -2147483648) (hi := 2147483647) (by decide) rfl (by omega) ⟨by decide, by decide⟩ (Or.inl (by decide)) rfl
      have hZ41U : zU [x0b] Zs Z41 := zU_u hZ39U hZ41 (Or.inr (List.Mem.head _))
      have r42 := zpt_0 (b := x0b) hZ41 (by decide)
      have hZ41K : zC [14, 53, 1112] Zs Z41 := zC_u hZ39K hZ41 (by decide)
      intro μ9 e9
      replace e9 := e9.trans (zm_wI (Z := Z39) (ν := ν) hZ41 (rfl : ((x0b : Nat) : Int) = x0b) (i3I (y := ((Z34 11 x0b 0 12) % 60)) (i3R (zm_rd (Z := Z34) (ν := ν) (k := 11) (rfl : ((x0b : Nat) : Int) = x0b) (show ((0 : Nat) : Int) = 0 from rfl) (show ((12 : Nat) : Int) = 12 from rfl)) (show (60 : Int32) = i3 60 from rfl) (by omega) (by omega) (by omega) (by omega)) (by omega) (by omega) (by omega)) (show ((2 : Nat) : Int) = 2 from rfl) (zm_rd (Z := Z) (ν := ν) (k := 14) (rfl : ((x0b : Nat) : Int) = x0b) (show ((0 : Nat) : Int) = 0 from rfl) (i3I (y := x2) (rfl : i3 x2 = i3 x2) (by omega) (by omega) (by omega))))
      subst e9
      obtain ⟨Z43, hZ43⟩ := zx (zu Z41 53 x0b ((Z34 11 x0b 0 12) % 60) 3 (-1))
      replace hP := zl_e hP hZ43
      have hZ43I := zH_u hZ41I hZ43 (lo := -2147483648) (hi := 2147483647) (by decide) rfl (by omega) ⟨by decide, by decide⟩ (Or.inl (by decide)) rfl
      have hZ43U : zU [x0b] Zs Z43 := zU_u hZ41U hZ43 (Or.inr (List.Mem.head _))
      have r44 := zpt_0 (b := x0b) hZ43 (by decide)
      have hZ43K : zC [14, 53, 1112] Zs Z43 := zC_u hZ41K hZ43 (by decide)
      intro μ9 e9
      replace e9 := e9.trans (zm_wI (Z := Z41) (ν := ν) hZ43 (rfl : ((x0b : Nat) : Int) = x0b) (i3I (y := ((Z34 11 x0b 0 12) % 60)) (i3R (zm_rd (Z := Z34) (ν := ν) (k := 11) (rfl : ((x0b : Nat) : Int) = x0b) (show ((0 : Nat) : Int) = 0 from rfl) (show ((12 : Nat) : Int) = 12 from rfl)) (show (60 : Int32) = i3 60 from rfl) (by omega) (by omega) (by omega) (by omega)) (by omega) (by omega) (by omega)) (show ((3 : Nat) : Int) = 3 from rfl) (show (-1 : Int32) = i3 (-1) from rfl))
      subst e9
      have r45 := zH_k hZ43I 11 x0b 0 13 (lo := 0) (hi := 671) (by decide) rfl
      obtain ⟨Z46, hZ46⟩ := zx (zu Z43 53 x0b ((Z34 11 x0b 0 12) % 60) 4 (Z43 11 x0b 0 13))
      replace hP := zl_e hP hZ46
      have hZ46I := zH_u hZ43I hZ46 (lo := -2147483648) (hi := 2147483647) (by decide) rfl (by omega) ⟨by decide, by decide⟩ (Or.inl (by decide)) rfl
      have hZ46U : zU [x0b] Zs Z46 := zU_u hZ43U hZ46 (Or.inr (List.Mem.head _))
      have r47 := zpt_0 (b := x0b) hZ46 (by decide)
      have hZ46K : zC [14, 53, 1112] Zs Z46 := zC_u hZ43K hZ46 (by decide)
      intro μ9 e9
      replace e9 := e9.trans (zm_wI (Z := Z43) (ν := ν) hZ46 (rfl : ((x0b : Nat) : Int) = x0b) (i3I (y := ((Z34 11 x0b 0 12) % 60)) (i3R (zm_rd (Z := Z34) (ν := ν) (k := 11) (rfl : ((x0b : Nat) : Int) = x0b) (show ((0 : Nat) : Int) = 0 from rfl) (show ((12 : Nat) : Int) = 12 from rfl)) (show (60 : Int32) = i3 60 from rfl) (by omega) (by omega) (by omega) (by omega)) (by omega) (by omega) (by omega)) (show ((4 : Nat) : Int) = 4 from rfl) (zm_rd (Z := Z43) (ν := ν) (k := 11) (rfl : ((x0b : Nat) : Int) = x0b) (show ((0 : Nat) : Int) = 0 from rfl) (show ((13 : Nat) : Int) = 13 from rfl)))
      subst e9
      have r48 := zH_c12 hZ46I x0b (zbh (c := 0) (k := 0) hM9 (Nat.le_of_ble_eq_true rfl))
      have q49 := (zu_ne (k' := 11) (b' := x0b) (i' := 0) (j' := 12) hZ46 (fun q => absurd q.1 (by decide))).trans ((zu_ne (k' := 11) (b' := x0b) (i' := 0) (j' := 12) hZ43 (fun q => absurd q.1 (by decide))).trans ((zu_ne (k' := 11) (b' := x0b) (i' := 0) (j' := 12) hZ41 (fun q => absurd q.1 (by decide))).trans ((zu_ne (k' := 11) (b' := x0b) (i' := 0) (j' := 12) hZ39 (fun q => absurd q.1 (by decide))).trans (zu_ne (k' := 11) (b' := x0b) (i' := 0) (j' := 12) hZ37 (fun q => absurd q.1 (by decide))))))
      obtain ⟨Z50, hZ50⟩ := zx (zu Z46 11 x0b 0 12 ((Z46 11 x0b 0 12) + 1))
      replace hP := zl_e hP hZ50
      have hZ50I := zH_i12 hZ46I hZ50 (zbh (c := 0) (k := 1) hM9 (Nat.le_of_ble_eq_true rfl)) (by omega)
      have hZ50U : zU [x0b] Zs Z50 := zU_u hZ46U hZ50 (Or.inr (List.Mem.head _))
      have r51 := zpt_0 (b := x0b) hZ50 (by decide)
      have hZ50K : zC [14, 53, 1112] Zs Z50 := zC_u hZ46K hZ50 (by decide)
      intro μ9 e9
      replace e9 := e9.trans (zm_wI (Z := Z46) (ν := ν) hZ50 (rfl : ((x0b : Nat) : Int) = x0b) (show ((0 : Nat) : Int) = 0 from rfl) (show ((12 : Nat) : Int) = 12 from rfl) (i3A (zm_rd (Z := Z46) (ν := ν) (k := 11) (rfl : ((x0b : Nat) : Int) = x0b) (show ((0 : Nat) : Int) = 0 from rfl) (show ((12 : Nat) : Int) = 12 from rfl)) (show (1 : Int32) = i3 1 from rfl)))
      subst e9
      obtain ⟨m2, rfl⟩ : ∃ m2, m = m2 + 1 := ⟨m - 1, by omega⟩
      exact wz_k1 ⟨m2, by omega, xM9 + 1, Z50, (x2 + 1), (zconso rfl (zconso rfl (zconso (zvo (i3A (rfl : i3 x2 = i3 x2) (show (1 : Int32) = i3 1 from rfl))) (zconso rfl rfl)))), rfl, by omega, (zbt hZ50I rfl), hZ50K, hZ50U, by omega, by omega,  hP⟩
/- yX0_closeDay -/
def zf_4 (Z : qz_Z) (n9 : Int) (a0b : Int) : qz_Z × Int := (zlet3 (zl_4_1 a0b 7 Z 0 0) (fun Z3 y1 y2 => (if (w3 (y1 * (Z3 13 a0b 0 1))) ≠ 0 then (zlet (zu Z3 14 a0b 0 0 (w3 ((Z3 14 a0b 0 0) - (w3 (y1 * (Z3 13 a0b 0 1)))))) (fun Z11 => (zlet (zu Z11 14 a0b 0 4 (w3 ((Z11 14 a0b 0 4) + (w3 (y1 * (Z3 13 a0b 0 1)))))) (fun Z15 => (zlet (zu Z15 53 a0b ((Z15 11 a0b 0 12) % 60) 0 0) (fun Z18 => (zlet (zu Z18 53 a0b ((Z15 11 a0b 0 12) % 60) 1 4) (fun Z20 => (zlet (zu Z20 53 a0b ((Z15 11 a0b 0 12) % 60) 2 (w3 (y1 * (Z3 13 a0b 0 1)))) (fun Z22 => (zlet (zu Z22 53 a0b ((Z15 11 a0b 0 12) % 60) 3 (-1)) (fun Z24 => (zlet (zu Z24 53 a0b ((Z15 11 a0b 0 12) % 60) 4 (Z24 11 a0b 0 13)) (fun Z27 => (zlet (zu Z27 11 a0b 0 12 ((Z27 11 a0b 0 12) + 1)) (fun Z31 => (zlet3 (zl_4_2 a0b 13 Z31 n9 0) (fun Z34 n37 y33 => (if (z2 (fun x y => x - x / y * y) (((Z34 11 a0b 0 13) / 24) - 1) 7) ≠ 6 then (zlet2 (zl_4_3 a0b 7 Z34 3) (fun Z43 y42 => (Z43, n37))) else (zlet (zf_8 Z34 a0b) (fun Z46 => (zlet2 (zl_4_3 a0b 7 Z46 3) (fun Z49 y48 => (Z49, n37)))))))))))))))))))))))) else (zlet3 (zl_4_2 a0b 13 Z3 n9 0) (fun Z53 n56 y52 => (if (z2 (fun x y => x - x / y * y) (((Z53 11 a0b 0 13) / 24) - 1) 7) ≠ 6 then (zlet2 (zl_4_3 a0b 7 Z53 3) (fun Z61 y60 => (Z61, n56))) else (zlet (zf_8 Z53 a0b) (fun Z64 => (zlet2 (zl_4_3 a0b 7 Z64 3) (fun Z67 y66 => (Z67, n56)))))))))))
theorem sp_4 {s : zSM} {Z : qz_Z} {ν : qz_N} (hZ : zH s Z) (hs : s.1 = none) {n9 : Nat} (hn : ν.2.2.2.1 = n9) (a0b : Nat) (hM : s.2 + 54 ≤ 1000000000) : ∃ (Z1 : qz_Z) (ν1 : qz_N) (n1 : Nat), (Z1, (n1 : Int)) = zf_4 Z n9 a0b ∧ (qf_4 [.inr (.inr (some (10, a0b, 0)))] (zm Z ν) = some (zm Z1 ν1, .inl none) ∧ zH (zb s 54) Z1 ∧ zL [14, 42, 43, 45, 47, 53, 54, 1112] [] n9 Z Z1 ∧ zU [a0b] Z Z1 ∧ ν1.2.2.2.1 = n1 ∧ zGl 5 ν ν1 ∧ n9 ≤ n1 ∧ zpt Z1 a0b + n1 ≤ zpt Z a0b + n9) := by
  obtain ⟨P, hP⟩ := zx (zf_4 Z n9 a0b)
  refine zc_Vn (Q := fun Z1 ν1 n1 => zH (zb s 54) Z1 ∧ zL [14, 42, 43, 45, 47, 53, 54, 1112] [] n9 Z Z1 ∧ zU [a0b] Z Z1 ∧ ν1.2.2.2.1 = n1 ∧ zGl 5 ν ν1 ∧ n9 ≤ n1 ∧ zpt Z1 a0b + n1 ≤ zpt Z a0b + n9) hP (fw_4 a0b _ _ ?_)
  replace hP : zE P (zf_4 Z n9 a0b) := hP
  unfold zf_4 at hP
  refine sl_4_1 (ν := ν) hZ (zbh (c := 0) (k := 0) hM (Nat.le_of_ble_eq_true rfl)) zC_r a0b (x1 := 0) (by omega) (x2 := 0) (by omega) zU_r  (zconso rfl (zconso (zvo (show (0 : Int32) = i3 0 from rfl)) (zconso (zvo (show (0 : Int32) = i3 0 from rfl)) (zconso rfl rfl)))) rfl ?_
  intro L4 Z3 y1 y2 hL4 hZ3I kZ3 jZ3 gy1 gy2 q9
  replace hP := zl_e3 hP (Eq.symm q9)
  clear q9
  have hZ3U : zU [a0b] Z Z3 := zU_t zU_r jZ3 (zU_b1 (List.Mem.head _) zU_b0)
  have r5 := zpt_c (b := a0b) kZ3 (by decide)
  have hZ3K : zL [14, 42, 43, 45, 47, 53, 54, 1112] [] n9 Z Z3 := zL_c zL_r kZ3 (by decide)
  refine fc_4_6 _ (i3 y1) _ _ _ _ hL4 ?_
  have r6 := zH_k hZ3I 13 a0b 0 1 (lo := 0) (hi := 99999) (by decide) rfl
  have r7 := w3_r (y1 * (Z3 13 a0b 0 1))
  refine wz_br (i3NE (i3W (i3M (rfl : i3 y1 = i3 y1) (zm_rd (Z := Z3) (ν := ν) (k := 13) (rfl : ((a0b : Nat) : Int) = a0b) (show ((0 : Nat) : Int) = 0 from rfl) (show ((1 : Nat) : Int) = 1 from rfl)))) (show (0 : Int32) = i3 0 from rfl) (by omega) (by omega) (by omega) (by omega)) (fun h8 => ?_) (fun h8 => ?_)
  · replace hP := zE_p hP h8
    have r9 := zH_f hZ3I 14 a0b 0 0
    have r10 := w3_r ((Z3 14 a0b 0 0) - (w3 (y1 * (Z3 13 a0b 0 1))))
    obtain ⟨Z11, hZ11⟩ := zx (zu Z3 14 a0b 0 0 (w3 ((Z3 14 a0b 0 0) - (w3 (y1 * (Z3 13 a0b 0 1))))))
    replace hP := zl_e hP hZ11
    have hZ11I := zH_u hZ3I hZ11 (lo := -2147483648) (hi := 2147483647) (by decide) rfl (by omega) ⟨by decide, by decide⟩ (Or.inl (by decide)) rfl
    have hZ11U : zU [a0b] Z Z11 := zU_u hZ3U hZ11 (Or.inr (List.Mem.head _))
    have r12 := zpt_0 (b := a0b) hZ11 (by decide)
    have hZ11K : zL [14, 42, 43, 45, 47, 53, 54, 1112] [] n9 Z Z11 := zL_u hZ3K hZ11 (by decide)
    intro μ9 e9
    replace e9 := e9.trans (zm_wI (Z := Z3) (ν := ν) hZ11 (rfl : ((a0b : Nat) : Int) = a0b) (show ((0 : Nat) : Int) = 0 from rfl) (show ((0 : Nat) : Int) = 0 from rfl) (i3W (i3S (zm_rd (Z := Z3) (ν := ν) (k := 14) (rfl : ((a0b : Nat) : Int) = a0b) (show ((0 : Nat) : Int) = 0 from rfl) (show ((0 : Nat) : Int) = 0 from rfl)) (i3W (i3M (rfl : i3 y1 = i3 y1) (zm_rd (Z := Z3) (ν := ν) (k := 13) (rfl : ((a0b : Nat) : Int) = a0b) (show ((0 : Nat) : Int) = 0 from rfl) (show ((1 : Nat) : Int) = 1 from rfl)))))))
    subst e9
    have r13 := zH_f hZ11I 14 a0b 0 4
    have r14 := w3_r ((Z11 14 a0b 0 4) + (w3 (y1 * (Z3 13 a0b 0 1))))
    obtain ⟨Z15, hZ15⟩ := zx (zu Z11 14 a0b 0 4 (w3 ((Z11 14 a0b 0 4) + (w3 (y1 * (Z3 13 a0b 0 1))))))
    replace hP := zl_e hP hZ15
    have hZ15I := zH_u hZ11I hZ15 (lo := -2147483648) (hi := 2147483647) (by decide) rfl (by omega) ⟨by decide, by decide⟩ (Or.inl (by decide)) rfl
    have hZ15U : zU [a0b] Z Z15 := zU_u hZ11U hZ15 (Or.inr (List.Mem.head _))
    have r16 := zpt_0 (b := a0b) hZ15 (by decide)
    have hZ15K : zL [14, 42, 43, 45, 47, 53, 54, 1112] [] n9 Z Z15 := zL_u hZ11K hZ15 (by decide)
    intro μ9 e9
    replace e9 := e9.trans (zm_wI (Z := Z11) (ν := ν) hZ15 (rfl : ((a0b : Nat) : Int) = a0b) (show ((0 : Nat) : Int) = 0 from rfl) (show ((4 : Nat) : Int) = 4 from rfl) (i3W (i3A (zm_rd (Z := Z11) (ν := ν) (k := 14) (rfl : ((a0b : Nat) : Int) = a0b) (show ((0 : Nat) : Int) = 0 from rfl) (show ((4 : Nat) : Int) = 4 from rfl)) (i3W (i3M (rfl : i3 y1 = i3 y1) (zm_rd (Z := Z3) (ν := ν) (k := 13) (rfl : ((a0b : Nat) : Int) = a0b) (show ((0 : Nat) : Int) = 0 from rfl) (show ((1 : Nat) : Int) = 1 from rfl)))))))
    subst e9
    have r17 := zH_c12 hZ15I a0b (zbh (c := 0) (k := 0) hM (Nat.le_of_ble_eq_true rfl))
    refine wz_i0 (i3O (n := 60) (i3R (zm_rd (Z := Z15) (ν := ν) (k := 11) (rfl : ((a0b : Nat) : Int) = a0b) (show ((0 : Nat) : Int) = 0 from rfl) (show ((12 : Nat) : Int) = 12 from rfl)) (show (60 : Int32) = i3 60 from rfl) (by omega) (by omega) (by omega) (by omega)) (by omega) (by omega) (by omega)) ?_
    obtain ⟨Z18, hZ18⟩ := zx (zu Z15 53 a0b ((Z15 11 a0b 0 12) % 60) 0 0)
    replace hP := zl_e hP hZ18
    have hZ18I := zH_0 hZ15I hZ18 (by decide) (Or.inl (by decide))
    have hZ18U : zU [a0b] Z Z18 := zU_u hZ15U hZ18 (Or.inr (List.Mem.head _))
    have r19 := zpt_0 (b := a0b) hZ18 (by decide)
    have hZ18K : zL [14, 42, 43, 45, 47, 53, 54, 1112] [] n9 Z Z18 := zL_u hZ15K hZ18 (by decide)
    intro μ9 e9
    replace e9 := e9.trans (zm_wI (Z := Z15) (ν := ν) hZ18 (rfl : ((a0b : Nat) : Int) = a0b) (i3I (y := ((Z15 11 a0b 0 12) % 60)) (i3R (zm_rd (Z := Z15) (ν := ν) (k := 11) (rfl : ((a0b : Nat) : Int) = a0b) (show ((0 : Nat) : Int) = 0 from rfl) (show ((12 : Nat) : Int) = 12 from rfl)) (show (60 : Int32) = i3 60 from rfl) (by omega) (by omega) (by omega) (by omega)) (by omega) (by omega) (by omega)) (show ((0 : Nat) : Int) = 0 from rfl) (show (0 : Int32) = i3 0 from rfl))
    subst e9
    obtain ⟨Z20, hZ20⟩ := zx (zu Z18 53 a0b ((Z15 11 a0b 0 12) % 60) 1 4)
    replace hP := zl_e hP hZ20
    have hZ20I := zH_u hZ18I hZ20 (lo := -2147483648) (hi := 2147483647) (by decide) rfl (by omega) ⟨by decide, by decide⟩ (Or.inl (by decide)) rfl
    have hZ20U : zU [a0b] Z Z20 := zU_u hZ18U hZ20 (Or.inr (List.Mem.head _))
    have r21 := zpt_0 (b := a0b) hZ20 (by decide)
    have hZ20K : zL [14, 42, 43, 45, 47, 53, 54, 1112] [] n9 Z Z20 := zL_u hZ18K hZ20 (by decide)
    intro μ9 e9
    replace e9 := e9.trans (zm_wI (Z := Z18) (ν := ν) hZ20 (rfl : ((a0b : Nat) : Int) = a0b) (i3I (y := ((Z15 11 a0b 0 12) % 60)) (i3R (zm_rd (Z := Z15) (ν := ν) (k := 11) (rfl : ((a0b : Nat) : Int) = a0b) (show ((0 : Nat) : Int) = 0 from rfl) (show ((12 : Nat) : Int) = 12 from rfl)) (show (60 : Int32) = i3 60 from rfl) (by omega) (by omega) (by omega) (by omega)) (by omega) (by omega) (by omega)) (show ((1 : Nat) : Int) = 1 from rfl) (show (4 : Int32) = i3 4 from rfl))
    subst e9
    obtain ⟨Z22, hZ22⟩ := zx (zu Z20 53 a0b ((Z15 11 a0b 0 12) % 60) 2 (w3 (y1 * (Z3 13 a0b 0 1))))
    replace hP := zl_e hP hZ22
    have hZ22I := zH_u hZ20I hZ22 (lo := -2147483648) (hi := 2147483647) (by decide) rfl (by omega) ⟨by decide, by decide⟩ (Or.inl (by decide)) rfl
    have hZ22U : zU [a0b] Z Z22 := zU_u hZ20U hZ22 (Or.inr (List.Mem.head _))
    have r23 := zpt_0 (b := a0b) hZ22 (by decide)
    have hZ22K : zL [14, 42, 43, 45, 47, 53, 54, 1112] [] n9 Z Z22 := zL_u hZ20K hZ22 (by decide)
    intro μ9 e9
    replace e9 := e9.trans (zm_wI (Z := Z20) (ν := ν) hZ22 (rfl : ((a0b : Nat) : Int) = a0b) (i3I (y := ((Z15 11 a0b 0 12) % 60)) (i3R (zm_rd (Z := Z15) (ν := ν) (k := 11) (rfl : ((a0b : Nat) : Int) = a0b) (show ((0 : Nat) : Int) = 0 from rfl) (show ((12 : Nat) : Int) = 12 from rfl)) (show (60 : Int32) = i3 60 from rfl) (by omega) (by omega) (by omega) (by omega)) (by omega) (by omega) (by omega)) (show ((2 : Nat) : Int) = 2 from rfl) (i3W (i3M (rfl : i3 y1 = i3 y1) (zm_rd (Z := Z3) (ν := ν) (k := 13) (rfl : ((a0b : Nat) : Int) = a0b) (show ((0 : Nat) : Int) = 0 from rfl) (show ((1 : Nat) : Int) = 1 from rfl)))))
    subst e9
    obtain ⟨Z24, hZ24⟩ := zx (zu Z22 53 a0b ((Z15 11 a0b 0 12) % 60) 3 (-1))
    replace hP := zl_e hP hZ24
    have hZ24I := zH_u hZ22I hZ24 (lo := -2147483648) (hi := 2147483647) (by decide) rfl (by omega) ⟨by decide, by decide⟩ (Or.inl (by decide)) rfl
    have hZ24U : zU [a0b] Z Z24 := zU_u hZ22U hZ24 (Or.inr (List.Mem.head _))
    have r25 := zpt_0 (b := a0b) hZ24 (by decide)
    have hZ24K : zL [14, 42, 43, 45, 47, 53, 54, 1112] [] n9 Z Z24 := zL_u hZ22K hZ24 (by decide)
    intro μ9 e9
    replace e9 := e9.trans (zm_wI (Z := Z22) (ν := ν) hZ24 (rfl : ((a0b : Nat) : Int) = a0b) (i3I (y := ((Z15 11 a0b 0 12) % 60)) (i3R (zm_rd (Z := Z15) (ν := ν) (k := 11) (rfl : ((a0b : Nat) : Int) = a0b) (show ((0 : Nat) : Int) = 0 from rfl) (show ((12 : Nat) : Int) = 12 from rfl)) (show (60 : Int32) = i3 60 from rfl) (by omega) (by omega) (by omega) (by omega)) (by omega) (by omega) (by omega)) (show ((3 : Nat) : Int) = 3 from rfl) (show (-1 : Int32) = i3 (-1) from rfl))
    subst e9
    have r26 := zH_k hZ24I 11 a0b 0 13 (lo := 0) (hi := 671) (by decide) rfl
    obtain ⟨Z27, hZ27⟩ := zx (zu Z24 53 a0b ((Z15 11 a0b 0 12) % 60) 4 (Z24 11 a0b 0 13))
    replace hP := zl_e hP hZ27
    have hZ27I := zH_u hZ24I hZ27 (lo := -2147483648) (hi := 2147483647) (by decide) rfl (by omega) ⟨by decide, by decide⟩ (Or.inl (by decide)) rfl
    have hZ27U : zU [a0b] Z Z27 := zU_u hZ24U hZ27 (Or.inr (List.Mem.head _))
    have r28 := zpt_0 (b := a0b) hZ27 (by decide)
    have hZ27K : zL [14, 42, 43, 45, 47, 53, 54, 1112] [] n9 Z Z27 := zL_u hZ24K hZ27 (by decide)
    intro μ9 e9
    replace e9 := e9.trans (zm_wI (Z := Z24) (ν := ν) hZ27 (rfl : ((a0b : Nat) : Int) = a0b) (i3I (y := ((Z15 11 a0b 0 12) % 60)) (i3R (zm_rd (Z := Z15) (ν := ν) (k := 11) (rfl : ((a0b : Nat) : Int) = a0b) (show ((0 : Nat) : Int) = 0 from rfl) (show ((12 : Nat) : Int) = 12 from rfl)) (show (60 : Int32) = i3 60 from rfl) (by omega) (by omega) (by omega) (by omega)) (by omega) (by omega) (by omega)) (show ((4 : Nat) : Int) = 4 from rfl) (zm_rd (Z := Z24) (ν := ν) (k := 11) (rfl : ((a0b : Nat) : Int) = a0b) (show ((0 : Nat) : Int) = 0 from rfl) (show ((13 : Nat) : Int) = 13 from rfl)))
    subst e9
    have r29 := zH_c12 hZ27I a0b (zbh (c := 0) (k := 0) hM (Nat.le_of_ble_eq_true rfl))
    have q30 := (zu_ne (k' := 11) (b' := a0b) (i' := 0) (j' := 12) hZ27 (fun q => absurd q.1 (by decide))).trans ((zu_ne (k' := 11) (b' := a0b) (i' := 0) (j' := 12) hZ24 (fun q => absurd q.1 (by decide))).trans ((zu_ne (k' := 11) (b' := a0b) (i' := 0) (j' := 12) hZ22 (fun q => absurd q.1 (by decide))).trans ((zu_ne (k' := 11) (b' := a0b) (i' := 0) (j' := 12) hZ20 (fun q => absurd q.1 (by decide))).trans (zu_ne (k' := 11) (b' := a0b) (i' := 0) (j' := 12) hZ18 (fun q => absurd q.1 (by decide))))))
    obtain ⟨Z31, hZ31⟩ := zx (zu Z27 11 a0b 0 12 ((Z27 11 a0b 0 12) + 1))
    replace hP := zl_e hP hZ31
    have hZ31I := zH_i12 hZ27I hZ31 (zbh (c := 0) (k := 1) hM (Nat.le_of_ble_eq_true rfl)) (by omega)
    have hZ31U : zU [a0b] Z Z31 := zU_u hZ27U hZ31 (Or.inr (List.Mem.head _))
    have r32 := zpt_0 (b := a0b) hZ31 (by decide)
    have hZ31K : zL [14, 42, 43, 45, 47, 53, 54, 1112] [] n9 Z Z31 := zL_u hZ27K hZ31 (by decide)
    intro μ9 e9
    replace e9 := e9.trans (zm_wI (Z := Z27) (ν := ν) hZ31 (rfl : ((a0b : Nat) : Int) = a0b) (show ((0 : Nat) : Int) = 0 from rfl) (show ((12 : Nat) : Int) = 12 from rfl) (i3A (zm_rd (Z := Z27) (ν := ν) (k := 11) (rfl : ((a0b : Nat) : Int) = a0b) (show ((0 : Nat) : Int) = 0 from rfl) (show ((12 : Nat) : Int) = 12 from rfl)) (show (1 : Int32) = i3 1 from rfl)))
    subst e9
    refine sl_4_2 (ν := ν) (zb0 hZ31I) (zbh (c := 1) (k := 39) hM (Nat.le_of_ble_eq_true rfl)) (xM9 := 0) hs hn (Nat.le_refl _) zGl_r a0b (x2 := 0) (by omega) zL_r zU_r (gg := zpt Z31 a0b + n9) (Nat.le_of_ble_eq_true rfl) (by omega) (zconso rfl (zconso rfl (zconso (zvo (show (0 : Int32) = i3 0 from rfl)) (zconso rfl rfl)))) rfl ?_
    intro L35 Z34 ν36 n37 y33 hL35 hZ34I kZ34 jZ34 hnν36 gν36 b1ν36 gy33 gL35_0 q9
    replace hP := zl_e3 hP (Eq.symm q9)
    clear q9
    replace hZ34I := zbt (c := 40) hZ34I rfl
    have hZ34U : zU [a0b] Z Z34 := zU_t hZ31U jZ34 (zU_b1 (List.Mem.head _) zU_b0)
    have hZ34K : zL [14, 42, 43, 45, 47, 53, 54, 1112] [] n9 Z Z34 := zL_t hZ31K kZ34 (by decide) zL_b0 (by omega)
    have hGν36 := zGl_t zGl_r gν36
    refine fc_4_5 _ _ _ _ _ hL35 ?_
    have r38 := zH_k hZ34I 11 a0b 0 13 (lo := 0) (hi := 671) (by decide) rfl
    have q39 := (zL_e kZ34 11 a0b 0 13 (by decide) (by decide)).trans ((zu_ne (k' := 11) (b' := a0b) (i' := 0) (j' := 13) hZ31 (fun q => absurd q.2.2.2 (by decide))).trans (zu_ne (k' := 11) (b' := a0b) (i' := 0) (j' := 13) hZ27 (fun q => absurd q.1 (by decide))))
    have r40 := z2_r (fun x y => x - x / y * y) (((Z34 11 a0b 0 13) / 24) - 1) 7
    refine wz_br (i3NE (i3Z (fun x y => x - x / y * y) (i3S (i3D (zm_rd (Z := Z34) (ν := ν36) (k := 11) (rfl : ((a0b : Nat) : Int) = a0b) (show ((0 : Nat) : Int) = 0 from rfl) (show ((13 : Nat) : Int) = 13 from rfl)) (show (24 : Int32) = i3 24 from rfl) (by omega) (by omega) (by omega) (by omega)) (show (1 : Int32) = i3 1 from rfl)) (show (7 : Int32) = i3 7 from rfl)) (show (6 : Int32) = i3 6 from rfl) (by omega) (by omega) (by omega) (by omega)) (fun h41 => ?_) (fun h41 => ?_)
    · replace hP := zE_p hP h41
      refine sl_4_3 (ν := ν36) (zb0 hZ34I) (zbh (c := 40) (k := 7) hM (Nat.le_of_ble_eq_true rfl)) (xM9 := 0) zC_r a0b (x2 := 3) (by omega) zU_r (Nat.le_of_ble_eq_true rfl)  (zconso rfl (zconso rfl (zconso (zvo (show (3 : Int32) = i3 3 from rfl)) (zconso rfl rfl)))) rfl ?_
      intro L44 Z43 y42 hL44 hZ43I kZ43 jZ43 gy42 q9
      replace hP := zl_e2 hP (Eq.symm q9)
      clear q9
      replace hZ43I := zbt (c := 47) hZ43I rfl
      have hZ43U : zU [a0b] Z Z43 := zU_t hZ34U jZ43 (zU_b1 (List.Mem.head _) zU_b0)
      have r45 := zpt_c (b := a0b) kZ43 (by decide)
      have hZ43K : zL [14, 42, 43, 45, 47, 53, 54, 1112] [] n9 Z Z43 := zL_c hZ34K kZ43 (by decide)
      refine fc_4_4  _ _ _ _ hL44 ?_
      exact zlVn hP ⟨(zbw (a := 47) (c := 54) hZ43I (Nat.le_of_ble_eq_true rfl)), hZ43K, hZ43U, hnν36, hGν36, by omega, by omega⟩
    · replace hP := zE_n hP h41
      obtain ⟨Z46, hZ46, c9, hZ46I, kZ46, jZ46⟩ := sp_8 (ν := ν36) hZ34I a0b (zbh (c := 40) (k := 7) hM (Nat.le_of_ble_eq_true rfl))
      have hZ46U : zU [a0b] Z Z46 := zU_t hZ34U jZ46 (zU_b1 (List.Mem.head _) zU_b0)
      have r47 := zpt_c (b := a0b) kZ46 (by decide)
      have hZ46K : zL [14, 42, 43, 45, 47, 53, 54, 1112] [] n9 Z Z46 := zL_c hZ34K kZ46 (by decide)
      replace hZ46I := zbt (c := 47) hZ46I rfl
      replace hP := zl_e hP hZ46
      refine wz_cV_of (zas (zcons rfl rfl) c9) ?_
      clear c9
      refine sl_4_3 (ν := ν36) (zb0 hZ46I) (zbh (c := 47) (k := 7) hM (Nat.le_of_ble_eq_true rfl)) (xM9 := 0) zC_r a0b (x2 := 3) (by omega) zU_r (Nat.le_of_ble_eq_true rfl)  (zconso rfl (zconso rfl (zconso (zvo (show (3 : Int32) = i3 3 from rfl)) (zconso rfl rfl)))) rfl ?_
      intro L50 Z49 y48 hL50 hZ49I kZ49 jZ49 gy48 q9
      replace hP := zl_e2 hP (Eq.symm q9)
      clear q9
      replace hZ49I := zbt (c := 54) hZ49I rfl
      have hZ49U : zU [a0b] Z Z49 := zU_t hZ46U jZ49 (zU_b1 (List.Mem.head _) zU_b0)
      have r51 := zpt_c (b := a0b) kZ49 (by decide)
      have hZ49K : zL [14, 42, 43, 45, 47, 53, 54, 1112] [] n9 Z Z49 := zL_c hZ46K kZ49 (by decide)
      refine fc_4_4  _ _ _ _ hL50 ?_
      exact zlVn hP ⟨hZ49I, hZ49K, hZ49U, hnν36, hGν36, by omega, by omega⟩
  · replace hP := zE_n hP h8
    refine sl_4_2 (ν := ν) (zb0 hZ3I) (zbh (c := 0) (k := 39) hM (Nat.le_of_ble_eq_true rfl)) (xM9 := 0) hs hn (Nat.le_refl _) zGl_r a0b (x2 := 0) (by omega) zL_r zU_r (gg := zpt Z3 a0b + n9) (Nat.le_of_ble_eq_true rfl) (by omega) (zconso rfl (zconso rfl (zconso (zvo (show (0 : Int32) = i3 0 from rfl)) (zconso rfl rfl)))) rfl ?_
    intro L54 Z53 ν55 n56 y52 hL54 hZ53I kZ53 jZ53 hnν55 gν55 b1ν55 gy52 gL54_0 q9
    replace hP := zl_e3 hP (Eq.symm q9)
    clear q9
    have hZ53U : zU [a0b] Z Z53 := zU_t hZ3U jZ53 (zU_b1 (List.Mem.head _) zU_b0)
    have hZ53K : zL [14, 42, 43, 45, 47, 53, 54, 1112] [] n9 Z Z53 := zL_t hZ3K kZ53 (by decide) zL_b0 (by omega)
    have hGν55 := zGl_t zGl_r gν55
    refine fc_4_5 _ _ _ _ _ hL54 ?_
    have r57 := zH_k hZ53I 11 a0b 0 13 (lo := 0) (hi := 671) (by decide) rfl
    have r58 := z2_r (fun x y => x - x / y * y) (((Z53 11 a0b 0 13) / 24) - 1) 7
    refine wz_br (i3NE (i3Z (fun x y => x - x / y * y) (i3S (i3D (zm_rd (Z := Z53) (ν := ν55) (k := 11) (rfl : ((a0b : Nat) : Int) = a0b) (show ((0 : Nat) : Int) = 0 from rfl) (show ((13 : Nat) : Int) = 13 from rfl)) (show (24 : Int32) = i3 24 from rfl) (by omega) (by omega) (by omega) (by omega)) (show (1 : Int32) = i3 1 from rfl)) (show (7 : Int32) = i3 7 from rfl)) (show (6 : Int32) = i3 6 from rfl) (by omega) (by omega) (by omega) (by omega)) (fun h59 => ?_) (fun h59 => ?_)
    · replace hP := zE_p hP h59
      refine sl_4_3 (ν := ν55) (zb0 hZ53I) (zbh (c := 39) (k := 7) hM (Nat.le_of_ble_eq_true rfl)) (xM9 := 0) zC_r a0b (x2 := 3) (by omega) zU_r (Nat.le_of_ble_eq_true rfl)  (zconso rfl (zconso rfl (zconso (zvo (show (3 : Int32) = i3 3 from rfl)) (zconso rfl rfl)))) rfl ?_
      intro L62 Z61 y60 hL62 hZ61I kZ61 jZ61 gy60 q9
      replace hP := zl_e2 hP (Eq.symm q9)
      clear q9
      replace hZ61I := zbt (c := 46) hZ61I rfl
      have hZ61U : zU [a0b] Z Z61 := zU_t hZ53U jZ61 (zU_b1 (List.Mem.head _) zU_b0)
      have r63 := zpt_c (b := a0b) kZ61 (by decide)
      have hZ61K : zL [14, 42, 43, 45, 47, 53, 54, 1112] [] n9 Z Z61 := zL_c hZ53K kZ61 (by decide)
      refine fc_4_4  _ _ _ _ hL62 ?_
      exact zlVn hP ⟨(zbw (a := 46) (c := 54) hZ61I (Nat.le_of_ble_eq_true rfl)), hZ61K, hZ61U, hnν55, hGν55, by omega, by omega⟩
    · replace hP := zE_n hP h59
      obtain ⟨Z64, hZ64, c9, hZ64I, kZ64, jZ64⟩ := sp_8 (ν := ν55) hZ53I a0b (zbh (c := 39) (k := 7) hM (Nat.le_of_ble_eq_true rfl))
      have hZ64U : zU [a0b] Z Z64 := zU_t hZ53U jZ64 (zU_b1 (List.Mem.head _) zU_b0)
      have r65 := zpt_c (b := a0b) kZ64 (by decide)
      have hZ64K : zL [14, 42, 43, 45, 47, 53, 54, 1112] [] n9 Z Z64 := zL_c hZ53K kZ64 (by decide)
      replace hZ64I := zbt (c := 46) hZ64I rfl
      replace hP := zl_e hP hZ64
      refine wz_cV_of (zas (zcons rfl rfl) c9) ?_
      clear c9
      refine sl_4_3 (ν := ν55) (zb0 hZ64I) (zbh (c := 46) (k := 7) hM (Nat.le_of_ble_eq_true rfl)) (xM9 := 0) zC_r a0b (x2 := 3) (by omega) zU_r (Nat.le_of_ble_eq_true rfl)  (zconso rfl (zconso rfl (zconso (zvo (show (3 : Int32) = i3 3 from rfl)) (zconso rfl rfl)))) rfl ?_
      intro L68 Z67 y66 hL68 hZ67I kZ67 jZ67 gy66 q9
      replace hP := zl_e2 hP (Eq.symm q9)
      clear q9
      replace hZ67I := zbt (c := 53) hZ67I rfl
      have hZ67U : zU [a0b] Z Z67 := zU_t hZ64U jZ67 (zU_b1 (List.Mem.head _) zU_b0)
      have r69 := zpt_c (b := a0b) kZ67 (by decide)
      have hZ67K : zL [14, 42, 43, 45, 47, 53, 54, 1112] [] n9 Z Z67 := zL_c hZ64K kZ67 (by decide)
      refine fc_4_4  _ _ _ _ hL68 ?_
      exact zlVn hP ⟨(zbw (a := 53) (c := 54) hZ67I (Nat.le_of_ble_eq_true rfl)), hZ67K, hZ67U, hnν55, hGν55, by omega, by omega⟩
/- yX1_payBillsOf -/
def zl_30_1 (x0b : Int) (x3ij : Int) (x1 : Int) (x2 : Int) : Nat → qz_Z → Int → qz_Z × Int
  | 0, Z, x4 => (Z, x4)
  | m + 1, Z, x4 => (if (Z 11 x0b 0 6) ≤ x4 then (Z, x4) else (if (Z 47 x0b x4 1) ≠ x1 then zl_30_1 x0b x3ij x1 x2 m Z (x4 + 1) else (if (Z 47 x0b x4 20) ≠ x2 then zl_30_1 x0b x3ij x1 x2 m Z (x4 + 1) else (if (Z 47 x0b x4 19) ≤ 0 then zl_30_1 x0b x3ij x1 x2 m Z (x4 + 1) else (zlet (zu Z 47 x0b x4 19 (w3 ((Z 47 x0b x4 19) - (min (Z 47 x0b x4 19) (Z 45 x0b x3ij 3))))) (fun Z11 => (zlet (zu Z11 45 x0b x3ij 4 (w3 ((Z11 45 x0b x3ij 4) - (min (Z 47 x0b x4 19) (Z 45 x0b x3ij 3))))) (fun Z14 => (zlet (zu Z14 45 x0b x3ij 3 (w3 ((Z14 45 x0b x3ij 3) - (min (Z 47 x0b x4 19) (Z 45 x0b x3ij 3))))) (fun Z18 => (if (Z18 47 x0b x4 19) ≤ 0 then zl_30_1 x0b x3ij x1 x2 m Z18 (x4 + 1) else (zlet (zu Z18 45 x0b x3ij 7 1) (fun Z22 => zl_30_1 x0b x3ij x1 x2 m Z22 (x4 + 1))))))))))))))
theorem sl_30_1 {s : zSM} {Zs Z : qz_Z} {ν : qz_N} (hZ : zH s Z) (hM : s.2 + 0 ≤ 1000000000) (hK : zC [45, 47] Zs Z) (x0b : Nat) (x3i : Nat) {x3ij : Int} (ex3i : (x3i : Int) = x3ij) (gx3ij : 0 ≤ x3ij ∧ x3ij ≤ 7) {x1 : Int} (gx1 : 0 ≤ x1 ∧ x1 ≤ 7) {x2 : Int} (gx2 : 0 ≤ x2 ∧ x2 ≤ 26) {x4 : Int} (gx4 : 0 ≤ x4 ∧ x4 ≤ 60) (hU : zU [x0b] Zs Z) {k : wz_K} {R : wz_R} {L : qz_L} (hL : qz_fg [true, true, true, true, true, false, false] L = [some (.inr (.inr (some (10, x0b, 0)))), some (.inl (i3 x1)), some (.inl (i3 x2)), some (.inr (.inr (some (45, x0b, x3i)))), some (.inl (i3 x4)), none, none]) {T : qz_Z × Int} (hP : zE T (zl_30_1 x0b x3ij x1 x2 ((60 - x4).toNat + 1) Z x4)) (hk : ∀ (L9 : qz_L) (Z9 : qz_Z) (yx4 : Int), qz_fg [false, false, false, false, false, false, false] L9 = [none, none, none, none, none, none, none] → zH s Z9 → zC [45, 47] Zs Z9 → zU [x0b] Zs Z9 → (0 ≤ yx4 ∧ yx4 ≤ 60) → zE T ((Z9, yx4)) → k 0 (L9, [], zm Z9 ν)) : wz_loop qb_30_1 65536 k R (L, [], zm Z ν) := by
  refine wz_lp sb_30_1 (fun m x => ∃ Z : qz_Z, ∃ x4 : Int, qz_fg [true, true, true, true, true, false, false] x.1 = [some (.inr (.inr (some (10, x0b, 0)))), some (.inl (i3 x1)), some (.inl (i3 x2)), some (.inr (.inr (some (45, x0b, x3i)))), some (.inl (i3 x4)), none, none] ∧ x.2 = ([], zm Z ν) ∧ zH s Z ∧ zC [45, 47] Zs Z ∧ zU [x0b] Zs Z ∧ m = (60 - x4).toNat ∧ (0 ≤ x4 ∧ x4 ≤ 60) ∧ zE T (zl_30_1 x0b x3ij x1 x2 (m + 1) Z x4)) ?_ 65536 ((60 - x4).toNat) _ (by omega) ⟨Z, x4, hL, rfl, hZ, hK, hU, rfl, gx4, hP⟩
  clear hP gx4 hZ hK hU hL
  clear x4
  clear Z
  rintro m ⟨L, st, μ⟩ ⟨Z, x4, hL, hx, hZ, hK, hU, hm, gx4, hP⟩
  cases hx
  refine fb_30_1 x0b (i3 x1) (i3 x2) x3i (i3 x4) _ _ _ _ hL ?_
  have r1 := zH_k hZ 11 x0b 0 6 (lo := 0) (hi := 60) (by decide) rfl
  refine wz_br (i3Le (zm_rd (Z := Z) (ν := ν) (k := 11) (rfl : ((x0b : Nat) : Int) = x0b) (show ((0 : Nat) : Int) = 0 from rfl) (show ((6 : Nat) : Int) = 6 from rfl)) (rfl : i3 x4 = i3 x4) (by omega) (by omega) (by omega) (by omega)) (fun h2 => ?_) (fun h2 => ?_)
  · replace hP := zE_p hP h2
    exact hk _ _ _ (zconso rfl (zconso rfl (zconso rfl (zconso rfl (zconso rfl (zconso rfl (zconso rfl rfl))))))) hZ hK hU (by omega)  hP
  · replace hP := zE_n hP h2
    refine wz_i0 (i3O (n := 60) (rfl : i3 x4 = i3 x4) (by omega) (by omega) (by omega)) ?_
    have r3 := zH_k hZ 47 x0b x4 1 (lo := 0) (hi := 7) (by decide) rfl
    refine wz_br (i3NE (zm_rd (Z := Z) (ν := ν) (k := 47) (rfl : ((x0b : Nat) : Int) = x0b) (i3I (y := x4) (rfl : i3 x4 = i3 x4) (by omega) (by omega) (by omega)) (show ((1 : Nat) : Int) = 1 from rfl)) (rfl : i3 x1 = i3 x1) (by omega) (by omega) (by omega) (by omega)) (fun h4 => ?_) (fun h4 => ?_)
    · replace hP := zE_p hP h4
      obtain ⟨m2, rfl⟩ : ∃ m2, m = m2 + 1 := ⟨m - 1, by omega⟩
      exact wz_k1 ⟨m2, by omega, Z, (x4 + 1), (zconso rfl (zconso (zvo (rfl : i3 x1 = i3 x1)) (zconso (zvo (rfl : i3 x2 = i3 x2)) (zconso rfl (zconso (zvo (i3A (rfl : i3 x4 = i3 x4) (show (1 : Int32) = i3 1 from rfl))) (zconso rfl (zconso rfl rfl))))))), rfl, hZ, hK, hU, by omega, by omega,  hP⟩
    · replace hP := zE_n hP h4
      have r5 := zH_k hZ 47 x0b x4 20 (lo := 0) (hi := 41) (by decide) rfl
      refine wz_br (i3NE (zm_rd (Z := Z) (ν := ν) (k := 47) (rfl : ((x0b : Nat) : Int) = x0b) (i3I (y := x4) (rfl : i3 x4 = i3 x4) (by omega) (by omega) (by omega)) (show ((20 : Nat) : Int) = 20 from rfl)) (rfl : i3 x2 = i3 x2) (by omega) (by omega) (by omega) (by omega)) (fun h6 => ?_) (fun h6 => ?_)
      · replace hP := zE_p hP h6
        obtain ⟨m2, rfl⟩ : ∃ m2, m = m2 + 1 := ⟨m - 1, by omega⟩
        exact wz_k1 ⟨m2, by omega, Z, (x4 + 1), (zconso rfl (zconso (zvo (rfl : i3 x1 = i3 x1)) (zconso (zvo (rfl : i3 x2 = i3 x2)) (zconso rfl (zconso (zvo (i3A (rfl : i3 x4 = i3 x4) (show (1 : Int32) = i3 1 from rfl))) (zconso rfl (zconso rfl rfl))))))), rfl, hZ, hK, hU, by omega, by omega,  hP⟩
      · replace hP := zE_n hP h6
        have r7 := zH_f hZ 47 x0b x4 19
        refine wz_br (i3Le (zm_rd (Z := Z) (ν := ν) (k := 47) (rfl : ((x0b : Nat) : Int) = x0b) (i3I (y := x4) (rfl : i3 x4 = i3 x4) (by omega) (by omega) (by omega)) (show ((19 : Nat) : Int) = 19 from rfl)) (show (0 : Int32) = i3 0 from rfl) (by omega) (by omega) (by omega) (by omega)) (fun h8 => ?_) (fun h8 => ?_)
        · replace hP := zE_p hP h8
          obtain ⟨m2, rfl⟩ : ∃ m2, m = m2 + 1 := ⟨m - 1, by omega⟩
          exact wz_k1 ⟨m2, by omega, Z, (x4 + 1), (zconso rfl (zconso (zvo (rfl : i3 x1 = i3 x1)) (zconso (zvo (rfl : i3 x2 = i3 x2)) (zconso rfl (zconso (zvo (i3A (rfl : i3 x4 = i3 x4) (show (1 : Int32) = i3 1 from rfl))) (zconso rfl (zconso rfl rfl))))))), rfl, hZ, hK, hU, by omega, by omega,  hP⟩
        · replace hP := zE_n hP h8
          have r9 := zH_f hZ 45 x0b x3ij 3
          have r10 := w3_r ((Z 47 x0b x4 19) - (min (Z 47 x0b x4 19) (Z 45 x0b x3ij 3)))
          obtain ⟨Z11, hZ11⟩ := zx (zu Z 47 x0b x4 19 (w3 ((Z 47 x0b x4 19) - (min (Z 47 x0b x4 19) (Z 45 x0b x3ij 3)))))
          replace hP := zl_e hP hZ11
          have hZ11I := zH_u hZ hZ11 (lo := -2147483648) (hi := 2147483647) (by decide) rfl (by omega) ⟨by decide, by decide⟩ (Or.inl (by decide)) rfl
          have hZ11U : zU [x0b] Zs Z11 := zU_u hU hZ11 (Or.inr (List.Mem.head _))
          have hZ11K : zC [45, 47] Zs Z11 := zC_u hK hZ11 (by decide)
          intro μ9 e9
          replace e9 := e9.trans (zm_wI (Z := Z) (ν := ν) hZ11 (rfl : ((x0b : Nat) : Int) = x0b) (i3I (y := x4) (rfl : i3 x4 = i3 x4) (by omega) (by omega) (by omega)) (show ((19 : Nat) : Int) = 19 from rfl) (i3W (i3S (zm_rd (Z := Z) (ν := ν) (k := 47) (rfl : ((x0b : Nat) : Int) = x0b) (i3I (y := x4) (rfl : i3 x4 = i3 x4) (by omega) (by omega) (by omega)) (show ((19 : Nat) : Int) = 19 from rfl)) (i3Mn (zm_rd (Z := Z) (ν := ν) (k := 47) (rfl : ((x0b : Nat) : Int) = x0b) (i3I (y := x4) (rfl : i3 x4 = i3 x4) (by omega) (by omega) (by omega)) (show ((19 : Nat) : Int) = 19 from rfl)) (zm_rd (Z := Z) (ν := ν) (k := 45) (rfl : ((x0b : Nat) : Int) = x0b) ex3i (show ((3 : Nat) : Int) = 3 from rfl)) (by omega) (by omega) (by omega) (by omega)))))
          subst e9
          have r12 := zH_f hZ11I 45 x0b x3ij 4
          have r13 := w3_r ((Z11 45 x0b x3ij 4) - (min (Z 47 x0b x4 19) (Z 45 x0b x3ij 3)))
          obtain ⟨Z14, hZ14⟩ := zx (zu Z11 45 x0b x3ij 4 (w3 ((Z11 45 x0b x3ij 4) - (min (Z 47 x0b x4 19) (Z 45 x0b x3ij 3)))))
          replace hP := zl_e hP hZ14
          have hZ14I := zH_u hZ11I hZ14 (lo := -2147483648) (hi := 2147483647) (by decide) rfl (by omega) ⟨by decide, by decide⟩ (Or.inl (by decide)) rfl
          have hZ14U : zU [x0b] Zs Z14 := zU_u hZ11U hZ14 (Or.inr (List.Mem.head _))
          have hZ14K : zC [45, 47] Zs Z14 := zC_u hZ11K hZ14 (by decide)
          intro μ9 e9
          replace e9 := e9.trans (zm_wI (Z := Z11) (ν := ν) hZ14 (rfl : ((x0b : Nat) : Int) = x0b) ex3i (show ((4 : Nat) : Int) = 4 from rfl) (i3W (i3S (zm_rd (Z := Z11) (ν := ν) (k := 45) (rfl : ((x0b : Nat) : Int) = x0b) ex3i (show ((4 : Nat) : Int) = 4 from rfl)) (i3Mn (zm_rd (Z := Z) (ν := ν) (k := 47) (rfl : ((x0b : Nat) : Int) = x0b) (i3I (y := x4) (rfl : i3 x4 = i3 x4) (by omega) (by omega) (by omega)) (show ((19 : Nat) : Int) = 19 from rfl)) (zm_rd (Z := Z) (ν := ν) (k := 45) (rfl : ((x0b : Nat) : Int) = x0b) ex3i (show ((3 : Nat) : Int) = 3 from rfl)) (by omega) (by omega) (by omega) (by omega)))))
          subst e9
          have r15 := zH_f hZ14I 45 x0b x3ij 3
          have q16 := (zu_ne (k' := 45) (b' := x0b) (i' := x3ij) (j' := 3) hZ14 (fun q => absurd q.2.2.2 (by decide))).trans (zu_ne (k' := 45) (b' := x0b) (i' := x3ij) (j' := 3) hZ11 (fun q => absurd q.1 (by decide)))
          have r17 := w3_r ((Z14 45 x0b x3ij 3) - (min (Z 47 x0b x4 19) (Z 45 x0b x3ij 3)))
          obtain ⟨Z18, hZ18⟩ := zx (zu Z14 45 x0b x3ij 3 (w3 ((Z14 45 x0b x3ij 3) - (min (Z 47 x0b x4 19) (Z 45 x0b x3ij 3)))))
          replace hP := zl_e hP hZ18
          have hZ18I := zH_u hZ14I hZ18 (lo := -2147483648) (hi := 2147483647) (by decide) rfl (by omega) ⟨by decide, by decide⟩ (Or.inl (by decide)) rfl
          have hZ18U : zU [x0b] Zs Z18 := zU_u hZ14U hZ18 (Or.inr (List.Mem.head _))
          have hZ18K : zC [45, 47] Zs Z18 := zC_u hZ14K hZ18 (by decide)
          intro μ9 e9
          replace e9 := e9.trans (zm_wI (Z := Z14) (ν := ν) hZ18 (rfl : ((x0b : Nat) : Int) = x0b) ex3i (show ((3 : Nat) : Int) = 3 from rfl) (i3W (i3S (zm_rd (Z := Z14) (ν := ν) (k := 45) (rfl : ((x0b : Nat) : Int) = x0b) ex3i (show ((3 : Nat) : Int) = 3 from rfl)) (i3Mn (zm_rd (Z := Z) (ν := ν) (k := 47) (rfl : ((x0b : Nat) : Int) = x0b) (i3I (y := x4) (rfl : i3 x4 = i3 x4) (by omega) (by omega) (by omega)) (show ((19 : Nat) : Int) = 19 from rfl)) (zm_rd (Z := Z) (ν := ν) (k := 45) (rfl : ((x0b : Nat) : Int) = x0b) ex3i (show ((3 : Nat) : Int) = 3 from rfl)) (by omega) (by omega) (by omega) (by omega)))))
          subst e9
          have r19 := zH_f hZ18I 47 x0b x4 19
          have q20 := (zu_ne (k' := 47) (b' := x0b) (i' := x4) (j' := 19) hZ18 (fun q => absurd q.1 (by decide))).trans ((zu_ne (k' := 47) (b' := x0b) (i' := x4) (j' := 19) hZ14 (fun q => absurd q.1 (by decide))).trans (zu_at hZ11))
          refine wz_br (i3Le (zm_rd (Z := Z18) (ν := ν) (k := 47) (rfl : ((x0b : Nat) : Int) = x0b) (i3I (y := x4) (rfl : i3 x4 = i3 x4) (by omega) (by omega) (by omega)) (show ((19 : Nat) : Int) = 19 from rfl)) (show (0 : Int32) = i3 0 from rfl) (by omega) (by omega) (by omega) (by omega)) (fun h21 => ?_) (fun h21 => ?_)
          · replace hP := zE_p hP h21
            obtain ⟨m2, rfl⟩ : ∃ m2, m = m2 + 1 := ⟨m - 1, by omega⟩
            exact wz_k1 ⟨m2, by omega, Z18, (x4 + 1), (zconso rfl (zconso (zvo (rfl : i3 x1 = i3 x1)) (zconso (zvo (rfl : i3 x2 = i3 x2)) (zconso rfl (zconso (zvo (i3A (rfl : i3 x4 = i3 x4) (show (1 : Int32) = i3 1 from rfl))) (zconso rfl (zconso rfl rfl))))))), rfl, hZ18I, hZ18K, hZ18U, by omega, by omega,  hP⟩
          · replace hP := zE_n hP h21
            obtain ⟨Z22, hZ22⟩ := zx (zu Z18 45 x0b x3ij 7 1)
            replace hP := zl_e hP hZ22
            have hZ22I := zH_u hZ18I hZ22 (lo := 0) (hi := 1) (by decide) rfl (by omega) ⟨by decide, by decide⟩ (Or.inl (by decide)) rfl
            have hZ22U : zU [x0b] Zs Z22 := zU_u hZ18U hZ22 (Or.inr (List.Mem.head _))
            have hZ22K : zC [45, 47] Zs Z22 := zC_u hZ18K hZ22 (by decide)
            intro μ9 e9
            replace e9 := e9.trans (zm_wI (Z := Z18) (ν := ν) hZ22 (rfl : ((x0b : Nat) : Int) = x0b) ex3i (show ((7 : Nat) : Int) = 7 from rfl) (show (1 : Int32) = i3 1 from rfl))
            subst e9
            obtain ⟨m2, rfl⟩ : ∃ m2, m = m2 + 1 := ⟨m - 1, by omega⟩
            exact wz_k1 ⟨m2, by omega, Z22, (x4 + 1), (zconso rfl (zconso (zvo (rfl : i3 x1 = i3 x1)) (zconso (zvo (rfl : i3 x2 = i3 x2)) (zconso rfl (zconso (zvo (i3A (rfl : i3 x4 = i3 x4) (show (1 : Int32) = i3 1 from rfl))) (zconso rfl (zconso rfl rfl))))))), rfl, hZ22I, hZ22K, hZ22U, by omega, by omega,  hP⟩
/- yX1_payBillsOf -/
def zf_30 (Z : qz_Z) (a0b : Int) (a1 : Int) (a2 : Int) : qz_Z := (zlet2 (zl_30_1 a0b a1 a1 a2 61 Z 0) (fun Z2 y1 => Z2))
theorem sp_30 {s : zSM} {Z : qz_Z} {ν : qz_N} (hZ : zH s Z) (a0b : Nat) {a1 : Int} (ga1 : 0 ≤ a1 ∧ a1 ≤ 7) {a2 : Int} (ga2 : 0 ≤ a2 ∧ a2 ≤ 26) (hM : s.2 + 0 ≤ 1000000000) : ∃ P : qz_Z, P = zf_30 Z a0b a1 a2 ∧ (qf_30 [.inr (.inr (some (10, a0b, 0))), .inl (i3 a1), .inl (i3 a2)] (zm Z ν) = some (zm P ν, .inl none) ∧ zH s P ∧ zC [45, 47] Z P ∧ zU [a0b] Z P) := by
  obtain ⟨P, hP⟩ := zx (zf_30 Z a0b a1 a2)
  refine zc_V (Q := fun P => zH s P ∧ zC [45, 47] Z P ∧ zU [a0b] Z P) hP (fw_30 a0b (i3 a1) (i3 a2) _ _ ?_)
  replace hP : zE P (zf_30 Z a0b a1 a2) := hP
  unfold zf_30 at hP
  refine wz_i0 (i3O (n := 8) (rfl : i3 a1 = i3 a1) (by omega) (by omega) (by omega)) ?_
  refine sl_30_1 (ν := ν) hZ (zbh (c := 0) (k := 0) hM (Nat.le_of_ble_eq_true rfl)) zC_r a0b _ (i3I (y := a1) (rfl : i3 a1 = i3 a1) (by omega) (by omega) (by omega)) (by omega) (x1 := a1) (by omega) (x2 := a2) (by omega) (x4 := 0) (by omega) zU_r  (zconso rfl (zconso (zvo (rfl : i3 a1 = i3 a1)) (zconso (zvo (rfl : i3 a2 = i3 a2)) (zconso rfl (zconso (zvo (show (0 : Int32) = i3 0 from rfl)) (zconso rfl (zconso rfl rfl))))))) rfl ?_
  intro L3 Z2 y1 hL3 hZ2I kZ2 jZ2 gy1 q9
  replace hP := zl_e2 hP (Eq.symm q9)
  clear q9
  have hZ2U : zU [a0b] Z Z2 := zU_t zU_r jZ2 (zU_b1 (List.Mem.head _) zU_b0)
  have hZ2K : zC [45, 47] Z Z2 := zC_t zC_r kZ2 (by decide)
  refine fc_30_2  _ _ _ _ hL3 ?_
  exact zlV hP ⟨hZ2I, hZ2K, hZ2U⟩
/- yX1_closeDay -/
def zl_17_1 (x0b : Int) (x1 : Int) (x2 : Int) : Nat → qz_Z → Int → qz_Z × Int
  | 0, Z, x3 => (Z, x3)
  | m + 1, Z, x3 => (if x1 < x3 then (Z, x3) else (zlet (zf_30 Z x0b x2 x3) (fun Z2 => zl_17_1 x0b x1 x2 m Z2 (x3 + 1))))
theorem sl_17_1 {s : zSM} {Zs Z : qz_Z} {ν : qz_N} (hZ : zH s Z) (hM : s.2 + 0 ≤ 1000000000) (hK : zC [45, 47] Zs Z) (x0b : Nat) {x1 : Int} (gx1 : -1 ≤ x1 ∧ x1 ≤ 26) {x2 : Int} (gx2 : 0 ≤ x2 ∧ x2 ≤ 7) {x3 : Int} (gx3 : 0 ≤ x3 ∧ x3 ≤ 27) (hU : zU [x0b] Zs Z) {k : wz_K} {R : wz_R} {L : qz_L} (hL : qz_fg [true, true, true, true] L = [some (.inr (.inr (some (10, x0b, 0)))), some (.inl (i3 x1)), some (.inl (i3 x2)), some (.inl (i3 x3))]) {T : qz_Z × Int} (hP : zE T (zl_17_1 x0b x1 x2 ((27 - x3).toNat + 1) Z x3)) (hk : ∀ (L9 : qz_L) (Z9 : qz_Z) (yx3 : Int), qz_fg [true, true, true, false] L9 = [some (.inr (.inr (some (10, x0b, 0)))), some (.inl (i3 x1)), some (.inl (i3 x2)), none] → zH s Z9 → zC [45, 47] Zs Z9 → zU [x0b] Zs Z9 → (0 ≤ yx3 ∧ yx3 ≤ 27) → zE T ((Z9, yx3)) → k 0 (L9, [], zm Z9 ν)) : wz_loop qb_17_1 65536 k R (L, [], zm Z ν) := by
  refine wz_lp sb_17_1 (fun m x => ∃ Z : qz_Z, ∃ x3 : Int, qz_fg [true, true, true, true] x.1 = [some (.inr (.inr (some (10, x0b, 0)))), some (.inl (i3 x1)), some (.inl (i3 x2)), some (.inl (i3 x3))] ∧ x.2 = ([], zm Z ν) ∧ zH s Z ∧ zC [45, 47] Zs Z ∧ zU [x0b] Zs Z ∧ m = (27 - x3).toNat ∧ (0 ≤ x3 ∧ x3 ≤ 27) ∧ zE T (zl_17_1 x0b x1 x2 (m + 1) Z x3)) ?_ 65536 ((27 - x3).toNat) _ (by omega) ⟨Z, x3, hL, rfl, hZ, hK, hU, rfl, gx3, hP⟩
  clear hP gx3 hZ hK hU hL
  clear x3
  clear Z
  rintro m ⟨L, st, μ⟩ ⟨Z, x3, hL, hx, hZ, hK, hU, hm, gx3, hP⟩
  cases hx
  refine fb_17_1 x0b (i3 x1) (i3 x2) (i3 x3) _ _ _ _ hL ?_
  refine wz_br (i3L (rfl : i3 x1 = i3 x1) (rfl : i3 x3 = i3 x3) (by omega) (by omega) (by omega) (by omega)) (fun h1 => ?_) (fun h1 => ?_)
  · replace hP := zE_p hP h1
    exact hk _ _ _ (zconso rfl (zconso (zvo (rfl : i3 x1 = i3 x1)) (zconso (zvo (rfl : i3 x2 = i3 x2)) (zconso rfl rfl)))) hZ hK hU (by omega)  hP
  · replace hP := zE_n hP h1
    obtain ⟨Z2, hZ2, c9, hZ2I, kZ2, jZ2⟩ := sp_30 (ν := ν) hZ x0b (a1 := x2) (by omega) (a2 := x3) (by omega) (zbh (c := 0) (k := 0) hM (Nat.le_of_ble_eq_true rfl))
    have hZ2U : zU [x0b] Zs Z2 := zU_t hU jZ2 (zU_b1 (List.Mem.head _) zU_b0)
    have hZ2K : zC [45, 47] Zs Z2 := zC_t hK kZ2 (by decide)
    replace hP := zl_e hP hZ2
    refine wz_cV_of (zas (zcons rfl (zcons (zvi (rfl : i3 x2 = i3 x2)) (zcons (zvi (rfl : i3 x3 = i3 x3)) rfl))) c9) ?_
    clear c9
    obtain ⟨m2, rfl⟩ : ∃ m2, m = m2 + 1 := ⟨m - 1, by omega⟩
    exact wz_k1 ⟨m2, by omega, Z2, (x3 + 1), (zconso rfl (zconso (zvo (rfl : i3 x1 = i3 x1)) (zconso (zvo (rfl : i3 x2 = i3 x2)) (zconso (zvo (i3A (rfl : i3 x3 = i3 x3) (show (1 : Int32) = i3 1 from rfl))) rfl)))), rfl, hZ2I, hZ2K, hZ2U, by omega, by omega,  hP⟩
/- yX1_closeDay -/
def zl_17_3 (x0b : Int) (x1 : Int) : Nat → qz_Z → Int → qz_Z × Int
  | 0, Z, x2 => (Z, x2)
  | m + 1, Z, x2 => (if (Z 11 x0b 0 4) ≤ x2 then (Z, x2) else (zlet (zu Z 45 x0b x2 7 0) (fun Z3 => (zlet2 (zl_17_1 x0b x1 x2 28 Z3 0) (fun Z5 y4 => zl_17_3 x0b x1 m Z5 (x2 + 1))))))
theorem sl_17_3 {s : zSM} {Zs Z : qz_Z} {ν : qz_N} (hZ : zH s Z) (hM : s.2 + 0 ≤ 1000000000) (hK : zC [45, 47] Zs Z) (x0b : Nat) {x1 : Int} (gx1 : -1 ≤ x1 ∧ x1 ≤ 26) {x2 : Int} (gx2 : 0 ≤ x2 ∧ x2 ≤ 8) (hU : zU [x0b] Zs Z) {k : wz_K} {R : wz_R} {L : qz_L} (hL : qz_fg [true, true, true, false] L = [some (.inr (.inr (some (10, x0b, 0)))), some (.inl (i3 x1)), some (.inl (i3 x2)), none]) {T : qz_Z × Int} (hP : zE T (zl_17_3 x0b x1 ((8 - x2).toNat + 1) Z x2)) (hk : ∀ (L9 : qz_L) (Z9 : qz_Z) (yx2 : Int), qz_fg [true, false, false, false] L9 = [some (.inr (.inr (some (10, x0b, 0)))), none, none, none] → zH s Z9 → zC [45, 47] Zs Z9 → zU [x0b] Zs Z9 → (0 ≤ yx2 ∧ yx2 ≤ 8) → zE T ((Z9, yx2)) → k 0 (L9, [], zm Z9 ν)) : wz_loop qb_17_3 65536 k R (L, [], zm Z ν) := by
  refine wz_lp sb_17_3 (fun m x => ∃ Z : qz_Z, ∃ x2 : Int, qz_fg [true, true, true, false] x.1 = [some (.inr (.inr (some (10, x0b, 0)))), some (.inl (i3 x1)), some (.inl (i3 x2)), none] ∧ x.2 = ([], zm Z ν) ∧ zH s Z ∧ zC [45, 47] Zs Z ∧ zU [x0b] Zs Z ∧ m = (8 - x2).toNat ∧ (0 ≤ x2 ∧ x2 ≤ 8) ∧ zE T (zl_17_3 x0b x1 (m + 1) Z x2)) ?_ 65536 ((8 - x2).toNat) _ (by omega) ⟨Z, x2, hL, rfl, hZ, hK, hU, rfl, gx2, hP⟩
  clear hP gx2 hZ hK hU hL
  clear x2
  clear Z
  rintro m ⟨L, st, μ⟩ ⟨Z, x2, hL, hx, hZ, hK, hU, hm, gx2, hP⟩
  cases hx
  refine fb_17_3 x0b (i3 x1) (i3 x2) _ _ _ _ hL ?_
  have r1 := zH_k hZ 11 x0b 0 4 (lo := 0) (hi := 8) (by decide) rfl
  refine wz_br (i3Le (zm_rd (Z := Z) (ν := ν) (k := 11) (rfl : ((x0b : Nat) : Int) = x0b) (show ((0 : Nat) : Int) = 0 from rfl) (show ((4 : Nat) : Int) = 4 from rfl)) (rfl : i3 x2 = i3 x2) (by omega) (by omega) (by omega) (by omega)) (fun h2 => ?_) (fun h2 => ?_)
  · replace hP := zE_p hP h2
    exact hk _ _ _ (zconso rfl (zconso rfl (zconso rfl (zconso rfl rfl)))) hZ hK hU (by omega)  hP
  · replace hP := zE_n hP h2
    refine wz_i0 (i3O (n := 8) (rfl : i3 x2 = i3 x2) (by omega) (by omega) (by omega)) ?_
    obtain ⟨Z3, hZ3⟩ := zx (zu Z 45 x0b x2 7 0)
    replace hP := zl_e hP hZ3
    have hZ3I := zH_0 hZ hZ3 (by decide) (Or.inl (by decide))
    have hZ3U : zU [x0b] Zs Z3 := zU_u hU hZ3 (Or.inr (List.Mem.head _))
    have hZ3K : zC [45, 47] Zs Z3 := zC_u hK hZ3 (by decide)
    intro μ9 e9
    replace e9 := e9.trans (zm_wI (Z := Z) (ν := ν) hZ3 (rfl : ((x0b : Nat) : Int) = x0b) (i3I (y := x2) (rfl : i3 x2 = i3 x2) (by omega) (by omega) (by omega)) (show ((7 : Nat) : Int) = 7 from rfl) (show (0 : Int32) = i3 0 from rfl))
    subst e9
    refine sl_17_1 (ν := ν) hZ3I (zbh (c := 0) (k := 0) hM (Nat.le_of_ble_eq_true rfl)) zC_r x0b (x1 := x1) (by omega) (x2 := x2) (by omega) (x3 := 0) (by omega) zU_r  (zconso rfl (zconso (zvo (rfl : i3 x1 = i3 x1)) (zconso (zvo (rfl : i3 x2 = i3 x2)) (zconso (zvo (show (0 : Int32) = i3 0 from rfl)) rfl)))) rfl ?_
    intro L6 Z5 y4 hL6 hZ5I kZ5 jZ5 gy4 q9
    replace hP := zl_e2 hP (Eq.symm q9)
    clear q9
    have hZ5U : zU [x0b] Zs Z5 := zU_t hZ3U jZ5 (zU_b1 (List.Mem.head _) zU_b0)
    have hZ5K : zC [45, 47] Zs Z5 := zC_t hZ3K kZ5 (by decide)
    refine fc_17_2 _ (i3 x1) (i3 x2) _ _ _ _ hL6 ?_
    obtain ⟨m2, rfl⟩ : ∃ m2, m = m2 + 1 := ⟨m - 1, by omega⟩
    refine wz_kbs (n := 1) (?_)
    exact wz_k1 ⟨m2, by omega, Z5, (x2 + 1), (zconso rfl (zconso (zvo (rfl : i3 x1 = i3 x1)) (zconso (zvo (i3A (rfl : i3 x2 = i3 x2) (show (1 : Int32) = i3 1 from rfl))) (zconso rfl rfl)))), rfl, hZ5I, hZ5K, hZ5U, by omega, by omega,  hP⟩
/- yX1_closeDay -/
def zl_17_4 (x0b : Int) : Nat → qz_Z → Int → qz_Z × Int
  | 0, Z, x2 => (Z, x2)
  | m + 1, Z, x2 => (if (Z 11 x0b 0 5) ≤ x2 then (Z, x2) else (if (Z 46 x0b x2 7) ≠ 0 then zl_17_4 x0b m Z (x2 + 1) else (if (z2 (fun x y => x &&& y) (z2 (fun x y => x >>> (y &&& 31)) (Z 46 x0b x2 5) (((Z 11 x0b 0 13) / 24) % 7)) 1) ≠ 1 then zl_17_4 x0b m Z (x2 + 1) else (zlet (zu Z 46 x0b x2 6 (Z 46 x0b x2 3)) (fun Z12 => zl_17_4 x0b m Z12 (x2 + 1))))))
theorem sl_17_4 {s : zSM} {Zs Z : qz_Z} {ν : qz_N} (hZ : zH s Z) (hM : s.2 + 0 ≤ 1000000000) (hK : zC [46] Zs Z) (x0b : Nat) {x2 : Int} (gx2 : 0 ≤ x2 ∧ x2 ≤ 24) (hU : zU [x0b] Zs Z) {k : wz_K} {R : wz_R} {L : qz_L} (hL : qz_fg [true, false, true, false] L = [some (.inr (.inr (some (10, x0b, 0)))), none, some (.inl (i3 x2)), none]) {T : qz_Z × Int} (hP : zE T (zl_17_4 x0b ((24 - x2).toNat + 1) Z x2)) (hk : ∀ (L9 : qz_L) (Z9 : qz_Z) (yx2 : Int), qz_fg [false, false, false, false] L9 = [none, none, none, none] → zH s Z9 → zC [46] Zs Z9 → zU [x0b] Zs Z9 → (0 ≤ yx2 ∧ yx2 ≤ 24) → zE T ((Z9, yx2)) → k 0 (L9, [], zm Z9 ν)) : wz_loop qb_17_4 65536 k R (L, [], zm Z ν) := by
  refine wz_lp sb_17_4 (fun m x => ∃ Z : qz_Z, ∃ x2 : Int, qz_fg [true, false, true, false] x.1 = [some (.inr (.inr (some (10, x0b, 0)))), none, some (.inl (i3 x2)), none] ∧ x.2 = ([], zm Z ν) ∧ zH s Z ∧ zC [46] Zs Z ∧ zU [x0b] Zs Z ∧ m = (24 - x2).toNat ∧ (0 ≤ x2 ∧ x2 ≤ 24) ∧ zE T (zl_17_4 x0b (m + 1) Z x2)) ?_ 65536 ((24 - x2).toNat) _ (by omega) ⟨Z, x2, hL, rfl, hZ, hK, hU, rfl, gx2, hP⟩
  clear hP gx2 hZ hK hU hL
  clear x2
  clear Z
  rintro m ⟨L, st, μ⟩ ⟨Z, x2, hL, hx, hZ, hK, hU, hm, gx2, hP⟩
  cases hx
  refine fb_17_4 x0b (i3 x2) _ _ _ _ hL ?_
  have r1 := zH_k hZ 11 x0b 0 5 (lo := 0) (hi := 24) (by decide) rfl
  refine wz_br (i3Le (zm_rd (Z := Z) (ν := ν) (k := 11) (rfl : ((x0b : Nat) : Int) = x0b) (show ((0 : Nat) : Int) = 0 from rfl) (show ((5 : Nat) : Int) = 5 from rfl)) (rfl : i3 x2 = i3 x2) (by omega) (by omega) (by omega) (by omega)) (fun h2 => ?_) (fun h2 => ?_)
  · replace hP := zE_p hP h2
    exact hk _ _ _ (zconso rfl (zconso rfl (zconso rfl (zconso rfl rfl)))) hZ hK hU (by omega)  hP
  · replace hP := zE_n hP h2
    refine wz_i0 (i3O (n := 24) (rfl : i3 x2 = i3 x2) (by omega) (by omega) (by omega)) ?_
    have r3 := zH_k hZ 46 x0b x2 7 (lo := 0) (hi := 1) (by decide) rfl
    refine wz_br (i3NE (zm_rd (Z := Z) (ν := ν) (k := 46) (rfl : ((x0b : Nat) : Int) = x0b) (i3I (y := x2) (rfl : i3 x2 = i3 x2) (by omega) (by omega) (by omega)) (show ((7 : Nat) : Int) = 7 from rfl)) (show (0 : Int32) = i3 0 from rfl) (by omega) (by omega) (by omega) (by omega)) (fun h4 => ?_) (fun h4 => ?_)
    · replace hP := zE_p hP h4
      obtain ⟨m2, rfl⟩ : ∃ m2, m = m2 + 1 := ⟨m - 1, by omega⟩
      exact wz_k1 ⟨m2, by omega, Z, (x2 + 1), (zconso rfl (zconso rfl (zconso (zvo (i3A (rfl : i3 x2 = i3 x2) (show (1 : Int32) = i3 1 from rfl))) (zconso rfl rfl)))), rfl, hZ, hK, hU, by omega, by omega,  hP⟩
    · replace hP := zE_n hP h4
      have r5 := zH_k hZ 46 x0b x2 5 (lo := 0) (hi := 127) (by decide) rfl
      have r6 := zH_k hZ 11 x0b 0 13 (lo := 0) (hi := 671) (by decide) rfl
      have r7 := z2_r (fun x y => x >>> (y &&& 31)) (Z 46 x0b x2 5) (((Z 11 x0b 0 13) / 24) % 7)
      have r8 := z2_r (fun x y => x &&& y) (z2 (fun x y => x >>> (y &&& 31)) (Z 46 x0b x2 5) (((Z 11 x0b 0 13) / 24) % 7)) 1
      have r9 := z2_and (z2 (fun x y => x >>> (y &&& 31)) (Z 46 x0b x2 5) (((Z 11 x0b 0 13) / 24) % 7)) (y := 1) (by omega) (by omega)
      refine wz_br (i3NE (i3Z (fun x y => x &&& y) (i3Z (fun x y => x >>> (y &&& 31)) (zm_rd (Z := Z) (ν := ν) (k := 46) (rfl : ((x0b : Nat) : Int) = x0b) (i3I (y := x2) (rfl : i3 x2 = i3 x2) (by omega) (by omega) (by omega)) (show ((5 : Nat) : Int) = 5 from rfl)) (i3R (i3D (zm_rd (Z := Z) (ν := ν) (k := 11) (rfl : ((x0b : Nat) : Int) = x0b) (show ((0 : Nat) : Int) = 0 from rfl) (show ((13 : Nat) : Int) = 13 from rfl)) (show (24 : Int32) = i3 24 from rfl) (by omega) (by omega) (by omega) (by omega)) (show (7 : Int32) = i3 7 from rfl) (by omega) (by omega) (by omega) (by omega))) (show (1 : Int32) = i3 1 from rfl)) (show (1 : Int32) = i3 1 from rfl) (by omega) (by omega) (by omega) (by omega)) (fun h10 => ?_) (fun h10 => ?_)
      · replace hP := zE_p hP h10
        obtain ⟨m2, rfl⟩ : ∃ m2, m = m2 + 1 := ⟨m - 1, by omega⟩
        exact wz_k1 ⟨m2, by omega, Z, (x2 + 1), (zconso rfl (zconso rfl (zconso (zvo (i3A (rfl : i3 x2 = i3 x2) (show (1 : Int32) = i3 1 from rfl))) (zconso rfl rfl)))), rfl, hZ, hK, hU, by omega, by omega,  hP⟩
      · replace hP := zE_n hP h10
        have r11 := zH_k hZ 46 x0b x2 3 (lo := 0) (hi := 99) (by decide) rfl
        obtain ⟨Z12, hZ12⟩ := zx (zu Z 46 x0b x2 6 (Z 46 x0b x2 3))
        replace hP := zl_e hP hZ12
        have hZ12I := zH_u hZ hZ12 (lo := 0) (hi := 99) (by decide) rfl (by omega) ⟨by decide, by decide⟩ (Or.inl (by decide)) rfl
        have hZ12U : zU [x0b] Zs Z12 := zU_u hU hZ12 (Or.inr (List.Mem.head _))
        have hZ12K : zC [46] Zs Z12 := zC_u hK hZ12 (by decide)
        intro μ9 e9
        replace e9 := e9.trans (zm_wI (Z := Z) (ν := ν) hZ12 (rfl : ((x0b : Nat) : Int) = x0b) (i3I (y := x2) (rfl : i3 x2 = i3 x2) (by omega) (by omega) (by omega)) (show ((6 : Nat) : Int) = 6 from rfl) (zm_rd (Z := Z) (ν := ν) (k := 46) (rfl : ((x0b : Nat) : Int) = x0b) (i3I (y := x2) (rfl : i3 x2 = i3 x2) (by omega) (by omega) (by omega)) (show ((3 : Nat) : Int) = 3 from rfl)))
        subst e9
        obtain ⟨m2, rfl⟩ : ∃ m2, m = m2 + 1 := ⟨m - 1, by omega⟩
        exact wz_k1 ⟨m2, by omega, Z12, (x2 + 1), (zconso rfl (zconso rfl (zconso (zvo (i3A (rfl : i3 x2 = i3 x2) (show (1 : Int32) = i3 1 from rfl))) (zconso rfl rfl)))), rfl, hZ12I, hZ12K, hZ12U, by omega, by omega,  hP⟩
/- yX1_closeDay -/
def zf_17 (Z : qz_Z) (a0b : Int) : qz_Z := (zlet2 (zl_17_3 a0b (((Z 11 a0b 0 13) / 24) - 1) 9 Z 0) (fun Z3 y2 => (zlet2 (zl_17_4 a0b 25 Z3 0) (fun Z6 y5 => Z6))))
theorem sp_17 {s : zSM} {Z : qz_Z} {ν : qz_N} (hZ : zH s Z) (a0b : Nat) (hM : s.2 + 0 ≤ 1000000000) : ∃ P : qz_Z, P = zf_17 Z a0b ∧ (qf_17 [.inr (.inr (some (10, a0b, 0)))] (zm Z ν) = some (zm P ν, .inl none) ∧ zH s P ∧ zC [45, 46, 47] Z P ∧ zU [a0b] Z P) := by
  obtain ⟨P, hP⟩ := zx (zf_17 Z a0b)
  refine zc_V (Q := fun P => zH s P ∧ zC [45, 46, 47] Z P ∧ zU [a0b] Z P) hP (fw_17 a0b _ _ ?_)
  replace hP : zE P (zf_17 Z a0b) := hP
  unfold zf_17 at hP
  have r1 := zH_k hZ 11 a0b 0 13 (lo := 0) (hi := 671) (by decide) rfl
  refine sl_17_3 (ν := ν) hZ (zbh (c := 0) (k := 0) hM (Nat.le_of_ble_eq_true rfl)) zC_r a0b (x1 := (((Z 11 a0b 0 13) / 24) - 1)) (by omega) (x2 := 0) (by omega) zU_r  (zconso rfl (zconso (zvo (i3S (i3D (zm_rd (Z := Z) (ν := ν) (k := 11) (rfl : ((a0b : Nat) : Int) = a0b) (show ((0 : Nat) : Int) = 0 from rfl) (show ((13 : Nat) : Int) = 13 from rfl)) (show (24 : Int32) = i3 24 from rfl) (by omega) (by omega) (by omega) (by omega)) (show (1 : Int32) = i3 1 from rfl))) (zconso (zvo (show (0 : Int32) = i3 0 from rfl)) (zconso rfl rfl)))) rfl ?_
  intro L4 Z3 y2 hL4 hZ3I kZ3 jZ3 gy2 q9
  replace hP := zl_e2 hP (Eq.symm q9)
  clear q9
  have hZ3U : zU [a0b] Z Z3 := zU_t zU_r jZ3 (zU_b1 (List.Mem.head _) zU_b0)
  have hZ3K : zC [45, 46, 47] Z Z3 := zC_t zC_r kZ3 (by decide)
  refine fc_17_6 _ _ _ _ _ hL4 ?_
  refine sl_17_4 (ν := ν) hZ3I (zbh (c := 0) (k := 0) hM (Nat.le_of_ble_eq_true rfl)) zC_r a0b (x2 := 0) (by omega) zU_r  (zconso rfl (zconso rfl (zconso (zvo (show (0 : Int32) = i3 0 from rfl)) (zconso rfl rfl)))) rfl ?_
  intro L7 Z6 y5 hL7 hZ6I kZ6 jZ6 gy5 q9
  replace hP := zl_e2 hP (Eq.symm q9)
  clear q9
  have hZ6U : zU [a0b] Z Z6 := zU_t hZ3U jZ6 (zU_b1 (List.Mem.head _) zU_b0)
  have hZ6K : zC [45, 46, 47] Z Z6 := zC_t hZ3K kZ6 (by decide)
  refine fc_17_5  _ _ _ _ hL7 ?_
  exact zlV hP ⟨hZ6I, hZ6K, hZ6U⟩
/- yX2_bring -/
def zl_41_1 (x0b : Int) (x1 : Int) (x2 : Int) : Nat → qz_Z → Int → qz_Z × Int
  | 0, Z, x3 => (Z, x3)
  | m + 1, Z, x3 => (if (Z 11 x0b 0 6) ≤ x3 then (Z, x3) else (if (Z 47 x0b x3 10) ≠ x1 then zl_41_1 x0b x1 x2 m Z (x3 + 1) else (if (Z 45 x0b (Z 47 x0b x3 1) 0) ≠ x2 then zl_41_1 x0b x1 x2 m Z (x3 + 1) else (zlet (zu Z 47 x0b x3 9 2) (fun Z9 => (zlet (zu Z9 47 x0b x3 10 (-1)) (fun Z10 => (zlet (zu Z10 47 x0b x3 17 (Z10 11 x0b 0 13)) (fun Z15 => (zlet (zu Z15 45 x0b (Z15 47 x0b x3 1) 10 (w3 ((Z15 45 x0b (Z15 47 x0b x3 1) 10) + (Z15 47 x0b x3 3)))) (fun Z21 => zl_41_1 x0b x1 x2 m Z21 (x3 + 1))))))))))))
theorem sl_41_1 {s : zSM} {Zs Z : qz_Z} {ν : qz_N} (hZ : zH s Z) (hM : s.2 + 0 ≤ 1000000000) (hK : zC [45, 47] Zs Z) (x0b : Nat) {x1 : Int} (gx1 : 0 ≤ x1 ∧ x1 ≤ 3) {x2 : Int} (gx2 : -1 ≤ x2 ∧ x2 ≤ 4) {x3 : Int} (gx3 : 0 ≤ x3 ∧ x3 ≤ 60) (hU : zU [x0b] Zs Z) {k : wz_K} {R : wz_R} {L : qz_L} (hL : qz_fg [true, true, true, true, false] L = [some (.inr (.inr (some (10, x0b, 0)))), some (.inl (i3 x1)), some (.inl (i3 x2)), some (.inl (i3 x3)), none]) {T : qz_Z × Int} (hP : zE T (zl_41_1 x0b x1 x2 ((60 - x3).toNat + 1) Z x3)) (hk : ∀ (L9 : qz_L) (Z9 : qz_Z) (yx3 : Int), qz_fg [false, false, false, false, false] L9 = [none, none, none, none, none] → zH s Z9 → zC [45, 47] Zs Z9 → zU [x0b] Zs Z9 → (0 ≤ yx3 ∧ yx3 ≤ 60) → zE T ((Z9, yx3)) → k 0 (L9, [], zm Z9 ν)) : wz_loop qb_41_1 65536 k R (L, [], zm Z ν) := by
  refine wz_lp sb_41_1 (fun m x => ∃ Z : qz_Z, ∃ x3 : Int, qz_fg [true, true, true, true, false] x.1 = [some (.inr (.inr (some (10, x0b, 0)))), some (.inl (i3 x1)), some (.inl (i3 x2)), some (.inl (i3 x3)), none] ∧ x.2 = ([], zm Z ν) ∧ zH s Z ∧ zC [45, 47] Zs Z ∧ zU [x0b] Zs Z ∧ m = (60 - x3).toNat ∧ (0 ≤ x3 ∧ x3 ≤ 60) ∧ zE T (zl_41_1 x0b x1 x2 (m + 1) Z x3)) ?_ 65536 ((60 - x3).toNat) _ (by omega) ⟨Z, x3, hL, rfl, hZ, hK, hU, rfl, gx3, hP⟩
  clear hP gx3 hZ hK hU hL
  clear x3
  clear Z
  rintro m ⟨L, st, μ⟩ ⟨Z, x3, hL, hx, hZ, hK, hU, hm, gx3, hP⟩
  cases hx
  refine fb_41_1 x0b (i3 x1) (i3 x2) (i3 x3) _ _ _ _ hL ?_
  have r1 := zH_k hZ 11 x0b 0 6 (lo := 0) (hi := 60) (by decide) rfl
  refine wz_br (i3Le (zm_rd (Z := Z) (ν := ν) (k := 11) (rfl : ((x0b : Nat) : Int) = x0b) (show ((0 : Nat) : Int) = 0 from rfl) (show ((6 : Nat) : Int) = 6 from rfl)) (rfl : i3 x3 = i3 x3) (by omega) (by omega) (by omega) (by omega)) (fun h2 => ?_) (fun h2 => ?_)
  · replace hP := zE_p hP h2
    exact hk _ _ _ (zconso rfl (zconso rfl (zconso rfl (zconso rfl (zconso rfl rfl))))) hZ hK hU (by omega)  hP
  · replace hP := zE_n hP h2
    refine wz_i0 (i3O (n := 60) (rfl : i3 x3 = i3 x3) (by omega) (by omega) (by omega)) ?_
    have r3 := zH_k hZ 47 x0b x3 10 (lo := -1) (hi := 3) (by decide) rfl
    have r4 := zH_lt hZ x0b x3
    refine wz_br (i3NE (zm_rd (Z := Z) (ν := ν) (k := 47) (rfl : ((x0b : Nat) : Int) = x0b) (i3I (y := x3) (rfl : i3 x3 = i3 x3) (by omega) (by omega) (by omega)) (show ((10 : Nat) : Int) = 10 from rfl)) (rfl : i3 x1 = i3 x1) (by omega) (by omega) (by omega) (by omega)) (fun h5 => ?_) (fun h5 => ?_)
    · replace hP := zE_p hP h5
      obtain ⟨m2, rfl⟩ : ∃ m2, m = m2 + 1 := ⟨m - 1, by omega⟩
      exact wz_k1 ⟨m2, by omega, Z, (x3 + 1), (zconso rfl (zconso (zvo (rfl : i3 x1 = i3 x1)) (zconso (zvo (rfl : i3 x2 = i3 x2)) (zconso (zvo (i3A (rfl : i3 x3 = i3 x3) (show (1 : Int32) = i3 1 from rfl))) (zconso rfl rfl))))), rfl, hZ, hK, hU, by omega, by omega,  hP⟩
    · replace hP := zE_n hP h5
      have r6 := zH_k hZ 47 x0b x3 1 (lo := 0) (hi := 7) (by decide) rfl
      refine wz_i0 (i3O (n := 8) (zm_rd (Z := Z) (ν := ν) (k := 47) (rfl : ((x0b : Nat) : Int) = x0b) (i3I (y := x3) (rfl : i3 x3 = i3 x3) (by omega) (by omega) (by omega)) (show ((1 : Nat) : Int) = 1 from rfl)) (by omega) (by omega) (by omega)) ?_
      have r7 := zH_k hZ 45 x0b (Z 47 x0b x3 1) 0 (lo := 0) (hi := 4) (by decide) rfl
      refine wz_br (i3NE (zm_rd (Z := Z) (ν := ν) (k := 45) (rfl : ((x0b : Nat) : Int) = x0b) (i3I (y := (Z 47 x0b x3 1)) (zm_rd (Z := Z) (ν := ν) (k := 47) (rfl : ((x0b : Nat) : Int) = x0b) (i3I (y := x3) (rfl : i3 x3 = i3 x3) (by omega) (by omega) (by omega)) (show ((1 : Nat) : Int) = 1 from rfl)) (by omega) (by omega) (by omega)) (show ((0 : Nat) : Int) = 0 from rfl)) (rfl : i3 x2 = i3 x2) (by omega) (by omega) (by omega) (by omega)) (fun h8 => ?_) (fun h8 => ?_)
      · replace hP := zE_p hP h8
        obtain ⟨m2, rfl⟩ : ∃ m2, m = m2 + 1 := ⟨m - 1, by omega⟩
        exact wz_k1 ⟨m2, by omega, Z, (x3 + 1), (zconso rfl (zconso (zvo (rfl : i3 x1 = i3 x1)) (zconso (zvo (rfl : i3 x2 = i3 x2)) (zconso (zvo (i3A (rfl : i3 x3 = i3 x3) (show (1 : Int32) = i3 1 from rfl))) (zconso rfl rfl))))), rfl, hZ, hK, hU, by omega, by omega,  hP⟩
      · replace hP := zE_n hP h8
        obtain ⟨Z9, hZ9⟩ := zx (zu Z 47 x0b x3 9 2)
        replace hP := zl_e hP hZ9
        have hZ9I := zH_st hZ hZ9 (by omega) (by omega)
        have hZ9U : zU [x0b] Zs Z9 := zU_u hU hZ9 (Or.inr (List.Mem.head _))
        have hZ9K : zC [45, 47] Zs Z9 := zC_u hK hZ9 (by decide)
        intro μ9 e9
        replace e9 := e9.trans (zm_wI (Z := Z) (ν := ν) hZ9 (rfl : ((x0b : Nat) : Int) = x0b) (i3I (y := x3) (rfl : i3 x3 = i3 x3) (by omega) (by omega) (by omega)) (show ((9 : Nat) : Int) = 9 from rfl) (show (2 : Int32) = i3 2 from rfl))
        subst e9
        obtain ⟨Z10, hZ10⟩ := zx (zu Z9 47 x0b x3 10 (-1))
        replace hP := zl_e hP hZ10
        have r11 := zH_k hZ9I 47 x0b x3 9 (lo := 0) (hi := 3) (by decide) rfl
        have r12 := zH_lt hZ9I x0b x3
        have q13 := zu_at hZ9
        have hZ10I := zH_tr hZ9I hZ10 (by omega) (by omega)
        have hZ10U : zU [x0b] Zs Z10 := zU_u hZ9U hZ10 (Or.inr (List.Mem.head _))
        have hZ10K : zC [45, 47] Zs Z10 := zC_u hZ9K hZ10 (by decide)
        intro μ9 e9
        replace e9 := e9.trans (zm_wI (Z := Z9) (ν := ν) hZ10 (rfl : ((x0b : Nat) : Int) = x0b) (i3I (y := x3) (rfl : i3 x3 = i3 x3) (by omega) (by omega) (by omega)) (show ((10 : Nat) : Int) = 10 from rfl) (show (-1 : Int32) = i3 (-1) from rfl))
        subst e9
        have r14 := zH_k hZ10I 11 x0b 0 13 (lo := 0) (hi := 671) (by decide) rfl
        obtain ⟨Z15, hZ15⟩ := zx (zu Z10 47 x0b x3 17 (Z10 11 x0b 0 13))
        replace hP := zl_e hP hZ15
        have hZ15I := zH_u hZ10I hZ15 (lo := -1) (hi := 671) (by decide) rfl (by omega) ⟨by decide, by decide⟩ (Or.inl (by decide)) rfl
        have hZ15U : zU [x0b] Zs Z15 := zU_u hZ10U hZ15 (Or.inr (List.Mem.head _))
        have hZ15K : zC [45, 47] Zs Z15 := zC_u hZ10K hZ15 (by decide)
        intro μ9 e9
        replace e9 := e9.trans (zm_wI (Z := Z10) (ν := ν) hZ15 (rfl : ((x0b : Nat) : Int) = x0b) (i3I (y := x3) (rfl : i3 x3 = i3 x3) (by omega) (by omega) (by omega)) (show ((17 : Nat) : Int) = 17 from rfl) (zm_rd (Z := Z10) (ν := ν) (k := 11) (rfl : ((x0b : Nat) : Int) = x0b) (show ((0 : Nat) : Int) = 0 from rfl) (show ((13 : Nat) : Int) = 13 from rfl)))
        subst e9
        have r16 := zH_k hZ15I 47 x0b x3 1 (lo := 0) (hi := 7) (by decide) rfl
        have q17 := (zu_ne (k' := 47) (b' := x0b) (i' := x3) (j' := 1) hZ15 (fun q => absurd q.2.2.2 (by decide))).trans ((zu_ne (k' := 47) (b' := x0b) (i' := x3) (j' := 1) hZ10 (fun q => absurd q.2.2.2 (by decide))).trans (zu_ne (k' := 47) (b' := x0b) (i' := x3) (j' := 1) hZ9 (fun q => absurd q.2.2.2 (by decide))))
        refine wz_i0 (i3O (n := 8) (zm_rd (Z := Z15) (ν := ν) (k := 47) (rfl : ((x0b : Nat) : Int) = x0b) (i3I (y := x3) (rfl : i3 x3 = i3 x3) (by omega) (by omega) (by omega)) (show ((1 : Nat) : Int) = 1 from rfl)) (by omega) (by omega) (by omega)) ?_
        have r18 := zH_f hZ15I 45 x0b (Z15 47 x0b x3 1) 10
        have r19 := zH_k hZ15I 47 x0b x3 3 (lo := 0) (hi := 40) (by decide) rfl
        have r20 := w3_r ((Z15 45 x0b (Z15 47 x0b x3 1) 10) + (Z15 47 x0b x3 3))
        obtain ⟨Z21, hZ21⟩ := zx (zu Z15 45 x0b (Z15 47 x0b x3 1) 10 (w3 ((Z15 45 x0b (Z15 47 x0b x3 1) 10) + (Z15 47 x0b x3 3))))
        replace hP := zl_e hP hZ21
        have hZ21I := zH_u hZ15I hZ21 (lo := -2147483648) (hi := 2147483647) (by decide) rfl (by omega) ⟨by decide, by decide⟩ (Or.inl (by decide)) rfl
        have hZ21U : zU [x0b] Zs Z21 := zU_u hZ15U hZ21 (Or.inr (List.Mem.head _))
        have hZ21K : zC [45, 47] Zs Z21 := zC_u hZ15K hZ21 (by decide)
        intro μ9 e9
        replace e9 := e9.trans (zm_wI (Z := Z15) (ν := ν) hZ21 (rfl : ((x0b : Nat) : Int) = x0b) (i3I (y := (Z15 47 x0b x3 1)) (zm_rd (Z := Z15) (ν := ν) (k := 47) (rfl : ((x0b : Nat) : Int) = x0b) (i3I (y := x3) (rfl : i3 x3 = i3 x3) (by omega) (by omega) (by omega)) (show ((1 : Nat) : Int) = 1 from rfl)) (by omega) (by omega) (by omega)) (show ((10 : Nat) : Int) = 10 from rfl) (i3W (i3A (zm_rd (Z := Z15) (ν := ν) (k := 45) (rfl : ((x0b : Nat) : Int) = x0b) (i3I (y := (Z15 47 x0b x3 1)) (zm_rd (Z := Z15) (ν := ν) (k := 47) (rfl : ((x0b : Nat) : Int) = x0b) (i3I (y := x3) (rfl : i3 x3 = i3 x3) (by omega) (by omega) (by omega)) (show ((1 : Nat) : Int) = 1 from rfl)) (by omega) (by omega) (by omega)) (show ((10 : Nat) : Int) = 10 from rfl)) (zm_rd (Z := Z15) (ν := ν) (k := 47) (rfl : ((x0b : Nat) : Int) = x0b) (i3I (y := x3) (rfl : i3 x3 = i3 x3) (by omega) (by omega) (by omega)) (show ((3 : Nat) : Int) = 3 from rfl)))))
        subst e9
        obtain ⟨m2, rfl⟩ : ∃ m2, m = m2 + 1 := ⟨m - 1, by omega⟩
        exact wz_k1 ⟨m2, by omega, Z21, (x3 + 1), (zconso rfl (zconso (zvo (rfl : i3 x1 = i3 x1)) (zconso (zvo (rfl : i3 x2 = i3 x2)) (zconso (zvo (i3A (rfl : i3 x3 = i3 x3) (show (1 : Int32) = i3 1 from rfl))) (zconso rfl rfl))))), rfl, hZ21I, hZ21K, hZ21U, by omega, by omega,  hP⟩
/- yX2_bring -/
def zf_41 (Z : qz_Z) (a0b : Int) (a1 : Int) (a2 : Int) : qz_Z := (zlet2 (zl_41_1 a0b a1 a2 61 Z 0) (fun Z2 y1 => Z2))
theorem sp_41 {s : zSM} {Z : qz_Z} {ν : qz_N} (hZ : zH s Z) (a0b : Nat) {a1 : Int} (ga1 : 0 ≤ a1 ∧ a1 ≤ 3) {a2 : Int} (ga2 : -1 ≤ a2 ∧ a2 ≤ 4) (hM : s.2 + 0 ≤ 1000000000) : ∃ P : qz_Z, P = zf_41 Z a0b a1 a2 ∧ (qf_41 [.inr (.inr (some (10, a0b, 0))), .inl (i3 a1), .inl (i3 a2)] (zm Z ν) = some (zm P ν, .inl none) ∧ zH s P ∧ zC [45, 47] Z P ∧ zU [a0b] Z P) := by
  obtain ⟨P, hP⟩ := zx (zf_41 Z a0b a1 a2)
  refine zc_V (Q := fun P => zH s P ∧ zC [45, 47] Z P ∧ zU [a0b] Z P) hP (fw_41 a0b (i3 a1) (i3 a2) _ _ ?_)
  replace hP : zE P (zf_41 Z a0b a1 a2) := hP
  unfold zf_41 at hP
  refine sl_41_1 (ν := ν) hZ (zbh (c := 0) (k := 0) hM (Nat.le_of_ble_eq_true rfl)) zC_r a0b (x1 := a1) (by omega) (x2 := a2) (by omega) (x3 := 0) (by omega) zU_r  (zconso rfl (zconso (zvo (rfl : i3 a1 = i3 a1)) (zconso (zvo (rfl : i3 a2 = i3 a2)) (zconso (zvo (show (0 : Int32) = i3 0 from rfl)) (zconso rfl rfl))))) rfl ?_
  intro L3 Z2 y1 hL3 hZ2I kZ2 jZ2 gy1 q9
  replace hP := zl_e2 hP (Eq.symm q9)
  clear q9
  have hZ2U : zU [a0b] Z Z2 := zU_t zU_r jZ2 (zU_b1 (List.Mem.head _) zU_b0)
  have hZ2K : zC [45, 47] Z Z2 := zC_t zC_r kZ2 (by decide)
  refine fc_41_2  _ _ _ _ hL3 ?_
  exact zlV hP ⟨hZ2I, hZ2K, hZ2U⟩
/- yX2_arrive -/
def zl_39_1 (x0b : Int) (x2ij : Int) (x1 : Int) : Nat → qz_Z → Int → qz_Z × Int
  | 0, Z, x3 => (Z, x3)
  | m + 1, Z, x3 => (if 5 ≤ x3 then (Z, x3) else (if (Z 50 x0b x2ij (17 + x3)) ≠ (Z 11 x0b 0 13) then zl_39_1 x0b x2ij x1 m Z (x3 + 1) else (zlet (zf_41 Z x0b x1 (Z 50 x0b x2ij (12 + x3))) (fun Z6 => zl_39_1 x0b x2ij x1 m Z6 (x3 + 1)))))
theorem sl_39_1 {s : zSM} {Zs Z : qz_Z} {ν : qz_N} (hZ : zH s Z) (hM : s.2 + 0 ≤ 1000000000) (hK : zC [45, 47] Zs Z) (x0b : Nat) (x2i : Nat) {x2ij : Int} (ex2i : (x2i : Int) = x2ij) (gx2ij : 0 ≤ x2ij ∧ x2ij ≤ 3) {x1 : Int} (gx1 : 0 ≤ x1 ∧ x1 ≤ 3) {x3 : Int} (gx3 : 0 ≤ x3 ∧ x3 ≤ 5) (hU : zU [x0b] Zs Z) {k : wz_K} {R : wz_R} {L : qz_L} (hL : qz_fg [true, true, true, true] L = [some (.inr (.inr (some (10, x0b, 0)))), some (.inl (i3 x1)), some (.inr (.inr (some (50, x0b, x2i)))), some (.inl (i3 x3))]) {T : qz_Z × Int} (hP : zE T (zl_39_1 x0b x2ij x1 ((5 - x3).toNat + 1) Z x3)) (hk : ∀ (L9 : qz_L) (Z9 : qz_Z) (yx3 : Int), qz_fg [true, true, true, false] L9 = [some (.inr (.inr (some (10, x0b, 0)))), some (.inl (i3 x1)), some (.inr (.inr (some (50, x0b, x2i)))), none] → zH s Z9 → zC [45, 47] Zs Z9 → zU [x0b] Zs Z9 → (0 ≤ yx3 ∧ yx3 ≤ 5) → zE T ((Z9, yx3)) → k 0 (L9, [], zm Z9 ν)) : wz_loop qb_39_1 65536 k R (L, [], zm Z ν) := by
  refine wz_lp sb_39_1 (fun m x => ∃ Z : qz_Z, ∃ x3 : Int, qz_fg [true, true, true, true] x.1 = [some (.inr (.inr (some (10, x0b, 0)))), some (.inl (i3 x1)), some (.inr (.inr (some (50, x0b, x2i)))), some (.inl (i3 x3))] ∧ x.2 = ([], zm Z ν) ∧ zH s Z ∧ zC [45, 47] Zs Z ∧ zU [x0b] Zs Z ∧ m = (5 - x3).toNat ∧ (0 ≤ x3 ∧ x3 ≤ 5) ∧ zE T (zl_39_1 x0b x2ij x1 (m + 1) Z x3)) ?_ 65536 ((5 - x3).toNat) _ (by omega) ⟨Z, x3, hL, rfl, hZ, hK, hU, rfl, gx3, hP⟩
  clear hP gx3 hZ hK hU hL
  clear x3
  clear Z
  rintro m ⟨L, st, μ⟩ ⟨Z, x3, hL, hx, hZ, hK, hU, hm, gx3, hP⟩
  cases hx
  refine fb_39_1 x0b (i3 x1) x2i (i3 x3) _ _ _ _ hL ?_
  refine wz_br (i3Le (show (5 : Int32) = i3 5 from rfl) (rfl : i3 x3 = i3 x3) (by omega) (by omega) (by omega) (by omega)) (fun h1 => ?_) (fun h1 => ?_)
  · replace hP := zE_p hP h1
    exact hk _ _ _ (zconso rfl (zconso (zvo (rfl : i3 x1 = i3 x1)) (zconso rfl (zconso rfl rfl)))) hZ hK hU (by omega)  hP
  · replace hP := zE_n hP h1
    refine wz_i0 (i3O (n := 22) (i3A (show (17 : Int32) = i3 17 from rfl) (rfl : i3 x3 = i3 x3)) (by omega) (by omega) (by omega)) ?_
    have r2 := zH_k hZ 50 x0b x2ij (17 + x3) (lo := -1) (hi := 743) (by decide) (zrn_of (lo := 17) (n := 5) (by decide) (by decide +kernel) (by omega) (by omega))
    have r3 := zH_k hZ 11 x0b 0 13 (lo := 0) (hi := 671) (by decide) rfl
    refine wz_br (i3NE (zm_rd (Z := Z) (ν := ν) (k := 50) (rfl : ((x0b : Nat) : Int) = x0b) ex2i (i3I (y := (17 + x3)) (i3A (show (17 : Int32) = i3 17 from rfl) (rfl : i3 x3 = i3 x3)) (by omega) (by omega) (by omega))) (zm_rd (Z := Z) (ν := ν) (k := 11) (rfl : ((x0b : Nat) : Int) = x0b) (show ((0 : Nat) : Int) = 0 from rfl) (show ((13 : Nat) : Int) = 13 from rfl)) (by omega) (by omega) (by omega) (by omega)) (fun h4 => ?_) (fun h4 => ?_)
    · replace hP := zE_p hP h4
      obtain ⟨m2, rfl⟩ : ∃ m2, m = m2 + 1 := ⟨m - 1, by omega⟩
      exact wz_k1 ⟨m2, by omega, Z, (x3 + 1), (zconso rfl (zconso (zvo (rfl : i3 x1 = i3 x1)) (zconso rfl (zconso (zvo (i3A (rfl : i3 x3 = i3 x3) (show (1 : Int32) = i3 1 from rfl))) rfl)))), rfl, hZ, hK, hU, by omega, by omega,  hP⟩
    · replace hP := zE_n hP h4
      refine wz_i0 (i3O (n := 22) (i3A (show (12 : Int32) = i3 12 from rfl) (rfl : i3 x3 = i3 x3)) (by omega) (by omega) (by omega)) ?_
      have r5 := zH_k hZ 50 x0b x2ij (12 + x3) (lo := -1) (hi := 4) (by decide) (zrn_of (lo := 12) (n := 5) (by decide) (by decide +kernel) (by omega) (by omega))
      obtain ⟨Z6, hZ6, c9, hZ6I, kZ6, jZ6⟩ := sp_41 (ν := ν) hZ x0b (a1 := x1) (by omega) (a2 := (Z 50 x0b x2ij (12 + x3))) (by omega) (zbh (c := 0) (k := 0) hM (Nat.le_of_ble_eq_true rfl))
      have hZ6U : zU [x0b] Zs Z6 := zU_t hU jZ6 (zU_b1 (List.Mem.head _) zU_b0)
      have r7 := zpt_c (b := x0b) kZ6 (by decide)
      have hZ6K : zC [45, 47] Zs Z6 := zC_t hK kZ6 (by decide)
      replace hP := zl_e hP hZ6
      refine wz_cV_of (zas (zcons rfl (zcons (zvi (rfl : i3 x1 = i3 x1)) (zcons (zvi (zm_rd (Z := Z) (ν := ν) (k := 50) (rfl : ((x0b : Nat) : Int) = x0b) ex2i (i3I (y := (12 + x3)) (i3A (show (12 : Int32) = i3 12 from rfl) (rfl : i3 x3 = i3 x3)) (by omega) (by omega) (by omega)))) rfl))) c9) ?_
      clear c9
      obtain ⟨m2, rfl⟩ : ∃ m2, m = m2 + 1 := ⟨m - 1, by omega⟩
      exact wz_k1 ⟨m2, by omega, Z6, (x3 + 1), (zconso rfl (zconso (zvo (rfl : i3 x1 = i3 x1)) (zconso rfl (zconso (zvo (i3A (rfl : i3 x3 = i3 x3) (show (1 : Int32) = i3 1 from rfl))) rfl)))), rfl, hZ6I, hZ6K, hZ6U, by omega, by omega,  hP⟩
/- yX2_arrive -/
def zl_39_4 (x0b : Int) : Nat → qz_Z → Int → qz_Z × Int
  | 0, Z, x1 => (Z, x1)
  | m + 1, Z, x1 => (if (Z 11 x0b 0 8) ≤ x1 then (Z, x1) else (if (Z 50 x0b x1 2) ≠ 1 then zl_39_4 x0b m Z (x1 + 1) else (zlet2 (zl_39_1 x0b x1 x1 6 Z 0) (fun Z6 y5 => (if (Z6 50 x0b x1 8) ≠ (Z6 11 x0b 0 13) then zl_39_4 x0b m Z6 (x1 + 1) else (zlet (zu Z6 50 x0b x1 2 0) (fun Z12 => (zlet (zu Z12 50 x0b x1 8 (-1)) (fun Z14 => (zlet (zu Z14 50 x0b x1 10 (w3 ((Z14 50 x0b x1 10) + (Z14 50 x0b x1 6)))) (fun Z19 => (if (w3 ((Z19 13 x0b 0 2) * (Z19 50 x0b x1 6))) ≠ 0 then (zlet (zu Z19 14 x0b 0 0 (w3 ((Z19 14 x0b 0 0) - (w3 ((Z19 13 x0b 0 2) * (Z19 50 x0b x1 6)))))) (fun Z28 => (zlet (zu Z28 14 x0b 0 5 (w3 ((Z28 14 x0b 0 5) + (w3 ((Z19 13 x0b 0 2) * (Z19 50 x0b x1 6)))))) (fun Z32 => (zlet (zu Z32 53 x0b ((Z32 11 x0b 0 12) % 60) 0 0) (fun Z35 => (zlet (zu Z35 53 x0b ((Z32 11 x0b 0 12) % 60) 1 5) (fun Z37 => (zlet (zu Z37 53 x0b ((Z32 11 x0b 0 12) % 60) 2 (w3 ((Z19 13 x0b 0 2) * (Z19 50 x0b x1 6)))) (fun Z39 => (zlet (zu Z39 53 x0b ((Z32 11 x0b 0 12) % 60) 3 (-1)) (fun Z41 => (zlet (zu Z41 53 x0b ((Z32 11 x0b 0 12) % 60) 4 (Z41 11 x0b 0 13)) (fun Z45 => (zlet (zu Z45 11 x0b 0 12 ((Z45 11 x0b 0 12) + 1)) (fun Z49 => zl_39_4 x0b m Z49 (x1 + 1))))))))))))))))) else zl_39_4 x0b m Z19 (x1 + 1)))))))))))))
theorem sl_39_4 {gg : Int} {s : zSM} {xM9 : Nat} {Zs Z : qz_Z} {ν : qz_N} (hZ : zH (zb s xM9) Z) (hM : s.2 + 5 ≤ 1000000000) (hK : zC [14, 45, 47, 50, 53, 1112] Zs Z) (x0b : Nat) {x1 : Int} (gx1 : 0 ≤ x1 ∧ x1 ≤ 4) (hU : zU [x0b] Zs Z) (hx9 : xM9 + 1 * ((4 - x1).toNat) + 1 ≤ 5) (gr0 : zpt Z x0b = gg) {k : wz_K} {R : wz_R} {L : qz_L} (hL : qz_fg [true, true, false, false] L = [some (.inr (.inr (some (10, x0b, 0)))), some (.inl (i3 x1)), none, none]) {T : qz_Z × Int} (hP : zE T (zl_39_4 x0b ((4 - x1).toNat + 1) Z x1)) (hk : ∀ (L9 : qz_L) (Z9 : qz_Z) (yx1 : Int), qz_fg [false, false, false, false] L9 = [none, none, none, none] → zH (zb s 5) Z9 → zC [14, 45, 47, 50, 53, 1112] Zs Z9 → zU [x0b] Zs Z9 → (0 ≤ yx1 ∧ yx1 ≤ 4) → (zpt Z9 x0b = gg) → zE T ((Z9, yx1)) → k 0 (L9, [], zm Z9 ν)) : wz_loop qb_39_4 65536 k R (L, [], zm Z ν) := by
  refine wz_lp sb_39_4 (fun m x => ∃ xM9 : Nat, ∃ Z : qz_Z, ∃ x1 : Int, qz_fg [true, true, false, false] x.1 = [some (.inr (.inr (some (10, x0b, 0)))), some (.inl (i3 x1)), none, none] ∧ x.2 = ([], zm Z ν) ∧ xM9 + 1 * m + 1 ≤ 5 ∧ zH (zb s xM9) Z ∧ zC [14, 45, 47, 50, 53, 1112] Zs Z ∧ zU [x0b] Zs Z ∧ m = (4 - x1).toNat ∧ (0 ≤ x1 ∧ x1 ≤ 4) ∧ (zpt Z x0b = gg) ∧ zE T (zl_39_4 x0b (m + 1) Z x1)) ?_ 65536 ((4 - x1).toNat) _ (by omega) ⟨xM9, Z, x1, hL, rfl, hx9, hZ, hK, hU, rfl, gx1, gr0, hP⟩
  clear hP gr0 gx1 hx9 hZ hK hU hL
  clear x1
  clear Z
  clear xM9
  rintro m ⟨L, st, μ⟩ ⟨xM9, Z, x1, hL, hx, hx9, hZ, hK, hU, hm, gx1, gr0, hP⟩
  cases hx
  have hM9 : (zb s xM9).2 + 1 ≤ 1000000000 := by
    show s.2 + xM9 + 1 ≤ 1000000000
    omega
  refine fb_39_4 x0b (i3 x1) _ _ _ _ hL ?_
  have r1 := zH_k hZ 11 x0b 0 8 (lo := 0) (hi := 4) (by decide) rfl
  refine wz_br (i3Le (zm_rd (Z := Z) (ν := ν) (k := 11) (rfl : ((x0b : Nat) : Int) = x0b) (show ((0 : Nat) : Int) = 0 from rfl) (show ((8 : Nat) : Int) = 8 from rfl)) (rfl : i3 x1 = i3 x1) (by omega) (by omega) (by omega) (by omega)) (fun h2 => ?_) (fun h2 => ?_)
  · replace hP := zE_p hP h2
    exact hk _ _ _ (zconso rfl (zconso rfl (zconso rfl (zconso rfl rfl)))) (zbx0 hZ (by omega)) hK hU (by omega) (by omega) hP
  · replace hP := zE_n hP h2
    refine wz_i0 (i3O (n := 4) (rfl : i3 x1 = i3 x1) (by omega) (by omega) (by omega)) ?_
    have r3 := zH_k hZ 50 x0b x1 2 (lo := 0) (hi := 1) (by decide) rfl
    refine wz_br (i3NE (zm_rd (Z := Z) (ν := ν) (k := 50) (rfl : ((x0b : Nat) : Int) = x0b) (i3I (y := x1) (rfl : i3 x1 = i3 x1) (by omega) (by omega) (by omega)) (show ((2 : Nat) : Int) = 2 from rfl)) (show (1 : Int32) = i3 1 from rfl) (by omega) (by omega) (by omega) (by omega)) (fun h4 => ?_) (fun h4 => ?_)
    · replace hP := zE_p hP h4
      refine fc_39_3 _ (i3 x1) _ _ _ _ (zconso rfl (zconso (zvo (rfl : i3 x1 = i3 x1)) (zconso rfl (zconso rfl rfl)))) ?_
      obtain ⟨m2, rfl⟩ : ∃ m2, m = m2 + 1 := ⟨m - 1, by omega⟩
      refine wz_kbs (n := 1) (?_)
      exact wz_k1 ⟨m2, by omega, xM9, Z, (x1 + 1), (zconso rfl (zconso (zvo (i3A (rfl : i3 x1 = i3 x1) (show (1 : Int32) = i3 1 from rfl))) (zconso rfl (zconso rfl rfl)))), rfl, by omega, hZ, hK, hU, by omega, by omega, by omega,  hP⟩
    · replace hP := zE_n hP h4
      refine sl_39_1 (ν := ν) hZ (zbh (c := 0) (k := 0) hM9 (Nat.le_of_ble_eq_true rfl)) zC_r x0b _ (i3I (y := x1) (rfl : i3 x1 = i3 x1) (by omega) (by omega) (by omega)) (by omega) (x1 := x1) (by omega) (x3 := 0) (by omega) zU_r  (zconso rfl (zconso (zvo (rfl : i3 x1 = i3 x1)) (zconso rfl (zconso (zvo (show (0 : Int32) = i3 0 from rfl)) rfl)))) rfl ?_
      intro L7 Z6 y5 hL7 hZ6I kZ6 jZ6 gy5 q9
      replace hP := zl_e2 hP (Eq.symm q9)
      clear q9
      have hZ6U : zU [x0b] Zs Z6 := zU_t hU jZ6 (zU_b1 (List.Mem.head _) zU_b0)
      have r8 := zpt_c (b := x0b) kZ6 (by decide)
      have hZ6K : zC [14, 45, 47, 50, 53, 1112] Zs Z6 := zC_t hK kZ6 (by decide)
      refine fc_39_2 _ (i3 x1) _ _ _ _ _ hL7 ?_
      have r9 := zH_k hZ6I 50 x0b x1 8 (lo := -1) (hi := 743) (by decide) rfl
      have r10 := zH_k hZ6I 11 x0b 0 13 (lo := 0) (hi := 671) (by decide) rfl
      refine wz_br (i3NE (zm_rd (Z := Z6) (ν := ν) (k := 50) (rfl : ((x0b : Nat) : Int) = x0b) (i3I (y := x1) (rfl : i3 x1 = i3 x1) (by omega) (by omega) (by omega)) (show ((8 : Nat) : Int) = 8 from rfl)) (zm_rd (Z := Z6) (ν := ν) (k := 11) (rfl : ((x0b : Nat) : Int) = x0b) (show ((0 : Nat) : Int) = 0 from rfl) (show ((13 : Nat) : Int) = 13 from rfl)) (by omega) (by omega) (by omega) (by omega)) (fun h11 => ?_) (fun h11 => ?_)
      · replace hP := zE_p hP h11
        refine wz_kbs (n := 0) (wz_sk0 ?_)
        refine fc_39_3 _ (i3 x1) _ _ _ _ (zconso rfl (zconso (zvo (rfl : i3 x1 = i3 x1)) (zconso rfl (zconso rfl rfl)))) ?_
        obtain ⟨m2, rfl⟩ : ∃ m2, m = m2 + 1 := ⟨m - 1, by omega⟩
        refine wz_kbs (n := 1) (?_)
        exact wz_k1 ⟨m2, by omega, xM9, Z6, (x1 + 1), (zconso rfl (zconso (zvo (i3A (rfl : i3 x1 = i3 x1) (show (1 : Int32) = i3 1 from rfl))) (zconso rfl (zconso rfl rfl)))), rfl, by omega, hZ6I, hZ6K, hZ6U, by omega, by omega, by omega,  hP⟩
      · replace hP := zE_n hP h11
        obtain ⟨Z12, hZ12⟩ := zx (zu Z6 50 x0b x1 2 0)
        replace hP := zl_e hP hZ12
        have hZ12I := zH_0 hZ6I hZ12 (by decide) (Or.inl (by decide))
        have hZ12U : zU [x0b] Zs Z12 := zU_u hZ6U hZ12 (Or.inr (List.Mem.head _))
        have r13 := zpt_50 (b := x0b) hZ12 (by omega)
        have hZ12K : zC [14, 45, 47, 50, 53, 1112] Zs Z12 := zC_u hZ6K hZ12 (by decide)
        intro μ9 e9
        replace e9 := e9.trans (zm_wI (Z := Z6) (ν := ν) hZ12 (rfl : ((x0b : Nat) : Int) = x0b) (i3I (y := x1) (rfl : i3 x1 = i3 x1) (by omega) (by omega) (by omega)) (show ((2 : Nat) : Int) = 2 from rfl) (show (0 : Int32) = i3 0 from rfl))
        subst e9
        obtain ⟨Z14, hZ14⟩ := zx (zu Z12 50 x0b x1 8 (-1))
        replace hP := zl_e hP hZ14
        have hZ14I := zH_u hZ12I hZ14 (lo := -1) (hi := 743) (by decide) rfl (by omega) ⟨by decide, by decide⟩ (Or.inl (by decide)) rfl
        have hZ14U : zU [x0b] Zs Z14 := zU_u hZ12U hZ14 (Or.inr (List.Mem.head _))
        have r15 := zpt_50 (b := x0b) hZ14 (by omega)
        have hZ14K : zC [14, 45, 47, 50, 53, 1112] Zs Z14 := zC_u hZ12K hZ14 (by decide)
        intro μ9 e9
        replace e9 := e9.trans (zm_wI (Z := Z12) (ν := ν) hZ14 (rfl : ((x0b : Nat) : Int) = x0b) (i3I (y := x1) (rfl : i3 x1 = i3 x1) (by omega) (by omega) (by omega)) (show ((8 : Nat) : Int) = 8 from rfl) (show (-1 : Int32) = i3 (-1) from rfl))
        subst e9
        have r16 := zH_f hZ14I 50 x0b x1 10
        have r17 := zH_f hZ14I 50 x0b x1 6
        have r18 := w3_r ((Z14 50 x0b x1 10) + (Z14 50 x0b x1 6))
        obtain ⟨Z19, hZ19⟩ := zx (zu Z14 50 x0b x1 10 (w3 ((Z14 50 x0b x1 10) + (Z14 50 x0b x1 6))))
        replace hP := zl_e hP hZ19
        have hZ19I := zH_u hZ14I hZ19 (lo := -2147483648) (hi := 2147483647) (by decide) rfl (by omega) ⟨by decide, by decide⟩ (Or.inl (by decide)) rfl
        have hZ19U : zU [x0b] Zs Z19 := zU_u hZ14U hZ19 (Or.inr (List.Mem.head _))
        have r20 := zpt_50 (b := x0b) hZ19 (by omega)
        have hZ19K : zC [14, 45, 47, 50, 53, 1112] Zs Z19 := zC_u hZ14K hZ19 (by decide)
        intro μ9 e9
        replace e9 := e9.trans (zm_wI (Z := Z14) (ν := ν) hZ19 (rfl : ((x0b : Nat) : Int) = x0b) (i3I (y := x1) (rfl : i3 x1 = i3 x1) (by omega) (by omega) (by omega)) (show ((10 : Nat) : Int) = 10 from rfl) (i3W (i3A (zm_rd (Z := Z14) (ν := ν) (k := 50) (rfl : ((x0b : Nat) : Int) = x0b) (i3I (y := x1) (rfl : i3 x1 = i3 x1) (by omega) (by omega) (by omega)) (show ((10 : Nat) : Int) = 10 from rfl)) (zm_rd (Z := Z14) (ν := ν) (k := 50) (rfl : ((x0b : Nat) : Int) = x0b) (i3I (y := x1) (rfl : i3 x1 = i3 x1) (by omega) (by omega) (by omega)) (show ((6 : Nat) : Int) = 6 from rfl)))))
        subst e9
        have r21 := zH_k hZ19I 13 x0b 0 2 (lo := 0) (hi := 99999) (by decide) rfl
        have r22 := zH_f hZ19I 50 x0b x1 6
        have q23 := zu_ne (k' := 50) (b' := x0b) (i' := x1) (j' := 6) hZ19 (fun q => absurd q.2.2.2 (by decide))
        have r24 := w3_r ((Z19 13 x0b 0 2) * (Z19 50 x0b x1 6))
        refine wz_br (i3NE (i3W (i3M (zm_rd (Z := Z19) (ν := ν) (k := 13) (rfl : ((x0b : Nat) : Int) = x0b) (show ((0 : Nat) : Int) = 0 from rfl) (show ((2 : Nat) : Int) = 2 from rfl)) (zm_rd (Z := Z19) (ν := ν) (k := 50) (rfl : ((x0b : Nat) : Int) = x0b) (i3I (y := x1) (rfl : i3 x1 = i3 x1) (by omega) (by omega) (by omega)) (show ((6 : Nat) : Int) = 6 from rfl)))) (show (0 : Int32) = i3 0 from rfl) (by omega) (by omega) (by omega) (by omega)) (fun h25 => ?_) (fun h25 => ?_)
        · replace hP := zE_p hP h25
          have r26 := zH_f hZ19I 14 x0b 0 0
          have r27 := w3_r ((Z19 14 x0b 0 0) - (w3 ((Z19 13 x0b 0 2) * (Z19 50 x0b x1 6))))
          obtain ⟨Z28, hZ28⟩ := zx (zu Z19 14 x0b 0 0 (w3 ((Z19 14 x0b 0 0) - (w3 ((Z19 13 x0b 0 2) * (Z19 50 x0b x1 6))))))
          replace hP := zl_e hP hZ28
          have hZ28I := zH_u hZ19I hZ28 (lo := -2147483648) (hi := 2147483647) (by decide) rfl (by omega) ⟨by decide, by decide⟩ (Or.inl (by decide)) rfl
          have hZ28U : zU [x0b] Zs Z28 := zU_u hZ19U hZ28 (Or.inr (List.Mem.head _))
          have r29 := zpt_0 (b := x0b) hZ28 (by decide)
          have hZ28K : zC [14, 45, 47, 50, 53, 1112] Zs Z28 := zC_u hZ19K hZ28 (by decide)
          intro μ9 e9
          replace e9 := e9.trans (zm_wI (Z := Z19) (ν := ν) hZ28 (rfl : ((x0b : Nat) : Int) = x0b) (show ((0 : Nat) : Int) = 0 from rfl) (show ((0 : Nat) : Int) = 0 from rfl) (i3W (i3S (zm_rd (Z := Z19) (ν := ν) (k := 14) (rfl : ((x0b : Nat) : Int) = x0b) (show ((0 : Nat) : Int) = 0 from rfl) (show ((0 : Nat) : Int) = 0 from rfl)) (i3W (i3M (zm_rd (Z := Z19) (ν := ν) (k := 13) (rfl : ((x0b : Nat) : Int) = x0b) (show ((0 : Nat) : Int) = 0 from rfl) (show ((2 : Nat) : Int) = 2 from rfl)) (zm_rd (Z := Z19) (ν := ν) (k := 50) (rfl : ((x0b : Nat) : Int) = x0b) (i3I (y := x1) (rfl : i3 x1 = i3 x1) (by omega) (by omega) (by omega)) (show ((6 : Nat) : Int) = 6 from rfl)))))))
          subst e9
          have r30 := zH_f hZ28I 14 x0b 0 5
          have r31 := w3_r ((Z28 14 x0b 0 5) + (w3 ((Z19 13 x0b 0 2) * (Z19 50 x0b x1 6))))
          obtain ⟨Z32, hZ32⟩ := zx (zu Z28 14 x0b 0 5 (w3 ((Z28 14 x0b 0 5) + (w3 ((Z19 13 x0b 0 2) * (Z19 50 x0b x1 6))))))
          replace hP := zl_e hP hZ32
          have hZ32I := zH_u hZ28I hZ32 (lo := -2147483648) (hi := 2147483647) (by decide) rfl (by omega) ⟨by decide, by decide⟩ (Or.inl (by decide)) rfl
          have hZ32U : zU [x0b] Zs Z32 := zU_u hZ28U hZ32 (Or.inr (List.Mem.head _))
          have r33 := zpt_0 (b := x0b) hZ32 (by decide)
          have hZ32K : zC [14, 45, 47, 50, 53, 1112] Zs Z32 := zC_u hZ28K hZ32 (by decide)
          intro μ9 e9
          replace e9 := e9.trans (zm_wI (Z := Z28) (ν := ν) hZ32 (rfl : ((x0b : Nat) : Int) = x0b) (show ((0 : Nat) : Int) = 0 from rfl) (show ((5 : Nat) : Int) = 5 from rfl) (i3W (i3A (zm_rd (Z := Z28) (ν := ν) (k := 14) (rfl : ((x0b : Nat) : Int) = x0b) (show ((0 : Nat) : Int) = 0 from rfl) (show ((5 : Nat) : Int) = 5 from rfl)) (i3W (i3M (zm_rd (Z := Z19) (ν := ν) (k := 13) (rfl : ((x0b : Nat) : Int) = x0b) (show ((0 : Nat) : Int) = 0 from rfl) (show ((2 : Nat) : Int) = 2 from rfl)) (zm_rd (Z := Z19) (ν := ν) (k := 50) (rfl : ((x0b : Nat) : Int) = x0b) (i3I (y := x1) (rfl : i3 x1 = i3 x1) (by omega) (by omega) (by omega)) (show ((6 : Nat) : Int) = 6 from rfl)))))))
          subst e9
          have r34 := zH_c12 hZ32I x0b (zbh (c := 0) (k := 0) hM9 (Nat.le_of_ble_eq_true rfl))
          refine wz_i0 (i3O (n := 60) (i3R (zm_rd (Z := Z32) (ν := ν) (k := 11) (rfl : ((x0b : Nat) : Int) = x0b) (show ((0 : Nat) : Int) = 0 from rfl) (show ((12 : Nat) : Int) = 12 from rfl)) (show (60 : Int32) = i3 60 from rfl) (by omega) (by omega) (by omega) (by omega)) (by omega) (by omega) (by omega)) ?_
          obtain ⟨Z35, hZ35⟩ := zx (zu Z32 53 x0b ((Z32 11 x0b 0 12) % 60) 0 0)
          replace hP := zl_e hP hZ35
          have hZ35I := zH_0 hZ32I hZ35 (by decide) (Or.inl (by decide))
          have hZ35U : zU [x0b] Zs Z35 := zU_u hZ32U hZ35 (Or.inr (List.Mem.head _))
          have r36 := zpt_0 (b := x0b) hZ35 (by decide)
          have hZ35K : zC [14, 45, 47, 50, 53, 1112] Zs Z35 := zC_u hZ32K hZ35 (by decide)
          intro μ9 e9
          replace e9 := e9.trans (zm_wI (Z := Z32) (ν := ν) hZ35 (rfl : ((x0b : Nat) : Int) = x0b) (i3I (y := ((Z32 11 x0b 0 12) % 60)) (i3R (zm_rd (Z := Z32) (ν := ν) (k := 11) (rfl : ((x0b : Nat) : Int) = x0b) (show ((0 : Nat) : Int) = 0 from rfl) (show ((12 : Nat) : Int) = 12 from rfl)) (show (60 : Int32) = i3 60 from rfl) (by omega) (by omega) (by omega) (by omega)) (by omega) (by omega) (by omega)) (show ((0 : Nat) : Int) = 0 from rfl) (show (0 : Int32) = i3 0 from rfl))
          subst e9
          obtain ⟨Z37, hZ37⟩ := zx (zu Z35 53 x0b ((Z32 11 x0b 0 12) % 60) 1 5)
          replace hP := zl_e hP hZ37
          have hZ37I := zH_u hZ35I hZ37 (lo := -2147483648) (hi := 2147483647) (by decide) rfl (by omega) ⟨by decide, by decide⟩ (Or.inl (by decide)) rfl
          have hZ37U : zU [x0b] Zs Z37 := zU_u hZ35U hZ37 (Or.inr (List.Mem.head _))
          have r38 := zpt_0 (b := x0b) hZ37 (by decide)
          have hZ37K : zC [14, 45, 47, 50, 53, 1112] Zs Z37 := zC_u hZ35K hZ37 (by decide)
          intro μ9 e9
          replace e9 := e9.trans (zm_wI (Z := Z35) (ν := ν) hZ37 (rfl : ((x0b : Nat) : Int) = x0b) (i3I (y := ((Z32 11 x0b 0 12) % 60)) (i3R (zm_rd (Z := Z32) (ν := ν) (k := 11) (rfl : ((x0b : Nat) : Int) = x0b) (show ((0 : Nat) : Int) = 0 from rfl) (show ((12 : Nat) : Int) = 12 from rfl)) (show (60 : Int32) = i3 60 from rfl) (by omega) (by omega) (by omega) (by omega)) (by omega) (by omega) (by omega)) (show ((1 : Nat) : Int) = 1 from rfl) (show (5 : Int32) = i3 5 from rfl))
          subst e9
          obtain ⟨Z39, hZ39⟩ := zx (zu Z37 53 x0b ((Z32 11 x0b 0 12) % 60) 2 (w3 ((Z19 13 x0b 0 2) * (Z19 50 x0b x1 6))))
          replace hP := zl_e hP hZ39
          have hZ39I := zH_u hZ37I hZ39 (lo := -2147483648) (hi := 2147483647) (by decide) rfl (by omega) ⟨by decide, by decide⟩ (Or.inl (by decide)) rfl
          have hZ39U : zU [x0b] Zs Z39 := zU_u hZ37U hZ39 (Or.inr (List.Mem.head _))
          have r40 := zpt_0 (b := x0b) hZ39 (by decide)
          have hZ39K : zC [14, 45, 47, 50, 53, 1112] Zs Z39 := zC_u hZ37K hZ39 (by decide)
          intro μ9 e9
          replace e9 := e9.trans (zm_wI (Z := Z37) (ν := ν) hZ39 (rfl : ((x0b : Nat) : Int) = x0b) (i3I (y := ((Z32 11 x0b 0 12) % 60)) (i3R (zm_rd (Z := Z32) (ν := ν) (k := 11) (rfl : ((x0b : Nat) : Int) = x0b) (show ((0 : Nat) : Int) = 0 from rfl) (show ((12 : Nat) : Int) = 12 from rfl)) (show (60 : Int32) = i3 60 from rfl) (by omega) (by omega) (by omega) (by omega)) (by omega) (by omega) (by omega)) (show ((2 : Nat) : Int) = 2 from rfl) (i3W (i3M (zm_rd (Z := Z19) (ν := ν) (k := 13) (rfl : ((x0b : Nat) : Int) = x0b) (show ((0 : Nat) : Int) = 0 from rfl) (show ((2 : Nat) : Int) = 2 from rfl)) (zm_rd (Z := Z19) (ν := ν) (k := 50) (rfl : ((x0b : Nat) : Int) = x0b) (i3I (y := x1) (rfl : i3 x1 = i3 x1) (by omega) (by omega) (by omega)) (show ((6 : Nat) : Int) = 6 from rfl)))))
          subst e9
          obtain ⟨Z41, hZ41⟩ := zx (zu Z39 53 x0b ((Z32 11 x0b 0 12) % 60) 3 (-1))
          replace hP := zl_e hP hZ41
          have hZ41I := zH_u hZ39I hZ41 (lo := -2147483648) (hi := 2147483647) (by decide) rfl (by omega) ⟨by decide, by decide⟩ (Or.inl (by decide)) rfl
          have hZ41U : zU [x0b] Zs Z41 := zU_u hZ39U hZ41 (Or.inr (List.Mem.head _))
          have r42 := zpt_0 (b := x0b) hZ41 (by decide)
          have hZ41K : zC [14, 45, 47, 50, 53, 1112] Zs Z41 := zC_u hZ39K hZ41 (by decide)
          intro μ9 e9
          replace e9 := e9.trans (zm_wI (Z := Z39) (ν := ν) hZ41 (rfl : ((x0b : Nat) : Int) = x0b) (i3I (y := ((Z32 11 x0b 0 12) % 60)) (i3R (zm_rd (Z := Z32) (ν := ν) (k := 11) (rfl : ((x0b : Nat) : Int) = x0b) (show ((0 : Nat) : Int) = 0 from rfl) (show ((12 : Nat) : Int) = 12 from rfl)) (show (60 : Int32) = i3 60 from rfl) (by omega) (by omega) (by omega) (by omega)) (by omega) (by omega) (by omega)) (show ((3 : Nat) : Int) = 3 from rfl) (show (-1 : Int32) = i3 (-1) from rfl))
          subst e9
          have r43 := zH_k hZ41I 11 x0b 0 13 (lo := 0) (hi := 671) (by decide) rfl
          have q44 := (zu_ne (k' := 11) (b' := x0b) (i' := 0) (j' := 13) hZ41 (fun q => absurd q.1 (by decide))).trans ((zu_ne (k' := 11) (b' := x0b) (i' := 0) (j' := 13) hZ39 (fun q => absurd q.1 (by decide))).trans ((zu_ne (k' := 11) (b' := x0b) (i' := 0) (j' := 13) hZ37 (fun q => absurd q.1 (by decide))).trans ((zu_ne (k' := 11) (b' := x0b) (i' := 0) (j' := 13) hZ35 (fun q => absurd q.1 (by decide))).trans ((zu_ne (k' := 11) (b' := x0b) (i' := 0) (j' := 13) hZ32 (fun q => absurd q.1 (by decide))).trans ((zu_ne (k' := 11) (b' := x0b) (i' := 0) (j' := 13) hZ28 (fun q => absurd q.1 (by decide))).trans ((zu_ne (k' := 11) (b' := x0b) (i' := 0) (j' := 13) hZ19 (fun q => absurd q.1 (by decide))).trans ((zu_ne (k' := 11) (b' := x0b) (i' := 0) (j' := 13) hZ14 (fun q => absurd q.1 (by decide))).trans (zu_ne (k' := 11) (b' := x0b) (i' := 0) (j' := 13) hZ12 (fun q => absurd q.1 (by decide))))))))))
          obtain ⟨Z45, hZ45⟩ := zx (zu Z41 53 x0b ((Z32 11 x0b 0 12) % 60) 4 (Z41 11 x0b 0 13))
          replace hP := zl_e hP hZ45
          have hZ45I := zH_u hZ41I hZ45 (lo := -2147483648) (hi := 2147483647) (by decide) rfl (by omega) ⟨by decide, by decide⟩ (Or.inl (by decide)) rfl
          have hZ45U : zU [x0b] Zs Z45 := zU_u hZ41U hZ45 (Or.inr (List.Mem.head _))
          have r46 := zpt_0 (b := x0b) hZ45 (by decide)
          have hZ45K : zC [14, 45, 47, 50, 53, 1112] Zs Z45 := zC_u hZ41K hZ45 (by decide)
          intro μ9 e9
          replace e9 := e9.trans (zm_wI (Z := Z41) (ν := ν) hZ45 (rfl : ((x0b : Nat) : Int) = x0b) (i3I (y := ((Z32 11 x0b 0 12) % 60)) (i3R (zm_rd (Z := Z32) (ν := ν) (k := 11) (rfl : ((x0b : Nat) : Int) = x0b) (show ((0 : Nat) : Int) = 0 from rfl) (show ((12 : Nat) : Int) = 12 from rfl)) (show (60 : Int32) = i3 60 from rfl) (by omega) (by omega) (by omega) (by omega)) (by omega) (by omega) (by omega)) (show ((4 : Nat) : Int) = 4 from rfl) (zm_rd (Z := Z41) (ν := ν) (k := 11) (rfl : ((x0b : Nat) : Int) = x0b) (show ((0 : Nat) : Int) = 0 from rfl) (show ((13 : Nat) : Int) = 13 from rfl)))
          subst e9
          have r47 := zH_c12 hZ45I x0b (zbh (c := 0) (k := 0) hM9 (Nat.le_of_ble_eq_true rfl))
          have q48 := (zu_ne (k' := 11) (b' := x0b) (i' := 0) (j' := 12) hZ45 (fun q => absurd q.1 (by decide))).trans ((zu_ne (k' := 11) (b' := x0b) (i' := 0) (j' := 12) hZ41 (fun q => absurd q.1 (by decide))).trans ((zu_ne (k' := 11) (b' := x0b) (i' := 0) (j' := 12) hZ39 (fun q => absurd q.1 (by decide))).trans ((zu_ne (k' := 11) (b' := x0b) (i' := 0) (j' := 12) hZ37 (fun q => absurd q.1 (by decide))).trans (zu_ne (k' := 11) (b' := x0b) (i' := 0) (j' := 12) hZ35 (fun q => absurd q.1 (by decide))))))
          obtain ⟨Z49, hZ49⟩ := zx (zu Z45 11 x0b 0 12 ((Z45 11 x0b 0 12) + 1))
          replace hP := zl_e hP hZ49
          have hZ49I := zH_i12 hZ45I hZ49 (zbh (c := 0) (k := 1) hM9 (Nat.le_of_ble_eq_true rfl)) (by omega)
          have hZ49U : zU [x0b] Zs Z49 := zU_u hZ45U hZ49 (Or.inr (List.Mem.head _))
          have r50 := zpt_0 (b := x0b) hZ49 (by decide)
          have hZ49K : zC [14, 45, 47, 50, 53, 1112] Zs Z49 := zC_u hZ45K hZ49 (by decide)
          intro μ9 e9
          replace e9 := e9.trans (zm_wI (Z := Z45) (ν := ν) hZ49 (rfl : ((x0b : Nat) : Int) = x0b) (show ((0 : Nat) : Int) = 0 from rfl) (show ((12 : Nat) : Int) = 12 from rfl) (i3A (zm_rd (Z := Z45) (ν := ν) (k := 11) (rfl : ((x0b : Nat) : Int) = x0b) (show ((0 : Nat) : Int) = 0 from rfl) (show ((12 : Nat) : Int) = 12 from rfl)) (show (1 : Int32) = i3 1 from rfl)))
          subst e9
          refine wz_kb0 (wz_sk0 ?_)
          refine fc_39_3 _ (i3 x1) _ _ _ _ (zconso rfl (zconso (zvo (rfl : i3 x1 = i3 x1)) (zconso rfl (zconso rfl rfl)))) ?_
          obtain ⟨m2, rfl⟩ : ∃ m2, m = m2 + 1 := ⟨m - 1, by omega⟩
          refine wz_kbs (n := 1) (?_)
          exact wz_k1 ⟨m2, by omega, xM9 + 1, Z49, (x1 + 1), (zconso rfl (zconso (zvo (i3A (rfl : i3 x1 = i3 x1) (show (1 : Int32) = i3 1 from rfl))) (zconso rfl (zconso rfl rfl)))), rfl, by omega, (zbt hZ49I rfl), hZ49K, hZ49U, by omega, by omega, by omega,  hP⟩
        · replace hP := zE_n hP h25
          refine wz_kb0 (wz_sk0 ?_)
          refine fc_39_3 _ (i3 x1) _ _ _ _ (zconso rfl (zconso (zvo (rfl : i3 x1 = i3 x1)) (zconso rfl (zconso rfl rfl)))) ?_
          obtain ⟨m2, rfl⟩ : ∃ m2, m = m2 + 1 := ⟨m - 1, by omega⟩
          refine wz_kbs (n := 1) (?_)
          exact wz_k1 ⟨m2, by omega, xM9, Z19, (x1 + 1), (zconso rfl (zconso (zvo (i3A (rfl : i3 x1 = i3 x1) (show (1 : Int32) = i3 1 from rfl))) (zconso rfl (zconso rfl rfl)))), rfl, by omega, hZ19I, hZ19K, hZ19U, by omega, by omega, by omega,  hP⟩
/- yX2_arrive -/
def zf_39 (Z : qz_Z) (a0b : Int) : qz_Z := (zlet2 (zl_39_4 a0b 5 Z 0) (fun Z2 y1 => Z2))
theorem sp_39 {s : zSM} {Z : qz_Z} {ν : qz_N} (hZ : zH s Z) (a0b : Nat) (hM : s.2 + 5 ≤ 1000000000) : ∃ P : qz_Z, P = zf_39 Z a0b ∧ (qf_39 [.inr (.inr (some (10, a0b, 0)))] (zm Z ν) = some (zm P ν, .inl none) ∧ zH (zb s 5) P ∧ zC [14, 45, 47, 50, 53, 1112] Z P ∧ zU [a0b] Z P ∧ zpt P a0b = zpt Z a0b) := by
  obtain ⟨P, hP⟩ := zx (zf_39 Z a0b)
  refine zc_V (Q := fun P => zH (zb s 5) P ∧ zC [14, 45, 47, 50, 53, 1112] Z P ∧ zU [a0b] Z P ∧ zpt P a0b = zpt Z a0b) hP (fw_39 a0b _ _ ?_)
  replace hP : zE P (zf_39 Z a0b) := hP
  unfold zf_39 at hP
  refine sl_39_4 (ν := ν) (zb0 hZ) (zbh (c := 0) (k := 5) hM (Nat.le_of_ble_eq_true rfl)) (xM9 := 0) zC_r a0b (x1 := 0) (by omega) zU_r (gg := zpt Z a0b) (Nat.le_of_ble_eq_true rfl) (by omega) (zconso rfl (zconso (zvo (show (0 : Int32) = i3 0 from rfl)) (zconso rfl (zconso rfl rfl)))) rfl ?_
  intro L3 Z2 y1 hL3 hZ2I kZ2 jZ2 gy1 gL3_0 q9
  replace hP := zl_e2 hP (Eq.symm q9)
  clear q9
  have hZ2U : zU [a0b] Z Z2 := zU_t zU_r jZ2 (zU_b1 (List.Mem.head _) zU_b0)
  have hZ2K : zC [14, 45, 47, 50, 53, 1112] Z Z2 := zC_t zC_r kZ2 (by decide)
  refine fc_39_5  _ _ _ _ hL3 ?_
  exact zlV hP ⟨hZ2I, hZ2K, hZ2U, by omega⟩
/- yX2_hoursOf -/
def zl_47_1 (x0b : Int) (x1b : Int) (x2 : Int) : Nat → qz_Z → Int → Int → Int → Int × Int × Int
  | 0, Z, x3, x4, x5 => (x3, x4, x5)
  | m + 1, Z, x3, x4, x5 => (if x2 ≤ x5 then (x3, x4, x5) else zl_47_1 x0b x1b x2 m Z (x3 + (Z 40 x0b x4 (Z 200 x1b 0 x5))) (Z 200 x1b 0 x5) (x5 + 1))
theorem sl_47_1 {s : zSM} {Z : qz_Z} {ν : qz_N} (hZ : zH s Z) (hM : s.2 + 0 ≤ 1000000000) (x0b : Nat) (x1b : Nat) (hSx1 : zSh ν x1b 50 5) (gAx1 : zA (0) 4 x1b Z) {x2 : Int} (gx2 : 0 ≤ x2 ∧ x2 ≤ 5) {x3 : Int} (gx3 : 0 ≤ x3 ∧ x3 ≤ 60) {x4 : Int} (gx4 : 0 ≤ x4 ∧ x4 ≤ 5) {x5 : Int} (gx5 : 0 ≤ x5 ∧ x5 ≤ 5) (gr0 : x3 ≤ 12 * x5) {k : wz_K} {R : wz_R} {L : qz_L} (hL : qz_fg [true, true, true, true, true, true] L = [some (.inr (.inr (some (10, x0b, 0)))), some (.inr (.inr (some (200, x1b, 0)))), some (.inl (i3 x2)), some (.inl (i3 x3)), some (.inl (i3 x4)), some (.inl (i3 x5))]) {T : Int × Int × Int} (hP : zE T (zl_47_1 x0b x1b x2 ((5 - x5).toNat + 1) Z x3 x4 x5)) (hk : ∀ (L9 : qz_L) (yx3 yx4 yx5 : Int), qz_fg [true, false, false, true, true, false] L9 = [some (.inr (.inr (some (10, x0b, 0)))), none, none, some (.inl (i3 yx3)), some (.inl (i3 yx4)), none] → (0 ≤ yx3 ∧ yx3 ≤ 60) → (0 ≤ yx4 ∧ yx4 ≤ 5) → (0 ≤ yx5 ∧ yx5 ≤ 5) → (yx3 ≤ 12 * yx5) → zE T ((yx3, yx4, yx5)) → k 0 (L9, [], zm Z ν)) : wz_loop qb_47_1 65536 k R (L, [], zm Z ν) := by
  refine wz_lp sb_47_1 (fun m x => ∃ x3 : Int, ∃ x4 : Int, ∃ x5 : Int, qz_fg [true, true, true, true, true, true] x.1 = [some (.inr (.inr (some (10, x0b, 0)))), some (.inr (.inr (some (200, x1b, 0)))), some (.inl (i3 x2)), some (.inl (i3 x3)), some (.inl (i3 x4)), some (.inl (i3 x5))] ∧ x.2 = ([], zm Z ν) ∧ m = (5 - x5).toNat ∧ (0 ≤ x3 ∧ x3 ≤ 60) ∧ (0 ≤ x4 ∧ x4 ≤ 5) ∧ (0 ≤ x5 ∧ x5 ≤ 5) ∧ (x3 ≤ 12 * x5) ∧ zE T (zl_47_1 x0b x1b x2 (m + 1) Z x3 x4 x5)) ?_ 65536 ((5 - x5).toNat) _ (by omega) ⟨x3, x4, x5, hL, rfl, rfl, gx3, gx4, gx5, gr0, hP⟩
  clear hP gr0 gx3 gx4 gx5 hL
  clear x3 x4 x5
  rintro m ⟨L, st, μ⟩ ⟨x3, x4, x5, hL, hx, hm, gx3, gx4, gx5, gr0, hP⟩
  cases hx
  refine fb_47_1 x0b (200, x1b, 0) (i3 x2) (i3 x3) (i3 x4) (i3 x5) _ _ _ _ hL ?_
  refine wz_br (i3Le (rfl : i3 x2 = i3 x2) (rfl : i3 x5 = i3 x5) (by omega) (by omega) (by omega) (by omega)) (fun h1 => ?_) (fun h1 => ?_)
  · replace hP := zE_p hP h1
    exact hk _ _ _ _ (zconso rfl (zconso rfl (zconso rfl (zconso (zvo (rfl : i3 x3 = i3 x3)) (zconso (zvo (rfl : i3 x4 = i3 x4)) (zconso rfl rfl))))))  (by omega) (by omega) (by omega) (by omega) hP
  · replace hP := zE_n hP h1
    refine wz_i0 (i3O (n := 6) (rfl : i3 x4 = i3 x4) (by omega) (by omega) (by omega)) ?_
    refine wz_i1 (by rw [zSh_t hSx1]; rfl) ?_
    refine wz_i0 (by rw [zSh_l hSx1]; exact i3O (n := 5) (rfl : i3 x5 = i3 x5) (by omega) (by omega) (by omega)) ?_
    have r2 := gAx1 x5
    refine wz_i0 (i3O (n := 6) (zm_rd (Z := Z) (ν := ν) (k := 200) (rfl : ((x1b : Nat) : Int) = x1b) (show ((0 : Nat) : Int) = 0 from rfl) (i3I (y := x5) (rfl : i3 x5 = i3 x5) (by omega) (by omega) (by omega))) (by omega) (by omega) (by omega)) ?_
    refine wz_i1 (by rw [zSh_t hSx1]; rfl) ?_
    refine wz_i0 (by rw [zSh_l hSx1]; exact i3O (n := 5) (rfl : i3 x5 = i3 x5) (by omega) (by omega) (by omega)) ?_
    have r3 := zH_k hZ 40 x0b x4 (Z 200 x1b 0 x5) (lo := 0) (hi := 12) (by decide) (zrc_40 (by omega) (by omega))
    obtain ⟨m2, rfl⟩ : ∃ m2, m = m2 + 1 := ⟨m - 1, by omega⟩
    exact wz_k1 ⟨m2, by omega, (x3 + (Z 40 x0b x4 (Z 200 x1b 0 x5))), (Z 200 x1b 0 x5), (x5 + 1), (zconso rfl (zconso rfl (zconso (zvo (rfl : i3 x2 = i3 x2)) (zconso (zvo (i3A (rfl : i3 x3 = i3 x3) (zm_rd (Z := Z) (ν := ν) (k := 40) (rfl : ((x0b : Nat) : Int) = x0b) (i3I (y := x4) (rfl : i3 x4 = i3 x4) (by omega) (by omega) (by omega)) (i3I (y := (Z 200 x1b 0 x5)) (zm_rd (Z := Z) (ν := ν) (k := 200) (rfl : ((x1b : Nat) : Int) = x1b) (show ((0 : Nat) : Int) = 0 from rfl) (i3I (y := x5) (rfl : i3 x5 = i3 x5) (by omega) (by omega) (by omega))) (by omega) (by omega) (by omega))))) (zconso (zvo (zm_rd (Z := Z) (ν := ν) (k := 200) (rfl : ((x1b : Nat) : Int) = x1b) (show ((0 : Nat) : Int) = 0 from rfl) (i3I (y := x5) (rfl : i3 x5 = i3 x5) (by omega) (by omega) (by omega)))) (zconso (zvo (i3A (rfl : i3 x5 = i3 x5) (show (1 : Int32) = i3 1 from rfl))) rfl)))))), rfl,  by omega, by omega, by omega, by omega, by omega,  hP⟩
/- yX2_hoursOf -/
def zf_47 (Z : qz_Z) (a0b : Int) (a1b : Int) (a2 : Int) : Int := (zlet3 (zl_47_1 a0b a1b a2 6 Z 0 5 0) (fun y1 y2 y3 => (y1 + (Z 40 a0b y2 5))))
theorem sp_47 {s : zSM} {Z : qz_Z} {ν : qz_N} (hZ : zH s Z) (a0b : Nat) (a1b : Nat) (hSa1 : zSh ν a1b 50 5) (gAa1 : zA (0) 4 a1b Z) {a2 : Int} (ga2 : 0 ≤ a2 ∧ a2 ≤ 5) (hM : s.2 + 0 ≤ 1000000000) : ∃ P : Int, P = zf_47 Z a0b a1b a2 ∧ (qf_47 [.inr (.inr (some (10, a0b, 0))), .inr (.inr (some (200, a1b, 0))), .inl (i3 a2)] (zm Z ν) = some (zm Z ν, .inl (some (.inl (i3 P)))) ∧ 0 ≤ P ∧ P ≤ 72) := by
  obtain ⟨P, hP⟩ := zx (zf_47 Z a0b a1b a2)
  refine zc_R (Q := fun P => 0 ≤ P ∧ P ≤ 72) hP (fw_47 a0b (200, a1b, 0) (i3 a2) _ _ ?_)
  replace hP : zE P (zf_47 Z a0b a1b a2) := hP
  unfold zf_47 at hP
  refine sl_47_1 (ν := ν) hZ (zbh (c := 0) (k := 0) hM (Nat.le_of_ble_eq_true rfl)) a0b a1b hSa1 gAa1 (x2 := a2) (by omega) (x3 := 0) (by omega) (x4 := 5) (by omega) (x5 := 0) (by omega) (by omega) (zconso rfl (zconso rfl (zconso (zvo (rfl : i3 a2 = i3 a2)) (zconso (zvo (show (0 : Int32) = i3 0 from rfl)) (zconso (zvo (show (5 : Int32) = i3 5 from rfl)) (zconso (zvo (show (0 : Int32) = i3 0 from rfl)) rfl)))))) rfl ?_
  intro L4 y1 y2 y3 hL4 gy1 gy2 gy3 gL4_0 q9
  replace hP := zl_e3 hP (Eq.symm q9)
  clear q9
  refine fc_47_2 _ (i3 y1) (i3 y2) _ _ _ _ hL4 ?_
  refine wz_i0 (i3O (n := 6) (rfl : i3 y2 = i3 y2) (by omega) (by omega) (by omega)) ?_
  have r5 := zH_k hZ 40 a0b y2 5 (lo := 0) (hi := 12) (by decide) rfl
  exact zlR hP (i3A (rfl : i3 y1 = i3 y1) (zm_rd (Z := Z) (ν := ν) (k := 40) (rfl : ((a0b : Nat) : Int) = a0b) (i3I (y := y2) (rfl : i3 y2 = i3 y2) (by omega) (by omega) (by omega)) (show ((5 : Nat) : Int) = 5 from rfl))) ⟨by omega, by omega⟩
