/- yX5_gradePallet -/
def zf_95 (Z : qz_Z) (a0b : Int) (a1 : Int) (a2 : Int) (a3 : Int) (a4 : Int) : qz_Z × Int := (zlet5 (zl_95_1 a0b a1 a1 a2 a3 21 Z (Z 44 a0b a1 4) (Z 44 a0b a1 5) 0 a4 0) (fun y3 y4 y5 y6 y7 => (if y5 ≠ 0 then (if a3 < y5 then (if ((2 * a3) + 1) < y5 then (zlet (zf_100 Z a0b a0b a1) (fun v12 => (zlet (zu Z 44 a0b a1 9 (max 3 v12)) (fun Z13 => (zlet (zu Z13 44 a0b a1 14 (w3 ((Z13 44 a0b a1 14) + 1))) (fun Z16 => (zlet (zu Z16 44 a0b a1 15 y5) (fun Z17 => (if (a2 * (Z17 13 a0b 0 0)) ≠ 0 then (zlet (zu Z17 14 a0b 0 0 (w3 ((Z17 14 a0b 0 0) - (a2 * (Z17 13 a0b 0 0))))) (fun Z23 => (zlet (zu Z23 14 a0b 0 6 (w3 ((Z23 14 a0b 0 6) + (a2 * (Z17 13 a0b 0 0))))) (fun Z26 => (zlet (zu Z26 53 a0b ((Z26 11 a0b 0 12) % 60) 0 0) (fun Z28 => (zlet (zu Z28 53 a0b ((Z26 11 a0b 0 12) % 60) 1 6) (fun Z29 => (zlet (zu Z29 53 a0b ((Z26 11 a0b 0 12) % 60) 2 (a2 * (Z17 13 a0b 0 0))) (fun Z30 => (zlet (zu Z30 53 a0b ((Z26 11 a0b 0 12) % 60) 3 a1) (fun Z31 => (zlet (zu Z31 53 a0b ((Z26 11 a0b 0 12) % 60) 4 (Z31 11 a0b 0 13)) (fun Z33 => (zlet (zu Z33 11 a0b 0 12 ((Z33 11 a0b 0 12) + 1)) (fun Z36 => (Z36, (Z36 44 a0b a1 9)))))))))))))))))) else (Z17, (Z17 44 a0b a1 9))))))))))) else (zlet (zf_100 Z a0b a0b a1) (fun v41 => (zlet (zu Z 44 a0b a1 9 (max 2 v41)) (fun Z42 => (zlet (zu Z42 44 a0b a1 14 (w3 ((Z42 44 a0b a1 14) + 1))) (fun Z45 => (zlet (zu Z45 44 a0b a1 15 y5) (fun Z46 => (if (a2 * (Z46 13 a0b 0 0)) ≠ 0 then (zlet (zu Z46 14 a0b 0 0 (w3 ((Z46 14 a0b 0 0) - (a2 * (Z46 13 a0b 0 0))))) (fun Z52 => (zlet (zu Z52 14 a0b 0 6 (w3 ((Z52 14 a0b 0 6) + (a2 * (Z46 13 a0b 0 0))))) (fun Z55 => (zlet (zu Z55 53 a0b ((Z55 11 a0b 0 12) % 60) 0 0) (fun Z57 => (zlet (zu Z57 53 a0b ((Z55 11 a0b 0 12) % 60) 1 6) (fun Z58 => (zlet (zu Z58 53 a0b ((Z55 11 a0b 0 12) % 60) 2 (a2 * (Z46 13 a0b 0 0))) (fun Z59 => (zlet (zu Z59 53 a0b ((Z55 11 a0b 0 12) % 60) 3 a1) (fun Z60 => (zlet (zu Z60 53 a0b ((Z55 11 a0b 0 12) % 60) 4 (Z60 11 a0b 0 13)) (fun Z62 => (zlet (zu Z62 11 a0b 0 12 ((Z62 11 a0b 0 12) + 1)) (fun Z65 => (Z65, (Z65 44 a0b a1 9)))))))))))))))))) else (Z46, (Z46 44 a0b a1 9)))))))))))) else (zlet (zf_100 Z a0b a0b a1) (fun v70 => (zlet (zu Z 44 a0b a1 9 (max 1 v70)) (fun Z71 => (zlet (zu Z71 44 a0b a1 14 (w3 ((Z71 44 a0b a1 14) + 1))) (fun Z74 => (zlet (zu Z74 44 a0b a1 15 y5) (fun Z75 => (if (a2 * (Z75 13 a0b 0 0)) ≠ 0 then (zlet (zu Z75 14 a0b 0 0 (w3 ((Z75 14 a0b 0 0) - (a2 * (Z75 13 a0b 0 0))))) (fun Z81 => (zlet (zu Z81 14 a0b 0 6 (w3 ((Z81 14 a0b 0 6) + (a2 * (Z75 13 a0b 0 0))))) (fun Z84 => (zlet (zu Z84 53 a0b ((Z84 11 a0b 0 12) % 60) 0 0) (fun Z86 => (zlet (zu Z86 53 a0b ((Z84 11 a0b 0 12) % 60) 1 6) (fun Z87 => (zlet (zu Z87 53 a0b ((Z84 11 a0b 0 12) % 60) 2 (a2 * (Z75 13 a0b 0 0))) (fun Z88 => (zlet (zu Z88 53 a0b ((Z84 11 a0b 0 12) % 60) 3 a1) (fun Z89 => (zlet (zu Z89 53 a0b ((Z84 11 a0b 0 12) % 60) 4 (Z89 11 a0b 0 13)) (fun Z91 => (zlet (zu Z91 11 a0b 0 12 ((Z91 11 a0b 0 12) + 1)) (fun Z94 => (Z94, (Z94 44 a0b a1 9)))))))))))))))))) else (Z75, (Z75 44 a0b a1 9)))))))))))) else (zlet (zf_100 Z a0b a0b a1) (fun v99 => (zlet (zu Z 44 a0b a1 9 (max 0 v99)) (fun Z100 => (zlet (zu Z100 44 a0b a1 14 (w3 ((Z100 44 a0b a1 14) + 1))) (fun Z103 => (zlet (zu Z103 44 a0b a1 15 y5) (fun Z104 => (if (a2 * (Z104 13 a0b 0 0)) ≠ 0 then (zlet (zu Z104 14 a0b 0 0 (w3 ((Z104 14 a0b 0 0) - (a2 * (Z104 13 a0b 0 0))))) (fun Z110 => (zlet (zu Z110 14 a0b 0 6 (w3 ((Z110 14 a0b 0 6) + (a2 * (Z104 13 a0b 0 0))))) (fun Z113 => (zlet (zu Z113 53 a0b ((Z113 11 a0b 0 12) % 60) 0 0) (fun Z115 => (zlet (zu Z115 53 a0b ((Z113 11 a0b 0 12) % 60) 1 6) (fun Z116 => (zlet (zu Z116 53 a0b ((Z113 11 a0b 0 12) % 60) 2 (a2 * (Z104 13 a0b 0 0))) (fun Z117 => (zlet (zu Z117 53 a0b ((Z113 11 a0b 0 12) % 60) 3 a1) (fun Z118 => (zlet (zu Z118 53 a0b ((Z113 11 a0b 0 12) % 60) 4 (Z118 11 a0b 0 13)) (fun Z120 => (zlet (zu Z120 11 a0b 0 12 ((Z120 11 a0b 0 12) + 1)) (fun Z123 => (Z123, (Z123 44 a0b a1 9)))))))))))))))))) else (Z104, (Z104 44 a0b a1 9))))))))))))))
theorem sp_95 {s : zSM} {Z : qz_Z} {ν : qz_N} (hZ : zH s Z) (a0b : Nat) {a1 : Int} (ga1 : 0 ≤ a1 ∧ a1 ≤ 47) {a2 : Int} (ga2 : 1 ≤ a2 ∧ a2 ≤ 20) {a3 : Int} (ga3 : 0 ≤ a3 ∧ a3 ≤ 9) {a4 : Int} (ga4 : 0 ≤ a4 ∧ a4 ≤ 65535) (hM : s.2 + 1 ≤ 1000000000) : ∃ (Z1 : qz_Z) (P : Int), (Z1, P) = zf_95 Z a0b a1 a2 a3 a4 ∧ (qf_95 [.inr (.inr (some (10, a0b, 0))), .inl (i3 a1), .inl (i3 a2), .inl (i3 a3), .inl (i3 a4)] (zm Z ν) = some (zm Z1 ν, .inl (some (.inl (i3 P)))) ∧ zH (zb s 1) Z1 ∧ zC [14, 44, 53, 1112] Z Z1 ∧ zU [a0b] Z Z1 ∧ 0 ≤ P ∧ P ≤ 3) := by
  obtain ⟨P, hP⟩ := zx (zf_95 Z a0b a1 a2 a3 a4)
  refine zc_W (Q := fun Z1 P => zH (zb s 1) Z1 ∧ zC [14, 44, 53, 1112] Z Z1 ∧ zU [a0b] Z Z1 ∧ 0 ≤ P ∧ P ≤ 3) hP (fw_95 a0b (i3 a1) (i3 a2) (i3 a3) (i3 a4) _ _ ?_)
  replace hP : zE P (zf_95 Z a0b a1 a2 a3 a4) := hP
  unfold zf_95 at hP
  refine wz_i0 (i3O (n := 48) (rfl : i3 a1 = i3 a1) (by omega) (by omega) (by omega)) ?_
  have r1 := zH_k hZ 44 a0b a1 4 (lo := 0) (hi := 40) (by decide) rfl
  have r2 := zH_k hZ 44 a0b a1 5 (lo := 0) (hi := 40) (by decide) rfl
  refine sl_95_1 (ν := ν) hZ (zbh (c := 0) (k := 0) hM (Nat.le_of_ble_eq_true rfl)) a0b _ (i3I (y := a1) (rfl : i3 a1 = i3 a1) (by omega) (by omega) (by omega)) (by omega) (x1 := a1) (by omega) (x2 := a2) (by omega) (x3 := a3) (by omega) (x6 := (Z 44 a0b a1 4)) (by omega) (x7 := (Z 44 a0b a1 5)) (by omega) (x8 := 0) (by omega) (x9 := a4) (by omega) (x10 := 0) (by omega) (by omega) (zconso rfl (zconso (zvo (rfl : i3 a1 = i3 a1)) (zconso (zvo (rfl : i3 a2 = i3 a2)) (zconso (zvo (rfl : i3 a3 = i3 a3)) (zconso rfl (zconso rfl (zconso (zvo (zm_rd (Z := Z) (ν := ν) (k := 44) (rfl : ((a0b : Nat) : Int) = a0b) (i3I (y := a1) (rfl : i3 a1 = i3 a1) (by omega) (by omega) (by omega)) (show ((4 : Nat) : Int) = 4 from rfl))) (zconso (zvo (zm_rd (Z := Z) (ν := ν) (k := 44) (rfl : ((a0b : Nat) : Int) = a0b) (i3I (y := a1) (rfl : i3 a1 = i3 a1) (by omega) (by omega) (by omega)) (show ((5 : Nat) : Int) = 5 from rfl))) (zconso (zvo (show (0 : Int32) = i3 0 from rfl)) (zconso (zvo (rfl : i3 a4 = i3 a4)) (zconso (zvo (show (0 : Int32) = i3 0 from rfl)) rfl))))))))))) rfl ?_
  intro L8 y3 y4 y5 y6 y7 hL8 gy3 gy4 gy5 gy6 gy7 gL8_0 q9
  replace hP := zl_e5 hP (Eq.symm q9)
  clear q9
  refine fc_95_2 _ (i3 a1) (i3 a2) (i3 a3) _ (i3 y5) _ _ _ _ hL8 ?_
  refine wz_br (i3NE (rfl : i3 y5 = i3 y5) (show (0 : Int32) = i3 0 from rfl) (by omega) (by omega) (by omega) (by omega)) (fun h9 => ?_) (fun h9 => ?_)
  · replace hP := zE_p hP h9
    refine wz_br (i3L (rfl : i3 a3 = i3 a3) (rfl : i3 y5 = i3 y5) (by omega) (by omega) (by omega) (by omega)) (fun h10 => ?_) (fun h10 => ?_)
    · replace hP := zE_p hP h10
      refine wz_br (i3L (i3A (i3M (show (2 : Int32) = i3 2 from rfl) (rfl : i3 a3 = i3 a3)) (show (1 : Int32) = i3 1 from rfl)) (rfl : i3 y5 = i3 y5) (by omega) (by omega) (by omega) (by omega)) (fun h11 => ?_) (fun h11 => ?_)
      · replace hP := zE_p hP h11
        obtain ⟨v12, hv12, c9, lv12, uv12⟩ := sp_100 (ν := ν) hZ a0b a0b _ (i3I (y := a1) (rfl : i3 a1 = i3 a1) (by omega) (by omega) (by omega)) (by omega) (zbh (c := 0) (k := 0) hM (Nat.le_of_ble_eq_true rfl))
        replace hP := zl_e hP hv12
        refine wz_cI_of (zas (zcons rfl (zcons rfl rfl)) c9) ?_
        clear c9
        obtain ⟨Z13, hZ13⟩ := zx (zu Z 44 a0b a1 9 (max 3 v12))
        replace hP := zl_e hP hZ13
        have hZ13I := zH_u hZ hZ13 (lo := -1) (hi := 3) (by decide) rfl (by omega) ⟨by decide, by decide⟩ (Or.inl (by decide)) rfl
        have hZ13U : zU [a0b] Z Z13 := zU_u zU_r hZ13 (Or.inr (List.Mem.head _))
        have hZ13K : zC [14, 44, 53, 1112] Z Z13 := zC_u zC_r hZ13 (by decide)
        intro μ9 e9
        replace e9 := e9.trans (zm_wI (Z := Z) (ν := ν) hZ13 (rfl : ((a0b : Nat) : Int) = a0b) (i3I (y := a1) (rfl : i3 a1 = i3 a1) (by omega) (by omega) (by omega)) (show ((9 : Nat) : Int) = 9 from rfl) (i3Mx (show (3 : Int32) = i3 3 from rfl) (rfl : i3 v12 = i3 v12) (by omega) (by omega) (by omega) (by omega)))
        subst e9
        have r14 := zH_f hZ13I 44 a0b a1 14
        have r15 := w3_r ((Z13 44 a0b a1 14) + 1)
        obtain ⟨Z16, hZ16⟩ := zx (zu Z13 44 a0b a1 14 (w3 ((Z13 44 a0b a1 14) + 1)))
        replace hP := zl_e hP hZ16
        have hZ16I := zH_u hZ13I hZ16 (lo := -2147483648) (hi := 2147483647) (by decide) rfl (by omega) ⟨by decide, by decide⟩ (Or.inl (by decide)) rfl
        have hZ16U : zU [a0b] Z Z16 := zU_u hZ13U hZ16 (Or.inr (List.Mem.head _))
        have hZ16K : zC [14, 44, 53, 1112] Z Z16 := zC_u hZ13K hZ16 (by decide)
        intro μ9 e9
        replace e9 := e9.trans (zm_wI (Z := Z13) (ν := ν) hZ16 (rfl : ((a0b : Nat) : Int) = a0b) (i3I (y := a1) (rfl : i3 a1 = i3 a1) (by omega) (by omega) (by omega)) (show ((14 : Nat) : Int) = 14 from rfl) (i3W (i3A (zm_rd (Z := Z13) (ν := ν) (k := 44) (rfl : ((a0b : Nat) : Int) = a0b) (i3I (y := a1) (rfl : i3 a1 = i3 a1) (by omega) (by omega) (by omega)) (show ((14 : Nat) : Int) = 14 from rfl)) (show (1 : Int32) = i3 1 from rfl))))
        subst e9
        obtain ⟨Z17, hZ17⟩ := zx (zu Z16 44 a0b a1 15 y5)
        replace hP := zl_e hP hZ17
        have hZ17I := zH_u hZ16I hZ17 (lo := -1) (hi := 20) (by decide) rfl (by omega) ⟨by decide, by decide⟩ (Or.inl (by decide)) rfl
        have hZ17U : zU [a0b] Z Z17 := zU_u hZ16U hZ17 (Or.inr (List.Mem.head _))
        have hZ17K : zC [14, 44, 53, 1112] Z Z17 := zC_u hZ16K hZ17 (by decide)
        intro μ9 e9
        replace e9 := e9.trans (zm_wI (Z := Z16) (ν := ν) hZ17 (rfl : ((a0b : Nat) : Int) = a0b) (i3I (y := a1) (rfl : i3 a1 = i3 a1) (by omega) (by omega) (by omega)) (show ((15 : Nat) : Int) = 15 from rfl) (rfl : i3 y5 = i3 y5))
        subst e9
        have r18 := zH_k hZ17I 13 a0b 0 0 (lo := 0) (hi := 99999) (by decide) rfl
        have r19 := z_mul (x := a2) (y := (Z17 13 a0b 0 0)) (a := 20) (b := 99999) (by omega) (by omega) (by omega) (by omega)
        refine wz_br (i3NE (i3M (rfl : i3 a2 = i3 a2) (zm_rd (Z := Z17) (ν := ν) (k := 13) (rfl : ((a0b : Nat) : Int) = a0b) (show ((0 : Nat) : Int) = 0 from rfl) (show ((0 : Nat) : Int) = 0 from rfl))) (show (0 : Int32) = i3 0 from rfl) (by omega) (by omega) (by omega) (by omega)) (fun h20 => ?_) (fun h20 => ?_)
        · replace hP := zE_p hP h20
          have r21 := zH_f hZ17I 14 a0b 0 0
          have r22 := w3_r ((Z17 14 a0b 0 0) - (a2 * (Z17 13 a0b 0 0)))
          obtain ⟨Z23, hZ23⟩ := zx (zu Z17 14 a0b 0 0 (w3 ((Z17 14 a0b 0 0) - (a2 * (Z17 13 a0b 0 0)))))
          replace hP := zl_e hP hZ23
          have hZ23I := zH_u hZ17I hZ23 (lo := -2147483648) (hi := 2147483647) (by decide) rfl (by omega) ⟨by decide, by decide⟩ (Or.inl (by decide)) rfl
          have hZ23U : zU [a0b] Z Z23 := zU_u hZ17U hZ23 (Or.inr (List.Mem.head _))
          have hZ23K : zC [14, 44, 53, 1112] Z Z23 := zC_u hZ17K hZ23 (by decide)
          intro μ9 e9
          replace e9 := e9.trans (zm_wI (Z := Z17) (ν := ν) hZ23 (rfl : ((a0b : Nat) : Int) = a0b) (show ((0 : Nat) : Int) = 0 from rfl) (show ((0 : Nat) : Int) = 0 from rfl) (i3W (i3S (zm_rd (Z := Z17) (ν := ν) (k := 14) (rfl : ((a0b : Nat) : Int) = a0b) (show ((0 : Nat) : Int) = 0 from rfl) (show ((0 : Nat) : Int) = 0 from rfl)) (i3M (rfl : i3 a2 = i3 a2) (zm_rd (Z := Z17) (ν := ν) (k := 13) (rfl : ((a0b : Nat) : Int) = a0b) (show ((0 : Nat) : Int) = 0 from rfl) (show ((0 : Nat) : Int) = 0 from rfl))))))
          subst e9
          have r24 := zH_f hZ23I 14 a0b 0 6
          have r25 := w3_r ((Z23 14 a0b 0 6) + (a2 * (Z17 13 a0b 0 0)))
          obtain ⟨Z26, hZ26⟩ := zx (zu Z23 14 a0b 0 6 (w3 ((Z23 14 a0b 0 6) + (a2 * (Z17 13 a0b 0 0)))))
          replace hP := zl_e hP hZ26
          have hZ26I := zH_u hZ23I hZ26 (lo := -2147483648) (hi := 2147483647) (by decide) rfl (by omega) ⟨by decide, by decide⟩ (Or.inl (by decide)) rfl
          have hZ26U : zU [a0b] Z Z26 := zU_u hZ23U hZ26 (Or.inr (List.Mem.head _))
          have hZ26K : zC [14, 44, 53, 1112] Z Z26 := zC_u hZ23K hZ26 (by decide)
          intro μ9 e9
          replace e9 := e9.trans (zm_wI (Z := Z23) (ν := ν) hZ26 (rfl : ((a0b : Nat) : Int) = a0b) (show ((0 : Nat) : Int) = 0 from rfl) (show ((6 : Nat) : Int) = 6 from rfl) (i3W (i3A (zm_rd (Z := Z23) (ν := ν) (k := 14) (rfl : ((a0b : Nat) : Int) = a0b) (show ((0 : Nat) : Int) = 0 from rfl) (show ((6 : Nat) : Int) = 6 from rfl)) (i3M (rfl : i3 a2 = i3 a2) (zm_rd (Z := Z17) (ν := ν) (k := 13) (rfl : ((a0b : Nat) : Int) = a0b) (show ((0 : Nat) : Int) = 0 from rfl) (show ((0 : Nat) : Int) = 0 from rfl))))))
          subst e9
          have r27 := zH_c12 hZ26I a0b (zbh (c := 0) (k := 0) hM (Nat.le_of_ble_eq_true rfl))
          refine wz_i0 (i3O (n := 60) (i3R (zm_rd (Z := Z26) (ν := ν) (k := 11) (rfl : ((a0b : Nat) : Int) = a0b) (show ((0 : Nat) : Int) = 0 from rfl) (show ((12 : Nat) : Int) = 12 from rfl)) (show (60 : Int32) = i3 60 from rfl) (by omega) (by omega) (by omega) (by omega)) (by omega) (by omega) (by omega)) ?_
          obtain ⟨Z28, hZ28⟩ := zx (zu Z26 53 a0b ((Z26 11 a0b 0 12) % 60) 0 0)
          replace hP := zl_e hP hZ28
          have hZ28I := zH_0 hZ26I hZ28 (by decide) (Or.inl (by decide))
          have hZ28U : zU [a0b] Z Z28 := zU_u hZ26U hZ28 (Or.inr (List.Mem.head _))
          have hZ28K : zC [14, 44, 53, 1112] Z Z28 := zC_u hZ26K hZ28 (by decide)
          intro μ9 e9
          replace e9 := e9.trans (zm_wI (Z := Z26) (ν := ν) hZ28 (rfl : ((a0b : Nat) : Int) = a0b) (i3I (y := ((Z26 11 a0b 0 12) % 60)) (i3R (zm_rd (Z := Z26) (ν := ν) (k := 11) (rfl : ((a0b : Nat) : Int) = a0b) (show ((0 : Nat) : Int) = 0 from rfl) (show ((12 : Nat) : Int) = 12 from rfl)) (show (60 : Int32) = i3 60 from rfl) (by omega) (by omega) (by omega) (by omega)) (by omega) (by omega) (by omega)) (show ((0 : Nat) : Int) = 0 from rfl) (show (0 : Int32) = i3 0 from rfl))
          subst e9
          obtain ⟨Z29, hZ29⟩ := zx (zu Z28 53 a0b ((Z26 11 a0b 0 12) % 60) 1 6)
          replace hP := zl_e hP hZ29
          have hZ29I := zH_u hZ28I hZ29 (lo := -2147483648) (hi := 2147483647) (by decide) rfl (by omega) ⟨by decide, by decide⟩ (Or.inl (by decide)) rfl
          have hZ29U : zU [a0b] Z Z29 := zU_u hZ28U hZ29 (Or.inr (List.Mem.head _))
          have hZ29K : zC [14, 44, 53, 1112] Z Z29 := zC_u hZ28K hZ29 (by decide)
          intro μ9 e9
          replace e9 := e9.trans (zm_wI (Z := Z28) (ν := ν) hZ29 (rfl : ((a0b : Nat) : Int) = a0b) (i3I (y := ((Z26 11 a0b 0 12) % 60)) (i3R (zm_rd (Z := Z26) (ν := ν) (k := 11) (rfl : ((a0b : Nat) : Int) = a0b) (show ((0 : Nat) : Int) = 0 from rfl) (show ((12 : Nat) : Int) = 12 from rfl)) (show (60 : Int32) = i3 60 from rfl) (by omega) (by omega) (by omega) (by omega)) (by omega) (by omega) (by omega)) (show ((1 : Nat) : Int) = 1 from rfl) (show (6 : Int32) = i3 6 from rfl))
          subst e9
          obtain ⟨Z30, hZ30⟩ := zx (zu Z29 53 a0b ((Z26 11 a0b 0 12) % 60) 2 (a2 * (Z17 13 a0b 0 0)))
          replace hP := zl_e hP hZ30
          have hZ30I := zH_u hZ29I hZ30 (lo := -2147483648) (hi := 2147483647) (by decide) rfl (by omega) ⟨by decide, by decide⟩ (Or.inl (by decide)) rfl
          have hZ30U : zU [a0b] Z Z30 := zU_u hZ29U hZ30 (Or.inr (List.Mem.head _))
          have hZ30K : zC [14, 44, 53, 1112] Z Z30 := zC_u hZ29K hZ30 (by decide)
          intro μ9 e9
          replace e9 := e9.trans (zm_wI (Z := Z29) (ν := ν) hZ30 (rfl : ((a0b : Nat) : Int) = a0b) (i3I (y := ((Z26 11 a0b 0 12) % 60)) (i3R (zm_rd (Z := Z26) (ν := ν) (k := 11) (rfl : ((a0b : Nat) : Int) = a0b) (show ((0 : Nat) : Int) = 0 from rfl) (show ((12 : Nat) : Int) = 12 from rfl)) (show (60 : Int32) = i3 60 from rfl) (by omega) (by omega) (by omega) (by omega)) (by omega) (by omega) (by omega)) (show ((2 : Nat) : Int) = 2 from rfl) (i3M (rfl : i3 a2 = i3 a2) (zm_rd (Z := Z17) (ν := ν) (k := 13) (rfl : ((a0b : Nat) : Int) = a0b) (show ((0 : Nat) : Int) = 0 from rfl) (show ((0 : Nat) : Int) = 0 from rfl))))
          subst e9
          obtain ⟨Z31, hZ31⟩ := zx (zu Z30 53 a0b ((Z26 11 a0b 0 12) % 60) 3 a1)
          replace hP := zl_e hP hZ31
          have hZ31I := zH_u hZ30I hZ31 (lo := -2147483648) (hi := 2147483647) (by decide) rfl (by omega) ⟨by decide, by decide⟩ (Or.inl (by decide)) rfl
          have hZ31U : zU [a0b] Z Z31 := zU_u hZ30U hZ31 (Or.inr (List.Mem.head _))
          have hZ31K : zC [14, 44, 53, 1112] Z Z31 := zC_u hZ30K hZ31 (by decide)
          intro μ9 e9
          replace e9 := e9.trans (zm_wI (Z := Z30) (ν := ν) hZ31 (rfl : ((a0b : Nat) : Int) = a0b) (i3I (y := ((Z26 11 a0b 0 12) % 60)) (i3R (zm_rd (Z := Z26) (ν := ν) (k := 11) (rfl : ((a0b : Nat) : Int) = a0b) (show ((0 : Nat) : Int) = 0 from rfl) (show ((12 : Nat) : Int) = 12 from rfl)) (show (60 : Int32) = i3 60 from rfl) (by omega) (by omega) (by omega) (by omega)) (by omega) (by omega) (by omega)) (show ((3 : Nat) : Int) = 3 from rfl) (rfl : i3 a1 = i3 a1))
          subst e9
          have r32 := zH_k hZ31I 11 a0b 0 13 (lo := 0) (hi := 671) (by decide) rfl
          obtain ⟨Z33, hZ33⟩ := zx (zu Z31 53 a0b ((Z26 11 a0b 0 12) % 60) 4 (Z31 11 a0b 0 13))
          replace hP := zl_e hP hZ33
          have hZ33I := zH_u hZ31I hZ33 (lo := -2147483648) (hi := 2147483647) (by decide) rfl (by omega) ⟨by decide, by decide⟩ (Or.inl (by decide)) rfl
          have hZ33U : zU [a0b] Z Z33 := zU_u hZ31U hZ33 (Or.inr (List.Mem.head _))
          have hZ33K : zC [14, 44, 53, 1112] Z Z33 := zC_u hZ31K hZ33 (by decide)
          intro μ9 e9
          replace e9 := e9.trans (zm_wI (Z := Z31) (ν := ν) hZ33 (rfl : ((a0b : Nat) : Int) = a0b) (i3I (y := ((Z26 11 a0b 0 12) % 60)) (i3R (zm_rd (Z := Z26) (ν := ν) (k := 11) (rfl : ((a0b : Nat) : Int) = a0b) (show ((0 : Nat) : Int) = 0 from rfl) (show ((12 : Nat) : Int) = 12 from rfl)) (show (60 : Int32) = i3 60 from rfl) (by omega) (by omega) (by omega) (by omega)) (by omega) (by omega) (by omega)) (show ((4 : Nat) : Int) = 4 from rfl) (zm_rd (Z := Z31) (ν := ν) (k := 11) (rfl : ((a0b : Nat) : Int) = a0b) (show ((0 : Nat) : Int) = 0 from rfl) (show ((13 : Nat) : Int) = 13 from rfl)))
          subst e9
          have r34 := zH_c12 hZ33I a0b (zbh (c := 0) (k := 0) hM (Nat.le_of_ble_eq_true rfl))
          have q35 := (zu_ne (k' := 11) (b' := a0b) (i' := 0) (j' := 12) hZ33 (fun q => absurd q.1 (by decide))).trans ((zu_ne (k' := 11) (b' := a0b) (i' := 0) (j' := 12) hZ31 (fun q => absurd q.1 (by decide))).trans ((zu_ne (k' := 11) (b' := a0b) (i' := 0) (j' := 12) hZ30 (fun q => absurd q.1 (by decide))).trans ((zu_ne (k' := 11) (b' := a0b) (i' := 0) (j' := 12) hZ29 (fun q => absurd q.1 (by decide))).trans (zu_ne (k' := 11) (b' := a0b) (i' := 0) (j' := 12) hZ28 (fun q => absurd q.1 (by decide))))))
          obtain ⟨Z36, hZ36⟩ := zx (zu Z33 11 a0b 0 12 ((Z33 11 a0b 0 12) + 1))
          replace hP := zl_e hP hZ36
          have hZ36I := zH_i12 hZ33I hZ36 (zbh (c := 0) (k := 1) hM (Nat.le_of_ble_eq_true rfl)) (by omega)
          have hZ36U : zU [a0b] Z Z36 := zU_u hZ33U hZ36 (Or.inr (List.Mem.head _))
          have hZ36K : zC [14, 44, 53, 1112] Z Z36 := zC_u hZ33K hZ36 (by decide)
          intro μ9 e9
          replace e9 := e9.trans (zm_wI (Z := Z33) (ν := ν) hZ36 (rfl : ((a0b : Nat) : Int) = a0b) (show ((0 : Nat) : Int) = 0 from rfl) (show ((12 : Nat) : Int) = 12 from rfl) (i3A (zm_rd (Z := Z33) (ν := ν) (k := 11) (rfl : ((a0b : Nat) : Int) = a0b) (show ((0 : Nat) : Int) = 0 from rfl) (show ((12 : Nat) : Int) = 12 from rfl)) (show (1 : Int32) = i3 1 from rfl)))
          subst e9
          have r37 := zH_k hZ36I 44 a0b a1 9 (lo := -1) (hi := 3) (by decide) rfl
          have q38 := (zu_ne (k' := 44) (b' := a0b) (i' := a1) (j' := 9) hZ36 (fun q => absurd q.1 (by decide))).trans ((zu_ne (k' := 44) (b' := a0b) (i' := a1) (j' := 9) hZ33 (fun q => absurd q.1 (by decide))).trans ((zu_ne (k' := 44) (b' := a0b) (i' := a1) (j' := 9) hZ31 (fun q => absurd q.1 (by decide))).trans ((zu_ne (k' := 44) (b' := a0b) (i' := a1) (j' := 9) hZ30 (fun q => absurd q.1 (by decide))).trans ((zu_ne (k' := 44) (b' := a0b) (i' := a1) (j' := 9) hZ29 (fun q => absurd q.1 (by decide))).trans ((zu_ne (k' := 44) (b' := a0b) (i' := a1) (j' := 9) hZ28 (fun q => absurd q.1 (by decide))).trans ((zu_ne (k' := 44) (b' := a0b) (i' := a1) (j' := 9) hZ26 (fun q => absurd q.1 (by decide))).trans ((zu_ne (k' := 44) (b' := a0b) (i' := a1) (j' := 9) hZ23 (fun q => absurd q.1 (by decide))).trans ((zu_ne (k' := 44) (b' := a0b) (i' := a1) (j' := 9) hZ17 (fun q => absurd q.2.2.2 (by decide))).trans ((zu_ne (k' := 44) (b' := a0b) (i' := a1) (j' := 9) hZ16 (fun q => absurd q.2.2.2 (by decide))).trans (zu_at hZ13))))))))))
          exact zlW hP (zm_rd (Z := Z36) (ν := ν) (k := 44) (rfl : ((a0b : Nat) : Int) = a0b) (i3I (y := a1) (rfl : i3 a1 = i3 a1) (by omega) (by omega) (by omega)) (show ((9 : Nat) : Int) = 9 from rfl)) ⟨hZ36I, hZ36K, hZ36U, by omega, by omega⟩
        · replace hP := zE_n hP h20
          have r39 := zH_k hZ17I 44 a0b a1 9 (lo := -1) (hi := 3) (by decide) rfl
          have q40 := (zu_ne (k' := 44) (b' := a0b) (i' := a1) (j' := 9) hZ17 (fun q => absurd q.2.2.2 (by decide))).trans ((zu_ne (k' := 44) (b' := a0b) (i' := a1) (j' := 9) hZ16 (fun q => absurd q.2.2.2 (by decide))).trans (zu_at hZ13))
          exact zlW hP (zm_rd (Z := Z17) (ν := ν) (k := 44) (rfl : ((a0b : Nat) : Int) = a0b) (i3I (y := a1) (rfl : i3 a1 = i3 a1) (by omega) (by omega) (by omega)) (show ((9 : Nat) : Int) = 9 from rfl)) ⟨(zbw (a := 0) (c := 1) hZ17I (Nat.le_of_ble_eq_true rfl)), hZ17K, hZ17U, by omega, by omega⟩
      · replace hP := zE_n hP h11
        obtain ⟨v41, hv41, c9, lv41, uv41⟩ := sp_100 (ν := ν) hZ a0b a0b _ (i3I (y := a1) (rfl : i3 a1 = i3 a1) (by omega) (by omega) (by omega)) (by omega) (zbh (c := 0) (k := 0) hM (Nat.le_of_ble_eq_true rfl))
        replace hP := zl_e hP hv41
        refine wz_cI_of (zas (zcons rfl (zcons rfl rfl)) c9) ?_
        clear c9
        obtain ⟨Z42, hZ42⟩ := zx (zu Z 44 a0b a1 9 (max 2 v41))
        replace hP := zl_e hP hZ42
        have hZ42I := zH_u hZ hZ42 (lo := -1) (hi := 3) (by decide) rfl (by omega) ⟨by decide, by decide⟩ (Or.inl (by decide)) rfl
        have hZ42U : zU [a0b] Z Z42 := zU_u zU_r hZ42 (Or.inr (List.Mem.head _))
        have hZ42K : zC [14, 44, 53, 1112] Z Z42 := zC_u zC_r hZ42 (by decide)
        intro μ9 e9
        replace e9 := e9.trans (zm_wI (Z := Z) (ν := ν) hZ42 (rfl : ((a0b : Nat) : Int) = a0b) (i3I (y := a1) (rfl : i3 a1 = i3 a1) (by omega) (by omega) (by omega)) (show ((9 : Nat) : Int) = 9 from rfl) (i3Mx (show (2 : Int32) = i3 2 from rfl) (rfl : i3 v41 = i3 v41) (by omega) (by omega) (by omega) (by omega)))
        subst e9
        have r43 := zH_f hZ42I 44 a0b a1 14
        have r44 := w3_r ((Z42 44 a0b a1 14) + 1)
        obtain ⟨Z45, hZ45⟩ := zx (zu Z42 44 a0b a1 14 (w3 ((Z42 44 a0b a1 14) + 1)))
        replace hP := zl_e hP hZ45
        have hZ45I := zH_u hZ42I hZ45 (lo := -2147483648) (hi := 2147483647) (by decide) rfl (by omega) ⟨by decide, by decide⟩ (Or.inl (by decide)) rfl
        have hZ45U : zU [a0b] Z Z45 := zU_u hZ42U hZ45 (Or.inr (List.Mem.head _))
        have hZ45K : zC [14, 44, 53, 1112] Z Z45 := zC_u hZ42K hZ45 (by decide)
        intro μ9 e9
        replace e9 := e9.trans (zm_wI (Z := Z42) (ν := ν) hZ45 (rfl : ((a0b : Nat) : Int) = a0b) (i3I (y := a1) (rfl : i3 a1 = i3 a1) (by omega) (by omega) (by omega)) (show ((14 : Nat) : Int) = 14 from rfl) (i3W (i3A (zm_rd (Z := Z42) (ν := ν) (k := 44) (rfl : ((a0b : Nat) : Int) = a0b) (i3I (y := a1) (rfl : i3 a1 = i3 a1) (by omega) (by omega) (by omega)) (show ((14 : Nat) : Int) = 14 from rfl)) (show (1 : Int32) = i3 1 from rfl))))
        subst e9
        obtain ⟨Z46, hZ46⟩ := zx (zu Z45 44 a0b a1 15 y5)
        replace hP := zl_e hP hZ46
        have hZ46I := zH_u hZ45I hZ46 (lo := -1) (hi := 20) (by decide) rfl (by omega) ⟨by decide, by decide⟩ (Or.inl (by decide)) rfl
        have hZ46U : zU [a0b] Z Z46 := zU_u hZ45U hZ46 (Or.inr (List.Mem.head _))
        have hZ46K : zC [14, 44, 53, 1112] Z Z46 := zC_u hZ45K hZ46 (by decide)
        intro μ9 e9
        replace e9 := e9.trans (zm_wI (Z := Z45) (ν := ν) hZ46 (rfl : ((a0b : Nat) : Int) = a0b) (i3I (y := a1) (rfl : i3 a1 = i3 a1) (by omega) (by omega) (by omega)) (show ((15 : Nat) : Int) = 15 from rfl) (rfl : i3 y5 = i3 y5))
        subst e9
        have r47 := zH_k hZ46I 13 a0b 0 0 (lo := 0) (hi := 99999) (by decide) rfl
        have r48 := z_mul (x := a2) (y := (Z46 13 a0b 0 0)) (a := 20) (b := 99999) (by omega) (by omega) (by omega) (by omega)
        refine wz_br (i3NE (i3M (rfl : i3 a2 = i3 a2) (zm_rd (Z := Z46) (ν := ν) (k := 13) (rfl : ((a0b : Nat) : Int) = a0b) (show ((0 : Nat) : Int) = 0 from rfl) (show ((0 : Nat) : Int) = 0 from rfl))) (show (0 : Int32) = i3 0 from rfl) (by omega) (by omega) (by omega) (by omega)) (fun h49 => ?_) (fun h49 => ?_)
        · replace hP := zE_p hP h49
          have r50 := zH_f hZ46I 14 a0b 0 0
          have r51 := w3_r ((Z46 14 a0b 0 0) - (a2 * (Z46 13 a0b 0 0)))
          obtain ⟨Z52, hZ52⟩ := zx (zu Z46 14 a0b 0 0 (w3 ((Z46 14 a0b 0 0) - (a2 * (Z46 13 a0b 0 0)))))
          replace hP := zl_e hP hZ52
          have hZ52I := zH_u hZ46I hZ52 (lo := -2147483648) (hi := 2147483647) (by decide) rfl (by omega) ⟨by decide, by decide⟩ (Or.inl (by decide)) rfl
          have hZ52U : zU [a0b] Z Z52 := zU_u hZ46U hZ52 (Or.inr (List.Mem.head _))
          have hZ52K : zC [14, 44, 53, 1112] Z Z52 := zC_u hZ46K hZ52 (by decide)
          intro μ9 e9
          replace e9 := e9.trans (zm_wI (Z := Z46) (ν := ν) hZ52 (rfl : ((a0b : Nat) : Int) = a0b) (show ((0 : Nat) : Int) = 0 from rfl) (show ((0 : Nat) : Int) = 0 from rfl) (i3W (i3S (zm_rd (Z := Z46) (ν := ν) (k := 14) (rfl : ((a0b : Nat) : Int) = a0b) (show ((0 : Nat) : Int) = 0 from rfl) (show ((0 : Nat) : Int) = 0 from rfl)) (i3M (rfl : i3 a2 = i3 a2) (zm_rd (Z := Z46) (ν := ν) (k := 13) (rfl : ((a0b : Nat) : Int) = a0b) (show ((0 : Nat) : Int) = 0 from rfl) (show ((0 : Nat) : Int) = 0 from rfl))))))
          subst e9
          have r53 := zH_f hZ52I 14 a0b 0 6
          have r54 := w3_r ((Z52 14 a0b 0 6) + (a2 * (Z46 13 a0b 0 0)))
          obtain ⟨Z55, hZ55⟩ := zx (zu Z52 14 a0b 0 6 (w3 ((Z52 14 a0b 0 6) + (a2 * (Z46 13 a0b 0 0)))))
          replace hP := zl_e hP hZ55
          have hZ55I := zH_u hZ52I hZ55 (lo := -2147483648) (hi := 2147483647) (by decide) rfl (by omega) ⟨by decide, by decide⟩ (Or.inl (by decide)) rfl
          have hZ55U : zU [a0b] Z Z55 := zU_u hZ52U hZ55 (Or.inr (List.Mem.head _))
          have hZ55K : zC [14, 44, 53, 1112] Z Z55 := zC_u hZ52K hZ55 (by decide)
          intro μ9 e9
          replace e9 := e9.trans (zm_wI (Z := Z52) (ν := ν) hZ55 (rfl : ((a0b : Nat) : Int) = a0b) (show ((0 : Nat) : Int) = 0 from rfl) (show ((6 : Nat) : Int) = 6 from rfl) (i3W (i3A (zm_rd (Z := Z52) (ν := ν) (k := 14) (rfl : ((a0b : Nat) : Int) = a0b) (show ((0 : Nat) : Int) = 0 from rfl) (show ((6 : Nat) : Int) = 6 from rfl)) (i3M (rfl : i3 a2 = i3 a2) (zm_rd (Z := Z46) (ν := ν) (k := 13) (rfl : ((a0b : Nat) : Int) = a0b) (show ((0 : Nat) : Int) = 0 from rfl) (show ((0 : Nat) : Int) = 0 from rfl))))))
          subst e9
          have r56 := zH_c12 hZ55I a0b (zbh (c := 0) (k := 0) hM (Nat.le_of_ble_eq_true rfl))
          refine wz_i0 (i3O (n := 60) (i3R (zm_rd (Z := Z55) (ν := ν) (k := 11) (rfl : ((a0b : Nat) : Int) = a0b) (show ((0 : Nat) : Int) = 0 from rfl) (show ((12 : Nat) : Int) = 12 from rfl)) (show (60 : Int32) = i3 60 from rfl) (by omega) (by omega) (by omega) (by omega)) (by omega) (by omega) (by omega)) ?_
          obtain ⟨Z57, hZ57⟩ := zx (zu Z55 53 a0b ((Z55 11 a0b 0 12) % 60) 0 0)
          replace hP := zl_e hP hZ57
          have hZ57I := zH_0 hZ55I hZ57 (by decide) (Or.inl (by decide))
          have hZ57U : zU [a0b] Z Z57 := zU_u hZ55U hZ57 (Or.inr (List.Mem.head _))
          have hZ57K : zC [14, 44, 53, 1112] Z Z57 := zC_u hZ55K hZ57 (by decide)
          intro μ9 e9
          replace e9 := e9.trans (zm_wI (Z := Z55) (ν := ν) hZ57 (rfl : ((a0b : Nat) : Int) = a0b) (i3I (y := ((Z55 11 a0b 0 12) % 60)) (i3R (zm_rd (Z := Z55) (ν := ν) (k := 11) (rfl : ((a0b : Nat) : Int) = a0b) (show ((0 : Nat) : Int) = 0 from rfl) (show ((12 : Nat) : Int) = 12 from rfl)) (show (60 : Int32) = i3 60 from rfl) (by omega) (by omega) (by omega) (by omega)) (by omega) (by omega) (by omega)) (show ((0 : Nat) : Int) = 0 from rfl) (show (0 : Int32) = i3 0 from rfl))
          subst e9
          obtain ⟨Z58, hZ58⟩ := zx (zu Z57 53 a0b ((Z55 11 a0b 0 12) % 60) 1 6)
          replace hP := zl_e hP hZ58
          have hZ58I := zH_u hZ57I hZ58 (lo := -2147483648) (hi := 2147483647) (by decide) rfl (by omega) ⟨by decide, by decide⟩ (Or.inl (by decide)) rfl
          have hZ58U : zU [a0b] Z Z58 := zU_u hZ57U hZ58 (Or.inr (List.Mem.head _))
          have hZ58K : zC [14, 44, 53, 1112] Z Z58 := zC_u hZ57K hZ58 (by decide)
          intro μ9 e9
          replace e9 := e9.trans (zm_wI (Z := Z57) (ν := ν) hZ58 (rfl : ((a0b : Nat) : Int) = a0b) (i3I (y := ((Z55 11 a0b 0 12) % 60)) (i3R (zm_rd (Z := Z55) (ν := ν) (k := 11) (rfl : ((a0b : Nat) : Int) = a0b) (show ((0 : Nat) : Int) = 0 from rfl) (show ((12 : Nat) : Int) = 12 from rfl)) (show (60 : Int32) = i3 60 from rfl) (by omega) (by omega) (by omega) (by omega)) (by omega) (by omega) (by omega)) (show ((1 : Nat) : Int) = 1 from rfl) (show (6 : Int32) = i3 6 from rfl))
          subst e9
          obtain ⟨Z59, hZ59⟩ := zx (zu Z58 53 a0b ((Z55 11 a0b 0 12) % 60) 2 (a2 * (Z46 13 a0b 0 0)))
          replace hP := zl_e hP hZ59
          have hZ59I := zH_u hZ58I hZ59 (lo := -2147483648) (hi := 2147483647) (by decide) rfl (by omega) ⟨by decide, by decide⟩ (Or.inl (by decide)) rfl
          have hZ59U : zU [a0b] Z Z59 := zU_u hZ58U hZ59 (Or.inr (List.Mem.head _))
          have hZ59K : zC [14, 44, 53, 1112] Z Z59 := zC_u hZ58K hZ59 (by decide)
          intro μ9 e9
          replace e9 := e9.trans (zm_wI (Z := Z58) (ν := ν) hZ59 (rfl : ((a0b : Nat) : Int) = a0b) (i3I (y := ((Z55 11 a0b 0 12) % 60)) (i3R (zm_rd (Z := Z55) (ν := ν) (k := 11) (rfl : ((a0b : Nat) : Int) = a0b) (show ((0 : Nat) : Int) = 0 from rfl) (show ((12 : Nat) : Int) = 12 from rfl)) (show (60 : Int32) = i3 60 from rfl) (by omega) (by omega) (by omega) (by omega)) (by omega) (by omega) (by omega)) (show ((2 : Nat) : Int) = 2 from rfl) (i3M (rfl : i3 a2 = i3 a2) (zm_rd (Z := Z46) (ν := ν) (k := 13) (rfl : ((a0b : Nat) : Int) = a0b) (show ((0 : Nat) : Int) = 0 from rfl) (show ((0 : Nat) : Int) = 0 from rfl))))
          subst e9
          obtain ⟨Z60, hZ60⟩ := zx (zu Z59 53 a0b ((Z55 11 a0b 0 12) % 60) 3 a1)
          replace hP := zl_e hP hZ60
          have hZ60I := zH_u hZ59I hZ60 (lo := -2147483648) (hi := 2147483647) (by decide) rfl (by omega) ⟨by decide, by decide⟩ (Or.inl (by decide)) rfl
          have hZ60U : zU [a0b] Z Z60 := zU_u hZ59U hZ60 (Or.inr (List.Mem.head _))
          have hZ60K : zC [14, 44, 53, 1112] Z Z60 := zC_u hZ59K hZ60 (by decide)
          intro μ9 e9
          replace e9 := e9.trans (zm_wI (Z := Z59) (ν := ν) hZ60 (rfl : ((a0b : Nat) : Int) = a0b) (i3I (y := ((Z55 11 a0b 0 12) % 60)) (i3R (zm_rd (Z := Z55) (ν := ν) (k := 11) (rfl : ((a0b : Nat) : Int) = a0b) (show ((0 : Nat) : Int) = 0 from rfl) (show ((12 : Nat) : Int) = 12 from rfl)) (show (60 : Int32) = i3 60 from rfl) (by omega) (by omega) (by omega) (by omega)) (by omega) (by omega) (by omega)) (show ((3 : Nat) : Int) = 3 from rfl) (rfl : i3 a1 = i3 a1))
          subst e9
          have r61 := zH_k hZ60I 11 a0b 0 13 (lo := 0) (hi := 671) (by decide) rfl
          obtain ⟨Z62, hZ62⟩ := zx (zu Z60 53 a0b ((Z55 11 a0b 0 12) % 60) 4 (Z60 11 a0b 0 13))
          replace hP := zl_e hP hZ62
          have hZ62I := zH_u hZ60I hZ62 (lo := -2147483648) (hi := 2147483647) (by decide) rfl (by omega) ⟨by decide, by decide⟩ (Or.inl (by decide)) rfl
          have hZ62U : zU [a0b] Z Z62 := zU_u hZ60U hZ62 (Or.inr (List.Mem.head _))
          have hZ62K : zC [14, 44, 53, 1112] Z Z62 := zC_u hZ60K hZ62 (by decide)
          intro μ9 e9
          replace e9 := e9.trans (zm_wI (Z := Z60) (ν := ν) hZ62 (rfl : ((a0b : Nat) : Int) = a0b) (i3I (y := ((Z55 11 a0b 0 12) % 60)) (i3R (zm_rd (Z := Z55) (ν := ν) (k := 11) (rfl : ((a0b : Nat) : Int) = a0b) (show ((0 : Nat) : Int) = 0 from rfl) (show ((12 : Nat) : Int) = 12 from rfl)) (show (60 : Int32) = i3 60 from rfl) (by omega) (by omega) (by omega) (by omega)) (by omega) (by omega) (by omega)) (show ((4 : Nat) : Int) = 4 from rfl) (zm_rd (Z := Z60) (ν := ν) (k := 11) (rfl : ((a0b : Nat) : Int) = a0b) (show ((0 : Nat) : Int) = 0 from rfl) (show ((13 : Nat) : Int) = 13 from rfl)))
          subst e9
          have r63 := zH_c12 hZ62I a0b (zbh (c := 0) (k := 0) hM (Nat.le_of_ble_eq_true rfl))
          have q64 := (zu_ne (k' := 11) (b' := a0b) (i' := 0) (j' := 12) hZ62 (fun q => absurd q.1 (by decide))).trans ((zu_ne (k' := 11) (b' := a0b) (i' := 0) (j' := 12) hZ60 (fun q => absurd q.1 (by decide))).trans ((zu_ne (k' := 11) (b' := a0b) (i' := 0) (j' := 12) hZ59 (fun q => absurd q.1 (by decide))).trans ((zu_ne (k' := 11) (b' := a0b) (i' := 0) (j' := 12) hZ58 (fun q => absurd q.1 (by decide))).trans (zu_ne (k' := 11) (b' := a0b) (i' := 0) (j' := 12) hZ57 (fun q => absurd q.1 (by decide))))))
          obtain ⟨Z65, hZ65⟩ := zx (zu Z62 11 a0b 0 12 ((Z62 11 a0b 0 12) + 1))
          replace hP := zl_e hP hZ65
          have hZ65I := zH_i12 hZ62I hZ65 (zbh (c := 0) (k := 1) hM (Nat.le_of_ble_eq_true rfl)) (by omega)
          have hZ65U : zU [a0b] Z Z65 := zU_u hZ62U hZ65 (Or.inr (List.Mem.head _))
          have hZ65K : zC [14, 44, 53, 1112] Z Z65 := zC_u hZ62K hZ65 (by decide)
          intro μ9 e9
          replace e9 := e9.trans (zm_wI (Z := Z62) (ν := ν) hZ65 (rfl : ((a0b : Nat) : Int) = a0b) (show ((0 : Nat) : Int) = 0 from rfl) (show ((12 : Nat) : Int) = 12 from rfl) (i3A (zm_rd (Z := Z62) (ν := ν) (k := 11) (rfl : ((a0b : Nat) : Int) = a0b) (show ((0 : Nat) : Int) = 0 from rfl) (show ((12 : Nat) : Int) = 12 from rfl)) (show (1 : Int32) = i3 1 from rfl)))
          subst e9
          have r66 := zH_k hZ65I 44 a0b a1 9 (lo := -1) (hi := 3) (by decide) rfl
          have q67 := (zu_ne (k' := 44) (b' := a0b) (i' := a1) (j' := 9) hZ65 (fun q => absurd q.1 (by decide))).trans ((zu_ne (k' := 44) (b' := a0b) (i' := a1) (j' := 9) hZ62 (fun q => absurd q.1 (by decide))).trans ((zu_ne (k' := 44) (b' := a0b) (i' := a1) (j' := 9) hZ60 (fun q => absurd q.1 (by decide))).trans ((zu_ne (k' := 44) (b' := a0b) (i' := a1) (j' := 9) hZ59 (fun q => absurd q.1 (by decide))).trans ((zu_ne (k' := 44) (b' := a0b) (i' := a1) (j' := 9) hZ58 (fun q => absurd q.1 (by decide))).trans ((zu_ne (k' := 44) (b' := a0b) (i' := a1) (j' := 9) hZ57 (fun q => absurd q.1 (by decide))).trans ((zu_ne (k' := 44) (b' := a0b) (i' := a1) (j' := 9) hZ55 (fun q => absurd q.1 (by decide))).trans ((zu_ne (k' := 44) (b' := a0b) (i' := a1) (j' := 9) hZ52 (fun q => absurd q.1 (by decide))).trans ((zu_ne (k' := 44) (b' := a0b) (i' := a1) (j' := 9) hZ46 (fun q => absurd q.2.2.2 (by decide))).trans ((zu_ne (k' := 44) (b' := a0b) (i' := a1) (j' := 9) hZ45 (fun q => absurd q.2.2.2 (by decide))).trans (zu_at hZ42))))))))))
          exact zlW hP (zm_rd (Z := Z65) (ν := ν) (k := 44) (rfl : ((a0b : Nat) : Int) = a0b) (i3I (y := a1) (rfl : i3 a1 = i3 a1) (by omega) (by omega) (by omega)) (show ((9 : Nat) : Int) = 9 from rfl)) ⟨hZ65I, hZ65K, hZ65U, by omega, by omega⟩
        · replace hP := zE_n hP h49
          have r68 := zH_k hZ46I 44 a0b a1 9 (lo := -1) (hi := 3) (by decide) rfl
          have q69 := (zu_ne (k' := 44) (b' := a0b) (i' := a1) (j' := 9) hZ46 (fun q => absurd q.2.2.2 (by decide))).trans ((zu_ne (k' := 44) (b' := a0b) (i' := a1) (j' := 9) hZ45 (fun q => absurd q.2.2.2 (by decide))).trans (zu_at hZ42))
          exact zlW hP (zm_rd (Z := Z46) (ν := ν) (k := 44) (rfl : ((a0b : Nat) : Int) = a0b) (i3I (y := a1) (rfl : i3 a1 = i3 a1) (by omega) (by omega) (by omega)) (show ((9 : Nat) : Int) = 9 from rfl)) ⟨(zbw (a := 0) (c := 1) hZ46I (Nat.le_of_ble_eq_true rfl)), hZ46K, hZ46U, by omega, by omega⟩
    · replace hP := zE_n hP h10
      obtain ⟨v70, hv70, c9, lv70, uv70⟩ := sp_100 (ν := ν) hZ a0b a0b _ (i3I (y := a1) (rfl : i3 a1 = i3 a1) (by omega) (by omega) (by omega)) (by omega) (zbh (c := 0) (k := 0) hM (Nat.le_of_ble_eq_true rfl))
      replace hP := zl_e hP hv70
      refine wz_cI_of (zas (zcons rfl (zcons rfl rfl)) c9) ?_
      clear c9
      obtain ⟨Z71, hZ71⟩ := zx (zu Z 44 a0b a1 9 (max 1 v70))
      replace hP := zl_e hP hZ71
      have hZ71I := zH_u hZ hZ71 (lo := -1) (hi := 3) (by decide) rfl (by omega) ⟨by decide, by decide⟩ (Or.inl (by decide)) rfl
      have hZ71U : zU [a0b] Z Z71 := zU_u zU_r hZ71 (Or.inr (List.Mem.head _))
      have hZ71K : zC [14, 44, 53, 1112] Z Z71 := zC_u zC_r hZ71 (by decide)
      intro μ9 e9
      replace e9 := e9.trans (zm_wI (Z := Z) (ν := ν) hZ71 (rfl : ((a0b : Nat) : Int) = a0b) (i3I (y := a1) (rfl : i3 a1 = i3 a1) (by omega) (by omega) (by omega)) (show ((9 : Nat) : Int) = 9 from rfl) (i3Mx (show (1 : Int32) = i3 1 from rfl) (rfl : i3 v70 = i3 v70) (by omega) (by omega) (by omega) (by omega)))
      subst e9
      have r72 := zH_f hZ71I 44 a0b a1 14
      have r73 := w3_r ((Z71 44 a0b a1 14) + 1)
      obtain ⟨Z74, hZ74⟩ := zx (zu Z71 44 a0b a1 14 (w3 ((Z71 44 a0b a1 14) + 1)))
      replace hP := zl_e hP hZ74
      have hZ74I := zH_u hZ71I hZ74 (lo := -2147483648) (hi := 2147483647) (by decide) rfl (by omega) ⟨by decide, by decide⟩ (Or.inl (by decide)) rfl
      have hZ74U : zU [a0b] Z Z74 := zU_u hZ71U hZ74 (Or.inr (List.Mem.head _))
      have hZ74K : zC [14, 44, 53, 1112] Z Z74 := zC_u hZ71K hZ74 (by decide)
      intro μ9 e9
      replace e9 := e9.trans (zm_wI (Z := Z71) (ν := ν) hZ74 (rfl : ((a0b : Nat) : Int) = a0b) (i3I (y := a1) (rfl : i3 a1 = i3 a1) (by omega) (by omega) (by omega)) (show ((14 : Nat) : Int) = 14 from rfl) (i3W (i3A (zm_rd (Z := Z71) (ν := ν) (k := 44) (rfl : ((a0b : Nat) : Int) = a0b) (i3I (y := a1) (rfl : i3 a1 = i3 a1) (by omega) (by omega) (by omega)) (show ((14 : Nat) : Int) = 14 from rfl)) (show (1 : Int32) = i3 1 from rfl))))
      subst e9
      obtain ⟨Z75, hZ75⟩ := zx (zu Z74 44 a0b a1 15 y5)
      replace hP := zl_e hP hZ75
      have hZ75I := zH_u hZ74I hZ75 (lo := -1) (hi := 20) (by decide) rfl (by omega) ⟨by decide, by decide⟩ (Or.inl (by decide)) rfl
      have hZ75U : zU [a0b] Z Z75 := zU_u hZ74U hZ75 (Or.inr (List.Mem.head _))
      have hZ75K : zC [14, 44, 53, 1112] Z Z75 := zC_u hZ74K hZ75 (by decide)
      intro μ9 e9
      replace e9 := e9.trans (zm_wI (Z := Z74) (ν := ν) hZ75 (rfl : ((a0b : Nat) : Int) = a0b) (i3I (y := a1) (rfl : i3 a1 = i3 a1) (by omega) (by omega) (by omega)) (show ((15 : Nat) : Int) = 15 from rfl) (rfl : i3 y5 = i3 y5))
      subst e9
      have r76 := zH_k hZ75I 13 a0b 0 0 (lo := 0) (hi := 99999) (by decide) rfl
      have r77 := z_mul (x := a2) (y := (Z75 13 a0b 0 0)) (a := 20) (b := 99999) (by omega) (by omega) (by omega) (by omega)
      refine wz_br (i3NE (i3M (rfl : i3 a2 = i3 a2) (zm_rd (Z := Z75) (ν := ν) (k := 13) (rfl : ((a0b : Nat) : Int) = a0b) (show ((0 : Nat) : Int) = 0 from rfl) (show ((0 : Nat) : Int) = 0 from rfl))) (show (0 : Int32) = i3 0 from rfl) (by omega) (by omega) (by omega) (by omega)) (fun h78 => ?_) (fun h78 => ?_)
      · replace hP := zE_p hP h78
        have r79 := zH_f hZ75I 14 a0b 0 0
        have r80 := w3_r ((Z75 14 a0b 0 0) - (a2 * (Z75 13 a0b 0 0)))
        obtain ⟨Z81, hZ81⟩ := zx (zu Z75 14 a0b 0 0 (w3 ((Z75 14 a0b 0 0) - (a2 * (Z75 13 a0b 0 0)))))
        replace hP := zl_e hP hZ81
        have hZ81I := zH_u hZ75I hZ81 (lo := -2147483648) (hi := 2147483647) (by decide) rfl (by omega) ⟨by decide, by decide⟩ (Or.inl (by decide)) rfl
        have hZ81U : zU [a0b] Z Z81 := zU_u hZ75U hZ81 (Or.inr (List.Mem.head _))
        have hZ81K : zC [14, 44, 53, 1112] Z Z81 := zC_u hZ75K hZ81 (by decide)
        intro μ9 e9
        replace e9 := e9.trans (zm_wI (Z := Z75) (ν := ν) hZ81 (rfl : ((a0b : Nat) : Int) = a0b) (show ((0 : Nat) : Int) = 0 from rfl) (show ((0 : Nat) : Int) = 0 from rfl) (i3W (i3S (zm_rd (Z := Z75) (ν := ν) (k := 14) (rfl : ((a0b : Nat) : Int) = a0b) (show ((0 : Nat) : Int) = 0 from rfl) (show ((0 : Nat) : Int) = 0 from rfl)) (i3M (rfl : i3 a2 = i3 a2) (zm_rd (Z := Z75) (ν := ν) (k := 13) (rfl : ((a0b : Nat) : Int) = a0b) (show ((0 : Nat) : Int) = 0 from rfl) (show ((0 : Nat) : Int) = 0 from rfl))))))
        subst e9
        have r82 := zH_f hZ81I 14 a0b 0 6
        have r83 := w3_r ((Z81 14 a0b 0 6) + (a2 * (Z75 13 a0b 0 0)))
        obtain ⟨Z84, hZ84⟩ := zx (zu Z81 14 a0b 0 6 (w3 ((Z81 14 a0b 0 6) + (a2 * (Z75 13 a0b 0 0)))))
        replace hP := zl_e hP hZ84
        have hZ84I := zH_u hZ81I hZ84 (lo := -2147483648) (hi := 2147483647) (by decide) rfl (by omega) ⟨by decide, by decide⟩ (Or.inl (by decide)) rfl
        have hZ84U : zU [a0b] Z Z84 := zU_u hZ81U hZ84 (Or.inr (List.Mem.head _))
        have hZ84K : zC [14, 44, 53, 1112] Z Z84 := zC_u hZ81K hZ84 (by decide)
        intro μ9 e9
        replace e9 := e9.trans (zm_wI (Z := Z81) (ν := ν) hZ84 (rfl : ((a0b : Nat) : Int) = a0b) (show ((0 : Nat) : Int) = 0 from rfl) (show ((6 : Nat) : Int) = 6 from rfl) (i3W (i3A (zm_rd (Z := Z81) (ν := ν) (k := 14) (rfl : ((a0b : Nat) : Int) = a0b) (show ((0 : Nat) : Int) = 0 from rfl) (show ((6 : Nat) : Int) = 6 from rfl)) (i3M (rfl : i3 a2 = i3 a2) (zm_rd (Z := Z75) (ν := ν) (k := 13) (rfl : ((a0b : Nat) : Int) = a0b) (show ((0 : Nat) : Int) = 0 from rfl) (show ((0 : Nat) : Int) = 0 from rfl))))))
        subst e9
        have r85 := zH_c12 hZ84I a0b (zbh (c := 0) (k := 0) hM (Nat.le_of_ble_eq_true rfl))
        refine wz_i0 (i3O (n := 60) (i3R (zm_rd (Z := Z84) (ν := ν) (k := 11) (rfl : ((a0b : Nat) : Int) = a0b) (show ((0 : Nat) : Int) = 0 from rfl) (show ((12 : Nat) : Int) = 12 from rfl)) (show (60 : Int32) = i3 60 from rfl) (by omega) (by omega) (by omega) (by omega)) (by omega) (by omega) (by omega)) ?_
        obtain ⟨Z86, hZ86⟩ := zx (zu Z84 53 a0b ((Z84 11 a0b 0 12) % 60) 0 0)
        replace hP := zl_e hP hZ86
        have hZ86I := zH_0 hZ84I hZ86 (by decide) (Or.inl (by decide))
        have hZ86U : zU [a0b] Z Z86 := zU_u hZ84U hZ86 (Or.inr (List.Mem.head _))
        have hZ86K : zC [14, 44, 53, 1112] Z Z86 := zC_u hZ84K hZ86 (by decide)
        intro μ9 e9
        replace e9 := e9.trans (zm_wI (Z := Z84) (ν := ν) hZ86 (rfl : ((a0b : Nat) : Int) = a0b) (i3I (y := ((Z84 11 a0b 0 12) % 60)) (i3R (zm_rd (Z := Z84) (ν := ν) (k := 11) (rfl : ((a0b : Nat) : Int) = a0b) (show ((0 : Nat) : Int) = 0 from rfl) (show ((12 : Nat) : Int) = 12 from rfl)) (show (60 : Int32) = i3 60 from rfl) (by omega) (by omega) (by omega) (by omega)) (by omega) (by omega) (by omega)) (show ((0 : Nat) : Int) = 0 from rfl) (show (0 : Int32) = i3 0 from rfl))
        subst e9
        obtain ⟨Z87, hZ87⟩ := zx (zu Z86 53 a0b ((Z84 11 a0b 0 12) % 60) 1 6)
        replace hP := zl_e hP hZ87
        have hZ87I := zH_u hZ86I hZ87 (lo := -2147483648) (hi := 2147483647) (by decide) rfl (by omega) ⟨by decide, by decide⟩ (Or.inl (by decide)) rfl
        have hZ87U : zU [a0b] Z Z87 := zU_u hZ86U hZ87 (Or.inr (List.Mem.head _))
        have hZ87K : zC [14, 44, 53, 1112] Z Z87 := zC_u hZ86K hZ87 (by decide)
        intro μ9 e9
        replace e9 := e9.trans (zm_wI (Z := Z86) (ν := ν) hZ87 (rfl : ((a0b : Nat) : Int) = a0b) (i3I (y := ((Z84 11 a0b 0 12) % 60)) (i3R (zm_rd (Z := Z84) (ν := ν) (k := 11) (rfl : ((a0b : Nat) : Int) = a0b) (show ((0 : Nat) : Int) = 0 from rfl) (show ((12 : Nat) : Int) = 12 from rfl)) (show (60 : Int32) = i3 60 from rfl) (by omega) (by omega) (by omega) (by omega)) (by omega) (by omega) (by omega)) (show ((1 : Nat) : Int) = 1 from rfl) (show (6 : Int32) = i3 6 from rfl))
        subst e9
        obtain ⟨Z88, hZ88⟩ := zx (zu Z87 53 a0b ((Z84 11 a0b 0 12) % 60) 2 (a2 * (Z75 13 a0b 0 0)))
        replace hP := zl_e hP hZ88
        have hZ88I := zH_u hZ87I hZ88 (lo := -2147483648) (hi := 2147483647) (by decide) rfl (by omega) ⟨by decide, by decide⟩ (Or.inl (by decide)) rfl
        have hZ88U : zU [a0b] Z Z88 := zU_u hZ87U hZ88 (Or.inr (List.Mem.head _))
        have hZ88K : zC [14, 44, 53, 1112] Z Z88 := zC_u hZ87K hZ88 (by decide)
        intro μ9 e9
        replace e9 := e9.trans (zm_wI (Z := Z87) (ν := ν) hZ88 (rfl : ((a0b : Nat) : Int) = a0b) (i3I (y := ((Z84 11 a0b 0 12) % 60)) (i3R (zm_rd (Z := Z84) (ν := ν) (k := 11) (rfl : ((a0b : Nat) : Int) = a0b) (show ((0 : Nat) : Int) = 0 from rfl) (show ((12 : Nat) : Int) = 12 from rfl)) (show (60 : Int32) = i3 60 from rfl) (by omega) (by omega) (by omega) (by omega)) (by omega) (by omega) (by omega)) (show ((2 : Nat) : Int) = 2 from rfl) (i3M (rfl : i3 a2 = i3 a2) (zm_rd (Z := Z75) (ν := ν) (k := 13) (rfl : ((a0b : Nat) : Int) = a0b) (show ((0 : Nat) : Int) = 0 from rfl) (show ((0 : Nat) : Int) = 0 from rfl))))
        subst e9
        obtain ⟨Z89, hZ89⟩ := zx (zu Z88 53 a0b ((Z84 11 a0b 0 12) % 60) 3 a1)
        replace hP := zl_e hP hZ89
        have hZ89I := zH_u hZ88I hZ89 (lo := -2147483648) (hi := 2147483647) (by decide) rfl (by omega) ⟨by decide, by decide⟩ (Or.inl (by decide)) rfl
        have hZ89U : zU [a0b] Z Z89 := zU_u hZ88U hZ89 (Or.inr (List.Mem.head _))
        have hZ89K : zC [14, 44, 53, 1112] Z Z89 := zC_u hZ88K hZ89 (by decide)
        intro μ9 e9
        replace e9 := e9.trans (zm_wI (Z := Z88) (ν := ν) hZ89 (rfl : ((a0b : Nat) : Int) = a0b) (i3I (y := ((Z84 11 a0b 0 12) % 60)) (i3R (zm_rd (Z := Z84) (ν := ν) (k := 11) (rfl : ((a0b : Nat) : Int) = a0b) (show ((0 : Nat) : Int) = 0 from rfl) (show ((12 : Nat) : Int) = 12 from rfl)) (show (60 : Int32) = i3 60 from rfl) (by omega) (by omega) (by omega) (by omega)) (by omega) (by omega) (by omega)) (show ((3 : Nat) : Int) = 3 from rfl) (rfl : i3 a1 = i3 a1))
        subst e9
        have r90 := zH_k hZ89I 11 a0b 0 13 (lo := 0) (hi := 671) (by decide) rfl
        obtain ⟨Z91, hZ91⟩ := zx (zu Z89 53 a0b ((Z84 11 a0b 0 12) % 60) 4 (Z89 11 a0b 0 13))
        replace hP := zl_e hP hZ91
        have hZ91I := zH_u hZ89I hZ91 (lo := -2147483648) (hi := 2147483647) (by decide) rfl (by omega) ⟨by decide, by decide⟩ (Or.inl (by decide)) rfl
        have hZ91U : zU [a0b] Z Z91 := zU_u hZ89U hZ91 (Or.inr (List.Mem.head _))
        have hZ91K : zC [14, 44, 53, 1112] Z Z91 := zC_u hZ89K hZ91 (by decide)
        intro μ9 e9
        replace e9 := e9.trans (zm_wI (Z := Z89) (ν := ν) hZ91 (rfl : ((a0b : Nat) : Int) = a0b) (i3I (y := ((Z84 11 a0b 0 12) % 60)) (i3R (zm_rd (Z := Z84) (ν := ν) (k := 11) (rfl : ((a0b : Nat) : Int) = a0b) (show ((0 : Nat) : Int) = 0 from rfl) (show ((12 : Nat) : Int) = 12 from rfl)) (show (60 : Int32) = i3 60 from rfl) (by omega) (by omega) (by omega) (by omega)) (by omega) (by omega) (by omega)) (show ((4 : Nat) : Int) = 4 from rfl) (zm_rd (Z := Z89) (ν := ν) (k := 11) (rfl : ((a0b : Nat) : Int) = a0b) (show ((0 : Nat) : Int) = 0 from rfl) (show ((13 : Nat) : Int) = 13 from rfl)))
        subst e9
        have r92 := zH_c12 hZ91I a0b (zbh (c := 0) (k := 0) hM (Nat.le_of_ble_eq_true rfl))
        have q93 := (zu_ne (k' := 11) (b' := a0b) (i' := 0) (j' := 12) hZ91 (fun q => absurd q.1 (by decide))).trans ((zu_ne (k' := 11) (b' := a0b) (i' := 0) (j' := 12) hZ89 (fun q => absurd q.1 (by decide))).trans ((zu_ne (k' := 11) (b' := a0b) (i' := 0) (j' := 12) hZ88 (fun q => absurd q.1 (by decide))).trans ((zu_ne (k' := 11) (b' := a0b) (i' := 0) (j' := 12) hZ87 (fun q => absurd q.1 (by decide))).trans (zu_ne (k' := 11) (b' := a0b) (i' := 0) (j' := 12) hZ86 (fun q => absurd q.1 (by decide))))))
        obtain ⟨Z94, hZ94⟩ := zx (zu Z91 11 a0b 0 12 ((Z91 11 a0b 0 12) + 1))
        replace hP := zl_e hP hZ94
        have hZ94I := zH_i12 hZ91I hZ94 (zbh (c := 0) (k := 1) hM (Nat.le_of_ble_eq_true rfl)) (by omega)
        have hZ94U : zU [a0b] Z Z94 := zU_u hZ91U hZ94 (Or.inr (List.Mem.head _))
        have hZ94K : zC [14, 44, 53, 1112] Z Z94 := zC_u hZ91K hZ94 (by decide)
        intro μ9 e9
        replace e9 := e9.trans (zm_wI (Z := Z91) (ν := ν) hZ94 (rfl : ((a0b : Nat) : Int) = a0b) (show ((0 : Nat) : Int) = 0 from rfl) (show ((12 : Nat) : Int) = 12 from rfl) (i3A (zm_rd (Z := Z91) (ν := ν) (k := 11) (rfl : ((a0b : Nat) : Int) = a0b) (show ((0 : Nat) : Int) = 0 from rfl) (show ((12 : Nat) : Int) = 12 from rfl)) (show (1 : Int32) = i3 1 from rfl)))
        subst e9
        have r95 := zH_k hZ94I 44 a0b a1 9 (lo := -1) (hi := 3) (by decide) rfl
        have q96 := (zu_ne (k' := 44) (b' := a0b) (i' := a1) (j' := 9) hZ94 (fun q => absurd q.1 (by decide))).trans ((zu_ne (k' := 44) (b' := a0b) (i' := a1) (j' := 9) hZ91 (fun q => absurd q.1 (by decide))).trans ((zu_ne (k' := 44) (b' := a0b) (i' := a1) (j' := 9) hZ89 (fun q => absurd q.1 (by decide))).trans ((zu_ne (k' := 44) (b' := a0b) (i' := a1) (j' := 9) hZ88 (fun q => absurd q.1 (by decide))).trans ((zu_ne (k' := 44) (b' := a0b) (i' := a1) (j' := 9) hZ87 (fun q => absurd q.1 (by decide))).trans ((zu_ne (k' := 44) (b' := a0b) (i' := a1) (j' := 9) hZ86 (fun q => absurd q.1 (by decide))).trans ((zu_ne (k' := 44) (b' := a0b) (i' := a1) (j' := 9) hZ84 (fun q => absurd q.1 (by decide))).trans ((zu_ne (k' := 44) (b' := a0b) (i' := a1) (j' := 9) hZ81 (fun q => absurd q.1 (by decide))).trans ((zu_ne (k' := 44) (b' := a0b) (i' := a1) (j' := 9) hZ75 (fun q => absurd q.2.2.2 (by decide))).trans ((zu_ne (k' := 44) (b' := a0b) (i' := a1) (j' := 9) hZ74 (fun q => absurd q.2.2.2 (by decide))).trans (zu_at hZ71))))))))))
        exact zlW hP (zm_rd (Z := Z94) (ν := ν) (k := 44) (rfl : ((a0b : Nat) : Int) = a0b) (i3I (y := a1) (rfl : i3 a1 = i3 a1) (by omega) (by omega) (by omega)) (show ((9 : Nat) : Int) = 9 from rfl)) ⟨hZ94I, hZ94K, hZ94U, by omega, by omega⟩
      · replace hP := zE_n hP h78
        have r97 := zH_k hZ75I 44 a0b a1 9 (lo := -1) (hi := 3) (by decide) rfl
        have q98 := (zu_ne (k' := 44) (b' := a0b) (i' := a1) (j' := 9) hZ75 (fun q => absurd q.2.2.2 (by decide))).trans ((zu_ne (k' := 44) (b' := a0b) (i' := a1) (j' := 9) hZ74 (fun q => absurd q.2.2.2 (by decide))).trans (zu_at hZ71))
        exact zlW hP (zm_rd (Z := Z75) (ν := ν) (k := 44) (rfl : ((a0b : Nat) : Int) = a0b) (i3I (y := a1) (rfl : i3 a1 = i3 a1) (by omega) (by omega) (by omega)) (show ((9 : Nat) : Int) = 9 from rfl)) ⟨(zbw (a := 0) (c := 1) hZ75I (Nat.le_of_ble_eq_true rfl)), hZ75K, hZ75U, by omega, by omega⟩
  · replace hP := zE_n hP h9
    obtain ⟨v99, hv99, c9, lv99, uv99⟩ := sp_100 (ν := ν) hZ a0b a0b _ (i3I (y := a1) (rfl : i3 a1 = i3 a1) (by omega) (by omega) (by omega)) (by omega) (zbh (c := 0) (k := 0) hM (Nat.le_of_ble_eq_true rfl))
    replace hP := zl_e hP hv99
    refine wz_cI_of (zas (zcons rfl (zcons rfl rfl)) c9) ?_
    clear c9
    obtain ⟨Z100, hZ100⟩ := zx (zu Z 44 a0b a1 9 (max 0 v99))
    replace hP := zl_e hP hZ100
    have hZ100I := zH_u hZ hZ100 (lo := -1) (hi := 3) (by decide) rfl (by omega) ⟨by decide, by decide⟩ (Or.inl (by decide)) rfl
    have hZ100U : zU [a0b] Z Z100 := zU_u zU_r hZ100 (Or.inr (List.Mem.head _))
    have hZ100K : zC [14, 44, 53, 1112] Z Z100 := zC_u zC_r hZ100 (by decide)
    intro μ9 e9
    replace e9 := e9.trans (zm_wI (Z := Z) (ν := ν) hZ100 (rfl : ((a0b : Nat) : Int) = a0b) (i3I (y := a1) (rfl : i3 a1 = i3 a1) (by omega) (by omega) (by omega)) (show ((9 : Nat) : Int) = 9 from rfl) (i3Mx (show (0 : Int32) = i3 0 from rfl) (rfl : i3 v99 = i3 v99) (by omega) (by omega) (by omega) (by omega)))
    subst e9
    have r101 := zH_f hZ100I 44 a0b a1 14
    have r102 := w3_r ((Z100 44 a0b a1 14) + 1)
    obtain ⟨Z103, hZ103⟩ := zx (zu Z100 44 a0b a1 14 (w3 ((Z100 44 a0b a1 14) + 1)))
    replace hP := zl_e hP hZ103
    have hZ103I := zH_u hZ100I hZ103 (lo := -2147483648) (hi := 2147483647) (by decide) rfl (by omega) ⟨by decide, by decide⟩ (Or.inl (by decide)) rfl
    have hZ103U : zU [a0b] Z Z103 := zU_u hZ100U hZ103 (Or.inr (List.Mem.head _))
    have hZ103K : zC [14, 44, 53, 1112] Z Z103 := zC_u hZ100K hZ103 (by decide)
    intro μ9 e9
    replace e9 := e9.trans (zm_wI (Z := Z100) (ν := ν) hZ103 (rfl : ((a0b : Nat) : Int) = a0b) (i3I (y := a1) (rfl : i3 a1 = i3 a1) (by omega) (by omega) (by omega)) (show ((14 : Nat) : Int) = 14 from rfl) (i3W (i3A (zm_rd (Z := Z100) (ν := ν) (k := 44) (rfl : ((a0b : Nat) : Int) = a0b) (i3I (y := a1) (rfl : i3 a1 = i3 a1) (by omega) (by omega) (by omega)) (show ((14 : Nat) : Int) = 14 from rfl)) (show (1 : Int32) = i3 1 from rfl))))
    subst e9
    obtain ⟨Z104, hZ104⟩ := zx (zu Z103 44 a0b a1 15 y5)
    replace hP := zl_e hP hZ104
    have hZ104I := zH_u hZ103I hZ104 (lo := -1) (hi := 20) (by decide) rfl (by omega) ⟨by decide, by decide⟩ (Or.inl (by decide)) rfl
    have hZ104U : zU [a0b] Z Z104 := zU_u hZ103U hZ104 (Or.inr (List.Mem.head _))
    have hZ104K : zC [14, 44, 53, 1112] Z Z104 := zC_u hZ103K hZ104 (by decide)
    intro μ9 e9
    replace e9 := e9.trans (zm_wI (Z := Z103) (ν := ν) hZ104 (rfl : ((a0b : Nat) : Int) = a0b) (i3I (y := a1) (rfl : i3 a1 = i3 a1) (by omega) (by omega) (by omega)) (show ((15 : Nat) : Int) = 15 from rfl) (rfl : i3 y5 = i3 y5))
    subst e9
    have r105 := zH_k hZ104I 13 a0b 0 0 (lo := 0) (hi := 99999) (by decide) rfl
    have r106 := z_mul (x := a2) (y := (Z104 13 a0b 0 0)) (a := 20) (b := 99999) (by omega) (by omega) (by omega) (by omega)
    refine wz_br (i3NE (i3M (rfl : i3 a2 = i3 a2) (zm_rd (Z := Z104) (ν := ν) (k := 13) (rfl : ((a0b : Nat) : Int) = a0b) (show ((0 : Nat) : Int) = 0 from rfl) (show ((0 : Nat) : Int) = 0 from rfl))) (show (0 : Int32) = i3 0 from rfl) (by omega) (by omega) (by omega) (by omega)) (fun h107 => ?_) (fun h107 => ?_)
    · replace hP := zE_p hP h107
      have r108 := zH_f hZ104I 14 a0b 0 0
      have r109 := w3_r ((Z104 14 a0b 0 0) - (a2 * (Z104 13 a0b 0 0)))
      obtain ⟨Z110, hZ110⟩ := zx (zu Z104 14 a0b 0 0 (w3 ((Z104 14 a0b 0 0) - (a2 * (Z104 13 a0b 0 0)))))
      replace hP := zl_e hP hZ110
      have hZ110I := zH_u hZ104I hZ110 (lo := -2147483648) (hi := 2147483647) (by decide) rfl (by omega) ⟨by decide, by decide⟩ (Or.inl (by decide)) rfl
      have hZ110U : zU [a0b] Z Z110 := zU_u hZ104U hZ110 (Or.inr (List.Mem.head _))
      have hZ110K : zC [14, 44, 53, 1112] Z Z110 := zC_u hZ104K hZ110 (by decide)
      intro μ9 e9
      replace e9 := e9.trans (zm_wI (Z := Z104) (ν := ν) hZ110 (rfl : ((a0b : Nat) : Int) = a0b) (show ((0 : Nat) : Int) = 0 from rfl) (show ((0 : Nat) : Int) = 0 from rfl) (i3W (i3S (zm_rd (Z := Z104) (ν := ν) (k := 14) (rfl : ((a0b : Nat) : Int) = a0b) (show ((0 : Nat) : Int) = 0 from rfl) (show ((0 : Nat) : Int) = 0 from rfl)) (i3M (rfl : i3 a2 = i3 a2) (zm_rd (Z := Z104) (ν := ν) (k := 13) (rfl : ((a0b : Nat) : Int) = a0b) (show ((0 : Nat) : Int) = 0 from rfl) (show ((0 : Nat) : Int) = 0 from rfl))))))
      subst e9
      have r111 := zH_f hZ110I 14 a0b 0 6
      have r112 := w3_r ((Z110 14 a0b 0 6) + (a2 * (Z104 13 a0b 0 0)))
      obtain ⟨Z113, hZ113⟩ := zx (zu Z110 14 a0b 0 6 (w3 ((Z110 14 a0b 0 6) + (a2 * (Z104 13 a0b 0 0)))))
      replace hP := zl_e hP hZ113
      have hZ113I := zH_u hZ110I hZ113 (lo := -2147483648) (hi := 2147483647) (by decide) rfl (by omega) ⟨by decide, by decide⟩ (Or.inl (by decide)) rfl
      have hZ113U : zU [a0b] Z Z113 := zU_u hZ110U hZ113 (Or.inr (List.Mem.head _))
      have hZ113K : zC [14, 44, 53, 1112] Z Z113 := zC_u hZ110K hZ113 (by decide)
      intro μ9 e9
      replace e9 := e9.trans (zm_wI (Z := Z110) (ν := ν) hZ113 (rfl : ((a0b : Nat) : Int) = a0b) (show ((0 : Nat) : Int) = 0 from rfl) (show ((6 : Nat) : Int) = 6 from rfl) (i3W (i3A (zm_rd (Z := Z110) (ν := ν) (k := 14) (rfl : ((a0b : Nat) : Int) = a0b) (show ((0 : Nat) : Int) = 0 from rfl) (show ((6 : Nat) : Int) = 6 from rfl)) (i3M (rfl : i3 a2 = i3 a2) (zm_rd (Z := Z104) (ν := ν) (k := 13) (rfl : ((a0b : Nat) : Int) = a0b) (show ((0 : Nat) : Int) = 0 from rfl) (show ((0 : Nat) : Int) = 0 from rfl))))))
      subst e9
      have r114 := zH_c12 hZ113I a0b (zbh (c := 0) (k := 0) hM (Nat.le_of_ble_eq_true rfl))
      refine wz_i0 (i3O (n := 60) (i3R (zm_rd (Z := Z113) (ν := ν) (k := 11) (rfl : ((a0b : Nat) : Int) = a0b) (show ((0 : Nat) : Int) = 0 from rfl) (show ((12 : Nat) : Int) = 12 from rfl)) (show (60 : Int32) = i3 60 from rfl) (by omega) (by omega) (by omega) (by omega)) (by omega) (by omega) (by omega)) ?_
      obtain ⟨Z115, hZ115⟩ := zx (zu Z113 53 a0b ((Z113 11 a0b 0 12) % 60) 0 0)
      replace hP := zl_e hP hZ115
      have hZ115I := zH_0 hZ113I hZ115 (by decide) (Or.inl (by decide))
      have hZ115U : zU [a0b] Z Z115 := zU_u hZ113U hZ115 (Or.inr (List.Mem.head _))
      have hZ115K : zC [14, 44, 53, 1112] Z Z115 := zC_u hZ113K hZ115 (by decide)
      intro μ9 e9
      replace e9 := e9.trans (zm_wI (Z := Z113) (ν := ν) hZ115 (rfl : ((a0b : Nat) : Int) = a0b) (i3I (y := ((Z113 11 a0b 0 12) % 60)) (i3R (zm_rd (Z := Z113) (ν := ν) (k := 11) (rfl : ((a0b : Nat) : Int) = a0b) (show ((0 : Nat) : Int) = 0 from rfl) (show ((12 : Nat) : Int) = 12 from rfl)) (show (60 : Int32) = i3 60 from rfl) (by omega) (by omega) (by omega) (by omega)) (by omega) (by omega) (by omega)) (show ((0 : Nat) : Int) = 0 from rfl) (show (0 : Int32) = i3 0 from rfl))
      subst e9
      obtain ⟨Z116, hZ116⟩ := zx (zu Z115 53 a0b ((Z113 11 a0b 0 12) % 60) 1 6)
      replace hP := zl_e hP hZ116
      have hZ116I := zH_u hZ115I hZ116 (lo := -2147483648) (hi := 2147483647) (by decide) rfl (by omega) ⟨by decide, by decide⟩ (Or.inl (by decide)) rfl
      have hZ116U : zU [a0b] Z Z116 := zU_u hZ115U hZ116 (Or.inr (List.Mem.head _))
      have hZ116K : zC [14, 44, 53, 1112] Z Z116 := zC_u hZ115K hZ116 (by decide)
      intro μ9 e9
      replace e9 := e9.trans (zm_wI (Z := Z115) (ν := ν) hZ116 (rfl : ((a0b : Nat) : Int) = a0b) (i3I (y := ((Z113 11 a0b 0 12) % 60)) (i3R (zm_rd (Z := Z113) (ν := ν) (k := 11) (rfl : ((a0b : Nat) : Int) = a0b) (show ((0 : Nat) : Int) = 0 from rfl) (show ((12 : Nat) : Int) = 12 from rfl)) (show (60 : Int32) = i3 60 from rfl) (by omega) (by omega) (by omega) (by omega)) (by omega) (by omega) (by omega)) (show ((1 : Nat) : Int) = 1 from rfl) (show (6 : Int32) = i3 6 from rfl))
      subst e9
      obtain ⟨Z117, hZ117⟩ := zx (zu Z116 53 a0b ((Z113 11 a0b 0 12) % 60) 2 (a2 * (Z104 13 a0b 0 0)))
      replace hP := zl_e hP hZ117
      have hZ117I := zH_u hZ116I hZ117 (lo := -2147483648) (hi := 2147483647) (by decide) rfl (by omega) ⟨by decide, by decide⟩ (Or.inl (by decide)) rfl
      have hZ117U : zU [a0b] Z Z117 := zU_u hZ116U hZ117 (Or.inr (List.Mem.head _))
      have hZ117K : zC [14, 44, 53, 1112] Z Z117 := zC_u hZ116K hZ117 (by decide)
      intro μ9 e9
      replace e9 := e9.trans (zm_wI (Z := Z116) (ν := ν) hZ117 (rfl : ((a0b : Nat) : Int) = a0b) (i3I (y := ((Z113 11 a0b 0 12) % 60)) (i3R (zm_rd (Z := Z113) (ν := ν) (k := 11) (rfl : ((a0b : Nat) : Int) = a0b) (show ((0 : Nat) : Int) = 0 from rfl) (show ((12 : Nat) : Int) = 12 from rfl)) (show (60 : Int32) = i3 60 from rfl) (by omega) (by omega) (by omega) (by omega)) (by omega) (by omega) (by omega)) (show ((2 : Nat) : Int) = 2 from rfl) (i3M (rfl : i3 a2 = i3 a2) (zm_rd (Z := Z104) (ν := ν) (k := 13) (rfl : ((a0b : Nat) : Int) = a0b) (show ((0 : Nat) : Int) = 0 from rfl) (show ((0 : Nat) : Int) = 0 from rfl))))
      subst e9
      obtain ⟨Z118, hZ118⟩ := zx (zu Z117 53 a0b ((Z113 11 a0b 0 12) % 60) 3 a1)
      replace hP := zl_e hP hZ118
      have hZ118I := zH_u hZ117I hZ118 (lo := -2147483648) (hi := 2147483647) (by decide) rfl (by omega) ⟨by decide, by decide⟩ (Or.inl (by decide)) rfl
      have hZ118U : zU [a0b] Z Z118 := zU_u hZ117U hZ118 (Or.inr (List.Mem.head _))
      have hZ118K : zC [14, 44, 53, 1112] Z Z118 := zC_u hZ117K hZ118 (by decide)
      intro μ9 e9
      replace e9 := e9.trans (zm_wI (Z := Z117) (ν := ν) hZ118 (rfl : ((a0b : Nat) : Int) = a0b) (i3I (y := ((Z113 11 a0b 0 12) % 60)) (i3R (zm_rd (Z := Z113) (ν := ν) (k := 11) (rfl : ((a0b : Nat) : Int) = a0b) (show ((0 : Nat) : Int) = 0 from rfl) (show ((12 : Nat) : Int) = 12 from rfl)) (show (60 : Int32) = i3 60 from rfl) (by omega) (by omega) (by omega) (by omega)) (by omega) (by omega) (by omega)) (show ((3 : Nat) : Int) = 3 from rfl) (rfl : i3 a1 = i3 a1))
      subst e9
      have r119 := zH_k hZ118I 11 a0b 0 13 (lo := 0) (hi := 671) (by decide) rfl
      obtain ⟨Z120, hZ120⟩ := zx (zu Z118 53 a0b ((Z113 11 a0b 0 12) % 60) 4 (Z118 11 a0b 0 13))
      replace hP := zl_e hP hZ120
      have hZ120I := zH_u hZ118I hZ120 (lo := -2147483648) (hi := 2147483647) (by decide) rfl (by omega) ⟨by decide, by decide⟩ (Or.inl (by decide)) rfl
      have hZ120U : zU [a0b] Z Z120 := zU_u hZ118U hZ120 (Or.inr (List.Mem.head _))
      have hZ120K : zC [14, 44, 53, 1112] Z Z120 := zC_u hZ118K hZ120 (by decide)
      intro μ9 e9
      replace e9 := e9.trans (zm_wI (Z := Z118) (ν := ν) hZ120 (rfl : ((a0b : Nat) : Int) = a0b) (i3I (y := ((Z113 11 a0b 0 12) % 60)) (i3R (zm_rd (Z := Z113) (ν := ν) (k := 11) (rfl : ((a0b : Nat) : Int) = a0b) (show ((0 : Nat) : Int) = 0 from rfl) (show ((12 : Nat) : Int) = 12 from rfl)) (show (60 : Int32) = i3 60 from rfl) (by omega) (by omega) (by omega) (by omega)) (by omega) (by omega) (by omega)) (show ((4 : Nat) : Int) = 4 from rfl) (zm_rd (Z := Z118) (ν := ν) (k := 11) (rfl : ((a0b : Nat) : Int) = a0b) (show ((0 : Nat) : Int) = 0 from rfl) (show ((13 : Nat) : Int) = 13 from rfl)))
      subst e9
      have r121 := zH_c12 hZ120I a0b (zbh (c := 0) (k := 0) hM (Nat.le_of_ble_eq_true rfl))
      have q122 := (zu_ne (k' := 11) (b' := a0b) (i' := 0) (j' := 12) hZ120 (fun q => absurd q.1 (by decide))).trans ((zu_ne (k' := 11) (b' := a0b) (i' := 0) (j' := 12) hZ118 (fun q => absurd q.1 (by decide))).trans ((zu_ne (k' := 11) (b' := a0b) (i' := 0) (j' := 12) hZ117 (fun q => absurd q.1 (by decide))).trans ((zu_ne (k' := 11) (b' := a0b) (i' := 0) (j' := 12) hZ116 (fun q => absurd q.1 (by decide))).trans (zu_ne (k' := 11) (b' := a0b) (i' := 0) (j' := 12) hZ115 (fun q => absurd q.1 (by decide))))))
      obtain ⟨Z123, hZ123⟩ := zx (zu Z120 11 a0b 0 12 ((Z120 11 a0b 0 12) + 1))
      replace hP := zl_e hP hZ123
      have hZ123I := zH_i12 hZ120I hZ123 (zbh (c := 0) (k := 1) hM (Nat.le_of_ble_eq_true rfl)) (by omega)
      have hZ123U : zU [a0b] Z Z123 := zU_u hZ120U hZ123 (Or.inr (List.Mem.head _))
      have hZ123K : zC [14, 44, 53, 1112] Z Z123 := zC_u hZ120K hZ123 (by decide)
      intro μ9 e9
      replace e9 := e9.trans (zm_wI (Z := Z120) (ν := ν) hZ123 (rfl : ((a0b : Nat) : Int) = a0b) (show ((0 : Nat) : Int) = 0 from rfl) (show ((12 : Nat) : Int) = 12 from rfl) (i3A (zm_rd (Z := Z120) (ν := ν) (k := 11) (rfl : ((a0b : Nat) : Int) = a0b) (show ((0 : Nat) : Int) = 0 from rfl) (show ((12 : Nat) : Int) = 12 from rfl)) (show (1 : Int32) = i3 1 from rfl)))
      subst e9
      have r124 := zH_k hZ123I 44 a0b a1 9 (lo := -1) (hi := 3) (by decide) rfl
      have q125 := (zu_ne (k' := 44) (b' := a0b) (i' := a1) (j' := 9) hZ123 (fun q => absurd q.1 (by decide))).trans ((zu_ne (k' := 44) (b' := a0b) (i' := a1) (j' := 9) hZ120 (fun q => absurd q.1 (by decide))).trans ((zu_ne (k' := 44) (b' := a0b) (i' := a1) (j' := 9) hZ118 (fun q => absurd q.1 (by decide))).trans ((zu_ne (k' := 44) (b' := a0b) (i' := a1) (j' := 9) hZ117 (fun q => absurd q.1 (by decide))).trans ((zu_ne (k' := 44) (b' := a0b) (i' := a1) (j' := 9) hZ116 (fun q => absurd q.1 (by decide))).trans ((zu_ne (k' := 44) (b' := a0b) (i' := a1) (j' := 9) hZ115 (fun q => absurd q.1 (by decide))).trans ((zu_ne (k' := 44) (b' := a0b) (i' := a1) (j' := 9) hZ113 (fun q => absurd q.1 (by decide))).trans ((zu_ne (k' := 44) (b' := a0b) (i' := a1) (j' := 9) hZ110 (fun q => absurd q.1 (by decide))).trans ((zu_ne (k' := 44) (b' := a0b) (i' := a1) (j' := 9) hZ104 (fun q => absurd q.2.2.2 (by decide))).trans ((zu_ne (k' := 44) (b' := a0b) (i' := a1) (j' := 9) hZ103 (fun q => absurd q.2.2.2 (by decide))).trans (zu_at hZ100))))))))))
      exact zlW hP (zm_rd (Z := Z123) (ν := ν) (k := 44) (rfl : ((a0b : Nat) : Int) = a0b) (i3I (y := a1) (rfl : i3 a1 = i3 a1) (by omega) (by omega) (by omega)) (show ((9 : Nat) : Int) = 9 from rfl)) ⟨hZ123I, hZ123K, hZ123U, by omega, by omega⟩
    · replace hP := zE_n hP h107
      have r126 := zH_k hZ104I 44 a0b a1 9 (lo := -1) (hi := 3) (by decide) rfl
      have q127 := (zu_ne (k' := 44) (b' := a0b) (i' := a1) (j' := 9) hZ104 (fun q => absurd q.2.2.2 (by decide))).trans ((zu_ne (k' := 44) (b' := a0b) (i' := a1) (j' := 9) hZ103 (fun q => absurd q.2.2.2 (by decide))).trans (zu_at hZ100))
      exact zlW hP (zm_rd (Z := Z104) (ν := ν) (k := 44) (rfl : ((a0b : Nat) : Int) = a0b) (i3I (y := a1) (rfl : i3 a1 = i3 a1) (by omega) (by omega) (by omega)) (show ((9 : Nat) : Int) = 9 from rfl)) ⟨(zbw (a := 0) (c := 1) hZ104I (Nat.le_of_ble_eq_true rfl)), hZ104K, hZ104U, by omega, by omega⟩
/- yX1_enterLost -/
def zf_20 (Z : qz_Z) (a0b : Int) (a1b : Int) (a1ij : Int) : qz_Z := (zlet (zu Z 45 a0b (Z 47 a1b a1ij 1) 3 (w3 ((Z 45 a0b (Z 47 a1b a1ij 1) 3) + (w3 ((Z 47 a1b a1ij 18) - (Z 47 a1b a1ij 19)))))) (fun Z8 => (zlet (zu Z8 45 a0b (Z 47 a1b a1ij 1) 4 (w3 ((Z8 45 a0b (Z 47 a1b a1ij 1) 4) - (Z8 47 a1b a1ij 19)))) (fun Z13 => (zlet (zu Z13 47 a1b a1ij 19 0) (fun Z14 => (zlet (zu Z14 45 a0b (Z 47 a1b a1ij 1) 11 (w3 ((Z14 45 a0b (Z 47 a1b a1ij 1) 11) + (Z14 47 a1b a1ij 3)))) (fun Z18 => (if (Z18 46 a0b (Z 47 a1b a1ij 2) 7) ≠ 0 then Z18 else (zlet (zu Z18 46 a0b (Z 47 a1b a1ij 2) 6 (min ((Z18 46 a0b (Z 47 a1b a1ij 2) 6) + (Z18 47 a1b a1ij 3)) (Z18 46 a0b (Z 47 a1b a1ij 2) 3))) (fun Z25 => Z25)))))))))))
theorem sp_20 {s : zSM} {Z : qz_Z} {ν : qz_N} (hZ : zH s Z) (a0b : Nat) (a1b : Nat) (a1i : Nat) {a1ij : Int} (ea1i : (a1i : Int) = a1ij) (ga1i : 0 ≤ a1ij ∧ a1ij ≤ 59) (hM : s.2 + 0 ≤ 1000000000) : ∃ P : qz_Z, P = zf_20 Z a0b a1b a1ij ∧ (qf_20 [.inr (.inr (some (10, a0b, 0))), .inr (.inr (some (47, a1b, a1i)))] (zm Z ν) = some (zm P ν, .inl none) ∧ zH s P ∧ zC [45, 46, 47] Z P ∧ zU [a0b, a1b] Z P) := by
  obtain ⟨P, hP⟩ := zx (zf_20 Z a0b a1b a1ij)
  refine zc_V (Q := fun P => zH s P ∧ zC [45, 46, 47] Z P ∧ zU [a0b, a1b] Z P) hP (fw_20 a0b a1b a1i _ _ ?_)
  replace hP : zE P (zf_20 Z a0b a1b a1ij) := hP
  unfold zf_20 at hP
  have r1 := zH_k hZ 47 a1b a1ij 1 (lo := 0) (hi := 7) (by decide) rfl
  refine wz_i0 (i3O (n := 8) (zm_rd (Z := Z) (ν := ν) (k := 47) (rfl : ((a1b : Nat) : Int) = a1b) ea1i (show ((1 : Nat) : Int) = 1 from rfl)) (by omega) (by omega) (by omega)) ?_
  have r2 := zH_k hZ 47 a1b a1ij 2 (lo := 0) (hi := 23) (by decide) rfl
  refine wz_i0 (i3O (n := 24) (zm_rd (Z := Z) (ν := ν) (k := 47) (rfl : ((a1b : Nat) : Int) = a1b) ea1i (show ((2 : Nat) : Int) = 2 from rfl)) (by omega) (by omega) (by omega)) ?_
  have r3 := zH_f hZ 45 a0b (Z 47 a1b a1ij 1) 3
  have r4 := zH_k hZ 47 a1b a1ij 18 (lo := 0) (hi := 399960) (by decide) rfl
  have r5 := zH_f hZ 47 a1b a1ij 19
  have r6 := w3_r ((Z 47 a1b a1ij 18) - (Z 47 a1b a1ij 19))
  have r7 := w3_r ((Z 45 a0b (Z 47 a1b a1ij 1) 3) + (w3 ((Z 47 a1b a1ij 18) - (Z 47 a1b a1ij 19))))
  obtain ⟨Z8, hZ8⟩ := zx (zu Z 45 a0b (Z 47 a1b a1ij 1) 3 (w3 ((Z 45 a0b (Z 47 a1b a1ij 1) 3) + (w3 ((Z 47 a1b a1ij 18) - (Z 47 a1b a1ij 19))))))
  replace hP := zl_e hP hZ8
  have hZ8I := zH_u hZ hZ8 (lo := -2147483648) (hi := 2147483647) (by decide) rfl (by omega) ⟨by decide, by decide⟩ (Or.inl (by decide)) rfl
  have hZ8U : zU [a0b, a1b] Z Z8 := zU_u zU_r hZ8 (Or.inr (List.Mem.head _))
  have hZ8K : zC [45, 46, 47] Z Z8 := zC_u zC_r hZ8 (by decide)
  intro μ9 e9
  replace e9 := e9.trans (zm_wI (Z := Z) (ν := ν) hZ8 (rfl : ((a0b : Nat) : Int) = a0b) (i3I (y := (Z 47 a1b a1ij 1)) (zm_rd (Z := Z) (ν := ν) (k := 47) (rfl : ((a1b : Nat) : Int) = a1b) ea1i (show ((1 : Nat) : Int) = 1 from rfl)) (by omega) (by omega) (by omega)) (show ((3 : Nat) : Int) = 3 from rfl) (i3W (i3A (zm_rd (Z := Z) (ν := ν) (k := 45) (rfl : ((a0b : Nat) : Int) = a0b) (i3I (y := (Z 47 a1b a1ij 1)) (zm_rd (Z := Z) (ν := ν) (k := 47) (rfl : ((a1b : Nat) : Int) = a1b) ea1i (show ((1 : Nat) : Int) = 1 from rfl)) (by omega) (by omega) (by omega)) (show ((3 : Nat) : Int) = 3 from rfl)) (i3W (i3S (zm_rd (Z := Z) (ν := ν) (k := 47) (rfl : ((a1b : Nat) : Int) = a1b) ea1i (show ((18 : Nat) : Int) = 18 from rfl)) (zm_rd (Z := Z) (ν := ν) (k := 47) (rfl : ((a1b : Nat) : Int) = a1b) ea1i (show ((19 : Nat) : Int) = 19 from rfl)))))))
  subst e9
  have r9 := zH_f hZ8I 45 a0b (Z 47 a1b a1ij 1) 4
  have r10 := zH_f hZ8I 47 a1b a1ij 19
  have q11 := zu_ne (k' := 47) (b' := a1b) (i' := a1ij) (j' := 19) hZ8 (fun q => absurd q.1 (by decide))
  have r12 := w3_r ((Z8 45 a0b (Z 47 a1b a1ij 1) 4) - (Z8 47 a1b a1ij 19))
  obtain ⟨Z13, hZ13⟩ := zx (zu Z8 45 a0b (Z 47 a1b a1ij 1) 4 (w3 ((Z8 45 a0b (Z 47 a1b a1ij 1) 4) - (Z8 47 a1b a1ij 19))))
  replace hP := zl_e hP hZ13
  have hZ13I := zH_u hZ8I hZ13 (lo := -2147483648) (hi := 2147483647) (by decide) rfl (by omega) ⟨by decide, by decide⟩ (Or.inl (by decide)) rfl
  have hZ13U : zU [a0b, a1b] Z Z13 := zU_u hZ8U hZ13 (Or.inr (List.Mem.head _))
  have hZ13K : zC [45, 46, 47] Z Z13 := zC_u hZ8K hZ13 (by decide)
  intro μ9 e9
  replace e9 := e9.trans (zm_wI (Z := Z8) (ν := ν) hZ13 (rfl : ((a0b : Nat) : Int) = a0b) (i3I (y := (Z 47 a1b a1ij 1)) (zm_rd (Z := Z) (ν := ν) (k := 47) (rfl : ((a1b : Nat) : Int) = a1b) ea1i (show ((1 : Nat) : Int) = 1 from rfl)) (by omega) (by omega) (by omega)) (show ((4 : Nat) : Int) = 4 from rfl) (i3W (i3S (zm_rd (Z := Z8) (ν := ν) (k := 45) (rfl : ((a0b : Nat) : Int) = a0b) (i3I (y := (Z 47 a1b a1ij 1)) (zm_rd (Z := Z) (ν := ν) (k := 47) (rfl : ((a1b : Nat) : Int) = a1b) ea1i (show ((1 : Nat) : Int) = 1 from rfl)) (by omega) (by omega) (by omega)) (show ((4 : Nat) : Int) = 4 from rfl)) (zm_rd (Z := Z8) (ν := ν) (k := 47) (rfl : ((a1b : Nat) : Int) = a1b) ea1i (show ((19 : Nat) : Int) = 19 from rfl)))))
  subst e9
  obtain ⟨Z14, hZ14⟩ := zx (zu Z13 47 a1b a1ij 19 0)
  replace hP := zl_e hP hZ14
  have hZ14I := zH_0 hZ13I hZ14 (by decide) (Or.inl (by decide))
  have hZ14U : zU [a0b, a1b] Z Z14 := zU_u hZ13U hZ14 (Or.inr (List.Mem.tail _ (List.Mem.head _)))
  have hZ14K : zC [45, 46, 47] Z Z14 := zC_u hZ13K hZ14 (by decide)
  intro μ9 e9
  replace e9 := e9.trans (zm_wI (Z := Z13) (ν := ν) hZ14 (rfl : ((a1b : Nat) : Int) = a1b) ea1i (show ((19 : Nat) : Int) = 19 from rfl) (show (0 : Int32) = i3 0 from rfl))
  subst e9
  have r15 := zH_f hZ14I 45 a0b (Z 47 a1b a1ij 1) 11
  have r16 := zH_k hZ14I 47 a1b a1ij 3 (lo := 0) (hi := 40) (by decide) rfl
  have r17 := w3_r ((Z14 45 a0b (Z 47 a1b a1ij 1) 11) + (Z14 47 a1b a1ij 3))
  obtain ⟨Z18, hZ18⟩ := zx (zu Z14 45 a0b (Z 47 a1b a1ij 1) 11 (w3 ((Z14 45 a0b (Z 47 a1b a1ij 1) 11) + (Z14 47 a1b a1ij 3))))
  replace hP := zl_e hP hZ18
  have hZ18I := zH_u hZ14I hZ18 (lo := -2147483648) (hi := 2147483647) (by decide) rfl (by omega) ⟨by decide, by decide⟩ (Or.inl (by decide)) rfl
  have hZ18U : zU [a0b, a1b] Z Z18 := zU_u hZ14U hZ18 (Or.inr (List.Mem.head _))
  have hZ18K : zC [45, 46, 47] Z Z18 := zC_u hZ14K hZ18 (by decide)
  intro μ9 e9
  replace e9 := e9.trans (zm_wI (Z := Z14) (ν := ν) hZ18 (rfl : ((a0b : Nat) : Int) = a0b) (i3I (y := (Z 47 a1b a1ij 1)) (zm_rd (Z := Z) (ν := ν) (k := 47) (rfl : ((a1b : Nat) : Int) = a1b) ea1i (show ((1 : Nat) : Int) = 1 from rfl)) (by omega) (by omega) (by omega)) (show ((11 : Nat) : Int) = 11 from rfl) (i3W (i3A (zm_rd (Z := Z14) (ν := ν) (k := 45) (rfl : ((a0b : Nat) : Int) = a0b) (i3I (y := (Z 47 a1b a1ij 1)) (zm_rd (Z := Z) (ν := ν) (k := 47) (rfl : ((a1b : Nat) : Int) = a1b) ea1i (show ((1 : Nat) : Int) = 1 from rfl)) (by omega) (by omega) (by omega)) (show ((11 : Nat) : Int) = 11 from rfl)) (zm_rd (Z := Z14) (ν := ν) (k := 47) (rfl : ((a1b : Nat) : Int) = a1b) ea1i (show ((3 : Nat) : Int) = 3 from rfl)))))
  subst e9
  have r19 := zH_k hZ18I 46 a0b (Z 47 a1b a1ij 2) 7 (lo := 0) (hi := 1) (by decide) rfl
  refine wz_br (i3NE (zm_rd (Z := Z18) (ν := ν) (k := 46) (rfl : ((a0b : Nat) : Int) = a0b) (i3I (y := (Z 47 a1b a1ij 2)) (zm_rd (Z := Z) (ν := ν) (k := 47) (rfl : ((a1b : Nat) : Int) = a1b) ea1i (show ((2 : Nat) : Int) = 2 from rfl)) (by omega) (by omega) (by omega)) (show ((7 : Nat) : Int) = 7 from rfl)) (show (0 : Int32) = i3 0 from rfl) (by omega) (by omega) (by omega) (by omega)) (fun h20 => ?_) (fun h20 => ?_)
  · replace hP := zE_p hP h20
    exact zlV hP ⟨hZ18I, hZ18K, hZ18U⟩
  · replace hP := zE_n hP h20
    have r21 := zH_k hZ18I 46 a0b (Z 47 a1b a1ij 2) 6 (lo := 0) (hi := 99) (by decide) rfl
    have r22 := zH_k hZ18I 47 a1b a1ij 3 (lo := 0) (hi := 40) (by decide) rfl
    have q23 := zu_ne (k' := 47) (b' := a1b) (i' := a1ij) (j' := 3) hZ18 (fun q => absurd q.1 (by decide))
    have r24 := zH_k hZ18I 46 a0b (Z 47 a1b a1ij 2) 3 (lo := 0) (hi := 99) (by decide) rfl
    obtain ⟨Z25, hZ25⟩ := zx (zu Z18 46 a0b (Z 47 a1b a1ij 2) 6 (min ((Z18 46 a0b (Z 47 a1b a1ij 2) 6) + (Z18 47 a1b a1ij 3)) (Z18 46 a0b (Z 47 a1b a1ij 2) 3)))
    replace hP := zl_e hP hZ25
    have hZ25I := zH_u hZ18I hZ25 (lo := 0) (hi := 99) (by decide) rfl (by omega) ⟨by decide, by decide⟩ (Or.inl (by decide)) rfl
    have hZ25U : zU [a0b, a1b] Z Z25 := zU_u hZ18U hZ25 (Or.inr (List.Mem.head _))
    have hZ25K : zC [45, 46, 47] Z Z25 := zC_u hZ18K hZ25 (by decide)
    intro μ9 e9
    replace e9 := e9.trans (zm_wI (Z := Z18) (ν := ν) hZ25 (rfl : ((a0b : Nat) : Int) = a0b) (i3I (y := (Z 47 a1b a1ij 2)) (zm_rd (Z := Z) (ν := ν) (k := 47) (rfl : ((a1b : Nat) : Int) = a1b) ea1i (show ((2 : Nat) : Int) = 2 from rfl)) (by omega) (by omega) (by omega)) (show ((6 : Nat) : Int) = 6 from rfl) (i3Mn (i3A (zm_rd (Z := Z18) (ν := ν) (k := 46) (rfl : ((a0b : Nat) : Int) = a0b) (i3I (y := (Z 47 a1b a1ij 2)) (zm_rd (Z := Z) (ν := ν) (k := 47) (rfl : ((a1b : Nat) : Int) = a1b) ea1i (show ((2 : Nat) : Int) = 2 from rfl)) (by omega) (by omega) (by omega)) (show ((6 : Nat) : Int) = 6 from rfl)) (zm_rd (Z := Z18) (ν := ν) (k := 47) (rfl : ((a1b : Nat) : Int) = a1b) ea1i (show ((3 : Nat) : Int) = 3 from rfl))) (zm_rd (Z := Z18) (ν := ν) (k := 46) (rfl : ((a0b : Nat) : Int) = a0b) (i3I (y := (Z 47 a1b a1ij 2)) (zm_rd (Z := Z) (ν := ν) (k := 47) (rfl : ((a1b : Nat) : Int) = a1b) ea1i (show ((2 : Nat) : Int) = 2 from rfl)) (by omega) (by omega) (by omega)) (show ((3 : Nat) : Int) = 3 from rfl)) (by omega) (by omega) (by omega) (by omega)))
    subst e9
    exact zlV hP ⟨hZ25I, hZ25K, hZ25U⟩
/- yX5_takeAway -/
def zl_105_1 (x0b : Int) (x3ij : Int) (x1 : Int) (x4 : Int) : Nat → qz_Z → Int → qz_Z × Int
  | 0, Z, x5 => (Z, x5)
  | m + 1, Z, x5 => (if (Z 11 x0b 0 6) ≤ x5 then (Z, x5) else (if (Z 47 x0b x5 0) ≠ x1 then zl_105_1 x0b x3ij x1 x4 m Z (x5 + 1) else (if (Z 47 x0b x5 9) ≠ 0 then zl_105_1 x0b x3ij x1 x4 m Z (x5 + 1) else (zlet (zu Z 47 x0b x5 9 3) (fun Z8 => (zlet (zu Z8 47 x0b x5 11 (Z8 44 x0b x3ij 7)) (fun Z11 => (zlet (zu Z11 47 x0b x5 12 (Z11 44 x0b x3ij 8)) (fun Z13 => (zlet (zu Z13 47 x0b x5 17 (Z13 11 x0b 0 13)) (fun Z15 => (zlet (zf_20 Z15 x0b x0b x5) (fun Z16 => (if (Z16 47 x0b x5 18) ≠ 0 then (zlet (zu Z16 14 x0b 0 1 (w3 ((Z16 14 x0b 0 1) - (Z16 47 x0b x5 18)))) (fun Z21 => (zlet (zu Z21 14 x0b 0 8 (w3 ((Z21 14 x0b 0 8) + (Z16 47 x0b x5 18)))) (fun Z24 => (zlet (zu Z24 53 x0b ((Z24 11 x0b 0 12) % 60) 0 1) (fun Z26 => (zlet (zu Z26 53 x0b ((Z24 11 x0b 0 12) % 60) 1 8) (fun Z27 => (zlet (zu Z27 53 x0b ((Z24 11 x0b 0 12) % 60) 2 (Z16 47 x0b x5 18)) (fun Z28 => (zlet (zu Z28 53 x0b ((Z24 11 x0b 0 12) % 60) 3 x1) (fun Z29 => (zlet (zu Z29 53 x0b ((Z24 11 x0b 0 12) % 60) 4 (Z29 11 x0b 0 13)) (fun Z32 => (zlet (zu Z32 11 x0b 0 12 ((Z32 11 x0b 0 12) + 1)) (fun Z35 => zl_105_1 x0b x3ij x1 x4 m Z35 (x5 + 1))))))))))))))))) else zl_105_1 x0b x3ij x1 x4 m Z16 (x5 + 1)))))))))))))))
theorem sl_105_1 {s : zSM} {xM9 : Nat} {Zs Z : qz_Z} {ν : qz_N} (hZ : zH (zb s xM9) Z) (hM : s.2 + 61 ≤ 1000000000) (hK : zC [14, 45, 46, 47, 53, 1112] Zs Z) (x0b : Nat) (x3i : Nat) {x3ij : Int} (ex3i : (x3i : Int) = x3ij) (gx3ij : 0 ≤ x3ij ∧ x3ij ≤ 47) {x1 : Int} (gx1 : 0 ≤ x1 ∧ x1 ≤ 47) {x4 : Int} (gx4 : 0 ≤ x4 ∧ x4 ≤ 40) {x5 : Int} (gx5 : 0 ≤ x5 ∧ x5 ≤ 60) (hU : zU [x0b] Zs Z) (hx9 : xM9 + 1 * ((60 - x5).toNat) + 1 ≤ 61) {k : wz_K} {R : wz_R} {L : qz_L} (hL : qz_fg [true, true, false, true, true, true, false] L = [some (.inr (.inr (some (10, x0b, 0)))), some (.inl (i3 x1)), none, some (.inr (.inr (some (44, x0b, x3i)))), some (.inl (i3 x4)), some (.inl (i3 x5)), none]) {T : qz_Z × Int} (hP : zE T (zl_105_1 x0b x3ij x1 x4 ((60 - x5).toNat + 1) Z x5)) (hk : ∀ (L9 : qz_L) (Z9 : qz_Z) (yx5 : Int), qz_fg [false, false, false, false, true, false, false] L9 = [none, none, none, none, some (.inl (i3 x4)), none, none] → zH (zb s 61) Z9 → zC [14, 45, 46, 47, 53, 1112] Zs Z9 → zU [x0b] Zs Z9 → (0 ≤ yx5 ∧ yx5 ≤ 60) → zE T ((Z9, yx5)) → k 0 (L9, [], zm Z9 ν)) : wz_loop qb_105_1 65536 k R (L, [], zm Z ν) := by
  refine wz_lp sb_105_1 (fun m x => ∃ xM9 : Nat, ∃ Z : qz_Z, ∃ x5 : Int, qz_fg [true, true, false, true, true, true, false] x.1 = [some (.inr (.inr (some (10, x0b, 0)))), some (.inl (i3 x1)), none, some (.inr (.inr (some (44, x0b, x3i)))), some (.inl (i3 x4)), some (.inl (i3 x5)), none] ∧ x.2 = ([], zm Z ν) ∧ xM9 + 1 * m + 1 ≤ 61 ∧ zH (zb s xM9) Z ∧ zC [14, 45, 46, 47, 53, 1112] Zs Z ∧ zU [x0b] Zs Z ∧ m = (60 - x5).toNat ∧ (0 ≤ x5 ∧ x5 ≤ 60) ∧ zE T (zl_105_1 x0b x3ij x1 x4 (m + 1) Z x5)) ?_ 65536 ((60 - x5).toNat) _ (by omega) ⟨xM9, Z, x5, hL, rfl, hx9, hZ, hK, hU, rfl, gx5, hP⟩
  clear hP gx5 hx9 hZ hK hU hL
  clear x5
  clear Z
  clear xM9
  rintro m ⟨L, st, μ⟩ ⟨xM9, Z, x5, hL, hx, hx9, hZ, hK, hU, hm, gx5, hP⟩
  cases hx
  have hM9 : (zb s xM9).2 + 1 ≤ 1000000000 := by
    show s.2 + xM9 + 1 ≤ 1000000000
    omega
  refine fb_105_1 x0b (i3 x1) x3i (i3 x4) (i3 x5) _ _ _ _ hL ?_
  have r1 := zH_k hZ 11 x0b 0 6 (lo := 0) (hi := 60) (by decide) rfl
  refine wz_br (i3Le (zm_rd (Z := Z) (ν := ν) (k := 11) (rfl : ((x0b : Nat) : Int) = x0b) (show ((0 : Nat) : Int) = 0 from rfl) (show ((6 : Nat) : Int) = 6 from rfl)) (rfl : i3 x5 = i3 x5) (by omega) (by omega) (by omega) (by omega)) (fun h2 => ?_) (fun h2 => ?_)
  · replace hP := zE_p hP h2
    exact hk _ _ _ (zconso rfl (zconso rfl (zconso rfl (zconso rfl (zconso (zvo (rfl : i3 x4 = i3 x4)) (zconso rfl (zconso rfl rfl))))))) (zbx0 hZ (by omega)) hK hU (by omega)  hP
  · replace hP := zE_n hP h2
    refine wz_i0 (i3O (n := 60) (rfl : i3 x5 = i3 x5) (by omega) (by omega) (by omega)) ?_
    have r3 := zH_k hZ 47 x0b x5 0 (lo := 0) (hi := 47) (by decide) rfl
    refine wz_br (i3NE (zm_rd (Z := Z) (ν := ν) (k := 47) (rfl : ((x0b : Nat) : Int) = x0b) (i3I (y := x5) (rfl : i3 x5 = i3 x5) (by omega) (by omega) (by omega)) (show ((0 : Nat) : Int) = 0 from rfl)) (rfl : i3 x1 = i3 x1) (by omega) (by omega) (by omega) (by omega)) (fun h4 => ?_) (fun h4 => ?_)
    · replace hP := zE_p hP h4
      obtain ⟨m2, rfl⟩ : ∃ m2, m = m2 + 1 := ⟨m - 1, by omega⟩
      exact wz_k1 ⟨m2, by omega, xM9, Z, (x5 + 1), (zconso rfl (zconso (zvo (rfl : i3 x1 = i3 x1)) (zconso rfl (zconso rfl (zconso (zvo (rfl : i3 x4 = i3 x4)) (zconso (zvo (i3A (rfl : i3 x5 = i3 x5) (show (1 : Int32) = i3 1 from rfl))) (zconso rfl rfl))))))), rfl, by omega, hZ, hK, hU, by omega, by omega,  hP⟩
    · replace hP := zE_n hP h4
      have r5 := zH_k hZ 47 x0b x5 9 (lo := 0) (hi := 3) (by decide) rfl
      have r6 := zH_lt hZ x0b x5
      refine wz_br (i3NE (zm_rd (Z := Z) (ν := ν) (k := 47) (rfl : ((x0b : Nat) : Int) = x0b) (i3I (y := x5) (rfl : i3 x5 = i3 x5) (by omega) (by omega) (by omega)) (show ((9 : Nat) : Int) = 9 from rfl)) (show (0 : Int32) = i3 0 from rfl) (by omega) (by omega) (by omega) (by omega)) (fun h7 => ?_) (fun h7 => ?_)
      · replace hP := zE_p hP h7
        obtain ⟨m2, rfl⟩ : ∃ m2, m = m2 + 1 := ⟨m - 1, by omega⟩
        exact wz_k1 ⟨m2, by omega, xM9, Z, (x5 + 1), (zconso rfl (zconso (zvo (rfl : i3 x1 = i3 x1)) (zconso rfl (zconso rfl (zconso (zvo (rfl : i3 x4 = i3 x4)) (zconso (zvo (i3A (rfl : i3 x5 = i3 x5) (show (1 : Int32) = i3 1 from rfl))) (zconso rfl rfl))))))), rfl, by omega, hZ, hK, hU, by omega, by omega,  hP⟩
      · replace hP := zE_n hP h7
        obtain ⟨Z8, hZ8⟩ := zx (zu Z 47 x0b x5 9 3)
        replace hP := zl_e hP hZ8
        have r9 := zH_k hZ 47 x0b x5 10 (lo := -1) (hi := 3) (by decide) rfl
        have hZ8I := zH_st hZ hZ8 (by omega) (by omega)
        have hZ8U : zU [x0b] Zs Z8 := zU_u hU hZ8 (Or.inr (List.Mem.head _))
        have hZ8K : zC [14, 45, 46, 47, 53, 1112] Zs Z8 := zC_u hK hZ8 (by decide)
        intro μ9 e9
        replace e9 := e9.trans (zm_wI (Z := Z) (ν := ν) hZ8 (rfl : ((x0b : Nat) : Int) = x0b) (i3I (y := x5) (rfl : i3 x5 = i3 x5) (by omega) (by omega) (by omega)) (show ((9 : Nat) : Int) = 9 from rfl) (show (3 : Int32) = i3 3 from rfl))
        subst e9
        have r10 := zH_k hZ8I 44 x0b x3ij 7 (lo := 0) (hi := 2000) (by decide) rfl
        obtain ⟨Z11, hZ11⟩ := zx (zu Z8 47 x0b x5 11 (Z8 44 x0b x3ij 7))
        replace hP := zl_e hP hZ11
        have hZ11I := zH_u hZ8I hZ11 (lo := 0) (hi := 2000) (by decide) rfl (by omega) ⟨by decide, by decide⟩ (Or.inl (by decide)) rfl
        have hZ11U : zU [x0b] Zs Z11 := zU_u hZ8U hZ11 (Or.inr (List.Mem.head _))
        have hZ11K : zC [14, 45, 46, 47, 53, 1112] Zs Z11 := zC_u hZ8K hZ11 (by decide)
        intro μ9 e9
        replace e9 := e9.trans (zm_wI (Z := Z8) (ν := ν) hZ11 (rfl : ((x0b : Nat) : Int) = x0b) (i3I (y := x5) (rfl : i3 x5 = i3 x5) (by omega) (by omega) (by omega)) (show ((11 : Nat) : Int) = 11 from rfl) (zm_rd (Z := Z8) (ν := ν) (k := 44) (rfl : ((x0b : Nat) : Int) = x0b) ex3i (show ((7 : Nat) : Int) = 7 from rfl)))
        subst e9
        have r12 := zH_k hZ11I 44 x0b x3ij 8 (lo := 0) (hi := 999) (by decide) rfl
        obtain ⟨Z13, hZ13⟩ := zx (zu Z11 47 x0b x5 12 (Z11 44 x0b x3ij 8))
        replace hP := zl_e hP hZ13
        have hZ13I := zH_u hZ11I hZ13 (lo := 0) (hi := 999) (by decide) rfl (by omega) ⟨by decide, by decide⟩ (Or.inl (by decide)) rfl
        have hZ13U : zU [x0b] Zs Z13 := zU_u hZ11U hZ13 (Or.inr (List.Mem.head _))
        have hZ13K : zC [14, 45, 46, 47, 53, 1112] Zs Z13 := zC_u hZ11K hZ13 (by decide)
        intro μ9 e9
        replace e9 := e9.trans (zm_wI (Z := Z11) (ν := ν) hZ13 (rfl : ((x0b : Nat) : Int) = x0b) (i3I (y := x5) (rfl : i3 x5 = i3 x5) (by omega) (by omega) (by omega)) (show ((12 : Nat) : Int) = 12 from rfl) (zm_rd (Z := Z11) (ν := ν) (k := 44) (rfl : ((x0b : Nat) : Int) = x0b) ex3i (show ((8 : Nat) : Int) = 8 from rfl)))
        subst e9
        have r14 := zH_k hZ13I 11 x0b 0 13 (lo := 0) (hi := 671) (by decide) rfl
        obtain ⟨Z15, hZ15⟩ := zx (zu Z13 47 x0b x5 17 (Z13 11 x0b 0 13))
        replace hP := zl_e hP hZ15
        have hZ15I := zH_u hZ13I hZ15 (lo := -1) (hi := 671) (by decide) rfl (by omega) ⟨by decide, by decide⟩ (Or.inl (by decide)) rfl
        have hZ15U : zU [x0b] Zs Z15 := zU_u hZ13U hZ15 (Or.inr (List.Mem.head _))
        have hZ15K : zC [14, 45, 46, 47, 53, 1112] Zs Z15 := zC_u hZ13K hZ15 (by decide)
        intro μ9 e9
        replace e9 := e9.trans (zm_wI (Z := Z13) (ν := ν) hZ15 (rfl : ((x0b : Nat) : Int) = x0b) (i3I (y := x5) (rfl : i3 x5 = i3 x5) (by omega) (by omega) (by omega)) (show ((17 : Nat) : Int) = 17 from rfl) (zm_rd (Z := Z13) (ν := ν) (k := 11) (rfl : ((x0b : Nat) : Int) = x0b) (show ((0 : Nat) : Int) = 0 from rfl) (show ((13 : Nat) : Int) = 13 from rfl)))
        subst e9
        obtain ⟨Z16, hZ16, c9, hZ16I, kZ16, jZ16⟩ := sp_20 (ν := ν) hZ15I x0b x0b _ (i3I (y := x5) (rfl : i3 x5 = i3 x5) (by omega) (by omega) (by omega)) (by omega) (zbh (c := 0) (k := 0) hM9 (Nat.le_of_ble_eq_true rfl))
        have hZ16U : zU [x0b] Zs Z16 := zU_t hZ15U jZ16 (zU_b1 (List.Mem.head _) (zU_b1 (List.Mem.head _) zU_b0))
        have hZ16K : zC [14, 45, 46, 47, 53, 1112] Zs Z16 := zC_t hZ15K kZ16 (by decide)
        replace hP := zl_e hP hZ16
        refine wz_cV_of (zas (zcons rfl (zcons rfl rfl)) c9) ?_
        clear c9
        have r17 := zH_k hZ16I 47 x0b x5 18 (lo := 0) (hi := 399960) (by decide) rfl
        refine wz_br (i3NE (zm_rd (Z := Z16) (ν := ν) (k := 47) (rfl : ((x0b : Nat) : Int) = x0b) (i3I (y := x5) (rfl : i3 x5 = i3 x5) (by omega) (by omega) (by omega)) (show ((18 : Nat) : Int) = 18 from rfl)) (show (0 : Int32) = i3 0 from rfl) (by omega) (by omega) (by omega) (by omega)) (fun h18 => ?_) (fun h18 => ?_)
        · replace hP := zE_p hP h18
          have r19 := zH_f hZ16I 14 x0b 0 1
          have r20 := w3_r ((Z16 14 x0b 0 1) - (Z16 47 x0b x5 18))
          obtain ⟨Z21, hZ21⟩ := zx (zu Z16 14 x0b 0 1 (w3 ((Z16 14 x0b 0 1) - (Z16 47 x0b x5 18))))
          replace hP := zl_e hP hZ21
          have hZ21I := zH_u hZ16I hZ21 (lo := -2147483648) (hi := 2147483647) (by decide) rfl (by omega) ⟨by decide, by decide⟩ (Or.inl (by decide)) rfl
          have hZ21U : zU [x0b] Zs Z21 := zU_u hZ16U hZ21 (Or.inr (List.Mem.head _))
          have hZ21K : zC [14, 45, 46, 47, 53, 1112] Zs Z21 := zC_u hZ16K hZ21 (by decide)
          intro μ9 e9
          replace e9 := e9.trans (zm_wI (Z := Z16) (ν := ν) hZ21 (rfl : ((x0b : Nat) : Int) = x0b) (show ((0 : Nat) : Int) = 0 from rfl) (show ((1 : Nat) : Int) = 1 from rfl) (i3W (i3S (zm_rd (Z := Z16) (ν := ν) (k := 14) (rfl : ((x0b : Nat) : Int) = x0b) (show ((0 : Nat) : Int) = 0 from rfl) (show ((1 : Nat) : Int) = 1 from rfl)) (zm_rd (Z := Z16) (ν := ν) (k := 47) (rfl : ((x0b : Nat) : Int) = x0b) (i3I (y := x5) (rfl : i3 x5 = i3 x5) (by omega) (by omega) (by omega)) (show ((18 : Nat) : Int) = 18 from rfl)))))
          subst e9
          have r22 := zH_f hZ21I 14 x0b 0 8
          have r23 := w3_r ((Z21 14 x0b 0 8) + (Z16 47 x0b x5 18))
          obtain ⟨Z24, hZ24⟩ := zx (zu Z21 14 x0b 0 8 (w3 ((Z21 14 x0b 0 8) + (Z16 47 x0b x5 18))))
          replace hP := zl_e hP hZ24
          have hZ24I := zH_u hZ21I hZ24 (lo := -2147483648) (hi := 2147483647) (by decide) rfl (by omega) ⟨by decide, by decide⟩ (Or.inl (by decide)) rfl
          have hZ24U : zU [x0b] Zs Z24 := zU_u hZ21U hZ24 (Or.inr (List.Mem.head _))
          have hZ24K : zC [14, 45, 46, 47, 53, 1112] Zs Z24 := zC_u hZ21K hZ24 (by decide)
          intro μ9 e9
          replace e9 := e9.trans (zm_wI (Z := Z21) (ν := ν) hZ24 (rfl : ((x0b : Nat) : Int) = x0b) (show ((0 : Nat) : Int) = 0 from rfl) (show ((8 : Nat) : Int) = 8 from rfl) (i3W (i3A (zm_rd (Z := Z21) (ν := ν) (k := 14) (rfl : ((x0b : Nat) : Int) = x0b) (show ((0 : Nat) : Int) = 0 from rfl) (show ((8 : Nat) : Int) = 8 from rfl)) (zm_rd (Z := Z16) (ν := ν) (k := 47) (rfl : ((x0b : Nat) : Int) = x0b) (i3I (y := x5) (rfl : i3 x5 = i3 x5) (by omega) (by omega) (by omega)) (show ((18 : Nat) : Int) = 18 from rfl)))))
          subst e9
          have r25 := zH_c12 hZ24I x0b (zbh (c := 0) (k := 0) hM9 (Nat.le_of_ble_eq_true rfl))
          refine wz_i0 (i3O (n := 60) (i3R (zm_rd (Z := Z24) (ν := ν) (k := 11) (rfl : ((x0b : Nat) : Int) = x0b) (show ((0 : Nat) : Int) = 0 from rfl) (show ((12 : Nat) : Int) = 12 from rfl)) (show (60 : Int32) = i3 60 from rfl) (by omega) (by omega) (by omega) (by omega)) (by omega) (by omega) (by omega)) ?_
          obtain ⟨Z26, hZ26⟩ := zx (zu Z24 53 x0b ((Z24 11 x0b 0 12) % 60) 0 1)
          replace hP := zl_e hP hZ26
          have hZ26I := zH_u hZ24I hZ26 (lo := -2147483648) (hi := 2147483647) (by decide) rfl (by omega) ⟨by decide, by decide⟩ (Or.inl (by decide)) rfl
          have hZ26U : zU [x0b] Zs Z26 := zU_u hZ24U hZ26 (Or.inr (List.Mem.head _))
          have hZ26K : zC [14, 45, 46, 47, 53, 1112] Zs Z26 := zC_u hZ24K hZ26 (by decide)
          intro μ9 e9
          replace e9 := e9.trans (zm_wI (Z := Z24) (ν := ν) hZ26 (rfl : ((x0b : Nat) : Int) = x0b) (i3I (y := ((Z24 11 x0b 0 12) % 60)) (i3R (zm_rd (Z := Z24) (ν := ν) (k := 11) (rfl : ((x0b : Nat) : Int) = x0b) (show ((0 : Nat) : Int) = 0 from rfl) (show ((12 : Nat) : Int) = 12 from rfl)) (show (60 : Int32) = i3 60 from rfl) (by omega) (by omega) (by omega) (by omega)) (by omega) (by omega) (by omega)) (show ((0 : Nat) : Int) = 0 from rfl) (show (1 : Int32) = i3 1 from rfl))
          subst e9
          obtain ⟨Z27, hZ27⟩ := zx (zu Z26 53 x0b ((Z24 11 x0b 0 12) % 60) 1 8)
          replace hP := zl_e hP hZ27
          have hZ27I := zH_u hZ26I hZ27 (lo := -2147483648) (hi := 2147483647) (by decide) rfl (by omega) ⟨by decide, by decide⟩ (Or.inl (by decide)) rfl
          have hZ27U : zU [x0b] Zs Z27 := zU_u hZ26U hZ27 (Or.inr (List.Mem.head _))
          have hZ27K : zC [14, 45, 46, 47, 53, 1112] Zs Z27 := zC_u hZ26K hZ27 (by decide)
          intro μ9 e9
          replace e9 := e9.trans (zm_wI (Z := Z26) (ν := ν) hZ27 (rfl : ((x0b : Nat) : Int) = x0b) (i3I (y := ((Z24 11 x0b 0 12) % 60)) (i3R (zm_rd (Z := Z24) (ν := ν) (k := 11) (rfl : ((x0b : Nat) : Int) = x0b) (show ((0 : Nat) : Int) = 0 from rfl) (show ((12 : Nat) : Int) = 12 from rfl)) (show (60 : Int32) = i3 60 from rfl) (by omega) (by omega) (by omega) (by omega)) (by omega) (by omega) (by omega)) (show ((1 : Nat) : Int) = 1 from rfl) (show (8 : Int32) = i3 8 from rfl))
          subst e9
          obtain ⟨Z28, hZ28⟩ := zx (zu Z27 53 x0b ((Z24 11 x0b 0 12) % 60) 2 (Z16 47 x0b x5 18))
          replace hP := zl_e hP hZ28
          have hZ28I := zH_u hZ27I hZ28 (lo := -2147483648) (hi := 2147483647) (by decide) rfl (by omega) ⟨by decide, by decide⟩ (Or.inl (by decide)) rfl
          have hZ28U : zU [x0b] Zs Z28 := zU_u hZ27U hZ28 (Or.inr (List.Mem.head _))
          have hZ28K : zC [14, 45, 46, 47, 53, 1112] Zs Z28 := zC_u hZ27K hZ28 (by decide)
          intro μ9 e9
          replace e9 := e9.trans (zm_wI (Z := Z27) (ν := ν) hZ28 (rfl : ((x0b : Nat) : Int) = x0b) (i3I (y := ((Z24 11 x0b 0 12) % 60)) (i3R (zm_rd (Z := Z24) (ν := ν) (k := 11) (rfl : ((x0b : Nat) : Int) = x0b) (show ((0 : Nat) : Int) = 0 from rfl) (show ((12 : Nat) : Int) = 12 from rfl)) (show (60 : Int32) = i3 60 from rfl) (by omega) (by omega) (by omega) (by omega)) (by omega) (by omega) (by omega)) (show ((2 : Nat) : Int) = 2 from rfl) (zm_rd (Z := Z16) (ν := ν) (k := 47) (rfl : ((x0b : Nat) : Int) = x0b) (i3I (y := x5) (rfl : i3 x5 = i3 x5) (by omega) (by omega) (by omega)) (show ((18 : Nat) : Int) = 18 from rfl)))
          subst e9
          obtain ⟨Z29, hZ29⟩ := zx (zu Z28 53 x0b ((Z24 11 x0b 0 12) % 60) 3 x1)
          replace hP := zl_e hP hZ29
          have hZ29I := zH_u hZ28I hZ29 (lo := -2147483648) (hi := 2147483647) (by decide) rfl (by omega) ⟨by decide, by decide⟩ (Or.inl (by decide)) rfl
          have hZ29U : zU [x0b] Zs Z29 := zU_u hZ28U hZ29 (Or.inr (List.Mem.head _))
          have hZ29K : zC [14, 45, 46, 47, 53, 1112] Zs Z29 := zC_u hZ28K hZ29 (by decide)
          intro μ9 e9
          replace e9 := e9.trans (zm_wI (Z := Z28) (ν := ν) hZ29 (rfl : ((x0b : Nat) : Int) = x0b) (i3I (y := ((Z24 11 x0b 0 12) % 60)) (i3R (zm_rd (Z := Z24) (ν := ν) (k := 11) (rfl : ((x0b : Nat) : Int) = x0b) (show ((0 : Nat) : Int) = 0 from rfl) (show ((12 : Nat) : Int) = 12 from rfl)) (show (60 : Int32) = i3 60 from rfl) (by omega) (by omega) (by omega) (by omega)) (by omega) (by omega) (by omega)) (show ((3 : Nat) : Int) = 3 from rfl) (rfl : i3 x1 = i3 x1))
          subst e9
          have r30 := zH_k hZ29I 11 x0b 0 13 (lo := 0) (hi := 671) (by decide) rfl
          have q31 := (zu_ne (k' := 11) (b' := x0b) (i' := 0) (j' := 13) hZ29 (fun q => absurd q.1 (by decide))).trans ((zu_ne (k' := 11) (b' := x0b) (i' := 0) (j' := 13) hZ28 (fun q => absurd q.1 (by decide))).trans ((zu_ne (k' := 11) (b' := x0b) (i' := 0) (j' := 13) hZ27 (fun q => absurd q.1 (by decide))).trans ((zu_ne (k' := 11) (b' := x0b) (i' := 0) (j' := 13) hZ26 (fun q => absurd q.1 (by decide))).trans ((zu_ne (k' := 11) (b' := x0b) (i' := 0) (j' := 13) hZ24 (fun q => absurd q.1 (by decide))).trans ((zu_ne (k' := 11) (b' := x0b) (i' := 0) (j' := 13) hZ21 (fun q => absurd q.1 (by decide))).trans ((kZ16 11 x0b 0 13 (by decide)).trans (zu_ne (k' := 11) (b' := x0b) (i' := 0) (j' := 13) hZ15 (fun q => absurd q.1 (by decide)))))))))
          obtain ⟨Z32, hZ32⟩ := zx (zu Z29 53 x0b ((Z24 11 x0b 0 12) % 60) 4 (Z29 11 x0b 0 13))
          replace hP := zl_e hP hZ32
          have hZ32I := zH_u hZ29I hZ32 (lo := -2147483648) (hi := 2147483647) (by decide) rfl (by omega) ⟨by decide, by decide⟩ (Or.inl (by decide)) rfl
          have hZ32U : zU [x0b] Zs Z32 := zU_u hZ29U hZ32 (Or.inr (List.Mem.head _))
          have hZ32K : zC [14, 45, 46, 47, 53, 1112] Zs Z32 := zC_u hZ29K hZ32 (by decide)
          intro μ9 e9
          replace e9 := e9.trans (zm_wI (Z := Z29) (ν := ν) hZ32 (rfl : ((x0b : Nat) : Int) = x0b) (i3I (y := ((Z24 11 x0b 0 12) % 60)) (i3R (zm_rd (Z := Z24) (ν := ν) (k := 11) (rfl : ((x0b : Nat) : Int) = x0b) (show ((0 : Nat) : Int) = 0 from rfl) (show ((12 : Nat) : Int) = 12 from rfl)) (show (60 : Int32) = i3 60 from rfl) (by omega) (by omega) (by omega) (by omega)) (by omega) (by omega) (by omega)) (show ((4 : Nat) : Int) = 4 from rfl) (zm_rd (Z := Z29) (ν := ν) (k := 11) (rfl : ((x0b : Nat) : Int) = x0b) (show ((0 : Nat) : Int) = 0 from rfl) (show ((13 : Nat) : Int) = 13 from rfl)))
          subst e9
          have r33 := zH_c12 hZ32I x0b (zbh (c := 0) (k := 0) hM9 (Nat.le_of_ble_eq_true rfl))
          have q34 := (zu_ne (k' := 11) (b' := x0b) (i' := 0) (j' := 12) hZ32 (fun q => absurd q.1 (by decide))).trans ((zu_ne (k' := 11) (b' := x0b) (i' := 0) (j' := 12) hZ29 (fun q => absurd q.1 (by decide))).trans ((zu_ne (k' := 11) (b' := x0b) (i' := 0) (j' := 12) hZ28 (fun q => absurd q.1 (by decide))).trans ((zu_ne (k' := 11) (b' := x0b) (i' := 0) (j' := 12) hZ27 (fun q => absurd q.1 (by decide))).trans (zu_ne (k' := 11) (b' := x0b) (i' := 0) (j' := 12) hZ26 (fun q => absurd q.1 (by decide))))))
          obtain ⟨Z35, hZ35⟩ := zx (zu Z32 11 x0b 0 12 ((Z32 11 x0b 0 12) + 1))
          replace hP := zl_e hP hZ35
          have hZ35I := zH_i12 hZ32I hZ35 (zbh (c := 0) (k := 1) hM9 (Nat.le_of_ble_eq_true rfl)) (by omega)
          have hZ35U : zU [x0b] Zs Z35 := zU_u hZ32U hZ35 (Or.inr (List.Mem.head _))
          have hZ35K : zC [14, 45, 46, 47, 53, 1112] Zs Z35 := zC_u hZ32K hZ35 (by decide)
          intro μ9 e9
          replace e9 := e9.trans (zm_wI (Z := Z32) (ν := ν) hZ35 (rfl : ((x0b : Nat) : Int) = x0b) (show ((0 : Nat) : Int) = 0 from rfl) (show ((12 : Nat) : Int) = 12 from rfl) (i3A (zm_rd (Z := Z32) (ν := ν) (k := 11) (rfl : ((x0b : Nat) : Int) = x0b) (show ((0 : Nat) : Int) = 0 from rfl) (show ((12 : Nat) : Int) = 12 from rfl)) (show (1 : Int32) = i3 1 from rfl)))
          subst e9
          obtain ⟨m2, rfl⟩ : ∃ m2, m = m2 + 1 := ⟨m - 1, by omega⟩
          exact wz_k1 ⟨m2, by omega, xM9 + 1, Z35, (x5 + 1), (zconso rfl (zconso (zvo (rfl : i3 x1 = i3 x1)) (zconso rfl (zconso rfl (zconso (zvo (rfl : i3 x4 = i3 x4)) (zconso (zvo (i3A (rfl : i3 x5 = i3 x5) (show (1 : Int32) = i3 1 from rfl))) (zconso rfl rfl))))))), rfl, by omega, (zbt hZ35I rfl), hZ35K, hZ35U, by omega, by omega,  hP⟩
        · replace hP := zE_n hP h18
          obtain ⟨m2, rfl⟩ : ∃ m2, m = m2 + 1 := ⟨m - 1, by omega⟩
          exact wz_k1 ⟨m2, by omega, xM9, Z16, (x5 + 1), (zconso rfl (zconso (zvo (rfl : i3 x1 = i3 x1)) (zconso rfl (zconso rfl (zconso (zvo (rfl : i3 x4 = i3 x4)) (zconso (zvo (i3A (rfl : i3 x5 = i3 x5) (show (1 : Int32) = i3 1 from rfl))) (zconso rfl rfl))))))), rfl, by omega, hZ16I, hZ16K, hZ16U, by omega, by omega,  hP⟩
/- yX5_takeAway -/
def zf_105 (Z : qz_Z) (a0b : Int) (a1 : Int) (a2 : Int) : qz_Z × Int := (if (Z 44 a0b a1 10) ≠ 1 then (zlet (zu Z 44 a0b a1 6 (w3 ((Z 44 a0b a1 6) + (Z 44 a0b a1 4)))) (fun Z6 => (zlet (zu Z6 44 a0b a1 4 0) (fun Z7 => (zlet (zu Z7 44 a0b a1 5 0) (fun Z8 => (zlet (zu Z8 44 a0b a1 10 a2) (fun Z9 => (zlet (zf_175 Z9 a0b a0b a1 (-1)) (fun Z10 => (zlet2 (zl_105_1 a0b a1 a1 (Z 44 a0b a1 4) 61 Z10 0) (fun Z12 y11 => (Z12, (Z 44 a0b a1 4)))))))))))))) else (zlet2 (zf_76 Z a0b a1) (fun Z14 v15 => (zlet (zu Z14 44 a0b a1 6 (w3 ((Z14 44 a0b a1 6) + (Z14 44 a0b a1 4)))) (fun Z19 => (zlet (zu Z19 44 a0b a1 4 0) (fun Z20 => (zlet (zu Z20 44 a0b a1 5 0) (fun Z21 => (zlet (zu Z21 44 a0b a1 10 a2) (fun Z22 => (zlet (zf_175 Z22 a0b a0b a1 (-1)) (fun Z23 => (zlet2 (zl_105_1 a0b a1 a1 (Z14 44 a0b a1 4) 61 Z23 0) (fun Z25 y24 => (Z25, (Z14 44 a0b a1 4)))))))))))))))))
theorem sp_105 {s : zSM} {Z : qz_Z} {ν : qz_N} (hZ : zH s Z) (a0b : Nat) {a1 : Int} (ga1 : 0 ≤ a1 ∧ a1 ≤ 47) {a2 : Int} (ga2 : 3 ≤ a2 ∧ a2 ≤ 4) (hM : s.2 + 63 ≤ 1000000000) : ∃ (Z1 : qz_Z) (P : Int), (Z1, P) = zf_105 Z a0b a1 a2 ∧ (qf_105 [.inr (.inr (some (10, a0b, 0))), .inl (i3 a1), .inl (i3 a2)] (zm Z ν) = some (zm Z1 ν, .inl (some (.inl (i3 P)))) ∧ zH (zb s 63) Z1 ∧ zC [14, 43, 44, 45, 46, 47, 48, 49, 53, 1112] Z Z1 ∧ zU [a0b] Z Z1 ∧ 0 ≤ P ∧ P ≤ 40) := by
  obtain ⟨P, hP⟩ := zx (zf_105 Z a0b a1 a2)
  refine zc_W (Q := fun Z1 P => zH (zb s 63) Z1 ∧ zC [14, 43, 44, 45, 46, 47, 48, 49, 53, 1112] Z Z1 ∧ zU [a0b] Z Z1 ∧ 0 ≤ P ∧ P ≤ 40) hP (fw_105 a0b (i3 a1) (i3 a2) _ _ ?_)
  replace hP : zE P (zf_105 Z a0b a1 a2) := hP
  unfold zf_105 at hP
  refine wz_i0 (i3O (n := 48) (rfl : i3 a1 = i3 a1) (by omega) (by omega) (by omega)) ?_
  have r1 := zH_k hZ 44 a0b a1 10 (lo := 0) (hi := 4) (by decide) rfl
  refine wz_br (i3NE (zm_rd (Z := Z) (ν := ν) (k := 44) (rfl : ((a0b : Nat) : Int) = a0b) (i3I (y := a1) (rfl : i3 a1 = i3 a1) (by omega) (by omega) (by omega)) (show ((10 : Nat) : Int) = 10 from rfl)) (show (1 : Int32) = i3 1 from rfl) (by omega) (by omega) (by omega) (by omega)) (fun h2 => ?_) (fun h2 => ?_)
  · replace hP := zE_p hP h2
    have r3 := zH_f hZ 44 a0b a1 6
    have r4 := zH_k hZ 44 a0b a1 4 (lo := 0) (hi := 40) (by decide) rfl
    have r5 := w3_r ((Z 44 a0b a1 6) + (Z 44 a0b a1 4))
    obtain ⟨Z6, hZ6⟩ := zx (zu Z 44 a0b a1 6 (w3 ((Z 44 a0b a1 6) + (Z 44 a0b a1 4))))
    replace hP := zl_e hP hZ6
    have hZ6I := zH_u hZ hZ6 (lo := -2147483648) (hi := 2147483647) (by decide) rfl (by omega) ⟨by decide, by decide⟩ (Or.inl (by decide)) rfl
    have hZ6U : zU [a0b] Z Z6 := zU_u zU_r hZ6 (Or.inr (List.Mem.head _))
    have hZ6K : zC [14, 43, 44, 45, 46, 47, 48, 49, 53, 1112] Z Z6 := zC_u zC_r hZ6 (by decide)
    intro μ9 e9
    replace e9 := e9.trans (zm_wI (Z := Z) (ν := ν) hZ6 (rfl : ((a0b : Nat) : Int) = a0b) (i3I (y := a1) (rfl : i3 a1 = i3 a1) (by omega) (by omega) (by omega)) (show ((6 : Nat) : Int) = 6 from rfl) (i3W (i3A (zm_rd (Z := Z) (ν := ν) (k := 44) (rfl : ((a0b : Nat) : Int) = a0b) (i3I (y := a1) (rfl : i3 a1 = i3 a1) (by omega) (by omega) (by omega)) (show ((6 : Nat) : Int) = 6 from rfl)) (zm_rd (Z := Z) (ν := ν) (k := 44) (rfl : ((a0b : Nat) : Int) = a0b) (i3I (y := a1) (rfl : i3 a1 = i3 a1) (by omega) (by omega) (by omega)) (show ((4 : Nat) : Int) = 4 from rfl)))))
    subst e9
    obtain ⟨Z7, hZ7⟩ := zx (zu Z6 44 a0b a1 4 0)
    replace hP := zl_e hP hZ7
    have hZ7I := zH_0 hZ6I hZ7 (by decide) (Or.inl (by decide))
    have hZ7U : zU [a0b] Z Z7 := zU_u hZ6U hZ7 (Or.inr (List.Mem.head _))
    have hZ7K : zC [14, 43, 44, 45, 46, 47, 48, 49, 53, 1112] Z Z7 := zC_u hZ6K hZ7 (by decide)
    intro μ9 e9
    replace e9 := e9.trans (zm_wI (Z := Z6) (ν := ν) hZ7 (rfl : ((a0b : Nat) : Int) = a0b) (i3I (y := a1) (rfl : i3 a1 = i3 a1) (by omega) (by omega) (by omega)) (show ((4 : Nat) : Int) = 4 from rfl) (show (0 : Int32) = i3 0 from rfl))
    subst e9
    obtain ⟨Z8, hZ8⟩ := zx (zu Z7 44 a0b a1 5 0)
    replace hP := zl_e hP hZ8
    have hZ8I := zH_0 hZ7I hZ8 (by decide) (Or.inl (by decide))
    have hZ8U : zU [a0b] Z Z8 := zU_u hZ7U hZ8 (Or.inr (List.Mem.head _))
    have hZ8K : zC [14, 43, 44, 45, 46, 47, 48, 49, 53, 1112] Z Z8 := zC_u hZ7K hZ8 (by decide)
    intro μ9 e9
    replace e9 := e9.trans (zm_wI (Z := Z7) (ν := ν) hZ8 (rfl : ((a0b : Nat) : Int) = a0b) (i3I (y := a1) (rfl : i3 a1 = i3 a1) (by omega) (by omega) (by omega)) (show ((5 : Nat) : Int) = 5 from rfl) (show (0 : Int32) = i3 0 from rfl))
    subst e9
    obtain ⟨Z9, hZ9⟩ := zx (zu Z8 44 a0b a1 10 a2)
    replace hP := zl_e hP hZ9
    have hZ9I := zH_u hZ8I hZ9 (lo := 0) (hi := 4) (by decide) rfl (by omega) ⟨by decide, by decide⟩ (Or.inl (by decide)) rfl
    have hZ9U : zU [a0b] Z Z9 := zU_u hZ8U hZ9 (Or.inr (List.Mem.head _))
    have hZ9K : zC [14, 43, 44, 45, 46, 47, 48, 49, 53, 1112] Z Z9 := zC_u hZ8K hZ9 (by decide)
    intro μ9 e9
    replace e9 := e9.trans (zm_wI (Z := Z8) (ν := ν) hZ9 (rfl : ((a0b : Nat) : Int) = a0b) (i3I (y := a1) (rfl : i3 a1 = i3 a1) (by omega) (by omega) (by omega)) (show ((10 : Nat) : Int) = 10 from rfl) (rfl : i3 a2 = i3 a2))
    subst e9
    obtain ⟨Z10, hZ10, c9, hZ10I, kZ10, jZ10⟩ := sp_175 (ν := ν) hZ9I a0b a0b _ (i3I (y := a1) (rfl : i3 a1 = i3 a1) (by omega) (by omega) (by omega)) (by omega) (a2 := (-1)) (by omega) (zbh (c := 0) (k := 2) hM (Nat.le_of_ble_eq_true rfl))
    have hZ10U : zU [a0b] Z Z10 := zU_t hZ9U jZ10 (zU_b1 (List.Mem.head _) (zU_b1 (List.Mem.head _) zU_b0))
    have hZ10K : zC [14, 43, 44, 45, 46, 47, 48, 49, 53, 1112] Z Z10 := zC_t hZ9K kZ10 (by decide)
    replace hP := zl_e hP hZ10
    refine wz_cV_of (zas (zcons rfl (zcons rfl (zcons (zvi (show (-1 : Int32) = i3 (-1) from rfl)) rfl))) c9) ?_
    clear c9
    refine sl_105_1 (ν := ν) (zb0 hZ10I) (zbh (c := 2) (k := 61) hM (Nat.le_of_ble_eq_true rfl)) (xM9 := 0) zC_r a0b _ (i3I (y := a1) (rfl : i3 a1 = i3 a1) (by omega) (by omega) (by omega)) (by omega) (x1 := a1) (by omega) (x4 := (Z 44 a0b a1 4)) (by omega) (x5 := 0) (by omega) zU_r (Nat.le_of_ble_eq_true rfl)  (zconso rfl (zconso (zvo (rfl : i3 a1 = i3 a1)) (zconso rfl (zconso rfl (zconso (zvo (zm_rd (Z := Z) (ν := ν) (k := 44) (rfl : ((a0b : Nat) : Int) = a0b) (i3I (y := a1) (rfl : i3 a1 = i3 a1) (by omega) (by omega) (by omega)) (show ((4 : Nat) : Int) = 4 from rfl))) (zconso (zvo (show (0 : Int32) = i3 0 from rfl)) (zconso rfl rfl))))))) rfl ?_
    intro L13 Z12 y11 hL13 hZ12I kZ12 jZ12 gy11 q9
    replace hP := zl_e2 hP (Eq.symm q9)
    clear q9
    replace hZ12I := zbt (c := 63) hZ12I rfl
    have hZ12U : zU [a0b] Z Z12 := zU_t hZ10U jZ12 (zU_b1 (List.Mem.head _) zU_b0)
    have hZ12K : zC [14, 43, 44, 45, 46, 47, 48, 49, 53, 1112] Z Z12 := zC_t hZ10K kZ12 (by decide)
    refine fc_105_2 (i3 (Z 44 a0b a1 4)) _ _ _ _ hL13 ?_
    exact zlW hP (rfl : i3 (Z 44 a0b a1 4) = i3 (Z 44 a0b a1 4)) ⟨hZ12I, hZ12K, hZ12U, by omega, by omega⟩
  · replace hP := zE_n hP h2
    obtain ⟨Z14, v15, hv15, c9, hZ14I, kZ14, jZ14, lv15, uv15⟩ := sp_76 (ν := ν) hZ a0b (a1 := a1) (by omega) (zbh (c := 0) (k := 0) hM (Nat.le_of_ble_eq_true rfl))
    have hZ14U : zU [a0b] Z Z14 := zU_t zU_r jZ14 (zU_b1 (List.Mem.head _) zU_b0)
    have hZ14K : zC [14, 43, 44, 45, 46, 47, 48, 49, 53, 1112] Z Z14 := zC_t zC_r kZ14 (by decide)
    replace hP := zl_e2 hP hv15
    refine wz_cI_of (zas (zcons rfl (zcons (zvi (rfl : i3 a1 = i3 a1)) rfl)) c9) ?_
    clear c9 hv15
    have r16 := zH_f hZ14I 44 a0b a1 6
    have r17 := zH_k hZ14I 44 a0b a1 4 (lo := 0) (hi := 40) (by decide) rfl
    have r18 := w3_r ((Z14 44 a0b a1 6) + (Z14 44 a0b a1 4))
    obtain ⟨Z19, hZ19⟩ := zx (zu Z14 44 a0b a1 6 (w3 ((Z14 44 a0b a1 6) + (Z14 44 a0b a1 4))))
    replace hP := zl_e hP hZ19
    have hZ19I := zH_u hZ14I hZ19 (lo := -2147483648) (hi := 2147483647) (by decide) rfl (by omega) ⟨by decide, by decide⟩ (Or.inl (by decide)) rfl
    have hZ19U : zU [a0b] Z Z19 := zU_u hZ14U hZ19 (Or.inr (List.Mem.head _))
    have hZ19K : zC [14, 43, 44, 45, 46, 47, 48, 49, 53, 1112] Z Z19 := zC_u hZ14K hZ19 (by decide)
    intro μ9 e9
    replace e9 := e9.trans (zm_wI (Z := Z14) (ν := ν) hZ19 (rfl : ((a0b : Nat) : Int) = a0b) (i3I (y := a1) (rfl : i3 a1 = i3 a1) (by omega) (by omega) (by omega)) (show ((6 : Nat) : Int) = 6 from rfl) (i3W (i3A (zm_rd (Z := Z14) (ν := ν) (k := 44) (rfl : ((a0b : Nat) : Int) = a0b) (i3I (y := a1) (rfl : i3 a1 = i3 a1) (by omega) (by omega) (by omega)) (show ((6 : Nat) : Int) = 6 from rfl)) (zm_rd (Z := Z14) (ν := ν) (k := 44) (rfl : ((a0b : Nat) : Int) = a0b) (i3I (y := a1) (rfl : i3 a1 = i3 a1) (by omega) (by omega) (by omega)) (show ((4 : Nat) : Int) = 4 from rfl)))))
    subst e9
    obtain ⟨Z20, hZ20⟩ := zx (zu Z19 44 a0b a1 4 0)
    replace hP := zl_e hP hZ20
    have hZ20I := zH_0 hZ19I hZ20 (by decide) (Or.inl (by decide))
    have hZ20U : zU [a0b] Z Z20 := zU_u hZ19U hZ20 (Or.inr (List.Mem.head _))
    have hZ20K : zC [14, 43, 44, 45, 46, 47, 48, 49, 53, 1112] Z Z20 := zC_u hZ19K hZ20 (by decide)
    intro μ9 e9
    replace e9 := e9.trans (zm_wI (Z := Z19) (ν := ν) hZ20 (rfl : ((a0b : Nat) : Int) = a0b) (i3I (y := a1) (rfl : i3 a1 = i3 a1) (by omega) (by omega) (by omega)) (show ((4 : Nat) : Int) = 4 from rfl) (show (0 : Int32) = i3 0 from rfl))
    subst e9
    obtain ⟨Z21, hZ21⟩ := zx (zu Z20 44 a0b a1 5 0)
    replace hP := zl_e hP hZ21
    have hZ21I := zH_0 hZ20I hZ21 (by decide) (Or.inl (by decide))
    have hZ21U : zU [a0b] Z Z21 := zU_u hZ20U hZ21 (Or.inr (List.Mem.head _))
    have hZ21K : zC [14, 43, 44, 45, 46, 47, 48, 49, 53, 1112] Z Z21 := zC_u hZ20K hZ21 (by decide)
    intro μ9 e9
    replace e9 := e9.trans (zm_wI (Z := Z20) (ν := ν) hZ21 (rfl : ((a0b : Nat) : Int) = a0b) (i3I (y := a1) (rfl : i3 a1 = i3 a1) (by omega) (by omega) (by omega)) (show ((5 : Nat) : Int) = 5 from rfl) (show (0 : Int32) = i3 0 from rfl))
    subst e9
    obtain ⟨Z22, hZ22⟩ := zx (zu Z21 44 a0b a1 10 a2)
    replace hP := zl_e hP hZ22
    have hZ22I := zH_u hZ21I hZ22 (lo := 0) (hi := 4) (by decide) rfl (by omega) ⟨by decide, by decide⟩ (Or.inl (by decide)) rfl
    have hZ22U : zU [a0b] Z Z22 := zU_u hZ21U hZ22 (Or.inr (List.Mem.head _))
    have hZ22K : zC [14, 43, 44, 45, 46, 47, 48, 49, 53, 1112] Z Z22 := zC_u hZ21K hZ22 (by decide)
    intro μ9 e9
    replace e9 := e9.trans (zm_wI (Z := Z21) (ν := ν) hZ22 (rfl : ((a0b : Nat) : Int) = a0b) (i3I (y := a1) (rfl : i3 a1 = i3 a1) (by omega) (by omega) (by omega)) (show ((10 : Nat) : Int) = 10 from rfl) (rfl : i3 a2 = i3 a2))
    subst e9
    obtain ⟨Z23, hZ23, c9, hZ23I, kZ23, jZ23⟩ := sp_175 (ν := ν) hZ22I a0b a0b _ (i3I (y := a1) (rfl : i3 a1 = i3 a1) (by omega) (by omega) (by omega)) (by omega) (a2 := (-1)) (by omega) (zbh (c := 0) (k := 2) hM (Nat.le_of_ble_eq_true rfl))
    have hZ23U : zU [a0b] Z Z23 := zU_t hZ22U jZ23 (zU_b1 (List.Mem.head _) (zU_b1 (List.Mem.head _) zU_b0))
    have hZ23K : zC [14, 43, 44, 45, 46, 47, 48, 49, 53, 1112] Z Z23 := zC_t hZ22K kZ23 (by decide)
    replace hP := zl_e hP hZ23
    refine wz_cV_of (zas (zcons rfl (zcons rfl (zcons (zvi (show (-1 : Int32) = i3 (-1) from rfl)) rfl))) c9) ?_
    clear c9
    refine sl_105_1 (ν := ν) (zb0 hZ23I) (zbh (c := 2) (k := 61) hM (Nat.le_of_ble_eq_true rfl)) (xM9 := 0) zC_r a0b _ (i3I (y := a1) (rfl : i3 a1 = i3 a1) (by omega) (by omega) (by omega)) (by omega) (x1 := a1) (by omega) (x4 := (Z14 44 a0b a1 4)) (by omega) (x5 := 0) (by omega) zU_r (Nat.le_of_ble_eq_true rfl)  (zconso rfl (zconso (zvo (rfl : i3 a1 = i3 a1)) (zconso rfl (zconso rfl (zconso (zvo (zm_rd (Z := Z14) (ν := ν) (k := 44) (rfl : ((a0b : Nat) : Int) = a0b) (i3I (y := a1) (rfl : i3 a1 = i3 a1) (by omega) (by omega) (by omega)) (show ((4 : Nat) : Int) = 4 from rfl))) (zconso (zvo (show (0 : Int32) = i3 0 from rfl)) (zconso rfl rfl))))))) rfl ?_
    intro L26 Z25 y24 hL26 hZ25I kZ25 jZ25 gy24 q9
    replace hP := zl_e2 hP (Eq.symm q9)
    clear q9
    replace hZ25I := zbt (c := 63) hZ25I rfl
    have hZ25U : zU [a0b] Z Z25 := zU_t hZ23U jZ25 (zU_b1 (List.Mem.head _) zU_b0)
    have hZ25K : zC [14, 43, 44, 45, 46, 47, 48, 49, 53, 1112] Z Z25 := zC_t hZ23K kZ25 (by decide)
    refine fc_105_2 (i3 (Z14 44 a0b a1 4)) _ _ _ _ hL26 ?_
    exact zlW hP (rfl : i3 (Z14 44 a0b a1 4) = i3 (Z14 44 a0b a1 4)) ⟨hZ25I, hZ25K, hZ25U, by omega, by omega⟩
/- yX0_payOut -/
def zl_8_1 (x0b : Int) : Nat → qz_Z → Int → qz_Z × Int
  | 0, Z, x1 => (Z, x1)
  | m + 1, Z, x1 => (if (Z 11 x0b 0 1) ≤ x1 then (Z, x1) else (if (Z 42 x0b x1 2) ≤ 0 then zl_8_1 x0b m Z (x1 + 1) else (zlet (zu Z 14 x0b 0 0 (w3 ((Z 14 x0b 0 0) - (Z 42 x0b x1 2)))) (fun Z7 => (zlet (zu Z7 14 x0b 0 2 (w3 ((Z7 14 x0b 0 2) + (Z 42 x0b x1 2)))) (fun Z10 => (zlet (zu Z10 53 x0b ((Z10 11 x0b 0 12) % 60) 0 0) (fun Z12 => (zlet (zu Z12 53 x0b ((Z10 11 x0b 0 12) % 60) 1 2) (fun Z13 => (zlet (zu Z13 53 x0b ((Z10 11 x0b 0 12) % 60) 2 (Z 42 x0b x1 2)) (fun Z14 => (zlet (zu Z14 53 x0b ((Z10 11 x0b 0 12) % 60) 3 (-1)) (fun Z15 => (zlet (zu Z15 53 x0b ((Z10 11 x0b 0 12) % 60) 4 (Z15 11 x0b 0 13)) (fun Z17 => (zlet (zu Z17 11 x0b 0 12 ((Z17 11 x0b 0 12) + 1)) (fun Z20 => (zlet (zu Z20 42 x0b x1 6 (w3 ((Z20 42 x0b x1 6) + (Z20 42 x0b x1 2)))) (fun Z25 => (zlet (zu Z25 42 x0b x1 2 0) (fun Z26 => zl_8_1 x0b m Z26 (x1 + 1)))))))))))))))))))))))
theorem sl_8_1 {s : zSM} {xM9 : Nat} {Zs Z : qz_Z} {ν : qz_N} (hZ : zH (zb s xM9) Z) (hM : s.2 + 7 ≤ 1000000000) (hK : zC [14, 42, 53, 1112] Zs Z) (x0b : Nat) {x1 : Int} (gx1 : 0 ≤ x1 ∧ x1 ≤ 6) (hU : zU [x0b] Zs Z) (hx9 : xM9 + 1 * ((6 - x1).toNat) + 1 ≤ 7) {k : wz_K} {R : wz_R} {L : qz_L} (hL : qz_fg [true, true, false] L = [some (.inr (.inr (some (10, x0b, 0)))), some (.inl (i3 x1)), none]) {T : qz_Z × Int} (hP : zE T (zl_8_1 x0b ((6 - x1).toNat + 1) Z x1)) (hk : ∀ (L9 : qz_L) (Z9 : qz_Z) (yx1 : Int), qz_fg [false, false, false] L9 = [none, none, none] → zH (zb s 7) Z9 → zC [14, 42, 53, 1112] Zs Z9 → zU [x0b] Zs Z9 → (0 ≤ yx1 ∧ yx1 ≤ 6) → zE T ((Z9, yx1)) → k 0 (L9, [], zm Z9 ν)) : wz_loop qb_8_1 65536 k R (L, [], zm Z ν) := by
  refine wz_lp sb_8_1 (fun m x => ∃ xM9 : Nat, ∃ Z : qz_Z, ∃ x1 : Int, qz_fg [true, true, false] x.1 = [some (.inr (.inr (some (10, x0b, 0)))), some (.inl (i3 x1)), none] ∧ x.2 = ([], zm Z ν) ∧ xM9 + 1 * m + 1 ≤ 7 ∧ zH (zb s xM9) Z ∧ zC [14, 42, 53, 1112] Zs Z ∧ zU [x0b] Zs Z ∧ m = (6 - x1).toNat ∧ (0 ≤ x1 ∧ x1 ≤ 6) ∧ zE T (zl_8_1 x0b (m + 1) Z x1)) ?_ 65536 ((6 - x1).toNat) _ (by omega) ⟨xM9, Z, x1, hL, rfl, hx9, hZ, hK, hU, rfl, gx1, hP⟩
  clear hP gx1 hx9 hZ hK hU hL
  clear x1
  clear Z
  clear xM9
  rintro m ⟨L, st, μ⟩ ⟨xM9, Z, x1, hL, hx, hx9, hZ, hK, hU, hm, gx1, hP⟩
  cases hx
  have hM9 : (zb s xM9).2 + 1 ≤ 1000000000 := by
    show s.2 + xM9 + 1 ≤ 1000000000
    omega
  refine fb_8_1 x0b (i3 x1) _ _ _ _ hL ?_
  have r1 := zH_k hZ 11 x0b 0 1 (lo := 0) (hi := 6) (by decide) rfl
  refine wz_br (i3Le (zm_rd (Z := Z) (ν := ν) (k := 11) (rfl : ((x0b : Nat) : Int) = x0b) (show ((0 : Nat) : Int) = 0 from rfl) (show ((1 : Nat) : Int) = 1 from rfl)) (rfl : i3 x1 = i3 x1) (by omega) (by omega) (by omega) (by omega)) (fun h2 => ?_) (fun h2 => ?_)
  · replace hP := zE_p hP h2
    exact hk _ _ _ (zconso rfl (zconso rfl (zconso rfl rfl))) (zbx0 hZ (by omega)) hK hU (by omega)  hP
  · replace hP := zE_n hP h2
    refine wz_i0 (i3O (n := 6) (rfl : i3 x1 = i3 x1) (by omega) (by omega) (by omega)) ?_
    have r3 := zH_f hZ 42 x0b x1 2
    refine wz_br (i3Le (zm_rd (Z := Z) (ν := ν) (k := 42) (rfl : ((x0b : Nat) : Int) = x0b) (i3I (y := x1) (rfl : i3 x1 = i3 x1) (by omega) (by omega) (by omega)) (show ((2 : Nat) : Int) = 2 from rfl)) (show (0 : Int32) = i3 0 from rfl) (by omega) (by omega) (by omega) (by omega)) (fun h4 => ?_) (fun h4 => ?_)
    · replace hP := zE_p hP h4
      obtain ⟨m2, rfl⟩ : ∃ m2, m = m2 + 1 := ⟨m - 1, by omega⟩
      exact wz_k1 ⟨m2, by omega, xM9, Z, (x1 + 1), (zconso rfl (zconso (zvo (i3A (rfl : i3 x1 = i3 x1) (show (1 : Int32) = i3 1 from rfl))) (zconso rfl rfl))), rfl, by omega, hZ, hK, hU, by omega, by omega,  hP⟩
    · replace hP := zE_n hP h4
      refine wz_i1 (Eq.trans (i3NE (zm_rd (Z := Z) (ν := ν) (k := 42) (rfl : ((x0b : Nat) : Int) = x0b) (i3I (y := x1) (rfl : i3 x1 = i3 x1) (by omega) (by omega) (by omega)) (show ((2 : Nat) : Int) = 2 from rfl)) (show (0 : Int32) = i3 0 from rfl) (by omega) (by omega) (by omega) (by omega)) (decide_eq_true (by omega))) ?_
      have r5 := zH_f hZ 14 x0b 0 0
      have r6 := w3_r ((Z 14 x0b 0 0) - (Z 42 x0b x1 2))
      obtain ⟨Z7, hZ7⟩ := zx (zu Z 14 x0b 0 0 (w3 ((Z 14 x0b 0 0) - (Z 42 x0b x1 2))))
      replace hP := zl_e hP hZ7
      have hZ7I := zH_u hZ hZ7 (lo := -2147483648) (hi := 2147483647) (by decide) rfl (by omega) ⟨by decide, by decide⟩ (Or.inl (by decide)) rfl
      have hZ7U : zU [x0b] Zs Z7 := zU_u hU hZ7 (Or.inr (List.Mem.head _))
      have hZ7K : zC [14, 42, 53, 1112] Zs Z7 := zC_u hK hZ7 (by decide)
      intro μ9 e9
      replace e9 := e9.trans (zm_wI (Z := Z) (ν := ν) hZ7 (rfl : ((x0b : Nat) : Int) = x0b) (show ((0 : Nat) : Int) = 0 from rfl) (show ((0 : Nat) : Int) = 0 from rfl) (i3W (i3S (zm_rd (Z := Z) (ν := ν) (k := 14) (rfl : ((x0b : Nat) : Int) = x0b) (show ((0 : Nat) : Int) = 0 from rfl) (show ((0 : Nat) : Int) = 0 from rfl)) (zm_rd (Z := Z) (ν := ν) (k := 42) (rfl : ((x0b : Nat) : Int) = x0b) (i3I (y := x1) (rfl : i3 x1 = i3 x1) (by omega) (by omega) (by omega)) (show ((2 : Nat) : Int) = 2 from rfl)))))
      subst e9
      have r8 := zH_f hZ7I 14 x0b 0 2
      have r9 := w3_r ((Z7 14 x0b 0 2) + (Z 42 x0b x1 2))
      obtain ⟨Z10, hZ10⟩ := zx (zu Z7 14 x0b 0 2 (w3 ((Z7 14 x0b 0 2) + (Z 42 x0b x1 2))))
      replace hP := zl_e hP hZ10
      have hZ10I := zH_u hZ7I hZ10 (lo := -2147483648) (hi := 2147483647) (by decide) rfl (by omega) ⟨by decide, by decide⟩ (Or.inl (by decide)) rfl
      have hZ10U : zU [x0b] Zs Z10 := zU_u hZ7U hZ10 (Or.inr (List.Mem.head _))
      have hZ10K : zC [14, 42, 53, 1112] Zs Z10 := zC_u hZ7K hZ10 (by decide)
      intro μ9 e9
      replace e9 := e9.trans (zm_wI (Z := Z7) (ν := ν) hZ10 (rfl : ((x0b : Nat) : Int) = x0b) (show ((0 : Nat) : Int) = 0 from rfl) (show ((2 : Nat) : Int) = 2 from rfl) (i3W (i3A (zm_rd (Z := Z7) (ν := ν) (k := 14) (rfl : ((x0b : Nat) : Int) = x0b) (show ((0 : Nat) : Int) = 0 from rfl) (show ((2 : Nat) : Int) = 2 from rfl)) (zm_rd (Z := Z) (ν := ν) (k := 42) (rfl : ((x0b : Nat) : Int) = x0b) (i3I (y := x1) (rfl : i3 x1 = i3 x1) (by omega) (by omega) (by omega)) (show ((2 : Nat) : Int) = 2 from rfl)))))
      subst e9
      have r11 := zH_c12 hZ10I x0b (zbh (c := 0) (k := 0) hM9 (Nat.le_of_ble_eq_true rfl))
      refine wz_i0 (i3O (n := 60) (i3R (zm_rd (Z := Z10) (ν := ν) (k := 11) (rfl : ((x0b : Nat) : Int) = x0b) (show ((0 : Nat) : Int) = 0 from rfl) (show ((12 : Nat) : Int) = 12 from rfl)) (show (60 : Int32) = i3 60 from rfl) (by omega) (by omega) (by omega) (by omega)) (by omega) (by omega) (by omega)) ?_
      obtain ⟨Z12, hZ12⟩ := zx (zu Z10 53 x0b ((Z10 11 x0b 0 12) % 60) 0 0)
      replace hP := zl_e hP hZ12
      have hZ12I := zH_0 hZ10I hZ12 (by decide) (Or.inl (by decide))
      have hZ12U : zU [x0b] Zs Z12 := zU_u hZ10U hZ12 (Or.inr (List.Mem.head _))
      have hZ12K : zC [14, 42, 53, 1112] Zs Z12 := zC_u hZ10K hZ12 (by decide)
      intro μ9 e9
      replace e9 := e9.trans (zm_wI (Z := Z10) (ν := ν) hZ12 (rfl : ((x0b : Nat) : Int) = x0b) (i3I (y := ((Z10 11 x0b 0 12) % 60)) (i3R (zm_rd (Z := Z10) (ν := ν) (k := 11) (rfl : ((x0b : Nat) : Int) = x0b) (show ((0 : Nat) : Int) = 0 from rfl) (show ((12 : Nat) : Int) = 12 from rfl)) (show (60 : Int32) = i3 60 from rfl) (by omega) (by omega) (by omega) (by omega)) (by omega) (by omega) (by omega)) (show ((0 : Nat) : Int) = 0 from rfl) (show (0 : Int32) = i3 0 from rfl))
      subst e9
      obtain ⟨Z13, hZ13⟩ := zx (zu Z12 53 x0b ((Z10 11 x0b 0 12) % 60) 1 2)
      replace hP := zl_e hP hZ13
      have hZ13I := zH_u hZ12I hZ13 (lo := -2147483648) (hi := 2147483647) (by decide) rfl (by omega) ⟨by decide, by decide⟩ (Or.inl (by decide)) rfl
      have hZ13U : zU [x0b] Zs Z13 := zU_u hZ12U hZ13 (Or.inr (List.Mem.head _))
      have hZ13K : zC [14, 42, 53, 1112] Zs Z13 := zC_u hZ12K hZ13 (by decide)
      intro μ9 e9
      replace e9 := e9.trans (zm_wI (Z := Z12) (ν := ν) hZ13 (rfl : ((x0b : Nat) : Int) = x0b) (i3I (y := ((Z10 11 x0b 0 12) % 60)) (i3R (zm_rd (Z := Z10) (ν := ν) (k := 11) (rfl : ((x0b : Nat) : Int) = x0b) (show ((0 : Nat) : Int) = 0 from rfl) (show ((12 : Nat) : Int) = 12 from rfl)) (show (60 : Int32) = i3 60 from rfl) (by omega) (by omega) (by omega) (by omega)) (by omega) (by omega) (by omega)) (show ((1 : Nat) : Int) = 1 from rfl) (show (2 : Int32) = i3 2 from rfl))
      subst e9
      obtain ⟨Z14, hZ14⟩ := zx (zu Z13 53 x0b ((Z10 11 x0b 0 12) % 60) 2 (Z 42 x0b x1 2))
      replace hP := zl_e hP hZ14
      have hZ14I := zH_u hZ13I hZ14 (lo := -2147483648) (hi := 2147483647) (by decide) rfl (by omega) ⟨by decide, by decide⟩ (Or.inl (by decide)) rfl
      have hZ14U : zU [x0b] Zs Z14 := zU_u hZ13U hZ14 (Or.inr (List.Mem.head _))
      have hZ14K : zC [14, 42, 53, 1112] Zs Z14 := zC_u hZ13K hZ14 (by decide)
      intro μ9 e9
      replace e9 := e9.trans (zm_wI (Z := Z13) (ν := ν) hZ14 (rfl : ((x0b : Nat) : Int) = x0b) (i3I (y := ((Z10 11 x0b 0 12) % 60)) (i3R (zm_rd (Z := Z10) (ν := ν) (k := 11) (rfl : ((x0b : Nat) : Int) = x0b) (show ((0 : Nat) : Int) = 0 from rfl) (show ((12 : Nat) : Int) = 12 from rfl)) (show (60 : Int32) = i3 60 from rfl) (by omega) (by omega) (by omega) (by omega)) (by omega) (by omega) (by omega)) (show ((2 : Nat) : Int) = 2 from rfl) (zm_rd (Z := Z) (ν := ν) (k := 42) (rfl : ((x0b : Nat) : Int) = x0b) (i3I (y := x1) (rfl : i3 x1 = i3 x1) (by omega) (by omega) (by omega)) (show ((2 : Nat) : Int) = 2 from rfl)))
      subst e9
      obtain ⟨Z15, hZ15⟩ := zx (zu Z14 53 x0b ((Z10 11 x0b 0 12) % 60) 3 (-1))
      replace hP := zl_e hP hZ15
      have hZ15I := zH_u hZ14I hZ15 (lo := -2147483648) (hi := 2147483647) (by decide) rfl (by omega) ⟨by decide, by decide⟩ (Or.inl (by decide)) rfl
      have hZ15U : zU [x0b] Zs Z15 := zU_u hZ14U hZ15 (Or.inr (List.Mem.head _))
      have hZ15K : zC [14, 42, 53, 1112] Zs Z15 := zC_u hZ14K hZ15 (by decide)
      intro μ9 e9
      replace e9 := e9.trans (zm_wI (Z := Z14) (ν := ν) hZ15 (rfl : ((x0b : Nat) : Int) = x0b) (i3I (y := ((Z10 11 x0b 0 12) % 60)) (i3R (zm_rd (Z := Z10) (ν := ν) (k := 11) (rfl : ((x0b : Nat) : Int) = x0b) (show ((0 : Nat) : Int) = 0 from rfl) (show ((12 : Nat) : Int) = 12 from rfl)) (show (60 : Int32) = i3 60 from rfl) (by omega) (by omega) (by omega) (by omega)) (by omega) (by omega) (by omega)) (show ((3 : Nat) : Int) = 3 from rfl) (show (-1 : Int32) = i3 (-1) from rfl))
      subst e9
      have r16 := zH_k hZ15I 11 x0b 0 13 (lo := 0) (hi := 671) (by decide) rfl
      obtain ⟨Z17, hZ17⟩ := zx (zu Z15 53 x0b ((Z10 11 x0b 0 12) % 60) 4 (Z15 11 x0b 0 13))
      replace hP := zl_e hP hZ17
      have hZ17I := zH_u hZ15I hZ17 (lo := -2147483648) (hi := 2147483647) (by decide) rfl (by omega) ⟨by decide, by decide⟩ (Or.inl (by decide)) rfl
      have hZ17U : zU [x0b] Zs Z17 := zU_u hZ15U hZ17 (Or.inr (List.Mem.head _))
      have hZ17K : zC [14, 42, 53, 1112] Zs Z17 := zC_u hZ15K hZ17 (by decide)
      intro μ9 e9
      replace e9 := e9.trans (zm_wI (Z := Z15) (ν := ν) hZ17 (rfl : ((x0b : Nat) : Int) = x0b) (i3I (y := ((Z10 11 x0b 0 12) % 60)) (i3R (zm_rd (Z := Z10) (ν := ν) (k := 11) (rfl : ((x0b : Nat) : Int) = x0b) (show ((0 : Nat) : Int) = 0 from rfl) (show ((12 : Nat) : Int) = 12 from rfl)) (show (60 : Int32) = i3 60 from rfl) (by omega) (by omega) (by omega) (by omega)) (by omega) (by omega) (by omega)) (show ((4 : Nat) : Int) = 4 from rfl) (zm_rd (Z := Z15) (ν := ν) (k := 11) (rfl : ((x0b : Nat) : Int) = x0b) (show ((0 : Nat) : Int) = 0 from rfl) (show ((13 : Nat) : Int) = 13 from rfl)))
      subst e9
      have r18 := zH_c12 hZ17I x0b (zbh (c := 0) (k := 0) hM9 (Nat.le_of_ble_eq_true rfl))
      have q19 := (zu_ne (k' := 11) (b' := x0b) (i' := 0) (j' := 12) hZ17 (fun q => absurd q.1 (by decide))).trans ((zu_ne (k' := 11) (b' := x0b) (i' := 0) (j' := 12) hZ15 (fun q => absurd q.1 (by decide))).trans ((zu_ne (k' := 11) (b' := x0b) (i' := 0) (j' := 12) hZ14 (fun q => absurd q.1 (by decide))).trans ((zu_ne (k' := 11) (b' := x0b) (i' := 0) (j' := 12) hZ13 (fun q => absurd q.1 (by decide))).trans (zu_ne (k' := 11) (b' := x0b) (i' := 0) (j' := 12) hZ12 (fun q => absurd q.1 (by decide))))))
      obtain ⟨Z20, hZ20⟩ := zx (zu Z17 11 x0b 0 12 ((Z17 11 x0b 0 12) + 1))
      replace hP := zl_e hP hZ20
      have hZ20I := zH_i12 hZ17I hZ20 (zbh (c := 0) (k := 1) hM9 (Nat.le_of_ble_eq_true rfl)) (by omega)
      have hZ20U : zU [x0b] Zs Z20 := zU_u hZ17U hZ20 (Or.inr (List.Mem.head _))
      have hZ20K : zC [14, 42, 53, 1112] Zs Z20 := zC_u hZ17K hZ20 (by decide)
      intro μ9 e9
      replace e9 := e9.trans (zm_wI (Z := Z17) (ν := ν) hZ20 (rfl : ((x0b : Nat) : Int) = x0b) (show ((0 : Nat) : Int) = 0 from rfl) (show ((12 : Nat) : Int) = 12 from rfl) (i3A (zm_rd (Z := Z17) (ν := ν) (k := 11) (rfl : ((x0b : Nat) : Int) = x0b) (show ((0 : Nat) : Int) = 0 from rfl) (show ((12 : Nat) : Int) = 12 from rfl)) (show (1 : Int32) = i3 1 from rfl)))
      subst e9
      have r21 := zH_f hZ20I 42 x0b x1 6
      have r22 := zH_f hZ20I 42 x0b x1 2
      have q23 := (zu_ne (k' := 42) (b' := x0b) (i' := x1) (j' := 2) hZ20 (fun q => absurd q.1 (by decide))).trans ((zu_ne (k' := 42) (b' := x0b) (i' := x1) (j' := 2) hZ17 (fun q => absurd q.1 (by decide))).trans ((zu_ne (k' := 42) (b' := x0b) (i' := x1) (j' := 2) hZ15 (fun q => absurd q.1 (by decide))).trans ((zu_ne (k' := 42) (b' := x0b) (i' := x1) (j' := 2) hZ14 (fun q => absurd q.1 (by decide))).trans ((zu_ne (k' := 42) (b' := x0b) (i' := x1) (j' := 2) hZ13 (fun q => absurd q.1 (by decide))).trans ((zu_ne (k' := 42) (b' := x0b) (i' := x1) (j' := 2) hZ12 (fun q => absurd q.1 (by decide))).trans ((zu_ne (k' := 42) (b' := x0b) (i' := x1) (j' := 2) hZ10 (fun q => absurd q.1 (by decide))).trans (zu_ne (k' := 42) (b' := x0b) (i' := x1) (j' := 2) hZ7 (fun q => absurd q.1 (by decide)))))))))
      have r24 := w3_r ((Z20 42 x0b x1 6) + (Z20 42 x0b x1 2))
      obtain ⟨Z25, hZ25⟩ := zx (zu Z20 42 x0b x1 6 (w3 ((Z20 42 x0b x1 6) + (Z20 42 x0b x1 2))))
      replace hP := zl_e hP hZ25
      have hZ25I := zH_u hZ20I hZ25 (lo := -2147483648) (hi := 2147483647) (by decide) rfl (by omega) ⟨by decide, by decide⟩ (Or.inl (by decide)) rfl
      have hZ25U : zU [x0b] Zs Z25 := zU_u hZ20U hZ25 (Or.inr (List.Mem.head _))
      have hZ25K : zC [14, 42, 53, 1112] Zs Z25 := zC_u hZ20K hZ25 (by decide)
      intro μ9 e9
      replace e9 := e9.trans (zm_wI (Z := Z20) (ν := ν) hZ25 (rfl : ((x0b : Nat) : Int) = x0b) (i3I (y := x1) (rfl : i3 x1 = i3 x1) (by omega) (by omega) (by omega)) (show ((6 : Nat) : Int) = 6 from rfl) (i3W (i3A (zm_rd (Z := Z20) (ν := ν) (k := 42) (rfl : ((x0b : Nat) : Int) = x0b) (i3I (y := x1) (rfl : i3 x1 = i3 x1) (by omega) (by omega) (by omega)) (show ((6 : Nat) : Int) = 6 from rfl)) (zm_rd (Z := Z20) (ν := ν) (k := 42) (rfl : ((x0b : Nat) : Int) = x0b) (i3I (y := x1) (rfl : i3 x1 = i3 x1) (by omega) (by omega) (by omega)) (show ((2 : Nat) : Int) = 2 from rfl)))))
      subst e9
      obtain ⟨Z26, hZ26⟩ := zx (zu Z25 42 x0b x1 2 0)
      replace hP := zl_e hP hZ26
      have hZ26I := zH_0 hZ25I hZ26 (by decide) (Or.inl (by decide))
      have hZ26U : zU [x0b] Zs Z26 := zU_u hZ25U hZ26 (Or.inr (List.Mem.head _))
      have hZ26K : zC [14, 42, 53, 1112] Zs Z26 := zC_u hZ25K hZ26 (by decide)
      intro μ9 e9
      replace e9 := e9.trans (zm_wI (Z := Z25) (ν := ν) hZ26 (rfl : ((x0b : Nat) : Int) = x0b) (i3I (y := x1) (rfl : i3 x1 = i3 x1) (by omega) (by omega) (by omega)) (show ((2 : Nat) : Int) = 2 from rfl) (show (0 : Int32) = i3 0 from rfl))
      subst e9
      obtain ⟨m2, rfl⟩ : ∃ m2, m = m2 + 1 := ⟨m - 1, by omega⟩
      exact wz_k1 ⟨m2, by omega, xM9 + 1, Z26, (x1 + 1), (zconso rfl (zconso (zvo (i3A (rfl : i3 x1 = i3 x1) (show (1 : Int32) = i3 1 from rfl))) (zconso rfl rfl))), rfl, by omega, (zbt hZ26I rfl), hZ26K, hZ26U, by omega, by omega,  hP⟩
/- yX0_payOut -/
def zf_8 (Z : qz_Z) (a0b : Int) : qz_Z := (zlet2 (zl_8_1 a0b 7 Z 0) (fun Z2 y1 => Z2))
theorem sp_8 {s : zSM} {Z : qz_Z} {ν : qz_N} (hZ : zH s Z) (a0b : Nat) (hM : s.2 + 7 ≤ 1000000000) : ∃ P : qz_Z, P = zf_8 Z a0b ∧ (qf_8 [.inr (.inr (some (10, a0b, 0)))] (zm Z ν) = some (zm P ν, .inl none) ∧ zH (zb s 7) P ∧ zC [14, 42, 53, 1112] Z P ∧ zU [a0b] Z P) := by
  obtain ⟨P, hP⟩ := zx (zf_8 Z a0b)
  refine zc_V (Q := fun P => zH (zb s 7) P ∧ zC [14, 42, 53, 1112] Z P ∧ zU [a0b] Z P) hP (fw_8 a0b _ _ ?_)
  replace hP : zE P (zf_8 Z a0b) := hP
  unfold zf_8 at hP
  refine sl_8_1 (ν := ν) (zb0 hZ) (zbh (c := 0) (k := 7) hM (Nat.le_of_ble_eq_true rfl)) (xM9 := 0) zC_r a0b (x1 := 0) (by omega) zU_r (Nat.le_of_ble_eq_true rfl)  (zconso rfl (zconso (zvo (show (0 : Int32) = i3 0 from rfl)) (zconso rfl rfl))) rfl ?_
  intro L3 Z2 y1 hL3 hZ2I kZ2 jZ2 gy1 q9
  replace hP := zl_e2 hP (Eq.symm q9)
  clear q9
  have hZ2U : zU [a0b] Z Z2 := zU_t zU_r jZ2 (zU_b1 (List.Mem.head _) zU_b0)
  have hZ2K : zC [14, 42, 53, 1112] Z Z2 := zC_t zC_r kZ2 (by decide)
  refine fc_8_2  _ _ _ _ hL3 ?_
  exact zlV hP ⟨hZ2I, hZ2K, hZ2U⟩
/- yX0_closeDay -/
def zl_4_1 (x0b : Int) : Nat → qz_Z → Int → Int → qz_Z × Int × Int
  | 0, Z, x1, x2 => (Z, x1, x2)
  | m + 1, Z, x1, x2 => (if (Z 11 x0b 0 2) ≤ x2 then (Z, x1, x2) else (zlet (zu Z 43 x0b x2 9 0) (fun Z3 => zl_4_1 x0b m Z3 (w3 (x1 + (Z 43 x0b x2 9))) (x2 + 1))))
theorem sl_4_1 {s : zSM} {Zs Z : qz_Z} {ν : qz_N} (hZ : zH s Z) (hM : s.2 + 0 ≤ 1000000000) (hK : zC [43] Zs Z) (x0b : Nat) {x1 : Int} (gx1 : -2147483648 ≤ x1 ∧ x1 ≤ 2147483647) {x2 : Int} (gx2 : 0 ≤ x2 ∧ x2 ≤ 6) (hU : zU [x0b] Zs Z) {k : wz_K} {R : wz_R} {L : qz_L} (hL : qz_fg [true, true, true, false] L = [some (.inr (.inr (some (10, x0b, 0)))), some (.inl (i3 x1)), some (.inl (i3 x2)), none]) {T : qz_Z × Int × Int} (hP : zE T (zl_4_1 x0b ((6 - x2).toNat + 1) Z x1 x2)) (hk : ∀ (L9 : qz_L) (Z9 : qz_Z) (yx1 yx2 : Int), qz_fg [true, true, false, false] L9 = [some (.inr (.inr (some (10, x0b, 0)))), some (.inl (i3 yx1)), none, none] → zH s Z9 → zC [43] Zs Z9 → zU [x0b] Zs Z9 → (-2147483648 ≤ yx1 ∧ yx1 ≤ 2147483647) → (0 ≤ yx2 ∧ yx2 ≤ 6) → zE T ((Z9, yx1, yx2)) → k 0 (L9, [], zm Z9 ν)) : wz_loop qb_4_1 65536 k R (L, [], zm Z ν) := by
  refine wz_lp sb_4_1 (fun m x => ∃ Z : qz_Z, ∃ x1 : Int, ∃ x2 : Int, qz_fg [true, true, true, false] x.1 = [some (.inr (.inr (some (10, x0b, 0)))), some (.inl (i3 x1)), some (.inl (i3 x2)), none] ∧ x.2 = ([], zm Z ν) ∧ zH s Z ∧ zC [43] Zs Z ∧ zU [x0b] Zs Z ∧ m = (6 - x2).toNat ∧ (-2147483648 ≤ x1 ∧ x1 ≤ 2147483647) ∧ (0 ≤ x2 ∧ x2 ≤ 6) ∧ zE T (zl_4_1 x0b (m + 1) Z x1 x2)) ?_ 65536 ((6 - x2).toNat) _ (by omega) ⟨Z, x1, x2, hL, rfl, hZ, hK, hU, rfl, gx1, gx2, hP⟩
  clear hP gx1 gx2 hZ hK hU hL
  clear x1 x2
  clear Z
  rintro m ⟨L, st, μ⟩ ⟨Z, x1, x2, hL, hx, hZ, hK, hU, hm, gx1, gx2, hP⟩
  cases hx
  refine fb_4_1 x0b (i3 x1) (i3 x2) _ _ _ _ hL ?_
  have r1 := zH_k hZ 11 x0b 0 2 (lo := 0) (hi := 6) (by decide) rfl
  refine wz_br (i3Le (zm_rd (Z := Z) (ν := ν) (k := 11) (rfl : ((x0b : Nat) : Int) = x0b) (show ((0 : Nat) : Int) = 0 from rfl) (show ((2 : Nat) : Int) = 2 from rfl)) (rfl : i3 x2 = i3 x2) (by omega) (by omega) (by omega) (by omega)) (fun h2 => ?_) (fun h2 => ?_)
  · replace hP := zE_p hP h2
    exact hk _ _ _ _ (zconso rfl (zconso (zvo (rfl : i3 x1 = i3 x1)) (zconso rfl (zconso rfl rfl)))) hZ hK hU (by omega) (by omega)  hP
  · replace hP := zE_n hP h2
    refine wz_i0 (i3O (n := 6) (rfl : i3 x2 = i3 x2) (by omega) (by omega) (by omega)) ?_
    refine wz_i0 (i3O (n := 6) (rfl : i3 x2 = i3 x2) (by omega) (by omega) (by omega)) ?_
    obtain ⟨Z3, hZ3⟩ := zx (zu Z 43 x0b x2 9 0)
    replace hP := zl_e hP hZ3
    have hZ3I := zH_0 hZ hZ3 (by decide) (Or.inl (by decide))
    have hZ3U : zU [x0b] Zs Z3 := zU_u hU hZ3 (Or.inr (List.Mem.head _))
    have hZ3K : zC [43] Zs Z3 := zC_u hK hZ3 (by decide)
    intro μ9 e9
    replace e9 := e9.trans (zm_wI (Z := Z) (ν := ν) hZ3 (rfl : ((x0b : Nat) : Int) = x0b) (i3I (y := x2) (rfl : i3 x2 = i3 x2) (by omega) (by omega) (by omega)) (show ((9 : Nat) : Int) = 9 from rfl) (show (0 : Int32) = i3 0 from rfl))
    subst e9
    have r4 := zH_f hZ 43 x0b x2 9
    have r5 := w3_r (x1 + (Z 43 x0b x2 9))
    obtain ⟨m2, rfl⟩ : ∃ m2, m = m2 + 1 := ⟨m - 1, by omega⟩
    exact wz_k1 ⟨m2, by omega, Z3, (w3 (x1 + (Z 43 x0b x2 9))), (x2 + 1), (zconso rfl (zconso (zvo (i3W (i3A (rfl : i3 x1 = i3 x1) (zm_rd (Z := Z) (ν := ν) (k := 43) (rfl : ((x0b : Nat) : Int) = x0b) (i3I (y := x2) (rfl : i3 x2 = i3 x2) (by omega) (by omega) (by omega)) (show ((9 : Nat) : Int) = 9 from rfl))))) (zconso (zvo (i3A (rfl : i3 x2 = i3 x2) (show (1 : Int32) = i3 1 from rfl))) (zconso rfl rfl)))), rfl, hZ3I, hZ3K, hZ3U, by omega, by omega, by omega,  hP⟩
/- yX1_payBillsOf -/
def zl_30_1 (x0b : Int) (x3ij : Int) (x1 : Int) (x2 : Int) : Nat → qz_Z → Int → qz_Z × Int
  | 0, Z, x4 => (Z, x4)
  | m + 1, Z, x4 => (if (Z 11 x0b 0 6) ≤ x4 then (Z, x4) else (if (Z 47 x0b x4 1) ≠ x1 then zl_30_1 x0b x3ij x1 x2 m Z (x4 + 1) else (if (Z 47 x0b x4 20) ≠ x2 then zl_30_1 x0b x3ij x1 x2 m Z (x4 + 1) else (if (Z 47 x0b x4 19) ≤ 0 then zl_30_1 x0b x3ij x1 x2 m Z (x4 + 1) else (zlet (zu Z 47 x0b x4 19 (w3 ((Z 47 x0b x4 19) - (min (Z 47 x0b x4 19) (Z 45 x0b x3ij 3))))) (fun Z11 => (zlet (zu Z11 45 x0b x3ij 4 (w3 ((Z11 45 x0b x3ij 4) - (min (Z 47 x0b x4 19) (Z 45 x0b x3ij 3))))) (fun Z14 => (zlet (zu Z14 45 x0b x3ij 3 (w3 ((Z14 45 x0b x3ij 3) - (min (Z 47 x0b x4 19) (Z 45 x0b x3ij 3))))) (fun Z18 => (if (Z18 47 x0b x4 19) ≤ 0 then zl_30_1 x0b x3ij x1 x2 m Z18 (x4 + 1) else (zlet (zu Z18 45 x0b x3ij 7 1) (fun Z22 => zl_30_1 x0b x3ij x1 x2 m Z22 (x4 + 1))))))))))))))
theorem sl_30_1 {s : zSM} {Zs Z : qz_Z} {ν : qz_N} (hZ : zH s Z) (hM : s.2 + 0 ≤ 1000000000) (hK : zC [45, 47] Zs Z) (x0b : Nat) (x3i : Nat) {x3ij : Int} (ex3i : (x3i : Int) = x3ij) (gx3ij : 0 ≤ x3ij ∧ x3ij ≤ 7) {x1 : Int} (gx1 : 0 ≤ x1 ∧ x1 ≤ 7) {x2 : Int} (gx2 : 0 ≤ x2 ∧ x2 ≤ 26) {x4 : Int} (gx4 : 0 ≤ x4 ∧ x4 ≤ 60) (hU : zU [x0b] Zs Z) {k : wz_K} {R : wz_R} {L : qz_L} (hL : qz_fg [true, true, true, true, true, false, false] L = [some (.inr (.inr (some (10, x0b, 0)))), some (.inl (i3 x1)), some (.inl (i3 x2)), some (.inr (.inr (some (45, x0b, x3i)))), some (.inl (i3 x4)), none, none]) {T : qz_Z × Int} (hP : zE T (zl_30_1 x0b x3ij x1 x2 ((60 - x4).toNat + 1) Z x4)) (hk : ∀ (L9 : qz_L) (Z9 : qz_Z) (yx4 : Int), qz_fg [false, false, false, false, false, false, false] L9 = [none, none, none, none, none, none, none] → zH s Z9 → zC [45, 47] Zs Z9 → zU [x0b] Zs Z9 → (0 ≤ yx4 ∧ yx4 ≤ 60) → zE T ((Z9, yx4)) → k 0 (L9, [], zm Z9 ν)) : wz_loop qb_30_1 65536 k R (L, [], zm Z ν) := by
  refine wz_lp sb_30_1 (fun m x => ∃ Z : qz_Z, ∃ x4 : Int, qz_fg [true, true, true, true, true, false, false] x.1 = [some (.inr (.inr (some (10, x0b, 0)))), some (.inl (i3 x1)), some (.inl (i3 x2)), some (.inr (.inr (some (45, x0b, x3i)))), some (.inl (i3 x4)), none, none] ∧ x.2 = ([], zm Z ν) ∧ zH s Z ∧ zC [45, 47] Zs Z ∧ zU [x0b] Zs Z ∧ m = (60 - x4).toNat ∧ (0 ≤ x4 ∧ x4 ≤ 60) ∧ zE T (zl_30_1 x0b x3ij x1 x2 (m + 1) Z x4)) ?_ 65536 ((60 - x4).toNat) _ (by omega) ⟨Z, x4, hL, rfl, hZ, hK, hU, rfl, gx4, hP⟩
  clear hP gx4 hZ hK hU hL
  clear x4
  clear Z
  rintro m ⟨L, st, μ⟩ ⟨Z, x4, hL, hx, hZ, hK, hU, hm, gx4, hP⟩
  cases hx
  refine fb_30_1 x0b (i3 x1) (i3 x2) x3i (i3 x4) _ _ _ _ hL ?_
  have r1 := zH_k hZ 11 x0b 0 6 (lo := 0) (hi := 60) (by decide) rfl
  refine wz_br (i3Le (zm_rd (Z := Z) (ν := ν) (k := 11) (rfl : ((x0b : Nat) : Int) = x0b) (show ((0 : Nat) : Int) = 0 from rfl) (show ((6 : Nat) : Int) = 6 from rfl)) (rfl : i3 x4 = i3 x4) (by omega) (by omega) (by omega) (by omega)) (fun h2 => ?_) (fun h2 => ?_)
  · replace hP := zE_p hP h2
    exact hk _ _ _ (zconso rfl (zconso rfl (zconso rfl (zconso rfl (zconso rfl (zconso rfl (zconso rfl rfl))))))) hZ hK hU (by omega)  hP
  · replace hP := zE_n hP h2
    refine wz_i0 (i3O (n := 60) (rfl : i3 x4 = i3 x4) (by omega) (by omega) (by omega)) ?_
    have r3 := zH_k hZ 47 x0b x4 1 (lo := 0) (hi := 7) (by decide) rfl
    refine wz_br (i3NE (zm_rd (Z := Z) (ν := ν) (k := 47) (rfl : ((x0b : Nat) : Int) = x0b) (i3I (y := x4) (rfl : i3 x4 = i3 x4) (by omega) (by omega) (by omega)) (show ((1 : Nat) : Int) = 1 from rfl)) (rfl : i3 x1 = i3 x1) (by omega) (by omega) (by omega) (by omega)) (fun h4 => ?_) (fun h4 => ?_)
    · replace hP := zE_p hP h4
      obtain ⟨m2, rfl⟩ : ∃ m2, m = m2 + 1 := ⟨m - 1, by omega⟩
      exact wz_k1 ⟨m2, by omega, Z, (x4 + 1), (zconso rfl (zconso (zvo (rfl : i3 x1 = i3 x1)) (zconso (zvo (rfl : i3 x2 = i3 x2)) (zconso rfl (zconso (zvo (i3A (rfl : i3 x4 = i3 x4) (show (1 : Int32) = i3 1 from rfl))) (zconso rfl (zconso rfl rfl))))))), rfl, hZ, hK, hU, by omega, by omega,  hP⟩
    · replace hP := zE_n hP h4
      have r5 := zH_k hZ 47 x0b x4 20 (lo := 0) (hi := 41) (by decide) rfl
      refine wz_br (i3NE (zm_rd (Z := Z) (ν := ν) (k := 47) (rfl : ((x0b : Nat) : Int) = x0b) (i3I (y := x4) (rfl : i3 x4 = i3 x4) (by omega) (by omega) (by omega)) (show ((20 : Nat) : Int) = 20 from rfl)) (rfl : i3 x2 = i3 x2) (by omega) (by omega) (by omega) (by omega)) (fun h6 => ?_) (fun h6 => ?_)
      · replace hP := zE_p hP h6
        obtain ⟨m2, rfl⟩ : ∃ m2, m = m2 + 1 := ⟨m - 1, by omega⟩
        exact wz_k1 ⟨m2, by omega, Z, (x4 + 1), (zconso rfl (zconso (zvo (rfl : i3 x1 = i3 x1)) (zconso (zvo (rfl : i3 x2 = i3 x2)) (zconso rfl (zconso (zvo (i3A (rfl : i3 x4 = i3 x4) (show (1 : Int32) = i3 1 from rfl))) (zconso rfl (zconso rfl rfl))))))), rfl, hZ, hK, hU, by omega, by omega,  hP⟩
      · replace hP := zE_n hP h6
        have r7 := zH_f hZ 47 x0b x4 19
        refine wz_br (i3Le (zm_rd (Z := Z) (ν := ν) (k := 47) (rfl : ((x0b : Nat) : Int) = x0b) (i3I (y := x4) (rfl : i3 x4 = i3 x4) (by omega) (by omega) (by omega)) (show ((19 : Nat) : Int) = 19 from rfl)) (show (0 : Int32) = i3 0 from rfl) (by omega) (by omega) (by omega) (by omega)) (fun h8 => ?_) (fun h8 => ?_)
        · replace hP := zE_p hP h8
          obtain ⟨m2, rfl⟩ : ∃ m2, m = m2 + 1 := ⟨m - 1, by omega⟩
          exact wz_k1 ⟨m2, by omega, Z, (x4 + 1), (zconso rfl (zconso (zvo (rfl : i3 x1 = i3 x1)) (zconso (zvo (rfl : i3 x2 = i3 x2)) (zconso rfl (zconso (zvo (i3A (rfl : i3 x4 = i3 x4) (show (1 : Int32) = i3 1 from rfl))) (zconso rfl (zconso rfl rfl))))))), rfl, hZ, hK, hU, by omega, by omega,  hP⟩
        · replace hP := zE_n hP h8
          have r9 := zH_f hZ 45 x0b x3ij 3
          have r10 := w3_r ((Z 47 x0b x4 19) - (min (Z 47 x0b x4 19) (Z 45 x0b x3ij 3)))
          obtain ⟨Z11, hZ11⟩ := zx (zu Z 47 x0b x4 19 (w3 ((Z 47 x0b x4 19) - (min (Z 47 x0b x4 19) (Z 45 x0b x3ij 3)))))
          replace hP := zl_e hP hZ11
          have hZ11I := zH_u hZ hZ11 (lo := -2147483648) (hi := 2147483647) (by decide) rfl (by omega) ⟨by decide, by decide⟩ (Or.inl (by decide)) rfl
          have hZ11U : zU [x0b] Zs Z11 := zU_u hU hZ11 (Or.inr (List.Mem.head _))
          have hZ11K : zC [45, 47] Zs Z11 := zC_u hK hZ11 (by decide)
          intro μ9 e9
          replace e9 := e9.trans (zm_wI (Z := Z) (ν := ν) hZ11 (rfl : ((x0b : Nat) : Int) = x0b) (i3I (y := x4) (rfl : i3 x4 = i3 x4) (by omega) (by omega) (by omega)) (show ((19 : Nat) : Int) = 19 from rfl) (i3W (i3S (zm_rd (Z := Z) (ν := ν) (k := 47) (rfl : ((x0b : Nat) : Int) = x0b) (i3I (y := x4) (rfl : i3 x4 = i3 x4) (by omega) (by omega) (by omega)) (show ((19 : Nat) : Int) = 19 from rfl)) (i3Mn (zm_rd (Z := Z) (ν := ν) (k := 47) (rfl : ((x0b : Nat) : Int) = x0b) (i3I (y := x4) (rfl : i3 x4 = i3 x4) (by omega) (by omega) (by omega)) (show ((19 : Nat) : Int) = 19 from rfl)) (zm_rd (Z := Z) (ν := ν) (k := 45) (rfl : ((x0b : Nat) : Int) = x0b) ex3i (show ((3 : Nat) : Int) = 3 from rfl)) (by omega) (by omega) (by omega) (by omega)))))
          subst e9
          have r12 := zH_f hZ11I 45 x0b x3ij 4
          have r13 := w3_r ((Z11 45 x0b x3ij 4) - (min (Z 47 x0b x4 19) (Z 45 x0b x3ij 3)))
          obtain ⟨Z14, hZ14⟩ := zx (zu Z11 45 x0b x3ij 4 (w3 ((Z11 45 x0b x3ij 4) - (min (Z 47 x0b x4 19) (Z 45 x0b x3ij 3)))))
          replace hP := zl_e hP hZ14
          have hZ14I := zH_u hZ11I hZ14 (lo := -2147483648) (hi := 2147483647) (by decide) rfl (by omega) ⟨by decide, by decide⟩ (Or.inl (by decide)) rfl
          have hZ14U : zU [x0b] Zs Z14 := zU_u hZ11U hZ14 (Or.inr (List.Mem.head _))
          have hZ14K : zC [45, 47] Zs Z14 := zC_u hZ11K hZ14 (by decide)
          intro μ9 e9
          replace e9 := e9.trans (zm_wI (Z := Z11) (ν := ν) hZ14 (rfl : ((x0b : Nat) : Int) = x0b) ex3i (show ((4 : Nat) : Int) = 4 from rfl) (i3W (i3S (zm_rd (Z := Z11) (ν := ν) (k := 45) (rfl : ((x0b : Nat) : Int) = x0b) ex3i (show ((4 : Nat) : Int) = 4 from rfl)) (i3Mn (zm_rd (Z := Z) (ν := ν) (k := 47) (rfl : ((x0b : Nat) : Int) = x0b) (i3I (y := x4) (rfl : i3 x4 = i3 x4) (by omega) (by omega) (by omega)) (show ((19 : Nat) : Int) = 19 from rfl)) (zm_rd (Z := Z) (ν := ν) (k := 45) (rfl : ((x0b : Nat) : Int) = x0b) ex3i (show ((3 : Nat) : Int) = 3 from rfl)) (by omega) (by omega) (by omega) (by omega)))))
          subst e9
          have r15 := zH_f hZ14I 45 x0b x3ij 3
          have q16 := (zu_ne (k' := 45) (b' := x0b) (i' := x3ij) (j' := 3) hZ14 (fun q => absurd q.2.2.2 (by decide))).trans (zu_ne (k' := 45) (b' := x0b) (i' := x3ij) (j' := 3) hZ11 (fun q => absurd q.1 (by decide)))
          have r17 := w3_r ((Z14 45 x0b x3ij 3) - (min (Z 47 x0b x4 19) (Z 45 x0b x3ij 3)))
          obtain ⟨Z18, hZ18⟩ := zx (zu Z14 45 x0b x3ij 3 (w3 ((Z14 45 x0b x3ij 3) - (min (Z 47 x0b x4 19) (Z 45 x0b x3ij 3)))))
          replace hP := zl_e hP hZ18
          have hZ18I := zH_u hZ14I hZ18 (lo := -2147483648) (hi := 2147483647) (by decide) rfl (by omega) ⟨by decide, by decide⟩ (Or.inl (by decide)) rfl
          have hZ18U : zU [x0b] Zs Z18 := zU_u hZ14U hZ18 (Or.inr (List.Mem.head _))
          have hZ18K : zC [45, 47] Zs Z18 := zC_u hZ14K hZ18 (by decide)
          intro μ9 e9
          replace e9 := e9.trans (zm_wI (Z := Z14) (ν := ν) hZ18 (rfl : ((x0b : Nat) : Int) = x0b) ex3i (show ((3 : Nat) : Int) = 3 from rfl) (i3W (i3S (zm_rd (Z := Z14) (ν := ν) (k := 45) (rfl : ((x0b : Nat) : Int) = x0b) ex3i (show ((3 : Nat) : Int) = 3 from rfl)) (i3Mn (zm_rd (Z := Z) (ν := ν) (k := 47) (rfl : ((x0b : Nat) : Int) = x0b) (i3I (y := x4) (rfl : i3 x4 = i3 x4) (by omega) (by omega) (by omega)) (show ((19 : Nat) : Int) = 19 from rfl)) (zm_rd (Z := Z) (ν := ν) (k := 45) (rfl : ((x0b : Nat) : Int) = x0b) ex3i (show ((3 : Nat) : Int) = 3 from rfl)) (by omega) (by omega) (by omega) (by omega)))))
          subst e9
          have r19 := zH_f hZ18I 47 x0b x4 19
          have q20 := (zu_ne (k' := 47) (b' := x0b) (i' := x4) (j' := 19) hZ18 (fun q => absurd q.1 (by decide))).trans ((zu_ne (k' := 47) (b' := x0b) (i' := x4) (j' := 19) hZ14 (fun q => absurd q.1 (by decide))).trans (zu_at hZ11))
          refine wz_br (i3Le (zm_rd (Z := Z18) (ν := ν) (k := 47) (rfl : ((x0b : Nat) : Int) = x0b) (i3I (y := x4) (rfl : i3 x4 = i3 x4) (by omega) (by omega) (by omega)) (show ((19 : Nat) : Int) = 19 from rfl)) (show (0 : Int32) = i3 0 from rfl) (by omega) (by omega) (by omega) (by omega)) (fun h21 => ?_) (fun h21 => ?_)
          · replace hP := zE_p hP h21
            obtain ⟨m2, rfl⟩ : ∃ m2, m = m2 + 1 := ⟨m - 1, by omega⟩
            exact wz_k1 ⟨m2, by omega, Z18, (x4 + 1), (zconso rfl (zconso (zvo (rfl : i3 x1 = i3 x1)) (zconso (zvo (rfl : i3 x2 = i3 x2)) (zconso rfl (zconso (zvo (i3A (rfl : i3 x4 = i3 x4) (show (1 : Int32) = i3 1 from rfl))) (zconso rfl (zconso rfl rfl))))))), rfl, hZ18I, hZ18K, hZ18U, by omega, by omega,  hP⟩
          · replace hP := zE_n hP h21
            obtain ⟨Z22, hZ22⟩ := zx (zu Z18 45 x0b x3ij 7 1)
            replace hP := zl_e hP hZ22
            have hZ22I := zH_u hZ18I hZ22 (lo := 0) (hi := 1) (by decide) rfl (by omega) ⟨by decide, by decide⟩ (Or.inl (by decide)) rfl
            have hZ22U : zU [x0b] Zs Z22 := zU_u hZ18U hZ22 (Or.inr (List.Mem.head _))
            have hZ22K : zC [45, 47] Zs Z22 := zC_u hZ18K hZ22 (by decide)
            intro μ9 e9
            replace e9 := e9.trans (zm_wI (Z := Z18) (ν := ν) hZ22 (rfl : ((x0b : Nat) : Int) = x0b) ex3i (show ((7 : Nat) : Int) = 7 from rfl) (show (1 : Int32) = i3 1 from rfl))
            subst e9
            obtain ⟨m2, rfl⟩ : ∃ m2, m = m2 + 1 := ⟨m - 1, by omega⟩
            exact wz_k1 ⟨m2, by omega, Z22, (x4 + 1), (zconso rfl (zconso (zvo (rfl : i3 x1 = i3 x1)) (zconso (zvo (rfl : i3 x2 = i3 x2)) (zconso rfl (zconso (zvo (i3A (rfl : i3 x4 = i3 x4) (show (1 : Int32) = i3 1 from rfl))) (zconso rfl (zconso rfl rfl))))))), rfl, hZ22I, hZ22K, hZ22U, by omega, by omega,  hP⟩
/- yX1_payBillsOf -/
def zf_30 (Z : qz_Z) (a0b : Int) (a1 : Int) (a2 : Int) : qz_Z := (zlet2 (zl_30_1 a0b a1 a1 a2 61 Z 0) (fun Z2 y1 => Z2))
theorem sp_30 {s : zSM} {Z : qz_Z} {ν : qz_N} (hZ : zH s Z) (a0b : Nat) {a1 : Int} (ga1 : 0 ≤ a1 ∧ a1 ≤ 7) {a2 : Int} (ga2 : 0 ≤ a2 ∧ a2 ≤ 26) (hM : s.2 + 0 ≤ 1000000000) : ∃ P : qz_Z, P = zf_30 Z a0b a1 a2 ∧ (qf_30 [.inr (.inr (some (10, a0b, 0))), .inl (i3 a1), .inl (i3 a2)] (zm Z ν) = some (zm P ν, .inl none) ∧ zH s P ∧ zC [45, 47] Z P ∧ zU [a0b] Z P) := by
  obtain ⟨P, hP⟩ := zx (zf_30 Z a0b a1 a2)
  refine zc_V (Q := fun P => zH s P ∧ zC [45, 47] Z P ∧ zU [a0b] Z P) hP (fw_30 a0b (i3 a1) (i3 a2) _ _ ?_)
  replace hP : zE P (zf_30 Z a0b a1 a2) := hP
  unfold zf_30 at hP
  refine wz_i0 (i3O (n := 8) (rfl : i3 a1 = i3 a1) (by omega) (by omega) (by omega)) ?_
  refine sl_30_1 (ν := ν) hZ (zbh (c := 0) (k := 0) hM (Nat.le_of_ble_eq_true rfl)) zC_r a0b _ (i3I (y := a1) (rfl : i3 a1 = i3 a1) (by omega) (by omega) (by omega)) (by omega) (x1 := a1) (by omega) (x2 := a2) (by omega) (x4 := 0) (by omega) zU_r  (zconso rfl (zconso (zvo (rfl : i3 a1 = i3 a1)) (zconso (zvo (rfl : i3 a2 = i3 a2)) (zconso rfl (zconso (zvo (show (0 : Int32) = i3 0 from rfl)) (zconso rfl (zconso rfl rfl))))))) rfl ?_
  intro L3 Z2 y1 hL3 hZ2I kZ2 jZ2 gy1 q9
  replace hP := zl_e2 hP (Eq.symm q9)
  clear q9
  have hZ2U : zU [a0b] Z Z2 := zU_t zU_r jZ2 (zU_b1 (List.Mem.head _) zU_b0)
  have hZ2K : zC [45, 47] Z Z2 := zC_t zC_r kZ2 (by decide)
  refine fc_30_2  _ _ _ _ hL3 ?_
  exact zlV hP ⟨hZ2I, hZ2K, hZ2U⟩
/- yX1_closeDay -/
def zl_17_1 (x0b : Int) (x1 : Int) (x2 : Int) : Nat → qz_Z → Int → qz_Z × Int
  | 0, Z, x3 => (Z, x3)
  | m + 1, Z, x3 => (if x1 < x3 then (Z, x3) else (zlet (zf_30 Z x0b x2 x3) (fun Z2 => zl_17_1 x0b x1 x2 m Z2 (x3 + 1))))
theorem sl_17_1 {s : zSM} {Zs Z : qz_Z} {ν : qz_N} (hZ : zH s Z) (hM : s.2 + 0 ≤ 1000000000) (hK : zC [45, 47] Zs Z) (x0b : Nat) {x1 : Int} (gx1 : -1 ≤ x1 ∧ x1 ≤ 26) {x2 : Int} (gx2 : 0 ≤ x2 ∧ x2 ≤ 7) {x3 : Int} (gx3 : 0 ≤ x3 ∧ x3 ≤ 27) (hU : zU [x0b] Zs Z) {k : wz_K} {R : wz_R} {L : qz_L} (hL : qz_fg [true, true, true, true] L = [some (.inr (.inr (some (10, x0b, 0)))), some (.inl (i3 x1)), some (.inl (i3 x2)), some (.inl (i3 x3))]) {T : qz_Z × Int} (hP : zE T (zl_17_1 x0b x1 x2 ((27 - x3).toNat + 1) Z x3)) (hk : ∀ (L9 : qz_L) (Z9 : qz_Z) (yx3 : Int), qz_fg [true, true, true, false] L9 = [some (.inr (.inr (some (10, x0b, 0)))), some (.inl (i3 x1)), some (.inl (i3 x2)), none] → zH s Z9 → zC [45, 47] Zs Z9 → zU [x0b] Zs Z9 → (0 ≤ yx3 ∧ yx3 ≤ 27) → zE T ((Z9, yx3)) → k 0 (L9, [], zm Z9 ν)) : wz_loop qb_17_1 65536 k R (L, [], zm Z ν) := by
  refine wz_lp sb_17_1 (fun m x => ∃ Z : qz_Z, ∃ x3 : Int, qz_fg [true, true, true, true] x.1 = [some (.inr (.inr (some (10, x0b, 0)))), some (.inl (i3 x1)), some (.inl (i3 x2)), some (.inl (i3 x3))] ∧ x.2 = ([], zm Z ν) ∧ zH s Z ∧ zC [45, 47] Zs Z ∧ zU [x0b] Zs Z ∧ m = (27 - x3).toNat ∧ (0 ≤ x3 ∧ x3 ≤ 27) ∧ zE T (zl_17_1 x0b x1 x2 (m + 1) Z x3)) ?_ 65536 ((27 - x3).toNat) _ (by omega) ⟨Z, x3, hL, rfl, hZ, hK, hU, rfl, gx3, hP⟩
  clear hP gx3 hZ hK hU hL
  clear x3
  clear Z
  rintro m ⟨L, st, μ⟩ ⟨Z, x3, hL, hx, hZ, hK, hU, hm, gx3, hP⟩
  cases hx
  refine fb_17_1 x0b (i3 x1) (i3 x2) (i3 x3) _ _ _ _ hL ?_
  refine wz_br (i3L (rfl : i3 x1 = i3 x1) (rfl : i3 x3 = i3 x3) (by omega) (by omega) (by omega) (by omega)) (fun h1 => ?_) (fun h1 => ?_)
  · replace hP := zE_p hP h1
    exact hk _ _ _ (zconso rfl (zconso (zvo (rfl : i3 x1 = i3 x1)) (zconso (zvo (rfl : i3 x2 = i3 x2)) (zconso rfl rfl)))) hZ hK hU (by omega)  hP
  · replace hP := zE_n hP h1
    obtain ⟨Z2, hZ2, c9, hZ2I, kZ2, jZ2⟩ := sp_30 (ν := ν) hZ x0b (a1 := x2) (by omega) (a2 := x3) (by omega) (zbh (c := 0) (k := 0) hM (Nat.le_of_ble_eq_true rfl))
    have hZ2U : zU [x0b] Zs Z2 := zU_t hU jZ2 (zU_b1 (List.Mem.head _) zU_b0)
    have hZ2K : zC [45, 47] Zs Z2 := zC_t hK kZ2 (by decide)
    replace hP := zl_e hP hZ2
    refine wz_cV_of (zas (zcons rfl (zcons (zvi (rfl : i3 x2 = i3 x2)) (zcons (zvi (rfl : i3 x3 = i3 x3)) rfl))) c9) ?_
    clear c9
    obtain ⟨m2, rfl⟩ : ∃ m2, m = m2 + 1 := ⟨m - 1, by omega⟩
    exact wz_k1 ⟨m2, by omega, Z2, (x3 + 1), (zconso rfl (zconso (zvo (rfl : i3 x1 = i3 x1)) (zconso (zvo (rfl : i3 x2 = i3 x2)) (zconso (zvo (i3A (rfl : i3 x3 = i3 x3) (show (1 : Int32) = i3 1 from rfl))) rfl)))), rfl, hZ2I, hZ2K, hZ2U, by omega, by omega,  hP⟩
/- yX1_closeDay -/
def zl_17_3 (x0b : Int) (x1 : Int) : Nat → qz_Z → Int → qz_Z × Int
  | 0, Z, x2 => (Z, x2)
  | m + 1, Z, x2 => (if (Z 11 x0b 0 4) ≤ x2 then (Z, x2) else (zlet (zu Z 45 x0b x2 7 0) (fun Z3 => (zlet2 (zl_17_1 x0b x1 x2 28 Z3 0) (fun Z5 y4 => zl_17_3 x0b x1 m Z5 (x2 + 1))))))
theorem sl_17_3 {s : zSM} {Zs Z : qz_Z} {ν : qz_N} (hZ : zH s Z) (hM : s.2 + 0 ≤ 1000000000) (hK : zC [45, 47] Zs Z) (x0b : Nat) {x1 : Int} (gx1 : -1 ≤ x1 ∧ x1 ≤ 26) {x2 : Int} (gx2 : 0 ≤ x2 ∧ x2 ≤ 8) (hU : zU [x0b] Zs Z) {k : wz_K} {R : wz_R} {L : qz_L} (hL : qz_fg [true, true, true, false] L = [some (.inr (.inr (some (10, x0b, 0)))), some (.inl (i3 x1)), some (.inl (i3 x2)), none]) {T : qz_Z × Int} (hP : zE T (zl_17_3 x0b x1 ((8 - x2).toNat + 1) Z x2)) (hk : ∀ (L9 : qz_L) (Z9 : qz_Z) (yx2 : Int), qz_fg [true, false, false, false] L9 = [some (.inr (.inr (some (10, x0b, 0)))), none, none, none] → zH s Z9 → zC [45, 47] Zs Z9 → zU [x0b] Zs Z9 → (0 ≤ yx2 ∧ yx2 ≤ 8) → zE T ((Z9, yx2)) → k 0 (L9, [], zm Z9 ν)) : wz_loop qb_17_3 65536 k R (L, [], zm Z ν) := by
  refine wz_lp sb_17_3 (fun m x => ∃ Z : qz_Z, ∃ x2 : Int, qz_fg [true, true, true, false] x.1 = [some (.inr (.inr (some (10, x0b, 0)))), some (.inl (i3 x1)), some (.inl (i3 x2)), none] ∧ x.2 = ([], zm Z ν) ∧ zH s Z ∧ zC [45, 47] Zs Z ∧ zU [x0b] Zs Z ∧ m = (8 - x2).toNat ∧ (0 ≤ x2 ∧ x2 ≤ 8) ∧ zE T (zl_17_3 x0b x1 (m + 1) Z x2)) ?_ 65536 ((8 - x2).toNat) _ (by omega) ⟨Z, x2, hL, rfl, hZ, hK, hU, rfl, gx2, hP⟩
  clear hP gx2 hZ hK hU hL
  clear x2
  clear Z
  rintro m ⟨L, st, μ⟩ ⟨Z, x2, hL, hx, hZ, hK, hU, hm, gx2, hP⟩
  cases hx
  refine fb_17_3 x0b (i3 x1) (i3 x2) _ _ _ _ hL ?_
  have r1 := zH_k hZ 11 x0b 0 4 (lo := 0) (hi := 8) (by decide) rfl
  refine wz_br (i3Le (zm_rd (Z := Z) (ν := ν) (k := 11) (rfl : ((x0b : Nat) : Int) = x0b) (show ((0 : Nat) : Int) = 0 from rfl) (show ((4 : Nat) : Int) = 4 from rfl)) (rfl : i3 x2 = i3 x2) (by omega) (by omega) (by omega) (by omega)) (fun h2 => ?_) (fun h2 => ?_)
  · replace hP := zE_p hP h2
    exact hk _ _ _ (zconso rfl (zconso rfl (zconso rfl (zconso rfl rfl)))) hZ hK hU (by omega)  hP
  · replace hP := zE_n hP h2
    refine wz_i0 (i3O (n := 8) (rfl : i3 x2 = i3 x2) (by omega) (by omega) (by omega)) ?_
    obtain ⟨Z3, hZ3⟩ := zx (zu Z 45 x0b x2 7 0)
    replace hP := zl_e hP hZ3
    have hZ3I := zH_0 hZ hZ3 (by decide) (Or.inl (by decide))
    have hZ3U : zU [x0b] Zs Z3 := zU_u hU hZ3 (Or.inr (List.Mem.head _))
    have hZ3K : zC [45, 47] Zs Z3 := zC_u hK hZ3 (by decide)
    intro μ9 e9
    replace e9 := e9.trans (zm_wI (Z := Z) (ν := ν) hZ3 (rfl : ((x0b : Nat) : Int) = x0b) (i3I (y := x2) (rfl : i3 x2 = i3 x2) (by omega) (by omega) (by omega)) (show ((7 : Nat) : Int) = 7 from rfl) (show (0 : Int32) = i3 0 from rfl))
    subst e9
    refine sl_17_1 (ν := ν) hZ3I (zbh (c := 0) (k := 0) hM (Nat.le_of_ble_eq_true rfl)) zC_r x0b (x1 := x1) (by omega) (x2 := x2) (by omega) (x3 := 0) (by omega) zU_r  (zconso rfl (zconso (zvo (rfl : i3 x1 = i3 x1)) (zconso (zvo (rfl : i3 x2 = i3 x2)) (zconso (zvo (show (0 : Int32) = i3 0 from rfl)) rfl)))) rfl ?_
    intro L6 Z5 y4 hL6 hZ5I kZ5 jZ5 gy4 q9
    replace hP := zl_e2 hP (Eq.symm q9)
    clear q9
    have hZ5U : zU [x0b] Zs Z5 := zU_t hZ3U jZ5 (zU_b1 (List.Mem.head _) zU_b0)
    have hZ5K : zC [45, 47] Zs Z5 := zC_t hZ3K kZ5 (by decide)
    refine fc_17_2 _ (i3 x1) (i3 x2) _ _ _ _ hL6 ?_
    obtain ⟨m2, rfl⟩ : ∃ m2, m = m2 + 1 := ⟨m - 1, by omega⟩
    refine wz_kbs (n := 1) (?_)
    exact wz_k1 ⟨m2, by omega, Z5, (x2 + 1), (zconso rfl (zconso (zvo (rfl : i3 x1 = i3 x1)) (zconso (zvo (i3A (rfl : i3 x2 = i3 x2) (show (1 : Int32) = i3 1 from rfl))) (zconso rfl rfl)))), rfl, hZ5I, hZ5K, hZ5U, by omega, by omega,  hP⟩
/- yX1_closeDay -/
def zl_17_4 (x0b : Int) : Nat → qz_Z → Int → qz_Z × Int
  | 0, Z, x2 => (Z, x2)
  | m + 1, Z, x2 => (if (Z 11 x0b 0 5) ≤ x2 then (Z, x2) else (if (Z 46 x0b x2 7) ≠ 0 then zl_17_4 x0b m Z (x2 + 1) else (if (z2 (fun x y => x &&& y) (z2 (fun x y => x >>> (y &&& 31)) (Z 46 x0b x2 5) (((Z 11 x0b 0 13) / 24) % 7)) 1) ≠ 1 then zl_17_4 x0b m Z (x2 + 1) else (zlet (zu Z 46 x0b x2 6 (Z 46 x0b x2 3)) (fun Z12 => zl_17_4 x0b m Z12 (x2 + 1))))))
theorem sl_17_4 {s : zSM} {Zs Z : qz_Z} {ν : qz_N} (hZ : zH s Z) (hM : s.2 + 0 ≤ 1000000000) (hK : zC [46] Zs Z) (x0b : Nat) {x2 : Int} (gx2 : 0 ≤ x2 ∧ x2 ≤ 24) (hU : zU [x0b] Zs Z) {k : wz_K} {R : wz_R} {L : qz_L} (hL : qz_fg [true, false, true, false] L = [some (.inr (.inr (some (10, x0b, 0)))), none, some (.inl (i3 x2)), none]) {T : qz_Z × Int} (hP : zE T (zl_17_4 x0b ((24 - x2).toNat + 1) Z x2)) (hk : ∀ (L9 : qz_L) (Z9 : qz_Z) (yx2 : Int), qz_fg [false, false, false, false] L9 = [none, none, none, none] → zH s Z9 → zC [46] Zs Z9 → zU [x0b] Zs Z9 → (0 ≤ yx2 ∧ yx2 ≤ 24) → zE T ((Z9, yx2)) → k 0 (L9, [], zm Z9 ν)) : wz_loop qb_17_4 65536 k R (L, [], zm Z ν) := by
  refine wz_lp sb_17_4 (fun m x => ∃ Z : qz_Z, ∃ x2 : Int, qz_fg [true, false, true, false] x.1 = [some (.inr (.inr (some (10, x0b, 0)))), none, some (.inl (i3 x2)), none] ∧ x.2 = ([], zm Z ν) ∧ zH s Z ∧ zC [46] Zs Z ∧ zU [x0b] Zs Z ∧ m = (24 - x2).toNat ∧ (0 ≤ x2 ∧ x2 ≤ 24) ∧ zE T (zl_17_4 x0b (m + 1) Z x2)) ?_ 65536 ((24 - x2).toNat) _ (by omega) ⟨Z, x2, hL, rfl, hZ, hK, hU, rfl, gx2, hP⟩
  clear hP gx2 hZ hK hU hL
  clear x2
  clear Z
  rintro m ⟨L, st, μ⟩ ⟨Z, x2, hL, hx, hZ, hK, hU, hm, gx2, hP⟩
  cases hx
  refine fb_17_4 x0b (i3 x2) _ _ _ _ hL ?_
  have r1 := zH_k hZ 11 x0b 0 5 (lo := 0) (hi := 24) (by decide) rfl
  refine wz_br (i3Le (zm_rd (Z := Z) (ν := ν) (k := 11) (rfl : ((x0b : Nat) : Int) = x0b) (show ((0 : Nat) : Int) = 0 from rfl) (show ((5 : Nat) : Int) = 5 from rfl)) (rfl : i3 x2 = i3 x2) (by omega) (by omega) (by omega) (by omega)) (fun h2 => ?_) (fun h2 => ?_)
  · replace hP := zE_p hP h2
    exact hk _ _ _ (zconso rfl (zconso rfl (zconso rfl (zconso rfl rfl)))) hZ hK hU (by omega)  hP
  · replace hP := zE_n hP h2
    refine wz_i0 (i3O (n := 24) (rfl : i3 x2 = i3 x2) (by omega) (by omega) (by omega)) ?_
    have r3 := zH_k hZ 46 x0b x2 7 (lo := 0) (hi := 1) (by decide) rfl
    refine wz_br (i3NE (zm_rd (Z := Z) (ν := ν) (k := 46) (rfl : ((x0b : Nat) : Int) = x0b) (i3I (y := x2) (rfl : i3 x2 = i3 x2) (by omega) (by omega) (by omega)) (show ((7 : Nat) : Int) = 7 from rfl)) (show (0 : Int32) = i3 0 from rfl) (by omega) (by omega) (by omega) (by omega)) (fun h4 => ?_) (fun h4 => ?_)
    · replace hP := zE_p hP h4
      obtain ⟨m2, rfl⟩ : ∃ m2, m = m2 + 1 := ⟨m - 1, by omega⟩
      exact wz_k1 ⟨m2, by omega, Z, (x2 + 1), (zconso rfl (zconso rfl (zconso (zvo (i3A (rfl : i3 x2 = i3 x2) (show (1 : Int32) = i3 1 from rfl))) (zconso rfl rfl)))), rfl, hZ, hK, hU, by omega, by omega,  hP⟩
    · replace hP := zE_n hP h4
      have r5 := zH_k hZ 46 x0b x2 5 (lo := 0) (hi := 127) (by decide) rfl
      have r6 := zH_k hZ 11 x0b 0 13 (lo := 0) (hi := 671) (by decide) rfl
      have r7 := z2_r (fun x y => x >>> (y &&& 31)) (Z 46 x0b x2 5) (((Z 11 x0b 0 13) / 24) % 7)
      have r8 := z2_r (fun x y => x &&& y) (z2 (fun x y => x >>> (y &&& 31)) (Z 46 x0b x2 5) (((Z 11 x0b 0 13) / 24) % 7)) 1
      have r9 := z2_and (z2 (fun x y => x >>> (y &&& 31)) (Z 46 x0b x2 5) (((Z 11 x0b 0 13) / 24) % 7)) (y := 1) (by omega) (by omega)
      refine wz_br (i3NE (i3Z (fun x y => x &&& y) (i3Z (fun x y => x >>> (y &&& 31)) (zm_rd (Z := Z) (ν := ν) (k := 46) (rfl : ((x0b : Nat) : Int) = x0b) (i3I (y := x2) (rfl : i3 x2 = i3 x2) (by omega) (by omega) (by omega)) (show ((5 : Nat) : Int) = 5 from rfl)) (i3R (i3D (zm_rd (Z := Z) (ν := ν) (k := 11) (rfl : ((x0b : Nat) : Int) = x0b) (show ((0 : Nat) : Int) = 0 from rfl) (show ((13 : Nat) : Int) = 13 from rfl)) (show (24 : Int32) = i3 24 from rfl) (by omega) (by omega) (by omega) (by omega)) (show (7 : Int32) = i3 7 from rfl) (by omega) (by omega) (by omega) (by omega))) (show (1 : Int32) = i3 1 from rfl)) (show (1 : Int32) = i3 1 from rfl) (by omega) (by omega) (by omega) (by omega)) (fun h10 => ?_) (fun h10 => ?_)
      · replace hP := zE_p hP h10
        obtain ⟨m2, rfl⟩ : ∃ m2, m = m2 + 1 := ⟨m - 1, by omega⟩
        exact wz_k1 ⟨m2, by omega, Z, (x2 + 1), (zconso rfl (zconso rfl (zconso (zvo (i3A (rfl : i3 x2 = i3 x2) (show (1 : Int32) = i3 1 from rfl))) (zconso rfl rfl)))), rfl, hZ, hK, hU, by omega, by omega,  hP⟩
      · replace hP := zE_n hP h10
        have r11 := zH_k hZ 46 x0b x2 3 (lo := 0) (hi := 99) (by decide) rfl
        obtain ⟨Z12, hZ12⟩ := zx (zu Z 46 x0b x2 6 (Z 46 x0b x2 3))
        replace hP := zl_e hP hZ12
        have hZ12I := zH_u hZ hZ12 (lo := 0) (hi := 99) (by decide) rfl (by omega) ⟨by decide, by decide⟩ (Or.inl (by decide)) rfl
        have hZ12U : zU [x0b] Zs Z12 := zU_u hU hZ12 (Or.inr (List.Mem.head _))
        have hZ12K : zC [46] Zs Z12 := zC_u hK hZ12 (by decide)
        intro μ9 e9
        replace e9 := e9.trans (zm_wI (Z := Z) (ν := ν) hZ12 (rfl : ((x0b : Nat) : Int) = x0b) (i3I (y := x2) (rfl : i3 x2 = i3 x2) (by omega) (by omega) (by omega)) (show ((6 : Nat) : Int) = 6 from rfl) (zm_rd (Z := Z) (ν := ν) (k := 46) (rfl : ((x0b : Nat) : Int) = x0b) (i3I (y := x2) (rfl : i3 x2 = i3 x2) (by omega) (by omega) (by omega)) (show ((3 : Nat) : Int) = 3 from rfl)))
        subst e9
        obtain ⟨m2, rfl⟩ : ∃ m2, m = m2 + 1 := ⟨m - 1, by omega⟩
        exact wz_k1 ⟨m2, by omega, Z12, (x2 + 1), (zconso rfl (zconso rfl (zconso (zvo (i3A (rfl : i3 x2 = i3 x2) (show (1 : Int32) = i3 1 from rfl))) (zconso rfl rfl)))), rfl, hZ12I, hZ12K, hZ12U, by omega, by omega,  hP⟩
/- yX1_closeDay -/
def zf_17 (Z : qz_Z) (a0b : Int) : qz_Z := (zlet2 (zl_17_3 a0b (((Z 11 a0b 0 13) / 24) - 1) 9 Z 0) (fun Z3 y2 => (zlet2 (zl_17_4 a0b 25 Z3 0) (fun Z6 y5 => Z6))))
theorem sp_17 {s : zSM} {Z : qz_Z} {ν : qz_N} (hZ : zH s Z) (a0b : Nat) (hM : s.2 + 0 ≤ 1000000000) : ∃ P : qz_Z, P = zf_17 Z a0b ∧ (qf_17 [.inr (.inr (some (10, a0b, 0)))] (zm Z ν) = some (zm P ν, .inl none) ∧ zH s P ∧ zC [45, 46, 47] Z P ∧ zU [a0b] Z P) := by
  obtain ⟨P, hP⟩ := zx (zf_17 Z a0b)
  refine zc_V (Q := fun P => zH s P ∧ zC [45, 46, 47] Z P ∧ zU [a0b] Z P) hP (fw_17 a0b _ _ ?_)
  replace hP : zE P (zf_17 Z a0b) := hP
  unfold zf_17 at hP
  have r1 := zH_k hZ 11 a0b 0 13 (lo := 0) (hi := 671) (by decide) rfl
  refine sl_17_3 (ν := ν) hZ (zbh (c := 0) (k := 0) hM (Nat.le_of_ble_eq_true rfl)) zC_r a0b (x1 := (((Z 11 a0b 0 13) / 24) - 1)) (by omega) (x2 := 0) (by omega) zU_r  (zconso rfl (zconso (zvo (i3S (i3D (zm_rd (Z := Z) (ν := ν) (k := 11) (rfl : ((a0b : Nat) : Int) = a0b) (show ((0 : Nat) : Int) = 0 from rfl) (show ((13 : Nat) : Int) = 13 from rfl)) (show (24 : Int32) = i3 24 from rfl) (by omega) (by omega) (by omega) (by omega)) (show (1 : Int32) = i3 1 from rfl))) (zconso (zvo (show (0 : Int32) = i3 0 from rfl)) (zconso rfl rfl)))) rfl ?_
  intro L4 Z3 y2 hL4 hZ3I kZ3 jZ3 gy2 q9
  replace hP := zl_e2 hP (Eq.symm q9)
  clear q9
  have hZ3U : zU [a0b] Z Z3 := zU_t zU_r jZ3 (zU_b1 (List.Mem.head _) zU_b0)
  have hZ3K : zC [45, 46, 47] Z Z3 := zC_t zC_r kZ3 (by decide)
  refine fc_17_6 _ _ _ _ _ hL4 ?_
  refine sl_17_4 (ν := ν) hZ3I (zbh (c := 0) (k := 0) hM (Nat.le_of_ble_eq_true rfl)) zC_r a0b (x2 := 0) (by omega) zU_r  (zconso rfl (zconso rfl (zconso (zvo (show (0 : Int32) = i3 0 from rfl)) (zconso rfl rfl)))) rfl ?_
  intro L7 Z6 y5 hL7 hZ6I kZ6 jZ6 gy5 q9
  replace hP := zl_e2 hP (Eq.symm q9)
  clear q9
  have hZ6U : zU [a0b] Z Z6 := zU_t hZ3U jZ6 (zU_b1 (List.Mem.head _) zU_b0)
  have hZ6K : zC [45, 46, 47] Z Z6 := zC_t hZ3K kZ6 (by decide)
  refine fc_17_5  _ _ _ _ hL7 ?_
  exact zlV hP ⟨hZ6I, hZ6K, hZ6U⟩
/- yX2_bring -/
def zl_41_1 (x0b : Int) (x1 : Int) (x2 : Int) : Nat → qz_Z → Int → qz_Z × Int
  | 0, Z, x3 => (Z, x3)
  | m + 1, Z, x3 => (if (Z 11 x0b 0 6) ≤ x3 then (Z, x3) else (if (Z 47 x0b x3 10) ≠ x1 then zl_41_1 x0b x1 x2 m Z (x3 + 1) else (if (Z 45 x0b (Z 47 x0b x3 1) 0) ≠ x2 then zl_41_1 x0b x1 x2 m Z (x3 + 1) else (zlet (zu Z 47 x0b x3 9 2) (fun Z9 => (zlet (zu Z9 47 x0b x3 10 (-1)) (fun Z10 => (zlet (zu Z10 47 x0b x3 17 (Z10 11 x0b 0 13)) (fun Z15 => (zlet (zu Z15 45 x0b (Z15 47 x0b x3 1) 10 (w3 ((Z15 45 x0b (Z15 47 x0b x3 1) 10) + (Z15 47 x0b x3 3)))) (fun Z21 => zl_41_1 x0b x1 x2 m Z21 (x3 + 1))))))))))))
theorem sl_41_1 {s : zSM} {Zs Z : qz_Z} {ν : qz_N} (hZ : zH s Z) (hM : s.2 + 0 ≤ 1000000000) (hK : zC [45, 47] Zs Z) (x0b : Nat) {x1 : Int} (gx1 : 0 ≤ x1 ∧ x1 ≤ 3) {x2 : Int} (gx2 : -1 ≤ x2 ∧ x2 ≤ 4) {x3 : Int} (gx3 : 0 ≤ x3 ∧ x3 ≤ 60) (hU : zU [x0b] Zs Z) {k : wz_K} {R : wz_R} {L : qz_L} (hL : qz_fg [true, true, true, true, false] L = [some (.inr (.inr (some (10, x0b, 0)))), some (.inl (i3 x1)), some (.inl (i3 x2)), some (.inl (i3 x3)), none]) {T : qz_Z × Int} (hP : zE T (zl_41_1 x0b x1 x2 ((60 - x3).toNat + 1) Z x3)) (hk : ∀ (L9 : qz_L) (Z9 : qz_Z) (yx3 : Int), qz_fg [false, false, false, false, false] L9 = [none, none, none, none, none] → zH s Z9 → zC [45, 47] Zs Z9 → zU [x0b] Zs Z9 → (0 ≤ yx3 ∧ yx3 ≤ 60) → zE T ((Z9, yx3)) → k 0 (L9, [], zm Z9 ν)) : wz_loop qb_41_1 65536 k R (L, [], zm Z ν) := by
  refine wz_lp sb_41_1 (fun m x => ∃ Z : qz_Z, ∃ x3 : Int, qz_fg [true, true, true, true, false] x.1 = [some (.inr (.inr (some (10, x0b, 0)))), some (.inl (i3 x1)), some (.inl (i3 x2)), some (.inl (i3 x3)), none] ∧ x.2 = ([], zm Z ν) ∧ zH s Z ∧ zC [45, 47] Zs Z ∧ zU [x0b] Zs Z ∧ m = (60 - x3).toNat ∧ (0 ≤ x3 ∧ x3 ≤ 60) ∧ zE T (zl_41_1 x0b x1 x2 (m + 1) Z x3)) ?_ 65536 ((60 - x3).toNat) _ (by omega) ⟨Z, x3, hL, rfl, hZ, hK, hU, rfl, gx3, hP⟩
  clear hP gx3 hZ hK hU hL
  clear x3
  clear Z
  rintro m ⟨L, st, μ⟩ ⟨Z, x3, hL, hx, hZ, hK, hU, hm, gx3, hP⟩
  cases hx
  refine fb_41_1 x0b (i3 x1) (i3 x2) (i3 x3) _ _ _ _ hL ?_
  have r1 := zH_k hZ 11 x0b 0 6 (lo := 0) (hi := 60) (by decide) rfl
  refine wz_br (i3Le (zm_rd (Z := Z) (ν := ν) (k := 11) (rfl : ((x0b : Nat) : Int) = x0b) (show ((0 : Nat) : Int) = 0 from rfl) (show ((6 : Nat) : Int) = 6 from rfl)) (rfl : i3 x3 = i3 x3) (by omega) (by omega) (by omega) (by omega)) (fun h2 => ?_) (fun h2 => ?_)
  · replace hP := zE_p hP h2
    exact hk _ _ _ (zconso rfl (zconso rfl (zconso rfl (zconso rfl (zconso rfl rfl))))) hZ hK hU (by omega)  hP
  · replace hP := zE_n hP h2
    refine wz_i0 (i3O (n := 60) (rfl : i3 x3 = i3 x3) (by omega) (by omega) (by omega)) ?_
    have r3 := zH_k hZ 47 x0b x3 10 (lo := -1) (hi := 3) (by decide) rfl
    have r4 := zH_lt hZ x0b x3
    refine wz_br (i3NE (zm_rd (Z := Z) (ν := ν) (k := 47) (rfl : ((x0b : Nat) : Int) = x0b) (i3I (y := x3) (rfl : i3 x3 = i3 x3) (by omega) (by omega) (by omega)) (show ((10 : Nat) : Int) = 10 from rfl)) (rfl : i3 x1 = i3 x1) (by omega) (by omega) (by omega) (by omega)) (fun h5 => ?_) (fun h5 => ?_)
    · replace hP := zE_p hP h5
      obtain ⟨m2, rfl⟩ : ∃ m2, m = m2 + 1 := ⟨m - 1, by omega⟩
      exact wz_k1 ⟨m2, by omega, Z, (x3 + 1), (zconso rfl (zconso (zvo (rfl : i3 x1 = i3 x1)) (zconso (zvo (rfl : i3 x2 = i3 x2)) (zconso (zvo (i3A (rfl : i3 x3 = i3 x3) (show (1 : Int32) = i3 1 from rfl))) (zconso rfl rfl))))), rfl, hZ, hK, hU, by omega, by omega,  hP⟩
    · replace hP := zE_n hP h5
      have r6 := zH_k hZ 47 x0b x3 1 (lo := 0) (hi := 7) (by decide) rfl
      refine wz_i0 (i3O (n := 8) (zm_rd (Z := Z) (ν := ν) (k := 47) (rfl : ((x0b : Nat) : Int) = x0b) (i3I (y := x3) (rfl : i3 x3 = i3 x3) (by omega) (by omega) (by omega)) (show ((1 : Nat) : Int) = 1 from rfl)) (by omega) (by omega) (by omega)) ?_
      have r7 := zH_k hZ 45 x0b (Z 47 x0b x3 1) 0 (lo := 0) (hi := 4) (by decide) rfl
      refine wz_br (i3NE (zm_rd (Z := Z) (ν := ν) (k := 45) (rfl : ((x0b : Nat) : Int) = x0b) (i3I (y := (Z 47 x0b x3 1)) (zm_rd (Z := Z) (ν := ν) (k := 47) (rfl : ((x0b : Nat) : Int) = x0b) (i3I (y := x3) (rfl : i3 x3 = i3 x3) (by omega) (by omega) (by omega)) (show ((1 : Nat) : Int) = 1 from rfl)) (by omega) (by omega) (by omega)) (show ((0 : Nat) : Int) = 0 from rfl)) (rfl : i3 x2 = i3 x2) (by omega) (by omega) (by omega) (by omega)) (fun h8 => ?_) (fun h8 => ?_)
      · replace hP := zE_p hP h8
        obtain ⟨m2, rfl⟩ : ∃ m2, m = m2 + 1 := ⟨m - 1, by omega⟩
        exact wz_k1 ⟨m2, by omega, Z, (x3 + 1), (zconso rfl (zconso (zvo (rfl : i3 x1 = i3 x1)) (zconso (zvo (rfl : i3 x2 = i3 x2)) (zconso (zvo (i3A (rfl : i3 x3 = i3 x3) (show (1 : Int32) = i3 1 from rfl))) (zconso rfl rfl))))), rfl, hZ, hK, hU, by omega, by omega,  hP⟩
      · replace hP := zE_n hP h8
        obtain ⟨Z9, hZ9⟩ := zx (zu Z 47 x0b x3 9 2)
        replace hP := zl_e hP hZ9
        have hZ9I := zH_st hZ hZ9 (by omega) (by omega)
        have hZ9U : zU [x0b] Zs Z9 := zU_u hU hZ9 (Or.inr (List.Mem.head _))
        have hZ9K : zC [45, 47] Zs Z9 := zC_u hK hZ9 (by decide)
        intro μ9 e9
        replace e9 := e9.trans (zm_wI (Z := Z) (ν := ν) hZ9 (rfl : ((x0b : Nat) : Int) = x0b) (i3I (y := x3) (rfl : i3 x3 = i3 x3) (by omega) (by omega) (by omega)) (show ((9 : Nat) : Int) = 9 from rfl) (show (2 : Int32) = i3 2 from rfl))
        subst e9
        obtain ⟨Z10, hZ10⟩ := zx (zu Z9 47 x0b x3 10 (-1))
        replace hP := zl_e hP hZ10
        have r11 := zH_k hZ9I 47 x0b x3 9 (lo := 0) (hi := 3) (by decide) rfl
        have r12 := zH_lt hZ9I x0b x3
        have q13 := zu_at hZ9
        have hZ10I := zH_tr hZ9I hZ10 (by omega) (by omega)
        have hZ10U : zU [x0b] Zs Z10 := zU_u hZ9U hZ10 (Or.inr (List.Mem.head _))
        have hZ10K : zC [45, 47] Zs Z10 := zC_u hZ9K hZ10 (by decide)
        intro μ9 e9
        replace e9 := e9.trans (zm_wI (Z := Z9) (ν := ν) hZ10 (rfl : ((x0b : Nat) : Int) = x0b) (i3I (y := x3) (rfl : i3 x3 = i3 x3) (by omega) (by omega) (by omega)) (show ((10 : Nat) : Int) = 10 from rfl) (show (-1 : Int32) = i3 (-1) from rfl))
        subst e9
        have r14 := zH_k hZ10I 11 x0b 0 13 (lo := 0) (hi := 671) (by decide) rfl
        obtain ⟨Z15, hZ15⟩ := zx (zu Z10 47 x0b x3 17 (Z10 11 x0b 0 13))
        replace hP := zl_e hP hZ15
        have hZ15I := zH_u hZ10I hZ15 (lo := -1) (hi := 671) (by decide) rfl (by omega) ⟨by decide, by decide⟩ (Or.inl (by decide)) rfl
        have hZ15U : zU [x0b] Zs Z15 := zU_u hZ10U hZ15 (Or.inr (List.Mem.head _))
        have hZ15K : zC [45, 47] Zs Z15 := zC_u hZ10K hZ15 (by decide)
        intro μ9 e9
        replace e9 := e9.trans (zm_wI (Z := Z10) (ν := ν) hZ15 (rfl : ((x0b : Nat) : Int) = x0b) (i3I (y := x3) (rfl : i3 x3 = i3 x3) (by omega) (by omega) (by omega)) (show ((17 : Nat) : Int) = 17 from rfl) (zm_rd (Z := Z10) (ν := ν) (k := 11) (rfl : ((x0b : Nat) : Int) = x0b) (show ((0 : Nat) : Int) = 0 from rfl) (show ((13 : Nat) : Int) = 13 from rfl)))
        subst e9
        have r16 := zH_k hZ15I 47 x0b x3 1 (lo := 0) (hi := 7) (by decide) rfl
        have q17 := (zu_ne (k' := 47) (b' := x0b) (i' := x3) (j' := 1) hZ15 (fun q => absurd q.2.2.2 (by decide))).trans ((zu_ne (k' := 47) (b' := x0b) (i' := x3) (j' := 1) hZ10 (fun q => absurd q.2.2.2 (by decide))).trans (zu_ne (k' := 47) (b' := x0b) (i' := x3) (j' := 1) hZ9 (fun q => absurd q.2.2.2 (by decide))))
        refine wz_i0 (i3O (n := 8) (zm_rd (Z := Z15) (ν := ν) (k := 47) (rfl : ((x0b : Nat) : Int) = x0b) (i3I (y := x3) (rfl : i3 x3 = i3 x3) (by omega) (by omega) (by omega)) (show ((1 : Nat) : Int) = 1 from rfl)) (by omega) (by omega) (by omega)) ?_
        have r18 := zH_f hZ15I 45 x0b (Z15 47 x0b x3 1) 10
        have r19 := zH_k hZ15I 47 x0b x3 3 (lo := 0) (hi := 40) (by decide) rfl
        have r20 := w3_r ((Z15 45 x0b (Z15 47 x0b x3 1) 10) + (Z15 47 x0b x3 3))
        obtain ⟨Z21, hZ21⟩ := zx (zu Z15 45 x0b (Z15 47 x0b x3 1) 10 (w3 ((Z15 45 x0b (Z15 47 x0b x3 1) 10) + (Z15 47 x0b x3 3))))
        replace hP := zl_e hP hZ21
        have hZ21I := zH_u hZ15I hZ21 (lo := -2147483648) (hi := 2147483647) (by decide) rfl (by omega) ⟨by decide, by decide⟩ (Or.inl (by decide)) rfl
        have hZ21U : zU [x0b] Zs Z21 := zU_u hZ15U hZ21 (Or.inr (List.Mem.head _))
        have hZ21K : zC [45, 47] Zs Z21 := zC_u hZ15K hZ21 (by decide)
        intro μ9 e9
        replace e9 := e9.trans (zm_wI (Z := Z15) (ν := ν) hZ21 (rfl : ((x0b : Nat) : Int) = x0b) (i3I (y := (Z15 47 x0b x3 1)) (zm_rd (Z := Z15) (ν := ν) (k := 47) (rfl : ((x0b : Nat) : Int) = x0b) (i3I (y := x3) (rfl : i3 x3 = i3 x3) (by omega) (by omega) (by omega)) (show ((1 : Nat) : Int) = 1 from rfl)) (by omega) (by omega) (by omega)) (show ((10 : Nat) : Int) = 10 from rfl) (i3W (i3A (zm_rd (Z := Z15) (ν := ν) (k := 45) (rfl : ((x0b : Nat) : Int) = x0b) (i3I (y := (Z15 47 x0b x3 1)) (zm_rd (Z := Z15) (ν := ν) (k := 47) (rfl : ((x0b : Nat) : Int) = x0b) (i3I (y := x3) (rfl : i3 x3 = i3 x3) (by omega) (by omega) (by omega)) (show ((1 : Nat) : Int) = 1 from rfl)) (by omega) (by omega) (by omega)) (show ((10 : Nat) : Int) = 10 from rfl)) (zm_rd (Z := Z15) (ν := ν) (k := 47) (rfl : ((x0b : Nat) : Int) = x0b) (i3I (y := x3) (rfl : i3 x3 = i3 x3) (by omega) (by omega) (by omega)) (show ((3 : Nat) : Int) = 3 from rfl)))))
        subst e9
        obtain ⟨m2, rfl⟩ : ∃ m2, m = m2 + 1 := ⟨m - 1, by omega⟩
        exact wz_k1 ⟨m2, by omega, Z21, (x3 + 1), (zconso rfl (zconso (zvo (rfl : i3 x1 = i3 x1)) (zconso (zvo (rfl : i3 x2 = i3 x2)) (zconso (zvo (i3A (rfl : i3 x3 = i3 x3) (show (1 : Int32) = i3 1 from rfl))) (zconso rfl rfl))))), rfl, hZ21I, hZ21K, hZ21U, by omega, by omega,  hP⟩
/- yX2_bring -/
def zf_41 (Z : qz_Z) (a0b : Int) (a1 : Int) (a2 : Int) : qz_Z := (zlet2 (zl_41_1 a0b a1 a2 61 Z 0) (fun Z2 y1 => Z2))
theorem sp_41 {s : zSM} {Z : qz_Z} {ν : qz_N} (hZ : zH s Z) (a0b : Nat) {a1 : Int} (ga1 : 0 ≤ a1 ∧ a1 ≤ 3) {a2 : Int} (ga2 : -1 ≤ a2 ∧ a2 ≤ 4) (hM : s.2 + 0 ≤ 1000000000) : ∃ P : qz_Z, P = zf_41 Z a0b a1 a2 ∧ (qf_41 [.inr (.inr (some (10, a0b, 0))), .inl (i3 a1), .inl (i3 a2)] (zm Z ν) = some (zm P ν, .inl none) ∧ zH s P ∧ zC [45, 47] Z P ∧ zU [a0b] Z P) := by
  obtain ⟨P, hP⟩ := zx (zf_41 Z a0b a1 a2)
  refine zc_V (Q := fun P => zH s P ∧ zC [45, 47] Z P ∧ zU [a0b] Z P) hP (fw_41 a0b (i3 a1) (i3 a2) _ _ ?_)
  replace hP : zE P (zf_41 Z a0b a1 a2) := hP
  unfold zf_41 at hP
  refine sl_41_1 (ν := ν) hZ (zbh (c := 0) (k := 0) hM (Nat.le_of_ble_eq_true rfl)) zC_r a0b (x1 := a1) (by omega) (x2 := a2) (by omega) (x3 := 0) (by omega) zU_r  (zconso rfl (zconso (zvo (rfl : i3 a1 = i3 a1)) (zconso (zvo (rfl : i3 a2 = i3 a2)) (zconso (zvo (show (0 : Int32) = i3 0 from rfl)) (zconso rfl rfl))))) rfl ?_
  intro L3 Z2 y1 hL3 hZ2I kZ2 jZ2 gy1 q9
  replace hP := zl_e2 hP (Eq.symm q9)
  clear q9
  have hZ2U : zU [a0b] Z Z2 := zU_t zU_r jZ2 (zU_b1 (List.Mem.head _) zU_b0)
  have hZ2K : zC [45, 47] Z Z2 := zC_t zC_r kZ2 (by decide)
  refine fc_41_2  _ _ _ _ hL3 ?_
  exact zlV hP ⟨hZ2I, hZ2K, hZ2U⟩
/- yX2_arrive -/
def zl_39_1 (x0b : Int) (x2ij : Int) (x1 : Int) : Nat → qz_Z → Int → qz_Z × Int
  | 0, Z, x3 => (Z, x3)
  | m + 1, Z, x3 => (if 5 ≤ x3 then (Z, x3) else (if (Z 50 x0b x2ij (17 + x3)) ≠ (Z 11 x0b 0 13) then zl_39_1 x0b x2ij x1 m Z (x3 + 1) else (zlet (zf_41 Z x0b x1 (Z 50 x0b x2ij (12 + x3))) (fun Z6 => zl_39_1 x0b x2ij x1 m Z6 (x3 + 1)))))
theorem sl_39_1 {s : zSM} {Zs Z : qz_Z} {ν : qz_N} (hZ : zH s Z) (hM : s.2 + 0 ≤ 1000000000) (hK : zC [45, 47] Zs Z) (x0b : Nat) (x2i : Nat) {x2ij : Int} (ex2i : (x2i : Int) = x2ij) (gx2ij : 0 ≤ x2ij ∧ x2ij ≤ 3) {x1 : Int} (gx1 : 0 ≤ x1 ∧ x1 ≤ 3) {x3 : Int} (gx3 : 0 ≤ x3 ∧ x3 ≤ 5) (hU : zU [x0b] Zs Z) {k : wz_K} {R : wz_R} {L : qz_L} (hL : qz_fg [true, true, true, true] L = [some (.inr (.inr (some (10, x0b, 0)))), some (.inl (i3 x1)), some (.inr (.inr (some (50, x0b, x2i)))), some (.inl (i3 x3))]) {T : qz_Z × Int} (hP : zE T (zl_39_1 x0b x2ij x1 ((5 - x3).toNat + 1) Z x3)) (hk : ∀ (L9 : qz_L) (Z9 : qz_Z) (yx3 : Int), qz_fg [true, true, true, false] L9 = [some (.inr (.inr (some (10, x0b, 0)))), some (.inl (i3 x1)), some (.inr (.inr (some (50, x0b, x2i)))), none] → zH s Z9 → zC [45, 47] Zs Z9 → zU [x0b] Zs Z9 → (0 ≤ yx3 ∧ yx3 ≤ 5) → zE T ((Z9, yx3)) → k 0 (L9, [], zm Z9 ν)) : wz_loop qb_39_1 65536 k R (L, [], zm Z ν) := by
  refine wz_lp sb_39_1 (fun m x => ∃ Z : qz_Z, ∃ x3 : Int, qz_fg [true, true, true, true] x.1 = [some (.inr (.inr (some (10, x0b, 0)))), some (.inl (i3 x1)), some (.inr (.inr (some (50, x0b, x2i)))), some (.inl (i3 x3))] ∧ x.2 = ([], zm Z ν) ∧ zH s Z ∧ zC [45, 47] Zs Z ∧ zU [x0b] Zs Z ∧ m = (5 - x3).toNat ∧ (0 ≤ x3 ∧ x3 ≤ 5) ∧ zE T (zl_39_1 x0b x2ij x1 (m + 1) Z x3)) ?_ 65536 ((5 - x3).toNat) _ (by omega) ⟨Z, x3, hL, rfl, hZ, hK, hU, rfl, gx3, hP⟩
  clear hP gx3 hZ hK hU hL
  clear x3
  clear Z
  rintro m ⟨L, st, μ⟩ ⟨Z, x3, hL, hx, hZ, hK, hU, hm, gx3, hP⟩
  cases hx
  refine fb_39_1 x0b (i3 x1) x2i (i3 x3) _ _ _ _ hL ?_
  refine wz_br (i3Le (show (5 : Int32) = i3 5 from rfl) (rfl : i3 x3 = i3 x3) (by omega) (by omega) (by omega) (by omega)) (fun h1 => ?_) (fun h1 => ?_)
  · replace hP := zE_p hP h1
    exact hk _ _ _ (zconso rfl (zconso (zvo (rfl : i3 x1 = i3 x1)) (zconso rfl (zconso rfl rfl)))) hZ hK hU (by omega)  hP
  · replace hP := zE_n hP h1
    refine wz_i0 (i3O (n := 22) (i3A (show (17 : Int32) = i3 17 from rfl) (rfl : i3 x3 = i3 x3)) (by omega) (by omega) (by omega)) ?_
    have r2 := zH_k hZ 50 x0b x2ij (17 + x3) (lo := -1) (hi := 743) (by decide) (zrn_of (lo := 17) (n := 5) (by decide) (by decide +kernel) (by omega) (by omega))
    have r3 := zH_k hZ 11 x0b 0 13 (lo := 0) (hi := 671) (by decide) rfl
    refine wz_br (i3NE (zm_rd (Z := Z) (ν := ν) (k := 50) (rfl : ((x0b : Nat) : Int) = x0b) ex2i (i3I (y := (17 + x3)) (i3A (show (17 : Int32) = i3 17 from rfl) (rfl : i3 x3 = i3 x3)) (by omega) (by omega) (by omega))) (zm_rd (Z := Z) (ν := ν) (k := 11) (rfl : ((x0b : Nat) : Int) = x0b) (show ((0 : Nat) : Int) = 0 from rfl) (show ((13 : Nat) : Int) = 13 from rfl)) (by omega) (by omega) (by omega) (by omega)) (fun h4 => ?_) (fun h4 => ?_)
    · replace hP := zE_p hP h4
      obtain ⟨m2, rfl⟩ : ∃ m2, m = m2 + 1 := ⟨m - 1, by omega⟩
      exact wz_k1 ⟨m2, by omega, Z, (x3 + 1), (zconso rfl (zconso (zvo (rfl : i3 x1 = i3 x1)) (zconso rfl (zconso (zvo (i3A (rfl : i3 x3 = i3 x3) (show (1 : Int32) = i3 1 from rfl))) rfl)))), rfl, hZ, hK, hU, by omega, by omega,  hP⟩
    · replace hP := zE_n hP h4
      refine wz_i0 (i3O (n := 22) (i3A (show (12 : Int32) = i3 12 from rfl) (rfl : i3 x3 = i3 x3)) (by omega) (by omega) (by omega)) ?_
      have r5 := zH_k hZ 50 x0b x2ij (12 + x3) (lo := -1) (hi := 4) (by decide) (zrn_of (lo := 12) (n := 5) (by decide) (by decide +kernel) (by omega) (by omega))
      obtain ⟨Z6, hZ6, c9, hZ6I, kZ6, jZ6⟩ := sp_41 (ν := ν) hZ x0b (a1 := x1) (by omega) (a2 := (Z 50 x0b x2ij (12 + x3))) (by omega) (zbh (c := 0) (k := 0) hM (Nat.le_of_ble_eq_true rfl))
      have hZ6U : zU [x0b] Zs Z6 := zU_t hU jZ6 (zU_b1 (List.Mem.head _) zU_b0)
      have hZ6K : zC [45, 47] Zs Z6 := zC_t hK kZ6 (by decide)
      replace hP := zl_e hP hZ6
      refine wz_cV_of (zas (zcons rfl (zcons (zvi (rfl : i3 x1 = i3 x1)) (zcons (zvi (zm_rd (Z := Z) (ν := ν) (k := 50) (rfl : ((x0b : Nat) : Int) = x0b) ex2i (i3I (y := (12 + x3)) (i3A (show (12 : Int32) = i3 12 from rfl) (rfl : i3 x3 = i3 x3)) (by omega) (by omega) (by omega)))) rfl))) c9) ?_
      clear c9
      obtain ⟨m2, rfl⟩ : ∃ m2, m = m2 + 1 := ⟨m - 1, by omega⟩
      exact wz_k1 ⟨m2, by omega, Z6, (x3 + 1), (zconso rfl (zconso (zvo (rfl : i3 x1 = i3 x1)) (zconso rfl (zconso (zvo (i3A (rfl : i3 x3 = i3 x3) (show (1 : Int32) = i3 1 from rfl))) rfl)))), rfl, hZ6I, hZ6K, hZ6U, by omega, by omega,  hP⟩
/- yX2_arrive -/
def zl_39_4 (x0b : Int) : Nat → qz_Z → Int → qz_Z × Int
  | 0, Z, x1 => (Z, x1)
  | m + 1, Z, x1 => (if (Z 11 x0b 0 8) ≤ x1 then (Z, x1) else (if (Z 50 x0b x1 2) ≠ 1 then zl_39_4 x0b m Z (x1 + 1) else (zlet2 (zl_39_1 x0b x1 x1 6 Z 0) (fun Z6 y5 => (if (Z6 50 x0b x1 8) ≠ (Z6 11 x0b 0 13) then zl_39_4 x0b m Z6 (x1 + 1) else (zlet (zu Z6 50 x0b x1 2 0) (fun Z11 => (zlet (zu Z11 50 x0b x1 8 (-1)) (fun Z12 => (zlet (zu Z12 50 x0b x1 10 (w3 ((Z12 50 x0b x1 10) + (Z12 50 x0b x1 6)))) (fun Z16 => (if (w3 ((Z16 13 x0b 0 2) * (Z16 50 x0b x1 6))) ≠ 0 then (zlet (zu Z16 14 x0b 0 0 (w3 ((Z16 14 x0b 0 0) - (w3 ((Z16 13 x0b 0 2) * (Z16 50 x0b x1 6)))))) (fun Z24 => (zlet (zu Z24 14 x0b 0 5 (w3 ((Z24 14 x0b 0 5) + (w3 ((Z16 13 x0b 0 2) * (Z16 50 x0b x1 6)))))) (fun Z27 => (zlet (zu Z27 53 x0b ((Z27 11 x0b 0 12) % 60) 0 0) (fun Z29 => (zlet (zu Z29 53 x0b ((Z27 11 x0b 0 12) % 60) 1 5) (fun Z30 => (zlet (zu Z30 53 x0b ((Z27 11 x0b 0 12) % 60) 2 (w3 ((Z16 13 x0b 0 2) * (Z16 50 x0b x1 6)))) (fun Z31 => (zlet (zu Z31 53 x0b ((Z27 11 x0b 0 12) % 60) 3 (-1)) (fun Z32 => (zlet (zu Z32 53 x0b ((Z27 11 x0b 0 12) % 60) 4 (Z32 11 x0b 0 13)) (fun Z35 => (zlet (zu Z35 11 x0b 0 12 ((Z35 11 x0b 0 12) + 1)) (fun Z38 => zl_39_4 x0b m Z38 (x1 + 1))))))))))))))))) else zl_39_4 x0b m Z16 (x1 + 1)))))))))))))
theorem sl_39_4 {s : zSM} {xM9 : Nat} {Zs Z : qz_Z} {ν : qz_N} (hZ : zH (zb s xM9) Z) (hM : s.2 + 5 ≤ 1000000000) (hK : zC [14, 45, 47, 50, 53, 1112] Zs Z) (x0b : Nat) {x1 : Int} (gx1 : 0 ≤ x1 ∧ x1 ≤ 4) (hU : zU [x0b] Zs Z) (hx9 : xM9 + 1 * ((4 - x1).toNat) + 1 ≤ 5) {k : wz_K} {R : wz_R} {L : qz_L} (hL : qz_fg [true, true, false, false] L = [some (.inr (.inr (some (10, x0b, 0)))), some (.inl (i3 x1)), none, none]) {T : qz_Z × Int} (hP : zE T (zl_39_4 x0b ((4 - x1).toNat + 1) Z x1)) (hk : ∀ (L9 : qz_L) (Z9 : qz_Z) (yx1 : Int), qz_fg [false, false, false, false] L9 = [none, none, none, none] → zH (zb s 5) Z9 → zC [14, 45, 47, 50, 53, 1112] Zs Z9 → zU [x0b] Zs Z9 → (0 ≤ yx1 ∧ yx1 ≤ 4) → zE T ((Z9, yx1)) → k 0 (L9, [], zm Z9 ν)) : wz_loop qb_39_4 65536 k R (L, [], zm Z ν) := by
  refine wz_lp sb_39_4 (fun m x => ∃ xM9 : Nat, ∃ Z : qz_Z, ∃ x1 : Int, qz_fg [true, true, false, false] x.1 = [some (.inr (.inr (some (10, x0b, 0)))), some (.inl (i3 x1)), none, none] ∧ x.2 = ([], zm Z ν) ∧ xM9 + 1 * m + 1 ≤ 5 ∧ zH (zb s xM9) Z ∧ zC [14, 45, 47, 50, 53, 1112] Zs Z ∧ zU [x0b] Zs Z ∧ m = (4 - x1).toNat ∧ (0 ≤ x1 ∧ x1 ≤ 4) ∧ zE T (zl_39_4 x0b (m + 1) Z x1)) ?_ 65536 ((4 - x1).toNat) _ (by omega) ⟨xM9, Z, x1, hL, rfl, hx9, hZ, hK, hU, rfl, gx1, hP⟩
  clear hP gx1 hx9 hZ hK hU hL
  clear x1
  clear Z
  clear xM9
  rintro m ⟨L, st, μ⟩ ⟨xM9, Z, x1, hL, hx, hx9, hZ, hK, hU, hm, gx1, hP⟩
  cases hx
  have hM9 : (zb s xM9).2 + 1 ≤ 1000000000 := by
    show s.2 + xM9 + 1 ≤ 1000000000
    omega
  refine fb_39_4 x0b (i3 x1) _ _ _ _ hL ?_
  have r1 := zH_k hZ 11 x0b 0 8 (lo := 0) (hi := 4) (by decide) rfl
  refine wz_br (i3Le (zm_rd (Z := Z) (ν := ν) (k := 11) (rfl : ((x0b : Nat) : Int) = x0b) (show ((0 : Nat) : Int) = 0 from rfl) (show ((8 : Nat) : Int) = 8 from rfl)) (rfl : i3 x1 = i3 x1) (by omega) (by omega) (by omega) (by omega)) (fun h2 => ?_) (fun h2 => ?_)
  · replace hP := zE_p hP h2
    exact hk _ _ _ (zconso rfl (zconso rfl (zconso rfl (zconso rfl rfl)))) (zbx0 hZ (by omega)) hK hU (by omega)  hP
  · replace hP := zE_n hP h2
    refine wz_i0 (i3O (n := 4) (rfl : i3 x1 = i3 x1) (by omega) (by omega) (by omega)) ?_
    have r3 := zH_k hZ 50 x0b x1 2 (lo := 0) (hi := 1) (by decide) rfl
    refine wz_br (i3NE (zm_rd (Z := Z) (ν := ν) (k := 50) (rfl : ((x0b : Nat) : Int) = x0b) (i3I (y := x1) (rfl : i3 x1 = i3 x1) (by omega) (by omega) (by omega)) (show ((2 : Nat) : Int) = 2 from rfl)) (show (1 : Int32) = i3 1 from rfl) (by omega) (by omega) (by omega) (by omega)) (fun h4 => ?_) (fun h4 => ?_)
    · replace hP := zE_p hP h4
      refine fc_39_3 _ (i3 x1) _ _ _ _ (zconso rfl (zconso (zvo (rfl : i3 x1 = i3 x1)) (zconso rfl (zconso rfl rfl)))) ?_
      obtain ⟨m2, rfl⟩ : ∃ m2, m = m2 + 1 := ⟨m - 1, by omega⟩
      refine wz_kbs (n := 1) (?_)
      exact wz_k1 ⟨m2, by omega, xM9, Z, (x1 + 1), (zconso rfl (zconso (zvo (i3A (rfl : i3 x1 = i3 x1) (show (1 : Int32) = i3 1 from rfl))) (zconso rfl (zconso rfl rfl)))), rfl, by omega, hZ, hK, hU, by omega, by omega,  hP⟩
    · replace hP := zE_n hP h4
      refine sl_39_1 (ν := ν) hZ (zbh (c := 0) (k := 0) hM9 (Nat.le_of_ble_eq_true rfl)) zC_r x0b _ (i3I (y := x1) (rfl : i3 x1 = i3 x1) (by omega) (by omega) (by omega)) (by omega) (x1 := x1) (by omega) (x3 := 0) (by omega) zU_r  (zconso rfl (zconso (zvo (rfl : i3 x1 = i3 x1)) (zconso rfl (zconso (zvo (show (0 : Int32) = i3 0 from rfl)) rfl)))) rfl ?_
      intro L7 Z6 y5 hL7 hZ6I kZ6 jZ6 gy5 q9
      replace hP := zl_e2 hP (Eq.symm q9)
      clear q9
      have hZ6U : zU [x0b] Zs Z6 := zU_t hU jZ6 (zU_b1 (List.Mem.head _) zU_b0)
      have hZ6K : zC [14, 45, 47, 50, 53, 1112] Zs Z6 := zC_t hK kZ6 (by decide)
      refine fc_39_2 _ (i3 x1) _ _ _ _ _ hL7 ?_
      have r8 := zH_k hZ6I 50 x0b x1 8 (lo := -1) (hi := 743) (by decide) rfl
      have r9 := zH_k hZ6I 11 x0b 0 13 (lo := 0) (hi := 671) (by decide) rfl
      refine wz_br (i3NE (zm_rd (Z := Z6) (ν := ν) (k := 50) (rfl : ((x0b : Nat) : Int) = x0b) (i3I (y := x1) (rfl : i3 x1 = i3 x1) (by omega) (by omega) (by omega)) (show ((8 : Nat) : Int) = 8 from rfl)) (zm_rd (Z := Z6) (ν := ν) (k := 11) (rfl : ((x0b : Nat) : Int) = x0b) (show ((0 : Nat) : Int) = 0 from rfl) (show ((13 : Nat) : Int) = 13 from rfl)) (by omega) (by omega) (by omega) (by omega)) (fun h10 => ?_) (fun h10 => ?_)
      · replace hP := zE_p hP h10
        refine wz_kbs (n := 0) (wz_sk0 ?_)
        refine fc_39_3 _ (i3 x1) _ _ _ _ (zconso rfl (zconso (zvo (rfl : i3 x1 = i3 x1)) (zconso rfl (zconso rfl rfl)))) ?_
        obtain ⟨m2, rfl⟩ : ∃ m2, m = m2 + 1 := ⟨m - 1, by omega⟩
        refine wz_kbs (n := 1) (?_)
        exact wz_k1 ⟨m2, by omega, xM9, Z6, (x1 + 1), (zconso rfl (zconso (zvo (i3A (rfl : i3 x1 = i3 x1) (show (1 : Int32) = i3 1 from rfl))) (zconso rfl (zconso rfl rfl)))), rfl, by omega, hZ6I, hZ6K, hZ6U, by omega, by omega,  hP⟩
      · replace hP := zE_n hP h10
        obtain ⟨Z11, hZ11⟩ := zx (zu Z6 50 x0b x1 2 0)
        replace hP := zl_e hP hZ11
        have hZ11I := zH_0 hZ6I hZ11 (by decide) (Or.inl (by decide))
        have hZ11U : zU [x0b] Zs Z11 := zU_u hZ6U hZ11 (Or.inr (List.Mem.head _))
        have hZ11K : zC [14, 45, 47, 50, 53, 1112] Zs Z11 := zC_u hZ6K hZ11 (by decide)
        intro μ9 e9
        replace e9 := e9.trans (zm_wI (Z := Z6) (ν := ν) hZ11 (rfl : ((x0b : Nat) : Int) = x0b) (i3I (y := x1) (rfl : i3 x1 = i3 x1) (by omega) (by omega) (by omega)) (show ((2 : Nat) : Int) = 2 from rfl) (show (0 : Int32) = i3 0 from rfl))
        subst e9
        obtain ⟨Z12, hZ12⟩ := zx (zu Z11 50 x0b x1 8 (-1))
        replace hP := zl_e hP hZ12
        have hZ12I := zH_u hZ11I hZ12 (lo := -1) (hi := 743) (by decide) rfl (by omega) ⟨by decide, by decide⟩ (Or.inl (by decide)) rfl
        have hZ12U : zU [x0b] Zs Z12 := zU_u hZ11U hZ12 (Or.inr (List.Mem.head _))
        have hZ12K : zC [14, 45, 47, 50, 53, 1112] Zs Z12 := zC_u hZ11K hZ12 (by decide)
        intro μ9 e9
        replace e9 := e9.trans (zm_wI (Z := Z11) (ν := ν) hZ12 (rfl : ((x0b : Nat) : Int) = x0b) (i3I (y := x1) (rfl : i3 x1 = i3 x1) (by omega) (by omega) (by omega)) (show ((8 : Nat) : Int) = 8 from rfl) (show (-1 : Int32) = i3 (-1) from rfl))
        subst e9
        have r13 := zH_f hZ12I 50 x0b x1 10
        have r14 := zH_f hZ12I 50 x0b x1 6
        have r15 := w3_r ((Z12 50 x0b x1 10) + (Z12 50 x0b x1 6))
        obtain ⟨Z16, hZ16⟩ := zx (zu Z12 50 x0b x1 10 (w3 ((Z12 50 x0b x1 10) + (Z12 50 x0b x1 6))))
        replace hP := zl_e hP hZ16
        have hZ16I := zH_u hZ12I hZ16 (lo := -2147483648) (hi := 2147483647) (by decide) rfl (by omega) ⟨by decide, by decide⟩ (Or.inl (by decide)) rfl
        have hZ16U : zU [x0b] Zs Z16 := zU_u hZ12U hZ16 (Or.inr (List.Mem.head _))
        have hZ16K : zC [14, 45, 47, 50, 53, 1112] Zs Z16 := zC_u hZ12K hZ16 (by decide)
        intro μ9 e9
        replace e9 := e9.trans (zm_wI (Z := Z12) (ν := ν) hZ16 (rfl : ((x0b : Nat) : Int) = x0b) (i3I (y := x1) (rfl : i3 x1 = i3 x1) (by omega) (by omega) (by omega)) (show ((10 : Nat) : Int) = 10 from rfl) (i3W (i3A (zm_rd (Z := Z12) (ν := ν) (k := 50) (rfl : ((x0b : Nat) : Int) = x0b) (i3I (y := x1) (rfl : i3 x1 = i3 x1) (by omega) (by omega) (by omega)) (show ((10 : Nat) : Int) = 10 from rfl)) (zm_rd (Z := Z12) (ν := ν) (k := 50) (rfl : ((x0b : Nat) : Int) = x0b) (i3I (y := x1) (rfl : i3 x1 = i3 x1) (by omega) (by omega) (by omega)) (show ((6 : Nat) : Int) = 6 from rfl)))))
        subst e9
        have r17 := zH_k hZ16I 13 x0b 0 2 (lo := 0) (hi := 99999) (by decide) rfl
        have r18 := zH_f hZ16I 50 x0b x1 6
        have q19 := zu_ne (k' := 50) (b' := x0b) (i' := x1) (j' := 6) hZ16 (fun q => absurd q.2.2.2 (by decide))
        have r20 := w3_r ((Z16 13 x0b 0 2) * (Z16 50 x0b x1 6))
        refine wz_br (i3NE (i3W (i3M (zm_rd (Z := Z16) (ν := ν) (k := 13) (rfl : ((x0b : Nat) : Int) = x0b) (show ((0 : Nat) : Int) = 0 from rfl) (show ((2 : Nat) : Int) = 2 from rfl)) (zm_rd (Z := Z16) (ν := ν) (k := 50) (rfl : ((x0b : Nat) : Int) = x0b) (i3I (y := x1) (rfl : i3 x1 = i3 x1) (by omega) (by omega) (by omega)) (show ((6 : Nat) : Int) = 6 from rfl)))) (show (0 : Int32) = i3 0 from rfl) (by omega) (by omega) (by omega) (by omega)) (fun h21 => ?_) (fun h21 => ?_)
        · replace hP := zE_p hP h21
          have r22 := zH_f hZ16I 14 x0b 0 0
          have r23 := w3_r ((Z16 14 x0b 0 0) - (w3 ((Z16 13 x0b 0 2) * (Z16 50 x0b x1 6))))
          obtain ⟨Z24, hZ24⟩ := zx (zu Z16 14 x0b 0 0 (w3 ((Z16 14 x0b 0 0) - (w3 ((Z16 13 x0b 0 2) * (Z16 50 x0b x1 6))))))
          replace hP := zl_e hP hZ24
          have hZ24I := zH_u hZ16I hZ24 (lo := -2147483648) (hi := 2147483647) (by decide) rfl (by omega) ⟨by decide, by decide⟩ (Or.inl (by decide)) rfl
          have hZ24U : zU [x0b] Zs Z24 := zU_u hZ16U hZ24 (Or.inr (List.Mem.head _))
          have hZ24K : zC [14, 45, 47, 50, 53, 1112] Zs Z24 := zC_u hZ16K hZ24 (by decide)
          intro μ9 e9
          replace e9 := e9.trans (zm_wI (Z := Z16) (ν := ν) hZ24 (rfl : ((x0b : Nat) : Int) = x0b) (show ((0 : Nat) : Int) = 0 from rfl) (show ((0 : Nat) : Int) = 0 from rfl) (i3W (i3S (zm_rd (Z := Z16) (ν := ν) (k := 14) (rfl : ((x0b : Nat) : Int) = x0b) (show ((0 : Nat) : Int) = 0 from rfl) (show ((0 : Nat) : Int) = 0 from rfl)) (i3W (i3M (zm_rd (Z := Z16) (ν := ν) (k := 13) (rfl : ((x0b : Nat) : Int) = x0b) (show ((0 : Nat) : Int) = 0 from rfl) (show ((2 : Nat) : Int) = 2 from rfl)) (zm_rd (Z := Z16) (ν := ν) (k := 50) (rfl : ((x0b : Nat) : Int) = x0b) (i3I (y := x1) (rfl : i3 x1 = i3 x1) (by omega) (by omega) (by omega)) (show ((6 : Nat) : Int) = 6 from rfl)))))))
          subst e9
          have r25 := zH_f hZ24I 14 x0b 0 5
          have r26 := w3_r ((Z24 14 x0b 0 5) + (w3 ((Z16 13 x0b 0 2) * (Z16 50 x0b x1 6))))
          obtain ⟨Z27, hZ27⟩ := zx (zu Z24 14 x0b 0 5 (w3 ((Z24 14 x0b 0 5) + (w3 ((Z16 13 x0b 0 2) * (Z16 50 x0b x1 6))))))
          replace hP := zl_e hP hZ27
          have hZ27I := zH_u hZ24I hZ27 (lo := -2147483648) (hi := 2147483647) (by decide) rfl (by omega) ⟨by decide, by decide⟩ (Or.inl (by decide)) rfl
          have hZ27U : zU [x0b] Zs Z27 := zU_u hZ24U hZ27 (Or.inr (List.Mem.head _))
          have hZ27K : zC [14, 45, 47, 50, 53, 1112] Zs Z27 := zC_u hZ24K hZ27 (by decide)
          intro μ9 e9
          replace e9 := e9.trans (zm_wI (Z := Z24) (ν := ν) hZ27 (rfl : ((x0b : Nat) : Int) = x0b) (show ((0 : Nat) : Int) = 0 from rfl) (show ((5 : Nat) : Int) = 5 from rfl) (i3W (i3A (zm_rd (Z := Z24) (ν := ν) (k := 14) (rfl : ((x0b : Nat) : Int) = x0b) (show ((0 : Nat) : Int) = 0 from rfl) (show ((5 : Nat) : Int) = 5 from rfl)) (i3W (i3M (zm_rd (Z := Z16) (ν := ν) (k := 13) (rfl : ((x0b : Nat) : Int) = x0b) (show ((0 : Nat) : Int) = 0 from rfl) (show ((2 : Nat) : Int) = 2 from rfl)) (zm_rd (Z := Z16) (ν := ν) (k := 50) (rfl : ((x0b : Nat) : Int) = x0b) (i3I (y := x1) (rfl : i3 x1 = i3 x1) (by omega) (by omega) (by omega)) (show ((6 : Nat) : Int) = 6 from rfl)))))))
          subst e9
          have r28 := zH_c12 hZ27I x0b (zbh (c := 0) (k := 0) hM9 (Nat.le_of_ble_eq_true rfl))
          refine wz_i0 (i3O (n := 60) (i3R (zm_rd (Z := Z27) (ν := ν) (k := 11) (rfl : ((x0b : Nat) : Int) = x0b) (show ((0 : Nat) : Int) = 0 from rfl) (show ((12 : Nat) : Int) = 12 from rfl)) (show (60 : Int32) = i3 60 from rfl) (by omega) (by omega) (by omega) (by omega)) (by omega) (by omega) (by omega)) ?_
          obtain ⟨Z29, hZ29⟩ := zx (zu Z27 53 x0b ((Z27 11 x0b 0 12) % 60) 0 0)
          replace hP := zl_e hP hZ29
          have hZ29I := zH_0 hZ27I hZ29 (by decide) (Or.inl (by decide))
          have hZ29U : zU [x0b] Zs Z29 := zU_u hZ27U hZ29 (Or.inr (List.Mem.head _))
          have hZ29K : zC [14, 45, 47, 50, 53, 1112] Zs Z29 := zC_u hZ27K hZ29 (by decide)
          intro μ9 e9
          replace e9 := e9.trans (zm_wI (Z := Z27) (ν := ν) hZ29 (rfl : ((x0b : Nat) : Int) = x0b) (i3I (y := ((Z27 11 x0b 0 12) % 60)) (i3R (zm_rd (Z := Z27) (ν := ν) (k := 11) (rfl : ((x0b : Nat) : Int) = x0b) (show ((0 : Nat) : Int) = 0 from rfl) (show ((12 : Nat) : Int) = 12 from rfl)) (show (60 : Int32) = i3 60 from rfl) (by omega) (by omega) (by omega) (by omega)) (by omega) (by omega) (by omega)) (show ((0 : Nat) : Int) = 0 from rfl) (show (0 : Int32) = i3 0 from rfl))
          subst e9
          obtain ⟨Z30, hZ30⟩ := zx (zu Z29 53 x0b ((Z27 11 x0b 0 12) % 60) 1 5)
          replace hP := zl_e hP hZ30
          have hZ30I := zH_u hZ29I hZ30 (lo := -2147483648) (hi := 2147483647) (by decide) rfl (by omega) ⟨by decide, by decide⟩ (Or.inl (by decide)) rfl
          have hZ30U : zU [x0b] Zs Z30 := zU_u hZ29U hZ30 (Or.inr (List.Mem.head _))
          have hZ30K : zC [14, 45, 47, 50, 53, 1112] Zs Z30 := zC_u hZ29K hZ30 (by decide)
          intro μ9 e9
          replace e9 := e9.trans (zm_wI (Z := Z29) (ν := ν) hZ30 (rfl : ((x0b : Nat) : Int) = x0b) (i3I (y := ((Z27 11 x0b 0 12) % 60)) (i3R (zm_rd (Z := Z27) (ν := ν) (k := 11) (rfl : ((x0b : Nat) : Int) = x0b) (show ((0 : Nat) : Int) = 0 from rfl) (show ((12 : Nat) : Int) = 12 from rfl)) (show (60 : Int32) = i3 60 from rfl) (by omega) (by omega) (by omega) (by omega)) (by omega) (by omega) (by omega)) (show ((1 : Nat) : Int) = 1 from rfl) (show (5 : Int32) = i3 5 from rfl))
          subst e9
          obtain ⟨Z31, hZ31⟩ := zx (zu Z30 53 x0b ((Z27 11 x0b 0 12) % 60) 2 (w3 ((Z16 13 x0b 0 2) * (Z16 50 x0b x1 6))))
          replace hP := zl_e hP hZ31
          have hZ31I := zH_u hZ30I hZ31 (lo := -2147483648) (hi := 2147483647) (by decide) rfl (by omega) ⟨by decide, by decide⟩ (Or.inl (by decide)) rfl
          have hZ31U : zU [x0b] Zs Z31 := zU_u hZ30U hZ31 (Or.inr (List.Mem.head _))
          have hZ31K : zC [14, 45, 47, 50, 53, 1112] Zs Z31 := zC_u hZ30K hZ31 (by decide)
          intro μ9 e9
          replace e9 := e9.trans (zm_wI (Z := Z30) (ν := ν) hZ31 (rfl : ((x0b : Nat) : Int) = x0b) (i3I (y := ((Z27 11 x0b 0 12) % 60)) (i3R (zm_rd (Z := Z27) (ν := ν) (k := 11) (rfl : ((x0b : Nat) : Int) = x0b) (show ((0 : Nat) : Int) = 0 from rfl) (show ((12 : Nat) : Int) = 12 from rfl)) (show (60 : Int32) = i3 60 from rfl) (by omega) (by omega) (by omega) (by omega)) (by omega) (by omega) (by omega)) (show ((2 : Nat) : Int) = 2 from rfl) (i3W (i3M (zm_rd (Z := Z16) (ν := ν) (k := 13) (rfl : ((x0b : Nat) : Int) = x0b) (show ((0 : Nat) : Int) = 0 from rfl) (show ((2 : Nat) : Int) = 2 from rfl)) (zm_rd (Z := Z16) (ν := ν) (k := 50) (rfl : ((x0b : Nat) : Int) = x0b) (i3I (y := x1) (rfl : i3 x1 = i3 x1) (by omega) (by omega) (by omega)) (show ((6 : Nat) : Int) = 6 from rfl)))))
          subst e9
          obtain ⟨Z32, hZ32⟩ := zx (zu Z31 53 x0b ((Z27 11 x0b 0 12) % 60) 3 (-1))
          replace hP := zl_e hP hZ32
          have hZ32I := zH_u hZ31I hZ32 (lo := -2147483648) (hi := 2147483647) (by decide) rfl (by omega) ⟨by decide, by decide⟩ (Or.inl (by decide)) rfl
          have hZ32U : zU [x0b] Zs Z32 := zU_u hZ31U hZ32 (Or.inr (List.Mem.head _))
          have hZ32K : zC [14, 45, 47, 50, 53, 1112] Zs Z32 := zC_u hZ31K hZ32 (by decide)
          intro μ9 e9
          replace e9 := e9.trans (zm_wI (Z := Z31) (ν := ν) hZ32 (rfl : ((x0b : Nat) : Int) = x0b) (i3I (y := ((Z27 11 x0b 0 12) % 60)) (i3R (zm_rd (Z := Z27) (ν := ν) (k := 11) (rfl : ((x0b : Nat) : Int) = x0b) (show ((0 : Nat) : Int) = 0 from rfl) (show ((12 : Nat) : Int) = 12 from rfl)) (show (60 : Int32) = i3 60 from rfl) (by omega) (by omega) (by omega) (by omega)) (by omega) (by omega) (by omega)) (show ((3 : Nat) : Int) = 3 from rfl) (show (-1 : Int32) = i3 (-1) from rfl))
          subst e9
          have r33 := zH_k hZ32I 11 x0b 0 13 (lo := 0) (hi := 671) (by decide) rfl
          have q34 := (zu_ne (k' := 11) (b' := x0b) (i' := 0) (j' := 13) hZ32 (fun q => absurd q.1 (by decide))).trans ((zu_ne (k' := 11) (b' := x0b) (i' := 0) (j' := 13) hZ31 (fun q => absurd q.1 (by decide))).trans ((zu_ne (k' := 11) (b' := x0b) (i' := 0) (j' := 13) hZ30 (fun q => absurd q.1 (by decide))).trans ((zu_ne (k' := 11) (b' := x0b) (i' := 0) (j' := 13) hZ29 (fun q => absurd q.1 (by decide))).trans ((zu_ne (k' := 11) (b' := x0b) (i' := 0) (j' := 13) hZ27 (fun q => absurd q.1 (by decide))).trans ((zu_ne (k' := 11) (b' := x0b) (i' := 0) (j' := 13) hZ24 (fun q => absurd q.1 (by decide))).trans ((zu_ne (k' := 11) (b' := x0b) (i' := 0) (j' := 13) hZ16 (fun q => absurd q.1 (by decide))).trans ((zu_ne (k' := 11) (b' := x0b) (i' := 0) (j' := 13) hZ12 (fun q => absurd q.1 (by decide))).trans (zu_ne (k' := 11) (b' := x0b) (i' := 0) (j' := 13) hZ11 (fun q => absurd q.1 (by decide))))))))))
          obtain ⟨Z35, hZ35⟩ := zx (zu Z32 53 x0b ((Z27 11 x0b 0 12) % 60) 4 (Z32 11 x0b 0 13))
          replace hP := zl_e hP hZ35
          have hZ35I := zH_u hZ32I hZ35 (lo := -2147483648) (hi := 2147483647) (by decide) rfl (by omega) ⟨by decide, by decide⟩ (Or.inl (by decide)) rfl
          have hZ35U : zU [x0b] Zs Z35 := zU_u hZ32U hZ35 (Or.inr (List.Mem.head _))
          have hZ35K : zC [14, 45, 47, 50, 53, 1112] Zs Z35 := zC_u hZ32K hZ35 (by decide)
          intro μ9 e9
          replace e9 := e9.trans (zm_wI (Z := Z32) (ν := ν) hZ35 (rfl : ((x0b : Nat) : Int) = x0b) (i3I (y := ((Z27 11 x0b 0 12) % 60)) (i3R (zm_rd (Z := Z27) (ν := ν) (k := 11) (rfl : ((x0b : Nat) : Int) = x0b) (show ((0 : Nat) : Int) = 0 from rfl) (show ((12 : Nat) : Int) = 12 from rfl)) (show (60 : Int32) = i3 60 from rfl) (by omega) (by omega) (by omega) (by omega)) (by omega) (by omega) (by omega)) (show ((4 : Nat) : Int) = 4 from rfl) (zm_rd (Z := Z32) (ν := ν) (k := 11) (rfl : ((x0b : Nat) : Int) = x0b) (show ((0 : Nat) : Int) = 0 from rfl) (show ((13 : Nat) : Int) = 13 from rfl)))
          subst e9
          have r36 := zH_c12 hZ35I x0b (zbh (c := 0) (k := 0) hM9 (Nat.le_of_ble_eq_true rfl))
          have q37 := (zu_ne (k' := 11) (b' := x0b) (i' := 0) (j' := 12) hZ35 (fun q => absurd q.1 (by decide))).trans ((zu_ne (k' := 11) (b' := x0b) (i' := 0) (j' := 12) hZ32 (fun q => absurd q.1 (by decide))).trans ((zu_ne (k' := 11) (b' := x0b) (i' := 0) (j' := 12) hZ31 (fun q => absurd q.1 (by decide))).trans ((zu_ne (k' := 11) (b' := x0b) (i' := 0) (j' := 12) hZ30 (fun q => absurd q.1 (by decide))).trans (zu_ne (k' := 11) (b' := x0b) (i' := 0) (j' := 12) hZ29 (fun q => absurd q.1 (by decide))))))
          obtain ⟨Z38, hZ38⟩ := zx (zu Z35 11 x0b 0 12 ((Z35 11 x0b 0 12) + 1))
          replace hP := zl_e hP hZ38
          have hZ38I := zH_i12 hZ35I hZ38 (zbh (c := 0) (k := 1) hM9 (Nat.le_of_ble_eq_true rfl)) (by omega)
          have hZ38U : zU [x0b] Zs Z38 := zU_u hZ35U hZ38 (Or.inr (List.Mem.head _))
          have hZ38K : zC [14, 45, 47, 50, 53, 1112] Zs Z38 := zC_u hZ35K hZ38 (by decide)
          intro μ9 e9
          replace e9 := e9.trans (zm_wI (Z := Z35) (ν := ν) hZ38 (rfl : ((x0b : Nat) : Int) = x0b) (show ((0 : Nat) : Int) = 0 from rfl) (show ((12 : Nat) : Int) = 12 from rfl) (i3A (zm_rd (Z := Z35) (ν := ν) (k := 11) (rfl : ((x0b : Nat) : Int) = x0b) (show ((0 : Nat) : Int) = 0 from rfl) (show ((12 : Nat) : Int) = 12 from rfl)) (show (1 : Int32) = i3 1 from rfl)))
          subst e9
          refine wz_kb0 (wz_sk0 ?_)
          refine fc_39_3 _ (i3 x1) _ _ _ _ (zconso rfl (zconso (zvo (rfl : i3 x1 = i3 x1)) (zconso rfl (zconso rfl rfl)))) ?_
          obtain ⟨m2, rfl⟩ : ∃ m2, m = m2 + 1 := ⟨m - 1, by omega⟩
          refine wz_kbs (n := 1) (?_)
          exact wz_k1 ⟨m2, by omega, xM9 + 1, Z38, (x1 + 1), (zconso rfl (zconso (zvo (i3A (rfl : i3 x1 = i3 x1) (show (1 : Int32) = i3 1 from rfl))) (zconso rfl (zconso rfl rfl)))), rfl, by omega, (zbt hZ38I rfl), hZ38K, hZ38U, by omega, by omega,  hP⟩
        · replace hP := zE_n hP h21
          refine wz_kb0 (wz_sk0 ?_)
          refine fc_39_3 _ (i3 x1) _ _ _ _ (zconso rfl (zconso (zvo (rfl : i3 x1 = i3 x1)) (zconso rfl (zconso rfl rfl)))) ?_
          obtain ⟨m2, rfl⟩ : ∃ m2, m = m2 + 1 := ⟨m - 1, by omega⟩
          refine wz_kbs (n := 1) (?_)
          exact wz_k1 ⟨m2, by omega, xM9, Z16, (x1 + 1), (zconso rfl (zconso (zvo (i3A (rfl : i3 x1 = i3 x1) (show (1 : Int32) = i3 1 from rfl))) (zconso rfl (zconso rfl rfl)))), rfl, by omega, hZ16I, hZ16K, hZ16U, by omega, by omega,  hP⟩
/- yX2_arrive -/
def zf_39 (Z : qz_Z) (a0b : Int) : qz_Z := (zlet2 (zl_39_4 a0b 5 Z 0) (fun Z2 y1 => Z2))
theorem sp_39 {s : zSM} {Z : qz_Z} {ν : qz_N} (hZ : zH s Z) (a0b : Nat) (hM : s.2 + 5 ≤ 1000000000) : ∃ P : qz_Z, P = zf_39 Z a0b ∧ (qf_39 [.inr (.inr (some (10, a0b, 0)))] (zm Z ν) = some (zm P ν, .inl none) ∧ zH (zb s 5) P ∧ zC [14, 45, 47, 50, 53, 1112] Z P ∧ zU [a0b] Z P) := by
  obtain ⟨P, hP⟩ := zx (zf_39 Z a0b)
  refine zc_V (Q := fun P => zH (zb s 5) P ∧ zC [14, 45, 47, 50, 53, 1112] Z P ∧ zU [a0b] Z P) hP (fw_39 a0b _ _ ?_)
  replace hP : zE P (zf_39 Z a0b) := hP
  unfold zf_39 at hP
  refine sl_39_4 (ν := ν) (zb0 hZ) (zbh (c := 0) (k := 5) hM (Nat.le_of_ble_eq_true rfl)) (xM9 := 0) zC_r a0b (x1 := 0) (by omega) zU_r (Nat.le_of_ble_eq_true rfl)  (zconso rfl (zconso (zvo (show (0 : Int32) = i3 0 from rfl)) (zconso rfl (zconso rfl rfl)))) rfl ?_
  intro L3 Z2 y1 hL3 hZ2I kZ2 jZ2 gy1 q9
  replace hP := zl_e2 hP (Eq.symm q9)
  clear q9
  have hZ2U : zU [a0b] Z Z2 := zU_t zU_r jZ2 (zU_b1 (List.Mem.head _) zU_b0)
  have hZ2K : zC [14, 45, 47, 50, 53, 1112] Z Z2 := zC_t zC_r kZ2 (by decide)
  refine fc_39_5  _ _ _ _ hL3 ?_
  exact zlV hP ⟨hZ2I, hZ2K, hZ2U⟩
/- yX2_hoursOf -/
def zl_47_1 (x0b : Int) (x1b : Int) (x2 : Int) : Nat → qz_Z → Int → Int → Int → Int × Int × Int
  | 0, Z, x3, x4, x5 => (x3, x4, x5)
  | m + 1, Z, x3, x4, x5 => (if x2 ≤ x5 then (x3, x4, x5) else zl_47_1 x0b x1b x2 m Z (x3 + (Z 40 x0b x4 (Z 200 x1b 0 x5))) (Z 200 x1b 0 x5) (x5 + 1))
theorem sl_47_1 {s : zSM} {Z : qz_Z} {ν : qz_N} (hZ : zH s Z) (hM : s.2 + 0 ≤ 1000000000) (x0b : Nat) (x1b : Nat) (hSx1 : zSh ν x1b 50 5) (gAx1 : zA (0) 4 x1b Z) {x2 : Int} (gx2 : 0 ≤ x2 ∧ x2 ≤ 5) {x3 : Int} (gx3 : 0 ≤ x3 ∧ x3 ≤ 60) {x4 : Int} (gx4 : 0 ≤ x4 ∧ x4 ≤ 5) {x5 : Int} (gx5 : 0 ≤ x5 ∧ x5 ≤ 5) (gr0 : x3 ≤ 12 * x5) {k : wz_K} {R : wz_R} {L : qz_L} (hL : qz_fg [true, true, true, true, true, true] L = [some (.inr (.inr (some (10, x0b, 0)))), some (.inr (.inr (some (200, x1b, 0)))), some (.inl (i3 x2)), some (.inl (i3 x3)), some (.inl (i3 x4)), some (.inl (i3 x5))]) {T : Int × Int × Int} (hP : zE T (zl_47_1 x0b x1b x2 ((5 - x5).toNat + 1) Z x3 x4 x5)) (hk : ∀ (L9 : qz_L) (yx3 yx4 yx5 : Int), qz_fg [true, false, false, true, true, false] L9 = [some (.inr (.inr (some (10, x0b, 0)))), none, none, some (.inl (i3 yx3)), some (.inl (i3 yx4)), none] → (0 ≤ yx3 ∧ yx3 ≤ 60) → (0 ≤ yx4 ∧ yx4 ≤ 5) → (0 ≤ yx5 ∧ yx5 ≤ 5) → (yx3 ≤ 12 * yx5) → zE T ((yx3, yx4, yx5)) → k 0 (L9, [], zm Z ν)) : wz_loop qb_47_1 65536 k R (L, [], zm Z ν) := by
  refine wz_lp sb_47_1 (fun m x => ∃ x3 : Int, ∃ x4 : Int, ∃ x5 : Int, qz_fg [true, true, true, true, true, true] x.1 = [some (.inr (.inr (some (10, x0b, 0)))), some (.inr (.inr (some (200, x1b, 0)))), some (.inl (i3 x2)), some (.inl (i3 x3)), some (.inl (i3 x4)), some (.inl (i3 x5))] ∧ x.2 = ([], zm Z ν) ∧ m = (5 - x5).toNat ∧ (0 ≤ x3 ∧ x3 ≤ 60) ∧ (0 ≤ x4 ∧ x4 ≤ 5) ∧ (0 ≤ x5 ∧ x5 ≤ 5) ∧ (x3 ≤ 12 * x5) ∧ zE T (zl_47_1 x0b x1b x2 (m + 1) Z x3 x4 x5)) ?_ 65536 ((5 - x5).toNat) _ (by omega) ⟨x3, x4, x5, hL, rfl, rfl, gx3, gx4, gx5, gr0, hP⟩
  clear hP gr0 gx3 gx4 gx5 hL
  clear x3 x4 x5
  rintro m ⟨L, st, μ⟩ ⟨x3, x4, x5, hL, hx, hm, gx3, gx4, gx5, gr0, hP⟩
  cases hx
  refine fb_47_1 x0b (200, x1b, 0) (i3 x2) (i3 x3) (i3 x4) (i3 x5) _ _ _ _ hL ?_
  refine wz_br (i3Le (rfl : i3 x2 = i3 x2) (rfl : i3 x5 = i3 x5) (by omega) (by omega) (by omega) (by omega)) (fun h1 => ?_) (fun h1 => ?_)
  · replace hP := zE_p hP h1
    exact hk _ _ _ _ (zconso rfl (zconso rfl (zconso rfl (zconso (zvo (rfl : i3 x3 = i3 x3)) (zconso (zvo (rfl : i3 x4 = i3 x4)) (zconso rfl rfl))))))  (by omega) (by omega) (by omega) (by omega) hP
  · replace hP := zE_n hP h1
    refine wz_i0 (i3O (n := 6) (rfl : i3 x4 = i3 x4) (by omega) (by omega) (by omega)) ?_
    refine wz_i1 (by rw [zSh_t hSx1]; rfl) ?_
    refine wz_i0 (by rw [zSh_l hSx1]; exact i3O (n := 5) (rfl : i3 x5 = i3 x5) (by omega) (by omega) (by omega)) ?_
    have r2 := gAx1 x5
    refine wz_i0 (i3O (n := 6) (zm_rd (Z := Z) (ν := ν) (k := 200) (rfl : ((x1b : Nat) : Int) = x1b) (show ((0 : Nat) : Int) = 0 from rfl) (i3I (y := x5) (rfl : i3 x5 = i3 x5) (by omega) (by omega) (by omega))) (by omega) (by omega) (by omega)) ?_
    refine wz_i1 (by rw [zSh_t hSx1]; rfl) ?_
    refine wz_i0 (by rw [zSh_l hSx1]; exact i3O (n := 5) (rfl : i3 x5 = i3 x5) (by omega) (by omega) (by omega)) ?_
    have r3 := zH_k hZ 40 x0b x4 (Z 200 x1b 0 x5) (lo := 0) (hi := 12) (by decide) (zrc_40 (by omega) (by omega))
    obtain ⟨m2, rfl⟩ : ∃ m2, m = m2 + 1 := ⟨m - 1, by omega⟩
    exact wz_k1 ⟨m2, by omega, (x3 + (Z 40 x0b x4 (Z 200 x1b 0 x5))), (Z 200 x1b 0 x5), (x5 + 1), (zconso rfl (zconso rfl (zconso (zvo (rfl : i3 x2 = i3 x2)) (zconso (zvo (i3A (rfl : i3 x3 = i3 x3) (zm_rd (Z := Z) (ν := ν) (k := 40) (rfl : ((x0b : Nat) : Int) = x0b) (i3I (y := x4) (rfl : i3 x4 = i3 x4) (by omega) (by omega) (by omega)) (i3I (y := (Z 200 x1b 0 x5)) (zm_rd (Z := Z) (ν := ν) (k := 200) (rfl : ((x1b : Nat) : Int) = x1b) (show ((0 : Nat) : Int) = 0 from rfl) (i3I (y := x5) (rfl : i3 x5 = i3 x5) (by omega) (by omega) (by omega))) (by omega) (by omega) (by omega))))) (zconso (zvo (zm_rd (Z := Z) (ν := ν) (k := 200) (rfl : ((x1b : Nat) : Int) = x1b) (show ((0 : Nat) : Int) = 0 from rfl) (i3I (y := x5) (rfl : i3 x5 = i3 x5) (by omega) (by omega) (by omega)))) (zconso (zvo (i3A (rfl : i3 x5 = i3 x5) (show (1 : Int32) = i3 1 from rfl))) rfl)))))), rfl,  by omega, by omega, by omega, by omega, by omega,  hP⟩
/- yX2_hoursOf -/
def zf_47 (Z : qz_Z) (a0b : Int) (a1b : Int) (a2 : Int) : Int := (zlet3 (zl_47_1 a0b a1b a2 6 Z 0 5 0) (fun y1 y2 y3 => (y1 + (Z 40 a0b y2 5))))
theorem sp_47 {s : zSM} {Z : qz_Z} {ν : qz_N} (hZ : zH s Z) (a0b : Nat) (a1b : Nat) (hSa1 : zSh ν a1b 50 5) (gAa1 : zA (0) 4 a1b Z) {a2 : Int} (ga2 : 0 ≤ a2 ∧ a2 ≤ 5) (hM : s.2 + 0 ≤ 1000000000) : ∃ P : Int, P = zf_47 Z a0b a1b a2 ∧ (qf_47 [.inr (.inr (some (10, a0b, 0))), .inr (.inr (some (200, a1b, 0))), .inl (i3 a2)] (zm Z ν) = some (zm Z ν, .inl (some (.inl (i3 P)))) ∧ 0 ≤ P ∧ P ≤ 72) := by
  obtain ⟨P, hP⟩ := zx (zf_47 Z a0b a1b a2)
  refine zc_R (Q := fun P => 0 ≤ P ∧ P ≤ 72) hP (fw_47 a0b (200, a1b, 0) (i3 a2) _ _ ?_)
  replace hP : zE P (zf_47 Z a0b a1b a2) := hP
  unfold zf_47 at hP
  refine sl_47_1 (ν := ν) hZ (zbh (c := 0) (k := 0) hM (Nat.le_of_ble_eq_true rfl)) a0b a1b hSa1 gAa1 (x2 := a2) (by omega) (x3 := 0) (by omega) (x4 := 5) (by omega) (x5 := 0) (by omega) (by omega) (zconso rfl (zconso rfl (zconso (zvo (rfl : i3 a2 = i3 a2)) (zconso (zvo (show (0 : Int32) = i3 0 from rfl)) (zconso (zvo (show (5 : Int32) = i3 5 from rfl)) (zconso (zvo (show (0 : Int32) = i3 0 from rfl)) rfl)))))) rfl ?_
  intro L4 y1 y2 y3 hL4 gy1 gy2 gy3 gL4_0 q9
  replace hP := zl_e3 hP (Eq.symm q9)
  clear q9
  refine fc_47_2 _ (i3 y1) (i3 y2) _ _ _ _ hL4 ?_
  refine wz_i0 (i3O (n := 6) (rfl : i3 y2 = i3 y2) (by omega) (by omega) (by omega)) ?_
  have r5 := zH_k hZ 40 a0b y2 5 (lo := 0) (hi := 12) (by decide) rfl
  exact zlR hP (i3A (rfl : i3 y1 = i3 y1) (zm_rd (Z := Z) (ν := ν) (k := 40) (rfl : ((a0b : Nat) : Int) = a0b) (i3I (y := y2) (rfl : i3 y2 = i3 y2) (by omega) (by omega) (by omega)) (show ((5 : Nat) : Int) = 5 from rfl))) ⟨by omega, by omega⟩
/- yX2_shortestTrip -/
def zl_56_1 (x0b : Int) (x3 : Int) (x1 : Int) : Nat → qz_Z → Int → Int → qz_Z × Int × Int
  | 0, Z, x4, x5 => (Z, x4, x5)
  | m + 1, Z, x4, x5 => (if 5 ≤ x5 then (Z, x4, x5) else (zlet (zu Z 69 0 0 x5 (-1)) (fun Z3 => (if (z2 (fun x y => x &&& y) (z2 (fun x y => x >>> (y &&& 31)) x1 x5) 1) ≠ 1 then zl_56_1 x0b x3 x1 m Z3 x4 (x5 + 1) else (zlet (zu Z3 200 x3 0 x4 x5) (fun Z8 => zl_56_1 x0b x3 x1 m Z8 (x4 + 1) (x5 + 1)))))))
theorem sl_56_1 {s : zSM} {Zs Z : qz_Z} {ν : qz_N} (hZ : zH s Z) (hM : s.2 + 0 ≤ 1000000000) (hs : s.1 = none) {n9 : Nat} (hn : ν.2.2.2.1 = n9) (x0b : Nat) (x3 : Nat) (hSx3 : zSh ν x3 50 5) (gAx3 : zA (0) 4 x3 Z) {x1 : Int} (gx1 : 0 ≤ x1 ∧ x1 ≤ 31) {x4 : Int} (gx4 : 0 ≤ x4 ∧ x4 ≤ 5) {x5 : Int} (gx5 : 0 ≤ x5 ∧ x5 ≤ 5) (hK : zL [69] [x3] n9 Zs Z) (hU : zU [] Zs Z) (gr0 : x4 ≤ x5) {k : wz_K} {R : wz_R} {L : qz_L} (hL : qz_fg [true, true, true, true, true, true, false, false, false] L = [some (.inr (.inr (some (10, x0b, 0)))), some (.inl (i3 x1)), some (.inr (.inr (some (69, 0, 0)))), some (.inr (.inr (some (200, x3, 0)))), some (.inl (i3 x4)), some (.inl (i3 x5)), none, none, none]) {T : qz_Z × Int × Int} (hP : zE T (zl_56_1 x0b x3 x1 ((5 - x5).toNat + 1) Z x4 x5)) (hk : ∀ (L9 : qz_L) (Z9 : qz_Z) (yx4 yx5 : Int), qz_fg [true, false, true, true, true, false, false, false, false] L9 = [some (.inr (.inr (some (10, x0b, 0)))), none, some (.inr (.inr (some (69, 0, 0)))), some (.inr (.inr (some (200, x3, 0)))), some (.inl (i3 yx4)), none, none, none, none] → zH s Z9 → zL [69] [x3] n9 Zs Z9 → zU [] Zs Z9 → zA (0) 4 x3 Z9 → (0 ≤ yx4 ∧ yx4 ≤ 5) → (0 ≤ yx5 ∧ yx5 ≤ 5) → (yx4 ≤ yx5) → zE T ((Z9, yx4, yx5)) → k 0 (L9, [], zm Z9 ν)) : wz_loop qb_56_1 65536 k R (L, [], zm Z ν) := by
  refine wz_lp sb_56_1 (fun m x => ∃ Z : qz_Z, ∃ x4 : Int, ∃ x5 : Int, qz_fg [true, true, true, true, true, true, false, false, false] x.1 = [some (.inr (.inr (some (10, x0b, 0)))), some (.inl (i3 x1)), some (.inr (.inr (some (69, 0, 0)))), some (.inr (.inr (some (200, x3, 0)))), some (.inl (i3 x4)), some (.inl (i3 x5)), none, none, none] ∧ x.2 = ([], zm Z ν) ∧ zH s Z ∧ zL [69] [x3] n9 Zs Z ∧ zU [] Zs Z ∧ zA (0) 4 x3 Z ∧ m = (5 - x5).toNat ∧ (0 ≤ x4 ∧ x4 ≤ 5) ∧ (0 ≤ x5 ∧ x5 ≤ 5) ∧ (x4 ≤ x5) ∧ zE T (zl_56_1 x0b x3 x1 (m + 1) Z x4 x5)) ?_ 65536 ((5 - x5).toNat) _ (by omega) ⟨Z, x4, x5, hL, rfl, hZ, hK, hU, gAx3, rfl, gx4, gx5, gr0, hP⟩
  clear hP gr0 gx4 gx5 hZ hK hU gAx3 hL
  clear x4 x5
  clear Z
  rintro m ⟨L, st, μ⟩ ⟨Z, x4, x5, hL, hx, hZ, hK, hU, gAx3, hm, gx4, gx5, gr0, hP⟩
  cases hx
  refine fb_56_1 x0b (i3 x1) (69, 0, 0) x3 (i3 x4) (i3 x5) _ _ _ _ hL ?_
  have r1 := hSx3.1
  refine wz_br (i3Le (show (5 : Int32) = i3 5 from rfl) (rfl : i3 x5 = i3 x5) (by omega) (by omega) (by omega) (by omega)) (fun h2 => ?_) (fun h2 => ?_)
  · replace hP := zE_p hP h2
    exact hk _ _ _ _ (zconso rfl (zconso rfl (zconso rfl (zconso rfl (zconso (zvo (rfl : i3 x4 = i3 x4)) (zconso rfl (zconso rfl (zconso rfl (zconso rfl rfl))))))))) hZ hK hU gAx3 (by omega) (by omega) (by omega) hP
  · replace hP := zE_n hP h2
    refine wz_i1 rfl ?_
    refine wz_i0 (i3O (n := 24) (rfl : i3 x5 = i3 x5) (by omega) (by omega) (by omega)) ?_
    obtain ⟨Z3, hZ3⟩ := zx (zu Z 69 0 0 x5 (-1))
    replace hP := zl_e hP hZ3
    have hZ3I := zH_u hZ hZ3 (lo := -2147483648) (hi := 2147483647) (by decide) rfl (by omega) ⟨by decide, by decide⟩ (Or.inl (by decide)) rfl
    have hZ3U : zU [] Zs Z3 := zU_u hU hZ3 (Or.inl rfl)
    have hZ3K : zL [69] [x3] n9 Zs Z3 := zL_u hK hZ3 rfl
    intro μ9 e9
    replace e9 := e9.trans (zm_wI (Z := Z) (ν := ν) hZ3 (show ((0 : Nat) : Int) = 0 from rfl) (show ((0 : Nat) : Int) = 0 from rfl) (i3I (y := x5) (rfl : i3 x5 = i3 x5) (by omega) (by omega) (by omega)) (show (-1 : Int32) = i3 (-1) from rfl))
    subst e9
    have r4 := z2_r (fun x y => x >>> (y &&& 31)) x1 x5
    have r5 := z2_r (fun x y => x &&& y) (z2 (fun x y => x >>> (y &&& 31)) x1 x5) 1
    have r6 := z2_and (z2 (fun x y => x >>> (y &&& 31)) x1 x5) (y := 1) (by omega) (by omega)
    refine wz_br (i3NE (i3Z (fun x y => x &&& y) (i3Z (fun x y => x >>> (y &&& 31)) (rfl : i3 x1 = i3 x1) (rfl : i3 x5 = i3 x5)) (show (1 : Int32) = i3 1 from rfl)) (show (1 : Int32) = i3 1 from rfl) (by omega) (by omega) (by omega) (by omega)) (fun h7 => ?_) (fun h7 => ?_)
    · replace hP := zE_p hP h7
      obtain ⟨m2, rfl⟩ : ∃ m2, m = m2 + 1 := ⟨m - 1, by omega⟩
      exact wz_k1 ⟨m2, by omega, Z3, x4, (x5 + 1), (zconso rfl (zconso (zvo (rfl : i3 x1 = i3 x1)) (zconso rfl (zconso rfl (zconso (zvo (rfl : i3 x4 = i3 x4)) (zconso (zvo (i3A (rfl : i3 x5 = i3 x5) (show (1 : Int32) = i3 1 from rfl))) (zconso rfl (zconso rfl (zconso rfl rfl))))))))), rfl, hZ3I, hZ3K, hZ3U, (zA_o gAx3 hZ3 (fun q => absurd q.1 (by decide))), by omega, by omega, by omega, by omega,  hP⟩
    · replace hP := zE_n hP h7
      refine wz_i1 (by rw [zSh_t hSx3]; rfl) ?_
      refine wz_i0 (by rw [zSh_l hSx3]; exact i3O (n := 5) (rfl : i3 x4 = i3 x4) (by omega) (by omega) (by omega)) ?_
      obtain ⟨Z8, hZ8⟩ := zx (zu Z3 200 x3 0 x4 x5)
      replace hP := zl_e hP hZ8
      have hZ8I := zH_200 hZ3I hZ8 (by omega) hs
      have hZ8U : zU [] Zs Z8 := zU_u hZ3U hZ8 (Or.inl rfl)
      have hZ8K : zL [69] [x3] n9 Zs Z8 := zL_a hZ3K hZ8 (Or.inl (by simp))
      intro μ9 e9
      replace e9 := e9.trans (zm_wI (Z := Z3) (ν := ν) hZ8 (rfl : ((x3 : Nat) : Int) = x3) (show ((0 : Nat) : Int) = 0 from rfl) (i3I (y := x4) (rfl : i3 x4 = i3 x4) (by omega) (by omega) (by omega)) (rfl : i3 x5 = i3 x5))
      subst e9
      obtain ⟨m2, rfl⟩ : ∃ m2, m = m2 + 1 := ⟨m - 1, by omega⟩
      exact wz_k1 ⟨m2, by omega, Z8, (x4 + 1), (x5 + 1), (zconso rfl (zconso (zvo (rfl : i3 x1 = i3 x1)) (zconso rfl (zconso rfl (zconso (zvo (i3A (rfl : i3 x4 = i3 x4) (show (1 : Int32) = i3 1 from rfl))) (zconso (zvo (i3A (rfl : i3 x5 = i3 x5) (show (1 : Int32) = i3 1 from rfl))) (zconso rfl (zconso rfl (zconso rfl rfl))))))))), rfl, hZ8I, hZ8K, hZ8U, (zA_w (zA_o gAx3 hZ3 (fun q => absurd q.1 (by decide))) hZ8 (by omega)), by omega, by omega, by omega, by omega,  hP⟩
/- yX2_shortestTrip -/
def zl_56_2 (x0b : Int) (x3 : Int) (x4 : Int) : Nat → qz_Z → Int → Int → Int → qz_Z × Int × Int × Int
  | 0, Z, x5, x6, x7 => (Z, x5, x6, x7)
  | m + 1, Z, x5, x6, x7 => (if 120 ≤ x7 then (Z, x5, x6, x7) else (if x6 = 0 then (Z, x5, x6, x7) else (zlet (zf_47 Z x0b x3 x4) (fun v4 => (if x5 = (-1) then (zlet (zpy Z 200 x3 0 69 0 0 0 x4) (fun Z6 => (zlet2 (zf_1070 Z6 x3 x4) (fun Z7 v8 => zl_56_2 x0b x3 x4 m Z7 v4 v8 (x7 + 1))))) else (if x5 ≤ v4 then (zlet2 (zf_1070 Z x3 x4) (fun Z10 v11 => zl_56_2 x0b x3 x4 m Z10 x5 v11 (x7 + 1))) else (zlet (zpy Z 200 x3 0 69 0 0 0 x4) (fun Z12 => (zlet2 (zf_1070 Z12 x3 x4) (fun Z13 v14 => zl_56_2 x0b x3 x4 m Z13 v4 v14 (x7 + 1)))))))))))
theorem sl_56_2 {s : zSM} {Zs Z : qz_Z} {ν : qz_N} (hZ : zH s Z) (hM : s.2 + 0 ≤ 1000000000) (hs : s.1 = none) {n9 : Nat} (hn : ν.2.2.2.1 = n9) (x0b : Nat) (x3 : Nat) (hSx3 : zSh ν x3 50 5) (gAx3 : zA (0) 4 x3 Z) {x4 : Int} (gx4 : 0 ≤ x4 ∧ x4 ≤ 5) {x5 : Int} (gx5 : -1 ≤ x5 ∧ x5 ≤ 72) {x6 : Int} (gx6 : 0 ≤ x6 ∧ x6 ≤ 1) {x7 : Int} (gx7 : 0 ≤ x7 ∧ x7 ≤ 120) (hK : zL [69] [x3] n9 Zs Z) (hU : zU [] Zs Z) {k : wz_K} {R : wz_R} {L : qz_L} (hL : qz_fg [true, false, true, true, true, true, true, true, false] L = [some (.inr (.inr (some (10, x0b, 0)))), none, some (.inr (.inr (some (69, 0, 0)))), some (.inr (.inr (some (200, x3, 0)))), some (.inl (i3 x4)), some (.inl (i3 x5)), some (.inl (i3 x6)), some (.inl (i3 x7)), none]) {T : qz_Z × Int × Int × Int} (hP : zE T (zl_56_2 x0b x3 x4 ((120 - x7).toNat + 1) Z x5 x6 x7)) (hk : ∀ (L9 : qz_L) (Z9 : qz_Z) (yx5 yx6 yx7 : Int), qz_fg [false, false, false, false, false, true, false, false, false] L9 = [none, none, none, none, none, some (.inl (i3 yx5)), none, none, none] → zH s Z9 → zL [69] [x3] n9 Zs Z9 → zU [] Zs Z9 → zA (0) 4 x3 Z9 → (-1 ≤ yx5 ∧ yx5 ≤ 72) → (0 ≤ yx6 ∧ yx6 ≤ 1) → (0 ≤ yx7 ∧ yx7 ≤ 120) → zE T ((Z9, yx5, yx6, yx7)) → k 0 (L9, [], zm Z9 ν)) : wz_loop qb_56_2 65536 k R (L, [], zm Z ν) := by
  refine wz_lp sb_56_2 (fun m x => ∃ Z : qz_Z, ∃ x5 : Int, ∃ x6 : Int, ∃ x7 : Int, qz_fg [true, false, true, true, true, true, true, true, false] x.1 = [some (.inr (.inr (some (10, x0b, 0)))), none, some (.inr (.inr (some (69, 0, 0)))), some (.inr (.inr (some (200, x3, 0)))), some (.inl (i3 x4)), some (.inl (i3 x5)), some (.inl (i3 x6)), some (.inl (i3 x7)), none] ∧ x.2 = ([], zm Z ν) ∧ zH s Z ∧ zL [69] [x3] n9 Zs Z ∧ zU [] Zs Z ∧ zA (0) 4 x3 Z ∧ m = (120 - x7).toNat ∧ (-1 ≤ x5 ∧ x5 ≤ 72) ∧ (0 ≤ x6 ∧ x6 ≤ 1) ∧ (0 ≤ x7 ∧ x7 ≤ 120) ∧ zE T (zl_56_2 x0b x3 x4 (m + 1) Z x5 x6 x7)) ?_ 65536 ((120 - x7).toNat) _ (by omega) ⟨Z, x5, x6, x7, hL, rfl, hZ, hK, hU, gAx3, rfl, gx5, gx6, gx7, hP⟩
  clear hP gx5 gx6 gx7 hZ hK hU gAx3 hL
  clear x5 x6 x7
  clear Z
  rintro m ⟨L, st, μ⟩ ⟨Z, x5, x6, x7, hL, hx, hZ, hK, hU, gAx3, hm, gx5, gx6, gx7, hP⟩
  cases hx
  refine fb_56_2 x0b (69, 0, 0) x3 (i3 x4) (i3 x5) (i3 x6) (i3 x7) _ _ _ _ hL ?_
  have r1 := hSx3.1
  refine wz_br (i3Le (show (120 : Int32) = i3 120 from rfl) (rfl : i3 x7 = i3 x7) (by omega) (by omega) (by omega) (by omega)) (fun h2 => ?_) (fun h2 => ?_)
  · replace hP := zE_p hP h2
    exact hk _ _ _ _ _ (zconso rfl (zconso rfl (zconso rfl (zconso rfl (zconso rfl (zconso (zvo (rfl : i3 x5 = i3 x5)) (zconso rfl (zconso rfl (zconso rfl rfl))))))))) hZ hK hU gAx3 (by omega) (by omega) (by omega)  hP
  · replace hP := zE_n hP h2
    refine wz_br (i3E (rfl : i3 x6 = i3 x6) (show (0 : Int32) = i3 0 from rfl) (by omega) (by omega) (by omega) (by omega)) (fun h3 => ?_) (fun h3 => ?_)
    · replace hP := zE_p hP h3
      exact hk _ _ _ _ _ (zconso rfl (zconso rfl (zconso rfl (zconso rfl (zconso rfl (zconso (zvo (rfl : i3 x5 = i3 x5)) (zconso rfl (zconso rfl (zconso rfl rfl))))))))) hZ hK hU gAx3 (by omega) (by omega) (by omega)  hP
    · replace hP := zE_n hP h3
      obtain ⟨v4, hv4, c9, lv4, uv4⟩ := sp_47 (ν := ν) hZ x0b x3 hSx3 gAx3 (a2 := x4) (by omega) (zbh (c := 0) (k := 0) hM (Nat.le_of_ble_eq_true rfl))
      replace hP := zl_e hP hv4
      refine wz_cI_of (zas (zcons rfl (zcons rfl (zcons (zvi (rfl : i3 x4 = i3 x4)) rfl))) c9) ?_
      clear c9
      refine wz_br (i3E (rfl : i3 x5 = i3 x5) (show (-1 : Int32) = i3 (-1) from rfl) (by omega) (by omega) (by omega) (by omega)) (fun h5 => ?_) (fun h5 => ?_)
      · replace hP := zE_p hP h5
        refine wz_i1 (by rw [zSh_t hSx3]; rfl) ?_
        obtain ⟨Z6, hZ6⟩ := zx (zpy Z 200 x3 0 69 0 0 0 x4)
        replace hP := zl_e hP hZ6
        refine ⟨zpy_c (d := 0) (l1 := 5) (l2 := 24) (rfl : i3 x4 = i3 x4) (zSh_l hSx3) rfl (by omega) (by omega) (by omega), ?_⟩
        intro μ9 e9
        replace e9 := e9.trans (zm_py (ν := ν) (d := 0) hZ6 (rfl : ((x3 : Nat) : Int) = x3) (show ((0 : Nat) : Int) = 0 from rfl) (show ((0 : Nat) : Int) = 0 from rfl) (show ((0 : Nat) : Int) = 0 from rfl) (rfl : i3 x4 = i3 x4) (by omega) (by omega))
        subst e9
        have hZ6I := zH_pk69 hZ hZ6 hs
        have hZ6K : zL [69] [x3] n9 Zs Z6 := zL_pk hK hZ6 (by decide)
        have hZ6U : zU [] Zs Z6 := zU_p hU hZ6 (Or.inl rfl)
        obtain ⟨Z7, v8, hv8, c9, hZ7I, kZ7, jZ7, lv8, uv8, aZ7_a0b⟩ := sp_1070 (ν := ν) hZ6I hs hn x3 hSx3 (zA_p gAx3 hZ6 (fun q => absurd q.1 (by decide))) (a1 := x4) (by omega) (zbh (c := 0) (k := 0) hM (Nat.le_of_ble_eq_true rfl))
        have hZ7U : zU [] Zs Z7 := zU_t hZ6U jZ7 zU_b0
        have hZ7K : zL [69] [x3] n9 Zs Z7 := zL_t hZ6K kZ7 (by decide) (zL_b1 (Or.inl (by simp)) zL_b0) (by omega)
        replace hP := zl_e2 hP hv8
        refine wz_cI_of (zas (zcons rfl (zcons (zvi (rfl : i3 x4 = i3 x4)) rfl)) c9) ?_
        clear c9 hv8
        obtain ⟨m2, rfl⟩ : ∃ m2, m = m2 + 1 := ⟨m - 1, by omega⟩
        exact wz_k1 ⟨m2, by omega, Z7, v4, v8, (x7 + 1), (zconso rfl (zconso rfl (zconso rfl (zconso rfl (zconso (zvo (rfl : i3 x4 = i3 x4)) (zconso (zvo (rfl : i3 v4 = i3 v4)) (zconso (zvo (rfl : i3 v8 = i3 v8)) (zconso (zvo (i3A (rfl : i3 x7 = i3 x7) (show (1 : Int32) = i3 1 from rfl))) (zconso rfl rfl))))))))), rfl, hZ7I, hZ7K, hZ7U, aZ7_a0b, by omega, by omega, by omega, by omega,  hP⟩
      · replace hP := zE_n hP h5
        refine wz_br (i3Le (rfl : i3 x5 = i3 x5) (rfl : i3 v4 = i3 v4) (by omega) (by omega) (by omega) (by omega)) (fun h9 => ?_) (fun h9 => ?_)
        · replace hP := zE_p hP h9
          obtain ⟨Z10, v11, hv11, c9, hZ10I, kZ10, jZ10, lv11, uv11, aZ10_a0b⟩ := sp_1070 (ν := ν) hZ hs hn x3 hSx3 gAx3 (a1 := x4) (by omega) (zbh (c := 0) (k := 0) hM (Nat.le_of_ble_eq_true rfl))
          have hZ10U : zU [] Zs Z10 := zU_t hU jZ10 zU_b0
          have hZ10K : zL [69] [x3] n9 Zs Z10 := zL_t hK kZ10 (by decide) (zL_b1 (Or.inl (by simp)) zL_b0) (by omega)
          replace hP := zl_e2 hP hv11
          refine wz_cI_of (zas (zcons rfl (zcons (zvi (rfl : i3 x4 = i3 x4)) rfl)) c9) ?_
          clear c9 hv11
          obtain ⟨m2, rfl⟩ : ∃ m2, m = m2 + 1 := ⟨m - 1, by omega⟩
          exact wz_k1 ⟨m2, by omega, Z10, x5, v11, (x7 + 1), (zconso rfl (zconso rfl (zconso rfl (zconso rfl (zconso (zvo (rfl : i3 x4 = i3 x4)) (zconso (zvo (rfl : i3 x5 = i3 x5)) (zconso (zvo (rfl : i3 v11 = i3 v11)) (zconso (zvo (i3A (rfl : i3 x7 = i3 x7) (show (1 : Int32) = i3 1 from rfl))) (zconso rfl rfl))))))))), rfl, hZ10I, hZ10K, hZ10U, aZ10_a0b, by omega, by omega, by omega, by omega,  hP⟩
        · replace hP := zE_n hP h9
          refine wz_i1 (by rw [zSh_t hSx3]; rfl) ?_
          obtain ⟨Z12, hZ12⟩ := zx (zpy Z 200 x3 0 69 0 0 0 x4)
          replace hP := zl_e hP hZ12
          refine ⟨zpy_c (d := 0) (l1 := 5) (l2 := 24) (rfl : i3 x4 = i3 x4) (zSh_l hSx3) rfl (by omega) (by omega) (by omega), ?_⟩
          intro μ9 e9
          replace e9 := e9.trans (zm_py (ν := ν) (d := 0) hZ12 (rfl : ((x3 : Nat) : Int) = x3) (show ((0 : Nat) : Int) = 0 from rfl) (show ((0 : Nat) : Int) = 0 from rfl) (show ((0 : Nat) : Int) = 0 from rfl) (rfl : i3 x4 = i3 x4) (by omega) (by omega))
          subst e9
          have hZ12I := zH_pk69 hZ hZ12 hs
          have hZ12K : zL [69] [x3] n9 Zs Z12 := zL_pk hK hZ12 (by decide)
          have hZ12U : zU [] Zs Z12 := zU_p hU hZ12 (Or.inl rfl)
          obtain ⟨Z13, v14, hv14, c9, hZ13I, kZ13, jZ13, lv14, uv14, aZ13_a0b⟩ := sp_1070 (ν := ν) hZ12I hs hn x3 hSx3 (zA_p gAx3 hZ12 (fun q => absurd q.1 (by decide))) (a1 := x4) (by omega) (zbh (c := 0) (k := 0) hM (Nat.le_of_ble_eq_true rfl))
          have hZ13U : zU [] Zs Z13 := zU_t hZ12U jZ13 zU_b0
          have hZ13K : zL [69] [x3] n9 Zs Z13 := zL_t hZ12K kZ13 (by decide) (zL_b1 (Or.inl (by simp)) zL_b0) (by omega)
          replace hP := zl_e2 hP hv14
          refine wz_cI_of (zas (zcons rfl (zcons (zvi (rfl : i3 x4 = i3 x4)) rfl)) c9) ?_
          clear c9 hv14
          obtain ⟨m2, rfl⟩ : ∃ m2, m = m2 + 1 := ⟨m - 1, by omega⟩
          exact wz_k1 ⟨m2, by omega, Z13, v4, v14, (x7 + 1), (zconso rfl (zconso rfl (zconso rfl (zconso rfl (zconso (zvo (rfl : i3 x4 = i3 x4)) (zconso (zvo (rfl : i3 v4 = i3 v4)) (zconso (zvo (rfl : i3 v14 = i3 v14)) (zconso (zvo (i3A (rfl : i3 x7 = i3 x7) (show (1 : Int32) = i3 1 from rfl))) (zconso rfl rfl))))))))), rfl, hZ13I, hZ13K, hZ13U, aZ13_a0b, by omega, by omega, by omega, by omega,  hP⟩
/- yX2_shortestTrip -/
def zf_56 (Z : qz_Z) (n9 : Int) (a0b : Int) (a1 : Int) : qz_Z × Int × Int := (zlet (zzi Z n9) (fun Z1 => (zlet (n9 + 1) (fun n3 => (zlet3 (zl_56_1 a0b n9 a1 6 Z1 0 0) (fun Z6 y4 y5 => (zlet4 (zl_56_2 a0b n9 y4 121 Z6 (-1) 1 0) (fun Z11 y8 y9 y10 => (Z11, n3, y8)))))))))
theorem sp_56 {s : zSM} {Z : qz_Z} {ν : qz_N} (hZ : zH s Z) (hs : s.1 = none) {n9 : Nat} (hn : ν.2.2.2.1 = n9) (a0b : Nat) {a1 : Int} (ga1 : 0 ≤ a1 ∧ a1 ≤ 31) (hM : s.2 + 0 ≤ 1000000000) : ∃ (Z1 : qz_Z) (ν1 : qz_N) (n1 : Nat) (P : Int), (Z1, (n1 : Int), P) = zf_56 Z n9 a0b a1 ∧ (qf_56 [.inr (.inr (some (10, a0b, 0))), .inl (i3 a1), .inr (.inr (some (69, 0, 0)))] (zm Z ν) = some (zm Z1 ν1, .inl (some (.inl (i3 P)))) ∧ zH s Z1 ∧ zL [69] [] n9 Z Z1 ∧ zU [] Z Z1 ∧ ν1.2.2.2.1 = n1 ∧ zG 1 5 ν ν1 ∧ -1 ≤ P ∧ P ≤ 72) := by
  obtain ⟨P, hP⟩ := zx (zf_56 Z n9 a0b a1)
  refine zc_Wn (Q := fun Z1 ν1 n1 P => zH s Z1 ∧ zL [69] [] n9 Z Z1 ∧ zU [] Z Z1 ∧ ν1.2.2.2.1 = n1 ∧ zG 1 5 ν ν1 ∧ -1 ≤ P ∧ P ≤ 72) hP (fw_56 a0b (i3 a1) (69, 0, 0) _ _ ?_)
  replace hP : zE P (zf_56 Z n9 a0b a1) := hP
  unfold zf_56 at hP
  obtain ⟨Z1, hZ1⟩ := zx (zzr Z n9)
  obtain ⟨ν2, hν2⟩ := zx (nal ν 50 1 5 1 5)
  obtain ⟨n3, hn3⟩ : ∃ m : Nat, m = n9 + 1 := ⟨_, rfl⟩
  replace hP := zl_e hP (hZ1.trans zzi_e)
  replace hP := zl_e hP (show ((n3 : Nat) : Int) = ((n9 : Nat) : Int) + 1 from by omega)
  intro μ9 e9
  replace e9 := zal_e e9 hn hZ1 hν2
  subst e9
  rw [show qz_na (zm Z ν) = n9 from hn]
  have hZ1I := zH_z hZ hZ1 hs
  have hZ1K : zL [69] [] n9 Z Z1 := zL_z2 zL_r (by omega) hZ1
  have hZ1U : zU [] Z Z1 := zU_z zU_r hZ1
  have hnν2 := (nal_na hn hν2).trans hn3.symm
  have hGν2 := zG_al' zG_r hν2
  have hSν2 := zSh_new hn hν2
  have gAν2 := zA_new (lo := 0) (hi := 4) hZ1 ⟨by decide, by decide⟩
  refine sl_56_1 (ν := ν2) hZ1I (zbh (c := 0) (k := 0) hM (Nat.le_of_ble_eq_true rfl)) hs hnν2 a0b n9 hSν2 gAν2 (x1 := a1) (by omega) (x4 := 0) (by omega) (x5 := 0) (by omega) zL_r zU_r (by omega) (zconso rfl (zconso (zvo (rfl : i3 a1 = i3 a1)) (zconso rfl (zconso rfl (zconso (zvo (show (0 : Int32) = i3 0 from rfl)) (zconso (zvo (show (0 : Int32) = i3 0 from rfl)) (zconso rfl (zconso rfl (zconso rfl rfl))))))))) rfl ?_
  intro L7 Z6 y4 y5 hL7 hZ6I kZ6 jZ6 aZ6_x3 gy4 gy5 gL7_0 q9
  replace hP := zl_e3 hP (Eq.symm q9)
  clear q9
  have hZ6U : zU [] Z Z6 := zU_t hZ1U jZ6 zU_b0
  have hZ6K : zL [69] [] n9 Z Z6 := zL_t hZ1K kZ6 (by decide) (zL_b1 (Or.inr (by omega)) zL_b0) (by omega)
  refine fc_56_4 _ _ _ (i3 y4) _ _ _ _ hL7 ?_
  refine sl_56_2 (ν := ν2) hZ6I (zbh (c := 0) (k := 0) hM (Nat.le_of_ble_eq_true rfl)) hs hnν2 a0b n9 hSν2 aZ6_x3 (x4 := y4) (by omega) (x5 := (-1)) (by omega) (x6 := 1) (by omega) (x7 := 0) (by omega) zL_r zU_r  (zconso rfl (zconso rfl (zconso rfl (zconso rfl (zconso (zvo (rfl : i3 y4 = i3 y4)) (zconso (zvo (show (-1 : Int32) = i3 (-1) from rfl)) (zconso (zvo (show (1 : Int32) = i3 1 from rfl)) (zconso (zvo (show (0 : Int32) = i3 0 from rfl)) (zconso rfl rfl))))))))) rfl ?_
  intro L12 Z11 y8 y9 y10 hL12 hZ11I kZ11 jZ11 aZ11_x3 gy8 gy9 gy10 q9
  replace hP := zl_e4 hP (Eq.symm q9)
  clear q9
  have hZ11U : zU [] Z Z11 := zU_t hZ6U jZ11 zU_b0
  have hZ11K : zL [69] [] n9 Z Z11 := zL_t hZ6K kZ11 (by decide) (zL_b1 (Or.inr (by omega)) zL_b0) (by omega)
  refine fc_56_3 (i3 y8) _ _ _ _ hL12 ?_
  exact zlWn hP (rfl : i3 y8 = i3 y8) ⟨hZ11I, hZ11K, hZ11U, hnν2, zG_w hGν2 (Nat.le_of_ble_eq_true rfl) (Nat.le_of_ble_eq_true rfl), by omega, by omega⟩
/- yX2_shortestTrip (2) -/
def zl_1056_1 (x0b : Int) (x2b : Int) (x3 : Int) (x1 : Int) : Nat → qz_Z → Int → Int → qz_Z × Int × Int
  | 0, Z, x4, x5 => (Z, x4, x5)
  | m + 1, Z, x4, x5 => (if 5 ≤ x5 then (Z, x4, x5) else (zlet (zu Z 200 x2b 0 x5 (-1)) (fun Z4 => (if (z2 (fun x y => x &&& y) (z2 (fun x y => x >>> (y &&& 31)) x1 x5) 1) ≠ 1 then zl_1056_1 x0b x2b x3 x1 m Z4 x4 (x5 + 1) else (zlet (zu Z4 200 x3 0 x4 x5) (fun Z9 => zl_1056_1 x0b x2b x3 x1 m Z9 (x4 + 1) (x5 + 1)))))))
theorem sl_1056_1 {s : zSM} {Zs Z : qz_Z} {ν : qz_N} (hZ : zH s Z) (hM : s.2 + 0 ≤ 1000000000) (hs : s.1 = none) {n9 : Nat} (hn : ν.2.2.2.1 = n9) (x0b : Nat) (x2b : Nat) (hSx2 : zSh ν x2b 50 5) (gAx2 : zA (-1) 4 x2b Z) (x3 : Nat) (hSx3 : zSh ν x3 50 5) (gAx3 : zA (0) 4 x3 Z) {x1 : Int} (gx1 : 0 ≤ x1 ∧ x1 ≤ 31) {x4 : Int} (gx4 : 0 ≤ x4 ∧ x4 ≤ 5) {x5 : Int} (gx5 : 0 ≤ x5 ∧ x5 ≤ 5) (hK : zL [] [x2b, x3] n9 Zs Z) (hU : zU [] Zs Z) (gd0 : x2b ≠ x3) (gr0 : x4 ≤ x5) {k : wz_K} {R : wz_R} {L : qz_L} (hL : qz_fg [true, true, true, true, true, true, false, false, false] L = [some (.inr (.inr (some (10, x0b, 0)))), some (.inl (i3 x1)), some (.inr (.inr (some (200, x2b, 0)))), some (.inr (.inr (some (200, x3, 0)))), some (.inl (i3 x4)), some (.inl (i3 x5)), none, none, none]) {T : qz_Z × Int × Int} (hP : zE T (zl_1056_1 x0b x2b x3 x1 ((5 - x5).toNat + 1) Z x4 x5)) (hk : ∀ (L9 : qz_L) (Z9 : qz_Z) (yx4 yx5 : Int), qz_fg [true, false, true, true, true, false, false, false, false] L9 = [some (.inr (.inr (some (10, x0b, 0)))), none, some (.inr (.inr (some (200, x2b, 0)))), some (.inr (.inr (some (200, x3, 0)))), some (.inl (i3 yx4)), none, none, none, none] → zH s Z9 → zL [] [x2b, x3] n9 Zs Z9 → zU [] Zs Z9 → zA (-1) 4 x2b Z9 → zA (0) 4 x3 Z9 → (0 ≤ yx4 ∧ yx4 ≤ 5) → (0 ≤ yx5 ∧ yx5 ≤ 5) → (yx4 ≤ yx5) → zE T ((Z9, yx4, yx5)) → k 0 (L9, [], zm Z9 ν)) : wz_loop qb_56_1 65536 k R (L, [], zm Z ν) := by
  refine wz_lp sb_56_1 (fun m x => ∃ Z : qz_Z, ∃ x4 : Int, ∃ x5 : Int, qz_fg [true, true, true, true, true, true, false, false, false] x.1 = [some (.inr (.inr (some (10, x0b, 0)))), some (.inl (i3 x1)), some (.inr (.inr (some (200, x2b, 0)))), some (.inr (.inr (some (200, x3, 0)))), some (.inl (i3 x4)), some (.inl (i3 x5)), none, none, none] ∧ x.2 = ([], zm Z ν) ∧ zH s Z ∧ zL [] [x2b, x3] n9 Zs Z ∧ zU [] Zs Z ∧ zA (-1) 4 x2b Z ∧ zA (0) 4 x3 Z ∧ m = (5 - x5).toNat ∧ (0 ≤ x4 ∧ x4 ≤ 5) ∧ (0 ≤ x5 ∧ x5 ≤ 5) ∧ (x4 ≤ x5) ∧ zE T (zl_1056_1 x0b x2b x3 x1 (m + 1) Z x4 x5)) ?_ 65536 ((5 - x5).toNat) _ (by omega) ⟨Z, x4, x5, hL, rfl, hZ, hK, hU, gAx2, gAx3, rfl, gx4, gx5, gr0, hP⟩
  clear hP gr0 gx4 gx5 hZ hK hU gAx2 gAx3 hL
  clear x4 x5
  clear Z
  rintro m ⟨L, st, μ⟩ ⟨Z, x4, x5, hL, hx, hZ, hK, hU, gAx2, gAx3, hm, gx4, gx5, gr0, hP⟩
  cases hx
  refine fb_56_1 x0b (i3 x1) (200, x2b, 0) x3 (i3 x4) (i3 x5) _ _ _ _ hL ?_
  have r1 := hSx2.1
  have r2 := hSx3.1
  refine wz_br (i3Le (show (5 : Int32) = i3 5 from rfl) (rfl : i3 x5 = i3 x5) (by omega) (by omega) (by omega) (by omega)) (fun h3 => ?_) (fun h3 => ?_)
  · replace hP := zE_p hP h3
    exact hk _ _ _ _ (zconso rfl (zconso rfl (zconso rfl (zconso rfl (zconso (zvo (rfl : i3 x4 = i3 x4)) (zconso rfl (zconso rfl (zconso rfl (zconso rfl rfl))))))))) hZ hK hU gAx2 gAx3 (by omega) (by omega) (by omega) hP
  · replace hP := zE_n hP h3
    refine wz_i1 (by rw [zSh_t hSx2]; rfl) ?_
    refine wz_i0 (by rw [zSh_l hSx2]; exact i3O (n := 5) (rfl : i3 x5 = i3 x5) (by omega) (by omega) (by omega)) ?_
    obtain ⟨Z4, hZ4⟩ := zx (zu Z 200 x2b 0 x5 (-1))
    replace hP := zl_e hP hZ4
    have hZ4I := zH_200 hZ hZ4 (by omega) hs
    have hZ4U : zU [] Zs Z4 := zU_u hU hZ4 (Or.inl rfl)
    have hZ4K : zL [] [x2b, x3] n9 Zs Z4 := zL_a hK hZ4 (Or.inl (by simp))
    intro μ9 e9
    replace e9 := e9.trans (zm_wI (Z := Z) (ν := ν) hZ4 (rfl : ((x2b : Nat) : Int) = x2b) (show ((0 : Nat) : Int) = 0 from rfl) (i3I (y := x5) (rfl : i3 x5 = i3 x5) (by omega) (by omega) (by omega)) (show (-1 : Int32) = i3 (-1) from rfl))
    subst e9
    have r5 := z2_r (fun x y => x >>> (y &&& 31)) x1 x5
    have r6 := z2_r (fun x y => x &&& y) (z2 (fun x y => x >>> (y &&& 31)) x1 x5) 1
    have r7 := z2_and (z2 (fun x y => x >>> (y &&& 31)) x1 x5) (y := 1) (by omega) (by omega)
    refine wz_br (i3NE (i3Z (fun x y => x &&& y) (i3Z (fun x y => x >>> (y &&& 31)) (rfl : i3 x1 = i3 x1) (rfl : i3 x5 = i3 x5)) (show (1 : Int32) = i3 1 from rfl)) (show (1 : Int32) = i3 1 from rfl) (by omega) (by omega) (by omega) (by omega)) (fun h8 => ?_) (fun h8 => ?_)
    · replace hP := zE_p hP h8
      obtain ⟨m2, rfl⟩ : ∃ m2, m = m2 + 1 := ⟨m - 1, by omega⟩
      exact wz_k1 ⟨m2, by omega, Z4, x4, (x5 + 1), (zconso rfl (zconso (zvo (rfl : i3 x1 = i3 x1)) (zconso rfl (zconso rfl (zconso (zvo (rfl : i3 x4 = i3 x4)) (zconso (zvo (i3A (rfl : i3 x5 = i3 x5) (show (1 : Int32) = i3 1 from rfl))) (zconso rfl (zconso rfl (zconso rfl rfl))))))))), rfl, hZ4I, hZ4K, hZ4U, (zA_w gAx2 hZ4 (by omega)), (zA_o gAx3 hZ4 (fun q => absurd q.2 (by omega))), by omega, by omega, by omega, by omega,  hP⟩
    · replace hP := zE_n hP h8
      refine wz_i1 (by rw [zSh_t hSx3]; rfl) ?_
      refine wz_i0 (by rw [zSh_l hSx3]; exact i3O (n := 5) (rfl : i3 x4 = i3 x4) (by omega) (by omega) (by omega)) ?_
      obtain ⟨Z9, hZ9⟩ := zx (zu Z4 200 x3 0 x4 x5)
      replace hP := zl_e hP hZ9
      have hZ9I := zH_200 hZ4I hZ9 (by omega) hs
      have hZ9U : zU [] Zs Z9 := zU_u hZ4U hZ9 (Or.inl rfl)
      have hZ9K : zL [] [x2b, x3] n9 Zs Z9 := zL_a hZ4K hZ9 (Or.inl (by simp))
      intro μ9 e9
      replace e9 := e9.trans (zm_wI (Z := Z4) (ν := ν) hZ9 (rfl : ((x3 : Nat) : Int) = x3) (show ((0 : Nat) : Int) = 0 from rfl) (i3I (y := x4) (rfl : i3 x4 = i3 x4) (by omega) (by omega) (by omega)) (rfl : i3 x5 = i3 x5))
      subst e9
      obtain ⟨m2, rfl⟩ : ∃ m2, m = m2 + 1 := ⟨m - 1, by omega⟩
      exact wz_k1 ⟨m2, by omega, Z9, (x4 + 1), (x5 + 1), (zconso rfl (zconso (zvo (rfl : i3 x1 = i3 x1)) (zconso rfl (zconso rfl (zconso (zvo (i3A (rfl : i3 x4 = i3 x4) (show (1 : Int32) = i3 1 from rfl))) (zconso (zvo (i3A (rfl : i3 x5 = i3 x5) (show (1 : Int32) = i3 1 from rfl))) (zconso rfl (zconso rfl (zconso rfl rfl))))))))), rfl, hZ9I, hZ9K, hZ9U, (zA_o (zA_w gAx2 hZ4 (by omega)) hZ9 (fun q => absurd q.2 (by omega))), (zA_w (zA_o gAx3 hZ4 (fun q => absurd q.2 (by omega))) hZ9 (by omega)), by omega, by omega, by omega, by omega,  hP⟩
/- yX2_shortestTrip (2) -/
def zl_1056_2 (x0b : Int) (x2b : Int) (x3 : Int) (x4 : Int) : Nat → qz_Z → Int → Int → Int → qz_Z × Int × Int × Int
  | 0, Z, x5, x6, x7 => (Z, x5, x6, x7)
  | m + 1, Z, x5, x6, x7 => (if 120 ≤ x7 then (Z, x5, x6, x7) else (if x6 = 0 then (Z, x5, x6, x7) else (zlet (zf_47 Z x0b x3 x4) (fun v5 => (if x5 = (-1) then (zlet (zpy Z 200 x3 0 200 x2b 0 0 x4) (fun Z7 => (zlet2 (zf_1070 Z7 x3 x4) (fun Z8 v9 => zl_1056_2 x0b x2b x3 x4 m Z8 v5 v9 (x7 + 1))))) else (if x5 ≤ v5 then (zlet2 (zf_1070 Z x3 x4) (fun Z11 v12 => zl_1056_2 x0b x2b x3 x4 m Z11 x5 v12 (x7 + 1))) else (zlet (zpy Z 200 x3 0 200 x2b 0 0 x4) (fun Z13 => (zlet2 (zf_1070 Z13 x3 x4) (fun Z14 v15 => zl_1056_2 x0b x2b x3 x4 m Z14 v5 v15 (x7 + 1)))))))))))
theorem sl_1056_2 {s : zSM} {Zs Z : qz_Z} {ν : qz_N} (hZ : zH s Z) (hM : s.2 + 0 ≤ 1000000000) (hs : s.1 = none) {n9 : Nat} (hn : ν.2.2.2.1 = n9) (x0b : Nat) (x2b : Nat) (hSx2 : zSh ν x2b 50 5) (gAx2 : zA (-1) 4 x2b Z) (x3 : Nat) (hSx3 : zSh ν x3 50 5) (gAx3 : zA (0) 4 x3 Z) {x4 : Int} (gx4 : 0 ≤ x4 ∧ x4 ≤ 5) {x5 : Int} (gx5 : -1 ≤ x5 ∧ x5 ≤ 72) {x6 : Int} (gx6 : 0 ≤ x6 ∧ x6 ≤ 1) {x7 : Int} (gx7 : 0 ≤ x7 ∧ x7 ≤ 120) (hK : zL [] [x2b, x3] n9 Zs Z) (hU : zU [] Zs Z) (gd0 : x2b ≠ x3) {k : wz_K} {R : wz_R} {L : qz_L} (hL : qz_fg [true, false, true, true, true, true, true, true, false] L = [some (.inr (.inr (some (10, x0b, 0)))), none, some (.inr (.inr (some (200, x2b, 0)))), some (.inr (.inr (some (200, x3, 0)))), some (.inl (i3 x4)), some (.inl (i3 x5)), some (.inl (i3 x6)), some (.inl (i3 x7)), none]) {T : qz_Z × Int × Int × Int} (hP : zE T (zl_1056_2 x0b x2b x3 x4 ((120 - x7).toNat + 1) Z x5 x6 x7)) (hk : ∀ (L9 : qz_L) (Z9 : qz_Z) (yx5 yx6 yx7 : Int), qz_fg [false, false, false, false, false, true, false, false, false] L9 = [none, none, none, none, none, some (.inl (i3 yx5)), none, none, none] → zH s Z9 → zL [] [x2b, x3] n9 Zs Z9 → zU [] Zs Z9 → zA (-1) 4 x2b Z9 → zA (0) 4 x3 Z9 → (-1 ≤ yx5 ∧ yx5 ≤ 72) → (0 ≤ yx6 ∧ yx6 ≤ 1) → (0 ≤ yx7 ∧ yx7 ≤ 120) → zE T ((Z9, yx5, yx6, yx7)) → k 0 (L9, [], zm Z9 ν)) : wz_loop qb_56_2 65536 k R (L, [], zm Z ν) := by
  refine wz_lp sb_56_2 (fun m x => ∃ Z : qz_Z, ∃ x5 : Int, ∃ x6 : Int, ∃ x7 : Int, qz_fg [true, false, true, true, true, true, true, true, false] x.1 = [some (.inr (.inr (some (10, x0b, 0)))), none, some (.inr (.inr (some (200, x2b, 0)))), some (.inr (.inr (some (200, x3, 0)))), some (.inl (i3 x4)), some (.inl (i3 x5)), some (.inl (i3 x6)), some (.inl (i3 x7)), none] ∧ x.2 = ([], zm Z ν) ∧ zH s Z ∧ zL [] [x2b, x3] n9 Zs Z ∧ zU [] Zs Z ∧ zA (-1) 4 x2b Z ∧ zA (0) 4 x3 Z ∧ m = (120 - x7).toNat ∧ (-1 ≤ x5 ∧ x5 ≤ 72) ∧ (0 ≤ x6 ∧ x6 ≤ 1) ∧ (0 ≤ x7 ∧ x7 ≤ 120) ∧ zE T (zl_1056_2 x0b x2b x3 x4 (m + 1) Z x5 x6 x7)) ?_ 65536 ((120 - x7).toNat) _ (by omega) ⟨Z, x5, x6, x7, hL, rfl, hZ, hK, hU, gAx2, gAx3, rfl, gx5, gx6, gx7, hP⟩
  clear hP gx5 gx6 gx7 hZ hK hU gAx2 gAx3 hL
  clear x5 x6 x7
  clear Z
  rintro m ⟨L, st, μ⟩ ⟨Z, x5, x6, x7, hL, hx, hZ, hK, hU, gAx2, gAx3, hm, gx5, gx6, gx7, hP⟩
  cases hx
  refine fb_56_2 x0b (200, x2b, 0) x3 (i3 x4) (i3 x5) (i3 x6) (i3 x7) _ _ _ _ hL ?_
  have r1 := hSx2.1
  have r2 := hSx3.1
  refine wz_br (i3Le (show (120 : Int32) = i3 120 from rfl) (rfl : i3 x7 = i3 x7) (by omega) (by omega) (by omega) (by omega)) (fun h3 => ?_) (fun h3 => ?_)
  · replace hP := zE_p hP h3
    exact hk _ _ _ _ _ (zconso rfl (zconso rfl (zconso rfl (zconso rfl (zconso rfl (zconso (zvo (rfl : i3 x5 = i3 x5)) (zconso rfl (zconso rfl (zconso rfl rfl))))))))) hZ hK hU gAx2 gAx3 (by omega) (by omega) (by omega)  hP
  · replace hP := zE_n hP h3
    refine wz_br (i3E (rfl : i3 x6 = i3 x6) (show (0 : Int32) = i3 0 from rfl) (by omega) (by omega) (by omega) (by omega)) (fun h4 => ?_) (fun h4 => ?_)
    · replace hP := zE_p hP h4
      exact hk _ _ _ _ _ (zconso rfl (zconso rfl (zconso rfl (zconso rfl (zconso rfl (zconso (zvo (rfl : i3 x5 = i3 x5)) (zconso rfl (zconso rfl (zconso rfl rfl))))))))) hZ hK hU gAx2 gAx3 (by omega) (by omega) (by omega)  hP
    · replace hP := zE_n hP h4
      obtain ⟨v5, hv5, c9, lv5, uv5⟩ := sp_47 (ν := ν) hZ x0b x3 hSx3 gAx3 (a2 := x4) (by omega) (zbh (c := 0) (k := 0) hM (Nat.le_of_ble_eq_true rfl))
      replace hP := zl_e hP hv5
      refine wz_cI_of (zas (zcons rfl (zcons rfl (zcons (zvi (rfl : i3 x4 = i3 x4)) rfl))) c9) ?_
      clear c9
      refine wz_br (i3E (rfl : i3 x5 = i3 x5) (show (-1 : Int32) = i3 (-1) from rfl) (by omega) (by omega) (by omega) (by omega)) (fun h6 => ?_) (fun h6 => ?_)
      · replace hP := zE_p hP h6
        refine wz_i1 (by rw [zSh_t hSx3, zSh_t hSx2]; rfl) ?_
        obtain ⟨Z7, hZ7⟩ := zx (zpy Z 200 x3 0 200 x2b 0 0 x4)
        replace hP := zl_e hP hZ7
        refine ⟨zpy_c (d := 0) (l1 := 5) (l2 := 5) (rfl : i3 x4 = i3 x4) (zSh_l hSx3) (zSh_l hSx2) (by omega) (by omega) (by omega), ?_⟩
        intro μ9 e9
        replace e9 := e9.trans (zm_py (ν := ν) (d := 0) hZ7 (rfl : ((x3 : Nat) : Int) = x3) (show ((0 : Nat) : Int) = 0 from rfl) (rfl : ((x2b : Nat) : Int) = x2b) (show ((0 : Nat) : Int) = 0 from rfl) (rfl : i3 x4 = i3 x4) (by omega) (by omega))
        subst e9
        have hZ7I := zH_pa hZ hZ7 hs
        have hZ7K : zL [] [x2b, x3] n9 Zs Z7 := zL_pa hK hZ7 (Or.inl (by simp))
        have hZ7A := zA_pa gAx2 (zA_wk gAx3 (by decide) (by decide)) hZ7
        have hZ7U : zU [] Zs Z7 := zU_p hU hZ7 (Or.inl rfl)
        obtain ⟨Z8, v9, hv9, c9, hZ8I, kZ8, jZ8, lv9, uv9, aZ8_a0b⟩ := sp_1070 (ν := ν) hZ7I hs hn x3 hSx3 (zA_p gAx3 hZ7 (fun q => absurd q.2 (by omega))) (a1 := x4) (by omega) (zbh (c := 0) (k := 0) hM (Nat.le_of_ble_eq_true rfl))
        have hZ8U : zU [] Zs Z8 := zU_t hZ7U jZ8 zU_b0
        have hZ8K : zL [] [x2b, x3] n9 Zs Z8 := zL_t hZ7K kZ8 (by decide) (zL_b1 (Or.inl (by simp)) zL_b0) (by omega)
        replace hP := zl_e2 hP hv9
        refine wz_cI_of (zas (zcons rfl (zcons (zvi (rfl : i3 x4 = i3 x4)) rfl)) c9) ?_
        clear c9 hv9
        obtain ⟨m2, rfl⟩ : ∃ m2, m = m2 + 1 := ⟨m - 1, by omega⟩
        exact wz_k1 ⟨m2, by omega, Z8, v5, v9, (x7 + 1), (zconso rfl (zconso rfl (zconso rfl (zconso rfl (zconso (zvo (rfl : i3 x4 = i3 x4)) (zconso (zvo (rfl : i3 v5 = i3 v5)) (zconso (zvo (rfl : i3 v9 = i3 v9)) (zconso (zvo (i3A (rfl : i3 x7 = i3 x7) (show (1 : Int32) = i3 1 from rfl))) (zconso rfl rfl))))))))), rfl, hZ8I, hZ8K, hZ8U, (zA_l hZ7A kZ8 (by decide) (zA_b1 (by omega) zA_b0) (by omega)), aZ8_a0b, by omega, by omega, by omega, by omega,  hP⟩
      · replace hP := zE_n hP h6
        refine wz_br (i3Le (rfl : i3 x5 = i3 x5) (rfl : i3 v5 = i3 v5) (by omega) (by omega) (by omega) (by omega)) (fun h10 => ?_) (fun h10 => ?_)
        · replace hP := zE_p hP h10
          obtain ⟨Z11, v12, hv12, c9, hZ11I, kZ11, jZ11, lv12, uv12, aZ11_a0b⟩ := sp_1070 (ν := ν) hZ hs hn x3 hSx3 gAx3 (a1 := x4) (by omega) (zbh (c := 0) (k := 0) hM (Nat.le_of_ble_eq_true rfl))
          have hZ11U : zU [] Zs Z11 := zU_t hU jZ11 zU_b0
          have hZ11K : zL [] [x2b, x3] n9 Zs Z11 := zL_t hK kZ11 (by decide) (zL_b1 (Or.inl (by simp)) zL_b0) (by omega)
          replace hP := zl_e2 hP hv12
          refine wz_cI_of (zas (zcons rfl (zcons (zvi (rfl : i3 x4 = i3 x4)) rfl)) c9) ?_
          clear c9 hv12
          obtain ⟨m2, rfl⟩ : ∃ m2, m = m2 + 1 := ⟨m - 1, by omega⟩
          exact wz_k1 ⟨m2, by omega, Z11, x5, v12, (x7 + 1), (zconso rfl (zconso rfl (zconso rfl (zconso rfl (zconso (zvo (rfl : i3 x4 = i3 x4)) (zconso (zvo (rfl : i3 x5 = i3 x5)) (zconso (zvo (rfl : i3 v12 = i3 v12)) (zconso (zvo (i3A (rfl : i3 x7 = i3 x7) (show (1 : Int32) = i3 1 from rfl))) (zconso rfl rfl))))))))), rfl, hZ11I, hZ11K, hZ11U, (zA_l gAx2 kZ11 (by decide) (zA_b1 (by omega) zA_b0) (by omega)), aZ11_a0b, by omega, by omega, by omega, by omega,  hP⟩
        · replace hP := zE_n hP h10
          refine wz_i1 (by rw [zSh_t hSx3, zSh_t hSx2]; rfl) ?_
          obtain ⟨Z13, hZ13⟩ := zx (zpy Z 200 x3 0 200 x2b 0 0 x4)
          replace hP := zl_e hP hZ13
          refine ⟨zpy_c (d := 0) (l1 := 5) (l2 := 5) (rfl : i3 x4 = i3 x4) (zSh_l hSx3) (zSh_l hSx2) (by omega) (by omega) (by omega), ?_⟩
          intro μ9 e9
          replace e9 := e9.trans (zm_py (ν := ν) (d := 0) hZ13 (rfl : ((x3 : Nat) : Int) = x3) (show ((0 : Nat) : Int) = 0 from rfl) (rfl : ((x2b : Nat) : Int) = x2b) (show ((0 : Nat) : Int) = 0 from rfl) (rfl : i3 x4 = i3 x4) (by omega) (by omega))
          subst e9
          have hZ13I := zH_pa hZ hZ13 hs
          have hZ13K : zL [] [x2b, x3] n9 Zs Z13 := zL_pa hK hZ13 (Or.inl (by simp))
          have hZ13A := zA_pa gAx2 (zA_wk gAx3 (by decide) (by decide)) hZ13
          have hZ13U : zU [] Zs Z13 := zU_p hU hZ13 (Or.inl rfl)
          obtain ⟨Z14, v15, hv15, c9, hZ14I, kZ14, jZ14, lv15, uv15, aZ14_a0b⟩ := sp_1070 (ν := ν) hZ13I hs hn x3 hSx3 (zA_p gAx3 hZ13 (fun q => absurd q.2 (by omega))) (a1 := x4) (by omega) (zbh (c := 0) (k := 0) hM (Nat.le_of_ble_eq_true rfl))
          have hZ14U : zU [] Zs Z14 := zU_t hZ13U jZ14 zU_b0
          have hZ14K : zL [] [x2b, x3] n9 Zs Z14 := zL_t hZ13K kZ14 (by decide) (zL_b1 (Or.inl (by simp)) zL_b0) (by omega)
          replace hP := zl_e2 hP hv15
          refine wz_cI_of (zas (zcons rfl (zcons (zvi (rfl : i3 x4 = i3 x4)) rfl)) c9) ?_
          clear c9 hv15
          obtain ⟨m2, rfl⟩ : ∃ m2, m = m2 + 1 := ⟨m - 1, by omega⟩
          exact wz_k1 ⟨m2, by omega, Z14, v5, v15, (x7 + 1), (zconso rfl (zconso rfl (zconso rfl (zconso rfl (zconso (zvo (rfl : i3 x4 = i3 x4)) (zconso (zvo (rfl : i3 v5 = i3 v5)) (zconso (zvo (rfl : i3 v15 = i3 v15)) (zconso (zvo (i3A (rfl : i3 x7 = i3 x7) (show (1 : Int32) = i3 1 from rfl))) (zconso rfl rfl))))))))), rfl, hZ14I, hZ14K, hZ14U, (zA_l hZ13A kZ14 (by decide) (zA_b1 (by omega) zA_b0) (by omega)), aZ14_a0b, by omega, by omega, by omega, by omega,  hP⟩
/- yX2_shortestTrip (2) -/
def zf_1056 (Z : qz_Z) (n9 : Int) (a0b : Int) (a1 : Int) (a2b : Int) : qz_Z × Int × Int := (zlet (zzi Z n9) (fun Z2 => (zlet (n9 + 1) (fun n4 => (zlet3 (zl_1056_1 a0b a2b n9 a1 6 Z2 0 0) (fun Z7 y5 y6 => (zlet4 (zl_1056_2 a0b a2b n9 y5 121 Z7 (-1) 1 0) (fun Z12 y9 y10 y11 => (Z12, n4, y9)))))))))
theorem sp_1056 {s : zSM} {Z : qz_Z} {ν : qz_N} (hZ : zH s Z) (hs : s.1 = none) {n9 : Nat} (hn : ν.2.2.2.1 = n9) (a0b : Nat) {a1 : Int} (ga1 : 0 ≤ a1 ∧ a1 ≤ 31) (a2b : Nat) (hSa2 : zSh ν a2b 50 5) (gAa2 : zA (-1) 4 a2b Z) (hM : s.2 + 0 ≤ 1000000000) : ∃ (Z1 : qz_Z) (ν1 : qz_N) (n1 : Nat) (P : Int), (Z1, (n1 : Int), P) = zf_1056 Z n9 a0b a1 a2b ∧ (qf_56 [.inr (.inr (some (10, a0b, 0))), .inl (i3 a1), .inr (.inr (some (200, a2b, 0)))] (zm Z ν) = some (zm Z1 ν1, .inl (some (.inl (i3 P)))) ∧ zH s Z1 ∧ zL [] [a2b] n9 Z Z1 ∧ zU [] Z Z1 ∧ ν1.2.2.2.1 = n1 ∧ zG 1 5 ν ν1 ∧ -1 ≤ P ∧ P ≤ 72 ∧ zA (-1) 4 a2b Z1) := by
  obtain ⟨P, hP⟩ := zx (zf_1056 Z n9 a0b a1 a2b)
  refine zc_Wn (Q := fun Z1 ν1 n1 P => zH s Z1 ∧ zL [] [a2b] n9 Z Z1 ∧ zU [] Z Z1 ∧ ν1.2.2.2.1 = n1 ∧ zG 1 5 ν ν1 ∧ -1 ≤ P ∧ P ≤ 72 ∧ zA (-1) 4 a2b Z1) hP (fw_56 a0b (i3 a1) (200, a2b, 0) _ _ ?_)
  replace hP : zE P (zf_1056 Z n9 a0b a1 a2b) := hP
  unfold zf_1056 at hP
  have r1 := hSa2.1
  obtain ⟨Z2, hZ2⟩ := zx (zzr Z n9)
  obtain ⟨ν3, hν3⟩ := zx (nal ν 50 1 5 1 5)
  obtain ⟨n4, hn4⟩ : ∃ m : Nat, m = n9 + 1 := ⟨_, rfl⟩
  replace hP := zl_e hP (hZ2.trans zzi_e)
  replace hP := zl_e hP (show ((n4 : Nat) : Int) = ((n9 : Nat) : Int) + 1 from by omega)
  intro μ9 e9
  replace e9 := zal_e e9 hn hZ2 hν3
  subst e9
  rw [show qz_na (zm Z ν) = n9 from hn]
  have hZ2I := zH_z hZ hZ2 hs
  have hZ2K : zL [] [a2b] n9 Z Z2 := zL_z2 zL_r (by omega) hZ2
  have hZ2U : zU [] Z Z2 := zU_z zU_r hZ2
  have hnν3 := (nal_na hn hν3).trans hn4.symm
  have hGν3 := zG_al' zG_r hν3
  have hSν3 := zSh_new hn hν3
  have gAν3 := zA_new (lo := 0) (hi := 4) hZ2 ⟨by decide, by decide⟩
  refine sl_1056_1 (ν := ν3) hZ2I (zbh (c := 0) (k := 0) hM (Nat.le_of_ble_eq_true rfl)) hs hnν3 a0b a2b (zSh_al hSa2 hν3) (zA_z gAa2 hZ2 (by omega)) n9 hSν3 gAν3 (x1 := a1) (by omega) (x4 := 0) (by omega) (x5 := 0) (by omega) zL_r zU_r (by omega) (by omega) (zconso rfl (zconso (zvo (rfl : i3 a1 = i3 a1)) (zconso rfl (zconso rfl (zconso (zvo (show (0 : Int32) = i3 0 from rfl)) (zconso (zvo (show (0 : Int32) = i3 0 from rfl)) (zconso rfl (zconso rfl (zconso rfl rfl))))))))) rfl ?_
  intro L8 Z7 y5 y6 hL8 hZ7I kZ7 jZ7 aZ7_x2 aZ7_x3 gy5 gy6 gL8_0 q9
  replace hP := zl_e3 hP (Eq.symm q9)
  clear q9
  have hZ7U : zU [] Z Z7 := zU_t hZ2U jZ7 zU_b0
  have hZ7K : zL [] [a2b] n9 Z Z7 := zL_t hZ2K kZ7 (by decide) (zL_b1 (Or.inl (by simp)) (zL_b1 (Or.inr (by omega)) zL_b0)) (by omega)
  refine fc_56_4 _ _ _ (i3 y5) _ _ _ _ hL8 ?_
  refine sl_1056_2 (ν := ν3) hZ7I (zbh (c := 0) (k := 0) hM (Nat.le_of_ble_eq_true rfl)) hs hnν3 a0b a2b (zSh_al hSa2 hν3) aZ7_x2 n9 hSν3 aZ7_x3 (x4 := y5) (by omega) (x5 := (-1)) (by omega) (x6 := 1) (by omega) (x7 := 0) (by omega) zL_r zU_r (by omega)  (zconso rfl (zconso rfl (zconso rfl (zconso rfl (zconso (zvo (rfl : i3 y5 = i3 y5)) (zconso (zvo (show (-1 : Int32) = i3 (-1) from rfl)) (zconso (zvo (show (1 : Int32) = i3 1 from rfl)) (zconso (zvo (show (0 : Int32) = i3 0 from rfl)) (zconso rfl rfl))))))))) rfl ?_
  intro L13 Z12 y9 y10 y11 hL13 hZ12I kZ12 jZ12 aZ12_x2 aZ12_x3 gy9 gy10 gy11 q9
  replace hP := zl_e4 hP (Eq.symm q9)
  clear q9
  have hZ12U : zU [] Z Z12 := zU_t hZ7U jZ12 zU_b0
  have hZ12K : zL [] [a2b] n9 Z Z12 := zL_t hZ7K kZ12 (by decide) (zL_b1 (Or.inl (by simp)) (zL_b1 (Or.inr (by omega)) zL_b0)) (by omega)
  refine fc_56_3 (i3 y9) _ _ _ _ hL13 ?_
  exact zlWn hP (rfl : i3 y9 = i3 y9) ⟨hZ12I, hZ12K, hZ12U, hnν3, zG_w hGν3 (Nat.le_of_ble_eq_true rfl) (Nat.le_of_ble_eq_true rfl), by omega, by omega, aZ12_x2⟩
/- yX2_townsOf -/
def zl_59_1 (x0b : Int) (x1 : Int) : Nat → qz_Z → Int → Int → Int × Int
  | 0, Z, x2, x3 => (x2, x3)
  | m + 1, Z, x2, x3 => (if (Z 11 x0b 0 6) ≤ x3 then (x2, x3) else (if (Z 47 x0b x3 10) ≠ x1 then zl_59_1 x0b x1 m Z x2 (x3 + 1) else zl_59_1 x0b x1 m Z (z2 (fun x y => x ||| y) x2 (z2 (fun x y => x <<< (y &&& 31)) 1 (Z 45 x0b (Z 47 x0b x3 1) 0))) (x3 + 1)))
theorem sl_59_1 {s : zSM} {Z : qz_Z} {ν : qz_N} (hZ : zH s Z) (hM : s.2 + 0 ≤ 1000000000) (x0b : Nat) {x1 : Int} (gx1 : 0 ≤ x1 ∧ x1 ≤ 3) {x2 : Int} (gx2 : 0 ≤ x2 ∧ x2 ≤ 31) {x3 : Int} (gx3 : 0 ≤ x3 ∧ x3 ≤ 60) {k : wz_K} {R : wz_R} {L : qz_L} (hL : qz_fg [true, true, true, true] L = [some (.inr (.inr (some (10, x0b, 0)))), some (.inl (i3 x1)), some (.inl (i3 x2)), some (.inl (i3 x3))]) {T : Int × Int} (hP : zE T (zl_59_1 x0b x1 ((60 - x3).toNat + 1) Z x2 x3)) (hk : ∀ (L9 : qz_L) (yx2 yx3 : Int), qz_fg [false, false, true, false] L9 = [none, none, some (.inl (i3 yx2)), none] → (0 ≤ yx2 ∧ yx2 ≤ 31) → (0 ≤ yx3 ∧ yx3 ≤ 60) → zE T ((yx2, yx3)) → k 0 (L9, [], zm Z ν)) : wz_loop qb_59_1 65536 k R (L, [], zm Z ν) := by
  refine wz_lp sb_59_1 (fun m x => ∃ x2 : Int, ∃ x3 : Int, qz_fg [true, true, true, true] x.1 = [some (.inr (.inr (some (10, x0b, 0)))), some (.inl (i3 x1)), some (.inl (i3 x2)), some (.inl (i3 x3))] ∧ x.2 = ([], zm Z ν) ∧ m = (60 - x3).toNat ∧ (0 ≤ x2 ∧ x2 ≤ 31) ∧ (0 ≤ x3 ∧ x3 ≤ 60) ∧ zE T (zl_59_1 x0b x1 (m + 1) Z x2 x3)) ?_ 65536 ((60 - x3).toNat) _ (by omega) ⟨x2, x3, hL, rfl, rfl, gx2, gx3, hP⟩
  clear hP gx2 gx3 hL
  clear x2 x3
  rintro m ⟨L, st, μ⟩ ⟨x2, x3, hL, hx, hm, gx2, gx3, hP⟩
  cases hx
  refine fb_59_1 x0b (i3 x1) (i3 x2) (i3 x3) _ _ _ _ hL ?_
  have r1 := zH_k hZ 11 x0b 0 6 (lo := 0) (hi := 60) (by decide) rfl
  refine wz_br (i3Le (zm_rd (Z := Z) (ν := ν) (k := 11) (rfl : ((x0b : Nat) : Int) = x0b) (show ((0 : Nat) : Int) = 0 from rfl) (show ((6 : Nat) : Int) = 6 from rfl)) (rfl : i3 x3 = i3 x3) (by omega) (by omega) (by omega) (by omega)) (fun h2 => ?_) (fun h2 => ?_)
  · replace hP := zE_p hP h2
    exact hk _ _ _ (zconso rfl (zconso rfl (zconso (zvo (rfl : i3 x2 = i3 x2)) (zconso rfl rfl))))  (by omega) (by omega)  hP
  · replace hP := zE_n hP h2
    refine wz_i0 (i3O (n := 60) (rfl : i3 x3 = i3 x3) (by omega) (by omega) (by omega)) ?_
    have r3 := zH_k hZ 47 x0b x3 10 (lo := -1) (hi := 3) (by decide) rfl
    have r4 := zH_lt hZ x0b x3
    refine wz_br (i3NE (zm_rd (Z := Z) (ν := ν) (k := 47) (rfl : ((x0b : Nat) : Int) = x0b) (i3I (y := x3) (rfl : i3 x3 = i3 x3) (by omega) (by omega) (by omega)) (show ((10 : Nat) : Int) = 10 from rfl)) (rfl : i3 x1 = i3 x1) (by omega) (by omega) (by omega) (by omega)) (fun h5 => ?_) (fun h5 => ?_)
    · replace hP := zE_p hP h5
      obtain ⟨m2, rfl⟩ : ∃ m2, m = m2 + 1 := ⟨m - 1, by omega⟩
      exact wz_k1 ⟨m2, by omega, x2, (x3 + 1), (zconso rfl (zconso (zvo (rfl : i3 x1 = i3 x1)) (zconso (zvo (rfl : i3 x2 = i3 x2)) (zconso (zvo (i3A (rfl : i3 x3 = i3 x3) (show (1 : Int32) = i3 1 from rfl))) rfl)))), rfl,  by omega, by omega, by omega,  hP⟩
    · replace hP := zE_n hP h5
      refine wz_i0 (i3O (n := 60) (rfl : i3 x3 = i3 x3) (by omega) (by omega) (by omega)) ?_
      have r6 := zH_k hZ 47 x0b x3 1 (lo := 0) (hi := 7) (by decide) rfl
      refine wz_i0 (i3O (n := 8) (zm_rd (Z := Z) (ν := ν) (k := 47) (rfl : ((x0b : Nat) : Int) = x0b) (i3I (y := x3) (rfl : i3 x3 = i3 x3) (by omega) (by omega) (by omega)) (show ((1 : Nat) : Int) = 1 from rfl)) (by omega) (by omega) (by omega)) ?_
      have r7 := zH_k hZ 45 x0b (Z 47 x0b x3 1) 0 (lo := 0) (hi := 4) (by decide) rfl
      have r8 := z2_r (fun x y => x <<< (y &&& 31)) 1 (Z 45 x0b (Z 47 x0b x3 1) 0)
      have r9 := z2_shl4 (n := (Z 45 x0b (Z 47 x0b x3 1) 0)) (by omega) (by omega)
      have r10 := z2_r (fun x y => x ||| y) x2 (z2 (fun x y => x <<< (y &&& 31)) 1 (Z 45 x0b (Z 47 x0b x3 1) 0))
      have r11 := z2_or5 (x := x2) (y := (z2 (fun x y => x <<< (y &&& 31)) 1 (Z 45 x0b (Z 47 x0b x3 1) 0))) (by omega) (by omega)
      obtain ⟨m2, rfl⟩ : ∃ m2, m = m2 + 1 := ⟨m - 1, by omega⟩
      exact wz_k1 ⟨m2, by omega, (z2 (fun x y => x ||| y) x2 (z2 (fun x y => x <<< (y &&& 31)) 1 (Z 45 x0b (Z 47 x0b x3 1) 0))), (x3 + 1), (zconso rfl (zconso (zvo (rfl : i3 x1 = i3 x1)) (zconso (zvo (i3Z (fun x y => x ||| y) (rfl : i3 x2 = i3 x2) (i3Z (fun x y => x <<< (y &&& 31)) (show (1 : Int32) = i3 1 from rfl) (zm_rd (Z := Z) (ν := ν) (k := 45) (rfl : ((x0b : Nat) : Int) = x0b) (i3I (y := (Z 47 x0b x3 1)) (zm_rd (Z := Z) (ν := ν) (k := 47) (rfl : ((x0b : Nat) : Int) = x0b) (i3I (y := x3) (rfl : i3 x3 = i3 x3) (by omega) (by omega) (by omega)) (show ((1 : Nat) : Int) = 1 from rfl)) (by omega) (by omega) (by omega)) (show ((0 : Nat) : Int) = 0 from rfl))))) (zconso (zvo (i3A (rfl : i3 x3 = i3 x3) (show (1 : Int32) = i3 1 from rfl))) rfl)))), rfl,  by omega, by omega, by omega,  hP⟩
/- yX2_townsOf -/
def zf_59 (Z : qz_Z) (a0b : Int) (a1 : Int) : Int := (zlet2 (zl_59_1 a0b a1 61 Z 0 0) (fun y1 y2 => y1))
theorem sp_59 {s : zSM} {Z : qz_Z} {ν : qz_N} (hZ : zH s Z) (a0b : Nat) {a1 : Int} (ga1 : 0 ≤ a1 ∧ a1 ≤ 3) (hM : s.2 + 0 ≤ 1000000000) : ∃ P : Int, P = zf_59 Z a0b a1 ∧ (qf_59 [.inr (.inr (some (10, a0b, 0))), .inl (i3 a1)] (zm Z ν) = some (zm Z ν, .inl (some (.inl (i3 P)))) ∧ 0 ≤ P ∧ P ≤ 31) := by
  obtain ⟨P, hP⟩ := zx (zf_59 Z a0b a1)
  refine zc_R (Q := fun P => 0 ≤ P ∧ P ≤ 31) hP (fw_59 a0b (i3 a1) _ _ ?_)
  replace hP : zE P (zf_59 Z a0b a1) := hP
  unfold zf_59 at hP
  refine sl_59_1 (ν := ν) hZ (zbh (c := 0) (k := 0) hM (Nat.le_of_ble_eq_true rfl)) a0b (x1 := a1) (by omega) (x2 := 0) (by omega) (x3 := 0) (by omega)  (zconso rfl (zconso (zvo (rfl : i3 a1 = i3 a1)) (zconso (zvo (show (0 : Int32) = i3 0 from rfl)) (zconso (zvo (show (0 : Int32) = i3 0 from rfl)) rfl)))) rfl ?_
  intro L3 y1 y2 hL3 gy1 gy2 q9
  replace hP := zl_e2 hP (Eq.symm q9)
  clear q9
  refine fc_59_2 (i3 y1) _ _ _ _ hL3 ?_
  exact zlR hP (rfl : i3 y1 = i3 y1) ⟨by omega, by omega⟩
/- yX2_goIfDue -/
def zl_45_1 (x0b : Int) (x2ij : Int) (x4 : Int) : Nat → qz_Z → Int → Int → Int → qz_Z × Int × Int × Int
  | 0, Z, x5, x6, x7 => (Z, x5, x6, x7)
  | m + 1, Z, x5, x6, x7 => (if 5 ≤ x7 then (Z, x5, x6, x7) else (if (Z 200 x4 0 x7) = (-1) then (zlet (zu Z 50 x0b x2ij (12 + x7) (Z 200 x4 0 x7)) (fun Z4 => (zlet (zu Z4 50 x0b x2ij (17 + x7) (-1)) (fun Z5 => zl_45_1 x0b x2ij x4 m Z5 x5 x6 (x7 + 1))))) else (zlet (zu Z 50 x0b x2ij (12 + x7) (Z 200 x4 0 x7)) (fun Z6 => (zlet (zu Z6 50 x0b x2ij (17 + x7) (x6 + (Z 40 x0b x5 (Z 200 x4 0 x7)))) (fun Z8 => zl_45_1 x0b x2ij x4 m Z8 (Z 200 x4 0 x7) (x6 + (Z 40 x0b x5 (Z 200 x4 0 x7))) (x7 + 1)))))))
theorem sl_45_1 {s : zSM} {Zs Z : qz_Z} {ν : qz_N} (hZ : zH s Z) (hM : s.2 + 0 ≤ 1000000000) (hK : zC [50] Zs Z) (x0b : Nat) (x2i : Nat) {x2ij : Int} (ex2i : (x2i : Int) = x2ij) (gx2ij : 0 ≤ x2ij ∧ x2ij ≤ 3) (x4 : Nat) (hSx4 : zSh ν x4 50 5) (gAx4 : zA (-1) 4 x4 Z) {x5 : Int} (gx5 : 0 ≤ x5 ∧ x5 ≤ 5) {x6 : Int} (gx6 : 0 ≤ x6 ∧ x6 ≤ 731) {x7 : Int} (gx7 : 0 ≤ x7 ∧ x7 ≤ 5) (hU : zU [x0b] Zs Z) (gr0 : x6 ≤ 671 + 12 * x7) {k : wz_K} {R : wz_R} {L : qz_L} (hL : qz_fg [true, false, true, false, true, true, true, true, false] L = [some (.inr (.inr (some (10, x0b, 0)))), none, some (.inr (.inr (some (50, x0b, x2i)))), none, some (.inr (.inr (some (200, x4, 0)))), some (.inl (i3 x5)), some (.inl (i3 x6)), some (.inl (i3 x7)), none]) {T : qz_Z × Int × Int × Int} (hP : zE T (zl_45_1 x0b x2ij x4 ((5 - x7).toNat + 1) Z x5 x6 x7)) (hk : ∀ (L9 : qz_L) (Z9 : qz_Z) (yx5 yx6 yx7 : Int), qz_fg [false, false, false, false, false, false, false, false, false] L9 = [none, none, none, none, none, none, none, none, none] → zH s Z9 → zC [50] Zs Z9 → zU [x0b] Zs Z9 → zA (-1) 4 x4 Z9 → (0 ≤ yx5 ∧ yx5 ≤ 5) → (0 ≤ yx6 ∧ yx6 ≤ 731) → (0 ≤ yx7 ∧ yx7 ≤ 5) → (yx6 ≤ 671 + 12 * yx7) → zE T ((Z9, yx5, yx6, yx7)) → k 0 (L9, [], zm Z9 ν)) : wz_loop qb_45_1 65536 k R (L, [], zm Z ν) := by
  refine wz_lp sb_45_1 (fun m x => ∃ Z : qz_Z, ∃ x5 : Int, ∃ x6 : Int, ∃ x7 : Int, qz_fg [true, false, true, false, true, true, true, true, false] x.1 = [some (.inr (.inr (some (10, x0b, 0)))), none, some (.inr (.inr (some (50, x0b, x2i)))), none, some (.inr (.inr (some (200, x4, 0)))), some (.inl (i3 x5)), some (.inl (i3 x6)), some (.inl (i3 x7)), none] ∧ x.2 = ([], zm Z ν) ∧ zH s Z ∧ zC [50] Zs Z ∧ zU [x0b] Zs Z ∧ zA (-1) 4 x4 Z ∧ m = (5 - x7).toNat ∧ (0 ≤ x5 ∧ x5 ≤ 5) ∧ (0 ≤ x6 ∧ x6 ≤ 731) ∧ (0 ≤ x7 ∧ x7 ≤ 5) ∧ (x6 ≤ 671 + 12 * x7) ∧ zE T (zl_45_1 x0b x2ij x4 (m + 1) Z x5 x6 x7)) ?_ 65536 ((5 - x7).toNat) _ (by omega) ⟨Z, x5, x6, x7, hL, rfl, hZ, hK, hU, gAx4, rfl, gx5, gx6, gx7, gr0, hP⟩
  clear hP gr0 gx5 gx6 gx7 hZ hK hU gAx4 hL
  clear x5 x6 x7
  clear Z
  rintro m ⟨L, st, μ⟩ ⟨Z, x5, x6, x7, hL, hx, hZ, hK, hU, gAx4, hm, gx5, gx6, gx7, gr0, hP⟩
  cases hx
  refine fb_45_1 x0b x2i x4 (i3 x5) (i3 x6) (i3 x7) _ _ _ _ hL ?_
  refine wz_br (i3Le (show (5 : Int32) = i3 5 from rfl) (rfl : i3 x7 = i3 x7) (by omega) (by omega) (by omega) (by omega)) (fun h1 => ?_) (fun h1 => ?_)
  · replace hP := zE_p hP h1
    exact hk _ _ _ _ _ (zconso rfl (zconso rfl (zconso rfl (zconso rfl (zconso rfl (zconso rfl (zconso rfl (zconso rfl (zconso rfl rfl))))))))) hZ hK hU gAx4 (by omega) (by omega) (by omega) (by omega) hP
  · replace hP := zE_n hP h1
    refine wz_i1 (by rw [zSh_t hSx4]; rfl) ?_
    refine wz_i0 (by rw [zSh_l hSx4]; exact i3O (n := 5) (rfl : i3 x7 = i3 x7) (by omega) (by omega) (by omega)) ?_
    have r2 := gAx4 x7
    refine wz_br (i3E (zm_rd (Z := Z) (ν := ν) (k := 200) (rfl : ((x4 : Nat) : Int) = x4) (show ((0 : Nat) : Int) = 0 from rfl) (i3I (y := x7) (rfl : i3 x7 = i3 x7) (by omega) (by omega) (by omega))) (show (-1 : Int32) = i3 (-1) from rfl) (by omega) (by omega) (by omega) (by omega)) (fun h3 => ?_) (fun h3 => ?_)
    · replace hP := zE_p hP h3
      refine wz_i0 (i3O (n := 22) (i3A (show (12 : Int32) = i3 12 from rfl) (rfl : i3 x7 = i3 x7)) (by omega) (by omega) (by omega)) ?_
      obtain ⟨Z4, hZ4⟩ := zx (zu Z 50 x0b x2ij (12 + x7) (Z 200 x4 0 x7))
      replace hP := zl_e hP hZ4
      have hZ4I := zH_u hZ hZ4 (lo := -1) (hi := 4) (by decide) (zrn_of (lo := 12) (n := 5) (by decide) (by decide +kernel) (by omega) (by omega)) (by omega) ⟨by decide, by decide⟩ (Or.inl (by decide)) rfl
      have hZ4U : zU [x0b] Zs Z4 := zU_u hU hZ4 (Or.inr (List.Mem.head _))
      have hZ4K : zC [50] Zs Z4 := zC_u hK hZ4 rfl
      intro μ9 e9
      replace e9 := e9.trans (zm_wI (Z := Z) (ν := ν) hZ4 (rfl : ((x0b : Nat) : Int) = x0b) ex2i (i3I (y := (12 + x7)) (i3A (show (12 : Int32) = i3 12 from rfl) (rfl : i3 x7 = i3 x7)) (by omega) (by omega) (by omega)) (zm_rd (Z := Z) (ν := ν) (k := 200) (rfl : ((x4 : Nat) : Int) = x4) (show ((0 : Nat) : Int) = 0 from rfl) (i3I (y := x7) (rfl : i3 x7 = i3 x7) (by omega) (by omega) (by omega))))
      subst e9
      refine wz_i0 (Eq.trans (i3NE (zm_rd (Z := Z) (ν := ν) (k := 200) (rfl : ((x4 : Nat) : Int) = x4) (show ((0 : Nat) : Int) = 0 from rfl) (i3I (y := x7) (rfl : i3 x7 = i3 x7) (by omega) (by omega) (by omega))) (show (-1 : Int32) = i3 (-1) from rfl) (by omega) (by omega) (by omega) (by omega)) (decide_eq_false (by omega))) ?_
      refine wz_i0 (i3O (n := 22) (i3A (show (17 : Int32) = i3 17 from rfl) (rfl : i3 x7 = i3 x7)) (by omega) (by omega) (by omega)) ?_
      obtain ⟨Z5, hZ5⟩ := zx (zu Z4 50 x0b x2ij (17 + x7) (-1))
      replace hP := zl_e hP hZ5
      have hZ5I := zH_u hZ4I hZ5 (lo := -1) (hi := 743) (by decide) (zrn_of (lo := 17) (n := 5) (by decide) (by decide +kernel) (by omega) (by omega)) (by omega) ⟨by decide, by decide⟩ (Or.inl (by decide)) rfl
      have hZ5U : zU [x0b] Zs Z5 := zU_u hZ4U hZ5 (Or.inr (List.Mem.head _))
      have hZ5K : zC [50] Zs Z5 := zC_u hZ4K hZ5 rfl
      intro μ9 e9
      replace e9 := e9.trans (zm_wI (Z := Z4) (ν := ν) hZ5 (rfl : ((x0b : Nat) : Int) = x0b) ex2i (i3I (y := (17 + x7)) (i3A (show (17 : Int32) = i3 17 from rfl) (rfl : i3 x7 = i3 x7)) (by omega) (by omega) (by omega)) (show (-1 : Int32) = i3 (-1) from rfl))
      subst e9
      obtain ⟨m2, rfl⟩ : ∃ m2, m = m2 + 1 := ⟨m - 1, by omega⟩
      exact wz_k1 ⟨m2, by omega, Z5, x5, x6, (x7 + 1), (zconso rfl (zconso rfl (zconso rfl (zconso rfl (zconso rfl (zconso (zvo (rfl : i3 x5 = i3 x5)) (zconso (zvo (rfl : i3 x6 = i3 x6)) (zconso (zvo (i3A (rfl : i3 x7 = i3 x7) (show (1 : Int32) = i3 1 from rfl))) (zconso rfl rfl))))))))), rfl, hZ5I, hZ5K, hZ5U, (zA_o (zA_o gAx4 hZ4 (fun q => absurd q.1 (by decide))) hZ5 (fun q => absurd q.1 (by decide))), by omega, by omega, by omega, by omega, by omega,  hP⟩
    · replace hP := zE_n hP h3
      refine wz_i0 (i3O (n := 6) (rfl : i3 x5 = i3 x5) (by omega) (by omega) (by omega)) ?_
      refine wz_i0 (i3O (n := 6) (zm_rd (Z := Z) (ν := ν) (k := 200) (rfl : ((x4 : Nat) : Int) = x4) (show ((0 : Nat) : Int) = 0 from rfl) (i3I (y := x7) (rfl : i3 x7 = i3 x7) (by omega) (by omega) (by omega))) (by omega) (by omega) (by omega)) ?_
      refine wz_i0 (i3O (n := 22) (i3A (show (12 : Int32) = i3 12 from rfl) (rfl : i3 x7 = i3 x7)) (by omega) (by omega) (by omega)) ?_
      obtain ⟨Z6, hZ6⟩ := zx (zu Z 50 x0b x2ij (12 + x7) (Z 200 x4 0 x7))
      replace hP := zl_e hP hZ6
      have hZ6I := zH_u hZ hZ6 (lo := -1) (hi := 4) (by decide) (zrn_of (lo := 12) (n := 5) (by decide) (by decide +kernel) (by omega) (by omega)) (by omega) ⟨by decide, by decide⟩ (Or.inl (by decide)) rfl
      have hZ6U : zU [x0b] Zs Z6 := zU_u hU hZ6 (Or.inr (List.Mem.head _))
      have hZ6K : zC [50] Zs Z6 := zC_u hK hZ6 rfl
      intro μ9 e9
      replace e9 := e9.trans (zm_wI (Z := Z) (ν := ν) hZ6 (rfl : ((x0b : Nat) : Int) = x0b) ex2i (i3I (y := (12 + x7)) (i3A (show (12 : Int32) = i3 12 from rfl) (rfl : i3 x7 = i3 x7)) (by omega) (by omega) (by omega)) (zm_rd (Z := Z) (ν := ν) (k := 200) (rfl : ((x4 : Nat) : Int) = x4) (show ((0 : Nat) : Int) = 0 from rfl) (i3I (y := x7) (rfl : i3 x7 = i3 x7) (by omega) (by omega) (by omega))))
      subst e9
      refine wz_i1 (Eq.trans (i3NE (zm_rd (Z := Z) (ν := ν) (k := 200) (rfl : ((x4 : Nat) : Int) = x4) (show ((0 : Nat) : Int) = 0 from rfl) (i3I (y := x7) (rfl : i3 x7 = i3 x7) (by omega) (by omega) (by omega))) (show (-1 : Int32) = i3 (-1) from rfl) (by omega) (by omega) (by omega) (by omega)) (decide_eq_true (by omega))) ?_
      refine wz_i0 (i3O (n := 22) (i3A (show (17 : Int32) = i3 17 from rfl) (rfl : i3 x7 = i3 x7)) (by omega) (by omega) (by omega)) ?_
      have r7 := zH_k hZ 40 x0b x5 (Z 200 x4 0 x7) (lo := 0) (hi := 12) (by decide) (zrc_40 (by omega) (by omega))
      obtain ⟨Z8, hZ8⟩ := zx (zu Z6 50 x0b x2ij (17 + x7) (x6 + (Z 40 x0b x5 (Z 200 x4 0 x7))))
      replace hP := zl_e hP hZ8
      have hZ8I := zH_u hZ6I hZ8 (lo := -1) (hi := 743) (by decide) (zrn_of (lo := 17) (n := 5) (by decide) (by decide +kernel) (by omega) (by omega)) (by omega) ⟨by decide, by decide⟩ (Or.inl (by decide)) rfl
      have hZ8U : zU [x0b] Zs Z8 := zU_u hZ6U hZ8 (Or.inr (List.Mem.head _))
      have hZ8K : zC [50] Zs Z8 := zC_u hZ6K hZ8 rfl
      intro μ9 e9
      replace e9 := e9.trans (zm_wI (Z := Z6) (ν := ν) hZ8 (rfl : ((x0b : Nat) : Int) = x0b) ex2i (i3I (y := (17 + x7)) (i3A (show (17 : Int32) = i3 17 from rfl) (rfl : i3 x7 = i3 x7)) (by omega) (by omega) (by omega)) (i3A (rfl : i3 x6 = i3 x6) (zm_rd (Z := Z) (ν := ν) (k := 40) (rfl : ((x0b : Nat) : Int) = x0b) (i3I (y := x5) (rfl : i3 x5 = i3 x5) (by omega) (by omega) (by omega)) (i3I (y := (Z 200 x4 0 x7)) (zm_rd (Z := Z) (ν := ν) (k := 200) (rfl : ((x4 : Nat) : Int) = x4) (show ((0 : Nat) : Int) = 0 from rfl) (i3I (y := x7) (rfl : i3 x7 = i3 x7) (by omega) (by omega) (by omega))) (by omega) (by omega) (by omega)))))
      subst e9
      obtain ⟨m2, rfl⟩ : ∃ m2, m = m2 + 1 := ⟨m - 1, by omega⟩
      exact wz_k1 ⟨m2, by omega, Z8, (Z 200 x4 0 x7), (x6 + (Z 40 x0b x5 (Z 200 x4 0 x7))), (x7 + 1), (zconso rfl (zconso rfl (zconso rfl (zconso rfl (zconso rfl (zconso (zvo (zm_rd (Z := Z) (ν := ν) (k := 200) (rfl : ((x4 : Nat) : Int) = x4) (show ((0 : Nat) : Int) = 0 from rfl) (i3I (y := x7) (rfl : i3 x7 = i3 x7) (by omega) (by omega) (by omega)))) (zconso (zvo (i3A (rfl : i3 x6 = i3 x6) (zm_rd (Z := Z) (ν := ν) (k := 40) (rfl : ((x0b : Nat) : Int) = x0b) (i3I (y := x5) (rfl : i3 x5 = i3 x5) (by omega) (by omega) (by omega)) (i3I (y := (Z 200 x4 0 x7)) (zm_rd (Z := Z) (ν := ν) (k := 200) (rfl : ((x4 : Nat) : Int) = x4) (show ((0 : Nat) : Int) = 0 from rfl) (i3I (y := x7) (rfl : i3 x7 = i3 x7) (by omega) (by omega) (by omega))) (by omega) (by omega) (by omega))))) (zconso (zvo (i3A (rfl : i3 x7 = i3 x7) (show (1 : Int32) = i3 1 from rfl))) (zconso rfl rfl))))))))), rfl, hZ8I, hZ8K, hZ8U, (zA_o (zA_o gAx4 hZ6 (fun q => absurd q.1 (by decide))) hZ8 (fun q => absurd q.1 (by decide))), by omega, by omega, by omega, by omega, by omega,  hP⟩
/- yX2_goIfDue -/
def zf_45 (Z : qz_Z) (n9 : Int) (a0b : Int) (a1 : Int) : qz_Z × Int := (if (Z 50 a0b a1 2) = 1 then (Z, n9) else (if (Z 50 a0b a1 3) = (Z 11 a0b 0 13) then (zlet (zu Z 50 a0b a1 3 (-1)) (fun Z6 => (zlet (zf_59 Z6 a0b a1) (fun v7 => (if v7 ≠ 0 then (zlet (zzi Z6 n9) (fun Z9 => (zlet (n9 + 1) (fun n11 => (zlet3 (zf_1056 Z9 n11 a0b v7 n9) (fun Z12 n15 v13 => (zlet (zu Z12 50 a0b a1 6 v13) (fun Z16 => (zlet (zu Z16 50 a0b a1 2 1) (fun Z17 => (zlet (zu Z17 50 a0b a1 7 (Z17 11 a0b 0 13)) (fun Z20 => (zlet (zu Z20 50 a0b a1 8 ((Z20 11 a0b 0 13) + (Z20 50 a0b a1 6))) (fun Z25 => (zlet (zu Z25 50 a0b a1 11 (w3 ((Z25 50 a0b a1 11) + 1))) (fun Z28 => (zlet4 (zl_45_1 a0b a1 n9 6 Z28 5 (Z28 11 a0b 0 13) 0) (fun Z34 y31 y32 y33 => (Z34, n15))))))))))))))))))) else (Z6, n9)))))) else (Z, n9)))
theorem sp_45 {s : zSM} {Z : qz_Z} {ν : qz_N} (hZ : zH s Z) (hs : s.1 = none) {n9 : Nat} (hn : ν.2.2.2.1 = n9) (a0b : Nat) {a1 : Int} (ga1 : 0 ≤ a1 ∧ a1 ≤ 3) (hM : s.2 + 0 ≤ 1000000000) : ∃ (Z1 : qz_Z) (ν1 : qz_N) (n1 : Nat), (Z1, (n1 : Int)) = zf_45 Z n9 a0b a1 ∧ (qf_45 [.inr (.inr (some (10, a0b, 0))), .inl (i3 a1)] (zm Z ν) = some (zm Z1 ν1, .inl none) ∧ zH s Z1 ∧ zL [50] [] n9 Z Z1 ∧ zU [a0b] Z Z1 ∧ ν1.2.2.2.1 = n1 ∧ zG 2 10 ν ν1) := by
  obtain ⟨P, hP⟩ := zx (zf_45 Z n9 a0b a1)
  refine zc_Vn (Q := fun Z1 ν1 n1 => zH s Z1 ∧ zL [50] [] n9 Z Z1 ∧ zU [a0b] Z Z1 ∧ ν1.2.2.2.1 = n1 ∧ zG 2 10 ν ν1) hP (fw_45 a0b (i3 a1) _ _ ?_)
  replace hP : zE P (zf_45 Z n9 a0b a1) := hP
  unfold zf_45 at hP
  refine wz_i0 (i3O (n := 4) (rfl : i3 a1 = i3 a1) (by omega) (by omega) (by omega)) ?_
  have r1 := zH_k hZ 50 a0b a1 2 (lo := 0) (hi := 1) (by decide) rfl
  refine wz_br (i3E (zm_rd (Z := Z) (ν := ν) (k := 50) (rfl : ((a0b : Nat) : Int) = a0b) (i3I (y := a1) (rfl : i3 a1 = i3 a1) (by omega) (by omega) (by omega)) (show ((2 : Nat) : Int) = 2 from rfl)) (show (1 : Int32) = i3 1 from rfl) (by omega) (by omega) (by omega) (by omega)) (fun h2 => ?_) (fun h2 => ?_)
  · replace hP := zE_p hP h2
    exact zlVn hP ⟨hZ, zL_r, zU_r, hn, zG_w zG_r (Nat.le_of_ble_eq_true rfl) (Nat.le_of_ble_eq_true rfl)⟩
  · replace hP := zE_n hP h2
    have r3 := zH_k hZ 50 a0b a1 3 (lo := -1) (hi := 671) (by decide) rfl
    have r4 := zH_k hZ 11 a0b 0 13 (lo := 0) (hi := 671) (by decide) rfl
    refine wz_br (i3E (zm_rd (Z := Z) (ν := ν) (k := 50) (rfl : ((a0b : Nat) : Int) = a0b) (i3I (y := a1) (rfl : i3 a1 = i3 a1) (by omega) (by omega) (by omega)) (show ((3 : Nat) : Int) = 3 from rfl)) (zm_rd (Z := Z) (ν := ν) (k := 11) (rfl : ((a0b : Nat) : Int) = a0b) (show ((0 : Nat) : Int) = 0 from rfl) (show ((13 : Nat) : Int) = 13 from rfl)) (by omega) (by omega) (by omega) (by omega)) (fun h5 => ?_) (fun h5 => ?_)
    · replace hP := zE_p hP h5
      obtain ⟨Z6, hZ6⟩ := zx (zu Z 50 a0b a1 3 (-1))
      replace hP := zl_e hP hZ6
      have hZ6I := zH_u hZ hZ6 (lo := -1) (hi := 671) (by decide) rfl (by omega) ⟨by decide, by decide⟩ (Or.inl (by decide)) rfl
      have hZ6U : zU [a0b] Z Z6 := zU_u zU_r hZ6 (Or.inr (List.Mem.head _))
      have hZ6K : zL [50] [] n9 Z Z6 := zL_u zL_r hZ6 (by decide)
      intro μ9 e9
      replace e9 := e9.trans (zm_wI (Z := Z) (ν := ν) hZ6 (rfl : ((a0b : Nat) : Int) = a0b) (i3I (y := a1) (rfl : i3 a1 = i3 a1) (by omega) (by omega) (by omega)) (show ((3 : Nat) : Int) = 3 from rfl) (show (-1 : Int32) = i3 (-1) from rfl))
      subst e9
      obtain ⟨v7, hv7, c9, lv7, uv7⟩ := sp_59 (ν := ν) hZ6I a0b (a1 := a1) (by omega) (zbh (c := 0) (k := 0) hM (Nat.le_of_ble_eq_true rfl))
      replace hP := zl_e hP hv7
      refine wz_cI_of (zas (zcons rfl (zcons (zvi (rfl : i3 a1 = i3 a1)) rfl)) c9) ?_
      clear c9
      refine wz_br (i3NE (rfl : i3 v7 = i3 v7) (show (0 : Int32) = i3 0 from rfl) (by omega) (by omega) (by omega) (by omega)) (fun h8 => ?_) (fun h8 => ?_)
      · replace hP := zE_p hP h8
        obtain ⟨Z9, hZ9⟩ := zx (zzr Z6 n9)
        obtain ⟨ν10, hν10⟩ := zx (nal ν 50 1 5 1 5)
        obtain ⟨n11, hn11⟩ : ∃ m : Nat, m = n9 + 1 := ⟨_, rfl⟩
        replace hP := zl_e hP (hZ9.trans zzi_e)
        replace hP := zl_e hP (show ((n11 : Nat) : Int) = ((n9 : Nat) : Int) + 1 from by omega)
        intro μ9 e9
        replace e9 := zal_e e9 hn hZ9 hν10
        subst e9
        rw [show qz_na (zm Z6 ν) = n9 from hn]
        have hZ9I := zH_z hZ6I hZ9 hs
        have hZ9K : zL [50] [] n9 Z Z9 := zL_z2 hZ6K (by omega) hZ9
        have hZ9U : zU [a0b] Z Z9 := zU_z hZ6U hZ9
        have hnν10 := (nal_na hn hν10).trans hn11.symm
        have hGν10 := zG_al' zG_r hν10
        have hSν10 := zSh_new hn hν10
        have gAν10 := zA_new (lo := -1) (hi := 4) hZ9 ⟨by decide, by decide⟩
        obtain ⟨Z12, ν14, n15, v13, hv13, c9, hZ12I, kZ12, jZ12, hnν14, gν14, lv13, uv13, aZ12_a2b⟩ := sp_1056 (ν := ν10) hZ9I hs hnν10 a0b (a1 := v7) (by omega) n9 hSν10 gAν10 (zbh (c := 0) (k := 0) hM (Nat.le_of_ble_eq_true rfl))
        have hZ12U : zU [a0b] Z Z12 := zU_t hZ9U jZ12 zU_b0
        have hZ12K : zL [50] [] n9 Z Z12 := zL_t hZ9K kZ12 (by decide) (zL_b1 (Or.inr (by omega)) zL_b0) (by omega)
        replace hP := zl_e3 hP hv13
        refine wz_cI_of (zas (zcons rfl (zcons (zvi (rfl : i3 v7 = i3 v7)) (zcons rfl rfl))) c9) ?_
        clear c9 hv13
        have hGν14 := zG_t hGν10 gν14
        obtain ⟨Z16, hZ16⟩ := zx (zu Z12 50 a0b a1 6 v13)
        replace hP := zl_e hP hZ16
        have hZ16I := zH_u hZ12I hZ16 (lo := -2147483648) (hi := 2147483647) (by decide) rfl (by omega) ⟨by decide, by decide⟩ (Or.inl (by decide)) rfl
        have hZ16U : zU [a0b] Z Z16 := zU_u hZ12U hZ16 (Or.inr (List.Mem.head _))
        have hZ16K : zL [50] [] n9 Z Z16 := zL_u hZ12K hZ16 (by decide)
        intro μ9 e9
        replace e9 := e9.trans (zm_wI (Z := Z12) (ν := ν14) hZ16 (rfl : ((a0b : Nat) : Int) = a0b) (i3I (y := a1) (rfl : i3 a1 = i3 a1) (by omega) (by omega) (by omega)) (show ((6 : Nat) : Int) = 6 from rfl) (rfl : i3 v13 = i3 v13))
        subst e9
        obtain ⟨Z17, hZ17⟩ := zx (zu Z16 50 a0b a1 2 1)
        replace hP := zl_e hP hZ17
        have hZ17I := zH_u hZ16I hZ17 (lo := 0) (hi := 1) (by decide) rfl (by omega) ⟨by decide, by decide⟩ (Or.inl (by decide)) rfl
        have hZ17U : zU [a0b] Z Z17 := zU_u hZ16U hZ17 (Or.inr (List.Mem.head _))
        have hZ17K : zL [50] [] n9 Z Z17 := zL_u hZ16K hZ17 (by decide)
        intro μ9 e9
        replace e9 := e9.trans (zm_wI (Z := Z16) (ν := ν14) hZ17 (rfl : ((a0b : Nat) : Int) = a0b) (i3I (y := a1) (rfl : i3 a1 = i3 a1) (by omega) (by omega) (by omega)) (show ((2 : Nat) : Int) = 2 from rfl) (show (1 : Int32) = i3 1 from rfl))
        subst e9
        have r18 := zH_k hZ17I 11 a0b 0 13 (lo := 0) (hi := 671) (by decide) rfl
        have q19 := (zu_ne (k' := 11) (b' := a0b) (i' := 0) (j' := 13) hZ17 (fun q => absurd q.1 (by decide))).trans ((zu_ne (k' := 11) (b' := a0b) (i' := 0) (j' := 13) hZ16 (fun q => absurd q.1 (by decide))).trans ((zL_e kZ12 11 a0b 0 13 (by decide) (by decide)).trans ((zz_o hZ9 (k := 11) (b := a0b) (i := 0) (j := 13) (by decide)).trans (zu_ne (k' := 11) (b' := a0b) (i' := 0) (j' := 13) hZ6 (fun q => absurd q.1 (by decide))))))
        obtain ⟨Z20, hZ20⟩ := zx (zu Z17 50 a0b a1 7 (Z17 11 a0b 0 13))
        replace hP := zl_e hP hZ20
        have hZ20I := zH_u hZ17I hZ20 (lo := -1) (hi := 671) (by decide) rfl (by omega) ⟨by decide, by decide⟩ (Or.inl (by decide)) rfl
        have hZ20U : zU [a0b] Z Z20 := zU_u hZ17U hZ20 (Or.inr (List.Mem.head _))
        have hZ20K : zL [50] [] n9 Z Z20 := zL_u hZ17K hZ20 (by decide)
        intro μ9 e9
        replace e9 := e9.trans (zm_wI (Z := Z17) (ν := ν14) hZ20 (rfl : ((a0b : Nat) : Int) = a0b) (i3I (y := a1) (rfl : i3 a1 = i3 a1) (by omega) (by omega) (by omega)) (show ((7 : Nat) : Int) = 7 from rfl) (zm_rd (Z := Z17) (ν := ν14) (k := 11) (rfl : ((a0b : Nat) : Int) = a0b) (show ((0 : Nat) : Int) = 0 from rfl) (show ((13 : Nat) : Int) = 13 from rfl)))
        subst e9
        have r21 := zH_k hZ20I 11 a0b 0 13 (lo := 0) (hi := 671) (by decide) rfl
        have q22 := zu_ne (k' := 11) (b' := a0b) (i' := 0) (j' := 13) hZ20 (fun q => absurd q.1 (by decide))
        have r23 := zH_f hZ20I 50 a0b a1 6
        have q24 := (zu_ne (k' := 50) (b' := a0b) (i' := a1) (j' := 6) hZ20 (fun q => absurd q.2.2.2 (by decide))).trans ((zu_ne (k' := 50) (b' := a0b) (i' := a1) (j' := 6) hZ17 (fun q => absurd q.2.2.2 (by decide))).trans (zu_at hZ16))
        obtain ⟨Z25, hZ25⟩ := zx (zu Z20 50 a0b a1 8 ((Z20 11 a0b 0 13) + (Z20 50 a0b a1 6)))
        replace hP := zl_e hP hZ25
        have hZ25I := zH_u hZ20I hZ25 (lo := -1) (hi := 743) (by decide) rfl (by omega) ⟨by decide, by decide⟩ (Or.inl (by decide)) rfl
        have hZ25U : zU [a0b] Z Z25 := zU_u hZ20U hZ25 (Or.inr (List.Mem.head _))
        have hZ25K : zL [50] [] n9 Z Z25 := zL_u hZ20K hZ25 (by decide)
        intro μ9 e9
        replace e9 := e9.trans (zm_wI (Z := Z20) (ν := ν14) hZ25 (rfl : ((a0b : Nat) : Int) = a0b) (i3I (y := a1) (rfl : i3 a1 = i3 a1) (by omega) (by omega) (by omega)) (show ((8 : Nat) : Int) = 8 from rfl) (i3A (zm_rd (Z := Z20) (ν := ν14) (k := 11) (rfl : ((a0b : Nat) : Int) = a0b) (show ((0 : Nat) : Int) = 0 from rfl) (show ((13 : Nat) : Int) = 13 from rfl)) (zm_rd (Z := Z20) (ν := ν14) (k := 50) (rfl : ((a0b : Nat) : Int) = a0b) (i3I (y := a1) (rfl : i3 a1 = i3 a1) (by omega) (by omega) (by omega)) (show ((6 : Nat) : Int) = 6 from rfl))))
        subst e9
        have r26 := zH_f hZ25I 50 a0b a1 11
        have r27 := w3_r ((Z25 50 a0b a1 11) + 1)
        obtain ⟨Z28, hZ28⟩ := zx (zu Z25 50 a0b a1 11 (w3 ((Z25 50 a0b a1 11) + 1)))
        replace hP := zl_e hP hZ28
        have hZ28I := zH_u hZ25I hZ28 (lo := -2147483648) (hi := 2147483647) (by decide) rfl (by omega) ⟨by decide, by decide⟩ (Or.inl (by decide)) rfl
        have hZ28U : zU [a0b] Z Z28 := zU_u hZ25U hZ28 (Or.inr (List.Mem.head _))
        have hZ28K : zL [50] [] n9 Z Z28 := zL_u hZ25K hZ28 (by decide)
        intro μ9 e9
        replace e9 := e9.trans (zm_wI (Z := Z25) (ν := ν14) hZ28 (rfl : ((a0b : Nat) : Int) = a0b) (i3I (y := a1) (rfl : i3 a1 = i3 a1) (by omega) (by omega) (by omega)) (show ((11 : Nat) : Int) = 11 from rfl) (i3W (i3A (zm_rd (Z := Z25) (ν := ν14) (k := 50) (rfl : ((a0b : Nat) : Int) = a0b) (i3I (y := a1) (rfl : i3 a1 = i3 a1) (by omega) (by omega) (by omega)) (show ((11 : Nat) : Int) = 11 from rfl)) (show (1 : Int32) = i3 1 from rfl))))
        subst e9
        have r29 := zH_k hZ28I 11 a0b 0 13 (lo := 0) (hi := 671) (by decide) rfl
        have q30 := (zu_ne (k' := 11) (b' := a0b) (i' := 0) (j' := 13) hZ28 (fun q => absurd q.1 (by decide))).trans (zu_ne (k' := 11) (b' := a0b) (i' := 0) (j' := 13) hZ25 (fun q => absurd q.1 (by decide)))
        refine sl_45_1 (ν := ν14) hZ28I (zbh (c := 0) (k := 0) hM (Nat.le_of_ble_eq_true rfl)) zC_r a0b _ (i3I (y := a1) (rfl : i3 a1 = i3 a1) (by omega) (by omega) (by omega)) (by omega) n9 (zSh_G hSν10 gν14) (zA_o (zA_o (zA_o (zA_o (zA_o aZ12_a2b hZ16 (fun q => absurd q.1 (by decide))) hZ17 (fun q => absurd q.1 (by decide))) hZ20 (fun q => absurd q.1 (by decide))) hZ25 (fun q => absurd q.1 (by decide))) hZ28 (fun q => absurd q.1 (by decide))) (x5 := 5) (by omega) (x6 := (Z28 11 a0b 0 13)) (by omega) (x7 := 0) (by omega) zU_r (by omega) (zconso rfl (zconso rfl (zconso rfl (zconso rfl (zconso rfl (zconso (zvo (show (5 : Int32) = i3 5 from rfl)) (zconso (zvo (zm_rd (Z := Z28) (ν := ν14) (k := 11) (rfl : ((a0b : Nat) : Int) = a0b) (show ((0 : Nat) : Int) = 0 from rfl) (show ((13 : Nat) : Int) = 13 from rfl))) (zconso (zvo (show (0 : Int32) = i3 0 from rfl)) (zconso rfl rfl))))))))) rfl ?_
        intro L35 Z34 y31 y32 y33 hL35 hZ34I kZ34 jZ34 aZ34_x4 gy31 gy32 gy33 gL35_0 q9
        replace hP := zl_e4 hP (Eq.symm q9)
        clear q9
        have hZ34U : zU [a0b] Z Z34 := zU_t hZ28U jZ34 (zU_b1 (List.Mem.head _) zU_b0)
        have hZ34K : zL [50] [] n9 Z Z34 := zL_c hZ28K kZ34 (by decide)
        refine fc_45_2  _ _ _ _ hL35 ?_
        exact zlVn hP ⟨hZ34I, hZ34K, hZ34U, hnν14, zG_w hGν14 (Nat.le_of_ble_eq_true rfl) (Nat.le_of_ble_eq_true rfl)⟩
      · replace hP := zE_n hP h8
        exact zlVn hP ⟨hZ6I, hZ6K, hZ6U, hn, zG_w zG_r (Nat.le_of_ble_eq_true rfl) (Nat.le_of_ble_eq_true rfl)⟩
    · replace hP := zE_n hP h5
      exact zlVn hP ⟨hZ, zL_r, zU_r, hn, zG_w zG_r (Nat.le_of_ble_eq_true rfl) (Nat.le_of_ble_eq_true rfl)⟩
/- yX7_kindOf -/
def zf_135 (Z : qz_Z) (a0b : Int) (a1b : Int) (a1ij : Int) (a2b : Int) (a2ij : Int) : Int := (zlet (zf_100 Z a0b a2b a2ij) (fun v1 => (if v1 ≠ 3 then (if (Z 44 a2b a2ij 8) < 24 then (if (Z 51 a1b a1ij 1) < 1 then (-1) else (if (Z 44 a2b a2ij 9) = (-1) then (-1) else (if v1 ≤ (Z 44 a2b a2ij 9) then (-1) else 2))) else (if (Z 44 a2b a2ij 9) < 0 then (if (Z 51 a1b a1ij 1) < 1 then (-1) else (-1)) else (if 2 < (Z 44 a2b a2ij 9) then (if (Z 51 a1b a1ij 1) < 1 then (-1) else (-1)) else 1))) else 0)))
theorem sp_135 {s : zSM} {Z : qz_Z} {ν : qz_N} (hZ : zH s Z) (a0b : Nat) (a1b : Nat) (a1i : Nat) {a1ij : Int} (ea1i : (a1i : Int) = a1ij) (ga1i : 0 ≤ a1ij ∧ a1ij ≤ 1) (a2b : Nat) (a2i : Nat) {a2ij : Int} (ea2i : (a2i : Int) = a2ij) (ga2i : 0 ≤ a2ij ∧ a2ij ≤ 47) (hM : s.2 + 0 ≤ 1000000000) : ∃ P : Int, P = zf_135 Z a0b a1b a1ij a2b a2ij ∧ (qf_135 [.inr (.inr (some (10, a0b, 0))), .inr (.inr (some (51, a1b, a1i))), .inr (.inr (some (44, a2b, a2i)))] (zm Z ν) = some (zm Z ν, .inl (some (.inl (i3 P)))) ∧ -1 ≤ P ∧ P ≤ 2) := by
  obtain ⟨P, hP⟩ := zx (zf_135 Z a0b a1b a1ij a2b a2ij)
  refine zc_R (Q := fun P => -1 ≤ P ∧ P ≤ 2) hP (fw_135 a0b a1b a1i a2b a2i _ _ ?_)
  replace hP : zE P (zf_135 Z a0b a1b a1ij a2b a2ij) := hP
  unfold zf_135 at hP
  obtain ⟨v1, hv1, c9, lv1, uv1⟩ := sp_100 (ν := ν) hZ a0b a2b _ ea2i (by omega) (zbh (c := 0) (k := 0) hM (Nat.le_of_ble_eq_true rfl))
  replace hP := zl_e hP hv1
  refine wz_cI_of (zas (zcons rfl (zcons rfl rfl)) c9) ?_
  clear c9
  refine wz_br (i3NE (rfl : i3 v1 = i3 v1) (show (3 : Int32) = i3 3 from rfl) (by omega) (by omega) (by omega) (by omega)) (fun h2 => ?_) (fun h2 => ?_)
  · replace hP := zE_p hP h2
    have r3 := zH_k hZ 44 a2b a2ij 8 (lo := 0) (hi := 999) (by decide) rfl
    refine wz_br (i3L (zm_rd (Z := Z) (ν := ν) (k := 44) (rfl : ((a2b : Nat) : Int) = a2b) ea2i (show ((8 : Nat) : Int) = 8 from rfl)) (show (24 : Int32) = i3 24 from rfl) (by omega) (by omega) (by omega) (by omega)) (fun h4 => ?_) (fun h4 => ?_)
    · replace hP := zE_p hP h4
      have r5 := zH_k hZ 51 a1b a1ij 1 (lo := 0) (hi := 3) (by decide) rfl
      refine wz_br (i3L (zm_rd (Z := Z) (ν := ν) (k := 51) (rfl : ((a1b : Nat) : Int) = a1b) ea1i (show ((1 : Nat) : Int) = 1 from rfl)) (show (1 : Int32) = i3 1 from rfl) (by omega) (by omega) (by omega) (by omega)) (fun h6 => ?_) (fun h6 => ?_)
      · replace hP := zE_p hP h6
        exact zlR hP (show (-1 : Int32) = i3 (-1) from rfl) ⟨by omega, by omega⟩
      · replace hP := zE_n hP h6
        have r7 := zH_k hZ 44 a2b a2ij 9 (lo := -1) (hi := 3) (by decide) rfl
        refine wz_br (i3E (zm_rd (Z := Z) (ν := ν) (k := 44) (rfl : ((a2b : Nat) : Int) = a2b) ea2i (show ((9 : Nat) : Int) = 9 from rfl)) (show (-1 : Int32) = i3 (-1) from rfl) (by omega) (by omega) (by omega) (by omega)) (fun h8 => ?_) (fun h8 => ?_)
        · replace hP := zE_p hP h8
          exact zlR hP (show (-1 : Int32) = i3 (-1) from rfl) ⟨by omega, by omega⟩
        · replace hP := zE_n hP h8
          refine wz_br (i3Le (rfl : i3 v1 = i3 v1) (zm_rd (Z := Z) (ν := ν) (k := 44) (rfl : ((a2b : Nat) : Int) = a2b) ea2i (show ((9 : Nat) : Int) = 9 from rfl)) (by omega) (by omega) (by omega) (by omega)) (fun h9 => ?_) (fun h9 => ?_)
          · replace hP := zE_p hP h9
            exact zlR hP (show (-1 : Int32) = i3 (-1) from rfl) ⟨by omega, by omega⟩
          · replace hP := zE_n hP h9
            exact zlR hP (show (2 : Int32) = i3 2 from rfl) ⟨by omega, by omega⟩
    · replace hP := zE_n hP h4
      have r10 := zH_k hZ 44 a2b a2ij 9 (lo := -1) (hi := 3) (by decide) rfl
      refine wz_br (i3L (zm_rd (Z := Z) (ν := ν) (k := 44) (rfl : ((a2b : Nat) : Int) = a2b) ea2i (show ((9 : Nat) : Int) = 9 from rfl)) (show (0 : Int32) = i3 0 from rfl) (by omega) (by omega) (by omega) (by omega)) (fun h11 => ?_) (fun h11 => ?_)
      · replace hP := zE_p hP h11
        have r12 := zH_k hZ 51 a1b a1ij 1 (lo := 0) (hi := 3) (by decide) rfl
        refine wz_br (i3L (zm_rd (Z := Z) (ν := ν) (k := 51) (rfl : ((a1b : Nat) : Int) = a1b) ea1i (show ((1 : Nat) : Int) = 1 from rfl)) (show (1 : Int32) = i3 1 from rfl) (by omega) (by omega) (by omega) (by omega)) (fun h13 => ?_) (fun h13 => ?_)
        · replace hP := zE_p hP h13
          exact zlR hP (show (-1 : Int32) = i3 (-1) from rfl) ⟨by omega, by omega⟩
        · replace hP := zE_n hP h13
          refine wz_i1 (Eq.trans (i3E (zm_rd (Z := Z) (ν := ν) (k := 44) (rfl : ((a2b : Nat) : Int) = a2b) ea2i (show ((9 : Nat) : Int) = 9 from rfl)) (show (-1 : Int32) = i3 (-1) from rfl) (by omega) (by omega) (by omega) (by omega)) (decide_eq_true (by omega))) ?_
          exact zlR hP (show (-1 : Int32) = i3 (-1) from rfl) ⟨by omega, by omega⟩
      · replace hP := zE_n hP h11
        refine wz_br (i3L (show (2 : Int32) = i3 2 from rfl) (zm_rd (Z := Z) (ν := ν) (k := 44) (rfl : ((a2b : Nat) : Int) = a2b) ea2i (show ((9 : Nat) : Int) = 9 from rfl)) (by omega) (by omega) (by omega) (by omega)) (fun h14 => ?_) (fun h14 => ?_)
        · replace hP := zE_p hP h14
          have r15 := zH_k hZ 51 a1b a1ij 1 (lo := 0) (hi := 3) (by decide) rfl
          refine wz_br (i3L (zm_rd (Z := Z) (ν := ν) (k := 51) (rfl : ((a1b : Nat) : Int) = a1b) ea1i (show ((1 : Nat) : Int) = 1 from rfl)) (show (1 : Int32) = i3 1 from rfl) (by omega) (by omega) (by omega) (by omega)) (fun h16 => ?_) (fun h16 => ?_)
          · replace hP := zE_p hP h16
            exact zlR hP (show (-1 : Int32) = i3 (-1) from rfl) ⟨by omega, by omega⟩
          · replace hP := zE_n hP h16
            refine wz_i0 (Eq.trans (i3E (zm_rd (Z := Z) (ν := ν) (k := 44) (rfl : ((a2b : Nat) : Int) = a2b) ea2i (show ((9 : Nat) : Int) = 9 from rfl)) (show (-1 : Int32) = i3 (-1) from rfl) (by omega) (by omega) (by omega) (by omega)) (decide_eq_false (by omega))) ?_
            refine wz_i1 (Eq.trans (i3Le (rfl : i3 v1 = i3 v1) (zm_rd (Z := Z) (ν := ν) (k := 44) (rfl : ((a2b : Nat) : Int) = a2b) ea2i (show ((9 : Nat) : Int) = 9 from rfl)) (by omega) (by omega) (by omega) (by omega)) (decide_eq_true (by omega))) ?_
            exact zlR hP (show (-1 : Int32) = i3 (-1) from rfl) ⟨by omega, by omega⟩
        · replace hP := zE_n hP h14
          exact zlR hP (show (1 : Int32) = i3 1 from rfl) ⟨by omega, by omega⟩
  · replace hP := zE_n hP h2
    exact zlR hP (show (0 : Int32) = i3 0 from rfl) ⟨by omega, by omega⟩
/- yX7_look -/
def zl_136_1 (x0b : Int) (x3ij : Int) (x1 : Int) (x2 : Int) (x4 : Int) : Nat → qz_Z → Int → Int → qz_Z × Int × Int
  | 0, Z, x5, x6 => (Z, x5, x6)
  | m + 1, Z, x5, x6 => (if (Z 11 x0b 0 3) ≤ x6 then (Z, x5, x6) else (if (Z 44 x0b x6 12) ≠ x4 then zl_136_1 x0b x3ij x1 x2 x4 m Z x5 (x6 + 1) else (zlet (zf_135 Z x0b x0b x3ij x0b x6) (fun v5 => (if v5 = (-1) then zl_136_1 x0b x3ij x1 x2 x4 m Z x5 (x6 + 1) else (zlet (zu Z 52 x0b ((Z 11 x0b 0 11) % 24) 0 x1) (fun Z8 => (zlet (zu Z8 52 x0b ((Z 11 x0b 0 11) % 24) 1 (Z8 11 x0b 0 13)) (fun Z10 => (zlet (zu Z10 52 x0b ((Z 11 x0b 0 11) % 24) 2 x6) (fun Z11 => (zlet (zu Z11 52 x0b ((Z 11 x0b 0 11) % 24) 3 v5) (fun Z12 => (zlet (zu Z12 52 x0b ((Z 11 x0b 0 11) % 24) 4 x2) (fun Z13 => (zlet (zu Z13 52 x0b ((Z 11 x0b 0 11) % 24) 5 (Z13 44 x0b x6 9)) (fun Z15 => (zlet (zu Z15 11 x0b 0 11 ((Z15 11 x0b 0 11) + 1)) (fun Z18 => (if v5 ≠ 0 then (if v5 ≠ 1 then (zlet (zf_100 Z18 x0b x0b x6) (fun v21 => (zlet (zu Z18 44 x0b x6 9 v21) (fun Z22 => (if (Z22 13 x0b 0 3) ≠ 0 then (zlet (zu Z22 14 x0b 0 0 (w3 ((Z22 14 x0b 0 0) - (Z22 13 x0b 0 3)))) (fun Z27 => (zlet (zu Z27 14 x0b 0 7 (w3 ((Z27 14 x0b 0 7) + (Z22 13 x0b 0 3)))) (fun Z30 => (zlet (zu Z30 53 x0b ((Z30 11 x0b 0 12) % 60) 0 0) (fun Z32 => (zlet (zu Z32 53 x0b ((Z30 11 x0b 0 12) % 60) 1 7) (fun Z33 => (zlet (zu Z33 53 x0b ((Z30 11 x0b 0 12) % 60) 2 (Z22 13 x0b 0 3)) (fun Z34 => (zlet (zu Z34 53 x0b ((Z30 11 x0b 0 12) % 60) 3 x6) (fun Z35 => (zlet (zu Z35 53 x0b ((Z30 11 x0b 0 12) % 60) 4 (Z35 11 x0b 0 13)) (fun Z38 => (zlet (zu Z38 11 x0b 0 12 ((Z38 11 x0b 0 12) + 1)) (fun Z41 => zl_136_1 x0b x3ij x1 x2 x4 m Z41 (x5 + 1) (x6 + 1))))))))))))))))) else zl_136_1 x0b x3ij x1 x2 x4 m Z22 (x5 + 1) (x6 + 1)))))) else (zlet (zu Z18 44 x0b x6 9 3) (fun Z42 => (if (Z42 13 x0b 0 3) ≠ 0 then (zlet (zu Z42 14 x0b 0 0 (w3 ((Z42 14 x0b 0 0) - (Z42 13 x0b 0 3)))) (fun Z47 => (zlet (zu Z47 14 x0b 0 7 (w3 ((Z47 14 x0b 0 7) + (Z42 13 x0b 0 3)))) (fun Z50 => (zlet (zu Z50 53 x0b ((Z50 11 x0b 0 12) % 60) 0 0) (fun Z52 => (zlet (zu Z52 53 x0b ((Z50 11 x0b 0 12) % 60) 1 7) (fun Z53 => (zlet (zu Z53 53 x0b ((Z50 11 x0b 0 12) % 60) 2 (Z42 13 x0b 0 3)) (fun Z54 => (zlet (zu Z54 53 x0b ((Z50 11 x0b 0 12) % 60) 3 x6) (fun Z55 => (zlet (zu Z55 53 x0b ((Z50 11 x0b 0 12) % 60) 4 (Z55 11 x0b 0 13)) (fun Z58 => (zlet (zu Z58 11 x0b 0 12 ((Z58 11 x0b 0 12) + 1)) (fun Z61 => zl_136_1 x0b x3ij x1 x2 x4 m Z61 (x5 + 1) (x6 + 1))))))))))))))))) else zl_136_1 x0b x3ij x1 x2 x4 m Z42 (x5 + 1) (x6 + 1))))) else (zlet2 (zf_105 Z18 x0b x6 3) (fun Z62 v63 => (zlet (zu Z62 51 x0b x3ij 6 (w3 ((Z62 51 x0b x3ij 6) + 1))) (fun Z66 => (if (Z66 13 x0b 0 3) ≠ 0 then (zlet (zu Z66 14 x0b 0 0 (w3 ((Z66 14 x0b 0 0) - (Z66 13 x0b 0 3)))) (fun Z71 => (zlet (zu Z71 14 x0b 0 7 (w3 ((Z71 14 x0b 0 7) + (Z66 13 x0b 0 3)))) (fun Z74 => (zlet (zu Z74 53 x0b ((Z74 11 x0b 0 12) % 60) 0 0) (fun Z76 => (zlet (zu Z76 53 x0b ((Z74 11 x0b 0 12) % 60) 1 7) (fun Z77 => (zlet (zu Z77 53 x0b ((Z74 11 x0b 0 12) % 60) 2 (Z66 13 x0b 0 3)) (fun Z78 => (zlet (zu Z78 53 x0b ((Z74 11 x0b 0 12) % 60) 3 x6) (fun Z79 => (zlet (zu Z79 53 x0b ((Z74 11 x0b 0 12) % 60) 4 (Z79 11 x0b 0 13)) (fun Z82 => (zlet (zu Z82 11 x0b 0 12 ((Z82 11 x0b 0 12) + 1)) (fun Z85 => zl_136_1 x0b x3ij x1 x2 x4 m Z85 (x5 + 1) (x6 + 1))))))))))))))))) else zl_136_1 x0b x3ij x1 x2 x4 m Z66 (x5 + 1) (x6 + 1))))))))))))))))))))))))))
theorem sl_136_1 {s : zSM} {xM9 : Nat} {Zs Z : qz_Z} {ν : qz_N} (hZ : zH (zb s xM9) Z) (hM : s.2 + 3185 ≤ 1000000000) (hK : zC [14, 43, 44, 45, 46, 47, 48, 49, 51, 52, 53, 1111, 1112] Zs Z) (x0b : Nat) (x3i : Nat) {x3ij : Int} (ex3i : (x3i : Int) = x3ij) (gx3ij : 0 ≤ x3ij ∧ x3ij ≤ 1) {x1 : Int} (gx1 : 0 ≤ x1 ∧ x1 ≤ 1) {x2 : Int} (gx2 : 1 ≤ x2 ∧ x2 ≤ 7) {x4 : Int} (gx4 : 0 ≤ x4 ∧ x4 ≤ 6) {x5 : Int} (gx5 : 0 ≤ x5 ∧ x5 ≤ 48) {x6 : Int} (gx6 : 0 ≤ x6 ∧ x6 ≤ 48) (hU : zU [x0b] Zs Z) (hx9 : xM9 + 65 * ((48 - x6).toNat) + 65 ≤ 3185) (gr0 : x5 ≤ x6) {k : wz_K} {R : wz_R} {L : qz_L} (hL : qz_fg [true, true, true, true, true, true, true, false, false] L = [some (.inr (.inr (some (10, x0b, 0)))), some (.inl (i3 x1)), some (.inl (i3 x2)), some (.inr (.inr (some (51, x0b, x3i)))), some (.inl (i3 x4)), some (.inl (i3 x5)), some (.inl (i3 x6)), none, none]) {T : qz_Z × Int × Int} (hP : zE T (zl_136_1 x0b x3ij x1 x2 x4 ((48 - x6).toNat + 1) Z x5 x6)) (hk : ∀ (L9 : qz_L) (Z9 : qz_Z) (yx5 yx6 : Int), qz_fg [true, false, false, true, true, true, false, false, false] L9 = [some (.inr (.inr (some (10, x0b, 0)))), none, none, some (.inr (.inr (some (51, x0b, x3i)))), some (.inl (i3 x4)), some (.inl (i3 yx5)), none, none, none] → zH (zb s 3185) Z9 → zC [14, 43, 44, 45, 46, 47, 48, 49, 51, 52, 53, 1111, 1112] Zs Z9 → zU [x0b] Zs Z9 → (0 ≤ yx5 ∧ yx5 ≤ 48) → (0 ≤ yx6 ∧ yx6 ≤ 48) → (yx5 ≤ yx6) → zE T ((Z9, yx5, yx6)) → k 0 (L9, [], zm Z9 ν)) : wz_loop qb_136_1 65536 k R (L, [], zm Z ν) := by
  refine wz_lp sb_136_1 (fun m x => ∃ xM9 : Nat, ∃ Z : qz_Z, ∃ x5 : Int, ∃ x6 : Int, qz_fg [true, true, true, true, true, true, true, false, false] x.1 = [some (.inr (.inr (some (10, x0b, 0)))), some (.inl (i3 x1)), some (.inl (i3 x2)), some (.inr (.inr (some (51, x0b, x3i)))), some (.inl (i3 x4)), some (.inl (i3 x5)), some (.inl (i3 x6)), none, none] ∧ x.2 = ([], zm Z ν) ∧ xM9 + 65 * m + 65 ≤ 3185 ∧ zH (zb s xM9) Z ∧ zC [14, 43, 44, 45, 46, 47, 48, 49, 51, 52, 53, 1111, 1112] Zs Z ∧ zU [x0b] Zs Z ∧ m = (48 - x6).toNat ∧ (0 ≤ x5 ∧ x5 ≤ 48) ∧ (0 ≤ x6 ∧ x6 ≤ 48) ∧ (x5 ≤ x6) ∧ zE T (zl_136_1 x0b x3ij x1 x2 x4 (m + 1) Z x5 x6)) ?_ 65536 ((48 - x6).toNat) _ (by omega) ⟨xM9, Z, x5, x6, hL, rfl, hx9, hZ, hK, hU, rfl, gx5, gx6, gr0, hP⟩
  clear hP gr0 gx5 gx6 hx9 hZ hK hU hL
  clear x5 x6
  clear Z
  clear xM9
  rintro m ⟨L, st, μ⟩ ⟨xM9, Z, x5, x6, hL, hx, hx9, hZ, hK, hU, hm, gx5, gx6, gr0, hP⟩
  cases hx
  have hM9 : (zb s xM9).2 + 65 ≤ 1000000000 := by
    show s.2 + xM9 + 65 ≤ 1000000000
    omega
  refine fb_136_1 x0b (i3 x1) (i3 x2) x3i (i3 x4) (i3 x5) (i3 x6) _ _ _ _ hL ?_
  have r1 := zH_k hZ 11 x0b 0 3 (lo := 0) (hi := 48) (by decide) rfl
  refine wz_br (i3Le (zm_rd (Z := Z) (ν := ν) (k := 11) (rfl : ((x0b : Nat) : Int) = x0b) (show ((0 : Nat) : Int) = 0 from rfl) (show ((3 : Nat) : Int) = 3 from rfl)) (rfl : i3 x6 = i3 x6) (by omega) (by omega) (by omega) (by omega)) (fun h2 => ?_) (fun h2 => ?_)
  · replace hP := zE_p hP h2
    exact hk _ _ _ _ (zconso rfl (zconso rfl (zconso rfl (zconso rfl (zconso (zvo (rfl : i3 x4 = i3 x4)) (zconso (zvo (rfl : i3 x5 = i3 x5)) (zconso rfl (zconso rfl (zconso rfl rfl))))))))) (zbx0 hZ (by omega)) hK hU (by omega) (by omega) (by omega) hP
  · replace hP := zE_n hP h2
    refine wz_i0 (i3O (n := 48) (rfl : i3 x6 = i3 x6) (by omega) (by omega) (by omega)) ?_
    have r3 := zH_k hZ 44 x0b x6 12 (lo := -1) (hi := 6) (by decide) rfl
    refine wz_br (i3NE (zm_rd (Z := Z) (ν := ν) (k := 44) (rfl : ((x0b : Nat) : Int) = x0b) (i3I (y := x6) (rfl : i3 x6 = i3 x6) (by omega) (by omega) (by omega)) (show ((12 : Nat) : Int) = 12 from rfl)) (rfl : i3 x4 = i3 x4) (by omega) (by omega) (by omega) (by omega)) (fun h4 => ?_) (fun h4 => ?_)
    · replace hP := zE_p hP h4
      obtain ⟨m2, rfl⟩ : ∃ m2, m = m2 + 1 := ⟨m - 1, by omega⟩
      exact wz_k1 ⟨m2, by omega, xM9, Z, x5, (x6 + 1), (zconso rfl (zconso (zvo (rfl : i3 x1 = i3 x1)) (zconso (zvo (rfl : i3 x2 = i3 x2)) (zconso rfl (zconso (zvo (rfl : i3 x4 = i3 x4)) (zconso (zvo (rfl : i3 x5 = i3 x5)) (zconso (zvo (i3A (rfl : i3 x6 = i3 x6) (show (1 : Int32) = i3 1 from rfl))) (zconso rfl (zconso rfl rfl))))))))), rfl, by omega, hZ, hK, hU, by omega, by omega, by omega, by omega,  hP⟩
    · replace hP := zE_n hP h4
      obtain ⟨v5, hv5, c9, lv5, uv5⟩ := sp_135 (ν := ν) hZ x0b x0b _ ex3i (by omega) x0b _ (i3I (y := x6) (rfl : i3 x6 = i3 x6) (by omega) (by omega) (by omega)) (by omega) (zbh (c := 0) (k := 0) hM9 (Nat.le_of_ble_eq_true rfl))
      replace hP := zl_e hP hv5
      refine wz_cI_of (zas (zcons rfl (zcons rfl (zcons rfl rfl))) c9) ?_
      clear c9
      refine wz_br (i3E (rfl : i3 v5 = i3 v5) (show (-1 : Int32) = i3 (-1) from rfl) (by omega) (by omega) (by omega) (by omega)) (fun h6 => ?_) (fun h6 => ?_)
      · replace hP := zE_p hP h6
        obtain ⟨m2, rfl⟩ : ∃ m2, m = m2 + 1 := ⟨m - 1, by omega⟩
        exact wz_k1 ⟨m2, by omega, xM9, Z, x5, (x6 + 1), (zconso rfl (zconso (zvo (rfl : i3 x1 = i3 x1)) (zconso (zvo (rfl : i3 x2 = i3 x2)) (zconso rfl (zconso (zvo (rfl : i3 x4 = i3 x4)) (zconso (zvo (rfl : i3 x5 = i3 x5)) (zconso (zvo (i3A (rfl : i3 x6 = i3 x6) (show (1 : Int32) = i3 1 from rfl))) (zconso rfl (zconso rfl rfl))))))))), rfl, by omega, hZ, hK, hU, by omega, by omega, by omega, by omega,  hP⟩
      · replace hP := zE_n hP h6
        have r7 := zH_c11 hZ x0b (zbh (c := 0) (k := 0) hM9 (Nat.le_of_ble_eq_true rfl))
        refine wz_i0 (i3O (n := 24) (i3R (zm_rd (Z := Z) (ν := ν) (k := 11) (rfl : ((x0b : Nat) : Int) = x0b) (show ((0 : Nat) : Int) = 0 from rfl) (show ((11 : Nat) : Int) = 11 from rfl)) (show (24 : Int32) = i3 24 from rfl) (by omega) (by omega) (by omega) (by omega)) (by omega) (by omega) (by omega)) ?_
        obtain ⟨Z8, hZ8⟩ := zx (zu Z 52 x0b ((Z 11 x0b 0 11) % 24) 0 x1)
        replace hP := zl_e hP hZ8
        have hZ8I := zH_u hZ hZ8 (lo := 0) (hi := 1) (by decide) rfl (by omega) ⟨by decide, by decide⟩ (Or.inl (by decide)) rfl
        have hZ8U : zU [x0b] Zs Z8 := zU_u hU hZ8 (Or.inr (List.Mem.head _))
        have hZ8K : zC [14, 43, 44, 45, 46, 47, 48, 49, 51, 52, 53, 1111, 1112] Zs Z8 := zC_u hK hZ8 (by decide)
        intro μ9 e9
        replace e9 := e9.trans (zm_wI (Z := Z) (ν := ν) hZ8 (rfl : ((x0b : Nat) : Int) = x0b) (i3I (y := ((Z 11 x0b 0 11) % 24)) (i3R (zm_rd (Z := Z) (ν := ν) (k := 11) (rfl : ((x0b : Nat) : Int) = x0b) (show ((0 : Nat) : Int) = 0 from rfl) (show ((11 : Nat) : Int) = 11 from rfl)) (show (24 : Int32) = i3 24 from rfl) (by omega) (by omega) (by omega) (by omega)) (by omega) (by omega) (by omega)) (show ((0 : Nat) : Int) = 0 from rfl) (rfl : i3 x1 = i3 x1))
        subst e9
        have r9 := zH_k hZ8I 11 x0b 0 13 (lo := 0) (hi := 671) (by decide) rfl
        obtain ⟨Z10, hZ10⟩ := zx (zu Z8 52 x0b ((Z 11 x0b 0 11) % 24) 1 (Z8 11 x0b 0 13))
        replace hP := zl_e hP hZ10
        have hZ10I := zH_u hZ8I hZ10 (lo := 0) (hi := 671) (by decide) rfl (by omega) ⟨by decide, by decide⟩ (Or.inl (by decide)) rfl
        have hZ10U : zU [x0b] Zs Z10 := zU_u hZ8U hZ10 (Or.inr (List.Mem.head _))
        have hZ10K : zC [14, 43, 44, 45, 46, 47, 48, 49, 51, 52, 53, 1111, 1112] Zs Z10 := zC_u hZ8K hZ10 (by decide)
        intro μ9 e9
        replace e9 := e9.trans (zm_wI (Z := Z8) (ν := ν) hZ10 (rfl : ((x0b : Nat) : Int) = x0b) (i3I (y := ((Z 11 x0b 0 11) % 24)) (i3R (zm_rd (Z := Z) (ν := ν) (k := 11) (rfl : ((x0b : Nat) : Int) = x0b) (show ((0 : Nat) : Int) = 0 from rfl) (show ((11 : Nat) : Int) = 11 from rfl)) (show (24 : Int32) = i3 24 from rfl) (by omega) (by omega) (by omega) (by omega)) (by omega) (by omega) (by omega)) (show ((1 : Nat) : Int) = 1 from rfl) (zm_rd (Z := Z8) (ν := ν) (k := 11) (rfl : ((x0b : Nat) : Int) = x0b) (show ((0 : Nat) : Int) = 0 from rfl) (show ((13 : Nat) : Int) = 13 from rfl)))
        subst e9
        obtain ⟨Z11, hZ11⟩ := zx (zu Z10 52 x0b ((Z 11 x0b 0 11) % 24) 2 x6)
        replace hP := zl_e hP hZ11
        have hZ11I := zH_u hZ10I hZ11 (lo := 0) (hi := 47) (by decide) rfl (by omega) ⟨by decide, by decide⟩ (Or.inl (by decide)) rfl
        have hZ11U : zU [x0b] Zs Z11 := zU_u hZ10U hZ11 (Or.inr (List.Mem.head _))
        have hZ11K : zC [14, 43, 44, 45, 46, 47, 48, 49, 51, 52, 53, 1111, 1112] Zs Z11 := zC_u hZ10K hZ11 (by decide)
        intro μ9 e9
        replace e9 := e9.trans (zm_wI (Z := Z10) (ν := ν) hZ11 (rfl : ((x0b : Nat) : Int) = x0b) (i3I (y := ((Z 11 x0b 0 11) % 24)) (i3R (zm_rd (Z := Z) (ν := ν) (k := 11) (rfl : ((x0b : Nat) : Int) = x0b) (show ((0 : Nat) : Int) = 0 from rfl) (show ((11 : Nat) : Int) = 11 from rfl)) (show (24 : Int32) = i3 24 from rfl) (by omega) (by omega) (by omega) (by omega)) (by omega) (by omega) (by omega)) (show ((2 : Nat) : Int) = 2 from rfl) (rfl : i3 x6 = i3 x6))
        subst e9
        obtain ⟨Z12, hZ12⟩ := zx (zu Z11 52 x0b ((Z 11 x0b 0 11) % 24) 3 v5)
        replace hP := zl_e hP hZ12
        have hZ12I := zH_u hZ11I hZ12 (lo := 0) (hi := 2) (by decide) rfl (by omega) ⟨by decide, by decide⟩ (Or.inl (by decide)) rfl
        have hZ12U : zU [x0b] Zs Z12 := zU_u hZ11U hZ12 (Or.inr (List.Mem.head _))
        have hZ12K : zC [14, 43, 44, 45, 46, 47, 48, 49, 51, 52, 53, 1111, 1112] Zs Z12 := zC_u hZ11K hZ12 (by decide)
        intro μ9 e9
        replace e9 := e9.trans (zm_wI (Z := Z11) (ν := ν) hZ12 (rfl : ((x0b : Nat) : Int) = x0b) (i3I (y := ((Z 11 x0b 0 11) % 24)) (i3R (zm_rd (Z := Z) (ν := ν) (k := 11) (rfl : ((x0b : Nat) : Int) = x0b) (show ((0 : Nat) : Int) = 0 from rfl) (show ((11 : Nat) : Int) = 11 from rfl)) (show (24 : Int32) = i3 24 from rfl) (by omega) (by omega) (by omega) (by omega)) (by omega) (by omega) (by omega)) (show ((3 : Nat) : Int) = 3 from rfl) (rfl : i3 v5 = i3 v5))
        subst e9
        obtain ⟨Z13, hZ13⟩ := zx (zu Z12 52 x0b ((Z 11 x0b 0 11) % 24) 4 x2)
        replace hP := zl_e hP hZ13
        have hZ13I := zH_u hZ12I hZ13 (lo := 0) (hi := 7) (by decide) rfl (by omega) ⟨by decide, by decide⟩ (Or.inl (by decide)) rfl
        have hZ13U : zU [x0b] Zs Z13 := zU_u hZ12U hZ13 (Or.inr (List.Mem.head _))
        have hZ13K : zC [14, 43, 44, 45, 46, 47, 48, 49, 51, 52, 53, 1111, 1112] Zs Z13 := zC_u hZ12K hZ13 (by decide)
        intro μ9 e9
        replace e9 := e9.trans (zm_wI (Z := Z12) (ν := ν) hZ13 (rfl : ((x0b : Nat) : Int) = x0b) (i3I (y := ((Z 11 x0b 0 11) % 24)) (i3R (zm_rd (Z := Z) (ν := ν) (k := 11) (rfl : ((x0b : Nat) : Int) = x0b) (show ((0 : Nat) : Int) = 0 from rfl) (show ((11 : Nat) : Int) = 11 from rfl)) (show (24 : Int32) = i3 24 from rfl) (by omega) (by omega) (by omega) (by omega)) (by omega) (by omega) (by omega)) (show ((4 : Nat) : Int) = 4 from rfl) (rfl : i3 x2 = i3 x2))
        subst e9
        refine wz_i0 (i3O (n := 48) (rfl : i3 x6 = i3 x6) (by omega) (by omega) (by omega)) ?_
        have r14 := zH_k hZ13I 44 x0b x6 9 (lo := -1) (hi := 3) (by decide) rfl
        obtain ⟨Z15, hZ15⟩ := zx (zu Z13 52 x0b ((Z 11 x0b 0 11) % 24) 5 (Z13 44 x0b x6 9))
        replace hP := zl_e hP hZ15
        have hZ15I := zH_u hZ13I hZ15 (lo := -1) (hi := 3) (by decide) rfl (by omega) ⟨by decide, by decide⟩ (Or.inl (by decide)) rfl
        have hZ15U : zU [x0b] Zs Z15 := zU_u hZ13U hZ15 (Or.inr (List.Mem.head _))
        have hZ15K : zC [14, 43, 44, 45, 46, 47, 48, 49, 51, 52, 53, 1111, 1112] Zs Z15 := zC_u hZ13K hZ15 (by decide)
        intro μ9 e9
        replace e9 := e9.trans (zm_wI (Z := Z13) (ν := ν) hZ15 (rfl : ((x0b : Nat) : Int) = x0b) (i3I (y := ((Z 11 x0b 0 11) % 24)) (i3R (zm_rd (Z := Z) (ν := ν) (k := 11) (rfl : ((x0b : Nat) : Int) = x0b) (show ((0 : Nat) : Int) = 0 from rfl) (show ((11 : Nat) : Int) = 11 from rfl)) (show (24 : Int32) = i3 24 from rfl) (by omega) (by omega) (by omega) (by omega)) (by omega) (by omega) (by omega)) (show ((5 : Nat) : Int) = 5 from rfl) (zm_rd (Z := Z13) (ν := ν) (k := 44) (rfl : ((x0b : Nat) : Int) = x0b) (i3I (y := x6) (rfl : i3 x6 = i3 x6) (by omega) (by omega) (by omega)) (show ((9 : Nat) : Int) = 9 from rfl)))
        subst e9
        have r16 := zH_c11 hZ15I x0b (zbh (c := 0) (k := 0) hM9 (Nat.le_of_ble_eq_true rfl))
        have q17 := (zu_ne (k' := 11) (b' := x0b) (i' := 0) (j' := 11) hZ15 (fun q => absurd q.1 (by decide))).trans ((zu_ne (k' := 11) (b' := x0b) (i' := 0) (j' := 11) hZ13 (fun q => absurd q.1 (by decide))).trans ((zu_ne (k' := 11) (b' := x0b) (i' := 0) (j' := 11) hZ12 (fun q => absurd q.1 (by decide))).trans ((zu_ne (k' := 11) (b' := x0b) (i' := 0) (j' := 11) hZ11 (fun q => absurd q.1 (by decide))).trans ((zu_ne (k' := 11) (b' := x0b) (i' := 0) (j' := 11) hZ10 (fun q => absurd q.1 (by decide))).trans (zu_ne (k' := 11) (b' := x0b) (i' := 0) (j' := 11) hZ8 (fun q => absurd q.1 (by decide)))))))
        obtain ⟨Z18, hZ18⟩ := zx (zu Z15 11 x0b 0 11 ((Z15 11 x0b 0 11) + 1))
        replace hP := zl_e hP hZ18
        have hZ18I := zH_i11 hZ15I hZ18 (zbh (c := 0) (k := 1) hM9 (Nat.le_of_ble_eq_true rfl)) (by omega)
        have hZ18U : zU [x0b] Zs Z18 := zU_u hZ15U hZ18 (Or.inr (List.Mem.head _))
        have hZ18K : zC [14, 43, 44, 45, 46, 47, 48, 49, 51, 52, 53, 1111, 1112] Zs Z18 := zC_u hZ15K hZ18 (by decide)
        intro μ9 e9
        replace e9 := e9.trans (zm_wI (Z := Z15) (ν := ν) hZ18 (rfl : ((x0b : Nat) : Int) = x0b) (show ((0 : Nat) : Int) = 0 from rfl) (show ((11 : Nat) : Int) = 11 from rfl) (i3A (zm_rd (Z := Z15) (ν := ν) (k := 11) (rfl : ((x0b : Nat) : Int) = x0b) (show ((0 : Nat) : Int) = 0 from rfl) (show ((11 : Nat) : Int) = 11 from rfl)) (show (1 : Int32) = i3 1 from rfl)))
        subst e9
        refine wz_br (i3NE (rfl : i3 v5 = i3 v5) (show (0 : Int32) = i3 0 from rfl) (by omega) (by omega) (by omega) (by omega)) (fun h19 => ?_) (fun h19 => ?_)
        · replace hP := zE_p hP h19
          refine wz_br (i3NE (rfl : i3 v5 = i3 v5) (show (1 : Int32) = i3 1 from rfl) (by omega) (by omega) (by omega) (by omega)) (fun h20 => ?_) (fun h20 => ?_)
          · replace hP := zE_p hP h20
            obtain ⟨v21, hv21, c9, lv21, uv21⟩ := sp_100 (ν := ν) hZ18I x0b x0b _ (i3I (y := x6) (rfl : i3 x6 = i3 x6) (by omega) (by omega) (by omega)) (by omega) (zbh (c := 1) (k := 0) hM9 (Nat.le_of_ble_eq_true rfl))
            replace hP := zl_e hP hv21
            refine wz_cI_of (zas (zcons rfl (zcons rfl rfl)) c9) ?_
            clear c9
            obtain ⟨Z22, hZ22⟩ := zx (zu Z18 44 x0b x6 9 v21)
            replace hP := zl_e hP hZ22
            have hZ22I := zH_u hZ18I hZ22 (lo := -1) (hi := 3) (by decide) rfl (by omega) ⟨by decide, by decide⟩ (Or.inl (by decide)) rfl
            have hZ22U : zU [x0b] Zs Z22 := zU_u hZ18U hZ22 (Or.inr (List.Mem.head _))
            have hZ22K : zC [14, 43, 44, 45, 46, 47, 48, 49, 51, 52, 53, 1111, 1112] Zs Z22 := zC_u hZ18K hZ22 (by decide)
            intro μ9 e9
            replace e9 := e9.trans (zm_wI (Z := Z18) (ν := ν) hZ22 (rfl : ((x0b : Nat) : Int) = x0b) (i3I (y := x6) (rfl : i3 x6 = i3 x6) (by omega) (by omega) (by omega)) (show ((9 : Nat) : Int) = 9 from rfl) (rfl : i3 v21 = i3 v21))
            subst e9
            have r23 := zH_k hZ22I 13 x0b 0 3 (lo := 0) (hi := 99999) (by decide) rfl
            refine wz_br (i3NE (zm_rd (Z := Z22) (ν := ν) (k := 13) (rfl : ((x0b : Nat) : Int) = x0b) (show ((0 : Nat) : Int) = 0 from rfl) (show ((3 : Nat) : Int) = 3 from rfl)) (show (0 : Int32) = i3 0 from rfl) (by omega) (by omega) (by omega) (by omega)) (fun h24 => ?_) (fun h24 => ?_)
            · replace hP := zE_p hP h24
              have r25 := zH_f hZ22I 14 x0b 0 0
              have r26 := w3_r ((Z22 14 x0b 0 0) - (Z22 13 x0b 0 3))
              obtain ⟨Z27, hZ27⟩ := zx (zu Z22 14 x0b 0 0 (w3 ((Z22 14 x0b 0 0) - (Z22 13 x0b 0 3))))
              replace hP := zl_e hP hZ27
              have hZ27I := zH_u hZ22I hZ27 (lo := -2147483648) (hi := 2147483647) (by decide) rfl (by omega) ⟨by decide, by decide⟩ (Or.inl (by decide)) rfl
              have hZ27U : zU [x0b] Zs Z27 := zU_u hZ22U hZ27 (Or.inr (List.Mem.head _))
              have hZ27K : zC [14, 43, 44, 45, 46, 47, 48, 49, 51, 52, 53, 1111, 1112] Zs Z27 := zC_u hZ22K hZ27 (by decide)
              intro μ9 e9
              replace e9 := e9.trans (zm_wI (Z := Z22) (ν := ν) hZ27 (rfl : ((x0b : Nat) : Int) = x0b) (show ((0 : Nat) : Int) = 0 from rfl) (show ((0 : Nat) : Int) = 0 from rfl) (i3W (i3S (zm_rd (Z := Z22) (ν := ν) (k := 14) (rfl : ((x0b : Nat) : Int) = x0b) (show ((0 : Nat) : Int) = 0 from rfl) (show ((0 : Nat) : Int) = 0 from rfl)) (zm_rd (Z := Z22) (ν := ν) (k := 13) (rfl : ((x0b : Nat) : Int) = x0b) (show ((0 : Nat) : Int) = 0 from rfl) (show ((3 : Nat) : Int) = 3 from rfl)))))
              subst e9
              have r28 := zH_f hZ27I 14 x0b 0 7
              have r29 := w3_r ((Z27 14 x0b 0 7) + (Z22 13 x0b 0 3))
              obtain ⟨Z30, hZ30⟩ := zx (zu Z27 14 x0b 0 7 (w3 ((Z27 14 x0b 0 7) + (Z22 13 x0b 0 3))))
              replace hP := zl_e hP hZ30
              have hZ30I := zH_u hZ27I hZ30 (lo := -2147483648) (hi := 2147483647) (by decide) rfl (by omega) ⟨by decide, by decide⟩ (Or.inl (by decide)) rfl
              have hZ30U : zU [x0b] Zs Z30 := zU_u hZ27U hZ30 (Or.inr (List.Mem.head _))
              have hZ30K : zC [14, 43, 44, 45, 46, 47, 48, 49, 51, 52, 53, 1111, 1112] Zs Z30 := zC_u hZ27K hZ30 (by decide)
              intro μ9 e9
              replace e9 := e9.trans (zm_wI (Z := Z27) (ν := ν) hZ30 (rfl : ((x0b : Nat) : Int) = x0b) (show ((0 : Nat) : Int) = 0 from rfl) (show ((7 : Nat) : Int) = 7 from rfl) (i3W (i3A (zm_rd (Z := Z27) (ν := ν) (k := 14) (rfl : ((x0b : Nat) : Int) = x0b) (show ((0 : Nat) : Int) = 0 from rfl) (show ((7 : Nat) : Int) = 7 from rfl)) (zm_rd (Z := Z22) (ν := ν) (k := 13) (rfl : ((x0b : Nat) : Int) = x0b) (show ((0 : Nat) : Int) = 0 from rfl) (show ((3 : Nat) : Int) = 3 from rfl)))))
              subst e9
              have r31 := zH_c12 hZ30I x0b (zbh (c := 1) (k := 0) hM9 (Nat.le_of_ble_eq_true rfl))
              refine wz_i0 (i3O (n := 60) (i3R (zm_rd (Z := Z30) (ν := ν) (k := 11) (rfl : ((x0b : Nat) : Int) = x0b) (show ((0 : Nat) : Int) = 0 from rfl) (show ((12 : Nat) : Int) = 12 from rfl)) (show (60 : Int32) = i3 60 from rfl) (by omega) (by omega) (by omega) (by omega)) (by omega) (by omega) (by omega)) ?_
              obtain ⟨Z32, hZ32⟩ := zx (zu Z30 53 x0b ((Z30 11 x0b 0 12) % 60) 0 0)
              replace hP := zl_e hP hZ32
              have hZ32I := zH_0 hZ30I hZ32 (by decide) (Or.inl (by decide))
              have hZ32U : zU [x0b] Zs Z32 := zU_u hZ30U hZ32 (Or.inr (List.Mem.head _))
              have hZ32K : zC [14, 43, 44, 45, 46, 47, 48, 49, 51, 52, 53, 1111, 1112] Zs Z32 := zC_u hZ30K hZ32 (by decide)
              intro μ9 e9
              replace e9 := e9.trans (zm_wI (Z := Z30) (ν := ν) hZ32 (rfl : ((x0b : Nat) : Int) = x0b) (i3I (y := ((Z30 11 x0b 0 12) % 60)) (i3R (zm_rd (Z := Z30) (ν := ν) (k := 11) (rfl : ((x0b : Nat) : Int) = x0b) (show ((0 : Nat) : Int) = 0 from rfl) (show ((12 : Nat) : Int) = 12 from rfl)) (show (60 : Int32) = i3 60 from rfl) (by omega) (by omega) (by omega) (by omega)) (by omega) (by omega) (by omega)) (show ((0 : Nat) : Int) = 0 from rfl) (show (0 : Int32) = i3 0 from rfl))
              subst e9
              obtain ⟨Z33, hZ33⟩ := zx (zu Z32 53 x0b ((Z30 11 x0b 0 12) % 60) 1 7)
              replace hP := zl_e hP hZ33
              have hZ33I := zH_u hZ32I hZ33 (lo := -2147483648) (hi := 2147483647) (by decide) rfl (by omega) ⟨by decide, by decide⟩ (Or.inl (by decide)) rfl
              have hZ33U : zU [x0b] Zs Z33 := zU_u hZ32U hZ33 (Or.inr (List.Mem.head _))
              have hZ33K : zC [14, 43, 44, 45, 46, 47, 48, 49, 51, 52, 53, 1111, 1112] Zs Z33 := zC_u hZ32K hZ33 (by decide)
              intro μ9 e9
              replace e9 := e9.trans (zm_wI (Z := Z32) (ν := ν) hZ33 (rfl : ((x0b : Nat) : Int) = x0b) (i3I (y := ((Z30 11 x0b 0 12) % 60)) (i3R (zm_rd (Z := Z30) (ν := ν) (k := 11) (rfl : ((x0b : Nat) : Int) = x0b) (show ((0 : Nat) : Int) = 0 from rfl) (show ((12 : Nat) : Int) = 12 from rfl)) (show (60 : Int32) = i3 60 from rfl) (by omega) (by omega) (by omega) (by omega)) (by omega) (by omega) (by omega)) (show ((1 : Nat) : Int) = 1 from rfl) (show (7 : Int32) = i3 7 from rfl))
              subst e9
              obtain ⟨Z34, hZ34⟩ := zx (zu Z33 53 x0b ((Z30 11 x0b 0 12) % 60) 2 (Z22 13 x0b 0 3))
              replace hP := zl_e hP hZ34
              have hZ34I := zH_u hZ33I hZ34 (lo := -2147483648) (hi := 2147483647) (by decide) rfl (by omega) ⟨by decide, by decide⟩ (Or.inl (by decide)) rfl
              have hZ34U : zU [x0b] Zs Z34 := zU_u hZ33U hZ34 (Or.inr (List.Mem.head _))
              have hZ34K : zC [14, 43, 44, 45, 46, 47, 48, 49, 51, 52, 53, 1111, 1112] Zs Z34 := zC_u hZ33K hZ34 (by decide)
              intro μ9 e9
              replace e9 := e9.trans (zm_wI (Z := Z33) (ν := ν) hZ34 (rfl : ((x0b : Nat) : Int) = x0b) (i3I (y := ((Z30 11 x0b 0 12) % 60)) (i3R (zm_rd (Z := Z30) (ν := ν) (k := 11) (rfl : ((x0b : Nat) : Int) = x0b) (show ((0 : Nat) : Int) = 0 from rfl) (show ((12 : Nat) : Int) = 12 from rfl)) (show (60 : Int32) = i3 60 from rfl) (by omega) (by omega) (by omega) (by omega)) (by omega) (by omega) (by omega)) (show ((2 : Nat) : Int) = 2 from rfl) (zm_rd (Z := Z22) (ν := ν) (k := 13) (rfl : ((x0b : Nat) : Int) = x0b) (show ((0 : Nat) : Int) = 0 from rfl) (show ((3 : Nat) : Int) = 3 from rfl)))
              subst e9
              obtain ⟨Z35, hZ35⟩ := zx (zu Z34 53 x0b ((Z30 11 x0b 0 12) % 60) 3 x6)
              replace hP := zl_e hP hZ35
              have hZ35I := zH_u hZ34I hZ35 (lo := -2147483648) (hi := 2147483647) (by decide) rfl (by omega) ⟨by decide, by decide⟩ (Or.inl (by decide)) rfl
              have hZ35U : zU [x0b] Zs Z35 := zU_u hZ34U hZ35 (Or.inr (List.Mem.head _))
              have hZ35K : zC [14, 43, 44, 45, 46, 47, 48, 49, 51, 52, 53, 1111, 1112] Zs Z35 := zC_u hZ34K hZ35 (by decide)
              intro μ9 e9
              replace e9 := e9.trans (zm_wI (Z := Z34) (ν := ν) hZ35 (rfl : ((x0b : Nat) : Int) = x0b) (i3I (y := ((Z30 11 x0b 0 12) % 60)) (i3R (zm_rd (Z := Z30) (ν := ν) (k := 11) (rfl : ((x0b : Nat) : Int) = x0b) (show ((0 : Nat) : Int) = 0 from rfl) (show ((12 : Nat) : Int) = 12 from rfl)) (show (60 : Int32) = i3 60 from rfl) (by omega) (by omega) (by omega) (by omega)) (by omega) (by omega) (by omega)) (show ((3 : Nat) : Int) = 3 from rfl) (rfl : i3 x6 = i3 x6))
              subst e9
              have r36 := zH_k hZ35I 11 x0b 0 13 (lo := 0) (hi := 671) (by decide) rfl
              have q37 := (zu_ne (k' := 11) (b' := x0b) (i' := 0) (j' := 13) hZ35 (fun q => absurd q.1 (by decide))).trans ((zu_ne (k' := 11) (b' := x0b) (i' := 0) (j' := 13) hZ34 (fun q => absurd q.1 (by decide))).trans ((zu_ne (k' := 11) (b' := x0b) (i' := 0) (j' := 13) hZ33 (fun q => absurd q.1 (by decide))).trans ((zu_ne (k' := 11) (b' := x0b) (i' := 0) (j' := 13) hZ32 (fun q => absurd q.1 (by decide))).trans ((zu_ne (k' := 11) (b' := x0b) (i' := 0) (j' := 13) hZ30 (fun q => absurd q.1 (by decide))).trans ((zu_ne (k' := 11) (b' := x0b) (i' := 0) (j' := 13) hZ27 (fun q => absurd q.1 (by decide))).trans ((zu_ne (k' := 11) (b' := x0b) (i' := 0) (j' := 13) hZ22 (fun q => absurd q.1 (by decide))).trans ((zu_ne (k' := 11) (b' := x0b) (i' := 0) (j' := 13) hZ18 (fun q => absurd q.2.2.2 (by decide))).trans ((zu_ne (k' := 11) (b' := x0b) (i' := 0) (j' := 13) hZ15 (fun q => absurd q.1 (by decide))).trans ((zu_ne (k' := 11) (b' := x0b) (i' := 0) (j' := 13) hZ13 (fun q => absurd q.1 (by decide))).trans ((zu_ne (k' := 11) (b' := x0b) (i' := 0) (j' := 13) hZ12 (fun q => absurd q.1 (by decide))).trans ((zu_ne (k' := 11) (b' := x0b) (i' := 0) (j' := 13) hZ11 (fun q => absurd q.1 (by decide))).trans (zu_ne (k' := 11) (b' := x0b) (i' := 0) (j' := 13) hZ10 (fun q => absurd q.1 (by decide))))))))))))))
              obtain ⟨Z38, hZ38⟩ := zx (zu Z35 53 x0b ((Z30 11 x0b 0 12) % 60) 4 (Z35 11 x0b 0 13))
              replace hP := zl_e hP hZ38
              have hZ38I := zH_u hZ35I hZ38 (lo := -2147483648) (hi := 2147483647) (by decide) rfl (by omega) ⟨by decide, by decide⟩ (Or.inl (by decide)) rfl
              have hZ38U : zU [x0b] Zs Z38 := zU_u hZ35U hZ38 (Or.inr (List.Mem.head _))
              have hZ38K : zC [14, 43, 44, 45, 46, 47, 48, 49, 51, 52, 53, 1111, 1112] Zs Z38 := zC_u hZ35K hZ38 (by decide)
              intro μ9 e9
              replace e9 := e9.trans (zm_wI (Z := Z35) (ν := ν) hZ38 (rfl : ((x0b : Nat) : Int) = x0b) (i3I (y := ((Z30 11 x0b 0 12) % 60)) (i3R (zm_rd (Z := Z30) (ν := ν) (k := 11) (rfl : ((x0b : Nat) : Int) = x0b) (show ((0 : Nat) : Int) = 0 from rfl) (show ((12 : Nat) : Int) = 12 from rfl)) (show (60 : Int32) = i3 60 from rfl) (by omega) (by omega) (by omega) (by omega)) (by omega) (by omega) (by omega)) (show ((4 : Nat) : Int) = 4 from rfl) (zm_rd (Z := Z35) (ν := ν) (k := 11) (rfl : ((x0b : Nat) : Int) = x0b) (show ((0 : Nat) : Int) = 0 from rfl) (show ((13 : Nat) : Int) = 13 from rfl)))
              subst e9
              have r39 := zH_c12 hZ38I x0b (zbh (c := 1) (k := 0) hM9 (Nat.le_of_ble_eq_true rfl))
              have q40 := (zu_ne (k' := 11) (b' := x0b) (i' := 0) (j' := 12) hZ38 (fun q => absurd q.1 (by decide))).trans ((zu_ne (k' := 11) (b' := x0b) (i' := 0) (j' := 12) hZ35 (fun q => absurd q.1 (by decide))).trans ((zu_ne (k' := 11) (b' := x0b) (i' := 0) (j' := 12) hZ34 (fun q => absurd q.1 (by decide))).trans ((zu_ne (k' := 11) (b' := x0b) (i' := 0) (j' := 12) hZ33 (fun q => absurd q.1 (by decide))).trans (zu_ne (k' := 11) (b' := x0b) (i' := 0) (j' := 12) hZ32 (fun q => absurd q.1 (by decide))))))
              obtain ⟨Z41, hZ41⟩ := zx (zu Z38 11 x0b 0 12 ((Z38 11 x0b 0 12) + 1))
              replace hP := zl_e hP hZ41
              have hZ41I := zH_i12 hZ38I hZ41 (zbh (c := 1) (k := 1) hM9 (Nat.le_of_ble_eq_true rfl)) (by omega)
              replace hZ41I := zbt (c := 2) hZ41I rfl
              have hZ41U : zU [x0b] Zs Z41 := zU_u hZ38U hZ41 (Or.inr (List.Mem.head _))
              have hZ41K : zC [14, 43, 44, 45, 46, 47, 48, 49, 51, 52, 53, 1111, 1112] Zs Z41 := zC_u hZ38K hZ41 (by decide)
              intro μ9 e9
              replace e9 := e9.trans (zm_wI (Z := Z38) (ν := ν) hZ41 (rfl : ((x0b : Nat) : Int) = x0b) (show ((0 : Nat) : Int) = 0 from rfl) (show ((12 : Nat) : Int) = 12 from rfl) (i3A (zm_rd (Z := Z38) (ν := ν) (k := 11) (rfl : ((x0b : Nat) : Int) = x0b) (show ((0 : Nat) : Int) = 0 from rfl) (show ((12 : Nat) : Int) = 12 from rfl)) (show (1 : Int32) = i3 1 from rfl)))
              subst e9
              obtain ⟨m2, rfl⟩ : ∃ m2, m = m2 + 1 := ⟨m - 1, by omega⟩
              exact wz_k1 ⟨m2, by omega, xM9 + 2, Z41, (x5 + 1), (x6 + 1), (zconso rfl (zconso (zvo (rfl : i3 x1 = i3 x1)) (zconso (zvo (rfl : i3 x2 = i3 x2)) (zconso rfl (zconso (zvo (rfl : i3 x4 = i3 x4)) (zconso (zvo (i3A (rfl : i3 x5 = i3 x5) (show (1 : Int32) = i3 1 from rfl))) (zconso (zvo (i3A (rfl : i3 x6 = i3 x6) (show (1 : Int32) = i3 1 from rfl))) (zconso rfl (zconso rfl rfl))))))))), rfl, by omega, (zbt hZ41I rfl), hZ41K, hZ41U, by omega, by omega, by omega, by omega,  hP⟩
            · replace hP := zE_n hP h24
              obtain ⟨m2, rfl⟩ : ∃ m2, m = m2 + 1 := ⟨m - 1, by omega⟩
              exact wz_k1 ⟨m2, by omega, xM9 + 1, Z22, (x5 + 1), (x6 + 1), (zconso rfl (zconso (zvo (rfl : i3 x1 = i3 x1)) (zconso (zvo (rfl : i3 x2 = i3 x2)) (zconso rfl (zconso (zvo (rfl : i3 x4 = i3 x4)) (zconso (zvo (i3A (rfl : i3 x5 = i3 x5) (show (1 : Int32) = i3 1 from rfl))) (zconso (zvo (i3A (rfl : i3 x6 = i3 x6) (show (1 : Int32) = i3 1 from rfl))) (zconso rfl (zconso rfl rfl))))))))), rfl, by omega, (zbt hZ22I rfl), hZ22K, hZ22U, by omega, by omega, by omega, by omega,  hP⟩
          · replace hP := zE_n hP h20
            obtain ⟨Z42, hZ42⟩ := zx (zu Z18 44 x0b x6 9 3)
            replace hP := zl_e hP hZ42
            have hZ42I := zH_u hZ18I hZ42 (lo := -1) (hi := 3) (by decide) rfl (by omega) ⟨by decide, by decide⟩ (Or.inl (by decide)) rfl
            have hZ42U : zU [x0b] Zs Z42 := zU_u hZ18U hZ42 (Or.inr (List.Mem.head _))
            have hZ42K : zC [14, 43, 44, 45, 46, 47, 48, 49, 51, 52, 53, 1111, 1112] Zs Z42 := zC_u hZ18K hZ42 (by decide)
            intro μ9 e9
            replace e9 := e9.trans (zm_wI (Z := Z18) (ν := ν) hZ42 (rfl : ((x0b : Nat) : Int) = x0b) (i3I (y := x6) (rfl : i3 x6 = i3 x6) (by omega) (by omega) (by omega)) (show ((9 : Nat) : Int) = 9 from rfl) (show (3 : Int32) = i3 3 from rfl))
            subst e9
            have r43 := zH_k hZ42I 13 x0b 0 3 (lo := 0) (hi := 99999) (by decide) rfl
            refine wz_br (i3NE (zm_rd (Z := Z42) (ν := ν) (k := 13) (rfl : ((x0b : Nat) : Int) = x0b) (show ((0 : Nat) : Int) = 0 from rfl) (show ((3 : Nat) : Int) = 3 from rfl)) (show (0 : Int32) = i3 0 from rfl) (by omega) (by omega) (by omega) (by omega)) (fun h44 => ?_) (fun h44 => ?_)
            · replace hP := zE_p hP h44
              have r45 := zH_f hZ42I 14 x0b 0 0
              have r46 := w3_r ((Z42 14 x0b 0 0) - (Z42 13 x0b 0 3))
              obtain ⟨Z47, hZ47⟩ := zx (zu Z42 14 x0b 0 0 (w3 ((Z42 14 x0b 0 0) - (Z42 13 x0b 0 3))))
              replace hP := zl_e hP hZ47
              have hZ47I := zH_u hZ42I hZ47 (lo := -2147483648) (hi := 2147483647) (by decide) rfl (by omega) ⟨by decide, by decide⟩ (Or.inl (by decide)) rfl
              have hZ47U : zU [x0b] Zs Z47 := zU_u hZ42U hZ47 (Or.inr (List.Mem.head _))
              have hZ47K : zC [14, 43, 44, 45, 46, 47, 48, 49, 51, 52, 53, 1111, 1112] Zs Z47 := zC_u hZ42K hZ47 (by decide)
              intro μ9 e9
              replace e9 := e9.trans (zm_wI (Z := Z42) (ν := ν) hZ47 (rfl : ((x0b : Nat) : Int) = x0b) (show ((0 : Nat) : Int) = 0 from rfl) (show ((0 : Nat) : Int) = 0 from rfl) (i3W (i3S (zm_rd (Z := Z42) (ν := ν) (k := 14) (rfl : ((x0b : Nat) : Int) = x0b) (show ((0 : Nat) : Int) = 0 from rfl) (show ((0 : Nat) : Int) = 0 from rfl)) (zm_rd (Z := Z42) (ν := ν) (k := 13) (rfl : ((x0b : Nat) : Int) = x0b) (show ((0 : Nat) : Int) = 0 from rfl) (show ((3 : Nat) : Int) = 3 from rfl)))))
              subst e9
              have r48 := zH_f hZ47I 14 x0b 0 7
              have r49 := w3_r ((Z47 14 x0b 0 7) + (Z42 13 x0b 0 3))
              obtain ⟨Z50, hZ50⟩ := zx (zu Z47 14 x0b 0 7 (w3 ((Z47 14 x0b 0 7) + (Z42 13 x0b 0 3))))
              replace hP := zl_e hP hZ50
              have hZ50I := zH_u hZ47I hZ50 (lo := -2147483648) (hi := 2147483647) (by decide) rfl (by omega) ⟨by decide, by decide⟩ (Or.inl (by decide)) rfl
              have hZ50U : zU [x0b] Zs Z50 := zU_u hZ47U hZ50 (Or.inr (List.Mem.head _))
              have hZ50K : zC [14, 43, 44, 45, 46, 47, 48, 49, 51, 52, 53, 1111, 1112] Zs Z50 := zC_u hZ47K hZ50 (by decide)
              intro μ9 e9
              replace e9 := e9.trans (zm_wI (Z := Z47) (ν := ν) hZ50 (rfl : ((x0b : Nat) : Int) = x0b) (show ((0 : Nat) : Int) = 0 from rfl) (show ((7 : Nat) : Int) = 7 from rfl) (i3W (i3A (zm_rd (Z := Z47) (ν := ν) (k := 14) (rfl : ((x0b : Nat) : Int) = x0b) (show ((0 : Nat) : Int) = 0 from rfl) (show ((7 : Nat) : Int) = 7 from rfl)) (zm_rd (Z := Z42) (ν := ν) (k := 13) (rfl : ((x0b : Nat) : Int) = x0b) (show ((0 : Nat) : Int) = 0 from rfl) (show ((3 : Nat) : Int) = 3 from rfl)))))
              subst e9
              have r51 := zH_c12 hZ50I x0b (zbh (c := 1) (k := 0) hM9 (Nat.le_of_ble_eq_true rfl))
              refine wz_i0 (i3O (n := 60) (i3R (zm_rd (Z := Z50) (ν := ν) (k := 11) (rfl : ((x0b : Nat) : Int) = x0b) (show ((0 : Nat) : Int) = 0 from rfl) (show ((12 : Nat) : Int) = 12 from rfl)) (show (60 : Int32) = i3 60 from rfl) (by omega) (by omega) (by omega) (by omega)) (by omega) (by omega) (by omega)) ?_
              obtain ⟨Z52, hZ52⟩ := zx (zu Z50 53 x0b ((Z50 11 x0b 0 12) % 60) 0 0)
              replace hP := zl_e hP hZ52
              have hZ52I := zH_0 hZ50I hZ52 (by decide) (Or.inl (by decide))
              have hZ52U : zU [x0b] Zs Z52 := zU_u hZ50U hZ52 (Or.inr (List.Mem.head _))
              have hZ52K : zC [14, 43, 44, 45, 46, 47, 48, 49, 51, 52, 53, 1111, 1112] Zs Z52 := zC_u hZ50K hZ52 (by decide)
              intro μ9 e9
              replace e9 := e9.trans (zm_wI (Z := Z50) (ν := ν) hZ52 (rfl : ((x0b : Nat) : Int) = x0b) (i3I (y := ((Z50 11 x0b 0 12) % 60)) (i3R (zm_rd (Z := Z50) (ν := ν) (k := 11) (rfl : ((x0b : Nat) : Int) = x0b) (show ((0 : Nat) : Int) = 0 from rfl) (show ((12 : Nat) : Int) = 12 from rfl)) (show (60 : Int32) = i3 60 from rfl) (by omega) (by omega) (by omega) (by omega)) (by omega) (by omega) (by omega)) (show ((0 : Nat) : Int) = 0 from rfl) (show (0 : Int32) = i3 0 from rfl))
              subst e9
              obtain ⟨Z53, hZ53⟩ := zx (zu Z52 53 x0b ((Z50 11 x0b 0 12) % 60) 1 7)
              replace hP := zl_e hP hZ53
              have hZ53I := zH_u hZ52I hZ53 (lo := -2147483648) (hi := 2147483647) (by decide) rfl (by omega) ⟨by decide, by decide⟩ (Or.inl (by decide)) rfl
              have hZ53U : zU [x0b] Zs Z53 := zU_u hZ52U hZ53 (Or.inr (List.Mem.head _))
              have hZ53K : zC [14, 43, 44, 45, 46, 47, 48, 49, 51, 52, 53, 1111, 1112] Zs Z53 := zC_u hZ52K hZ53 (by decide)
              intro μ9 e9
              replace e9 := e9.trans (zm_wI (Z := Z52) (ν := ν) hZ53 (rfl : ((x0b : Nat) : Int) = x0b) (i3I (y := ((Z50 11 x0b 0 12) % 60)) (i3R (zm_rd (Z := Z50) (ν := ν) (k := 11) (rfl : ((x0b : Nat) : Int) = x0b) (show ((0 : Nat) : Int) = 0 from rfl) (show ((12 : Nat) : Int) = 12 from rfl)) (show (60 : Int32) = i3 60 from rfl) (by omega) (by omega) (by omega) (by omega)) (by omega) (by omega) (by omega)) (show ((1 : Nat) : Int) = 1 from rfl) (show (7 : Int32) = i3 7 from rfl))
              subst e9
              obtain ⟨Z54, hZ54⟩ := zx (zu Z53 53 x0b ((Z50 11 x0b 0 12) % 60) 2 (Z42 13 x0b 0 3))
              replace hP := zl_e hP hZ54
              have hZ54I := zH_u hZ53I hZ54 (lo := -2147483648) (hi := 2147483647) (by decide) rfl (by omega) ⟨by decide, by decide⟩ (Or.inl (by decide)) rfl
              have hZ54U : zU [x0b] Zs Z54 := zU_u hZ53U hZ54 (Or.inr (List.Mem.head _))
              have hZ54K : zC [14, 43, 44, 45, 46, 47, 48, 49, 51, 52, 53, 1111, 1112] Zs Z54 := zC_u hZ53K hZ54 (by decide)
              intro μ9 e9
              replace e9 := e9.trans (zm_wI (Z := Z53) (ν := ν) hZ54 (rfl : ((x0b : Nat) : Int) = x0b) (i3I (y := ((Z50 11 x0b 0 12) % 60)) (i3R (zm_rd (Z := Z50) (ν := ν) (k := 11) (rfl : ((x0b : Nat) : Int) = x0b) (show ((0 : Nat) : Int) = 0 from rfl) (show ((12 : Nat) : Int) = 12 from rfl)) (show (60 : Int32) = i3 60 from rfl) (by omega) (by omega) (by omega) (by omega)) (by omega) (by omega) (by omega)) (show ((2 : Nat) : Int) = 2 from rfl) (zm_rd (Z := Z42) (ν := ν) (k := 13) (rfl : ((x0b : Nat) : Int) = x0b) (show ((0 : Nat) : Int) = 0 from rfl) (show ((3 : Nat) : Int) = 3 from rfl)))
              subst e9
              obtain ⟨Z55, hZ55⟩ := zx (zu Z54 53 x0b ((Z50 11 x0b 0 12) % 60) 3 x6)
              replace hP := zl_e hP hZ55
              have hZ55I := zH_u hZ54I hZ55 (lo := -2147483648) (hi := 2147483647) (by decide) rfl (by omega) ⟨by decide, by decide⟩ (Or.inl (by decide)) rfl
              have hZ55U : zU [x0b] Zs Z55 := zU_u hZ54U hZ55 (Or.inr (List.Mem.head _))
              have hZ55K : zC [14, 43, 44, 45, 46, 47, 48, 49, 51, 52, 53, 1111, 1112] Zs Z55 := zC_u hZ54K hZ55 (by decide)
              intro μ9 e9
              replace e9 := e9.trans (zm_wI (Z := Z54) (ν := ν) hZ55 (rfl : ((x0b : Nat) : Int) = x0b) (i3I (y := ((Z50 11 x0b 0 12) % 60)) (i3R (zm_rd (Z := Z50) (ν := ν) (k := 11) (rfl : ((x0b : Nat) : Int) = x0b) (show ((0 : Nat) : Int) = 0 from rfl) (show ((12 : Nat) : Int) = 12 from rfl)) (show (60 : Int32) = i3 60 from rfl) (by omega) (by omega) (by omega) (by omega)) (by omega) (by omega) (by omega)) (show ((3 : Nat) : Int) = 3 from rfl) (rfl : i3 x6 = i3 x6))
              subst e9
              have r56 := zH_k hZ55I 11 x0b 0 13 (lo := 0) (hi := 671) (by decide) rfl
              have q57 := (zu_ne (k' := 11) (b' := x0b) (i' := 0) (j' := 13) hZ55 (fun q => absurd q.1 (by decide))).trans ((zu_ne (k' := 11) (b' := x0b) (i' := 0) (j' := 13) hZ54 (fun q => absurd q.1 (by decide))).trans ((zu_ne (k' := 11) (b' := x0b) (i' := 0) (j' := 13) hZ53 (fun q => absurd q.1 (by decide))).trans ((zu_ne (k' := 11) (b' := x0b) (i' := 0) (j' := 13) hZ52 (fun q => absurd q.1 (by decide))).trans ((zu_ne (k' := 11) (b' := x0b) (i' := 0) (j' := 13) hZ50 (fun q => absurd q.1 (by decide))).trans ((zu_ne (k' := 11) (b' := x0b) (i' := 0) (j' := 13) hZ47 (fun q => absurd q.1 (by decide))).trans ((zu_ne (k' := 11) (b' := x0b) (i' := 0) (j' := 13) hZ42 (fun q => absurd q.1 (by decide))).trans ((zu_ne (k' := 11) (b' := x0b) (i' := 0) (j' := 13) hZ18 (fun q => absurd q.2.2.2 (by decide))).trans ((zu_ne (k' := 11) (b' := x0b) (i' := 0) (j' := 13) hZ15 (fun q => absurd q.1 (by decide))).trans ((zu_ne (k' := 11) (b' := x0b) (i' := 0) (j' := 13) hZ13 (fun q => absurd q.1 (by decide))).trans ((zu_ne (k' := 11) (b' := x0b) (i' := 0) (j' := 13) hZ12 (fun q => absurd q.1 (by decide))).trans ((zu_ne (k' := 11) (b' := x0b) (i' := 0) (j' := 13) hZ11 (fun q => absurd q.1 (by decide))).trans (zu_ne (k' := 11) (b' := x0b) (i' := 0) (j' := 13) hZ10 (fun q => absurd q.1 (by decide))))))))))))))
              obtain ⟨Z58, hZ58⟩ := zx (zu Z55 53 x0b ((Z50 11 x0b 0 12) % 60) 4 (Z55 11 x0b 0 13))
              replace hP := zl_e hP hZ58
              have hZ58I := zH_u hZ55I hZ58 (lo := -2147483648) (hi := 2147483647) (by decide) rfl (by omega) ⟨by decide, by decide⟩ (Or.inl (by decide)) rfl
              have hZ58U : zU [x0b] Zs Z58 := zU_u hZ55U hZ58 (Or.inr (List.Mem.head _))
              have hZ58K : zC [14, 43, 44, 45, 46, 47, 48, 49, 51, 52, 53, 1111, 1112] Zs Z58 := zC_u hZ55K hZ58 (by decide)
              intro μ9 e9
              replace e9 := e9.trans (zm_wI (Z := Z55) (ν := ν) hZ58 (rfl : ((x0b : Nat) : Int) = x0b) (i3I (y := ((Z50 11 x0b 0 12) % 60)) (i3R (zm_rd (Z := Z50) (ν := ν) (k := 11) (rfl : ((x0b : Nat) : Int) = x0b) (show ((0 : Nat) : Int) = 0 from rfl) (show ((12 : Nat) : Int) = 12 from rfl)) (show (60 : Int32) = i3 60 from rfl) (by omega) (by omega) (by omega) (by omega)) (by omega) (by omega) (by omega)) (show ((4 : Nat) : Int) = 4 from rfl) (zm_rd (Z := Z55) (ν := ν) (k := 11) (rfl : ((x0b : Nat) : Int) = x0b) (show ((0 : Nat) : Int) = 0 from rfl) (show ((13 : Nat) : Int) = 13 from rfl)))
              subst e9
              have r59 := zH_c12 hZ58I x0b (zbh (c := 1) (k := 0) hM9 (Nat.le_of_ble_eq_true rfl))
              have q60 := (zu_ne (k' := 11) (b' := x0b) (i' := 0) (j' := 12) hZ58 (fun q => absurd q.1 (by decide))).trans ((zu_ne (k' := 11) (b' := x0b) (i' := 0) (j' := 12) hZ55 (fun q => absurd q.1 (by decide))).trans ((zu_ne (k' := 11) (b' := x0b) (i' := 0) (j' := 12) hZ54 (fun q => absurd q.1 (by decide))).trans ((zu_ne (k' := 11) (b' := x0b) (i' := 0) (j' := 12) hZ53 (fun q => absurd q.1 (by decide))).trans (zu_ne (k' := 11) (b' := x0b) (i' := 0) (j' := 12) hZ52 (fun q => absurd q.1 (by decide))))))
              obtain ⟨Z61, hZ61⟩ := zx (zu Z58 11 x0b 0 12 ((Z58 11 x0b 0 12) + 1))
              replace hP := zl_e hP hZ61
              have hZ61I := zH_i12 hZ58I hZ61 (zbh (c := 1) (k := 1) hM9 (Nat.le_of_ble_eq_true rfl)) (by omega)
              replace hZ61I := zbt (c := 2) hZ61I rfl
              have hZ61U : zU [x0b] Zs Z61 := zU_u hZ58U hZ61 (Or.inr (List.Mem.head _))
              have hZ61K : zC [14, 43, 44, 45, 46, 47, 48, 49, 51, 52, 53, 1111, 1112] Zs Z61 := zC_u hZ58K hZ61 (by decide)
              intro μ9 e9
              replace e9 := e9.trans (zm_wI (Z := Z58) (ν := ν) hZ61 (rfl : ((x0b : Nat) : Int) = x0b) (show ((0 : Nat) : Int) = 0 from rfl) (show ((12 : Nat) : Int) = 12 from rfl) (i3A (zm_rd (Z := Z58) (ν := ν) (k := 11) (rfl : ((x0b : Nat) : Int) = x0b) (show ((0 : Nat) : Int) = 0 from rfl) (show ((12 : Nat) : Int) = 12 from rfl)) (show (1 : Int32) = i3 1 from rfl)))
              subst e9
              obtain ⟨m2, rfl⟩ : ∃ m2, m = m2 + 1 := ⟨m - 1, by omega⟩
              exact wz_k1 ⟨m2, by omega, xM9 + 2, Z61, (x5 + 1), (x6 + 1), (zconso rfl (zconso (zvo (rfl : i3 x1 = i3 x1)) (zconso (zvo (rfl : i3 x2 = i3 x2)) (zconso rfl (zconso (zvo (rfl : i3 x4 = i3 x4)) (zconso (zvo (i3A (rfl : i3 x5 = i3 x5) (show (1 : Int32) = i3 1 from rfl))) (zconso (zvo (i3A (rfl : i3 x6 = i3 x6) (show (1 : Int32) = i3 1 from rfl))) (zconso rfl (zconso rfl rfl))))))))), rfl, by omega, (zbt hZ61I rfl), hZ61K, hZ61U, by omega, by omega, by omega, by omega,  hP⟩
            · replace hP := zE_n hP h44
              obtain ⟨m2, rfl⟩ : ∃ m2, m = m2 + 1 := ⟨m - 1, by omega⟩
              exact wz_k1 ⟨m2, by omega, xM9 + 1, Z42, (x5 + 1), (x6 + 1), (zconso rfl (zconso (zvo (rfl : i3 x1 = i3 x1)) (zconso (zvo (rfl : i3 x2 = i3 x2)) (zconso rfl (zconso (zvo (rfl : i3 x4 = i3 x4)) (zconso (zvo (i3A (rfl : i3 x5 = i3 x5) (show (1 : Int32) = i3 1 from rfl))) (zconso (zvo (i3A (rfl : i3 x6 = i3 x6) (show (1 : Int32) = i3 1 from rfl))) (zconso rfl (zconso rfl rfl))))))))), rfl, by omega, (zbt hZ42I rfl), hZ42K, hZ42U, by omega, by omega, by omega, by omega,  hP⟩
        · replace hP := zE_n hP h19
          obtain ⟨Z62, v63, hv63, c9, hZ62I, kZ62, jZ62, lv63, uv63⟩ := sp_105 (ν := ν) hZ18I x0b (a1 := x6) (by omega) (a2 := 3) (by omega) (zbh (c := 1) (k := 63) hM9 (Nat.le_of_ble_eq_true rfl))
          have hZ62U : zU [x0b] Zs Z62 := zU_t hZ18U jZ62 (zU_b1 (List.Mem.head _) zU_b0)
          have hZ62K : zC [14, 43, 44, 45, 46, 47, 48, 49, 51, 52, 53, 1111, 1112] Zs Z62 := zC_t hZ18K kZ62 (by decide)
          replace hZ62I := zbt (c := 64) hZ62I rfl
          replace hP := zl_e2 hP hv63
          refine wz_cI_of (zas (zcons rfl (zcons (zvi (rfl : i3 x6 = i3 x6)) (zcons (zvi (show (3 : Int32) = i3 3 from rfl)) rfl))) c9) ?_
          clear c9 hv63
          have r64 := zH_f hZ62I 51 x0b x3ij 6
          have r65 := w3_r ((Z62 51 x0b x3ij 6) + 1)
          obtain ⟨Z66, hZ66⟩ := zx (zu Z62 51 x0b x3ij 6 (w3 ((Z62 51 x0b x3ij 6) + 1)))
          replace hP := zl_e hP hZ66
          have hZ66I := zH_u hZ62I hZ66 (lo := -2147483648) (hi := 2147483647) (by decide) rfl (by omega) ⟨by decide, by decide⟩ (Or.inl (by decide)) rfl
          have hZ66U : zU [x0b] Zs Z66 := zU_u hZ62U hZ66 (Or.inr (List.Mem.head _))
          have hZ66K : zC [14, 43, 44, 45, 46, 47, 48, 49, 51, 52, 53, 1111, 1112] Zs Z66 := zC_u hZ62K hZ66 (by decide)
          intro μ9 e9
          replace e9 := e9.trans (zm_wI (Z := Z62) (ν := ν) hZ66 (rfl : ((x0b : Nat) : Int) = x0b) ex3i (show ((6 : Nat) : Int) = 6 from rfl) (i3W (i3A (zm_rd (Z := Z62) (ν := ν) (k := 51) (rfl : ((x0b : Nat) : Int) = x0b) ex3i (show ((6 : Nat) : Int) = 6 from rfl)) (show (1 : Int32) = i3 1 from rfl))))
          subst e9
          have r67 := zH_k hZ66I 13 x0b 0 3 (lo := 0) (hi := 99999) (by decide) rfl
          refine wz_br (i3NE (zm_rd (Z := Z66) (ν := ν) (k := 13) (rfl : ((x0b : Nat) : Int) = x0b) (show ((0 : Nat) : Int) = 0 from rfl) (show ((3 : Nat) : Int) = 3 from rfl)) (show (0 : Int32) = i3 0 from rfl) (by omega) (by omega) (by omega) (by omega)) (fun h68 => ?_) (fun h68 => ?_)
          · replace hP := zE_p hP h68
            have r69 := zH_f hZ66I 14 x0b 0 0
            have r70 := w3_r ((Z66 14 x0b 0 0) - (Z66 13 x0b 0 3))
            obtain ⟨Z71, hZ71⟩ := zx (zu Z66 14 x0b 0 0 (w3 ((Z66 14 x0b 0 0) - (Z66 13 x0b 0 3))))
            replace hP := zl_e hP hZ71
            have hZ71I := zH_u hZ66I hZ71 (lo := -2147483648) (hi := 2147483647) (by decide) rfl (by omega) ⟨by decide, by decide⟩ (Or.inl (by decide)) rfl
            have hZ71U : zU [x0b] Zs Z71 := zU_u hZ66U hZ71 (Or.inr (List.Mem.head _))
            have hZ71K : zC [14, 43, 44, 45, 46, 47, 48, 49, 51, 52, 53, 1111, 1112] Zs Z71 := zC_u hZ66K hZ71 (by decide)
            intro μ9 e9
            replace e9 := e9.trans (zm_wI (Z := Z66) (ν := ν) hZ71 (rfl : ((x0b : Nat) : Int) = x0b) (show ((0 : Nat) : Int) = 0 from rfl) (show ((0 : Nat) : Int) = 0 from rfl) (i3W (i3S (zm_rd (Z := Z66) (ν := ν) (k := 14) (rfl : ((x0b : Nat) : Int) = x0b) (show ((0 : Nat) : Int) = 0 from rfl) (show ((0 : Nat) : Int) = 0 from rfl)) (zm_rd (Z := Z66) (ν := ν) (k := 13) (rfl : ((x0b : Nat) : Int) = x0b) (show ((0 : Nat) : Int) = 0 from rfl) (show ((3 : Nat) : Int) = 3 from rfl)))))
            subst e9
            have r72 := zH_f hZ71I 14 x0b 0 7
            have r73 := w3_r ((Z71 14 x0b 0 7) + (Z66 13 x0b 0 3))
            obtain ⟨Z74, hZ74⟩ := zx (zu Z71 14 x0b 0 7 (w3 ((Z71 14 x0b 0 7) + (Z66 13 x0b 0 3))))
            replace hP := zl_e hP hZ74
            have hZ74I := zH_u hZ71I hZ74 (lo := -2147483648) (hi := 2147483647) (by decide) rfl (by omega) ⟨by decide, by decide⟩ (Or.inl (by decide)) rfl
            have hZ74U : zU [x0b] Zs Z74 := zU_u hZ71U hZ74 (Or.inr (List.Mem.head _))
            have hZ74K : zC [14, 43, 44, 45, 46, 47, 48, 49, 51, 52, 53, 1111, 1112] Zs Z74 := zC_u hZ71K hZ74 (by decide)
            intro μ9 e9
            replace e9 := e9.trans (zm_wI (Z := Z71) (ν := ν) hZ74 (rfl : ((x0b : Nat) : Int) = x0b) (show ((0 : Nat) : Int) = 0 from rfl) (show ((7 : Nat) : Int) = 7 from rfl) (i3W (i3A (zm_rd (Z := Z71) (ν := ν) (k := 14) (rfl : ((x0b : Nat) : Int) = x0b) (show ((0 : Nat) : Int) = 0 from rfl) (show ((7 : Nat) : Int) = 7 from rfl)) (zm_rd (Z := Z66) (ν := ν) (k := 13) (rfl : ((x0b : Nat) : Int) = x0b) (show ((0 : Nat) : Int) = 0 from rfl) (show ((3 : Nat) : Int) = 3 from rfl)))))
            subst e9
            have r75 := zH_c12 hZ74I x0b (zbh (c := 64) (k := 0) hM9 (Nat.le_of_ble_eq_true rfl))
            refine wz_i0 (i3O (n := 60) (i3R (zm_rd (Z := Z74) (ν := ν) (k := 11) (rfl : ((x0b : Nat) : Int) = x0b) (show ((0 : Nat) : Int) = 0 from rfl) (show ((12 : Nat) : Int) = 12 from rfl)) (show (60 : Int32) = i3 60 from rfl) (by omega) (by omega) (by omega) (by omega)) (by omega) (by omega) (by omega)) ?_
            obtain ⟨Z76, hZ76⟩ := zx (zu Z74 53 x0b ((Z74 11 x0b 0 12) % 60) 0 0)
            replace hP := zl_e hP hZ76
            have hZ76I := zH_0 hZ74I hZ76 (by decide) (Or.inl (by decide))
            have hZ76U : zU [x0b] Zs Z76 := zU_u hZ74U hZ76 (Or.inr (List.Mem.head _))
            have hZ76K : zC [14, 43, 44, 45, 46, 47, 48, 49, 51, 52, 53, 1111, 1112] Zs Z76 := zC_u hZ74K hZ76 (by decide)
            intro μ9 e9
            replace e9 := e9.trans (zm_wI (Z := Z74) (ν := ν) hZ76 (rfl : ((x0b : Nat) : Int) = x0b) (i3I (y := ((Z74 11 x0b 0 12) % 60)) (i3R (zm_rd (Z := Z74) (ν := ν) (k := 11) (rfl : ((x0b : Nat) : Int) = x0b) (show ((0 : Nat) : Int) = 0 from rfl) (show ((12 : Nat) : Int) = 12 from rfl)) (show (60 : Int32) = i3 60 from rfl) (by omega) (by omega) (by omega) (by omega)) (by omega) (by omega) (by omega)) (show ((0 : Nat) : Int) = 0 from rfl) (show (0 : Int32) = i3 0 from rfl))
            subst e9
            obtain ⟨Z77, hZ77⟩ := zx (zu Z76 53 x0b ((Z74 11 x0b 0 12) % 60) 1 7)
            replace hP := zl_e hP hZ77
            have hZ77I := zH_u hZ76I hZ77 (lo := -2147483648) (hi := 2147483647) (by decide) rfl (by omega) ⟨by decide, by decide⟩ (Or.inl (by decide)) rfl
            have hZ77U : zU [x0b] Zs Z77 := zU_u hZ76U hZ77 (Or.inr (List.Mem.head _))
            have hZ77K : zC [14, 43, 44, 45, 46, 47, 48, 49, 51, 52, 53, 1111, 1112] Zs Z77 := zC_u hZ76K hZ77 (by decide)
            intro μ9 e9
            replace e9 := e9.trans (zm_wI (Z := Z76) (ν := ν) hZ77 (rfl : ((x0b : Nat) : Int) = x0b) (i3I (y := ((Z74 11 x0b 0 12) % 60)) (i3R (zm_rd (Z := Z74) (ν := ν) (k := 11) (rfl : ((x0b : Nat) : Int) = x0b) (show ((0 : Nat) : Int) = 0 from rfl) (show ((12 : Nat) : Int) = 12 from rfl)) (show (60 : Int32) = i3 60 from rfl) (by omega) (by omega) (by omega) (by omega)) (by omega) (by omega) (by omega)) (show ((1 : Nat) : Int) = 1 from rfl) (show (7 : Int32) = i3 7 from rfl))
            subst e9
            obtain ⟨Z78, hZ78⟩ := zx (zu Z77 53 x0b ((Z74 11 x0b 0 12) % 60) 2 (Z66 13 x0b 0 3))
            replace hP := zl_e hP hZ78
            have hZ78I := zH_u hZ77I hZ78 (lo := -2147483648) (hi := 2147483647) (by decide) rfl (by omega) ⟨by decide, by decide⟩ (Or.inl (by decide)) rfl
            have hZ78U : zU [x0b] Zs Z78 := zU_u hZ77U hZ78 (Or.inr (List.Mem.head _))
            have hZ78K : zC [14, 43, 44, 45, 46, 47, 48, 49, 51, 52, 53, 1111, 1112] Zs Z78 := zC_u hZ77K hZ78 (by decide)
            intro μ9 e9
            replace e9 := e9.trans (zm_wI (Z := Z77) (ν := ν) hZ78 (rfl : ((x0b : Nat) : Int) = x0b) (i3I (y := ((Z74 11 x0b 0 12) % 60)) (i3R (zm_rd (Z := Z74) (ν := ν) (k := 11) (rfl : ((x0b : Nat) : Int) = x0b) (show ((0 : Nat) : Int) = 0 from rfl) (show ((12 : Nat) : Int) = 12 from rfl)) (show (60 : Int32) = i3 60 from rfl) (by omega) (by omega) (by omega) (by omega)) (by omega) (by omega) (by omega)) (show ((2 : Nat) : Int) = 2 from rfl) (zm_rd (Z := Z66) (ν := ν) (k := 13) (rfl : ((x0b : Nat) : Int) = x0b) (show ((0 : Nat) : Int) = 0 from rfl) (show ((3 : Nat) : Int) = 3 from rfl)))
            subst e9
            obtain ⟨Z79, hZ79⟩ := zx (zu Z78 53 x0b ((Z74 11 x0b 0 12) % 60) 3 x6)
            replace hP := zl_e hP hZ79
            have hZ79I := zH_u hZ78I hZ79 (lo := -2147483648) (hi := 2147483647) (by decide) rfl (by omega) ⟨by decide, by decide⟩ (Or.inl (by decide)) rfl
            have hZ79U : zU [x0b] Zs Z79 := zU_u hZ78U hZ79 (Or.inr (List.Mem.head _))
            have hZ79K : zC [14, 43, 44, 45, 46, 47, 48, 49, 51, 52, 53, 1111, 1112] Zs Z79 := zC_u hZ78K hZ79 (by decide)
            intro μ9 e9
            replace e9 := e9.trans (zm_wI (Z := Z78) (ν := ν) hZ79 (rfl : ((x0b : Nat) : Int) = x0b) (i3I (y := ((Z74 11 x0b 0 12) % 60)) (i3R (zm_rd (Z := Z74) (ν := ν) (k := 11) (rfl : ((x0b : Nat) : Int) = x0b) (show ((0 : Nat) : Int) = 0 from rfl) (show ((12 : Nat) : Int) = 12 from rfl)) (show (60 : Int32) = i3 60 from rfl) (by omega) (by omega) (by omega) (by omega)) (by omega) (by omega) (by omega)) (show ((3 : Nat) : Int) = 3 from rfl) (rfl : i3 x6 = i3 x6))
            subst e9
            have r80 := zH_k hZ79I 11 x0b 0 13 (lo := 0) (hi := 671) (by decide) rfl
            have q81 := (zu_ne (k' := 11) (b' := x0b) (i' := 0) (j' := 13) hZ79 (fun q => absurd q.1 (by decide))).trans ((zu_ne (k' := 11) (b' := x0b) (i' := 0) (j' := 13) hZ78 (fun q => absurd q.1 (by decide))).trans ((zu_ne (k' := 11) (b' := x0b) (i' := 0) (j' := 13) hZ77 (fun q => absurd q.1 (by decide))).trans ((zu_ne (k' := 11) (b' := x0b) (i' := 0) (j' := 13) hZ76 (fun q => absurd q.1 (by decide))).trans ((zu_ne (k' := 11) (b' := x0b) (i' := 0) (j' := 13) hZ74 (fun q => absurd q.1 (by decide))).trans ((zu_ne (k' := 11) (b' := x0b) (i' := 0) (j' := 13) hZ71 (fun q => absurd q.1 (by decide))).trans ((zu_ne (k' := 11) (b' := x0b) (i' := 0) (j' := 13) hZ66 (fun q => absurd q.1 (by decide))).trans ((kZ62 11 x0b 0 13 (by decide)).trans ((zu_ne (k' := 11) (b' := x0b) (i' := 0) (j' := 13) hZ18 (fun q => absurd q.2.2.2 (by decide))).trans ((zu_ne (k' := 11) (b' := x0b) (i' := 0) (j' := 13) hZ15 (fun q => absurd q.1 (by decide))).trans ((zu_ne (k' := 11) (b' := x0b) (i' := 0) (j' := 13) hZ13 (fun q => absurd q.1 (by decide))).trans ((zu_ne (k' := 11) (b' := x0b) (i' := 0) (j' := 13) hZ12 (fun q => absurd q.1 (by decide))).trans ((zu_ne (k' := 11) (b' := x0b) (i' := 0) (j' := 13) hZ11 (fun q => absurd q.1 (by decide))).trans (zu_ne (k' := 11) (b' := x0b) (i' := 0) (j' := 13) hZ10 (fun q => absurd q.1 (by decide)))))))))))))))
            obtain ⟨Z82, hZ82⟩ := zx (zu Z79 53 x0b ((Z74 11 x0b 0 12) % 60) 4 (Z79 11 x0b 0 13))
            replace hP := zl_e hP hZ82
            have hZ82I := zH_u hZ79I hZ82 (lo := -2147483648) (hi := 2147483647) (by decide) rfl (by omega) ⟨by decide, by decide⟩ (Or.inl (by decide)) rfl
            have hZ82U : zU [x0b] Zs Z82 := zU_u hZ79U hZ82 (Or.inr (List.Mem.head _))
            have hZ82K : zC [14, 43, 44, 45, 46, 47, 48, 49, 51, 52, 53, 1111, 1112] Zs Z82 := zC_u hZ79K hZ82 (by decide)
            intro μ9 e9
            replace e9 := e9.trans (zm_wI (Z := Z79) (ν := ν) hZ82 (rfl : ((x0b : Nat) : Int) = x0b) (i3I (y := ((Z74 11 x0b 0 12) % 60)) (i3R (zm_rd (Z := Z74) (ν := ν) (k := 11) (rfl : ((x0b : Nat) : Int) = x0b) (show ((0 : Nat) : Int) = 0 from rfl) (show ((12 : Nat) : Int) = 12 from rfl)) (show (60 : Int32) = i3 60 from rfl) (by omega) (by omega) (by omega) (by omega)) (by omega) (by omega) (by omega)) (show ((4 : Nat) : Int) = 4 from rfl) (zm_rd (Z := Z79) (ν := ν) (k := 11) (rfl : ((x0b : Nat) : Int) = x0b) (show ((0 : Nat) : Int) = 0 from rfl) (show ((13 : Nat) : Int) = 13 from rfl)))
            subst e9
            have r83 := zH_c12 hZ82I x0b (zbh (c := 64) (k := 0) hM9 (Nat.le_of_ble_eq_true rfl))
            have q84 := (zu_ne (k' := 11) (b' := x0b) (i' := 0) (j' := 12) hZ82 (fun q => absurd q.1 (by decide))).trans ((zu_ne (k' := 11) (b' := x0b) (i' := 0) (j' := 12) hZ79 (fun q => absurd q.1 (by decide))).trans ((zu_ne (k' := 11) (b' := x0b) (i' := 0) (j' := 12) hZ78 (fun q => absurd q.1 (by decide))).trans ((zu_ne (k' := 11) (b' := x0b) (i' := 0) (j' := 12) hZ77 (fun q => absurd q.1 (by decide))).trans (zu_ne (k' := 11) (b' := x0b) (i' := 0) (j' := 12) hZ76 (fun q => absurd q.1 (by decide))))))
            obtain ⟨Z85, hZ85⟩ := zx (zu Z82 11 x0b 0 12 ((Z82 11 x0b 0 12) + 1))
            replace hP := zl_e hP hZ85
            have hZ85I := zH_i12 hZ82I hZ85 (zbh (c := 64) (k := 1) hM9 (Nat.le_of_ble_eq_true rfl)) (by omega)
            replace hZ85I := zbt (c := 65) hZ85I rfl
            have hZ85U : zU [x0b] Zs Z85 := zU_u hZ82U hZ85 (Or.inr (List.Mem.head _))
            have hZ85K : zC [14, 43, 44, 45, 46, 47, 48, 49, 51, 52, 53, 1111, 1112] Zs Z85 := zC_u hZ82K hZ85 (by decide)
            intro μ9 e9
            replace e9 := e9.trans (zm_wI (Z := Z82) (ν := ν) hZ85 (rfl : ((x0b : Nat) : Int) = x0b) (show ((0 : Nat) : Int) = 0 from rfl) (show ((12 : Nat) : Int) = 12 from rfl) (i3A (zm_rd (Z := Z82) (ν := ν) (k := 11) (rfl : ((x0b : Nat) : Int) = x0b) (show ((0 : Nat) : Int) = 0 from rfl) (show ((12 : Nat) : Int) = 12 from rfl)) (show (1 : Int32) = i3 1 from rfl)))
            subst e9
            obtain ⟨m2, rfl⟩ : ∃ m2, m = m2 + 1 := ⟨m - 1, by omega⟩
            exact wz_k1 ⟨m2, by omega, xM9 + 65, Z85, (x5 + 1), (x6 + 1), (zconso rfl (zconso (zvo (rfl : i3 x1 = i3 x1)) (zconso (zvo (rfl : i3 x2 = i3 x2)) (zconso rfl (zconso (zvo (rfl : i3 x4 = i3 x4)) (zconso (zvo (i3A (rfl : i3 x5 = i3 x5) (show (1 : Int32) = i3 1 from rfl))) (zconso (zvo (i3A (rfl : i3 x6 = i3 x6) (show (1 : Int32) = i3 1 from rfl))) (zconso rfl (zconso rfl rfl))))))))), rfl, by omega, (zbt hZ85I rfl), hZ85K, hZ85U, by omega, by omega, by omega, by omega,  hP⟩
          · replace hP := zE_n hP h68
            obtain ⟨m2, rfl⟩ : ∃ m2, m = m2 + 1 := ⟨m - 1, by omega⟩
            exact wz_k1 ⟨m2, by omega, xM9 + 64, Z66, (x5 + 1), (x6 + 1), (zconso rfl (zconso (zvo (rfl : i3 x1 = i3 x1)) (zconso (zvo (rfl : i3 x2 = i3 x2)) (zconso rfl (zconso (zvo (rfl : i3 x4 = i3 x4)) (zconso (zvo (i3A (rfl : i3 x5 = i3 x5) (show (1 : Int32) = i3 1 from rfl))) (zconso (zvo (i3A (rfl : i3 x6 = i3 x6) (show (1 : Int32) = i3 1 from rfl))) (zconso rfl (zconso rfl rfl))))))))), rfl, by omega, (zbt hZ66I rfl), hZ66K, hZ66U, by omega, by omega, by omega, by omega,  hP⟩
/- yX7_look -/
def zf_136 (Z : qz_Z) (a0b : Int) (a1 : Int) (a2 : Int) : qz_Z × Int := (if a2 ≠ 7 then (zlet3 (zl_136_1 a0b a1 a1 a2 (a2 - 1) 49 Z 0 0) (fun Z4 y2 y3 => (zlet (zu Z4 51 a0b a1 5 (w3 ((Z4 51 a0b a1 5) + y2))) (fun Z8 => (zlet (zu Z8 51 a0b a1 4 (w3 ((Z8 51 a0b a1 4) + 1))) (fun Z11 => (zlet (zu Z11 51 a0b a1 7 (Z11 11 a0b 0 13)) (fun Z13 => (if y2 < (4 - (Z13 51 a0b a1 1)) then (Z13, y2) else (zlet (zu Z13 43 a0b ((-1) + a2) 10 ((Z13 11 a0b 0 13) + 24)) (fun Z18 => (Z18, y2)))))))))))) else (zlet3 (zl_136_1 a0b a1 a1 a2 6 49 Z 0 0) (fun Z21 y19 y20 => (zlet (zu Z21 51 a0b a1 5 (w3 ((Z21 51 a0b a1 5) + y19))) (fun Z25 => (zlet (zu Z25 51 a0b a1 4 (w3 ((Z25 51 a0b a1 4) + 1))) (fun Z28 => (zlet (zu Z28 51 a0b a1 7 (Z28 11 a0b 0 13)) (fun Z30 => (Z30, y19))))))))))
theorem sp_136 {s : zSM} {Z : qz_Z} {ν : qz_N} (hZ : zH s Z) (a0b : Nat) {a1 : Int} (ga1 : 0 ≤ a1 ∧ a1 ≤ 1) {a2 : Int} (ga2 : 1 ≤ a2 ∧ a2 ≤ 7) (hM : s.2 + 3185 ≤ 1000000000) : ∃ (Z1 : qz_Z) (P : Int), (Z1, P) = zf_136 Z a0b a1 a2 ∧ (qf_136 [.inr (.inr (some (10, a0b, 0))), .inl (i3 a1), .inl (i3 a2)] (zm Z ν) = some (zm Z1 ν, .inl (some (.inl (i3 P)))) ∧ zH (zb s 3185) Z1 ∧ zC [14, 43, 44, 45, 46, 47, 48, 49, 51, 52, 53, 1111, 1112] Z Z1 ∧ zU [a0b] Z Z1 ∧ 0 ≤ P ∧ P ≤ 48) := by
  obtain ⟨P, hP⟩ := zx (zf_136 Z a0b a1 a2)
  refine zc_W (Q := fun Z1 P => zH (zb s 3185) Z1 ∧ zC [14, 43, 44, 45, 46, 47, 48, 49, 51, 52, 53, 1111, 1112] Z Z1 ∧ zU [a0b] Z Z1 ∧ 0 ≤ P ∧ P ≤ 48) hP (fw_136 a0b (i3 a1) (i3 a2) _ _ ?_)
  replace hP : zE P (zf_136 Z a0b a1 a2) := hP
  unfold zf_136 at hP
  refine wz_i0 (i3O (n := 2) (rfl : i3 a1 = i3 a1) (by omega) (by omega) (by omega)) ?_
  refine wz_br (i3NE (rfl : i3 a2 = i3 a2) (show (7 : Int32) = i3 7 from rfl) (by omega) (by omega) (by omega) (by omega)) (fun h1 => ?_) (fun h1 => ?_)
  · replace hP := zE_p hP h1
    refine sl_136_1 (ν := ν) (zb0 hZ) (zbh (c := 0) (k := 3185) hM (Nat.le_of_ble_eq_true rfl)) (xM9 := 0) zC_r a0b _ (i3I (y := a1) (rfl : i3 a1 = i3 a1) (by omega) (by omega) (by omega)) (by omega) (x1 := a1) (by omega) (x2 := a2) (by omega) (x4 := (a2 - 1)) (by omega) (x5 := 0) (by omega) (x6 := 0) (by omega) zU_r (Nat.le_of_ble_eq_true rfl) (by omega) (zconso rfl (zconso (zvo (rfl : i3 a1 = i3 a1)) (zconso (zvo (rfl : i3 a2 = i3 a2)) (zconso rfl (zconso (zvo (i3S (rfl : i3 a2 = i3 a2) (show (1 : Int32) = i3 1 from rfl))) (zconso (zvo (show (0 : Int32) = i3 0 from rfl)) (zconso (zvo (show (0 : Int32) = i3 0 from rfl)) (zconso rfl (zconso rfl rfl))))))))) rfl ?_
    intro L5 Z4 y2 y3 hL5 hZ4I kZ4 jZ4 gy2 gy3 gL5_0 q9
    replace hP := zl_e3 hP (Eq.symm q9)
    clear q9
    have hZ4U : zU [a0b] Z Z4 := zU_t zU_r jZ4 (zU_b1 (List.Mem.head _) zU_b0)
    have hZ4K : zC [14, 43, 44, 45, 46, 47, 48, 49, 51, 52, 53, 1111, 1112] Z Z4 := zC_t zC_r kZ4 (by decide)
    refine fc_136_2 _ _ (i3 (a2 - 1)) (i3 y2) _ _ _ _ hL5 ?_
    have r6 := zH_f hZ4I 51 a0b a1 5
    have r7 := w3_r ((Z4 51 a0b a1 5) + y2)
    obtain ⟨Z8, hZ8⟩ := zx (zu Z4 51 a0b a1 5 (w3 ((Z4 51 a0b a1 5) + y2)))
    replace hP := zl_e hP hZ8
    have hZ8I := zH_u hZ4I hZ8 (lo := -2147483648) (hi := 2147483647) (by decide) rfl (by omega) ⟨by decide, by decide⟩ (Or.inl (by decide)) rfl
    have hZ8U : zU [a0b] Z Z8 := zU_u hZ4U hZ8 (Or.inr (List.Mem.head _))
    have hZ8K : zC [14, 43, 44, 45, 46, 47, 48, 49, 51, 52, 53, 1111, 1112] Z Z8 := zC_u hZ4K hZ8 (by decide)
    intro μ9 e9
    replace e9 := e9.trans (zm_wI (Z := Z4) (ν := ν) hZ8 (rfl : ((a0b : Nat) : Int) = a0b) (i3I (y := a1) (rfl : i3 a1 = i3 a1) (by omega) (by omega) (by omega)) (show ((5 : Nat) : Int) = 5 from rfl) (i3W (i3A (zm_rd (Z := Z4) (ν := ν) (k := 51) (rfl : ((a0b : Nat) : Int) = a0b) (i3I (y := a1) (rfl : i3 a1 = i3 a1) (by omega) (by omega) (by omega)) (show ((5 : Nat) : Int) = 5 from rfl)) (rfl : i3 y2 = i3 y2))))
    subst e9
    have r9 := zH_f hZ8I 51 a0b a1 4
    have r10 := w3_r ((Z8 51 a0b a1 4) + 1)
    obtain ⟨Z11, hZ11⟩ := zx (zu Z8 51 a0b a1 4 (w3 ((Z8 51 a0b a1 4) + 1)))
    replace hP := zl_e hP hZ11
    have hZ11I := zH_u hZ8I hZ11 (lo := -2147483648) (hi := 2147483647) (by decide) rfl (by omega) ⟨by decide, by decide⟩ (Or.inl (by decide)) rfl
    have hZ11U : zU [a0b] Z Z11 := zU_u hZ8U hZ11 (Or.inr (List.Mem.head _))
    have hZ11K : zC [14, 43, 44, 45, 46, 47, 48, 49, 51, 52, 53, 1111, 1112] Z Z11 := zC_u hZ8K hZ11 (by decide)
    intro μ9 e9
    replace e9 := e9.trans (zm_wI (Z := Z8) (ν := ν) hZ11 (rfl : ((a0b : Nat) : Int) = a0b) (i3I (y := a1) (rfl : i3 a1 = i3 a1) (by omega) (by omega) (by omega)) (show ((4 : Nat) : Int) = 4 from rfl) (i3W (i3A (zm_rd (Z := Z8) (ν := ν) (k := 51) (rfl : ((a0b : Nat) : Int) = a0b) (i3I (y := a1) (rfl : i3 a1 = i3 a1) (by omega) (by omega) (by omega)) (show ((4 : Nat) : Int) = 4 from rfl)) (show (1 : Int32) = i3 1 from rfl))))
    subst e9
    have r12 := zH_k hZ11I 11 a0b 0 13 (lo := 0) (hi := 671) (by decide) rfl
    obtain ⟨Z13, hZ13⟩ := zx (zu Z11 51 a0b a1 7 (Z11 11 a0b 0 13))
    replace hP := zl_e hP hZ13
    have hZ13I := zH_u hZ11I hZ13 (lo := -1) (hi := 671) (by decide) rfl (by omega) ⟨by decide, by decide⟩ (Or.inl (by decide)) rfl
    have hZ13U : zU [a0b] Z Z13 := zU_u hZ11U hZ13 (Or.inr (List.Mem.head _))
    have hZ13K : zC [14, 43, 44, 45, 46, 47, 48, 49, 51, 52, 53, 1111, 1112] Z Z13 := zC_u hZ11K hZ13 (by decide)
    intro μ9 e9
    replace e9 := e9.trans (zm_wI (Z := Z11) (ν := ν) hZ13 (rfl : ((a0b : Nat) : Int) = a0b) (i3I (y := a1) (rfl : i3 a1 = i3 a1) (by omega) (by omega) (by omega)) (show ((7 : Nat) : Int) = 7 from rfl) (zm_rd (Z := Z11) (ν := ν) (k := 11) (rfl : ((a0b : Nat) : Int) = a0b) (show ((0 : Nat) : Int) = 0 from rfl) (show ((13 : Nat) : Int) = 13 from rfl)))
    subst e9
    refine wz_i0 (Eq.trans (i3L (rfl : i3 (a2 - 1) = i3 (a2 - 1)) (show (0 : Int32) = i3 0 from rfl) (by omega) (by omega) (by omega) (by omega)) (decide_eq_false (by omega))) ?_
    refine wz_i0 (Eq.trans (i3Le (show (6 : Int32) = i3 6 from rfl) (rfl : i3 (a2 - 1) = i3 (a2 - 1)) (by omega) (by omega) (by omega) (by omega)) (decide_eq_false (by omega))) ?_
    have r14 := zH_k hZ13I 51 a0b a1 1 (lo := 0) (hi := 3) (by decide) rfl
    refine wz_br (i3L (rfl : i3 y2 = i3 y2) (i3S (show (4 : Int32) = i3 4 from rfl) (zm_rd (Z := Z13) (ν := ν) (k := 51) (rfl : ((a0b : Nat) : Int) = a0b) (i3I (y := a1) (rfl : i3 a1 = i3 a1) (by omega) (by omega) (by omega)) (show ((1 : Nat) : Int) = 1 from rfl))) (by omega) (by omega) (by omega) (by omega)) (fun h15 => ?_) (fun h15 => ?_)
    · replace hP := zE_p hP h15
      exact zlW hP (rfl : i3 y2 = i3 y2) ⟨hZ13I, hZ13K, hZ13U, by omega, by omega⟩
    · replace hP := zE_n hP h15
      refine wz_i0 (i3O (n := 6) (rfl : i3 (a2 - 1) = i3 (a2 - 1)) (by omega) (by omega) (by omega)) ?_
      have r16 := zH_k hZ13I 11 a0b 0 13 (lo := 0) (hi := 671) (by decide) rfl
      have q17 := zu_ne (k' := 11) (b' := a0b) (i' := 0) (j' := 13) hZ13 (fun q => absurd q.1 (by decide))
      obtain ⟨Z18, hZ18⟩ := zx (zu Z13 43 a0b ((-1) + a2) 10 ((Z13 11 a0b 0 13) + 24))
      replace hP := zl_e hP hZ18
      have hZ18I := zH_u hZ13I hZ18 (lo := -1) (hi := 695) (by decide) rfl (by omega) ⟨by decide, by decide⟩ (Or.inl (by decide)) rfl
      have hZ18U : zU [a0b] Z Z18 := zU_u hZ13U hZ18 (Or.inr (List.Mem.head _))
      have hZ18K : zC [14, 43, 44, 45, 46, 47, 48, 49, 51, 52, 53, 1111, 1112] Z Z18 := zC_u hZ13K hZ18 (by decide)
      intro μ9 e9
      replace e9 := e9.trans (zm_wI (Z := Z13) (ν := ν) hZ18 (rfl : ((a0b : Nat) : Int) = a0b) (i3I (y := ((-1) + a2)) (rfl : i3 (a2 - 1) = i3 (a2 - 1)) (by omega) (by omega) (by omega)) (show ((10 : Nat) : Int) = 10 from rfl) (i3A (zm_rd (Z := Z13) (ν := ν) (k := 11) (rfl : ((a0b : Nat) : Int) = a0b) (show ((0 : Nat) : Int) = 0 from rfl) (show ((13 : Nat) : Int) = 13 from rfl)) (show (24 : Int32) = i3 24 from rfl)))
      subst e9
      exact zlW hP (rfl : i3 y2 = i3 y2) ⟨hZ18I, hZ18K, hZ18U, by omega, by omega⟩
  · replace hP := zE_n hP h1
    refine sl_136_1 (ν := ν) (zb0 hZ) (zbh (c := 0) (k := 3185) hM (Nat.le_of_ble_eq_true rfl)) (xM9 := 0) zC_r a0b _ (i3I (y := a1) (rfl : i3 a1 = i3 a1) (by omega) (by omega) (by omega)) (by omega) (x1 := a1) (by omega) (x2 := a2) (by omega) (x4 := 6) (by omega) (x5 := 0) (by omega) (x6 := 0) (by omega) zU_r (Nat.le_of_ble_eq_true rfl) (by omega) (zconso rfl (zconso (zvo (rfl : i3 a1 = i3 a1)) (zconso (zvo (rfl : i3 a2 = i3 a2)) (zconso rfl (zconso (zvo (show (6 : Int32) = i3 6 from rfl)) (zconso (zvo (show (0 : Int32) = i3 0 from rfl)) (zconso (zvo (show (0 : Int32) = i3 0 from rfl)) (zconso rfl (zconso rfl rfl))))))))) rfl ?_
    intro L22 Z21 y19 y20 hL22 hZ21I kZ21 jZ21 gy19 gy20 gL22_0 q9
    replace hP := zl_e3 hP (Eq.symm q9)
    clear q9
    have hZ21U : zU [a0b] Z Z21 := zU_t zU_r jZ21 (zU_b1 (List.Mem.head _) zU_b0)
    have hZ21K : zC [14, 43, 44, 45, 46, 47, 48, 49, 51, 52, 53, 1111, 1112] Z Z21 := zC_t zC_r kZ21 (by decide)
    refine fc_136_2 _ _ (i3 6) (i3 y19) _ _ _ _ hL22 ?_
    have r23 := zH_f hZ21I 51 a0b a1 5
    have r24 := w3_r ((Z21 51 a0b a1 5) + y19)
    obtain ⟨Z25, hZ25⟩ := zx (zu Z21 51 a0b a1 5 (w3 ((Z21 51 a0b a1 5) + y19)))
    replace hP := zl_e hP hZ25
    have hZ25I := zH_u hZ21I hZ25 (lo := -2147483648) (hi := 2147483647) (by decide) rfl (by omega) ⟨by decide, by decide⟩ (Or.inl (by decide)) rfl
    have hZ25U : zU [a0b] Z Z25 := zU_u hZ21U hZ25 (Or.inr (List.Mem.head _))
    have hZ25K : zC [14, 43, 44, 45, 46, 47, 48, 49, 51, 52, 53, 1111, 1112] Z Z25 := zC_u hZ21K hZ25 (by decide)
    intro μ9 e9
    replace e9 := e9.trans (zm_wI (Z := Z21) (ν := ν) hZ25 (rfl : ((a0b : Nat) : Int) = a0b) (i3I (y := a1) (rfl : i3 a1 = i3 a1) (by omega) (by omega) (by omega)) (show ((5 : Nat) : Int) = 5 from rfl) (i3W (i3A (zm_rd (Z := Z21) (ν := ν) (k := 51) (rfl : ((a0b : Nat) : Int) = a0b) (i3I (y := a1) (rfl : i3 a1 = i3 a1) (by omega) (by omega) (by omega)) (show ((5 : Nat) : Int) = 5 from rfl)) (rfl : i3 y19 = i3 y19))))
    subst e9
    have r26 := zH_f hZ25I 51 a0b a1 4
    have r27 := w3_r ((Z25 51 a0b a1 4) + 1)
    obtain ⟨Z28, hZ28⟩ := zx (zu Z25 51 a0b a1 4 (w3 ((Z25 51 a0b a1 4) + 1)))
    replace hP := zl_e hP hZ28
    have hZ28I := zH_u hZ25I hZ28 (lo := -2147483648) (hi := 2147483647) (by decide) rfl (by omega) ⟨by decide, by decide⟩ (Or.inl (by decide)) rfl
    have hZ28U : zU [a0b] Z Z28 := zU_u hZ25U hZ28 (Or.inr (List.Mem.head _))
    have hZ28K : zC [14, 43, 44, 45, 46, 47, 48, 49, 51, 52, 53, 1111, 1112] Z Z28 := zC_u hZ25K hZ28 (by decide)
    intro μ9 e9
    replace e9 := e9.trans (zm_wI (Z := Z25) (ν := ν) hZ28 (rfl : ((a0b : Nat) : Int) = a0b) (i3I (y := a1) (rfl : i3 a1 = i3 a1) (by omega) (by omega) (by omega)) (show ((4 : Nat) : Int) = 4 from rfl) (i3W (i3A (zm_rd (Z := Z25) (ν := ν) (k := 51) (rfl : ((a0b : Nat) : Int) = a0b) (i3I (y := a1) (rfl : i3 a1 = i3 a1) (by omega) (by omega) (by omega)) (show ((4 : Nat) : Int) = 4 from rfl)) (show (1 : Int32) = i3 1 from rfl))))
    subst e9
    have r29 := zH_k hZ28I 11 a0b 0 13 (lo := 0) (hi := 671) (by decide) rfl
    obtain ⟨Z30, hZ30⟩ := zx (zu Z28 51 a0b a1 7 (Z28 11 a0b 0 13))
    replace hP := zl_e hP hZ30
    have hZ30I := zH_u hZ28I hZ30 (lo := -1) (hi := 671) (by decide) rfl (by omega) ⟨by decide, by decide⟩ (Or.inl (by decide)) rfl
    have hZ30U : zU [a0b] Z Z30 := zU_u hZ28U hZ30 (Or.inr (List.Mem.head _))
    have hZ30K : zC [14, 43, 44, 45, 46, 47, 48, 49, 51, 52, 53, 1111, 1112] Z Z30 := zC_u hZ28K hZ30 (by decide)
    intro μ9 e9
    replace e9 := e9.trans (zm_wI (Z := Z28) (ν := ν) hZ30 (rfl : ((a0b : Nat) : Int) = a0b) (i3I (y := a1) (rfl : i3 a1 = i3 a1) (by omega) (by omega) (by omega)) (show ((7 : Nat) : Int) = 7 from rfl) (zm_rd (Z := Z28) (ν := ν) (k := 11) (rfl : ((a0b : Nat) : Int) = a0b) (show ((0 : Nat) : Int) = 0 from rfl) (show ((13 : Nat) : Int) = 13 from rfl)))
    subst e9
    refine wz_i0 (Eq.trans (i3L (rfl : i3 6 = i3 6) (show (0 : Int32) = i3 0 from rfl) (by omega) (by omega) (by omega) (by omega)) (decide_eq_false (by omega))) ?_
    refine wz_i1 (Eq.trans (i3Le (show (6 : Int32) = i3 6 from rfl) (rfl : i3 6 = i3 6) (by omega) (by omega) (by omega) (by omega)) (decide_eq_true (by omega))) ?_
    exact zlW hP (rfl : i3 y19 = i3 y19) ⟨hZ30I, hZ30K, hZ30U, by omega, by omega⟩
/- yX7_stopAt -/
def zl_139_1 (x3 : Int) : Nat → qz_Z → Int → Int → Int × Int
  | 0, Z, x4, x5 => (x4, x5)
  | m + 1, Z, x4, x5 => (if x3 ≤ x5 then (x4, x5) else zl_139_1 x3 m Z (z2 (fun x y => x / y) x4 10) (x5 + 1))
theorem sl_139_1 {s : zSM} {Z : qz_Z} {ν : qz_N} (hZ : zH s Z) (hM : s.2 + 0 ≤ 1000000000) {x3 : Int} (gx3 : -24 ≤ x3 ∧ x3 ≤ 27) {x4 : Int} (gx4 : -2147483648 ≤ x4 ∧ x4 ≤ 2147483647) {x5 : Int} (gx5 : 0 ≤ x5 ∧ x5 ≤ 27) {k : wz_K} {R : wz_R} {L : qz_L} (hL : qz_fg [false, false, false, true, true, true] L = [none, none, none, some (.inl (i3 x3)), some (.inl (i3 x4)), some (.inl (i3 x5))]) {T : Int × Int} (hP : zE T (zl_139_1 x3 ((27 - x5).toNat + 1) Z x4 x5)) (hk : ∀ (L9 : qz_L) (yx4 yx5 : Int), qz_fg [false, false, false, false, true, false] L9 = [none, none, none, none, some (.inl (i3 yx4)), none] → (-2147483648 ≤ yx4 ∧ yx4 ≤ 2147483647) → (0 ≤ yx5 ∧ yx5 ≤ 27) → zE T ((yx4, yx5)) → k 0 (L9, [], zm Z ν)) : wz_loop qb_139_1 65536 k R (L, [], zm Z ν) := by
  refine wz_lp sb_139_1 (fun m x => ∃ x4 : Int, ∃ x5 : Int, qz_fg [false, false, false, true, true, true] x.1 = [none, none, none, some (.inl (i3 x3)), some (.inl (i3 x4)), some (.inl (i3 x5))] ∧ x.2 = ([], zm Z ν) ∧ m = (27 - x5).toNat ∧ (-2147483648 ≤ x4 ∧ x4 ≤ 2147483647) ∧ (0 ≤ x5 ∧ x5 ≤ 27) ∧ zE T (zl_139_1 x3 (m + 1) Z x4 x5)) ?_ 65536 ((27 - x5).toNat) _ (by omega) ⟨x4, x5, hL, rfl, rfl, gx4, gx5, hP⟩
  clear hP gx4 gx5 hL
  clear x4 x5
  rintro m ⟨L, st, μ⟩ ⟨x4, x5, hL, hx, hm, gx4, gx5, hP⟩
  cases hx
  refine fb_139_1 (i3 x3) (i3 x4) (i3 x5) _ _ _ _ hL ?_
  refine wz_br (i3Le (rfl : i3 x3 = i3 x3) (rfl : i3 x5 = i3 x5) (by omega) (by omega) (by omega) (by omega)) (fun h1 => ?_) (fun h1 => ?_)
  · replace hP := zE_p hP h1
    exact hk _ _ _ (zconso rfl (zconso rfl (zconso rfl (zconso rfl (zconso (zvo (rfl : i3 x4 = i3 x4)) (zconso rfl rfl))))))  (by omega) (by omega)  hP
  · replace hP := zE_n hP h1
    have r2 := z2_r (fun x y => x / y) x4 10
    obtain ⟨m2, rfl⟩ : ∃ m2, m = m2 + 1 := ⟨m - 1, by omega⟩
    exact wz_k1 ⟨m2, by omega, (z2 (fun x y => x / y) x4 10), (x5 + 1), (zconso rfl (zconso rfl (zconso rfl (zconso (zvo (rfl : i3 x3 = i3 x3)) (zconso (zvo (i3Z (fun x y => x / y) (rfl : i3 x4 = i3 x4) (show (10 : Int32) = i3 10 from rfl))) (zconso (zvo (i3A (rfl : i3 x5 = i3 x5) (show (1 : Int32) = i3 1 from rfl))) rfl)))))), rfl,  by omega, by omega, by omega,  hP⟩
/- yX7_stopAt -/
def zf_139 (Z : qz_Z) (a0b : Int) (a0ij : Int) (a1 : Int) : Int := (zlet (zf_133 Z (Z 51 a0b a0ij 3)) (fun v2 => (if ((a1 % 24) - (Z 51 a0b a0ij 0)) < 0 then (-1) else (if ((v2 - 1) - ((a1 % 24) - (Z 51 a0b a0ij 0))) < 0 then (-1) else (if (z2 (fun x y => x &&& y) (z2 (fun x y => x >>> (y &&& 31)) (Z 51 a0b a0ij 2) ((a1 / 24) % 7)) 1) ≠ 0 then (zlet2 (zl_139_1 ((v2 - 1) - ((a1 % 24) - (Z 51 a0b a0ij 0))) 28 Z (Z 51 a0b a0ij 3) 0) (fun y11 y12 => (z2 (fun x y => x - x / y * y) y11 10))) else (-1))))))
theorem sp_139 {s : zSM} {Z : qz_Z} {ν : qz_N} (hZ : zH s Z) (a0b : Nat) (a0i : Nat) {a0ij : Int} (ea0i : (a0i : Int) = a0ij) (ga0i : 0 ≤ a0ij ∧ a0ij ≤ 1) {a1 : Int} (ga1 : 0 ≤ a1 ∧ a1 ≤ 671) (hM : s.2 + 0 ≤ 1000000000) : ∃ P : Int, P = zf_139 Z a0b a0ij a1 ∧ (qf_139 [.inr (.inr (some (51, a0b, a0i))), .inl (i3 a1)] (zm Z ν) = some (zm Z ν, .inl (some (.inl (i3 P)))) ∧ -2147483648 ≤ P ∧ P ≤ 2147483647) := by
  obtain ⟨P, hP⟩ := zx (zf_139 Z a0b a0ij a1)
  refine zc_R (Q := fun P => -2147483648 ≤ P ∧ P ≤ 2147483647) hP (fw_139 a0b a0i (i3 a1) _ _ ?_)
  replace hP : zE P (zf_139 Z a0b a0ij a1) := hP
  unfold zf_139 at hP
  have r1 := zH_f hZ 51 a0b a0ij 3
  obtain ⟨v2, hv2, c9, lv2, uv2⟩ := sp_133z (ν := ν) hZ (a0 := (Z 51 a0b a0ij 3)) (by omega) (zbh (c := 0) (k := 0) hM (Nat.le_of_ble_eq_true rfl))
  replace hP := zl_e hP hv2
  refine wz_cI_of (zas (zcons (zvi (zm_rd (Z := Z) (ν := ν) (k := 51) (rfl : ((a0b : Nat) : Int) = a0b) ea0i (show ((3 : Nat) : Int) = 3 from rfl))) rfl) c9) ?_
  clear c9
  have r3 := zH_k hZ 51 a0b a0ij 0 (lo := 0) (hi := 18) (by decide) rfl
  refine wz_br (i3L (i3S (i3R (rfl : i3 a1 = i3 a1) (show (24 : Int32) = i3 24 from rfl) (by omega) (by omega) (by omega) (by omega)) (zm_rd (Z := Z) (ν := ν) (k := 51) (rfl : ((a0b : Nat) : Int) = a0b) ea0i (show ((0 : Nat) : Int) = 0 from rfl))) (show (0 : Int32) = i3 0 from rfl) (by omega) (by omega) (by omega) (by omega)) (fun h4 => ?_) (fun h4 => ?_)
  · replace hP := zE_p hP h4
    exact zlR hP (show (-1 : Int32) = i3 (-1) from rfl) ⟨by omega, by omega⟩
  · replace hP := zE_n hP h4
    refine wz_br (i3L (i3S (i3S (rfl : i3 v2 = i3 v2) (show (1 : Int32) = i3 1 from rfl)) (i3S (i3R (rfl : i3 a1 = i3 a1) (show (24 : Int32) = i3 24 from rfl) (by omega) (by omega) (by omega) (by omega)) (zm_rd (Z := Z) (ν := ν) (k := 51) (rfl : ((a0b : Nat) : Int) = a0b) ea0i (show ((0 : Nat) : Int) = 0 from rfl)))) (show (0 : Int32) = i3 0 from rfl) (by omega) (by omega) (by omega) (by omega)) (fun h5 => ?_) (fun h5 => ?_)
    · replace hP := zE_p hP h5
      exact zlR hP (show (-1 : Int32) = i3 (-1) from rfl) ⟨by omega, by omega⟩
    · replace hP := zE_n hP h5
      have r6 := zH_k hZ 51 a0b a0ij 2 (lo := 0) (hi := 127) (by decide) rfl
      have r7 := z2_r (fun x y => x >>> (y &&& 31)) (Z 51 a0b a0ij 2) ((a1 / 24) % 7)
      have r8 := z2_r (fun x y => x &&& y) (z2 (fun x y => x >>> (y &&& 31)) (Z 51 a0b a0ij 2) ((a1 / 24) % 7)) 1
      have r9 := z2_and (z2 (fun x y => x >>> (y &&& 31)) (Z 51 a0b a0ij 2) ((a1 / 24) % 7)) (y := 1) (by omega) (by omega)
      refine wz_br (i3NE (i3Z (fun x y => x &&& y) (i3Z (fun x y => x >>> (y &&& 31)) (zm_rd (Z := Z) (ν := ν) (k := 51) (rfl : ((a0b : Nat) : Int) = a0b) ea0i (show ((2 : Nat) : Int) = 2 from rfl)) (i3R (i3D (rfl : i3 a1 = i3 a1) (show (24 : Int32) = i3 24 from rfl) (by omega) (by omega) (by omega) (by omega)) (show (7 : Int32) = i3 7 from rfl) (by omega) (by omega) (by omega) (by omega))) (show (1 : Int32) = i3 1 from rfl)) (show (0 : Int32) = i3 0 from rfl) (by omega) (by omega) (by omega) (by omega)) (fun h10 => ?_) (fun h10 => ?_)
      · replace hP := zE_p hP h10
        refine sl_139_1 (ν := ν) hZ (zbh (c := 0) (k := 0) hM (Nat.le_of_ble_eq_true rfl)) (x3 := ((v2 - 1) - ((a1 % 24) - (Z 51 a0b a0ij 0)))) (by omega) (x4 := (Z 51 a0b a0ij 3)) (by omega) (x5 := 0) (by omega)  (zconso rfl (zconso rfl (zconso rfl (zconso (zvo (i3S (i3S (rfl : i3 v2 = i3 v2) (show (1 : Int32) = i3 1 from rfl)) (i3S (i3R (rfl : i3 a1 = i3 a1) (show (24 : Int32) = i3 24 from rfl) (by omega) (by omega) (by omega) (by omega)) (zm_rd (Z := Z) (ν := ν) (k := 51) (rfl : ((a0b : Nat) : Int) = a0b) ea0i (show ((0 : Nat) : Int) = 0 from rfl))))) (zconso (zvo (zm_rd (Z := Z) (ν := ν) (k := 51) (rfl : ((a0b : Nat) : Int) = a0b) ea0i (show ((3 : Nat) : Int) = 3 from rfl))) (zconso (zvo (show (0 : Int32) = i3 0 from rfl)) rfl)))))) rfl ?_
        intro L13 y11 y12 hL13 gy11 gy12 q9
        replace hP := zl_e2 hP (Eq.symm q9)
        clear q9
        refine fc_139_2 (i3 y11) _ _ _ _ hL13 ?_
        have r14 := z2_r (fun x y => x - x / y * y) y11 10
        exact zlR hP (i3Z (fun x y => x - x / y * y) (rfl : i3 y11 = i3 y11) (show (10 : Int32) = i3 10 from rfl)) ⟨by omega, by omega⟩
      · replace hP := zE_n hP h10
        exact zlR hP (show (-1 : Int32) = i3 (-1) from rfl) ⟨by omega, by omega⟩
