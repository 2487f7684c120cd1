/-! a season told, the class (printed by season.py c) -/
/- yX8_tellGoods -/
def zf_148 (Z : qz_Z) (sn hb : Int) : qz_Z := (zlet (zu Z 200 sn 0 2 (((25173 * (Z 200 sn 0 2)) + 13849) % 65536)) (fun Z2 => (zlet2 (zl_148_1 sn hb (2 + (((Z2 200 sn 0 2) / 16) % 4)) 6 Z2 0) (fun Z18 y17 => (zlet (zu Z18 200 sn 0 2 (((25173 * (Z18 200 sn 0 2)) + 13849) % 65536)) (fun Z21 => (zlet2 (zl_148_2 sn hb (2 + (((Z2 200 sn 0 2) / 16) % 4)) (2 + (((Z21 200 sn 0 2) / 16) % 5)) 7 Z21 0) (fun Z37 y36 => (zlet2 (zl_148_3 sn hb (2 + (((Z2 200 sn 0 2) / 16) % 4)) (2 + (((Z21 200 sn 0 2) / 16) % 5)) 13 Z37 0) (fun Z40 y39 => Z40))))))))))
theorem sp_148 {Z : qz_Z} {ν : qz_N} {sn : Nat} (hZ : zI (some (some (sn : Int))) Z) (hb : Nat) (tsn : ∀ Z, qz_tag (zm Z ν) (200, sn, 0) = 2) (rsn : ∀ Z, qz_rm (zm Z ν) 200 sn 0 0 = some (10, hb, 0)) (gx0 : Z 11 hb 0 0 = 0) (gx1 : Z 11 hb 0 1 = 0) (gx2 : Z 11 hb 0 3 = 0) (gx3 : 1 ≤ (sn : Int)) : ∃ P : qz_Z, P = zf_148 Z sn hb ∧ (qf_148 [.inr (.inr (some (200, sn, 0)))] (zm Z ν) = some (zm P ν, .inl none) ∧ zI (some (some (sn : Int))) P ∧ zK [11, 41, 42, 44, 200] Z P ∧ P 11 hb 0 3 = Z 200 sn 0 1 ∧ P 11 hb 0 2 = Z 11 hb 0 2 ∧ P 11 hb 0 4 = Z 11 hb 0 4 ∧ P 11 hb 0 5 = Z 11 hb 0 5 ∧ P 11 hb 0 7 = Z 11 hb 0 7 ∧ P 11 hb 0 8 = Z 11 hb 0 8 ∧ P 11 hb 0 9 = Z 11 hb 0 9 ∧ P 200 0 0 1 = Z 200 0 0 1 ∧ P 200 0 0 2 = Z 200 0 0 2) := by
  obtain ⟨P, hP⟩ := zx (zf_148 Z sn hb)
  refine zc_V (Q := fun P => zI (some (some (sn : Int))) P ∧ zK [11, 41, 42, 44, 200] Z P ∧ P 11 hb 0 3 = Z 200 sn 0 1 ∧ P 11 hb 0 2 = Z 11 hb 0 2 ∧ P 11 hb 0 4 = Z 11 hb 0 4 ∧ P 11 hb 0 5 = Z 11 hb 0 5 ∧ P 11 hb 0 7 = Z 11 hb 0 7 ∧ P 11 hb 0 8 = Z 11 hb 0 8 ∧ P 11 hb 0 9 = Z 11 hb 0 9 ∧ P 200 0 0 1 = Z 200 0 0 1 ∧ P 200 0 0 2 = Z 200 0 0 2) hP (fw_148 sn _ _ ?_)
  replace hP : zE P (zf_148 Z sn hb) := hP
  unfold zf_148 at hP
  have rs := zI_xs (n := sn) hZ
  refine wz_i1 (by rw [tsn]; rfl) ?_
  refine wz_i1 (by rw [tsn]; rfl) ?_
  refine wz_i1 (by rw [tsn]; rfl) ?_
  have r1 := zI_xr (n := sn) hZ
  obtain ⟨Z2, hZ2⟩ := zx (zu Z 200 sn 0 2 (((25173 * (Z 200 sn 0 2)) + 13849) % 65536))
  replace hP := zl_e hP hZ2
  have hZ2I := zI_x hZ hZ2 (by omega)
  have t3 : Z2 11 hb 0 0 = Z 11 hb 0 0 := zu_ne hZ2 (fun q => absurd q.1 (by decide))
  have t4 : Z2 11 hb 0 1 = Z 11 hb 0 1 := zu_ne hZ2 (fun q => absurd q.1 (by decide))
  have t5 : Z2 11 hb 0 3 = Z 11 hb 0 3 := zu_ne hZ2 (fun q => absurd q.1 (by decide))
  have t6 : Z2 200 0 0 1 = Z 200 0 0 1 := zu_ne hZ2 (fun q => absurd q.2.2.2 (by decide))
  have t7 : Z2 200 0 0 2 = Z 200 0 0 2 := zu_ne hZ2 (by omega)
  have t8 : Z2 200 sn 0 1 = Z 200 sn 0 1 := zu_ne hZ2 (fun q => absurd q.2.2.2 (by decide))
  have t9 : Z2 11 hb 0 2 = Z 11 hb 0 2 := zu_ne hZ2 (fun q => absurd q.1 (by decide))
  have t10 : Z2 11 hb 0 4 = Z 11 hb 0 4 := zu_ne hZ2 (fun q => absurd q.1 (by decide))
  have t11 : Z2 11 hb 0 5 = Z 11 hb 0 5 := zu_ne hZ2 (fun q => absurd q.1 (by decide))
  have t12 : Z2 11 hb 0 7 = Z 11 hb 0 7 := zu_ne hZ2 (fun q => absurd q.1 (by decide))
  have t13 : Z2 11 hb 0 8 = Z 11 hb 0 8 := zu_ne hZ2 (fun q => absurd q.1 (by decide))
  have t14 : Z2 11 hb 0 9 = Z 11 hb 0 9 := zu_ne hZ2 (fun q => absurd q.1 (by decide))
  have hZ2K : zK [11, 41, 42, 44, 200] Z Z2 := zK_u zK_r hZ2 (by decide)
  intro μ9 e9
  replace e9 := e9.trans (zm_wI (Z := Z) (ν := ν) hZ2 (rfl : ((sn : Nat) : Int) = sn) (show ((0 : Nat) : Int) = 0 from rfl) (show ((2 : Nat) : Int) = 2 from rfl) (i3R (i3A (i3M (show (25173 : Int32) = i3 25173 from rfl) (zm_rd (Z := Z) (ν := ν) (k := 200) (rfl : ((sn : Nat) : Int) = sn) (show ((0 : Nat) : Int) = 0 from rfl) (show ((2 : Nat) : Int) = 2 from rfl))) (show (13849 : Int32) = i3 13849 from rfl)) (show (65536 : Int32) = i3 65536 from rfl) (by omega) (by omega) (by omega) (by omega)))
  subst e9
  refine wz_i1 (by rw [tsn]; rfl) ?_
  have r15 := zI_xr (n := sn) hZ2I
  have q16 := zu_at hZ2
  refine sl_148_1 (ν := ν) sn hZ2I zK_r hb tsn rsn (x1 := (2 + (((Z2 200 sn 0 2) / 16) % 4))) (by omega) (x2 := 0) (by omega) (kc10 := Z2 200 sn 0 1) (kc9 := Z2 200 0 0 2) (kc8 := Z2 200 0 0 1) (kc7 := Z2 11 hb 0 9) (kc6 := Z2 11 hb 0 8) (kc5 := Z2 11 hb 0 7) (kc4 := Z2 11 hb 0 5) (kc3 := Z2 11 hb 0 4) (kc2 := Z2 11 hb 0 2) (kc1 := Z2 11 hb 0 3) (kc0 := Z2 11 hb 0 1) (by omega) (by omega) (by omega) (by omega) (by omega) (by omega) (by omega) (by omega) (by omega) (by omega) (by omega) (by omega) (by omega) (zconso rfl (zconso (zvo (i3A (show (2 : Int32) = i3 2 from rfl) (i3R (i3D (zm_rd (Z := Z2) (ν := ν) (k := 200) (rfl : ((sn : Nat) : Int) = sn) (show ((0 : Nat) : Int) = 0 from rfl) (show ((2 : Nat) : Int) = 2 from rfl)) (show (16 : Int32) = i3 16 from rfl) (by omega) (by omega) (by omega) (by omega)) (show (4 : Int32) = i3 4 from rfl) (by omega) (by omega) (by omega) (by omega)))) (zconso (zvo (show (0 : Int32) = i3 0 from rfl)) (zconso rfl (zconso rfl (zconso rfl (zconso rfl (zconso rfl (zconso rfl (zconso rfl rfl)))))))))) rfl ?_
  intro L19 Z18 y17 hL19 hZ18I kZ18 gy17 gL19_0 gL19_1 gL19_2 gL19_3 gL19_4 gL19_5 gL19_6 gL19_7 gL19_8 gL19_9 gL19_10 gL19_11 gL19_12 q9
  replace hP := zl_e2 hP (Eq.symm q9)
  clear q9
  have hZ18K : zK [11, 41, 42, 44, 200] Z Z18 := zK_t hZ2K kZ18 (by decide)
  refine fc_148_6 _ (i3 (2 + (((Z2 200 sn 0 2) / 16) % 4))) _ _ _ _ hL19 ?_
  refine wz_i1 (by rw [tsn]; rfl) ?_
  refine wz_i1 (by rw [tsn]; rfl) ?_
  refine wz_i1 (by rw [tsn]; rfl) ?_
  have r20 := zI_xr (n := sn) hZ18I
  obtain ⟨Z21, hZ21⟩ := zx (zu Z18 200 sn 0 2 (((25173 * (Z18 200 sn 0 2)) + 13849) % 65536))
  replace hP := zl_e hP hZ21
  have hZ21I := zI_x hZ18I hZ21 (by omega)
  have t22 : Z21 11 hb 0 0 = Z18 11 hb 0 0 := zu_ne hZ21 (fun q => absurd q.1 (by decide))
  have t23 : Z21 11 hb 0 1 = Z18 11 hb 0 1 := zu_ne hZ21 (fun q => absurd q.1 (by decide))
  have t24 : Z21 11 hb 0 3 = Z18 11 hb 0 3 := zu_ne hZ21 (fun q => absurd q.1 (by decide))
  have t25 : Z21 200 0 0 1 = Z18 200 0 0 1 := zu_ne hZ21 (fun q => absurd q.2.2.2 (by decide))
  have t26 : Z21 200 0 0 2 = Z18 200 0 0 2 := zu_ne hZ21 (by omega)
  have t27 : Z21 200 sn 0 1 = Z18 200 sn 0 1 := zu_ne hZ21 (fun q => absurd q.2.2.2 (by decide))
  have t28 : Z21 11 hb 0 2 = Z18 11 hb 0 2 := zu_ne hZ21 (fun q => absurd q.1 (by decide))
  have t29 : Z21 11 hb 0 4 = Z18 11 hb 0 4 := zu_ne hZ21 (fun q => absurd q.1 (by decide))
  have t30 : Z21 11 hb 0 5 = Z18 11 hb 0 5 := zu_ne hZ21 (fun q => absurd q.1 (by decide))
  have t31 : Z21 11 hb 0 7 = Z18 11 hb 0 7 := zu_ne hZ21 (fun q => absurd q.1 (by decide))
  have t32 : Z21 11 hb 0 8 = Z18 11 hb 0 8 := zu_ne hZ21 (fun q => absurd q.1 (by decide))
  have t33 : Z21 11 hb 0 9 = Z18 11 hb 0 9 := zu_ne hZ21 (fun q => absurd q.1 (by decide))
  have hZ21K := zK_u hZ18K hZ21 (by decide)
  intro μ9 e9
  replace e9 := e9.trans (zm_wI (Z := Z18) (ν := ν) hZ21 (rfl : ((sn : Nat) : Int) = sn) (show ((0 : Nat) : Int) = 0 from rfl) (show ((2 : Nat) : Int) = 2 from rfl) (i3R (i3A (i3M (show (25173 : Int32) = i3 25173 from rfl) (zm_rd (Z := Z18) (ν := ν) (k := 200) (rfl : ((sn : Nat) : Int) = sn) (show ((0 : Nat) : Int) = 0 from rfl) (show ((2 : Nat) : Int) = 2 from rfl))) (show (13849 : Int32) = i3 13849 from rfl)) (show (65536 : Int32) = i3 65536 from rfl) (by omega) (by omega) (by omega) (by omega)))
  subst e9
  refine wz_i1 (by rw [tsn]; rfl) ?_
  have r34 := zI_xr (n := sn) hZ21I
  have q35 := zu_at hZ21
  refine sl_148_2 (ν := ν) sn hZ21I zK_r hb tsn rsn (x1 := (2 + (((Z2 200 sn 0 2) / 16) % 4))) (by omega) (x2 := (2 + (((Z21 200 sn 0 2) / 16) % 5))) (by omega) (x3 := 0) (by omega) (kc10 := Z21 200 sn 0 1) (kc9 := Z21 200 0 0 2) (kc8 := Z21 200 0 0 1) (kc7 := Z21 11 hb 0 9) (kc6 := Z21 11 hb 0 8) (kc5 := Z21 11 hb 0 7) (kc4 := Z21 11 hb 0 5) (kc3 := Z21 11 hb 0 4) (kc2 := Z21 11 hb 0 2) (kc1 := Z21 11 hb 0 3) (kc0 := Z21 11 hb 0 0) (by omega) (by omega) (by omega) (by omega) (by omega) (by omega) (by omega) (by omega) (by omega) (by omega) (by omega) (by omega) (by omega) (zconso rfl (zconso (zvo (rfl : i3 (2 + (((Z2 200 sn 0 2) / 16) % 4)) = i3 (2 + (((Z2 200 sn 0 2) / 16) % 4)))) (zconso (zvo (i3A (show (2 : Int32) = i3 2 from rfl) (i3R (i3D (zm_rd (Z := Z21) (ν := ν) (k := 200) (rfl : ((sn : Nat) : Int) = sn) (show ((0 : Nat) : Int) = 0 from rfl) (show ((2 : Nat) : Int) = 2 from rfl)) (show (16 : Int32) = i3 16 from rfl) (by omega) (by omega) (by omega) (by omega)) (show (5 : Int32) = i3 5 from rfl) (by omega) (by omega) (by omega) (by omega)))) (zconso (zvo (show (0 : Int32) = i3 0 from rfl)) (zconso rfl (zconso rfl (zconso rfl (zconso rfl (zconso rfl (zconso rfl rfl)))))))))) rfl ?_
  intro L38 Z37 y36 hL38 hZ37I kZ37 gy36 gL38_0 gL38_1 gL38_2 gL38_3 gL38_4 gL38_5 gL38_6 gL38_7 gL38_8 gL38_9 gL38_10 gL38_11 gL38_12 q9
  replace hP := zl_e2 hP (Eq.symm q9)
  clear q9
  have hZ37K : zK [11, 41, 42, 44, 200] Z Z37 := zK_t hZ21K kZ37 (by decide)
  refine fc_148_5 _ (i3 (2 + (((Z2 200 sn 0 2) / 16) % 4))) (i3 (2 + (((Z21 200 sn 0 2) / 16) % 5))) _ _ _ _ hL38 ?_
  refine sl_148_3 (ν := ν) sn hZ37I zK_r hb tsn rsn (x1 := (2 + (((Z2 200 sn 0 2) / 16) % 4))) (by omega) (x2 := (2 + (((Z21 200 sn 0 2) / 16) % 5))) (by omega) (x3 := 0) (by omega) (kc10 := Z37 200 sn 0 1) (kc9 := Z37 200 0 0 2) (kc8 := Z37 200 0 0 1) (kc7 := Z37 11 hb 0 9) (kc6 := Z37 11 hb 0 8) (kc5 := Z37 11 hb 0 7) (kc4 := Z37 11 hb 0 5) (kc3 := Z37 11 hb 0 4) (kc2 := Z37 11 hb 0 2) (kc1 := Z37 11 hb 0 1) (kc0 := Z37 11 hb 0 0) (by omega) (by omega) (by omega) (by omega) (by omega) (by omega) (by omega) (by omega) (by omega) (by omega) (by omega) (by omega) (by omega) (by omega) (zconso rfl (zconso (zvo (rfl : i3 (2 + (((Z2 200 sn 0 2) / 16) % 4)) = i3 (2 + (((Z2 200 sn 0 2) / 16) % 4)))) (zconso (zvo (rfl : i3 (2 + (((Z21 200 sn 0 2) / 16) % 5)) = i3 (2 + (((Z21 200 sn 0 2) / 16) % 5)))) (zconso (zvo (show (0 : Int32) = i3 0 from rfl)) (zconso rfl (zconso rfl (zconso rfl (zconso rfl (zconso rfl (zconso rfl rfl)))))))))) rfl ?_
  intro L41 Z40 y39 hL41 hZ40I kZ40 gy39 gL41_0 gL41_1 gL41_2 gL41_3 gL41_4 gL41_5 gL41_6 gL41_7 gL41_8 gL41_9 gL41_10 gL41_11 gL41_12 gL41_13 gL41_14 q9
  replace hP := zl_e2 hP (Eq.symm q9)
  clear q9
  have hZ40K : zK [11, 41, 42, 44, 200] Z Z40 := zK_t hZ37K kZ40 (by decide)
  refine fc_148_4  _ _ _ _ hL41 ?_
  exact zlV hP ⟨hZ40I, hZ40K, by omega, by omega, by omega, by omega, by omega, by omega, by omega, by omega, by omega⟩

/- yX10_move -/
def zf_175 (Z : qz_Z) (a0b : Int) (a1b a1ij : Int) (a2 : Int) : qz_Z := (if (Z 44 a1b a1ij 12) < 0 then (zlet (zu Z 43 a0b a2 7 (w3 ((Z 43 a0b a2 7) + 1))) (fun Z5 => (zlet (zu Z5 44 a1b a1ij 12 a2) (fun Z14 => Z14)))) else (if 6 ≤ (Z 44 a1b a1ij 12) then (zlet (zu Z 43 a0b a2 7 (w3 ((Z 43 a0b a2 7) + 1))) (fun Z26 => (zlet (zu Z26 44 a1b a1ij 12 a2) (fun Z35 => Z35)))) else (zlet (zu Z 43 a0b (Z 44 a1b a1ij 12) 7 (w3 ((Z 43 a0b (Z 44 a1b a1ij 12) 7) + 1))) (fun Z46 => (zlet (zu Z46 43 a0b a2 7 (w3 ((Z46 43 a0b a2 7) + 1))) (fun Z57 => (zlet (zu Z57 44 a1b a1ij 12 a2) (fun Z66 => Z66))))))))
theorem sp_175 {s : zS} {Z : qz_Z} {ν : qz_N} (hZ : zI s Z) (a0b : Nat) (a1b : Nat) (a1i : Nat) {a1ij : Int} (ea1i : (a1i : Int) = a1ij) {a2 : Int} (ga2 : 0 ≤ a2 ∧ a2 ≤ 3) : ∃ P : qz_Z, P = zf_175 Z a0b a1b a1ij a2 ∧ (qf_175 [.inr (.inr (some (10, a0b, 0))), .inr (.inr (some (44, a1b, a1i))), .inl (i3 a2)] (zm Z ν) = some (zm P ν, .inl none) ∧ zI s P ∧ zK [43, 44] Z P ∧ P 11 a0b 0 3 = Z 11 a0b 0 3 ∧ P 11 a0b 0 4 = Z 11 a0b 0 4 ∧ P 11 a0b 0 5 = Z 11 a0b 0 5 ∧ P 11 a0b 0 7 = Z 11 a0b 0 7 ∧ P 11 a0b 0 8 = Z 11 a0b 0 8 ∧ P 11 a0b 0 9 = Z 11 a0b 0 9 ∧ P 200 0 0 1 = Z 200 0 0 1 ∧ P 200 0 0 2 = Z 200 0 0 2) := by
  obtain ⟨P, hP⟩ := zx (zf_175 Z a0b a1b a1ij a2)
  refine zc_V (Q := fun P => zI s P ∧ zK [43, 44] Z P ∧ P 11 a0b 0 3 = Z 11 a0b 0 3 ∧ P 11 a0b 0 4 = Z 11 a0b 0 4 ∧ P 11 a0b 0 5 = Z 11 a0b 0 5 ∧ P 11 a0b 0 7 = Z 11 a0b 0 7 ∧ P 11 a0b 0 8 = Z 11 a0b 0 8 ∧ P 11 a0b 0 9 = Z 11 a0b 0 9 ∧ P 200 0 0 1 = Z 200 0 0 1 ∧ P 200 0 0 2 = Z 200 0 0 2) hP (fw_175 a0b (44, a1b, a1i) (i3 a2) _ _ ?_)
  replace hP : zE P (zf_175 Z a0b a1b a1ij a2) := hP
  unfold zf_175 at hP
  refine wz_i1 rfl ?_
  refine wz_i0 (i3O (n := 16) (show (12 : Int32) = i3 12 from rfl) (by omega) (by omega) (by omega)) ?_
  have r1 := zI_k hZ 44 a1b a1ij 12 (lo := -1) (hi := 6) (by decide) rfl
  refine wz_br (i3L (zm_rd (Z := Z) (ν := ν) (k := 44) (rfl : ((a1b : Nat) : Int) = a1b) ea1i (show ((12 : Nat) : Int) = 12 from rfl)) (show (0 : Int32) = i3 0 from rfl) (by omega) (by omega) (by omega) (by omega)) (fun h2 => ?_) (fun h2 => ?_)
  · replace hP := zE_p hP h2
    refine wz_i0 (Eq.trans (i3L (rfl : i3 a2 = i3 a2) (show (0 : Int32) = i3 0 from rfl) (by omega) (by omega) (by omega) (by omega)) (decide_eq_false (by omega))) ?_
    refine wz_i0 (Eq.trans (i3Le (show (6 : Int32) = i3 6 from rfl) (rfl : i3 a2 = i3 a2) (by omega) (by omega) (by omega) (by omega)) (decide_eq_false (by omega))) ?_
    refine wz_i0 (i3O (n := 6) (rfl : i3 a2 = i3 a2) (by omega) (by omega) (by omega)) ?_
    have r3 := zI_f hZ 43 a0b a2 7
    have r4 := w3_r ((Z 43 a0b a2 7) + 1)
    obtain ⟨Z5, hZ5⟩ := zx (zu Z 43 a0b a2 7 (w3 ((Z 43 a0b a2 7) + 1)))
    replace hP := zl_e hP hZ5
    have hZ5I := zI_u hZ hZ5 (lo := -2147483648) (hi := 2147483647) (by decide) rfl (by omega) ⟨by decide, by decide⟩ (Or.inl (by decide))
    have t6 : Z5 11 a0b 0 3 = Z 11 a0b 0 3 := zu_ne hZ5 (fun q => absurd q.1 (by decide))
    have t7 : Z5 11 a0b 0 4 = Z 11 a0b 0 4 := zu_ne hZ5 (fun q => absurd q.1 (by decide))
    have t8 : Z5 11 a0b 0 5 = Z 11 a0b 0 5 := zu_ne hZ5 (fun q => absurd q.1 (by decide))
    have t9 : Z5 11 a0b 0 7 = Z 11 a0b 0 7 := zu_ne hZ5 (fun q => absurd q.1 (by decide))
    have t10 : Z5 11 a0b 0 8 = Z 11 a0b 0 8 := zu_ne hZ5 (fun q => absurd q.1 (by decide))
    have t11 : Z5 11 a0b 0 9 = Z 11 a0b 0 9 := zu_ne hZ5 (fun q => absurd q.1 (by decide))
    have t12 : Z5 200 0 0 1 = Z 200 0 0 1 := zu_ne hZ5 (fun q => absurd q.1 (by decide))
    have t13 : Z5 200 0 0 2 = Z 200 0 0 2 := zu_ne hZ5 (fun q => absurd q.1 (by decide))
    have hZ5K : zK [43, 44] Z Z5 := zK_u zK_r hZ5 (by decide)
    intro μ9 e9
    replace e9 := e9.trans (zm_wI (Z := Z) (ν := ν) hZ5 (rfl : ((a0b : Nat) : Int) = a0b) (i3I (y := a2) (rfl : i3 a2 = i3 a2) (by omega) (by omega) (by omega)) (show ((7 : Nat) : Int) = 7 from rfl) (i3W (i3A (zm_rd (Z := Z) (ν := ν) (k := 43) (rfl : ((a0b : Nat) : Int) = a0b) (i3I (y := a2) (rfl : i3 a2 = i3 a2) (by omega) (by omega) (by omega)) (show ((7 : Nat) : Int) = 7 from rfl)) (show (1 : Int32) = i3 1 from rfl))))
    subst e9
    refine wz_i1 rfl ?_
    refine wz_i0 (i3O (n := 16) (show (12 : Int32) = i3 12 from rfl) (by omega) (by omega) (by omega)) ?_
    obtain ⟨Z14, hZ14⟩ := zx (zu Z5 44 a1b a1ij 12 a2)
    replace hP := zl_e hP hZ14
    have hZ14I := zI_u hZ5I hZ14 (lo := -1) (hi := 6) (by decide) rfl (by omega) ⟨by decide, by decide⟩ (Or.inl (by decide))
    have t15 : Z14 11 a0b 0 3 = Z5 11 a0b 0 3 := zu_ne hZ14 (fun q => absurd q.1 (by decide))
    have t16 : Z14 11 a0b 0 4 = Z5 11 a0b 0 4 := zu_ne hZ14 (fun q => absurd q.1 (by decide))
    have t17 : Z14 11 a0b 0 5 = Z5 11 a0b 0 5 := zu_ne hZ14 (fun q => absurd q.1 (by decide))
    have t18 : Z14 11 a0b 0 7 = Z5 11 a0b 0 7 := zu_ne hZ14 (fun q => absurd q.1 (by decide))
    have t19 : Z14 11 a0b 0 8 = Z5 11 a0b 0 8 := zu_ne hZ14 (fun q => absurd q.1 (by decide))
    have t20 : Z14 11 a0b 0 9 = Z5 11 a0b 0 9 := zu_ne hZ14 (fun q => absurd q.1 (by decide))
    have t21 : Z14 200 0 0 1 = Z5 200 0 0 1 := zu_ne hZ14 (fun q => absurd q.1 (by decide))
    have t22 : Z14 200 0 0 2 = Z5 200 0 0 2 := zu_ne hZ14 (fun q => absurd q.1 (by decide))
    have hZ14K := zK_u hZ5K hZ14 (by decide)
    intro μ9 e9
    replace e9 := e9.trans (zm_wI (Z := Z5) (ν := ν) hZ14 (rfl : ((a1b : Nat) : Int) = a1b) ea1i (show ((12 : Nat) : Int) = 12 from rfl) (rfl : i3 a2 = i3 a2))
    subst e9
    exact zlV hP ⟨hZ14I, hZ14K, by omega, by omega, by omega, by omega, by omega, by omega, by omega, by omega⟩
  · replace hP := zE_n hP h2
    refine wz_br (i3Le (show (6 : Int32) = i3 6 from rfl) (zm_rd (Z := Z) (ν := ν) (k := 44) (rfl : ((a1b : Nat) : Int) = a1b) ea1i (show ((12 : Nat) : Int) = 12 from rfl)) (by omega) (by omega) (by omega) (by omega)) (fun h23 => ?_) (fun h23 => ?_)
    · replace hP := zE_p hP h23
      refine wz_i0 (Eq.trans (i3L (rfl : i3 a2 = i3 a2) (show (0 : Int32) = i3 0 from rfl) (by omega) (by omega) (by omega) (by omega)) (decide_eq_false (by omega))) ?_
      refine wz_i0 (Eq.trans (i3Le (show (6 : Int32) = i3 6 from rfl) (rfl : i3 a2 = i3 a2) (by omega) (by omega) (by omega) (by omega)) (decide_eq_false (by omega))) ?_
      refine wz_i0 (i3O (n := 6) (rfl : i3 a2 = i3 a2) (by omega) (by omega) (by omega)) ?_
      have r24 := zI_f hZ 43 a0b a2 7
      have r25 := w3_r ((Z 43 a0b a2 7) + 1)
      obtain ⟨Z26, hZ26⟩ := zx (zu Z 43 a0b a2 7 (w3 ((Z 43 a0b a2 7) + 1)))
      replace hP := zl_e hP hZ26
      have hZ26I := zI_u hZ hZ26 (lo := -2147483648) (hi := 2147483647) (by decide) rfl (by omega) ⟨by decide, by decide⟩ (Or.inl (by decide))
      have t27 : Z26 11 a0b 0 3 = Z 11 a0b 0 3 := zu_ne hZ26 (fun q => absurd q.1 (by decide))
      have t28 : Z26 11 a0b 0 4 = Z 11 a0b 0 4 := zu_ne hZ26 (fun q => absurd q.1 (by decide))
      have t29 : Z26 11 a0b 0 5 = Z 11 a0b 0 5 := zu_ne hZ26 (fun q => absurd q.1 (by decide))
      have t30 : Z26 11 a0b 0 7 = Z 11 a0b 0 7 := zu_ne hZ26 (fun q => absurd q.1 (by decide))
      have t31 : Z26 11 a0b 0 8 = Z 11 a0b 0 8 := zu_ne hZ26 (fun q => absurd q.1 (by decide))
      have t32 : Z26 11 a0b 0 9 = Z 11 a0b 0 9 := zu_ne hZ26 (fun q => absurd q.1 (by decide))
      have t33 : Z26 200 0 0 1 = Z 200 0 0 1 := zu_ne hZ26 (fun q => absurd q.1 (by decide))
      have t34 : Z26 200 0 0 2 = Z 200 0 0 2 := zu_ne hZ26 (fun q => absurd q.1 (by decide))
      have hZ26K : zK [43, 44] Z Z26 := zK_u zK_r hZ26 (by decide)
      intro μ9 e9
      replace e9 := e9.trans (zm_wI (Z := Z) (ν := ν) hZ26 (rfl : ((a0b : Nat) : Int) = a0b) (i3I (y := a2) (rfl : i3 a2 = i3 a2) (by omega) (by omega) (by omega)) (show ((7 : Nat) : Int) = 7 from rfl) (i3W (i3A (zm_rd (Z := Z) (ν := ν) (k := 43) (rfl : ((a0b : Nat) : Int) = a0b) (i3I (y := a2) (rfl : i3 a2 = i3 a2) (by omega) (by omega) (by omega)) (show ((7 : Nat) : Int) = 7 from rfl)) (show (1 : Int32) = i3 1 from rfl))))
      subst e9
      refine wz_i1 rfl ?_
      refine wz_i0 (i3O (n := 16) (show (12 : Int32) = i3 12 from rfl) (by omega) (by omega) (by omega)) ?_
      obtain ⟨Z35, hZ35⟩ := zx (zu Z26 44 a1b a1ij 12 a2)
      replace hP := zl_e hP hZ35
      have hZ35I := zI_u hZ26I hZ35 (lo := -1) (hi := 6) (by decide) rfl (by omega) ⟨by decide, by decide⟩ (Or.inl (by decide))
      have t36 : Z35 11 a0b 0 3 = Z26 11 a0b 0 3 := zu_ne hZ35 (fun q => absurd q.1 (by decide))
      have t37 : Z35 11 a0b 0 4 = Z26 11 a0b 0 4 := zu_ne hZ35 (fun q => absurd q.1 (by decide))
      have t38 : Z35 11 a0b 0 5 = Z26 11 a0b 0 5 := zu_ne hZ35 (fun q => absurd q.1 (by decide))
      have t39 : Z35 11 a0b 0 7 = Z26 11 a0b 0 7 := zu_ne hZ35 (fun q => absurd q.1 (by decide))
      have t40 : Z35 11 a0b 0 8 = Z26 11 a0b 0 8 := zu_ne hZ35 (fun q => absurd q.1 (by decide))
      have t41 : Z35 11 a0b 0 9 = Z26 11 a0b 0 9 := zu_ne hZ35 (fun q => absurd q.1 (by decide))
      have t42 : Z35 200 0 0 1 = Z26 200 0 0 1 := zu_ne hZ35 (fun q => absurd q.1 (by decide))
      have t43 : Z35 200 0 0 2 = Z26 200 0 0 2 := zu_ne hZ35 (fun q => absurd q.1 (by decide))
      have hZ35K := zK_u hZ26K hZ35 (by decide)
      intro μ9 e9
      replace e9 := e9.trans (zm_wI (Z := Z26) (ν := ν) hZ35 (rfl : ((a1b : Nat) : Int) = a1b) ea1i (show ((12 : Nat) : Int) = 12 from rfl) (rfl : i3 a2 = i3 a2))
      subst e9
      exact zlV hP ⟨hZ35I, hZ35K, by omega, by omega, by omega, by omega, by omega, by omega, by omega, by omega⟩
    · replace hP := zE_n hP h23
      refine wz_i0 (i3O (n := 6) (zm_rd (Z := Z) (ν := ν) (k := 44) (rfl : ((a1b : Nat) : Int) = a1b) ea1i (show ((12 : Nat) : Int) = 12 from rfl)) (by omega) (by omega) (by omega)) ?_
      have r44 := zI_f hZ 43 a0b (Z 44 a1b a1ij 12) 7
      have r45 := w3_r ((Z 43 a0b (Z 44 a1b a1ij 12) 7) + 1)
      obtain ⟨Z46, hZ46⟩ := zx (zu Z 43 a0b (Z 44 a1b a1ij 12) 7 (w3 ((Z 43 a0b (Z 44 a1b a1ij 12) 7) + 1)))
      replace hP := zl_e hP hZ46
      have hZ46I := zI_u hZ hZ46 (lo := -2147483648) (hi := 2147483647) (by decide) rfl (by omega) ⟨by decide, by decide⟩ (Or.inl (by decide))
      have t47 : Z46 11 a0b 0 3 = Z 11 a0b 0 3 := zu_ne hZ46 (fun q => absurd q.1 (by decide))
      have t48 : Z46 11 a0b 0 4 = Z 11 a0b 0 4 := zu_ne hZ46 (fun q => absurd q.1 (by decide))
      have t49 : Z46 11 a0b 0 5 = Z 11 a0b 0 5 := zu_ne hZ46 (fun q => absurd q.1 (by decide))
      have t50 : Z46 11 a0b 0 7 = Z 11 a0b 0 7 := zu_ne hZ46 (fun q => absurd q.1 (by decide))
      have t51 : Z46 11 a0b 0 8 = Z 11 a0b 0 8 := zu_ne hZ46 (fun q => absurd q.1 (by decide))
      have t52 : Z46 11 a0b 0 9 = Z 11 a0b 0 9 := zu_ne hZ46 (fun q => absurd q.1 (by decide))
      have t53 : Z46 200 0 0 1 = Z 200 0 0 1 := zu_ne hZ46 (fun q => absurd q.1 (by decide))
      have t54 : Z46 200 0 0 2 = Z 200 0 0 2 := zu_ne hZ46 (fun q => absurd q.1 (by decide))
      have hZ46K : zK [43, 44] Z Z46 := zK_u zK_r hZ46 (by decide)
      intro μ9 e9
      replace e9 := e9.trans (zm_wI (Z := Z) (ν := ν) hZ46 (rfl : ((a0b : Nat) : Int) = a0b) (i3I (y := (Z 44 a1b a1ij 12)) (zm_rd (Z := Z) (ν := ν) (k := 44) (rfl : ((a1b : Nat) : Int) = a1b) ea1i (show ((12 : Nat) : Int) = 12 from rfl)) (by omega) (by omega) (by omega)) (show ((7 : Nat) : Int) = 7 from rfl) (i3W (i3A (zm_rd (Z := Z) (ν := ν) (k := 43) (rfl : ((a0b : Nat) : Int) = a0b) (i3I (y := (Z 44 a1b a1ij 12)) (zm_rd (Z := Z) (ν := ν) (k := 44) (rfl : ((a1b : Nat) : Int) = a1b) ea1i (show ((12 : Nat) : Int) = 12 from rfl)) (by omega) (by omega) (by omega)) (show ((7 : Nat) : Int) = 7 from rfl)) (show (1 : Int32) = i3 1 from rfl))))
      subst e9
      refine wz_i0 (Eq.trans (i3L (rfl : i3 a2 = i3 a2) (show (0 : Int32) = i3 0 from rfl) (by omega) (by omega) (by omega) (by omega)) (decide_eq_false (by omega))) ?_
      refine wz_i0 (Eq.trans (i3Le (show (6 : Int32) = i3 6 from rfl) (rfl : i3 a2 = i3 a2) (by omega) (by omega) (by omega) (by omega)) (decide_eq_false (by omega))) ?_
      refine wz_i0 (i3O (n := 6) (rfl : i3 a2 = i3 a2) (by omega) (by omega) (by omega)) ?_
      have r55 := zI_f hZ46I 43 a0b a2 7
      have r56 := w3_r ((Z46 43 a0b a2 7) + 1)
      obtain ⟨Z57, hZ57⟩ := zx (zu Z46 43 a0b a2 7 (w3 ((Z46 43 a0b a2 7) + 1)))
      replace hP := zl_e hP hZ57
      have hZ57I := zI_u hZ46I hZ57 (lo := -2147483648) (hi := 2147483647) (by decide) rfl (by omega) ⟨by decide, by decide⟩ (Or.inl (by decide))
      have t58 : Z57 11 a0b 0 3 = Z46 11 a0b 0 3 := zu_ne hZ57 (fun q => absurd q.1 (by decide))
      have t59 : Z57 11 a0b 0 4 = Z46 11 a0b 0 4 := zu_ne hZ57 (fun q => absurd q.1 (by decide))
      have t60 : Z57 11 a0b 0 5 = Z46 11 a0b 0 5 := zu_ne hZ57 (fun q => absurd q.1 (by decide))
      have t61 : Z57 11 a0b 0 7 = Z46 11 a0b 0 7 := zu_ne hZ57 (fun q => absurd q.1 (by decide))
      have t62 : Z57 11 a0b 0 8 = Z46 11 a0b 0 8 := zu_ne hZ57 (fun q => absurd q.1 (by decide))
      have t63 : Z57 11 a0b 0 9 = Z46 11 a0b 0 9 := zu_ne hZ57 (fun q => absurd q.1 (by decide))
      have t64 : Z57 200 0 0 1 = Z46 200 0 0 1 := zu_ne hZ57 (fun q => absurd q.1 (by decide))
      have t65 : Z57 200 0 0 2 = Z46 200 0 0 2 := zu_ne hZ57 (fun q => absurd q.1 (by decide))
      have hZ57K := zK_u hZ46K hZ57 (by decide)
      intro μ9 e9
      replace e9 := e9.trans (zm_wI (Z := Z46) (ν := ν) hZ57 (rfl : ((a0b : Nat) : Int) = a0b) (i3I (y := a2) (rfl : i3 a2 = i3 a2) (by omega) (by omega) (by omega)) (show ((7 : Nat) : Int) = 7 from rfl) (i3W (i3A (zm_rd (Z := Z46) (ν := ν) (k := 43) (rfl : ((a0b : Nat) : Int) = a0b) (i3I (y := a2) (rfl : i3 a2 = i3 a2) (by omega) (by omega) (by omega)) (show ((7 : Nat) : Int) = 7 from rfl)) (show (1 : Int32) = i3 1 from rfl))))
      subst e9
      refine wz_i1 rfl ?_
      refine wz_i0 (i3O (n := 16) (show (12 : Int32) = i3 12 from rfl) (by omega) (by omega) (by omega)) ?_
      obtain ⟨Z66, hZ66⟩ := zx (zu Z57 44 a1b a1ij 12 a2)
      replace hP := zl_e hP hZ66
      have hZ66I := zI_u hZ57I hZ66 (lo := -1) (hi := 6) (by decide) rfl (by omega) ⟨by decide, by decide⟩ (Or.inl (by decide))
      have t67 : Z66 11 a0b 0 3 = Z57 11 a0b 0 3 := zu_ne hZ66 (fun q => absurd q.1 (by decide))
      have t68 : Z66 11 a0b 0 4 = Z57 11 a0b 0 4 := zu_ne hZ66 (fun q => absurd q.1 (by decide))
      have t69 : Z66 11 a0b 0 5 = Z57 11 a0b 0 5 := zu_ne hZ66 (fun q => absurd q.1 (by decide))
      have t70 : Z66 11 a0b 0 7 = Z57 11 a0b 0 7 := zu_ne hZ66 (fun q => absurd q.1 (by decide))
      have t71 : Z66 11 a0b 0 8 = Z57 11 a0b 0 8 := zu_ne hZ66 (fun q => absurd q.1 (by decide))
      have t72 : Z66 11 a0b 0 9 = Z57 11 a0b 0 9 := zu_ne hZ66 (fun q => absurd q.1 (by decide))
      have t73 : Z66 200 0 0 1 = Z57 200 0 0 1 := zu_ne hZ66 (fun q => absurd q.1 (by decide))
      have t74 : Z66 200 0 0 2 = Z57 200 0 0 2 := zu_ne hZ66 (fun q => absurd q.1 (by decide))
      have hZ66K := zK_u hZ57K hZ66 (by decide)
      intro μ9 e9
      replace e9 := e9.trans (zm_wI (Z := Z57) (ν := ν) hZ66 (rfl : ((a1b : Nat) : Int) = a1b) ea1i (show ((12 : Nat) : Int) = 12 from rfl) (rfl : i3 a2 = i3 a2))
      subst e9
      exact zlV hP ⟨hZ66I, hZ66K, by omega, by omega, by omega, by omega, by omega, by omega, by omega, by omega⟩

/- yX10_standing -/
def zl_182_1 (x0b : Int) (x1 : Int) : Nat → qz_Z → Int → Int → Int × Int
  | 0, Z, x2, x3 => (x2, x3)
  | m + 1, Z, x2, x3 => (if (Z 11 x0b 0 3) ≤ x3 then (x2, x3) else (if (Z 44 x0b x3 12) ≠ x1 then zl_182_1 x0b x1 m Z x2 (x3 + 1) else zl_182_1 x0b x1 m Z (x2 + 1) (x3 + 1)))
theorem sl_182_1 {s : zS} {Z : qz_Z} {ν : qz_N} (hZ : zI s Z) (x0b : Nat) {x1 : Int} (gx1 : 0 ≤ x1 ∧ x1 ≤ 3) {x2 : Int} (gx2 : 0 ≤ x2 ∧ x2 ≤ 48) {x3 : Int} (gx3 : 0 ≤ x3 ∧ x3 ≤ 48) (gr0 : x2 ≤ x3) {k : wz_K} {R : wz_R} {L : qz_L} (hL : qz_fg [true, true, true, true] L = [some (.inr (.inr (some (10, x0b, 0)))), some (.inl (i3 x1)), some (.inl (i3 x2)), some (.inl (i3 x3))]) {T : Int × Int} (hP : zE T (zl_182_1 x0b x1 ((48 - x3).toNat + 1) Z x2 x3)) (hk : ∀ (L9 : qz_L) (yx2 yx3 : Int), qz_fg [false, false, true, false] L9 = [none, none, some (.inl (i3 yx2)), none] → (0 ≤ yx2 ∧ yx2 ≤ 48) → (0 ≤ yx3 ∧ yx3 ≤ 48) → (yx2 ≤ yx3) → zE T ((yx2, yx3)) → k 0 (L9, [], zm Z ν)) : wz_loop qb_182_1 65536 k R (L, [], zm Z ν) := by
  refine wz_lp sb_182_1 (fun m x => ∃ x2 : Int, ∃ x3 : Int, qz_fg [true, true, true, true] x.1 = [some (.inr (.inr (some (10, x0b, 0)))), some (.inl (i3 x1)), some (.inl (i3 x2)), some (.inl (i3 x3))] ∧ x.2 = ([], zm Z ν) ∧ m = (48 - x3).toNat ∧ (0 ≤ x2 ∧ x2 ≤ 48) ∧ (0 ≤ x3 ∧ x3 ≤ 48) ∧ (x2 ≤ x3) ∧ zE T (zl_182_1 x0b x1 (m + 1) Z x2 x3)) ?_ 65536 ((48 - x3).toNat) _ (by omega) ⟨x2, x3, hL, rfl, rfl, gx2, gx3, gr0, hP⟩
  clear hP gr0 gx2 gx3 hL
  clear x2 x3
  rintro m ⟨L, st, μ⟩ ⟨x2, x3, hL, hx, hm, gx2, gx3, gr0, hP⟩
  cases hx
  refine fb_182_1 x0b (i3 x1) (i3 x2) (i3 x3) _ _ _ _ hL ?_
  have r1 := zI_k hZ 11 x0b 0 3 (lo := 0) (hi := 48) (by decide) rfl
  refine wz_br (i3Le (zm_rd (Z := Z) (ν := ν) (k := 11) (rfl : ((x0b : Nat) : Int) = x0b) (show ((0 : Nat) : Int) = 0 from rfl) (show ((3 : Nat) : Int) = 3 from rfl)) (rfl : i3 x3 = i3 x3) (by omega) (by omega) (by omega) (by omega)) (fun h2 => ?_) (fun h2 => ?_)
  · replace hP := zE_p hP h2
    exact hk _ _ _ (zconso rfl (zconso rfl (zconso (zvo (rfl : i3 x2 = i3 x2)) (zconso rfl rfl))))  (by omega) (by omega) (by omega) hP
  · replace hP := zE_n hP h2
    refine wz_i0 (i3O (n := 48) (rfl : i3 x3 = i3 x3) (by omega) (by omega) (by omega)) ?_
    have r3 := zI_k hZ 44 x0b x3 12 (lo := -1) (hi := 6) (by decide) rfl
    refine wz_br (i3NE (zm_rd (Z := Z) (ν := ν) (k := 44) (rfl : ((x0b : Nat) : Int) = x0b) (i3I (y := x3) (rfl : i3 x3 = i3 x3) (by omega) (by omega) (by omega)) (show ((12 : Nat) : Int) = 12 from rfl)) (rfl : i3 x1 = i3 x1) (by omega) (by omega) (by omega) (by omega)) (fun h4 => ?_) (fun h4 => ?_)
    · replace hP := zE_p hP h4
      obtain ⟨m2, rfl⟩ : ∃ m2, m = m2 + 1 := ⟨m - 1, by omega⟩
      exact wz_k1 ⟨m2, by omega, x2, (x3 + 1), (zconso rfl (zconso (zvo (rfl : i3 x1 = i3 x1)) (zconso (zvo (rfl : i3 x2 = i3 x2)) (zconso (zvo (i3A (rfl : i3 x3 = i3 x3) (show (1 : Int32) = i3 1 from rfl))) rfl)))), rfl,  by omega, by omega, by omega, by omega,  hP⟩
    · replace hP := zE_n hP h4
      obtain ⟨m2, rfl⟩ : ∃ m2, m = m2 + 1 := ⟨m - 1, by omega⟩
      exact wz_k1 ⟨m2, by omega, (x2 + 1), (x3 + 1), (zconso rfl (zconso (zvo (rfl : i3 x1 = i3 x1)) (zconso (zvo (i3A (rfl : i3 x2 = i3 x2) (show (1 : Int32) = i3 1 from rfl))) (zconso (zvo (i3A (rfl : i3 x3 = i3 x3) (show (1 : Int32) = i3 1 from rfl))) rfl)))), rfl,  by omega, by omega, by omega, by omega,  hP⟩

/- yX10_standing -/
def zf_182 (Z : qz_Z) (a0b : Int) (a1 : Int) : Int := (zlet2 (zl_182_1 a0b a1 49 Z 0 0) (fun y1 y2 => y1))
theorem sp_182 {s : zS} {Z : qz_Z} {ν : qz_N} (hZ : zI s Z) (a0b : Nat) {a1 : Int} (ga1 : 0 ≤ a1 ∧ a1 ≤ 3) : ∃ P : Int, P = zf_182 Z a0b a1 ∧ (qf_182 [.inr (.inr (some (10, a0b, 0))), .inl (i3 a1)] (zm Z ν) = some (zm Z ν, .inl (some (.inl (i3 P)))) ∧ 0 ≤ P ∧ P ≤ 48) := by
  obtain ⟨P, hP⟩ := zx (zf_182 Z a0b a1)
  refine zc_R (Q := fun P => 0 ≤ P ∧ P ≤ 48) hP (fw_182 a0b (i3 a1) _ _ ?_)
  replace hP : zE P (zf_182 Z a0b a1) := hP
  unfold zf_182 at hP
  refine sl_182_1 (ν := ν) hZ a0b (x1 := a1) (by omega) (x2 := 0) (by omega) (x3 := 0) (by omega) (by omega) (zconso rfl (zconso (zvo (rfl : i3 a1 = i3 a1)) (zconso (zvo (show (0 : Int32) = i3 0 from rfl)) (zconso (zvo (show (0 : Int32) = i3 0 from rfl)) rfl)))) rfl ?_
  intro L3 y1 y2 hL3 gy1 gy2 gL3_0 q9
  replace hP := zl_e2 hP (Eq.symm q9)
  clear q9
  refine fc_182_2 (i3 y1) _ _ _ _ hL3 ?_
  exact zlR hP (rfl : i3 y1 = i3 y1) ⟨by omega, by omega⟩


/-! a season told, the class (printed by season.py c) -/
/- yX8_tellStores -/
def zl_150_1 (x0 : Int) (hb : Int) (x1 : Int) : Nat → qz_Z → Int → qz_Z × Int
  | 0, Z, x2 => (Z, x2)
  | m + 1, Z, x2 => (if x1 ≤ x2 then (Z, x2) else (zlet (zu Z 200 x0 0 2 (((25173 * (Z 200 x0 0 2)) + 13849) % 65536)) (fun Z3 => (zlet (zu Z3 200 x0 0 2 (((25173 * (Z3 200 x0 0 2)) + 13849) % 65536)) (fun Z15 => (zlet (zu Z15 200 x0 0 2 (((25173 * (Z15 200 x0 0 2)) + 13849) % 65536)) (fun Z27 => (zlet (zu Z27 43 hb (Z27 11 hb 0 2) 0 (1 + (((Z3 200 x0 0 2) / 16) % 12))) (fun Z38 => (zlet (zu Z38 43 hb (Z27 11 hb 0 2) 1 (((Z15 200 x0 0 2) / 16) % 10)) (fun Z48 => (zlet (zu Z48 43 hb (Z27 11 hb 0 2) 2 (((Z27 200 x0 0 2) / 16) % 10)) (fun Z60 => (zlet (zu Z60 43 hb (Z27 11 hb 0 2) 3 18) (fun Z70 => (zlet (zu Z70 43 hb (Z27 11 hb 0 2) 5 (Z70 12 hb 0 ((Z70 11 hb 0 13) / 24))) (fun Z82 => (zlet (zu Z82 43 hb (Z27 11 hb 0 2) 10 (-1)) (fun Z92 => (zlet (zu Z92 11 hb 0 2 ((Z92 11 hb 0 2) + 1)) (fun Z104 => (zlet (zu Z104 200 x0 0 2 (((25173 * (Z104 200 x0 0 2)) + 13849) % 65536)) (fun Z116 => (zlet (zu Z116 43 hb (Z92 11 hb 0 2) 3 (((Z116 200 x0 0 2) / 16) % 41)) (fun Z128 => (zlet (zu Z128 200 x0 0 2 (((25173 * (Z128 200 x0 0 2)) + 13849) % 65536)) (fun Z140 => (zlet (zu Z140 43 hb (Z92 11 hb 0 2) 4 (((Z140 200 x0 0 2) / 16) % 2)) (fun Z152 => zl_150_1 x0 hb x1 m Z152 (x2 + 1))))))))))))))))))))))))))))))
theorem sl_150_1 {Zs Z : qz_Z} {ν : qz_N} (x0 : Nat) (hZ : zI (some (some (x0 : Int))) Z) (hK : zK [11, 43, 200] Zs Z) (hb : Nat) (tsn : ∀ Z, qz_tag (zm Z ν) (200, x0, 0) = 2) (rsn : ∀ Z, qz_rm (zm Z ν) 200 x0 0 0 = some (10, hb, 0)) {x1 : Int} (gx1 : 0 ≤ x1 ∧ x1 ≤ 4) {x2 : Int} (gx2 : 0 ≤ x2 ∧ x2 ≤ 4) {kc0 : Int} {kc1 : Int} {kc2 : Int} {kc3 : Int} {kc4 : Int} {kc5 : Int} {kc6 : Int} {kc7 : Int} (gr0 : Z 11 hb 0 2 = x2) (gr1 : 1 ≤ (x0 : Int)) (gr2 : Z 11 hb 0 3 = kc0) (gr3 : Z 11 hb 0 4 = kc1) (gr4 : Z 11 hb 0 5 = kc2) (gr5 : Z 11 hb 0 7 = kc3) (gr6 : Z 11 hb 0 8 = kc4) (gr7 : Z 11 hb 0 9 = kc5) (gr8 : Z 200 0 0 1 = kc6) (gr9 : Z 200 0 0 2 = kc7) {k : wz_K} {R : wz_R} {L : qz_L} (hL : qz_fg [true, true, true, false] L = [some (.inr (.inr (some (200, x0, 0)))), some (.inl (i3 x1)), some (.inl (i3 x2)), none]) {T : qz_Z × Int} (hP : zE T (zl_150_1 x0 hb x1 ((4 - x2).toNat + 1) Z x2)) (hk : ∀ (L9 : qz_L) (Z9 : qz_Z) (yx2 : Int), qz_fg [true, true, false, false] L9 = [some (.inr (.inr (some (200, x0, 0)))), some (.inl (i3 x1)), none, none] → zI (some (some (x0 : Int))) Z9 → zK [11, 43, 200] Zs Z9 → (0 ≤ yx2 ∧ yx2 ≤ 4) → (Z9 11 hb 0 2 = yx2) → (1 ≤ (x0 : Int)) → (Z9 11 hb 0 3 = kc0) → (Z9 11 hb 0 4 = kc1) → (Z9 11 hb 0 5 = kc2) → (Z9 11 hb 0 7 = kc3) → (Z9 11 hb 0 8 = kc4) → (Z9 11 hb 0 9 = kc5) → (Z9 200 0 0 1 = kc6) → (Z9 200 0 0 2 = kc7) → zE T ((Z9, yx2)) → k 0 (L9, [], zm Z9 ν)) : wz_loop qb_150_1 65536 k R (L, [], zm Z ν) := by
  refine wz_lp sb_150_1 (fun m x => ∃ Z : qz_Z, ∃ x2 : Int, qz_fg [true, true, true, false] x.1 = [some (.inr (.inr (some (200, x0, 0)))), some (.inl (i3 x1)), some (.inl (i3 x2)), none] ∧ x.2 = ([], zm Z ν) ∧ zI (some (some (x0 : Int))) Z ∧ zK [11, 43, 200] Zs Z ∧ m = (4 - x2).toNat ∧ (0 ≤ x2 ∧ x2 ≤ 4) ∧ (Z 11 hb 0 2 = x2) ∧ (1 ≤ (x0 : Int)) ∧ (Z 11 hb 0 3 = kc0) ∧ (Z 11 hb 0 4 = kc1) ∧ (Z 11 hb 0 5 = kc2) ∧ (Z 11 hb 0 7 = kc3) ∧ (Z 11 hb 0 8 = kc4) ∧ (Z 11 hb 0 9 = kc5) ∧ (Z 200 0 0 1 = kc6) ∧ (Z 200 0 0 2 = kc7) ∧ zE T (zl_150_1 x0 hb x1 (m + 1) Z x2)) ?_ 65536 ((4 - x2).toNat) _ (by omega) ⟨Z, x2, hL, rfl, hZ, hK, rfl, gx2, gr0, gr1, gr2, gr3, gr4, gr5, gr6, gr7, gr8, gr9, hP⟩
  clear hP gr0 gr1 gr2 gr3 gr4 gr5 gr6 gr7 gr8 gr9 gx2 hZ hK hL
  clear x2
  clear Z
  rintro m ⟨L, st, μ⟩ ⟨Z, x2, hL, hx, hZ, hK, hm, gx2, gr0, gr1, gr2, gr3, gr4, gr5, gr6, gr7, gr8, gr9, hP⟩
  cases hx
  refine fb_150_1 x0 (i3 x1) (i3 x2) _ _ _ _ hL ?_
  have rs := zI_xs (n := x0) hZ
  refine wz_br (i3Le (rfl : i3 x1 = i3 x1) (rfl : i3 x2 = i3 x2) (by omega) (by omega) (by omega) (by omega)) (fun h1 => ?_) (fun h1 => ?_)
  · replace hP := zE_p hP h1
    exact hk _ _ _ (zconso rfl (zconso (zvo (rfl : i3 x1 = i3 x1)) (zconso rfl (zconso rfl rfl)))) hZ hK (by omega) (by omega) (by omega) (by omega) (by omega) (by omega) (by omega) (by omega) (by omega) (by omega) (by omega) hP
  · replace hP := zE_n hP h1
    refine wz_i1 (by rw [tsn]; rfl) ?_
    refine wz_rko (rsn _) ?_
    refine wz_i1 (by rw [tsn]; rfl) ?_
    refine wz_i1 (by rw [tsn]; rfl) ?_
    refine wz_i1 (by rw [tsn]; rfl) ?_
    have r2 := zI_xr (n := x0) hZ
    obtain ⟨Z3, hZ3⟩ := zx (zu Z 200 x0 0 2 (((25173 * (Z 200 x0 0 2)) + 13849) % 65536))
    replace hP := zl_e hP hZ3
    have hZ3I := zI_x hZ hZ3 (by omega)
    have t4 : Z3 11 hb 0 3 = Z 11 hb 0 3 := zu_ne hZ3 (fun q => absurd q.1 (by decide))
    have t5 : Z3 11 hb 0 4 = Z 11 hb 0 4 := zu_ne hZ3 (fun q => absurd q.1 (by decide))
    have t6 : Z3 11 hb 0 5 = Z 11 hb 0 5 := zu_ne hZ3 (fun q => absurd q.1 (by decide))
    have t7 : Z3 11 hb 0 7 = Z 11 hb 0 7 := zu_ne hZ3 (fun q => absurd q.1 (by decide))
    have t8 : Z3 11 hb 0 8 = Z 11 hb 0 8 := zu_ne hZ3 (fun q => absurd q.1 (by decide))
    have t9 : Z3 11 hb 0 9 = Z 11 hb 0 9 := zu_ne hZ3 (fun q => absurd q.1 (by decide))
    have t10 : Z3 11 hb 0 2 = Z 11 hb 0 2 := zu_ne hZ3 (fun q => absurd q.1 (by decide))
    have t11 : Z3 200 0 0 1 = Z 200 0 0 1 := zu_ne hZ3 (fun q => absurd q.2.2.2 (by decide))
    have t12 : Z3 200 0 0 2 = Z 200 0 0 2 := zu_ne hZ3 (by omega)
    have hZ3K := zK_u hK hZ3 (by decide)
    intro μ9 e9
    replace e9 := e9.trans (zm_wI (Z := Z) (ν := ν) hZ3 (rfl : ((x0 : Nat) : Int) = x0) (show ((0 : Nat) : Int) = 0 from rfl) (show ((2 : Nat) : Int) = 2 from rfl) (i3R (i3A (i3M (show (25173 : Int32) = i3 25173 from rfl) (zm_rd (Z := Z) (ν := ν) (k := 200) (rfl : ((x0 : Nat) : Int) = x0) (show ((0 : Nat) : Int) = 0 from rfl) (show ((2 : Nat) : Int) = 2 from rfl))) (show (13849 : Int32) = i3 13849 from rfl)) (show (65536 : Int32) = i3 65536 from rfl) (by omega) (by omega) (by omega) (by omega)))
    subst e9
    refine wz_i1 (by rw [tsn]; rfl) ?_
    refine wz_i1 (by rw [tsn]; rfl) ?_
    refine wz_i1 (by rw [tsn]; rfl) ?_
    refine wz_i1 (by rw [tsn]; rfl) ?_
    have r13 := zI_xr (n := x0) hZ3I
    have q14 := zu_at hZ3
    obtain ⟨Z15, hZ15⟩ := zx (zu Z3 200 x0 0 2 (((25173 * (Z3 200 x0 0 2)) + 13849) % 65536))
    replace hP := zl_e hP hZ15
    have hZ15I := zI_x hZ3I hZ15 (by omega)
    have t16 : Z15 11 hb 0 3 = Z3 11 hb 0 3 := zu_ne hZ15 (fun q => absurd q.1 (by decide))
    have t17 : Z15 11 hb 0 4 = Z3 11 hb 0 4 := zu_ne hZ15 (fun q => absurd q.1 (by decide))
    have t18 : Z15 11 hb 0 5 = Z3 11 hb 0 5 := zu_ne hZ15 (fun q => absurd q.1 (by decide))
    have t19 : Z15 11 hb 0 7 = Z3 11 hb 0 7 := zu_ne hZ15 (fun q => absurd q.1 (by decide))
    have t20 : Z15 11 hb 0 8 = Z3 11 hb 0 8 := zu_ne hZ15 (fun q => absurd q.1 (by decide))
    have t21 : Z15 11 hb 0 9 = Z3 11 hb 0 9 := zu_ne hZ15 (fun q => absurd q.1 (by decide))
    have t22 : Z15 11 hb 0 2 = Z3 11 hb 0 2 := zu_ne hZ15 (fun q => absurd q.1 (by decide))
    have t23 : Z15 200 0 0 1 = Z3 200 0 0 1 := zu_ne hZ15 (fun q => absurd q.2.2.2 (by decide))
    have t24 : Z15 200 0 0 2 = Z3 200 0 0 2 := zu_ne hZ15 (by omega)
    have hZ15K := zK_u hZ3K hZ15 (by decide)
    intro μ9 e9
    replace e9 := e9.trans (zm_wI (Z := Z3) (ν := ν) hZ15 (rfl : ((x0 : Nat) : Int) = x0) (show ((0 : Nat) : Int) = 0 from rfl) (show ((2 : Nat) : Int) = 2 from rfl) (i3R (i3A (i3M (show (25173 : Int32) = i3 25173 from rfl) (zm_rd (Z := Z3) (ν := ν) (k := 200) (rfl : ((x0 : Nat) : Int) = x0) (show ((0 : Nat) : Int) = 0 from rfl) (show ((2 : Nat) : Int) = 2 from rfl))) (show (13849 : Int32) = i3 13849 from rfl)) (show (65536 : Int32) = i3 65536 from rfl) (by omega) (by omega) (by omega) (by omega)))
    subst e9
    refine wz_i1 (by rw [tsn]; rfl) ?_
    refine wz_i1 (by rw [tsn]; rfl) ?_
    refine wz_i1 (by rw [tsn]; rfl) ?_
    refine wz_i1 (by rw [tsn]; rfl) ?_
    have r25 := zI_xr (n := x0) hZ15I
    have q26 := zu_at hZ15
    obtain ⟨Z27, hZ27⟩ := zx (zu Z15 200 x0 0 2 (((25173 * (Z15 200 x0 0 2)) + 13849) % 65536))
    replace hP := zl_e hP hZ27
    have hZ27I := zI_x hZ15I hZ27 (by omega)
    have t28 : Z27 11 hb 0 3 = Z15 11 hb 0 3 := zu_ne hZ27 (fun q => absurd q.1 (by decide))
    have t29 : Z27 11 hb 0 4 = Z15 11 hb 0 4 := zu_ne hZ27 (fun q => absurd q.1 (by decide))
    have t30 : Z27 11 hb 0 5 = Z15 11 hb 0 5 := zu_ne hZ27 (fun q => absurd q.1 (by decide))
    have t31 : Z27 11 hb 0 7 = Z15 11 hb 0 7 := zu_ne hZ27 (fun q => absurd q.1 (by decide))
    have t32 : Z27 11 hb 0 8 = Z15 11 hb 0 8 := zu_ne hZ27 (fun q => absurd q.1 (by decide))
    have t33 : Z27 11 hb 0 9 = Z15 11 hb 0 9 := zu_ne hZ27 (fun q => absurd q.1 (by decide))
    have t34 : Z27 11 hb 0 2 = Z15 11 hb 0 2 := zu_ne hZ27 (fun q => absurd q.1 (by decide))
    have t35 : Z27 200 0 0 1 = Z15 200 0 0 1 := zu_ne hZ27 (fun q => absurd q.2.2.2 (by decide))
    have t36 : Z27 200 0 0 2 = Z15 200 0 0 2 := zu_ne hZ27 (by omega)
    have hZ27K := zK_u hZ15K hZ27 (by decide)
    intro μ9 e9
    replace e9 := e9.trans (zm_wI (Z := Z15) (ν := ν) hZ27 (rfl : ((x0 : Nat) : Int) = x0) (show ((0 : Nat) : Int) = 0 from rfl) (show ((2 : Nat) : Int) = 2 from rfl) (i3R (i3A (i3M (show (25173 : Int32) = i3 25173 from rfl) (zm_rd (Z := Z15) (ν := ν) (k := 200) (rfl : ((x0 : Nat) : Int) = x0) (show ((0 : Nat) : Int) = 0 from rfl) (show ((2 : Nat) : Int) = 2 from rfl))) (show (13849 : Int32) = i3 13849 from rfl)) (show (65536 : Int32) = i3 65536 from rfl) (by omega) (by omega) (by omega) (by omega)))
    subst e9
    refine wz_i1 (by rw [tsn]; rfl) ?_
    refine wz_i1 rfl ?_
    refine wz_rko (r := (23, _, _)) rfl ?_
    refine wz_i1 rfl ?_
    refine wz_rko (r := (11, _, _)) rfl ?_
    refine wz_i1 rfl ?_
    refine wz_i0 (i3O (n := 17) (show (2 : Int32) = i3 2 from rfl) (by omega) (by omega) (by omega)) ?_
    refine wz_i1 rfl ?_
    have r37 := zI_k hZ27I 11 hb 0 2 (lo := 0) (hi := 6) (by decide) rfl
    refine wz_i0 (i3O (n := 6) (zm_rd (Z := Z27) (ν := ν) (k := 11) (rfl : ((hb : Nat) : Int) = hb) (show ((0 : Nat) : Int) = 0 from rfl) (show ((2 : Nat) : Int) = 2 from rfl)) (by omega) (by omega) (by omega)) ?_
    refine wz_rko (r := (43, _, _)) rfl ?_
    refine wz_i1 rfl ?_
    refine wz_i0 (i3O (n := 11) (show (0 : Int32) = i3 0 from rfl) (by omega) (by omega) (by omega)) ?_
    obtain ⟨Z38, hZ38⟩ := zx (zu Z27 43 hb (Z27 11 hb 0 2) 0 (1 + (((Z3 200 x0 0 2) / 16) % 12)))
    replace hP := zl_e hP hZ38
    have hZ38I := zI_u hZ27I hZ38 (lo := 0) (hi := 12) (by decide) rfl (by omega) ⟨by decide, by decide⟩ (Or.inl (by decide))
    have t39 : Z38 11 hb 0 3 = Z27 11 hb 0 3 := zu_ne hZ38 (fun q => absurd q.1 (by decide))
    have t40 : Z38 11 hb 0 4 = Z27 11 hb 0 4 := zu_ne hZ38 (fun q => absurd q.1 (by decide))
    have t41 : Z38 11 hb 0 5 = Z27 11 hb 0 5 := zu_ne hZ38 (fun q => absurd q.1 (by decide))
    have t42 : Z38 11 hb 0 7 = Z27 11 hb 0 7 := zu_ne hZ38 (fun q => absurd q.1 (by decide))
    have t43 : Z38 11 hb 0 8 = Z27 11 hb 0 8 := zu_ne hZ38 (fun q => absurd q.1 (by decide))
    have t44 : Z38 11 hb 0 9 = Z27 11 hb 0 9 := zu_ne hZ38 (fun q => absurd q.1 (by decide))
    have t45 : Z38 11 hb 0 2 = Z27 11 hb 0 2 := zu_ne hZ38 (fun q => absurd q.1 (by decide))
    have t46 : Z38 200 0 0 1 = Z27 200 0 0 1 := zu_ne hZ38 (fun q => absurd q.1 (by decide))
    have t47 : Z38 200 0 0 2 = Z27 200 0 0 2 := zu_ne hZ38 (fun q => absurd q.1 (by decide))
    have hZ38K := zK_u hZ27K hZ38 (by decide)
    intro μ9 e9
    replace e9 := e9.trans (zm_wI (Z := Z27) (ν := ν) hZ38 (rfl : ((hb : Nat) : Int) = hb) (i3I (y := (Z27 11 hb 0 2)) (zm_rd (Z := Z27) (ν := ν) (k := 11) (rfl : ((hb : Nat) : Int) = hb) (show ((0 : Nat) : Int) = 0 from rfl) (show ((2 : Nat) : Int) = 2 from rfl)) (by omega) (by omega) (by omega)) (show ((0 : Nat) : Int) = 0 from rfl) (i3A (show (1 : Int32) = i3 1 from rfl) (i3R (i3D (zm_rd (Z := Z3) (ν := ν) (k := 200) (rfl : ((x0 : Nat) : Int) = x0) (show ((0 : Nat) : Int) = 0 from rfl) (show ((2 : Nat) : Int) = 2 from rfl)) (show (16 : Int32) = i3 16 from rfl) (by omega) (by omega) (by omega) (by omega)) (show (12 : Int32) = i3 12 from rfl) (by omega) (by omega) (by omega) (by omega))))
    subst e9
    refine wz_i1 rfl ?_
    refine wz_i0 (i3O (n := 11) (show (1 : Int32) = i3 1 from rfl) (by omega) (by omega) (by omega)) ?_
    obtain ⟨Z48, hZ48⟩ := zx (zu Z38 43 hb (Z27 11 hb 0 2) 1 (((Z15 200 x0 0 2) / 16) % 10))
    replace hP := zl_e hP hZ48
    have hZ48I := zI_u hZ38I hZ48 (lo := 0) (hi := 9) (by decide) rfl (by omega) ⟨by decide, by decide⟩ (Or.inl (by decide))
    have t49 : Z48 11 hb 0 3 = Z38 11 hb 0 3 := zu_ne hZ48 (fun q => absurd q.1 (by decide))
    have t50 : Z48 11 hb 0 4 = Z38 11 hb 0 4 := zu_ne hZ48 (fun q => absurd q.1 (by decide))
    have t51 : Z48 11 hb 0 5 = Z38 11 hb 0 5 := zu_ne hZ48 (fun q => absurd q.1 (by decide))
    have t52 : Z48 11 hb 0 7 = Z38 11 hb 0 7 := zu_ne hZ48 (fun q => absurd q.1 (by decide))
    have t53 : Z48 11 hb 0 8 = Z38 11 hb 0 8 := zu_ne hZ48 (fun q => absurd q.1 (by decide))
    have t54 : Z48 11 hb 0 9 = Z38 11 hb 0 9 := zu_ne hZ48 (fun q => absurd q.1 (by decide))
    have t55 : Z48 11 hb 0 2 = Z38 11 hb 0 2 := zu_ne hZ48 (fun q => absurd q.1 (by decide))
    have t56 : Z48 200 0 0 1 = Z38 200 0 0 1 := zu_ne hZ48 (fun q => absurd q.1 (by decide))
    have t57 : Z48 200 0 0 2 = Z38 200 0 0 2 := zu_ne hZ48 (fun q => absurd q.1 (by decide))
    have hZ48K := zK_u hZ38K hZ48 (by decide)
    intro μ9 e9
    replace e9 := e9.trans (zm_wI (Z := Z38) (ν := ν) hZ48 (rfl : ((hb : Nat) : Int) = hb) (i3I (y := (Z27 11 hb 0 2)) (zm_rd (Z := Z27) (ν := ν) (k := 11) (rfl : ((hb : Nat) : Int) = hb) (show ((0 : Nat) : Int) = 0 from rfl) (show ((2 : Nat) : Int) = 2 from rfl)) (by omega) (by omega) (by omega)) (show ((1 : Nat) : Int) = 1 from rfl) (i3R (i3D (zm_rd (Z := Z15) (ν := ν) (k := 200) (rfl : ((x0 : Nat) : Int) = x0) (show ((0 : Nat) : Int) = 0 from rfl) (show ((2 : Nat) : Int) = 2 from rfl)) (show (16 : Int32) = i3 16 from rfl) (by omega) (by omega) (by omega) (by omega)) (show (10 : Int32) = i3 10 from rfl) (by omega) (by omega) (by omega) (by omega)))
    subst e9
    refine wz_i1 rfl ?_
    refine wz_i0 (i3O (n := 11) (show (2 : Int32) = i3 2 from rfl) (by omega) (by omega) (by omega)) ?_
    have r58 := zI_xr (n := x0) hZ27I
    have q59 := zu_at hZ27
    obtain ⟨Z60, hZ60⟩ := zx (zu Z48 43 hb (Z27 11 hb 0 2) 2 (((Z27 200 x0 0 2) / 16) % 10))
    replace hP := zl_e hP hZ60
    have hZ60I := zI_u hZ48I hZ60 (lo := 0) (hi := 9) (by decide) rfl (by omega) ⟨by decide, by decide⟩ (Or.inl (by decide))
    have t61 : Z60 11 hb 0 3 = Z48 11 hb 0 3 := zu_ne hZ60 (fun q => absurd q.1 (by decide))
    have t62 : Z60 11 hb 0 4 = Z48 11 hb 0 4 := zu_ne hZ60 (fun q => absurd q.1 (by decide))
    have t63 : Z60 11 hb 0 5 = Z48 11 hb 0 5 := zu_ne hZ60 (fun q => absurd q.1 (by decide))
    have t64 : Z60 11 hb 0 7 = Z48 11 hb 0 7 := zu_ne hZ60 (fun q => absurd q.1 (by decide))
    have t65 : Z60 11 hb 0 8 = Z48 11 hb 0 8 := zu_ne hZ60 (fun q => absurd q.1 (by decide))
    have t66 : Z60 11 hb 0 9 = Z48 11 hb 0 9 := zu_ne hZ60 (fun q => absurd q.1 (by decide))
    have t67 : Z60 11 hb 0 2 = Z48 11 hb 0 2 := zu_ne hZ60 (fun q => absurd q.1 (by decide))
    have t68 : Z60 200 0 0 1 = Z48 200 0 0 1 := zu_ne hZ60 (fun q => absurd q.1 (by decide))
    have t69 : Z60 200 0 0 2 = Z48 200 0 0 2 := zu_ne hZ60 (fun q => absurd q.1 (by decide))
    have hZ60K := zK_u hZ48K hZ60 (by decide)
    intro μ9 e9
    replace e9 := e9.trans (zm_wI (Z := Z48) (ν := ν) hZ60 (rfl : ((hb : Nat) : Int) = hb) (i3I (y := (Z27 11 hb 0 2)) (zm_rd (Z := Z27) (ν := ν) (k := 11) (rfl : ((hb : Nat) : Int) = hb) (show ((0 : Nat) : Int) = 0 from rfl) (show ((2 : Nat) : Int) = 2 from rfl)) (by omega) (by omega) (by omega)) (show ((2 : Nat) : Int) = 2 from rfl) (i3R (i3D (zm_rd (Z := Z27) (ν := ν) (k := 200) (rfl : ((x0 : Nat) : Int) = x0) (show ((0 : Nat) : Int) = 0 from rfl) (show ((2 : Nat) : Int) = 2 from rfl)) (show (16 : Int32) = i3 16 from rfl) (by omega) (by omega) (by omega) (by omega)) (show (10 : Int32) = i3 10 from rfl) (by omega) (by omega) (by omega) (by omega)))
    subst e9
    refine wz_i1 rfl ?_
    refine wz_i0 (i3O (n := 11) (show (3 : Int32) = i3 3 from rfl) (by omega) (by omega) (by omega)) ?_
    obtain ⟨Z70, hZ70⟩ := zx (zu Z60 43 hb (Z27 11 hb 0 2) 3 18)
    replace hP := zl_e hP hZ70
    have hZ70I := zI_u hZ60I hZ70 (lo := 0) (hi := 40) (by decide) rfl (by omega) ⟨by decide, by decide⟩ (Or.inl (by decide))
    have t71 : Z70 11 hb 0 3 = Z60 11 hb 0 3 := zu_ne hZ70 (fun q => absurd q.1 (by decide))
    have t72 : Z70 11 hb 0 4 = Z60 11 hb 0 4 := zu_ne hZ70 (fun q => absurd q.1 (by decide))
    have t73 : Z70 11 hb 0 5 = Z60 11 hb 0 5 := zu_ne hZ70 (fun q => absurd q.1 (by decide))
    have t74 : Z70 11 hb 0 7 = Z60 11 hb 0 7 := zu_ne hZ70 (fun q => absurd q.1 (by decide))
    have t75 : Z70 11 hb 0 8 = Z60 11 hb 0 8 := zu_ne hZ70 (fun q => absurd q.1 (by decide))
    have t76 : Z70 11 hb 0 9 = Z60 11 hb 0 9 := zu_ne hZ70 (fun q => absurd q.1 (by decide))
    have t77 : Z70 11 hb 0 2 = Z60 11 hb 0 2 := zu_ne hZ70 (fun q => absurd q.1 (by decide))
    have t78 : Z70 200 0 0 1 = Z60 200 0 0 1 := zu_ne hZ70 (fun q => absurd q.1 (by decide))
    have t79 : Z70 200 0 0 2 = Z60 200 0 0 2 := zu_ne hZ70 (fun q => absurd q.1 (by decide))
    have hZ70K := zK_u hZ60K hZ70 (by decide)
    intro μ9 e9
    replace e9 := e9.trans (zm_wI (Z := Z60) (ν := ν) hZ70 (rfl : ((hb : Nat) : Int) = hb) (i3I (y := (Z27 11 hb 0 2)) (zm_rd (Z := Z27) (ν := ν) (k := 11) (rfl : ((hb : Nat) : Int) = hb) (show ((0 : Nat) : Int) = 0 from rfl) (show ((2 : Nat) : Int) = 2 from rfl)) (by omega) (by omega) (by omega)) (show ((3 : Nat) : Int) = 3 from rfl) (show (18 : Int32) = i3 18 from rfl))
    subst e9
    refine wz_i1 rfl ?_
    refine wz_rko (r := (12, _, _)) rfl ?_
    refine wz_i1 rfl ?_
    refine wz_i1 rfl ?_
    refine wz_rko (r := (11, _, _)) rfl ?_
    refine wz_i1 rfl ?_
    refine wz_i0 (i3O (n := 17) (show (13 : Int32) = i3 13 from rfl) (by omega) (by omega) (by omega)) ?_
    refine wz_i1 rfl ?_
    have r80 := zI_k hZ70I 11 hb 0 13 (lo := 0) (hi := 671) (by decide) rfl
    refine wz_i0 (i3O (n := 28) (i3D (zm_rd (Z := Z70) (ν := ν) (k := 11) (rfl : ((hb : Nat) : Int) = hb) (show ((0 : Nat) : Int) = 0 from rfl) (show ((13 : Nat) : Int) = 13 from rfl)) (show (24 : Int32) = i3 24 from rfl) (by omega) (by omega) (by omega) (by omega)) (by omega) (by omega) (by omega)) ?_
    refine wz_i1 rfl ?_
    refine wz_i0 (i3O (n := 11) (show (5 : Int32) = i3 5 from rfl) (by omega) (by omega) (by omega)) ?_
    have r81 := zI_k hZ70I 12 hb 0 ((Z70 11 hb 0 13) / 24) (lo := 0) (hi := 40) (by decide) (zrc_12 (by omega) (by omega))
    obtain ⟨Z82, hZ82⟩ := zx (zu Z70 43 hb (Z27 11 hb 0 2) 5 (Z70 12 hb 0 ((Z70 11 hb 0 13) / 24)))
    replace hP := zl_e hP hZ82
    have hZ82I := zI_u hZ70I hZ82 (lo := 0) (hi := 40) (by decide) rfl (by omega) ⟨by decide, by decide⟩ (Or.inl (by decide))
    have t83 : Z82 11 hb 0 3 = Z70 11 hb 0 3 := zu_ne hZ82 (fun q => absurd q.1 (by decide))
    have t84 : Z82 11 hb 0 4 = Z70 11 hb 0 4 := zu_ne hZ82 (fun q => absurd q.1 (by decide))
    have t85 : Z82 11 hb 0 5 = Z70 11 hb 0 5 := zu_ne hZ82 (fun q => absurd q.1 (by decide))
    have t86 : Z82 11 hb 0 7 = Z70 11 hb 0 7 := zu_ne hZ82 (fun q => absurd q.1 (by decide))
    have t87 : Z82 11 hb 0 8 = Z70 11 hb 0 8 := zu_ne hZ82 (fun q => absurd q.1 (by decide))
    have t88 : Z82 11 hb 0 9 = Z70 11 hb 0 9 := zu_ne hZ82 (fun q => absurd q.1 (by decide))
    have t89 : Z82 11 hb 0 2 = Z70 11 hb 0 2 := zu_ne hZ82 (fun q => absurd q.1 (by decide))
    have t90 : Z82 200 0 0 1 = Z70 200 0 0 1 := zu_ne hZ82 (fun q => absurd q.1 (by decide))
    have t91 : Z82 200 0 0 2 = Z70 200 0 0 2 := zu_ne hZ82 (fun q => absurd q.1 (by decide))
    have hZ82K := zK_u hZ70K hZ82 (by decide)
    intro μ9 e9
    replace e9 := e9.trans (zm_wI (Z := Z70) (ν := ν) hZ82 (rfl : ((hb : Nat) : Int) = hb) (i3I (y := (Z27 11 hb 0 2)) (zm_rd (Z := Z27) (ν := ν) (k := 11) (rfl : ((hb : Nat) : Int) = hb) (show ((0 : Nat) : Int) = 0 from rfl) (show ((2 : Nat) : Int) = 2 from rfl)) (by omega) (by omega) (by omega)) (show ((5 : Nat) : Int) = 5 from rfl) (zm_rd (Z := Z70) (ν := ν) (k := 12) (rfl : ((hb : Nat) : Int) = hb) (show ((0 : Nat) : Int) = 0 from rfl) (i3I (y := ((Z70 11 hb 0 13) / 24)) (i3D (zm_rd (Z := Z70) (ν := ν) (k := 11) (rfl : ((hb : Nat) : Int) = hb) (show ((0 : Nat) : Int) = 0 from rfl) (show ((13 : Nat) : Int) = 13 from rfl)) (show (24 : Int32) = i3 24 from rfl) (by omega) (by omega) (by omega) (by omega)) (by omega) (by omega) (by omega))))
    subst e9
    refine wz_i1 rfl ?_
    refine wz_i0 (i3O (n := 11) (show (10 : Int32) = i3 10 from rfl) (by omega) (by omega) (by omega)) ?_
    obtain ⟨Z92, hZ92⟩ := zx (zu Z82 43 hb (Z27 11 hb 0 2) 10 (-1))
    replace hP := zl_e hP hZ92
    have hZ92I := zI_u hZ82I hZ92 (lo := -1) (hi := 695) (by decide) rfl (by omega) ⟨by decide, by decide⟩ (Or.inl (by decide))
    have t93 : Z92 11 hb 0 3 = Z82 11 hb 0 3 := zu_ne hZ92 (fun q => absurd q.1 (by decide))
    have t94 : Z92 11 hb 0 4 = Z82 11 hb 0 4 := zu_ne hZ92 (fun q => absurd q.1 (by decide))
    have t95 : Z92 11 hb 0 5 = Z82 11 hb 0 5 := zu_ne hZ92 (fun q => absurd q.1 (by decide))
    have t96 : Z92 11 hb 0 7 = Z82 11 hb 0 7 := zu_ne hZ92 (fun q => absurd q.1 (by decide))
    have t97 : Z92 11 hb 0 8 = Z82 11 hb 0 8 := zu_ne hZ92 (fun q => absurd q.1 (by decide))
    have t98 : Z92 11 hb 0 9 = Z82 11 hb 0 9 := zu_ne hZ92 (fun q => absurd q.1 (by decide))
    have t99 : Z92 11 hb 0 2 = Z82 11 hb 0 2 := zu_ne hZ92 (fun q => absurd q.1 (by decide))
    have t100 : Z92 200 0 0 1 = Z82 200 0 0 1 := zu_ne hZ92 (fun q => absurd q.1 (by decide))
    have t101 : Z92 200 0 0 2 = Z82 200 0 0 2 := zu_ne hZ92 (fun q => absurd q.1 (by decide))
    have hZ92K := zK_u hZ82K hZ92 (by decide)
    intro μ9 e9
    replace e9 := e9.trans (zm_wI (Z := Z82) (ν := ν) hZ92 (rfl : ((hb : Nat) : Int) = hb) (i3I (y := (Z27 11 hb 0 2)) (zm_rd (Z := Z27) (ν := ν) (k := 11) (rfl : ((hb : Nat) : Int) = hb) (show ((0 : Nat) : Int) = 0 from rfl) (show ((2 : Nat) : Int) = 2 from rfl)) (by omega) (by omega) (by omega)) (show ((10 : Nat) : Int) = 10 from rfl) (show (-1 : Int32) = i3 (-1) from rfl))
    subst e9
    refine wz_i1 rfl ?_
    refine wz_rko (r := (11, _, _)) rfl ?_
    refine wz_i1 rfl ?_
    refine wz_i0 (i3O (n := 17) (show (2 : Int32) = i3 2 from rfl) (by omega) (by omega) (by omega)) ?_
    refine wz_i1 rfl ?_
    refine wz_i0 (i3O (n := 17) (show (2 : Int32) = i3 2 from rfl) (by omega) (by omega) (by omega)) ?_
    have r102 := zI_k hZ92I 11 hb 0 2 (lo := 0) (hi := 6) (by decide) rfl
    have q103 := (zu_ne (k' := 11) (b' := hb) (i' := 0) (j' := 2) hZ92 (fun q => absurd q.1 (by decide))).trans ((zu_ne (k' := 11) (b' := hb) (i' := 0) (j' := 2) hZ82 (fun q => absurd q.1 (by decide))).trans ((zu_ne (k' := 11) (b' := hb) (i' := 0) (j' := 2) hZ70 (fun q => absurd q.1 (by decide))).trans ((zu_ne (k' := 11) (b' := hb) (i' := 0) (j' := 2) hZ60 (fun q => absurd q.1 (by decide))).trans ((zu_ne (k' := 11) (b' := hb) (i' := 0) (j' := 2) hZ48 (fun q => absurd q.1 (by decide))).trans (zu_ne (k' := 11) (b' := hb) (i' := 0) (j' := 2) hZ38 (fun q => absurd q.1 (by decide)))))))
    obtain ⟨Z104, hZ104⟩ := zx (zu Z92 11 hb 0 2 ((Z92 11 hb 0 2) + 1))
    replace hP := zl_e hP hZ104
    have hZ104I := zI_u hZ92I hZ104 (lo := 0) (hi := 6) (by decide) rfl (by omega) ⟨by decide, by decide⟩ (Or.inl (by decide))
    have t105 : Z104 11 hb 0 3 = Z92 11 hb 0 3 := zu_ne hZ104 (fun q => absurd q.2.2.2 (by decide))
    have t106 : Z104 11 hb 0 4 = Z92 11 hb 0 4 := zu_ne hZ104 (fun q => absurd q.2.2.2 (by decide))
    have t107 : Z104 11 hb 0 5 = Z92 11 hb 0 5 := zu_ne hZ104 (fun q => absurd q.2.2.2 (by decide))
    have t108 : Z104 11 hb 0 7 = Z92 11 hb 0 7 := zu_ne hZ104 (fun q => absurd q.2.2.2 (by decide))
    have t109 : Z104 11 hb 0 8 = Z92 11 hb 0 8 := zu_ne hZ104 (fun q => absurd q.2.2.2 (by decide))
    have t110 : Z104 11 hb 0 9 = Z92 11 hb 0 9 := zu_ne hZ104 (fun q => absurd q.2.2.2 (by decide))
    have t111 := zu_at hZ104
    have t112 : Z104 200 0 0 1 = Z92 200 0 0 1 := zu_ne hZ104 (fun q => absurd q.1 (by decide))
    have t113 : Z104 200 0 0 2 = Z92 200 0 0 2 := zu_ne hZ104 (fun q => absurd q.1 (by decide))
    have hZ104K := zK_u hZ92K hZ104 (by decide)
    intro μ9 e9
    replace e9 := e9.trans (zm_wI (Z := Z92) (ν := ν) hZ104 (rfl : ((hb : Nat) : Int) = hb) (show ((0 : Nat) : Int) = 0 from rfl) (show ((2 : Nat) : Int) = 2 from rfl) (i3A (zm_rd (Z := Z92) (ν := ν) (k := 11) (rfl : ((hb : Nat) : Int) = hb) (show ((0 : Nat) : Int) = 0 from rfl) (show ((2 : Nat) : Int) = 2 from rfl)) (show (1 : Int32) = i3 1 from rfl)))
    subst e9
    refine wz_i1 (by rw [tsn]; rfl) ?_
    refine wz_rko (rsn _) ?_
    refine wz_i1 rfl ?_
    refine wz_rko (r := (23, _, _)) rfl ?_
    refine wz_i1 rfl ?_
    refine wz_i0 (i3O (n := 6) (zm_rd (Z := Z92) (ν := ν) (k := 11) (rfl : ((hb : Nat) : Int) = hb) (show ((0 : Nat) : Int) = 0 from rfl) (show ((2 : Nat) : Int) = 2 from rfl)) (by omega) (by omega) (by omega)) ?_
    refine wz_rko (r := (43, _, _)) rfl ?_
    refine wz_i1 (by rw [tsn]; rfl) ?_
    refine wz_i1 (by rw [tsn]; rfl) ?_
    refine wz_i1 (by rw [tsn]; rfl) ?_
    have r114 := zI_xr (n := x0) hZ104I
    have q115 := (zu_ne (k' := 200) (b' := x0) (i' := 0) (j' := 2) hZ104 (fun q => absurd q.1 (by decide))).trans ((zu_ne (k' := 200) (b' := x0) (i' := 0) (j' := 2) hZ92 (fun q => absurd q.1 (by decide))).trans ((zu_ne (k' := 200) (b' := x0) (i' := 0) (j' := 2) hZ82 (fun q => absurd q.1 (by decide))).trans ((zu_ne (k' := 200) (b' := x0) (i' := 0) (j' := 2) hZ70 (fun q => absurd q.1 (by decide))).trans ((zu_ne (k' := 200) (b' := x0) (i' := 0) (j' := 2) hZ60 (fun q => absurd q.1 (by decide))).trans ((zu_ne (k' := 200) (b' := x0) (i' := 0) (j' := 2) hZ48 (fun q => absurd q.1 (by decide))).trans (zu_ne (k' := 200) (b' := x0) (i' := 0) (j' := 2) hZ38 (fun q => absurd q.1 (by decide))))))))
    obtain ⟨Z116, hZ116⟩ := zx (zu Z104 200 x0 0 2 (((25173 * (Z104 200 x0 0 2)) + 13849) % 65536))
    replace hP := zl_e hP hZ116
    have hZ116I := zI_x hZ104I hZ116 (by omega)
    have t117 : Z116 11 hb 0 3 = Z104 11 hb 0 3 := zu_ne hZ116 (fun q => absurd q.1 (by decide))
    have t118 : Z116 11 hb 0 4 = Z104 11 hb 0 4 := zu_ne hZ116 (fun q => absurd q.1 (by decide))
    have t119 : Z116 11 hb 0 5 = Z104 11 hb 0 5 := zu_ne hZ116 (fun q => absurd q.1 (by decide))
    have t120 : Z116 11 hb 0 7 = Z104 11 hb 0 7 := zu_ne hZ116 (fun q => absurd q.1 (by decide))
    have t121 : Z116 11 hb 0 8 = Z104 11 hb 0 8 := zu_ne hZ116 (fun q => absurd q.1 (by decide))
    have t122 : Z116 11 hb 0 9 = Z104 11 hb 0 9 := zu_ne hZ116 (fun q => absurd q.1 (by decide))
    have t123 : Z116 11 hb 0 2 = Z104 11 hb 0 2 := zu_ne hZ116 (fun q => absurd q.1 (by decide))
    have t124 : Z116 200 0 0 1 = Z104 200 0 0 1 := zu_ne hZ116 (fun q => absurd q.2.2.2 (by decide))
    have t125 : Z116 200 0 0 2 = Z104 200 0 0 2 := zu_ne hZ116 (by omega)
    have hZ116K := zK_u hZ104K hZ116 (by decide)
    intro μ9 e9
    replace e9 := e9.trans (zm_wI (Z := Z104) (ν := ν) hZ116 (rfl : ((x0 : Nat) : Int) = x0) (show ((0 : Nat) : Int) = 0 from rfl) (show ((2 : Nat) : Int) = 2 from rfl) (i3R (i3A (i3M (show (25173 : Int32) = i3 25173 from rfl) (zm_rd (Z := Z104) (ν := ν) (k := 200) (rfl : ((x0 : Nat) : Int) = x0) (show ((0 : Nat) : Int) = 0 from rfl) (show ((2 : Nat) : Int) = 2 from rfl))) (show (13849 : Int32) = i3 13849 from rfl)) (show (65536 : Int32) = i3 65536 from rfl) (by omega) (by omega) (by omega) (by omega)))
    subst e9
    refine wz_i1 (by rw [tsn]; rfl) ?_
    refine wz_i1 rfl ?_
    refine wz_i0 (i3O (n := 11) (show (3 : Int32) = i3 3 from rfl) (by omega) (by omega) (by omega)) ?_
    have r126 := zI_xr (n := x0) hZ116I
    have q127 := zu_at hZ116
    obtain ⟨Z128, hZ128⟩ := zx (zu Z116 43 hb (Z92 11 hb 0 2) 3 (((Z116 200 x0 0 2) / 16) % 41))
    replace hP := zl_e hP hZ128
    have hZ128I := zI_u hZ116I hZ128 (lo := 0) (hi := 40) (by decide) rfl (by omega) ⟨by decide, by decide⟩ (Or.inl (by decide))
    have t129 : Z128 11 hb 0 3 = Z116 11 hb 0 3 := zu_ne hZ128 (fun q => absurd q.1 (by decide))
    have t130 : Z128 11 hb 0 4 = Z116 11 hb 0 4 := zu_ne hZ128 (fun q => absurd q.1 (by decide))
    have t131 : Z128 11 hb 0 5 = Z116 11 hb 0 5 := zu_ne hZ128 (fun q => absurd q.1 (by decide))
    have t132 : Z128 11 hb 0 7 = Z116 11 hb 0 7 := zu_ne hZ128 (fun q => absurd q.1 (by decide))
    have t133 : Z128 11 hb 0 8 = Z116 11 hb 0 8 := zu_ne hZ128 (fun q => absurd q.1 (by decide))
    have t134 : Z128 11 hb 0 9 = Z116 11 hb 0 9 := zu_ne hZ128 (fun q => absurd q.1 (by decide))
    have t135 : Z128 11 hb 0 2 = Z116 11 hb 0 2 := zu_ne hZ128 (fun q => absurd q.1 (by decide))
    have t136 : Z128 200 0 0 1 = Z116 200 0 0 1 := zu_ne hZ128 (fun q => absurd q.1 (by decide))
    have t137 : Z128 200 0 0 2 = Z116 200 0 0 2 := zu_ne hZ128 (fun q => absurd q.1 (by decide))
    have hZ128K := zK_u hZ116K hZ128 (by decide)
    intro μ9 e9
    replace e9 := e9.trans (zm_wI (Z := Z116) (ν := ν) hZ128 (rfl : ((hb : Nat) : Int) = hb) (i3I (y := (Z92 11 hb 0 2)) (zm_rd (Z := Z92) (ν := ν) (k := 11) (rfl : ((hb : Nat) : Int) = hb) (show ((0 : Nat) : Int) = 0 from rfl) (show ((2 : Nat) : Int) = 2 from rfl)) (by omega) (by omega) (by omega)) (show ((3 : Nat) : Int) = 3 from rfl) (i3R (i3D (zm_rd (Z := Z116) (ν := ν) (k := 200) (rfl : ((x0 : Nat) : Int) = x0) (show ((0 : Nat) : Int) = 0 from rfl) (show ((2 : Nat) : Int) = 2 from rfl)) (show (16 : Int32) = i3 16 from rfl) (by omega) (by omega) (by omega) (by omega)) (show (41 : Int32) = i3 41 from rfl) (by omega) (by omega) (by omega) (by omega)))
    subst e9
    refine wz_i1 (by rw [tsn]; rfl) ?_
    refine wz_rko (rsn _) ?_
    refine wz_i1 rfl ?_
    refine wz_rko (r := (23, _, _)) rfl ?_
    refine wz_i1 rfl ?_
    refine wz_i0 (i3O (n := 6) (zm_rd (Z := Z92) (ν := ν) (k := 11) (rfl : ((hb : Nat) : Int) = hb) (show ((0 : Nat) : Int) = 0 from rfl) (show ((2 : Nat) : Int) = 2 from rfl)) (by omega) (by omega) (by omega)) ?_
    refine wz_rko (r := (43, _, _)) rfl ?_
    refine wz_i1 (by rw [tsn]; rfl) ?_
    refine wz_i1 (by rw [tsn]; rfl) ?_
    refine wz_i1 (by rw [tsn]; rfl) ?_
    have r138 := zI_xr (n := x0) hZ128I
    have q139 := zu_ne (k' := 200) (b' := x0) (i' := 0) (j' := 2) hZ128 (fun q => absurd q.1 (by decide))
    obtain ⟨Z140, hZ140⟩ := zx (zu Z128 200 x0 0 2 (((25173 * (Z128 200 x0 0 2)) + 13849) % 65536))
    replace hP := zl_e hP hZ140
    have hZ140I := zI_x hZ128I hZ140 (by omega)
    have t141 : Z140 11 hb 0 3 = Z128 11 hb 0 3 := zu_ne hZ140 (fun q => absurd q.1 (by decide))
    have t142 : Z140 11 hb 0 4 = Z128 11 hb 0 4 := zu_ne hZ140 (fun q => absurd q.1 (by decide))
    have t143 : Z140 11 hb 0 5 = Z128 11 hb 0 5 := zu_ne hZ140 (fun q => absurd q.1 (by decide))
    have t144 : Z140 11 hb 0 7 = Z128 11 hb 0 7 := zu_ne hZ140 (fun q => absurd q.1 (by decide))
    have t145 : Z140 11 hb 0 8 = Z128 11 hb 0 8 := zu_ne hZ140 (fun q => absurd q.1 (by decide))
    have t146 : Z140 11 hb 0 9 = Z128 11 hb 0 9 := zu_ne hZ140 (fun q => absurd q.1 (by decide))
    have t147 : Z140 11 hb 0 2 = Z128 11 hb 0 2 := zu_ne hZ140 (fun q => absurd q.1 (by decide))
    have t148 : Z140 200 0 0 1 = Z128 200 0 0 1 := zu_ne hZ140 (fun q => absurd q.2.2.2 (by decide))
    have t149 : Z140 200 0 0 2 = Z128 200 0 0 2 := zu_ne hZ140 (by omega)
    have hZ140K := zK_u hZ128K hZ140 (by decide)
    intro μ9 e9
    replace e9 := e9.trans (zm_wI (Z := Z128) (ν := ν) hZ140 (rfl : ((x0 : Nat) : Int) = x0) (show ((0 : Nat) : Int) = 0 from rfl) (show ((2 : Nat) : Int) = 2 from rfl) (i3R (i3A (i3M (show (25173 : Int32) = i3 25173 from rfl) (zm_rd (Z := Z128) (ν := ν) (k := 200) (rfl : ((x0 : Nat) : Int) = x0) (show ((0 : Nat) : Int) = 0 from rfl) (show ((2 : Nat) : Int) = 2 from rfl))) (show (13849 : Int32) = i3 13849 from rfl)) (show (65536 : Int32) = i3 65536 from rfl) (by omega) (by omega) (by omega) (by omega)))
    subst e9
    refine wz_i1 (by rw [tsn]; rfl) ?_
    refine wz_i1 rfl ?_
    refine wz_i0 (i3O (n := 11) (show (4 : Int32) = i3 4 from rfl) (by omega) (by omega) (by omega)) ?_
    have r150 := zI_xr (n := x0) hZ140I
    have q151 := zu_at hZ140
    obtain ⟨Z152, hZ152⟩ := zx (zu Z140 43 hb (Z92 11 hb 0 2) 4 (((Z140 200 x0 0 2) / 16) % 2))
    replace hP := zl_e hP hZ152
    have hZ152I := zI_u hZ140I hZ152 (lo := 0) (hi := 1) (by decide) rfl (by omega) ⟨by decide, by decide⟩ (Or.inl (by decide))
    have t153 : Z152 11 hb 0 3 = Z140 11 hb 0 3 := zu_ne hZ152 (fun q => absurd q.1 (by decide))
    have t154 : Z152 11 hb 0 4 = Z140 11 hb 0 4 := zu_ne hZ152 (fun q => absurd q.1 (by decide))
    have t155 : Z152 11 hb 0 5 = Z140 11 hb 0 5 := zu_ne hZ152 (fun q => absurd q.1 (by decide))
    have t156 : Z152 11 hb 0 7 = Z140 11 hb 0 7 := zu_ne hZ152 (fun q => absurd q.1 (by decide))
    have t157 : Z152 11 hb 0 8 = Z140 11 hb 0 8 := zu_ne hZ152 (fun q => absurd q.1 (by decide))
    have t158 : Z152 11 hb 0 9 = Z140 11 hb 0 9 := zu_ne hZ152 (fun q => absurd q.1 (by decide))
    have t159 : Z152 11 hb 0 2 = Z140 11 hb 0 2 := zu_ne hZ152 (fun q => absurd q.1 (by decide))
    have t160 : Z152 200 0 0 1 = Z140 200 0 0 1 := zu_ne hZ152 (fun q => absurd q.1 (by decide))
    have t161 : Z152 200 0 0 2 = Z140 200 0 0 2 := zu_ne hZ152 (fun q => absurd q.1 (by decide))
    have hZ152K := zK_u hZ140K hZ152 (by decide)
    intro μ9 e9
    replace e9 := e9.trans (zm_wI (Z := Z140) (ν := ν) hZ152 (rfl : ((hb : Nat) : Int) = hb) (i3I (y := (Z92 11 hb 0 2)) (zm_rd (Z := Z92) (ν := ν) (k := 11) (rfl : ((hb : Nat) : Int) = hb) (show ((0 : Nat) : Int) = 0 from rfl) (show ((2 : Nat) : Int) = 2 from rfl)) (by omega) (by omega) (by omega)) (show ((4 : Nat) : Int) = 4 from rfl) (i3R (i3D (zm_rd (Z := Z140) (ν := ν) (k := 200) (rfl : ((x0 : Nat) : Int) = x0) (show ((0 : Nat) : Int) = 0 from rfl) (show ((2 : Nat) : Int) = 2 from rfl)) (show (16 : Int32) = i3 16 from rfl) (by omega) (by omega) (by omega) (by omega)) (show (2 : Int32) = i3 2 from rfl) (by omega) (by omega) (by omega) (by omega)))
    subst e9
    obtain ⟨m2, rfl⟩ : ∃ m2, m = m2 + 1 := ⟨m - 1, by omega⟩
    exact wz_k1 ⟨m2, by omega, Z152, (x2 + 1), (zconso rfl (zconso (zvo (rfl : i3 x1 = i3 x1)) (zconso (zvo (i3A (rfl : i3 x2 = i3 x2) (show (1 : Int32) = i3 1 from rfl))) (zconso rfl rfl)))), rfl, hZ152I, hZ152K, by omega, by omega, by omega, by omega, by omega, by omega, by omega, by omega, by omega, by omega, by omega, by omega,  hP⟩

/- yX8_tellStores -/
def zl_150_2 (x0 : Int) (hb : Int) (x1 : Int) : Nat → qz_Z → Int → qz_Z × Int
  | 0, Z, x2 => (Z, x2)
  | m + 1, Z, x2 => (if 28 ≤ x2 then (Z, x2) else (zlet (zu Z 200 x0 0 2 (((25173 * (Z 200 x0 0 2)) + 13849) % 65536)) (fun Z3 => (zlet (zu Z3 12 hb 0 x2 (((Z3 200 x0 0 2) / 16) % 41)) (fun Z14 => zl_150_2 x0 hb x1 m Z14 (x2 + 1))))))
theorem sl_150_2 {Zs Z : qz_Z} {ν : qz_N} (x0 : Nat) (hZ : zI (some (some (x0 : Int))) Z) (hK : zK [12, 200] Zs Z) (hb : Nat) (tsn : ∀ Z, qz_tag (zm Z ν) (200, x0, 0) = 2) (rsn : ∀ Z, qz_rm (zm Z ν) 200 x0 0 0 = some (10, hb, 0)) {x1 : Int} (gx1 : 0 ≤ x1 ∧ x1 ≤ 4) {x2 : Int} (gx2 : 0 ≤ x2 ∧ x2 ≤ 28) {kc0 : Int} {kc1 : Int} {kc2 : Int} {kc3 : Int} {kc4 : Int} {kc5 : Int} {kc6 : Int} {kc7 : Int} (gr0 : 1 ≤ (x0 : Int)) (gr1 : Z 11 hb 0 3 = kc0) (gr2 : Z 11 hb 0 4 = kc1) (gr3 : Z 11 hb 0 5 = kc2) (gr4 : Z 11 hb 0 7 = kc3) (gr5 : Z 11 hb 0 8 = kc4) (gr6 : Z 11 hb 0 9 = kc5) (gr7 : Z 200 0 0 1 = kc6) (gr8 : Z 200 0 0 2 = kc7) {k : wz_K} {R : wz_R} {L : qz_L} (hL : qz_fg [true, true, true, false] L = [some (.inr (.inr (some (200, x0, 0)))), some (.inl (i3 x1)), some (.inl (i3 x2)), none]) {T : qz_Z × Int} (hP : zE T (zl_150_2 x0 hb x1 ((28 - x2).toNat + 1) Z x2)) (hk : ∀ (L9 : qz_L) (Z9 : qz_Z) (yx2 : Int), qz_fg [true, true, false, false] L9 = [some (.inr (.inr (some (200, x0, 0)))), some (.inl (i3 x1)), none, none] → zI (some (some (x0 : Int))) Z9 → zK [12, 200] Zs Z9 → (0 ≤ yx2 ∧ yx2 ≤ 28) → (1 ≤ (x0 : Int)) → (Z9 11 hb 0 3 = kc0) → (Z9 11 hb 0 4 = kc1) → (Z9 11 hb 0 5 = kc2) → (Z9 11 hb 0 7 = kc3) → (Z9 11 hb 0 8 = kc4) → (Z9 11 hb 0 9 = kc5) → (Z9 200 0 0 1 = kc6) → (Z9 200 0 0 2 = kc7) → zE T ((Z9, yx2)) → k 0 (L9, [], zm Z9 ν)) : wz_loop qb_150_2 65536 k R (L, [], zm Z ν) := by
  refine wz_lp sb_150_2 (fun m x => ∃ Z : qz_Z, ∃ x2 : Int, qz_fg [true, true, true, false] x.1 = [some (.inr (.inr (some (200, x0, 0)))), some (.inl (i3 x1)), some (.inl (i3 x2)), none] ∧ x.2 = ([], zm Z ν) ∧ zI (some (some (x0 : Int))) Z ∧ zK [12, 200] Zs Z ∧ m = (28 - x2).toNat ∧ (0 ≤ x2 ∧ x2 ≤ 28) ∧ (1 ≤ (x0 : Int)) ∧ (Z 11 hb 0 3 = kc0) ∧ (Z 11 hb 0 4 = kc1) ∧ (Z 11 hb 0 5 = kc2) ∧ (Z 11 hb 0 7 = kc3) ∧ (Z 11 hb 0 8 = kc4) ∧ (Z 11 hb 0 9 = kc5) ∧ (Z 200 0 0 1 = kc6) ∧ (Z 200 0 0 2 = kc7) ∧ zE T (zl_150_2 x0 hb x1 (m + 1) Z x2)) ?_ 65536 ((28 - x2).toNat) _ (by omega) ⟨Z, x2, hL, rfl, hZ, hK, rfl, gx2, gr0, gr1, gr2, gr3, gr4, gr5, gr6, gr7, gr8, hP⟩
  clear hP gr0 gr1 gr2 gr3 gr4 gr5 gr6 gr7 gr8 gx2 hZ hK hL
  clear x2
  clear Z
  rintro m ⟨L, st, μ⟩ ⟨Z, x2, hL, hx, hZ, hK, hm, gx2, gr0, gr1, gr2, gr3, gr4, gr5, gr6, gr7, gr8, hP⟩
  cases hx
  refine fb_150_2 x0 (i3 x1) (i3 x2) _ _ _ _ hL ?_
  have rs := zI_xs (n := x0) hZ
  refine wz_br (i3Le (show (28 : Int32) = i3 28 from rfl) (rfl : i3 x2 = i3 x2) (by omega) (by omega) (by omega) (by omega)) (fun h1 => ?_) (fun h1 => ?_)
  · replace hP := zE_p hP h1
    exact hk _ _ _ (zconso rfl (zconso (zvo (rfl : i3 x1 = i3 x1)) (zconso rfl (zconso rfl rfl)))) hZ hK (by omega) (by omega) (by omega) (by omega) (by omega) (by omega) (by omega) (by omega) (by omega) (by omega) hP
  · replace hP := zE_n hP h1
    refine wz_i1 (by rw [tsn]; rfl) ?_
    refine wz_rko (rsn _) ?_
    refine wz_i1 rfl ?_
    refine wz_rko (r := (12, _, _)) rfl ?_
    refine wz_i1 (by rw [tsn]; rfl) ?_
    refine wz_i1 (by rw [tsn]; rfl) ?_
    refine wz_i1 (by rw [tsn]; rfl) ?_
    have r2 := zI_xr (n := x0) hZ
    obtain ⟨Z3, hZ3⟩ := zx (zu Z 200 x0 0 2 (((25173 * (Z 200 x0 0 2)) + 13849) % 65536))
    replace hP := zl_e hP hZ3
    have hZ3I := zI_x hZ hZ3 (by omega)
    have t4 : Z3 11 hb 0 3 = Z 11 hb 0 3 := zu_ne hZ3 (fun q => absurd q.1 (by decide))
    have t5 : Z3 11 hb 0 4 = Z 11 hb 0 4 := zu_ne hZ3 (fun q => absurd q.1 (by decide))
    have t6 : Z3 11 hb 0 5 = Z 11 hb 0 5 := zu_ne hZ3 (fun q => absurd q.1 (by decide))
    have t7 : Z3 11 hb 0 7 = Z 11 hb 0 7 := zu_ne hZ3 (fun q => absurd q.1 (by decide))
    have t8 : Z3 11 hb 0 8 = Z 11 hb 0 8 := zu_ne hZ3 (fun q => absurd q.1 (by decide))
    have t9 : Z3 11 hb 0 9 = Z 11 hb 0 9 := zu_ne hZ3 (fun q => absurd q.1 (by decide))
    have t10 : Z3 200 0 0 1 = Z 200 0 0 1 := zu_ne hZ3 (fun q => absurd q.2.2.2 (by decide))
    have t11 : Z3 200 0 0 2 = Z 200 0 0 2 := zu_ne hZ3 (by omega)
    have hZ3K := zK_u hK hZ3 (by decide)
    intro μ9 e9
    replace e9 := e9.trans (zm_wI (Z := Z) (ν := ν) hZ3 (rfl : ((x0 : Nat) : Int) = x0) (show ((0 : Nat) : Int) = 0 from rfl) (show ((2 : Nat) : Int) = 2 from rfl) (i3R (i3A (i3M (show (25173 : Int32) = i3 25173 from rfl) (zm_rd (Z := Z) (ν := ν) (k := 200) (rfl : ((x0 : Nat) : Int) = x0) (show ((0 : Nat) : Int) = 0 from rfl) (show ((2 : Nat) : Int) = 2 from rfl))) (show (13849 : Int32) = i3 13849 from rfl)) (show (65536 : Int32) = i3 65536 from rfl) (by omega) (by omega) (by omega) (by omega)))
    subst e9
    refine wz_i1 (by rw [tsn]; rfl) ?_
    refine wz_i1 rfl ?_
    refine wz_i0 (i3O (n := 28) (rfl : i3 x2 = i3 x2) (by omega) (by omega) (by omega)) ?_
    have r12 := zI_xr (n := x0) hZ3I
    have q13 := zu_at hZ3
    obtain ⟨Z14, hZ14⟩ := zx (zu Z3 12 hb 0 x2 (((Z3 200 x0 0 2) / 16) % 41))
    replace hP := zl_e hP hZ14
    have hZ14I := zI_u hZ3I hZ14 (lo := 0) (hi := 40) (by decide) (zrc_12 (by omega) (by omega)) (by omega) ⟨by decide, by decide⟩ (Or.inl (by decide))
    have t15 : Z14 11 hb 0 3 = Z3 11 hb 0 3 := zu_ne hZ14 (fun q => absurd q.1 (by decide))
    have t16 : Z14 11 hb 0 4 = Z3 11 hb 0 4 := zu_ne hZ14 (fun q => absurd q.1 (by decide))
    have t17 : Z14 11 hb 0 5 = Z3 11 hb 0 5 := zu_ne hZ14 (fun q => absurd q.1 (by decide))
    have t18 : Z14 11 hb 0 7 = Z3 11 hb 0 7 := zu_ne hZ14 (fun q => absurd q.1 (by decide))
    have t19 : Z14 11 hb 0 8 = Z3 11 hb 0 8 := zu_ne hZ14 (fun q => absurd q.1 (by decide))
    have t20 : Z14 11 hb 0 9 = Z3 11 hb 0 9 := zu_ne hZ14 (fun q => absurd q.1 (by decide))
    have t21 : Z14 200 0 0 1 = Z3 200 0 0 1 := zu_ne hZ14 (fun q => absurd q.1 (by decide))
    have t22 : Z14 200 0 0 2 = Z3 200 0 0 2 := zu_ne hZ14 (fun q => absurd q.1 (by decide))
    have hZ14K := zK_u hZ3K hZ14 (by decide)
    intro μ9 e9
    replace e9 := e9.trans (zm_wI (Z := Z3) (ν := ν) hZ14 (rfl : ((hb : Nat) : Int) = hb) (show ((0 : Nat) : Int) = 0 from rfl) (i3I (y := x2) (rfl : i3 x2 = i3 x2) (by omega) (by omega) (by omega)) (i3R (i3D (zm_rd (Z := Z3) (ν := ν) (k := 200) (rfl : ((x0 : Nat) : Int) = x0) (show ((0 : Nat) : Int) = 0 from rfl) (show ((2 : Nat) : Int) = 2 from rfl)) (show (16 : Int32) = i3 16 from rfl) (by omega) (by omega) (by omega) (by omega)) (show (41 : Int32) = i3 41 from rfl) (by omega) (by omega) (by omega) (by omega)))
    subst e9
    obtain ⟨m2, rfl⟩ : ∃ m2, m = m2 + 1 := ⟨m - 1, by omega⟩
    exact wz_k1 ⟨m2, by omega, Z14, (x2 + 1), (zconso rfl (zconso (zvo (rfl : i3 x1 = i3 x1)) (zconso (zvo (i3A (rfl : i3 x2 = i3 x2) (show (1 : Int32) = i3 1 from rfl))) (zconso rfl rfl)))), rfl, hZ14I, hZ14K, by omega, by omega, by omega, by omega, by omega, by omega, by omega, by omega, by omega, by omega, by omega,  hP⟩

/- yX8_tellStores -/
def zl_150_3 (x0 : Int) (hb : Int) (x1 : Int) : Nat → qz_Z → Int → qz_Z × Int
  | 0, Z, x2 => (Z, x2)
  | m + 1, Z, x2 => (if (Z 11 hb 0 3) ≤ x2 then (Z, x2) else (zlet (zu Z 200 x0 0 2 (((25173 * (Z 200 x0 0 2)) + 13849) % 65536)) (fun Z4 => (if x1 ≤ (((Z4 200 x0 0 2) / 16) % (max 1 (x1 + 1))) then zl_150_3 x0 hb x1 m Z4 (x2 + 1) else (zlet (zf_182 Z4 hb (((Z4 200 x0 0 2) / 16) % (max 1 (x1 + 1)))) (fun v17 => (if ((Z4 43 hb (((Z4 200 x0 0 2) / 16) % (max 1 (x1 + 1))) 0) - v17) ≤ 0 then zl_150_3 x0 hb x1 m Z4 (x2 + 1) else (zlet (zf_175 Z4 hb hb x2 (((Z4 200 x0 0 2) / 16) % (max 1 (x1 + 1)))) (fun Z20 => (zlet (zf_182 Z20 hb (((Z4 200 x0 0 2) / 16) % (max 1 (x1 + 1)))) (fun v21 => zl_150_3 x0 hb x1 m Z20 (x2 + 1))))))))))))
theorem sl_150_3 {Zs Z : qz_Z} {ν : qz_N} (x0 : Nat) (hZ : zI (some (some (x0 : Int))) Z) (hK : zK [43, 44, 200] Zs Z) (hb : Nat) (tsn : ∀ Z, qz_tag (zm Z ν) (200, x0, 0) = 2) (rsn : ∀ Z, qz_rm (zm Z ν) 200 x0 0 0 = some (10, hb, 0)) {x1 : Int} (gx1 : 0 ≤ x1 ∧ x1 ≤ 4) {x2 : Int} (gx2 : 0 ≤ x2 ∧ x2 ≤ 48) {kc0 : Int} {kc1 : Int} {kc2 : Int} {kc3 : Int} {kc4 : Int} {kc5 : Int} {kc6 : Int} {kc7 : Int} (gr0 : 1 ≤ (x0 : Int)) (gr1 : Z 11 hb 0 3 = kc0) (gr2 : Z 11 hb 0 4 = kc1) (gr3 : Z 11 hb 0 5 = kc2) (gr4 : Z 11 hb 0 7 = kc3) (gr5 : Z 11 hb 0 8 = kc4) (gr6 : Z 11 hb 0 9 = kc5) (gr7 : Z 200 0 0 1 = kc6) (gr8 : Z 200 0 0 2 = kc7) {k : wz_K} {R : wz_R} {L : qz_L} (hL : qz_fg [true, true, true, false] L = [some (.inr (.inr (some (200, x0, 0)))), some (.inl (i3 x1)), some (.inl (i3 x2)), none]) {T : qz_Z × Int} (hP : zE T (zl_150_3 x0 hb x1 ((48 - x2).toNat + 1) Z x2)) (hk : ∀ (L9 : qz_L) (Z9 : qz_Z) (yx2 : Int), qz_fg [false, false, false, false] L9 = [none, none, none, none] → zI (some (some (x0 : Int))) Z9 → zK [43, 44, 200] Zs Z9 → (0 ≤ yx2 ∧ yx2 ≤ 48) → (1 ≤ (x0 : Int)) → (Z9 11 hb 0 3 = kc0) → (Z9 11 hb 0 4 = kc1) → (Z9 11 hb 0 5 = kc2) → (Z9 11 hb 0 7 = kc3) → (Z9 11 hb 0 8 = kc4) → (Z9 11 hb 0 9 = kc5) → (Z9 200 0 0 1 = kc6) → (Z9 200 0 0 2 = kc7) → zE T ((Z9, yx2)) → k 0 (L9, [], zm Z9 ν)) : wz_loop qb_150_3 65536 k R (L, [], zm Z ν) := by
  refine wz_lp sb_150_3 (fun m x => ∃ Z : qz_Z, ∃ x2 : Int, qz_fg [true, true, true, false] x.1 = [some (.inr (.inr (some (200, x0, 0)))), some (.inl (i3 x1)), some (.inl (i3 x2)), none] ∧ x.2 = ([], zm Z ν) ∧ zI (some (some (x0 : Int))) Z ∧ zK [43, 44, 200] Zs Z ∧ m = (48 - x2).toNat ∧ (0 ≤ x2 ∧ x2 ≤ 48) ∧ (1 ≤ (x0 : Int)) ∧ (Z 11 hb 0 3 = kc0) ∧ (Z 11 hb 0 4 = kc1) ∧ (Z 11 hb 0 5 = kc2) ∧ (Z 11 hb 0 7 = kc3) ∧ (Z 11 hb 0 8 = kc4) ∧ (Z 11 hb 0 9 = kc5) ∧ (Z 200 0 0 1 = kc6) ∧ (Z 200 0 0 2 = kc7) ∧ zE T (zl_150_3 x0 hb x1 (m + 1) Z x2)) ?_ 65536 ((48 - x2).toNat) _ (by omega) ⟨Z, x2, hL, rfl, hZ, hK, rfl, gx2, gr0, gr1, gr2, gr3, gr4, gr5, gr6, gr7, gr8, hP⟩
  clear hP gr0 gr1 gr2 gr3 gr4 gr5 gr6 gr7 gr8 gx2 hZ hK hL
  clear x2
  clear Z
  rintro m ⟨L, st, μ⟩ ⟨Z, x2, hL, hx, hZ, hK, hm, gx2, gr0, gr1, gr2, gr3, gr4, gr5, gr6, gr7, gr8, hP⟩
  cases hx
  refine fb_150_3 x0 (i3 x1) (i3 x2) _ _ _ _ hL ?_
  have rs := zI_xs (n := x0) hZ
  refine wz_i1 (by rw [tsn]; rfl) ?_
  refine wz_rko (rsn _) ?_
  refine wz_i1 rfl ?_
  refine wz_rko (r := (11, _, _)) rfl ?_
  refine wz_i1 rfl ?_
  refine wz_i0 (i3O (n := 17) (show (3 : Int32) = i3 3 from rfl) (by omega) (by omega) (by omega)) ?_
  have r1 := zI_k hZ 11 hb 0 3 (lo := 0) (hi := 48) (by decide) rfl
  refine wz_br (i3Le (zm_rd (Z := Z) (ν := ν) (k := 11) (rfl : ((hb : Nat) : Int) = hb) (show ((0 : Nat) : Int) = 0 from rfl) (show ((3 : Nat) : Int) = 3 from rfl)) (rfl : i3 x2 = i3 x2) (by omega) (by omega) (by omega) (by omega)) (fun h2 => ?_) (fun h2 => ?_)
  · replace hP := zE_p hP h2
    exact hk _ _ _ (zconso rfl (zconso rfl (zconso rfl (zconso rfl rfl)))) hZ hK (by omega) (by omega) (by omega) (by omega) (by omega) (by omega) (by omega) (by omega) (by omega) (by omega) hP
  · replace hP := zE_n hP h2
    refine wz_i1 (by rw [tsn]; rfl) ?_
    refine wz_i1 (by rw [tsn]; rfl) ?_
    refine wz_i1 (by rw [tsn]; rfl) ?_
    have r3 := zI_xr (n := x0) hZ
    obtain ⟨Z4, hZ4⟩ := zx (zu Z 200 x0 0 2 (((25173 * (Z 200 x0 0 2)) + 13849) % 65536))
    replace hP := zl_e hP hZ4
    have hZ4I := zI_x hZ hZ4 (by omega)
    have t5 : Z4 11 hb 0 3 = Z 11 hb 0 3 := zu_ne hZ4 (fun q => absurd q.1 (by decide))
    have t6 : Z4 11 hb 0 4 = Z 11 hb 0 4 := zu_ne hZ4 (fun q => absurd q.1 (by decide))
    have t7 : Z4 11 hb 0 5 = Z 11 hb 0 5 := zu_ne hZ4 (fun q => absurd q.1 (by decide))
    have t8 : Z4 11 hb 0 7 = Z 11 hb 0 7 := zu_ne hZ4 (fun q => absurd q.1 (by decide))
    have t9 : Z4 11 hb 0 8 = Z 11 hb 0 8 := zu_ne hZ4 (fun q => absurd q.1 (by decide))
    have t10 : Z4 11 hb 0 9 = Z 11 hb 0 9 := zu_ne hZ4 (fun q => absurd q.1 (by decide))
    have t11 : Z4 200 0 0 1 = Z 200 0 0 1 := zu_ne hZ4 (fun q => absurd q.2.2.2 (by decide))
    have t12 : Z4 200 0 0 2 = Z 200 0 0 2 := zu_ne hZ4 (by omega)
    have hZ4K := zK_u hK hZ4 (by decide)
    intro μ9 e9
    replace e9 := e9.trans (zm_wI (Z := Z) (ν := ν) hZ4 (rfl : ((x0 : Nat) : Int) = x0) (show ((0 : Nat) : Int) = 0 from rfl) (show ((2 : Nat) : Int) = 2 from rfl) (i3R (i3A (i3M (show (25173 : Int32) = i3 25173 from rfl) (zm_rd (Z := Z) (ν := ν) (k := 200) (rfl : ((x0 : Nat) : Int) = x0) (show ((0 : Nat) : Int) = 0 from rfl) (show ((2 : Nat) : Int) = 2 from rfl))) (show (13849 : Int32) = i3 13849 from rfl)) (show (65536 : Int32) = i3 65536 from rfl) (by omega) (by omega) (by omega) (by omega)))
    subst e9
    refine wz_i1 (by rw [tsn]; rfl) ?_
    refine wz_i0 (i3N0 (i3Mx (show (1 : Int32) = i3 1 from rfl) (i3A (rfl : i3 x1 = i3 x1) (show (1 : Int32) = i3 1 from rfl)) (by omega) (by omega) (by omega) (by omega)) (by omega) (by omega) (by omega)) ?_
    have r13 := zI_xr (n := x0) hZ4I
    have q14 := zu_at hZ4
    have r15 := z_mod ((Z4 200 x0 0 2) / 16) (y := (max 1 (x1 + 1))) (by omega)
    refine wz_br (i3Le (rfl : i3 x1 = i3 x1) (i3R (i3D (zm_rd (Z := Z4) (ν := ν) (k := 200) (rfl : ((x0 : Nat) : Int) = x0) (show ((0 : Nat) : Int) = 0 from rfl) (show ((2 : Nat) : Int) = 2 from rfl)) (show (16 : Int32) = i3 16 from rfl) (by omega) (by omega) (by omega) (by omega)) (i3Mx (show (1 : Int32) = i3 1 from rfl) (i3A (rfl : i3 x1 = i3 x1) (show (1 : Int32) = i3 1 from rfl)) (by omega) (by omega) (by omega) (by omega)) (by omega) (by omega) (by omega) (by omega)) (by omega) (by omega) (by omega) (by omega)) (fun h16 => ?_) (fun h16 => ?_)
    · replace hP := zE_p hP h16
      obtain ⟨m2, rfl⟩ : ∃ m2, m = m2 + 1 := ⟨m - 1, by omega⟩
      exact wz_k1 ⟨m2, by omega, Z4, (x2 + 1), (zconso rfl (zconso (zvo (rfl : i3 x1 = i3 x1)) (zconso (zvo (i3A (rfl : i3 x2 = i3 x2) (show (1 : Int32) = i3 1 from rfl))) (zconso rfl rfl)))), rfl, hZ4I, hZ4K, by omega, by omega, by omega, by omega, by omega, by omega, by omega, by omega, by omega, by omega, by omega,  hP⟩
    · replace hP := zE_n hP h16
      refine wz_i1 (by rw [tsn]; rfl) ?_
      refine wz_rko (rsn _) ?_
      refine wz_i1 (Eq.trans (i3NE (i3R (i3D (zm_rd (Z := Z4) (ν := ν) (k := 200) (rfl : ((x0 : Nat) : Int) = x0) (show ((0 : Nat) : Int) = 0 from rfl) (show ((2 : Nat) : Int) = 2 from rfl)) (show (16 : Int32) = i3 16 from rfl) (by omega) (by omega) (by omega) (by omega)) (i3Mx (show (1 : Int32) = i3 1 from rfl) (i3A (rfl : i3 x1 = i3 x1) (show (1 : Int32) = i3 1 from rfl)) (by omega) (by omega) (by omega) (by omega)) (by omega) (by omega) (by omega) (by omega)) (show (6 : Int32) = i3 6 from rfl) (by omega) (by omega) (by omega) (by omega)) (decide_eq_true (by omega))) ?_
      refine wz_i1 rfl ?_
      refine wz_rko (r := (23, _, _)) rfl ?_
      refine wz_i1 rfl ?_
      refine wz_i0 (i3O (n := 6) (i3R (i3D (zm_rd (Z := Z4) (ν := ν) (k := 200) (rfl : ((x0 : Nat) : Int) = x0) (show ((0 : Nat) : Int) = 0 from rfl) (show ((2 : Nat) : Int) = 2 from rfl)) (show (16 : Int32) = i3 16 from rfl) (by omega) (by omega) (by omega) (by omega)) (i3Mx (show (1 : Int32) = i3 1 from rfl) (i3A (rfl : i3 x1 = i3 x1) (show (1 : Int32) = i3 1 from rfl)) (by omega) (by omega) (by omega) (by omega)) (by omega) (by omega) (by omega) (by omega)) (by omega) (by omega) (by omega)) ?_
      refine wz_rko (r := (43, _, _)) rfl ?_
      refine wz_i1 rfl ?_
      refine wz_i0 (i3O (n := 11) (show (0 : Int32) = i3 0 from rfl) (by omega) (by omega) (by omega)) ?_
      obtain ⟨v17, hv17, c9, lv17, uv17⟩ := sp_182 (ν := ν) hZ4I hb (a1 := (((Z4 200 x0 0 2) / 16) % (max 1 (x1 + 1)))) (by omega)
      replace hP := zl_e hP hv17
      refine wz_cI_of (zas (zcons rfl (zcons (zvi (i3R (i3D (zm_rd (Z := Z4) (ν := ν) (k := 200) (rfl : ((x0 : Nat) : Int) = x0) (show ((0 : Nat) : Int) = 0 from rfl) (show ((2 : Nat) : Int) = 2 from rfl)) (show (16 : Int32) = i3 16 from rfl) (by omega) (by omega) (by omega) (by omega)) (i3Mx (show (1 : Int32) = i3 1 from rfl) (i3A (rfl : i3 x1 = i3 x1) (show (1 : Int32) = i3 1 from rfl)) (by omega) (by omega) (by omega) (by omega)) (by omega) (by omega) (by omega) (by omega))) rfl)) c9) ?_
      clear c9
      have r18 := zI_k hZ4I 43 hb (((Z4 200 x0 0 2) / 16) % (max 1 (x1 + 1))) 0 (lo := 0) (hi := 12) (by decide) rfl
      refine wz_br (i3Le (i3S (zm_rd (Z := Z4) (ν := ν) (k := 43) (rfl : ((hb : Nat) : Int) = hb) (i3I (y := (((Z4 200 x0 0 2) / 16) % (max 1 (x1 + 1)))) (i3R (i3D (zm_rd (Z := Z4) (ν := ν) (k := 200) (rfl : ((x0 : Nat) : Int) = x0) (show ((0 : Nat) : Int) = 0 from rfl) (show ((2 : Nat) : Int) = 2 from rfl)) (show (16 : Int32) = i3 16 from rfl) (by omega) (by omega) (by omega) (by omega)) (i3Mx (show (1 : Int32) = i3 1 from rfl) (i3A (rfl : i3 x1 = i3 x1) (show (1 : Int32) = i3 1 from rfl)) (by omega) (by omega) (by omega) (by omega)) (by omega) (by omega) (by omega) (by omega)) (by omega) (by omega) (by omega)) (show ((0 : Nat) : Int) = 0 from rfl)) (rfl : i3 v17 = i3 v17)) (show (0 : Int32) = i3 0 from rfl) (by omega) (by omega) (by omega) (by omega)) (fun h19 => ?_) (fun h19 => ?_)
      · replace hP := zE_p hP h19
        obtain ⟨m2, rfl⟩ : ∃ m2, m = m2 + 1 := ⟨m - 1, by omega⟩
        exact wz_k1 ⟨m2, by omega, Z4, (x2 + 1), (zconso rfl (zconso (zvo (rfl : i3 x1 = i3 x1)) (zconso (zvo (i3A (rfl : i3 x2 = i3 x2) (show (1 : Int32) = i3 1 from rfl))) (zconso rfl rfl)))), rfl, hZ4I, hZ4K, by omega, by omega, by omega, by omega, by omega, by omega, by omega, by omega, by omega, by omega, by omega,  hP⟩
      · replace hP := zE_n hP h19
        refine wz_i1 (by rw [tsn]; rfl) ?_
        refine wz_rko (rsn _) ?_
        refine wz_i1 (Eq.trans (i3NE (i3R (i3D (zm_rd (Z := Z4) (ν := ν) (k := 200) (rfl : ((x0 : Nat) : Int) = x0) (show ((0 : Nat) : Int) = 0 from rfl) (show ((2 : Nat) : Int) = 2 from rfl)) (show (16 : Int32) = i3 16 from rfl) (by omega) (by omega) (by omega) (by omega)) (i3Mx (show (1 : Int32) = i3 1 from rfl) (i3A (rfl : i3 x1 = i3 x1) (show (1 : Int32) = i3 1 from rfl)) (by omega) (by omega) (by omega) (by omega)) (by omega) (by omega) (by omega) (by omega)) (show (-1 : Int32) = i3 (-1) from rfl) (by omega) (by omega) (by omega) (by omega)) (decide_eq_true (by omega))) ?_
        refine wz_i1 rfl ?_
        refine wz_rko (r := (24, _, _)) rfl ?_
        refine wz_i1 rfl ?_
        refine wz_i0 (i3O (n := 48) (rfl : i3 x2 = i3 x2) (by omega) (by omega) (by omega)) ?_
        refine wz_rko (r := (44, _, _)) rfl ?_
        obtain ⟨Z20, hZ20, c9, hZ20I, kZ20, wZ200, wZ201, wZ202, wZ203, wZ204, wZ205, wZ206, wZ207⟩ := sp_175 (ν := ν) hZ4I hb hb _ (i3I (y := x2) (rfl : i3 x2 = i3 x2) (by omega) (by omega) (by omega)) (a2 := (((Z4 200 x0 0 2) / 16) % (max 1 (x1 + 1)))) (by omega)
        have hZ20K : zK [43, 44, 200] Zs Z20 := zK_t hZ4K kZ20 (by decide)
        replace hP := zl_e hP hZ20
        refine wz_cV_of (zas (zcons rfl (zcons rfl (zcons (zvi (i3R (i3D (zm_rd (Z := Z4) (ν := ν) (k := 200) (rfl : ((x0 : Nat) : Int) = x0) (show ((0 : Nat) : Int) = 0 from rfl) (show ((2 : Nat) : Int) = 2 from rfl)) (show (16 : Int32) = i3 16 from rfl) (by omega) (by omega) (by omega) (by omega)) (i3Mx (show (1 : Int32) = i3 1 from rfl) (i3A (rfl : i3 x1 = i3 x1) (show (1 : Int32) = i3 1 from rfl)) (by omega) (by omega) (by omega) (by omega)) (by omega) (by omega) (by omega) (by omega))) rfl))) c9) ?_
        clear c9
        refine wz_i1 (Eq.trans (i3NE (i3R (i3D (zm_rd (Z := Z4) (ν := ν) (k := 200) (rfl : ((x0 : Nat) : Int) = x0) (show ((0 : Nat) : Int) = 0 from rfl) (show ((2 : Nat) : Int) = 2 from rfl)) (show (16 : Int32) = i3 16 from rfl) (by omega) (by omega) (by omega) (by omega)) (i3Mx (show (1 : Int32) = i3 1 from rfl) (i3A (rfl : i3 x1 = i3 x1) (show (1 : Int32) = i3 1 from rfl)) (by omega) (by omega) (by omega) (by omega)) (by omega) (by omega) (by omega) (by omega)) (show (6 : Int32) = i3 6 from rfl) (by omega) (by omega) (by omega) (by omega)) (decide_eq_true (by omega))) ?_
        refine wz_i1 rfl ?_
        refine wz_rko (r := (23, _, _)) rfl ?_
        refine wz_i1 rfl ?_
        refine wz_i0 (i3O (n := 6) (i3R (i3D (zm_rd (Z := Z4) (ν := ν) (k := 200) (rfl : ((x0 : Nat) : Int) = x0) (show ((0 : Nat) : Int) = 0 from rfl) (show ((2 : Nat) : Int) = 2 from rfl)) (show (16 : Int32) = i3 16 from rfl) (by omega) (by omega) (by omega) (by omega)) (i3Mx (show (1 : Int32) = i3 1 from rfl) (i3A (rfl : i3 x1 = i3 x1) (show (1 : Int32) = i3 1 from rfl)) (by omega) (by omega) (by omega) (by omega)) (by omega) (by omega) (by omega) (by omega)) (by omega) (by omega) (by omega)) ?_
        refine wz_rko (r := (43, _, _)) rfl ?_
        refine wz_i1 rfl ?_
        refine wz_i0 (i3O (n := 11) (show (0 : Int32) = i3 0 from rfl) (by omega) (by omega) (by omega)) ?_
        obtain ⟨v21, hv21, c9, lv21, uv21⟩ := sp_182 (ν := ν) hZ20I hb (a1 := (((Z4 200 x0 0 2) / 16) % (max 1 (x1 + 1)))) (by omega)
        replace hP := zl_e hP hv21
        refine wz_cI_of (zas (zcons rfl (zcons (zvi (i3R (i3D (zm_rd (Z := Z4) (ν := ν) (k := 200) (rfl : ((x0 : Nat) : Int) = x0) (show ((0 : Nat) : Int) = 0 from rfl) (show ((2 : Nat) : Int) = 2 from rfl)) (show (16 : Int32) = i3 16 from rfl) (by omega) (by omega) (by omega) (by omega)) (i3Mx (show (1 : Int32) = i3 1 from rfl) (i3A (rfl : i3 x1 = i3 x1) (show (1 : Int32) = i3 1 from rfl)) (by omega) (by omega) (by omega) (by omega)) (by omega) (by omega) (by omega) (by omega))) rfl)) c9) ?_
        clear c9
        obtain ⟨m2, rfl⟩ : ∃ m2, m = m2 + 1 := ⟨m - 1, by omega⟩
        exact wz_k1 ⟨m2, by omega, Z20, (x2 + 1), (zconso rfl (zconso (zvo (rfl : i3 x1 = i3 x1)) (zconso (zvo (i3A (rfl : i3 x2 = i3 x2) (show (1 : Int32) = i3 1 from rfl))) (zconso rfl rfl)))), rfl, hZ20I, hZ20K, by omega, by omega, by omega, by omega, by omega, by omega, by omega, by omega, by omega, by omega, by omega,  hP⟩


/-! a season told, the class (printed by season.py c) -/
/- yX8_tellStores -/
def zf_150 (Z : qz_Z) (sn hb : Int) : qz_Z := (zlet (zu Z 200 sn 0 2 (((25173 * (Z 200 sn 0 2)) + 13849) % 65536)) (fun Z2 => (zlet2 (zl_150_1 sn hb (((Z2 200 sn 0 2) / 16) % 5) 5 Z2 0) (fun Z15 y14 => (zlet2 (zl_150_2 sn hb (((Z2 200 sn 0 2) / 16) % 5) 29 Z15 0) (fun Z18 y17 => (zlet2 (zl_150_3 sn hb (((Z2 200 sn 0 2) / 16) % 5) 49 Z18 0) (fun Z21 y20 => Z21))))))))
theorem sp_150 {Z : qz_Z} {ν : qz_N} {sn : Nat} (hZ : zI (some (some (sn : Int))) Z) (hb : Nat) (tsn : ∀ Z, qz_tag (zm Z ν) (200, sn, 0) = 2) (rsn : ∀ Z, qz_rm (zm Z ν) 200 sn 0 0 = some (10, hb, 0)) (gx0 : Z 11 hb 0 2 = 0) (gx1 : 1 ≤ (sn : Int)) : ∃ P : qz_Z, P = zf_150 Z sn hb ∧ (qf_150 [.inr (.inr (some (200, sn, 0)))] (zm Z ν) = some (zm P ν, .inl none) ∧ zI (some (some (sn : Int))) P ∧ zK [11, 12, 43, 44, 200] Z P ∧ P 11 hb 0 3 = Z 11 hb 0 3 ∧ P 11 hb 0 4 = Z 11 hb 0 4 ∧ P 11 hb 0 5 = Z 11 hb 0 5 ∧ P 11 hb 0 7 = Z 11 hb 0 7 ∧ P 11 hb 0 8 = Z 11 hb 0 8 ∧ P 11 hb 0 9 = Z 11 hb 0 9 ∧ P 200 0 0 1 = Z 200 0 0 1 ∧ P 200 0 0 2 = Z 200 0 0 2) := by
  obtain ⟨P, hP⟩ := zx (zf_150 Z sn hb)
  refine zc_V (Q := fun P => zI (some (some (sn : Int))) P ∧ zK [11, 12, 43, 44, 200] Z P ∧ P 11 hb 0 3 = Z 11 hb 0 3 ∧ P 11 hb 0 4 = Z 11 hb 0 4 ∧ P 11 hb 0 5 = Z 11 hb 0 5 ∧ P 11 hb 0 7 = Z 11 hb 0 7 ∧ P 11 hb 0 8 = Z 11 hb 0 8 ∧ P 11 hb 0 9 = Z 11 hb 0 9 ∧ P 200 0 0 1 = Z 200 0 0 1 ∧ P 200 0 0 2 = Z 200 0 0 2) hP (fw_150 sn _ _ ?_)
  replace hP : zE P (zf_150 Z sn hb) := hP
  unfold zf_150 at hP
  have rs := zI_xs (n := sn) hZ
  refine wz_i1 (by rw [tsn]; rfl) ?_
  refine wz_i1 (by rw [tsn]; rfl) ?_
  refine wz_i1 (by rw [tsn]; rfl) ?_
  have r1 := zI_xr (n := sn) hZ
  obtain ⟨Z2, hZ2⟩ := zx (zu Z 200 sn 0 2 (((25173 * (Z 200 sn 0 2)) + 13849) % 65536))
  replace hP := zl_e hP hZ2
  have hZ2I := zI_x hZ hZ2 (by omega)
  have t3 : Z2 11 hb 0 3 = Z 11 hb 0 3 := zu_ne hZ2 (fun q => absurd q.1 (by decide))
  have t4 : Z2 11 hb 0 2 = Z 11 hb 0 2 := zu_ne hZ2 (fun q => absurd q.1 (by decide))
  have t5 : Z2 11 hb 0 4 = Z 11 hb 0 4 := zu_ne hZ2 (fun q => absurd q.1 (by decide))
  have t6 : Z2 11 hb 0 5 = Z 11 hb 0 5 := zu_ne hZ2 (fun q => absurd q.1 (by decide))
  have t7 : Z2 11 hb 0 7 = Z 11 hb 0 7 := zu_ne hZ2 (fun q => absurd q.1 (by decide))
  have t8 : Z2 11 hb 0 8 = Z 11 hb 0 8 := zu_ne hZ2 (fun q => absurd q.1 (by decide))
  have t9 : Z2 11 hb 0 9 = Z 11 hb 0 9 := zu_ne hZ2 (fun q => absurd q.1 (by decide))
  have t10 : Z2 200 0 0 1 = Z 200 0 0 1 := zu_ne hZ2 (fun q => absurd q.2.2.2 (by decide))
  have t11 : Z2 200 0 0 2 = Z 200 0 0 2 := zu_ne hZ2 (by omega)
  have hZ2K : zK [11, 12, 43, 44, 200] Z Z2 := zK_u zK_r hZ2 (by decide)
  intro μ9 e9
  replace e9 := e9.trans (zm_wI (Z := Z) (ν := ν) hZ2 (rfl : ((sn : Nat) : Int) = sn) (show ((0 : Nat) : Int) = 0 from rfl) (show ((2 : Nat) : Int) = 2 from rfl) (i3R (i3A (i3M (show (25173 : Int32) = i3 25173 from rfl) (zm_rd (Z := Z) (ν := ν) (k := 200) (rfl : ((sn : Nat) : Int) = sn) (show ((0 : Nat) : Int) = 0 from rfl) (show ((2 : Nat) : Int) = 2 from rfl))) (show (13849 : Int32) = i3 13849 from rfl)) (show (65536 : Int32) = i3 65536 from rfl) (by omega) (by omega) (by omega) (by omega)))
  subst e9
  refine wz_i1 (by rw [tsn]; rfl) ?_
  have r12 := zI_xr (n := sn) hZ2I
  have q13 := zu_at hZ2
  refine sl_150_1 (ν := ν) sn hZ2I zK_r hb tsn rsn (x1 := (((Z2 200 sn 0 2) / 16) % 5)) (by omega) (x2 := 0) (by omega) (kc7 := Z2 200 0 0 2) (kc6 := Z2 200 0 0 1) (kc5 := Z2 11 hb 0 9) (kc4 := Z2 11 hb 0 8) (kc3 := Z2 11 hb 0 7) (kc2 := Z2 11 hb 0 5) (kc1 := Z2 11 hb 0 4) (kc0 := Z2 11 hb 0 3) (by omega) (by omega) (by omega) (by omega) (by omega) (by omega) (by omega) (by omega) (by omega) (by omega) (zconso rfl (zconso (zvo (i3R (i3D (zm_rd (Z := Z2) (ν := ν) (k := 200) (rfl : ((sn : Nat) : Int) = sn) (show ((0 : Nat) : Int) = 0 from rfl) (show ((2 : Nat) : Int) = 2 from rfl)) (show (16 : Int32) = i3 16 from rfl) (by omega) (by omega) (by omega) (by omega)) (show (5 : Int32) = i3 5 from rfl) (by omega) (by omega) (by omega) (by omega))) (zconso (zvo (show (0 : Int32) = i3 0 from rfl)) (zconso rfl rfl)))) rfl ?_
  intro L16 Z15 y14 hL16 hZ15I kZ15 gy14 gL16_0 gL16_1 gL16_2 gL16_3 gL16_4 gL16_5 gL16_6 gL16_7 gL16_8 gL16_9 q9
  replace hP := zl_e2 hP (Eq.symm q9)
  clear q9
  have hZ15K : zK [11, 12, 43, 44, 200] Z Z15 := zK_t hZ2K kZ15 (by decide)
  refine fc_150_6 _ (i3 (((Z2 200 sn 0 2) / 16) % 5)) _ _ _ _ hL16 ?_
  refine sl_150_2 (ν := ν) sn hZ15I zK_r hb tsn rsn (x1 := (((Z2 200 sn 0 2) / 16) % 5)) (by omega) (x2 := 0) (by omega) (kc7 := Z15 200 0 0 2) (kc6 := Z15 200 0 0 1) (kc5 := Z15 11 hb 0 9) (kc4 := Z15 11 hb 0 8) (kc3 := Z15 11 hb 0 7) (kc2 := Z15 11 hb 0 5) (kc1 := Z15 11 hb 0 4) (kc0 := Z15 11 hb 0 3) (by omega) (by omega) (by omega) (by omega) (by omega) (by omega) (by omega) (by omega) (by omega) (zconso rfl (zconso (zvo (rfl : i3 (((Z2 200 sn 0 2) / 16) % 5) = i3 (((Z2 200 sn 0 2) / 16) % 5))) (zconso (zvo (show (0 : Int32) = i3 0 from rfl)) (zconso rfl rfl)))) rfl ?_
  intro L19 Z18 y17 hL19 hZ18I kZ18 gy17 gL19_0 gL19_1 gL19_2 gL19_3 gL19_4 gL19_5 gL19_6 gL19_7 gL19_8 q9
  replace hP := zl_e2 hP (Eq.symm q9)
  clear q9
  have hZ18K : zK [11, 12, 43, 44, 200] Z Z18 := zK_t hZ15K kZ18 (by decide)
  refine fc_150_5 _ (i3 (((Z2 200 sn 0 2) / 16) % 5)) _ _ _ _ hL19 ?_
  refine sl_150_3 (ν := ν) sn hZ18I zK_r hb tsn rsn (x1 := (((Z2 200 sn 0 2) / 16) % 5)) (by omega) (x2 := 0) (by omega) (kc7 := Z18 200 0 0 2) (kc6 := Z18 200 0 0 1) (kc5 := Z18 11 hb 0 9) (kc4 := Z18 11 hb 0 8) (kc3 := Z18 11 hb 0 7) (kc2 := Z18 11 hb 0 5) (kc1 := Z18 11 hb 0 4) (kc0 := Z18 11 hb 0 3) (by omega) (by omega) (by omega) (by omega) (by omega) (by omega) (by omega) (by omega) (by omega) (zconso rfl (zconso (zvo (rfl : i3 (((Z2 200 sn 0 2) / 16) % 5) = i3 (((Z2 200 sn 0 2) / 16) % 5))) (zconso (zvo (show (0 : Int32) = i3 0 from rfl)) (zconso rfl rfl)))) rfl ?_
  intro L22 Z21 y20 hL22 hZ21I kZ21 gy20 gL22_0 gL22_1 gL22_2 gL22_3 gL22_4 gL22_5 gL22_6 gL22_7 gL22_8 q9
  replace hP := zl_e2 hP (Eq.symm q9)
  clear q9
  have hZ21K : zK [11, 12, 43, 44, 200] Z Z21 := zK_t hZ18K kZ21 (by decide)
  refine fc_150_4  _ _ _ _ hL22 ?_
  exact zlV hP ⟨hZ21I, hZ21K, by omega, by omega, by omega, by omega, by omega, by omega, by omega, by omega⟩

/- yX8_tellBuyers -/
def zl_145_1 (x0 : Int) (hb : Int) : Nat → qz_Z → Int → qz_Z × Int
  | 0, Z, x1 => (Z, x1)
  | m + 1, Z, x1 => (if (2 * (Z 200 x0 0 1)) ≤ x1 then (Z, x1) else (if 8 ≤ x1 then (Z, x1) else (zlet (zu Z 200 x0 0 2 (((25173 * (Z 200 x0 0 2)) + 13849) % 65536)) (fun Z5 => (zlet (zu Z5 200 x0 0 2 (((25173 * (Z5 200 x0 0 2)) + 13849) % 65536)) (fun Z16 => (zlet (zu Z16 200 x0 0 2 (((25173 * (Z16 200 x0 0 2)) + 13849) % 65536)) (fun Z27 => (zlet (zu Z27 45 hb (Z27 11 hb 0 4) 0 (((Z5 200 x0 0 2) / 16) % 5)) (fun Z37 => (zlet (zu Z37 45 hb (Z27 11 hb 0 4) 1 (100000 * (1 + (((Z16 200 x0 0 2) / 16) % 40)))) (fun Z46 => (zlet (zu Z46 45 hb (Z27 11 hb 0 4) 2 (((Z27 200 x0 0 2) / 16) % 8)) (fun Z57 => (zlet (zu Z57 11 hb 0 4 ((Z57 11 hb 0 4) + 1)) (fun Z68 => zl_145_1 x0 hb m Z68 (x1 + 1)))))))))))))))))
theorem sl_145_1 {Zs Z : qz_Z} {ν : qz_N} (x0 : Nat) (hZ : zI (some (some (x0 : Int))) Z) (hK : zK [11, 45, 200] Zs Z) (hb : Nat) (tsn : ∀ Z, qz_tag (zm Z ν) (200, x0, 0) = 2) (rsn : ∀ Z, qz_rm (zm Z ν) 200 x0 0 0 = some (10, hb, 0)) {x1 : Int} (gx1 : 0 ≤ x1 ∧ x1 ≤ 8) {kc0 : Int} {kc1 : Int} {kc2 : Int} {kc3 : Int} {kc4 : Int} {kc5 : Int} {kc6 : Int} (gr0 : Z 11 hb 0 4 = x1) (gr1 : 1 ≤ (x0 : Int)) (gr2 : Z 11 hb 0 3 = kc0) (gr3 : Z 11 hb 0 5 = kc1) (gr4 : Z 11 hb 0 7 = kc2) (gr5 : Z 11 hb 0 8 = kc3) (gr6 : Z 11 hb 0 9 = kc4) (gr7 : Z 200 0 0 1 = kc5) (gr8 : Z 200 0 0 2 = kc6) {k : wz_K} {R : wz_R} {L : qz_L} (hL : qz_fg [true, true] L = [some (.inr (.inr (some (200, x0, 0)))), some (.inl (i3 x1))]) {T : qz_Z × Int} (hP : zE T (zl_145_1 x0 hb ((8 - x1).toNat + 1) Z x1)) (hk : ∀ (L9 : qz_L) (Z9 : qz_Z) (yx1 : Int), qz_fg [true, false] L9 = [some (.inr (.inr (some (200, x0, 0)))), none] → zI (some (some (x0 : Int))) Z9 → zK [11, 45, 200] Zs Z9 → (0 ≤ yx1 ∧ yx1 ≤ 8) → (Z9 11 hb 0 4 = yx1) → (1 ≤ (x0 : Int)) → (Z9 11 hb 0 3 = kc0) → (Z9 11 hb 0 5 = kc1) → (Z9 11 hb 0 7 = kc2) → (Z9 11 hb 0 8 = kc3) → (Z9 11 hb 0 9 = kc4) → (Z9 200 0 0 1 = kc5) → (Z9 200 0 0 2 = kc6) → zE T ((Z9, yx1)) → k 0 (L9, [], zm Z9 ν)) : wz_loop qb_145_1 65536 k R (L, [], zm Z ν) := by
  refine wz_lp sb_145_1 (fun m x => ∃ Z : qz_Z, ∃ x1 : Int, qz_fg [true, true] x.1 = [some (.inr (.inr (some (200, x0, 0)))), some (.inl (i3 x1))] ∧ x.2 = ([], zm Z ν) ∧ zI (some (some (x0 : Int))) Z ∧ zK [11, 45, 200] Zs Z ∧ m = (8 - x1).toNat ∧ (0 ≤ x1 ∧ x1 ≤ 8) ∧ (Z 11 hb 0 4 = x1) ∧ (1 ≤ (x0 : Int)) ∧ (Z 11 hb 0 3 = kc0) ∧ (Z 11 hb 0 5 = kc1) ∧ (Z 11 hb 0 7 = kc2) ∧ (Z 11 hb 0 8 = kc3) ∧ (Z 11 hb 0 9 = kc4) ∧ (Z 200 0 0 1 = kc5) ∧ (Z 200 0 0 2 = kc6) ∧ zE T (zl_145_1 x0 hb (m + 1) Z x1)) ?_ 65536 ((8 - x1).toNat) _ (by omega) ⟨Z, x1, hL, rfl, hZ, hK, rfl, gx1, gr0, gr1, gr2, gr3, gr4, gr5, gr6, gr7, gr8, hP⟩
  clear hP gr0 gr1 gr2 gr3 gr4 gr5 gr6 gr7 gr8 gx1 hZ hK hL
  clear x1
  clear Z
  rintro m ⟨L, st, μ⟩ ⟨Z, x1, hL, hx, hZ, hK, hm, gx1, gr0, gr1, gr2, gr3, gr4, gr5, gr6, gr7, gr8, hP⟩
  cases hx
  refine fb_145_1 x0 (i3 x1) _ _ _ _ hL ?_
  have rs := zI_xs (n := x0) hZ
  refine wz_i1 (by rw [tsn]; rfl) ?_
  have r1 := zI_xs (n := x0) hZ
  refine wz_br (i3Le (i3M (show (2 : Int32) = i3 2 from rfl) (zm_rd (Z := Z) (ν := ν) (k := 200) (rfl : ((x0 : Nat) : Int) = x0) (show ((0 : Nat) : Int) = 0 from rfl) (show ((1 : Nat) : Int) = 1 from rfl))) (rfl : i3 x1 = i3 x1) (by omega) (by omega) (by omega) (by omega)) (fun h2 => ?_) (fun h2 => ?_)
  · replace hP := zE_p hP h2
    exact hk _ _ _ (zconso rfl (zconso rfl rfl)) hZ hK (by omega) (by omega) (by omega) (by omega) (by omega) (by omega) (by omega) (by omega) (by omega) (by omega) hP
  · replace hP := zE_n hP h2
    refine wz_br (i3Le (show (8 : Int32) = i3 8 from rfl) (rfl : i3 x1 = i3 x1) (by omega) (by omega) (by omega) (by omega)) (fun h3 => ?_) (fun h3 => ?_)
    · replace hP := zE_p hP h3
      exact hk _ _ _ (zconso rfl (zconso rfl rfl)) hZ hK (by omega) (by omega) (by omega) (by omega) (by omega) (by omega) (by omega) (by omega) (by omega) (by omega) hP
    · replace hP := zE_n hP h3
      refine wz_i1 (by rw [tsn]; rfl) ?_
      refine wz_rko (rsn _) ?_
      refine wz_i1 (by rw [tsn]; rfl) ?_
      refine wz_i1 (by rw [tsn]; rfl) ?_
      refine wz_i1 (by rw [tsn]; rfl) ?_
      have r4 := zI_xr (n := x0) hZ
      obtain ⟨Z5, hZ5⟩ := zx (zu Z 200 x0 0 2 (((25173 * (Z 200 x0 0 2)) + 13849) % 65536))
      replace hP := zl_e hP hZ5
      have hZ5I := zI_x hZ hZ5 (by omega)
      have t6 : Z5 11 hb 0 3 = Z 11 hb 0 3 := zu_ne hZ5 (fun q => absurd q.1 (by decide))
      have t7 : Z5 11 hb 0 5 = Z 11 hb 0 5 := zu_ne hZ5 (fun q => absurd q.1 (by decide))
      have t8 : Z5 11 hb 0 7 = Z 11 hb 0 7 := zu_ne hZ5 (fun q => absurd q.1 (by decide))
      have t9 : Z5 11 hb 0 8 = Z 11 hb 0 8 := zu_ne hZ5 (fun q => absurd q.1 (by decide))
      have t10 : Z5 11 hb 0 9 = Z 11 hb 0 9 := zu_ne hZ5 (fun q => absurd q.1 (by decide))
      have t11 : Z5 11 hb 0 4 = Z 11 hb 0 4 := zu_ne hZ5 (fun q => absurd q.1 (by decide))
      have t12 : Z5 200 0 0 1 = Z 200 0 0 1 := zu_ne hZ5 (fun q => absurd q.2.2.2 (by decide))
      have t13 : Z5 200 0 0 2 = Z 200 0 0 2 := zu_ne hZ5 (by omega)
      have hZ5K := zK_u hK hZ5 (by decide)
      intro μ9 e9
      replace e9 := e9.trans (zm_wI (Z := Z) (ν := ν) hZ5 (rfl : ((x0 : Nat) : Int) = x0) (show ((0 : Nat) : Int) = 0 from rfl) (show ((2 : Nat) : Int) = 2 from rfl) (i3R (i3A (i3M (show (25173 : Int32) = i3 25173 from rfl) (zm_rd (Z := Z) (ν := ν) (k := 200) (rfl : ((x0 : Nat) : Int) = x0) (show ((0 : Nat) : Int) = 0 from rfl) (show ((2 : Nat) : Int) = 2 from rfl))) (show (13849 : Int32) = i3 13849 from rfl)) (show (65536 : Int32) = i3 65536 from rfl) (by omega) (by omega) (by omega) (by omega)))
      subst e9
      refine wz_i1 (by rw [tsn]; rfl) ?_
      refine wz_i1 (by rw [tsn]; rfl) ?_
      refine wz_i1 (by rw [tsn]; rfl) ?_
      refine wz_i1 (by rw [tsn]; rfl) ?_
      have r14 := zI_xr (n := x0) hZ5I
      have q15 := zu_at hZ5
      obtain ⟨Z16, hZ16⟩ := zx (zu Z5 200 x0 0 2 (((25173 * (Z5 200 x0 0 2)) + 13849) % 65536))
      replace hP := zl_e hP hZ16
      have hZ16I := zI_x hZ5I hZ16 (by omega)
      have t17 : Z16 11 hb 0 3 = Z5 11 hb 0 3 := zu_ne hZ16 (fun q => absurd q.1 (by decide))
      have t18 : Z16 11 hb 0 5 = Z5 11 hb 0 5 := zu_ne hZ16 (fun q => absurd q.1 (by decide))
      have t19 : Z16 11 hb 0 7 = Z5 11 hb 0 7 := zu_ne hZ16 (fun q => absurd q.1 (by decide))
      have t20 : Z16 11 hb 0 8 = Z5 11 hb 0 8 := zu_ne hZ16 (fun q => absurd q.1 (by decide))
      have t21 : Z16 11 hb 0 9 = Z5 11 hb 0 9 := zu_ne hZ16 (fun q => absurd q.1 (by decide))
      have t22 : Z16 11 hb 0 4 = Z5 11 hb 0 4 := zu_ne hZ16 (fun q => absurd q.1 (by decide))
      have t23 : Z16 200 0 0 1 = Z5 200 0 0 1 := zu_ne hZ16 (fun q => absurd q.2.2.2 (by decide))
      have t24 : Z16 200 0 0 2 = Z5 200 0 0 2 := zu_ne hZ16 (by omega)
      have hZ16K := zK_u hZ5K hZ16 (by decide)
      intro μ9 e9
      replace e9 := e9.trans (zm_wI (Z := Z5) (ν := ν) hZ16 (rfl : ((x0 : Nat) : Int) = x0) (show ((0 : Nat) : Int) = 0 from rfl) (show ((2 : Nat) : Int) = 2 from rfl) (i3R (i3A (i3M (show (25173 : Int32) = i3 25173 from rfl) (zm_rd (Z := Z5) (ν := ν) (k := 200) (rfl : ((x0 : Nat) : Int) = x0) (show ((0 : Nat) : Int) = 0 from rfl) (show ((2 : Nat) : Int) = 2 from rfl))) (show (13849 : Int32) = i3 13849 from rfl)) (show (65536 : Int32) = i3 65536 from rfl) (by omega) (by omega) (by omega) (by omega)))
      subst e9
      refine wz_i1 (by rw [tsn]; rfl) ?_
      refine wz_i1 (by rw [tsn]; rfl) ?_
      refine wz_i1 (by rw [tsn]; rfl) ?_
      refine wz_i1 (by rw [tsn]; rfl) ?_
      have r25 := zI_xr (n := x0) hZ16I
      have q26 := zu_at hZ16
      obtain ⟨Z27, hZ27⟩ := zx (zu Z16 200 x0 0 2 (((25173 * (Z16 200 x0 0 2)) + 13849) % 65536))
      replace hP := zl_e hP hZ27
      have hZ27I := zI_x hZ16I hZ27 (by omega)
      have t28 : Z27 11 hb 0 3 = Z16 11 hb 0 3 := zu_ne hZ27 (fun q => absurd q.1 (by decide))
      have t29 : Z27 11 hb 0 5 = Z16 11 hb 0 5 := zu_ne hZ27 (fun q => absurd q.1 (by decide))
      have t30 : Z27 11 hb 0 7 = Z16 11 hb 0 7 := zu_ne hZ27 (fun q => absurd q.1 (by decide))
      have t31 : Z27 11 hb 0 8 = Z16 11 hb 0 8 := zu_ne hZ27 (fun q => absurd q.1 (by decide))
      have t32 : Z27 11 hb 0 9 = Z16 11 hb 0 9 := zu_ne hZ27 (fun q => absurd q.1 (by decide))
      have t33 : Z27 11 hb 0 4 = Z16 11 hb 0 4 := zu_ne hZ27 (fun q => absurd q.1 (by decide))
      have t34 : Z27 200 0 0 1 = Z16 200 0 0 1 := zu_ne hZ27 (fun q => absurd q.2.2.2 (by decide))
      have t35 : Z27 200 0 0 2 = Z16 200 0 0 2 := zu_ne hZ27 (by omega)
      have hZ27K := zK_u hZ16K hZ27 (by decide)
      intro μ9 e9
      replace e9 := e9.trans (zm_wI (Z := Z16) (ν := ν) hZ27 (rfl : ((x0 : Nat) : Int) = x0) (show ((0 : Nat) : Int) = 0 from rfl) (show ((2 : Nat) : Int) = 2 from rfl) (i3R (i3A (i3M (show (25173 : Int32) = i3 25173 from rfl) (zm_rd (Z := Z16) (ν := ν) (k := 200) (rfl : ((x0 : Nat) : Int) = x0) (show ((0 : Nat) : Int) = 0 from rfl) (show ((2 : Nat) : Int) = 2 from rfl))) (show (13849 : Int32) = i3 13849 from rfl)) (show (65536 : Int32) = i3 65536 from rfl) (by omega) (by omega) (by omega) (by omega)))
      subst e9
      refine wz_i1 (by rw [tsn]; rfl) ?_
      refine wz_i1 rfl ?_
      refine wz_rko (r := (25, _, _)) rfl ?_
      refine wz_i1 rfl ?_
      refine wz_rko (r := (11, _, _)) rfl ?_
      refine wz_i1 rfl ?_
      refine wz_i0 (i3O (n := 17) (show (4 : Int32) = i3 4 from rfl) (by omega) (by omega) (by omega)) ?_
      refine wz_i1 rfl ?_
      have r36 := zI_k hZ27I 11 hb 0 4 (lo := 0) (hi := 8) (by decide) rfl
      refine wz_i0 (i3O (n := 8) (zm_rd (Z := Z27) (ν := ν) (k := 11) (rfl : ((hb : Nat) : Int) = hb) (show ((0 : Nat) : Int) = 0 from rfl) (show ((4 : Nat) : Int) = 4 from rfl)) (by omega) (by omega) (by omega)) ?_
      refine wz_rko (r := (45, _, _)) rfl ?_
      refine wz_i1 rfl ?_
      refine wz_i0 (i3O (n := 15) (show (0 : Int32) = i3 0 from rfl) (by omega) (by omega) (by omega)) ?_
      obtain ⟨Z37, hZ37⟩ := zx (zu Z27 45 hb (Z27 11 hb 0 4) 0 (((Z5 200 x0 0 2) / 16) % 5))
      replace hP := zl_e hP hZ37
      have hZ37I := zI_u hZ27I hZ37 (lo := 0) (hi := 4) (by decide) rfl (by omega) ⟨by decide, by decide⟩ (Or.inl (by decide))
      have t38 : Z37 11 hb 0 3 = Z27 11 hb 0 3 := zu_ne hZ37 (fun q => absurd q.1 (by decide))
      have t39 : Z37 11 hb 0 5 = Z27 11 hb 0 5 := zu_ne hZ37 (fun q => absurd q.1 (by decide))
      have t40 : Z37 11 hb 0 7 = Z27 11 hb 0 7 := zu_ne hZ37 (fun q => absurd q.1 (by decide))
      have t41 : Z37 11 hb 0 8 = Z27 11 hb 0 8 := zu_ne hZ37 (fun q => absurd q.1 (by decide))
      have t42 : Z37 11 hb 0 9 = Z27 11 hb 0 9 := zu_ne hZ37 (fun q => absurd q.1 (by decide))
      have t43 : Z37 11 hb 0 4 = Z27 11 hb 0 4 := zu_ne hZ37 (fun q => absurd q.1 (by decide))
      have t44 : Z37 200 0 0 1 = Z27 200 0 0 1 := zu_ne hZ37 (fun q => absurd q.1 (by decide))
      have t45 : Z37 200 0 0 2 = Z27 200 0 0 2 := zu_ne hZ37 (fun q => absurd q.1 (by decide))
      have hZ37K := zK_u hZ27K hZ37 (by decide)
      intro μ9 e9
      replace e9 := e9.trans (zm_wI (Z := Z27) (ν := ν) hZ37 (rfl : ((hb : Nat) : Int) = hb) (i3I (y := (Z27 11 hb 0 4)) (zm_rd (Z := Z27) (ν := ν) (k := 11) (rfl : ((hb : Nat) : Int) = hb) (show ((0 : Nat) : Int) = 0 from rfl) (show ((4 : Nat) : Int) = 4 from rfl)) (by omega) (by omega) (by omega)) (show ((0 : Nat) : Int) = 0 from rfl) (i3R (i3D (zm_rd (Z := Z5) (ν := ν) (k := 200) (rfl : ((x0 : Nat) : Int) = x0) (show ((0 : Nat) : Int) = 0 from rfl) (show ((2 : Nat) : Int) = 2 from rfl)) (show (16 : Int32) = i3 16 from rfl) (by omega) (by omega) (by omega) (by omega)) (show (5 : Int32) = i3 5 from rfl) (by omega) (by omega) (by omega) (by omega)))
      subst e9
      refine wz_i1 rfl ?_
      refine wz_i0 (i3O (n := 15) (show (1 : Int32) = i3 1 from rfl) (by omega) (by omega) (by omega)) ?_
      obtain ⟨Z46, hZ46⟩ := zx (zu Z37 45 hb (Z27 11 hb 0 4) 1 (100000 * (1 + (((Z16 200 x0 0 2) / 16) % 40))))
      replace hP := zl_e hP hZ46
      have hZ46I := zI_u hZ37I hZ46 (lo := 0) (hi := 9999999) (by decide) rfl (by omega) ⟨by decide, by decide⟩ (Or.inl (by decide))
      have t47 : Z46 11 hb 0 3 = Z37 11 hb 0 3 := zu_ne hZ46 (fun q => absurd q.1 (by decide))
      have t48 : Z46 11 hb 0 5 = Z37 11 hb 0 5 := zu_ne hZ46 (fun q => absurd q.1 (by decide))
      have t49 : Z46 11 hb 0 7 = Z37 11 hb 0 7 := zu_ne hZ46 (fun q => absurd q.1 (by decide))
      have t50 : Z46 11 hb 0 8 = Z37 11 hb 0 8 := zu_ne hZ46 (fun q => absurd q.1 (by decide))
      have t51 : Z46 11 hb 0 9 = Z37 11 hb 0 9 := zu_ne hZ46 (fun q => absurd q.1 (by decide))
      have t52 : Z46 11 hb 0 4 = Z37 11 hb 0 4 := zu_ne hZ46 (fun q => absurd q.1 (by decide))
      have t53 : Z46 200 0 0 1 = Z37 200 0 0 1 := zu_ne hZ46 (fun q => absurd q.1 (by decide))
      have t54 : Z46 200 0 0 2 = Z37 200 0 0 2 := zu_ne hZ46 (fun q => absurd q.1 (by decide))
      have hZ46K := zK_u hZ37K hZ46 (by decide)
      intro μ9 e9
      replace e9 := e9.trans (zm_wI (Z := Z37) (ν := ν) hZ46 (rfl : ((hb : Nat) : Int) = hb) (i3I (y := (Z27 11 hb 0 4)) (zm_rd (Z := Z27) (ν := ν) (k := 11) (rfl : ((hb : Nat) : Int) = hb) (show ((0 : Nat) : Int) = 0 from rfl) (show ((4 : Nat) : Int) = 4 from rfl)) (by omega) (by omega) (by omega)) (show ((1 : Nat) : Int) = 1 from rfl) (i3M (show (100000 : Int32) = i3 100000 from rfl) (i3A (show (1 : Int32) = i3 1 from rfl) (i3R (i3D (zm_rd (Z := Z16) (ν := ν) (k := 200) (rfl : ((x0 : Nat) : Int) = x0) (show ((0 : Nat) : Int) = 0 from rfl) (show ((2 : Nat) : Int) = 2 from rfl)) (show (16 : Int32) = i3 16 from rfl) (by omega) (by omega) (by omega) (by omega)) (show (40 : Int32) = i3 40 from rfl) (by omega) (by omega) (by omega) (by omega)))))
      subst e9
      refine wz_i1 rfl ?_
      refine wz_i0 (i3O (n := 15) (show (2 : Int32) = i3 2 from rfl) (by omega) (by omega) (by omega)) ?_
      have r55 := zI_xr (n := x0) hZ27I
      have q56 := zu_at hZ27
      obtain ⟨Z57, hZ57⟩ := zx (zu Z46 45 hb (Z27 11 hb 0 4) 2 (((Z27 200 x0 0 2) / 16) % 8))
      replace hP := zl_e hP hZ57
      have hZ57I := zI_u hZ46I hZ57 (lo := 0) (hi := 14) (by decide) rfl (by omega) ⟨by decide, by decide⟩ (Or.inl (by decide))
      have t58 : Z57 11 hb 0 3 = Z46 11 hb 0 3 := zu_ne hZ57 (fun q => absurd q.1 (by decide))
      have t59 : Z57 11 hb 0 5 = Z46 11 hb 0 5 := zu_ne hZ57 (fun q => absurd q.1 (by decide))
      have t60 : Z57 11 hb 0 7 = Z46 11 hb 0 7 := zu_ne hZ57 (fun q => absurd q.1 (by decide))
      have t61 : Z57 11 hb 0 8 = Z46 11 hb 0 8 := zu_ne hZ57 (fun q => absurd q.1 (by decide))
      have t62 : Z57 11 hb 0 9 = Z46 11 hb 0 9 := zu_ne hZ57 (fun q => absurd q.1 (by decide))
      have t63 : Z57 11 hb 0 4 = Z46 11 hb 0 4 := zu_ne hZ57 (fun q => absurd q.1 (by decide))
      have t64 : Z57 200 0 0 1 = Z46 200 0 0 1 := zu_ne hZ57 (fun q => absurd q.1 (by decide))
      have t65 : Z57 200 0 0 2 = Z46 200 0 0 2 := zu_ne hZ57 (fun q => absurd q.1 (by decide))
      have hZ57K := zK_u hZ46K hZ57 (by decide)
      intro μ9 e9
      replace e9 := e9.trans (zm_wI (Z := Z46) (ν := ν) hZ57 (rfl : ((hb : Nat) : Int) = hb) (i3I (y := (Z27 11 hb 0 4)) (zm_rd (Z := Z27) (ν := ν) (k := 11) (rfl : ((hb : Nat) : Int) = hb) (show ((0 : Nat) : Int) = 0 from rfl) (show ((4 : Nat) : Int) = 4 from rfl)) (by omega) (by omega) (by omega)) (show ((2 : Nat) : Int) = 2 from rfl) (i3R (i3D (zm_rd (Z := Z27) (ν := ν) (k := 200) (rfl : ((x0 : Nat) : Int) = x0) (show ((0 : Nat) : Int) = 0 from rfl) (show ((2 : Nat) : Int) = 2 from rfl)) (show (16 : Int32) = i3 16 from rfl) (by omega) (by omega) (by omega) (by omega)) (show (8 : Int32) = i3 8 from rfl) (by omega) (by omega) (by omega) (by omega)))
      subst e9
      refine wz_i1 rfl ?_
      refine wz_rko (r := (11, _, _)) rfl ?_
      refine wz_i1 rfl ?_
      refine wz_i0 (i3O (n := 17) (show (4 : Int32) = i3 4 from rfl) (by omega) (by omega) (by omega)) ?_
      refine wz_i1 rfl ?_
      refine wz_i0 (i3O (n := 17) (show (4 : Int32) = i3 4 from rfl) (by omega) (by omega) (by omega)) ?_
      have r66 := zI_k hZ57I 11 hb 0 4 (lo := 0) (hi := 8) (by decide) rfl
      have q67 := (zu_ne (k' := 11) (b' := hb) (i' := 0) (j' := 4) hZ57 (fun q => absurd q.1 (by decide))).trans ((zu_ne (k' := 11) (b' := hb) (i' := 0) (j' := 4) hZ46 (fun q => absurd q.1 (by decide))).trans (zu_ne (k' := 11) (b' := hb) (i' := 0) (j' := 4) hZ37 (fun q => absurd q.1 (by decide))))
      obtain ⟨Z68, hZ68⟩ := zx (zu Z57 11 hb 0 4 ((Z57 11 hb 0 4) + 1))
      replace hP := zl_e hP hZ68
      have hZ68I := zI_u hZ57I hZ68 (lo := 0) (hi := 8) (by decide) rfl (by omega) ⟨by decide, by decide⟩ (Or.inl (by decide))
      have t69 : Z68 11 hb 0 3 = Z57 11 hb 0 3 := zu_ne hZ68 (fun q => absurd q.2.2.2 (by decide))
      have t70 : Z68 11 hb 0 5 = Z57 11 hb 0 5 := zu_ne hZ68 (fun q => absurd q.2.2.2 (by decide))
      have t71 : Z68 11 hb 0 7 = Z57 11 hb 0 7 := zu_ne hZ68 (fun q => absurd q.2.2.2 (by decide))
      have t72 : Z68 11 hb 0 8 = Z57 11 hb 0 8 := zu_ne hZ68 (fun q => absurd q.2.2.2 (by decide))
      have t73 : Z68 11 hb 0 9 = Z57 11 hb 0 9 := zu_ne hZ68 (fun q => absurd q.2.2.2 (by decide))
      have t74 := zu_at hZ68
      have t75 : Z68 200 0 0 1 = Z57 200 0 0 1 := zu_ne hZ68 (fun q => absurd q.1 (by decide))
      have t76 : Z68 200 0 0 2 = Z57 200 0 0 2 := zu_ne hZ68 (fun q => absurd q.1 (by decide))
      have hZ68K := zK_u hZ57K hZ68 (by decide)
      intro μ9 e9
      replace e9 := e9.trans (zm_wI (Z := Z57) (ν := ν) hZ68 (rfl : ((hb : Nat) : Int) = hb) (show ((0 : Nat) : Int) = 0 from rfl) (show ((4 : Nat) : Int) = 4 from rfl) (i3A (zm_rd (Z := Z57) (ν := ν) (k := 11) (rfl : ((hb : Nat) : Int) = hb) (show ((0 : Nat) : Int) = 0 from rfl) (show ((4 : Nat) : Int) = 4 from rfl)) (show (1 : Int32) = i3 1 from rfl)))
      subst e9
      obtain ⟨m2, rfl⟩ : ∃ m2, m = m2 + 1 := ⟨m - 1, by omega⟩
      exact wz_k1 ⟨m2, by omega, Z68, (x1 + 1), (zconso rfl (zconso (zvo (i3A (rfl : i3 x1 = i3 x1) (show (1 : Int32) = i3 1 from rfl))) rfl)), rfl, hZ68I, hZ68K, by omega, by omega, by omega, by omega, by omega, by omega, by omega, by omega, by omega, by omega, by omega,  hP⟩

