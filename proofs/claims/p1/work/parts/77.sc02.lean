/-! a season told, the class (printed by season.py c) -/
/- yX8_tellGoods -/
def zf_148 (Z : qz_Z) (sn hb : Int) : qz_Z := (zlet (zu Z 200 sn 0 2 (((25173 * (Z 200 sn 0 2)) + 13849) % 65536)) (fun Z2 => (zlet2 (zl_148_1 sn hb (2 + (((Z2 200 sn 0 2) / 16) % 4)) 6 Z2 0) (fun Z18 y17 => (zlet (zu Z18 200 sn 0 2 (((25173 * (Z18 200 sn 0 2)) + 13849) % 65536)) (fun Z21 => (zlet2 (zl_148_2 sn hb (2 + (((Z2 200 sn 0 2) / 16) % 4)) (2 + (((Z21 200 sn 0 2) / 16) % 5)) 7 Z21 0) (fun Z37 y36 => (zlet2 (zl_148_3 sn hb (2 + (((Z2 200 sn 0 2) / 16) % 4)) (2 + (((Z21 200 sn 0 2) / 16) % 5)) 13 Z37 0) (fun Z40 y39 => Z40))))))))))
theorem sp_148 {Z : qz_Z} {ν : qz_N} {sn : Nat} (hZ : zI (some (some (sn : Int))) Z) (hb : Nat) (tsn : ∀ Z, qz_tag (zm Z ν) (200, sn, 0) = 2) (rsn : ∀ Z, qz_rm (zm Z ν) 200 sn 0 0 = some (10, hb, 0)) (gx0 : Z 11 hb 0 0 = 0) (gx1 : Z 11 hb 0 1 = 0) (gx2 : Z 11 hb 0 3 = 0) (gx3 : 1 ≤ (sn : Int)) : ∃ P : qz_Z, P = zf_148 Z sn hb ∧ (qf_148 [.inr (.inr (some (200, sn, 0)))] (zm Z ν) = some (zm P ν, .inl none) ∧ zI (some (some (sn : Int))) P ∧ zK [11, 41, 42, 44, 200] Z P ∧ P 11 hb 0 3 = Z 200 sn 0 1 ∧ P 11 hb 0 2 = Z 11 hb 0 2 ∧ P 11 hb 0 4 = Z 11 hb 0 4 ∧ P 11 hb 0 5 = Z 11 hb 0 5 ∧ P 11 hb 0 7 = Z 11 hb 0 7 ∧ P 11 hb 0 8 = Z 11 hb 0 8 ∧ P 11 hb 0 9 = Z 11 hb 0 9 ∧ P 200 0 0 1 = Z 200 0 0 1 ∧ P 200 0 0 2 = Z 200 0 0 2) := by
  obtain ⟨P, hP⟩ := zx (zf_148 Z sn hb)
  refine zc_V (Q := fun P => zI (some (some (sn : Int))) P ∧ zK [11, 41, 42, 44, 200] Z P ∧ P 11 hb 0 3 = Z 200 sn 0 1 ∧ P 11 hb 0 2 = Z 11 hb 0 2 ∧ P 11 hb 0 4 = Z 11 hb 0 4 ∧ P 11 hb 0 5 = Z 11 hb 0 5 ∧ P 11 hb 0 7 = Z 11 hb 0 7 ∧ P 11 hb 0 8 = Z 11 hb 0 8 ∧ P 11 hb 0 9 = Z 11 hb 0 9 ∧ P 200 0 0 1 = Z 200 0 0 1 ∧ P 200 0 0 2 = Z 200 0 0 2) hP (fw_148 sn _ _ ?_)
  replace hP : zE P (zf_148 Z sn hb) := hP
  unfold zf_148 at hP
  have rs := zI_xs (n := sn) hZ
  refine wz_i1 (by rw [tsn]; rfl) ?_
  refine wz_i1 (by rw [tsn]; rfl) ?_
  refine wz_i1 (by rw [tsn]; rfl) ?_
  have r1 := zI_xr (n := sn) hZ
  obtain ⟨Z2, hZ2⟩ := zx (zu Z 200 sn 0 2 (((25173 * (Z 200 sn 0 2)) + 13849) % 65536))
  replace hP := zl_e hP hZ2
  have hZ2I := zI_x hZ hZ2 (by omega)
  have t3 : Z2 11 hb 0 0 = Z 11 hb 0 0 := zu_ne hZ2 (fun q => absurd q.1 (by decide))
  have t4 : Z2 11 hb 0 1 = Z 11 hb 0 1 := zu_ne hZ2 (fun q => absurd q.1 (by decide))
  have t5 : Z2 11 hb 0 3 = Z 11 hb 0 3 := zu_ne hZ2 (fun q => absurd q.1 (by decide))
  have t6 : Z2 200 0 0 1 = Z 200 0 0 1 := zu_ne hZ2 (fun q => absurd q.2.2.2 (by decide))
  have t7 : Z2 200 0 0 2 = Z 200 0 0 2 := zu_ne hZ2 (by omega)
  have t8 : Z2 200 sn 0 1 = Z 200 sn 0 1 := zu_ne hZ2 (fun q => absurd q.2.2.2 (by decide))
  have t9 : Z2 11 hb 0 2 = Z 11 hb 0 2 := zu_ne hZ2 (fun q => absurd q.1 (by decide))
  have t10 : Z2 11 hb 0 4 = Z 11 hb 0 4 := zu_ne hZ2 (fun q => absurd q.1 (by decide))
  have t11 : Z2 11 hb 0 5 = Z 11 hb 0 5 := zu_ne hZ2 (fun q => absurd q.1 (by decide))
  have t12 : Z2 11 hb 0 7 = Z 11 hb 0 7 := zu_ne hZ2 (fun q => absurd q.1 (by decide))
  have t13 : Z2 11 hb 0 8 = Z 11 hb 0 8 := zu_ne hZ2 (fun q => absurd q.1 (by decide))
  have t14 : Z2 11 hb 0 9 = Z 11 hb 0 9 := zu_ne hZ2 (fun q => absurd q.1 (by decide))
  have hZ2K : zK [11, 41, 42, 44, 200] Z Z2 := zK_u zK_r hZ2 (by decide)
  intro μ9 e9
  replace e9 := e9.trans (zm_wI (Z := Z) (ν := ν) hZ2 (rfl : ((sn : Nat) : Int) = sn) (show ((0 : Nat) : Int) = 0 from rfl) (show ((2 : Nat) : Int) = 2 from rfl) (i3R (i3A (i3M (show (25173 : Int32) = i3 25173 from rfl) (zm_rd (Z := Z) (ν := ν) (k := 200) (rfl : ((sn : Nat) : Int) = sn) (show ((0 : Nat) : Int) = 0 from rfl) (show ((2 : Nat) : Int) = 2 from rfl))) (show (13849 : Int32) = i3 13849 from rfl)) (show (65536 : Int32) = i3 65536 from rfl) (by omega) (by omega) (by omega) (by omega)))
  subst e9
  refine wz_i1 (by rw [tsn]; rfl) ?_
  have r15 := zI_xr (n := sn) hZ2I
  have q16 := zu_at hZ2
  refine sl_148_1 (ν := ν) sn hZ2I zK_r hb tsn rsn (x1 := (2 + (((Z2 200 sn 0 2) / 16) % 4))) (by omega) (x2 := 0) (by omega) (kc10 := Z2 200 sn 0 1) (kc9 := Z2 200 0 0 2) (kc8 := Z2 200 0 0 1) (kc7 := Z2 11 hb 0 9) (kc6 := Z2 11 hb 0 8) (kc5 := Z2 11 hb 0 7) (kc4 := Z2 11 hb 0 5) (kc3 := Z2 11 hb 0 4) (kc2 := Z2 11 hb 0 2) (kc1 := Z2 11 hb 0 3) (kc0 := Z2 11 hb 0 1) (by omega) (by omega) (by omega) (by omega) (by omega) (by omega) (by omega) (by omega) (by omega) (by omega) (by omega) (by omega) (by omega) (zconso rfl (zconso (zvo (i3A (show (2 : Int32) = i3 2 from rfl) (i3R (i3D (zm_rd (Z := Z2) (ν := ν) (k := 200) (rfl : ((sn : Nat) : Int) = sn) (show ((0 : Nat) : Int) = 0 from rfl) (show ((2 : Nat) : Int) = 2 from rfl)) (show (16 : Int32) = i3 16 from rfl) (by omega) (by omega) (by omega) (by omega)) (show (4 : Int32) = i3 4 from rfl) (by omega) (by omega) (by omega) (by omega)))) (zconso (zvo (show (0 : Int32) = i3 0 from rfl)) (zconso rfl (zconso rfl (zconso rfl (zconso rfl (zconso rfl (zconso rfl (zconso rfl rfl)))))))))) rfl ?_
  intro L19 Z18 y17 hL19 hZ18I kZ18 gy17 gL19_0 gL19_1 gL19_2 gL19_3 gL19_4 gL19_5 gL19_6 gL19_7 gL19_8 gL19_9 gL19_10 gL19_11 gL19_12 q9
  replace hP := zl_e2 hP (Eq.symm q9)
  clear q9
  have hZ18K : zK [11, 41, 42, 44, 200] Z Z18 := zK_t hZ2K kZ18 (by decide)
  refine fc_148_6 _ (i3 (2 + (((Z2 200 sn 0 2) / 16) % 4))) _ _ _ _ hL19 ?_
  refine wz_i1 (by rw [tsn]; rfl) ?_
  refine wz_i1 (by rw [tsn]; rfl) ?_
  refine wz_i1 (by rw [tsn]; rfl) ?_
  have r20 := zI_xr (n := sn) hZ18I
  obtain ⟨Z21, hZ21⟩ := zx (zu Z18 200 sn 0 2 (((25173 * (Z18 200 sn 0 2)) + 13849) % 65536))
  replace hP := zl_e hP hZ21
  have hZ21I := zI_x hZ18I hZ21 (by omega)
  have t22 : Z21 11 hb 0 0 = Z18 11 hb 0 0 := zu_ne hZ21 (fun q => absurd q.1 (by decide))
  have t23 : Z21 11 hb 0 1 = Z18 11 hb 0 1 := zu_ne hZ21 (fun q => absurd q.1 (by decide))
  have t24 : Z21 11 hb 0 3 = Z18 11 hb 0 3 := zu_ne hZ21 (fun q => absurd q.1 (by decide))
  have t25 : Z21 200 0 0 1 = Z18 200 0 0 1 := zu_ne hZ21 (fun q => absurd q.2.2.2 (by decide))
  have t26 : Z21 200 0 0 2 = Z18 200 0 0 2 := zu_ne hZ21 (by omega)
  have t27 : Z21 200 sn 0 1 = Z18 200 sn 0 1 := zu_ne hZ21 (fun q => absurd q.2.2.2 (by decide))
  have t28 : Z21 11 hb 0 2 = Z18 11 hb 0 2 := zu_ne hZ21 (fun q => absurd q.1 (by decide))
  have t29 : Z21 11 hb 0 4 = Z18 11 hb 0 4 := zu_ne hZ21 (fun q => absurd q.1 (by decide))
  have t30 : Z21 11 hb 0 5 = Z18 11 hb 0 5 := zu_ne hZ21 (fun q => absurd q.1 (by decide))
  have t31 : Z21 11 hb 0 7 = Z18 11 hb 0 7 := zu_ne hZ21 (fun q => absurd q.1 (by decide))
  have t32 : Z21 11 hb 0 8 = Z18 11 hb 0 8 := zu_ne hZ21 (fun q => absurd q.1 (by decide))
  have t33 : Z21 11 hb 0 9 = Z18 11 hb 0 9 := zu_ne hZ21 (fun q => absurd q.1 (by decide))
  have hZ21K := zK_u hZ18K hZ21 (by decide)
  intro μ9 e9
  replace e9 := e9.trans (zm_wI (Z := Z18) (ν := ν) hZ21 (rfl : ((sn : Nat) : Int) = sn) (show ((0 : Nat) : Int) = 0 from rfl) (show ((2 : Nat) : Int) = 2 from rfl) (i3R (i3A (i3M (show (25173 : Int32) = i3 25173 from rfl) (zm_rd (Z := Z18) (ν := ν) (k := 200) (rfl : ((sn : Nat) : Int) = sn) (show ((0 : Nat) : Int) = 0 from rfl) (show ((2 : Nat) : Int) = 2 from rfl))) (show (13849 : Int32) = i3 13849 from rfl)) (show (65536 : Int32) = i3 65536 from rfl) (by omega) (by omega) (by omega) (by omega)))
  subst e9
  refine wz_i1 (by rw [tsn]; rfl) ?_
  have r34 := zI_xr (n := sn) hZ21I
  have q35 := zu_at hZ21
  refine sl_148_2 (ν := ν) sn hZ21I zK_r hb tsn rsn (x1 := (2 + (((Z2 200 sn 0 2) / 16) % 4))) (by omega) (x2 := (2 + (((Z21 200 sn 0 2) / 16) % 5))) (by omega) (x3 := 0) (by omega) (kc10 := Z21 200 sn 0 1) (kc9 := Z21 200 0 0 2) (kc8 := Z21 200 0 0 1) (kc7 := Z21 11 hb 0 9) (kc6 := Z21 11 hb 0 8) (kc5 := Z21 11 hb 0 7) (kc4 := Z21 11 hb 0 5) (kc3 := Z21 11 hb 0 4) (kc2 := Z21 11 hb 0 2) (kc1 := Z21 11 hb 0 3) (kc0 := Z21 11 hb 0 0) (by omega) (by omega) (by omega) (by omega) (by omega) (by omega) (by omega) (by omega) (by omega) (by omega) (by omega) (by omega) (by omega) (zconso rfl (zconso (zvo (rfl : i3 (2 + (((Z2 200 sn 0 2) / 16) % 4)) = i3 (2 + (((Z2 200 sn 0 2) / 16) % 4)))) (zconso (zvo (i3A (show (2 : Int32) = i3 2 from rfl) (i3R (i3D (zm_rd (Z := Z21) (ν := ν) (k := 200) (rfl : ((sn : Nat) : Int) = sn) (show ((0 : Nat) : Int) = 0 from rfl) (show ((2 : Nat) : Int) = 2 from rfl)) (show (16 : Int32) = i3 16 from rfl) (by omega) (by omega) (by omega) (by omega)) (show (5 : Int32) = i3 5 from rfl) (by omega) (by omega) (by omega) (by omega)))) (zconso (zvo (show (0 : Int32) = i3 0 from rfl)) (zconso rfl (zconso rfl (zconso rfl (zconso rfl (zconso rfl (zconso rfl rfl)))))))))) rfl ?_
  intro L38 Z37 y36 hL38 hZ37I kZ37 gy36 gL38_0 gL38_1 gL38_2 gL38_3 gL38_4 gL38_5 gL38_6 gL38_7 gL38_8 gL38_9 gL38_10 gL38_11 gL38_12 q9
  replace hP := zl_e2 hP (Eq.symm q9)
  clear q9
  have hZ37K : zK [11, 41, 42, 44, 200] Z Z37 := zK_t hZ21K kZ37 (by decide)
  refine fc_148_5 _ (i3 (2 + (((Z2 200 sn 0 2) / 16) % 4))) (i3 (2 + (((Z21 200 sn 0 2) / 16) % 5))) _ _ _ _ hL38 ?_
  refine sl_148_3 (ν := ν) sn hZ37I zK_r hb tsn rsn (x1 := (2 + (((Z2 200 sn 0 2) / 16) % 4))) (by omega) (x2 := (2 + (((Z21 200 sn 0 2) / 16) % 5))) (by omega) (x3 := 0) (by omega) (kc10 := Z37 200 sn 0 1) (kc9 := Z37 200 0 0 2) (kc8 := Z37 200 0 0 1) (kc7 := Z37 11 hb 0 9) (kc6 := Z37 11 hb 0 8) (kc5 := Z37 11 hb 0 7) (kc4 := Z37 11 hb 0 5) (kc3 := Z37 11 hb 0 4) (kc2 := Z37 11 hb 0 2) (kc1 := Z37 11 hb 0 1) (kc0 := Z37 11 hb 0 0) (by omega) (by omega) (by omega) (by omega) (by omega) (by omega) (by omega) (by omega) (by omega) (by omega) (by omega) (by omega) (by omega) (by omega) (zconso rfl (zconso (zvo (rfl : i3 (2 + (((Z2 200 sn 0 2) / 16) % 4)) = i3 (2 + (((Z2 200 sn 0 2) / 16) % 4)))) (zconso (zvo (rfl : i3 (2 + (((Z21 200 sn 0 2) / 16) % 5)) = i3 (2 + (((Z21 200 sn 0 2) / 16) % 5)))) (zconso (zvo (show (0 : Int32) = i3 0 from rfl)) (zconso rfl (zconso rfl (zconso rfl (zconso rfl (zconso rfl (zconso rfl rfl)))))))))) rfl ?_
  intro L41 Z40 y39 hL41 hZ40I kZ40 gy39 gL41_0 gL41_1 gL41_2 gL41_3 gL41_4 gL41_5 gL41_6 gL41_7 gL41_8 gL41_9 gL41_10 gL41_11 gL41_12 gL41_13 gL41_14 q9
  replace hP := zl_e2 hP (Eq.symm q9)
  clear q9
  have hZ40K : zK [11, 41, 42, 44, 200] Z Z40 := zK_t hZ37K kZ40 (by decide)
  refine fc_148_4  _ _ _ _ hL41 ?_
  exact zlV hP ⟨hZ40I, hZ40K, by omega, by omega, by omega, by omega, by omega, by omega, by omega, by omega, by omega⟩

/- yX10_move -/
def zf_175 (Z : qz_Z) (a0b : Int) (a1b a1ij : Int) (a2 : Int) : qz_Z := (if (Z 44 a1b a1ij 12) < 0 then (zlet (zu Z 43 a0b a2 7 (w3 ((Z 43 a0b a2 7) + 1))) (fun Z5 => (zlet (zu Z5 44 a1b a1ij 12 a2) (fun Z14 => Z14)))) else (if 6 ≤ (Z 44 a1b a1ij 12) then (zlet (zu Z 43 a0b a2 7 (w3 ((Z 43 a0b a2 7) + 1))) (fun Z26 => (zlet (zu Z26 44 a1b a1ij 12 a2) (fun Z35 => Z35)))) else (zlet (zu Z 43 a0b (Z 44 a1b a1ij 12) 7 (w3 ((Z 43 a0b (Z 44 a1b a1ij 12) 7) + 1))) (fun Z46 => (zlet (zu Z46 43 a0b a2 7 (w3 ((Z46 43 a0b a2 7) + 1))) (fun Z57 => (zlet (zu Z57 44 a1b a1ij 12 a2) (fun Z66 => Z66))))))))
theorem sp_175 {s : zS} {Z : qz_Z} {ν : qz_N} (hZ : zI s Z) (a0b : Nat) (a1b : Nat) (a1i : Nat) {a1ij : Int} (ea1i : (a1i : Int) = a1ij) {a2 : Int} (ga2 : 0 ≤ a2 ∧ a2 ≤ 3) : ∃ P : qz_Z, P = zf_175 Z a0b a1b a1ij a2 ∧ (qf_175 [.inr (.inr (some (10, a0b, 0))), .inr (.inr (some (44, a1b, a1i))), .inl (i3 a2)] (zm Z ν) = some (zm P ν, .inl none) ∧ zI s P ∧ zK [43, 44] Z P ∧ P 11 a0b 0 3 = Z 11 a0b 0 3 ∧ P 11 a0b 0 4 = Z 11 a0b 0 4 ∧ P 11 a0b 0 5 = Z 11 a0b 0 5 ∧ P 11 a0b 0 7 = Z 11 a0b 0 7 ∧ P 11 a0b 0 8 = Z 11 a0b 0 8 ∧ P 11 a0b 0 9 = Z 11 a0b 0 9 ∧ P 200 0 0 1 = Z 200 0 0 1 ∧ P 200 0 0 2 = Z 200 0 0 2) := by
  obtain ⟨P, hP⟩ := zx (zf_175 Z a0b a1b a1ij a2)
  refine zc_V (Q := fun P => zI s P ∧ zK [43, 44] Z P ∧ P 11 a0b 0 3 = Z 11 a0b 0 3 ∧ P 11 a0b 0 4 = Z 11 a0b 0 4 ∧ P 11 a0b 0 5 = Z 11 a0b 0 5 ∧ P 11 a0b 0 7 = Z 11 a0b 0 7 ∧ P 11 a0b 0 8 = Z 11 a0b 0 8 ∧ P 11 a0b 0 9 = Z 11 a0b 0 9 ∧ P 200 0 0 1 = Z 200 0 0 1 ∧ P 200 0 0 2 = Z 200 0 0 2) hP (fw_175 a0b (44, a1b, a1i) (i3 a2) _ _ ?_)
  replace hP : zE P (zf_175 Z a0b a1b a1ij a2) := hP
  unfold zf_175 at hP
  refine wz_i1 rfl ?_
  refine wz_i0 (i3O (n := 16) (show (12 : Int32) = i3 12 from rfl) (by omega) (by omega) (by omega)) ?_
  have r1 := zI_k hZ 44 a1b a1ij 12 (lo := -1) (hi := 6) (by decide) rfl
  refine wz_br (i3L (zm_rd (Z := Z) (ν := ν) (k := 44) (rfl : ((a1b : Nat) : Int) = a1b) ea1i (show ((12 : Nat) : Int) = 12 from rfl)) (show (0 : Int32) = i3 0 from rfl) (by omega) (by omega) (by omega) (by omega)) (fun h2 => ?_) (fun h2 => ?_)
  · replace hP := zE_p hP h2
    refine wz_i0 (Eq.trans (i3L (rfl : i3 a2 = i3 a2) (show (0 : Int32) = i3 0 from rfl) (by omega) (by omega) (by omega) (by omega)) (decide_eq_false (by omega))) ?_
    refine wz_i0 (Eq.trans (i3Le (show (6 : Int32) = i3 6 from rfl) (rfl : i3 a2 = i3 a2) (by omega) (by omega) (by omega) (by omega)) (decide_eq_false (by omega))) ?_
    refine wz_i0 (i3O (n := 6) (rfl : i3 a2 = i3 a2) (by omega) (by omega) (by omega)) ?_
    have r3 := zI_f hZ 43 a0b a2 7
    have r4 := w3_r ((Z 43 a0b a2 7) + 1)
    obtain ⟨Z5, hZ5⟩ := zx (zu Z 43 a0b a2 7 (w3 ((Z 43 a0b a2 7) + 1)))
    replace hP := zl_e hP hZ5
    have hZ5I := zI_u hZ hZ5 (lo := -2147483648) (hi := 2147483647) (by decide) rfl (by omega) ⟨by decide, by decide⟩ (Or.inl (by decide))
    have t6 : Z5 11 a0b 0 3 = Z 11 a0b 0 3 := zu_ne hZ5 (fun q => absurd q.1 (by decide))
    have t7 : Z5 11 a0b 0 4 = Z 11 a0b 0 4 := zu_ne hZ5 (fun q => absurd q.1 (by decide))
    have t8 : Z5 11 a0b 0 5 = Z 11 a0b 0 5 := zu_ne hZ5 (fun q => absurd q.1 (by decide))
    have t9 : Z5 11 a0b 0 7 = Z 11 a0b 0 7 := zu_ne hZ5 (fun q => absurd q.1 (by decide))
    have t10 : Z5 11 a0b 0 8 = Z 11 a0b 0 8 := zu_ne hZ5 (fun q => absurd q.1 (by decide))
    have t11 : Z5 11 a0b 0 9 = Z 11 a0b 0 9 := zu_ne hZ5 (fun q => absurd q.1 (by decide))
    have t12 : Z5 200 0 0 1 = Z 200 0 0 1 := zu_ne hZ5 (fun q => absurd q.1 (by decide))
    have t13 : Z5 200 0 0 2 = Z 200 0 0 2 := zu_ne hZ5 (fun q => absurd q.1 (by decide))
    have hZ5K : zK [43, 44] Z Z5 := zK_u zK_r hZ5 (by decide)
    intro μ9 e9
    replace e9 := e9.trans (zm_wI (Z := Z) (ν := ν) hZ5 (rfl : ((a0b : Nat) : Int) = a0b) (i3I (y := a2) (rfl : i3 a2 = i3 a2) (by omega) (by omega) (by omega)) (show ((7 : Nat) : Int) = 7 from rfl) (i3W (i3A (zm_rd (Z := Z) (ν := ν) (k := 43) (rfl : ((a0b : Nat) : Int) = a0b) (i3I (y := a2) (rfl : i3 a2 = i3 a2) (by omega) (by omega) (by omega)) (show ((7 : Nat) : Int) = 7 from rfl)) (show (1 : Int32) = i3 1 from rfl))))
    subst e9
    refine wz_i1 rfl ?_
    refine wz_i0 (i3O (n := 16) (show (12 : Int32) = i3 12 from rfl) (by omega) (by omega) (by omega)) ?_
    obtain ⟨Z14, hZ14⟩ := zx (zu Z5 44 a1b a1ij 12 a2)
    replace hP := zl_e hP hZ14
    have hZ14I := zI_u hZ5I hZ14 (lo := -1) (hi := 6) (by decide) rfl (by omega) ⟨by decide, by decide⟩ (Or.inl (by decide))
    have t15 : Z14 11 a0b 0 3 = Z5 11 a0b 0 3 := zu_ne hZ14 (fun q => absurd q.1 (by decide))
    have t16 : Z14 11 a0b 0 4 = Z5 11 a0b 0 4 := zu_ne hZ14 (fun q => absurd q.1 (by decide))
    have t17 : Z14 11 a0b 0 5 = Z5 11 a0b 0 5 := zu_ne hZ14 (fun q => absurd q.1 (by decide))
    have t18 : Z14 11 a0b 0 7 = Z5 11 a0b 0 7 := zu_ne hZ14 (fun q => absurd q.1 (by decide))
    have t19 : Z14 11 a0b 0 8 = Z5 11 a0b 0 8 := zu_ne hZ14 (fun q => absurd q.1 (by decide))
    have t20 : Z14 11 a0b 0 9 = Z5 11 a0b 0 9 := zu_ne hZ14 (fun q => absurd q.1 (by decide))
    have t21 : Z14 200 0 0 1 = Z5 200 0 0 1 := zu_ne hZ14 (fun q => absurd q.1 (by decide))
    have t22 : Z14 200 0 0 2 = Z5 200 0 0 2 := zu_ne hZ14 (fun q => absurd q.1 (by decide))
    have hZ14K := zK_u hZ5K hZ14 (by decide)
    intro μ9 e9
    replace e9 := e9.trans (zm_wI (Z := Z5) (ν := ν) hZ14 (rfl : ((a1b : Nat) : Int) = a1b) ea1i (show ((12 : Nat) : Int) = 12 from rfl) (rfl : i3 a2 = i3 a2))
    subst e9
    exact zlV hP ⟨hZ14I, hZ14K, by omega, by omega, by omega, by omega, by omega, by omega, by omega, by omega⟩
  · replace hP := zE_n hP h2
    refine wz_br (i3Le (show (6 : Int32) = i3 6 from rfl) (zm_rd (Z := Z) (ν := ν) (k := 44) (rfl : ((a1b : Nat) : Int) = a1b) ea1i (show ((12 : Nat) : Int) = 12 from rfl)) (by omega) (by omega) (by omega) (by omega)) (fun h23 => ?_) (fun h23 => ?_)
    · replace hP := zE_p hP h23
      refine wz_i0 (Eq.trans (i3L (rfl : i3 a2 = i3 a2) (show (0 : Int32) = i3 0 from rfl) (by omega) (by omega) (by omega) (by omega)) (decide_eq_false (by omega))) ?_
      refine wz_i0 (Eq.trans (i3Le (show (6 : Int32) = i3 6 from rfl) (rfl : i3 a2 = i3 a2) (by omega) (by omega) (by omega) (by omega)) (decide_eq_false (by omega))) ?_
      refine wz_i0 (i3O (n := 6) (rfl : i3 a2 = i3 a2) (by omega) (by omega) (by omega)) ?_
      have r24 := zI_f hZ 43 a0b a2 7
      have r25 := w3_r ((Z 43 a0b a2 7) + 1)
      obtain ⟨Z26, hZ26⟩ := zx (zu Z 43 a0b a2 7 (w3 ((Z 43 a0b a2 7) + 1)))
      replace hP := zl_e hP hZ26
      have hZ26I := zI_u hZ hZ26 (lo := -2147483648) (hi := 2147483647) (by decide) rfl (by omega) ⟨by decide, by decide⟩ (Or.inl (by decide))
      have t27 : Z26 11 a0b 0 3 = Z 11 a0b 0 3 := zu_ne hZ26 (fun q => absurd q.1 (by decide))
      have t28 : Z26 11 a0b 0 4 = Z 11 a0b 0 4 := zu_ne hZ26 (fun q => absurd q.1 (by decide))
      have t29 : Z26 11 a0b 0 5 = Z 11 a0b 0 5 := zu_ne hZ26 (fun q => absurd q.1 (by decide))
      have t30 : Z26 11 a0b 0 7 = Z 11 a0b 0 7 := zu_ne hZ26 (fun q => absurd q.1 (by decide))
      have t31 : Z26 11 a0b 0 8 = Z 11 a0b 0 8 := zu_ne hZ26 (fun q => absurd q.1 (by decide))
      have t32 : Z26 11 a0b 0 9 = Z 11 a0b 0 9 := zu_ne hZ26 (fun q => absurd q.1 (by decide))
      have t33 : Z26 200 0 0 1 = Z 200 0 0 1 := zu_ne hZ26 (fun q => absurd q.1 (by decide))
      have t34 : Z26 200 0 0 2 = Z 200 0 0 2 := zu_ne hZ26 (fun q => absurd q.1 (by decide))
      have hZ26K : zK [43, 44] Z Z26 := zK_u zK_r hZ26 (by decide)
      intro μ9 e9
      replace e9 := e9.trans (zm_wI (Z := Z) (ν := ν) hZ26 (rfl : ((a0b : Nat) : Int) = a0b) (i3I (y := a2) (rfl : i3 a2 = i3 a2) (by omega) (by omega) (by omega)) (show ((7 : Nat) : Int) = 7 from rfl) (i3W (i3A (zm_rd (Z := Z) (ν := ν) (k := 43) (rfl : ((a0b : Nat) : Int) = a0b) (i3I (y := a2) (rfl : i3 a2 = i3 a2) (by omega) (by omega) (by omega)) (show ((7 : Nat) : Int) = 7 from rfl)) (show (1 : Int32) = i3 1 from rfl))))
      subst e9
      refine wz_i1 rfl ?_
      refine wz_i0 (i3O (n := 16) (show (12 : Int32) = i3 12 from rfl) (by omega) (by omega) (by omega)) ?_
      obtain ⟨Z35, hZ35⟩ := zx (zu Z26 44 a1b a1ij 12 a2)
      replace hP := zl_e hP hZ35
      have hZ35I := zI_u hZ26I hZ35 (lo := -1) (hi := 6) (by decide) rfl (by omega) ⟨by decide, by decide⟩ (Or.inl (by decide))
      have t36 : Z35 11 a0b 0 3 = Z26 11 a0b 0 3 := zu_ne hZ35 (fun q => absurd q.1 (by decide))
      have t37 : Z35 11 a0b 0 4 = Z26 11 a0b 0 4 := zu_ne hZ35 (fun q => absurd q.1 (by decide))
      have t38 : Z35 11 a0b 0 5 = Z26 11 a0b 0 5 := zu_ne hZ35 (fun q => absurd q.1 (by decide))
      have t39 : Z35 11 a0b 0 7 = Z26 11 a0b 0 7 := zu_ne hZ35 (fun q => absurd q.1 (by decide))
      have t40 : Z35 11 a0b 0 8 = Z26 11 a0b 0 8 := zu_ne hZ35 (fun q => absurd q.1 (by decide))
      have t41 : Z35 11 a0b 0 9 = Z26 11 a0b 0 9 := zu_ne hZ35 (fun q => absurd q.1 (by decide))
      have t42 : Z35 200 0 0 1 = Z26 200 0 0 1 := zu_ne hZ35 (fun q => absurd q.1 (by decide))
      have t43 : Z35 200 0 0 2 = Z26 200 0 0 2 := zu_ne hZ35 (fun q => absurd q.1 (by decide))
      have hZ35K := zK_u hZ26K hZ35 (by decide)
      intro μ9 e9
      replace e9 := e9.trans (zm_wI (Z := Z26) (ν := ν) hZ35 (rfl : ((a1b : Nat) : Int) = a1b) ea1i (show ((12 : Nat) : Int) = 12 from rfl) (rfl : i3 a2 = i3 a2))
      subst e9
      exact zlV hP ⟨hZ35I, hZ35K, by omega, by omega, by omega, by omega, by omega, by omega, by omega, by omega⟩
    · replace hP := zE_n hP h23
      refine wz_i0 (i3O (n := 6) (zm_rd (Z := Z) (ν := ν) (k := 44) (rfl : ((a1b : Nat) : Int) = a1b) ea1i (show ((12 : Nat) : Int) = 12 from rfl)) (by omega) (by omega) (by omega)) ?_
      have r44 := zI_f hZ 43 a0b (Z 44 a1b a1ij 12) 7
      have r45 := w3_r ((Z 43 a0b (Z 44 a1b a1ij 12) 7) + 1)
      obtain ⟨Z46, hZ46⟩ := zx (zu Z 43 a0b (Z 44 a1b a1ij 12) 7 (w3 ((Z 43 a0b (Z 44 a1b a1ij 12) 7) + 1)))
      replace hP := zl_e hP hZ46
      have hZ46I := zI_u hZ hZ46 (lo := -2147483648) (hi := 2147483647) (by decide) rfl (by omega) ⟨by decide, by decide⟩ (Or.inl (by decide))
      have t47 : Z46 11 a0b 0 3 = Z 11 a0b 0 3 := zu_ne hZ46 (fun q => absurd q.1 (by decide))
      have t48 : Z46 11 a0b 0 4 = Z 11 a0b 0 4 := zu_ne hZ46 (fun q => absurd q.1 (by decide))
      have t49 : Z46 11 a0b 0 5 = Z 11 a0b 0 5 := zu_ne hZ46 (fun q => absurd q.1 (by decide))
      have t50 : Z46 11 a0b 0 7 = Z 11 a0b 0 7 := zu_ne hZ46 (fun q => absurd q.1 (by decide))
      have t51 : Z46 11 a0b 0 8 = Z 11 a0b 0 8 := zu_ne hZ46 (fun q => absurd q.1 (by decide))
      have t52 : Z46 11 a0b 0 9 = Z 11 a0b 0 9 := zu_ne hZ46 (fun q => absurd q.1 (by decide))
      have t53 : Z46 200 0 0 1 = Z 200 0 0 1 := zu_ne hZ46 (fun q => absurd q.1 (by decide))
      have t54 : Z46 200 0 0 2 = Z 200 0 0 2 := zu_ne hZ46 (fun q => absurd q.1 (by decide))
      have hZ46K : zK [43, 44] Z Z46 := zK_u zK_r hZ46 (by decide)
      intro μ9 e9
      replace e9 := e9.trans (zm_wI (Z := Z) (ν := ν) hZ46 (rfl : ((a0b : Nat) : Int) = a0b) (i3I (y := (Z 44 a1b a1ij 12)) (zm_rd (Z := Z) (ν := ν) (k := 44) (rfl : ((a1b : Nat) : Int) = a1b) ea1i (show ((12 : Nat) : Int) = 12 from rfl)) (by omega) (by omega) (by omega)) (show ((7 : Nat) : Int) = 7 from rfl) (i3W (i3A (zm_rd (Z := Z) (ν := ν) (k := 43) (rfl : ((a0b : Nat) : Int) = a0b) (i3I (y := (Z 44 a1b a1ij 12)) (zm_rd (Z := Z) (ν := ν) (k := 44) (rfl : ((a1b : Nat) : Int) = a1b) ea1i (show ((12 : Nat) : Int) = 12 from rfl)) (by omega) (by omega) (by omega)) (show ((7 : Nat) : Int) = 7 from rfl)) (show (1 : Int32) = i3 1 from rfl))))
      subst e9
      refine wz_i0 (Eq.trans (i3L (rfl : i3 a2 = i3 a2) (show (0 : Int32) = i3 0 from rfl) (by omega) (by omega) (by omega) (by omega)) (decide_eq_false (by omega))) ?_
      refine wz_i0 (Eq.trans (i3Le (show (6 : Int32) = i3 6 from rfl) (rfl : i3 a2 = i3 a2) (by omega) (by omega) (by omega) (by omega)) (decide_eq_false (by omega))) ?_
      refine wz_i0 (i3O (n := 6) (rfl : i3 a2 = i3 a2) (by omega) (by omega) (by omega)) ?_
      have r55 := zI_f hZ46I 43 a0b a2 7
      have r56 := w3_r ((Z46 43 a0b a2 7) + 1)
      obtain ⟨Z57, hZ57⟩ := zx (zu Z46 43 a0b a2 7 (w3 ((Z46 43 a0b a2 7) + 1)))
      replace hP := zl_e hP hZ57
      have hZ57I := zI_u hZ46I hZ57 (lo := -2147483648) (hi := 2147483647) (by decide) rfl (by omega) ⟨by decide, by decide⟩ (Or.inl (by decide))
      have t58 : Z57 11 a0b 0 3 = Z46 11 a0b 0 3 := zu_ne hZ57 (fun q => absurd q.1 (by decide))
      have t59 : Z57 11 a0b 0 4 = Z46 11 a0b 0 4 := zu_ne hZ57 (fun q => absurd q.1 (by decide))
      have t60 : Z57 11 a0b 0 5 = Z46 11 a0b 0 5 := zu_ne hZ57 (fun q => absurd q.1 (by decide))
      have t61 : Z57 11 a0b 0 7 = Z46 11 a0b 0 7 := zu_ne hZ57 (fun q => absurd q.1 (by decide))
      have t62 : Z57 11 a0b 0 8 = Z46 11 a0b 0 8 := zu_ne hZ57 (fun q => absurd q.1 (by decide))
      have t63 : Z57 11 a0b 0 9 = Z46 11 a0b 0 9 := zu_ne hZ57 (fun q => absurd q.1 (by decide))
      have t64 : Z57 200 0 0 1 = Z46 200 0 0 1 := zu_ne hZ57 (fun q => absurd q.1 (by decide))
      have t65 : Z57 200 0 0 2 = Z46 200 0 0 2 := zu_ne hZ57 (fun q => absurd q.1 (by decide))
      have hZ57K := zK_u hZ46K hZ57 (by decide)
      intro μ9 e9
      replace e9 := e9.trans (zm_wI (Z := Z46) (ν := ν) hZ57 (rfl : ((a0b : Nat) : Int) = a0b) (i3I (y := a2) (rfl : i3 a2 = i3 a2) (by omega) (by omega) (by omega)) (show ((7 : Nat) : Int) = 7 from rfl) (i3W (i3A (zm_rd (Z := Z46) (ν := ν) (k := 43) (rfl : ((a0b : Nat) : Int) = a0b) (i3I (y := a2) (rfl : i3 a2 = i3 a2) (by omega) (by omega) (by omega)) (show ((7 : Nat) : Int) = 7 from rfl)) (show (1 : Int32) = i3 1 from rfl))))
      subst e9
      refine wz_i1 rfl ?_
      refine wz_i0 (i3O (n := 16) (show (12 : Int32) = i3 12 from rfl) (by omega) (by omega) (by omega)) ?_
      obtain ⟨Z66, hZ66⟩ := zx (zu Z57 44 a1b a1ij 12 a2)
      replace hP := zl_e hP hZ66
      have hZ66I := zI_u hZ57I hZ66 (lo := -1) (hi := 6) (by decide) rfl (by omega) ⟨by decide, by decide⟩ (Or.inl (by decide))
      have t67 : Z66 11 a0b 0 3 = Z57 11 a0b 0 3 := zu_ne hZ66 (fun q => absurd q.1 (by decide))
      have t68 : Z66 11 a0b 0 4 = Z57 11 a0b 0 4 := zu_ne hZ66 (fun q => absurd q.1 (by decide))
      have t69 : Z66 11 a0b 0 5 = Z57 11 a0b 0 5 := zu_ne hZ66 (fun q => absurd q.1 (by decide))
      have t70 : Z66 11 a0b 0 7 = Z57 11 a0b 0 7 := zu_ne hZ66 (fun q => absurd q.1 (by decide))
      have t71 : Z66 11 a0b 0 8 = Z57 11 a0b 0 8 := zu_ne hZ66 (fun q => absurd q.1 (by decide))
      have t72 : Z66 11 a0b 0 9 = Z57 11 a0b 0 9 := zu_ne hZ66 (fun q => absurd q.1 (by decide))
      have t73 : Z66 200 0 0 1 = Z57 200 0 0 1 := zu_ne hZ66 (fun q => absurd q.1 (by decide))
      have t74 : Z66 200 0 0 2 = Z57 200 0 0 2 := zu_ne hZ66 (fun q => absurd q.1 (by decide))
      have hZ66K := zK_u hZ57K hZ66 (by decide)
      intro μ9 e9
      replace e9 := e9.trans (zm_wI (Z := Z57) (ν := ν) hZ66 (rfl : ((a1b : Nat) : Int) = a1b) ea1i (show ((12 : Nat) : Int) = 12 from rfl) (rfl : i3 a2 = i3 a2))
      subst e9
      exact zlV hP ⟨hZ66I, hZ66K, by omega, by omega, by omega, by omega, by omega, by omega, by omega, by omega⟩

/- yX10_standing -/
def zl_182_1 (x0b : Int) (x1 : Int) : Nat → qz_Z → Int → Int → Int × Int
  | 0, Z, x2, x3 => (x2, x3)
  | m + 1, Z, x2, x3 => (if (Z 11 x0b 0 3) ≤ x3 then (x2, x3) else (if (Z 44 x0b x3 12) ≠ x1 then zl_182_1 x0b x1 m Z x2 (x3 + 1) else zl_182_1 x0b x1 m Z (x2 + 1) (x3 + 1)))
theorem sl_182_1 {s : zS} {Z : qz_Z} {ν : qz_N} (hZ : zI s Z) (x0b : Nat) {x1 : Int} (gx1 : 0 ≤ x1 ∧ x1 ≤ 3) {x2 : Int} (gx2 : 0 ≤ x2 ∧ x2 ≤ 48) {x3 : Int} (gx3 : 0 ≤ x3 ∧ x3 ≤ 48) (gr0 : x2 ≤ x3) {k : wz_K} {R : wz_R} {L : qz_L} (hL : qz_fg [true, true, true, true] L = [some (.inr (.inr (some (10, x0b, 0)))), some (.inl (i3 x1)), some (.inl (i3 x2)), some (.inl (i3 x3))]) {T : Int × Int} (hP : zE T (zl_182_1 x0b x1 ((48 - x3).toNat + 1) Z x2 x3)) (hk : ∀ (L9 : qz_L) (yx2 yx3 : Int), qz_fg [false, false, true, false] L9 = [none, none, some (.inl (i3 yx2)), none] → (0 ≤ yx2 ∧ yx2 ≤ 48) → (0 ≤ yx3 ∧ yx3 ≤ 48) → (yx2 ≤ yx3) → zE T ((yx2, yx3)) → k 0 (L9, [], zm Z ν)) : wz_loop qb_182_1 65536 k R (L, [], zm Z ν) := by
  refine wz_lp sb_182_1 (fun m x => ∃ x2 : Int, ∃ x3 : Int, qz_fg [true, true, true, true] x.1 = [some (.inr (.inr (some (10, x0b, 0)))), some (.inl (i3 x1)), some (.inl (i3 x2)), some (.inl (i3 x3))] ∧ x.2 = ([], zm Z ν) ∧ m = (48 - x3).toNat ∧ (0 ≤ x2 ∧ x2 ≤ 48) ∧ (0 ≤ x3 ∧ x3 ≤ 48) ∧ (x2 ≤ x3) ∧ zE T (zl_182_1 x0b x1 (m + 1) Z x2 x3)) ?_ 65536 ((48 - x3).toNat) _ (by omega) ⟨x2, x3, hL, rfl, rfl, gx2, gx3, gr0, hP⟩
  clear hP gr0 gx2 gx3 hL
  clear x2 x3
  rintro m ⟨L, st, μ⟩ ⟨x2, x3, hL, hx, hm, gx2, gx3, gr0, hP⟩
  cases hx
  refine fb_182_1 x0b (i3 x1) (i3 x2) (i3 x3) _ _ _ _ hL ?_
  have r1 := zI_k hZ 11 x0b 0 3 (lo := 0) (hi := 48) (by decide) rfl
  refine wz_br (i3Le (zm_rd (Z := Z) (ν := ν) (k := 11) (rfl : ((x0b : Nat) : Int) = x0b) (show ((0 : Nat) : Int) = 0 from rfl) (show ((3 : Nat) : Int) = 3 from rfl)) (rfl : i3 x3 = i3 x3) (by omega) (by omega) (by omega) (by omega)) (fun h2 => ?_) (fun h2 => ?_)
  · replace hP := zE_p hP h2
    exact hk _ _ _ (zconso rfl (zconso rfl (zconso (zvo (rfl : i3 x2 = i3 x2)) (zconso rfl rfl))))  (by omega) (by omega) (by omega) hP
  · replace hP := zE_n hP h2
    refine wz_i0 (i3O (n := 48) (rfl : i3 x3 = i3 x3) (by omega) (by omega) (by omega)) ?_
    have r3 := zI_k hZ 44 x0b x3 12 (lo := -1) (hi := 6) (by decide) rfl
    refine wz_br (i3NE (zm_rd (Z := Z) (ν := ν) (k := 44) (rfl : ((x0b : Nat) : Int) = x0b) (i3I (y := x3) (rfl : i3 x3 = i3 x3) (by omega) (by omega) (by omega)) (show ((12 : Nat) : Int) = 12 from rfl)) (rfl : i3 x1 = i3 x1) (by omega) (by omega) (by omega) (by omega)) (fun h4 => ?_) (fun h4 => ?_)
    · replace hP := zE_p hP h4
      obtain ⟨m2, rfl⟩ : ∃ m2, m = m2 + 1 := ⟨m - 1, by omega⟩
      exact wz_k1 ⟨m2, by omega, x2, (x3 + 1), (zconso rfl (zconso (zvo (rfl : i3 x1 = i3 x1)) (zconso (zvo (rfl : i3 x2 = i3 x2)) (zconso (zvo (i3A (rfl : i3 x3 = i3 x3) (show (1 : Int32) = i3 1 from rfl))) rfl)))), rfl,  by omega, by omega, by omega, by omega,  hP⟩
    · replace hP := zE_n hP h4
      obtain ⟨m2, rfl⟩ : ∃ m2, m = m2 + 1 := ⟨m - 1, by omega⟩
      exact wz_k1 ⟨m2, by omega, (x2 + 1), (x3 + 1), (zconso rfl (zconso (zvo (rfl : i3 x1 = i3 x1)) (zconso (zvo (i3A (rfl : i3 x2 = i3 x2) (show (1 : Int32) = i3 1 from rfl))) (zconso (zvo (i3A (rfl : i3 x3 = i3 x3) (show (1 : Int32) = i3 1 from rfl))) rfl)))), rfl,  by omega, by omega, by omega, by omega,  hP⟩

/- yX10_standing -/
def zf_182 (Z : qz_Z) (a0b : Int) (a1 : Int) : Int := (zlet2 (zl_182_1 a0b a1 49 Z 0 0) (fun y1 y2 => y1))
theorem sp_182 {s : zS} {Z : qz_Z} {ν : qz_N} (hZ : zI s Z) (a0b : Nat) {a1 : Int} (ga1 : 0 ≤ a1 ∧ a1 ≤ 3) : ∃ P : Int, P = zf_182 Z a0b a1 ∧ (qf_182 [.inr (.inr (some (10, a0b, 0))), .inl (i3 a1)] (zm Z ν) = some (zm Z ν, .inl (some (.inl (i3 P)))) ∧ 0 ≤ P ∧ P ≤ 48) := by
  obtain ⟨P, hP⟩ := zx (zf_182 Z a0b a1)
  refine zc_R (Q := fun P => 0 ≤ P ∧ P ≤ 48) hP (fw_182 a0b (i3 a1) _ _ ?_)
  replace hP : zE P (zf_182 Z a0b a1) := hP
  unfold zf_182 at hP
  refine sl_182_1 (ν := ν) hZ a0b (x1 := a1) (by omega) (x2 := 0) (by omega) (x3 := 0) (by omega) (by omega) (zconso rfl (zconso (zvo (rfl : i3 a1 = i3 a1)) (zconso (zvo (show (0 : Int32) = i3 0 from rfl)) (zconso (zvo (show (0 : Int32) = i3 0 from rfl)) rfl)))) rfl ?_
  intro L3 y1 y2 hL3 gy1 gy2 gL3_0 q9
  replace hP := zl_e2 hP (Eq.symm q9)
  clear q9
  refine fc_182_2 (i3 y1) _ _ _ _ hL3 ?_
  exact zlR hP (rfl : i3 y1 = i3 y1) ⟨by omega, by omega⟩

