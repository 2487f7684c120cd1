/-! a season told, c (printed by season.py) -/
/- yX8_tellGoods -/
def zf_148 (Z : qz_Z) (sn hb : Int) : qz_Z := (zlet (zu Z 200 sn 0 2 (((25173 * (Z 200 sn 0 2)) + 13849) % 65536)) (fun Z2 => (zlet2 (zl_148_1 sn hb (2 + (((Z2 200 sn 0 2) / 16) % 4)) 6 Z2 0) (fun Z16 y15 => (zlet (zu Z16 200 sn 0 2 (((25173 * (Z16 200 sn 0 2)) + 13849) % 65536)) (fun Z19 => (zlet2 (zl_148_2 sn hb (2 + (((Z2 200 sn 0 2) / 16) % 4)) (2 + (((Z19 200 sn 0 2) / 16) % 5)) 7 Z19 0) (fun Z33 y32 => (zlet2 (zl_148_3 sn hb (2 + (((Z2 200 sn 0 2) / 16) % 4)) (2 + (((Z19 200 sn 0 2) / 16) % 5)) 13 Z33 0) (fun Z36 y35 => Z36))))))))))
theorem sp_148 {Z : qz_Z} {ν : qz_N} {sn : Nat} (hZ : zI (some (some (sn : Int))) Z) (hb : Nat) (tsn : ∀ Z, qz_tag (zm Z ν) (200, sn, 0) = 2) (rsn : ∀ Z, qz_rm (zm Z ν) 200 sn 0 0 = some (10, hb, 0)) (gx0 : Z 11 hb 0 0 = 0) (gx1 : Z 11 hb 0 1 = 0) (gx2 : Z 11 hb 0 3 = 0) : ∃ P : qz_Z, P = zf_148 Z sn hb ∧ (qf_148 [.inr (.inr (some (200, sn, 0)))] (zm Z ν) = some (zm P ν, .inl none) ∧ zI (some (some (sn : Int))) P ∧ zK [11, 41, 42, 44, 200] Z P ∧ P 11 hb 0 3 = Z 200 sn 0 1 ∧ P 11 hb 0 2 = Z 11 hb 0 2 ∧ P 11 hb 0 4 = Z 11 hb 0 4 ∧ P 11 hb 0 5 = Z 11 hb 0 5 ∧ P 11 hb 0 7 = Z 11 hb 0 7 ∧ P 11 hb 0 8 = Z 11 hb 0 8 ∧ P 11 hb 0 9 = Z 11 hb 0 9) := by
  obtain ⟨P, hP⟩ := zx (zf_148 Z sn hb)
  refine zc_V (Q := fun P => zI (some (some (sn : Int))) P ∧ zK [11, 41, 42, 44, 200] Z P ∧ P 11 hb 0 3 = Z 200 sn 0 1 ∧ P 11 hb 0 2 = Z 11 hb 0 2 ∧ P 11 hb 0 4 = Z 11 hb 0 4 ∧ P 11 hb 0 5 = Z 11 hb 0 5 ∧ P 11 hb 0 7 = Z 11 hb 0 7 ∧ P 11 hb 0 8 = Z 11 hb 0 8 ∧ P 11 hb 0 9 = Z 11 hb 0 9) hP (fw_148 sn _ _ ?_)
  replace hP : zE P (zf_148 Z sn hb) := hP
  unfold zf_148 at hP
  have rs := zI_xs (n := sn) hZ
  refine wz_i1 (by rw [tsn]; rfl) ?_
  refine wz_i1 (by rw [tsn]; rfl) ?_
  refine wz_i1 (by rw [tsn]; rfl) ?_
  have r1 := zI_xr (n := sn) hZ
  obtain ⟨Z2, hZ2⟩ := zx (zu Z 200 sn 0 2 (((25173 * (Z 200 sn 0 2)) + 13849) % 65536))
  replace hP := zl_e hP hZ2
  have hZ2I := zI_x hZ hZ2 (by omega)
  have t3 : Z2 11 hb 0 0 = Z 11 hb 0 0 := zu_ne hZ2 (fun q => absurd q.1 (by decide))
  have t4 : Z2 11 hb 0 1 = Z 11 hb 0 1 := zu_ne hZ2 (fun q => absurd q.1 (by decide))
  have t5 : Z2 11 hb 0 3 = Z 11 hb 0 3 := zu_ne hZ2 (fun q => absurd q.1 (by decide))
  have t6 : Z2 200 sn 0 1 = Z 200 sn 0 1 := zu_ne hZ2 (fun q => absurd q.2.2.2 (by decide))
  have t7 : Z2 11 hb 0 2 = Z 11 hb 0 2 := zu_ne hZ2 (fun q => absurd q.1 (by decide))
  have t8 : Z2 11 hb 0 4 = Z 11 hb 0 4 := zu_ne hZ2 (fun q => absurd q.1 (by decide))
  have t9 : Z2 11 hb 0 5 = Z 11 hb 0 5 := zu_ne hZ2 (fun q => absurd q.1 (by decide))
  have t10 : Z2 11 hb 0 7 = Z 11 hb 0 7 := zu_ne hZ2 (fun q => absurd q.1 (by decide))
  have t11 : Z2 11 hb 0 8 = Z 11 hb 0 8 := zu_ne hZ2 (fun q => absurd q.1 (by decide))
  have t12 : Z2 11 hb 0 9 = Z 11 hb 0 9 := zu_ne hZ2 (fun q => absurd q.1 (by decide))
  have hZ2K : zK [11, 41, 42, 44, 200] Z Z2 := zK_u zK_r hZ2 (by decide)
  intro μ9 e9
  replace e9 := e9.trans (zm_wI (Z := Z) (ν := ν) hZ2 (rfl : ((sn : Nat) : Int) = sn) (show ((0 : Nat) : Int) = 0 from rfl) (show ((2 : Nat) : Int) = 2 from rfl) (i3R (i3A (i3M (show (25173 : Int32) = i3 25173 from rfl) (zm_rd (Z := Z) (ν := ν) (k := 200) (rfl : ((sn : Nat) : Int) = sn) (show ((0 : Nat) : Int) = 0 from rfl) (show ((2 : Nat) : Int) = 2 from rfl))) (show (13849 : Int32) = i3 13849 from rfl)) (show (65536 : Int32) = i3 65536 from rfl) (by omega) (by omega) (by omega) (by omega)))
  subst e9
  refine wz_i1 (by rw [tsn]; rfl) ?_
  have r13 := zI_xr (n := sn) hZ2I
  have q14 := zu_at hZ2
  refine sl_148_1 (ν := ν) sn hZ2I zK_r hb tsn rsn (x1 := (2 + (((Z2 200 sn 0 2) / 16) % 4))) (by omega) (x2 := 0) (by omega) (kc8 := Z2 200 sn 0 1) (kc7 := Z2 11 hb 0 9) (kc6 := Z2 11 hb 0 8) (kc5 := Z2 11 hb 0 7) (kc4 := Z2 11 hb 0 5) (kc3 := Z2 11 hb 0 4) (kc2 := Z2 11 hb 0 2) (kc1 := Z2 11 hb 0 3) (kc0 := Z2 11 hb 0 1) (by omega) (by omega) (by omega) (by omega) (by omega) (by omega) (by omega) (by omega) (by omega) (by omega) (zconso rfl (zconso (zvo (i3A (show (2 : Int32) = i3 2 from rfl) (i3R (i3D (zm_rd (Z := Z2) (ν := ν) (k := 200) (rfl : ((sn : Nat) : Int) = sn) (show ((0 : Nat) : Int) = 0 from rfl) (show ((2 : Nat) : Int) = 2 from rfl)) (show (16 : Int32) = i3 16 from rfl) (by omega) (by omega) (by omega) (by omega)) (show (4 : Int32) = i3 4 from rfl) (by omega) (by omega) (by omega) (by omega)))) (zconso (zvo (show (0 : Int32) = i3 0 from rfl)) (zconso rfl (zconso rfl (zconso rfl (zconso rfl (zconso rfl (zconso rfl (zconso rfl rfl)))))))))) rfl ?_
  intro L17 Z16 y15 hL17 hZ16I kZ16 gy15 gL17_0 gL17_1 gL17_2 gL17_3 gL17_4 gL17_5 gL17_6 gL17_7 gL17_8 gL17_9 q9
  replace hP := zl_e2 hP (Eq.symm q9)
  clear q9
  have hZ16K : zK [11, 41, 42, 44, 200] Z Z16 := zK_t hZ2K kZ16 (by decide)
  refine fc_148_6 _ (i3 (2 + (((Z2 200 sn 0 2) / 16) % 4))) _ _ _ _ hL17 ?_
  refine wz_i1 (by rw [tsn]; rfl) ?_
  refine wz_i1 (by rw [tsn]; rfl) ?_
  refine wz_i1 (by rw [tsn]; rfl) ?_
  have r18 := zI_xr (n := sn) hZ16I
  obtain ⟨Z19, hZ19⟩ := zx (zu Z16 200 sn 0 2 (((25173 * (Z16 200 sn 0 2)) + 13849) % 65536))
  replace hP := zl_e hP hZ19
  have hZ19I := zI_x hZ16I hZ19 (by omega)
  have t20 : Z19 11 hb 0 0 = Z16 11 hb 0 0 := zu_ne hZ19 (fun q => absurd q.1 (by decide))
  have t21 : Z19 11 hb 0 1 = Z16 11 hb 0 1 := zu_ne hZ19 (fun q => absurd q.1 (by decide))
  have t22 : Z19 11 hb 0 3 = Z16 11 hb 0 3 := zu_ne hZ19 (fun q => absurd q.1 (by decide))
  have t23 : Z19 200 sn 0 1 = Z16 200 sn 0 1 := zu_ne hZ19 (fun q => absurd q.2.2.2 (by decide))
  have t24 : Z19 11 hb 0 2 = Z16 11 hb 0 2 := zu_ne hZ19 (fun q => absurd q.1 (by decide))
  have t25 : Z19 11 hb 0 4 = Z16 11 hb 0 4 := zu_ne hZ19 (fun q => absurd q.1 (by decide))
  have t26 : Z19 11 hb 0 5 = Z16 11 hb 0 5 := zu_ne hZ19 (fun q => absurd q.1 (by decide))
  have t27 : Z19 11 hb 0 7 = Z16 11 hb 0 7 := zu_ne hZ19 (fun q => absurd q.1 (by decide))
  have t28 : Z19 11 hb 0 8 = Z16 11 hb 0 8 := zu_ne hZ19 (fun q => absurd q.1 (by decide))
  have t29 : Z19 11 hb 0 9 = Z16 11 hb 0 9 := zu_ne hZ19 (fun q => absurd q.1 (by decide))
  have hZ19K := zK_u hZ16K hZ19 (by decide)
  intro μ9 e9
  replace e9 := e9.trans (zm_wI (Z := Z16) (ν := ν) hZ19 (rfl : ((sn : Nat) : Int) = sn) (show ((0 : Nat) : Int) = 0 from rfl) (show ((2 : Nat) : Int) = 2 from rfl) (i3R (i3A (i3M (show (25173 : Int32) = i3 25173 from rfl) (zm_rd (Z := Z16) (ν := ν) (k := 200) (rfl : ((sn : Nat) : Int) = sn) (show ((0 : Nat) : Int) = 0 from rfl) (show ((2 : Nat) : Int) = 2 from rfl))) (show (13849 : Int32) = i3 13849 from rfl)) (show (65536 : Int32) = i3 65536 from rfl) (by omega) (by omega) (by omega) (by omega)))
  subst e9
  refine wz_i1 (by rw [tsn]; rfl) ?_
  have r30 := zI_xr (n := sn) hZ19I
  have q31 := zu_at hZ19
  refine sl_148_2 (ν := ν) sn hZ19I zK_r hb tsn rsn (x1 := (2 + (((Z2 200 sn 0 2) / 16) % 4))) (by omega) (x2 := (2 + (((Z19 200 sn 0 2) / 16) % 5))) (by omega) (x3 := 0) (by omega) (kc8 := Z19 200 sn 0 1) (kc7 := Z19 11 hb 0 9) (kc6 := Z19 11 hb 0 8) (kc5 := Z19 11 hb 0 7) (kc4 := Z19 11 hb 0 5) (kc3 := Z19 11 hb 0 4) (kc2 := Z19 11 hb 0 2) (kc1 := Z19 11 hb 0 3) (kc0 := Z19 11 hb 0 0) (by omega) (by omega) (by omega) (by omega) (by omega) (by omega) (by omega) (by omega) (by omega) (by omega) (zconso rfl (zconso (zvo (rfl : i3 (2 + (((Z2 200 sn 0 2) / 16) % 4)) = i3 (2 + (((Z2 200 sn 0 2) / 16) % 4)))) (zconso (zvo (i3A (show (2 : Int32) = i3 2 from rfl) (i3R (i3D (zm_rd (Z := Z19) (ν := ν) (k := 200) (rfl : ((sn : Nat) : Int) = sn) (show ((0 : Nat) : Int) = 0 from rfl) (show ((2 : Nat) : Int) = 2 from rfl)) (show (16 : Int32) = i3 16 from rfl) (by omega) (by omega) (by omega) (by omega)) (show (5 : Int32) = i3 5 from rfl) (by omega) (by omega) (by omega) (by omega)))) (zconso (zvo (show (0 : Int32) = i3 0 from rfl)) (zconso rfl (zconso rfl (zconso rfl (zconso rfl (zconso rfl (zconso rfl rfl)))))))))) rfl ?_
  intro L34 Z33 y32 hL34 hZ33I kZ33 gy32 gL34_0 gL34_1 gL34_2 gL34_3 gL34_4 gL34_5 gL34_6 gL34_7 gL34_8 gL34_9 q9
  replace hP := zl_e2 hP (Eq.symm q9)
  clear q9
  have hZ33K : zK [11, 41, 42, 44, 200] Z Z33 := zK_t hZ19K kZ33 (by decide)
  refine fc_148_5 _ (i3 (2 + (((Z2 200 sn 0 2) / 16) % 4))) (i3 (2 + (((Z19 200 sn 0 2) / 16) % 5))) _ _ _ _ hL34 ?_
  refine sl_148_3 (ν := ν) sn hZ33I zK_r hb tsn rsn (x1 := (2 + (((Z2 200 sn 0 2) / 16) % 4))) (by omega) (x2 := (2 + (((Z19 200 sn 0 2) / 16) % 5))) (by omega) (x3 := 0) (by omega) (kc8 := Z33 200 sn 0 1) (kc7 := Z33 11 hb 0 9) (kc6 := Z33 11 hb 0 8) (kc5 := Z33 11 hb 0 7) (kc4 := Z33 11 hb 0 5) (kc3 := Z33 11 hb 0 4) (kc2 := Z33 11 hb 0 2) (kc1 := Z33 11 hb 0 1) (kc0 := Z33 11 hb 0 0) (by omega) (by omega) (by omega) (by omega) (by omega) (by omega) (by omega) (by omega) (by omega) (by omega) (by omega) (zconso rfl (zconso (zvo (rfl : i3 (2 + (((Z2 200 sn 0 2) / 16) % 4)) = i3 (2 + (((Z2 200 sn 0 2) / 16) % 4)))) (zconso (zvo (rfl : i3 (2 + (((Z19 200 sn 0 2) / 16) % 5)) = i3 (2 + (((Z19 200 sn 0 2) / 16) % 5)))) (zconso (zvo (show (0 : Int32) = i3 0 from rfl)) (zconso rfl (zconso rfl (zconso rfl (zconso rfl (zconso rfl (zconso rfl rfl)))))))))) rfl ?_
  intro L37 Z36 y35 hL37 hZ36I kZ36 gy35 gL37_0 gL37_1 gL37_2 gL37_3 gL37_4 gL37_5 gL37_6 gL37_7 gL37_8 gL37_9 gL37_10 gL37_11 q9
  replace hP := zl_e2 hP (Eq.symm q9)
  clear q9
  have hZ36K : zK [11, 41, 42, 44, 200] Z Z36 := zK_t hZ33K kZ36 (by decide)
  refine fc_148_4  _ _ _ _ hL37 ?_
  exact zlV hP ⟨hZ36I, hZ36K, by omega, by omega, by omega, by omega, by omega, by omega, by omega⟩

/- yX10_move -/
def zf_175 (Z : qz_Z) (a0b : Int) (a1b a1ij : Int) (a2 : Int) : qz_Z := (if (Z 44 a1b a1ij 12) < 0 then (zlet (zu Z 43 a0b a2 7 (w3 ((Z 43 a0b a2 7) + 1))) (fun Z5 => (zlet (zu Z5 44 a1b a1ij 12 a2) (fun Z12 => Z12)))) else (if 6 ≤ (Z 44 a1b a1ij 12) then (zlet (zu Z 43 a0b a2 7 (w3 ((Z 43 a0b a2 7) + 1))) (fun Z22 => (zlet (zu Z22 44 a1b a1ij 12 a2) (fun Z29 => Z29)))) else (zlet (zu Z 43 a0b (Z 44 a1b a1ij 12) 7 (w3 ((Z 43 a0b (Z 44 a1b a1ij 12) 7) + 1))) (fun Z38 => (zlet (zu Z38 43 a0b a2 7 (w3 ((Z38 43 a0b a2 7) + 1))) (fun Z47 => (zlet (zu Z47 44 a1b a1ij 12 a2) (fun Z54 => Z54))))))))
theorem sp_175 {s : zS} {Z : qz_Z} {ν : qz_N} (hZ : zI s Z) (a0b : Nat) (a1b : Nat) (a1i : Nat) {a1ij : Int} (ea1i : (a1i : Int) = a1ij) {a2 : Int} (ga2 : 0 ≤ a2 ∧ a2 ≤ 3) : ∃ P : qz_Z, P = zf_175 Z a0b a1b a1ij a2 ∧ (qf_175 [.inr (.inr (some (10, a0b, 0))), .inr (.inr (some (44, a1b, a1i))), .inl (i3 a2)] (zm Z ν) = some (zm P ν, .inl none) ∧ zI s P ∧ zK [43, 44] Z P ∧ P 11 a0b 0 3 = Z 11 a0b 0 3 ∧ P 11 a0b 0 4 = Z 11 a0b 0 4 ∧ P 11 a0b 0 5 = Z 11 a0b 0 5 ∧ P 11 a0b 0 7 = Z 11 a0b 0 7 ∧ P 11 a0b 0 8 = Z 11 a0b 0 8 ∧ P 11 a0b 0 9 = Z 11 a0b 0 9) := by
  obtain ⟨P, hP⟩ := zx (zf_175 Z a0b a1b a1ij a2)
  refine zc_V (Q := fun P => zI s P ∧ zK [43, 44] Z P ∧ P 11 a0b 0 3 = Z 11 a0b 0 3 ∧ P 11 a0b 0 4 = Z 11 a0b 0 4 ∧ P 11 a0b 0 5 = Z 11 a0b 0 5 ∧ P 11 a0b 0 7 = Z 11 a0b 0 7 ∧ P 11 a0b 0 8 = Z 11 a0b 0 8 ∧ P 11 a0b 0 9 = Z 11 a0b 0 9) hP (fw_175 a0b (44, a1b, a1i) (i3 a2) _ _ ?_)
  replace hP : zE P (zf_175 Z a0b a1b a1ij a2) := hP
  unfold zf_175 at hP
  refine wz_i1 rfl ?_
  refine wz_i0 (i3O (n := 16) (show (12 : Int32) = i3 12 from rfl) (by omega) (by omega) (by omega)) ?_
  have r1 := zI_k hZ 44 a1b a1ij 12 (lo := -1) (hi := 6) (by decide) rfl
  refine wz_br (i3L (zm_rd (Z := Z) (ν := ν) (k := 44) (rfl : ((a1b : Nat) : Int) = a1b) ea1i (show ((12 : Nat) : Int) = 12 from rfl)) (show (0 : Int32) = i3 0 from rfl) (by omega) (by omega) (by omega) (by omega)) (fun h2 => ?_) (fun h2 => ?_)
  · replace hP := zE_p hP h2
    refine wz_i0 (Eq.trans (i3L (rfl : i3 a2 = i3 a2) (show (0 : Int32) = i3 0 from rfl) (by omega) (by omega) (by omega) (by omega)) (decide_eq_false (by omega))) ?_
    refine wz_i0 (Eq.trans (i3Le (show (6 : Int32) = i3 6 from rfl) (rfl : i3 a2 = i3 a2) (by omega) (by omega) (by omega) (by omega)) (decide_eq_false (by omega))) ?_
    refine wz_i0 (i3O (n := 6) (rfl : i3 a2 = i3 a2) (by omega) (by omega) (by omega)) ?_
    have r3 := zI_f hZ 43 a0b a2 7
    have r4 := w3_r ((Z 43 a0b a2 7) + 1)
    obtain ⟨Z5, hZ5⟩ := zx (zu Z 43 a0b a2 7 (w3 ((Z 43 a0b a2 7) + 1)))
    replace hP := zl_e hP hZ5
    have hZ5I := zI_u hZ hZ5 (lo := -2147483648) (hi := 2147483647) (by decide) rfl (by omega) ⟨by decide, by decide⟩ (Or.inl (by decide))
    have t6 : Z5 11 a0b 0 3 = Z 11 a0b 0 3 := zu_ne hZ5 (fun q => absurd q.1 (by decide))
    have t7 : Z5 11 a0b 0 4 = Z 11 a0b 0 4 := zu_ne hZ5 (fun q => absurd q.1 (by decide))
    have t8 : Z5 11 a0b 0 5 = Z 11 a0b 0 5 := zu_ne hZ5 (fun q => absurd q.1 (by decide))
    have t9 : Z5 11 a0b 0 7 = Z 11 a0b 0 7 := zu_ne hZ5 (fun q => absurd q.1 (by decide))
    have t10 : Z5 11 a0b 0 8 = Z 11 a0b 0 8 := zu_ne hZ5 (fun q => absurd q.1 (by decide))
    have t11 : Z5 11 a0b 0 9 = Z 11 a0b 0 9 := zu_ne hZ5 (fun q => absurd q.1 (by decide))
    have hZ5K : zK [43, 44] Z Z5 := zK_u zK_r hZ5 (by decide)
    intro μ9 e9
    replace e9 := e9.trans (zm_wI (Z := Z) (ν := ν) hZ5 (rfl : ((a0b : Nat) : Int) = a0b) (i3I (y := a2) (rfl : i3 a2 = i3 a2) (by omega) (by omega) (by omega)) (show ((7 : Nat) : Int) = 7 from rfl) (i3W (i3A (zm_rd (Z := Z) (ν := ν) (k := 43) (rfl : ((a0b : Nat) : Int) = a0b) (i3I (y := a2) (rfl : i3 a2 = i3 a2) (by omega) (by omega) (by omega)) (show ((7 : Nat) : Int) = 7 from rfl)) (show (1 : Int32) = i3 1 from rfl))))
    subst e9
    refine wz_i1 rfl ?_
    refine wz_i0 (i3O (n := 16) (show (12 : Int32) = i3 12 from rfl) (by omega) (by omega) (by omega)) ?_
    obtain ⟨Z12, hZ12⟩ := zx (zu Z5 44 a1b a1ij 12 a2)
    replace hP := zl_e hP hZ12
    have hZ12I := zI_u hZ5I hZ12 (lo := -1) (hi := 6) (by decide) rfl (by omega) ⟨by decide, by decide⟩ (Or.inl (by decide))
    have t13 : Z12 11 a0b 0 3 = Z5 11 a0b 0 3 := zu_ne hZ12 (fun q => absurd q.1 (by decide))
    have t14 : Z12 11 a0b 0 4 = Z5 11 a0b 0 4 := zu_ne hZ12 (fun q => absurd q.1 (by decide))
    have t15 : Z12 11 a0b 0 5 = Z5 11 a0b 0 5 := zu_ne hZ12 (fun q => absurd q.1 (by decide))
    have t16 : Z12 11 a0b 0 7 = Z5 11 a0b 0 7 := zu_ne hZ12 (fun q => absurd q.1 (by decide))
    have t17 : Z12 11 a0b 0 8 = Z5 11 a0b 0 8 := zu_ne hZ12 (fun q => absurd q.1 (by decide))
    have t18 : Z12 11 a0b 0 9 = Z5 11 a0b 0 9 := zu_ne hZ12 (fun q => absurd q.1 (by decide))
    have hZ12K := zK_u hZ5K hZ12 (by decide)
    intro μ9 e9
    replace e9 := e9.trans (zm_wI (Z := Z5) (ν := ν) hZ12 (rfl : ((a1b : Nat) : Int) = a1b) ea1i (show ((12 : Nat) : Int) = 12 from rfl) (rfl : i3 a2 = i3 a2))
    subst e9
    exact zlV hP ⟨hZ12I, hZ12K, by omega, by omega, by omega, by omega, by omega, by omega⟩
  · replace hP := zE_n hP h2
    refine wz_br (i3Le (show (6 : Int32) = i3 6 from rfl) (zm_rd (Z := Z) (ν := ν) (k := 44) (rfl : ((a1b : Nat) : Int) = a1b) ea1i (show ((12 : Nat) : Int) = 12 from rfl)) (by omega) (by omega) (by omega) (by omega)) (fun h19 => ?_) (fun h19 => ?_)
    · replace hP := zE_p hP h19
      refine wz_i0 (Eq.trans (i3L (rfl : i3 a2 = i3 a2) (show (0 : Int32) = i3 0 from rfl) (by omega) (by omega) (by omega) (by omega)) (decide_eq_false (by omega))) ?_
      refine wz_i0 (Eq.trans (i3Le (show (6 : Int32) = i3 6 from rfl) (rfl : i3 a2 = i3 a2) (by omega) (by omega) (by omega) (by omega)) (decide_eq_false (by omega))) ?_
      refine wz_i0 (i3O (n := 6) (rfl : i3 a2 = i3 a2) (by omega) (by omega) (by omega)) ?_
      have r20 := zI_f hZ 43 a0b a2 7
      have r21 := w3_r ((Z 43 a0b a2 7) + 1)
      obtain ⟨Z22, hZ22⟩ := zx (zu Z 43 a0b a2 7 (w3 ((Z 43 a0b a2 7) + 1)))
      replace hP := zl_e hP hZ22
      have hZ22I := zI_u hZ hZ22 (lo := -2147483648) (hi := 2147483647) (by decide) rfl (by omega) ⟨by decide, by decide⟩ (Or.inl (by decide))
      have t23 : Z22 11 a0b 0 3 = Z 11 a0b 0 3 := zu_ne hZ22 (fun q => absurd q.1 (by decide))
      have t24 : Z22 11 a0b 0 4 = Z 11 a0b 0 4 := zu_ne hZ22 (fun q => absurd q.1 (by decide))
      have t25 : Z22 11 a0b 0 5 = Z 11 a0b 0 5 := zu_ne hZ22 (fun q => absurd q.1 (by decide))
      have t26 : Z22 11 a0b 0 7 = Z 11 a0b 0 7 := zu_ne hZ22 (fun q => absurd q.1 (by decide))
      have t27 : Z22 11 a0b 0 8 = Z 11 a0b 0 8 := zu_ne hZ22 (fun q => absurd q.1 (by decide))
      have t28 : Z22 11 a0b 0 9 = Z 11 a0b 0 9 := zu_ne hZ22 (fun q => absurd q.1 (by decide))
      have hZ22K : zK [43, 44] Z Z22 := zK_u zK_r hZ22 (by decide)
      intro μ9 e9
      replace e9 := e9.trans (zm_wI (Z := Z) (ν := ν) hZ22 (rfl : ((a0b : Nat) : Int) = a0b) (i3I (y := a2) (rfl : i3 a2 = i3 a2) (by omega) (by omega) (by omega)) (show ((7 : Nat) : Int) = 7 from rfl) (i3W (i3A (zm_rd (Z := Z) (ν := ν) (k := 43) (rfl : ((a0b : Nat) : Int) = a0b) (i3I (y := a2) (rfl : i3 a2 = i3 a2) (by omega) (by omega) (by omega)) (show ((7 : Nat) : Int) = 7 from rfl)) (show (1 : Int32) = i3 1 from rfl))))
      subst e9
      refine wz_i1 rfl ?_
      refine wz_i0 (i3O (n := 16) (show (12 : Int32) = i3 12 from rfl) (by omega) (by omega) (by omega)) ?_
      obtain ⟨Z29, hZ29⟩ := zx (zu Z22 44 a1b a1ij 12 a2)
      replace hP := zl_e hP hZ29
      have hZ29I := zI_u hZ22I hZ29 (lo := -1) (hi := 6) (by decide) rfl (by omega) ⟨by decide, by decide⟩ (Or.inl (by decide))
      have t30 : Z29 11 a0b 0 3 = Z22 11 a0b 0 3 := zu_ne hZ29 (fun q => absurd q.1 (by decide))
      have t31 : Z29 11 a0b 0 4 = Z22 11 a0b 0 4 := zu_ne hZ29 (fun q => absurd q.1 (by decide))
      have t32 : Z29 11 a0b 0 5 = Z22 11 a0b 0 5 := zu_ne hZ29 (fun q => absurd q.1 (by decide))
      have t33 : Z29 11 a0b 0 7 = Z22 11 a0b 0 7 := zu_ne hZ29 (fun q => absurd q.1 (by decide))
      have t34 : Z29 11 a0b 0 8 = Z22 11 a0b 0 8 := zu_ne hZ29 (fun q => absurd q.1 (by decide))
      have t35 : Z29 11 a0b 0 9 = Z22 11 a0b 0 9 := zu_ne hZ29 (fun q => absurd q.1 (by decide))
      have hZ29K := zK_u hZ22K hZ29 (by decide)
      intro μ9 e9
      replace e9 := e9.trans (zm_wI (Z := Z22) (ν := ν) hZ29 (rfl : ((a1b : Nat) : Int) = a1b) ea1i (show ((12 : Nat) : Int) = 12 from rfl) (rfl : i3 a2 = i3 a2))
      subst e9
      exact zlV hP ⟨hZ29I, hZ29K, by omega, by omega, by omega, by omega, by omega, by omega⟩
    · replace hP := zE_n hP h19
      refine wz_i0 (i3O (n := 6) (zm_rd (Z := Z) (ν := ν) (k := 44) (rfl : ((a1b : Nat) : Int) = a1b) ea1i (show ((12 : Nat) : Int) = 12 from rfl)) (by omega) (by omega) (by omega)) ?_
      have r36 := zI_f hZ 43 a0b (Z 44 a1b a1ij 12) 7
      have r37 := w3_r ((Z 43 a0b (Z 44 a1b a1ij 12) 7) + 1)
      obtain ⟨Z38, hZ38⟩ := zx (zu Z 43 a0b (Z 44 a1b a1ij 12) 7 (w3 ((Z 43 a0b (Z 44 a1b a1ij 12) 7) + 1)))
      replace hP := zl_e hP hZ38
      have hZ38I := zI_u hZ hZ38 (lo := -2147483648) (hi := 2147483647) (by decide) rfl (by omega) ⟨by decide, by decide⟩ (Or.inl (by decide))
      have t39 : Z38 11 a0b 0 3 = Z 11 a0b 0 3 := zu_ne hZ38 (fun q => absurd q.1 (by decide))
      have t40 : Z38 11 a0b 0 4 = Z 11 a0b 0 4 := zu_ne hZ38 (fun q => absurd q.1 (by decide))
      have t41 : Z38 11 a0b 0 5 = Z 11 a0b 0 5 := zu_ne hZ38 (fun q => absurd q.1 (by decide))
      have t42 : Z38 11 a0b 0 7 = Z 11 a0b 0 7 := zu_ne hZ38 (fun q => absurd q.1 (by decide))
      have t43 : Z38 11 a0b 0 8 = Z 11 a0b 0 8 := zu_ne hZ38 (fun q => absurd q.1 (by decide))
      have t44 : Z38 11 a0b 0 9 = Z 11 a0b 0 9 := zu_ne hZ38 (fun q => absurd q.1 (by decide))
      have hZ38K : zK [43, 44] Z Z38 := zK_u zK_r hZ38 (by decide)
      intro μ9 e9
      replace e9 := e9.trans (zm_wI (Z := Z) (ν := ν) hZ38 (rfl : ((a0b : Nat) : Int) = a0b) (i3I (y := (Z 44 a1b a1ij 12)) (zm_rd (Z := Z) (ν := ν) (k := 44) (rfl : ((a1b : Nat) : Int) = a1b) ea1i (show ((12 : Nat) : Int) = 12 from rfl)) (by omega) (by omega) (by omega)) (show ((7 : Nat) : Int) = 7 from rfl) (i3W (i3A (zm_rd (Z := Z) (ν := ν) (k := 43) (rfl : ((a0b : Nat) : Int) = a0b) (i3I (y := (Z 44 a1b a1ij 12)) (zm_rd (Z := Z) (ν := ν) (k := 44) (rfl : ((a1b : Nat) : Int) = a1b) ea1i (show ((12 : Nat) : Int) = 12 from rfl)) (by omega) (by omega) (by omega)) (show ((7 : Nat) : Int) = 7 from rfl)) (show (1 : Int32) = i3 1 from rfl))))
      subst e9
      refine wz_i0 (Eq.trans (i3L (rfl : i3 a2 = i3 a2) (show (0 : Int32) = i3 0 from rfl) (by omega) (by omega) (by omega) (by omega)) (decide_eq_false (by omega))) ?_
      refine wz_i0 (Eq.trans (i3Le (show (6 : Int32) = i3 6 from rfl) (rfl : i3 a2 = i3 a2) (by omega) (by omega) (by omega) (by omega)) (decide_eq_false (by omega))) ?_
      refine wz_i0 (i3O (n := 6) (rfl : i3 a2 = i3 a2) (by omega) (by omega) (by omega)) ?_
      have r45 := zI_f hZ38I 43 a0b a2 7
      have r46 := w3_r ((Z38 43 a0b a2 7) + 1)
      obtain ⟨Z47, hZ47⟩ := zx (zu Z38 43 a0b a2 7 (w3 ((Z38 43 a0b a2 7) + 1)))
      replace hP := zl_e hP hZ47
      have hZ47I := zI_u hZ38I hZ47 (lo := -2147483648) (hi := 2147483647) (by decide) rfl (by omega) ⟨by decide, by decide⟩ (Or.inl (by decide))
      have t48 : Z47 11 a0b 0 3 = Z38 11 a0b 0 3 := zu_ne hZ47 (fun q => absurd q.1 (by decide))
      have t49 : Z47 11 a0b 0 4 = Z38 11 a0b 0 4 := zu_ne hZ47 (fun q => absurd q.1 (by decide))
      have t50 : Z47 11 a0b 0 5 = Z38 11 a0b 0 5 := zu_ne hZ47 (fun q => absurd q.1 (by decide))
      have t51 : Z47 11 a0b 0 7 = Z38 11 a0b 0 7 := zu_ne hZ47 (fun q => absurd q.1 (by decide))
      have t52 : Z47 11 a0b 0 8 = Z38 11 a0b 0 8 := zu_ne hZ47 (fun q => absurd q.1 (by decide))
      have t53 : Z47 11 a0b 0 9 = Z38 11 a0b 0 9 := zu_ne hZ47 (fun q => absurd q.1 (by decide))
      have hZ47K := zK_u hZ38K hZ47 (by decide)
      intro μ9 e9
      replace e9 := e9.trans (zm_wI (Z := Z38) (ν := ν) hZ47 (rfl : ((a0b : Nat) : Int) = a0b) (i3I (y := a2) (rfl : i3 a2 = i3 a2) (by omega) (by omega) (by omega)) (show ((7 : Nat) : Int) = 7 from rfl) (i3W (i3A (zm_rd (Z := Z38) (ν := ν) (k := 43) (rfl : ((a0b : Nat) : Int) = a0b) (i3I (y := a2) (rfl : i3 a2 = i3 a2) (by omega) (by omega) (by omega)) (show ((7 : Nat) : Int) = 7 from rfl)) (show (1 : Int32) = i3 1 from rfl))))
      subst e9
      refine wz_i1 rfl ?_
      refine wz_i0 (i3O (n := 16) (show (12 : Int32) = i3 12 from rfl) (by omega) (by omega) (by omega)) ?_
      obtain ⟨Z54, hZ54⟩ := zx (zu Z47 44 a1b a1ij 12 a2)
      replace hP := zl_e hP hZ54
      have hZ54I := zI_u hZ47I hZ54 (lo := -1) (hi := 6) (by decide) rfl (by omega) ⟨by decide, by decide⟩ (Or.inl (by decide))
      have t55 : Z54 11 a0b 0 3 = Z47 11 a0b 0 3 := zu_ne hZ54 (fun q => absurd q.1 (by decide))
      have t56 : Z54 11 a0b 0 4 = Z47 11 a0b 0 4 := zu_ne hZ54 (fun q => absurd q.1 (by decide))
      have t57 : Z54 11 a0b 0 5 = Z47 11 a0b 0 5 := zu_ne hZ54 (fun q => absurd q.1 (by decide))
      have t58 : Z54 11 a0b 0 7 = Z47 11 a0b 0 7 := zu_ne hZ54 (fun q => absurd q.1 (by decide))
      have t59 : Z54 11 a0b 0 8 = Z47 11 a0b 0 8 := zu_ne hZ54 (fun q => absurd q.1 (by decide))
      have t60 : Z54 11 a0b 0 9 = Z47 11 a0b 0 9 := zu_ne hZ54 (fun q => absurd q.1 (by decide))
      have hZ54K := zK_u hZ47K hZ54 (by decide)
      intro μ9 e9
      replace e9 := e9.trans (zm_wI (Z := Z47) (ν := ν) hZ54 (rfl : ((a1b : Nat) : Int) = a1b) ea1i (show ((12 : Nat) : Int) = 12 from rfl) (rfl : i3 a2 = i3 a2))
      subst e9
      exact zlV hP ⟨hZ54I, hZ54K, by omega, by omega, by omega, by omega, by omega, by omega⟩

/- yX10_standing -/
def zl_182_1 (x0b : Int) (x1 : Int) : Nat → qz_Z → Int → Int → Int × Int
  | 0, Z, x2, x3 => (x2, x3)
  | m + 1, Z, x2, x3 => (if (Z 11 x0b 0 3) ≤ x3 then (x2, x3) else (if (Z 44 x0b x3 12) ≠ x1 then zl_182_1 x0b x1 m Z x2 (x3 + 1) else zl_182_1 x0b x1 m Z (x2 + 1) (x3 + 1)))
theorem sl_182_1 {s : zS} {Z : qz_Z} {ν : qz_N} (hZ : zI s Z) (x0b : Nat) {x1 : Int} (gx1 : 0 ≤ x1 ∧ x1 ≤ 3) {x2 : Int} (gx2 : 0 ≤ x2 ∧ x2 ≤ 48) {x3 : Int} (gx3 : 0 ≤ x3 ∧ x3 ≤ 48) (gr0 : x2 ≤ x3) {k : wz_K} {R : wz_R} {L : qz_L} (hL : qz_fg [true, true, true, true] L = [some (.inr (.inr (some (10, x0b, 0)))), some (.inl (i3 x1)), some (.inl (i3 x2)), some (.inl (i3 x3))]) {T : Int × Int} (hP : zE T (zl_182_1 x0b x1 ((48 - x3).toNat + 1) Z x2 x3)) (hk : ∀ (L9 : qz_L) (yx2 yx3 : Int), qz_fg [false, false, true, false] L9 = [none, none, some (.inl (i3 yx2)), none] → (0 ≤ yx2 ∧ yx2 ≤ 48) → (0 ≤ yx3 ∧ yx3 ≤ 48) → (yx2 ≤ yx3) → zE T ((yx2, yx3)) → k 0 (L9, [], zm Z ν)) : wz_loop qb_182_1 65536 k R (L, [], zm Z ν) := by
  refine wz_lp sb_182_1 (fun m x => ∃ x2 : Int, ∃ x3 : Int, qz_fg [true, true, true, true] x.1 = [some (.inr (.inr (some (10, x0b, 0)))), some (.inl (i3 x1)), some (.inl (i3 x2)), some (.inl (i3 x3))] ∧ x.2 = ([], zm Z ν) ∧ m = (48 - x3).toNat ∧ (0 ≤ x2 ∧ x2 ≤ 48) ∧ (0 ≤ x3 ∧ x3 ≤ 48) ∧ (x2 ≤ x3) ∧ zE T (zl_182_1 x0b x1 (m + 1) Z x2 x3)) ?_ 65536 ((48 - x3).toNat) _ (by omega) ⟨x2, x3, hL, rfl, rfl, gx2, gx3, gr0, hP⟩
  clear hP gr0 gx2 gx3 hL
  clear x2 x3
  rintro m ⟨L, st, μ⟩ ⟨x2, x3, hL, hx, hm, gx2, gx3, gr0, hP⟩
  cases hx
  refine fb_182_1 x0b (i3 x1) (i3 x2) (i3 x3) _ _ _ _ hL ?_
  have r1 := zI_k hZ 11 x0b 0 3 (lo := 0) (hi := 48) (by decide) rfl
  refine wz_br (i3Le (zm_rd (Z := Z) (ν := ν) (k := 11) (rfl : ((x0b : Nat) : Int) = x0b) (show ((0 : Nat) : Int) = 0 from rfl) (show ((3 : Nat) : Int) = 3 from rfl)) (rfl : i3 x3 = i3 x3) (by omega) (by omega) (by omega) (by omega)) (fun h2 => ?_) (fun h2 => ?_)
  · replace hP := zE_p hP h2
    exact hk _ _ _ (zconso rfl (zconso rfl (zconso (zvo (rfl : i3 x2 = i3 x2)) (zconso rfl rfl))))  (by omega) (by omega) (by omega) hP
  · replace hP := zE_n hP h2
    refine wz_i0 (i3O (n := 48) (rfl : i3 x3 = i3 x3) (by omega) (by omega) (by omega)) ?_
    have r3 := zI_k hZ 44 x0b x3 12 (lo := -1) (hi := 6) (by decide) rfl
    refine wz_br (i3NE (zm_rd (Z := Z) (ν := ν) (k := 44) (rfl : ((x0b : Nat) : Int) = x0b) (i3I (y := x3) (rfl : i3 x3 = i3 x3) (by omega) (by omega) (by omega)) (show ((12 : Nat) : Int) = 12 from rfl)) (rfl : i3 x1 = i3 x1) (by omega) (by omega) (by omega) (by omega)) (fun h4 => ?_) (fun h4 => ?_)
    · replace hP := zE_p hP h4
      obtain ⟨m2, rfl⟩ : ∃ m2, m = m2 + 1 := ⟨m - 1, by omega⟩
      exact wz_k1 ⟨m2, by omega, x2, (x3 + 1), (zconso rfl (zconso (zvo (rfl : i3 x1 = i3 x1)) (zconso (zvo (rfl : i3 x2 = i3 x2)) (zconso (zvo (i3A (rfl : i3 x3 = i3 x3) (show (1 : Int32) = i3 1 from rfl))) rfl)))), rfl,  by omega, by omega, by omega, by omega,  hP⟩
    · replace hP := zE_n hP h4
      obtain ⟨m2, rfl⟩ : ∃ m2, m = m2 + 1 := ⟨m - 1, by omega⟩
      exact wz_k1 ⟨m2, by omega, (x2 + 1), (x3 + 1), (zconso rfl (zconso (zvo (rfl : i3 x1 = i3 x1)) (zconso (zvo (i3A (rfl : i3 x2 = i3 x2) (show (1 : Int32) = i3 1 from rfl))) (zconso (zvo (i3A (rfl : i3 x3 = i3 x3) (show (1 : Int32) = i3 1 from rfl))) rfl)))), rfl,  by omega, by omega, by omega, by omega,  hP⟩

/- yX10_standing -/
def zf_182 (Z : qz_Z) (a0b : Int) (a1 : Int) : Int := (zlet2 (zl_182_1 a0b a1 49 Z 0 0) (fun y1 y2 => y1))
theorem sp_182 {s : zS} {Z : qz_Z} {ν : qz_N} (hZ : zI s Z) (a0b : Nat) {a1 : Int} (ga1 : 0 ≤ a1 ∧ a1 ≤ 3) : ∃ P : Int, P = zf_182 Z a0b a1 ∧ (qf_182 [.inr (.inr (some (10, a0b, 0))), .inl (i3 a1)] (zm Z ν) = some (zm Z ν, .inl (some (.inl (i3 P)))) ∧ 0 ≤ P ∧ P ≤ 48) := by
  obtain ⟨P, hP⟩ := zx (zf_182 Z a0b a1)
  refine zc_R (Q := fun P => 0 ≤ P ∧ P ≤ 48) hP (fw_182 a0b (i3 a1) _ _ ?_)
  replace hP : zE P (zf_182 Z a0b a1) := hP
  unfold zf_182 at hP
  refine sl_182_1 (ν := ν) hZ a0b (x1 := a1) (by omega) (x2 := 0) (by omega) (x3 := 0) (by omega) (by omega) (zconso rfl (zconso (zvo (rfl : i3 a1 = i3 a1)) (zconso (zvo (show (0 : Int32) = i3 0 from rfl)) (zconso (zvo (show (0 : Int32) = i3 0 from rfl)) rfl)))) rfl ?_
  intro L3 y1 y2 hL3 gy1 gy2 gL3_0 q9
  replace hP := zl_e2 hP (Eq.symm q9)
  clear q9
  refine fc_182_2 (i3 y1) _ _ _ _ hL3 ?_
  exact zlR hP (rfl : i3 y1 = i3 y1) ⟨by omega, by omega⟩

/- yX8_tellStores -/
def zl_150_1 (x0 : Int) (hb : Int) (x1 : Int) : Nat → qz_Z → Int → qz_Z × Int
  | 0, Z, x2 => (Z, x2)
  | m + 1, Z, x2 => (if x1 ≤ x2 then (Z, x2) else (zlet (zu Z 200 x0 0 2 (((25173 * (Z 200 x0 0 2)) + 13849) % 65536)) (fun Z3 => (zlet (zu Z3 200 x0 0 2 (((25173 * (Z3 200 x0 0 2)) + 13849) % 65536)) (fun Z13 => (zlet (zu Z13 200 x0 0 2 (((25173 * (Z13 200 x0 0 2)) + 13849) % 65536)) (fun Z23 => (zlet (zu Z23 43 hb (Z23 11 hb 0 2) 0 (1 + (((Z3 200 x0 0 2) / 16) % 12))) (fun Z32 => (zlet (zu Z32 43 hb (Z23 11 hb 0 2) 1 (((Z13 200 x0 0 2) / 16) % 10)) (fun Z40 => (zlet (zu Z40 43 hb (Z23 11 hb 0 2) 2 (((Z23 200 x0 0 2) / 16) % 10)) (fun Z50 => (zlet (zu Z50 43 hb (Z23 11 hb 0 2) 3 18) (fun Z58 => (zlet (zu Z58 43 hb (Z23 11 hb 0 2) 5 (Z58 12 hb 0 ((Z58 11 hb 0 13) / 24))) (fun Z68 => (zlet (zu Z68 43 hb (Z23 11 hb 0 2) 10 (-1)) (fun Z76 => (zlet (zu Z76 11 hb 0 2 ((Z76 11 hb 0 2) + 1)) (fun Z86 => (zlet (zu Z86 200 x0 0 2 (((25173 * (Z86 200 x0 0 2)) + 13849) % 65536)) (fun Z96 => (zlet (zu Z96 43 hb (Z76 11 hb 0 2) 3 (((Z96 200 x0 0 2) / 16) % 41)) (fun Z106 => (zlet (zu Z106 200 x0 0 2 (((25173 * (Z106 200 x0 0 2)) + 13849) % 65536)) (fun Z116 => (zlet (zu Z116 43 hb (Z76 11 hb 0 2) 4 (((Z116 200 x0 0 2) / 16) % 2)) (fun Z126 => zl_150_1 x0 hb x1 m Z126 (x2 + 1))))))))))))))))))))))))))))))
theorem sl_150_1 {Zs Z : qz_Z} {ν : qz_N} (x0 : Nat) (hZ : zI (some (some (x0 : Int))) Z) (hK : zK [11, 43, 200] Zs Z) (hb : Nat) (tsn : ∀ Z, qz_tag (zm Z ν) (200, x0, 0) = 2) (rsn : ∀ Z, qz_rm (zm Z ν) 200 x0 0 0 = some (10, hb, 0)) {x1 : Int} (gx1 : 0 ≤ x1 ∧ x1 ≤ 4) {x2 : Int} (gx2 : 0 ≤ x2 ∧ x2 ≤ 4) {kc0 : Int} {kc1 : Int} {kc2 : Int} {kc3 : Int} {kc4 : Int} {kc5 : Int} (gr0 : Z 11 hb 0 2 = x2) (gr1 : Z 11 hb 0 3 = kc0) (gr2 : Z 11 hb 0 4 = kc1) (gr3 : Z 11 hb 0 5 = kc2) (gr4 : Z 11 hb 0 7 = kc3) (gr5 : Z 11 hb 0 8 = kc4) (gr6 : Z 11 hb 0 9 = kc5) {k : wz_K} {R : wz_R} {L : qz_L} (hL : qz_fg [true, true, true, false] L = [some (.inr (.inr (some (200, x0, 0)))), some (.inl (i3 x1)), some (.inl (i3 x2)), none]) {T : qz_Z × Int} (hP : zE T (zl_150_1 x0 hb x1 ((4 - x2).toNat + 1) Z x2)) (hk : ∀ (L9 : qz_L) (Z9 : qz_Z) (yx2 : Int), qz_fg [true, true, false, false] L9 = [some (.inr (.inr (some (200, x0, 0)))), some (.inl (i3 x1)), none, none] → zI (some (some (x0 : Int))) Z9 → zK [11, 43, 200] Zs Z9 → (0 ≤ yx2 ∧ yx2 ≤ 4) → (Z9 11 hb 0 2 = yx2) → (Z9 11 hb 0 3 = kc0) → (Z9 11 hb 0 4 = kc1) → (Z9 11 hb 0 5 = kc2) → (Z9 11 hb 0 7 = kc3) → (Z9 11 hb 0 8 = kc4) → (Z9 11 hb 0 9 = kc5) → zE T ((Z9, yx2)) → k 0 (L9, [], zm Z9 ν)) : wz_loop qb_150_1 65536 k R (L, [], zm Z ν) := by
  refine wz_lp sb_150_1 (fun m x => ∃ Z : qz_Z, ∃ x2 : Int, qz_fg [true, true, true, false] x.1 = [some (.inr (.inr (some (200, x0, 0)))), some (.inl (i3 x1)), some (.inl (i3 x2)), none] ∧ x.2 = ([], zm Z ν) ∧ zI (some (some (x0 : Int))) Z ∧ zK [11, 43, 200] Zs Z ∧ m = (4 - x2).toNat ∧ (0 ≤ x2 ∧ x2 ≤ 4) ∧ (Z 11 hb 0 2 = x2) ∧ (Z 11 hb 0 3 = kc0) ∧ (Z 11 hb 0 4 = kc1) ∧ (Z 11 hb 0 5 = kc2) ∧ (Z 11 hb 0 7 = kc3) ∧ (Z 11 hb 0 8 = kc4) ∧ (Z 11 hb 0 9 = kc5) ∧ zE T (zl_150_1 x0 hb x1 (m + 1) Z x2)) ?_ 65536 ((4 - x2).toNat) _ (by omega) ⟨Z, x2, hL, rfl, hZ, hK, rfl, gx2, gr0, gr1, gr2, gr3, gr4, gr5, gr6, hP⟩
  clear hP gr0 gr1 gr2 gr3 gr4 gr5 gr6 gx2 hZ hK hL
  clear x2
  clear Z
  rintro m ⟨L, st, μ⟩ ⟨Z, x2, hL, hx, hZ, hK, hm, gx2, gr0, gr1, gr2, gr3, gr4, gr5, gr6, hP⟩
  cases hx
  refine fb_150_1 x0 (i3 x1) (i3 x2) _ _ _ _ hL ?_
  have rs := zI_xs (n := x0) hZ
  refine wz_br (i3Le (rfl : i3 x1 = i3 x1) (rfl : i3 x2 = i3 x2) (by omega) (by omega) (by omega) (by omega)) (fun h1 => ?_) (fun h1 => ?_)
  · replace hP := zE_p hP h1
    exact hk _ _ _ (zconso rfl (zconso (zvo (rfl : i3 x1 = i3 x1)) (zconso rfl (zconso rfl rfl)))) hZ hK (by omega) (by omega) (by omega) (by omega) (by omega) (by omega) (by omega) (by omega) hP
  · replace hP := zE_n hP h1
    refine wz_i1 (by rw [tsn]; rfl) ?_
    refine wz_rko (rsn _) ?_
    refine wz_i1 (by rw [tsn]; rfl) ?_
    refine wz_i1 (by rw [tsn]; rfl) ?_
    refine wz_i1 (by rw [tsn]; rfl) ?_
    have r2 := zI_xr (n := x0) hZ
    obtain ⟨Z3, hZ3⟩ := zx (zu Z 200 x0 0 2 (((25173 * (Z 200 x0 0 2)) + 13849) % 65536))
    replace hP := zl_e hP hZ3
    have hZ3I := zI_x hZ hZ3 (by omega)
    have t4 : Z3 11 hb 0 3 = Z 11 hb 0 3 := zu_ne hZ3 (fun q => absurd q.1 (by decide))
    have t5 : Z3 11 hb 0 4 = Z 11 hb 0 4 := zu_ne hZ3 (fun q => absurd q.1 (by decide))
    have t6 : Z3 11 hb 0 5 = Z 11 hb 0 5 := zu_ne hZ3 (fun q => absurd q.1 (by decide))
    have t7 : Z3 11 hb 0 7 = Z 11 hb 0 7 := zu_ne hZ3 (fun q => absurd q.1 (by decide))
    have t8 : Z3 11 hb 0 8 = Z 11 hb 0 8 := zu_ne hZ3 (fun q => absurd q.1 (by decide))
    have t9 : Z3 11 hb 0 9 = Z 11 hb 0 9 := zu_ne hZ3 (fun q => absurd q.1 (by decide))
    have t10 : Z3 11 hb 0 2 = Z 11 hb 0 2 := zu_ne hZ3 (fun q => absurd q.1 (by decide))
    have hZ3K := zK_u hK hZ3 (by decide)
    intro μ9 e9
    replace e9 := e9.trans (zm_wI (Z := Z) (ν := ν) hZ3 (rfl : ((x0 : Nat) : Int) = x0) (show ((0 : Nat) : Int) = 0 from rfl) (show ((2 : Nat) : Int) = 2 from rfl) (i3R (i3A (i3M (show (25173 : Int32) = i3 25173 from rfl) (zm_rd (Z := Z) (ν := ν) (k := 200) (rfl : ((x0 : Nat) : Int) = x0) (show ((0 : Nat) : Int) = 0 from rfl) (show ((2 : Nat) : Int) = 2 from rfl))) (show (13849 : Int32) = i3 13849 from rfl)) (show (65536 : Int32) = i3 65536 from rfl) (by omega) (by omega) (by omega) (by omega)))
    subst e9
    refine wz_i1 (by rw [tsn]; rfl) ?_
    refine wz_i1 (by rw [tsn]; rfl) ?_
    refine wz_i1 (by rw [tsn]; rfl) ?_
    refine wz_i1 (by rw [tsn]; rfl) ?_
    have r11 := zI_xr (n := x0) hZ3I
    have q12 := zu_at hZ3
    obtain ⟨Z13, hZ13⟩ := zx (zu Z3 200 x0 0 2 (((25173 * (Z3 200 x0 0 2)) + 13849) % 65536))
    replace hP := zl_e hP hZ13
    have hZ13I := zI_x hZ3I hZ13 (by omega)
    have t14 : Z13 11 hb 0 3 = Z3 11 hb 0 3 := zu_ne hZ13 (fun q => absurd q.1 (by decide))
    have t15 : Z13 11 hb 0 4 = Z3 11 hb 0 4 := zu_ne hZ13 (fun q => absurd q.1 (by decide))
    have t16 : Z13 11 hb 0 5 = Z3 11 hb 0 5 := zu_ne hZ13 (fun q => absurd q.1 (by decide))
    have t17 : Z13 11 hb 0 7 = Z3 11 hb 0 7 := zu_ne hZ13 (fun q => absurd q.1 (by decide))
    have t18 : Z13 11 hb 0 8 = Z3 11 hb 0 8 := zu_ne hZ13 (fun q => absurd q.1 (by decide))
    have t19 : Z13 11 hb 0 9 = Z3 11 hb 0 9 := zu_ne hZ13 (fun q => absurd q.1 (by decide))
    have t20 : Z13 11 hb 0 2 = Z3 11 hb 0 2 := zu_ne hZ13 (fun q => absurd q.1 (by decide))
    have hZ13K := zK_u hZ3K hZ13 (by decide)
    intro μ9 e9
    replace e9 := e9.trans (zm_wI (Z := Z3) (ν := ν) hZ13 (rfl : ((x0 : Nat) : Int) = x0) (show ((0 : Nat) : Int) = 0 from rfl) (show ((2 : Nat) : Int) = 2 from rfl) (i3R (i3A (i3M (show (25173 : Int32) = i3 25173 from rfl) (zm_rd (Z := Z3) (ν := ν) (k := 200) (rfl : ((x0 : Nat) : Int) = x0) (show ((0 : Nat) : Int) = 0 from rfl) (show ((2 : Nat) : Int) = 2 from rfl))) (show (13849 : Int32) = i3 13849 from rfl)) (show (65536 : Int32) = i3 65536 from rfl) (by omega) (by omega) (by omega) (by omega)))
    subst e9
    refine wz_i1 (by rw [tsn]; rfl) ?_
    refine wz_i1 (by rw [tsn]; rfl) ?_
    refine wz_i1 (by rw [tsn]; rfl) ?_
    refine wz_i1 (by rw [tsn]; rfl) ?_
    have r21 := zI_xr (n := x0) hZ13I
    have q22 := zu_at hZ13
    obtain ⟨Z23, hZ23⟩ := zx (zu Z13 200 x0 0 2 (((25173 * (Z13 200 x0 0 2)) + 13849) % 65536))
    replace hP := zl_e hP hZ23
    have hZ23I := zI_x hZ13I hZ23 (by omega)
    have t24 : Z23 11 hb 0 3 = Z13 11 hb 0 3 := zu_ne hZ23 (fun q => absurd q.1 (by decide))
    have t25 : Z23 11 hb 0 4 = Z13 11 hb 0 4 := zu_ne hZ23 (fun q => absurd q.1 (by decide))
    have t26 : Z23 11 hb 0 5 = Z13 11 hb 0 5 := zu_ne hZ23 (fun q => absurd q.1 (by decide))
    have t27 : Z23 11 hb 0 7 = Z13 11 hb 0 7 := zu_ne hZ23 (fun q => absurd q.1 (by decide))
    have t28 : Z23 11 hb 0 8 = Z13 11 hb 0 8 := zu_ne hZ23 (fun q => absurd q.1 (by decide))
    have t29 : Z23 11 hb 0 9 = Z13 11 hb 0 9 := zu_ne hZ23 (fun q => absurd q.1 (by decide))
    have t30 : Z23 11 hb 0 2 = Z13 11 hb 0 2 := zu_ne hZ23 (fun q => absurd q.1 (by decide))
    have hZ23K := zK_u hZ13K hZ23 (by decide)
    intro μ9 e9
    replace e9 := e9.trans (zm_wI (Z := Z13) (ν := ν) hZ23 (rfl : ((x0 : Nat) : Int) = x0) (show ((0 : Nat) : Int) = 0 from rfl) (show ((2 : Nat) : Int) = 2 from rfl) (i3R (i3A (i3M (show (25173 : Int32) = i3 25173 from rfl) (zm_rd (Z := Z13) (ν := ν) (k := 200) (rfl : ((x0 : Nat) : Int) = x0) (show ((0 : Nat) : Int) = 0 from rfl) (show ((2 : Nat) : Int) = 2 from rfl))) (show (13849 : Int32) = i3 13849 from rfl)) (show (65536 : Int32) = i3 65536 from rfl) (by omega) (by omega) (by omega) (by omega)))
    subst e9
    refine wz_i1 (by rw [tsn]; rfl) ?_
    refine wz_i1 rfl ?_
    refine wz_rko (r := (23, _, _)) rfl ?_
    refine wz_i1 rfl ?_
    refine wz_rko (r := (11, _, _)) rfl ?_
    refine wz_i1 rfl ?_
    refine wz_i0 (i3O (n := 17) (show (2 : Int32) = i3 2 from rfl) (by omega) (by omega) (by omega)) ?_
    refine wz_i1 rfl ?_
    have r31 := zI_k hZ23I 11 hb 0 2 (lo := 0) (hi := 6) (by decide) rfl
    refine wz_i0 (i3O (n := 6) (zm_rd (Z := Z23) (ν := ν) (k := 11) (rfl : ((hb : Nat) : Int) = hb) (show ((0 : Nat) : Int) = 0 from rfl) (show ((2 : Nat) : Int) = 2 from rfl)) (by omega) (by omega) (by omega)) ?_
    refine wz_rko (r := (43, _, _)) rfl ?_
    refine wz_i1 rfl ?_
    refine wz_i0 (i3O (n := 11) (show (0 : Int32) = i3 0 from rfl) (by omega) (by omega) (by omega)) ?_
    obtain ⟨Z32, hZ32⟩ := zx (zu Z23 43 hb (Z23 11 hb 0 2) 0 (1 + (((Z3 200 x0 0 2) / 16) % 12)))
    replace hP := zl_e hP hZ32
    have hZ32I := zI_u hZ23I hZ32 (lo := 0) (hi := 12) (by decide) rfl (by omega) ⟨by decide, by decide⟩ (Or.inl (by decide))
    have t33 : Z32 11 hb 0 3 = Z23 11 hb 0 3 := zu_ne hZ32 (fun q => absurd q.1 (by decide))
    have t34 : Z32 11 hb 0 4 = Z23 11 hb 0 4 := zu_ne hZ32 (fun q => absurd q.1 (by decide))
    have t35 : Z32 11 hb 0 5 = Z23 11 hb 0 5 := zu_ne hZ32 (fun q => absurd q.1 (by decide))
    have t36 : Z32 11 hb 0 7 = Z23 11 hb 0 7 := zu_ne hZ32 (fun q => absurd q.1 (by decide))
    have t37 : Z32 11 hb 0 8 = Z23 11 hb 0 8 := zu_ne hZ32 (fun q => absurd q.1 (by decide))
    have t38 : Z32 11 hb 0 9 = Z23 11 hb 0 9 := zu_ne hZ32 (fun q => absurd q.1 (by decide))
    have t39 : Z32 11 hb 0 2 = Z23 11 hb 0 2 := zu_ne hZ32 (fun q => absurd q.1 (by decide))
    have hZ32K := zK_u hZ23K hZ32 (by decide)
    intro μ9 e9
    replace e9 := e9.trans (zm_wI (Z := Z23) (ν := ν) hZ32 (rfl : ((hb : Nat) : Int) = hb) (i3I (y := (Z23 11 hb 0 2)) (zm_rd (Z := Z23) (ν := ν) (k := 11) (rfl : ((hb : Nat) : Int) = hb) (show ((0 : Nat) : Int) = 0 from rfl) (show ((2 : Nat) : Int) = 2 from rfl)) (by omega) (by omega) (by omega)) (show ((0 : Nat) : Int) = 0 from rfl) (i3A (show (1 : Int32) = i3 1 from rfl) (i3R (i3D (zm_rd (Z := Z3) (ν := ν) (k := 200) (rfl : ((x0 : Nat) : Int) = x0) (show ((0 : Nat) : Int) = 0 from rfl) (show ((2 : Nat) : Int) = 2 from rfl)) (show (16 : Int32) = i3 16 from rfl) (by omega) (by omega) (by omega) (by omega)) (show (12 : Int32) = i3 12 from rfl) (by omega) (by omega) (by omega) (by omega))))
    subst e9
    refine wz_i1 rfl ?_
    refine wz_i0 (i3O (n := 11) (show (1 : Int32) = i3 1 from rfl) (by omega) (by omega) (by omega)) ?_
    obtain ⟨Z40, hZ40⟩ := zx (zu Z32 43 hb (Z23 11 hb 0 2) 1 (((Z13 200 x0 0 2) / 16) % 10))
    replace hP := zl_e hP hZ40
    have hZ40I := zI_u hZ32I hZ40 (lo := 0) (hi := 9) (by decide) rfl (by omega) ⟨by decide, by decide⟩ (Or.inl (by decide))
    have t41 : Z40 11 hb 0 3 = Z32 11 hb 0 3 := zu_ne hZ40 (fun q => absurd q.1 (by decide))
    have t42 : Z40 11 hb 0 4 = Z32 11 hb 0 4 := zu_ne hZ40 (fun q => absurd q.1 (by decide))
    have t43 : Z40 11 hb 0 5 = Z32 11 hb 0 5 := zu_ne hZ40 (fun q => absurd q.1 (by decide))
    have t44 : Z40 11 hb 0 7 = Z32 11 hb 0 7 := zu_ne hZ40 (fun q => absurd q.1 (by decide))
    have t45 : Z40 11 hb 0 8 = Z32 11 hb 0 8 := zu_ne hZ40 (fun q => absurd q.1 (by decide))
    have t46 : Z40 11 hb 0 9 = Z32 11 hb 0 9 := zu_ne hZ40 (fun q => absurd q.1 (by decide))
    have t47 : Z40 11 hb 0 2 = Z32 11 hb 0 2 := zu_ne hZ40 (fun q => absurd q.1 (by decide))
    have hZ40K := zK_u hZ32K hZ40 (by decide)
    intro μ9 e9
    replace e9 := e9.trans (zm_wI (Z := Z32) (ν := ν) hZ40 (rfl : ((hb : Nat) : Int) = hb) (i3I (y := (Z23 11 hb 0 2)) (zm_rd (Z := Z23) (ν := ν) (k := 11) (rfl : ((hb : Nat) : Int) = hb) (show ((0 : Nat) : Int) = 0 from rfl) (show ((2 : Nat) : Int) = 2 from rfl)) (by omega) (by omega) (by omega)) (show ((1 : Nat) : Int) = 1 from rfl) (i3R (i3D (zm_rd (Z := Z13) (ν := ν) (k := 200) (rfl : ((x0 : Nat) : Int) = x0) (show ((0 : Nat) : Int) = 0 from rfl) (show ((2 : Nat) : Int) = 2 from rfl)) (show (16 : Int32) = i3 16 from rfl) (by omega) (by omega) (by omega) (by omega)) (show (10 : Int32) = i3 10 from rfl) (by omega) (by omega) (by omega) (by omega)))
    subst e9
    refine wz_i1 rfl ?_
    refine wz_i0 (i3O (n := 11) (show (2 : Int32) = i3 2 from rfl) (by omega) (by omega) (by omega)) ?_
    have r48 := zI_xr (n := x0) hZ23I
    have q49 := zu_at hZ23
    obtain ⟨Z50, hZ50⟩ := zx (zu Z40 43 hb (Z23 11 hb 0 2) 2 (((Z23 200 x0 0 2) / 16) % 10))
    replace hP := zl_e hP hZ50
    have hZ50I := zI_u hZ40I hZ50 (lo := 0) (hi := 9) (by decide) rfl (by omega) ⟨by decide, by decide⟩ (Or.inl (by decide))
    have t51 : Z50 11 hb 0 3 = Z40 11 hb 0 3 := zu_ne hZ50 (fun q => absurd q.1 (by decide))
    have t52 : Z50 11 hb 0 4 = Z40 11 hb 0 4 := zu_ne hZ50 (fun q => absurd q.1 (by decide))
    have t53 : Z50 11 hb 0 5 = Z40 11 hb 0 5 := zu_ne hZ50 (fun q => absurd q.1 (by decide))
    have t54 : Z50 11 hb 0 7 = Z40 11 hb 0 7 := zu_ne hZ50 (fun q => absurd q.1 (by decide))
    have t55 : Z50 11 hb 0 8 = Z40 11 hb 0 8 := zu_ne hZ50 (fun q => absurd q.1 (by decide))
    have t56 : Z50 11 hb 0 9 = Z40 11 hb 0 9 := zu_ne hZ50 (fun q => absurd q.1 (by decide))
    have t57 : Z50 11 hb 0 2 = Z40 11 hb 0 2 := zu_ne hZ50 (fun q => absurd q.1 (by decide))
    have hZ50K := zK_u hZ40K hZ50 (by decide)
    intro μ9 e9
    replace e9 := e9.trans (zm_wI (Z := Z40) (ν := ν) hZ50 (rfl : ((hb : Nat) : Int) = hb) (i3I (y := (Z23 11 hb 0 2)) (zm_rd (Z := Z23) (ν := ν) (k := 11) (rfl : ((hb : Nat) : Int) = hb) (show ((0 : Nat) : Int) = 0 from rfl) (show ((2 : Nat) : Int) = 2 from rfl)) (by omega) (by omega) (by omega)) (show ((2 : Nat) : Int) = 2 from rfl) (i3R (i3D (zm_rd (Z := Z23) (ν := ν) (k := 200) (rfl : ((x0 : Nat) : Int) = x0) (show ((0 : Nat) : Int) = 0 from rfl) (show ((2 : Nat) : Int) = 2 from rfl)) (show (16 : Int32) = i3 16 from rfl) (by omega) (by omega) (by omega) (by omega)) (show (10 : Int32) = i3 10 from rfl) (by omega) (by omega) (by omega) (by omega)))
    subst e9
    refine wz_i1 rfl ?_
    refine wz_i0 (i3O (n := 11) (show (3 : Int32) = i3 3 from rfl) (by omega) (by omega) (by omega)) ?_
    obtain ⟨Z58, hZ58⟩ := zx (zu Z50 43 hb (Z23 11 hb 0 2) 3 18)
    replace hP := zl_e hP hZ58
    have hZ58I := zI_u hZ50I hZ58 (lo := 0) (hi := 40) (by decide) rfl (by omega) ⟨by decide, by decide⟩ (Or.inl (by decide))
    have t59 : Z58 11 hb 0 3 = Z50 11 hb 0 3 := zu_ne hZ58 (fun q => absurd q.1 (by decide))
    have t60 : Z58 11 hb 0 4 = Z50 11 hb 0 4 := zu_ne hZ58 (fun q => absurd q.1 (by decide))
    have t61 : Z58 11 hb 0 5 = Z50 11 hb 0 5 := zu_ne hZ58 (fun q => absurd q.1 (by decide))
    have t62 : Z58 11 hb 0 7 = Z50 11 hb 0 7 := zu_ne hZ58 (fun q => absurd q.1 (by decide))
    have t63 : Z58 11 hb 0 8 = Z50 11 hb 0 8 := zu_ne hZ58 (fun q => absurd q.1 (by decide))
    have t64 : Z58 11 hb 0 9 = Z50 11 hb 0 9 := zu_ne hZ58 (fun q => absurd q.1 (by decide))
    have t65 : Z58 11 hb 0 2 = Z50 11 hb 0 2 := zu_ne hZ58 (fun q => absurd q.1 (by decide))
    have hZ58K := zK_u hZ50K hZ58 (by decide)
    intro μ9 e9
    replace e9 := e9.trans (zm_wI (Z := Z50) (ν := ν) hZ58 (rfl : ((hb : Nat) : Int) = hb) (i3I (y := (Z23 11 hb 0 2)) (zm_rd (Z := Z23) (ν := ν) (k := 11) (rfl : ((hb : Nat) : Int) = hb) (show ((0 : Nat) : Int) = 0 from rfl) (show ((2 : Nat) : Int) = 2 from rfl)) (by omega) (by omega) (by omega)) (show ((3 : Nat) : Int) = 3 from rfl) (show (18 : Int32) = i3 18 from rfl))
    subst e9
    refine wz_i1 rfl ?_
    refine wz_rko (r := (12, _, _)) rfl ?_
    refine wz_i1 rfl ?_
    refine wz_i1 rfl ?_
    refine wz_rko (r := (11, _, _)) rfl ?_
    refine wz_i1 rfl ?_
    refine wz_i0 (i3O (n := 17) (show (13 : Int32) = i3 13 from rfl) (by omega) (by omega) (by omega)) ?_
    refine wz_i1 rfl ?_
    have r66 := zI_k hZ58I 11 hb 0 13 (lo := 0) (hi := 671) (by decide) rfl
    refine wz_i0 (i3O (n := 28) (i3D (zm_rd (Z := Z58) (ν := ν) (k := 11) (rfl : ((hb : Nat) : Int) = hb) (show ((0 : Nat) : Int) = 0 from rfl) (show ((13 : Nat) : Int) = 13 from rfl)) (show (24 : Int32) = i3 24 from rfl) (by omega) (by omega) (by omega) (by omega)) (by omega) (by omega) (by omega)) ?_
    refine wz_i1 rfl ?_
    refine wz_i0 (i3O (n := 11) (show (5 : Int32) = i3 5 from rfl) (by omega) (by omega) (by omega)) ?_
    have r67 := zI_k hZ58I 12 hb 0 ((Z58 11 hb 0 13) / 24) (lo := 0) (hi := 40) (by decide) (zrc_12 (by omega) (by omega))
    obtain ⟨Z68, hZ68⟩ := zx (zu Z58 43 hb (Z23 11 hb 0 2) 5 (Z58 12 hb 0 ((Z58 11 hb 0 13) / 24)))
    replace hP := zl_e hP hZ68
    have hZ68I := zI_u hZ58I hZ68 (lo := 0) (hi := 40) (by decide) rfl (by omega) ⟨by decide, by decide⟩ (Or.inl (by decide))
    have t69 : Z68 11 hb 0 3 = Z58 11 hb 0 3 := zu_ne hZ68 (fun q => absurd q.1 (by decide))
    have t70 : Z68 11 hb 0 4 = Z58 11 hb 0 4 := zu_ne hZ68 (fun q => absurd q.1 (by decide))
    have t71 : Z68 11 hb 0 5 = Z58 11 hb 0 5 := zu_ne hZ68 (fun q => absurd q.1 (by decide))
    have t72 : Z68 11 hb 0 7 = Z58 11 hb 0 7 := zu_ne hZ68 (fun q => absurd q.1 (by decide))
    have t73 : Z68 11 hb 0 8 = Z58 11 hb 0 8 := zu_ne hZ68 (fun q => absurd q.1 (by decide))
    have t74 : Z68 11 hb 0 9 = Z58 11 hb 0 9 := zu_ne hZ68 (fun q => absurd q.1 (by decide))
    have t75 : Z68 11 hb 0 2 = Z58 11 hb 0 2 := zu_ne hZ68 (fun q => absurd q.1 (by decide))
    have hZ68K := zK_u hZ58K hZ68 (by decide)
    intro μ9 e9
    replace e9 := e9.trans (zm_wI (Z := Z58) (ν := ν) hZ68 (rfl : ((hb : Nat) : Int) = hb) (i3I (y := (Z23 11 hb 0 2)) (zm_rd (Z := Z23) (ν := ν) (k := 11) (rfl : ((hb : Nat) : Int) = hb) (show ((0 : Nat) : Int) = 0 from rfl) (show ((2 : Nat) : Int) = 2 from rfl)) (by omega) (by omega) (by omega)) (show ((5 : Nat) : Int) = 5 from rfl) (zm_rd (Z := Z58) (ν := ν) (k := 12) (rfl : ((hb : Nat) : Int) = hb) (show ((0 : Nat) : Int) = 0 from rfl) (i3I (y := ((Z58 11 hb 0 13) / 24)) (i3D (zm_rd (Z := Z58) (ν := ν) (k := 11) (rfl : ((hb : Nat) : Int) = hb) (show ((0 : Nat) : Int) = 0 from rfl) (show ((13 : Nat) : Int) = 13 from rfl)) (show (24 : Int32) = i3 24 from rfl) (by omega) (by omega) (by omega) (by omega)) (by omega) (by omega) (by omega))))
    subst e9
    refine wz_i1 rfl ?_
    refine wz_i0 (i3O (n := 11) (show (10 : Int32) = i3 10 from rfl) (by omega) (by omega) (by omega)) ?_
    obtain ⟨Z76, hZ76⟩ := zx (zu Z68 43 hb (Z23 11 hb 0 2) 10 (-1))
    replace hP := zl_e hP hZ76
    have hZ76I := zI_u hZ68I hZ76 (lo := -1) (hi := 695) (by decide) rfl (by omega) ⟨by decide, by decide⟩ (Or.inl (by decide))
    have t77 : Z76 11 hb 0 3 = Z68 11 hb 0 3 := zu_ne hZ76 (fun q => absurd q.1 (by decide))
    have t78 : Z76 11 hb 0 4 = Z68 11 hb 0 4 := zu_ne hZ76 (fun q => absurd q.1 (by decide))
    have t79 : Z76 11 hb 0 5 = Z68 11 hb 0 5 := zu_ne hZ76 (fun q => absurd q.1 (by decide))
    have t80 : Z76 11 hb 0 7 = Z68 11 hb 0 7 := zu_ne hZ76 (fun q => absurd q.1 (by decide))
    have t81 : Z76 11 hb 0 8 = Z68 11 hb 0 8 := zu_ne hZ76 (fun q => absurd q.1 (by decide))
    have t82 : Z76 11 hb 0 9 = Z68 11 hb 0 9 := zu_ne hZ76 (fun q => absurd q.1 (by decide))
    have t83 : Z76 11 hb 0 2 = Z68 11 hb 0 2 := zu_ne hZ76 (fun q => absurd q.1 (by decide))
    have hZ76K := zK_u hZ68K hZ76 (by decide)
    intro μ9 e9
    replace e9 := e9.trans (zm_wI (Z := Z68) (ν := ν) hZ76 (rfl : ((hb : Nat) : Int) = hb) (i3I (y := (Z23 11 hb 0 2)) (zm_rd (Z := Z23) (ν := ν) (k := 11) (rfl : ((hb : Nat) : Int) = hb) (show ((0 : Nat) : Int) = 0 from rfl) (show ((2 : Nat) : Int) = 2 from rfl)) (by omega) (by omega) (by omega)) (show ((10 : Nat) : Int) = 10 from rfl) (show (-1 : Int32) = i3 (-1) from rfl))
    subst e9
    refine wz_i1 rfl ?_
    refine wz_rko (r := (11, _, _)) rfl ?_
    refine wz_i1 rfl ?_
    refine wz_i0 (i3O (n := 17) (show (2 : Int32) = i3 2 from rfl) (by omega) (by omega) (by omega)) ?_
    refine wz_i1 rfl ?_
    refine wz_i0 (i3O (n := 17) (show (2 : Int32) = i3 2 from rfl) (by omega) (by omega) (by omega)) ?_
    have r84 := zI_k hZ76I 11 hb 0 2 (lo := 0) (hi := 6) (by decide) rfl
    have q85 := (zu_ne (k' := 11) (b' := hb) (i' := 0) (j' := 2) hZ76 (fun q => absurd q.1 (by decide))).trans ((zu_ne (k' := 11) (b' := hb) (i' := 0) (j' := 2) hZ68 (fun q => absurd q.1 (by decide))).trans ((zu_ne (k' := 11) (b' := hb) (i' := 0) (j' := 2) hZ58 (fun q => absurd q.1 (by decide))).trans ((zu_ne (k' := 11) (b' := hb) (i' := 0) (j' := 2) hZ50 (fun q => absurd q.1 (by decide))).trans ((zu_ne (k' := 11) (b' := hb) (i' := 0) (j' := 2) hZ40 (fun q => absurd q.1 (by decide))).trans (zu_ne (k' := 11) (b' := hb) (i' := 0) (j' := 2) hZ32 (fun q => absurd q.1 (by decide)))))))
    obtain ⟨Z86, hZ86⟩ := zx (zu Z76 11 hb 0 2 ((Z76 11 hb 0 2) + 1))
    replace hP := zl_e hP hZ86
    have hZ86I := zI_u hZ76I hZ86 (lo := 0) (hi := 6) (by decide) rfl (by omega) ⟨by decide, by decide⟩ (Or.inl (by decide))
    have t87 : Z86 11 hb 0 3 = Z76 11 hb 0 3 := zu_ne hZ86 (fun q => absurd q.2.2.2 (by decide))
    have t88 : Z86 11 hb 0 4 = Z76 11 hb 0 4 := zu_ne hZ86 (fun q => absurd q.2.2.2 (by decide))
    have t89 : Z86 11 hb 0 5 = Z76 11 hb 0 5 := zu_ne hZ86 (fun q => absurd q.2.2.2 (by decide))
    have t90 : Z86 11 hb 0 7 = Z76 11 hb 0 7 := zu_ne hZ86 (fun q => absurd q.2.2.2 (by decide))
    have t91 : Z86 11 hb 0 8 = Z76 11 hb 0 8 := zu_ne hZ86 (fun q => absurd q.2.2.2 (by decide))
    have t92 : Z86 11 hb 0 9 = Z76 11 hb 0 9 := zu_ne hZ86 (fun q => absurd q.2.2.2 (by decide))
    have t93 := zu_at hZ86
    have hZ86K := zK_u hZ76K hZ86 (by decide)
    intro μ9 e9
    replace e9 := e9.trans (zm_wI (Z := Z76) (ν := ν) hZ86 (rfl : ((hb : Nat) : Int) = hb) (show ((0 : Nat) : Int) = 0 from rfl) (show ((2 : Nat) : Int) = 2 from rfl) (i3A (zm_rd (Z := Z76) (ν := ν) (k := 11) (rfl : ((hb : Nat) : Int) = hb) (show ((0 : Nat) : Int) = 0 from rfl) (show ((2 : Nat) : Int) = 2 from rfl)) (show (1 : Int32) = i3 1 from rfl)))
    subst e9
    refine wz_i1 (by rw [tsn]; rfl) ?_
    refine wz_rko (rsn _) ?_
    refine wz_i1 rfl ?_
    refine wz_rko (r := (23, _, _)) rfl ?_
    refine wz_i1 rfl ?_
    refine wz_i0 (i3O (n := 6) (zm_rd (Z := Z76) (ν := ν) (k := 11) (rfl : ((hb : Nat) : Int) = hb) (show ((0 : Nat) : Int) = 0 from rfl) (show ((2 : Nat) : Int) = 2 from rfl)) (by omega) (by omega) (by omega)) ?_
    refine wz_rko (r := (43, _, _)) rfl ?_
    refine wz_i1 (by rw [tsn]; rfl) ?_
    refine wz_i1 (by rw [tsn]; rfl) ?_
    refine wz_i1 (by rw [tsn]; rfl) ?_
    have r94 := zI_xr (n := x0) hZ86I
    have q95 := (zu_ne (k' := 200) (b' := x0) (i' := 0) (j' := 2) hZ86 (fun q => absurd q.1 (by decide))).trans ((zu_ne (k' := 200) (b' := x0) (i' := 0) (j' := 2) hZ76 (fun q => absurd q.1 (by decide))).trans ((zu_ne (k' := 200) (b' := x0) (i' := 0) (j' := 2) hZ68 (fun q => absurd q.1 (by decide))).trans ((zu_ne (k' := 200) (b' := x0) (i' := 0) (j' := 2) hZ58 (fun q => absurd q.1 (by decide))).trans ((zu_ne (k' := 200) (b' := x0) (i' := 0) (j' := 2) hZ50 (fun q => absurd q.1 (by decide))).trans ((zu_ne (k' := 200) (b' := x0) (i' := 0) (j' := 2) hZ40 (fun q => absurd q.1 (by decide))).trans (zu_ne (k' := 200) (b' := x0) (i' := 0) (j' := 2) hZ32 (fun q => absurd q.1 (by decide))))))))
    obtain ⟨Z96, hZ96⟩ := zx (zu Z86 200 x0 0 2 (((25173 * (Z86 200 x0 0 2)) + 13849) % 65536))
    replace hP := zl_e hP hZ96
    have hZ96I := zI_x hZ86I hZ96 (by omega)
    have t97 : Z96 11 hb 0 3 = Z86 11 hb 0 3 := zu_ne hZ96 (fun q => absurd q.1 (by decide))
    have t98 : Z96 11 hb 0 4 = Z86 11 hb 0 4 := zu_ne hZ96 (fun q => absurd q.1 (by decide))
    have t99 : Z96 11 hb 0 5 = Z86 11 hb 0 5 := zu_ne hZ96 (fun q => absurd q.1 (by decide))
    have t100 : Z96 11 hb 0 7 = Z86 11 hb 0 7 := zu_ne hZ96 (fun q => absurd q.1 (by decide))
    have t101 : Z96 11 hb 0 8 = Z86 11 hb 0 8 := zu_ne hZ96 (fun q => absurd q.1 (by decide))
    have t102 : Z96 11 hb 0 9 = Z86 11 hb 0 9 := zu_ne hZ96 (fun q => absurd q.1 (by decide))
    have t103 : Z96 11 hb 0 2 = Z86 11 hb 0 2 := zu_ne hZ96 (fun q => absurd q.1 (by decide))
    have hZ96K := zK_u hZ86K hZ96 (by decide)
    intro μ9 e9
    replace e9 := e9.trans (zm_wI (Z := Z86) (ν := ν) hZ96 (rfl : ((x0 : Nat) : Int) = x0) (show ((0 : Nat) : Int) = 0 from rfl) (show ((2 : Nat) : Int) = 2 from rfl) (i3R (i3A (i3M (show (25173 : Int32) = i3 25173 from rfl) (zm_rd (Z := Z86) (ν := ν) (k := 200) (rfl : ((x0 : Nat) : Int) = x0) (show ((0 : Nat) : Int) = 0 from rfl) (show ((2 : Nat) : Int) = 2 from rfl))) (show (13849 : Int32) = i3 13849 from rfl)) (show (65536 : Int32) = i3 65536 from rfl) (by omega) (by omega) (by omega) (by omega)))
    subst e9
    refine wz_i1 (by rw [tsn]; rfl) ?_
    refine wz_i1 rfl ?_
    refine wz_i0 (i3O (n := 11) (show (3 : Int32) = i3 3 from rfl) (by omega) (by omega) (by omega)) ?_
    have r104 := zI_xr (n := x0) hZ96I
    have q105 := zu_at hZ96
    obtain ⟨Z106, hZ106⟩ := zx (zu Z96 43 hb (Z76 11 hb 0 2) 3 (((Z96 200 x0 0 2) / 16) % 41))
    replace hP := zl_e hP hZ106
    have hZ106I := zI_u hZ96I hZ106 (lo := 0) (hi := 40) (by decide) rfl (by omega) ⟨by decide, by decide⟩ (Or.inl (by decide))
    have t107 : Z106 11 hb 0 3 = Z96 11 hb 0 3 := zu_ne hZ106 (fun q => absurd q.1 (by decide))
    have t108 : Z106 11 hb 0 4 = Z96 11 hb 0 4 := zu_ne hZ106 (fun q => absurd q.1 (by decide))
    have t109 : Z106 11 hb 0 5 = Z96 11 hb 0 5 := zu_ne hZ106 (fun q => absurd q.1 (by decide))
    have t110 : Z106 11 hb 0 7 = Z96 11 hb 0 7 := zu_ne hZ106 (fun q => absurd q.1 (by decide))
    have t111 : Z106 11 hb 0 8 = Z96 11 hb 0 8 := zu_ne hZ106 (fun q => absurd q.1 (by decide))
    have t112 : Z106 11 hb 0 9 = Z96 11 hb 0 9 := zu_ne hZ106 (fun q => absurd q.1 (by decide))
    have t113 : Z106 11 hb 0 2 = Z96 11 hb 0 2 := zu_ne hZ106 (fun q => absurd q.1 (by decide))
    have hZ106K := zK_u hZ96K hZ106 (by decide)
    intro μ9 e9
    replace e9 := e9.trans (zm_wI (Z := Z96) (ν := ν) hZ106 (rfl : ((hb : Nat) : Int) = hb) (i3I (y := (Z76 11 hb 0 2)) (zm_rd (Z := Z76) (ν := ν) (k := 11) (rfl : ((hb : Nat) : Int) = hb) (show ((0 : Nat) : Int) = 0 from rfl) (show ((2 : Nat) : Int) = 2 from rfl)) (by omega) (by omega) (by omega)) (show ((3 : Nat) : Int) = 3 from rfl) (i3R (i3D (zm_rd (Z := Z96) (ν := ν) (k := 200) (rfl : ((x0 : Nat) : Int) = x0) (show ((0 : Nat) : Int) = 0 from rfl) (show ((2 : Nat) : Int) = 2 from rfl)) (show (16 : Int32) = i3 16 from rfl) (by omega) (by omega) (by omega) (by omega)) (show (41 : Int32) = i3 41 from rfl) (by omega) (by omega) (by omega) (by omega)))
    subst e9
    refine wz_i1 (by rw [tsn]; rfl) ?_
    refine wz_rko (rsn _) ?_
    refine wz_i1 rfl ?_
    refine wz_rko (r := (23, _, _)) rfl ?_
    refine wz_i1 rfl ?_
    refine wz_i0 (i3O (n := 6) (zm_rd (Z := Z76) (ν := ν) (k := 11) (rfl : ((hb : Nat) : Int) = hb) (show ((0 : Nat) : Int) = 0 from rfl) (show ((2 : Nat) : Int) = 2 from rfl)) (by omega) (by omega) (by omega)) ?_
    refine wz_rko (r := (43, _, _)) rfl ?_
    refine wz_i1 (by rw [tsn]; rfl) ?_
    refine wz_i1 (by rw [tsn]; rfl) ?_
    refine wz_i1 (by rw [tsn]; rfl) ?_
    have r114 := zI_xr (n := x0) hZ106I
    have q115 := zu_ne (k' := 200) (b' := x0) (i' := 0) (j' := 2) hZ106 (fun q => absurd q.1 (by decide))
    obtain ⟨Z116, hZ116⟩ := zx (zu Z106 200 x0 0 2 (((25173 * (Z106 200 x0 0 2)) + 13849) % 65536))
    replace hP := zl_e hP hZ116
    have hZ116I := zI_x hZ106I hZ116 (by omega)
    have t117 : Z116 11 hb 0 3 = Z106 11 hb 0 3 := zu_ne hZ116 (fun q => absurd q.1 (by decide))
    have t118 : Z116 11 hb 0 4 = Z106 11 hb 0 4 := zu_ne hZ116 (fun q => absurd q.1 (by decide))
    have t119 : Z116 11 hb 0 5 = Z106 11 hb 0 5 := zu_ne hZ116 (fun q => absurd q.1 (by decide))
    have t120 : Z116 11 hb 0 7 = Z106 11 hb 0 7 := zu_ne hZ116 (fun q => absurd q.1 (by decide))
    have t121 : Z116 11 hb 0 8 = Z106 11 hb 0 8 := zu_ne hZ116 (fun q => absurd q.1 (by decide))
    have t122 : Z116 11 hb 0 9 = Z106 11 hb 0 9 := zu_ne hZ116 (fun q => absurd q.1 (by decide))
    have t123 : Z116 11 hb 0 2 = Z106 11 hb 0 2 := zu_ne hZ116 (fun q => absurd q.1 (by decide))
    have hZ116K := zK_u hZ106K hZ116 (by decide)
    intro μ9 e9
    replace e9 := e9.trans (zm_wI (Z := Z106) (ν := ν) hZ116 (rfl : ((x0 : Nat) : Int) = x0) (show ((0 : Nat) : Int) = 0 from rfl) (show ((2 : Nat) : Int) = 2 from rfl) (i3R (i3A (i3M (show (25173 : Int32) = i3 25173 from rfl) (zm_rd (Z := Z106) (ν := ν) (k := 200) (rfl : ((x0 : Nat) : Int) = x0) (show ((0 : Nat) : Int) = 0 from rfl) (show ((2 : Nat) : Int) = 2 from rfl))) (show (13849 : Int32) = i3 13849 from rfl)) (show (65536 : Int32) = i3 65536 from rfl) (by omega) (by omega) (by omega) (by omega)))
    subst e9
    refine wz_i1 (by rw [tsn]; rfl) ?_
    refine wz_i1 rfl ?_
    refine wz_i0 (i3O (n := 11) (show (4 : Int32) = i3 4 from rfl) (by omega) (by omega) (by omega)) ?_
    have r124 := zI_xr (n := x0) hZ116I
    have q125 := zu_at hZ116
    obtain ⟨Z126, hZ126⟩ := zx (zu Z116 43 hb (Z76 11 hb 0 2) 4 (((Z116 200 x0 0 2) / 16) % 2))
    replace hP := zl_e hP hZ126
    have hZ126I := zI_u hZ116I hZ126 (lo := 0) (hi := 1) (by decide) rfl (by omega) ⟨by decide, by decide⟩ (Or.inl (by decide))
    have t127 : Z126 11 hb 0 3 = Z116 11 hb 0 3 := zu_ne hZ126 (fun q => absurd q.1 (by decide))
    have t128 : Z126 11 hb 0 4 = Z116 11 hb 0 4 := zu_ne hZ126 (fun q => absurd q.1 (by decide))
    have t129 : Z126 11 hb 0 5 = Z116 11 hb 0 5 := zu_ne hZ126 (fun q => absurd q.1 (by decide))
    have t130 : Z126 11 hb 0 7 = Z116 11 hb 0 7 := zu_ne hZ126 (fun q => absurd q.1 (by decide))
    have t131 : Z126 11 hb 0 8 = Z116 11 hb 0 8 := zu_ne hZ126 (fun q => absurd q.1 (by decide))
    have t132 : Z126 11 hb 0 9 = Z116 11 hb 0 9 := zu_ne hZ126 (fun q => absurd q.1 (by decide))
    have t133 : Z126 11 hb 0 2 = Z116 11 hb 0 2 := zu_ne hZ126 (fun q => absurd q.1 (by decide))
    have hZ126K := zK_u hZ116K hZ126 (by decide)
    intro μ9 e9
    replace e9 := e9.trans (zm_wI (Z := Z116) (ν := ν) hZ126 (rfl : ((hb : Nat) : Int) = hb) (i3I (y := (Z76 11 hb 0 2)) (zm_rd (Z := Z76) (ν := ν) (k := 11) (rfl : ((hb : Nat) : Int) = hb) (show ((0 : Nat) : Int) = 0 from rfl) (show ((2 : Nat) : Int) = 2 from rfl)) (by omega) (by omega) (by omega)) (show ((4 : Nat) : Int) = 4 from rfl) (i3R (i3D (zm_rd (Z := Z116) (ν := ν) (k := 200) (rfl : ((x0 : Nat) : Int) = x0) (show ((0 : Nat) : Int) = 0 from rfl) (show ((2 : Nat) : Int) = 2 from rfl)) (show (16 : Int32) = i3 16 from rfl) (by omega) (by omega) (by omega) (by omega)) (show (2 : Int32) = i3 2 from rfl) (by omega) (by omega) (by omega) (by omega)))
    subst e9
    obtain ⟨m2, rfl⟩ : ∃ m2, m = m2 + 1 := ⟨m - 1, by omega⟩
    exact wz_k1 ⟨m2, by omega, Z126, (x2 + 1), (zconso rfl (zconso (zvo (rfl : i3 x1 = i3 x1)) (zconso (zvo (i3A (rfl : i3 x2 = i3 x2) (show (1 : Int32) = i3 1 from rfl))) (zconso rfl rfl)))), rfl, hZ126I, hZ126K, by omega, by omega, by omega, by omega, by omega, by omega, by omega, by omega, by omega,  hP⟩

