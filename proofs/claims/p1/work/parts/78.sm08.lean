/-! a season told, m (printed by season.py) -/
/- yX12_iSeason -/
def zl_370_1 (x1 : Int) (x2 : Int) (x4 : Int) : Nat → qz_Z → Int → Int → qz_Z × Int × Int
  | 0, Z, x5, x6 => (Z, x5, x6)
  | m + 1, Z, x5, x6 => (if x4 ≤ x6 then (Z, x5, x6) else (zlet (zu Z 1 0 0 3 (((25173 * (Z 1 0 0 3)) + 13849) % 65536)) (fun Z3 => (if (Z3 2 0 0 1200) ≤ (((Z3 1 0 0 3) / 16) % ((Z 2 0 0 1200) + 1)) then zl_370_1 x1 x2 x4 m Z3 (w3 ((w3 (10 * x5)) + 7)) (x6 + 1) else zl_370_1 x1 x2 x4 m Z3 (w3 ((w3 (10 * x5)) + ((((Z3 1 0 0 3) / 16) % ((Z 2 0 0 1200) + 1)) + 1))) (x6 + 1)))))
theorem sl_370_1 {s : zS} {Zs Z : qz_Z} {ν : qz_N} (hZ : zI s Z) (hK : zK [1] Zs Z) {x1 : Int} (gx1 : 1 ≤ x1 ∧ x1 ≤ 2) {x2 : Int} (gx2 : 0 ≤ x2 ∧ x2 ≤ 1) {x4 : Int} (gx4 : 0 ≤ x4 ∧ x4 ≤ 6) {x5 : Int} (gx5 : -2147483648 ≤ x5 ∧ x5 ≤ 2147483647) {x6 : Int} (gx6 : 0 ≤ x6 ∧ x6 ≤ 6) {kc0 : Int} {kc1 : Int} (gr0 : Z 2 0 0 102 = kc0) (gr1 : Z 2 0 0 3500 = kc1) {k : wz_K} {R : wz_R} {L : qz_L} (hL : qz_fg [true, true, true, false, true, true, true] L = [some (.inr (.inr (some (1, 0, 0)))), some (.inl (i3 x1)), some (.inl (i3 x2)), none, some (.inl (i3 x4)), some (.inl (i3 x5)), some (.inl (i3 x6))]) {T : qz_Z × Int × Int} (hP : zE T (zl_370_1 x1 x2 x4 ((6 - x6).toNat + 1) Z x5 x6)) (hk : ∀ (L9 : qz_L) (Z9 : qz_Z) (yx5 yx6 : Int), qz_fg [true, true, true, false, false, true, false] L9 = [some (.inr (.inr (some (1, 0, 0)))), some (.inl (i3 x1)), some (.inl (i3 x2)), none, none, some (.inl (i3 yx5)), none] → zI s Z9 → zK [1] Zs Z9 → (-2147483648 ≤ yx5 ∧ yx5 ≤ 2147483647) → (0 ≤ yx6 ∧ yx6 ≤ 6) → (Z9 2 0 0 102 = kc0) → (Z9 2 0 0 3500 = kc1) → zE T ((Z9, yx5, yx6)) → k 0 (L9, [], zm Z9 ν)) : wz_loop qb_370_1 65536 k R (L, [], zm Z ν) := by
  refine wz_lp sb_370_1 (fun m x => ∃ Z : qz_Z, ∃ x5 : Int, ∃ x6 : Int, qz_fg [true, true, true, false, true, true, true] x.1 = [some (.inr (.inr (some (1, 0, 0)))), some (.inl (i3 x1)), some (.inl (i3 x2)), none, some (.inl (i3 x4)), some (.inl (i3 x5)), some (.inl (i3 x6))] ∧ x.2 = ([], zm Z ν) ∧ zI s Z ∧ zK [1] Zs Z ∧ m = (6 - x6).toNat ∧ (-2147483648 ≤ x5 ∧ x5 ≤ 2147483647) ∧ (0 ≤ x6 ∧ x6 ≤ 6) ∧ (Z 2 0 0 102 = kc0) ∧ (Z 2 0 0 3500 = kc1) ∧ zE T (zl_370_1 x1 x2 x4 (m + 1) Z x5 x6)) ?_ 65536 ((6 - x6).toNat) _ (by omega) ⟨Z, x5, x6, hL, rfl, hZ, hK, rfl, gx5, gx6, gr0, gr1, hP⟩
  clear hP gr0 gr1 gx5 gx6 hZ hK hL
  clear x5 x6
  clear Z
  rintro m ⟨L, st, μ⟩ ⟨Z, x5, x6, hL, hx, hZ, hK, hm, gx5, gx6, gr0, gr1, hP⟩
  cases hx
  refine fb_370_1 (i3 x1) (i3 x2) (i3 x4) (i3 x5) (i3 x6) _ _ _ _ hL ?_
  refine wz_br (i3Le (rfl : i3 x4 = i3 x4) (rfl : i3 x6 = i3 x6) (by omega) (by omega) (by omega) (by omega)) (fun h1 => ?_) (fun h1 => ?_)
  · replace hP := zE_p hP h1
    exact hk _ _ _ _ (zconso rfl (zconso (zvo (rfl : i3 x1 = i3 x1)) (zconso (zvo (rfl : i3 x2 = i3 x2)) (zconso rfl (zconso rfl (zconso (zvo (rfl : i3 x5 = i3 x5)) (zconso rfl rfl))))))) hZ hK (by omega) (by omega) (by omega) (by omega) hP
  · replace hP := zE_n hP h1
    have r2 := zI_k hZ 1 0 0 3 (lo := 0) (hi := 65535) (by decide) rfl
    obtain ⟨Z3, hZ3⟩ := zx (zu Z 1 0 0 3 (((25173 * (Z 1 0 0 3)) + 13849) % 65536))
    replace hP := zl_e hP hZ3
    have hZ3I := zI_u hZ hZ3 (lo := 0) (hi := 65535) (by decide) rfl (by omega) ⟨by decide, by decide⟩ (Or.inr (by decide))
    have t4 : Z3 2 0 0 102 = Z 2 0 0 102 := zu_ne hZ3 (fun q => absurd q.1 (by decide))
    have t5 : Z3 2 0 0 3500 = Z 2 0 0 3500 := zu_ne hZ3 (fun q => absurd q.1 (by decide))
    have hZ3K := zK_u hK hZ3 (by decide)
    intro μ9 e9
    replace e9 := e9.trans (zm_wI (Z := Z) (ν := ν) hZ3 (show ((0 : Nat) : Int) = 0 from rfl) (show ((0 : Nat) : Int) = 0 from rfl) (show ((3 : Nat) : Int) = 3 from rfl) (i3R (i3A (i3M (show (25173 : Int32) = i3 25173 from rfl) (zm_rd (Z := Z) (ν := ν) (k := 1) (show ((0 : Nat) : Int) = 0 from rfl) (show ((0 : Nat) : Int) = 0 from rfl) (show ((3 : Nat) : Int) = 3 from rfl))) (show (13849 : Int32) = i3 13849 from rfl)) (show (65536 : Int32) = i3 65536 from rfl) (by omega) (by omega) (by omega) (by omega)))
    subst e9
    have r6 := zI_k hZ 2 0 0 1200 (lo := 0) (hi := 6) (by decide) rfl
    refine wz_i0 (i3N0 (i3A (zm_rd (Z := Z) (ν := ν) (k := 2) (show ((0 : Nat) : Int) = 0 from rfl) (show ((0 : Nat) : Int) = 0 from rfl) (show ((1200 : Nat) : Int) = 1200 from rfl)) (show (1 : Int32) = i3 1 from rfl)) (by omega) (by omega) (by omega)) ?_
    have r7 := zI_k hZ3I 2 0 0 1200 (lo := 0) (hi := 6) (by decide) rfl
    have q8 := zu_ne (k' := 2) (b' := 0) (i' := 0) (j' := 1200) hZ3 (fun q => absurd q.1 (by decide))
    have r9 := zI_k hZ3I 1 0 0 3 (lo := 0) (hi := 65535) (by decide) rfl
    have q10 := zu_at hZ3
    have r11 := z_mod ((Z3 1 0 0 3) / 16) (y := ((Z 2 0 0 1200) + 1)) (by omega)
    refine wz_br (i3Le (zm_rd (Z := Z3) (ν := ν) (k := 2) (show ((0 : Nat) : Int) = 0 from rfl) (show ((0 : Nat) : Int) = 0 from rfl) (show ((1200 : Nat) : Int) = 1200 from rfl)) (i3R (i3D (zm_rd (Z := Z3) (ν := ν) (k := 1) (show ((0 : Nat) : Int) = 0 from rfl) (show ((0 : Nat) : Int) = 0 from rfl) (show ((3 : Nat) : Int) = 3 from rfl)) (show (16 : Int32) = i3 16 from rfl) (by omega) (by omega) (by omega) (by omega)) (i3A (zm_rd (Z := Z) (ν := ν) (k := 2) (show ((0 : Nat) : Int) = 0 from rfl) (show ((0 : Nat) : Int) = 0 from rfl) (show ((1200 : Nat) : Int) = 1200 from rfl)) (show (1 : Int32) = i3 1 from rfl)) (by omega) (by omega) (by omega) (by omega)) (by omega) (by omega) (by omega) (by omega)) (fun h12 => ?_) (fun h12 => ?_)
    · replace hP := zE_p hP h12
      have r13 := w3_r (10 * x5)
      have r14 := w3_r ((w3 (10 * x5)) + 7)
      obtain ⟨m2, rfl⟩ : ∃ m2, m = m2 + 1 := ⟨m - 1, by omega⟩
      exact wz_k1 ⟨m2, by omega, Z3, (w3 ((w3 (10 * x5)) + 7)), (x6 + 1), (zconso rfl (zconso (zvo (rfl : i3 x1 = i3 x1)) (zconso (zvo (rfl : i3 x2 = i3 x2)) (zconso rfl (zconso (zvo (rfl : i3 x4 = i3 x4)) (zconso (zvo (i3W (i3A (i3W (i3M (show (10 : Int32) = i3 10 from rfl) (rfl : i3 x5 = i3 x5))) (show (7 : Int32) = i3 7 from rfl)))) (zconso (zvo (i3A (rfl : i3 x6 = i3 x6) (show (1 : Int32) = i3 1 from rfl))) rfl))))))), rfl, hZ3I, hZ3K, by omega, by omega, by omega, by omega, by omega,  hP⟩
    · replace hP := zE_n hP h12
      have r15 := w3_r (10 * x5)
      have r16 := w3_r ((w3 (10 * x5)) + ((((Z3 1 0 0 3) / 16) % ((Z 2 0 0 1200) + 1)) + 1))
      obtain ⟨m2, rfl⟩ : ∃ m2, m = m2 + 1 := ⟨m - 1, by omega⟩
      exact wz_k1 ⟨m2, by omega, Z3, (w3 ((w3 (10 * x5)) + ((((Z3 1 0 0 3) / 16) % ((Z 2 0 0 1200) + 1)) + 1))), (x6 + 1), (zconso rfl (zconso (zvo (rfl : i3 x1 = i3 x1)) (zconso (zvo (rfl : i3 x2 = i3 x2)) (zconso rfl (zconso (zvo (rfl : i3 x4 = i3 x4)) (zconso (zvo (i3W (i3A (i3W (i3M (show (10 : Int32) = i3 10 from rfl) (rfl : i3 x5 = i3 x5))) (i3A (i3R (i3D (zm_rd (Z := Z3) (ν := ν) (k := 1) (show ((0 : Nat) : Int) = 0 from rfl) (show ((0 : Nat) : Int) = 0 from rfl) (show ((3 : Nat) : Int) = 3 from rfl)) (show (16 : Int32) = i3 16 from rfl) (by omega) (by omega) (by omega) (by omega)) (i3A (zm_rd (Z := Z) (ν := ν) (k := 2) (show ((0 : Nat) : Int) = 0 from rfl) (show ((0 : Nat) : Int) = 0 from rfl) (show ((1200 : Nat) : Int) = 1200 from rfl)) (show (1 : Int32) = i3 1 from rfl)) (by omega) (by omega) (by omega) (by omega)) (show (1 : Int32) = i3 1 from rfl))))) (zconso (zvo (i3A (rfl : i3 x6 = i3 x6) (show (1 : Int32) = i3 1 from rfl))) rfl))))))), rfl, hZ3I, hZ3K, by omega, by omega, by omega, by omega, by omega,  hP⟩

/- yX12_iSeason -/
def zl_370_3 (x1 : Int) : Nat → qz_Z → Int → qz_Z × Int
  | 0, Z, x2 => (Z, x2)
  | m + 1, Z, x2 => (if x1 ≤ x2 then (Z, x2) else (zlet (zu Z 1 0 0 3 (((25173 * (Z 1 0 0 3)) + 13849) % 65536)) (fun Z3 => (zlet (zu Z3 1 0 0 3 (((25173 * (Z3 1 0 0 3)) + 13849) % 65536)) (fun Z8 => (zlet2 (zf_359 Z8 (((Z3 1 0 0 3) / 16) % 19) (((Z8 1 0 0 3) / 16) % 4)) (fun Z14 v13 => (zlet (zu Z14 1 0 0 3 (((25173 * (Z14 1 0 0 3)) + 13849) % 65536)) (fun Z17 => (zlet (zu Z17 2 0 0 (3522 + 10 * x2) (((Z17 1 0 0 3) / 16) % 128)) (fun Z22 => (zlet (zu Z22 1 0 0 3 (((25173 * (Z22 1 0 0 3)) + 13849) % 65536)) (fun Z27 => (zlet3 (zl_370_1 x1 x2 (((Z27 1 0 0 3) / 16) % 7) 7 Z27 0 0) (fun Z34 y32 y33 => (zlet (zu Z34 2 0 0 (3523 + 10 * x2) y32) (fun Z36 => zl_370_3 x1 m Z36 (x2 + 1))))))))))))))))))
theorem sl_370_3 {s : zS} {Zs Z : qz_Z} {ν : qz_N} (hZ : zI s Z) (hK : zK [1, 2] Zs Z) {x1 : Int} (gx1 : 0 ≤ x1 ∧ x1 ≤ 2) {x2 : Int} (gx2 : 0 ≤ x2 ∧ x2 ≤ 2) {kc0 : Int} (gr0 : Z 2 0 0 3500 = x2) (gr1 : Z 2 0 0 102 = kc0) {k : wz_K} {R : wz_R} {L : qz_L} (hL : qz_fg [true, true, true, false, false, false, false] L = [some (.inr (.inr (some (1, 0, 0)))), some (.inl (i3 x1)), some (.inl (i3 x2)), none, none, none, none]) {T : qz_Z × Int} (hP : zE T (zl_370_3 x1 ((2 - x2).toNat + 1) Z x2)) (hk : ∀ (L9 : qz_L) (Z9 : qz_Z) (yx2 : Int), qz_fg [false, false, false, false, false, false, false] L9 = [none, none, none, none, none, none, none] → zI s Z9 → zK [1, 2] Zs Z9 → (0 ≤ yx2 ∧ yx2 ≤ 2) → (Z9 2 0 0 3500 = yx2) → (Z9 2 0 0 102 = kc0) → zE T ((Z9, yx2)) → k 0 (L9, [], zm Z9 ν)) : wz_loop qb_370_3 65536 k R (L, [], zm Z ν) := by
  refine wz_lp sb_370_3 (fun m x => ∃ Z : qz_Z, ∃ x2 : Int, qz_fg [true, true, true, false, false, false, false] x.1 = [some (.inr (.inr (some (1, 0, 0)))), some (.inl (i3 x1)), some (.inl (i3 x2)), none, none, none, none] ∧ x.2 = ([], zm Z ν) ∧ zI s Z ∧ zK [1, 2] Zs Z ∧ m = (2 - x2).toNat ∧ (0 ≤ x2 ∧ x2 ≤ 2) ∧ (Z 2 0 0 3500 = x2) ∧ (Z 2 0 0 102 = kc0) ∧ zE T (zl_370_3 x1 (m + 1) Z x2)) ?_ 65536 ((2 - x2).toNat) _ (by omega) ⟨Z, x2, hL, rfl, hZ, hK, rfl, gx2, gr0, gr1, hP⟩
  clear hP gr0 gr1 gx2 hZ hK hL
  clear x2
  clear Z
  rintro m ⟨L, st, μ⟩ ⟨Z, x2, hL, hx, hZ, hK, hm, gx2, gr0, gr1, hP⟩
  cases hx
  refine fb_370_3 (i3 x1) (i3 x2) _ _ _ _ hL ?_
  refine wz_br (i3Le (rfl : i3 x1 = i3 x1) (rfl : i3 x2 = i3 x2) (by omega) (by omega) (by omega) (by omega)) (fun h1 => ?_) (fun h1 => ?_)
  · replace hP := zE_p hP h1
    exact hk _ _ _ (zconso rfl (zconso rfl (zconso rfl (zconso rfl (zconso rfl (zconso rfl (zconso rfl rfl))))))) hZ hK (by omega) (by omega) (by omega) hP
  · replace hP := zE_n hP h1
    have r2 := zI_k hZ 1 0 0 3 (lo := 0) (hi := 65535) (by decide) rfl
    obtain ⟨Z3, hZ3⟩ := zx (zu Z 1 0 0 3 (((25173 * (Z 1 0 0 3)) + 13849) % 65536))
    replace hP := zl_e hP hZ3
    have hZ3I := zI_u hZ hZ3 (lo := 0) (hi := 65535) (by decide) rfl (by omega) ⟨by decide, by decide⟩ (Or.inr (by decide))
    have t4 : Z3 2 0 0 102 = Z 2 0 0 102 := zu_ne hZ3 (fun q => absurd q.1 (by decide))
    have t5 : Z3 2 0 0 3500 = Z 2 0 0 3500 := zu_ne hZ3 (fun q => absurd q.1 (by decide))
    have hZ3K := zK_u hK hZ3 (by decide)
    intro μ9 e9
    replace e9 := e9.trans (zm_wI (Z := Z) (ν := ν) hZ3 (show ((0 : Nat) : Int) = 0 from rfl) (show ((0 : Nat) : Int) = 0 from rfl) (show ((3 : Nat) : Int) = 3 from rfl) (i3R (i3A (i3M (show (25173 : Int32) = i3 25173 from rfl) (zm_rd (Z := Z) (ν := ν) (k := 1) (show ((0 : Nat) : Int) = 0 from rfl) (show ((0 : Nat) : Int) = 0 from rfl) (show ((3 : Nat) : Int) = 3 from rfl))) (show (13849 : Int32) = i3 13849 from rfl)) (show (65536 : Int32) = i3 65536 from rfl) (by omega) (by omega) (by omega) (by omega)))
    subst e9
    have r6 := zI_k hZ3I 1 0 0 3 (lo := 0) (hi := 65535) (by decide) rfl
    have q7 := zu_at hZ3
    obtain ⟨Z8, hZ8⟩ := zx (zu Z3 1 0 0 3 (((25173 * (Z3 1 0 0 3)) + 13849) % 65536))
    replace hP := zl_e hP hZ8
    have hZ8I := zI_u hZ3I hZ8 (lo := 0) (hi := 65535) (by decide) rfl (by omega) ⟨by decide, by decide⟩ (Or.inr (by decide))
    have t9 : Z8 2 0 0 102 = Z3 2 0 0 102 := zu_ne hZ8 (fun q => absurd q.1 (by decide))
    have t10 : Z8 2 0 0 3500 = Z3 2 0 0 3500 := zu_ne hZ8 (fun q => absurd q.1 (by decide))
    have hZ8K := zK_u hZ3K hZ8 (by decide)
    intro μ9 e9
    replace e9 := e9.trans (zm_wI (Z := Z3) (ν := ν) hZ8 (show ((0 : Nat) : Int) = 0 from rfl) (show ((0 : Nat) : Int) = 0 from rfl) (show ((3 : Nat) : Int) = 3 from rfl) (i3R (i3A (i3M (show (25173 : Int32) = i3 25173 from rfl) (zm_rd (Z := Z3) (ν := ν) (k := 1) (show ((0 : Nat) : Int) = 0 from rfl) (show ((0 : Nat) : Int) = 0 from rfl) (show ((3 : Nat) : Int) = 3 from rfl))) (show (13849 : Int32) = i3 13849 from rfl)) (show (65536 : Int32) = i3 65536 from rfl) (by omega) (by omega) (by omega) (by omega)))
    subst e9
    have r11 := zI_k hZ8I 1 0 0 3 (lo := 0) (hi := 65535) (by decide) rfl
    have q12 := zu_at hZ8
    obtain ⟨Z14, v13, hv13, c9, hZ14I, kZ14, lv13, uv13, wv130, wv131⟩ := sp_359 (ν := ν) hZ8I (a1 := (((Z3 1 0 0 3) / 16) % 19)) (by omega) (a2 := (((Z8 1 0 0 3) / 16) % 4)) (by omega) (by omega)
    have hZ14K : zK [1, 2] Zs Z14 := zK_t hZ8K kZ14 (by decide)
    replace hP := zl_e2 hP hv13
    refine wz_cI_of (zas (zcons rfl (zcons (zvi (i3R (i3D (zm_rd (Z := Z3) (ν := ν) (k := 1) (show ((0 : Nat) : Int) = 0 from rfl) (show ((0 : Nat) : Int) = 0 from rfl) (show ((3 : Nat) : Int) = 3 from rfl)) (show (16 : Int32) = i3 16 from rfl) (by omega) (by omega) (by omega) (by omega)) (show (19 : Int32) = i3 19 from rfl) (by omega) (by omega) (by omega) (by omega))) (zcons (zvi (i3R (i3D (zm_rd (Z := Z8) (ν := ν) (k := 1) (show ((0 : Nat) : Int) = 0 from rfl) (show ((0 : Nat) : Int) = 0 from rfl) (show ((3 : Nat) : Int) = 3 from rfl)) (show (16 : Int32) = i3 16 from rfl) (by omega) (by omega) (by omega) (by omega)) (show (4 : Int32) = i3 4 from rfl) (by omega) (by omega) (by omega) (by omega))) rfl))) c9) ?_
    clear c9 hv13
    have r15 := zI_k hZ14I 1 0 0 3 (lo := 0) (hi := 65535) (by decide) rfl
    have q16 := kZ14 1 (by decide) 0 0 3
    obtain ⟨Z17, hZ17⟩ := zx (zu Z14 1 0 0 3 (((25173 * (Z14 1 0 0 3)) + 13849) % 65536))
    replace hP := zl_e hP hZ17
    have hZ17I := zI_u hZ14I hZ17 (lo := 0) (hi := 65535) (by decide) rfl (by omega) ⟨by decide, by decide⟩ (Or.inr (by decide))
    have t18 : Z17 2 0 0 102 = Z14 2 0 0 102 := zu_ne hZ17 (fun q => absurd q.1 (by decide))
    have t19 : Z17 2 0 0 3500 = Z14 2 0 0 3500 := zu_ne hZ17 (fun q => absurd q.1 (by decide))
    have hZ17K := zK_u hZ14K hZ17 (by decide)
    intro μ9 e9
    replace e9 := e9.trans (zm_wI (Z := Z14) (ν := ν) hZ17 (show ((0 : Nat) : Int) = 0 from rfl) (show ((0 : Nat) : Int) = 0 from rfl) (show ((3 : Nat) : Int) = 3 from rfl) (i3R (i3A (i3M (show (25173 : Int32) = i3 25173 from rfl) (zm_rd (Z := Z14) (ν := ν) (k := 1) (show ((0 : Nat) : Int) = 0 from rfl) (show ((0 : Nat) : Int) = 0 from rfl) (show ((3 : Nat) : Int) = 3 from rfl))) (show (13849 : Int32) = i3 13849 from rfl)) (show (65536 : Int32) = i3 65536 from rfl) (by omega) (by omega) (by omega) (by omega)))
    subst e9
    refine wz_i0 (i3O (n := 4400) (i3A (i3A (show (3520 : Int32) = i3 3520 from rfl) (i3M (show (10 : Int32) = i3 10 from rfl) (rfl : i3 x2 = i3 x2))) (show (2 : Int32) = i3 2 from rfl)) (by omega) (by omega) (by omega)) ?_
    have r20 := zI_k hZ17I 1 0 0 3 (lo := 0) (hi := 65535) (by decide) rfl
    have q21 := zu_at hZ17
    obtain ⟨Z22, hZ22⟩ := zx (zu Z17 2 0 0 (3522 + 10 * x2) (((Z17 1 0 0 3) / 16) % 128))
    replace hP := zl_e hP hZ22
    have hZ22I := zI_u hZ17I hZ22 (lo := 0) (hi := 127) (by decide) (zs_3520_2 (x := x2) (by omega) (by omega) (by omega)) (by omega) ⟨by decide, by decide⟩ (Or.inl (by decide))
    have t23 : Z22 2 0 0 102 = Z17 2 0 0 102 := zu_ne hZ22 (by omega)
    have t24 : Z22 2 0 0 3500 = Z17 2 0 0 3500 := zu_ne hZ22 (by omega)
    have hZ22K := zK_u hZ17K hZ22 (by decide)
    intro μ9 e9
    replace e9 := e9.trans (zm_wI (Z := Z17) (ν := ν) hZ22 (show ((0 : Nat) : Int) = 0 from rfl) (show ((0 : Nat) : Int) = 0 from rfl) (i3I (y := (3522 + 10 * x2)) (i3A (i3A (show (3520 : Int32) = i3 3520 from rfl) (i3M (show (10 : Int32) = i3 10 from rfl) (rfl : i3 x2 = i3 x2))) (show (2 : Int32) = i3 2 from rfl)) (by omega) (by omega) (by omega)) (i3R (i3D (zm_rd (Z := Z17) (ν := ν) (k := 1) (show ((0 : Nat) : Int) = 0 from rfl) (show ((0 : Nat) : Int) = 0 from rfl) (show ((3 : Nat) : Int) = 3 from rfl)) (show (16 : Int32) = i3 16 from rfl) (by omega) (by omega) (by omega) (by omega)) (show (128 : Int32) = i3 128 from rfl) (by omega) (by omega) (by omega) (by omega)))
    subst e9
    have r25 := zI_k hZ22I 1 0 0 3 (lo := 0) (hi := 65535) (by decide) rfl
    have q26 := zu_ne (k' := 1) (b' := 0) (i' := 0) (j' := 3) hZ22 (fun q => absurd q.1 (by decide))
    obtain ⟨Z27, hZ27⟩ := zx (zu Z22 1 0 0 3 (((25173 * (Z22 1 0 0 3)) + 13849) % 65536))
    replace hP := zl_e hP hZ27
    have hZ27I := zI_u hZ22I hZ27 (lo := 0) (hi := 65535) (by decide) rfl (by omega) ⟨by decide, by decide⟩ (Or.inr (by decide))
    have t28 : Z27 2 0 0 102 = Z22 2 0 0 102 := zu_ne hZ27 (fun q => absurd q.1 (by decide))
    have t29 : Z27 2 0 0 3500 = Z22 2 0 0 3500 := zu_ne hZ27 (fun q => absurd q.1 (by decide))
    have hZ27K := zK_u hZ22K hZ27 (by decide)
    intro μ9 e9
    replace e9 := e9.trans (zm_wI (Z := Z22) (ν := ν) hZ27 (show ((0 : Nat) : Int) = 0 from rfl) (show ((0 : Nat) : Int) = 0 from rfl) (show ((3 : Nat) : Int) = 3 from rfl) (i3R (i3A (i3M (show (25173 : Int32) = i3 25173 from rfl) (zm_rd (Z := Z22) (ν := ν) (k := 1) (show ((0 : Nat) : Int) = 0 from rfl) (show ((0 : Nat) : Int) = 0 from rfl) (show ((3 : Nat) : Int) = 3 from rfl))) (show (13849 : Int32) = i3 13849 from rfl)) (show (65536 : Int32) = i3 65536 from rfl) (by omega) (by omega) (by omega) (by omega)))
    subst e9
    have r30 := zI_k hZ27I 1 0 0 3 (lo := 0) (hi := 65535) (by decide) rfl
    have q31 := zu_at hZ27
    refine sl_370_1 (ν := ν) hZ27I zK_r (x1 := x1) (by omega) (x2 := x2) (by omega) (x4 := (((Z27 1 0 0 3) / 16) % 7)) (by omega) (x5 := 0) (by omega) (x6 := 0) (by omega) (kc1 := Z27 2 0 0 3500) (kc0 := Z27 2 0 0 102) (by omega) (by omega) (zconso rfl (zconso (zvo (rfl : i3 x1 = i3 x1)) (zconso (zvo (rfl : i3 x2 = i3 x2)) (zconso rfl (zconso (zvo (i3R (i3D (zm_rd (Z := Z27) (ν := ν) (k := 1) (show ((0 : Nat) : Int) = 0 from rfl) (show ((0 : Nat) : Int) = 0 from rfl) (show ((3 : Nat) : Int) = 3 from rfl)) (show (16 : Int32) = i3 16 from rfl) (by omega) (by omega) (by omega) (by omega)) (show (7 : Int32) = i3 7 from rfl) (by omega) (by omega) (by omega) (by omega))) (zconso (zvo (show (0 : Int32) = i3 0 from rfl)) (zconso (zvo (show (0 : Int32) = i3 0 from rfl)) rfl))))))) rfl ?_
    intro L35 Z34 y32 y33 hL35 hZ34I kZ34 gy32 gy33 gL35_0 gL35_1 q9
    replace hP := zl_e3 hP (Eq.symm q9)
    clear q9
    have hZ34K : zK [1, 2] Zs Z34 := zK_t hZ27K kZ34 (by decide)
    refine fc_370_2 (i3 x1) (i3 x2) (i3 y32) _ _ _ _ hL35 ?_
    refine wz_i0 (i3O (n := 4400) (i3A (i3A (show (3520 : Int32) = i3 3520 from rfl) (i3M (show (10 : Int32) = i3 10 from rfl) (rfl : i3 x2 = i3 x2))) (show (3 : Int32) = i3 3 from rfl)) (by omega) (by omega) (by omega)) ?_
    obtain ⟨Z36, hZ36⟩ := zx (zu Z34 2 0 0 (3523 + 10 * x2) y32)
    replace hP := zl_e hP hZ36
    have hZ36I := zI_u hZ34I hZ36 (lo := -2147483648) (hi := 2147483647) (by decide) (zs_3520_3 (x := x2) (by omega) (by omega) (by omega)) (by omega) ⟨by decide, by decide⟩ (Or.inl (by decide))
    have t37 : Z36 2 0 0 102 = Z34 2 0 0 102 := zu_ne hZ36 (by omega)
    have t38 : Z36 2 0 0 3500 = Z34 2 0 0 3500 := zu_ne hZ36 (by omega)
    have hZ36K := zK_u hZ34K hZ36 (by decide)
    intro μ9 e9
    replace e9 := e9.trans (zm_wI (Z := Z34) (ν := ν) hZ36 (show ((0 : Nat) : Int) = 0 from rfl) (show ((0 : Nat) : Int) = 0 from rfl) (i3I (y := (3523 + 10 * x2)) (i3A (i3A (show (3520 : Int32) = i3 3520 from rfl) (i3M (show (10 : Int32) = i3 10 from rfl) (rfl : i3 x2 = i3 x2))) (show (3 : Int32) = i3 3 from rfl)) (by omega) (by omega) (by omega)) (rfl : i3 y32 = i3 y32))
    subst e9
    obtain ⟨m2, rfl⟩ : ∃ m2, m = m2 + 1 := ⟨m - 1, by omega⟩
    refine wz_kbs (n := 1) (?_)
    exact wz_k1 ⟨m2, by omega, Z36, (x2 + 1), (zconso rfl (zconso (zvo (rfl : i3 x1 = i3 x1)) (zconso (zvo (i3A (rfl : i3 x2 = i3 x2) (show (1 : Int32) = i3 1 from rfl))) (zconso rfl (zconso rfl (zconso rfl (zconso rfl rfl))))))), rfl, hZ36I, hZ36K, by omega, by omega, by omega, by omega,  hP⟩

/- yX12_iSeason -/
def zf_370 (Z : qz_Z) : qz_Z := (zlet (zu Z 1 0 0 3 (((25173 * (Z 1 0 0 3)) + 13849) % 65536)) (fun Z2 => (zlet2 (zl_370_3 (((Z2 1 0 0 3) / 16) % 3) 3 Z2 0) (fun Z8 y7 => Z8))))
theorem sp_370 {s : zS} {Z : qz_Z} {ν : qz_N} (hZ : zI s Z) (gx0 : Z 2 0 0 3500 = 0) : ∃ P : qz_Z, P = zf_370 Z ∧ (qf_370 [.inr (.inr (some (1, 0, 0)))] (zm Z ν) = some (zm P ν, .inl none) ∧ zI s P ∧ zK [1, 2] Z P ∧ P 2 0 0 102 = Z 2 0 0 102) := by
  obtain ⟨P, hP⟩ := zx (zf_370 Z)
  refine zc_V (Q := fun P => zI s P ∧ zK [1, 2] Z P ∧ P 2 0 0 102 = Z 2 0 0 102) hP (fw_370  _ _ ?_)
  replace hP : zE P (zf_370 Z) := hP
  unfold zf_370 at hP
  have r1 := zI_k hZ 1 0 0 3 (lo := 0) (hi := 65535) (by decide) rfl
  obtain ⟨Z2, hZ2⟩ := zx (zu Z 1 0 0 3 (((25173 * (Z 1 0 0 3)) + 13849) % 65536))
  replace hP := zl_e hP hZ2
  have hZ2I := zI_u hZ hZ2 (lo := 0) (hi := 65535) (by decide) rfl (by omega) ⟨by decide, by decide⟩ (Or.inr (by decide))
  have t3 : Z2 2 0 0 102 = Z 2 0 0 102 := zu_ne hZ2 (fun q => absurd q.1 (by decide))
  have t4 : Z2 2 0 0 3500 = Z 2 0 0 3500 := zu_ne hZ2 (fun q => absurd q.1 (by decide))
  have hZ2K : zK [1, 2] Z Z2 := zK_u zK_r hZ2 (by decide)
  intro μ9 e9
  replace e9 := e9.trans (zm_wI (Z := Z) (ν := ν) hZ2 (show ((0 : Nat) : Int) = 0 from rfl) (show ((0 : Nat) : Int) = 0 from rfl) (show ((3 : Nat) : Int) = 3 from rfl) (i3R (i3A (i3M (show (25173 : Int32) = i3 25173 from rfl) (zm_rd (Z := Z) (ν := ν) (k := 1) (show ((0 : Nat) : Int) = 0 from rfl) (show ((0 : Nat) : Int) = 0 from rfl) (show ((3 : Nat) : Int) = 3 from rfl))) (show (13849 : Int32) = i3 13849 from rfl)) (show (65536 : Int32) = i3 65536 from rfl) (by omega) (by omega) (by omega) (by omega)))
  subst e9
  have r5 := zI_k hZ2I 1 0 0 3 (lo := 0) (hi := 65535) (by decide) rfl
  have q6 := zu_at hZ2
  refine sl_370_3 (ν := ν) hZ2I zK_r (x1 := (((Z2 1 0 0 3) / 16) % 3)) (by omega) (x2 := 0) (by omega) (kc0 := Z2 2 0 0 102) (by omega) (by omega) (zconso rfl (zconso (zvo (i3R (i3D (zm_rd (Z := Z2) (ν := ν) (k := 1) (show ((0 : Nat) : Int) = 0 from rfl) (show ((0 : Nat) : Int) = 0 from rfl) (show ((3 : Nat) : Int) = 3 from rfl)) (show (16 : Int32) = i3 16 from rfl) (by omega) (by omega) (by omega) (by omega)) (show (3 : Int32) = i3 3 from rfl) (by omega) (by omega) (by omega) (by omega))) (zconso (zvo (show (0 : Int32) = i3 0 from rfl)) (zconso rfl (zconso rfl (zconso rfl (zconso rfl rfl))))))) rfl ?_
  intro L9 Z8 y7 hL9 hZ8I kZ8 gy7 gL9_0 gL9_1 q9
  replace hP := zl_e2 hP (Eq.symm q9)
  clear q9
  have hZ8K : zK [1, 2] Z Z8 := zK_t hZ2K kZ8 (by decide)
  refine fc_370_4  _ _ _ _ hL9 ?_
  exact zlV hP ⟨hZ8I, hZ8K, by omega⟩

/- yX12_xSeason -/
def zf_566 (Z : qz_Z) (a1 : Int) (a2 : Int) : qz_Z := (zlet (zu Z 1 0 0 35 1) (fun Z1 => (zlet (zu Z1 1 0 0 3 a1) (fun Z12 => (zlet (zf_328 Z12 a2) (fun Z23 => (zlet (zf_486 Z23) (fun Z24 => (zlet (zf_282q Z24 a2) (fun Z25 => (zlet (zf_308q Z25 a2) (fun Z26 => (zlet (zf_523q Z26 a2) (fun Z27 => (zlet (zf_370 Z27) (fun Z28 => (zlet (zu Z28 1 0 0 35 (Z 1 0 0 35)) (fun Z30 => (zlet (zu Z30 1 0 0 2 0) (fun Z41 => Z41))))))))))))))))))))
theorem sp_566 {s : zS} {Z : qz_Z} {ν : qz_N} (hZ : zI s Z) {a1 : Int} (ga1 : 0 ≤ a1 ∧ a1 ≤ 65535) {a2 : Int} (ga2 : 1 ≤ a2 ∧ a2 ≤ 12) (gx0 : Z 2 0 0 100 = 0) (gx1 : Z 2 0 0 101 = 0) (gx2 : Z 2 0 0 102 = 0) (gx3 : Z 2 0 0 1200 = 0) (gx4 : Z 2 0 0 1400 = 0) (gx5 : Z 2 0 0 3000 = 0) (gx6 : Z 2 0 0 3500 = 0) : ∃ P : qz_Z, P = zf_566 Z a1 a2 ∧ (qf_566 [.inr (.inr (some (1, 0, 0))), .inl (i3 a1), .inl (i3 a2)] (zm Z ν) = some (zm P ν, .inl none) ∧ zI none P ∧ zK [1, 2] Z P ∧ P 2 0 0 102 = a2 ∧ P 1 0 0 2 = 0) := by
  obtain ⟨P, hP⟩ := zx (zf_566 Z a1 a2)
  refine zc_V (Q := fun P => zI none P ∧ zK [1, 2] Z P ∧ P 2 0 0 102 = a2 ∧ P 1 0 0 2 = 0) hP (fw_566 (i3 a1) (i3 a2) _ _ ?_)
  replace hP : zE P (zf_566 Z a1 a2) := hP
  unfold zf_566 at hP
  obtain ⟨Z1, hZ1⟩ := zx (zu Z 1 0 0 35 1)
  replace hP := zl_e hP hZ1
  have hZ1I := zI_q1 hZ hZ1
  have t2 : Z1 2 0 0 100 = Z 2 0 0 100 := zu_ne hZ1 (fun q => absurd q.1 (by decide))
  have t3 : Z1 2 0 0 101 = Z 2 0 0 101 := zu_ne hZ1 (fun q => absurd q.1 (by decide))
  have t4 : Z1 2 0 0 102 = Z 2 0 0 102 := zu_ne hZ1 (fun q => absurd q.1 (by decide))
  have t5 : Z1 2 0 0 1200 = Z 2 0 0 1200 := zu_ne hZ1 (fun q => absurd q.1 (by decide))
  have t6 : Z1 2 0 0 1400 = Z 2 0 0 1400 := zu_ne hZ1 (fun q => absurd q.1 (by decide))
  have t7 : Z1 2 0 0 1401 = Z 2 0 0 1401 := zu_ne hZ1 (fun q => absurd q.1 (by decide))
  have t8 : Z1 2 0 0 3000 = Z 2 0 0 3000 := zu_ne hZ1 (fun q => absurd q.1 (by decide))
  have t9 : Z1 2 0 0 3200 = Z 2 0 0 3200 := zu_ne hZ1 (fun q => absurd q.1 (by decide))
  have t10 : Z1 2 0 0 3500 = Z 2 0 0 3500 := zu_ne hZ1 (fun q => absurd q.1 (by decide))
  have t11 : Z1 1 0 0 2 = Z 1 0 0 2 := zu_ne hZ1 (fun q => absurd q.2.2.2 (by decide))
  have hZ1K : zK [1, 2] Z Z1 := zK_u zK_r hZ1 (by decide)
  intro μ9 e9
  replace e9 := e9.trans (zm_wI (Z := Z) (ν := ν) hZ1 (show ((0 : Nat) : Int) = 0 from rfl) (show ((0 : Nat) : Int) = 0 from rfl) (show ((35 : Nat) : Int) = 35 from rfl) (show (1 : Int32) = i3 1 from rfl))
  subst e9
  obtain ⟨Z12, hZ12⟩ := zx (zu Z1 1 0 0 3 a1)
  replace hP := zl_e hP hZ12
  have hZ12I := zI_u hZ1I hZ12 (lo := 0) (hi := 65535) (by decide) rfl (by omega) ⟨by decide, by decide⟩ (Or.inr (by decide))
  have t13 : Z12 2 0 0 100 = Z1 2 0 0 100 := zu_ne hZ12 (fun q => absurd q.1 (by decide))
  have t14 : Z12 2 0 0 101 = Z1 2 0 0 101 := zu_ne hZ12 (fun q => absurd q.1 (by decide))
  have t15 : Z12 2 0 0 102 = Z1 2 0 0 102 := zu_ne hZ12 (fun q => absurd q.1 (by decide))
  have t16 : Z12 2 0 0 1200 = Z1 2 0 0 1200 := zu_ne hZ12 (fun q => absurd q.1 (by decide))
  have t17 : Z12 2 0 0 1400 = Z1 2 0 0 1400 := zu_ne hZ12 (fun q => absurd q.1 (by decide))
  have t18 : Z12 2 0 0 1401 = Z1 2 0 0 1401 := zu_ne hZ12 (fun q => absurd q.1 (by decide))
  have t19 : Z12 2 0 0 3000 = Z1 2 0 0 3000 := zu_ne hZ12 (fun q => absurd q.1 (by decide))
  have t20 : Z12 2 0 0 3200 = Z1 2 0 0 3200 := zu_ne hZ12 (fun q => absurd q.1 (by decide))
  have t21 : Z12 2 0 0 3500 = Z1 2 0 0 3500 := zu_ne hZ12 (fun q => absurd q.1 (by decide))
  have t22 : Z12 1 0 0 2 = Z1 1 0 0 2 := zu_ne hZ12 (fun q => absurd q.2.2.2 (by decide))
  have hZ12K := zK_u hZ1K hZ12 (by decide)
  intro μ9 e9
  replace e9 := e9.trans (zm_wI (Z := Z1) (ν := ν) hZ12 (show ((0 : Nat) : Int) = 0 from rfl) (show ((0 : Nat) : Int) = 0 from rfl) (show ((3 : Nat) : Int) = 3 from rfl) (rfl : i3 a1 = i3 a1))
  subst e9
  obtain ⟨Z23, hZ23, c9, hZ23I, kZ23, wZ230, wZ231, wZ232, wZ233, wZ234, wZ235, wZ236, wZ237⟩ := sp_328 (ν := ν) hZ12I (a1 := a2) (by omega) (by omega) (by omega) (by omega)
  have hZ23K : zK [1, 2] Z Z23 := zK_t hZ12K kZ23 (by decide)
  replace hP := zl_e hP hZ23
  refine wz_cV_of (zas (zcons rfl (zcons (zvi (rfl : i3 a2 = i3 a2)) rfl)) c9) ?_
  clear c9
  obtain ⟨Z24, hZ24, c9, hZ24I, kZ24, wZ240, wZ241, wZ242, wZ243, wZ244, wZ245, wZ246⟩ := sp_486 (ν := ν) hZ23I (by omega)
  have hZ24K : zK [1, 2] Z Z24 := zK_t hZ23K kZ24 (by decide)
  replace hP := zl_e hP hZ24
  refine wz_cV_of (zas (zcons rfl rfl) c9) ?_
  clear c9
  obtain ⟨Z25, hZ25, c9, hZ25I, kZ25, wZ250, wZ251, wZ252, wZ253, wZ254⟩ := sp_282q (ν := ν) hZ24I (a1 := a2) (by omega) (by omega) (by omega)
  have hZ25K : zK [1, 2] Z Z25 := zK_t hZ24K kZ25 (by decide)
  replace hP := zl_e hP hZ25
  refine wz_cV_of (zas (zcons rfl (zcons (zvi (rfl : i3 a2 = i3 a2)) rfl)) c9) ?_
  clear c9
  obtain ⟨Z26, hZ26, c9, hZ26I, kZ26, wZ260, wZ261, wZ262⟩ := sp_308q (ν := ν) hZ25I (a1 := a2) (by omega) (by omega)
  have hZ26K : zK [1, 2] Z Z26 := zK_t hZ25K kZ26 (by decide)
  replace hP := zl_e hP hZ26
  refine wz_cV_of (zas (zcons rfl (zcons (zvi (rfl : i3 a2 = i3 a2)) rfl)) c9) ?_
  clear c9
  obtain ⟨Z27, hZ27, c9, hZ27I, kZ27, wZ270, wZ271⟩ := sp_523q (ν := ν) hZ26I (a1 := a2) (by omega)
  have hZ27K : zK [1, 2] Z Z27 := zK_t hZ26K kZ27 (by decide)
  replace hP := zl_e hP hZ27
  refine wz_cV_of (zas (zcons rfl (zcons (zvi (rfl : i3 a2 = i3 a2)) rfl)) c9) ?_
  clear c9
  obtain ⟨Z28, hZ28, c9, hZ28I, kZ28, wZ280⟩ := sp_370 (ν := ν) hZ27I (by omega)
  have hZ28K : zK [1, 2] Z Z28 := zK_t hZ27K kZ28 (by decide)
  replace hP := zl_e hP hZ28
  refine wz_cV_of (zas (zcons rfl rfl) c9) ?_
  clear c9
  have r29 := zI_k hZ 1 0 0 35 (lo := 0) (hi := 1) (by decide) rfl
  refine wz_i1 (i3B (zm_rd (Z := Z) (ν := ν) (k := 1) (show ((0 : Nat) : Int) = 0 from rfl) (show ((0 : Nat) : Int) = 0 from rfl) (show ((35 : Nat) : Int) = 35 from rfl)) (by omega)) ?_
  obtain ⟨Z30, hZ30⟩ := zx (zu Z28 1 0 0 35 (Z 1 0 0 35))
  replace hP := zl_e hP hZ30
  have hZ30I := zI_q0 hZ28I hZ30 (by omega)
  have t31 : Z30 2 0 0 100 = Z28 2 0 0 100 := zu_ne hZ30 (fun q => absurd q.1 (by decide))
  have t32 : Z30 2 0 0 101 = Z28 2 0 0 101 := zu_ne hZ30 (fun q => absurd q.1 (by decide))
  have t33 : Z30 2 0 0 102 = Z28 2 0 0 102 := zu_ne hZ30 (fun q => absurd q.1 (by decide))
  have t34 : Z30 2 0 0 1200 = Z28 2 0 0 1200 := zu_ne hZ30 (fun q => absurd q.1 (by decide))
  have t35 : Z30 2 0 0 1400 = Z28 2 0 0 1400 := zu_ne hZ30 (fun q => absurd q.1 (by decide))
  have t36 : Z30 2 0 0 1401 = Z28 2 0 0 1401 := zu_ne hZ30 (fun q => absurd q.1 (by decide))
  have t37 : Z30 2 0 0 3000 = Z28 2 0 0 3000 := zu_ne hZ30 (fun q => absurd q.1 (by decide))
  have t38 : Z30 2 0 0 3200 = Z28 2 0 0 3200 := zu_ne hZ30 (fun q => absurd q.1 (by decide))
  have t39 : Z30 2 0 0 3500 = Z28 2 0 0 3500 := zu_ne hZ30 (fun q => absurd q.1 (by decide))
  have t40 : Z30 1 0 0 2 = Z28 1 0 0 2 := zu_ne hZ30 (fun q => absurd q.2.2.2 (by decide))
  have hZ30K := zK_u hZ28K hZ30 (by decide)
  intro μ9 e9
  replace e9 := e9.trans (zm_wI (Z := Z28) (ν := ν) hZ30 (show ((0 : Nat) : Int) = 0 from rfl) (show ((0 : Nat) : Int) = 0 from rfl) (show ((35 : Nat) : Int) = 35 from rfl) (zm_rd (Z := Z) (ν := ν) (k := 1) (show ((0 : Nat) : Int) = 0 from rfl) (show ((0 : Nat) : Int) = 0 from rfl) (show ((35 : Nat) : Int) = 35 from rfl)))
  subst e9
  obtain ⟨Z41, hZ41⟩ := zx (zu Z30 1 0 0 2 0)
  replace hP := zl_e hP hZ41
  have hZ41I := zI_0 hZ30I hZ41 (by decide) (Or.inr (by decide))
  have t42 : Z41 2 0 0 100 = Z30 2 0 0 100 := zu_ne hZ41 (fun q => absurd q.1 (by decide))
  have t43 : Z41 2 0 0 101 = Z30 2 0 0 101 := zu_ne hZ41 (fun q => absurd q.1 (by decide))
  have t44 : Z41 2 0 0 102 = Z30 2 0 0 102 := zu_ne hZ41 (fun q => absurd q.1 (by decide))
  have t45 : Z41 2 0 0 1200 = Z30 2 0 0 1200 := zu_ne hZ41 (fun q => absurd q.1 (by decide))
  have t46 : Z41 2 0 0 1400 = Z30 2 0 0 1400 := zu_ne hZ41 (fun q => absurd q.1 (by decide))
  have t47 : Z41 2 0 0 1401 = Z30 2 0 0 1401 := zu_ne hZ41 (fun q => absurd q.1 (by decide))
  have t48 : Z41 2 0 0 3000 = Z30 2 0 0 3000 := zu_ne hZ41 (fun q => absurd q.1 (by decide))
  have t49 : Z41 2 0 0 3200 = Z30 2 0 0 3200 := zu_ne hZ41 (fun q => absurd q.1 (by decide))
  have t50 : Z41 2 0 0 3500 = Z30 2 0 0 3500 := zu_ne hZ41 (fun q => absurd q.1 (by decide))
  have t51 := zu_at hZ41
  have hZ41K := zK_u hZ30K hZ41 (by decide)
  intro μ9 e9
  replace e9 := e9.trans (zm_wI (Z := Z30) (ν := ν) hZ41 (show ((0 : Nat) : Int) = 0 from rfl) (show ((0 : Nat) : Int) = 0 from rfl) (show ((2 : Nat) : Int) = 2 from rfl) (show (0 : Int32) = i3 0 from rfl))
  subst e9
  exact zlV hP ⟨hZ41I, hZ41K, by omega, by omega⟩
