/-! xKeep, xRecord and others, printed by api.py -/
/- yX12_xKeep -/
def zl_557_3 (x1 : Int) : Nat → qz_Z → Int → qz_Z × Int
  | 0, Z, x2 => (Z, x2)
  | m + 1, Z, x2 => (if 4400 ≤ x2 then (Z, x2) else (if x1 ≠ (-1) then (zlet (zu Z 101 0 0 (4400 * (Z 1 0 0 34) + x2) (Z 81 0 0 (4400 * x1 + x2))) (fun Z5 => zl_557_3 x1 m Z5 (x2 + 1))) else (zlet (zu Z 101 0 0 (4400 * (Z 1 0 0 34) + x2) (Z 2 0 0 x2)) (fun Z12 => zl_557_3 x1 m Z12 (x2 + 1)))))
theorem sl_557_3 {s : zS} {Zs Z : qz_Z} {ν : qz_N} (hZ : zI s Z) (hK : zK [101] Zs Z) {x1 : Int} (gx1 : -1 ≤ x1 ∧ x1 ≤ 1) {x2 : Int} (gx2 : 0 ≤ x2 ∧ x2 ≤ 4400) {kc0 : Int} {kc1 : Int} {kc2 : Int} (gr0 : Z 1 0 0 34 ≤ 7) (gr1 : Z 1 0 0 2 = kc0) (gr2 : Z 1 0 0 35 = kc1) (gr3 : Z 1 0 0 37 = kc2) {k : wz_K} {R : wz_R} {L : qz_L} (hL : qz_fg [true, true, true] L = [some (.inr (.inr (some (1, 0, 0)))), some (.inl (i3 x1)), some (.inl (i3 x2))]) {T : qz_Z × Int} (hP : zE T (zl_557_3 x1 ((4400 - x2).toNat + 1) Z x2)) (hk : ∀ (L9 : qz_L) (Z9 : qz_Z) (yx2 : Int), qz_fg [true, false, false] L9 = [some (.inr (.inr (some (1, 0, 0)))), none, none] → zI s Z9 → zK [101] Zs Z9 → (0 ≤ yx2 ∧ yx2 ≤ 4400) → (Z9 1 0 0 34 ≤ 7) → (Z9 1 0 0 2 = kc0) → (Z9 1 0 0 35 = kc1) → (Z9 1 0 0 37 = kc2) → zE T ((Z9, yx2)) → k 0 (L9, [], zm Z9 ν)) : wz_loop qb_557_3 65536 k R (L, [], zm Z ν) := by
  refine wz_lp sb_557_3 (fun m x => ∃ Z : qz_Z, ∃ x2 : Int, qz_fg [true, true, true] x.1 = [some (.inr (.inr (some (1, 0, 0)))), some (.inl (i3 x1)), some (.inl (i3 x2))] ∧ x.2 = ([], zm Z ν) ∧ zI s Z ∧ zK [101] Zs Z ∧ m = (4400 - x2).toNat ∧ (0 ≤ x2 ∧ x2 ≤ 4400) ∧ (Z 1 0 0 34 ≤ 7) ∧ (Z 1 0 0 2 = kc0) ∧ (Z 1 0 0 35 = kc1) ∧ (Z 1 0 0 37 = kc2) ∧ zE T (zl_557_3 x1 (m + 1) Z x2)) ?_ 65536 ((4400 - x2).toNat) _ (by omega) ⟨Z, x2, hL, rfl, hZ, hK, rfl, gx2, gr0, gr1, gr2, gr3, hP⟩
  clear hP gr0 gr1 gr2 gr3 gx2 hZ hK hL
  clear x2
  clear Z
  rintro m ⟨L, st, μ⟩ ⟨Z, x2, hL, hx, hZ, hK, hm, gx2, gr0, gr1, gr2, gr3, hP⟩
  cases hx
  refine fb_557_3 (i3 x1) (i3 x2) _ _ _ _ hL ?_
  refine wz_br (i3Le (show (4400 : Int32) = i3 4400 from rfl) (rfl : i3 x2 = i3 x2) (by omega) (by omega) (by omega) (by omega)) (fun h1 => ?_) (fun h1 => ?_)
  · replace hP := zE_p hP h1
    exact hk _ _ _ (zconso rfl (zconso rfl (zconso rfl rfl))) hZ hK (by omega) (by omega) (by omega) (by omega) (by omega) hP
  · replace hP := zE_n hP h1
    refine wz_br (i3NE (rfl : i3 x1 = i3 x1) (show (-1 : Int32) = i3 (-1) from rfl) (by omega) (by omega) (by omega) (by omega)) (fun h2 => ?_) (fun h2 => ?_)
    · replace hP := zE_p hP h2
      refine wz_i0 (i3O (n := 8800) (i3A (i3M (show (4400 : Int32) = i3 4400 from rfl) (rfl : i3 x1 = i3 x1)) (rfl : i3 x2 = i3 x2)) (by omega) (by omega) (by omega)) ?_
      have r3 := zI_k hZ 1 0 0 34 (lo := 0) (hi := 8) (by decide) rfl
      refine wz_i0 (i3O (n := 35200) (i3A (i3M (zm_rd (Z := Z) (ν := ν) (k := 1) (show ((0 : Nat) : Int) = 0 from rfl) (show ((0 : Nat) : Int) = 0 from rfl) (show ((34 : Nat) : Int) = 34 from rfl)) (show (4400 : Int32) = i3 4400 from rfl)) (rfl : i3 x2 = i3 x2)) (by omega) (by omega) (by omega)) ?_
      have r4 := zI_f hZ 81 0 0 (4400 * x1 + x2)
      obtain ⟨Z5, hZ5⟩ := zx (zu Z 101 0 0 (4400 * (Z 1 0 0 34) + x2) (Z 81 0 0 (4400 * x1 + x2)))
      replace hP := zl_e hP hZ5
      have hZ5I := zI_u hZ hZ5 (lo := -2147483648) (hi := 2147483647) (by decide) rfl (by omega) ⟨by decide, by decide⟩ (Or.inl (by decide))
      have t6 : Z5 1 0 0 2 = Z 1 0 0 2 := zu_ne hZ5 (fun q => absurd q.1 (by decide))
      have t7 : Z5 1 0 0 35 = Z 1 0 0 35 := zu_ne hZ5 (fun q => absurd q.1 (by decide))
      have t8 : Z5 1 0 0 37 = Z 1 0 0 37 := zu_ne hZ5 (fun q => absurd q.1 (by decide))
      have t9 : Z5 1 0 0 34 = Z 1 0 0 34 := zu_ne hZ5 (fun q => absurd q.1 (by decide))
      have hZ5K := zK_u hK hZ5 (by decide)
      intro μ9 e9
      replace e9 := e9.trans (zm_wI (Z := Z) (ν := ν) hZ5 (show ((0 : Nat) : Int) = 0 from rfl) (show ((0 : Nat) : Int) = 0 from rfl) (i3I (y := (4400 * (Z 1 0 0 34) + x2)) (i3A (i3M (zm_rd (Z := Z) (ν := ν) (k := 1) (show ((0 : Nat) : Int) = 0 from rfl) (show ((0 : Nat) : Int) = 0 from rfl) (show ((34 : Nat) : Int) = 34 from rfl)) (show (4400 : Int32) = i3 4400 from rfl)) (rfl : i3 x2 = i3 x2)) (by omega) (by omega) (by omega)) (zm_rd (Z := Z) (ν := ν) (k := 81) (show ((0 : Nat) : Int) = 0 from rfl) (show ((0 : Nat) : Int) = 0 from rfl) (i3I (y := (4400 * x1 + x2)) (i3A (i3M (show (4400 : Int32) = i3 4400 from rfl) (rfl : i3 x1 = i3 x1)) (rfl : i3 x2 = i3 x2)) (by omega) (by omega) (by omega))))
      subst e9
      obtain ⟨m2, rfl⟩ : ∃ m2, m = m2 + 1 := ⟨m - 1, by omega⟩
      exact wz_k1 ⟨m2, by omega, Z5, (x2 + 1), (zconso rfl (zconso (zvo (rfl : i3 x1 = i3 x1)) (zconso (zvo (i3A (rfl : i3 x2 = i3 x2) (show (1 : Int32) = i3 1 from rfl))) rfl))), rfl, hZ5I, hZ5K, by omega, by omega, by omega, by omega, by omega, by omega,  hP⟩
    · replace hP := zE_n hP h2
      refine wz_i0 (i3O (n := 4400) (rfl : i3 x2 = i3 x2) (by omega) (by omega) (by omega)) ?_
      have r10 := zI_k hZ 1 0 0 34 (lo := 0) (hi := 8) (by decide) rfl
      refine wz_i0 (i3O (n := 35200) (i3A (i3M (zm_rd (Z := Z) (ν := ν) (k := 1) (show ((0 : Nat) : Int) = 0 from rfl) (show ((0 : Nat) : Int) = 0 from rfl) (show ((34 : Nat) : Int) = 34 from rfl)) (show (4400 : Int32) = i3 4400 from rfl)) (rfl : i3 x2 = i3 x2)) (by omega) (by omega) (by omega)) ?_
      have r11 := zI_f hZ 2 0 0 x2
      obtain ⟨Z12, hZ12⟩ := zx (zu Z 101 0 0 (4400 * (Z 1 0 0 34) + x2) (Z 2 0 0 x2))
      replace hP := zl_e hP hZ12
      have hZ12I := zI_u hZ hZ12 (lo := -2147483648) (hi := 2147483647) (by decide) rfl (by omega) ⟨by decide, by decide⟩ (Or.inl (by decide))
      have t13 : Z12 1 0 0 2 = Z 1 0 0 2 := zu_ne hZ12 (fun q => absurd q.1 (by decide))
      have t14 : Z12 1 0 0 35 = Z 1 0 0 35 := zu_ne hZ12 (fun q => absurd q.1 (by decide))
      have t15 : Z12 1 0 0 37 = Z 1 0 0 37 := zu_ne hZ12 (fun q => absurd q.1 (by decide))
      have t16 : Z12 1 0 0 34 = Z 1 0 0 34 := zu_ne hZ12 (fun q => absurd q.1 (by decide))
      have hZ12K := zK_u hK hZ12 (by decide)
      intro μ9 e9
      replace e9 := e9.trans (zm_wI (Z := Z) (ν := ν) hZ12 (show ((0 : Nat) : Int) = 0 from rfl) (show ((0 : Nat) : Int) = 0 from rfl) (i3I (y := (4400 * (Z 1 0 0 34) + x2)) (i3A (i3M (zm_rd (Z := Z) (ν := ν) (k := 1) (show ((0 : Nat) : Int) = 0 from rfl) (show ((0 : Nat) : Int) = 0 from rfl) (show ((34 : Nat) : Int) = 34 from rfl)) (show (4400 : Int32) = i3 4400 from rfl)) (rfl : i3 x2 = i3 x2)) (by omega) (by omega) (by omega)) (zm_rd (Z := Z) (ν := ν) (k := 2) (show ((0 : Nat) : Int) = 0 from rfl) (show ((0 : Nat) : Int) = 0 from rfl) (i3I (y := x2) (rfl : i3 x2 = i3 x2) (by omega) (by omega) (by omega))))
      subst e9
      obtain ⟨m2, rfl⟩ : ∃ m2, m = m2 + 1 := ⟨m - 1, by omega⟩
      exact wz_k1 ⟨m2, by omega, Z12, (x2 + 1), (zconso rfl (zconso (zvo (rfl : i3 x1 = i3 x1)) (zconso (zvo (i3A (rfl : i3 x2 = i3 x2) (show (1 : Int32) = i3 1 from rfl))) rfl))), rfl, hZ12I, hZ12K, by omega, by omega, by omega, by omega, by omega, by omega,  hP⟩

/- yX12_xKeep -/
def zf_557 (Z : qz_Z) (a1 : Int) : qz_Z := (zlet2 (zl_557_3 a1 4401 Z 0) (fun Z3 y2 => (zlet (zu Z3 1 0 0 34 ((Z3 1 0 0 34) + 1)) (fun Z7 => Z7))))
theorem sp_557 {s : zS} {Z : qz_Z} {ν : qz_N} (hZ : zI s Z) {a1 : Int} (ga1 : -1 ≤ a1 ∧ a1 ≤ 1) (gx0 : Z 1 0 0 34 ≤ 7) : ∃ P : qz_Z, P = zf_557 Z a1 ∧ (qf_557 [.inr (.inr (some (1, 0, 0))), .inl (i3 a1)] (zm Z ν) = some (zm P ν, .inl none) ∧ zI s P ∧ zK [1, 101] Z P ∧ P 1 0 0 2 = Z 1 0 0 2 ∧ P 1 0 0 35 = Z 1 0 0 35 ∧ P 1 0 0 37 = Z 1 0 0 37) := by
  obtain ⟨P, hP⟩ := zx (zf_557 Z a1)
  refine zc_V (Q := fun P => zI s P ∧ zK [1, 101] Z P ∧ P 1 0 0 2 = Z 1 0 0 2 ∧ P 1 0 0 35 = Z 1 0 0 35 ∧ P 1 0 0 37 = Z 1 0 0 37) hP (fw_557 (i3 a1) _ _ ?_)
  replace hP : zE P (zf_557 Z a1) := hP
  unfold zf_557 at hP
  have r1 := zI_k hZ 1 0 0 34 (lo := 0) (hi := 8) (by decide) rfl
  refine wz_i1 (Eq.trans (i3NE (zm_rd (Z := Z) (ν := ν) (k := 1) (show ((0 : Nat) : Int) = 0 from rfl) (show ((0 : Nat) : Int) = 0 from rfl) (show ((34 : Nat) : Int) = 34 from rfl)) (show (8 : Int32) = i3 8 from rfl) (by omega) (by omega) (by omega) (by omega)) (decide_eq_true (by omega))) ?_
  refine fc_557_5 (i3 a1) _ _ _ _ (zconso rfl (zconso (zvo (rfl : i3 a1 = i3 a1)) (zconso rfl rfl))) ?_
  refine sl_557_3 (ν := ν) hZ zK_r (x1 := a1) (by omega) (x2 := 0) (by omega) (kc2 := Z 1 0 0 37) (kc1 := Z 1 0 0 35) (kc0 := Z 1 0 0 2) (by omega) (by omega) (by omega) (by omega) (zconso rfl (zconso (zvo (rfl : i3 a1 = i3 a1)) (zconso (zvo (show (0 : Int32) = i3 0 from rfl)) rfl))) rfl ?_
  intro L4 Z3 y2 hL4 hZ3I kZ3 gy2 gL4_0 gL4_1 gL4_2 gL4_3 q9
  replace hP := zl_e2 hP (Eq.symm q9)
  clear q9
  have hZ3K : zK [1, 101] Z Z3 := zK_t zK_r kZ3 (by decide)
  refine fc_557_4  _ _ _ _ hL4 ?_
  have r5 := zI_k hZ3I 1 0 0 34 (lo := 0) (hi := 8) (by decide) rfl
  have q6 := kZ3 1 (by decide) 0 0 34
  obtain ⟨Z7, hZ7⟩ := zx (zu Z3 1 0 0 34 ((Z3 1 0 0 34) + 1))
  replace hP := zl_e hP hZ7
  have hZ7I := zI_u hZ3I hZ7 (lo := 0) (hi := 8) (by decide) rfl (by omega) ⟨by decide, by decide⟩ (Or.inr (by decide))
  have t8 : Z7 1 0 0 2 = Z3 1 0 0 2 := zu_ne hZ7 (fun q => absurd q.2.2.2 (by decide))
  have t9 : Z7 1 0 0 35 = Z3 1 0 0 35 := zu_ne hZ7 (fun q => absurd q.2.2.2 (by decide))
  have t10 : Z7 1 0 0 37 = Z3 1 0 0 37 := zu_ne hZ7 (fun q => absurd q.2.2.2 (by decide))
  have hZ7K := zK_u hZ3K hZ7 (by decide)
  intro μ9 e9
  replace e9 := e9.trans (zm_wI (Z := Z3) (ν := ν) hZ7 (show ((0 : Nat) : Int) = 0 from rfl) (show ((0 : Nat) : Int) = 0 from rfl) (show ((34 : Nat) : Int) = 34 from rfl) (i3A (zm_rd (Z := Z3) (ν := ν) (k := 1) (show ((0 : Nat) : Int) = 0 from rfl) (show ((0 : Nat) : Int) = 0 from rfl) (show ((34 : Nat) : Int) = 34 from rfl)) (show (1 : Int32) = i3 1 from rfl)))
  subst e9
  exact zlV hP ⟨hZ7I, hZ7K, by omega, by omega, by omega⟩

/- yX12_xRecord -/
def zf_563 (Z : qz_Z) (a1 : Int) (a2 : Int) (a3 : Int) (a4 : Int) (a5 : Int) (a6 : Int) (a7 : Int) : qz_Z := (zlet (zu Z 102 0 0 (7 * (Z 1 0 0 37)) a1) (fun Z2 => (zlet (zu Z2 102 0 0 (1 + 7 * (Z 1 0 0 37)) a2) (fun Z5 => (zlet (zu Z5 102 0 0 (2 + 7 * (Z 1 0 0 37)) a3) (fun Z8 => (zlet (zu Z8 102 0 0 (3 + 7 * (Z 1 0 0 37)) a4) (fun Z11 => (zlet (zu Z11 102 0 0 (4 + 7 * (Z 1 0 0 37)) a5) (fun Z14 => (zlet (zu Z14 102 0 0 (5 + 7 * (Z 1 0 0 37)) a6) (fun Z17 => (zlet (zu Z17 102 0 0 (6 + 7 * (Z 1 0 0 37)) a7) (fun Z20 => (zlet (zu Z20 1 0 0 37 ((Z20 1 0 0 37) + 1)) (fun Z25 => Z25))))))))))))))))
theorem sp_563 {s : zS} {Z : qz_Z} {ν : qz_N} (hZ : zI s Z) {a1 : Int} (ga1 : -2147483648 ≤ a1 ∧ a1 ≤ 2147483647) {a2 : Int} (ga2 : -2147483648 ≤ a2 ∧ a2 ≤ 2147483647) {a3 : Int} (ga3 : -2147483648 ≤ a3 ∧ a3 ≤ 2147483647) {a4 : Int} (ga4 : -2147483648 ≤ a4 ∧ a4 ≤ 2147483647) {a5 : Int} (ga5 : -2147483648 ≤ a5 ∧ a5 ≤ 2147483647) {a6 : Int} (ga6 : -2147483648 ≤ a6 ∧ a6 ≤ 2147483647) {a7 : Int} (ga7 : -2147483648 ≤ a7 ∧ a7 ≤ 2147483647) (gx0 : Z 1 0 0 37 = 0) (rrec : ∀ Z, qz_rm (zm Z ν) 1 0 0 36 = some (102, 0, 0)) : ∃ P : qz_Z, P = zf_563 Z a1 a2 a3 a4 a5 a6 a7 ∧ (qf_563 [.inr (.inr (some (1, 0, 0))), .inl (i3 a1), .inl (i3 a2), .inl (i3 a3), .inl (i3 a4), .inl (i3 a5), .inl (i3 a6), .inl (i3 a7)] (zm Z ν) = some (zm P ν, .inl none) ∧ zI s P ∧ zK [1, 102] Z P ∧ P 1 0 0 2 = Z 1 0 0 2 ∧ P 1 0 0 35 = Z 1 0 0 35) := by
  obtain ⟨P, hP⟩ := zx (zf_563 Z a1 a2 a3 a4 a5 a6 a7)
  refine zc_V (Q := fun P => zI s P ∧ zK [1, 102] Z P ∧ P 1 0 0 2 = Z 1 0 0 2 ∧ P 1 0 0 35 = Z 1 0 0 35) hP (fw_563 (i3 a1) (i3 a2) (i3 a3) (i3 a4) (i3 a5) (i3 a6) (i3 a7) _ _ ?_)
  replace hP : zE P (zf_563 Z a1 a2 a3 a4 a5 a6 a7) := hP
  unfold zf_563 at hP
  refine wz_rko (rrec _) ?_
  refine wz_i1 rfl ?_
  have r1 := zI_f hZ 1 0 0 37
  refine wz_i1 (Eq.trans (i3Le (i3A (i3M (show (7 : Int32) = i3 7 from rfl) (zm_rd (Z := Z) (ν := ν) (k := 1) (show ((0 : Nat) : Int) = 0 from rfl) (show ((0 : Nat) : Int) = 0 from rfl) (show ((37 : Nat) : Int) = 37 from rfl))) (show (7 : Int32) = i3 7 from rfl)) (show Int32.ofNat 512 = i3 512 from rfl) (by omega) (by omega) (by omega) (by omega)) (decide_eq_true (by omega))) ?_
  refine wz_rko (rrec _) ?_
  refine wz_i1 rfl ?_
  refine wz_i0 (i3O (n := 512) (i3M (show (7 : Int32) = i3 7 from rfl) (zm_rd (Z := Z) (ν := ν) (k := 1) (show ((0 : Nat) : Int) = 0 from rfl) (show ((0 : Nat) : Int) = 0 from rfl) (show ((37 : Nat) : Int) = 37 from rfl))) (by omega) (by omega) (by omega)) ?_
  obtain ⟨Z2, hZ2⟩ := zx (zu Z 102 0 0 (7 * (Z 1 0 0 37)) a1)
  replace hP := zl_e hP hZ2
  have hZ2I := zI_u hZ hZ2 (lo := -2147483648) (hi := 2147483647) (by decide) rfl (by omega) ⟨by decide, by decide⟩ (Or.inl (by decide))
  have t3 : Z2 1 0 0 2 = Z 1 0 0 2 := zu_ne hZ2 (fun q => absurd q.1 (by decide))
  have t4 : Z2 1 0 0 35 = Z 1 0 0 35 := zu_ne hZ2 (fun q => absurd q.1 (by decide))
  have hZ2K : zK [1, 102] Z Z2 := zK_u zK_r hZ2 (by decide)
  intro μ9 e9
  replace e9 := e9.trans (zm_wI (Z := Z) (ν := ν) hZ2 (show ((0 : Nat) : Int) = 0 from rfl) (show ((0 : Nat) : Int) = 0 from rfl) (i3I (y := (7 * (Z 1 0 0 37))) (i3M (show (7 : Int32) = i3 7 from rfl) (zm_rd (Z := Z) (ν := ν) (k := 1) (show ((0 : Nat) : Int) = 0 from rfl) (show ((0 : Nat) : Int) = 0 from rfl) (show ((37 : Nat) : Int) = 37 from rfl))) (by omega) (by omega) (by omega)) (rfl : i3 a1 = i3 a1))
  subst e9
  refine wz_rko (rrec _) ?_
  refine wz_i1 rfl ?_
  refine wz_i0 (i3O (n := 512) (i3A (i3M (show (7 : Int32) = i3 7 from rfl) (zm_rd (Z := Z) (ν := ν) (k := 1) (show ((0 : Nat) : Int) = 0 from rfl) (show ((0 : Nat) : Int) = 0 from rfl) (show ((37 : Nat) : Int) = 37 from rfl))) (show (1 : Int32) = i3 1 from rfl)) (by omega) (by omega) (by omega)) ?_
  obtain ⟨Z5, hZ5⟩ := zx (zu Z2 102 0 0 (1 + 7 * (Z 1 0 0 37)) a2)
  replace hP := zl_e hP hZ5
  have hZ5I := zI_u hZ2I hZ5 (lo := -2147483648) (hi := 2147483647) (by decide) rfl (by omega) ⟨by decide, by decide⟩ (Or.inl (by decide))
  have t6 : Z5 1 0 0 2 = Z2 1 0 0 2 := zu_ne hZ5 (fun q => absurd q.1 (by decide))
  have t7 : Z5 1 0 0 35 = Z2 1 0 0 35 := zu_ne hZ5 (fun q => absurd q.1 (by decide))
  have hZ5K := zK_u hZ2K hZ5 (by decide)
  intro μ9 e9
  replace e9 := e9.trans (zm_wI (Z := Z2) (ν := ν) hZ5 (show ((0 : Nat) : Int) = 0 from rfl) (show ((0 : Nat) : Int) = 0 from rfl) (i3I (y := (1 + 7 * (Z 1 0 0 37))) (i3A (i3M (show (7 : Int32) = i3 7 from rfl) (zm_rd (Z := Z) (ν := ν) (k := 1) (show ((0 : Nat) : Int) = 0 from rfl) (show ((0 : Nat) : Int) = 0 from rfl) (show ((37 : Nat) : Int) = 37 from rfl))) (show (1 : Int32) = i3 1 from rfl)) (by omega) (by omega) (by omega)) (rfl : i3 a2 = i3 a2))
  subst e9
  refine wz_rko (rrec _) ?_
  refine wz_i1 rfl ?_
  refine wz_i0 (i3O (n := 512) (i3A (i3M (show (7 : Int32) = i3 7 from rfl) (zm_rd (Z := Z) (ν := ν) (k := 1) (show ((0 : Nat) : Int) = 0 from rfl) (show ((0 : Nat) : Int) = 0 from rfl) (show ((37 : Nat) : Int) = 37 from rfl))) (show (2 : Int32) = i3 2 from rfl)) (by omega) (by omega) (by omega)) ?_
  obtain ⟨Z8, hZ8⟩ := zx (zu Z5 102 0 0 (2 + 7 * (Z 1 0 0 37)) a3)
  replace hP := zl_e hP hZ8
  have hZ8I := zI_u hZ5I hZ8 (lo := -2147483648) (hi := 2147483647) (by decide) rfl (by omega) ⟨by decide, by decide⟩ (Or.inl (by decide))
  have t9 : Z8 1 0 0 2 = Z5 1 0 0 2 := zu_ne hZ8 (fun q => absurd q.1 (by decide))
  have t10 : Z8 1 0 0 35 = Z5 1 0 0 35 := zu_ne hZ8 (fun q => absurd q.1 (by decide))
  have hZ8K := zK_u hZ5K hZ8 (by decide)
  intro μ9 e9
  replace e9 := e9.trans (zm_wI (Z := Z5) (ν := ν) hZ8 (show ((0 : Nat) : Int) = 0 from rfl) (show ((0 : Nat) : Int) = 0 from rfl) (i3I (y := (2 + 7 * (Z 1 0 0 37))) (i3A (i3M (show (7 : Int32) = i3 7 from rfl) (zm_rd (Z := Z) (ν := ν) (k := 1) (show ((0 : Nat) : Int) = 0 from rfl) (show ((0 : Nat) : Int) = 0 from rfl) (show ((37 : Nat) : Int) = 37 from rfl))) (show (2 : Int32) = i3 2 from rfl)) (by omega) (by omega) (by omega)) (rfl : i3 a3 = i3 a3))
  subst e9
  refine wz_rko (rrec _) ?_
  refine wz_i1 rfl ?_
  refine wz_i0 (i3O (n := 512) (i3A (i3M (show (7 : Int32) = i3 7 from rfl) (zm_rd (Z := Z) (ν := ν) (k := 1) (show ((0 : Nat) : Int) = 0 from rfl) (show ((0 : Nat) : Int) = 0 from rfl) (show ((37 : Nat) : Int) = 37 from rfl))) (show (3 : Int32) = i3 3 from rfl)) (by omega) (by omega) (by omega)) ?_
  obtain ⟨Z11, hZ11⟩ := zx (zu Z8 102 0 0 (3 + 7 * (Z 1 0 0 37)) a4)
  replace hP := zl_e hP hZ11
  have hZ11I := zI_u hZ8I hZ11 (lo := -2147483648) (hi := 2147483647) (by decide) rfl (by omega) ⟨by decide, by decide⟩ (Or.inl (by decide))
  have t12 : Z11 1 0 0 2 = Z8 1 0 0 2 := zu_ne hZ11 (fun q => absurd q.1 (by decide))
  have t13 : Z11 1 0 0 35 = Z8 1 0 0 35 := zu_ne hZ11 (fun q => absurd q.1 (by decide))
  have hZ11K := zK_u hZ8K hZ11 (by decide)
  intro μ9 e9
  replace e9 := e9.trans (zm_wI (Z := Z8) (ν := ν) hZ11 (show ((0 : Nat) : Int) = 0 from rfl) (show ((0 : Nat) : Int) = 0 from rfl) (i3I (y := (3 + 7 * (Z 1 0 0 37))) (i3A (i3M (show (7 : Int32) = i3 7 from rfl) (zm_rd (Z := Z) (ν := ν) (k := 1) (show ((0 : Nat) : Int) = 0 from rfl) (show ((0 : Nat) : Int) = 0 from rfl) (show ((37 : Nat) : Int) = 37 from rfl))) (show (3 : Int32) = i3 3 from rfl)) (by omega) (by omega) (by omega)) (rfl : i3 a4 = i3 a4))
  subst e9
  refine wz_rko (rrec _) ?_
  refine wz_i1 rfl ?_
  refine wz_i0 (i3O (n := 512) (i3A (i3M (show (7 : Int32) = i3 7 from rfl) (zm_rd (Z := Z) (ν := ν) (k := 1) (show ((0 : Nat) : Int) = 0 from rfl) (show ((0 : Nat) : Int) = 0 from rfl) (show ((37 : Nat) : Int) = 37 from rfl))) (show (4 : Int32) = i3 4 from rfl)) (by omega) (by omega) (by omega)) ?_
  obtain ⟨Z14, hZ14⟩ := zx (zu Z11 102 0 0 (4 + 7 * (Z 1 0 0 37)) a5)
  replace hP := zl_e hP hZ14
  have hZ14I := zI_u hZ11I hZ14 (lo := -2147483648) (hi := 2147483647) (by decide) rfl (by omega) ⟨by decide, by decide⟩ (Or.inl (by decide))
  have t15 : Z14 1 0 0 2 = Z11 1 0 0 2 := zu_ne hZ14 (fun q => absurd q.1 (by decide))
  have t16 : Z14 1 0 0 35 = Z11 1 0 0 35 := zu_ne hZ14 (fun q => absurd q.1 (by decide))
  have hZ14K := zK_u hZ11K hZ14 (by decide)
  intro μ9 e9
  replace e9 := e9.trans (zm_wI (Z := Z11) (ν := ν) hZ14 (show ((0 : Nat) : Int) = 0 from rfl) (show ((0 : Nat) : Int) = 0 from rfl) (i3I (y := (4 + 7 * (Z 1 0 0 37))) (i3A (i3M (show (7 : Int32) = i3 7 from rfl) (zm_rd (Z := Z) (ν := ν) (k := 1) (show ((0 : Nat) : Int) = 0 from rfl) (show ((0 : Nat) : Int) = 0 from rfl) (show ((37 : Nat) : Int) = 37 from rfl))) (show (4 : Int32) = i3 4 from rfl)) (by omega) (by omega) (by omega)) (rfl : i3 a5 = i3 a5))
  subst e9
  refine wz_rko (rrec _) ?_
  refine wz_i1 rfl ?_
  refine wz_i0 (i3O (n := 512) (i3A (i3M (show (7 : Int32) = i3 7 from rfl) (zm_rd (Z := Z) (ν := ν) (k := 1) (show ((0 : Nat) : Int) = 0 from rfl) (show ((0 : Nat) : Int) = 0 from rfl) (show ((37 : Nat) : Int) = 37 from rfl))) (show (5 : Int32) = i3 5 from rfl)) (by omega) (by omega) (by omega)) ?_
  obtain ⟨Z17, hZ17⟩ := zx (zu Z14 102 0 0 (5 + 7 * (Z 1 0 0 37)) a6)
  replace hP := zl_e hP hZ17
  have hZ17I := zI_u hZ14I hZ17 (lo := -2147483648) (hi := 2147483647) (by decide) rfl (by omega) ⟨by decide, by decide⟩ (Or.inl (by decide))
  have t18 : Z17 1 0 0 2 = Z14 1 0 0 2 := zu_ne hZ17 (fun q => absurd q.1 (by decide))
  have t19 : Z17 1 0 0 35 = Z14 1 0 0 35 := zu_ne hZ17 (fun q => absurd q.1 (by decide))
  have hZ17K := zK_u hZ14K hZ17 (by decide)
  intro μ9 e9
  replace e9 := e9.trans (zm_wI (Z := Z14) (ν := ν) hZ17 (show ((0 : Nat) : Int) = 0 from rfl) (show ((0 : Nat) : Int) = 0 from rfl) (i3I (y := (5 + 7 * (Z 1 0 0 37))) (i3A (i3M (show (7 : Int32) = i3 7 from rfl) (zm_rd (Z := Z) (ν := ν) (k := 1) (show ((0 : Nat) : Int) = 0 from rfl) (show ((0 : Nat) : Int) = 0 from rfl) (show ((37 : Nat) : Int) = 37 from rfl))) (show (5 : Int32) = i3 5 from rfl)) (by omega) (by omega) (by omega)) (rfl : i3 a6 = i3 a6))
  subst e9
  refine wz_rko (rrec _) ?_
  refine wz_i1 rfl ?_
  refine wz_i0 (i3O (n := 512) (i3A (i3M (show (7 : Int32) = i3 7 from rfl) (zm_rd (Z := Z) (ν := ν) (k := 1) (show ((0 : Nat) : Int) = 0 from rfl) (show ((0 : Nat) : Int) = 0 from rfl) (show ((37 : Nat) : Int) = 37 from rfl))) (show (6 : Int32) = i3 6 from rfl)) (by omega) (by omega) (by omega)) ?_
  obtain ⟨Z20, hZ20⟩ := zx (zu Z17 102 0 0 (6 + 7 * (Z 1 0 0 37)) a7)
  replace hP := zl_e hP hZ20
  have hZ20I := zI_u hZ17I hZ20 (lo := -2147483648) (hi := 2147483647) (by decide) rfl (by omega) ⟨by decide, by decide⟩ (Or.inl (by decide))
  have t21 : Z20 1 0 0 2 = Z17 1 0 0 2 := zu_ne hZ20 (fun q => absurd q.1 (by decide))
  have t22 : Z20 1 0 0 35 = Z17 1 0 0 35 := zu_ne hZ20 (fun q => absurd q.1 (by decide))
  have hZ20K := zK_u hZ17K hZ20 (by decide)
  intro μ9 e9
  replace e9 := e9.trans (zm_wI (Z := Z17) (ν := ν) hZ20 (show ((0 : Nat) : Int) = 0 from rfl) (show ((0 : Nat) : Int) = 0 from rfl) (i3I (y := (6 + 7 * (Z 1 0 0 37))) (i3A (i3M (show (7 : Int32) = i3 7 from rfl) (zm_rd (Z := Z) (ν := ν) (k := 1) (show ((0 : Nat) : Int) = 0 from rfl) (show ((0 : Nat) : Int) = 0 from rfl) (show ((37 : Nat) : Int) = 37 from rfl))) (show (6 : Int32) = i3 6 from rfl)) (by omega) (by omega) (by omega)) (rfl : i3 a7 = i3 a7))
  subst e9
  have r23 := zI_f hZ20I 1 0 0 37
  have q24 := (zu_ne (k' := 1) (b' := 0) (i' := 0) (j' := 37) hZ20 (fun q => absurd q.1 (by decide))).trans ((zu_ne (k' := 1) (b' := 0) (i' := 0) (j' := 37) hZ17 (fun q => absurd q.1 (by decide))).trans ((zu_ne (k' := 1) (b' := 0) (i' := 0) (j' := 37) hZ14 (fun q => absurd q.1 (by decide))).trans ((zu_ne (k' := 1) (b' := 0) (i' := 0) (j' := 37) hZ11 (fun q => absurd q.1 (by decide))).trans ((zu_ne (k' := 1) (b' := 0) (i' := 0) (j' := 37) hZ8 (fun q => absurd q.1 (by decide))).trans ((zu_ne (k' := 1) (b' := 0) (i' := 0) (j' := 37) hZ5 (fun q => absurd q.1 (by decide))).trans (zu_ne (k' := 1) (b' := 0) (i' := 0) (j' := 37) hZ2 (fun q => absurd q.1 (by decide))))))))
  obtain ⟨Z25, hZ25⟩ := zx (zu Z20 1 0 0 37 ((Z20 1 0 0 37) + 1))
  replace hP := zl_e hP hZ25
  have hZ25I := zI_u hZ20I hZ25 (lo := -2147483648) (hi := 2147483647) (by decide) rfl (by omega) ⟨by decide, by decide⟩ (Or.inr (by decide))
  have t26 : Z25 1 0 0 2 = Z20 1 0 0 2 := zu_ne hZ25 (fun q => absurd q.2.2.2 (by decide))
  have t27 : Z25 1 0 0 35 = Z20 1 0 0 35 := zu_ne hZ25 (fun q => absurd q.2.2.2 (by decide))
  have hZ25K := zK_u hZ20K hZ25 (by decide)
  intro μ9 e9
  replace e9 := e9.trans (zm_wI (Z := Z20) (ν := ν) hZ25 (show ((0 : Nat) : Int) = 0 from rfl) (show ((0 : Nat) : Int) = 0 from rfl) (show ((37 : Nat) : Int) = 37 from rfl) (i3A (zm_rd (Z := Z20) (ν := ν) (k := 1) (show ((0 : Nat) : Int) = 0 from rfl) (show ((0 : Nat) : Int) = 0 from rfl) (show ((37 : Nat) : Int) = 37 from rfl)) (show (1 : Int32) = i3 1 from rfl)))
  subst e9
  exact zlV hP ⟨hZ25I, hZ25K, by omega, by omega⟩

/- yX12_rRoom -/
def zl_485_1 (x1 : Int) (x2 : Int) (x3 : Int) (x4 : Int) (x5 : Int) : Nat → qz_Z → Int → qz_Z × Int
  | 0, Z, x6 => (Z, x6)
  | m + 1, Z, x6 => (if 12 ≤ x6 then (Z, x6) else (zlet (zu Z 2 0 0 (1210 + 12 * x5 + x6) 0) (fun Z2 => zl_485_1 x1 x2 x3 x4 x5 m Z2 (x6 + 1))))
theorem sl_485_1 {s : zS} {Zs Z : qz_Z} {ν : qz_N} (hZ : zI s Z) (hK : zK [2] Zs Z) {x1 : Int} (gx1 : 1 ≤ x1 ∧ x1 ≤ 12) {x2 : Int} (gx2 : 0 ≤ x2 ∧ x2 ≤ 9) {x3 : Int} (gx3 : 0 ≤ x3 ∧ x3 ≤ 9) {x4 : Int} (gx4 : 18 ≤ x4 ∧ x4 ≤ 18) {x5 : Int} (gx5 : 0 ≤ x5 ∧ x5 ≤ 0) {x6 : Int} (gx6 : 0 ≤ x6 ∧ x6 ≤ 12) {kc0 : Int} (gr0 : Z 2 0 0 1200 = kc0) {k : wz_K} {R : wz_R} {L : qz_L} (hL : qz_fg [true, true, true, true, true, true, true] L = [some (.inr (.inr (some (1, 0, 0)))), some (.inl (i3 x1)), some (.inl (i3 x2)), some (.inl (i3 x3)), some (.inl (i3 x4)), some (.inl (i3 x5)), some (.inl (i3 x6))]) {T : qz_Z × Int} (hP : zE T (zl_485_1 x1 x2 x3 x4 x5 ((12 - x6).toNat + 1) Z x6)) (hk : ∀ (L9 : qz_L) (Z9 : qz_Z) (yx6 : Int), qz_fg [true, true, true, true, true, true, false] L9 = [some (.inr (.inr (some (1, 0, 0)))), some (.inl (i3 x1)), some (.inl (i3 x2)), some (.inl (i3 x3)), some (.inl (i3 x4)), some (.inl (i3 x5)), none] → zI s Z9 → zK [2] Zs Z9 → (0 ≤ yx6 ∧ yx6 ≤ 12) → (Z9 2 0 0 1200 = kc0) → zE T ((Z9, yx6)) → k 0 (L9, [], zm Z9 ν)) : wz_loop qb_485_1 65536 k R (L, [], zm Z ν) := by
  refine wz_lp sb_485_1 (fun m x => ∃ Z : qz_Z, ∃ x6 : Int, qz_fg [true, true, true, true, true, true, true] x.1 = [some (.inr (.inr (some (1, 0, 0)))), some (.inl (i3 x1)), some (.inl (i3 x2)), some (.inl (i3 x3)), some (.inl (i3 x4)), some (.inl (i3 x5)), some (.inl (i3 x6))] ∧ x.2 = ([], zm Z ν) ∧ zI s Z ∧ zK [2] Zs Z ∧ m = (12 - x6).toNat ∧ (0 ≤ x6 ∧ x6 ≤ 12) ∧ (Z 2 0 0 1200 = kc0) ∧ zE T (zl_485_1 x1 x2 x3 x4 x5 (m + 1) Z x6)) ?_ 65536 ((12 - x6).toNat) _ (by omega) ⟨Z, x6, hL, rfl, hZ, hK, rfl, gx6, gr0, hP⟩
  clear hP gr0 gx6 hZ hK hL
  clear x6
  clear Z
  rintro m ⟨L, st, μ⟩ ⟨Z, x6, hL, hx, hZ, hK, hm, gx6, gr0, hP⟩
  cases hx
  refine fb_485_1 (i3 x1) (i3 x2) (i3 x3) (i3 x4) (i3 x5) (i3 x6) _ _ _ _ hL ?_
  refine wz_br (i3Le (show (12 : Int32) = i3 12 from rfl) (rfl : i3 x6 = i3 x6) (by omega) (by omega) (by omega) (by omega)) (fun h1 => ?_) (fun h1 => ?_)
  · replace hP := zE_p hP h1
    exact hk _ _ _ (zconso rfl (zconso (zvo (rfl : i3 x1 = i3 x1)) (zconso (zvo (rfl : i3 x2 = i3 x2)) (zconso (zvo (rfl : i3 x3 = i3 x3)) (zconso (zvo (rfl : i3 x4 = i3 x4)) (zconso (zvo (rfl : i3 x5 = i3 x5)) (zconso rfl rfl))))))) hZ hK (by omega) (by omega) hP
  · replace hP := zE_n hP h1
    refine wz_i0 (i3O (n := 4400) (i3A (i3A (show (1210 : Int32) = i3 1210 from rfl) (i3M (show (12 : Int32) = i3 12 from rfl) (rfl : i3 x5 = i3 x5))) (rfl : i3 x6 = i3 x6)) (by omega) (by omega) (by omega)) ?_
    obtain ⟨Z2, hZ2⟩ := zx (zu Z 2 0 0 (1210 + 12 * x5 + x6) 0)
    replace hP := zl_e hP hZ2
    have hZ2I := zI_0 hZ hZ2 (by decide) (Or.inl (by decide))
    have t3 : Z2 2 0 0 1200 = Z 2 0 0 1200 := zu_ne hZ2 (by omega)
    have hZ2K := zK_u hK hZ2 (by decide)
    intro μ9 e9
    replace e9 := e9.trans (zm_wI (Z := Z) (ν := ν) hZ2 (show ((0 : Nat) : Int) = 0 from rfl) (show ((0 : Nat) : Int) = 0 from rfl) (i3I (y := (1210 + 12 * x5 + x6)) (i3A (i3A (show (1210 : Int32) = i3 1210 from rfl) (i3M (show (12 : Int32) = i3 12 from rfl) (rfl : i3 x5 = i3 x5))) (rfl : i3 x6 = i3 x6)) (by omega) (by omega) (by omega)) (show (0 : Int32) = i3 0 from rfl))
    subst e9
    obtain ⟨m2, rfl⟩ : ∃ m2, m = m2 + 1 := ⟨m - 1, by omega⟩
    exact wz_k1 ⟨m2, by omega, Z2, (x6 + 1), (zconso rfl (zconso (zvo (rfl : i3 x1 = i3 x1)) (zconso (zvo (rfl : i3 x2 = i3 x2)) (zconso (zvo (rfl : i3 x3 = i3 x3)) (zconso (zvo (rfl : i3 x4 = i3 x4)) (zconso (zvo (rfl : i3 x5 = i3 x5)) (zconso (zvo (i3A (rfl : i3 x6 = i3 x6) (show (1 : Int32) = i3 1 from rfl))) rfl))))))), rfl, hZ2I, hZ2K, by omega, by omega, by omega,  hP⟩

/- yX12_iInspector -/
def zl_359_1 (x1 : Int) (x2 : Int) (x3 : Int) : Nat → qz_Z → Int → qz_Z × Int
  | 0, Z, x4 => (Z, x4)
  | m + 1, Z, x4 => (if 10 ≤ x4 then (Z, x4) else (zlet (zu Z 2 0 0 (3520 + 10 * x3 + x4) 0) (fun Z2 => zl_359_1 x1 x2 x3 m Z2 (x4 + 1))))
theorem sl_359_1 {s : zS} {Zs Z : qz_Z} {ν : qz_N} (hZ : zI s Z) (hK : zK [2] Zs Z) {x1 : Int} (gx1 : 0 ≤ x1 ∧ x1 ≤ 18) {x2 : Int} (gx2 : 0 ≤ x2 ∧ x2 ≤ 3) {x3 : Int} (gx3 : 0 ≤ x3 ∧ x3 ≤ 0) {x4 : Int} (gx4 : 0 ≤ x4 ∧ x4 ≤ 10) {kc0 : Int} (gr0 : Z 2 0 0 3500 = kc0) {k : wz_K} {R : wz_R} {L : qz_L} (hL : qz_fg [true, true, true, true, true] L = [some (.inr (.inr (some (1, 0, 0)))), some (.inl (i3 x1)), some (.inl (i3 x2)), some (.inl (i3 x3)), some (.inl (i3 x4))]) {T : qz_Z × Int} (hP : zE T (zl_359_1 x1 x2 x3 ((10 - x4).toNat + 1) Z x4)) (hk : ∀ (L9 : qz_L) (Z9 : qz_Z) (yx4 : Int), qz_fg [true, true, true, true, false] L9 = [some (.inr (.inr (some (1, 0, 0)))), some (.inl (i3 x1)), some (.inl (i3 x2)), some (.inl (i3 x3)), none] → zI s Z9 → zK [2] Zs Z9 → (0 ≤ yx4 ∧ yx4 ≤ 10) → (Z9 2 0 0 3500 = kc0) → zE T ((Z9, yx4)) → k 0 (L9, [], zm Z9 ν)) : wz_loop qb_359_1 65536 k R (L, [], zm Z ν) := by
  refine wz_lp sb_359_1 (fun m x => ∃ Z : qz_Z, ∃ x4 : Int, qz_fg [true, true, true, true, true] x.1 = [some (.inr (.inr (some (1, 0, 0)))), some (.inl (i3 x1)), some (.inl (i3 x2)), some (.inl (i3 x3)), some (.inl (i3 x4))] ∧ x.2 = ([], zm Z ν) ∧ zI s Z ∧ zK [2] Zs Z ∧ m = (10 - x4).toNat ∧ (0 ≤ x4 ∧ x4 ≤ 10) ∧ (Z 2 0 0 3500 = kc0) ∧ zE T (zl_359_1 x1 x2 x3 (m + 1) Z x4)) ?_ 65536 ((10 - x4).toNat) _ (by omega) ⟨Z, x4, hL, rfl, hZ, hK, rfl, gx4, gr0, hP⟩
  clear hP gr0 gx4 hZ hK hL
  clear x4
  clear Z
  rintro m ⟨L, st, μ⟩ ⟨Z, x4, hL, hx, hZ, hK, hm, gx4, gr0, hP⟩
  cases hx
  refine fb_359_1 (i3 x1) (i3 x2) (i3 x3) (i3 x4) _ _ _ _ hL ?_
  refine wz_br (i3Le (show (10 : Int32) = i3 10 from rfl) (rfl : i3 x4 = i3 x4) (by omega) (by omega) (by omega) (by omega)) (fun h1 => ?_) (fun h1 => ?_)
  · replace hP := zE_p hP h1
    exact hk _ _ _ (zconso rfl (zconso (zvo (rfl : i3 x1 = i3 x1)) (zconso (zvo (rfl : i3 x2 = i3 x2)) (zconso (zvo (rfl : i3 x3 = i3 x3)) (zconso rfl rfl))))) hZ hK (by omega) (by omega) hP
  · replace hP := zE_n hP h1
    refine wz_i0 (i3O (n := 4400) (i3A (i3A (show (3520 : Int32) = i3 3520 from rfl) (i3M (show (10 : Int32) = i3 10 from rfl) (rfl : i3 x3 = i3 x3))) (rfl : i3 x4 = i3 x4)) (by omega) (by omega) (by omega)) ?_
    obtain ⟨Z2, hZ2⟩ := zx (zu Z 2 0 0 (3520 + 10 * x3 + x4) 0)
    replace hP := zl_e hP hZ2
    have hZ2I := zI_0 hZ hZ2 (by decide) (Or.inl (by decide))
    have t3 : Z2 2 0 0 3500 = Z 2 0 0 3500 := zu_ne hZ2 (by omega)
    have hZ2K := zK_u hK hZ2 (by decide)
    intro μ9 e9
    replace e9 := e9.trans (zm_wI (Z := Z) (ν := ν) hZ2 (show ((0 : Nat) : Int) = 0 from rfl) (show ((0 : Nat) : Int) = 0 from rfl) (i3I (y := (3520 + 10 * x3 + x4)) (i3A (i3A (show (3520 : Int32) = i3 3520 from rfl) (i3M (show (10 : Int32) = i3 10 from rfl) (rfl : i3 x3 = i3 x3))) (rfl : i3 x4 = i3 x4)) (by omega) (by omega) (by omega)) (show (0 : Int32) = i3 0 from rfl))
    subst e9
    obtain ⟨m2, rfl⟩ : ∃ m2, m = m2 + 1 := ⟨m - 1, by omega⟩
    exact wz_k1 ⟨m2, by omega, Z2, (x4 + 1), (zconso rfl (zconso (zvo (rfl : i3 x1 = i3 x1)) (zconso (zvo (rfl : i3 x2 = i3 x2)) (zconso (zvo (rfl : i3 x3 = i3 x3)) (zconso (zvo (i3A (rfl : i3 x4 = i3 x4) (show (1 : Int32) = i3 1 from rfl))) rfl))))), rfl, hZ2I, hZ2K, by omega, by omega, by omega,  hP⟩
