/- yX1_fill -/
def zf_21 (Z : qz_Z) (n9 : Int) (a0b : Int) : qz_Z × Int × Int := (zlet (zzi Z n9) (fun Z1 => (zlet (n9 + 1) (fun n3 => (zlet (zf_22 Z1 a0b n9) (fun Z4 => (zlet2 (zl_21_1 a0b n9 25 Z4 0) (fun Z6 y5 => (zlet3 (zl_21_2 a0b n9 25 Z6 0 0) (fun Z10 y8 y9 => (Z10, n3, y8)))))))))))
theorem sp_21 {s : zSM} {Z : qz_Z} {ν : qz_N} (hZ : zH s Z) (hs : s.1 = none) {n9 : Nat} (hn : ν.2.2.2.1 = n9) (a0b : Nat) (hM : s.2 + 0 ≤ 1000000000) : ∃ (Z1 : qz_Z) (ν1 : qz_N) (n1 : Nat) (P : Int), (Z1, (n1 : Int), P) = zf_21 Z n9 a0b ∧ (qf_21 [.inr (.inr (some (10, a0b, 0))), .inr (.inr (some (69, 0, 0)))] (zm Z ν) = some (zm Z1 ν1, .inl (some (.inl (i3 P)))) ∧ zH s Z1 ∧ zL [69] [] n9 Z Z1 ∧ zU [] Z Z1 ∧ ν1.2.2.2.1 = n1 ∧ zGl 192 ν ν1 ∧ n9 ≤ n1 ∧ n1 ≤ n9 + 1 ∧ -2147483648 ≤ P ∧ P ≤ 2147483647) := by
  obtain ⟨P, hP⟩ := zx (zf_21 Z n9 a0b)
  refine zc_Wn (Q := fun Z1 ν1 n1 P => zH s Z1 ∧ zL [69] [] n9 Z Z1 ∧ zU [] Z Z1 ∧ ν1.2.2.2.1 = n1 ∧ zGl 192 ν ν1 ∧ n9 ≤ n1 ∧ n1 ≤ n9 + 1 ∧ -2147483648 ≤ P ∧ P ≤ 2147483647) hP (fw_21 a0b _ _ ?_)
  replace hP : zE P (zf_21 Z n9 a0b) := hP
  unfold zf_21 at hP
  obtain ⟨Z1, hZ1⟩ := zx (zzr Z n9)
  obtain ⟨ν2, hν2⟩ := zx (nal ν 50 1 20 1 20)
  obtain ⟨n3, hn3⟩ : ∃ m : Nat, m = n9 + 1 := ⟨_, rfl⟩
  replace hP := zl_e hP (hZ1.trans zzi_e)
  replace hP := zl_e hP (show ((n3 : Nat) : Int) = ((n9 : Nat) : Int) + 1 from by omega)
  intro μ9 e9
  replace e9 := zal_e e9 hn hZ1 hν2
  subst e9
  rw [show qz_na (zm Z ν) = n9 from hn]
  have hZ1I := zH_z hZ hZ1 hs
  have hZ1K : zL [69] [] n9 Z Z1 := zL_z2 zL_r (by omega) hZ1
  have hZ1U : zU [] Z Z1 := zU_z zU_r hZ1
  have hnν2 := (nal_na hn hν2).trans hn3.symm
  have hGν2 := zGl_al (K := 192) zGl_r hν2 (by decide)
  have hSν2 := zSh_new hn hν2
  obtain ⟨Z4, hZ4, c9, hZ4I, kZ4, jZ4⟩ := sp_22 (ν := ν2) hZ1I hs hnν2 a0b n9 hSν2 (zbh (c := 0) (k := 0) hM (Nat.le_of_ble_eq_true rfl))
  have hZ4U : zU [] Z Z4 := zU_t hZ1U jZ4 zU_b0
  have hZ4K : zL [69] [] n9 Z Z4 := zL_t hZ1K kZ4 (by decide) (zL_b1 (Or.inr (by omega)) zL_b0) (by omega)
  replace hP := zl_e hP hZ4
  refine wz_cV_of (zas (zcons rfl (zcons rfl rfl)) c9) ?_
  clear c9
  refine sl_21_1 (ν := ν2) hZ4I (zbh (c := 0) (k := 0) hM (Nat.le_of_ble_eq_true rfl)) zC_r a0b n9 hSν2 (x3 := 0) (by omega) zU_r  (zconso rfl (zconso rfl (zconso rfl (zconso (zvo (show (0 : Int32) = i3 0 from rfl)) (zconso rfl (zconso rfl rfl)))))) rfl ?_
  intro L7 Z6 y5 hL7 hZ6I kZ6 jZ6 gy5 q9
  replace hP := zl_e2 hP (Eq.symm q9)
  clear q9
  have hZ6U : zU [] Z Z6 := zU_t hZ4U jZ6 zU_b0
  have hZ6K : zL [69] [] n9 Z Z6 := zL_c hZ4K kZ6 (by decide)
  refine fc_21_4 _ _ _ _ _ _ hL7 ?_
  refine sl_21_2 (ν := ν2) hZ6I (zbh (c := 0) (k := 0) hM (Nat.le_of_ble_eq_true rfl)) hs hnν2 a0b n9 hSν2 (x3 := 0) (by omega) (x4 := 0) (by omega) zL_r zU_r  (zconso rfl (zconso rfl (zconso rfl (zconso (zvo (show (0 : Int32) = i3 0 from rfl)) (zconso (zvo (show (0 : Int32) = i3 0 from rfl)) (zconso rfl rfl)))))) rfl ?_
  intro L11 Z10 y8 y9 hL11 hZ10I kZ10 jZ10 gy8 gy9 q9
  replace hP := zl_e3 hP (Eq.symm q9)
  clear q9
  have hZ10U : zU [] Z Z10 := zU_t hZ6U jZ10 zU_b0
  have hZ10K : zL [69] [] n9 Z Z10 := zL_t hZ6K kZ10 (by decide) (zL_b1 (Or.inr (by omega)) zL_b0) (by omega)
  refine fc_21_3 (i3 y8) _ _ _ _ hL11 ?_
  exact zlWn hP (rfl : i3 y8 = i3 y8) ⟨hZ10I, hZ10K, hZ10U, hnν2, hGν2, by omega, by omega, by omega, by omega⟩
/- yX3_lotsOf -/
def zl_68_1 (x0b : Int) (x1 : Int) (x3 : Int) : Nat → qz_Z → Int → Int → Int × Int
  | 0, Z, x2, x4 => (x2, x4)
  | m + 1, Z, x2, x4 => (if (Z 48 x0b x3 5) ≤ x4 then (x2, x4) else (if (Z 49 x0b (12 * x3 + x4) 0) ≠ x1 then zl_68_1 x0b x1 x3 m Z x2 (x4 + 1) else zl_68_1 x0b x1 x3 m Z (w3 (x2 + 1)) (x4 + 1)))
theorem sl_68_1 {s : zSM} {Z : qz_Z} {ν : qz_N} (hZ : zH s Z) (hM : s.2 + 0 ≤ 1000000000) (x0b : Nat) {x1 : Int} (gx1 : 0 ≤ x1 ∧ x1 ≤ 47) {x2 : Int} (gx2 : -2147483648 ≤ x2 ∧ x2 ≤ 2147483647) {x3 : Int} (gx3 : 0 ≤ x3 ∧ x3 ≤ 1) {x4 : Int} (gx4 : 0 ≤ x4 ∧ x4 ≤ 12) {k : wz_K} {R : wz_R} {L : qz_L} (hL : qz_fg [true, true, true, true, true] L = [some (.inr (.inr (some (10, x0b, 0)))), some (.inl (i3 x1)), some (.inl (i3 x2)), some (.inl (i3 x3)), some (.inl (i3 x4))]) {T : Int × Int} (hP : zE T (zl_68_1 x0b x1 x3 ((12 - x4).toNat + 1) Z x2 x4)) (hk : ∀ (L9 : qz_L) (yx2 yx4 : Int), qz_fg [true, true, true, true, false] L9 = [some (.inr (.inr (some (10, x0b, 0)))), some (.inl (i3 x1)), some (.inl (i3 yx2)), some (.inl (i3 x3)), none] → (-2147483648 ≤ yx2 ∧ yx2 ≤ 2147483647) → (0 ≤ yx4 ∧ yx4 ≤ 12) → zE T ((yx2, yx4)) → k 0 (L9, [], zm Z ν)) : wz_loop qb_68_1 65536 k R (L, [], zm Z ν) := by
  refine wz_lp sb_68_1 (fun m x => ∃ x2 : Int, ∃ x4 : Int, qz_fg [true, true, true, true, true] x.1 = [some (.inr (.inr (some (10, x0b, 0)))), some (.inl (i3 x1)), some (.inl (i3 x2)), some (.inl (i3 x3)), some (.inl (i3 x4))] ∧ x.2 = ([], zm Z ν) ∧ m = (12 - x4).toNat ∧ (-2147483648 ≤ x2 ∧ x2 ≤ 2147483647) ∧ (0 ≤ x4 ∧ x4 ≤ 12) ∧ zE T (zl_68_1 x0b x1 x3 (m + 1) Z x2 x4)) ?_ 65536 ((12 - x4).toNat) _ (by omega) ⟨x2, x4, hL, rfl, rfl, gx2, gx4, hP⟩
  clear hP gx2 gx4 hL
  clear x2 x4
  rintro m ⟨L, st, μ⟩ ⟨x2, x4, hL, hx, hm, gx2, gx4, hP⟩
  cases hx
  refine fb_68_1 x0b (i3 x1) (i3 x2) (i3 x3) (i3 x4) _ _ _ _ hL ?_
  refine wz_i0 (i3O (n := 2) (rfl : i3 x3 = i3 x3) (by omega) (by omega) (by omega)) ?_
  have r1 := zH_k hZ 48 x0b x3 5 (lo := 0) (hi := 12) (by decide) rfl
  refine wz_br (i3Le (zm_rd (Z := Z) (ν := ν) (k := 48) (rfl : ((x0b : Nat) : Int) = x0b) (i3I (y := x3) (rfl : i3 x3 = i3 x3) (by omega) (by omega) (by omega)) (show ((5 : Nat) : Int) = 5 from rfl)) (rfl : i3 x4 = i3 x4) (by omega) (by omega) (by omega) (by omega)) (fun h2 => ?_) (fun h2 => ?_)
  · replace hP := zE_p hP h2
    exact hk _ _ _ (zconso rfl (zconso (zvo (rfl : i3 x1 = i3 x1)) (zconso (zvo (rfl : i3 x2 = i3 x2)) (zconso (zvo (rfl : i3 x3 = i3 x3)) (zconso rfl rfl)))))  (by omega) (by omega)  hP
  · replace hP := zE_n hP h2
    refine wz_i0 (i3O (n := 24) (i3A (i3M (rfl : i3 x3 = i3 x3) (show (12 : Int32) = i3 12 from rfl)) (rfl : i3 x4 = i3 x4)) (by omega) (by omega) (by omega)) ?_
    have r3 := zH_k hZ 49 x0b (12 * x3 + x4) 0 (lo := 0) (hi := 47) (by decide) rfl
    refine wz_br (i3NE (zm_rd (Z := Z) (ν := ν) (k := 49) (rfl : ((x0b : Nat) : Int) = x0b) (i3I (y := (12 * x3 + x4)) (i3A (i3M (rfl : i3 x3 = i3 x3) (show (12 : Int32) = i3 12 from rfl)) (rfl : i3 x4 = i3 x4)) (by omega) (by omega) (by omega)) (show ((0 : Nat) : Int) = 0 from rfl)) (rfl : i3 x1 = i3 x1) (by omega) (by omega) (by omega) (by omega)) (fun h4 => ?_) (fun h4 => ?_)
    · replace hP := zE_p hP h4
      obtain ⟨m2, rfl⟩ : ∃ m2, m = m2 + 1 := ⟨m - 1, by omega⟩
      exact wz_k1 ⟨m2, by omega, x2, (x4 + 1), (zconso rfl (zconso (zvo (rfl : i3 x1 = i3 x1)) (zconso (zvo (rfl : i3 x2 = i3 x2)) (zconso (zvo (rfl : i3 x3 = i3 x3)) (zconso (zvo (i3A (rfl : i3 x4 = i3 x4) (show (1 : Int32) = i3 1 from rfl))) rfl))))), rfl,  by omega, by omega, by omega,  hP⟩
    · replace hP := zE_n hP h4
      have r5 := w3_r (x2 + 1)
      obtain ⟨m2, rfl⟩ : ∃ m2, m = m2 + 1 := ⟨m - 1, by omega⟩
      exact wz_k1 ⟨m2, by omega, (w3 (x2 + 1)), (x4 + 1), (zconso rfl (zconso (zvo (rfl : i3 x1 = i3 x1)) (zconso (zvo (i3W (i3A (rfl : i3 x2 = i3 x2) (show (1 : Int32) = i3 1 from rfl)))) (zconso (zvo (rfl : i3 x3 = i3 x3)) (zconso (zvo (i3A (rfl : i3 x4 = i3 x4) (show (1 : Int32) = i3 1 from rfl))) rfl))))), rfl,  by omega, by omega, by omega,  hP⟩
/- yX3_lotsOf -/
def zl_68_3 (x0b : Int) (x1 : Int) : Nat → qz_Z → Int → Int → Int × Int
  | 0, Z, x2, x3 => (x2, x3)
  | m + 1, Z, x2, x3 => (if (Z 11 x0b 0 7) ≤ x3 then (x2, x3) else (zlet2 (zl_68_1 x0b x1 x3 13 Z x2 0) (fun y3 y4 => zl_68_3 x0b x1 m Z y3 (x3 + 1))))
theorem sl_68_3 {s : zSM} {Z : qz_Z} {ν : qz_N} (hZ : zH s Z) (hM : s.2 + 0 ≤ 1000000000) (x0b : Nat) {x1 : Int} (gx1 : 0 ≤ x1 ∧ x1 ≤ 47) {x2 : Int} (gx2 : -2147483648 ≤ x2 ∧ x2 ≤ 2147483647) {x3 : Int} (gx3 : 0 ≤ x3 ∧ x3 ≤ 2) {k : wz_K} {R : wz_R} {L : qz_L} (hL : qz_fg [true, true, true, true, false] L = [some (.inr (.inr (some (10, x0b, 0)))), some (.inl (i3 x1)), some (.inl (i3 x2)), some (.inl (i3 x3)), none]) {T : Int × Int} (hP : zE T (zl_68_3 x0b x1 ((2 - x3).toNat + 1) Z x2 x3)) (hk : ∀ (L9 : qz_L) (yx2 yx3 : Int), qz_fg [false, false, true, false, false] L9 = [none, none, some (.inl (i3 yx2)), none, none] → (-2147483648 ≤ yx2 ∧ yx2 ≤ 2147483647) → (0 ≤ yx3 ∧ yx3 ≤ 2) → zE T ((yx2, yx3)) → k 0 (L9, [], zm Z ν)) : wz_loop qb_68_3 65536 k R (L, [], zm Z ν) := by
  refine wz_lp sb_68_3 (fun m x => ∃ x2 : Int, ∃ x3 : Int, qz_fg [true, true, true, true, false] x.1 = [some (.inr (.inr (some (10, x0b, 0)))), some (.inl (i3 x1)), some (.inl (i3 x2)), some (.inl (i3 x3)), none] ∧ x.2 = ([], zm Z ν) ∧ m = (2 - x3).toNat ∧ (-2147483648 ≤ x2 ∧ x2 ≤ 2147483647) ∧ (0 ≤ x3 ∧ x3 ≤ 2) ∧ zE T (zl_68_3 x0b x1 (m + 1) Z x2 x3)) ?_ 65536 ((2 - x3).toNat) _ (by omega) ⟨x2, x3, hL, rfl, rfl, gx2, gx3, hP⟩
  clear hP gx2 gx3 hL
  clear x2 x3
  rintro m ⟨L, st, μ⟩ ⟨x2, x3, hL, hx, hm, gx2, gx3, hP⟩
  cases hx
  refine fb_68_3 x0b (i3 x1) (i3 x2) (i3 x3) _ _ _ _ hL ?_
  have r1 := zH_k hZ 11 x0b 0 7 (lo := 0) (hi := 2) (by decide) rfl
  refine wz_br (i3Le (zm_rd (Z := Z) (ν := ν) (k := 11) (rfl : ((x0b : Nat) : Int) = x0b) (show ((0 : Nat) : Int) = 0 from rfl) (show ((7 : Nat) : Int) = 7 from rfl)) (rfl : i3 x3 = i3 x3) (by omega) (by omega) (by omega) (by omega)) (fun h2 => ?_) (fun h2 => ?_)
  · replace hP := zE_p hP h2
    exact hk _ _ _ (zconso rfl (zconso rfl (zconso (zvo (rfl : i3 x2 = i3 x2)) (zconso rfl (zconso rfl rfl)))))  (by omega) (by omega)  hP
  · replace hP := zE_n hP h2
    refine sl_68_1 (ν := ν) hZ (zbh (c := 0) (k := 0) hM (Nat.le_of_ble_eq_true rfl)) x0b (x1 := x1) (by omega) (x2 := x2) (by omega) (x3 := x3) (by omega) (x4 := 0) (by omega)  (zconso rfl (zconso (zvo (rfl : i3 x1 = i3 x1)) (zconso (zvo (rfl : i3 x2 = i3 x2)) (zconso (zvo (rfl : i3 x3 = i3 x3)) (zconso (zvo (show (0 : Int32) = i3 0 from rfl)) rfl))))) rfl ?_
    intro L5 y3 y4 hL5 gy3 gy4 q9
    replace hP := zl_e2 hP (Eq.symm q9)
    clear q9
    refine fc_68_2 _ (i3 x1) (i3 y3) (i3 x3) _ _ _ _ hL5 ?_
    obtain ⟨m2, rfl⟩ : ∃ m2, m = m2 + 1 := ⟨m - 1, by omega⟩
    refine wz_kbs (n := 1) (?_)
    exact wz_k1 ⟨m2, by omega, y3, (x3 + 1), (zconso rfl (zconso (zvo (rfl : i3 x1 = i3 x1)) (zconso (zvo (rfl : i3 y3 = i3 y3)) (zconso (zvo (i3A (rfl : i3 x3 = i3 x3) (show (1 : Int32) = i3 1 from rfl))) (zconso rfl rfl))))), rfl,  by omega, by omega, by omega,  hP⟩
/- yX3_lotsOf -/
def zf_68 (Z : qz_Z) (a0b : Int) (a1 : Int) : Int := (zlet2 (zl_68_3 a0b a1 3 Z 0 0) (fun y1 y2 => y1))
theorem sp_68 {s : zSM} {Z : qz_Z} {ν : qz_N} (hZ : zH s Z) (a0b : Nat) {a1 : Int} (ga1 : 0 ≤ a1 ∧ a1 ≤ 47) (hM : s.2 + 0 ≤ 1000000000) : ∃ P : Int, P = zf_68 Z a0b a1 ∧ (qf_68 [.inr (.inr (some (10, a0b, 0))), .inl (i3 a1)] (zm Z ν) = some (zm Z ν, .inl (some (.inl (i3 P)))) ∧ -2147483648 ≤ P ∧ P ≤ 2147483647) := by
  obtain ⟨P, hP⟩ := zx (zf_68 Z a0b a1)
  refine zc_R (Q := fun P => -2147483648 ≤ P ∧ P ≤ 2147483647) hP (fw_68 a0b (i3 a1) _ _ ?_)
  replace hP : zE P (zf_68 Z a0b a1) := hP
  unfold zf_68 at hP
  refine sl_68_3 (ν := ν) hZ (zbh (c := 0) (k := 0) hM (Nat.le_of_ble_eq_true rfl)) a0b (x1 := a1) (by omega) (x2 := 0) (by omega) (x3 := 0) (by omega)  (zconso rfl (zconso (zvo (rfl : i3 a1 = i3 a1)) (zconso (zvo (show (0 : Int32) = i3 0 from rfl)) (zconso (zvo (show (0 : Int32) = i3 0 from rfl)) (zconso rfl rfl))))) rfl ?_
  intro L3 y1 y2 hL3 gy1 gy2 q9
  replace hP := zl_e2 hP (Eq.symm q9)
  clear q9
  refine fc_68_4 (i3 y1) _ _ _ _ hL3 ?_
  exact zlR hP (rfl : i3 y1 = i3 y1) ⟨by omega, by omega⟩
/- yX3_tellTakings -/
def zl_77_1 (x0b : Int) (x1b : Int) (x2 : Int) (x6 : Int) : Nat → qz_Z → Int → Int → Int × Int
  | 0, Z, x9, x10 => (x9, x10)
  | m + 1, Z, x9, x10 => (if x6 ≤ x10 then (x9, x10) else (if (Z 44 x1b (Z 49 x0b (12 * x2 + x10) 0) 4) ≠ 0 then zl_77_1 x0b x1b x2 x6 m Z (x9 + 0) (x10 + 1) else zl_77_1 x0b x1b x2 x6 m Z (x9 + 1) (x10 + 1)))
theorem sl_77_1 {s : zSM} {Z : qz_Z} {ν : qz_N} (hZ : zH s Z) (hM : s.2 + 0 ≤ 1000000000) (x0b : Nat) (x1b : Nat) {x2 : Int} (gx2 : 0 ≤ x2 ∧ x2 ≤ 1) {x6 : Int} (gx6 : 0 ≤ x6 ∧ x6 ≤ 12) {x9 : Int} (gx9 : 0 ≤ x9 ∧ x9 ≤ 12) {x10 : Int} (gx10 : 0 ≤ x10 ∧ x10 ≤ 12) (gr0 : x9 ≤ x10) {k : wz_K} {R : wz_R} {L : qz_L} (hL : qz_fg [true, true, true, false, false, false, true, false, false, true, true, false] L = [some (.inr (.inr (some (10, x0b, 0)))), some (.inr (.inr (some (10, x1b, 0)))), some (.inl (i3 x2)), none, none, none, some (.inl (i3 x6)), none, none, some (.inl (i3 x9)), some (.inl (i3 x10)), none]) {T : Int × Int} (hP : zE T (zl_77_1 x0b x1b x2 x6 ((12 - x10).toNat + 1) Z x9 x10)) (hk : ∀ (L9 : qz_L) (yx9 yx10 : Int), qz_fg [false, false, false, false, false, false, false, false, false, true, false, false] L9 = [none, none, none, none, none, none, none, none, none, some (.inl (i3 yx9)), none, none] → (0 ≤ yx9 ∧ yx9 ≤ 12) → (0 ≤ yx10 ∧ yx10 ≤ 12) → (yx9 ≤ yx10) → zE T ((yx9, yx10)) → k 0 (L9, [], zm Z ν)) : wz_loop qb_77_1 65536 k R (L, [], zm Z ν) := by
  refine wz_lp sb_77_1 (fun m x => ∃ x9 : Int, ∃ x10 : Int, qz_fg [true, true, true, false, false, false, true, false, false, true, true, false] x.1 = [some (.inr (.inr (some (10, x0b, 0)))), some (.inr (.inr (some (10, x1b, 0)))), some (.inl (i3 x2)), none, none, none, some (.inl (i3 x6)), none, none, some (.inl (i3 x9)), some (.inl (i3 x10)), none] ∧ x.2 = ([], zm Z ν) ∧ m = (12 - x10).toNat ∧ (0 ≤ x9 ∧ x9 ≤ 12) ∧ (0 ≤ x10 ∧ x10 ≤ 12) ∧ (x9 ≤ x10) ∧ zE T (zl_77_1 x0b x1b x2 x6 (m + 1) Z x9 x10)) ?_ 65536 ((12 - x10).toNat) _ (by omega) ⟨x9, x10, hL, rfl, rfl, gx9, gx10, gr0, hP⟩
  clear hP gr0 gx9 gx10 hL
  clear x9 x10
  rintro m ⟨L, st, μ⟩ ⟨x9, x10, hL, hx, hm, gx9, gx10, gr0, hP⟩
  cases hx
  refine fb_77_1 x0b x1b (i3 x2) (i3 x6) (i3 x9) (i3 x10) _ _ _ _ hL ?_
  refine wz_br (i3Le (rfl : i3 x6 = i3 x6) (rfl : i3 x10 = i3 x10) (by omega) (by omega) (by omega) (by omega)) (fun h1 => ?_) (fun h1 => ?_)
  · replace hP := zE_p hP h1
    exact hk _ _ _ (zconso rfl (zconso rfl (zconso rfl (zconso rfl (zconso rfl (zconso rfl (zconso rfl (zconso rfl (zconso rfl (zconso (zvo (rfl : i3 x9 = i3 x9)) (zconso rfl (zconso rfl rfl))))))))))))  (by omega) (by omega) (by omega) hP
  · replace hP := zE_n hP h1
    refine wz_i0 (i3O (n := 24) (i3A (i3M (rfl : i3 x2 = i3 x2) (show (12 : Int32) = i3 12 from rfl)) (rfl : i3 x10 = i3 x10)) (by omega) (by omega) (by omega)) ?_
    have r2 := zH_k hZ 49 x0b (12 * x2 + x10) 0 (lo := 0) (hi := 47) (by decide) rfl
    refine wz_i0 (i3O (n := 48) (zm_rd (Z := Z) (ν := ν) (k := 49) (rfl : ((x0b : Nat) : Int) = x0b) (i3I (y := (12 * x2 + x10)) (i3A (i3M (rfl : i3 x2 = i3 x2) (show (12 : Int32) = i3 12 from rfl)) (rfl : i3 x10 = i3 x10)) (by omega) (by omega) (by omega)) (show ((0 : Nat) : Int) = 0 from rfl)) (by omega) (by omega) (by omega)) ?_
    have r3 := zH_k hZ 44 x1b (Z 49 x0b (12 * x2 + x10) 0) 4 (lo := 0) (hi := 40) (by decide) rfl
    refine wz_br (i3NE (zm_rd (Z := Z) (ν := ν) (k := 44) (rfl : ((x1b : Nat) : Int) = x1b) (i3I (y := (Z 49 x0b (12 * x2 + x10) 0)) (zm_rd (Z := Z) (ν := ν) (k := 49) (rfl : ((x0b : Nat) : Int) = x0b) (i3I (y := (12 * x2 + x10)) (i3A (i3M (rfl : i3 x2 = i3 x2) (show (12 : Int32) = i3 12 from rfl)) (rfl : i3 x10 = i3 x10)) (by omega) (by omega) (by omega)) (show ((0 : Nat) : Int) = 0 from rfl)) (by omega) (by omega) (by omega)) (show ((4 : Nat) : Int) = 4 from rfl)) (show (0 : Int32) = i3 0 from rfl) (by omega) (by omega) (by omega) (by omega)) (fun h4 => ?_) (fun h4 => ?_)
    · replace hP := zE_p hP h4
      obtain ⟨m2, rfl⟩ : ∃ m2, m = m2 + 1 := ⟨m - 1, by omega⟩
      exact wz_k1 ⟨m2, by omega, (x9 + 0), (x10 + 1), (zconso rfl (zconso rfl (zconso (zvo (rfl : i3 x2 = i3 x2)) (zconso rfl (zconso rfl (zconso rfl (zconso (zvo (rfl : i3 x6 = i3 x6)) (zconso rfl (zconso rfl (zconso (zvo (i3A (rfl : i3 x9 = i3 x9) (show (0 : Int32) = i3 0 from rfl))) (zconso (zvo (i3A (rfl : i3 x10 = i3 x10) (show (1 : Int32) = i3 1 from rfl))) (zconso rfl rfl)))))))))))), rfl,  by omega, by omega, by omega, by omega,  hP⟩
    · replace hP := zE_n hP h4
      obtain ⟨m2, rfl⟩ : ∃ m2, m = m2 + 1 := ⟨m - 1, by omega⟩
      exact wz_k1 ⟨m2, by omega, (x9 + 1), (x10 + 1), (zconso rfl (zconso rfl (zconso (zvo (rfl : i3 x2 = i3 x2)) (zconso rfl (zconso rfl (zconso rfl (zconso (zvo (rfl : i3 x6 = i3 x6)) (zconso rfl (zconso rfl (zconso (zvo (i3A (rfl : i3 x9 = i3 x9) (show (1 : Int32) = i3 1 from rfl))) (zconso (zvo (i3A (rfl : i3 x10 = i3 x10) (show (1 : Int32) = i3 1 from rfl))) (zconso rfl rfl)))))))))))), rfl,  by omega, by omega, by omega, by omega,  hP⟩
/- yX3_tellTakings -/
def zf_77 (Z : qz_Z) (a0b : Int) (a1b : Int) (a2 : Int) (a3 : Int) (a4 : Int) : qz_Z × Int := (zlet (zcp Z a0b a1b) (fun Z1 => (zlet2 (zf_74 Z1 a1b a2 (min (Z 48 a0b a2 5) a3)) (fun Z3 v4 => (if a4 = 0 then (Z3, v4) else (if a4 = 1 then (Z3, (w3 ((Z3 48 a1b a2 9) - (Z3 48 a0b a2 9)))) else (if a4 = 2 then (Z3, (w3 ((Z3 48 a1b a2 10) - (Z3 48 a0b a2 10)))) else (if a4 = 3 then (zlet2 (zl_77_1 a0b a1b a2 (min (Z 48 a0b a2 5) a3) 13 Z3 0 0) (fun y15 y16 => (Z3, y15))) else (if (min (Z 48 a0b a2 5) a3) ≠ 0 then (Z3, (Z3 48 a1b a2 6)) else (Z3, (-1)))))))))))
theorem sp_77 {s : zSM} {Z : qz_Z} {ν : qz_N} (hZ : zH s Z) (a0b : Nat) (a1b : Nat) {a2 : Int} (ga2 : 0 ≤ a2 ∧ a2 ≤ 1) {a3 : Int} (ga3 : 0 ≤ a3 ∧ a3 ≤ 12) {a4 : Int} (ga4 : 0 ≤ a4 ∧ a4 ≤ 4) (gx0 : a0b ≠ a1b) (hLta0b : zLt a0b Z) (hM : s.2 + 1066 ≤ 1000000000) : ∃ (Z1 : qz_Z) (P : Int), (Z1, P) = zf_77 Z a0b a1b a2 a3 a4 ∧ (qf_77 [.inr (.inr (some (10, a0b, 0))), .inr (.inr (some (10, a1b, 0))), .inl (i3 a2), .inl (i3 a3), .inl (i3 a4)] (zm Z ν) = some (zm Z1 ν, .inl (some (.inl (i3 P)))) ∧ zH (zb s 1066) Z1 ∧ zC [12, 13, 14, 40, 41, 42, 43, 44, 45, 46, 47, 48, 49, 50, 51, 52, 53, 54, 1099, 1100, 1101, 1102, 1103, 1104, 1105, 1106, 1107, 1108, 1109, 1110, 1111, 1112, 1113, 1114, 1115, 1116] Z Z1 ∧ zU [a1b] Z Z1 ∧ -2147483648 ≤ P ∧ P ≤ 2147483647 ∧ zLt a0b Z1) := by
  obtain ⟨P, hP⟩ := zx (zf_77 Z a0b a1b a2 a3 a4)
  refine zc_W (Q := fun Z1 P => zH (zb s 1066) Z1 ∧ zC [12, 13, 14, 40, 41, 42, 43, 44, 45, 46, 47, 48, 49, 50, 51, 52, 53, 54, 1099, 1100, 1101, 1102, 1103, 1104, 1105, 1106, 1107, 1108, 1109, 1110, 1111, 1112, 1113, 1114, 1115, 1116] Z Z1 ∧ zU [a1b] Z Z1 ∧ -2147483648 ≤ P ∧ P ≤ 2147483647 ∧ zLt a0b Z1) hP (fw_77 a0b a1b (i3 a2) (i3 a3) (i3 a4) _ _ ?_)
  replace hP : zE P (zf_77 Z a0b a1b a2 a3 a4) := hP
  unfold zf_77 at hP
  refine wz_i0 (i3O (n := 2) (rfl : i3 a2 = i3 a2) (by omega) (by omega) (by omega)) ?_
  obtain ⟨Z1, hZ1, c9, hZ1I, kZ1, gZ1⟩ := zH_cpe (ν := ν) hZ (rfl : ((a0b : Nat) : Int) = a0b) (rfl : ((a1b : Nat) : Int) = a1b) (by omega)
  have fZ1 : zC [12, 13, 14, 40, 41, 42, 43, 44, 45, 46, 47, 48, 49, 50, 51, 52, 53, 54, 1099, 1100, 1101, 1102, 1103, 1104, 1105, 1106, 1107, 1108, 1109, 1110, 1111, 1112, 1113, 1114, 1115, 1116] Z Z1 := zC_k kZ1 (by decide) (by decide)
  have aZ1 : ∀ {k : Nat} {i j : Int}, zhk k i j = true → Z1 k a1b i j = Z k a0b i j := fun hk => zcp_at hZ1 hk
  have hZ1K : zC [12, 13, 14, 40, 41, 42, 43, 44, 45, 46, 47, 48, 49, 50, 51, 52, 53, 54, 1099, 1100, 1101, 1102, 1103, 1104, 1105, 1106, 1107, 1108, 1109, 1110, 1111, 1112, 1113, 1114, 1115, 1116] Z Z1 := zC_t zC_r fZ1 (by decide)
  have jZ1 : zU [a1b] Z Z1 := zU_cp hZ1
  have hZ1U : zU [a1b] Z Z1 := zU_t zU_r jZ1 (zU_b1 (List.Mem.head _) zU_b0)
  replace hP := zl_e hP hZ1
  refine wz_cV_of c9 ?_
  clear c9
  have r2 := zH_k hZ 48 a0b a2 5 (lo := 0) (hi := 12) (by decide) rfl
  obtain ⟨Z3, v4, hv4, c9, hZ3I, kZ3, jZ3, lv4, uv4, tZ3_a0b⟩ := sp_74 (ν := ν) hZ1I a1b (a1 := a2) (by omega) (a2 := (min (Z 48 a0b a2 5) a3)) (by omega) (zLt_cp hLta0b hZ1) (zbh (c := 0) (k := 1066) hM (Nat.le_of_ble_eq_true rfl))
  have hZ3U : zU [a1b] Z Z3 := zU_t hZ1U jZ3 (zU_b1 (List.Mem.head _) zU_b0)
  have hZ3K : zC [12, 13, 14, 40, 41, 42, 43, 44, 45, 46, 47, 48, 49, 50, 51, 52, 53, 54, 1099, 1100, 1101, 1102, 1103, 1104, 1105, 1106, 1107, 1108, 1109, 1110, 1111, 1112, 1113, 1114, 1115, 1116] Z Z3 := zC_t hZ1K kZ3 (by decide)
  replace hP := zl_e2 hP hv4
  refine wz_cI_of (zas (zcons rfl (zcons (zvi (rfl : i3 a2 = i3 a2)) (zcons (zvi (i3Mn (zm_rd (Z := Z) (ν := ν) (k := 48) (rfl : ((a0b : Nat) : Int) = a0b) (i3I (y := a2) (rfl : i3 a2 = i3 a2) (by omega) (by omega) (by omega)) (show ((5 : Nat) : Int) = 5 from rfl)) (rfl : i3 a3 = i3 a3) (by omega) (by omega) (by omega) (by omega))) rfl))) c9) ?_
  clear c9 hv4
  refine wz_i0 (i3O (n := 2) (rfl : i3 a2 = i3 a2) (by omega) (by omega) (by omega)) ?_
  refine wz_i0 (Eq.trans (i3To (rfl : i3 a4 = i3 a4) (by omega) (by omega)) (decide_eq_false (by omega))) ?_
  refine wz_br (i3T (rfl : i3 a4 = i3 a4) (by omega) (by omega)) (fun h5 => ?_) (fun h5 => ?_)
  · replace hP := zE_p hP h5
    exact zlW hP (rfl : i3 v4 = i3 v4) ⟨hZ3I, hZ3K, hZ3U, by omega, by omega, (zLt_n (zLt_n hLta0b jZ1 (by simp <;> omega)) jZ3 (by simp <;> omega))⟩
  · replace hP := zE_n hP h5
    refine wz_br (i3T (rfl : i3 a4 = i3 a4) (by omega) (by omega)) (fun h6 => ?_) (fun h6 => ?_)
    · replace hP := zE_p hP h6
      have r7 := zH_f hZ3I 48 a1b a2 9
      have r8 := zH_f hZ3I 48 a0b a2 9
      have r9 := w3_r ((Z3 48 a1b a2 9) - (Z3 48 a0b a2 9))
      exact zlW hP (i3W (i3S (zm_rd (Z := Z3) (ν := ν) (k := 48) (rfl : ((a1b : Nat) : Int) = a1b) (i3I (y := a2) (rfl : i3 a2 = i3 a2) (by omega) (by omega) (by omega)) (show ((9 : Nat) : Int) = 9 from rfl)) (zm_rd (Z := Z3) (ν := ν) (k := 48) (rfl : ((a0b : Nat) : Int) = a0b) (i3I (y := a2) (rfl : i3 a2 = i3 a2) (by omega) (by omega) (by omega)) (show ((9 : Nat) : Int) = 9 from rfl)))) ⟨hZ3I, hZ3K, hZ3U, by omega, by omega, (zLt_n (zLt_n hLta0b jZ1 (by simp <;> omega)) jZ3 (by simp <;> omega))⟩
    · replace hP := zE_n hP h6
      refine wz_br (i3T (rfl : i3 a4 = i3 a4) (by omega) (by omega)) (fun h10 => ?_) (fun h10 => ?_)
      · replace hP := zE_p hP h10
        have r11 := zH_f hZ3I 48 a1b a2 10
        have r12 := zH_f hZ3I 48 a0b a2 10
        have r13 := w3_r ((Z3 48 a1b a2 10) - (Z3 48 a0b a2 10))
        exact zlW hP (i3W (i3S (zm_rd (Z := Z3) (ν := ν) (k := 48) (rfl : ((a1b : Nat) : Int) = a1b) (i3I (y := a2) (rfl : i3 a2 = i3 a2) (by omega) (by omega) (by omega)) (show ((10 : Nat) : Int) = 10 from rfl)) (zm_rd (Z := Z3) (ν := ν) (k := 48) (rfl : ((a0b : Nat) : Int) = a0b) (i3I (y := a2) (rfl : i3 a2 = i3 a2) (by omega) (by omega) (by omega)) (show ((10 : Nat) : Int) = 10 from rfl)))) ⟨hZ3I, hZ3K, hZ3U, by omega, by omega, (zLt_n (zLt_n hLta0b jZ1 (by simp <;> omega)) jZ3 (by simp <;> omega))⟩
      · replace hP := zE_n hP h10
        refine wz_br (i3T (rfl : i3 a4 = i3 a4) (by omega) (by omega)) (fun h14 => ?_) (fun h14 => ?_)
        · replace hP := zE_p hP h14
          refine sl_77_1 (ν := ν) hZ3I (zbh (c := 1066) (k := 0) hM (Nat.le_of_ble_eq_true rfl)) a0b a1b (x2 := a2) (by omega) (x6 := (min (Z 48 a0b a2 5) a3)) (by omega) (x9 := 0) (by omega) (x10 := 0) (by omega) (by omega) (zconso rfl (zconso rfl (zconso (zvo (rfl : i3 a2 = i3 a2)) (zconso rfl (zconso rfl (zconso rfl (zconso (zvo (i3Mn (zm_rd (Z := Z) (ν := ν) (k := 48) (rfl : ((a0b : Nat) : Int) = a0b) (i3I (y := a2) (rfl : i3 a2 = i3 a2) (by omega) (by omega) (by omega)) (show ((5 : Nat) : Int) = 5 from rfl)) (rfl : i3 a3 = i3 a3) (by omega) (by omega) (by omega) (by omega))) (zconso rfl (zconso rfl (zconso (zvo (show (0 : Int32) = i3 0 from rfl)) (zconso (zvo (show (0 : Int32) = i3 0 from rfl)) (zconso rfl rfl)))))))))))) rfl ?_
          intro L17 y15 y16 hL17 gy15 gy16 gL17_0 q9
          replace hP := zl_e2 hP (Eq.symm q9)
          clear q9
          refine fc_77_2 (i3 y15) _ _ _ _ hL17 ?_
          exact zlW hP (rfl : i3 y15 = i3 y15) ⟨hZ3I, hZ3K, hZ3U, by omega, by omega, (zLt_n (zLt_n hLta0b jZ1 (by simp <;> omega)) jZ3 (by simp <;> omega))⟩
        · replace hP := zE_n hP h14
          refine wz_i1 (Eq.trans (i3T (rfl : i3 a4 = i3 a4) (by omega) (by omega)) (decide_eq_true (by omega))) ?_
          refine wz_br (i3NE (i3Mn (zm_rd (Z := Z) (ν := ν) (k := 48) (rfl : ((a0b : Nat) : Int) = a0b) (i3I (y := a2) (rfl : i3 a2 = i3 a2) (by omega) (by omega) (by omega)) (show ((5 : Nat) : Int) = 5 from rfl)) (rfl : i3 a3 = i3 a3) (by omega) (by omega) (by omega) (by omega)) (show (0 : Int32) = i3 0 from rfl) (by omega) (by omega) (by omega) (by omega)) (fun h18 => ?_) (fun h18 => ?_)
          · replace hP := zE_p hP h18
            have r19 := zH_k hZ3I 48 a1b a2 6 (lo := -1) (hi := 9999) (by decide) rfl
            exact zlW hP (zm_rd (Z := Z3) (ν := ν) (k := 48) (rfl : ((a1b : Nat) : Int) = a1b) (i3I (y := a2) (rfl : i3 a2 = i3 a2) (by omega) (by omega) (by omega)) (show ((6 : Nat) : Int) = 6 from rfl)) ⟨hZ3I, hZ3K, hZ3U, by omega, by omega, (zLt_n (zLt_n hLta0b jZ1 (by simp <;> omega)) jZ3 (by simp <;> omega))⟩
          · replace hP := zE_n hP h18
            exact zlW hP (show (-1 : Int32) = i3 (-1) from rfl) ⟨hZ3I, hZ3K, hZ3U, by omega, by omega, (zLt_n (zLt_n hLta0b jZ1 (by simp <;> omega)) jZ3 (by simp <;> omega))⟩
/- yX3_areSound -/
def zl_61_1 (x0b : Int) (x1b : Int) : Nat → qz_Z → Int → Int → Int × Int
  | 0, Z, x3, x4 => (x3, x4)
  | m + 1, Z, x3, x4 => (if (Z 11 x0b 0 3) ≤ x4 then (x3, x4) else (if x3 = 0 then (x3, x4) else (if (Z 44 x0b x4 10) ≠ 1 then (zlet (zf_68 Z x0b x4) (fun v6 => (if v6 ≠ 0 then zl_61_1 x0b x1b m Z 0 (x4 + 1) else zl_61_1 x0b x1b m Z 1 (x4 + 1)))) else (zlet (zf_68 Z x0b x4) (fun v8 => (if v8 ≠ 1 then zl_61_1 x0b x1b m Z 0 (x4 + 1) else (if (Z 44 x0b x4 4) ≤ 0 then zl_61_1 x0b x1b m Z 0 (x4 + 1) else zl_61_1 x0b x1b m Z 1 (x4 + 1))))))))
theorem sl_61_1 {s : zSM} {Z : qz_Z} {ν : qz_N} (hZ : zH s Z) (hM : s.2 + 0 ≤ 1000000000) (x0b : Nat) (x1b : Nat) {x3 : Int} (gx3 : 0 ≤ x3 ∧ x3 ≤ 1) {x4 : Int} (gx4 : 0 ≤ x4 ∧ x4 ≤ 48) (hLtx0b : zLt x0b Z) (gr0 : x0b ≠ x1b) {k : wz_K} {R : wz_R} {L : qz_L} (hL : qz_fg [true, true, true, true, true, false, false, false, false] L = [some (.inr (.inr (some (10, x0b, 0)))), some (.inr (.inr (some (10, x1b, 0)))), some (.inr (.inr (some (69, 0, 0)))), some (.inl (i3 x3)), some (.inl (i3 x4)), none, none, none, none]) {T : Int × Int} (hP : zE T (zl_61_1 x0b x1b ((48 - x4).toNat + 1) Z x3 x4)) (hk : ∀ (L9 : qz_L) (yx3 yx4 : Int), qz_fg [true, true, true, true, false, false, false, false, false] L9 = [some (.inr (.inr (some (10, x0b, 0)))), some (.inr (.inr (some (10, x1b, 0)))), some (.inr (.inr (some (69, 0, 0)))), some (.inl (i3 yx3)), none, none, none, none, none] → (0 ≤ yx3 ∧ yx3 ≤ 1) → (0 ≤ yx4 ∧ yx4 ≤ 48) → (x0b ≠ x1b) → zE T ((yx3, yx4)) → k 0 (L9, [], zm Z ν)) : wz_loop qb_61_1 65536 k R (L, [], zm Z ν) := by
  refine wz_lp sb_61_1 (fun m x => ∃ x3 : Int, ∃ x4 : Int, qz_fg [true, true, true, true, true, false, false, false, false] x.1 = [some (.inr (.inr (some (10, x0b, 0)))), some (.inr (.inr (some (10, x1b, 0)))), some (.inr (.inr (some (69, 0, 0)))), some (.inl (i3 x3)), some (.inl (i3 x4)), none, none, none, none] ∧ x.2 = ([], zm Z ν) ∧ m = (48 - x4).toNat ∧ (0 ≤ x3 ∧ x3 ≤ 1) ∧ (0 ≤ x4 ∧ x4 ≤ 48) ∧ (x0b ≠ x1b) ∧ zE T (zl_61_1 x0b x1b (m + 1) Z x3 x4)) ?_ 65536 ((48 - x4).toNat) _ (by omega) ⟨x3, x4, hL, rfl, rfl, gx3, gx4, gr0, hP⟩
  clear hP gr0 gx3 gx4 hL
  clear x3 x4
  rintro m ⟨L, st, μ⟩ ⟨x3, x4, hL, hx, hm, gx3, gx4, gr0, hP⟩
  cases hx
  refine fb_61_1 x0b x1b (i3 x3) (i3 x4) _ _ _ _ hL ?_
  have r1 := zH_k hZ 11 x0b 0 3 (lo := 0) (hi := 48) (by decide) rfl
  refine wz_br (i3Le (zm_rd (Z := Z) (ν := ν) (k := 11) (rfl : ((x0b : Nat) : Int) = x0b) (show ((0 : Nat) : Int) = 0 from rfl) (show ((3 : Nat) : Int) = 3 from rfl)) (rfl : i3 x4 = i3 x4) (by omega) (by omega) (by omega) (by omega)) (fun h2 => ?_) (fun h2 => ?_)
  · replace hP := zE_p hP h2
    exact hk _ _ _ (zconso rfl (zconso rfl (zconso rfl (zconso (zvo (rfl : i3 x3 = i3 x3)) (zconso rfl (zconso rfl (zconso rfl (zconso rfl (zconso rfl rfl)))))))))  (by omega) (by omega) (by omega) hP
  · replace hP := zE_n hP h2
    refine wz_br (i3E (rfl : i3 x3 = i3 x3) (show (0 : Int32) = i3 0 from rfl) (by omega) (by omega) (by omega) (by omega)) (fun h3 => ?_) (fun h3 => ?_)
    · replace hP := zE_p hP h3
      exact hk _ _ _ (zconso rfl (zconso rfl (zconso rfl (zconso (zvo (rfl : i3 x3 = i3 x3)) (zconso rfl (zconso rfl (zconso rfl (zconso rfl (zconso rfl rfl)))))))))  (by omega) (by omega) (by omega) hP
    · replace hP := zE_n hP h3
      refine wz_i0 (i3O (n := 48) (rfl : i3 x4 = i3 x4) (by omega) (by omega) (by omega)) ?_
      have r4 := zH_k hZ 44 x0b x4 10 (lo := 0) (hi := 4) (by decide) rfl
      refine wz_br (i3NE (zm_rd (Z := Z) (ν := ν) (k := 44) (rfl : ((x0b : Nat) : Int) = x0b) (i3I (y := x4) (rfl : i3 x4 = i3 x4) (by omega) (by omega) (by omega)) (show ((10 : Nat) : Int) = 10 from rfl)) (show (1 : Int32) = i3 1 from rfl) (by omega) (by omega) (by omega) (by omega)) (fun h5 => ?_) (fun h5 => ?_)
      · replace hP := zE_p hP h5
        obtain ⟨v6, hv6, c9, lv6, uv6⟩ := sp_68 (ν := ν) hZ x0b (a1 := x4) (by omega) (zbh (c := 0) (k := 0) hM (Nat.le_of_ble_eq_true rfl))
        replace hP := zl_e hP hv6
        refine wz_cI_of (zas (zcons rfl (zcons (zvi (rfl : i3 x4 = i3 x4)) rfl)) c9) ?_
        clear c9
        refine wz_br (i3NE (rfl : i3 v6 = i3 v6) (show (0 : Int32) = i3 0 from rfl) (by omega) (by omega) (by omega) (by omega)) (fun h7 => ?_) (fun h7 => ?_)
        · replace hP := zE_p hP h7
          obtain ⟨m2, rfl⟩ : ∃ m2, m = m2 + 1 := ⟨m - 1, by omega⟩
          exact wz_k1 ⟨m2, by omega, 0, (x4 + 1), (zconso rfl (zconso rfl (zconso rfl (zconso (zvo (show (0 : Int32) = i3 0 from rfl)) (zconso (zvo (i3A (rfl : i3 x4 = i3 x4) (show (1 : Int32) = i3 1 from rfl))) (zconso rfl (zconso rfl (zconso rfl (zconso rfl rfl))))))))), rfl,  by omega, by omega, by omega, by omega,  hP⟩
        · replace hP := zE_n hP h7
          obtain ⟨m2, rfl⟩ : ∃ m2, m = m2 + 1 := ⟨m - 1, by omega⟩
          exact wz_k1 ⟨m2, by omega, 1, (x4 + 1), (zconso rfl (zconso rfl (zconso rfl (zconso (zvo (show (1 : Int32) = i3 1 from rfl)) (zconso (zvo (i3A (rfl : i3 x4 = i3 x4) (show (1 : Int32) = i3 1 from rfl))) (zconso rfl (zconso rfl (zconso rfl (zconso rfl rfl))))))))), rfl,  by omega, by omega, by omega, by omega,  hP⟩
      · replace hP := zE_n hP h5
        obtain ⟨v8, hv8, c9, lv8, uv8⟩ := sp_68 (ν := ν) hZ x0b (a1 := x4) (by omega) (zbh (c := 0) (k := 0) hM (Nat.le_of_ble_eq_true rfl))
        replace hP := zl_e hP hv8
        refine wz_cI_of (zas (zcons rfl (zcons (zvi (rfl : i3 x4 = i3 x4)) rfl)) c9) ?_
        clear c9
        refine wz_br (i3NE (rfl : i3 v8 = i3 v8) (show (1 : Int32) = i3 1 from rfl) (by omega) (by omega) (by omega) (by omega)) (fun h9 => ?_) (fun h9 => ?_)
        · replace hP := zE_p hP h9
          obtain ⟨m2, rfl⟩ : ∃ m2, m = m2 + 1 := ⟨m - 1, by omega⟩
          exact wz_k1 ⟨m2, by omega, 0, (x4 + 1), (zconso rfl (zconso rfl (zconso rfl (zconso (zvo (show (0 : Int32) = i3 0 from rfl)) (zconso (zvo (i3A (rfl : i3 x4 = i3 x4) (show (1 : Int32) = i3 1 from rfl))) (zconso rfl (zconso rfl (zconso rfl (zconso rfl rfl))))))))), rfl,  by omega, by omega, by omega, by omega,  hP⟩
        · replace hP := zE_n hP h9
          refine wz_i0 (i3O (n := 48) (rfl : i3 x4 = i3 x4) (by omega) (by omega) (by omega)) ?_
          have r10 := zH_k hZ 44 x0b x4 4 (lo := 0) (hi := 40) (by decide) rfl
          refine wz_br (i3Le (zm_rd (Z := Z) (ν := ν) (k := 44) (rfl : ((x0b : Nat) : Int) = x0b) (i3I (y := x4) (rfl : i3 x4 = i3 x4) (by omega) (by omega) (by omega)) (show ((4 : Nat) : Int) = 4 from rfl)) (show (0 : Int32) = i3 0 from rfl) (by omega) (by omega) (by omega) (by omega)) (fun h11 => ?_) (fun h11 => ?_)
          · replace hP := zE_p hP h11
            obtain ⟨m2, rfl⟩ : ∃ m2, m = m2 + 1 := ⟨m - 1, by omega⟩
            exact wz_k1 ⟨m2, by omega, 0, (x4 + 1), (zconso rfl (zconso rfl (zconso rfl (zconso (zvo (show (0 : Int32) = i3 0 from rfl)) (zconso (zvo (i3A (rfl : i3 x4 = i3 x4) (show (1 : Int32) = i3 1 from rfl))) (zconso rfl (zconso rfl (zconso rfl (zconso rfl rfl))))))))), rfl,  by omega, by omega, by omega, by omega,  hP⟩
          · replace hP := zE_n hP h11
            obtain ⟨m2, rfl⟩ : ∃ m2, m = m2 + 1 := ⟨m - 1, by omega⟩
            exact wz_k1 ⟨m2, by omega, 1, (x4 + 1), (zconso rfl (zconso rfl (zconso rfl (zconso (zvo (show (1 : Int32) = i3 1 from rfl)) (zconso (zvo (i3A (rfl : i3 x4 = i3 x4) (show (1 : Int32) = i3 1 from rfl))) (zconso rfl (zconso rfl (zconso rfl (zconso rfl rfl))))))))), rfl,  by omega, by omega, by omega, by omega,  hP⟩
/- yX3_areSound -/
def zl_61_2 (x0b : Int) (x1b : Int) (x3 : Int) : Nat → qz_Z → Int → Int → Int × Int
  | 0, Z, x4, x5 => (x4, x5)
  | m + 1, Z, x4, x5 => (if (Z 11 x0b 0 6) ≤ x5 then (x4, x5) else zl_61_2 x0b x1b x3 m Z (w3 (x4 + (Z 47 x0b x5 18))) (x5 + 1))
theorem sl_61_2 {s : zSM} {Z : qz_Z} {ν : qz_N} (hZ : zH s Z) (hM : s.2 + 0 ≤ 1000000000) (x0b : Nat) (x1b : Nat) {x3 : Int} (gx3 : 0 ≤ x3 ∧ x3 ≤ 1) {x4 : Int} (gx4 : -2147483648 ≤ x4 ∧ x4 ≤ 2147483647) {x5 : Int} (gx5 : 0 ≤ x5 ∧ x5 ≤ 60) (hLtx0b : zLt x0b Z) (gr0 : x0b ≠ x1b) {k : wz_K} {R : wz_R} {L : qz_L} (hL : qz_fg [true, true, true, true, true, true, false, false, false] L = [some (.inr (.inr (some (10, x0b, 0)))), some (.inr (.inr (some (10, x1b, 0)))), some (.inr (.inr (some (69, 0, 0)))), some (.inl (i3 x3)), some (.inl (i3 x4)), some (.inl (i3 x5)), none, none, none]) {T : Int × Int} (hP : zE T (zl_61_2 x0b x1b x3 ((60 - x5).toNat + 1) Z x4 x5)) (hk : ∀ (L9 : qz_L) (yx4 yx5 : Int), qz_fg [true, true, true, true, true, false, false, false, false] L9 = [some (.inr (.inr (some (10, x0b, 0)))), some (.inr (.inr (some (10, x1b, 0)))), some (.inr (.inr (some (69, 0, 0)))), some (.inl (i3 x3)), some (.inl (i3 yx4)), none, none, none, none] → (-2147483648 ≤ yx4 ∧ yx4 ≤ 2147483647) → (0 ≤ yx5 ∧ yx5 ≤ 60) → (x0b ≠ x1b) → zE T ((yx4, yx5)) → k 0 (L9, [], zm Z ν)) : wz_loop qb_61_2 65536 k R (L, [], zm Z ν) := by
  refine wz_lp sb_61_2 (fun m x => ∃ x4 : Int, ∃ x5 : Int, qz_fg [true, true, true, true, true, true, false, false, false] x.1 = [some (.inr (.inr (some (10, x0b, 0)))), some (.inr (.inr (some (10, x1b, 0)))), some (.inr (.inr (some (69, 0, 0)))), some (.inl (i3 x3)), some (.inl (i3 x4)), some (.inl (i3 x5)), none, none, none] ∧ x.2 = ([], zm Z ν) ∧ m = (60 - x5).toNat ∧ (-2147483648 ≤ x4 ∧ x4 ≤ 2147483647) ∧ (0 ≤ x5 ∧ x5 ≤ 60) ∧ (x0b ≠ x1b) ∧ zE T (zl_61_2 x0b x1b x3 (m + 1) Z x4 x5)) ?_ 65536 ((60 - x5).toNat) _ (by omega) ⟨x4, x5, hL, rfl, rfl, gx4, gx5, gr0, hP⟩
  clear hP gr0 gx4 gx5 hL
  clear x4 x5
  rintro m ⟨L, st, μ⟩ ⟨x4, x5, hL, hx, hm, gx4, gx5, gr0, hP⟩
  cases hx
  refine fb_61_2 x0b x1b (i3 x3) (i3 x4) (i3 x5) _ _ _ _ hL ?_
  have r1 := zH_k hZ 11 x0b 0 6 (lo := 0) (hi := 60) (by decide) rfl
  refine wz_br (i3Le (zm_rd (Z := Z) (ν := ν) (k := 11) (rfl : ((x0b : Nat) : Int) = x0b) (show ((0 : Nat) : Int) = 0 from rfl) (show ((6 : Nat) : Int) = 6 from rfl)) (rfl : i3 x5 = i3 x5) (by omega) (by omega) (by omega) (by omega)) (fun h2 => ?_) (fun h2 => ?_)
  · replace hP := zE_p hP h2
    exact hk _ _ _ (zconso rfl (zconso rfl (zconso rfl (zconso (zvo (rfl : i3 x3 = i3 x3)) (zconso (zvo (rfl : i3 x4 = i3 x4)) (zconso rfl (zconso rfl (zconso rfl (zconso rfl rfl)))))))))  (by omega) (by omega) (by omega) hP
  · replace hP := zE_n hP h2
    refine wz_i0 (i3O (n := 60) (rfl : i3 x5 = i3 x5) (by omega) (by omega) (by omega)) ?_
    have r3 := zH_k hZ 47 x0b x5 18 (lo := 0) (hi := 399960) (by decide) rfl
    have r4 := w3_r (x4 + (Z 47 x0b x5 18))
    obtain ⟨m2, rfl⟩ : ∃ m2, m = m2 + 1 := ⟨m - 1, by omega⟩
    exact wz_k1 ⟨m2, by omega, (w3 (x4 + (Z 47 x0b x5 18))), (x5 + 1), (zconso rfl (zconso rfl (zconso rfl (zconso (zvo (rfl : i3 x3 = i3 x3)) (zconso (zvo (i3W (i3A (rfl : i3 x4 = i3 x4) (zm_rd (Z := Z) (ν := ν) (k := 47) (rfl : ((x0b : Nat) : Int) = x0b) (i3I (y := x5) (rfl : i3 x5 = i3 x5) (by omega) (by omega) (by omega)) (show ((18 : Nat) : Int) = 18 from rfl))))) (zconso (zvo (i3A (rfl : i3 x5 = i3 x5) (show (1 : Int32) = i3 1 from rfl))) (zconso rfl (zconso rfl (zconso rfl rfl))))))))), rfl,  by omega, by omega, by omega, by omega,  hP⟩
/- yX3_areSound -/
def zl_61_3 (x0b : Int) (x1b : Int) (x5 : Int) : Nat → qz_Z → Int → Int → Int → Int → qz_Z × Int × Int × Int × Int
  | 0, Z, n8, x3, x4, x6 => (Z, n8, x3, x4, x6)
  | m + 1, Z, n8, x3, x4, x6 => (if (Z 11 x0b 0 7) ≤ x6 then (Z, n8, x3, x4, x6) else (if x3 = 0 then (Z, n8, x3, x4, x6) else (zlet2 (zf_77 Z x0b x1b x6 (Z 48 x0b x6 5) 0) (fun Z5 v6 => (if x5 < v6 then zl_61_3 x0b x1b x5 m Z5 n8 0 (w3 (x4 - (Z5 48 x0b x6 11))) (x6 + 1) else (if (Z 48 x0b x6 5) < 1 then zl_61_3 x0b x1b x5 m Z5 n8 1 (w3 (x4 - (Z5 48 x0b x6 11))) (x6 + 1) else (if 3 < (Z 48 x0b x6 5) then zl_61_3 x0b x1b x5 m Z5 n8 1 (w3 (x4 - (Z5 48 x0b x6 11))) (x6 + 1) else (zlet3 (zf_62 Z5 n8 x0b x1b x6) (fun Z16 n19 v17 => (if v17 < v6 then zl_61_3 x0b x1b x5 m Z16 n19 0 (w3 (x4 - (Z5 48 x0b x6 11))) (x6 + 1) else zl_61_3 x0b x1b x5 m Z16 n19 1 (w3 (x4 - (Z5 48 x0b x6 11))) (x6 + 1)))))))))))
theorem sl_61_3 {s : zSM} {xM9 : Nat} {Zs Z : qz_Z} {νs : qz_N} {ν : qz_N} (hZ : zH (zb s xM9) Z) (hM : s.2 + 390156 ≤ 1000000000) (hs : s.1 = none) {n9 n8 : Nat} (hn : ν.2.2.2.1 = n8) (h98 : n9 ≤ n8) (hG : zGl 192 νs ν) (x0b : Nat) (x1b : Nat) {x3 : Int} (gx3 : 0 ≤ x3 ∧ x3 ≤ 1) {x4 : Int} (gx4 : -2147483648 ≤ x4 ∧ x4 ≤ 2147483647) {x5 : Int} (gx5 : -2147483648 ≤ x5 ∧ x5 ≤ 2147483647) {x6 : Int} (gx6 : 0 ≤ x6 ∧ x6 ≤ 2) (hK : zL [12, 13, 14, 40, 41, 42, 43, 44, 45, 46, 47, 48, 49, 50, 51, 52, 53, 54, 69, 1099, 1100, 1101, 1102, 1103, 1104, 1105, 1106, 1107, 1108, 1109, 1110, 1111, 1112, 1113, 1114, 1115, 1116] [] n9 Zs Z) (hU : zU [x1b] Zs Z) (hLtx0b : zLt x0b Z) (hx9 : xM9 + 130052 * ((2 - x6).toNat) + 130052 ≤ 390156) (gr0 : x0b ≠ x1b) {k : wz_K} {R : wz_R} {L : qz_L} (hL : qz_fg [true, true, true, true, true, true, true, false, false] L = [some (.inr (.inr (some (10, x0b, 0)))), some (.inr (.inr (some (10, x1b, 0)))), some (.inr (.inr (some (69, 0, 0)))), some (.inl (i3 x3)), some (.inl (i3 x4)), some (.inl (i3 x5)), some (.inl (i3 x6)), none, none]) {T : qz_Z × Int × Int × Int × Int} (hP : zE T (zl_61_3 x0b x1b x5 ((2 - x6).toNat + 1) Z n8 x3 x4 x6)) (hk : ∀ (L9 : qz_L) (Z9 : qz_Z) (ν9 : qz_N) (n7 : Nat) (yx3 yx4 yx6 : Int), qz_fg [false, false, false, true, true, false, false, false, false] L9 = [none, none, none, some (.inl (i3 yx3)), some (.inl (i3 yx4)), none, none, none, none] → zH (zb s 390156) Z9 → zL [12, 13, 14, 40, 41, 42, 43, 44, 45, 46, 47, 48, 49, 50, 51, 52, 53, 54, 69, 1099, 1100, 1101, 1102, 1103, 1104, 1105, 1106, 1107, 1108, 1109, 1110, 1111, 1112, 1113, 1114, 1115, 1116] [] n9 Zs Z9 → zU [x1b] Zs Z9 → ν9.2.2.2.1 = n7 → zGl 192 νs ν9 → n9 ≤ n7 → zLt x0b Z9 → (0 ≤ yx3 ∧ yx3 ≤ 1) → (-2147483648 ≤ yx4 ∧ yx4 ≤ 2147483647) → (0 ≤ yx6 ∧ yx6 ≤ 2) → (x0b ≠ x1b) → zE T ((Z9, (n7 : Int), yx3, yx4, yx6)) → k 0 (L9, [], zm Z9 ν9)) : wz_loop qb_61_3 65536 k R (L, [], zm Z ν) := by
  refine wz_lp sb_61_3 (fun m x => ∃ xM9 : Nat, ∃ Z : qz_Z, ∃ ν : qz_N, ∃ n8 : Nat, ∃ x3 : Int, ∃ x4 : Int, ∃ x6 : Int, qz_fg [true, true, true, true, true, true, true, false, false] x.1 = [some (.inr (.inr (some (10, x0b, 0)))), some (.inr (.inr (some (10, x1b, 0)))), some (.inr (.inr (some (69, 0, 0)))), some (.inl (i3 x3)), some (.inl (i3 x4)), some (.inl (i3 x5)), some (.inl (i3 x6)), none, none] ∧ x.2 = ([], zm Z ν) ∧ xM9 + 130052 * m + 130052 ≤ 390156 ∧ zH (zb s xM9) Z ∧ zL [12, 13, 14, 40, 41, 42, 43, 44, 45, 46, 47, 48, 49, 50, 51, 52, 53, 54, 69, 1099, 1100, 1101, 1102, 1103, 1104, 1105, 1106, 1107, 1108, 1109, 1110, 1111, 1112, 1113, 1114, 1115, 1116] [] n9 Zs Z ∧ zU [x1b] Zs Z ∧ ν.2.2.2.1 = n8 ∧ n9 ≤ n8 ∧ zGl 192 νs ν ∧ zLt x0b Z ∧ m = (2 - x6).toNat ∧ (0 ≤ x3 ∧ x3 ≤ 1) ∧ (-2147483648 ≤ x4 ∧ x4 ≤ 2147483647) ∧ (0 ≤ x6 ∧ x6 ≤ 2) ∧ (x0b ≠ x1b) ∧ zE T (zl_61_3 x0b x1b x5 (m + 1) Z n8 x3 x4 x6)) ?_ 65536 ((2 - x6).toNat) _ (by omega) ⟨xM9, Z, ν, n8, x3, x4, x6, hL, rfl, hx9, hZ, hK, hU, hn, h98, hG, hLtx0b, rfl, gx3, gx4, gx6, gr0, hP⟩
  clear hP gr0 gx3 gx4 gx6 hx9 hZ hK hU hn h98 hG hLtx0b hL
  clear x3 x4 x6
  clear Z n8
  clear ν
  clear xM9
  rintro m ⟨L, st, μ⟩ ⟨xM9, Z, ν, n8, x3, x4, x6, hL, hx, hx9, hZ, hK, hU, hn, h98, hG, hLtx0b, hm, gx3, gx4, gx6, gr0, hP⟩
  cases hx
  have hM9 : (zb s xM9).2 + 130052 ≤ 1000000000 := by
    show s.2 + xM9 + 130052 ≤ 1000000000
    omega
  refine fb_61_3 x0b x1b (i3 x3) (i3 x4) (i3 x5) (i3 x6) _ _ _ _ hL ?_
  have r1 := zH_k hZ 11 x0b 0 7 (lo := 0) (hi := 2) (by decide) rfl
  refine wz_br (i3Le (zm_rd (Z := Z) (ν := ν) (k := 11) (rfl : ((x0b : Nat) : Int) = x0b) (show ((0 : Nat) : Int) = 0 from rfl) (show ((7 : Nat) : Int) = 7 from rfl)) (rfl : i3 x6 = i3 x6) (by omega) (by omega) (by omega) (by omega)) (fun h2 => ?_) (fun h2 => ?_)
  · replace hP := zE_p hP h2
    exact hk _ _ _ _ _ _ _ (zconso rfl (zconso rfl (zconso rfl (zconso (zvo (rfl : i3 x3 = i3 x3)) (zconso (zvo (rfl : i3 x4 = i3 x4)) (zconso rfl (zconso rfl (zconso rfl (zconso rfl rfl))))))))) (zbx0 hZ (by omega)) hK hU hn hG (by omega) hLtx0b (by omega) (by omega) (by omega) (by omega) hP
  · replace hP := zE_n hP h2
    refine wz_br (i3E (rfl : i3 x3 = i3 x3) (show (0 : Int32) = i3 0 from rfl) (by omega) (by omega) (by omega) (by omega)) (fun h3 => ?_) (fun h3 => ?_)
    · replace hP := zE_p hP h3
      exact hk _ _ _ _ _ _ _ (zconso rfl (zconso rfl (zconso rfl (zconso (zvo (rfl : i3 x3 = i3 x3)) (zconso (zvo (rfl : i3 x4 = i3 x4)) (zconso rfl (zconso rfl (zconso rfl (zconso rfl rfl))))))))) (zbx0 hZ (by omega)) hK hU hn hG (by omega) hLtx0b (by omega) (by omega) (by omega) (by omega) hP
    · replace hP := zE_n hP h3
      refine wz_i0 (i3O (n := 2) (rfl : i3 x6 = i3 x6) (by omega) (by omega) (by omega)) ?_
      have r4 := zH_k hZ 48 x0b x6 5 (lo := 0) (hi := 12) (by decide) rfl
      obtain ⟨Z5, v6, hv6, c9, hZ5I, kZ5, jZ5, lv6, uv6, tZ5_a0b⟩ := sp_77 (ν := ν) hZ x0b x1b (a2 := x6) (by omega) (a3 := (Z 48 x0b x6 5)) (by omega) (a4 := 0) (by omega) (by omega) hLtx0b (zbh (c := 0) (k := 1066) hM9 (Nat.le_of_ble_eq_true rfl))
      have hZ5U : zU [x1b] Zs Z5 := zU_t hU jZ5 (zU_b1 (List.Mem.head _) zU_b0)
      have hZ5K : zL [12, 13, 14, 40, 41, 42, 43, 44, 45, 46, 47, 48, 49, 50, 51, 52, 53, 54, 69, 1099, 1100, 1101, 1102, 1103, 1104, 1105, 1106, 1107, 1108, 1109, 1110, 1111, 1112, 1113, 1114, 1115, 1116] [] n9 Zs Z5 := zL_c hK kZ5 (by decide)
      replace hP := zl_e2 hP hv6
      refine wz_cI_of (zas (zcons rfl (zcons rfl (zcons (zvi (rfl : i3 x6 = i3 x6)) (zcons (zvi (zm_rd (Z := Z) (ν := ν) (k := 48) (rfl : ((x0b : Nat) : Int) = x0b) (i3I (y := x6) (rfl : i3 x6 = i3 x6) (by omega) (by omega) (by omega)) (show ((5 : Nat) : Int) = 5 from rfl))) (zcons (zvi (show (0 : Int32) = i3 0 from rfl)) rfl))))) c9) ?_
      clear c9 hv6
      refine wz_i0 (i3O (n := 2) (rfl : i3 x6 = i3 x6) (by omega) (by omega) (by omega)) ?_
      refine wz_br (i3L (rfl : i3 x5 = i3 x5) (rfl : i3 v6 = i3 v6) (by omega) (by omega) (by omega) (by omega)) (fun h7 => ?_) (fun h7 => ?_)
      · replace hP := zE_p hP h7
        have r8 := zH_f hZ5I 48 x0b x6 11
        have r9 := w3_r (x4 - (Z5 48 x0b x6 11))
        obtain ⟨m2, rfl⟩ : ∃ m2, m = m2 + 1 := ⟨m - 1, by omega⟩
        exact wz_k1 ⟨m2, by omega, xM9 + 1066, Z5, ν, n8, 0, (w3 (x4 - (Z5 48 x0b x6 11))), (x6 + 1), (zconso rfl (zconso rfl (zconso rfl (zconso (zvo (show (0 : Int32) = i3 0 from rfl)) (zconso (zvo (i3W (i3S (rfl : i3 x4 = i3 x4) (zm_rd (Z := Z5) (ν := ν) (k := 48) (rfl : ((x0b : Nat) : Int) = x0b) (i3I (y := x6) (rfl : i3 x6 = i3 x6) (by omega) (by omega) (by omega)) (show ((11 : Nat) : Int) = 11 from rfl))))) (zconso (zvo (rfl : i3 x5 = i3 x5)) (zconso (zvo (i3A (rfl : i3 x6 = i3 x6) (show (1 : Int32) = i3 1 from rfl))) (zconso rfl (zconso rfl rfl))))))))), rfl, by omega, (zbt hZ5I rfl), hZ5K, hZ5U, hn, by omega, hG, tZ5_a0b, by omega, by omega, by omega, by omega, by omega,  hP⟩
      · replace hP := zE_n hP h7
        refine wz_br (i3L (zm_rd (Z := Z) (ν := ν) (k := 48) (rfl : ((x0b : Nat) : Int) = x0b) (i3I (y := x6) (rfl : i3 x6 = i3 x6) (by omega) (by omega) (by omega)) (show ((5 : Nat) : Int) = 5 from rfl)) (show (1 : Int32) = i3 1 from rfl) (by omega) (by omega) (by omega) (by omega)) (fun h10 => ?_) (fun h10 => ?_)
        · replace hP := zE_p hP h10
          have r11 := zH_f hZ5I 48 x0b x6 11
          have r12 := w3_r (x4 - (Z5 48 x0b x6 11))
          obtain ⟨m2, rfl⟩ : ∃ m2, m = m2 + 1 := ⟨m - 1, by omega⟩
          exact wz_k1 ⟨m2, by omega, xM9 + 1066, Z5, ν, n8, 1, (w3 (x4 - (Z5 48 x0b x6 11))), (x6 + 1), (zconso rfl (zconso rfl (zconso rfl (zconso (zvo (show (1 : Int32) = i3 1 from rfl)) (zconso (zvo (i3W (i3S (rfl : i3 x4 = i3 x4) (zm_rd (Z := Z5) (ν := ν) (k := 48) (rfl : ((x0b : Nat) : Int) = x0b) (i3I (y := x6) (rfl : i3 x6 = i3 x6) (by omega) (by omega) (by omega)) (show ((11 : Nat) : Int) = 11 from rfl))))) (zconso (zvo (rfl : i3 x5 = i3 x5)) (zconso (zvo (i3A (rfl : i3 x6 = i3 x6) (show (1 : Int32) = i3 1 from rfl))) (zconso rfl (zconso rfl rfl))))))))), rfl, by omega, (zbt hZ5I rfl), hZ5K, hZ5U, hn, by omega, hG, tZ5_a0b, by omega, by omega, by omega, by omega, by omega,  hP⟩
        · replace hP := zE_n hP h10
          refine wz_br (i3L (show (3 : Int32) = i3 3 from rfl) (zm_rd (Z := Z) (ν := ν) (k := 48) (rfl : ((x0b : Nat) : Int) = x0b) (i3I (y := x6) (rfl : i3 x6 = i3 x6) (by omega) (by omega) (by omega)) (show ((5 : Nat) : Int) = 5 from rfl)) (by omega) (by omega) (by omega) (by omega)) (fun h13 => ?_) (fun h13 => ?_)
          · replace hP := zE_p hP h13
            have r14 := zH_f hZ5I 48 x0b x6 11
            have r15 := w3_r (x4 - (Z5 48 x0b x6 11))
            obtain ⟨m2, rfl⟩ : ∃ m2, m = m2 + 1 := ⟨m - 1, by omega⟩
            exact wz_k1 ⟨m2, by omega, xM9 + 1066, Z5, ν, n8, 1, (w3 (x4 - (Z5 48 x0b x6 11))), (x6 + 1), (zconso rfl (zconso rfl (zconso rfl (zconso (zvo (show (1 : Int32) = i3 1 from rfl)) (zconso (zvo (i3W (i3S (rfl : i3 x4 = i3 x4) (zm_rd (Z := Z5) (ν := ν) (k := 48) (rfl : ((x0b : Nat) : Int) = x0b) (i3I (y := x6) (rfl : i3 x6 = i3 x6) (by omega) (by omega) (by omega)) (show ((11 : Nat) : Int) = 11 from rfl))))) (zconso (zvo (rfl : i3 x5 = i3 x5)) (zconso (zvo (i3A (rfl : i3 x6 = i3 x6) (show (1 : Int32) = i3 1 from rfl))) (zconso rfl (zconso rfl rfl))))))))), rfl, by omega, (zbt hZ5I rfl), hZ5K, hZ5U, hn, by omega, hG, tZ5_a0b, by omega, by omega, by omega, by omega, by omega,  hP⟩
          · replace hP := zE_n hP h13
            obtain ⟨Z16, ν18, n19, v17, hv17, c9, hZ16I, kZ16, jZ16, hnν18, gν18, b1ν18, b2ν18, lv17, uv17, tZ16_a0b⟩ := sp_62 (ν := ν) hZ5I hs hn x0b x1b (a2 := x6) (by omega) (by omega) tZ5_a0b (zbh (c := 1066) (k := 128986) hM9 (Nat.le_of_ble_eq_true rfl))
            have hZ16U : zU [x1b] Zs Z16 := zU_t hZ5U jZ16 (zU_b1 (List.Mem.head _) zU_b0)
            have hZ16K : zL [12, 13, 14, 40, 41, 42, 43, 44, 45, 46, 47, 48, 49, 50, 51, 52, 53, 54, 69, 1099, 1100, 1101, 1102, 1103, 1104, 1105, 1106, 1107, 1108, 1109, 1110, 1111, 1112, 1113, 1114, 1115, 1116] [] n9 Zs Z16 := zL_t hZ5K kZ16 (by decide) zL_b0 (by omega)
            replace hZ16I := zbt (c := 130052) hZ16I rfl
            replace hP := zl_e3 hP hv17
            refine wz_cI_of (zas (zcons rfl (zcons rfl (zcons (zvi (rfl : i3 x6 = i3 x6)) (zcons rfl rfl)))) c9) ?_
            clear c9 hv17
            have hGν18 := zGl_t (K := 192) hG (zGl_5 gν18)
            refine wz_br (i3L (rfl : i3 v17 = i3 v17) (rfl : i3 v6 = i3 v6) (by omega) (by omega) (by omega) (by omega)) (fun h20 => ?_) (fun h20 => ?_)
            · replace hP := zE_p hP h20
              have r21 := zH_f hZ5I 48 x0b x6 11
              have r22 := w3_r (x4 - (Z5 48 x0b x6 11))
              obtain ⟨m2, rfl⟩ : ∃ m2, m = m2 + 1 := ⟨m - 1, by omega⟩
              exact wz_k1 ⟨m2, by omega, xM9 + 130052, Z16, ν18, n19, 0, (w3 (x4 - (Z5 48 x0b x6 11))), (x6 + 1), (zconso rfl (zconso rfl (zconso rfl (zconso (zvo (show (0 : Int32) = i3 0 from rfl)) (zconso (zvo (i3W (i3S (rfl : i3 x4 = i3 x4) (zm_rd (Z := Z5) (ν := ν) (k := 48) (rfl : ((x0b : Nat) : Int) = x0b) (i3I (y := x6) (rfl : i3 x6 = i3 x6) (by omega) (by omega) (by omega)) (show ((11 : Nat) : Int) = 11 from rfl))))) (zconso (zvo (rfl : i3 x5 = i3 x5)) (zconso (zvo (i3A (rfl : i3 x6 = i3 x6) (show (1 : Int32) = i3 1 from rfl))) (zconso rfl (zconso rfl rfl))))))))), rfl, by omega, (zbt hZ16I rfl), hZ16K, hZ16U, hnν18, by omega, hGν18, tZ16_a0b, by omega, by omega, by omega, by omega, by omega,  hP⟩
            · replace hP := zE_n hP h20
              have r23 := zH_f hZ5I 48 x0b x6 11
              have r24 := w3_r (x4 - (Z5 48 x0b x6 11))
              obtain ⟨m2, rfl⟩ : ∃ m2, m = m2 + 1 := ⟨m - 1, by omega⟩
              exact wz_k1 ⟨m2, by omega, xM9 + 130052, Z16, ν18, n19, 1, (w3 (x4 - (Z5 48 x0b x6 11))), (x6 + 1), (zconso rfl (zconso rfl (zconso rfl (zconso (zvo (show (1 : Int32) = i3 1 from rfl)) (zconso (zvo (i3W (i3S (rfl : i3 x4 = i3 x4) (zm_rd (Z := Z5) (ν := ν) (k := 48) (rfl : ((x0b : Nat) : Int) = x0b) (i3I (y := x6) (rfl : i3 x6 = i3 x6) (by omega) (by omega) (by omega)) (show ((11 : Nat) : Int) = 11 from rfl))))) (zconso (zvo (rfl : i3 x5 = i3 x5)) (zconso (zvo (i3A (rfl : i3 x6 = i3 x6) (show (1 : Int32) = i3 1 from rfl))) (zconso rfl (zconso rfl rfl))))))))), rfl, by omega, (zbt hZ16I rfl), hZ16K, hZ16U, hnν18, by omega, hGν18, tZ16_a0b, by omega, by omega, by omega, by omega, by omega,  hP⟩
/- yX3_areSound -/
def zf_61 (Z : qz_Z) (n9 : Int) (a0b : Int) (a1b : Int) : qz_Z × Int × Int := (zlet2 (zl_61_1 a0b a1b 49 Z 1 0) (fun y1 y2 => (zlet2 (zl_61_2 a0b a1b y1 61 Z 0 0) (fun y4 y5 => (zlet3 (zf_21 Z n9 a0b) (fun Z7 n10 v8 => (zlet5 (zl_61_3 a0b a1b v8 3 Z7 n10 y1 y4 0) (fun Z14 n17 y11 y12 y13 => (if y11 = 0 then (Z14, n17, 0) else (if y12 ≠ 0 then (Z14, n17, 0) else (Z14, n17, 1)))))))))))
theorem sp_61 {s : zSM} {Z : qz_Z} {ν : qz_N} (hZ : zH s Z) (hs : s.1 = none) {n9 : Nat} (hn : ν.2.2.2.1 = n9) (a0b : Nat) (a1b : Nat) (gx0 : a0b ≠ a1b) (hLta0b : zLt a0b Z) (hM : s.2 + 390156 ≤ 1000000000) : ∃ (Z1 : qz_Z) (ν1 : qz_N) (n1 : Nat) (P : Int), (Z1, (n1 : Int), P) = zf_61 Z n9 a0b a1b ∧ (qf_61 [.inr (.inr (some (10, a0b, 0))), .inr (.inr (some (10, a1b, 0))), .inr (.inr (some (69, 0, 0)))] (zm Z ν) = some (zm Z1 ν1, .inl (some (.inl (i3 P)))) ∧ zH (zb s 390156) Z1 ∧ zL [12, 13, 14, 40, 41, 42, 43, 44, 45, 46, 47, 48, 49, 50, 51, 52, 53, 54, 69, 1099, 1100, 1101, 1102, 1103, 1104, 1105, 1106, 1107, 1108, 1109, 1110, 1111, 1112, 1113, 1114, 1115, 1116] [] n9 Z Z1 ∧ zU [a1b] Z Z1 ∧ ν1.2.2.2.1 = n1 ∧ zGl 192 ν ν1 ∧ n9 ≤ n1 ∧ 0 ≤ P ∧ P ≤ 1 ∧ zLt a0b Z1) := by
  obtain ⟨P, hP⟩ := zx (zf_61 Z n9 a0b a1b)
  refine zc_Wn (Q := fun Z1 ν1 n1 P => zH (zb s 390156) Z1 ∧ zL [12, 13, 14, 40, 41, 42, 43, 44, 45, 46, 47, 48, 49, 50, 51, 52, 53, 54, 69, 1099, 1100, 1101, 1102, 1103, 1104, 1105, 1106, 1107, 1108, 1109, 1110, 1111, 1112, 1113, 1114, 1115, 1116] [] n9 Z Z1 ∧ zU [a1b] Z Z1 ∧ ν1.2.2.2.1 = n1 ∧ zGl 192 ν ν1 ∧ n9 ≤ n1 ∧ 0 ≤ P ∧ P ≤ 1 ∧ zLt a0b Z1) hP (fw_61 a0b a1b _ _ ?_)
  replace hP : zE P (zf_61 Z n9 a0b a1b) := hP
  unfold zf_61 at hP
  refine sl_61_1 (ν := ν) hZ (zbh (c := 0) (k := 0) hM (Nat.le_of_ble_eq_true rfl)) a0b a1b (x3 := 1) (by omega) (x4 := 0) (by omega) hLta0b (by omega) (zconso rfl (zconso rfl (zconso rfl (zconso (zvo (show (1 : Int32) = i3 1 from rfl)) (zconso (zvo (show (0 : Int32) = i3 0 from rfl)) (zconso rfl (zconso rfl (zconso rfl (zconso rfl rfl))))))))) rfl ?_
  intro L3 y1 y2 hL3 gy1 gy2 gL3_0 q9
  replace hP := zl_e2 hP (Eq.symm q9)
  clear q9
  refine fc_61_6 _ _ (i3 y1) _ _ _ _ hL3 ?_
  refine sl_61_2 (ν := ν) hZ (zbh (c := 0) (k := 0) hM (Nat.le_of_ble_eq_true rfl)) a0b a1b (x3 := y1) (by omega) (x4 := 0) (by omega) (x5 := 0) (by omega) hLta0b (by omega) (zconso rfl (zconso rfl (zconso rfl (zconso (zvo (rfl : i3 y1 = i3 y1)) (zconso (zvo (show (0 : Int32) = i3 0 from rfl)) (zconso (zvo (show (0 : Int32) = i3 0 from rfl)) (zconso rfl (zconso rfl (zconso rfl rfl))))))))) rfl ?_
  intro L6 y4 y5 hL6 gy4 gy5 gL6_0 q9
  replace hP := zl_e2 hP (Eq.symm q9)
  clear q9
  refine fc_61_5 _ _ (i3 y1) (i3 y4) _ _ _ _ hL6 ?_
  obtain ⟨Z7, ν9, n10, v8, hv8, c9, hZ7I, kZ7, jZ7, hnν9, gν9, b1ν9, b2ν9, lv8, uv8⟩ := sp_21 (ν := ν) hZ hs hn a0b (zbh (c := 0) (k := 0) hM (Nat.le_of_ble_eq_true rfl))
  have hZ7U : zU [a1b] Z Z7 := zU_t zU_r jZ7 zU_b0
  have hZ7K : zL [12, 13, 14, 40, 41, 42, 43, 44, 45, 46, 47, 48, 49, 50, 51, 52, 53, 54, 69, 1099, 1100, 1101, 1102, 1103, 1104, 1105, 1106, 1107, 1108, 1109, 1110, 1111, 1112, 1113, 1114, 1115, 1116] [] n9 Z Z7 := zL_t zL_r kZ7 (by decide) zL_b0 (by omega)
  replace hP := zl_e3 hP hv8
  refine wz_cI_of (zas (zcons rfl (zcons rfl rfl)) c9) ?_
  clear c9 hv8
  have hGν9 := zGl_t (K := 192) zGl_r gν9
  refine sl_61_3 (ν := ν9) (zb0 hZ7I) (zbh (c := 0) (k := 390156) hM (Nat.le_of_ble_eq_true rfl)) (xM9 := 0) hs hnν9 (Nat.le_refl _) zGl_r a0b a1b (x3 := y1) (by omega) (x4 := y4) (by omega) (x5 := v8) (by omega) (x6 := 0) (by omega) zL_r zU_r (zLt_l hLta0b kZ7 rfl) (Nat.le_of_ble_eq_true rfl) (by omega) (zconso rfl (zconso rfl (zconso rfl (zconso (zvo (rfl : i3 y1 = i3 y1)) (zconso (zvo (rfl : i3 y4 = i3 y4)) (zconso (zvo (rfl : i3 v8 = i3 v8)) (zconso (zvo (show (0 : Int32) = i3 0 from rfl)) (zconso rfl (zconso rfl rfl))))))))) rfl ?_
  intro L15 Z14 ν16 n17 y11 y12 y13 hL15 hZ14I kZ14 jZ14 hnν16 gν16 b1ν16 tZ14_x0b gy11 gy12 gy13 gL15_0 q9
  replace hP := zl_e5 hP (Eq.symm q9)
  clear q9
  have hZ14U : zU [a1b] Z Z14 := zU_t hZ7U jZ14 (zU_b1 (List.Mem.head _) zU_b0)
  have hZ14K : zL [12, 13, 14, 40, 41, 42, 43, 44, 45, 46, 47, 48, 49, 50, 51, 52, 53, 54, 69, 1099, 1100, 1101, 1102, 1103, 1104, 1105, 1106, 1107, 1108, 1109, 1110, 1111, 1112, 1113, 1114, 1115, 1116] [] n9 Z Z14 := zL_t hZ7K kZ14 (by decide) zL_b0 (by omega)
  have hGν16 := zGl_t hGν9 gν16
  refine fc_61_4 (i3 y11) (i3 y12) _ _ _ _ hL15 ?_
  refine wz_br (i3E (rfl : i3 y11 = i3 y11) (show (0 : Int32) = i3 0 from rfl) (by omega) (by omega) (by omega) (by omega)) (fun h18 => ?_) (fun h18 => ?_)
  · replace hP := zE_p hP h18
    exact zlWn hP (show (0 : Int32) = i3 0 from rfl) ⟨hZ14I, hZ14K, hZ14U, hnν16, hGν16, by omega, by omega, by omega, tZ14_x0b⟩
  · replace hP := zE_n hP h18
    refine wz_br (i3NE (rfl : i3 y12 = i3 y12) (show (0 : Int32) = i3 0 from rfl) (by omega) (by omega) (by omega) (by omega)) (fun h19 => ?_) (fun h19 => ?_)
    · replace hP := zE_p hP h19
      exact zlWn hP (show (0 : Int32) = i3 0 from rfl) ⟨hZ14I, hZ14K, hZ14U, hnν16, hGν16, by omega, by omega, by omega, tZ14_x0b⟩
    · replace hP := zE_n hP h19
      exact zlWn hP (show (1 : Int32) = i3 1 from rfl) ⟨hZ14I, hZ14K, hZ14U, hnν16, hGν16, by omega, by omega, by omega, tZ14_x0b⟩
/- yX5_isInRanges -/
def zf_98 (Z : qz_Z) (a0b : Int) (a0ij : Int) : Int := (if (Z 44 a0b a0ij 3) < 1 then 0 else (if (Z 44 a0b a0ij 4) < (Z 44 a0b a0ij 5) then 0 else 1))
theorem sp_98 {s : zSM} {Z : qz_Z} {ν : qz_N} (hZ : zH s Z) (a0b : Nat) (a0i : Nat) {a0ij : Int} (ea0i : (a0i : Int) = a0ij) (ga0i : 0 ≤ a0ij ∧ a0ij ≤ 47) (hM : s.2 + 0 ≤ 1000000000) : ∃ P : Int, P = zf_98 Z a0b a0ij ∧ (qf_98 [.inr (.inr (some (44, a0b, a0i)))] (zm Z ν) = some (zm Z ν, .inl (some (.inl (i3 P)))) ∧ 0 ≤ P ∧ P ≤ 1) := by
  obtain ⟨P, hP⟩ := zx (zf_98 Z a0b a0ij)
  refine zc_R (Q := fun P => 0 ≤ P ∧ P ≤ 1) hP (fw_98 a0b a0i _ _ ?_)
  replace hP : zE P (zf_98 Z a0b a0ij) := hP
  unfold zf_98 at hP
  have r1 := zH_k hZ 44 a0b a0ij 3 (lo := 0) (hi := 40) (by decide) rfl
  refine wz_br (i3L (zm_rd (Z := Z) (ν := ν) (k := 44) (rfl : ((a0b : Nat) : Int) = a0b) ea0i (show ((3 : Nat) : Int) = 3 from rfl)) (show (1 : Int32) = i3 1 from rfl) (by omega) (by omega) (by omega) (by omega)) (fun h2 => ?_) (fun h2 => ?_)
  · replace hP := zE_p hP h2
    exact zlR hP (show (0 : Int32) = i3 0 from rfl) ⟨by omega, by omega⟩
  · replace hP := zE_n hP h2
    refine wz_i0 (Eq.trans (i3L (show (40 : Int32) = i3 40 from rfl) (zm_rd (Z := Z) (ν := ν) (k := 44) (rfl : ((a0b : Nat) : Int) = a0b) ea0i (show ((3 : Nat) : Int) = 3 from rfl)) (by omega) (by omega) (by omega) (by omega)) (decide_eq_false (by omega))) ?_
    have r3 := zH_k hZ 44 a0b a0ij 4 (lo := 0) (hi := 40) (by decide) rfl
    refine wz_i0 (Eq.trans (i3L (zm_rd (Z := Z) (ν := ν) (k := 44) (rfl : ((a0b : Nat) : Int) = a0b) ea0i (show ((4 : Nat) : Int) = 4 from rfl)) (show (0 : Int32) = i3 0 from rfl) (by omega) (by omega) (by omega) (by omega)) (decide_eq_false (by omega))) ?_
    refine wz_i0 (Eq.trans (i3L (show (40 : Int32) = i3 40 from rfl) (zm_rd (Z := Z) (ν := ν) (k := 44) (rfl : ((a0b : Nat) : Int) = a0b) ea0i (show ((4 : Nat) : Int) = 4 from rfl)) (by omega) (by omega) (by omega) (by omega)) (decide_eq_false (by omega))) ?_
    have r4 := zH_k hZ 44 a0b a0ij 5 (lo := 0) (hi := 40) (by decide) rfl
    refine wz_i0 (Eq.trans (i3L (zm_rd (Z := Z) (ν := ν) (k := 44) (rfl : ((a0b : Nat) : Int) = a0b) ea0i (show ((5 : Nat) : Int) = 5 from rfl)) (show (0 : Int32) = i3 0 from rfl) (by omega) (by omega) (by omega) (by omega)) (decide_eq_false (by omega))) ?_
    refine wz_br (i3L (zm_rd (Z := Z) (ν := ν) (k := 44) (rfl : ((a0b : Nat) : Int) = a0b) ea0i (show ((4 : Nat) : Int) = 4 from rfl)) (zm_rd (Z := Z) (ν := ν) (k := 44) (rfl : ((a0b : Nat) : Int) = a0b) ea0i (show ((5 : Nat) : Int) = 5 from rfl)) (by omega) (by omega) (by omega) (by omega)) (fun h5 => ?_) (fun h5 => ?_)
    · replace hP := zE_p hP h5
      exact zlR hP (show (0 : Int32) = i3 0 from rfl) ⟨by omega, by omega⟩
    · replace hP := zE_n hP h5
      have r6 := zH_k hZ 44 a0b a0ij 7 (lo := 0) (hi := 2000) (by decide) rfl
      refine wz_i0 (Eq.trans (i3L (zm_rd (Z := Z) (ν := ν) (k := 44) (rfl : ((a0b : Nat) : Int) = a0b) ea0i (show ((7 : Nat) : Int) = 7 from rfl)) (show (0 : Int32) = i3 0 from rfl) (by omega) (by omega) (by omega) (by omega)) (decide_eq_false (by omega))) ?_
      refine wz_i0 (Eq.trans (i3L (show (2000 : Int32) = i3 2000 from rfl) (zm_rd (Z := Z) (ν := ν) (k := 44) (rfl : ((a0b : Nat) : Int) = a0b) ea0i (show ((7 : Nat) : Int) = 7 from rfl)) (by omega) (by omega) (by omega) (by omega)) (decide_eq_false (by omega))) ?_
      have r7 := zH_k hZ 44 a0b a0ij 8 (lo := 0) (hi := 999) (by decide) rfl
      refine wz_i0 (Eq.trans (i3L (zm_rd (Z := Z) (ν := ν) (k := 44) (rfl : ((a0b : Nat) : Int) = a0b) ea0i (show ((8 : Nat) : Int) = 8 from rfl)) (show (0 : Int32) = i3 0 from rfl) (by omega) (by omega) (by omega) (by omega)) (decide_eq_false (by omega))) ?_
      refine wz_i0 (Eq.trans (i3L (show (999 : Int32) = i3 999 from rfl) (zm_rd (Z := Z) (ν := ν) (k := 44) (rfl : ((a0b : Nat) : Int) = a0b) ea0i (show ((8 : Nat) : Int) = 8 from rfl)) (by omega) (by omega) (by omega) (by omega)) (decide_eq_false (by omega))) ?_
      have r8 := zH_k hZ 44 a0b a0ij 9 (lo := -1) (hi := 3) (by decide) rfl
      refine wz_i0 (Eq.trans (i3L (zm_rd (Z := Z) (ν := ν) (k := 44) (rfl : ((a0b : Nat) : Int) = a0b) ea0i (show ((9 : Nat) : Int) = 9 from rfl)) (show (-1 : Int32) = i3 (-1) from rfl) (by omega) (by omega) (by omega) (by omega)) (decide_eq_false (by omega))) ?_
      refine wz_i0 (Eq.trans (i3L (show (3 : Int32) = i3 3 from rfl) (zm_rd (Z := Z) (ν := ν) (k := 44) (rfl : ((a0b : Nat) : Int) = a0b) ea0i (show ((9 : Nat) : Int) = 9 from rfl)) (by omega) (by omega) (by omega) (by omega)) (decide_eq_false (by omega))) ?_
      have r9 := zH_k hZ 44 a0b a0ij 10 (lo := 0) (hi := 4) (by decide) rfl
      refine wz_i0 (Eq.trans (i3L (zm_rd (Z := Z) (ν := ν) (k := 44) (rfl : ((a0b : Nat) : Int) = a0b) ea0i (show ((10 : Nat) : Int) = 10 from rfl)) (show (0 : Int32) = i3 0 from rfl) (by omega) (by omega) (by omega) (by omega)) (decide_eq_false (by omega))) ?_
      refine wz_i0 (Eq.trans (i3L (show (4 : Int32) = i3 4 from rfl) (zm_rd (Z := Z) (ν := ν) (k := 44) (rfl : ((a0b : Nat) : Int) = a0b) ea0i (show ((10 : Nat) : Int) = 10 from rfl)) (by omega) (by omega) (by omega) (by omega)) (decide_eq_false (by omega))) ?_
      exact zlR hP (show (1 : Int32) = i3 1 from rfl) ⟨by omega, by omega⟩
/- yX5_areSound -/
def zl_90_1 (x0b : Int) : Nat → qz_Z → Int → Int → Int × Int
  | 0, Z, x1, x2 => (x1, x2)
  | m + 1, Z, x1, x2 => (if (Z 11 x0b 0 3) ≤ x2 then (x1, x2) else (if x1 = 0 then (x1, x2) else (zlet (zf_98 Z x0b x2) (fun v4 => (if v4 = 0 then zl_90_1 x0b m Z 0 (x2 + 1) else (if (Z 44 x0b x2 10) = 0 then (zlet (zf_103 Z x0b x2) (fun v8 => (if (Z 44 x0b x2 3) ≠ (w3 ((w3 ((Z 44 x0b x2 4) + (Z 44 x0b x2 6))) + v8)) then zl_90_1 x0b m Z 0 (x2 + 1) else zl_90_1 x0b m Z 1 (x2 + 1)))) else (if (Z 44 x0b x2 10) ≠ 1 then (if (Z 44 x0b x2 4) ≠ 0 then zl_90_1 x0b m Z 0 (x2 + 1) else (zlet (zf_103 Z x0b x2) (fun v18 => (if (Z 44 x0b x2 3) ≠ (w3 (((Z 44 x0b x2 4) + (Z 44 x0b x2 6)) + v18)) then zl_90_1 x0b m Z 0 (x2 + 1) else zl_90_1 x0b m Z 1 (x2 + 1))))) else (zlet (zf_103 Z x0b x2) (fun v23 => (if (Z 44 x0b x2 3) ≠ (w3 ((w3 ((Z 44 x0b x2 4) + (Z 44 x0b x2 6))) + v23)) then zl_90_1 x0b m Z 0 (x2 + 1) else zl_90_1 x0b m Z 1 (x2 + 1)))))))))))
theorem sl_90_1 {s : zSM} {Z : qz_Z} {ν : qz_N} (hZ : zH s Z) (hM : s.2 + 0 ≤ 1000000000) (x0b : Nat) {x1 : Int} (gx1 : 0 ≤ x1 ∧ x1 ≤ 1) {x2 : Int} (gx2 : 0 ≤ x2 ∧ x2 ≤ 48) {k : wz_K} {R : wz_R} {L : qz_L} (hL : qz_fg [true, true, true, false] L = [some (.inr (.inr (some (10, x0b, 0)))), some (.inl (i3 x1)), some (.inl (i3 x2)), none]) {T : Int × Int} (hP : zE T (zl_90_1 x0b ((48 - x2).toNat + 1) Z x1 x2)) (hk : ∀ (L9 : qz_L) (yx1 yx2 : Int), qz_fg [true, true, false, false] L9 = [some (.inr (.inr (some (10, x0b, 0)))), some (.inl (i3 yx1)), none, none] → (0 ≤ yx1 ∧ yx1 ≤ 1) → (0 ≤ yx2 ∧ yx2 ≤ 48) → zE T ((yx1, yx2)) → k 0 (L9, [], zm Z ν)) : wz_loop qb_90_1 65536 k R (L, [], zm Z ν) := by
  refine wz_lp sb_90_1 (fun m x => ∃ x1 : Int, ∃ x2 : Int, qz_fg [true, true, true, false] x.1 = [some (.inr (.inr (some (10, x0b, 0)))), some (.inl (i3 x1)), some (.inl (i3 x2)), none] ∧ x.2 = ([], zm Z ν) ∧ m = (48 - x2).toNat ∧ (0 ≤ x1 ∧ x1 ≤ 1) ∧ (0 ≤ x2 ∧ x2 ≤ 48) ∧ zE T (zl_90_1 x0b (m + 1) Z x1 x2)) ?_ 65536 ((48 - x2).toNat) _ (by omega) ⟨x1, x2, hL, rfl, rfl, gx1, gx2, hP⟩
  clear hP gx1 gx2 hL
  clear x1 x2
  rintro m ⟨L, st, μ⟩ ⟨x1, x2, hL, hx, hm, gx1, gx2, hP⟩
  cases hx
  refine fb_90_1 x0b (i3 x1) (i3 x2) _ _ _ _ hL ?_
  have r1 := zH_k hZ 11 x0b 0 3 (lo := 0) (hi := 48) (by decide) rfl
  refine wz_br (i3Le (zm_rd (Z := Z) (ν := ν) (k := 11) (rfl : ((x0b : Nat) : Int) = x0b) (show ((0 : Nat) : Int) = 0 from rfl) (show ((3 : Nat) : Int) = 3 from rfl)) (rfl : i3 x2 = i3 x2) (by omega) (by omega) (by omega) (by omega)) (fun h2 => ?_) (fun h2 => ?_)
  · replace hP := zE_p hP h2
    exact hk _ _ _ (zconso rfl (zconso (zvo (rfl : i3 x1 = i3 x1)) (zconso rfl (zconso rfl rfl))))  (by omega) (by omega)  hP
  · replace hP := zE_n hP h2
    refine wz_br (i3E (rfl : i3 x1 = i3 x1) (show (0 : Int32) = i3 0 from rfl) (by omega) (by omega) (by omega) (by omega)) (fun h3 => ?_) (fun h3 => ?_)
    · replace hP := zE_p hP h3
      exact hk _ _ _ (zconso rfl (zconso (zvo (rfl : i3 x1 = i3 x1)) (zconso rfl (zconso rfl rfl))))  (by omega) (by omega)  hP
    · replace hP := zE_n hP h3
      refine wz_i0 (i3O (n := 48) (rfl : i3 x2 = i3 x2) (by omega) (by omega) (by omega)) ?_
      obtain ⟨v4, hv4, c9, lv4, uv4⟩ := sp_98 (ν := ν) hZ x0b _ (i3I (y := x2) (rfl : i3 x2 = i3 x2) (by omega) (by omega) (by omega)) (by omega) (zbh (c := 0) (k := 0) hM (Nat.le_of_ble_eq_true rfl))
      replace hP := zl_e hP hv4
      refine wz_cI_of (zas (zcons rfl rfl) c9) ?_
      clear c9
      refine wz_br (i3E (rfl : i3 v4 = i3 v4) (show (0 : Int32) = i3 0 from rfl) (by omega) (by omega) (by omega) (by omega)) (fun h5 => ?_) (fun h5 => ?_)
      · replace hP := zE_p hP h5
        obtain ⟨m2, rfl⟩ : ∃ m2, m = m2 + 1 := ⟨m - 1, by omega⟩
        exact wz_k1 ⟨m2, by omega, 0, (x2 + 1), (zconso rfl (zconso (zvo (show (0 : Int32) = i3 0 from rfl)) (zconso (zvo (i3A (rfl : i3 x2 = i3 x2) (show (1 : Int32) = i3 1 from rfl))) (zconso rfl rfl)))), rfl,  by omega, by omega, by omega,  hP⟩
      · replace hP := zE_n hP h5
        have r6 := zH_k hZ 44 x0b x2 10 (lo := 0) (hi := 4) (by decide) rfl
        refine wz_br (i3E (zm_rd (Z := Z) (ν := ν) (k := 44) (rfl : ((x0b : Nat) : Int) = x0b) (i3I (y := x2) (rfl : i3 x2 = i3 x2) (by omega) (by omega) (by omega)) (show ((10 : Nat) : Int) = 10 from rfl)) (show (0 : Int32) = i3 0 from rfl) (by omega) (by omega) (by omega) (by omega)) (fun h7 => ?_) (fun h7 => ?_)
        · replace hP := zE_p hP h7
          obtain ⟨v8, hv8, c9, lv8, uv8⟩ := sp_103 (ν := ν) hZ x0b (a1 := x2) (by omega) (zbh (c := 0) (k := 0) hM (Nat.le_of_ble_eq_true rfl))
          replace hP := zl_e hP hv8
          refine wz_cI_of (zas (zcons rfl (zcons (zvi (rfl : i3 x2 = i3 x2)) rfl)) c9) ?_
          clear c9
          have r9 := zH_k hZ 44 x0b x2 3 (lo := 0) (hi := 40) (by decide) rfl
          have r10 := zH_k hZ 44 x0b x2 4 (lo := 0) (hi := 40) (by decide) rfl
          have r11 := zH_f hZ 44 x0b x2 6
          have r12 := w3_r ((Z 44 x0b x2 4) + (Z 44 x0b x2 6))
          have r13 := w3_r ((w3 ((Z 44 x0b x2 4) + (Z 44 x0b x2 6))) + v8)
          refine wz_br (i3NE (zm_rd (Z := Z) (ν := ν) (k := 44) (rfl : ((x0b : Nat) : Int) = x0b) (i3I (y := x2) (rfl : i3 x2 = i3 x2) (by omega) (by omega) (by omega)) (show ((3 : Nat) : Int) = 3 from rfl)) (i3W (i3A (i3W (i3A (zm_rd (Z := Z) (ν := ν) (k := 44) (rfl : ((x0b : Nat) : Int) = x0b) (i3I (y := x2) (rfl : i3 x2 = i3 x2) (by omega) (by omega) (by omega)) (show ((4 : Nat) : Int) = 4 from rfl)) (zm_rd (Z := Z) (ν := ν) (k := 44) (rfl : ((x0b : Nat) : Int) = x0b) (i3I (y := x2) (rfl : i3 x2 = i3 x2) (by omega) (by omega) (by omega)) (show ((6 : Nat) : Int) = 6 from rfl)))) (rfl : i3 v8 = i3 v8))) (by omega) (by omega) (by omega) (by omega)) (fun h14 => ?_) (fun h14 => ?_)
          · replace hP := zE_p hP h14
            obtain ⟨m2, rfl⟩ : ∃ m2, m = m2 + 1 := ⟨m - 1, by omega⟩
            exact wz_k1 ⟨m2, by omega, 0, (x2 + 1), (zconso rfl (zconso (zvo (show (0 : Int32) = i3 0 from rfl)) (zconso (zvo (i3A (rfl : i3 x2 = i3 x2) (show (1 : Int32) = i3 1 from rfl))) (zconso rfl rfl)))), rfl,  by omega, by omega, by omega,  hP⟩
          · replace hP := zE_n hP h14
            obtain ⟨m2, rfl⟩ : ∃ m2, m = m2 + 1 := ⟨m - 1, by omega⟩
            exact wz_k1 ⟨m2, by omega, 1, (x2 + 1), (zconso rfl (zconso (zvo (show (1 : Int32) = i3 1 from rfl)) (zconso (zvo (i3A (rfl : i3 x2 = i3 x2) (show (1 : Int32) = i3 1 from rfl))) (zconso rfl rfl)))), rfl,  by omega, by omega, by omega,  hP⟩
        · replace hP := zE_n hP h7
          refine wz_br (i3NE (zm_rd (Z := Z) (ν := ν) (k := 44) (rfl : ((x0b : Nat) : Int) = x0b) (i3I (y := x2) (rfl : i3 x2 = i3 x2) (by omega) (by omega) (by omega)) (show ((10 : Nat) : Int) = 10 from rfl)) (show (1 : Int32) = i3 1 from rfl) (by omega) (by omega) (by omega) (by omega)) (fun h15 => ?_) (fun h15 => ?_)
          · replace hP := zE_p hP h15
            have r16 := zH_k hZ 44 x0b x2 4 (lo := 0) (hi := 40) (by decide) rfl
            refine wz_br (i3NE (zm_rd (Z := Z) (ν := ν) (k := 44) (rfl : ((x0b : Nat) : Int) = x0b) (i3I (y := x2) (rfl : i3 x2 = i3 x2) (by omega) (by omega) (by omega)) (show ((4 : Nat) : Int) = 4 from rfl)) (show (0 : Int32) = i3 0 from rfl) (by omega) (by omega) (by omega) (by omega)) (fun h17 => ?_) (fun h17 => ?_)
            · replace hP := zE_p hP h17
              obtain ⟨m2, rfl⟩ : ∃ m2, m = m2 + 1 := ⟨m - 1, by omega⟩
              exact wz_k1 ⟨m2, by omega, 0, (x2 + 1), (zconso rfl (zconso (zvo (show (0 : Int32) = i3 0 from rfl)) (zconso (zvo (i3A (rfl : i3 x2 = i3 x2) (show (1 : Int32) = i3 1 from rfl))) (zconso rfl rfl)))), rfl,  by omega, by omega, by omega,  hP⟩
            · replace hP := zE_n hP h17
              obtain ⟨v18, hv18, c9, lv18, uv18⟩ := sp_103 (ν := ν) hZ x0b (a1 := x2) (by omega) (zbh (c := 0) (k := 0) hM (Nat.le_of_ble_eq_true rfl))
              replace hP := zl_e hP hv18
              refine wz_cI_of (zas (zcons rfl (zcons (zvi (rfl : i3 x2 = i3 x2)) rfl)) c9) ?_
              clear c9
              have r19 := zH_k hZ 44 x0b x2 3 (lo := 0) (hi := 40) (by decide) rfl
              have r20 := zH_f hZ 44 x0b x2 6
              have r21 := w3_r (((Z 44 x0b x2 4) + (Z 44 x0b x2 6)) + v18)
              refine wz_br (i3NE (zm_rd (Z := Z) (ν := ν) (k := 44) (rfl : ((x0b : Nat) : Int) = x0b) (i3I (y := x2) (rfl : i3 x2 = i3 x2) (by omega) (by omega) (by omega)) (show ((3 : Nat) : Int) = 3 from rfl)) (i3W (i3A (i3A (zm_rd (Z := Z) (ν := ν) (k := 44) (rfl : ((x0b : Nat) : Int) = x0b) (i3I (y := x2) (rfl : i3 x2 = i3 x2) (by omega) (by omega) (by omega)) (show ((4 : Nat) : Int) = 4 from rfl)) (zm_rd (Z := Z) (ν := ν) (k := 44) (rfl : ((x0b : Nat) : Int) = x0b) (i3I (y := x2) (rfl : i3 x2 = i3 x2) (by omega) (by omega) (by omega)) (show ((6 : Nat) : Int) = 6 from rfl))) (rfl : i3 v18 = i3 v18))) (by omega) (by omega) (by omega) (by omega)) (fun h22 => ?_) (fun h22 => ?_)
              · replace hP := zE_p hP h22
                obtain ⟨m2, rfl⟩ : ∃ m2, m = m2 + 1 := ⟨m - 1, by omega⟩
                exact wz_k1 ⟨m2, by omega, 0, (x2 + 1), (zconso rfl (zconso (zvo (show (0 : Int32) = i3 0 from rfl)) (zconso (zvo (i3A (rfl : i3 x2 = i3 x2) (show (1 : Int32) = i3 1 from rfl))) (zconso rfl rfl)))), rfl,  by omega, by omega, by omega,  hP⟩
              · replace hP := zE_n hP h22
                obtain ⟨m2, rfl⟩ : ∃ m2, m = m2 + 1 := ⟨m - 1, by omega⟩
                exact wz_k1 ⟨m2, by omega, 1, (x2 + 1), (zconso rfl (zconso (zvo (show (1 : Int32) = i3 1 from rfl)) (zconso (zvo (i3A (rfl : i3 x2 = i3 x2) (show (1 : Int32) = i3 1 from rfl))) (zconso rfl rfl)))), rfl,  by omega, by omega, by omega,  hP⟩
          · replace hP := zE_n hP h15
            obtain ⟨v23, hv23, c9, lv23, uv23⟩ := sp_103 (ν := ν) hZ x0b (a1 := x2) (by omega) (zbh (c := 0) (k := 0) hM (Nat.le_of_ble_eq_true rfl))
            replace hP := zl_e hP hv23
            refine wz_cI_of (zas (zcons rfl (zcons (zvi (rfl : i3 x2 = i3 x2)) rfl)) c9) ?_
            clear c9
            have r24 := zH_k hZ 44 x0b x2 3 (lo := 0) (hi := 40) (by decide) rfl
            have r25 := zH_k hZ 44 x0b x2 4 (lo := 0) (hi := 40) (by decide) rfl
            have r26 := zH_f hZ 44 x0b x2 6
            have r27 := w3_r ((Z 44 x0b x2 4) + (Z 44 x0b x2 6))
            have r28 := w3_r ((w3 ((Z 44 x0b x2 4) + (Z 44 x0b x2 6))) + v23)
            refine wz_br (i3NE (zm_rd (Z := Z) (ν := ν) (k := 44) (rfl : ((x0b : Nat) : Int) = x0b) (i3I (y := x2) (rfl : i3 x2 = i3 x2) (by omega) (by omega) (by omega)) (show ((3 : Nat) : Int) = 3 from rfl)) (i3W (i3A (i3W (i3A (zm_rd (Z := Z) (ν := ν) (k := 44) (rfl : ((x0b : Nat) : Int) = x0b) (i3I (y := x2) (rfl : i3 x2 = i3 x2) (by omega) (by omega) (by omega)) (show ((4 : Nat) : Int) = 4 from rfl)) (zm_rd (Z := Z) (ν := ν) (k := 44) (rfl : ((x0b : Nat) : Int) = x0b) (i3I (y := x2) (rfl : i3 x2 = i3 x2) (by omega) (by omega) (by omega)) (show ((6 : Nat) : Int) = 6 from rfl)))) (rfl : i3 v23 = i3 v23))) (by omega) (by omega) (by omega) (by omega)) (fun h29 => ?_) (fun h29 => ?_)
            · replace hP := zE_p hP h29
              obtain ⟨m2, rfl⟩ : ∃ m2, m = m2 + 1 := ⟨m - 1, by omega⟩
              exact wz_k1 ⟨m2, by omega, 0, (x2 + 1), (zconso rfl (zconso (zvo (show (0 : Int32) = i3 0 from rfl)) (zconso (zvo (i3A (rfl : i3 x2 = i3 x2) (show (1 : Int32) = i3 1 from rfl))) (zconso rfl rfl)))), rfl,  by omega, by omega, by omega,  hP⟩
            · replace hP := zE_n hP h29
              obtain ⟨m2, rfl⟩ : ∃ m2, m = m2 + 1 := ⟨m - 1, by omega⟩
              exact wz_k1 ⟨m2, by omega, 1, (x2 + 1), (zconso rfl (zconso (zvo (show (1 : Int32) = i3 1 from rfl)) (zconso (zvo (i3A (rfl : i3 x2 = i3 x2) (show (1 : Int32) = i3 1 from rfl))) (zconso rfl rfl)))), rfl,  by omega, by omega, by omega,  hP⟩
/- yX5_areSound -/
def zl_90_2 (x0b : Int) : Nat → qz_Z → Int → Int → Int × Int
  | 0, Z, x1, x2 => (x1, x2)
  | m + 1, Z, x1, x2 => (if (Z 11 x0b 0 1) ≤ x2 then (x1, x2) else (if x1 = 0 then (x1, x2) else (zlet (zf_107 Z x0b x2 3) (fun v4 => (zlet (zf_107 Z x0b x2 4) (fun v5 => (zlet (zf_107 Z x0b x2 5) (fun v6 => (zlet (zf_107 Z x0b x2 8) (fun v7 => (if v4 ≠ (w3 ((w3 (v5 + v6)) + v7)) then zl_90_2 x0b m Z 0 (x2 + 1) else zl_90_2 x0b m Z 1 (x2 + 1))))))))))))
theorem sl_90_2 {s : zSM} {Z : qz_Z} {ν : qz_N} (hZ : zH s Z) (hM : s.2 + 0 ≤ 1000000000) (x0b : Nat) {x1 : Int} (gx1 : 0 ≤ x1 ∧ x1 ≤ 1) {x2 : Int} (gx2 : 0 ≤ x2 ∧ x2 ≤ 6) {k : wz_K} {R : wz_R} {L : qz_L} (hL : qz_fg [true, true, true, false] L = [some (.inr (.inr (some (10, x0b, 0)))), some (.inl (i3 x1)), some (.inl (i3 x2)), none]) {T : Int × Int} (hP : zE T (zl_90_2 x0b ((6 - x2).toNat + 1) Z x1 x2)) (hk : ∀ (L9 : qz_L) (yx1 yx2 : Int), qz_fg [false, true, false, false] L9 = [none, some (.inl (i3 yx1)), none, none] → (0 ≤ yx1 ∧ yx1 ≤ 1) → (0 ≤ yx2 ∧ yx2 ≤ 6) → zE T ((yx1, yx2)) → k 0 (L9, [], zm Z ν)) : wz_loop qb_90_2 65536 k R (L, [], zm Z ν) := by
  refine wz_lp sb_90_2 (fun m x => ∃ x1 : Int, ∃ x2 : Int, qz_fg [true, true, true, false] x.1 = [some (.inr (.inr (some (10, x0b, 0)))), some (.inl (i3 x1)), some (.inl (i3 x2)), none] ∧ x.2 = ([], zm Z ν) ∧ m = (6 - x2).toNat ∧ (0 ≤ x1 ∧ x1 ≤ 1) ∧ (0 ≤ x2 ∧ x2 ≤ 6) ∧ zE T (zl_90_2 x0b (m + 1) Z x1 x2)) ?_ 65536 ((6 - x2).toNat) _ (by omega) ⟨x1, x2, hL, rfl, rfl, gx1, gx2, hP⟩
  clear hP gx1 gx2 hL
  clear x1 x2
  rintro m ⟨L, st, μ⟩ ⟨x1, x2, hL, hx, hm, gx1, gx2, hP⟩
  cases hx
  refine fb_90_2 x0b (i3 x1) (i3 x2) _ _ _ _ hL ?_
  have r1 := zH_k hZ 11 x0b 0 1 (lo := 0) (hi := 6) (by decide) rfl
  refine wz_br (i3Le (zm_rd (Z := Z) (ν := ν) (k := 11) (rfl : ((x0b : Nat) : Int) = x0b) (show ((0 : Nat) : Int) = 0 from rfl) (show ((1 : Nat) : Int) = 1 from rfl)) (rfl : i3 x2 = i3 x2) (by omega) (by omega) (by omega) (by omega)) (fun h2 => ?_) (fun h2 => ?_)
  · replace hP := zE_p hP h2
    exact hk _ _ _ (zconso rfl (zconso (zvo (rfl : i3 x1 = i3 x1)) (zconso rfl (zconso rfl rfl))))  (by omega) (by omega)  hP
  · replace hP := zE_n hP h2
    refine wz_br (i3E (rfl : i3 x1 = i3 x1) (show (0 : Int32) = i3 0 from rfl) (by omega) (by omega) (by omega) (by omega)) (fun h3 => ?_) (fun h3 => ?_)
    · replace hP := zE_p hP h3
      exact hk _ _ _ (zconso rfl (zconso (zvo (rfl : i3 x1 = i3 x1)) (zconso rfl (zconso rfl rfl))))  (by omega) (by omega)  hP
    · replace hP := zE_n hP h3
      obtain ⟨v4, hv4, c9, lv4, uv4⟩ := sp_107 (ν := ν) hZ x0b (a1 := x2) (by omega) (a2 := 3) (by omega) (zbh (c := 0) (k := 0) hM (Nat.le_of_ble_eq_true rfl))
      replace hP := zl_e hP hv4
      refine wz_cI_of (zas (zcons rfl (zcons (zvi (rfl : i3 x2 = i3 x2)) (zcons (zvi (show (3 : Int32) = i3 3 from rfl)) rfl))) c9) ?_
      clear c9
      obtain ⟨v5, hv5, c9, lv5, uv5⟩ := sp_107 (ν := ν) hZ x0b (a1 := x2) (by omega) (a2 := 4) (by omega) (zbh (c := 0) (k := 0) hM (Nat.le_of_ble_eq_true rfl))
      replace hP := zl_e hP hv5
      refine wz_cI_of (zas (zcons rfl (zcons (zvi (rfl : i3 x2 = i3 x2)) (zcons (zvi (show (4 : Int32) = i3 4 from rfl)) rfl))) c9) ?_
      clear c9
      obtain ⟨v6, hv6, c9, lv6, uv6⟩ := sp_107 (ν := ν) hZ x0b (a1 := x2) (by omega) (a2 := 5) (by omega) (zbh (c := 0) (k := 0) hM (Nat.le_of_ble_eq_true rfl))
      replace hP := zl_e hP hv6
      refine wz_cI_of (zas (zcons rfl (zcons (zvi (rfl : i3 x2 = i3 x2)) (zcons (zvi (show (5 : Int32) = i3 5 from rfl)) rfl))) c9) ?_
      clear c9
      obtain ⟨v7, hv7, c9, lv7, uv7⟩ := sp_107 (ν := ν) hZ x0b (a1 := x2) (by omega) (a2 := 8) (by omega) (zbh (c := 0) (k := 0) hM (Nat.le_of_ble_eq_true rfl))
      replace hP := zl_e hP hv7
      refine wz_cI_of (zas (zcons rfl (zcons (zvi (rfl : i3 x2 = i3 x2)) (zcons (zvi (show (8 : Int32) = i3 8 from rfl)) rfl))) c9) ?_
      clear c9
      have r8 := w3_r (v5 + v6)
      have r9 := w3_r ((w3 (v5 + v6)) + v7)
      refine wz_br (i3NE (rfl : i3 v4 = i3 v4) (i3W (i3A (i3W (i3A (rfl : i3 v5 = i3 v5) (rfl : i3 v6 = i3 v6))) (rfl : i3 v7 = i3 v7))) (by omega) (by omega) (by omega) (by omega)) (fun h10 => ?_) (fun h10 => ?_)
      · replace hP := zE_p hP h10
        obtain ⟨m2, rfl⟩ : ∃ m2, m = m2 + 1 := ⟨m - 1, by omega⟩
        exact wz_k1 ⟨m2, by omega, 0, (x2 + 1), (zconso rfl (zconso (zvo (show (0 : Int32) = i3 0 from rfl)) (zconso (zvo (i3A (rfl : i3 x2 = i3 x2) (show (1 : Int32) = i3 1 from rfl))) (zconso rfl rfl)))), rfl,  by omega, by omega, by omega,  hP⟩
      · replace hP := zE_n hP h10
        obtain ⟨m2, rfl⟩ : ∃ m2, m = m2 + 1 := ⟨m - 1, by omega⟩
        exact wz_k1 ⟨m2, by omega, 1, (x2 + 1), (zconso rfl (zconso (zvo (show (1 : Int32) = i3 1 from rfl)) (zconso (zvo (i3A (rfl : i3 x2 = i3 x2) (show (1 : Int32) = i3 1 from rfl))) (zconso rfl rfl)))), rfl,  by omega, by omega, by omega,  hP⟩
/- yX5_areSound -/
def zf_90 (Z : qz_Z) (a0b : Int) : Int := (zlet (zf_182 Z a0b 6) (fun v1 => (if 12 < v1 then (zlet2 (zl_90_1 a0b 49 Z 0 0) (fun y3 y4 => (zlet2 (zl_90_2 a0b 7 Z y3 0) (fun y6 y7 => y6)))) else (zlet2 (zl_90_1 a0b 49 Z 1 0) (fun y9 y10 => (zlet2 (zl_90_2 a0b 7 Z y9 0) (fun y12 y13 => y12)))))))
theorem sp_90 {s : zSM} {Z : qz_Z} {ν : qz_N} (hZ : zH s Z) (a0b : Nat) (hM : s.2 + 0 ≤ 1000000000) : ∃ P : Int, P = zf_90 Z a0b ∧ (qf_90 [.inr (.inr (some (10, a0b, 0)))] (zm Z ν) = some (zm Z ν, .inl (some (.inl (i3 P)))) ∧ 0 ≤ P ∧ P ≤ 1) := by
  obtain ⟨P, hP⟩ := zx (zf_90 Z a0b)
  refine zc_R (Q := fun P => 0 ≤ P ∧ P ≤ 1) hP (fw_90 a0b _ _ ?_)
  replace hP : zE P (zf_90 Z a0b) := hP
  unfold zf_90 at hP
  obtain ⟨v1, hv1, c9, lv1, uv1⟩ := sp_182 (ν := ν) hZ a0b (a1 := 6) (by omega) (zbh (c := 0) (k := 0) hM (Nat.le_of_ble_eq_true rfl))
  replace hP := zl_e hP hv1
  refine wz_cI_of (zas (zcons rfl (zcons (zvi (show (6 : Int32) = i3 6 from rfl)) rfl)) c9) ?_
  clear c9
  refine wz_br (i3L (show (12 : Int32) = i3 12 from rfl) (rfl : i3 v1 = i3 v1) (by omega) (by omega) (by omega) (by omega)) (fun h2 => ?_) (fun h2 => ?_)
  · replace hP := zE_p hP h2
    refine sl_90_1 (ν := ν) hZ (zbh (c := 0) (k := 0) hM (Nat.le_of_ble_eq_true rfl)) a0b (x1 := 0) (by omega) (x2 := 0) (by omega)  (zconso rfl (zconso (zvo (show (0 : Int32) = i3 0 from rfl)) (zconso (zvo (show (0 : Int32) = i3 0 from rfl)) (zconso rfl rfl)))) rfl ?_
    intro L5 y3 y4 hL5 gy3 gy4 q9
    replace hP := zl_e2 hP (Eq.symm q9)
    clear q9
    refine fc_90_4 _ (i3 y3) _ _ _ _ hL5 ?_
    refine sl_90_2 (ν := ν) hZ (zbh (c := 0) (k := 0) hM (Nat.le_of_ble_eq_true rfl)) a0b (x1 := y3) (by omega) (x2 := 0) (by omega)  (zconso rfl (zconso (zvo (rfl : i3 y3 = i3 y3)) (zconso (zvo (show (0 : Int32) = i3 0 from rfl)) (zconso rfl rfl)))) rfl ?_
    intro L8 y6 y7 hL8 gy6 gy7 q9
    replace hP := zl_e2 hP (Eq.symm q9)
    clear q9
    refine fc_90_3 (i3 y6) _ _ _ _ hL8 ?_
    refine wz_i1 (i3B (rfl : i3 y6 = i3 y6) (by omega)) ?_
    exact zlR hP (rfl : i3 y6 = i3 y6) ⟨by omega, by omega⟩
  · replace hP := zE_n hP h2
    refine sl_90_1 (ν := ν) hZ (zbh (c := 0) (k := 0) hM (Nat.le_of_ble_eq_true rfl)) a0b (x1 := 1) (by omega) (x2 := 0) (by omega)  (zconso rfl (zconso (zvo (show (1 : Int32) = i3 1 from rfl)) (zconso (zvo (show (0 : Int32) = i3 0 from rfl)) (zconso rfl rfl)))) rfl ?_
    intro L11 y9 y10 hL11 gy9 gy10 q9
    replace hP := zl_e2 hP (Eq.symm q9)
    clear q9
    refine fc_90_4 _ (i3 y9) _ _ _ _ hL11 ?_
    refine sl_90_2 (ν := ν) hZ (zbh (c := 0) (k := 0) hM (Nat.le_of_ble_eq_true rfl)) a0b (x1 := y9) (by omega) (x2 := 0) (by omega)  (zconso rfl (zconso (zvo (rfl : i3 y9 = i3 y9)) (zconso (zvo (show (0 : Int32) = i3 0 from rfl)) (zconso rfl rfl)))) rfl ?_
    intro L14 y12 y13 hL14 gy12 gy13 q9
    replace hP := zl_e2 hP (Eq.symm q9)
    clear q9
    refine fc_90_3 (i3 y12) _ _ _ _ hL14 ?_
    refine wz_i1 (i3B (rfl : i3 y12 = i3 y12) (by omega)) ?_
    exact zlR hP (rfl : i3 y12 = i3 y12) ⟨by omega, by omega⟩
/- yX5_haveNoLeftovers -/
def zl_96_1 (x0b : Int) : Nat → qz_Z → Int → Int → Int × Int
  | 0, Z, x1, x2 => (x1, x2)
  | m + 1, Z, x1, x2 => (if (Z 11 x0b 0 6) ≤ x2 then (x1, x2) else (if x1 = 0 then (x1, x2) else (if (Z 47 x0b x2 9) ≠ 0 then zl_96_1 x0b m Z 1 (x2 + 1) else (if (Z 44 x0b (Z 47 x0b x2 0) 10) = 0 then zl_96_1 x0b m Z 1 (x2 + 1) else (if (Z 44 x0b (Z 47 x0b x2 0) 10) ≠ 1 then zl_96_1 x0b m Z 0 (x2 + 1) else zl_96_1 x0b m Z 1 (x2 + 1))))))
theorem sl_96_1 {s : zSM} {Z : qz_Z} {ν : qz_N} (hZ : zH s Z) (hM : s.2 + 0 ≤ 1000000000) (x0b : Nat) {x1 : Int} (gx1 : 0 ≤ x1 ∧ x1 ≤ 1) {x2 : Int} (gx2 : 0 ≤ x2 ∧ x2 ≤ 60) {k : wz_K} {R : wz_R} {L : qz_L} (hL : qz_fg [true, true, true, false] L = [some (.inr (.inr (some (10, x0b, 0)))), some (.inl (i3 x1)), some (.inl (i3 x2)), none]) {T : Int × Int} (hP : zE T (zl_96_1 x0b ((60 - x2).toNat + 1) Z x1 x2)) (hk : ∀ (L9 : qz_L) (yx1 yx2 : Int), qz_fg [true, true, false, false] L9 = [some (.inr (.inr (some (10, x0b, 0)))), some (.inl (i3 yx1)), none, none] → (0 ≤ yx1 ∧ yx1 ≤ 1) → (0 ≤ yx2 ∧ yx2 ≤ 60) → zE T ((yx1, yx2)) → k 0 (L9, [], zm Z ν)) : wz_loop qb_96_1 65536 k R (L, [], zm Z ν) := by
  refine wz_lp sb_96_1 (fun m x => ∃ x1 : Int, ∃ x2 : Int, qz_fg [true, true, true, false] x.1 = [some (.inr (.inr (some (10, x0b, 0)))), some (.inl (i3 x1)), some (.inl (i3 x2)), none] ∧ x.2 = ([], zm Z ν) ∧ m = (60 - x2).toNat ∧ (0 ≤ x1 ∧ x1 ≤ 1) ∧ (0 ≤ x2 ∧ x2 ≤ 60) ∧ zE T (zl_96_1 x0b (m + 1) Z x1 x2)) ?_ 65536 ((60 - x2).toNat) _ (by omega) ⟨x1, x2, hL, rfl, rfl, gx1, gx2, hP⟩
  clear hP gx1 gx2 hL
  clear x1 x2
  rintro m ⟨L, st, μ⟩ ⟨x1, x2, hL, hx, hm, gx1, gx2, hP⟩
  cases hx
  refine fb_96_1 x0b (i3 x1) (i3 x2) _ _ _ _ hL ?_
  have r1 := zH_k hZ 11 x0b 0 6 (lo := 0) (hi := 60) (by decide) rfl
  refine wz_br (i3Le (zm_rd (Z := Z) (ν := ν) (k := 11) (rfl : ((x0b : Nat) : Int) = x0b) (show ((0 : Nat) : Int) = 0 from rfl) (show ((6 : Nat) : Int) = 6 from rfl)) (rfl : i3 x2 = i3 x2) (by omega) (by omega) (by omega) (by omega)) (fun h2 => ?_) (fun h2 => ?_)
  · replace hP := zE_p hP h2
    exact hk _ _ _ (zconso rfl (zconso (zvo (rfl : i3 x1 = i3 x1)) (zconso rfl (zconso rfl rfl))))  (by omega) (by omega)  hP
  · replace hP := zE_n hP h2
    refine wz_br (i3E (rfl : i3 x1 = i3 x1) (show (0 : Int32) = i3 0 from rfl) (by omega) (by omega) (by omega) (by omega)) (fun h3 => ?_) (fun h3 => ?_)
    · replace hP := zE_p hP h3
      exact hk _ _ _ (zconso rfl (zconso (zvo (rfl : i3 x1 = i3 x1)) (zconso rfl (zconso rfl rfl))))  (by omega) (by omega)  hP
    · replace hP := zE_n hP h3
      refine wz_i0 (i3O (n := 60) (rfl : i3 x2 = i3 x2) (by omega) (by omega) (by omega)) ?_
      have r4 := zH_k hZ 47 x0b x2 9 (lo := 0) (hi := 3) (by decide) rfl
      have r5 := zH_lt hZ x0b x2
      refine wz_br (i3NE (zm_rd (Z := Z) (ν := ν) (k := 47) (rfl : ((x0b : Nat) : Int) = x0b) (i3I (y := x2) (rfl : i3 x2 = i3 x2) (by omega) (by omega) (by omega)) (show ((9 : Nat) : Int) = 9 from rfl)) (show (0 : Int32) = i3 0 from rfl) (by omega) (by omega) (by omega) (by omega)) (fun h6 => ?_) (fun h6 => ?_)
      · replace hP := zE_p hP h6
        obtain ⟨m2, rfl⟩ : ∃ m2, m = m2 + 1 := ⟨m - 1, by omega⟩
        exact wz_k1 ⟨m2, by omega, 1, (x2 + 1), (zconso rfl (zconso (zvo (show (1 : Int32) = i3 1 from rfl)) (zconso (zvo (i3A (rfl : i3 x2 = i3 x2) (show (1 : Int32) = i3 1 from rfl))) (zconso rfl rfl)))), rfl,  by omega, by omega, by omega,  hP⟩
      · replace hP := zE_n hP h6
        have r7 := zH_k hZ 47 x0b x2 0 (lo := 0) (hi := 47) (by decide) rfl
        refine wz_i0 (i3O (n := 48) (zm_rd (Z := Z) (ν := ν) (k := 47) (rfl : ((x0b : Nat) : Int) = x0b) (i3I (y := x2) (rfl : i3 x2 = i3 x2) (by omega) (by omega) (by omega)) (show ((0 : Nat) : Int) = 0 from rfl)) (by omega) (by omega) (by omega)) ?_
        have r8 := zH_k hZ 44 x0b (Z 47 x0b x2 0) 10 (lo := 0) (hi := 4) (by decide) rfl
        refine wz_br (i3E (zm_rd (Z := Z) (ν := ν) (k := 44) (rfl : ((x0b : Nat) : Int) = x0b) (i3I (y := (Z 47 x0b x2 0)) (zm_rd (Z := Z) (ν := ν) (k := 47) (rfl : ((x0b : Nat) : Int) = x0b) (i3I (y := x2) (rfl : i3 x2 = i3 x2) (by omega) (by omega) (by omega)) (show ((0 : Nat) : Int) = 0 from rfl)) (by omega) (by omega) (by omega)) (show ((10 : Nat) : Int) = 10 from rfl)) (show (0 : Int32) = i3 0 from rfl) (by omega) (by omega) (by omega) (by omega)) (fun h9 => ?_) (fun h9 => ?_)
        · replace hP := zE_p hP h9
          obtain ⟨m2, rfl⟩ : ∃ m2, m = m2 + 1 := ⟨m - 1, by omega⟩
          exact wz_k1 ⟨m2, by omega, 1, (x2 + 1), (zconso rfl (zconso (zvo (show (1 : Int32) = i3 1 from rfl)) (zconso (zvo (i3A (rfl : i3 x2 = i3 x2) (show (1 : Int32) = i3 1 from rfl))) (zconso rfl rfl)))), rfl,  by omega, by omega, by omega,  hP⟩
        · replace hP := zE_n hP h9
          refine wz_br (i3NE (zm_rd (Z := Z) (ν := ν) (k := 44) (rfl : ((x0b : Nat) : Int) = x0b) (i3I (y := (Z 47 x0b x2 0)) (zm_rd (Z := Z) (ν := ν) (k := 47) (rfl : ((x0b : Nat) : Int) = x0b) (i3I (y := x2) (rfl : i3 x2 = i3 x2) (by omega) (by omega) (by omega)) (show ((0 : Nat) : Int) = 0 from rfl)) (by omega) (by omega) (by omega)) (show ((10 : Nat) : Int) = 10 from rfl)) (show (1 : Int32) = i3 1 from rfl) (by omega) (by omega) (by omega) (by omega)) (fun h10 => ?_) (fun h10 => ?_)
          · replace hP := zE_p hP h10
            obtain ⟨m2, rfl⟩ : ∃ m2, m = m2 + 1 := ⟨m - 1, by omega⟩
            exact wz_k1 ⟨m2, by omega, 0, (x2 + 1), (zconso rfl (zconso (zvo (show (0 : Int32) = i3 0 from rfl)) (zconso (zvo (i3A (rfl : i3 x2 = i3 x2) (show (1 : Int32) = i3 1 from rfl))) (zconso rfl rfl)))), rfl,  by omega, by omega, by omega,  hP⟩
          · replace hP := zE_n hP h10
            obtain ⟨m2, rfl⟩ : ∃ m2, m = m2 + 1 := ⟨m - 1, by omega⟩
            exact wz_k1 ⟨m2, by omega, 1, (x2 + 1), (zconso rfl (zconso (zvo (show (1 : Int32) = i3 1 from rfl)) (zconso (zvo (i3A (rfl : i3 x2 = i3 x2) (show (1 : Int32) = i3 1 from rfl))) (zconso rfl rfl)))), rfl,  by omega, by omega, by omega,  hP⟩
/- yX5_haveNoLeftovers -/
def zl_96_2 (x0b : Int) : Nat → qz_Z → Int → Int → Int × Int
  | 0, Z, x1, x2 => (x1, x2)
  | m + 1, Z, x1, x2 => (if (Z 11 x0b 0 3) ≤ x2 then (x1, x2) else (if x1 = 0 then (x1, x2) else (if (Z 44 x0b x2 10) ≠ 0 then zl_96_2 x0b m Z 1 (x2 + 1) else (if 0 < (Z 44 x0b x2 4) then zl_96_2 x0b m Z 1 (x2 + 1) else (zlet (zf_109 Z x0b x2) (fun v8 => (if v8 ≤ 0 then zl_96_2 x0b m Z 0 (x2 + 1) else zl_96_2 x0b m Z 1 (x2 + 1))))))))
theorem sl_96_2 {s : zSM} {Z : qz_Z} {ν : qz_N} (hZ : zH s Z) (hM : s.2 + 0 ≤ 1000000000) (x0b : Nat) {x1 : Int} (gx1 : 0 ≤ x1 ∧ x1 ≤ 1) {x2 : Int} (gx2 : 0 ≤ x2 ∧ x2 ≤ 48) {k : wz_K} {R : wz_R} {L : qz_L} (hL : qz_fg [true, true, true, false] L = [some (.inr (.inr (some (10, x0b, 0)))), some (.inl (i3 x1)), some (.inl (i3 x2)), none]) {T : Int × Int} (hP : zE T (zl_96_2 x0b ((48 - x2).toNat + 1) Z x1 x2)) (hk : ∀ (L9 : qz_L) (yx1 yx2 : Int), qz_fg [false, true, false, false] L9 = [none, some (.inl (i3 yx1)), none, none] → (0 ≤ yx1 ∧ yx1 ≤ 1) → (0 ≤ yx2 ∧ yx2 ≤ 48) → zE T ((yx1, yx2)) → k 0 (L9, [], zm Z ν)) : wz_loop qb_96_2 65536 k R (L, [], zm Z ν) := by
  refine wz_lp sb_96_2 (fun m x => ∃ x1 : Int, ∃ x2 : Int, qz_fg [true, true, true, false] x.1 = [some (.inr (.inr (some (10, x0b, 0)))), some (.inl (i3 x1)), some (.inl (i3 x2)), none] ∧ x.2 = ([], zm Z ν) ∧ m = (48 - x2).toNat ∧ (0 ≤ x1 ∧ x1 ≤ 1) ∧ (0 ≤ x2 ∧ x2 ≤ 48) ∧ zE T (zl_96_2 x0b (m + 1) Z x1 x2)) ?_ 65536 ((48 - x2).toNat) _ (by omega) ⟨x1, x2, hL, rfl, rfl, gx1, gx2, hP⟩
  clear hP gx1 gx2 hL
  clear x1 x2
  rintro m ⟨L, st, μ⟩ ⟨x1, x2, hL, hx, hm, gx1, gx2, hP⟩
  cases hx
  refine fb_96_2 x0b (i3 x1) (i3 x2) _ _ _ _ hL ?_
  have r1 := zH_k hZ 11 x0b 0 3 (lo := 0) (hi := 48) (by decide) rfl
  refine wz_br (i3Le (zm_rd (Z := Z) (ν := ν) (k := 11) (rfl : ((x0b : Nat) : Int) = x0b) (show ((0 : Nat) : Int) = 0 from rfl) (show ((3 : Nat) : Int) = 3 from rfl)) (rfl : i3 x2 = i3 x2) (by omega) (by omega) (by omega) (by omega)) (fun h2 => ?_) (fun h2 => ?_)
  · replace hP := zE_p hP h2
    exact hk _ _ _ (zconso rfl (zconso (zvo (rfl : i3 x1 = i3 x1)) (zconso rfl (zconso rfl rfl))))  (by omega) (by omega)  hP
  · replace hP := zE_n hP h2
    refine wz_br (i3E (rfl : i3 x1 = i3 x1) (show (0 : Int32) = i3 0 from rfl) (by omega) (by omega) (by omega) (by omega)) (fun h3 => ?_) (fun h3 => ?_)
    · replace hP := zE_p hP h3
      exact hk _ _ _ (zconso rfl (zconso (zvo (rfl : i3 x1 = i3 x1)) (zconso rfl (zconso rfl rfl))))  (by omega) (by omega)  hP
    · replace hP := zE_n hP h3
      refine wz_i0 (i3O (n := 48) (rfl : i3 x2 = i3 x2) (by omega) (by omega) (by omega)) ?_
      have r4 := zH_k hZ 44 x0b x2 10 (lo := 0) (hi := 4) (by decide) rfl
      refine wz_br (i3NE (zm_rd (Z := Z) (ν := ν) (k := 44) (rfl : ((x0b : Nat) : Int) = x0b) (i3I (y := x2) (rfl : i3 x2 = i3 x2) (by omega) (by omega) (by omega)) (show ((10 : Nat) : Int) = 10 from rfl)) (show (0 : Int32) = i3 0 from rfl) (by omega) (by omega) (by omega) (by omega)) (fun h5 => ?_) (fun h5 => ?_)
      · replace hP := zE_p hP h5
        obtain ⟨m2, rfl⟩ : ∃ m2, m = m2 + 1 := ⟨m - 1, by omega⟩
        exact wz_k1 ⟨m2, by omega, 1, (x2 + 1), (zconso rfl (zconso (zvo (show (1 : Int32) = i3 1 from rfl)) (zconso (zvo (i3A (rfl : i3 x2 = i3 x2) (show (1 : Int32) = i3 1 from rfl))) (zconso rfl rfl)))), rfl,  by omega, by omega, by omega,  hP⟩
      · replace hP := zE_n hP h5
        have r6 := zH_k hZ 44 x0b x2 4 (lo := 0) (hi := 40) (by decide) rfl
        refine wz_br (i3L (show (0 : Int32) = i3 0 from rfl) (zm_rd (Z := Z) (ν := ν) (k := 44) (rfl : ((x0b : Nat) : Int) = x0b) (i3I (y := x2) (rfl : i3 x2 = i3 x2) (by omega) (by omega) (by omega)) (show ((4 : Nat) : Int) = 4 from rfl)) (by omega) (by omega) (by omega) (by omega)) (fun h7 => ?_) (fun h7 => ?_)
        · replace hP := zE_p hP h7
          obtain ⟨m2, rfl⟩ : ∃ m2, m = m2 + 1 := ⟨m - 1, by omega⟩
          exact wz_k1 ⟨m2, by omega, 1, (x2 + 1), (zconso rfl (zconso (zvo (show (1 : Int32) = i3 1 from rfl)) (zconso (zvo (i3A (rfl : i3 x2 = i3 x2) (show (1 : Int32) = i3 1 from rfl))) (zconso rfl rfl)))), rfl,  by omega, by omega, by omega,  hP⟩
        · replace hP := zE_n hP h7
          obtain ⟨v8, hv8, c9, lv8, uv8⟩ := sp_109 (ν := ν) hZ x0b (a1 := x2) (by omega) (zbh (c := 0) (k := 0) hM (Nat.le_of_ble_eq_true rfl))
          replace hP := zl_e hP hv8
          refine wz_cI_of (zas (zcons rfl (zcons (zvi (rfl : i3 x2 = i3 x2)) rfl)) c9) ?_
          clear c9
          refine wz_br (i3Le (rfl : i3 v8 = i3 v8) (show (0 : Int32) = i3 0 from rfl) (by omega) (by omega) (by omega) (by omega)) (fun h9 => ?_) (fun h9 => ?_)
          · replace hP := zE_p hP h9
            obtain ⟨m2, rfl⟩ : ∃ m2, m = m2 + 1 := ⟨m - 1, by omega⟩
            exact wz_k1 ⟨m2, by omega, 0, (x2 + 1), (zconso rfl (zconso (zvo (show (0 : Int32) = i3 0 from rfl)) (zconso (zvo (i3A (rfl : i3 x2 = i3 x2) (show (1 : Int32) = i3 1 from rfl))) (zconso rfl rfl)))), rfl,  by omega, by omega, by omega,  hP⟩
          · replace hP := zE_n hP h9
            obtain ⟨m2, rfl⟩ : ∃ m2, m = m2 + 1 := ⟨m - 1, by omega⟩
            exact wz_k1 ⟨m2, by omega, 1, (x2 + 1), (zconso rfl (zconso (zvo (show (1 : Int32) = i3 1 from rfl)) (zconso (zvo (i3A (rfl : i3 x2 = i3 x2) (show (1 : Int32) = i3 1 from rfl))) (zconso rfl rfl)))), rfl,  by omega, by omega, by omega,  hP⟩
/- yX5_haveNoLeftovers -/
def zf_96 (Z : qz_Z) (a0b : Int) : Int := (zlet2 (zl_96_1 a0b 61 Z 1 0) (fun y1 y2 => (zlet2 (zl_96_2 a0b 49 Z y1 0) (fun y4 y5 => y4))))
theorem sp_96 {s : zSM} {Z : qz_Z} {ν : qz_N} (hZ : zH s Z) (a0b : Nat) (hM : s.2 + 0 ≤ 1000000000) : ∃ P : Int, P = zf_96 Z a0b ∧ (qf_96 [.inr (.inr (some (10, a0b, 0)))] (zm Z ν) = some (zm Z ν, .inl (some (.inl (i3 P)))) ∧ 0 ≤ P ∧ P ≤ 1) := by
  obtain ⟨P, hP⟩ := zx (zf_96 Z a0b)
  refine zc_R (Q := fun P => 0 ≤ P ∧ P ≤ 1) hP (fw_96 a0b _ _ ?_)
  replace hP : zE P (zf_96 Z a0b) := hP
  unfold zf_96 at hP
  refine sl_96_1 (ν := ν) hZ (zbh (c := 0) (k := 0) hM (Nat.le_of_ble_eq_true rfl)) a0b (x1 := 1) (by omega) (x2 := 0) (by omega)  (zconso rfl (zconso (zvo (show (1 : Int32) = i3 1 from rfl)) (zconso (zvo (show (0 : Int32) = i3 0 from rfl)) (zconso rfl rfl)))) rfl ?_
  intro L3 y1 y2 hL3 gy1 gy2 q9
  replace hP := zl_e2 hP (Eq.symm q9)
  clear q9
  refine fc_96_4 _ (i3 y1) _ _ _ _ hL3 ?_
  refine sl_96_2 (ν := ν) hZ (zbh (c := 0) (k := 0) hM (Nat.le_of_ble_eq_true rfl)) a0b (x1 := y1) (by omega) (x2 := 0) (by omega)  (zconso rfl (zconso (zvo (rfl : i3 y1 = i3 y1)) (zconso (zvo (show (0 : Int32) = i3 0 from rfl)) (zconso rfl rfl)))) rfl ?_
  intro L6 y4 y5 hL6 gy4 gy5 q9
  replace hP := zl_e2 hP (Eq.symm q9)
  clear q9
  refine fc_96_3 (i3 y4) _ _ _ _ hL6 ?_
  refine wz_i1 (i3B (rfl : i3 y4 = i3 y4) (by omega)) ?_
  exact zlR hP (rfl : i3 y4 = i3 y4) ⟨by omega, by omega⟩
/- yX6_howMany -/
def zl_114_1 (x0b : Int) (x2 : Int) (x3 : Int) (x4 : Int) : Nat → qz_Z → Int → Int → Int × Int
  | 0, Z, x5, x6 => (x5, x6)
  | m + 1, Z, x5, x6 => (if (Z 11 x0b 0 x2) ≤ x6 then (x5, x6) else (if (Z 44 x0b x6 x3) ≠ x4 then zl_114_1 x0b x2 x3 x4 m Z x5 (x6 + 1) else zl_114_1 x0b x2 x3 x4 m Z (x5 + 1) (x6 + 1)))
theorem sl_114_1 {s : zSM} {Z : qz_Z} {ν : qz_N} (hZ : zH s Z) (hM : s.2 + 0 ≤ 1000000000) (x0b : Nat) {x2 : Int} (gx2 : 3 ≤ x2 ∧ x2 ≤ 3) {x3 : Int} (gx3 : 10 ≤ x3 ∧ x3 ≤ 10) {x4 : Int} (gx4 : 0 ≤ x4 ∧ x4 ≤ 4) {x5 : Int} (gx5 : 0 ≤ x5 ∧ x5 ≤ 48) {x6 : Int} (gx6 : 0 ≤ x6 ∧ x6 ≤ 48) (gr0 : x5 ≤ x6) {k : wz_K} {R : wz_R} {L : qz_L} (hL : qz_fg [true, true, true, true, true, true, true] L = [some (.inr (.inr (some (10, x0b, 0)))), some (.inr (.inr (some (24, x0b, 0)))), some (.inl (i3 x2)), some (.inl (i3 x3)), some (.inl (i3 x4)), some (.inl (i3 x5)), some (.inl (i3 x6))]) {T : Int × Int} (hP : zE T (zl_114_1 x0b x2 x3 x4 ((48 - x6).toNat + 1) Z x5 x6)) (hk : ∀ (L9 : qz_L) (yx5 yx6 : Int), qz_fg [false, false, false, false, false, true, false] L9 = [none, none, none, none, none, some (.inl (i3 yx5)), none] → (0 ≤ yx5 ∧ yx5 ≤ 48) → (0 ≤ yx6 ∧ yx6 ≤ 48) → (yx5 ≤ yx6) → zE T ((yx5, yx6)) → k 0 (L9, [], zm Z ν)) : wz_loop qb_114_1 65536 k R (L, [], zm Z ν) := by
  refine wz_lp sb_114_1 (fun m x => ∃ x5 : Int, ∃ x6 : Int, qz_fg [true, true, true, true, true, true, true] x.1 = [some (.inr (.inr (some (10, x0b, 0)))), some (.inr (.inr (some (24, x0b, 0)))), some (.inl (i3 x2)), some (.inl (i3 x3)), some (.inl (i3 x4)), some (.inl (i3 x5)), some (.inl (i3 x6))] ∧ x.2 = ([], zm Z ν) ∧ m = (48 - x6).toNat ∧ (0 ≤ x5 ∧ x5 ≤ 48) ∧ (0 ≤ x6 ∧ x6 ≤ 48) ∧ (x5 ≤ x6) ∧ zE T (zl_114_1 x0b x2 x3 x4 (m + 1) Z x5 x6)) ?_ 65536 ((48 - x6).toNat) _ (by omega) ⟨x5, x6, hL, rfl, rfl, gx5, gx6, gr0, hP⟩
  clear hP gr0 gx5 gx6 hL
  clear x5 x6
  rintro m ⟨L, st, μ⟩ ⟨x5, x6, hL, hx, hm, gx5, gx6, gr0, hP⟩
  cases hx
  refine fb_114_1 x0b (24, x0b, 0) (i3 x2) (i3 x3) (i3 x4) (i3 x5) (i3 x6) _ _ _ _ hL ?_
  refine wz_i0 (i3O (n := 17) (rfl : i3 x2 = i3 x2) (by omega) (by omega) (by omega)) ?_
  have r1 := zH_k hZ 11 x0b 0 x2 (lo := 0) (hi := 48) (by decide) (zrn_of (lo := 3) (n := 1) (by decide) (by decide +kernel) (by omega) (by omega))
  refine wz_br (i3Le (zm_rd (Z := Z) (ν := ν) (k := 11) (rfl : ((x0b : Nat) : Int) = x0b) (show ((0 : Nat) : Int) = 0 from rfl) (i3I (y := x2) (rfl : i3 x2 = i3 x2) (by omega) (by omega) (by omega))) (rfl : i3 x6 = i3 x6) (by omega) (by omega) (by omega) (by omega)) (fun h2 => ?_) (fun h2 => ?_)
  · replace hP := zE_p hP h2
    exact hk _ _ _ (zconso rfl (zconso rfl (zconso rfl (zconso rfl (zconso rfl (zconso (zvo (rfl : i3 x5 = i3 x5)) (zconso rfl rfl)))))))  (by omega) (by omega) (by omega) hP
  · replace hP := zE_n hP h2
    refine wz_i1 rfl ?_
    refine wz_i0 (i3O (n := 48) (rfl : i3 x6 = i3 x6) (by omega) (by omega) (by omega)) ?_
    refine wz_rko (r := (44, _, _)) rfl ?_
    refine wz_i1 rfl ?_
    refine wz_i0 (i3O (n := 16) (rfl : i3 x3 = i3 x3) (by omega) (by omega) (by omega)) ?_
    have r3 := zH_f hZ 44 x0b x6 x3
    refine wz_br (i3NE (zm_rd (Z := Z) (ν := ν) (k := 44) (rfl : ((x0b : Nat) : Int) = x0b) (i3I (y := x6) (rfl : i3 x6 = i3 x6) (by omega) (by omega) (by omega)) (i3I (y := x3) (rfl : i3 x3 = i3 x3) (by omega) (by omega) (by omega))) (rfl : i3 x4 = i3 x4) (by omega) (by omega) (by omega) (by omega)) (fun h4 => ?_) (fun h4 => ?_)
    · replace hP := zE_p hP h4
      obtain ⟨m2, rfl⟩ : ∃ m2, m = m2 + 1 := ⟨m - 1, by omega⟩
      exact wz_k1 ⟨m2, by omega, x5, (x6 + 1), (zconso rfl (zconso rfl (zconso (zvo (rfl : i3 x2 = i3 x2)) (zconso (zvo (rfl : i3 x3 = i3 x3)) (zconso (zvo (rfl : i3 x4 = i3 x4)) (zconso (zvo (rfl : i3 x5 = i3 x5)) (zconso (zvo (i3A (rfl : i3 x6 = i3 x6) (show (1 : Int32) = i3 1 from rfl))) rfl))))))), rfl,  by omega, by omega, by omega, by omega,  hP⟩
    · replace hP := zE_n hP h4
      obtain ⟨m2, rfl⟩ : ∃ m2, m = m2 + 1 := ⟨m - 1, by omega⟩
      exact wz_k1 ⟨m2, by omega, (x5 + 1), (x6 + 1), (zconso rfl (zconso rfl (zconso (zvo (rfl : i3 x2 = i3 x2)) (zconso (zvo (rfl : i3 x3 = i3 x3)) (zconso (zvo (rfl : i3 x4 = i3 x4)) (zconso (zvo (i3A (rfl : i3 x5 = i3 x5) (show (1 : Int32) = i3 1 from rfl))) (zconso (zvo (i3A (rfl : i3 x6 = i3 x6) (show (1 : Int32) = i3 1 from rfl))) rfl))))))), rfl,  by omega, by omega, by omega, by omega,  hP⟩
/- yX6_howMany -/
def zf_114 (Z : qz_Z) (hb : Int) (a2 : Int) (a3 : Int) (a4 : Int) : Int := (zlet2 (zl_114_1 hb a2 a3 a4 49 Z 0 0) (fun y1 y2 => y1))
theorem sp_114 {s : zSM} {Z : qz_Z} {ν : qz_N} (hZ : zH s Z) (hb : Nat) {a2 : Int} (ga2 : 3 ≤ a2 ∧ a2 ≤ 3) {a3 : Int} (ga3 : 10 ≤ a3 ∧ a3 ≤ 10) {a4 : Int} (ga4 : 0 ≤ a4 ∧ a4 ≤ 4) (hM : s.2 + 0 ≤ 1000000000) : ∃ P : Int, P = zf_114 Z hb a2 a3 a4 ∧ (qf_114 [.inr (.inr (some (10, hb, 0))), .inr (.inr (some (24, hb, 0))), .inl (i3 a2), .inl (i3 a3), .inl (i3 a4)] (zm Z ν) = some (zm Z ν, .inl (some (.inl (i3 P)))) ∧ 0 ≤ P ∧ P ≤ 48) := by
  obtain ⟨P, hP⟩ := zx (zf_114 Z hb a2 a3 a4)
  refine zc_R (Q := fun P => 0 ≤ P ∧ P ≤ 48) hP (fw_114 hb (24, hb, 0) (i3 a2) (i3 a3) (i3 a4) _ _ ?_)
  replace hP : zE P (zf_114 Z hb a2 a3 a4) := hP
  unfold zf_114 at hP
  refine sl_114_1 (ν := ν) hZ (zbh (c := 0) (k := 0) hM (Nat.le_of_ble_eq_true rfl)) hb (x2 := a2) (by omega) (x3 := a3) (by omega) (x4 := a4) (by omega) (x5 := 0) (by omega) (x6 := 0) (by omega) (by omega) (zconso rfl (zconso rfl (zconso (zvo (rfl : i3 a2 = i3 a2)) (zconso (zvo (rfl : i3 a3 = i3 a3)) (zconso (zvo (rfl : i3 a4 = i3 a4)) (zconso (zvo (show (0 : Int32) = i3 0 from rfl)) (zconso (zvo (show (0 : Int32) = i3 0 from rfl)) rfl))))))) rfl ?_
  intro L3 y1 y2 hL3 gy1 gy2 gL3_0 q9
  replace hP := zl_e2 hP (Eq.symm q9)
  clear q9
  refine fc_114_2 (i3 y1) _ _ _ _ hL3 ?_
  exact zlR hP (rfl : i3 y1 = i3 y1) ⟨by omega, by omega⟩
/- yX6_howMany (2) -/
def zl_1114_1 (x0b : Int) (x2 : Int) (x3 : Int) (x4 : Int) : Nat → qz_Z → Int → Int → Int × Int
  | 0, Z, x5, x6 => (x5, x6)
  | m + 1, Z, x5, x6 => (if (Z 11 x0b 0 x2) ≤ x6 then (x5, x6) else (if (Z 47 x0b x6 x3) ≠ x4 then zl_1114_1 x0b x2 x3 x4 m Z x5 (x6 + 1) else zl_1114_1 x0b x2 x3 x4 m Z (x5 + 1) (x6 + 1)))
theorem sl_1114_1 {s : zSM} {Z : qz_Z} {ν : qz_N} (hZ : zH s Z) (hM : s.2 + 0 ≤ 1000000000) (x0b : Nat) {x2 : Int} (gx2 : 6 ≤ x2 ∧ x2 ≤ 6) {x3 : Int} (gx3 : 9 ≤ x3 ∧ x3 ≤ 9) {x4 : Int} (gx4 : 0 ≤ x4 ∧ x4 ≤ 3) {x5 : Int} (gx5 : 0 ≤ x5 ∧ x5 ≤ 60) {x6 : Int} (gx6 : 0 ≤ x6 ∧ x6 ≤ 60) (gr0 : x5 ≤ x6) {k : wz_K} {R : wz_R} {L : qz_L} (hL : qz_fg [true, true, true, true, true, true, true] L = [some (.inr (.inr (some (10, x0b, 0)))), some (.inr (.inr (some (27, x0b, 0)))), some (.inl (i3 x2)), some (.inl (i3 x3)), some (.inl (i3 x4)), some (.inl (i3 x5)), some (.inl (i3 x6))]) {T : Int × Int} (hP : zE T (zl_1114_1 x0b x2 x3 x4 ((60 - x6).toNat + 1) Z x5 x6)) (hk : ∀ (L9 : qz_L) (yx5 yx6 : Int), qz_fg [false, false, false, false, false, true, false] L9 = [none, none, none, none, none, some (.inl (i3 yx5)), none] → (0 ≤ yx5 ∧ yx5 ≤ 60) → (0 ≤ yx6 ∧ yx6 ≤ 60) → (yx5 ≤ yx6) → zE T ((yx5, yx6)) → k 0 (L9, [], zm Z ν)) : wz_loop qb_114_1 65536 k R (L, [], zm Z ν) := by
  refine wz_lp sb_114_1 (fun m x => ∃ x5 : Int, ∃ x6 : Int, qz_fg [true, true, true, true, true, true, true] x.1 = [some (.inr (.inr (some (10, x0b, 0)))), some (.inr (.inr (some (27, x0b, 0)))), some (.inl (i3 x2)), some (.inl (i3 x3)), some (.inl (i3 x4)), some (.inl (i3 x5)), some (.inl (i3 x6))] ∧ x.2 = ([], zm Z ν) ∧ m = (60 - x6).toNat ∧ (0 ≤ x5 ∧ x5 ≤ 60) ∧ (0 ≤ x6 ∧ x6 ≤ 60) ∧ (x5 ≤ x6) ∧ zE T (zl_1114_1 x0b x2 x3 x4 (m + 1) Z x5 x6)) ?_ 65536 ((60 - x6).toNat) _ (by omega) ⟨x5, x6, hL, rfl, rfl, gx5, gx6, gr0, hP⟩
  clear hP gr0 gx5 gx6 hL
  clear x5 x6
  rintro m ⟨L, st, μ⟩ ⟨x5, x6, hL, hx, hm, gx5, gx6, gr0, hP⟩
  cases hx
  refine fb_114_1 x0b (27, x0b, 0) (i3 x2) (i3 x3) (i3 x4) (i3 x5) (i3 x6) _ _ _ _ hL ?_
  refine wz_i0 (i3O (n := 17) (rfl : i3 x2 = i3 x2) (by omega) (by omega) (by omega)) ?_
  have r1 := zH_k hZ 11 x0b 0 x2 (lo := 0) (hi := 60) (by decide) (zrn_of (lo := 6) (n := 1) (by decide) (by decide +kernel) (by omega) (by omega))
  refine wz_br (i3Le (zm_rd (Z := Z) (ν := ν) (k := 11) (rfl : ((x0b : Nat) : Int) = x0b) (show ((0 : Nat) : Int) = 0 from rfl) (i3I (y := x2) (rfl : i3 x2 = i3 x2) (by omega) (by omega) (by omega))) (rfl : i3 x6 = i3 x6) (by omega) (by omega) (by omega) (by omega)) (fun h2 => ?_) (fun h2 => ?_)
  · replace hP := zE_p hP h2
    exact hk _ _ _ (zconso rfl (zconso rfl (zconso rfl (zconso rfl (zconso rfl (zconso (zvo (rfl : i3 x5 = i3 x5)) (zconso rfl rfl)))))))  (by omega) (by omega) (by omega) hP
  · replace hP := zE_n hP h2
    refine wz_i1 rfl ?_
    refine wz_i0 (i3O (n := 60) (rfl : i3 x6 = i3 x6) (by omega) (by omega) (by omega)) ?_
    refine wz_rko (r := (47, _, _)) rfl ?_
    refine wz_i1 rfl ?_
    refine wz_i0 (i3O (n := 21) (rfl : i3 x3 = i3 x3) (by omega) (by omega) (by omega)) ?_
    have r3 := zH_f hZ 47 x0b x6 x3
    refine wz_br (i3NE (zm_rd (Z := Z) (ν := ν) (k := 47) (rfl : ((x0b : Nat) : Int) = x0b) (i3I (y := x6) (rfl : i3 x6 = i3 x6) (by omega) (by omega) (by omega)) (i3I (y := x3) (rfl : i3 x3 = i3 x3) (by omega) (by omega) (by omega))) (rfl : i3 x4 = i3 x4) (by omega) (by omega) (by omega) (by omega)) (fun h4 => ?_) (fun h4 => ?_)
    · replace hP := zE_p hP h4
      obtain ⟨m2, rfl⟩ : ∃ m2, m = m2 + 1 := ⟨m - 1, by omega⟩
      exact wz_k1 ⟨m2, by omega, x5, (x6 + 1), (zconso rfl (zconso rfl (zconso (zvo (rfl : i3 x2 = i3 x2)) (zconso (zvo (rfl : i3 x3 = i3 x3)) (zconso (zvo (rfl : i3 x4 = i3 x4)) (zconso (zvo (rfl : i3 x5 = i3 x5)) (zconso (zvo (i3A (rfl : i3 x6 = i3 x6) (show (1 : Int32) = i3 1 from rfl))) rfl))))))), rfl,  by omega, by omega, by omega, by omega,  hP⟩
    · replace hP := zE_n hP h4
      obtain ⟨m2, rfl⟩ : ∃ m2, m = m2 + 1 := ⟨m - 1, by omega⟩
      exact wz_k1 ⟨m2, by omega, (x5 + 1), (x6 + 1), (zconso rfl (zconso rfl (zconso (zvo (rfl : i3 x2 = i3 x2)) (zconso (zvo (rfl : i3 x3 = i3 x3)) (zconso (zvo (rfl : i3 x4 = i3 x4)) (zconso (zvo (i3A (rfl : i3 x5 = i3 x5) (show (1 : Int32) = i3 1 from rfl))) (zconso (zvo (i3A (rfl : i3 x6 = i3 x6) (show (1 : Int32) = i3 1 from rfl))) rfl))))))), rfl,  by omega, by omega, by omega, by omega,  hP⟩
/- yX6_howMany (2) -/
def zf_1114 (Z : qz_Z) (hb : Int) (a2 : Int) (a3 : Int) (a4 : Int) : Int := (zlet2 (zl_1114_1 hb a2 a3 a4 61 Z 0 0) (fun y1 y2 => y1))
theorem sp_1114 {s : zSM} {Z : qz_Z} {ν : qz_N} (hZ : zH s Z) (hb : Nat) {a2 : Int} (ga2 : 6 ≤ a2 ∧ a2 ≤ 6) {a3 : Int} (ga3 : 9 ≤ a3 ∧ a3 ≤ 9) {a4 : Int} (ga4 : 0 ≤ a4 ∧ a4 ≤ 3) (hM : s.2 + 0 ≤ 1000000000) : ∃ P : Int, P = zf_1114 Z hb a2 a3 a4 ∧ (qf_114 [.inr (.inr (some (10, hb, 0))), .inr (.inr (some (27, hb, 0))), .inl (i3 a2), .inl (i3 a3), .inl (i3 a4)] (zm Z ν) = some (zm Z ν, .inl (some (.inl (i3 P)))) ∧ 0 ≤ P ∧ P ≤ 60) := by
  obtain ⟨P, hP⟩ := zx (zf_1114 Z hb a2 a3 a4)
  refine zc_R (Q := fun P => 0 ≤ P ∧ P ≤ 60) hP (fw_114 hb (27, hb, 0) (i3 a2) (i3 a3) (i3 a4) _ _ ?_)
  replace hP : zE P (zf_1114 Z hb a2 a3 a4) := hP
  unfold zf_1114 at hP
  refine sl_1114_1 (ν := ν) hZ (zbh (c := 0) (k := 0) hM (Nat.le_of_ble_eq_true rfl)) hb (x2 := a2) (by omega) (x3 := a3) (by omega) (x4 := a4) (by omega) (x5 := 0) (by omega) (x6 := 0) (by omega) (by omega) (zconso rfl (zconso rfl (zconso (zvo (rfl : i3 a2 = i3 a2)) (zconso (zvo (rfl : i3 a3 = i3 a3)) (zconso (zvo (rfl : i3 a4 = i3 a4)) (zconso (zvo (show (0 : Int32) = i3 0 from rfl)) (zconso (zvo (show (0 : Int32) = i3 0 from rfl)) rfl))))))) rfl ?_
  intro L3 y1 y2 hL3 gy1 gy2 gL3_0 q9
  replace hP := zl_e2 hP (Eq.symm q9)
  clear q9
  refine fc_114_2 (i3 y1) _ _ _ _ hL3 ?_
  exact zlR hP (rfl : i3 y1 = i3 y1) ⟨by omega, by omega⟩
/- yX6_tellSum -/
def zf_124 (Z : qz_Z) (hb : Int) (a1 : Int) : Int := (if a1 < 5 then (if a1 = 0 then (Z 11 hb 0 13) else (if a1 = 1 then (Z 11 hb 0 0) else (if a1 = 2 then (Z 11 hb 0 1) else (if a1 = 3 then (Z 11 hb 0 2) else (Z 11 hb 0 3))))) else (if 9 < a1 then (if a1 < 13 then (if a1 = 10 then (Z 11 hb 0 4) else (if a1 = 11 then (Z 11 hb 0 5) else (Z 11 hb 0 6))) else (if 16 < a1 then (if a1 < 0 ∨ 19 < a1 then (Z 11 hb 0 10) else (if a1 = 17 then (Z 11 hb 0 7) else (if a1 = 18 then (Z 11 hb 0 8) else (Z 11 hb 0 9)))) else (zlet (zf_1114 Z hb 6 9 (a1 - 13)) (fun v26 => v26)))) else (zlet (zf_114 Z hb 3 10 (a1 - 5)) (fun v27 => v27))))
theorem sp_124 {s : zSM} {Z : qz_Z} {ν : qz_N} (hZ : zH s Z) (hb : Nat) {a1 : Int} (ga1 : 0 ≤ a1 ∧ a1 ≤ 23) (hM : s.2 + 0 ≤ 1000000000) : ∃ P : Int, P = zf_124 Z hb a1 ∧ (qf_124 [.inr (.inr (some (10, hb, 0))), .inl (i3 a1)] (zm Z ν) = some (zm Z ν, .inl (some (.inl (i3 P)))) ∧ 0 ≤ P ∧ P ≤ 671) := by
  obtain ⟨P, hP⟩ := zx (zf_124 Z hb a1)
  refine zc_R (Q := fun P => 0 ≤ P ∧ P ≤ 671) hP (fw_124 hb (i3 a1) _ _ ?_)
  replace hP : zE P (zf_124 Z hb a1) := hP
  unfold zf_124 at hP
  refine wz_br (i3L (rfl : i3 a1 = i3 a1) (show (5 : Int32) = i3 5 from rfl) (by omega) (by omega) (by omega) (by omega)) (fun h1 => ?_) (fun h1 => ?_)
  · replace hP := zE_p hP h1
    refine wz_i1 (Eq.trans (i3L (rfl : i3 a1 = i3 a1) (show (13 : Int32) = i3 13 from rfl) (by omega) (by omega) (by omega) (by omega)) (decide_eq_true (by omega))) ?_
    refine wz_i0 (Eq.trans (i3To (rfl : i3 a1 = i3 a1) (by omega) (by omega)) (decide_eq_false (by omega))) ?_
    refine wz_br (i3T (rfl : i3 a1 = i3 a1) (by omega) (by omega)) (fun h2 => ?_) (fun h2 => ?_)
    · replace hP := zE_p hP h2
      have r3 := zH_k hZ 11 hb 0 13 (lo := 0) (hi := 671) (by decide) rfl
      exact zlR hP (zm_rd (Z := Z) (ν := ν) (k := 11) (rfl : ((hb : Nat) : Int) = hb) (show ((0 : Nat) : Int) = 0 from rfl) (show ((13 : Nat) : Int) = 13 from rfl)) ⟨by omega, by omega⟩
    · replace hP := zE_n hP h2
      refine wz_br (i3T (rfl : i3 a1 = i3 a1) (by omega) (by omega)) (fun h4 => ?_) (fun h4 => ?_)
      · replace hP := zE_p hP h4
        have r5 := zH_k hZ 11 hb 0 0 (lo := 0) (hi := 5) (by decide) rfl
        exact zlR hP (zm_rd (Z := Z) (ν := ν) (k := 11) (rfl : ((hb : Nat) : Int) = hb) (show ((0 : Nat) : Int) = 0 from rfl) (show ((0 : Nat) : Int) = 0 from rfl)) ⟨by omega, by omega⟩
      · replace hP := zE_n hP h4
        refine wz_br (i3T (rfl : i3 a1 = i3 a1) (by omega) (by omega)) (fun h6 => ?_) (fun h6 => ?_)
        · replace hP := zE_p hP h6
          have r7 := zH_k hZ 11 hb 0 1 (lo := 0) (hi := 6) (by decide) rfl
          exact zlR hP (zm_rd (Z := Z) (ν := ν) (k := 11) (rfl : ((hb : Nat) : Int) = hb) (show ((0 : Nat) : Int) = 0 from rfl) (show ((1 : Nat) : Int) = 1 from rfl)) ⟨by omega, by omega⟩
        · replace hP := zE_n hP h6
          refine wz_br (i3T (rfl : i3 a1 = i3 a1) (by omega) (by omega)) (fun h8 => ?_) (fun h8 => ?_)
          · replace hP := zE_p hP h8
            have r9 := zH_k hZ 11 hb 0 2 (lo := 0) (hi := 6) (by decide) rfl
            exact zlR hP (zm_rd (Z := Z) (ν := ν) (k := 11) (rfl : ((hb : Nat) : Int) = hb) (show ((0 : Nat) : Int) = 0 from rfl) (show ((2 : Nat) : Int) = 2 from rfl)) ⟨by omega, by omega⟩
          · replace hP := zE_n hP h8
            refine wz_i1 (Eq.trans (i3T (rfl : i3 a1 = i3 a1) (by omega) (by omega)) (decide_eq_true (by omega))) ?_
            have r10 := zH_k hZ 11 hb 0 3 (lo := 0) (hi := 48) (by decide) rfl
            exact zlR hP (zm_rd (Z := Z) (ν := ν) (k := 11) (rfl : ((hb : Nat) : Int) = hb) (show ((0 : Nat) : Int) = 0 from rfl) (show ((3 : Nat) : Int) = 3 from rfl)) ⟨by omega, by omega⟩
  · replace hP := zE_n hP h1
    refine wz_br (i3L (show (9 : Int32) = i3 9 from rfl) (rfl : i3 a1 = i3 a1) (by omega) (by omega) (by omega) (by omega)) (fun h11 => ?_) (fun h11 => ?_)
    · replace hP := zE_p hP h11
      refine wz_br (i3L (rfl : i3 a1 = i3 a1) (show (13 : Int32) = i3 13 from rfl) (by omega) (by omega) (by omega) (by omega)) (fun h12 => ?_) (fun h12 => ?_)
      · replace hP := zE_p hP h12
        refine wz_i0 (Eq.trans (i3To (rfl : i3 a1 = i3 a1) (by omega) (by omega)) (decide_eq_false (by omega))) ?_
        refine wz_i0 (Eq.trans (i3T (rfl : i3 a1 = i3 a1) (by omega) (by omega)) (decide_eq_false (by omega))) ?_
        refine wz_i0 (Eq.trans (i3T (rfl : i3 a1 = i3 a1) (by omega) (by omega)) (decide_eq_false (by omega))) ?_
        refine wz_i0 (Eq.trans (i3T (rfl : i3 a1 = i3 a1) (by omega) (by omega)) (decide_eq_false (by omega))) ?_
        refine wz_i0 (Eq.trans (i3T (rfl : i3 a1 = i3 a1) (by omega) (by omega)) (decide_eq_false (by omega))) ?_
        refine wz_i0 (Eq.trans (i3T (rfl : i3 a1 = i3 a1) (by omega) (by omega)) (decide_eq_false (by omega))) ?_
        refine wz_i0 (Eq.trans (i3T (rfl : i3 a1 = i3 a1) (by omega) (by omega)) (decide_eq_false (by omega))) ?_
        refine wz_i0 (Eq.trans (i3T (rfl : i3 a1 = i3 a1) (by omega) (by omega)) (decide_eq_false (by omega))) ?_
        refine wz_i0 (Eq.trans (i3T (rfl : i3 a1 = i3 a1) (by omega) (by omega)) (decide_eq_false (by omega))) ?_
        refine wz_i0 (Eq.trans (i3T (rfl : i3 a1 = i3 a1) (by omega) (by omega)) (decide_eq_false (by omega))) ?_
        refine wz_i0 (Eq.trans (i3T (rfl : i3 a1 = i3 a1) (by omega) (by omega)) (decide_eq_false (by omega))) ?_
        refine wz_br (i3T (rfl : i3 a1 = i3 a1) (by omega) (by omega)) (fun h13 => ?_) (fun h13 => ?_)
        · replace hP := zE_p hP h13
          have r14 := zH_k hZ 11 hb 0 4 (lo := 0) (hi := 8) (by decide) rfl
          exact zlR hP (zm_rd (Z := Z) (ν := ν) (k := 11) (rfl : ((hb : Nat) : Int) = hb) (show ((0 : Nat) : Int) = 0 from rfl) (show ((4 : Nat) : Int) = 4 from rfl)) ⟨by omega, by omega⟩
        · replace hP := zE_n hP h13
          refine wz_br (i3T (rfl : i3 a1 = i3 a1) (by omega) (by omega)) (fun h15 => ?_) (fun h15 => ?_)
          · replace hP := zE_p hP h15
            have r16 := zH_k hZ 11 hb 0 5 (lo := 0) (hi := 24) (by decide) rfl
            exact zlR hP (zm_rd (Z := Z) (ν := ν) (k := 11) (rfl : ((hb : Nat) : Int) = hb) (show ((0 : Nat) : Int) = 0 from rfl) (show ((5 : Nat) : Int) = 5 from rfl)) ⟨by omega, by omega⟩
          · replace hP := zE_n hP h15
            refine wz_i1 (Eq.trans (i3T (rfl : i3 a1 = i3 a1) (by omega) (by omega)) (decide_eq_true (by omega))) ?_
            have r17 := zH_k hZ 11 hb 0 6 (lo := 0) (hi := 60) (by decide) rfl
            exact zlR hP (zm_rd (Z := Z) (ν := ν) (k := 11) (rfl : ((hb : Nat) : Int) = hb) (show ((0 : Nat) : Int) = 0 from rfl) (show ((6 : Nat) : Int) = 6 from rfl)) ⟨by omega, by omega⟩
      · replace hP := zE_n hP h12
        refine wz_br (i3L (show (16 : Int32) = i3 16 from rfl) (rfl : i3 a1 = i3 a1) (by omega) (by omega) (by omega) (by omega)) (fun h18 => ?_) (fun h18 => ?_)
        · replace hP := zE_p hP h18
          refine wz_br (i3To (rfl : i3 a1 = i3 a1) (by omega) (by omega)) (fun h19 => ?_) (fun h19 => ?_)
          · replace hP := zE_p hP h19
            have r20 := zH_k hZ 11 hb 0 10 (lo := 0) (hi := 12) (by decide) rfl
            exact zlR hP (zm_rd (Z := Z) (ν := ν) (k := 11) (rfl : ((hb : Nat) : Int) = hb) (show ((0 : Nat) : Int) = 0 from rfl) (show ((10 : Nat) : Int) = 10 from rfl)) ⟨by omega, by omega⟩
          · replace hP := zE_n hP h19
            refine wz_i0 (Eq.trans (i3T (rfl : i3 a1 = i3 a1) (by omega) (by omega)) (decide_eq_false (by omega))) ?_
            refine wz_i0 (Eq.trans (i3T (rfl : i3 a1 = i3 a1) (by omega) (by omega)) (decide_eq_false (by omega))) ?_
            refine wz_i0 (Eq.trans (i3T (rfl : i3 a1 = i3 a1) (by omega) (by omega)) (decide_eq_false (by omega))) ?_
            refine wz_i0 (Eq.trans (i3T (rfl : i3 a1 = i3 a1) (by omega) (by omega)) (decide_eq_false (by omega))) ?_
            refine wz_i0 (Eq.trans (i3T (rfl : i3 a1 = i3 a1) (by omega) (by omega)) (decide_eq_false (by omega))) ?_
            refine wz_i0 (Eq.trans (i3T (rfl : i3 a1 = i3 a1) (by omega) (by omega)) (decide_eq_false (by omega))) ?_
            refine wz_i0 (Eq.trans (i3T (rfl : i3 a1 = i3 a1) (by omega) (by omega)) (decide_eq_false (by omega))) ?_
            refine wz_i0 (Eq.trans (i3T (rfl : i3 a1 = i3 a1) (by omega) (by omega)) (decide_eq_false (by omega))) ?_
            refine wz_i0 (Eq.trans (i3T (rfl : i3 a1 = i3 a1) (by omega) (by omega)) (decide_eq_false (by omega))) ?_
            refine wz_i0 (Eq.trans (i3T (rfl : i3 a1 = i3 a1) (by omega) (by omega)) (decide_eq_false (by omega))) ?_
            refine wz_i0 (Eq.trans (i3T (rfl : i3 a1 = i3 a1) (by omega) (by omega)) (decide_eq_false (by omega))) ?_
            refine wz_i0 (Eq.trans (i3T (rfl : i3 a1 = i3 a1) (by omega) (by omega)) (decide_eq_false (by omega))) ?_
            refine wz_i0 (Eq.trans (i3T (rfl : i3 a1 = i3 a1) (by omega) (by omega)) (decide_eq_false (by omega))) ?_
            refine wz_i0 (Eq.trans (i3T (rfl : i3 a1 = i3 a1) (by omega) (by omega)) (decide_eq_false (by omega))) ?_
            refine wz_i0 (Eq.trans (i3T (rfl : i3 a1 = i3 a1) (by omega) (by omega)) (decide_eq_false (by omega))) ?_
            refine wz_i0 (Eq.trans (i3T (rfl : i3 a1 = i3 a1) (by omega) (by omega)) (decide_eq_false (by omega))) ?_
            refine wz_i0 (Eq.trans (i3T (rfl : i3 a1 = i3 a1) (by omega) (by omega)) (decide_eq_false (by omega))) ?_
            refine wz_br (i3T (rfl : i3 a1 = i3 a1) (by omega) (by omega)) (fun h21 => ?_) (fun h21 => ?_)
            · replace hP := zE_p hP h21
              have r22 := zH_k hZ 11 hb 0 7 (lo := 0) (hi := 2) (by decide) rfl
              exact zlR hP (zm_rd (Z := Z) (ν := ν) (k := 11) (rfl : ((hb : Nat) : Int) = hb) (show ((0 : Nat) : Int) = 0 from rfl) (show ((7 : Nat) : Int) = 7 from rfl)) ⟨by omega, by omega⟩
            · replace hP := zE_n hP h21
              refine wz_br (i3T (rfl : i3 a1 = i3 a1) (by omega) (by omega)) (fun h23 => ?_) (fun h23 => ?_)
              · replace hP := zE_p hP h23
                have r24 := zH_k hZ 11 hb 0 8 (lo := 0) (hi := 4) (by decide) rfl
                exact zlR hP (zm_rd (Z := Z) (ν := ν) (k := 11) (rfl : ((hb : Nat) : Int) = hb) (show ((0 : Nat) : Int) = 0 from rfl) (show ((8 : Nat) : Int) = 8 from rfl)) ⟨by omega, by omega⟩
              · replace hP := zE_n hP h23
                refine wz_i1 (Eq.trans (i3T (rfl : i3 a1 = i3 a1) (by omega) (by omega)) (decide_eq_true (by omega))) ?_
                have r25 := zH_k hZ 11 hb 0 9 (lo := 0) (hi := 2) (by decide) rfl
                exact zlR hP (zm_rd (Z := Z) (ν := ν) (k := 11) (rfl : ((hb : Nat) : Int) = hb) (show ((0 : Nat) : Int) = 0 from rfl) (show ((9 : Nat) : Int) = 9 from rfl)) ⟨by omega, by omega⟩
        · replace hP := zE_n hP h18
          obtain ⟨v26, hv26, c9, lv26, uv26⟩ := sp_1114 (ν := ν) hZ hb (a2 := 6) (by omega) (a3 := 9) (by omega) (a4 := (a1 - 13)) (by omega) (zbh (c := 0) (k := 0) hM (Nat.le_of_ble_eq_true rfl))
          replace hP := zl_e hP hv26
          refine wz_cI_of (zas (zcons rfl (zcons rfl (zcons (zvi (show (6 : Int32) = i3 6 from rfl)) (zcons (zvi (show (9 : Int32) = i3 9 from rfl)) (zcons (zvi (i3S (rfl : i3 a1 = i3 a1) (show (13 : Int32) = i3 13 from rfl))) rfl))))) c9) ?_
          clear c9
          exact zlR hP (rfl : i3 v26 = i3 v26) ⟨by omega, by omega⟩
    · replace hP := zE_n hP h11
      obtain ⟨v27, hv27, c9, lv27, uv27⟩ := sp_114 (ν := ν) hZ hb (a2 := 3) (by omega) (a3 := 10) (by omega) (a4 := (a1 - 5)) (by omega) (zbh (c := 0) (k := 0) hM (Nat.le_of_ble_eq_true rfl))
      replace hP := zl_e hP hv27
      refine wz_cI_of (zas (zcons rfl (zcons rfl (zcons (zvi (show (3 : Int32) = i3 3 from rfl)) (zcons (zvi (show (10 : Int32) = i3 10 from rfl)) (zcons (zvi (i3S (rfl : i3 a1 = i3 a1) (show (5 : Int32) = i3 5 from rfl))) rfl))))) c9) ?_
      clear c9
      exact zlR hP (rfl : i3 v27 = i3 v27) ⟨by omega, by omega⟩
/- yX7_areSound -/
def zl_128_1 (x0b : Int) : Nat → qz_Z → Int → Int → Int → Int × Int × Int
  | 0, Z, x1, x2, x3 => (x1, x2, x3)
  | m + 1, Z, x1, x2, x3 => (if (Z 11 x0b 0 9) ≤ x3 then (x1, x2, x3) else zl_128_1 x0b m Z (w3 (x1 + (Z 51 x0b x3 6))) (w3 (x2 + (Z 51 x0b x3 5))) (x3 + 1))
theorem sl_128_1 {s : zSM} {Z : qz_Z} {ν : qz_N} (hZ : zH s Z) (hM : s.2 + 0 ≤ 1000000000) (x0b : Nat) {x1 : Int} (gx1 : -2147483648 ≤ x1 ∧ x1 ≤ 2147483647) {x2 : Int} (gx2 : -2147483648 ≤ x2 ∧ x2 ≤ 2147483647) {x3 : Int} (gx3 : 0 ≤ x3 ∧ x3 ≤ 2) {k : wz_K} {R : wz_R} {L : qz_L} (hL : qz_fg [true, true, true, true, false, false, false, false] L = [some (.inr (.inr (some (10, x0b, 0)))), some (.inl (i3 x1)), some (.inl (i3 x2)), some (.inl (i3 x3)), none, none, none, none]) {T : Int × Int × Int} (hP : zE T (zl_128_1 x0b ((2 - x3).toNat + 1) Z x1 x2 x3)) (hk : ∀ (L9 : qz_L) (yx1 yx2 yx3 : Int), qz_fg [true, true, true, false, false, false, false, false] L9 = [some (.inr (.inr (some (10, x0b, 0)))), some (.inl (i3 yx1)), some (.inl (i3 yx2)), none, none, none, none, none] → (-2147483648 ≤ yx1 ∧ yx1 ≤ 2147483647) → (-2147483648 ≤ yx2 ∧ yx2 ≤ 2147483647) → (0 ≤ yx3 ∧ yx3 ≤ 2) → zE T ((yx1, yx2, yx3)) → k 0 (L9, [], zm Z ν)) : wz_loop qb_128_1 65536 k R (L, [], zm Z ν) := by
  refine wz_lp sb_128_1 (fun m x => ∃ x1 : Int, ∃ x2 : Int, ∃ x3 : Int, qz_fg [true, true, true, true, false, false, false, false] x.1 = [some (.inr (.inr (some (10, x0b, 0)))), some (.inl (i3 x1)), some (.inl (i3 x2)), some (.inl (i3 x3)), none, none, none, none] ∧ x.2 = ([], zm Z ν) ∧ m = (2 - x3).toNat ∧ (-2147483648 ≤ x1 ∧ x1 ≤ 2147483647) ∧ (-2147483648 ≤ x2 ∧ x2 ≤ 2147483647) ∧ (0 ≤ x3 ∧ x3 ≤ 2) ∧ zE T (zl_128_1 x0b (m + 1) Z x1 x2 x3)) ?_ 65536 ((2 - x3).toNat) _ (by omega) ⟨x1, x2, x3, hL, rfl, rfl, gx1, gx2, gx3, hP⟩
  clear hP gx1 gx2 gx3 hL
  clear x1 x2 x3
  rintro m ⟨L, st, μ⟩ ⟨x1, x2, x3, hL, hx, hm, gx1, gx2, gx3, hP⟩
  cases hx
  refine fb_128_1 x0b (i3 x1) (i3 x2) (i3 x3) _ _ _ _ hL ?_
  have r1 := zH_k hZ 11 x0b 0 9 (lo := 0) (hi := 2) (by decide) rfl
  refine wz_br (i3Le (zm_rd (Z := Z) (ν := ν) (k := 11) (rfl : ((x0b : Nat) : Int) = x0b) (show ((0 : Nat) : Int) = 0 from rfl) (show ((9 : Nat) : Int) = 9 from rfl)) (rfl : i3 x3 = i3 x3) (by omega) (by omega) (by omega) (by omega)) (fun h2 => ?_) (fun h2 => ?_)
  · replace hP := zE_p hP h2
    exact hk _ _ _ _ (zconso rfl (zconso (zvo (rfl : i3 x1 = i3 x1)) (zconso (zvo (rfl : i3 x2 = i3 x2)) (zconso rfl (zconso rfl (zconso rfl (zconso rfl (zconso rfl rfl))))))))  (by omega) (by omega) (by omega)  hP
  · replace hP := zE_n hP h2
    refine wz_i0 (i3O (n := 2) (rfl : i3 x3 = i3 x3) (by omega) (by omega) (by omega)) ?_
    refine wz_i0 (i3O (n := 2) (rfl : i3 x3 = i3 x3) (by omega) (by omega) (by omega)) ?_
    have r3 := zH_f hZ 51 x0b x3 6
    have r4 := w3_r (x1 + (Z 51 x0b x3 6))
    have r5 := zH_f hZ 51 x0b x3 5
    have r6 := w3_r (x2 + (Z 51 x0b x3 5))
    obtain ⟨m2, rfl⟩ : ∃ m2, m = m2 + 1 := ⟨m - 1, by omega⟩
    exact wz_k1 ⟨m2, by omega, (w3 (x1 + (Z 51 x0b x3 6))), (w3 (x2 + (Z 51 x0b x3 5))), (x3 + 1), (zconso rfl (zconso (zvo (i3W (i3A (rfl : i3 x1 = i3 x1) (zm_rd (Z := Z) (ν := ν) (k := 51) (rfl : ((x0b : Nat) : Int) = x0b) (i3I (y := x3) (rfl : i3 x3 = i3 x3) (by omega) (by omega) (by omega)) (show ((6 : Nat) : Int) = 6 from rfl))))) (zconso (zvo (i3W (i3A (rfl : i3 x2 = i3 x2) (zm_rd (Z := Z) (ν := ν) (k := 51) (rfl : ((x0b : Nat) : Int) = x0b) (i3I (y := x3) (rfl : i3 x3 = i3 x3) (by omega) (by omega) (by omega)) (show ((5 : Nat) : Int) = 5 from rfl))))) (zconso (zvo (i3A (rfl : i3 x3 = i3 x3) (show (1 : Int32) = i3 1 from rfl))) (zconso rfl (zconso rfl (zconso rfl (zconso rfl rfl)))))))), rfl,  by omega, by omega, by omega, by omega,  hP⟩
/- yX7_areSound -/
def zl_128_2 (x0b : Int) (x3 : Int) : Nat → qz_Z → Int → Int → Int → Int × Int × Int
  | 0, Z, x4, x5, x6 => (x4, x5, x6)
  | m + 1, Z, x4, x5, x6 => (if x3 ≤ x6 then (x4, x5, x6) else (if x4 = 0 then (x4, x5, x6) else (if x5 < (Z 52 x0b ((max 0 (((Z 11 x0b 0 11) - 1) - x6)) % 24) 1) then zl_128_2 x0b x3 m Z 0 (Z 52 x0b ((max 0 (((Z 11 x0b 0 11) - 1) - x6)) % 24) 1) (x6 + 1) else (if (Z 52 x0b ((max 0 (((Z 11 x0b 0 11) - 1) - x6)) % 24) 3) ≠ 0 then zl_128_2 x0b x3 m Z 1 (Z 52 x0b ((max 0 (((Z 11 x0b 0 11) - 1) - x6)) % 24) 1) (x6 + 1) else (if (Z 44 x0b (Z 52 x0b ((max 0 (((Z 11 x0b 0 11) - 1) - x6)) % 24) 2) 10) ≠ 3 then zl_128_2 x0b x3 m Z 0 (Z 52 x0b ((max 0 (((Z 11 x0b 0 11) - 1) - x6)) % 24) 1) (x6 + 1) else zl_128_2 x0b x3 m Z 1 (Z 52 x0b ((max 0 (((Z 11 x0b 0 11) - 1) - x6)) % 24) 1) (x6 + 1))))))
theorem sl_128_2 {s : zSM} {Z : qz_Z} {ν : qz_N} (hZ : zH s Z) (hM : s.2 + 0 ≤ 1000000000) (x0b : Nat) {x3 : Int} (gx3 : 0 ≤ x3 ∧ x3 ≤ 24) {x4 : Int} (gx4 : 0 ≤ x4 ∧ x4 ≤ 1) {x5 : Int} (gx5 : 0 ≤ x5 ∧ x5 ≤ 671) {x6 : Int} (gx6 : 0 ≤ x6 ∧ x6 ≤ 24) {k : wz_K} {R : wz_R} {L : qz_L} (hL : qz_fg [true, false, false, true, true, true, true, false] L = [some (.inr (.inr (some (10, x0b, 0)))), none, none, some (.inl (i3 x3)), some (.inl (i3 x4)), some (.inl (i3 x5)), some (.inl (i3 x6)), none]) {T : Int × Int × Int} (hP : zE T (zl_128_2 x0b x3 ((24 - x6).toNat + 1) Z x4 x5 x6)) (hk : ∀ (L9 : qz_L) (yx4 yx5 yx6 : Int), qz_fg [true, false, false, false, true, false, false, false] L9 = [some (.inr (.inr (some (10, x0b, 0)))), none, none, none, some (.inl (i3 yx4)), none, none, none] → (0 ≤ yx4 ∧ yx4 ≤ 1) → (0 ≤ yx5 ∧ yx5 ≤ 671) → (0 ≤ yx6 ∧ yx6 ≤ 24) → zE T ((yx4, yx5, yx6)) → k 0 (L9, [], zm Z ν)) : wz_loop qb_128_2 65536 k R (L, [], zm Z ν) := by
  refine wz_lp sb_128_2 (fun m x => ∃ x4 : Int, ∃ x5 : Int, ∃ x6 : Int, qz_fg [true, false, false, true, true, true, true, false] x.1 = [some (.inr (.inr (some (10, x0b, 0)))), none, none, some (.inl (i3 x3)), some (.inl (i3 x4)), some (.inl (i3 x5)), some (.inl (i3 x6)), none] ∧ x.2 = ([], zm Z ν) ∧ m = (24 - x6).toNat ∧ (0 ≤ x4 ∧ x4 ≤ 1) ∧ (0 ≤ x5 ∧ x5 ≤ 671) ∧ (0 ≤ x6 ∧ x6 ≤ 24) ∧ zE T (zl_128_2 x0b x3 (m + 1) Z x4 x5 x6)) ?_ 65536 ((24 - x6).toNat) _ (by omega) ⟨x4, x5, x6, hL, rfl, rfl, gx4, gx5, gx6, hP⟩
  clear hP gx4 gx5 gx6 hL
  clear x4 x5 x6
  rintro m ⟨L, st, μ⟩ ⟨x4, x5, x6, hL, hx, hm, gx4, gx5, gx6, hP⟩
  cases hx
  refine fb_128_2 x0b (i3 x3) (i3 x4) (i3 x5) (i3 x6) _ _ _ _ hL ?_
  refine wz_br (i3Le (rfl : i3 x3 = i3 x3) (rfl : i3 x6 = i3 x6) (by omega) (by omega) (by omega) (by omega)) (fun h1 => ?_) (fun h1 => ?_)
  · replace hP := zE_p hP h1
    exact hk _ _ _ _ (zconso rfl (zconso rfl (zconso rfl (zconso rfl (zconso (zvo (rfl : i3 x4 = i3 x4)) (zconso rfl (zconso rfl (zconso rfl rfl))))))))  (by omega) (by omega) (by omega)  hP
  · replace hP := zE_n hP h1
    refine wz_br (i3E (rfl : i3 x4 = i3 x4) (show (0 : Int32) = i3 0 from rfl) (by omega) (by omega) (by omega) (by omega)) (fun h2 => ?_) (fun h2 => ?_)
    · replace hP := zE_p hP h2
      exact hk _ _ _ _ (zconso rfl (zconso rfl (zconso rfl (zconso rfl (zconso (zvo (rfl : i3 x4 = i3 x4)) (zconso rfl (zconso rfl (zconso rfl rfl))))))))  (by omega) (by omega) (by omega)  hP
    · replace hP := zE_n hP h2
      have r3 := zH_c11 hZ x0b (zbh (c := 0) (k := 0) hM (Nat.le_of_ble_eq_true rfl))
      refine wz_i0 (i3O (n := 24) (i3R (i3Mx (show (0 : Int32) = i3 0 from rfl) (i3S (i3S (zm_rd (Z := Z) (ν := ν) (k := 11) (rfl : ((x0b : Nat) : Int) = x0b) (show ((0 : Nat) : Int) = 0 from rfl) (show ((11 : Nat) : Int) = 11 from rfl)) (show (1 : Int32) = i3 1 from rfl)) (rfl : i3 x6 = i3 x6)) (by omega) (by omega) (by omega) (by omega)) (show (24 : Int32) = i3 24 from rfl) (by omega) (by omega) (by omega) (by omega)) (by omega) (by omega) (by omega)) ?_
      have r4 := zH_k hZ 52 x0b ((max 0 (((Z 11 x0b 0 11) - 1) - x6)) % 24) 1 (lo := 0) (hi := 671) (by decide) rfl
      refine wz_br (i3L (rfl : i3 x5 = i3 x5) (zm_rd (Z := Z) (ν := ν) (k := 52) (rfl : ((x0b : Nat) : Int) = x0b) (i3I (y := ((max 0 (((Z 11 x0b 0 11) - 1) - x6)) % 24)) (i3R (i3Mx (show (0 : Int32) = i3 0 from rfl) (i3S (i3S (zm_rd (Z := Z) (ν := ν) (k := 11) (rfl : ((x0b : Nat) : Int) = x0b) (show ((0 : Nat) : Int) = 0 from rfl) (show ((11 : Nat) : Int) = 11 from rfl)) (show (1 : Int32) = i3 1 from rfl)) (rfl : i3 x6 = i3 x6)) (by omega) (by omega) (by omega) (by omega)) (show (24 : Int32) = i3 24 from rfl) (by omega) (by omega) (by omega) (by omega)) (by omega) (by omega) (by omega)) (show ((1 : Nat) : Int) = 1 from rfl)) (by omega) (by omega) (by omega) (by omega)) (fun h5 => ?_) (fun h5 => ?_)
      · replace hP := zE_p hP h5
        obtain ⟨m2, rfl⟩ : ∃ m2, m = m2 + 1 := ⟨m - 1, by omega⟩
        exact wz_k1 ⟨m2, by omega, 0, (Z 52 x0b ((max 0 (((Z 11 x0b 0 11) - 1) - x6)) % 24) 1), (x6 + 1), (zconso rfl (zconso rfl (zconso rfl (zconso (zvo (rfl : i3 x3 = i3 x3)) (zconso (zvo (show (0 : Int32) = i3 0 from rfl)) (zconso (zvo (zm_rd (Z := Z) (ν := ν) (k := 52) (rfl : ((x0b : Nat) : Int) = x0b) (i3I (y := ((max 0 (((Z 11 x0b 0 11) - 1) - x6)) % 24)) (i3R (i3Mx (show (0 : Int32) = i3 0 from rfl) (i3S (i3S (zm_rd (Z := Z) (ν := ν) (k := 11) (rfl : ((x0b : Nat) : Int) = x0b) (show ((0 : Nat) : Int) = 0 from rfl) (show ((11 : Nat) : Int) = 11 from rfl)) (show (1 : Int32) = i3 1 from rfl)) (rfl : i3 x6 = i3 x6)) (by omega) (by omega) (by omega) (by omega)) (show (24 : Int32) = i3 24 from rfl) (by omega) (by omega) (by omega) (by omega)) (by omega) (by omega) (by omega)) (show ((1 : Nat) : Int) = 1 from rfl))) (zconso (zvo (i3A (rfl : i3 x6 = i3 x6) (show (1 : Int32) = i3 1 from rfl))) (zconso rfl rfl)))))))), rfl,  by omega, by omega, by omega, by omega,  hP⟩
      · replace hP := zE_n hP h5
        have r6 := zH_k hZ 52 x0b ((max 0 (((Z 11 x0b 0 11) - 1) - x6)) % 24) 3 (lo := 0) (hi := 2) (by decide) rfl
        refine wz_br (i3NE (zm_rd (Z := Z) (ν := ν) (k := 52) (rfl : ((x0b : Nat) : Int) = x0b) (i3I (y := ((max 0 (((Z 11 x0b 0 11) - 1) - x6)) % 24)) (i3R (i3Mx (show (0 : Int32) = i3 0 from rfl) (i3S (i3S (zm_rd (Z := Z) (ν := ν) (k := 11) (rfl : ((x0b : Nat) : Int) = x0b) (show ((0 : Nat) : Int) = 0 from rfl) (show ((11 : Nat) : Int) = 11 from rfl)) (show (1 : Int32) = i3 1 from rfl)) (rfl : i3 x6 = i3 x6)) (by omega) (by omega) (by omega) (by omega)) (show (24 : Int32) = i3 24 from rfl) (by omega) (by omega) (by omega) (by omega)) (by omega) (by omega) (by omega)) (show ((3 : Nat) : Int) = 3 from rfl)) (show (0 : Int32) = i3 0 from rfl) (by omega) (by omega) (by omega) (by omega)) (fun h7 => ?_) (fun h7 => ?_)
        · replace hP := zE_p hP h7
          obtain ⟨m2, rfl⟩ : ∃ m2, m = m2 + 1 := ⟨m - 1, by omega⟩
          exact wz_k1 ⟨m2, by omega, 1, (Z 52 x0b ((max 0 (((Z 11 x0b 0 11) - 1) - x6)) % 24) 1), (x6 + 1), (zconso rfl (zconso rfl (zconso rfl (zconso (zvo (rfl : i3 x3 = i3 x3)) (zconso (zvo (show (1 : Int32) = i3 1 from rfl)) (zconso (zvo (zm_rd (Z := Z) (ν := ν) (k := 52) (rfl : ((x0b : Nat) : Int) = x0b) (i3I (y := ((max 0 (((Z 11 x0b 0 11) - 1) - x6)) % 24)) (i3R (i3Mx (show (0 : Int32) = i3 0 from rfl) (i3S (i3S (zm_rd (Z := Z) (ν := ν) (k := 11) (rfl : ((x0b : Nat) : Int) = x0b) (show ((0 : Nat) : Int) = 0 from rfl) (show ((11 : Nat) : Int) = 11 from rfl)) (show (1 : Int32) = i3 1 from rfl)) (rfl : i3 x6 = i3 x6)) (by omega) (by omega) (by omega) (by omega)) (show (24 : Int32) = i3 24 from rfl) (by omega) (by omega) (by omega) (by omega)) (by omega) (by omega) (by omega)) (show ((1 : Nat) : Int) = 1 from rfl))) (zconso (zvo (i3A (rfl : i3 x6 = i3 x6) (show (1 : Int32) = i3 1 from rfl))) (zconso rfl rfl)))))))), rfl,  by omega, by omega, by omega, by omega,  hP⟩
        · replace hP := zE_n hP h7
          have r8 := zH_k hZ 52 x0b ((max 0 (((Z 11 x0b 0 11) - 1) - x6)) % 24) 2 (lo := 0) (hi := 47) (by decide) rfl
          refine wz_i0 (i3O (n := 48) (zm_rd (Z := Z) (ν := ν) (k := 52) (rfl : ((x0b : Nat) : Int) = x0b) (i3I (y := ((max 0 (((Z 11 x0b 0 11) - 1) - x6)) % 24)) (i3R (i3Mx (show (0 : Int32) = i3 0 from rfl) (i3S (i3S (zm_rd (Z := Z) (ν := ν) (k := 11) (rfl : ((x0b : Nat) : Int) = x0b) (show ((0 : Nat) : Int) = 0 from rfl) (show ((11 : Nat) : Int) = 11 from rfl)) (show (1 : Int32) = i3 1 from rfl)) (rfl : i3 x6 = i3 x6)) (by omega) (by omega) (by omega) (by omega)) (show (24 : Int32) = i3 24 from rfl) (by omega) (by omega) (by omega) (by omega)) (by omega) (by omega) (by omega)) (show ((2 : Nat) : Int) = 2 from rfl)) (by omega) (by omega) (by omega)) ?_
          have r9 := zH_k hZ 44 x0b (Z 52 x0b ((max 0 (((Z 11 x0b 0 11) - 1) - x6)) % 24) 2) 10 (lo := 0) (hi := 4) (by decide) rfl
          refine wz_br (i3NE (zm_rd (Z := Z) (ν := ν) (k := 44) (rfl : ((x0b : Nat) : Int) = x0b) (i3I (y := (Z 52 x0b ((max 0 (((Z 11 x0b 0 11) - 1) - x6)) % 24) 2)) (zm_rd (Z := Z) (ν := ν) (k := 52) (rfl : ((x0b : Nat) : Int) = x0b) (i3I (y := ((max 0 (((Z 11 x0b 0 11) - 1) - x6)) % 24)) (i3R (i3Mx (show (0 : Int32) = i3 0 from rfl) (i3S (i3S (zm_rd (Z := Z) (ν := ν) (k := 11) (rfl : ((x0b : Nat) : Int) = x0b) (show ((0 : Nat) : Int) = 0 from rfl) (show ((11 : Nat) : Int) = 11 from rfl)) (show (1 : Int32) = i3 1 from rfl)) (rfl : i3 x6 = i3 x6)) (by omega) (by omega) (by omega) (by omega)) (show (24 : Int32) = i3 24 from rfl) (by omega) (by omega) (by omega) (by omega)) (by omega) (by omega) (by omega)) (show ((2 : Nat) : Int) = 2 from rfl)) (by omega) (by omega) (by omega)) (show ((10 : Nat) : Int) = 10 from rfl)) (show (3 : Int32) = i3 3 from rfl) (by omega) (by omega) (by omega) (by omega)) (fun h10 => ?_) (fun h10 => ?_)
          · replace hP := zE_p hP h10
            obtain ⟨m2, rfl⟩ : ∃ m2, m = m2 + 1 := ⟨m - 1, by omega⟩
            exact wz_k1 ⟨m2, by omega, 0, (Z 52 x0b ((max 0 (((Z 11 x0b 0 11) - 1) - x6)) % 24) 1), (x6 + 1), (zconso rfl (zconso rfl (zconso rfl (zconso (zvo (rfl : i3 x3 = i3 x3)) (zconso (zvo (show (0 : Int32) = i3 0 from rfl)) (zconso (zvo (zm_rd (Z := Z) (ν := ν) (k := 52) (rfl : ((x0b : Nat) : Int) = x0b) (i3I (y := ((max 0 (((Z 11 x0b 0 11) - 1) - x6)) % 24)) (i3R (i3Mx (show (0 : Int32) = i3 0 from rfl) (i3S (i3S (zm_rd (Z := Z) (ν := ν) (k := 11) (rfl : ((x0b : Nat) : Int) = x0b) (show ((0 : Nat) : Int) = 0 from rfl) (show ((11 : Nat) : Int) = 11 from rfl)) (show (1 : Int32) = i3 1 from rfl)) (rfl : i3 x6 = i3 x6)) (by omega) (by omega) (by omega) (by omega)) (show (24 : Int32) = i3 24 from rfl) (by omega) (by omega) (by omega) (by omega)) (by omega) (by omega) (by omega)) (show ((1 : Nat) : Int) = 1 from rfl))) (zconso (zvo (i3A (rfl : i3 x6 = i3 x6) (show (1 : Int32) = i3 1 from rfl))) (zconso rfl rfl)))))))), rfl,  by omega, by omega, by omega, by omega,  hP⟩
          · replace hP := zE_n hP h10
            obtain ⟨m2, rfl⟩ : ∃ m2, m = m2 + 1 := ⟨m - 1, by omega⟩
            exact wz_k1 ⟨m2, by omega, 1, (Z 52 x0b ((max 0 (((Z 11 x0b 0 11) - 1) - x6)) % 24) 1), (x6 + 1), (zconso rfl (zconso rfl (zconso rfl (zconso (zvo (rfl : i3 x3 = i3 x3)) (zconso (zvo (show (1 : Int32) = i3 1 from rfl)) (zconso (zvo (zm_rd (Z := Z) (ν := ν) (k := 52) (rfl : ((x0b : Nat) : Int) = x0b) (i3I (y := ((max 0 (((Z 11 x0b 0 11) - 1) - x6)) % 24)) (i3R (i3Mx (show (0 : Int32) = i3 0 from rfl) (i3S (i3S (zm_rd (Z := Z) (ν := ν) (k := 11) (rfl : ((x0b : Nat) : Int) = x0b) (show ((0 : Nat) : Int) = 0 from rfl) (show ((11 : Nat) : Int) = 11 from rfl)) (show (1 : Int32) = i3 1 from rfl)) (rfl : i3 x6 = i3 x6)) (by omega) (by omega) (by omega) (by omega)) (show (24 : Int32) = i3 24 from rfl) (by omega) (by omega) (by omega) (by omega)) (by omega) (by omega) (by omega)) (show ((1 : Nat) : Int) = 1 from rfl))) (zconso (zvo (i3A (rfl : i3 x6 = i3 x6) (show (1 : Int32) = i3 1 from rfl))) (zconso rfl rfl)))))))), rfl,  by omega, by omega, by omega, by omega,  hP⟩
/- yX7_areSound -/
def zl_128_3 (x0b : Int) : Nat → qz_Z → Int → Int → Int × Int
  | 0, Z, x4, x6 => (x4, x6)
  | m + 1, Z, x4, x6 => (if (Z 11 x0b 0 2) ≤ x6 then (x4, x6) else (if x4 = 0 then (x4, x6) else (if ((Z 11 x0b 0 13) + 24) < (Z 43 x0b x6 10) then zl_128_3 x0b m Z 0 (x6 + 1) else zl_128_3 x0b m Z 1 (x6 + 1))))
theorem sl_128_3 {s : zSM} {Z : qz_Z} {ν : qz_N} (hZ : zH s Z) (hM : s.2 + 0 ≤ 1000000000) (x0b : Nat) {x4 : Int} (gx4 : 0 ≤ x4 ∧ x4 ≤ 1) {x6 : Int} (gx6 : 0 ≤ x6 ∧ x6 ≤ 6) {k : wz_K} {R : wz_R} {L : qz_L} (hL : qz_fg [true, false, false, false, true, false, true, false] L = [some (.inr (.inr (some (10, x0b, 0)))), none, none, none, some (.inl (i3 x4)), none, some (.inl (i3 x6)), none]) {T : Int × Int} (hP : zE T (zl_128_3 x0b ((6 - x6).toNat + 1) Z x4 x6)) (hk : ∀ (L9 : qz_L) (yx4 yx6 : Int), qz_fg [false, false, false, false, true, false, false, false] L9 = [none, none, none, none, some (.inl (i3 yx4)), none, none, none] → (0 ≤ yx4 ∧ yx4 ≤ 1) → (0 ≤ yx6 ∧ yx6 ≤ 6) → zE T ((yx4, yx6)) → k 0 (L9, [], zm Z ν)) : wz_loop qb_128_3 65536 k R (L, [], zm Z ν) := by
  refine wz_lp sb_128_3 (fun m x => ∃ x4 : Int, ∃ x6 : Int, qz_fg [true, false, false, false, true, false, true, false] x.1 = [some (.inr (.inr (some (10, x0b, 0)))), none, none, none, some (.inl (i3 x4)), none, some (.inl (i3 x6)), none] ∧ x.2 = ([], zm Z ν) ∧ m = (6 - x6).toNat ∧ (0 ≤ x4 ∧ x4 ≤ 1) ∧ (0 ≤ x6 ∧ x6 ≤ 6) ∧ zE T (zl_128_3 x0b (m + 1) Z x4 x6)) ?_ 65536 ((6 - x6).toNat) _ (by omega) ⟨x4, x6, hL, rfl, rfl, gx4, gx6, hP⟩
  clear hP gx4 gx6 hL
  clear x4 x6
  rintro m ⟨L, st, μ⟩ ⟨x4, x6, hL, hx, hm, gx4, gx6, hP⟩
  cases hx
  refine fb_128_3 x0b (i3 x4) (i3 x6) _ _ _ _ hL ?_
  have r1 := zH_k hZ 11 x0b 0 2 (lo := 0) (hi := 6) (by decide) rfl
  refine wz_br (i3Le (zm_rd (Z := Z) (ν := ν) (k := 11) (rfl : ((x0b : Nat) : Int) = x0b) (show ((0 : Nat) : Int) = 0 from rfl) (show ((2 : Nat) : Int) = 2 from rfl)) (rfl : i3 x6 = i3 x6) (by omega) (by omega) (by omega) (by omega)) (fun h2 => ?_) (fun h2 => ?_)
  · replace hP := zE_p hP h2
    exact hk _ _ _ (zconso rfl (zconso rfl (zconso rfl (zconso rfl (zconso (zvo (rfl : i3 x4 = i3 x4)) (zconso rfl (zconso rfl (zconso rfl rfl))))))))  (by omega) (by omega)  hP
  · replace hP := zE_n hP h2
    refine wz_br (i3E (rfl : i3 x4 = i3 x4) (show (0 : Int32) = i3 0 from rfl) (by omega) (by omega) (by omega) (by omega)) (fun h3 => ?_) (fun h3 => ?_)
    · replace hP := zE_p hP h3
      exact hk _ _ _ (zconso rfl (zconso rfl (zconso rfl (zconso rfl (zconso (zvo (rfl : i3 x4 = i3 x4)) (zconso rfl (zconso rfl (zconso rfl rfl))))))))  (by omega) (by omega)  hP
    · replace hP := zE_n hP h3
      refine wz_i0 (i3O (n := 6) (rfl : i3 x6 = i3 x6) (by omega) (by omega) (by omega)) ?_
      have r4 := zH_k hZ 11 x0b 0 13 (lo := 0) (hi := 671) (by decide) rfl
      have r5 := zH_k hZ 43 x0b x6 10 (lo := -1) (hi := 695) (by decide) rfl
      refine wz_br (i3L (i3A (zm_rd (Z := Z) (ν := ν) (k := 11) (rfl : ((x0b : Nat) : Int) = x0b) (show ((0 : Nat) : Int) = 0 from rfl) (show ((13 : Nat) : Int) = 13 from rfl)) (show (24 : Int32) = i3 24 from rfl)) (zm_rd (Z := Z) (ν := ν) (k := 43) (rfl : ((x0b : Nat) : Int) = x0b) (i3I (y := x6) (rfl : i3 x6 = i3 x6) (by omega) (by omega) (by omega)) (show ((10 : Nat) : Int) = 10 from rfl)) (by omega) (by omega) (by omega) (by omega)) (fun h6 => ?_) (fun h6 => ?_)
      · replace hP := zE_p hP h6
        obtain ⟨m2, rfl⟩ : ∃ m2, m = m2 + 1 := ⟨m - 1, by omega⟩
        exact wz_k1 ⟨m2, by omega, 0, (x6 + 1), (zconso rfl (zconso rfl (zconso rfl (zconso rfl (zconso (zvo (show (0 : Int32) = i3 0 from rfl)) (zconso rfl (zconso (zvo (i3A (rfl : i3 x6 = i3 x6) (show (1 : Int32) = i3 1 from rfl))) (zconso rfl rfl)))))))), rfl,  by omega, by omega, by omega,  hP⟩
      · replace hP := zE_n hP h6
        obtain ⟨m2, rfl⟩ : ∃ m2, m = m2 + 1 := ⟨m - 1, by omega⟩
        exact wz_k1 ⟨m2, by omega, 1, (x6 + 1), (zconso rfl (zconso rfl (zconso rfl (zconso rfl (zconso (zvo (show (1 : Int32) = i3 1 from rfl)) (zconso rfl (zconso (zvo (i3A (rfl : i3 x6 = i3 x6) (show (1 : Int32) = i3 1 from rfl))) (zconso rfl rfl)))))))), rfl,  by omega, by omega, by omega,  hP⟩
/- yX7_areSound -/
def zf_128 (Z : qz_Z) (a0b : Int) : Int := (zlet3 (zl_128_1 a0b 3 Z 0 0 0) (fun y1 y2 y3 => (if y2 < (min 24 (Z 11 a0b 0 11)) then (zlet3 (zl_128_2 a0b (min 24 (Z 11 a0b 0 11)) 25 Z 0 (Z 11 a0b 0 13) 0) (fun y8 y9 y10 => (zlet2 (zl_128_3 a0b 7 Z y8 0) (fun y12 y13 => y12)))) else (zlet (zf_124 Z a0b 8) (fun v15 => (if y1 ≠ v15 then (zlet3 (zl_128_2 a0b (min 24 (Z 11 a0b 0 11)) 25 Z 0 (Z 11 a0b 0 13) 0) (fun y18 y19 y20 => (zlet2 (zl_128_3 a0b 7 Z y18 0) (fun y22 y23 => y22)))) else (zlet3 (zl_128_2 a0b (min 24 (Z 11 a0b 0 11)) 25 Z 1 (Z 11 a0b 0 13) 0) (fun y26 y27 y28 => (zlet2 (zl_128_3 a0b 7 Z y26 0) (fun y30 y31 => y30))))))))))
theorem sp_128 {s : zSM} {Z : qz_Z} {ν : qz_N} (hZ : zH s Z) (a0b : Nat) (hM : s.2 + 0 ≤ 1000000000) : ∃ P : Int, P = zf_128 Z a0b ∧ (qf_128 [.inr (.inr (some (10, a0b, 0)))] (zm Z ν) = some (zm Z ν, .inl (some (.inl (i3 P)))) ∧ 0 ≤ P ∧ P ≤ 1) := by
  obtain ⟨P, hP⟩ := zx (zf_128 Z a0b)
  refine zc_R (Q := fun P => 0 ≤ P ∧ P ≤ 1) hP (fw_128 a0b _ _ ?_)
  replace hP : zE P (zf_128 Z a0b) := hP
  unfold zf_128 at hP
  refine sl_128_1 (ν := ν) hZ (zbh (c := 0) (k := 0) hM (Nat.le_of_ble_eq_true rfl)) a0b (x1 := 0) (by omega) (x2 := 0) (by omega) (x3 := 0) (by omega)  (zconso rfl (zconso (zvo (show (0 : Int32) = i3 0 from rfl)) (zconso (zvo (show (0 : Int32) = i3 0 from rfl)) (zconso (zvo (show (0 : Int32) = i3 0 from rfl)) (zconso rfl (zconso rfl (zconso rfl (zconso rfl rfl)))))))) rfl ?_
  intro L4 y1 y2 y3 hL4 gy1 gy2 gy3 q9
  replace hP := zl_e3 hP (Eq.symm q9)
  clear q9
  refine fc_128_6 _ (i3 y1) (i3 y2) _ _ _ _ hL4 ?_
  have r5 := zH_c11 hZ a0b (zbh (c := 0) (k := 0) hM (Nat.le_of_ble_eq_true rfl))
  refine wz_br (i3L (rfl : i3 y2 = i3 y2) (i3Mn (show (24 : Int32) = i3 24 from rfl) (zm_rd (Z := Z) (ν := ν) (k := 11) (rfl : ((a0b : Nat) : Int) = a0b) (show ((0 : Nat) : Int) = 0 from rfl) (show ((11 : Nat) : Int) = 11 from rfl)) (by omega) (by omega) (by omega) (by omega)) (by omega) (by omega) (by omega) (by omega)) (fun h6 => ?_) (fun h6 => ?_)
  · replace hP := zE_p hP h6
    have r7 := zH_k hZ 11 a0b 0 13 (lo := 0) (hi := 671) (by decide) rfl
    refine sl_128_2 (ν := ν) hZ (zbh (c := 0) (k := 0) hM (Nat.le_of_ble_eq_true rfl)) a0b (x3 := (min 24 (Z 11 a0b 0 11))) (by omega) (x4 := 0) (by omega) (x5 := (Z 11 a0b 0 13)) (by omega) (x6 := 0) (by omega)  (zconso rfl (zconso rfl (zconso rfl (zconso (zvo (i3Mn (show (24 : Int32) = i3 24 from rfl) (zm_rd (Z := Z) (ν := ν) (k := 11) (rfl : ((a0b : Nat) : Int) = a0b) (show ((0 : Nat) : Int) = 0 from rfl) (show ((11 : Nat) : Int) = 11 from rfl)) (by omega) (by omega) (by omega) (by omega))) (zconso (zvo (show (0 : Int32) = i3 0 from rfl)) (zconso (zvo (zm_rd (Z := Z) (ν := ν) (k := 11) (rfl : ((a0b : Nat) : Int) = a0b) (show ((0 : Nat) : Int) = 0 from rfl) (show ((13 : Nat) : Int) = 13 from rfl))) (zconso (zvo (show (0 : Int32) = i3 0 from rfl)) (zconso rfl rfl)))))))) rfl ?_
    intro L11 y8 y9 y10 hL11 gy8 gy9 gy10 q9
    replace hP := zl_e3 hP (Eq.symm q9)
    clear q9
    refine fc_128_5 _ (i3 y8) _ _ _ _ hL11 ?_
    refine sl_128_3 (ν := ν) hZ (zbh (c := 0) (k := 0) hM (Nat.le_of_ble_eq_true rfl)) a0b (x4 := y8) (by omega) (x6 := 0) (by omega)  (zconso rfl (zconso rfl (zconso rfl (zconso rfl (zconso (zvo (rfl : i3 y8 = i3 y8)) (zconso rfl (zconso (zvo (show (0 : Int32) = i3 0 from rfl)) (zconso rfl rfl)))))))) rfl ?_
    intro L14 y12 y13 hL14 gy12 gy13 q9
    replace hP := zl_e2 hP (Eq.symm q9)
    clear q9
    refine fc_128_4 (i3 y12) _ _ _ _ hL14 ?_
    refine wz_i1 (i3B (rfl : i3 y12 = i3 y12) (by omega)) ?_
    exact zlR hP (rfl : i3 y12 = i3 y12) ⟨by omega, by omega⟩
  · replace hP := zE_n hP h6
    obtain ⟨v15, hv15, c9, lv15, uv15⟩ := sp_124 (ν := ν) hZ a0b (a1 := 8) (by omega) (zbh (c := 0) (k := 0) hM (Nat.le_of_ble_eq_true rfl))
    replace hP := zl_e hP hv15
    refine wz_cI_of (zas (zcons rfl (zcons (zvi (show (8 : Int32) = i3 8 from rfl)) rfl)) c9) ?_
    clear c9
    refine wz_br (i3NE (rfl : i3 y1 = i3 y1) (rfl : i3 v15 = i3 v15) (by omega) (by omega) (by omega) (by omega)) (fun h16 => ?_) (fun h16 => ?_)
    · replace hP := zE_p hP h16
      have r17 := zH_k hZ 11 a0b 0 13 (lo := 0) (hi := 671) (by decide) rfl
      refine sl_128_2 (ν := ν) hZ (zbh (c := 0) (k := 0) hM (Nat.le_of_ble_eq_true rfl)) a0b (x3 := (min 24 (Z 11 a0b 0 11))) (by omega) (x4 := 0) (by omega) (x5 := (Z 11 a0b 0 13)) (by omega) (x6 := 0) (by omega)  (zconso rfl (zconso rfl (zconso rfl (zconso (zvo (i3Mn (show (24 : Int32) = i3 24 from rfl) (zm_rd (Z := Z) (ν := ν) (k := 11) (rfl : ((a0b : Nat) : Int) = a0b) (show ((0 : Nat) : Int) = 0 from rfl) (show ((11 : Nat) : Int) = 11 from rfl)) (by omega) (by omega) (by omega) (by omega))) (zconso (zvo (show (0 : Int32) = i3 0 from rfl)) (zconso (zvo (zm_rd (Z := Z) (ν := ν) (k := 11) (rfl : ((a0b : Nat) : Int) = a0b) (show ((0 : Nat) : Int) = 0 from rfl) (show ((13 : Nat) : Int) = 13 from rfl))) (zconso (zvo (show (0 : Int32) = i3 0 from rfl)) (zconso rfl rfl)))))))) rfl ?_
      intro L21 y18 y19 y20 hL21 gy18 gy19 gy20 q9
      replace hP := zl_e3 hP (Eq.symm q9)
      clear q9
      refine fc_128_5 _ (i3 y18) _ _ _ _ hL21 ?_
      refine sl_128_3 (ν := ν) hZ (zbh (c := 0) (k := 0) hM (Nat.le_of_ble_eq_true rfl)) a0b (x4 := y18) (by omega) (x6 := 0) (by omega)  (zconso rfl (zconso rfl (zconso rfl (zconso rfl (zconso (zvo (rfl : i3 y18 = i3 y18)) (zconso rfl (zconso (zvo (show (0 : Int32) = i3 0 from rfl)) (zconso rfl rfl)))))))) rfl ?_
      intro L24 y22 y23 hL24 gy22 gy23 q9
      replace hP := zl_e2 hP (Eq.symm q9)
      clear q9
      refine fc_128_4 (i3 y22) _ _ _ _ hL24 ?_
      refine wz_i1 (i3B (rfl : i3 y22 = i3 y22) (by omega)) ?_
      exact zlR hP (rfl : i3 y22 = i3 y22) ⟨by omega, by omega⟩
    · replace hP := zE_n hP h16
      have r25 := zH_k hZ 11 a0b 0 13 (lo := 0) (hi := 671) (by decide) rfl
      refine sl_128_2 (ν := ν) hZ (zbh (c := 0) (k := 0) hM (Nat.le_of_ble_eq_true rfl)) a0b (x3 := (min 24 (Z 11 a0b 0 11))) (by omega) (x4 := 1) (by omega) (x5 := (Z 11 a0b 0 13)) (by omega) (x6 := 0) (by omega)  (zconso rfl (zconso rfl (zconso rfl (zconso (zvo (i3Mn (show (24 : Int32) = i3 24 from rfl) (zm_rd (Z := Z) (ν := ν) (k := 11) (rfl : ((a0b : Nat) : Int) = a0b) (show ((0 : Nat) : Int) = 0 from rfl) (show ((11 : Nat) : Int) = 11 from rfl)) (by omega) (by omega) (by omega) (by omega))) (zconso (zvo (show (1 : Int32) = i3 1 from rfl)) (zconso (zvo (zm_rd (Z := Z) (ν := ν) (k := 11) (rfl : ((a0b : Nat) : Int) = a0b) (show ((0 : Nat) : Int) = 0 from rfl) (show ((13 : Nat) : Int) = 13 from rfl))) (zconso (zvo (show (0 : Int32) = i3 0 from rfl)) (zconso rfl rfl)))))))) rfl ?_
      intro L29 y26 y27 y28 hL29 gy26 gy27 gy28 q9
      replace hP := zl_e3 hP (Eq.symm q9)
      clear q9
      refine fc_128_5 _ (i3 y26) _ _ _ _ hL29 ?_
      refine sl_128_3 (ν := ν) hZ (zbh (c := 0) (k := 0) hM (Nat.le_of_ble_eq_true rfl)) a0b (x4 := y26) (by omega) (x6 := 0) (by omega)  (zconso rfl (zconso rfl (zconso rfl (zconso rfl (zconso (zvo (rfl : i3 y26 = i3 y26)) (zconso rfl (zconso (zvo (show (0 : Int32) = i3 0 from rfl)) (zconso rfl rfl)))))))) rfl ?_
      intro L32 y30 y31 hL32 gy30 gy31 q9
      replace hP := zl_e2 hP (Eq.symm q9)
      clear q9
      refine fc_128_4 (i3 y30) _ _ _ _ hL32 ?_
      refine wz_i1 (i3B (rfl : i3 y30 = i3 y30) (by omega)) ?_
      exact zlR hP (rfl : i3 y30 = i3 y30) ⟨by omega, by omega⟩
/- yX10_areSound -/
def zl_161_1 (x0b : Int) : Nat → qz_Z → Int → Int → Int × Int
  | 0, Z, x1, x2 => (x1, x2)
  | m + 1, Z, x1, x2 => (if (Z 11 x0b 0 3) ≤ x2 then (x1, x2) else (if x1 = 0 then (x1, x2) else (if (Z 44 x0b x2 12) = 6 then (if (Z 44 x0b x2 10) = 0 then zl_161_1 x0b m Z 1 (x2 + 1) else (if (Z 44 x0b x2 10) ≠ 1 then zl_161_1 x0b m Z 0 (x2 + 1) else zl_161_1 x0b m Z 1 (x2 + 1))) else (if (Z 44 x0b x2 12) < 0 then (if (Z 44 x0b x2 10) = 0 then zl_161_1 x0b m Z 0 (x2 + 1) else (if (Z 44 x0b x2 10) ≠ 1 then zl_161_1 x0b m Z 1 (x2 + 1) else zl_161_1 x0b m Z 0 (x2 + 1))) else (if ((Z 11 x0b 0 2) - 1) < (Z 44 x0b x2 12) then (if (Z 44 x0b x2 10) = 0 then zl_161_1 x0b m Z 0 (x2 + 1) else (if (Z 44 x0b x2 10) ≠ 1 then zl_161_1 x0b m Z 0 (x2 + 1) else zl_161_1 x0b m Z 0 (x2 + 1))) else (if (Z 44 x0b x2 10) = 0 then zl_161_1 x0b m Z 1 (x2 + 1) else (if (Z 44 x0b x2 10) ≠ 1 then zl_161_1 x0b m Z 0 (x2 + 1) else zl_161_1 x0b m Z 1 (x2 + 1))))))))
theorem sl_161_1 {s : zSM} {Z : qz_Z} {ν : qz_N} (hZ : zH s Z) (hM : s.2 + 0 ≤ 1000000000) (x0b : Nat) {x1 : Int} (gx1 : 0 ≤ x1 ∧ x1 ≤ 1) {x2 : Int} (gx2 : 0 ≤ x2 ∧ x2 ≤ 48) {k : wz_K} {R : wz_R} {L : qz_L} (hL : qz_fg [true, true, true, false, false, false] L = [some (.inr (.inr (some (10, x0b, 0)))), some (.inl (i3 x1)), some (.inl (i3 x2)), none, none, none]) {T : Int × Int} (hP : zE T (zl_161_1 x0b ((48 - x2).toNat + 1) Z x1 x2)) (hk : ∀ (L9 : qz_L) (yx1 yx2 : Int), qz_fg [true, true, false, false, false, false] L9 = [some (.inr (.inr (some (10, x0b, 0)))), some (.inl (i3 yx1)), none, none, none, none] → (0 ≤ yx1 ∧ yx1 ≤ 1) → (0 ≤ yx2 ∧ yx2 ≤ 48) → zE T ((yx1, yx2)) → k 0 (L9, [], zm Z ν)) : wz_loop qb_161_1 65536 k R (L, [], zm Z ν) := by
  refine wz_lp sb_161_1 (fun m x => ∃ x1 : Int, ∃ x2 : Int, qz_fg [true, true, true, false, false, false] x.1 = [some (.inr (.inr (some (10, x0b, 0)))), some (.inl (i3 x1)), some (.inl (i3 x2)), none, none, none] ∧ x.2 = ([], zm Z ν) ∧ m = (48 - x2).toNat ∧ (0 ≤ x1 ∧ x1 ≤ 1) ∧ (0 ≤ x2 ∧ x2 ≤ 48) ∧ zE T (zl_161_1 x0b (m + 1) Z x1 x2)) ?_ 65536 ((48 - x2).toNat) _ (by omega) ⟨x1, x2, hL, rfl, rfl, gx1, gx2, hP⟩
  clear hP gx1 gx2 hL
  clear x1 x2
  rintro m ⟨L, st, μ⟩ ⟨x1, x2, hL, hx, hm, gx1, gx2, hP⟩
  cases hx
  refine fb_161_1 x0b (i3 x1) (i3 x2) _ _ _ _ hL ?_
  have r1 := zH_k hZ 11 x0b 0 3 (lo := 0) (hi := 48) (by decide) rfl
  refine wz_br (i3Le (zm_rd (Z := Z) (ν := ν) (k := 11) (rfl : ((x0b : Nat) : Int) = x0b) (show ((0 : Nat) : Int) = 0 from rfl) (show ((3 : Nat) : Int) = 3 from rfl)) (rfl : i3 x2 = i3 x2) (by omega) (by omega) (by omega) (by omega)) (fun h2 => ?_) (fun h2 => ?_)
  · replace hP := zE_p hP h2
    exact hk _ _ _ (zconso rfl (zconso (zvo (rfl : i3 x1 = i3 x1)) (zconso rfl (zconso rfl (zconso rfl (zconso rfl rfl))))))  (by omega) (by omega)  hP
  · replace hP := zE_n hP h2
    refine wz_br (i3E (rfl : i3 x1 = i3 x1) (show (0 : Int32) = i3 0 from rfl) (by omega) (by omega) (by omega) (by omega)) (fun h3 => ?_) (fun h3 => ?_)
    · replace hP := zE_p hP h3
      exact hk _ _ _ (zconso rfl (zconso (zvo (rfl : i3 x1 = i3 x1)) (zconso rfl (zconso rfl (zconso rfl (zconso rfl rfl))))))  (by omega) (by omega)  hP
    · replace hP := zE_n hP h3
      refine wz_i0 (i3O (n := 48) (rfl : i3 x2 = i3 x2) (by omega) (by omega) (by omega)) ?_
      have r4 := zH_k hZ 44 x0b x2 12 (lo := -1) (hi := 6) (by decide) rfl
      refine wz_br (i3E (zm_rd (Z := Z) (ν := ν) (k := 44) (rfl : ((x0b : Nat) : Int) = x0b) (i3I (y := x2) (rfl : i3 x2 = i3 x2) (by omega) (by omega) (by omega)) (show ((12 : Nat) : Int) = 12 from rfl)) (show (6 : Int32) = i3 6 from rfl) (by omega) (by omega) (by omega) (by omega)) (fun h5 => ?_) (fun h5 => ?_)
      · replace hP := zE_p hP h5
        have r6 := zH_k hZ 44 x0b x2 10 (lo := 0) (hi := 4) (by decide) rfl
        refine wz_br (i3E (zm_rd (Z := Z) (ν := ν) (k := 44) (rfl : ((x0b : Nat) : Int) = x0b) (i3I (y := x2) (rfl : i3 x2 = i3 x2) (by omega) (by omega) (by omega)) (show ((10 : Nat) : Int) = 10 from rfl)) (show (0 : Int32) = i3 0 from rfl) (by omega) (by omega) (by omega) (by omega)) (fun h7 => ?_) (fun h7 => ?_)
        · replace hP := zE_p hP h7
          have r8 := zH_k hZ 44 x0b x2 7 (lo := 0) (hi := 2000) (by decide) rfl
          refine wz_i0 (Eq.trans (i3L (zm_rd (Z := Z) (ν := ν) (k := 44) (rfl : ((x0b : Nat) : Int) = x0b) (i3I (y := x2) (rfl : i3 x2 = i3 x2) (by omega) (by omega) (by omega)) (show ((7 : Nat) : Int) = 7 from rfl)) (show (0 : Int32) = i3 0 from rfl) (by omega) (by omega) (by omega) (by omega)) (decide_eq_false (by omega))) ?_
          refine wz_i0 (Eq.trans (i3L (show (2000 : Int32) = i3 2000 from rfl) (zm_rd (Z := Z) (ν := ν) (k := 44) (rfl : ((x0b : Nat) : Int) = x0b) (i3I (y := x2) (rfl : i3 x2 = i3 x2) (by omega) (by omega) (by omega)) (show ((7 : Nat) : Int) = 7 from rfl)) (by omega) (by omega) (by omega) (by omega)) (decide_eq_false (by omega))) ?_
          have r9 := zH_k hZ 44 x0b x2 8 (lo := 0) (hi := 999) (by decide) rfl
          refine wz_i0 (Eq.trans (i3L (zm_rd (Z := Z) (ν := ν) (k := 44) (rfl : ((x0b : Nat) : Int) = x0b) (i3I (y := x2) (rfl : i3 x2 = i3 x2) (by omega) (by omega) (by omega)) (show ((8 : Nat) : Int) = 8 from rfl)) (show (0 : Int32) = i3 0 from rfl) (by omega) (by omega) (by omega) (by omega)) (decide_eq_false (by omega))) ?_
          refine wz_i0 (Eq.trans (i3L (show (999 : Int32) = i3 999 from rfl) (zm_rd (Z := Z) (ν := ν) (k := 44) (rfl : ((x0b : Nat) : Int) = x0b) (i3I (y := x2) (rfl : i3 x2 = i3 x2) (by omega) (by omega) (by omega)) (show ((8 : Nat) : Int) = 8 from rfl)) (by omega) (by omega) (by omega) (by omega)) (decide_eq_false (by omega))) ?_
          obtain ⟨m2, rfl⟩ : ∃ m2, m = m2 + 1 := ⟨m - 1, by omega⟩
          exact wz_k1 ⟨m2, by omega, 1, (x2 + 1), (zconso rfl (zconso (zvo (show (1 : Int32) = i3 1 from rfl)) (zconso (zvo (i3A (rfl : i3 x2 = i3 x2) (show (1 : Int32) = i3 1 from rfl))) (zconso rfl (zconso rfl (zconso rfl rfl)))))), rfl,  by omega, by omega, by omega,  hP⟩
        · replace hP := zE_n hP h7
          refine wz_br (i3NE (zm_rd (Z := Z) (ν := ν) (k := 44) (rfl : ((x0b : Nat) : Int) = x0b) (i3I (y := x2) (rfl : i3 x2 = i3 x2) (by omega) (by omega) (by omega)) (show ((10 : Nat) : Int) = 10 from rfl)) (show (1 : Int32) = i3 1 from rfl) (by omega) (by omega) (by omega) (by omega)) (fun h10 => ?_) (fun h10 => ?_)
          · replace hP := zE_p hP h10
            refine wz_i1 (Eq.trans (i3NE (zm_rd (Z := Z) (ν := ν) (k := 44) (rfl : ((x0b : Nat) : Int) = x0b) (i3I (y := x2) (rfl : i3 x2 = i3 x2) (by omega) (by omega) (by omega)) (show ((12 : Nat) : Int) = 12 from rfl)) (show (-1 : Int32) = i3 (-1) from rfl) (by omega) (by omega) (by omega) (by omega)) (decide_eq_true (by omega))) ?_
            obtain ⟨m2, rfl⟩ : ∃ m2, m = m2 + 1 := ⟨m - 1, by omega⟩
            exact wz_k1 ⟨m2, by omega, 0, (x2 + 1), (zconso rfl (zconso (zvo (show (0 : Int32) = i3 0 from rfl)) (zconso (zvo (i3A (rfl : i3 x2 = i3 x2) (show (1 : Int32) = i3 1 from rfl))) (zconso rfl (zconso rfl (zconso rfl rfl)))))), rfl,  by omega, by omega, by omega,  hP⟩
          · replace hP := zE_n hP h10
            have r11 := zH_k hZ 44 x0b x2 7 (lo := 0) (hi := 2000) (by decide) rfl
            refine wz_i0 (Eq.trans (i3L (zm_rd (Z := Z) (ν := ν) (k := 44) (rfl : ((x0b : Nat) : Int) = x0b) (i3I (y := x2) (rfl : i3 x2 = i3 x2) (by omega) (by omega) (by omega)) (show ((7 : Nat) : Int) = 7 from rfl)) (show (0 : Int32) = i3 0 from rfl) (by omega) (by omega) (by omega) (by omega)) (decide_eq_false (by omega))) ?_
            refine wz_i0 (Eq.trans (i3L (show (2000 : Int32) = i3 2000 from rfl) (zm_rd (Z := Z) (ν := ν) (k := 44) (rfl : ((x0b : Nat) : Int) = x0b) (i3I (y := x2) (rfl : i3 x2 = i3 x2) (by omega) (by omega) (by omega)) (show ((7 : Nat) : Int) = 7 from rfl)) (by omega) (by omega) (by omega) (by omega)) (decide_eq_false (by omega))) ?_
            have r12 := zH_k hZ 44 x0b x2 8 (lo := 0) (hi := 999) (by decide) rfl
            refine wz_i0 (Eq.trans (i3L (zm_rd (Z := Z) (ν := ν) (k := 44) (rfl : ((x0b : Nat) : Int) = x0b) (i3I (y := x2) (rfl : i3 x2 = i3 x2) (by omega) (by omega) (by omega)) (show ((8 : Nat) : Int) = 8 from rfl)) (show (0 : Int32) = i3 0 from rfl) (by omega) (by omega) (by omega) (by omega)) (decide_eq_false (by omega))) ?_
            refine wz_i0 (Eq.trans (i3L (show (999 : Int32) = i3 999 from rfl) (zm_rd (Z := Z) (ν := ν) (k := 44) (rfl : ((x0b : Nat) : Int) = x0b) (i3I (y := x2) (rfl : i3 x2 = i3 x2) (by omega) (by omega) (by omega)) (show ((8 : Nat) : Int) = 8 from rfl)) (by omega) (by omega) (by omega) (by omega)) (decide_eq_false (by omega))) ?_
            obtain ⟨m2, rfl⟩ : ∃ m2, m = m2 + 1 := ⟨m - 1, by omega⟩
            exact wz_k1 ⟨m2, by omega, 1, (x2 + 1), (zconso rfl (zconso (zvo (show (1 : Int32) = i3 1 from rfl)) (zconso (zvo (i3A (rfl : i3 x2 = i3 x2) (show (1 : Int32) = i3 1 from rfl))) (zconso rfl (zconso rfl (zconso rfl rfl)))))), rfl,  by omega, by omega, by omega,  hP⟩
      · replace hP := zE_n hP h5
        refine wz_br (i3L (zm_rd (Z := Z) (ν := ν) (k := 44) (rfl : ((x0b : Nat) : Int) = x0b) (i3I (y := x2) (rfl : i3 x2 = i3 x2) (by omega) (by omega) (by omega)) (show ((12 : Nat) : Int) = 12 from rfl)) (show (0 : Int32) = i3 0 from rfl) (by omega) (by omega) (by omega) (by omega)) (fun h13 => ?_) (fun h13 => ?_)
        · replace hP := zE_p hP h13
          have r14 := zH_k hZ 44 x0b x2 10 (lo := 0) (hi := 4) (by decide) rfl
          refine wz_br (i3E (zm_rd (Z := Z) (ν := ν) (k := 44) (rfl : ((x0b : Nat) : Int) = x0b) (i3I (y := x2) (rfl : i3 x2 = i3 x2) (by omega) (by omega) (by omega)) (show ((10 : Nat) : Int) = 10 from rfl)) (show (0 : Int32) = i3 0 from rfl) (by omega) (by omega) (by omega) (by omega)) (fun h15 => ?_) (fun h15 => ?_)
          · replace hP := zE_p hP h15
            obtain ⟨m2, rfl⟩ : ∃ m2, m = m2 + 1 := ⟨m - 1, by omega⟩
            exact wz_k1 ⟨m2, by omega, 0, (x2 + 1), (zconso rfl (zconso (zvo (show (0 : Int32) = i3 0 from rfl)) (zconso (zvo (i3A (rfl : i3 x2 = i3 x2) (show (1 : Int32) = i3 1 from rfl))) (zconso rfl (zconso rfl (zconso rfl rfl)))))), rfl,  by omega, by omega, by omega,  hP⟩
          · replace hP := zE_n hP h15
            refine wz_br (i3NE (zm_rd (Z := Z) (ν := ν) (k := 44) (rfl : ((x0b : Nat) : Int) = x0b) (i3I (y := x2) (rfl : i3 x2 = i3 x2) (by omega) (by omega) (by omega)) (show ((10 : Nat) : Int) = 10 from rfl)) (show (1 : Int32) = i3 1 from rfl) (by omega) (by omega) (by omega) (by omega)) (fun h16 => ?_) (fun h16 => ?_)
            · replace hP := zE_p hP h16
              refine wz_i0 (Eq.trans (i3NE (zm_rd (Z := Z) (ν := ν) (k := 44) (rfl : ((x0b : Nat) : Int) = x0b) (i3I (y := x2) (rfl : i3 x2 = i3 x2) (by omega) (by omega) (by omega)) (show ((12 : Nat) : Int) = 12 from rfl)) (show (-1 : Int32) = i3 (-1) from rfl) (by omega) (by omega) (by omega) (by omega)) (decide_eq_false (by omega))) ?_
              have r17 := zH_k hZ 44 x0b x2 7 (lo := 0) (hi := 2000) (by decide) rfl
              refine wz_i0 (Eq.trans (i3L (zm_rd (Z := Z) (ν := ν) (k := 44) (rfl : ((x0b : Nat) : Int) = x0b) (i3I (y := x2) (rfl : i3 x2 = i3 x2) (by omega) (by omega) (by omega)) (show ((7 : Nat) : Int) = 7 from rfl)) (show (0 : Int32) = i3 0 from rfl) (by omega) (by omega) (by omega) (by omega)) (decide_eq_false (by omega))) ?_
              refine wz_i0 (Eq.trans (i3L (show (2000 : Int32) = i3 2000 from rfl) (zm_rd (Z := Z) (ν := ν) (k := 44) (rfl : ((x0b : Nat) : Int) = x0b) (i3I (y := x2) (rfl : i3 x2 = i3 x2) (by omega) (by omega) (by omega)) (show ((7 : Nat) : Int) = 7 from rfl)) (by omega) (by omega) (by omega) (by omega)) (decide_eq_false (by omega))) ?_
              have r18 := zH_k hZ 44 x0b x2 8 (lo := 0) (hi := 999) (by decide) rfl
              refine wz_i0 (Eq.trans (i3L (zm_rd (Z := Z) (ν := ν) (k := 44) (rfl : ((x0b : Nat) : Int) = x0b) (i3I (y := x2) (rfl : i3 x2 = i3 x2) (by omega) (by omega) (by omega)) (show ((8 : Nat) : Int) = 8 from rfl)) (show (0 : Int32) = i3 0 from rfl) (by omega) (by omega) (by omega) (by omega)) (decide_eq_false (by omega))) ?_
              refine wz_i0 (Eq.trans (i3L (show (999 : Int32) = i3 999 from rfl) (zm_rd (Z := Z) (ν := ν) (k := 44) (rfl : ((x0b : Nat) : Int) = x0b) (i3I (y := x2) (rfl : i3 x2 = i3 x2) (by omega) (by omega) (by omega)) (show ((8 : Nat) : Int) = 8 from rfl)) (by omega) (by omega) (by omega) (by omega)) (decide_eq_false (by omega))) ?_
              obtain ⟨m2, rfl⟩ : ∃ m2, m = m2 + 1 := ⟨m - 1, by omega⟩
              exact wz_k1 ⟨m2, by omega, 1, (x2 + 1), (zconso rfl (zconso (zvo (show (1 : Int32) = i3 1 from rfl)) (zconso (zvo (i3A (rfl : i3 x2 = i3 x2) (show (1 : Int32) = i3 1 from rfl))) (zconso rfl (zconso rfl (zconso rfl rfl)))))), rfl,  by omega, by omega, by omega,  hP⟩
            · replace hP := zE_n hP h16
              obtain ⟨m2, rfl⟩ : ∃ m2, m = m2 + 1 := ⟨m - 1, by omega⟩
              exact wz_k1 ⟨m2, by omega, 0, (x2 + 1), (zconso rfl (zconso (zvo (show (0 : Int32) = i3 0 from rfl)) (zconso (zvo (i3A (rfl : i3 x2 = i3 x2) (show (1 : Int32) = i3 1 from rfl))) (zconso rfl (zconso rfl (zconso rfl rfl)))))), rfl,  by omega, by omega, by omega,  hP⟩
        · replace hP := zE_n hP h13
          have r19 := zH_k hZ 11 x0b 0 2 (lo := 0) (hi := 6) (by decide) rfl
          refine wz_br (i3L (i3S (zm_rd (Z := Z) (ν := ν) (k := 11) (rfl : ((x0b : Nat) : Int) = x0b) (show ((0 : Nat) : Int) = 0 from rfl) (show ((2 : Nat) : Int) = 2 from rfl)) (show (1 : Int32) = i3 1 from rfl)) (zm_rd (Z := Z) (ν := ν) (k := 44) (rfl : ((x0b : Nat) : Int) = x0b) (i3I (y := x2) (rfl : i3 x2 = i3 x2) (by omega) (by omega) (by omega)) (show ((12 : Nat) : Int) = 12 from rfl)) (by omega) (by omega) (by omega) (by omega)) (fun h20 => ?_) (fun h20 => ?_)
          · replace hP := zE_p hP h20
            have r21 := zH_k hZ 44 x0b x2 10 (lo := 0) (hi := 4) (by decide) rfl
            refine wz_br (i3E (zm_rd (Z := Z) (ν := ν) (k := 44) (rfl : ((x0b : Nat) : Int) = x0b) (i3I (y := x2) (rfl : i3 x2 = i3 x2) (by omega) (by omega) (by omega)) (show ((10 : Nat) : Int) = 10 from rfl)) (show (0 : Int32) = i3 0 from rfl) (by omega) (by omega) (by omega) (by omega)) (fun h22 => ?_) (fun h22 => ?_)
            · replace hP := zE_p hP h22
              obtain ⟨m2, rfl⟩ : ∃ m2, m = m2 + 1 := ⟨m - 1, by omega⟩
              exact wz_k1 ⟨m2, by omega, 0, (x2 + 1), (zconso rfl (zconso (zvo (show (0 : Int32) = i3 0 from rfl)) (zconso (zvo (i3A (rfl : i3 x2 = i3 x2) (show (1 : Int32) = i3 1 from rfl))) (zconso rfl (zconso rfl (zconso rfl rfl)))))), rfl,  by omega, by omega, by omega,  hP⟩
            · replace hP := zE_n hP h22
              refine wz_br (i3NE (zm_rd (Z := Z) (ν := ν) (k := 44) (rfl : ((x0b : Nat) : Int) = x0b) (i3I (y := x2) (rfl : i3 x2 = i3 x2) (by omega) (by omega) (by omega)) (show ((10 : Nat) : Int) = 10 from rfl)) (show (1 : Int32) = i3 1 from rfl) (by omega) (by omega) (by omega) (by omega)) (fun h23 => ?_) (fun h23 => ?_)
              · replace hP := zE_p hP h23
                refine wz_i1 (Eq.trans (i3NE (zm_rd (Z := Z) (ν := ν) (k := 44) (rfl : ((x0b : Nat) : Int) = x0b) (i3I (y := x2) (rfl : i3 x2 = i3 x2) (by omega) (by omega) (by omega)) (show ((12 : Nat) : Int) = 12 from rfl)) (show (-1 : Int32) = i3 (-1) from rfl) (by omega) (by omega) (by omega) (by omega)) (decide_eq_true (by omega))) ?_
                obtain ⟨m2, rfl⟩ : ∃ m2, m = m2 + 1 := ⟨m - 1, by omega⟩
                exact wz_k1 ⟨m2, by omega, 0, (x2 + 1), (zconso rfl (zconso (zvo (show (0 : Int32) = i3 0 from rfl)) (zconso (zvo (i3A (rfl : i3 x2 = i3 x2) (show (1 : Int32) = i3 1 from rfl))) (zconso rfl (zconso rfl (zconso rfl rfl)))))), rfl,  by omega, by omega, by omega,  hP⟩
              · replace hP := zE_n hP h23
                obtain ⟨m2, rfl⟩ : ∃ m2, m = m2 + 1 := ⟨m - 1, by omega⟩
                exact wz_k1 ⟨m2, by omega, 0, (x2 + 1), (zconso rfl (zconso (zvo (show (0 : Int32) = i3 0 from rfl)) (zconso (zvo (i3A (rfl : i3 x2 = i3 x2) (show (1 : Int32) = i3 1 from rfl))) (zconso rfl (zconso rfl (zconso rfl rfl)))))), rfl,  by omega, by omega, by omega,  hP⟩
          · replace hP := zE_n hP h20
            have r24 := zH_k hZ 44 x0b x2 10 (lo := 0) (hi := 4) (by decide) rfl
            refine wz_br (i3E (zm_rd (Z := Z) (ν := ν) (k := 44) (rfl : ((x0b : Nat) : Int) = x0b) (i3I (y := x2) (rfl : i3 x2 = i3 x2) (by omega) (by omega) (by omega)) (show ((10 : Nat) : Int) = 10 from rfl)) (show (0 : Int32) = i3 0 from rfl) (by omega) (by omega) (by omega) (by omega)) (fun h25 => ?_) (fun h25 => ?_)
            · replace hP := zE_p hP h25
              have r26 := zH_k hZ 44 x0b x2 7 (lo := 0) (hi := 2000) (by decide) rfl
              refine wz_i0 (Eq.trans (i3L (zm_rd (Z := Z) (ν := ν) (k := 44) (rfl : ((x0b : Nat) : Int) = x0b) (i3I (y := x2) (rfl : i3 x2 = i3 x2) (by omega) (by omega) (by omega)) (show ((7 : Nat) : Int) = 7 from rfl)) (show (0 : Int32) = i3 0 from rfl) (by omega) (by omega) (by omega) (by omega)) (decide_eq_false (by omega))) ?_
              refine wz_i0 (Eq.trans (i3L (show (2000 : Int32) = i3 2000 from rfl) (zm_rd (Z := Z) (ν := ν) (k := 44) (rfl : ((x0b : Nat) : Int) = x0b) (i3I (y := x2) (rfl : i3 x2 = i3 x2) (by omega) (by omega) (by omega)) (show ((7 : Nat) : Int) = 7 from rfl)) (by omega) (by omega) (by omega) (by omega)) (decide_eq_false (by omega))) ?_
              have r27 := zH_k hZ 44 x0b x2 8 (lo := 0) (hi := 999) (by decide) rfl
              refine wz_i0 (Eq.trans (i3L (zm_rd (Z := Z) (ν := ν) (k := 44) (rfl : ((x0b : Nat) : Int) = x0b) (i3I (y := x2) (rfl : i3 x2 = i3 x2) (by omega) (by omega) (by omega)) (show ((8 : Nat) : Int) = 8 from rfl)) (show (0 : Int32) = i3 0 from rfl) (by omega) (by omega) (by omega) (by omega)) (decide_eq_false (by omega))) ?_
              refine wz_i0 (Eq.trans (i3L (show (999 : Int32) = i3 999 from rfl) (zm_rd (Z := Z) (ν := ν) (k := 44) (rfl : ((x0b : Nat) : Int) = x0b) (i3I (y := x2) (rfl : i3 x2 = i3 x2) (by omega) (by omega) (by omega)) (show ((8 : Nat) : Int) = 8 from rfl)) (by omega) (by omega) (by omega) (by omega)) (decide_eq_false (by omega))) ?_
              obtain ⟨m2, rfl⟩ : ∃ m2, m = m2 + 1 := ⟨m - 1, by omega⟩
              exact wz_k1 ⟨m2, by omega, 1, (x2 + 1), (zconso rfl (zconso (zvo (show (1 : Int32) = i3 1 from rfl)) (zconso (zvo (i3A (rfl : i3 x2 = i3 x2) (show (1 : Int32) = i3 1 from rfl))) (zconso rfl (zconso rfl (zconso rfl rfl)))))), rfl,  by omega, by omega, by omega,  hP⟩
            · replace hP := zE_n hP h25
              refine wz_br (i3NE (zm_rd (Z := Z) (ν := ν) (k := 44) (rfl : ((x0b : Nat) : Int) = x0b) (i3I (y := x2) (rfl : i3 x2 = i3 x2) (by omega) (by omega) (by omega)) (show ((10 : Nat) : Int) = 10 from rfl)) (show (1 : Int32) = i3 1 from rfl) (by omega) (by omega) (by omega) (by omega)) (fun h28 => ?_) (fun h28 => ?_)
              · replace hP := zE_p hP h28
                refine wz_i1 (Eq.trans (i3NE (zm_rd (Z := Z) (ν := ν) (k := 44) (rfl : ((x0b : Nat) : Int) = x0b) (i3I (y := x2) (rfl : i3 x2 = i3 x2) (by omega) (by omega) (by omega)) (show ((12 : Nat) : Int) = 12 from rfl)) (show (-1 : Int32) = i3 (-1) from rfl) (by omega) (by omega) (by omega) (by omega)) (decide_eq_true (by omega))) ?_
                obtain ⟨m2, rfl⟩ : ∃ m2, m = m2 + 1 := ⟨m - 1, by omega⟩
                exact wz_k1 ⟨m2, by omega, 0, (x2 + 1), (zconso rfl (zconso (zvo (show (0 : Int32) = i3 0 from rfl)) (zconso (zvo (i3A (rfl : i3 x2 = i3 x2) (show (1 : Int32) = i3 1 from rfl))) (zconso rfl (zconso rfl (zconso rfl rfl)))))), rfl,  by omega, by omega, by omega,  hP⟩
              · replace hP := zE_n hP h28
                have r29 := zH_k hZ 44 x0b x2 7 (lo := 0) (hi := 2000) (by decide) rfl
                refine wz_i0 (Eq.trans (i3L (zm_rd (Z := Z) (ν := ν) (k := 44) (rfl : ((x0b : Nat) : Int) = x0b) (i3I (y := x2) (rfl : i3 x2 = i3 x2) (by omega) (by omega) (by omega)) (show ((7 : Nat) : Int) = 7 from rfl)) (show (0 : Int32) = i3 0 from rfl) (by omega) (by omega) (by omega) (by omega)) (decide_eq_false (by omega))) ?_
                refine wz_i0 (Eq.trans (i3L (show (2000 : Int32) = i3 2000 from rfl) (zm_rd (Z := Z) (ν := ν) (k := 44) (rfl : ((x0b : Nat) : Int) = x0b) (i3I (y := x2) (rfl : i3 x2 = i3 x2) (by omega) (by omega) (by omega)) (show ((7 : Nat) : Int) = 7 from rfl)) (by omega) (by omega) (by omega) (by omega)) (decide_eq_false (by omega))) ?_
                have r30 := zH_k hZ 44 x0b x2 8 (lo := 0) (hi := 999) (by decide) rfl
                refine wz_i0 (Eq.trans (i3L (zm_rd (Z := Z) (ν := ν) (k := 44) (rfl : ((x0b : Nat) : Int) = x0b) (i3I (y := x2) (rfl : i3 x2 = i3 x2) (by omega) (by omega) (by omega)) (show ((8 : Nat) : Int) = 8 from rfl)) (show (0 : Int32) = i3 0 from rfl) (by omega) (by omega) (by omega) (by omega)) (decide_eq_false (by omega))) ?_
                refine wz_i0 (Eq.trans (i3L (show (999 : Int32) = i3 999 from rfl) (zm_rd (Z := Z) (ν := ν) (k := 44) (rfl : ((x0b : Nat) : Int) = x0b) (i3I (y := x2) (rfl : i3 x2 = i3 x2) (by omega) (by omega) (by omega)) (show ((8 : Nat) : Int) = 8 from rfl)) (by omega) (by omega) (by omega) (by omega)) (decide_eq_false (by omega))) ?_
                obtain ⟨m2, rfl⟩ : ∃ m2, m = m2 + 1 := ⟨m - 1, by omega⟩
                exact wz_k1 ⟨m2, by omega, 1, (x2 + 1), (zconso rfl (zconso (zvo (show (1 : Int32) = i3 1 from rfl)) (zconso (zvo (i3A (rfl : i3 x2 = i3 x2) (show (1 : Int32) = i3 1 from rfl))) (zconso rfl (zconso rfl (zconso rfl rfl)))))), rfl,  by omega, by omega, by omega,  hP⟩
/- yX10_areSound -/
def zl_161_2 (x0b : Int) : Nat → qz_Z → Int → Int → Int × Int
  | 0, Z, x1, x2 => (x1, x2)
  | m + 1, Z, x1, x2 => (if (Z 11 x0b 0 6) ≤ x2 then (x1, x2) else (if x1 = 0 then (x1, x2) else (if (Z 44 x0b (Z 47 x0b x2 0) 7) < (Z 47 x0b x2 15) then zl_161_2 x0b m Z 0 (x2 + 1) else (if (Z 44 x0b (Z 47 x0b x2 0) 8) < (Z 47 x0b x2 16) then zl_161_2 x0b m Z 0 (x2 + 1) else zl_161_2 x0b m Z 1 (x2 + 1)))))
theorem sl_161_2 {s : zSM} {Z : qz_Z} {ν : qz_N} (hZ : zH s Z) (hM : s.2 + 0 ≤ 1000000000) (x0b : Nat) {x1 : Int} (gx1 : 0 ≤ x1 ∧ x1 ≤ 1) {x2 : Int} (gx2 : 0 ≤ x2 ∧ x2 ≤ 60) {k : wz_K} {R : wz_R} {L : qz_L} (hL : qz_fg [true, true, true, false, false, false] L = [some (.inr (.inr (some (10, x0b, 0)))), some (.inl (i3 x1)), some (.inl (i3 x2)), none, none, none]) {T : Int × Int} (hP : zE T (zl_161_2 x0b ((60 - x2).toNat + 1) Z x1 x2)) (hk : ∀ (L9 : qz_L) (yx1 yx2 : Int), qz_fg [true, true, false, false, false, false] L9 = [some (.inr (.inr (some (10, x0b, 0)))), some (.inl (i3 yx1)), none, none, none, none] → (0 ≤ yx1 ∧ yx1 ≤ 1) → (0 ≤ yx2 ∧ yx2 ≤ 60) → zE T ((yx1, yx2)) → k 0 (L9, [], zm Z ν)) : wz_loop qb_161_2 65536 k R (L, [], zm Z ν) := by
  refine wz_lp sb_161_2 (fun m x => ∃ x1 : Int, ∃ x2 : Int, qz_fg [true, true, true, false, false, false] x.1 = [some (.inr (.inr (some (10, x0b, 0)))), some (.inl (i3 x1)), some (.inl (i3 x2)), none, none, none] ∧ x.2 = ([], zm Z ν) ∧ m = (60 - x2).toNat ∧ (0 ≤ x1 ∧ x1 ≤ 1) ∧ (0 ≤ x2 ∧ x2 ≤ 60) ∧ zE T (zl_161_2 x0b (m + 1) Z x1 x2)) ?_ 65536 ((60 - x2).toNat) _ (by omega) ⟨x1, x2, hL, rfl, rfl, gx1, gx2, hP⟩
  clear hP gx1 gx2 hL
  clear x1 x2
  rintro m ⟨L, st, μ⟩ ⟨x1, x2, hL, hx, hm, gx1, gx2, hP⟩
  cases hx
  refine fb_161_2 x0b (i3 x1) (i3 x2) _ _ _ _ hL ?_
  have r1 := zH_k hZ 11 x0b 0 6 (lo := 0) (hi := 60) (by decide) rfl
  refine wz_br (i3Le (zm_rd (Z := Z) (ν := ν) (k := 11) (rfl : ((x0b : Nat) : Int) = x0b) (show ((0 : Nat) : Int) = 0 from rfl) (show ((6 : Nat) : Int) = 6 from rfl)) (rfl : i3 x2 = i3 x2) (by omega) (by omega) (by omega) (by omega)) (fun h2 => ?_) (fun h2 => ?_)
  · replace hP := zE_p hP h2
    exact hk _ _ _ (zconso rfl (zconso (zvo (rfl : i3 x1 = i3 x1)) (zconso rfl (zconso rfl (zconso rfl (zconso rfl rfl))))))  (by omega) (by omega)  hP
  · replace hP := zE_n hP h2
    refine wz_br (i3E (rfl : i3 x1 = i3 x1) (show (0 : Int32) = i3 0 from rfl) (by omega) (by omega) (by omega) (by omega)) (fun h3 => ?_) (fun h3 => ?_)
    · replace hP := zE_p hP h3
      exact hk _ _ _ (zconso rfl (zconso (zvo (rfl : i3 x1 = i3 x1)) (zconso rfl (zconso rfl (zconso rfl (zconso rfl rfl))))))  (by omega) (by omega)  hP
    · replace hP := zE_n hP h3
      refine wz_i0 (i3O (n := 60) (rfl : i3 x2 = i3 x2) (by omega) (by omega) (by omega)) ?_
      have r4 := zH_k hZ 47 x0b x2 0 (lo := 0) (hi := 47) (by decide) rfl
      refine wz_i0 (i3O (n := 48) (zm_rd (Z := Z) (ν := ν) (k := 47) (rfl : ((x0b : Nat) : Int) = x0b) (i3I (y := x2) (rfl : i3 x2 = i3 x2) (by omega) (by omega) (by omega)) (show ((0 : Nat) : Int) = 0 from rfl)) (by omega) (by omega) (by omega)) ?_
      have r5 := zH_k hZ 44 x0b (Z 47 x0b x2 0) 7 (lo := 0) (hi := 2000) (by decide) rfl
      have r6 := zH_k hZ 47 x0b x2 15 (lo := -1) (hi := 2000) (by decide) rfl
      refine wz_br (i3L (zm_rd (Z := Z) (ν := ν) (k := 44) (rfl : ((x0b : Nat) : Int) = x0b) (i3I (y := (Z 47 x0b x2 0)) (zm_rd (Z := Z) (ν := ν) (k := 47) (rfl : ((x0b : Nat) : Int) = x0b) (i3I (y := x2) (rfl : i3 x2 = i3 x2) (by omega) (by omega) (by omega)) (show ((0 : Nat) : Int) = 0 from rfl)) (by omega) (by omega) (by omega)) (show ((7 : Nat) : Int) = 7 from rfl)) (zm_rd (Z := Z) (ν := ν) (k := 47) (rfl : ((x0b : Nat) : Int) = x0b) (i3I (y := x2) (rfl : i3 x2 = i3 x2) (by omega) (by omega) (by omega)) (show ((15 : Nat) : Int) = 15 from rfl)) (by omega) (by omega) (by omega) (by omega)) (fun h7 => ?_) (fun h7 => ?_)
      · replace hP := zE_p hP h7
        obtain ⟨m2, rfl⟩ : ∃ m2, m = m2 + 1 := ⟨m - 1, by omega⟩
        exact wz_k1 ⟨m2, by omega, 0, (x2 + 1), (zconso rfl (zconso (zvo (show (0 : Int32) = i3 0 from rfl)) (zconso (zvo (i3A (rfl : i3 x2 = i3 x2) (show (1 : Int32) = i3 1 from rfl))) (zconso rfl (zconso rfl (zconso rfl rfl)))))), rfl,  by omega, by omega, by omega,  hP⟩
      · replace hP := zE_n hP h7
        have r8 := zH_k hZ 44 x0b (Z 47 x0b x2 0) 8 (lo := 0) (hi := 999) (by decide) rfl
        have r9 := zH_k hZ 47 x0b x2 16 (lo := -1) (hi := 999) (by decide) rfl
        refine wz_br (i3L (zm_rd (Z := Z) (ν := ν) (k := 44) (rfl : ((x0b : Nat) : Int) = x0b) (i3I (y := (Z 47 x0b x2 0)) (zm_rd (Z := Z) (ν := ν) (k := 47) (rfl : ((x0b : Nat) : Int) = x0b) (i3I (y := x2) (rfl : i3 x2 = i3 x2) (by omega) (by omega) (by omega)) (show ((0 : Nat) : Int) = 0 from rfl)) (by omega) (by omega) (by omega)) (show ((8 : Nat) : Int) = 8 from rfl)) (zm_rd (Z := Z) (ν := ν) (k := 47) (rfl : ((x0b : Nat) : Int) = x0b) (i3I (y := x2) (rfl : i3 x2 = i3 x2) (by omega) (by omega) (by omega)) (show ((16 : Nat) : Int) = 16 from rfl)) (by omega) (by omega) (by omega) (by omega)) (fun h10 => ?_) (fun h10 => ?_)
        · replace hP := zE_p hP h10
          obtain ⟨m2, rfl⟩ : ∃ m2, m = m2 + 1 := ⟨m - 1, by omega⟩
          exact wz_k1 ⟨m2, by omega, 0, (x2 + 1), (zconso rfl (zconso (zvo (show (0 : Int32) = i3 0 from rfl)) (zconso (zvo (i3A (rfl : i3 x2 = i3 x2) (show (1 : Int32) = i3 1 from rfl))) (zconso rfl (zconso rfl (zconso rfl rfl)))))), rfl,  by omega, by omega, by omega,  hP⟩
        · replace hP := zE_n hP h10
          obtain ⟨m2, rfl⟩ : ∃ m2, m = m2 + 1 := ⟨m - 1, by omega⟩
          exact wz_k1 ⟨m2, by omega, 1, (x2 + 1), (zconso rfl (zconso (zvo (show (1 : Int32) = i3 1 from rfl)) (zconso (zvo (i3A (rfl : i3 x2 = i3 x2) (show (1 : Int32) = i3 1 from rfl))) (zconso rfl (zconso rfl (zconso rfl rfl)))))), rfl,  by omega, by omega, by omega,  hP⟩
/- yX10_areSound -/
def zl_161_3 (x0b : Int) : Nat → qz_Z → Int → Int → Int × Int
  | 0, Z, x1, x2 => (x1, x2)
  | m + 1, Z, x1, x2 => (if (Z 11 x0b 0 2) ≤ x2 then (x1, x2) else (if x1 = 0 then (x1, x2) else (zlet (zf_182 Z x0b x2) (fun v4 => (if (Z 43 x0b x2 0) < v4 then zl_161_3 x0b m Z 0 (x2 + 1) else (if (Z 11 x0b 0 13) < (Z 43 x0b x2 8) then zl_161_3 x0b m Z 0 (x2 + 1) else zl_161_3 x0b m Z 1 (x2 + 1)))))))
theorem sl_161_3 {s : zSM} {Z : qz_Z} {ν : qz_N} (hZ : zH s Z) (hM : s.2 + 0 ≤ 1000000000) (x0b : Nat) {x1 : Int} (gx1 : 0 ≤ x1 ∧ x1 ≤ 1) {x2 : Int} (gx2 : 0 ≤ x2 ∧ x2 ≤ 6) {k : wz_K} {R : wz_R} {L : qz_L} (hL : qz_fg [true, true, true, false, false, false] L = [some (.inr (.inr (some (10, x0b, 0)))), some (.inl (i3 x1)), some (.inl (i3 x2)), none, none, none]) {T : Int × Int} (hP : zE T (zl_161_3 x0b ((6 - x2).toNat + 1) Z x1 x2)) (hk : ∀ (L9 : qz_L) (yx1 yx2 : Int), qz_fg [false, true, false, false, false, false] L9 = [none, some (.inl (i3 yx1)), none, none, none, none] → (0 ≤ yx1 ∧ yx1 ≤ 1) → (0 ≤ yx2 ∧ yx2 ≤ 6) → zE T ((yx1, yx2)) → k 0 (L9, [], zm Z ν)) : wz_loop qb_161_3 65536 k R (L, [], zm Z ν) := by
  refine wz_lp sb_161_3 (fun m x => ∃ x1 : Int, ∃ x2 : Int, qz_fg [true, true, true, false, false, false] x.1 = [some (.inr (.inr (some (10, x0b, 0)))), some (.inl (i3 x1)), some (.inl (i3 x2)), none, none, none] ∧ x.2 = ([], zm Z ν) ∧ m = (6 - x2).toNat ∧ (0 ≤ x1 ∧ x1 ≤ 1) ∧ (0 ≤ x2 ∧ x2 ≤ 6) ∧ zE T (zl_161_3 x0b (m + 1) Z x1 x2)) ?_ 65536 ((6 - x2).toNat) _ (by omega) ⟨x1, x2, hL, rfl, rfl, gx1, gx2, hP⟩
  clear hP gx1 gx2 hL
  clear x1 x2
  rintro m ⟨L, st, μ⟩ ⟨x1, x2, hL, hx, hm, gx1, gx2, hP⟩
  cases hx
  refine fb_161_3 x0b (i3 x1) (i3 x2) _ _ _ _ hL ?_
  have r1 := zH_k hZ 11 x0b 0 2 (lo := 0) (hi := 6) (by decide) rfl
  refine wz_br (i3Le (zm_rd (Z := Z) (ν := ν) (k := 11) (rfl : ((x0b : Nat) : Int) = x0b) (show ((0 : Nat) : Int) = 0 from rfl) (show ((2 : Nat) : Int) = 2 from rfl)) (rfl : i3 x2 = i3 x2) (by omega) (by omega) (by omega) (by omega)) (fun h2 => ?_) (fun h2 => ?_)
  · replace hP := zE_p hP h2
    exact hk _ _ _ (zconso rfl (zconso (zvo (rfl : i3 x1 = i3 x1)) (zconso rfl (zconso rfl (zconso rfl (zconso rfl rfl))))))  (by omega) (by omega)  hP
  · replace hP := zE_n hP h2
    refine wz_br (i3E (rfl : i3 x1 = i3 x1) (show (0 : Int32) = i3 0 from rfl) (by omega) (by omega) (by omega) (by omega)) (fun h3 => ?_) (fun h3 => ?_)
    · replace hP := zE_p hP h3
      exact hk _ _ _ (zconso rfl (zconso (zvo (rfl : i3 x1 = i3 x1)) (zconso rfl (zconso rfl (zconso rfl (zconso rfl rfl))))))  (by omega) (by omega)  hP
    · replace hP := zE_n hP h3
      refine wz_i0 (i3O (n := 6) (rfl : i3 x2 = i3 x2) (by omega) (by omega) (by omega)) ?_
      obtain ⟨v4, hv4, c9, lv4, uv4⟩ := sp_182 (ν := ν) hZ x0b (a1 := x2) (by omega) (zbh (c := 0) (k := 0) hM (Nat.le_of_ble_eq_true rfl))
      replace hP := zl_e hP hv4
      refine wz_cI_of (zas (zcons rfl (zcons (zvi (rfl : i3 x2 = i3 x2)) rfl)) c9) ?_
      clear c9
      have r5 := zH_k hZ 43 x0b x2 0 (lo := 0) (hi := 12) (by decide) rfl
      refine wz_br (i3L (zm_rd (Z := Z) (ν := ν) (k := 43) (rfl : ((x0b : Nat) : Int) = x0b) (i3I (y := x2) (rfl : i3 x2 = i3 x2) (by omega) (by omega) (by omega)) (show ((0 : Nat) : Int) = 0 from rfl)) (rfl : i3 v4 = i3 v4) (by omega) (by omega) (by omega) (by omega)) (fun h6 => ?_) (fun h6 => ?_)
      · replace hP := zE_p hP h6
        obtain ⟨m2, rfl⟩ : ∃ m2, m = m2 + 1 := ⟨m - 1, by omega⟩
        exact wz_k1 ⟨m2, by omega, 0, (x2 + 1), (zconso rfl (zconso (zvo (show (0 : Int32) = i3 0 from rfl)) (zconso (zvo (i3A (rfl : i3 x2 = i3 x2) (show (1 : Int32) = i3 1 from rfl))) (zconso rfl (zconso rfl (zconso rfl rfl)))))), rfl,  by omega, by omega, by omega,  hP⟩
      · replace hP := zE_n hP h6
        have r7 := zH_k hZ 43 x0b x2 5 (lo := 0) (hi := 40) (by decide) rfl
        refine wz_i0 (Eq.trans (i3L (zm_rd (Z := Z) (ν := ν) (k := 43) (rfl : ((x0b : Nat) : Int) = x0b) (i3I (y := x2) (rfl : i3 x2 = i3 x2) (by omega) (by omega) (by omega)) (show ((5 : Nat) : Int) = 5 from rfl)) (show (0 : Int32) = i3 0 from rfl) (by omega) (by omega) (by omega) (by omega)) (decide_eq_false (by omega))) ?_
        refine wz_i0 (Eq.trans (i3L (show (40 : Int32) = i3 40 from rfl) (zm_rd (Z := Z) (ν := ν) (k := 43) (rfl : ((x0b : Nat) : Int) = x0b) (i3I (y := x2) (rfl : i3 x2 = i3 x2) (by omega) (by omega) (by omega)) (show ((5 : Nat) : Int) = 5 from rfl)) (by omega) (by omega) (by omega) (by omega)) (decide_eq_false (by omega))) ?_
        have r8 := zH_k hZ 43 x0b x2 3 (lo := 0) (hi := 40) (by decide) rfl
        refine wz_i0 (Eq.trans (i3L (zm_rd (Z := Z) (ν := ν) (k := 43) (rfl : ((x0b : Nat) : Int) = x0b) (i3I (y := x2) (rfl : i3 x2 = i3 x2) (by omega) (by omega) (by omega)) (show ((3 : Nat) : Int) = 3 from rfl)) (show (0 : Int32) = i3 0 from rfl) (by omega) (by omega) (by omega) (by omega)) (decide_eq_false (by omega))) ?_
        refine wz_i0 (Eq.trans (i3L (show (40 : Int32) = i3 40 from rfl) (zm_rd (Z := Z) (ν := ν) (k := 43) (rfl : ((x0b : Nat) : Int) = x0b) (i3I (y := x2) (rfl : i3 x2 = i3 x2) (by omega) (by omega) (by omega)) (show ((3 : Nat) : Int) = 3 from rfl)) (by omega) (by omega) (by omega) (by omega)) (decide_eq_false (by omega))) ?_
        have r9 := zH_k hZ 11 x0b 0 13 (lo := 0) (hi := 671) (by decide) rfl
        have r10 := zH_f hZ 43 x0b x2 8
        refine wz_br (i3L (zm_rd (Z := Z) (ν := ν) (k := 11) (rfl : ((x0b : Nat) : Int) = x0b) (show ((0 : Nat) : Int) = 0 from rfl) (show ((13 : Nat) : Int) = 13 from rfl)) (zm_rd (Z := Z) (ν := ν) (k := 43) (rfl : ((x0b : Nat) : Int) = x0b) (i3I (y := x2) (rfl : i3 x2 = i3 x2) (by omega) (by omega) (by omega)) (show ((8 : Nat) : Int) = 8 from rfl)) (by omega) (by omega) (by omega) (by omega)) (fun h11 => ?_) (fun h11 => ?_)
        · replace hP := zE_p hP h11
          obtain ⟨m2, rfl⟩ : ∃ m2, m = m2 + 1 := ⟨m - 1, by omega⟩
          exact wz_k1 ⟨m2, by omega, 0, (x2 + 1), (zconso rfl (zconso (zvo (show (0 : Int32) = i3 0 from rfl)) (zconso (zvo (i3A (rfl : i3 x2 = i3 x2) (show (1 : Int32) = i3 1 from rfl))) (zconso rfl (zconso rfl (zconso rfl rfl)))))), rfl,  by omega, by omega, by omega,  hP⟩
        · replace hP := zE_n hP h11
          obtain ⟨m2, rfl⟩ : ∃ m2, m = m2 + 1 := ⟨m - 1, by omega⟩
          exact wz_k1 ⟨m2, by omega, 1, (x2 + 1), (zconso rfl (zconso (zvo (show (1 : Int32) = i3 1 from rfl)) (zconso (zvo (i3A (rfl : i3 x2 = i3 x2) (show (1 : Int32) = i3 1 from rfl))) (zconso rfl (zconso rfl (zconso rfl rfl)))))), rfl,  by omega, by omega, by omega,  hP⟩
/- yX10_areSound -/
def zf_161 (Z : qz_Z) (a0b : Int) : Int := (zlet2 (zl_161_1 a0b 49 Z 1 0) (fun y1 y2 => (zlet2 (zl_161_2 a0b 61 Z y1 0) (fun y4 y5 => (zlet2 (zl_161_3 a0b 7 Z y4 0) (fun y7 y8 => y7))))))
theorem sp_161 {s : zSM} {Z : qz_Z} {ν : qz_N} (hZ : zH s Z) (a0b : Nat) (hM : s.2 + 0 ≤ 1000000000) : ∃ P : Int, P = zf_161 Z a0b ∧ (qf_161 [.inr (.inr (some (10, a0b, 0)))] (zm Z ν) = some (zm Z ν, .inl (some (.inl (i3 P)))) ∧ 0 ≤ P ∧ P ≤ 1) := by
  obtain ⟨P, hP⟩ := zx (zf_161 Z a0b)
  refine zc_R (Q := fun P => 0 ≤ P ∧ P ≤ 1) hP (fw_161 a0b _ _ ?_)
  replace hP : zE P (zf_161 Z a0b) := hP
  unfold zf_161 at hP
  refine sl_161_1 (ν := ν) hZ (zbh (c := 0) (k := 0) hM (Nat.le_of_ble_eq_true rfl)) a0b (x1 := 1) (by omega) (x2 := 0) (by omega)  (zconso rfl (zconso (zvo (show (1 : Int32) = i3 1 from rfl)) (zconso (zvo (show (0 : Int32) = i3 0 from rfl)) (zconso rfl (zconso rfl (zconso rfl rfl)))))) rfl ?_
  intro L3 y1 y2 hL3 gy1 gy2 q9
  replace hP := zl_e2 hP (Eq.symm q9)
  clear q9
  refine fc_161_6 _ (i3 y1) _ _ _ _ hL3 ?_
  refine sl_161_2 (ν := ν) hZ (zbh (c := 0) (k := 0) hM (Nat.le_of_ble_eq_true rfl)) a0b (x1 := y1) (by omega) (x2 := 0) (by omega)  (zconso rfl (zconso (zvo (rfl : i3 y1 = i3 y1)) (zconso (zvo (show (0 : Int32) = i3 0 from rfl)) (zconso rfl (zconso rfl (zconso rfl rfl)))))) rfl ?_
  intro L6 y4 y5 hL6 gy4 gy5 q9
  replace hP := zl_e2 hP (Eq.symm q9)
  clear q9
  refine fc_161_5 _ (i3 y4) _ _ _ _ hL6 ?_
  refine sl_161_3 (ν := ν) hZ (zbh (c := 0) (k := 0) hM (Nat.le_of_ble_eq_true rfl)) a0b (x1 := y4) (by omega) (x2 := 0) (by omega)  (zconso rfl (zconso (zvo (rfl : i3 y4 = i3 y4)) (zconso (zvo (show (0 : Int32) = i3 0 from rfl)) (zconso rfl (zconso rfl (zconso rfl rfl)))))) rfl ?_
  intro L9 y7 y8 hL9 gy7 gy8 q9
  replace hP := zl_e2 hP (Eq.symm q9)
  clear q9
  refine fc_161_4 (i3 y7) _ _ _ _ hL9 ?_
  refine wz_i1 (i3B (rfl : i3 y7 = i3 y7) (by omega)) ?_
  exact zlR hP (rfl : i3 y7 = i3 y7) ⟨by omega, by omega⟩
/- yX11_keep -/
def zx_213 (Z : qz_Z) (a1 : Int) : qz_Z × Int × Int := (if 0 ≤ a1 ∧ a1 ≤ 1 then (zlet (zcp Z 0 (10 + a1)) (fun Z2 => (zlet (zu Z2 65 0 0 a1 1) (fun Z3 => (Z3, (Z3 11 0 0 15), 0))))) else (Z, 0, 13))
theorem sx_213 {M : Nat} {Z : qz_Z} {ν : qz_N} (hZ : zH ((none, M) : zSM) Z) (hM : ((none, M) : zSM).2 + 0 ≤ 1000000000) {a1 : Int} (ga1 : -2147483648 ≤ a1 ∧ a1 ≤ 2147483647) : ∃ (Z1 : qz_Z) (ν1 : qz_N) (v E : Int), (Z1, v, E) = zx_213 Z a1 ∧ qf_213 [.inr (.inr (some (0, 0, 0))), .inl (i3 a1)] (zm Z ν) = some (zm Z1 ν1, zoX v E) ∧ (fun Z1 ν1 => zH ((none, M) : zSM) Z1 ∧ zC [12, 13, 14, 40, 41, 42, 43, 44, 45, 46, 47, 48, 49, 50, 51, 52, 53, 54, 65, 1099, 1100, 1101, 1102, 1103, 1104, 1105, 1106, 1107, 1108, 1109, 1110, 1111, 1112, 1113, 1114, 1115, 1116] Z Z1 ∧ zU [(10 + a1)] Z Z1 ∧ zG 1 6 ν ν1) Z1 ν1 := by
  obtain ⟨P, hP⟩ := zx (zx_213 Z a1)
  refine zc_G (Q := fun Z1 ν1 => zH ((none, M) : zSM) Z1 ∧ zC [12, 13, 14, 40, 41, 42, 43, 44, 45, 46, 47, 48, 49, 50, 51, 52, 53, 54, 65, 1099, 1100, 1101, 1102, 1103, 1104, 1105, 1106, 1107, 1108, 1109, 1110, 1111, 1112, 1113, 1114, 1115, 1116] Z Z1 ∧ zU [(10 + a1)] Z Z1 ∧ zG 1 6 ν ν1) hP (fw_213 (i3 a1) _ _ ?_)
  replace hP : zE P (zx_213 Z a1) := hP
  unfold zx_213 at hP
  refine wz_inR (rfl : i3 a1 = i3 a1) (show (0 : Int32) = i3 0 from rfl) (show (1 : Int32) = i3 1 from rfl) (by omega) (by omega) (by omega) (by omega) (by omega) (by omega) (fun h1 => ?_) (fun h1 => ?_)
  · replace hP := zE_p hP h1
    refine wz_i0 (i3O (n := 2) (rfl : i3 a1 = i3 a1) (by omega) (by omega) (by omega)) ?_
    obtain ⟨Z2, hZ2, c9, hZ2I, kZ2, gZ2⟩ := zH_cpe (ν := ν) hZ (show ((0 : Nat) : Int) = 0 from rfl) (zn_add (n := 10) (i3I (y := a1) (rfl : i3 a1 = i3 a1) (by omega) (by omega) (by omega))) (by omega)
    have fZ2 : zC [12, 13, 14, 40, 41, 42, 43, 44, 45, 46, 47, 48, 49, 50, 51, 52, 53, 54, 1099, 1100, 1101, 1102, 1103, 1104, 1105, 1106, 1107, 1108, 1109, 1110, 1111, 1112, 1113, 1114, 1115, 1116] Z Z2 := zC_k kZ2 (by decide) (by decide)
    have aZ2 : ∀ {k : Nat} {i j : Int}, zhk k i j = true → Z2 k (10 + a1) i j = Z k 0 i j := fun hk => zcp_at hZ2 hk
    have hZ2K : zC [12, 13, 14, 40, 41, 42, 43, 44, 45, 46, 47, 48, 49, 50, 51, 52, 53, 54, 65, 1099, 1100, 1101, 1102, 1103, 1104, 1105, 1106, 1107, 1108, 1109, 1110, 1111, 1112, 1113, 1114, 1115, 1116] Z Z2 := zC_t zC_r fZ2 (by decide)
    have jZ2 : zU [(10 + a1)] Z Z2 := zU_cp hZ2
    have hZ2U : zU [(10 + a1)] Z Z2 := zU_t zU_r jZ2 (zU_b1 (List.Mem.head _) zU_b0)
    replace hP := zl_e hP hZ2
    refine wz_cV_of c9 ?_
    clear c9
    refine wz_i0 (i3O (n := 2) (rfl : i3 a1 = i3 a1) (by omega) (by omega) (by omega)) ?_
    obtain ⟨Z3, hZ3⟩ := zx (zu Z2 65 0 0 a1 1)
    replace hP := zl_e hP hZ3
    have hZ3I := zH_u hZ2I hZ3 (lo := -2147483648) (hi := 2147483647) (by decide) rfl (by omega) ⟨by decide, by decide⟩ (Or.inl (by decide)) rfl
    have hZ3U : zU [(10 + a1)] Z Z3 := zU_u hZ2U hZ3 (Or.inl rfl)
    have hZ3K : zC [12, 13, 14, 40, 41, 42, 43, 44, 45, 46, 47, 48, 49, 50, 51, 52, 53, 54, 65, 1099, 1100, 1101, 1102, 1103, 1104, 1105, 1106, 1107, 1108, 1109, 1110, 1111, 1112, 1113, 1114, 1115, 1116] Z Z3 := zC_u hZ2K hZ3 rfl
    intro μ9 e9
    replace e9 := e9.trans (zm_wI (Z := Z2) (ν := ν) hZ3 (show ((0 : Nat) : Int) = 0 from rfl) (show ((0 : Nat) : Int) = 0 from rfl) (i3I (y := a1) (rfl : i3 a1 = i3 a1) (by omega) (by omega) (by omega)) (show (1 : Int32) = i3 1 from rfl))
    subst e9
    have r4 := zH_f hZ3I 11 0 0 15
    exact zlG hP (zm_rd (Z := Z3) (ν := ν) (k := 11) (show ((0 : Nat) : Int) = 0 from rfl) (show ((0 : Nat) : Int) = 0 from rfl) (show ((15 : Nat) : Int) = 15 from rfl)) ⟨hZ3I, hZ3K, hZ3U, zG_w zG_r (Nat.le_of_ble_eq_true rfl) (Nat.le_of_ble_eq_true rfl)⟩
  · replace hP := zE_n hP h1
    exact zlGe (E := 12) hP ⟨hZ, zC_r, zU_r, zG_w (zG_k rfl) (Nat.le_of_ble_eq_true rfl) (Nat.le_of_ble_eq_true rfl)⟩
/- yX10_tellRoom -/
def zf_183 (Z : qz_Z) (a0b : Int) (a1 : Int) (a2 : Int) : Int := (if a2 ≠ 6 then (if a2 ≠ 10 then (Z 43 a0b a1 a2) else (if (Z 11 a0b 0 2) ≤ a1 then (-1) else (if (Z 43 a0b a1 10) ≤ (Z 11 a0b 0 13) then (-1) else (Z 43 a0b a1 10)))) else (zlet (zf_182 Z a0b a1) (fun v9 => v9)))
theorem sp_183 {s : zSM} {Z : qz_Z} {ν : qz_N} (hZ : zH s Z) (a0b : Nat) {a1 : Int} (ga1 : 0 ≤ a1 ∧ a1 ≤ 5) {a2 : Int} (ga2 : 0 ≤ a2 ∧ a2 ≤ 10) (hM : s.2 + 0 ≤ 1000000000) : ∃ P : Int, P = zf_183 Z a0b a1 a2 ∧ (qf_183 [.inr (.inr (some (10, a0b, 0))), .inl (i3 a1), .inl (i3 a2)] (zm Z ν) = some (zm Z ν, .inl (some (.inl (i3 P)))) ∧ -2147483648 ≤ P ∧ P ≤ 2147483647) := by
  obtain ⟨P, hP⟩ := zx (zf_183 Z a0b a1 a2)
  refine zc_R (Q := fun P => -2147483648 ≤ P ∧ P ≤ 2147483647) hP (fw_183 a0b (i3 a1) (i3 a2) _ _ ?_)
  replace hP : zE P (zf_183 Z a0b a1 a2) := hP
  unfold zf_183 at hP
  refine wz_i0 (i3O (n := 6) (rfl : i3 a1 = i3 a1) (by omega) (by omega) (by omega)) ?_
  refine wz_br (i3NE (rfl : i3 a2 = i3 a2) (show (6 : Int32) = i3 6 from rfl) (by omega) (by omega) (by omega) (by omega)) (fun h1 => ?_) (fun h1 => ?_)
  · replace hP := zE_p hP h1
    refine wz_br (i3NE (rfl : i3 a2 = i3 a2) (show (10 : Int32) = i3 10 from rfl) (by omega) (by omega) (by omega) (by omega)) (fun h2 => ?_) (fun h2 => ?_)
    · replace hP := zE_p hP h2
      refine wz_i0 (i3O (n := 11) (rfl : i3 a2 = i3 a2) (by omega) (by omega) (by omega)) ?_
      have r3 := zH_f hZ 43 a0b a1 a2
      exact zlR hP (zm_rd (Z := Z) (ν := ν) (k := 43) (rfl : ((a0b : Nat) : Int) = a0b) (i3I (y := a1) (rfl : i3 a1 = i3 a1) (by omega) (by omega) (by omega)) (i3I (y := a2) (rfl : i3 a2 = i3 a2) (by omega) (by omega) (by omega))) ⟨by omega, by omega⟩
    · replace hP := zE_n hP h2
      refine wz_i0 (Eq.trans (i3L (rfl : i3 a1 = i3 a1) (show (0 : Int32) = i3 0 from rfl) (by omega) (by omega) (by omega) (by omega)) (decide_eq_false (by omega))) ?_
      have r4 := zH_k hZ 11 a0b 0 2 (lo := 0) (hi := 6) (by decide) rfl
      refine wz_br (i3Le (zm_rd (Z := Z) (ν := ν) (k := 11) (rfl : ((a0b : Nat) : Int) = a0b) (show ((0 : Nat) : Int) = 0 from rfl) (show ((2 : Nat) : Int) = 2 from rfl)) (rfl : i3 a1 = i3 a1) (by omega) (by omega) (by omega) (by omega)) (fun h5 => ?_) (fun h5 => ?_)
      · replace hP := zE_p hP h5
        exact zlR hP (show (-1 : Int32) = i3 (-1) from rfl) ⟨by omega, by omega⟩
      · replace hP := zE_n hP h5
        refine wz_i0 (i3O (n := 6) (rfl : i3 a1 = i3 a1) (by omega) (by omega) (by omega)) ?_
        have r6 := zH_k hZ 43 a0b a1 10 (lo := -1) (hi := 695) (by decide) rfl
        have r7 := zH_k hZ 11 a0b 0 13 (lo := 0) (hi := 671) (by decide) rfl
        refine wz_br (i3Le (zm_rd (Z := Z) (ν := ν) (k := 43) (rfl : ((a0b : Nat) : Int) = a0b) (i3I (y := a1) (rfl : i3 a1 = i3 a1) (by omega) (by omega) (by omega)) (show ((10 : Nat) : Int) = 10 from rfl)) (zm_rd (Z := Z) (ν := ν) (k := 11) (rfl : ((a0b : Nat) : Int) = a0b) (show ((0 : Nat) : Int) = 0 from rfl) (show ((13 : Nat) : Int) = 13 from rfl)) (by omega) (by omega) (by omega) (by omega)) (fun h8 => ?_) (fun h8 => ?_)
        · replace hP := zE_p hP h8
          exact zlR hP (show (-1 : Int32) = i3 (-1) from rfl) ⟨by omega, by omega⟩
        · replace hP := zE_n hP h8
          exact zlR hP (zm_rd (Z := Z) (ν := ν) (k := 43) (rfl : ((a0b : Nat) : Int) = a0b) (i3I (y := a1) (rfl : i3 a1 = i3 a1) (by omega) (by omega) (by omega)) (show ((10 : Nat) : Int) = 10 from rfl)) ⟨by omega, by omega⟩
  · replace hP := zE_n hP h1
    obtain ⟨v9, hv9, c9, lv9, uv9⟩ := sp_182 (ν := ν) hZ a0b (a1 := a1) (by omega) (zbh (c := 0) (k := 0) hM (Nat.le_of_ble_eq_true rfl))
    replace hP := zl_e hP hv9
    refine wz_cI_of (zas (zcons rfl (zcons (zvi (rfl : i3 a1 = i3 a1)) rfl)) c9) ?_
    clear c9
    exact zlR hP (rfl : i3 v9 = i3 v9) ⟨by omega, by omega⟩
/- yX11_kept -/
def zx_214 (Z : qz_Z) (a1 : Int) (a2 : Int) : qz_Z × Int × Int := (if 0 ≤ a1 ∧ a1 < (Z 11 0 0 2) then (if 0 ≤ a2 ∧ a2 ≤ 10 then (zlet (zf_183 Z 0 a1 a2) (fun v4 => (Z, v4, 0))) else (Z, 0, 13)) else (Z, 0, 24))
theorem sx_214 {M : Nat} {Z : qz_Z} {ν : qz_N} (hZ : zH ((none, M) : zSM) Z) (hM : ((none, M) : zSM).2 + 0 ≤ 1000000000) {a1 : Int} (ga1 : -2147483648 ≤ a1 ∧ a1 ≤ 2147483647) {a2 : Int} (ga2 : -2147483648 ≤ a2 ∧ a2 ≤ 2147483647) : ∃ (Z1 : qz_Z) (ν1 : qz_N) (v E : Int), (Z1, v, E) = zx_214 Z a1 a2 ∧ qf_214 [.inr (.inr (some (0, 0, 0))), .inl (i3 a1), .inl (i3 a2)] (zm Z ν) = some (zm Z1 ν1, zoX v E) ∧ (fun Z1 ν1 => zH ((none, M) : zSM) Z1 ∧ zC [] Z Z1 ∧ zU [] Z Z1 ∧ zG 1 6 ν ν1) Z1 ν1 := by
  obtain ⟨P, hP⟩ := zx (zx_214 Z a1 a2)
  refine zc_G (Q := fun Z1 ν1 => zH ((none, M) : zSM) Z1 ∧ zC [] Z Z1 ∧ zU [] Z Z1 ∧ zG 1 6 ν ν1) hP (fw_214 (i3 a1) (i3 a2) _ _ ?_)
  replace hP : zE P (zx_214 Z a1 a2) := hP
  unfold zx_214 at hP
  have r1 := zH_k hZ 11 0 0 2 (lo := 0) (hi := 6) (by decide) rfl
  refine wz_thing (rfl : i3 a1 = i3 a1) (zm_rd (Z := Z) (ν := ν) (k := 11) (show ((0 : Nat) : Int) = 0 from rfl) (show ((0 : Nat) : Int) = 0 from rfl) (show ((2 : Nat) : Int) = 2 from rfl)) (by omega) (by omega) (by omega) (by omega) (fun h2 => ?_) (fun h2 => ?_)
  · replace hP := zE_p hP h2
    refine wz_inR (rfl : i3 a2 = i3 a2) (show (0 : Int32) = i3 0 from rfl) (show (10 : Int32) = i3 10 from rfl) (by omega) (by omega) (by omega) (by omega) (by omega) (by omega) (fun h3 => ?_) (fun h3 => ?_)
    · replace hP := zE_p hP h3
      obtain ⟨v4, hv4, c9, lv4, uv4⟩ := sp_183 (ν := ν) hZ 0 (a1 := a1) (by omega) (a2 := a2) (by omega) (zbh (c := 0) (k := 0) hM (Nat.le_of_ble_eq_true rfl))
      replace hP := zl_e hP hv4
      refine wz_cI_of (zas (zcons rfl (zcons (zvi (rfl : i3 a1 = i3 a1)) (zcons (zvi (rfl : i3 a2 = i3 a2)) rfl))) c9) ?_
      clear c9
      exact zlG hP (rfl : i3 v4 = i3 v4) ⟨hZ, zC_r, zU_r, zG_w zG_r (Nat.le_of_ble_eq_true rfl) (Nat.le_of_ble_eq_true rfl)⟩
    · replace hP := zE_n hP h3
      exact zlGe (E := 12) hP ⟨hZ, zC_r, zU_r, zG_w (zG_k rfl) (Nat.le_of_ble_eq_true rfl) (Nat.le_of_ble_eq_true rfl)⟩
  · replace hP := zE_n hP h2
    exact zlGe (E := 23) hP ⟨hZ, zC_r, zU_r, zG_w (zG_k rfl) (Nat.le_of_ble_eq_true rfl) (Nat.le_of_ble_eq_true rfl)⟩
/- yX2_loadFault -/
def zf_49 (Z : qz_Z) (a0b : Int) (a1 : Int) (a2 : Int) : Int := (if a1 < 0 then 1 else (if (Z 11 a0b 0 6) ≤ a1 then 1 else (if a2 < 0 then 1 else (if a2 < (Z 11 a0b 0 8) then (if (Z 47 a0b a1 9) ≠ 0 then 3 else (if (Z 44 a0b (Z 47 a0b a1 0) 12) < 0 then (if (Z 50 a0b a2 2) ≠ 0 then 3 else (zlet (zf_43 Z a0b a2) (fun v15 => (if (Z 50 a0b a2 0) < (w3 (v15 + (Z 47 a0b a1 3))) then 3 else (zlet (zf_53 Z a0b a2) (fun v20 => (if 0 < v20 then 0 else (zlet (zf_40 Z a0b) (fun v22 => (if (Z 11 a0b 0 14) ≤ v22 then 3 else 0)))))))))) else (if (Z 11 a0b 0 2) ≤ (Z 44 a0b (Z 47 a0b a1 0) 12) then (if (Z 50 a0b a2 2) ≠ 0 then 3 else (zlet (zf_43 Z a0b a2) (fun v29 => (if (Z 50 a0b a2 0) < (w3 (v29 + (Z 47 a0b a1 3))) then 3 else (zlet (zf_53 Z a0b a2) (fun v34 => (if 0 < v34 then 0 else (zlet (zf_40 Z a0b) (fun v36 => (if (Z 11 a0b 0 14) ≤ v36 then 3 else 0)))))))))) else (if (Z 43 a0b (Z 44 a0b (Z 47 a0b a1 0) 12) 10) ≤ (Z 11 a0b 0 13) then (if (Z 50 a0b a2 2) ≠ 0 then 3 else (zlet (zf_43 Z a0b a2) (fun v44 => (if (Z 50 a0b a2 0) < (w3 (v44 + (Z 47 a0b a1 3))) then 3 else (zlet (zf_53 Z a0b a2) (fun v49 => (if 0 < v49 then 0 else (zlet (zf_40 Z a0b) (fun v51 => (if (Z 11 a0b 0 14) ≤ v51 then 3 else 0)))))))))) else 3)))) else 1))))
theorem sp_49 {s : zSM} {Z : qz_Z} {ν : qz_N} (hZ : zH s Z) (a0b : Nat) {a1 : Int} (ga1 : -2147483648 ≤ a1 ∧ a1 ≤ 2147483647) {a2 : Int} (ga2 : -2147483648 ≤ a2 ∧ a2 ≤ 2147483647) (hM : s.2 + 0 ≤ 1000000000) : ∃ P : Int, P = zf_49 Z a0b a1 a2 ∧ (qf_49 [.inr (.inr (some (10, a0b, 0))), .inl (i3 a1), .inl (i3 a2)] (zm Z ν) = some (zm Z ν, .inl (some (.inl (i3 P)))) ∧ 0 ≤ P ∧ P ≤ 3) := by
  obtain ⟨P, hP⟩ := zx (zf_49 Z a0b a1 a2)
  refine zc_R (Q := fun P => 0 ≤ P ∧ P ≤ 3) hP (fw_49 a0b (i3 a1) (i3 a2) _ _ ?_)
  replace hP : zE P (zf_49 Z a0b a1 a2) := hP
  unfold zf_49 at hP
  refine wz_br (i3L (rfl : i3 a1 = i3 a1) (show (0 : Int32) = i3 0 from rfl) (by omega) (by omega) (by omega) (by omega)) (fun h1 => ?_) (fun h1 => ?_)
  · replace hP := zE_p hP h1
    exact zlR hP (show (1 : Int32) = i3 1 from rfl) ⟨by omega, by omega⟩
  · replace hP := zE_n hP h1
    have r2 := zH_k hZ 11 a0b 0 6 (lo := 0) (hi := 60) (by decide) rfl
    refine wz_br (i3Le (zm_rd (Z := Z) (ν := ν) (k := 11) (rfl : ((a0b : Nat) : Int) = a0b) (show ((0 : Nat) : Int) = 0 from rfl) (show ((6 : Nat) : Int) = 6 from rfl)) (rfl : i3 a1 = i3 a1) (by omega) (by omega) (by omega) (by omega)) (fun h3 => ?_) (fun h3 => ?_)
    · replace hP := zE_p hP h3
      exact zlR hP (show (1 : Int32) = i3 1 from rfl) ⟨by omega, by omega⟩
    · replace hP := zE_n hP h3
      refine wz_br (i3L (rfl : i3 a2 = i3 a2) (show (0 : Int32) = i3 0 from rfl) (by omega) (by omega) (by omega) (by omega)) (fun h4 => ?_) (fun h4 => ?_)
      · replace hP := zE_p hP h4
        exact zlR hP (show (1 : Int32) = i3 1 from rfl) ⟨by omega, by omega⟩
      · replace hP := zE_n hP h4
        have r5 := zH_k hZ 11 a0b 0 8 (lo := 0) (hi := 4) (by decide) rfl
        refine wz_br (i3L (rfl : i3 a2 = i3 a2) (zm_rd (Z := Z) (ν := ν) (k := 11) (rfl : ((a0b : Nat) : Int) = a0b) (show ((0 : Nat) : Int) = 0 from rfl) (show ((8 : Nat) : Int) = 8 from rfl)) (by omega) (by omega) (by omega) (by omega)) (fun h6 => ?_) (fun h6 => ?_)
        · replace hP := zE_p hP h6
          refine wz_i0 (i3O (n := 60) (rfl : i3 a1 = i3 a1) (by omega) (by omega) (by omega)) ?_
          refine wz_i0 (i3O (n := 4) (rfl : i3 a2 = i3 a2) (by omega) (by omega) (by omega)) ?_
          have r7 := zH_k hZ 47 a0b a1 9 (lo := 0) (hi := 3) (by decide) rfl
          have r8 := zH_lt hZ a0b a1
          refine wz_br (i3NE (zm_rd (Z := Z) (ν := ν) (k := 47) (rfl : ((a0b : Nat) : Int) = a0b) (i3I (y := a1) (rfl : i3 a1 = i3 a1) (by omega) (by omega) (by omega)) (show ((9 : Nat) : Int) = 9 from rfl)) (show (0 : Int32) = i3 0 from rfl) (by omega) (by omega) (by omega) (by omega)) (fun h9 => ?_) (fun h9 => ?_)
          · replace hP := zE_p hP h9
            exact zlR hP (show (3 : Int32) = i3 3 from rfl) ⟨by omega, by omega⟩
          · replace hP := zE_n hP h9
            have r10 := zH_k hZ 47 a0b a1 0 (lo := 0) (hi := 47) (by decide) rfl
            refine wz_i0 (i3O (n := 48) (zm_rd (Z := Z) (ν := ν) (k := 47) (rfl : ((a0b : Nat) : Int) = a0b) (i3I (y := a1) (rfl : i3 a1 = i3 a1) (by omega) (by omega) (by omega)) (show ((0 : Nat) : Int) = 0 from rfl)) (by omega) (by omega) (by omega)) ?_
            have r11 := zH_k hZ 44 a0b (Z 47 a0b a1 0) 12 (lo := -1) (hi := 6) (by decide) rfl
            refine wz_br (i3L (zm_rd (Z := Z) (ν := ν) (k := 44) (rfl : ((a0b : Nat) : Int) = a0b) (i3I (y := (Z 47 a0b a1 0)) (zm_rd (Z := Z) (ν := ν) (k := 47) (rfl : ((a0b : Nat) : Int) = a0b) (i3I (y := a1) (rfl : i3 a1 = i3 a1) (by omega) (by omega) (by omega)) (show ((0 : Nat) : Int) = 0 from rfl)) (by omega) (by omega) (by omega)) (show ((12 : Nat) : Int) = 12 from rfl)) (show (0 : Int32) = i3 0 from rfl) (by omega) (by omega) (by omega) (by omega)) (fun h12 => ?_) (fun h12 => ?_)
            · replace hP := zE_p hP h12
              have r13 := zH_k hZ 50 a0b a2 2 (lo := 0) (hi := 1) (by decide) rfl
              refine wz_br (i3NE (zm_rd (Z := Z) (ν := ν) (k := 50) (rfl : ((a0b : Nat) : Int) = a0b) (i3I (y := a2) (rfl : i3 a2 = i3 a2) (by omega) (by omega) (by omega)) (show ((2 : Nat) : Int) = 2 from rfl)) (show (0 : Int32) = i3 0 from rfl) (by omega) (by omega) (by omega) (by omega)) (fun h14 => ?_) (fun h14 => ?_)
              · replace hP := zE_p hP h14
                exact zlR hP (show (3 : Int32) = i3 3 from rfl) ⟨by omega, by omega⟩
              · replace hP := zE_n hP h14
                obtain ⟨v15, hv15, c9, lv15, uv15⟩ := sp_43 (ν := ν) hZ a0b (a1 := a2) (by omega) (zbh (c := 0) (k := 0) hM (Nat.le_of_ble_eq_true rfl))
                replace hP := zl_e hP hv15
                refine wz_cI_of (zas (zcons rfl (zcons (zvi (rfl : i3 a2 = i3 a2)) rfl)) c9) ?_
                clear c9
                have r16 := zH_k hZ 50 a0b a2 0 (lo := 0) (hi := 99) (by decide) rfl
                have r17 := zH_k hZ 47 a0b a1 3 (lo := 0) (hi := 40) (by decide) rfl
                have r18 := w3_r (v15 + (Z 47 a0b a1 3))
                refine wz_br (i3L (zm_rd (Z := Z) (ν := ν) (k := 50) (rfl : ((a0b : Nat) : Int) = a0b) (i3I (y := a2) (rfl : i3 a2 = i3 a2) (by omega) (by omega) (by omega)) (show ((0 : Nat) : Int) = 0 from rfl)) (i3W (i3A (rfl : i3 v15 = i3 v15) (zm_rd (Z := Z) (ν := ν) (k := 47) (rfl : ((a0b : Nat) : Int) = a0b) (i3I (y := a1) (rfl : i3 a1 = i3 a1) (by omega) (by omega) (by omega)) (show ((3 : Nat) : Int) = 3 from rfl)))) (by omega) (by omega) (by omega) (by omega)) (fun h19 => ?_) (fun h19 => ?_)
                · replace hP := zE_p hP h19
                  exact zlR hP (show (3 : Int32) = i3 3 from rfl) ⟨by omega, by omega⟩
                · replace hP := zE_n hP h19
                  obtain ⟨v20, hv20, c9, lv20, uv20⟩ := sp_53 (ν := ν) hZ a0b (a1 := a2) (by omega) (zbh (c := 0) (k := 0) hM (Nat.le_of_ble_eq_true rfl))
                  replace hP := zl_e hP hv20
                  refine wz_cI_of (zas (zcons rfl (zcons (zvi (rfl : i3 a2 = i3 a2)) rfl)) c9) ?_
                  clear c9
                  refine wz_br (i3L (show (0 : Int32) = i3 0 from rfl) (rfl : i3 v20 = i3 v20) (by omega) (by omega) (by omega) (by omega)) (fun h21 => ?_) (fun h21 => ?_)
                  · replace hP := zE_p hP h21
                    exact zlR hP (show (0 : Int32) = i3 0 from rfl) ⟨by omega, by omega⟩
                  · replace hP := zE_n hP h21
                    obtain ⟨v22, hv22, c9, lv22, uv22⟩ := sp_40 (ν := ν) hZ a0b (zbh (c := 0) (k := 0) hM (Nat.le_of_ble_eq_true rfl))
                    replace hP := zl_e hP hv22
                    refine wz_cI_of (zas (zcons rfl rfl) c9) ?_
                    clear c9
                    have r23 := zH_k hZ 11 a0b 0 14 (lo := 0) (hi := 4) (by decide) rfl
                    refine wz_br (i3Le (zm_rd (Z := Z) (ν := ν) (k := 11) (rfl : ((a0b : Nat) : Int) = a0b) (show ((0 : Nat) : Int) = 0 from rfl) (show ((14 : Nat) : Int) = 14 from rfl)) (rfl : i3 v22 = i3 v22) (by omega) (by omega) (by omega) (by omega)) (fun h24 => ?_) (fun h24 => ?_)
                    · replace hP := zE_p hP h24
                      exact zlR hP (show (3 : Int32) = i3 3 from rfl) ⟨by omega, by omega⟩
                    · replace hP := zE_n hP h24
                      exact zlR hP (show (0 : Int32) = i3 0 from rfl) ⟨by omega, by omega⟩
            · replace hP := zE_n hP h12
              have r25 := zH_k hZ 11 a0b 0 2 (lo := 0) (hi := 6) (by decide) rfl
              refine wz_br (i3Le (zm_rd (Z := Z) (ν := ν) (k := 11) (rfl : ((a0b : Nat) : Int) = a0b) (show ((0 : Nat) : Int) = 0 from rfl) (show ((2 : Nat) : Int) = 2 from rfl)) (zm_rd (Z := Z) (ν := ν) (k := 44) (rfl : ((a0b : Nat) : Int) = a0b) (i3I (y := (Z 47 a0b a1 0)) (zm_rd (Z := Z) (ν := ν) (k := 47) (rfl : ((a0b : Nat) : Int) = a0b) (i3I (y := a1) (rfl : i3 a1 = i3 a1) (by omega) (by omega) (by omega)) (show ((0 : Nat) : Int) = 0 from rfl)) (by omega) (by omega) (by omega)) (show ((12 : Nat) : Int) = 12 from rfl)) (by omega) (by omega) (by omega) (by omega)) (fun h26 => ?_) (fun h26 => ?_)
              · replace hP := zE_p hP h26
                have r27 := zH_k hZ 50 a0b a2 2 (lo := 0) (hi := 1) (by decide) rfl
                refine wz_br (i3NE (zm_rd (Z := Z) (ν := ν) (k := 50) (rfl : ((a0b : Nat) : Int) = a0b) (i3I (y := a2) (rfl : i3 a2 = i3 a2) (by omega) (by omega) (by omega)) (show ((2 : Nat) : Int) = 2 from rfl)) (show (0 : Int32) = i3 0 from rfl) (by omega) (by omega) (by omega) (by omega)) (fun h28 => ?_) (fun h28 => ?_)
                · replace hP := zE_p hP h28
                  exact zlR hP (show (3 : Int32) = i3 3 from rfl) ⟨by omega, by omega⟩
                · replace hP := zE_n hP h28
                  obtain ⟨v29, hv29, c9, lv29, uv29⟩ := sp_43 (ν := ν) hZ a0b (a1 := a2) (by omega) (zbh (c := 0) (k := 0) hM (Nat.le_of_ble_eq_true rfl))
                  replace hP := zl_e hP hv29
                  refine wz_cI_of (zas (zcons rfl (zcons (zvi (rfl : i3 a2 = i3 a2)) rfl)) c9) ?_
                  clear c9
                  have r30 := zH_k hZ 50 a0b a2 0 (lo := 0) (hi := 99) (by decide) rfl
                  have r31 := zH_k hZ 47 a0b a1 3 (lo := 0) (hi := 40) (by decide) rfl
                  have r32 := w3_r (v29 + (Z 47 a0b a1 3))
                  refine wz_br (i3L (zm_rd (Z := Z) (ν := ν) (k := 50) (rfl : ((a0b : Nat) : Int) = a0b) (i3I (y := a2) (rfl : i3 a2 = i3 a2) (by omega) (by omega) (by omega)) (show ((0 : Nat) : Int) = 0 from rfl)) (i3W (i3A (rfl : i3 v29 = i3 v29) (zm_rd (Z := Z) (ν := ν) (k := 47) (rfl : ((a0b : Nat) : Int) = a0b) (i3I (y := a1) (rfl : i3 a1 = i3 a1) (by omega) (by omega) (by omega)) (show ((3 : Nat) : Int) = 3 from rfl)))) (by omega) (by omega) (by omega) (by omega)) (fun h33 => ?_) (fun h33 => ?_)
                  · replace hP := zE_p hP h33
                    exact zlR hP (show (3 : Int32) = i3 3 from rfl) ⟨by omega, by omega⟩
                  · replace hP := zE_n hP h33
                    obtain ⟨v34, hv34, c9, lv34, uv34⟩ := sp_53 (ν := ν) hZ a0b (a1 := a2) (by omega) (zbh (c := 0) (k := 0) hM (Nat.le_of_ble_eq_true rfl))
                    replace hP := zl_e hP hv34
                    refine wz_cI_of (zas (zcons rfl (zcons (zvi (rfl : i3 a2 = i3 a2)) rfl)) c9) ?_
                    clear c9
                    refine wz_br (i3L (show (0 : Int32) = i3 0 from rfl) (rfl : i3 v34 = i3 v34) (by omega) (by omega) (by omega) (by omega)) (fun h35 => ?_) (fun h35 => ?_)
                    · replace hP := zE_p hP h35
                      exact zlR hP (show (0 : Int32) = i3 0 from rfl) ⟨by omega, by omega⟩
                    · replace hP := zE_n hP h35
                      obtain ⟨v36, hv36, c9, lv36, uv36⟩ := sp_40 (ν := ν) hZ a0b (zbh (c := 0) (k := 0) hM (Nat.le_of_ble_eq_true rfl))
                      replace hP := zl_e hP hv36
                      refine wz_cI_of (zas (zcons rfl rfl) c9) ?_
                      clear c9
                      have r37 := zH_k hZ 11 a0b 0 14 (lo := 0) (hi := 4) (by decide) rfl
                      refine wz_br (i3Le (zm_rd (Z := Z) (ν := ν) (k := 11) (rfl : ((a0b : Nat) : Int) = a0b) (show ((0 : Nat) : Int) = 0 from rfl) (show ((14 : Nat) : Int) = 14 from rfl)) (rfl : i3 v36 = i3 v36) (by omega) (by omega) (by omega) (by omega)) (fun h38 => ?_) (fun h38 => ?_)
                      · replace hP := zE_p hP h38
                        exact zlR hP (show (3 : Int32) = i3 3 from rfl) ⟨by omega, by omega⟩
                      · replace hP := zE_n hP h38
                        exact zlR hP (show (0 : Int32) = i3 0 from rfl) ⟨by omega, by omega⟩
              · replace hP := zE_n hP h26
                refine wz_i0 (i3O (n := 6) (zm_rd (Z := Z) (ν := ν) (k := 44) (rfl : ((a0b : Nat) : Int) = a0b) (i3I (y := (Z 47 a0b a1 0)) (zm_rd (Z := Z) (ν := ν) (k := 47) (rfl : ((a0b : Nat) : Int) = a0b) (i3I (y := a1) (rfl : i3 a1 = i3 a1) (by omega) (by omega) (by omega)) (show ((0 : Nat) : Int) = 0 from rfl)) (by omega) (by omega) (by omega)) (show ((12 : Nat) : Int) = 12 from rfl)) (by omega) (by omega) (by omega)) ?_
                have r39 := zH_k hZ 43 a0b (Z 44 a0b (Z 47 a0b a1 0) 12) 10 (lo := -1) (hi := 695) (by decide) rfl
                have r40 := zH_k hZ 11 a0b 0 13 (lo := 0) (hi := 671) (by decide) rfl
                refine wz_br (i3Le (zm_rd (Z := Z) (ν := ν) (k := 43) (rfl : ((a0b : Nat) : Int) = a0b) (i3I (y := (Z 44 a0b (Z 47 a0b a1 0) 12)) (zm_rd (Z := Z) (ν := ν) (k := 44) (rfl : ((a0b : Nat) : Int) = a0b) (i3I (y := (Z 47 a0b a1 0)) (zm_rd (Z := Z) (ν := ν) (k := 47) (rfl : ((a0b : Nat) : Int) = a0b) (i3I (y := a1) (rfl : i3 a1 = i3 a1) (by omega) (by omega) (by omega)) (show ((0 : Nat) : Int) = 0 from rfl)) (by omega) (by omega) (by omega)) (show ((12 : Nat) : Int) = 12 from rfl)) (by omega) (by omega) (by omega)) (show ((10 : Nat) : Int) = 10 from rfl)) (zm_rd (Z := Z) (ν := ν) (k := 11) (rfl : ((a0b : Nat) : Int) = a0b) (show ((0 : Nat) : Int) = 0 from rfl) (show ((13 : Nat) : Int) = 13 from rfl)) (by omega) (by omega) (by omega) (by omega)) (fun h41 => ?_) (fun h41 => ?_)
                · replace hP := zE_p hP h41
                  have r42 := zH_k hZ 50 a0b a2 2 (lo := 0) (hi := 1) (by decide) rfl
                  refine wz_br (i3NE (zm_rd (Z := Z) (ν := ν) (k := 50) (rfl : ((a0b : Nat) : Int) = a0b) (i3I (y := a2) (rfl : i3 a2 = i3 a2) (by omega) (by omega) (by omega)) (show ((2 : Nat) : Int) = 2 from rfl)) (show (0 : Int32) = i3 0 from rfl) (by omega) (by omega) (by omega) (by omega)) (fun h43 => ?_) (fun h43 => ?_)
                  · replace hP := zE_p hP h43
                    exact zlR hP (show (3 : Int32) = i3 3 from rfl) ⟨by omega, by omega⟩
                  · replace hP := zE_n hP h43
                    obtain ⟨v44, hv44, c9, lv44, uv44⟩ := sp_43 (ν := ν) hZ a0b (a1 := a2) (by omega) (zbh (c := 0) (k := 0) hM (Nat.le_of_ble_eq_true rfl))
                    replace hP := zl_e hP hv44
                    refine wz_cI_of (zas (zcons rfl (zcons (zvi (rfl : i3 a2 = i3 a2)) rfl)) c9) ?_
                    clear c9
                    have r45 := zH_k hZ 50 a0b a2 0 (lo := 0) (hi := 99) (by decide) rfl
                    have r46 := zH_k hZ 47 a0b a1 3 (lo := 0) (hi := 40) (by decide) rfl
                    have r47 := w3_r (v44 + (Z 47 a0b a1 3))
                    refine wz_br (i3L (zm_rd (Z := Z) (ν := ν) (k := 50) (rfl : ((a0b : Nat) : Int) = a0b) (i3I (y := a2) (rfl : i3 a2 = i3 a2) (by omega) (by omega) (by omega)) (show ((0 : Nat) : Int) = 0 from rfl)) (i3W (i3A (rfl : i3 v44 = i3 v44) (zm_rd (Z := Z) (ν := ν) (k := 47) (rfl : ((a0b : Nat) : Int) = a0b) (i3I (y := a1) (rfl : i3 a1 = i3 a1) (by omega) (by omega) (by omega)) (show ((3 : Nat) : Int) = 3 from rfl)))) (by omega) (by omega) (by omega) (by omega)) (fun h48 => ?_) (fun h48 => ?_)
                    · replace hP := zE_p hP h48
                      exact zlR hP (show (3 : Int32) = i3 3 from rfl) ⟨by omega, by omega⟩
                    · replace hP := zE_n hP h48
                      obtain ⟨v49, hv49, c9, lv49, uv49⟩ := sp_53 (ν := ν) hZ a0b (a1 := a2) (by omega) (zbh (c := 0) (k := 0) hM (Nat.le_of_ble_eq_true rfl))
                      replace hP := zl_e hP hv49
                      refine wz_cI_of (zas (zcons rfl (zcons (zvi (rfl : i3 a2 = i3 a2)) rfl)) c9) ?_
                      clear c9
                      refine wz_br (i3L (show (0 : Int32) = i3 0 from rfl) (rfl : i3 v49 = i3 v49) (by omega) (by omega) (by omega) (by omega)) (fun h50 => ?_) (fun h50 => ?_)
                      · replace hP := zE_p hP h50
                        exact zlR hP (show (0 : Int32) = i3 0 from rfl) ⟨by omega, by omega⟩
                      · replace hP := zE_n hP h50
                        obtain ⟨v51, hv51, c9, lv51, uv51⟩ := sp_40 (ν := ν) hZ a0b (zbh (c := 0) (k := 0) hM (Nat.le_of_ble_eq_true rfl))
                        replace hP := zl_e hP hv51
                        refine wz_cI_of (zas (zcons rfl rfl) c9) ?_
                        clear c9
                        have r52 := zH_k hZ 11 a0b 0 14 (lo := 0) (hi := 4) (by decide) rfl
                        refine wz_br (i3Le (zm_rd (Z := Z) (ν := ν) (k := 11) (rfl : ((a0b : Nat) : Int) = a0b) (show ((0 : Nat) : Int) = 0 from rfl) (show ((14 : Nat) : Int) = 14 from rfl)) (rfl : i3 v51 = i3 v51) (by omega) (by omega) (by omega) (by omega)) (fun h53 => ?_) (fun h53 => ?_)
                        · replace hP := zE_p hP h53
                          exact zlR hP (show (3 : Int32) = i3 3 from rfl) ⟨by omega, by omega⟩
                        · replace hP := zE_n hP h53
                          exact zlR hP (show (0 : Int32) = i3 0 from rfl) ⟨by omega, by omega⟩
                · replace hP := zE_n hP h41
                  exact zlR hP (show (3 : Int32) = i3 3 from rfl) ⟨by omega, by omega⟩
        · replace hP := zE_n hP h6
          exact zlR hP (show (1 : Int32) = i3 1 from rfl) ⟨by omega, by omega⟩
/- yX11_load -/
def zx_215 (Z : qz_Z) (a1 : Int) (a2 : Int) : qz_Z × Int × Int := (if a1 < 0 then (Z, 0, 24) else (if (Z 11 0 0 6) ≤ a1 then (Z, 0, 24) else (if a2 < 0 then (Z, 0, 24) else (if a2 < (Z 11 0 0 8) then (if (Z 47 0 a1 9) ≠ 0 then (Z, 0, 15) else (if (Z 44 0 (Z 47 0 a1 0) 12) < 0 then (if (Z 50 0 a2 2) ≠ 0 then (Z, 0, 15) else (zlet (zf_43 Z 0 a2) (fun v15 => (if (Z 50 0 a2 0) < (w3 (v15 + (Z 47 0 a1 3))) then (Z, 0, 15) else (zlet (zf_53 Z 0 a2) (fun v20 => (if 0 < v20 then (zlet (zdd Z 20 a1 a2 0 0 0 0) (fun Z22 => (zlet2 (zf_50 Z22 0 a1 a2) (fun Z23 v24 => (Z23, v24, 0))))) else (zlet (zf_40 Z 0) (fun v25 => (if (Z 11 0 0 14) ≤ v25 then (Z, 0, 15) else (zlet (zdd Z 20 a1 a2 0 0 0 0) (fun Z28 => (zlet2 (zf_50 Z28 0 a1 a2) (fun Z29 v30 => (Z29, v30, 0))))))))))))))) else (if (Z 11 0 0 2) ≤ (Z 44 0 (Z 47 0 a1 0) 12) then (if (Z 50 0 a2 2) ≠ 0 then (Z, 0, 15) else (zlet (zf_43 Z 0 a2) (fun v35 => (if (Z 50 0 a2 0) < (w3 (v35 + (Z 47 0 a1 3))) then (Z, 0, 15) else (zlet (zf_53 Z 0 a2) (fun v40 => (if 0 < v40 then (zlet (zdd Z 20 a1 a2 0 0 0 0) (fun Z42 => (zlet2 (zf_50 Z42 0 a1 a2) (fun Z43 v44 => (Z43, v44, 0))))) else (zlet (zf_40 Z 0) (fun v45 => (if (Z 11 0 0 14) ≤ v45 then (Z, 0, 15) else (zlet (zdd Z 20 a1 a2 0 0 0 0) (fun Z48 => (zlet2 (zf_50 Z48 0 a1 a2) (fun Z49 v50 => (Z49, v50, 0))))))))))))))) else (if (Z 43 0 (Z 44 0 (Z 47 0 a1 0) 12) 10) ≤ (Z 11 0 0 13) then (if (Z 50 0 a2 2) ≠ 0 then (Z, 0, 15) else (zlet (zf_43 Z 0 a2) (fun v56 => (if (Z 50 0 a2 0) < (w3 (v56 + (Z 47 0 a1 3))) then (Z, 0, 15) else (zlet (zf_53 Z 0 a2) (fun v61 => (if 0 < v61 then (zlet (zdd Z 20 a1 a2 0 0 0 0) (fun Z63 => (zlet2 (zf_50 Z63 0 a1 a2) (fun Z64 v65 => (Z64, v65, 0))))) else (zlet (zf_40 Z 0) (fun v66 => (if (Z 11 0 0 14) ≤ v66 then (Z, 0, 15) else (zlet (zdd Z 20 a1 a2 0 0 0 0) (fun Z69 => (zlet2 (zf_50 Z69 0 a1 a2) (fun Z70 v71 => (Z70, v71, 0))))))))))))))) else (Z, 0, 15))))) else (Z, 0, 24)))))
theorem sx_215 {M : Nat} {Z : qz_Z} {ν : qz_N} (hZ : zH ((none, M) : zSM) Z) (hM : ((none, M) : zSM).2 + 2 ≤ 1000000000) {a1 : Int} (ga1 : -2147483648 ≤ a1 ∧ a1 ≤ 2147483647) {a2 : Int} (ga2 : -2147483648 ≤ a2 ∧ a2 ≤ 2147483647) : ∃ (Z1 : qz_Z) (ν1 : qz_N) (v E : Int), (Z1, v, E) = zx_215 Z a1 a2 ∧ qf_215 [.inr (.inr (some (0, 0, 0))), .inl (i3 a1), .inl (i3 a2)] (zm Z ν) = some (zm Z1 ν1, zoX v E) ∧ (fun Z1 ν1 => zH (zb ((none, M) : zSM) 2) Z1 ∧ zC [3, 12, 13, 14, 40, 41, 42, 43, 44, 45, 46, 47, 48, 49, 50, 51, 52, 53, 54, 61, 68, 1099, 1100, 1101, 1102, 1103, 1104, 1105, 1106, 1107, 1108, 1109, 1110, 1111, 1112, 1113, 1114, 1115, 1116] Z Z1 ∧ zU [0, 2, 3, 4, 5, 6, 7, 8, 9] Z Z1 ∧ zG 1 6 ν ν1) Z1 ν1 := by
  obtain ⟨P, hP⟩ := zx (zx_215 Z a1 a2)
  refine zc_G (Q := fun Z1 ν1 => zH (zb ((none, M) : zSM) 2) Z1 ∧ zC [3, 12, 13, 14, 40, 41, 42, 43, 44, 45, 46, 47, 48, 49, 50, 51, 52, 53, 54, 61, 68, 1099, 1100, 1101, 1102, 1103, 1104, 1105, 1106, 1107, 1108, 1109, 1110, 1111, 1112, 1113, 1114, 1115, 1116] Z Z1 ∧ zU [0, 2, 3, 4, 5, 6, 7, 8, 9] Z Z1 ∧ zG 1 6 ν ν1) hP (fw_215 (i3 a1) (i3 a2) _ _ ?_)
  replace hP : zE P (zx_215 Z a1 a2) := hP
  unfold zx_215 at hP
  refine fw_49 _ _ _ _ _ ?_
  refine wz_br (i3L (rfl : i3 a1 = i3 a1) (show (0 : Int32) = i3 0 from rfl) (by omega) (by omega) (by omega) (by omega)) (fun h1 => ?_) (fun h1 => ?_)
  · replace hP := zE_p hP h1
    refine wz_i0 (Eq.trans (i3NE (show (1 : Int32) = i3 1 from rfl) (show (1 : Int32) = i3 1 from rfl) (by omega) (by omega) (by omega) (by omega)) (decide_eq_false (by omega))) ?_
    exact zlGe (E := 23) hP ⟨(zbw (a := 0) (c := 2) hZ (Nat.le_of_ble_eq_true rfl)), zC_r, zU_r, zG_w (zG_k rfl) (Nat.le_of_ble_eq_true rfl) (Nat.le_of_ble_eq_true rfl)⟩
  · replace hP := zE_n hP h1
    have r2 := zH_k hZ 11 0 0 6 (lo := 0) (hi := 60) (by decide) rfl
    refine wz_br (i3Le (zm_rd (Z := Z) (ν := ν) (k := 11) (show ((0 : Nat) : Int) = 0 from rfl) (show ((0 : Nat) : Int) = 0 from rfl) (show ((6 : Nat) : Int) = 6 from rfl)) (rfl : i3 a1 = i3 a1) (by omega) (by omega) (by omega) (by omega)) (fun h3 => ?_) (fun h3 => ?_)
    · replace hP := zE_p hP h3
      refine wz_i0 (Eq.trans (i3NE (show (1 : Int32) = i3 1 from rfl) (show (1 : Int32) = i3 1 from rfl) (by omega) (by omega) (by omega) (by omega)) (decide_eq_false (by omega))) ?_
      exact zlGe (E := 23) hP ⟨(zbw (a := 0) (c := 2) hZ (Nat.le_of_ble_eq_true rfl)), zC_r, zU_r, zG_w (zG_k rfl) (Nat.le_of_ble_eq_true rfl) (Nat.le_of_ble_eq_true rfl)⟩
    · replace hP := zE_n hP h3
      refine wz_br (i3L (rfl : i3 a2 = i3 a2) (show (0 : Int32) = i3 0 from rfl) (by omega) (by omega) (by omega) (by omega)) (fun h4 => ?_) (fun h4 => ?_)
      · replace hP := zE_p hP h4
        refine wz_i0 (Eq.trans (i3NE (show (1 : Int32) = i3 1 from rfl) (show (1 : Int32) = i3 1 from rfl) (by omega) (by omega) (by omega) (by omega)) (decide_eq_false (by omega))) ?_
        exact zlGe (E := 23) hP ⟨(zbw (a := 0) (c := 2) hZ (Nat.le_of_ble_eq_true rfl)), zC_r, zU_r, zG_w (zG_k rfl) (Nat.le_of_ble_eq_true rfl) (Nat.le_of_ble_eq_true rfl)⟩
      · replace hP := zE_n hP h4
        have r5 := zH_k hZ 11 0 0 8 (lo := 0) (hi := 4) (by decide) rfl
        refine wz_br (i3L (rfl : i3 a2 = i3 a2) (zm_rd (Z := Z) (ν := ν) (k := 11) (show ((0 : Nat) : Int) = 0 from rfl) (show ((0 : Nat) : Int) = 0 from rfl) (show ((8 : Nat) : Int) = 8 from rfl)) (by omega) (by omega) (by omega) (by omega)) (fun h6 => ?_) (fun h6 => ?_)
        · replace hP := zE_p hP h6
          refine wz_i0 (i3O (n := 60) (rfl : i3 a1 = i3 a1) (by omega) (by omega) (by omega)) ?_
          refine wz_i0 (i3O (n := 4) (rfl : i3 a2 = i3 a2) (by omega) (by omega) (by omega)) ?_
          have r7 := zH_k hZ 47 0 a1 9 (lo := 0) (hi := 3) (by decide) rfl
          have r8 := zH_lt hZ 0 a1
          refine wz_br (i3NE (zm_rd (Z := Z) (ν := ν) (k := 47) (show ((0 : Nat) : Int) = 0 from rfl) (i3I (y := a1) (rfl : i3 a1 = i3 a1) (by omega) (by omega) (by omega)) (show ((9 : Nat) : Int) = 9 from rfl)) (show (0 : Int32) = i3 0 from rfl) (by omega) (by omega) (by omega) (by omega)) (fun h9 => ?_) (fun h9 => ?_)
          · replace hP := zE_p hP h9
            refine wz_i1 (Eq.trans (i3NE (show (3 : Int32) = i3 3 from rfl) (show (1 : Int32) = i3 1 from rfl) (by omega) (by omega) (by omega) (by omega)) (decide_eq_true (by omega))) ?_
            refine wz_i1 (Eq.trans (i3NE (show (3 : Int32) = i3 3 from rfl) (show (2 : Int32) = i3 2 from rfl) (by omega) (by omega) (by omega) (by omega)) (decide_eq_true (by omega))) ?_
            refine wz_i0 (Eq.trans (i3NE (show (3 : Int32) = i3 3 from rfl) (show (3 : Int32) = i3 3 from rfl) (by omega) (by omega) (by omega) (by omega)) (decide_eq_false (by omega))) ?_
            exact zlGe (E := 14) hP ⟨(zbw (a := 0) (c := 2) hZ (Nat.le_of_ble_eq_true rfl)), zC_r, zU_r, zG_w (zG_k rfl) (Nat.le_of_ble_eq_true rfl) (Nat.le_of_ble_eq_true rfl)⟩
          · replace hP := zE_n hP h9
            have r10 := zH_k hZ 47 0 a1 0 (lo := 0) (hi := 47) (by decide) rfl
            refine wz_i0 (i3O (n := 48) (zm_rd (Z := Z) (ν := ν) (k := 47) (show ((0 : Nat) : Int) = 0 from rfl) (i3I (y := a1) (rfl : i3 a1 = i3 a1) (by omega) (by omega) (by omega)) (show ((0 : Nat) : Int) = 0 from rfl)) (by omega) (by omega) (by omega)) ?_
            have r11 := zH_k hZ 44 0 (Z 47 0 a1 0) 12 (lo := -1) (hi := 6) (by decide) rfl
            refine wz_br (i3L (zm_rd (Z := Z) (ν := ν) (k := 44) (show ((0 : Nat) : Int) = 0 from rfl) (i3I (y := (Z 47 0 a1 0)) (zm_rd (Z := Z) (ν := ν) (k := 47) (show ((0 : Nat) : Int) = 0 from rfl) (i3I (y := a1) (rfl : i3 a1 = i3 a1) (by omega) (by omega) (by omega)) (show ((0 : Nat) : Int) = 0 from rfl)) (by omega) (by omega) (by omega)) (show ((12 : Nat) : Int) = 12 from rfl)) (show (0 : Int32) = i3 0 from rfl) (by omega) (by omega) (by omega) (by omega)) (fun h12 => ?_) (fun h12 => ?_)
            · replace hP := zE_p hP h12
              have r13 := zH_k hZ 50 0 a2 2 (lo := 0) (hi := 1) (by decide) rfl
              refine wz_br (i3NE (zm_rd (Z := Z) (ν := ν) (k := 50) (show ((0 : Nat) : Int) = 0 from rfl) (i3I (y := a2) (rfl : i3 a2 = i3 a2) (by omega) (by omega) (by omega)) (show ((2 : Nat) : Int) = 2 from rfl)) (show (0 : Int32) = i3 0 from rfl) (by omega) (by omega) (by omega) (by omega)) (fun h14 => ?_) (fun h14 => ?_)
              · replace hP := zE_p hP h14
                refine wz_i1 (Eq.trans (i3NE (show (3 : Int32) = i3 3 from rfl) (show (1 : Int32) = i3 1 from rfl) (by omega) (by omega) (by omega) (by omega)) (decide_eq_true (by omega))) ?_
                refine wz_i1 (Eq.trans (i3NE (show (3 : Int32) = i3 3 from rfl) (show (2 : Int32) = i3 2 from rfl) (by omega) (by omega) (by omega) (by omega)) (decide_eq_true (by omega))) ?_
                refine wz_i0 (Eq.trans (i3NE (show (3 : Int32) = i3 3 from rfl) (show (3 : Int32) = i3 3 from rfl) (by omega) (by omega) (by omega) (by omega)) (decide_eq_false (by omega))) ?_
                exact zlGe (E := 14) hP ⟨(zbw (a := 0) (c := 2) hZ (Nat.le_of_ble_eq_true rfl)), zC_r, zU_r, zG_w (zG_k rfl) (Nat.le_of_ble_eq_true rfl) (Nat.le_of_ble_eq_true rfl)⟩
              · replace hP := zE_n hP h14
                obtain ⟨v15, hv15, c9, lv15, uv15⟩ := sp_43 (ν := ν) hZ 0 (a1 := a2) (by omega) (zbh (c := 0) (k := 0) hM (Nat.le_of_ble_eq_true rfl))
                replace hP := zl_e hP hv15
                refine wz_cI_of (zas (zcons rfl (zcons (zvi (rfl : i3 a2 = i3 a2)) rfl)) c9) ?_
                clear c9
                have r16 := zH_k hZ 50 0 a2 0 (lo := 0) (hi := 99) (by decide) rfl
                have r17 := zH_k hZ 47 0 a1 3 (lo := 0) (hi := 40) (by decide) rfl
                have r18 := w3_r (v15 + (Z 47 0 a1 3))
                refine wz_br (i3L (zm_rd (Z := Z) (ν := ν) (k := 50) (show ((0 : Nat) : Int) = 0 from rfl) (i3I (y := a2) (rfl : i3 a2 = i3 a2) (by omega) (by omega) (by omega)) (show ((0 : Nat) : Int) = 0 from rfl)) (i3W (i3A (rfl : i3 v15 = i3 v15) (zm_rd (Z := Z) (ν := ν) (k := 47) (show ((0 : Nat) : Int) = 0 from rfl) (i3I (y := a1) (rfl : i3 a1 = i3 a1) (by omega) (by omega) (by omega)) (show ((3 : Nat) : Int) = 3 from rfl)))) (by omega) (by omega) (by omega) (by omega)) (fun h19 => ?_) (fun h19 => ?_)
                · replace hP := zE_p hP h19
                  refine wz_i1 (Eq.trans (i3NE (show (3 : Int32) = i3 3 from rfl) (show (1 : Int32) = i3 1 from rfl) (by omega) (by omega) (by omega) (by omega)) (decide_eq_true (by omega))) ?_
                  refine wz_i1 (Eq.trans (i3NE (show (3 : Int32) = i3 3 from rfl) (show (2 : Int32) = i3 2 from rfl) (by omega) (by omega) (by omega) (by omega)) (decide_eq_true (by omega))) ?_
                  refine wz_i0 (Eq.trans (i3NE (show (3 : Int32) = i3 3 from rfl) (show (3 : Int32) = i3 3 from rfl) (by omega) (by omega) (by omega) (by omega)) (decide_eq_false (by omega))) ?_
                  exact zlGe (E := 14) hP ⟨(zbw (a := 0) (c := 2) hZ (Nat.le_of_ble_eq_true rfl)), zC_r, zU_r, zG_w (zG_k rfl) (Nat.le_of_ble_eq_true rfl) (Nat.le_of_ble_eq_true rfl)⟩
                · replace hP := zE_n hP h19
                  obtain ⟨v20, hv20, c9, lv20, uv20⟩ := sp_53 (ν := ν) hZ 0 (a1 := a2) (by omega) (zbh (c := 0) (k := 0) hM (Nat.le_of_ble_eq_true rfl))
                  replace hP := zl_e hP hv20
                  refine wz_cI_of (zas (zcons rfl (zcons (zvi (rfl : i3 a2 = i3 a2)) rfl)) c9) ?_
                  clear c9
                  refine wz_br (i3L (show (0 : Int32) = i3 0 from rfl) (rfl : i3 v20 = i3 v20) (by omega) (by omega) (by omega) (by omega)) (fun h21 => ?_) (fun h21 => ?_)
                  · replace hP := zE_p hP h21
                    refine wz_i1 (Eq.trans (i3NE (show (0 : Int32) = i3 0 from rfl) (show (1 : Int32) = i3 1 from rfl) (by omega) (by omega) (by omega) (by omega)) (decide_eq_true (by omega))) ?_
                    refine wz_i1 (Eq.trans (i3NE (show (0 : Int32) = i3 0 from rfl) (show (2 : Int32) = i3 2 from rfl) (by omega) (by omega) (by omega) (by omega)) (decide_eq_true (by omega))) ?_
                    refine wz_i1 (Eq.trans (i3NE (show (0 : Int32) = i3 0 from rfl) (show (3 : Int32) = i3 3 from rfl) (by omega) (by omega) (by omega) (by omega)) (decide_eq_true (by omega))) ?_
                    refine dc_J (zcons rfl (zcons (zvi (show (20 : Int32) = i3 20 from rfl)) (zcons (zvi (rfl : i3 a1 = i3 a1)) (zcons (zvi (rfl : i3 a2 = i3 a2)) (zcons (zvi (show (0 : Int32) = i3 0 from rfl)) (zcons (zvi (show (0 : Int32) = i3 0 from rfl)) (zcons (zvi (show (0 : Int32) = i3 0 from rfl)) (zcons (zvi (show (0 : Int32) = i3 0 from rfl)) rfl)))))))) (dg (hZ).1 (by omega) (by omega) (by omega) (by omega) (by omega) (by omega) (by omega) ?_)
                    have hZ22I := zH_dd hZ (a1 := 20) (a2 := a1) (a3 := a2) (a4 := 0) (a5 := 0) (a6 := 0) (a7 := 0) (by omega) (by omega) (by omega) (by omega) (by omega) (by omega) (by omega)
                    have kZ22 : zC [3, 12, 13, 14, 40, 41, 42, 43, 44, 45, 46, 47, 48, 49, 50, 51, 52, 53, 54, 61, 68, 1099, 1100, 1101, 1102, 1103, 1104, 1105, 1106, 1107, 1108, 1109, 1110, 1111, 1112, 1113, 1114, 1115, 1116] Z (zdd Z 20 a1 a2 0 0 0 0) := zC_k zdd_K (by decide) (by decide)
                    have hZ22A : (zdd Z 20 a1 a2 0 0 0 0) 68 0 0 0 = 20 ∧ (zdd Z 20 a1 a2 0 0 0 0) 68 0 0 1 = a1 ∧ (zdd Z 20 a1 a2 0 0 0 0) 68 0 0 2 = a2 ∧ (zdd Z 20 a1 a2 0 0 0 0) 68 0 0 3 = 0 ∧ (zdd Z 20 a1 a2 0 0 0 0) 68 0 0 4 = 0 ∧ (zdd Z 20 a1 a2 0 0 0 0) 68 0 0 5 = 0 ∧ (zdd Z 20 a1 a2 0 0 0 0) 68 0 0 6 = 0 := ⟨zdd_68, zdd_68, zdd_68, zdd_68, zdd_68, zdd_68, zdd_68⟩
                    obtain ⟨Z22, hZ22⟩ := zx (zdd Z 20 a1 a2 0 0 0 0)
                    have dZ22 : ∀ {k : Nat} {i j : Int}, zhall k = true → ¬ (k = 11 ∧ (j = 15 ∨ j = 16)) → Z22 k 0 i j = Z k 0 i j := fun hk hj => by rw [hZ22]; exact zdd_h (hZ).1 hk hj
                    have jZ22 : zU [0, 2, 3, 4, 5, 6, 7, 8, 9] Z (zdd Z 20 a1 a2 0 0 0 0) := zU_dd (hZ).1
                    rw [← hZ22] at hZ22I kZ22 jZ22 hZ22A ⊢
                    have hZ22U : zU [0, 2, 3, 4, 5, 6, 7, 8, 9] Z Z22 := zU_t zU_r jZ22 (zU_b1 (List.Mem.head _) (zU_b1 (List.Mem.tail _ (List.Mem.head _)) (zU_b1 (List.Mem.tail _ (List.Mem.tail _ (List.Mem.head _))) (zU_b1 (List.Mem.tail _ (List.Mem.tail _ (List.Mem.tail _ (List.Mem.head _)))) (zU_b1 (List.Mem.tail _ (List.Mem.tail _ (List.Mem.tail _ (List.Mem.tail _ (List.Mem.head _))))) (zU_b1 (List.Mem.tail _ (List.Mem.tail _ (List.Mem.tail _ (List.Mem.tail _ (List.Mem.tail _ (List.Mem.head _)))))) (zU_b1 (List.Mem.tail _ (List.Mem.tail _ (List.Mem.tail _ (List.Mem.tail _ (List.Mem.tail _ (List.Mem.tail _ (List.Mem.head _))))))) (zU_b1 (List.Mem.tail _ (List.Mem.tail _ (List.Mem.tail _ (List.Mem.tail _ (List.Mem.tail _ (List.Mem.tail _ (List.Mem.tail _ (List.Mem.head _)))))))) (zU_b1 (List.Mem.tail _ (List.Mem.tail _ (List.Mem.tail _ (List.Mem.tail _ (List.Mem.tail _ (List.Mem.tail _ (List.Mem.tail _ (List.Mem.tail _ (List.Mem.head _))))))))) zU_b0)))))))))
                    replace hP := zl_e hP hZ22
                    have hZ22K : zC [3, 12, 13, 14, 40, 41, 42, 43, 44, 45, 46, 47, 48, 49, 50, 51, 52, 53, 54, 61, 68, 1099, 1100, 1101, 1102, 1103, 1104, 1105, 1106, 1107, 1108, 1109, 1110, 1111, 1112, 1113, 1114, 1115, 1116] Z Z22 := zC_t zC_r kZ22 (by decide)
                    clear kZ22 hZ22
                    refine fw_121 _ _ _ _ ?_
                    refine wz_i1 rfl ?_
                    refine wz_i0 (i3O (n := 7) (show (0 : Int32) = i3 0 from rfl) (by omega) (by omega) (by omega)) ?_
                    refine wz_i0 (Eq.trans (i3To (Eq.trans (zm_rd (Z := Z22) (ν := ν) (k := 68) (show ((0 : Nat) : Int) = 0 from rfl) (show ((0 : Nat) : Int) = 0 from rfl) (show ((0 : Nat) : Int) = 0 from rfl)) (congrArg i3 ((hZ22A.1)))) (by omega) (by omega)) (decide_eq_false (by omega))) ?_
                    refine wz_i0 (Eq.trans (i3T (Eq.trans (zm_rd (Z := Z22) (ν := ν) (k := 68) (show ((0 : Nat) : Int) = 0 from rfl) (show ((0 : Nat) : Int) = 0 from rfl) (show ((0 : Nat) : Int) = 0 from rfl)) (congrArg i3 ((hZ22A.1)))) (by omega) (by omega)) (decide_eq_false (by omega))) ?_
                    refine wz_i0 (Eq.trans (i3T (Eq.trans (zm_rd (Z := Z22) (ν := ν) (k := 68) (show ((0 : Nat) : Int) = 0 from rfl) (show ((0 : Nat) : Int) = 0 from rfl) (show ((0 : Nat) : Int) = 0 from rfl)) (congrArg i3 ((hZ22A.1)))) (by omega) (by omega)) (decide_eq_false (by omega))) ?_
                    refine wz_i0 (Eq.trans (i3T (Eq.trans (zm_rd (Z := Z22) (ν := ν) (k := 68) (show ((0 : Nat) : Int) = 0 from rfl) (show ((0 : Nat) : Int) = 0 from rfl) (show ((0 : Nat) : Int) = 0 from rfl)) (congrArg i3 ((hZ22A.1)))) (by omega) (by omega)) (decide_eq_false (by omega))) ?_
                    refine wz_i0 (Eq.trans (i3T (Eq.trans (zm_rd (Z := Z22) (ν := ν) (k := 68) (show ((0 : Nat) : Int) = 0 from rfl) (show ((0 : Nat) : Int) = 0 from rfl) (show ((0 : Nat) : Int) = 0 from rfl)) (congrArg i3 ((hZ22A.1)))) (by omega) (by omega)) (decide_eq_false (by omega))) ?_
                    refine wz_i0 (Eq.trans (i3T (Eq.trans (zm_rd (Z := Z22) (ν := ν) (k := 68) (show ((0 : Nat) : Int) = 0 from rfl) (show ((0 : Nat) : Int) = 0 from rfl) (show ((0 : Nat) : Int) = 0 from rfl)) (congrArg i3 ((hZ22A.1)))) (by omega) (by omega)) (decide_eq_false (by omega))) ?_
                    refine wz_i0 (Eq.trans (i3T (Eq.trans (zm_rd (Z := Z22) (ν := ν) (k := 68) (show ((0 : Nat) : Int) = 0 from rfl) (show ((0 : Nat) : Int) = 0 from rfl) (show ((0 : Nat) : Int) = 0 from rfl)) (congrArg i3 ((hZ22A.1)))) (by omega) (by omega)) (decide_eq_false (by omega))) ?_
                    refine wz_i0 (Eq.trans (i3T (Eq.trans (zm_rd (Z := Z22) (ν := ν) (k := 68) (show ((0 : Nat) : Int) = 0 from rfl) (show ((0 : Nat) : Int) = 0 from rfl) (show ((0 : Nat) : Int) = 0 from rfl)) (congrArg i3 ((hZ22A.1)))) (by omega) (by omega)) (decide_eq_false (by omega))) ?_
                    refine wz_i0 (Eq.trans (i3T (Eq.trans (zm_rd (Z := Z22) (ν := ν) (k := 68) (show ((0 : Nat) : Int) = 0 from rfl) (show ((0 : Nat) : Int) = 0 from rfl) (show ((0 : Nat) : Int) = 0 from rfl)) (congrArg i3 ((hZ22A.1)))) (by omega) (by omega)) (decide_eq_false (by omega))) ?_
                    refine wz_i0 (Eq.trans (i3T (Eq.trans (zm_rd (Z := Z22) (ν := ν) (k := 68) (show ((0 : Nat) : Int) = 0 from rfl) (show ((0 : Nat) : Int) = 0 from rfl) (show ((0 : Nat) : Int) = 0 from rfl)) (congrArg i3 ((hZ22A.1)))) (by omega) (by omega)) (decide_eq_false (by omega))) ?_
                    refine wz_i0 (Eq.trans (i3T (Eq.trans (zm_rd (Z := Z22) (ν := ν) (k := 68) (show ((0 : Nat) : Int) = 0 from rfl) (show ((0 : Nat) : Int) = 0 from rfl) (show ((0 : Nat) : Int) = 0 from rfl)) (congrArg i3 ((hZ22A.1)))) (by omega) (by omega)) (decide_eq_false (by omega))) ?_
                    refine wz_i0 (Eq.trans (i3T (Eq.trans (zm_rd (Z := Z22) (ν := ν) (k := 68) (show ((0 : Nat) : Int) = 0 from rfl) (show ((0 : Nat) : Int) = 0 from rfl) (show ((0 : Nat) : Int) = 0 from rfl)) (congrArg i3 ((hZ22A.1)))) (by omega) (by omega)) (decide_eq_false (by omega))) ?_
                    refine wz_i0 (Eq.trans (i3T (Eq.trans (zm_rd (Z := Z22) (ν := ν) (k := 68) (show ((0 : Nat) : Int) = 0 from rfl) (show ((0 : Nat) : Int) = 0 from rfl) (show ((0 : Nat) : Int) = 0 from rfl)) (congrArg i3 ((hZ22A.1)))) (by omega) (by omega)) (decide_eq_false (by omega))) ?_
                    refine wz_i0 (Eq.trans (i3T (Eq.trans (zm_rd (Z := Z22) (ν := ν) (k := 68) (show ((0 : Nat) : Int) = 0 from rfl) (show ((0 : Nat) : Int) = 0 from rfl) (show ((0 : Nat) : Int) = 0 from rfl)) (congrArg i3 ((hZ22A.1)))) (by omega) (by omega)) (decide_eq_false (by omega))) ?_
                    refine wz_i0 (Eq.trans (i3T (Eq.trans (zm_rd (Z := Z22) (ν := ν) (k := 68) (show ((0 : Nat) : Int) = 0 from rfl) (show ((0 : Nat) : Int) = 0 from rfl) (show ((0 : Nat) : Int) = 0 from rfl)) (congrArg i3 ((hZ22A.1)))) (by omega) (by omega)) (decide_eq_false (by omega))) ?_
                    refine wz_i0 (Eq.trans (i3T (Eq.trans (zm_rd (Z := Z22) (ν := ν) (k := 68) (show ((0 : Nat) : Int) = 0 from rfl) (show ((0 : Nat) : Int) = 0 from rfl) (show ((0 : Nat) : Int) = 0 from rfl)) (congrArg i3 ((hZ22A.1)))) (by omega) (by omega)) (decide_eq_false (by omega))) ?_
                    refine wz_i0 (Eq.trans (i3T (Eq.trans (zm_rd (Z := Z22) (ν := ν) (k := 68) (show ((0 : Nat) : Int) = 0 from rfl) (show ((0 : Nat) : Int) = 0 from rfl) (show ((0 : Nat) : Int) = 0 from rfl)) (congrArg i3 ((hZ22A.1)))) (by omega) (by omega)) (decide_eq_false (by omega))) ?_
                    refine wz_i0 (Eq.trans (i3T (Eq.trans (zm_rd (Z := Z22) (ν := ν) (k := 68) (show ((0 : Nat) : Int) = 0 from rfl) (show ((0 : Nat) : Int) = 0 from rfl) (show ((0 : Nat) : Int) = 0 from rfl)) (congrArg i3 ((hZ22A.1)))) (by omega) (by omega)) (decide_eq_false (by omega))) ?_
                    refine wz_i0 (Eq.trans (i3T (Eq.trans (zm_rd (Z := Z22) (ν := ν) (k := 68) (show ((0 : Nat) : Int) = 0 from rfl) (show ((0 : Nat) : Int) = 0 from rfl) (show ((0 : Nat) : Int) = 0 from rfl)) (congrArg i3 ((hZ22A.1)))) (by omega) (by omega)) (decide_eq_false (by omega))) ?_
                    refine wz_i0 (Eq.trans (i3T (Eq.trans (zm_rd (Z := Z22) (ν := ν) (k := 68) (show ((0 : Nat) : Int) = 0 from rfl) (show ((0 : Nat) : Int) = 0 from rfl) (show ((0 : Nat) : Int) = 0 from rfl)) (congrArg i3 ((hZ22A.1)))) (by omega) (by omega)) (decide_eq_false (by omega))) ?_
                    refine wz_i0 (Eq.trans (i3T (Eq.trans (zm_rd (Z := Z22) (ν := ν) (k := 68) (show ((0 : Nat) : Int) = 0 from rfl) (show ((0 : Nat) : Int) = 0 from rfl) (show ((0 : Nat) : Int) = 0 from rfl)) (congrArg i3 ((hZ22A.1)))) (by omega) (by omega)) (decide_eq_false (by omega))) ?_
                    refine wz_i1 (Eq.trans (i3T (Eq.trans (zm_rd (Z := Z22) (ν := ν) (k := 68) (show ((0 : Nat) : Int) = 0 from rfl) (show ((0 : Nat) : Int) = 0 from rfl) (show ((0 : Nat) : Int) = 0 from rfl)) (congrArg i3 ((hZ22A.1)))) (by omega) (by omega)) (decide_eq_true (by omega))) ?_
                    refine wz_i1 rfl ?_
                    refine wz_i0 (i3O (n := 7) (show (1 : Int32) = i3 1 from rfl) (by omega) (by omega) (by omega)) ?_
                    refine wz_i1 rfl ?_
                    refine wz_i0 (i3O (n := 7) (show (2 : Int32) = i3 2 from rfl) (by omega) (by omega) (by omega)) ?_
                    obtain ⟨Z23, v24, hv24, c9, hZ23I, kZ23, jZ23, lv24, uv24⟩ := sp_50 (ν := ν) hZ22I 0 (a1 := a1) (by omega) (a2 := a2) (by omega) (zbh (c := 0) (k := 2) hM (Nat.le_of_ble_eq_true rfl))
                    have hZ23U : zU [0, 2, 3, 4, 5, 6, 7, 8, 9] Z Z23 := zU_t hZ22U jZ23 (zU_b1 (List.Mem.head _) zU_b0)
                    have hZ23K : zC [3, 12, 13, 14, 40, 41, 42, 43, 44, 45, 46, 47, 48, 49, 50, 51, 52, 53, 54, 61, 68, 1099, 1100, 1101, 1102, 1103, 1104, 1105, 1106, 1107, 1108, 1109, 1110, 1111, 1112, 1113, 1114, 1115, 1116] Z Z23 := zC_t hZ22K kZ23 (by decide)
                    replace hP := zl_e2 hP hv24
                    refine wz_cI_of (zas (zcons rfl (zcons (zvi (Eq.trans (zm_rd (Z := Z22) (ν := ν) (k := 68) (show ((0 : Nat) : Int) = 0 from rfl) (show ((0 : Nat) : Int) = 0 from rfl) (show ((1 : Nat) : Int) = 1 from rfl)) (congrArg i3 ((hZ22A.2.1))))) (zcons (zvi (Eq.trans (zm_rd (Z := Z22) (ν := ν) (k := 68) (show ((0 : Nat) : Int) = 0 from rfl) (show ((0 : Nat) : Int) = 0 from rfl) (show ((2 : Nat) : Int) = 2 from rfl)) (congrArg i3 ((hZ22A.2.2.1))))) rfl))) c9) ?_
                    clear c9 hv24
                    exact zlG hP (rfl : i3 v24 = i3 v24) ⟨hZ23I, hZ23K, hZ23U, zG_w zG_r (Nat.le_of_ble_eq_true rfl) (Nat.le_of_ble_eq_true rfl)⟩
                  · replace hP := zE_n hP h21
                    obtain ⟨v25, hv25, c9, lv25, uv25⟩ := sp_40 (ν := ν) hZ 0 (zbh (c := 0) (k := 0) hM (Nat.le_of_ble_eq_true rfl))
                    replace hP := zl_e hP hv25
                    refine wz_cI_of (zas (zcons rfl rfl) c9) ?_
                    clear c9
                    have r26 := zH_k hZ 11 0 0 14 (lo := 0) (hi := 4) (by decide) rfl
                    refine wz_br (i3Le (zm_rd (Z := Z) (ν := ν) (k := 11) (show ((0 : Nat) : Int) = 0 from rfl) (show ((0 : Nat) : Int) = 0 from rfl) (show ((14 : Nat) : Int) = 14 from rfl)) (rfl : i3 v25 = i3 v25) (by omega) (by omega) (by omega) (by omega)) (fun h27 => ?_) (fun h27 => ?_)
                    · replace hP := zE_p hP h27
                      refine wz_i1 (Eq.trans (i3NE (show (3 : Int32) = i3 3 from rfl) (show (1 : Int32) = i3 1 from rfl) (by omega) (by omega) (by omega) (by omega)) (decide_eq_true (by omega))) ?_
                      refine wz_i1 (Eq.trans (i3NE (show (3 : Int32) = i3 3 from rfl) (show (2 : Int32) = i3 2 from rfl) (by omega) (by omega) (by omega) (by omega)) (decide_eq_true (by omega))) ?_
                      refine wz_i0 (Eq.trans (i3NE (show (3 : Int32) = i3 3 from rfl) (show (3 : Int32) = i3 3 from rfl) (by omega) (by omega) (by omega) (by omega)) (decide_eq_false (by omega))) ?_
                      exact zlGe (E := 14) hP ⟨(zbw (a := 0) (c := 2) hZ (Nat.le_of_ble_eq_true rfl)), zC_r, zU_r, zG_w (zG_k rfl) (Nat.le_of_ble_eq_true rfl) (Nat.le_of_ble_eq_true rfl)⟩
                    · replace hP := zE_n hP h27
                      refine wz_i1 (Eq.trans (i3NE (show (0 : Int32) = i3 0 from rfl) (show (1 : Int32) = i3 1 from rfl) (by omega) (by omega) (by omega) (by omega)) (decide_eq_true (by omega))) ?_
                      refine wz_i1 (Eq.trans (i3NE (show (0 : Int32) = i3 0 from rfl) (show (2 : Int32) = i3 2 from rfl) (by omega) (by omega) (by omega) (by omega)) (decide_eq_true (by omega))) ?_
                      refine wz_i1 (Eq.trans (i3NE (show (0 : Int32) = i3 0 from rfl) (show (3 : Int32) = i3 3 from rfl) (by omega) (by omega) (by omega) (by omega)) (decide_eq_true (by omega))) ?_
                      refine dc_J (zcons rfl (zcons (zvi (show (20 : Int32) = i3 20 from rfl)) (zcons (zvi (rfl : i3 a1 = i3 a1)) (zcons (zvi (rfl : i3 a2 = i3 a2)) (zcons (zvi (show (0 : Int32) = i3 0 from rfl)) (zcons (zvi (show (0 : Int32) = i3 0 from rfl)) (zcons (zvi (show (0 : Int32) = i3 0 from rfl)) (zcons (zvi (show (0 : Int32) = i3 0 from rfl)) rfl)))))))) (dg (hZ).1 (by omega) (by omega) (by omega) (by omega) (by omega) (by omega) (by omega) ?_)
                      have hZ28I := zH_dd hZ (a1 := 20) (a2 := a1) (a3 := a2) (a4 := 0) (a5 := 0) (a6 := 0) (a7 := 0) (by omega) (by omega) (by omega) (by omega) (by omega) (by omega) (by omega)
                      have kZ28 : zC [3, 12, 13, 14, 40, 41, 42, 43, 44, 45, 46, 47, 48, 49, 50, 51, 52, 53, 54, 61, 68, 1099, 1100, 1101, 1102, 1103, 1104, 1105, 1106, 1107, 1108, 1109, 1110, 1111, 1112, 1113, 1114, 1115, 1116] Z (zdd Z 20 a1 a2 0 0 0 0) := zC_k zdd_K (by decide) (by decide)
                      have hZ28A : (zdd Z 20 a1 a2 0 0 0 0) 68 0 0 0 = 20 ∧ (zdd Z 20 a1 a2 0 0 0 0) 68 0 0 1 = a1 ∧ (zdd Z 20 a1 a2 0 0 0 0) 68 0 0 2 = a2 ∧ (zdd Z 20 a1 a2 0 0 0 0) 68 0 0 3 = 0 ∧ (zdd Z 20 a1 a2 0 0 0 0) 68 0 0 4 = 0 ∧ (zdd Z 20 a1 a2 0 0 0 0) 68 0 0 5 = 0 ∧ (zdd Z 20 a1 a2 0 0 0 0) 68 0 0 6 = 0 := ⟨zdd_68, zdd_68, zdd_68, zdd_68, zdd_68, zdd_68, zdd_68⟩
                      obtain ⟨Z28, hZ28⟩ := zx (zdd Z 20 a1 a2 0 0 0 0)
                      have dZ28 : ∀ {k : Nat} {i j : Int}, zhall k = true → ¬ (k = 11 ∧ (j = 15 ∨ j = 16)) → Z28 k 0 i j = Z k 0 i j := fun hk hj => by rw [hZ28]; exact zdd_h (hZ).1 hk hj
                      have jZ28 : zU [0, 2, 3, 4, 5, 6, 7, 8, 9] Z (zdd Z 20 a1 a2 0 0 0 0) := zU_dd (hZ).1
                      rw [← hZ28] at hZ28I kZ28 jZ28 hZ28A ⊢
                      have hZ28U : zU [0, 2, 3, 4, 5, 6, 7, 8, 9] Z Z28 := zU_t zU_r jZ28 (zU_b1 (List.Mem.head _) (zU_b1 (List.Mem.tail _ (List.Mem.head _)) (zU_b1 (List.Mem.tail _ (List.Mem.tail _ (List.Mem.head _))) (zU_b1 (List.Mem.tail _ (List.Mem.tail _ (List.Mem.tail _ (List.Mem.head _)))) (zU_b1 (List.Mem.tail _ (List.Mem.tail _ (List.Mem.tail _ (List.Mem.tail _ (List.Mem.head _))))) (zU_b1 (List.Mem.tail _ (List.Mem.tail _ (List.Mem.tail _ (List.Mem.tail _ (List.Mem.tail _ (List.Mem.head _)))))) (zU_b1 (List.Mem.tail _ (List.Mem.tail _ (List.Mem.tail _ (List.Mem.tail _ (List.Mem.tail _ (List.Mem.tail _ (List.Mem.head _))))))) (zU_b1 (List.Mem.tail _ (List.Mem.tail _ (List.Mem.tail _ (List.Mem.tail _ (List.Mem.tail _ (List.Mem.tail _ (List.Mem.tail _ (List.Mem.head _)))))))) (zU_b1 (List.Mem.tail _ (List.Mem.tail _ (List.Mem.tail _ (List.Mem.tail _ (List.Mem.tail _ (List.Mem.tail _ (List.Mem.tail _ (List.Mem.tail _ (List.Mem.head _))))))))) zU_b0)))))))))
                      replace hP := zl_e hP hZ28
                      have hZ28K : zC [3, 12, 13, 14, 40, 41, 42, 43, 44, 45, 46, 47, 48, 49, 50, 51, 52, 53, 54, 61, 68, 1099, 1100, 1101, 1102, 1103, 1104, 1105, 1106, 1107, 1108, 1109, 1110, 1111, 1112, 1113, 1114, 1115, 1116] Z Z28 := zC_t zC_r kZ28 (by decide)
                      clear kZ28 hZ28
                      refine fw_121 _ _ _ _ ?_
                      refine wz_i1 rfl ?_
                      refine wz_i0 (i3O (n := 7) (show (0 : Int32) = i3 0 from rfl) (by omega) (by omega) (by omega)) ?_
                      refine wz_i0 (Eq.trans (i3To (Eq.trans (zm_rd (Z := Z28) (ν := ν) (k := 68) (show ((0 : Nat) : Int) = 0 from rfl) (show ((0 : Nat) : Int) = 0 from rfl) (show ((0 : Nat) : Int) = 0 from rfl)) (congrArg i3 ((hZ28A.1)))) (by omega) (by omega)) (decide_eq_false (by omega))) ?_
                      refine wz_i0 (Eq.trans (i3T (Eq.trans (zm_rd (Z := Z28) (ν := ν) (k := 68) (show ((0 : Nat) : Int) = 0 from rfl) (show ((0 : Nat) : Int) = 0 from rfl) (show ((0 : Nat) : Int) = 0 from rfl)) (congrArg i3 ((hZ28A.1)))) (by omega) (by omega)) (decide_eq_false (by omega))) ?_
                      refine wz_i0 (Eq.trans (i3T (Eq.trans (zm_rd (Z := Z28) (ν := ν) (k := 68) (show ((0 : Nat) : Int) = 0 from rfl) (show ((0 : Nat) : Int) = 0 from rfl) (show ((0 : Nat) : Int) = 0 from rfl)) (congrArg i3 ((hZ28A.1)))) (by omega) (by omega)) (decide_eq_false (by omega))) ?_
                      refine wz_i0 (Eq.trans (i3T (Eq.trans (zm_rd (Z := Z28) (ν := ν) (k := 68) (show ((0 : Nat) : Int) = 0 from rfl) (show ((0 : Nat) : Int) = 0 from rfl) (show ((0 : Nat) : Int) = 0 from rfl)) (congrArg i3 ((hZ28A.1)))) (by omega) (by omega)) (decide_eq_false (by omega))) ?_
                      refine wz_i0 (Eq.trans (i3T (Eq.trans (zm_rd (Z := Z28) (ν := ν) (k := 68) (show ((0 : Nat) : Int) = 0 from rfl) (show ((0 : Nat) : Int) = 0 from rfl) (show ((0 : Nat) : Int) = 0 from rfl)) (congrArg i3 ((hZ28A.1)))) (by omega) (by omega)) (decide_eq_false (by omega))) ?_
                      refine wz_i0 (Eq.trans (i3T (Eq.trans (zm_rd (Z := Z28) (ν := ν) (k := 68) (show ((0 : Nat) : Int) = 0 from rfl) (show ((0 : Nat) : Int) = 0 from rfl) (show ((0 : Nat) : Int) = 0 from rfl)) (congrArg i3 ((hZ28A.1)))) (by omega) (by omega)) (decide_eq_false (by omega))) ?_
                      refine wz_i0 (Eq.trans (i3T (Eq.trans (zm_rd (Z := Z28) (ν := ν) (k := 68) (show ((0 : Nat) : Int) = 0 from rfl) (show ((0 : Nat) : Int) = 0 from rfl) (show ((0 : Nat) : Int) = 0 from rfl)) (congrArg i3 ((hZ28A.1)))) (by omega) (by omega)) (decide_eq_false (by omega))) ?_
                      refine wz_i0 (Eq.trans (i3T (Eq.trans (zm_rd (Z := Z28) (ν := ν) (k := 68) (show ((0 : Nat) : Int) = 0 from rfl) (show ((0 : Nat) : Int) = 0 from rfl) (show ((0 : Nat) : Int) = 0 from rfl)) (congrArg i3 ((hZ28A.1)))) (by omega) (by omega)) (decide_eq_false (by omega))) ?_
                      refine wz_i0 (Eq.trans (i3T (Eq.trans (zm_rd (Z := Z28) (ν := ν) (k := 68) (show ((0 : Nat) : Int) = 0 from rfl) (show ((0 : Nat) : Int) = 0 from rfl) (show ((0 : Nat) : Int) = 0 from rfl)) (congrArg i3 ((hZ28A.1)))) (by omega) (by omega)) (decide_eq_false (by omega))) ?_
                      refine wz_i0 (Eq.trans (i3T (Eq.trans (zm_rd (Z := Z28) (ν := ν) (k := 68) (show ((0 : Nat) : Int) = 0 from rfl) (show ((0 : Nat) : Int) = 0 from rfl) (show ((0 : Nat) : Int) = 0 from rfl)) (congrArg i3 ((hZ28A.1)))) (by omega) (by omega)) (decide_eq_false (by omega))) ?_
                      refine wz_i0 (Eq.trans (i3T (Eq.trans (zm_rd (Z := Z28) (ν := ν) (k := 68) (show ((0 : Nat) : Int) = 0 from rfl) (show ((0 : Nat) : Int) = 0 from rfl) (show ((0 : Nat) : Int) = 0 from rfl)) (congrArg i3 ((hZ28A.1)))) (by omega) (by omega)) (decide_eq_false (by omega))) ?_
                      refine wz_i0 (Eq.trans (i3T (Eq.trans (zm_rd (Z := Z28) (ν := ν) (k := 68) (show ((0 : Nat) : Int) = 0 from rfl) (show ((0 : Nat) : Int) = 0 from rfl) (show ((0 : Nat) : Int) = 0 from rfl)) (congrArg i3 ((hZ28A.1)))) (by omega) (by omega)) (decide_eq_false (by omega))) ?_
                      refine wz_i0 (Eq.trans (i3T (Eq.trans (zm_rd (Z := Z28) (ν := ν) (k := 68) (show ((0 : Nat) : Int) = 0 from rfl) (show ((0 : Nat) : Int) = 0 from rfl) (show ((0 : Nat) : Int) = 0 from rfl)) (congrArg i3 ((hZ28A.1)))) (by omega) (by omega)) (decide_eq_false (by omega))) ?_
                      refine wz_i0 (Eq.trans (i3T (Eq.trans (zm_rd (Z := Z28) (ν := ν) (k := 68) (show ((0 : Nat) : Int) = 0 from rfl) (show ((0 : Nat) : Int) = 0 from rfl) (show ((0 : Nat) : Int) = 0 from rfl)) (congrArg i3 ((hZ28A.1)))) (by omega) (by omega)) (decide_eq_false (by omega))) ?_
                      refine wz_i0 (Eq.trans (i3T (Eq.trans (zm_rd (Z := Z28) (ν := ν) (k := 68) (show ((0 : Nat) : Int) = 0 from rfl) (show ((0 : Nat) : Int) = 0 from rfl) (show ((0 : Nat) : Int) = 0 from rfl)) (congrArg i3 ((hZ28A.1)))) (by omega) (by omega)) (decide_eq_false (by omega))) ?_
                      refine wz_i0 (Eq.trans (i3T (Eq.trans (zm_rd (Z := Z28) (ν := ν) (k := 68) (show ((0 : Nat) : Int) = 0 from rfl) (show ((0 : Nat) : Int) = 0 from rfl) (show ((0 : Nat) : Int) = 0 from rfl)) (congrArg i3 ((hZ28A.1)))) (by omega) (by omega)) (decide_eq_false (by omega))) ?_
                      refine wz_i0 (Eq.trans (i3T (Eq.trans (zm_rd (Z := Z28) (ν := ν) (k := 68) (show ((0 : Nat) : Int) = 0 from rfl) (show ((0 : Nat) : Int) = 0 from rfl) (show ((0 : Nat) : Int) = 0 from rfl)) (congrArg i3 ((hZ28A.1)))) (by omega) (by omega)) (decide_eq_false (by omega))) ?_
                      refine wz_i0 (Eq.trans (i3T (Eq.trans (zm_rd (Z := Z28) (ν := ν) (k := 68) (show ((0 : Nat) : Int) = 0 from rfl) (show ((0 : Nat) : Int) = 0 from rfl) (show ((0 : Nat) : Int) = 0 from rfl)) (congrArg i3 ((hZ28A.1)))) (by omega) (by omega)) (decide_eq_false (by omega))) ?_
                      refine wz_i0 (Eq.trans (i3T (Eq.trans (zm_rd (Z := Z28) (ν := ν) (k := 68) (show ((0 : Nat) : Int) = 0 from rfl) (show ((0 : Nat) : Int) = 0 from rfl) (show ((0 : Nat) : Int) = 0 from rfl)) (congrArg i3 ((hZ28A.1)))) (by omega) (by omega)) (decide_eq_false (by omega))) ?_
                      refine wz_i0 (Eq.trans (i3T (Eq.trans (zm_rd (Z := Z28) (ν := ν) (k := 68) (show ((0 : Nat) : Int) = 0 from rfl) (show ((0 : Nat) : Int) = 0 from rfl) (show ((0 : Nat) : Int) = 0 from rfl)) (congrArg i3 ((hZ28A.1)))) (by omega) (by omega)) (decide_eq_false (by omega))) ?_
                      refine wz_i0 (Eq.trans (i3T (Eq.trans (zm_rd (Z := Z28) (ν := ν) (k := 68) (show ((0 : Nat) : Int) = 0 from rfl) (show ((0 : Nat) : Int) = 0 from rfl) (show ((0 : Nat) : Int) = 0 from rfl)) (congrArg i3 ((hZ28A.1)))) (by omega) (by omega)) (decide_eq_false (by omega))) ?_
                      refine wz_i1 (Eq.trans (i3T (Eq.trans (zm_rd (Z := Z28) (ν := ν) (k := 68) (show ((0 : Nat) : Int) = 0 from rfl) (show ((0 : Nat) : Int) = 0 from rfl) (show ((0 : Nat) : Int) = 0 from rfl)) (congrArg i3 ((hZ28A.1)))) (by omega) (by omega)) (decide_eq_true (by omega))) ?_
                      refine wz_i1 rfl ?_
                      refine wz_i0 (i3O (n := 7) (show (1 : Int32) = i3 1 from rfl) (by omega) (by omega) (by omega)) ?_
                      refine wz_i1 rfl ?_
                      refine wz_i0 (i3O (n := 7) (show (2 : Int32) = i3 2 from rfl) (by omega) (by omega) (by omega)) ?_
                      obtain ⟨Z29, v30, hv30, c9, hZ29I, kZ29, jZ29, lv30, uv30⟩ := sp_50 (ν := ν) hZ28I 0 (a1 := a1) (by omega) (a2 := a2) (by omega) (zbh (c := 0) (k := 2) hM (Nat.le_of_ble_eq_true rfl))
                      have hZ29U : zU [0, 2, 3, 4, 5, 6, 7, 8, 9] Z Z29 := zU_t hZ28U jZ29 (zU_b1 (List.Mem.head _) zU_b0)
                      have hZ29K : zC [3, 12, 13, 14, 40, 41, 42, 43, 44, 45, 46, 47, 48, 49, 50, 51, 52, 53, 54, 61, 68, 1099, 1100, 1101, 1102, 1103, 1104, 1105, 1106, 1107, 1108, 1109, 1110, 1111, 1112, 1113, 1114, 1115, 1116] Z Z29 := zC_t hZ28K kZ29 (by decide)
                      replace hP := zl_e2 hP hv30
                      refine wz_cI_of (zas (zcons rfl (zcons (zvi (Eq.trans (zm_rd (Z := Z28) (ν := ν) (k := 68) (show ((0 : Nat) : Int) = 0 from rfl) (show ((0 : Nat) : Int) = 0 from rfl) (show ((1 : Nat) : Int) = 1 from rfl)) (congrArg i3 ((hZ28A.2.1))))) (zcons (zvi (Eq.trans (zm_rd (Z := Z28) (ν := ν) (k := 68) (show ((0 : Nat) : Int) = 0 from rfl) (show ((0 : Nat) : Int) = 0 from rfl) (show ((2 : Nat) : Int) = 2 from rfl)) (congrArg i3 ((hZ28A.2.2.1))))) rfl))) c9) ?_
                      clear c9 hv30
                      exact zlG hP (rfl : i3 v30 = i3 v30) ⟨hZ29I, hZ29K, hZ29U, zG_w zG_r (Nat.le_of_ble_eq_true rfl) (Nat.le_of_ble_eq_true rfl)⟩
            · replace hP := zE_n hP h12
              have r31 := zH_k hZ 11 0 0 2 (lo := 0) (hi := 6) (by decide) rfl
              refine wz_br (i3Le (zm_rd (Z := Z) (ν := ν) (k := 11) (show ((0 : Nat) : Int) = 0 from rfl) (show ((0 : Nat) : Int) = 0 from rfl) (show ((2 : Nat) : Int) = 2 from rfl)) (zm_rd (Z := Z) (ν := ν) (k := 44) (show ((0 : Nat) : Int) = 0 from rfl) (i3I (y := (Z 47 0 a1 0)) (zm_rd (Z := Z) (ν := ν) (k := 47) (show ((0 : Nat) : Int) = 0 from rfl) (i3I (y := a1) (rfl : i3 a1 = i3 a1) (by omega) (by omega) (by omega)) (show ((0 : Nat) : Int) = 0 from rfl)) (by omega) (by omega) (by omega)) (show ((12 : Nat) : Int) = 12 from rfl)) (by omega) (by omega) (by omega) (by omega)) (fun h32 => ?_) (fun h32 => ?_)
              · replace hP := zE_p hP h32
                have r33 := zH_k hZ 50 0 a2 2 (lo := 0) (hi := 1) (by decide) rfl
                refine wz_br (i3NE (zm_rd (Z := Z) (ν := ν) (k := 50) (show ((0 : Nat) : Int) = 0 from rfl) (i3I (y := a2) (rfl : i3 a2 = i3 a2) (by omega) (by omega) (by omega)) (show ((2 : Nat) : Int) = 2 from rfl)) (show (0 : Int32) = i3 0 from rfl) (by omega) (by omega) (by omega) (by omega)) (fun h34 => ?_) (fun h34 => ?_)
                · replace hP := zE_p hP h34
                  refine wz_i1 (Eq.trans (i3NE (show (3 : Int32) = i3 3 from rfl) (show (1 : Int32) = i3 1 from rfl) (by omega) (by omega) (by omega) (by omega)) (decide_eq_true (by omega))) ?_
                  refine wz_i1 (Eq.trans (i3NE (show (3 : Int32) = i3 3 from rfl) (show (2 : Int32) = i3 2 from rfl) (by omega) (by omega) (by omega) (by omega)) (decide_eq_true (by omega))) ?_
                  refine wz_i0 (Eq.trans (i3NE (show (3 : Int32) = i3 3 from rfl) (show (3 : Int32) = i3 3 from rfl) (by omega) (by omega) (by omega) (by omega)) (decide_eq_false (by omega))) ?_
                  exact zlGe (E := 14) hP ⟨(zbw (a := 0) (c := 2) hZ (Nat.le_of_ble_eq_true rfl)), zC_r, zU_r, zG_w (zG_k rfl) (Nat.le_of_ble_eq_true rfl) (Nat.le_of_ble_eq_true rfl)⟩
                · replace hP := zE_n hP h34
                  obtain ⟨v35, hv35, c9, lv35, uv35⟩ := sp_43 (ν := ν) hZ 0 (a1 := a2) (by omega) (zbh (c := 0) (k := 0) hM (Nat.le_of_ble_eq_true rfl))
                  replace hP := zl_e hP hv35
                  refine wz_cI_of (zas (zcons rfl (zcons (zvi (rfl : i3 a2 = i3 a2)) rfl)) c9) ?_
                  clear c9
                  have r36 := zH_k hZ 50 0 a2 0 (lo := 0) (hi := 99) (by decide) rfl
                  have r37 := zH_k hZ 47 0 a1 3 (lo := 0) (hi := 40) (by decide) rfl
                  have r38 := w3_r (v35 + (Z 47 0 a1 3))
                  refine wz_br (i3L (zm_rd (Z := Z) (ν := ν) (k := 50) (show ((0 : Nat) : Int) = 0 from rfl) (i3I (y := a2) (rfl : i3 a2 = i3 a2) (by omega) (by omega) (by omega)) (show ((0 : Nat) : Int) = 0 from rfl)) (i3W (i3A (rfl : i3 v35 = i3 v35) (zm_rd (Z := Z) (ν := ν) (k := 47) (show ((0 : Nat) : Int) = 0 from rfl) (i3I (y := a1) (rfl : i3 a1 = i3 a1) (by omega) (by omega) (by omega)) (show ((3 : Nat) : Int) = 3 from rfl)))) (by omega) (by omega) (by omega) (by omega)) (fun h39 => ?_) (fun h39 => ?_)
                  · replace hP := zE_p hP h39
                    refine wz_i1 (Eq.trans (i3NE (show (3 : Int32) = i3 3 from rfl) (show (1 : Int32) = i3 1 from rfl) (by omega) (by omega) (by omega) (by omega)) (decide_eq_true (by omega))) ?_
                    refine wz_i1 (Eq.trans (i3NE (show (3 : Int32) = i3 3 from rfl) (show (2 : Int32) = i3 2 from rfl) (by omega) (by omega) (by omega) (by omega)) (decide_eq_true (by omega))) ?_
                    refine wz_i0 (Eq.trans (i3NE (show (3 : Int32) = i3 3 from rfl) (show (3 : Int32) = i3 3 from rfl) (by omega) (by omega) (by omega) (by omega)) (decide_eq_false (by omega))) ?_
                    exact zlGe (E := 14) hP ⟨(zbw (a := 0) (c := 2) hZ (Nat.le_of_ble_eq_true rfl)), zC_r, zU_r, zG_w (zG_k rfl) (Nat.le_of_ble_eq_true rfl) (Nat.le_of_ble_eq_true rfl)⟩
                  · replace hP := zE_n hP h39
                    obtain ⟨v40, hv40, c9, lv40, uv40⟩ := sp_53 (ν := ν) hZ 0 (a1 := a2) (by omega) (zbh (c := 0) (k := 0) hM (Nat.le_of_ble_eq_true rfl))
                    replace hP := zl_e hP hv40
                    refine wz_cI_of (zas (zcons rfl (zcons (zvi (rfl : i3 a2 = i3 a2)) rfl)) c9) ?_
                    clear c9
                    refine wz_br (i3L (show (0 : Int32) = i3 0 from rfl) (rfl : i3 v40 = i3 v40) (by omega) (by omega) (by omega) (by omega)) (fun h41 => ?_) (fun h41 => ?_)
                    · replace hP := zE_p hP h41
                      refine wz_i1 (Eq.trans (i3NE (show (0 : Int32) = i3 0 from rfl) (show (1 : Int32) = i3 1 from rfl) (by omega) (by omega) (by omega) (by omega)) (decide_eq_true (by omega))) ?_
                      refine wz_i1 (Eq.trans (i3NE (show (0 : Int32) = i3 0 from rfl) (show (2 : Int32) = i3 2 from rfl) (by omega) (by omega) (by omega) (by omega)) (decide_eq_true (by omega))) ?_
                      refine wz_i1 (Eq.trans (i3NE (show (0 : Int32) = i3 0 from rfl) (show (3 : Int32) = i3 3 from rfl) (by omega) (by omega) (by omega) (by omega)) (decide_eq_true (by omega))) ?_
                      refine dc_J (zcons rfl (zcons (zvi (show (20 : Int32) = i3 20 from rfl)) (zcons (zvi (rfl : i3 a1 = i3 a1)) (zcons (zvi (rfl : i3 a2 = i3 a2)) (zcons (zvi (show (0 : Int32) = i3 0 from rfl)) (zcons (zvi (show (0 : Int32) = i3 0 from rfl)) (zcons (zvi (show (0 : Int32) = i3 0 from rfl)) (zcons (zvi (show (0 : Int32) = i3 0 from rfl)) rfl)))))))) (dg (hZ).1 (by omega) (by omega) (by omega) (by omega) (by omega) (by omega) (by omega) ?_)
                      have hZ42I := zH_dd hZ (a1 := 20) (a2 := a1) (a3 := a2) (a4 := 0) (a5 := 0) (a6 := 0) (a7 := 0) (by omega) (by omega) (by omega) (by omega) (by omega) (by omega) (by omega)
                      have kZ42 : zC [3, 12, 13, 14, 40, 41, 42, 43, 44, 45, 46, 47, 48, 49, 50, 51, 52, 53, 54, 61, 68, 1099, 1100, 1101, 1102, 1103, 1104, 1105, 1106, 1107, 1108, 1109, 1110, 1111, 1112, 1113, 1114, 1115, 1116] Z (zdd Z 20 a1 a2 0 0 0 0) := zC_k zdd_K (by decide) (by decide)
                      have hZ42A : (zdd Z 20 a1 a2 0 0 0 0) 68 0 0 0 = 20 ∧ (zdd Z 20 a1 a2 0 0 0 0) 68 0 0 1 = a1 ∧ (zdd Z 20 a1 a2 0 0 0 0) 68 0 0 2 = a2 ∧ (zdd Z 20 a1 a2 0 0 0 0) 68 0 0 3 = 0 ∧ (zdd Z 20 a1 a2 0 0 0 0) 68 0 0 4 = 0 ∧ (zdd Z 20 a1 a2 0 0 0 0) 68 0 0 5 = 0 ∧ (zdd Z 20 a1 a2 0 0 0 0) 68 0 0 6 = 0 := ⟨zdd_68, zdd_68, zdd_68, zdd_68, zdd_68, zdd_68, zdd_68⟩
                      obtain ⟨Z42, hZ42⟩ := zx (zdd Z 20 a1 a2 0 0 0 0)
                      have dZ42 : ∀ {k : Nat} {i j : Int}, zhall k = true → ¬ (k = 11 ∧ (j = 15 ∨ j = 16)) → Z42 k 0 i j = Z k 0 i j := fun hk hj => by rw [hZ42]; exact zdd_h (hZ).1 hk hj
                      have jZ42 : zU [0, 2, 3, 4, 5, 6, 7, 8, 9] Z (zdd Z 20 a1 a2 0 0 0 0) := zU_dd (hZ).1
                      rw [← hZ42] at hZ42I kZ42 jZ42 hZ42A ⊢
                      have hZ42U : zU [0, 2, 3, 4, 5, 6, 7, 8, 9] Z Z42 := zU_t zU_r jZ42 (zU_b1 (List.Mem.head _) (zU_b1 (List.Mem.tail _ (List.Mem.head _)) (zU_b1 (List.Mem.tail _ (List.Mem.tail _ (List.Mem.head _))) (zU_b1 (List.Mem.tail _ (List.Mem.tail _ (List.Mem.tail _ (List.Mem.head _)))) (zU_b1 (List.Mem.tail _ (List.Mem.tail _ (List.Mem.tail _ (List.Mem.tail _ (List.Mem.head _))))) (zU_b1 (List.Mem.tail _ (List.Mem.tail _ (List.Mem.tail _ (List.Mem.tail _ (List.Mem.tail _ (List.Mem.head _)))))) (zU_b1 (List.Mem.tail _ (List.Mem.tail _ (List.Mem.tail _ (List.Mem.tail _ (List.Mem.tail _ (List.Mem.tail _ (List.Mem.head _))))))) (zU_b1 (List.Mem.tail _ (List.Mem.tail _ (List.Mem.tail _ (List.Mem.tail _ (List.Mem.tail _ (List.Mem.tail _ (List.Mem.tail _ (List.Mem.head _)))))))) (zU_b1 (List.Mem.tail _ (List.Mem.tail _ (List.Mem.tail _ (List.Mem.tail _ (List.Mem.tail _ (List.Mem.tail _ (List.Mem.tail _ (List.Mem.tail _ (List.Mem.head _))))))))) zU_b0)))))))))
                      replace hP := zl_e hP hZ42
                      have hZ42K : zC [3, 12, 13, 14, 40, 41, 42, 43, 44, 45, 46, 47, 48, 49, 50, 51, 52, 53, 54, 61, 68, 1099, 1100, 1101, 1102, 1103, 1104, 1105, 1106, 1107, 1108, 1109, 1110, 1111, 1112, 1113, 1114, 1115, 1116] Z Z42 := zC_t zC_r kZ42 (by decide)
                      clear kZ42 hZ42
                      refine fw_121 _ _ _ _ ?_
                      refine wz_i1 rfl ?_
                      refine wz_i0 (i3O (n := 7) (show (0 : Int32) = i3 0 from rfl) (by omega) (by omega) (by omega)) ?_
                      refine wz_i0 (Eq.trans (i3To (Eq.trans (zm_rd (Z := Z42) (ν := ν) (k := 68) (show ((0 : Nat) : Int) = 0 from rfl) (show ((0 : Nat) : Int) = 0 from rfl) (show ((0 : Nat) : Int) = 0 from rfl)) (congrArg i3 ((hZ42A.1)))) (by omega) (by omega)) (decide_eq_false (by omega))) ?_
                      refine wz_i0 (Eq.trans (i3T (Eq.trans (zm_rd (Z := Z42) (ν := ν) (k := 68) (show ((0 : Nat) : Int) = 0 from rfl) (show ((0 : Nat) : Int) = 0 from rfl) (show ((0 : Nat) : Int) = 0 from rfl)) (congrArg i3 ((hZ42A.1)))) (by omega) (by omega)) (decide_eq_false (by omega))) ?_
                      refine wz_i0 (Eq.trans (i3T (Eq.trans (zm_rd (Z := Z42) (ν := ν) (k := 68) (show ((0 : Nat) : Int) = 0 from rfl) (show ((0 : Nat) : Int) = 0 from rfl) (show ((0 : Nat) : Int) = 0 from rfl)) (congrArg i3 ((hZ42A.1)))) (by omega) (by omega)) (decide_eq_false (by omega))) ?_
                      refine wz_i0 (Eq.trans (i3T (Eq.trans (zm_rd (Z := Z42) (ν := ν) (k := 68) (show ((0 : Nat) : Int) = 0 from rfl) (show ((0 : Nat) : Int) = 0 from rfl) (show ((0 : Nat) : Int) = 0 from rfl)) (congrArg i3 ((hZ42A.1)))) (by omega) (by omega)) (decide_eq_false (by omega))) ?_
                      refine wz_i0 (Eq.trans (i3T (Eq.trans (zm_rd (Z := Z42) (ν := ν) (k := 68) (show ((0 : Nat) : Int) = 0 from rfl) (show ((0 : Nat) : Int) = 0 from rfl) (show ((0 : Nat) : Int) = 0 from rfl)) (congrArg i3 ((hZ42A.1)))) (by omega) (by omega)) (decide_eq_false (by omega))) ?_
                      refine wz_i0 (Eq.trans (i3T (Eq.trans (zm_rd (Z := Z42) (ν := ν) (k := 68) (show ((0 : Nat) : Int) = 0 from rfl) (show ((0 : Nat) : Int) = 0 from rfl) (show ((0 : Nat) : Int) = 0 from rfl)) (congrArg i3 ((hZ42A.1)))) (by omega) (by omega)) (decide_eq_false (by omega))) ?_
                      refine wz_i0 (Eq.trans (i3T (Eq.trans (zm_rd (Z := Z42) (ν := ν) (k := 68) (show ((0 : Nat) : Int) = 0 from rfl) (show ((0 : Nat) : Int) = 0 from rfl) (show ((0 : Nat) : Int) = 0 from rfl)) (congrArg i3 ((hZ42A.1)))) (by omega) (by omega)) (decide_eq_false (by omega))) ?_
                      refine wz_i0 (Eq.trans (i3T (Eq.trans (zm_rd (Z := Z42) (ν := ν) (k := 68) (show ((0 : Nat) : Int) = 0 from rfl) (show ((0 : Nat) : Int) = 0 from rfl) (show ((0 : Nat) : Int) = 0 from rfl)) (congrArg i3 ((hZ42A.1)))) (by omega) (by omega)) (decide_eq_false (by omega))) ?_
                      refine wz_i0 (Eq.trans (i3T (Eq.trans (zm_rd (Z := Z42) (ν := ν) (k := 68) (show ((0 : Nat) : Int) = 0 from rfl) (show ((0 : Nat) : Int) = 0 from rfl) (show ((0 : Nat) : Int) = 0 from rfl)) (congrArg i3 ((hZ42A.1)))) (by omega) (by omega)) (decide_eq_false (by omega))) ?_
                      refine wz_i0 (Eq.trans (i3T (Eq.trans (zm_rd (Z := Z42) (ν := ν) (k := 68) (show ((0 : Nat) : Int) = 0 from rfl) (show ((0 : Nat) : Int) = 0 from rfl) (show ((0 : Nat) : Int) = 0 from rfl)) (congrArg i3 ((hZ42A.1)))) (by omega) (by omega)) (decide_eq_false (by omega))) ?_
                      refine wz_i0 (Eq.trans (i3T (Eq.trans (zm_rd (Z := Z42) (ν := ν) (k := 68) (show ((0 : Nat) : Int) = 0 from rfl) (show ((0 : Nat) : Int) = 0 from rfl) (show ((0 : Nat) : Int) = 0 from rfl)) (congrArg i3 ((hZ42A.1)))) (by omega) (by omega)) (decide_eq_false (by omega))) ?_
                      refine wz_i0 (Eq.trans (i3T (Eq.trans (zm_rd (Z := Z42) (ν := ν) (k := 68) (show ((0 : Nat) : Int) = 0 from rfl) (show ((0 : Nat) : Int) = 0 from rfl) (show ((0 : Nat) : Int) = 0 from rfl)) (congrArg i3 ((hZ42A.1)))) (by omega) (by omega)) (decide_eq_false (by omega))) ?_
                      refine wz_i0 (Eq.trans (i3T (Eq.trans (zm_rd (Z := Z42) (ν := ν) (k := 68) (show ((0 : Nat) : Int) = 0 from rfl) (show ((0 : Nat) : Int) = 0 from rfl) (show ((0 : Nat) : Int) = 0 from rfl)) (congrArg i3 ((hZ42A.1)))) (by omega) (by omega)) (decide_eq_false (by omega))) ?_
                      refine wz_i0 (Eq.trans (i3T (Eq.trans (zm_rd (Z := Z42) (ν := ν) (k := 68) (show ((0 : Nat) : Int) = 0 from rfl) (show ((0 : Nat) : Int) = 0 from rfl) (show ((0 : Nat) : Int) = 0 from rfl)) (congrArg i3 ((hZ42A.1)))) (by omega) (by omega)) (decide_eq_false (by omega))) ?_
                      refine wz_i0 (Eq.trans (i3T (Eq.trans (zm_rd (Z := Z42) (ν := ν) (k := 68) (show ((0 : Nat) : Int) = 0 from rfl) (show ((0 : Nat) : Int) = 0 from rfl) (show ((0 : Nat) : Int) = 0 from rfl)) (congrArg i3 ((hZ42A.1)))) (by omega) (by omega)) (decide_eq_false (by omega))) ?_
                      refine wz_i0 (Eq.trans (i3T (Eq.trans (zm_rd (Z := Z42) (ν := ν) (k := 68) (show ((0 : Nat) : Int) = 0 from rfl) (show ((0 : Nat) : Int) = 0 from rfl) (show ((0 : Nat) : Int) = 0 from rfl)) (congrArg i3 ((hZ42A.1)))) (by omega) (by omega)) (decide_eq_false (by omega))) ?_
                      refine wz_i0 (Eq.trans (i3T (Eq.trans (zm_rd (Z := Z42) (ν := ν) (k := 68) (show ((0 : Nat) : Int) = 0 from rfl) (show ((0 : Nat) : Int) = 0 from rfl) (show ((0 : Nat) : Int) = 0 from rfl)) (congrArg i3 ((hZ42A.1)))) (by omega) (by omega)) (decide_eq_false (by omega))) ?_
                      refine wz_i0 (Eq.trans (i3T (Eq.trans (zm_rd (Z := Z42) (ν := ν) (k := 68) (show ((0 : Nat) : Int) = 0 from rfl) (show ((0 : Nat) : Int) = 0 from rfl) (show ((0 : Nat) : Int) = 0 from rfl)) (congrArg i3 ((hZ42A.1)))) (by omega) (by omega)) (decide_eq_false (by omega))) ?_
                      refine wz_i0 (Eq.trans (i3T (Eq.trans (zm_rd (Z := Z42) (ν := ν) (k := 68) (show ((0 : Nat) : Int) = 0 from rfl) (show ((0 : Nat) : Int) = 0 from rfl) (show ((0 : Nat) : Int) = 0 from rfl)) (congrArg i3 ((hZ42A.1)))) (by omega) (by omega)) (decide_eq_false (by omega))) ?_
                      refine wz_i0 (Eq.trans (i3T (Eq.trans (zm_rd (Z := Z42) (ν := ν) (k := 68) (show ((0 : Nat) : Int) = 0 from rfl) (show ((0 : Nat) : Int) = 0 from rfl) (show ((0 : Nat) : Int) = 0 from rfl)) (congrArg i3 ((hZ42A.1)))) (by omega) (by omega)) (decide_eq_false (by omega))) ?_
                      refine wz_i0 (Eq.trans (i3T (Eq.trans (zm_rd (Z := Z42) (ν := ν) (k := 68) (show ((0 : Nat) : Int) = 0 from rfl) (show ((0 : Nat) : Int) = 0 from rfl) (show ((0 : Nat) : Int) = 0 from rfl)) (congrArg i3 ((hZ42A.1)))) (by omega) (by omega)) (decide_eq_false (by omega))) ?_
                      refine wz_i1 (Eq.trans (i3T (Eq.trans (zm_rd (Z := Z42) (ν := ν) (k := 68) (show ((0 : Nat) : Int) = 0 from rfl) (show ((0 : Nat) : Int) = 0 from rfl) (show ((0 : Nat) : Int) = 0 from rfl)) (congrArg i3 ((hZ42A.1)))) (by omega) (by omega)) (decide_eq_true (by omega))) ?_
                      refine wz_i1 rfl ?_
                      refine wz_i0 (i3O (n := 7) (show (1 : Int32) = i3 1 from rfl) (by omega) (by omega) (by omega)) ?_
                      refine wz_i1 rfl ?_
                      refine wz_i0 (i3O (n := 7) (show (2 : Int32) = i3 2 from rfl) (by omega) (by omega) (by omega)) ?_
                      obtain ⟨Z43, v44, hv44, c9, hZ43I, kZ43, jZ43, lv44, uv44⟩ := sp_50 (ν := ν) hZ42I 0 (a1 := a1) (by omega) (a2 := a2) (by omega) (zbh (c := 0) (k := 2) hM (Nat.le_of_ble_eq_true rfl))
                      have hZ43U : zU [0, 2, 3, 4, 5, 6, 7, 8, 9] Z Z43 := zU_t hZ42U jZ43 (zU_b1 (List.Mem.head _) zU_b0)
                      have hZ43K : zC [3, 12, 13, 14, 40, 41, 42, 43, 44, 45, 46, 47, 48, 49, 50, 51, 52, 53, 54, 61, 68, 1099, 1100, 1101, 1102, 1103, 1104, 1105, 1106, 1107, 1108, 1109, 1110, 1111, 1112, 1113, 1114, 1115, 1116] Z Z43 := zC_t hZ42K kZ43 (by decide)
                      replace hP := zl_e2 hP hv44
                      refine wz_cI_of (zas (zcons rfl (zcons (zvi (Eq.trans (zm_rd (Z := Z42) (ν := ν) (k := 68) (show ((0 : Nat) : Int) = 0 from rfl) (show ((0 : Nat) : Int) = 0 from rfl) (show ((1 : Nat) : Int) = 1 from rfl)) (congrArg i3 ((hZ42A.2.1))))) (zcons (zvi (Eq.trans (zm_rd (Z := Z42) (ν := ν) (k := 68) (show ((0 : Nat) : Int) = 0 from rfl) (show ((0 : Nat) : Int) = 0 from rfl) (show ((2 : Nat) : Int) = 2 from rfl)) (congrArg i3 ((hZ42A.2.2.1))))) rfl))) c9) ?_
                      clear c9 hv44
                      exact zlG hP (rfl : i3 v44 = i3 v44) ⟨hZ43I, hZ43K, hZ43U, zG_w zG_r (Nat.le_of_ble_eq_true rfl) (Nat.le_of_ble_eq_true rfl)⟩
                    · replace hP := zE_n hP h41
                      obtain ⟨v45, hv45, c9, lv45, uv45⟩ := sp_40 (ν := ν) hZ 0 (zbh (c := 0) (k := 0) hM (Nat.le_of_ble_eq_true rfl))
                      replace hP := zl_e hP hv45
                      refine wz_cI_of (zas (zcons rfl rfl) c9) ?_
                      clear c9
                      have r46 := zH_k hZ 11 0 0 14 (lo := 0) (hi := 4) (by decide) rfl
                      refine wz_br (i3Le (zm_rd (Z := Z) (ν := ν) (k := 11) (show ((0 : Nat) : Int) = 0 from rfl) (show ((0 : Nat) : Int) = 0 from rfl) (show ((14 : Nat) : Int) = 14 from rfl)) (rfl : i3 v45 = i3 v45) (by omega) (by omega) (by omega) (by omega)) (fun h47 => ?_) (fun h47 => ?_)
                      · replace hP := zE_p hP h47
                        refine wz_i1 (Eq.trans (i3NE (show (3 : Int32) = i3 3 from rfl) (show (1 : Int32) = i3 1 from rfl) (by omega) (by omega) (by omega) (by omega)) (decide_eq_true (by omega))) ?_
                        refine wz_i1 (Eq.trans (i3NE (show (3 : Int32) = i3 3 from rfl) (show (2 : Int32) = i3 2 from rfl) (by omega) (by omega) (by omega) (by omega)) (decide_eq_true (by omega))) ?_
                        refine wz_i0 (Eq.trans (i3NE (show (3 : Int32) = i3 3 from rfl) (show (3 : Int32) = i3 3 from rfl) (by omega) (by omega) (by omega) (by omega)) (decide_eq_false (by omega))) ?_
                        exact zlGe (E := 14) hP ⟨(zbw (a := 0) (c := 2) hZ (Nat.le_of_ble_eq_true rfl)), zC_r, zU_r, zG_w (zG_k rfl) (Nat.le_of_ble_eq_true rfl) (Nat.le_of_ble_eq_true rfl)⟩
                      · replace hP := zE_n hP h47
                        refine wz_i1 (Eq.trans (i3NE (show (0 : Int32) = i3 0 from rfl) (show (1 : Int32) = i3 1 from rfl) (by omega) (by omega) (by omega) (by omega)) (decide_eq_true (by omega))) ?_
                        refine wz_i1 (Eq.trans (i3NE (show (0 : Int32) = i3 0 from rfl) (show (2 : Int32) = i3 2 from rfl) (by omega) (by omega) (by omega) (by omega)) (decide_eq_true (by omega))) ?_
                        refine wz_i1 (Eq.trans (i3NE (show (0 : Int32) = i3 0 from rfl) (show (3 : Int32) = i3 3 from rfl) (by omega) (by omega) (by omega) (by omega)) (decide_eq_true (by omega))) ?_
                        refine dc_J (zcons rfl (zcons (zvi (show (20 : Int32) = i3 20 from rfl)) (zcons (zvi (rfl : i3 a1 = i3 a1)) (zcons (zvi (rfl : i3 a2 = i3 a2)) (zcons (zvi (show (0 : Int32) = i3 0 from rfl)) (zcons (zvi (show (0 : Int32) = i3 0 from rfl)) (zcons (zvi (show (0 : Int32) = i3 0 from rfl)) (zcons (zvi (show (0 : Int32) = i3 0 from rfl)) rfl)))))))) (dg (hZ).1 (by omega) (by omega) (by omega) (by omega) (by omega) (by omega) (by omega) ?_)
                        have hZ48I := zH_dd hZ (a1 := 20) (a2 := a1) (a3 := a2) (a4 := 0) (a5 := 0) (a6 := 0) (a7 := 0) (by omega) (by omega) (by omega) (by omega) (by omega) (by omega) (by omega)
                        have kZ48 : zC [3, 12, 13, 14, 40, 41, 42, 43, 44, 45, 46, 47, 48, 49, 50, 51, 52, 53, 54, 61, 68, 1099, 1100, 1101, 1102, 1103, 1104, 1105, 1106, 1107, 1108, 1109, 1110, 1111, 1112, 1113, 1114, 1115, 1116] Z (zdd Z 20 a1 a2 0 0 0 0) := zC_k zdd_K (by decide) (by decide)
                        have hZ48A : (zdd Z 20 a1 a2 0 0 0 0) 68 0 0 0 = 20 ∧ (zdd Z 20 a1 a2 0 0 0 0) 68 0 0 1 = a1 ∧ (zdd Z 20 a1 a2 0 0 0 0) 68 0 0 2 = a2 ∧ (zdd Z 20 a1 a2 0 0 0 0) 68 0 0 3 = 0 ∧ (zdd Z 20 a1 a2 0 0 0 0) 68 0 0 4 = 0 ∧ (zdd Z 20 a1 a2 0 0 0 0) 68 0 0 5 = 0 ∧ (zdd Z 20 a1 a2 0 0 0 0) 68 0 0 6 = 0 := ⟨zdd_68, zdd_68, zdd_68, zdd_68, zdd_68, zdd_68, zdd_68⟩
                        obtain ⟨Z48, hZ48⟩ := zx (zdd Z 20 a1 a2 0 0 0 0)
                        have dZ48 : ∀ {k : Nat} {i j : Int}, zhall k = true → ¬ (k = 11 ∧ (j = 15 ∨ j = 16)) → Z48 k 0 i j = Z k 0 i j := fun hk hj => by rw [hZ48]; exact zdd_h (hZ).1 hk hj
                        have jZ48 : zU [0, 2, 3, 4, 5, 6, 7, 8, 9] Z (zdd Z 20 a1 a2 0 0 0 0) := zU_dd (hZ).1
                        rw [← hZ48] at hZ48I kZ48 jZ48 hZ48A ⊢
                        have hZ48U : zU [0, 2, 3, 4, 5, 6, 7, 8, 9] Z Z48 := zU_t zU_r jZ48 (zU_b1 (List.Mem.head _) (zU_b1 (List.Mem.tail _ (List.Mem.head _)) (zU_b1 (List.Mem.tail _ (List.Mem.tail _ (List.Mem.head _))) (zU_b1 (List.Mem.tail _ (List.Mem.tail _ (List.Mem.tail _ (List.Mem.head _)))) (zU_b1 (List.Mem.tail _ (List.Mem.tail _ (List.Mem.tail _ (List.Mem.tail _ (List.Mem.head _))))) (zU_b1 (List.Mem.tail _ (List.Mem.tail _ (List.Mem.tail _ (List.Mem.tail _ (List.Mem.tail _ (List.Mem.head _)))))) (zU_b1 (List.Mem.tail _ (List.Mem.tail _ (List.Mem.tail _ (List.Mem.tail _ (List.Mem.tail _ (List.Mem.tail _ (List.Mem.head _))))))) (zU_b1 (List.Mem.tail _ (List.Mem.tail _ (List.Mem.tail _ (List.Mem.tail _ (List.Mem.tail _ (List.Mem.tail _ (List.Mem.tail _ (List.Mem.head _)))))))) (zU_b1 (List.Mem.tail _ (List.Mem.tail _ (List.Mem.tail _ (List.Mem.tail _ (List.Mem.tail _ (List.Mem.tail _ (List.Mem.tail _ (List.Mem.tail _ (List.Mem.head _))))))))) zU_b0)))))))))
                        replace hP := zl_e hP hZ48
                        have hZ48K : zC [3, 12, 13, 14, 40, 41, 42, 43, 44, 45, 46, 47, 48, 49, 50, 51, 52, 53, 54, 61, 68, 1099, 1100, 1101, 1102, 1103, 1104, 1105, 1106, 1107, 1108, 1109, 1110, 1111, 1112, 1113, 1114, 1115, 1116] Z Z48 := zC_t zC_r kZ48 (by decide)
                        clear kZ48 hZ48
                        refine fw_121 _ _ _ _ ?_
                        refine wz_i1 rfl ?_
                        refine wz_i0 (i3O (n := 7) (show (0 : Int32) = i3 0 from rfl) (by omega) (by omega) (by omega)) ?_
                        refine wz_i0 (Eq.trans (i3To (Eq.trans (zm_rd (Z := Z48) (ν := ν) (k := 68) (show ((0 : Nat) : Int) = 0 from rfl) (show ((0 : Nat) : Int) = 0 from rfl) (show ((0 : Nat) : Int) = 0 from rfl)) (congrArg i3 ((hZ48A.1)))) (by omega) (by omega)) (decide_eq_false (by omega))) ?_
                        refine wz_i0 (Eq.trans (i3T (Eq.trans (zm_rd (Z := Z48) (ν := ν) (k := 68) (show ((0 : Nat) : Int) = 0 from rfl) (show ((0 : Nat) : Int) = 0 from rfl) (show ((0 : Nat) : Int) = 0 from rfl)) (congrArg i3 ((hZ48A.1)))) (by omega) (by omega)) (decide_eq_false (by omega))) ?_
                        refine wz_i0 (Eq.trans (i3T (Eq.trans (zm_rd (Z := Z48) (ν := ν) (k := 68) (show ((0 : Nat) : Int) = 0 from rfl) (show ((0 : Nat) : Int) = 0 from rfl) (show ((0 : Nat) : Int) = 0 from rfl)) (congrArg i3 ((hZ48A.1)))) (by omega) (by omega)) (decide_eq_false (by omega))) ?_
                        refine wz_i0 (Eq.trans (i3T (Eq.trans (zm_rd (Z := Z48) (ν := ν) (k := 68) (show ((0 : Nat) : Int) = 0 from rfl) (show ((0 : Nat) : Int) = 0 from rfl) (show ((0 : Nat) : Int) = 0 from rfl)) (congrArg i3 ((hZ48A.1)))) (by omega) (by omega)) (decide_eq_false (by omega))) ?_
                        refine wz_i0 (Eq.trans (i3T (Eq.trans (zm_rd (Z := Z48) (ν := ν) (k := 68) (show ((0 : Nat) : Int) = 0 from rfl) (show ((0 : Nat) : Int) = 0 from rfl) (show ((0 : Nat) : Int) = 0 from rfl)) (congrArg i3 ((hZ48A.1)))) (by omega) (by omega)) (decide_eq_false (by omega))) ?_
                        refine wz_i0 (Eq.trans (i3T (Eq.trans (zm_rd (Z := Z48) (ν := ν) (k := 68) (show ((0 : Nat) : Int) = 0 from rfl) (show ((0 : Nat) : Int) = 0 from rfl) (show ((0 : Nat) : Int) = 0 from rfl)) (congrArg i3 ((hZ48A.1)))) (by omega) (by omega)) (decide_eq_false (by omega))) ?_
                        refine wz_i0 (Eq.trans (i3T (Eq.trans (zm_rd (Z := Z48) (ν := ν) (k := 68) (show ((0 : Nat) : Int) = 0 from rfl) (show ((0 : Nat) : Int) = 0 from rfl) (show ((0 : Nat) : Int) = 0 from rfl)) (congrArg i3 ((hZ48A.1)))) (by omega) (by omega)) (decide_eq_false (by omega))) ?_
                        refine wz_i0 (Eq.trans (i3T (Eq.trans (zm_rd (Z := Z48) (ν := ν) (k := 68) (show ((0 : Nat) : Int) = 0 from rfl) (show ((0 : Nat) : Int) = 0 from rfl) (show ((0 : Nat) : Int) = 0 from rfl)) (congrArg i3 ((hZ48A.1)))) (by omega) (by omega)) (decide_eq_false (by omega))) ?_
                        refine wz_i0 (Eq.trans (i3T (Eq.trans (zm_rd (Z := Z48) (ν := ν) (k := 68) (show ((0 : Nat) : Int) = 0 from rfl) (show ((0 : Nat) : Int) = 0 from rfl) (show ((0 : Nat) : Int) = 0 from rfl)) (congrArg i3 ((hZ48A.1)))) (by omega) (by omega)) (decide_eq_false (by omega))) ?_
                        refine wz_i0 (Eq.trans (i3T (Eq.trans (zm_rd (Z := Z48) (ν := ν) (k := 68) (show ((0 : Nat) : Int) = 0 from rfl) (show ((0 : Nat) : Int) = 0 from rfl) (show ((0 : Nat) : Int) = 0 from rfl)) (congrArg i3 ((hZ48A.1)))) (by omega) (by omega)) (decide_eq_false (by omega))) ?_
                        refine wz_i0 (Eq.trans (i3T (Eq.trans (zm_rd (Z := Z48) (ν := ν) (k := 68) (show ((0 : Nat) : Int) = 0 from rfl) (show ((0 : Nat) : Int) = 0 from rfl) (show ((0 : Nat) : Int) = 0 from rfl)) (congrArg i3 ((hZ48A.1)))) (by omega) (by omega)) (decide_eq_false (by omega))) ?_
                        refine wz_i0 (Eq.trans (i3T (Eq.trans (zm_rd (Z := Z48) (ν := ν) (k := 68) (show ((0 : Nat) : Int) = 0 from rfl) (show ((0 : Nat) : Int) = 0 from rfl) (show ((0 : Nat) : Int) = 0 from rfl)) (congrArg i3 ((hZ48A.1)))) (by omega) (by omega)) (decide_eq_false (by omega))) ?_
                        refine wz_i0 (Eq.trans (i3T (Eq.trans (zm_rd (Z := Z48) (ν := ν) (k := 68) (show ((0 : Nat) : Int) = 0 from rfl) (show ((0 : Nat) : Int) = 0 from rfl) (show ((0 : Nat) : Int) = 0 from rfl)) (congrArg i3 ((hZ48A.1)))) (by omega) (by omega)) (decide_eq_false (by omega))) ?_
                        refine wz_i0 (Eq.trans (i3T (Eq.trans (zm_rd (Z := Z48) (ν := ν) (k := 68) (show ((0 : Nat) : Int) = 0 from rfl) (show ((0 : Nat) : Int) = 0 from rfl) (show ((0 : Nat) : Int) = 0 from rfl)) (congrArg i3 ((hZ48A.1)))) (by omega) (by omega)) (decide_eq_false (by omega))) ?_
                        refine wz_i0 (Eq.trans (i3T (Eq.trans (zm_rd (Z := Z48) (ν := ν) (k := 68) (show ((0 : Nat) : Int) = 0 from rfl) (show ((0 : Nat) : Int) = 0 from rfl) (show ((0 : Nat) : Int) = 0 from rfl)) (congrArg i3 ((hZ48A.1)))) (by omega) (by omega)) (decide_eq_false (by omega))) ?_
                        refine wz_i0 (Eq.trans (i3T (Eq.trans (zm_rd (Z := Z48) (ν := ν) (k := 68) (show ((0 : Nat) : Int) = 0 from rfl) (show ((0 : Nat) : Int) = 0 from rfl) (show ((0 : Nat) : Int) = 0 from rfl)) (congrArg i3 ((hZ48A.1)))) (by omega) (by omega)) (decide_eq_false (by omega))) ?_
                        refine wz_i0 (Eq.trans (i3T (Eq.trans (zm_rd (Z := Z48) (ν := ν) (k := 68) (show ((0 : Nat) : Int) = 0 from rfl) (show ((0 : Nat) : Int) = 0 from rfl) (show ((0 : Nat) : Int) = 0 from rfl)) (congrArg i3 ((hZ48A.1)))) (by omega) (by omega)) (decide_eq_false (by omega))) ?_
                        refine wz_i0 (Eq.trans (i3T (Eq.trans (zm_rd (Z := Z48) (ν := ν) (k := 68) (show ((0 : Nat) : Int) = 0 from rfl) (show ((0 : Nat) : Int) = 0 from rfl) (show ((0 : Nat) : Int) = 0 from rfl)) (congrArg i3 ((hZ48A.1)))) (by omega) (by omega)) (decide_eq_false (by omega))) ?_
                        refine wz_i0 (Eq.trans (i3T (Eq.trans (zm_rd (Z := Z48) (ν := ν) (k := 68) (show ((0 : Nat) : Int) = 0 from rfl) (show ((0 : Nat) : Int) = 0 from rfl) (show ((0 : Nat) : Int) = 0 from rfl)) (congrArg i3 ((hZ48A.1)))) (by omega) (by omega)) (decide_eq_false (by omega))) ?_
                        refine wz_i0 (Eq.trans (i3T (Eq.trans (zm_rd (Z := Z48) (ν := ν) (k := 68) (show ((0 : Nat) : Int) = 0 from rfl) (show ((0 : Nat) : Int) = 0 from rfl) (show ((0 : Nat) : Int) = 0 from rfl)) (congrArg i3 ((hZ48A.1)))) (by omega) (by omega)) (decide_eq_false (by omega))) ?_
                        refine wz_i0 (Eq.trans (i3T (Eq.trans (zm_rd (Z := Z48) (ν := ν) (k := 68) (show ((0 : Nat) : Int) = 0 from rfl) (show ((0 : Nat) : Int) = 0 from rfl) (show ((0 : Nat) : Int) = 0 from rfl)) (congrArg i3 ((hZ48A.1)))) (by omega) (by omega)) (decide_eq_false (by omega))) ?_
                        refine wz_i1 (Eq.trans (i3T (Eq.trans (zm_rd (Z := Z48) (ν := ν) (k := 68) (show ((0 : Nat) : Int) = 0 from rfl) (show ((0 : Nat) : Int) = 0 from rfl) (show ((0 : Nat) : Int) = 0 from rfl)) (congrArg i3 ((hZ48A.1)))) (by omega) (by omega)) (decide_eq_true (by omega))) ?_
                        refine wz_i1 rfl ?_
                        refine wz_i0 (i3O (n := 7) (show (1 : Int32) = i3 1 from rfl) (by omega) (by omega) (by omega)) ?_
                        refine wz_i1 rfl ?_
                        refine wz_i0 (i3O (n := 7) (show (2 : Int32) = i3 2 from rfl) (by omega) (by omega) (by omega)) ?_
                        obtain ⟨Z49, v50, hv50, c9, hZ49I, kZ49, jZ49, lv50, uv50⟩ := sp_50 (ν := ν) hZ48I 0 (a1 := a1) (by omega) (a2 := a2) (by omega) (zbh (c := 0) (k := 2) hM (Nat.le_of_ble_eq_true rfl))
                        have hZ49U : zU [0, 2, 3, 4, 5, 6, 7, 8, 9] Z Z49 := zU_t hZ48U jZ49 (zU_b1 (List.Mem.head _) zU_b0)
                        have hZ49K : zC [3, 12, 13, 14, 40, 41, 42, 43, 44, 45, 46, 47, 48, 49, 50, 51, 52, 53, 54, 61, 68, 1099, 1100, 1101, 1102, 1103, 1104, 1105, 1106, 1107, 1108, 1109, 1110, 1111, 1112, 1113, 1114, 1115, 1116] Z Z49 := zC_t hZ48K kZ49 (by decide)
                        replace hP := zl_e2 hP hv50
                        refine wz_cI_of (zas (zcons rfl (zcons (zvi (Eq.trans (zm_rd (Z := Z48) (ν := ν) (k := 68) (show ((0 : Nat) : Int) = 0 from rfl) (show ((0 : Nat) : Int) = 0 from rfl) (show ((1 : Nat) : Int) = 1 from rfl)) (congrArg i3 ((hZ48A.2.1))))) (zcons (zvi (Eq.trans (zm_rd (Z := Z48) (ν := ν) (k := 68) (show ((0 : Nat) : Int) = 0 from rfl) (show ((0 : Nat) : Int) = 0 from rfl) (show ((2 : Nat) : Int) = 2 from rfl)) (congrArg i3 ((hZ48A.2.2.1))))) rfl))) c9) ?_
                        clear c9 hv50
                        exact zlG hP (rfl : i3 v50 = i3 v50) ⟨hZ49I, hZ49K, hZ49U, zG_w zG_r (Nat.le_of_ble_eq_true rfl) (Nat.le_of_ble_eq_true rfl)⟩
              · replace hP := zE_n hP h32
                refine wz_i0 (i3O (n := 6) (zm_rd (Z := Z) (ν := ν) (k := 44) (show ((0 : Nat) : Int) = 0 from rfl) (i3I (y := (Z 47 0 a1 0)) (zm_rd (Z := Z) (ν := ν) (k := 47) (show ((0 : Nat) : Int) = 0 from rfl) (i3I (y := a1) (rfl : i3 a1 = i3 a1) (by omega) (by omega) (by omega)) (show ((0 : Nat) : Int) = 0 from rfl)) (by omega) (by omega) (by omega)) (show ((12 : Nat) : Int) = 12 from rfl)) (by omega) (by omega) (by omega)) ?_
                have r51 := zH_k hZ 43 0 (Z 44 0 (Z 47 0 a1 0) 12) 10 (lo := -1) (hi := 695) (by decide) rfl
                have r52 := zH_k hZ 11 0 0 13 (lo := 0) (hi := 671) (by decide) rfl
                refine wz_br (i3Le (zm_rd (Z := Z) (ν := ν) (k := 43) (show ((0 : Nat) : Int) = 0 from rfl) (i3I (y := (Z 44 0 (Z 47 0 a1 0) 12)) (zm_rd (Z := Z) (ν := ν) (k := 44) (show ((0 : Nat) : Int) = 0 from rfl) (i3I (y := (Z 47 0 a1 0)) (zm_rd (Z := Z) (ν := ν) (k := 47) (show ((0 : Nat) : Int) = 0 from rfl) (i3I (y := a1) (rfl : i3 a1 = i3 a1) (by omega) (by omega) (by omega)) (show ((0 : Nat) : Int) = 0 from rfl)) (by omega) (by omega) (by omega)) (show ((12 : Nat) : Int) = 12 from rfl)) (by omega) (by omega) (by omega)) (show ((10 : Nat) : Int) = 10 from rfl)) (zm_rd (Z := Z) (ν := ν) (k := 11) (show ((0 : Nat) : Int) = 0 from rfl) (show ((0 : Nat) : Int) = 0 from rfl) (show ((13 : Nat) : Int) = 13 from rfl)) (by omega) (by omega) (by omega) (by omega)) (fun h53 => ?_) (fun h53 => ?_)
                · replace hP := zE_p hP h53
                  have r54 := zH_k hZ 50 0 a2 2 (lo := 0) (hi := 1) (by decide) rfl
                  refine wz_br (i3NE (zm_rd (Z := Z) (ν := ν) (k := 50) (show ((0 : Nat) : Int) = 0 from rfl) (i3I (y := a2) (rfl : i3 a2 = i3 a2) (by omega) (by omega) (by omega)) (show ((2 : Nat) : Int) = 2 from rfl)) (show (0 : Int32) = i3 0 from rfl) (by omega) (by omega) (by omega) (by omega)) (fun h55 => ?_) (fun h55 => ?_)
                  · replace hP := zE_p hP h55
                    refine wz_i1 (Eq.trans (i3NE (show (3 : Int32) = i3 3 from rfl) (show (1 : Int32) = i3 1 from rfl) (by omega) (by omega) (by omega) (by omega)) (decide_eq_true (by omega))) ?_
                    refine wz_i1 (Eq.trans (i3NE (show (3 : Int32) = i3 3 from rfl) (show (2 : Int32) = i3 2 from rfl) (by omega) (by omega) (by omega) (by omega)) (decide_eq_true (by omega))) ?_
                    refine wz_i0 (Eq.trans (i3NE (show (3 : Int32) = i3 3 from rfl) (show (3 : Int32) = i3 3 from rfl) (by omega) (by omega) (by omega) (by omega)) (decide_eq_false (by omega))) ?_
                    exact zlGe (E := 14) hP ⟨(zbw (a := 0) (c := 2) hZ (Nat.le_of_ble_eq_true rfl)), zC_r, zU_r, zG_w (zG_k rfl) (Nat.le_of_ble_eq_true rfl) (Nat.le_of_ble_eq_true rfl)⟩
                  · replace hP := zE_n hP h55
                    obtain ⟨v56, hv56, c9, lv56, uv56⟩ := sp_43 (ν := ν) hZ 0 (a1 := a2) (by omega) (zbh (c := 0) (k := 0) hM (Nat.le_of_ble_eq_true rfl))
                    replace hP := zl_e hP hv56
                    refine wz_cI_of (zas (zcons rfl (zcons (zvi (rfl : i3 a2 = i3 a2)) rfl)) c9) ?_
                    clear c9
                    have r57 := zH_k hZ 50 0 a2 0 (lo := 0) (hi := 99) (by decide) rfl
                    have r58 := zH_k hZ 47 0 a1 3 (lo := 0) (hi := 40) (by decide) rfl
                    have r59 := w3_r (v56 + (Z 47 0 a1 3))
                    refine wz_br (i3L (zm_rd (Z := Z) (ν := ν) (k := 50) (show ((0 : Nat) : Int) = 0 from rfl) (i3I (y := a2) (rfl : i3 a2 = i3 a2) (by omega) (by omega) (by omega)) (show ((0 : Nat) : Int) = 0 from rfl)) (i3W (i3A (rfl : i3 v56 = i3 v56) (zm_rd (Z := Z) (ν := ν) (k := 47) (show ((0 : Nat) : Int) = 0 from rfl) (i3I (y := a1) (rfl : i3 a1 = i3 a1) (by omega) (by omega) (by omega)) (show ((3 : Nat) : Int) = 3 from rfl)))) (by omega) (by omega) (by omega) (by omega)) (fun h60 => ?_) (fun h60 => ?_)
                    · replace hP := zE_p hP h60
                      refine wz_i1 (Eq.trans (i3NE (show (3 : Int32) = i3 3 from rfl) (show (1 : Int32) = i3 1 from rfl) (by omega) (by omega) (by omega) (by omega)) (decide_eq_true (by omega))) ?_
                      refine wz_i1 (Eq.trans (i3NE (show (3 : Int32) = i3 3 from rfl) (show (2 : Int32) = i3 2 from rfl) (by omega) (by omega) (by omega) (by omega)) (decide_eq_true (by omega))) ?_
                      refine wz_i0 (Eq.trans (i3NE (show (3 : Int32) = i3 3 from rfl) (show (3 : Int32) = i3 3 from rfl) (by omega) (by omega) (by omega) (by omega)) (decide_eq_false (by omega))) ?_
                      exact zlGe (E := 14) hP ⟨(zbw (a := 0) (c := 2) hZ (Nat.le_of_ble_eq_true rfl)), zC_r, zU_r, zG_w (zG_k rfl) (Nat.le_of_ble_eq_true rfl) (Nat.le_of_ble_eq_true rfl)⟩
                    · replace hP := zE_n hP h60
                      obtain ⟨v61, hv61, c9, lv61, uv61⟩ := sp_53 (ν := ν) hZ 0 (a1 := a2) (by omega) (zbh (c := 0) (k := 0) hM (Nat.le_of_ble_eq_true rfl))
                      replace hP := zl_e hP hv61
                      refine wz_cI_of (zas (zcons rfl (zcons (zvi (rfl : i3 a2 = i3 a2)) rfl)) c9) ?_
                      clear c9
                      refine wz_br (i3L (show (0 : Int32) = i3 0 from rfl) (rfl : i3 v61 = i3 v61) (by omega) (by omega) (by omega) (by omega)) (fun h62 => ?_) (fun h62 => ?_)
                      · replace hP := zE_p hP h62
                        refine wz_i1 (Eq.trans (i3NE (show (0 : Int32) = i3 0 from rfl) (show (1 : Int32) = i3 1 from rfl) (by omega) (by omega) (by omega) (by omega)) (decide_eq_true (by omega))) ?_
                        refine wz_i1 (Eq.trans (i3NE (show (0 : Int32) = i3 0 from rfl) (show (2 : Int32) = i3 2 from rfl) (by omega) (by omega) (by omega) (by omega)) (decide_eq_true (by omega))) ?_
                        refine wz_i1 (Eq.trans (i3NE (show (0 : Int32) = i3 0 from rfl) (show (3 : Int32) = i3 3 from rfl) (by omega) (by omega) (by omega) (by omega)) (decide_eq_true (by omega))) ?_
                        refine dc_J (zcons rfl (zcons (zvi (show (20 : Int32) = i3 20 from rfl)) (zcons (zvi (rfl : i3 a1 = i3 a1)) (zcons (zvi (rfl : i3 a2 = i3 a2)) (zcons (zvi (show (0 : Int32) = i3 0 from rfl)) (zcons (zvi (show (0 : Int32) = i3 0 from rfl)) (zcons (zvi (show (0 : Int32) = i3 0 from rfl)) (zcons (zvi (show (0 : Int32) = i3 0 from rfl)) rfl)))))))) (dg (hZ).1 (by omega) (by omega) (by omega) (by omega) (by omega) (by omega) (by omega) ?_)
                        have hZ63I := zH_dd hZ (a1 := 20) (a2 := a1) (a3 := a2) (a4 := 0) (a5 := 0) (a6 := 0) (a7 := 0) (by omega) (by omega) (by omega) (by omega) (by omega) (by omega) (by omega)
                        have kZ63 : zC [3, 12, 13, 14, 40, 41, 42, 43, 44, 45, 46, 47, 48, 49, 50, 51, 52, 53, 54, 61, 68, 1099, 1100, 1101, 1102, 1103, 1104, 1105, 1106, 1107, 1108, 1109, 1110, 1111, 1112, 1113, 1114, 1115, 1116] Z (zdd Z 20 a1 a2 0 0 0 0) := zC_k zdd_K (by decide) (by decide)
                        have hZ63A : (zdd Z 20 a1 a2 0 0 0 0) 68 0 0 0 = 20 ∧ (zdd Z 20 a1 a2 0 0 0 0) 68 0 0 1 = a1 ∧ (zdd Z 20 a1 a2 0 0 0 0) 68 0 0 2 = a2 ∧ (zdd Z 20 a1 a2 0 0 0 0) 68 0 0 3 = 0 ∧ (zdd Z 20 a1 a2 0 0 0 0) 68 0 0 4 = 0 ∧ (zdd Z 20 a1 a2 0 0 0 0) 68 0 0 5 = 0 ∧ (zdd Z 20 a1 a2 0 0 0 0) 68 0 0 6 = 0 := ⟨zdd_68, zdd_68, zdd_68, zdd_68, zdd_68, zdd_68, zdd_68⟩
                        obtain ⟨Z63, hZ63⟩ := zx (zdd Z 20 a1 a2 0 0 0 0)
                        have dZ63 : ∀ {k : Nat} {i j : Int}, zhall k = true → ¬ (k = 11 ∧ (j = 15 ∨ j = 16)) → Z63 k 0 i j = Z k 0 i j := fun hk hj => by rw [hZ63]; exact zdd_h (hZ).1 hk hj
                        have jZ63 : zU [0, 2, 3, 4, 5, 6, 7, 8, 9] Z (zdd Z 20 a1 a2 0 0 0 0) := zU_dd (hZ).1
                        rw [← hZ63] at hZ63I kZ63 jZ63 hZ63A ⊢
                        have hZ63U : zU [0, 2, 3, 4, 5, 6, 7, 8, 9] Z Z63 := zU_t zU_r jZ63 (zU_b1 (List.Mem.head _) (zU_b1 (List.Mem.tail _ (List.Mem.head _)) (zU_b1 (List.Mem.tail _ (List.Mem.tail _ (List.Mem.head _))) (zU_b1 (List.Mem.tail _ (List.Mem.tail _ (List.Mem.tail _ (List.Mem.head _)))) (zU_b1 (List.Mem.tail _ (List.Mem.tail _ (List.Mem.tail _ (List.Mem.tail _ (List.Mem.head _))))) (zU_b1 (List.Mem.tail _ (List.Mem.tail _ (List.Mem.tail _ (List.Mem.tail _ (List.Mem.tail _ (List.Mem.head _)))))) (zU_b1 (List.Mem.tail _ (List.Mem.tail _ (List.Mem.tail _ (List.Mem.tail _ (List.Mem.tail _ (List.Mem.tail _ (List.Mem.head _))))))) (zU_b1 (List.Mem.tail _ (List.Mem.tail _ (List.Mem.tail _ (List.Mem.tail _ (List.Mem.tail _ (List.Mem.tail _ (List.Mem.tail _ (List.Mem.head _)))))))) (zU_b1 (List.Mem.tail _ (List.Mem.tail _ (List.Mem.tail _ (List.Mem.tail _ (List.Mem.tail _ (List.Mem.tail _ (List.Mem.tail _ (List.Mem.tail _ (List.Mem.head _))))))))) zU_b0)))))))))
                        replace hP := zl_e hP hZ63
                        have hZ63K : zC [3, 12, 13, 14, 40, 41, 42, 43, 44, 45, 46, 47, 48, 49, 50, 51, 52, 53, 54, 61, 68, 1099, 1100, 1101, 1102, 1103, 1104, 1105, 1106, 1107, 1108, 1109, 1110, 1111, 1112, 1113, 1114, 1115, 1116] Z Z63 := zC_t zC_r kZ63 (by decide)
                        clear kZ63 hZ63
                        refine fw_121 _ _ _ _ ?_
                        refine wz_i1 rfl ?_
                        refine wz_i0 (i3O (n := 7) (show (0 : Int32) = i3 0 from rfl) (by omega) (by omega) (by omega)) ?_
                        refine wz_i0 (Eq.trans (i3To (Eq.trans (zm_rd (Z := Z63) (ν := ν) (k := 68) (show ((0 : Nat) : Int) = 0 from rfl) (show ((0 : Nat) : Int) = 0 from rfl) (show ((0 : Nat) : Int) = 0 from rfl)) (congrArg i3 ((hZ63A.1)))) (by omega) (by omega)) (decide_eq_false (by omega))) ?_
                        refine wz_i0 (Eq.trans (i3T (Eq.trans (zm_rd (Z := Z63) (ν := ν) (k := 68) (show ((0 : Nat) : Int) = 0 from rfl) (show ((0 : Nat) : Int) = 0 from rfl) (show ((0 : Nat) : Int) = 0 from rfl)) (congrArg i3 ((hZ63A.1)))) (by omega) (by omega)) (decide_eq_false (by omega))) ?_
                        refine wz_i0 (Eq.trans (i3T (Eq.trans (zm_rd (Z := Z63) (ν := ν) (k := 68) (show ((0 : Nat) : Int) = 0 from rfl) (show ((0 : Nat) : Int) = 0 from rfl) (show ((0 : Nat) : Int) = 0 from rfl)) (congrArg i3 ((hZ63A.1)))) (by omega) (by omega)) (decide_eq_false (by omega))) ?_
                        refine wz_i0 (Eq.trans (i3T (Eq.trans (zm_rd (Z := Z63) (ν := ν) (k := 68) (show ((0 : Nat) : Int) = 0 from rfl) (show ((0 : Nat) : Int) = 0 from rfl) (show ((0 : Nat) : Int) = 0 from rfl)) (congrArg i3 ((hZ63A.1)))) (by omega) (by omega)) (decide_eq_false (by omega))) ?_
                        refine wz_i0 (Eq.trans (i3T (Eq.trans (zm_rd (Z := Z63) (ν := ν) (k := 68) (show ((0 : Nat) : Int) = 0 from rfl) (show ((0 : Nat) : Int) = 0 from rfl) (show ((0 : Nat) : Int) = 0 from rfl)) (congrArg i3 ((hZ63A.1)))) (by omega) (by omega)) (decide_eq_false (by omega))) ?_
                        refine wz_i0 (Eq.trans (i3T (Eq.trans (zm_rd (Z := Z63) (ν := ν) (k := 68) (show ((0 : Nat) : Int) = 0 from rfl) (show ((0 : Nat) : Int) = 0 from rfl) (show ((0 : Nat) : Int) = 0 from rfl)) (congrArg i3 ((hZ63A.1)))) (by omega) (by omega)) (decide_eq_false (by omega))) ?_
                        refine wz_i0 (Eq.trans (i3T (Eq.trans (zm_rd (Z := Z63) (ν := ν) (k := 68) (show ((0 : Nat) : Int) = 0 from rfl) (show ((0 : Nat) : Int) = 0 from rfl) (show ((0 : Nat) : Int) = 0 from rfl)) (congrArg i3 ((hZ63A.1)))) (by omega) (by omega)) (decide_eq_false (by omega))) ?_
                        refine wz_i0 (Eq.trans (i3T (Eq.trans (zm_rd (Z := Z63) (ν := ν) (k := 68) (show ((0 : Nat) : Int) = 0 from rfl) (show ((0 : Nat) : Int) = 0 from rfl) (show ((0 : Nat) : Int) = 0 from rfl)) (congrArg i3 ((hZ63A.1)))) (by omega) (by omega)) (decide_eq_false (by omega))) ?_
                        refine wz_i0 (Eq.trans (i3T (Eq.trans (zm_rd (Z := Z63) (ν := ν) (k := 68) (show ((0 : Nat) : Int) = 0 from rfl) (show ((0 : Nat) : Int) = 0 from rfl) (show ((0 : Nat) : Int) = 0 from rfl)) (congrArg i3 ((hZ63A.1)))) (by omega) (by omega)) (decide_eq_false (by omega))) ?_
                        refine wz_i0 (Eq.trans (i3T (Eq.trans (zm_rd (Z := Z63) (ν := ν) (k := 68) (show ((0 : Nat) : Int) = 0 from rfl) (show ((0 : Nat) : Int) = 0 from rfl) (show ((0 : Nat) : Int) = 0 from rfl)) (congrArg i3 ((hZ63A.1)))) (by omega) (by omega)) (decide_eq_false (by omega))) ?_
                        refine wz_i0 (Eq.trans (i3T (Eq.trans (zm_rd (Z := Z63) (ν := ν) (k := 68) (show ((0 : Nat) : Int) = 0 from rfl) (show ((0 : Nat) : Int) = 0 from rfl) (show ((0 : Nat) : Int) = 0 from rfl)) (congrArg i3 ((hZ63A.1)))) (by omega) (by omega)) (decide_eq_false (by omega))) ?_
                        refine wz_i0 (Eq.trans (i3T (Eq.trans (zm_rd (Z := Z63) (ν := ν) (k := 68) (show ((0 : Nat) : Int) = 0 from rfl) (show ((0 : Nat) : Int) = 0 from rfl) (show ((0 : Nat) : Int) = 0 from rfl)) (congrArg i3 ((hZ63A.1)))) (by omega) (by omega)) (decide_eq_false (by omega))) ?_
                        refine wz_i0 (Eq.trans (i3T (Eq.trans (zm_rd (Z := Z63) (ν := ν) (k := 68) (show ((0 : Nat) : Int) = 0 from rfl) (show ((0 : Nat) : Int) = 0 from rfl) (show ((0 : Nat) : Int) = 0 from rfl)) (congrArg i3 ((hZ63A.1)))) (by omega) (by omega)) (decide_eq_false (by omega))) ?_
                        refine wz_i0 (Eq.trans (i3T (Eq.trans (zm_rd (Z := Z63) (ν := ν) (k := 68) (show ((0 : Nat) : Int) = 0 from rfl) (show ((0 : Nat) : Int) = 0 from rfl) (show ((0 : Nat) : Int) = 0 from rfl)) (congrArg i3 ((hZ63A.1)))) (by omega) (by omega)) (decide_eq_false (by omega))) ?_
                        refine wz_i0 (Eq.trans (i3T (Eq.trans (zm_rd (Z := Z63) (ν := ν) (k := 68) (show ((0 : Nat) : Int) = 0 from rfl) (show ((0 : Nat) : Int) = 0 from rfl) (show ((0 : Nat) : Int) = 0 from rfl)) (congrArg i3 ((hZ63A.1)))) (by omega) (by omega)) (decide_eq_false (by omega))) ?_
                        refine wz_i0 (Eq.trans (i3T (Eq.trans (zm_rd (Z := Z63) (ν := ν) (k := 68) (show ((0 : Nat) : Int) = 0 from rfl) (show ((0 : Nat) : Int) = 0 from rfl) (show ((0 : Nat) : Int) = 0 from rfl)) (congrArg i3 ((hZ63A.1)))) (by omega) (by omega)) (decide_eq_false (by omega))) ?_
                        refine wz_i0 (Eq.trans (i3T (Eq.trans (zm_rd (Z := Z63) (ν := ν) (k := 68) (show ((0 : Nat) : Int) = 0 from rfl) (show ((0 : Nat) : Int) = 0 from rfl) (show ((0 : Nat) : Int) = 0 from rfl)) (congrArg i3 ((hZ63A.1)))) (by omega) (by omega)) (decide_eq_false (by omega))) ?_
                        refine wz_i0 (Eq.trans (i3T (Eq.trans (zm_rd (Z := Z63) (ν := ν) (k := 68) (show ((0 : Nat) : Int) = 0 from rfl) (show ((0 : Nat) : Int) = 0 from rfl) (show ((0 : Nat) : Int) = 0 from rfl)) (congrArg i3 ((hZ63A.1)))) (by omega) (by omega)) (decide_eq_false (by omega))) ?_
                        refine wz_i0 (Eq.trans (i3T (Eq.trans (zm_rd (Z := Z63) (ν := ν) (k := 68) (show ((0 : Nat) : Int) = 0 from rfl) (show ((0 : Nat) : Int) = 0 from rfl) (show ((0 : Nat) : Int) = 0 from rfl)) (congrArg i3 ((hZ63A.1)))) (by omega) (by omega)) (decide_eq_false (by omega))) ?_
                        refine wz_i0 (Eq.trans (i3T (Eq.trans (zm_rd (Z := Z63) (ν := ν) (k := 68) (show ((0 : Nat) : Int) = 0 from rfl) (show ((0 : Nat) : Int) = 0 from rfl) (show ((0 : Nat) : Int) = 0 from rfl)) (congrArg i3 ((hZ63A.1)))) (by omega) (by omega)) (decide_eq_false (by omega))) ?_
                        refine wz_i0 (Eq.trans (i3T (Eq.trans (zm_rd (Z := Z63) (ν := ν) (k := 68) (show ((0 : Nat) : Int) = 0 from rfl) (show ((0 : Nat) : Int) = 0 from rfl) (show ((0 : Nat) : Int) = 0 from rfl)) (congrArg i3 ((hZ63A.1)))) (by omega) (by omega)) (decide_eq_false (by omega))) ?_
                        refine wz_i1 (Eq.trans (i3T (Eq.trans (zm_rd (Z := Z63) (ν := ν) (k := 68) (show ((0 : Nat) : Int) = 0 from rfl) (show ((0 : Nat) : Int) = 0 from rfl) (show ((0 : Nat) : Int) = 0 from rfl)) (congrArg i3 ((hZ63A.1)))) (by omega) (by omega)) (decide_eq_true (by omega))) ?_
                        refine wz_i1 rfl ?_
                        refine wz_i0 (i3O (n := 7) (show (1 : Int32) = i3 1 from rfl) (by omega) (by omega) (by omega)) ?_
                        refine wz_i1 rfl ?_
                        refine wz_i0 (i3O (n := 7) (show (2 : Int32) = i3 2 from rfl) (by omega) (by omega) (by omega)) ?_
                        obtain ⟨Z64, v65, hv65, c9, hZ64I, kZ64, jZ64, lv65, uv65⟩ := sp_50 (ν := ν) hZ63I 0 (a1 := a1) (by omega) (a2 := a2) (by omega) (zbh (c := 0) (k := 2) hM (Nat.le_of_ble_eq_true rfl))
                        have hZ64U : zU [0, 2, 3, 4, 5, 6, 7, 8, 9] Z Z64 := zU_t hZ63U jZ64 (zU_b1 (List.Mem.head _) zU_b0)
                        have hZ64K : zC [3, 12, 13, 14, 40, 41, 42, 43, 44, 45, 46, 47, 48, 49, 50, 51, 52, 53, 54, 61, 68, 1099, 1100, 1101, 1102, 1103, 1104, 1105, 1106, 1107, 1108, 1109, 1110, 1111, 1112, 1113, 1114, 1115, 1116] Z Z64 := zC_t hZ63K kZ64 (by decide)
                        replace hP := zl_e2 hP hv65
                        refine wz_cI_of (zas (zcons rfl (zcons (zvi (Eq.trans (zm_rd (Z := Z63) (ν := ν) (k := 68) (show ((0 : Nat) : Int) = 0 from rfl) (show ((0 : Nat) : Int) = 0 from rfl) (show ((1 : Nat) : Int) = 1 from rfl)) (congrArg i3 ((hZ63A.2.1))))) (zcons (zvi (Eq.trans (zm_rd (Z := Z63) (ν := ν) (k := 68) (show ((0 : Nat) : Int) = 0 from rfl) (show ((0 : Nat) : Int) = 0 from rfl) (show ((2 : Nat) : Int) = 2 from rfl)) (congrArg i3 ((hZ63A.2.2.1))))) rfl))) c9) ?_
                        clear c9 hv65
                        exact zlG hP (rfl : i3 v65 = i3 v65) ⟨hZ64I, hZ64K, hZ64U, zG_w zG_r (Nat.le_of_ble_eq_true rfl) (Nat.le_of_ble_eq_true rfl)⟩
                      · replace hP := zE_n hP h62
                        obtain ⟨v66, hv66, c9, lv66, uv66⟩ := sp_40 (ν := ν) hZ 0 (zbh (c := 0) (k := 0) hM (Nat.le_of_ble_eq_true rfl))
                        replace hP := zl_e hP hv66
                        refine wz_cI_of (zas (zcons rfl rfl) c9) ?_
                        clear c9
                        have r67 := zH_k hZ 11 0 0 14 (lo := 0) (hi := 4) (by decide) rfl
                        refine wz_br (i3Le (zm_rd (Z := Z) (ν := ν) (k := 11) (show ((0 : Nat) : Int) = 0 from rfl) (show ((0 : Nat) : Int) = 0 from rfl) (show ((14 : Nat) : Int) = 14 from rfl)) (rfl : i3 v66 = i3 v66) (by omega) (by omega) (by omega) (by omega)) (fun h68 => ?_) (fun h68 => ?_)
                        · replace hP := zE_p hP h68
                          refine wz_i1 (Eq.trans (i3NE (show (3 : Int32) = i3 3 from rfl) (show (1 : Int32) = i3 1 from rfl) (by omega) (by omega) (by omega) (by omega)) (decide_eq_true (by omega))) ?_
                          refine wz_i1 (Eq.trans (i3NE (show (3 : Int32) = i3 3 from rfl) (show (2 : Int32) = i3 2 from rfl) (by omega) (by omega) (by omega) (by omega)) (decide_eq_true (by omega))) ?_
                          refine wz_i0 (Eq.trans (i3NE (show (3 : Int32) = i3 3 from rfl) (show (3 : Int32) = i3 3 from rfl) (by omega) (by omega) (by omega) (by omega)) (decide_eq_false (by omega))) ?_
                          exact zlGe (E := 14) hP ⟨(zbw (a := 0) (c := 2) hZ (Nat.le_of_ble_eq_true rfl)), zC_r, zU_r, zG_w (zG_k rfl) (Nat.le_of_ble_eq_true rfl) (Nat.le_of_ble_eq_true rfl)⟩
                        · replace hP := zE_n hP h68
                          refine wz_i1 (Eq.trans (i3NE (show (0 : Int32) = i3 0 from rfl) (show (1 : Int32) = i3 1 from rfl) (by omega) (by omega) (by omega) (by omega)) (decide_eq_true (by omega))) ?_
                          refine wz_i1 (Eq.trans (i3NE (show (0 : Int32) = i3 0 from rfl) (show (2 : Int32) = i3 2 from rfl) (by omega) (by omega) (by omega) (by omega)) (decide_eq_true (by omega))) ?_
                          refine wz_i1 (Eq.trans (i3NE (show (0 : Int32) = i3 0 from rfl) (show (3 : Int32) = i3 3 from rfl) (by omega) (by omega) (by omega) (by omega)) (decide_eq_true (by omega))) ?_
                          refine dc_J (zcons rfl (zcons (zvi (show (20 : Int32) = i3 20 from rfl)) (zcons (zvi (rfl : i3 a1 = i3 a1)) (zcons (zvi (rfl : i3 a2 = i3 a2)) (zcons (zvi (show (0 : Int32) = i3 0 from rfl)) (zcons (zvi (show (0 : Int32) = i3 0 from rfl)) (zcons (zvi (show (0 : Int32) = i3 0 from rfl)) (zcons (zvi (show (0 : Int32) = i3 0 from rfl)) rfl)))))))) (dg (hZ).1 (by omega) (by omega) (by omega) (by omega) (by omega) (by omega) (by omega) ?_)
                          have hZ69I := zH_dd hZ (a1 := 20) (a2 := a1) (a3 := a2) (a4 := 0) (a5 := 0) (a6 := 0) (a7 := 0) (by omega) (by omega) (by omega) (by omega) (by omega) (by omega) (by omega)
                          have kZ69 : zC [3, 12, 13, 14, 40, 41, 42, 43, 44, 45, 46, 47, 48, 49, 50, 51, 52, 53, 54, 61, 68, 1099, 1100, 1101, 1102, 1103, 1104, 1105, 1106, 1107, 1108, 1109, 1110, 1111, 1112, 1113, 1114, 1115, 1116] Z (zdd Z 20 a1 a2 0 0 0 0) := zC_k zdd_K (by decide) (by decide)
                          have hZ69A : (zdd Z 20 a1 a2 0 0 0 0) 68 0 0 0 = 20 ∧ (zdd Z 20 a1 a2 0 0 0 0) 68 0 0 1 = a1 ∧ (zdd Z 20 a1 a2 0 0 0 0) 68 0 0 2 = a2 ∧ (zdd Z 20 a1 a2 0 0 0 0) 68 0 0 3 = 0 ∧ (zdd Z 20 a1 a2 0 0 0 0) 68 0 0 4 = 0 ∧ (zdd Z 20 a1 a2 0 0 0 0) 68 0 0 5 = 0 ∧ (zdd Z 20 a1 a2 0 0 0 0) 68 0 0 6 = 0 := ⟨zdd_68, zdd_68, zdd_68, zdd_68, zdd_68, zdd_68, zdd_68⟩
                          obtain ⟨Z69, hZ69⟩ := zx (zdd Z 20 a1 a2 0 0 0 0)
                          have dZ69 : ∀ {k : Nat} {i j : Int}, zhall k = true → ¬ (k = 11 ∧ (j = 15 ∨ j = 16)) → Z69 k 0 i j = Z k 0 i j := fun hk hj => by rw [hZ69]; exact zdd_h (hZ).1 hk hj
                          have jZ69 : zU [0, 2, 3, 4, 5, 6, 7, 8, 9] Z (zdd Z 20 a1 a2 0 0 0 0) := zU_dd (hZ).1
                          rw [← hZ69] at hZ69I kZ69 jZ69 hZ69A ⊢
                          have hZ69U : zU [0, 2, 3, 4, 5, 6, 7, 8, 9] Z Z69 := zU_t zU_r jZ69 (zU_b1 (List.Mem.head _) (zU_b1 (List.Mem.tail _ (List.Mem.head _)) (zU_b1 (List.Mem.tail _ (List.Mem.tail _ (List.Mem.head _))) (zU_b1 (List.Mem.tail _ (List.Mem.tail _ (List.Mem.tail _ (List.Mem.head _)))) (zU_b1 (List.Mem.tail _ (List.Mem.tail _ (List.Mem.tail _ (List.Mem.tail _ (List.Mem.head _))))) (zU_b1 (List.Mem.tail _ (List.Mem.tail _ (List.Mem.tail _ (List.Mem.tail _ (List.Mem.tail _ (List.Mem.head _)))))) (zU_b1 (List.Mem.tail _ (List.Mem.tail _ (List.Mem.tail _ (List.Mem.tail _ (List.Mem.tail _ (List.Mem.tail _ (List.Mem.head _))))))) (zU_b1 (List.Mem.tail _ (List.Mem.tail _ (List.Mem.tail _ (List.Mem.tail _ (List.Mem.tail _ (List.Mem.tail _ (List.Mem.tail _ (List.Mem.head _)))))))) (zU_b1 (List.Mem.tail _ (List.Mem.tail _ (List.Mem.tail _ (List.Mem.tail _ (List.Mem.tail _ (List.Mem.tail _ (List.Mem.tail _ (List.Mem.tail _ (List.Mem.head _))))))))) zU_b0)))))))))
                          replace hP := zl_e hP hZ69
                          have hZ69K : zC [3, 12, 13, 14, 40, 41, 42, 43, 44, 45, 46, 47, 48, 49, 50, 51, 52, 53, 54, 61, 68, 1099, 1100, 1101, 1102, 1103, 1104, 1105, 1106, 1107, 1108, 1109, 1110, 1111, 1112, 1113, 1114, 1115, 1116] Z Z69 := zC_t zC_r kZ69 (by decide)
                          clear kZ69 hZ69
                          refine fw_121 _ _ _ _ ?_
                          refine wz_i1 rfl ?_
                          refine wz_i0 (i3O (n := 7) (show (0 : Int32) = i3 0 from rfl) (by omega) (by omega) (by omega)) ?_
                          refine wz_i0 (Eq.trans (i3To (Eq.trans (zm_rd (Z := Z69) (ν := ν) (k := 68) (show ((0 : Nat) : Int) = 0 from rfl) (show ((0 : Nat) : Int) = 0 from rfl) (show ((0 : Nat) : Int) = 0 from rfl)) (congrArg i3 ((hZ69A.1)))) (by omega) (by omega)) (decide_eq_false (by omega))) ?_
                          refine wz_i0 (Eq.trans (i3T (Eq.trans (zm_rd (Z := Z69) (ν := ν) (k := 68) (show ((0 : Nat) : Int) = 0 from rfl) (show ((0 : Nat) : Int) = 0 from rfl) (show ((0 : Nat) : Int) = 0 from rfl)) (congrArg i3 ((hZ69A.1)))) (by omega) (by omega)) (decide_eq_false (by omega))) ?_
                          refine wz_i0 (Eq.trans (i3T (Eq.trans (zm_rd (Z := Z69) (ν := ν) (k := 68) (show ((0 : Nat) : Int) = 0 from rfl) (show ((0 : Nat) : Int) = 0 from rfl) (show ((0 : Nat) : Int) = 0 from rfl)) (congrArg i3 ((hZ69A.1)))) (by omega) (by omega)) (decide_eq_false (by omega))) ?_
                          refine wz_i0 (Eq.trans (i3T (Eq.trans (zm_rd (Z := Z69) (ν := ν) (k := 68) (show ((0 : Nat) : Int) = 0 from rfl) (show ((0 : Nat) : Int) = 0 from rfl) (show ((0 : Nat) : Int) = 0 from rfl)) (congrArg i3 ((hZ69A.1)))) (by omega) (by omega)) (decide_eq_false (by omega))) ?_
                          refine wz_i0 (Eq.trans (i3T (Eq.trans (zm_rd (Z := Z69) (ν := ν) (k := 68) (show ((0 : Nat) : Int) = 0 from rfl) (show ((0 : Nat) : Int) = 0 from rfl) (show ((0 : Nat) : Int) = 0 from rfl)) (congrArg i3 ((hZ69A.1)))) (by omega) (by omega)) (decide_eq_false (by omega))) ?_
                          refine wz_i0 (Eq.trans (i3T (Eq.trans (zm_rd (Z := Z69) (ν := ν) (k := 68) (show ((0 : Nat) : Int) = 0 from rfl) (show ((0 : Nat) : Int) = 0 from rfl) (show ((0 : Nat) : Int) = 0 from rfl)) (congrArg i3 ((hZ69A.1)))) (by omega) (by omega)) (decide_eq_false (by omega))) ?_
                          refine wz_i0 (Eq.trans (i3T (Eq.trans (zm_rd (Z := Z69) (ν := ν) (k := 68) (show ((0 : Nat) : Int) = 0 from rfl) (show ((0 : Nat) : Int) = 0 from rfl) (show ((0 : Nat) : Int) = 0 from rfl)) (congrArg i3 ((hZ69A.1)))) (by omega) (by omega)) (decide_eq_false (by omega))) ?_
                          refine wz_i0 (Eq.trans (i3T (Eq.trans (zm_rd (Z := Z69) (ν := ν) (k := 68) (show ((0 : Nat) : Int) = 0 from rfl) (show ((0 : Nat) : Int) = 0 from rfl) (show ((0 : Nat) : Int) = 0 from rfl)) (congrArg i3 ((hZ69A.1)))) (by omega) (by omega)) (decide_eq_false (by omega))) ?_
                          refine wz_i0 (Eq.trans (i3T (Eq.trans (zm_rd (Z := Z69) (ν := ν) (k := 68) (show ((0 : Nat) : Int) = 0 from rfl) (show ((0 : Nat) : Int) = 0 from rfl) (show ((0 : Nat) : Int) = 0 from rfl)) (congrArg i3 ((hZ69A.1)))) (by omega) (by omega)) (decide_eq_false (by omega))) ?_
                          refine wz_i0 (Eq.trans (i3T (Eq.trans (zm_rd (Z := Z69) (ν := ν) (k := 68) (show ((0 : Nat) : Int) = 0 from rfl) (show ((0 : Nat) : Int) = 0 from rfl) (show ((0 : Nat) : Int) = 0 from rfl)) (congrArg i3 ((hZ69A.1)))) (by omega) (by omega)) (decide_eq_false (by omega))) ?_
                          refine wz_i0 (Eq.trans (i3T (Eq.trans (zm_rd (Z := Z69) (ν := ν) (k := 68) (show ((0 : Nat) : Int) = 0 from rfl) (show ((0 : Nat) : Int) = 0 from rfl) (show ((0 : Nat) : Int) = 0 from rfl)) (congrArg i3 ((hZ69A.1)))) (by omega) (by omega)) (decide_eq_false (by omega))) ?_
                          refine wz_i0 (Eq.trans (i3T (Eq.trans (zm_rd (Z := Z69) (ν := ν) (k := 68) (show ((0 : Nat) : Int) = 0 from rfl) (show ((0 : Nat) : Int) = 0 from rfl) (show ((0 : Nat) : Int) = 0 from rfl)) (congrArg i3 ((hZ69A.1)))) (by omega) (by omega)) (decide_eq_false (by omega))) ?_
                          refine wz_i0 (Eq.trans (i3T (Eq.trans (zm_rd (Z := Z69) (ν := ν) (k := 68) (show ((0 : Nat) : Int) = 0 from rfl) (show ((0 : Nat) : Int) = 0 from rfl) (show ((0 : Nat) : Int) = 0 from rfl)) (congrArg i3 ((hZ69A.1)))) (by omega) (by omega)) (decide_eq_false (by omega))) ?_
                          refine wz_i0 (Eq.trans (i3T (Eq.trans (zm_rd (Z := Z69) (ν := ν) (k := 68) (show ((0 : Nat) : Int) = 0 from rfl) (show ((0 : Nat) : Int) = 0 from rfl) (show ((0 : Nat) : Int) = 0 from rfl)) (congrArg i3 ((hZ69A.1)))) (by omega) (by omega)) (decide_eq_false (by omega))) ?_
                          refine wz_i0 (Eq.trans (i3T (Eq.trans (zm_rd (Z := Z69) (ν := ν) (k := 68) (show ((0 : Nat) : Int) = 0 from rfl) (show ((0 : Nat) : Int) = 0 from rfl) (show ((0 : Nat) : Int) = 0 from rfl)) (congrArg i3 ((hZ69A.1)))) (by omega) (by omega)) (decide_eq_false (by omega))) ?_
                          refine wz_i0 (Eq.trans (i3T (Eq.trans (zm_rd (Z := Z69) (ν := ν) (k := 68) (show ((0 : Nat) : Int) = 0 from rfl) (show ((0 : Nat) : Int) = 0 from rfl) (show ((0 : Nat) : Int) = 0 from rfl)) (congrArg i3 ((hZ69A.1)))) (by omega) (by omega)) (decide_eq_false (by omega))) ?_
                          refine wz_i0 (Eq.trans (i3T (Eq.trans (zm_rd (Z := Z69) (ν := ν) (k := 68) (show ((0 : Nat) : Int) = 0 from rfl) (show ((0 : Nat) : Int) = 0 from rfl) (show ((0 : Nat) : Int) = 0 from rfl)) (congrArg i3 ((hZ69A.1)))) (by omega) (by omega)) (decide_eq_false (by omega))) ?_
                          refine wz_i0 (Eq.trans (i3T (Eq.trans (zm_rd (Z := Z69) (ν := ν) (k := 68) (show ((0 : Nat) : Int) = 0 from rfl) (show ((0 : Nat) : Int) = 0 from rfl) (show ((0 : Nat) : Int) = 0 from rfl)) (congrArg i3 ((hZ69A.1)))) (by omega) (by omega)) (decide_eq_false (by omega))) ?_
                          refine wz_i0 (Eq.trans (i3T (Eq.trans (zm_rd (Z := Z69) (ν := ν) (k := 68) (show ((0 : Nat) : Int) = 0 from rfl) (show ((0 : Nat) : Int) = 0 from rfl) (show ((0 : Nat) : Int) = 0 from rfl)) (congrArg i3 ((hZ69A.1)))) (by omega) (by omega)) (decide_eq_false (by omega))) ?_
                          refine wz_i0 (Eq.trans (i3T (Eq.trans (zm_rd (Z := Z69) (ν := ν) (k := 68) (show ((0 : Nat) : Int) = 0 from rfl) (show ((0 : Nat) : Int) = 0 from rfl) (show ((0 : Nat) : Int) = 0 from rfl)) (congrArg i3 ((hZ69A.1)))) (by omega) (by omega)) (decide_eq_false (by omega))) ?_
                          refine wz_i0 (Eq.trans (i3T (Eq.trans (zm_rd (Z := Z69) (ν := ν) (k := 68) (show ((0 : Nat) : Int) = 0 from rfl) (show ((0 : Nat) : Int) = 0 from rfl) (show ((0 : Nat) : Int) = 0 from rfl)) (congrArg i3 ((hZ69A.1)))) (by omega) (by omega)) (decide_eq_false (by omega))) ?_
                          refine wz_i1 (Eq.trans (i3T (Eq.trans (zm_rd (Z := Z69) (ν := ν) (k := 68) (show ((0 : Nat) : Int) = 0 from rfl) (show ((0 : Nat) : Int) = 0 from rfl) (show ((0 : Nat) : Int) = 0 from rfl)) (congrArg i3 ((hZ69A.1)))) (by omega) (by omega)) (decide_eq_true (by omega))) ?_
                          refine wz_i1 rfl ?_
                          refine wz_i0 (i3O (n := 7) (show (1 : Int32) = i3 1 from rfl) (by omega) (by omega) (by omega)) ?_
                          refine wz_i1 rfl ?_
                          refine wz_i0 (i3O (n := 7) (show (2 : Int32) = i3 2 from rfl) (by omega) (by omega) (by omega)) ?_
                          obtain ⟨Z70, v71, hv71, c9, hZ70I, kZ70, jZ70, lv71, uv71⟩ := sp_50 (ν := ν) hZ69I 0 (a1 := a1) (by omega) (a2 := a2) (by omega) (zbh (c := 0) (k := 2) hM (Nat.le_of_ble_eq_true rfl))
                          have hZ70U : zU [0, 2, 3, 4, 5, 6, 7, 8, 9] Z Z70 := zU_t hZ69U jZ70 (zU_b1 (List.Mem.head _) zU_b0)
                          have hZ70K : zC [3, 12, 13, 14, 40, 41, 42, 43, 44, 45, 46, 47, 48, 49, 50, 51, 52, 53, 54, 61, 68, 1099, 1100, 1101, 1102, 1103, 1104, 1105, 1106, 1107, 1108, 1109, 1110, 1111, 1112, 1113, 1114, 1115, 1116] Z Z70 := zC_t hZ69K kZ70 (by decide)
                          replace hP := zl_e2 hP hv71
                          refine wz_cI_of (zas (zcons rfl (zcons (zvi (Eq.trans (zm_rd (Z := Z69) (ν := ν) (k := 68) (show ((0 : Nat) : Int) = 0 from rfl) (show ((0 : Nat) : Int) = 0 from rfl) (show ((1 : Nat) : Int) = 1 from rfl)) (congrArg i3 ((hZ69A.2.1))))) (zcons (zvi (Eq.trans (zm_rd (Z := Z69) (ν := ν) (k := 68) (show ((0 : Nat) : Int) = 0 from rfl) (show ((0 : Nat) : Int) = 0 from rfl) (show ((2 : Nat) : Int) = 2 from rfl)) (congrArg i3 ((hZ69A.2.2.1))))) rfl))) c9) ?_
                          clear c9 hv71
                          exact zlG hP (rfl : i3 v71 = i3 v71) ⟨hZ70I, hZ70K, hZ70U, zG_w zG_r (Nat.le_of_ble_eq_true rfl) (Nat.le_of_ble_eq_true rfl)⟩
                · replace hP := zE_n hP h53
                  refine wz_i1 (Eq.trans (i3NE (show (3 : Int32) = i3 3 from rfl) (show (1 : Int32) = i3 1 from rfl) (by omega) (by omega) (by omega) (by omega)) (decide_eq_true (by omega))) ?_
                  refine wz_i1 (Eq.trans (i3NE (show (3 : Int32) = i3 3 from rfl) (show (2 : Int32) = i3 2 from rfl) (by omega) (by omega) (by omega) (by omega)) (decide_eq_true (by omega))) ?_
                  refine wz_i0 (Eq.trans (i3NE (show (3 : Int32) = i3 3 from rfl) (show (3 : Int32) = i3 3 from rfl) (by omega) (by omega) (by omega) (by omega)) (decide_eq_false (by omega))) ?_
                  exact zlGe (E := 14) hP ⟨(zbw (a := 0) (c := 2) hZ (Nat.le_of_ble_eq_true rfl)), zC_r, zU_r, zG_w (zG_k rfl) (Nat.le_of_ble_eq_true rfl) (Nat.le_of_ble_eq_true rfl)⟩
        · replace hP := zE_n hP h6
          refine wz_i0 (Eq.trans (i3NE (show (1 : Int32) = i3 1 from rfl) (show (1 : Int32) = i3 1 from rfl) (by omega) (by omega) (by omega) (by omega)) (decide_eq_false (by omega))) ?_
          exact zlGe (E := 23) hP ⟨(zbw (a := 0) (c := 2) hZ (Nat.le_of_ble_eq_true rfl)), zC_r, zU_r, zG_w (zG_k rfl) (Nat.le_of_ble_eq_true rfl) (Nat.le_of_ble_eq_true rfl)⟩
/- yX7_tellInspector -/
def zl_140_1 (x1b : Int) (x1ij : Int) (x2 : Int) : Nat → qz_Z → Int → (Int) ⊕ (Int)
  | 0, Z, x3 => (.inl x3)
  | m + 1, Z, x3 => (if 671 < x3 then (.inl x3) else (zlet (zf_139 Z x1b x1ij x3) (fun v2 => (if v2 = (-1) then zl_140_1 x1b x1ij x2 m Z (x3 + 1) else (if x2 ≠ 8 then (.inr v2) else (.inr x3))))))
theorem sl_140_1 {s : zSM} {Z : qz_Z} {ν : qz_N} (hZ : zH s Z) (hM : s.2 + 0 ≤ 1000000000) (x1b : Nat) (x1i : Nat) {x1ij : Int} (ex1i : (x1i : Int) = x1ij) (gx1ij : 0 ≤ x1ij ∧ x1ij ≤ 1) {x2 : Int} (gx2 : 8 ≤ x2 ∧ x2 ≤ 9) {x3 : Int} (gx3 : 1 ≤ x3 ∧ x3 ≤ 672) {k : wz_K} {R : wz_R} {L : qz_L} (hL : qz_fg [false, true, true, true, false] L = [none, some (.inr (.inr (some (51, x1b, x1i)))), some (.inl (i3 x2)), some (.inl (i3 x3)), none]) {T : (Int) ⊕ (Int)} (hP : zE T (zl_140_1 x1b x1ij x2 ((672 - x3).toNat + 1) Z x3)) (hk : ∀ (L9 : qz_L) (yx3 : Int), qz_fg [false, false, false, false, false] L9 = [none, none, none, none, none] → (1 ≤ yx3 ∧ yx3 ≤ 672) → zE T (.inl yx3) → k 0 (L9, [], zm Z ν)) (hr : ∀ (v8 : Int), 0 ≤ v8 → v8 ≤ 671 → zE T (.inr v8) → R (zm Z ν) (.inl (some (.inl (i3 v8))))) : wz_loop qb_140_1 65536 k R (L, [], zm Z ν) := by
  refine wz_lp sb_140_1 (fun m x => ∃ x3 : Int, qz_fg [false, true, true, true, false] x.1 = [none, some (.inr (.inr (some (51, x1b, x1i)))), some (.inl (i3 x2)), some (.inl (i3 x3)), none] ∧ x.2 = ([], zm Z ν) ∧ m = (672 - x3).toNat ∧ (1 ≤ x3 ∧ x3 ≤ 672) ∧ zE T (zl_140_1 x1b x1ij x2 (m + 1) Z x3)) ?_ 65536 ((672 - x3).toNat) _ (by omega) ⟨x3, hL, rfl, rfl, gx3, hP⟩
  clear hP gx3 hL
  clear x3
  rintro m ⟨L, st, μ⟩ ⟨x3, hL, hx, hm, gx3, hP⟩
  cases hx
  refine fb_140_1 x1b x1i (i3 x2) (i3 x3) _ _ _ _ hL ?_
  refine wz_br (i3L (show (671 : Int32) = i3 671 from rfl) (rfl : i3 x3 = i3 x3) (by omega) (by omega) (by omega) (by omega)) (fun h1 => ?_) (fun h1 => ?_)
  · replace hP := zE_p hP h1
    exact hk _ _ (zconso rfl (zconso rfl (zconso rfl (zconso rfl (zconso rfl rfl)))))  (by omega)  hP
  · replace hP := zE_n hP h1
    obtain ⟨v2, hv2, c9, lv2, uv2⟩ := sp_139 (ν := ν) hZ x1b _ ex1i (by omega) (a1 := x3) (by omega) (zbh (c := 0) (k := 0) hM (Nat.le_of_ble_eq_true rfl))
    replace hP := zl_e hP hv2
    refine wz_cI_of (zas (zcons rfl (zcons (zvi (rfl : i3 x3 = i3 x3)) rfl)) c9) ?_
    clear c9
    refine wz_br (i3E (rfl : i3 v2 = i3 v2) (show (-1 : Int32) = i3 (-1) from rfl) (by omega) (by omega) (by omega) (by omega)) (fun h3 => ?_) (fun h3 => ?_)
    · replace hP := zE_p hP h3
      obtain ⟨m2, rfl⟩ : ∃ m2, m = m2 + 1 := ⟨m - 1, by omega⟩
      exact wz_k1 ⟨m2, by omega, (x3 + 1), (zconso rfl (zconso rfl (zconso (zvo (rfl : i3 x2 = i3 x2)) (zconso (zvo (i3A (rfl : i3 x3 = i3 x3) (show (1 : Int32) = i3 1 from rfl))) (zconso rfl rfl))))), rfl,  by omega, by omega,  hP⟩
    · replace hP := zE_n hP h3
      refine wz_br (i3NE (rfl : i3 x2 = i3 x2) (show (8 : Int32) = i3 8 from rfl) (by omega) (by omega) (by omega) (by omega)) (fun h4 => ?_) (fun h4 => ?_)
      · replace hP := zE_p hP h4
        rw [(rfl : i3 v2 = i3 v2)]
        exact hr _ (by omega) (by omega) hP
      · replace hP := zE_n hP h4
        rw [(rfl : i3 x3 = i3 x3)]
        exact hr _ (by omega) (by omega) hP
/- yX7_tellInspector -/
def zf_140 (Z : qz_Z) (a0b : Int) (a1b : Int) (a1ij : Int) (a2 : Int) : Int := (if 8 ≤ a2 then (zsum (zl_140_1 a1b a1ij a2 ((672 - ((Z 11 a0b 0 13) + 1)).toNat + 1) Z ((Z 11 a0b 0 13) + 1)) (fun q => zlet q (fun y3 => (-1))) (fun r => r)) else (Z 51 a1b a1ij a2))
theorem sp_140 {s : zSM} {Z : qz_Z} {ν : qz_N} (hZ : zH s Z) (a0b : Nat) (a1b : Nat) (a1i : Nat) {a1ij : Int} (ea1i : (a1i : Int) = a1ij) (ga1i : 0 ≤ a1ij ∧ a1ij ≤ 1) {a2 : Int} (ga2 : 0 ≤ a2 ∧ a2 ≤ 9) (hM : s.2 + 0 ≤ 1000000000) : ∃ P : Int, P = zf_140 Z a0b a1b a1ij a2 ∧ (qf_140 [.inr (.inr (some (10, a0b, 0))), .inr (.inr (some (51, a1b, a1i))), .inl (i3 a2)] (zm Z ν) = some (zm Z ν, .inl (some (.inl (i3 P)))) ∧ -2147483648 ≤ P ∧ P ≤ 2147483647) := by
  obtain ⟨P, hP⟩ := zx (zf_140 Z a0b a1b a1ij a2)
  refine zc_R (Q := fun P => -2147483648 ≤ P ∧ P ≤ 2147483647) hP (fw_140 a0b a1b a1i (i3 a2) _ _ ?_)
  replace hP : zE P (zf_140 Z a0b a1b a1ij a2) := hP
  unfold zf_140 at hP
  refine wz_br (i3Le (show (8 : Int32) = i3 8 from rfl) (rfl : i3 a2 = i3 a2) (by omega) (by omega) (by omega) (by omega)) (fun h1 => ?_) (fun h1 => ?_)
  · replace hP := zE_p hP h1
    have r2 := zH_k hZ 11 a0b 0 13 (lo := 0) (hi := 671) (by decide) rfl
    refine sl_140_1 (ν := ν) hZ (zbh (c := 0) (k := 0) hM (Nat.le_of_ble_eq_true rfl)) a1b _ ea1i (by omega) (x2 := a2) (by omega) (x3 := ((Z 11 a0b 0 13) + 1)) (by omega)  (zconso rfl (zconso rfl (zconso (zvo (rfl : i3 a2 = i3 a2)) (zconso (zvo (i3A (zm_rd (Z := Z) (ν := ν) (k := 11) (rfl : ((a0b : Nat) : Int) = a0b) (show ((0 : Nat) : Int) = 0 from rfl) (show ((13 : Nat) : Int) = 13 from rfl)) (show (1 : Int32) = i3 1 from rfl))) (zconso rfl rfl))))) rfl ?_ ?_
    · intro L4 y3 hL4 gy3 q9
      replace hP := zl_sl1 hP (Eq.symm q9)
      clear q9
      refine fc_140_2  _ _ _ _ hL4 ?_
      exact zlR hP (show (-1 : Int32) = i3 (-1) from rfl) ⟨by omega, by omega⟩
    · intro v8 l8 u8 q8
      replace hP := zl_sr hP (Eq.symm q8)
      exact zlR hP rfl ⟨by omega, by omega⟩
  · replace hP := zE_n hP h1
    refine wz_i0 (i3O (n := 8) (rfl : i3 a2 = i3 a2) (by omega) (by omega) (by omega)) ?_
    have r5 := zH_f hZ 51 a1b a1ij a2
    exact zlR hP (zm_rd (Z := Z) (ν := ν) (k := 51) (rfl : ((a1b : Nat) : Int) = a1b) ea1i (i3I (y := a2) (rfl : i3 a2 = i3 a2) (by omega) (by omega) (by omega))) ⟨by omega, by omega⟩
/- yX11_looked -/
def zx_216 (Z : qz_Z) (a1 : Int) (a2 : Int) : qz_Z × Int × Int := (if 0 ≤ a1 ∧ a1 < (Z 11 0 0 9) then (if 0 ≤ a2 ∧ a2 ≤ 9 then (zlet (zf_140 Z 0 0 a1 a2) (fun v4 => (Z, v4, 0))) else (Z, 0, 13)) else (Z, 0, 24))
theorem sx_216 {M : Nat} {Z : qz_Z} {ν : qz_N} (hZ : zH ((none, M) : zSM) Z) (hM : ((none, M) : zSM).2 + 0 ≤ 1000000000) {a1 : Int} (ga1 : -2147483648 ≤ a1 ∧ a1 ≤ 2147483647) {a2 : Int} (ga2 : -2147483648 ≤ a2 ∧ a2 ≤ 2147483647) : ∃ (Z1 : qz_Z) (ν1 : qz_N) (v E : Int), (Z1, v, E) = zx_216 Z a1 a2 ∧ qf_216 [.inr (.inr (some (0, 0, 0))), .inl (i3 a1), .inl (i3 a2)] (zm Z ν) = some (zm Z1 ν1, zoX v E) ∧ (fun Z1 ν1 => zH ((none, M) : zSM) Z1 ∧ zC [] Z Z1 ∧ zU [] Z Z1 ∧ zG 1 6 ν ν1) Z1 ν1 := by
  obtain ⟨P, hP⟩ := zx (zx_216 Z a1 a2)
  refine zc_G (Q := fun Z1 ν1 => zH ((none, M) : zSM) Z1 ∧ zC [] Z Z1 ∧ zU [] Z Z1 ∧ zG 1 6 ν ν1) hP (fw_216 (i3 a1) (i3 a2) _ _ ?_)
  replace hP : zE P (zx_216 Z a1 a2) := hP
  unfold zx_216 at hP
  have r1 := zH_k hZ 11 0 0 9 (lo := 0) (hi := 2) (by decide) rfl
  refine wz_thing (rfl : i3 a1 = i3 a1) (zm_rd (Z := Z) (ν := ν) (k := 11) (show ((0 : Nat) : Int) = 0 from rfl) (show ((0 : Nat) : Int) = 0 from rfl) (show ((9 : Nat) : Int) = 9 from rfl)) (by omega) (by omega) (by omega) (by omega) (fun h2 => ?_) (fun h2 => ?_)
  · replace hP := zE_p hP h2
    refine wz_inR (rfl : i3 a2 = i3 a2) (show (0 : Int32) = i3 0 from rfl) (show (9 : Int32) = i3 9 from rfl) (by omega) (by omega) (by omega) (by omega) (by omega) (by omega) (fun h3 => ?_) (fun h3 => ?_)
    · replace hP := zE_p hP h3
      refine wz_i0 (i3O (n := 2) (rfl : i3 a1 = i3 a1) (by omega) (by omega) (by omega)) ?_
      obtain ⟨v4, hv4, c9, lv4, uv4⟩ := sp_140 (ν := ν) hZ 0 0 _ (i3I (y := a1) (rfl : i3 a1 = i3 a1) (by omega) (by omega) (by omega)) (by omega) (a2 := a2) (by omega) (zbh (c := 0) (k := 0) hM (Nat.le_of_ble_eq_true rfl))
      replace hP := zl_e hP hv4
      refine wz_cI_of (zas (zcons rfl (zcons rfl (zcons (zvi (rfl : i3 a2 = i3 a2)) rfl))) c9) ?_
      clear c9
      exact zlG hP (rfl : i3 v4 = i3 v4) ⟨hZ, zC_r, zU_r, zG_w zG_r (Nat.le_of_ble_eq_true rfl) (Nat.le_of_ble_eq_true rfl)⟩
    · replace hP := zE_n hP h3
      exact zlGe (E := 12) hP ⟨hZ, zC_r, zU_r, zG_w (zG_k rfl) (Nat.le_of_ble_eq_true rfl) (Nat.le_of_ble_eq_true rfl)⟩
  · replace hP := zE_n hP h2
    exact zlGe (E := 23) hP ⟨hZ, zC_r, zU_r, zG_w (zG_k rfl) (Nat.le_of_ble_eq_true rfl) (Nat.le_of_ble_eq_true rfl)⟩
/- yX11_lot -/
def zx_217 (Z : qz_Z) (a1 : Int) (a2 : Int) (a3 : Int) : qz_Z × Int × Int := (if 0 ≤ a1 ∧ a1 < (Z 11 0 0 7) then (if 0 ≤ a2 ∧ a2 < (Z 48 0 a1 5) then (if 0 ≤ a3 ∧ a3 ≤ 2 then (Z, (Z 49 0 (12 * a1 + a2) a3), 0) else (Z, 0, 13)) else (Z, 0, 24)) else (Z, 0, 24))
theorem sx_217 {M : Nat} {Z : qz_Z} {ν : qz_N} (hZ : zH ((none, M) : zSM) Z) (hM : ((none, M) : zSM).2 + 0 ≤ 1000000000) {a1 : Int} (ga1 : -2147483648 ≤ a1 ∧ a1 ≤ 2147483647) {a2 : Int} (ga2 : -2147483648 ≤ a2 ∧ a2 ≤ 2147483647) {a3 : Int} (ga3 : -2147483648 ≤ a3 ∧ a3 ≤ 2147483647) : ∃ (Z1 : qz_Z) (ν1 : qz_N) (v E : Int), (Z1, v, E) = zx_217 Z a1 a2 a3 ∧ qf_217 [.inr (.inr (some (0, 0, 0))), .inl (i3 a1), .inl (i3 a2), .inl (i3 a3)] (zm Z ν) = some (zm Z1 ν1, zoX v E) ∧ (fun Z1 ν1 => zH ((none, M) : zSM) Z1 ∧ zC [] Z Z1 ∧ zU [] Z Z1 ∧ zG 1 6 ν ν1) Z1 ν1 := by
  obtain ⟨P, hP⟩ := zx (zx_217 Z a1 a2 a3)
  refine zc_G (Q := fun Z1 ν1 => zH ((none, M) : zSM) Z1 ∧ zC [] Z Z1 ∧ zU [] Z Z1 ∧ zG 1 6 ν ν1) hP (fw_217 (i3 a1) (i3 a2) (i3 a3) _ _ ?_)
  replace hP : zE P (zx_217 Z a1 a2 a3) := hP
  unfold zx_217 at hP
  have r1 := zH_k hZ 11 0 0 7 (lo := 0) (hi := 2) (by decide) rfl
  refine wz_thing (rfl : i3 a1 = i3 a1) (zm_rd (Z := Z) (ν := ν) (k := 11) (show ((0 : Nat) : Int) = 0 from rfl) (show ((0 : Nat) : Int) = 0 from rfl) (show ((7 : Nat) : Int) = 7 from rfl)) (by omega) (by omega) (by omega) (by omega) (fun h2 => ?_) (fun h2 => ?_)
  · replace hP := zE_p hP h2
    refine wz_i0 (i3O (n := 2) (rfl : i3 a1 = i3 a1) (by omega) (by omega) (by omega)) ?_
    have r3 := zH_k hZ 48 0 a1 5 (lo := 0) (hi := 12) (by decide) rfl
    refine wz_thing (rfl : i3 a2 = i3 a2) (zm_rd (Z := Z) (ν := ν) (k := 48) (show ((0 : Nat) : Int) = 0 from rfl) (i3I (y := a1) (rfl : i3 a1 = i3 a1) (by omega) (by omega) (by omega)) (show ((5 : Nat) : Int) = 5 from rfl)) (by omega) (by omega) (by omega) (by omega) (fun h4 => ?_) (fun h4 => ?_)
    · replace hP := zE_p hP h4
      refine wz_inR (rfl : i3 a3 = i3 a3) (show (0 : Int32) = i3 0 from rfl) (show (2 : Int32) = i3 2 from rfl) (by omega) (by omega) (by omega) (by omega) (by omega) (by omega) (fun h5 => ?_) (fun h5 => ?_)
      · replace hP := zE_p hP h5
        refine wz_i0 (i3O (n := 24) (i3A (i3M (rfl : i3 a1 = i3 a1) (show (12 : Int32) = i3 12 from rfl)) (rfl : i3 a2 = i3 a2)) (by omega) (by omega) (by omega)) ?_
        refine wz_i0 (i3O (n := 3) (rfl : i3 a3 = i3 a3) (by omega) (by omega) (by omega)) ?_
        have r6 := zH_f hZ 49 0 (12 * a1 + a2) a3
        exact zlG hP (zm_rd (Z := Z) (ν := ν) (k := 49) (show ((0 : Nat) : Int) = 0 from rfl) (i3I (y := (12 * a1 + a2)) (i3A (i3M (rfl : i3 a1 = i3 a1) (show (12 : Int32) = i3 12 from rfl)) (rfl : i3 a2 = i3 a2)) (by omega) (by omega) (by omega)) (i3I (y := a3) (rfl : i3 a3 = i3 a3) (by omega) (by omega) (by omega))) ⟨hZ, zC_r, zU_r, zG_w zG_r (Nat.le_of_ble_eq_true rfl) (Nat.le_of_ble_eq_true rfl)⟩
      · replace hP := zE_n hP h5
        exact zlGe (E := 12) hP ⟨hZ, zC_r, zU_r, zG_w (zG_k rfl) (Nat.le_of_ble_eq_true rfl) (Nat.le_of_ble_eq_true rfl)⟩
    · replace hP := zE_n hP h4
      exact zlGe (E := 23) hP ⟨hZ, zC_r, zU_r, zG_w (zG_k rfl) (Nat.le_of_ble_eq_true rfl) (Nat.le_of_ble_eq_true rfl)⟩
  · replace hP := zE_n hP h2
    exact zlGe (E := 23) hP ⟨hZ, zC_r, zU_r, zG_w (zG_k rfl) (Nat.le_of_ble_eq_true rfl) (Nat.le_of_ble_eq_true rfl)⟩
/- yX1_cratesGiven -/
def zl_19_1 (x0b : Int) : Nat → qz_Z → Int → Int → Int × Int
  | 0, Z, x2, x3 => (x2, x3)
  | m + 1, Z, x2, x3 => (if (Z 11 x0b 0 5) ≤ x3 then (x2, x3) else zl_19_1 x0b m Z (w3 (x2 + (Z 69 0 0 x3))) (x3 + 1))
theorem sl_19_1 {s : zSM} {Z : qz_Z} {ν : qz_N} (hZ : zH s Z) (hM : s.2 + 0 ≤ 1000000000) (x0b : Nat) {x2 : Int} (gx2 : -2147483648 ≤ x2 ∧ x2 ≤ 2147483647) {x3 : Int} (gx3 : 0 ≤ x3 ∧ x3 ≤ 24) {k : wz_K} {R : wz_R} {L : qz_L} (hL : qz_fg [true, true, true, true] L = [some (.inr (.inr (some (10, x0b, 0)))), some (.inr (.inr (some (69, 0, 0)))), some (.inl (i3 x2)), some (.inl (i3 x3))]) {T : Int × Int} (hP : zE T (zl_19_1 x0b ((24 - x3).toNat + 1) Z x2 x3)) (hk : ∀ (L9 : qz_L) (yx2 yx3 : Int), qz_fg [false, false, true, false] L9 = [none, none, some (.inl (i3 yx2)), none] → (-2147483648 ≤ yx2 ∧ yx2 ≤ 2147483647) → (0 ≤ yx3 ∧ yx3 ≤ 24) → zE T ((yx2, yx3)) → k 0 (L9, [], zm Z ν)) : wz_loop qb_19_1 65536 k R (L, [], zm Z ν) := by
  refine wz_lp sb_19_1 (fun m x => ∃ x2 : Int, ∃ x3 : Int, qz_fg [true, true, true, true] x.1 = [some (.inr (.inr (some (10, x0b, 0)))), some (.inr (.inr (some (69, 0, 0)))), some (.inl (i3 x2)), some (.inl (i3 x3))] ∧ x.2 = ([], zm Z ν) ∧ m = (24 - x3).toNat ∧ (-2147483648 ≤ x2 ∧ x2 ≤ 2147483647) ∧ (0 ≤ x3 ∧ x3 ≤ 24) ∧ zE T (zl_19_1 x0b (m + 1) Z x2 x3)) ?_ 65536 ((24 - x3).toNat) _ (by omega) ⟨x2, x3, hL, rfl, rfl, gx2, gx3, hP⟩
  clear hP gx2 gx3 hL
  clear x2 x3
  rintro m ⟨L, st, μ⟩ ⟨x2, x3, hL, hx, hm, gx2, gx3, hP⟩
  cases hx
  refine fb_19_1 x0b (i3 x2) (i3 x3) _ _ _ _ hL ?_
  have r1 := zH_k hZ 11 x0b 0 5 (lo := 0) (hi := 24) (by decide) rfl
  refine wz_br (i3Le (zm_rd (Z := Z) (ν := ν) (k := 11) (rfl : ((x0b : Nat) : Int) = x0b) (show ((0 : Nat) : Int) = 0 from rfl) (show ((5 : Nat) : Int) = 5 from rfl)) (rfl : i3 x3 = i3 x3) (by omega) (by omega) (by omega) (by omega)) (fun h2 => ?_) (fun h2 => ?_)
  · replace hP := zE_p hP h2
    exact hk _ _ _ (zconso rfl (zconso rfl (zconso (zvo (rfl : i3 x2 = i3 x2)) (zconso rfl rfl))))  (by omega) (by omega)  hP
  · replace hP := zE_n hP h2
    refine wz_i0 (i3O (n := 24) (rfl : i3 x3 = i3 x3) (by omega) (by omega) (by omega)) ?_
    have r3 := zH_f hZ 69 0 0 x3
    have r4 := w3_r (x2 + (Z 69 0 0 x3))
    obtain ⟨m2, rfl⟩ : ∃ m2, m = m2 + 1 := ⟨m - 1, by omega⟩
    exact wz_k1 ⟨m2, by omega, (w3 (x2 + (Z 69 0 0 x3))), (x3 + 1), (zconso rfl (zconso rfl (zconso (zvo (i3W (i3A (rfl : i3 x2 = i3 x2) (zm_rd (Z := Z) (ν := ν) (k := 69) (show ((0 : Nat) : Int) = 0 from rfl) (show ((0 : Nat) : Int) = 0 from rfl) (i3I (y := x3) (rfl : i3 x3 = i3 x3) (by omega) (by omega) (by omega)))))) (zconso (zvo (i3A (rfl : i3 x3 = i3 x3) (show (1 : Int32) = i3 1 from rfl))) rfl)))), rfl,  by omega, by omega, by omega,  hP⟩
/- yX1_cratesGiven -/
def zf_19 (Z : qz_Z) (a0b : Int) : Int := (zlet2 (zl_19_1 a0b 25 Z 0 0) (fun y1 y2 => y1))
theorem sp_19 {s : zSM} {Z : qz_Z} {ν : qz_N} (hZ : zH s Z) (a0b : Nat) (hM : s.2 + 0 ≤ 1000000000) : ∃ P : Int, P = zf_19 Z a0b ∧ (qf_19 [.inr (.inr (some (10, a0b, 0))), .inr (.inr (some (69, 0, 0)))] (zm Z ν) = some (zm Z ν, .inl (some (.inl (i3 P)))) ∧ -2147483648 ≤ P ∧ P ≤ 2147483647) := by
  obtain ⟨P, hP⟩ := zx (zf_19 Z a0b)
  refine zc_R (Q := fun P => -2147483648 ≤ P ∧ P ≤ 2147483647) hP (fw_19 a0b _ _ ?_)
  replace hP : zE P (zf_19 Z a0b) := hP
  unfold zf_19 at hP
  refine sl_19_1 (ν := ν) hZ (zbh (c := 0) (k := 0) hM (Nat.le_of_ble_eq_true rfl)) a0b (x2 := 0) (by omega) (x3 := 0) (by omega)  (zconso rfl (zconso rfl (zconso (zvo (show (0 : Int32) = i3 0 from rfl)) (zconso (zvo (show (0 : Int32) = i3 0 from rfl)) rfl)))) rfl ?_
  intro L3 y1 y2 hL3 gy1 gy2 q9
  replace hP := zl_e2 hP (Eq.symm q9)
  clear q9
  refine fc_19_2 (i3 y1) _ _ _ _ hL3 ?_
  exact zlR hP (rfl : i3 y1 = i3 y1) ⟨by omega, by omega⟩
/- yX1_howManyAsk -/
def zl_27_1 (x0b : Int) : Nat → qz_Z → Int → Int → Int × Int
  | 0, Z, x1, x2 => (x1, x2)
  | m + 1, Z, x1, x2 => (if (Z 11 x0b 0 5) ≤ x2 then (x1, x2) else (zlet (zf_14 Z x0b x0b x2) (fun v3 => (if v3 = 0 then zl_27_1 x0b m Z (x1 + 0) (x2 + 1) else zl_27_1 x0b m Z (x1 + 1) (x2 + 1)))))
theorem sl_27_1 {s : zSM} {Z : qz_Z} {ν : qz_N} (hZ : zH s Z) (hM : s.2 + 0 ≤ 1000000000) (x0b : Nat) {x1 : Int} (gx1 : 0 ≤ x1 ∧ x1 ≤ 24) {x2 : Int} (gx2 : 0 ≤ x2 ∧ x2 ≤ 24) (gr0 : x1 ≤ x2) {k : wz_K} {R : wz_R} {L : qz_L} (hL : qz_fg [true, true, true] L = [some (.inr (.inr (some (10, x0b, 0)))), some (.inl (i3 x1)), some (.inl (i3 x2))]) {T : Int × Int} (hP : zE T (zl_27_1 x0b ((24 - x2).toNat + 1) Z x1 x2)) (hk : ∀ (L9 : qz_L) (yx1 yx2 : Int), qz_fg [false, true, false] L9 = [none, some (.inl (i3 yx1)), none] → (0 ≤ yx1 ∧ yx1 ≤ 24) → (0 ≤ yx2 ∧ yx2 ≤ 24) → (yx1 ≤ yx2) → zE T ((yx1, yx2)) → k 0 (L9, [], zm Z ν)) : wz_loop qb_27_1 65536 k R (L, [], zm Z ν) := by
  refine wz_lp sb_27_1 (fun m x => ∃ x1 : Int, ∃ x2 : Int, qz_fg [true, true, true] x.1 = [some (.inr (.inr (some (10, x0b, 0)))), some (.inl (i3 x1)), some (.inl (i3 x2))] ∧ x.2 = ([], zm Z ν) ∧ m = (24 - x2).toNat ∧ (0 ≤ x1 ∧ x1 ≤ 24) ∧ (0 ≤ x2 ∧ x2 ≤ 24) ∧ (x1 ≤ x2) ∧ zE T (zl_27_1 x0b (m + 1) Z x1 x2)) ?_ 65536 ((24 - x2).toNat) _ (by omega) ⟨x1, x2, hL, rfl, rfl, gx1, gx2, gr0, hP⟩
  clear hP gr0 gx1 gx2 hL
  clear x1 x2
  rintro m ⟨L, st, μ⟩ ⟨x1, x2, hL, hx, hm, gx1, gx2, gr0, hP⟩
  cases hx
  refine fb_27_1 x0b (i3 x1) (i3 x2) _ _ _ _ hL ?_
  have r1 := zH_k hZ 11 x0b 0 5 (lo := 0) (hi := 24) (by decide) rfl
  refine wz_br (i3Le (zm_rd (Z := Z) (ν := ν) (k := 11) (rfl : ((x0b : Nat) : Int) = x0b) (show ((0 : Nat) : Int) = 0 from rfl) (show ((5 : Nat) : Int) = 5 from rfl)) (rfl : i3 x2 = i3 x2) (by omega) (by omega) (by omega) (by omega)) (fun h2 => ?_) (fun h2 => ?_)
  · replace hP := zE_p hP h2
    exact hk _ _ _ (zconso rfl (zconso (zvo (rfl : i3 x1 = i3 x1)) (zconso rfl rfl)))  (by omega) (by omega) (by omega) hP
  · replace hP := zE_n hP h2
    refine wz_i0 (i3O (n := 24) (rfl : i3 x2 = i3 x2) (by omega) (by omega) (by omega)) ?_
    obtain ⟨v3, hv3, c9, lv3, uv3⟩ := sp_14 (ν := ν) hZ x0b x0b _ (i3I (y := x2) (rfl : i3 x2 = i3 x2) (by omega) (by omega) (by omega)) (by omega) (zbh (c := 0) (k := 0) hM (Nat.le_of_ble_eq_true rfl))
    replace hP := zl_e hP hv3
    refine wz_cI_of (zas (zcons rfl (zcons rfl rfl)) c9) ?_
    clear c9
    refine wz_br (i3E (rfl : i3 v3 = i3 v3) (show (0 : Int32) = i3 0 from rfl) (by omega) (by omega) (by omega) (by omega)) (fun h4 => ?_) (fun h4 => ?_)
    · replace hP := zE_p hP h4
      obtain ⟨m2, rfl⟩ : ∃ m2, m = m2 + 1 := ⟨m - 1, by omega⟩
      exact wz_k1 ⟨m2, by omega, (x1 + 0), (x2 + 1), (zconso rfl (zconso (zvo (i3A (rfl : i3 x1 = i3 x1) (show (0 : Int32) = i3 0 from rfl))) (zconso (zvo (i3A (rfl : i3 x2 = i3 x2) (show (1 : Int32) = i3 1 from rfl))) rfl))), rfl,  by omega, by omega, by omega, by omega,  hP⟩
    · replace hP := zE_n hP h4
      obtain ⟨m2, rfl⟩ : ∃ m2, m = m2 + 1 := ⟨m - 1, by omega⟩
      exact wz_k1 ⟨m2, by omega, (x1 + 1), (x2 + 1), (zconso rfl (zconso (zvo (i3A (rfl : i3 x1 = i3 x1) (show (1 : Int32) = i3 1 from rfl))) (zconso (zvo (i3A (rfl : i3 x2 = i3 x2) (show (1 : Int32) = i3 1 from rfl))) rfl))), rfl,  by omega, by omega, by omega, by omega,  hP⟩
/- yX1_howManyAsk -/
def zf_27 (Z : qz_Z) (a0b : Int) : Int := (zlet2 (zl_27_1 a0b 25 Z 0 0) (fun y1 y2 => y1))
theorem sp_27 {s : zSM} {Z : qz_Z} {ν : qz_N} (hZ : zH s Z) (a0b : Nat) (hM : s.2 + 0 ≤ 1000000000) : ∃ P : Int, P = zf_27 Z a0b ∧ (qf_27 [.inr (.inr (some (10, a0b, 0)))] (zm Z ν) = some (zm Z ν, .inl (some (.inl (i3 P)))) ∧ 0 ≤ P ∧ P ≤ 24) := by
  obtain ⟨P, hP⟩ := zx (zf_27 Z a0b)
  refine zc_R (Q := fun P => 0 ≤ P ∧ P ≤ 24) hP (fw_27 a0b _ _ ?_)
  replace hP : zE P (zf_27 Z a0b) := hP
  unfold zf_27 at hP
  refine sl_27_1 (ν := ν) hZ (zbh (c := 0) (k := 0) hM (Nat.le_of_ble_eq_true rfl)) a0b (x1 := 0) (by omega) (x2 := 0) (by omega) (by omega) (zconso rfl (zconso (zvo (show (0 : Int32) = i3 0 from rfl)) (zconso (zvo (show (0 : Int32) = i3 0 from rfl)) rfl))) rfl ?_
  intro L3 y1 y2 hL3 gy1 gy2 gL3_0 q9
  replace hP := zl_e2 hP (Eq.symm q9)
  clear q9
  refine fc_27_2 (i3 y1) _ _ _ _ hL3 ?_
  exact zlR hP (rfl : i3 y1 = i3 y1) ⟨by omega, by omega⟩
/- yX11_match -/
def zx_218 (Z : qz_Z) (n9 : Int) (a1 : Int) : qz_Z × Int × Int := (if a1 < 0 then (Z, 0, 13) else (if a1 ≤ 2 then (zlet3 (zf_21 Z n9 0) (fun Z5 n10 v6 => (if a1 ≠ 0 then (if a1 ≠ 1 then (zlet (zf_27 Z5 0) (fun v13 => (Z5, v13, 0))) else (zlet (zf_19 Z5 0) (fun v14 => (Z5, v14, 0)))) else (Z5, v6, 0)))) else (if 10 ≤ a1 ∧ a1 ≤ (9 + (Z 11 0 0 5)) then (zlet3 (zf_21 Z n9 0) (fun Z17 n20 v18 => (Z17, (Z17 69 0 0 ((-10) + a1)), 0))) else (Z, 0, 13))))
theorem sx_218 {M : Nat} {Z : qz_Z} {ν : qz_N} (hZ : zH ((none, M) : zSM) Z) (hM : ((none, M) : zSM).2 + 0 ≤ 1000000000) {n9 : Nat} (hn : ν.2.2.2.1 = n9) {a1 : Int} (ga1 : -2147483648 ≤ a1 ∧ a1 ≤ 2147483647) : ∃ (Z1 : qz_Z) (ν1 : qz_N) (v E : Int), (Z1, v, E) = zx_218 Z n9 a1 ∧ qf_218 [.inr (.inr (some (0, 0, 0))), .inl (i3 a1)] (zm Z ν) = some (zm Z1 ν1, zoX v E) ∧ (fun Z1 ν1 => zH ((none, M) : zSM) Z1 ∧ zL [69] [] n9 Z Z1 ∧ zU [] Z Z1 ∧ zG 1 192 ν ν1) Z1 ν1 := by
  obtain ⟨P, hP⟩ := zx (zx_218 Z n9 a1)
  refine zc_G (Q := fun Z1 ν1 => zH ((none, M) : zSM) Z1 ∧ zL [69] [] n9 Z Z1 ∧ zU [] Z Z1 ∧ zG 1 192 ν ν1) hP (fw_218 (i3 a1) _ _ ?_)
  replace hP : zE P (zx_218 Z n9 a1) := hP
  unfold zx_218 at hP
  have hs : ((none, M) : zSM).1 = none := rfl
  refine wz_br (i3L (rfl : i3 a1 = i3 a1) (show (0 : Int32) = i3 0 from rfl) (by omega) (by omega) (by omega) (by omega)) (fun h1 => ?_) (fun h1 => ?_)
  · replace hP := zE_p hP h1
    have r2 := zH_k hZ 11 0 0 5 (lo := 0) (hi := 24) (by decide) rfl
    refine wz_inR_n (rfl : i3 a1 = i3 a1) (show (10 : Int32) = i3 10 from rfl) (i3A (show (9 : Int32) = i3 9 from rfl) (zm_rd (Z := Z) (ν := ν) (k := 11) (show ((0 : Nat) : Int) = 0 from rfl) (show ((0 : Nat) : Int) = 0 from rfl) (show ((5 : Nat) : Int) = 5 from rfl))) (by omega) (by omega) (by omega) (by omega) (by omega) (by omega) (by omega) ?_
    exact zlGe (E := 12) hP ⟨hZ, zL_r, zU_r, zG_w (zG_k rfl) (Nat.le_of_ble_eq_true rfl) (Nat.le_of_ble_eq_true rfl)⟩
  · replace hP := zE_n hP h1
    refine wz_br (i3Le (rfl : i3 a1 = i3 a1) (show (2 : Int32) = i3 2 from rfl) (by omega) (by omega) (by omega) (by omega)) (fun h4 => ?_) (fun h4 => ?_)
    · replace hP := zE_p hP h4
      obtain ⟨Z5, ν7, n10, v6, hv6, c9, hZ5I, kZ5, jZ5, hnν7, gν7, b1ν7, b2ν7, lv6, uv6⟩ := sp_21 (ν := ν) hZ hs hn 0 (zbh (c := 0) (k := 0) hM (Nat.le_of_ble_eq_true rfl))
      have hZ5U : zU [] Z Z5 := zU_t zU_r jZ5 zU_b0
      have hZ5K : zL [69] [] n9 Z Z5 := zL_t zL_r kZ5 (by decide) zL_b0 (by omega)
      replace hP := zl_e3 hP hv6
      refine wz_cI_of (zas (zcons rfl (zcons rfl rfl)) c9) ?_
      clear c9 hv6
      have hGν7 := zGl_t (K := 192) zGl_r gν7
      refine wz_br (i3NE (rfl : i3 a1 = i3 a1) (show (0 : Int32) = i3 0 from rfl) (by omega) (by omega) (by omega) (by omega)) (fun h11 => ?_) (fun h11 => ?_)
      · replace hP := zE_p hP h11
        refine wz_br (i3NE (rfl : i3 a1 = i3 a1) (show (1 : Int32) = i3 1 from rfl) (by omega) (by omega) (by omega) (by omega)) (fun h12 => ?_) (fun h12 => ?_)
        · replace hP := zE_p hP h12
          refine wz_i0 (Eq.trans (i3NE (rfl : i3 a1 = i3 a1) (show (2 : Int32) = i3 2 from rfl) (by omega) (by omega) (by omega) (by omega)) (decide_eq_false (by omega))) ?_
          obtain ⟨v13, hv13, c9, lv13, uv13⟩ := sp_27 (ν := ν7) hZ5I 0 (zbh (c := 0) (k := 0) hM (Nat.le_of_ble_eq_true rfl))
          replace hP := zl_e hP hv13
          refine wz_cI_of (zas (zcons rfl rfl) c9) ?_
          clear c9
          exact zlG hP (rfl : i3 v13 = i3 v13) ⟨hZ5I, hZ5K, hZ5U, zGl_c (c := 1) hGν7 hn hnν7 (by omega) (Nat.le_of_ble_eq_true rfl) (Nat.le_of_ble_eq_true rfl)⟩
        · replace hP := zE_n hP h12
          obtain ⟨v14, hv14, c9, lv14, uv14⟩ := sp_19 (ν := ν7) hZ5I 0 (zbh (c := 0) (k := 0) hM (Nat.le_of_ble_eq_true rfl))
          replace hP := zl_e hP hv14
          refine wz_cI_of (zas (zcons rfl (zcons rfl rfl)) c9) ?_
          clear c9
          exact zlG hP (rfl : i3 v14 = i3 v14) ⟨hZ5I, hZ5K, hZ5U, zGl_c (c := 1) hGν7 hn hnν7 (by omega) (Nat.le_of_ble_eq_true rfl) (Nat.le_of_ble_eq_true rfl)⟩
      · replace hP := zE_n hP h11
        exact zlG hP (rfl : i3 v6 = i3 v6) ⟨hZ5I, hZ5K, hZ5U, zGl_c (c := 1) hGν7 hn hnν7 (by omega) (Nat.le_of_ble_eq_true rfl) (Nat.le_of_ble_eq_true rfl)⟩
    · replace hP := zE_n hP h4
      have r15 := zH_k hZ 11 0 0 5 (lo := 0) (hi := 24) (by decide) rfl
      refine wz_inR (rfl : i3 a1 = i3 a1) (show (10 : Int32) = i3 10 from rfl) (i3A (show (9 : Int32) = i3 9 from rfl) (zm_rd (Z := Z) (ν := ν) (k := 11) (show ((0 : Nat) : Int) = 0 from rfl) (show ((0 : Nat) : Int) = 0 from rfl) (show ((5 : Nat) : Int) = 5 from rfl))) (by omega) (by omega) (by omega) (by omega) (by omega) (by omega) (fun h16 => ?_) (fun h16 => ?_)
      · replace hP := zE_p hP h16
        obtain ⟨Z17, ν19, n20, v18, hv18, c9, hZ17I, kZ17, jZ17, hnν19, gν19, b1ν19, b2ν19, lv18, uv18⟩ := sp_21 (ν := ν) hZ hs hn 0 (zbh (c := 0) (k := 0) hM (Nat.le_of_ble_eq_true rfl))
        have hZ17U : zU [] Z Z17 := zU_t zU_r jZ17 zU_b0
        have hZ17K : zL [69] [] n9 Z Z17 := zL_t zL_r kZ17 (by decide) zL_b0 (by omega)
        replace hP := zl_e3 hP hv18
        refine wz_cI_of (zas (zcons rfl (zcons rfl rfl)) c9) ?_
        clear c9 hv18
        have hGν19 := zGl_t (K := 192) zGl_r gν19
        refine wz_i1 (Eq.trans (i3NE (rfl : i3 a1 = i3 a1) (show (0 : Int32) = i3 0 from rfl) (by omega) (by omega) (by omega) (by omega)) (decide_eq_true (by omega))) ?_
        refine wz_i1 (Eq.trans (i3NE (rfl : i3 a1 = i3 a1) (show (1 : Int32) = i3 1 from rfl) (by omega) (by omega) (by omega) (by omega)) (decide_eq_true (by omega))) ?_
        refine wz_i1 (Eq.trans (i3NE (rfl : i3 a1 = i3 a1) (show (2 : Int32) = i3 2 from rfl) (by omega) (by omega) (by omega) (by omega)) (decide_eq_true (by omega))) ?_
        refine wz_i0 (i3O (n := 24) (i3S (rfl : i3 a1 = i3 a1) (show (10 : Int32) = i3 10 from rfl)) (by omega) (by omega) (by omega)) ?_
        have r21 := zH_f hZ17I 69 0 0 ((-10) + a1)
        exact zlG hP (zm_rd (Z := Z17) (ν := ν19) (k := 69) (show ((0 : Nat) : Int) = 0 from rfl) (show ((0 : Nat) : Int) = 0 from rfl) (i3I (y := ((-10) + a1)) (i3S (rfl : i3 a1 = i3 a1) (show (10 : Int32) = i3 10 from rfl)) (by omega) (by omega) (by omega))) ⟨hZ17I, hZ17K, hZ17U, zGl_c (c := 1) hGν19 hn hnν19 (by omega) (Nat.le_of_ble_eq_true rfl) (Nat.le_of_ble_eq_true rfl)⟩
      · replace hP := zE_n hP h16
        exact zlGe (E := 12) hP ⟨hZ, zL_r, zU_r, zG_w (zG_k rfl) (Nat.le_of_ble_eq_true rfl) (Nat.le_of_ble_eq_true rfl)⟩
/- yX11_order -/
def zx_220 (Z : qz_Z) (a1 : Int) (a2 : Int) (a3 : Int) (a4 : Int) (a5 : Int) (a6 : Int) : qz_Z × Int × Int := (if 0 ≤ a1 ∧ a1 < (Z 11 0 0 4) then (if 0 ≤ a2 ∧ a2 < (Z 11 0 0 0) then (if 0 ≤ a3 ∧ a3 ≤ 3 then (if 1 ≤ a4 ∧ a4 ≤ 99 then (if 1 ≤ a5 ∧ a5 ≤ 9999 then (if 1 ≤ a6 ∧ a6 ≤ 127 then (if 24 ≤ (Z 11 0 0 5) then (Z, 0, 15) else (zlet (zdd Z 11 a1 a2 a3 a4 a5 a6) (fun Z13 => (zlet (zu Z13 46 0 (Z13 11 0 0 5) 0 a1) (fun Z16 => (zlet (zu Z16 46 0 (Z13 11 0 0 5) 1 a2) (fun Z17 => (zlet (zu Z17 46 0 (Z13 11 0 0 5) 2 a3) (fun Z18 => (zlet (zu Z18 46 0 (Z13 11 0 0 5) 3 a4) (fun Z19 => (zlet (zu Z19 46 0 (Z13 11 0 0 5) 4 a5) (fun Z20 => (zlet (zu Z20 46 0 (Z13 11 0 0 5) 5 a6) (fun Z21 => (zlet (zu Z21 46 0 (Z13 11 0 0 5) 6 a4) (fun Z22 => (zlet (zu Z22 45 0 a1 14 (w3 ((Z22 45 0 a1 14) + 1))) (fun Z25 => (zlet (zu Z25 11 0 0 5 ((Z25 11 0 0 5) + 1)) (fun Z28 => (Z28, (Z25 11 0 0 5), 0)))))))))))))))))))))) else (Z, 0, 13)) else (Z, 0, 13)) else (Z, 0, 13)) else (Z, 0, 13)) else (Z, 0, 24)) else (Z, 0, 24))
theorem sx_220 {M : Nat} {Z : qz_Z} {ν : qz_N} (hZ : zH ((none, M) : zSM) Z) (hM : ((none, M) : zSM).2 + 0 ≤ 1000000000) {a1 : Int} (ga1 : -2147483648 ≤ a1 ∧ a1 ≤ 2147483647) {a2 : Int} (ga2 : -2147483648 ≤ a2 ∧ a2 ≤ 2147483647) {a3 : Int} (ga3 : -2147483648 ≤ a3 ∧ a3 ≤ 2147483647) {a4 : Int} (ga4 : -2147483648 ≤ a4 ∧ a4 ≤ 2147483647) {a5 : Int} (ga5 : -2147483648 ≤ a5 ∧ a5 ≤ 2147483647) {a6 : Int} (ga6 : -2147483648 ≤ a6 ∧ a6 ≤ 2147483647) : ∃ (Z1 : qz_Z) (ν1 : qz_N) (v E : Int), (Z1, v, E) = zx_220 Z a1 a2 a3 a4 a5 a6 ∧ qf_220 [.inr (.inr (some (0, 0, 0))), .inl (i3 a1), .inl (i3 a2), .inl (i3 a3), .inl (i3 a4), .inl (i3 a5), .inl (i3 a6)] (zm Z ν) = some (zm Z1 ν1, zoX v E) ∧ (fun Z1 ν1 => zH ((none, M) : zSM) Z1 ∧ zC [3, 12, 13, 14, 40, 41, 42, 43, 44, 45, 46, 47, 48, 49, 50, 51, 52, 53, 54, 61, 68, 1099, 1100, 1101, 1102, 1103, 1104, 1105, 1106, 1107, 1108, 1109, 1110, 1111, 1112, 1113, 1114, 1115, 1116] Z Z1 ∧ zU [0, 2, 3, 4, 5, 6, 7, 8, 9] Z Z1 ∧ zG 1 6 ν ν1) Z1 ν1 := by
  obtain ⟨P, hP⟩ := zx (zx_220 Z a1 a2 a3 a4 a5 a6)
  refine zc_G (Q := fun Z1 ν1 => zH ((none, M) : zSM) Z1 ∧ zC [3, 12, 13, 14, 40, 41, 42, 43, 44, 45, 46, 47, 48, 49, 50, 51, 52, 53, 54, 61, 68, 1099, 1100, 1101, 1102, 1103, 1104, 1105, 1106, 1107, 1108, 1109, 1110, 1111, 1112, 1113, 1114, 1115, 1116] Z Z1 ∧ zU [0, 2, 3, 4, 5, 6, 7, 8, 9] Z Z1 ∧ zG 1 6 ν ν1) hP (fw_220 (i3 a1) (i3 a2) (i3 a3) (i3 a4) (i3 a5) (i3 a6) _ _ ?_)
  replace hP : zE P (zx_220 Z a1 a2 a3 a4 a5 a6) := hP
  unfold zx_220 at hP
  have r1 := zH_k hZ 11 0 0 4 (lo := 0) (hi := 8) (by decide) rfl
  refine wz_thing (rfl : i3 a1 = i3 a1) (zm_rd (Z := Z) (ν := ν) (k := 11) (show ((0 : Nat) : Int) = 0 from rfl) (show ((0 : Nat) : Int) = 0 from rfl) (show ((4 : Nat) : Int) = 4 from rfl)) (by omega) (by omega) (by omega) (by omega) (fun h2 => ?_) (fun h2 => ?_)
  · replace hP := zE_p hP h2
    have r3 := zH_k hZ 11 0 0 0 (lo := 0) (hi := 5) (by decide) rfl
    refine wz_thing (rfl : i3 a2 = i3 a2) (zm_rd (Z := Z) (ν := ν) (k := 11) (show ((0 : Nat) : Int) = 0 from rfl) (show ((0 : Nat) : Int) = 0 from rfl) (show ((0 : Nat) : Int) = 0 from rfl)) (by omega) (by omega) (by omega) (by omega) (fun h4 => ?_) (fun h4 => ?_)
    · replace hP := zE_p hP h4
      refine wz_inR (rfl : i3 a3 = i3 a3) (show (0 : Int32) = i3 0 from rfl) (show (3 : Int32) = i3 3 from rfl) (by omega) (by omega) (by omega) (by omega) (by omega) (by omega) (fun h5 => ?_) (fun h5 => ?_)
      · replace hP := zE_p hP h5
        refine wz_inR (rfl : i3 a4 = i3 a4) (show (1 : Int32) = i3 1 from rfl) (show (99 : Int32) = i3 99 from rfl) (by omega) (by omega) (by omega) (by omega) (by omega) (by omega) (fun h6 => ?_) (fun h6 => ?_)
        · replace hP := zE_p hP h6
          refine wz_inR (rfl : i3 a5 = i3 a5) (show (1 : Int32) = i3 1 from rfl) (show (9999 : Int32) = i3 9999 from rfl) (by omega) (by omega) (by omega) (by omega) (by omega) (by omega) (fun h7 => ?_) (fun h7 => ?_)
          · replace hP := zE_p hP h7
            refine wz_inR (rfl : i3 a6 = i3 a6) (show (1 : Int32) = i3 1 from rfl) (show (127 : Int32) = i3 127 from rfl) (by omega) (by omega) (by omega) (by omega) (by omega) (by omega) (fun h8 => ?_) (fun h8 => ?_)
            · replace hP := zE_p hP h8
              have r9 := zH_k hZ 11 0 0 5 (lo := 0) (hi := 24) (by decide) rfl
              refine wz_br (i3Le (show (24 : Int32) = i3 24 from rfl) (zm_rd (Z := Z) (ν := ν) (k := 11) (show ((0 : Nat) : Int) = 0 from rfl) (show ((0 : Nat) : Int) = 0 from rfl) (show ((5 : Nat) : Int) = 5 from rfl)) (by omega) (by omega) (by omega) (by omega)) (fun h10 => ?_) (fun h10 => ?_)
              · replace hP := zE_p hP h10
                refine wz_inT_n (show (0 : Int32) = i3 0 from rfl) (by omega) (by omega) (by omega) ?_
                exact zlGe (E := 14) hP ⟨hZ, zC_r, zU_r, zG_w (zG_k rfl) (Nat.le_of_ble_eq_true rfl) (Nat.le_of_ble_eq_true rfl)⟩
              · replace hP := zE_n hP h10
                refine wz_inT_y (show (1 : Int32) = i3 1 from rfl) (by omega) (by omega) (by omega) ?_
                refine dc_J (zcons rfl (zcons (zvi (show (11 : Int32) = i3 11 from rfl)) (zcons (zvi (rfl : i3 a1 = i3 a1)) (zcons (zvi (rfl : i3 a2 = i3 a2)) (zcons (zvi (rfl : i3 a3 = i3 a3)) (zcons (zvi (rfl : i3 a4 = i3 a4)) (zcons (zvi (rfl : i3 a5 = i3 a5)) (zcons (zvi (rfl : i3 a6 = i3 a6)) rfl)))))))) (dg (hZ).1 (by omega) (by omega) (by omega) (by omega) (by omega) (by omega) (by omega) ?_)
                have hZ13I := zH_dd hZ (a1 := 11) (a2 := a1) (a3 := a2) (a4 := a3) (a5 := a4) (a6 := a5) (a7 := a6) (by omega) (by omega) (by omega) (by omega) (by omega) (by omega) (by omega)
                have kZ13 : zC [3, 12, 13, 14, 40, 41, 42, 43, 44, 45, 46, 47, 48, 49, 50, 51, 52, 53, 54, 61, 68, 1099, 1100, 1101, 1102, 1103, 1104, 1105, 1106, 1107, 1108, 1109, 1110, 1111, 1112, 1113, 1114, 1115, 1116] Z (zdd Z 11 a1 a2 a3 a4 a5 a6) := zC_k zdd_K (by decide) (by decide)
                have hZ13A : (zdd Z 11 a1 a2 a3 a4 a5 a6) 68 0 0 0 = 11 ∧ (zdd Z 11 a1 a2 a3 a4 a5 a6) 68 0 0 1 = a1 ∧ (zdd Z 11 a1 a2 a3 a4 a5 a6) 68 0 0 2 = a2 ∧ (zdd Z 11 a1 a2 a3 a4 a5 a6) 68 0 0 3 = a3 ∧ (zdd Z 11 a1 a2 a3 a4 a5 a6) 68 0 0 4 = a4 ∧ (zdd Z 11 a1 a2 a3 a4 a5 a6) 68 0 0 5 = a5 ∧ (zdd Z 11 a1 a2 a3 a4 a5 a6) 68 0 0 6 = a6 := ⟨zdd_68, zdd_68, zdd_68, zdd_68, zdd_68, zdd_68, zdd_68⟩
                obtain ⟨Z13, hZ13⟩ := zx (zdd Z 11 a1 a2 a3 a4 a5 a6)
                have dZ13 : ∀ {k : Nat} {i j : Int}, zhall k = true → ¬ (k = 11 ∧ (j = 15 ∨ j = 16)) → Z13 k 0 i j = Z k 0 i j := fun hk hj => by rw [hZ13]; exact zdd_h (hZ).1 hk hj
                have jZ13 : zU [0, 2, 3, 4, 5, 6, 7, 8, 9] Z (zdd Z 11 a1 a2 a3 a4 a5 a6) := zU_dd (hZ).1
                rw [← hZ13] at hZ13I kZ13 jZ13 hZ13A ⊢
                have hZ13U : zU [0, 2, 3, 4, 5, 6, 7, 8, 9] Z Z13 := zU_t zU_r jZ13 (zU_b1 (List.Mem.head _) (zU_b1 (List.Mem.tail _ (List.Mem.head _)) (zU_b1 (List.Mem.tail _ (List.Mem.tail _ (List.Mem.head _))) (zU_b1 (List.Mem.tail _ (List.Mem.tail _ (List.Mem.tail _ (List.Mem.head _)))) (zU_b1 (List.Mem.tail _ (List.Mem.tail _ (List.Mem.tail _ (List.Mem.tail _ (List.Mem.head _))))) (zU_b1 (List.Mem.tail _ (List.Mem.tail _ (List.Mem.tail _ (List.Mem.tail _ (List.Mem.tail _ (List.Mem.head _)))))) (zU_b1 (List.Mem.tail _ (List.Mem.tail _ (List.Mem.tail _ (List.Mem.tail _ (List.Mem.tail _ (List.Mem.tail _ (List.Mem.head _))))))) (zU_b1 (List.Mem.tail _ (List.Mem.tail _ (List.Mem.tail _ (List.Mem.tail _ (List.Mem.tail _ (List.Mem.tail _ (List.Mem.tail _ (List.Mem.head _)))))))) (zU_b1 (List.Mem.tail _ (List.Mem.tail _ (List.Mem.tail _ (List.Mem.tail _ (List.Mem.tail _ (List.Mem.tail _ (List.Mem.tail _ (List.Mem.tail _ (List.Mem.head _))))))))) zU_b0)))))))))
                replace hP := zl_e hP hZ13
                have hZ13K : zC [3, 12, 13, 14, 40, 41, 42, 43, 44, 45, 46, 47, 48, 49, 50, 51, 52, 53, 54, 61, 68, 1099, 1100, 1101, 1102, 1103, 1104, 1105, 1106, 1107, 1108, 1109, 1110, 1111, 1112, 1113, 1114, 1115, 1116] Z Z13 := zC_t zC_r kZ13 (by decide)
                clear kZ13 hZ13
                refine fw_121 _ _ _ _ ?_
                refine wz_i1 rfl ?_
                refine wz_i0 (i3O (n := 7) (show (0 : Int32) = i3 0 from rfl) (by omega) (by omega) (by omega)) ?_
                refine wz_i0 (Eq.trans (i3To (Eq.trans (zm_rd (Z := Z13) (ν := ν) (k := 68) (show ((0 : Nat) : Int) = 0 from rfl) (show ((0 : Nat) : Int) = 0 from rfl) (show ((0 : Nat) : Int) = 0 from rfl)) (congrArg i3 ((hZ13A.1)))) (by omega) (by omega)) (decide_eq_false (by omega))) ?_
                refine wz_i0 (Eq.trans (i3T (Eq.trans (zm_rd (Z := Z13) (ν := ν) (k := 68) (show ((0 : Nat) : Int) = 0 from rfl) (show ((0 : Nat) : Int) = 0 from rfl) (show ((0 : Nat) : Int) = 0 from rfl)) (congrArg i3 ((hZ13A.1)))) (by omega) (by omega)) (decide_eq_false (by omega))) ?_
                refine wz_i0 (Eq.trans (i3T (Eq.trans (zm_rd (Z := Z13) (ν := ν) (k := 68) (show ((0 : Nat) : Int) = 0 from rfl) (show ((0 : Nat) : Int) = 0 from rfl) (show ((0 : Nat) : Int) = 0 from rfl)) (congrArg i3 ((hZ13A.1)))) (by omega) (by omega)) (decide_eq_false (by omega))) ?_
                refine wz_i0 (Eq.trans (i3T (Eq.trans (zm_rd (Z := Z13) (ν := ν) (k := 68) (show ((0 : Nat) : Int) = 0 from rfl) (show ((0 : Nat) : Int) = 0 from rfl) (show ((0 : Nat) : Int) = 0 from rfl)) (congrArg i3 ((hZ13A.1)))) (by omega) (by omega)) (decide_eq_false (by omega))) ?_
                refine wz_i0 (Eq.trans (i3T (Eq.trans (zm_rd (Z := Z13) (ν := ν) (k := 68) (show ((0 : Nat) : Int) = 0 from rfl) (show ((0 : Nat) : Int) = 0 from rfl) (show ((0 : Nat) : Int) = 0 from rfl)) (congrArg i3 ((hZ13A.1)))) (by omega) (by omega)) (decide_eq_false (by omega))) ?_
                refine wz_i0 (Eq.trans (i3T (Eq.trans (zm_rd (Z := Z13) (ν := ν) (k := 68) (show ((0 : Nat) : Int) = 0 from rfl) (show ((0 : Nat) : Int) = 0 from rfl) (show ((0 : Nat) : Int) = 0 from rfl)) (congrArg i3 ((hZ13A.1)))) (by omega) (by omega)) (decide_eq_false (by omega))) ?_
                refine wz_i0 (Eq.trans (i3T (Eq.trans (zm_rd (Z := Z13) (ν := ν) (k := 68) (show ((0 : Nat) : Int) = 0 from rfl) (show ((0 : Nat) : Int) = 0 from rfl) (show ((0 : Nat) : Int) = 0 from rfl)) (congrArg i3 ((hZ13A.1)))) (by omega) (by omega)) (decide_eq_false (by omega))) ?_
                refine wz_i0 (Eq.trans (i3T (Eq.trans (zm_rd (Z := Z13) (ν := ν) (k := 68) (show ((0 : Nat) : Int) = 0 from rfl) (show ((0 : Nat) : Int) = 0 from rfl) (show ((0 : Nat) : Int) = 0 from rfl)) (congrArg i3 ((hZ13A.1)))) (by omega) (by omega)) (decide_eq_false (by omega))) ?_
                refine wz_i0 (Eq.trans (i3T (Eq.trans (zm_rd (Z := Z13) (ν := ν) (k := 68) (show ((0 : Nat) : Int) = 0 from rfl) (show ((0 : Nat) : Int) = 0 from rfl) (show ((0 : Nat) : Int) = 0 from rfl)) (congrArg i3 ((hZ13A.1)))) (by omega) (by omega)) (decide_eq_false (by omega))) ?_
                refine wz_i0 (Eq.trans (i3T (Eq.trans (zm_rd (Z := Z13) (ν := ν) (k := 68) (show ((0 : Nat) : Int) = 0 from rfl) (show ((0 : Nat) : Int) = 0 from rfl) (show ((0 : Nat) : Int) = 0 from rfl)) (congrArg i3 ((hZ13A.1)))) (by omega) (by omega)) (decide_eq_false (by omega))) ?_
                refine wz_i0 (Eq.trans (i3T (Eq.trans (zm_rd (Z := Z13) (ν := ν) (k := 68) (show ((0 : Nat) : Int) = 0 from rfl) (show ((0 : Nat) : Int) = 0 from rfl) (show ((0 : Nat) : Int) = 0 from rfl)) (congrArg i3 ((hZ13A.1)))) (by omega) (by omega)) (decide_eq_false (by omega))) ?_
                refine wz_i0 (Eq.trans (i3T (Eq.trans (zm_rd (Z := Z13) (ν := ν) (k := 68) (show ((0 : Nat) : Int) = 0 from rfl) (show ((0 : Nat) : Int) = 0 from rfl) (show ((0 : Nat) : Int) = 0 from rfl)) (congrArg i3 ((hZ13A.1)))) (by omega) (by omega)) (decide_eq_false (by omega))) ?_
                refine wz_i1 (Eq.trans (i3T (Eq.trans (zm_rd (Z := Z13) (ν := ν) (k := 68) (show ((0 : Nat) : Int) = 0 from rfl) (show ((0 : Nat) : Int) = 0 from rfl) (show ((0 : Nat) : Int) = 0 from rfl)) (congrArg i3 ((hZ13A.1)))) (by omega) (by omega)) (decide_eq_true (by omega))) ?_
                refine wz_i1 rfl ?_
                refine wz_i0 (i3O (n := 7) (show (1 : Int32) = i3 1 from rfl) (by omega) (by omega) (by omega)) ?_
                refine wz_i1 rfl ?_
                refine wz_i0 (i3O (n := 7) (show (2 : Int32) = i3 2 from rfl) (by omega) (by omega) (by omega)) ?_
                refine wz_i1 rfl ?_
                refine wz_i0 (i3O (n := 7) (show (3 : Int32) = i3 3 from rfl) (by omega) (by omega) (by omega)) ?_
                refine wz_i1 rfl ?_
                refine wz_i0 (i3O (n := 7) (show (4 : Int32) = i3 4 from rfl) (by omega) (by omega) (by omega)) ?_
                refine wz_i1 rfl ?_
                refine wz_i0 (i3O (n := 7) (show (5 : Int32) = i3 5 from rfl) (by omega) (by omega) (by omega)) ?_
                refine wz_i1 rfl ?_
                refine wz_i0 (i3O (n := 7) (show (6 : Int32) = i3 6 from rfl) (by omega) (by omega) (by omega)) ?_
                have r14 := zH_k hZ13I 11 0 0 5 (lo := 0) (hi := 24) (by decide) rfl
                have q15 := dZ13 (k := 11) (i := 0) (j := 5) (by decide) (by omega)
                refine wz_i0 (i3O (n := 24) (zm_rd (Z := Z13) (ν := ν) (k := 11) (show ((0 : Nat) : Int) = 0 from rfl) (show ((0 : Nat) : Int) = 0 from rfl) (show ((5 : Nat) : Int) = 5 from rfl)) (by omega) (by omega) (by omega)) ?_
                obtain ⟨Z16, hZ16⟩ := zx (zu Z13 46 0 (Z13 11 0 0 5) 0 a1)
                replace hP := zl_e hP hZ16
                have hZ16I := zH_u hZ13I hZ16 (lo := 0) (hi := 7) (by decide) rfl (by omega) ⟨by decide, by decide⟩ (Or.inl (by decide)) rfl
                have hZ16U : zU [0, 2, 3, 4, 5, 6, 7, 8, 9] Z Z16 := zU_u hZ13U hZ16 (Or.inr (List.Mem.head _))
                have hZ16K : zC [3, 12, 13, 14, 40, 41, 42, 43, 44, 45, 46, 47, 48, 49, 50, 51, 52, 53, 54, 61, 68, 1099, 1100, 1101, 1102, 1103, 1104, 1105, 1106, 1107, 1108, 1109, 1110, 1111, 1112, 1113, 1114, 1115, 1116] Z Z16 := zC_u hZ13K hZ16 (by decide)
                intro μ9 e9
                replace e9 := e9.trans (zm_wI (Z := Z13) (ν := ν) hZ16 (show ((0 : Nat) : Int) = 0 from rfl) (i3I (y := (Z13 11 0 0 5)) (zm_rd (Z := Z13) (ν := ν) (k := 11) (show ((0 : Nat) : Int) = 0 from rfl) (show ((0 : Nat) : Int) = 0 from rfl) (show ((5 : Nat) : Int) = 5 from rfl)) (by omega) (by omega) (by omega)) (show ((0 : Nat) : Int) = 0 from rfl) (Eq.trans (zm_rd (Z := Z13) (ν := ν) (k := 68) (show ((0 : Nat) : Int) = 0 from rfl) (show ((0 : Nat) : Int) = 0 from rfl) (show ((1 : Nat) : Int) = 1 from rfl)) (congrArg i3 ((hZ13A.2.1)))))
                subst e9
                obtain ⟨Z17, hZ17⟩ := zx (zu Z16 46 0 (Z13 11 0 0 5) 1 a2)
                replace hP := zl_e hP hZ17
                have hZ17I := zH_u hZ16I hZ17 (lo := 0) (hi := 4) (by decide) rfl (by omega) ⟨by decide, by decide⟩ (Or.inl (by decide)) rfl
                have hZ17U : zU [0, 2, 3, 4, 5, 6, 7, 8, 9] Z Z17 := zU_u hZ16U hZ17 (Or.inr (List.Mem.head _))
                have hZ17K : zC [3, 12, 13, 14, 40, 41, 42, 43, 44, 45, 46, 47, 48, 49, 50, 51, 52, 53, 54, 61, 68, 1099, 1100, 1101, 1102, 1103, 1104, 1105, 1106, 1107, 1108, 1109, 1110, 1111, 1112, 1113, 1114, 1115, 1116] Z Z17 := zC_u hZ16K hZ17 (by decide)
                intro μ9 e9
                replace e9 := e9.trans (zm_wI (Z := Z16) (ν := ν) hZ17 (show ((0 : Nat) : Int) = 0 from rfl) (i3I (y := (Z13 11 0 0 5)) (zm_rd (Z := Z13) (ν := ν) (k := 11) (show ((0 : Nat) : Int) = 0 from rfl) (show ((0 : Nat) : Int) = 0 from rfl) (show ((5 : Nat) : Int) = 5 from rfl)) (by omega) (by omega) (by omega)) (show ((1 : Nat) : Int) = 1 from rfl) (Eq.trans (zm_rd (Z := Z13) (ν := ν) (k := 68) (show ((0 : Nat) : Int) = 0 from rfl) (show ((0 : Nat) : Int) = 0 from rfl) (show ((2 : Nat) : Int) = 2 from rfl)) (congrArg i3 ((hZ13A.2.2.1)))))
                subst e9
                obtain ⟨Z18, hZ18⟩ := zx (zu Z17 46 0 (Z13 11 0 0 5) 2 a3)
                replace hP := zl_e hP hZ18
                have hZ18I := zH_u hZ17I hZ18 (lo := 0) (hi := 3) (by decide) rfl (by omega) ⟨by decide, by decide⟩ (Or.inl (by decide)) rfl
                have hZ18U : zU [0, 2, 3, 4, 5, 6, 7, 8, 9] Z Z18 := zU_u hZ17U hZ18 (Or.inr (List.Mem.head _))
                have hZ18K : zC [3, 12, 13, 14, 40, 41, 42, 43, 44, 45, 46, 47, 48, 49, 50, 51, 52, 53, 54, 61, 68, 1099, 1100, 1101, 1102, 1103, 1104, 1105, 1106, 1107, 1108, 1109, 1110, 1111, 1112, 1113, 1114, 1115, 1116] Z Z18 := zC_u hZ17K hZ18 (by decide)
                intro μ9 e9
                replace e9 := e9.trans (zm_wI (Z := Z17) (ν := ν) hZ18 (show ((0 : Nat) : Int) = 0 from rfl) (i3I (y := (Z13 11 0 0 5)) (zm_rd (Z := Z13) (ν := ν) (k := 11) (show ((0 : Nat) : Int) = 0 from rfl) (show ((0 : Nat) : Int) = 0 from rfl) (show ((5 : Nat) : Int) = 5 from rfl)) (by omega) (by omega) (by omega)) (show ((2 : Nat) : Int) = 2 from rfl) (Eq.trans (zm_rd (Z := Z13) (ν := ν) (k := 68) (show ((0 : Nat) : Int) = 0 from rfl) (show ((0 : Nat) : Int) = 0 from rfl) (show ((3 : Nat) : Int) = 3 from rfl)) (congrArg i3 ((hZ13A.2.2.2.1)))))
                subst e9
                obtain ⟨Z19, hZ19⟩ := zx (zu Z18 46 0 (Z13 11 0 0 5) 3 a4)
                replace hP := zl_e hP hZ19
                have hZ19I := zH_u hZ18I hZ19 (lo := 0) (hi := 99) (by decide) rfl (by omega) ⟨by decide, by decide⟩ (Or.inl (by decide)) rfl
                have hZ19U : zU [0, 2, 3, 4, 5, 6, 7, 8, 9] Z Z19 := zU_u hZ18U hZ19 (Or.inr (List.Mem.head _))
                have hZ19K : zC [3, 12, 13, 14, 40, 41, 42, 43, 44, 45, 46, 47, 48, 49, 50, 51, 52, 53, 54, 61, 68, 1099, 1100, 1101, 1102, 1103, 1104, 1105, 1106, 1107, 1108, 1109, 1110, 1111, 1112, 1113, 1114, 1115, 1116] Z Z19 := zC_u hZ18K hZ19 (by decide)
                intro μ9 e9
                replace e9 := e9.trans (zm_wI (Z := Z18) (ν := ν) hZ19 (show ((0 : Nat) : Int) = 0 from rfl) (i3I (y := (Z13 11 0 0 5)) (zm_rd (Z := Z13) (ν := ν) (k := 11) (show ((0 : Nat) : Int) = 0 from rfl) (show ((0 : Nat) : Int) = 0 from rfl) (show ((5 : Nat) : Int) = 5 from rfl)) (by omega) (by omega) (by omega)) (show ((3 : Nat) : Int) = 3 from rfl) (Eq.trans (zm_rd (Z := Z13) (ν := ν) (k := 68) (show ((0 : Nat) : Int) = 0 from rfl) (show ((0 : Nat) : Int) = 0 from rfl) (show ((4 : Nat) : Int) = 4 from rfl)) (congrArg i3 ((hZ13A.2.2.2.2.1)))))
                subst e9
                obtain ⟨Z20, hZ20⟩ := zx (zu Z19 46 0 (Z13 11 0 0 5) 4 a5)
                replace hP := zl_e hP hZ20
                have hZ20I := zH_u hZ19I hZ20 (lo := 0) (hi := 9999) (by decide) rfl (by omega) ⟨by decide, by decide⟩ (Or.inl (by decide)) rfl
                have hZ20U : zU [0, 2, 3, 4, 5, 6, 7, 8, 9] Z Z20 := zU_u hZ19U hZ20 (Or.inr (List.Mem.head _))
                have hZ20K : zC [3, 12, 13, 14, 40, 41, 42, 43, 44, 45, 46, 47, 48, 49, 50, 51, 52, 53, 54, 61, 68, 1099, 1100, 1101, 1102, 1103, 1104, 1105, 1106, 1107, 1108, 1109, 1110, 1111, 1112, 1113, 1114, 1115, 1116] Z Z20 := zC_u hZ19K hZ20 (by decide)
                intro μ9 e9
                replace e9 := e9.trans (zm_wI (Z := Z19) (ν := ν) hZ20 (show ((0 : Nat) : Int) = 0 from rfl) (i3I (y := (Z13 11 0 0 5)) (zm_rd (Z := Z13) (ν := ν) (k := 11) (show ((0 : Nat) : Int) = 0 from rfl) (show ((0 : Nat) : Int) = 0 from rfl) (show ((5 : Nat) : Int) = 5 from rfl)) (by omega) (by omega) (by omega)) (show ((4 : Nat) : Int) = 4 from rfl) (Eq.trans (zm_rd (Z := Z13) (ν := ν) (k := 68) (show ((0 : Nat) : Int) = 0 from rfl) (show ((0 : Nat) : Int) = 0 from rfl) (show ((5 : Nat) : Int) = 5 from rfl)) (congrArg i3 ((hZ13A.2.2.2.2.2.1)))))
                subst e9
                obtain ⟨Z21, hZ21⟩ := zx (zu Z20 46 0 (Z13 11 0 0 5) 5 a6)
                replace hP := zl_e hP hZ21
                have hZ21I := zH_u hZ20I hZ21 (lo := 0) (hi := 127) (by decide) rfl (by omega) ⟨by decide, by decide⟩ (Or.inl (by decide)) rfl
                have hZ21U : zU [0, 2, 3, 4, 5, 6, 7, 8, 9] Z Z21 := zU_u hZ20U hZ21 (Or.inr (List.Mem.head _))
                have hZ21K : zC [3, 12, 13, 14, 40, 41, 42, 43, 44, 45, 46, 47, 48, 49, 50, 51, 52, 53, 54, 61, 68, 1099, 1100, 1101, 1102, 1103, 1104, 1105, 1106, 1107, 1108, 1109, 1110, 1111, 1112, 1113, 1114, 1115, 1116] Z Z21 := zC_u hZ20K hZ21 (by decide)
                intro μ9 e9
                replace e9 := e9.trans (zm_wI (Z := Z20) (ν := ν) hZ21 (show ((0 : Nat) : Int) = 0 from rfl) (i3I (y := (Z13 11 0 0 5)) (zm_rd (Z := Z13) (ν := ν) (k := 11) (show ((0 : Nat) : Int) = 0 from rfl) (show ((0 : Nat) : Int) = 0 from rfl) (show ((5 : Nat) : Int) = 5 from rfl)) (by omega) (by omega) (by omega)) (show ((5 : Nat) : Int) = 5 from rfl) (Eq.trans (zm_rd (Z := Z13) (ν := ν) (k := 68) (show ((0 : Nat) : Int) = 0 from rfl) (show ((0 : Nat) : Int) = 0 from rfl) (show ((6 : Nat) : Int) = 6 from rfl)) (congrArg i3 ((hZ13A.2.2.2.2.2.2)))))
                subst e9
                obtain ⟨Z22, hZ22⟩ := zx (zu Z21 46 0 (Z13 11 0 0 5) 6 a4)
                replace hP := zl_e hP hZ22
                have hZ22I := zH_u hZ21I hZ22 (lo := 0) (hi := 99) (by decide) rfl (by omega) ⟨by decide, by decide⟩ (Or.inl (by decide)) rfl
                have hZ22U : zU [0, 2, 3, 4, 5, 6, 7, 8, 9] Z Z22 := zU_u hZ21U hZ22 (Or.inr (List.Mem.head _))
                have hZ22K : zC [3, 12, 13, 14, 40, 41, 42, 43, 44, 45, 46, 47, 48, 49, 50, 51, 52, 53, 54, 61, 68, 1099, 1100, 1101, 1102, 1103, 1104, 1105, 1106, 1107, 1108, 1109, 1110, 1111, 1112, 1113, 1114, 1115, 1116] Z Z22 := zC_u hZ21K hZ22 (by decide)
                intro μ9 e9
                replace e9 := e9.trans (zm_wI (Z := Z21) (ν := ν) hZ22 (show ((0 : Nat) : Int) = 0 from rfl) (i3I (y := (Z13 11 0 0 5)) (zm_rd (Z := Z13) (ν := ν) (k := 11) (show ((0 : Nat) : Int) = 0 from rfl) (show ((0 : Nat) : Int) = 0 from rfl) (show ((5 : Nat) : Int) = 5 from rfl)) (by omega) (by omega) (by omega)) (show ((6 : Nat) : Int) = 6 from rfl) (Eq.trans (zm_rd (Z := Z13) (ν := ν) (k := 68) (show ((0 : Nat) : Int) = 0 from rfl) (show ((0 : Nat) : Int) = 0 from rfl) (show ((4 : Nat) : Int) = 4 from rfl)) (congrArg i3 ((hZ13A.2.2.2.2.1)))))
                subst e9
                refine wz_i0 (i3O (n := 8) (Eq.trans (zm_rd (Z := Z13) (ν := ν) (k := 68) (show ((0 : Nat) : Int) = 0 from rfl) (show ((0 : Nat) : Int) = 0 from rfl) (show ((1 : Nat) : Int) = 1 from rfl)) (congrArg i3 ((hZ13A.2.1)))) (by omega) (by omega) (by omega)) ?_
                have r23 := zH_f hZ22I 45 0 a1 14
                have r24 := w3_r ((Z22 45 0 a1 14) + 1)
                obtain ⟨Z25, hZ25⟩ := zx (zu Z22 45 0 a1 14 (w3 ((Z22 45 0 a1 14) + 1)))
                replace hP := zl_e hP hZ25
                have hZ25I := zH_u hZ22I hZ25 (lo := -2147483648) (hi := 2147483647) (by decide) rfl (by omega) ⟨by decide, by decide⟩ (Or.inl (by decide)) rfl
                have hZ25U : zU [0, 2, 3, 4, 5, 6, 7, 8, 9] Z Z25 := zU_u hZ22U hZ25 (Or.inr (List.Mem.head _))
                have hZ25K : zC [3, 12, 13, 14, 40, 41, 42, 43, 44, 45, 46, 47, 48, 49, 50, 51, 52, 53, 54, 61, 68, 1099, 1100, 1101, 1102, 1103, 1104, 1105, 1106, 1107, 1108, 1109, 1110, 1111, 1112, 1113, 1114, 1115, 1116] Z Z25 := zC_u hZ22K hZ25 (by decide)
                intro μ9 e9
                replace e9 := e9.trans (zm_wI (Z := Z22) (ν := ν) hZ25 (show ((0 : Nat) : Int) = 0 from rfl) (i3I (y := a1) (Eq.trans (zm_rd (Z := Z13) (ν := ν) (k := 68) (show ((0 : Nat) : Int) = 0 from rfl) (show ((0 : Nat) : Int) = 0 from rfl) (show ((1 : Nat) : Int) = 1 from rfl)) (congrArg i3 ((hZ13A.2.1)))) (by omega) (by omega) (by omega)) (show ((14 : Nat) : Int) = 14 from rfl) (i3W (i3A (zm_rd (Z := Z22) (ν := ν) (k := 45) (show ((0 : Nat) : Int) = 0 from rfl) (i3I (y := a1) (Eq.trans (zm_rd (Z := Z13) (ν := ν) (k := 68) (show ((0 : Nat) : Int) = 0 from rfl) (show ((0 : Nat) : Int) = 0 from rfl) (show ((1 : Nat) : Int) = 1 from rfl)) (congrArg i3 ((hZ13A.2.1)))) (by omega) (by omega) (by omega)) (show ((14 : Nat) : Int) = 14 from rfl)) (show (1 : Int32) = i3 1 from rfl))))
                subst e9
                have r26 := zH_k hZ25I 11 0 0 5 (lo := 0) (hi := 24) (by decide) rfl
                have q27 := (zu_ne (k' := 11) (b' := 0) (i' := 0) (j' := 5) hZ25 (fun q => absurd q.1 (by decide))).trans ((zu_ne (k' := 11) (b' := 0) (i' := 0) (j' := 5) hZ22 (fun q => absurd q.1 (by decide))).trans ((zu_ne (k' := 11) (b' := 0) (i' := 0) (j' := 5) hZ21 (fun q => absurd q.1 (by decide))).trans ((zu_ne (k' := 11) (b' := 0) (i' := 0) (j' := 5) hZ20 (fun q => absurd q.1 (by decide))).trans ((zu_ne (k' := 11) (b' := 0) (i' := 0) (j' := 5) hZ19 (fun q => absurd q.1 (by decide))).trans ((zu_ne (k' := 11) (b' := 0) (i' := 0) (j' := 5) hZ18 (fun q => absurd q.1 (by decide))).trans ((zu_ne (k' := 11) (b' := 0) (i' := 0) (j' := 5) hZ17 (fun q => absurd q.1 (by decide))).trans (zu_ne (k' := 11) (b' := 0) (i' := 0) (j' := 5) hZ16 (fun q => absurd q.1 (by decide)))))))))
                obtain ⟨Z28, hZ28⟩ := zx (zu Z25 11 0 0 5 ((Z25 11 0 0 5) + 1))
                replace hP := zl_e hP hZ28
                have hZ28I := zH_u hZ25I hZ28 (lo := 0) (hi := 24) (by decide) rfl (by omega) ⟨by decide, by decide⟩ (Or.inl (by decide)) rfl
                have hZ28U : zU [0, 2, 3, 4, 5, 6, 7, 8, 9] Z Z28 := zU_u hZ25U hZ28 (Or.inr (List.Mem.head _))
                have hZ28K : zC [3, 12, 13, 14, 40, 41, 42, 43, 44, 45, 46, 47, 48, 49, 50, 51, 52, 53, 54, 61, 68, 1099, 1100, 1101, 1102, 1103, 1104, 1105, 1106, 1107, 1108, 1109, 1110, 1111, 1112, 1113, 1114, 1115, 1116] Z Z28 := zC_u hZ25K hZ28 (by decide)
                intro μ9 e9
                replace e9 := e9.trans (zm_wI (Z := Z25) (ν := ν) hZ28 (show ((0 : Nat) : Int) = 0 from rfl) (show ((0 : Nat) : Int) = 0 from rfl) (show ((5 : Nat) : Int) = 5 from rfl) (i3A (zm_rd (Z := Z25) (ν := ν) (k := 11) (show ((0 : Nat) : Int) = 0 from rfl) (show ((0 : Nat) : Int) = 0 from rfl) (show ((5 : Nat) : Int) = 5 from rfl)) (show (1 : Int32) = i3 1 from rfl)))
                subst e9
                exact zlG hP (zm_rd (Z := Z25) (ν := ν) (k := 11) (show ((0 : Nat) : Int) = 0 from rfl) (show ((0 : Nat) : Int) = 0 from rfl) (show ((5 : Nat) : Int) = 5 from rfl)) ⟨hZ28I, hZ28K, hZ28U, zG_w zG_r (Nat.le_of_ble_eq_true rfl) (Nat.le_of_ble_eq_true rfl)⟩
            · replace hP := zE_n hP h8
              exact zlGe (E := 12) hP ⟨hZ, zC_r, zU_r, zG_w (zG_k rfl) (Nat.le_of_ble_eq_true rfl) (Nat.le_of_ble_eq_true rfl)⟩
          · replace hP := zE_n hP h7
            exact zlGe (E := 12) hP ⟨hZ, zC_r, zU_r, zG_w (zG_k rfl) (Nat.le_of_ble_eq_true rfl) (Nat.le_of_ble_eq_true rfl)⟩
        · replace hP := zE_n hP h6
          exact zlGe (E := 12) hP ⟨hZ, zC_r, zU_r, zG_w (zG_k rfl) (Nat.le_of_ble_eq_true rfl) (Nat.le_of_ble_eq_true rfl)⟩
      · replace hP := zE_n hP h5
        exact zlGe (E := 12) hP ⟨hZ, zC_r, zU_r, zG_w (zG_k rfl) (Nat.le_of_ble_eq_true rfl) (Nat.le_of_ble_eq_true rfl)⟩
    · replace hP := zE_n hP h4
      exact zlGe (E := 23) hP ⟨hZ, zC_r, zU_r, zG_w (zG_k rfl) (Nat.le_of_ble_eq_true rfl) (Nat.le_of_ble_eq_true rfl)⟩
  · replace hP := zE_n hP h2
    exact zlGe (E := 23) hP ⟨hZ, zC_r, zU_r, zG_w (zG_k rfl) (Nat.le_of_ble_eq_true rfl) (Nat.le_of_ble_eq_true rfl)⟩
/- yX11_ordered -/
def zx_221 (Z : qz_Z) (a1 : Int) (a2 : Int) : qz_Z × Int × Int := (if 0 ≤ a1 ∧ a1 < (Z 11 0 0 5) then (if 0 ≤ a2 ∧ a2 ≤ 9 then (if a2 ≠ 9 then (Z, (Z 46 0 a1 a2), 0) else (zlet (zf_14 Z 0 0 a1) (fun v6 => (if v6 = 0 then (Z, 0, 0) else (Z, 1, 0))))) else (Z, 0, 13)) else (Z, 0, 24))
theorem sx_221 {M : Nat} {Z : qz_Z} {ν : qz_N} (hZ : zH ((none, M) : zSM) Z) (hM : ((none, M) : zSM).2 + 0 ≤ 1000000000) {a1 : Int} (ga1 : -2147483648 ≤ a1 ∧ a1 ≤ 2147483647) {a2 : Int} (ga2 : -2147483648 ≤ a2 ∧ a2 ≤ 2147483647) : ∃ (Z1 : qz_Z) (ν1 : qz_N) (v E : Int), (Z1, v, E) = zx_221 Z a1 a2 ∧ qf_221 [.inr (.inr (some (0, 0, 0))), .inl (i3 a1), .inl (i3 a2)] (zm Z ν) = some (zm Z1 ν1, zoX v E) ∧ (fun Z1 ν1 => zH ((none, M) : zSM) Z1 ∧ zC [] Z Z1 ∧ zU [] Z Z1 ∧ zG 1 6 ν ν1) Z1 ν1 := by
  obtain ⟨P, hP⟩ := zx (zx_221 Z a1 a2)
  refine zc_G (Q := fun Z1 ν1 => zH ((none, M) : zSM) Z1 ∧ zC [] Z Z1 ∧ zU [] Z Z1 ∧ zG 1 6 ν ν1) hP (fw_221 (i3 a1) (i3 a2) _ _ ?_)
  replace hP : zE P (zx_221 Z a1 a2) := hP
  unfold zx_221 at hP
  have r1 := zH_k hZ 11 0 0 5 (lo := 0) (hi := 24) (by decide) rfl
  refine wz_thing (rfl : i3 a1 = i3 a1) (zm_rd (Z := Z) (ν := ν) (k := 11) (show ((0 : Nat) : Int) = 0 from rfl) (show ((0 : Nat) : Int) = 0 from rfl) (show ((5 : Nat) : Int) = 5 from rfl)) (by omega) (by omega) (by omega) (by omega) (fun h2 => ?_) (fun h2 => ?_)
  · replace hP := zE_p hP h2
    refine wz_inR (rfl : i3 a2 = i3 a2) (show (0 : Int32) = i3 0 from rfl) (show (9 : Int32) = i3 9 from rfl) (by omega) (by omega) (by omega) (by omega) (by omega) (by omega) (fun h3 => ?_) (fun h3 => ?_)
    · replace hP := zE_p hP h3
      refine wz_br (i3NE (rfl : i3 a2 = i3 a2) (show (9 : Int32) = i3 9 from rfl) (by omega) (by omega) (by omega) (by omega)) (fun h4 => ?_) (fun h4 => ?_)
      · replace hP := zE_p hP h4
        refine wz_i0 (i3O (n := 24) (rfl : i3 a1 = i3 a1) (by omega) (by omega) (by omega)) ?_
        refine wz_i0 (i3O (n := 10) (rfl : i3 a2 = i3 a2) (by omega) (by omega) (by omega)) ?_
        have r5 := zH_f hZ 46 0 a1 a2
        exact zlG hP (zm_rd (Z := Z) (ν := ν) (k := 46) (show ((0 : Nat) : Int) = 0 from rfl) (i3I (y := a1) (rfl : i3 a1 = i3 a1) (by omega) (by omega) (by omega)) (i3I (y := a2) (rfl : i3 a2 = i3 a2) (by omega) (by omega) (by omega))) ⟨hZ, zC_r, zU_r, zG_w zG_r (Nat.le_of_ble_eq_true rfl) (Nat.le_of_ble_eq_true rfl)⟩
      · replace hP := zE_n hP h4
        refine wz_i0 (i3O (n := 24) (rfl : i3 a1 = i3 a1) (by omega) (by omega) (by omega)) ?_
        obtain ⟨v6, hv6, c9, lv6, uv6⟩ := sp_14 (ν := ν) hZ 0 0 _ (i3I (y := a1) (rfl : i3 a1 = i3 a1) (by omega) (by omega) (by omega)) (by omega) (zbh (c := 0) (k := 0) hM (Nat.le_of_ble_eq_true rfl))
        replace hP := zl_e hP hv6
        refine wz_cI_of (zas (zcons rfl (zcons rfl rfl)) c9) ?_
        clear c9
        refine wz_br (i3E (rfl : i3 v6 = i3 v6) (show (0 : Int32) = i3 0 from rfl) (by omega) (by omega) (by omega) (by omega)) (fun h7 => ?_) (fun h7 => ?_)
        · replace hP := zE_p hP h7
          exact zlG hP (show (0 : Int32) = i3 0 from rfl) ⟨hZ, zC_r, zU_r, zG_w zG_r (Nat.le_of_ble_eq_true rfl) (Nat.le_of_ble_eq_true rfl)⟩
        · replace hP := zE_n hP h7
          exact zlG hP (show (1 : Int32) = i3 1 from rfl) ⟨hZ, zC_r, zU_r, zG_w zG_r (Nat.le_of_ble_eq_true rfl) (Nat.le_of_ble_eq_true rfl)⟩
    · replace hP := zE_n hP h3
      exact zlGe (E := 12) hP ⟨hZ, zC_r, zU_r, zG_w (zG_k rfl) (Nat.le_of_ble_eq_true rfl) (Nat.le_of_ble_eq_true rfl)⟩
  · replace hP := zE_n hP h2
    exact zlGe (E := 23) hP ⟨hZ, zC_r, zU_r, zG_w (zG_k rfl) (Nat.le_of_ble_eq_true rfl) (Nat.le_of_ble_eq_true rfl)⟩
/- yX11_outside -/
def zx_222 (Z : qz_Z) (a1 : Int) (a2 : Int) : qz_Z × Int × Int := (if 0 ≤ a1 ∧ a1 ≤ 27 then (if 0 ≤ a2 ∧ a2 ≤ 40 then (if a1 < ((Z 11 0 0 13) / 24) then (Z, 0, 15) else (zlet (zdd Z 7 a1 a2 0 0 0 0) (fun Z7 => (zlet (zu Z7 12 0 0 a1 a2) (fun Z8 => (Z8, (Z7 12 0 0 a1), 0)))))) else (Z, 0, 13)) else (Z, 0, 13))
theorem sx_222 {M : Nat} {Z : qz_Z} {ν : qz_N} (hZ : zH ((none, M) : zSM) Z) (hM : ((none, M) : zSM).2 + 0 ≤ 1000000000) {a1 : Int} (ga1 : -2147483648 ≤ a1 ∧ a1 ≤ 2147483647) {a2 : Int} (ga2 : -2147483648 ≤ a2 ∧ a2 ≤ 2147483647) : ∃ (Z1 : qz_Z) (ν1 : qz_N) (v E : Int), (Z1, v, E) = zx_222 Z a1 a2 ∧ qf_222 [.inr (.inr (some (0, 0, 0))), .inl (i3 a1), .inl (i3 a2)] (zm Z ν) = some (zm Z1 ν1, zoX v E) ∧ (fun Z1 ν1 => zH ((none, M) : zSM) Z1 ∧ zC [3, 12, 13, 14, 40, 41, 42, 43, 44, 45, 46, 47, 48, 49, 50, 51, 52, 53, 54, 61, 68, 1099, 1100, 1101, 1102, 1103, 1104, 1105, 1106, 1107, 1108, 1109, 1110, 1111, 1112, 1113, 1114, 1115, 1116] Z Z1 ∧ zU [0, 2, 3, 4, 5, 6, 7, 8, 9] Z Z1 ∧ zG 1 6 ν ν1) Z1 ν1 := by
  obtain ⟨P, hP⟩ := zx (zx_222 Z a1 a2)
  refine zc_G (Q := fun Z1 ν1 => zH ((none, M) : zSM) Z1 ∧ zC [3, 12, 13, 14, 40, 41, 42, 43, 44, 45, 46, 47, 48, 49, 50, 51, 52, 53, 54, 61, 68, 1099, 1100, 1101, 1102, 1103, 1104, 1105, 1106, 1107, 1108, 1109, 1110, 1111, 1112, 1113, 1114, 1115, 1116] Z Z1 ∧ zU [0, 2, 3, 4, 5, 6, 7, 8, 9] Z Z1 ∧ zG 1 6 ν ν1) hP (fw_222 (i3 a1) (i3 a2) _ _ ?_)
  replace hP : zE P (zx_222 Z a1 a2) := hP
  unfold zx_222 at hP
  refine wz_inR (rfl : i3 a1 = i3 a1) (show (0 : Int32) = i3 0 from rfl) (show (27 : Int32) = i3 27 from rfl) (by omega) (by omega) (by omega) (by omega) (by omega) (by omega) (fun h1 => ?_) (fun h1 => ?_)
  · replace hP := zE_p hP h1
    refine wz_inR (rfl : i3 a2 = i3 a2) (show (0 : Int32) = i3 0 from rfl) (show (40 : Int32) = i3 40 from rfl) (by omega) (by omega) (by omega) (by omega) (by omega) (by omega) (fun h2 => ?_) (fun h2 => ?_)
    · replace hP := zE_p hP h2
      have r3 := zH_k hZ 11 0 0 13 (lo := 0) (hi := 671) (by decide) rfl
      refine wz_br (i3L (rfl : i3 a1 = i3 a1) (i3D (zm_rd (Z := Z) (ν := ν) (k := 11) (show ((0 : Nat) : Int) = 0 from rfl) (show ((0 : Nat) : Int) = 0 from rfl) (show ((13 : Nat) : Int) = 13 from rfl)) (show (24 : Int32) = i3 24 from rfl) (by omega) (by omega) (by omega) (by omega)) (by omega) (by omega) (by omega) (by omega)) (fun h4 => ?_) (fun h4 => ?_)
      · replace hP := zE_p hP h4
        refine wz_inT_n (show (0 : Int32) = i3 0 from rfl) (by omega) (by omega) (by omega) ?_
        exact zlGe (E := 14) hP ⟨hZ, zC_r, zU_r, zG_w (zG_k rfl) (Nat.le_of_ble_eq_true rfl) (Nat.le_of_ble_eq_true rfl)⟩
      · replace hP := zE_n hP h4
        refine wz_inT_y (show (1 : Int32) = i3 1 from rfl) (by omega) (by omega) (by omega) ?_
        refine dc_J (zcons rfl (zcons (zvi (show (7 : Int32) = i3 7 from rfl)) (zcons (zvi (rfl : i3 a1 = i3 a1)) (zcons (zvi (rfl : i3 a2 = i3 a2)) (zcons (zvi (show (0 : Int32) = i3 0 from rfl)) (zcons (zvi (show (0 : Int32) = i3 0 from rfl)) (zcons (zvi (show (0 : Int32) = i3 0 from rfl)) (zcons (zvi (show (0 : Int32) = i3 0 from rfl)) rfl)))))))) (dg (hZ).1 (by omega) (by omega) (by omega) (by omega) (by omega) (by omega) (by omega) ?_)
        have hZ7I := zH_dd hZ (a1 := 7) (a2 := a1) (a3 := a2) (a4 := 0) (a5 := 0) (a6 := 0) (a7 := 0) (by omega) (by omega) (by omega) (by omega) (by omega) (by omega) (by omega)
        have kZ7 : zC [3, 12, 13, 14, 40, 41, 42, 43, 44, 45, 46, 47, 48, 49, 50, 51, 52, 53, 54, 61, 68, 1099, 1100, 1101, 1102, 1103, 1104, 1105, 1106, 1107, 1108, 1109, 1110, 1111, 1112, 1113, 1114, 1115, 1116] Z (zdd Z 7 a1 a2 0 0 0 0) := zC_k zdd_K (by decide) (by decide)
        have hZ7A : (zdd Z 7 a1 a2 0 0 0 0) 68 0 0 0 = 7 ∧ (zdd Z 7 a1 a2 0 0 0 0) 68 0 0 1 = a1 ∧ (zdd Z 7 a1 a2 0 0 0 0) 68 0 0 2 = a2 ∧ (zdd Z 7 a1 a2 0 0 0 0) 68 0 0 3 = 0 ∧ (zdd Z 7 a1 a2 0 0 0 0) 68 0 0 4 = 0 ∧ (zdd Z 7 a1 a2 0 0 0 0) 68 0 0 5 = 0 ∧ (zdd Z 7 a1 a2 0 0 0 0) 68 0 0 6 = 0 := ⟨zdd_68, zdd_68, zdd_68, zdd_68, zdd_68, zdd_68, zdd_68⟩
        obtain ⟨Z7, hZ7⟩ := zx (zdd Z 7 a1 a2 0 0 0 0)
        have dZ7 : ∀ {k : Nat} {i j : Int}, zhall k = true → ¬ (k = 11 ∧ (j = 15 ∨ j = 16)) → Z7 k 0 i j = Z k 0 i j := fun hk hj => by rw [hZ7]; exact zdd_h (hZ).1 hk hj
        have jZ7 : zU [0, 2, 3, 4, 5, 6, 7, 8, 9] Z (zdd Z 7 a1 a2 0 0 0 0) := zU_dd (hZ).1
        rw [← hZ7] at hZ7I kZ7 jZ7 hZ7A ⊢
        have hZ7U : zU [0, 2, 3, 4, 5, 6, 7, 8, 9] Z Z7 := zU_t zU_r jZ7 (zU_b1 (List.Mem.head _) (zU_b1 (List.Mem.tail _ (List.Mem.head _)) (zU_b1 (List.Mem.tail _ (List.Mem.tail _ (List.Mem.head _))) (zU_b1 (List.Mem.tail _ (List.Mem.tail _ (List.Mem.tail _ (List.Mem.head _)))) (zU_b1 (List.Mem.tail _ (List.Mem.tail _ (List.Mem.tail _ (List.Mem.tail _ (List.Mem.head _))))) (zU_b1 (List.Mem.tail _ (List.Mem.tail _ (List.Mem.tail _ (List.Mem.tail _ (List.Mem.tail _ (List.Mem.head _)))))) (zU_b1 (List.Mem.tail _ (List.Mem.tail _ (List.Mem.tail _ (List.Mem.tail _ (List.Mem.tail _ (List.Mem.tail _ (List.Mem.head _))))))) (zU_b1 (List.Mem.tail _ (List.Mem.tail _ (List.Mem.tail _ (List.Mem.tail _ (List.Mem.tail _ (List.Mem.tail _ (List.Mem.tail _ (List.Mem.head _)))))))) (zU_b1 (List.Mem.tail _ (List.Mem.tail _ (List.Mem.tail _ (List.Mem.tail _ (List.Mem.tail _ (List.Mem.tail _ (List.Mem.tail _ (List.Mem.tail _ (List.Mem.head _))))))))) zU_b0)))))))))
        replace hP := zl_e hP hZ7
        have hZ7K : zC [3, 12, 13, 14, 40, 41, 42, 43, 44, 45, 46, 47, 48, 49, 50, 51, 52, 53, 54, 61, 68, 1099, 1100, 1101, 1102, 1103, 1104, 1105, 1106, 1107, 1108, 1109, 1110, 1111, 1112, 1113, 1114, 1115, 1116] Z Z7 := zC_t zC_r kZ7 (by decide)
        clear kZ7 hZ7
        refine fw_121 _ _ _ _ ?_
        refine wz_i1 rfl ?_
        refine wz_i0 (i3O (n := 7) (show (0 : Int32) = i3 0 from rfl) (by omega) (by omega) (by omega)) ?_
        refine wz_i0 (Eq.trans (i3To (Eq.trans (zm_rd (Z := Z7) (ν := ν) (k := 68) (show ((0 : Nat) : Int) = 0 from rfl) (show ((0 : Nat) : Int) = 0 from rfl) (show ((0 : Nat) : Int) = 0 from rfl)) (congrArg i3 ((hZ7A.1)))) (by omega) (by omega)) (decide_eq_false (by omega))) ?_
        refine wz_i0 (Eq.trans (i3T (Eq.trans (zm_rd (Z := Z7) (ν := ν) (k := 68) (show ((0 : Nat) : Int) = 0 from rfl) (show ((0 : Nat) : Int) = 0 from rfl) (show ((0 : Nat) : Int) = 0 from rfl)) (congrArg i3 ((hZ7A.1)))) (by omega) (by omega)) (decide_eq_false (by omega))) ?_
        refine wz_i0 (Eq.trans (i3T (Eq.trans (zm_rd (Z := Z7) (ν := ν) (k := 68) (show ((0 : Nat) : Int) = 0 from rfl) (show ((0 : Nat) : Int) = 0 from rfl) (show ((0 : Nat) : Int) = 0 from rfl)) (congrArg i3 ((hZ7A.1)))) (by omega) (by omega)) (decide_eq_false (by omega))) ?_
        refine wz_i0 (Eq.trans (i3T (Eq.trans (zm_rd (Z := Z7) (ν := ν) (k := 68) (show ((0 : Nat) : Int) = 0 from rfl) (show ((0 : Nat) : Int) = 0 from rfl) (show ((0 : Nat) : Int) = 0 from rfl)) (congrArg i3 ((hZ7A.1)))) (by omega) (by omega)) (decide_eq_false (by omega))) ?_
        refine wz_i0 (Eq.trans (i3T (Eq.trans (zm_rd (Z := Z7) (ν := ν) (k := 68) (show ((0 : Nat) : Int) = 0 from rfl) (show ((0 : Nat) : Int) = 0 from rfl) (show ((0 : Nat) : Int) = 0 from rfl)) (congrArg i3 ((hZ7A.1)))) (by omega) (by omega)) (decide_eq_false (by omega))) ?_
        refine wz_i0 (Eq.trans (i3T (Eq.trans (zm_rd (Z := Z7) (ν := ν) (k := 68) (show ((0 : Nat) : Int) = 0 from rfl) (show ((0 : Nat) : Int) = 0 from rfl) (show ((0 : Nat) : Int) = 0 from rfl)) (congrArg i3 ((hZ7A.1)))) (by omega) (by omega)) (decide_eq_false (by omega))) ?_
        refine wz_i0 (Eq.trans (i3T (Eq.trans (zm_rd (Z := Z7) (ν := ν) (k := 68) (show ((0 : Nat) : Int) = 0 from rfl) (show ((0 : Nat) : Int) = 0 from rfl) (show ((0 : Nat) : Int) = 0 from rfl)) (congrArg i3 ((hZ7A.1)))) (by omega) (by omega)) (decide_eq_false (by omega))) ?_
        refine wz_i0 (Eq.trans (i3T (Eq.trans (zm_rd (Z := Z7) (ν := ν) (k := 68) (show ((0 : Nat) : Int) = 0 from rfl) (show ((0 : Nat) : Int) = 0 from rfl) (show ((0 : Nat) : Int) = 0 from rfl)) (congrArg i3 ((hZ7A.1)))) (by omega) (by omega)) (decide_eq_false (by omega))) ?_
        refine wz_i1 (Eq.trans (i3T (Eq.trans (zm_rd (Z := Z7) (ν := ν) (k := 68) (show ((0 : Nat) : Int) = 0 from rfl) (show ((0 : Nat) : Int) = 0 from rfl) (show ((0 : Nat) : Int) = 0 from rfl)) (congrArg i3 ((hZ7A.1)))) (by omega) (by omega)) (decide_eq_true (by omega))) ?_
        refine wz_i1 rfl ?_
        refine wz_i0 (i3O (n := 7) (show (1 : Int32) = i3 1 from rfl) (by omega) (by omega) (by omega)) ?_
        refine wz_i1 rfl ?_
        refine wz_i0 (i3O (n := 7) (show (2 : Int32) = i3 2 from rfl) (by omega) (by omega) (by omega)) ?_
        refine wz_i0 (i3O (n := 28) (Eq.trans (zm_rd (Z := Z7) (ν := ν) (k := 68) (show ((0 : Nat) : Int) = 0 from rfl) (show ((0 : Nat) : Int) = 0 from rfl) (show ((1 : Nat) : Int) = 1 from rfl)) (congrArg i3 ((hZ7A.2.1)))) (by omega) (by omega) (by omega)) ?_
        refine wz_i0 (i3O (n := 28) (Eq.trans (zm_rd (Z := Z7) (ν := ν) (k := 68) (show ((0 : Nat) : Int) = 0 from rfl) (show ((0 : Nat) : Int) = 0 from rfl) (show ((1 : Nat) : Int) = 1 from rfl)) (congrArg i3 ((hZ7A.2.1)))) (by omega) (by omega) (by omega)) ?_
        obtain ⟨Z8, hZ8⟩ := zx (zu Z7 12 0 0 a1 a2)
        replace hP := zl_e hP hZ8
        have hZ8I := zH_u hZ7I hZ8 (lo := 0) (hi := 40) (by decide) (zrc_12 (by omega) (by omega)) (by omega) ⟨by decide, by decide⟩ (Or.inl (by decide)) rfl
        have hZ8U : zU [0, 2, 3, 4, 5, 6, 7, 8, 9] Z Z8 := zU_u hZ7U hZ8 (Or.inr (List.Mem.head _))
        have hZ8K : zC [3, 12, 13, 14, 40, 41, 42, 43, 44, 45, 46, 47, 48, 49, 50, 51, 52, 53, 54, 61, 68, 1099, 1100, 1101, 1102, 1103, 1104, 1105, 1106, 1107, 1108, 1109, 1110, 1111, 1112, 1113, 1114, 1115, 1116] Z Z8 := zC_u hZ7K hZ8 rfl
        intro μ9 e9
        replace e9 := e9.trans (zm_wI (Z := Z7) (ν := ν) hZ8 (show ((0 : Nat) : Int) = 0 from rfl) (show ((0 : Nat) : Int) = 0 from rfl) (i3I (y := a1) (Eq.trans (zm_rd (Z := Z7) (ν := ν) (k := 68) (show ((0 : Nat) : Int) = 0 from rfl) (show ((0 : Nat) : Int) = 0 from rfl) (show ((1 : Nat) : Int) = 1 from rfl)) (congrArg i3 ((hZ7A.2.1)))) (by omega) (by omega) (by omega)) (Eq.trans (zm_rd (Z := Z7) (ν := ν) (k := 68) (show ((0 : Nat) : Int) = 0 from rfl) (show ((0 : Nat) : Int) = 0 from rfl) (show ((2 : Nat) : Int) = 2 from rfl)) (congrArg i3 ((hZ7A.2.2.1)))))
        subst e9
        have r9 := zH_k hZ7I 12 0 0 a1 (lo := 0) (hi := 40) (by decide) (zrc_12 (by omega) (by omega))
        exact zlG hP (zm_rd (Z := Z7) (ν := ν) (k := 12) (show ((0 : Nat) : Int) = 0 from rfl) (show ((0 : Nat) : Int) = 0 from rfl) (i3I (y := a1) (Eq.trans (zm_rd (Z := Z7) (ν := ν) (k := 68) (show ((0 : Nat) : Int) = 0 from rfl) (show ((0 : Nat) : Int) = 0 from rfl) (show ((1 : Nat) : Int) = 1 from rfl)) (congrArg i3 ((hZ7A.2.1)))) (by omega) (by omega) (by omega))) ⟨hZ8I, hZ8K, hZ8U, zG_w zG_r (Nat.le_of_ble_eq_true rfl) (Nat.le_of_ble_eq_true rfl)⟩
    · replace hP := zE_n hP h2
      exact zlGe (E := 12) hP ⟨hZ, zC_r, zU_r, zG_w (zG_k rfl) (Nat.le_of_ble_eq_true rfl) (Nat.le_of_ble_eq_true rfl)⟩
  · replace hP := zE_n hP h1
    exact zlGe (E := 12) hP ⟨hZ, zC_r, zU_r, zG_w (zG_k rfl) (Nat.le_of_ble_eq_true rfl) (Nat.le_of_ble_eq_true rfl)⟩
/- yX11_owed -/
def zx_223 (Z : qz_Z) (a1 : Int) (a2 : Int) : qz_Z × Int × Int := (if 0 ≤ a1 ∧ a1 < (Z 11 0 0 1) then (if 0 ≤ a2 ∧ a2 ≤ 4 then (Z, (Z 42 0 a1 (2 + a2)), 0) else (Z, 0, 13)) else (Z, 0, 24))
theorem sx_223 {M : Nat} {Z : qz_Z} {ν : qz_N} (hZ : zH ((none, M) : zSM) Z) (hM : ((none, M) : zSM).2 + 0 ≤ 1000000000) {a1 : Int} (ga1 : -2147483648 ≤ a1 ∧ a1 ≤ 2147483647) {a2 : Int} (ga2 : -2147483648 ≤ a2 ∧ a2 ≤ 2147483647) : ∃ (Z1 : qz_Z) (ν1 : qz_N) (v E : Int), (Z1, v, E) = zx_223 Z a1 a2 ∧ qf_223 [.inr (.inr (some (0, 0, 0))), .inl (i3 a1), .inl (i3 a2)] (zm Z ν) = some (zm Z1 ν1, zoX v E) ∧ (fun Z1 ν1 => zH ((none, M) : zSM) Z1 ∧ zC [] Z Z1 ∧ zU [] Z Z1 ∧ zG 1 6 ν ν1) Z1 ν1 := by
  obtain ⟨P, hP⟩ := zx (zx_223 Z a1 a2)
  refine zc_G (Q := fun Z1 ν1 => zH ((none, M) : zSM) Z1 ∧ zC [] Z Z1 ∧ zU [] Z Z1 ∧ zG 1 6 ν ν1) hP (fw_223 (i3 a1) (i3 a2) _ _ ?_)
  replace hP : zE P (zx_223 Z a1 a2) := hP
  unfold zx_223 at hP
  have r1 := zH_k hZ 11 0 0 1 (lo := 0) (hi := 6) (by decide) rfl
  refine wz_thing (rfl : i3 a1 = i3 a1) (zm_rd (Z := Z) (ν := ν) (k := 11) (show ((0 : Nat) : Int) = 0 from rfl) (show ((0 : Nat) : Int) = 0 from rfl) (show ((1 : Nat) : Int) = 1 from rfl)) (by omega) (by omega) (by omega) (by omega) (fun h2 => ?_) (fun h2 => ?_)
  · replace hP := zE_p hP h2
    refine wz_inR (rfl : i3 a2 = i3 a2) (show (0 : Int32) = i3 0 from rfl) (show (4 : Int32) = i3 4 from rfl) (by omega) (by omega) (by omega) (by omega) (by omega) (by omega) (fun h3 => ?_) (fun h3 => ?_)
    · replace hP := zE_p hP h3
      refine wz_i0 (i3O (n := 6) (rfl : i3 a1 = i3 a1) (by omega) (by omega) (by omega)) ?_
      refine wz_i0 (i3O (n := 7) (i3A (show (2 : Int32) = i3 2 from rfl) (rfl : i3 a2 = i3 a2)) (by omega) (by omega) (by omega)) ?_
      have r4 := zH_f hZ 42 0 a1 (2 + a2)
      exact zlG hP (zm_rd (Z := Z) (ν := ν) (k := 42) (show ((0 : Nat) : Int) = 0 from rfl) (i3I (y := a1) (rfl : i3 a1 = i3 a1) (by omega) (by omega) (by omega)) (i3I (y := (2 + a2)) (i3A (show (2 : Int32) = i3 2 from rfl) (rfl : i3 a2 = i3 a2)) (by omega) (by omega) (by omega))) ⟨hZ, zC_r, zU_r, zG_w zG_r (Nat.le_of_ble_eq_true rfl) (Nat.le_of_ble_eq_true rfl)⟩
    · replace hP := zE_n hP h3
      exact zlGe (E := 12) hP ⟨hZ, zC_r, zU_r, zG_w (zG_k rfl) (Nat.le_of_ble_eq_true rfl) (Nat.le_of_ble_eq_true rfl)⟩
  · replace hP := zE_n hP h2
    exact zlGe (E := 23) hP ⟨hZ, zC_r, zU_r, zG_w (zG_k rfl) (Nat.le_of_ble_eq_true rfl) (Nat.le_of_ble_eq_true rfl)⟩
/- yX1_tellBuyer -/
def zl_35_1 (x0b : Int) (x1 : Int) (x2 : Int) : Nat → qz_Z → Int → Int → Int × Int
  | 0, Z, x4, x5 => (x4, x5)
  | m + 1, Z, x4, x5 => (if (Z 11 x0b 0 6) ≤ x5 then (x4, x5) else (if (Z 47 x0b x5 1) ≠ x1 then zl_35_1 x0b x1 x2 m Z x4 (x5 + 1) else (if x2 ≠ 8 then (if ((Z 11 x0b 0 13) / 24) ≤ (Z 47 x0b x5 20) then zl_35_1 x0b x1 x2 m Z x4 (x5 + 1) else zl_35_1 x0b x1 x2 m Z (w3 (x4 + (Z 47 x0b x5 19))) (x5 + 1)) else (if (Z 47 x0b x5 19) ≤ 0 then zl_35_1 x0b x1 x2 m Z (x4 + 0) (x5 + 1) else zl_35_1 x0b x1 x2 m Z (w3 (x4 + 1)) (x5 + 1)))))
theorem sl_35_1 {s : zSM} {Z : qz_Z} {ν : qz_N} (hZ : zH s Z) (hM : s.2 + 0 ≤ 1000000000) (x0b : Nat) {x1 : Int} (gx1 : 0 ≤ x1 ∧ x1 ≤ 7) {x2 : Int} (gx2 : 6 ≤ x2 ∧ x2 ≤ 8) {x4 : Int} (gx4 : -2147483648 ≤ x4 ∧ x4 ≤ 2147483647) {x5 : Int} (gx5 : 0 ≤ x5 ∧ x5 ≤ 60) {k : wz_K} {R : wz_R} {L : qz_L} (hL : qz_fg [true, true, true, false, true, true, false] L = [some (.inr (.inr (some (10, x0b, 0)))), some (.inl (i3 x1)), some (.inl (i3 x2)), none, some (.inl (i3 x4)), some (.inl (i3 x5)), none]) {T : Int × Int} (hP : zE T (zl_35_1 x0b x1 x2 ((60 - x5).toNat + 1) Z x4 x5)) (hk : ∀ (L9 : qz_L) (yx4 yx5 : Int), qz_fg [false, false, false, false, true, false, false] L9 = [none, none, none, none, some (.inl (i3 yx4)), none, none] → (-2147483648 ≤ yx4 ∧ yx4 ≤ 2147483647) → (0 ≤ yx5 ∧ yx5 ≤ 60) → zE T ((yx4, yx5)) → k 0 (L9, [], zm Z ν)) : wz_loop qb_35_1 65536 k R (L, [], zm Z ν) := by
  refine wz_lp sb_35_1 (fun m x => ∃ x4 : Int, ∃ x5 : Int, qz_fg [true, true, true, false, true, true, false] x.1 = [some (.inr (.inr (some (10, x0b, 0)))), some (.inl (i3 x1)), some (.inl (i3 x2)), none, some (.inl (i3 x4)), some (.inl (i3 x5)), none] ∧ x.2 = ([], zm Z ν) ∧ m = (60 - x5).toNat ∧ (-2147483648 ≤ x4 ∧ x4 ≤ 2147483647) ∧ (0 ≤ x5 ∧ x5 ≤ 60) ∧ zE T (zl_35_1 x0b x1 x2 (m + 1) Z x4 x5)) ?_ 65536 ((60 - x5).toNat) _ (by omega) ⟨x4, x5, hL, rfl, rfl, gx4, gx5, hP⟩
  clear hP gx4 gx5 hL
  clear x4 x5
  rintro m ⟨L, st, μ⟩ ⟨x4, x5, hL, hx, hm, gx4, gx5, hP⟩
  cases hx
  refine fb_35_1 x0b (i3 x1) (i3 x2) (i3 x4) (i3 x5) _ _ _ _ hL ?_
  have r1 := zH_k hZ 11 x0b 0 6 (lo := 0) (hi := 60) (by decide) rfl
  refine wz_br (i3Le (zm_rd (Z := Z) (ν := ν) (k := 11) (rfl : ((x0b : Nat) : Int) = x0b) (show ((0 : Nat) : Int) = 0 from rfl) (show ((6 : Nat) : Int) = 6 from rfl)) (rfl : i3 x5 = i3 x5) (by omega) (by omega) (by omega) (by omega)) (fun h2 => ?_) (fun h2 => ?_)
  · replace hP := zE_p hP h2
    exact hk _ _ _ (zconso rfl (zconso rfl (zconso rfl (zconso rfl (zconso (zvo (rfl : i3 x4 = i3 x4)) (zconso rfl (zconso rfl rfl)))))))  (by omega) (by omega)  hP
  · replace hP := zE_n hP h2
    refine wz_i0 (i3O (n := 60) (rfl : i3 x5 = i3 x5) (by omega) (by omega) (by omega)) ?_
    have r3 := zH_k hZ 47 x0b x5 1 (lo := 0) (hi := 7) (by decide) rfl
    refine wz_br (i3NE (zm_rd (Z := Z) (ν := ν) (k := 47) (rfl : ((x0b : Nat) : Int) = x0b) (i3I (y := x5) (rfl : i3 x5 = i3 x5) (by omega) (by omega) (by omega)) (show ((1 : Nat) : Int) = 1 from rfl)) (rfl : i3 x1 = i3 x1) (by omega) (by omega) (by omega) (by omega)) (fun h4 => ?_) (fun h4 => ?_)
    · replace hP := zE_p hP h4
      obtain ⟨m2, rfl⟩ : ∃ m2, m = m2 + 1 := ⟨m - 1, by omega⟩
      exact wz_k1 ⟨m2, by omega, x4, (x5 + 1), (zconso rfl (zconso (zvo (rfl : i3 x1 = i3 x1)) (zconso (zvo (rfl : i3 x2 = i3 x2)) (zconso rfl (zconso (zvo (rfl : i3 x4 = i3 x4)) (zconso (zvo (i3A (rfl : i3 x5 = i3 x5) (show (1 : Int32) = i3 1 from rfl))) (zconso rfl rfl))))))), rfl,  by omega, by omega, by omega,  hP⟩
    · replace hP := zE_n hP h4
      refine wz_br (i3NE (rfl : i3 x2 = i3 x2) (show (8 : Int32) = i3 8 from rfl) (by omega) (by omega) (by omega) (by omega)) (fun h5 => ?_) (fun h5 => ?_)
      · replace hP := zE_p hP h5
        have r6 := zH_k hZ 11 x0b 0 13 (lo := 0) (hi := 671) (by decide) rfl
        have r7 := zH_k hZ 47 x0b x5 20 (lo := 0) (hi := 41) (by decide) rfl
        refine wz_br (i3Le (i3D (zm_rd (Z := Z) (ν := ν) (k := 11) (rfl : ((x0b : Nat) : Int) = x0b) (show ((0 : Nat) : Int) = 0 from rfl) (show ((13 : Nat) : Int) = 13 from rfl)) (show (24 : Int32) = i3 24 from rfl) (by omega) (by omega) (by omega) (by omega)) (zm_rd (Z := Z) (ν := ν) (k := 47) (rfl : ((x0b : Nat) : Int) = x0b) (i3I (y := x5) (rfl : i3 x5 = i3 x5) (by omega) (by omega) (by omega)) (show ((20 : Nat) : Int) = 20 from rfl)) (by omega) (by omega) (by omega) (by omega)) (fun h8 => ?_) (fun h8 => ?_)
        · replace hP := zE_p hP h8
          obtain ⟨m2, rfl⟩ : ∃ m2, m = m2 + 1 := ⟨m - 1, by omega⟩
          exact wz_k1 ⟨m2, by omega, x4, (x5 + 1), (zconso rfl (zconso (zvo (rfl : i3 x1 = i3 x1)) (zconso (zvo (rfl : i3 x2 = i3 x2)) (zconso rfl (zconso (zvo (rfl : i3 x4 = i3 x4)) (zconso (zvo (i3A (rfl : i3 x5 = i3 x5) (show (1 : Int32) = i3 1 from rfl))) (zconso rfl rfl))))))), rfl,  by omega, by omega, by omega,  hP⟩
        · replace hP := zE_n hP h8
          have r9 := zH_f hZ 47 x0b x5 19
          have r10 := w3_r (x4 + (Z 47 x0b x5 19))
          obtain ⟨m2, rfl⟩ : ∃ m2, m = m2 + 1 := ⟨m - 1, by omega⟩
          exact wz_k1 ⟨m2, by omega, (w3 (x4 + (Z 47 x0b x5 19))), (x5 + 1), (zconso rfl (zconso (zvo (rfl : i3 x1 = i3 x1)) (zconso (zvo (rfl : i3 x2 = i3 x2)) (zconso rfl (zconso (zvo (i3W (i3A (rfl : i3 x4 = i3 x4) (zm_rd (Z := Z) (ν := ν) (k := 47) (rfl : ((x0b : Nat) : Int) = x0b) (i3I (y := x5) (rfl : i3 x5 = i3 x5) (by omega) (by omega) (by omega)) (show ((19 : Nat) : Int) = 19 from rfl))))) (zconso (zvo (i3A (rfl : i3 x5 = i3 x5) (show (1 : Int32) = i3 1 from rfl))) (zconso rfl rfl))))))), rfl,  by omega, by omega, by omega,  hP⟩
      · replace hP := zE_n hP h5
        have r11 := zH_f hZ 47 x0b x5 19
        refine wz_br (i3Le (zm_rd (Z := Z) (ν := ν) (k := 47) (rfl : ((x0b : Nat) : Int) = x0b) (i3I (y := x5) (rfl : i3 x5 = i3 x5) (by omega) (by omega) (by omega)) (show ((19 : Nat) : Int) = 19 from rfl)) (show (0 : Int32) = i3 0 from rfl) (by omega) (by omega) (by omega) (by omega)) (fun h12 => ?_) (fun h12 => ?_)
        · replace hP := zE_p hP h12
          obtain ⟨m2, rfl⟩ : ∃ m2, m = m2 + 1 := ⟨m - 1, by omega⟩
          exact wz_k1 ⟨m2, by omega, (x4 + 0), (x5 + 1), (zconso rfl (zconso (zvo (rfl : i3 x1 = i3 x1)) (zconso (zvo (rfl : i3 x2 = i3 x2)) (zconso rfl (zconso (zvo (i3A (rfl : i3 x4 = i3 x4) (show (0 : Int32) = i3 0 from rfl))) (zconso (zvo (i3A (rfl : i3 x5 = i3 x5) (show (1 : Int32) = i3 1 from rfl))) (zconso rfl rfl))))))), rfl,  by omega, by omega, by omega,  hP⟩
        · replace hP := zE_n hP h12
          have r13 := w3_r (x4 + 1)
          obtain ⟨m2, rfl⟩ : ∃ m2, m = m2 + 1 := ⟨m - 1, by omega⟩
          exact wz_k1 ⟨m2, by omega, (w3 (x4 + 1)), (x5 + 1), (zconso rfl (zconso (zvo (rfl : i3 x1 = i3 x1)) (zconso (zvo (rfl : i3 x2 = i3 x2)) (zconso rfl (zconso (zvo (i3W (i3A (rfl : i3 x4 = i3 x4) (show (1 : Int32) = i3 1 from rfl)))) (zconso (zvo (i3A (rfl : i3 x5 = i3 x5) (show (1 : Int32) = i3 1 from rfl))) (zconso rfl rfl))))))), rfl,  by omega, by omega, by omega,  hP⟩
/- yX1_tellBuyer -/
def zf_35 (Z : qz_Z) (a0b : Int) (a1 : Int) (a2 : Int) : Int := (if a2 ≠ 5 then (if a2 = 6 then (zlet2 (zl_35_1 a0b a1 a2 61 Z 0 0) (fun y3 y4 => y3)) else (if a2 = 8 then (zlet2 (zl_35_1 a0b a1 a2 61 Z 0 0) (fun y7 y8 => y7)) else (Z 45 a0b a1 a2))) else (w3 ((w3 ((Z 45 a0b a1 1) + (Z 45 a0b a1 3))) - (Z 45 a0b a1 4))))
theorem sp_35 {s : zSM} {Z : qz_Z} {ν : qz_N} (hZ : zH s Z) (a0b : Nat) {a1 : Int} (ga1 : 0 ≤ a1 ∧ a1 ≤ 7) {a2 : Int} (ga2 : 0 ≤ a2 ∧ a2 ≤ 14) (hM : s.2 + 0 ≤ 1000000000) : ∃ P : Int, P = zf_35 Z a0b a1 a2 ∧ (qf_35 [.inr (.inr (some (10, a0b, 0))), .inl (i3 a1), .inl (i3 a2)] (zm Z ν) = some (zm Z ν, .inl (some (.inl (i3 P)))) ∧ -2147483648 ≤ P ∧ P ≤ 2147483647) := by
  obtain ⟨P, hP⟩ := zx (zf_35 Z a0b a1 a2)
  refine zc_R (Q := fun P => -2147483648 ≤ P ∧ P ≤ 2147483647) hP (fw_35 a0b (i3 a1) (i3 a2) _ _ ?_)
  replace hP : zE P (zf_35 Z a0b a1 a2) := hP
  unfold zf_35 at hP
  refine wz_i0 (i3O (n := 8) (rfl : i3 a1 = i3 a1) (by omega) (by omega) (by omega)) ?_
  refine wz_br (i3NE (rfl : i3 a2 = i3 a2) (show (5 : Int32) = i3 5 from rfl) (by omega) (by omega) (by omega) (by omega)) (fun h1 => ?_) (fun h1 => ?_)
  · replace hP := zE_p hP h1
    refine wz_br (i3E (rfl : i3 a2 = i3 a2) (show (6 : Int32) = i3 6 from rfl) (by omega) (by omega) (by omega) (by omega)) (fun h2 => ?_) (fun h2 => ?_)
    · replace hP := zE_p hP h2
      refine sl_35_1 (ν := ν) hZ (zbh (c := 0) (k := 0) hM (Nat.le_of_ble_eq_true rfl)) a0b (x1 := a1) (by omega) (x2 := a2) (by omega) (x4 := 0) (by omega) (x5 := 0) (by omega)  (zconso rfl (zconso (zvo (rfl : i3 a1 = i3 a1)) (zconso (zvo (rfl : i3 a2 = i3 a2)) (zconso rfl (zconso (zvo (show (0 : Int32) = i3 0 from rfl)) (zconso (zvo (show (0 : Int32) = i3 0 from rfl)) (zconso rfl rfl))))))) rfl ?_
      intro L5 y3 y4 hL5 gy3 gy4 q9
      replace hP := zl_e2 hP (Eq.symm q9)
      clear q9
      refine fc_35_2 (i3 y3) _ _ _ _ hL5 ?_
      exact zlR hP (rfl : i3 y3 = i3 y3) ⟨by omega, by omega⟩
    · replace hP := zE_n hP h2
      refine wz_br (i3E (rfl : i3 a2 = i3 a2) (show (8 : Int32) = i3 8 from rfl) (by omega) (by omega) (by omega) (by omega)) (fun h6 => ?_) (fun h6 => ?_)
      · replace hP := zE_p hP h6
        refine sl_35_1 (ν := ν) hZ (zbh (c := 0) (k := 0) hM (Nat.le_of_ble_eq_true rfl)) a0b (x1 := a1) (by omega) (x2 := a2) (by omega) (x4 := 0) (by omega) (x5 := 0) (by omega)  (zconso rfl (zconso (zvo (rfl : i3 a1 = i3 a1)) (zconso (zvo (rfl : i3 a2 = i3 a2)) (zconso rfl (zconso (zvo (show (0 : Int32) = i3 0 from rfl)) (zconso (zvo (show (0 : Int32) = i3 0 from rfl)) (zconso rfl rfl))))))) rfl ?_
        intro L9 y7 y8 hL9 gy7 gy8 q9
        replace hP := zl_e2 hP (Eq.symm q9)
        clear q9
        refine fc_35_2 (i3 y7) _ _ _ _ hL9 ?_
        exact zlR hP (rfl : i3 y7 = i3 y7) ⟨by omega, by omega⟩
      · replace hP := zE_n hP h6
        refine wz_i0 (i3O (n := 15) (rfl : i3 a2 = i3 a2) (by omega) (by omega) (by omega)) ?_
        have r10 := zH_f hZ 45 a0b a1 a2
        exact zlR hP (zm_rd (Z := Z) (ν := ν) (k := 45) (rfl : ((a0b : Nat) : Int) = a0b) (i3I (y := a1) (rfl : i3 a1 = i3 a1) (by omega) (by omega) (by omega)) (i3I (y := a2) (rfl : i3 a2 = i3 a2) (by omega) (by omega) (by omega))) ⟨by omega, by omega⟩
  · replace hP := zE_n hP h1
    have r11 := zH_k hZ 45 a0b a1 1 (lo := 0) (hi := 9999999) (by decide) rfl
    have r12 := zH_f hZ 45 a0b a1 3
    have r13 := w3_r ((Z 45 a0b a1 1) + (Z 45 a0b a1 3))
    have r14 := zH_f hZ 45 a0b a1 4
    have r15 := w3_r ((w3 ((Z 45 a0b a1 1) + (Z 45 a0b a1 3))) - (Z 45 a0b a1 4))
    exact zlR hP (i3W (i3S (i3W (i3A (zm_rd (Z := Z) (ν := ν) (k := 45) (rfl : ((a0b : Nat) : Int) = a0b) (i3I (y := a1) (rfl : i3 a1 = i3 a1) (by omega) (by omega) (by omega)) (show ((1 : Nat) : Int) = 1 from rfl)) (zm_rd (Z := Z) (ν := ν) (k := 45) (rfl : ((a0b : Nat) : Int) = a0b) (i3I (y := a1) (rfl : i3 a1 = i3 a1) (by omega) (by omega) (by omega)) (show ((3 : Nat) : Int) = 3 from rfl)))) (zm_rd (Z := Z) (ν := ν) (k := 45) (rfl : ((a0b : Nat) : Int) = a0b) (i3I (y := a1) (rfl : i3 a1 = i3 a1) (by omega) (by omega) (by omega)) (show ((4 : Nat) : Int) = 4 from rfl)))) ⟨by omega, by omega⟩
/- yX11_owes -/
def zx_224 (Z : qz_Z) (a1 : Int) (a2 : Int) : qz_Z × Int × Int := (if 0 ≤ a1 ∧ a1 < (Z 11 0 0 4) then (if 0 ≤ a2 ∧ a2 ≤ 14 then (zlet (zf_35 Z 0 a1 a2) (fun v4 => (Z, v4, 0))) else (Z, 0, 13)) else (Z, 0, 24))
theorem sx_224 {M : Nat} {Z : qz_Z} {ν : qz_N} (hZ : zH ((none, M) : zSM) Z) (hM : ((none, M) : zSM).2 + 0 ≤ 1000000000) {a1 : Int} (ga1 : -2147483648 ≤ a1 ∧ a1 ≤ 2147483647) {a2 : Int} (ga2 : -2147483648 ≤ a2 ∧ a2 ≤ 2147483647) : ∃ (Z1 : qz_Z) (ν1 : qz_N) (v E : Int), (Z1, v, E) = zx_224 Z a1 a2 ∧ qf_224 [.inr (.inr (some (0, 0, 0))), .inl (i3 a1), .inl (i3 a2)] (zm Z ν) = some (zm Z1 ν1, zoX v E) ∧ (fun Z1 ν1 => zH ((none, M) : zSM) Z1 ∧ zC [] Z Z1 ∧ zU [] Z Z1 ∧ zG 1 6 ν ν1) Z1 ν1 := by
  obtain ⟨P, hP⟩ := zx (zx_224 Z a1 a2)
  refine zc_G (Q := fun Z1 ν1 => zH ((none, M) : zSM) Z1 ∧ zC [] Z Z1 ∧ zU [] Z Z1 ∧ zG 1 6 ν ν1) hP (fw_224 (i3 a1) (i3 a2) _ _ ?_)
  replace hP : zE P (zx_224 Z a1 a2) := hP
  unfold zx_224 at hP
  have r1 := zH_k hZ 11 0 0 4 (lo := 0) (hi := 8) (by decide) rfl
  refine wz_thing (rfl : i3 a1 = i3 a1) (zm_rd (Z := Z) (ν := ν) (k := 11) (show ((0 : Nat) : Int) = 0 from rfl) (show ((0 : Nat) : Int) = 0 from rfl) (show ((4 : Nat) : Int) = 4 from rfl)) (by omega) (by omega) (by omega) (by omega) (fun h2 => ?_) (fun h2 => ?_)
  · replace hP := zE_p hP h2
    refine wz_inR (rfl : i3 a2 = i3 a2) (show (0 : Int32) = i3 0 from rfl) (show (14 : Int32) = i3 14 from rfl) (by omega) (by omega) (by omega) (by omega) (by omega) (by omega) (fun h3 => ?_) (fun h3 => ?_)
    · replace hP := zE_p hP h3
      obtain ⟨v4, hv4, c9, lv4, uv4⟩ := sp_35 (ν := ν) hZ 0 (a1 := a1) (by omega) (a2 := a2) (by omega) (zbh (c := 0) (k := 0) hM (Nat.le_of_ble_eq_true rfl))
      replace hP := zl_e hP hv4
      refine wz_cI_of (zas (zcons rfl (zcons (zvi (rfl : i3 a1 = i3 a1)) (zcons (zvi (rfl : i3 a2 = i3 a2)) rfl))) c9) ?_
      clear c9
      exact zlG hP (rfl : i3 v4 = i3 v4) ⟨hZ, zC_r, zU_r, zG_w zG_r (Nat.le_of_ble_eq_true rfl) (Nat.le_of_ble_eq_true rfl)⟩
    · replace hP := zE_n hP h3
      exact zlGe (E := 12) hP ⟨hZ, zC_r, zU_r, zG_w (zG_k rfl) (Nat.le_of_ble_eq_true rfl) (Nat.le_of_ble_eq_true rfl)⟩
  · replace hP := zE_n hP h2
    exact zlGe (E := 23) hP ⟨hZ, zC_r, zU_r, zG_w (zG_k rfl) (Nat.le_of_ble_eq_true rfl) (Nat.le_of_ble_eq_true rfl)⟩
/- yX5_tellPallet -/
def zf_108 (Z : qz_Z) (a0b : Int) (a1 : Int) (a2 : Int) : Int := (if a2 ≠ 11 then (if a2 ≠ 13 then (Z 44 a0b a1 a2) else (zlet (zf_109 Z a0b a1) (fun v4 => v4))) else (if ((Z 41 a0b (Z 44 a0b a1 1) 3) - (Z 41 a0b (Z 44 a0b a1 1) 4)) ≤ (Z 44 a0b a1 7) then (if ((Z 41 a0b (Z 44 a0b a1 1) 3) + (Z 41 a0b (Z 44 a0b a1 1) 4)) < (Z 44 a0b a1 7) then (if ((Z 41 a0b (Z 44 a0b a1 1) 3) + (3 * (Z 41 a0b (Z 44 a0b a1 1) 4))) < (Z 44 a0b a1 7) then 3 else 2) else 1) else 0))
theorem sp_108 {s : zSM} {Z : qz_Z} {ν : qz_N} (hZ : zH s Z) (a0b : Nat) {a1 : Int} (ga1 : 0 ≤ a1 ∧ a1 ≤ 47) {a2 : Int} (ga2 : 0 ≤ a2 ∧ a2 ≤ 15) (hM : s.2 + 0 ≤ 1000000000) : ∃ P : Int, P = zf_108 Z a0b a1 a2 ∧ (qf_108 [.inr (.inr (some (10, a0b, 0))), .inl (i3 a1), .inl (i3 a2)] (zm Z ν) = some (zm Z ν, .inl (some (.inl (i3 P)))) ∧ -2147483648 ≤ P ∧ P ≤ 2147483647) := by
  obtain ⟨P, hP⟩ := zx (zf_108 Z a0b a1 a2)
  refine zc_R (Q := fun P => -2147483648 ≤ P ∧ P ≤ 2147483647) hP (fw_108 a0b (i3 a1) (i3 a2) _ _ ?_)
  replace hP : zE P (zf_108 Z a0b a1 a2) := hP
  unfold zf_108 at hP
  refine wz_i0 (i3O (n := 48) (rfl : i3 a1 = i3 a1) (by omega) (by omega) (by omega)) ?_
  refine wz_br (i3NE (rfl : i3 a2 = i3 a2) (show (11 : Int32) = i3 11 from rfl) (by omega) (by omega) (by omega) (by omega)) (fun h1 => ?_) (fun h1 => ?_)
  · replace hP := zE_p hP h1
    refine wz_br (i3NE (rfl : i3 a2 = i3 a2) (show (13 : Int32) = i3 13 from rfl) (by omega) (by omega) (by omega) (by omega)) (fun h2 => ?_) (fun h2 => ?_)
    · replace hP := zE_p hP h2
      refine wz_i0 (i3O (n := 16) (rfl : i3 a2 = i3 a2) (by omega) (by omega) (by omega)) ?_
      have r3 := zH_f hZ 44 a0b a1 a2
      exact zlR hP (zm_rd (Z := Z) (ν := ν) (k := 44) (rfl : ((a0b : Nat) : Int) = a0b) (i3I (y := a1) (rfl : i3 a1 = i3 a1) (by omega) (by omega) (by omega)) (i3I (y := a2) (rfl : i3 a2 = i3 a2) (by omega) (by omega) (by omega))) ⟨by omega, by omega⟩
    · replace hP := zE_n hP h2
      obtain ⟨v4, hv4, c9, lv4, uv4⟩ := sp_109 (ν := ν) hZ a0b (a1 := a1) (by omega) (zbh (c := 0) (k := 0) hM (Nat.le_of_ble_eq_true rfl))
      replace hP := zl_e hP hv4
      refine wz_cI_of (zas (zcons rfl (zcons (zvi (rfl : i3 a1 = i3 a1)) rfl)) c9) ?_
      clear c9
      exact zlR hP (rfl : i3 v4 = i3 v4) ⟨by omega, by omega⟩
  · replace hP := zE_n hP h1
    have r5 := zH_k hZ 44 a0b a1 1 (lo := 0) (hi := 4) (by decide) rfl
    refine wz_i0 (i3O (n := 5) (zm_rd (Z := Z) (ν := ν) (k := 44) (rfl : ((a0b : Nat) : Int) = a0b) (i3I (y := a1) (rfl : i3 a1 = i3 a1) (by omega) (by omega) (by omega)) (show ((1 : Nat) : Int) = 1 from rfl)) (by omega) (by omega) (by omega)) ?_
    refine wz_i0 (i3O (n := 5) (zm_rd (Z := Z) (ν := ν) (k := 44) (rfl : ((a0b : Nat) : Int) = a0b) (i3I (y := a1) (rfl : i3 a1 = i3 a1) (by omega) (by omega) (by omega)) (show ((1 : Nat) : Int) = 1 from rfl)) (by omega) (by omega) (by omega)) ?_
    have r6 := zH_k hZ 41 a0b (Z 44 a0b a1 1) 3 (lo := 0) (hi := 600) (by decide) rfl
    have r7 := zH_k hZ 41 a0b (Z 44 a0b a1 1) 4 (lo := 0) (hi := 99) (by decide) rfl
    have r8 := zH_k hZ 44 a0b a1 7 (lo := 0) (hi := 2000) (by decide) rfl
    refine wz_br (i3Le (i3S (zm_rd (Z := Z) (ν := ν) (k := 41) (rfl : ((a0b : Nat) : Int) = a0b) (i3I (y := (Z 44 a0b a1 1)) (zm_rd (Z := Z) (ν := ν) (k := 44) (rfl : ((a0b : Nat) : Int) = a0b) (i3I (y := a1) (rfl : i3 a1 = i3 a1) (by omega) (by omega) (by omega)) (show ((1 : Nat) : Int) = 1 from rfl)) (by omega) (by omega) (by omega)) (show ((3 : Nat) : Int) = 3 from rfl)) (zm_rd (Z := Z) (ν := ν) (k := 41) (rfl : ((a0b : Nat) : Int) = a0b) (i3I (y := (Z 44 a0b a1 1)) (zm_rd (Z := Z) (ν := ν) (k := 44) (rfl : ((a0b : Nat) : Int) = a0b) (i3I (y := a1) (rfl : i3 a1 = i3 a1) (by omega) (by omega) (by omega)) (show ((1 : Nat) : Int) = 1 from rfl)) (by omega) (by omega) (by omega)) (show ((4 : Nat) : Int) = 4 from rfl))) (zm_rd (Z := Z) (ν := ν) (k := 44) (rfl : ((a0b : Nat) : Int) = a0b) (i3I (y := a1) (rfl : i3 a1 = i3 a1) (by omega) (by omega) (by omega)) (show ((7 : Nat) : Int) = 7 from rfl)) (by omega) (by omega) (by omega) (by omega)) (fun h9 => ?_) (fun h9 => ?_)
    · replace hP := zE_p hP h9
      refine wz_br (i3L (i3A (zm_rd (Z := Z) (ν := ν) (k := 41) (rfl : ((a0b : Nat) : Int) = a0b) (i3I (y := (Z 44 a0b a1 1)) (zm_rd (Z := Z) (ν := ν) (k := 44) (rfl : ((a0b : Nat) : Int) = a0b) (i3I (y := a1) (rfl : i3 a1 = i3 a1) (by omega) (by omega) (by omega)) (show ((1 : Nat) : Int) = 1 from rfl)) (by omega) (by omega) (by omega)) (show ((3 : Nat) : Int) = 3 from rfl)) (zm_rd (Z := Z) (ν := ν) (k := 41) (rfl : ((a0b : Nat) : Int) = a0b) (i3I (y := (Z 44 a0b a1 1)) (zm_rd (Z := Z) (ν := ν) (k := 44) (rfl : ((a0b : Nat) : Int) = a0b) (i3I (y := a1) (rfl : i3 a1 = i3 a1) (by omega) (by omega) (by omega)) (show ((1 : Nat) : Int) = 1 from rfl)) (by omega) (by omega) (by omega)) (show ((4 : Nat) : Int) = 4 from rfl))) (zm_rd (Z := Z) (ν := ν) (k := 44) (rfl : ((a0b : Nat) : Int) = a0b) (i3I (y := a1) (rfl : i3 a1 = i3 a1) (by omega) (by omega) (by omega)) (show ((7 : Nat) : Int) = 7 from rfl)) (by omega) (by omega) (by omega) (by omega)) (fun h10 => ?_) (fun h10 => ?_)
      · replace hP := zE_p hP h10
        refine wz_br (i3L (i3A (zm_rd (Z := Z) (ν := ν) (k := 41) (rfl : ((a0b : Nat) : Int) = a0b) (i3I (y := (Z 44 a0b a1 1)) (zm_rd (Z := Z) (ν := ν) (k := 44) (rfl : ((a0b : Nat) : Int) = a0b) (i3I (y := a1) (rfl : i3 a1 = i3 a1) (by omega) (by omega) (by omega)) (show ((1 : Nat) : Int) = 1 from rfl)) (by omega) (by omega) (by omega)) (show ((3 : Nat) : Int) = 3 from rfl)) (i3M (show (3 : Int32) = i3 3 from rfl) (zm_rd (Z := Z) (ν := ν) (k := 41) (rfl : ((a0b : Nat) : Int) = a0b) (i3I (y := (Z 44 a0b a1 1)) (zm_rd (Z := Z) (ν := ν) (k := 44) (rfl : ((a0b : Nat) : Int) = a0b) (i3I (y := a1) (rfl : i3 a1 = i3 a1) (by omega) (by omega) (by omega)) (show ((1 : Nat) : Int) = 1 from rfl)) (by omega) (by omega) (by omega)) (show ((4 : Nat) : Int) = 4 from rfl)))) (zm_rd (Z := Z) (ν := ν) (k := 44) (rfl : ((a0b : Nat) : Int) = a0b) (i3I (y := a1) (rfl : i3 a1 = i3 a1) (by omega) (by omega) (by omega)) (show ((7 : Nat) : Int) = 7 from rfl)) (by omega) (by omega) (by omega) (by omega)) (fun h11 => ?_) (fun h11 => ?_)
        · replace hP := zE_p hP h11
          exact zlR hP (show (3 : Int32) = i3 3 from rfl) ⟨by omega, by omega⟩
        · replace hP := zE_n hP h11
          exact zlR hP (show (2 : Int32) = i3 2 from rfl) ⟨by omega, by omega⟩
      · replace hP := zE_n hP h10
        exact zlR hP (show (1 : Int32) = i3 1 from rfl) ⟨by omega, by omega⟩
    · replace hP := zE_n hP h9
      exact zlR hP (show (0 : Int32) = i3 0 from rfl) ⟨by omega, by omega⟩
/- yX11_pallet -/
def zx_225 (Z : qz_Z) (a1 : Int) (a2 : Int) : qz_Z × Int × Int := (if 0 ≤ a1 ∧ a1 < (Z 11 0 0 3) then (if 0 ≤ a2 ∧ a2 ≤ 15 then (zlet (zf_108 Z 0 a1 a2) (fun v4 => (Z, v4, 0))) else (Z, 0, 13)) else (Z, 0, 24))
theorem sx_225 {M : Nat} {Z : qz_Z} {ν : qz_N} (hZ : zH ((none, M) : zSM) Z) (hM : ((none, M) : zSM).2 + 0 ≤ 1000000000) {a1 : Int} (ga1 : -2147483648 ≤ a1 ∧ a1 ≤ 2147483647) {a2 : Int} (ga2 : -2147483648 ≤ a2 ∧ a2 ≤ 2147483647) : ∃ (Z1 : qz_Z) (ν1 : qz_N) (v E : Int), (Z1, v, E) = zx_225 Z a1 a2 ∧ qf_225 [.inr (.inr (some (0, 0, 0))), .inl (i3 a1), .inl (i3 a2)] (zm Z ν) = some (zm Z1 ν1, zoX v E) ∧ (fun Z1 ν1 => zH ((none, M) : zSM) Z1 ∧ zC [] Z Z1 ∧ zU [] Z Z1 ∧ zG 1 6 ν ν1) Z1 ν1 := by
  obtain ⟨P, hP⟩ := zx (zx_225 Z a1 a2)
  refine zc_G (Q := fun Z1 ν1 => zH ((none, M) : zSM) Z1 ∧ zC [] Z Z1 ∧ zU [] Z Z1 ∧ zG 1 6 ν ν1) hP (fw_225 (i3 a1) (i3 a2) _ _ ?_)
  replace hP : zE P (zx_225 Z a1 a2) := hP
  unfold zx_225 at hP
  have r1 := zH_k hZ 11 0 0 3 (lo := 0) (hi := 48) (by decide) rfl
  refine wz_thing (rfl : i3 a1 = i3 a1) (zm_rd (Z := Z) (ν := ν) (k := 11) (show ((0 : Nat) : Int) = 0 from rfl) (show ((0 : Nat) : Int) = 0 from rfl) (show ((3 : Nat) : Int) = 3 from rfl)) (by omega) (by omega) (by omega) (by omega) (fun h2 => ?_) (fun h2 => ?_)
  · replace hP := zE_p hP h2
    refine wz_inR (rfl : i3 a2 = i3 a2) (show (0 : Int32) = i3 0 from rfl) (show (15 : Int32) = i3 15 from rfl) (by omega) (by omega) (by omega) (by omega) (by omega) (by omega) (fun h3 => ?_) (fun h3 => ?_)
    · replace hP := zE_p hP h3
      obtain ⟨v4, hv4, c9, lv4, uv4⟩ := sp_108 (ν := ν) hZ 0 (a1 := a1) (by omega) (a2 := a2) (by omega) (zbh (c := 0) (k := 0) hM (Nat.le_of_ble_eq_true rfl))
      replace hP := zl_e hP hv4
      refine wz_cI_of (zas (zcons rfl (zcons (zvi (rfl : i3 a1 = i3 a1)) (zcons (zvi (rfl : i3 a2 = i3 a2)) rfl))) c9) ?_
      clear c9
      exact zlG hP (rfl : i3 v4 = i3 v4) ⟨hZ, zC_r, zU_r, zG_w zG_r (Nat.le_of_ble_eq_true rfl) (Nat.le_of_ble_eq_true rfl)⟩
    · replace hP := zE_n hP h3
      exact zlGe (E := 12) hP ⟨hZ, zC_r, zU_r, zG_w (zG_k rfl) (Nat.le_of_ble_eq_true rfl) (Nat.le_of_ble_eq_true rfl)⟩
  · replace hP := zE_n hP h2
    exact zlGe (E := 23) hP ⟨hZ, zC_r, zU_r, zG_w (zG_k rfl) (Nat.le_of_ble_eq_true rfl) (Nat.le_of_ble_eq_true rfl)⟩
